/-! clear and take of the reference -/
/-- the product with no part -/
def σ0 : Sg := (fun _ _ => 0, fun _ _ _ => false)
theorem VS0 : VS σ0 := ⟨Nat.zero_le _, Nat.zero_le _, fun p h => absurd h (Nat.not_lt_zero p), fun _ => ⟨Nat.zero_le _, Nat.zero_lt_succ _⟩, fun _ _ => ⟨rfl, rfl⟩, fun k h => absurd h (Nat.not_lt_zero k), fun _ _ h => absurd h Bool.false_ne_true, fun _ _ _ _ h => absurd h Bool.false_ne_true, fun _ _ h => absurd h Bool.false_ne_true⟩
/-- a loop that sets row k + base by g k, k below n -/
theorem up {P : Nat → Prop} {m n : Nat} (h : m ≤ n) (hend : P n) (hstep : ∀ i, m ≤ i → i < n → P (i + 1) → P i) : P m := by
  obtain ⟨d, rfl⟩ := Nat.exists_eq_add_of_le h
  clear h
  induction d generalizing m with
  | zero => exact hend
  | succ d ih =>
    refine hstep m (Nat.le_refl _) (by omega) ?_
    refine ih (m := m + 1) (by rw [show m + 1 + d = m + (d + 1) by omega]; exact hend) (fun i h1 h2 => hstep i (by omega) (by omega))
/-- rows after j steps of such a loop -/
def fil (r : Nat → Int32) (base : Nat) (g : Nat → Int32) (j : Nat) : Nat → Int32 := fun x => if base ≤ x ∧ x < base + j then g (x - base) else r x
theorem fil_0 (r : Nat → Int32) (base : Nat) (g : Nat → Int32) : fil r base g 0 = r := by
  funext x; unfold fil; rw [if_neg (by omega)]
theorem fil_s (r : Nat → Int32) (base : Nat) (g : Nat → Int32) (j : Nat) : upd (fil r base g j) (base + j) (g j) = fil r base g (j + 1) := by
  funext x
  show (if x = base + j then g j else (if base ≤ x ∧ x < base + j then g (x - base) else r x)) = (if base ≤ x ∧ x < base + (j + 1) then g (x - base) else r x)
  by_cases h : x = base + j
  · subst h
    rw [if_pos rfl, if_pos (by omega), Nat.add_sub_cancel_left]
  · rw [if_neg h]
    by_cases h2 : base ≤ x ∧ x < base + j
    · rw [if_pos h2, if_pos (by omega)]
    · rw [if_neg h2, if_neg (by omega)]
theorem fil_in {r : Nat → Int32} {base : Nat} {g : Nat → Int32} {j x : Nat} (h : x < j) : fil r base g j (base + x) = g x := by
  unfold fil; rw [if_pos (by omega), Nat.add_sub_cancel_left]
theorem fil_out {r : Nat → Int32} {base : Nat} {g : Nat → Int32} {j x : Nat} (h : x < base ∨ base + j ≤ x) : fil r base g j x = r x := by
  unfold fil; rw [if_neg (by omega)]
section RCLEAR
variable {f : Nat} {mp mg mc mw mf mt mh mm md mk' : Nat → Int32}
theorem r_clear (hf : f < 2) {post : ((Nat → Int32) × (Nat → Int32) × (Nat → Int32) × (Nat → Int32) × (Nat → Int32) × (Nat → Int32) × (Nat → Int32)) → Prop}
    (h : ∀ mp2 mc2 mw2 mf2 mh2 mm2 md2, (∀ mk' mg mt, RM σ0 f mp2 mk' mg mc2 mw2 mf2 mt mh2 mm2 md2) → (∀ f' mk' mg mt, KP f f' mp mk' mg mc mw mf mt mh mm md mp2 mk' mg mc2 mw2 mf2 mt mh2 mm2 md2) → post (mp2, mc2, mw2, mf2, mh2, mm2, md2)) : wp_X6_clear mp mc mw mf mh mm md (nI f) post := by
  unfold wp_X6_clear
  intro A16 A42 A70 A96 c16 c42 c70 c96
  refine ⟨vp_in_nI hf (by omega), vp_in_nI hf (by omega), ?_⟩
  rw [nI_clamp (by omega)]
  have i1 : ∀ v, (100 * nI f) + nI v = nI (100 * f + v) := fun v => ix2 100 f v
  have i2 : ∀ v, (600 * nI f) + nI v = nI (600 * f + v) := fun v => ix2 600 f v
  have i3 : ∀ v, (80 * nI f) + nI v = nI (80 * f + v) := fun v => ix2 80 f v
  have i4 : ∀ v, (10 * nI f) + nI v = nI (10 * f + v) := fun v => ix2 10 f v
  have l4 := up (P := fun j => A96 (nI j) (upd mp f 0) (fil mc (100 * f) (fun _ => 0) 100) (fil mw (600 * f) (fun _ => 0) 600) (upd mf f 0) (fil mh (80 * f) (fun _ => 0) 80) (fil mm (10 * f) (fun _ => -1) j) (fil md (10 * f) (fun _ => 0) j)) (m := 0) (n := 10) (by omega) ?_ ?_
  · have l3 := up (P := fun j => A70 (nI j) (upd mp f 0) (fil mc (100 * f) (fun _ => 0) 100) (fil mw (600 * f) (fun _ => 0) 600) (upd mf f 0) (fil mh (80 * f) (fun _ => 0) j) mm md) (m := 0) (n := 80) (by omega) ?_ ?_
    · have l2 := up (P := fun j => A42 (nI j) (upd mp f 0) (fil mc (100 * f) (fun _ => 0) 100) (fil mw (600 * f) (fun _ => 0) j) (upd mf f 0) mh mm md) (m := 0) (n := 600) (by omega) ?_ ?_
      · have l1 := up (P := fun j => A16 (nI j) (upd mp f 0) (fil mc (100 * f) (fun _ => 0) j) mw (upd mf f 0) mh mm md) (m := 0) (n := 100) (by omega) ?_ ?_
        · rw [fil_0] at l1; exact l1
        · refine c16 _ _ _ _ _ _ _ _ (ye_ (nI_le (a := 100) (by omega) (by omega)) ?_)
          rw [fil_0] at l2; exact l2
        · intro i _ hi ih
          refine c16 _ _ _ _ _ _ _ _ (no_ (nI_ge (b := 100) hi (by omega)) ?_)
          rw [i1, nI_clamp (by omega), na0, fil_s _ _ (fun _ => 0), nI_1]
          exact ⟨vp_in_nI (by omega) (by omega), ih⟩
      · refine c42 _ _ _ _ _ _ _ _ (ye_ (nI_le (a := 600) (by omega) (by omega)) ?_)
        rw [fil_0] at l3; exact l3
      · intro i _ hi ih
        refine c42 _ _ _ _ _ _ _ _ (no_ (nI_ge (b := 600) hi (by omega)) ?_)
        rw [i2, nI_clamp (by omega), na0, fil_s _ _ (fun _ => 0), nI_1]
        exact ⟨vp_in_nI (by omega) (by omega), ih⟩
    · refine c70 _ _ _ _ _ _ _ _ (ye_ (nI_le (a := 80) (by omega) (by omega)) ?_)
      rw [fil_0, fil_0] at l4; exact l4
    · intro i _ hi ih
      refine c70 _ _ _ _ _ _ _ _ (no_ (nI_ge (b := 80) hi (by omega)) ?_)
      rw [i3, nI_clamp (by omega), na0, fil_s _ _ (fun _ => 0), nI_1]
      exact ⟨vp_in_nI (by omega) (by omega), ih⟩
  · refine c96 _ _ _ _ _ _ _ _ (ye_ (nI_le (a := 10) (by omega) (by omega)) ?_)
    refine h _ _ _ _ _ _ _ ?_ ?_
    · intro mk' mg mt
      refine ⟨pk_us, pk_us, fun p hp => absurd hp (Nat.not_lt_zero p), ?_, ?_, ?_, ?_, fun p hp => absurd hp (Nat.not_lt_zero p)⟩
      · intro a b ha hb
        rw [Nat.add_assoc, fil_in (by omega)]; rfl
      · intro d p q hd hp hq
        rw [show 600 * f + 100 * d + 10 * p + q = 600 * f + (100 * d + 10 * p + q) by omega, fil_in (by omega)]; rfl
      · intro p q hp hq
        rw [Nat.add_assoc, fil_in (by omega)]; rfl
      · intro p hp
        rw [fil_in hp, fil_in hp]; exact ⟨(by decide : (-1 : Int32) = nI 0 - 1), rfl⟩
    · intro f' mk' mg mt hne hf'
      exact ⟨pk_un hne, pk_un hne, fun p hp => ⟨rfl, rfl, fil_out (by omega), fil_out (by omega)⟩, fun q hq => fil_out (by omega), fun q hq => fil_out (by omega), fun q hq => fil_out (by omega), fun _ _ => rfl⟩
  · intro i _ hi ih
    refine c96 _ _ _ _ _ _ _ _ (no_ (nI_ge (b := 10) hi (by omega)) ?_)
    rw [i4, nI_clamp (by omega), fil_s _ _ (fun _ => 0), fil_s _ _ (fun _ => -1), nI_1]
    exact ⟨vp_in_nI (by omega) (by omega), vp_in_nI (by omega) (by omega), ih⟩
theorem na_b {x : Int32} (h : x = 0 ∨ x = 1) : vp_nar .boolean x = x := by
  rcases h with rfl | rfl <;> rfl
theorem bI_01 (b : Bool) : bI b = 0 ∨ bI b = 1 := by cases b <;> simp [bI]
theorem r_take {σ : Sg} (hV : VS σ) (hR : RM σ 1 mp mk' mg mc mw mf mt mh mm md) {post : ((Nat → Int32) × (Nat → Int32) × (Nat → Int32) × (Nat → Int32) × (Nat → Int32) × (Nat → Int32) × (Nat → Int32) × (Nat → Int32) × (Nat → Int32) × (Nat → Int32)) → Prop}
    (h : ∀ mp2 mk2 mg2 mc2 mw2 mf2 mt2 mh2 mm2 md2, RM σ 0 mp2 mk2 mg2 mc2 mw2 mf2 mt2 mh2 mm2 md2 → post (mp2, mk2, mg2, mc2, mw2, mf2, mt2, mh2, mm2, md2)) : wp_X6_take mp mk' mg mc mw mf mt mh mm md post := by
  have hn := hV.n10
  have hff := hV.f20
  obtain ⟨r1, r2, r3, r4, r5, r6, r7, r8⟩ := hR
  unfold wp_X6_take
  intro A26 A55 A86 A115 A189 c26 c55 c86 c115 c189
  refine ⟨pk_in 1 2 (by omega), pk_in 0 2 (by omega), pk_in 1 2 (by omega), pk_in 0 2 (by omega), ?_⟩
  have b4 : ∀ x, x < 100 → vp_nar .boolean (mc (100 + x)) = mc (100 + x) := by
    intro x hx
    have := r4 (x / 10) (x % 10) (by omega) (by omega)
    rw [show 100 * 1 + 10 * (x / 10) + x % 10 = 100 + x by omega] at this
    exact na_b (this ▸ bI_01 _)
  have b5 : ∀ x, x < 600 → vp_nar .boolean (mw (600 + x)) = mw (600 + x) := by
    intro x hx
    have := r5 (x / 100) (x % 100 / 10) (x % 10) (by omega) (by omega) (by omega)
    rw [show 600 * 1 + 100 * (x / 100) + 10 * (x % 100 / 10) + x % 10 = 600 + x by omega] at this
    exact na_b (this ▸ bI_01 _)
  have b6 : ∀ x, x < 80 → vp_nar .boolean (mh (80 + x)) = mh (80 + x) := by
    intro x hx
    have := r6 (x / 8) (x % 8) (by omega) (by omega)
    rw [show 80 * 1 + 8 * (x / 8) + x % 8 = 80 + x by omega] at this
    exact na_b (this ▸ bI_01 _)
  have i1 : ∀ v, 100 + nI v = nI (100 + v) := fun v => nI_add 100 v
  have i2 : ∀ v, 600 + nI v = nI (600 + v) := fun v => nI_add 600 v
  have i3 : ∀ v, 80 + nI v = nI (80 + v) := fun v => nI_add 80 v
  have i4 : ∀ v, 10 + nI v = nI (10 + v) := fun v => nI_add 10 v
  have i5 : ∀ v, 60 + nI v = nI (60 + v) := fun v => nI_add 60 v
  have fs : ∀ (r : Nat → Int32) (g : Nat → Int32) (j : Nat), upd (fil r 0 g j) j (g j) = fil r 0 g (j + 1) := by
    intro r g j
    have := fil_s r 0 g j
    rwa [Nat.zero_add] at this
  have fo : ∀ (r : Nat → Int32) (g : Nat → Int32) (j x : Nat), j ≤ x → fil r 0 g j x = r x := fun r g j x h => fil_out (by omega)
  have fi : ∀ (r : Nat → Int32) (g : Nat → Int32) (j x : Nat), x < j → fil r 0 g j x = g x := by
    intro r g j x h
    have := @fil_in r 0 g j x h
    rwa [Nat.zero_add] at this
  let MP := upd mp (0 : Int32).toNatClampNeg (mp (1 : Int32).toNatClampNeg)
  let MF := upd mf (0 : Int32).toNatClampNeg (mf (1 : Int32).toNatClampNeg)
  let gc : Nat → Int32 := fun x => mc (100 + x)
  let gw : Nat → Int32 := fun x => mw (600 + x)
  let gh : Nat → Int32 := fun x => mh (80 + x)
  let gk : Nat → Int32 := fun x => mk' (10 + x)
  let gg : Nat → Int32 := fun x => mg (10 + x)
  let gm : Nat → Int32 := fun x => mm (10 + x)
  let gd : Nat → Int32 := fun x => md (10 + x)
  let gt : Nat → Int32 := fun x => mt (60 + x)
  have l5 := up (P := fun j => A189 (nI j) MP (fil mk' 0 gk 10) (fil mg 0 gg 10) (fil mc 0 gc 100) (fil mw 0 gw 600) MF (fil mt 0 gt j) (fil mh 0 gh 80) (fil mm 0 gm 10) (fil md 0 gd 10)) (m := 0) (n := 60) (by omega) ?_ ?_
  · have l4 := up (P := fun j => A115 (nI j) MP (fil mk' 0 gk j) (fil mg 0 gg j) (fil mc 0 gc 100) (fil mw 0 gw 600) MF mt (fil mh 0 gh 80) (fil mm 0 gm j) (fil md 0 gd j)) (m := 0) (n := 10) (by omega) ?_ ?_
    · have l3 := up (P := fun j => A86 (nI j) MP mk' mg (fil mc 0 gc 100) (fil mw 0 gw 600) MF mt (fil mh 0 gh j) mm md) (m := 0) (n := 80) (by omega) ?_ ?_
      · have l2 := up (P := fun j => A55 (nI j) MP mk' mg (fil mc 0 gc 100) (fil mw 0 gw j) MF mt mh mm md) (m := 0) (n := 600) (by omega) ?_ ?_
        · have l1 := up (P := fun j => A26 (nI j) MP mk' mg (fil mc 0 gc j) mw MF mt mh mm md) (m := 0) (n := 100) (by omega) ?_ ?_
          · rw [fil_0] at l1; exact l1
          · refine c26 _ _ _ _ _ _ _ _ _ _ _ (ye_ (nI_le (a := 100) (by omega) (by omega)) ?_)
            rw [fil_0] at l2; exact l2
          · intro i _ hi ih
            refine c26 _ _ _ _ _ _ _ _ _ _ _ (no_ (nI_ge (b := 100) hi (by omega)) ?_)
            rw [i1, nI_clamp (show 100 + i < 2 ^ 31 by omega), nI_clamp (show i < 2 ^ 31 by omega), fo _ _ _ _ (by omega), b4 i hi, fs mc gc i, nI_1]
            exact ⟨vp_in_nI (by omega) (by omega), vp_in_nI (by omega) (by omega), ih⟩
        · refine c55 _ _ _ _ _ _ _ _ _ _ _ (ye_ (nI_le (a := 600) (by omega) (by omega)) ?_)
          rw [fil_0] at l3; exact l3
        · intro i _ hi ih
          refine c55 _ _ _ _ _ _ _ _ _ _ _ (no_ (nI_ge (b := 600) hi (by omega)) ?_)
          rw [i2, nI_clamp (show 600 + i < 2 ^ 31 by omega), nI_clamp (show i < 2 ^ 31 by omega), fo _ _ _ _ (by omega), b5 i hi, fs mw gw i, nI_1]
          exact ⟨vp_in_nI (by omega) (by omega), vp_in_nI (by omega) (by omega), ih⟩
      · refine c86 _ _ _ _ _ _ _ _ _ _ _ (ye_ (nI_le (a := 80) (by omega) (by omega)) ?_)
        rw [fil_0, fil_0, fil_0, fil_0] at l4; exact l4
      · intro i _ hi ih
        refine c86 _ _ _ _ _ _ _ _ _ _ _ (no_ (nI_ge (b := 80) hi (by omega)) ?_)
        rw [i3, nI_clamp (show 80 + i < 2 ^ 31 by omega), nI_clamp (show i < 2 ^ 31 by omega), fo _ _ _ _ (by omega), b6 i hi, fs mh gh i, nI_1]
        exact ⟨vp_in_nI (by omega) (by omega), vp_in_nI (by omega) (by omega), ih⟩
    · refine c115 _ _ _ _ _ _ _ _ _ _ _ (ye_ (nI_le (a := 10) (by omega) (by omega)) ?_)
      rw [fil_0] at l5; exact l5
    · intro i _ hi ih
      refine c115 _ _ _ _ _ _ _ _ _ _ _ (no_ (nI_ge (b := 10) hi (by omega)) ?_)
      have v1 : vp_in (nI (10 + i)) 20 := vp_in_nI (by omega) (by omega)
      have v2 : vp_in (nI i) 20 := vp_in_nI (by omega) (by omega)
      rw [i4, nI_clamp (show 10 + i < 2 ^ 31 by omega), nI_clamp (show i < 2 ^ 31 by omega), fo mk' _ _ _ (by omega), fo mg _ _ _ (by omega), fo mm _ _ _ (by omega), fo md _ _ _ (by omega), fs mk' gk i, fs mg gg i, fs mm gm i, fs md gd i, nI_1]
      exact ⟨v1, v2, v1, v2, v1, v2, v1, v2, ih⟩
  · refine c189 _ _ _ _ _ _ _ _ _ _ _ (ye_ (nI_le (a := 60) (by omega) (by omega)) ?_)
    refine h _ _ _ _ _ _ _ _ _ _ ⟨?_, ?_, ?_, ?_, ?_, ?_, ?_, ?_⟩
    · exact r1
    · exact r2
    · intro p hp
      rw [Nat.mul_zero, Nat.zero_add, fi _ _ _ _ (by omega), fi _ _ _ _ (by omega)]
      exact r3 p hp
    · intro a b ha hb
      rw [Nat.mul_zero, Nat.zero_add, fi _ _ _ _ (by omega)]
      have := r4 a b ha hb
      rwa [Nat.mul_one, Nat.add_assoc] at this
    · intro d p q hd hp hq
      rw [Nat.mul_zero, Nat.zero_add, fi _ _ _ _ (by omega)]
      have := r5 d p q hd hp hq
      rwa [Nat.mul_one, Nat.add_assoc, Nat.add_assoc, ← Nat.add_assoc (100 * d)] at this
    · intro p q hp hq
      rw [Nat.mul_zero, Nat.zero_add, fi _ _ _ _ (by omega)]
      have := r6 p q hp hq
      rwa [Nat.mul_one, Nat.add_assoc] at this
    · intro p hp
      rw [Nat.mul_zero, Nat.zero_add, fi _ _ _ _ (by omega), fi _ _ _ _ (by omega)]
      exact r7 p hp
    · intro q hq
      rw [Nat.mul_zero, Nat.zero_add, fi _ _ _ _ (by omega), fi _ _ _ _ (by omega), fi _ _ _ _ (by omega)]
      have := r8 q hq
      rwa [Nat.mul_one, Nat.add_assoc, Nat.add_assoc] at this
  · intro i _ hi ih
    refine c189 _ _ _ _ _ _ _ _ _ _ _ (no_ (nI_ge (b := 60) hi (by omega)) ?_)
    rw [i5, nI_clamp (show 60 + i < 2 ^ 31 by omega), nI_clamp (show i < 2 ^ 31 by omega), fo _ _ _ _ (by omega), fs mt gt i, nI_1]
    exact ⟨vp_in_nI (by omega) (by omega), vp_in_nI (by omega) (by omega), ih⟩
end RCLEAR
