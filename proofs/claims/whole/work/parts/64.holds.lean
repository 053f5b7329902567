/-! holds, weight, alike -/
section CHOLD
variable {σ : Sg} {kd : Nat → Int32} {gr : Nat → Int64} {cv br hz fm dm e1 e2 fk : Nat → Int32} {pn fn : Int32}
def Hd (σ : Sg) (a b off : Int32) : Prop := ∃ i j, i < nP σ ∧ j < nP σ ∧ a = nI i ∧ b = nI j ∧ bt off i = false ∧ bt (fr σ off (1 <<< (nI i &&& 31)) 10) j = true
theorem c_holds (hV : VS σ) (hR : RC σ kd gr cv br hz fm dm e1 e2 fk pn fn) {a b off : Int32} {post : Int32 → Unit → Prop} (h1 : Hd σ a b off → post 1 ()) (h0 : ¬ Hd σ a b off → post 0 ()) : wp_X5_holds e1 e2 pn fn a b off post := by
  have hn := hV.n10
  have ee := hR.1
  unfold wp_X5_holds
  rw [ee]
  refine k_has _ (by omega) (fun j hj eb => y1 ?_) (fun e => y0 (h0 ?_))
  · subst eb
    rw [← ee]
    refine c_piece hV hR (fun i hi ea hb => ?_) (fun e => ?_)
    · subst ea
      refine c_contains (by omega) (fun g => y1 (h1 ⟨i, j, hi, hj, rfl, rfl, hb, g⟩)) (fun g => y0 (h0 ?_))
      rintro ⟨i', j', q1, q2, q3, q4, q5, q6⟩
      rw [nI_eq (by omega) (by omega)] at q3 q4
      subst q3 q4
      rw [g] at q6; cases q6
    · refine c_contains (by omega) (fun g => ?_) (fun g => y0 (h0 ?_))
      · rw [b_0] at g; cases g
      · rintro ⟨i', j', q1, q2, q3, q4, q5, q6⟩
        exact e ⟨i', q1, q3, q5⟩
  · rintro ⟨i', j', q1, q2, q3, q4, q5, q6⟩
    exact e ⟨j', q2, q4⟩
noncomputable def sm (σ : Sg) (x : Int32) : Nat → Int64
  | 0 => 0
  | q + 1 => if bt x q then sm σ x q + lN (σ.1 2 q) else sm σ x q
theorem c_gramsOf (hV : VS σ) (hR : RC σ kd gr cv br hz fm dm e1 e2 fk pn fn) {x : Int32} {post : Int64 → Unit → Prop} (h : post (sm σ x (nP σ)) ()) : wp_X1_gramsOf gr pn x post := by
  have hn := hV.n10
  unfold wp_X1_gramsOf
  intro A5 c5
  have loop := up (P := fun q => A5 (sm σ x q) (nI q)) (m := 0) (n := nP σ) (by omega) ?_ ?_
  · exact loop
  · refine c5 _ _ ?_
    rw [hR.1]
    exact ye_ (nI_le (by omega) (by omega)) h
  · intro q _ hq ih
    refine c5 _ _ ?_
    rw [hR.1, nI_1]
    refine no_ (nI_ge hq (by omega)) ?_
    refine c_contains (by omega) (fun g => no_ (by decide) ⟨vp_in_nI (by omega) (by omega), ?_⟩) (fun g => y0 ?_)
    · rw [nI_clamp (by omega), (hR.2.2.1 q hq).2.1]
      have : sm σ x (q + 1) = sm σ x q + lN (σ.1 2 q) := if_pos g
      rw [this] at ih; exact ih
    · have : sm σ x (q + 1) = sm σ x q := if_neg (by rw [g]; exact Bool.false_ne_true)
      rw [this] at ih; exact ih
theorem c_Lweight (hV : VS σ) (hR : RC σ kd gr cv br hz fm dm e1 e2 fk pn fn) {ou : Nat → Int64} {p : Int32} {post : Int32 → (Nat → Int64) → Prop} (h1 : ∀ i, i < nP σ → p = nI i → post 0 (vp_updL ou 0 (sm σ (fr σ 0 (1 <<< (nI i &&& 31)) 10) (nP σ)))) (h0 : (¬ ∃ i, i < nP σ ∧ p = nI i) → post 1 ou) : wp_L_weight gr e1 e2 pn fn ou p post := by
  have hn := hV.n10
  have ee := hR.1
  unfold wp_L_weight
  by_cases hx : ∃ i, i < nP σ ∧ p = nI i
  · left
    unfold wp_X5_weight
    rw [ee]
    refine k_has _ (by omega) (fun i hi ea => y1 ?_) (fun e => absurd hx e)
    rw [← ee]
    refine c_piece hV hR (fun i' hi' ea' _ => ?_) (fun e => absurd ⟨i, hi, ea, b_0 i⟩ e)
    refine c_gramsOf hV hR ⟨pk_in 0 1 (by omega), h1 i' hi' ea'⟩
  · right
    refine ⟨?_, h0 hx⟩
    unfold wpT_X5_weightT
    rw [ee]
    exact k_has _ (by omega) (fun i hi ea => absurd ⟨i, hi, ea⟩ hx) (fun e => y0 trivial)
def lkP (σ : Sg) (i q : Nat) : Prop := q ≠ i ∧ σ.1 1 q = σ.1 1 i ∧ σ.1 2 q = σ.1 2 i ∧ ∀ h, h < 8 → σ.2 7 q h = σ.2 7 i h
noncomputable def lkb (σ : Sg) (i q : Nat) : Bool := @ite _ (lkP σ i q) (Classical.propDecidable _) true false
theorem lkb_1 {σ : Sg} {i q : Nat} : lkb σ i q = true ↔ (q ≠ i ∧ σ.1 1 q = σ.1 1 i ∧ σ.1 2 q = σ.1 2 i ∧ ∀ h, h < 8 → σ.2 7 q h = σ.2 7 i h) := by
  show _ ↔ lkP σ i q
  unfold lkb
  by_cases h : lkP σ i q
  · rw [if_pos h]; exact ⟨fun _ => h, fun _ => rfl⟩
  · rw [if_neg h]; exact ⟨fun e => absurd e Bool.false_ne_true, fun e => absurd e h⟩
theorem lkb_0 {σ : Sg} {i q : Nat} : lkb σ i q = false ↔ ¬ (q ≠ i ∧ σ.1 1 q = σ.1 1 i ∧ σ.1 2 q = σ.1 2 i ∧ ∀ h, h < 8 → σ.2 7 q h = σ.2 7 i h) := by
  rw [← lkb_1]
  cases lkb σ i q <;> simp
theorem hz_eq (hV : VS σ) (hR : RC σ kd gr cv br hz fm dm e1 e2 fk pn fn) {q i : Nat} (hq : q < nP σ) (hi : i < nP σ) : hz q = hz i ↔ ∀ h, h < 8 → σ.2 7 q h = σ.2 7 i h := by
  rw [((hR.2.2.1 q hq).2.2.2.2.1).eq_iff ((hR.2.2.1 i hi).2.2.2.2.1)]
  constructor
  · intro h x hx; exact h x (by omega)
  · intro h x hx
    by_cases h8 : x < 8
    · exact h x h8
    · have a1 : σ.2 7 q x = false := by
        cases hh : σ.2 7 q x
        · rfl
        · have := (hV.2.2.2.2.2.2.2.2 q x hh).2; omega
      have a2 : σ.2 7 i x = false := by
        cases hh : σ.2 7 i x
        · rfl
        · have := (hV.2.2.2.2.2.2.2.2 i x hh).2; omega
      rw [a1, a2]
theorem c_alike (hV : VS σ) (hR : RC σ kd gr cv br hz fm dm e1 e2 fk pn fn) {p k : Int32} {post : Int32 → Unit → Prop} (h1 : ∀ i, i < nP σ → p = nI i → post (pick (lkb σ i) k (nP σ) 0 0) ()) (h0 : (¬ ∃ i, i < nP σ ∧ p = nI i) → post (-1) ()) : wp_X5_alike kd gr hz pn p k post := by
  have hn := hV.n10
  have ee := hR.1
  unfold wp_X5_alike wp_X1_partsLike
  intro A14 c14
  rw [ee]
  refine k_has _ (by omega) (fun i hi ea => y1 ?_) (fun e => y0 ?_)
  · subst ea
    have loop := up (P := fun q => A14 (acc (lkb σ i) q) (nI q)) (m := 0) (n := nP σ) (by omega) ?_ ?_
    · exact loop
    · refine c14 _ _ ?_
      rw [ee]
      refine ye_ (nI_le (by omega) (by omega)) ?_
      refine c_memberOf (S := fun j => decide (j < nP σ) && lkb σ i j) (fun j hj => acc_at hn hj) ?_
      rw [pick_10 (S' := lkb σ i) hn (fun j hj => by simp [hj]) (fun j h1 h2 => by simp; omega)]
      exact h1 i hi rfl
    · intro q _ hq ih
      refine c14 _ _ ?_
      have vq : vp_in (nI q) 10 := vp_in_nI (by omega) (by omega)
      have vi : vp_in (nI i) 10 := vp_in_nI (by omega) (by omega)
      obtain ⟨a1, a2, _, _, _⟩ := hR.2.2.1 q hq
      obtain ⟨b1, b2, _, _, _⟩ := hR.2.2.1 i hi
      have g1 := hV.2.2.1 q hq
      have g2 := hV.2.2.1 i hi
      rw [ee, nI_1, nI_clamp (show q < 2 ^ 31 by omega), nI_clamp (show i < 2 ^ 31 by omega), a1, b1, a2, b2, lg_cmp_eq, lN_eq (by omega) (by omega), nI_eq (a := σ.1 1 q) (by omega) (by omega), nI_eq (a := q) (by omega) (by omega), hz_eq hV hR hq hi]
      have no : ¬ (q ≠ i ∧ σ.1 1 q = σ.1 1 i ∧ σ.1 2 q = σ.1 2 i ∧ ∀ h, h < 8 → σ.2 7 q h = σ.2 7 i h) → A14 (acc (lkb σ i) q) (nI (q + 1)) := by
        intro h
        rw [acc_0 (lkb_0.mpr h)] at ih; exact ih
      refine no_ (nI_ge hq (by omega)) ⟨fun e => no (fun h => h.1 e), fun e => ⟨vq, vi, ⟨fun e2 => ⟨vq, vi, ⟨fun e3 => ⟨vq, vi, ⟨fun e4 => ?_, fun e4 => no (fun h => e4 h.2.2.2)⟩⟩, fun e3 => no (fun h => e3 h.2.2.1)⟩⟩, fun e2 => no (fun h => e2 h.2.1)⟩⟩⟩
      rw [acc_1 (lkb_1.mpr ⟨e, e2, e3, e4⟩)] at ih; exact ih
  · refine c_memberOf (S := fun _ => false) (fun i _ => b_0 i) ?_
    rw [pick_none 10 0 0 (fun _ _ _ => rfl)]
    exact h0 e
end CHOLD
section RHOLD
variable {σ : Sg} {mp mg mc mw mf mt mh mm md mk' : Nat → Int32}
theorem st0_0 {off : Int32} {i : Nat} (h : bt off i = false) : st0 off i = 1 <<< (nI i &&& 31) := by
  unfold st0; rw [if_neg (by rw [h]; exact Bool.false_ne_true)]
theorem st0_1 {off : Int32} {i : Nat} (h : bt off i = true) : st0 off i = 0 := by
  unfold st0; rw [if_pos h]
theorem r_holds (hV : VS σ) (hR : RM σ 0 mp mk' mg mc mw mf mt mh mm md) {a b off : Int32} {post : Int32 → Int32 → Prop} (h1 : Hd σ a b off → post 1 0) (h0 : ¬ Hd σ a b off → post 0 0) : wp_X6_holds mp mf mt a b off post := by
  have hn := hV.n10
  unfold wp_X6_holds
  refine r_isPart (f := 0) (by omega) hR hV (fun i hi ea => y1 ?_) (fun e => y0 (h0 ?_))
  · refine r_isPart (f := 0) (by omega) hR hV (fun j hj eb => y1 ?_) (fun e => y0 (h0 ?_))
    · subst ea eb
      have un : ¬ (bt off i = false ∧ bt (fr σ off (1 <<< (nI i &&& 31)) 10) j = true) → ¬ Hd σ (nI i) (nI j) off := by
        rintro q ⟨i', j', q1, q2, q3, q4, q5, q6⟩
        rw [nI_eq (by omega) (by omega)] at q3 q4
        subst q3 q4
        exact q ⟨q5, q6⟩
      refine r_pieceOf hV hR (off := off) (by omega) (fun x hx => l_ofInt off (by omega)) (fun v hv => ?_)
      refine r_isOff (by omega) (fun g => y1 ?_) (fun g => y0 (h0 (un ?_)))
      · rw [hv j (by omega)] at g
        cases hb : bt off i
        · rw [st0_0 hb] at g
          exact h1 ⟨i, j, hi, hj, rfl, rfl, hb, g⟩
        · rw [st0_1 hb, fr_0, b_0] at g; cases g
      · rintro ⟨q1, q2⟩
        rw [hv j (by omega), st0_0 q1, q2] at g; cases g
    · rintro ⟨i', j', q1, q2, q3, q4, q5, q6⟩
      exact e ⟨j', q2, q4⟩
  · rintro ⟨i', j', q1, q2, q3, q4, q5, q6⟩
    exact e ⟨i', q1, q3⟩
theorem l0 : LX 0 0 := fun i _ => by rw [l_0, b_0]
theorem r_weight (hV : VS σ) (hR : RM σ 0 mp mk' mg mc mw mf mt mh mm md) {fa p : Int32} {post : Int64 → Int32 → Prop} (h1 : ∀ i, i < nP σ → p = nI i → post (sm σ (fr σ 0 (1 <<< (nI i &&& 31)) 10) (nP σ)) 0) (h0 : (¬ ∃ i, i < nP σ ∧ p = nI i) → post 0 1) : wp_X6_weight mp mg mf mt fa p post := by
  have hn := hV.n10
  have m0 : mp (0 : Int32).toNatClampNeg = nI (nP σ) := hR.1
  unfold wp_X6_weight
  intro A23 c23
  refine r_isPart (f := 0) (by omega) hR hV (fun i hi ea => y1 ?_) (fun e => y0 ?_)
  · subst ea
    have loop := up (P := fun q => A23 (sm σ (fr σ 0 (1 <<< (nI i &&& 31)) 10) q) (nI q) 0) (m := 0) (n := nP σ) (by omega) ?_ ?_
    · exact loop
    · refine c23 _ _ _ ⟨pk_in 0 2 (by omega), ?_⟩
      rw [m0]
      exact ye_ (nI_le (by omega) (by omega)) (h1 i hi rfl)
    · intro q _ hq ih
      refine c23 _ _ _ ⟨pk_in 0 2 (by omega), ?_⟩
      rw [m0, nI_1]
      refine no_ (nI_ge hq (by omega)) (y0 ?_)
      refine r_pieceOf hV hR (off := 0) (by omega) l0 (fun v hv => ?_)
      rw [st0_0 (b_0 i)] at hv
      refine r_isOff (by omega) (fun g => no_ (by decide) ⟨vp_in_nI (by omega) (by omega), ?_⟩) (fun g => y0 ?_)
      · rw [hv q (by omega)] at g
        have r3 := (hR.2.2.1 q hq).2
        rw [Nat.mul_zero, Nat.zero_add] at r3
        have gg := hV.2.2.1 q hq
        rw [nI_clamp (by omega), r3, nI_l (by omega)]
        have : sm σ (fr σ 0 (1 <<< (nI i &&& 31)) 10) (q + 1) = sm σ (fr σ 0 (1 <<< (nI i &&& 31)) 10) q + lN (σ.1 2 q) := if_pos g
        rw [this] at ih; exact ih
      · rw [hv q (by omega)] at g
        have : sm σ (fr σ 0 (1 <<< (nI i &&& 31)) 10) (q + 1) = sm σ (fr σ 0 (1 <<< (nI i &&& 31)) 10) q := if_neg (by rw [g]; exact Bool.false_ne_true)
        rw [this] at ih
        rw [Int64.add_zero]; exact ih
  · refine c23 _ _ _ ⟨pk_in 0 2 (by omega), ?_⟩
    exact ⟨fun _ => h0 e, fun _ => no_ (by decide) (h0 e)⟩
theorem r_alike (hV : VS σ) (hR : RM σ 0 mp mk' mg mc mw mf mt mh mm md) {fa p k : Int32} {post : Int32 → Int32 → Prop} (h1 : ∀ i, i < nP σ → p = nI i → post (pick (lkb σ i) k (nP σ) 0 0) 0) (h0 : (¬ ∃ i, i < nP σ ∧ p = nI i) → post (-1) 0) : wp_X6_alike mp mk' mg mh fa p k post := by
  have hn := hV.n10
  have m0 : mp (0 : Int32).toNatClampNeg = nI (nP σ) := hR.1
  unfold wp_X6_alike
  intro A10 A78 c10 c78
  by_cases hx : ∃ i, i < nP σ ∧ p = nI i
  · obtain ⟨i, hi, rfl⟩ := hx
    have vi : vp_in (nI i) 20 := vp_in_nI (by omega) (by omega)
    have r3i := hR.2.2.1 i hi
    rw [Nat.mul_zero, Nat.zero_add] at r3i
    have g2 := hV.2.2.1 i hi
    have loop : ∀ n m c, n + m = nP σ → post (pick (lkb σ i) k n m c) 0 → A10 (nI c) (nI m) 0 := by
      intro n
      induction n with
      | zero =>
        intro m c hm hp
        refine c10 _ _ _ ⟨pk_in 0 2 (by omega), ?_⟩
        rw [m0]
        exact ye_ (nI_le (by omega) (by omega)) hp
      | succ n ih =>
        intro m c hm hp
        have hq : m < nP σ := by omega
        have vm : vp_in (nI m) 20 := vp_in_nI (by omega) (by omega)
        have r3 := hR.2.2.1 m hq
        rw [Nat.mul_zero, Nat.zero_add] at r3
        have g1 := hV.2.2.1 m hq
        -- the hazards' loop
        have hzl : ∀ P : Prop, (P ↔ (m ≠ i ∧ σ.1 1 m = σ.1 1 i ∧ σ.1 2 m = σ.1 2 i)) → A78 (nI c) (nI m) (pI P) 0 0 := by
          intro P hP
          have inner := up (P := fun h => A78 (nI c) (nI m) (pI (P ∧ ∀ x, x < h → σ.2 7 m x = σ.2 7 i x)) (nI h) 0) (m := 0) (n := 8) (by omega) ?_ ?_
          · have e0 : (P ∧ ∀ x, x < 0 → σ.2 7 m x = σ.2 7 i x) ↔ P := ⟨fun h => h.1, fun h => ⟨h, fun r hr => absurd hr (Nat.not_lt_zero r)⟩⟩
            simp only [e0, nI_0] at inner
            exact inner
          · have e8 : (P ∧ ∀ x, x < 8 → σ.2 7 m x = σ.2 7 i x) ↔ lkb σ i m = true := by
              rw [lkb_1, hP, and_assoc, and_assoc]
            simp only [e8]
            refine c78 _ _ _ _ _ (ye_ (nI_le (a := 8) (by omega) (by omega)) (pI_wp (fun h => ?_) (fun h => ?_)))
            · rw [pick_s0 (eq_false_of_ne_true h)] at hp
              rw [nI_1]
              exact ih _ _ (by omega) hp
            · rw [pick_s1 h] at hp
              refine ⟨fun q => ?_, fun q => ?_⟩
              · rw [if_pos q] at hp; exact hp
              · rw [if_neg q] at hp
                rw [nI_1, nI_1]
                exact ih _ _ (by omega) hp
          · intro h _ hh ihh
            have i1 : 8 * nI m + nI h = nI (8 * m + h) := ix2 8 m h
            have i2 : 8 * nI i + nI h = nI (8 * i + h) := ix2 8 i h
            have q1 := hR.2.2.2.2.2.1 m h (by omega) hh
            have q2 := hR.2.2.2.2.2.1 i h (by omega) hh
            rw [Nat.mul_zero, Nat.zero_add] at q1 q2
            refine c78 _ _ _ _ _ (no_ (nI_ge (b := 8) hh (by omega)) (pI_wp (fun g => ?_) (fun g => ⟨pk_in (8 * m + h) 160 (by omega) i1, pk_in (8 * i + h) 160 (by omega) i2, ?_⟩)))
            · rw [pI0 (fun g2 => g ⟨g2.1, fun x hx => g2.2 x (by omega)⟩)] at ihh
              rw [nI_1]; exact ihh
            · rw [pk_cl _ i1 (by omega), pk_cl _ i2 (by omega), q1, q2, nI_1]
              have be : bI (σ.2 7 m h) = bI (σ.2 7 i h) ↔ σ.2 7 m h = σ.2 7 i h := by
                cases σ.2 7 m h <;> cases σ.2 7 i h <;> decide
              rw [be]
              refine ⟨fun e => ?_, fun e => ?_⟩
              · rw [pI1 ⟨g.1, fun x hx => by
                  by_cases hxh : x = h
                  · subst hxh; exact e
                  · exact g.2 x (by omega)⟩] at ihh
                exact ihh
              · rw [pI0 (fun g2 => e (g2.2 h (by omega)))] at ihh
                exact ihh
        have f1 : (m ≠ i ∧ σ.1 1 m = σ.1 1 i ∧ σ.1 2 m = σ.1 2 i) → A78 (nI c) (nI m) 1 0 0 := fun h => pI1 (c := True) trivial ▸ hzl True ⟨fun _ => h, fun _ => trivial⟩
        have f0 : ¬ (m ≠ i ∧ σ.1 1 m = σ.1 1 i ∧ σ.1 2 m = σ.1 2 i) → A78 (nI c) (nI m) 0 0 0 := fun h => pI0 (c := False) id ▸ hzl False ⟨False.elim, fun q => h q⟩
        refine c10 _ _ _ ⟨pk_in 0 2 (by omega), ?_⟩
        rw [m0]
        refine no_ (nI_ge (by omega) (by omega)) ?_
        refine r_isPart (f := 0) (by omega) hR hV (fun i' hi' ea => y1 ?_) (fun e => absurd ⟨i, hi, rfl⟩ e)
        rw [nI_clamp (show m < 2 ^ 31 by omega), nI_clamp (show i < 2 ^ 31 by omega), r3.1, r3i.1, r3.2, r3i.2, nI_eq (a := m) (by omega) (by omega), nI_eq (a := σ.1 1 m) (by omega) (by omega), nI_eq (a := σ.1 2 m) (by omega) (by omega)]
        exact ⟨fun e => f0 (fun h => h.1 e), fun e => ⟨vm, vi, ⟨fun e2 => ⟨vm, vi, ⟨fun e3 => f1 ⟨e, e2, e3⟩, fun e3 => f0 (fun h => e3 h.2.2)⟩⟩, fun e2 => f0 (fun h => e2 h.2.1)⟩⟩⟩
    exact loop _ 0 0 rfl (h1 i hi rfl)
  · refine c10 _ _ _ ⟨pk_in 0 2 (by omega), ?_⟩
    exact ⟨fun _ => h0 hx, fun _ => r_isPart (f := 0) (by omega) hR hV (fun i hi ea => absurd ⟨i, hi, ea⟩ hx) (fun e => y0 (h0 hx))⟩
end RHOLD
