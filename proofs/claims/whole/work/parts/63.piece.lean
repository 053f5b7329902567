/-! what hangs together -/
noncomputable def fs1 (σ : Sg) (off x : Int32) (k : Nat) : Int32 := @ite _ ((bt off (σ.1 5 k) = false ∧ bt off (σ.1 6 k) = false) ∧ (bt x (σ.1 5 k) = true ∨ bt x (σ.1 6 k) = true)) (Classical.propDecidable _) (x ||| ((1 <<< (nI (σ.1 5 k) &&& 31)) ||| (1 <<< (nI (σ.1 6 k) &&& 31)))) x
noncomputable def fw (σ : Sg) (off x : Int32) : Nat → Int32
  | 0 => x
  | k + 1 => fs1 σ off (fw σ off x k) k
noncomputable def fr (σ : Sg) (off x : Int32) : Nat → Int32
  | 0 => x
  | r + 1 => fw σ off (fr σ off x r) (nF σ)
theorem fr_fix {σ : Sg} {off x : Int32} {r : Nat} (h : fr σ off x (r + 1) = fr σ off x r) : ∀ d, fr σ off x (r + d) = fr σ off x r
  | 0 => rfl
  | d + 1 => by
    show fw σ off (fr σ off x (r + d)) (nF σ) = _
    rw [fr_fix h d]; exact h
theorem fw_0 {σ : Sg} {off : Int32} : ∀ k, fw σ off 0 k = 0
  | 0 => rfl
  | k + 1 => by
    show fs1 σ off (fw σ off 0 k) k = 0
    rw [fw_0 k]
    unfold fs1
    rw [if_neg (by rw [b_0, b_0]; rintro ⟨_, h | h⟩ <;> cases h)]
theorem fr_0 {σ : Sg} {off : Int32} : ∀ r, fr σ off 0 r = 0
  | 0 => rfl
  | r + 1 => by
    show fw σ off (fr σ off 0 r) (nF σ) = 0
    rw [fr_0 r]; exact fw_0 _
theorem ends_0 {a b : Nat} (ha : a < 10) (hb : b < 10) (y : Int32) : (((1 <<< (nI a &&& 31)) ||| (1 <<< (nI b &&& 31))) &&& y) = 0 ↔ bt y a = false ∧ bt y b = false := by
  rw [((SB.one ha).or (SB.one hb)).and0]
  constructor
  · intro h
    have h1 := h a ha
    have h2 := h b hb
    cases q1 : bt y a <;> cases q2 : bt y b <;> simp_all
  · rintro ⟨h1, h2⟩ i hi ⟨h3, h4⟩
    simp at h3
    rcases h3 with rfl | rfl
    · rw [h1] at h4; cases h4
    · rw [h2] at h4; cases h4
section CPIECE
variable {σ : Sg} {kd : Nat → Int32} {gr : Nat → Int64} {cv br hz fm dm e1 e2 fk : Nat → Int32} {pn fn : Int32}
theorem c_piece (hV : VS σ) (hR : RC σ kd gr cv br hz fm dm e1 e2 fk pn fn) {p off : Int32} {post : Int32 → Unit → Prop} (h1 : ∀ i, i < nP σ → p = nI i → bt off i = false → post (fr σ off (1 <<< (nI i &&& 31)) 10) ()) (h0 : (¬ ∃ i, i < nP σ ∧ p = nI i ∧ bt off i = false) → post 0 ()) : wp_X1_piece e1 e2 pn fn p off post := by
  have hn := hV.n10
  have hf := hV.f20
  unfold wp_X1_piece
  intro A25 A38 c25 c38
  rw [hR.1]
  refine k_has _ (by omega) (fun i hi ea => y1 ?_) (fun e => y0 (h0 ?_))
  · subst ea
    refine c_contains (by omega) (fun e => y1 (h0 ?_)) (fun e => y0 ?_)
    · rintro ⟨i', q1, q2, q3⟩
      rw [nI_eq (by omega) (by omega)] at q2
      subst q2
      rw [e] at q3; cases q3
    · have h := h1 i hi rfl e
      have loop : ∀ m, m ≤ 10 → A25 (fr σ off (1 <<< (nI i &&& 31)) (10 - m)) (nI (10 - m)) := by
        intro m
        induction m with
        | zero =>
          intro _
          exact c25 _ _ (ye_ (nI_le (a := 10) (by omega) (by omega)) h)
        | succ m ih =>
          intro hm
          refine c25 _ _ (no_ (nI_ge (b := 10) (by omega) (by omega)) ?_)
          have inner := up (P := fun j => A38 (fw σ off (fr σ off (1 <<< (nI i &&& 31)) (10 - (m + 1))) j) (nI (10 - (m + 1))) (fr σ off (1 <<< (nI i &&& 31)) (10 - (m + 1))) (nI j)) (m := 0) (n := nF σ) (by omega) ?_ ?_
          · exact inner
          · refine c38 _ _ _ _ ?_
            rw [hR.2.1]
            refine ye_ (nI_le (by omega) (by omega)) ⟨fun e => ?_, fun e => ?_⟩
            · have e' : fr σ off (1 <<< (nI i &&& 31)) (10 - (m + 1) + 1) = fr σ off (1 <<< (nI i &&& 31)) (10 - (m + 1)) := e
              have := fr_fix e' (m + 1)
              rw [show 10 - (m + 1) + (m + 1) = 10 by omega] at this
              rw [e, ← this]; exact h
            · rw [nI_1, show 10 - (m + 1) + 1 = 10 - m by omega]
              have := ih (by omega)
              rw [show 10 - m = 10 - (m + 1) + 1 by omega] at this ⊢
              exact this
          · intro k _ hk ihh
            have hends := hV.2.2.2.2.2.1 k hk
            refine c38 _ _ _ _ ?_
            rw [hR.2.1]
            refine no_ (nI_ge hk (by omega)) ⟨vp_in_nI (by omega) (by omega), vp_in_nI (by omega) (by omega), ?_⟩
            intro y hy
            rw [nI_clamp (by omega), (hR.2.2.2 k hk).1, (hR.2.2.2 k hk).2.1] at hy
            subst hy
            rw [ends_0 (by omega) (by omega), ends_0 (by omega) (by omega), nI_1]
            have st : fw σ off (fr σ off (1 <<< (nI i &&& 31)) (10 - (m + 1))) (k + 1) = fs1 σ off (fw σ off (fr σ off (1 <<< (nI i &&& 31)) (10 - (m + 1))) k) k := rfl
            rw [st] at ihh
            unfold fs1 at ihh
            refine ⟨fun q => ⟨fun g => ?_, fun g => ?_⟩, fun q => ?_⟩
            · rw [if_neg (by rintro ⟨_, r | r⟩; rw [g.1] at r; cases r; rw [g.2] at r; cases r)] at ihh
              exact ihh
            · rw [if_pos ⟨q, by
                cases q1 : bt (fw σ off (fr σ off (1 <<< (nI i &&& 31)) (10 - (m + 1))) k) (σ.1 5 k)
                · cases q2 : bt (fw σ off (fr σ off (1 <<< (nI i &&& 31)) (10 - (m + 1))) k) (σ.1 6 k)
                  · exact absurd ⟨q1, q2⟩ g
                  · exact Or.inr rfl
                · exact Or.inl rfl⟩] at ihh
              exact ihh
            · rw [if_neg (fun r => q r.1)] at ihh
              exact ihh
      exact loop 10 (by omega)
  · rintro ⟨i', q1, q2, q3⟩
    exact e ⟨i', q1, q2⟩
end CPIECE
section RPIECE
variable {σ : Sg} {mp mg mc mw mf mt mh mm md mk' : Nat → Int32}
theorem LX.add2 {v : Int64} {x : Int32} (h : LX v x) {p q : Nat} (hp : p < 10) (hq : q < 10) : LX (v ||| ((1 <<< ((nI p).toInt64 &&& 63)) ||| (1 <<< ((nI q).toInt64 &&& 63)))) (x ||| ((1 <<< (nI p &&& 31)) ||| (1 <<< (nI q &&& 31)))) := fun i hi => by
  rw [l_or, l_or, b_or, b_or, h i hi, l_pow (by omega) (by omega), b_pow (by omega) (by omega), l_pow (by omega) (by omega), b_pow (by omega) (by omega)]
noncomputable def st0 (off : Int32) (i : Nat) : Int32 := @ite _ (bt off i = true) (Classical.propDecidable _) 0 (1 <<< (nI i &&& 31))
theorem r_pieceOf (hV : VS σ) (hR : RM σ 0 mp mk' mg mc mw mf mt mh mm md) {i : Nat} (hi : i < 10) {o : Int64} {off : Int32} (hO : LX o off) {post : Int64 → Unit → Prop} (h : ∀ v, LX v (fr σ off (st0 off i) 10) → post v ()) : wp_X6_pieceOf mf mt (nI i) o post := by
  have hn := hV.n10
  have hf := hV.f20
  have m0 : mf (0 : Int32).toNatClampNeg = nI (nF σ) := hR.2.1
  unfold wp_X6_pieceOf
  intro A20 A30 c20 c30
  have loop := up (P := fun t => ∀ v, LX v (fr σ off (st0 off i) t) → A20 v (nI t)) (m := 0) (n := 10) (by omega) ?_ ?_
  · refine r_isOff (by omega) (fun e => no_ (by decide) ?_) (fun e => y0 ?_)
    · rw [hO i hi] at e
      refine loop _ ?_
      show LX 0 (st0 off i)
      unfold st0
      rw [if_pos e]
      intro j _; rw [l_0]; exact (b_0 j).symm
    · rw [hO i hi] at e
      refine loop _ ?_
      show LX _ (st0 off i)
      unfold st0
      rw [if_neg (by rw [e]; exact Bool.false_ne_true)]
      intro j hj
      rw [l_pow (by omega) (by omega), b_pow (by omega) (by omega)]
  · intro v hv
    exact c20 _ _ (ye_ (nI_le (a := 10) (by omega) (by omega)) (h v hv))
  · intro t _ ht ih v hv
    refine c20 _ _ (no_ (nI_ge (b := 10) ht (by omega)) ?_)
    have inner := up (P := fun k => ∀ v, LX v (fw σ off (fr σ off (st0 off i) t) k) → A30 v (nI t) (nI k)) (m := 0) (n := nF σ) (by omega) ?_ ?_
    · exact inner v hv
    · intro w hw
      refine c30 _ _ _ ⟨pk_in 0 2 (by omega), ?_⟩
      rw [m0, nI_1]
      exact ye_ (nI_le (by omega) (by omega)) (ih w hw)
    · intro k _ hk ihk w hw
      have hends := hV.2.2.2.2.2.1 k hk
      have r8 := hR.2.2.2.2.2.2.2 k hk
      rw [Nat.mul_zero, Nat.zero_add] at r8
      have a1 : 3 * nI k = nI (3 * k) := pk_mul 3 k
      have a2 : 3 * nI k + 1 = nI (3 * k + 1) := by rw [a1, nI_1]
      refine c30 _ _ _ ⟨pk_in 0 2 (by omega), ?_⟩
      rw [m0, nI_1 k, or0, pk_cl _ a2 (by omega), pk_cl _ a1 (by omega), r8.1, r8.2.1]
      have st : fw σ off (fr σ off (st0 off i) t) (k + 1) = fs1 σ off (fw σ off (fr σ off (st0 off i) t) k) k := rfl
      rw [st] at ihk
      unfold fs1 at ihk
      refine no_ (nI_ge hk (by omega)) ⟨pk_in (3 * k) 120 (by omega) a1, pk_in (3 * k + 1) 120 (by omega) a2, ?_⟩
      refine r_isOff (by omega) (fun g1 => no_ (by decide) (ye_ rfl ?_)) (fun g1 => y0 ?_)
      · rw [hO _ (by omega)] at g1
        rw [if_neg (by rintro ⟨⟨q, _⟩, _⟩; rw [g1] at q; cases q)] at ihk
        exact ihk w hw
      refine r_isOff (by omega) (fun g2 => no_ (by decide) (ye_ rfl ?_)) (fun g2 => y0 ?_)
      · rw [hO _ (by omega)] at g2
        rw [if_neg (by rintro ⟨⟨_, q⟩, _⟩; rw [g2] at q; cases q)] at ihk
        exact ihk w hw
      rw [hO _ (by omega)] at g1 g2
      refine r_isOff (by omega) (fun g3 => no_ (by decide) (no_ (by decide) ?_)) (fun g3 => y0 ?_)
      · rw [hw _ (by omega)] at g3
        rw [if_pos ⟨⟨g1, g2⟩, Or.inl g3⟩] at ihk
        intro y hy
        subst hy
        exact ihk _ (hw.add2 (by omega) (by omega))
      refine r_isOff (by omega) (fun g4 => no_ (by decide) (no_ (by decide) ?_)) (fun g4 => y0 (ye_ rfl ?_))
      · rw [hw _ (by omega)] at g4
        rw [if_pos ⟨⟨g1, g2⟩, Or.inr g4⟩] at ihk
        intro y hy
        subst hy
        exact ihk _ (hw.add2 (by omega) (by omega))
      · rw [hw _ (by omega)] at g3 g4
        rw [if_neg (by rintro ⟨_, q | q⟩; rw [g3] at q; cases q; rw [g4] at q; cases q)] at ihk
        exact ihk w hw
end RPIECE
