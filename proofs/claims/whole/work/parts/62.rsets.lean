/-! the reference's sets -/
theorem r_isOff {v : Int64} {i : Nat} (hi : i < 64) {post : Int32 → Unit → Prop} (h1 : bl v i = true → post 1 ()) (h0 : bl v i = false → post 0 ()) : wp_X6_isOff v (nI i) post := by
  unfold wp_X6_isOff
  rw [l_has v hi]
  cases hb : bl v i
  · exact no_ (by decide) (h0 hb)
  · exact ye_ (by decide) (h1 hb)
def LX (v : Int64) (x : Int32) : Prop := ∀ i, i < 10 → bl v i = bt x i
noncomputable def pI (c : Prop) : Int32 := @ite _ c (Classical.propDecidable _) 1 0
theorem pI1 {c : Prop} (h : c) : pI c = 1 := if_pos h
theorem pI0 {c : Prop} (h : ¬ c) : pI c = 0 := if_neg h
theorem pI_wp {c A B : Prop} (h0 : ¬ c → A) (h1 : c → B) : (pI c = 0 → A) ∧ (¬ pI c = 0 → B) := by
  by_cases h : c
  · rw [pI1 h]; exact no_ (by decide) (h1 h)
  · rw [pI0 h]; exact ye_ rfl (h0 h)
theorem pI_nb (c : Prop) : narrow .boolean (.int (pI c)) = .int (pI c) := by
  by_cases h : c
  · rw [pI1 h]; rfl
  · rw [pI0 h]; rfl
section RSET
variable {σ : Sg} {mp mg mc mw mf mt mh mm md mk' : Nat → Int32}
theorem ixC0 (q i : Nat) : (10 * nI q) + nI i = nI (10 * q + i) := ix2 10 q i
theorem r_isPlain (hV : VS σ) (hR : RM σ 0 mp mk' mg mc mw mf mt mh mm md) {i : Nat} (hi : i < nP σ) {v : Int64} {x : Int32} (hX : LX v x) {post : Int32 → Unit → Prop} (h1 : Pl σ x i → post 1 ()) (h0 : ¬ Pl σ x i → post 0 ()) : wp_X6_isPlain mp mc (nI i) v post := by
  have hn := hV.n10
  have m0 : mp (0 : Int32).toNatClampNeg = nI (nP σ) := hR.1
  unfold wp_X6_isPlain
  intro A18 c18
  have loop := up (P := fun q => A18 (pI (bt x i = false ∧ ∀ r, r < q → σ.2 0 r i = true → bt x r = true)) (nI q)) (m := 0) (n := nP σ) (by omega) ?_ ?_
  · have e0 : (bt x i = false ∧ ∀ r, r < 0 → σ.2 0 r i = true → bt x r = true) ↔ bt x i = false := ⟨fun h => h.1, fun h => ⟨h, fun r hr => absurd hr (Nat.not_lt_zero r)⟩⟩
    simp only [e0, nI_0] at loop
    refine r_isOff (by omega) (fun e => no_ (by decide) ?_) (fun e => y0 ?_)
    · rw [hX i (by omega)] at e
      rw [pI0 (by rw [e]; exact Bool.noConfusion)] at loop
      exact loop
    · rw [hX i (by omega)] at e
      rw [pI1 e] at loop
      exact loop
  · refine c18 _ _ ⟨pk_in 0 2 (by omega), ?_⟩
    rw [m0]
    refine ye_ (nI_le (by omega) (by omega)) ⟨pI_nb _, ?_⟩
    have : (bt x i = false ∧ ∀ r, r < nP σ → σ.2 0 r i = true → bt x r = true) ↔ Pl σ x i := ⟨fun h => ⟨h.1, fun r hr hb => h.2 r (hV.2.2.2.2.2.2.1 r i hb).1 hb⟩, fun h => ⟨h.1, fun r hr hb => h.2 r (by omega) hb⟩⟩
    simp only [this]
    by_cases hp : Pl σ x i
    · rw [pI1 hp]; exact h1 hp
    · rw [pI0 hp]; exact h0 hp
  · intro q _ hq ih
    refine c18 _ _ ⟨pk_in 0 2 (by omega), ?_⟩
    rw [m0]
    refine no_ (nI_ge hq (by omega)) (pI_wp (fun h => ?_) (fun h => ?_))
    · rw [pI0 (fun g => h ⟨g.1, fun r hr => g.2 r (by omega)⟩)] at ih
      rw [nI_1]; exact ih
    · have e := ixC0 q i
      have r4 := hR.2.2.2.1 q i (by omega) (by omega)
      rw [Nat.mul_zero, Nat.zero_add] at r4
      refine ⟨pk_in (10 * q + i) 200 (by omega) e, ?_⟩
      rw [pk_cl _ e (by omega), r4, bI0, nI_1]
      refine ⟨fun g => ?_, fun g => ?_⟩
      · rw [pI1 ⟨h.1, fun r hr hb => by
          by_cases hrq : r = q
          · subst hrq; rw [g] at hb; cases hb
          · exact h.2 r (by omega) hb⟩] at ih
        exact ih
      · have g' : σ.2 0 q i = true := eq_true_of_ne_false g
        refine r_isOff (by omega) (fun e => no_ (by decide) ?_) (fun e => y0 ?_)
        · rw [hX q (by omega)] at e
          rw [pI1 ⟨h.1, fun r hr hb => by
            by_cases hrq : r = q
            · subst hrq; exact e
            · exact h.2 r (by omega) hb⟩] at ih
          exact ih
        · rw [hX q (by omega)] at e
          rw [pI0 (fun k => by have := k.2 q (by omega) g'; rw [e] at this; cases this)] at ih
          exact ih
theorem ixW0 (i d j : Nat) : (((600 * (0 : Int32)) + (100 * nI d)) + (10 * nI i)) + nI j = nI (100 * d + 10 * i + j) := by
  have := ixW 0 i d j
  rw [Nat.mul_zero, Nat.zero_add, nI_0] at this
  exact this
theorem r_isFree (hV : VS σ) (hR : RM σ 0 mp mk' mg mc mw mf mt mh mm md) {i : Nat} (hi : i < nP σ) {v : Int64} {x : Int32} (hX : LX v x) {post : Int32 → Unit → Prop} (h1 : Fr σ x i → post 1 ()) (h0 : ¬ Fr σ x i → post 0 ()) : wp_X6_isFree mp mc mw (nI i) v post := by
  have hn := hV.n10
  have m0 : mp (0 : Int32).toNatClampNeg = nI (nP σ) := hR.1
  unfold wp_X6_isFree
  intro A6 A19 c6 c19
  have hC : ∀ d, d < 6 → ((∀ q, q < nP σ → σ.2 (d + 1) i q = true → bt x q = true) ↔ ∀ q, q < 10 → σ.2 (d + 1) i q = true → bt x q = true) := fun d hd => ⟨fun h q hq hb => h q (hV.2.2.2.2.2.2.2.1 d i q hd hb).2 hb, fun h q hq hb => h q (by omega) hb⟩
  have loop := up (P := fun d => A6 (pI (∃ d', d' < d ∧ ∀ q, q < 10 → σ.2 (d' + 1) i q = true → bt x q = true)) (nI d)) (m := 0) (n := 6) (by omega) ?_ ?_
  · rw [pI0 (by rintro ⟨d, hd, _⟩; omega), nI_0] at loop
    exact loop
  · refine c6 _ _ (ye_ (nI_le (a := 6) (by omega) (by omega)) (pI_wp (fun h => h0 (fun g => h g.2)) (fun h => ?_)))
    refine r_isPlain hV hR hi hX (fun g => no_ (by decide) (h1 ⟨g, h⟩)) (fun g => y0 (h0 (fun k => g k.1)))
  · intro d _ hd ih
    refine c6 _ _ (no_ (nI_ge (b := 6) hd (by omega)) ?_)
    have inner := up (P := fun q => A19 (pI (∃ d', d' < d ∧ ∀ q, q < 10 → σ.2 (d' + 1) i q = true → bt x q = true)) (nI d) (pI (∀ r, r < q → σ.2 (d + 1) i r = true → bt x r = true)) (nI q)) (m := 0) (n := nP σ) (by omega) ?_ ?_
    · rw [pI1 (c := ∀ r, r < 0 → σ.2 (d + 1) i r = true → bt x r = true) (fun r hr => absurd hr (Nat.not_lt_zero r)), nI_0] at inner
      exact inner
    · refine c19 _ _ _ _ ⟨pk_in 0 2 (by omega), ?_⟩
      rw [m0]
      refine ye_ (nI_le (by omega) (by omega)) (pI_wp (fun h => pI_wp (fun g => ?_) (fun g => ?_)) (fun h => ?_))
      · rw [pI0 (by
          rintro ⟨d', q1, q2⟩
          by_cases hdd : d' = d
          · subst hdd; exact g ((hC d' hd).mpr q2)
          · exact h ⟨d', by omega, q2⟩)] at ih
        rw [nI_1]; exact ih
      · rw [pI1 ⟨d, by omega, (hC d hd).mp g⟩] at ih
        rw [nI_1]; exact ih
      · rw [pI1 (by obtain ⟨d', q1, q2⟩ := h; exact ⟨d', by omega, q2⟩)] at ih
        rw [nI_1]; exact ih
    · intro q _ hq ihq
      refine c19 _ _ _ _ ⟨pk_in 0 2 (by omega), ?_⟩
      rw [m0]
      refine no_ (nI_ge hq (by omega)) (pI_wp (fun h => ?_) (fun h => ?_))
      · rw [pI0 (c := ∀ r, r < q + 1 → σ.2 (d + 1) i r = true → bt x r = true) (fun g => h (fun r hr => g r (by omega)))] at ihq
        rw [nI_1]; exact ihq
      · have e := ixW0 i d q
        have r5 := hR.2.2.2.2.1 d i q hd (by omega) (by omega)
        rw [Nat.mul_zero, Nat.zero_add] at r5
        unfold wp_X6_wayAt
        refine ⟨pk_in (100 * d + 10 * i + q) 1200 (by omega) e, ?_⟩
        rw [pk_cl _ e (by omega), r5, bI0, nI_1]
        refine ⟨fun g => ?_, fun g => ?_⟩
        · rw [pI1 (c := ∀ r, r < q + 1 → σ.2 (d + 1) i r = true → bt x r = true) (fun r hr hb => by
            by_cases hrq : r = q
            · subst hrq; rw [g] at hb; cases hb
            · exact h r (by omega) hb)] at ihq
          exact ihq
        · have g' : σ.2 (d + 1) i q = true := eq_true_of_ne_false g
          refine r_isOff (by omega) (fun e => no_ (by decide) ?_) (fun e => y0 ?_)
          · rw [hX q (by omega)] at e
            rw [pI1 (c := ∀ r, r < q + 1 → σ.2 (d + 1) i r = true → bt x r = true) (fun r hr hb => by
              by_cases hrq : r = q
              · subst hrq; exact e
              · exact h r (by omega) hb)] at ihq
            exact ihq
          · rw [hX q (by omega)] at e
            rw [pI0 (c := ∀ r, r < q + 1 → σ.2 (d + 1) i r = true → bt x r = true) (fun k => by have := k q (by omega) g'; rw [e] at this; cases this)] at ihq
            exact ihq
theorem LX.add {v : Int64} {x : Int32} (h : LX v x) {p : Nat} (hp : p < 10) : LX (v ||| (1 <<< ((nI p).toInt64 &&& 63))) (x ||| (1 <<< (nI p &&& 31))) := fun i hi => by
  rw [l_or, b_or, h i hi, l_pow (by omega) (by omega), b_pow (by omega) (by omega)]
theorem or0 (v : Int64) : v ||| 0 = v := l_ext (fun i _ => by rw [l_or, l_0, Bool.or_false])
theorem r_allOff (hV : VS σ) (hR : RM σ 0 mp mk' mg mc mw mf mt mh mm md) {kept : Int32} {post : Int64 → Unit → Prop} (h : ∀ v, LX v (rd σ kept 10) → post v ()) : wp_X6_allOff mp mc mw kept post := by
  have hn := hV.n10
  have m0 : mp (0 : Int32).toNatClampNeg = nI (nP σ) := hR.1
  unfold wp_X6_allOff
  intro A5 A15 c5 c15
  have loop := up (P := fun t => ∀ v, LX v (rd σ kept t) → A5 v (nI t)) (m := 0) (n := 10) (by omega) ?_ ?_
  · exact loop 0 (fun i _ => by rw [l_0]; exact (b_0 i).symm)
  · intro v hv
    exact c5 _ _ (ye_ (nI_le (a := 10) (by omega) (by omega)) (h v hv))
  · intro t _ ht ih v hv
    refine c5 _ _ (no_ (nI_ge (b := 10) ht (by omega)) ?_)
    have inner := up (P := fun p => ∀ v, LX v (sw σ kept (rd σ kept t) p) → A15 v (nI t) (nI p)) (m := 0) (n := nP σ) (by omega) ?_ ?_
    · exact inner v hv
    · intro w hw
      refine c15 _ _ _ ⟨pk_in 0 2 (by omega), ?_⟩
      rw [m0, nI_1]
      exact ye_ (nI_le (by omega) (by omega)) (ih w hw)
    · intro p _ hp ihp w hw
      refine c15 _ _ _ ⟨pk_in 0 2 (by omega), ?_⟩
      rw [m0, nI_1 p, or0]
      refine no_ (nI_ge hp (by omega)) ⟨fun e => ?_, fun e => ?_⟩
      · have : sw σ kept (rd σ kept t) (p + 1) = sw σ kept (rd σ kept t) p := if_neg (fun q => q.1 e)
        exact ihp w (this ▸ hw)
      · refine r_isFree hV hR hp hw (fun g => no_ (by decide) ?_) (fun g => y0 ?_)
        · have : sw σ kept (rd σ kept t) (p + 1) = sw σ kept (rd σ kept t) p ||| (1 <<< (nI p &&& 31)) := if_pos ⟨e, g⟩
          refine ihp _ ?_
          rw [this]
          exact hw.add (by omega)
        · have : sw σ kept (rd σ kept t) (p + 1) = sw σ kept (rd σ kept t) p := if_neg (fun q => g q.2)
          exact ihp w (this ▸ hw)
theorem r_ring (hV : VS σ) (hR : RM σ 0 mp mk' mg mc mw mf mt mh mm md) {fa k : Int32} {post : Int32 → Int32 → Prop} (h : post (pick (fun i => !bt (rd σ (-1) 10) i) k (nP σ) 0 0) 0) : wp_X6_ring mp mc mw fa k post := by
  have hn := hV.n10
  have m0 : mp (0 : Int32).toNatClampNeg = nI (nP σ) := hR.1
  unfold wp_X6_ring
  intro A17 c17
  refine r_allOff hV hR (fun v hv => ?_)
  have loop : ∀ n m c, n + m = nP σ → post (pick (fun i => !bt (rd σ (-1) 10) i) k n m c) 0 → A17 v (nI c) (nI m) 0 := by
    intro n
    induction n with
    | zero =>
      intro m c hm hp
      refine c17 _ _ _ _ ⟨pk_in 0 2 (by omega), ?_⟩
      rw [m0]
      exact ye_ (nI_le (by omega) (by omega)) hp
    | succ n ih =>
      intro m c hm hp
      refine c17 _ _ _ _ ⟨pk_in 0 2 (by omega), ?_⟩
      rw [m0, nI_1, nI_1]
      refine no_ (nI_ge (by omega) (by omega)) ?_
      refine r_isOff (by omega) (fun e => no_ (by decide) ?_) (fun e => y0 ?_)
      · rw [hv m (by omega)] at e
        rw [pick_s0 (by simp [e])] at hp
        exact ih _ _ (by omega) hp
      · rw [hv m (by omega)] at e
        rw [pick_s1 (by simp [e])] at hp
        refine ⟨fun q => ?_, fun q => ?_⟩
        · rw [if_pos q] at hp; exact hp
        · rw [if_neg q] at hp; exact ih _ _ (by omega) hp
  exact loop _ 0 0 rfl h
theorem r_before (hV : VS σ) (hR : RM σ 0 mp mk' mg mc mw mf mt mh mm md) {fa p k : Int32} {post : Int32 → Int32 → Prop}
    (h1 : ∀ i, i < nP σ → p = nI i → bt (rd σ (-1) 10) i = true → post (pick (fun q => decide (q ≠ i) && !bt (rd σ (nI q) 10) i) k (nP σ) 0 0) 0)
    (h0 : (¬ ∃ i, i < nP σ ∧ p = nI i ∧ bt (rd σ (-1) 10) i = true) → post (-1) 0) : wp_X6_before mp mc mw fa p k post := by
  have hn := hV.n10
  have m0 : mp (0 : Int32).toNatClampNeg = nI (nP σ) := hR.1
  unfold wp_X6_before
  intro A33 c33
  refine r_isPart (f := 0) (by omega) hR hV (fun i hi ea => y1 ?_) (fun e => y0 (h0 ?_))
  · subst ea
    refine r_allOff hV hR (fun v hv => ?_)
    refine r_isOff (by omega) (fun e => y1 ?_) (fun e => y0 (h0 ?_))
    · rw [hv i (by omega)] at e
      have loop : ∀ n m c, n + m = nP σ → post (pick (fun q => decide (q ≠ i) && !bt (rd σ (nI q) 10) i) k n m c) 0 → A33 (nI c) (nI m) 0 := by
        intro n
        induction n with
        | zero =>
          intro m c hm hp
          refine c33 _ _ _ ⟨pk_in 0 2 (by omega), ?_⟩
          rw [m0]
          exact ye_ (nI_le (by omega) (by omega)) hp
        | succ n ih =>
          intro m c hm hp
          refine c33 _ _ _ ⟨pk_in 0 2 (by omega), ?_⟩
          rw [m0, nI_1, nI_1]
          refine no_ (nI_ge (by omega) (by omega)) ⟨fun q => ?_, fun q => ?_⟩
          · rw [nI_eq (by omega) (by omega)] at q
            rw [pick_s0 (by simp [q])] at hp
            exact ih _ _ (by omega) hp
          · rw [nI_eq (by omega) (by omega)] at q
            refine r_allOff hV hR (fun w hw => ?_)
            refine r_isOff (by omega) (fun g => y1 ?_) (fun g => y0 ?_)
            · rw [hw i (by omega)] at g
              rw [pick_s0 (by simp [g])] at hp
              exact ih _ _ (by omega) hp
            · rw [hw i (by omega)] at g
              rw [pick_s1 (by simp [g, q])] at hp
              refine ⟨fun q => ?_, fun q => ?_⟩
              · rw [if_pos q] at hp; exact hp
              · rw [if_neg q] at hp; exact ih _ _ (by omega) hp
      exact loop _ 0 0 rfl (h1 i hi rfl e)
    · rintro ⟨i', q1, q2, q3⟩
      rw [nI_eq (by omega) (by omega)] at q2
      subst q2
      rw [hv i (by omega)] at e
      rw [e] at q3; cases q3
  · rintro ⟨i', q1, q2, q3⟩
    exact e ⟨i', q1, q2⟩
end RSET
