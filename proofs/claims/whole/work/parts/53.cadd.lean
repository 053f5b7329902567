/-! the class's changes -/
section CADD
variable {σ : Sg} {kd : Nat → Int32} {gr : Nat → Int64} {cv br hz fm dm e1 e2 fk : Nat → Int32} {pn fn : Int32}
theorem SB.ff {x : Int32} {o : Nat → Bool} (hx : x = 0) (h : ∀ i, i < 10 → o i = false) : SB x o := by
  subst hx
  exact SB.zero.cong (fun i hi => (h i hi).symm)

theorem c_addPart (hV : VS σ) (hR : RC σ kd gr cv br hz fm dm e1 e2 fk pn fn) {a : Int32} {b : Int64} {post : Int32 → ((Nat → Int32) × (Nat → Int64) × (Nat → Int32) × (Nat → Int32) × (Nat → Int32) × (Nat → Int32) × (Nat → Int32) × Int32) → Prop}
    (h1 : ∀ i g kd' gr' cv' br' hz' fm' dm' pn', nP σ < 10 → i < 10 → g < 1000001 → a = nI i → b = lN g → RC (mk σ 0 (nI i) (nI g) 0) kd' gr' cv' br' hz' fm' dm' e1 e2 fk pn' fn → post (nI (nP σ)) (kd', gr', cv', br', hz', fm', dm', pn'))
    (h0 : (¬ (nP σ < 10 ∧ (∃ i, i < 10 ∧ a = nI i) ∧ ∃ g, g < 1000001 ∧ b = lN g)) → post (-1) (kd, gr, cv, br, hz, fm, dm, pn)) : wp_X1_addPart kd gr cv br hz fm dm pn a b post := by
  have hn := hV.n10
  unfold wp_X1_addPart
  intro A44 c44
  refine c_allowsPart hV hR (fun i g hlt hi hg ea eb => y1 ?_) (fun e => y0 (h0 e))
  obtain ⟨r1, r2, r3, r4⟩ := hR
  rw [r1]
  refine ⟨vp_in_nI (by omega) (by omega), vp_in_nI (by omega) (by omega), vp_in_nI (by omega) (by omega), ?_⟩
  rw [nI_clamp (by omega)]
  have loop : ∀ m, m ≤ 6 → ∀ br', (∀ d, d < 6 - m → br' (nP σ * 6 + d) = 0) → (∀ p d, p < nP σ → d < 6 → br' (p * 6 + d) = br (p * 6 + d)) → A44 (nI (nP σ)) (nI (6 - m)) (upd kd (nP σ) a) (vp_updL gr (nP σ) b) (upd cv (nP σ) 0) br' hz fm dm (nI (nP σ)) := by
    intro m
    induction m with
    | zero =>
      intro _ br' hz0 hold
      refine c44 _ _ _ _ _ _ _ _ _ _ (ye_ (nI_le (a := 6) (by omega) (by omega)) ?_)
      refine ⟨vp_in_nI (by omega) (by omega), vp_in_nI (by omega) (by omega), vp_in_nI (by omega) (by omega), ?_⟩
      rw [nI_clamp (by omega), nI_1]
      refine h1 i g _ _ _ _ _ _ _ _ hlt hi hg ea eb ?_
      have hpi := pl_n (show i < 2 ^ 31 by omega)
      have hpg := pl_n (show g < 2 ^ 31 by omega)
      refine ⟨rfl, r2, ?_, ?_⟩
      · intro p hp
        have hp' : p < nP σ + 1 := hp
        by_cases hpn : p = nP σ
        · subst hpn
          refine ⟨?_, ?_, ?_, ?_, ?_, ?_, ?_⟩
          · simp [mk, sN, upd, hpi, ea]
          · simp [mk, sN, vp_updL, hpg, eb]
          · refine SB.ff (by simp [upd]) (fun x hx => ?_)
            cases hb : σ.2 0 x (nP σ)
            · simpa [mk, sN] using hb
            · have := (hV.2.2.2.2.2.2.1 x (nP σ) hb).2; omega
          · intro d hd
            refine SB.ff (hz0 d (by omega)) (fun x hx => ?_)
            cases hb : σ.2 (d + 1) (nP σ) x
            · simpa [mk, sN] using hb
            · have := (hV.2.2.2.2.2.2.2.1 d (nP σ) x hd hb).1; omega
          · refine SB.ff (by simp [upd]) (fun x hx => ?_)
            cases hb : σ.2 7 (nP σ) x
            · simpa [mk, sN] using hb
            · have := (hV.2.2.2.2.2.2.2.2 (nP σ) x hb).1; omega
          · have := (hV.2.2.2.2.1 (nP σ) (by omega)).1
            simp [mk, sN, upd, this]; decide
          · have := (hV.2.2.2.2.1 (nP σ) (by omega)).2
            simp [mk, sN, upd, this]; decide
        · obtain ⟨q1, q2, q3, q4, q5, q6, q7⟩ := r3 p (by omega)
          refine ⟨?_, ?_, ?_, ?_, ?_, ?_, ?_⟩
          · simp [mk, sN, upd, hpn]; exact q1
          · simp [mk, sN, vp_updL, hpn]; exact q2
          · simp [mk, sN, upd, hpn]; exact q3
          · intro d hd
            rw [hold p d (by omega) hd]
            simp [mk, sN]; exact q4 d hd
          · simp [mk, sN, upd, hpn]; exact q5
          · simp [mk, sN, upd, hpn]; exact q6
          · simp [mk, sN, upd, hpn]; exact q7
      · intro q hq
        have hq' : q < nF σ := hq
        have := r4 q hq'
        simp [mk, sN]; exact this
    | succ m ih =>
      intro hm br' hz0 hold
      refine c44 _ _ _ _ _ _ _ _ _ _ (no_ (nI_ge (b := 6) (by omega) (by omega)) ?_)
      refine c_bar _ _ ?_
      refine ⟨vp_in_nI (by omega) (by omega), ?_⟩
      rw [nI_clamp (by omega), nI_1, show 6 - (m + 1) + 1 = 6 - m by omega]
      refine ih (by omega) _ ?_ ?_
      · intro d hd
        by_cases hde : d = 6 - (m + 1)
        · subst hde; exact pk_us
        · rw [pk_un (by omega)]; exact hz0 d (by omega)
      · intro p d hp hd
        rw [pk_un (by omega)]; exact hold p d hp hd
  exact loop 6 (by omega) br (fun d hd => by omega) (fun _ _ _ _ => rfl)

theorem c_addFastening (hV : VS σ) (hR : RC σ kd gr cv br hz fm dm e1 e2 fk pn fn) {a b c : Int32} {post : Int32 → ((Nat → Int32) × (Nat → Int32) × (Nat → Int32) × Int32) → Prop}
    (h1 : ∀ e1' e2' fk' fn', al σ 3 a b c → RC (mk σ 3 a b c) kd gr cv br hz fm dm e1' e2' fk' pn fn' → post (nI (nF σ)) (e1', e2', fk', fn')) (h0 : ¬ al σ 3 a b c → post (-1) (e1, e2, fk, fn)) : wp_X1_addFastening e1 e2 fk pn fn a b c post := by
  have hf := hV.f20
  unfold wp_X1_addFastening
  refine c_allowsFastening hV hR (fun h => y1 ?_) (fun e => y0 (h0 e))
  have hal := h
  obtain ⟨hlt, i, j, g, hi, hj, hg, rfl, rfl, rfl, ne⟩ := h
  obtain ⟨r1, r2, r3, r4⟩ := hR
  have hn := hV.n10
  rw [r2]
  refine ⟨vp_in_nI (by omega) (by omega), vp_in_nI (by omega) (by omega), vp_in_nI (by omega) (by omega), ?_⟩
  rw [nI_clamp (by omega), nI_1]
  refine h1 _ _ _ _ hal ⟨r1, rfl, ?_, ?_⟩
  · intro p hp
    have hp' : p < nP σ := hp
    have := r3 p hp'
    simp [mk, sN]; exact this
  · intro q hq
    have hq' : q < nF σ + 1 := hq
    by_cases hqn : q = nF σ
    · subst hqn
      simp [mk, sN, upd, pl_n (show i < 2 ^ 31 by omega), pl_n (show g < 2 ^ 31 by omega), pl_n (show j < 2 ^ 31 by omega)]
    · have := r4 q (by omega)
      simp [mk, sN, upd, hqn]; exact this
theorem c_addCover (hV : VS σ) (hR : RC σ kd gr cv br hz fm dm e1 e2 fk pn fn) {a b c : Int32} {post : Int32 → (Nat → Int32) → Prop}
    (h1 : ∀ cv', al σ 1 a b c → RC (mk σ 1 a b c) kd gr cv' br hz fm dm e1 e2 fk pn fn → post 1 cv') (h0 : ¬ al σ 1 a b c → post 0 cv) : wp_X1_addCover cv pn a b post := by
  have hn := hV.n10
  unfold wp_X1_addCover
  refine c_allowsCover (c := c) hV hR (fun h => y1 ?_) (fun e => y0 (h0 e))
  have hal := h
  obtain ⟨i, j, hi, hj, rfl, rfl, ne, hb⟩ := h
  obtain ⟨r1, r2, r3, r4⟩ := hR
  refine ⟨vp_in_nI (by omega) (by omega), vp_in_nI (by omega) (by omega), ?_⟩
  rw [nI_clamp (by omega)]
  refine h1 _ hal ⟨r1, r2, ?_, r4⟩
  intro p hp
  obtain ⟨q1, q2, q3, q4, q5, q6, q7⟩ := r3 p hp
  refine ⟨q1, q2, ?_, ?_, ?_, q6, q7⟩
  · by_cases hpj : p = j
    · subst hpj
      rw [pk_us]
      refine (q3.add (show i < 10 by omega)).cong (fun x hx => ?_)
      by_cases hxi : x = i
      · simp [mk, sB, hxi, pl_n (show i < 2 ^ 31 by omega), pl_n (show p < 2 ^ 31 by omega)]
      · simp [mk, sB, hxi, pl_n (show i < 2 ^ 31 by omega), pl_n (show p < 2 ^ 31 by omega)]
    · rw [pk_un hpj]
      refine q3.cong (fun x hx => ?_)
      simp [mk, sB, hpj, pl_n (show j < 2 ^ 31 by omega)]
  · intro d hd
    refine (q4 d hd).cong (fun x hx => ?_)
    simp [mk, sB]
  · refine q5.cong (fun x hx => ?_)
    simp [mk, sB]
theorem c_addBar (hV : VS σ) (hR : RC σ kd gr cv br hz fm dm e1 e2 fk pn fn) {a b c : Int32} {post : Int32 → (Nat → Int32) → Prop}
    (h1 : ∀ br', al σ 2 a b c → RC (mk σ 2 a b c) kd gr cv br' hz fm dm e1 e2 fk pn fn → post 1 br') (h0 : ¬ al σ 2 a b c → post 0 br) : wp_X1_addBar br pn a b c post := by
  have hn := hV.n10
  unfold wp_X1_addBar
  refine c_allowsBar hV hR (fun h => y1 ?_) (fun e => y0 (h0 e))
  have hal := h
  obtain ⟨i, d, j, hi, hd, hj, rfl, rfl, rfl, ne, hb⟩ := h
  obtain ⟨r1, r2, r3, r4⟩ := hR
  refine c_bar i d ?_
  refine ⟨vp_in_nI (by omega) (by omega), vp_in_nI (by omega) (by omega), ?_⟩
  rw [nI_clamp (by omega)]
  refine h1 _ hal ⟨r1, r2, ?_, r4⟩
  intro p hp
  obtain ⟨q1, q2, q3, q4, q5, q6, q7⟩ := r3 p hp
  refine ⟨q1, q2, ?_, ?_, ?_, q6, q7⟩
  · refine q3.cong (fun x hx => ?_)
    simp [mk, sB]
  · intro d' hd'
    by_cases hpj : p = i ∧ d' = d
    · obtain ⟨rfl, rfl⟩ := hpj
      rw [pk_us]
      refine ((q4 d' hd').add (show j < 10 by omega)).cong (fun x hx => ?_)
      by_cases hxi : x = j
      · simp [mk, sB, hxi, pl_n (show j < 2 ^ 31 by omega), pl_n (show p < 2 ^ 31 by omega), pl_n (show d' < 2 ^ 31 by omega)]
      · simp [mk, sB, hxi, pl_n (show j < 2 ^ 31 by omega), pl_n (show p < 2 ^ 31 by omega), pl_n (show d' < 2 ^ 31 by omega)]
    · rw [pk_un (by omega)]
      refine (q4 d' hd').cong (fun x hx => ?_)
      by_cases hpi : p = i
      · have : d' ≠ d := fun e => hpj ⟨hpi, e⟩
        simp [mk, sB, this, pl_n (show d < 2 ^ 31 by omega)]
      · simp [mk, sB, hpi, pl_n (show i < 2 ^ 31 by omega)]
  · refine q5.cong (fun x hx => ?_)
    simp [mk, sB, pl_n (show d < 2 ^ 31 by omega)]
    intro e; omega
theorem c_addHazard (hV : VS σ) (hR : RC σ kd gr cv br hz fm dm e1 e2 fk pn fn) {a b c : Int32} {post : Int32 → (Nat → Int32) → Prop}
    (h1 : ∀ hz', al σ 4 a b c → RC (mk σ 4 a b c) kd gr cv br hz' fm dm e1 e2 fk pn fn → post 1 hz') (h0 : ¬ al σ 4 a b c → post 0 hz) : wp_X1_addHazard hz pn a b post := by
  have hn := hV.n10
  unfold wp_X1_addHazard
  refine c_allowsHazard (c := c) hV hR (fun h => y1 ?_) (fun e => y0 (h0 e))
  have hal := h
  obtain ⟨i, j, hi, hj, rfl, rfl, hb⟩ := h
  obtain ⟨r1, r2, r3, r4⟩ := hR
  refine ⟨vp_in_nI (by omega) (by omega), vp_in_nI (by omega) (by omega), ?_⟩
  rw [nI_clamp (by omega)]
  refine h1 _ hal ⟨r1, r2, ?_, r4⟩
  intro p hp
  obtain ⟨q1, q2, q3, q4, q5, q6, q7⟩ := r3 p hp
  refine ⟨q1, q2, ?_, ?_, ?_, q6, q7⟩
  · refine q3.cong (fun x hx => ?_)
    simp [mk, sB]
  · intro d hd
    refine (q4 d hd).cong (fun x hx => ?_)
    simp [mk, sB]
    intro e; omega
  · by_cases hpj : p = i
    · subst hpj
      rw [pk_us]
      refine (q5.add (show j < 10 by omega)).cong (fun x hx => ?_)
      by_cases hxi : x = j
      · simp [mk, sB, hxi, pl_n (show j < 2 ^ 31 by omega), pl_n (show p < 2 ^ 31 by omega)]
      · simp [mk, sB, hxi, pl_n (show j < 2 ^ 31 by omega), pl_n (show p < 2 ^ 31 by omega)]
    · rw [pk_un hpj]
      refine q5.cong (fun x hx => ?_)
      simp [mk, sB, hpj, pl_n (show i < 2 ^ 31 by omega)]
theorem c_addOption (hV : VS σ) (hR : RC σ kd gr cv br hz fm dm e1 e2 fk pn fn) {a b c : Int32} {post : Int32 → (Nat → Int32) → Prop}
    (h1 : ∀ fm', al σ 5 a b c → RC (mk σ 5 a b c) kd gr cv br hz fm' dm e1 e2 fk pn fn → post 1 fm') (h0 : ¬ al σ 5 a b c → post 0 fm) : wp_X1_addOption fm pn a b post := by
  have hn := hV.n10
  unfold wp_X1_addOption
  refine c_allowsOption (c := c) hV hR (fun h => y1 ?_) (fun e => y0 (h0 e))
  have hal := h
  obtain ⟨i, j, hi, hj, rfl, rfl, hb⟩ := h
  obtain ⟨r1, r2, r3, r4⟩ := hR
  refine ⟨vp_in_nI (by omega) (by omega), ?_⟩
  rw [nI_clamp (by omega)]
  refine h1 _ hal ⟨r1, r2, ?_, ?_⟩
  · intro p hp
    have hp' : p < nP σ := hp
    obtain ⟨q1, q2, q3, q4, q5, q6, q7⟩ := r3 p hp'
    refine ⟨?_, ?_, ?_, ?_, ?_, ?_, ?_⟩
    · simp [mk, sN]; exact q1
    · simp [mk, sN]; exact q2
    · simp [mk, sN]; exact q3
    · simp [mk, sN]; exact q4
    · simp [mk, sN]; exact q5
    · by_cases hpi : p = i
      · subst hpi
        rw [pk_us]
        simp [mk, sN, pl_n (show j < 2 ^ 31 by omega), pl_n (show p < 2 ^ 31 by omega), nI_pred]
      · rw [pk_un hpi]
        simp [mk, sN, hpi, pl_n (show i < 2 ^ 31 by omega)]; exact q6
    · simp [mk, sN]; exact q7
  · intro q hq
    have hq' : q < nF σ := hq
    have := r4 q hq'
    simp [mk, sN]; exact this
theorem c_setDamage (hV : VS σ) (hR : RC σ kd gr cv br hz fm dm e1 e2 fk pn fn) {a b c : Int32} {post : Int32 → (Nat → Int32) → Prop}
    (h1 : ∀ dm', al σ 6 a b c → RC (mk σ 6 a b c) kd gr cv br hz fm dm' e1 e2 fk pn fn → post (nI (σ.1 4 (pl a))) dm') (h0 : ¬ al σ 6 a b c → post (-1) dm) : wp_X1_setDamage dm pn a b post := by
  have hn := hV.n10
  unfold wp_X1_setDamage
  refine c_allowsDamage (c := c) hV hR (fun h => y1 ?_) (fun e => y0 (h0 e))
  have hal := h
  obtain ⟨i, j, hi, hj, rfl, rfl⟩ := h
  obtain ⟨r1, r2, r3, r4⟩ := hR
  refine ⟨vp_in_nI (by omega) (by omega), vp_in_nI (by omega) (by omega), ?_⟩
  rw [nI_clamp (by omega), (r3 i hi).2.2.2.2.2.2]
  rw [pl_n (by omega)] at h1
  refine h1 _ hal ⟨r1, r2, ?_, ?_⟩
  · intro p hp
    have hp' : p < nP σ := hp
    obtain ⟨q1, q2, q3, q4, q5, q6, q7⟩ := r3 p hp'
    refine ⟨?_, ?_, ?_, ?_, ?_, ?_, ?_⟩
    · simp [mk, sN]; exact q1
    · simp [mk, sN]; exact q2
    · simp [mk, sN]; exact q3
    · simp [mk, sN]; exact q4
    · simp [mk, sN]; exact q5
    · simp [mk, sN]; exact q6
    · by_cases hpi : p = i
      · subst hpi
        rw [pk_us]
        simp [mk, sN, pl_n (show j < 2 ^ 31 by omega), pl_n (show p < 2 ^ 31 by omega)]
      · rw [pk_un hpi]
        simp [mk, sN, hpi, pl_n (show i < 2 ^ 31 by omega)]; exact q7
  · intro q hq
    have hq' : q < nF σ := hq
    have := r4 q hq'
    simp [mk, sN]; exact this
end CADD
