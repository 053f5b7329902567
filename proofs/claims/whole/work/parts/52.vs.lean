/-! what a sentence makes: VS, RC -/

theorem VS_mk {σ : Sg} (hV : VS σ) {k : Nat} (hk : k < 7) {a b c : Int32} (h : al σ k a b c) : VS (mk σ k a b c) := by
  obtain ⟨v1, v2, v3, v4, v5, v6, v7, v8, v9⟩ := hV
  match k, hk, h with
  | 0, _, h =>
    obtain ⟨h1, ⟨i, hi, rfl⟩, g, hg, rfl⟩ := h
    have e1 : nP (mk σ 0 (nI i) (nI g) c) = nP σ + 1 := rfl
    have e2 : nF (mk σ 0 (nI i) (nI g) c) = nF σ := rfl
    refine ⟨by omega, by omega, ?_, ?_, ?_, ?_, ?_, ?_, ?_⟩
    · intro p hp
      by_cases hpn : p = nP σ
      · subst hpn
        simp [mk, sN, pl_n (show i < 2 ^ 31 by omega), pl_n (show g < 2 ^ 31 by omega)]; omega
      · have := v3 p (by omega)
        simp [mk, sN, hpn]; exact this
    · intro p
      have := v4 p
      simp [mk, sN]; exact this
    · intro p hp
      have := v5 p (by omega)
      simp [mk, sN]; exact this
    · intro q hq
      have := v6 q (by omega)
      rw [e1]
      simp [mk, sN]; omega
    · intro x y hxy
      have := v7 x y hxy
      omega
    · intro d x y hd hxy
      have := v8 d x y hd hxy
      omega
    · intro x y hxy
      have := v9 x y hxy
      omega
  | 1, _, h =>
    obtain ⟨i, j, hi, hj, rfl, rfl, ne, hb⟩ := h
    refine ⟨v1, v2, v3, v4, v5, v6, ?_, ?_, ?_⟩
    · intro x y hxy
      simp [mk, sB, pl_n (show i < 2 ^ 31 by omega), pl_n (show j < 2 ^ 31 by omega)] at hxy
      rcases hxy with ⟨rfl, rfl⟩ | hxy
      · exact ⟨hi, hj⟩
      · exact v7 x y hxy
    · intro d x y hd hxy
      simp [mk, sB] at hxy
      exact v8 d x y hd hxy
    · intro x y hxy
      simp [mk, sB] at hxy
      exact v9 x y hxy
  | 2, _, h =>
    obtain ⟨i, d, j, hi, hd, hj, rfl, rfl, rfl, ne, hb⟩ := h
    refine ⟨v1, v2, v3, v4, v5, v6, ?_, ?_, ?_⟩
    · intro x y hxy
      simp [mk, sB] at hxy
      exact v7 x y hxy
    · intro d' x y hd' hxy
      simp [mk, sB, pl_n (show i < 2 ^ 31 by omega), pl_n (show j < 2 ^ 31 by omega)] at hxy
      rcases hxy with ⟨_, rfl, rfl⟩ | hxy
      · exact ⟨hi, hj⟩
      · exact v8 d' x y hd' hxy
    · intro x y hxy
      simp [mk, sB, pl_n (show d < 2 ^ 31 by omega)] at hxy
      rcases hxy with ⟨q, _⟩ | hxy
      · omega
      · exact v9 x y hxy
  | 3, _, h =>
    obtain ⟨h1, i, j, g, hi, hj, hg, rfl, rfl, rfl, ne⟩ := h
    have e1 : nP (mk σ 3 (nI i) (nI j) (nI g)) = nP σ := rfl
    have e2 : nF (mk σ 3 (nI i) (nI j) (nI g)) = nF σ + 1 := rfl
    refine ⟨by omega, by omega, ?_, ?_, ?_, ?_, ?_, ?_, ?_⟩
    · intro p hp
      have := v3 p (by omega)
      simp [mk, sN]; exact this
    · intro p
      have := v4 p
      simp [mk, sN]; exact this
    · intro p hp
      have := v5 p (by omega)
      simp [mk, sN]; exact this
    · intro q hq
      rw [e1]
      by_cases hqn : q = nF σ
      · subst hqn
        simp [mk, sN, pl_n (show i < 2 ^ 31 by omega), pl_n (show g < 2 ^ 31 by omega), pl_n (show j < 2 ^ 31 by omega)]; omega
      · have := v6 q (by omega)
        simp [mk, sN, hqn]; exact this
    · intro x y hxy
      have := v7 x y hxy
      omega
    · intro d x y hd hxy
      have := v8 d x y hd hxy
      omega
    · intro x y hxy
      have := v9 x y hxy
      omega
  | 4, _, h =>
    obtain ⟨i, d, hi, hd, rfl, rfl, hb⟩ := h
    refine ⟨v1, v2, v3, v4, v5, v6, ?_, ?_, ?_⟩
    · intro x y hxy
      simp [mk, sB] at hxy
      exact v7 x y hxy
    · intro d' x y hd' hxy
      simp [mk, sB] at hxy
      rcases hxy with ⟨q, _⟩ | hxy
      · omega
      · exact v8 d' x y hd' hxy
    · intro x y hxy
      simp [mk, sB, pl_n (show i < 2 ^ 31 by omega), pl_n (show d < 2 ^ 31 by omega)] at hxy
      rcases hxy with ⟨rfl, rfl⟩ | hxy
      · exact ⟨hi, hd⟩
      · exact v9 x y hxy
  | 5, _, h =>
    obtain ⟨i, d, hi, hd, rfl, rfl, hb⟩ := h
    have e1 : nP (mk σ 5 (nI i) (nI d) c) = nP σ := rfl
    have e2 : nF (mk σ 5 (nI i) (nI d) c) = nF σ := rfl
    refine ⟨by omega, by omega, ?_, ?_, ?_, ?_, ?_, ?_, ?_⟩
    · intro p hp
      have := v3 p (by omega)
      simp [mk, sN]; exact this
    · intro p
      have := v4 p
      by_cases hpi : p = i
      · simp [mk, sN, hpi, pl_n (show i < 2 ^ 31 by omega), pl_n (show d < 2 ^ 31 by omega)]
        subst hpi; omega
      · simp [mk, sN, hpi, pl_n (show i < 2 ^ 31 by omega)]; exact this
    · intro p hp
      have := v5 p (by omega)
      simp [mk, sN, show p ≠ i by omega, pl_n (show i < 2 ^ 31 by omega)]; exact this
    · intro q hq
      have := v6 q (by omega)
      rw [e1]
      simp [mk, sN]; omega
    · intro x y hxy
      have := v7 x y hxy
      omega
    · intro d x y hd hxy
      have := v8 d x y hd hxy
      omega
    · intro x y hxy
      have := v9 x y hxy
      omega
  | 6, _, h =>
    obtain ⟨i, d, hi, hd, rfl, rfl⟩ := h
    have e1 : nP (mk σ 6 (nI i) (nI d) c) = nP σ := rfl
    have e2 : nF (mk σ 6 (nI i) (nI d) c) = nF σ := rfl
    refine ⟨by omega, by omega, ?_, ?_, ?_, ?_, ?_, ?_, ?_⟩
    · intro p hp
      have := v3 p (by omega)
      simp [mk, sN]; exact this
    · intro p
      have := v4 p
      by_cases hpi : p = i
      · simp [mk, sN, hpi, pl_n (show i < 2 ^ 31 by omega), pl_n (show d < 2 ^ 31 by omega)]
        subst hpi; omega
      · simp [mk, sN, hpi, pl_n (show i < 2 ^ 31 by omega)]; exact this
    · intro p hp
      have := v5 p (by omega)
      simp [mk, sN, show p ≠ i by omega, pl_n (show i < 2 ^ 31 by omega)]; exact this
    · intro q hq
      have := v6 q (by omega)
      rw [e1]
      simp [mk, sN]; omega
    · intro x y hxy
      have := v7 x y hxy
      omega
    · intro d x y hd hxy
      have := v8 d x y hd hxy
      omega
    · intro x y hxy
      have := v9 x y hxy
      omega
