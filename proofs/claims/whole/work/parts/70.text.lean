/-! TEXT: words and numbers -/
def sb (c : Nat) : Int32 := (nI c).toInt8.toInt32
theorem sb_32 : ∀ c, c < 256 → (sb c = 32 ↔ c = 32) := by decide +kernel
theorem sb_10 : ∀ c, c < 256 → (sb c = 10 ↔ c = 10) := by decide +kernel
theorem sb_and : ∀ c, c < 256 → (sb c &&& 255) = nI c := by decide +kernel
theorem sb_neg : ∀ c, c < 256 → (sb c - 48 < 0 ↔ ¬ (48 ≤ c ∧ c < 128)) := by decide +kernel
theorem sb_le : ∀ c, c < 256 → (48 ≤ c ∧ c < 128) → (sb c - 48 ≤ 9 ↔ c ≤ 57) := by decide +kernel
theorem sb_val : ∀ c, c < 256 → (48 ≤ c ∧ c ≤ 57) → sb c - 48 = nI (c - 48) := by decide +kernel
theorem sb_nar (c : Nat) : vp_nar .byte (sb c) = sb c := by
  rw [vp_nar_byte]
  show (nI c).toInt8.toInt32.toInt8.toInt32 = _
  simp [sb]
def Tx (t : Nat → Nat) (L : Nat) (tx : Nat → Int32) (ln : Int32) : Prop := L ≤ 2000 ∧ ln = nI L ∧ ∀ k, k < L → t k < 256 ∧ tx k = nI (t k)
def Mx (t : Nat → Nat) (L : Nat) (mx : Nat → Int32) (sz : Int32) : Prop := L ≤ 2000 ∧ sz = nI L ∧ ∀ k, k < L → t k < 256 ∧ mx k = sb (t k)
def gp (t : Nat → Nat) (k : Nat) : Prop := t k = 32 ∨ t k = 10
noncomputable def nbf (t : Nat → Nat) : Nat → Nat → Nat
  | 0, k => k
  | n + 1, k => @ite _ (gp t k) (Classical.propDecidable _) (nbf t n (k + 1)) k
noncomputable def nb (t : Nat → Nat) (L k : Nat) : Nat := nbf t (L - k) k
noncomputable def nef (t : Nat → Nat) : Nat → Nat → Nat
  | 0, k => k
  | n + 1, k => @ite _ (gp t k) (Classical.propDecidable _) k (nef t n (k + 1))
noncomputable def ne (t : Nat → Nat) (L k : Nat) : Nat := nef t (L - k) k
theorem nbf_b (t : Nat → Nat) : ∀ n k, k ≤ nbf t n k ∧ nbf t n k ≤ k + n ∧ (nbf t n k < k + n → ¬ gp t (nbf t n k))
  | 0, k => ⟨Nat.le_refl _, Nat.le_refl _, fun h => absurd h (by show ¬ k < k + 0; omega)⟩
  | n + 1, k => by
    by_cases h : gp t k
    · have e : nbf t (n + 1) k = nbf t n (k + 1) := if_pos h
      have := nbf_b t n (k + 1)
      rw [e]
      exact ⟨by omega, by omega, fun q => this.2.2 (by omega)⟩
    · have e : nbf t (n + 1) k = k := if_neg h
      rw [e]
      exact ⟨by omega, by omega, fun _ => h⟩
theorem nef_b (t : Nat → Nat) : ∀ n k, k ≤ nef t n k ∧ nef t n k ≤ k + n
  | 0, k => ⟨Nat.le_refl _, Nat.le_refl _⟩
  | n + 1, k => by
    by_cases h : gp t k
    · have e : nef t (n + 1) k = k := if_pos h
      rw [e]; omega
    · have e : nef t (n + 1) k = nef t n (k + 1) := if_neg h
      have := nef_b t n (k + 1)
      rw [e]; omega
theorem nb_ge (t : Nat → Nat) (L k : Nat) : k ≤ nb t L k := (nbf_b t _ k).1
theorem nb_le {t : Nat → Nat} {L k : Nat} (h : k ≤ L) : nb t L k ≤ L := by
  have := (nbf_b t (L - k) k).2.1
  unfold nb; omega
theorem nb_gp {t : Nat → Nat} {L k : Nat} (h : nb t L k < L) : ¬ gp t (nb t L k) := by
  have h1 := nbf_b t (L - k) k
  unfold nb at h ⊢
  exact h1.2.2 (by omega)
theorem ne_ge (t : Nat → Nat) (L k : Nat) : k ≤ ne t L k := (nef_b t _ k).1
theorem ne_le {t : Nat → Nat} {L k : Nat} (h : k ≤ L) : ne t L k ≤ L := by
  have := (nef_b t (L - k) k).2
  unfold ne; omega
theorem ne_gt {t : Nat → Nat} {L k : Nat} (h : k < L) (hg : ¬ gp t k) : k < ne t L k := by
  unfold ne
  rw [show L - k = (L - (k + 1)) + 1 by omega]
  have e : nef t (L - (k + 1) + 1) k = nef t (L - (k + 1)) (k + 1) := if_neg hg
  have := nef_b t (L - (k + 1)) (k + 1)
  rw [e]; omega
theorem nb_s1 {t : Nat → Nat} {L k : Nat} (h : k < L) (hg : gp t k) : nb t L k = nb t L (k + 1) := by
  unfold nb
  rw [show L - k = (L - (k + 1)) + 1 by omega]
  exact if_pos hg
theorem nb_s0 {t : Nat → Nat} {L k : Nat} (h : k < L) (hg : ¬ gp t k) : nb t L k = k := by
  unfold nb
  rw [show L - k = (L - (k + 1)) + 1 by omega]
  exact if_neg hg
theorem nb_end {t : Nat → Nat} {L k : Nat} (h : L ≤ k) : nb t L k = k := by
  unfold nb
  rw [show L - k = 0 by omega]; rfl
theorem ne_s1 {t : Nat → Nat} {L k : Nat} (h : k < L) (hg : gp t k) : ne t L k = k := by
  unfold ne
  rw [show L - k = (L - (k + 1)) + 1 by omega]
  exact if_pos hg
theorem ne_s0 {t : Nat → Nat} {L k : Nat} (h : k < L) (hg : ¬ gp t k) : ne t L k = ne t L (k + 1) := by
  unfold ne
  rw [show L - k = (L - (k + 1)) + 1 by omega]
  exact if_neg hg
theorem ne_end {t : Nat → Nat} {L k : Nat} (h : L ≤ k) : ne t L k = k := by
  unfold ne
  rw [show L - k = 0 by omega]; rfl
section TXT
variable {t : Nat → Nat} {L : Nat} {tx mx : Nat → Int32} {ln sz : Int32}
theorem c_isBlankAt (hT : Tx t L tx ln) {k : Nat} (hk : k < L) {post : Int32 → Unit → Prop} (h1 : gp t k → post 1 ()) (h0 : ¬ gp t k → post 0 ()) : wp_X2_isBlankAt tx (nI k) post := by
  have hL := hT.1
  have hv : vp_in (nI k) 2000 := vp_in_nI (by omega) (by omega)
  have hc := (hT.2.2 k hk).1
  refine ⟨hv, ?_⟩
  rw [nI_clamp (by omega), (hT.2.2 k hk).2]
  refine pk_eq (t k) 32 (fun e => h1 (Or.inl e)) (fun e => ⟨hv, ?_⟩)
  refine pk_eq (t k) 10 (fun e2 => h1 (Or.inr e2)) (fun e2 => h0 ?_)
  rintro (q | q)
  · exact e q
  · exact e2 q
theorem r_isGap (hM : Mx t L mx sz) {k : Nat} (hk : k < L) {post : Int32 → Unit → Prop} (h1 : gp t k → post 1 ()) (h0 : ¬ gp t k → post 0 ()) : wp_X6_isGap mx (nI k) post := by
  have hL := hM.1
  have hv : vp_in (nI k) 2000 := vp_in_nI (by omega) (by omega)
  have hc := (hM.2.2 k hk).1
  refine ⟨hv, ?_⟩
  rw [nI_clamp (by omega), (hM.2.2 k hk).2, sb_32 _ hc, sb_10 _ hc]
  refine ⟨fun e => h1 (Or.inl e), fun e => ⟨hv, fun e2 => h1 (Or.inr e2), fun e2 => h0 ?_⟩⟩
  rintro (q | q)
  · exact e q
  · exact e2 q
theorem c_findWord (hT : Tx t L tx ln) {bg : Int32} {e : Nat} (he : e ≤ L) {post : Int32 → (Int32 × Int32) → Prop} (h1 : nb t L e < L → post 1 (nI (nb t L e), nI (ne t L (nb t L e)))) (h0 : nb t L e = L → post 0 (nI L, nI L)) : wp_X2_findWord tx ln bg (nI e) post := by
  have hL := hT.1
  unfold wp_X2_findWord
  intro A8 A51 c8 c51
  rw [hT.2.1] at c8 c51
  have l2 : ∀ b, b ≤ L → ∀ n k, n + k = L → b ≤ k → ne t L b = ne t L k → (nb t L e = b) → A51 (nI b) (nI k) := by
    intro b hb n
    have fin : ∀ k, k ≤ L → b ≤ k → ne t L b = k → (b < L → b < k) → nb t L e = b → ((nI k ≤ nI b → post 0 (nI b, nI k)) ∧ (¬ nI k ≤ nI b → post 1 (nI b, nI k))) := by
      intro k hkL hbk hne hlt hnb
      refine pk_le k b (fun q => ?_) (fun q => ?_)
      · have : b = L := by
          rcases Nat.lt_or_ge b L with h | h
          · have := hlt h; omega
          · omega
        have hk : k = L := by omega
        subst this
        rw [hk]
        exact h0 hnb
      · have := h1 (by omega)
        rw [hnb, hne] at this
        exact this
    induction n with
    | zero =>
      intro k hk hbk hne hnb
      refine c51 _ _ (ye_ (nI_le (by omega) (by omega)) (fin k (by omega) hbk (by rw [hne]; exact ne_end (by omega)) (by omega) hnb))
    | succ n ih =>
      intro k hk hbk hne hnb
      refine c51 _ _ (no_ (nI_ge (by omega) (by omega)) ?_)
      refine c_isBlankAt hT (by omega) (fun g => y1 ?_) (fun g => y0 ?_)
      · refine fin k (by omega) hbk (by rw [hne]; exact ne_s1 (by omega) g) (fun q => ?_) hnb
        rcases Nat.lt_or_ge b k with h | h
        · exact h
        · have : k = b := by omega
          subst this
          exact absurd g (hnb ▸ nb_gp (by rw [hnb]; exact q))
      · rw [nI_1]
        exact ih (k + 1) (by omega) (by omega) (by rw [hne]; exact ne_s0 (by omega) g) hnb
  have l1 : ∀ n k en, n + k = L → nb t L e = nb t L k → A8 (nI k) en := by
    intro n
    induction n with
    | zero =>
      intro k en hk hnb
      refine c8 _ _ (ye_ (nI_le (by omega) (by omega)) (l2 k (by omega) 0 k hk (Nat.le_refl _) rfl ?_))
      rw [hnb]; exact nb_end (by omega)
    | succ n ih =>
      intro k en hk hnb
      refine c8 _ _ (no_ (nI_ge (by omega) (by omega)) ?_)
      refine c_isBlankAt hT (by omega) (fun g => y1 ?_) (fun g => y0 ?_)
      · rw [nI_1]
        exact ih (k + 1) _ (by omega) (by rw [hnb]; exact nb_s1 (by omega) g)
      · refine l2 k (by omega) (n + 1) k hk (Nat.le_refl _) rfl ?_
        rw [hnb]; exact nb_s0 (by omega) g
  exact l1 (L - e) e _ (by omega) rfl
theorem r_wordBegin (hM : Mx t L mx sz) {e : Nat} (he : e ≤ L) {post : Int32 → Unit → Prop} (h : post (nI (nb t L e)) ()) : wp_X6_wordBegin mx sz (nI e) post := by
  have hL := hM.1
  unfold wp_X6_wordBegin
  intro A2 c2
  rw [hM.2.1] at c2
  have l1 : ∀ n k, n + k = L → nb t L e = nb t L k → A2 (nI k) := by
    intro n
    induction n with
    | zero =>
      intro k hk hnb
      rw [nb_end (show L ≤ k by omega)] at hnb
      rw [hnb] at h
      exact c2 _ (ye_ (nI_le (by omega) (by omega)) h)
    | succ n ih =>
      intro k hk hnb
      refine c2 _ (no_ (nI_ge (by omega) (by omega)) ?_)
      refine r_isGap hM (by omega) (fun g => y1 ?_) (fun g => y0 ?_)
      · rw [nI_1]
        exact ih (k + 1) (by omega) (by rw [hnb]; exact nb_s1 (by omega) g)
      · rw [nb_s0 (by omega) g] at hnb
        rw [hnb] at h; exact h
  exact l1 (L - e) e (by omega) rfl
theorem r_wordEnd (hM : Mx t L mx sz) {e : Nat} (he : e ≤ L) {post : Int32 → Unit → Prop} (h : post (nI (ne t L e)) ()) : wp_X6_wordEnd mx sz (nI e) post := by
  have hL := hM.1
  unfold wp_X6_wordEnd
  intro A2 c2
  rw [hM.2.1] at c2
  have l1 : ∀ n k, n + k = L → ne t L e = ne t L k → A2 (nI k) := by
    intro n
    induction n with
    | zero =>
      intro k hk hnb
      rw [ne_end (show L ≤ k by omega)] at hnb
      rw [hnb] at h
      exact c2 _ (ye_ (nI_le (by omega) (by omega)) h)
    | succ n ih =>
      intro k hk hnb
      refine c2 _ (no_ (nI_ge (by omega) (by omega)) ?_)
      refine r_isGap hM (by omega) (fun g => y1 ?_) (fun g => y0 ?_)
      · rw [ne_s1 (by omega) g] at hnb
        rw [hnb] at h; exact h
      · rw [nI_1]
        exact ih (k + 1) (by omega) (by rw [hnb]; exact ne_s0 (by omega) g)
  exact l1 (L - e) e (by omega) rfl
/-! numbers -/
def nv (t : Nat → Nat) (b : Nat) : Nat → Option Nat
  | 0 => some 0
  | n + 1 => match nv t b n with
    | none => none
    | some v => if 48 ≤ t (b + n) ∧ t (b + n) ≤ 57 then some (v * 10 + (t (b + n) - 48)) else none
theorem nv_lt (t : Nat → Nat) (b : Nat) : ∀ n v, nv t b n = some v → v < 10 ^ n
  | 0, v, h => by cases h; exact Nat.one_pos
  | n + 1, v, h => by
    unfold nv at h
    cases hv : nv t b n with
    | none => rw [hv] at h; cases h
    | some w =>
      rw [hv] at h
      have := nv_lt t b n w hv
      dsimp at h
      split at h
      · cases h
        rw [Nat.pow_succ]; omega
      · cases h
theorem nv_none {t : Nat → Nat} {b i : Nat} (h : nv t b i = none) : ∀ d, nv t b (i + d) = none
  | 0 => h
  | d + 1 => by
    show (match nv t b (i + d) with | none => none | some v => _) = none
    rw [nv_none h d]
def num (t : Nat → Nat) (b e : Nat) : Option Nat := if e - b ≤ 9 then nv t b (e - b) else none
theorem num_lt {t : Nat → Nat} {b e v : Nat} (h : num t b e = some v) : v < 1000000000 := by
  unfold num at h
  by_cases hq : e - b ≤ 9
  · rw [if_pos hq] at h
    have h2 := nv_lt t b _ v h
    exact Nat.lt_of_lt_of_le h2 (Nat.pow_le_pow_right (n := 10) (by omega) hq : 10 ^ (e - b) ≤ 10 ^ 9)
  · rw [if_neg hq] at h; cases h
theorem c_numberHere (hT : Tx t L tx ln) {b e : Nat} (hbe : b ≤ e) (he : e ≤ L) {post : Int32 → Unit → Prop} (h1 : ∀ v, num t b e = some v → post (nI v) ()) (h0 : num t b e = none → post (-1) ()) : wp_X2_numberHere tx (nI b) (nI e) post := by
  have hL := hT.1
  unfold wp_X2_numberHere
  intro A23 c23
  rw [pk_sub hbe]
  refine pk_le (e - b) 9 (fun q => ?_) (fun q => h0 (if_neg (by omega)))
  have hnum : num t b e = nv t b (e - b) := if_pos q
  rw [hnum] at h0
  have loop : ∀ n i v, n + i = e - b → nv t b i = some v → A23 (nI v) (nI (b + i)) := by
    intro n
    induction n with
    | zero =>
      intro i v hi hv
      refine c23 _ _ (ye_ (nI_le (by omega) (by omega)) (h1 v ?_))
      rw [hnum, show e - b = i by omega]; exact hv
    | succ n ih =>
      intro i v hi hv
      have hk : b + i < L := by omega
      have hc := (hT.2.2 _ hk).1
      have hv2 : vp_in (nI (b + i)) 2000 := vp_in_nI (by omega) (by omega)
      have hst : nv t b (i + 1) = if 48 ≤ t (b + i) ∧ t (b + i) ≤ 57 then some (v * 10 + (t (b + i) - 48)) else none := by
        show (match nv t b i with | none => none | some v => _) = _
        rw [hv]
      have fail : ¬ (48 ≤ t (b + i) ∧ t (b + i) ≤ 57) → post (-1) () := by
        intro q
        rw [if_neg q] at hst
        refine h0 ?_
        have := nv_none hst n
        rwa [show i + 1 + n = e - b by omega] at this
      have hvb := nv_lt t b i v hv
      refine c23 _ _ (no_ (nI_ge (by omega) (by omega)) ⟨hv2, ?_⟩)
      rw [nI_clamp (by omega), (hT.2.2 _ hk).2]
      refine pk_lt (t (b + i)) 48 (fun q => fail (by omega)) (fun q => ⟨hv2, ?_⟩)
      refine pk_le (t (b + i)) 57 (fun q2 => ⟨hv2, ?_⟩) (fun q2 => fail (by omega))
      have e1 : nI v * 10 + (nI (t (b + i)) - 48) = nI (v * 10 + (t (b + i) - 48)) := by
        rw [show (48 : Int32) = nI 48 from rfl, show (10 : Int32) = nI 10 from rfl, pk_sub q, pk_mul, nI_add]
      rw [e1, nI_1]
      exact ih (i + 1) _ (by omega) (by rw [hst, if_pos ⟨q, q2⟩])
  exact loop (e - b) 0 0 rfl rfl
theorem r_numberOf (hM : Mx t L mx sz) {b e : Nat} (hbe : b ≤ e) (he : e ≤ L) {post : Int32 → Unit → Prop} (h1 : ∀ v, num t b e = some v → post (nI v) ()) (h0 : num t b e = none → post (-1) ()) : wp_X6_numberOf mx (nI b) (nI e) post := by
  have hL := hM.1
  unfold wp_X6_numberOf
  intro A17 c17
  have neg : ∀ x, num t b e = none → A17 (-1) x := by
    intro x q
    exact c17 _ _ ⟨fun _ => h0 q, fun _ => ye_ (by decide) (h0 q)⟩
  rw [pk_sub hbe]
  refine pk_le (e - b) 9 (fun q => ?_) (fun q => neg _ (if_neg (by omega)))
  have hnum : num t b e = nv t b (e - b) := if_pos q
  have loop : ∀ n i v, n + i = e - b → nv t b i = some v → A17 (nI v) (nI (b + i)) := by
    intro n
    induction n with
    | zero =>
      intro i v hi hv
      refine c17 _ _ (ye_ (nI_le (by omega) (by omega)) (h1 v ?_))
      rw [hnum, show e - b = i by omega]; exact hv
    | succ n ih =>
      intro i v hi hv
      have hk : b + i < L := by omega
      have hc := (hM.2.2 _ hk).1
      have hv2 : vp_in (nI (b + i)) 2000 := vp_in_nI (by omega) (by omega)
      have hst : nv t b (i + 1) = if 48 ≤ t (b + i) ∧ t (b + i) ≤ 57 then some (v * 10 + (t (b + i) - 48)) else none := by
        show (match nv t b i with | none => none | some v => _) = _
        rw [hv]
      have fail : ¬ (48 ≤ t (b + i) ∧ t (b + i) ≤ 57) → A17 (-1) (nI (b + i) + 1) := by
        intro q
        rw [if_neg q] at hst
        refine neg _ ?_
        have := nv_none hst n
        rw [hnum]
        rwa [show i + 1 + n = e - b by omega] at this
      have hvb := nv_lt t b i v hv
      have hv9 : 10 ^ i ≤ 10 ^ 9 := Nat.pow_le_pow_right (n := 10) (by omega) (by omega)
      refine c17 _ _ (no_ (nI_ge (by omega) (by omega)) (no_ (nI_pos (by omega)) ⟨hv2, ?_⟩))
      rw [nI_clamp (by omega), (hM.2.2 _ hk).2, sb_neg _ hc]
      refine ⟨fun q => fail (by omega), fun q => ?_⟩
      have q' : 48 ≤ t (b + i) ∧ t (b + i) < 128 := Classical.byContradiction q
      rw [sb_le _ hc q']
      refine ⟨fun q2 => ?_, fun q2 => fail (by omega)⟩
      rw [sb_val _ hc ⟨q'.1, q2⟩, show (10 : Int32) = nI 10 from rfl, pk_mul, nI_add, nI_1, Nat.mul_comm 10 v]
      exact ih (i + 1) _ (by omega) (by rw [hst, if_pos ⟨q'.1, q2⟩])
  exact loop (e - b) 0 0 rfl rfl
end TXT
