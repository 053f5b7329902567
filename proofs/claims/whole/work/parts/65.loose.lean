/-! pieces: hanging together is an equivalence -/
def Cn (σ : Sg) (a b : Nat) : Prop := ∀ S : Nat → Prop, S a → (∀ k, k < nF σ → (S (σ.1 5 k) ↔ S (σ.1 6 k))) → S b
theorem Cn.rf (σ : Sg) (a : Nat) : Cn σ a a := fun _ h _ => h
theorem Cn.sy {σ : Sg} {a b : Nat} (h : Cn σ a b) : Cn σ b a := by
  intro S hS hc
  by_cases ha : S a
  · exact ha
  · exact absurd hS (h (fun x => ¬ S x) ha (fun k hk => not_congr (hc k hk)))
theorem Cn.tr {σ : Sg} {a b c : Nat} (h : Cn σ a b) (h2 : Cn σ b c) : Cn σ a c := fun S hS hc => h2 S (h S hS hc) hc
theorem Cn.st {σ : Sg} {a k : Nat} (hk : k < nF σ) : Cn σ a (σ.1 5 k) ↔ Cn σ a (σ.1 6 k) := ⟨fun h S hS hc => (hc k hk).mp (h S hS hc), fun h S hS hc => (hc k hk).mpr (h S hS hc)⟩
theorem fs1_bit {σ : Sg} {x : Int32} {k q : Nat} (ha : σ.1 5 k < 10) (hb : σ.1 6 k < 10) (hq : q < 32) : bt (fs1 σ 0 x k) q = true ↔ bt x q = true ∨ ((bt x (σ.1 5 k) = true ∨ bt x (σ.1 6 k) = true) ∧ (q = σ.1 5 k ∨ q = σ.1 6 k)) := by
  unfold fs1
  by_cases h : bt x (σ.1 5 k) = true ∨ bt x (σ.1 6 k) = true
  · rw [if_pos ⟨⟨b_0 _, b_0 _⟩, h⟩, b_or, b_or, b_pow (by omega) hq, b_pow (by omega) hq]
    simp [h]
  · rw [if_neg (fun g => h g.2)]
    simp [h]
section FIX
variable {σ : Sg}
theorem fw_mono (hV : VS σ) {x : Int32} {q : Nat} (hq : q < 32) (h : bt x q = true) : ∀ k, k ≤ nF σ → bt (fw σ 0 x k) q = true
  | 0, _ => h
  | k + 1, hk => by
    have hn := hV.n10
    have he := hV.2.2.2.2.2.1 k (by omega)
    exact (fs1_bit (by omega) (by omega) hq).mpr (Or.inl (fw_mono hV hq h k (by omega)))
theorem fw_mono2 (hV : VS σ) {x : Int32} {q : Nat} (hq : q < 32) {k : Nat} (h : bt (fw σ 0 x k) q = true) : ∀ d, k + d ≤ nF σ → bt (fw σ 0 x (k + d)) q = true
  | 0, _ => h
  | d + 1, hk => by
    have hn := hV.n10
    have he := hV.2.2.2.2.2.1 (k + d) (by omega)
    show bt (fs1 σ 0 (fw σ 0 x (k + d)) (k + d)) q = true
    exact (fs1_bit (by omega) (by omega) hq).mpr (Or.inl (fw_mono2 hV hq h d (by omega)))
theorem fw_sound (hV : VS σ) {x : Int32} {i : Nat} (h : ∀ q, q < 32 → bt x q = true → q < 10 ∧ Cn σ i q) : ∀ k, k ≤ nF σ → ∀ q, q < 32 → bt (fw σ 0 x k) q = true → q < 10 ∧ Cn σ i q
  | 0, _ => h
  | k + 1, hk => by
    have hn := hV.n10
    have he := hV.2.2.2.2.2.1 k (by omega)
    intro q hq hb
    have ih := fw_sound hV h k (by omega)
    rcases (fs1_bit (by omega) (by omega) hq).mp hb with h1 | ⟨h1, h2⟩
    · exact ih q hq h1
    · have hc : Cn σ i (σ.1 5 k) := by
        rcases h1 with h1 | h1
        · exact (ih _ (by omega) h1).2
        · exact (Cn.st (by omega)).mpr (ih _ (by omega) h1).2
      rcases h2 with rfl | rfl
      · exact ⟨by omega, hc⟩
      · exact ⟨by omega, (Cn.st (by omega)).mp hc⟩
theorem fr_sound (hV : VS σ) {i : Nat} (hi : i < 10) : ∀ r, ∀ q, q < 32 → bt (fr σ 0 (1 <<< (nI i &&& 31)) r) q = true → q < 10 ∧ Cn σ i q
  | 0 => fun q hq h => by
    have : bt (1 <<< (nI i &&& 31)) q = true := h
    rw [b_pow (by omega) hq] at this
    simp at this
    subst this
    exact ⟨hi, Cn.rf σ q⟩
  | r + 1 => fw_sound hV (fr_sound hV hi r) (nF σ) (Nat.le_refl _)
theorem fr_mono (hV : VS σ) {i : Nat} {r q : Nat} (hq : q < 32) (h : bt (fr σ 0 (1 <<< (nI i &&& 31)) r) q = true) : bt (fr σ 0 (1 <<< (nI i &&& 31)) (r + 1)) q = true := fw_mono hV hq h (nF σ) (Nat.le_refl _)
theorem fr_self (hV : VS σ) {i : Nat} (hi : i < 10) : ∀ r, bt (fr σ 0 (1 <<< (nI i &&& 31)) r) i = true
  | 0 => by
    show bt (1 <<< (nI i &&& 31)) i = true
    rw [b_pow (by omega) (by omega)]; simp
  | r + 1 => fr_mono hV (by omega) (fr_self hV hi r)
end FIX
/-- members below n -/
def cn (x : Int32) : Nat → Nat
  | 0 => 0
  | n + 1 => cn x n + (if bt x n then 1 else 0)
theorem cn_le (x : Int32) : ∀ n, cn x n ≤ n
  | 0 => Nat.le_refl _
  | n + 1 => by
    have := cn_le x n
    show cn x n + (if bt x n then 1 else 0) ≤ n + 1
    split <;> omega
theorem cn_mono {x y : Int32} : ∀ n, (∀ i, i < n → bt x i = true → bt y i = true) → cn x n ≤ cn y n
  | 0, _ => Nat.le_refl _
  | n + 1, h => by
    have := cn_mono n (fun i hi => h i (by omega))
    have h2 := h n (by omega)
    show cn x n + (if bt x n then 1 else 0) ≤ cn y n + (if bt y n then 1 else 0)
    cases hx : bt x n
    · simp; omega
    · rw [h2 hx]; simp; omega
theorem cn_lt {x y : Int32} : ∀ n, (∀ i, i < n → bt x i = true → bt y i = true) → (∃ i, i < n ∧ bt x i = false ∧ bt y i = true) → cn x n < cn y n
  | 0, _, h => by obtain ⟨i, hi, _⟩ := h; omega
  | n + 1, h, hex => by
    have m := cn_mono n (fun i hi => h i (by omega))
    have h2 := h n (by omega)
    show cn x n + (if bt x n then 1 else 0) < cn y n + (if bt y n then 1 else 0)
    obtain ⟨i, hi, h3, h4⟩ := hex
    by_cases hin : i = n
    · subst hin
      rw [h3, h4]; simp; omega
    · have := cn_lt n (fun i hi => h i (by omega)) ⟨i, by omega, h3, h4⟩
      cases hx : bt x n
      · simp; omega
      · rw [h2 hx]; simp; omega
theorem cn_pos {x : Int32} {i : Nat} (h : bt x i = true) : ∀ n, i < n → 1 ≤ cn x n
  | 0, hi => by omega
  | n + 1, hi => by
    show 1 ≤ cn x n + (if bt x n then 1 else 0)
    by_cases hin : i = n
    · subst hin; rw [h]; simp
    · have := cn_pos h n (by omega); omega
section FIX2
variable {σ : Sg}
theorem fr_grow (hV : VS σ) {i : Nat} (hi : i < 10) : ∀ r, fr σ 0 (1 <<< (nI i &&& 31)) (r + 1) = fr σ 0 (1 <<< (nI i &&& 31)) r ∨ r + 1 ≤ cn (fr σ 0 (1 <<< (nI i &&& 31)) r) 10
  | 0 => Or.inr (cn_pos (fr_self hV hi 0) 10 hi)
  | r + 1 => by
    rcases fr_grow hV hi r with h | h
    · left
      show fw σ 0 (fr σ 0 (1 <<< (nI i &&& 31)) (r + 1)) (nF σ) = _
      rw [h]; exact h
    · by_cases e : fr σ 0 (1 <<< (nI i &&& 31)) (r + 1) = fr σ 0 (1 <<< (nI i &&& 31)) r
      · left
        show fw σ 0 (fr σ 0 (1 <<< (nI i &&& 31)) (r + 1)) (nF σ) = _
        rw [e]; exact e
      · right
        have : cn (fr σ 0 (1 <<< (nI i &&& 31)) r) 10 < cn (fr σ 0 (1 <<< (nI i &&& 31)) (r + 1)) 10 := by
          refine cn_lt 10 (fun j hj hb => fr_mono hV (by omega) hb) ?_
          refine Classical.byContradiction (fun hno => e (b_ext (fun j hj => ?_)))
          cases h1 : bt (fr σ 0 (1 <<< (nI i &&& 31)) r) j
          · cases h2 : bt (fr σ 0 (1 <<< (nI i &&& 31)) (r + 1)) j
            · rfl
            · exact absurd ⟨j, (fr_sound hV hi (r + 1) j hj h2).1, h1, h2⟩ hno
          · exact fr_mono hV hj h1
        omega
theorem fr_done (hV : VS σ) {i : Nat} (hi : i < 10) : fw σ 0 (fr σ 0 (1 <<< (nI i &&& 31)) 10) (nF σ) = fr σ 0 (1 <<< (nI i &&& 31)) 10 := by
  rcases fr_grow hV hi 10 with h | h
  · exact h
  · have := cn_le (fr σ 0 (1 <<< (nI i &&& 31)) 10) 10; omega
theorem fr_closed (hV : VS σ) {i k : Nat} (hi : i < 10) (hk : k < nF σ) : bt (fr σ 0 (1 <<< (nI i &&& 31)) 10) (σ.1 5 k) = true ↔ bt (fr σ 0 (1 <<< (nI i &&& 31)) 10) (σ.1 6 k) = true := by
  have hn := hV.n10
  have he := hV.2.2.2.2.2.1 k hk
  have back : ∀ q, q < 32 → bt (fw σ 0 (fr σ 0 (1 <<< (nI i &&& 31)) 10) (k + 1)) q = true → bt (fr σ 0 (1 <<< (nI i &&& 31)) 10) q = true := by
    intro q hq h
    have := fw_mono2 hV hq h (nF σ - (k + 1)) (by omega)
    rw [show k + 1 + (nF σ - (k + 1)) = nF σ by omega, fr_done hV hi] at this
    exact this
  constructor
  · intro h
    refine back _ (by omega) ((fs1_bit (by omega) (by omega) (by omega)).mpr (Or.inr ⟨Or.inl ?_, Or.inr rfl⟩))
    exact fw_mono hV (by omega) h k (by omega)
  · intro h
    refine back _ (by omega) ((fs1_bit (by omega) (by omega) (by omega)).mpr (Or.inr ⟨Or.inr ?_, Or.inl rfl⟩))
    exact fw_mono hV (by omega) h k (by omega)
theorem fr_iff (hV : VS σ) {i q : Nat} (hi : i < 10) (hq : q < 10) : bt (fr σ 0 (1 <<< (nI i &&& 31)) 10) q = true ↔ Cn σ i q :=
  ⟨fun h => (fr_sound hV hi 10 q (by omega) h).2, fun h => h (fun x => bt (fr σ 0 (1 <<< (nI i &&& 31)) 10) x = true) (fr_self hV hi 10) (fun k hk => fr_closed hV hi hk)⟩
end FIX2
noncomputable def ct (σ : Sg) : Nat → Nat
  | 0 => 0
  | p + 1 => ct σ p + (@ite _ (∀ q, q < p → ¬ Cn σ q p) (Classical.propDecidable _) 1 0)
theorem ct_1 {σ : Sg} {p : Nat} (h : ∀ q, q < p → ¬ Cn σ q p) : ct σ (p + 1) = ct σ p + 1 := by
  show ct σ p + _ = _; rw [if_pos h]
theorem ct_0 {σ : Sg} {p : Nat} (h : ¬ ∀ q, q < p → ¬ Cn σ q p) : ct σ (p + 1) = ct σ p := by
  show ct σ p + _ = _; rw [if_neg h]; rfl
theorem c_pieces {σ : Sg} {kd : Nat → Int32} {gr : Nat → Int64} {cv br hz fm dm e1 e2 fk : Nat → Int32} {pn fn : Int32} (hV : VS σ) (hR : RC σ kd gr cv br hz fm dm e1 e2 fk pn fn) {post : Int32 → Unit → Prop} (h : post (nI (ct σ (nP σ))) ()) : wp_X1_pieces e1 e2 pn fn post := by
  have hn := hV.n10
  have ee := hR.1
  unfold wp_X1_pieces
  intro A6 c6
  have loop := up (P := fun p => ∀ x, (∀ q, q < 10 → (bt x q = true ↔ ∃ r, r < p ∧ Cn σ r q)) → A6 (nI (ct σ p)) x (nI p)) (m := 0) (n := nP σ) (by omega) ?_ ?_
  · exact loop 0 (fun q _ => by rw [b_0]; exact ⟨fun h => absurd h Bool.false_ne_true, fun ⟨r, hr, _⟩ => absurd hr (Nat.not_lt_zero r)⟩)
  · intro x _
    refine c6 _ _ _ ?_
    rw [ee]
    exact ye_ (nI_le (by omega) (by omega)) h
  · intro p _ hp ih x hx
    refine c6 _ _ _ ?_
    rw [ee, nI_1 p]
    refine no_ (nI_ge hp (by omega)) ?_
    refine c_contains (by omega) (fun g => no_ (by decide) ?_) (fun g => y0 ?_)
    · have g' := (hx p (by omega)).mp g
      rw [ct_0 (fun k => by obtain ⟨r, h1, h2⟩ := g'; exact k r h1 h2)] at ih
      refine ih x (fun q hq => ?_)
      rw [hx q hq]
      constructor
      · rintro ⟨r, h1, h2⟩; exact ⟨r, by omega, h2⟩
      · rintro ⟨r, h1, h2⟩
        by_cases hrp : r = p
        · subst hrp
          obtain ⟨r', h3, h4⟩ := g'
          exact ⟨r', h3, h4.tr h2⟩
        · exact ⟨r, by omega, h2⟩
    · rw [← ee]
      refine c_piece hV hR (fun i hi ea _ => ?_) (fun e => absurd ⟨p, hp, rfl, b_0 p⟩ e)
      rw [nI_eq (by omega) (by omega)] at ea
      subst ea
      have g' : ∀ q, q < p → ¬ Cn σ q p := by
        intro q hq hc
        have := (hx p (by omega)).mpr ⟨q, hq, hc⟩
        rw [g] at this; cases this
      rw [ct_1 g', ← nI_1] at ih
      refine ih _ (fun q hq => ?_)
      rw [b_or]
      have e1 := hx q hq
      have e2 := fr_iff hV (show p < 10 by omega) hq
      constructor
      · intro hb
        rcases (Bool.or_eq_true_iff ..).mp hb with h1 | h1
        · obtain ⟨r, h2, h3⟩ := e1.mp h1; exact ⟨r, by omega, h3⟩
        · exact ⟨p, by omega, e2.mp h1⟩
      · rintro ⟨r, h1, h2⟩
        by_cases hrp : r = p
        · subst hrp
          exact (Bool.or_eq_true_iff ..).mpr (Or.inr (e2.mpr h2))
        · exact (Bool.or_eq_true_iff ..).mpr (Or.inl (e1.mpr ⟨r, by omega, h2⟩))
theorem r_loose {σ : Sg} {mp mg mc mw mf mt mh mm md mk' : Nat → Int32} (hV : VS σ) (hR : RM σ 0 mp mk' mg mc mw mf mt mh mm md) {fa : Int32} {post : Int32 → Int32 → Prop} (h : post (nI (ct σ (nP σ))) 0) : wp_X6_loose mp mf mt fa post := by
  have hn := hV.n10
  have m0 : mp (0 : Int32).toNatClampNeg = nI (nP σ) := hR.1
  unfold wp_X6_loose
  intro A9 A24 c9 c24
  have loop := up (P := fun p => A9 (nI (ct σ p)) (nI p) 0) (m := 0) (n := nP σ) (by omega) ?_ ?_
  · exact loop
  · refine c9 _ _ _ ⟨pk_in 0 2 (by omega), ?_⟩
    rw [m0]
    exact ye_ (nI_le (by omega) (by omega)) h
  · intro p _ hp ih
    refine c9 _ _ _ ⟨pk_in 0 2 (by omega), ?_⟩
    rw [m0]
    refine no_ (nI_ge hp (by omega)) ?_
    have inner := up (P := fun q => A24 (nI (ct σ p)) (nI p) (pI (∀ r, r < q → ¬ Cn σ r p)) (nI q) 0) (m := 0) (n := p) (by omega) ?_ ?_
    · rw [pI1 (c := ∀ r, r < 0 → ¬ Cn σ r p) (fun r hr => absurd hr (Nat.not_lt_zero r)), nI_0] at inner
      exact inner
    · refine c24 _ _ _ _ _ (ye_ (nI_le (by omega) (by omega)) (pI_wp (fun g => ?_) (fun g => ?_)))
      · rw [ct_0 g, ← nI_1] at ih
        rw [Int32.add_zero]; exact ih
      · rw [ct_1 g, ← nI_1, ← nI_1] at ih
        exact ih
    · intro q _ hq ihq
      refine c24 _ _ _ _ _ (no_ (nI_ge hq (by omega)) (pI_wp (fun g => ?_) (fun g => ?_)))
      · rw [pI0 (c := ∀ r, r < q + 1 → ¬ Cn σ r p) (fun k => g (fun r hr => k r (by omega)))] at ihq
        rw [nI_1]; exact ihq
      · refine r_pieceOf hV hR (off := 0) (by omega) l0 (fun v hv => ?_)
        rw [st0_0 (b_0 p)] at hv
        rw [nI_1]
        refine r_isOff (by omega) (fun k => no_ (by decide) ?_) (fun k => y0 ?_)
        · rw [hv q (by omega), fr_iff hV (by omega) (by omega)] at k
          rw [pI0 (c := ∀ r, r < q + 1 → ¬ Cn σ r p) (fun k2 => k2 q (by omega) k.sy)] at ihq
          exact ihq
        · rw [hv q (by omega)] at k
          rw [pI1 (c := ∀ r, r < q + 1 → ¬ Cn σ r p) (fun r hr hc => by
            by_cases hrq : r = q
            · subst hrq
              have := (fr_iff hV (show p < 10 by omega) (show r < 10 by omega)).mpr hc.sy
              rw [k] at this; cases this
            · exact g r (by omega) hc)] at ihq
          exact ihq
