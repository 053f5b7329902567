/-! words -/
def wl (k : Nat) : Nat := strLen.getD k 0
def ch (k i : Nat) : Nat := (((strByt.getD k []).getD i 0)).toNatClampNeg
theorem wl_b : ∀ k, k < 7 → wl k ≤ 6 ∧ 3 ≤ wl k := by decide +kernel
theorem ch_b : ∀ k, k < 7 → ∀ i, i < 6 → ch k i < 128 := by decide +kernel
theorem wl_i : ∀ k, k < 7 → (Int32.ofNat (strLen.getD k 0)) >>> ((0 : Int32) &&& 31) = nI (wl k) := by decide +kernel
theorem ch_i : ∀ k, k < 7 → ∀ i, i < 6 → (((((strByt.getD k []).getD i 0) &&& 255).toUInt32 % 65536).toInt32) = nI (ch k i) := by decide +kernel
theorem c_length {k : Nat} (hk : k < 7) {post : Int32 → Unit → Prop} (h : post (nI (wl k)) ()) : wp_J0_length_8abf5 k post := by
  have h9 : k < 9 := by omega
  refine ⟨h9, h9, h9, ?_⟩
  refine no_ (by decide) ⟨h9, ?_⟩
  show post (Int32.ofNat (strLen.getD k 0) >>> ((0 : Int32) &&& 31)) ()
  rw [wl_i k hk]; exact h
theorem c_checkIndex {i n : Nat} (hi : i < n) (hn : n < 2 ^ 31) {post : Unit → Prop} (h : post ()) : wp_J0_checkIndex_df160 (nI i) (nI n) post := by
  refine ⟨no_ (nI_pos (by omega)) (ye_ (nI_lt hi hn) h), fun _ => no_ (nI_pos (by omega)) (ye_ (nI_lt hi hn) h)⟩
theorem c_charAt {k i : Nat} (hk : k < 7) (hi : i < wl k) {post : Int32 → Unit → Prop} (h : post (nI (ch k i)) ()) : wp_J0_charAt_5068e k (nI i) post := by
  have h9 : k < 9 := by omega
  have hw := wl_b k hk
  have hc := ch_b k hk i (by omega)
  have nc := (pk_charN (q := ch k i) (by omega)).1
  refine ⟨h9, ?_⟩
  refine no_ (by decide) ⟨h9, y0 ?_⟩
  refine y1 ⟨h9, h9, ?_⟩
  refine c_checkIndex (n := wl k) hi (by omega) ⟨h9, vp_in_nI (N := wl k) hi (by omega), ?_⟩
  rw [nI_clamp (by omega), ch_i k hk i (by omega)]
  exact ⟨nc, nc, h⟩
def isW (t : Nat → Nat) (b e k : Nat) : Prop := e - b = wl k ∧ ∀ i, i < wl k → t (b + i) = ch k i
noncomputable def vbf (t : Nat → Nat) (b e : Nat) : Nat → Nat → Option Nat
  | 0, _ => none
  | n + 1, k => @ite _ (isW t b e k) (Classical.propDecidable _) (some k) (vbf t b e n (k + 1))
noncomputable def vb (t : Nat → Nat) (b e : Nat) : Option Nat := vbf t b e 7 0
theorem vbf_1 {t : Nat → Nat} {b e n k : Nat} (h : isW t b e k) : vbf t b e (n + 1) k = some k := if_pos h
theorem vbf_0 {t : Nat → Nat} {b e n k : Nat} (h : ¬ isW t b e k) : vbf t b e (n + 1) k = vbf t b e n (k + 1) := if_neg h
theorem vbf_lt {t : Nat → Nat} {b e : Nat} : ∀ n k v, vbf t b e n k = some v → v < k + n
  | 0, _, _, h => by cases h
  | n + 1, k, v, h => by
    by_cases hw : isW t b e k
    · rw [vbf_1 hw] at h; cases h; omega
    · rw [vbf_0 hw] at h
      have := vbf_lt n (k + 1) v h; omega
theorem vb_lt {t : Nat → Nat} {b e v : Nat} (h : vb t b e = some v) : v < 7 := by
  have := vbf_lt 7 0 v h; omega
section WRD
variable {t : Nat → Nat} {L : Nat} {tx mx : Nat → Int32} {ln sz : Int32}
theorem c_isWordHere (hT : Tx t L tx ln) {b e k : Nat} (hk : k < 7) (hbe : b ≤ e) (he : e ≤ L) {post : Int32 → Unit → Prop} (h1 : isW t b e k → post 1 ()) (h0 : ¬ isW t b e k → post 0 ()) : wp_X2_isWordHere tx (nI b) (nI e) k post := by
  have hL := hT.1
  have h9 : k < 9 := by omega
  have hw := wl_b k hk
  unfold wp_X2_isWordHere
  intro A20 c20
  refine ⟨h9, c_length hk ?_⟩
  rw [pk_sub hbe]
  refine pk_eq (wl k) (e - b) (fun q => ?_) (fun q => h0 (fun g => q g.1.symm))
  have loop := up (P := fun i => (∀ j, j < i → t (b + j) = ch k j) → A20 (nI i)) (m := 0) (n := wl k) (by omega) ?_ ?_
  · exact loop (fun j hj => absurd hj (Nat.not_lt_zero j))
  · intro hall
    exact c20 _ ⟨h9, c_length hk (ye_ (nI_le (by omega) (by omega)) (h1 ⟨q.symm, hall⟩))⟩
  · intro i _ hi ih hall
    have hbi : b + i < L := by omega
    have hcc := ch_b k hk i (by omega)
    have htt := (hT.2.2 _ hbi).1
    refine c20 _ ⟨h9, c_length hk (no_ (nI_ge hi (by omega)) ?_)⟩
    rw [nI_add, nI_clamp (by omega), (hT.2.2 _ hbi).2, nI_1]
    refine ⟨vp_in_nI (by omega) (by omega), h9, c_charAt hk hi ?_⟩
    refine pk_eq (t (b + i)) (ch k i) (fun g => ih (fun j hj => ?_)) (fun g => h0 (fun w => g (w.2 i hi)))
    by_cases hji : j = i
    · subst hji; exact g
    · exact hall j (by omega)
theorem c_verbHere (hT : Tx t L tx ln) {b e : Nat} (hbe : b ≤ e) (he : e ≤ L) {post : Option Nat → Unit → Prop} (h : post (vb t b e) ()) : wp_X2_verbHere tx (nI b) (nI e) post := by
  unfold wp_X2_verbHere
  intro A2 c2
  have loop : ∀ n k, n + k = 7 → vb t b e = vbf t b e n k → A2 (nI k) := by
    intro n
    induction n with
    | zero =>
      intro k hk hv
      refine c2 _ (ye_ (nI_le (a := 7) (by omega) (by omega)) ?_)
      rw [hv] at h; exact h
    | succ n ih =>
      intro k hk hv
      have vk : vp_in (nI k) 7 := vp_in_nI (by omega) (by omega)
      refine c2 _ (no_ (nI_ge (b := 7) (by omega) (by omega)) ⟨vk, ?_⟩)
      rw [nI_clamp (by omega), nI_1]
      refine ⟨by omega, c_isWordHere hT (by omega) hbe he (fun g => y1 ⟨vk, ?_⟩) (fun g => y0 ?_)⟩
      · rw [hv, vbf_1 g] at h; exact h
      · rw [vbf_0 g] at hv
        exact ih (k + 1) (by omega) hv
  exact loop 7 0 rfl rfl
/-- the word's number, base 256 behind a one -/
def wv (t : Nat → Nat) (b : Nat) : Nat → Nat
  | 0 => 1
  | n + 1 => 256 * wv t b n + t (b + n)
theorem wv_pos (t : Nat → Nat) (b : Nat) : ∀ n, 1 ≤ wv t b n
  | 0 => Nat.le_refl _
  | n + 1 => by
    have := wv_pos t b n
    show 1 ≤ 256 * wv t b n + t (b + n)
    omega
theorem wv_inj {t t' : Nat → Nat} {b b' : Nat} : ∀ n n', (∀ i, i < n → t (b + i) < 256) → (∀ i, i < n' → t' (b' + i) < 256) → wv t b n = wv t' b' n' → n = n' ∧ ∀ i, i < n → t (b + i) = t' (b' + i)
  | 0, 0, _, _, _ => ⟨rfl, fun i hi => absurd hi (Nat.not_lt_zero i)⟩
  | 0, n' + 1, _, _, h => by
    have h1 : (1 : Nat) = 256 * wv t' b' n' + t' (b' + n') := h
    have := wv_pos t' b' n'
    omega
  | n + 1, 0, _, _, h => by
    have h1 : 256 * wv t b n + t (b + n) = 1 := h
    have := wv_pos t b n
    omega
  | n + 1, n' + 1, h1, h2, h => by
    have h3 : 256 * wv t b n + t (b + n) = 256 * wv t' b' n' + t' (b' + n') := h
    have a1 := h1 n (by omega)
    have a2 := h2 n' (by omega)
    obtain ⟨e, g⟩ := wv_inj n n' (fun i hi => h1 i (by omega)) (fun i hi => h2 i (by omega)) (by omega)
    subst e
    refine ⟨rfl, fun i hi => ?_⟩
    by_cases hin : i = n
    · subst hin; omega
    · exact g i (by omega)
theorem wv_lt (t : Nat → Nat) (b : Nat) : ∀ n, (∀ i, i < n → t (b + i) < 256) → wv t b n < 2 * 256 ^ n
  | 0, _ => by
    show (1 : Nat) < 2 * 256 ^ 0
    decide
  | n + 1, h => by
    have := wv_lt t b n (fun i hi => h i (by omega))
    have h2 := h n (by omega)
    show 256 * wv t b n + t (b + n) < _
    rw [Nat.pow_succ]; omega
def nmO (k : Nat) : Nat := ([6180401780, 1526583420274, 24600953, 394043711579502, 396242851033700, 404003756797806, 391844586415973] : List Nat).getD k 0
theorem nmO_wv : ∀ k, k < 7 → nmO k = wv (ch k) 0 (wl k) := by decide +kernel
theorem nmO_b : ∀ k, k < 7 → nmO k < 2 ^ 60 := by decide +kernel
theorem ch_all : ∀ k, k < 7 → ∀ i, i < wl k → ch k (0 + i) < 256 := by decide +kernel
theorem r_nameOf {k : Nat} (hk : k < 7) {post : Int64 → Unit → Prop} (h : post (Int64.ofNat (nmO k)) ()) : wp_X6_nameOf (nI k) post := by
  unfold wp_X6_nameOf
  match k, hk with
  | 0, _ => exact ye_ (by decide) h
  | 1, _ => exact no_ (by decide) (ye_ (by decide) h)
  | 2, _ => exact no_ (by decide) (no_ (by decide) (ye_ (by decide) h))
  | 3, _ => exact no_ (by decide) (no_ (by decide) (no_ (by decide) (ye_ (by decide) h)))
  | 4, _ => exact no_ (by decide) (no_ (by decide) (no_ (by decide) (no_ (by decide) (ye_ (by decide) h))))
  | 5, _ => exact no_ (by decide) (no_ (by decide) (no_ (by decide) (no_ (by decide) (no_ (by decide) (ye_ (by decide) h)))))
  | 6, _ => exact no_ (by decide) (no_ (by decide) (no_ (by decide) (no_ (by decide) (no_ (by decide) (no_ (by decide) h)))))
/-- the reference's number of a word -/
def wn (t : Nat → Nat) (b e : Nat) : Nat := if e - b < 8 then wv t b (e - b) else 1
theorem o64 {a b : Nat} (ha : a < 2 ^ 63) (hb : b < 2 ^ 63) : Int64.ofNat a = Int64.ofNat b ↔ a = b := by
  constructor
  · intro h
    have := congrArg Int64.toInt h
    rw [lg_ofNat_toInt ha, lg_ofNat_toInt hb] at this
    omega
  · intro h; rw [h]
theorem wn_b {b e : Nat} (hM : Mx t L mx sz) (hbe : b ≤ e) (he : e ≤ L) : wn t b e < 2 ^ 63 := by
  unfold wn
  by_cases h : e - b < 8
  · rw [if_pos h]
    have h1 := wv_lt t b (e - b) (fun i hi => (hM.2.2 (b + i) (by omega)).1)
    have h2 : 256 ^ (e - b) ≤ 256 ^ 7 := Nat.pow_le_pow_right (n := 256) (by omega) (by omega)
    have h3 : 2 * 256 ^ 7 < 2 ^ 63 := by decide
    omega
  · rw [if_neg h]; decide
theorem wn_isW {b e k : Nat} (hM : Mx t L mx sz) (hk : k < 7) (hbe : b ≤ e) (he : e ≤ L) : nmO k = wn t b e ↔ isW t b e k := by
  have hw := wl_b k hk
  unfold wn isW
  by_cases h : e - b < 8
  · rw [if_pos h, nmO_wv k hk]
    constructor
    · intro q
      obtain ⟨g1, g2⟩ := wv_inj _ _ (ch_all k hk) (fun i hi => (hM.2.2 (b + i) (by omega)).1) q
      refine ⟨g1.symm, fun i hi => ?_⟩
      have := g2 i hi
      rw [Nat.zero_add] at this
      exact this.symm
    · rintro ⟨g1, g2⟩
      rw [g1]
      have : ∀ n, n ≤ wl k → wv (ch k) 0 n = wv t b n := by
        intro n
        induction n with
        | zero => intro _; rfl
        | succ n ih =>
          intro hn
          show 256 * wv (ch k) 0 n + ch k (0 + n) = 256 * wv t b n + t (b + n)
          rw [ih (by omega), g2 n (by omega), Nat.zero_add]
      exact this _ (Nat.le_refl _)
  · rw [if_neg h]
    constructor
    · intro q
      have : ∀ k, k < 7 → nmO k ≠ 1 := by decide
      exact absurd q (this k hk)
    · rintro ⟨g1, _⟩; omega
theorem r_wordOf (hM : Mx t L mx sz) {b e : Nat} (hbe : b ≤ e) (he : e ≤ L) {post : Int64 → Unit → Prop} (h : post (Int64.ofNat (wn t b e)) ()) : wp_X6_wordOf mx (nI b) (nI e) post := by
  have hL := hM.1
  unfold wp_X6_wordOf
  intro A5 c5
  rw [pk_sub hbe] at c5
  by_cases h8 : e - b < 8
  · have hwn : wn t b e = wv t b (e - b) := if_pos h8
    rw [hwn] at h
    have loop := up (P := fun i => A5 (Int64.ofNat (wv t b i)) (nI (b + i))) (m := 0) (n := e - b) (by omega) ?_ ?_
    · exact loop
    · exact c5 _ _ (ye_ (nI_le (by omega) (by omega)) h)
    · intro i _ hi ih
      have hk : b + i < L := by omega
      have hc := (hM.2.2 _ hk).1
      refine c5 _ _ (no_ (nI_ge (by omega) (by omega)) ?_)
      refine no_ (nI_ge (b := 8) (by omega) (by omega)) ⟨vp_in_nI (by omega) (by omega), ?_⟩
      have e1 : (256 : Int64) * Int64.ofNat (wv t b i) + (nI (t (b + i))).toInt64 = Int64.ofNat (wv t b (i + 1)) := by
        rw [nI_l (by omega)]
        show Int64.ofNat 256 * Int64.ofNat (wv t b i) + Int64.ofNat (t (b + i)) = _
        rw [← Int64.ofNat_mul, ← Int64.ofNat_add]
        rfl
      rw [nI_clamp (by omega), (hM.2.2 _ hk).2, sb_and _ hc, e1, nI_1]
      exact ih
  · have hwn : wn t b e = 1 := if_neg h8
    rw [hwn] at h
    exact c5 _ _ ⟨fun _ => h, fun _ => ye_ (nI_le (a := 8) (by omega) (by omega)) h⟩
end WRD
