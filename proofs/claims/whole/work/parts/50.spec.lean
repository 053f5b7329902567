/-! THE PRODUCT AS NUMBERS AND BITS, and what class and reference hold of it -/
/-- numbers: 0: how many parts (0), fastenings (1); 1 kind, 2 grams, 3 family + 1 (0: none), 4 damage, by part; 5, 6, 7 ends and kind of a fastening. bits: 0 a b: a covers b; d + 1 p q: in direction d q bars p; 7 p h: p has hazard h -/
abbrev Sg : Type := (Nat → Nat → Nat) × (Nat → Nat → Nat → Bool)
def nP (σ : Sg) : Nat := σ.1 0 0
def nF (σ : Sg) : Nat := σ.1 0 1
def sN (σ : Sg) (f i v : Nat) : Sg := (fun a b => if a = f ∧ b = i then v else σ.1 a b, σ.2)
def sB (σ : Sg) (f i j : Nat) : Sg := (σ.1, fun a b c => if a = f ∧ b = i ∧ c = j then true else σ.2 a b c)
def VS (σ : Sg) : Prop := nP σ ≤ 10 ∧ nF σ ≤ 20 ∧ (∀ p, p < nP σ → σ.1 1 p < 10 ∧ σ.1 2 p ≤ 1000000) ∧ (∀ p, σ.1 3 p ≤ 4 ∧ σ.1 4 p < 4) ∧ (∀ p, nP σ ≤ p → σ.1 3 p = 0 ∧ σ.1 4 p = 0) ∧ (∀ k, k < nF σ → σ.1 5 k < nP σ ∧ σ.1 6 k < nP σ ∧ σ.1 7 k < 4) ∧
  (∀ a b, σ.2 0 a b = true → a < nP σ ∧ b < nP σ) ∧ (∀ d p q, d < 6 → σ.2 (d + 1) p q = true → p < nP σ ∧ q < nP σ) ∧ (∀ p h, σ.2 7 p h = true → p < nP σ ∧ h < 8)
/-- the class's product -/
def RC (σ : Sg) (kd : Nat → Int32) (gr : Nat → Int64) (cv br hz fm dm e1 e2 fk : Nat → Int32) (pn fn : Int32) : Prop := pn = nI (nP σ) ∧ fn = nI (nF σ) ∧
  (∀ p, p < nP σ → kd p = nI (σ.1 1 p) ∧ gr p = lN (σ.1 2 p) ∧ SB (cv p) (fun a => σ.2 0 a p) ∧ (∀ d, d < 6 → SB (br (p * 6 + d)) (fun q => σ.2 (d + 1) p q)) ∧ SB (hz p) (fun h => σ.2 7 p h) ∧ fm p = nI (σ.1 3 p) - 1 ∧ dm p = nI (σ.1 4 p)) ∧
  (∀ k, k < nF σ → e1 k = nI (σ.1 5 k) ∧ e2 k = nI (σ.1 6 k) ∧ fk k = nI (σ.1 7 k))
def bI (b : Bool) : Int32 := if b then 1 else 0
/-- the reference's product f -/
def RM (σ : Sg) (f : Nat) (mp mk mg mc mw mf mt mh mm md : Nat → Int32) : Prop := mp f = nI (nP σ) ∧ mf f = nI (nF σ) ∧
  (∀ p, p < nP σ → mk (10 * f + p) = nI (σ.1 1 p) ∧ mg (10 * f + p) = nI (σ.1 2 p)) ∧ (∀ a b, a < 10 → b < 10 → mc (100 * f + 10 * a + b) = bI (σ.2 0 a b)) ∧
  (∀ d p q, d < 6 → p < 10 → q < 10 → mw (600 * f + 100 * d + 10 * p + q) = bI (σ.2 (d + 1) p q)) ∧ (∀ p h, p < 10 → h < 8 → mh (80 * f + 8 * p + h) = bI (σ.2 7 p h)) ∧
  (∀ p, p < 10 → mm (10 * f + p) = nI (σ.1 3 p) - 1 ∧ md (10 * f + p) = nI (σ.1 4 p)) ∧
  (∀ k, k < nF σ → mt (60 * f + 3 * k) = nI (σ.1 5 k) ∧ mt (60 * f + 3 * k + 1) = nI (σ.1 6 k) ∧ mt (60 * f + 3 * k + 2) = nI (σ.1 7 k))
/-! an int that is no place below n -/
theorem ix_neg {p : Int32} (h : p < 0) {j : Nat} (hj : j < 2 ^ 31) : p ≠ nI j := fun e => nI_pos hj (e ▸ h)
theorem ix_big {p : Int32} {n : Nat} (h : nI n ≤ p) (hn : n < 2 ^ 31) {j : Nat} (hj : j < n) : p ≠ nI j := fun e => nI_ge hj hn (e ▸ h)
/-- the place that an int names below n, if it does -/
def ix (p : Int32) (n : Nat) : Option Nat := if 0 ≤ p.toInt ∧ p.toInt < n then some p.toInt.toNat else none
theorem ix_some {n j : Nat} (hj : j < n) (hn : n < 2 ^ 31) : ix (nI j) n = some j := by
  unfold ix
  rw [nI_toInt (by omega)]
  rw [if_pos ⟨by omega, by omega⟩]
  rfl
theorem ix_none {p : Int32} {n : Nat} (hn : n < 2 ^ 31) (h : p < 0 ∨ nI n ≤ p) : ix p n = none := by
  unfold ix
  rw [if_neg]
  rintro ⟨h1, h2⟩
  rcases h with h | h
  · rw [Int32.lt_iff_toInt_lt, Int32.toInt_zero] at h
    omega
  · rw [Int32.le_iff_toInt_le, nI_toInt hn] at h
    omega
/-- an int by cases: a place below n, or none -/
theorem ix_cases (p : Int32) {n : Nat} (hn : n < 2 ^ 31) : (∃ j, j < n ∧ p = nI j ∧ ix p n = some j) ∨ (ix p n = none ∧ (p < 0 ∨ nI n ≤ p)) := by
  rcases pk_ix p hn with h | h | ⟨j, hj, rfl⟩
  · exact Or.inr ⟨ix_none hn (Or.inl h), Or.inl h⟩
  · exact Or.inr ⟨ix_none hn (Or.inr h), Or.inr h⟩
  · exact Or.inl ⟨j, hj, rfl, ix_some hj hn⟩
/-- the two tests 0 ≤ p, p < n -/
theorem ix_wp {p : Int32} {n : Nat} (hn : n < 2 ^ 31) {A B : Prop} (hs : ∀ j, j < n → p = nI j → ix p n = some j → A) (h0 : ix p n = none → B) : ((p < 0 → B) ∧ (¬ p < 0 → ((nI n ≤ p → B) ∧ (¬ nI n ≤ p → A)))) := by
  rcases ix_cases p hn with ⟨j, hj, rfl, e⟩ | ⟨e, h⟩
  · exact ⟨fun h => absurd h (nI_pos (by omega)), fun _ => ⟨fun h => absurd h (nI_ge hj hn), fun _ => hs j hj rfl e⟩⟩
  · refine ⟨fun _ => h0 e, fun h1 => ⟨fun _ => h0 e, fun h2 => ?_⟩⟩
    rcases h with h | h
    · exact absurd h h1
    · exact absurd h h2
theorem c_isBelow {p : Int32} {n : Nat} (hn : n < 2 ^ 31) {post : Int32 → Unit → Prop} (hs : ∀ j, j < n → p = nI j → ix p n = some j → post 1 ()) (h0 : ix p n = none → post 0 ()) : wp_X5_isBelow p (nI n) post := ix_wp hn hs h0
theorem c_hasPart {p : Int32} {n : Nat} (hn : n < 2 ^ 31) {post : Int32 → Unit → Prop} (hs : ∀ j, j < n → p = nI j → ix p n = some j → post 1 ()) (h0 : ix p n = none → post 0 ()) : wp_X1_hasPart (nI n) p post := ix_wp hn hs h0
theorem c_contains {x : Int32} {p : Nat} (hp : p < 32) {post : Int32 → Unit → Prop} (h1 : bt x p = true → post 1 ()) (h0 : bt x p = false → post 0 ()) : wp_X5_contains x (nI p) post := by
  refine ⟨fun h => h0 ((b_has x hp).mp h), fun h => h1 ?_⟩
  cases hb : bt x p
  · exact absurd ((b_has x hp).mpr hb) h
  · rfl
theorem c_two {a b : Int32} {n : Nat} (hn : n < 2 ^ 31) {post : Int32 → Unit → Prop} (h1 : ∀ i j, i < n → j < n → a = nI i → b = nI j → ix a n = some i → ix b n = some j → i ≠ j → post 1 ()) (h0 : (ix a n = none ∨ ix b n = none ∨ ∃ i, ix a n = some i ∧ ix b n = some i) → post 0 ()) : wp_X1_areTwoParts (nI n) a b post := by
  unfold wp_X1_areTwoParts
  refine ix_wp hn (fun i hi ea ia => ?_) (fun e => h0 (Or.inl e))
  refine ix_wp hn (fun j hj eb ib => ?_) (fun e => h0 (Or.inr (Or.inl e)))
  refine ⟨fun e => h0 (Or.inr (Or.inr ⟨i, ia, ?_⟩)), fun e => h1 i j hi hj ea eb ia ib (fun h => e ?_)⟩
  · rw [← e]; exact ia
  · rw [ea, eb, h]
theorem c_bar (p d : Nat) {post : Int32 → Unit → Prop} (h : post (nI (p * 6 + d)) ()) : wp_X1_barIndex (nI p) (nI d) post := by
  unfold wp_X1_barIndex
  have e : nI p * 6 + nI d = nI (p * 6 + d) := by
    rw [show (6 : Int32) = nI 6 from rfl, pk_mul, nI_add]
  rw [e]; exact h
