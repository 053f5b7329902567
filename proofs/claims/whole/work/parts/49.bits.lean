def bt (x : Int32) (i : Nat) : Bool := x.toBitVec.getLsbD i
theorem b_ext {x y : Int32} (h : ∀ i, i < 32 → bt x i = bt y i) : x = y := Int32.toBitVec_inj.mp (BitVec.eq_of_getLsbD_eq (fun i hi => h i hi))
theorem b_or (x y : Int32) (i : Nat) : bt (x ||| y) i = (bt x i || bt y i) := by unfold bt; rw [Int32.toBitVec_or, BitVec.getLsbD_or]
theorem b_and (x y : Int32) (i : Nat) : bt (x &&& y) i = (bt x i && bt y i) := by unfold bt; rw [Int32.toBitVec_and, BitVec.getLsbD_and]
theorem b_xor (x y : Int32) (i : Nat) : bt (x ^^^ y) i = (bt x i ^^ bt y i) := by unfold bt; rw [Int32.toBitVec_xor, BitVec.getLsbD_xor]
theorem b_big {x : Int32} {i : Nat} (h : 32 ≤ i) : bt x i = false := BitVec.getLsbD_of_ge _ _ h
theorem b_m1 : ∀ i, i < 32 → bt (-1) i = true := by decide +kernel
theorem b_0 (i : Nat) : bt 0 i = false := BitVec.getLsbD_zero
theorem s_l : ∀ n, n < 32 → ((nI n &&& 31).toBitVec.smod 32).toNat = n := by decide +kernel
theorem b_shl (n : Nat) (hn : n < 32) (x : Int32) {i : Nat} (hi : i < 32) : bt (x <<< (nI n &&& 31)) i = (decide (n ≤ i) && bt x (i - n)) := by
  unfold bt
  rw [Int32.toBitVec_shiftLeft]
  show (x.toBitVec <<< ((nI n &&& 31).toBitVec.smod 32).toNat).getLsbD i = _
  rw [s_l n hn, BitVec.getLsbD_shiftLeft]
  rcases Nat.lt_or_ge i n with h | h
  · simp [h, Nat.not_le.mpr h]
  · simp [hi, h, Nat.not_lt.mpr h]
theorem b_sshr (n : Nat) (hn : n < 32) (x : Int32) {i : Nat} (hi : i < 32) : bt (x >>> (nI n &&& 31)) i = if n + i < 32 then bt x (n + i) else bt x 31 := by
  unfold bt
  rw [Int32.toBitVec_shiftRight]
  show (x.toBitVec.sshiftRight ((nI n &&& 31).toBitVec.smod 32).toNat).getLsbD i = _
  rw [s_l n hn, BitVec.getLsbD_sshiftRight, BitVec.msb_eq_getLsbD_last]
  simp [hi]
theorem b_nI (n : Nat) {i : Nat} (hi : i < 32) : bt (nI n) i = n.testBit i := by
  show (BitVec.ofNat 32 n).getLsbD i = _
  rw [BitVec.getLsbD_ofNat]
  simp [hi]
theorem b_one {i : Nat} (hi : i < 32) : bt 1 i = decide (i = 0) := (by decide +kernel : ∀ i, i < 32 → bt 1 i = decide (i = 0)) i hi
/-- 1 << p -/
theorem b_pow {p : Nat} (hp : p < 32) {i : Nat} (hi : i < 32) : bt (1 <<< (nI p &&& 31)) i = decide (i = p) := by
  rw [b_shl p hp 1 hi]
  by_cases h : p ≤ i
  · rw [b_one (by omega)]
    by_cases h2 : i = p
    · subst h2; simp
    · simp [h, h2]; omega
  · simp [h]; omega
/-- the bit that 'contains' looks at -/
theorem b_has (x : Int32) {p : Nat} (hp : p < 32) : ((x >>> (nI p &&& 31)) &&& 1) = 0 ↔ bt x p = false := by
  have key : ∀ i, i < 32 → bt ((x >>> (nI p &&& 31)) &&& 1) i = (decide (i = 0) && bt x p) := by
    intro i hi
    rw [b_and, b_one hi, b_sshr p hp x hi]
    by_cases h : i = 0
    · subst h; simp [hp]
    · simp [h]
  constructor
  · intro h
    have h0 := key 0 (by omega)
    rw [h, b_0] at h0
    simpa using h0.symm
  · intro h
    apply b_ext
    intro i hi
    rw [key i hi, h, b_0]; simp
/-- x & y = 0, by bits -/
theorem b_and0 (x y : Int32) : x &&& y = 0 ↔ ∀ i, i < 32 → ¬ (bt x i = true ∧ bt y i = true) := by
  constructor
  · intro h i _ ⟨h1, h2⟩
    have h3 := b_and x y i
    rw [h, b_0, h1, h2] at h3
    cases h3
  · intro h
    apply b_ext
    intro i hi
    rw [b_and, b_0]
    have := h i hi
    cases h1 : bt x i <;> cases h2 : bt y i <;> simp_all
theorem b_not (y : Int32) {i : Nat} (hi : i < 32) : bt (y ^^^ (-1)) i = !bt y i := by
  rw [b_xor, b_m1 i hi]; simp
/-- x & ~y = 0: x within y -/
theorem b_sub0 (x y : Int32) : x &&& (y ^^^ (-1)) = 0 ↔ ∀ i, i < 32 → bt x i = true → bt y i = true := by
  rw [b_and0]
  constructor
  · intro h i hi h1
    have := h i hi
    rw [b_not y hi] at this
    cases h2 : bt y i <;> simp_all
  · intro h i hi ⟨h1, h2⟩
    rw [b_not y hi, h i hi h1] at h2
    cases h2
/-- a set of parts as an int: the bits below 10 are o's, the others 0 -/
def SB (x : Int32) (o : Nat → Bool) : Prop := ∀ i, i < 32 → bt x i = (decide (i < 10) && o i)
theorem SB.at {x : Int32} {o : Nat → Bool} (h : SB x o) {i : Nat} (hi : i < 10) : bt x i = o i := by rw [h i (by omega)]; simp [hi]
theorem SB.zero : SB 0 (fun _ => false) := fun i _ => by rw [b_0]; simp
theorem SB.cong {x : Int32} {o o' : Nat → Bool} (h : SB x o) (e : ∀ i, i < 10 → o i = o' i) : SB x o' := fun i hi => by
  rw [h i hi]
  by_cases h2 : i < 10
  · simp [h2, e i h2]
  · simp [h2]
theorem SB.add {x : Int32} {o : Nat → Bool} (h : SB x o) {p : Nat} (hp : p < 10) : SB (x ||| (1 <<< (nI p &&& 31))) (fun i => o i || decide (i = p)) := fun i hi => by
  rw [b_or, h i hi, b_pow (by omega) hi]
  by_cases h2 : i < 10
  · simp [h2]
  · simp [h2]; omega
theorem SB.one {p : Nat} (hp : p < 10) : SB (1 <<< (nI p &&& 31)) (fun i => decide (i = p)) := fun i hi => by
  rw [b_pow (by omega) hi]
  by_cases h2 : i < 10
  · simp [h2]
  · simp [h2]; omega
theorem SB.or {x y : Int32} {o o' : Nat → Bool} (h : SB x o) (h' : SB y o') : SB (x ||| y) (fun i => o i || o' i) := fun i hi => by
  rw [b_or, h i hi, h' i hi]
  by_cases h2 : i < 10 <;> simp [h2]
theorem SB.eq_iff {x y : Int32} {o o' : Nat → Bool} (h : SB x o) (h' : SB y o') : x = y ↔ ∀ i, i < 10 → o i = o' i := by
  constructor
  · intro e i hi
    rw [← h.at hi, ← h'.at hi, e]
  · intro e
    apply b_ext
    intro i hi
    rw [h i hi, h' i hi]
    by_cases h2 : i < 10
    · simp [h2, e i h2]
    · simp [h2]
/-- x within y, for a set x -/
theorem SB.sub0 {x y : Int32} {o : Nat → Bool} (h : SB x o) : x &&& (y ^^^ (-1)) = 0 ↔ ∀ i, i < 10 → o i = true → bt y i = true := by
  rw [b_sub0]
  constructor
  · intro g i hi ho
    exact g i (by omega) (by rw [h.at hi]; exact ho)
  · intro g i hi hx
    rw [h i hi] at hx
    by_cases h2 : i < 10
    · simp [h2] at hx
      exact g i h2 hx
    · simp [h2] at hx
theorem SB.and0 {x y : Int32} {o : Nat → Bool} (h : SB x o) : x &&& y = 0 ↔ ∀ i, i < 10 → ¬ (o i = true ∧ bt y i = true) := by
  rw [b_and0]
  constructor
  · intro g i hi ⟨h1, h2⟩
    exact g i (by omega) ⟨by rw [h.at hi]; exact h1, h2⟩
  · intro g i hi ⟨h1, h2⟩
    rw [h i hi] at h1
    by_cases h3 : i < 10
    · simp [h3] at h1
      exact g i h3 ⟨h1, h2⟩
    · simp [h3] at h1
/-! longs by their bits -/
def bl (x : Int64) (i : Nat) : Bool := x.toBitVec.getLsbD i
theorem l_ext {x y : Int64} (h : ∀ i, i < 64 → bl x i = bl y i) : x = y := Int64.toBitVec_inj.mp (BitVec.eq_of_getLsbD_eq (fun i hi => h i hi))
theorem l_or (x y : Int64) (i : Nat) : bl (x ||| y) i = (bl x i || bl y i) := by unfold bl; rw [Int64.toBitVec_or, BitVec.getLsbD_or]
theorem l_and (x y : Int64) (i : Nat) : bl (x &&& y) i = (bl x i && bl y i) := by unfold bl; rw [Int64.toBitVec_and, BitVec.getLsbD_and]
theorem l_0 (i : Nat) : bl 0 i = false := BitVec.getLsbD_zero
theorem l_one {i : Nat} (hi : i < 64) : bl 1 i = decide (i = 0) := (by decide +kernel : ∀ i, i < 64 → bl 1 i = decide (i = 0)) i hi
theorem l_sm : ∀ n, n < 64 → (((nI n).toInt64 &&& 63).toBitVec.smod 64).toNat = n := by decide +kernel
theorem l_shl (n : Nat) (hn : n < 64) (x : Int64) {i : Nat} (hi : i < 64) : bl (x <<< ((nI n).toInt64 &&& 63)) i = (decide (n ≤ i) && bl x (i - n)) := by
  unfold bl
  rw [Int64.toBitVec_shiftLeft]
  show (x.toBitVec <<< (((nI n).toInt64 &&& 63).toBitVec.smod 64).toNat).getLsbD i = _
  rw [l_sm n hn, BitVec.getLsbD_shiftLeft]
  rcases Nat.lt_or_ge i n with h | h
  · simp [h, Nat.not_le.mpr h]
  · simp [hi, h, Nat.not_lt.mpr h]
theorem l_shr (n : Nat) (hn : n < 64) (x : Int64) {i : Nat} (hi : i < 64) : bl (x >>> ((nI n).toInt64 &&& 63)) i = if n + i < 64 then bl x (n + i) else bl x 63 := by
  unfold bl
  rw [Int64.toBitVec_shiftRight]
  show (x.toBitVec.sshiftRight (((nI n).toInt64 &&& 63).toBitVec.smod 64).toNat).getLsbD i = _
  rw [l_sm n hn, BitVec.getLsbD_sshiftRight, BitVec.msb_eq_getLsbD_last]
  simp [hi]
theorem l_pow {p : Nat} (hp : p < 64) {i : Nat} (hi : i < 64) : bl (1 <<< ((nI p).toInt64 &&& 63)) i = decide (i = p) := by
  rw [l_shl p hp 1 hi]
  by_cases h : p ≤ i
  · rw [l_one (by omega)]
    by_cases h2 : i = p
    · subst h2; simp
    · simp [h, h2]; omega
  · simp [h]; omega
/-- isOff's bit -/
theorem l_has (x : Int64) {p : Nat} (hp : p < 64) : (x >>> ((nI p).toInt64 &&& 63)) &&& 1 = if bl x p then 1 else 0 := by
  apply l_ext
  intro i hi
  rw [l_and, l_one hi, l_shr p hp x hi]
  by_cases h : i = 0
  · subst h
    cases hb : bl x p
    · simp [hp, hb, l_0]
    · simp [hp, hb]; rfl
  · cases hb : bl x p
    · simp [h, l_0]
    · simp [h, l_one hi]
/-- a freed int as a long -/
theorem l_ofInt (x : Int32) {i : Nat} (hi : i < 32) : bl x.toInt64 i = bt x i := by
  show (x.toBitVec.signExtend 64).getLsbD i = _
  rw [BitVec.getLsbD_signExtend]
  simp [hi, show i < 64 by omega]
  rfl
/-- low bits of a long as an int -/
theorem l_low (x : Int64) {i : Nat} (hi : i < 32) : bt ((x &&& 1023).toInt32) i = (decide (i < 10) && bl x i) := by
  show ((x &&& 1023).toBitVec.signExtend 32).getLsbD i = _
  rw [BitVec.getLsbD_signExtend, Int64.toBitVec_and, BitVec.getLsbD_and]
  have : (Int64.toBitVec 1023).getLsbD i = decide (i < 10) := (by decide +kernel : ∀ i, i < 32 → (Int64.toBitVec 1023).getLsbD i = decide (i < 10)) i hi
  rw [this]
  simp [hi, show i < 64 by omega]
  rw [Bool.and_comm]
  rfl
