/-! WRITING: the bytes, and the byte that is found -/
def fB (lf fo : Int32) : List Nat → Int32
  | [] => fo
  | b :: r => fB (lf - 1) (if lf = 0 then nI b else fo) r
theorem sub1 (lf : Int32) (n : Nat) : (lf - 1) - nI n = lf - nI (n + 1) := by
  rw [← nI_1]; grind
theorem fB_app (l r : List Nat) : ∀ lf fo, fB lf fo (l ++ r) = fB (lf - nI l.length) (fB lf fo l) r := by
  induction l with
  | nil => intro lf fo; show fB lf fo r = fB (lf - 0) fo r; rw [Int32.sub_zero]
  | cons b l ih =>
    intro lf fo
    show fB (lf - 1) _ (l ++ r) = fB (lf - nI (l.length + 1)) (fB (lf - 1) _ l) r
    rw [ih, sub1]
theorem fB_no : ∀ (l : List Nat) (lf fo : Int32), (∀ j, j < l.length → lf ≠ nI j) → fB lf fo l = fo
  | [], _, _, _ => rfl
  | b :: l, lf, fo, h => by
    have h0 : lf ≠ 0 := h 0 (Nat.zero_lt_succ _)
    show fB (lf - 1) (if lf = 0 then nI b else fo) l = fo
    rw [if_neg h0]
    refine fB_no l (lf - 1) fo (fun j hj e => h (j + 1) (Nat.succ_lt_succ hj) ?_)
    rw [← nI_1, ← e]; grind
theorem fB_neg {l : List Nat} {lf fo : Int32} (h : lf < 0) (hl : l.length < 2 ^ 31) : fB lf fo l = fo := fB_no l lf fo (fun j hj => ix_neg h (by omega))
theorem len_app {lf : Int32} (l r : List Nat) : (lf - nI l.length) - nI r.length = lf - nI (l ++ r).length := by
  rw [List.length_append, ← nI_add]; grind
/-- a word's bytes, the last n of them, and a blank -/
def wr (k : Nat) : Nat → List Nat
  | 0 => [32]
  | n + 1 => ch k (wl k - 1 - n) :: wr k n
def wB (k : Nat) : List Nat := wr k (wl k)
/-- how many times ten goes in -/
def ndf (v : Nat) : Nat → Nat → Nat
  | 0, j => j
  | n + 1, j => if v / 10 ^ j < 10 then j else ndf v n (j + 1)
def nd (v : Nat) : Nat := ndf v 8 0
def dgl (v : Nat) : Nat → List Nat
  | 0 => [48 + v / 10 ^ 0 % 10, 32]
  | j + 1 => (48 + v / 10 ^ (j + 1) % 10) :: dgl v j
def dB (v : Nat) : List Nat := dgl v (nd v)
def pB (k a b : Nat) : List Nat := wB k ++ (dB a ++ dB b)
theorem wr_len (k : Nat) : ∀ n, (wr k n).length = n + 1
  | 0 => rfl
  | n + 1 => by show (wr k n).length + 1 = _; rw [wr_len k n]
theorem dgl_len (v : Nat) : ∀ n, (dgl v n).length = n + 2
  | 0 => rfl
  | n + 1 => by show (dgl v n).length + 1 = _; rw [dgl_len v n]
theorem ndf_le (v : Nat) : ∀ n j, ndf v n j ≤ j + n
  | 0, j => Nat.le_refl _
  | n + 1, j => by
    show (if v / 10 ^ j < 10 then j else ndf v n (j + 1)) ≤ _
    have := ndf_le v n (j + 1)
    split <;> omega
theorem nd_le (v : Nat) : nd v ≤ 8 := by have := ndf_le v 8 0; unfold nd; omega
theorem dB_len (v : Nat) : (dB v).length ≤ 10 := by unfold dB; rw [dgl_len]; have := nd_le v; omega
theorem wB_len {k : Nat} (hk : k < 7) : (wB k).length ≤ 7 := by unfold wB; rw [wr_len]; have := wl_b k hk; omega
theorem pB_len {k : Nat} (hk : k < 7) (a b : Nat) : (pB k a b).length ≤ 27 := by
  unfold pB
  rw [List.length_append, List.length_append]
  have := wB_len hk
  have := dB_len a
  have := dB_len b
  omega
theorem p10 {j : Nat} (h : j ≤ 9) : 10 ^ j ≤ 1000000000 := Nat.pow_le_pow_right (n := 10) (by omega) h
theorem p10p (j : Nat) : 1 ≤ 10 ^ j := Nat.pos_of_ne_zero (by simp)
theorem lN_div {a b : Nat} (ha : a < 2 ^ 31) (h0 : 0 < b) (hb : b < 2 ^ 31) : lN a / lN b = lN (a / b) := by
  apply Int64.toInt_inj.mp
  have hd : a / b ≤ a := Nat.div_le_self _ _
  rw [lg_ldiv_nonneg (by rw [lN_toInt ha]; omega) (by rw [lN_toInt hb]; omega), lN_toInt ha, lN_toInt hb, lN_toInt (by omega)]
  rfl
theorem lN_rem10 {q : Nat} (hq : q < 2 ^ 31) : (lN q - lN q / 10 * 10).toInt32 = nI (q % 10) := by
  have e : lN q / 10 = lN (q / 10) := lN_div (b := 10) hq (by omega) (by omega)
  have e2 : lN (q / 10) * 10 = lN (q / 10 * 10) := lN_mul _ 10
  rw [e, e2, lN_sub (by omega), lN_i]
  congr 1
  omega
section CTELL
variable {lf fo : Int32}
theorem c_tellByte {b : Nat} {post : (Int32 × Int32) → Prop} (h : post (lf - 1, if lf = 0 then nI b else fo)) : wp_X3_tellByte lf fo (nI b) post := by
  unfold wp_X3_tellByte
  refine ⟨fun e => ?_, fun e => ?_⟩
  · rw [if_pos e] at h; exact h
  · rw [if_neg e] at h; exact h
theorem c_blank {post : (Int32 × Int32) → Prop} (h : post (lf - nI 1, fB lf fo [32])) : wp_X3_tellByte lf fo 32 post := c_tellByte (b := 32) h
theorem c_tellWord {k : Nat} (hk : k < 7) {post : (Int32 × Int32) → Prop} (h : post (lf - nI (wB k).length, fB lf fo (wB k))) : wp_X3_tellWord lf fo k post := by
  have hw := wl_b k hk
  have h9 : k < 9 := by omega
  unfold wp_X3_tellWord
  intro A2 c2
  have loop : ∀ n i, n + i = wl k → ∀ lf fo, post (lf - nI (wr k n).length, fB lf fo (wr k n)) → A2 (nI i) lf fo := by
    intro n
    induction n with
    | zero =>
      intro i hi lf fo hp
      refine c2 _ _ _ ⟨hk, h9, c_length hk (ye_ (nI_le (by omega) (by omega)) ?_)⟩
      exact c_blank hp
    | succ n ih =>
      intro i hi lf fo hp
      refine c2 _ _ _ ⟨hk, h9, c_length hk (no_ (nI_ge (by omega) (by omega)) ⟨hk, h9, c_charAt hk (by omega) ?_⟩)⟩
      refine c_tellByte ?_
      have e : wr k (n + 1) = ch k i :: wr k n := by
        show ch k (wl k - 1 - n) :: wr k n = _
        rw [show wl k - 1 - n = i by omega]
      rw [e] at hp
      rw [nI_1]
      refine ih (i + 1) (by omega) _ _ ?_
      rw [sub1]
      exact hp
  exact loop (wl k) 0 rfl lf fo h
theorem c_tellNumber {v : Nat} (hv : v < 1000000000) {post : (Int32 × Int32) → Prop} (h : post (lf - nI (dB v).length, fB lf fo (dB v))) : wp_X3_tellNumber lf fo (lN v) post := by
  unfold wp_X3_tellNumber
  intro A5 A37 c5 c37
  have l2 : ∀ j c, c + j ≤ 8 → ∀ lf fo, post (lf - nI (dgl v j).length, fB lf fo (dgl v j)) → A37 (lN (10 ^ j)) (nI c) lf fo := by
    intro j
    induction j with
    | zero =>
      intro c hc lf fo hp
      refine c37 _ _ _ _ (no_ (nI_ge (b := 9) (by omega) (by omega)) (no_ (by decide) ⟨by decide, by decide, ?_⟩))
      have e : lN v / lN (10 ^ 0) = lN (v / 10 ^ 0) := lN_div (by omega) (by decide) (by decide)
      rw [e, lN_rem10 (by rw [Nat.pow_zero, Nat.div_one]; omega)]
      have e2 : (48 : Int32) + nI (v / 10 ^ 0 % 10) = nI (48 + v / 10 ^ 0 % 10) := nI_add 48 _
      rw [e2]
      refine c_tellByte ⟨by decide, ?_⟩
      have e3 : lN (10 ^ 0) / 10 = 0 := by decide
      rw [e3, nI_1]
      refine c37 _ _ _ _ ⟨fun _ => ?_, fun _ => ye_ (by decide) ?_⟩
      · refine c_blank ?_
        rw [sub1]; exact hp
      · refine c_blank ?_
        rw [sub1]; exact hp
    | succ j ih =>
      intro c hc lf fo hp
      have b1 := p10 (show j + 1 ≤ 9 by omega)
      have b2 := p10p (j + 1)
      have b3 := p10p j
      refine c37 _ _ _ _ (no_ (nI_ge (b := 9) (by omega) (by omega)) (no_ ?_ ⟨?_, by decide, ?_⟩))
      · rw [lg_cmp_le, show (0 : Int64) = lN 0 from rfl, lN_le (by omega) (by omega)]; omega
      · rw [show (0 : Int64) = lN 0 from rfl, lN_eq (by omega) (by omega)]; omega
      have e : lN v / lN (10 ^ (j + 1)) = lN (v / 10 ^ (j + 1)) := lN_div (by omega) (by omega) (by omega)
      have hd : v / 10 ^ (j + 1) ≤ v := Nat.div_le_self _ _
      rw [e, lN_rem10 (by omega)]
      have e2 : (48 : Int32) + nI (v / 10 ^ (j + 1) % 10) = nI (48 + v / 10 ^ (j + 1) % 10) := nI_add 48 _
      rw [e2]
      refine c_tellByte ⟨by decide, ?_⟩
      have e3 : lN (10 ^ (j + 1)) / 10 = lN (10 ^ j) := by
        have : lN (10 ^ (j + 1)) / lN 10 = lN (10 ^ (j + 1) / 10) := lN_div (by omega) (by omega) (by omega)
        rw [Nat.pow_succ, Nat.mul_div_cancel _ (by omega)] at this
        rw [Nat.pow_succ]; exact this
      rw [e3, nI_1]
      refine ih (c + 1) (by omega) _ _ ?_
      rw [sub1]; exact hp
  have l1 : ∀ n j, n + j = 8 → nd v = ndf v n j → A5 (lN (10 ^ j)) (nI (j + 1)) lf fo := by
    intro n
    induction n with
    | zero =>
      intro j hj hn
      refine c5 _ _ _ _ (ye_ (nI_le (a := 9) (by omega) (by omega)) (l2 j 0 (by omega) lf fo ?_))
      have : nd v = j := hn
      unfold dB at h; rw [this] at h; exact h
    | succ n ih =>
      intro j hj hn
      have b1 := p10 (show j + 1 ≤ 9 by omega)
      have b2 := p10p j
      have b4 : 10 ^ (j + 1) = 10 ^ j * 10 := Nat.pow_succ ..
      have hd : v / 10 ^ j ≤ v := Nat.div_le_self _ _
      refine c5 _ _ _ _ (no_ (nI_ge (b := 9) (by omega) (by omega)) ⟨?_, ?_⟩)
      · rw [show (0 : Int64) = lN 0 from rfl, lN_eq (by omega) (by omega)]; omega
      rw [lN_div (by omega) (by omega) (by omega), lg_cmp_lt, show (10 : Int64) = lN 10 from rfl, lN_lt (by omega) (by omega), lN_mul, nI_1]
      refine ⟨fun q => ?_, fun q => ?_⟩
      · have e : ndf v (n + 1) j = j := if_pos q
        rw [e] at hn
        refine l2 j 0 (by omega) lf fo ?_
        unfold dB at h; rw [hn] at h; exact h
      · have e : ndf v (n + 1) j = ndf v n (j + 1) := if_neg q
        rw [e] at hn
        have := ih (j + 1) (by omega) hn
        rw [b4] at this; exact this
  exact l1 8 0 rfl rfl
theorem c_tellPair {k a b : Nat} (hk : k < 7) (ha : a < 1000000000) (hb : b < 1000000000) {post : (Int32 × Int32) → Prop} (h : post (lf - nI (pB k a b).length, fB lf fo (pB k a b))) : wp_X3_tellPair lf fo k (nI a) (nI b) post := by
  unfold wp_X3_tellPair
  refine c_tellWord hk ?_
  rw [nI_l (by omega), nI_l (by omega)]
  refine c_tellNumber ha ?_
  refine c_tellNumber hb ?_
  unfold pB at h
  rw [fB_app, fB_app, ← len_app, ← len_app] at h
  exact h
end CTELL
/-- f 0, f 1 .. one behind the other -/
def fl (f : Nat → List Nat) : Nat → List Nat
  | 0 => []
  | n + 1 => fl f n ++ f n
theorem fl_len {f : Nat → List Nat} {c : Nat} : ∀ n, (∀ m, m < n → (f m).length ≤ c) → (fl f n).length ≤ n * c
  | 0, _ => Nat.zero_le _
  | n + 1, h => by
    have h1 := fl_len n (fun m hm => h m (by omega))
    have h2 := h n (by omega)
    show (fl f n ++ f n).length ≤ _
    rw [List.length_append, Nat.succ_mul]; omega
theorem fl_ext {f g : Nat → List Nat} : ∀ n, (∀ m, m < n → f m = g m) → fl f n = fl g n
  | 0, _ => rfl
  | n + 1, h => by
    show fl f n ++ f n = fl g n ++ g n
    rw [fl_ext n (fun m hm => h m (by omega)), h n (by omega)]
theorem fl_cut {f : Nat → List Nat} {n : Nat} : ∀ d, (∀ m, n ≤ m → m < n + d → f m = []) → fl f (n + d) = fl f n
  | 0, _ => rfl
  | d + 1, h => by
    show fl f (n + d) ++ f (n + d) = _
    rw [fl_cut d (fun m h1 h2 => h m h1 (by omega)), h (n + d) (by omega) (by omega), List.append_nil]
/-- the rest of a row of lists -/
theorem fl_loop {f : Nat → List Nat} {n : Nat} {A : Nat → Int32 → Int32 → Prop} (lf fo : Int32) (hend : A n (lf - nI (fl f n).length) (fB lf fo (fl f n))) (hstep : ∀ m lf' fo', m < n → A (m + 1) (lf' - nI (f m).length) (fB lf' fo' (f m)) → A m lf' fo') : A 0 lf fo := by
  have := up (P := fun m => A m (lf - nI (fl f m).length) (fB lf fo (fl f m))) (m := 0) (n := n) (Nat.zero_le _) hend (fun m _ hm ih => hstep m _ _ hm (by
    have e1 : fl f (m + 1) = fl f m ++ f m := rfl
    rw [e1, fB_app, ← len_app] at ih
    exact ih))
  have e : lf - nI (fl f 0).length = lf := by show lf - 0 = lf; exact Int32.sub_zero lf
  rw [e] at this
  exact this
section CTELL2
variable {lf fo : Int32}
theorem c_tellEach {k p : Nat} {x : Int32} {S : Nat → Bool} (hS : ∀ i, i < 10 → bt x i = S i) (hk : k < 7) (hp : p < 1000000000) {post : (Int32 × Int32) → Prop} (h : post (lf - nI (fl (fun m => if S m then pB k p m else []) 10).length, fB lf fo (fl (fun m => if S m then pB k p m else []) 10))) : wp_X3_tellEach lf fo k (nI p) x post := by
  unfold wp_X3_tellEach
  intro A3 c3
  refine fl_loop (f := fun m => if S m then pB k p m else []) (n := 10) (A := fun m lf fo => A3 (nI m) lf fo) lf fo ?_ ?_
  · exact c3 _ _ _ (ye_ (nI_le (a := 10) (by omega) (by omega)) h)
  · intro m lf' fo' hm ih
    refine c3 _ _ _ (no_ (nI_ge (b := 10) hm (by omega)) ?_)
    rw [nI_1]
    refine c_contains (by omega) (fun e => y1 ?_) (fun e => y0 ?_)
    · rw [hS m hm] at e
      rw [if_pos e] at ih
      exact c_tellPair hk hp (by omega) ih
    · rw [hS m hm] at e
      rw [if_neg (by rw [e]; exact Bool.false_ne_true)] at ih
      have e0 : lf' - nI ([] : List Nat).length = lf' := Int32.sub_zero lf'
      rw [e0] at ih
      exact ih
theorem c_tellBars {p d : Nat} {x : Int32} {S : Nat → Bool} (hS : ∀ i, i < 10 → bt x i = S i) (hp : p < 1000000000) (hd : d < 1000000000) {post : (Int32 × Int32) → Prop} (h : post (lf - nI (fl (fun m => if S m then pB 2 p d ++ dB m else []) 10).length, fB lf fo (fl (fun m => if S m then pB 2 p d ++ dB m else []) 10))) : wp_X3_tellBars lf fo (nI p) (nI d) x post := by
  unfold wp_X3_tellBars
  intro A3 c3
  refine fl_loop (f := fun m => if S m then pB 2 p d ++ dB m else []) (n := 10) (A := fun m lf fo => A3 (nI m) lf fo) lf fo ?_ ?_
  · exact c3 _ _ _ (ye_ (nI_le (a := 10) (by omega) (by omega)) h)
  · intro m lf' fo' hm ih
    refine c3 _ _ _ (no_ (nI_ge (b := 10) hm (by omega)) ?_)
    rw [nI_1]
    refine c_contains (by omega) (fun e => y1 ?_) (fun e => y0 ?_)
    · rw [hS m hm] at e
      rw [if_pos e, fB_app, ← len_app] at ih
      refine c_tellPair (by omega) hp hd ?_
      rw [nI_l (by omega)]
      exact c_tellNumber (by omega) ih
    · rw [hS m hm] at e
      rw [if_neg (by rw [e]; exact Bool.false_ne_true)] at ih
      have e0 : lf' - nI ([] : List Nat).length = lf' := Int32.sub_zero lf'
      rw [e0] at ih
      exact ih
end CTELL2
