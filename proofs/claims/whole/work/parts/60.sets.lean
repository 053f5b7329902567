/-! SETS: plain, free, what comes off -/
/-- the k-th of S from m on, c seen so far, n to look at -/
def pick (S : Nat → Bool) (k : Int32) : Nat → Nat → Nat → Int32
  | 0, _, _ => -1
  | n + 1, m, c => if S m then (if nI c = k then nI m else pick S k n (m + 1) (c + 1)) else pick S k n (m + 1) c
theorem pick_none {S : Nat → Bool} {k : Int32} : ∀ (n m c : Nat), (∀ i, m ≤ i → i < m + n → S i = false) → pick S k n m c = -1
  | 0, _, _, _ => rfl
  | n + 1, m, c, h => by
    show (if S m then _ else _) = _
    rw [if_neg (by rw [h m (by omega) (by omega)]; exact Bool.false_ne_true)]
    exact pick_none n (m + 1) c (fun i h1 h2 => h i (by omega) (by omega))
theorem pick_ext {S S' : Nat → Bool} {k : Int32} : ∀ (n d m c : Nat), (∀ i, m ≤ i → i < m + n → S i = S' i) → (∀ i, m + n ≤ i → i < m + n + d → S i = false) → pick S k (n + d) m c = pick S' k n m c
  | 0, d, m, c, _, h => by
    rw [Nat.zero_add]
    exact pick_none d m c (fun i h1 h2 => h i (by omega) (by omega))
  | n + 1, d, m, c, h0, h => by
    rw [show n + 1 + d = n + d + 1 by omega]
    show (if S m then _ else _) = (if S' m then _ else _)
    rw [h0 m (by omega) (by omega), pick_ext n d (m + 1) (c + 1) (fun i h1 h2 => h0 i (by omega) (by omega)) (fun i h1 h2 => h i (by omega) (by omega)), pick_ext n d (m + 1) c (fun i h1 h2 => h0 i (by omega) (by omega)) (fun i h1 h2 => h i (by omega) (by omega))]
theorem pick_10 {S S' : Nat → Bool} {k : Int32} {n : Nat} (hn : n ≤ 10) (h0 : ∀ i, i < n → S i = S' i) (h : ∀ i, n ≤ i → i < 10 → S i = false) : pick S k 10 0 0 = pick S' k n 0 0 := by
  have := pick_ext (S := S) (S' := S') (k := k) n (10 - n) 0 0 (fun i _ h1 => h0 i (by omega)) (fun i h1 h2 => h i (by omega) (by omega))
  rwa [show n + (10 - n) = 10 by omega] at this
theorem pick_s1 {S : Nat → Bool} {k : Int32} {n m c : Nat} (h : S m = true) : pick S k (n + 1) m c = if nI c = k then nI m else pick S k n (m + 1) (c + 1) := if_pos h
theorem pick_s0 {S : Nat → Bool} {k : Int32} {n m c : Nat} (h : S m = false) : pick S k (n + 1) m c = pick S k n (m + 1) c := if_neg (by rw [h]; exact Bool.false_ne_true)
theorem sub_i (k : Int32) (c : Nat) : k - nI c = 0 ↔ nI c = k := by
  constructor
  · intro e
    rw [Int32.sub_eq_iff_eq_add, Int32.zero_add] at e
    exact e.symm
  · intro e; rw [e]; exact Int32.sub_self k
theorem sub_i1 (k : Int32) (c : Nat) : (k - nI c) + (-1) = k - nI (c + 1) := by
  rw [← nI_1, Int32.sub_eq_add_neg, Int32.sub_eq_add_neg, Int32.neg_add, Int32.sub_eq_add_neg, Int32.add_assoc]
theorem c_memberOf {x : Int32} {S : Nat → Bool} (hS : ∀ i, i < 10 → bt x i = S i) {k : Int32} {post : Int32 → Unit → Prop} (h : post (pick S k 10 0 0) ()) : wp_X5_memberOf x k post := by
  unfold wp_X5_memberOf
  intro A4 c4
  have loop : ∀ n m c, n + m = 10 → post (pick S k n m c) () → A4 (k - nI c) (nI m) := by
    intro n
    induction n with
    | zero =>
      intro m c hm hp
      refine c4 _ _ (ye_ (nI_le (a := 10) (by omega) (by omega)) hp)
    | succ n ih =>
      intro m c hm hp
      refine c4 _ _ (no_ (nI_ge (b := 10) (by omega) (by omega)) ?_)
      refine c_contains (by omega) (fun e => y1 ?_) (fun e => y0 ?_)
      · rw [hS m (by omega)] at e
        rw [pick_s1 e] at hp
        refine ⟨fun q => ?_, fun q => ?_⟩
        · rw [if_pos ((sub_i k c).mp q)] at hp; exact hp
        · rw [if_neg (fun q' => q ((sub_i k c).mpr q'))] at hp
          rw [sub_i1, nI_1]
          exact ih _ _ (by omega) hp
      · rw [hS m (by omega)] at e
        rw [pick_s0 e] at hp
        rw [nI_1]
        exact ih _ _ (by omega) hp
  have := loop 10 0 0 rfl h
  rwa [nI_0, Int32.sub_zero] at this
/-- a set built by a loop -/
def acc (S : Nat → Bool) : Nat → Int32
  | 0 => 0
  | n + 1 => if S n then acc S n ||| (1 <<< (nI n &&& 31)) else acc S n
theorem acc_1 {S : Nat → Bool} {n : Nat} (h : S n = true) : acc S (n + 1) = acc S n ||| (1 <<< (nI n &&& 31)) := if_pos h
theorem acc_0 {S : Nat → Bool} {n : Nat} (h : S n = false) : acc S (n + 1) = acc S n := if_neg (by rw [h]; exact Bool.false_ne_true)
theorem acc_SB {S : Nat → Bool} : ∀ n, n ≤ 10 → SB (acc S n) (fun i => decide (i < n) && S i)
  | 0, _ => SB.zero.cong (fun i _ => by simp)
  | n + 1, h => by
    cases hs : S n
    · rw [acc_0 hs]
      refine (acc_SB n (by omega)).cong (fun i hi => ?_)
      by_cases hin : i = n
      · subst hin; simp [hs]
      · simp [show (i < n + 1) = (i < n) from by simp; omega]
    · rw [acc_1 hs]
      refine ((acc_SB n (by omega)).add (by omega)).cong (fun i hi => ?_)
      by_cases hin : i = n
      · subst hin; simp [hs]
      · simp [hin, show (i < n + 1) = (i < n) from by simp; omega]
theorem acc_at {S : Nat → Bool} {n i : Nat} (hn : n ≤ 10) (hi : i < 10) : bt (acc S n) i = (decide (i < n) && S i) := (acc_SB n hn).at hi
/-- p lies bare with x off -/
def Pl (σ : Sg) (x : Int32) (p : Nat) : Prop := bt x p = false ∧ ∀ q, q < 10 → σ.2 0 q p = true → bt x q = true
def Fr (σ : Sg) (x : Int32) (p : Nat) : Prop := Pl σ x p ∧ ∃ d, d < 6 ∧ ∀ q, q < 10 → σ.2 (d + 1) p q = true → bt x q = true
section CSET
variable {σ : Sg} {kd : Nat → Int32} {gr : Nat → Int64} {cv br hz fm dm e1 e2 fk : Nat → Int32} {pn fn : Int32}
theorem c_isPlain (hV : VS σ) (hR : RC σ kd gr cv br hz fm dm e1 e2 fk pn fn) {p x : Int32} {post : Int32 → Unit → Prop} (h1 : ∀ i, i < nP σ → p = nI i → Pl σ x i → post 1 ()) (h0 : (¬ ∃ i, i < nP σ ∧ p = nI i ∧ Pl σ x i) → post 0 ()) : wp_X1_isPlain cv pn p x post := by
  have hn := hV.n10
  unfold wp_X1_isPlain
  rw [hR.1]
  refine k_has _ (by omega) (fun i hi ea => y1 ?_) (fun e => y0 (h0 ?_))
  · subst ea
    have un : (¬ Pl σ x i) → ¬ ∃ i', i' < nP σ ∧ nI i = nI i' ∧ Pl σ x i' := by
      rintro hp ⟨i', q1, q2, q3⟩
      rw [nI_eq (by omega) (by omega)] at q2
      subst q2
      exact hp q3
    refine c_contains (by omega) (fun e => y1 (h0 (un ?_))) (fun e => y0 ⟨vp_in_nI (by omega) (by omega), ?_⟩)
    · intro hp; rw [hp.1] at e; cases e
    · rw [nI_clamp (by omega), ((hR.2.2.1 i hi).2.2.1).sub0]
      exact ⟨fun q => h1 i hi rfl ⟨e, q⟩, fun q => h0 (un (fun hp => q hp.2))⟩
  · rintro ⟨i', q1, q2, q3⟩
    exact e ⟨i', q1, q2⟩
theorem c_isFree (hV : VS σ) (hR : RC σ kd gr cv br hz fm dm e1 e2 fk pn fn) {p x : Int32} {post : Int32 → Unit → Prop} (h1 : ∀ i, i < nP σ → p = nI i → Fr σ x i → post 1 ()) (h0 : (¬ ∃ i, i < nP σ ∧ p = nI i ∧ Fr σ x i) → post 0 ()) : wp_X1_isFree cv br pn p x post := by
  have hn := hV.n10
  unfold wp_X1_isFree
  intro A13 c13
  refine c_isPlain hV hR (fun i hi ea hp => y1 ?_) (fun e => y0 (h0 ?_))
  · subst ea
    have loop : ∀ m, m ≤ 6 → (∀ d, d < 6 - m → ¬ ∀ q, q < 10 → σ.2 (d + 1) i q = true → bt x q = true) → A13 (nI (6 - m)) := by
      intro m
      induction m with
      | zero =>
        intro _ hd
        refine c13 _ (ye_ (nI_le (a := 6) (by omega) (by omega)) (h0 ?_))
        rintro ⟨i', q1, q2, q3⟩
        rw [nI_eq (by omega) (by omega)] at q2
        subst q2
        obtain ⟨d, q4, q5⟩ := q3.2
        exact hd d q4 q5
      | succ m ih =>
        intro hm hd
        refine c13 _ (no_ (nI_ge (b := 6) (by omega) (by omega)) ?_)
        refine c_bar _ _ ⟨vp_in_nI (by omega) (by omega), ?_⟩
        rw [nI_clamp (by omega), ((hR.2.2.1 i hi).2.2.2.1 (6 - (m + 1)) (by omega)).sub0, nI_1, show 6 - (m + 1) + 1 = 6 - m by omega]
        refine ⟨fun q => h1 i hi rfl ⟨hp, 6 - (m + 1), by omega, fun q' hq' hb => q q' hq' (by rw [show 6 - (m + 1) + 1 = 6 - m by omega] at hb; exact hb)⟩, fun q => ih (by omega) ?_⟩
        intro d hd' hall
        by_cases hde : d = 6 - (m + 1)
        · subst hde
          rw [show 6 - (m + 1) + 1 = 6 - m by omega] at hall
          exact q hall
        · exact hd d (by omega) hall
    exact loop 6 (by omega) (fun d hd => by omega)
  · rintro ⟨i', q1, q2, q3⟩
    exact e ⟨i', q1, q2, q3.1⟩
end CSET
/-- one look at part p when kept stays on -/
noncomputable def sw1 (σ : Sg) (kept : Int32) (x : Int32) (p : Nat) : Int32 := @ite _ (nI p ≠ kept ∧ Fr σ x p) (Classical.propDecidable _) (x ||| (1 <<< (nI p &&& 31))) x
noncomputable def sw (σ : Sg) (kept : Int32) (x : Int32) : Nat → Int32
  | 0 => x
  | p + 1 => sw1 σ kept (sw σ kept x p) p
noncomputable def rd (σ : Sg) (kept : Int32) : Nat → Int32
  | 0 => 0
  | r + 1 => sw σ kept (rd σ kept r) (nP σ)
theorem rd_fix {σ : Sg} {kept : Int32} {r : Nat} (h : rd σ kept (r + 1) = rd σ kept r) : ∀ d, rd σ kept (r + d) = rd σ kept r
  | 0 => rfl
  | d + 1 => by
    show sw σ kept (rd σ kept (r + d)) (nP σ) = _
    rw [rd_fix h d]; exact h
section CSET2
variable {σ : Sg} {kd : Nat → Int32} {gr : Nat → Int64} {cv br hz fm dm e1 e2 fk : Nat → Int32} {pn fn : Int32}
theorem c_comingOff (hV : VS σ) (hR : RC σ kd gr cv br hz fm dm e1 e2 fk pn fn) {kept : Int32} {post : Int32 → Unit → Prop} (h : post (rd σ kept 10) ()) : wp_X1_comingOff cv br pn kept post := by
  have hn := hV.n10
  unfold wp_X1_comingOff
  intro A4 A16 c4 c16
  have loop : ∀ m, m ≤ 10 → A4 (rd σ kept (10 - m)) (nI (10 - m)) := by
    intro m
    induction m with
    | zero =>
      intro _
      exact c4 _ _ (ye_ (nI_le (a := 10) (by omega) (by omega)) h)
    | succ m ih =>
      intro hm
      refine c4 _ _ (no_ (nI_ge (b := 10) (by omega) (by omega)) ?_)
      have inner := up (P := fun j => A16 (sw σ kept (rd σ kept (10 - (m + 1))) j) (nI (10 - (m + 1))) (rd σ kept (10 - (m + 1))) (nI j)) (m := 0) (n := nP σ) (by omega) ?_ ?_
      · exact inner
      · refine c16 _ _ _ _ ?_
        rw [hR.1]
        refine ye_ (nI_le (by omega) (by omega)) ⟨fun e => ?_, fun e => ?_⟩
        · have e' : rd σ kept (10 - (m + 1) + 1) = rd σ kept (10 - (m + 1)) := e
          have := rd_fix e' (m + 1)
          rw [show 10 - (m + 1) + (m + 1) = 10 by omega] at this
          rw [e, ← this]; exact h
        · rw [nI_1, show 10 - (m + 1) + 1 = 10 - m by omega]
          have := ih (by omega)
          rw [show 10 - m = 10 - (m + 1) + 1 by omega] at this ⊢
          exact this
      · intro i _ hi ihh
        refine c16 _ _ _ _ ?_
        rw [hR.1]
        refine no_ (nI_ge hi (by omega)) ⟨fun e => ?_, fun e => ?_⟩
        · rw [nI_1]
          have : sw σ kept (rd σ kept (10 - (m + 1))) (i + 1) = sw σ kept (rd σ kept (10 - (m + 1))) i := if_neg (fun q => q.1 e)
          rw [this] at ihh; exact ihh
        · rw [← hR.1]
          refine c_isFree hV hR (fun j hj ej hf => y1 ?_) (fun q => y0 ?_)
          · rw [nI_eq (by omega) (by omega)] at ej
            subst ej
            rw [nI_1]
            have : sw σ kept (rd σ kept (10 - (m + 1))) (i + 1) = sw σ kept (rd σ kept (10 - (m + 1))) i ||| (1 <<< (nI i &&& 31)) := if_pos ⟨e, hf⟩
            rw [this] at ihh; exact ihh
          · rw [nI_1]
            have : sw σ kept (rd σ kept (10 - (m + 1))) (i + 1) = sw σ kept (rd σ kept (10 - (m + 1))) i := if_neg (fun q' => q ⟨i, hi, rfl, q'.2⟩)
            rw [this] at ihh; exact ihh
  exact loop 10 (by omega)
end CSET2
