/-! SENTENCES: what is allowed, what it makes; class and reference -/
theorem no_ {c A B : Prop} (h : ¬ c) (b : B) : (c → A) ∧ (¬ c → B) := ⟨fun e => absurd e h, fun _ => b⟩
theorem ye_ {c A B : Prop} (h : c) (a : A) : (c → A) ∧ (¬ c → B) := ⟨fun _ => a, fun e => absurd h e⟩
theorem y1 {A B : Prop} (b : B) : ((1 : Int32) = 0 → A) ∧ (¬ (1 : Int32) = 0 → B) := no_ (by decide) b
theorem y0 {A B : Prop} (a : A) : ((0 : Int32) = 0 → A) ∧ (¬ (0 : Int32) = 0 → B) := ye_ rfl a
theorem nb1 : narrow .boolean (.int 1) = .int 1 := rfl
theorem nb0 : narrow .boolean (.int 0) = .int 0 := rfl
def pl (a : Int32) : Nat := a.toNatClampNeg
theorem pl_n {i : Nat} (h : i < 2 ^ 31) : pl (nI i) = i := nI_clamp h
def al (σ : Sg) (k : Nat) (a b c : Int32) : Prop :=
  match k with
  | 0 => nP σ < 10 ∧ (∃ i, i < 10 ∧ a = nI i) ∧ ∃ g, g < 1000001 ∧ b = nI g
  | 1 => ∃ i j, i < nP σ ∧ j < nP σ ∧ a = nI i ∧ b = nI j ∧ i ≠ j ∧ σ.2 0 i j = false
  | 2 => ∃ i d j, i < nP σ ∧ d < 6 ∧ j < nP σ ∧ a = nI i ∧ b = nI d ∧ c = nI j ∧ i ≠ j ∧ σ.2 (d + 1) i j = false
  | 3 => nF σ < 20 ∧ ∃ i j g, i < nP σ ∧ j < nP σ ∧ g < 4 ∧ a = nI i ∧ b = nI j ∧ c = nI g ∧ i ≠ j
  | 4 => ∃ i h, i < nP σ ∧ h < 8 ∧ a = nI i ∧ b = nI h ∧ σ.2 7 i h = false
  | 5 => ∃ i g, i < nP σ ∧ g < 4 ∧ a = nI i ∧ b = nI g ∧ σ.1 3 i ≠ g + 1
  | _ => ∃ i g, i < nP σ ∧ g < 4 ∧ a = nI i ∧ b = nI g
def mk (σ : Sg) (k : Nat) (a b c : Int32) : Sg :=
  match k with
  | 0 => sN (sN (sN σ 1 (nP σ) (pl a)) 2 (nP σ) (pl b)) 0 0 (nP σ + 1)
  | 1 => sB σ 0 (pl a) (pl b)
  | 2 => sB σ (pl b + 1) (pl a) (pl c)
  | 3 => sN (sN (sN (sN σ 5 (nF σ) (pl a)) 6 (nF σ) (pl b)) 7 (nF σ) (pl c)) 0 1 (nF σ + 1)
  | 4 => sB σ 7 (pl a) (pl b)
  | 5 => sN σ 3 (pl a) (pl b + 1)
  | _ => sN σ 4 (pl a) (pl b)
/-- the two tests 0 ≤ p, p < n, with the place -/
theorem lt_wp {p : Int32} (n : Nat) (hn : n < 2 ^ 31) {A B : Prop} (hs : ∀ j, j < n → p = nI j → A) (h0 : (¬ ∃ j, j < n ∧ p = nI j) → B) : ((p < 0 → B) ∧ (¬ p < 0 → ((nI n ≤ p → B) ∧ (¬ nI n ≤ p → A)))) := by
  refine ix_wp hn (fun j hj e _ => hs j hj e) (fun e => h0 ?_)
  rintro ⟨j, hj, rfl⟩
  rw [ix_some hj hn] at e
  cases e
theorem k_below {p : Int32} (n : Nat) (hn : n < 2 ^ 31) {post : Int32 → Unit → Prop} (hs : ∀ j, j < n → p = nI j → post 1 ()) (h0 : (¬ ∃ j, j < n ∧ p = nI j) → post 0 ()) : wp_X5_isBelow p (nI n) post := lt_wp n hn hs h0
theorem k_has {p : Int32} (n : Nat) (hn : n < 2 ^ 31) {post : Int32 → Unit → Prop} (hs : ∀ j, j < n → p = nI j → post 1 ()) (h0 : (¬ ∃ j, j < n ∧ p = nI j) → post 0 ()) : wp_X1_hasPart (nI n) p post := lt_wp n hn hs h0
theorem k_two {a b : Int32} (n : Nat) (hn : n < 2 ^ 31) {post : Int32 → Unit → Prop} (h1 : ∀ i j, i < n → j < n → a = nI i → b = nI j → i ≠ j → post 1 ()) (h0 : (¬ ∃ i j, i < n ∧ j < n ∧ a = nI i ∧ b = nI j ∧ i ≠ j) → post 0 ()) : wp_X1_areTwoParts (nI n) a b post := by
  unfold wp_X1_areTwoParts
  refine lt_wp n hn (fun i hi ea => ?_) (fun e => h0 ?_)
  · refine lt_wp n hn (fun j hj eb => ?_) (fun e => h0 ?_)
    · refine ⟨fun e => h0 ?_, fun e => h1 i j hi hj ea eb (fun h => e (by rw [ea, eb, h]))⟩
      rintro ⟨i', j', hi', hj', ea', eb', ne⟩
      rw [ea'] at e
      rw [eb'] at e
      exact ne ((nI_eq (by omega) (by omega)).mp e)
    · rintro ⟨i', j', hi', hj', ea', eb', ne⟩
      exact e ⟨j', hj', eb'⟩
  · rintro ⟨i', j', hi', hj', ea', eb', ne⟩
    exact e ⟨i', hi', ea'⟩
section CALLOWS
variable {σ : Sg} {kd : Nat → Int32} {gr : Nat → Int64} {cv br hz fm dm e1 e2 fk : Nat → Int32} {pn fn : Int32}
theorem VS.n10 (h : VS σ) : nP σ ≤ 10 := h.1
theorem VS.f20 (h : VS σ) : nF σ ≤ 20 := h.2.1
theorem c_allowsPart (hV : VS σ) (hR : RC σ kd gr cv br hz fm dm e1 e2 fk pn fn) {a : Int32} {b : Int64} {post : Int32 → Unit → Prop} (h1 : ∀ i g, nP σ < 10 → i < 10 → g < 1000001 → a = nI i → b = lN g → post 1 ()) (h0 : (¬ (nP σ < 10 ∧ (∃ i, i < 10 ∧ a = nI i) ∧ ∃ g, g < 1000001 ∧ b = lN g)) → post 0 ()) : wp_X1_allowsPart pn a b post := by
  have hn := hV.n10
  unfold wp_X1_allowsPart
  rw [hR.1]
  refine pk_le 10 (nP σ) (fun h => h0 (fun q => by omega)) (fun h => ?_)
  refine k_below 10 (by omega) (fun i hi ea => y1 ?_) (fun e => y0 (h0 (fun q => e q.2.1)))
  refine ⟨fun e => h0 ?_, fun e => ⟨fun e2 => h0 ?_, fun e2 => ?_⟩⟩
  · rintro ⟨_, _, g, hg, rfl⟩
    rw [lg_cmp_lt, show (0 : Int64) = lN 0 from rfl, lN_lt (by omega) (by omega)] at e
    omega
  · rintro ⟨_, _, g, hg, rfl⟩
    rw [lg_cmp_gt, show (1000000 : Int64) = lN 1000000 from rfl, lN_lt (by omega) (by omega)] at e2
    omega
  · rw [lg_cmp_lt, Int64.lt_iff_toInt_lt] at e
    rw [lg_cmp_gt, Int64.lt_iff_toInt_lt] at e2
    have z0 : (0 : Int64).toInt = 0 := by decide
    have z1 : (1000000 : Int64).toInt = 1000000 := by decide
    rw [z0] at e
    rw [z1] at e2
    refine h1 i b.toInt.toNat h hi (by omega) ea (Int64.toInt_inj.mp ?_)
    rw [lN_toInt (by omega)]
    omega
theorem c_allowsFastening (hV : VS σ) (hR : RC σ kd gr cv br hz fm dm e1 e2 fk pn fn) {a b c : Int32} {post : Int32 → Unit → Prop} (h1 : al σ 3 a b c → post 1 ()) (h0 : ¬ al σ 3 a b c → post 0 ()) : wp_X1_allowsFastening pn fn a b c post := by
  have hn := hV.n10
  have hf := hV.f20
  unfold wp_X1_allowsFastening
  rw [hR.1, hR.2.1]
  refine pk_le 20 (nF σ) (fun h => h0 (fun q => by have := q.1; omega)) (fun h => ?_)
  refine k_two _ (by omega) (fun i j hi hj ea eb ne => y1 ?_) (fun e => y0 (h0 ?_))
  · refine k_below 4 (by omega) (fun g hg ec => y1 (h1 ⟨h, i, j, g, hi, hj, hg, ea, eb, ec, ne⟩)) (fun e => y0 (h0 ?_))
    rintro ⟨_, i', j', g', _, _, q, _, _, q2, _⟩
    exact e ⟨g', q, q2⟩
  · rintro ⟨_, i', j', g', p1, p2, _, p3, p4, _, p5⟩
    exact e ⟨i', j', p1, p2, p3, p4, p5⟩
theorem c_allowsCover (hV : VS σ) (hR : RC σ kd gr cv br hz fm dm e1 e2 fk pn fn) {a b c : Int32} {post : Int32 → Unit → Prop} (h1 : al σ 1 a b c → post 1 ()) (h0 : ¬ al σ 1 a b c → post 0 ()) : wp_X1_allowsCover cv pn a b post := by
  have hn := hV.n10
  unfold wp_X1_allowsCover
  rw [hR.1]
  refine k_two _ (by omega) (fun i j hi hj ea eb ne => y1 ?_) (fun e => y0 (h0 ?_))
  · subst ea eb
    refine ⟨vp_in_nI (by omega) (by omega), ?_⟩
    rw [nI_clamp (by omega)]
    have hS := (hR.2.2.1 j hj).2.2.1
    refine c_contains (by omega) (fun e => no_ (by decide) (h0 ?_)) (fun e => y0 (h1 ?_))
    · rintro ⟨i', j', q1, q2, q3, q4, _, q5⟩
      rw [nI_eq (by omega) (by omega)] at q3 q4
      subst q3 q4
      rw [hS.at (by omega)] at e
      rw [e] at q5; cases q5
    · rw [hS.at (by omega)] at e
      exact ⟨i, j, hi, hj, rfl, rfl, ne, e⟩
  · rintro ⟨i', j', p1, p2, p3, p4, p5, _⟩
    exact e ⟨i', j', p1, p2, p3, p4, p5⟩
theorem c_allowsBar (hV : VS σ) (hR : RC σ kd gr cv br hz fm dm e1 e2 fk pn fn) {a b c : Int32} {post : Int32 → Unit → Prop} (h1 : al σ 2 a b c → post 1 ()) (h0 : ¬ al σ 2 a b c → post 0 ()) : wp_X1_allowsBar br pn a b c post := by
  have hn := hV.n10
  unfold wp_X1_allowsBar
  rw [hR.1]
  refine k_two _ (by omega) (fun i j hi hj ea eb ne => y1 ?_) (fun e => y0 (h0 ?_))
  · refine k_below 6 (by omega) (fun d hd ec => y1 ?_) (fun e => y0 (h0 ?_))
    · subst ea eb ec
      refine c_bar i d ?_
      refine ⟨vp_in_nI (by omega) (by omega), ?_⟩
      rw [nI_clamp (by omega)]
      have hS := (hR.2.2.1 i hi).2.2.2.1 d hd
      refine c_contains (by omega) (fun e => no_ (by decide) (h0 ?_)) (fun e => y0 (h1 ?_))
      · rintro ⟨i', d', j', q1, q2, q3, q4, q5, q6, _, q7⟩
        rw [nI_eq (by omega) (by omega)] at q4 q5 q6
        subst q4 q5 q6
        rw [hS.at (by omega)] at e
        rw [e] at q7; cases q7
      · rw [hS.at (by omega)] at e
        exact ⟨i, d, j, hi, hd, hj, rfl, rfl, rfl, ne, e⟩
    · rintro ⟨i', d', j', _, q, _, _, q2, _⟩
      exact e ⟨d', q, q2⟩
  · rintro ⟨i', d', j', p1, _, p2, p3, _, p4, p5, _⟩
    exact e ⟨i', j', p1, p2, p3, p4, p5⟩
theorem c_allowsHazard (hV : VS σ) (hR : RC σ kd gr cv br hz fm dm e1 e2 fk pn fn) {a b c : Int32} {post : Int32 → Unit → Prop} (h1 : al σ 4 a b c → post 1 ()) (h0 : ¬ al σ 4 a b c → post 0 ()) : wp_X1_allowsHazard hz pn a b post := by
  have hn := hV.n10
  unfold wp_X1_allowsHazard
  rw [hR.1]
  refine k_has _ (by omega) (fun i hi ea => y1 ?_) (fun e => y0 (h0 ?_))
  · refine k_below 8 (by omega) (fun d hd ec => y1 ?_) (fun e => y0 (h0 ?_))
    · subst ea ec
      refine ⟨vp_in_nI (by omega) (by omega), ?_⟩
      rw [nI_clamp (by omega)]
      have hS := (hR.2.2.1 i hi).2.2.2.2.1
      refine c_contains (by omega) (fun e => no_ (by decide) (h0 ?_)) (fun e => y0 (h1 ?_))
      · rintro ⟨i', d', q1, q2, q4, q5, q7⟩
        rw [nI_eq (by omega) (by omega)] at q4 q5
        subst q4 q5
        rw [hS.at (by omega)] at e
        rw [e] at q7; cases q7
      · rw [hS.at (by omega)] at e
        exact ⟨i, d, hi, hd, rfl, rfl, e⟩
    · rintro ⟨i', d', _, q, _, q2, _⟩
      exact e ⟨d', q, q2⟩
  · rintro ⟨i', d', p1, _, p3, _⟩
    exact e ⟨i', p1, p3⟩
theorem fm_eq {m g : Nat} (hm : m ≤ 4) (hg : g < 4) : nI m - 1 = nI g ↔ m = g + 1 := by
  rcases m with _ | m
  · constructor
    · intro e
      exfalso
      have : ∀ g, g < 4 → ¬ nI 0 - 1 = nI g := by decide
      exact this g hg e
    · intro e; omega
  · rw [nI_pred, nI_eq (by omega) (by omega)]; omega
theorem c_allowsOption (hV : VS σ) (hR : RC σ kd gr cv br hz fm dm e1 e2 fk pn fn) {a b c : Int32} {post : Int32 → Unit → Prop} (h1 : al σ 5 a b c → post 1 ()) (h0 : ¬ al σ 5 a b c → post 0 ()) : wp_X1_allowsOption fm pn a b post := by
  have hn := hV.n10
  unfold wp_X1_allowsOption
  rw [hR.1]
  refine k_has _ (by omega) (fun i hi ea => y1 ?_) (fun e => y0 (h0 ?_))
  · refine k_below 4 (by omega) (fun d hd ec => y1 ?_) (fun e => y0 (h0 ?_))
    · subst ea ec
      refine ⟨vp_in_nI (by omega) (by omega), ?_⟩
      rw [nI_clamp (by omega), (hR.2.2.1 i hi).2.2.2.2.2.1, fm_eq (hV.2.2.2.1 i).1 hd]
      refine ⟨fun e => h0 ?_, fun e => h1 ⟨i, d, hi, hd, rfl, rfl, e⟩⟩
      rintro ⟨i', d', q1, q2, q4, q5, q7⟩
      rw [nI_eq (by omega) (by omega)] at q4 q5
      subst q4 q5
      exact q7 e
    · rintro ⟨i', d', _, q, _, q2, _⟩
      exact e ⟨d', q, q2⟩
  · rintro ⟨i', d', p1, _, p3, _⟩
    exact e ⟨i', p1, p3⟩
theorem c_allowsDamage (hV : VS σ) (hR : RC σ kd gr cv br hz fm dm e1 e2 fk pn fn) {a b c : Int32} {post : Int32 → Unit → Prop} (h1 : al σ 6 a b c → post 1 ()) (h0 : ¬ al σ 6 a b c → post 0 ()) : wp_X1_allowsDamage pn a b post := by
  have hn := hV.n10
  unfold wp_X1_allowsDamage
  rw [hR.1]
  refine k_has _ (by omega) (fun i hi ea => y1 ?_) (fun e => y0 (h0 ?_))
  · refine k_below 4 (by omega) (fun d hd ec => y1 (h1 ⟨i, d, hi, hd, ea, ec⟩)) (fun e => y0 (h0 ?_))
    rintro ⟨i', d', _, q, _, q2⟩
    exact e ⟨d', q, q2⟩
  · rintro ⟨i', d', p1, _, p3, _⟩
    exact e ⟨i', p1, p3⟩
theorem i64_al {b : Int32} {g : Nat} (hg : g < 1000001) : b.toInt64 = lN g ↔ b = nI g := by
  constructor
  · intro e
    have := congrArg Int64.toInt32 e
    rwa [lg_l2i_i2l, lN_i] at this
  · intro e; rw [e, nI_l (by omega)]
theorem c_allows (hV : VS σ) (hR : RC σ kd gr cv br hz fm dm e1 e2 fk pn fn) {k : Nat} (hk : k < 7) {a b c : Int32} {post : Int32 → Unit → Prop} (h1 : al σ k a b c → post 1 ()) (h0 : ¬ al σ k a b c → post 0 ()) : wp_X1_allows cv br hz fm pn fn k a b c post := by
  unfold wp_X1_allows
  refine ⟨hk, hk, ?_⟩
  match k, hk with
  | 0, _ =>
    refine ⟨pk_in 0 7 (by omega), ?_⟩
    refine ye_ (by decide) ?_
    refine c_allowsPart hV hR (fun i g q1 q2 q3 q4 q5 => ⟨nb1, h1 ⟨q1, ⟨i, q2, q4⟩, g, q3, (i64_al q3).mp q5⟩⟩) (fun e => ⟨nb0, h0 ?_⟩)
    rintro ⟨q1, q2, g, q3, q4⟩
    exact e ⟨q1, q2, g, q3, (i64_al q3).mpr q4⟩
  | 1, _ =>
    refine ⟨pk_in 1 7 (by omega), ?_⟩
    refine no_ (by decide) (ye_ (by decide) ?_)
    exact c_allowsCover hV hR (fun e => ⟨nb1, h1 e⟩) (fun e => ⟨nb0, h0 e⟩)
  | 2, _ =>
    refine ⟨pk_in 2 7 (by omega), ?_⟩
    refine no_ (by decide) (no_ (by decide) (ye_ (by decide) ?_))
    exact c_allowsBar hV hR (fun e => ⟨nb1, h1 e⟩) (fun e => ⟨nb0, h0 e⟩)
  | 3, _ =>
    refine ⟨pk_in 3 7 (by omega), ?_⟩
    refine no_ (by decide) (no_ (by decide) (no_ (by decide) (ye_ (by decide) ?_)))
    exact c_allowsFastening hV hR (fun e => ⟨nb1, h1 e⟩) (fun e => ⟨nb0, h0 e⟩)
  | 4, _ =>
    refine ⟨pk_in 4 7 (by omega), ?_⟩
    refine no_ (by decide) (no_ (by decide) (no_ (by decide) (no_ (by decide) (ye_ (by decide) ?_))))
    exact c_allowsHazard hV hR (fun e => ⟨nb1, h1 e⟩) (fun e => ⟨nb0, h0 e⟩)
  | 5, _ =>
    refine ⟨pk_in 5 7 (by omega), ?_⟩
    refine no_ (by decide) (no_ (by decide) (no_ (by decide) (no_ (by decide) (no_ (by decide) (ye_ (by decide) ?_)))))
    exact c_allowsOption hV hR (fun e => ⟨nb1, h1 e⟩) (fun e => ⟨nb0, h0 e⟩)
  | 6, _ =>
    refine ⟨pk_in 6 7 (by omega), ?_⟩
    refine no_ (by decide) (no_ (by decide) (no_ (by decide) (no_ (by decide) (no_ (by decide) (no_ (by decide) ?_)))))
    exact c_allowsDamage hV hR (fun e => ⟨nb1, h1 e⟩) (fun e => ⟨nb0, h0 e⟩)
end CALLOWS
