/-! whether a sentence can still go on -/
def nK (k : Nat) : Nat := ([2, 2, 3, 3, 2, 2, 2] : List Nat).getD k 0
theorem nK_i : ∀ k, k < 7 → (([2, 2, 3, 3, 2, 2, 2] : List Int32).getD k 0) = nI (nK k) := by decide +kernel
theorem nK_b : ∀ k, k < 7 → (nK k = 2 ∨ nK k = 3) := by decide
def cbP (σ : Sg) (k m : Nat) (a : Nat → Int32) : Prop := ∃ x y z, x < 10 ∧ y < 10 ∧ z < 10 ∧ al σ k (if 0 < m then a 0 else nI x) (if 1 < m then a 1 else nI y) (if 2 < m then a 2 else nI z)
theorem al_c {σ : Sg} {k : Nat} (hk : k < 7) (h2 : nK k = 2) {a b c c' : Int32} (h : al σ k a b c) : al σ k a b c' := by
  match k, hk with
  | 0, _ => exact h
  | 1, _ => exact h
  | 2, _ => exact absurd h2 (by decide)
  | 3, _ => exact absurd h2 (by decide)
  | 4, _ => exact h
  | 5, _ => exact h
  | 6, _ => exact h
theorem cbP_cong {σ : Sg} {k m : Nat} {a a' : Nat → Int32} (h : ∀ i, i < m → a i = a' i) (hc : cbP σ k m a) : cbP σ k m a' := by
  obtain ⟨x, y, z, hx, hy, hz, hal⟩ := hc
  refine ⟨x, y, z, hx, hy, hz, ?_⟩
  have e0 : (if 0 < m then a 0 else nI x) = (if 0 < m then a' 0 else nI x) := by
    by_cases q : 0 < m
    · rw [if_pos q, if_pos q, h 0 q]
    · rw [if_neg q, if_neg q]
  have e1 : (if 1 < m then a 1 else nI y) = (if 1 < m then a' 1 else nI y) := by
    by_cases q : 1 < m
    · rw [if_pos q, if_pos q, h 1 q]
    · rw [if_neg q, if_neg q]
  have e2 : (if 2 < m then a 2 else nI z) = (if 2 < m then a' 2 else nI z) := by
    by_cases q : 2 < m
    · rw [if_pos q, if_pos q, h 2 q]
    · rw [if_neg q, if_neg q]
  rw [e0, e1, e2] at hal
  exact hal
/-- all numbers given: allowed or not -/
theorem cbP_all {σ : Sg} {k : Nat} (hk : k < 7) {m : Nat} (hm : nK k ≤ m) (hm3 : m ≤ 3) {a : Nat → Int32} : cbP σ k m a ↔ al σ k (a 0) (a 1) (a 2) := by
  have hb := nK_b k hk
  constructor
  · rintro ⟨x, y, z, hx, hy, hz, h⟩
    rw [if_pos (by omega), if_pos (by omega)] at h
    by_cases q : 2 < m
    · rw [if_pos q] at h; exact h
    · exact al_c hk (by omega) h
  · intro h
    refine ⟨0, 0, 0, by omega, by omega, by omega, ?_⟩
    rw [if_pos (by omega), if_pos (by omega)]
    by_cases q : 2 < m
    · rw [if_pos q]; exact h
    · rw [if_neg q]; exact al_c hk (by omega) h
/-- one number more, guessed -/
theorem cbP_step {σ : Sg} {k m : Nat} (hm : m < 3) {a : Nat → Int32} : cbP σ k m a ↔ ∃ x, x < 10 ∧ cbP σ k (m + 1) (upd a m (nI x)) := by
  have h : m = 0 ∨ m = 1 ∨ m = 2 := by omega
  rcases h with rfl | rfl | rfl
  · constructor
    · rintro ⟨x, y, z, hx, hy, hz, h⟩
      exact ⟨x, hx, 0, y, z, by omega, hy, hz, h⟩
    · rintro ⟨x, hx, x', y, z, hx', hy, hz, h⟩
      exact ⟨x, y, z, hx, hy, hz, h⟩
  · constructor
    · rintro ⟨x, y, z, hx, hy, hz, h⟩
      exact ⟨y, hy, 0, 0, z, by omega, by omega, hz, h⟩
    · rintro ⟨y, hy, x', y', z, hx', hy', hz, h⟩
      exact ⟨0, y, z, by omega, hy, hz, h⟩
  · constructor
    · rintro ⟨x, y, z, hx, hy, hz, h⟩
      exact ⟨z, hz, 0, 0, 0, by omega, by omega, by omega, h⟩
    · rintro ⟨z, hz, x', y', z', hx', hy', hz', h⟩
      exact ⟨0, 0, z, by omega, by omega, hz, h⟩
section CGO
variable {σ : Sg} {kd : Nat → Int32} {gr : Nat → Int64} {cv br hz fm dm e1 e2 fk : Nat → Int32} {pn fn : Int32}
def agr (m : Nat) (a b : Nat → Int32) : Prop := ∀ i, i < m → b i = a i
theorem v3_0 : vp_in 0 3 := pk_in 0 3 (by omega)
theorem v3_1 : vp_in 1 3 := pk_in 1 3 (by omega)
theorem v3_2 : vp_in 2 3 := pk_in 2 3 (by omega)
theorem c_cg3 (hV : VS σ) (hR : RC σ kd gr cv br hz fm dm e1 e2 fk pn fn) {k m : Nat} (hk : k < 7) (hm3 : m ≤ 3) (hd : nK k ≤ m) {nu : Nat → Int32} {post : Int32 → Unit → Prop} (h1 : cbP σ k m nu → post 1 ()) (h0 : ¬ cbP σ k m nu → post 0 ()) : wp_X2_canGoOn_3 nu cv br hz fm pn fn k (nI m) post := by
  unfold wp_X2_canGoOn_3
  refine ⟨hk, ?_⟩
  rw [nK_i k hk]
  refine pk_le (nK k) m (fun _ => ⟨v3_0, v3_1, v3_2, ?_⟩) (fun q => by omega)
  exact c_allows hV hR hk (fun q => ⟨nb1, h1 ((cbP_all hk hd hm3).mpr q)⟩) (fun q => ⟨nb0, h0 (fun g => q ((cbP_all hk hd hm3).mp g))⟩)
theorem agr_upd {m : Nat} {nu nu' : Nat → Int32} {v : Int32} (h : agr (m + 1) (upd nu m v) nu') : agr m nu nu' := fun i hi => by
  rw [h i (by omega), pk_un (by omega)]
theorem agr_tr {m : Nat} {a b c : Nat → Int32} (h : agr m a b) (h2 : agr m b c) : agr m a c := fun i hi => (h2 i hi).trans (h i hi)
theorem upd_cb {m k : Nat} {nu nu2 : Nat → Int32} {v : Int32} (hg : agr m nu nu2) : cbP σ k (m + 1) (upd nu2 m v) ↔ cbP σ k (m + 1) (upd nu m v) := by
  have e : ∀ i, i < m + 1 → upd nu2 m v i = upd nu m v i := fun i hi => by
    by_cases q : i = m
    · subst q; rw [pk_us, pk_us]
    · rw [pk_un q, pk_un q]; exact hg i (by omega)
  exact ⟨cbP_cong e, cbP_cong (fun i hi => (e i hi).symm)⟩
theorem cg_loop {k m : Nat} (hm : m < 3) {nu : Nat → Int32} {post : Int32 → (Nat → Int32) → Prop} {A40 : Int32 → (Nat → Int32) → Prop} {W : (Nat → Int32) → (Int32 → (Nat → Int32) → Prop) → Prop}
    (hW : ∀ nu' post', (∀ nu2, agr (m + 1) nu' nu2 → cbP σ k (m + 1) nu' → post' 1 nu2) → (∀ nu2, agr (m + 1) nu' nu2 → ¬ cbP σ k (m + 1) nu' → post' 0 nu2) → W nu' post')
    (cl : ∀ (v4 : Int32) (nuR : Nat → Int32), ((10 ≤ v4 → post 0 nuR) ∧ (¬ 10 ≤ v4 → (vp_in (nI m) 3 ∧ W (upd nuR (nI m).toNatClampNeg v4) (fun r_6 nu_7 => ((r_6 = 0 → A40 (v4 + 1) nu_7) ∧ (¬ r_6 = 0 → post 1 nu_7)))))) → A40 v4 nuR)
    (h1 : ∀ nu', agr m nu nu' → cbP σ k m nu → post 1 nu') (h0 : ∀ nu', agr m nu nu' → ¬ cbP σ k m nu → post 0 nu') : A40 0 nu := by
  have loop := up (P := fun x => ∀ nu2, agr m nu nu2 → (∀ x', x' < x → ¬ cbP σ k (m + 1) (upd nu m (nI x'))) → A40 (nI x) nu2) (m := 0) (n := 10) (by omega) ?_ ?_
  · exact loop nu (fun _ _ => rfl) (fun x' hx => absurd hx (Nat.not_lt_zero x'))
  · intro nu2 hg hno
    refine cl _ _ (ye_ (nI_le (a := 10) (by omega) (by omega)) (h0 nu2 hg ?_))
    rw [cbP_step hm]
    rintro ⟨x, hx, q⟩
    exact hno x hx q
  · intro x _ hx ih nu2 hg hno
    refine cl _ _ (no_ (nI_ge (b := 10) hx (by omega)) ⟨vp_in_nI hm (by omega), ?_⟩)
    rw [nI_clamp (by omega), nI_1]
    refine hW _ _ (fun nu3 hg3 q => y1 ?_) (fun nu3 hg3 q => y0 ?_)
    · refine h1 nu3 (agr_tr hg (agr_upd hg3)) ((cbP_step hm).mpr ⟨x, hx, (upd_cb hg).mp q⟩)
    · refine ih nu3 (agr_tr hg (agr_upd hg3)) (fun x' hx' => ?_)
      by_cases hxx : x' = x
      · subst hxx; exact fun g => q ((upd_cb hg).mpr g)
      · exact hno x' (by omega)
theorem c_cg2 (hV : VS σ) (hR : RC σ kd gr cv br hz fm dm e1 e2 fk pn fn) {k m : Nat} (hk : k < 7) (hm3 : m ≤ 3) (hd : nK k ≤ m + 1) {nu : Nat → Int32} {post : Int32 → (Nat → Int32) → Prop} (h1 : ∀ nu', agr m nu nu' → cbP σ k m nu → post 1 nu') (h0 : ∀ nu', agr m nu nu' → ¬ cbP σ k m nu → post 0 nu') : wp_X2_canGoOn_2 nu cv br hz fm pn fn k (nI m) post := by
  have hb := nK_b k hk
  unfold wp_X2_canGoOn_2
  intro A40 c40
  refine ⟨hk, ?_⟩
  rw [nK_i k hk]
  refine pk_le (nK k) m (fun q => ⟨v3_0, v3_1, v3_2, ?_⟩) (fun q => ye_ (nI_lt (b := 3) (by omega) (by omega)) ?_)
  · exact c_allows hV hR hk (fun g => ⟨nb1, h1 nu (fun _ _ => rfl) ((cbP_all hk q hm3).mpr g)⟩) (fun g => ⟨nb0, h0 nu (fun _ _ => rfl) (fun g2 => g ((cbP_all hk q hm3).mp g2))⟩)
  · refine cg_loop (σ := σ) (k := k) (by omega) (W := fun nu' post' => wp_X2_canGoOn_3 nu' cv br hz fm pn fn k (nI m + 1) (fun r _ => post' r nu')) ?_ c40 h1 h0
    intro nu' post' q1 q0
    rw [nI_1]
    exact c_cg3 hV hR hk (by omega) hd (fun g => q1 nu' (fun _ _ => rfl) g) (fun g => q0 nu' (fun _ _ => rfl) g)
theorem c_cg1 (hV : VS σ) (hR : RC σ kd gr cv br hz fm dm e1 e2 fk pn fn) {k m : Nat} (hk : k < 7) (hm3 : m ≤ 3) (hd : nK k ≤ m + 2) {nu : Nat → Int32} {post : Int32 → (Nat → Int32) → Prop} (h1 : ∀ nu', agr m nu nu' → cbP σ k m nu → post 1 nu') (h0 : ∀ nu', agr m nu nu' → ¬ cbP σ k m nu → post 0 nu') : wp_X2_canGoOn_1 nu cv br hz fm pn fn k (nI m) post := by
  have hb := nK_b k hk
  unfold wp_X2_canGoOn_1
  intro A40 c40
  refine ⟨hk, ?_⟩
  rw [nK_i k hk]
  refine pk_le (nK k) m (fun q => ⟨v3_0, v3_1, v3_2, ?_⟩) (fun q => ye_ (nI_lt (b := 3) (by omega) (by omega)) ?_)
  · exact c_allows hV hR hk (fun g => ⟨nb1, h1 nu (fun _ _ => rfl) ((cbP_all hk q hm3).mpr g)⟩) (fun g => ⟨nb0, h0 nu (fun _ _ => rfl) (fun g2 => g ((cbP_all hk q hm3).mp g2))⟩)
  · refine cg_loop (σ := σ) (k := k) (by omega) (W := fun nu' post' => wp_X2_canGoOn_2 nu' cv br hz fm pn fn k (nI m + 1) post') ?_ c40 h1 h0
    intro nu' post' q1 q0
    rw [nI_1]
    exact c_cg2 hV hR hk (by omega) hd q1 q0
theorem c_cg0 (hV : VS σ) (hR : RC σ kd gr cv br hz fm dm e1 e2 fk pn fn) {k m : Nat} (hk : k < 7) (hm3 : m ≤ 3) {nu : Nat → Int32} {post : Int32 → (Nat → Int32) → Prop} (h1 : ∀ nu', agr m nu nu' → cbP σ k m nu → post 1 nu') (h0 : ∀ nu', agr m nu nu' → ¬ cbP σ k m nu → post 0 nu') : wp_X2_canGoOn_0 nu cv br hz fm pn fn k (nI m) post := by
  have hb := nK_b k hk
  unfold wp_X2_canGoOn_0
  intro A40 c40
  refine ⟨hk, ?_⟩
  rw [nK_i k hk]
  refine pk_le (nK k) m (fun q => ⟨v3_0, v3_1, v3_2, ?_⟩) (fun q => ye_ (nI_lt (b := 3) (by omega) (by omega)) ?_)
  · exact c_allows hV hR hk (fun g => ⟨nb1, h1 nu (fun _ _ => rfl) ((cbP_all hk q hm3).mpr g)⟩) (fun g => ⟨nb0, h0 nu (fun _ _ => rfl) (fun g2 => g ((cbP_all hk q hm3).mp g2))⟩)
  · refine cg_loop (σ := σ) (k := k) (by omega) (W := fun nu' post' => wp_X2_canGoOn_1 nu' cv br hz fm pn fn k (nI m + 1) post') ?_ c40 h1 h0
    intro nu' post' q1 q0
    rw [nI_1]
    exact c_cg1 hV hR hk (by omega) (by omega) q1 q0
end CGO
section RCB
variable {σ : Sg} {f : Nat} {mp mg mc mw mf mt mh mm md mk' : Nat → Int32}
theorem r_canBe (hf : f < 2) (hR : RM σ f mp mk' mg mc mw mf mt mh mm md) (hV : VS σ) {k m : Nat} (hk : k < 7) (hm3 : m ≤ 3) {a : Nat → Int32} {post : Int32 → Unit → Prop} (h1 : cbP σ k m a → post 1 ()) (h0 : ¬ cbP σ k m a → post 0 ()) : wp_X6_canBe mp mc mw mf mh mm (nI f) (nI k) (nI m) (a 0) (a 1) (a 2) post := by
  unfold wp_X6_canBe
  intro A3 A13 A23 c3 c13 c23
  let Q : Nat → Nat → Nat → Prop := fun x y z => al σ k (if 0 < m then a 0 else nI x) (if 1 < m then a 1 else nI y) (if 2 < m then a 2 else nI z)
  have l3 := up (P := fun x => (∀ x', x' < x → ∀ y z, y < 10 → z < 10 → ¬ Q x' y z) → A3 (nI x)) (m := 0) (n := 10) (by omega) ?_ ?_
  · exact l3 (fun x' hx => absurd hx (Nat.not_lt_zero x'))
  · intro hno
    refine c3 _ (ye_ (nI_le (a := 10) (by omega) (by omega)) (h0 ?_))
    rintro ⟨x, y, z, hx, hy, hz, q⟩
    exact hno x hx y z hy hz q
  · intro x _ hx ih hno
    refine c3 _ (no_ (nI_ge (b := 10) hx (by omega)) ?_)
    have l2 := up (P := fun y => (∀ y', y' < y → ∀ z, z < 10 → ¬ Q x y' z) → A13 (nI x) (nI y)) (m := 0) (n := 10) (by omega) ?_ ?_
    · exact l2 (fun x' hx => absurd hx (Nat.not_lt_zero x'))
    · intro hno2
      refine c13 _ _ (ye_ (nI_le (a := 10) (by omega) (by omega)) ?_)
      rw [nI_1]
      refine ih (fun x' hx' y z hy hz => ?_)
      by_cases e : x' = x
      · subst e; exact hno2 y hy z hz
      · exact hno x' (by omega) y z hy hz
    · intro y _ hy ihy hno2
      refine c13 _ _ (no_ (nI_ge (b := 10) hy (by omega)) ?_)
      have l1 := up (P := fun z => (∀ z', z' < z → ¬ Q x y z') → A23 (nI x) (nI y) (nI z)) (m := 0) (n := 10) (by omega) ?_ ?_
      · exact l1 (fun x' hx => absurd hx (Nat.not_lt_zero x'))
      · intro hno3
        refine c23 _ _ _ (ye_ (nI_le (a := 10) (by omega) (by omega)) ?_)
        rw [nI_1]
        refine ihy (fun y' hy' z hz => ?_)
        by_cases e : y' = y
        · subst e; exact hno3 z hz
        · exact hno2 y' (by omega) z hz
      · intro z _ hz ihz hno3
        refine c23 _ _ _ (no_ (nI_ge (b := 10) hz (by omega)) ?_)
        have core : ∀ A B C : Int32, A = (if 0 < m then a 0 else nI x) → B = (if 1 < m then a 1 else nI y) → C = (if 2 < m then a 2 else nI z) → wp_X6_isAllowed mp mc mw mf mh mm (nI f) (nI k) A B C (fun r_7 _ => ((r_7 = 0 → A23 (nI x) (nI y) (nI z + 1)) ∧ (¬ r_7 = 0 → post 1 ()))) := by
          intro A B C eA eB eC
          subst eA eB eC
          rw [nI_1]
          refine r_isAllowed hf hR hV hk (fun q => y1 (h1 ⟨x, y, z, hx, hy, hz, q⟩)) (fun q => y0 (ihz (fun z' hz' => ?_)))
          by_cases e : z' = z
          · subst e; exact q
          · exact hno3 z' (by omega)
        refine pk_le m 0 (fun q0 => pk_le m 1 (fun q1 => pk_le m 2 (fun q2 => ?_) (fun q2 => ?_)) (fun q1 => pk_le m 2 (fun q2 => ?_) (fun q2 => ?_))) (fun q0 => pk_le m 1 (fun q1 => pk_le m 2 (fun q2 => ?_) (fun q2 => ?_)) (fun q1 => pk_le m 2 (fun q2 => ?_) (fun q2 => ?_)))
        · exact core _ _ _ (if_neg (by omega)).symm (if_neg (by omega)).symm (if_neg (by omega)).symm
        · omega
        · omega
        · omega
        · exact core _ _ _ (if_pos (by omega)).symm (if_neg (by omega)).symm (if_neg (by omega)).symm
        · omega
        · exact core _ _ _ (if_pos (by omega)).symm (if_pos (by omega)).symm (if_neg (by omega)).symm
        · exact core _ _ _ (if_pos (by omega)).symm (if_pos (by omega)).symm (if_pos (by omega)).symm
end RCB
