section RFAM
variable {σ : Sg} {mp mg mc mw mf mt mh mm md mk' : Nat → Int32}
def asc (σ : Sg) (lo : Nat) : Nat → Nat
  | 0 => 1
  | j + 1 => asc σ lo j * sz1 σ (lo + j)
theorem asc_pg4 : asc σ 0 4 = pg σ 4 := by
  show (((1 * sz1 σ 0) * sz1 σ 1) * sz1 σ 2) * sz1 σ 3 = (((1 * sz1 σ 3) * sz1 σ 2) * sz1 σ 1) * sz1 σ 0
  rw [Nat.one_mul, Nat.one_mul]
  ac_rfl
theorem asc_pg {g : Nat} (hg : g < 4) : asc σ (g + 1) (3 - g) = pg σ (3 - g) := by
  match g, hg with
  | 0, _ =>
    show (((1 * sz1 σ 1) * sz1 σ 2) * sz1 σ 3) = (((1 * sz1 σ 3) * sz1 σ 2) * sz1 σ 1)
    rw [Nat.one_mul, Nat.one_mul]
    ac_rfl
  | 1, _ =>
    show ((1 * sz1 σ 2) * sz1 σ 3) = ((1 * sz1 σ 3) * sz1 σ 2)
    rw [Nat.one_mul, Nat.one_mul]
    ac_rfl
  | 2, _ => rfl
  | 3, _ => rfl
theorem mm_at (hV : VS σ) (hR : RM σ 0 mp mk' mg mc mw mf mt mh mm md) {q : Nat} (hq : q < 10) : mm q = nI (σ.1 3 q) - 1 := by
  have := (hR.2.2.2.2.2.2.1 q hq).1
  rwa [Nat.mul_zero, Nat.zero_add] at this
theorem r_sizeOf (hV : VS σ) (hR : RM σ 0 mp mk' mg mc mw mf mt mh mm md) {g : Nat} (hg : g < 4) {post : Int32 → Unit → Prop} (h : post (nI (szf σ g)) ()) : wp_X6_sizeOf mp mm (nI g) post := by
  have hn := hV.n10
  have m0 : mp (0 : Int32).toNatClampNeg = nI (nP σ) := hR.1
  unfold wp_X6_sizeOf
  intro A4 c4
  have loop := up (P := fun q => A4 (nI (cs (mS σ g) q)) (nI q)) (m := 0) (n := nP σ) (by omega) ?_ ?_
  · exact loop
  · refine c4 _ _ ⟨pk_in 0 2 (by omega), ?_⟩
    rw [m0]
    exact ye_ (nI_le (by omega) (by omega)) h
  · intro q _ hq ih
    refine c4 _ _ ⟨pk_in 0 2 (by omega), ?_⟩
    rw [m0, nI_clamp (by omega), mm_at hV hR (by omega), fm_eq (hV.2.2.2.1 q).1 hg, nI_1 q, Int32.add_zero, nI_1]
    refine no_ (nI_ge hq (by omega)) ⟨vp_in_nI (by omega) (by omega), ⟨fun e => ?_, fun e => ?_⟩⟩
    · rw [cs_1 (by simp [mS, e])] at ih; exact ih
    · rw [cs_0 (by simp [mS, e])] at ih; exact ih
theorem r_orderOf (hV : VS σ) (hR : RM σ 0 mp mk' mg mc mw mf mt mh mm md) {g p : Nat} (hp : p < nP σ) (hg : g < 4) (hf : σ.1 3 p = g + 1) {post : Int32 → Unit → Prop} (h : post (nI (cs (mS σ g) p)) ()) : wp_X6_orderOf mm (nI p) post := by
  have hn := hV.n10
  unfold wp_X6_orderOf
  intro A4 c4
  have loop := up (P := fun q => A4 (nI (cs (mS σ g) q)) (nI q)) (m := 0) (n := p) (by omega) ?_ ?_
  · exact loop
  · exact c4 _ _ (ye_ (nI_le (by omega) (by omega)) h)
  · intro q _ hq ih
    refine c4 _ _ ?_
    rw [nI_clamp (show q < 2 ^ 31 by omega), nI_clamp (show p < 2 ^ 31 by omega), mm_at hV hR (show q < 10 by omega), mm_at hV hR (show p < 10 by omega), hf, nI_pred, fm_eq (hV.2.2.2.1 q).1 hg, nI_1 q, Int32.add_zero, nI_1]
    refine no_ (nI_ge hq (by omega)) ⟨vp_in_nI (by omega) (by omega), vp_in_nI (by omega) (by omega), ⟨fun e => ?_, fun e => ?_⟩⟩
    · rw [cs_1 (by simp [mS, e])] at ih; exact ih
    · rw [cs_0 (by simp [mS, e])] at ih; exact ih
theorem r_sz2 (hV : VS σ) (hR : RM σ 0 mp mk' mg mc mw mf mt mh mm md) {g a : Nat} (hg : g < 4) {A : Int32 → Prop} (h : A (nI (a * sz1 σ g))) : wp_X6_sizeOf mp mm (nI g) (fun r _ => ((r ≤ 0 → A (nI a * 1)) ∧ (¬ r ≤ 0 → wp_X6_sizeOf mp mm (nI g) (fun r' _ => A (nI a * r'))))) := by
  have hn := hV.n10
  have hsl : szf σ g ≤ 10 := Nat.le_trans (cs_le _ _) hn
  refine r_sizeOf hV hR hg ?_
  refine pk_le (szf σ g) 0 (fun e => ?_) (fun e => ?_)
  · have s1 : sz1 σ g = 1 := by unfold sz1; rw [if_pos (by omega)]
    rw [s1, Nat.mul_one] at h
    rw [Int32.mul_one]; exact h
  · have s1 : sz1 σ g = szf σ g := by unfold sz1; rw [if_neg (by omega)]
    refine r_sizeOf hV hR hg ?_
    rw [s1] at h
    rw [pk_mul]; exact h
theorem r_isIn (hV : VS σ) (hR : RM σ 0 mp mk' mg mc mw mf mt mh mm md) {p c : Nat} (hp : p < nP σ) (hc : c < 2 ^ 31) {post : Int32 → Unit → Prop} (h1 : inV σ c p → post 1 ()) (h0 : ¬ inV σ c p → post 0 ()) : wp_X6_isIn mp mm (nI p) (nI c) post := by
  have hn := hV.n10
  have hfam := (hV.2.2.2.1 p).1
  unfold wp_X6_isIn
  intro A23 c23
  have vp : vp_in (nI p) 20 := vp_in_nI (by omega) (by omega)
  refine ⟨vp, ?_⟩
  rw [nI_clamp (by omega), mm_at hV hR (by omega)]
  rcases hg : σ.1 3 p with _ | g
  · refine no_ (by decide) (h1 (Or.inl hg))
  · have hg4 : g < 4 := by omega
    rw [nI_pred]
    refine ye_ (nI_pos' (by omega)) ⟨vp, ?_⟩
    have pb := pg_b4 hV (d := 3 - g) (by omega)
    have hsp := szf_pos hp hg
    have hsl : szf σ g ≤ 10 := Nat.le_trans (cs_le _ _) hn
    have hol := cs_le (mS σ g) p
    have loop := up (P := fun j => A23 (nI (asc σ (g + 1) j)) (nI (g + 1 + j))) (m := 0) (n := 3 - g) (by omega) ?_ ?_
    · rw [nI_1]; exact loop
    · rw [asc_pg hg4, show g + 1 + (3 - g) = 4 by omega]
      refine c23 _ _ (ye_ (nI_le (a := 4) (by omega) (by omega)) ⟨nI_ne0 (by omega) (by omega), vp, ?_⟩)
      rw [nI_clamp (by omega), mm_at hV hR (by omega), hg, nI_pred]
      refine r_sizeOf hV hR hg4 ⟨nI_ne0 (by omega) (by omega), ?_⟩
      refine r_orderOf hV hR hp hg4 hg ?_
      have hle : c / pg σ (3 - g) ≤ c := Nat.div_le_self _ _
      rw [pk_div hc (by omega) (by omega), pk_rem (by omega) (by omega) (by omega)]
      have hml : c / pg σ (3 - g) % szf σ g < szf σ g := Nat.mod_lt _ (by omega)
      rw [nI_eq (by omega) (by omega)]
      refine ⟨fun e => h1 (Or.inr ⟨g, hg4, hg, e⟩), fun e => h0 ?_⟩
      rintro (q | ⟨g', q1, q2, q3⟩)
      · omega
      · have : g' = g := by omega
        subst this
        exact e q3
    · intro j _ hj ih
      refine c23 _ _ (no_ (nI_ge (b := 4) (by omega) (by omega)) ?_)
      rw [nI_1]
      exact r_sz2 hV hR (A := fun x => A23 x (nI (g + 1 + j + 1))) (by omega) ih
theorem r_family (hV : VS σ) (hR : RM σ 0 mp mk' mg mc mw mf mt mh mm md) {fa p k : Int32} {post : Int32 → Int32 → Prop} (h1 : ∀ c, c < pg σ 4 → p = nI c → post (pick (inb σ c) k (nP σ) 0 0) 0) (h0 : (¬ ∃ c, c < pg σ 4 ∧ p = nI c) → post (-1) 0) : wp_X6_family mp mm fa p k post := by
  have hn := hV.n10
  have m0 : mp (0 : Int32).toNatClampNeg = nI (nP σ) := hR.1
  have pb := pg_b4 hV (d := 4) (by omega)
  unfold wp_X6_family
  intro A10 A61 c10 c61
  have loop := up (P := fun j => A10 (nI (asc σ 0 j)) (nI j) 0) (m := 0) (n := 4) (by omega) ?_ ?_
  · exact loop
  · rw [asc_pg4]
    refine c10 _ _ _ (ye_ (nI_le (a := 4) (by omega) (by omega)) ⟨fun e => h0 ?_, fun e => ?_⟩)
    · rintro ⟨c, q1, rfl⟩
      exact nI_pos (by omega) e
    · obtain ⟨c, hc, rfl⟩ := nI_of e
      refine pk_lt c (pg σ 4) (fun hlt => ?_) (fun hge => h0 ?_)
      · have loop2 : ∀ n m s, n + m = nP σ → post (pick (inb σ c) k n m s) 0 → A61 (nI s) (nI m) 0 := by
          intro n
          induction n with
          | zero =>
            intro m s hm hp
            refine c61 _ _ _ ⟨pk_in 0 2 (by omega), ?_⟩
            rw [m0]
            exact ye_ (nI_le (by omega) (by omega)) hp
          | succ n ih =>
            intro m s hm hp
            refine c61 _ _ _ ⟨pk_in 0 2 (by omega), ?_⟩
            rw [m0, nI_1, nI_1]
            refine no_ (nI_ge (by omega) (by omega)) ?_
            refine r_isIn hV hR (by omega) hc (fun g => y1 ?_) (fun g => y0 ?_)
            · rw [pick_s1 (inb_1.mpr g)] at hp
              refine ⟨fun q => ?_, fun q => ?_⟩
              · rw [if_pos q] at hp; exact hp
              · rw [if_neg q] at hp; exact ih _ _ (by omega) hp
            · rw [pick_s0 (inb_0.mpr g)] at hp
              exact ih _ _ (by omega) hp
        exact loop2 _ 0 0 rfl (h1 c hlt rfl)
      · rintro ⟨c', q1, q2⟩
        rw [nI_eq (by omega) (by omega)] at q2
        omega
  · intro j _ hj ih
    refine c10 _ _ _ (no_ (nI_ge (b := 4) (by omega) (by omega)) ?_)
    rw [nI_1]
    have hs : asc σ 0 (j + 1) = asc σ 0 j * sz1 σ j := by
      show asc σ 0 j * sz1 σ (0 + j) = _
      rw [Nat.zero_add]
    rw [hs] at ih
    exact r_sz2 hV hR (A := fun x => A10 x (nI (j + 1)) 0) hj ih
end RFAM
