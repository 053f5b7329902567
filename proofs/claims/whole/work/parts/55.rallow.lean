/-! the reference's sentences -/
section RALLOW
variable {σ : Sg} {f : Nat} {mp mg mc mw mf mt mh mm md mk' : Nat → Int32}
theorem r_isPart (hf : f < 2) (hR : RM σ f mp mk' mg mc mw mf mt mh mm md) (hV : VS σ) {p : Int32} {post : Int32 → Unit → Prop} (hs : ∀ j, j < nP σ → p = nI j → post 1 ()) (h0 : (¬ ∃ j, j < nP σ ∧ p = nI j) → post 0 ()) : wp_X6_isPart mp (nI f) p post := by
  have hn := hV.n10
  have := lt_wp (p := p) (nP σ) (by omega) hs h0
  refine ⟨this.1, fun h => ⟨vp_in_nI hf (by omega), ?_⟩⟩
  rw [nI_clamp (by omega), hR.1]
  exact this.2 h
theorem ix3 (a b f i j : Nat) : ((nI a * nI f) + (nI b * nI i)) + nI j = nI (a * f + b * i + j) := by rw [pk_mul, pk_mul, nI_add, nI_add]
theorem ix4 (a b c f i j d : Nat) : (((nI a * nI f) + (nI b * nI d)) + (nI c * nI i)) + nI j = nI (a * f + b * d + c * i + j) := by rw [pk_mul, pk_mul, pk_mul, nI_add, nI_add, nI_add]
theorem ix2 (a f i : Nat) : (nI a * nI f) + nI i = nI (a * f + i) := by rw [pk_mul, nI_add]
theorem ixC (f i j : Nat) : ((100 * nI f) + (10 * nI i)) + nI j = nI (100 * f + 10 * i + j) := ix3 100 10 f i j
theorem ixW (f i d j : Nat) : (((600 * nI f) + (100 * nI d)) + (10 * nI i)) + nI j = nI (600 * f + 100 * d + 10 * i + j) := ix4 600 100 10 f i j d
theorem ixH (f i d : Nat) : ((80 * nI f) + (8 * nI i)) + nI d = nI (80 * f + 8 * i + d) := ix3 80 8 f i d
theorem ixT (f i : Nat) : (10 * nI f) + nI i = nI (10 * f + i) := ix2 10 f i
theorem bI0 {b : Bool} : bI b = 0 ↔ b = false := by cases b <;> decide
theorem r_isAllowed (hf : f < 2) (hR : RM σ f mp mk' mg mc mw mf mt mh mm md) (hV : VS σ) {k : Nat} (hk : k < 7) {a b c : Int32} {post : Int32 → Unit → Prop} (h1 : al σ k a b c → post 1 ()) (h0 : ¬ al σ k a b c → post 0 ()) : wp_X6_isAllowed mp mc mw mf mh mm (nI f) (nI k) a b c post := by
  have hn := hV.n10
  have hff := hV.f20
  have hR0 := hR
  obtain ⟨r1, r2, r3, r4, r5, r6, r7, r8⟩ := hR
  unfold wp_X6_isAllowed
  match k, hk with
  | 0, _ =>
    refine ye_ (by decide) ⟨vp_in_nI hf (by omega), ?_⟩
    rw [nI_clamp (by omega), r1]
    refine pk_le 10 (nP σ) (fun h => h0 (fun q => by have := q.1; omega)) (fun h => ?_)
    refine lt_wp 10 (by omega) (fun i hi ea => ?_) (fun e => h0 (fun q => e q.2.1))
    have := lt_wp (p := b) 1000001 (by omega) (fun g hg eb => h1 ⟨h, ⟨i, hi, ea⟩, g, hg, eb⟩) (fun e => h0 (fun q => e q.2.2))
    refine ⟨this.1, fun q => ⟨fun q2 => (this.2 q).1 ?_, fun q2 => (this.2 q).2 ?_⟩⟩
    · obtain ⟨j, hj, rfl⟩ := nI_of q
      rw [show (1000000 : Int32) = nI 1000000 from rfl, nI_ltI (by omega) hj] at q2
      exact nI_le (by omega) hj
    · obtain ⟨j, hj, rfl⟩ := nI_of q
      rw [show (1000000 : Int32) = nI 1000000 from rfl, nI_ltI (by omega) hj] at q2
      exact nI_ge (by omega) (by omega)
  | 1, _ =>
    refine no_ (by decide) (ye_ (by decide) ?_)
    refine r_isPart hf hR0 hV (fun i hi ea => y1 ?_) (fun e => y0 (h0 ?_))
    · refine r_isPart hf hR0 hV (fun j hj eb => y1 ?_) (fun e => y0 (h0 ?_))
      · subst ea eb
        refine pk_eq i j (fun e => h0 ?_) (fun ne => ?_)
        · rintro ⟨i', j', q1, q2, q3, q4, q5, _⟩
          rw [nI_eq (by omega) (by omega)] at q3 q4
          omega
        · have e := ixC f i j
          refine ⟨pk_in (100 * f + 10 * i + j) 200 (by omega) e, ?_⟩
          rw [pk_cl _ e (by omega), r4 i j (by omega) (by omega), bI0]
          refine ⟨fun e => h1 ⟨i, j, hi, hj, rfl, rfl, ne, e⟩, fun e => h0 ?_⟩
          rintro ⟨i', j', q1, q2, q3, q4, q5, q6⟩
          rw [nI_eq (by omega) (by omega)] at q3 q4
          subst q3 q4
          exact e q6
      · rintro ⟨i', j', q1, q2, q3, q4, q5, _⟩
        exact e ⟨j', q2, q4⟩
    · rintro ⟨i', j', q1, q2, q3, q4, q5, _⟩
      exact e ⟨i', q1, q3⟩
  | 2, _ =>
    refine no_ (by decide) (no_ (by decide) (ye_ (by decide) ?_))
    refine r_isPart hf hR0 hV (fun i hi ea => y1 ?_) (fun e => y0 (h0 ?_))
    · refine lt_wp 6 (by omega) (fun d hd ed => ?_) (fun e => h0 ?_)
      · refine r_isPart hf hR0 hV (fun j hj eb => y1 ?_) (fun e => y0 (h0 ?_))
        · subst ea eb ed
          refine pk_eq i j (fun e => h0 ?_) (fun ne => ?_)
          · rintro ⟨i', d', j', q1, q2, q3, q4, q5, q6, q7, _⟩
            rw [nI_eq (by omega) (by omega)] at q4 q6
            omega
          · have e := ixW f i d j
            unfold wp_X6_wayAt
            refine ⟨pk_in (600 * f + 100 * d + 10 * i + j) 1200 (by omega) e, ?_⟩
            rw [pk_cl _ e (by omega), r5 d i j hd (by omega) (by omega), bI0]
            refine ⟨fun e => h1 ⟨i, d, j, hi, hd, hj, rfl, rfl, rfl, ne, e⟩, fun e => h0 ?_⟩
            rintro ⟨i', d', j', q1, q2, q3, q4, q5, q6, q7, q8⟩
            rw [nI_eq (by omega) (by omega)] at q4 q5 q6
            subst q4 q5 q6
            exact e q8
        · rintro ⟨i', d', j', q1, q2, q3, q4, q5, q6, q7, _⟩
          exact e ⟨j', q3, q6⟩
      · rintro ⟨i', d', j', q1, q2, q3, q4, q5, q6, q7, _⟩
        exact e ⟨d', q2, q5⟩
    · rintro ⟨i', d', j', q1, q2, q3, q4, q5, q6, q7, _⟩
      exact e ⟨i', q1, q4⟩
  | 3, _ =>
    refine no_ (by decide) (no_ (by decide) (no_ (by decide) (ye_ (by decide) ⟨vp_in_nI hf (by omega), ?_⟩)))
    rw [nI_clamp (by omega), r2]
    refine pk_le 20 (nF σ) (fun h => h0 (fun q => by have := q.1; omega)) (fun h => ?_)
    refine r_isPart hf hR0 hV (fun i hi ea => y1 ?_) (fun e => y0 (h0 ?_))
    · refine r_isPart hf hR0 hV (fun j hj eb => y1 ?_) (fun e => y0 (h0 ?_))
      · subst ea eb
        refine pk_eq i j (fun e => h0 ?_) (fun ne => ?_)
        · rintro ⟨_, i', j', g', q1, q2, _, q3, q4, _, q5⟩
          rw [nI_eq (by omega) (by omega)] at q3 q4
          omega
        · refine lt_wp 4 (by omega) (fun g hg ec => h1 ⟨h, i, j, g, hi, hj, hg, rfl, rfl, ec, ne⟩) (fun e => h0 ?_)
          rintro ⟨_, i', j', g', q1, q2, q6, q3, q4, q7, q5⟩
          exact e ⟨g', q6, q7⟩
      · rintro ⟨_, i', j', g', q1, q2, q6, q3, q4, q7, q5⟩
        exact e ⟨j', q2, q4⟩
    · rintro ⟨_, i', j', g', q1, q2, q6, q3, q4, q7, q5⟩
      exact e ⟨i', q1, q3⟩
  | 4, _ =>
    refine no_ (by decide) (no_ (by decide) (no_ (by decide) (no_ (by decide) (ye_ (by decide) ?_))))
    refine r_isPart hf hR0 hV (fun i hi ea => y1 ?_) (fun e => y0 (h0 ?_))
    · refine lt_wp 8 (by omega) (fun d hd ed => ?_) (fun e => h0 ?_)
      · subst ea ed
        have e := ixH f i d
        refine ⟨pk_in (80 * f + 8 * i + d) 160 (by omega) e, ?_⟩
        rw [pk_cl _ e (by omega), r6 i d (by omega) hd, bI0]
        refine ⟨fun e => h1 ⟨i, d, hi, hd, rfl, rfl, e⟩, fun e => h0 ?_⟩
        rintro ⟨i', d', q1, q2, q4, q5, q8⟩
        rw [nI_eq (by omega) (by omega)] at q4 q5
        subst q4 q5
        exact e q8
      · rintro ⟨i', d', q1, q2, q4, q5, _⟩
        exact e ⟨d', q2, q5⟩
    · rintro ⟨i', d', q1, q2, q4, q5, _⟩
      exact e ⟨i', q1, q4⟩
  | 5, _ =>
    refine no_ (by decide) (no_ (by decide) (no_ (by decide) (no_ (by decide) (no_ (by decide) (ye_ (by decide) ?_)))))
    refine r_isPart hf hR0 hV (fun i hi ea => y1 ?_) (fun e => y0 (h0 ?_))
    · refine lt_wp 4 (by omega) (fun d hd ed => ?_) (fun e => h0 ?_)
      · subst ea ed
        have e := ixT f i
        refine ⟨pk_in (10 * f + i) 20 (by omega) e, ?_⟩
        rw [pk_cl _ e (by omega), (r7 i (by omega)).1, fm_eq (hV.2.2.2.1 i).1 hd]
        refine ⟨fun e => h0 ?_, fun e => h1 ⟨i, d, hi, hd, rfl, rfl, e⟩⟩
        rintro ⟨i', d', q1, q2, q4, q5, q8⟩
        rw [nI_eq (by omega) (by omega)] at q4 q5
        subst q4 q5
        exact q8 e
      · rintro ⟨i', d', q1, q2, q4, q5, _⟩
        exact e ⟨d', q2, q5⟩
    · rintro ⟨i', d', q1, q2, q4, q5, _⟩
      exact e ⟨i', q1, q4⟩
  | 6, _ =>
    refine no_ (by decide) (no_ (by decide) (no_ (by decide) (no_ (by decide) (no_ (by decide) (no_ (by decide) ?_)))))
    refine r_isPart hf hR0 hV (fun i hi ea => y1 ?_) (fun e => y0 (h0 ?_))
    · refine lt_wp 4 (by omega) (fun d hd ed => h1 ⟨i, d, hi, hd, ea, ed⟩) (fun e => h0 ?_)
      rintro ⟨i', d', q1, q2, q4, q5⟩
      exact e ⟨d', q2, q5⟩
    · rintro ⟨i', d', q1, q2, q4, q5⟩
      exact e ⟨i', q1, q4⟩
theorem na1 : vp_nar .boolean 1 = 1 := rfl
theorem na0 : vp_nar .boolean 0 = 0 := rfl
/-- product f' is untouched -/
def KP (f f' : Nat) (mp mk mg mc mw mf mt mh mm md mp' mk' mg' mc' mw' mf' mt' mh' mm' md' : Nat → Int32) : Prop := f' ≠ f → f' < 2 → mp' f' = mp f' ∧ mf' f' = mf f' ∧ (∀ p, p < 10 → mk' (10 * f' + p) = mk (10 * f' + p) ∧ mg' (10 * f' + p) = mg (10 * f' + p) ∧ mm' (10 * f' + p) = mm (10 * f' + p) ∧ md' (10 * f' + p) = md (10 * f' + p)) ∧ (∀ q, q < 100 → mc' (100 * f' + q) = mc (100 * f' + q)) ∧ (∀ q, q < 600 → mw' (600 * f' + q) = mw (600 * f' + q)) ∧ (∀ q, q < 80 → mh' (80 * f' + q) = mh (80 * f' + q)) ∧ (∀ q, q < 60 → mt' (60 * f' + q) = mt (60 * f' + q))
theorem RM.keep {f' : Nat} {mp2 mk2 mg2 mc2 mw2 mf2 mt2 mh2 mm2 md2 : Nat → Int32} (hV : VS σ) (hR : RM σ f' mp mk' mg mc mw mf mt mh mm md) (hne : f' ≠ f) (hf : f' < 2) (h : KP f f' mp mk' mg mc mw mf mt mh mm md mp2 mk2 mg2 mc2 mw2 mf2 mt2 mh2 mm2 md2) : RM σ f' mp2 mk2 mg2 mc2 mw2 mf2 mt2 mh2 mm2 md2 := by
  obtain ⟨r1, r2, r3, r4, r5, r6, r7, r8⟩ := hR
  obtain ⟨k1, k2, k3, k4, k5, k6, k7⟩ := h hne hf
  have hn := hV.n10
  have hff := hV.f20
  refine ⟨k1.trans r1, k2.trans r2, ?_, ?_, ?_, ?_, ?_, ?_⟩
  · intro p hp
    rw [(k3 p (by omega)).1, (k3 p (by omega)).2.1]
    exact r3 p hp
  · intro a b ha hb
    rw [show 100 * f' + 10 * a + b = 100 * f' + (10 * a + b) by omega, k4 _ (by omega), show 100 * f' + (10 * a + b) = 100 * f' + 10 * a + b by omega]
    exact r4 a b ha hb
  · intro d p q hd hp hq
    rw [show 600 * f' + 100 * d + 10 * p + q = 600 * f' + (100 * d + 10 * p + q) by omega, k5 _ (by omega), show 600 * f' + (100 * d + 10 * p + q) = 600 * f' + 100 * d + 10 * p + q by omega]
    exact r5 d p q hd hp hq
  · intro p h hp hh
    rw [show 80 * f' + 8 * p + h = 80 * f' + (8 * p + h) by omega, k6 _ (by omega), show 80 * f' + (8 * p + h) = 80 * f' + 8 * p + h by omega]
    exact r6 p h hp hh
  · intro p hp
    rw [(k3 p hp).2.2.1, (k3 p hp).2.2.2]
    exact r7 p hp
  · intro q hq
    rw [show 60 * f' + 3 * q + 1 = 60 * f' + (3 * q + 1) by omega, show 60 * f' + 3 * q + 2 = 60 * f' + (3 * q + 2) by omega, k7 _ (by omega), k7 _ (by omega), k7 _ (by omega)]
    exact r8 q hq
end RALLOW
