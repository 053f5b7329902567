/-! a sentence, and the whole text: the class -/
theorem mk_c {σ : Sg} {k : Nat} (hk : k < 7) (h2 : nK k = 2) {a b c c' : Int32} : mk σ k a b c = mk σ k a b c' := by
  match k, hk with
  | 0, _ => simp only [mk]
  | 1, _ => simp only [mk]
  | 2, _ => exact absurd h2 (by decide)
  | 3, _ => exact absurd h2 (by decide)
  | 4, _ => simp only [mk]
  | 5, _ => simp only [mk]
  | 6, _ => simp only [mk]
theorem mk_agr {σ : Sg} {k : Nat} (hk : k < 7) {a nu : Nat → Int32} (h : agr (nK k) a nu) : mk σ k (nu 0) (nu 1) (nu 2) = mk σ k (a 0) (a 1) (a 2) := by
  have hb := nK_b k hk
  rw [h 0 (by omega), h 1 (by omega)]
  rcases hb with h2 | h3
  · exact mk_c hk h2
  · rw [h 2 (by omega)]
noncomputable def nums (t : Nat → Nat) (L : Nat) (σ : Sg) (k : Nat) : Nat → Nat → (Nat → Int32) → Nat → Sg × Nat × Bool
  | 0, _, a, e => (mk σ k (a 0) (a 1) (a 2), e, true)
  | j + 1, m, a, e => if nb t L e < L then (match num t (nb t L e) (ne t L (nb t L e)) with
      | none => (σ, nb t L e, false)
      | some v => @ite _ (cbP σ k (m + 1) (upd a m (nI v))) (Classical.propDecidable _) (nums t L σ k j (m + 1) (upd a m (nI v)) (ne t L (nb t L e))) (σ, nb t L e, false)) else (σ, nb t L e, false)
noncomputable def sent (t : Nat → Nat) (L : Nat) (σ : Sg) (b : Nat) : Sg × Nat × Bool :=
  match vb t b (ne t L b) with
  | none => (σ, b, false)
  | some k => @ite _ (cbP σ k 0 (fun _ => 0)) (Classical.propDecidable _) (nums t L σ k (nK k) 0 (fun _ => 0) (ne t L b)) (σ, b, false)
noncomputable def run (t : Nat → Nat) (L : Nat) : Nat → Sg → Nat → Sg × Nat × Bool
  | 0, σ, e => (σ, e, true)
  | f + 1, σ, e => if nb t L e < L then (match sent t L σ (nb t L e) with
      | (σ', p, true) => run t L f σ' p
      | (σ', p, false) => (σ', p, false)) else (σ, nb t L e, true)
section NUMS
variable {t : Nat → Nat} {L : Nat} {σ : Sg} {k : Nat}
theorem nums_end {j m : Nat} {a : Nat → Int32} {e : Nat} (h : ¬ nb t L e < L) : nums t L σ k (j + 1) m a e = (σ, nb t L e, false) := if_neg h
theorem nums_no {j m : Nat} {a : Nat → Int32} {e : Nat} (h : nb t L e < L) (hn : num t (nb t L e) (ne t L (nb t L e)) = none) : nums t L σ k (j + 1) m a e = (σ, nb t L e, false) := by
  show (if nb t L e < L then _ else _) = _
  rw [if_pos h, hn]
theorem nums_bad {j m v : Nat} {a : Nat → Int32} {e : Nat} (h : nb t L e < L) (hn : num t (nb t L e) (ne t L (nb t L e)) = some v) (hc : ¬ cbP σ k (m + 1) (upd a m (nI v))) : nums t L σ k (j + 1) m a e = (σ, nb t L e, false) := by
  show (if nb t L e < L then _ else _) = _
  rw [if_pos h, hn]
  exact if_neg hc
theorem nums_ok {j m v : Nat} {a : Nat → Int32} {e : Nat} (h : nb t L e < L) (hn : num t (nb t L e) (ne t L (nb t L e)) = some v) (hc : cbP σ k (m + 1) (upd a m (nI v))) : nums t L σ k (j + 1) m a e = nums t L σ k j (m + 1) (upd a m (nI v)) (ne t L (nb t L e)) := by
  show (if nb t L e < L then _ else _) = _
  rw [if_pos h, hn]
  exact if_pos hc
theorem nums_b : ∀ j m (a : Nat → Int32) e, e ≤ L → e ≤ (nums t L σ k j m a e).2.1 ∧ (nums t L σ k j m a e).2.1 ≤ L
  | 0, _, _, e, he => ⟨Nat.le_refl _, he⟩
  | j + 1, m, a, e, he => by
    have h1 := nb_ge t L e
    have h2 := nb_le (t := t) he
    by_cases h : nb t L e < L
    · cases hn : num t (nb t L e) (ne t L (nb t L e)) with
      | none => rw [nums_no h hn]; exact ⟨h1, h2⟩
      | some v =>
        by_cases hc : cbP σ k (m + 1) (upd a m (nI v))
        · rw [nums_ok h hn hc]
          have h3 := ne_ge t L (nb t L e)
          have := nums_b j (m + 1) (upd a m (nI v)) (ne t L (nb t L e)) (ne_le h2)
          omega
        · rw [nums_bad h hn hc]; exact ⟨h1, h2⟩
    · rw [nums_end h]; exact ⟨h1, h2⟩
theorem sent_none {b : Nat} (h : vb t b (ne t L b) = none) : sent t L σ b = (σ, b, false) := by unfold sent; rw [h]
theorem sent_bad {b : Nat} (h : vb t b (ne t L b) = some k) (hc : ¬ cbP σ k 0 (fun _ => 0)) : sent t L σ b = (σ, b, false) := by
  unfold sent; rw [h]; exact if_neg hc
theorem sent_ok {b : Nat} (h : vb t b (ne t L b) = some k) (hc : cbP σ k 0 (fun _ => 0)) : sent t L σ b = nums t L σ k (nK k) 0 (fun _ => 0) (ne t L b) := by
  unfold sent; rw [h]; exact if_pos hc
theorem sent_b {b : Nat} (hb : b < L) (hg : ¬ gp t b) : (sent t L σ b).2.1 ≤ L ∧ ((sent t L σ b).2.2 = true → b < (sent t L σ b).2.1) := by
  cases h : vb t b (ne t L b) with
  | none => rw [sent_none h]; exact ⟨by show b ≤ L; omega, fun q => absurd q Bool.false_ne_true⟩
  | some k =>
    by_cases hc : cbP σ k 0 (fun _ => 0)
    · rw [sent_ok h hc]
      have h1 := ne_gt hb hg
      have h2 := ne_le (t := t) (show b ≤ L by omega)
      have := nums_b (t := t) (σ := σ) (k := k) (nK k) 0 (fun _ => 0) (ne t L b) h2
      exact ⟨this.2, fun _ => by omega⟩
    · rw [sent_bad h hc]; exact ⟨by show b ≤ L; omega, fun q => absurd q Bool.false_ne_true⟩
theorem cbP_0 {a b : Nat → Int32} (h : cbP σ k 0 a) : cbP σ k 0 b := cbP_cong (fun i hi => absurd hi (Nat.not_lt_zero i)) h
end NUMS
theorem m1_ne {v : Nat} (h : v < 2 ^ 31) : ¬ nI v = -1 := fun e => by
  have := nI_pos h
  rw [e] at this
  exact this (by decide)
section CSENT
variable {t : Nat → Nat} {L : Nat} {tx : Nat → Int32} {ln : Int32} {σ : Sg} {kd : Nat → Int32} {gr : Nat → Int64} {cv br hz fm dm e1 e2 fk : Nat → Int32} {pn fn : Int32}
theorem c_readSentence (hT : Tx t L tx ln) (hV : VS σ) (hR : RC σ kd gr cv br hz fm dm e1 e2 fk pn fn) {nu : Nat → Int32} {b : Nat} (hb : b < L) (hg : ¬ gp t b)
    {post : Int32 → ((Nat → Int32) × Int32 × Int32 × (Nat → Int32) × (Nat → Int64) × (Nat → Int32) × (Nat → Int32) × (Nat → Int32) × (Nat → Int32) × (Nat → Int32) × (Nat → Int32) × (Nat → Int32) × (Nat → Int32) × Int32 × Int32) → Prop}
    (h1 : ∀ nu' bg' e' σ' kd' gr' cv' br' hz' fm' dm' e1' e2' fk' pn' fn', sent t L σ b = (σ', e', true) → VS σ' → RC σ' kd' gr' cv' br' hz' fm' dm' e1' e2' fk' pn' fn' → post 1 (nu', bg', nI e', kd', gr', cv', br', hz', fm', dm', e1', e2', fk', pn', fn'))
    (h0 : ∀ nu' p en', sent t L σ b = (σ, p, false) → post 0 (nu', nI p, en', kd, gr, cv, br, hz, fm, dm, e1, e2, fk, pn, fn)) :
    wp_X2_readSentence tx nu ln (nI b) (nI (ne t L b)) kd gr cv br hz fm dm e1 e2 fk pn fn post := by
  unfold wp_X2_readSentence
  intro A23 c23
  have hbe := ne_ge t L b
  have heL := ne_le (t := t) (show b ≤ L by omega)
  refine c_verbHere hT hbe heL ⟨fun q => h0 _ b _ (sent_none q), fun k q => ?_⟩
  have hk := vb_lt q
  have hb2 := nK_b k hk
  have key : ∀ j m nu bg e (a : Nat → Int32), j + m = nK k → agr m a nu → cbP σ k m a → e ≤ L → sent t L σ b = nums t L σ k j m a e → A23 k (nI m) nu bg (nI e) kd gr cv br hz fm dm e1 e2 fk pn fn := by
    intro j
    induction j with
    | zero =>
      intro m nu bg e a hj ha hc he hs
      refine c23 _ _ _ _ _ _ _ _ _ _ _ _ _ _ _ _ _ ⟨hk, ?_⟩
      rw [nK_i k hk]
      refine ye_ (nI_le (by omega) (by omega)) ⟨v3_0, v3_1, v3_2, ?_⟩
      have hm : m = nK k := by omega
      subst hm
      have hal0 := (cbP_all hk (Nat.le_refl _) (by omega)).mp hc
      have hal : al σ k (nu 0) (nu 1) (nu 2) := (cbP_all hk (Nat.le_refl _) (by omega)).mp (cbP_cong (fun i hi => (ha i hi).symm) hc)
      refine c_carryOut hV hR hk hal ?_
      intro kd' gr' cv' br' hz' fm' dm' e1' e2' fk' pn' fn' hR'
      have hmk : mk σ k (nu 0) (nu 1) (nu 2) = mk σ k (a 0) (a 1) (a 2) := mk_agr hk ha
      refine h1 _ _ e (mk σ k (a 0) (a 1) (a 2)) _ _ _ _ _ _ _ _ _ _ _ _ hs (VS_mk hV hk hal0) ?_
      rw [← hmk]; exact hR'
    | succ j ih =>
      intro m nu bg e a hj ha hc he hs
      refine c23 _ _ _ _ _ _ _ _ _ _ _ _ _ _ _ _ _ ⟨hk, ?_⟩
      rw [nK_i k hk]
      refine no_ (nI_ge (by omega) (by omega)) (no_ (nI_ge (b := 3) (by omega) (by omega)) ?_)
      refine c_findWord hT he (fun hlt => ?_) (fun hL => ?_)
      · refine y1 ?_
        have g1 := ne_ge t L (nb t L e)
        have g2 := ne_le (t := t) (show nb t L e ≤ L by omega)
        refine c_numberHere hT g1 g2 (fun v hv => ?_) (fun hv => ?_)
        · have hv9 := num_lt hv
          refine no_ (m1_ne (by omega)) ⟨vp_in_nI (by omega) (by omega), ?_⟩
          rw [nI_clamp (by omega), nI_1]
          have hcb : cbP σ k (m + 1) (upd nu m (nI v)) ↔ cbP σ k (m + 1) (upd a m (nI v)) := upd_cb ha
          refine c_cg0 hV hR hk (by omega) (fun nu' ha' hc' => y1 ?_) (fun nu' ha' hc' => y0 ?_)
          · refine ih (m + 1) nu' _ _ (upd a m (nI v)) (by omega) (fun i hi => ?_) (hcb.mp hc') g2 ?_
            · rw [ha' i hi]
              by_cases q : i = m
              · subst q; rw [pk_us, pk_us]
              · rw [pk_un q, pk_un q]; exact ha i (by omega)
            · rw [hs]; exact nums_ok hlt hv (hcb.mp hc')
          · exact h0 _ _ _ (hs.trans (nums_bad hlt hv (fun g => hc' (hcb.mpr g))))
        · exact ye_ rfl (h0 _ _ _ (hs.trans (nums_no hlt hv)))
      · refine y0 ?_
        have := nums_end (t := t) (L := L) (σ := σ) (k := k) (j := j) (m := m) (a := a) (e := e) (by omega)
        rw [hL] at this
        exact h0 _ _ _ (hs.trans this)
  refine c_cg0 (m := 0) hV hR hk (by omega) (fun nu' _ hc => y1 ?_) (fun nu' _ hc => y0 ?_)
  · exact key (nK k) 0 nu' _ _ (fun _ => 0) rfl (fun i hi => absurd hi (Nat.not_lt_zero i)) (cbP_0 hc) heL (sent_ok q (cbP_0 hc))
  · exact h0 _ b _ (sent_bad q (fun g => hc (cbP_0 g)))
theorem run_end {f e : Nat} (h : ¬ nb t L e < L) : run t L (f + 1) σ e = (σ, nb t L e, true) := if_neg h
theorem run_ok {f e p : Nat} {σ' : Sg} (h : nb t L e < L) (hs : sent t L σ (nb t L e) = (σ', p, true)) : run t L (f + 1) σ e = run t L f σ' p := by
  show (if nb t L e < L then _ else _) = _
  rw [if_pos h, hs]
theorem run_bad {f e p : Nat} {σ' : Sg} (h : nb t L e < L) (hs : sent t L σ (nb t L e) = (σ', p, false)) : run t L (f + 1) σ e = (σ', p, false) := by
  show (if nb t L e < L then _ else _) = _
  rw [if_pos h, hs]
end CSENT
theorem c_readAll {t : Nat → Nat} {L : Nat} {tx : Nat → Int32} {ln : Int32} (hT : Tx t L tx ln) {σ : Sg} {kd : Nat → Int32} {gr : Nat → Int64} {cv br hz fm dm e1 e2 fk : Nat → Int32} {pn fn : Int32} (hV : VS σ) (hR : RC σ kd gr cv br hz fm dm e1 e2 fk pn fn) {nu : Nat → Int32} {bg en : Int32}
    {post : Int32 → ((Nat → Int32) × Int32 × Int32 × (Nat → Int32) × (Nat → Int64) × (Nat → Int32) × (Nat → Int32) × (Nat → Int32) × (Nat → Int32) × (Nat → Int32) × (Nat → Int32) × (Nat → Int32) × (Nat → Int32) × Int32 × Int32) → Prop}
    (h1 : ∀ nu' bg' en' σ' p kd' gr' cv' br' hz' fm' dm' e1' e2' fk' pn' fn', run t L 2000 σ 0 = (σ', p, true) → VS σ' → RC σ' kd' gr' cv' br' hz' fm' dm' e1' e2' fk' pn' fn' → post 1 (nu', bg', en', kd', gr', cv', br', hz', fm', dm', e1', e2', fk', pn', fn'))
    (h0 : ∀ nu' p en' σ' kd' gr' cv' br' hz' fm' dm' e1' e2' fk' pn' fn', run t L 2000 σ 0 = (σ', p, false) → post 0 (nu', nI p, en', kd', gr', cv', br', hz', fm', dm', e1', e2', fk', pn', fn')) :
    wp_X2_readAll tx nu ln bg en kd gr cv br hz fm dm e1 e2 fk pn fn post := by
  unfold wp_X2_readAll
  intro A12 c12
  have key : ∀ f s, f + s = 2000 → ∀ nu bg e τ kd gr cv br hz fm dm e1 e2 fk pn fn, VS τ → RC τ kd gr cv br hz fm dm e1 e2 fk pn fn → e ≤ L → run t L 2000 σ 0 = run t L f τ e → A12 (nI s) nu bg (nI e) kd gr cv br hz fm dm e1 e2 fk pn fn := by
    intro f
    induction f with
    | zero =>
      intro s hs nu bg e τ kd gr cv br hz fm dm e1 e2 fk pn fn hV hR he hr
      refine c12 _ _ _ _ _ _ _ _ _ _ _ _ _ _ _ _ (ye_ (nI_le (a := 2000) (by omega) (by omega)) ?_)
      exact h1 _ _ _ τ e _ _ _ _ _ _ _ _ _ _ _ _ hr hV hR
    | succ f ih =>
      intro s hs nu bg e τ kd gr cv br hz fm dm e1 e2 fk pn fn hV hR he hr
      refine c12 _ _ _ _ _ _ _ _ _ _ _ _ _ _ _ _ (no_ (nI_ge (b := 2000) (by omega) (by omega)) ?_)
      refine c_findWord hT he (fun hlt => ?_) (fun hL => ?_)
      · refine y1 ?_
        have hg := nb_gp hlt
        refine c_readSentence hT hV hR hlt hg ?_ ?_
        · intro nu' bg' e' σ' kd' gr' cv' br' hz' fm' dm' e1' e2' fk' pn' fn' hs' hV' hR'
          refine y1 ?_
          have hbd := sent_b (σ := τ) hlt hg
          rw [hs'] at hbd
          rw [nI_1]
          exact ih (s + 1) (by omega) _ _ _ σ' _ _ _ _ _ _ _ _ _ _ _ _ hV' hR' hbd.1 (by rw [hr]; exact run_ok hlt hs')
        · intro nu' p en' hs'
          refine y0 ?_
          exact h0 _ p _ τ _ _ _ _ _ _ _ _ _ _ _ _ (by rw [hr]; exact run_bad hlt hs')
      · refine y0 ?_
        exact h1 _ _ _ τ (nb t L e) _ _ _ _ _ _ _ _ _ _ _ _ (by rw [hr]; exact run_end (by omega)) hV hR
  exact key 2000 0 rfl nu 0 0 σ _ _ _ _ _ _ _ _ _ _ _ _ hV hR (Nat.zero_le _) rfl
