/-! a sentence, and the whole text: the reference -/
theorem KP.rf (f f' : Nat) (mp mk mg mc mw mf mt mh mm md : Nat → Int32) : KP f f' mp mk mg mc mw mf mt mh mm md mp mk mg mc mw mf mt mh mm md := fun _ _ => ⟨rfl, rfl, fun _ _ => ⟨rfl, rfl, rfl, rfl⟩, fun _ _ => rfl, fun _ _ => rfl, fun _ _ => rfl, fun _ _ => rfl⟩
theorem r_numbersOf {k : Nat} (hk : k < 7) {post : Int32 → Unit → Prop} (h : post (nI (nK k)) ()) : wp_X6_numbersOf (nI k) post := by
  unfold wp_X6_numbersOf
  match k, hk with
  | 0, _ => exact no_ (by decide) (no_ (by decide) h)
  | 1, _ => exact no_ (by decide) (no_ (by decide) h)
  | 2, _ => exact ye_ (by decide) h
  | 3, _ => exact no_ (by decide) (ye_ (by decide) h)
  | 4, _ => exact no_ (by decide) (no_ (by decide) h)
  | 5, _ => exact no_ (by decide) (no_ (by decide) h)
  | 6, _ => exact no_ (by decide) (no_ (by decide) h)
section RSENT
variable {t : Nat → Nat} {L : Nat} {mx : Nat → Int32} {sz : Int32} {σ : Sg} {mp mg mc mw mf mt mh mm md mk' : Nat → Int32}
theorem r_readSentence (hM : Mx t L mx sz) (hV : VS σ) (hR : RM σ 1 mp mk' mg mc mw mf mt mh mm md) {mn : Nat → Int32} {b : Nat} (hb : b < L) (hg : ¬ gp t b)
    {post : Int32 → ((Nat → Int32) × (Nat → Int32) × (Nat → Int32) × (Nat → Int32) × (Nat → Int32) × (Nat → Int32) × (Nat → Int32) × (Nat → Int32) × (Nat → Int32) × (Nat → Int32) × (Nat → Int32) × Int32) → Prop}
    (h1 : ∀ mn' e' σ' mp2 mk2 mg2 mc2 mw2 mf2 mt2 mh2 mm2 md2, sent t L σ b = (σ', e', true) → VS σ' → RM σ' 1 mp2 mk2 mg2 mc2 mw2 mf2 mt2 mh2 mm2 md2 → KP 1 0 mp mk' mg mc mw mf mt mh mm md mp2 mk2 mg2 mc2 mw2 mf2 mt2 mh2 mm2 md2 → post 1 (mp2, mk2, mg2, mc2, mw2, mf2, mt2, mh2, mm2, md2, mn', nI (nb t L e')))
    (h0 : ∀ mn' p, sent t L σ b = (σ, p, false) → post 0 (mp, mk', mg, mc, mw, mf, mt, mh, mm, md, mn', nI p)) :
    wp_X6_readSentence mp mk' mg mc mw mf mt mh mm md mx mn sz (nI b) post := by
  unfold wp_X6_readSentence
  intro A22 A80 c22 c80
  have hL := hM.1
  have hbe := ne_ge t L b
  have heL := ne_le (t := t) (show b ≤ L by omega)
  refine r_wordEnd hM (by omega) ?_
  refine r_wordOf hM hbe heL ?_
  have verbs : ∀ n k, n + k = 7 → vb t b (ne t L b) = vbf t b (ne t L b) n k → A22 (nI (ne t L b)) (Int64.ofNat (wn t b (ne t L b))) (nI k) mp mk' mg mc mw mf mt mh mm md mn (nI b) := by
    intro n
    induction n with
    | zero =>
      intro k hk hv
      have h7 : k = 7 := by omega
      subst h7
      exact c22 _ _ _ _ _ _ _ _ _ _ _ _ _ _ _ (ye_ (by decide) (ye_ (by decide) (h0 _ b (sent_none hv))))
    | succ n ih =>
      intro k hk hv
      have hk7 : k < 7 := by omega
      have hb2 := nK_b k hk7
      refine c22 _ _ _ _ _ _ _ _ _ _ _ _ _ _ _ (no_ (nI_ge (b := 7) hk7 (by omega)) ?_)
      refine r_nameOf hk7 ?_
      rw [lg_cmp_eq, o64 (Nat.lt_trans (nmO_b k hk7) (by decide)) (wn_b hM hbe heL), wn_isW hM hk7 hbe heL]
      refine ⟨fun hw => ?_, fun hw => ?_⟩
      · rw [vbf_1 hw] at hv
        have n7 : ¬ nI k = 7 := by
          show ¬ nI k = nI 7
          rw [nI_eq (by omega) (by omega)]; omega
        refine no_ n7 ?_
        have key : ∀ j m mn (a : Nat → Int32) e, j + m = nK k → agr m a mn → cbP σ k m a → e ≤ L → sent t L σ b = nums t L σ k j m a e → A80 (nI k) (nI m) mp mk' mg mc mw mf mt mh mm md mn (nI (nb t L e)) := by
          intro j
          induction j with
          | zero =>
            intro m mn a e hj ha hc he hs
            refine c80 _ _ _ _ _ _ _ _ _ _ _ _ _ _ ?_
            refine r_numbersOf hk7 ?_
            refine ye_ (nI_le (by omega) (by omega)) ⟨v3_0, v3_1, v3_2, ?_⟩
            have hm : m = nK k := by omega
            subst hm
            have hal0 := (cbP_all hk7 (Nat.le_refl _) (by omega)).mp hc
            have hal : al σ k (mn 0) (mn 1) (mn 2) := (cbP_all hk7 (Nat.le_refl _) (by omega)).mp (cbP_cong (fun i hi => (ha i hi).symm) hc)
            refine r_make (f := 1) (by omega) hR hV hk7 hal ?_
            intro mp2 mk2 mg2 mc2 mw2 mf2 mt2 mh2 mm2 md2 hR' hK
            have hmk : mk σ k (mn 0) (mn 1) (mn 2) = mk σ k (a 0) (a 1) (a 2) := mk_agr hk7 ha
            refine h1 _ e (mk σ k (a 0) (a 1) (a 2)) _ _ _ _ _ _ _ _ _ _ hs (VS_mk hV hk7 hal0) ?_ (hK 0)
            rw [← hmk]; exact hR'
          | succ j ihj =>
            intro m mn a e hj ha hc he hs
            have hnL := nb_le (t := t) he
            refine c80 _ _ _ _ _ _ _ _ _ _ _ _ _ _ ?_
            refine r_numbersOf hk7 ?_
            refine no_ (nI_ge (by omega) (by omega)) ?_
            refine r_wordEnd hM hnL ?_
            have vm : vp_in (nI m) 3 := vp_in_nI (by omega) (by omega)
            have hsz := hM.2.1
            rw [hsz]
            refine pk_le L (nb t L e) (fun q => ⟨vm, vm, ?_⟩) (fun q => ?_)
            · rw [nI_clamp (by omega)]
              refine ye_ (by rw [pk_us]; decide) (h0 _ _ (hs.trans (nums_end (by omega))))
            · have g1 := ne_ge t L (nb t L e)
              have g2 := ne_le (t := t) (show nb t L e ≤ L by omega)
              refine r_numberOf hM g1 g2 (fun v hv2 => ⟨vm, vm, ?_⟩) (fun hv2 => ⟨vm, vm, ?_⟩)
              · have hv9 := num_lt hv2
                rw [nI_clamp (show m < 2 ^ 31 by omega), pk_us]
                refine no_ (nI_pos (by omega)) ⟨v3_0, v3_1, v3_2, ?_⟩
                rw [nI_1]
                have hcb : cbP σ k (m + 1) (upd mn m (nI v)) ↔ cbP σ k (m + 1) (upd a m (nI v)) := upd_cb ha
                refine r_canBe (f := 1) (a := upd mn m (nI v)) (by omega) hR hV hk7 (by omega) (fun hc' => y1 ?_) (fun hc' => y0 ?_)
                · rw [← hsz]
                  refine r_wordBegin hM g2 ?_
                  refine ihj (m + 1) _ (upd a m (nI v)) _ (by omega) (fun i hi => ?_) (hcb.mp hc') g2 ?_
                  · by_cases q : i = m
                    · subst q; rw [pk_us, pk_us]
                    · rw [pk_un q, pk_un q]; exact ha i (by omega)
                  · rw [hs]; exact nums_ok q hv2 (hcb.mp hc')
                · exact h0 _ _ (hs.trans (nums_bad q hv2 (fun g => hc' (hcb.mpr g))))
              · rw [nI_clamp (show m < 2 ^ 31 by omega), pk_us]
                exact ye_ (by decide) (h0 _ _ (hs.trans (nums_no q hv2)))
        refine r_canBe (f := 1) (m := 0) (a := fun _ => 0) (by omega) hR hV hk7 (by omega) (fun hc => y1 ?_) (fun hc => y0 ?_)
        · refine r_wordBegin hM heL ?_
          exact key (nK k) 0 mn (fun _ => 0) _ rfl (fun i hi => absurd hi (Nat.not_lt_zero i)) hc heL (sent_ok hv hc)
        · exact h0 _ b (sent_bad hv hc)
      · rw [vbf_0 hw] at hv
        rw [nI_1]
        exact ih (k + 1) (by omega) hv
  exact verbs 7 0 rfl rfl
theorem KP.tr {f f' : Nat} {mp mk mg mc mw mf mt mh mm md mp1 mk1 mg1 mc1 mw1 mf1 mt1 mh1 mm1 md1 mp2 mk2 mg2 mc2 mw2 mf2 mt2 mh2 mm2 md2 : Nat → Int32} (h : KP f f' mp mk mg mc mw mf mt mh mm md mp1 mk1 mg1 mc1 mw1 mf1 mt1 mh1 mm1 md1) (h' : KP f f' mp1 mk1 mg1 mc1 mw1 mf1 mt1 mh1 mm1 md1 mp2 mk2 mg2 mc2 mw2 mf2 mt2 mh2 mm2 md2) : KP f f' mp mk mg mc mw mf mt mh mm md mp2 mk2 mg2 mc2 mw2 mf2 mt2 mh2 mm2 md2 := by
  intro a b
  obtain ⟨q1, q2, q3, q4, q5, q6, q7⟩ := h a b
  obtain ⟨r1, r2, r3, r4, r5, r6, r7⟩ := h' a b
  exact ⟨r1.trans q1, r2.trans q2, fun p hp => ⟨(r3 p hp).1.trans (q3 p hp).1, (r3 p hp).2.1.trans (q3 p hp).2.1, (r3 p hp).2.2.1.trans (q3 p hp).2.2.1, (r3 p hp).2.2.2.trans (q3 p hp).2.2.2⟩, fun q hq => (r4 q hq).trans (q4 q hq), fun q hq => (r5 q hq).trans (q5 q hq), fun q hq => (r6 q hq).trans (q6 q hq), fun q hq => (r7 q hq).trans (q7 q hq)⟩
theorem r_read (hM : Mx t L mx sz) (hV : VS σ) (hR : RM σ 0 mp mk' mg mc mw mf mt mh mm md) {mn : Nat → Int32} {fa ap : Int32}
    {post : Int32 → ((Nat → Int32) × (Nat → Int32) × (Nat → Int32) × (Nat → Int32) × (Nat → Int32) × (Nat → Int32) × (Nat → Int32) × (Nat → Int32) × (Nat → Int32) × (Nat → Int32) × (Nat → Int32) × Int32 × Int32 × Int32) → Prop}
    (h1 : ∀ σ' p mp2 mk2 mg2 mc2 mw2 mf2 mt2 mh2 mm2 md2 mn' ap', run t L 2000 σ0 0 = (σ', p, true) → VS σ' → RM σ' 0 mp2 mk2 mg2 mc2 mw2 mf2 mt2 mh2 mm2 md2 → post (nI (nP σ')) (mp2, mk2, mg2, mc2, mw2, mf2, mt2, mh2, mm2, md2, mn', 0, 0, ap'))
    (h0 : ∀ σ' p mp2 mk2 mg2 mc2 mw2 mf2 mt2 mh2 mm2 md2 mn' ap', run t L 2000 σ0 0 = (σ', p, false) → RM σ 0 mp2 mk2 mg2 mc2 mw2 mf2 mt2 mh2 mm2 md2 → post (-1 - nI p) (mp2, mk2, mg2, mc2, mw2, mf2, mt2, mh2, mm2, md2, mn', 0, 0, ap')) :
    wp_X6_read mp mk' mg mc mw mf mt mh mm md mx mn sz fa ap post := by
  unfold wp_X6_read
  intro A21 c21
  have hL := hM.1
  refine r_clear (f := 1) (by omega) ?_
  intro mp1 mc1 mw1 mf1 mh1 mm1 md1 hR1 hK1
  have hk0 : KP 1 0 mp mk' mg mc mw mf mt mh mm md mp1 mk' mg mc1 mw1 mf1 mt mh1 mm1 md1 := hK1 0 mk' mg mt
  refine r_wordBegin (e := 0) hM (Nat.zero_le _) ?_
  have key : ∀ f τ e mn mp2 mk2 mg2 mc2 mw2 mf2 mt2 mh2 mm2 md2, L ≤ e + f → e ≤ L → VS τ → RM τ 1 mp2 mk2 mg2 mc2 mw2 mf2 mt2 mh2 mm2 md2 → KP 1 0 mp mk' mg mc mw mf mt mh mm md mp2 mk2 mg2 mc2 mw2 mf2 mt2 mh2 mm2 md2 → run t L 2000 σ0 0 = run t L f τ e → A21 1 mp2 mk2 mg2 mc2 mw2 mf2 mt2 mh2 mm2 md2 mn sz 0 (nI (nb t L e)) := by
    intro f
    have fin : ∀ τ p e mn mp2 mk2 mg2 mc2 mw2 mf2 mt2 mh2 mm2 md2, e ≤ L → VS τ → RM τ 1 mp2 mk2 mg2 mc2 mw2 mf2 mt2 mh2 mm2 md2 → ¬ nb t L e < L → run t L 2000 σ0 0 = (τ, p, true) → A21 1 mp2 mk2 mg2 mc2 mw2 mf2 mt2 mh2 mm2 md2 mn sz 0 (nI (nb t L e)) := by
      intro τ p e mn mp2 mk2 mg2 mc2 mw2 mf2 mt2 mh2 mm2 md2 he hV2 hR2 hnl hr
      have hnL := nb_le (t := t) he
      refine c21 _ _ _ _ _ _ _ _ _ _ _ _ _ _ _ (no_ (by decide) (ye_ ?_ (no_ (by decide) ?_)))
      · rw [hM.2.1]; exact nI_le (by omega) (by omega)
      · refine r_take hV2 hR2 ?_
        intro mp3 mk3 mg3 mc3 mw3 mf3 mt3 mh3 mm3 md3 hR3
        refine ⟨pk_in 0 2 (by omega), ?_⟩
        have e3 : mp3 (0 : Int32).toNatClampNeg = nI (nP τ) := hR3.1
        rw [e3]
        exact h1 τ p _ _ _ _ _ _ _ _ _ _ _ _ hr hV2 hR3
    induction f with
    | zero =>
      intro τ e mn mp2 mk2 mg2 mc2 mw2 mf2 mt2 mh2 mm2 md2 hf he hV2 hR2 hK2 hr
      exact fin τ e e mn _ _ _ _ _ _ _ _ _ _ he hV2 hR2 (by have := nb_ge t L e; omega) hr
    | succ f ih =>
      intro τ e mn mp2 mk2 mg2 mc2 mw2 mf2 mt2 mh2 mm2 md2 hf he hV2 hR2 hK2 hr
      by_cases hlt : nb t L e < L
      · have hg := nb_gp hlt
        have hge := nb_ge t L e
        refine c21 _ _ _ _ _ _ _ _ _ _ _ _ _ _ _ (no_ (by decide) (no_ ?_ ?_))
        · rw [hM.2.1]; exact nI_ge hlt (by omega)
        refine r_readSentence hM hV2 hR2 hlt hg ?_ ?_
        · intro mn' e' σ' mp3 mk3 mg3 mc3 mw3 mf3 mt3 mh3 mm3 md3 hs' hV3 hR3 hK3
          have hbd := sent_b (σ := τ) hlt hg
          rw [hs'] at hbd
          have hb2 := hbd.2 rfl
          have hb1 := hbd.1
          dsimp at hb1 hb2
          exact ih σ' e' _ _ _ _ _ _ _ _ _ _ _ (by omega) hb1 hV3 hR3 (hK2.tr hK3) (by rw [hr]; exact run_ok hlt hs')
        · intro mn' p hs'
          refine c21 _ _ _ _ _ _ _ _ _ _ _ _ _ _ _ (ye_ rfl (ye_ rfl ?_))
          exact h0 τ p _ _ _ _ _ _ _ _ _ _ _ _ (by rw [hr]; exact run_bad hlt hs') (RM.keep (f := 1) hV hR (by omega) (by omega) hK2)
      · exact fin τ (nb t L e) e mn _ _ _ _ _ _ _ _ _ _ he hV2 hR2 hlt (by rw [hr]; exact run_end hlt)
  exact key 2000 σ0 0 mn _ _ _ _ _ _ _ _ _ _ (by omega) (Nat.zero_le _) VS0 (hR1 mk' mg mt) hk0 rfl
end RSENT
theorem RC0 {kd : Nat → Int32} {gr : Nat → Int64} {cv br hz fm dm e1 e2 fk : Nat → Int32} : RC σ0 kd gr cv br hz fm dm e1 e2 fk 0 0 := ⟨rfl, rfl, fun p h => absurd h (Nat.not_lt_zero p), fun p h => absurd h (Nat.not_lt_zero p)⟩
theorem c_read {t : Nat → Nat} {L : Nat} {tx : Nat → Int32} {ln : Int32} (hT : Tx t L tx ln) {kd : Nat → Int32} {gr : Nat → Int64} {cv br hz fm dm e1 e2 fk : Nat → Int32} {pn fn : Int32} {kdQ : Nat → Int32} {grQ : Nat → Int64} {cvQ brQ hzQ fmQ dmQ e1Q e2Q fkQ : Nat → Int32} {nu : Nat → Int32} {bg en : Int32}
    {post : Int32 → ((Nat → Int32) × Int32 × Int32 × Int32 × (Nat → Int32) × (Nat → Int64) × (Nat → Int32) × (Nat → Int32) × (Nat → Int32) × (Nat → Int32) × (Nat → Int32) × (Nat → Int32) × (Nat → Int32) × (Nat → Int32) × Int32 × Int32 × (Nat → Int32) × (Nat → Int64) × (Nat → Int32) × (Nat → Int32) × (Nat → Int32) × (Nat → Int32) × (Nat → Int32) × (Nat → Int32) × (Nat → Int32) × (Nat → Int32) × Int32 × Int32) → Prop}
    (h1 : ∀ nu' bg' en' σ' p kd' gr' cv' br' hz' fm' dm' e1' e2' fk' pn' fn', run t L 2000 σ0 0 = (σ', p, true) → VS σ' → RC σ' kd' gr' cv' br' hz' fm' dm' e1' e2' fk' pn' fn' → post (nI (nP σ')) (nu', 0, bg', en', kd', gr', cv', br', hz', fm', dm', e1', e2', fk', pn', fn', kd, gr, cv, br, hz, fm, dm, e1, e2, fk, pn, fn))
    (h0 : ∀ nu' p en' σ' kd' gr' cv' br' hz' fm' dm' e1' e2' fk' pn' fn', run t L 2000 σ0 0 = (σ', p, false) → post (-1 - nI p) (nu', 0, nI p, en', kd, gr, cv, br, hz, fm, dm, e1, e2, fk, pn, fn, kd', gr', cv', br', hz', fm', dm', e1', e2', fk', pn', fn')) :
    wp_X5_read tx nu ln bg en kd gr cv br hz fm dm e1 e2 fk pn fn kdQ grQ cvQ brQ hzQ fmQ dmQ e1Q e2Q fkQ post := by
  unfold wp_X5_read wp_X1_clear
  refine c_readAll hT VS0 RC0 ?_ ?_
  · intro nu' bg' en' σ' p kd' gr' cv' br' hz' fm' dm' e1' e2' fk' pn' fn' hr hV hR
    refine y1 ?_
    have := h1 nu' bg' en' σ' p kd' gr' cv' br' hz' fm' dm' e1' e2' fk' pn' fn' hr hV hR
    rw [← hR.1] at this
    exact this
  · intro nu' p en' σ' kd' gr' cv' br' hz' fm' dm' e1' e2' fk' pn' fn' hr
    exact y0 (h0 _ _ _ _ _ _ _ _ _ _ _ _ _ _ _ _ hr)
