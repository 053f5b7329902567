def wp_law128 (L : Nat) (xs : Nat → Int32) (A23 : Nat → (Nat → Int32) → (Nat → Int32) → Int32 → Int32 → Int32 → Int32 → Int32 → (Nat → Int32) → (Nat → Int64) → (Nat → Int32) → (Nat → Int32) → (Nat → Int32) → (Nat → Int32) → (Nat → Int32) → (Nat → Int32) → (Nat → Int32) → (Nat → Int32) → Int32 → Int32 → (Nat → Int32) → (Nat → Int64) → (Nat → Int32) → (Nat → Int32) → (Nat → Int32) → (Nat → Int32) → (Nat → Int32) → (Nat → Int32) → (Nat → Int32) → (Nat → Int32) → Int32 → Int32 → (Nat → Int32) → (Nat → Int32) → (Nat → Int32) → (Nat → Int32) → (Nat → Int32) → (Nat → Int32) → (Nat → Int32) → (Nat → Int32) → (Nat → Int32) → (Nat → Int32) → (Nat → Int32) → (Nat → Int32) → Int32 → Int32 → Int32 → Int32 → Int32 → Int32 → (Nat → Int64) → Prop) (i : Nat) (txR : Nat → Int32) (nuR : Nat → Int32) (lnR : Int32) (bgR : Int32) (enR : Int32) (lfT : Int32) (foT : Int32) (kdP : Nat → Int32) (grP : Nat → Int64) (cvP : Nat → Int32) (brP : Nat → Int32) (hzP : Nat → Int32) (fmP : Nat → Int32) (dmP : Nat → Int32) (e1P : Nat → Int32) (e2P : Nat → Int32) (fkP : Nat → Int32) (pnP : Int32) (fnP : Int32) (kdQ : Nat → Int32) (grQ : Nat → Int64) (cvQ : Nat → Int32) (brQ : Nat → Int32) (hzQ : Nat → Int32) (fmQ : Nat → Int32) (dmQ : Nat → Int32) (e1Q : Nat → Int32) (e2Q : Nat → Int32) (fkQ : Nat → Int32) (pnQ : Int32) (fnQ : Int32) (mpM : Nat → Int32) (mkM : Nat → Int32) (mgM : Nat → Int32) (mcM : Nat → Int32) (mwM : Nat → Int32) (mfM : Nat → Int32) (mtM : Nat → Int32) (mhM : Nat → Int32) (mmM : Nat → Int32) (mdM : Nat → Int32) (mxM : Nat → Int32) (mnM : Nat → Int32) (szM : Int32) (faM : Int32) (apM : Int32) (waM : Int32) (wrM : Int32) (fuM : Int32) (ouO : Nat → Int64) : Prop :=
    (vp_in ((nI i) + 1) L ∧ wp_X5_unit txR lnR (xs ((nI i) + 1).toNatClampNeg) (fun r_1 u => match u with | (tx_2, ln_3) => (vp_in ((nI i) + 1) L ∧ wp_X6_unit mxM szM (xs ((nI i) + 1).toNatClampNeg) (fun r_4 u => match u with | (mx_5, sz_6, fa_7) => ((r_1 = r_4 → A23 (i + 4) tx_2 nuR ln_3 bgR enR lfT foT kdP grP cvP brP hzP fmP dmP e1P e2P fkP pnP fnP kdQ grQ cvQ brQ hzQ fmQ dmQ e1Q e2Q fkQ pnQ fnQ mpM mkM mgM mcM mwM mfM mtM mhM mmM mdM mx_5 mnM sz_6 fa_7 apM waM wrM fuM ouO) ∧ (¬ r_1 = r_4 → False))))))
set_option maxHeartbeats 4000000 in
set_option maxRecDepth 100000 in
theorem law_c128 {p : Program} {l : Launch} {e : Env} {s : State} {m : MethodId} {below : List Frame} {meth : Method} {c : Code} {b L : Nat} {xs : Nat → Int32} {D : va_G} {cs : Nat → ClassId} {ev : Nat → Nat → Nat} {i : Nat} {txR : Nat → Int32} {nuR : Nat → Int32} {lnR : Int32} {bgR : Int32} {enR : Int32} {lfT : Int32} {foT : Int32} {kdP : Nat → Int32} {grP : Nat → Int64} {cvP : Nat → Int32} {brP : Nat → Int32} {hzP : Nat → Int32} {fmP : Nat → Int32} {dmP : Nat → Int32} {e1P : Nat → Int32} {e2P : Nat → Int32} {fkP : Nat → Int32} {pnP : Int32} {fnP : Int32} {kdQ : Nat → Int32} {grQ : Nat → Int64} {cvQ : Nat → Int32} {brQ : Nat → Int32} {hzQ : Nat → Int32} {fmQ : Nat → Int32} {dmQ : Nat → Int32} {e1Q : Nat → Int32} {e2Q : Nat → Int32} {fkQ : Nat → Int32} {pnQ : Int32} {fnQ : Int32} {mpM : Nat → Int32} {mkM : Nat → Int32} {mgM : Nat → Int32} {mcM : Nat → Int32} {mwM : Nat → Int32} {mfM : Nat → Int32} {mtM : Nat → Int32} {mhM : Nat → Int32} {mmM : Nat → Int32} {mdM : Nat → Int32} {mxM : Nat → Int32} {mnM : Nat → Int32} {szM : Int32} {faM : Int32} {apM : Int32} {waM : Int32} {wrM : Int32} {fuM : Int32} {ouO : Nat → Int64} (hnt : l.stackTraces = false) (C0 : lw_At p s m meth c b L xs) (hLi : i ≤ 2048) (hK : va_K D vwCl (tyS cs) s) (hE : EV ev (fun q : Nat => s.heap.size ≤ q) s s.heap) (hTV : TV (fun q : Nat => s.heap.size ≤ q) s s.heap) (h : wp_law128 L xs (law_A p l e s m below meth c b D cs) i txR nuR lnR bgR enR lfT foT kdP grP cvP brP hzP fmP dmP e1P e2P fkP pnP fnP kdQ grQ cvQ brQ hzQ fmQ dmQ e1Q e2Q fkQ pnQ fnQ mpM mkM mgM mcM mwM mfM mtM mhM mmM mdM mxM mnM szM faM apM waM wrM fuM ouO) : ∀ (adG adR adT adP adQ adM adO : Nat → Nat) (H : Heap) (locs : List Loc), va_P D vwCl (sh_G cs adG (adR 0) (adT 0) (adP 0) (adQ 0) ++ sh_R cs adR txR nuR lnR bgR enR ++ sh_T cs adT lfT foT ++ sh_P cs adP kdP grP cvP brP hzP fmP dmP e1P e2P fkP pnP fnP ++ sh_P cs adQ kdQ grQ cvQ brQ hzQ fmQ dmQ e1Q e2Q fkQ pnQ fnQ ++ sh_M cs adM mpM mkM mgM mcM mwM mfM mtM mhM mmM mdM mxM mnM szM faM apM waM wrM fuM ++ sh_O cs adO ouO) H → va_D (fun q : Nat => s.heap.size ≤ q) (sh_G cs adG (adR 0) (adT 0) (adP 0) (adQ 0) ++ sh_R cs adR txR nuR lnR bgR enR ++ sh_T cs adT lfT foT ++ sh_P cs adP kdP grP cvP brP hzP fmP dmP e1P e2P fkP pnP fnP ++ sh_P cs adQ kdQ grQ cvQ brQ hzQ fmQ dmQ e1Q e2Q fkQ pnQ fnQ ++ sh_M cs adM mpM mkM mgM mcM mwM mfM mtM mhM mmM mdM mxM mnM szM faM apM waM wrM fuM ++ sh_O cs adO ouO) → va_S (fun q : Nat => s.heap.size ≤ q) s.heap H locs → ∀ ls : Array Slot, lv_has ls 8 [(0, .ref b), (1, .ref (adG 0)), (2, .ref (adM 0)), (3, .ref (adO 0)), (4, .int (nI i))] → W p l e room_1 s m #[Value.ref b] below meth c H locs (100 + i) (20000 + 6 * i) (lw_Z below #[Value.ref b] s) (F0 m 128 ls []) := by
  obtain ⟨hx, hb, hr, hml, hown, hts, hX, hbl, hlocks, hgv⟩ := id C0
  have hts : ∀ w ∈ wsL_law, w.before #[Value.ref b] s = true := fun w h => hts w (wsL_law_in2 w h)
  have hA : ∀ q : Nat, s.heap.size ≤ q → (fun q : Nat => s.heap.size ≤ q) q := fun _ h => h
  have hbA : ¬ (fun q : Nat => s.heap.size ≤ q) b := Nat.not_le.mpr hbl
  have hc0 : 100 + i + 0 ≤ room_1.cells := by show 100 + i + 0 ≤ 601024; omega
  have hs0 : 20000 + 6 * i + 0 ≤ room_1.slots := by show 20000 + 6 * i + 0 ≤ 7293034; omega
  have hc1 : 100 + i + 1 ≤ room_1.cells := by show 100 + i + 1 ≤ 601024; omega
  have hs1 : 20000 + 6 * i + 6 ≤ room_1.slots := by show 20000 + 6 * i + 6 ≤ 7293034; omega
  intro adG adR adT adP adQ adM adO H locs hP hD hS ls hl
  refine lv_aload_n hx hb dL_law_128 rfl (lv_at hl 1 rfl) ?_
  refine lv_aload_n hx hb dL_law_129 rfl (lv_at hl 0 rfl) ?_
  refine lv_iload hx hb dL_law_130 (lv_at hl 4 rfl) ?_
  refine lv_iconst (v := 1) hx hb dL_law_132 (by decide) ?_
  refine lv_iadd hx hb dL_law_133 ?_
  have hin := h.1
  have h := h.2
  refine va_sld hx hb hX hbl hbA hS hin dL_law_134 ?_
  have hFc := va_free (wc := (sh_G cs adG (adR 0) (adT 0) (adP 0) (adQ 0) ++ sh_R cs adR txR nuR lnR bgR enR)) hD hS hA [0, 1, 2, 3] rfl
  refine va_calli (va_runV (As := [.int (xs ((nI i) + 1).toNatClampNeg)]) (rest := []) ⟨hx, hb, hml, hown, hts⟩ (met_X5_unit l D cs ev _ adG adR (adT 0) (adP 0) (adQ 0) txR nuR lnR bgR enR (xs ((nI i) + 1).toNatClampNeg) _ h) (cwV 1 hts gL_law_X5_unit rfl rfl rfl (by decide +kernel) ⟨Nat.le_of_ble_eq_true rfl, Nat.le_of_ble_eq_true rfl⟩) (mPreV (va_recv hK hP (ci := 4) (q0 := 0) rfl rfl) hP hD hS hK hE hFc [0, 1, 2, 3] (by decide) rfl) rfl rfl hl.1 rfl (lv_room (Nat.le_of_ble_eq_true rfl)) dL_law_135 ⟨hc0, hs0⟩) hS (fun q _ h => hFc q h) hFc (fun r_1 u t H1 locs ht hvm hw hB hz1 hk1 hS => ?_)
  obtain ⟨tx_2, ln_3⟩ := u
  have h := hw
  obtain ⟨hP1, hK1, hD1⟩ := hB
  rw [ht] at hP1
  obtain ⟨hP, hD⟩ := mJoin (wr := (sh_T cs adT lfT foT ++ sh_P cs adP kdP grP cvP brP hzP fmP dmP e1P e2P fkP pnP fnP ++ sh_P cs adQ kdQ grQ cvQ brQ hzQ fmQ dmQ e1Q e2Q fkQ pnQ fnQ ++ sh_M cs adM mpM mkM mgM mcM mwM mfM mtM mhM mmM mdM mxM mnM szM faM apM waM wrM fuM ++ sh_O cs adO ouO)) (w1 := (sh_G cs adG (adR 0) (adT 0) (adP 0) (adQ 0) ++ sh_R cs adR tx_2 nuR ln_3 bgR enR)) (w' := (sh_G cs adG (adR 0) (adT 0) (adP 0) (adQ 0) ++ sh_R cs adR tx_2 nuR ln_3 bgR enR ++ sh_T cs adT lfT foT ++ sh_P cs adP kdP grP cvP brP hzP fmP dmP e1P e2P fkP pnP fnP ++ sh_P cs adQ kdQ grQ cvQ brQ hzQ fmQ dmQ e1Q e2Q fkQ pnQ fnQ ++ sh_M cs adM mpM mkM mgM mcM mwM mfM mtM mhM mmM mdM mxM mnM szM faM apM waM wrM fuM ++ sh_O cs adO ouO)) hP hD [0, 1, 2, 3] [4, 5, 6, 7, 8, 9, 10, 11, 12, 13, 14, 15, 16, 17, 18, 19, 20, 21, 22, 23, 24, 25, 26, 27, 28, 29, 30, 31, 32, 33, 34, 35, 36, 37, 38, 39, 40] rfl rfl (by decide) (by decide) hk1 hFc hP1 hD1 [37, 38, 39, 40, 0, 1, 2, 3, 4, 5, 6, 7, 8, 9, 10, 11, 12, 13, 14, 15, 16, 17, 18, 19, 20, 21, 22, 23, 24, 25, 26, 27, 28, 29, 30, 31, 32, 33, 34, 35, 36] (by decide) rfl
  generalize H1 = H at hP hS ⊢
  refine lv_aload_n hx hb dL_law_138 rfl (lv_at hl 2 rfl) ?_
  refine lv_aload_n hx hb dL_law_139 rfl (lv_at hl 0 rfl) ?_
  refine lv_iload hx hb dL_law_140 (lv_at hl 4 rfl) ?_
  refine lv_iconst (v := 1) hx hb dL_law_142 (by decide) ?_
  refine lv_iadd hx hb dL_law_143 ?_
  have hin := h.1
  have h := h.2
  refine va_sld hx hb hX hbl hbA hS hin dL_law_144 ?_
  have hFc := va_free (wc := (sh_M cs adM mpM mkM mgM mcM mwM mfM mtM mhM mmM mdM mxM mnM szM faM apM waM wrM fuM)) hD hS hA [27, 28, 29, 30, 31, 32, 33, 34, 35, 36, 37, 38, 39] rfl
  refine va_calli (va_runV (As := [.int (xs ((nI i) + 1).toNatClampNeg)]) (rest := [.int r_1]) ⟨hx, hb, hml, hown, hts⟩ (met_X6_unit l D cs ev _ adM mpM mkM mgM mcM mwM mfM mtM mhM mmM mdM mxM mnM szM faM apM waM wrM fuM (xs ((nI i) + 1).toNatClampNeg) _ h) (cwV 1 hts gL_law_X6_unit rfl rfl rfl (by decide +kernel) ⟨Nat.le_of_ble_eq_true rfl, Nat.le_of_ble_eq_true rfl⟩) (mPreV (va_recv hK hP (ci := 5) (q0 := 27) rfl rfl) hP hD hS hK hE hFc [27, 28, 29, 30, 31, 32, 33, 34, 35, 36, 37, 38, 39] (by decide) rfl) rfl rfl hl.1 rfl (lv_room (Nat.le_of_ble_eq_true rfl)) dL_law_145 ⟨hc0, hs0⟩) hS (fun q _ h => hFc q h) hFc (fun r_4 u t H1 locs ht hvm hw hB hz1 hk1 hS => ?_)
  obtain ⟨mx_5, sz_6, fa_7⟩ := u
  have h := hw
  obtain ⟨hP1, hK1, hD1⟩ := hB
  rw [ht] at hP1
  obtain ⟨hP, hD⟩ := mJoin (wr := (sh_G cs adG (adR 0) (adT 0) (adP 0) (adQ 0) ++ sh_R cs adR tx_2 nuR ln_3 bgR enR ++ sh_T cs adT lfT foT ++ sh_P cs adP kdP grP cvP brP hzP fmP dmP e1P e2P fkP pnP fnP ++ sh_P cs adQ kdQ grQ cvQ brQ hzQ fmQ dmQ e1Q e2Q fkQ pnQ fnQ ++ sh_O cs adO ouO)) (w1 := (sh_M cs adM mpM mkM mgM mcM mwM mfM mtM mhM mmM mdM mx_5 mnM sz_6 fa_7 apM waM wrM fuM)) (w' := (sh_G cs adG (adR 0) (adT 0) (adP 0) (adQ 0) ++ sh_R cs adR tx_2 nuR ln_3 bgR enR ++ sh_T cs adT lfT foT ++ sh_P cs adP kdP grP cvP brP hzP fmP dmP e1P e2P fkP pnP fnP ++ sh_P cs adQ kdQ grQ cvQ brQ hzQ fmQ dmQ e1Q e2Q fkQ pnQ fnQ ++ sh_M cs adM mpM mkM mgM mcM mwM mfM mtM mhM mmM mdM mx_5 mnM sz_6 fa_7 apM waM wrM fuM ++ sh_O cs adO ouO)) hP hD [27, 28, 29, 30, 31, 32, 33, 34, 35, 36, 37, 38, 39] [0, 1, 2, 3, 4, 5, 6, 7, 8, 9, 10, 11, 12, 13, 14, 15, 16, 17, 18, 19, 20, 21, 22, 23, 24, 25, 26, 40] rfl rfl (by decide) (by decide) hk1 hFc hP1 hD1 [0, 1, 2, 3, 4, 5, 6, 7, 8, 9, 10, 11, 12, 13, 14, 15, 16, 17, 18, 19, 20, 21, 22, 23, 24, 25, 26, 28, 29, 30, 31, 32, 33, 34, 35, 36, 37, 38, 39, 40, 27] (by decide) rfl
  generalize H1 = H at hP hS ⊢
  refine lv_icmp_eq (tgt := 935) hx hb dL_law_148 (by decide) (fun c_8 => ?_) (fun c_8 => ?_)
  · have h := h.1 c_8
    refine lv_iinc (v := (nI i) + 4) (lv' := [(4, .int ((nI i) + 4)), (0, .ref b), (1, .ref (adG 0)), (2, .ref (adM 0)), (3, .ref (adO 0))]) hx hb dL_law_935 hl (k := 4) rfl rfl (by decide) rfl (fun ls hl => ?_)
    refine lv_goto (tgt := 23) hx hb dL_law_938 (by decide) ?_
    have h := h
    refine W.widen (k := 100 + (i + 4)) (n := 20000 + 6 * (i + 4)) (by omega) (by omega) ?_
    have hl := lv_sub (l' := [(0, .ref b), (1, .ref (adG 0)), (2, .ref (adM 0)), (3, .ref (adO 0)), (4, .int ((nI i) + 4))]) hl [1, 2, 3, 4, 0] rfl
    rw [show (nI i) + 4 = nI (i + 4) from nI_add i 4] at hl
    exact h adG adR adT adP adQ adM adO _ _ hP hD hS ls hl
  · have h := h.2 c_8
    refine lv_iconst (v := 0) hx hb dL_law_151 (by decide) ?_
    exact h.elim
def wp_law153 (L : Nat) (xs : Nat → Int32) (A23 : Nat → (Nat → Int32) → (Nat → Int32) → Int32 → Int32 → Int32 → Int32 → Int32 → (Nat → Int32) → (Nat → Int64) → (Nat → Int32) → (Nat → Int32) → (Nat → Int32) → (Nat → Int32) → (Nat → Int32) → (Nat → Int32) → (Nat → Int32) → (Nat → Int32) → Int32 → Int32 → (Nat → Int32) → (Nat → Int64) → (Nat → Int32) → (Nat → Int32) → (Nat → Int32) → (Nat → Int32) → (Nat → Int32) → (Nat → Int32) → (Nat → Int32) → (Nat → Int32) → Int32 → Int32 → (Nat → Int32) → (Nat → Int32) → (Nat → Int32) → (Nat → Int32) → (Nat → Int32) → (Nat → Int32) → (Nat → Int32) → (Nat → Int32) → (Nat → Int32) → (Nat → Int32) → (Nat → Int32) → (Nat → Int32) → Int32 → Int32 → Int32 → Int32 → Int32 → Int32 → (Nat → Int64) → Prop) (i : Nat) (txR : Nat → Int32) (nuR : Nat → Int32) (lnR : Int32) (bgR : Int32) (enR : Int32) (lfT : Int32) (foT : Int32) (kdP : Nat → Int32) (grP : Nat → Int64) (cvP : Nat → Int32) (brP : Nat → Int32) (hzP : Nat → Int32) (fmP : Nat → Int32) (dmP : Nat → Int32) (e1P : Nat → Int32) (e2P : Nat → Int32) (fkP : Nat → Int32) (pnP : Int32) (fnP : Int32) (kdQ : Nat → Int32) (grQ : Nat → Int64) (cvQ : Nat → Int32) (brQ : Nat → Int32) (hzQ : Nat → Int32) (fmQ : Nat → Int32) (dmQ : Nat → Int32) (e1Q : Nat → Int32) (e2Q : Nat → Int32) (fkQ : Nat → Int32) (pnQ : Int32) (fnQ : Int32) (mpM : Nat → Int32) (mkM : Nat → Int32) (mgM : Nat → Int32) (mcM : Nat → Int32) (mwM : Nat → Int32) (mfM : Nat → Int32) (mtM : Nat → Int32) (mhM : Nat → Int32) (mmM : Nat → Int32) (mdM : Nat → Int32) (mxM : Nat → Int32) (mnM : Nat → Int32) (szM : Int32) (faM : Int32) (apM : Int32) (waM : Int32) (wrM : Int32) (fuM : Int32) (ouO : Nat → Int64) : Prop :=
    wp_X5_read txR nuR lnR bgR enR kdP grP cvP brP hzP fmP dmP e1P e2P fkP pnP fnP kdQ grQ cvQ brQ hzQ fmQ dmQ e1Q e2Q fkQ (fun r_1 u => match u with | (nu_2, ln_3, bg_4, en_5, kd_6, gr_7, cv_8, br_9, hz_10, fm_11, dm_12, e1_13, e2_14, fk_15, pn_16, fn_17, kd_18, gr_19, cv_20, br_21, hz_22, fm_23, dm_24, e1_25, e2_26, fk_27, pn_28, fn_29) => wp_X6_read mpM mkM mgM mcM mwM mfM mtM mhM mmM mdM mxM mnM szM faM apM (fun r_30 u => match u with | (mp_31, mk_32, mg_33, mc_34, mw_35, mf_36, mt_37, mh_38, mm_39, md_40, mn_41, sz_42, fa_43, ap_44) => ((r_1 = r_30 → A23 (i + 4) txR nu_2 ln_3 bg_4 en_5 lfT foT kd_6 gr_7 cv_8 br_9 hz_10 fm_11 dm_12 e1_13 e2_14 fk_15 pn_16 fn_17 kd_18 gr_19 cv_20 br_21 hz_22 fm_23 dm_24 e1_25 e2_26 fk_27 pn_28 fn_29 mp_31 mk_32 mg_33 mc_34 mw_35 mf_36 mt_37 mh_38 mm_39 md_40 mxM mn_41 sz_42 fa_43 ap_44 waM wrM fuM ouO) ∧ (¬ r_1 = r_30 → False))))
set_option maxHeartbeats 4000000 in
set_option maxRecDepth 100000 in
theorem law_c153 {p : Program} {l : Launch} {e : Env} {s : State} {m : MethodId} {below : List Frame} {meth : Method} {c : Code} {b L : Nat} {xs : Nat → Int32} {D : va_G} {cs : Nat → ClassId} {ev : Nat → Nat → Nat} {i : Nat} {txR : Nat → Int32} {nuR : Nat → Int32} {lnR : Int32} {bgR : Int32} {enR : Int32} {lfT : Int32} {foT : Int32} {kdP : Nat → Int32} {grP : Nat → Int64} {cvP : Nat → Int32} {brP : Nat → Int32} {hzP : Nat → Int32} {fmP : Nat → Int32} {dmP : Nat → Int32} {e1P : Nat → Int32} {e2P : Nat → Int32} {fkP : Nat → Int32} {pnP : Int32} {fnP : Int32} {kdQ : Nat → Int32} {grQ : Nat → Int64} {cvQ : Nat → Int32} {brQ : Nat → Int32} {hzQ : Nat → Int32} {fmQ : Nat → Int32} {dmQ : Nat → Int32} {e1Q : Nat → Int32} {e2Q : Nat → Int32} {fkQ : Nat → Int32} {pnQ : Int32} {fnQ : Int32} {mpM : Nat → Int32} {mkM : Nat → Int32} {mgM : Nat → Int32} {mcM : Nat → Int32} {mwM : Nat → Int32} {mfM : Nat → Int32} {mtM : Nat → Int32} {mhM : Nat → Int32} {mmM : Nat → Int32} {mdM : Nat → Int32} {mxM : Nat → Int32} {mnM : Nat → Int32} {szM : Int32} {faM : Int32} {apM : Int32} {waM : Int32} {wrM : Int32} {fuM : Int32} {ouO : Nat → Int64} (hnt : l.stackTraces = false) (C0 : lw_At p s m meth c b L xs) (hLi : i ≤ 2048) (hK : va_K D vwCl (tyS cs) s) (hE : EV ev (fun q : Nat => s.heap.size ≤ q) s s.heap) (hTV : TV (fun q : Nat => s.heap.size ≤ q) s s.heap) (h : wp_law153 L xs (law_A p l e s m below meth c b D cs) i txR nuR lnR bgR enR lfT foT kdP grP cvP brP hzP fmP dmP e1P e2P fkP pnP fnP kdQ grQ cvQ brQ hzQ fmQ dmQ e1Q e2Q fkQ pnQ fnQ mpM mkM mgM mcM mwM mfM mtM mhM mmM mdM mxM mnM szM faM apM waM wrM fuM ouO) : ∀ (adG adR adT adP adQ adM adO : Nat → Nat) (H : Heap) (locs : List Loc), va_P D vwCl (sh_G cs adG (adR 0) (adT 0) (adP 0) (adQ 0) ++ sh_R cs adR txR nuR lnR bgR enR ++ sh_T cs adT lfT foT ++ sh_P cs adP kdP grP cvP brP hzP fmP dmP e1P e2P fkP pnP fnP ++ sh_P cs adQ kdQ grQ cvQ brQ hzQ fmQ dmQ e1Q e2Q fkQ pnQ fnQ ++ sh_M cs adM mpM mkM mgM mcM mwM mfM mtM mhM mmM mdM mxM mnM szM faM apM waM wrM fuM ++ sh_O cs adO ouO) H → va_D (fun q : Nat => s.heap.size ≤ q) (sh_G cs adG (adR 0) (adT 0) (adP 0) (adQ 0) ++ sh_R cs adR txR nuR lnR bgR enR ++ sh_T cs adT lfT foT ++ sh_P cs adP kdP grP cvP brP hzP fmP dmP e1P e2P fkP pnP fnP ++ sh_P cs adQ kdQ grQ cvQ brQ hzQ fmQ dmQ e1Q e2Q fkQ pnQ fnQ ++ sh_M cs adM mpM mkM mgM mcM mwM mfM mtM mhM mmM mdM mxM mnM szM faM apM waM wrM fuM ++ sh_O cs adO ouO) → va_S (fun q : Nat => s.heap.size ≤ q) s.heap H locs → ∀ ls : Array Slot, lv_has ls 8 [(0, .ref b), (1, .ref (adG 0)), (2, .ref (adM 0)), (3, .ref (adO 0)), (4, .int (nI i))] → W p l e room_1 s m #[Value.ref b] below meth c H locs (100 + i) (20000 + 6 * i) (lw_Z below #[Value.ref b] s) (F0 m 153 ls []) := by
  obtain ⟨hx, hb, hr, hml, hown, hts, hX, hbl, hlocks, hgv⟩ := id C0
  have hts : ∀ w ∈ wsL_law, w.before #[Value.ref b] s = true := fun w h => hts w (wsL_law_in2 w h)
  have hA : ∀ q : Nat, s.heap.size ≤ q → (fun q : Nat => s.heap.size ≤ q) q := fun _ h => h
  have hbA : ¬ (fun q : Nat => s.heap.size ≤ q) b := Nat.not_le.mpr hbl
  have hc0 : 100 + i + 0 ≤ room_1.cells := by show 100 + i + 0 ≤ 601024; omega
  have hs0 : 20000 + 6 * i + 0 ≤ room_1.slots := by show 20000 + 6 * i + 0 ≤ 7293034; omega
  have hc1 : 100 + i + 1 ≤ room_1.cells := by show 100 + i + 1 ≤ 601024; omega
  have hs1 : 20000 + 6 * i + 6 ≤ room_1.slots := by show 20000 + 6 * i + 6 ≤ 7293034; omega
  intro adG adR adT adP adQ adM adO H locs hP hD hS ls hl
  refine lv_aload_n hx hb dL_law_153 rfl (lv_at hl 1 rfl) ?_
  have hFc := va_free (wc := (sh_G cs adG (adR 0) (adT 0) (adP 0) (adQ 0) ++ sh_R cs adR txR nuR lnR bgR enR ++ sh_P cs adP kdP grP cvP brP hzP fmP dmP e1P e2P fkP pnP fnP ++ sh_P cs adQ kdQ grQ cvQ brQ hzQ fmQ dmQ e1Q e2Q fkQ pnQ fnQ)) hD hS hA [0, 1, 2, 3, 5, 6, 7, 8, 9, 10, 11, 12, 13, 14, 15, 16, 17, 18, 19, 20, 21, 22, 23, 24, 25, 26] rfl
  refine va_calli (va_runV (As := []) (rest := []) ⟨hx, hb, hml, hown, hts⟩ (met_X5_read l D cs ev _ adG adR adP adQ (adT 0) txR nuR lnR bgR enR kdP grP cvP brP hzP fmP dmP e1P e2P fkP pnP fnP kdQ grQ cvQ brQ hzQ fmQ dmQ e1Q e2Q fkQ pnQ fnQ _ h) (cwV 0 hts gL_law_X5_read rfl rfl rfl (by decide +kernel) ⟨Nat.le_of_ble_eq_true rfl, Nat.le_of_ble_eq_true rfl⟩) (mPreV (va_recv hK hP (ci := 4) (q0 := 0) rfl rfl) hP hD hS hK hE hFc [0, 1, 2, 3, 5, 6, 7, 8, 9, 10, 11, 12, 13, 14, 15, 16, 17, 18, 19, 20, 21, 22, 23, 24, 25, 26] (by decide) rfl) rfl rfl hl.1 rfl (lv_room (Nat.le_of_ble_eq_true rfl)) dL_law_154 ⟨hc0, hs0⟩) hS (fun q _ h => hFc q h) hFc (fun r_1 u t H1 locs ht hvm hw hB hz1 hk1 hS => ?_)
  obtain ⟨nu_2, ln_3, bg_4, en_5, kd_6, gr_7, cv_8, br_9, hz_10, fm_11, dm_12, e1_13, e2_14, fk_15, pn_16, fn_17, kd_18, gr_19, cv_20, br_21, hz_22, fm_23, dm_24, e1_25, e2_26, fk_27, pn_28, fn_29⟩ := u
  have h := hw
  obtain ⟨aP, aQ, hP1, hK1, hD1⟩ := hB
  rw [ht] at hP1
  obtain ⟨hP, hD⟩ := mJoin (wr := (sh_T cs adT lfT foT ++ sh_M cs adM mpM mkM mgM mcM mwM mfM mtM mhM mmM mdM mxM mnM szM faM apM waM wrM fuM ++ sh_O cs adO ouO)) (w1 := (sh_G cs adG (adR 0) (adT 0) (aP 0) (aQ 0) ++ sh_R cs adR txR nu_2 ln_3 bg_4 en_5 ++ sh_P cs aP kd_6 gr_7 cv_8 br_9 hz_10 fm_11 dm_12 e1_13 e2_14 fk_15 pn_16 fn_17 ++ sh_P cs aQ kd_18 gr_19 cv_20 br_21 hz_22 fm_23 dm_24 e1_25 e2_26 fk_27 pn_28 fn_29)) (w' := (sh_G cs adG (adR 0) (adT 0) (aP 0) (aQ 0) ++ sh_R cs adR txR nu_2 ln_3 bg_4 en_5 ++ sh_T cs adT lfT foT ++ sh_P cs aP kd_6 gr_7 cv_8 br_9 hz_10 fm_11 dm_12 e1_13 e2_14 fk_15 pn_16 fn_17 ++ sh_P cs aQ kd_18 gr_19 cv_20 br_21 hz_22 fm_23 dm_24 e1_25 e2_26 fk_27 pn_28 fn_29 ++ sh_M cs adM mpM mkM mgM mcM mwM mfM mtM mhM mmM mdM mxM mnM szM faM apM waM wrM fuM ++ sh_O cs adO ouO)) hP hD [0, 1, 2, 3, 5, 6, 7, 8, 9, 10, 11, 12, 13, 14, 15, 16, 17, 18, 19, 20, 21, 22, 23, 24, 25, 26] [4, 27, 28, 29, 30, 31, 32, 33, 34, 35, 36, 37, 38, 39, 40] rfl rfl (by decide) (by decide) hk1 hFc hP1 hD1 [15, 16, 17, 18, 0, 19, 20, 21, 22, 23, 24, 25, 26, 27, 28, 29, 30, 31, 32, 33, 34, 35, 36, 37, 38, 39, 40, 1, 2, 3, 4, 5, 6, 7, 8, 9, 10, 11, 12, 13, 14] (by decide) rfl
  generalize H1 = H at hP hS ⊢
  refine lv_aload_n hx hb dL_law_157 rfl (lv_at hl 2 rfl) ?_
  have hFc := va_free (wc := (sh_M cs adM mpM mkM mgM mcM mwM mfM mtM mhM mmM mdM mxM mnM szM faM apM waM wrM fuM)) hD hS hA [27, 28, 29, 30, 31, 32, 33, 34, 35, 36, 37, 38, 39] rfl
  refine va_calli (va_runV (As := []) (rest := [.int r_1]) ⟨hx, hb, hml, hown, hts⟩ (met_X6_read l D cs ev _ adM mpM mkM mgM mcM mwM mfM mtM mhM mmM mdM mxM mnM szM faM apM waM wrM fuM _ h) (cwV 0 hts gL_law_X6_read rfl rfl rfl (by decide +kernel) ⟨Nat.le_of_ble_eq_true rfl, Nat.le_of_ble_eq_true rfl⟩) (mPreV (va_recv hK hP (ci := 5) (q0 := 27) rfl rfl) hP hD hS hK hE hFc [27, 28, 29, 30, 31, 32, 33, 34, 35, 36, 37, 38, 39] (by decide) rfl) rfl rfl hl.1 rfl (lv_room (Nat.le_of_ble_eq_true rfl)) dL_law_158 ⟨hc0, hs0⟩) hS (fun q _ h => hFc q h) hFc (fun r_30 u t H1 locs ht hvm hw hB hz1 hk1 hS => ?_)
  obtain ⟨mp_31, mk_32, mg_33, mc_34, mw_35, mf_36, mt_37, mh_38, mm_39, md_40, mn_41, sz_42, fa_43, ap_44⟩ := u
  have h := hw
  obtain ⟨hP1, hK1, hD1⟩ := hB
  rw [ht] at hP1
  obtain ⟨hP, hD⟩ := mJoin (wr := (sh_G cs adG (adR 0) (adT 0) (aP 0) (aQ 0) ++ sh_R cs adR txR nu_2 ln_3 bg_4 en_5 ++ sh_T cs adT lfT foT ++ sh_P cs aP kd_6 gr_7 cv_8 br_9 hz_10 fm_11 dm_12 e1_13 e2_14 fk_15 pn_16 fn_17 ++ sh_P cs aQ kd_18 gr_19 cv_20 br_21 hz_22 fm_23 dm_24 e1_25 e2_26 fk_27 pn_28 fn_29 ++ sh_O cs adO ouO)) (w1 := (sh_M cs adM mp_31 mk_32 mg_33 mc_34 mw_35 mf_36 mt_37 mh_38 mm_39 md_40 mxM mn_41 sz_42 fa_43 ap_44 waM wrM fuM)) (w' := (sh_G cs adG (adR 0) (adT 0) (aP 0) (aQ 0) ++ sh_R cs adR txR nu_2 ln_3 bg_4 en_5 ++ sh_T cs adT lfT foT ++ sh_P cs aP kd_6 gr_7 cv_8 br_9 hz_10 fm_11 dm_12 e1_13 e2_14 fk_15 pn_16 fn_17 ++ sh_P cs aQ kd_18 gr_19 cv_20 br_21 hz_22 fm_23 dm_24 e1_25 e2_26 fk_27 pn_28 fn_29 ++ sh_M cs adM mp_31 mk_32 mg_33 mc_34 mw_35 mf_36 mt_37 mh_38 mm_39 md_40 mxM mn_41 sz_42 fa_43 ap_44 waM wrM fuM ++ sh_O cs adO ouO)) hP hD [27, 28, 29, 30, 31, 32, 33, 34, 35, 36, 37, 38, 39] [0, 1, 2, 3, 4, 5, 6, 7, 8, 9, 10, 11, 12, 13, 14, 15, 16, 17, 18, 19, 20, 21, 22, 23, 24, 25, 26, 40] rfl rfl (by decide) (by decide) hk1 hFc hP1 hD1 [0, 1, 2, 3, 4, 5, 6, 7, 8, 9, 10, 11, 12, 13, 14, 15, 16, 17, 18, 19, 20, 21, 22, 23, 24, 25, 26, 28, 29, 30, 31, 32, 33, 34, 35, 36, 37, 38, 39, 40, 27] (by decide) rfl
  generalize H1 = H at hP hS ⊢
  refine lv_icmp_eq (tgt := 935) hx hb dL_law_161 (by decide) (fun c_45 => ?_) (fun c_45 => ?_)
  · have h := h.1 c_45
    refine lv_iinc (v := (nI i) + 4) (lv' := [(4, .int ((nI i) + 4)), (0, .ref b), (1, .ref (adG 0)), (2, .ref (adM 0)), (3, .ref (adO 0))]) hx hb dL_law_935 hl (k := 4) rfl rfl (by decide) rfl (fun ls hl => ?_)
    refine lv_goto (tgt := 23) hx hb dL_law_938 (by decide) ?_
    have h := h
    refine W.widen (k := 100 + (i + 4)) (n := 20000 + 6 * (i + 4)) (by omega) (by omega) ?_
    have hl := lv_sub (l' := [(0, .ref b), (1, .ref (adG 0)), (2, .ref (adM 0)), (3, .ref (adO 0)), (4, .int ((nI i) + 4))]) hl [1, 2, 3, 4, 0] rfl
    rw [show (nI i) + 4 = nI (i + 4) from nI_add i 4] at hl
    exact h adG adR adT aP aQ adM adO _ _ hP hD hS ls hl
  · have h := h.2 c_45
    refine lv_iconst (v := 0) hx hb dL_law_164 (by decide) ?_
    exact h.elim
def wp_law166 (L : Nat) (xs : Nat → Int32) (A23 : Nat → (Nat → Int32) → (Nat → Int32) → Int32 → Int32 → Int32 → Int32 → Int32 → (Nat → Int32) → (Nat → Int64) → (Nat → Int32) → (Nat → Int32) → (Nat → Int32) → (Nat → Int32) → (Nat → Int32) → (Nat → Int32) → (Nat → Int32) → (Nat → Int32) → Int32 → Int32 → (Nat → Int32) → (Nat → Int64) → (Nat → Int32) → (Nat → Int32) → (Nat → Int32) → (Nat → Int32) → (Nat → Int32) → (Nat → Int32) → (Nat → Int32) → (Nat → Int32) → Int32 → Int32 → (Nat → Int32) → (Nat → Int32) → (Nat → Int32) → (Nat → Int32) → (Nat → Int32) → (Nat → Int32) → (Nat → Int32) → (Nat → Int32) → (Nat → Int32) → (Nat → Int32) → (Nat → Int32) → (Nat → Int32) → Int32 → Int32 → Int32 → Int32 → Int32 → Int32 → (Nat → Int64) → Prop) (i : Nat) (txR : Nat → Int32) (nuR : Nat → Int32) (lnR : Int32) (bgR : Int32) (enR : Int32) (lfT : Int32) (foT : Int32) (kdP : Nat → Int32) (grP : Nat → Int64) (cvP : Nat → Int32) (brP : Nat → Int32) (hzP : Nat → Int32) (fmP : Nat → Int32) (dmP : Nat → Int32) (e1P : Nat → Int32) (e2P : Nat → Int32) (fkP : Nat → Int32) (pnP : Int32) (fnP : Int32) (kdQ : Nat → Int32) (grQ : Nat → Int64) (cvQ : Nat → Int32) (brQ : Nat → Int32) (hzQ : Nat → Int32) (fmQ : Nat → Int32) (dmQ : Nat → Int32) (e1Q : Nat → Int32) (e2Q : Nat → Int32) (fkQ : Nat → Int32) (pnQ : Int32) (fnQ : Int32) (mpM : Nat → Int32) (mkM : Nat → Int32) (mgM : Nat → Int32) (mcM : Nat → Int32) (mwM : Nat → Int32) (mfM : Nat → Int32) (mtM : Nat → Int32) (mhM : Nat → Int32) (mmM : Nat → Int32) (mdM : Nat → Int32) (mxM : Nat → Int32) (mnM : Nat → Int32) (szM : Int32) (faM : Int32) (apM : Int32) (waM : Int32) (wrM : Int32) (fuM : Int32) (ouO : Nat → Int64) : Prop :=
    (vp_in ((nI i) + 1) L ∧ (vp_in ((nI i) + 2) L ∧ (vp_in ((nI i) + 3) L ∧ wp_X5_part kdP grP cvP brP hzP fmP dmP pnP (xs ((nI i) + 1).toNatClampNeg) ((((xs ((nI i) + 2).toNatClampNeg).toInt64) <<< ((32 : Int32).toInt64 &&& 63)) ||| (((xs ((nI i) + 3).toNatClampNeg).toInt64) &&& 4294967295)) (fun r_1 u => match u with | (kd_2, gr_3, cv_4, br_5, hz_6, fm_7, dm_8, pn_9) => (vp_in ((nI i) + 1) L ∧ (vp_in ((nI i) + 2) L ∧ (vp_in ((nI i) + 3) L ∧ wp_X6_part mpM mkM mgM mcM mwM mfM mtM mhM mmM mdM (xs ((nI i) + 1).toNatClampNeg) ((((xs ((nI i) + 2).toNatClampNeg).toInt64) <<< ((32 : Int32).toInt64 &&& 63)) ||| (((xs ((nI i) + 3).toNatClampNeg).toInt64) &&& 4294967295)) (fun r_10 u => match u with | (mp_11, mk_12, mg_13, mc_14, mw_15, mf_16, mt_17, mh_18, mm_19, md_20, fa_21) => ((r_1 = r_10 → A23 (i + 4) txR nuR lnR bgR enR lfT foT kd_2 gr_3 cv_4 br_5 hz_6 fm_7 dm_8 e1P e2P fkP pn_9 fnP kdQ grQ cvQ brQ hzQ fmQ dmQ e1Q e2Q fkQ pnQ fnQ mp_11 mk_12 mg_13 mc_14 mw_15 mf_16 mt_17 mh_18 mm_19 md_20 mxM mnM szM fa_21 apM waM wrM fuM ouO) ∧ (¬ r_1 = r_10 → False))))))))))
set_option maxHeartbeats 4000000 in
set_option maxRecDepth 100000 in
theorem law_c166 {p : Program} {l : Launch} {e : Env} {s : State} {m : MethodId} {below : List Frame} {meth : Method} {c : Code} {b L : Nat} {xs : Nat → Int32} {D : va_G} {cs : Nat → ClassId} {ev : Nat → Nat → Nat} {i : Nat} {txR : Nat → Int32} {nuR : Nat → Int32} {lnR : Int32} {bgR : Int32} {enR : Int32} {lfT : Int32} {foT : Int32} {kdP : Nat → Int32} {grP : Nat → Int64} {cvP : Nat → Int32} {brP : Nat → Int32} {hzP : Nat → Int32} {fmP : Nat → Int32} {dmP : Nat → Int32} {e1P : Nat → Int32} {e2P : Nat → Int32} {fkP : Nat → Int32} {pnP : Int32} {fnP : Int32} {kdQ : Nat → Int32} {grQ : Nat → Int64} {cvQ : Nat → Int32} {brQ : Nat → Int32} {hzQ : Nat → Int32} {fmQ : Nat → Int32} {dmQ : Nat → Int32} {e1Q : Nat → Int32} {e2Q : Nat → Int32} {fkQ : Nat → Int32} {pnQ : Int32} {fnQ : Int32} {mpM : Nat → Int32} {mkM : Nat → Int32} {mgM : Nat → Int32} {mcM : Nat → Int32} {mwM : Nat → Int32} {mfM : Nat → Int32} {mtM : Nat → Int32} {mhM : Nat → Int32} {mmM : Nat → Int32} {mdM : Nat → Int32} {mxM : Nat → Int32} {mnM : Nat → Int32} {szM : Int32} {faM : Int32} {apM : Int32} {waM : Int32} {wrM : Int32} {fuM : Int32} {ouO : Nat → Int64} (hnt : l.stackTraces = false) (C0 : lw_At p s m meth c b L xs) (hLi : i ≤ 2048) (hK : va_K D vwCl (tyS cs) s) (hE : EV ev (fun q : Nat => s.heap.size ≤ q) s s.heap) (hTV : TV (fun q : Nat => s.heap.size ≤ q) s s.heap) (h : wp_law166 L xs (law_A p l e s m below meth c b D cs) i txR nuR lnR bgR enR lfT foT kdP grP cvP brP hzP fmP dmP e1P e2P fkP pnP fnP kdQ grQ cvQ brQ hzQ fmQ dmQ e1Q e2Q fkQ pnQ fnQ mpM mkM mgM mcM mwM mfM mtM mhM mmM mdM mxM mnM szM faM apM waM wrM fuM ouO) : ∀ (adG adR adT adP adQ adM adO : Nat → Nat) (H : Heap) (locs : List Loc), va_P D vwCl (sh_G cs adG (adR 0) (adT 0) (adP 0) (adQ 0) ++ sh_R cs adR txR nuR lnR bgR enR ++ sh_T cs adT lfT foT ++ sh_P cs adP kdP grP cvP brP hzP fmP dmP e1P e2P fkP pnP fnP ++ sh_P cs adQ kdQ grQ cvQ brQ hzQ fmQ dmQ e1Q e2Q fkQ pnQ fnQ ++ sh_M cs adM mpM mkM mgM mcM mwM mfM mtM mhM mmM mdM mxM mnM szM faM apM waM wrM fuM ++ sh_O cs adO ouO) H → va_D (fun q : Nat => s.heap.size ≤ q) (sh_G cs adG (adR 0) (adT 0) (adP 0) (adQ 0) ++ sh_R cs adR txR nuR lnR bgR enR ++ sh_T cs adT lfT foT ++ sh_P cs adP kdP grP cvP brP hzP fmP dmP e1P e2P fkP pnP fnP ++ sh_P cs adQ kdQ grQ cvQ brQ hzQ fmQ dmQ e1Q e2Q fkQ pnQ fnQ ++ sh_M cs adM mpM mkM mgM mcM mwM mfM mtM mhM mmM mdM mxM mnM szM faM apM waM wrM fuM ++ sh_O cs adO ouO) → va_S (fun q : Nat => s.heap.size ≤ q) s.heap H locs → ∀ ls : Array Slot, lv_has ls 8 [(0, .ref b), (1, .ref (adG 0)), (2, .ref (adM 0)), (3, .ref (adO 0)), (4, .int (nI i))] → W p l e room_1 s m #[Value.ref b] below meth c H locs (100 + i) (20000 + 6 * i) (lw_Z below #[Value.ref b] s) (F0 m 166 ls []) := by
  obtain ⟨hx, hb, hr, hml, hown, hts, hX, hbl, hlocks, hgv⟩ := id C0
  have hts : ∀ w ∈ wsL_law, w.before #[Value.ref b] s = true := fun w h => hts w (wsL_law_in2 w h)
  have hA : ∀ q : Nat, s.heap.size ≤ q → (fun q : Nat => s.heap.size ≤ q) q := fun _ h => h
  have hbA : ¬ (fun q : Nat => s.heap.size ≤ q) b := Nat.not_le.mpr hbl
  have hc0 : 100 + i + 0 ≤ room_1.cells := by show 100 + i + 0 ≤ 601024; omega
  have hs0 : 20000 + 6 * i + 0 ≤ room_1.slots := by show 20000 + 6 * i + 0 ≤ 7293034; omega
  have hc1 : 100 + i + 1 ≤ room_1.cells := by show 100 + i + 1 ≤ 601024; omega
  have hs1 : 20000 + 6 * i + 6 ≤ room_1.slots := by show 20000 + 6 * i + 6 ≤ 7293034; omega
  intro adG adR adT adP adQ adM adO H locs hP hD hS ls hl
  refine lv_aload_n hx hb dL_law_166 rfl (lv_at hl 1 rfl) ?_
  refine lv_aload_n hx hb dL_law_167 rfl (lv_at hl 0 rfl) ?_
  refine lv_iload hx hb dL_law_168 (lv_at hl 4 rfl) ?_
  refine lv_iconst (v := 1) hx hb dL_law_170 (by decide) ?_
  refine lv_iadd hx hb dL_law_171 ?_
  have hin := h.1
  have h := h.2
  refine va_sld hx hb hX hbl hbA hS hin dL_law_172 ?_
  refine lv_aload_n hx hb dL_law_173 rfl (lv_at hl 0 rfl) ?_
  refine lv_iload hx hb dL_law_174 (lv_at hl 4 rfl) ?_
  refine lv_iconst (v := 2) hx hb dL_law_176 (by decide) ?_
  refine lv_iadd hx hb dL_law_177 ?_
  have hin := h.1
  have h := h.2
  refine va_sld hx hb hX hbl hbA hS hin dL_law_178 ?_
  refine lv_i2l hx hb dL_law_179 rfl ?_
  refine lv_bipush (v := 32) hx hb dL_law_180 (by decide) ?_
  refine lv_lshl hx hb dL_law_182 rfl ?_
  refine lv_aload_n hx hb dL_law_183 rfl (lv_at hl 0 rfl) ?_
  refine lv_iload hx hb dL_law_184 (lv_at hl 4 rfl) ?_
  refine lv_iconst (v := 3) hx hb dL_law_186 (by decide) ?_
  refine lv_iadd hx hb dL_law_187 ?_
  have hin := h.1
  have h := h.2
  refine va_sld hx hb hX hbl hbA hS hin dL_law_188 ?_
  refine lv_i2l hx hb dL_law_189 rfl ?_
  refine lv_ldc2 (v := 4294967295) hx hb hown (hts (.constantLong RL 33 4294967295) (by decide +kernel)) dL_law_190 ?_
  refine lv_land hx hb dL_law_193 ?_
  refine lv_lor hx hb dL_law_194 ?_
  have hFc := va_free (wc := (sh_G cs adG (adR 0) (adT 0) (adP 0) (adQ 0) ++ sh_P cs adP kdP grP cvP brP hzP fmP dmP e1P e2P fkP pnP fnP)) hD hS hA [0, 5, 6, 7, 8, 9, 10, 11, 12, 13, 14, 15] rfl
  refine va_calli (va_runV (As := [.int (xs ((nI i) + 1).toNatClampNeg), .long ((((xs ((nI i) + 2).toNatClampNeg).toInt64) <<< ((32 : Int32).toInt64 &&& 63)) ||| (((xs ((nI i) + 3).toNatClampNeg).toInt64) &&& 4294967295))]) (rest := []) ⟨hx, hb, hml, hown, hts⟩ (met_X5_part l D cs ev _ adG adP (adR 0) (adT 0) (adQ 0) kdP grP cvP brP hzP fmP dmP e1P e2P fkP pnP fnP (xs ((nI i) + 1).toNatClampNeg) ((((xs ((nI i) + 2).toNatClampNeg).toInt64) <<< ((32 : Int32).toInt64 &&& 63)) ||| (((xs ((nI i) + 3).toNatClampNeg).toInt64) &&& 4294967295)) _ h) (cwV 2 hts gL_law_X5_part rfl rfl rfl (by decide +kernel) ⟨Nat.le_of_ble_eq_true rfl, Nat.le_of_ble_eq_true rfl⟩) (mPreV (va_recv hK hP (ci := 4) (q0 := 0) rfl rfl) hP hD hS hK hE hFc [0, 5, 6, 7, 8, 9, 10, 11, 12, 13, 14, 15] (by decide) rfl) rfl rfl hl.1 rfl (lv_room (Nat.le_of_ble_eq_true rfl)) dL_law_195 ⟨hc0, hs0⟩) hS (fun q _ h => hFc q h) hFc (fun r_1 u t H1 locs ht hvm hw hB hz1 hk1 hS => ?_)
  obtain ⟨kd_2, gr_3, cv_4, br_5, hz_6, fm_7, dm_8, pn_9⟩ := u
  have h := hw
  obtain ⟨hP1, hK1, hD1⟩ := hB
  rw [ht] at hP1
  obtain ⟨hP, hD⟩ := mJoin (wr := (sh_R cs adR txR nuR lnR bgR enR ++ sh_T cs adT lfT foT ++ sh_P cs adQ kdQ grQ cvQ brQ hzQ fmQ dmQ e1Q e2Q fkQ pnQ fnQ ++ sh_M cs adM mpM mkM mgM mcM mwM mfM mtM mhM mmM mdM mxM mnM szM faM apM waM wrM fuM ++ sh_O cs adO ouO)) (w1 := (sh_G cs adG (adR 0) (adT 0) (adP 0) (adQ 0) ++ sh_P cs adP kd_2 gr_3 cv_4 br_5 hz_6 fm_7 dm_8 e1P e2P fkP pn_9 fnP)) (w' := (sh_G cs adG (adR 0) (adT 0) (adP 0) (adQ 0) ++ sh_R cs adR txR nuR lnR bgR enR ++ sh_T cs adT lfT foT ++ sh_P cs adP kd_2 gr_3 cv_4 br_5 hz_6 fm_7 dm_8 e1P e2P fkP pn_9 fnP ++ sh_P cs adQ kdQ grQ cvQ brQ hzQ fmQ dmQ e1Q e2Q fkQ pnQ fnQ ++ sh_M cs adM mpM mkM mgM mcM mwM mfM mtM mhM mmM mdM mxM mnM szM faM apM waM wrM fuM ++ sh_O cs adO ouO)) hP hD [0, 5, 6, 7, 8, 9, 10, 11, 12, 13, 14, 15] [1, 2, 3, 4, 16, 17, 18, 19, 20, 21, 22, 23, 24, 25, 26, 27, 28, 29, 30, 31, 32, 33, 34, 35, 36, 37, 38, 39, 40] rfl rfl (by decide) (by decide) hk1 hFc hP1 hD1 [29, 0, 1, 2, 3, 30, 31, 32, 33, 34, 35, 36, 37, 38, 39, 40, 4, 5, 6, 7, 8, 9, 10, 11, 12, 13, 14, 15, 16, 17, 18, 19, 20, 21, 22, 23, 24, 25, 26, 27, 28] (by decide) rfl
  generalize H1 = H at hP hS ⊢
  refine lv_aload_n hx hb dL_law_198 rfl (lv_at hl 2 rfl) ?_
  refine lv_aload_n hx hb dL_law_199 rfl (lv_at hl 0 rfl) ?_
  refine lv_iload hx hb dL_law_200 (lv_at hl 4 rfl) ?_
  refine lv_iconst (v := 1) hx hb dL_law_202 (by decide) ?_
  refine lv_iadd hx hb dL_law_203 ?_
  have hin := h.1
  have h := h.2
  refine va_sld hx hb hX hbl hbA hS hin dL_law_204 ?_
  refine lv_aload_n hx hb dL_law_205 rfl (lv_at hl 0 rfl) ?_
  refine lv_iload hx hb dL_law_206 (lv_at hl 4 rfl) ?_
  refine lv_iconst (v := 2) hx hb dL_law_208 (by decide) ?_
  refine lv_iadd hx hb dL_law_209 ?_
  have hin := h.1
  have h := h.2
  refine va_sld hx hb hX hbl hbA hS hin dL_law_210 ?_
  refine lv_i2l hx hb dL_law_211 rfl ?_
  refine lv_bipush (v := 32) hx hb dL_law_212 (by decide) ?_
  refine lv_lshl hx hb dL_law_214 rfl ?_
  refine lv_aload_n hx hb dL_law_215 rfl (lv_at hl 0 rfl) ?_
  refine lv_iload hx hb dL_law_216 (lv_at hl 4 rfl) ?_
  refine lv_iconst (v := 3) hx hb dL_law_218 (by decide) ?_
  refine lv_iadd hx hb dL_law_219 ?_
  have hin := h.1
  have h := h.2
  refine va_sld hx hb hX hbl hbA hS hin dL_law_220 ?_
  refine lv_i2l hx hb dL_law_221 rfl ?_
  refine lv_ldc2 (v := 4294967295) hx hb hown (hts (.constantLong RL 33 4294967295) (by decide +kernel)) dL_law_222 ?_
  refine lv_land hx hb dL_law_225 ?_
  refine lv_lor hx hb dL_law_226 ?_
  have hFc := va_free (wc := (sh_M cs adM mpM mkM mgM mcM mwM mfM mtM mhM mmM mdM mxM mnM szM faM apM waM wrM fuM)) hD hS hA [27, 28, 29, 30, 31, 32, 33, 34, 35, 36, 37, 38, 39] rfl
  refine va_calli (va_runV (As := [.int (xs ((nI i) + 1).toNatClampNeg), .long ((((xs ((nI i) + 2).toNatClampNeg).toInt64) <<< ((32 : Int32).toInt64 &&& 63)) ||| (((xs ((nI i) + 3).toNatClampNeg).toInt64) &&& 4294967295))]) (rest := [.int r_1]) ⟨hx, hb, hml, hown, hts⟩ (met_X6_part l D cs ev _ adM mpM mkM mgM mcM mwM mfM mtM mhM mmM mdM mxM mnM szM faM apM waM wrM fuM (xs ((nI i) + 1).toNatClampNeg) ((((xs ((nI i) + 2).toNatClampNeg).toInt64) <<< ((32 : Int32).toInt64 &&& 63)) ||| (((xs ((nI i) + 3).toNatClampNeg).toInt64) &&& 4294967295)) _ h) (cwV 2 hts gL_law_X6_part rfl rfl rfl (by decide +kernel) ⟨Nat.le_of_ble_eq_true rfl, Nat.le_of_ble_eq_true rfl⟩) (mPreV (va_recv hK hP (ci := 5) (q0 := 27) rfl rfl) hP hD hS hK hE hFc [27, 28, 29, 30, 31, 32, 33, 34, 35, 36, 37, 38, 39] (by decide) rfl) rfl rfl hl.1 rfl (lv_room (Nat.le_of_ble_eq_true rfl)) dL_law_227 ⟨hc0, hs0⟩) hS (fun q _ h => hFc q h) hFc (fun r_10 u t H1 locs ht hvm hw hB hz1 hk1 hS => ?_)
  obtain ⟨mp_11, mk_12, mg_13, mc_14, mw_15, mf_16, mt_17, mh_18, mm_19, md_20, fa_21⟩ := u
  have h := hw
  obtain ⟨hP1, hK1, hD1⟩ := hB
  rw [ht] at hP1
  obtain ⟨hP, hD⟩ := mJoin (wr := (sh_G cs adG (adR 0) (adT 0) (adP 0) (adQ 0) ++ sh_R cs adR txR nuR lnR bgR enR ++ sh_T cs adT lfT foT ++ sh_P cs adP kd_2 gr_3 cv_4 br_5 hz_6 fm_7 dm_8 e1P e2P fkP pn_9 fnP ++ sh_P cs adQ kdQ grQ cvQ brQ hzQ fmQ dmQ e1Q e2Q fkQ pnQ fnQ ++ sh_O cs adO ouO)) (w1 := (sh_M cs adM mp_11 mk_12 mg_13 mc_14 mw_15 mf_16 mt_17 mh_18 mm_19 md_20 mxM mnM szM fa_21 apM waM wrM fuM)) (w' := (sh_G cs adG (adR 0) (adT 0) (adP 0) (adQ 0) ++ sh_R cs adR txR nuR lnR bgR enR ++ sh_T cs adT lfT foT ++ sh_P cs adP kd_2 gr_3 cv_4 br_5 hz_6 fm_7 dm_8 e1P e2P fkP pn_9 fnP ++ sh_P cs adQ kdQ grQ cvQ brQ hzQ fmQ dmQ e1Q e2Q fkQ pnQ fnQ ++ sh_M cs adM mp_11 mk_12 mg_13 mc_14 mw_15 mf_16 mt_17 mh_18 mm_19 md_20 mxM mnM szM fa_21 apM waM wrM fuM ++ sh_O cs adO ouO)) hP hD [27, 28, 29, 30, 31, 32, 33, 34, 35, 36, 37, 38, 39] [0, 1, 2, 3, 4, 5, 6, 7, 8, 9, 10, 11, 12, 13, 14, 15, 16, 17, 18, 19, 20, 21, 22, 23, 24, 25, 26, 40] rfl rfl (by decide) (by decide) hk1 hFc hP1 hD1 [0, 1, 2, 3, 4, 5, 6, 7, 8, 9, 10, 11, 12, 13, 14, 15, 16, 17, 18, 19, 20, 21, 22, 23, 24, 25, 26, 28, 29, 30, 31, 32, 33, 34, 35, 36, 37, 38, 39, 40, 27] (by decide) rfl
  generalize H1 = H at hP hS ⊢
  refine lv_icmp_eq (tgt := 935) hx hb dL_law_230 (by decide) (fun c_22 => ?_) (fun c_22 => ?_)
  · have h := h.1 c_22
    refine lv_iinc (v := (nI i) + 4) (lv' := [(4, .int ((nI i) + 4)), (0, .ref b), (1, .ref (adG 0)), (2, .ref (adM 0)), (3, .ref (adO 0))]) hx hb dL_law_935 hl (k := 4) rfl rfl (by decide) rfl (fun ls hl => ?_)
    refine lv_goto (tgt := 23) hx hb dL_law_938 (by decide) ?_
    have h := h
    refine W.widen (k := 100 + (i + 4)) (n := 20000 + 6 * (i + 4)) (by omega) (by omega) ?_
    have hl := lv_sub (l' := [(0, .ref b), (1, .ref (adG 0)), (2, .ref (adM 0)), (3, .ref (adO 0)), (4, .int ((nI i) + 4))]) hl [1, 2, 3, 4, 0] rfl
    rw [show (nI i) + 4 = nI (i + 4) from nI_add i 4] at hl
    exact h adG adR adT adP adQ adM adO _ _ hP hD hS ls hl
  · have h := h.2 c_22
    refine lv_iconst (v := 0) hx hb dL_law_233 (by decide) ?_
    exact h.elim
def wp_law235 (L : Nat) (xs : Nat → Int32) (A23 : Nat → (Nat → Int32) → (Nat → Int32) → Int32 → Int32 → Int32 → Int32 → Int32 → (Nat → Int32) → (Nat → Int64) → (Nat → Int32) → (Nat → Int32) → (Nat → Int32) → (Nat → Int32) → (Nat → Int32) → (Nat → Int32) → (Nat → Int32) → (Nat → Int32) → Int32 → Int32 → (Nat → Int32) → (Nat → Int64) → (Nat → Int32) → (Nat → Int32) → (Nat → Int32) → (Nat → Int32) → (Nat → Int32) → (Nat → Int32) → (Nat → Int32) → (Nat → Int32) → Int32 → Int32 → (Nat → Int32) → (Nat → Int32) → (Nat → Int32) → (Nat → Int32) → (Nat → Int32) → (Nat → Int32) → (Nat → Int32) → (Nat → Int32) → (Nat → Int32) → (Nat → Int32) → (Nat → Int32) → (Nat → Int32) → Int32 → Int32 → Int32 → Int32 → Int32 → Int32 → (Nat → Int64) → Prop) (i : Nat) (txR : Nat → Int32) (nuR : Nat → Int32) (lnR : Int32) (bgR : Int32) (enR : Int32) (lfT : Int32) (foT : Int32) (kdP : Nat → Int32) (grP : Nat → Int64) (cvP : Nat → Int32) (brP : Nat → Int32) (hzP : Nat → Int32) (fmP : Nat → Int32) (dmP : Nat → Int32) (e1P : Nat → Int32) (e2P : Nat → Int32) (fkP : Nat → Int32) (pnP : Int32) (fnP : Int32) (kdQ : Nat → Int32) (grQ : Nat → Int64) (cvQ : Nat → Int32) (brQ : Nat → Int32) (hzQ : Nat → Int32) (fmQ : Nat → Int32) (dmQ : Nat → Int32) (e1Q : Nat → Int32) (e2Q : Nat → Int32) (fkQ : Nat → Int32) (pnQ : Int32) (fnQ : Int32) (mpM : Nat → Int32) (mkM : Nat → Int32) (mgM : Nat → Int32) (mcM : Nat → Int32) (mwM : Nat → Int32) (mfM : Nat → Int32) (mtM : Nat → Int32) (mhM : Nat → Int32) (mmM : Nat → Int32) (mdM : Nat → Int32) (mxM : Nat → Int32) (mnM : Nat → Int32) (szM : Int32) (faM : Int32) (apM : Int32) (waM : Int32) (wrM : Int32) (fuM : Int32) (ouO : Nat → Int64) : Prop :=
    (vp_in ((nI i) + 1) L ∧ (vp_in ((nI i) + 2) L ∧ (vp_in ((nI i) + 3) L ∧ wp_X5_fasten e1P e2P fkP pnP fnP (xs ((nI i) + 1).toNatClampNeg) (xs ((nI i) + 2).toNatClampNeg) (xs ((nI i) + 3).toNatClampNeg) (fun r_1 u => match u with | (e1_2, e2_3, fk_4, fn_5) => (vp_in ((nI i) + 1) L ∧ (vp_in ((nI i) + 2) L ∧ (vp_in ((nI i) + 3) L ∧ wp_X6_fasten mpM mkM mgM mcM mwM mfM mtM mhM mmM mdM (xs ((nI i) + 1).toNatClampNeg) (xs ((nI i) + 2).toNatClampNeg) (xs ((nI i) + 3).toNatClampNeg) (fun r_6 u => match u with | (mp_7, mk_8, mg_9, mc_10, mw_11, mf_12, mt_13, mh_14, mm_15, md_16, fa_17) => ((r_1 = r_6 → A23 (i + 4) txR nuR lnR bgR enR lfT foT kdP grP cvP brP hzP fmP dmP e1_2 e2_3 fk_4 pnP fn_5 kdQ grQ cvQ brQ hzQ fmQ dmQ e1Q e2Q fkQ pnQ fnQ mp_7 mk_8 mg_9 mc_10 mw_11 mf_12 mt_13 mh_14 mm_15 md_16 mxM mnM szM fa_17 apM waM wrM fuM ouO) ∧ (¬ r_1 = r_6 → False))))))))))
set_option maxHeartbeats 4000000 in
set_option maxRecDepth 100000 in
theorem law_c235 {p : Program} {l : Launch} {e : Env} {s : State} {m : MethodId} {below : List Frame} {meth : Method} {c : Code} {b L : Nat} {xs : Nat → Int32} {D : va_G} {cs : Nat → ClassId} {ev : Nat → Nat → Nat} {i : Nat} {txR : Nat → Int32} {nuR : Nat → Int32} {lnR : Int32} {bgR : Int32} {enR : Int32} {lfT : Int32} {foT : Int32} {kdP : Nat → Int32} {grP : Nat → Int64} {cvP : Nat → Int32} {brP : Nat → Int32} {hzP : Nat → Int32} {fmP : Nat → Int32} {dmP : Nat → Int32} {e1P : Nat → Int32} {e2P : Nat → Int32} {fkP : Nat → Int32} {pnP : Int32} {fnP : Int32} {kdQ : Nat → Int32} {grQ : Nat → Int64} {cvQ : Nat → Int32} {brQ : Nat → Int32} {hzQ : Nat → Int32} {fmQ : Nat → Int32} {dmQ : Nat → Int32} {e1Q : Nat → Int32} {e2Q : Nat → Int32} {fkQ : Nat → Int32} {pnQ : Int32} {fnQ : Int32} {mpM : Nat → Int32} {mkM : Nat → Int32} {mgM : Nat → Int32} {mcM : Nat → Int32} {mwM : Nat → Int32} {mfM : Nat → Int32} {mtM : Nat → Int32} {mhM : Nat → Int32} {mmM : Nat → Int32} {mdM : Nat → Int32} {mxM : Nat → Int32} {mnM : Nat → Int32} {szM : Int32} {faM : Int32} {apM : Int32} {waM : Int32} {wrM : Int32} {fuM : Int32} {ouO : Nat → Int64} (hnt : l.stackTraces = false) (C0 : lw_At p s m meth c b L xs) (hLi : i ≤ 2048) (hK : va_K D vwCl (tyS cs) s) (hE : EV ev (fun q : Nat => s.heap.size ≤ q) s s.heap) (hTV : TV (fun q : Nat => s.heap.size ≤ q) s s.heap) (h : wp_law235 L xs (law_A p l e s m below meth c b D cs) i txR nuR lnR bgR enR lfT foT kdP grP cvP brP hzP fmP dmP e1P e2P fkP pnP fnP kdQ grQ cvQ brQ hzQ fmQ dmQ e1Q e2Q fkQ pnQ fnQ mpM mkM mgM mcM mwM mfM mtM mhM mmM mdM mxM mnM szM faM apM waM wrM fuM ouO) : ∀ (adG adR adT adP adQ adM adO : Nat → Nat) (H : Heap) (locs : List Loc), va_P D vwCl (sh_G cs adG (adR 0) (adT 0) (adP 0) (adQ 0) ++ sh_R cs adR txR nuR lnR bgR enR ++ sh_T cs adT lfT foT ++ sh_P cs adP kdP grP cvP brP hzP fmP dmP e1P e2P fkP pnP fnP ++ sh_P cs adQ kdQ grQ cvQ brQ hzQ fmQ dmQ e1Q e2Q fkQ pnQ fnQ ++ sh_M cs adM mpM mkM mgM mcM mwM mfM mtM mhM mmM mdM mxM mnM szM faM apM waM wrM fuM ++ sh_O cs adO ouO) H → va_D (fun q : Nat => s.heap.size ≤ q) (sh_G cs adG (adR 0) (adT 0) (adP 0) (adQ 0) ++ sh_R cs adR txR nuR lnR bgR enR ++ sh_T cs adT lfT foT ++ sh_P cs adP kdP grP cvP brP hzP fmP dmP e1P e2P fkP pnP fnP ++ sh_P cs adQ kdQ grQ cvQ brQ hzQ fmQ dmQ e1Q e2Q fkQ pnQ fnQ ++ sh_M cs adM mpM mkM mgM mcM mwM mfM mtM mhM mmM mdM mxM mnM szM faM apM waM wrM fuM ++ sh_O cs adO ouO) → va_S (fun q : Nat => s.heap.size ≤ q) s.heap H locs → ∀ ls : Array Slot, lv_has ls 8 [(0, .ref b), (1, .ref (adG 0)), (2, .ref (adM 0)), (3, .ref (adO 0)), (4, .int (nI i))] → W p l e room_1 s m #[Value.ref b] below meth c H locs (100 + i) (20000 + 6 * i) (lw_Z below #[Value.ref b] s) (F0 m 235 ls []) := by
  obtain ⟨hx, hb, hr, hml, hown, hts, hX, hbl, hlocks, hgv⟩ := id C0
  have hts : ∀ w ∈ wsL_law, w.before #[Value.ref b] s = true := fun w h => hts w (wsL_law_in2 w h)
  have hA : ∀ q : Nat, s.heap.size ≤ q → (fun q : Nat => s.heap.size ≤ q) q := fun _ h => h
  have hbA : ¬ (fun q : Nat => s.heap.size ≤ q) b := Nat.not_le.mpr hbl
  have hc0 : 100 + i + 0 ≤ room_1.cells := by show 100 + i + 0 ≤ 601024; omega
  have hs0 : 20000 + 6 * i + 0 ≤ room_1.slots := by show 20000 + 6 * i + 0 ≤ 7293034; omega
  have hc1 : 100 + i + 1 ≤ room_1.cells := by show 100 + i + 1 ≤ 601024; omega
  have hs1 : 20000 + 6 * i + 6 ≤ room_1.slots := by show 20000 + 6 * i + 6 ≤ 7293034; omega
  intro adG adR adT adP adQ adM adO H locs hP hD hS ls hl
  refine lv_aload_n hx hb dL_law_235 rfl (lv_at hl 1 rfl) ?_
  refine lv_aload_n hx hb dL_law_236 rfl (lv_at hl 0 rfl) ?_
  refine lv_iload hx hb dL_law_237 (lv_at hl 4 rfl) ?_
  refine lv_iconst (v := 1) hx hb dL_law_239 (by decide) ?_
  refine lv_iadd hx hb dL_law_240 ?_
  have hin := h.1
  have h := h.2
  refine va_sld hx hb hX hbl hbA hS hin dL_law_241 ?_
  refine lv_aload_n hx hb dL_law_242 rfl (lv_at hl 0 rfl) ?_
  refine lv_iload hx hb dL_law_243 (lv_at hl 4 rfl) ?_
  refine lv_iconst (v := 2) hx hb dL_law_245 (by decide) ?_
  refine lv_iadd hx hb dL_law_246 ?_
  have hin := h.1
  have h := h.2
  refine va_sld hx hb hX hbl hbA hS hin dL_law_247 ?_
  refine lv_aload_n hx hb dL_law_248 rfl (lv_at hl 0 rfl) ?_
  refine lv_iload hx hb dL_law_249 (lv_at hl 4 rfl) ?_
  refine lv_iconst (v := 3) hx hb dL_law_251 (by decide) ?_
  refine lv_iadd hx hb dL_law_252 ?_
  have hin := h.1
  have h := h.2
  refine va_sld hx hb hX hbl hbA hS hin dL_law_253 ?_
  have hFc := va_free (wc := (sh_G cs adG (adR 0) (adT 0) (adP 0) (adQ 0) ++ sh_P cs adP kdP grP cvP brP hzP fmP dmP e1P e2P fkP pnP fnP)) hD hS hA [0, 5, 6, 7, 8, 9, 10, 11, 12, 13, 14, 15] rfl
  refine va_calli (va_runV (As := [.int (xs ((nI i) + 1).toNatClampNeg), .int (xs ((nI i) + 2).toNatClampNeg), .int (xs ((nI i) + 3).toNatClampNeg)]) (rest := []) ⟨hx, hb, hml, hown, hts⟩ (met_X5_fasten l D cs ev _ adG adP (adR 0) (adT 0) (adQ 0) kdP grP cvP brP hzP fmP dmP e1P e2P fkP pnP fnP (xs ((nI i) + 1).toNatClampNeg) (xs ((nI i) + 2).toNatClampNeg) (xs ((nI i) + 3).toNatClampNeg) _ h) (cwV 3 hts gL_law_X5_fasten rfl rfl rfl (by decide +kernel) ⟨Nat.le_of_ble_eq_true rfl, Nat.le_of_ble_eq_true rfl⟩) (mPreV (va_recv hK hP (ci := 4) (q0 := 0) rfl rfl) hP hD hS hK hE hFc [0, 5, 6, 7, 8, 9, 10, 11, 12, 13, 14, 15] (by decide) rfl) rfl rfl hl.1 rfl (lv_room (Nat.le_of_ble_eq_true rfl)) dL_law_254 ⟨hc0, hs0⟩) hS (fun q _ h => hFc q h) hFc (fun r_1 u t H1 locs ht hvm hw hB hz1 hk1 hS => ?_)
  obtain ⟨e1_2, e2_3, fk_4, fn_5⟩ := u
  have h := hw
  obtain ⟨hP1, hK1, hD1⟩ := hB
  rw [ht] at hP1
  obtain ⟨hP, hD⟩ := mJoin (wr := (sh_R cs adR txR nuR lnR bgR enR ++ sh_T cs adT lfT foT ++ sh_P cs adQ kdQ grQ cvQ brQ hzQ fmQ dmQ e1Q e2Q fkQ pnQ fnQ ++ sh_M cs adM mpM mkM mgM mcM mwM mfM mtM mhM mmM mdM mxM mnM szM faM apM waM wrM fuM ++ sh_O cs adO ouO)) (w1 := (sh_G cs adG (adR 0) (adT 0) (adP 0) (adQ 0) ++ sh_P cs adP kdP grP cvP brP hzP fmP dmP e1_2 e2_3 fk_4 pnP fn_5)) (w' := (sh_G cs adG (adR 0) (adT 0) (adP 0) (adQ 0) ++ sh_R cs adR txR nuR lnR bgR enR ++ sh_T cs adT lfT foT ++ sh_P cs adP kdP grP cvP brP hzP fmP dmP e1_2 e2_3 fk_4 pnP fn_5 ++ sh_P cs adQ kdQ grQ cvQ brQ hzQ fmQ dmQ e1Q e2Q fkQ pnQ fnQ ++ sh_M cs adM mpM mkM mgM mcM mwM mfM mtM mhM mmM mdM mxM mnM szM faM apM waM wrM fuM ++ sh_O cs adO ouO)) hP hD [0, 5, 6, 7, 8, 9, 10, 11, 12, 13, 14, 15] [1, 2, 3, 4, 16, 17, 18, 19, 20, 21, 22, 23, 24, 25, 26, 27, 28, 29, 30, 31, 32, 33, 34, 35, 36, 37, 38, 39, 40] rfl rfl (by decide) (by decide) hk1 hFc hP1 hD1 [29, 0, 1, 2, 3, 30, 31, 32, 33, 34, 35, 36, 37, 38, 39, 40, 4, 5, 6, 7, 8, 9, 10, 11, 12, 13, 14, 15, 16, 17, 18, 19, 20, 21, 22, 23, 24, 25, 26, 27, 28] (by decide) rfl
  generalize H1 = H at hP hS ⊢
  refine lv_aload_n hx hb dL_law_257 rfl (lv_at hl 2 rfl) ?_
  refine lv_aload_n hx hb dL_law_258 rfl (lv_at hl 0 rfl) ?_
  refine lv_iload hx hb dL_law_259 (lv_at hl 4 rfl) ?_
  refine lv_iconst (v := 1) hx hb dL_law_261 (by decide) ?_
  refine lv_iadd hx hb dL_law_262 ?_
  have hin := h.1
  have h := h.2
  refine va_sld hx hb hX hbl hbA hS hin dL_law_263 ?_
  refine lv_aload_n hx hb dL_law_264 rfl (lv_at hl 0 rfl) ?_
  refine lv_iload hx hb dL_law_265 (lv_at hl 4 rfl) ?_
  refine lv_iconst (v := 2) hx hb dL_law_267 (by decide) ?_
  refine lv_iadd hx hb dL_law_268 ?_
  have hin := h.1
  have h := h.2
  refine va_sld hx hb hX hbl hbA hS hin dL_law_269 ?_
  refine lv_aload_n hx hb dL_law_270 rfl (lv_at hl 0 rfl) ?_
  refine lv_iload hx hb dL_law_271 (lv_at hl 4 rfl) ?_
  refine lv_iconst (v := 3) hx hb dL_law_273 (by decide) ?_
  refine lv_iadd hx hb dL_law_274 ?_
  have hin := h.1
  have h := h.2
  refine va_sld hx hb hX hbl hbA hS hin dL_law_275 ?_
  have hFc := va_free (wc := (sh_M cs adM mpM mkM mgM mcM mwM mfM mtM mhM mmM mdM mxM mnM szM faM apM waM wrM fuM)) hD hS hA [27, 28, 29, 30, 31, 32, 33, 34, 35, 36, 37, 38, 39] rfl
  refine va_calli (va_runV (As := [.int (xs ((nI i) + 1).toNatClampNeg), .int (xs ((nI i) + 2).toNatClampNeg), .int (xs ((nI i) + 3).toNatClampNeg)]) (rest := [.int r_1]) ⟨hx, hb, hml, hown, hts⟩ (met_X6_fasten l D cs ev _ adM mpM mkM mgM mcM mwM mfM mtM mhM mmM mdM mxM mnM szM faM apM waM wrM fuM (xs ((nI i) + 1).toNatClampNeg) (xs ((nI i) + 2).toNatClampNeg) (xs ((nI i) + 3).toNatClampNeg) _ h) (cwV 3 hts gL_law_X6_fasten rfl rfl rfl (by decide +kernel) ⟨Nat.le_of_ble_eq_true rfl, Nat.le_of_ble_eq_true rfl⟩) (mPreV (va_recv hK hP (ci := 5) (q0 := 27) rfl rfl) hP hD hS hK hE hFc [27, 28, 29, 30, 31, 32, 33, 34, 35, 36, 37, 38, 39] (by decide) rfl) rfl rfl hl.1 rfl (lv_room (Nat.le_of_ble_eq_true rfl)) dL_law_276 ⟨hc0, hs0⟩) hS (fun q _ h => hFc q h) hFc (fun r_6 u t H1 locs ht hvm hw hB hz1 hk1 hS => ?_)
  obtain ⟨mp_7, mk_8, mg_9, mc_10, mw_11, mf_12, mt_13, mh_14, mm_15, md_16, fa_17⟩ := u
  have h := hw
  obtain ⟨hP1, hK1, hD1⟩ := hB
  rw [ht] at hP1
  obtain ⟨hP, hD⟩ := mJoin (wr := (sh_G cs adG (adR 0) (adT 0) (adP 0) (adQ 0) ++ sh_R cs adR txR nuR lnR bgR enR ++ sh_T cs adT lfT foT ++ sh_P cs adP kdP grP cvP brP hzP fmP dmP e1_2 e2_3 fk_4 pnP fn_5 ++ sh_P cs adQ kdQ grQ cvQ brQ hzQ fmQ dmQ e1Q e2Q fkQ pnQ fnQ ++ sh_O cs adO ouO)) (w1 := (sh_M cs adM mp_7 mk_8 mg_9 mc_10 mw_11 mf_12 mt_13 mh_14 mm_15 md_16 mxM mnM szM fa_17 apM waM wrM fuM)) (w' := (sh_G cs adG (adR 0) (adT 0) (adP 0) (adQ 0) ++ sh_R cs adR txR nuR lnR bgR enR ++ sh_T cs adT lfT foT ++ sh_P cs adP kdP grP cvP brP hzP fmP dmP e1_2 e2_3 fk_4 pnP fn_5 ++ sh_P cs adQ kdQ grQ cvQ brQ hzQ fmQ dmQ e1Q e2Q fkQ pnQ fnQ ++ sh_M cs adM mp_7 mk_8 mg_9 mc_10 mw_11 mf_12 mt_13 mh_14 mm_15 md_16 mxM mnM szM fa_17 apM waM wrM fuM ++ sh_O cs adO ouO)) hP hD [27, 28, 29, 30, 31, 32, 33, 34, 35, 36, 37, 38, 39] [0, 1, 2, 3, 4, 5, 6, 7, 8, 9, 10, 11, 12, 13, 14, 15, 16, 17, 18, 19, 20, 21, 22, 23, 24, 25, 26, 40] rfl rfl (by decide) (by decide) hk1 hFc hP1 hD1 [0, 1, 2, 3, 4, 5, 6, 7, 8, 9, 10, 11, 12, 13, 14, 15, 16, 17, 18, 19, 20, 21, 22, 23, 24, 25, 26, 28, 29, 30, 31, 32, 33, 34, 35, 36, 37, 38, 39, 40, 27] (by decide) rfl
  generalize H1 = H at hP hS ⊢
  refine lv_icmp_eq (tgt := 935) hx hb dL_law_279 (by decide) (fun c_18 => ?_) (fun c_18 => ?_)
  · have h := h.1 c_18
    refine lv_iinc (v := (nI i) + 4) (lv' := [(4, .int ((nI i) + 4)), (0, .ref b), (1, .ref (adG 0)), (2, .ref (adM 0)), (3, .ref (adO 0))]) hx hb dL_law_935 hl (k := 4) rfl rfl (by decide) rfl (fun ls hl => ?_)
    refine lv_goto (tgt := 23) hx hb dL_law_938 (by decide) ?_
    have h := h
    refine W.widen (k := 100 + (i + 4)) (n := 20000 + 6 * (i + 4)) (by omega) (by omega) ?_
    have hl := lv_sub (l' := [(0, .ref b), (1, .ref (adG 0)), (2, .ref (adM 0)), (3, .ref (adO 0)), (4, .int ((nI i) + 4))]) hl [1, 2, 3, 4, 0] rfl
    rw [show (nI i) + 4 = nI (i + 4) from nI_add i 4] at hl
    exact h adG adR adT adP adQ adM adO _ _ hP hD hS ls hl
  · have h := h.2 c_18
    refine lv_iconst (v := 0) hx hb dL_law_282 (by decide) ?_
    exact h.elim
def wp_law284 (L : Nat) (xs : Nat → Int32) (A23 : Nat → (Nat → Int32) → (Nat → Int32) → Int32 → Int32 → Int32 → Int32 → Int32 → (Nat → Int32) → (Nat → Int64) → (Nat → Int32) → (Nat → Int32) → (Nat → Int32) → (Nat → Int32) → (Nat → Int32) → (Nat → Int32) → (Nat → Int32) → (Nat → Int32) → Int32 → Int32 → (Nat → Int32) → (Nat → Int64) → (Nat → Int32) → (Nat → Int32) → (Nat → Int32) → (Nat → Int32) → (Nat → Int32) → (Nat → Int32) → (Nat → Int32) → (Nat → Int32) → Int32 → Int32 → (Nat → Int32) → (Nat → Int32) → (Nat → Int32) → (Nat → Int32) → (Nat → Int32) → (Nat → Int32) → (Nat → Int32) → (Nat → Int32) → (Nat → Int32) → (Nat → Int32) → (Nat → Int32) → (Nat → Int32) → Int32 → Int32 → Int32 → Int32 → Int32 → Int32 → (Nat → Int64) → Prop) (i : Nat) (txR : Nat → Int32) (nuR : Nat → Int32) (lnR : Int32) (bgR : Int32) (enR : Int32) (lfT : Int32) (foT : Int32) (kdP : Nat → Int32) (grP : Nat → Int64) (cvP : Nat → Int32) (brP : Nat → Int32) (hzP : Nat → Int32) (fmP : Nat → Int32) (dmP : Nat → Int32) (e1P : Nat → Int32) (e2P : Nat → Int32) (fkP : Nat → Int32) (pnP : Int32) (fnP : Int32) (kdQ : Nat → Int32) (grQ : Nat → Int64) (cvQ : Nat → Int32) (brQ : Nat → Int32) (hzQ : Nat → Int32) (fmQ : Nat → Int32) (dmQ : Nat → Int32) (e1Q : Nat → Int32) (e2Q : Nat → Int32) (fkQ : Nat → Int32) (pnQ : Int32) (fnQ : Int32) (mpM : Nat → Int32) (mkM : Nat → Int32) (mgM : Nat → Int32) (mcM : Nat → Int32) (mwM : Nat → Int32) (mfM : Nat → Int32) (mtM : Nat → Int32) (mhM : Nat → Int32) (mmM : Nat → Int32) (mdM : Nat → Int32) (mxM : Nat → Int32) (mnM : Nat → Int32) (szM : Int32) (faM : Int32) (apM : Int32) (waM : Int32) (wrM : Int32) (fuM : Int32) (ouO : Nat → Int64) : Prop :=
    (vp_in ((nI i) + 1) L ∧ (vp_in ((nI i) + 2) L ∧ wp_X5_cover cvP pnP (xs ((nI i) + 1).toNatClampNeg) (xs ((nI i) + 2).toNatClampNeg) (fun r_1 cv_2 => (vp_in ((nI i) + 1) L ∧ (vp_in ((nI i) + 2) L ∧ wp_X6_cover mpM mkM mgM mcM mwM mfM mtM mhM mmM mdM (xs ((nI i) + 1).toNatClampNeg) (xs ((nI i) + 2).toNatClampNeg) (fun r_3 u => match u with | (mp_4, mk_5, mg_6, mc_7, mw_8, mf_9, mt_10, mh_11, mm_12, md_13, fa_14) => ((r_1 = r_3 → A23 (i + 4) txR nuR lnR bgR enR lfT foT kdP grP cv_2 brP hzP fmP dmP e1P e2P fkP pnP fnP kdQ grQ cvQ brQ hzQ fmQ dmQ e1Q e2Q fkQ pnQ fnQ mp_4 mk_5 mg_6 mc_7 mw_8 mf_9 mt_10 mh_11 mm_12 md_13 mxM mnM szM fa_14 apM waM wrM fuM ouO) ∧ (¬ r_1 = r_3 → False))))))))
set_option maxHeartbeats 4000000 in
set_option maxRecDepth 100000 in
theorem law_c284 {p : Program} {l : Launch} {e : Env} {s : State} {m : MethodId} {below : List Frame} {meth : Method} {c : Code} {b L : Nat} {xs : Nat → Int32} {D : va_G} {cs : Nat → ClassId} {ev : Nat → Nat → Nat} {i : Nat} {txR : Nat → Int32} {nuR : Nat → Int32} {lnR : Int32} {bgR : Int32} {enR : Int32} {lfT : Int32} {foT : Int32} {kdP : Nat → Int32} {grP : Nat → Int64} {cvP : Nat → Int32} {brP : Nat → Int32} {hzP : Nat → Int32} {fmP : Nat → Int32} {dmP : Nat → Int32} {e1P : Nat → Int32} {e2P : Nat → Int32} {fkP : Nat → Int32} {pnP : Int32} {fnP : Int32} {kdQ : Nat → Int32} {grQ : Nat → Int64} {cvQ : Nat → Int32} {brQ : Nat → Int32} {hzQ : Nat → Int32} {fmQ : Nat → Int32} {dmQ : Nat → Int32} {e1Q : Nat → Int32} {e2Q : Nat → Int32} {fkQ : Nat → Int32} {pnQ : Int32} {fnQ : Int32} {mpM : Nat → Int32} {mkM : Nat → Int32} {mgM : Nat → Int32} {mcM : Nat → Int32} {mwM : Nat → Int32} {mfM : Nat → Int32} {mtM : Nat → Int32} {mhM : Nat → Int32} {mmM : Nat → Int32} {mdM : Nat → Int32} {mxM : Nat → Int32} {mnM : Nat → Int32} {szM : Int32} {faM : Int32} {apM : Int32} {waM : Int32} {wrM : Int32} {fuM : Int32} {ouO : Nat → Int64} (hnt : l.stackTraces = false) (C0 : lw_At p s m meth c b L xs) (hLi : i ≤ 2048) (hK : va_K D vwCl (tyS cs) s) (hE : EV ev (fun q : Nat => s.heap.size ≤ q) s s.heap) (hTV : TV (fun q : Nat => s.heap.size ≤ q) s s.heap) (h : wp_law284 L xs (law_A p l e s m below meth c b D cs) i txR nuR lnR bgR enR lfT foT kdP grP cvP brP hzP fmP dmP e1P e2P fkP pnP fnP kdQ grQ cvQ brQ hzQ fmQ dmQ e1Q e2Q fkQ pnQ fnQ mpM mkM mgM mcM mwM mfM mtM mhM mmM mdM mxM mnM szM faM apM waM wrM fuM ouO) : ∀ (adG adR adT adP adQ adM adO : Nat → Nat) (H : Heap) (locs : List Loc), va_P D vwCl (sh_G cs adG (adR 0) (adT 0) (adP 0) (adQ 0) ++ sh_R cs adR txR nuR lnR bgR enR ++ sh_T cs adT lfT foT ++ sh_P cs adP kdP grP cvP brP hzP fmP dmP e1P e2P fkP pnP fnP ++ sh_P cs adQ kdQ grQ cvQ brQ hzQ fmQ dmQ e1Q e2Q fkQ pnQ fnQ ++ sh_M cs adM mpM mkM mgM mcM mwM mfM mtM mhM mmM mdM mxM mnM szM faM apM waM wrM fuM ++ sh_O cs adO ouO) H → va_D (fun q : Nat => s.heap.size ≤ q) (sh_G cs adG (adR 0) (adT 0) (adP 0) (adQ 0) ++ sh_R cs adR txR nuR lnR bgR enR ++ sh_T cs adT lfT foT ++ sh_P cs adP kdP grP cvP brP hzP fmP dmP e1P e2P fkP pnP fnP ++ sh_P cs adQ kdQ grQ cvQ brQ hzQ fmQ dmQ e1Q e2Q fkQ pnQ fnQ ++ sh_M cs adM mpM mkM mgM mcM mwM mfM mtM mhM mmM mdM mxM mnM szM faM apM waM wrM fuM ++ sh_O cs adO ouO) → va_S (fun q : Nat => s.heap.size ≤ q) s.heap H locs → ∀ ls : Array Slot, lv_has ls 8 [(0, .ref b), (1, .ref (adG 0)), (2, .ref (adM 0)), (3, .ref (adO 0)), (4, .int (nI i))] → W p l e room_1 s m #[Value.ref b] below meth c H locs (100 + i) (20000 + 6 * i) (lw_Z below #[Value.ref b] s) (F0 m 284 ls []) := by
  obtain ⟨hx, hb, hr, hml, hown, hts, hX, hbl, hlocks, hgv⟩ := id C0
  have hts : ∀ w ∈ wsL_law, w.before #[Value.ref b] s = true := fun w h => hts w (wsL_law_in2 w h)
  have hA : ∀ q : Nat, s.heap.size ≤ q → (fun q : Nat => s.heap.size ≤ q) q := fun _ h => h
  have hbA : ¬ (fun q : Nat => s.heap.size ≤ q) b := Nat.not_le.mpr hbl
  have hc0 : 100 + i + 0 ≤ room_1.cells := by show 100 + i + 0 ≤ 601024; omega
  have hs0 : 20000 + 6 * i + 0 ≤ room_1.slots := by show 20000 + 6 * i + 0 ≤ 7293034; omega
  have hc1 : 100 + i + 1 ≤ room_1.cells := by show 100 + i + 1 ≤ 601024; omega
  have hs1 : 20000 + 6 * i + 6 ≤ room_1.slots := by show 20000 + 6 * i + 6 ≤ 7293034; omega
  intro adG adR adT adP adQ adM adO H locs hP hD hS ls hl
  refine lv_aload_n hx hb dL_law_284 rfl (lv_at hl 1 rfl) ?_
  refine lv_aload_n hx hb dL_law_285 rfl (lv_at hl 0 rfl) ?_
  refine lv_iload hx hb dL_law_286 (lv_at hl 4 rfl) ?_
  refine lv_iconst (v := 1) hx hb dL_law_288 (by decide) ?_
  refine lv_iadd hx hb dL_law_289 ?_
  have hin := h.1
  have h := h.2
  refine va_sld hx hb hX hbl hbA hS hin dL_law_290 ?_
  refine lv_aload_n hx hb dL_law_291 rfl (lv_at hl 0 rfl) ?_
  refine lv_iload hx hb dL_law_292 (lv_at hl 4 rfl) ?_
  refine lv_iconst (v := 2) hx hb dL_law_294 (by decide) ?_
  refine lv_iadd hx hb dL_law_295 ?_
  have hin := h.1
  have h := h.2
  refine va_sld hx hb hX hbl hbA hS hin dL_law_296 ?_
  have hFc := va_free (wc := (sh_G cs adG (adR 0) (adT 0) (adP 0) (adQ 0) ++ sh_P cs adP kdP grP cvP brP hzP fmP dmP e1P e2P fkP pnP fnP)) hD hS hA [0, 5, 6, 7, 8, 9, 10, 11, 12, 13, 14, 15] rfl
  refine va_calli (va_runV (As := [.int (xs ((nI i) + 1).toNatClampNeg), .int (xs ((nI i) + 2).toNatClampNeg)]) (rest := []) ⟨hx, hb, hml, hown, hts⟩ (met_X5_cover l D cs ev _ adG adP (adR 0) (adT 0) (adQ 0) kdP grP cvP brP hzP fmP dmP e1P e2P fkP pnP fnP (xs ((nI i) + 1).toNatClampNeg) (xs ((nI i) + 2).toNatClampNeg) _ h) (cwV 2 hts gL_law_X5_cover rfl rfl rfl (by decide +kernel) ⟨Nat.le_of_ble_eq_true rfl, Nat.le_of_ble_eq_true rfl⟩) (mPreV (va_recv hK hP (ci := 4) (q0 := 0) rfl rfl) hP hD hS hK hE hFc [0, 5, 6, 7, 8, 9, 10, 11, 12, 13, 14, 15] (by decide) rfl) rfl rfl hl.1 rfl (lv_room (Nat.le_of_ble_eq_true rfl)) dL_law_297 ⟨hc0, hs0⟩) hS (fun q _ h => hFc q h) hFc (fun r_1 u t H1 locs ht hvm hw hB hz1 hk1 hS => ?_)
  obtain ⟨cv_2, rfl⟩ : ∃ z, z = u := ⟨_, rfl⟩
  have h := hw
  obtain ⟨hP1, hK1, hD1⟩ := hB
  rw [ht] at hP1
  obtain ⟨hP, hD⟩ := mJoin (wr := (sh_R cs adR txR nuR lnR bgR enR ++ sh_T cs adT lfT foT ++ sh_P cs adQ kdQ grQ cvQ brQ hzQ fmQ dmQ e1Q e2Q fkQ pnQ fnQ ++ sh_M cs adM mpM mkM mgM mcM mwM mfM mtM mhM mmM mdM mxM mnM szM faM apM waM wrM fuM ++ sh_O cs adO ouO)) (w1 := (sh_G cs adG (adR 0) (adT 0) (adP 0) (adQ 0) ++ sh_P cs adP kdP grP cv_2 brP hzP fmP dmP e1P e2P fkP pnP fnP)) (w' := (sh_G cs adG (adR 0) (adT 0) (adP 0) (adQ 0) ++ sh_R cs adR txR nuR lnR bgR enR ++ sh_T cs adT lfT foT ++ sh_P cs adP kdP grP cv_2 brP hzP fmP dmP e1P e2P fkP pnP fnP ++ sh_P cs adQ kdQ grQ cvQ brQ hzQ fmQ dmQ e1Q e2Q fkQ pnQ fnQ ++ sh_M cs adM mpM mkM mgM mcM mwM mfM mtM mhM mmM mdM mxM mnM szM faM apM waM wrM fuM ++ sh_O cs adO ouO)) hP hD [0, 5, 6, 7, 8, 9, 10, 11, 12, 13, 14, 15] [1, 2, 3, 4, 16, 17, 18, 19, 20, 21, 22, 23, 24, 25, 26, 27, 28, 29, 30, 31, 32, 33, 34, 35, 36, 37, 38, 39, 40] rfl rfl (by decide) (by decide) hk1 hFc hP1 hD1 [29, 0, 1, 2, 3, 30, 31, 32, 33, 34, 35, 36, 37, 38, 39, 40, 4, 5, 6, 7, 8, 9, 10, 11, 12, 13, 14, 15, 16, 17, 18, 19, 20, 21, 22, 23, 24, 25, 26, 27, 28] (by decide) rfl
  generalize H1 = H at hP hS ⊢
  refine lv_aload_n hx hb dL_law_300 rfl (lv_at hl 2 rfl) ?_
  refine lv_aload_n hx hb dL_law_301 rfl (lv_at hl 0 rfl) ?_
  refine lv_iload hx hb dL_law_302 (lv_at hl 4 rfl) ?_
  refine lv_iconst (v := 1) hx hb dL_law_304 (by decide) ?_
  refine lv_iadd hx hb dL_law_305 ?_
  have hin := h.1
  have h := h.2
  refine va_sld hx hb hX hbl hbA hS hin dL_law_306 ?_
  refine lv_aload_n hx hb dL_law_307 rfl (lv_at hl 0 rfl) ?_
  refine lv_iload hx hb dL_law_308 (lv_at hl 4 rfl) ?_
  refine lv_iconst (v := 2) hx hb dL_law_310 (by decide) ?_
  refine lv_iadd hx hb dL_law_311 ?_
  have hin := h.1
  have h := h.2
  refine va_sld hx hb hX hbl hbA hS hin dL_law_312 ?_
  have hFc := va_free (wc := (sh_M cs adM mpM mkM mgM mcM mwM mfM mtM mhM mmM mdM mxM mnM szM faM apM waM wrM fuM)) hD hS hA [27, 28, 29, 30, 31, 32, 33, 34, 35, 36, 37, 38, 39] rfl
  refine va_calli (va_runV (As := [.int (xs ((nI i) + 1).toNatClampNeg), .int (xs ((nI i) + 2).toNatClampNeg)]) (rest := [.int r_1]) ⟨hx, hb, hml, hown, hts⟩ (met_X6_cover l D cs ev _ adM mpM mkM mgM mcM mwM mfM mtM mhM mmM mdM mxM mnM szM faM apM waM wrM fuM (xs ((nI i) + 1).toNatClampNeg) (xs ((nI i) + 2).toNatClampNeg) _ h) (cwV 2 hts gL_law_X6_cover rfl rfl rfl (by decide +kernel) ⟨Nat.le_of_ble_eq_true rfl, Nat.le_of_ble_eq_true rfl⟩) (mPreV (va_recv hK hP (ci := 5) (q0 := 27) rfl rfl) hP hD hS hK hE hFc [27, 28, 29, 30, 31, 32, 33, 34, 35, 36, 37, 38, 39] (by decide) rfl) rfl rfl hl.1 rfl (lv_room (Nat.le_of_ble_eq_true rfl)) dL_law_313 ⟨hc0, hs0⟩) hS (fun q _ h => hFc q h) hFc (fun r_3 u t H1 locs ht hvm hw hB hz1 hk1 hS => ?_)
  obtain ⟨mp_4, mk_5, mg_6, mc_7, mw_8, mf_9, mt_10, mh_11, mm_12, md_13, fa_14⟩ := u
  have h := hw
  obtain ⟨hP1, hK1, hD1⟩ := hB
  rw [ht] at hP1
  obtain ⟨hP, hD⟩ := mJoin (wr := (sh_G cs adG (adR 0) (adT 0) (adP 0) (adQ 0) ++ sh_R cs adR txR nuR lnR bgR enR ++ sh_T cs adT lfT foT ++ sh_P cs adP kdP grP cv_2 brP hzP fmP dmP e1P e2P fkP pnP fnP ++ sh_P cs adQ kdQ grQ cvQ brQ hzQ fmQ dmQ e1Q e2Q fkQ pnQ fnQ ++ sh_O cs adO ouO)) (w1 := (sh_M cs adM mp_4 mk_5 mg_6 mc_7 mw_8 mf_9 mt_10 mh_11 mm_12 md_13 mxM mnM szM fa_14 apM waM wrM fuM)) (w' := (sh_G cs adG (adR 0) (adT 0) (adP 0) (adQ 0) ++ sh_R cs adR txR nuR lnR bgR enR ++ sh_T cs adT lfT foT ++ sh_P cs adP kdP grP cv_2 brP hzP fmP dmP e1P e2P fkP pnP fnP ++ sh_P cs adQ kdQ grQ cvQ brQ hzQ fmQ dmQ e1Q e2Q fkQ pnQ fnQ ++ sh_M cs adM mp_4 mk_5 mg_6 mc_7 mw_8 mf_9 mt_10 mh_11 mm_12 md_13 mxM mnM szM fa_14 apM waM wrM fuM ++ sh_O cs adO ouO)) hP hD [27, 28, 29, 30, 31, 32, 33, 34, 35, 36, 37, 38, 39] [0, 1, 2, 3, 4, 5, 6, 7, 8, 9, 10, 11, 12, 13, 14, 15, 16, 17, 18, 19, 20, 21, 22, 23, 24, 25, 26, 40] rfl rfl (by decide) (by decide) hk1 hFc hP1 hD1 [0, 1, 2, 3, 4, 5, 6, 7, 8, 9, 10, 11, 12, 13, 14, 15, 16, 17, 18, 19, 20, 21, 22, 23, 24, 25, 26, 28, 29, 30, 31, 32, 33, 34, 35, 36, 37, 38, 39, 40, 27] (by decide) rfl
  generalize H1 = H at hP hS ⊢
  refine lv_icmp_eq (tgt := 935) hx hb dL_law_316 (by decide) (fun c_15 => ?_) (fun c_15 => ?_)
  · have h := h.1 c_15
    refine lv_iinc (v := (nI i) + 4) (lv' := [(4, .int ((nI i) + 4)), (0, .ref b), (1, .ref (adG 0)), (2, .ref (adM 0)), (3, .ref (adO 0))]) hx hb dL_law_935 hl (k := 4) rfl rfl (by decide) rfl (fun ls hl => ?_)
    refine lv_goto (tgt := 23) hx hb dL_law_938 (by decide) ?_
    have h := h
    refine W.widen (k := 100 + (i + 4)) (n := 20000 + 6 * (i + 4)) (by omega) (by omega) ?_
    have hl := lv_sub (l' := [(0, .ref b), (1, .ref (adG 0)), (2, .ref (adM 0)), (3, .ref (adO 0)), (4, .int ((nI i) + 4))]) hl [1, 2, 3, 4, 0] rfl
    rw [show (nI i) + 4 = nI (i + 4) from nI_add i 4] at hl
    exact h adG adR adT adP adQ adM adO _ _ hP hD hS ls hl
  · have h := h.2 c_15
    refine lv_iconst (v := 0) hx hb dL_law_319 (by decide) ?_
    exact h.elim
def wp_law321 (L : Nat) (xs : Nat → Int32) (A23 : Nat → (Nat → Int32) → (Nat → Int32) → Int32 → Int32 → Int32 → Int32 → Int32 → (Nat → Int32) → (Nat → Int64) → (Nat → Int32) → (Nat → Int32) → (Nat → Int32) → (Nat → Int32) → (Nat → Int32) → (Nat → Int32) → (Nat → Int32) → (Nat → Int32) → Int32 → Int32 → (Nat → Int32) → (Nat → Int64) → (Nat → Int32) → (Nat → Int32) → (Nat → Int32) → (Nat → Int32) → (Nat → Int32) → (Nat → Int32) → (Nat → Int32) → (Nat → Int32) → Int32 → Int32 → (Nat → Int32) → (Nat → Int32) → (Nat → Int32) → (Nat → Int32) → (Nat → Int32) → (Nat → Int32) → (Nat → Int32) → (Nat → Int32) → (Nat → Int32) → (Nat → Int32) → (Nat → Int32) → (Nat → Int32) → Int32 → Int32 → Int32 → Int32 → Int32 → Int32 → (Nat → Int64) → Prop) (i : Nat) (txR : Nat → Int32) (nuR : Nat → Int32) (lnR : Int32) (bgR : Int32) (enR : Int32) (lfT : Int32) (foT : Int32) (kdP : Nat → Int32) (grP : Nat → Int64) (cvP : Nat → Int32) (brP : Nat → Int32) (hzP : Nat → Int32) (fmP : Nat → Int32) (dmP : Nat → Int32) (e1P : Nat → Int32) (e2P : Nat → Int32) (fkP : Nat → Int32) (pnP : Int32) (fnP : Int32) (kdQ : Nat → Int32) (grQ : Nat → Int64) (cvQ : Nat → Int32) (brQ : Nat → Int32) (hzQ : Nat → Int32) (fmQ : Nat → Int32) (dmQ : Nat → Int32) (e1Q : Nat → Int32) (e2Q : Nat → Int32) (fkQ : Nat → Int32) (pnQ : Int32) (fnQ : Int32) (mpM : Nat → Int32) (mkM : Nat → Int32) (mgM : Nat → Int32) (mcM : Nat → Int32) (mwM : Nat → Int32) (mfM : Nat → Int32) (mtM : Nat → Int32) (mhM : Nat → Int32) (mmM : Nat → Int32) (mdM : Nat → Int32) (mxM : Nat → Int32) (mnM : Nat → Int32) (szM : Int32) (faM : Int32) (apM : Int32) (waM : Int32) (wrM : Int32) (fuM : Int32) (ouO : Nat → Int64) : Prop :=
    (vp_in ((nI i) + 1) L ∧ (vp_in ((nI i) + 2) L ∧ (vp_in ((nI i) + 3) L ∧ wp_L_way brP pnP ouO (xs ((nI i) + 1).toNatClampNeg) (xs ((nI i) + 2).toNatClampNeg) (xs ((nI i) + 3).toNatClampNeg) (fun r_1 u => match u with | (br_2, ou_3) => (vp_in ((nI i) + 1) L ∧ (vp_in ((nI i) + 2) L ∧ (vp_in ((nI i) + 3) L ∧ wp_X6_way mpM mkM mgM mcM mwM mfM mtM mhM mmM mdM (xs ((nI i) + 1).toNatClampNeg) (xs ((nI i) + 2).toNatClampNeg) (xs ((nI i) + 3).toNatClampNeg) (fun r_4 u => match u with | (mp_5, mk_6, mg_7, mc_8, mw_9, mf_10, mt_11, mh_12, mm_13, md_14, fa_15) => wp_X6_thrown fa_15 (fun r_16 _ => ((r_16 = r_1 → ((r_1 = 0 → (vp_in 0 1 ∧ ((r_4 = 0 → (((lg_cmp (ou_3 (0 : Int32).toNatClampNeg) 0) = 0 → A23 (i + 4) txR nuR lnR bgR enR lfT foT kdP grP cvP br_2 hzP fmP dmP e1P e2P fkP pnP fnP kdQ grQ cvQ brQ hzQ fmQ dmQ e1Q e2Q fkQ pnQ fnQ mp_5 mk_6 mg_7 mc_8 mw_9 mf_10 mt_11 mh_12 mm_13 md_14 mxM mnM szM fa_15 apM waM wrM fuM ou_3) ∧ (¬ (lg_cmp (ou_3 (0 : Int32).toNatClampNeg) 0) = 0 → False))) ∧ (¬ r_4 = 0 → (((lg_cmp (ou_3 (0 : Int32).toNatClampNeg) 1) = 0 → A23 (i + 4) txR nuR lnR bgR enR lfT foT kdP grP cvP br_2 hzP fmP dmP e1P e2P fkP pnP fnP kdQ grQ cvQ brQ hzQ fmQ dmQ e1Q e2Q fkQ pnQ fnQ mp_5 mk_6 mg_7 mc_8 mw_9 mf_10 mt_11 mh_12 mm_13 md_14 mxM mnM szM fa_15 apM waM wrM fuM ou_3) ∧ (¬ (lg_cmp (ou_3 (0 : Int32).toNatClampNeg) 1) = 0 → False)))))) ∧ (¬ r_1 = 0 → A23 (i + 4) txR nuR lnR bgR enR lfT foT kdP grP cvP br_2 hzP fmP dmP e1P e2P fkP pnP fnP kdQ grQ cvQ brQ hzQ fmQ dmQ e1Q e2Q fkQ pnQ fnQ mp_5 mk_6 mg_7 mc_8 mw_9 mf_10 mt_11 mh_12 mm_13 md_14 mxM mnM szM fa_15 apM waM wrM fuM ou_3))) ∧ (¬ r_16 = r_1 → False)))))))))))
set_option maxHeartbeats 4000000 in
set_option maxRecDepth 100000 in
theorem law_c321 {p : Program} {l : Launch} {e : Env} {s : State} {m : MethodId} {below : List Frame} {meth : Method} {c : Code} {b L : Nat} {xs : Nat → Int32} {D : va_G} {cs : Nat → ClassId} {ev : Nat → Nat → Nat} {i : Nat} {txR : Nat → Int32} {nuR : Nat → Int32} {lnR : Int32} {bgR : Int32} {enR : Int32} {lfT : Int32} {foT : Int32} {kdP : Nat → Int32} {grP : Nat → Int64} {cvP : Nat → Int32} {brP : Nat → Int32} {hzP : Nat → Int32} {fmP : Nat → Int32} {dmP : Nat → Int32} {e1P : Nat → Int32} {e2P : Nat → Int32} {fkP : Nat → Int32} {pnP : Int32} {fnP : Int32} {kdQ : Nat → Int32} {grQ : Nat → Int64} {cvQ : Nat → Int32} {brQ : Nat → Int32} {hzQ : Nat → Int32} {fmQ : Nat → Int32} {dmQ : Nat → Int32} {e1Q : Nat → Int32} {e2Q : Nat → Int32} {fkQ : Nat → Int32} {pnQ : Int32} {fnQ : Int32} {mpM : Nat → Int32} {mkM : Nat → Int32} {mgM : Nat → Int32} {mcM : Nat → Int32} {mwM : Nat → Int32} {mfM : Nat → Int32} {mtM : Nat → Int32} {mhM : Nat → Int32} {mmM : Nat → Int32} {mdM : Nat → Int32} {mxM : Nat → Int32} {mnM : Nat → Int32} {szM : Int32} {faM : Int32} {apM : Int32} {waM : Int32} {wrM : Int32} {fuM : Int32} {ouO : Nat → Int64} (hnt : l.stackTraces = false) (C0 : lw_At p s m meth c b L xs) (hLi : i ≤ 2048) (hK : va_K D vwCl (tyS cs) s) (hE : EV ev (fun q : Nat => s.heap.size ≤ q) s s.heap) (hTV : TV (fun q : Nat => s.heap.size ≤ q) s s.heap) (h : wp_law321 L xs (law_A p l e s m below meth c b D cs) i txR nuR lnR bgR enR lfT foT kdP grP cvP brP hzP fmP dmP e1P e2P fkP pnP fnP kdQ grQ cvQ brQ hzQ fmQ dmQ e1Q e2Q fkQ pnQ fnQ mpM mkM mgM mcM mwM mfM mtM mhM mmM mdM mxM mnM szM faM apM waM wrM fuM ouO) : ∀ (adG adR adT adP adQ adM adO : Nat → Nat) (H : Heap) (locs : List Loc), va_P D vwCl (sh_G cs adG (adR 0) (adT 0) (adP 0) (adQ 0) ++ sh_R cs adR txR nuR lnR bgR enR ++ sh_T cs adT lfT foT ++ sh_P cs adP kdP grP cvP brP hzP fmP dmP e1P e2P fkP pnP fnP ++ sh_P cs adQ kdQ grQ cvQ brQ hzQ fmQ dmQ e1Q e2Q fkQ pnQ fnQ ++ sh_M cs adM mpM mkM mgM mcM mwM mfM mtM mhM mmM mdM mxM mnM szM faM apM waM wrM fuM ++ sh_O cs adO ouO) H → va_D (fun q : Nat => s.heap.size ≤ q) (sh_G cs adG (adR 0) (adT 0) (adP 0) (adQ 0) ++ sh_R cs adR txR nuR lnR bgR enR ++ sh_T cs adT lfT foT ++ sh_P cs adP kdP grP cvP brP hzP fmP dmP e1P e2P fkP pnP fnP ++ sh_P cs adQ kdQ grQ cvQ brQ hzQ fmQ dmQ e1Q e2Q fkQ pnQ fnQ ++ sh_M cs adM mpM mkM mgM mcM mwM mfM mtM mhM mmM mdM mxM mnM szM faM apM waM wrM fuM ++ sh_O cs adO ouO) → va_S (fun q : Nat => s.heap.size ≤ q) s.heap H locs → ∀ ls : Array Slot, lv_has ls 8 [(0, .ref b), (1, .ref (adG 0)), (2, .ref (adM 0)), (3, .ref (adO 0)), (4, .int (nI i))] → W p l e room_1 s m #[Value.ref b] below meth c H locs (100 + i) (20000 + 6 * i) (lw_Z below #[Value.ref b] s) (F0 m 321 ls []) := by
  obtain ⟨hx, hb, hr, hml, hown, hts, hX, hbl, hlocks, hgv⟩ := id C0
  have hts : ∀ w ∈ wsL_law, w.before #[Value.ref b] s = true := fun w h => hts w (wsL_law_in2 w h)
  have hA : ∀ q : Nat, s.heap.size ≤ q → (fun q : Nat => s.heap.size ≤ q) q := fun _ h => h
  have hbA : ¬ (fun q : Nat => s.heap.size ≤ q) b := Nat.not_le.mpr hbl
  have hc0 : 100 + i + 0 ≤ room_1.cells := by show 100 + i + 0 ≤ 601024; omega
  have hs0 : 20000 + 6 * i + 0 ≤ room_1.slots := by show 20000 + 6 * i + 0 ≤ 7293034; omega
  have hc1 : 100 + i + 1 ≤ room_1.cells := by show 100 + i + 1 ≤ 601024; omega
  have hs1 : 20000 + 6 * i + 6 ≤ room_1.slots := by show 20000 + 6 * i + 6 ≤ 7293034; omega
  intro adG adR adT adP adQ adM adO H locs hP hD hS ls hl
  refine lv_aload_n hx hb dL_law_321 rfl (lv_at hl 1 rfl) ?_
  refine lv_aload_n hx hb dL_law_322 rfl (lv_at hl 0 rfl) ?_
  refine lv_iload hx hb dL_law_323 (lv_at hl 4 rfl) ?_
  refine lv_iconst (v := 1) hx hb dL_law_325 (by decide) ?_
  refine lv_iadd hx hb dL_law_326 ?_
  have hin := h.1
  have h := h.2
  refine va_sld hx hb hX hbl hbA hS hin dL_law_327 ?_
  refine lv_aload_n hx hb dL_law_328 rfl (lv_at hl 0 rfl) ?_
  refine lv_iload hx hb dL_law_329 (lv_at hl 4 rfl) ?_
  refine lv_iconst (v := 2) hx hb dL_law_331 (by decide) ?_
  refine lv_iadd hx hb dL_law_332 ?_
  have hin := h.1
  have h := h.2
  refine va_sld hx hb hX hbl hbA hS hin dL_law_333 ?_
  refine lv_aload_n hx hb dL_law_334 rfl (lv_at hl 0 rfl) ?_
  refine lv_iload hx hb dL_law_335 (lv_at hl 4 rfl) ?_
  refine lv_iconst (v := 3) hx hb dL_law_337 (by decide) ?_
  refine lv_iadd hx hb dL_law_338 ?_
  have hin := h.1
  have h := h.2
  refine va_sld hx hb hX hbl hbA hS hin dL_law_339 ?_
  refine lv_aload_n hx hb dL_law_340 rfl (lv_at hl 3 rfl) ?_
  have hFc := va_free (wc := (sh_G cs adG (adR 0) (adT 0) (adP 0) (adQ 0) ++ sh_P cs adP kdP grP cvP brP hzP fmP dmP e1P e2P fkP pnP fnP ++ sh_O cs adO ouO)) hD hS hA [0, 5, 6, 7, 8, 9, 10, 11, 12, 13, 14, 15, 40] rfl
  refine va_calli (th_runSW (As := [.ref (adG 0), .int (xs ((nI i) + 1).toNatClampNeg), .int (xs ((nI i) + 2).toNatClampNeg), .int (xs ((nI i) + 3).toNatClampNeg), .ref (adO 0)]) (rest := []) ⟨hx, hb, hml, hown, hts⟩ (met_L_way l hnt D cs ev _ adG adP adO (adR 0) (adT 0) (adQ 0) kdP grP cvP brP hzP fmP dmP e1P e2P fkP pnP fnP ouO (xs ((nI i) + 1).toNatClampNeg) (xs ((nI i) + 2).toNatClampNeg) (xs ((nI i) + 3).toNatClampNeg) _ h) gL_law_L_way rfl rfl rfl (n := 5) (by decide +kernel) ⟨Nat.le_of_ble_eq_true rfl, Nat.le_of_ble_eq_true rfl⟩ (mPreST hP hD hS hK hE hTV hFc [0, 5, 6, 7, 8, 9, 10, 11, 12, 13, 14, 15, 40] (by decide) rfl) rfl rfl hl.1 rfl (lv_room (Nat.le_of_ble_eq_true rfl)) dL_law_341 ⟨hc1, hs1⟩) hS (fun q _ h => hFc q h) hFc (fun r_1 u t H1 locs ht hvm hw hB hz1 hk1 hS => ?_)
  obtain ⟨br_2, ou_3⟩ := u
  have h := hw
  obtain ⟨hP1, hK1, hD1⟩ := hB
  rw [ht] at hP1
  obtain ⟨hP, hD⟩ := mJoin (wr := (sh_R cs adR txR nuR lnR bgR enR ++ sh_T cs adT lfT foT ++ sh_P cs adQ kdQ grQ cvQ brQ hzQ fmQ dmQ e1Q e2Q fkQ pnQ fnQ ++ sh_M cs adM mpM mkM mgM mcM mwM mfM mtM mhM mmM mdM mxM mnM szM faM apM waM wrM fuM)) (w1 := (sh_G cs adG (adR 0) (adT 0) (adP 0) (adQ 0) ++ sh_P cs adP kdP grP cvP br_2 hzP fmP dmP e1P e2P fkP pnP fnP ++ sh_O cs adO ou_3)) (w' := (sh_G cs adG (adR 0) (adT 0) (adP 0) (adQ 0) ++ sh_R cs adR txR nuR lnR bgR enR ++ sh_T cs adT lfT foT ++ sh_P cs adP kdP grP cvP br_2 hzP fmP dmP e1P e2P fkP pnP fnP ++ sh_P cs adQ kdQ grQ cvQ brQ hzQ fmQ dmQ e1Q e2Q fkQ pnQ fnQ ++ sh_M cs adM mpM mkM mgM mcM mwM mfM mtM mhM mmM mdM mxM mnM szM faM apM waM wrM fuM ++ sh_O cs adO ou_3)) hP hD [0, 5, 6, 7, 8, 9, 10, 11, 12, 13, 14, 15, 40] [1, 2, 3, 4, 16, 17, 18, 19, 20, 21, 22, 23, 24, 25, 26, 27, 28, 29, 30, 31, 32, 33, 34, 35, 36, 37, 38, 39] rfl rfl (by decide) (by decide) hk1 hFc hP1 hD1 [28, 0, 1, 2, 3, 29, 30, 31, 32, 33, 34, 35, 36, 37, 38, 39, 4, 5, 6, 7, 8, 9, 10, 11, 12, 13, 14, 15, 16, 17, 18, 19, 20, 21, 22, 23, 24, 25, 26, 27, 40] (by decide) rfl
  generalize H1 = H at hP hS ⊢
  refine lv_istore (lv' := [(5, .int r_1), (0, .ref b), (1, .ref (adG 0)), (2, .ref (adM 0)), (3, .ref (adO 0)), (4, .int (nI i))]) hx hb dL_law_344 hl (by decide) rfl (fun ls hl => ?_)
  refine lv_aload_n hx hb dL_law_346 rfl (lv_at hl 3 rfl) ?_
  refine lv_aload_n hx hb dL_law_347 rfl (lv_at hl 1 rfl) ?_
  refine lv_iload hx hb dL_law_348 (lv_at hl 5 rfl) ?_
  refine lv_iconst (v := 1) hx hb dL_law_350 (by decide) ?_
  refine lv_iadd hx hb dL_law_351 ?_
  have hin := h.1
  have h := h.2
  refine va_sld hx hb hX hbl hbA hS hin dL_law_352 ?_
  refine lv_aload_n hx hb dL_law_353 rfl (lv_at hl 1 rfl) ?_
  refine lv_iload hx hb dL_law_354 (lv_at hl 5 rfl) ?_
  refine lv_iconst (v := 2) hx hb dL_law_356 (by decide) ?_
  refine lv_iadd hx hb dL_law_357 ?_
  have hin := h.1
  have h := h.2
  refine va_sld hx hb hX hbl hbA hS hin dL_law_358 ?_
  refine lv_aload_n hx hb dL_law_359 rfl (lv_at hl 1 rfl) ?_
  refine lv_iload hx hb dL_law_360 (lv_at hl 5 rfl) ?_
  refine lv_iconst (v := 3) hx hb dL_law_362 (by decide) ?_
  refine lv_iadd hx hb dL_law_363 ?_
  have hin := h.1
  have h := h.2
  refine va_sld hx hb hX hbl hbA hS hin dL_law_364 ?_
  have hFc := va_free (wc := (sh_M cs adM mpM mkM mgM mcM mwM mfM mtM mhM mmM mdM mxM mnM szM faM apM waM wrM fuM)) hD hS hA [27, 28, 29, 30, 31, 32, 33, 34, 35, 36, 37, 38, 39] rfl
  refine va_calli (va_runV (As := [.int (xs ((nI i) + 1).toNatClampNeg), .int (xs ((nI i) + 2).toNatClampNeg), .int (xs ((nI i) + 3).toNatClampNeg)]) (rest := []) ⟨hx, hb, hml, hown, hts⟩ (met_X6_way l D cs ev _ adM mpM mkM mgM mcM mwM mfM mtM mhM mmM mdM mxM mnM szM faM apM waM wrM fuM (xs ((nI i) + 1).toNatClampNeg) (xs ((nI i) + 2).toNatClampNeg) (xs ((nI i) + 3).toNatClampNeg) _ h) (cwV 3 hts gL_law_X6_way rfl rfl rfl (by decide +kernel) ⟨Nat.le_of_ble_eq_true rfl, Nat.le_of_ble_eq_true rfl⟩) (mPreV (va_recv hK hP (ci := 5) (q0 := 27) rfl rfl) hP hD hS hK hE hFc [27, 28, 29, 30, 31, 32, 33, 34, 35, 36, 37, 38, 39] (by decide) rfl) rfl rfl hl.1 rfl (lv_room (Nat.le_of_ble_eq_true rfl)) dL_law_365 ⟨hc1, hs1⟩) hS (fun q _ h => hFc q h) hFc (fun r_4 u t H1 locs ht hvm hw hB hz1 hk1 hS => ?_)
  obtain ⟨mp_5, mk_6, mg_7, mc_8, mw_9, mf_10, mt_11, mh_12, mm_13, md_14, fa_15⟩ := u
  have h := hw
  obtain ⟨hP1, hK1, hD1⟩ := hB
  rw [ht] at hP1
  obtain ⟨hP, hD⟩ := mJoin (wr := (sh_G cs adG (adR 0) (adT 0) (adP 0) (adQ 0) ++ sh_R cs adR txR nuR lnR bgR enR ++ sh_T cs adT lfT foT ++ sh_P cs adP kdP grP cvP br_2 hzP fmP dmP e1P e2P fkP pnP fnP ++ sh_P cs adQ kdQ grQ cvQ brQ hzQ fmQ dmQ e1Q e2Q fkQ pnQ fnQ ++ sh_O cs adO ou_3)) (w1 := (sh_M cs adM mp_5 mk_6 mg_7 mc_8 mw_9 mf_10 mt_11 mh_12 mm_13 md_14 mxM mnM szM fa_15 apM waM wrM fuM)) (w' := (sh_G cs adG (adR 0) (adT 0) (adP 0) (adQ 0) ++ sh_R cs adR txR nuR lnR bgR enR ++ sh_T cs adT lfT foT ++ sh_P cs adP kdP grP cvP br_2 hzP fmP dmP e1P e2P fkP pnP fnP ++ sh_P cs adQ kdQ grQ cvQ brQ hzQ fmQ dmQ e1Q e2Q fkQ pnQ fnQ ++ sh_M cs adM mp_5 mk_6 mg_7 mc_8 mw_9 mf_10 mt_11 mh_12 mm_13 md_14 mxM mnM szM fa_15 apM waM wrM fuM ++ sh_O cs adO ou_3)) hP hD [27, 28, 29, 30, 31, 32, 33, 34, 35, 36, 37, 38, 39] [0, 1, 2, 3, 4, 5, 6, 7, 8, 9, 10, 11, 12, 13, 14, 15, 16, 17, 18, 19, 20, 21, 22, 23, 24, 25, 26, 40] rfl rfl (by decide) (by decide) hk1 hFc hP1 hD1 [0, 1, 2, 3, 4, 5, 6, 7, 8, 9, 10, 11, 12, 13, 14, 15, 16, 17, 18, 19, 20, 21, 22, 23, 24, 25, 26, 28, 29, 30, 31, 32, 33, 34, 35, 36, 37, 38, 39, 40, 27] (by decide) rfl
  generalize H1 = H at hP hS ⊢
  refine lv_istore (lv' := [(6, .int r_4), (5, .int r_1), (0, .ref b), (1, .ref (adG 0)), (2, .ref (adM 0)), (3, .ref (adO 0)), (4, .int (nI i))]) hx hb dL_law_368 hl (by decide) rfl (fun ls hl => ?_)
  refine lv_aload_n hx hb dL_law_370 rfl (lv_at hl 4 rfl) ?_
  have hFc := va_free (wc := (sh_M cs adM mp_5 mk_6 mg_7 mc_8 mw_9 mf_10 mt_11 mh_12 mm_13 md_14 mxM mnM szM fa_15 apM waM wrM fuM)) hD hS hA [27, 28, 29, 30, 31, 32, 33, 34, 35, 36, 37, 38, 39] rfl
  refine va_calli (va_runV (As := []) (rest := []) ⟨hx, hb, hml, hown, hts⟩ (met_X6_thrown l D cs ev _ adM mp_5 mk_6 mg_7 mc_8 mw_9 mf_10 mt_11 mh_12 mm_13 md_14 mxM mnM szM fa_15 apM waM wrM fuM _ h) (cwV 0 hts gL_law_X6_thrown rfl rfl rfl (by decide +kernel) ⟨Nat.le_of_ble_eq_true rfl, Nat.le_of_ble_eq_true rfl⟩) (mPreV (va_recv hK hP (ci := 5) (q0 := 27) rfl rfl) hP hD hS hK hE hFc [27, 28, 29, 30, 31, 32, 33, 34, 35, 36, 37, 38, 39] (by decide) rfl) rfl rfl hl.1 rfl (lv_room (Nat.le_of_ble_eq_true rfl)) dL_law_371 ⟨hc1, hs1⟩) hS (fun q _ h => hFc q h) hFc (fun r_16 u t H1 locs ht hvm hw hB hz1 hk1 hS => ?_)
  have h := hw
  obtain ⟨hP1, hK1, hD1⟩ := hB
  rw [ht] at hP1
  obtain ⟨hP, hD⟩ := mJoin (wr := (sh_G cs adG (adR 0) (adT 0) (adP 0) (adQ 0) ++ sh_R cs adR txR nuR lnR bgR enR ++ sh_T cs adT lfT foT ++ sh_P cs adP kdP grP cvP br_2 hzP fmP dmP e1P e2P fkP pnP fnP ++ sh_P cs adQ kdQ grQ cvQ brQ hzQ fmQ dmQ e1Q e2Q fkQ pnQ fnQ ++ sh_O cs adO ou_3)) (w1 := (sh_M cs adM mp_5 mk_6 mg_7 mc_8 mw_9 mf_10 mt_11 mh_12 mm_13 md_14 mxM mnM szM fa_15 apM waM wrM fuM)) (w' := (sh_G cs adG (adR 0) (adT 0) (adP 0) (adQ 0) ++ sh_R cs adR txR nuR lnR bgR enR ++ sh_T cs adT lfT foT ++ sh_P cs adP kdP grP cvP br_2 hzP fmP dmP e1P e2P fkP pnP fnP ++ sh_P cs adQ kdQ grQ cvQ brQ hzQ fmQ dmQ e1Q e2Q fkQ pnQ fnQ ++ sh_M cs adM mp_5 mk_6 mg_7 mc_8 mw_9 mf_10 mt_11 mh_12 mm_13 md_14 mxM mnM szM fa_15 apM waM wrM fuM ++ sh_O cs adO ou_3)) hP hD [27, 28, 29, 30, 31, 32, 33, 34, 35, 36, 37, 38, 39] [0, 1, 2, 3, 4, 5, 6, 7, 8, 9, 10, 11, 12, 13, 14, 15, 16, 17, 18, 19, 20, 21, 22, 23, 24, 25, 26, 40] rfl rfl (by decide) (by decide) hk1 hFc hP1 hD1 [0, 1, 2, 3, 4, 5, 6, 7, 8, 9, 10, 11, 12, 13, 14, 15, 16, 17, 18, 19, 20, 21, 22, 23, 24, 25, 26, 28, 29, 30, 31, 32, 33, 34, 35, 36, 37, 38, 39, 40, 27] (by decide) rfl
  generalize H1 = H at hP hS ⊢
  refine lv_iload hx hb dL_law_374 (lv_at hl 1 rfl) ?_
  refine lv_icmp_eq (tgt := 381) hx hb dL_law_376 (by decide) (fun c_17 => ?_) (fun c_17 => ?_)
  · have h := h.1 c_17
    refine lv_iload hx hb dL_law_381 (lv_at hl 1 rfl) ?_
    refine lv_if_ne (tgt := 405) hx hb dL_law_383 (by decide) (fun c_18 => ?_) (fun c_18 => ?_)
    · have h := h.2 c_18
      refine lv_goto (tgt := 935) hx hb dL_law_405 (by decide) ?_
      refine lv_iinc (v := (nI i) + 4) (lv' := [(4, .int ((nI i) + 4)), (6, .int r_4), (5, .int r_1), (0, .ref b), (1, .ref (adG 0)), (2, .ref (adM 0)), (3, .ref (adO 0))]) hx hb dL_law_935 hl (k := 6) rfl rfl (by decide) rfl (fun ls hl => ?_)
      refine lv_goto (tgt := 23) hx hb dL_law_938 (by decide) ?_
      have h := h
      refine W.widen (k := 100 + (i + 4)) (n := 20000 + 6 * (i + 4)) (by omega) (by omega) ?_
      have hl := lv_sub (l' := [(0, .ref b), (1, .ref (adG 0)), (2, .ref (adM 0)), (3, .ref (adO 0)), (4, .int ((nI i) + 4))]) hl [3, 4, 5, 6, 0] rfl
      rw [show (nI i) + 4 = nI (i + 4) from nI_add i 4] at hl
      exact h adG adR adT adP adQ adM adO _ _ hP hD hS ls hl
    · have h := h.1 c_18
      refine lv_aload_n hx hb dL_law_386 rfl (lv_at hl 5 rfl) ?_
      refine lv_iconst (v := 0) hx hb dL_law_387 (by decide) ?_
      have hin := h.1
      have h := h.2
      refine va_lald (D := D) (cl := vwCl) hx hb hK hP 40 1 rfl rfl hin dL_law_388 ?_
      refine lv_iload hx hb dL_law_389 (lv_at hl 0 rfl) ?_
      refine lv_if_eq (tgt := 398) hx hb dL_law_391 (by decide) (fun c_19 => ?_) (fun c_19 => ?_)
      · have h := h.1 c_19
        refine lv_lconst (v := 0) hx hb dL_law_398 (by decide) ?_
        refine W.lcmp hx hb dL_law_399 ?_
        refine lv_if_eq (tgt := 405) hx hb dL_law_400 (by decide) (fun c_20 => ?_) (fun c_20 => ?_)
        · have h := h.1 c_20
          refine lv_goto (tgt := 935) hx hb dL_law_405 (by decide) ?_
          refine lv_iinc (v := (nI i) + 4) (lv' := [(4, .int ((nI i) + 4)), (6, .int r_4), (5, .int r_1), (0, .ref b), (1, .ref (adG 0)), (2, .ref (adM 0)), (3, .ref (adO 0))]) hx hb dL_law_935 hl (k := 6) rfl rfl (by decide) rfl (fun ls hl => ?_)
          refine lv_goto (tgt := 23) hx hb dL_law_938 (by decide) ?_
          have h := h
          refine W.widen (k := 100 + (i + 4)) (n := 20000 + 6 * (i + 4)) (by omega) (by omega) ?_
          have hl := lv_sub (l' := [(0, .ref b), (1, .ref (adG 0)), (2, .ref (adM 0)), (3, .ref (adO 0)), (4, .int ((nI i) + 4))]) hl [3, 4, 5, 6, 0] rfl
          rw [show (nI i) + 4 = nI (i + 4) from nI_add i 4] at hl
          exact h adG adR adT adP adQ adM adO _ _ hP hD hS ls hl
        · have h := h.2 c_20
          refine lv_iconst (v := 0) hx hb dL_law_403 (by decide) ?_
          exact h.elim
      · have h := h.2 c_19
        refine lv_lconst (v := 1) hx hb dL_law_394 (by decide) ?_
        refine lv_goto (tgt := 399) hx hb dL_law_395 (by decide) ?_
        refine W.lcmp hx hb dL_law_399 ?_
        refine lv_if_eq (tgt := 405) hx hb dL_law_400 (by decide) (fun c_21 => ?_) (fun c_21 => ?_)
        · have h := h.1 c_21
          refine lv_goto (tgt := 935) hx hb dL_law_405 (by decide) ?_
          refine lv_iinc (v := (nI i) + 4) (lv' := [(4, .int ((nI i) + 4)), (6, .int r_4), (5, .int r_1), (0, .ref b), (1, .ref (adG 0)), (2, .ref (adM 0)), (3, .ref (adO 0))]) hx hb dL_law_935 hl (k := 6) rfl rfl (by decide) rfl (fun ls hl => ?_)
          refine lv_goto (tgt := 23) hx hb dL_law_938 (by decide) ?_
          have h := h
          refine W.widen (k := 100 + (i + 4)) (n := 20000 + 6 * (i + 4)) (by omega) (by omega) ?_
          have hl := lv_sub (l' := [(0, .ref b), (1, .ref (adG 0)), (2, .ref (adM 0)), (3, .ref (adO 0)), (4, .int ((nI i) + 4))]) hl [3, 4, 5, 6, 0] rfl
          rw [show (nI i) + 4 = nI (i + 4) from nI_add i 4] at hl
          exact h adG adR adT adP adQ adM adO _ _ hP hD hS ls hl
        · have h := h.2 c_21
          refine lv_iconst (v := 0) hx hb dL_law_403 (by decide) ?_
          exact h.elim
  · have h := h.2 c_17
    refine lv_iconst (v := 0) hx hb dL_law_379 (by decide) ?_
    exact h.elim
def wp_law408 (L : Nat) (xs : Nat → Int32) (A23 : Nat → (Nat → Int32) → (Nat → Int32) → Int32 → Int32 → Int32 → Int32 → Int32 → (Nat → Int32) → (Nat → Int64) → (Nat → Int32) → (Nat → Int32) → (Nat → Int32) → (Nat → Int32) → (Nat → Int32) → (Nat → Int32) → (Nat → Int32) → (Nat → Int32) → Int32 → Int32 → (Nat → Int32) → (Nat → Int64) → (Nat → Int32) → (Nat → Int32) → (Nat → Int32) → (Nat → Int32) → (Nat → Int32) → (Nat → Int32) → (Nat → Int32) → (Nat → Int32) → Int32 → Int32 → (Nat → Int32) → (Nat → Int32) → (Nat → Int32) → (Nat → Int32) → (Nat → Int32) → (Nat → Int32) → (Nat → Int32) → (Nat → Int32) → (Nat → Int32) → (Nat → Int32) → (Nat → Int32) → (Nat → Int32) → Int32 → Int32 → Int32 → Int32 → Int32 → Int32 → (Nat → Int64) → Prop) (i : Nat) (txR : Nat → Int32) (nuR : Nat → Int32) (lnR : Int32) (bgR : Int32) (enR : Int32) (lfT : Int32) (foT : Int32) (kdP : Nat → Int32) (grP : Nat → Int64) (cvP : Nat → Int32) (brP : Nat → Int32) (hzP : Nat → Int32) (fmP : Nat → Int32) (dmP : Nat → Int32) (e1P : Nat → Int32) (e2P : Nat → Int32) (fkP : Nat → Int32) (pnP : Int32) (fnP : Int32) (kdQ : Nat → Int32) (grQ : Nat → Int64) (cvQ : Nat → Int32) (brQ : Nat → Int32) (hzQ : Nat → Int32) (fmQ : Nat → Int32) (dmQ : Nat → Int32) (e1Q : Nat → Int32) (e2Q : Nat → Int32) (fkQ : Nat → Int32) (pnQ : Int32) (fnQ : Int32) (mpM : Nat → Int32) (mkM : Nat → Int32) (mgM : Nat → Int32) (mcM : Nat → Int32) (mwM : Nat → Int32) (mfM : Nat → Int32) (mtM : Nat → Int32) (mhM : Nat → Int32) (mmM : Nat → Int32) (mdM : Nat → Int32) (mxM : Nat → Int32) (mnM : Nat → Int32) (szM : Int32) (faM : Int32) (apM : Int32) (waM : Int32) (wrM : Int32) (fuM : Int32) (ouO : Nat → Int64) : Prop :=
    (vp_in ((nI i) + 1) L ∧ (vp_in ((nI i) + 2) L ∧ wp_X5_before cvP brP pnP (xs ((nI i) + 1).toNatClampNeg) (xs ((nI i) + 2).toNatClampNeg) (fun r_1 _ => (vp_in ((nI i) + 1) L ∧ (vp_in ((nI i) + 2) L ∧ wp_X6_before mpM mcM mwM faM (xs ((nI i) + 1).toNatClampNeg) (xs ((nI i) + 2).toNatClampNeg) (fun r_2 fa_3 => ((r_1 = r_2 → A23 (i + 4) txR nuR lnR bgR enR lfT foT kdP grP cvP brP hzP fmP dmP e1P e2P fkP pnP fnP kdQ grQ cvQ brQ hzQ fmQ dmQ e1Q e2Q fkQ pnQ fnQ mpM mkM mgM mcM mwM mfM mtM mhM mmM mdM mxM mnM szM fa_3 apM waM wrM fuM ouO) ∧ (¬ r_1 = r_2 → False))))))))
set_option maxHeartbeats 4000000 in
set_option maxRecDepth 100000 in
theorem law_c408 {p : Program} {l : Launch} {e : Env} {s : State} {m : MethodId} {below : List Frame} {meth : Method} {c : Code} {b L : Nat} {xs : Nat → Int32} {D : va_G} {cs : Nat → ClassId} {ev : Nat → Nat → Nat} {i : Nat} {txR : Nat → Int32} {nuR : Nat → Int32} {lnR : Int32} {bgR : Int32} {enR : Int32} {lfT : Int32} {foT : Int32} {kdP : Nat → Int32} {grP : Nat → Int64} {cvP : Nat → Int32} {brP : Nat → Int32} {hzP : Nat → Int32} {fmP : Nat → Int32} {dmP : Nat → Int32} {e1P : Nat → Int32} {e2P : Nat → Int32} {fkP : Nat → Int32} {pnP : Int32} {fnP : Int32} {kdQ : Nat → Int32} {grQ : Nat → Int64} {cvQ : Nat → Int32} {brQ : Nat → Int32} {hzQ : Nat → Int32} {fmQ : Nat → Int32} {dmQ : Nat → Int32} {e1Q : Nat → Int32} {e2Q : Nat → Int32} {fkQ : Nat → Int32} {pnQ : Int32} {fnQ : Int32} {mpM : Nat → Int32} {mkM : Nat → Int32} {mgM : Nat → Int32} {mcM : Nat → Int32} {mwM : Nat → Int32} {mfM : Nat → Int32} {mtM : Nat → Int32} {mhM : Nat → Int32} {mmM : Nat → Int32} {mdM : Nat → Int32} {mxM : Nat → Int32} {mnM : Nat → Int32} {szM : Int32} {faM : Int32} {apM : Int32} {waM : Int32} {wrM : Int32} {fuM : Int32} {ouO : Nat → Int64} (hnt : l.stackTraces = false) (C0 : lw_At p s m meth c b L xs) (hLi : i ≤ 2048) (hK : va_K D vwCl (tyS cs) s) (hE : EV ev (fun q : Nat => s.heap.size ≤ q) s s.heap) (hTV : TV (fun q : Nat => s.heap.size ≤ q) s s.heap) (h : wp_law408 L xs (law_A p l e s m below meth c b D cs) i txR nuR lnR bgR enR lfT foT kdP grP cvP brP hzP fmP dmP e1P e2P fkP pnP fnP kdQ grQ cvQ brQ hzQ fmQ dmQ e1Q e2Q fkQ pnQ fnQ mpM mkM mgM mcM mwM mfM mtM mhM mmM mdM mxM mnM szM faM apM waM wrM fuM ouO) : ∀ (adG adR adT adP adQ adM adO : Nat → Nat) (H : Heap) (locs : List Loc), va_P D vwCl (sh_G cs adG (adR 0) (adT 0) (adP 0) (adQ 0) ++ sh_R cs adR txR nuR lnR bgR enR ++ sh_T cs adT lfT foT ++ sh_P cs adP kdP grP cvP brP hzP fmP dmP e1P e2P fkP pnP fnP ++ sh_P cs adQ kdQ grQ cvQ brQ hzQ fmQ dmQ e1Q e2Q fkQ pnQ fnQ ++ sh_M cs adM mpM mkM mgM mcM mwM mfM mtM mhM mmM mdM mxM mnM szM faM apM waM wrM fuM ++ sh_O cs adO ouO) H → va_D (fun q : Nat => s.heap.size ≤ q) (sh_G cs adG (adR 0) (adT 0) (adP 0) (adQ 0) ++ sh_R cs adR txR nuR lnR bgR enR ++ sh_T cs adT lfT foT ++ sh_P cs adP kdP grP cvP brP hzP fmP dmP e1P e2P fkP pnP fnP ++ sh_P cs adQ kdQ grQ cvQ brQ hzQ fmQ dmQ e1Q e2Q fkQ pnQ fnQ ++ sh_M cs adM mpM mkM mgM mcM mwM mfM mtM mhM mmM mdM mxM mnM szM faM apM waM wrM fuM ++ sh_O cs adO ouO) → va_S (fun q : Nat => s.heap.size ≤ q) s.heap H locs → ∀ ls : Array Slot, lv_has ls 8 [(0, .ref b), (1, .ref (adG 0)), (2, .ref (adM 0)), (3, .ref (adO 0)), (4, .int (nI i))] → W p l e room_1 s m #[Value.ref b] below meth c H locs (100 + i) (20000 + 6 * i) (lw_Z below #[Value.ref b] s) (F0 m 408 ls []) := by
  obtain ⟨hx, hb, hr, hml, hown, hts, hX, hbl, hlocks, hgv⟩ := id C0
  have hts : ∀ w ∈ wsL_law, w.before #[Value.ref b] s = true := fun w h => hts w (wsL_law_in2 w h)
  have hA : ∀ q : Nat, s.heap.size ≤ q → (fun q : Nat => s.heap.size ≤ q) q := fun _ h => h
  have hbA : ¬ (fun q : Nat => s.heap.size ≤ q) b := Nat.not_le.mpr hbl
  have hc0 : 100 + i + 0 ≤ room_1.cells := by show 100 + i + 0 ≤ 601024; omega
  have hs0 : 20000 + 6 * i + 0 ≤ room_1.slots := by show 20000 + 6 * i + 0 ≤ 7293034; omega
  have hc1 : 100 + i + 1 ≤ room_1.cells := by show 100 + i + 1 ≤ 601024; omega
  have hs1 : 20000 + 6 * i + 6 ≤ room_1.slots := by show 20000 + 6 * i + 6 ≤ 7293034; omega
  intro adG adR adT adP adQ adM adO H locs hP hD hS ls hl
  refine lv_aload_n hx hb dL_law_408 rfl (lv_at hl 1 rfl) ?_
  refine lv_aload_n hx hb dL_law_409 rfl (lv_at hl 0 rfl) ?_
  refine lv_iload hx hb dL_law_410 (lv_at hl 4 rfl) ?_
  refine lv_iconst (v := 1) hx hb dL_law_412 (by decide) ?_
  refine lv_iadd hx hb dL_law_413 ?_
  have hin := h.1
  have h := h.2
  refine va_sld hx hb hX hbl hbA hS hin dL_law_414 ?_
  refine lv_aload_n hx hb dL_law_415 rfl (lv_at hl 0 rfl) ?_
  refine lv_iload hx hb dL_law_416 (lv_at hl 4 rfl) ?_
  refine lv_iconst (v := 2) hx hb dL_law_418 (by decide) ?_
  refine lv_iadd hx hb dL_law_419 ?_
  have hin := h.1
  have h := h.2
  refine va_sld hx hb hX hbl hbA hS hin dL_law_420 ?_
  have hFc := va_free (wc := (sh_G cs adG (adR 0) (adT 0) (adP 0) (adQ 0) ++ sh_P cs adP kdP grP cvP brP hzP fmP dmP e1P e2P fkP pnP fnP)) hD hS hA [0, 5, 6, 7, 8, 9, 10, 11, 12, 13, 14, 15] rfl
  refine va_calli (va_runV (As := [.int (xs ((nI i) + 1).toNatClampNeg), .int (xs ((nI i) + 2).toNatClampNeg)]) (rest := []) ⟨hx, hb, hml, hown, hts⟩ (met_X5_before l D cs ev _ adG adP (adR 0) (adT 0) (adQ 0) kdP grP cvP brP hzP fmP dmP e1P e2P fkP pnP fnP (xs ((nI i) + 1).toNatClampNeg) (xs ((nI i) + 2).toNatClampNeg) _ h) (cwV 2 hts gL_law_X5_before rfl rfl rfl (by decide +kernel) ⟨Nat.le_of_ble_eq_true rfl, Nat.le_of_ble_eq_true rfl⟩) (mPreV (va_recv hK hP (ci := 4) (q0 := 0) rfl rfl) hP hD hS hK hE hFc [0, 5, 6, 7, 8, 9, 10, 11, 12, 13, 14, 15] (by decide) rfl) rfl rfl hl.1 rfl (lv_room (Nat.le_of_ble_eq_true rfl)) dL_law_421 ⟨hc0, hs0⟩) hS (fun q _ h => hFc q h) hFc (fun r_1 u t H1 locs ht hvm hw hB hz1 hk1 hS => ?_)
  have h := hw
  obtain ⟨hP1, hK1, hD1⟩ := hB
  rw [ht] at hP1
  obtain ⟨hP, hD⟩ := mJoin (wr := (sh_R cs adR txR nuR lnR bgR enR ++ sh_T cs adT lfT foT ++ sh_P cs adQ kdQ grQ cvQ brQ hzQ fmQ dmQ e1Q e2Q fkQ pnQ fnQ ++ sh_M cs adM mpM mkM mgM mcM mwM mfM mtM mhM mmM mdM mxM mnM szM faM apM waM wrM fuM ++ sh_O cs adO ouO)) (w1 := (sh_G cs adG (adR 0) (adT 0) (adP 0) (adQ 0) ++ sh_P cs adP kdP grP cvP brP hzP fmP dmP e1P e2P fkP pnP fnP)) (w' := (sh_G cs adG (adR 0) (adT 0) (adP 0) (adQ 0) ++ sh_R cs adR txR nuR lnR bgR enR ++ sh_T cs adT lfT foT ++ sh_P cs adP kdP grP cvP brP hzP fmP dmP e1P e2P fkP pnP fnP ++ sh_P cs adQ kdQ grQ cvQ brQ hzQ fmQ dmQ e1Q e2Q fkQ pnQ fnQ ++ sh_M cs adM mpM mkM mgM mcM mwM mfM mtM mhM mmM mdM mxM mnM szM faM apM waM wrM fuM ++ sh_O cs adO ouO)) hP hD [0, 5, 6, 7, 8, 9, 10, 11, 12, 13, 14, 15] [1, 2, 3, 4, 16, 17, 18, 19, 20, 21, 22, 23, 24, 25, 26, 27, 28, 29, 30, 31, 32, 33, 34, 35, 36, 37, 38, 39, 40] rfl rfl (by decide) (by decide) hk1 hFc hP1 hD1 [29, 0, 1, 2, 3, 30, 31, 32, 33, 34, 35, 36, 37, 38, 39, 40, 4, 5, 6, 7, 8, 9, 10, 11, 12, 13, 14, 15, 16, 17, 18, 19, 20, 21, 22, 23, 24, 25, 26, 27, 28] (by decide) rfl
  generalize H1 = H at hP hS ⊢
  refine lv_aload_n hx hb dL_law_424 rfl (lv_at hl 2 rfl) ?_
  refine lv_aload_n hx hb dL_law_425 rfl (lv_at hl 0 rfl) ?_
  refine lv_iload hx hb dL_law_426 (lv_at hl 4 rfl) ?_
  refine lv_iconst (v := 1) hx hb dL_law_428 (by decide) ?_
  refine lv_iadd hx hb dL_law_429 ?_
  have hin := h.1
  have h := h.2
  refine va_sld hx hb hX hbl hbA hS hin dL_law_430 ?_
  refine lv_aload_n hx hb dL_law_431 rfl (lv_at hl 0 rfl) ?_
  refine lv_iload hx hb dL_law_432 (lv_at hl 4 rfl) ?_
  refine lv_iconst (v := 2) hx hb dL_law_434 (by decide) ?_
  refine lv_iadd hx hb dL_law_435 ?_
  have hin := h.1
  have h := h.2
  refine va_sld hx hb hX hbl hbA hS hin dL_law_436 ?_
  have hFc := va_free (wc := (sh_M cs adM mpM mkM mgM mcM mwM mfM mtM mhM mmM mdM mxM mnM szM faM apM waM wrM fuM)) hD hS hA [27, 28, 29, 30, 31, 32, 33, 34, 35, 36, 37, 38, 39] rfl
  refine va_calli (va_runV (As := [.int (xs ((nI i) + 1).toNatClampNeg), .int (xs ((nI i) + 2).toNatClampNeg)]) (rest := [.int r_1]) ⟨hx, hb, hml, hown, hts⟩ (met_X6_before l D cs ev _ adM mpM mkM mgM mcM mwM mfM mtM mhM mmM mdM mxM mnM szM faM apM waM wrM fuM (xs ((nI i) + 1).toNatClampNeg) (xs ((nI i) + 2).toNatClampNeg) _ h) (cwV 2 hts gL_law_X6_before rfl rfl rfl (by decide +kernel) ⟨Nat.le_of_ble_eq_true rfl, Nat.le_of_ble_eq_true rfl⟩) (mPreV (va_recv hK hP (ci := 5) (q0 := 27) rfl rfl) hP hD hS hK hE hFc [27, 28, 29, 30, 31, 32, 33, 34, 35, 36, 37, 38, 39] (by decide) rfl) rfl rfl hl.1 rfl (lv_room (Nat.le_of_ble_eq_true rfl)) dL_law_437 ⟨hc0, hs0⟩) hS (fun q _ h => hFc q h) hFc (fun r_2 u t H1 locs ht hvm hw hB hz1 hk1 hS => ?_)
  obtain ⟨fa_3, rfl⟩ : ∃ z, z = u := ⟨_, rfl⟩
  have h := hw
  obtain ⟨hP1, hK1, hD1⟩ := hB
  rw [ht] at hP1
  obtain ⟨hP, hD⟩ := mJoin (wr := (sh_G cs adG (adR 0) (adT 0) (adP 0) (adQ 0) ++ sh_R cs adR txR nuR lnR bgR enR ++ sh_T cs adT lfT foT ++ sh_P cs adP kdP grP cvP brP hzP fmP dmP e1P e2P fkP pnP fnP ++ sh_P cs adQ kdQ grQ cvQ brQ hzQ fmQ dmQ e1Q e2Q fkQ pnQ fnQ ++ sh_O cs adO ouO)) (w1 := (sh_M cs adM mpM mkM mgM mcM mwM mfM mtM mhM mmM mdM mxM mnM szM fa_3 apM waM wrM fuM)) (w' := (sh_G cs adG (adR 0) (adT 0) (adP 0) (adQ 0) ++ sh_R cs adR txR nuR lnR bgR enR ++ sh_T cs adT lfT foT ++ sh_P cs adP kdP grP cvP brP hzP fmP dmP e1P e2P fkP pnP fnP ++ sh_P cs adQ kdQ grQ cvQ brQ hzQ fmQ dmQ e1Q e2Q fkQ pnQ fnQ ++ sh_M cs adM mpM mkM mgM mcM mwM mfM mtM mhM mmM mdM mxM mnM szM fa_3 apM waM wrM fuM ++ sh_O cs adO ouO)) hP hD [27, 28, 29, 30, 31, 32, 33, 34, 35, 36, 37, 38, 39] [0, 1, 2, 3, 4, 5, 6, 7, 8, 9, 10, 11, 12, 13, 14, 15, 16, 17, 18, 19, 20, 21, 22, 23, 24, 25, 26, 40] rfl rfl (by decide) (by decide) hk1 hFc hP1 hD1 [0, 1, 2, 3, 4, 5, 6, 7, 8, 9, 10, 11, 12, 13, 14, 15, 16, 17, 18, 19, 20, 21, 22, 23, 24, 25, 26, 28, 29, 30, 31, 32, 33, 34, 35, 36, 37, 38, 39, 40, 27] (by decide) rfl
  generalize H1 = H at hP hS ⊢
  refine lv_icmp_eq (tgt := 935) hx hb dL_law_440 (by decide) (fun c_4 => ?_) (fun c_4 => ?_)
  · have h := h.1 c_4
    refine lv_iinc (v := (nI i) + 4) (lv' := [(4, .int ((nI i) + 4)), (0, .ref b), (1, .ref (adG 0)), (2, .ref (adM 0)), (3, .ref (adO 0))]) hx hb dL_law_935 hl (k := 4) rfl rfl (by decide) rfl (fun ls hl => ?_)
    refine lv_goto (tgt := 23) hx hb dL_law_938 (by decide) ?_
    have h := h
    refine W.widen (k := 100 + (i + 4)) (n := 20000 + 6 * (i + 4)) (by omega) (by omega) ?_
    have hl := lv_sub (l' := [(0, .ref b), (1, .ref (adG 0)), (2, .ref (adM 0)), (3, .ref (adO 0)), (4, .int ((nI i) + 4))]) hl [1, 2, 3, 4, 0] rfl
    rw [show (nI i) + 4 = nI (i + 4) from nI_add i 4] at hl
    exact h adG adR adT adP adQ adM adO _ _ hP hD hS ls hl
  · have h := h.2 c_4
    refine lv_iconst (v := 0) hx hb dL_law_443 (by decide) ?_
    exact h.elim
