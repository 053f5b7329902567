def wp_law685 (L : Nat) (xs : Nat → Int32) (A23 : Nat → (Nat → Int32) → (Nat → Int32) → Int32 → Int32 → Int32 → Int32 → Int32 → (Nat → Int32) → (Nat → Int64) → (Nat → Int32) → (Nat → Int32) → (Nat → Int32) → (Nat → Int32) → (Nat → Int32) → (Nat → Int32) → (Nat → Int32) → (Nat → Int32) → Int32 → Int32 → (Nat → Int32) → (Nat → Int64) → (Nat → Int32) → (Nat → Int32) → (Nat → Int32) → (Nat → Int32) → (Nat → Int32) → (Nat → Int32) → (Nat → Int32) → (Nat → Int32) → Int32 → Int32 → (Nat → Int32) → (Nat → Int32) → (Nat → Int32) → (Nat → Int32) → (Nat → Int32) → (Nat → Int32) → (Nat → Int32) → (Nat → Int32) → (Nat → Int32) → (Nat → Int32) → (Nat → Int32) → (Nat → Int32) → Int32 → Int32 → Int32 → Int32 → Int32 → Int32 → (Nat → Int64) → Prop) (i : Nat) (txR : Nat → Int32) (nuR : Nat → Int32) (lnR : Int32) (bgR : Int32) (enR : Int32) (lfT : Int32) (foT : Int32) (kdP : Nat → Int32) (grP : Nat → Int64) (cvP : Nat → Int32) (brP : Nat → Int32) (hzP : Nat → Int32) (fmP : Nat → Int32) (dmP : Nat → Int32) (e1P : Nat → Int32) (e2P : Nat → Int32) (fkP : Nat → Int32) (pnP : Int32) (fnP : Int32) (kdQ : Nat → Int32) (grQ : Nat → Int64) (cvQ : Nat → Int32) (brQ : Nat → Int32) (hzQ : Nat → Int32) (fmQ : Nat → Int32) (dmQ : Nat → Int32) (e1Q : Nat → Int32) (e2Q : Nat → Int32) (fkQ : Nat → Int32) (pnQ : Int32) (fnQ : Int32) (mpM : Nat → Int32) (mkM : Nat → Int32) (mgM : Nat → Int32) (mcM : Nat → Int32) (mwM : Nat → Int32) (mfM : Nat → Int32) (mtM : Nat → Int32) (mhM : Nat → Int32) (mmM : Nat → Int32) (mdM : Nat → Int32) (mxM : Nat → Int32) (mnM : Nat → Int32) (szM : Int32) (faM : Int32) (apM : Int32) (waM : Int32) (wrM : Int32) (fuM : Int32) (ouO : Nat → Int64) : Prop :=
    (vp_in ((nI i) + 1) L ∧ (vp_in ((nI i) + 2) L ∧ wp_X5_hazard hzP pnP (xs ((nI i) + 1).toNatClampNeg) (xs ((nI i) + 2).toNatClampNeg) (fun r_1 hz_2 => (vp_in ((nI i) + 1) L ∧ (vp_in ((nI i) + 2) L ∧ wp_X6_hazard mpM mkM mgM mcM mwM mfM mtM mhM mmM mdM (xs ((nI i) + 1).toNatClampNeg) (xs ((nI i) + 2).toNatClampNeg) (fun r_3 u => match u with | (mp_4, mk_5, mg_6, mc_7, mw_8, mf_9, mt_10, mh_11, mm_12, md_13, fa_14) => ((r_1 = r_3 → A23 (i + 4) txR nuR lnR bgR enR lfT foT kdP grP cvP brP hz_2 fmP dmP e1P e2P fkP pnP fnP kdQ grQ cvQ brQ hzQ fmQ dmQ e1Q e2Q fkQ pnQ fnQ mp_4 mk_5 mg_6 mc_7 mw_8 mf_9 mt_10 mh_11 mm_12 md_13 mxM mnM szM fa_14 apM waM wrM fuM ouO) ∧ (¬ r_1 = r_3 → False))))))))
set_option maxHeartbeats 4000000 in
set_option maxRecDepth 100000 in
theorem law_c685 {p : Program} {l : Launch} {e : Env} {s : State} {m : MethodId} {below : List Frame} {meth : Method} {c : Code} {b L : Nat} {xs : Nat → Int32} {D : va_G} {cs : Nat → ClassId} {ev : Nat → Nat → Nat} {i : Nat} {txR : Nat → Int32} {nuR : Nat → Int32} {lnR : Int32} {bgR : Int32} {enR : Int32} {lfT : Int32} {foT : Int32} {kdP : Nat → Int32} {grP : Nat → Int64} {cvP : Nat → Int32} {brP : Nat → Int32} {hzP : Nat → Int32} {fmP : Nat → Int32} {dmP : Nat → Int32} {e1P : Nat → Int32} {e2P : Nat → Int32} {fkP : Nat → Int32} {pnP : Int32} {fnP : Int32} {kdQ : Nat → Int32} {grQ : Nat → Int64} {cvQ : Nat → Int32} {brQ : Nat → Int32} {hzQ : Nat → Int32} {fmQ : Nat → Int32} {dmQ : Nat → Int32} {e1Q : Nat → Int32} {e2Q : Nat → Int32} {fkQ : Nat → Int32} {pnQ : Int32} {fnQ : Int32} {mpM : Nat → Int32} {mkM : Nat → Int32} {mgM : Nat → Int32} {mcM : Nat → Int32} {mwM : Nat → Int32} {mfM : Nat → Int32} {mtM : Nat → Int32} {mhM : Nat → Int32} {mmM : Nat → Int32} {mdM : Nat → Int32} {mxM : Nat → Int32} {mnM : Nat → Int32} {szM : Int32} {faM : Int32} {apM : Int32} {waM : Int32} {wrM : Int32} {fuM : Int32} {ouO : Nat → Int64} (hnt : l.stackTraces = false) (C0 : lw_At p s m meth c b L xs) (hLi : i ≤ 2048) (hK : va_K D vwCl (tyS cs) s) (hE : EV ev (fun q : Nat => s.heap.size ≤ q) s s.heap) (hTV : TV (fun q : Nat => s.heap.size ≤ q) s s.heap) (h : wp_law685 L xs (law_A p l e s m below meth c b D cs) i txR nuR lnR bgR enR lfT foT kdP grP cvP brP hzP fmP dmP e1P e2P fkP pnP fnP kdQ grQ cvQ brQ hzQ fmQ dmQ e1Q e2Q fkQ pnQ fnQ mpM mkM mgM mcM mwM mfM mtM mhM mmM mdM mxM mnM szM faM apM waM wrM fuM ouO) : ∀ (adG adR adT adP adQ adM adO : Nat → Nat) (H : Heap) (locs : List Loc), va_P D vwCl (sh_G cs adG (adR 0) (adT 0) (adP 0) (adQ 0) ++ sh_R cs adR txR nuR lnR bgR enR ++ sh_T cs adT lfT foT ++ sh_P cs adP kdP grP cvP brP hzP fmP dmP e1P e2P fkP pnP fnP ++ sh_P cs adQ kdQ grQ cvQ brQ hzQ fmQ dmQ e1Q e2Q fkQ pnQ fnQ ++ sh_M cs adM mpM mkM mgM mcM mwM mfM mtM mhM mmM mdM mxM mnM szM faM apM waM wrM fuM ++ sh_O cs adO ouO) H → va_D (fun q : Nat => s.heap.size ≤ q) (sh_G cs adG (adR 0) (adT 0) (adP 0) (adQ 0) ++ sh_R cs adR txR nuR lnR bgR enR ++ sh_T cs adT lfT foT ++ sh_P cs adP kdP grP cvP brP hzP fmP dmP e1P e2P fkP pnP fnP ++ sh_P cs adQ kdQ grQ cvQ brQ hzQ fmQ dmQ e1Q e2Q fkQ pnQ fnQ ++ sh_M cs adM mpM mkM mgM mcM mwM mfM mtM mhM mmM mdM mxM mnM szM faM apM waM wrM fuM ++ sh_O cs adO ouO) → va_S (fun q : Nat => s.heap.size ≤ q) s.heap H locs → ∀ ls : Array Slot, lv_has ls 8 [(0, .ref b), (1, .ref (adG 0)), (2, .ref (adM 0)), (3, .ref (adO 0)), (4, .int (nI i))] → W p l e room_1 s m #[Value.ref b] below meth c H locs (100 + i) (20000 + 6 * i) (lw_Z below #[Value.ref b] s) (F0 m 685 ls []) := by
  obtain ⟨hx, hb, hr, hml, hown, hts, hX, hbl, hlocks, hgv⟩ := id C0
  have hts : ∀ w ∈ wsL_law, w.before #[Value.ref b] s = true := fun w h => hts w (wsL_law_in2 w h)
  have hA : ∀ q : Nat, s.heap.size ≤ q → (fun q : Nat => s.heap.size ≤ q) q := fun _ h => h
  have hbA : ¬ (fun q : Nat => s.heap.size ≤ q) b := Nat.not_le.mpr hbl
  have hc0 : 100 + i + 0 ≤ room_1.cells := by show 100 + i + 0 ≤ 601024; omega
  have hs0 : 20000 + 6 * i + 0 ≤ room_1.slots := by show 20000 + 6 * i + 0 ≤ 7293034; omega
  have hc1 : 100 + i + 1 ≤ room_1.cells := by show 100 + i + 1 ≤ 601024; omega
  have hs1 : 20000 + 6 * i + 6 ≤ room_1.slots := by show 20000 + 6 * i + 6 ≤ 7293034; omega
  intro adG adR adT adP adQ adM adO H locs hP hD hS ls hl
  refine lv_aload_n hx hb dL_law_685 rfl (lv_at hl 1 rfl) ?_
  refine lv_aload_n hx hb dL_law_686 rfl (lv_at hl 0 rfl) ?_
  refine lv_iload hx hb dL_law_687 (lv_at hl 4 rfl) ?_
  refine lv_iconst (v := 1) hx hb dL_law_689 (by decide) ?_
  refine lv_iadd hx hb dL_law_690 ?_
  have hin := h.1
  have h := h.2
  refine va_sld hx hb hX hbl hbA hS hin dL_law_691 ?_
  refine lv_aload_n hx hb dL_law_692 rfl (lv_at hl 0 rfl) ?_
  refine lv_iload hx hb dL_law_693 (lv_at hl 4 rfl) ?_
  refine lv_iconst (v := 2) hx hb dL_law_695 (by decide) ?_
  refine lv_iadd hx hb dL_law_696 ?_
  have hin := h.1
  have h := h.2
  refine va_sld hx hb hX hbl hbA hS hin dL_law_697 ?_
  have hFc := va_free (wc := (sh_G cs adG (adR 0) (adT 0) (adP 0) (adQ 0) ++ sh_P cs adP kdP grP cvP brP hzP fmP dmP e1P e2P fkP pnP fnP)) hD hS hA [0, 5, 6, 7, 8, 9, 10, 11, 12, 13, 14, 15] rfl
  refine va_calli (va_runV (As := [.int (xs ((nI i) + 1).toNatClampNeg), .int (xs ((nI i) + 2).toNatClampNeg)]) (rest := []) ⟨hx, hb, hml, hown, hts⟩ (met_X5_hazard l D cs ev _ adG adP (adR 0) (adT 0) (adQ 0) kdP grP cvP brP hzP fmP dmP e1P e2P fkP pnP fnP (xs ((nI i) + 1).toNatClampNeg) (xs ((nI i) + 2).toNatClampNeg) _ h) (cwV 2 hts gL_law_X5_hazard rfl rfl rfl (by decide +kernel) ⟨Nat.le_of_ble_eq_true rfl, Nat.le_of_ble_eq_true rfl⟩) (mPreV (va_recv hK hP (ci := 4) (q0 := 0) rfl rfl) hP hD hS hK hE hFc [0, 5, 6, 7, 8, 9, 10, 11, 12, 13, 14, 15] (by decide) rfl) rfl rfl hl.1 rfl (lv_room (Nat.le_of_ble_eq_true rfl)) dL_law_698 ⟨hc0, hs0⟩) hS (fun q _ h => hFc q h) hFc (fun r_1 u t H1 locs ht hvm hw hB hz1 hk1 hS => ?_)
  obtain ⟨hz_2, rfl⟩ : ∃ z, z = u := ⟨_, rfl⟩
  have h := hw
  obtain ⟨hP1, hK1, hD1⟩ := hB
  rw [ht] at hP1
  obtain ⟨hP, hD⟩ := mJoin (wr := (sh_R cs adR txR nuR lnR bgR enR ++ sh_T cs adT lfT foT ++ sh_P cs adQ kdQ grQ cvQ brQ hzQ fmQ dmQ e1Q e2Q fkQ pnQ fnQ ++ sh_M cs adM mpM mkM mgM mcM mwM mfM mtM mhM mmM mdM mxM mnM szM faM apM waM wrM fuM ++ sh_O cs adO ouO)) (w1 := (sh_G cs adG (adR 0) (adT 0) (adP 0) (adQ 0) ++ sh_P cs adP kdP grP cvP brP hz_2 fmP dmP e1P e2P fkP pnP fnP)) (w' := (sh_G cs adG (adR 0) (adT 0) (adP 0) (adQ 0) ++ sh_R cs adR txR nuR lnR bgR enR ++ sh_T cs adT lfT foT ++ sh_P cs adP kdP grP cvP brP hz_2 fmP dmP e1P e2P fkP pnP fnP ++ sh_P cs adQ kdQ grQ cvQ brQ hzQ fmQ dmQ e1Q e2Q fkQ pnQ fnQ ++ sh_M cs adM mpM mkM mgM mcM mwM mfM mtM mhM mmM mdM mxM mnM szM faM apM waM wrM fuM ++ sh_O cs adO ouO)) hP hD [0, 5, 6, 7, 8, 9, 10, 11, 12, 13, 14, 15] [1, 2, 3, 4, 16, 17, 18, 19, 20, 21, 22, 23, 24, 25, 26, 27, 28, 29, 30, 31, 32, 33, 34, 35, 36, 37, 38, 39, 40] rfl rfl (by decide) (by decide) hk1 hFc hP1 hD1 [29, 0, 1, 2, 3, 30, 31, 32, 33, 34, 35, 36, 37, 38, 39, 40, 4, 5, 6, 7, 8, 9, 10, 11, 12, 13, 14, 15, 16, 17, 18, 19, 20, 21, 22, 23, 24, 25, 26, 27, 28] (by decide) rfl
  generalize H1 = H at hP hS ⊢
  refine lv_aload_n hx hb dL_law_701 rfl (lv_at hl 2 rfl) ?_
  refine lv_aload_n hx hb dL_law_702 rfl (lv_at hl 0 rfl) ?_
  refine lv_iload hx hb dL_law_703 (lv_at hl 4 rfl) ?_
  refine lv_iconst (v := 1) hx hb dL_law_705 (by decide) ?_
  refine lv_iadd hx hb dL_law_706 ?_
  have hin := h.1
  have h := h.2
  refine va_sld hx hb hX hbl hbA hS hin dL_law_707 ?_
  refine lv_aload_n hx hb dL_law_708 rfl (lv_at hl 0 rfl) ?_
  refine lv_iload hx hb dL_law_709 (lv_at hl 4 rfl) ?_
  refine lv_iconst (v := 2) hx hb dL_law_711 (by decide) ?_
  refine lv_iadd hx hb dL_law_712 ?_
  have hin := h.1
  have h := h.2
  refine va_sld hx hb hX hbl hbA hS hin dL_law_713 ?_
  have hFc := va_free (wc := (sh_M cs adM mpM mkM mgM mcM mwM mfM mtM mhM mmM mdM mxM mnM szM faM apM waM wrM fuM)) hD hS hA [27, 28, 29, 30, 31, 32, 33, 34, 35, 36, 37, 38, 39] rfl
  refine va_calli (va_runV (As := [.int (xs ((nI i) + 1).toNatClampNeg), .int (xs ((nI i) + 2).toNatClampNeg)]) (rest := [.int r_1]) ⟨hx, hb, hml, hown, hts⟩ (met_X6_hazard l D cs ev _ adM mpM mkM mgM mcM mwM mfM mtM mhM mmM mdM mxM mnM szM faM apM waM wrM fuM (xs ((nI i) + 1).toNatClampNeg) (xs ((nI i) + 2).toNatClampNeg) _ h) (cwV 2 hts gL_law_X6_hazard rfl rfl rfl (by decide +kernel) ⟨Nat.le_of_ble_eq_true rfl, Nat.le_of_ble_eq_true rfl⟩) (mPreV (va_recv hK hP (ci := 5) (q0 := 27) rfl rfl) hP hD hS hK hE hFc [27, 28, 29, 30, 31, 32, 33, 34, 35, 36, 37, 38, 39] (by decide) rfl) rfl rfl hl.1 rfl (lv_room (Nat.le_of_ble_eq_true rfl)) dL_law_714 ⟨hc0, hs0⟩) hS (fun q _ h => hFc q h) hFc (fun r_3 u t H1 locs ht hvm hw hB hz1 hk1 hS => ?_)
  obtain ⟨mp_4, mk_5, mg_6, mc_7, mw_8, mf_9, mt_10, mh_11, mm_12, md_13, fa_14⟩ := u
  have h := hw
  obtain ⟨hP1, hK1, hD1⟩ := hB
  rw [ht] at hP1
  obtain ⟨hP, hD⟩ := mJoin (wr := (sh_G cs adG (adR 0) (adT 0) (adP 0) (adQ 0) ++ sh_R cs adR txR nuR lnR bgR enR ++ sh_T cs adT lfT foT ++ sh_P cs adP kdP grP cvP brP hz_2 fmP dmP e1P e2P fkP pnP fnP ++ sh_P cs adQ kdQ grQ cvQ brQ hzQ fmQ dmQ e1Q e2Q fkQ pnQ fnQ ++ sh_O cs adO ouO)) (w1 := (sh_M cs adM mp_4 mk_5 mg_6 mc_7 mw_8 mf_9 mt_10 mh_11 mm_12 md_13 mxM mnM szM fa_14 apM waM wrM fuM)) (w' := (sh_G cs adG (adR 0) (adT 0) (adP 0) (adQ 0) ++ sh_R cs adR txR nuR lnR bgR enR ++ sh_T cs adT lfT foT ++ sh_P cs adP kdP grP cvP brP hz_2 fmP dmP e1P e2P fkP pnP fnP ++ sh_P cs adQ kdQ grQ cvQ brQ hzQ fmQ dmQ e1Q e2Q fkQ pnQ fnQ ++ sh_M cs adM mp_4 mk_5 mg_6 mc_7 mw_8 mf_9 mt_10 mh_11 mm_12 md_13 mxM mnM szM fa_14 apM waM wrM fuM ++ sh_O cs adO ouO)) hP hD [27, 28, 29, 30, 31, 32, 33, 34, 35, 36, 37, 38, 39] [0, 1, 2, 3, 4, 5, 6, 7, 8, 9, 10, 11, 12, 13, 14, 15, 16, 17, 18, 19, 20, 21, 22, 23, 24, 25, 26, 40] rfl rfl (by decide) (by decide) hk1 hFc hP1 hD1 [0, 1, 2, 3, 4, 5, 6, 7, 8, 9, 10, 11, 12, 13, 14, 15, 16, 17, 18, 19, 20, 21, 22, 23, 24, 25, 26, 28, 29, 30, 31, 32, 33, 34, 35, 36, 37, 38, 39, 40, 27] (by decide) rfl
  generalize H1 = H at hP hS ⊢
  refine lv_icmp_eq (tgt := 935) hx hb dL_law_717 (by decide) (fun c_15 => ?_) (fun c_15 => ?_)
  · have h := h.1 c_15
    refine lv_iinc (v := (nI i) + 4) (lv' := [(4, .int ((nI i) + 4)), (0, .ref b), (1, .ref (adG 0)), (2, .ref (adM 0)), (3, .ref (adO 0))]) hx hb dL_law_935 hl (k := 4) rfl rfl (by decide) rfl (fun ls hl => ?_)
    refine lv_goto (tgt := 23) hx hb dL_law_938 (by decide) ?_
    have h := h
    refine W.widen (k := 100 + (i + 4)) (n := 20000 + 6 * (i + 4)) (by omega) (by omega) ?_
    have hl := lv_sub (l' := [(0, .ref b), (1, .ref (adG 0)), (2, .ref (adM 0)), (3, .ref (adO 0)), (4, .int ((nI i) + 4))]) hl [1, 2, 3, 4, 0] rfl
    rw [show (nI i) + 4 = nI (i + 4) from nI_add i 4] at hl
    exact h adG adR adT adP adQ adM adO _ _ hP hD hS ls hl
  · have h := h.2 c_15
    refine lv_iconst (v := 0) hx hb dL_law_720 (by decide) ?_
    exact h.elim
def wp_law722 (L : Nat) (xs : Nat → Int32) (A23 : Nat → (Nat → Int32) → (Nat → Int32) → Int32 → Int32 → Int32 → Int32 → Int32 → (Nat → Int32) → (Nat → Int64) → (Nat → Int32) → (Nat → Int32) → (Nat → Int32) → (Nat → Int32) → (Nat → Int32) → (Nat → Int32) → (Nat → Int32) → (Nat → Int32) → Int32 → Int32 → (Nat → Int32) → (Nat → Int64) → (Nat → Int32) → (Nat → Int32) → (Nat → Int32) → (Nat → Int32) → (Nat → Int32) → (Nat → Int32) → (Nat → Int32) → (Nat → Int32) → Int32 → Int32 → (Nat → Int32) → (Nat → Int32) → (Nat → Int32) → (Nat → Int32) → (Nat → Int32) → (Nat → Int32) → (Nat → Int32) → (Nat → Int32) → (Nat → Int32) → (Nat → Int32) → (Nat → Int32) → (Nat → Int32) → Int32 → Int32 → Int32 → Int32 → Int32 → Int32 → (Nat → Int64) → Prop) (i : Nat) (txR : Nat → Int32) (nuR : Nat → Int32) (lnR : Int32) (bgR : Int32) (enR : Int32) (lfT : Int32) (foT : Int32) (kdP : Nat → Int32) (grP : Nat → Int64) (cvP : Nat → Int32) (brP : Nat → Int32) (hzP : Nat → Int32) (fmP : Nat → Int32) (dmP : Nat → Int32) (e1P : Nat → Int32) (e2P : Nat → Int32) (fkP : Nat → Int32) (pnP : Int32) (fnP : Int32) (kdQ : Nat → Int32) (grQ : Nat → Int64) (cvQ : Nat → Int32) (brQ : Nat → Int32) (hzQ : Nat → Int32) (fmQ : Nat → Int32) (dmQ : Nat → Int32) (e1Q : Nat → Int32) (e2Q : Nat → Int32) (fkQ : Nat → Int32) (pnQ : Int32) (fnQ : Int32) (mpM : Nat → Int32) (mkM : Nat → Int32) (mgM : Nat → Int32) (mcM : Nat → Int32) (mwM : Nat → Int32) (mfM : Nat → Int32) (mtM : Nat → Int32) (mhM : Nat → Int32) (mmM : Nat → Int32) (mdM : Nat → Int32) (mxM : Nat → Int32) (mnM : Nat → Int32) (szM : Int32) (faM : Int32) (apM : Int32) (waM : Int32) (wrM : Int32) (fuM : Int32) (ouO : Nat → Int64) : Prop :=
    (vp_in ((nI i) + 1) L ∧ (vp_in ((nI i) + 2) L ∧ wp_X5_damage dmP pnP (xs ((nI i) + 1).toNatClampNeg) (xs ((nI i) + 2).toNatClampNeg) (fun r_1 dm_2 => (vp_in ((nI i) + 1) L ∧ (vp_in ((nI i) + 2) L ∧ wp_X6_damage mpM mcM mwM mfM mhM mmM mdM (xs ((nI i) + 1).toNatClampNeg) (xs ((nI i) + 2).toNatClampNeg) (fun r_3 u => match u with | (md_4, fa_5) => ((r_1 = r_3 → A23 (i + 4) txR nuR lnR bgR enR lfT foT kdP grP cvP brP hzP fmP dm_2 e1P e2P fkP pnP fnP kdQ grQ cvQ brQ hzQ fmQ dmQ e1Q e2Q fkQ pnQ fnQ mpM mkM mgM mcM mwM mfM mtM mhM mmM md_4 mxM mnM szM fa_5 apM waM wrM fuM ouO) ∧ (¬ r_1 = r_3 → False))))))))
set_option maxHeartbeats 4000000 in
set_option maxRecDepth 100000 in
theorem law_c722 {p : Program} {l : Launch} {e : Env} {s : State} {m : MethodId} {below : List Frame} {meth : Method} {c : Code} {b L : Nat} {xs : Nat → Int32} {D : va_G} {cs : Nat → ClassId} {ev : Nat → Nat → Nat} {i : Nat} {txR : Nat → Int32} {nuR : Nat → Int32} {lnR : Int32} {bgR : Int32} {enR : Int32} {lfT : Int32} {foT : Int32} {kdP : Nat → Int32} {grP : Nat → Int64} {cvP : Nat → Int32} {brP : Nat → Int32} {hzP : Nat → Int32} {fmP : Nat → Int32} {dmP : Nat → Int32} {e1P : Nat → Int32} {e2P : Nat → Int32} {fkP : Nat → Int32} {pnP : Int32} {fnP : Int32} {kdQ : Nat → Int32} {grQ : Nat → Int64} {cvQ : Nat → Int32} {brQ : Nat → Int32} {hzQ : Nat → Int32} {fmQ : Nat → Int32} {dmQ : Nat → Int32} {e1Q : Nat → Int32} {e2Q : Nat → Int32} {fkQ : Nat → Int32} {pnQ : Int32} {fnQ : Int32} {mpM : Nat → Int32} {mkM : Nat → Int32} {mgM : Nat → Int32} {mcM : Nat → Int32} {mwM : Nat → Int32} {mfM : Nat → Int32} {mtM : Nat → Int32} {mhM : Nat → Int32} {mmM : Nat → Int32} {mdM : Nat → Int32} {mxM : Nat → Int32} {mnM : Nat → Int32} {szM : Int32} {faM : Int32} {apM : Int32} {waM : Int32} {wrM : Int32} {fuM : Int32} {ouO : Nat → Int64} (hnt : l.stackTraces = false) (C0 : lw_At p s m meth c b L xs) (hLi : i ≤ 2048) (hK : va_K D vwCl (tyS cs) s) (hE : EV ev (fun q : Nat => s.heap.size ≤ q) s s.heap) (hTV : TV (fun q : Nat => s.heap.size ≤ q) s s.heap) (h : wp_law722 L xs (law_A p l e s m below meth c b D cs) i txR nuR lnR bgR enR lfT foT kdP grP cvP brP hzP fmP dmP e1P e2P fkP pnP fnP kdQ grQ cvQ brQ hzQ fmQ dmQ e1Q e2Q fkQ pnQ fnQ mpM mkM mgM mcM mwM mfM mtM mhM mmM mdM mxM mnM szM faM apM waM wrM fuM ouO) : ∀ (adG adR adT adP adQ adM adO : Nat → Nat) (H : Heap) (locs : List Loc), va_P D vwCl (sh_G cs adG (adR 0) (adT 0) (adP 0) (adQ 0) ++ sh_R cs adR txR nuR lnR bgR enR ++ sh_T cs adT lfT foT ++ sh_P cs adP kdP grP cvP brP hzP fmP dmP e1P e2P fkP pnP fnP ++ sh_P cs adQ kdQ grQ cvQ brQ hzQ fmQ dmQ e1Q e2Q fkQ pnQ fnQ ++ sh_M cs adM mpM mkM mgM mcM mwM mfM mtM mhM mmM mdM mxM mnM szM faM apM waM wrM fuM ++ sh_O cs adO ouO) H → va_D (fun q : Nat => s.heap.size ≤ q) (sh_G cs adG (adR 0) (adT 0) (adP 0) (adQ 0) ++ sh_R cs adR txR nuR lnR bgR enR ++ sh_T cs adT lfT foT ++ sh_P cs adP kdP grP cvP brP hzP fmP dmP e1P e2P fkP pnP fnP ++ sh_P cs adQ kdQ grQ cvQ brQ hzQ fmQ dmQ e1Q e2Q fkQ pnQ fnQ ++ sh_M cs adM mpM mkM mgM mcM mwM mfM mtM mhM mmM mdM mxM mnM szM faM apM waM wrM fuM ++ sh_O cs adO ouO) → va_S (fun q : Nat => s.heap.size ≤ q) s.heap H locs → ∀ ls : Array Slot, lv_has ls 8 [(0, .ref b), (1, .ref (adG 0)), (2, .ref (adM 0)), (3, .ref (adO 0)), (4, .int (nI i))] → W p l e room_1 s m #[Value.ref b] below meth c H locs (100 + i) (20000 + 6 * i) (lw_Z below #[Value.ref b] s) (F0 m 722 ls []) := by
  obtain ⟨hx, hb, hr, hml, hown, hts, hX, hbl, hlocks, hgv⟩ := id C0
  have hts : ∀ w ∈ wsL_law, w.before #[Value.ref b] s = true := fun w h => hts w (wsL_law_in2 w h)
  have hA : ∀ q : Nat, s.heap.size ≤ q → (fun q : Nat => s.heap.size ≤ q) q := fun _ h => h
  have hbA : ¬ (fun q : Nat => s.heap.size ≤ q) b := Nat.not_le.mpr hbl
  have hc0 : 100 + i + 0 ≤ room_1.cells := by show 100 + i + 0 ≤ 601024; omega
  have hs0 : 20000 + 6 * i + 0 ≤ room_1.slots := by show 20000 + 6 * i + 0 ≤ 7293034; omega
  have hc1 : 100 + i + 1 ≤ room_1.cells := by show 100 + i + 1 ≤ 601024; omega
  have hs1 : 20000 + 6 * i + 6 ≤ room_1.slots := by show 20000 + 6 * i + 6 ≤ 7293034; omega
  intro adG adR adT adP adQ adM adO H locs hP hD hS ls hl
  refine lv_aload_n hx hb dL_law_722 rfl (lv_at hl 1 rfl) ?_
  refine lv_aload_n hx hb dL_law_723 rfl (lv_at hl 0 rfl) ?_
  refine lv_iload hx hb dL_law_724 (lv_at hl 4 rfl) ?_
  refine lv_iconst (v := 1) hx hb dL_law_726 (by decide) ?_
  refine lv_iadd hx hb dL_law_727 ?_
  have hin := h.1
  have h := h.2
  refine va_sld hx hb hX hbl hbA hS hin dL_law_728 ?_
  refine lv_aload_n hx hb dL_law_729 rfl (lv_at hl 0 rfl) ?_
  refine lv_iload hx hb dL_law_730 (lv_at hl 4 rfl) ?_
  refine lv_iconst (v := 2) hx hb dL_law_732 (by decide) ?_
  refine lv_iadd hx hb dL_law_733 ?_
  have hin := h.1
  have h := h.2
  refine va_sld hx hb hX hbl hbA hS hin dL_law_734 ?_
  have hFc := va_free (wc := (sh_G cs adG (adR 0) (adT 0) (adP 0) (adQ 0) ++ sh_P cs adP kdP grP cvP brP hzP fmP dmP e1P e2P fkP pnP fnP)) hD hS hA [0, 5, 6, 7, 8, 9, 10, 11, 12, 13, 14, 15] rfl
  refine va_calli (va_runV (As := [.int (xs ((nI i) + 1).toNatClampNeg), .int (xs ((nI i) + 2).toNatClampNeg)]) (rest := []) ⟨hx, hb, hml, hown, hts⟩ (met_X5_damage l D cs ev _ adG adP (adR 0) (adT 0) (adQ 0) kdP grP cvP brP hzP fmP dmP e1P e2P fkP pnP fnP (xs ((nI i) + 1).toNatClampNeg) (xs ((nI i) + 2).toNatClampNeg) _ h) (cwV 2 hts gL_law_X5_damage rfl rfl rfl (by decide +kernel) ⟨Nat.le_of_ble_eq_true rfl, Nat.le_of_ble_eq_true rfl⟩) (mPreV (va_recv hK hP (ci := 4) (q0 := 0) rfl rfl) hP hD hS hK hE hFc [0, 5, 6, 7, 8, 9, 10, 11, 12, 13, 14, 15] (by decide) rfl) rfl rfl hl.1 rfl (lv_room (Nat.le_of_ble_eq_true rfl)) dL_law_735 ⟨hc0, hs0⟩) hS (fun q _ h => hFc q h) hFc (fun r_1 u t H1 locs ht hvm hw hB hz1 hk1 hS => ?_)
  obtain ⟨dm_2, rfl⟩ : ∃ z, z = u := ⟨_, rfl⟩
  have h := hw
  obtain ⟨hP1, hK1, hD1⟩ := hB
  rw [ht] at hP1
  obtain ⟨hP, hD⟩ := mJoin (wr := (sh_R cs adR txR nuR lnR bgR enR ++ sh_T cs adT lfT foT ++ sh_P cs adQ kdQ grQ cvQ brQ hzQ fmQ dmQ e1Q e2Q fkQ pnQ fnQ ++ sh_M cs adM mpM mkM mgM mcM mwM mfM mtM mhM mmM mdM mxM mnM szM faM apM waM wrM fuM ++ sh_O cs adO ouO)) (w1 := (sh_G cs adG (adR 0) (adT 0) (adP 0) (adQ 0) ++ sh_P cs adP kdP grP cvP brP hzP fmP dm_2 e1P e2P fkP pnP fnP)) (w' := (sh_G cs adG (adR 0) (adT 0) (adP 0) (adQ 0) ++ sh_R cs adR txR nuR lnR bgR enR ++ sh_T cs adT lfT foT ++ sh_P cs adP kdP grP cvP brP hzP fmP dm_2 e1P e2P fkP pnP fnP ++ sh_P cs adQ kdQ grQ cvQ brQ hzQ fmQ dmQ e1Q e2Q fkQ pnQ fnQ ++ sh_M cs adM mpM mkM mgM mcM mwM mfM mtM mhM mmM mdM mxM mnM szM faM apM waM wrM fuM ++ sh_O cs adO ouO)) hP hD [0, 5, 6, 7, 8, 9, 10, 11, 12, 13, 14, 15] [1, 2, 3, 4, 16, 17, 18, 19, 20, 21, 22, 23, 24, 25, 26, 27, 28, 29, 30, 31, 32, 33, 34, 35, 36, 37, 38, 39, 40] rfl rfl (by decide) (by decide) hk1 hFc hP1 hD1 [29, 0, 1, 2, 3, 30, 31, 32, 33, 34, 35, 36, 37, 38, 39, 40, 4, 5, 6, 7, 8, 9, 10, 11, 12, 13, 14, 15, 16, 17, 18, 19, 20, 21, 22, 23, 24, 25, 26, 27, 28] (by decide) rfl
  generalize H1 = H at hP hS ⊢
  refine lv_aload_n hx hb dL_law_738 rfl (lv_at hl 2 rfl) ?_
  refine lv_aload_n hx hb dL_law_739 rfl (lv_at hl 0 rfl) ?_
  refine lv_iload hx hb dL_law_740 (lv_at hl 4 rfl) ?_
  refine lv_iconst (v := 1) hx hb dL_law_742 (by decide) ?_
  refine lv_iadd hx hb dL_law_743 ?_
  have hin := h.1
  have h := h.2
  refine va_sld hx hb hX hbl hbA hS hin dL_law_744 ?_
  refine lv_aload_n hx hb dL_law_745 rfl (lv_at hl 0 rfl) ?_
  refine lv_iload hx hb dL_law_746 (lv_at hl 4 rfl) ?_
  refine lv_iconst (v := 2) hx hb dL_law_748 (by decide) ?_
  refine lv_iadd hx hb dL_law_749 ?_
  have hin := h.1
  have h := h.2
  refine va_sld hx hb hX hbl hbA hS hin dL_law_750 ?_
  have hFc := va_free (wc := (sh_M cs adM mpM mkM mgM mcM mwM mfM mtM mhM mmM mdM mxM mnM szM faM apM waM wrM fuM)) hD hS hA [27, 28, 29, 30, 31, 32, 33, 34, 35, 36, 37, 38, 39] rfl
  refine va_calli (va_runV (As := [.int (xs ((nI i) + 1).toNatClampNeg), .int (xs ((nI i) + 2).toNatClampNeg)]) (rest := [.int r_1]) ⟨hx, hb, hml, hown, hts⟩ (met_X6_damage l D cs ev _ adM mpM mkM mgM mcM mwM mfM mtM mhM mmM mdM mxM mnM szM faM apM waM wrM fuM (xs ((nI i) + 1).toNatClampNeg) (xs ((nI i) + 2).toNatClampNeg) _ h) (cwV 2 hts gL_law_X6_damage rfl rfl rfl (by decide +kernel) ⟨Nat.le_of_ble_eq_true rfl, Nat.le_of_ble_eq_true rfl⟩) (mPreV (va_recv hK hP (ci := 5) (q0 := 27) rfl rfl) hP hD hS hK hE hFc [27, 28, 29, 30, 31, 32, 33, 34, 35, 36, 37, 38, 39] (by decide) rfl) rfl rfl hl.1 rfl (lv_room (Nat.le_of_ble_eq_true rfl)) dL_law_751 ⟨hc0, hs0⟩) hS (fun q _ h => hFc q h) hFc (fun r_3 u t H1 locs ht hvm hw hB hz1 hk1 hS => ?_)
  obtain ⟨md_4, fa_5⟩ := u
  have h := hw
  obtain ⟨hP1, hK1, hD1⟩ := hB
  rw [ht] at hP1
  obtain ⟨hP, hD⟩ := mJoin (wr := (sh_G cs adG (adR 0) (adT 0) (adP 0) (adQ 0) ++ sh_R cs adR txR nuR lnR bgR enR ++ sh_T cs adT lfT foT ++ sh_P cs adP kdP grP cvP brP hzP fmP dm_2 e1P e2P fkP pnP fnP ++ sh_P cs adQ kdQ grQ cvQ brQ hzQ fmQ dmQ e1Q e2Q fkQ pnQ fnQ ++ sh_O cs adO ouO)) (w1 := (sh_M cs adM mpM mkM mgM mcM mwM mfM mtM mhM mmM md_4 mxM mnM szM fa_5 apM waM wrM fuM)) (w' := (sh_G cs adG (adR 0) (adT 0) (adP 0) (adQ 0) ++ sh_R cs adR txR nuR lnR bgR enR ++ sh_T cs adT lfT foT ++ sh_P cs adP kdP grP cvP brP hzP fmP dm_2 e1P e2P fkP pnP fnP ++ sh_P cs adQ kdQ grQ cvQ brQ hzQ fmQ dmQ e1Q e2Q fkQ pnQ fnQ ++ sh_M cs adM mpM mkM mgM mcM mwM mfM mtM mhM mmM md_4 mxM mnM szM fa_5 apM waM wrM fuM ++ sh_O cs adO ouO)) hP hD [27, 28, 29, 30, 31, 32, 33, 34, 35, 36, 37, 38, 39] [0, 1, 2, 3, 4, 5, 6, 7, 8, 9, 10, 11, 12, 13, 14, 15, 16, 17, 18, 19, 20, 21, 22, 23, 24, 25, 26, 40] rfl rfl (by decide) (by decide) hk1 hFc hP1 hD1 [0, 1, 2, 3, 4, 5, 6, 7, 8, 9, 10, 11, 12, 13, 14, 15, 16, 17, 18, 19, 20, 21, 22, 23, 24, 25, 26, 28, 29, 30, 31, 32, 33, 34, 35, 36, 37, 38, 39, 40, 27] (by decide) rfl
  generalize H1 = H at hP hS ⊢
  refine lv_icmp_eq (tgt := 935) hx hb dL_law_754 (by decide) (fun c_6 => ?_) (fun c_6 => ?_)
  · have h := h.1 c_6
    refine lv_iinc (v := (nI i) + 4) (lv' := [(4, .int ((nI i) + 4)), (0, .ref b), (1, .ref (adG 0)), (2, .ref (adM 0)), (3, .ref (adO 0))]) hx hb dL_law_935 hl (k := 4) rfl rfl (by decide) rfl (fun ls hl => ?_)
    refine lv_goto (tgt := 23) hx hb dL_law_938 (by decide) ?_
    have h := h
    refine W.widen (k := 100 + (i + 4)) (n := 20000 + 6 * (i + 4)) (by omega) (by omega) ?_
    have hl := lv_sub (l' := [(0, .ref b), (1, .ref (adG 0)), (2, .ref (adM 0)), (3, .ref (adO 0)), (4, .int ((nI i) + 4))]) hl [1, 2, 3, 4, 0] rfl
    rw [show (nI i) + 4 = nI (i + 4) from nI_add i 4] at hl
    exact h adG adR adT adP adQ adM adO _ _ hP hD hS ls hl
  · have h := h.2 c_6
    refine lv_iconst (v := 0) hx hb dL_law_757 (by decide) ?_
    exact h.elim
def wp_law759 (L : Nat) (xs : Nat → Int32) (A23 : Nat → (Nat → Int32) → (Nat → Int32) → Int32 → Int32 → Int32 → Int32 → Int32 → (Nat → Int32) → (Nat → Int64) → (Nat → Int32) → (Nat → Int32) → (Nat → Int32) → (Nat → Int32) → (Nat → Int32) → (Nat → Int32) → (Nat → Int32) → (Nat → Int32) → Int32 → Int32 → (Nat → Int32) → (Nat → Int64) → (Nat → Int32) → (Nat → Int32) → (Nat → Int32) → (Nat → Int32) → (Nat → Int32) → (Nat → Int32) → (Nat → Int32) → (Nat → Int32) → Int32 → Int32 → (Nat → Int32) → (Nat → Int32) → (Nat → Int32) → (Nat → Int32) → (Nat → Int32) → (Nat → Int32) → (Nat → Int32) → (Nat → Int32) → (Nat → Int32) → (Nat → Int32) → (Nat → Int32) → (Nat → Int32) → Int32 → Int32 → Int32 → Int32 → Int32 → Int32 → (Nat → Int64) → Prop) (i : Nat) (txR : Nat → Int32) (nuR : Nat → Int32) (lnR : Int32) (bgR : Int32) (enR : Int32) (lfT : Int32) (foT : Int32) (kdP : Nat → Int32) (grP : Nat → Int64) (cvP : Nat → Int32) (brP : Nat → Int32) (hzP : Nat → Int32) (fmP : Nat → Int32) (dmP : Nat → Int32) (e1P : Nat → Int32) (e2P : Nat → Int32) (fkP : Nat → Int32) (pnP : Int32) (fnP : Int32) (kdQ : Nat → Int32) (grQ : Nat → Int64) (cvQ : Nat → Int32) (brQ : Nat → Int32) (hzQ : Nat → Int32) (fmQ : Nat → Int32) (dmQ : Nat → Int32) (e1Q : Nat → Int32) (e2Q : Nat → Int32) (fkQ : Nat → Int32) (pnQ : Int32) (fnQ : Int32) (mpM : Nat → Int32) (mkM : Nat → Int32) (mgM : Nat → Int32) (mcM : Nat → Int32) (mwM : Nat → Int32) (mfM : Nat → Int32) (mtM : Nat → Int32) (mhM : Nat → Int32) (mmM : Nat → Int32) (mdM : Nat → Int32) (mxM : Nat → Int32) (mnM : Nat → Int32) (szM : Int32) (faM : Int32) (apM : Int32) (waM : Int32) (wrM : Int32) (fuM : Int32) (ouO : Nat → Int64) : Prop :=
    (vp_in ((nI i) + 1) L ∧ (vp_in ((nI i) + 2) L ∧ (vp_in ((nI i) + 3) L ∧ wp_X5_free cvP brP pnP (xs ((nI i) + 1).toNatClampNeg) ((((xs ((nI i) + 2).toNatClampNeg).toInt64) <<< ((32 : Int32).toInt64 &&& 63)) ||| (((xs ((nI i) + 3).toNatClampNeg).toInt64) &&& 4294967295)) (fun r_1 _ => (vp_in ((nI i) + 1) L ∧ (vp_in ((nI i) + 2) L ∧ (vp_in ((nI i) + 3) L ∧ wp_X6_free mpM mcM mwM (xs ((nI i) + 1).toNatClampNeg) ((((xs ((nI i) + 2).toNatClampNeg).toInt64) <<< ((32 : Int32).toInt64 &&& 63)) ||| (((xs ((nI i) + 3).toNatClampNeg).toInt64) &&& 4294967295)) (fun r_2 fa_3 => ((r_1 = r_2 → A23 (i + 4) txR nuR lnR bgR enR lfT foT kdP grP cvP brP hzP fmP dmP e1P e2P fkP pnP fnP kdQ grQ cvQ brQ hzQ fmQ dmQ e1Q e2Q fkQ pnQ fnQ mpM mkM mgM mcM mwM mfM mtM mhM mmM mdM mxM mnM szM fa_3 apM waM wrM fuM ouO) ∧ (¬ r_1 = r_2 → False))))))))))
set_option maxHeartbeats 4000000 in
set_option maxRecDepth 100000 in
theorem law_c759 {p : Program} {l : Launch} {e : Env} {s : State} {m : MethodId} {below : List Frame} {meth : Method} {c : Code} {b L : Nat} {xs : Nat → Int32} {D : va_G} {cs : Nat → ClassId} {ev : Nat → Nat → Nat} {i : Nat} {txR : Nat → Int32} {nuR : Nat → Int32} {lnR : Int32} {bgR : Int32} {enR : Int32} {lfT : Int32} {foT : Int32} {kdP : Nat → Int32} {grP : Nat → Int64} {cvP : Nat → Int32} {brP : Nat → Int32} {hzP : Nat → Int32} {fmP : Nat → Int32} {dmP : Nat → Int32} {e1P : Nat → Int32} {e2P : Nat → Int32} {fkP : Nat → Int32} {pnP : Int32} {fnP : Int32} {kdQ : Nat → Int32} {grQ : Nat → Int64} {cvQ : Nat → Int32} {brQ : Nat → Int32} {hzQ : Nat → Int32} {fmQ : Nat → Int32} {dmQ : Nat → Int32} {e1Q : Nat → Int32} {e2Q : Nat → Int32} {fkQ : Nat → Int32} {pnQ : Int32} {fnQ : Int32} {mpM : Nat → Int32} {mkM : Nat → Int32} {mgM : Nat → Int32} {mcM : Nat → Int32} {mwM : Nat → Int32} {mfM : Nat → Int32} {mtM : Nat → Int32} {mhM : Nat → Int32} {mmM : Nat → Int32} {mdM : Nat → Int32} {mxM : Nat → Int32} {mnM : Nat → Int32} {szM : Int32} {faM : Int32} {apM : Int32} {waM : Int32} {wrM : Int32} {fuM : Int32} {ouO : Nat → Int64} (hnt : l.stackTraces = false) (C0 : lw_At p s m meth c b L xs) (hLi : i ≤ 2048) (hK : va_K D vwCl (tyS cs) s) (hE : EV ev (fun q : Nat => s.heap.size ≤ q) s s.heap) (hTV : TV (fun q : Nat => s.heap.size ≤ q) s s.heap) (h : wp_law759 L xs (law_A p l e s m below meth c b D cs) i txR nuR lnR bgR enR lfT foT kdP grP cvP brP hzP fmP dmP e1P e2P fkP pnP fnP kdQ grQ cvQ brQ hzQ fmQ dmQ e1Q e2Q fkQ pnQ fnQ mpM mkM mgM mcM mwM mfM mtM mhM mmM mdM mxM mnM szM faM apM waM wrM fuM ouO) : ∀ (adG adR adT adP adQ adM adO : Nat → Nat) (H : Heap) (locs : List Loc), va_P D vwCl (sh_G cs adG (adR 0) (adT 0) (adP 0) (adQ 0) ++ sh_R cs adR txR nuR lnR bgR enR ++ sh_T cs adT lfT foT ++ sh_P cs adP kdP grP cvP brP hzP fmP dmP e1P e2P fkP pnP fnP ++ sh_P cs adQ kdQ grQ cvQ brQ hzQ fmQ dmQ e1Q e2Q fkQ pnQ fnQ ++ sh_M cs adM mpM mkM mgM mcM mwM mfM mtM mhM mmM mdM mxM mnM szM faM apM waM wrM fuM ++ sh_O cs adO ouO) H → va_D (fun q : Nat => s.heap.size ≤ q) (sh_G cs adG (adR 0) (adT 0) (adP 0) (adQ 0) ++ sh_R cs adR txR nuR lnR bgR enR ++ sh_T cs adT lfT foT ++ sh_P cs adP kdP grP cvP brP hzP fmP dmP e1P e2P fkP pnP fnP ++ sh_P cs adQ kdQ grQ cvQ brQ hzQ fmQ dmQ e1Q e2Q fkQ pnQ fnQ ++ sh_M cs adM mpM mkM mgM mcM mwM mfM mtM mhM mmM mdM mxM mnM szM faM apM waM wrM fuM ++ sh_O cs adO ouO) → va_S (fun q : Nat => s.heap.size ≤ q) s.heap H locs → ∀ ls : Array Slot, lv_has ls 8 [(0, .ref b), (1, .ref (adG 0)), (2, .ref (adM 0)), (3, .ref (adO 0)), (4, .int (nI i))] → W p l e room_1 s m #[Value.ref b] below meth c H locs (100 + i) (20000 + 6 * i) (lw_Z below #[Value.ref b] s) (F0 m 759 ls []) := by
  obtain ⟨hx, hb, hr, hml, hown, hts, hX, hbl, hlocks, hgv⟩ := id C0
  have hts : ∀ w ∈ wsL_law, w.before #[Value.ref b] s = true := fun w h => hts w (wsL_law_in2 w h)
  have hA : ∀ q : Nat, s.heap.size ≤ q → (fun q : Nat => s.heap.size ≤ q) q := fun _ h => h
  have hbA : ¬ (fun q : Nat => s.heap.size ≤ q) b := Nat.not_le.mpr hbl
  have hc0 : 100 + i + 0 ≤ room_1.cells := by show 100 + i + 0 ≤ 601024; omega
  have hs0 : 20000 + 6 * i + 0 ≤ room_1.slots := by show 20000 + 6 * i + 0 ≤ 7293034; omega
  have hc1 : 100 + i + 1 ≤ room_1.cells := by show 100 + i + 1 ≤ 601024; omega
  have hs1 : 20000 + 6 * i + 6 ≤ room_1.slots := by show 20000 + 6 * i + 6 ≤ 7293034; omega
  intro adG adR adT adP adQ adM adO H locs hP hD hS ls hl
  refine lv_aload_n hx hb dL_law_759 rfl (lv_at hl 1 rfl) ?_
  refine lv_aload_n hx hb dL_law_760 rfl (lv_at hl 0 rfl) ?_
  refine lv_iload hx hb dL_law_761 (lv_at hl 4 rfl) ?_
  refine lv_iconst (v := 1) hx hb dL_law_763 (by decide) ?_
  refine lv_iadd hx hb dL_law_764 ?_
  have hin := h.1
  have h := h.2
  refine va_sld hx hb hX hbl hbA hS hin dL_law_765 ?_
  refine lv_aload_n hx hb dL_law_766 rfl (lv_at hl 0 rfl) ?_
  refine lv_iload hx hb dL_law_767 (lv_at hl 4 rfl) ?_
  refine lv_iconst (v := 2) hx hb dL_law_769 (by decide) ?_
  refine lv_iadd hx hb dL_law_770 ?_
  have hin := h.1
  have h := h.2
  refine va_sld hx hb hX hbl hbA hS hin dL_law_771 ?_
  refine lv_i2l hx hb dL_law_772 rfl ?_
  refine lv_bipush (v := 32) hx hb dL_law_773 (by decide) ?_
  refine lv_lshl hx hb dL_law_775 rfl ?_
  refine lv_aload_n hx hb dL_law_776 rfl (lv_at hl 0 rfl) ?_
  refine lv_iload hx hb dL_law_777 (lv_at hl 4 rfl) ?_
  refine lv_iconst (v := 3) hx hb dL_law_779 (by decide) ?_
  refine lv_iadd hx hb dL_law_780 ?_
  have hin := h.1
  have h := h.2
  refine va_sld hx hb hX hbl hbA hS hin dL_law_781 ?_
  refine lv_i2l hx hb dL_law_782 rfl ?_
  refine lv_ldc2 (v := 4294967295) hx hb hown (hts (.constantLong RL 33 4294967295) (by decide +kernel)) dL_law_783 ?_
  refine lv_land hx hb dL_law_786 ?_
  refine lv_lor hx hb dL_law_787 ?_
  have hFc := va_free (wc := (sh_G cs adG (adR 0) (adT 0) (adP 0) (adQ 0) ++ sh_P cs adP kdP grP cvP brP hzP fmP dmP e1P e2P fkP pnP fnP)) hD hS hA [0, 5, 6, 7, 8, 9, 10, 11, 12, 13, 14, 15] rfl
  refine va_calli (va_runV (As := [.int (xs ((nI i) + 1).toNatClampNeg), .long ((((xs ((nI i) + 2).toNatClampNeg).toInt64) <<< ((32 : Int32).toInt64 &&& 63)) ||| (((xs ((nI i) + 3).toNatClampNeg).toInt64) &&& 4294967295))]) (rest := []) ⟨hx, hb, hml, hown, hts⟩ (met_X5_free l D cs ev _ adG adP (adR 0) (adT 0) (adQ 0) kdP grP cvP brP hzP fmP dmP e1P e2P fkP pnP fnP (xs ((nI i) + 1).toNatClampNeg) ((((xs ((nI i) + 2).toNatClampNeg).toInt64) <<< ((32 : Int32).toInt64 &&& 63)) ||| (((xs ((nI i) + 3).toNatClampNeg).toInt64) &&& 4294967295)) _ h) (cwV 2 hts gL_law_X5_free rfl rfl rfl (by decide +kernel) ⟨Nat.le_of_ble_eq_true rfl, Nat.le_of_ble_eq_true rfl⟩) (mPreV (va_recv hK hP (ci := 4) (q0 := 0) rfl rfl) hP hD hS hK hE hFc [0, 5, 6, 7, 8, 9, 10, 11, 12, 13, 14, 15] (by decide) rfl) rfl rfl hl.1 rfl (lv_room (Nat.le_of_ble_eq_true rfl)) dL_law_788 ⟨hc0, hs0⟩) hS (fun q _ h => hFc q h) hFc (fun r_1 u t H1 locs ht hvm hw hB hz1 hk1 hS => ?_)
  have h := hw
  obtain ⟨hP1, hK1, hD1⟩ := hB
  rw [ht] at hP1
  obtain ⟨hP, hD⟩ := mJoin (wr := (sh_R cs adR txR nuR lnR bgR enR ++ sh_T cs adT lfT foT ++ sh_P cs adQ kdQ grQ cvQ brQ hzQ fmQ dmQ e1Q e2Q fkQ pnQ fnQ ++ sh_M cs adM mpM mkM mgM mcM mwM mfM mtM mhM mmM mdM mxM mnM szM faM apM waM wrM fuM ++ sh_O cs adO ouO)) (w1 := (sh_G cs adG (adR 0) (adT 0) (adP 0) (adQ 0) ++ sh_P cs adP kdP grP cvP brP hzP fmP dmP e1P e2P fkP pnP fnP)) (w' := (sh_G cs adG (adR 0) (adT 0) (adP 0) (adQ 0) ++ sh_R cs adR txR nuR lnR bgR enR ++ sh_T cs adT lfT foT ++ sh_P cs adP kdP grP cvP brP hzP fmP dmP e1P e2P fkP pnP fnP ++ sh_P cs adQ kdQ grQ cvQ brQ hzQ fmQ dmQ e1Q e2Q fkQ pnQ fnQ ++ sh_M cs adM mpM mkM mgM mcM mwM mfM mtM mhM mmM mdM mxM mnM szM faM apM waM wrM fuM ++ sh_O cs adO ouO)) hP hD [0, 5, 6, 7, 8, 9, 10, 11, 12, 13, 14, 15] [1, 2, 3, 4, 16, 17, 18, 19, 20, 21, 22, 23, 24, 25, 26, 27, 28, 29, 30, 31, 32, 33, 34, 35, 36, 37, 38, 39, 40] rfl rfl (by decide) (by decide) hk1 hFc hP1 hD1 [29, 0, 1, 2, 3, 30, 31, 32, 33, 34, 35, 36, 37, 38, 39, 40, 4, 5, 6, 7, 8, 9, 10, 11, 12, 13, 14, 15, 16, 17, 18, 19, 20, 21, 22, 23, 24, 25, 26, 27, 28] (by decide) rfl
  generalize H1 = H at hP hS ⊢
  refine lv_aload_n hx hb dL_law_791 rfl (lv_at hl 2 rfl) ?_
  refine lv_aload_n hx hb dL_law_792 rfl (lv_at hl 0 rfl) ?_
  refine lv_iload hx hb dL_law_793 (lv_at hl 4 rfl) ?_
  refine lv_iconst (v := 1) hx hb dL_law_795 (by decide) ?_
  refine lv_iadd hx hb dL_law_796 ?_
  have hin := h.1
  have h := h.2
  refine va_sld hx hb hX hbl hbA hS hin dL_law_797 ?_
  refine lv_aload_n hx hb dL_law_798 rfl (lv_at hl 0 rfl) ?_
  refine lv_iload hx hb dL_law_799 (lv_at hl 4 rfl) ?_
  refine lv_iconst (v := 2) hx hb dL_law_801 (by decide) ?_
  refine lv_iadd hx hb dL_law_802 ?_
  have hin := h.1
  have h := h.2
  refine va_sld hx hb hX hbl hbA hS hin dL_law_803 ?_
  refine lv_i2l hx hb dL_law_804 rfl ?_
  refine lv_bipush (v := 32) hx hb dL_law_805 (by decide) ?_
  refine lv_lshl hx hb dL_law_807 rfl ?_
  refine lv_aload_n hx hb dL_law_808 rfl (lv_at hl 0 rfl) ?_
  refine lv_iload hx hb dL_law_809 (lv_at hl 4 rfl) ?_
  refine lv_iconst (v := 3) hx hb dL_law_811 (by decide) ?_
  refine lv_iadd hx hb dL_law_812 ?_
  have hin := h.1
  have h := h.2
  refine va_sld hx hb hX hbl hbA hS hin dL_law_813 ?_
  refine lv_i2l hx hb dL_law_814 rfl ?_
  refine lv_ldc2 (v := 4294967295) hx hb hown (hts (.constantLong RL 33 4294967295) (by decide +kernel)) dL_law_815 ?_
  refine lv_land hx hb dL_law_818 ?_
  refine lv_lor hx hb dL_law_819 ?_
  have hFc := va_free (wc := (sh_M cs adM mpM mkM mgM mcM mwM mfM mtM mhM mmM mdM mxM mnM szM faM apM waM wrM fuM)) hD hS hA [27, 28, 29, 30, 31, 32, 33, 34, 35, 36, 37, 38, 39] rfl
  refine va_calli (va_runV (As := [.int (xs ((nI i) + 1).toNatClampNeg), .long ((((xs ((nI i) + 2).toNatClampNeg).toInt64) <<< ((32 : Int32).toInt64 &&& 63)) ||| (((xs ((nI i) + 3).toNatClampNeg).toInt64) &&& 4294967295))]) (rest := [.int r_1]) ⟨hx, hb, hml, hown, hts⟩ (met_X6_free l D cs ev _ adM mpM mkM mgM mcM mwM mfM mtM mhM mmM mdM mxM mnM szM faM apM waM wrM fuM (xs ((nI i) + 1).toNatClampNeg) ((((xs ((nI i) + 2).toNatClampNeg).toInt64) <<< ((32 : Int32).toInt64 &&& 63)) ||| (((xs ((nI i) + 3).toNatClampNeg).toInt64) &&& 4294967295)) _ h) (cwV 2 hts gL_law_X6_free rfl rfl rfl (by decide +kernel) ⟨Nat.le_of_ble_eq_true rfl, Nat.le_of_ble_eq_true rfl⟩) (mPreV (va_recv hK hP (ci := 5) (q0 := 27) rfl rfl) hP hD hS hK hE hFc [27, 28, 29, 30, 31, 32, 33, 34, 35, 36, 37, 38, 39] (by decide) rfl) rfl rfl hl.1 rfl (lv_room (Nat.le_of_ble_eq_true rfl)) dL_law_820 ⟨hc0, hs0⟩) hS (fun q _ h => hFc q h) hFc (fun r_2 u t H1 locs ht hvm hw hB hz1 hk1 hS => ?_)
  obtain ⟨fa_3, rfl⟩ : ∃ z, z = u := ⟨_, rfl⟩
  have h := hw
  obtain ⟨hP1, hK1, hD1⟩ := hB
  rw [ht] at hP1
  obtain ⟨hP, hD⟩ := mJoin (wr := (sh_G cs adG (adR 0) (adT 0) (adP 0) (adQ 0) ++ sh_R cs adR txR nuR lnR bgR enR ++ sh_T cs adT lfT foT ++ sh_P cs adP kdP grP cvP brP hzP fmP dmP e1P e2P fkP pnP fnP ++ sh_P cs adQ kdQ grQ cvQ brQ hzQ fmQ dmQ e1Q e2Q fkQ pnQ fnQ ++ sh_O cs adO ouO)) (w1 := (sh_M cs adM mpM mkM mgM mcM mwM mfM mtM mhM mmM mdM mxM mnM szM fa_3 apM waM wrM fuM)) (w' := (sh_G cs adG (adR 0) (adT 0) (adP 0) (adQ 0) ++ sh_R cs adR txR nuR lnR bgR enR ++ sh_T cs adT lfT foT ++ sh_P cs adP kdP grP cvP brP hzP fmP dmP e1P e2P fkP pnP fnP ++ sh_P cs adQ kdQ grQ cvQ brQ hzQ fmQ dmQ e1Q e2Q fkQ pnQ fnQ ++ sh_M cs adM mpM mkM mgM mcM mwM mfM mtM mhM mmM mdM mxM mnM szM fa_3 apM waM wrM fuM ++ sh_O cs adO ouO)) hP hD [27, 28, 29, 30, 31, 32, 33, 34, 35, 36, 37, 38, 39] [0, 1, 2, 3, 4, 5, 6, 7, 8, 9, 10, 11, 12, 13, 14, 15, 16, 17, 18, 19, 20, 21, 22, 23, 24, 25, 26, 40] rfl rfl (by decide) (by decide) hk1 hFc hP1 hD1 [0, 1, 2, 3, 4, 5, 6, 7, 8, 9, 10, 11, 12, 13, 14, 15, 16, 17, 18, 19, 20, 21, 22, 23, 24, 25, 26, 28, 29, 30, 31, 32, 33, 34, 35, 36, 37, 38, 39, 40, 27] (by decide) rfl
  generalize H1 = H at hP hS ⊢
  refine lv_icmp_eq (tgt := 935) hx hb dL_law_823 (by decide) (fun c_4 => ?_) (fun c_4 => ?_)
  · have h := h.1 c_4
    refine lv_iinc (v := (nI i) + 4) (lv' := [(4, .int ((nI i) + 4)), (0, .ref b), (1, .ref (adG 0)), (2, .ref (adM 0)), (3, .ref (adO 0))]) hx hb dL_law_935 hl (k := 4) rfl rfl (by decide) rfl (fun ls hl => ?_)
    refine lv_goto (tgt := 23) hx hb dL_law_938 (by decide) ?_
    have h := h
    refine W.widen (k := 100 + (i + 4)) (n := 20000 + 6 * (i + 4)) (by omega) (by omega) ?_
    have hl := lv_sub (l' := [(0, .ref b), (1, .ref (adG 0)), (2, .ref (adM 0)), (3, .ref (adO 0)), (4, .int ((nI i) + 4))]) hl [1, 2, 3, 4, 0] rfl
    rw [show (nI i) + 4 = nI (i + 4) from nI_add i 4] at hl
    exact h adG adR adT adP adQ adM adO _ _ hP hD hS ls hl
  · have h := h.2 c_4
    refine lv_iconst (v := 0) hx hb dL_law_826 (by decide) ?_
    exact h.elim
def wp_law828 (L : Nat) (xs : Nat → Int32) (A23 : Nat → (Nat → Int32) → (Nat → Int32) → Int32 → Int32 → Int32 → Int32 → Int32 → (Nat → Int32) → (Nat → Int64) → (Nat → Int32) → (Nat → Int32) → (Nat → Int32) → (Nat → Int32) → (Nat → Int32) → (Nat → Int32) → (Nat → Int32) → (Nat → Int32) → Int32 → Int32 → (Nat → Int32) → (Nat → Int64) → (Nat → Int32) → (Nat → Int32) → (Nat → Int32) → (Nat → Int32) → (Nat → Int32) → (Nat → Int32) → (Nat → Int32) → (Nat → Int32) → Int32 → Int32 → (Nat → Int32) → (Nat → Int32) → (Nat → Int32) → (Nat → Int32) → (Nat → Int32) → (Nat → Int32) → (Nat → Int32) → (Nat → Int32) → (Nat → Int32) → (Nat → Int32) → (Nat → Int32) → (Nat → Int32) → Int32 → Int32 → Int32 → Int32 → Int32 → Int32 → (Nat → Int64) → Prop) (i : Nat) (txR : Nat → Int32) (nuR : Nat → Int32) (lnR : Int32) (bgR : Int32) (enR : Int32) (lfT : Int32) (foT : Int32) (kdP : Nat → Int32) (grP : Nat → Int64) (cvP : Nat → Int32) (brP : Nat → Int32) (hzP : Nat → Int32) (fmP : Nat → Int32) (dmP : Nat → Int32) (e1P : Nat → Int32) (e2P : Nat → Int32) (fkP : Nat → Int32) (pnP : Int32) (fnP : Int32) (kdQ : Nat → Int32) (grQ : Nat → Int64) (cvQ : Nat → Int32) (brQ : Nat → Int32) (hzQ : Nat → Int32) (fmQ : Nat → Int32) (dmQ : Nat → Int32) (e1Q : Nat → Int32) (e2Q : Nat → Int32) (fkQ : Nat → Int32) (pnQ : Int32) (fnQ : Int32) (mpM : Nat → Int32) (mkM : Nat → Int32) (mgM : Nat → Int32) (mcM : Nat → Int32) (mwM : Nat → Int32) (mfM : Nat → Int32) (mtM : Nat → Int32) (mhM : Nat → Int32) (mmM : Nat → Int32) (mdM : Nat → Int32) (mxM : Nat → Int32) (mnM : Nat → Int32) (szM : Int32) (faM : Int32) (apM : Int32) (waM : Int32) (wrM : Int32) (fuM : Int32) (ouO : Nat → Int64) : Prop :=
    (vp_in ((nI i) + 1) L ∧ (vp_in ((nI i) + 2) L ∧ (vp_in ((nI i) + 3) L ∧ wp_X5_plain cvP pnP (xs ((nI i) + 1).toNatClampNeg) ((((xs ((nI i) + 2).toNatClampNeg).toInt64) <<< ((32 : Int32).toInt64 &&& 63)) ||| (((xs ((nI i) + 3).toNatClampNeg).toInt64) &&& 4294967295)) (fun r_1 _ => (vp_in ((nI i) + 1) L ∧ (vp_in ((nI i) + 2) L ∧ (vp_in ((nI i) + 3) L ∧ wp_X6_plain mpM mcM (xs ((nI i) + 1).toNatClampNeg) ((((xs ((nI i) + 2).toNatClampNeg).toInt64) <<< ((32 : Int32).toInt64 &&& 63)) ||| (((xs ((nI i) + 3).toNatClampNeg).toInt64) &&& 4294967295)) (fun r_2 fa_3 => ((r_1 = r_2 → A23 (i + 4) txR nuR lnR bgR enR lfT foT kdP grP cvP brP hzP fmP dmP e1P e2P fkP pnP fnP kdQ grQ cvQ brQ hzQ fmQ dmQ e1Q e2Q fkQ pnQ fnQ mpM mkM mgM mcM mwM mfM mtM mhM mmM mdM mxM mnM szM fa_3 apM waM wrM fuM ouO) ∧ (¬ r_1 = r_2 → False))))))))))
set_option maxHeartbeats 4000000 in
set_option maxRecDepth 100000 in
theorem law_c828 {p : Program} {l : Launch} {e : Env} {s : State} {m : MethodId} {below : List Frame} {meth : Method} {c : Code} {b L : Nat} {xs : Nat → Int32} {D : va_G} {cs : Nat → ClassId} {ev : Nat → Nat → Nat} {i : Nat} {txR : Nat → Int32} {nuR : Nat → Int32} {lnR : Int32} {bgR : Int32} {enR : Int32} {lfT : Int32} {foT : Int32} {kdP : Nat → Int32} {grP : Nat → Int64} {cvP : Nat → Int32} {brP : Nat → Int32} {hzP : Nat → Int32} {fmP : Nat → Int32} {dmP : Nat → Int32} {e1P : Nat → Int32} {e2P : Nat → Int32} {fkP : Nat → Int32} {pnP : Int32} {fnP : Int32} {kdQ : Nat → Int32} {grQ : Nat → Int64} {cvQ : Nat → Int32} {brQ : Nat → Int32} {hzQ : Nat → Int32} {fmQ : Nat → Int32} {dmQ : Nat → Int32} {e1Q : Nat → Int32} {e2Q : Nat → Int32} {fkQ : Nat → Int32} {pnQ : Int32} {fnQ : Int32} {mpM : Nat → Int32} {mkM : Nat → Int32} {mgM : Nat → Int32} {mcM : Nat → Int32} {mwM : Nat → Int32} {mfM : Nat → Int32} {mtM : Nat → Int32} {mhM : Nat → Int32} {mmM : Nat → Int32} {mdM : Nat → Int32} {mxM : Nat → Int32} {mnM : Nat → Int32} {szM : Int32} {faM : Int32} {apM : Int32} {waM : Int32} {wrM : Int32} {fuM : Int32} {ouO : Nat → Int64} (hnt : l.stackTraces = false) (C0 : lw_At p s m meth c b L xs) (hLi : i ≤ 2048) (hK : va_K D vwCl (tyS cs) s) (hE : EV ev (fun q : Nat => s.heap.size ≤ q) s s.heap) (hTV : TV (fun q : Nat => s.heap.size ≤ q) s s.heap) (h : wp_law828 L xs (law_A p l e s m below meth c b D cs) i txR nuR lnR bgR enR lfT foT kdP grP cvP brP hzP fmP dmP e1P e2P fkP pnP fnP kdQ grQ cvQ brQ hzQ fmQ dmQ e1Q e2Q fkQ pnQ fnQ mpM mkM mgM mcM mwM mfM mtM mhM mmM mdM mxM mnM szM faM apM waM wrM fuM ouO) : ∀ (adG adR adT adP adQ adM adO : Nat → Nat) (H : Heap) (locs : List Loc), va_P D vwCl (sh_G cs adG (adR 0) (adT 0) (adP 0) (adQ 0) ++ sh_R cs adR txR nuR lnR bgR enR ++ sh_T cs adT lfT foT ++ sh_P cs adP kdP grP cvP brP hzP fmP dmP e1P e2P fkP pnP fnP ++ sh_P cs adQ kdQ grQ cvQ brQ hzQ fmQ dmQ e1Q e2Q fkQ pnQ fnQ ++ sh_M cs adM mpM mkM mgM mcM mwM mfM mtM mhM mmM mdM mxM mnM szM faM apM waM wrM fuM ++ sh_O cs adO ouO) H → va_D (fun q : Nat => s.heap.size ≤ q) (sh_G cs adG (adR 0) (adT 0) (adP 0) (adQ 0) ++ sh_R cs adR txR nuR lnR bgR enR ++ sh_T cs adT lfT foT ++ sh_P cs adP kdP grP cvP brP hzP fmP dmP e1P e2P fkP pnP fnP ++ sh_P cs adQ kdQ grQ cvQ brQ hzQ fmQ dmQ e1Q e2Q fkQ pnQ fnQ ++ sh_M cs adM mpM mkM mgM mcM mwM mfM mtM mhM mmM mdM mxM mnM szM faM apM waM wrM fuM ++ sh_O cs adO ouO) → va_S (fun q : Nat => s.heap.size ≤ q) s.heap H locs → ∀ ls : Array Slot, lv_has ls 8 [(0, .ref b), (1, .ref (adG 0)), (2, .ref (adM 0)), (3, .ref (adO 0)), (4, .int (nI i))] → W p l e room_1 s m #[Value.ref b] below meth c H locs (100 + i) (20000 + 6 * i) (lw_Z below #[Value.ref b] s) (F0 m 828 ls []) := by
  obtain ⟨hx, hb, hr, hml, hown, hts, hX, hbl, hlocks, hgv⟩ := id C0
  have hts : ∀ w ∈ wsL_law, w.before #[Value.ref b] s = true := fun w h => hts w (wsL_law_in2 w h)
  have hA : ∀ q : Nat, s.heap.size ≤ q → (fun q : Nat => s.heap.size ≤ q) q := fun _ h => h
  have hbA : ¬ (fun q : Nat => s.heap.size ≤ q) b := Nat.not_le.mpr hbl
  have hc0 : 100 + i + 0 ≤ room_1.cells := by show 100 + i + 0 ≤ 601024; omega
  have hs0 : 20000 + 6 * i + 0 ≤ room_1.slots := by show 20000 + 6 * i + 0 ≤ 7293034; omega
  have hc1 : 100 + i + 1 ≤ room_1.cells := by show 100 + i + 1 ≤ 601024; omega
  have hs1 : 20000 + 6 * i + 6 ≤ room_1.slots := by show 20000 + 6 * i + 6 ≤ 7293034; omega
  intro adG adR adT adP adQ adM adO H locs hP hD hS ls hl
  refine lv_aload_n hx hb dL_law_828 rfl (lv_at hl 1 rfl) ?_
  refine lv_aload_n hx hb dL_law_829 rfl (lv_at hl 0 rfl) ?_
  refine lv_iload hx hb dL_law_830 (lv_at hl 4 rfl) ?_
  refine lv_iconst (v := 1) hx hb dL_law_832 (by decide) ?_
  refine lv_iadd hx hb dL_law_833 ?_
  have hin := h.1
  have h := h.2
  refine va_sld hx hb hX hbl hbA hS hin dL_law_834 ?_
  refine lv_aload_n hx hb dL_law_835 rfl (lv_at hl 0 rfl) ?_
  refine lv_iload hx hb dL_law_836 (lv_at hl 4 rfl) ?_
  refine lv_iconst (v := 2) hx hb dL_law_838 (by decide) ?_
  refine lv_iadd hx hb dL_law_839 ?_
  have hin := h.1
  have h := h.2
  refine va_sld hx hb hX hbl hbA hS hin dL_law_840 ?_
  refine lv_i2l hx hb dL_law_841 rfl ?_
  refine lv_bipush (v := 32) hx hb dL_law_842 (by decide) ?_
  refine lv_lshl hx hb dL_law_844 rfl ?_
  refine lv_aload_n hx hb dL_law_845 rfl (lv_at hl 0 rfl) ?_
  refine lv_iload hx hb dL_law_846 (lv_at hl 4 rfl) ?_
  refine lv_iconst (v := 3) hx hb dL_law_848 (by decide) ?_
  refine lv_iadd hx hb dL_law_849 ?_
  have hin := h.1
  have h := h.2
  refine va_sld hx hb hX hbl hbA hS hin dL_law_850 ?_
  refine lv_i2l hx hb dL_law_851 rfl ?_
  refine lv_ldc2 (v := 4294967295) hx hb hown (hts (.constantLong RL 33 4294967295) (by decide +kernel)) dL_law_852 ?_
  refine lv_land hx hb dL_law_855 ?_
  refine lv_lor hx hb dL_law_856 ?_
  have hFc := va_free (wc := (sh_G cs adG (adR 0) (adT 0) (adP 0) (adQ 0) ++ sh_P cs adP kdP grP cvP brP hzP fmP dmP e1P e2P fkP pnP fnP)) hD hS hA [0, 5, 6, 7, 8, 9, 10, 11, 12, 13, 14, 15] rfl
  refine va_calli (va_runV (As := [.int (xs ((nI i) + 1).toNatClampNeg), .long ((((xs ((nI i) + 2).toNatClampNeg).toInt64) <<< ((32 : Int32).toInt64 &&& 63)) ||| (((xs ((nI i) + 3).toNatClampNeg).toInt64) &&& 4294967295))]) (rest := []) ⟨hx, hb, hml, hown, hts⟩ (met_X5_plain l D cs ev _ adG adP (adR 0) (adT 0) (adQ 0) kdP grP cvP brP hzP fmP dmP e1P e2P fkP pnP fnP (xs ((nI i) + 1).toNatClampNeg) ((((xs ((nI i) + 2).toNatClampNeg).toInt64) <<< ((32 : Int32).toInt64 &&& 63)) ||| (((xs ((nI i) + 3).toNatClampNeg).toInt64) &&& 4294967295)) _ h) (cwV 2 hts gL_law_X5_plain rfl rfl rfl (by decide +kernel) ⟨Nat.le_of_ble_eq_true rfl, Nat.le_of_ble_eq_true rfl⟩) (mPreV (va_recv hK hP (ci := 4) (q0 := 0) rfl rfl) hP hD hS hK hE hFc [0, 5, 6, 7, 8, 9, 10, 11, 12, 13, 14, 15] (by decide) rfl) rfl rfl hl.1 rfl (lv_room (Nat.le_of_ble_eq_true rfl)) dL_law_857 ⟨hc0, hs0⟩) hS (fun q _ h => hFc q h) hFc (fun r_1 u t H1 locs ht hvm hw hB hz1 hk1 hS => ?_)
  have h := hw
  obtain ⟨hP1, hK1, hD1⟩ := hB
  rw [ht] at hP1
  obtain ⟨hP, hD⟩ := mJoin (wr := (sh_R cs adR txR nuR lnR bgR enR ++ sh_T cs adT lfT foT ++ sh_P cs adQ kdQ grQ cvQ brQ hzQ fmQ dmQ e1Q e2Q fkQ pnQ fnQ ++ sh_M cs adM mpM mkM mgM mcM mwM mfM mtM mhM mmM mdM mxM mnM szM faM apM waM wrM fuM ++ sh_O cs adO ouO)) (w1 := (sh_G cs adG (adR 0) (adT 0) (adP 0) (adQ 0) ++ sh_P cs adP kdP grP cvP brP hzP fmP dmP e1P e2P fkP pnP fnP)) (w' := (sh_G cs adG (adR 0) (adT 0) (adP 0) (adQ 0) ++ sh_R cs adR txR nuR lnR bgR enR ++ sh_T cs adT lfT foT ++ sh_P cs adP kdP grP cvP brP hzP fmP dmP e1P e2P fkP pnP fnP ++ sh_P cs adQ kdQ grQ cvQ brQ hzQ fmQ dmQ e1Q e2Q fkQ pnQ fnQ ++ sh_M cs adM mpM mkM mgM mcM mwM mfM mtM mhM mmM mdM mxM mnM szM faM apM waM wrM fuM ++ sh_O cs adO ouO)) hP hD [0, 5, 6, 7, 8, 9, 10, 11, 12, 13, 14, 15] [1, 2, 3, 4, 16, 17, 18, 19, 20, 21, 22, 23, 24, 25, 26, 27, 28, 29, 30, 31, 32, 33, 34, 35, 36, 37, 38, 39, 40] rfl rfl (by decide) (by decide) hk1 hFc hP1 hD1 [29, 0, 1, 2, 3, 30, 31, 32, 33, 34, 35, 36, 37, 38, 39, 40, 4, 5, 6, 7, 8, 9, 10, 11, 12, 13, 14, 15, 16, 17, 18, 19, 20, 21, 22, 23, 24, 25, 26, 27, 28] (by decide) rfl
  generalize H1 = H at hP hS ⊢
  refine lv_aload_n hx hb dL_law_860 rfl (lv_at hl 2 rfl) ?_
  refine lv_aload_n hx hb dL_law_861 rfl (lv_at hl 0 rfl) ?_
  refine lv_iload hx hb dL_law_862 (lv_at hl 4 rfl) ?_
  refine lv_iconst (v := 1) hx hb dL_law_864 (by decide) ?_
  refine lv_iadd hx hb dL_law_865 ?_
  have hin := h.1
  have h := h.2
  refine va_sld hx hb hX hbl hbA hS hin dL_law_866 ?_
  refine lv_aload_n hx hb dL_law_867 rfl (lv_at hl 0 rfl) ?_
  refine lv_iload hx hb dL_law_868 (lv_at hl 4 rfl) ?_
  refine lv_iconst (v := 2) hx hb dL_law_870 (by decide) ?_
  refine lv_iadd hx hb dL_law_871 ?_
  have hin := h.1
  have h := h.2
  refine va_sld hx hb hX hbl hbA hS hin dL_law_872 ?_
  refine lv_i2l hx hb dL_law_873 rfl ?_
  refine lv_bipush (v := 32) hx hb dL_law_874 (by decide) ?_
  refine lv_lshl hx hb dL_law_876 rfl ?_
  refine lv_aload_n hx hb dL_law_877 rfl (lv_at hl 0 rfl) ?_
  refine lv_iload hx hb dL_law_878 (lv_at hl 4 rfl) ?_
  refine lv_iconst (v := 3) hx hb dL_law_880 (by decide) ?_
  refine lv_iadd hx hb dL_law_881 ?_
  have hin := h.1
  have h := h.2
  refine va_sld hx hb hX hbl hbA hS hin dL_law_882 ?_
  refine lv_i2l hx hb dL_law_883 rfl ?_
  refine lv_ldc2 (v := 4294967295) hx hb hown (hts (.constantLong RL 33 4294967295) (by decide +kernel)) dL_law_884 ?_
  refine lv_land hx hb dL_law_887 ?_
  refine lv_lor hx hb dL_law_888 ?_
  have hFc := va_free (wc := (sh_M cs adM mpM mkM mgM mcM mwM mfM mtM mhM mmM mdM mxM mnM szM faM apM waM wrM fuM)) hD hS hA [27, 28, 29, 30, 31, 32, 33, 34, 35, 36, 37, 38, 39] rfl
  refine va_calli (va_runV (As := [.int (xs ((nI i) + 1).toNatClampNeg), .long ((((xs ((nI i) + 2).toNatClampNeg).toInt64) <<< ((32 : Int32).toInt64 &&& 63)) ||| (((xs ((nI i) + 3).toNatClampNeg).toInt64) &&& 4294967295))]) (rest := [.int r_1]) ⟨hx, hb, hml, hown, hts⟩ (met_X6_plain l D cs ev _ adM mpM mkM mgM mcM mwM mfM mtM mhM mmM mdM mxM mnM szM faM apM waM wrM fuM (xs ((nI i) + 1).toNatClampNeg) ((((xs ((nI i) + 2).toNatClampNeg).toInt64) <<< ((32 : Int32).toInt64 &&& 63)) ||| (((xs ((nI i) + 3).toNatClampNeg).toInt64) &&& 4294967295)) _ h) (cwV 2 hts gL_law_X6_plain rfl rfl rfl (by decide +kernel) ⟨Nat.le_of_ble_eq_true rfl, Nat.le_of_ble_eq_true rfl⟩) (mPreV (va_recv hK hP (ci := 5) (q0 := 27) rfl rfl) hP hD hS hK hE hFc [27, 28, 29, 30, 31, 32, 33, 34, 35, 36, 37, 38, 39] (by decide) rfl) rfl rfl hl.1 rfl (lv_room (Nat.le_of_ble_eq_true rfl)) dL_law_889 ⟨hc0, hs0⟩) hS (fun q _ h => hFc q h) hFc (fun r_2 u t H1 locs ht hvm hw hB hz1 hk1 hS => ?_)
  obtain ⟨fa_3, rfl⟩ : ∃ z, z = u := ⟨_, rfl⟩
  have h := hw
  obtain ⟨hP1, hK1, hD1⟩ := hB
  rw [ht] at hP1
  obtain ⟨hP, hD⟩ := mJoin (wr := (sh_G cs adG (adR 0) (adT 0) (adP 0) (adQ 0) ++ sh_R cs adR txR nuR lnR bgR enR ++ sh_T cs adT lfT foT ++ sh_P cs adP kdP grP cvP brP hzP fmP dmP e1P e2P fkP pnP fnP ++ sh_P cs adQ kdQ grQ cvQ brQ hzQ fmQ dmQ e1Q e2Q fkQ pnQ fnQ ++ sh_O cs adO ouO)) (w1 := (sh_M cs adM mpM mkM mgM mcM mwM mfM mtM mhM mmM mdM mxM mnM szM fa_3 apM waM wrM fuM)) (w' := (sh_G cs adG (adR 0) (adT 0) (adP 0) (adQ 0) ++ sh_R cs adR txR nuR lnR bgR enR ++ sh_T cs adT lfT foT ++ sh_P cs adP kdP grP cvP brP hzP fmP dmP e1P e2P fkP pnP fnP ++ sh_P cs adQ kdQ grQ cvQ brQ hzQ fmQ dmQ e1Q e2Q fkQ pnQ fnQ ++ sh_M cs adM mpM mkM mgM mcM mwM mfM mtM mhM mmM mdM mxM mnM szM fa_3 apM waM wrM fuM ++ sh_O cs adO ouO)) hP hD [27, 28, 29, 30, 31, 32, 33, 34, 35, 36, 37, 38, 39] [0, 1, 2, 3, 4, 5, 6, 7, 8, 9, 10, 11, 12, 13, 14, 15, 16, 17, 18, 19, 20, 21, 22, 23, 24, 25, 26, 40] rfl rfl (by decide) (by decide) hk1 hFc hP1 hD1 [0, 1, 2, 3, 4, 5, 6, 7, 8, 9, 10, 11, 12, 13, 14, 15, 16, 17, 18, 19, 20, 21, 22, 23, 24, 25, 26, 28, 29, 30, 31, 32, 33, 34, 35, 36, 37, 38, 39, 40, 27] (by decide) rfl
  generalize H1 = H at hP hS ⊢
  refine lv_icmp_eq (tgt := 935) hx hb dL_law_892 (by decide) (fun c_4 => ?_) (fun c_4 => ?_)
  · have h := h.1 c_4
    refine lv_iinc (v := (nI i) + 4) (lv' := [(4, .int ((nI i) + 4)), (0, .ref b), (1, .ref (adG 0)), (2, .ref (adM 0)), (3, .ref (adO 0))]) hx hb dL_law_935 hl (k := 4) rfl rfl (by decide) rfl (fun ls hl => ?_)
    refine lv_goto (tgt := 23) hx hb dL_law_938 (by decide) ?_
    have h := h
    refine W.widen (k := 100 + (i + 4)) (n := 20000 + 6 * (i + 4)) (by omega) (by omega) ?_
    have hl := lv_sub (l' := [(0, .ref b), (1, .ref (adG 0)), (2, .ref (adM 0)), (3, .ref (adO 0)), (4, .int ((nI i) + 4))]) hl [1, 2, 3, 4, 0] rfl
    rw [show (nI i) + 4 = nI (i + 4) from nI_add i 4] at hl
    exact h adG adR adT adP adQ adM adO _ _ hP hD hS ls hl
  · have h := h.2 c_4
    refine lv_iconst (v := 0) hx hb dL_law_895 (by decide) ?_
    exact h.elim
def wp_law897 (L : Nat) (xs : Nat → Int32) (A23 : Nat → (Nat → Int32) → (Nat → Int32) → Int32 → Int32 → Int32 → Int32 → Int32 → (Nat → Int32) → (Nat → Int64) → (Nat → Int32) → (Nat → Int32) → (Nat → Int32) → (Nat → Int32) → (Nat → Int32) → (Nat → Int32) → (Nat → Int32) → (Nat → Int32) → Int32 → Int32 → (Nat → Int32) → (Nat → Int64) → (Nat → Int32) → (Nat → Int32) → (Nat → Int32) → (Nat → Int32) → (Nat → Int32) → (Nat → Int32) → (Nat → Int32) → (Nat → Int32) → Int32 → Int32 → (Nat → Int32) → (Nat → Int32) → (Nat → Int32) → (Nat → Int32) → (Nat → Int32) → (Nat → Int32) → (Nat → Int32) → (Nat → Int32) → (Nat → Int32) → (Nat → Int32) → (Nat → Int32) → (Nat → Int32) → Int32 → Int32 → Int32 → Int32 → Int32 → Int32 → (Nat → Int64) → Prop) (i : Nat) (txR : Nat → Int32) (nuR : Nat → Int32) (lnR : Int32) (bgR : Int32) (enR : Int32) (lfT : Int32) (foT : Int32) (kdP : Nat → Int32) (grP : Nat → Int64) (cvP : Nat → Int32) (brP : Nat → Int32) (hzP : Nat → Int32) (fmP : Nat → Int32) (dmP : Nat → Int32) (e1P : Nat → Int32) (e2P : Nat → Int32) (fkP : Nat → Int32) (pnP : Int32) (fnP : Int32) (kdQ : Nat → Int32) (grQ : Nat → Int64) (cvQ : Nat → Int32) (brQ : Nat → Int32) (hzQ : Nat → Int32) (fmQ : Nat → Int32) (dmQ : Nat → Int32) (e1Q : Nat → Int32) (e2Q : Nat → Int32) (fkQ : Nat → Int32) (pnQ : Int32) (fnQ : Int32) (mpM : Nat → Int32) (mkM : Nat → Int32) (mgM : Nat → Int32) (mcM : Nat → Int32) (mwM : Nat → Int32) (mfM : Nat → Int32) (mtM : Nat → Int32) (mhM : Nat → Int32) (mmM : Nat → Int32) (mdM : Nat → Int32) (mxM : Nat → Int32) (mnM : Nat → Int32) (szM : Int32) (faM : Int32) (apM : Int32) (waM : Int32) (wrM : Int32) (fuM : Int32) (ouO : Nat → Int64) : Prop :=
    (vp_in ((nI i) + 1) L ∧ wp_X5_write lfT foT kdP grP cvP brP hzP fmP dmP e1P e2P fkP pnP fnP (xs ((nI i) + 1).toNatClampNeg) (fun r_1 u => match u with | (lf_2, fo_3) => (vp_in ((nI i) + 1) L ∧ wp_X6_write mpM mkM mgM mcM mwM mfM mtM mhM mmM mdM faM waM wrM fuM (xs ((nI i) + 1).toNatClampNeg) (fun r_4 u => match u with | (fa_5, wa_6, wr_7, fu_8) => ((r_1 = r_4 → A23 (i + 4) txR nuR lnR bgR enR lf_2 fo_3 kdP grP cvP brP hzP fmP dmP e1P e2P fkP pnP fnP kdQ grQ cvQ brQ hzQ fmQ dmQ e1Q e2Q fkQ pnQ fnQ mpM mkM mgM mcM mwM mfM mtM mhM mmM mdM mxM mnM szM fa_5 apM wa_6 wr_7 fu_8 ouO) ∧ (¬ r_1 = r_4 → False))))))
set_option maxHeartbeats 4000000 in
set_option maxRecDepth 100000 in
theorem law_c897 {p : Program} {l : Launch} {e : Env} {s : State} {m : MethodId} {below : List Frame} {meth : Method} {c : Code} {b L : Nat} {xs : Nat → Int32} {D : va_G} {cs : Nat → ClassId} {ev : Nat → Nat → Nat} {i : Nat} {txR : Nat → Int32} {nuR : Nat → Int32} {lnR : Int32} {bgR : Int32} {enR : Int32} {lfT : Int32} {foT : Int32} {kdP : Nat → Int32} {grP : Nat → Int64} {cvP : Nat → Int32} {brP : Nat → Int32} {hzP : Nat → Int32} {fmP : Nat → Int32} {dmP : Nat → Int32} {e1P : Nat → Int32} {e2P : Nat → Int32} {fkP : Nat → Int32} {pnP : Int32} {fnP : Int32} {kdQ : Nat → Int32} {grQ : Nat → Int64} {cvQ : Nat → Int32} {brQ : Nat → Int32} {hzQ : Nat → Int32} {fmQ : Nat → Int32} {dmQ : Nat → Int32} {e1Q : Nat → Int32} {e2Q : Nat → Int32} {fkQ : Nat → Int32} {pnQ : Int32} {fnQ : Int32} {mpM : Nat → Int32} {mkM : Nat → Int32} {mgM : Nat → Int32} {mcM : Nat → Int32} {mwM : Nat → Int32} {mfM : Nat → Int32} {mtM : Nat → Int32} {mhM : Nat → Int32} {mmM : Nat → Int32} {mdM : Nat → Int32} {mxM : Nat → Int32} {mnM : Nat → Int32} {szM : Int32} {faM : Int32} {apM : Int32} {waM : Int32} {wrM : Int32} {fuM : Int32} {ouO : Nat → Int64} (hnt : l.stackTraces = false) (C0 : lw_At p s m meth c b L xs) (hLi : i ≤ 2048) (hK : va_K D vwCl (tyS cs) s) (hE : EV ev (fun q : Nat => s.heap.size ≤ q) s s.heap) (hTV : TV (fun q : Nat => s.heap.size ≤ q) s s.heap) (h : wp_law897 L xs (law_A p l e s m below meth c b D cs) i txR nuR lnR bgR enR lfT foT kdP grP cvP brP hzP fmP dmP e1P e2P fkP pnP fnP kdQ grQ cvQ brQ hzQ fmQ dmQ e1Q e2Q fkQ pnQ fnQ mpM mkM mgM mcM mwM mfM mtM mhM mmM mdM mxM mnM szM faM apM waM wrM fuM ouO) : ∀ (adG adR adT adP adQ adM adO : Nat → Nat) (H : Heap) (locs : List Loc), va_P D vwCl (sh_G cs adG (adR 0) (adT 0) (adP 0) (adQ 0) ++ sh_R cs adR txR nuR lnR bgR enR ++ sh_T cs adT lfT foT ++ sh_P cs adP kdP grP cvP brP hzP fmP dmP e1P e2P fkP pnP fnP ++ sh_P cs adQ kdQ grQ cvQ brQ hzQ fmQ dmQ e1Q e2Q fkQ pnQ fnQ ++ sh_M cs adM mpM mkM mgM mcM mwM mfM mtM mhM mmM mdM mxM mnM szM faM apM waM wrM fuM ++ sh_O cs adO ouO) H → va_D (fun q : Nat => s.heap.size ≤ q) (sh_G cs adG (adR 0) (adT 0) (adP 0) (adQ 0) ++ sh_R cs adR txR nuR lnR bgR enR ++ sh_T cs adT lfT foT ++ sh_P cs adP kdP grP cvP brP hzP fmP dmP e1P e2P fkP pnP fnP ++ sh_P cs adQ kdQ grQ cvQ brQ hzQ fmQ dmQ e1Q e2Q fkQ pnQ fnQ ++ sh_M cs adM mpM mkM mgM mcM mwM mfM mtM mhM mmM mdM mxM mnM szM faM apM waM wrM fuM ++ sh_O cs adO ouO) → va_S (fun q : Nat => s.heap.size ≤ q) s.heap H locs → ∀ ls : Array Slot, lv_has ls 8 [(0, .ref b), (1, .ref (adG 0)), (2, .ref (adM 0)), (3, .ref (adO 0)), (4, .int (nI i))] → W p l e room_1 s m #[Value.ref b] below meth c H locs (100 + i) (20000 + 6 * i) (lw_Z below #[Value.ref b] s) (F0 m 897 ls []) := by
  obtain ⟨hx, hb, hr, hml, hown, hts, hX, hbl, hlocks, hgv⟩ := id C0
  have hts : ∀ w ∈ wsL_law, w.before #[Value.ref b] s = true := fun w h => hts w (wsL_law_in2 w h)
  have hA : ∀ q : Nat, s.heap.size ≤ q → (fun q : Nat => s.heap.size ≤ q) q := fun _ h => h
  have hbA : ¬ (fun q : Nat => s.heap.size ≤ q) b := Nat.not_le.mpr hbl
  have hc0 : 100 + i + 0 ≤ room_1.cells := by show 100 + i + 0 ≤ 601024; omega
  have hs0 : 20000 + 6 * i + 0 ≤ room_1.slots := by show 20000 + 6 * i + 0 ≤ 7293034; omega
  have hc1 : 100 + i + 1 ≤ room_1.cells := by show 100 + i + 1 ≤ 601024; omega
  have hs1 : 20000 + 6 * i + 6 ≤ room_1.slots := by show 20000 + 6 * i + 6 ≤ 7293034; omega
  intro adG adR adT adP adQ adM adO H locs hP hD hS ls hl
  refine lv_aload_n hx hb dL_law_897 rfl (lv_at hl 1 rfl) ?_
  refine lv_aload_n hx hb dL_law_898 rfl (lv_at hl 0 rfl) ?_
  refine lv_iload hx hb dL_law_899 (lv_at hl 4 rfl) ?_
  refine lv_iconst (v := 1) hx hb dL_law_901 (by decide) ?_
  refine lv_iadd hx hb dL_law_902 ?_
  have hin := h.1
  have h := h.2
  refine va_sld hx hb hX hbl hbA hS hin dL_law_903 ?_
  have hFc := va_free (wc := (sh_G cs adG (adR 0) (adT 0) (adP 0) (adQ 0) ++ sh_T cs adT lfT foT ++ sh_P cs adP kdP grP cvP brP hzP fmP dmP e1P e2P fkP pnP fnP)) hD hS hA [0, 4, 5, 6, 7, 8, 9, 10, 11, 12, 13, 14, 15] rfl
  refine va_calli (va_runV (As := [.int (xs ((nI i) + 1).toNatClampNeg)]) (rest := []) ⟨hx, hb, hml, hown, hts⟩ (met_X5_write l D cs ev _ adG adT adP (adR 0) (adQ 0) lfT foT kdP grP cvP brP hzP fmP dmP e1P e2P fkP pnP fnP (xs ((nI i) + 1).toNatClampNeg) _ h) (cwV 1 hts gL_law_X5_write rfl rfl rfl (by decide +kernel) ⟨Nat.le_of_ble_eq_true rfl, Nat.le_of_ble_eq_true rfl⟩) (mPreV (va_recv hK hP (ci := 4) (q0 := 0) rfl rfl) hP hD hS hK hE hFc [0, 4, 5, 6, 7, 8, 9, 10, 11, 12, 13, 14, 15] (by decide) rfl) rfl rfl hl.1 rfl (lv_room (Nat.le_of_ble_eq_true rfl)) dL_law_904 ⟨hc0, hs0⟩) hS (fun q _ h => hFc q h) hFc (fun r_1 u t H1 locs ht hvm hw hB hz1 hk1 hS => ?_)
  obtain ⟨lf_2, fo_3⟩ := u
  have h := hw
  obtain ⟨hP1, hK1, hD1⟩ := hB
  rw [ht] at hP1
  obtain ⟨hP, hD⟩ := mJoin (wr := (sh_R cs adR txR nuR lnR bgR enR ++ sh_P cs adQ kdQ grQ cvQ brQ hzQ fmQ dmQ e1Q e2Q fkQ pnQ fnQ ++ sh_M cs adM mpM mkM mgM mcM mwM mfM mtM mhM mmM mdM mxM mnM szM faM apM waM wrM fuM ++ sh_O cs adO ouO)) (w1 := (sh_G cs adG (adR 0) (adT 0) (adP 0) (adQ 0) ++ sh_T cs adT lf_2 fo_3 ++ sh_P cs adP kdP grP cvP brP hzP fmP dmP e1P e2P fkP pnP fnP)) (w' := (sh_G cs adG (adR 0) (adT 0) (adP 0) (adQ 0) ++ sh_R cs adR txR nuR lnR bgR enR ++ sh_T cs adT lf_2 fo_3 ++ sh_P cs adP kdP grP cvP brP hzP fmP dmP e1P e2P fkP pnP fnP ++ sh_P cs adQ kdQ grQ cvQ brQ hzQ fmQ dmQ e1Q e2Q fkQ pnQ fnQ ++ sh_M cs adM mpM mkM mgM mcM mwM mfM mtM mhM mmM mdM mxM mnM szM faM apM waM wrM fuM ++ sh_O cs adO ouO)) hP hD [0, 4, 5, 6, 7, 8, 9, 10, 11, 12, 13, 14, 15] [1, 2, 3, 16, 17, 18, 19, 20, 21, 22, 23, 24, 25, 26, 27, 28, 29, 30, 31, 32, 33, 34, 35, 36, 37, 38, 39, 40] rfl rfl (by decide) (by decide) hk1 hFc hP1 hD1 [28, 0, 1, 2, 29, 30, 31, 32, 33, 34, 35, 36, 37, 38, 39, 40, 3, 4, 5, 6, 7, 8, 9, 10, 11, 12, 13, 14, 15, 16, 17, 18, 19, 20, 21, 22, 23, 24, 25, 26, 27] (by decide) rfl
  generalize H1 = H at hP hS ⊢
  refine lv_aload_n hx hb dL_law_907 rfl (lv_at hl 2 rfl) ?_
  refine lv_aload_n hx hb dL_law_908 rfl (lv_at hl 0 rfl) ?_
  refine lv_iload hx hb dL_law_909 (lv_at hl 4 rfl) ?_
  refine lv_iconst (v := 1) hx hb dL_law_911 (by decide) ?_
  refine lv_iadd hx hb dL_law_912 ?_
  have hin := h.1
  have h := h.2
  refine va_sld hx hb hX hbl hbA hS hin dL_law_913 ?_
  have hFc := va_free (wc := (sh_M cs adM mpM mkM mgM mcM mwM mfM mtM mhM mmM mdM mxM mnM szM faM apM waM wrM fuM)) hD hS hA [27, 28, 29, 30, 31, 32, 33, 34, 35, 36, 37, 38, 39] rfl
  refine va_calli (va_runV (As := [.int (xs ((nI i) + 1).toNatClampNeg)]) (rest := [.int r_1]) ⟨hx, hb, hml, hown, hts⟩ (met_X6_write l D cs ev _ adM mpM mkM mgM mcM mwM mfM mtM mhM mmM mdM mxM mnM szM faM apM waM wrM fuM (xs ((nI i) + 1).toNatClampNeg) _ h) (cwV 1 hts gL_law_X6_write rfl rfl rfl (by decide +kernel) ⟨Nat.le_of_ble_eq_true rfl, Nat.le_of_ble_eq_true rfl⟩) (mPreV (va_recv hK hP (ci := 5) (q0 := 27) rfl rfl) hP hD hS hK hE hFc [27, 28, 29, 30, 31, 32, 33, 34, 35, 36, 37, 38, 39] (by decide) rfl) rfl rfl hl.1 rfl (lv_room (Nat.le_of_ble_eq_true rfl)) dL_law_914 ⟨hc0, hs0⟩) hS (fun q _ h => hFc q h) hFc (fun r_4 u t H1 locs ht hvm hw hB hz1 hk1 hS => ?_)
  obtain ⟨fa_5, wa_6, wr_7, fu_8⟩ := u
  have h := hw
  obtain ⟨hP1, hK1, hD1⟩ := hB
  rw [ht] at hP1
  obtain ⟨hP, hD⟩ := mJoin (wr := (sh_G cs adG (adR 0) (adT 0) (adP 0) (adQ 0) ++ sh_R cs adR txR nuR lnR bgR enR ++ sh_T cs adT lf_2 fo_3 ++ sh_P cs adP kdP grP cvP brP hzP fmP dmP e1P e2P fkP pnP fnP ++ sh_P cs adQ kdQ grQ cvQ brQ hzQ fmQ dmQ e1Q e2Q fkQ pnQ fnQ ++ sh_O cs adO ouO)) (w1 := (sh_M cs adM mpM mkM mgM mcM mwM mfM mtM mhM mmM mdM mxM mnM szM fa_5 apM wa_6 wr_7 fu_8)) (w' := (sh_G cs adG (adR 0) (adT 0) (adP 0) (adQ 0) ++ sh_R cs adR txR nuR lnR bgR enR ++ sh_T cs adT lf_2 fo_3 ++ sh_P cs adP kdP grP cvP brP hzP fmP dmP e1P e2P fkP pnP fnP ++ sh_P cs adQ kdQ grQ cvQ brQ hzQ fmQ dmQ e1Q e2Q fkQ pnQ fnQ ++ sh_M cs adM mpM mkM mgM mcM mwM mfM mtM mhM mmM mdM mxM mnM szM fa_5 apM wa_6 wr_7 fu_8 ++ sh_O cs adO ouO)) hP hD [27, 28, 29, 30, 31, 32, 33, 34, 35, 36, 37, 38, 39] [0, 1, 2, 3, 4, 5, 6, 7, 8, 9, 10, 11, 12, 13, 14, 15, 16, 17, 18, 19, 20, 21, 22, 23, 24, 25, 26, 40] rfl rfl (by decide) (by decide) hk1 hFc hP1 hD1 [0, 1, 2, 3, 4, 5, 6, 7, 8, 9, 10, 11, 12, 13, 14, 15, 16, 17, 18, 19, 20, 21, 22, 23, 24, 25, 26, 28, 29, 30, 31, 32, 33, 34, 35, 36, 37, 38, 39, 40, 27] (by decide) rfl
  generalize H1 = H at hP hS ⊢
  refine lv_icmp_eq (tgt := 935) hx hb dL_law_917 (by decide) (fun c_9 => ?_) (fun c_9 => ?_)
  · have h := h.1 c_9
    refine lv_iinc (v := (nI i) + 4) (lv' := [(4, .int ((nI i) + 4)), (0, .ref b), (1, .ref (adG 0)), (2, .ref (adM 0)), (3, .ref (adO 0))]) hx hb dL_law_935 hl (k := 4) rfl rfl (by decide) rfl (fun ls hl => ?_)
    refine lv_goto (tgt := 23) hx hb dL_law_938 (by decide) ?_
    have h := h
    refine W.widen (k := 100 + (i + 4)) (n := 20000 + 6 * (i + 4)) (by omega) (by omega) ?_
    have hl := lv_sub (l' := [(0, .ref b), (1, .ref (adG 0)), (2, .ref (adM 0)), (3, .ref (adO 0)), (4, .int ((nI i) + 4))]) hl [1, 2, 3, 4, 0] rfl
    rw [show (nI i) + 4 = nI (i + 4) from nI_add i 4] at hl
    exact h adG adR adT adP adQ adM adO _ _ hP hD hS ls hl
  · have h := h.2 c_9
    refine lv_iconst (v := 0) hx hb dL_law_920 (by decide) ?_
    exact h.elim
def wp_law922 (L : Nat) (xs : Nat → Int32) (A23 : Nat → (Nat → Int32) → (Nat → Int32) → Int32 → Int32 → Int32 → Int32 → Int32 → (Nat → Int32) → (Nat → Int64) → (Nat → Int32) → (Nat → Int32) → (Nat → Int32) → (Nat → Int32) → (Nat → Int32) → (Nat → Int32) → (Nat → Int32) → (Nat → Int32) → Int32 → Int32 → (Nat → Int32) → (Nat → Int64) → (Nat → Int32) → (Nat → Int32) → (Nat → Int32) → (Nat → Int32) → (Nat → Int32) → (Nat → Int32) → (Nat → Int32) → (Nat → Int32) → Int32 → Int32 → (Nat → Int32) → (Nat → Int32) → (Nat → Int32) → (Nat → Int32) → (Nat → Int32) → (Nat → Int32) → (Nat → Int32) → (Nat → Int32) → (Nat → Int32) → (Nat → Int32) → (Nat → Int32) → (Nat → Int32) → Int32 → Int32 → Int32 → Int32 → Int32 → Int32 → (Nat → Int64) → Prop) (i : Nat) (txR : Nat → Int32) (nuR : Nat → Int32) (lnR : Int32) (bgR : Int32) (enR : Int32) (lfT : Int32) (foT : Int32) (kdP : Nat → Int32) (grP : Nat → Int64) (cvP : Nat → Int32) (brP : Nat → Int32) (hzP : Nat → Int32) (fmP : Nat → Int32) (dmP : Nat → Int32) (e1P : Nat → Int32) (e2P : Nat → Int32) (fkP : Nat → Int32) (pnP : Int32) (fnP : Int32) (kdQ : Nat → Int32) (grQ : Nat → Int64) (cvQ : Nat → Int32) (brQ : Nat → Int32) (hzQ : Nat → Int32) (fmQ : Nat → Int32) (dmQ : Nat → Int32) (e1Q : Nat → Int32) (e2Q : Nat → Int32) (fkQ : Nat → Int32) (pnQ : Int32) (fnQ : Int32) (mpM : Nat → Int32) (mkM : Nat → Int32) (mgM : Nat → Int32) (mcM : Nat → Int32) (mwM : Nat → Int32) (mfM : Nat → Int32) (mtM : Nat → Int32) (mhM : Nat → Int32) (mmM : Nat → Int32) (mdM : Nat → Int32) (mxM : Nat → Int32) (mnM : Nat → Int32) (szM : Int32) (faM : Int32) (apM : Int32) (waM : Int32) (wrM : Int32) (fuM : Int32) (ouO : Nat → Int64) : Prop :=
    wp_X5_loose e1P e2P pnP fnP (fun r_1 _ => wp_X6_loose mpM mfM mtM faM (fun r_2 fa_3 => ((r_1 = r_2 → A23 (i + 4) txR nuR lnR bgR enR lfT foT kdP grP cvP brP hzP fmP dmP e1P e2P fkP pnP fnP kdQ grQ cvQ brQ hzQ fmQ dmQ e1Q e2Q fkQ pnQ fnQ mpM mkM mgM mcM mwM mfM mtM mhM mmM mdM mxM mnM szM fa_3 apM waM wrM fuM ouO) ∧ (¬ r_1 = r_2 → False))))
set_option maxHeartbeats 4000000 in
set_option maxRecDepth 100000 in
theorem law_c922 {p : Program} {l : Launch} {e : Env} {s : State} {m : MethodId} {below : List Frame} {meth : Method} {c : Code} {b L : Nat} {xs : Nat → Int32} {D : va_G} {cs : Nat → ClassId} {ev : Nat → Nat → Nat} {i : Nat} {txR : Nat → Int32} {nuR : Nat → Int32} {lnR : Int32} {bgR : Int32} {enR : Int32} {lfT : Int32} {foT : Int32} {kdP : Nat → Int32} {grP : Nat → Int64} {cvP : Nat → Int32} {brP : Nat → Int32} {hzP : Nat → Int32} {fmP : Nat → Int32} {dmP : Nat → Int32} {e1P : Nat → Int32} {e2P : Nat → Int32} {fkP : Nat → Int32} {pnP : Int32} {fnP : Int32} {kdQ : Nat → Int32} {grQ : Nat → Int64} {cvQ : Nat → Int32} {brQ : Nat → Int32} {hzQ : Nat → Int32} {fmQ : Nat → Int32} {dmQ : Nat → Int32} {e1Q : Nat → Int32} {e2Q : Nat → Int32} {fkQ : Nat → Int32} {pnQ : Int32} {fnQ : Int32} {mpM : Nat → Int32} {mkM : Nat → Int32} {mgM : Nat → Int32} {mcM : Nat → Int32} {mwM : Nat → Int32} {mfM : Nat → Int32} {mtM : Nat → Int32} {mhM : Nat → Int32} {mmM : Nat → Int32} {mdM : Nat → Int32} {mxM : Nat → Int32} {mnM : Nat → Int32} {szM : Int32} {faM : Int32} {apM : Int32} {waM : Int32} {wrM : Int32} {fuM : Int32} {ouO : Nat → Int64} (hnt : l.stackTraces = false) (C0 : lw_At p s m meth c b L xs) (hLi : i ≤ 2048) (hK : va_K D vwCl (tyS cs) s) (hE : EV ev (fun q : Nat => s.heap.size ≤ q) s s.heap) (hTV : TV (fun q : Nat => s.heap.size ≤ q) s s.heap) (h : wp_law922 L xs (law_A p l e s m below meth c b D cs) i txR nuR lnR bgR enR lfT foT kdP grP cvP brP hzP fmP dmP e1P e2P fkP pnP fnP kdQ grQ cvQ brQ hzQ fmQ dmQ e1Q e2Q fkQ pnQ fnQ mpM mkM mgM mcM mwM mfM mtM mhM mmM mdM mxM mnM szM faM apM waM wrM fuM ouO) : ∀ (adG adR adT adP adQ adM adO : Nat → Nat) (H : Heap) (locs : List Loc), va_P D vwCl (sh_G cs adG (adR 0) (adT 0) (adP 0) (adQ 0) ++ sh_R cs adR txR nuR lnR bgR enR ++ sh_T cs adT lfT foT ++ sh_P cs adP kdP grP cvP brP hzP fmP dmP e1P e2P fkP pnP fnP ++ sh_P cs adQ kdQ grQ cvQ brQ hzQ fmQ dmQ e1Q e2Q fkQ pnQ fnQ ++ sh_M cs adM mpM mkM mgM mcM mwM mfM mtM mhM mmM mdM mxM mnM szM faM apM waM wrM fuM ++ sh_O cs adO ouO) H → va_D (fun q : Nat => s.heap.size ≤ q) (sh_G cs adG (adR 0) (adT 0) (adP 0) (adQ 0) ++ sh_R cs adR txR nuR lnR bgR enR ++ sh_T cs adT lfT foT ++ sh_P cs adP kdP grP cvP brP hzP fmP dmP e1P e2P fkP pnP fnP ++ sh_P cs adQ kdQ grQ cvQ brQ hzQ fmQ dmQ e1Q e2Q fkQ pnQ fnQ ++ sh_M cs adM mpM mkM mgM mcM mwM mfM mtM mhM mmM mdM mxM mnM szM faM apM waM wrM fuM ++ sh_O cs adO ouO) → va_S (fun q : Nat => s.heap.size ≤ q) s.heap H locs → ∀ ls : Array Slot, lv_has ls 8 [(0, .ref b), (1, .ref (adG 0)), (2, .ref (adM 0)), (3, .ref (adO 0)), (4, .int (nI i))] → W p l e room_1 s m #[Value.ref b] below meth c H locs (100 + i) (20000 + 6 * i) (lw_Z below #[Value.ref b] s) (F0 m 922 ls []) := by
  obtain ⟨hx, hb, hr, hml, hown, hts, hX, hbl, hlocks, hgv⟩ := id C0
  have hts : ∀ w ∈ wsL_law, w.before #[Value.ref b] s = true := fun w h => hts w (wsL_law_in2 w h)
  have hA : ∀ q : Nat, s.heap.size ≤ q → (fun q : Nat => s.heap.size ≤ q) q := fun _ h => h
  have hbA : ¬ (fun q : Nat => s.heap.size ≤ q) b := Nat.not_le.mpr hbl
  have hc0 : 100 + i + 0 ≤ room_1.cells := by show 100 + i + 0 ≤ 601024; omega
  have hs0 : 20000 + 6 * i + 0 ≤ room_1.slots := by show 20000 + 6 * i + 0 ≤ 7293034; omega
  have hc1 : 100 + i + 1 ≤ room_1.cells := by show 100 + i + 1 ≤ 601024; omega
  have hs1 : 20000 + 6 * i + 6 ≤ room_1.slots := by show 20000 + 6 * i + 6 ≤ 7293034; omega
  intro adG adR adT adP adQ adM adO H locs hP hD hS ls hl
  refine lv_aload_n hx hb dL_law_922 rfl (lv_at hl 1 rfl) ?_
  have hFc := va_free (wc := (sh_G cs adG (adR 0) (adT 0) (adP 0) (adQ 0) ++ sh_P cs adP kdP grP cvP brP hzP fmP dmP e1P e2P fkP pnP fnP)) hD hS hA [0, 5, 6, 7, 8, 9, 10, 11, 12, 13, 14, 15] rfl
  refine va_calli (va_runV (As := []) (rest := []) ⟨hx, hb, hml, hown, hts⟩ (met_X5_loose l D cs ev _ adG adP (adR 0) (adT 0) (adQ 0) kdP grP cvP brP hzP fmP dmP e1P e2P fkP pnP fnP _ h) (cwV 0 hts gL_law_X5_loose rfl rfl rfl (by decide +kernel) ⟨Nat.le_of_ble_eq_true rfl, Nat.le_of_ble_eq_true rfl⟩) (mPreV (va_recv hK hP (ci := 4) (q0 := 0) rfl rfl) hP hD hS hK hE hFc [0, 5, 6, 7, 8, 9, 10, 11, 12, 13, 14, 15] (by decide) rfl) rfl rfl hl.1 rfl (lv_room (Nat.le_of_ble_eq_true rfl)) dL_law_923 ⟨hc0, hs0⟩) hS (fun q _ h => hFc q h) hFc (fun r_1 u t H1 locs ht hvm hw hB hz1 hk1 hS => ?_)
  have h := hw
  obtain ⟨hP1, hK1, hD1⟩ := hB
  rw [ht] at hP1
  obtain ⟨hP, hD⟩ := mJoin (wr := (sh_R cs adR txR nuR lnR bgR enR ++ sh_T cs adT lfT foT ++ sh_P cs adQ kdQ grQ cvQ brQ hzQ fmQ dmQ e1Q e2Q fkQ pnQ fnQ ++ sh_M cs adM mpM mkM mgM mcM mwM mfM mtM mhM mmM mdM mxM mnM szM faM apM waM wrM fuM ++ sh_O cs adO ouO)) (w1 := (sh_G cs adG (adR 0) (adT 0) (adP 0) (adQ 0) ++ sh_P cs adP kdP grP cvP brP hzP fmP dmP e1P e2P fkP pnP fnP)) (w' := (sh_G cs adG (adR 0) (adT 0) (adP 0) (adQ 0) ++ sh_R cs adR txR nuR lnR bgR enR ++ sh_T cs adT lfT foT ++ sh_P cs adP kdP grP cvP brP hzP fmP dmP e1P e2P fkP pnP fnP ++ sh_P cs adQ kdQ grQ cvQ brQ hzQ fmQ dmQ e1Q e2Q fkQ pnQ fnQ ++ sh_M cs adM mpM mkM mgM mcM mwM mfM mtM mhM mmM mdM mxM mnM szM faM apM waM wrM fuM ++ sh_O cs adO ouO)) hP hD [0, 5, 6, 7, 8, 9, 10, 11, 12, 13, 14, 15] [1, 2, 3, 4, 16, 17, 18, 19, 20, 21, 22, 23, 24, 25, 26, 27, 28, 29, 30, 31, 32, 33, 34, 35, 36, 37, 38, 39, 40] rfl rfl (by decide) (by decide) hk1 hFc hP1 hD1 [29, 0, 1, 2, 3, 30, 31, 32, 33, 34, 35, 36, 37, 38, 39, 40, 4, 5, 6, 7, 8, 9, 10, 11, 12, 13, 14, 15, 16, 17, 18, 19, 20, 21, 22, 23, 24, 25, 26, 27, 28] (by decide) rfl
  generalize H1 = H at hP hS ⊢
  refine lv_aload_n hx hb dL_law_926 rfl (lv_at hl 2 rfl) ?_
  have hFc := va_free (wc := (sh_M cs adM mpM mkM mgM mcM mwM mfM mtM mhM mmM mdM mxM mnM szM faM apM waM wrM fuM)) hD hS hA [27, 28, 29, 30, 31, 32, 33, 34, 35, 36, 37, 38, 39] rfl
  refine va_calli (va_runV (As := []) (rest := [.int r_1]) ⟨hx, hb, hml, hown, hts⟩ (met_X6_loose l D cs ev _ adM mpM mkM mgM mcM mwM mfM mtM mhM mmM mdM mxM mnM szM faM apM waM wrM fuM _ h) (cwV 0 hts gL_law_X6_loose rfl rfl rfl (by decide +kernel) ⟨Nat.le_of_ble_eq_true rfl, Nat.le_of_ble_eq_true rfl⟩) (mPreV (va_recv hK hP (ci := 5) (q0 := 27) rfl rfl) hP hD hS hK hE hFc [27, 28, 29, 30, 31, 32, 33, 34, 35, 36, 37, 38, 39] (by decide) rfl) rfl rfl hl.1 rfl (lv_room (Nat.le_of_ble_eq_true rfl)) dL_law_927 ⟨hc0, hs0⟩) hS (fun q _ h => hFc q h) hFc (fun r_2 u t H1 locs ht hvm hw hB hz1 hk1 hS => ?_)
  obtain ⟨fa_3, rfl⟩ : ∃ z, z = u := ⟨_, rfl⟩
  have h := hw
  obtain ⟨hP1, hK1, hD1⟩ := hB
  rw [ht] at hP1
  obtain ⟨hP, hD⟩ := mJoin (wr := (sh_G cs adG (adR 0) (adT 0) (adP 0) (adQ 0) ++ sh_R cs adR txR nuR lnR bgR enR ++ sh_T cs adT lfT foT ++ sh_P cs adP kdP grP cvP brP hzP fmP dmP e1P e2P fkP pnP fnP ++ sh_P cs adQ kdQ grQ cvQ brQ hzQ fmQ dmQ e1Q e2Q fkQ pnQ fnQ ++ sh_O cs adO ouO)) (w1 := (sh_M cs adM mpM mkM mgM mcM mwM mfM mtM mhM mmM mdM mxM mnM szM fa_3 apM waM wrM fuM)) (w' := (sh_G cs adG (adR 0) (adT 0) (adP 0) (adQ 0) ++ sh_R cs adR txR nuR lnR bgR enR ++ sh_T cs adT lfT foT ++ sh_P cs adP kdP grP cvP brP hzP fmP dmP e1P e2P fkP pnP fnP ++ sh_P cs adQ kdQ grQ cvQ brQ hzQ fmQ dmQ e1Q e2Q fkQ pnQ fnQ ++ sh_M cs adM mpM mkM mgM mcM mwM mfM mtM mhM mmM mdM mxM mnM szM fa_3 apM waM wrM fuM ++ sh_O cs adO ouO)) hP hD [27, 28, 29, 30, 31, 32, 33, 34, 35, 36, 37, 38, 39] [0, 1, 2, 3, 4, 5, 6, 7, 8, 9, 10, 11, 12, 13, 14, 15, 16, 17, 18, 19, 20, 21, 22, 23, 24, 25, 26, 40] rfl rfl (by decide) (by decide) hk1 hFc hP1 hD1 [0, 1, 2, 3, 4, 5, 6, 7, 8, 9, 10, 11, 12, 13, 14, 15, 16, 17, 18, 19, 20, 21, 22, 23, 24, 25, 26, 28, 29, 30, 31, 32, 33, 34, 35, 36, 37, 38, 39, 40, 27] (by decide) rfl
  generalize H1 = H at hP hS ⊢
  refine lv_icmp_eq (tgt := 935) hx hb dL_law_930 (by decide) (fun c_4 => ?_) (fun c_4 => ?_)
  · have h := h.1 c_4
    refine lv_iinc (v := (nI i) + 4) (lv' := [(4, .int ((nI i) + 4)), (0, .ref b), (1, .ref (adG 0)), (2, .ref (adM 0)), (3, .ref (adO 0))]) hx hb dL_law_935 hl (k := 4) rfl rfl (by decide) rfl (fun ls hl => ?_)
    refine lv_goto (tgt := 23) hx hb dL_law_938 (by decide) ?_
    have h := h
    refine W.widen (k := 100 + (i + 4)) (n := 20000 + 6 * (i + 4)) (by omega) (by omega) ?_
    have hl := lv_sub (l' := [(0, .ref b), (1, .ref (adG 0)), (2, .ref (adM 0)), (3, .ref (adO 0)), (4, .int ((nI i) + 4))]) hl [1, 2, 3, 4, 0] rfl
    rw [show (nI i) + 4 = nI (i + 4) from nI_add i 4] at hl
    exact h adG adR adT adP adQ adM adO _ _ hP hD hS ls hl
  · have h := h.2 c_4
    refine lv_iconst (v := 0) hx hb dL_law_933 (by decide) ?_
    exact h.elim
