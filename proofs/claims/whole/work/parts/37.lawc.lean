def wp_law445 (L : Nat) (xs : Nat → Int32) (A23 : Nat → (Nat → Int32) → (Nat → Int32) → Int32 → Int32 → Int32 → Int32 → Int32 → (Nat → Int32) → (Nat → Int64) → (Nat → Int32) → (Nat → Int32) → (Nat → Int32) → (Nat → Int32) → (Nat → Int32) → (Nat → Int32) → (Nat → Int32) → (Nat → Int32) → Int32 → Int32 → (Nat → Int32) → (Nat → Int64) → (Nat → Int32) → (Nat → Int32) → (Nat → Int32) → (Nat → Int32) → (Nat → Int32) → (Nat → Int32) → (Nat → Int32) → (Nat → Int32) → Int32 → Int32 → (Nat → Int32) → (Nat → Int32) → (Nat → Int32) → (Nat → Int32) → (Nat → Int32) → (Nat → Int32) → (Nat → Int32) → (Nat → Int32) → (Nat → Int32) → (Nat → Int32) → (Nat → Int32) → (Nat → Int32) → Int32 → Int32 → Int32 → Int32 → Int32 → Int32 → (Nat → Int64) → Prop) (i : Nat) (txR : Nat → Int32) (nuR : Nat → Int32) (lnR : Int32) (bgR : Int32) (enR : Int32) (lfT : Int32) (foT : Int32) (kdP : Nat → Int32) (grP : Nat → Int64) (cvP : Nat → Int32) (brP : Nat → Int32) (hzP : Nat → Int32) (fmP : Nat → Int32) (dmP : Nat → Int32) (e1P : Nat → Int32) (e2P : Nat → Int32) (fkP : Nat → Int32) (pnP : Int32) (fnP : Int32) (kdQ : Nat → Int32) (grQ : Nat → Int64) (cvQ : Nat → Int32) (brQ : Nat → Int32) (hzQ : Nat → Int32) (fmQ : Nat → Int32) (dmQ : Nat → Int32) (e1Q : Nat → Int32) (e2Q : Nat → Int32) (fkQ : Nat → Int32) (pnQ : Int32) (fnQ : Int32) (mpM : Nat → Int32) (mkM : Nat → Int32) (mgM : Nat → Int32) (mcM : Nat → Int32) (mwM : Nat → Int32) (mfM : Nat → Int32) (mtM : Nat → Int32) (mhM : Nat → Int32) (mmM : Nat → Int32) (mdM : Nat → Int32) (mxM : Nat → Int32) (mnM : Nat → Int32) (szM : Int32) (faM : Int32) (apM : Int32) (waM : Int32) (wrM : Int32) (fuM : Int32) (ouO : Nat → Int64) : Prop :=
    (vp_in ((nI i) + 1) L ∧ wp_X5_ring cvP brP pnP (xs ((nI i) + 1).toNatClampNeg) (fun r_1 _ => (vp_in ((nI i) + 1) L ∧ wp_X6_ring mpM mcM mwM faM (xs ((nI i) + 1).toNatClampNeg) (fun r_2 fa_3 => ((r_1 = r_2 → A23 (i + 4) txR nuR lnR bgR enR lfT foT kdP grP cvP brP hzP fmP dmP e1P e2P fkP pnP fnP kdQ grQ cvQ brQ hzQ fmQ dmQ e1Q e2Q fkQ pnQ fnQ mpM mkM mgM mcM mwM mfM mtM mhM mmM mdM mxM mnM szM fa_3 apM waM wrM fuM ouO) ∧ (¬ r_1 = r_2 → False))))))
set_option maxHeartbeats 4000000 in
set_option maxRecDepth 100000 in
theorem law_c445 {p : Program} {l : Launch} {e : Env} {s : State} {m : MethodId} {below : List Frame} {meth : Method} {c : Code} {b L : Nat} {xs : Nat → Int32} {D : va_G} {cs : Nat → ClassId} {ev : Nat → Nat → Nat} {i : Nat} {txR : Nat → Int32} {nuR : Nat → Int32} {lnR : Int32} {bgR : Int32} {enR : Int32} {lfT : Int32} {foT : Int32} {kdP : Nat → Int32} {grP : Nat → Int64} {cvP : Nat → Int32} {brP : Nat → Int32} {hzP : Nat → Int32} {fmP : Nat → Int32} {dmP : Nat → Int32} {e1P : Nat → Int32} {e2P : Nat → Int32} {fkP : Nat → Int32} {pnP : Int32} {fnP : Int32} {kdQ : Nat → Int32} {grQ : Nat → Int64} {cvQ : Nat → Int32} {brQ : Nat → Int32} {hzQ : Nat → Int32} {fmQ : Nat → Int32} {dmQ : Nat → Int32} {e1Q : Nat → Int32} {e2Q : Nat → Int32} {fkQ : Nat → Int32} {pnQ : Int32} {fnQ : Int32} {mpM : Nat → Int32} {mkM : Nat → Int32} {mgM : Nat → Int32} {mcM : Nat → Int32} {mwM : Nat → Int32} {mfM : Nat → Int32} {mtM : Nat → Int32} {mhM : Nat → Int32} {mmM : Nat → Int32} {mdM : Nat → Int32} {mxM : Nat → Int32} {mnM : Nat → Int32} {szM : Int32} {faM : Int32} {apM : Int32} {waM : Int32} {wrM : Int32} {fuM : Int32} {ouO : Nat → Int64} (hnt : l.stackTraces = false) (C0 : lw_At p s m meth c b L xs) (hLi : i ≤ 2048) (hK : va_K D vwCl (tyS cs) s) (hE : EV ev (fun q : Nat => s.heap.size ≤ q) s s.heap) (hTV : TV (fun q : Nat => s.heap.size ≤ q) s s.heap) (h : wp_law445 L xs (law_A p l e s m below meth c b D cs) i txR nuR lnR bgR enR lfT foT kdP grP cvP brP hzP fmP dmP e1P e2P fkP pnP fnP kdQ grQ cvQ brQ hzQ fmQ dmQ e1Q e2Q fkQ pnQ fnQ mpM mkM mgM mcM mwM mfM mtM mhM mmM mdM mxM mnM szM faM apM waM wrM fuM ouO) : ∀ (adG adR adT adP adQ adM adO : Nat → Nat) (H : Heap) (locs : List Loc), va_P D vwCl (sh_G cs adG (adR 0) (adT 0) (adP 0) (adQ 0) ++ sh_R cs adR txR nuR lnR bgR enR ++ sh_T cs adT lfT foT ++ sh_P cs adP kdP grP cvP brP hzP fmP dmP e1P e2P fkP pnP fnP ++ sh_P cs adQ kdQ grQ cvQ brQ hzQ fmQ dmQ e1Q e2Q fkQ pnQ fnQ ++ sh_M cs adM mpM mkM mgM mcM mwM mfM mtM mhM mmM mdM mxM mnM szM faM apM waM wrM fuM ++ sh_O cs adO ouO) H → va_D (fun q : Nat => s.heap.size ≤ q) (sh_G cs adG (adR 0) (adT 0) (adP 0) (adQ 0) ++ sh_R cs adR txR nuR lnR bgR enR ++ sh_T cs adT lfT foT ++ sh_P cs adP kdP grP cvP brP hzP fmP dmP e1P e2P fkP pnP fnP ++ sh_P cs adQ kdQ grQ cvQ brQ hzQ fmQ dmQ e1Q e2Q fkQ pnQ fnQ ++ sh_M cs adM mpM mkM mgM mcM mwM mfM mtM mhM mmM mdM mxM mnM szM faM apM waM wrM fuM ++ sh_O cs adO ouO) → va_S (fun q : Nat => s.heap.size ≤ q) s.heap H locs → ∀ ls : Array Slot, lv_has ls 8 [(0, .ref b), (1, .ref (adG 0)), (2, .ref (adM 0)), (3, .ref (adO 0)), (4, .int (nI i))] → W p l e room_1 s m #[Value.ref b] below meth c H locs (100 + i) (20000 + 6 * i) (lw_Z below #[Value.ref b] s) (F0 m 445 ls []) := by
  obtain ⟨hx, hb, hr, hml, hown, hts, hX, hbl, hlocks, hgv⟩ := id C0
  have hts : ∀ w ∈ wsL_law, w.before #[Value.ref b] s = true := fun w h => hts w (wsL_law_in2 w h)
  have hA : ∀ q : Nat, s.heap.size ≤ q → (fun q : Nat => s.heap.size ≤ q) q := fun _ h => h
  have hbA : ¬ (fun q : Nat => s.heap.size ≤ q) b := Nat.not_le.mpr hbl
  have hc0 : 100 + i + 0 ≤ room_1.cells := by show 100 + i + 0 ≤ 601024; omega
  have hs0 : 20000 + 6 * i + 0 ≤ room_1.slots := by show 20000 + 6 * i + 0 ≤ 7293034; omega
  have hc1 : 100 + i + 1 ≤ room_1.cells := by show 100 + i + 1 ≤ 601024; omega
  have hs1 : 20000 + 6 * i + 6 ≤ room_1.slots := by show 20000 + 6 * i + 6 ≤ 7293034; omega
  intro adG adR adT adP adQ adM adO H locs hP hD hS ls hl
  refine lv_aload_n hx hb dL_law_445 rfl (lv_at hl 1 rfl) ?_
  refine lv_aload_n hx hb dL_law_446 rfl (lv_at hl 0 rfl) ?_
  refine lv_iload hx hb dL_law_447 (lv_at hl 4 rfl) ?_
  refine lv_iconst (v := 1) hx hb dL_law_449 (by decide) ?_
  refine lv_iadd hx hb dL_law_450 ?_
  have hin := h.1
  have h := h.2
  refine va_sld hx hb hX hbl hbA hS hin dL_law_451 ?_
  have hFc := va_free (wc := (sh_G cs adG (adR 0) (adT 0) (adP 0) (adQ 0) ++ sh_P cs adP kdP grP cvP brP hzP fmP dmP e1P e2P fkP pnP fnP)) hD hS hA [0, 5, 6, 7, 8, 9, 10, 11, 12, 13, 14, 15] rfl
  refine va_calli (va_runV (As := [.int (xs ((nI i) + 1).toNatClampNeg)]) (rest := []) ⟨hx, hb, hml, hown, hts⟩ (met_X5_ring l D cs ev _ adG adP (adR 0) (adT 0) (adQ 0) kdP grP cvP brP hzP fmP dmP e1P e2P fkP pnP fnP (xs ((nI i) + 1).toNatClampNeg) _ h) (cwV 1 hts gL_law_X5_ring rfl rfl rfl (by decide +kernel) ⟨Nat.le_of_ble_eq_true rfl, Nat.le_of_ble_eq_true rfl⟩) (mPreV (va_recv hK hP (ci := 4) (q0 := 0) rfl rfl) hP hD hS hK hE hFc [0, 5, 6, 7, 8, 9, 10, 11, 12, 13, 14, 15] (by decide) rfl) rfl rfl hl.1 rfl (lv_room (Nat.le_of_ble_eq_true rfl)) dL_law_452 ⟨hc0, hs0⟩) hS (fun q _ h => hFc q h) hFc (fun r_1 u t H1 locs ht hvm hw hB hz1 hk1 hS => ?_)
  have h := hw
  obtain ⟨hP1, hK1, hD1⟩ := hB
  rw [ht] at hP1
  obtain ⟨hP, hD⟩ := mJoin (wr := (sh_R cs adR txR nuR lnR bgR enR ++ sh_T cs adT lfT foT ++ sh_P cs adQ kdQ grQ cvQ brQ hzQ fmQ dmQ e1Q e2Q fkQ pnQ fnQ ++ sh_M cs adM mpM mkM mgM mcM mwM mfM mtM mhM mmM mdM mxM mnM szM faM apM waM wrM fuM ++ sh_O cs adO ouO)) (w1 := (sh_G cs adG (adR 0) (adT 0) (adP 0) (adQ 0) ++ sh_P cs adP kdP grP cvP brP hzP fmP dmP e1P e2P fkP pnP fnP)) (w' := (sh_G cs adG (adR 0) (adT 0) (adP 0) (adQ 0) ++ sh_R cs adR txR nuR lnR bgR enR ++ sh_T cs adT lfT foT ++ sh_P cs adP kdP grP cvP brP hzP fmP dmP e1P e2P fkP pnP fnP ++ sh_P cs adQ kdQ grQ cvQ brQ hzQ fmQ dmQ e1Q e2Q fkQ pnQ fnQ ++ sh_M cs adM mpM mkM mgM mcM mwM mfM mtM mhM mmM mdM mxM mnM szM faM apM waM wrM fuM ++ sh_O cs adO ouO)) hP hD [0, 5, 6, 7, 8, 9, 10, 11, 12, 13, 14, 15] [1, 2, 3, 4, 16, 17, 18, 19, 20, 21, 22, 23, 24, 25, 26, 27, 28, 29, 30, 31, 32, 33, 34, 35, 36, 37, 38, 39, 40] rfl rfl (by decide) (by decide) hk1 hFc hP1 hD1 [29, 0, 1, 2, 3, 30, 31, 32, 33, 34, 35, 36, 37, 38, 39, 40, 4, 5, 6, 7, 8, 9, 10, 11, 12, 13, 14, 15, 16, 17, 18, 19, 20, 21, 22, 23, 24, 25, 26, 27, 28] (by decide) rfl
  generalize H1 = H at hP hS ⊢
  refine lv_aload_n hx hb dL_law_455 rfl (lv_at hl 2 rfl) ?_
  refine lv_aload_n hx hb dL_law_456 rfl (lv_at hl 0 rfl) ?_
  refine lv_iload hx hb dL_law_457 (lv_at hl 4 rfl) ?_
  refine lv_iconst (v := 1) hx hb dL_law_459 (by decide) ?_
  refine lv_iadd hx hb dL_law_460 ?_
  have hin := h.1
  have h := h.2
  refine va_sld hx hb hX hbl hbA hS hin dL_law_461 ?_
  have hFc := va_free (wc := (sh_M cs adM mpM mkM mgM mcM mwM mfM mtM mhM mmM mdM mxM mnM szM faM apM waM wrM fuM)) hD hS hA [27, 28, 29, 30, 31, 32, 33, 34, 35, 36, 37, 38, 39] rfl
  refine va_calli (va_runV (As := [.int (xs ((nI i) + 1).toNatClampNeg)]) (rest := [.int r_1]) ⟨hx, hb, hml, hown, hts⟩ (met_X6_ring l D cs ev _ adM mpM mkM mgM mcM mwM mfM mtM mhM mmM mdM mxM mnM szM faM apM waM wrM fuM (xs ((nI i) + 1).toNatClampNeg) _ h) (cwV 1 hts gL_law_X6_ring rfl rfl rfl (by decide +kernel) ⟨Nat.le_of_ble_eq_true rfl, Nat.le_of_ble_eq_true rfl⟩) (mPreV (va_recv hK hP (ci := 5) (q0 := 27) rfl rfl) hP hD hS hK hE hFc [27, 28, 29, 30, 31, 32, 33, 34, 35, 36, 37, 38, 39] (by decide) rfl) rfl rfl hl.1 rfl (lv_room (Nat.le_of_ble_eq_true rfl)) dL_law_462 ⟨hc0, hs0⟩) hS (fun q _ h => hFc q h) hFc (fun r_2 u t H1 locs ht hvm hw hB hz1 hk1 hS => ?_)
  obtain ⟨fa_3, rfl⟩ : ∃ z, z = u := ⟨_, rfl⟩
  have h := hw
  obtain ⟨hP1, hK1, hD1⟩ := hB
  rw [ht] at hP1
  obtain ⟨hP, hD⟩ := mJoin (wr := (sh_G cs adG (adR 0) (adT 0) (adP 0) (adQ 0) ++ sh_R cs adR txR nuR lnR bgR enR ++ sh_T cs adT lfT foT ++ sh_P cs adP kdP grP cvP brP hzP fmP dmP e1P e2P fkP pnP fnP ++ sh_P cs adQ kdQ grQ cvQ brQ hzQ fmQ dmQ e1Q e2Q fkQ pnQ fnQ ++ sh_O cs adO ouO)) (w1 := (sh_M cs adM mpM mkM mgM mcM mwM mfM mtM mhM mmM mdM mxM mnM szM fa_3 apM waM wrM fuM)) (w' := (sh_G cs adG (adR 0) (adT 0) (adP 0) (adQ 0) ++ sh_R cs adR txR nuR lnR bgR enR ++ sh_T cs adT lfT foT ++ sh_P cs adP kdP grP cvP brP hzP fmP dmP e1P e2P fkP pnP fnP ++ sh_P cs adQ kdQ grQ cvQ brQ hzQ fmQ dmQ e1Q e2Q fkQ pnQ fnQ ++ sh_M cs adM mpM mkM mgM mcM mwM mfM mtM mhM mmM mdM mxM mnM szM fa_3 apM waM wrM fuM ++ sh_O cs adO ouO)) hP hD [27, 28, 29, 30, 31, 32, 33, 34, 35, 36, 37, 38, 39] [0, 1, 2, 3, 4, 5, 6, 7, 8, 9, 10, 11, 12, 13, 14, 15, 16, 17, 18, 19, 20, 21, 22, 23, 24, 25, 26, 40] rfl rfl (by decide) (by decide) hk1 hFc hP1 hD1 [0, 1, 2, 3, 4, 5, 6, 7, 8, 9, 10, 11, 12, 13, 14, 15, 16, 17, 18, 19, 20, 21, 22, 23, 24, 25, 26, 28, 29, 30, 31, 32, 33, 34, 35, 36, 37, 38, 39, 40, 27] (by decide) rfl
  generalize H1 = H at hP hS ⊢
  refine lv_icmp_eq (tgt := 935) hx hb dL_law_465 (by decide) (fun c_4 => ?_) (fun c_4 => ?_)
  · have h := h.1 c_4
    refine lv_iinc (v := (nI i) + 4) (lv' := [(4, .int ((nI i) + 4)), (0, .ref b), (1, .ref (adG 0)), (2, .ref (adM 0)), (3, .ref (adO 0))]) hx hb dL_law_935 hl (k := 4) rfl rfl (by decide) rfl (fun ls hl => ?_)
    refine lv_goto (tgt := 23) hx hb dL_law_938 (by decide) ?_
    have h := h
    refine W.widen (k := 100 + (i + 4)) (n := 20000 + 6 * (i + 4)) (by omega) (by omega) ?_
    have hl := lv_sub (l' := [(0, .ref b), (1, .ref (adG 0)), (2, .ref (adM 0)), (3, .ref (adO 0)), (4, .int ((nI i) + 4))]) hl [1, 2, 3, 4, 0] rfl
    rw [show (nI i) + 4 = nI (i + 4) from nI_add i 4] at hl
    exact h adG adR adT adP adQ adM adO _ _ hP hD hS ls hl
  · have h := h.2 c_4
    refine lv_iconst (v := 0) hx hb dL_law_468 (by decide) ?_
    exact h.elim
def wp_law470 (L : Nat) (xs : Nat → Int32) (A23 : Nat → (Nat → Int32) → (Nat → Int32) → Int32 → Int32 → Int32 → Int32 → Int32 → (Nat → Int32) → (Nat → Int64) → (Nat → Int32) → (Nat → Int32) → (Nat → Int32) → (Nat → Int32) → (Nat → Int32) → (Nat → Int32) → (Nat → Int32) → (Nat → Int32) → Int32 → Int32 → (Nat → Int32) → (Nat → Int64) → (Nat → Int32) → (Nat → Int32) → (Nat → Int32) → (Nat → Int32) → (Nat → Int32) → (Nat → Int32) → (Nat → Int32) → (Nat → Int32) → Int32 → Int32 → (Nat → Int32) → (Nat → Int32) → (Nat → Int32) → (Nat → Int32) → (Nat → Int32) → (Nat → Int32) → (Nat → Int32) → (Nat → Int32) → (Nat → Int32) → (Nat → Int32) → (Nat → Int32) → (Nat → Int32) → Int32 → Int32 → Int32 → Int32 → Int32 → Int32 → (Nat → Int64) → Prop) (i : Nat) (txR : Nat → Int32) (nuR : Nat → Int32) (lnR : Int32) (bgR : Int32) (enR : Int32) (lfT : Int32) (foT : Int32) (kdP : Nat → Int32) (grP : Nat → Int64) (cvP : Nat → Int32) (brP : Nat → Int32) (hzP : Nat → Int32) (fmP : Nat → Int32) (dmP : Nat → Int32) (e1P : Nat → Int32) (e2P : Nat → Int32) (fkP : Nat → Int32) (pnP : Int32) (fnP : Int32) (kdQ : Nat → Int32) (grQ : Nat → Int64) (cvQ : Nat → Int32) (brQ : Nat → Int32) (hzQ : Nat → Int32) (fmQ : Nat → Int32) (dmQ : Nat → Int32) (e1Q : Nat → Int32) (e2Q : Nat → Int32) (fkQ : Nat → Int32) (pnQ : Int32) (fnQ : Int32) (mpM : Nat → Int32) (mkM : Nat → Int32) (mgM : Nat → Int32) (mcM : Nat → Int32) (mwM : Nat → Int32) (mfM : Nat → Int32) (mtM : Nat → Int32) (mhM : Nat → Int32) (mmM : Nat → Int32) (mdM : Nat → Int32) (mxM : Nat → Int32) (mnM : Nat → Int32) (szM : Int32) (faM : Int32) (apM : Int32) (waM : Int32) (wrM : Int32) (fuM : Int32) (ouO : Nat → Int64) : Prop :=
    (vp_in ((nI i) + 1) L ∧ (vp_in ((nI i) + 2) L ∧ wp_X5_option fmP pnP (xs ((nI i) + 1).toNatClampNeg) (xs ((nI i) + 2).toNatClampNeg) (fun r_1 fm_2 => (vp_in ((nI i) + 1) L ∧ (vp_in ((nI i) + 2) L ∧ wp_X6_option mpM mkM mgM mcM mwM mfM mtM mhM mmM mdM (xs ((nI i) + 1).toNatClampNeg) (xs ((nI i) + 2).toNatClampNeg) (fun r_3 u => match u with | (mp_4, mk_5, mg_6, mc_7, mw_8, mf_9, mt_10, mh_11, mm_12, md_13, fa_14) => ((r_1 = r_3 → A23 (i + 4) txR nuR lnR bgR enR lfT foT kdP grP cvP brP hzP fm_2 dmP e1P e2P fkP pnP fnP kdQ grQ cvQ brQ hzQ fmQ dmQ e1Q e2Q fkQ pnQ fnQ mp_4 mk_5 mg_6 mc_7 mw_8 mf_9 mt_10 mh_11 mm_12 md_13 mxM mnM szM fa_14 apM waM wrM fuM ouO) ∧ (¬ r_1 = r_3 → False))))))))
set_option maxHeartbeats 4000000 in
set_option maxRecDepth 100000 in
theorem law_c470 {p : Program} {l : Launch} {e : Env} {s : State} {m : MethodId} {below : List Frame} {meth : Method} {c : Code} {b L : Nat} {xs : Nat → Int32} {D : va_G} {cs : Nat → ClassId} {ev : Nat → Nat → Nat} {i : Nat} {txR : Nat → Int32} {nuR : Nat → Int32} {lnR : Int32} {bgR : Int32} {enR : Int32} {lfT : Int32} {foT : Int32} {kdP : Nat → Int32} {grP : Nat → Int64} {cvP : Nat → Int32} {brP : Nat → Int32} {hzP : Nat → Int32} {fmP : Nat → Int32} {dmP : Nat → Int32} {e1P : Nat → Int32} {e2P : Nat → Int32} {fkP : Nat → Int32} {pnP : Int32} {fnP : Int32} {kdQ : Nat → Int32} {grQ : Nat → Int64} {cvQ : Nat → Int32} {brQ : Nat → Int32} {hzQ : Nat → Int32} {fmQ : Nat → Int32} {dmQ : Nat → Int32} {e1Q : Nat → Int32} {e2Q : Nat → Int32} {fkQ : Nat → Int32} {pnQ : Int32} {fnQ : Int32} {mpM : Nat → Int32} {mkM : Nat → Int32} {mgM : Nat → Int32} {mcM : Nat → Int32} {mwM : Nat → Int32} {mfM : Nat → Int32} {mtM : Nat → Int32} {mhM : Nat → Int32} {mmM : Nat → Int32} {mdM : Nat → Int32} {mxM : Nat → Int32} {mnM : Nat → Int32} {szM : Int32} {faM : Int32} {apM : Int32} {waM : Int32} {wrM : Int32} {fuM : Int32} {ouO : Nat → Int64} (hnt : l.stackTraces = false) (C0 : lw_At p s m meth c b L xs) (hLi : i ≤ 2048) (hK : va_K D vwCl (tyS cs) s) (hE : EV ev (fun q : Nat => s.heap.size ≤ q) s s.heap) (hTV : TV (fun q : Nat => s.heap.size ≤ q) s s.heap) (h : wp_law470 L xs (law_A p l e s m below meth c b D cs) i txR nuR lnR bgR enR lfT foT kdP grP cvP brP hzP fmP dmP e1P e2P fkP pnP fnP kdQ grQ cvQ brQ hzQ fmQ dmQ e1Q e2Q fkQ pnQ fnQ mpM mkM mgM mcM mwM mfM mtM mhM mmM mdM mxM mnM szM faM apM waM wrM fuM ouO) : ∀ (adG adR adT adP adQ adM adO : Nat → Nat) (H : Heap) (locs : List Loc), va_P D vwCl (sh_G cs adG (adR 0) (adT 0) (adP 0) (adQ 0) ++ sh_R cs adR txR nuR lnR bgR enR ++ sh_T cs adT lfT foT ++ sh_P cs adP kdP grP cvP brP hzP fmP dmP e1P e2P fkP pnP fnP ++ sh_P cs adQ kdQ grQ cvQ brQ hzQ fmQ dmQ e1Q e2Q fkQ pnQ fnQ ++ sh_M cs adM mpM mkM mgM mcM mwM mfM mtM mhM mmM mdM mxM mnM szM faM apM waM wrM fuM ++ sh_O cs adO ouO) H → va_D (fun q : Nat => s.heap.size ≤ q) (sh_G cs adG (adR 0) (adT 0) (adP 0) (adQ 0) ++ sh_R cs adR txR nuR lnR bgR enR ++ sh_T cs adT lfT foT ++ sh_P cs adP kdP grP cvP brP hzP fmP dmP e1P e2P fkP pnP fnP ++ sh_P cs adQ kdQ grQ cvQ brQ hzQ fmQ dmQ e1Q e2Q fkQ pnQ fnQ ++ sh_M cs adM mpM mkM mgM mcM mwM mfM mtM mhM mmM mdM mxM mnM szM faM apM waM wrM fuM ++ sh_O cs adO ouO) → va_S (fun q : Nat => s.heap.size ≤ q) s.heap H locs → ∀ ls : Array Slot, lv_has ls 8 [(0, .ref b), (1, .ref (adG 0)), (2, .ref (adM 0)), (3, .ref (adO 0)), (4, .int (nI i))] → W p l e room_1 s m #[Value.ref b] below meth c H locs (100 + i) (20000 + 6 * i) (lw_Z below #[Value.ref b] s) (F0 m 470 ls []) := by
  obtain ⟨hx, hb, hr, hml, hown, hts, hX, hbl, hlocks, hgv⟩ := id C0
  have hts : ∀ w ∈ wsL_law, w.before #[Value.ref b] s = true := fun w h => hts w (wsL_law_in2 w h)
  have hA : ∀ q : Nat, s.heap.size ≤ q → (fun q : Nat => s.heap.size ≤ q) q := fun _ h => h
  have hbA : ¬ (fun q : Nat => s.heap.size ≤ q) b := Nat.not_le.mpr hbl
  have hc0 : 100 + i + 0 ≤ room_1.cells := by show 100 + i + 0 ≤ 601024; omega
  have hs0 : 20000 + 6 * i + 0 ≤ room_1.slots := by show 20000 + 6 * i + 0 ≤ 7293034; omega
  have hc1 : 100 + i + 1 ≤ room_1.cells := by show 100 + i + 1 ≤ 601024; omega
  have hs1 : 20000 + 6 * i + 6 ≤ room_1.slots := by show 20000 + 6 * i + 6 ≤ 7293034; omega
  intro adG adR adT adP adQ adM adO H locs hP hD hS ls hl
  refine lv_aload_n hx hb dL_law_470 rfl (lv_at hl 1 rfl) ?_
  refine lv_aload_n hx hb dL_law_471 rfl (lv_at hl 0 rfl) ?_
  refine lv_iload hx hb dL_law_472 (lv_at hl 4 rfl) ?_
  refine lv_iconst (v := 1) hx hb dL_law_474 (by decide) ?_
  refine lv_iadd hx hb dL_law_475 ?_
  have hin := h.1
  have h := h.2
  refine va_sld hx hb hX hbl hbA hS hin dL_law_476 ?_
  refine lv_aload_n hx hb dL_law_477 rfl (lv_at hl 0 rfl) ?_
  refine lv_iload hx hb dL_law_478 (lv_at hl 4 rfl) ?_
  refine lv_iconst (v := 2) hx hb dL_law_480 (by decide) ?_
  refine lv_iadd hx hb dL_law_481 ?_
  have hin := h.1
  have h := h.2
  refine va_sld hx hb hX hbl hbA hS hin dL_law_482 ?_
  have hFc := va_free (wc := (sh_G cs adG (adR 0) (adT 0) (adP 0) (adQ 0) ++ sh_P cs adP kdP grP cvP brP hzP fmP dmP e1P e2P fkP pnP fnP)) hD hS hA [0, 5, 6, 7, 8, 9, 10, 11, 12, 13, 14, 15] rfl
  refine va_calli (va_runV (As := [.int (xs ((nI i) + 1).toNatClampNeg), .int (xs ((nI i) + 2).toNatClampNeg)]) (rest := []) ⟨hx, hb, hml, hown, hts⟩ (met_X5_option l D cs ev _ adG adP (adR 0) (adT 0) (adQ 0) kdP grP cvP brP hzP fmP dmP e1P e2P fkP pnP fnP (xs ((nI i) + 1).toNatClampNeg) (xs ((nI i) + 2).toNatClampNeg) _ h) (cwV 2 hts gL_law_X5_option rfl rfl rfl (by decide +kernel) ⟨Nat.le_of_ble_eq_true rfl, Nat.le_of_ble_eq_true rfl⟩) (mPreV (va_recv hK hP (ci := 4) (q0 := 0) rfl rfl) hP hD hS hK hE hFc [0, 5, 6, 7, 8, 9, 10, 11, 12, 13, 14, 15] (by decide) rfl) rfl rfl hl.1 rfl (lv_room (Nat.le_of_ble_eq_true rfl)) dL_law_483 ⟨hc0, hs0⟩) hS (fun q _ h => hFc q h) hFc (fun r_1 u t H1 locs ht hvm hw hB hz1 hk1 hS => ?_)
  obtain ⟨fm_2, rfl⟩ : ∃ z, z = u := ⟨_, rfl⟩
  have h := hw
  obtain ⟨hP1, hK1, hD1⟩ := hB
  rw [ht] at hP1
  obtain ⟨hP, hD⟩ := mJoin (wr := (sh_R cs adR txR nuR lnR bgR enR ++ sh_T cs adT lfT foT ++ sh_P cs adQ kdQ grQ cvQ brQ hzQ fmQ dmQ e1Q e2Q fkQ pnQ fnQ ++ sh_M cs adM mpM mkM mgM mcM mwM mfM mtM mhM mmM mdM mxM mnM szM faM apM waM wrM fuM ++ sh_O cs adO ouO)) (w1 := (sh_G cs adG (adR 0) (adT 0) (adP 0) (adQ 0) ++ sh_P cs adP kdP grP cvP brP hzP fm_2 dmP e1P e2P fkP pnP fnP)) (w' := (sh_G cs adG (adR 0) (adT 0) (adP 0) (adQ 0) ++ sh_R cs adR txR nuR lnR bgR enR ++ sh_T cs adT lfT foT ++ sh_P cs adP kdP grP cvP brP hzP fm_2 dmP e1P e2P fkP pnP fnP ++ sh_P cs adQ kdQ grQ cvQ brQ hzQ fmQ dmQ e1Q e2Q fkQ pnQ fnQ ++ sh_M cs adM mpM mkM mgM mcM mwM mfM mtM mhM mmM mdM mxM mnM szM faM apM waM wrM fuM ++ sh_O cs adO ouO)) hP hD [0, 5, 6, 7, 8, 9, 10, 11, 12, 13, 14, 15] [1, 2, 3, 4, 16, 17, 18, 19, 20, 21, 22, 23, 24, 25, 26, 27, 28, 29, 30, 31, 32, 33, 34, 35, 36, 37, 38, 39, 40] rfl rfl (by decide) (by decide) hk1 hFc hP1 hD1 [29, 0, 1, 2, 3, 30, 31, 32, 33, 34, 35, 36, 37, 38, 39, 40, 4, 5, 6, 7, 8, 9, 10, 11, 12, 13, 14, 15, 16, 17, 18, 19, 20, 21, 22, 23, 24, 25, 26, 27, 28] (by decide) rfl
  generalize H1 = H at hP hS ⊢
  refine lv_aload_n hx hb dL_law_486 rfl (lv_at hl 2 rfl) ?_
  refine lv_aload_n hx hb dL_law_487 rfl (lv_at hl 0 rfl) ?_
  refine lv_iload hx hb dL_law_488 (lv_at hl 4 rfl) ?_
  refine lv_iconst (v := 1) hx hb dL_law_490 (by decide) ?_
  refine lv_iadd hx hb dL_law_491 ?_
  have hin := h.1
  have h := h.2
  refine va_sld hx hb hX hbl hbA hS hin dL_law_492 ?_
  refine lv_aload_n hx hb dL_law_493 rfl (lv_at hl 0 rfl) ?_
  refine lv_iload hx hb dL_law_494 (lv_at hl 4 rfl) ?_
  refine lv_iconst (v := 2) hx hb dL_law_496 (by decide) ?_
  refine lv_iadd hx hb dL_law_497 ?_
  have hin := h.1
  have h := h.2
  refine va_sld hx hb hX hbl hbA hS hin dL_law_498 ?_
  have hFc := va_free (wc := (sh_M cs adM mpM mkM mgM mcM mwM mfM mtM mhM mmM mdM mxM mnM szM faM apM waM wrM fuM)) hD hS hA [27, 28, 29, 30, 31, 32, 33, 34, 35, 36, 37, 38, 39] rfl
  refine va_calli (va_runV (As := [.int (xs ((nI i) + 1).toNatClampNeg), .int (xs ((nI i) + 2).toNatClampNeg)]) (rest := [.int r_1]) ⟨hx, hb, hml, hown, hts⟩ (met_X6_option l D cs ev _ adM mpM mkM mgM mcM mwM mfM mtM mhM mmM mdM mxM mnM szM faM apM waM wrM fuM (xs ((nI i) + 1).toNatClampNeg) (xs ((nI i) + 2).toNatClampNeg) _ h) (cwV 2 hts gL_law_X6_option rfl rfl rfl (by decide +kernel) ⟨Nat.le_of_ble_eq_true rfl, Nat.le_of_ble_eq_true rfl⟩) (mPreV (va_recv hK hP (ci := 5) (q0 := 27) rfl rfl) hP hD hS hK hE hFc [27, 28, 29, 30, 31, 32, 33, 34, 35, 36, 37, 38, 39] (by decide) rfl) rfl rfl hl.1 rfl (lv_room (Nat.le_of_ble_eq_true rfl)) dL_law_499 ⟨hc0, hs0⟩) hS (fun q _ h => hFc q h) hFc (fun r_3 u t H1 locs ht hvm hw hB hz1 hk1 hS => ?_)
  obtain ⟨mp_4, mk_5, mg_6, mc_7, mw_8, mf_9, mt_10, mh_11, mm_12, md_13, fa_14⟩ := u
  have h := hw
  obtain ⟨hP1, hK1, hD1⟩ := hB
  rw [ht] at hP1
  obtain ⟨hP, hD⟩ := mJoin (wr := (sh_G cs adG (adR 0) (adT 0) (adP 0) (adQ 0) ++ sh_R cs adR txR nuR lnR bgR enR ++ sh_T cs adT lfT foT ++ sh_P cs adP kdP grP cvP brP hzP fm_2 dmP e1P e2P fkP pnP fnP ++ sh_P cs adQ kdQ grQ cvQ brQ hzQ fmQ dmQ e1Q e2Q fkQ pnQ fnQ ++ sh_O cs adO ouO)) (w1 := (sh_M cs adM mp_4 mk_5 mg_6 mc_7 mw_8 mf_9 mt_10 mh_11 mm_12 md_13 mxM mnM szM fa_14 apM waM wrM fuM)) (w' := (sh_G cs adG (adR 0) (adT 0) (adP 0) (adQ 0) ++ sh_R cs adR txR nuR lnR bgR enR ++ sh_T cs adT lfT foT ++ sh_P cs adP kdP grP cvP brP hzP fm_2 dmP e1P e2P fkP pnP fnP ++ sh_P cs adQ kdQ grQ cvQ brQ hzQ fmQ dmQ e1Q e2Q fkQ pnQ fnQ ++ sh_M cs adM mp_4 mk_5 mg_6 mc_7 mw_8 mf_9 mt_10 mh_11 mm_12 md_13 mxM mnM szM fa_14 apM waM wrM fuM ++ sh_O cs adO ouO)) hP hD [27, 28, 29, 30, 31, 32, 33, 34, 35, 36, 37, 38, 39] [0, 1, 2, 3, 4, 5, 6, 7, 8, 9, 10, 11, 12, 13, 14, 15, 16, 17, 18, 19, 20, 21, 22, 23, 24, 25, 26, 40] rfl rfl (by decide) (by decide) hk1 hFc hP1 hD1 [0, 1, 2, 3, 4, 5, 6, 7, 8, 9, 10, 11, 12, 13, 14, 15, 16, 17, 18, 19, 20, 21, 22, 23, 24, 25, 26, 28, 29, 30, 31, 32, 33, 34, 35, 36, 37, 38, 39, 40, 27] (by decide) rfl
  generalize H1 = H at hP hS ⊢
  refine lv_icmp_eq (tgt := 935) hx hb dL_law_502 (by decide) (fun c_15 => ?_) (fun c_15 => ?_)
  · have h := h.1 c_15
    refine lv_iinc (v := (nI i) + 4) (lv' := [(4, .int ((nI i) + 4)), (0, .ref b), (1, .ref (adG 0)), (2, .ref (adM 0)), (3, .ref (adO 0))]) hx hb dL_law_935 hl (k := 4) rfl rfl (by decide) rfl (fun ls hl => ?_)
    refine lv_goto (tgt := 23) hx hb dL_law_938 (by decide) ?_
    have h := h
    refine W.widen (k := 100 + (i + 4)) (n := 20000 + 6 * (i + 4)) (by omega) (by omega) ?_
    have hl := lv_sub (l' := [(0, .ref b), (1, .ref (adG 0)), (2, .ref (adM 0)), (3, .ref (adO 0)), (4, .int ((nI i) + 4))]) hl [1, 2, 3, 4, 0] rfl
    rw [show (nI i) + 4 = nI (i + 4) from nI_add i 4] at hl
    exact h adG adR adT adP adQ adM adO _ _ hP hD hS ls hl
  · have h := h.2 c_15
    refine lv_iconst (v := 0) hx hb dL_law_505 (by decide) ?_
    exact h.elim
def wp_law507 (L : Nat) (xs : Nat → Int32) (A23 : Nat → (Nat → Int32) → (Nat → Int32) → Int32 → Int32 → Int32 → Int32 → Int32 → (Nat → Int32) → (Nat → Int64) → (Nat → Int32) → (Nat → Int32) → (Nat → Int32) → (Nat → Int32) → (Nat → Int32) → (Nat → Int32) → (Nat → Int32) → (Nat → Int32) → Int32 → Int32 → (Nat → Int32) → (Nat → Int64) → (Nat → Int32) → (Nat → Int32) → (Nat → Int32) → (Nat → Int32) → (Nat → Int32) → (Nat → Int32) → (Nat → Int32) → (Nat → Int32) → Int32 → Int32 → (Nat → Int32) → (Nat → Int32) → (Nat → Int32) → (Nat → Int32) → (Nat → Int32) → (Nat → Int32) → (Nat → Int32) → (Nat → Int32) → (Nat → Int32) → (Nat → Int32) → (Nat → Int32) → (Nat → Int32) → Int32 → Int32 → Int32 → Int32 → Int32 → Int32 → (Nat → Int64) → Prop) (i : Nat) (txR : Nat → Int32) (nuR : Nat → Int32) (lnR : Int32) (bgR : Int32) (enR : Int32) (lfT : Int32) (foT : Int32) (kdP : Nat → Int32) (grP : Nat → Int64) (cvP : Nat → Int32) (brP : Nat → Int32) (hzP : Nat → Int32) (fmP : Nat → Int32) (dmP : Nat → Int32) (e1P : Nat → Int32) (e2P : Nat → Int32) (fkP : Nat → Int32) (pnP : Int32) (fnP : Int32) (kdQ : Nat → Int32) (grQ : Nat → Int64) (cvQ : Nat → Int32) (brQ : Nat → Int32) (hzQ : Nat → Int32) (fmQ : Nat → Int32) (dmQ : Nat → Int32) (e1Q : Nat → Int32) (e2Q : Nat → Int32) (fkQ : Nat → Int32) (pnQ : Int32) (fnQ : Int32) (mpM : Nat → Int32) (mkM : Nat → Int32) (mgM : Nat → Int32) (mcM : Nat → Int32) (mwM : Nat → Int32) (mfM : Nat → Int32) (mtM : Nat → Int32) (mhM : Nat → Int32) (mmM : Nat → Int32) (mdM : Nat → Int32) (mxM : Nat → Int32) (mnM : Nat → Int32) (szM : Int32) (faM : Int32) (apM : Int32) (waM : Int32) (wrM : Int32) (fuM : Int32) (ouO : Nat → Int64) : Prop :=
    (vp_in ((nI i) + 1) L ∧ (vp_in ((nI i) + 2) L ∧ wp_X5_family fmP pnP (xs ((nI i) + 1).toNatClampNeg) (xs ((nI i) + 2).toNatClampNeg) (fun r_1 _ => (vp_in ((nI i) + 1) L ∧ (vp_in ((nI i) + 2) L ∧ wp_X6_family mpM mmM faM (xs ((nI i) + 1).toNatClampNeg) (xs ((nI i) + 2).toNatClampNeg) (fun r_2 fa_3 => ((r_1 = r_2 → A23 (i + 4) txR nuR lnR bgR enR lfT foT kdP grP cvP brP hzP fmP dmP e1P e2P fkP pnP fnP kdQ grQ cvQ brQ hzQ fmQ dmQ e1Q e2Q fkQ pnQ fnQ mpM mkM mgM mcM mwM mfM mtM mhM mmM mdM mxM mnM szM fa_3 apM waM wrM fuM ouO) ∧ (¬ r_1 = r_2 → False))))))))
set_option maxHeartbeats 4000000 in
set_option maxRecDepth 100000 in
theorem law_c507 {p : Program} {l : Launch} {e : Env} {s : State} {m : MethodId} {below : List Frame} {meth : Method} {c : Code} {b L : Nat} {xs : Nat → Int32} {D : va_G} {cs : Nat → ClassId} {ev : Nat → Nat → Nat} {i : Nat} {txR : Nat → Int32} {nuR : Nat → Int32} {lnR : Int32} {bgR : Int32} {enR : Int32} {lfT : Int32} {foT : Int32} {kdP : Nat → Int32} {grP : Nat → Int64} {cvP : Nat → Int32} {brP : Nat → Int32} {hzP : Nat → Int32} {fmP : Nat → Int32} {dmP : Nat → Int32} {e1P : Nat → Int32} {e2P : Nat → Int32} {fkP : Nat → Int32} {pnP : Int32} {fnP : Int32} {kdQ : Nat → Int32} {grQ : Nat → Int64} {cvQ : Nat → Int32} {brQ : Nat → Int32} {hzQ : Nat → Int32} {fmQ : Nat → Int32} {dmQ : Nat → Int32} {e1Q : Nat → Int32} {e2Q : Nat → Int32} {fkQ : Nat → Int32} {pnQ : Int32} {fnQ : Int32} {mpM : Nat → Int32} {mkM : Nat → Int32} {mgM : Nat → Int32} {mcM : Nat → Int32} {mwM : Nat → Int32} {mfM : Nat → Int32} {mtM : Nat → Int32} {mhM : Nat → Int32} {mmM : Nat → Int32} {mdM : Nat → Int32} {mxM : Nat → Int32} {mnM : Nat → Int32} {szM : Int32} {faM : Int32} {apM : Int32} {waM : Int32} {wrM : Int32} {fuM : Int32} {ouO : Nat → Int64} (hnt : l.stackTraces = false) (C0 : lw_At p s m meth c b L xs) (hLi : i ≤ 2048) (hK : va_K D vwCl (tyS cs) s) (hE : EV ev (fun q : Nat => s.heap.size ≤ q) s s.heap) (hTV : TV (fun q : Nat => s.heap.size ≤ q) s s.heap) (h : wp_law507 L xs (law_A p l e s m below meth c b D cs) i txR nuR lnR bgR enR lfT foT kdP grP cvP brP hzP fmP dmP e1P e2P fkP pnP fnP kdQ grQ cvQ brQ hzQ fmQ dmQ e1Q e2Q fkQ pnQ fnQ mpM mkM mgM mcM mwM mfM mtM mhM mmM mdM mxM mnM szM faM apM waM wrM fuM ouO) : ∀ (adG adR adT adP adQ adM adO : Nat → Nat) (H : Heap) (locs : List Loc), va_P D vwCl (sh_G cs adG (adR 0) (adT 0) (adP 0) (adQ 0) ++ sh_R cs adR txR nuR lnR bgR enR ++ sh_T cs adT lfT foT ++ sh_P cs adP kdP grP cvP brP hzP fmP dmP e1P e2P fkP pnP fnP ++ sh_P cs adQ kdQ grQ cvQ brQ hzQ fmQ dmQ e1Q e2Q fkQ pnQ fnQ ++ sh_M cs adM mpM mkM mgM mcM mwM mfM mtM mhM mmM mdM mxM mnM szM faM apM waM wrM fuM ++ sh_O cs adO ouO) H → va_D (fun q : Nat => s.heap.size ≤ q) (sh_G cs adG (adR 0) (adT 0) (adP 0) (adQ 0) ++ sh_R cs adR txR nuR lnR bgR enR ++ sh_T cs adT lfT foT ++ sh_P cs adP kdP grP cvP brP hzP fmP dmP e1P e2P fkP pnP fnP ++ sh_P cs adQ kdQ grQ cvQ brQ hzQ fmQ dmQ e1Q e2Q fkQ pnQ fnQ ++ sh_M cs adM mpM mkM mgM mcM mwM mfM mtM mhM mmM mdM mxM mnM szM faM apM waM wrM fuM ++ sh_O cs adO ouO) → va_S (fun q : Nat => s.heap.size ≤ q) s.heap H locs → ∀ ls : Array Slot, lv_has ls 8 [(0, .ref b), (1, .ref (adG 0)), (2, .ref (adM 0)), (3, .ref (adO 0)), (4, .int (nI i))] → W p l e room_1 s m #[Value.ref b] below meth c H locs (100 + i) (20000 + 6 * i) (lw_Z below #[Value.ref b] s) (F0 m 507 ls []) := by
  obtain ⟨hx, hb, hr, hml, hown, hts, hX, hbl, hlocks, hgv⟩ := id C0
  have hts : ∀ w ∈ wsL_law, w.before #[Value.ref b] s = true := fun w h => hts w (wsL_law_in2 w h)
  have hA : ∀ q : Nat, s.heap.size ≤ q → (fun q : Nat => s.heap.size ≤ q) q := fun _ h => h
  have hbA : ¬ (fun q : Nat => s.heap.size ≤ q) b := Nat.not_le.mpr hbl
  have hc0 : 100 + i + 0 ≤ room_1.cells := by show 100 + i + 0 ≤ 601024; omega
  have hs0 : 20000 + 6 * i + 0 ≤ room_1.slots := by show 20000 + 6 * i + 0 ≤ 7293034; omega
  have hc1 : 100 + i + 1 ≤ room_1.cells := by show 100 + i + 1 ≤ 601024; omega
  have hs1 : 20000 + 6 * i + 6 ≤ room_1.slots := by show 20000 + 6 * i + 6 ≤ 7293034; omega
  intro adG adR adT adP adQ adM adO H locs hP hD hS ls hl
  refine lv_aload_n hx hb dL_law_507 rfl (lv_at hl 1 rfl) ?_
  refine lv_aload_n hx hb dL_law_508 rfl (lv_at hl 0 rfl) ?_
  refine lv_iload hx hb dL_law_509 (lv_at hl 4 rfl) ?_
  refine lv_iconst (v := 1) hx hb dL_law_511 (by decide) ?_
  refine lv_iadd hx hb dL_law_512 ?_
  have hin := h.1
  have h := h.2
  refine va_sld hx hb hX hbl hbA hS hin dL_law_513 ?_
  refine lv_aload_n hx hb dL_law_514 rfl (lv_at hl 0 rfl) ?_
  refine lv_iload hx hb dL_law_515 (lv_at hl 4 rfl) ?_
  refine lv_iconst (v := 2) hx hb dL_law_517 (by decide) ?_
  refine lv_iadd hx hb dL_law_518 ?_
  have hin := h.1
  have h := h.2
  refine va_sld hx hb hX hbl hbA hS hin dL_law_519 ?_
  have hFc := va_free (wc := (sh_G cs adG (adR 0) (adT 0) (adP 0) (adQ 0) ++ sh_P cs adP kdP grP cvP brP hzP fmP dmP e1P e2P fkP pnP fnP)) hD hS hA [0, 5, 6, 7, 8, 9, 10, 11, 12, 13, 14, 15] rfl
  refine va_calli (va_runV (As := [.int (xs ((nI i) + 1).toNatClampNeg), .int (xs ((nI i) + 2).toNatClampNeg)]) (rest := []) ⟨hx, hb, hml, hown, hts⟩ (met_X5_family l D cs ev _ adG adP (adR 0) (adT 0) (adQ 0) kdP grP cvP brP hzP fmP dmP e1P e2P fkP pnP fnP (xs ((nI i) + 1).toNatClampNeg) (xs ((nI i) + 2).toNatClampNeg) _ h) (cwV 2 hts gL_law_X5_family rfl rfl rfl (by decide +kernel) ⟨Nat.le_of_ble_eq_true rfl, Nat.le_of_ble_eq_true rfl⟩) (mPreV (va_recv hK hP (ci := 4) (q0 := 0) rfl rfl) hP hD hS hK hE hFc [0, 5, 6, 7, 8, 9, 10, 11, 12, 13, 14, 15] (by decide) rfl) rfl rfl hl.1 rfl (lv_room (Nat.le_of_ble_eq_true rfl)) dL_law_520 ⟨hc0, hs0⟩) hS (fun q _ h => hFc q h) hFc (fun r_1 u t H1 locs ht hvm hw hB hz1 hk1 hS => ?_)
  have h := hw
  obtain ⟨hP1, hK1, hD1⟩ := hB
  rw [ht] at hP1
  obtain ⟨hP, hD⟩ := mJoin (wr := (sh_R cs adR txR nuR lnR bgR enR ++ sh_T cs adT lfT foT ++ sh_P cs adQ kdQ grQ cvQ brQ hzQ fmQ dmQ e1Q e2Q fkQ pnQ fnQ ++ sh_M cs adM mpM mkM mgM mcM mwM mfM mtM mhM mmM mdM mxM mnM szM faM apM waM wrM fuM ++ sh_O cs adO ouO)) (w1 := (sh_G cs adG (adR 0) (adT 0) (adP 0) (adQ 0) ++ sh_P cs adP kdP grP cvP brP hzP fmP dmP e1P e2P fkP pnP fnP)) (w' := (sh_G cs adG (adR 0) (adT 0) (adP 0) (adQ 0) ++ sh_R cs adR txR nuR lnR bgR enR ++ sh_T cs adT lfT foT ++ sh_P cs adP kdP grP cvP brP hzP fmP dmP e1P e2P fkP pnP fnP ++ sh_P cs adQ kdQ grQ cvQ brQ hzQ fmQ dmQ e1Q e2Q fkQ pnQ fnQ ++ sh_M cs adM mpM mkM mgM mcM mwM mfM mtM mhM mmM mdM mxM mnM szM faM apM waM wrM fuM ++ sh_O cs adO ouO)) hP hD [0, 5, 6, 7, 8, 9, 10, 11, 12, 13, 14, 15] [1, 2, 3, 4, 16, 17, 18, 19, 20, 21, 22, 23, 24, 25, 26, 27, 28, 29, 30, 31, 32, 33, 34, 35, 36, 37, 38, 39, 40] rfl rfl (by decide) (by decide) hk1 hFc hP1 hD1 [29, 0, 1, 2, 3, 30, 31, 32, 33, 34, 35, 36, 37, 38, 39, 40, 4, 5, 6, 7, 8, 9, 10, 11, 12, 13, 14, 15, 16, 17, 18, 19, 20, 21, 22, 23, 24, 25, 26, 27, 28] (by decide) rfl
  generalize H1 = H at hP hS ⊢
  refine lv_aload_n hx hb dL_law_523 rfl (lv_at hl 2 rfl) ?_
  refine lv_aload_n hx hb dL_law_524 rfl (lv_at hl 0 rfl) ?_
  refine lv_iload hx hb dL_law_525 (lv_at hl 4 rfl) ?_
  refine lv_iconst (v := 1) hx hb dL_law_527 (by decide) ?_
  refine lv_iadd hx hb dL_law_528 ?_
  have hin := h.1
  have h := h.2
  refine va_sld hx hb hX hbl hbA hS hin dL_law_529 ?_
  refine lv_aload_n hx hb dL_law_530 rfl (lv_at hl 0 rfl) ?_
  refine lv_iload hx hb dL_law_531 (lv_at hl 4 rfl) ?_
  refine lv_iconst (v := 2) hx hb dL_law_533 (by decide) ?_
  refine lv_iadd hx hb dL_law_534 ?_
  have hin := h.1
  have h := h.2
  refine va_sld hx hb hX hbl hbA hS hin dL_law_535 ?_
  have hFc := va_free (wc := (sh_M cs adM mpM mkM mgM mcM mwM mfM mtM mhM mmM mdM mxM mnM szM faM apM waM wrM fuM)) hD hS hA [27, 28, 29, 30, 31, 32, 33, 34, 35, 36, 37, 38, 39] rfl
  refine va_calli (va_runV (As := [.int (xs ((nI i) + 1).toNatClampNeg), .int (xs ((nI i) + 2).toNatClampNeg)]) (rest := [.int r_1]) ⟨hx, hb, hml, hown, hts⟩ (met_X6_family l D cs ev _ adM mpM mkM mgM mcM mwM mfM mtM mhM mmM mdM mxM mnM szM faM apM waM wrM fuM (xs ((nI i) + 1).toNatClampNeg) (xs ((nI i) + 2).toNatClampNeg) _ h) (cwV 2 hts gL_law_X6_family rfl rfl rfl (by decide +kernel) ⟨Nat.le_of_ble_eq_true rfl, Nat.le_of_ble_eq_true rfl⟩) (mPreV (va_recv hK hP (ci := 5) (q0 := 27) rfl rfl) hP hD hS hK hE hFc [27, 28, 29, 30, 31, 32, 33, 34, 35, 36, 37, 38, 39] (by decide) rfl) rfl rfl hl.1 rfl (lv_room (Nat.le_of_ble_eq_true rfl)) dL_law_536 ⟨hc0, hs0⟩) hS (fun q _ h => hFc q h) hFc (fun r_2 u t H1 locs ht hvm hw hB hz1 hk1 hS => ?_)
  obtain ⟨fa_3, rfl⟩ : ∃ z, z = u := ⟨_, rfl⟩
  have h := hw
  obtain ⟨hP1, hK1, hD1⟩ := hB
  rw [ht] at hP1
  obtain ⟨hP, hD⟩ := mJoin (wr := (sh_G cs adG (adR 0) (adT 0) (adP 0) (adQ 0) ++ sh_R cs adR txR nuR lnR bgR enR ++ sh_T cs adT lfT foT ++ sh_P cs adP kdP grP cvP brP hzP fmP dmP e1P e2P fkP pnP fnP ++ sh_P cs adQ kdQ grQ cvQ brQ hzQ fmQ dmQ e1Q e2Q fkQ pnQ fnQ ++ sh_O cs adO ouO)) (w1 := (sh_M cs adM mpM mkM mgM mcM mwM mfM mtM mhM mmM mdM mxM mnM szM fa_3 apM waM wrM fuM)) (w' := (sh_G cs adG (adR 0) (adT 0) (adP 0) (adQ 0) ++ sh_R cs adR txR nuR lnR bgR enR ++ sh_T cs adT lfT foT ++ sh_P cs adP kdP grP cvP brP hzP fmP dmP e1P e2P fkP pnP fnP ++ sh_P cs adQ kdQ grQ cvQ brQ hzQ fmQ dmQ e1Q e2Q fkQ pnQ fnQ ++ sh_M cs adM mpM mkM mgM mcM mwM mfM mtM mhM mmM mdM mxM mnM szM fa_3 apM waM wrM fuM ++ sh_O cs adO ouO)) hP hD [27, 28, 29, 30, 31, 32, 33, 34, 35, 36, 37, 38, 39] [0, 1, 2, 3, 4, 5, 6, 7, 8, 9, 10, 11, 12, 13, 14, 15, 16, 17, 18, 19, 20, 21, 22, 23, 24, 25, 26, 40] rfl rfl (by decide) (by decide) hk1 hFc hP1 hD1 [0, 1, 2, 3, 4, 5, 6, 7, 8, 9, 10, 11, 12, 13, 14, 15, 16, 17, 18, 19, 20, 21, 22, 23, 24, 25, 26, 28, 29, 30, 31, 32, 33, 34, 35, 36, 37, 38, 39, 40, 27] (by decide) rfl
  generalize H1 = H at hP hS ⊢
  refine lv_icmp_eq (tgt := 935) hx hb dL_law_539 (by decide) (fun c_4 => ?_) (fun c_4 => ?_)
  · have h := h.1 c_4
    refine lv_iinc (v := (nI i) + 4) (lv' := [(4, .int ((nI i) + 4)), (0, .ref b), (1, .ref (adG 0)), (2, .ref (adM 0)), (3, .ref (adO 0))]) hx hb dL_law_935 hl (k := 4) rfl rfl (by decide) rfl (fun ls hl => ?_)
    refine lv_goto (tgt := 23) hx hb dL_law_938 (by decide) ?_
    have h := h
    refine W.widen (k := 100 + (i + 4)) (n := 20000 + 6 * (i + 4)) (by omega) (by omega) ?_
    have hl := lv_sub (l' := [(0, .ref b), (1, .ref (adG 0)), (2, .ref (adM 0)), (3, .ref (adO 0)), (4, .int ((nI i) + 4))]) hl [1, 2, 3, 4, 0] rfl
    rw [show (nI i) + 4 = nI (i + 4) from nI_add i 4] at hl
    exact h adG adR adT adP adQ adM adO _ _ hP hD hS ls hl
  · have h := h.2 c_4
    refine lv_iconst (v := 0) hx hb dL_law_542 (by decide) ?_
    exact h.elim
def wp_law544 (L : Nat) (xs : Nat → Int32) (A23 : Nat → (Nat → Int32) → (Nat → Int32) → Int32 → Int32 → Int32 → Int32 → Int32 → (Nat → Int32) → (Nat → Int64) → (Nat → Int32) → (Nat → Int32) → (Nat → Int32) → (Nat → Int32) → (Nat → Int32) → (Nat → Int32) → (Nat → Int32) → (Nat → Int32) → Int32 → Int32 → (Nat → Int32) → (Nat → Int64) → (Nat → Int32) → (Nat → Int32) → (Nat → Int32) → (Nat → Int32) → (Nat → Int32) → (Nat → Int32) → (Nat → Int32) → (Nat → Int32) → Int32 → Int32 → (Nat → Int32) → (Nat → Int32) → (Nat → Int32) → (Nat → Int32) → (Nat → Int32) → (Nat → Int32) → (Nat → Int32) → (Nat → Int32) → (Nat → Int32) → (Nat → Int32) → (Nat → Int32) → (Nat → Int32) → Int32 → Int32 → Int32 → Int32 → Int32 → Int32 → (Nat → Int64) → Prop) (i : Nat) (txR : Nat → Int32) (nuR : Nat → Int32) (lnR : Int32) (bgR : Int32) (enR : Int32) (lfT : Int32) (foT : Int32) (kdP : Nat → Int32) (grP : Nat → Int64) (cvP : Nat → Int32) (brP : Nat → Int32) (hzP : Nat → Int32) (fmP : Nat → Int32) (dmP : Nat → Int32) (e1P : Nat → Int32) (e2P : Nat → Int32) (fkP : Nat → Int32) (pnP : Int32) (fnP : Int32) (kdQ : Nat → Int32) (grQ : Nat → Int64) (cvQ : Nat → Int32) (brQ : Nat → Int32) (hzQ : Nat → Int32) (fmQ : Nat → Int32) (dmQ : Nat → Int32) (e1Q : Nat → Int32) (e2Q : Nat → Int32) (fkQ : Nat → Int32) (pnQ : Int32) (fnQ : Int32) (mpM : Nat → Int32) (mkM : Nat → Int32) (mgM : Nat → Int32) (mcM : Nat → Int32) (mwM : Nat → Int32) (mfM : Nat → Int32) (mtM : Nat → Int32) (mhM : Nat → Int32) (mmM : Nat → Int32) (mdM : Nat → Int32) (mxM : Nat → Int32) (mnM : Nat → Int32) (szM : Int32) (faM : Int32) (apM : Int32) (waM : Int32) (wrM : Int32) (fuM : Int32) (ouO : Nat → Int64) : Prop :=
    (vp_in ((nI i) + 1) L ∧ (vp_in ((nI i) + 2) L ∧ (vp_in ((nI i) + 3) L ∧ wp_X5_holds e1P e2P pnP fnP (xs ((nI i) + 1).toNatClampNeg) (xs ((nI i) + 2).toNatClampNeg) (xs ((nI i) + 3).toNatClampNeg) (fun r_1 _ => (vp_in ((nI i) + 1) L ∧ (vp_in ((nI i) + 2) L ∧ (vp_in ((nI i) + 3) L ∧ wp_X6_holds mpM mfM mtM (xs ((nI i) + 1).toNatClampNeg) (xs ((nI i) + 2).toNatClampNeg) (xs ((nI i) + 3).toNatClampNeg) (fun r_2 fa_3 => ((r_1 = r_2 → A23 (i + 4) txR nuR lnR bgR enR lfT foT kdP grP cvP brP hzP fmP dmP e1P e2P fkP pnP fnP kdQ grQ cvQ brQ hzQ fmQ dmQ e1Q e2Q fkQ pnQ fnQ mpM mkM mgM mcM mwM mfM mtM mhM mmM mdM mxM mnM szM fa_3 apM waM wrM fuM ouO) ∧ (¬ r_1 = r_2 → False))))))))))
set_option maxHeartbeats 4000000 in
set_option maxRecDepth 100000 in
theorem law_c544 {p : Program} {l : Launch} {e : Env} {s : State} {m : MethodId} {below : List Frame} {meth : Method} {c : Code} {b L : Nat} {xs : Nat → Int32} {D : va_G} {cs : Nat → ClassId} {ev : Nat → Nat → Nat} {i : Nat} {txR : Nat → Int32} {nuR : Nat → Int32} {lnR : Int32} {bgR : Int32} {enR : Int32} {lfT : Int32} {foT : Int32} {kdP : Nat → Int32} {grP : Nat → Int64} {cvP : Nat → Int32} {brP : Nat → Int32} {hzP : Nat → Int32} {fmP : Nat → Int32} {dmP : Nat → Int32} {e1P : Nat → Int32} {e2P : Nat → Int32} {fkP : Nat → Int32} {pnP : Int32} {fnP : Int32} {kdQ : Nat → Int32} {grQ : Nat → Int64} {cvQ : Nat → Int32} {brQ : Nat → Int32} {hzQ : Nat → Int32} {fmQ : Nat → Int32} {dmQ : Nat → Int32} {e1Q : Nat → Int32} {e2Q : Nat → Int32} {fkQ : Nat → Int32} {pnQ : Int32} {fnQ : Int32} {mpM : Nat → Int32} {mkM : Nat → Int32} {mgM : Nat → Int32} {mcM : Nat → Int32} {mwM : Nat → Int32} {mfM : Nat → Int32} {mtM : Nat → Int32} {mhM : Nat → Int32} {mmM : Nat → Int32} {mdM : Nat → Int32} {mxM : Nat → Int32} {mnM : Nat → Int32} {szM : Int32} {faM : Int32} {apM : Int32} {waM : Int32} {wrM : Int32} {fuM : Int32} {ouO : Nat → Int64} (hnt : l.stackTraces = false) (C0 : lw_At p s m meth c b L xs) (hLi : i ≤ 2048) (hK : va_K D vwCl (tyS cs) s) (hE : EV ev (fun q : Nat => s.heap.size ≤ q) s s.heap) (hTV : TV (fun q : Nat => s.heap.size ≤ q) s s.heap) (h : wp_law544 L xs (law_A p l e s m below meth c b D cs) i txR nuR lnR bgR enR lfT foT kdP grP cvP brP hzP fmP dmP e1P e2P fkP pnP fnP kdQ grQ cvQ brQ hzQ fmQ dmQ e1Q e2Q fkQ pnQ fnQ mpM mkM mgM mcM mwM mfM mtM mhM mmM mdM mxM mnM szM faM apM waM wrM fuM ouO) : ∀ (adG adR adT adP adQ adM adO : Nat → Nat) (H : Heap) (locs : List Loc), va_P D vwCl (sh_G cs adG (adR 0) (adT 0) (adP 0) (adQ 0) ++ sh_R cs adR txR nuR lnR bgR enR ++ sh_T cs adT lfT foT ++ sh_P cs adP kdP grP cvP brP hzP fmP dmP e1P e2P fkP pnP fnP ++ sh_P cs adQ kdQ grQ cvQ brQ hzQ fmQ dmQ e1Q e2Q fkQ pnQ fnQ ++ sh_M cs adM mpM mkM mgM mcM mwM mfM mtM mhM mmM mdM mxM mnM szM faM apM waM wrM fuM ++ sh_O cs adO ouO) H → va_D (fun q : Nat => s.heap.size ≤ q) (sh_G cs adG (adR 0) (adT 0) (adP 0) (adQ 0) ++ sh_R cs adR txR nuR lnR bgR enR ++ sh_T cs adT lfT foT ++ sh_P cs adP kdP grP cvP brP hzP fmP dmP e1P e2P fkP pnP fnP ++ sh_P cs adQ kdQ grQ cvQ brQ hzQ fmQ dmQ e1Q e2Q fkQ pnQ fnQ ++ sh_M cs adM mpM mkM mgM mcM mwM mfM mtM mhM mmM mdM mxM mnM szM faM apM waM wrM fuM ++ sh_O cs adO ouO) → va_S (fun q : Nat => s.heap.size ≤ q) s.heap H locs → ∀ ls : Array Slot, lv_has ls 8 [(0, .ref b), (1, .ref (adG 0)), (2, .ref (adM 0)), (3, .ref (adO 0)), (4, .int (nI i))] → W p l e room_1 s m #[Value.ref b] below meth c H locs (100 + i) (20000 + 6 * i) (lw_Z below #[Value.ref b] s) (F0 m 544 ls []) := by
  obtain ⟨hx, hb, hr, hml, hown, hts, hX, hbl, hlocks, hgv⟩ := id C0
  have hts : ∀ w ∈ wsL_law, w.before #[Value.ref b] s = true := fun w h => hts w (wsL_law_in2 w h)
  have hA : ∀ q : Nat, s.heap.size ≤ q → (fun q : Nat => s.heap.size ≤ q) q := fun _ h => h
  have hbA : ¬ (fun q : Nat => s.heap.size ≤ q) b := Nat.not_le.mpr hbl
  have hc0 : 100 + i + 0 ≤ room_1.cells := by show 100 + i + 0 ≤ 601024; omega
  have hs0 : 20000 + 6 * i + 0 ≤ room_1.slots := by show 20000 + 6 * i + 0 ≤ 7293034; omega
  have hc1 : 100 + i + 1 ≤ room_1.cells := by show 100 + i + 1 ≤ 601024; omega
  have hs1 : 20000 + 6 * i + 6 ≤ room_1.slots := by show 20000 + 6 * i + 6 ≤ 7293034; omega
  intro adG adR adT adP adQ adM adO H locs hP hD hS ls hl
  refine lv_aload_n hx hb dL_law_544 rfl (lv_at hl 1 rfl) ?_
  refine lv_aload_n hx hb dL_law_545 rfl (lv_at hl 0 rfl) ?_
  refine lv_iload hx hb dL_law_546 (lv_at hl 4 rfl) ?_
  refine lv_iconst (v := 1) hx hb dL_law_548 (by decide) ?_
  refine lv_iadd hx hb dL_law_549 ?_
  have hin := h.1
  have h := h.2
  refine va_sld hx hb hX hbl hbA hS hin dL_law_550 ?_
  refine lv_aload_n hx hb dL_law_551 rfl (lv_at hl 0 rfl) ?_
  refine lv_iload hx hb dL_law_552 (lv_at hl 4 rfl) ?_
  refine lv_iconst (v := 2) hx hb dL_law_554 (by decide) ?_
  refine lv_iadd hx hb dL_law_555 ?_
  have hin := h.1
  have h := h.2
  refine va_sld hx hb hX hbl hbA hS hin dL_law_556 ?_
  refine lv_aload_n hx hb dL_law_557 rfl (lv_at hl 0 rfl) ?_
  refine lv_iload hx hb dL_law_558 (lv_at hl 4 rfl) ?_
  refine lv_iconst (v := 3) hx hb dL_law_560 (by decide) ?_
  refine lv_iadd hx hb dL_law_561 ?_
  have hin := h.1
  have h := h.2
  refine va_sld hx hb hX hbl hbA hS hin dL_law_562 ?_
  have hFc := va_free (wc := (sh_G cs adG (adR 0) (adT 0) (adP 0) (adQ 0) ++ sh_P cs adP kdP grP cvP brP hzP fmP dmP e1P e2P fkP pnP fnP)) hD hS hA [0, 5, 6, 7, 8, 9, 10, 11, 12, 13, 14, 15] rfl
  refine va_calli (va_runV (As := [.int (xs ((nI i) + 1).toNatClampNeg), .int (xs ((nI i) + 2).toNatClampNeg), .int (xs ((nI i) + 3).toNatClampNeg)]) (rest := []) ⟨hx, hb, hml, hown, hts⟩ (met_X5_holds l D cs ev _ adG adP (adR 0) (adT 0) (adQ 0) kdP grP cvP brP hzP fmP dmP e1P e2P fkP pnP fnP (xs ((nI i) + 1).toNatClampNeg) (xs ((nI i) + 2).toNatClampNeg) (xs ((nI i) + 3).toNatClampNeg) _ h) (cwV 3 hts gL_law_X5_holds rfl rfl rfl (by decide +kernel) ⟨Nat.le_of_ble_eq_true rfl, Nat.le_of_ble_eq_true rfl⟩) (mPreV (va_recv hK hP (ci := 4) (q0 := 0) rfl rfl) hP hD hS hK hE hFc [0, 5, 6, 7, 8, 9, 10, 11, 12, 13, 14, 15] (by decide) rfl) rfl rfl hl.1 rfl (lv_room (Nat.le_of_ble_eq_true rfl)) dL_law_563 ⟨hc0, hs0⟩) hS (fun q _ h => hFc q h) hFc (fun r_1 u t H1 locs ht hvm hw hB hz1 hk1 hS => ?_)
  have h := hw
  obtain ⟨hP1, hK1, hD1⟩ := hB
  rw [ht] at hP1
  obtain ⟨hP, hD⟩ := mJoin (wr := (sh_R cs adR txR nuR lnR bgR enR ++ sh_T cs adT lfT foT ++ sh_P cs adQ kdQ grQ cvQ brQ hzQ fmQ dmQ e1Q e2Q fkQ pnQ fnQ ++ sh_M cs adM mpM mkM mgM mcM mwM mfM mtM mhM mmM mdM mxM mnM szM faM apM waM wrM fuM ++ sh_O cs adO ouO)) (w1 := (sh_G cs adG (adR 0) (adT 0) (adP 0) (adQ 0) ++ sh_P cs adP kdP grP cvP brP hzP fmP dmP e1P e2P fkP pnP fnP)) (w' := (sh_G cs adG (adR 0) (adT 0) (adP 0) (adQ 0) ++ sh_R cs adR txR nuR lnR bgR enR ++ sh_T cs adT lfT foT ++ sh_P cs adP kdP grP cvP brP hzP fmP dmP e1P e2P fkP pnP fnP ++ sh_P cs adQ kdQ grQ cvQ brQ hzQ fmQ dmQ e1Q e2Q fkQ pnQ fnQ ++ sh_M cs adM mpM mkM mgM mcM mwM mfM mtM mhM mmM mdM mxM mnM szM faM apM waM wrM fuM ++ sh_O cs adO ouO)) hP hD [0, 5, 6, 7, 8, 9, 10, 11, 12, 13, 14, 15] [1, 2, 3, 4, 16, 17, 18, 19, 20, 21, 22, 23, 24, 25, 26, 27, 28, 29, 30, 31, 32, 33, 34, 35, 36, 37, 38, 39, 40] rfl rfl (by decide) (by decide) hk1 hFc hP1 hD1 [29, 0, 1, 2, 3, 30, 31, 32, 33, 34, 35, 36, 37, 38, 39, 40, 4, 5, 6, 7, 8, 9, 10, 11, 12, 13, 14, 15, 16, 17, 18, 19, 20, 21, 22, 23, 24, 25, 26, 27, 28] (by decide) rfl
  generalize H1 = H at hP hS ⊢
  refine lv_aload_n hx hb dL_law_566 rfl (lv_at hl 2 rfl) ?_
  refine lv_aload_n hx hb dL_law_567 rfl (lv_at hl 0 rfl) ?_
  refine lv_iload hx hb dL_law_568 (lv_at hl 4 rfl) ?_
  refine lv_iconst (v := 1) hx hb dL_law_570 (by decide) ?_
  refine lv_iadd hx hb dL_law_571 ?_
  have hin := h.1
  have h := h.2
  refine va_sld hx hb hX hbl hbA hS hin dL_law_572 ?_
  refine lv_aload_n hx hb dL_law_573 rfl (lv_at hl 0 rfl) ?_
  refine lv_iload hx hb dL_law_574 (lv_at hl 4 rfl) ?_
  refine lv_iconst (v := 2) hx hb dL_law_576 (by decide) ?_
  refine lv_iadd hx hb dL_law_577 ?_
  have hin := h.1
  have h := h.2
  refine va_sld hx hb hX hbl hbA hS hin dL_law_578 ?_
  refine lv_aload_n hx hb dL_law_579 rfl (lv_at hl 0 rfl) ?_
  refine lv_iload hx hb dL_law_580 (lv_at hl 4 rfl) ?_
  refine lv_iconst (v := 3) hx hb dL_law_582 (by decide) ?_
  refine lv_iadd hx hb dL_law_583 ?_
  have hin := h.1
  have h := h.2
  refine va_sld hx hb hX hbl hbA hS hin dL_law_584 ?_
  have hFc := va_free (wc := (sh_M cs adM mpM mkM mgM mcM mwM mfM mtM mhM mmM mdM mxM mnM szM faM apM waM wrM fuM)) hD hS hA [27, 28, 29, 30, 31, 32, 33, 34, 35, 36, 37, 38, 39] rfl
  refine va_calli (va_runV (As := [.int (xs ((nI i) + 1).toNatClampNeg), .int (xs ((nI i) + 2).toNatClampNeg), .int (xs ((nI i) + 3).toNatClampNeg)]) (rest := [.int r_1]) ⟨hx, hb, hml, hown, hts⟩ (met_X6_holds l D cs ev _ adM mpM mkM mgM mcM mwM mfM mtM mhM mmM mdM mxM mnM szM faM apM waM wrM fuM (xs ((nI i) + 1).toNatClampNeg) (xs ((nI i) + 2).toNatClampNeg) (xs ((nI i) + 3).toNatClampNeg) _ h) (cwV 3 hts gL_law_X6_holds rfl rfl rfl (by decide +kernel) ⟨Nat.le_of_ble_eq_true rfl, Nat.le_of_ble_eq_true rfl⟩) (mPreV (va_recv hK hP (ci := 5) (q0 := 27) rfl rfl) hP hD hS hK hE hFc [27, 28, 29, 30, 31, 32, 33, 34, 35, 36, 37, 38, 39] (by decide) rfl) rfl rfl hl.1 rfl (lv_room (Nat.le_of_ble_eq_true rfl)) dL_law_585 ⟨hc0, hs0⟩) hS (fun q _ h => hFc q h) hFc (fun r_2 u t H1 locs ht hvm hw hB hz1 hk1 hS => ?_)
  obtain ⟨fa_3, rfl⟩ : ∃ z, z = u := ⟨_, rfl⟩
  have h := hw
  obtain ⟨hP1, hK1, hD1⟩ := hB
  rw [ht] at hP1
  obtain ⟨hP, hD⟩ := mJoin (wr := (sh_G cs adG (adR 0) (adT 0) (adP 0) (adQ 0) ++ sh_R cs adR txR nuR lnR bgR enR ++ sh_T cs adT lfT foT ++ sh_P cs adP kdP grP cvP brP hzP fmP dmP e1P e2P fkP pnP fnP ++ sh_P cs adQ kdQ grQ cvQ brQ hzQ fmQ dmQ e1Q e2Q fkQ pnQ fnQ ++ sh_O cs adO ouO)) (w1 := (sh_M cs adM mpM mkM mgM mcM mwM mfM mtM mhM mmM mdM mxM mnM szM fa_3 apM waM wrM fuM)) (w' := (sh_G cs adG (adR 0) (adT 0) (adP 0) (adQ 0) ++ sh_R cs adR txR nuR lnR bgR enR ++ sh_T cs adT lfT foT ++ sh_P cs adP kdP grP cvP brP hzP fmP dmP e1P e2P fkP pnP fnP ++ sh_P cs adQ kdQ grQ cvQ brQ hzQ fmQ dmQ e1Q e2Q fkQ pnQ fnQ ++ sh_M cs adM mpM mkM mgM mcM mwM mfM mtM mhM mmM mdM mxM mnM szM fa_3 apM waM wrM fuM ++ sh_O cs adO ouO)) hP hD [27, 28, 29, 30, 31, 32, 33, 34, 35, 36, 37, 38, 39] [0, 1, 2, 3, 4, 5, 6, 7, 8, 9, 10, 11, 12, 13, 14, 15, 16, 17, 18, 19, 20, 21, 22, 23, 24, 25, 26, 40] rfl rfl (by decide) (by decide) hk1 hFc hP1 hD1 [0, 1, 2, 3, 4, 5, 6, 7, 8, 9, 10, 11, 12, 13, 14, 15, 16, 17, 18, 19, 20, 21, 22, 23, 24, 25, 26, 28, 29, 30, 31, 32, 33, 34, 35, 36, 37, 38, 39, 40, 27] (by decide) rfl
  generalize H1 = H at hP hS ⊢
  refine lv_icmp_eq (tgt := 935) hx hb dL_law_588 (by decide) (fun c_4 => ?_) (fun c_4 => ?_)
  · have h := h.1 c_4
    refine lv_iinc (v := (nI i) + 4) (lv' := [(4, .int ((nI i) + 4)), (0, .ref b), (1, .ref (adG 0)), (2, .ref (adM 0)), (3, .ref (adO 0))]) hx hb dL_law_935 hl (k := 4) rfl rfl (by decide) rfl (fun ls hl => ?_)
    refine lv_goto (tgt := 23) hx hb dL_law_938 (by decide) ?_
    have h := h
    refine W.widen (k := 100 + (i + 4)) (n := 20000 + 6 * (i + 4)) (by omega) (by omega) ?_
    have hl := lv_sub (l' := [(0, .ref b), (1, .ref (adG 0)), (2, .ref (adM 0)), (3, .ref (adO 0)), (4, .int ((nI i) + 4))]) hl [1, 2, 3, 4, 0] rfl
    rw [show (nI i) + 4 = nI (i + 4) from nI_add i 4] at hl
    exact h adG adR adT adP adQ adM adO _ _ hP hD hS ls hl
  · have h := h.2 c_4
    refine lv_iconst (v := 0) hx hb dL_law_591 (by decide) ?_
    exact h.elim
def wp_law593 (L : Nat) (xs : Nat → Int32) (A23 : Nat → (Nat → Int32) → (Nat → Int32) → Int32 → Int32 → Int32 → Int32 → Int32 → (Nat → Int32) → (Nat → Int64) → (Nat → Int32) → (Nat → Int32) → (Nat → Int32) → (Nat → Int32) → (Nat → Int32) → (Nat → Int32) → (Nat → Int32) → (Nat → Int32) → Int32 → Int32 → (Nat → Int32) → (Nat → Int64) → (Nat → Int32) → (Nat → Int32) → (Nat → Int32) → (Nat → Int32) → (Nat → Int32) → (Nat → Int32) → (Nat → Int32) → (Nat → Int32) → Int32 → Int32 → (Nat → Int32) → (Nat → Int32) → (Nat → Int32) → (Nat → Int32) → (Nat → Int32) → (Nat → Int32) → (Nat → Int32) → (Nat → Int32) → (Nat → Int32) → (Nat → Int32) → (Nat → Int32) → (Nat → Int32) → Int32 → Int32 → Int32 → Int32 → Int32 → Int32 → (Nat → Int64) → Prop) (i : Nat) (txR : Nat → Int32) (nuR : Nat → Int32) (lnR : Int32) (bgR : Int32) (enR : Int32) (lfT : Int32) (foT : Int32) (kdP : Nat → Int32) (grP : Nat → Int64) (cvP : Nat → Int32) (brP : Nat → Int32) (hzP : Nat → Int32) (fmP : Nat → Int32) (dmP : Nat → Int32) (e1P : Nat → Int32) (e2P : Nat → Int32) (fkP : Nat → Int32) (pnP : Int32) (fnP : Int32) (kdQ : Nat → Int32) (grQ : Nat → Int64) (cvQ : Nat → Int32) (brQ : Nat → Int32) (hzQ : Nat → Int32) (fmQ : Nat → Int32) (dmQ : Nat → Int32) (e1Q : Nat → Int32) (e2Q : Nat → Int32) (fkQ : Nat → Int32) (pnQ : Int32) (fnQ : Int32) (mpM : Nat → Int32) (mkM : Nat → Int32) (mgM : Nat → Int32) (mcM : Nat → Int32) (mwM : Nat → Int32) (mfM : Nat → Int32) (mtM : Nat → Int32) (mhM : Nat → Int32) (mmM : Nat → Int32) (mdM : Nat → Int32) (mxM : Nat → Int32) (mnM : Nat → Int32) (szM : Int32) (faM : Int32) (apM : Int32) (waM : Int32) (wrM : Int32) (fuM : Int32) (ouO : Nat → Int64) : Prop :=
    (vp_in ((nI i) + 1) L ∧ (vp_in ((nI i) + 2) L ∧ wp_X5_alike kdP grP hzP pnP (xs ((nI i) + 1).toNatClampNeg) (xs ((nI i) + 2).toNatClampNeg) (fun r_1 _ => (vp_in ((nI i) + 1) L ∧ (vp_in ((nI i) + 2) L ∧ wp_X6_alike mpM mkM mgM mhM faM (xs ((nI i) + 1).toNatClampNeg) (xs ((nI i) + 2).toNatClampNeg) (fun r_2 fa_3 => ((r_1 = r_2 → A23 (i + 4) txR nuR lnR bgR enR lfT foT kdP grP cvP brP hzP fmP dmP e1P e2P fkP pnP fnP kdQ grQ cvQ brQ hzQ fmQ dmQ e1Q e2Q fkQ pnQ fnQ mpM mkM mgM mcM mwM mfM mtM mhM mmM mdM mxM mnM szM fa_3 apM waM wrM fuM ouO) ∧ (¬ r_1 = r_2 → False))))))))
set_option maxHeartbeats 4000000 in
set_option maxRecDepth 100000 in
theorem law_c593 {p : Program} {l : Launch} {e : Env} {s : State} {m : MethodId} {below : List Frame} {meth : Method} {c : Code} {b L : Nat} {xs : Nat → Int32} {D : va_G} {cs : Nat → ClassId} {ev : Nat → Nat → Nat} {i : Nat} {txR : Nat → Int32} {nuR : Nat → Int32} {lnR : Int32} {bgR : Int32} {enR : Int32} {lfT : Int32} {foT : Int32} {kdP : Nat → Int32} {grP : Nat → Int64} {cvP : Nat → Int32} {brP : Nat → Int32} {hzP : Nat → Int32} {fmP : Nat → Int32} {dmP : Nat → Int32} {e1P : Nat → Int32} {e2P : Nat → Int32} {fkP : Nat → Int32} {pnP : Int32} {fnP : Int32} {kdQ : Nat → Int32} {grQ : Nat → Int64} {cvQ : Nat → Int32} {brQ : Nat → Int32} {hzQ : Nat → Int32} {fmQ : Nat → Int32} {dmQ : Nat → Int32} {e1Q : Nat → Int32} {e2Q : Nat → Int32} {fkQ : Nat → Int32} {pnQ : Int32} {fnQ : Int32} {mpM : Nat → Int32} {mkM : Nat → Int32} {mgM : Nat → Int32} {mcM : Nat → Int32} {mwM : Nat → Int32} {mfM : Nat → Int32} {mtM : Nat → Int32} {mhM : Nat → Int32} {mmM : Nat → Int32} {mdM : Nat → Int32} {mxM : Nat → Int32} {mnM : Nat → Int32} {szM : Int32} {faM : Int32} {apM : Int32} {waM : Int32} {wrM : Int32} {fuM : Int32} {ouO : Nat → Int64} (hnt : l.stackTraces = false) (C0 : lw_At p s m meth c b L xs) (hLi : i ≤ 2048) (hK : va_K D vwCl (tyS cs) s) (hE : EV ev (fun q : Nat => s.heap.size ≤ q) s s.heap) (hTV : TV (fun q : Nat => s.heap.size ≤ q) s s.heap) (h : wp_law593 L xs (law_A p l e s m below meth c b D cs) i txR nuR lnR bgR enR lfT foT kdP grP cvP brP hzP fmP dmP e1P e2P fkP pnP fnP kdQ grQ cvQ brQ hzQ fmQ dmQ e1Q e2Q fkQ pnQ fnQ mpM mkM mgM mcM mwM mfM mtM mhM mmM mdM mxM mnM szM faM apM waM wrM fuM ouO) : ∀ (adG adR adT adP adQ adM adO : Nat → Nat) (H : Heap) (locs : List Loc), va_P D vwCl (sh_G cs adG (adR 0) (adT 0) (adP 0) (adQ 0) ++ sh_R cs adR txR nuR lnR bgR enR ++ sh_T cs adT lfT foT ++ sh_P cs adP kdP grP cvP brP hzP fmP dmP e1P e2P fkP pnP fnP ++ sh_P cs adQ kdQ grQ cvQ brQ hzQ fmQ dmQ e1Q e2Q fkQ pnQ fnQ ++ sh_M cs adM mpM mkM mgM mcM mwM mfM mtM mhM mmM mdM mxM mnM szM faM apM waM wrM fuM ++ sh_O cs adO ouO) H → va_D (fun q : Nat => s.heap.size ≤ q) (sh_G cs adG (adR 0) (adT 0) (adP 0) (adQ 0) ++ sh_R cs adR txR nuR lnR bgR enR ++ sh_T cs adT lfT foT ++ sh_P cs adP kdP grP cvP brP hzP fmP dmP e1P e2P fkP pnP fnP ++ sh_P cs adQ kdQ grQ cvQ brQ hzQ fmQ dmQ e1Q e2Q fkQ pnQ fnQ ++ sh_M cs adM mpM mkM mgM mcM mwM mfM mtM mhM mmM mdM mxM mnM szM faM apM waM wrM fuM ++ sh_O cs adO ouO) → va_S (fun q : Nat => s.heap.size ≤ q) s.heap H locs → ∀ ls : Array Slot, lv_has ls 8 [(0, .ref b), (1, .ref (adG 0)), (2, .ref (adM 0)), (3, .ref (adO 0)), (4, .int (nI i))] → W p l e room_1 s m #[Value.ref b] below meth c H locs (100 + i) (20000 + 6 * i) (lw_Z below #[Value.ref b] s) (F0 m 593 ls []) := by
  obtain ⟨hx, hb, hr, hml, hown, hts, hX, hbl, hlocks, hgv⟩ := id C0
  have hts : ∀ w ∈ wsL_law, w.before #[Value.ref b] s = true := fun w h => hts w (wsL_law_in2 w h)
  have hA : ∀ q : Nat, s.heap.size ≤ q → (fun q : Nat => s.heap.size ≤ q) q := fun _ h => h
  have hbA : ¬ (fun q : Nat => s.heap.size ≤ q) b := Nat.not_le.mpr hbl
  have hc0 : 100 + i + 0 ≤ room_1.cells := by show 100 + i + 0 ≤ 601024; omega
  have hs0 : 20000 + 6 * i + 0 ≤ room_1.slots := by show 20000 + 6 * i + 0 ≤ 7293034; omega
  have hc1 : 100 + i + 1 ≤ room_1.cells := by show 100 + i + 1 ≤ 601024; omega
  have hs1 : 20000 + 6 * i + 6 ≤ room_1.slots := by show 20000 + 6 * i + 6 ≤ 7293034; omega
  intro adG adR adT adP adQ adM adO H locs hP hD hS ls hl
  refine lv_aload_n hx hb dL_law_593 rfl (lv_at hl 1 rfl) ?_
  refine lv_aload_n hx hb dL_law_594 rfl (lv_at hl 0 rfl) ?_
  refine lv_iload hx hb dL_law_595 (lv_at hl 4 rfl) ?_
  refine lv_iconst (v := 1) hx hb dL_law_597 (by decide) ?_
  refine lv_iadd hx hb dL_law_598 ?_
  have hin := h.1
  have h := h.2
  refine va_sld hx hb hX hbl hbA hS hin dL_law_599 ?_
  refine lv_aload_n hx hb dL_law_600 rfl (lv_at hl 0 rfl) ?_
  refine lv_iload hx hb dL_law_601 (lv_at hl 4 rfl) ?_
  refine lv_iconst (v := 2) hx hb dL_law_603 (by decide) ?_
  refine lv_iadd hx hb dL_law_604 ?_
  have hin := h.1
  have h := h.2
  refine va_sld hx hb hX hbl hbA hS hin dL_law_605 ?_
  have hFc := va_free (wc := (sh_G cs adG (adR 0) (adT 0) (adP 0) (adQ 0) ++ sh_P cs adP kdP grP cvP brP hzP fmP dmP e1P e2P fkP pnP fnP)) hD hS hA [0, 5, 6, 7, 8, 9, 10, 11, 12, 13, 14, 15] rfl
  refine va_calli (va_runV (As := [.int (xs ((nI i) + 1).toNatClampNeg), .int (xs ((nI i) + 2).toNatClampNeg)]) (rest := []) ⟨hx, hb, hml, hown, hts⟩ (met_X5_alike l D cs ev _ adG adP (adR 0) (adT 0) (adQ 0) kdP grP cvP brP hzP fmP dmP e1P e2P fkP pnP fnP (xs ((nI i) + 1).toNatClampNeg) (xs ((nI i) + 2).toNatClampNeg) _ h) (cwV 2 hts gL_law_X5_alike rfl rfl rfl (by decide +kernel) ⟨Nat.le_of_ble_eq_true rfl, Nat.le_of_ble_eq_true rfl⟩) (mPreV (va_recv hK hP (ci := 4) (q0 := 0) rfl rfl) hP hD hS hK hE hFc [0, 5, 6, 7, 8, 9, 10, 11, 12, 13, 14, 15] (by decide) rfl) rfl rfl hl.1 rfl (lv_room (Nat.le_of_ble_eq_true rfl)) dL_law_606 ⟨hc0, hs0⟩) hS (fun q _ h => hFc q h) hFc (fun r_1 u t H1 locs ht hvm hw hB hz1 hk1 hS => ?_)
  have h := hw
  obtain ⟨hP1, hK1, hD1⟩ := hB
  rw [ht] at hP1
  obtain ⟨hP, hD⟩ := mJoin (wr := (sh_R cs adR txR nuR lnR bgR enR ++ sh_T cs adT lfT foT ++ sh_P cs adQ kdQ grQ cvQ brQ hzQ fmQ dmQ e1Q e2Q fkQ pnQ fnQ ++ sh_M cs adM mpM mkM mgM mcM mwM mfM mtM mhM mmM mdM mxM mnM szM faM apM waM wrM fuM ++ sh_O cs adO ouO)) (w1 := (sh_G cs adG (adR 0) (adT 0) (adP 0) (adQ 0) ++ sh_P cs adP kdP grP cvP brP hzP fmP dmP e1P e2P fkP pnP fnP)) (w' := (sh_G cs adG (adR 0) (adT 0) (adP 0) (adQ 0) ++ sh_R cs adR txR nuR lnR bgR enR ++ sh_T cs adT lfT foT ++ sh_P cs adP kdP grP cvP brP hzP fmP dmP e1P e2P fkP pnP fnP ++ sh_P cs adQ kdQ grQ cvQ brQ hzQ fmQ dmQ e1Q e2Q fkQ pnQ fnQ ++ sh_M cs adM mpM mkM mgM mcM mwM mfM mtM mhM mmM mdM mxM mnM szM faM apM waM wrM fuM ++ sh_O cs adO ouO)) hP hD [0, 5, 6, 7, 8, 9, 10, 11, 12, 13, 14, 15] [1, 2, 3, 4, 16, 17, 18, 19, 20, 21, 22, 23, 24, 25, 26, 27, 28, 29, 30, 31, 32, 33, 34, 35, 36, 37, 38, 39, 40] rfl rfl (by decide) (by decide) hk1 hFc hP1 hD1 [29, 0, 1, 2, 3, 30, 31, 32, 33, 34, 35, 36, 37, 38, 39, 40, 4, 5, 6, 7, 8, 9, 10, 11, 12, 13, 14, 15, 16, 17, 18, 19, 20, 21, 22, 23, 24, 25, 26, 27, 28] (by decide) rfl
  generalize H1 = H at hP hS ⊢
  refine lv_aload_n hx hb dL_law_609 rfl (lv_at hl 2 rfl) ?_
  refine lv_aload_n hx hb dL_law_610 rfl (lv_at hl 0 rfl) ?_
  refine lv_iload hx hb dL_law_611 (lv_at hl 4 rfl) ?_
  refine lv_iconst (v := 1) hx hb dL_law_613 (by decide) ?_
  refine lv_iadd hx hb dL_law_614 ?_
  have hin := h.1
  have h := h.2
  refine va_sld hx hb hX hbl hbA hS hin dL_law_615 ?_
  refine lv_aload_n hx hb dL_law_616 rfl (lv_at hl 0 rfl) ?_
  refine lv_iload hx hb dL_law_617 (lv_at hl 4 rfl) ?_
  refine lv_iconst (v := 2) hx hb dL_law_619 (by decide) ?_
  refine lv_iadd hx hb dL_law_620 ?_
  have hin := h.1
  have h := h.2
  refine va_sld hx hb hX hbl hbA hS hin dL_law_621 ?_
  have hFc := va_free (wc := (sh_M cs adM mpM mkM mgM mcM mwM mfM mtM mhM mmM mdM mxM mnM szM faM apM waM wrM fuM)) hD hS hA [27, 28, 29, 30, 31, 32, 33, 34, 35, 36, 37, 38, 39] rfl
  refine va_calli (va_runV (As := [.int (xs ((nI i) + 1).toNatClampNeg), .int (xs ((nI i) + 2).toNatClampNeg)]) (rest := [.int r_1]) ⟨hx, hb, hml, hown, hts⟩ (met_X6_alike l D cs ev _ adM mpM mkM mgM mcM mwM mfM mtM mhM mmM mdM mxM mnM szM faM apM waM wrM fuM (xs ((nI i) + 1).toNatClampNeg) (xs ((nI i) + 2).toNatClampNeg) _ h) (cwV 2 hts gL_law_X6_alike rfl rfl rfl (by decide +kernel) ⟨Nat.le_of_ble_eq_true rfl, Nat.le_of_ble_eq_true rfl⟩) (mPreV (va_recv hK hP (ci := 5) (q0 := 27) rfl rfl) hP hD hS hK hE hFc [27, 28, 29, 30, 31, 32, 33, 34, 35, 36, 37, 38, 39] (by decide) rfl) rfl rfl hl.1 rfl (lv_room (Nat.le_of_ble_eq_true rfl)) dL_law_622 ⟨hc0, hs0⟩) hS (fun q _ h => hFc q h) hFc (fun r_2 u t H1 locs ht hvm hw hB hz1 hk1 hS => ?_)
  obtain ⟨fa_3, rfl⟩ : ∃ z, z = u := ⟨_, rfl⟩
  have h := hw
  obtain ⟨hP1, hK1, hD1⟩ := hB
  rw [ht] at hP1
  obtain ⟨hP, hD⟩ := mJoin (wr := (sh_G cs adG (adR 0) (adT 0) (adP 0) (adQ 0) ++ sh_R cs adR txR nuR lnR bgR enR ++ sh_T cs adT lfT foT ++ sh_P cs adP kdP grP cvP brP hzP fmP dmP e1P e2P fkP pnP fnP ++ sh_P cs adQ kdQ grQ cvQ brQ hzQ fmQ dmQ e1Q e2Q fkQ pnQ fnQ ++ sh_O cs adO ouO)) (w1 := (sh_M cs adM mpM mkM mgM mcM mwM mfM mtM mhM mmM mdM mxM mnM szM fa_3 apM waM wrM fuM)) (w' := (sh_G cs adG (adR 0) (adT 0) (adP 0) (adQ 0) ++ sh_R cs adR txR nuR lnR bgR enR ++ sh_T cs adT lfT foT ++ sh_P cs adP kdP grP cvP brP hzP fmP dmP e1P e2P fkP pnP fnP ++ sh_P cs adQ kdQ grQ cvQ brQ hzQ fmQ dmQ e1Q e2Q fkQ pnQ fnQ ++ sh_M cs adM mpM mkM mgM mcM mwM mfM mtM mhM mmM mdM mxM mnM szM fa_3 apM waM wrM fuM ++ sh_O cs adO ouO)) hP hD [27, 28, 29, 30, 31, 32, 33, 34, 35, 36, 37, 38, 39] [0, 1, 2, 3, 4, 5, 6, 7, 8, 9, 10, 11, 12, 13, 14, 15, 16, 17, 18, 19, 20, 21, 22, 23, 24, 25, 26, 40] rfl rfl (by decide) (by decide) hk1 hFc hP1 hD1 [0, 1, 2, 3, 4, 5, 6, 7, 8, 9, 10, 11, 12, 13, 14, 15, 16, 17, 18, 19, 20, 21, 22, 23, 24, 25, 26, 28, 29, 30, 31, 32, 33, 34, 35, 36, 37, 38, 39, 40, 27] (by decide) rfl
  generalize H1 = H at hP hS ⊢
  refine lv_icmp_eq (tgt := 935) hx hb dL_law_625 (by decide) (fun c_4 => ?_) (fun c_4 => ?_)
  · have h := h.1 c_4
    refine lv_iinc (v := (nI i) + 4) (lv' := [(4, .int ((nI i) + 4)), (0, .ref b), (1, .ref (adG 0)), (2, .ref (adM 0)), (3, .ref (adO 0))]) hx hb dL_law_935 hl (k := 4) rfl rfl (by decide) rfl (fun ls hl => ?_)
    refine lv_goto (tgt := 23) hx hb dL_law_938 (by decide) ?_
    have h := h
    refine W.widen (k := 100 + (i + 4)) (n := 20000 + 6 * (i + 4)) (by omega) (by omega) ?_
    have hl := lv_sub (l' := [(0, .ref b), (1, .ref (adG 0)), (2, .ref (adM 0)), (3, .ref (adO 0)), (4, .int ((nI i) + 4))]) hl [1, 2, 3, 4, 0] rfl
    rw [show (nI i) + 4 = nI (i + 4) from nI_add i 4] at hl
    exact h adG adR adT adP adQ adM adO _ _ hP hD hS ls hl
  · have h := h.2 c_4
    refine lv_iconst (v := 0) hx hb dL_law_628 (by decide) ?_
    exact h.elim
def wp_law630 (L : Nat) (xs : Nat → Int32) (A23 : Nat → (Nat → Int32) → (Nat → Int32) → Int32 → Int32 → Int32 → Int32 → Int32 → (Nat → Int32) → (Nat → Int64) → (Nat → Int32) → (Nat → Int32) → (Nat → Int32) → (Nat → Int32) → (Nat → Int32) → (Nat → Int32) → (Nat → Int32) → (Nat → Int32) → Int32 → Int32 → (Nat → Int32) → (Nat → Int64) → (Nat → Int32) → (Nat → Int32) → (Nat → Int32) → (Nat → Int32) → (Nat → Int32) → (Nat → Int32) → (Nat → Int32) → (Nat → Int32) → Int32 → Int32 → (Nat → Int32) → (Nat → Int32) → (Nat → Int32) → (Nat → Int32) → (Nat → Int32) → (Nat → Int32) → (Nat → Int32) → (Nat → Int32) → (Nat → Int32) → (Nat → Int32) → (Nat → Int32) → (Nat → Int32) → Int32 → Int32 → Int32 → Int32 → Int32 → Int32 → (Nat → Int64) → Prop) (i : Nat) (txR : Nat → Int32) (nuR : Nat → Int32) (lnR : Int32) (bgR : Int32) (enR : Int32) (lfT : Int32) (foT : Int32) (kdP : Nat → Int32) (grP : Nat → Int64) (cvP : Nat → Int32) (brP : Nat → Int32) (hzP : Nat → Int32) (fmP : Nat → Int32) (dmP : Nat → Int32) (e1P : Nat → Int32) (e2P : Nat → Int32) (fkP : Nat → Int32) (pnP : Int32) (fnP : Int32) (kdQ : Nat → Int32) (grQ : Nat → Int64) (cvQ : Nat → Int32) (brQ : Nat → Int32) (hzQ : Nat → Int32) (fmQ : Nat → Int32) (dmQ : Nat → Int32) (e1Q : Nat → Int32) (e2Q : Nat → Int32) (fkQ : Nat → Int32) (pnQ : Int32) (fnQ : Int32) (mpM : Nat → Int32) (mkM : Nat → Int32) (mgM : Nat → Int32) (mcM : Nat → Int32) (mwM : Nat → Int32) (mfM : Nat → Int32) (mtM : Nat → Int32) (mhM : Nat → Int32) (mmM : Nat → Int32) (mdM : Nat → Int32) (mxM : Nat → Int32) (mnM : Nat → Int32) (szM : Int32) (faM : Int32) (apM : Int32) (waM : Int32) (wrM : Int32) (fuM : Int32) (ouO : Nat → Int64) : Prop :=
    (vp_in ((nI i) + 1) L ∧ wp_L_weight grP e1P e2P pnP fnP ouO (xs ((nI i) + 1).toNatClampNeg) (fun r_1 ou_2 => (vp_in ((nI i) + 1) L ∧ wp_X6_weight mpM mgM mfM mtM faM (xs ((nI i) + 1).toNatClampNeg) (fun r_3 fa_4 => wp_X6_thrown fa_4 (fun r_5 _ => ((r_5 = r_1 → ((r_1 = 0 → (vp_in 0 1 ∧ (((lg_cmp (ou_2 (0 : Int32).toNatClampNeg) r_3) = 0 → A23 (i + 4) txR nuR lnR bgR enR lfT foT kdP grP cvP brP hzP fmP dmP e1P e2P fkP pnP fnP kdQ grQ cvQ brQ hzQ fmQ dmQ e1Q e2Q fkQ pnQ fnQ mpM mkM mgM mcM mwM mfM mtM mhM mmM mdM mxM mnM szM fa_4 apM waM wrM fuM ou_2) ∧ (¬ (lg_cmp (ou_2 (0 : Int32).toNatClampNeg) r_3) = 0 → False)))) ∧ (¬ r_1 = 0 → A23 (i + 4) txR nuR lnR bgR enR lfT foT kdP grP cvP brP hzP fmP dmP e1P e2P fkP pnP fnP kdQ grQ cvQ brQ hzQ fmQ dmQ e1Q e2Q fkQ pnQ fnQ mpM mkM mgM mcM mwM mfM mtM mhM mmM mdM mxM mnM szM fa_4 apM waM wrM fuM ou_2))) ∧ (¬ r_5 = r_1 → False)))))))
set_option maxHeartbeats 4000000 in
set_option maxRecDepth 100000 in
theorem law_c630 {p : Program} {l : Launch} {e : Env} {s : State} {m : MethodId} {below : List Frame} {meth : Method} {c : Code} {b L : Nat} {xs : Nat → Int32} {D : va_G} {cs : Nat → ClassId} {ev : Nat → Nat → Nat} {i : Nat} {txR : Nat → Int32} {nuR : Nat → Int32} {lnR : Int32} {bgR : Int32} {enR : Int32} {lfT : Int32} {foT : Int32} {kdP : Nat → Int32} {grP : Nat → Int64} {cvP : Nat → Int32} {brP : Nat → Int32} {hzP : Nat → Int32} {fmP : Nat → Int32} {dmP : Nat → Int32} {e1P : Nat → Int32} {e2P : Nat → Int32} {fkP : Nat → Int32} {pnP : Int32} {fnP : Int32} {kdQ : Nat → Int32} {grQ : Nat → Int64} {cvQ : Nat → Int32} {brQ : Nat → Int32} {hzQ : Nat → Int32} {fmQ : Nat → Int32} {dmQ : Nat → Int32} {e1Q : Nat → Int32} {e2Q : Nat → Int32} {fkQ : Nat → Int32} {pnQ : Int32} {fnQ : Int32} {mpM : Nat → Int32} {mkM : Nat → Int32} {mgM : Nat → Int32} {mcM : Nat → Int32} {mwM : Nat → Int32} {mfM : Nat → Int32} {mtM : Nat → Int32} {mhM : Nat → Int32} {mmM : Nat → Int32} {mdM : Nat → Int32} {mxM : Nat → Int32} {mnM : Nat → Int32} {szM : Int32} {faM : Int32} {apM : Int32} {waM : Int32} {wrM : Int32} {fuM : Int32} {ouO : Nat → Int64} (hnt : l.stackTraces = false) (C0 : lw_At p s m meth c b L xs) (hLi : i ≤ 2048) (hK : va_K D vwCl (tyS cs) s) (hE : EV ev (fun q : Nat => s.heap.size ≤ q) s s.heap) (hTV : TV (fun q : Nat => s.heap.size ≤ q) s s.heap) (h : wp_law630 L xs (law_A p l e s m below meth c b D cs) i txR nuR lnR bgR enR lfT foT kdP grP cvP brP hzP fmP dmP e1P e2P fkP pnP fnP kdQ grQ cvQ brQ hzQ fmQ dmQ e1Q e2Q fkQ pnQ fnQ mpM mkM mgM mcM mwM mfM mtM mhM mmM mdM mxM mnM szM faM apM waM wrM fuM ouO) : ∀ (adG adR adT adP adQ adM adO : Nat → Nat) (H : Heap) (locs : List Loc), va_P D vwCl (sh_G cs adG (adR 0) (adT 0) (adP 0) (adQ 0) ++ sh_R cs adR txR nuR lnR bgR enR ++ sh_T cs adT lfT foT ++ sh_P cs adP kdP grP cvP brP hzP fmP dmP e1P e2P fkP pnP fnP ++ sh_P cs adQ kdQ grQ cvQ brQ hzQ fmQ dmQ e1Q e2Q fkQ pnQ fnQ ++ sh_M cs adM mpM mkM mgM mcM mwM mfM mtM mhM mmM mdM mxM mnM szM faM apM waM wrM fuM ++ sh_O cs adO ouO) H → va_D (fun q : Nat => s.heap.size ≤ q) (sh_G cs adG (adR 0) (adT 0) (adP 0) (adQ 0) ++ sh_R cs adR txR nuR lnR bgR enR ++ sh_T cs adT lfT foT ++ sh_P cs adP kdP grP cvP brP hzP fmP dmP e1P e2P fkP pnP fnP ++ sh_P cs adQ kdQ grQ cvQ brQ hzQ fmQ dmQ e1Q e2Q fkQ pnQ fnQ ++ sh_M cs adM mpM mkM mgM mcM mwM mfM mtM mhM mmM mdM mxM mnM szM faM apM waM wrM fuM ++ sh_O cs adO ouO) → va_S (fun q : Nat => s.heap.size ≤ q) s.heap H locs → ∀ ls : Array Slot, lv_has ls 8 [(0, .ref b), (1, .ref (adG 0)), (2, .ref (adM 0)), (3, .ref (adO 0)), (4, .int (nI i))] → W p l e room_1 s m #[Value.ref b] below meth c H locs (100 + i) (20000 + 6 * i) (lw_Z below #[Value.ref b] s) (F0 m 630 ls []) := by
  obtain ⟨hx, hb, hr, hml, hown, hts, hX, hbl, hlocks, hgv⟩ := id C0
  have hts : ∀ w ∈ wsL_law, w.before #[Value.ref b] s = true := fun w h => hts w (wsL_law_in2 w h)
  have hA : ∀ q : Nat, s.heap.size ≤ q → (fun q : Nat => s.heap.size ≤ q) q := fun _ h => h
  have hbA : ¬ (fun q : Nat => s.heap.size ≤ q) b := Nat.not_le.mpr hbl
  have hc0 : 100 + i + 0 ≤ room_1.cells := by show 100 + i + 0 ≤ 601024; omega
  have hs0 : 20000 + 6 * i + 0 ≤ room_1.slots := by show 20000 + 6 * i + 0 ≤ 7293034; omega
  have hc1 : 100 + i + 1 ≤ room_1.cells := by show 100 + i + 1 ≤ 601024; omega
  have hs1 : 20000 + 6 * i + 6 ≤ room_1.slots := by show 20000 + 6 * i + 6 ≤ 7293034; omega
  intro adG adR adT adP adQ adM adO H locs hP hD hS ls hl
  refine lv_aload_n hx hb dL_law_630 rfl (lv_at hl 1 rfl) ?_
  refine lv_aload_n hx hb dL_law_631 rfl (lv_at hl 0 rfl) ?_
  refine lv_iload hx hb dL_law_632 (lv_at hl 4 rfl) ?_
  refine lv_iconst (v := 1) hx hb dL_law_634 (by decide) ?_
  refine lv_iadd hx hb dL_law_635 ?_
  have hin := h.1
  have h := h.2
  refine va_sld hx hb hX hbl hbA hS hin dL_law_636 ?_
  refine lv_aload_n hx hb dL_law_637 rfl (lv_at hl 3 rfl) ?_
  have hFc := va_free (wc := (sh_G cs adG (adR 0) (adT 0) (adP 0) (adQ 0) ++ sh_P cs adP kdP grP cvP brP hzP fmP dmP e1P e2P fkP pnP fnP ++ sh_O cs adO ouO)) hD hS hA [0, 5, 6, 7, 8, 9, 10, 11, 12, 13, 14, 15, 40] rfl
  refine va_calli (th_runSW (As := [.ref (adG 0), .int (xs ((nI i) + 1).toNatClampNeg), .ref (adO 0)]) (rest := []) ⟨hx, hb, hml, hown, hts⟩ (met_L_weight l hnt D cs ev _ adG adP adO (adR 0) (adT 0) (adQ 0) kdP grP cvP brP hzP fmP dmP e1P e2P fkP pnP fnP ouO (xs ((nI i) + 1).toNatClampNeg) _ h) gL_law_L_weight rfl rfl rfl (n := 3) (by decide +kernel) ⟨Nat.le_of_ble_eq_true rfl, Nat.le_of_ble_eq_true rfl⟩ (mPreST hP hD hS hK hE hTV hFc [0, 5, 6, 7, 8, 9, 10, 11, 12, 13, 14, 15, 40] (by decide) rfl) rfl rfl hl.1 rfl (lv_room (Nat.le_of_ble_eq_true rfl)) dL_law_638 ⟨hc1, hs1⟩) hS (fun q _ h => hFc q h) hFc (fun r_1 u t H1 locs ht hvm hw hB hz1 hk1 hS => ?_)
  obtain ⟨ou_2, rfl⟩ : ∃ z, z = u := ⟨_, rfl⟩
  have h := hw
  obtain ⟨hP1, hK1, hD1⟩ := hB
  rw [ht] at hP1
  obtain ⟨hP, hD⟩ := mJoin (wr := (sh_R cs adR txR nuR lnR bgR enR ++ sh_T cs adT lfT foT ++ sh_P cs adQ kdQ grQ cvQ brQ hzQ fmQ dmQ e1Q e2Q fkQ pnQ fnQ ++ sh_M cs adM mpM mkM mgM mcM mwM mfM mtM mhM mmM mdM mxM mnM szM faM apM waM wrM fuM)) (w1 := (sh_G cs adG (adR 0) (adT 0) (adP 0) (adQ 0) ++ sh_P cs adP kdP grP cvP brP hzP fmP dmP e1P e2P fkP pnP fnP ++ sh_O cs adO ou_2)) (w' := (sh_G cs adG (adR 0) (adT 0) (adP 0) (adQ 0) ++ sh_R cs adR txR nuR lnR bgR enR ++ sh_T cs adT lfT foT ++ sh_P cs adP kdP grP cvP brP hzP fmP dmP e1P e2P fkP pnP fnP ++ sh_P cs adQ kdQ grQ cvQ brQ hzQ fmQ dmQ e1Q e2Q fkQ pnQ fnQ ++ sh_M cs adM mpM mkM mgM mcM mwM mfM mtM mhM mmM mdM mxM mnM szM faM apM waM wrM fuM ++ sh_O cs adO ou_2)) hP hD [0, 5, 6, 7, 8, 9, 10, 11, 12, 13, 14, 15, 40] [1, 2, 3, 4, 16, 17, 18, 19, 20, 21, 22, 23, 24, 25, 26, 27, 28, 29, 30, 31, 32, 33, 34, 35, 36, 37, 38, 39] rfl rfl (by decide) (by decide) hk1 hFc hP1 hD1 [28, 0, 1, 2, 3, 29, 30, 31, 32, 33, 34, 35, 36, 37, 38, 39, 4, 5, 6, 7, 8, 9, 10, 11, 12, 13, 14, 15, 16, 17, 18, 19, 20, 21, 22, 23, 24, 25, 26, 27, 40] (by decide) rfl
  generalize H1 = H at hP hS ⊢
  refine lv_istore (lv' := [(5, .int r_1), (0, .ref b), (1, .ref (adG 0)), (2, .ref (adM 0)), (3, .ref (adO 0)), (4, .int (nI i))]) hx hb dL_law_641 hl (by decide) rfl (fun ls hl => ?_)
  refine lv_aload_n hx hb dL_law_643 rfl (lv_at hl 3 rfl) ?_
  refine lv_aload_n hx hb dL_law_644 rfl (lv_at hl 1 rfl) ?_
  refine lv_iload hx hb dL_law_645 (lv_at hl 5 rfl) ?_
  refine lv_iconst (v := 1) hx hb dL_law_647 (by decide) ?_
  refine lv_iadd hx hb dL_law_648 ?_
  have hin := h.1
  have h := h.2
  refine va_sld hx hb hX hbl hbA hS hin dL_law_649 ?_
  have hFc := va_free (wc := (sh_M cs adM mpM mkM mgM mcM mwM mfM mtM mhM mmM mdM mxM mnM szM faM apM waM wrM fuM)) hD hS hA [27, 28, 29, 30, 31, 32, 33, 34, 35, 36, 37, 38, 39] rfl
  refine va_calll (va_runV (As := [.int (xs ((nI i) + 1).toNatClampNeg)]) (rest := []) ⟨hx, hb, hml, hown, hts⟩ (met_X6_weight l D cs ev _ adM mpM mkM mgM mcM mwM mfM mtM mhM mmM mdM mxM mnM szM faM apM waM wrM fuM (xs ((nI i) + 1).toNatClampNeg) _ h) (cwV 1 hts gL_law_X6_weight rfl rfl rfl (by decide +kernel) ⟨Nat.le_of_ble_eq_true rfl, Nat.le_of_ble_eq_true rfl⟩) (mPreV (va_recv hK hP (ci := 5) (q0 := 27) rfl rfl) hP hD hS hK hE hFc [27, 28, 29, 30, 31, 32, 33, 34, 35, 36, 37, 38, 39] (by decide) rfl) rfl rfl hl.1 rfl (lv_room (Nat.le_of_ble_eq_true rfl)) dL_law_650 ⟨hc1, hs1⟩) hS (fun q _ h => hFc q h) hFc (fun r_3 u t H1 locs ht hvm hw hB hz1 hk1 hS => ?_)
  obtain ⟨fa_4, rfl⟩ : ∃ z, z = u := ⟨_, rfl⟩
  have h := hw
  obtain ⟨hP1, hK1, hD1⟩ := hB
  rw [ht] at hP1
  obtain ⟨hP, hD⟩ := mJoin (wr := (sh_G cs adG (adR 0) (adT 0) (adP 0) (adQ 0) ++ sh_R cs adR txR nuR lnR bgR enR ++ sh_T cs adT lfT foT ++ sh_P cs adP kdP grP cvP brP hzP fmP dmP e1P e2P fkP pnP fnP ++ sh_P cs adQ kdQ grQ cvQ brQ hzQ fmQ dmQ e1Q e2Q fkQ pnQ fnQ ++ sh_O cs adO ou_2)) (w1 := (sh_M cs adM mpM mkM mgM mcM mwM mfM mtM mhM mmM mdM mxM mnM szM fa_4 apM waM wrM fuM)) (w' := (sh_G cs adG (adR 0) (adT 0) (adP 0) (adQ 0) ++ sh_R cs adR txR nuR lnR bgR enR ++ sh_T cs adT lfT foT ++ sh_P cs adP kdP grP cvP brP hzP fmP dmP e1P e2P fkP pnP fnP ++ sh_P cs adQ kdQ grQ cvQ brQ hzQ fmQ dmQ e1Q e2Q fkQ pnQ fnQ ++ sh_M cs adM mpM mkM mgM mcM mwM mfM mtM mhM mmM mdM mxM mnM szM fa_4 apM waM wrM fuM ++ sh_O cs adO ou_2)) hP hD [27, 28, 29, 30, 31, 32, 33, 34, 35, 36, 37, 38, 39] [0, 1, 2, 3, 4, 5, 6, 7, 8, 9, 10, 11, 12, 13, 14, 15, 16, 17, 18, 19, 20, 21, 22, 23, 24, 25, 26, 40] rfl rfl (by decide) (by decide) hk1 hFc hP1 hD1 [0, 1, 2, 3, 4, 5, 6, 7, 8, 9, 10, 11, 12, 13, 14, 15, 16, 17, 18, 19, 20, 21, 22, 23, 24, 25, 26, 28, 29, 30, 31, 32, 33, 34, 35, 36, 37, 38, 39, 40, 27] (by decide) rfl
  generalize H1 = H at hP hS ⊢
  refine lv_lstore (lv' := [(6, .long r_3), (5, .int r_1), (0, .ref b), (1, .ref (adG 0)), (2, .ref (adM 0)), (3, .ref (adO 0)), (4, .int (nI i))]) hx hb dL_law_653 hl (by decide) rfl (fun ls hl => ?_)
  refine lv_aload_n hx hb dL_law_655 rfl (lv_at hl 4 rfl) ?_
  have hFc := va_free (wc := (sh_M cs adM mpM mkM mgM mcM mwM mfM mtM mhM mmM mdM mxM mnM szM fa_4 apM waM wrM fuM)) hD hS hA [27, 28, 29, 30, 31, 32, 33, 34, 35, 36, 37, 38, 39] rfl
  refine va_calli (va_runV (As := []) (rest := []) ⟨hx, hb, hml, hown, hts⟩ (met_X6_thrown l D cs ev _ adM mpM mkM mgM mcM mwM mfM mtM mhM mmM mdM mxM mnM szM fa_4 apM waM wrM fuM _ h) (cwV 0 hts gL_law_X6_thrown rfl rfl rfl (by decide +kernel) ⟨Nat.le_of_ble_eq_true rfl, Nat.le_of_ble_eq_true rfl⟩) (mPreV (va_recv hK hP (ci := 5) (q0 := 27) rfl rfl) hP hD hS hK hE hFc [27, 28, 29, 30, 31, 32, 33, 34, 35, 36, 37, 38, 39] (by decide) rfl) rfl rfl hl.1 rfl (lv_room (Nat.le_of_ble_eq_true rfl)) dL_law_656 ⟨hc1, hs1⟩) hS (fun q _ h => hFc q h) hFc (fun r_5 u t H1 locs ht hvm hw hB hz1 hk1 hS => ?_)
  have h := hw
  obtain ⟨hP1, hK1, hD1⟩ := hB
  rw [ht] at hP1
  obtain ⟨hP, hD⟩ := mJoin (wr := (sh_G cs adG (adR 0) (adT 0) (adP 0) (adQ 0) ++ sh_R cs adR txR nuR lnR bgR enR ++ sh_T cs adT lfT foT ++ sh_P cs adP kdP grP cvP brP hzP fmP dmP e1P e2P fkP pnP fnP ++ sh_P cs adQ kdQ grQ cvQ brQ hzQ fmQ dmQ e1Q e2Q fkQ pnQ fnQ ++ sh_O cs adO ou_2)) (w1 := (sh_M cs adM mpM mkM mgM mcM mwM mfM mtM mhM mmM mdM mxM mnM szM fa_4 apM waM wrM fuM)) (w' := (sh_G cs adG (adR 0) (adT 0) (adP 0) (adQ 0) ++ sh_R cs adR txR nuR lnR bgR enR ++ sh_T cs adT lfT foT ++ sh_P cs adP kdP grP cvP brP hzP fmP dmP e1P e2P fkP pnP fnP ++ sh_P cs adQ kdQ grQ cvQ brQ hzQ fmQ dmQ e1Q e2Q fkQ pnQ fnQ ++ sh_M cs adM mpM mkM mgM mcM mwM mfM mtM mhM mmM mdM mxM mnM szM fa_4 apM waM wrM fuM ++ sh_O cs adO ou_2)) hP hD [27, 28, 29, 30, 31, 32, 33, 34, 35, 36, 37, 38, 39] [0, 1, 2, 3, 4, 5, 6, 7, 8, 9, 10, 11, 12, 13, 14, 15, 16, 17, 18, 19, 20, 21, 22, 23, 24, 25, 26, 40] rfl rfl (by decide) (by decide) hk1 hFc hP1 hD1 [0, 1, 2, 3, 4, 5, 6, 7, 8, 9, 10, 11, 12, 13, 14, 15, 16, 17, 18, 19, 20, 21, 22, 23, 24, 25, 26, 28, 29, 30, 31, 32, 33, 34, 35, 36, 37, 38, 39, 40, 27] (by decide) rfl
  generalize H1 = H at hP hS ⊢
  refine lv_iload hx hb dL_law_659 (lv_at hl 1 rfl) ?_
  refine lv_icmp_eq (tgt := 666) hx hb dL_law_661 (by decide) (fun c_6 => ?_) (fun c_6 => ?_)
  · have h := h.1 c_6
    refine lv_iload hx hb dL_law_666 (lv_at hl 1 rfl) ?_
    refine lv_if_ne (tgt := 682) hx hb dL_law_668 (by decide) (fun c_7 => ?_) (fun c_7 => ?_)
    · have h := h.2 c_7
      refine lv_goto (tgt := 935) hx hb dL_law_682 (by decide) ?_
      refine lv_iinc (v := (nI i) + 4) (lv' := [(4, .int ((nI i) + 4)), (6, .long r_3), (5, .int r_1), (0, .ref b), (1, .ref (adG 0)), (2, .ref (adM 0)), (3, .ref (adO 0))]) hx hb dL_law_935 hl (k := 6) rfl rfl (by decide) rfl (fun ls hl => ?_)
      refine lv_goto (tgt := 23) hx hb dL_law_938 (by decide) ?_
      have h := h
      refine W.widen (k := 100 + (i + 4)) (n := 20000 + 6 * (i + 4)) (by omega) (by omega) ?_
      have hl := lv_sub (l' := [(0, .ref b), (1, .ref (adG 0)), (2, .ref (adM 0)), (3, .ref (adO 0)), (4, .int ((nI i) + 4))]) hl [3, 4, 5, 6, 0] rfl
      rw [show (nI i) + 4 = nI (i + 4) from nI_add i 4] at hl
      exact h adG adR adT adP adQ adM adO _ _ hP hD hS ls hl
    · have h := h.1 c_7
      refine lv_aload_n hx hb dL_law_671 rfl (lv_at hl 5 rfl) ?_
      refine lv_iconst (v := 0) hx hb dL_law_672 (by decide) ?_
      have hin := h.1
      have h := h.2
      refine va_lald (D := D) (cl := vwCl) hx hb hK hP 40 1 rfl rfl hin dL_law_673 ?_
      refine lv_lload hx hb dL_law_674 (lv_at hl 0 rfl) ?_
      refine W.lcmp hx hb dL_law_676 ?_
      refine lv_if_eq (tgt := 682) hx hb dL_law_677 (by decide) (fun c_8 => ?_) (fun c_8 => ?_)
      · have h := h.1 c_8
        refine lv_goto (tgt := 935) hx hb dL_law_682 (by decide) ?_
        refine lv_iinc (v := (nI i) + 4) (lv' := [(4, .int ((nI i) + 4)), (6, .long r_3), (5, .int r_1), (0, .ref b), (1, .ref (adG 0)), (2, .ref (adM 0)), (3, .ref (adO 0))]) hx hb dL_law_935 hl (k := 6) rfl rfl (by decide) rfl (fun ls hl => ?_)
        refine lv_goto (tgt := 23) hx hb dL_law_938 (by decide) ?_
        have h := h
        refine W.widen (k := 100 + (i + 4)) (n := 20000 + 6 * (i + 4)) (by omega) (by omega) ?_
        have hl := lv_sub (l' := [(0, .ref b), (1, .ref (adG 0)), (2, .ref (adM 0)), (3, .ref (adO 0)), (4, .int ((nI i) + 4))]) hl [3, 4, 5, 6, 0] rfl
        rw [show (nI i) + 4 = nI (i + 4) from nI_add i 4] at hl
        exact h adG adR adT adP adQ adM adO _ _ hP hD hS ls hl
      · have h := h.2 c_8
        refine lv_iconst (v := 0) hx hb dL_law_680 (by decide) ?_
        exact h.elim
  · have h := h.2 c_6
    refine lv_iconst (v := 0) hx hb dL_law_664 (by decide) ?_
    exact h.elim
