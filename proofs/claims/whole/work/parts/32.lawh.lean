theorem th_caughtCell {s st t : State} {v : Nat} {av : Array Value} (hW : s.WarmedH st.vm) (h : th_Qx av st v t) : ∃ ce : Cell, t.heap[v]? = some ce ∧ ce.vm.isStatics = false ∧ s.vm.findClass xN = some ce.cls ∧ ∃ k0, s.vm.classes[ce.cls]? = some k0 := by
  obtain ⟨-, ce, h1, h2, h3, k0, h4⟩ := h
  rw [hW.alike.findClass] at h2
  refine ⟨ce, h1, h3, h2, ?_⟩
  have hsz : ce.cls < st.vm.classes.size := (Array.getElem?_eq_some_iff.mp h4).1
  rw [hW.alike.2.1] at hsz
  exact ⟨_, Array.getElem?_eq_getElem hsz⟩
def wp_L_way (brP : Nat → Int32) (pnP : Int32) (ouO : Nat → Int64) (p2 : Int32) (p3 : Int32) (p4 : Int32) (post : Int32 → ((Nat → Int32) × (Nat → Int64)) → Prop) : Prop :=
    (wp_X5_way brP pnP p2 p3 p4 (fun r_1 br_2 => ((r_1 = 0 → (vp_in 0 1 ∧ post 0 (br_2, vp_updL ouO (0 : Int32).toNatClampNeg 0))) ∧ (¬ r_1 = 0 → (vp_in 0 1 ∧ post 0 (br_2, vp_updL ouO (0 : Int32).toNatClampNeg 1))))) ∨ (wpT_X5_wayT pnP p2 p3 p4 ∧ post 1 (brP, ouO)))
set_option maxHeartbeats 4000000 in
set_option maxRecDepth 100000 in
theorem met_L_way (l : Launch) (hnt : l.stackTraces = false) (D : va_G) (cs : Nat → ClassId) (ev : Nat → Nat → Nat) (sz0 : Nat) (adG : Nat → Nat) (adP : Nat → Nat) (adO : Nat → Nat) (rrG : Nat) (rtG : Nat) (rdG : Nat) (kdP : Nat → Int32) (grP : Nat → Int64) (cvP : Nat → Int32) (brP : Nat → Int32) (hzP : Nat → Int32) (fmP : Nat → Int32) (dmP : Nat → Int32) (e1P : Nat → Int32) (e2P : Nat → Int32) (fkP : Nat → Int32) (pnP : Int32) (fnP : Int32) (ouO : Nat → Int64) (p2 : Int32) (p3 : Int32) (p4 : Int32) (post : Int32 → ((Nat → Int32) × (Nat → Int64)) → Prop) (h : wp_L_way brP pnP ouO p2 p3 p4 post) : Met l yL_way wsL_way ({ frames := 8, cells := 1, slots := 6, locals := 143 }) (va_Pc [.ref (adG 0), .int p2, .int p3, .int p4, .ref (adO 0)] (fun U => mPre D cs ev (sh_G cs adG rrG rtG (adP 0) rdG ++ sh_P cs adP kdP grP cvP brP hzP fmP dmP e1P e2P fkP pnP fnP ++ sh_O cs adO ouO) sz0 U ∧ TV (va_A (sh_G cs adG rrG rtG (adP 0) rdG ++ sh_P cs adP kdP grP cvP brP hzP fmP dmP e1P e2P fkP pnP fnP ++ sh_O cs adO ouO) sz0) U U.heap)) (va_Qi post (fun u t => match u with | (brP', ouO') => mAt D cs (va_A (sh_G cs adG rrG rtG (adP 0) rdG ++ sh_P cs adP kdP grP cvP brP hzP fmP dmP e1P e2P fkP pnP fnP ++ sh_O cs adO ouO) sz0) (sh_G cs adG rrG rtG (adP 0) rdG ++ sh_P cs adP kdP grP cvP brP' hzP fmP dmP e1P e2P fkP pnP fnP ++ sh_O cs adO ouO') t) (va_A (sh_G cs adG rrG rtG (adP 0) rdG ++ sh_P cs adP kdP grP cvP brP hzP fmP dmP e1P e2P fkP pnP fnP ++ sh_O cs adO ouO) sz0)) 1 6 (va_A (sh_G cs adG rrG rtG (adP 0) rdG ++ sh_P cs adP kdP grP cvP brP hzP fmP dmP e1P e2P fkP pnP fnP ++ sh_O cs adO ouO) sz0) := by
  refine va_MetW (cc := cL_way) (maxL := 6) (ret := (some .int)) (by decide) rfl ?_
  intro p e s m args below meth c s₁ B hml hv
  obtain ⟨rfl, ⟨hsz, hP, hK, hD0, hE⟩, hTV⟩ := hv
  have hx := B.exec
  have hb := B.bytes
  have hr := B.returns
  have hts := atoms_spec (ws := wsL_way) B.pre
  have hown : s.vm.findClass RL = some m.cls := findClass_of_methodNamed B.named
  have hlocks := B.notSynchronized
  obtain ⟨x, htab, hx1, hx2, hx3, hx4⟩ := th_table (hts _ List.mem_cons_self) B.named (Stand.of_body B).method (Stand.of_body B).code
  subst hsz
  have hD := hD0.self (sz := s.heap.size)
  generalize hAe : va_A (sh_G cs adG rrG rtG (adP 0) rdG ++ sh_P cs adP kdP grP cvP brP hzP fmP dmP e1P e2P fkP pnP fnP ++ sh_O cs adO ouO) s.heap.size = A at hD hE hTV ⊢
  have hA : ∀ q : Nat, s.heap.size ≤ q → A q := fun q h => by rw [← hAe]; exact Or.inr h
  have hS : va_S A s.heap s.heap [] := va_S.rf
  have hl := lv_entry ([.ref (adG 0), .int p2, .int p3, .int p4, .ref (adO 0)]) (n := 6) (Nat.le_of_ble_eq_true rfl)
  rw [lg_entry_eq]
  generalize (lg_sl ([.ref (adG 0), .int p2, .int p3, .int p4, .ref (adO 0)]) ++ List.replicate (6 - (lg_sl ([.ref (adG 0), .int p2, .int p3, .int p4, .ref (adO 0)])).length) Slot.unset).toArray = ls at hl ⊢
  have hl : lv_has ls 6 [(0, .ref (adG 0)), (1, .int p2), (2, .int p3), (3, .int p4), (4, .ref (adO 0))] := hl
  refine lv_aload hx hb dL_way_0 (lv_at hl 4 rfl) ?_
  refine lv_iconst (v := 0) hx hb dL_way_2 (by decide) ?_
  refine lv_aload_n hx hb dL_way_3 rfl (lv_at hl 0 rfl) ?_
  refine lv_iload_n hx hb dL_way_4 rfl (lv_at hl 1 rfl) ?_
  refine lv_iload_n hx hb dL_way_5 rfl (lv_at hl 2 rfl) ?_
  refine lv_iload_n hx hb dL_way_6 rfl (lv_at hl 3 rfl) ?_
  rcases h with h | ⟨hT, h⟩
  · skip
    have hFc := va_free (wc := (sh_G cs adG rrG rtG (adP 0) rdG ++ sh_P cs adP kdP grP cvP brP hzP fmP dmP e1P e2P fkP pnP fnP)) hD hS hA [0, 1, 2, 3, 4, 5, 6, 7, 8, 9, 10, 11] rfl
    refine va_calli (va_runV (As := [.int p2, .int p3, .int p4]) (rest := [.int 0, .ref (adO 0)]) ⟨hx, hb, hml, hown, hts⟩ (met_X5_way l D cs ev _ adG adP rrG rtG rdG kdP grP cvP brP hzP fmP dmP e1P e2P fkP pnP fnP p2 p3 p4 _ h) (cwV 3 hts gL_way_X5_way rfl rfl rfl (by decide +kernel) ⟨Nat.le_of_ble_eq_true rfl, Nat.le_of_ble_eq_true rfl⟩) (mPreV (va_recv hK hP (ci := 4) (q0 := 0) rfl rfl) hP hD hS hK hE hFc [0, 1, 2, 3, 4, 5, 6, 7, 8, 9, 10, 11] (by decide) rfl) rfl rfl hl.1 rfl (lv_room (Nat.le_of_ble_eq_true rfl)) dL_way_7 ⟨Nat.le_of_ble_eq_true rfl, Nat.le_of_ble_eq_true rfl⟩) hS (fun q _ h => hFc q h) hFc (fun r_1 u t H1 locs ht hvm hw hB hz1 hk1 hS => ?_)
    obtain ⟨br_2, rfl⟩ : ∃ z, z = u := ⟨_, rfl⟩
    have h := hw
    obtain ⟨hP1, hK1, hD1⟩ := hB
    rw [ht] at hP1
    obtain ⟨hP, hD⟩ := mJoin (wr := (sh_O cs adO ouO)) (w1 := (sh_G cs adG rrG rtG (adP 0) rdG ++ sh_P cs adP kdP grP cvP br_2 hzP fmP dmP e1P e2P fkP pnP fnP)) (w' := (sh_G cs adG rrG rtG (adP 0) rdG ++ sh_P cs adP kdP grP cvP br_2 hzP fmP dmP e1P e2P fkP pnP fnP ++ sh_O cs adO ouO)) hP hD [0, 1, 2, 3, 4, 5, 6, 7, 8, 9, 10, 11] [12] rfl rfl (by decide) (by decide) hk1 hFc hP1 hD1 [1, 2, 3, 4, 5, 6, 7, 8, 9, 10, 11, 12, 0] (by decide) rfl
    generalize H1 = H at hP hS ⊢
    refine lv_if_eq (tgt := 17) hx hb dL_way_10 (by decide) (fun c_3 => ?_) (fun c_3 => ?_)
    · have h := h.1 c_3
      refine lv_lconst (v := 0) hx hb dL_way_17 (by decide) ?_
      have hin := h.1
      have h := h.2
      refine va_last (D := D) (cl := vwCl) hx hb hK hP hD hS 12 1 rfl rfl hin dL_way_18 (fun H locs hP hD hS => ?_)
      have hP : va_P D vwCl (sh_G cs adG rrG rtG (adP 0) rdG ++ sh_P cs adP kdP grP cvP br_2 hzP fmP dmP e1P e2P fkP pnP fnP ++ sh_O cs adO (vp_updL ouO (0 : Int32).toNatClampNeg 0)) H := hP
      have hD : va_D A (sh_G cs adG rrG rtG (adP 0) rdG ++ sh_P cs adP kdP grP cvP br_2 hzP fmP dmP e1P e2P fkP pnP fnP ++ sh_O cs adO (vp_updL ouO (0 : Int32).toNatClampNeg 0)) := hD
      refine lv_goto (tgt := 26) hx hb dL_way_19 (by decide) ?_
      refine lv_iconst (v := 0) hx hb dL_way_26 (by decide) ?_
      refine W.widen (k := 1) (n := 6) (by omega) (by omega) ?_
      exact W.iret (v := 0) hx hb hr (fun t ht hW => ⟨⟨0, (br_2, vp_updL ouO (0 : Int32).toNatClampNeg 0), rfl, h, by rw [ht]; exact hP, va_K.moved hW.alike hK, hD⟩, hS.F ht⟩) hS.2.2 dL_way_27
    · have h := h.2 c_3
      refine lv_lconst (v := 1) hx hb dL_way_13 (by decide) ?_
      refine lv_goto (tgt := 18) hx hb dL_way_14 (by decide) ?_
      have hin := h.1
      have h := h.2
      refine va_last (D := D) (cl := vwCl) hx hb hK hP hD hS 12 1 rfl rfl hin dL_way_18 (fun H locs hP hD hS => ?_)
      have hP : va_P D vwCl (sh_G cs adG rrG rtG (adP 0) rdG ++ sh_P cs adP kdP grP cvP br_2 hzP fmP dmP e1P e2P fkP pnP fnP ++ sh_O cs adO (vp_updL ouO (0 : Int32).toNatClampNeg 1)) H := hP
      have hD : va_D A (sh_G cs adG rrG rtG (adP 0) rdG ++ sh_P cs adP kdP grP cvP br_2 hzP fmP dmP e1P e2P fkP pnP fnP ++ sh_O cs adO (vp_updL ouO (0 : Int32).toNatClampNeg 1)) := hD
      refine lv_goto (tgt := 26) hx hb dL_way_19 (by decide) ?_
      refine lv_iconst (v := 0) hx hb dL_way_26 (by decide) ?_
      refine W.widen (k := 1) (n := 6) (by omega) (by omega) ?_
      exact W.iret (v := 0) hx hb hr (fun t ht hW => ⟨⟨0, (br_2, vp_updL ouO (0 : Int32).toNatClampNeg 1), rfl, h, by rw [ht]; exact hP, va_K.moved hW.alike hK, hD⟩, hS.F ht⟩) hS.2.2 dL_way_27
  · have hFc := va_free (wc := (sh_G cs adG rrG rtG (adP 0) rdG ++ sh_P cs adP kdP grP cvP brP hzP fmP dmP e1P e2P fkP pnP fnP)) hD hS hA [0, 1, 2, 3, 4, 5, 6, 7, 8, 9, 10, 11] rfl
    refine th_callV (E := xN) (x := x) (As := [.int p2, .int p3, .int p4]) (rest := [.int 0, .ref (adO 0)]) ⟨hx, hb, hml, hown, hts⟩ (thr_X5_wayT l hnt D cs ev _ adG adP rrG rtG rdG kdP grP cvP brP hzP fmP dmP e1P e2P fkP pnP fnP p2 p3 p4 hT) (cwV 3 hts gL_way_X5_way rfl rfl rfl (by decide +kernel) ⟨Nat.le_of_ble_eq_true rfl, Nat.le_of_ble_eq_true rfl⟩) (mPreVT (va_recv hK hP (ci := 4) (q0 := 0) rfl rfl) hP hD hS hK hE hTV hFc [0, 1, 2, 3, 4, 5, 6, 7, 8, 9, 10, 11] (by decide) rfl) rfl hl.1 rfl (lv_room (Nat.le_of_ble_eq_true rfl)) dL_way_7 ⟨Nat.le_of_ble_eq_true rfl, Nat.le_of_ble_eq_true rfl⟩ htab (by simp [covers, hx1, hx2]) (by rw [hx4]; decide) (by rw [hx4]; exact va_tabs (thW_tab List.mem_cons_self) rfl (hTV.1 _ List.mem_cons_self)) (fun st v t h1 h2 h3 h4 => th_caughtCell h2 h4) (fun v H1 hk1 hz1 => ?_)
    rw [hx3]
    have hP := hP.kept (H1 := H1) (fun k q hq => hk1 q.1 (hP k q hq).lt)
    have hS := hS.keep hk1 hz1
    generalize H1 = H at hP hS ⊢
    refine W.widen (k := 1) (n := 6) (by omega) (by omega) ?_
    refine lv_astore (lv' := [(5, .ref v), (0, .ref (adG 0)), (1, .int p2), (2, .int p3), (3, .int p4), (4, .ref (adO 0))]) hx hb dL_way_22 hl (by decide) rfl (fun ls hl => ?_)
    refine lv_iconst (v := 1) hx hb dL_way_24 (by decide) ?_
    refine W.widen (k := 1) (n := 6) (by omega) (by omega) ?_
    exact W.iret (v := 1) hx hb hr (fun t ht hW => ⟨⟨1, (brP, ouO), rfl, h, by rw [ht]; exact hP, va_K.moved hW.alike hK, hD⟩, hS.F ht⟩) hS.2.2 dL_way_25
def wp_L_weight (grP : Nat → Int64) (e1P : Nat → Int32) (e2P : Nat → Int32) (pnP : Int32) (fnP : Int32) (ouO : Nat → Int64) (p2 : Int32) (post : Int32 → ((Nat → Int64)) → Prop) : Prop :=
    (wp_X5_weight grP e1P e2P pnP fnP p2 (fun r_1 _ => (vp_in 0 1 ∧ post 0 (vp_updL ouO (0 : Int32).toNatClampNeg r_1))) ∨ (wpT_X5_weightT pnP p2 ∧ post 1 ouO))
set_option maxHeartbeats 4000000 in
set_option maxRecDepth 100000 in
theorem met_L_weight (l : Launch) (hnt : l.stackTraces = false) (D : va_G) (cs : Nat → ClassId) (ev : Nat → Nat → Nat) (sz0 : Nat) (adG : Nat → Nat) (adP : Nat → Nat) (adO : Nat → Nat) (rrG : Nat) (rtG : Nat) (rdG : Nat) (kdP : Nat → Int32) (grP : Nat → Int64) (cvP : Nat → Int32) (brP : Nat → Int32) (hzP : Nat → Int32) (fmP : Nat → Int32) (dmP : Nat → Int32) (e1P : Nat → Int32) (e2P : Nat → Int32) (fkP : Nat → Int32) (pnP : Int32) (fnP : Int32) (ouO : Nat → Int64) (p2 : Int32) (post : Int32 → ((Nat → Int64)) → Prop) (h : wp_L_weight grP e1P e2P pnP fnP ouO p2 post) : Met l yL_weight wsL_weight ({ frames := 8, cells := 1, slots := 6, locals := 141 }) (va_Pc [.ref (adG 0), .int p2, .ref (adO 0)] (fun U => mPre D cs ev (sh_G cs adG rrG rtG (adP 0) rdG ++ sh_P cs adP kdP grP cvP brP hzP fmP dmP e1P e2P fkP pnP fnP ++ sh_O cs adO ouO) sz0 U ∧ TV (va_A (sh_G cs adG rrG rtG (adP 0) rdG ++ sh_P cs adP kdP grP cvP brP hzP fmP dmP e1P e2P fkP pnP fnP ++ sh_O cs adO ouO) sz0) U U.heap)) (va_Qi post (fun ouO' t => mAt D cs (va_A (sh_G cs adG rrG rtG (adP 0) rdG ++ sh_P cs adP kdP grP cvP brP hzP fmP dmP e1P e2P fkP pnP fnP ++ sh_O cs adO ouO) sz0) (sh_G cs adG rrG rtG (adP 0) rdG ++ sh_P cs adP kdP grP cvP brP hzP fmP dmP e1P e2P fkP pnP fnP ++ sh_O cs adO ouO') t) (va_A (sh_G cs adG rrG rtG (adP 0) rdG ++ sh_P cs adP kdP grP cvP brP hzP fmP dmP e1P e2P fkP pnP fnP ++ sh_O cs adO ouO) sz0)) 1 6 (va_A (sh_G cs adG rrG rtG (adP 0) rdG ++ sh_P cs adP kdP grP cvP brP hzP fmP dmP e1P e2P fkP pnP fnP ++ sh_O cs adO ouO) sz0) := by
  refine va_MetW (cc := cL_weight) (maxL := 4) (ret := (some .int)) (by decide) rfl ?_
  intro p e s m args below meth c s₁ B hml hv
  obtain ⟨rfl, ⟨hsz, hP, hK, hD0, hE⟩, hTV⟩ := hv
  have hx := B.exec
  have hb := B.bytes
  have hr := B.returns
  have hts := atoms_spec (ws := wsL_weight) B.pre
  have hown : s.vm.findClass RL = some m.cls := findClass_of_methodNamed B.named
  have hlocks := B.notSynchronized
  obtain ⟨x, htab, hx1, hx2, hx3, hx4⟩ := th_table (hts _ List.mem_cons_self) B.named (Stand.of_body B).method (Stand.of_body B).code
  subst hsz
  have hD := hD0.self (sz := s.heap.size)
  generalize hAe : va_A (sh_G cs adG rrG rtG (adP 0) rdG ++ sh_P cs adP kdP grP cvP brP hzP fmP dmP e1P e2P fkP pnP fnP ++ sh_O cs adO ouO) s.heap.size = A at hD hE hTV ⊢
  have hA : ∀ q : Nat, s.heap.size ≤ q → A q := fun q h => by rw [← hAe]; exact Or.inr h
  have hS : va_S A s.heap s.heap [] := va_S.rf
  have hl := lv_entry ([.ref (adG 0), .int p2, .ref (adO 0)]) (n := 4) (Nat.le_of_ble_eq_true rfl)
  rw [lg_entry_eq]
  generalize (lg_sl ([.ref (adG 0), .int p2, .ref (adO 0)]) ++ List.replicate (4 - (lg_sl ([.ref (adG 0), .int p2, .ref (adO 0)])).length) Slot.unset).toArray = ls at hl ⊢
  have hl : lv_has ls 4 [(0, .ref (adG 0)), (1, .int p2), (2, .ref (adO 0))] := hl
  refine lv_aload_n hx hb dL_weight_0 rfl (lv_at hl 2 rfl) ?_
  refine lv_iconst (v := 0) hx hb dL_weight_1 (by decide) ?_
  refine lv_aload_n hx hb dL_weight_2 rfl (lv_at hl 0 rfl) ?_
  refine lv_iload_n hx hb dL_weight_3 rfl (lv_at hl 1 rfl) ?_
  rcases h with h | ⟨hT, h⟩
  · skip
    have hFc := va_free (wc := (sh_G cs adG rrG rtG (adP 0) rdG ++ sh_P cs adP kdP grP cvP brP hzP fmP dmP e1P e2P fkP pnP fnP)) hD hS hA [0, 1, 2, 3, 4, 5, 6, 7, 8, 9, 10, 11] rfl
    refine va_calll (va_runV (As := [.int p2]) (rest := [.int 0, .ref (adO 0)]) ⟨hx, hb, hml, hown, hts⟩ (met_X5_weight l D cs ev _ adG adP rrG rtG rdG kdP grP cvP brP hzP fmP dmP e1P e2P fkP pnP fnP p2 _ h) (cwV 1 hts gL_weight_X5_weight rfl rfl rfl (by decide +kernel) ⟨Nat.le_of_ble_eq_true rfl, Nat.le_of_ble_eq_true rfl⟩) (mPreV (va_recv hK hP (ci := 4) (q0 := 0) rfl rfl) hP hD hS hK hE hFc [0, 1, 2, 3, 4, 5, 6, 7, 8, 9, 10, 11] (by decide) rfl) rfl rfl hl.1 rfl (lv_room (Nat.le_of_ble_eq_true rfl)) dL_weight_4 ⟨Nat.le_of_ble_eq_true rfl, Nat.le_of_ble_eq_true rfl⟩) hS (fun q _ h => hFc q h) hFc (fun r_1 u t H1 locs ht hvm hw hB hz1 hk1 hS => ?_)
    have h := hw
    obtain ⟨hP1, hK1, hD1⟩ := hB
    rw [ht] at hP1
    obtain ⟨hP, hD⟩ := mJoin (wr := (sh_O cs adO ouO)) (w1 := (sh_G cs adG rrG rtG (adP 0) rdG ++ sh_P cs adP kdP grP cvP brP hzP fmP dmP e1P e2P fkP pnP fnP)) (w' := (sh_G cs adG rrG rtG (adP 0) rdG ++ sh_P cs adP kdP grP cvP brP hzP fmP dmP e1P e2P fkP pnP fnP ++ sh_O cs adO ouO)) hP hD [0, 1, 2, 3, 4, 5, 6, 7, 8, 9, 10, 11] [12] rfl rfl (by decide) (by decide) hk1 hFc hP1 hD1 [1, 2, 3, 4, 5, 6, 7, 8, 9, 10, 11, 12, 0] (by decide) rfl
    generalize H1 = H at hP hS ⊢
    have hin := h.1
    have h := h.2
    refine va_last (D := D) (cl := vwCl) hx hb hK hP hD hS 12 1 rfl rfl hin dL_weight_7 (fun H locs hP hD hS => ?_)
    have hP : va_P D vwCl (sh_G cs adG rrG rtG (adP 0) rdG ++ sh_P cs adP kdP grP cvP brP hzP fmP dmP e1P e2P fkP pnP fnP ++ sh_O cs adO (vp_updL ouO (0 : Int32).toNatClampNeg r_1)) H := hP
    have hD : va_D A (sh_G cs adG rrG rtG (adP 0) rdG ++ sh_P cs adP kdP grP cvP brP hzP fmP dmP e1P e2P fkP pnP fnP ++ sh_O cs adO (vp_updL ouO (0 : Int32).toNatClampNeg r_1)) := hD
    refine lv_goto (tgt := 14) hx hb dL_weight_8 (by decide) ?_
    refine lv_iconst (v := 0) hx hb dL_weight_14 (by decide) ?_
    refine W.widen (k := 1) (n := 6) (by omega) (by omega) ?_
    exact W.iret (v := 0) hx hb hr (fun t ht hW => ⟨⟨0, (vp_updL ouO (0 : Int32).toNatClampNeg r_1), rfl, h, by rw [ht]; exact hP, va_K.moved hW.alike hK, hD⟩, hS.F ht⟩) hS.2.2 dL_weight_15
  · have hFc := va_free (wc := (sh_G cs adG rrG rtG (adP 0) rdG ++ sh_P cs adP kdP grP cvP brP hzP fmP dmP e1P e2P fkP pnP fnP)) hD hS hA [0, 1, 2, 3, 4, 5, 6, 7, 8, 9, 10, 11] rfl
    refine th_callV (E := xN) (x := x) (As := [.int p2]) (rest := [.int 0, .ref (adO 0)]) ⟨hx, hb, hml, hown, hts⟩ (thr_X5_weightT l hnt D cs ev _ adG adP rrG rtG rdG kdP grP cvP brP hzP fmP dmP e1P e2P fkP pnP fnP p2 hT) (cwV 1 hts gL_weight_X5_weight rfl rfl rfl (by decide +kernel) ⟨Nat.le_of_ble_eq_true rfl, Nat.le_of_ble_eq_true rfl⟩) (mPreVT (va_recv hK hP (ci := 4) (q0 := 0) rfl rfl) hP hD hS hK hE hTV hFc [0, 1, 2, 3, 4, 5, 6, 7, 8, 9, 10, 11] (by decide) rfl) rfl hl.1 rfl (lv_room (Nat.le_of_ble_eq_true rfl)) dL_weight_4 ⟨Nat.le_of_ble_eq_true rfl, Nat.le_of_ble_eq_true rfl⟩ htab (by simp [covers, hx1, hx2]) (by rw [hx4]; decide) (by rw [hx4]; exact va_tabs (thW_tab List.mem_cons_self) rfl (hTV.1 _ List.mem_cons_self)) (fun st v t h1 h2 h3 h4 => th_caughtCell h2 h4) (fun v H1 hk1 hz1 => ?_)
    rw [hx3]
    have hP := hP.kept (H1 := H1) (fun k q hq => hk1 q.1 (hP k q hq).lt)
    have hS := hS.keep hk1 hz1
    generalize H1 = H at hP hS ⊢
    refine W.widen (k := 1) (n := 6) (by omega) (by omega) ?_
    refine lv_astore_n (lv' := [(3, .ref v), (0, .ref (adG 0)), (1, .int p2), (2, .ref (adO 0))]) hx hb dL_weight_11 rfl hl (by decide) rfl (fun ls hl => ?_)
    refine lv_iconst (v := 1) hx hb dL_weight_12 (by decide) ?_
    refine W.widen (k := 1) (n := 6) (by omega) (by omega) ?_
    exact W.iret (v := 1) hx hb hr (fun t ht hW => ⟨⟨1, ouO, rfl, h, by rw [ht]; exact hP, va_K.moved hW.alike hK, hD⟩, hS.F ht⟩) hS.2.2 dL_weight_13
