def wp_X5_unit (txR : Nat → Int32) (lnR : Int32) (p1 : Int32) (post : Int32 → ((Nat → Int32) × Int32) → Prop) : Prop :=
    wp_X2_take txR lnR p1 (fun r_1 u => match u with | (tx_2, ln_3) => (narrow .boolean (.int r_1) = .int r_1 ∧ post r_1 (tx_2, ln_3)))
set_option maxHeartbeats 4000000 in
set_option maxRecDepth 100000 in
theorem met_X5_unit (l : Launch) (D : va_G) (cs : Nat → ClassId) (ev : Nat → Nat → Nat) (sz0 : Nat) (adG : Nat → Nat) (adR : Nat → Nat) (rtG : Nat) (rpG : Nat) (rdG : Nat) (txR : Nat → Int32) (nuR : Nat → Int32) (lnR : Int32) (bgR : Int32) (enR : Int32) (p1 : Int32) (post : Int32 → ((Nat → Int32) × Int32) → Prop) (h : wp_X5_unit txR lnR p1 post) : Met l yX5_unit wsX5_unit ({ frames := 1, cells := 0, slots := 0, locals := 21 }) (va_Pc [.ref (adG 0), .int p1] (mPre D cs ev (sh_G cs adG (adR 0) rtG rpG rdG ++ sh_R cs adR txR nuR lnR bgR enR) sz0)) (va_Qi post (fun u t => match u with | (txR', lnR') => mAt D cs (va_A (sh_G cs adG (adR 0) rtG rpG rdG ++ sh_R cs adR txR nuR lnR bgR enR) sz0) (sh_G cs adG (adR 0) rtG rpG rdG ++ sh_R cs adR txR' nuR lnR' bgR enR) t) (va_A (sh_G cs adG (adR 0) rtG rpG rdG ++ sh_R cs adR txR nuR lnR bgR enR) sz0)) 0 0 (va_A (sh_G cs adG (adR 0) rtG rpG rdG ++ sh_R cs adR txR nuR lnR bgR enR) sz0) := by
  refine Met.ofW (cc := cX5_unit) (maxL := 2) (ret := (some .boolean)) (by decide) rfl ?_
  intro p e s m args below meth c s₁ B hml hv
  obtain ⟨rfl, hsz, hP, hK, hD0, hE⟩ := hv
  have hx := B.exec
  have hb := B.bytes
  have hr := B.returns
  have hts := atoms_spec (ws := wsX5_unit) B.pre
  have hown : s.vm.findClass RX5 = some m.cls := findClass_of_methodNamed B.named
  have hlocks := B.notSynchronized
  subst hsz
  have hD := hD0.self (sz := s.heap.size)
  generalize hAe : va_A (sh_G cs adG (adR 0) rtG rpG rdG ++ sh_R cs adR txR nuR lnR bgR enR) s.heap.size = A at hD hE ⊢
  have hA : ∀ q : Nat, s.heap.size ≤ q → A q := fun q h => by rw [← hAe]; exact Or.inr h
  have hS : va_S A s.heap s.heap [] := va_S.rf
  have hl := lv_entry ([.ref (adG 0), .int p1]) (n := 2) (Nat.le_of_ble_eq_true rfl)
  rw [lg_entry_eq]
  generalize (lg_sl ([.ref (adG 0), .int p1]) ++ List.replicate (2 - (lg_sl ([.ref (adG 0), .int p1])).length) Slot.unset).toArray = ls at hl ⊢
  have hl : lv_has ls 2 [(0, .ref (adG 0)), (1, .int p1)] := hl
  refine lv_aload_n hx hb dX5_unit_0 rfl (lv_at hl 0 rfl) ?_
  refine va_get (D := D) (ci := 4) (v := .ref (adR 0)) (C := RX5) (T := TX5) (N := 4) hx hb hts (by decide +kernel) hown hK hP 0 rfl rfl 0 (by decide) (hts (.fieldLink RX5 10 "PartGraphs" "reader" "LPartGraphs$Reader;") (by decide +kernel)) (fun _ h9 => h9) rfl dX5_unit_1 ?_
  refine lv_iload_n hx hb dX5_unit_4 rfl (lv_at hl 1 rfl) ?_
  have hFc := va_free (wc := (sh_R cs adR txR nuR lnR bgR enR)) hD hS hA [1, 2, 3] rfl
  refine va_calli (va_runV (As := [.int p1]) (rest := []) ⟨hx, hb, hml, hown, hts⟩ (met_X2_take l D cs ev _ adR txR nuR lnR bgR enR p1 _ h) (cwV 1 hts gX5_unit_X2_take rfl rfl rfl (by decide +kernel) ⟨Nat.le_of_ble_eq_true rfl, Nat.le_of_ble_eq_true rfl⟩) (mPreV (va_recv hK hP (ci := 2) (q0 := 1) rfl rfl) hP hD hS hK hE hFc [1, 2, 3] (by decide) rfl) rfl rfl hl.1 rfl (lv_room (Nat.le_of_ble_eq_true rfl)) dX5_unit_5 ⟨Nat.le_of_ble_eq_true rfl, Nat.le_of_ble_eq_true rfl⟩) hS (fun q _ h => hFc q h) hFc (fun r_1 u t H1 locs ht hvm hw hB hz1 hk1 hS => ?_)
  obtain ⟨tx_2, ln_3⟩ := u
  have h := hw
  obtain ⟨hP1, hK1, hD1⟩ := hB
  rw [ht] at hP1
  obtain ⟨hP, hD⟩ := mJoin (wr := (sh_G cs adG (adR 0) rtG rpG rdG)) (w1 := (sh_R cs adR tx_2 nuR ln_3 bgR enR)) (w' := (sh_G cs adG (adR 0) rtG rpG rdG ++ sh_R cs adR tx_2 nuR ln_3 bgR enR)) hP hD [1, 2, 3] [0] rfl rfl (by decide) (by decide) hk1 hFc hP1 hD1 [0, 1, 2, 3] (by decide) rfl
  generalize H1 = H at hP hS ⊢
  have hn := h.1
  have h := h.2
  exact W.zret (v := r_1) hx hb hr hn (fun t ht hW => ⟨⟨r_1, (tx_2, ln_3), rfl, h, by rw [ht]; exact hP, va_K.moved hW.alike hK, hD⟩, hS.F ht⟩) hS.2.2 dX5_unit_8
def wp_X5_part (kdP : Nat → Int32) (grP : Nat → Int64) (cvP : Nat → Int32) (brP : Nat → Int32) (hzP : Nat → Int32) (fmP : Nat → Int32) (dmP : Nat → Int32) (pnP : Int32) (p1 : Int32) (p2 : Int64) (post : Int32 → ((Nat → Int32) × (Nat → Int64) × (Nat → Int32) × (Nat → Int32) × (Nat → Int32) × (Nat → Int32) × (Nat → Int32) × Int32) → Prop) : Prop :=
    wp_X1_addPart kdP grP cvP brP hzP fmP dmP pnP p1 p2 (fun r_1 u => match u with | (kd_2, gr_3, cv_4, br_5, hz_6, fm_7, dm_8, pn_9) => post r_1 (kd_2, gr_3, cv_4, br_5, hz_6, fm_7, dm_8, pn_9))
set_option maxHeartbeats 4000000 in
set_option maxRecDepth 100000 in
theorem met_X5_part (l : Launch) (D : va_G) (cs : Nat → ClassId) (ev : Nat → Nat → Nat) (sz0 : Nat) (adG : Nat → Nat) (adP : Nat → Nat) (rrG : Nat) (rtG : Nat) (rdG : Nat) (kdP : Nat → Int32) (grP : Nat → Int64) (cvP : Nat → Int32) (brP : Nat → Int32) (hzP : Nat → Int32) (fmP : Nat → Int32) (dmP : Nat → Int32) (e1P : Nat → Int32) (e2P : Nat → Int32) (fkP : Nat → Int32) (pnP : Int32) (fnP : Int32) (p1 : Int32) (p2 : Int64) (post : Int32 → ((Nat → Int32) × (Nat → Int64) × (Nat → Int32) × (Nat → Int32) × (Nat → Int32) × (Nat → Int32) × (Nat → Int32) × Int32) → Prop) (h : wp_X5_part kdP grP cvP brP hzP fmP dmP pnP p1 p2 post) : Met l yX5_part wsX5_part ({ frames := 3, cells := 0, slots := 0, locals := 69 }) (va_Pc [.ref (adG 0), .int p1, .long p2] (mPre D cs ev (sh_G cs adG rrG rtG (adP 0) rdG ++ sh_P cs adP kdP grP cvP brP hzP fmP dmP e1P e2P fkP pnP fnP) sz0)) (va_Qi post (fun u t => match u with | (kdP', grP', cvP', brP', hzP', fmP', dmP', pnP') => mAt D cs (va_A (sh_G cs adG rrG rtG (adP 0) rdG ++ sh_P cs adP kdP grP cvP brP hzP fmP dmP e1P e2P fkP pnP fnP) sz0) (sh_G cs adG rrG rtG (adP 0) rdG ++ sh_P cs adP kdP' grP' cvP' brP' hzP' fmP' dmP' e1P e2P fkP pnP' fnP) t) (va_A (sh_G cs adG rrG rtG (adP 0) rdG ++ sh_P cs adP kdP grP cvP brP hzP fmP dmP e1P e2P fkP pnP fnP) sz0)) 0 0 (va_A (sh_G cs adG rrG rtG (adP 0) rdG ++ sh_P cs adP kdP grP cvP brP hzP fmP dmP e1P e2P fkP pnP fnP) sz0) := by
  refine Met.ofW (cc := cX5_part) (maxL := 4) (ret := (some .int)) (by decide) rfl ?_
  intro p e s m args below meth c s₁ B hml hv
  obtain ⟨rfl, hsz, hP, hK, hD0, hE⟩ := hv
  have hx := B.exec
  have hb := B.bytes
  have hr := B.returns
  have hts := atoms_spec (ws := wsX5_part) B.pre
  have hown : s.vm.findClass RX5 = some m.cls := findClass_of_methodNamed B.named
  have hlocks := B.notSynchronized
  subst hsz
  have hD := hD0.self (sz := s.heap.size)
  generalize hAe : va_A (sh_G cs adG rrG rtG (adP 0) rdG ++ sh_P cs adP kdP grP cvP brP hzP fmP dmP e1P e2P fkP pnP fnP) s.heap.size = A at hD hE ⊢
  have hA : ∀ q : Nat, s.heap.size ≤ q → A q := fun q h => by rw [← hAe]; exact Or.inr h
  have hS : va_S A s.heap s.heap [] := va_S.rf
  have hl := lv_entry ([.ref (adG 0), .int p1, .long p2]) (n := 4) (Nat.le_of_ble_eq_true rfl)
  rw [lg_entry_eq]
  generalize (lg_sl ([.ref (adG 0), .int p1, .long p2]) ++ List.replicate (4 - (lg_sl ([.ref (adG 0), .int p1, .long p2])).length) Slot.unset).toArray = ls at hl ⊢
  have hl : lv_has ls 4 [(0, .ref (adG 0)), (1, .int p1), (2, .long p2)] := hl
  refine lv_aload_n hx hb dX5_part_0 rfl (lv_at hl 0 rfl) ?_
  refine va_get (D := D) (ci := 4) (v := .ref (adP 0)) (C := RX5) (T := TX5) (N := 4) hx hb hts (by decide +kernel) hown hK hP 0 rfl rfl 2 (by decide) (hts (.fieldLink RX5 26 "PartGraphs" "product" "LPartGraphs$Product;") (by decide +kernel)) (fun _ h9 => h9) rfl dX5_part_1 ?_
  refine lv_iload_n hx hb dX5_part_4 rfl (lv_at hl 1 rfl) ?_
  refine lv_lload_n hx hb dX5_part_5 rfl (lv_at hl 2 rfl) ?_
  have hFc := va_free (wc := (sh_P cs adP kdP grP cvP brP hzP fmP dmP e1P e2P fkP pnP fnP)) hD hS hA [1, 2, 3, 4, 5, 6, 7, 8, 9, 10, 11] rfl
  refine va_calli (va_runV (As := [.int p1, .long p2]) (rest := []) ⟨hx, hb, hml, hown, hts⟩ (met_X1_addPart l D cs ev _ adP kdP grP cvP brP hzP fmP dmP e1P e2P fkP pnP fnP p1 p2 _ h) (cwV 2 hts gX5_part_X1_addPart rfl rfl rfl (by decide +kernel) ⟨Nat.le_of_ble_eq_true rfl, Nat.le_of_ble_eq_true rfl⟩) (mPreV (va_recv hK hP (ci := 1) (q0 := 1) rfl rfl) hP hD hS hK hE hFc [1, 2, 3, 4, 5, 6, 7, 8, 9, 10, 11] (by decide) rfl) rfl rfl hl.1 rfl (lv_room (Nat.le_of_ble_eq_true rfl)) dX5_part_6 ⟨Nat.le_of_ble_eq_true rfl, Nat.le_of_ble_eq_true rfl⟩) hS (fun q _ h => hFc q h) hFc (fun r_1 u t H1 locs ht hvm hw hB hz1 hk1 hS => ?_)
  obtain ⟨kd_2, gr_3, cv_4, br_5, hz_6, fm_7, dm_8, pn_9⟩ := u
  have h := hw
  obtain ⟨hP1, hK1, hD1⟩ := hB
  rw [ht] at hP1
  obtain ⟨hP, hD⟩ := mJoin (wr := (sh_G cs adG rrG rtG (adP 0) rdG)) (w1 := (sh_P cs adP kd_2 gr_3 cv_4 br_5 hz_6 fm_7 dm_8 e1P e2P fkP pn_9 fnP)) (w' := (sh_G cs adG rrG rtG (adP 0) rdG ++ sh_P cs adP kd_2 gr_3 cv_4 br_5 hz_6 fm_7 dm_8 e1P e2P fkP pn_9 fnP)) hP hD [1, 2, 3, 4, 5, 6, 7, 8, 9, 10, 11] [0] rfl rfl (by decide) (by decide) hk1 hFc hP1 hD1 [0, 1, 2, 3, 4, 5, 6, 7, 8, 9, 10, 11] (by decide) rfl
  generalize H1 = H at hP hS ⊢
  exact W.iret (v := r_1) hx hb hr (fun t ht hW => ⟨⟨r_1, (kd_2, gr_3, cv_4, br_5, hz_6, fm_7, dm_8, pn_9), rfl, h, by rw [ht]; exact hP, va_K.moved hW.alike hK, hD⟩, hS.F ht⟩) hS.2.2 dX5_part_9
def wp_X5_fasten (e1P : Nat → Int32) (e2P : Nat → Int32) (fkP : Nat → Int32) (pnP : Int32) (fnP : Int32) (p1 : Int32) (p2 : Int32) (p3 : Int32) (post : Int32 → ((Nat → Int32) × (Nat → Int32) × (Nat → Int32) × Int32) → Prop) : Prop :=
    wp_X1_addFastening e1P e2P fkP pnP fnP p1 p2 p3 (fun r_1 u => match u with | (e1_2, e2_3, fk_4, fn_5) => post r_1 (e1_2, e2_3, fk_4, fn_5))
set_option maxHeartbeats 4000000 in
set_option maxRecDepth 100000 in
theorem met_X5_fasten (l : Launch) (D : va_G) (cs : Nat → ClassId) (ev : Nat → Nat → Nat) (sz0 : Nat) (adG : Nat → Nat) (adP : Nat → Nat) (rrG : Nat) (rtG : Nat) (rdG : Nat) (kdP : Nat → Int32) (grP : Nat → Int64) (cvP : Nat → Int32) (brP : Nat → Int32) (hzP : Nat → Int32) (fmP : Nat → Int32) (dmP : Nat → Int32) (e1P : Nat → Int32) (e2P : Nat → Int32) (fkP : Nat → Int32) (pnP : Int32) (fnP : Int32) (p1 : Int32) (p2 : Int32) (p3 : Int32) (post : Int32 → ((Nat → Int32) × (Nat → Int32) × (Nat → Int32) × Int32) → Prop) (h : wp_X5_fasten e1P e2P fkP pnP fnP p1 p2 p3 post) : Met l yX5_fasten wsX5_fasten ({ frames := 3, cells := 0, slots := 0, locals := 69 }) (va_Pc [.ref (adG 0), .int p1, .int p2, .int p3] (mPre D cs ev (sh_G cs adG rrG rtG (adP 0) rdG ++ sh_P cs adP kdP grP cvP brP hzP fmP dmP e1P e2P fkP pnP fnP) sz0)) (va_Qi post (fun u t => match u with | (e1P', e2P', fkP', fnP') => mAt D cs (va_A (sh_G cs adG rrG rtG (adP 0) rdG ++ sh_P cs adP kdP grP cvP brP hzP fmP dmP e1P e2P fkP pnP fnP) sz0) (sh_G cs adG rrG rtG (adP 0) rdG ++ sh_P cs adP kdP grP cvP brP hzP fmP dmP e1P' e2P' fkP' pnP fnP') t) (va_A (sh_G cs adG rrG rtG (adP 0) rdG ++ sh_P cs adP kdP grP cvP brP hzP fmP dmP e1P e2P fkP pnP fnP) sz0)) 0 0 (va_A (sh_G cs adG rrG rtG (adP 0) rdG ++ sh_P cs adP kdP grP cvP brP hzP fmP dmP e1P e2P fkP pnP fnP) sz0) := by
  refine Met.ofW (cc := cX5_fasten) (maxL := 4) (ret := (some .int)) (by decide) rfl ?_
  intro p e s m args below meth c s₁ B hml hv
  obtain ⟨rfl, hsz, hP, hK, hD0, hE⟩ := hv
  have hx := B.exec
  have hb := B.bytes
  have hr := B.returns
  have hts := atoms_spec (ws := wsX5_fasten) B.pre
  have hown : s.vm.findClass RX5 = some m.cls := findClass_of_methodNamed B.named
  have hlocks := B.notSynchronized
  subst hsz
  have hD := hD0.self (sz := s.heap.size)
  generalize hAe : va_A (sh_G cs adG rrG rtG (adP 0) rdG ++ sh_P cs adP kdP grP cvP brP hzP fmP dmP e1P e2P fkP pnP fnP) s.heap.size = A at hD hE ⊢
  have hA : ∀ q : Nat, s.heap.size ≤ q → A q := fun q h => by rw [← hAe]; exact Or.inr h
  have hS : va_S A s.heap s.heap [] := va_S.rf
  have hl := lv_entry ([.ref (adG 0), .int p1, .int p2, .int p3]) (n := 4) (Nat.le_of_ble_eq_true rfl)
  rw [lg_entry_eq]
  generalize (lg_sl ([.ref (adG 0), .int p1, .int p2, .int p3]) ++ List.replicate (4 - (lg_sl ([.ref (adG 0), .int p1, .int p2, .int p3])).length) Slot.unset).toArray = ls at hl ⊢
  have hl : lv_has ls 4 [(0, .ref (adG 0)), (1, .int p1), (2, .int p2), (3, .int p3)] := hl
  refine lv_aload_n hx hb dX5_fasten_0 rfl (lv_at hl 0 rfl) ?_
  refine va_get (D := D) (ci := 4) (v := .ref (adP 0)) (C := RX5) (T := TX5) (N := 4) hx hb hts (by decide +kernel) hown hK hP 0 rfl rfl 2 (by decide) (hts (.fieldLink RX5 26 "PartGraphs" "product" "LPartGraphs$Product;") (by decide +kernel)) (fun _ h9 => h9) rfl dX5_fasten_1 ?_
  refine lv_iload_n hx hb dX5_fasten_4 rfl (lv_at hl 1 rfl) ?_
  refine lv_iload_n hx hb dX5_fasten_5 rfl (lv_at hl 2 rfl) ?_
  refine lv_iload_n hx hb dX5_fasten_6 rfl (lv_at hl 3 rfl) ?_
  have hFc := va_free (wc := (sh_P cs adP kdP grP cvP brP hzP fmP dmP e1P e2P fkP pnP fnP)) hD hS hA [1, 2, 3, 4, 5, 6, 7, 8, 9, 10, 11] rfl
  refine va_calli (va_runV (As := [.int p1, .int p2, .int p3]) (rest := []) ⟨hx, hb, hml, hown, hts⟩ (met_X1_addFastening l D cs ev _ adP kdP grP cvP brP hzP fmP dmP e1P e2P fkP pnP fnP p1 p2 p3 _ h) (cwV 3 hts gX5_fasten_X1_addFastening rfl rfl rfl (by decide +kernel) ⟨Nat.le_of_ble_eq_true rfl, Nat.le_of_ble_eq_true rfl⟩) (mPreV (va_recv hK hP (ci := 1) (q0 := 1) rfl rfl) hP hD hS hK hE hFc [1, 2, 3, 4, 5, 6, 7, 8, 9, 10, 11] (by decide) rfl) rfl rfl hl.1 rfl (lv_room (Nat.le_of_ble_eq_true rfl)) dX5_fasten_7 ⟨Nat.le_of_ble_eq_true rfl, Nat.le_of_ble_eq_true rfl⟩) hS (fun q _ h => hFc q h) hFc (fun r_1 u t H1 locs ht hvm hw hB hz1 hk1 hS => ?_)
  obtain ⟨e1_2, e2_3, fk_4, fn_5⟩ := u
  have h := hw
  obtain ⟨hP1, hK1, hD1⟩ := hB
  rw [ht] at hP1
  obtain ⟨hP, hD⟩ := mJoin (wr := (sh_G cs adG rrG rtG (adP 0) rdG)) (w1 := (sh_P cs adP kdP grP cvP brP hzP fmP dmP e1_2 e2_3 fk_4 pnP fn_5)) (w' := (sh_G cs adG rrG rtG (adP 0) rdG ++ sh_P cs adP kdP grP cvP brP hzP fmP dmP e1_2 e2_3 fk_4 pnP fn_5)) hP hD [1, 2, 3, 4, 5, 6, 7, 8, 9, 10, 11] [0] rfl rfl (by decide) (by decide) hk1 hFc hP1 hD1 [0, 1, 2, 3, 4, 5, 6, 7, 8, 9, 10, 11] (by decide) rfl
  generalize H1 = H at hP hS ⊢
  exact W.iret (v := r_1) hx hb hr (fun t ht hW => ⟨⟨r_1, (e1_2, e2_3, fk_4, fn_5), rfl, h, by rw [ht]; exact hP, va_K.moved hW.alike hK, hD⟩, hS.F ht⟩) hS.2.2 dX5_fasten_10
def wp_X5_cover (cvP : Nat → Int32) (pnP : Int32) (p1 : Int32) (p2 : Int32) (post : Int32 → ((Nat → Int32)) → Prop) : Prop :=
    wp_X1_addCover cvP pnP p1 p2 (fun r_1 cv_2 => (narrow .boolean (.int r_1) = .int r_1 ∧ post r_1 cv_2))
set_option maxHeartbeats 4000000 in
set_option maxRecDepth 100000 in
theorem met_X5_cover (l : Launch) (D : va_G) (cs : Nat → ClassId) (ev : Nat → Nat → Nat) (sz0 : Nat) (adG : Nat → Nat) (adP : Nat → Nat) (rrG : Nat) (rtG : Nat) (rdG : Nat) (kdP : Nat → Int32) (grP : Nat → Int64) (cvP : Nat → Int32) (brP : Nat → Int32) (hzP : Nat → Int32) (fmP : Nat → Int32) (dmP : Nat → Int32) (e1P : Nat → Int32) (e2P : Nat → Int32) (fkP : Nat → Int32) (pnP : Int32) (fnP : Int32) (p1 : Int32) (p2 : Int32) (post : Int32 → ((Nat → Int32)) → Prop) (h : wp_X5_cover cvP pnP p1 p2 post) : Met l yX5_cover wsX5_cover ({ frames := 3, cells := 0, slots := 0, locals := 66 }) (va_Pc [.ref (adG 0), .int p1, .int p2] (mPre D cs ev (sh_G cs adG rrG rtG (adP 0) rdG ++ sh_P cs adP kdP grP cvP brP hzP fmP dmP e1P e2P fkP pnP fnP) sz0)) (va_Qi post (fun cvP' t => mAt D cs (va_A (sh_G cs adG rrG rtG (adP 0) rdG ++ sh_P cs adP kdP grP cvP brP hzP fmP dmP e1P e2P fkP pnP fnP) sz0) (sh_G cs adG rrG rtG (adP 0) rdG ++ sh_P cs adP kdP grP cvP' brP hzP fmP dmP e1P e2P fkP pnP fnP) t) (va_A (sh_G cs adG rrG rtG (adP 0) rdG ++ sh_P cs adP kdP grP cvP brP hzP fmP dmP e1P e2P fkP pnP fnP) sz0)) 0 0 (va_A (sh_G cs adG rrG rtG (adP 0) rdG ++ sh_P cs adP kdP grP cvP brP hzP fmP dmP e1P e2P fkP pnP fnP) sz0) := by
  refine Met.ofW (cc := cX5_cover) (maxL := 3) (ret := (some .boolean)) (by decide) rfl ?_
  intro p e s m args below meth c s₁ B hml hv
  obtain ⟨rfl, hsz, hP, hK, hD0, hE⟩ := hv
  have hx := B.exec
  have hb := B.bytes
  have hr := B.returns
  have hts := atoms_spec (ws := wsX5_cover) B.pre
  have hown : s.vm.findClass RX5 = some m.cls := findClass_of_methodNamed B.named
  have hlocks := B.notSynchronized
  subst hsz
  have hD := hD0.self (sz := s.heap.size)
  generalize hAe : va_A (sh_G cs adG rrG rtG (adP 0) rdG ++ sh_P cs adP kdP grP cvP brP hzP fmP dmP e1P e2P fkP pnP fnP) s.heap.size = A at hD hE ⊢
  have hA : ∀ q : Nat, s.heap.size ≤ q → A q := fun q h => by rw [← hAe]; exact Or.inr h
  have hS : va_S A s.heap s.heap [] := va_S.rf
  have hl := lv_entry ([.ref (adG 0), .int p1, .int p2]) (n := 3) (Nat.le_of_ble_eq_true rfl)
  rw [lg_entry_eq]
  generalize (lg_sl ([.ref (adG 0), .int p1, .int p2]) ++ List.replicate (3 - (lg_sl ([.ref (adG 0), .int p1, .int p2])).length) Slot.unset).toArray = ls at hl ⊢
  have hl : lv_has ls 3 [(0, .ref (adG 0)), (1, .int p1), (2, .int p2)] := hl
  refine lv_aload_n hx hb dX5_cover_0 rfl (lv_at hl 0 rfl) ?_
  refine va_get (D := D) (ci := 4) (v := .ref (adP 0)) (C := RX5) (T := TX5) (N := 4) hx hb hts (by decide +kernel) hown hK hP 0 rfl rfl 2 (by decide) (hts (.fieldLink RX5 26 "PartGraphs" "product" "LPartGraphs$Product;") (by decide +kernel)) (fun _ h9 => h9) rfl dX5_cover_1 ?_
  refine lv_iload_n hx hb dX5_cover_4 rfl (lv_at hl 1 rfl) ?_
  refine lv_iload_n hx hb dX5_cover_5 rfl (lv_at hl 2 rfl) ?_
  have hFc := va_free (wc := (sh_P cs adP kdP grP cvP brP hzP fmP dmP e1P e2P fkP pnP fnP)) hD hS hA [1, 2, 3, 4, 5, 6, 7, 8, 9, 10, 11] rfl
  refine va_calli (va_runV (As := [.int p1, .int p2]) (rest := []) ⟨hx, hb, hml, hown, hts⟩ (met_X1_addCover l D cs ev _ adP kdP grP cvP brP hzP fmP dmP e1P e2P fkP pnP fnP p1 p2 _ h) (cwV 2 hts gX5_cover_X1_addCover rfl rfl rfl (by decide +kernel) ⟨Nat.le_of_ble_eq_true rfl, Nat.le_of_ble_eq_true rfl⟩) (mPreV (va_recv hK hP (ci := 1) (q0 := 1) rfl rfl) hP hD hS hK hE hFc [1, 2, 3, 4, 5, 6, 7, 8, 9, 10, 11] (by decide) rfl) rfl rfl hl.1 rfl (lv_room (Nat.le_of_ble_eq_true rfl)) dX5_cover_6 ⟨Nat.le_of_ble_eq_true rfl, Nat.le_of_ble_eq_true rfl⟩) hS (fun q _ h => hFc q h) hFc (fun r_1 u t H1 locs ht hvm hw hB hz1 hk1 hS => ?_)
  obtain ⟨cv_2, rfl⟩ : ∃ z, z = u := ⟨_, rfl⟩
  have h := hw
  obtain ⟨hP1, hK1, hD1⟩ := hB
  rw [ht] at hP1
  obtain ⟨hP, hD⟩ := mJoin (wr := (sh_G cs adG rrG rtG (adP 0) rdG)) (w1 := (sh_P cs adP kdP grP cv_2 brP hzP fmP dmP e1P e2P fkP pnP fnP)) (w' := (sh_G cs adG rrG rtG (adP 0) rdG ++ sh_P cs adP kdP grP cv_2 brP hzP fmP dmP e1P e2P fkP pnP fnP)) hP hD [1, 2, 3, 4, 5, 6, 7, 8, 9, 10, 11] [0] rfl rfl (by decide) (by decide) hk1 hFc hP1 hD1 [0, 1, 2, 3, 4, 5, 6, 7, 8, 9, 10, 11] (by decide) rfl
  generalize H1 = H at hP hS ⊢
  have hn := h.1
  have h := h.2
  exact W.zret (v := r_1) hx hb hr hn (fun t ht hW => ⟨⟨r_1, cv_2, rfl, h, by rw [ht]; exact hP, va_K.moved hW.alike hK, hD⟩, hS.F ht⟩) hS.2.2 dX5_cover_9
def wp_X5_before (cvP : Nat → Int32) (brP : Nat → Int32) (pnP : Int32) (p1 : Int32) (p2 : Int32) (post : Int32 → Unit → Prop) : Prop :=
    wp_X1_mustComeOffBefore cvP brP pnP p1 (fun r_1 _ => wp_X5_memberOf r_1 p2 (fun r_2 _ => post r_2 ()))
set_option maxHeartbeats 4000000 in
set_option maxRecDepth 100000 in
theorem met_X5_before (l : Launch) (D : va_G) (cs : Nat → ClassId) (ev : Nat → Nat → Nat) (sz0 : Nat) (adG : Nat → Nat) (adP : Nat → Nat) (rrG : Nat) (rtG : Nat) (rdG : Nat) (kdP : Nat → Int32) (grP : Nat → Int64) (cvP : Nat → Int32) (brP : Nat → Int32) (hzP : Nat → Int32) (fmP : Nat → Int32) (dmP : Nat → Int32) (e1P : Nat → Int32) (e2P : Nat → Int32) (fkP : Nat → Int32) (pnP : Int32) (fnP : Int32) (p1 : Int32) (p2 : Int32) (post : Int32 → Unit → Prop) (h : wp_X5_before cvP brP pnP p1 p2 post) : Met l yX5_before wsX5_before ({ frames := 5, cells := 0, slots := 0, locals := 114 }) (va_Pc [.ref (adG 0), .int p1, .int p2] (mPre D cs ev (sh_G cs adG rrG rtG (adP 0) rdG ++ sh_P cs adP kdP grP cvP brP hzP fmP dmP e1P e2P fkP pnP fnP) sz0)) (va_Qi post (fun _ t => mAt D cs (va_A (sh_G cs adG rrG rtG (adP 0) rdG ++ sh_P cs adP kdP grP cvP brP hzP fmP dmP e1P e2P fkP pnP fnP) sz0) (sh_G cs adG rrG rtG (adP 0) rdG ++ sh_P cs adP kdP grP cvP brP hzP fmP dmP e1P e2P fkP pnP fnP) t) (va_A (sh_G cs adG rrG rtG (adP 0) rdG ++ sh_P cs adP kdP grP cvP brP hzP fmP dmP e1P e2P fkP pnP fnP) sz0)) 0 0 (va_A (sh_G cs adG rrG rtG (adP 0) rdG ++ sh_P cs adP kdP grP cvP brP hzP fmP dmP e1P e2P fkP pnP fnP) sz0) := by
  refine Met.ofW (cc := cX5_before) (maxL := 3) (ret := (some .int)) (by decide) rfl ?_
  intro p e s m args below meth c s₁ B hml hv
  obtain ⟨rfl, hsz, hP, hK, hD0, hE⟩ := hv
  have hx := B.exec
  have hb := B.bytes
  have hr := B.returns
  have hts := atoms_spec (ws := wsX5_before) B.pre
  have hown : s.vm.findClass RX5 = some m.cls := findClass_of_methodNamed B.named
  have hlocks := B.notSynchronized
  subst hsz
  have hD := hD0.self (sz := s.heap.size)
  generalize hAe : va_A (sh_G cs adG rrG rtG (adP 0) rdG ++ sh_P cs adP kdP grP cvP brP hzP fmP dmP e1P e2P fkP pnP fnP) s.heap.size = A at hD hE ⊢
  have hA : ∀ q : Nat, s.heap.size ≤ q → A q := fun q h => by rw [← hAe]; exact Or.inr h
  have hS : va_S A s.heap s.heap [] := va_S.rf
  have hl := lv_entry ([.ref (adG 0), .int p1, .int p2]) (n := 3) (Nat.le_of_ble_eq_true rfl)
  rw [lg_entry_eq]
  generalize (lg_sl ([.ref (adG 0), .int p1, .int p2]) ++ List.replicate (3 - (lg_sl ([.ref (adG 0), .int p1, .int p2])).length) Slot.unset).toArray = ls at hl ⊢
  have hl : lv_has ls 3 [(0, .ref (adG 0)), (1, .int p1), (2, .int p2)] := hl
  refine lv_aload_n hx hb dX5_before_0 rfl (lv_at hl 0 rfl) ?_
  refine va_get (D := D) (ci := 4) (v := .ref (adP 0)) (C := RX5) (T := TX5) (N := 4) hx hb hts (by decide +kernel) hown hK hP 0 rfl rfl 2 (by decide) (hts (.fieldLink RX5 26 "PartGraphs" "product" "LPartGraphs$Product;") (by decide +kernel)) (fun _ h9 => h9) rfl dX5_before_1 ?_
  refine lv_iload_n hx hb dX5_before_4 rfl (lv_at hl 1 rfl) ?_
  have hFc := va_free (wc := (sh_P cs adP kdP grP cvP brP hzP fmP dmP e1P e2P fkP pnP fnP)) hD hS hA [1, 2, 3, 4, 5, 6, 7, 8, 9, 10, 11] rfl
  refine va_calli (va_runV (As := [.int p1]) (rest := []) ⟨hx, hb, hml, hown, hts⟩ (met_X1_mustComeOffBefore l D cs ev _ adP kdP grP cvP brP hzP fmP dmP e1P e2P fkP pnP fnP p1 _ h) (cwV 1 hts gX5_before_X1_mustComeOffBefore rfl rfl rfl (by decide +kernel) ⟨Nat.le_of_ble_eq_true rfl, Nat.le_of_ble_eq_true rfl⟩) (mPreV (va_recv hK hP (ci := 1) (q0 := 1) rfl rfl) hP hD hS hK hE hFc [1, 2, 3, 4, 5, 6, 7, 8, 9, 10, 11] (by decide) rfl) rfl rfl hl.1 rfl (lv_room (Nat.le_of_ble_eq_true rfl)) dX5_before_5 ⟨Nat.le_of_ble_eq_true rfl, Nat.le_of_ble_eq_true rfl⟩) hS (fun q _ h => hFc q h) hFc (fun r_1 u t H1 locs ht hvm hw hB hz1 hk1 hS => ?_)
  have h := hw
  obtain ⟨hP1, hK1, hD1⟩ := hB
  rw [ht] at hP1
  obtain ⟨hP, hD⟩ := mJoin (wr := (sh_G cs adG rrG rtG (adP 0) rdG)) (w1 := (sh_P cs adP kdP grP cvP brP hzP fmP dmP e1P e2P fkP pnP fnP)) (w' := (sh_G cs adG rrG rtG (adP 0) rdG ++ sh_P cs adP kdP grP cvP brP hzP fmP dmP e1P e2P fkP pnP fnP)) hP hD [1, 2, 3, 4, 5, 6, 7, 8, 9, 10, 11] [0] rfl rfl (by decide) (by decide) hk1 hFc hP1 hD1 [0, 1, 2, 3, 4, 5, 6, 7, 8, 9, 10, 11] (by decide) rfl
  generalize H1 = H at hP hS ⊢
  refine lv_iload_n hx hb dX5_before_8 rfl (lv_at hl 2 rfl) ?_
  have hFc := va_free (wc := ([] : va_W)) hD hS hA [] rfl
  refine va_calli (va_runS (As := [.int r_1, .int p2]) (rest := []) ⟨hx, hb, hml, hown, hts⟩ (met_X5_memberOf l D cs ev _ r_1 p2 _ h) (va_cwS 2 hts gX5_before_X5_memberOf rfl rfl rfl (by decide +kernel) ⟨Nat.le_of_ble_eq_true rfl, Nat.le_of_ble_eq_true rfl⟩) (mPreS hP hD hS hK hE hFc [] (by decide) rfl) rfl rfl hl.1 rfl (lv_room (Nat.le_of_ble_eq_true rfl)) dX5_before_9 ⟨Nat.le_of_ble_eq_true rfl, Nat.le_of_ble_eq_true rfl⟩) hS (fun q _ h => hFc q h) hFc (fun r_2 u t H1 locs ht hvm hw hB hz1 hk1 hS => ?_)
  have h := hw
  obtain ⟨hP1, hK1, hD1⟩ := hB
  rw [ht] at hP1
  obtain ⟨hP, hD⟩ := mJoin (wr := (sh_G cs adG rrG rtG (adP 0) rdG ++ sh_P cs adP kdP grP cvP brP hzP fmP dmP e1P e2P fkP pnP fnP)) (w1 := ([] : va_W)) (w' := (sh_G cs adG rrG rtG (adP 0) rdG ++ sh_P cs adP kdP grP cvP brP hzP fmP dmP e1P e2P fkP pnP fnP)) hP hD [] [0, 1, 2, 3, 4, 5, 6, 7, 8, 9, 10, 11] rfl rfl (by decide) (by decide) hk1 hFc hP1 hD1 [0, 1, 2, 3, 4, 5, 6, 7, 8, 9, 10, 11] (by decide) rfl
  generalize H1 = H at hP hS ⊢
  exact W.iret (v := r_2) hx hb hr (fun t ht hW => ⟨⟨r_2, (), rfl, h, by rw [ht]; exact hP, va_K.moved hW.alike hK, hD⟩, hS.F ht⟩) hS.2.2 dX5_before_12
def wp_X5_ring (cvP : Nat → Int32) (brP : Nat → Int32) (pnP : Int32) (p1 : Int32) (post : Int32 → Unit → Prop) : Prop :=
    wp_X1_neverComingOff cvP brP pnP (fun r_1 _ => wp_X5_memberOf r_1 p1 (fun r_2 _ => post r_2 ()))
set_option maxHeartbeats 4000000 in
set_option maxRecDepth 100000 in
theorem met_X5_ring (l : Launch) (D : va_G) (cs : Nat → ClassId) (ev : Nat → Nat → Nat) (sz0 : Nat) (adG : Nat → Nat) (adP : Nat → Nat) (rrG : Nat) (rtG : Nat) (rdG : Nat) (kdP : Nat → Int32) (grP : Nat → Int64) (cvP : Nat → Int32) (brP : Nat → Int32) (hzP : Nat → Int32) (fmP : Nat → Int32) (dmP : Nat → Int32) (e1P : Nat → Int32) (e2P : Nat → Int32) (fkP : Nat → Int32) (pnP : Int32) (fnP : Int32) (p1 : Int32) (post : Int32 → Unit → Prop) (h : wp_X5_ring cvP brP pnP p1 post) : Met l yX5_ring wsX5_ring ({ frames := 5, cells := 0, slots := 0, locals := 111 }) (va_Pc [.ref (adG 0), .int p1] (mPre D cs ev (sh_G cs adG rrG rtG (adP 0) rdG ++ sh_P cs adP kdP grP cvP brP hzP fmP dmP e1P e2P fkP pnP fnP) sz0)) (va_Qi post (fun _ t => mAt D cs (va_A (sh_G cs adG rrG rtG (adP 0) rdG ++ sh_P cs adP kdP grP cvP brP hzP fmP dmP e1P e2P fkP pnP fnP) sz0) (sh_G cs adG rrG rtG (adP 0) rdG ++ sh_P cs adP kdP grP cvP brP hzP fmP dmP e1P e2P fkP pnP fnP) t) (va_A (sh_G cs adG rrG rtG (adP 0) rdG ++ sh_P cs adP kdP grP cvP brP hzP fmP dmP e1P e2P fkP pnP fnP) sz0)) 0 0 (va_A (sh_G cs adG rrG rtG (adP 0) rdG ++ sh_P cs adP kdP grP cvP brP hzP fmP dmP e1P e2P fkP pnP fnP) sz0) := by
  refine Met.ofW (cc := cX5_ring) (maxL := 2) (ret := (some .int)) (by decide) rfl ?_
  intro p e s m args below meth c s₁ B hml hv
  obtain ⟨rfl, hsz, hP, hK, hD0, hE⟩ := hv
  have hx := B.exec
  have hb := B.bytes
  have hr := B.returns
  have hts := atoms_spec (ws := wsX5_ring) B.pre
  have hown : s.vm.findClass RX5 = some m.cls := findClass_of_methodNamed B.named
  have hlocks := B.notSynchronized
  subst hsz
  have hD := hD0.self (sz := s.heap.size)
  generalize hAe : va_A (sh_G cs adG rrG rtG (adP 0) rdG ++ sh_P cs adP kdP grP cvP brP hzP fmP dmP e1P e2P fkP pnP fnP) s.heap.size = A at hD hE ⊢
  have hA : ∀ q : Nat, s.heap.size ≤ q → A q := fun q h => by rw [← hAe]; exact Or.inr h
  have hS : va_S A s.heap s.heap [] := va_S.rf
  have hl := lv_entry ([.ref (adG 0), .int p1]) (n := 2) (Nat.le_of_ble_eq_true rfl)
  rw [lg_entry_eq]
  generalize (lg_sl ([.ref (adG 0), .int p1]) ++ List.replicate (2 - (lg_sl ([.ref (adG 0), .int p1])).length) Slot.unset).toArray = ls at hl ⊢
  have hl : lv_has ls 2 [(0, .ref (adG 0)), (1, .int p1)] := hl
  refine lv_aload_n hx hb dX5_ring_0 rfl (lv_at hl 0 rfl) ?_
  refine va_get (D := D) (ci := 4) (v := .ref (adP 0)) (C := RX5) (T := TX5) (N := 4) hx hb hts (by decide +kernel) hown hK hP 0 rfl rfl 2 (by decide) (hts (.fieldLink RX5 26 "PartGraphs" "product" "LPartGraphs$Product;") (by decide +kernel)) (fun _ h9 => h9) rfl dX5_ring_1 ?_
  have hFc := va_free (wc := (sh_P cs adP kdP grP cvP brP hzP fmP dmP e1P e2P fkP pnP fnP)) hD hS hA [1, 2, 3, 4, 5, 6, 7, 8, 9, 10, 11] rfl
  refine va_calli (va_runV (As := []) (rest := []) ⟨hx, hb, hml, hown, hts⟩ (met_X1_neverComingOff l D cs ev _ adP kdP grP cvP brP hzP fmP dmP e1P e2P fkP pnP fnP _ h) (cwV 0 hts gX5_ring_X1_neverComingOff rfl rfl rfl (by decide +kernel) ⟨Nat.le_of_ble_eq_true rfl, Nat.le_of_ble_eq_true rfl⟩) (mPreV (va_recv hK hP (ci := 1) (q0 := 1) rfl rfl) hP hD hS hK hE hFc [1, 2, 3, 4, 5, 6, 7, 8, 9, 10, 11] (by decide) rfl) rfl rfl hl.1 rfl (lv_room (Nat.le_of_ble_eq_true rfl)) dX5_ring_4 ⟨Nat.le_of_ble_eq_true rfl, Nat.le_of_ble_eq_true rfl⟩) hS (fun q _ h => hFc q h) hFc (fun r_1 u t H1 locs ht hvm hw hB hz1 hk1 hS => ?_)
  have h := hw
  obtain ⟨hP1, hK1, hD1⟩ := hB
  rw [ht] at hP1
  obtain ⟨hP, hD⟩ := mJoin (wr := (sh_G cs adG rrG rtG (adP 0) rdG)) (w1 := (sh_P cs adP kdP grP cvP brP hzP fmP dmP e1P e2P fkP pnP fnP)) (w' := (sh_G cs adG rrG rtG (adP 0) rdG ++ sh_P cs adP kdP grP cvP brP hzP fmP dmP e1P e2P fkP pnP fnP)) hP hD [1, 2, 3, 4, 5, 6, 7, 8, 9, 10, 11] [0] rfl rfl (by decide) (by decide) hk1 hFc hP1 hD1 [0, 1, 2, 3, 4, 5, 6, 7, 8, 9, 10, 11] (by decide) rfl
  generalize H1 = H at hP hS ⊢
  refine lv_iload_n hx hb dX5_ring_7 rfl (lv_at hl 1 rfl) ?_
  have hFc := va_free (wc := ([] : va_W)) hD hS hA [] rfl
  refine va_calli (va_runS (As := [.int r_1, .int p1]) (rest := []) ⟨hx, hb, hml, hown, hts⟩ (met_X5_memberOf l D cs ev _ r_1 p1 _ h) (va_cwS 2 hts gX5_ring_X5_memberOf rfl rfl rfl (by decide +kernel) ⟨Nat.le_of_ble_eq_true rfl, Nat.le_of_ble_eq_true rfl⟩) (mPreS hP hD hS hK hE hFc [] (by decide) rfl) rfl rfl hl.1 rfl (lv_room (Nat.le_of_ble_eq_true rfl)) dX5_ring_8 ⟨Nat.le_of_ble_eq_true rfl, Nat.le_of_ble_eq_true rfl⟩) hS (fun q _ h => hFc q h) hFc (fun r_2 u t H1 locs ht hvm hw hB hz1 hk1 hS => ?_)
  have h := hw
  obtain ⟨hP1, hK1, hD1⟩ := hB
  rw [ht] at hP1
  obtain ⟨hP, hD⟩ := mJoin (wr := (sh_G cs adG rrG rtG (adP 0) rdG ++ sh_P cs adP kdP grP cvP brP hzP fmP dmP e1P e2P fkP pnP fnP)) (w1 := ([] : va_W)) (w' := (sh_G cs adG rrG rtG (adP 0) rdG ++ sh_P cs adP kdP grP cvP brP hzP fmP dmP e1P e2P fkP pnP fnP)) hP hD [] [0, 1, 2, 3, 4, 5, 6, 7, 8, 9, 10, 11] rfl rfl (by decide) (by decide) hk1 hFc hP1 hD1 [0, 1, 2, 3, 4, 5, 6, 7, 8, 9, 10, 11] (by decide) rfl
  generalize H1 = H at hP hS ⊢
  exact W.iret (v := r_2) hx hb hr (fun t ht hW => ⟨⟨r_2, (), rfl, h, by rw [ht]; exact hP, va_K.moved hW.alike hK, hD⟩, hS.F ht⟩) hS.2.2 dX5_ring_11
def wp_X5_option (fmP : Nat → Int32) (pnP : Int32) (p1 : Int32) (p2 : Int32) (post : Int32 → ((Nat → Int32)) → Prop) : Prop :=
    wp_X1_addOption fmP pnP p1 p2 (fun r_1 fm_2 => (narrow .boolean (.int r_1) = .int r_1 ∧ post r_1 fm_2))
set_option maxHeartbeats 4000000 in
set_option maxRecDepth 100000 in
theorem met_X5_option (l : Launch) (D : va_G) (cs : Nat → ClassId) (ev : Nat → Nat → Nat) (sz0 : Nat) (adG : Nat → Nat) (adP : Nat → Nat) (rrG : Nat) (rtG : Nat) (rdG : Nat) (kdP : Nat → Int32) (grP : Nat → Int64) (cvP : Nat → Int32) (brP : Nat → Int32) (hzP : Nat → Int32) (fmP : Nat → Int32) (dmP : Nat → Int32) (e1P : Nat → Int32) (e2P : Nat → Int32) (fkP : Nat → Int32) (pnP : Int32) (fnP : Int32) (p1 : Int32) (p2 : Int32) (post : Int32 → ((Nat → Int32)) → Prop) (h : wp_X5_option fmP pnP p1 p2 post) : Met l yX5_option wsX5_option ({ frames := 3, cells := 0, slots := 0, locals := 65 }) (va_Pc [.ref (adG 0), .int p1, .int p2] (mPre D cs ev (sh_G cs adG rrG rtG (adP 0) rdG ++ sh_P cs adP kdP grP cvP brP hzP fmP dmP e1P e2P fkP pnP fnP) sz0)) (va_Qi post (fun fmP' t => mAt D cs (va_A (sh_G cs adG rrG rtG (adP 0) rdG ++ sh_P cs adP kdP grP cvP brP hzP fmP dmP e1P e2P fkP pnP fnP) sz0) (sh_G cs adG rrG rtG (adP 0) rdG ++ sh_P cs adP kdP grP cvP brP hzP fmP' dmP e1P e2P fkP pnP fnP) t) (va_A (sh_G cs adG rrG rtG (adP 0) rdG ++ sh_P cs adP kdP grP cvP brP hzP fmP dmP e1P e2P fkP pnP fnP) sz0)) 0 0 (va_A (sh_G cs adG rrG rtG (adP 0) rdG ++ sh_P cs adP kdP grP cvP brP hzP fmP dmP e1P e2P fkP pnP fnP) sz0) := by
  refine Met.ofW (cc := cX5_option) (maxL := 3) (ret := (some .boolean)) (by decide) rfl ?_
  intro p e s m args below meth c s₁ B hml hv
  obtain ⟨rfl, hsz, hP, hK, hD0, hE⟩ := hv
  have hx := B.exec
  have hb := B.bytes
  have hr := B.returns
  have hts := atoms_spec (ws := wsX5_option) B.pre
  have hown : s.vm.findClass RX5 = some m.cls := findClass_of_methodNamed B.named
  have hlocks := B.notSynchronized
  subst hsz
  have hD := hD0.self (sz := s.heap.size)
  generalize hAe : va_A (sh_G cs adG rrG rtG (adP 0) rdG ++ sh_P cs adP kdP grP cvP brP hzP fmP dmP e1P e2P fkP pnP fnP) s.heap.size = A at hD hE ⊢
  have hA : ∀ q : Nat, s.heap.size ≤ q → A q := fun q h => by rw [← hAe]; exact Or.inr h
  have hS : va_S A s.heap s.heap [] := va_S.rf
  have hl := lv_entry ([.ref (adG 0), .int p1, .int p2]) (n := 3) (Nat.le_of_ble_eq_true rfl)
  rw [lg_entry_eq]
  generalize (lg_sl ([.ref (adG 0), .int p1, .int p2]) ++ List.replicate (3 - (lg_sl ([.ref (adG 0), .int p1, .int p2])).length) Slot.unset).toArray = ls at hl ⊢
  have hl : lv_has ls 3 [(0, .ref (adG 0)), (1, .int p1), (2, .int p2)] := hl
  refine lv_aload_n hx hb dX5_option_0 rfl (lv_at hl 0 rfl) ?_
  refine va_get (D := D) (ci := 4) (v := .ref (adP 0)) (C := RX5) (T := TX5) (N := 4) hx hb hts (by decide +kernel) hown hK hP 0 rfl rfl 2 (by decide) (hts (.fieldLink RX5 26 "PartGraphs" "product" "LPartGraphs$Product;") (by decide +kernel)) (fun _ h9 => h9) rfl dX5_option_1 ?_
  refine lv_iload_n hx hb dX5_option_4 rfl (lv_at hl 1 rfl) ?_
  refine lv_iload_n hx hb dX5_option_5 rfl (lv_at hl 2 rfl) ?_
  have hFc := va_free (wc := (sh_P cs adP kdP grP cvP brP hzP fmP dmP e1P e2P fkP pnP fnP)) hD hS hA [1, 2, 3, 4, 5, 6, 7, 8, 9, 10, 11] rfl
  refine va_calli (va_runV (As := [.int p1, .int p2]) (rest := []) ⟨hx, hb, hml, hown, hts⟩ (met_X1_addOption l D cs ev _ adP kdP grP cvP brP hzP fmP dmP e1P e2P fkP pnP fnP p1 p2 _ h) (cwV 2 hts gX5_option_X1_addOption rfl rfl rfl (by decide +kernel) ⟨Nat.le_of_ble_eq_true rfl, Nat.le_of_ble_eq_true rfl⟩) (mPreV (va_recv hK hP (ci := 1) (q0 := 1) rfl rfl) hP hD hS hK hE hFc [1, 2, 3, 4, 5, 6, 7, 8, 9, 10, 11] (by decide) rfl) rfl rfl hl.1 rfl (lv_room (Nat.le_of_ble_eq_true rfl)) dX5_option_6 ⟨Nat.le_of_ble_eq_true rfl, Nat.le_of_ble_eq_true rfl⟩) hS (fun q _ h => hFc q h) hFc (fun r_1 u t H1 locs ht hvm hw hB hz1 hk1 hS => ?_)
  obtain ⟨fm_2, rfl⟩ : ∃ z, z = u := ⟨_, rfl⟩
  have h := hw
  obtain ⟨hP1, hK1, hD1⟩ := hB
  rw [ht] at hP1
  obtain ⟨hP, hD⟩ := mJoin (wr := (sh_G cs adG rrG rtG (adP 0) rdG)) (w1 := (sh_P cs adP kdP grP cvP brP hzP fm_2 dmP e1P e2P fkP pnP fnP)) (w' := (sh_G cs adG rrG rtG (adP 0) rdG ++ sh_P cs adP kdP grP cvP brP hzP fm_2 dmP e1P e2P fkP pnP fnP)) hP hD [1, 2, 3, 4, 5, 6, 7, 8, 9, 10, 11] [0] rfl rfl (by decide) (by decide) hk1 hFc hP1 hD1 [0, 1, 2, 3, 4, 5, 6, 7, 8, 9, 10, 11] (by decide) rfl
  generalize H1 = H at hP hS ⊢
  have hn := h.1
  have h := h.2
  exact W.zret (v := r_1) hx hb hr hn (fun t ht hW => ⟨⟨r_1, fm_2, rfl, h, by rw [ht]; exact hP, va_K.moved hW.alike hK, hD⟩, hS.F ht⟩) hS.2.2 dX5_option_9
def wp_X5_family (fmP : Nat → Int32) (pnP : Int32) (p1 : Int32) (p2 : Int32) (post : Int32 → Unit → Prop) : Prop :=
    wp_X1_variant fmP pnP p1 (fun r_1 _ => wp_X5_memberOf r_1 p2 (fun r_2 _ => post r_2 ()))
set_option maxHeartbeats 4000000 in
set_option maxRecDepth 100000 in
theorem met_X5_family (l : Launch) (D : va_G) (cs : Nat → ClassId) (ev : Nat → Nat → Nat) (sz0 : Nat) (adG : Nat → Nat) (adP : Nat → Nat) (rrG : Nat) (rtG : Nat) (rdG : Nat) (kdP : Nat → Int32) (grP : Nat → Int64) (cvP : Nat → Int32) (brP : Nat → Int32) (hzP : Nat → Int32) (fmP : Nat → Int32) (dmP : Nat → Int32) (e1P : Nat → Int32) (e2P : Nat → Int32) (fkP : Nat → Int32) (pnP : Int32) (fnP : Int32) (p1 : Int32) (p2 : Int32) (post : Int32 → Unit → Prop) (h : wp_X5_family fmP pnP p1 p2 post) : Met l yX5_family wsX5_family ({ frames := 3, cells := 0, slots := 0, locals := 70 }) (va_Pc [.ref (adG 0), .int p1, .int p2] (mPre D cs ev (sh_G cs adG rrG rtG (adP 0) rdG ++ sh_P cs adP kdP grP cvP brP hzP fmP dmP e1P e2P fkP pnP fnP) sz0)) (va_Qi post (fun _ t => mAt D cs (va_A (sh_G cs adG rrG rtG (adP 0) rdG ++ sh_P cs adP kdP grP cvP brP hzP fmP dmP e1P e2P fkP pnP fnP) sz0) (sh_G cs adG rrG rtG (adP 0) rdG ++ sh_P cs adP kdP grP cvP brP hzP fmP dmP e1P e2P fkP pnP fnP) t) (va_A (sh_G cs adG rrG rtG (adP 0) rdG ++ sh_P cs adP kdP grP cvP brP hzP fmP dmP e1P e2P fkP pnP fnP) sz0)) 0 0 (va_A (sh_G cs adG rrG rtG (adP 0) rdG ++ sh_P cs adP kdP grP cvP brP hzP fmP dmP e1P e2P fkP pnP fnP) sz0) := by
  refine Met.ofW (cc := cX5_family) (maxL := 3) (ret := (some .int)) (by decide) rfl ?_
  intro p e s m args below meth c s₁ B hml hv
  obtain ⟨rfl, hsz, hP, hK, hD0, hE⟩ := hv
  have hx := B.exec
  have hb := B.bytes
  have hr := B.returns
  have hts := atoms_spec (ws := wsX5_family) B.pre
  have hown : s.vm.findClass RX5 = some m.cls := findClass_of_methodNamed B.named
  have hlocks := B.notSynchronized
  subst hsz
  have hD := hD0.self (sz := s.heap.size)
  generalize hAe : va_A (sh_G cs adG rrG rtG (adP 0) rdG ++ sh_P cs adP kdP grP cvP brP hzP fmP dmP e1P e2P fkP pnP fnP) s.heap.size = A at hD hE ⊢
  have hA : ∀ q : Nat, s.heap.size ≤ q → A q := fun q h => by rw [← hAe]; exact Or.inr h
  have hS : va_S A s.heap s.heap [] := va_S.rf
  have hl := lv_entry ([.ref (adG 0), .int p1, .int p2]) (n := 3) (Nat.le_of_ble_eq_true rfl)
  rw [lg_entry_eq]
  generalize (lg_sl ([.ref (adG 0), .int p1, .int p2]) ++ List.replicate (3 - (lg_sl ([.ref (adG 0), .int p1, .int p2])).length) Slot.unset).toArray = ls at hl ⊢
  have hl : lv_has ls 3 [(0, .ref (adG 0)), (1, .int p1), (2, .int p2)] := hl
  refine lv_aload_n hx hb dX5_family_0 rfl (lv_at hl 0 rfl) ?_
  refine va_get (D := D) (ci := 4) (v := .ref (adP 0)) (C := RX5) (T := TX5) (N := 4) hx hb hts (by decide +kernel) hown hK hP 0 rfl rfl 2 (by decide) (hts (.fieldLink RX5 26 "PartGraphs" "product" "LPartGraphs$Product;") (by decide +kernel)) (fun _ h9 => h9) rfl dX5_family_1 ?_
  refine lv_iload_n hx hb dX5_family_4 rfl (lv_at hl 1 rfl) ?_
  have hFc := va_free (wc := (sh_P cs adP kdP grP cvP brP hzP fmP dmP e1P e2P fkP pnP fnP)) hD hS hA [1, 2, 3, 4, 5, 6, 7, 8, 9, 10, 11] rfl
  refine va_calli (va_runV (As := [.int p1]) (rest := []) ⟨hx, hb, hml, hown, hts⟩ (met_X1_variant l D cs ev _ adP kdP grP cvP brP hzP fmP dmP e1P e2P fkP pnP fnP p1 _ h) (cwV 1 hts gX5_family_X1_variant rfl rfl rfl (by decide +kernel) ⟨Nat.le_of_ble_eq_true rfl, Nat.le_of_ble_eq_true rfl⟩) (mPreV (va_recv hK hP (ci := 1) (q0 := 1) rfl rfl) hP hD hS hK hE hFc [1, 2, 3, 4, 5, 6, 7, 8, 9, 10, 11] (by decide) rfl) rfl rfl hl.1 rfl (lv_room (Nat.le_of_ble_eq_true rfl)) dX5_family_5 ⟨Nat.le_of_ble_eq_true rfl, Nat.le_of_ble_eq_true rfl⟩) hS (fun q _ h => hFc q h) hFc (fun r_1 u t H1 locs ht hvm hw hB hz1 hk1 hS => ?_)
  have h := hw
  obtain ⟨hP1, hK1, hD1⟩ := hB
  rw [ht] at hP1
  obtain ⟨hP, hD⟩ := mJoin (wr := (sh_G cs adG rrG rtG (adP 0) rdG)) (w1 := (sh_P cs adP kdP grP cvP brP hzP fmP dmP e1P e2P fkP pnP fnP)) (w' := (sh_G cs adG rrG rtG (adP 0) rdG ++ sh_P cs adP kdP grP cvP brP hzP fmP dmP e1P e2P fkP pnP fnP)) hP hD [1, 2, 3, 4, 5, 6, 7, 8, 9, 10, 11] [0] rfl rfl (by decide) (by decide) hk1 hFc hP1 hD1 [0, 1, 2, 3, 4, 5, 6, 7, 8, 9, 10, 11] (by decide) rfl
  generalize H1 = H at hP hS ⊢
  refine lv_iload_n hx hb dX5_family_8 rfl (lv_at hl 2 rfl) ?_
  have hFc := va_free (wc := ([] : va_W)) hD hS hA [] rfl
  refine va_calli (va_runS (As := [.int r_1, .int p2]) (rest := []) ⟨hx, hb, hml, hown, hts⟩ (met_X5_memberOf l D cs ev _ r_1 p2 _ h) (va_cwS 2 hts gX5_family_X5_memberOf rfl rfl rfl (by decide +kernel) ⟨Nat.le_of_ble_eq_true rfl, Nat.le_of_ble_eq_true rfl⟩) (mPreS hP hD hS hK hE hFc [] (by decide) rfl) rfl rfl hl.1 rfl (lv_room (Nat.le_of_ble_eq_true rfl)) dX5_family_9 ⟨Nat.le_of_ble_eq_true rfl, Nat.le_of_ble_eq_true rfl⟩) hS (fun q _ h => hFc q h) hFc (fun r_2 u t H1 locs ht hvm hw hB hz1 hk1 hS => ?_)
  have h := hw
  obtain ⟨hP1, hK1, hD1⟩ := hB
  rw [ht] at hP1
  obtain ⟨hP, hD⟩ := mJoin (wr := (sh_G cs adG rrG rtG (adP 0) rdG ++ sh_P cs adP kdP grP cvP brP hzP fmP dmP e1P e2P fkP pnP fnP)) (w1 := ([] : va_W)) (w' := (sh_G cs adG rrG rtG (adP 0) rdG ++ sh_P cs adP kdP grP cvP brP hzP fmP dmP e1P e2P fkP pnP fnP)) hP hD [] [0, 1, 2, 3, 4, 5, 6, 7, 8, 9, 10, 11] rfl rfl (by decide) (by decide) hk1 hFc hP1 hD1 [0, 1, 2, 3, 4, 5, 6, 7, 8, 9, 10, 11] (by decide) rfl
  generalize H1 = H at hP hS ⊢
  exact W.iret (v := r_2) hx hb hr (fun t ht hW => ⟨⟨r_2, (), rfl, h, by rw [ht]; exact hP, va_K.moved hW.alike hK, hD⟩, hS.F ht⟩) hS.2.2 dX5_family_12
def wp_X5_holds (e1P : Nat → Int32) (e2P : Nat → Int32) (pnP : Int32) (fnP : Int32) (p1 : Int32) (p2 : Int32) (p3 : Int32) (post : Int32 → Unit → Prop) : Prop :=
    wp_X1_hasPart pnP p2 (fun r_1 _ => ((r_1 = 0 → post 0 ()) ∧ (¬ r_1 = 0 → wp_X1_piece e1P e2P pnP fnP p1 p3 (fun r_3 _ => wp_X5_contains r_3 p2 (fun r_4 _ => ((r_4 = 0 → post 0 ()) ∧ (¬ r_4 = 0 → post 1 ())))))))
set_option maxHeartbeats 4000000 in
set_option maxRecDepth 100000 in
theorem met_X5_holds (l : Launch) (D : va_G) (cs : Nat → ClassId) (ev : Nat → Nat → Nat) (sz0 : Nat) (adG : Nat → Nat) (adP : Nat → Nat) (rrG : Nat) (rtG : Nat) (rdG : Nat) (kdP : Nat → Int32) (grP : Nat → Int64) (cvP : Nat → Int32) (brP : Nat → Int32) (hzP : Nat → Int32) (fmP : Nat → Int32) (dmP : Nat → Int32) (e1P : Nat → Int32) (e2P : Nat → Int32) (fkP : Nat → Int32) (pnP : Int32) (fnP : Int32) (p1 : Int32) (p2 : Int32) (p3 : Int32) (post : Int32 → Unit → Prop) (h : wp_X5_holds e1P e2P pnP fnP p1 p2 p3 post) : Met l yX5_holds wsX5_holds ({ frames := 2, cells := 0, slots := 0, locals := 48 }) (va_Pc [.ref (adG 0), .int p1, .int p2, .int p3] (mPre D cs ev (sh_G cs adG rrG rtG (adP 0) rdG ++ sh_P cs adP kdP grP cvP brP hzP fmP dmP e1P e2P fkP pnP fnP) sz0)) (va_Qi post (fun _ t => mAt D cs (va_A (sh_G cs adG rrG rtG (adP 0) rdG ++ sh_P cs adP kdP grP cvP brP hzP fmP dmP e1P e2P fkP pnP fnP) sz0) (sh_G cs adG rrG rtG (adP 0) rdG ++ sh_P cs adP kdP grP cvP brP hzP fmP dmP e1P e2P fkP pnP fnP) t) (va_A (sh_G cs adG rrG rtG (adP 0) rdG ++ sh_P cs adP kdP grP cvP brP hzP fmP dmP e1P e2P fkP pnP fnP) sz0)) 0 0 (va_A (sh_G cs adG rrG rtG (adP 0) rdG ++ sh_P cs adP kdP grP cvP brP hzP fmP dmP e1P e2P fkP pnP fnP) sz0) := by
  refine Met.ofW (cc := cX5_holds) (maxL := 4) (ret := (some .boolean)) (by decide) rfl ?_
  intro p e s m args below meth c s₁ B hml hv
  obtain ⟨rfl, hsz, hP, hK, hD0, hE⟩ := hv
  have hx := B.exec
  have hb := B.bytes
  have hr := B.returns
  have hts := atoms_spec (ws := wsX5_holds) B.pre
  have hown : s.vm.findClass RX5 = some m.cls := findClass_of_methodNamed B.named
  have hlocks := B.notSynchronized
  subst hsz
  have hD := hD0.self (sz := s.heap.size)
  generalize hAe : va_A (sh_G cs adG rrG rtG (adP 0) rdG ++ sh_P cs adP kdP grP cvP brP hzP fmP dmP e1P e2P fkP pnP fnP) s.heap.size = A at hD hE ⊢
  have hA : ∀ q : Nat, s.heap.size ≤ q → A q := fun q h => by rw [← hAe]; exact Or.inr h
  have hS : va_S A s.heap s.heap [] := va_S.rf
  have hl := lv_entry ([.ref (adG 0), .int p1, .int p2, .int p3]) (n := 4) (Nat.le_of_ble_eq_true rfl)
  rw [lg_entry_eq]
  generalize (lg_sl ([.ref (adG 0), .int p1, .int p2, .int p3]) ++ List.replicate (4 - (lg_sl ([.ref (adG 0), .int p1, .int p2, .int p3])).length) Slot.unset).toArray = ls at hl ⊢
  have hl : lv_has ls 4 [(0, .ref (adG 0)), (1, .int p1), (2, .int p2), (3, .int p3)] := hl
  refine lv_aload_n hx hb dX5_holds_0 rfl (lv_at hl 0 rfl) ?_
  refine va_get (D := D) (ci := 4) (v := .ref (adP 0)) (C := RX5) (T := TX5) (N := 4) hx hb hts (by decide +kernel) hown hK hP 0 rfl rfl 2 (by decide) (hts (.fieldLink RX5 26 "PartGraphs" "product" "LPartGraphs$Product;") (by decide +kernel)) (fun _ h9 => h9) rfl dX5_holds_1 ?_
  refine lv_iload_n hx hb dX5_holds_4 rfl (lv_at hl 2 rfl) ?_
  have hFc := va_free (wc := (sh_P cs adP kdP grP cvP brP hzP fmP dmP e1P e2P fkP pnP fnP)) hD hS hA [1, 2, 3, 4, 5, 6, 7, 8, 9, 10, 11] rfl
  refine va_calli (va_runV (As := [.int p2]) (rest := []) ⟨hx, hb, hml, hown, hts⟩ (met_X1_hasPart l D cs ev _ adP kdP grP cvP brP hzP fmP dmP e1P e2P fkP pnP fnP p2 _ h) (cwV 1 hts gX5_holds_X1_hasPart rfl rfl rfl (by decide +kernel) ⟨Nat.le_of_ble_eq_true rfl, Nat.le_of_ble_eq_true rfl⟩) (mPreV (va_recv hK hP (ci := 1) (q0 := 1) rfl rfl) hP hD hS hK hE hFc [1, 2, 3, 4, 5, 6, 7, 8, 9, 10, 11] (by decide) rfl) rfl rfl hl.1 rfl (lv_room (Nat.le_of_ble_eq_true rfl)) dX5_holds_5 ⟨Nat.le_of_ble_eq_true rfl, Nat.le_of_ble_eq_true rfl⟩) hS (fun q _ h => hFc q h) hFc (fun r_1 u t H1 locs ht hvm hw hB hz1 hk1 hS => ?_)
  have h := hw
  obtain ⟨hP1, hK1, hD1⟩ := hB
  rw [ht] at hP1
  obtain ⟨hP, hD⟩ := mJoin (wr := (sh_G cs adG rrG rtG (adP 0) rdG)) (w1 := (sh_P cs adP kdP grP cvP brP hzP fmP dmP e1P e2P fkP pnP fnP)) (w' := (sh_G cs adG rrG rtG (adP 0) rdG ++ sh_P cs adP kdP grP cvP brP hzP fmP dmP e1P e2P fkP pnP fnP)) hP hD [1, 2, 3, 4, 5, 6, 7, 8, 9, 10, 11] [0] rfl rfl (by decide) (by decide) hk1 hFc hP1 hD1 [0, 1, 2, 3, 4, 5, 6, 7, 8, 9, 10, 11] (by decide) rfl
  generalize H1 = H at hP hS ⊢
  refine lv_if_eq (tgt := 31) hx hb dX5_holds_8 (by decide) (fun c_2 => ?_) (fun c_2 => ?_)
  · have h := h.1 c_2
    refine lv_iconst (v := 0) hx hb dX5_holds_31 (by decide) ?_
    exact W.zret (v := 0) hx hb hr (by decide) (fun t ht hW => ⟨⟨0, (), rfl, h, by rw [ht]; exact hP, va_K.moved hW.alike hK, hD⟩, hS.F ht⟩) hS.2.2 dX5_holds_32
  · have h := h.2 c_2
    refine lv_aload_n hx hb dX5_holds_11 rfl (lv_at hl 0 rfl) ?_
    refine va_get (D := D) (ci := 4) (v := .ref (adP 0)) (C := RX5) (T := TX5) (N := 4) hx hb hts (by decide +kernel) hown hK hP 0 rfl rfl 2 (by decide) (hts (.fieldLink RX5 26 "PartGraphs" "product" "LPartGraphs$Product;") (by decide +kernel)) (fun _ h9 => h9) rfl dX5_holds_12 ?_
    refine lv_iload_n hx hb dX5_holds_15 rfl (lv_at hl 1 rfl) ?_
    refine lv_iload_n hx hb dX5_holds_16 rfl (lv_at hl 3 rfl) ?_
    have hFc := va_free (wc := (sh_P cs adP kdP grP cvP brP hzP fmP dmP e1P e2P fkP pnP fnP)) hD hS hA [1, 2, 3, 4, 5, 6, 7, 8, 9, 10, 11] rfl
    refine va_calli (va_runV (As := [.int p1, .int p3]) (rest := []) ⟨hx, hb, hml, hown, hts⟩ (met_X1_piece l D cs ev _ adP kdP grP cvP brP hzP fmP dmP e1P e2P fkP pnP fnP p1 p3 _ h) (cwV 2 hts gX5_holds_X1_piece rfl rfl rfl (by decide +kernel) ⟨Nat.le_of_ble_eq_true rfl, Nat.le_of_ble_eq_true rfl⟩) (mPreV (va_recv hK hP (ci := 1) (q0 := 1) rfl rfl) hP hD hS hK hE hFc [1, 2, 3, 4, 5, 6, 7, 8, 9, 10, 11] (by decide) rfl) rfl rfl hl.1 rfl (lv_room (Nat.le_of_ble_eq_true rfl)) dX5_holds_17 ⟨Nat.le_of_ble_eq_true rfl, Nat.le_of_ble_eq_true rfl⟩) hS (fun q _ h => hFc q h) hFc (fun r_3 u t H1 locs ht hvm hw hB hz1 hk1 hS => ?_)
    have h := hw
    obtain ⟨hP1, hK1, hD1⟩ := hB
    rw [ht] at hP1
    obtain ⟨hP, hD⟩ := mJoin (wr := (sh_G cs adG rrG rtG (adP 0) rdG)) (w1 := (sh_P cs adP kdP grP cvP brP hzP fmP dmP e1P e2P fkP pnP fnP)) (w' := (sh_G cs adG rrG rtG (adP 0) rdG ++ sh_P cs adP kdP grP cvP brP hzP fmP dmP e1P e2P fkP pnP fnP)) hP hD [1, 2, 3, 4, 5, 6, 7, 8, 9, 10, 11] [0] rfl rfl (by decide) (by decide) hk1 hFc hP1 hD1 [0, 1, 2, 3, 4, 5, 6, 7, 8, 9, 10, 11] (by decide) rfl
    generalize H1 = H at hP hS ⊢
    refine lv_iload_n hx hb dX5_holds_20 rfl (lv_at hl 2 rfl) ?_
    have hFc := va_free (wc := ([] : va_W)) hD hS hA [] rfl
    refine va_calli (va_runS (As := [.int r_3, .int p2]) (rest := []) ⟨hx, hb, hml, hown, hts⟩ (met_X5_contains l D cs ev _ r_3 p2 _ h) (va_cwS 2 hts gX5_holds_X5_contains rfl rfl rfl (by decide +kernel) ⟨Nat.le_of_ble_eq_true rfl, Nat.le_of_ble_eq_true rfl⟩) (mPreS hP hD hS hK hE hFc [] (by decide) rfl) rfl rfl hl.1 rfl (lv_room (Nat.le_of_ble_eq_true rfl)) dX5_holds_21 ⟨Nat.le_of_ble_eq_true rfl, Nat.le_of_ble_eq_true rfl⟩) hS (fun q _ h => hFc q h) hFc (fun r_4 u t H1 locs ht hvm hw hB hz1 hk1 hS => ?_)
    have h := hw
    obtain ⟨hP1, hK1, hD1⟩ := hB
    rw [ht] at hP1
    obtain ⟨hP, hD⟩ := mJoin (wr := (sh_G cs adG rrG rtG (adP 0) rdG ++ sh_P cs adP kdP grP cvP brP hzP fmP dmP e1P e2P fkP pnP fnP)) (w1 := ([] : va_W)) (w' := (sh_G cs adG rrG rtG (adP 0) rdG ++ sh_P cs adP kdP grP cvP brP hzP fmP dmP e1P e2P fkP pnP fnP)) hP hD [] [0, 1, 2, 3, 4, 5, 6, 7, 8, 9, 10, 11] rfl rfl (by decide) (by decide) hk1 hFc hP1 hD1 [0, 1, 2, 3, 4, 5, 6, 7, 8, 9, 10, 11] (by decide) rfl
    generalize H1 = H at hP hS ⊢
    refine lv_if_eq (tgt := 31) hx hb dX5_holds_24 (by decide) (fun c_5 => ?_) (fun c_5 => ?_)
    · have h := h.1 c_5
      refine lv_iconst (v := 0) hx hb dX5_holds_31 (by decide) ?_
      exact W.zret (v := 0) hx hb hr (by decide) (fun t ht hW => ⟨⟨0, (), rfl, h, by rw [ht]; exact hP, va_K.moved hW.alike hK, hD⟩, hS.F ht⟩) hS.2.2 dX5_holds_32
    · have h := h.2 c_5
      refine lv_iconst (v := 1) hx hb dX5_holds_27 (by decide) ?_
      refine lv_goto (tgt := 32) hx hb dX5_holds_28 (by decide) ?_
      exact W.zret (v := 1) hx hb hr (by decide) (fun t ht hW => ⟨⟨1, (), rfl, h, by rw [ht]; exact hP, va_K.moved hW.alike hK, hD⟩, hS.F ht⟩) hS.2.2 dX5_holds_32
def wp_X5_alike (kdP : Nat → Int32) (grP : Nat → Int64) (hzP : Nat → Int32) (pnP : Int32) (p1 : Int32) (p2 : Int32) (post : Int32 → Unit → Prop) : Prop :=
    wp_X1_partsLike kdP grP hzP pnP p1 (fun r_1 _ => wp_X5_memberOf r_1 p2 (fun r_2 _ => post r_2 ()))
set_option maxHeartbeats 4000000 in
set_option maxRecDepth 100000 in
theorem met_X5_alike (l : Launch) (D : va_G) (cs : Nat → ClassId) (ev : Nat → Nat → Nat) (sz0 : Nat) (adG : Nat → Nat) (adP : Nat → Nat) (rrG : Nat) (rtG : Nat) (rdG : Nat) (kdP : Nat → Int32) (grP : Nat → Int64) (cvP : Nat → Int32) (brP : Nat → Int32) (hzP : Nat → Int32) (fmP : Nat → Int32) (dmP : Nat → Int32) (e1P : Nat → Int32) (e2P : Nat → Int32) (fkP : Nat → Int32) (pnP : Int32) (fnP : Int32) (p1 : Int32) (p2 : Int32) (post : Int32 → Unit → Prop) (h : wp_X5_alike kdP grP hzP pnP p1 p2 post) : Met l yX5_alike wsX5_alike ({ frames := 2, cells := 0, slots := 0, locals := 44 }) (va_Pc [.ref (adG 0), .int p1, .int p2] (mPre D cs ev (sh_G cs adG rrG rtG (adP 0) rdG ++ sh_P cs adP kdP grP cvP brP hzP fmP dmP e1P e2P fkP pnP fnP) sz0)) (va_Qi post (fun _ t => mAt D cs (va_A (sh_G cs adG rrG rtG (adP 0) rdG ++ sh_P cs adP kdP grP cvP brP hzP fmP dmP e1P e2P fkP pnP fnP) sz0) (sh_G cs adG rrG rtG (adP 0) rdG ++ sh_P cs adP kdP grP cvP brP hzP fmP dmP e1P e2P fkP pnP fnP) t) (va_A (sh_G cs adG rrG rtG (adP 0) rdG ++ sh_P cs adP kdP grP cvP brP hzP fmP dmP e1P e2P fkP pnP fnP) sz0)) 0 0 (va_A (sh_G cs adG rrG rtG (adP 0) rdG ++ sh_P cs adP kdP grP cvP brP hzP fmP dmP e1P e2P fkP pnP fnP) sz0) := by
  refine Met.ofW (cc := cX5_alike) (maxL := 3) (ret := (some .int)) (by decide) rfl ?_
  intro p e s m args below meth c s₁ B hml hv
  obtain ⟨rfl, hsz, hP, hK, hD0, hE⟩ := hv
  have hx := B.exec
  have hb := B.bytes
  have hr := B.returns
  have hts := atoms_spec (ws := wsX5_alike) B.pre
  have hown : s.vm.findClass RX5 = some m.cls := findClass_of_methodNamed B.named
  have hlocks := B.notSynchronized
  subst hsz
  have hD := hD0.self (sz := s.heap.size)
  generalize hAe : va_A (sh_G cs adG rrG rtG (adP 0) rdG ++ sh_P cs adP kdP grP cvP brP hzP fmP dmP e1P e2P fkP pnP fnP) s.heap.size = A at hD hE ⊢
  have hA : ∀ q : Nat, s.heap.size ≤ q → A q := fun q h => by rw [← hAe]; exact Or.inr h
  have hS : va_S A s.heap s.heap [] := va_S.rf
  have hl := lv_entry ([.ref (adG 0), .int p1, .int p2]) (n := 3) (Nat.le_of_ble_eq_true rfl)
  rw [lg_entry_eq]
  generalize (lg_sl ([.ref (adG 0), .int p1, .int p2]) ++ List.replicate (3 - (lg_sl ([.ref (adG 0), .int p1, .int p2])).length) Slot.unset).toArray = ls at hl ⊢
  have hl : lv_has ls 3 [(0, .ref (adG 0)), (1, .int p1), (2, .int p2)] := hl
  refine lv_aload_n hx hb dX5_alike_0 rfl (lv_at hl 0 rfl) ?_
  refine va_get (D := D) (ci := 4) (v := .ref (adP 0)) (C := RX5) (T := TX5) (N := 4) hx hb hts (by decide +kernel) hown hK hP 0 rfl rfl 2 (by decide) (hts (.fieldLink RX5 26 "PartGraphs" "product" "LPartGraphs$Product;") (by decide +kernel)) (fun _ h9 => h9) rfl dX5_alike_1 ?_
  refine lv_iload_n hx hb dX5_alike_4 rfl (lv_at hl 1 rfl) ?_
  have hFc := va_free (wc := (sh_P cs adP kdP grP cvP brP hzP fmP dmP e1P e2P fkP pnP fnP)) hD hS hA [1, 2, 3, 4, 5, 6, 7, 8, 9, 10, 11] rfl
  refine va_calli (va_runV (As := [.int p1]) (rest := []) ⟨hx, hb, hml, hown, hts⟩ (met_X1_partsLike l D cs ev _ adP kdP grP cvP brP hzP fmP dmP e1P e2P fkP pnP fnP p1 _ h) (cwV 1 hts gX5_alike_X1_partsLike rfl rfl rfl (by decide +kernel) ⟨Nat.le_of_ble_eq_true rfl, Nat.le_of_ble_eq_true rfl⟩) (mPreV (va_recv hK hP (ci := 1) (q0 := 1) rfl rfl) hP hD hS hK hE hFc [1, 2, 3, 4, 5, 6, 7, 8, 9, 10, 11] (by decide) rfl) rfl rfl hl.1 rfl (lv_room (Nat.le_of_ble_eq_true rfl)) dX5_alike_5 ⟨Nat.le_of_ble_eq_true rfl, Nat.le_of_ble_eq_true rfl⟩) hS (fun q _ h => hFc q h) hFc (fun r_1 u t H1 locs ht hvm hw hB hz1 hk1 hS => ?_)
  have h := hw
  obtain ⟨hP1, hK1, hD1⟩ := hB
  rw [ht] at hP1
  obtain ⟨hP, hD⟩ := mJoin (wr := (sh_G cs adG rrG rtG (adP 0) rdG)) (w1 := (sh_P cs adP kdP grP cvP brP hzP fmP dmP e1P e2P fkP pnP fnP)) (w' := (sh_G cs adG rrG rtG (adP 0) rdG ++ sh_P cs adP kdP grP cvP brP hzP fmP dmP e1P e2P fkP pnP fnP)) hP hD [1, 2, 3, 4, 5, 6, 7, 8, 9, 10, 11] [0] rfl rfl (by decide) (by decide) hk1 hFc hP1 hD1 [0, 1, 2, 3, 4, 5, 6, 7, 8, 9, 10, 11] (by decide) rfl
  generalize H1 = H at hP hS ⊢
  refine lv_iload_n hx hb dX5_alike_8 rfl (lv_at hl 2 rfl) ?_
  have hFc := va_free (wc := ([] : va_W)) hD hS hA [] rfl
  refine va_calli (va_runS (As := [.int r_1, .int p2]) (rest := []) ⟨hx, hb, hml, hown, hts⟩ (met_X5_memberOf l D cs ev _ r_1 p2 _ h) (va_cwS 2 hts gX5_alike_X5_memberOf rfl rfl rfl (by decide +kernel) ⟨Nat.le_of_ble_eq_true rfl, Nat.le_of_ble_eq_true rfl⟩) (mPreS hP hD hS hK hE hFc [] (by decide) rfl) rfl rfl hl.1 rfl (lv_room (Nat.le_of_ble_eq_true rfl)) dX5_alike_9 ⟨Nat.le_of_ble_eq_true rfl, Nat.le_of_ble_eq_true rfl⟩) hS (fun q _ h => hFc q h) hFc (fun r_2 u t H1 locs ht hvm hw hB hz1 hk1 hS => ?_)
  have h := hw
  obtain ⟨hP1, hK1, hD1⟩ := hB
  rw [ht] at hP1
  obtain ⟨hP, hD⟩ := mJoin (wr := (sh_G cs adG rrG rtG (adP 0) rdG ++ sh_P cs adP kdP grP cvP brP hzP fmP dmP e1P e2P fkP pnP fnP)) (w1 := ([] : va_W)) (w' := (sh_G cs adG rrG rtG (adP 0) rdG ++ sh_P cs adP kdP grP cvP brP hzP fmP dmP e1P e2P fkP pnP fnP)) hP hD [] [0, 1, 2, 3, 4, 5, 6, 7, 8, 9, 10, 11] rfl rfl (by decide) (by decide) hk1 hFc hP1 hD1 [0, 1, 2, 3, 4, 5, 6, 7, 8, 9, 10, 11] (by decide) rfl
  generalize H1 = H at hP hS ⊢
  exact W.iret (v := r_2) hx hb hr (fun t ht hW => ⟨⟨r_2, (), rfl, h, by rw [ht]; exact hP, va_K.moved hW.alike hK, hD⟩, hS.F ht⟩) hS.2.2 dX5_alike_12
def wp_X5_hazard (hzP : Nat → Int32) (pnP : Int32) (p1 : Int32) (p2 : Int32) (post : Int32 → ((Nat → Int32)) → Prop) : Prop :=
    wp_X1_addHazard hzP pnP p1 p2 (fun r_1 hz_2 => (narrow .boolean (.int r_1) = .int r_1 ∧ post r_1 hz_2))
set_option maxHeartbeats 4000000 in
set_option maxRecDepth 100000 in
theorem met_X5_hazard (l : Launch) (D : va_G) (cs : Nat → ClassId) (ev : Nat → Nat → Nat) (sz0 : Nat) (adG : Nat → Nat) (adP : Nat → Nat) (rrG : Nat) (rtG : Nat) (rdG : Nat) (kdP : Nat → Int32) (grP : Nat → Int64) (cvP : Nat → Int32) (brP : Nat → Int32) (hzP : Nat → Int32) (fmP : Nat → Int32) (dmP : Nat → Int32) (e1P : Nat → Int32) (e2P : Nat → Int32) (fkP : Nat → Int32) (pnP : Int32) (fnP : Int32) (p1 : Int32) (p2 : Int32) (post : Int32 → ((Nat → Int32)) → Prop) (h : wp_X5_hazard hzP pnP p1 p2 post) : Met l yX5_hazard wsX5_hazard ({ frames := 3, cells := 0, slots := 0, locals := 65 }) (va_Pc [.ref (adG 0), .int p1, .int p2] (mPre D cs ev (sh_G cs adG rrG rtG (adP 0) rdG ++ sh_P cs adP kdP grP cvP brP hzP fmP dmP e1P e2P fkP pnP fnP) sz0)) (va_Qi post (fun hzP' t => mAt D cs (va_A (sh_G cs adG rrG rtG (adP 0) rdG ++ sh_P cs adP kdP grP cvP brP hzP fmP dmP e1P e2P fkP pnP fnP) sz0) (sh_G cs adG rrG rtG (adP 0) rdG ++ sh_P cs adP kdP grP cvP brP hzP' fmP dmP e1P e2P fkP pnP fnP) t) (va_A (sh_G cs adG rrG rtG (adP 0) rdG ++ sh_P cs adP kdP grP cvP brP hzP fmP dmP e1P e2P fkP pnP fnP) sz0)) 0 0 (va_A (sh_G cs adG rrG rtG (adP 0) rdG ++ sh_P cs adP kdP grP cvP brP hzP fmP dmP e1P e2P fkP pnP fnP) sz0) := by
  refine Met.ofW (cc := cX5_hazard) (maxL := 3) (ret := (some .boolean)) (by decide) rfl ?_
  intro p e s m args below meth c s₁ B hml hv
  obtain ⟨rfl, hsz, hP, hK, hD0, hE⟩ := hv
  have hx := B.exec
  have hb := B.bytes
  have hr := B.returns
  have hts := atoms_spec (ws := wsX5_hazard) B.pre
  have hown : s.vm.findClass RX5 = some m.cls := findClass_of_methodNamed B.named
  have hlocks := B.notSynchronized
  subst hsz
  have hD := hD0.self (sz := s.heap.size)
  generalize hAe : va_A (sh_G cs adG rrG rtG (adP 0) rdG ++ sh_P cs adP kdP grP cvP brP hzP fmP dmP e1P e2P fkP pnP fnP) s.heap.size = A at hD hE ⊢
  have hA : ∀ q : Nat, s.heap.size ≤ q → A q := fun q h => by rw [← hAe]; exact Or.inr h
  have hS : va_S A s.heap s.heap [] := va_S.rf
  have hl := lv_entry ([.ref (adG 0), .int p1, .int p2]) (n := 3) (Nat.le_of_ble_eq_true rfl)
  rw [lg_entry_eq]
  generalize (lg_sl ([.ref (adG 0), .int p1, .int p2]) ++ List.replicate (3 - (lg_sl ([.ref (adG 0), .int p1, .int p2])).length) Slot.unset).toArray = ls at hl ⊢
  have hl : lv_has ls 3 [(0, .ref (adG 0)), (1, .int p1), (2, .int p2)] := hl
  refine lv_aload_n hx hb dX5_hazard_0 rfl (lv_at hl 0 rfl) ?_
  refine va_get (D := D) (ci := 4) (v := .ref (adP 0)) (C := RX5) (T := TX5) (N := 4) hx hb hts (by decide +kernel) hown hK hP 0 rfl rfl 2 (by decide) (hts (.fieldLink RX5 26 "PartGraphs" "product" "LPartGraphs$Product;") (by decide +kernel)) (fun _ h9 => h9) rfl dX5_hazard_1 ?_
  refine lv_iload_n hx hb dX5_hazard_4 rfl (lv_at hl 1 rfl) ?_
  refine lv_iload_n hx hb dX5_hazard_5 rfl (lv_at hl 2 rfl) ?_
  have hFc := va_free (wc := (sh_P cs adP kdP grP cvP brP hzP fmP dmP e1P e2P fkP pnP fnP)) hD hS hA [1, 2, 3, 4, 5, 6, 7, 8, 9, 10, 11] rfl
  refine va_calli (va_runV (As := [.int p1, .int p2]) (rest := []) ⟨hx, hb, hml, hown, hts⟩ (met_X1_addHazard l D cs ev _ adP kdP grP cvP brP hzP fmP dmP e1P e2P fkP pnP fnP p1 p2 _ h) (cwV 2 hts gX5_hazard_X1_addHazard rfl rfl rfl (by decide +kernel) ⟨Nat.le_of_ble_eq_true rfl, Nat.le_of_ble_eq_true rfl⟩) (mPreV (va_recv hK hP (ci := 1) (q0 := 1) rfl rfl) hP hD hS hK hE hFc [1, 2, 3, 4, 5, 6, 7, 8, 9, 10, 11] (by decide) rfl) rfl rfl hl.1 rfl (lv_room (Nat.le_of_ble_eq_true rfl)) dX5_hazard_6 ⟨Nat.le_of_ble_eq_true rfl, Nat.le_of_ble_eq_true rfl⟩) hS (fun q _ h => hFc q h) hFc (fun r_1 u t H1 locs ht hvm hw hB hz1 hk1 hS => ?_)
  obtain ⟨hz_2, rfl⟩ : ∃ z, z = u := ⟨_, rfl⟩
  have h := hw
  obtain ⟨hP1, hK1, hD1⟩ := hB
  rw [ht] at hP1
  obtain ⟨hP, hD⟩ := mJoin (wr := (sh_G cs adG rrG rtG (adP 0) rdG)) (w1 := (sh_P cs adP kdP grP cvP brP hz_2 fmP dmP e1P e2P fkP pnP fnP)) (w' := (sh_G cs adG rrG rtG (adP 0) rdG ++ sh_P cs adP kdP grP cvP brP hz_2 fmP dmP e1P e2P fkP pnP fnP)) hP hD [1, 2, 3, 4, 5, 6, 7, 8, 9, 10, 11] [0] rfl rfl (by decide) (by decide) hk1 hFc hP1 hD1 [0, 1, 2, 3, 4, 5, 6, 7, 8, 9, 10, 11] (by decide) rfl
  generalize H1 = H at hP hS ⊢
  have hn := h.1
  have h := h.2
  exact W.zret (v := r_1) hx hb hr hn (fun t ht hW => ⟨⟨r_1, hz_2, rfl, h, by rw [ht]; exact hP, va_K.moved hW.alike hK, hD⟩, hS.F ht⟩) hS.2.2 dX5_hazard_9
def wp_X5_damage (dmP : Nat → Int32) (pnP : Int32) (p1 : Int32) (p2 : Int32) (post : Int32 → ((Nat → Int32)) → Prop) : Prop :=
    wp_X1_setDamage dmP pnP p1 p2 (fun r_1 dm_2 => post r_1 dm_2)
set_option maxHeartbeats 4000000 in
set_option maxRecDepth 100000 in
theorem met_X5_damage (l : Launch) (D : va_G) (cs : Nat → ClassId) (ev : Nat → Nat → Nat) (sz0 : Nat) (adG : Nat → Nat) (adP : Nat → Nat) (rrG : Nat) (rtG : Nat) (rdG : Nat) (kdP : Nat → Int32) (grP : Nat → Int64) (cvP : Nat → Int32) (brP : Nat → Int32) (hzP : Nat → Int32) (fmP : Nat → Int32) (dmP : Nat → Int32) (e1P : Nat → Int32) (e2P : Nat → Int32) (fkP : Nat → Int32) (pnP : Int32) (fnP : Int32) (p1 : Int32) (p2 : Int32) (post : Int32 → ((Nat → Int32)) → Prop) (h : wp_X5_damage dmP pnP p1 p2 post) : Met l yX5_damage wsX5_damage ({ frames := 3, cells := 0, slots := 0, locals := 66 }) (va_Pc [.ref (adG 0), .int p1, .int p2] (mPre D cs ev (sh_G cs adG rrG rtG (adP 0) rdG ++ sh_P cs adP kdP grP cvP brP hzP fmP dmP e1P e2P fkP pnP fnP) sz0)) (va_Qi post (fun dmP' t => mAt D cs (va_A (sh_G cs adG rrG rtG (adP 0) rdG ++ sh_P cs adP kdP grP cvP brP hzP fmP dmP e1P e2P fkP pnP fnP) sz0) (sh_G cs adG rrG rtG (adP 0) rdG ++ sh_P cs adP kdP grP cvP brP hzP fmP dmP' e1P e2P fkP pnP fnP) t) (va_A (sh_G cs adG rrG rtG (adP 0) rdG ++ sh_P cs adP kdP grP cvP brP hzP fmP dmP e1P e2P fkP pnP fnP) sz0)) 0 0 (va_A (sh_G cs adG rrG rtG (adP 0) rdG ++ sh_P cs adP kdP grP cvP brP hzP fmP dmP e1P e2P fkP pnP fnP) sz0) := by
  refine Met.ofW (cc := cX5_damage) (maxL := 3) (ret := (some .int)) (by decide) rfl ?_
  intro p e s m args below meth c s₁ B hml hv
  obtain ⟨rfl, hsz, hP, hK, hD0, hE⟩ := hv
  have hx := B.exec
  have hb := B.bytes
  have hr := B.returns
  have hts := atoms_spec (ws := wsX5_damage) B.pre
  have hown : s.vm.findClass RX5 = some m.cls := findClass_of_methodNamed B.named
  have hlocks := B.notSynchronized
  subst hsz
  have hD := hD0.self (sz := s.heap.size)
  generalize hAe : va_A (sh_G cs adG rrG rtG (adP 0) rdG ++ sh_P cs adP kdP grP cvP brP hzP fmP dmP e1P e2P fkP pnP fnP) s.heap.size = A at hD hE ⊢
  have hA : ∀ q : Nat, s.heap.size ≤ q → A q := fun q h => by rw [← hAe]; exact Or.inr h
  have hS : va_S A s.heap s.heap [] := va_S.rf
  have hl := lv_entry ([.ref (adG 0), .int p1, .int p2]) (n := 3) (Nat.le_of_ble_eq_true rfl)
  rw [lg_entry_eq]
  generalize (lg_sl ([.ref (adG 0), .int p1, .int p2]) ++ List.replicate (3 - (lg_sl ([.ref (adG 0), .int p1, .int p2])).length) Slot.unset).toArray = ls at hl ⊢
  have hl : lv_has ls 3 [(0, .ref (adG 0)), (1, .int p1), (2, .int p2)] := hl
  refine lv_aload_n hx hb dX5_damage_0 rfl (lv_at hl 0 rfl) ?_
  refine va_get (D := D) (ci := 4) (v := .ref (adP 0)) (C := RX5) (T := TX5) (N := 4) hx hb hts (by decide +kernel) hown hK hP 0 rfl rfl 2 (by decide) (hts (.fieldLink RX5 26 "PartGraphs" "product" "LPartGraphs$Product;") (by decide +kernel)) (fun _ h9 => h9) rfl dX5_damage_1 ?_
  refine lv_iload_n hx hb dX5_damage_4 rfl (lv_at hl 1 rfl) ?_
  refine lv_iload_n hx hb dX5_damage_5 rfl (lv_at hl 2 rfl) ?_
  have hFc := va_free (wc := (sh_P cs adP kdP grP cvP brP hzP fmP dmP e1P e2P fkP pnP fnP)) hD hS hA [1, 2, 3, 4, 5, 6, 7, 8, 9, 10, 11] rfl
  refine va_calli (va_runV (As := [.int p1, .int p2]) (rest := []) ⟨hx, hb, hml, hown, hts⟩ (met_X1_setDamage l D cs ev _ adP kdP grP cvP brP hzP fmP dmP e1P e2P fkP pnP fnP p1 p2 _ h) (cwV 2 hts gX5_damage_X1_setDamage rfl rfl rfl (by decide +kernel) ⟨Nat.le_of_ble_eq_true rfl, Nat.le_of_ble_eq_true rfl⟩) (mPreV (va_recv hK hP (ci := 1) (q0 := 1) rfl rfl) hP hD hS hK hE hFc [1, 2, 3, 4, 5, 6, 7, 8, 9, 10, 11] (by decide) rfl) rfl rfl hl.1 rfl (lv_room (Nat.le_of_ble_eq_true rfl)) dX5_damage_6 ⟨Nat.le_of_ble_eq_true rfl, Nat.le_of_ble_eq_true rfl⟩) hS (fun q _ h => hFc q h) hFc (fun r_1 u t H1 locs ht hvm hw hB hz1 hk1 hS => ?_)
  obtain ⟨dm_2, rfl⟩ : ∃ z, z = u := ⟨_, rfl⟩
  have h := hw
  obtain ⟨hP1, hK1, hD1⟩ := hB
  rw [ht] at hP1
  obtain ⟨hP, hD⟩ := mJoin (wr := (sh_G cs adG rrG rtG (adP 0) rdG)) (w1 := (sh_P cs adP kdP grP cvP brP hzP fmP dm_2 e1P e2P fkP pnP fnP)) (w' := (sh_G cs adG rrG rtG (adP 0) rdG ++ sh_P cs adP kdP grP cvP brP hzP fmP dm_2 e1P e2P fkP pnP fnP)) hP hD [1, 2, 3, 4, 5, 6, 7, 8, 9, 10, 11] [0] rfl rfl (by decide) (by decide) hk1 hFc hP1 hD1 [0, 1, 2, 3, 4, 5, 6, 7, 8, 9, 10, 11] (by decide) rfl
  generalize H1 = H at hP hS ⊢
  exact W.iret (v := r_1) hx hb hr (fun t ht hW => ⟨⟨r_1, dm_2, rfl, h, by rw [ht]; exact hP, va_K.moved hW.alike hK, hD⟩, hS.F ht⟩) hS.2.2 dX5_damage_9
def wp_X5_free (cvP : Nat → Int32) (brP : Nat → Int32) (pnP : Int32) (p1 : Int32) (p2 : Int64) (post : Int32 → Unit → Prop) : Prop :=
    wp_X5_lowBits p2 (fun r_1 _ => wp_X1_isFree cvP brP pnP p1 r_1 (fun r_2 _ => (narrow .boolean (.int r_2) = .int r_2 ∧ post r_2 ())))
set_option maxHeartbeats 4000000 in
set_option maxRecDepth 100000 in
theorem met_X5_free (l : Launch) (D : va_G) (cs : Nat → ClassId) (ev : Nat → Nat → Nat) (sz0 : Nat) (adG : Nat → Nat) (adP : Nat → Nat) (rrG : Nat) (rtG : Nat) (rdG : Nat) (kdP : Nat → Int32) (grP : Nat → Int64) (cvP : Nat → Int32) (brP : Nat → Int32) (hzP : Nat → Int32) (fmP : Nat → Int32) (dmP : Nat → Int32) (e1P : Nat → Int32) (e2P : Nat → Int32) (fkP : Nat → Int32) (pnP : Int32) (fnP : Int32) (p1 : Int32) (p2 : Int64) (post : Int32 → Unit → Prop) (h : wp_X5_free cvP brP pnP p1 p2 post) : Met l yX5_free wsX5_free ({ frames := 3, cells := 0, slots := 0, locals := 66 }) (va_Pc [.ref (adG 0), .int p1, .long p2] (mPre D cs ev (sh_G cs adG rrG rtG (adP 0) rdG ++ sh_P cs adP kdP grP cvP brP hzP fmP dmP e1P e2P fkP pnP fnP) sz0)) (va_Qi post (fun _ t => mAt D cs (va_A (sh_G cs adG rrG rtG (adP 0) rdG ++ sh_P cs adP kdP grP cvP brP hzP fmP dmP e1P e2P fkP pnP fnP) sz0) (sh_G cs adG rrG rtG (adP 0) rdG ++ sh_P cs adP kdP grP cvP brP hzP fmP dmP e1P e2P fkP pnP fnP) t) (va_A (sh_G cs adG rrG rtG (adP 0) rdG ++ sh_P cs adP kdP grP cvP brP hzP fmP dmP e1P e2P fkP pnP fnP) sz0)) 0 0 (va_A (sh_G cs adG rrG rtG (adP 0) rdG ++ sh_P cs adP kdP grP cvP brP hzP fmP dmP e1P e2P fkP pnP fnP) sz0) := by
  refine Met.ofW (cc := cX5_free) (maxL := 4) (ret := (some .boolean)) (by decide) rfl ?_
  intro p e s m args below meth c s₁ B hml hv
  obtain ⟨rfl, hsz, hP, hK, hD0, hE⟩ := hv
  have hx := B.exec
  have hb := B.bytes
  have hr := B.returns
  have hts := atoms_spec (ws := wsX5_free) B.pre
  have hown : s.vm.findClass RX5 = some m.cls := findClass_of_methodNamed B.named
  have hlocks := B.notSynchronized
  subst hsz
  have hD := hD0.self (sz := s.heap.size)
  generalize hAe : va_A (sh_G cs adG rrG rtG (adP 0) rdG ++ sh_P cs adP kdP grP cvP brP hzP fmP dmP e1P e2P fkP pnP fnP) s.heap.size = A at hD hE ⊢
  have hA : ∀ q : Nat, s.heap.size ≤ q → A q := fun q h => by rw [← hAe]; exact Or.inr h
  have hS : va_S A s.heap s.heap [] := va_S.rf
  have hl := lv_entry ([.ref (adG 0), .int p1, .long p2]) (n := 4) (Nat.le_of_ble_eq_true rfl)
  rw [lg_entry_eq]
  generalize (lg_sl ([.ref (adG 0), .int p1, .long p2]) ++ List.replicate (4 - (lg_sl ([.ref (adG 0), .int p1, .long p2])).length) Slot.unset).toArray = ls at hl ⊢
  have hl : lv_has ls 4 [(0, .ref (adG 0)), (1, .int p1), (2, .long p2)] := hl
  refine lv_aload_n hx hb dX5_free_0 rfl (lv_at hl 0 rfl) ?_
  refine va_get (D := D) (ci := 4) (v := .ref (adP 0)) (C := RX5) (T := TX5) (N := 4) hx hb hts (by decide +kernel) hown hK hP 0 rfl rfl 2 (by decide) (hts (.fieldLink RX5 26 "PartGraphs" "product" "LPartGraphs$Product;") (by decide +kernel)) (fun _ h9 => h9) rfl dX5_free_1 ?_
  refine lv_iload_n hx hb dX5_free_4 rfl (lv_at hl 1 rfl) ?_
  refine lv_lload_n hx hb dX5_free_5 rfl (lv_at hl 2 rfl) ?_
  have hFc := va_free (wc := ([] : va_W)) hD hS hA [] rfl
  refine va_calli (va_runS (As := [.long p2]) (rest := [.int p1, .ref (adP 0)]) ⟨hx, hb, hml, hown, hts⟩ (met_X5_lowBits l D cs ev _ p2 _ h) (va_cwS 1 hts gX5_free_X5_lowBits rfl rfl rfl (by decide +kernel) ⟨Nat.le_of_ble_eq_true rfl, Nat.le_of_ble_eq_true rfl⟩) (mPreS hP hD hS hK hE hFc [] (by decide) rfl) rfl rfl hl.1 rfl (lv_room (Nat.le_of_ble_eq_true rfl)) dX5_free_6 ⟨Nat.le_of_ble_eq_true rfl, Nat.le_of_ble_eq_true rfl⟩) hS (fun q _ h => hFc q h) hFc (fun r_1 u t H1 locs ht hvm hw hB hz1 hk1 hS => ?_)
  have h := hw
  obtain ⟨hP1, hK1, hD1⟩ := hB
  rw [ht] at hP1
  obtain ⟨hP, hD⟩ := mJoin (wr := (sh_G cs adG rrG rtG (adP 0) rdG ++ sh_P cs adP kdP grP cvP brP hzP fmP dmP e1P e2P fkP pnP fnP)) (w1 := ([] : va_W)) (w' := (sh_G cs adG rrG rtG (adP 0) rdG ++ sh_P cs adP kdP grP cvP brP hzP fmP dmP e1P e2P fkP pnP fnP)) hP hD [] [0, 1, 2, 3, 4, 5, 6, 7, 8, 9, 10, 11] rfl rfl (by decide) (by decide) hk1 hFc hP1 hD1 [0, 1, 2, 3, 4, 5, 6, 7, 8, 9, 10, 11] (by decide) rfl
  generalize H1 = H at hP hS ⊢
  have hFc := va_free (wc := (sh_P cs adP kdP grP cvP brP hzP fmP dmP e1P e2P fkP pnP fnP)) hD hS hA [1, 2, 3, 4, 5, 6, 7, 8, 9, 10, 11] rfl
  refine va_calli (va_runV (As := [.int p1, .int r_1]) (rest := []) ⟨hx, hb, hml, hown, hts⟩ (met_X1_isFree l D cs ev _ adP kdP grP cvP brP hzP fmP dmP e1P e2P fkP pnP fnP p1 r_1 _ h) (cwV 2 hts gX5_free_X1_isFree rfl rfl rfl (by decide +kernel) ⟨Nat.le_of_ble_eq_true rfl, Nat.le_of_ble_eq_true rfl⟩) (mPreV (va_recv hK hP (ci := 1) (q0 := 1) rfl rfl) hP hD hS hK hE hFc [1, 2, 3, 4, 5, 6, 7, 8, 9, 10, 11] (by decide) rfl) rfl rfl hl.1 rfl (lv_room (Nat.le_of_ble_eq_true rfl)) dX5_free_9 ⟨Nat.le_of_ble_eq_true rfl, Nat.le_of_ble_eq_true rfl⟩) hS (fun q _ h => hFc q h) hFc (fun r_2 u t H1 locs ht hvm hw hB hz1 hk1 hS => ?_)
  have h := hw
  obtain ⟨hP1, hK1, hD1⟩ := hB
  rw [ht] at hP1
  obtain ⟨hP, hD⟩ := mJoin (wr := (sh_G cs adG rrG rtG (adP 0) rdG)) (w1 := (sh_P cs adP kdP grP cvP brP hzP fmP dmP e1P e2P fkP pnP fnP)) (w' := (sh_G cs adG rrG rtG (adP 0) rdG ++ sh_P cs adP kdP grP cvP brP hzP fmP dmP e1P e2P fkP pnP fnP)) hP hD [1, 2, 3, 4, 5, 6, 7, 8, 9, 10, 11] [0] rfl rfl (by decide) (by decide) hk1 hFc hP1 hD1 [0, 1, 2, 3, 4, 5, 6, 7, 8, 9, 10, 11] (by decide) rfl
  generalize H1 = H at hP hS ⊢
  have hn := h.1
  have h := h.2
  exact W.zret (v := r_2) hx hb hr hn (fun t ht hW => ⟨⟨r_2, (), rfl, h, by rw [ht]; exact hP, va_K.moved hW.alike hK, hD⟩, hS.F ht⟩) hS.2.2 dX5_free_12
def wp_X5_plain (cvP : Nat → Int32) (pnP : Int32) (p1 : Int32) (p2 : Int64) (post : Int32 → Unit → Prop) : Prop :=
    wp_X5_lowBits p2 (fun r_1 _ => wp_X1_isPlain cvP pnP p1 r_1 (fun r_2 _ => (narrow .boolean (.int r_2) = .int r_2 ∧ post r_2 ())))
set_option maxHeartbeats 4000000 in
set_option maxRecDepth 100000 in
theorem met_X5_plain (l : Launch) (D : va_G) (cs : Nat → ClassId) (ev : Nat → Nat → Nat) (sz0 : Nat) (adG : Nat → Nat) (adP : Nat → Nat) (rrG : Nat) (rtG : Nat) (rdG : Nat) (kdP : Nat → Int32) (grP : Nat → Int64) (cvP : Nat → Int32) (brP : Nat → Int32) (hzP : Nat → Int32) (fmP : Nat → Int32) (dmP : Nat → Int32) (e1P : Nat → Int32) (e2P : Nat → Int32) (fkP : Nat → Int32) (pnP : Int32) (fnP : Int32) (p1 : Int32) (p2 : Int64) (post : Int32 → Unit → Prop) (h : wp_X5_plain cvP pnP p1 p2 post) : Met l yX5_plain wsX5_plain ({ frames := 2, cells := 0, slots := 0, locals := 43 }) (va_Pc [.ref (adG 0), .int p1, .long p2] (mPre D cs ev (sh_G cs adG rrG rtG (adP 0) rdG ++ sh_P cs adP kdP grP cvP brP hzP fmP dmP e1P e2P fkP pnP fnP) sz0)) (va_Qi post (fun _ t => mAt D cs (va_A (sh_G cs adG rrG rtG (adP 0) rdG ++ sh_P cs adP kdP grP cvP brP hzP fmP dmP e1P e2P fkP pnP fnP) sz0) (sh_G cs adG rrG rtG (adP 0) rdG ++ sh_P cs adP kdP grP cvP brP hzP fmP dmP e1P e2P fkP pnP fnP) t) (va_A (sh_G cs adG rrG rtG (adP 0) rdG ++ sh_P cs adP kdP grP cvP brP hzP fmP dmP e1P e2P fkP pnP fnP) sz0)) 0 0 (va_A (sh_G cs adG rrG rtG (adP 0) rdG ++ sh_P cs adP kdP grP cvP brP hzP fmP dmP e1P e2P fkP pnP fnP) sz0) := by
  refine Met.ofW (cc := cX5_plain) (maxL := 4) (ret := (some .boolean)) (by decide) rfl ?_
  intro p e s m args below meth c s₁ B hml hv
  obtain ⟨rfl, hsz, hP, hK, hD0, hE⟩ := hv
  have hx := B.exec
  have hb := B.bytes
  have hr := B.returns
  have hts := atoms_spec (ws := wsX5_plain) B.pre
  have hown : s.vm.findClass RX5 = some m.cls := findClass_of_methodNamed B.named
  have hlocks := B.notSynchronized
  subst hsz
  have hD := hD0.self (sz := s.heap.size)
  generalize hAe : va_A (sh_G cs adG rrG rtG (adP 0) rdG ++ sh_P cs adP kdP grP cvP brP hzP fmP dmP e1P e2P fkP pnP fnP) s.heap.size = A at hD hE ⊢
  have hA : ∀ q : Nat, s.heap.size ≤ q → A q := fun q h => by rw [← hAe]; exact Or.inr h
  have hS : va_S A s.heap s.heap [] := va_S.rf
  have hl := lv_entry ([.ref (adG 0), .int p1, .long p2]) (n := 4) (Nat.le_of_ble_eq_true rfl)
  rw [lg_entry_eq]
  generalize (lg_sl ([.ref (adG 0), .int p1, .long p2]) ++ List.replicate (4 - (lg_sl ([.ref (adG 0), .int p1, .long p2])).length) Slot.unset).toArray = ls at hl ⊢
  have hl : lv_has ls 4 [(0, .ref (adG 0)), (1, .int p1), (2, .long p2)] := hl
  refine lv_aload_n hx hb dX5_plain_0 rfl (lv_at hl 0 rfl) ?_
  refine va_get (D := D) (ci := 4) (v := .ref (adP 0)) (C := RX5) (T := TX5) (N := 4) hx hb hts (by decide +kernel) hown hK hP 0 rfl rfl 2 (by decide) (hts (.fieldLink RX5 26 "PartGraphs" "product" "LPartGraphs$Product;") (by decide +kernel)) (fun _ h9 => h9) rfl dX5_plain_1 ?_
  refine lv_iload_n hx hb dX5_plain_4 rfl (lv_at hl 1 rfl) ?_
  refine lv_lload_n hx hb dX5_plain_5 rfl (lv_at hl 2 rfl) ?_
  have hFc := va_free (wc := ([] : va_W)) hD hS hA [] rfl
  refine va_calli (va_runS (As := [.long p2]) (rest := [.int p1, .ref (adP 0)]) ⟨hx, hb, hml, hown, hts⟩ (met_X5_lowBits l D cs ev _ p2 _ h) (va_cwS 1 hts gX5_plain_X5_lowBits rfl rfl rfl (by decide +kernel) ⟨Nat.le_of_ble_eq_true rfl, Nat.le_of_ble_eq_true rfl⟩) (mPreS hP hD hS hK hE hFc [] (by decide) rfl) rfl rfl hl.1 rfl (lv_room (Nat.le_of_ble_eq_true rfl)) dX5_plain_6 ⟨Nat.le_of_ble_eq_true rfl, Nat.le_of_ble_eq_true rfl⟩) hS (fun q _ h => hFc q h) hFc (fun r_1 u t H1 locs ht hvm hw hB hz1 hk1 hS => ?_)
  have h := hw
  obtain ⟨hP1, hK1, hD1⟩ := hB
  rw [ht] at hP1
  obtain ⟨hP, hD⟩ := mJoin (wr := (sh_G cs adG rrG rtG (adP 0) rdG ++ sh_P cs adP kdP grP cvP brP hzP fmP dmP e1P e2P fkP pnP fnP)) (w1 := ([] : va_W)) (w' := (sh_G cs adG rrG rtG (adP 0) rdG ++ sh_P cs adP kdP grP cvP brP hzP fmP dmP e1P e2P fkP pnP fnP)) hP hD [] [0, 1, 2, 3, 4, 5, 6, 7, 8, 9, 10, 11] rfl rfl (by decide) (by decide) hk1 hFc hP1 hD1 [0, 1, 2, 3, 4, 5, 6, 7, 8, 9, 10, 11] (by decide) rfl
  generalize H1 = H at hP hS ⊢
  have hFc := va_free (wc := (sh_P cs adP kdP grP cvP brP hzP fmP dmP e1P e2P fkP pnP fnP)) hD hS hA [1, 2, 3, 4, 5, 6, 7, 8, 9, 10, 11] rfl
  refine va_calli (va_runV (As := [.int p1, .int r_1]) (rest := []) ⟨hx, hb, hml, hown, hts⟩ (met_X1_isPlain l D cs ev _ adP kdP grP cvP brP hzP fmP dmP e1P e2P fkP pnP fnP p1 r_1 _ h) (cwV 2 hts gX5_plain_X1_isPlain rfl rfl rfl (by decide +kernel) ⟨Nat.le_of_ble_eq_true rfl, Nat.le_of_ble_eq_true rfl⟩) (mPreV (va_recv hK hP (ci := 1) (q0 := 1) rfl rfl) hP hD hS hK hE hFc [1, 2, 3, 4, 5, 6, 7, 8, 9, 10, 11] (by decide) rfl) rfl rfl hl.1 rfl (lv_room (Nat.le_of_ble_eq_true rfl)) dX5_plain_9 ⟨Nat.le_of_ble_eq_true rfl, Nat.le_of_ble_eq_true rfl⟩) hS (fun q _ h => hFc q h) hFc (fun r_2 u t H1 locs ht hvm hw hB hz1 hk1 hS => ?_)
  have h := hw
  obtain ⟨hP1, hK1, hD1⟩ := hB
  rw [ht] at hP1
  obtain ⟨hP, hD⟩ := mJoin (wr := (sh_G cs adG rrG rtG (adP 0) rdG)) (w1 := (sh_P cs adP kdP grP cvP brP hzP fmP dmP e1P e2P fkP pnP fnP)) (w' := (sh_G cs adG rrG rtG (adP 0) rdG ++ sh_P cs adP kdP grP cvP brP hzP fmP dmP e1P e2P fkP pnP fnP)) hP hD [1, 2, 3, 4, 5, 6, 7, 8, 9, 10, 11] [0] rfl rfl (by decide) (by decide) hk1 hFc hP1 hD1 [0, 1, 2, 3, 4, 5, 6, 7, 8, 9, 10, 11] (by decide) rfl
  generalize H1 = H at hP hS ⊢
  have hn := h.1
  have h := h.2
  exact W.zret (v := r_2) hx hb hr hn (fun t ht hW => ⟨⟨r_2, (), rfl, h, by rw [ht]; exact hP, va_K.moved hW.alike hK, hD⟩, hS.F ht⟩) hS.2.2 dX5_plain_12
def wp_X5_loose (e1P : Nat → Int32) (e2P : Nat → Int32) (pnP : Int32) (fnP : Int32) (post : Int32 → Unit → Prop) : Prop :=
    wp_X1_pieces e1P e2P pnP fnP (fun r_1 _ => post r_1 ())
set_option maxHeartbeats 4000000 in
set_option maxRecDepth 100000 in
theorem met_X5_loose (l : Launch) (D : va_G) (cs : Nat → ClassId) (ev : Nat → Nat → Nat) (sz0 : Nat) (adG : Nat → Nat) (adP : Nat → Nat) (rrG : Nat) (rtG : Nat) (rdG : Nat) (kdP : Nat → Int32) (grP : Nat → Int64) (cvP : Nat → Int32) (brP : Nat → Int32) (hzP : Nat → Int32) (fmP : Nat → Int32) (dmP : Nat → Int32) (e1P : Nat → Int32) (e2P : Nat → Int32) (fkP : Nat → Int32) (pnP : Int32) (fnP : Int32) (post : Int32 → Unit → Prop) (h : wp_X5_loose e1P e2P pnP fnP post) : Met l yX5_loose wsX5_loose ({ frames := 3, cells := 0, slots := 0, locals := 71 }) (va_Pc [.ref (adG 0)] (mPre D cs ev (sh_G cs adG rrG rtG (adP 0) rdG ++ sh_P cs adP kdP grP cvP brP hzP fmP dmP e1P e2P fkP pnP fnP) sz0)) (va_Qi post (fun _ t => mAt D cs (va_A (sh_G cs adG rrG rtG (adP 0) rdG ++ sh_P cs adP kdP grP cvP brP hzP fmP dmP e1P e2P fkP pnP fnP) sz0) (sh_G cs adG rrG rtG (adP 0) rdG ++ sh_P cs adP kdP grP cvP brP hzP fmP dmP e1P e2P fkP pnP fnP) t) (va_A (sh_G cs adG rrG rtG (adP 0) rdG ++ sh_P cs adP kdP grP cvP brP hzP fmP dmP e1P e2P fkP pnP fnP) sz0)) 0 0 (va_A (sh_G cs adG rrG rtG (adP 0) rdG ++ sh_P cs adP kdP grP cvP brP hzP fmP dmP e1P e2P fkP pnP fnP) sz0) := by
  refine Met.ofW (cc := cX5_loose) (maxL := 1) (ret := (some .int)) (by decide) rfl ?_
  intro p e s m args below meth c s₁ B hml hv
  obtain ⟨rfl, hsz, hP, hK, hD0, hE⟩ := hv
  have hx := B.exec
  have hb := B.bytes
  have hr := B.returns
  have hts := atoms_spec (ws := wsX5_loose) B.pre
  have hown : s.vm.findClass RX5 = some m.cls := findClass_of_methodNamed B.named
  have hlocks := B.notSynchronized
  subst hsz
  have hD := hD0.self (sz := s.heap.size)
  generalize hAe : va_A (sh_G cs adG rrG rtG (adP 0) rdG ++ sh_P cs adP kdP grP cvP brP hzP fmP dmP e1P e2P fkP pnP fnP) s.heap.size = A at hD hE ⊢
  have hA : ∀ q : Nat, s.heap.size ≤ q → A q := fun q h => by rw [← hAe]; exact Or.inr h
  have hS : va_S A s.heap s.heap [] := va_S.rf
  have hl := lv_entry ([.ref (adG 0)]) (n := 1) (Nat.le_of_ble_eq_true rfl)
  rw [lg_entry_eq]
  generalize (lg_sl ([.ref (adG 0)]) ++ List.replicate (1 - (lg_sl ([.ref (adG 0)])).length) Slot.unset).toArray = ls at hl ⊢
  have hl : lv_has ls 1 [(0, .ref (adG 0))] := hl
  refine lv_aload_n hx hb dX5_loose_0 rfl (lv_at hl 0 rfl) ?_
  refine va_get (D := D) (ci := 4) (v := .ref (adP 0)) (C := RX5) (T := TX5) (N := 4) hx hb hts (by decide +kernel) hown hK hP 0 rfl rfl 2 (by decide) (hts (.fieldLink RX5 26 "PartGraphs" "product" "LPartGraphs$Product;") (by decide +kernel)) (fun _ h9 => h9) rfl dX5_loose_1 ?_
  have hFc := va_free (wc := (sh_P cs adP kdP grP cvP brP hzP fmP dmP e1P e2P fkP pnP fnP)) hD hS hA [1, 2, 3, 4, 5, 6, 7, 8, 9, 10, 11] rfl
  refine va_calli (va_runV (As := []) (rest := []) ⟨hx, hb, hml, hown, hts⟩ (met_X1_pieces l D cs ev _ adP kdP grP cvP brP hzP fmP dmP e1P e2P fkP pnP fnP _ h) (cwV 0 hts gX5_loose_X1_pieces rfl rfl rfl (by decide +kernel) ⟨Nat.le_of_ble_eq_true rfl, Nat.le_of_ble_eq_true rfl⟩) (mPreV (va_recv hK hP (ci := 1) (q0 := 1) rfl rfl) hP hD hS hK hE hFc [1, 2, 3, 4, 5, 6, 7, 8, 9, 10, 11] (by decide) rfl) rfl rfl hl.1 rfl (lv_room (Nat.le_of_ble_eq_true rfl)) dX5_loose_4 ⟨Nat.le_of_ble_eq_true rfl, Nat.le_of_ble_eq_true rfl⟩) hS (fun q _ h => hFc q h) hFc (fun r_1 u t H1 locs ht hvm hw hB hz1 hk1 hS => ?_)
  have h := hw
  obtain ⟨hP1, hK1, hD1⟩ := hB
  rw [ht] at hP1
  obtain ⟨hP, hD⟩ := mJoin (wr := (sh_G cs adG rrG rtG (adP 0) rdG)) (w1 := (sh_P cs adP kdP grP cvP brP hzP fmP dmP e1P e2P fkP pnP fnP)) (w' := (sh_G cs adG rrG rtG (adP 0) rdG ++ sh_P cs adP kdP grP cvP brP hzP fmP dmP e1P e2P fkP pnP fnP)) hP hD [1, 2, 3, 4, 5, 6, 7, 8, 9, 10, 11] [0] rfl rfl (by decide) (by decide) hk1 hFc hP1 hD1 [0, 1, 2, 3, 4, 5, 6, 7, 8, 9, 10, 11] (by decide) rfl
  generalize H1 = H at hP hS ⊢
  exact W.iret (v := r_1) hx hb hr (fun t ht hW => ⟨⟨r_1, (), rfl, h, by rw [ht]; exact hP, va_K.moved hW.alike hK, hD⟩, hS.F ht⟩) hS.2.2 dX5_loose_7
def wp_X5_write (lfT : Int32) (foT : Int32) (kdP : Nat → Int32) (grP : Nat → Int64) (cvP : Nat → Int32) (brP : Nat → Int32) (hzP : Nat → Int32) (fmP : Nat → Int32) (dmP : Nat → Int32) (e1P : Nat → Int32) (e2P : Nat → Int32) (fkP : Nat → Int32) (pnP : Int32) (fnP : Int32) (p1 : Int32) (post : Int32 → (Int32 × Int32) → Prop) : Prop :=
    wp_X3_byteAt lfT foT kdP grP cvP brP hzP fmP dmP e1P e2P fkP pnP fnP p1 (fun r_1 u => match u with | (lf_2, fo_3) => post r_1 (lf_2, fo_3))
set_option maxHeartbeats 4000000 in
set_option maxRecDepth 100000 in
theorem met_X5_write (l : Launch) (D : va_G) (cs : Nat → ClassId) (ev : Nat → Nat → Nat) (sz0 : Nat) (adG : Nat → Nat) (adT : Nat → Nat) (adP : Nat → Nat) (rrG : Nat) (rdG : Nat) (lfT : Int32) (foT : Int32) (kdP : Nat → Int32) (grP : Nat → Int64) (cvP : Nat → Int32) (brP : Nat → Int32) (hzP : Nat → Int32) (fmP : Nat → Int32) (dmP : Nat → Int32) (e1P : Nat → Int32) (e2P : Nat → Int32) (fkP : Nat → Int32) (pnP : Int32) (fnP : Int32) (p1 : Int32) (post : Int32 → (Int32 × Int32) → Prop) (h : wp_X5_write lfT foT kdP grP cvP brP hzP fmP dmP e1P e2P fkP pnP fnP p1 post) : Met l yX5_write wsX5_write ({ frames := 9, cells := 0, slots := 0, locals := 200 }) (va_Pc [.ref (adG 0), .int p1] (mPre D cs ev (sh_G cs adG rrG (adT 0) (adP 0) rdG ++ sh_T cs adT lfT foT ++ sh_P cs adP kdP grP cvP brP hzP fmP dmP e1P e2P fkP pnP fnP) sz0)) (va_Qi post (fun u t => match u with | (lfT', foT') => mAt D cs (va_A (sh_G cs adG rrG (adT 0) (adP 0) rdG ++ sh_T cs adT lfT foT ++ sh_P cs adP kdP grP cvP brP hzP fmP dmP e1P e2P fkP pnP fnP) sz0) (sh_G cs adG rrG (adT 0) (adP 0) rdG ++ sh_T cs adT lfT' foT' ++ sh_P cs adP kdP grP cvP brP hzP fmP dmP e1P e2P fkP pnP fnP) t) (va_A (sh_G cs adG rrG (adT 0) (adP 0) rdG ++ sh_T cs adT lfT foT ++ sh_P cs adP kdP grP cvP brP hzP fmP dmP e1P e2P fkP pnP fnP) sz0)) 0 0 (va_A (sh_G cs adG rrG (adT 0) (adP 0) rdG ++ sh_T cs adT lfT foT ++ sh_P cs adP kdP grP cvP brP hzP fmP dmP e1P e2P fkP pnP fnP) sz0) := by
  refine Met.ofW (cc := cX5_write) (maxL := 2) (ret := (some .int)) (by decide) rfl ?_
  intro p e s m args below meth c s₁ B hml hv
  obtain ⟨rfl, hsz, hP, hK, hD0, hE⟩ := hv
  have hx := B.exec
  have hb := B.bytes
  have hr := B.returns
  have hts := atoms_spec (ws := wsX5_write) B.pre
  have hown : s.vm.findClass RX5 = some m.cls := findClass_of_methodNamed B.named
  have hlocks := B.notSynchronized
  subst hsz
  have hD := hD0.self (sz := s.heap.size)
  generalize hAe : va_A (sh_G cs adG rrG (adT 0) (adP 0) rdG ++ sh_T cs adT lfT foT ++ sh_P cs adP kdP grP cvP brP hzP fmP dmP e1P e2P fkP pnP fnP) s.heap.size = A at hD hE ⊢
  have hA : ∀ q : Nat, s.heap.size ≤ q → A q := fun q h => by rw [← hAe]; exact Or.inr h
  have hS : va_S A s.heap s.heap [] := va_S.rf
  have hl := lv_entry ([.ref (adG 0), .int p1]) (n := 2) (Nat.le_of_ble_eq_true rfl)
  rw [lg_entry_eq]
  generalize (lg_sl ([.ref (adG 0), .int p1]) ++ List.replicate (2 - (lg_sl ([.ref (adG 0), .int p1])).length) Slot.unset).toArray = ls at hl ⊢
  have hl : lv_has ls 2 [(0, .ref (adG 0)), (1, .int p1)] := hl
  refine lv_aload_n hx hb dX5_write_0 rfl (lv_at hl 0 rfl) ?_
  refine va_get (D := D) (ci := 4) (v := .ref (adT 0)) (C := RX5) (T := TX5) (N := 4) hx hb hts (by decide +kernel) hown hK hP 0 rfl rfl 1 (by decide) (hts (.fieldLink RX5 19 "PartGraphs" "teller" "LPartGraphs$Teller;") (by decide +kernel)) (fun _ h9 => h9) rfl dX5_write_1 ?_
  refine lv_aload_n hx hb dX5_write_4 rfl (lv_at hl 0 rfl) ?_
  refine va_get (D := D) (ci := 4) (v := .ref (adP 0)) (C := RX5) (T := TX5) (N := 4) hx hb hts (by decide +kernel) hown hK hP 0 rfl rfl 2 (by decide) (hts (.fieldLink RX5 26 "PartGraphs" "product" "LPartGraphs$Product;") (by decide +kernel)) (fun _ h9 => h9) rfl dX5_write_5 ?_
  refine lv_iload_n hx hb dX5_write_8 rfl (lv_at hl 1 rfl) ?_
  have hFc := va_free (wc := (sh_T cs adT lfT foT ++ sh_P cs adP kdP grP cvP brP hzP fmP dmP e1P e2P fkP pnP fnP)) hD hS hA [1, 2, 3, 4, 5, 6, 7, 8, 9, 10, 11, 12] rfl
  refine va_calli (va_runV (As := [.ref (adP 0), .int p1]) (rest := []) ⟨hx, hb, hml, hown, hts⟩ (met_X3_byteAt l D cs ev _ adT adP lfT foT kdP grP cvP brP hzP fmP dmP e1P e2P fkP pnP fnP p1 _ h) (cwV 2 hts gX5_write_X3_byteAt rfl rfl rfl (by decide +kernel) ⟨Nat.le_of_ble_eq_true rfl, Nat.le_of_ble_eq_true rfl⟩) (mPreV (va_recv hK hP (ci := 3) (q0 := 1) rfl rfl) hP hD hS hK hE hFc [1, 2, 3, 4, 5, 6, 7, 8, 9, 10, 11, 12] (by decide) rfl) rfl rfl hl.1 rfl (lv_room (Nat.le_of_ble_eq_true rfl)) dX5_write_9 ⟨Nat.le_of_ble_eq_true rfl, Nat.le_of_ble_eq_true rfl⟩) hS (fun q _ h => hFc q h) hFc (fun r_1 u t H1 locs ht hvm hw hB hz1 hk1 hS => ?_)
  obtain ⟨lf_2, fo_3⟩ := u
  have h := hw
  obtain ⟨hP1, hK1, hD1⟩ := hB
  rw [ht] at hP1
  obtain ⟨hP, hD⟩ := mJoin (wr := (sh_G cs adG rrG (adT 0) (adP 0) rdG)) (w1 := (sh_T cs adT lf_2 fo_3 ++ sh_P cs adP kdP grP cvP brP hzP fmP dmP e1P e2P fkP pnP fnP)) (w' := (sh_G cs adG rrG (adT 0) (adP 0) rdG ++ sh_T cs adT lf_2 fo_3 ++ sh_P cs adP kdP grP cvP brP hzP fmP dmP e1P e2P fkP pnP fnP)) hP hD [1, 2, 3, 4, 5, 6, 7, 8, 9, 10, 11, 12] [0] rfl rfl (by decide) (by decide) hk1 hFc hP1 hD1 [0, 1, 2, 3, 4, 5, 6, 7, 8, 9, 10, 11, 12] (by decide) rfl
  generalize H1 = H at hP hS ⊢
  exact W.iret (v := r_1) hx hb hr (fun t ht hW => ⟨⟨r_1, (lf_2, fo_3), rfl, h, by rw [ht]; exact hP, va_K.moved hW.alike hK, hD⟩, hS.F ht⟩) hS.2.2 dX5_write_12
def wp_X5_read (txR : Nat → Int32) (nuR : Nat → Int32) (lnR : Int32) (bgR : Int32) (enR : Int32) (kdP : Nat → Int32) (grP : Nat → Int64) (cvP : Nat → Int32) (brP : Nat → Int32) (hzP : Nat → Int32) (fmP : Nat → Int32) (dmP : Nat → Int32) (e1P : Nat → Int32) (e2P : Nat → Int32) (fkP : Nat → Int32) (pnP : Int32) (fnP : Int32) (kdQ : Nat → Int32) (grQ : Nat → Int64) (cvQ : Nat → Int32) (brQ : Nat → Int32) (hzQ : Nat → Int32) (fmQ : Nat → Int32) (dmQ : Nat → Int32) (e1Q : Nat → Int32) (e2Q : Nat → Int32) (fkQ : Nat → Int32) (post : Int32 → ((Nat → Int32) × Int32 × Int32 × Int32 × (Nat → Int32) × (Nat → Int64) × (Nat → Int32) × (Nat → Int32) × (Nat → Int32) × (Nat → Int32) × (Nat → Int32) × (Nat → Int32) × (Nat → Int32) × (Nat → Int32) × Int32 × Int32 × (Nat → Int32) × (Nat → Int64) × (Nat → Int32) × (Nat → Int32) × (Nat → Int32) × (Nat → Int32) × (Nat → Int32) × (Nat → Int32) × (Nat → Int32) × (Nat → Int32) × Int32 × Int32) → Prop) : Prop :=
    wp_X1_clear (fun u => match u with | (pn_2, fn_3) => wp_X2_readAll txR nuR lnR bgR enR kdQ grQ cvQ brQ hzQ fmQ dmQ e1Q e2Q fkQ pn_2 fn_3 (fun r_4 u => match u with | (nu_5, bg_6, en_7, kd_8, gr_9, cv_10, br_11, hz_12, fm_13, dm_14, e1_15, e2_16, fk_17, pn_18, fn_19) => wp_X2_wordBegin bg_6 (fun r_20 _ => wp_X2_clear (fun ln_22 => ((r_4 = 0 → post ((-1) - r_20) (nu_5, ln_22, bg_6, en_7, kdP, grP, cvP, brP, hzP, fmP, dmP, e1P, e2P, fkP, pnP, fnP, kd_8, gr_9, cv_10, br_11, hz_12, fm_13, dm_14, e1_15, e2_16, fk_17, pn_18, fn_19)) ∧ (¬ r_4 = 0 → post pn_18 (nu_5, ln_22, bg_6, en_7, kd_8, gr_9, cv_10, br_11, hz_12, fm_13, dm_14, e1_15, e2_16, fk_17, pn_18, fn_19, kdP, grP, cvP, brP, hzP, fmP, dmP, e1P, e2P, fkP, pnP, fnP)))))))
set_option maxHeartbeats 4000000 in
set_option maxRecDepth 100000 in
theorem met_X5_read (l : Launch) (D : va_G) (cs : Nat → ClassId) (ev : Nat → Nat → Nat) (sz0 : Nat) (adG : Nat → Nat) (adR : Nat → Nat) (adP : Nat → Nat) (adQ : Nat → Nat) (rtG : Nat) (txR : Nat → Int32) (nuR : Nat → Int32) (lnR : Int32) (bgR : Int32) (enR : Int32) (kdP : Nat → Int32) (grP : Nat → Int64) (cvP : Nat → Int32) (brP : Nat → Int32) (hzP : Nat → Int32) (fmP : Nat → Int32) (dmP : Nat → Int32) (e1P : Nat → Int32) (e2P : Nat → Int32) (fkP : Nat → Int32) (pnP : Int32) (fnP : Int32) (kdQ : Nat → Int32) (grQ : Nat → Int64) (cvQ : Nat → Int32) (brQ : Nat → Int32) (hzQ : Nat → Int32) (fmQ : Nat → Int32) (dmQ : Nat → Int32) (e1Q : Nat → Int32) (e2Q : Nat → Int32) (fkQ : Nat → Int32) (pnQ : Int32) (fnQ : Int32) (post : Int32 → ((Nat → Int32) × Int32 × Int32 × Int32 × (Nat → Int32) × (Nat → Int64) × (Nat → Int32) × (Nat → Int32) × (Nat → Int32) × (Nat → Int32) × (Nat → Int32) × (Nat → Int32) × (Nat → Int32) × (Nat → Int32) × Int32 × Int32 × (Nat → Int32) × (Nat → Int64) × (Nat → Int32) × (Nat → Int32) × (Nat → Int32) × (Nat → Int32) × (Nat → Int32) × (Nat → Int32) × (Nat → Int32) × (Nat → Int32) × Int32 × Int32) → Prop) (h : wp_X5_read txR nuR lnR bgR enR kdP grP cvP brP hzP fmP dmP e1P e2P fkP pnP fnP kdQ grQ cvQ brQ hzQ fmQ dmQ e1Q e2Q fkQ post) : Met l yX5_read wsX5_read ({ frames := 9, cells := 0, slots := 0, locals := 211 }) (va_Pc [.ref (adG 0)] (mPre D cs ev (sh_G cs adG (adR 0) rtG (adP 0) (adQ 0) ++ sh_R cs adR txR nuR lnR bgR enR ++ sh_P cs adP kdP grP cvP brP hzP fmP dmP e1P e2P fkP pnP fnP ++ sh_P cs adQ kdQ grQ cvQ brQ hzQ fmQ dmQ e1Q e2Q fkQ pnQ fnQ) sz0)) (va_Qi post (fun u t => match u with | (nuR', lnR', bgR', enR', kdP', grP', cvP', brP', hzP', fmP', dmP', e1P', e2P', fkP', pnP', fnP', kdQ', grQ', cvQ', brQ', hzQ', fmQ', dmQ', e1Q', e2Q', fkQ', pnQ', fnQ') => ∃ aP aQ : Nat → Nat, mAt D cs (va_A (sh_G cs adG (adR 0) rtG (adP 0) (adQ 0) ++ sh_R cs adR txR nuR lnR bgR enR ++ sh_P cs adP kdP grP cvP brP hzP fmP dmP e1P e2P fkP pnP fnP ++ sh_P cs adQ kdQ grQ cvQ brQ hzQ fmQ dmQ e1Q e2Q fkQ pnQ fnQ) sz0) (sh_G cs adG (adR 0) rtG (aP 0) (aQ 0) ++ sh_R cs adR txR nuR' lnR' bgR' enR' ++ sh_P cs aP kdP' grP' cvP' brP' hzP' fmP' dmP' e1P' e2P' fkP' pnP' fnP' ++ sh_P cs aQ kdQ' grQ' cvQ' brQ' hzQ' fmQ' dmQ' e1Q' e2Q' fkQ' pnQ' fnQ') t) (va_A (sh_G cs adG (adR 0) rtG (adP 0) (adQ 0) ++ sh_R cs adR txR nuR lnR bgR enR ++ sh_P cs adP kdP grP cvP brP hzP fmP dmP e1P e2P fkP pnP fnP ++ sh_P cs adQ kdQ grQ cvQ brQ hzQ fmQ dmQ e1Q e2Q fkQ pnQ fnQ) sz0)) 0 0 (va_A (sh_G cs adG (adR 0) rtG (adP 0) (adQ 0) ++ sh_R cs adR txR nuR lnR bgR enR ++ sh_P cs adP kdP grP cvP brP hzP fmP dmP e1P e2P fkP pnP fnP ++ sh_P cs adQ kdQ grQ cvQ brQ hzQ fmQ dmQ e1Q e2Q fkQ pnQ fnQ) sz0) := by
  refine Met.ofW (cc := cX5_read) (maxL := 4) (ret := (some .int)) (by decide) rfl ?_
  intro p e s m args below meth c s₁ B hml hv
  obtain ⟨rfl, hsz, hP, hK, hD0, hE⟩ := hv
  have hx := B.exec
  have hb := B.bytes
  have hr := B.returns
  have hts := atoms_spec (ws := wsX5_read) B.pre
  have hown : s.vm.findClass RX5 = some m.cls := findClass_of_methodNamed B.named
  have hlocks := B.notSynchronized
  subst hsz
  have hD := hD0.self (sz := s.heap.size)
  generalize hAe : va_A (sh_G cs adG (adR 0) rtG (adP 0) (adQ 0) ++ sh_R cs adR txR nuR lnR bgR enR ++ sh_P cs adP kdP grP cvP brP hzP fmP dmP e1P e2P fkP pnP fnP ++ sh_P cs adQ kdQ grQ cvQ brQ hzQ fmQ dmQ e1Q e2Q fkQ pnQ fnQ) s.heap.size = A at hD hE ⊢
  have hA : ∀ q : Nat, s.heap.size ≤ q → A q := fun q h => by rw [← hAe]; exact Or.inr h
  have hS : va_S A s.heap s.heap [] := va_S.rf
  have hl := lv_entry ([.ref (adG 0)]) (n := 4) (Nat.le_of_ble_eq_true rfl)
  rw [lg_entry_eq]
  generalize (lg_sl ([.ref (adG 0)]) ++ List.replicate (4 - (lg_sl ([.ref (adG 0)])).length) Slot.unset).toArray = ls at hl ⊢
  have hl : lv_has ls 4 [(0, .ref (adG 0))] := hl
  refine lv_aload_n hx hb dX5_read_0 rfl (lv_at hl 0 rfl) ?_
  refine va_get (D := D) (ci := 4) (v := .ref (adQ 0)) (C := RX5) (T := TX5) (N := 4) hx hb hts (by decide +kernel) hown hK hP 0 rfl rfl 3 (by decide) (hts (.fieldLink RX5 30 "PartGraphs" "draft" "LPartGraphs$Product;") (by decide +kernel)) (fun _ h9 => h9) rfl dX5_read_1 ?_
  have hFc := va_free (wc := (sh_P cs adQ kdQ grQ cvQ brQ hzQ fmQ dmQ e1Q e2Q fkQ pnQ fnQ)) hD hS hA [15, 16, 17, 18, 19, 20, 21, 22, 23, 24, 25] rfl
  refine va_callv (va_runV (As := []) (rest := []) ⟨hx, hb, hml, hown, hts⟩ (met_X1_clear l D cs ev _ adQ kdQ grQ cvQ brQ hzQ fmQ dmQ e1Q e2Q fkQ pnQ fnQ _ h) (cwV 0 hts gX5_read_X1_clear rfl rfl rfl (by decide +kernel) ⟨Nat.le_of_ble_eq_true rfl, Nat.le_of_ble_eq_true rfl⟩) (mPreV (va_recv hK hP (ci := 1) (q0 := 15) rfl rfl) hP hD hS hK hE hFc [15, 16, 17, 18, 19, 20, 21, 22, 23, 24, 25] (by decide) rfl) rfl rfl hl.1 rfl (lv_room (Nat.le_of_ble_eq_true rfl)) dX5_read_4 ⟨Nat.le_of_ble_eq_true rfl, Nat.le_of_ble_eq_true rfl⟩) hS (fun q _ h => hFc q h) hFc (fun u t H1 locs ht hvm hw hB hz1 hk1 hS => ?_)
  obtain ⟨pn_2, fn_3⟩ := u
  have h := hw
  obtain ⟨hP1, hK1, hD1⟩ := hB
  rw [ht] at hP1
  obtain ⟨hP, hD⟩ := mJoin (wr := (sh_G cs adG (adR 0) rtG (adP 0) (adQ 0) ++ sh_R cs adR txR nuR lnR bgR enR ++ sh_P cs adP kdP grP cvP brP hzP fmP dmP e1P e2P fkP pnP fnP)) (w1 := (sh_P cs adQ kdQ grQ cvQ brQ hzQ fmQ dmQ e1Q e2Q fkQ pn_2 fn_3)) (w' := (sh_G cs adG (adR 0) rtG (adP 0) (adQ 0) ++ sh_R cs adR txR nuR lnR bgR enR ++ sh_P cs adP kdP grP cvP brP hzP fmP dmP e1P e2P fkP pnP fnP ++ sh_P cs adQ kdQ grQ cvQ brQ hzQ fmQ dmQ e1Q e2Q fkQ pn_2 fn_3)) hP hD [15, 16, 17, 18, 19, 20, 21, 22, 23, 24, 25] [0, 1, 2, 3, 4, 5, 6, 7, 8, 9, 10, 11, 12, 13, 14] rfl rfl (by decide) (by decide) hk1 hFc hP1 hD1 [0, 1, 2, 3, 4, 5, 6, 7, 8, 9, 10, 11, 12, 13, 14, 15, 16, 17, 18, 19, 20, 21, 22, 23, 24, 25] (by decide) rfl
  generalize H1 = H at hP hS ⊢
  refine lv_aload_n hx hb dX5_read_7 rfl (lv_at hl 0 rfl) ?_
  refine va_get (D := D) (ci := 4) (v := .ref (adR 0)) (C := RX5) (T := TX5) (N := 4) hx hb hts (by decide +kernel) hown hK hP 0 rfl rfl 0 (by decide) (hts (.fieldLink RX5 10 "PartGraphs" "reader" "LPartGraphs$Reader;") (by decide +kernel)) (fun _ h9 => h9) rfl dX5_read_8 ?_
  refine lv_aload_n hx hb dX5_read_11 rfl (lv_at hl 0 rfl) ?_
  refine va_get (D := D) (ci := 4) (v := .ref (adQ 0)) (C := RX5) (T := TX5) (N := 4) hx hb hts (by decide +kernel) hown hK hP 0 rfl rfl 3 (by decide) (hts (.fieldLink RX5 30 "PartGraphs" "draft" "LPartGraphs$Product;") (by decide +kernel)) (fun _ h9 => h9) rfl dX5_read_12 ?_
  have hFc := va_free (wc := (sh_R cs adR txR nuR lnR bgR enR ++ sh_P cs adQ kdQ grQ cvQ brQ hzQ fmQ dmQ e1Q e2Q fkQ pn_2 fn_3)) hD hS hA [1, 2, 3, 15, 16, 17, 18, 19, 20, 21, 22, 23, 24, 25] rfl
  refine va_calli (va_runV (As := [.ref (adQ 0)]) (rest := []) ⟨hx, hb, hml, hown, hts⟩ (met_X2_readAll l D cs ev _ adR adQ txR nuR lnR bgR enR kdQ grQ cvQ brQ hzQ fmQ dmQ e1Q e2Q fkQ pn_2 fn_3 _ h) (cwV 1 hts gX5_read_X2_readAll rfl rfl rfl (by decide +kernel) ⟨Nat.le_of_ble_eq_true rfl, Nat.le_of_ble_eq_true rfl⟩) (mPreV (va_recv hK hP (ci := 2) (q0 := 1) rfl rfl) hP hD hS hK hE hFc [1, 2, 3, 15, 16, 17, 18, 19, 20, 21, 22, 23, 24, 25] (by decide) rfl) rfl rfl hl.1 rfl (lv_room (Nat.le_of_ble_eq_true rfl)) dX5_read_15 ⟨Nat.le_of_ble_eq_true rfl, Nat.le_of_ble_eq_true rfl⟩) hS (fun q _ h => hFc q h) hFc (fun r_4 u t H1 locs ht hvm hw hB hz1 hk1 hS => ?_)
  obtain ⟨nu_5, bg_6, en_7, kd_8, gr_9, cv_10, br_11, hz_12, fm_13, dm_14, e1_15, e2_16, fk_17, pn_18, fn_19⟩ := u
  have h := hw
  obtain ⟨hP1, hK1, hD1⟩ := hB
  rw [ht] at hP1
  obtain ⟨hP, hD⟩ := mJoin (wr := (sh_G cs adG (adR 0) rtG (adP 0) (adQ 0) ++ sh_P cs adP kdP grP cvP brP hzP fmP dmP e1P e2P fkP pnP fnP)) (w1 := (sh_R cs adR txR nu_5 lnR bg_6 en_7 ++ sh_P cs adQ kd_8 gr_9 cv_10 br_11 hz_12 fm_13 dm_14 e1_15 e2_16 fk_17 pn_18 fn_19)) (w' := (sh_G cs adG (adR 0) rtG (adP 0) (adQ 0) ++ sh_R cs adR txR nu_5 lnR bg_6 en_7 ++ sh_P cs adP kdP grP cvP brP hzP fmP dmP e1P e2P fkP pnP fnP ++ sh_P cs adQ kd_8 gr_9 cv_10 br_11 hz_12 fm_13 dm_14 e1_15 e2_16 fk_17 pn_18 fn_19)) hP hD [1, 2, 3, 15, 16, 17, 18, 19, 20, 21, 22, 23, 24, 25] [0, 4, 5, 6, 7, 8, 9, 10, 11, 12, 13, 14] rfl rfl (by decide) (by decide) hk1 hFc hP1 hD1 [0, 12, 13, 14, 1, 2, 3, 4, 5, 6, 7, 8, 9, 10, 11, 15, 16, 17, 18, 19, 20, 21, 22, 23, 24, 25] (by decide) rfl
  generalize H1 = H at hP hS ⊢
  refine lv_istore_n (lv' := [(1, .int r_4), (0, .ref (adG 0))]) hx hb dX5_read_18 rfl hl (by decide) rfl (fun ls hl => ?_)
  refine lv_aload_n hx hb dX5_read_19 rfl (lv_at hl 1 rfl) ?_
  refine va_get (D := D) (ci := 4) (v := .ref (adR 0)) (C := RX5) (T := TX5) (N := 4) hx hb hts (by decide +kernel) hown hK hP 0 rfl rfl 0 (by decide) (hts (.fieldLink RX5 10 "PartGraphs" "reader" "LPartGraphs$Reader;") (by decide +kernel)) (fun _ h9 => h9) rfl dX5_read_20 ?_
  have hFc := va_free (wc := (sh_R cs adR txR nu_5 lnR bg_6 en_7)) hD hS hA [1, 2, 3] rfl
  refine va_calli (va_runV (As := []) (rest := []) ⟨hx, hb, hml, hown, hts⟩ (met_X2_wordBegin l D cs ev _ adR txR nu_5 lnR bg_6 en_7 _ h) (cwV 0 hts gX5_read_X2_wordBegin rfl rfl rfl (by decide +kernel) ⟨Nat.le_of_ble_eq_true rfl, Nat.le_of_ble_eq_true rfl⟩) (mPreV (va_recv hK hP (ci := 2) (q0 := 1) rfl rfl) hP hD hS hK hE hFc [1, 2, 3] (by decide) rfl) rfl rfl hl.1 rfl (lv_room (Nat.le_of_ble_eq_true rfl)) dX5_read_23 ⟨Nat.le_of_ble_eq_true rfl, Nat.le_of_ble_eq_true rfl⟩) hS (fun q _ h => hFc q h) hFc (fun r_20 u t H1 locs ht hvm hw hB hz1 hk1 hS => ?_)
  have h := hw
  obtain ⟨hP1, hK1, hD1⟩ := hB
  rw [ht] at hP1
  obtain ⟨hP, hD⟩ := mJoin (wr := (sh_G cs adG (adR 0) rtG (adP 0) (adQ 0) ++ sh_P cs adP kdP grP cvP brP hzP fmP dmP e1P e2P fkP pnP fnP ++ sh_P cs adQ kd_8 gr_9 cv_10 br_11 hz_12 fm_13 dm_14 e1_15 e2_16 fk_17 pn_18 fn_19)) (w1 := (sh_R cs adR txR nu_5 lnR bg_6 en_7)) (w' := (sh_G cs adG (adR 0) rtG (adP 0) (adQ 0) ++ sh_R cs adR txR nu_5 lnR bg_6 en_7 ++ sh_P cs adP kdP grP cvP brP hzP fmP dmP e1P e2P fkP pnP fnP ++ sh_P cs adQ kd_8 gr_9 cv_10 br_11 hz_12 fm_13 dm_14 e1_15 e2_16 fk_17 pn_18 fn_19)) hP hD [1, 2, 3] [0, 4, 5, 6, 7, 8, 9, 10, 11, 12, 13, 14, 15, 16, 17, 18, 19, 20, 21, 22, 23, 24, 25] rfl rfl (by decide) (by decide) hk1 hFc hP1 hD1 [0, 23, 24, 25, 1, 2, 3, 4, 5, 6, 7, 8, 9, 10, 11, 12, 13, 14, 15, 16, 17, 18, 19, 20, 21, 22] (by decide) rfl
  generalize H1 = H at hP hS ⊢
  refine lv_istore_n (lv' := [(2, .int r_20), (1, .int r_4), (0, .ref (adG 0))]) hx hb dX5_read_26 rfl hl (by decide) rfl (fun ls hl => ?_)
  refine lv_aload_n hx hb dX5_read_27 rfl (lv_at hl 2 rfl) ?_
  refine va_get (D := D) (ci := 4) (v := .ref (adR 0)) (C := RX5) (T := TX5) (N := 4) hx hb hts (by decide +kernel) hown hK hP 0 rfl rfl 0 (by decide) (hts (.fieldLink RX5 10 "PartGraphs" "reader" "LPartGraphs$Reader;") (by decide +kernel)) (fun _ h9 => h9) rfl dX5_read_28 ?_
  have hFc := va_free (wc := (sh_R cs adR txR nu_5 lnR bg_6 en_7)) hD hS hA [1, 2, 3] rfl
  refine va_callv (va_runV (As := []) (rest := []) ⟨hx, hb, hml, hown, hts⟩ (met_X2_clear l D cs ev _ adR txR nu_5 lnR bg_6 en_7 _ h) (cwV 0 hts gX5_read_X2_clear rfl rfl rfl (by decide +kernel) ⟨Nat.le_of_ble_eq_true rfl, Nat.le_of_ble_eq_true rfl⟩) (mPreV (va_recv hK hP (ci := 2) (q0 := 1) rfl rfl) hP hD hS hK hE hFc [1, 2, 3] (by decide) rfl) rfl rfl hl.1 rfl (lv_room (Nat.le_of_ble_eq_true rfl)) dX5_read_31 ⟨Nat.le_of_ble_eq_true rfl, Nat.le_of_ble_eq_true rfl⟩) hS (fun q _ h => hFc q h) hFc (fun u t H1 locs ht hvm hw hB hz1 hk1 hS => ?_)
  obtain ⟨ln_22, rfl⟩ : ∃ z, z = u := ⟨_, rfl⟩
  have h := hw
  obtain ⟨hP1, hK1, hD1⟩ := hB
  rw [ht] at hP1
  obtain ⟨hP, hD⟩ := mJoin (wr := (sh_G cs adG (adR 0) rtG (adP 0) (adQ 0) ++ sh_P cs adP kdP grP cvP brP hzP fmP dmP e1P e2P fkP pnP fnP ++ sh_P cs adQ kd_8 gr_9 cv_10 br_11 hz_12 fm_13 dm_14 e1_15 e2_16 fk_17 pn_18 fn_19)) (w1 := (sh_R cs adR txR nu_5 ln_22 bg_6 en_7)) (w' := (sh_G cs adG (adR 0) rtG (adP 0) (adQ 0) ++ sh_R cs adR txR nu_5 ln_22 bg_6 en_7 ++ sh_P cs adP kdP grP cvP brP hzP fmP dmP e1P e2P fkP pnP fnP ++ sh_P cs adQ kd_8 gr_9 cv_10 br_11 hz_12 fm_13 dm_14 e1_15 e2_16 fk_17 pn_18 fn_19)) hP hD [1, 2, 3] [0, 4, 5, 6, 7, 8, 9, 10, 11, 12, 13, 14, 15, 16, 17, 18, 19, 20, 21, 22, 23, 24, 25] rfl rfl (by decide) (by decide) hk1 hFc hP1 hD1 [0, 23, 24, 25, 1, 2, 3, 4, 5, 6, 7, 8, 9, 10, 11, 12, 13, 14, 15, 16, 17, 18, 19, 20, 21, 22] (by decide) rfl
  generalize H1 = H at hP hS ⊢
  refine lv_iload_n hx hb dX5_read_34 rfl (lv_at hl 1 rfl) ?_
  refine lv_if_ne (tgt := 42) hx hb dX5_read_35 (by decide) (fun c_23 => ?_) (fun c_23 => ?_)
  · have h := h.2 c_23
    refine lv_aload_n hx hb dX5_read_42 rfl (lv_at hl 2 rfl) ?_
    refine va_get (D := D) (ci := 4) (v := .ref (adP 0)) (C := RX5) (T := TX5) (N := 4) hx hb hts (by decide +kernel) hown hK hP 0 rfl rfl 2 (by decide) (hts (.fieldLink RX5 26 "PartGraphs" "product" "LPartGraphs$Product;") (by decide +kernel)) (fun _ h9 => h9) rfl dX5_read_43 ?_
    refine lv_astore_n (lv' := [(3, .ref (adP 0)), (2, .int r_20), (1, .int r_4), (0, .ref (adG 0))]) hx hb dX5_read_46 rfl hl (by decide) rfl (fun ls hl => ?_)
    refine lv_aload_n hx hb dX5_read_47 rfl (lv_at hl 3 rfl) ?_
    refine lv_aload_n hx hb dX5_read_48 rfl (lv_at hl 3 rfl) ?_
    refine va_get (D := D) (ci := 4) (v := .ref (adQ 0)) (C := RX5) (T := TX5) (N := 4) hx hb hts (by decide +kernel) hown hK hP 0 rfl rfl 3 (by decide) (hts (.fieldLink RX5 30 "PartGraphs" "draft" "LPartGraphs$Product;") (by decide +kernel)) (fun _ h9 => h9) rfl dX5_read_49 ?_
    refine va_put (D := D) (ci := 4) (v := .ref (adQ 0)) (ty := .object "PartGraphs$Product") (C := RX5) (T := TX5) (N := 4) hx hb hts (by decide +kernel) tyX5 tyX5_ok nmX5 hown hK hP hD hS 0 rfl rfl 2 (by decide) (hts (.fieldLink RX5 26 "PartGraphs" "product" "LPartGraphs$Product;") (by decide +kernel)) (fun _ h9 => h9) rfl (by decide +kernel) rfl rfl (Nat.le_of_ble_eq_true rfl) dX5_read_52 (fun H locs hP hD hS => ?_)
    have hP : va_P D vwCl (sh_G cs adG (adR 0) rtG (adQ 0) (adQ 0) ++ sh_R cs adR txR nu_5 ln_22 bg_6 en_7 ++ sh_P cs adP kdP grP cvP brP hzP fmP dmP e1P e2P fkP pnP fnP ++ sh_P cs adQ kd_8 gr_9 cv_10 br_11 hz_12 fm_13 dm_14 e1_15 e2_16 fk_17 pn_18 fn_19) H := hP
    have hD : va_D A (sh_G cs adG (adR 0) rtG (adQ 0) (adQ 0) ++ sh_R cs adR txR nu_5 ln_22 bg_6 en_7 ++ sh_P cs adP kdP grP cvP brP hzP fmP dmP e1P e2P fkP pnP fnP ++ sh_P cs adQ kd_8 gr_9 cv_10 br_11 hz_12 fm_13 dm_14 e1_15 e2_16 fk_17 pn_18 fn_19) := hD
    refine lv_aload_n hx hb dX5_read_55 rfl (lv_at hl 3 rfl) ?_
    refine lv_aload_n hx hb dX5_read_56 rfl (lv_at hl 0 rfl) ?_
    refine va_put (D := D) (ci := 4) (v := .ref (adP 0)) (ty := .object "PartGraphs$Product") (C := RX5) (T := TX5) (N := 4) hx hb hts (by decide +kernel) tyX5 tyX5_ok nmX5 hown hK hP hD hS 0 rfl rfl 3 (by decide) (hts (.fieldLink RX5 30 "PartGraphs" "draft" "LPartGraphs$Product;") (by decide +kernel)) (fun _ h9 => h9) rfl (by decide +kernel) rfl rfl (Nat.le_of_ble_eq_true rfl) dX5_read_57 (fun H locs hP hD hS => ?_)
    have hP : va_P D vwCl (sh_G cs adG (adR 0) rtG (adQ 0) (adP 0) ++ sh_R cs adR txR nu_5 ln_22 bg_6 en_7 ++ sh_P cs adP kdP grP cvP brP hzP fmP dmP e1P e2P fkP pnP fnP ++ sh_P cs adQ kd_8 gr_9 cv_10 br_11 hz_12 fm_13 dm_14 e1_15 e2_16 fk_17 pn_18 fn_19) H := hP
    have hD : va_D A (sh_G cs adG (adR 0) rtG (adQ 0) (adP 0) ++ sh_R cs adR txR nu_5 ln_22 bg_6 en_7 ++ sh_P cs adP kdP grP cvP brP hzP fmP dmP e1P e2P fkP pnP fnP ++ sh_P cs adQ kd_8 gr_9 cv_10 br_11 hz_12 fm_13 dm_14 e1_15 e2_16 fk_17 pn_18 fn_19) := hD
    refine lv_aload_n hx hb dX5_read_60 rfl (lv_at hl 3 rfl) ?_
    refine va_get (D := D) (ci := 4) (v := .ref (adQ 0)) (C := RX5) (T := TX5) (N := 4) hx hb hts (by decide +kernel) hown hK hP 0 rfl rfl 2 (by decide) (hts (.fieldLink RX5 26 "PartGraphs" "product" "LPartGraphs$Product;") (by decide +kernel)) (fun _ h9 => h9) rfl dX5_read_61 ?_
    refine va_get (D := D) (ci := 1) (v := .int pn_18) (C := RX1) (T := TX1) (N := 12) hx hb hts (by decide +kernel) hown hK hP 15 rfl rfl 10 (by decide) (hts (.fieldLink RX5 49 "PartGraphs$Product" "partCount" "I") (by decide +kernel)) (fun _ h9 => h9) rfl dX5_read_64 ?_
    have hD := hD.sub (ws' := (sh_G cs adG (adR 0) rtG (adQ 0) (adP 0) ++ sh_R cs adR txR nu_5 ln_22 bg_6 en_7 ++ sh_P cs adQ kd_8 gr_9 cv_10 br_11 hz_12 fm_13 dm_14 e1_15 e2_16 fk_17 pn_18 fn_19 ++ sh_P cs adP kdP grP cvP brP hzP fmP dmP e1P e2P fkP pnP fnP)) [0, 1, 2, 3, 15, 16, 17, 18, 19, 20, 21, 22, 23, 24, 25, 4, 5, 6, 7, 8, 9, 10, 11, 12, 13, 14] (by decide) rfl
    have hP := hP.sub (ws' := (sh_G cs adG (adR 0) rtG (adQ 0) (adP 0) ++ sh_R cs adR txR nu_5 ln_22 bg_6 en_7 ++ sh_P cs adQ kd_8 gr_9 cv_10 br_11 hz_12 fm_13 dm_14 e1_15 e2_16 fk_17 pn_18 fn_19 ++ sh_P cs adP kdP grP cvP brP hzP fmP dmP e1P e2P fkP pnP fnP)) [0, 1, 2, 3, 15, 16, 17, 18, 19, 20, 21, 22, 23, 24, 25, 4, 5, 6, 7, 8, 9, 10, 11, 12, 13, 14] rfl
    exact W.iret (v := pn_18) hx hb hr (fun t ht hW => ⟨⟨pn_18, (nu_5, ln_22, bg_6, en_7, kd_8, gr_9, cv_10, br_11, hz_12, fm_13, dm_14, e1_15, e2_16, fk_17, pn_18, fn_19, kdP, grP, cvP, brP, hzP, fmP, dmP, e1P, e2P, fkP, pnP, fnP), rfl, h, adQ, adP, by rw [ht]; exact hP, va_K.moved hW.alike hK, hD⟩, hS.F ht⟩) hS.2.2 dX5_read_67
  · have h := h.1 c_23
    refine lv_iconst (v := (-1)) hx hb dX5_read_38 (by decide) ?_
    refine lv_iload_n hx hb dX5_read_39 rfl (lv_at hl 0 rfl) ?_
    refine lv_isub hx hb dX5_read_40 ?_
    exact W.iret (v := (-1) - r_20) hx hb hr (fun t ht hW => ⟨⟨(-1) - r_20, (nu_5, ln_22, bg_6, en_7, kdP, grP, cvP, brP, hzP, fmP, dmP, e1P, e2P, fkP, pnP, fnP, kd_8, gr_9, cv_10, br_11, hz_12, fm_13, dm_14, e1_15, e2_16, fk_17, pn_18, fn_19), rfl, h, adP, adQ, by rw [ht]; exact hP, va_K.moved hW.alike hK, hD⟩, hS.F ht⟩) hS.2.2 dX5_read_41
