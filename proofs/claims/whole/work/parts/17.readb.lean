def wp_X2_canGoOn_3 (nuR : Nat → Int32) (cvP : Nat → Int32) (brP : Nat → Int32) (hzP : Nat → Int32) (fmP : Nat → Int32) (pnP : Int32) (fnP : Int32) (k : Nat) (p3 : Int32) (post : Int32 → Unit → Prop) : Prop :=
    (k < 7 ∧ (((([2, 2, 3, 3, 2, 2, 2] : List Int32).getD k 0) ≤ p3 → (vp_in 0 3 ∧ (vp_in 1 3 ∧ (vp_in 2 3 ∧ wp_X1_allows cvP brP hzP fmP pnP fnP k (nuR (0 : Int32).toNatClampNeg) (nuR (1 : Int32).toNatClampNeg) (nuR (2 : Int32).toNatClampNeg) (fun r_2 _ => (narrow .boolean (.int r_2) = .int r_2 ∧ post r_2 ())))))) ∧ (¬ (([2, 2, 3, 3, 2, 2, 2] : List Int32).getD k 0) ≤ p3 → ((p3 < 3 → False) ∧ (¬ p3 < 3 → (vp_in 0 3 ∧ (vp_in 1 3 ∧ (vp_in 2 3 ∧ wp_X1_allows cvP brP hzP fmP pnP fnP k (nuR (0 : Int32).toNatClampNeg) (nuR (1 : Int32).toNatClampNeg) (nuR (2 : Int32).toNatClampNeg) (fun r_4 _ => (narrow .boolean (.int r_4) = .int r_4 ∧ post r_4 ()))))))))))
set_option maxHeartbeats 4000000 in
set_option maxRecDepth 100000 in
theorem met_X2_canGoOn_3 (l : Launch) (D : va_G) (cs : Nat → ClassId) (ev : Nat → Nat → Nat) (sz0 : Nat) (adR : Nat → Nat) (adP : Nat → Nat) (txR : Nat → Int32) (nuR : Nat → Int32) (lnR : Int32) (bgR : Int32) (enR : Int32) (kdP : Nat → Int32) (grP : Nat → Int64) (cvP : Nat → Int32) (brP : Nat → Int32) (hzP : Nat → Int32) (fmP : Nat → Int32) (dmP : Nat → Int32) (e1P : Nat → Int32) (e2P : Nat → Int32) (fkP : Nat → Int32) (pnP : Int32) (fnP : Int32) (k : Nat) (p3 : Int32) (post : Int32 → Unit → Prop) (h : wp_X2_canGoOn_3 nuR cvP brP hzP fmP pnP fnP k p3 post) : Met l yX2_canGoOn wsX2_canGoOn ({ frames := 3, cells := 0, slots := 0, locals := 69 }) (va_Pc [.ref (adR 0), .ref (adP 0), .ref (ev 0 k), .int p3] (mPre D cs ev (sh_R cs adR txR nuR lnR bgR enR ++ sh_P cs adP kdP grP cvP brP hzP fmP dmP e1P e2P fkP pnP fnP) sz0)) (va_Qi post (fun _ t => mAt D cs (va_A (sh_R cs adR txR nuR lnR bgR enR ++ sh_P cs adP kdP grP cvP brP hzP fmP dmP e1P e2P fkP pnP fnP) sz0) (sh_R cs adR txR nuR lnR bgR enR ++ sh_P cs adP kdP grP cvP brP hzP fmP dmP e1P e2P fkP pnP fnP) t) (va_A (sh_R cs adR txR nuR lnR bgR enR ++ sh_P cs adP kdP grP cvP brP hzP fmP dmP e1P e2P fkP pnP fnP) sz0)) 0 0 (va_A (sh_R cs adR txR nuR lnR bgR enR ++ sh_P cs adP kdP grP cvP brP hzP fmP dmP e1P e2P fkP pnP fnP) sz0) := by
  refine Met.ofW (cc := cX2_canGoOn) (maxL := 5) (ret := (some .boolean)) (by decide) rfl ?_
  intro p e s m args below meth c s₁ B hml hv
  obtain ⟨rfl, hsz, hP, hK, hD0, hE⟩ := hv
  have hx := B.exec
  have hb := B.bytes
  have hr := B.returns
  have hts := atoms_spec (ws := wsX2_canGoOn) B.pre
  have hown : s.vm.findClass RX2 = some m.cls := findClass_of_methodNamed B.named
  have hlocks := B.notSynchronized
  subst hsz
  have hD := hD0.self (sz := s.heap.size)
  generalize hAe : va_A (sh_R cs adR txR nuR lnR bgR enR ++ sh_P cs adP kdP grP cvP brP hzP fmP dmP e1P e2P fkP pnP fnP) s.heap.size = A at hD hE ⊢
  have hA : ∀ q : Nat, s.heap.size ≤ q → A q := fun q h => by rw [← hAe]; exact Or.inr h
  have hS : va_S A s.heap s.heap [] := va_S.rf
  have hl := lv_entry ([.ref (adR 0), .ref (adP 0), .ref (ev 0 k), .int p3]) (n := 5) (Nat.le_of_ble_eq_true rfl)
  rw [lg_entry_eq]
  generalize (lg_sl ([.ref (adR 0), .ref (adP 0), .ref (ev 0 k), .int p3]) ++ List.replicate (5 - (lg_sl ([.ref (adR 0), .ref (adP 0), .ref (ev 0 k), .int p3])).length) Slot.unset).toArray = ls at hl ⊢
  have hl : lv_has ls 5 [(0, .ref (adR 0)), (1, .ref (adP 0)), (2, .ref (ev 0 k)), (3, .int p3)] := hl
  refine lv_iload_n hx hb dX2_canGoOn_0 rfl (lv_at hl 3 rfl) ?_
  refine lv_aload_n hx hb dX2_canGoOn_1 rfl (lv_at hl 2 rfl) ?_
  have hk := h.1
  have h := h.2
  refine va_getE (i := k) hx hb hE.2.2.1 hk hS hown (q := ("PartGraphs$Verb", "numbers", "I", [2, 2, 3, 3, 2, 2, 2])) (by decide) (hts (.fieldLink RX2 45 "PartGraphs$Verb" "numbers" "I") (by decide +kernel)) (fun _ h9 => h9) dX2_canGoOn_2 ?_
  refine lv_icmp_ge (tgt := 13) hx hb dX2_canGoOn_5 (by decide) (fun c_1 => ?_) (fun c_1 => ?_)
  · have h := h.1 c_1
    refine lv_aload_n hx hb dX2_canGoOn_13 rfl (lv_at hl 1 rfl) ?_
    refine lv_aload_n hx hb dX2_canGoOn_14 rfl (lv_at hl 2 rfl) ?_
    refine lv_aload_n hx hb dX2_canGoOn_15 rfl (lv_at hl 0 rfl) ?_
    refine va_get (D := D) (ci := 2) (v := .ref (adR 2)) (C := RX2) (T := TX2) (N := 5) hx hb hts (by decide +kernel) hown hK hP 0 rfl rfl 1 (by decide) (hts (.fieldLink RX2 15 "PartGraphs$Reader" "numbers" "[I") (by decide +kernel)) (fun _ h9 => h9) rfl dX2_canGoOn_16 ?_
    refine lv_iconst (v := 0) hx hb dX2_canGoOn_19 (by decide) ?_
    have hin := h.1
    have h := h.2
    refine va_iald (D := D) (cl := vwCl) hx hb hK hP 2 0 rfl rfl hin dX2_canGoOn_20 ?_
    refine lv_aload_n hx hb dX2_canGoOn_21 rfl (lv_at hl 0 rfl) ?_
    refine va_get (D := D) (ci := 2) (v := .ref (adR 2)) (C := RX2) (T := TX2) (N := 5) hx hb hts (by decide +kernel) hown hK hP 0 rfl rfl 1 (by decide) (hts (.fieldLink RX2 15 "PartGraphs$Reader" "numbers" "[I") (by decide +kernel)) (fun _ h9 => h9) rfl dX2_canGoOn_22 ?_
    refine lv_iconst (v := 1) hx hb dX2_canGoOn_25 (by decide) ?_
    have hin := h.1
    have h := h.2
    refine va_iald (D := D) (cl := vwCl) hx hb hK hP 2 0 rfl rfl hin dX2_canGoOn_26 ?_
    refine lv_aload_n hx hb dX2_canGoOn_27 rfl (lv_at hl 0 rfl) ?_
    refine va_get (D := D) (ci := 2) (v := .ref (adR 2)) (C := RX2) (T := TX2) (N := 5) hx hb hts (by decide +kernel) hown hK hP 0 rfl rfl 1 (by decide) (hts (.fieldLink RX2 15 "PartGraphs$Reader" "numbers" "[I") (by decide +kernel)) (fun _ h9 => h9) rfl dX2_canGoOn_28 ?_
    refine lv_iconst (v := 2) hx hb dX2_canGoOn_31 (by decide) ?_
    have hin := h.1
    have h := h.2
    refine va_iald (D := D) (cl := vwCl) hx hb hK hP 2 0 rfl rfl hin dX2_canGoOn_32 ?_
    have hFc := va_free (wc := (sh_P cs adP kdP grP cvP brP hzP fmP dmP e1P e2P fkP pnP fnP)) hD hS hA [3, 4, 5, 6, 7, 8, 9, 10, 11, 12, 13] rfl
    refine va_calli (va_runV (As := [.ref (ev 0 k), .int (nuR (0 : Int32).toNatClampNeg), .int (nuR (1 : Int32).toNatClampNeg), .int (nuR (2 : Int32).toNatClampNeg)]) (rest := []) ⟨hx, hb, hml, hown, hts⟩ (met_X1_allows l D cs ev _ adP kdP grP cvP brP hzP fmP dmP e1P e2P fkP pnP fnP k (nuR (0 : Int32).toNatClampNeg) (nuR (1 : Int32).toNatClampNeg) (nuR (2 : Int32).toNatClampNeg) _ h) (cwV 4 hts gX2_canGoOn_X1_allows rfl rfl rfl (by decide +kernel) ⟨Nat.le_of_ble_eq_true rfl, Nat.le_of_ble_eq_true rfl⟩) (mPreV (va_recv hK hP (ci := 1) (q0 := 3) rfl rfl) hP hD hS hK hE hFc [3, 4, 5, 6, 7, 8, 9, 10, 11, 12, 13] (by decide) rfl) rfl rfl hl.1 rfl (lv_room (Nat.le_of_ble_eq_true rfl)) dX2_canGoOn_33 ⟨Nat.le_of_ble_eq_true rfl, Nat.le_of_ble_eq_true rfl⟩) hS (fun q _ h => hFc q h) hFc (fun r_2 u t H1 locs ht hvm hw hB hz1 hk1 hS => ?_)
    have h := hw
    obtain ⟨hP1, hK1, hD1⟩ := hB
    rw [ht] at hP1
    obtain ⟨hP, hD⟩ := mJoin (wr := (sh_R cs adR txR nuR lnR bgR enR)) (w1 := (sh_P cs adP kdP grP cvP brP hzP fmP dmP e1P e2P fkP pnP fnP)) (w' := (sh_R cs adR txR nuR lnR bgR enR ++ sh_P cs adP kdP grP cvP brP hzP fmP dmP e1P e2P fkP pnP fnP)) hP hD [3, 4, 5, 6, 7, 8, 9, 10, 11, 12, 13] [0, 1, 2] rfl rfl (by decide) (by decide) hk1 hFc hP1 hD1 [0, 1, 2, 3, 4, 5, 6, 7, 8, 9, 10, 11, 12, 13] (by decide) rfl
    generalize H1 = H at hP hS ⊢
    have hn := h.1
    have h := h.2
    exact W.zret (v := r_2) hx hb hr hn (fun t ht hW => ⟨⟨r_2, (), rfl, h, by rw [ht]; exact hP, va_K.moved hW.alike hK, hD⟩, hS.F ht⟩) hS.2.2 dX2_canGoOn_36
  · have h := h.2 c_1
    refine lv_iload_n hx hb dX2_canGoOn_8 rfl (lv_at hl 3 rfl) ?_
    refine lv_iconst (v := 3) hx hb dX2_canGoOn_9 (by decide) ?_
    refine lv_icmp_lt (tgt := 37) hx hb dX2_canGoOn_10 (by decide) (fun c_3 => ?_) (fun c_3 => ?_)
    · have h := h.1 c_3
      exact h.elim
    · have h := h.2 c_3
      refine lv_aload_n hx hb dX2_canGoOn_13 rfl (lv_at hl 1 rfl) ?_
      refine lv_aload_n hx hb dX2_canGoOn_14 rfl (lv_at hl 2 rfl) ?_
      refine lv_aload_n hx hb dX2_canGoOn_15 rfl (lv_at hl 0 rfl) ?_
      refine va_get (D := D) (ci := 2) (v := .ref (adR 2)) (C := RX2) (T := TX2) (N := 5) hx hb hts (by decide +kernel) hown hK hP 0 rfl rfl 1 (by decide) (hts (.fieldLink RX2 15 "PartGraphs$Reader" "numbers" "[I") (by decide +kernel)) (fun _ h9 => h9) rfl dX2_canGoOn_16 ?_
      refine lv_iconst (v := 0) hx hb dX2_canGoOn_19 (by decide) ?_
      have hin := h.1
      have h := h.2
      refine va_iald (D := D) (cl := vwCl) hx hb hK hP 2 0 rfl rfl hin dX2_canGoOn_20 ?_
      refine lv_aload_n hx hb dX2_canGoOn_21 rfl (lv_at hl 0 rfl) ?_
      refine va_get (D := D) (ci := 2) (v := .ref (adR 2)) (C := RX2) (T := TX2) (N := 5) hx hb hts (by decide +kernel) hown hK hP 0 rfl rfl 1 (by decide) (hts (.fieldLink RX2 15 "PartGraphs$Reader" "numbers" "[I") (by decide +kernel)) (fun _ h9 => h9) rfl dX2_canGoOn_22 ?_
      refine lv_iconst (v := 1) hx hb dX2_canGoOn_25 (by decide) ?_
      have hin := h.1
      have h := h.2
      refine va_iald (D := D) (cl := vwCl) hx hb hK hP 2 0 rfl rfl hin dX2_canGoOn_26 ?_
      refine lv_aload_n hx hb dX2_canGoOn_27 rfl (lv_at hl 0 rfl) ?_
      refine va_get (D := D) (ci := 2) (v := .ref (adR 2)) (C := RX2) (T := TX2) (N := 5) hx hb hts (by decide +kernel) hown hK hP 0 rfl rfl 1 (by decide) (hts (.fieldLink RX2 15 "PartGraphs$Reader" "numbers" "[I") (by decide +kernel)) (fun _ h9 => h9) rfl dX2_canGoOn_28 ?_
      refine lv_iconst (v := 2) hx hb dX2_canGoOn_31 (by decide) ?_
      have hin := h.1
      have h := h.2
      refine va_iald (D := D) (cl := vwCl) hx hb hK hP 2 0 rfl rfl hin dX2_canGoOn_32 ?_
      have hFc := va_free (wc := (sh_P cs adP kdP grP cvP brP hzP fmP dmP e1P e2P fkP pnP fnP)) hD hS hA [3, 4, 5, 6, 7, 8, 9, 10, 11, 12, 13] rfl
      refine va_calli (va_runV (As := [.ref (ev 0 k), .int (nuR (0 : Int32).toNatClampNeg), .int (nuR (1 : Int32).toNatClampNeg), .int (nuR (2 : Int32).toNatClampNeg)]) (rest := []) ⟨hx, hb, hml, hown, hts⟩ (met_X1_allows l D cs ev _ adP kdP grP cvP brP hzP fmP dmP e1P e2P fkP pnP fnP k (nuR (0 : Int32).toNatClampNeg) (nuR (1 : Int32).toNatClampNeg) (nuR (2 : Int32).toNatClampNeg) _ h) (cwV 4 hts gX2_canGoOn_X1_allows rfl rfl rfl (by decide +kernel) ⟨Nat.le_of_ble_eq_true rfl, Nat.le_of_ble_eq_true rfl⟩) (mPreV (va_recv hK hP (ci := 1) (q0 := 3) rfl rfl) hP hD hS hK hE hFc [3, 4, 5, 6, 7, 8, 9, 10, 11, 12, 13] (by decide) rfl) rfl rfl hl.1 rfl (lv_room (Nat.le_of_ble_eq_true rfl)) dX2_canGoOn_33 ⟨Nat.le_of_ble_eq_true rfl, Nat.le_of_ble_eq_true rfl⟩) hS (fun q _ h => hFc q h) hFc (fun r_4 u t H1 locs ht hvm hw hB hz1 hk1 hS => ?_)
      have h := hw
      obtain ⟨hP1, hK1, hD1⟩ := hB
      rw [ht] at hP1
      obtain ⟨hP, hD⟩ := mJoin (wr := (sh_R cs adR txR nuR lnR bgR enR)) (w1 := (sh_P cs adP kdP grP cvP brP hzP fmP dmP e1P e2P fkP pnP fnP)) (w' := (sh_R cs adR txR nuR lnR bgR enR ++ sh_P cs adP kdP grP cvP brP hzP fmP dmP e1P e2P fkP pnP fnP)) hP hD [3, 4, 5, 6, 7, 8, 9, 10, 11, 12, 13] [0, 1, 2] rfl rfl (by decide) (by decide) hk1 hFc hP1 hD1 [0, 1, 2, 3, 4, 5, 6, 7, 8, 9, 10, 11, 12, 13] (by decide) rfl
      generalize H1 = H at hP hS ⊢
      have hn := h.1
      have h := h.2
      exact W.zret (v := r_4) hx hb hr hn (fun t ht hW => ⟨⟨r_4, (), rfl, h, by rw [ht]; exact hP, va_K.moved hW.alike hK, hD⟩, hS.F ht⟩) hS.2.2 dX2_canGoOn_36
def wp_X2_canGoOn_2 (nuR : Nat → Int32) (cvP : Nat → Int32) (brP : Nat → Int32) (hzP : Nat → Int32) (fmP : Nat → Int32) (pnP : Int32) (fnP : Int32) (k : Nat) (p3 : Int32) (post : Int32 → ((Nat → Int32)) → Prop) : Prop :=
    ∀ (A40 : Int32 → (Nat → Int32) → Prop),
    (∀ (v4 : Int32) (nuR : Nat → Int32), ((10 ≤ v4 → post 0 nuR) ∧ (¬ 10 ≤ v4 → (vp_in p3 3 ∧ wp_X2_canGoOn_3 (upd nuR p3.toNatClampNeg v4) cvP brP hzP fmP pnP fnP k (p3 + 1) (fun r_6 _ => ((r_6 = 0 → A40 (v4 + 1) (upd nuR p3.toNatClampNeg v4)) ∧ (¬ r_6 = 0 → post 1 (upd nuR p3.toNatClampNeg v4))))))) → A40 v4 nuR) →
    (k < 7 ∧ (((([2, 2, 3, 3, 2, 2, 2] : List Int32).getD k 0) ≤ p3 → (vp_in 0 3 ∧ (vp_in 1 3 ∧ (vp_in 2 3 ∧ wp_X1_allows cvP brP hzP fmP pnP fnP k (nuR (0 : Int32).toNatClampNeg) (nuR (1 : Int32).toNatClampNeg) (nuR (2 : Int32).toNatClampNeg) (fun r_2 _ => (narrow .boolean (.int r_2) = .int r_2 ∧ post r_2 nuR)))))) ∧ (¬ (([2, 2, 3, 3, 2, 2, 2] : List Int32).getD k 0) ≤ p3 → ((p3 < 3 → A40 0 nuR) ∧ (¬ p3 < 3 → (vp_in 0 3 ∧ (vp_in 1 3 ∧ (vp_in 2 3 ∧ wp_X1_allows cvP brP hzP fmP pnP fnP k (nuR (0 : Int32).toNatClampNeg) (nuR (1 : Int32).toNatClampNeg) (nuR (2 : Int32).toNatClampNeg) (fun r_4 _ => (narrow .boolean (.int r_4) = .int r_4 ∧ post r_4 nuR))))))))))
set_option maxHeartbeats 4000000 in
set_option maxRecDepth 100000 in
theorem met_X2_canGoOn_2 (l : Launch) (D : va_G) (cs : Nat → ClassId) (ev : Nat → Nat → Nat) (sz0 : Nat) (adR : Nat → Nat) (adP : Nat → Nat) (txR : Nat → Int32) (nuR : Nat → Int32) (lnR : Int32) (bgR : Int32) (enR : Int32) (kdP : Nat → Int32) (grP : Nat → Int64) (cvP : Nat → Int32) (brP : Nat → Int32) (hzP : Nat → Int32) (fmP : Nat → Int32) (dmP : Nat → Int32) (e1P : Nat → Int32) (e2P : Nat → Int32) (fkP : Nat → Int32) (pnP : Int32) (fnP : Int32) (k : Nat) (p3 : Int32) (post : Int32 → ((Nat → Int32)) → Prop) (h : wp_X2_canGoOn_2 nuR cvP brP hzP fmP pnP fnP k p3 post) : Met l yX2_canGoOn wsX2_canGoOn ({ frames := 4, cells := 0, slots := 0, locals := 93 }) (va_Pc [.ref (adR 0), .ref (adP 0), .ref (ev 0 k), .int p3] (mPre D cs ev (sh_R cs adR txR nuR lnR bgR enR ++ sh_P cs adP kdP grP cvP brP hzP fmP dmP e1P e2P fkP pnP fnP) sz0)) (va_Qi post (fun nuR' t => mAt D cs (va_A (sh_R cs adR txR nuR lnR bgR enR ++ sh_P cs adP kdP grP cvP brP hzP fmP dmP e1P e2P fkP pnP fnP) sz0) (sh_R cs adR txR nuR' lnR bgR enR ++ sh_P cs adP kdP grP cvP brP hzP fmP dmP e1P e2P fkP pnP fnP) t) (va_A (sh_R cs adR txR nuR lnR bgR enR ++ sh_P cs adP kdP grP cvP brP hzP fmP dmP e1P e2P fkP pnP fnP) sz0)) 0 0 (va_A (sh_R cs adR txR nuR lnR bgR enR ++ sh_P cs adP kdP grP cvP brP hzP fmP dmP e1P e2P fkP pnP fnP) sz0) := by
  refine Met.ofW (cc := cX2_canGoOn) (maxL := 5) (ret := (some .boolean)) (by decide) rfl ?_
  intro p e s m args below meth c s₁ B hml hv
  obtain ⟨rfl, hsz, hP, hK, hD0, hE⟩ := hv
  have hx := B.exec
  have hb := B.bytes
  have hr := B.returns
  have hts := atoms_spec (ws := wsX2_canGoOn) B.pre
  have hown : s.vm.findClass RX2 = some m.cls := findClass_of_methodNamed B.named
  have hlocks := B.notSynchronized
  subst hsz
  have hD := hD0.self (sz := s.heap.size)
  generalize hAe : va_A (sh_R cs adR txR nuR lnR bgR enR ++ sh_P cs adP kdP grP cvP brP hzP fmP dmP e1P e2P fkP pnP fnP) s.heap.size = A at hD hE ⊢
  have hA : ∀ q : Nat, s.heap.size ≤ q → A q := fun q h => by rw [← hAe]; exact Or.inr h
  have hS : va_S A s.heap s.heap [] := va_S.rf
  have hl := lv_entry ([.ref (adR 0), .ref (adP 0), .ref (ev 0 k), .int p3]) (n := 5) (Nat.le_of_ble_eq_true rfl)
  rw [lg_entry_eq]
  generalize (lg_sl ([.ref (adR 0), .ref (adP 0), .ref (ev 0 k), .int p3]) ++ List.replicate (5 - (lg_sl ([.ref (adR 0), .ref (adP 0), .ref (ev 0 k), .int p3])).length) Slot.unset).toArray = ls at hl ⊢
  have hl : lv_has ls 5 [(0, .ref (adR 0)), (1, .ref (adP 0)), (2, .ref (ev 0 k)), (3, .int p3)] := hl
  obtain ⟨A40, hA40⟩ : ∃ Q : Int32 → (Nat → Int32) → Prop, Q = (fun v4 nuR => ∀ (H : Heap) (locs : List Loc), va_P D vwCl (sh_R cs adR txR nuR lnR bgR enR ++ sh_P cs adP kdP grP cvP brP hzP fmP dmP e1P e2P fkP pnP fnP) H → va_D A (sh_R cs adR txR nuR lnR bgR enR ++ sh_P cs adP kdP grP cvP brP hzP fmP dmP e1P e2P fkP pnP fnP) → va_S A s.heap H locs → ∀ ls : Array Slot, lv_has ls 5 [(0, .ref (adR 0)), (1, .ref (adP 0)), (2, .ref (ev 0 k)), (3, .int p3), (4, .int v4)] → W p l e (headSpec wsX2_canGoOn ({ frames := 4, cells := 0, slots := 0, locals := 93 })).room s m ([.ref (adR 0), .ref (adP 0), .ref (ev 0 k), .int p3] : List Value).toArray below meth c H locs 0 0 (MQ below (va_Qi post (fun nuR' t => mAt D cs (A) (sh_R cs adR txR nuR' lnR bgR enR ++ sh_P cs adP kdP grP cvP brP hzP fmP dmP e1P e2P fkP pnP fnP) t) A) ([.ref (adR 0), .ref (adP 0), .ref (ev 0 k), .int p3] : List Value).toArray s 0 0 A) (F0 m 40 ls [])) := ⟨_, rfl⟩
  have s40 : ∀ (v4 : Int32) (nuR : Nat → Int32), ((10 ≤ v4 → post 0 nuR) ∧ (¬ 10 ≤ v4 → (vp_in p3 3 ∧ wp_X2_canGoOn_3 (upd nuR p3.toNatClampNeg v4) cvP brP hzP fmP pnP fnP k (p3 + 1) (fun r_6 _ => ((r_6 = 0 → A40 (v4 + 1) (upd nuR p3.toNatClampNeg v4)) ∧ (¬ r_6 = 0 → post 1 (upd nuR p3.toNatClampNeg v4))))))) → A40 v4 nuR := by
    intro v4 nuR h
    rw [hA40]
    intro H locs hP hD hS ls hl
    refine lv_iload hx hb dX2_canGoOn_40 (lv_at hl 4 rfl) ?_
    refine lv_bipush (v := 10) hx hb dX2_canGoOn_42 (by decide) ?_
    refine lv_icmp_ge (tgt := 75) hx hb dX2_canGoOn_44 (by decide) (fun c_5 => ?_) (fun c_5 => ?_)
    · have h := h.1 c_5
      refine lv_iconst (v := 0) hx hb dX2_canGoOn_75 (by decide) ?_
      exact W.zret (v := 0) hx hb hr (by decide) (fun t ht hW => ⟨⟨0, nuR, rfl, h, by rw [ht]; exact hP, va_K.moved hW.alike hK, hD⟩, hS.F ht⟩) hS.2.2 dX2_canGoOn_76
    · have h := h.2 c_5
      refine lv_aload_n hx hb dX2_canGoOn_47 rfl (lv_at hl 0 rfl) ?_
      refine va_get (D := D) (ci := 2) (v := .ref (adR 2)) (C := RX2) (T := TX2) (N := 5) hx hb hts (by decide +kernel) hown hK hP 0 rfl rfl 1 (by decide) (hts (.fieldLink RX2 15 "PartGraphs$Reader" "numbers" "[I") (by decide +kernel)) (fun _ h9 => h9) rfl dX2_canGoOn_48 ?_
      refine lv_iload_n hx hb dX2_canGoOn_51 rfl (lv_at hl 3 rfl) ?_
      refine lv_iload hx hb dX2_canGoOn_52 (lv_at hl 4 rfl) ?_
      have hin := h.1
      have h := h.2
      refine va_iast (D := D) (cl := vwCl) hx hb hK hP hD hS 2 0 rfl rfl hin dX2_canGoOn_54 (fun H locs hP hD hS => ?_)
      have hP : va_P D vwCl (sh_R cs adR txR (upd nuR p3.toNatClampNeg v4) lnR bgR enR ++ sh_P cs adP kdP grP cvP brP hzP fmP dmP e1P e2P fkP pnP fnP) H := hP
      have hD : va_D A (sh_R cs adR txR (upd nuR p3.toNatClampNeg v4) lnR bgR enR ++ sh_P cs adP kdP grP cvP brP hzP fmP dmP e1P e2P fkP pnP fnP) := hD
      refine lv_aload_n hx hb dX2_canGoOn_55 rfl (lv_at hl 0 rfl) ?_
      refine lv_aload_n hx hb dX2_canGoOn_56 rfl (lv_at hl 1 rfl) ?_
      refine lv_aload_n hx hb dX2_canGoOn_57 rfl (lv_at hl 2 rfl) ?_
      refine lv_iload_n hx hb dX2_canGoOn_58 rfl (lv_at hl 3 rfl) ?_
      refine lv_iconst (v := 1) hx hb dX2_canGoOn_59 (by decide) ?_
      refine lv_iadd hx hb dX2_canGoOn_60 ?_
      have hFc := va_free (wc := (sh_R cs adR txR (upd nuR p3.toNatClampNeg v4) lnR bgR enR ++ sh_P cs adP kdP grP cvP brP hzP fmP dmP e1P e2P fkP pnP fnP)) hD hS hA [0, 1, 2, 3, 4, 5, 6, 7, 8, 9, 10, 11, 12, 13] rfl
      refine va_calli (va_runV (As := [.ref (adP 0), .ref (ev 0 k), .int (p3 + 1)]) (rest := []) ⟨hx, hb, hml, hown, hts⟩ (met_X2_canGoOn_3 l D cs ev _ adR adP txR (upd nuR p3.toNatClampNeg v4) lnR bgR enR kdP grP cvP brP hzP fmP dmP e1P e2P fkP pnP fnP k (p3 + 1) _ h) (cwV 3 hts gX2_canGoOn_X2_canGoOn rfl rfl rfl (by decide +kernel) ⟨Nat.le_of_ble_eq_true rfl, Nat.le_of_ble_eq_true rfl⟩) (mPreV (va_recv hK hP (ci := 2) (q0 := 0) rfl rfl) hP hD hS hK hE hFc [0, 1, 2, 3, 4, 5, 6, 7, 8, 9, 10, 11, 12, 13] (by decide) rfl) rfl rfl hl.1 rfl (lv_room (Nat.le_of_ble_eq_true rfl)) dX2_canGoOn_61 ⟨Nat.le_of_ble_eq_true rfl, Nat.le_of_ble_eq_true rfl⟩) hS (fun q _ h => hFc q h) hFc (fun r_6 u t H1 locs ht hvm hw hB hz1 hk1 hS => ?_)
      have h := hw
      obtain ⟨hP1, hK1, hD1⟩ := hB
      rw [ht] at hP1
      obtain ⟨hP, hD⟩ := mJoin (wr := ([] : va_W)) (w1 := (sh_R cs adR txR (upd nuR p3.toNatClampNeg v4) lnR bgR enR ++ sh_P cs adP kdP grP cvP brP hzP fmP dmP e1P e2P fkP pnP fnP)) (w' := (sh_R cs adR txR (upd nuR p3.toNatClampNeg v4) lnR bgR enR ++ sh_P cs adP kdP grP cvP brP hzP fmP dmP e1P e2P fkP pnP fnP)) hP hD [0, 1, 2, 3, 4, 5, 6, 7, 8, 9, 10, 11, 12, 13] [] rfl rfl (by decide) (by decide) hk1 hFc hP1 hD1 [0, 1, 2, 3, 4, 5, 6, 7, 8, 9, 10, 11, 12, 13] (by decide) rfl
      generalize H1 = H at hP hS ⊢
      refine lv_if_eq (tgt := 69) hx hb dX2_canGoOn_64 (by decide) (fun c_7 => ?_) (fun c_7 => ?_)
      · have h := h.1 c_7
        refine lv_iinc (v := v4 + 1) (lv' := [(4, .int (v4 + 1)), (0, .ref (adR 0)), (1, .ref (adP 0)), (2, .ref (ev 0 k)), (3, .int p3)]) hx hb dX2_canGoOn_69 hl (k := 4) rfl rfl (by decide) rfl (fun ls hl => ?_)
        refine lv_goto (tgt := 40) hx hb dX2_canGoOn_72 (by decide) ?_
        rw [hA40] at h
        exact h _ _ hP hD hS ls (lv_sub hl [1, 2, 3, 4, 0] rfl)
      · have h := h.2 c_7
        refine lv_iconst (v := 1) hx hb dX2_canGoOn_67 (by decide) ?_
        exact W.zret (v := 1) hx hb hr (by decide) (fun t ht hW => ⟨⟨1, (upd nuR p3.toNatClampNeg v4), rfl, h, by rw [ht]; exact hP, va_K.moved hW.alike hK, hD⟩, hS.F ht⟩) hS.2.2 dX2_canGoOn_68
  have h := h A40 s40
  refine lv_iload_n hx hb dX2_canGoOn_0 rfl (lv_at hl 3 rfl) ?_
  refine lv_aload_n hx hb dX2_canGoOn_1 rfl (lv_at hl 2 rfl) ?_
  have hk := h.1
  have h := h.2
  refine va_getE (i := k) hx hb hE.2.2.1 hk hS hown (q := ("PartGraphs$Verb", "numbers", "I", [2, 2, 3, 3, 2, 2, 2])) (by decide) (hts (.fieldLink RX2 45 "PartGraphs$Verb" "numbers" "I") (by decide +kernel)) (fun _ h9 => h9) dX2_canGoOn_2 ?_
  refine lv_icmp_ge (tgt := 13) hx hb dX2_canGoOn_5 (by decide) (fun c_1 => ?_) (fun c_1 => ?_)
  · have h := h.1 c_1
    refine lv_aload_n hx hb dX2_canGoOn_13 rfl (lv_at hl 1 rfl) ?_
    refine lv_aload_n hx hb dX2_canGoOn_14 rfl (lv_at hl 2 rfl) ?_
    refine lv_aload_n hx hb dX2_canGoOn_15 rfl (lv_at hl 0 rfl) ?_
    refine va_get (D := D) (ci := 2) (v := .ref (adR 2)) (C := RX2) (T := TX2) (N := 5) hx hb hts (by decide +kernel) hown hK hP 0 rfl rfl 1 (by decide) (hts (.fieldLink RX2 15 "PartGraphs$Reader" "numbers" "[I") (by decide +kernel)) (fun _ h9 => h9) rfl dX2_canGoOn_16 ?_
    refine lv_iconst (v := 0) hx hb dX2_canGoOn_19 (by decide) ?_
    have hin := h.1
    have h := h.2
    refine va_iald (D := D) (cl := vwCl) hx hb hK hP 2 0 rfl rfl hin dX2_canGoOn_20 ?_
    refine lv_aload_n hx hb dX2_canGoOn_21 rfl (lv_at hl 0 rfl) ?_
    refine va_get (D := D) (ci := 2) (v := .ref (adR 2)) (C := RX2) (T := TX2) (N := 5) hx hb hts (by decide +kernel) hown hK hP 0 rfl rfl 1 (by decide) (hts (.fieldLink RX2 15 "PartGraphs$Reader" "numbers" "[I") (by decide +kernel)) (fun _ h9 => h9) rfl dX2_canGoOn_22 ?_
    refine lv_iconst (v := 1) hx hb dX2_canGoOn_25 (by decide) ?_
    have hin := h.1
    have h := h.2
    refine va_iald (D := D) (cl := vwCl) hx hb hK hP 2 0 rfl rfl hin dX2_canGoOn_26 ?_
    refine lv_aload_n hx hb dX2_canGoOn_27 rfl (lv_at hl 0 rfl) ?_
    refine va_get (D := D) (ci := 2) (v := .ref (adR 2)) (C := RX2) (T := TX2) (N := 5) hx hb hts (by decide +kernel) hown hK hP 0 rfl rfl 1 (by decide) (hts (.fieldLink RX2 15 "PartGraphs$Reader" "numbers" "[I") (by decide +kernel)) (fun _ h9 => h9) rfl dX2_canGoOn_28 ?_
    refine lv_iconst (v := 2) hx hb dX2_canGoOn_31 (by decide) ?_
    have hin := h.1
    have h := h.2
    refine va_iald (D := D) (cl := vwCl) hx hb hK hP 2 0 rfl rfl hin dX2_canGoOn_32 ?_
    have hFc := va_free (wc := (sh_P cs adP kdP grP cvP brP hzP fmP dmP e1P e2P fkP pnP fnP)) hD hS hA [3, 4, 5, 6, 7, 8, 9, 10, 11, 12, 13] rfl
    refine va_calli (va_runV (As := [.ref (ev 0 k), .int (nuR (0 : Int32).toNatClampNeg), .int (nuR (1 : Int32).toNatClampNeg), .int (nuR (2 : Int32).toNatClampNeg)]) (rest := []) ⟨hx, hb, hml, hown, hts⟩ (met_X1_allows l D cs ev _ adP kdP grP cvP brP hzP fmP dmP e1P e2P fkP pnP fnP k (nuR (0 : Int32).toNatClampNeg) (nuR (1 : Int32).toNatClampNeg) (nuR (2 : Int32).toNatClampNeg) _ h) (cwV 4 hts gX2_canGoOn_X1_allows rfl rfl rfl (by decide +kernel) ⟨Nat.le_of_ble_eq_true rfl, Nat.le_of_ble_eq_true rfl⟩) (mPreV (va_recv hK hP (ci := 1) (q0 := 3) rfl rfl) hP hD hS hK hE hFc [3, 4, 5, 6, 7, 8, 9, 10, 11, 12, 13] (by decide) rfl) rfl rfl hl.1 rfl (lv_room (Nat.le_of_ble_eq_true rfl)) dX2_canGoOn_33 ⟨Nat.le_of_ble_eq_true rfl, Nat.le_of_ble_eq_true rfl⟩) hS (fun q _ h => hFc q h) hFc (fun r_2 u t H1 locs ht hvm hw hB hz1 hk1 hS => ?_)
    have h := hw
    obtain ⟨hP1, hK1, hD1⟩ := hB
    rw [ht] at hP1
    obtain ⟨hP, hD⟩ := mJoin (wr := (sh_R cs adR txR nuR lnR bgR enR)) (w1 := (sh_P cs adP kdP grP cvP brP hzP fmP dmP e1P e2P fkP pnP fnP)) (w' := (sh_R cs adR txR nuR lnR bgR enR ++ sh_P cs adP kdP grP cvP brP hzP fmP dmP e1P e2P fkP pnP fnP)) hP hD [3, 4, 5, 6, 7, 8, 9, 10, 11, 12, 13] [0, 1, 2] rfl rfl (by decide) (by decide) hk1 hFc hP1 hD1 [0, 1, 2, 3, 4, 5, 6, 7, 8, 9, 10, 11, 12, 13] (by decide) rfl
    generalize H1 = H at hP hS ⊢
    have hn := h.1
    have h := h.2
    exact W.zret (v := r_2) hx hb hr hn (fun t ht hW => ⟨⟨r_2, nuR, rfl, h, by rw [ht]; exact hP, va_K.moved hW.alike hK, hD⟩, hS.F ht⟩) hS.2.2 dX2_canGoOn_36
  · have h := h.2 c_1
    refine lv_iload_n hx hb dX2_canGoOn_8 rfl (lv_at hl 3 rfl) ?_
    refine lv_iconst (v := 3) hx hb dX2_canGoOn_9 (by decide) ?_
    refine lv_icmp_lt (tgt := 37) hx hb dX2_canGoOn_10 (by decide) (fun c_3 => ?_) (fun c_3 => ?_)
    · have h := h.1 c_3
      refine lv_iconst (v := 0) hx hb dX2_canGoOn_37 (by decide) ?_
      refine lv_istore (lv' := [(4, .int 0), (0, .ref (adR 0)), (1, .ref (adP 0)), (2, .ref (ev 0 k)), (3, .int p3)]) hx hb dX2_canGoOn_38 hl (by decide) rfl (fun ls hl => ?_)
      rw [hA40] at h
      exact h _ _ hP hD hS ls (lv_sub hl [1, 2, 3, 4, 0] rfl)
    · have h := h.2 c_3
      refine lv_aload_n hx hb dX2_canGoOn_13 rfl (lv_at hl 1 rfl) ?_
      refine lv_aload_n hx hb dX2_canGoOn_14 rfl (lv_at hl 2 rfl) ?_
      refine lv_aload_n hx hb dX2_canGoOn_15 rfl (lv_at hl 0 rfl) ?_
      refine va_get (D := D) (ci := 2) (v := .ref (adR 2)) (C := RX2) (T := TX2) (N := 5) hx hb hts (by decide +kernel) hown hK hP 0 rfl rfl 1 (by decide) (hts (.fieldLink RX2 15 "PartGraphs$Reader" "numbers" "[I") (by decide +kernel)) (fun _ h9 => h9) rfl dX2_canGoOn_16 ?_
      refine lv_iconst (v := 0) hx hb dX2_canGoOn_19 (by decide) ?_
      have hin := h.1
      have h := h.2
      refine va_iald (D := D) (cl := vwCl) hx hb hK hP 2 0 rfl rfl hin dX2_canGoOn_20 ?_
      refine lv_aload_n hx hb dX2_canGoOn_21 rfl (lv_at hl 0 rfl) ?_
      refine va_get (D := D) (ci := 2) (v := .ref (adR 2)) (C := RX2) (T := TX2) (N := 5) hx hb hts (by decide +kernel) hown hK hP 0 rfl rfl 1 (by decide) (hts (.fieldLink RX2 15 "PartGraphs$Reader" "numbers" "[I") (by decide +kernel)) (fun _ h9 => h9) rfl dX2_canGoOn_22 ?_
      refine lv_iconst (v := 1) hx hb dX2_canGoOn_25 (by decide) ?_
      have hin := h.1
      have h := h.2
      refine va_iald (D := D) (cl := vwCl) hx hb hK hP 2 0 rfl rfl hin dX2_canGoOn_26 ?_
      refine lv_aload_n hx hb dX2_canGoOn_27 rfl (lv_at hl 0 rfl) ?_
      refine va_get (D := D) (ci := 2) (v := .ref (adR 2)) (C := RX2) (T := TX2) (N := 5) hx hb hts (by decide +kernel) hown hK hP 0 rfl rfl 1 (by decide) (hts (.fieldLink RX2 15 "PartGraphs$Reader" "numbers" "[I") (by decide +kernel)) (fun _ h9 => h9) rfl dX2_canGoOn_28 ?_
      refine lv_iconst (v := 2) hx hb dX2_canGoOn_31 (by decide) ?_
      have hin := h.1
      have h := h.2
      refine va_iald (D := D) (cl := vwCl) hx hb hK hP 2 0 rfl rfl hin dX2_canGoOn_32 ?_
      have hFc := va_free (wc := (sh_P cs adP kdP grP cvP brP hzP fmP dmP e1P e2P fkP pnP fnP)) hD hS hA [3, 4, 5, 6, 7, 8, 9, 10, 11, 12, 13] rfl
      refine va_calli (va_runV (As := [.ref (ev 0 k), .int (nuR (0 : Int32).toNatClampNeg), .int (nuR (1 : Int32).toNatClampNeg), .int (nuR (2 : Int32).toNatClampNeg)]) (rest := []) ⟨hx, hb, hml, hown, hts⟩ (met_X1_allows l D cs ev _ adP kdP grP cvP brP hzP fmP dmP e1P e2P fkP pnP fnP k (nuR (0 : Int32).toNatClampNeg) (nuR (1 : Int32).toNatClampNeg) (nuR (2 : Int32).toNatClampNeg) _ h) (cwV 4 hts gX2_canGoOn_X1_allows rfl rfl rfl (by decide +kernel) ⟨Nat.le_of_ble_eq_true rfl, Nat.le_of_ble_eq_true rfl⟩) (mPreV (va_recv hK hP (ci := 1) (q0 := 3) rfl rfl) hP hD hS hK hE hFc [3, 4, 5, 6, 7, 8, 9, 10, 11, 12, 13] (by decide) rfl) rfl rfl hl.1 rfl (lv_room (Nat.le_of_ble_eq_true rfl)) dX2_canGoOn_33 ⟨Nat.le_of_ble_eq_true rfl, Nat.le_of_ble_eq_true rfl⟩) hS (fun q _ h => hFc q h) hFc (fun r_4 u t H1 locs ht hvm hw hB hz1 hk1 hS => ?_)
      have h := hw
      obtain ⟨hP1, hK1, hD1⟩ := hB
      rw [ht] at hP1
      obtain ⟨hP, hD⟩ := mJoin (wr := (sh_R cs adR txR nuR lnR bgR enR)) (w1 := (sh_P cs adP kdP grP cvP brP hzP fmP dmP e1P e2P fkP pnP fnP)) (w' := (sh_R cs adR txR nuR lnR bgR enR ++ sh_P cs adP kdP grP cvP brP hzP fmP dmP e1P e2P fkP pnP fnP)) hP hD [3, 4, 5, 6, 7, 8, 9, 10, 11, 12, 13] [0, 1, 2] rfl rfl (by decide) (by decide) hk1 hFc hP1 hD1 [0, 1, 2, 3, 4, 5, 6, 7, 8, 9, 10, 11, 12, 13] (by decide) rfl
      generalize H1 = H at hP hS ⊢
      have hn := h.1
      have h := h.2
      exact W.zret (v := r_4) hx hb hr hn (fun t ht hW => ⟨⟨r_4, nuR, rfl, h, by rw [ht]; exact hP, va_K.moved hW.alike hK, hD⟩, hS.F ht⟩) hS.2.2 dX2_canGoOn_36
def wp_X2_canGoOn_1 (nuR : Nat → Int32) (cvP : Nat → Int32) (brP : Nat → Int32) (hzP : Nat → Int32) (fmP : Nat → Int32) (pnP : Int32) (fnP : Int32) (k : Nat) (p3 : Int32) (post : Int32 → ((Nat → Int32)) → Prop) : Prop :=
    ∀ (A40 : Int32 → (Nat → Int32) → Prop),
    (∀ (v4 : Int32) (nuR : Nat → Int32), ((10 ≤ v4 → post 0 nuR) ∧ (¬ 10 ≤ v4 → (vp_in p3 3 ∧ wp_X2_canGoOn_2 (upd nuR p3.toNatClampNeg v4) cvP brP hzP fmP pnP fnP k (p3 + 1) (fun r_6 nu_7 => ((r_6 = 0 → A40 (v4 + 1) nu_7) ∧ (¬ r_6 = 0 → post 1 nu_7)))))) → A40 v4 nuR) →
    (k < 7 ∧ (((([2, 2, 3, 3, 2, 2, 2] : List Int32).getD k 0) ≤ p3 → (vp_in 0 3 ∧ (vp_in 1 3 ∧ (vp_in 2 3 ∧ wp_X1_allows cvP brP hzP fmP pnP fnP k (nuR (0 : Int32).toNatClampNeg) (nuR (1 : Int32).toNatClampNeg) (nuR (2 : Int32).toNatClampNeg) (fun r_2 _ => (narrow .boolean (.int r_2) = .int r_2 ∧ post r_2 nuR)))))) ∧ (¬ (([2, 2, 3, 3, 2, 2, 2] : List Int32).getD k 0) ≤ p3 → ((p3 < 3 → A40 0 nuR) ∧ (¬ p3 < 3 → (vp_in 0 3 ∧ (vp_in 1 3 ∧ (vp_in 2 3 ∧ wp_X1_allows cvP brP hzP fmP pnP fnP k (nuR (0 : Int32).toNatClampNeg) (nuR (1 : Int32).toNatClampNeg) (nuR (2 : Int32).toNatClampNeg) (fun r_4 _ => (narrow .boolean (.int r_4) = .int r_4 ∧ post r_4 nuR))))))))))
set_option maxHeartbeats 4000000 in
set_option maxRecDepth 100000 in
theorem met_X2_canGoOn_1 (l : Launch) (D : va_G) (cs : Nat → ClassId) (ev : Nat → Nat → Nat) (sz0 : Nat) (adR : Nat → Nat) (adP : Nat → Nat) (txR : Nat → Int32) (nuR : Nat → Int32) (lnR : Int32) (bgR : Int32) (enR : Int32) (kdP : Nat → Int32) (grP : Nat → Int64) (cvP : Nat → Int32) (brP : Nat → Int32) (hzP : Nat → Int32) (fmP : Nat → Int32) (dmP : Nat → Int32) (e1P : Nat → Int32) (e2P : Nat → Int32) (fkP : Nat → Int32) (pnP : Int32) (fnP : Int32) (k : Nat) (p3 : Int32) (post : Int32 → ((Nat → Int32)) → Prop) (h : wp_X2_canGoOn_1 nuR cvP brP hzP fmP pnP fnP k p3 post) : Met l yX2_canGoOn wsX2_canGoOn ({ frames := 5, cells := 0, slots := 0, locals := 117 }) (va_Pc [.ref (adR 0), .ref (adP 0), .ref (ev 0 k), .int p3] (mPre D cs ev (sh_R cs adR txR nuR lnR bgR enR ++ sh_P cs adP kdP grP cvP brP hzP fmP dmP e1P e2P fkP pnP fnP) sz0)) (va_Qi post (fun nuR' t => mAt D cs (va_A (sh_R cs adR txR nuR lnR bgR enR ++ sh_P cs adP kdP grP cvP brP hzP fmP dmP e1P e2P fkP pnP fnP) sz0) (sh_R cs adR txR nuR' lnR bgR enR ++ sh_P cs adP kdP grP cvP brP hzP fmP dmP e1P e2P fkP pnP fnP) t) (va_A (sh_R cs adR txR nuR lnR bgR enR ++ sh_P cs adP kdP grP cvP brP hzP fmP dmP e1P e2P fkP pnP fnP) sz0)) 0 0 (va_A (sh_R cs adR txR nuR lnR bgR enR ++ sh_P cs adP kdP grP cvP brP hzP fmP dmP e1P e2P fkP pnP fnP) sz0) := by
  refine Met.ofW (cc := cX2_canGoOn) (maxL := 5) (ret := (some .boolean)) (by decide) rfl ?_
  intro p e s m args below meth c s₁ B hml hv
  obtain ⟨rfl, hsz, hP, hK, hD0, hE⟩ := hv
  have hx := B.exec
  have hb := B.bytes
  have hr := B.returns
  have hts := atoms_spec (ws := wsX2_canGoOn) B.pre
  have hown : s.vm.findClass RX2 = some m.cls := findClass_of_methodNamed B.named
  have hlocks := B.notSynchronized
  subst hsz
  have hD := hD0.self (sz := s.heap.size)
  generalize hAe : va_A (sh_R cs adR txR nuR lnR bgR enR ++ sh_P cs adP kdP grP cvP brP hzP fmP dmP e1P e2P fkP pnP fnP) s.heap.size = A at hD hE ⊢
  have hA : ∀ q : Nat, s.heap.size ≤ q → A q := fun q h => by rw [← hAe]; exact Or.inr h
  have hS : va_S A s.heap s.heap [] := va_S.rf
  have hl := lv_entry ([.ref (adR 0), .ref (adP 0), .ref (ev 0 k), .int p3]) (n := 5) (Nat.le_of_ble_eq_true rfl)
  rw [lg_entry_eq]
  generalize (lg_sl ([.ref (adR 0), .ref (adP 0), .ref (ev 0 k), .int p3]) ++ List.replicate (5 - (lg_sl ([.ref (adR 0), .ref (adP 0), .ref (ev 0 k), .int p3])).length) Slot.unset).toArray = ls at hl ⊢
  have hl : lv_has ls 5 [(0, .ref (adR 0)), (1, .ref (adP 0)), (2, .ref (ev 0 k)), (3, .int p3)] := hl
  obtain ⟨A40, hA40⟩ : ∃ Q : Int32 → (Nat → Int32) → Prop, Q = (fun v4 nuR => ∀ (H : Heap) (locs : List Loc), va_P D vwCl (sh_R cs adR txR nuR lnR bgR enR ++ sh_P cs adP kdP grP cvP brP hzP fmP dmP e1P e2P fkP pnP fnP) H → va_D A (sh_R cs adR txR nuR lnR bgR enR ++ sh_P cs adP kdP grP cvP brP hzP fmP dmP e1P e2P fkP pnP fnP) → va_S A s.heap H locs → ∀ ls : Array Slot, lv_has ls 5 [(0, .ref (adR 0)), (1, .ref (adP 0)), (2, .ref (ev 0 k)), (3, .int p3), (4, .int v4)] → W p l e (headSpec wsX2_canGoOn ({ frames := 5, cells := 0, slots := 0, locals := 117 })).room s m ([.ref (adR 0), .ref (adP 0), .ref (ev 0 k), .int p3] : List Value).toArray below meth c H locs 0 0 (MQ below (va_Qi post (fun nuR' t => mAt D cs (A) (sh_R cs adR txR nuR' lnR bgR enR ++ sh_P cs adP kdP grP cvP brP hzP fmP dmP e1P e2P fkP pnP fnP) t) A) ([.ref (adR 0), .ref (adP 0), .ref (ev 0 k), .int p3] : List Value).toArray s 0 0 A) (F0 m 40 ls [])) := ⟨_, rfl⟩
  have s40 : ∀ (v4 : Int32) (nuR : Nat → Int32), ((10 ≤ v4 → post 0 nuR) ∧ (¬ 10 ≤ v4 → (vp_in p3 3 ∧ wp_X2_canGoOn_2 (upd nuR p3.toNatClampNeg v4) cvP brP hzP fmP pnP fnP k (p3 + 1) (fun r_6 nu_7 => ((r_6 = 0 → A40 (v4 + 1) nu_7) ∧ (¬ r_6 = 0 → post 1 nu_7)))))) → A40 v4 nuR := by
    intro v4 nuR h
    rw [hA40]
    intro H locs hP hD hS ls hl
    refine lv_iload hx hb dX2_canGoOn_40 (lv_at hl 4 rfl) ?_
    refine lv_bipush (v := 10) hx hb dX2_canGoOn_42 (by decide) ?_
    refine lv_icmp_ge (tgt := 75) hx hb dX2_canGoOn_44 (by decide) (fun c_5 => ?_) (fun c_5 => ?_)
    · have h := h.1 c_5
      refine lv_iconst (v := 0) hx hb dX2_canGoOn_75 (by decide) ?_
      exact W.zret (v := 0) hx hb hr (by decide) (fun t ht hW => ⟨⟨0, nuR, rfl, h, by rw [ht]; exact hP, va_K.moved hW.alike hK, hD⟩, hS.F ht⟩) hS.2.2 dX2_canGoOn_76
    · have h := h.2 c_5
      refine lv_aload_n hx hb dX2_canGoOn_47 rfl (lv_at hl 0 rfl) ?_
      refine va_get (D := D) (ci := 2) (v := .ref (adR 2)) (C := RX2) (T := TX2) (N := 5) hx hb hts (by decide +kernel) hown hK hP 0 rfl rfl 1 (by decide) (hts (.fieldLink RX2 15 "PartGraphs$Reader" "numbers" "[I") (by decide +kernel)) (fun _ h9 => h9) rfl dX2_canGoOn_48 ?_
      refine lv_iload_n hx hb dX2_canGoOn_51 rfl (lv_at hl 3 rfl) ?_
      refine lv_iload hx hb dX2_canGoOn_52 (lv_at hl 4 rfl) ?_
      have hin := h.1
      have h := h.2
      refine va_iast (D := D) (cl := vwCl) hx hb hK hP hD hS 2 0 rfl rfl hin dX2_canGoOn_54 (fun H locs hP hD hS => ?_)
      have hP : va_P D vwCl (sh_R cs adR txR (upd nuR p3.toNatClampNeg v4) lnR bgR enR ++ sh_P cs adP kdP grP cvP brP hzP fmP dmP e1P e2P fkP pnP fnP) H := hP
      have hD : va_D A (sh_R cs adR txR (upd nuR p3.toNatClampNeg v4) lnR bgR enR ++ sh_P cs adP kdP grP cvP brP hzP fmP dmP e1P e2P fkP pnP fnP) := hD
      refine lv_aload_n hx hb dX2_canGoOn_55 rfl (lv_at hl 0 rfl) ?_
      refine lv_aload_n hx hb dX2_canGoOn_56 rfl (lv_at hl 1 rfl) ?_
      refine lv_aload_n hx hb dX2_canGoOn_57 rfl (lv_at hl 2 rfl) ?_
      refine lv_iload_n hx hb dX2_canGoOn_58 rfl (lv_at hl 3 rfl) ?_
      refine lv_iconst (v := 1) hx hb dX2_canGoOn_59 (by decide) ?_
      refine lv_iadd hx hb dX2_canGoOn_60 ?_
      have hFc := va_free (wc := (sh_R cs adR txR (upd nuR p3.toNatClampNeg v4) lnR bgR enR ++ sh_P cs adP kdP grP cvP brP hzP fmP dmP e1P e2P fkP pnP fnP)) hD hS hA [0, 1, 2, 3, 4, 5, 6, 7, 8, 9, 10, 11, 12, 13] rfl
      refine va_calli (va_runV (As := [.ref (adP 0), .ref (ev 0 k), .int (p3 + 1)]) (rest := []) ⟨hx, hb, hml, hown, hts⟩ (met_X2_canGoOn_2 l D cs ev _ adR adP txR (upd nuR p3.toNatClampNeg v4) lnR bgR enR kdP grP cvP brP hzP fmP dmP e1P e2P fkP pnP fnP k (p3 + 1) _ h) (cwV 3 hts gX2_canGoOn_X2_canGoOn rfl rfl rfl (by decide +kernel) ⟨Nat.le_of_ble_eq_true rfl, Nat.le_of_ble_eq_true rfl⟩) (mPreV (va_recv hK hP (ci := 2) (q0 := 0) rfl rfl) hP hD hS hK hE hFc [0, 1, 2, 3, 4, 5, 6, 7, 8, 9, 10, 11, 12, 13] (by decide) rfl) rfl rfl hl.1 rfl (lv_room (Nat.le_of_ble_eq_true rfl)) dX2_canGoOn_61 ⟨Nat.le_of_ble_eq_true rfl, Nat.le_of_ble_eq_true rfl⟩) hS (fun q _ h => hFc q h) hFc (fun r_6 u t H1 locs ht hvm hw hB hz1 hk1 hS => ?_)
      obtain ⟨nu_7, rfl⟩ : ∃ z, z = u := ⟨_, rfl⟩
      have h := hw
      obtain ⟨hP1, hK1, hD1⟩ := hB
      rw [ht] at hP1
      obtain ⟨hP, hD⟩ := mJoin (wr := ([] : va_W)) (w1 := (sh_R cs adR txR nu_7 lnR bgR enR ++ sh_P cs adP kdP grP cvP brP hzP fmP dmP e1P e2P fkP pnP fnP)) (w' := (sh_R cs adR txR nu_7 lnR bgR enR ++ sh_P cs adP kdP grP cvP brP hzP fmP dmP e1P e2P fkP pnP fnP)) hP hD [0, 1, 2, 3, 4, 5, 6, 7, 8, 9, 10, 11, 12, 13] [] rfl rfl (by decide) (by decide) hk1 hFc hP1 hD1 [0, 1, 2, 3, 4, 5, 6, 7, 8, 9, 10, 11, 12, 13] (by decide) rfl
      generalize H1 = H at hP hS ⊢
      refine lv_if_eq (tgt := 69) hx hb dX2_canGoOn_64 (by decide) (fun c_8 => ?_) (fun c_8 => ?_)
      · have h := h.1 c_8
        refine lv_iinc (v := v4 + 1) (lv' := [(4, .int (v4 + 1)), (0, .ref (adR 0)), (1, .ref (adP 0)), (2, .ref (ev 0 k)), (3, .int p3)]) hx hb dX2_canGoOn_69 hl (k := 4) rfl rfl (by decide) rfl (fun ls hl => ?_)
        refine lv_goto (tgt := 40) hx hb dX2_canGoOn_72 (by decide) ?_
        rw [hA40] at h
        exact h _ _ hP hD hS ls (lv_sub hl [1, 2, 3, 4, 0] rfl)
      · have h := h.2 c_8
        refine lv_iconst (v := 1) hx hb dX2_canGoOn_67 (by decide) ?_
        exact W.zret (v := 1) hx hb hr (by decide) (fun t ht hW => ⟨⟨1, nu_7, rfl, h, by rw [ht]; exact hP, va_K.moved hW.alike hK, hD⟩, hS.F ht⟩) hS.2.2 dX2_canGoOn_68
  have h := h A40 s40
  refine lv_iload_n hx hb dX2_canGoOn_0 rfl (lv_at hl 3 rfl) ?_
  refine lv_aload_n hx hb dX2_canGoOn_1 rfl (lv_at hl 2 rfl) ?_
  have hk := h.1
  have h := h.2
  refine va_getE (i := k) hx hb hE.2.2.1 hk hS hown (q := ("PartGraphs$Verb", "numbers", "I", [2, 2, 3, 3, 2, 2, 2])) (by decide) (hts (.fieldLink RX2 45 "PartGraphs$Verb" "numbers" "I") (by decide +kernel)) (fun _ h9 => h9) dX2_canGoOn_2 ?_
  refine lv_icmp_ge (tgt := 13) hx hb dX2_canGoOn_5 (by decide) (fun c_1 => ?_) (fun c_1 => ?_)
  · have h := h.1 c_1
    refine lv_aload_n hx hb dX2_canGoOn_13 rfl (lv_at hl 1 rfl) ?_
    refine lv_aload_n hx hb dX2_canGoOn_14 rfl (lv_at hl 2 rfl) ?_
    refine lv_aload_n hx hb dX2_canGoOn_15 rfl (lv_at hl 0 rfl) ?_
    refine va_get (D := D) (ci := 2) (v := .ref (adR 2)) (C := RX2) (T := TX2) (N := 5) hx hb hts (by decide +kernel) hown hK hP 0 rfl rfl 1 (by decide) (hts (.fieldLink RX2 15 "PartGraphs$Reader" "numbers" "[I") (by decide +kernel)) (fun _ h9 => h9) rfl dX2_canGoOn_16 ?_
    refine lv_iconst (v := 0) hx hb dX2_canGoOn_19 (by decide) ?_
    have hin := h.1
    have h := h.2
    refine va_iald (D := D) (cl := vwCl) hx hb hK hP 2 0 rfl rfl hin dX2_canGoOn_20 ?_
    refine lv_aload_n hx hb dX2_canGoOn_21 rfl (lv_at hl 0 rfl) ?_
    refine va_get (D := D) (ci := 2) (v := .ref (adR 2)) (C := RX2) (T := TX2) (N := 5) hx hb hts (by decide +kernel) hown hK hP 0 rfl rfl 1 (by decide) (hts (.fieldLink RX2 15 "PartGraphs$Reader" "numbers" "[I") (by decide +kernel)) (fun _ h9 => h9) rfl dX2_canGoOn_22 ?_
    refine lv_iconst (v := 1) hx hb dX2_canGoOn_25 (by decide) ?_
    have hin := h.1
    have h := h.2
    refine va_iald (D := D) (cl := vwCl) hx hb hK hP 2 0 rfl rfl hin dX2_canGoOn_26 ?_
    refine lv_aload_n hx hb dX2_canGoOn_27 rfl (lv_at hl 0 rfl) ?_
    refine va_get (D := D) (ci := 2) (v := .ref (adR 2)) (C := RX2) (T := TX2) (N := 5) hx hb hts (by decide +kernel) hown hK hP 0 rfl rfl 1 (by decide) (hts (.fieldLink RX2 15 "PartGraphs$Reader" "numbers" "[I") (by decide +kernel)) (fun _ h9 => h9) rfl dX2_canGoOn_28 ?_
    refine lv_iconst (v := 2) hx hb dX2_canGoOn_31 (by decide) ?_
    have hin := h.1
    have h := h.2
    refine va_iald (D := D) (cl := vwCl) hx hb hK hP 2 0 rfl rfl hin dX2_canGoOn_32 ?_
    have hFc := va_free (wc := (sh_P cs adP kdP grP cvP brP hzP fmP dmP e1P e2P fkP pnP fnP)) hD hS hA [3, 4, 5, 6, 7, 8, 9, 10, 11, 12, 13] rfl
    refine va_calli (va_runV (As := [.ref (ev 0 k), .int (nuR (0 : Int32).toNatClampNeg), .int (nuR (1 : Int32).toNatClampNeg), .int (nuR (2 : Int32).toNatClampNeg)]) (rest := []) ⟨hx, hb, hml, hown, hts⟩ (met_X1_allows l D cs ev _ adP kdP grP cvP brP hzP fmP dmP e1P e2P fkP pnP fnP k (nuR (0 : Int32).toNatClampNeg) (nuR (1 : Int32).toNatClampNeg) (nuR (2 : Int32).toNatClampNeg) _ h) (cwV 4 hts gX2_canGoOn_X1_allows rfl rfl rfl (by decide +kernel) ⟨Nat.le_of_ble_eq_true rfl, Nat.le_of_ble_eq_true rfl⟩) (mPreV (va_recv hK hP (ci := 1) (q0 := 3) rfl rfl) hP hD hS hK hE hFc [3, 4, 5, 6, 7, 8, 9, 10, 11, 12, 13] (by decide) rfl) rfl rfl hl.1 rfl (lv_room (Nat.le_of_ble_eq_true rfl)) dX2_canGoOn_33 ⟨Nat.le_of_ble_eq_true rfl, Nat.le_of_ble_eq_true rfl⟩) hS (fun q _ h => hFc q h) hFc (fun r_2 u t H1 locs ht hvm hw hB hz1 hk1 hS => ?_)
    have h := hw
    obtain ⟨hP1, hK1, hD1⟩ := hB
    rw [ht] at hP1
    obtain ⟨hP, hD⟩ := mJoin (wr := (sh_R cs adR txR nuR lnR bgR enR)) (w1 := (sh_P cs adP kdP grP cvP brP hzP fmP dmP e1P e2P fkP pnP fnP)) (w' := (sh_R cs adR txR nuR lnR bgR enR ++ sh_P cs adP kdP grP cvP brP hzP fmP dmP e1P e2P fkP pnP fnP)) hP hD [3, 4, 5, 6, 7, 8, 9, 10, 11, 12, 13] [0, 1, 2] rfl rfl (by decide) (by decide) hk1 hFc hP1 hD1 [0, 1, 2, 3, 4, 5, 6, 7, 8, 9, 10, 11, 12, 13] (by decide) rfl
    generalize H1 = H at hP hS ⊢
    have hn := h.1
    have h := h.2
    exact W.zret (v := r_2) hx hb hr hn (fun t ht hW => ⟨⟨r_2, nuR, rfl, h, by rw [ht]; exact hP, va_K.moved hW.alike hK, hD⟩, hS.F ht⟩) hS.2.2 dX2_canGoOn_36
  · have h := h.2 c_1
    refine lv_iload_n hx hb dX2_canGoOn_8 rfl (lv_at hl 3 rfl) ?_
    refine lv_iconst (v := 3) hx hb dX2_canGoOn_9 (by decide) ?_
    refine lv_icmp_lt (tgt := 37) hx hb dX2_canGoOn_10 (by decide) (fun c_3 => ?_) (fun c_3 => ?_)
    · have h := h.1 c_3
      refine lv_iconst (v := 0) hx hb dX2_canGoOn_37 (by decide) ?_
      refine lv_istore (lv' := [(4, .int 0), (0, .ref (adR 0)), (1, .ref (adP 0)), (2, .ref (ev 0 k)), (3, .int p3)]) hx hb dX2_canGoOn_38 hl (by decide) rfl (fun ls hl => ?_)
      rw [hA40] at h
      exact h _ _ hP hD hS ls (lv_sub hl [1, 2, 3, 4, 0] rfl)
    · have h := h.2 c_3
      refine lv_aload_n hx hb dX2_canGoOn_13 rfl (lv_at hl 1 rfl) ?_
      refine lv_aload_n hx hb dX2_canGoOn_14 rfl (lv_at hl 2 rfl) ?_
      refine lv_aload_n hx hb dX2_canGoOn_15 rfl (lv_at hl 0 rfl) ?_
      refine va_get (D := D) (ci := 2) (v := .ref (adR 2)) (C := RX2) (T := TX2) (N := 5) hx hb hts (by decide +kernel) hown hK hP 0 rfl rfl 1 (by decide) (hts (.fieldLink RX2 15 "PartGraphs$Reader" "numbers" "[I") (by decide +kernel)) (fun _ h9 => h9) rfl dX2_canGoOn_16 ?_
      refine lv_iconst (v := 0) hx hb dX2_canGoOn_19 (by decide) ?_
      have hin := h.1
      have h := h.2
      refine va_iald (D := D) (cl := vwCl) hx hb hK hP 2 0 rfl rfl hin dX2_canGoOn_20 ?_
      refine lv_aload_n hx hb dX2_canGoOn_21 rfl (lv_at hl 0 rfl) ?_
      refine va_get (D := D) (ci := 2) (v := .ref (adR 2)) (C := RX2) (T := TX2) (N := 5) hx hb hts (by decide +kernel) hown hK hP 0 rfl rfl 1 (by decide) (hts (.fieldLink RX2 15 "PartGraphs$Reader" "numbers" "[I") (by decide +kernel)) (fun _ h9 => h9) rfl dX2_canGoOn_22 ?_
      refine lv_iconst (v := 1) hx hb dX2_canGoOn_25 (by decide) ?_
      have hin := h.1
      have h := h.2
      refine va_iald (D := D) (cl := vwCl) hx hb hK hP 2 0 rfl rfl hin dX2_canGoOn_26 ?_
      refine lv_aload_n hx hb dX2_canGoOn_27 rfl (lv_at hl 0 rfl) ?_
      refine va_get (D := D) (ci := 2) (v := .ref (adR 2)) (C := RX2) (T := TX2) (N := 5) hx hb hts (by decide +kernel) hown hK hP 0 rfl rfl 1 (by decide) (hts (.fieldLink RX2 15 "PartGraphs$Reader" "numbers" "[I") (by decide +kernel)) (fun _ h9 => h9) rfl dX2_canGoOn_28 ?_
      refine lv_iconst (v := 2) hx hb dX2_canGoOn_31 (by decide) ?_
      have hin := h.1
      have h := h.2
      refine va_iald (D := D) (cl := vwCl) hx hb hK hP 2 0 rfl rfl hin dX2_canGoOn_32 ?_
      have hFc := va_free (wc := (sh_P cs adP kdP grP cvP brP hzP fmP dmP e1P e2P fkP pnP fnP)) hD hS hA [3, 4, 5, 6, 7, 8, 9, 10, 11, 12, 13] rfl
      refine va_calli (va_runV (As := [.ref (ev 0 k), .int (nuR (0 : Int32).toNatClampNeg), .int (nuR (1 : Int32).toNatClampNeg), .int (nuR (2 : Int32).toNatClampNeg)]) (rest := []) ⟨hx, hb, hml, hown, hts⟩ (met_X1_allows l D cs ev _ adP kdP grP cvP brP hzP fmP dmP e1P e2P fkP pnP fnP k (nuR (0 : Int32).toNatClampNeg) (nuR (1 : Int32).toNatClampNeg) (nuR (2 : Int32).toNatClampNeg) _ h) (cwV 4 hts gX2_canGoOn_X1_allows rfl rfl rfl (by decide +kernel) ⟨Nat.le_of_ble_eq_true rfl, Nat.le_of_ble_eq_true rfl⟩) (mPreV (va_recv hK hP (ci := 1) (q0 := 3) rfl rfl) hP hD hS hK hE hFc [3, 4, 5, 6, 7, 8, 9, 10, 11, 12, 13] (by decide) rfl) rfl rfl hl.1 rfl (lv_room (Nat.le_of_ble_eq_true rfl)) dX2_canGoOn_33 ⟨Nat.le_of_ble_eq_true rfl, Nat.le_of_ble_eq_true rfl⟩) hS (fun q _ h => hFc q h) hFc (fun r_4 u t H1 locs ht hvm hw hB hz1 hk1 hS => ?_)
      have h := hw
      obtain ⟨hP1, hK1, hD1⟩ := hB
      rw [ht] at hP1
      obtain ⟨hP, hD⟩ := mJoin (wr := (sh_R cs adR txR nuR lnR bgR enR)) (w1 := (sh_P cs adP kdP grP cvP brP hzP fmP dmP e1P e2P fkP pnP fnP)) (w' := (sh_R cs adR txR nuR lnR bgR enR ++ sh_P cs adP kdP grP cvP brP hzP fmP dmP e1P e2P fkP pnP fnP)) hP hD [3, 4, 5, 6, 7, 8, 9, 10, 11, 12, 13] [0, 1, 2] rfl rfl (by decide) (by decide) hk1 hFc hP1 hD1 [0, 1, 2, 3, 4, 5, 6, 7, 8, 9, 10, 11, 12, 13] (by decide) rfl
      generalize H1 = H at hP hS ⊢
      have hn := h.1
      have h := h.2
      exact W.zret (v := r_4) hx hb hr hn (fun t ht hW => ⟨⟨r_4, nuR, rfl, h, by rw [ht]; exact hP, va_K.moved hW.alike hK, hD⟩, hS.F ht⟩) hS.2.2 dX2_canGoOn_36
def wp_X2_canGoOn_0 (nuR : Nat → Int32) (cvP : Nat → Int32) (brP : Nat → Int32) (hzP : Nat → Int32) (fmP : Nat → Int32) (pnP : Int32) (fnP : Int32) (k : Nat) (p3 : Int32) (post : Int32 → ((Nat → Int32)) → Prop) : Prop :=
    ∀ (A40 : Int32 → (Nat → Int32) → Prop),
    (∀ (v4 : Int32) (nuR : Nat → Int32), ((10 ≤ v4 → post 0 nuR) ∧ (¬ 10 ≤ v4 → (vp_in p3 3 ∧ wp_X2_canGoOn_1 (upd nuR p3.toNatClampNeg v4) cvP brP hzP fmP pnP fnP k (p3 + 1) (fun r_6 nu_7 => ((r_6 = 0 → A40 (v4 + 1) nu_7) ∧ (¬ r_6 = 0 → post 1 nu_7)))))) → A40 v4 nuR) →
    (k < 7 ∧ (((([2, 2, 3, 3, 2, 2, 2] : List Int32).getD k 0) ≤ p3 → (vp_in 0 3 ∧ (vp_in 1 3 ∧ (vp_in 2 3 ∧ wp_X1_allows cvP brP hzP fmP pnP fnP k (nuR (0 : Int32).toNatClampNeg) (nuR (1 : Int32).toNatClampNeg) (nuR (2 : Int32).toNatClampNeg) (fun r_2 _ => (narrow .boolean (.int r_2) = .int r_2 ∧ post r_2 nuR)))))) ∧ (¬ (([2, 2, 3, 3, 2, 2, 2] : List Int32).getD k 0) ≤ p3 → ((p3 < 3 → A40 0 nuR) ∧ (¬ p3 < 3 → (vp_in 0 3 ∧ (vp_in 1 3 ∧ (vp_in 2 3 ∧ wp_X1_allows cvP brP hzP fmP pnP fnP k (nuR (0 : Int32).toNatClampNeg) (nuR (1 : Int32).toNatClampNeg) (nuR (2 : Int32).toNatClampNeg) (fun r_4 _ => (narrow .boolean (.int r_4) = .int r_4 ∧ post r_4 nuR))))))))))
set_option maxHeartbeats 4000000 in
set_option maxRecDepth 100000 in
theorem met_X2_canGoOn_0 (l : Launch) (D : va_G) (cs : Nat → ClassId) (ev : Nat → Nat → Nat) (sz0 : Nat) (adR : Nat → Nat) (adP : Nat → Nat) (txR : Nat → Int32) (nuR : Nat → Int32) (lnR : Int32) (bgR : Int32) (enR : Int32) (kdP : Nat → Int32) (grP : Nat → Int64) (cvP : Nat → Int32) (brP : Nat → Int32) (hzP : Nat → Int32) (fmP : Nat → Int32) (dmP : Nat → Int32) (e1P : Nat → Int32) (e2P : Nat → Int32) (fkP : Nat → Int32) (pnP : Int32) (fnP : Int32) (k : Nat) (p3 : Int32) (post : Int32 → ((Nat → Int32)) → Prop) (h : wp_X2_canGoOn_0 nuR cvP brP hzP fmP pnP fnP k p3 post) : Met l yX2_canGoOn wsX2_canGoOn ({ frames := 6, cells := 0, slots := 0, locals := 141 }) (va_Pc [.ref (adR 0), .ref (adP 0), .ref (ev 0 k), .int p3] (mPre D cs ev (sh_R cs adR txR nuR lnR bgR enR ++ sh_P cs adP kdP grP cvP brP hzP fmP dmP e1P e2P fkP pnP fnP) sz0)) (va_Qi post (fun nuR' t => mAt D cs (va_A (sh_R cs adR txR nuR lnR bgR enR ++ sh_P cs adP kdP grP cvP brP hzP fmP dmP e1P e2P fkP pnP fnP) sz0) (sh_R cs adR txR nuR' lnR bgR enR ++ sh_P cs adP kdP grP cvP brP hzP fmP dmP e1P e2P fkP pnP fnP) t) (va_A (sh_R cs adR txR nuR lnR bgR enR ++ sh_P cs adP kdP grP cvP brP hzP fmP dmP e1P e2P fkP pnP fnP) sz0)) 0 0 (va_A (sh_R cs adR txR nuR lnR bgR enR ++ sh_P cs adP kdP grP cvP brP hzP fmP dmP e1P e2P fkP pnP fnP) sz0) := by
  refine Met.ofW (cc := cX2_canGoOn) (maxL := 5) (ret := (some .boolean)) (by decide) rfl ?_
  intro p e s m args below meth c s₁ B hml hv
  obtain ⟨rfl, hsz, hP, hK, hD0, hE⟩ := hv
  have hx := B.exec
  have hb := B.bytes
  have hr := B.returns
  have hts := atoms_spec (ws := wsX2_canGoOn) B.pre
  have hown : s.vm.findClass RX2 = some m.cls := findClass_of_methodNamed B.named
  have hlocks := B.notSynchronized
  subst hsz
  have hD := hD0.self (sz := s.heap.size)
  generalize hAe : va_A (sh_R cs adR txR nuR lnR bgR enR ++ sh_P cs adP kdP grP cvP brP hzP fmP dmP e1P e2P fkP pnP fnP) s.heap.size = A at hD hE ⊢
  have hA : ∀ q : Nat, s.heap.size ≤ q → A q := fun q h => by rw [← hAe]; exact Or.inr h
  have hS : va_S A s.heap s.heap [] := va_S.rf
  have hl := lv_entry ([.ref (adR 0), .ref (adP 0), .ref (ev 0 k), .int p3]) (n := 5) (Nat.le_of_ble_eq_true rfl)
  rw [lg_entry_eq]
  generalize (lg_sl ([.ref (adR 0), .ref (adP 0), .ref (ev 0 k), .int p3]) ++ List.replicate (5 - (lg_sl ([.ref (adR 0), .ref (adP 0), .ref (ev 0 k), .int p3])).length) Slot.unset).toArray = ls at hl ⊢
  have hl : lv_has ls 5 [(0, .ref (adR 0)), (1, .ref (adP 0)), (2, .ref (ev 0 k)), (3, .int p3)] := hl
  obtain ⟨A40, hA40⟩ : ∃ Q : Int32 → (Nat → Int32) → Prop, Q = (fun v4 nuR => ∀ (H : Heap) (locs : List Loc), va_P D vwCl (sh_R cs adR txR nuR lnR bgR enR ++ sh_P cs adP kdP grP cvP brP hzP fmP dmP e1P e2P fkP pnP fnP) H → va_D A (sh_R cs adR txR nuR lnR bgR enR ++ sh_P cs adP kdP grP cvP brP hzP fmP dmP e1P e2P fkP pnP fnP) → va_S A s.heap H locs → ∀ ls : Array Slot, lv_has ls 5 [(0, .ref (adR 0)), (1, .ref (adP 0)), (2, .ref (ev 0 k)), (3, .int p3), (4, .int v4)] → W p l e (headSpec wsX2_canGoOn ({ frames := 6, cells := 0, slots := 0, locals := 141 })).room s m ([.ref (adR 0), .ref (adP 0), .ref (ev 0 k), .int p3] : List Value).toArray below meth c H locs 0 0 (MQ below (va_Qi post (fun nuR' t => mAt D cs (A) (sh_R cs adR txR nuR' lnR bgR enR ++ sh_P cs adP kdP grP cvP brP hzP fmP dmP e1P e2P fkP pnP fnP) t) A) ([.ref (adR 0), .ref (adP 0), .ref (ev 0 k), .int p3] : List Value).toArray s 0 0 A) (F0 m 40 ls [])) := ⟨_, rfl⟩
  have s40 : ∀ (v4 : Int32) (nuR : Nat → Int32), ((10 ≤ v4 → post 0 nuR) ∧ (¬ 10 ≤ v4 → (vp_in p3 3 ∧ wp_X2_canGoOn_1 (upd nuR p3.toNatClampNeg v4) cvP brP hzP fmP pnP fnP k (p3 + 1) (fun r_6 nu_7 => ((r_6 = 0 → A40 (v4 + 1) nu_7) ∧ (¬ r_6 = 0 → post 1 nu_7)))))) → A40 v4 nuR := by
    intro v4 nuR h
    rw [hA40]
    intro H locs hP hD hS ls hl
    refine lv_iload hx hb dX2_canGoOn_40 (lv_at hl 4 rfl) ?_
    refine lv_bipush (v := 10) hx hb dX2_canGoOn_42 (by decide) ?_
    refine lv_icmp_ge (tgt := 75) hx hb dX2_canGoOn_44 (by decide) (fun c_5 => ?_) (fun c_5 => ?_)
    · have h := h.1 c_5
      refine lv_iconst (v := 0) hx hb dX2_canGoOn_75 (by decide) ?_
      exact W.zret (v := 0) hx hb hr (by decide) (fun t ht hW => ⟨⟨0, nuR, rfl, h, by rw [ht]; exact hP, va_K.moved hW.alike hK, hD⟩, hS.F ht⟩) hS.2.2 dX2_canGoOn_76
    · have h := h.2 c_5
      refine lv_aload_n hx hb dX2_canGoOn_47 rfl (lv_at hl 0 rfl) ?_
      refine va_get (D := D) (ci := 2) (v := .ref (adR 2)) (C := RX2) (T := TX2) (N := 5) hx hb hts (by decide +kernel) hown hK hP 0 rfl rfl 1 (by decide) (hts (.fieldLink RX2 15 "PartGraphs$Reader" "numbers" "[I") (by decide +kernel)) (fun _ h9 => h9) rfl dX2_canGoOn_48 ?_
      refine lv_iload_n hx hb dX2_canGoOn_51 rfl (lv_at hl 3 rfl) ?_
      refine lv_iload hx hb dX2_canGoOn_52 (lv_at hl 4 rfl) ?_
      have hin := h.1
      have h := h.2
      refine va_iast (D := D) (cl := vwCl) hx hb hK hP hD hS 2 0 rfl rfl hin dX2_canGoOn_54 (fun H locs hP hD hS => ?_)
      have hP : va_P D vwCl (sh_R cs adR txR (upd nuR p3.toNatClampNeg v4) lnR bgR enR ++ sh_P cs adP kdP grP cvP brP hzP fmP dmP e1P e2P fkP pnP fnP) H := hP
      have hD : va_D A (sh_R cs adR txR (upd nuR p3.toNatClampNeg v4) lnR bgR enR ++ sh_P cs adP kdP grP cvP brP hzP fmP dmP e1P e2P fkP pnP fnP) := hD
      refine lv_aload_n hx hb dX2_canGoOn_55 rfl (lv_at hl 0 rfl) ?_
      refine lv_aload_n hx hb dX2_canGoOn_56 rfl (lv_at hl 1 rfl) ?_
      refine lv_aload_n hx hb dX2_canGoOn_57 rfl (lv_at hl 2 rfl) ?_
      refine lv_iload_n hx hb dX2_canGoOn_58 rfl (lv_at hl 3 rfl) ?_
      refine lv_iconst (v := 1) hx hb dX2_canGoOn_59 (by decide) ?_
      refine lv_iadd hx hb dX2_canGoOn_60 ?_
      have hFc := va_free (wc := (sh_R cs adR txR (upd nuR p3.toNatClampNeg v4) lnR bgR enR ++ sh_P cs adP kdP grP cvP brP hzP fmP dmP e1P e2P fkP pnP fnP)) hD hS hA [0, 1, 2, 3, 4, 5, 6, 7, 8, 9, 10, 11, 12, 13] rfl
      refine va_calli (va_runV (As := [.ref (adP 0), .ref (ev 0 k), .int (p3 + 1)]) (rest := []) ⟨hx, hb, hml, hown, hts⟩ (met_X2_canGoOn_1 l D cs ev _ adR adP txR (upd nuR p3.toNatClampNeg v4) lnR bgR enR kdP grP cvP brP hzP fmP dmP e1P e2P fkP pnP fnP k (p3 + 1) _ h) (cwV 3 hts gX2_canGoOn_X2_canGoOn rfl rfl rfl (by decide +kernel) ⟨Nat.le_of_ble_eq_true rfl, Nat.le_of_ble_eq_true rfl⟩) (mPreV (va_recv hK hP (ci := 2) (q0 := 0) rfl rfl) hP hD hS hK hE hFc [0, 1, 2, 3, 4, 5, 6, 7, 8, 9, 10, 11, 12, 13] (by decide) rfl) rfl rfl hl.1 rfl (lv_room (Nat.le_of_ble_eq_true rfl)) dX2_canGoOn_61 ⟨Nat.le_of_ble_eq_true rfl, Nat.le_of_ble_eq_true rfl⟩) hS (fun q _ h => hFc q h) hFc (fun r_6 u t H1 locs ht hvm hw hB hz1 hk1 hS => ?_)
      obtain ⟨nu_7, rfl⟩ : ∃ z, z = u := ⟨_, rfl⟩
      have h := hw
      obtain ⟨hP1, hK1, hD1⟩ := hB
      rw [ht] at hP1
      obtain ⟨hP, hD⟩ := mJoin (wr := ([] : va_W)) (w1 := (sh_R cs adR txR nu_7 lnR bgR enR ++ sh_P cs adP kdP grP cvP brP hzP fmP dmP e1P e2P fkP pnP fnP)) (w' := (sh_R cs adR txR nu_7 lnR bgR enR ++ sh_P cs adP kdP grP cvP brP hzP fmP dmP e1P e2P fkP pnP fnP)) hP hD [0, 1, 2, 3, 4, 5, 6, 7, 8, 9, 10, 11, 12, 13] [] rfl rfl (by decide) (by decide) hk1 hFc hP1 hD1 [0, 1, 2, 3, 4, 5, 6, 7, 8, 9, 10, 11, 12, 13] (by decide) rfl
      generalize H1 = H at hP hS ⊢
      refine lv_if_eq (tgt := 69) hx hb dX2_canGoOn_64 (by decide) (fun c_8 => ?_) (fun c_8 => ?_)
      · have h := h.1 c_8
        refine lv_iinc (v := v4 + 1) (lv' := [(4, .int (v4 + 1)), (0, .ref (adR 0)), (1, .ref (adP 0)), (2, .ref (ev 0 k)), (3, .int p3)]) hx hb dX2_canGoOn_69 hl (k := 4) rfl rfl (by decide) rfl (fun ls hl => ?_)
        refine lv_goto (tgt := 40) hx hb dX2_canGoOn_72 (by decide) ?_
        rw [hA40] at h
        exact h _ _ hP hD hS ls (lv_sub hl [1, 2, 3, 4, 0] rfl)
      · have h := h.2 c_8
        refine lv_iconst (v := 1) hx hb dX2_canGoOn_67 (by decide) ?_
        exact W.zret (v := 1) hx hb hr (by decide) (fun t ht hW => ⟨⟨1, nu_7, rfl, h, by rw [ht]; exact hP, va_K.moved hW.alike hK, hD⟩, hS.F ht⟩) hS.2.2 dX2_canGoOn_68
  have h := h A40 s40
  refine lv_iload_n hx hb dX2_canGoOn_0 rfl (lv_at hl 3 rfl) ?_
  refine lv_aload_n hx hb dX2_canGoOn_1 rfl (lv_at hl 2 rfl) ?_
  have hk := h.1
  have h := h.2
  refine va_getE (i := k) hx hb hE.2.2.1 hk hS hown (q := ("PartGraphs$Verb", "numbers", "I", [2, 2, 3, 3, 2, 2, 2])) (by decide) (hts (.fieldLink RX2 45 "PartGraphs$Verb" "numbers" "I") (by decide +kernel)) (fun _ h9 => h9) dX2_canGoOn_2 ?_
  refine lv_icmp_ge (tgt := 13) hx hb dX2_canGoOn_5 (by decide) (fun c_1 => ?_) (fun c_1 => ?_)
  · have h := h.1 c_1
    refine lv_aload_n hx hb dX2_canGoOn_13 rfl (lv_at hl 1 rfl) ?_
    refine lv_aload_n hx hb dX2_canGoOn_14 rfl (lv_at hl 2 rfl) ?_
    refine lv_aload_n hx hb dX2_canGoOn_15 rfl (lv_at hl 0 rfl) ?_
    refine va_get (D := D) (ci := 2) (v := .ref (adR 2)) (C := RX2) (T := TX2) (N := 5) hx hb hts (by decide +kernel) hown hK hP 0 rfl rfl 1 (by decide) (hts (.fieldLink RX2 15 "PartGraphs$Reader" "numbers" "[I") (by decide +kernel)) (fun _ h9 => h9) rfl dX2_canGoOn_16 ?_
    refine lv_iconst (v := 0) hx hb dX2_canGoOn_19 (by decide) ?_
    have hin := h.1
    have h := h.2
    refine va_iald (D := D) (cl := vwCl) hx hb hK hP 2 0 rfl rfl hin dX2_canGoOn_20 ?_
    refine lv_aload_n hx hb dX2_canGoOn_21 rfl (lv_at hl 0 rfl) ?_
    refine va_get (D := D) (ci := 2) (v := .ref (adR 2)) (C := RX2) (T := TX2) (N := 5) hx hb hts (by decide +kernel) hown hK hP 0 rfl rfl 1 (by decide) (hts (.fieldLink RX2 15 "PartGraphs$Reader" "numbers" "[I") (by decide +kernel)) (fun _ h9 => h9) rfl dX2_canGoOn_22 ?_
    refine lv_iconst (v := 1) hx hb dX2_canGoOn_25 (by decide) ?_
    have hin := h.1
    have h := h.2
    refine va_iald (D := D) (cl := vwCl) hx hb hK hP 2 0 rfl rfl hin dX2_canGoOn_26 ?_
    refine lv_aload_n hx hb dX2_canGoOn_27 rfl (lv_at hl 0 rfl) ?_
    refine va_get (D := D) (ci := 2) (v := .ref (adR 2)) (C := RX2) (T := TX2) (N := 5) hx hb hts (by decide +kernel) hown hK hP 0 rfl rfl 1 (by decide) (hts (.fieldLink RX2 15 "PartGraphs$Reader" "numbers" "[I") (by decide +kernel)) (fun _ h9 => h9) rfl dX2_canGoOn_28 ?_
    refine lv_iconst (v := 2) hx hb dX2_canGoOn_31 (by decide) ?_
    have hin := h.1
    have h := h.2
    refine va_iald (D := D) (cl := vwCl) hx hb hK hP 2 0 rfl rfl hin dX2_canGoOn_32 ?_
    have hFc := va_free (wc := (sh_P cs adP kdP grP cvP brP hzP fmP dmP e1P e2P fkP pnP fnP)) hD hS hA [3, 4, 5, 6, 7, 8, 9, 10, 11, 12, 13] rfl
    refine va_calli (va_runV (As := [.ref (ev 0 k), .int (nuR (0 : Int32).toNatClampNeg), .int (nuR (1 : Int32).toNatClampNeg), .int (nuR (2 : Int32).toNatClampNeg)]) (rest := []) ⟨hx, hb, hml, hown, hts⟩ (met_X1_allows l D cs ev _ adP kdP grP cvP brP hzP fmP dmP e1P e2P fkP pnP fnP k (nuR (0 : Int32).toNatClampNeg) (nuR (1 : Int32).toNatClampNeg) (nuR (2 : Int32).toNatClampNeg) _ h) (cwV 4 hts gX2_canGoOn_X1_allows rfl rfl rfl (by decide +kernel) ⟨Nat.le_of_ble_eq_true rfl, Nat.le_of_ble_eq_true rfl⟩) (mPreV (va_recv hK hP (ci := 1) (q0 := 3) rfl rfl) hP hD hS hK hE hFc [3, 4, 5, 6, 7, 8, 9, 10, 11, 12, 13] (by decide) rfl) rfl rfl hl.1 rfl (lv_room (Nat.le_of_ble_eq_true rfl)) dX2_canGoOn_33 ⟨Nat.le_of_ble_eq_true rfl, Nat.le_of_ble_eq_true rfl⟩) hS (fun q _ h => hFc q h) hFc (fun r_2 u t H1 locs ht hvm hw hB hz1 hk1 hS => ?_)
    have h := hw
    obtain ⟨hP1, hK1, hD1⟩ := hB
    rw [ht] at hP1
    obtain ⟨hP, hD⟩ := mJoin (wr := (sh_R cs adR txR nuR lnR bgR enR)) (w1 := (sh_P cs adP kdP grP cvP brP hzP fmP dmP e1P e2P fkP pnP fnP)) (w' := (sh_R cs adR txR nuR lnR bgR enR ++ sh_P cs adP kdP grP cvP brP hzP fmP dmP e1P e2P fkP pnP fnP)) hP hD [3, 4, 5, 6, 7, 8, 9, 10, 11, 12, 13] [0, 1, 2] rfl rfl (by decide) (by decide) hk1 hFc hP1 hD1 [0, 1, 2, 3, 4, 5, 6, 7, 8, 9, 10, 11, 12, 13] (by decide) rfl
    generalize H1 = H at hP hS ⊢
    have hn := h.1
    have h := h.2
    exact W.zret (v := r_2) hx hb hr hn (fun t ht hW => ⟨⟨r_2, nuR, rfl, h, by rw [ht]; exact hP, va_K.moved hW.alike hK, hD⟩, hS.F ht⟩) hS.2.2 dX2_canGoOn_36
  · have h := h.2 c_1
    refine lv_iload_n hx hb dX2_canGoOn_8 rfl (lv_at hl 3 rfl) ?_
    refine lv_iconst (v := 3) hx hb dX2_canGoOn_9 (by decide) ?_
    refine lv_icmp_lt (tgt := 37) hx hb dX2_canGoOn_10 (by decide) (fun c_3 => ?_) (fun c_3 => ?_)
    · have h := h.1 c_3
      refine lv_iconst (v := 0) hx hb dX2_canGoOn_37 (by decide) ?_
      refine lv_istore (lv' := [(4, .int 0), (0, .ref (adR 0)), (1, .ref (adP 0)), (2, .ref (ev 0 k)), (3, .int p3)]) hx hb dX2_canGoOn_38 hl (by decide) rfl (fun ls hl => ?_)
      rw [hA40] at h
      exact h _ _ hP hD hS ls (lv_sub hl [1, 2, 3, 4, 0] rfl)
    · have h := h.2 c_3
      refine lv_aload_n hx hb dX2_canGoOn_13 rfl (lv_at hl 1 rfl) ?_
      refine lv_aload_n hx hb dX2_canGoOn_14 rfl (lv_at hl 2 rfl) ?_
      refine lv_aload_n hx hb dX2_canGoOn_15 rfl (lv_at hl 0 rfl) ?_
      refine va_get (D := D) (ci := 2) (v := .ref (adR 2)) (C := RX2) (T := TX2) (N := 5) hx hb hts (by decide +kernel) hown hK hP 0 rfl rfl 1 (by decide) (hts (.fieldLink RX2 15 "PartGraphs$Reader" "numbers" "[I") (by decide +kernel)) (fun _ h9 => h9) rfl dX2_canGoOn_16 ?_
      refine lv_iconst (v := 0) hx hb dX2_canGoOn_19 (by decide) ?_
      have hin := h.1
      have h := h.2
      refine va_iald (D := D) (cl := vwCl) hx hb hK hP 2 0 rfl rfl hin dX2_canGoOn_20 ?_
      refine lv_aload_n hx hb dX2_canGoOn_21 rfl (lv_at hl 0 rfl) ?_
      refine va_get (D := D) (ci := 2) (v := .ref (adR 2)) (C := RX2) (T := TX2) (N := 5) hx hb hts (by decide +kernel) hown hK hP 0 rfl rfl 1 (by decide) (hts (.fieldLink RX2 15 "PartGraphs$Reader" "numbers" "[I") (by decide +kernel)) (fun _ h9 => h9) rfl dX2_canGoOn_22 ?_
      refine lv_iconst (v := 1) hx hb dX2_canGoOn_25 (by decide) ?_
      have hin := h.1
      have h := h.2
      refine va_iald (D := D) (cl := vwCl) hx hb hK hP 2 0 rfl rfl hin dX2_canGoOn_26 ?_
      refine lv_aload_n hx hb dX2_canGoOn_27 rfl (lv_at hl 0 rfl) ?_
      refine va_get (D := D) (ci := 2) (v := .ref (adR 2)) (C := RX2) (T := TX2) (N := 5) hx hb hts (by decide +kernel) hown hK hP 0 rfl rfl 1 (by decide) (hts (.fieldLink RX2 15 "PartGraphs$Reader" "numbers" "[I") (by decide +kernel)) (fun _ h9 => h9) rfl dX2_canGoOn_28 ?_
      refine lv_iconst (v := 2) hx hb dX2_canGoOn_31 (by decide) ?_
      have hin := h.1
      have h := h.2
      refine va_iald (D := D) (cl := vwCl) hx hb hK hP 2 0 rfl rfl hin dX2_canGoOn_32 ?_
      have hFc := va_free (wc := (sh_P cs adP kdP grP cvP brP hzP fmP dmP e1P e2P fkP pnP fnP)) hD hS hA [3, 4, 5, 6, 7, 8, 9, 10, 11, 12, 13] rfl
      refine va_calli (va_runV (As := [.ref (ev 0 k), .int (nuR (0 : Int32).toNatClampNeg), .int (nuR (1 : Int32).toNatClampNeg), .int (nuR (2 : Int32).toNatClampNeg)]) (rest := []) ⟨hx, hb, hml, hown, hts⟩ (met_X1_allows l D cs ev _ adP kdP grP cvP brP hzP fmP dmP e1P e2P fkP pnP fnP k (nuR (0 : Int32).toNatClampNeg) (nuR (1 : Int32).toNatClampNeg) (nuR (2 : Int32).toNatClampNeg) _ h) (cwV 4 hts gX2_canGoOn_X1_allows rfl rfl rfl (by decide +kernel) ⟨Nat.le_of_ble_eq_true rfl, Nat.le_of_ble_eq_true rfl⟩) (mPreV (va_recv hK hP (ci := 1) (q0 := 3) rfl rfl) hP hD hS hK hE hFc [3, 4, 5, 6, 7, 8, 9, 10, 11, 12, 13] (by decide) rfl) rfl rfl hl.1 rfl (lv_room (Nat.le_of_ble_eq_true rfl)) dX2_canGoOn_33 ⟨Nat.le_of_ble_eq_true rfl, Nat.le_of_ble_eq_true rfl⟩) hS (fun q _ h => hFc q h) hFc (fun r_4 u t H1 locs ht hvm hw hB hz1 hk1 hS => ?_)
      have h := hw
      obtain ⟨hP1, hK1, hD1⟩ := hB
      rw [ht] at hP1
      obtain ⟨hP, hD⟩ := mJoin (wr := (sh_R cs adR txR nuR lnR bgR enR)) (w1 := (sh_P cs adP kdP grP cvP brP hzP fmP dmP e1P e2P fkP pnP fnP)) (w' := (sh_R cs adR txR nuR lnR bgR enR ++ sh_P cs adP kdP grP cvP brP hzP fmP dmP e1P e2P fkP pnP fnP)) hP hD [3, 4, 5, 6, 7, 8, 9, 10, 11, 12, 13] [0, 1, 2] rfl rfl (by decide) (by decide) hk1 hFc hP1 hD1 [0, 1, 2, 3, 4, 5, 6, 7, 8, 9, 10, 11, 12, 13] (by decide) rfl
      generalize H1 = H at hP hS ⊢
      have hn := h.1
      have h := h.2
      exact W.zret (v := r_4) hx hb hr hn (fun t ht hW => ⟨⟨r_4, nuR, rfl, h, by rw [ht]; exact hP, va_K.moved hW.alike hK, hD⟩, hS.F ht⟩) hS.2.2 dX2_canGoOn_36
def wp_X2_readSentence (txR : Nat → Int32) (nuR : Nat → Int32) (lnR : Int32) (bgR : Int32) (enR : Int32) (kdP : Nat → Int32) (grP : Nat → Int64) (cvP : Nat → Int32) (brP : Nat → Int32) (hzP : Nat → Int32) (fmP : Nat → Int32) (dmP : Nat → Int32) (e1P : Nat → Int32) (e2P : Nat → Int32) (fkP : Nat → Int32) (pnP : Int32) (fnP : Int32) (post : Int32 → ((Nat → Int32) × Int32 × Int32 × (Nat → Int32) × (Nat → Int64) × (Nat → Int32) × (Nat → Int32) × (Nat → Int32) × (Nat → Int32) × (Nat → Int32) × (Nat → Int32) × (Nat → Int32) × (Nat → Int32) × Int32 × Int32) → Prop) : Prop :=
    ∀ (A23 : Nat → Int32 → (Nat → Int32) → Int32 → Int32 → (Nat → Int32) → (Nat → Int64) → (Nat → Int32) → (Nat → Int32) → (Nat → Int32) → (Nat → Int32) → (Nat → Int32) → (Nat → Int32) → (Nat → Int32) → (Nat → Int32) → Int32 → Int32 → Prop),
    (∀ (v2 : Nat) (v3 : Int32) (nuR : Nat → Int32) (bgR : Int32) (enR : Int32) (kdP : Nat → Int32) (grP : Nat → Int64) (cvP : Nat → Int32) (brP : Nat → Int32) (hzP : Nat → Int32) (fmP : Nat → Int32) (dmP : Nat → Int32) (e1P : Nat → Int32) (e2P : Nat → Int32) (fkP : Nat → Int32) (pnP : Int32) (fnP : Int32), (v2 < 7 ∧ (((([2, 2, 3, 3, 2, 2, 2] : List Int32).getD v2 0) ≤ v3 → (vp_in 0 3 ∧ (vp_in 1 3 ∧ (vp_in 2 3 ∧ wp_X1_carryOut kdP grP cvP brP hzP fmP dmP e1P e2P fkP pnP fnP v2 (nuR (0 : Int32).toNatClampNeg) (nuR (1 : Int32).toNatClampNeg) (nuR (2 : Int32).toNatClampNeg) (fun u => match u with | (kd_8, gr_9, cv_10, br_11, hz_12, fm_13, dm_14, e1_15, e2_16, fk_17, pn_18, fn_19) => post 1 (nuR, bgR, enR, kd_8, gr_9, cv_10, br_11, hz_12, fm_13, dm_14, e1_15, e2_16, fk_17, pn_18, fn_19)))))) ∧ (¬ (([2, 2, 3, 3, 2, 2, 2] : List Int32).getD v2 0) ≤ v3 → ((3 ≤ v3 → (vp_in 0 3 ∧ (vp_in 1 3 ∧ (vp_in 2 3 ∧ wp_X1_carryOut kdP grP cvP brP hzP fmP dmP e1P e2P fkP pnP fnP v2 (nuR (0 : Int32).toNatClampNeg) (nuR (1 : Int32).toNatClampNeg) (nuR (2 : Int32).toNatClampNeg) (fun u => match u with | (kd_22, gr_23, cv_24, br_25, hz_26, fm_27, dm_28, e1_29, e2_30, fk_31, pn_32, fn_33) => post 1 (nuR, bgR, enR, kd_22, gr_23, cv_24, br_25, hz_26, fm_27, dm_28, e1_29, e2_30, fk_31, pn_32, fn_33)))))) ∧ (¬ 3 ≤ v3 → wp_X2_findWord txR lnR bgR enR (fun r_34 u => match u with | (bg_35, en_36) => ((r_34 = 0 → post 0 (nuR, bg_35, en_36, kdP, grP, cvP, brP, hzP, fmP, dmP, e1P, e2P, fkP, pnP, fnP)) ∧ (¬ r_34 = 0 → wp_X2_numberHere txR bg_35 en_36 (fun r_38 _ => ((r_38 = (-1) → post 0 (nuR, bg_35, en_36, kdP, grP, cvP, brP, hzP, fmP, dmP, e1P, e2P, fkP, pnP, fnP)) ∧ (¬ r_38 = (-1) → (vp_in v3 3 ∧ wp_X2_canGoOn_0 (upd nuR v3.toNatClampNeg r_38) cvP brP hzP fmP pnP fnP v2 (v3 + 1) (fun r_40 nu_41 => ((r_40 = 0 → post 0 (nu_41, bg_35, en_36, kdP, grP, cvP, brP, hzP, fmP, dmP, e1P, e2P, fkP, pnP, fnP)) ∧ (¬ r_40 = 0 → A23 v2 (v3 + 1) nu_41 bg_35 en_36 kdP grP cvP brP hzP fmP dmP e1P e2P fkP pnP fnP))))))))))))))) → A23 v2 v3 nuR bgR enR kdP grP cvP brP hzP fmP dmP e1P e2P fkP pnP fnP) →
    wp_X2_verbHere txR bgR enR (fun r_1 _ => ((r_1 = none → post 0 (nuR, bgR, enR, kdP, grP, cvP, brP, hzP, fmP, dmP, e1P, e2P, fkP, pnP, fnP)) ∧ (∀ k_2 : Nat, r_1 = some k_2 → wp_X2_canGoOn_0 nuR cvP brP hzP fmP pnP fnP k_2 0 (fun r_3 nu_4 => ((r_3 = 0 → post 0 (nu_4, bgR, enR, kdP, grP, cvP, brP, hzP, fmP, dmP, e1P, e2P, fkP, pnP, fnP)) ∧ (¬ r_3 = 0 → A23 k_2 0 nu_4 bgR enR kdP grP cvP brP hzP fmP dmP e1P e2P fkP pnP fnP))))))
set_option maxHeartbeats 4000000 in
set_option maxRecDepth 100000 in
theorem met_X2_readSentence (l : Launch) (D : va_G) (cs : Nat → ClassId) (ev : Nat → Nat → Nat) (sz0 : Nat) (adR : Nat → Nat) (adP : Nat → Nat) (txR : Nat → Int32) (nuR : Nat → Int32) (lnR : Int32) (bgR : Int32) (enR : Int32) (kdP : Nat → Int32) (grP : Nat → Int64) (cvP : Nat → Int32) (brP : Nat → Int32) (hzP : Nat → Int32) (fmP : Nat → Int32) (dmP : Nat → Int32) (e1P : Nat → Int32) (e2P : Nat → Int32) (fkP : Nat → Int32) (pnP : Int32) (fnP : Int32) (post : Int32 → ((Nat → Int32) × Int32 × Int32 × (Nat → Int32) × (Nat → Int64) × (Nat → Int32) × (Nat → Int32) × (Nat → Int32) × (Nat → Int32) × (Nat → Int32) × (Nat → Int32) × (Nat → Int32) × (Nat → Int32) × Int32 × Int32) → Prop) (h : wp_X2_readSentence txR nuR lnR bgR enR kdP grP cvP brP hzP fmP dmP e1P e2P fkP pnP fnP post) : Met l yX2_readSentence wsX2_readSentence ({ frames := 7, cells := 0, slots := 0, locals := 165 }) (va_Pc [.ref (adR 0), .ref (adP 0)] (mPre D cs ev (sh_R cs adR txR nuR lnR bgR enR ++ sh_P cs adP kdP grP cvP brP hzP fmP dmP e1P e2P fkP pnP fnP) sz0)) (va_Qi post (fun u t => match u with | (nuR', bgR', enR', kdP', grP', cvP', brP', hzP', fmP', dmP', e1P', e2P', fkP', pnP', fnP') => mAt D cs (va_A (sh_R cs adR txR nuR lnR bgR enR ++ sh_P cs adP kdP grP cvP brP hzP fmP dmP e1P e2P fkP pnP fnP) sz0) (sh_R cs adR txR nuR' lnR bgR' enR' ++ sh_P cs adP kdP' grP' cvP' brP' hzP' fmP' dmP' e1P' e2P' fkP' pnP' fnP') t) (va_A (sh_R cs adR txR nuR lnR bgR enR ++ sh_P cs adP kdP grP cvP brP hzP fmP dmP e1P e2P fkP pnP fnP) sz0)) 0 0 (va_A (sh_R cs adR txR nuR lnR bgR enR ++ sh_P cs adP kdP grP cvP brP hzP fmP dmP e1P e2P fkP pnP fnP) sz0) := by
  refine Met.ofW (cc := cX2_readSentence) (maxL := 5) (ret := (some .boolean)) (by decide) rfl ?_
  intro p e s m args below meth c s₁ B hml hv
  obtain ⟨rfl, hsz, hP, hK, hD0, hE⟩ := hv
  have hx := B.exec
  have hb := B.bytes
  have hr := B.returns
  have hts := atoms_spec (ws := wsX2_readSentence) B.pre
  have hown : s.vm.findClass RX2 = some m.cls := findClass_of_methodNamed B.named
  have hlocks := B.notSynchronized
  subst hsz
  have hD := hD0.self (sz := s.heap.size)
  generalize hAe : va_A (sh_R cs adR txR nuR lnR bgR enR ++ sh_P cs adP kdP grP cvP brP hzP fmP dmP e1P e2P fkP pnP fnP) s.heap.size = A at hD hE ⊢
  have hA : ∀ q : Nat, s.heap.size ≤ q → A q := fun q h => by rw [← hAe]; exact Or.inr h
  have hS : va_S A s.heap s.heap [] := va_S.rf
  have hl := lv_entry ([.ref (adR 0), .ref (adP 0)]) (n := 5) (Nat.le_of_ble_eq_true rfl)
  rw [lg_entry_eq]
  generalize (lg_sl ([.ref (adR 0), .ref (adP 0)]) ++ List.replicate (5 - (lg_sl ([.ref (adR 0), .ref (adP 0)])).length) Slot.unset).toArray = ls at hl ⊢
  have hl : lv_has ls 5 [(0, .ref (adR 0)), (1, .ref (adP 0))] := hl
  obtain ⟨A23, hA23⟩ : ∃ Q : Nat → Int32 → (Nat → Int32) → Int32 → Int32 → (Nat → Int32) → (Nat → Int64) → (Nat → Int32) → (Nat → Int32) → (Nat → Int32) → (Nat → Int32) → (Nat → Int32) → (Nat → Int32) → (Nat → Int32) → (Nat → Int32) → Int32 → Int32 → Prop, Q = (fun v2 v3 nuR bgR enR kdP grP cvP brP hzP fmP dmP e1P e2P fkP pnP fnP => ∀ (H : Heap) (locs : List Loc), va_P D vwCl (sh_R cs adR txR nuR lnR bgR enR ++ sh_P cs adP kdP grP cvP brP hzP fmP dmP e1P e2P fkP pnP fnP) H → va_D A (sh_R cs adR txR nuR lnR bgR enR ++ sh_P cs adP kdP grP cvP brP hzP fmP dmP e1P e2P fkP pnP fnP) → va_S A s.heap H locs → ∀ ls : Array Slot, lv_has ls 5 [(0, .ref (adR 0)), (1, .ref (adP 0)), (2, .ref (ev 0 v2)), (3, .int v3)] → W p l e (headSpec wsX2_readSentence ({ frames := 7, cells := 0, slots := 0, locals := 165 })).room s m ([.ref (adR 0), .ref (adP 0)] : List Value).toArray below meth c H locs 0 0 (MQ below (va_Qi post (fun u t => match u with | (nuR', bgR', enR', kdP', grP', cvP', brP', hzP', fmP', dmP', e1P', e2P', fkP', pnP', fnP') => mAt D cs (A) (sh_R cs adR txR nuR' lnR bgR' enR' ++ sh_P cs adP kdP' grP' cvP' brP' hzP' fmP' dmP' e1P' e2P' fkP' pnP' fnP') t) A) ([.ref (adR 0), .ref (adP 0)] : List Value).toArray s 0 0 A) (F0 m 23 ls [])) := ⟨_, rfl⟩
  have s23 : ∀ (v2 : Nat) (v3 : Int32) (nuR : Nat → Int32) (bgR : Int32) (enR : Int32) (kdP : Nat → Int32) (grP : Nat → Int64) (cvP : Nat → Int32) (brP : Nat → Int32) (hzP : Nat → Int32) (fmP : Nat → Int32) (dmP : Nat → Int32) (e1P : Nat → Int32) (e2P : Nat → Int32) (fkP : Nat → Int32) (pnP : Int32) (fnP : Int32), (v2 < 7 ∧ (((([2, 2, 3, 3, 2, 2, 2] : List Int32).getD v2 0) ≤ v3 → (vp_in 0 3 ∧ (vp_in 1 3 ∧ (vp_in 2 3 ∧ wp_X1_carryOut kdP grP cvP brP hzP fmP dmP e1P e2P fkP pnP fnP v2 (nuR (0 : Int32).toNatClampNeg) (nuR (1 : Int32).toNatClampNeg) (nuR (2 : Int32).toNatClampNeg) (fun u => match u with | (kd_8, gr_9, cv_10, br_11, hz_12, fm_13, dm_14, e1_15, e2_16, fk_17, pn_18, fn_19) => post 1 (nuR, bgR, enR, kd_8, gr_9, cv_10, br_11, hz_12, fm_13, dm_14, e1_15, e2_16, fk_17, pn_18, fn_19)))))) ∧ (¬ (([2, 2, 3, 3, 2, 2, 2] : List Int32).getD v2 0) ≤ v3 → ((3 ≤ v3 → (vp_in 0 3 ∧ (vp_in 1 3 ∧ (vp_in 2 3 ∧ wp_X1_carryOut kdP grP cvP brP hzP fmP dmP e1P e2P fkP pnP fnP v2 (nuR (0 : Int32).toNatClampNeg) (nuR (1 : Int32).toNatClampNeg) (nuR (2 : Int32).toNatClampNeg) (fun u => match u with | (kd_22, gr_23, cv_24, br_25, hz_26, fm_27, dm_28, e1_29, e2_30, fk_31, pn_32, fn_33) => post 1 (nuR, bgR, enR, kd_22, gr_23, cv_24, br_25, hz_26, fm_27, dm_28, e1_29, e2_30, fk_31, pn_32, fn_33)))))) ∧ (¬ 3 ≤ v3 → wp_X2_findWord txR lnR bgR enR (fun r_34 u => match u with | (bg_35, en_36) => ((r_34 = 0 → post 0 (nuR, bg_35, en_36, kdP, grP, cvP, brP, hzP, fmP, dmP, e1P, e2P, fkP, pnP, fnP)) ∧ (¬ r_34 = 0 → wp_X2_numberHere txR bg_35 en_36 (fun r_38 _ => ((r_38 = (-1) → post 0 (nuR, bg_35, en_36, kdP, grP, cvP, brP, hzP, fmP, dmP, e1P, e2P, fkP, pnP, fnP)) ∧ (¬ r_38 = (-1) → (vp_in v3 3 ∧ wp_X2_canGoOn_0 (upd nuR v3.toNatClampNeg r_38) cvP brP hzP fmP pnP fnP v2 (v3 + 1) (fun r_40 nu_41 => ((r_40 = 0 → post 0 (nu_41, bg_35, en_36, kdP, grP, cvP, brP, hzP, fmP, dmP, e1P, e2P, fkP, pnP, fnP)) ∧ (¬ r_40 = 0 → A23 v2 (v3 + 1) nu_41 bg_35 en_36 kdP grP cvP brP hzP fmP dmP e1P e2P fkP pnP fnP))))))))))))))) → A23 v2 v3 nuR bgR enR kdP grP cvP brP hzP fmP dmP e1P e2P fkP pnP fnP := by
    intro v2 v3 nuR bgR enR kdP grP cvP brP hzP fmP dmP e1P e2P fkP pnP fnP h
    rw [hA23]
    intro H locs hP hD hS ls hl
    refine lv_iload_n hx hb dX2_readSentence_23 rfl (lv_at hl 3 rfl) ?_
    refine lv_aload_n hx hb dX2_readSentence_24 rfl (lv_at hl 2 rfl) ?_
    have hk := h.1
    have h := h.2
    refine va_getE (i := v2) hx hb hE.2.2.1 hk hS hown (q := ("PartGraphs$Verb", "numbers", "I", [2, 2, 3, 3, 2, 2, 2])) (by decide) (hts (.fieldLink RX2 45 "PartGraphs$Verb" "numbers" "I") (by decide +kernel)) (fun _ h9 => h9) dX2_readSentence_25 ?_
    refine lv_icmp_ge (tgt := 87) hx hb dX2_readSentence_28 (by decide) (fun c_6 => ?_) (fun c_6 => ?_)
    · have h := h.1 c_6
      refine lv_aload_n hx hb dX2_readSentence_87 rfl (lv_at hl 1 rfl) ?_
      refine lv_aload_n hx hb dX2_readSentence_88 rfl (lv_at hl 2 rfl) ?_
      refine lv_aload_n hx hb dX2_readSentence_89 rfl (lv_at hl 0 rfl) ?_
      refine va_get (D := D) (ci := 2) (v := .ref (adR 2)) (C := RX2) (T := TX2) (N := 5) hx hb hts (by decide +kernel) hown hK hP 0 rfl rfl 1 (by decide) (hts (.fieldLink RX2 15 "PartGraphs$Reader" "numbers" "[I") (by decide +kernel)) (fun _ h9 => h9) rfl dX2_readSentence_90 ?_
      refine lv_iconst (v := 0) hx hb dX2_readSentence_93 (by decide) ?_
      have hin := h.1
      have h := h.2
      refine va_iald (D := D) (cl := vwCl) hx hb hK hP 2 0 rfl rfl hin dX2_readSentence_94 ?_
      refine lv_aload_n hx hb dX2_readSentence_95 rfl (lv_at hl 0 rfl) ?_
      refine va_get (D := D) (ci := 2) (v := .ref (adR 2)) (C := RX2) (T := TX2) (N := 5) hx hb hts (by decide +kernel) hown hK hP 0 rfl rfl 1 (by decide) (hts (.fieldLink RX2 15 "PartGraphs$Reader" "numbers" "[I") (by decide +kernel)) (fun _ h9 => h9) rfl dX2_readSentence_96 ?_
      refine lv_iconst (v := 1) hx hb dX2_readSentence_99 (by decide) ?_
      have hin := h.1
      have h := h.2
      refine va_iald (D := D) (cl := vwCl) hx hb hK hP 2 0 rfl rfl hin dX2_readSentence_100 ?_
      refine lv_aload_n hx hb dX2_readSentence_101 rfl (lv_at hl 0 rfl) ?_
      refine va_get (D := D) (ci := 2) (v := .ref (adR 2)) (C := RX2) (T := TX2) (N := 5) hx hb hts (by decide +kernel) hown hK hP 0 rfl rfl 1 (by decide) (hts (.fieldLink RX2 15 "PartGraphs$Reader" "numbers" "[I") (by decide +kernel)) (fun _ h9 => h9) rfl dX2_readSentence_102 ?_
      refine lv_iconst (v := 2) hx hb dX2_readSentence_105 (by decide) ?_
      have hin := h.1
      have h := h.2
      refine va_iald (D := D) (cl := vwCl) hx hb hK hP 2 0 rfl rfl hin dX2_readSentence_106 ?_
      have hFc := va_free (wc := (sh_P cs adP kdP grP cvP brP hzP fmP dmP e1P e2P fkP pnP fnP)) hD hS hA [3, 4, 5, 6, 7, 8, 9, 10, 11, 12, 13] rfl
      refine va_callv (va_runV (As := [.ref (ev 0 v2), .int (nuR (0 : Int32).toNatClampNeg), .int (nuR (1 : Int32).toNatClampNeg), .int (nuR (2 : Int32).toNatClampNeg)]) (rest := []) ⟨hx, hb, hml, hown, hts⟩ (met_X1_carryOut l D cs ev _ adP kdP grP cvP brP hzP fmP dmP e1P e2P fkP pnP fnP v2 (nuR (0 : Int32).toNatClampNeg) (nuR (1 : Int32).toNatClampNeg) (nuR (2 : Int32).toNatClampNeg) _ h) (cwV 4 hts gX2_readSentence_X1_carryOut rfl rfl rfl (by decide +kernel) ⟨Nat.le_of_ble_eq_true rfl, Nat.le_of_ble_eq_true rfl⟩) (mPreV (va_recv hK hP (ci := 1) (q0 := 3) rfl rfl) hP hD hS hK hE hFc [3, 4, 5, 6, 7, 8, 9, 10, 11, 12, 13] (by decide) rfl) rfl rfl hl.1 rfl (lv_room (Nat.le_of_ble_eq_true rfl)) dX2_readSentence_107 ⟨Nat.le_of_ble_eq_true rfl, Nat.le_of_ble_eq_true rfl⟩) hS (fun q _ h => hFc q h) hFc (fun u t H1 locs ht hvm hw hB hz1 hk1 hS => ?_)
      obtain ⟨kd_8, gr_9, cv_10, br_11, hz_12, fm_13, dm_14, e1_15, e2_16, fk_17, pn_18, fn_19⟩ := u
      have h := hw
      obtain ⟨hP1, hK1, hD1⟩ := hB
      rw [ht] at hP1
      obtain ⟨hP, hD⟩ := mJoin (wr := (sh_R cs adR txR nuR lnR bgR enR)) (w1 := (sh_P cs adP kd_8 gr_9 cv_10 br_11 hz_12 fm_13 dm_14 e1_15 e2_16 fk_17 pn_18 fn_19)) (w' := (sh_R cs adR txR nuR lnR bgR enR ++ sh_P cs adP kd_8 gr_9 cv_10 br_11 hz_12 fm_13 dm_14 e1_15 e2_16 fk_17 pn_18 fn_19)) hP hD [3, 4, 5, 6, 7, 8, 9, 10, 11, 12, 13] [0, 1, 2] rfl rfl (by decide) (by decide) hk1 hFc hP1 hD1 [0, 1, 2, 3, 4, 5, 6, 7, 8, 9, 10, 11, 12, 13] (by decide) rfl
      generalize H1 = H at hP hS ⊢
      refine lv_iconst (v := 1) hx hb dX2_readSentence_110 (by decide) ?_
      exact W.zret (v := 1) hx hb hr (by decide) (fun t ht hW => ⟨⟨1, (nuR, bgR, enR, kd_8, gr_9, cv_10, br_11, hz_12, fm_13, dm_14, e1_15, e2_16, fk_17, pn_18, fn_19), rfl, h, by rw [ht]; exact hP, va_K.moved hW.alike hK, hD⟩, hS.F ht⟩) hS.2.2 dX2_readSentence_111
    · have h := h.2 c_6
      refine lv_iload_n hx hb dX2_readSentence_31 rfl (lv_at hl 3 rfl) ?_
      refine lv_iconst (v := 3) hx hb dX2_readSentence_32 (by decide) ?_
      refine lv_icmp_ge (tgt := 87) hx hb dX2_readSentence_33 (by decide) (fun c_20 => ?_) (fun c_20 => ?_)
      · have h := h.1 c_20
        refine lv_aload_n hx hb dX2_readSentence_87 rfl (lv_at hl 1 rfl) ?_
        refine lv_aload_n hx hb dX2_readSentence_88 rfl (lv_at hl 2 rfl) ?_
        refine lv_aload_n hx hb dX2_readSentence_89 rfl (lv_at hl 0 rfl) ?_
        refine va_get (D := D) (ci := 2) (v := .ref (adR 2)) (C := RX2) (T := TX2) (N := 5) hx hb hts (by decide +kernel) hown hK hP 0 rfl rfl 1 (by decide) (hts (.fieldLink RX2 15 "PartGraphs$Reader" "numbers" "[I") (by decide +kernel)) (fun _ h9 => h9) rfl dX2_readSentence_90 ?_
        refine lv_iconst (v := 0) hx hb dX2_readSentence_93 (by decide) ?_
        have hin := h.1
        have h := h.2
        refine va_iald (D := D) (cl := vwCl) hx hb hK hP 2 0 rfl rfl hin dX2_readSentence_94 ?_
        refine lv_aload_n hx hb dX2_readSentence_95 rfl (lv_at hl 0 rfl) ?_
        refine va_get (D := D) (ci := 2) (v := .ref (adR 2)) (C := RX2) (T := TX2) (N := 5) hx hb hts (by decide +kernel) hown hK hP 0 rfl rfl 1 (by decide) (hts (.fieldLink RX2 15 "PartGraphs$Reader" "numbers" "[I") (by decide +kernel)) (fun _ h9 => h9) rfl dX2_readSentence_96 ?_
        refine lv_iconst (v := 1) hx hb dX2_readSentence_99 (by decide) ?_
        have hin := h.1
        have h := h.2
        refine va_iald (D := D) (cl := vwCl) hx hb hK hP 2 0 rfl rfl hin dX2_readSentence_100 ?_
        refine lv_aload_n hx hb dX2_readSentence_101 rfl (lv_at hl 0 rfl) ?_
        refine va_get (D := D) (ci := 2) (v := .ref (adR 2)) (C := RX2) (T := TX2) (N := 5) hx hb hts (by decide +kernel) hown hK hP 0 rfl rfl 1 (by decide) (hts (.fieldLink RX2 15 "PartGraphs$Reader" "numbers" "[I") (by decide +kernel)) (fun _ h9 => h9) rfl dX2_readSentence_102 ?_
        refine lv_iconst (v := 2) hx hb dX2_readSentence_105 (by decide) ?_
        have hin := h.1
        have h := h.2
        refine va_iald (D := D) (cl := vwCl) hx hb hK hP 2 0 rfl rfl hin dX2_readSentence_106 ?_
        have hFc := va_free (wc := (sh_P cs adP kdP grP cvP brP hzP fmP dmP e1P e2P fkP pnP fnP)) hD hS hA [3, 4, 5, 6, 7, 8, 9, 10, 11, 12, 13] rfl
        refine va_callv (va_runV (As := [.ref (ev 0 v2), .int (nuR (0 : Int32).toNatClampNeg), .int (nuR (1 : Int32).toNatClampNeg), .int (nuR (2 : Int32).toNatClampNeg)]) (rest := []) ⟨hx, hb, hml, hown, hts⟩ (met_X1_carryOut l D cs ev _ adP kdP grP cvP brP hzP fmP dmP e1P e2P fkP pnP fnP v2 (nuR (0 : Int32).toNatClampNeg) (nuR (1 : Int32).toNatClampNeg) (nuR (2 : Int32).toNatClampNeg) _ h) (cwV 4 hts gX2_readSentence_X1_carryOut rfl rfl rfl (by decide +kernel) ⟨Nat.le_of_ble_eq_true rfl, Nat.le_of_ble_eq_true rfl⟩) (mPreV (va_recv hK hP (ci := 1) (q0 := 3) rfl rfl) hP hD hS hK hE hFc [3, 4, 5, 6, 7, 8, 9, 10, 11, 12, 13] (by decide) rfl) rfl rfl hl.1 rfl (lv_room (Nat.le_of_ble_eq_true rfl)) dX2_readSentence_107 ⟨Nat.le_of_ble_eq_true rfl, Nat.le_of_ble_eq_true rfl⟩) hS (fun q _ h => hFc q h) hFc (fun u t H1 locs ht hvm hw hB hz1 hk1 hS => ?_)
        obtain ⟨kd_22, gr_23, cv_24, br_25, hz_26, fm_27, dm_28, e1_29, e2_30, fk_31, pn_32, fn_33⟩ := u
        have h := hw
        obtain ⟨hP1, hK1, hD1⟩ := hB
        rw [ht] at hP1
        obtain ⟨hP, hD⟩ := mJoin (wr := (sh_R cs adR txR nuR lnR bgR enR)) (w1 := (sh_P cs adP kd_22 gr_23 cv_24 br_25 hz_26 fm_27 dm_28 e1_29 e2_30 fk_31 pn_32 fn_33)) (w' := (sh_R cs adR txR nuR lnR bgR enR ++ sh_P cs adP kd_22 gr_23 cv_24 br_25 hz_26 fm_27 dm_28 e1_29 e2_30 fk_31 pn_32 fn_33)) hP hD [3, 4, 5, 6, 7, 8, 9, 10, 11, 12, 13] [0, 1, 2] rfl rfl (by decide) (by decide) hk1 hFc hP1 hD1 [0, 1, 2, 3, 4, 5, 6, 7, 8, 9, 10, 11, 12, 13] (by decide) rfl
        generalize H1 = H at hP hS ⊢
        refine lv_iconst (v := 1) hx hb dX2_readSentence_110 (by decide) ?_
        exact W.zret (v := 1) hx hb hr (by decide) (fun t ht hW => ⟨⟨1, (nuR, bgR, enR, kd_22, gr_23, cv_24, br_25, hz_26, fm_27, dm_28, e1_29, e2_30, fk_31, pn_32, fn_33), rfl, h, by rw [ht]; exact hP, va_K.moved hW.alike hK, hD⟩, hS.F ht⟩) hS.2.2 dX2_readSentence_111
      · have h := h.2 c_20
        refine lv_aload_n hx hb dX2_readSentence_36 rfl (lv_at hl 0 rfl) ?_
        have hFc := va_free (wc := (sh_R cs adR txR nuR lnR bgR enR)) hD hS hA [0, 1, 2] rfl
        refine va_calli (va_runV (As := []) (rest := []) ⟨hx, hb, hml, hown, hts⟩ (met_X2_findWord l D cs ev _ adR txR nuR lnR bgR enR _ h) (cwV 0 hts gX2_readSentence_X2_findWord rfl rfl rfl (by decide +kernel) ⟨Nat.le_of_ble_eq_true rfl, Nat.le_of_ble_eq_true rfl⟩) (mPreV (va_recv hK hP (ci := 2) (q0 := 0) rfl rfl) hP hD hS hK hE hFc [0, 1, 2] (by decide) rfl) rfl rfl hl.1 rfl (lv_room (Nat.le_of_ble_eq_true rfl)) dX2_readSentence_37 ⟨Nat.le_of_ble_eq_true rfl, Nat.le_of_ble_eq_true rfl⟩) hS (fun q _ h => hFc q h) hFc (fun r_34 u t H1 locs ht hvm hw hB hz1 hk1 hS => ?_)
        obtain ⟨bg_35, en_36⟩ := u
        have h := hw
        obtain ⟨hP1, hK1, hD1⟩ := hB
        rw [ht] at hP1
        obtain ⟨hP, hD⟩ := mJoin (wr := (sh_P cs adP kdP grP cvP brP hzP fmP dmP e1P e2P fkP pnP fnP)) (w1 := (sh_R cs adR txR nuR lnR bg_35 en_36)) (w' := (sh_R cs adR txR nuR lnR bg_35 en_36 ++ sh_P cs adP kdP grP cvP brP hzP fmP dmP e1P e2P fkP pnP fnP)) hP hD [0, 1, 2] [3, 4, 5, 6, 7, 8, 9, 10, 11, 12, 13] rfl rfl (by decide) (by decide) hk1 hFc hP1 hD1 [11, 12, 13, 0, 1, 2, 3, 4, 5, 6, 7, 8, 9, 10] (by decide) rfl
        generalize H1 = H at hP hS ⊢
        refine lv_if_ne (tgt := 45) hx hb dX2_readSentence_40 (by decide) (fun c_37 => ?_) (fun c_37 => ?_)
        · have h := h.2 c_37
          refine lv_aload_n hx hb dX2_readSentence_45 rfl (lv_at hl 0 rfl) ?_
          have hFc := va_free (wc := (sh_R cs adR txR nuR lnR bg_35 en_36)) hD hS hA [0, 1, 2] rfl
          refine va_calli (va_runV (As := []) (rest := []) ⟨hx, hb, hml, hown, hts⟩ (met_X2_numberHere l D cs ev _ adR txR nuR lnR bg_35 en_36 _ h) (cwV 0 hts gX2_readSentence_X2_numberHere rfl rfl rfl (by decide +kernel) ⟨Nat.le_of_ble_eq_true rfl, Nat.le_of_ble_eq_true rfl⟩) (mPreV (va_recv hK hP (ci := 2) (q0 := 0) rfl rfl) hP hD hS hK hE hFc [0, 1, 2] (by decide) rfl) rfl rfl hl.1 rfl (lv_room (Nat.le_of_ble_eq_true rfl)) dX2_readSentence_46 ⟨Nat.le_of_ble_eq_true rfl, Nat.le_of_ble_eq_true rfl⟩) hS (fun q _ h => hFc q h) hFc (fun r_38 u t H1 locs ht hvm hw hB hz1 hk1 hS => ?_)
          have h := hw
          obtain ⟨hP1, hK1, hD1⟩ := hB
          rw [ht] at hP1
          obtain ⟨hP, hD⟩ := mJoin (wr := (sh_P cs adP kdP grP cvP brP hzP fmP dmP e1P e2P fkP pnP fnP)) (w1 := (sh_R cs adR txR nuR lnR bg_35 en_36)) (w' := (sh_R cs adR txR nuR lnR bg_35 en_36 ++ sh_P cs adP kdP grP cvP brP hzP fmP dmP e1P e2P fkP pnP fnP)) hP hD [0, 1, 2] [3, 4, 5, 6, 7, 8, 9, 10, 11, 12, 13] rfl rfl (by decide) (by decide) hk1 hFc hP1 hD1 [11, 12, 13, 0, 1, 2, 3, 4, 5, 6, 7, 8, 9, 10] (by decide) rfl
          generalize H1 = H at hP hS ⊢
          refine lv_istore (lv' := [(4, .int r_38), (0, .ref (adR 0)), (1, .ref (adP 0)), (2, .ref (ev 0 v2)), (3, .int v3)]) hx hb dX2_readSentence_49 hl (by decide) rfl (fun ls hl => ?_)
          refine lv_iload hx hb dX2_readSentence_51 (lv_at hl 0 rfl) ?_
          refine lv_iconst (v := (-1)) hx hb dX2_readSentence_53 (by decide) ?_
          refine lv_icmp_ne (tgt := 59) hx hb dX2_readSentence_54 (by decide) (fun c_39 => ?_) (fun c_39 => ?_)
          · have h := h.2 c_39
            refine lv_aload_n hx hb dX2_readSentence_59 rfl (lv_at hl 1 rfl) ?_
            refine va_get (D := D) (ci := 2) (v := .ref (adR 2)) (C := RX2) (T := TX2) (N := 5) hx hb hts (by decide +kernel) hown hK hP 0 rfl rfl 1 (by decide) (hts (.fieldLink RX2 15 "PartGraphs$Reader" "numbers" "[I") (by decide +kernel)) (fun _ h9 => h9) rfl dX2_readSentence_60 ?_
            refine lv_iload_n hx hb dX2_readSentence_63 rfl (lv_at hl 4 rfl) ?_
            refine lv_iload hx hb dX2_readSentence_64 (lv_at hl 0 rfl) ?_
            have hin := h.1
            have h := h.2
            refine va_iast (D := D) (cl := vwCl) hx hb hK hP hD hS 2 0 rfl rfl hin dX2_readSentence_66 (fun H locs hP hD hS => ?_)
            have hP : va_P D vwCl (sh_R cs adR txR (upd nuR v3.toNatClampNeg r_38) lnR bg_35 en_36 ++ sh_P cs adP kdP grP cvP brP hzP fmP dmP e1P e2P fkP pnP fnP) H := hP
            have hD : va_D A (sh_R cs adR txR (upd nuR v3.toNatClampNeg r_38) lnR bg_35 en_36 ++ sh_P cs adP kdP grP cvP brP hzP fmP dmP e1P e2P fkP pnP fnP) := hD
            refine lv_aload_n hx hb dX2_readSentence_67 rfl (lv_at hl 1 rfl) ?_
            refine lv_aload_n hx hb dX2_readSentence_68 rfl (lv_at hl 2 rfl) ?_
            refine lv_aload_n hx hb dX2_readSentence_69 rfl (lv_at hl 3 rfl) ?_
            refine lv_iload_n hx hb dX2_readSentence_70 rfl (lv_at hl 4 rfl) ?_
            refine lv_iconst (v := 1) hx hb dX2_readSentence_71 (by decide) ?_
            refine lv_iadd hx hb dX2_readSentence_72 ?_
            have hFc := va_free (wc := (sh_R cs adR txR (upd nuR v3.toNatClampNeg r_38) lnR bg_35 en_36 ++ sh_P cs adP kdP grP cvP brP hzP fmP dmP e1P e2P fkP pnP fnP)) hD hS hA [0, 1, 2, 3, 4, 5, 6, 7, 8, 9, 10, 11, 12, 13] rfl
            refine va_calli (va_runV (As := [.ref (adP 0), .ref (ev 0 v2), .int (v3 + 1)]) (rest := []) ⟨hx, hb, hml, hown, hts⟩ (met_X2_canGoOn_0 l D cs ev _ adR adP txR (upd nuR v3.toNatClampNeg r_38) lnR bg_35 en_36 kdP grP cvP brP hzP fmP dmP e1P e2P fkP pnP fnP v2 (v3 + 1) _ h) (cwV 3 hts gX2_readSentence_X2_canGoOn rfl rfl rfl (by decide +kernel) ⟨Nat.le_of_ble_eq_true rfl, Nat.le_of_ble_eq_true rfl⟩) (mPreV (va_recv hK hP (ci := 2) (q0 := 0) rfl rfl) hP hD hS hK hE hFc [0, 1, 2, 3, 4, 5, 6, 7, 8, 9, 10, 11, 12, 13] (by decide) rfl) rfl rfl hl.1 rfl (lv_room (Nat.le_of_ble_eq_true rfl)) dX2_readSentence_73 ⟨Nat.le_of_ble_eq_true rfl, Nat.le_of_ble_eq_true rfl⟩) hS (fun q _ h => hFc q h) hFc (fun r_40 u t H1 locs ht hvm hw hB hz1 hk1 hS => ?_)
            obtain ⟨nu_41, rfl⟩ : ∃ z, z = u := ⟨_, rfl⟩
            have h := hw
            obtain ⟨hP1, hK1, hD1⟩ := hB
            rw [ht] at hP1
            obtain ⟨hP, hD⟩ := mJoin (wr := ([] : va_W)) (w1 := (sh_R cs adR txR nu_41 lnR bg_35 en_36 ++ sh_P cs adP kdP grP cvP brP hzP fmP dmP e1P e2P fkP pnP fnP)) (w' := (sh_R cs adR txR nu_41 lnR bg_35 en_36 ++ sh_P cs adP kdP grP cvP brP hzP fmP dmP e1P e2P fkP pnP fnP)) hP hD [0, 1, 2, 3, 4, 5, 6, 7, 8, 9, 10, 11, 12, 13] [] rfl rfl (by decide) (by decide) hk1 hFc hP1 hD1 [0, 1, 2, 3, 4, 5, 6, 7, 8, 9, 10, 11, 12, 13] (by decide) rfl
            generalize H1 = H at hP hS ⊢
            refine lv_if_ne (tgt := 81) hx hb dX2_readSentence_76 (by decide) (fun c_42 => ?_) (fun c_42 => ?_)
            · have h := h.2 c_42
              refine lv_iinc (v := v3 + 1) (lv' := [(3, .int (v3 + 1)), (4, .int r_38), (0, .ref (adR 0)), (1, .ref (adP 0)), (2, .ref (ev 0 v2))]) hx hb dX2_readSentence_81 hl (k := 4) rfl rfl (by decide) rfl (fun ls hl => ?_)
              refine lv_goto (tgt := 23) hx hb dX2_readSentence_84 (by decide) ?_
              rw [hA23] at h
              exact h _ _ hP hD hS ls (lv_sub hl [2, 3, 4, 0] rfl)
            · have h := h.1 c_42
              refine lv_iconst (v := 0) hx hb dX2_readSentence_79 (by decide) ?_
              exact W.zret (v := 0) hx hb hr (by decide) (fun t ht hW => ⟨⟨0, (nu_41, bg_35, en_36, kdP, grP, cvP, brP, hzP, fmP, dmP, e1P, e2P, fkP, pnP, fnP), rfl, h, by rw [ht]; exact hP, va_K.moved hW.alike hK, hD⟩, hS.F ht⟩) hS.2.2 dX2_readSentence_80
          · have h := h.1 c_39
            refine lv_iconst (v := 0) hx hb dX2_readSentence_57 (by decide) ?_
            exact W.zret (v := 0) hx hb hr (by decide) (fun t ht hW => ⟨⟨0, (nuR, bg_35, en_36, kdP, grP, cvP, brP, hzP, fmP, dmP, e1P, e2P, fkP, pnP, fnP), rfl, h, by rw [ht]; exact hP, va_K.moved hW.alike hK, hD⟩, hS.F ht⟩) hS.2.2 dX2_readSentence_58
        · have h := h.1 c_37
          refine lv_iconst (v := 0) hx hb dX2_readSentence_43 (by decide) ?_
          exact W.zret (v := 0) hx hb hr (by decide) (fun t ht hW => ⟨⟨0, (nuR, bg_35, en_36, kdP, grP, cvP, brP, hzP, fmP, dmP, e1P, e2P, fkP, pnP, fnP), rfl, h, by rw [ht]; exact hP, va_K.moved hW.alike hK, hD⟩, hS.F ht⟩) hS.2.2 dX2_readSentence_44
  have h := h A23 s23
  refine lv_aload_n hx hb dX2_readSentence_0 rfl (lv_at hl 0 rfl) ?_
  have hFc := va_free (wc := (sh_R cs adR txR nuR lnR bgR enR)) hD hS hA [0, 1, 2] rfl
  refine va_calle (va_runV (As := []) (rest := []) ⟨hx, hb, hml, hown, hts⟩ (met_X2_verbHere l D cs ev _ adR txR nuR lnR bgR enR _ h) (cwV 0 hts gX2_readSentence_X2_verbHere rfl rfl rfl (by decide +kernel) ⟨Nat.le_of_ble_eq_true rfl, Nat.le_of_ble_eq_true rfl⟩) (mPreV (va_recv hK hP (ci := 2) (q0 := 0) rfl rfl) hP hD hS hK hE hFc [0, 1, 2] (by decide) rfl) rfl rfl hl.1 rfl (lv_room (Nat.le_of_ble_eq_true rfl)) dX2_readSentence_1 ⟨Nat.le_of_ble_eq_true rfl, Nat.le_of_ble_eq_true rfl⟩) hS (fun q _ h => hFc q h) hFc (fun r_1 u t H1 locs ht hvm hw hB hz1 hk1 hS => ?_)
  have h := hw
  obtain ⟨hP1, hK1, hD1⟩ := hB
  rw [ht] at hP1
  obtain ⟨hP, hD⟩ := mJoin (wr := (sh_P cs adP kdP grP cvP brP hzP fmP dmP e1P e2P fkP pnP fnP)) (w1 := (sh_R cs adR txR nuR lnR bgR enR)) (w' := (sh_R cs adR txR nuR lnR bgR enR ++ sh_P cs adP kdP grP cvP brP hzP fmP dmP e1P e2P fkP pnP fnP)) hP hD [0, 1, 2] [3, 4, 5, 6, 7, 8, 9, 10, 11, 12, 13] rfl rfl (by decide) (by decide) hk1 hFc hP1 hD1 [11, 12, 13, 0, 1, 2, 3, 4, 5, 6, 7, 8, 9, 10] (by decide) rfl
  generalize H1 = H at hP hS ⊢
  cases r_1 with
  | none =>
    have h := h.1 rfl
    refine lv_astore_nN (lv' := [(2, .null), (0, .ref (adR 0)), (1, .ref (adP 0))]) hx hb dX2_readSentence_4 rfl hl (by decide) rfl (fun ls hl => ?_)
    refine lv_aload_nN hx hb dX2_readSentence_5 rfl (lv_at hl 0 rfl) ?_
    refine lv_ifnullN (tgt := 19) hx hb dX2_readSentence_6 (by decide) ?_
    refine lv_iconst (v := 0) hx hb dX2_readSentence_19 (by decide) ?_
    exact W.zret (v := 0) hx hb hr (by decide) (fun t ht hW => ⟨⟨0, (nuR, bgR, enR, kdP, grP, cvP, brP, hzP, fmP, dmP, e1P, e2P, fkP, pnP, fnP), rfl, h, by rw [ht]; exact hP, va_K.moved hW.alike hK, hD⟩, hS.F ht⟩) hS.2.2 dX2_readSentence_20
  | some k_2 =>
    have h := h.2 k_2 rfl
    refine lv_astore_n (lv' := [(2, .ref (ev 0 k_2)), (0, .ref (adR 0)), (1, .ref (adP 0))]) hx hb dX2_readSentence_4 rfl hl (by decide) rfl (fun ls hl => ?_)
    refine lv_aload_n hx hb dX2_readSentence_5 rfl (lv_at hl 0 rfl) ?_
    refine lv_ifnull hx hb dX2_readSentence_6 ?_
    refine lv_aload_n hx hb dX2_readSentence_9 rfl (lv_at hl 1 rfl) ?_
    refine lv_aload_n hx hb dX2_readSentence_10 rfl (lv_at hl 2 rfl) ?_
    refine lv_aload_n hx hb dX2_readSentence_11 rfl (lv_at hl 0 rfl) ?_
    refine lv_iconst (v := 0) hx hb dX2_readSentence_12 (by decide) ?_
    have hFc := va_free (wc := (sh_R cs adR txR nuR lnR bgR enR ++ sh_P cs adP kdP grP cvP brP hzP fmP dmP e1P e2P fkP pnP fnP)) hD hS hA [0, 1, 2, 3, 4, 5, 6, 7, 8, 9, 10, 11, 12, 13] rfl
    refine va_calli (va_runV (As := [.ref (adP 0), .ref (ev 0 k_2), .int 0]) (rest := []) ⟨hx, hb, hml, hown, hts⟩ (met_X2_canGoOn_0 l D cs ev _ adR adP txR nuR lnR bgR enR kdP grP cvP brP hzP fmP dmP e1P e2P fkP pnP fnP k_2 0 _ h) (cwV 3 hts gX2_readSentence_X2_canGoOn rfl rfl rfl (by decide +kernel) ⟨Nat.le_of_ble_eq_true rfl, Nat.le_of_ble_eq_true rfl⟩) (mPreV (va_recv hK hP (ci := 2) (q0 := 0) rfl rfl) hP hD hS hK hE hFc [0, 1, 2, 3, 4, 5, 6, 7, 8, 9, 10, 11, 12, 13] (by decide) rfl) rfl rfl hl.1 rfl (lv_room (Nat.le_of_ble_eq_true rfl)) dX2_readSentence_13 ⟨Nat.le_of_ble_eq_true rfl, Nat.le_of_ble_eq_true rfl⟩) hS (fun q _ h => hFc q h) hFc (fun r_3 u t H1 locs ht hvm hw hB hz1 hk1 hS => ?_)
    obtain ⟨nu_4, rfl⟩ : ∃ z, z = u := ⟨_, rfl⟩
    have h := hw
    obtain ⟨hP1, hK1, hD1⟩ := hB
    rw [ht] at hP1
    obtain ⟨hP, hD⟩ := mJoin (wr := ([] : va_W)) (w1 := (sh_R cs adR txR nu_4 lnR bgR enR ++ sh_P cs adP kdP grP cvP brP hzP fmP dmP e1P e2P fkP pnP fnP)) (w' := (sh_R cs adR txR nu_4 lnR bgR enR ++ sh_P cs adP kdP grP cvP brP hzP fmP dmP e1P e2P fkP pnP fnP)) hP hD [0, 1, 2, 3, 4, 5, 6, 7, 8, 9, 10, 11, 12, 13] [] rfl rfl (by decide) (by decide) hk1 hFc hP1 hD1 [0, 1, 2, 3, 4, 5, 6, 7, 8, 9, 10, 11, 12, 13] (by decide) rfl
    generalize H1 = H at hP hS ⊢
    refine lv_if_ne (tgt := 21) hx hb dX2_readSentence_16 (by decide) (fun c_5 => ?_) (fun c_5 => ?_)
    · have h := h.2 c_5
      refine lv_iconst (v := 0) hx hb dX2_readSentence_21 (by decide) ?_
      refine lv_istore_n (lv' := [(3, .int 0), (2, .ref (ev 0 k_2)), (0, .ref (adR 0)), (1, .ref (adP 0))]) hx hb dX2_readSentence_22 rfl hl (by decide) rfl (fun ls hl => ?_)
      rw [hA23] at h
      exact h _ _ hP hD hS ls (lv_sub hl [2, 3, 1, 0] rfl)
    · have h := h.1 c_5
      refine lv_iconst (v := 0) hx hb dX2_readSentence_19 (by decide) ?_
      exact W.zret (v := 0) hx hb hr (by decide) (fun t ht hW => ⟨⟨0, (nu_4, bgR, enR, kdP, grP, cvP, brP, hzP, fmP, dmP, e1P, e2P, fkP, pnP, fnP), rfl, h, by rw [ht]; exact hP, va_K.moved hW.alike hK, hD⟩, hS.F ht⟩) hS.2.2 dX2_readSentence_20
def wp_X2_readAll (txR : Nat → Int32) (nuR : Nat → Int32) (lnR : Int32) (bgR : Int32) (enR : Int32) (kdP : Nat → Int32) (grP : Nat → Int64) (cvP : Nat → Int32) (brP : Nat → Int32) (hzP : Nat → Int32) (fmP : Nat → Int32) (dmP : Nat → Int32) (e1P : Nat → Int32) (e2P : Nat → Int32) (fkP : Nat → Int32) (pnP : Int32) (fnP : Int32) (post : Int32 → ((Nat → Int32) × Int32 × Int32 × (Nat → Int32) × (Nat → Int64) × (Nat → Int32) × (Nat → Int32) × (Nat → Int32) × (Nat → Int32) × (Nat → Int32) × (Nat → Int32) × (Nat → Int32) × (Nat → Int32) × Int32 × Int32) → Prop) : Prop :=
    ∀ (A12 : Int32 → (Nat → Int32) → Int32 → Int32 → (Nat → Int32) → (Nat → Int64) → (Nat → Int32) → (Nat → Int32) → (Nat → Int32) → (Nat → Int32) → (Nat → Int32) → (Nat → Int32) → (Nat → Int32) → (Nat → Int32) → Int32 → Int32 → Prop),
    (∀ (v2 : Int32) (nuR : Nat → Int32) (bgR : Int32) (enR : Int32) (kdP : Nat → Int32) (grP : Nat → Int64) (cvP : Nat → Int32) (brP : Nat → Int32) (hzP : Nat → Int32) (fmP : Nat → Int32) (dmP : Nat → Int32) (e1P : Nat → Int32) (e2P : Nat → Int32) (fkP : Nat → Int32) (pnP : Int32) (fnP : Int32), ((2000 ≤ v2 → post 1 (nuR, bgR, enR, kdP, grP, cvP, brP, hzP, fmP, dmP, e1P, e2P, fkP, pnP, fnP)) ∧ (¬ 2000 ≤ v2 → wp_X2_findWord txR lnR bgR enR (fun r_2 u => match u with | (bg_3, en_4) => ((r_2 = 0 → post 1 (nuR, bg_3, en_4, kdP, grP, cvP, brP, hzP, fmP, dmP, e1P, e2P, fkP, pnP, fnP)) ∧ (¬ r_2 = 0 → wp_X2_readSentence txR nuR lnR bg_3 en_4 kdP grP cvP brP hzP fmP dmP e1P e2P fkP pnP fnP (fun r_6 u => match u with | (nu_7, bg_8, en_9, kd_10, gr_11, cv_12, br_13, hz_14, fm_15, dm_16, e1_17, e2_18, fk_19, pn_20, fn_21) => ((r_6 = 0 → post 0 (nu_7, bg_8, en_9, kd_10, gr_11, cv_12, br_13, hz_14, fm_15, dm_16, e1_17, e2_18, fk_19, pn_20, fn_21)) ∧ (¬ r_6 = 0 → A12 (v2 + 1) nu_7 bg_8 en_9 kd_10 gr_11 cv_12 br_13 hz_14 fm_15 dm_16 e1_17 e2_18 fk_19 pn_20 fn_21)))))))) → A12 v2 nuR bgR enR kdP grP cvP brP hzP fmP dmP e1P e2P fkP pnP fnP) →
    A12 0 nuR 0 0 kdP grP cvP brP hzP fmP dmP e1P e2P fkP pnP fnP
set_option maxHeartbeats 4000000 in
set_option maxRecDepth 100000 in
theorem met_X2_readAll (l : Launch) (D : va_G) (cs : Nat → ClassId) (ev : Nat → Nat → Nat) (sz0 : Nat) (adR : Nat → Nat) (adP : Nat → Nat) (txR : Nat → Int32) (nuR : Nat → Int32) (lnR : Int32) (bgR : Int32) (enR : Int32) (kdP : Nat → Int32) (grP : Nat → Int64) (cvP : Nat → Int32) (brP : Nat → Int32) (hzP : Nat → Int32) (fmP : Nat → Int32) (dmP : Nat → Int32) (e1P : Nat → Int32) (e2P : Nat → Int32) (fkP : Nat → Int32) (pnP : Int32) (fnP : Int32) (post : Int32 → ((Nat → Int32) × Int32 × Int32 × (Nat → Int32) × (Nat → Int64) × (Nat → Int32) × (Nat → Int32) × (Nat → Int32) × (Nat → Int32) × (Nat → Int32) × (Nat → Int32) × (Nat → Int32) × (Nat → Int32) × Int32 × Int32) → Prop) (h : wp_X2_readAll txR nuR lnR bgR enR kdP grP cvP brP hzP fmP dmP e1P e2P fkP pnP fnP post) : Met l yX2_readAll wsX2_readAll ({ frames := 8, cells := 0, slots := 0, locals := 189 }) (va_Pc [.ref (adR 0), .ref (adP 0)] (mPre D cs ev (sh_R cs adR txR nuR lnR bgR enR ++ sh_P cs adP kdP grP cvP brP hzP fmP dmP e1P e2P fkP pnP fnP) sz0)) (va_Qi post (fun u t => match u with | (nuR', bgR', enR', kdP', grP', cvP', brP', hzP', fmP', dmP', e1P', e2P', fkP', pnP', fnP') => mAt D cs (va_A (sh_R cs adR txR nuR lnR bgR enR ++ sh_P cs adP kdP grP cvP brP hzP fmP dmP e1P e2P fkP pnP fnP) sz0) (sh_R cs adR txR nuR' lnR bgR' enR' ++ sh_P cs adP kdP' grP' cvP' brP' hzP' fmP' dmP' e1P' e2P' fkP' pnP' fnP') t) (va_A (sh_R cs adR txR nuR lnR bgR enR ++ sh_P cs adP kdP grP cvP brP hzP fmP dmP e1P e2P fkP pnP fnP) sz0)) 0 0 (va_A (sh_R cs adR txR nuR lnR bgR enR ++ sh_P cs adP kdP grP cvP brP hzP fmP dmP e1P e2P fkP pnP fnP) sz0) := by
  refine Met.ofW (cc := cX2_readAll) (maxL := 3) (ret := (some .boolean)) (by decide) rfl ?_
  intro p e s m args below meth c s₁ B hml hv
  obtain ⟨rfl, hsz, hP, hK, hD0, hE⟩ := hv
  have hx := B.exec
  have hb := B.bytes
  have hr := B.returns
  have hts := atoms_spec (ws := wsX2_readAll) B.pre
  have hown : s.vm.findClass RX2 = some m.cls := findClass_of_methodNamed B.named
  have hlocks := B.notSynchronized
  subst hsz
  have hD := hD0.self (sz := s.heap.size)
  generalize hAe : va_A (sh_R cs adR txR nuR lnR bgR enR ++ sh_P cs adP kdP grP cvP brP hzP fmP dmP e1P e2P fkP pnP fnP) s.heap.size = A at hD hE ⊢
  have hA : ∀ q : Nat, s.heap.size ≤ q → A q := fun q h => by rw [← hAe]; exact Or.inr h
  have hS : va_S A s.heap s.heap [] := va_S.rf
  have hl := lv_entry ([.ref (adR 0), .ref (adP 0)]) (n := 3) (Nat.le_of_ble_eq_true rfl)
  rw [lg_entry_eq]
  generalize (lg_sl ([.ref (adR 0), .ref (adP 0)]) ++ List.replicate (3 - (lg_sl ([.ref (adR 0), .ref (adP 0)])).length) Slot.unset).toArray = ls at hl ⊢
  have hl : lv_has ls 3 [(0, .ref (adR 0)), (1, .ref (adP 0))] := hl
  obtain ⟨A12, hA12⟩ : ∃ Q : Int32 → (Nat → Int32) → Int32 → Int32 → (Nat → Int32) → (Nat → Int64) → (Nat → Int32) → (Nat → Int32) → (Nat → Int32) → (Nat → Int32) → (Nat → Int32) → (Nat → Int32) → (Nat → Int32) → (Nat → Int32) → Int32 → Int32 → Prop, Q = (fun v2 nuR bgR enR kdP grP cvP brP hzP fmP dmP e1P e2P fkP pnP fnP => ∀ (H : Heap) (locs : List Loc), va_P D vwCl (sh_R cs adR txR nuR lnR bgR enR ++ sh_P cs adP kdP grP cvP brP hzP fmP dmP e1P e2P fkP pnP fnP) H → va_D A (sh_R cs adR txR nuR lnR bgR enR ++ sh_P cs adP kdP grP cvP brP hzP fmP dmP e1P e2P fkP pnP fnP) → va_S A s.heap H locs → ∀ ls : Array Slot, lv_has ls 3 [(0, .ref (adR 0)), (1, .ref (adP 0)), (2, .int v2)] → W p l e (headSpec wsX2_readAll ({ frames := 8, cells := 0, slots := 0, locals := 189 })).room s m ([.ref (adR 0), .ref (adP 0)] : List Value).toArray below meth c H locs 0 0 (MQ below (va_Qi post (fun u t => match u with | (nuR', bgR', enR', kdP', grP', cvP', brP', hzP', fmP', dmP', e1P', e2P', fkP', pnP', fnP') => mAt D cs (A) (sh_R cs adR txR nuR' lnR bgR' enR' ++ sh_P cs adP kdP' grP' cvP' brP' hzP' fmP' dmP' e1P' e2P' fkP' pnP' fnP') t) A) ([.ref (adR 0), .ref (adP 0)] : List Value).toArray s 0 0 A) (F0 m 12 ls [])) := ⟨_, rfl⟩
  have s12 : ∀ (v2 : Int32) (nuR : Nat → Int32) (bgR : Int32) (enR : Int32) (kdP : Nat → Int32) (grP : Nat → Int64) (cvP : Nat → Int32) (brP : Nat → Int32) (hzP : Nat → Int32) (fmP : Nat → Int32) (dmP : Nat → Int32) (e1P : Nat → Int32) (e2P : Nat → Int32) (fkP : Nat → Int32) (pnP : Int32) (fnP : Int32), ((2000 ≤ v2 → post 1 (nuR, bgR, enR, kdP, grP, cvP, brP, hzP, fmP, dmP, e1P, e2P, fkP, pnP, fnP)) ∧ (¬ 2000 ≤ v2 → wp_X2_findWord txR lnR bgR enR (fun r_2 u => match u with | (bg_3, en_4) => ((r_2 = 0 → post 1 (nuR, bg_3, en_4, kdP, grP, cvP, brP, hzP, fmP, dmP, e1P, e2P, fkP, pnP, fnP)) ∧ (¬ r_2 = 0 → wp_X2_readSentence txR nuR lnR bg_3 en_4 kdP grP cvP brP hzP fmP dmP e1P e2P fkP pnP fnP (fun r_6 u => match u with | (nu_7, bg_8, en_9, kd_10, gr_11, cv_12, br_13, hz_14, fm_15, dm_16, e1_17, e2_18, fk_19, pn_20, fn_21) => ((r_6 = 0 → post 0 (nu_7, bg_8, en_9, kd_10, gr_11, cv_12, br_13, hz_14, fm_15, dm_16, e1_17, e2_18, fk_19, pn_20, fn_21)) ∧ (¬ r_6 = 0 → A12 (v2 + 1) nu_7 bg_8 en_9 kd_10 gr_11 cv_12 br_13 hz_14 fm_15 dm_16 e1_17 e2_18 fk_19 pn_20 fn_21)))))))) → A12 v2 nuR bgR enR kdP grP cvP brP hzP fmP dmP e1P e2P fkP pnP fnP := by
    intro v2 nuR bgR enR kdP grP cvP brP hzP fmP dmP e1P e2P fkP pnP fnP h
    rw [hA12]
    intro H locs hP hD hS ls hl
    refine lv_iload_n hx hb dX2_readAll_12 rfl (lv_at hl 2 rfl) ?_
    refine lv_sipush (v := 2000) hx hb dX2_readAll_13 (by decide) ?_
    refine lv_icmp_ge (tgt := 44) hx hb dX2_readAll_16 (by decide) (fun c_1 => ?_) (fun c_1 => ?_)
    · have h := h.1 c_1
      refine lv_iconst (v := 1) hx hb dX2_readAll_44 (by decide) ?_
      exact W.zret (v := 1) hx hb hr (by decide) (fun t ht hW => ⟨⟨1, (nuR, bgR, enR, kdP, grP, cvP, brP, hzP, fmP, dmP, e1P, e2P, fkP, pnP, fnP), rfl, h, by rw [ht]; exact hP, va_K.moved hW.alike hK, hD⟩, hS.F ht⟩) hS.2.2 dX2_readAll_45
    · have h := h.2 c_1
      refine lv_aload_n hx hb dX2_readAll_19 rfl (lv_at hl 0 rfl) ?_
      have hFc := va_free (wc := (sh_R cs adR txR nuR lnR bgR enR)) hD hS hA [0, 1, 2] rfl
      refine va_calli (va_runV (As := []) (rest := []) ⟨hx, hb, hml, hown, hts⟩ (met_X2_findWord l D cs ev _ adR txR nuR lnR bgR enR _ h) (cwV 0 hts gX2_readAll_X2_findWord rfl rfl rfl (by decide +kernel) ⟨Nat.le_of_ble_eq_true rfl, Nat.le_of_ble_eq_true rfl⟩) (mPreV (va_recv hK hP (ci := 2) (q0 := 0) rfl rfl) hP hD hS hK hE hFc [0, 1, 2] (by decide) rfl) rfl rfl hl.1 rfl (lv_room (Nat.le_of_ble_eq_true rfl)) dX2_readAll_20 ⟨Nat.le_of_ble_eq_true rfl, Nat.le_of_ble_eq_true rfl⟩) hS (fun q _ h => hFc q h) hFc (fun r_2 u t H1 locs ht hvm hw hB hz1 hk1 hS => ?_)
      obtain ⟨bg_3, en_4⟩ := u
      have h := hw
      obtain ⟨hP1, hK1, hD1⟩ := hB
      rw [ht] at hP1
      obtain ⟨hP, hD⟩ := mJoin (wr := (sh_P cs adP kdP grP cvP brP hzP fmP dmP e1P e2P fkP pnP fnP)) (w1 := (sh_R cs adR txR nuR lnR bg_3 en_4)) (w' := (sh_R cs adR txR nuR lnR bg_3 en_4 ++ sh_P cs adP kdP grP cvP brP hzP fmP dmP e1P e2P fkP pnP fnP)) hP hD [0, 1, 2] [3, 4, 5, 6, 7, 8, 9, 10, 11, 12, 13] rfl rfl (by decide) (by decide) hk1 hFc hP1 hD1 [11, 12, 13, 0, 1, 2, 3, 4, 5, 6, 7, 8, 9, 10] (by decide) rfl
      generalize H1 = H at hP hS ⊢
      refine lv_if_ne (tgt := 28) hx hb dX2_readAll_23 (by decide) (fun c_5 => ?_) (fun c_5 => ?_)
      · have h := h.2 c_5
        refine lv_aload_n hx hb dX2_readAll_28 rfl (lv_at hl 0 rfl) ?_
        refine lv_aload_n hx hb dX2_readAll_29 rfl (lv_at hl 1 rfl) ?_
        have hFc := va_free (wc := (sh_R cs adR txR nuR lnR bg_3 en_4 ++ sh_P cs adP kdP grP cvP brP hzP fmP dmP e1P e2P fkP pnP fnP)) hD hS hA [0, 1, 2, 3, 4, 5, 6, 7, 8, 9, 10, 11, 12, 13] rfl
        refine va_calli (va_runV (As := [.ref (adP 0)]) (rest := []) ⟨hx, hb, hml, hown, hts⟩ (met_X2_readSentence l D cs ev _ adR adP txR nuR lnR bg_3 en_4 kdP grP cvP brP hzP fmP dmP e1P e2P fkP pnP fnP _ h) (cwV 1 hts gX2_readAll_X2_readSentence rfl rfl rfl (by decide +kernel) ⟨Nat.le_of_ble_eq_true rfl, Nat.le_of_ble_eq_true rfl⟩) (mPreV (va_recv hK hP (ci := 2) (q0 := 0) rfl rfl) hP hD hS hK hE hFc [0, 1, 2, 3, 4, 5, 6, 7, 8, 9, 10, 11, 12, 13] (by decide) rfl) rfl rfl hl.1 rfl (lv_room (Nat.le_of_ble_eq_true rfl)) dX2_readAll_30 ⟨Nat.le_of_ble_eq_true rfl, Nat.le_of_ble_eq_true rfl⟩) hS (fun q _ h => hFc q h) hFc (fun r_6 u t H1 locs ht hvm hw hB hz1 hk1 hS => ?_)
        obtain ⟨nu_7, bg_8, en_9, kd_10, gr_11, cv_12, br_13, hz_14, fm_15, dm_16, e1_17, e2_18, fk_19, pn_20, fn_21⟩ := u
        have h := hw
        obtain ⟨hP1, hK1, hD1⟩ := hB
        rw [ht] at hP1
        obtain ⟨hP, hD⟩ := mJoin (wr := ([] : va_W)) (w1 := (sh_R cs adR txR nu_7 lnR bg_8 en_9 ++ sh_P cs adP kd_10 gr_11 cv_12 br_13 hz_14 fm_15 dm_16 e1_17 e2_18 fk_19 pn_20 fn_21)) (w' := (sh_R cs adR txR nu_7 lnR bg_8 en_9 ++ sh_P cs adP kd_10 gr_11 cv_12 br_13 hz_14 fm_15 dm_16 e1_17 e2_18 fk_19 pn_20 fn_21)) hP hD [0, 1, 2, 3, 4, 5, 6, 7, 8, 9, 10, 11, 12, 13] [] rfl rfl (by decide) (by decide) hk1 hFc hP1 hD1 [0, 1, 2, 3, 4, 5, 6, 7, 8, 9, 10, 11, 12, 13] (by decide) rfl
        generalize H1 = H at hP hS ⊢
        refine lv_if_ne (tgt := 38) hx hb dX2_readAll_33 (by decide) (fun c_22 => ?_) (fun c_22 => ?_)
        · have h := h.2 c_22
          refine lv_iinc (v := v2 + 1) (lv' := [(2, .int (v2 + 1)), (0, .ref (adR 0)), (1, .ref (adP 0))]) hx hb dX2_readAll_38 hl (k := 2) rfl rfl (by decide) rfl (fun ls hl => ?_)
          refine lv_goto (tgt := 12) hx hb dX2_readAll_41 (by decide) ?_
          rw [hA12] at h
          exact h _ _ hP hD hS ls (lv_sub hl [1, 2, 0] rfl)
        · have h := h.1 c_22
          refine lv_iconst (v := 0) hx hb dX2_readAll_36 (by decide) ?_
          exact W.zret (v := 0) hx hb hr (by decide) (fun t ht hW => ⟨⟨0, (nu_7, bg_8, en_9, kd_10, gr_11, cv_12, br_13, hz_14, fm_15, dm_16, e1_17, e2_18, fk_19, pn_20, fn_21), rfl, h, by rw [ht]; exact hP, va_K.moved hW.alike hK, hD⟩, hS.F ht⟩) hS.2.2 dX2_readAll_37
      · have h := h.1 c_5
        refine lv_iconst (v := 1) hx hb dX2_readAll_26 (by decide) ?_
        exact W.zret (v := 1) hx hb hr (by decide) (fun t ht hW => ⟨⟨1, (nuR, bg_3, en_4, kdP, grP, cvP, brP, hzP, fmP, dmP, e1P, e2P, fkP, pnP, fnP), rfl, h, by rw [ht]; exact hP, va_K.moved hW.alike hK, hD⟩, hS.F ht⟩) hS.2.2 dX2_readAll_27
  have h := h A12 s12
  refine lv_aload_n hx hb dX2_readAll_0 rfl (lv_at hl 0 rfl) ?_
  refine lv_iconst (v := 0) hx hb dX2_readAll_1 (by decide) ?_
  refine va_put (D := D) (ci := 2) (v := .int 0) (ty := .int) (C := RX2) (T := TX2) (N := 5) hx hb hts (by decide +kernel) tyX2 tyX2_ok nmX2 hown hK hP hD hS 0 rfl rfl 3 (by decide) (hts (.fieldLink RX2 23 "PartGraphs$Reader" "begin" "I") (by decide +kernel)) (fun _ h9 => h9) rfl (by decide +kernel) rfl rfl (Nat.le_of_ble_eq_true rfl) dX2_readAll_2 (fun H locs hP hD hS => ?_)
  have hP : va_P D vwCl (sh_R cs adR txR nuR lnR 0 enR ++ sh_P cs adP kdP grP cvP brP hzP fmP dmP e1P e2P fkP pnP fnP) H := hP
  have hD : va_D A (sh_R cs adR txR nuR lnR 0 enR ++ sh_P cs adP kdP grP cvP brP hzP fmP dmP e1P e2P fkP pnP fnP) := hD
  refine lv_aload_n hx hb dX2_readAll_5 rfl (lv_at hl 0 rfl) ?_
  refine lv_iconst (v := 0) hx hb dX2_readAll_6 (by decide) ?_
  refine va_put (D := D) (ci := 2) (v := .int 0) (ty := .int) (C := RX2) (T := TX2) (N := 5) hx hb hts (by decide +kernel) tyX2 tyX2_ok nmX2 hown hK hP hD hS 0 rfl rfl 4 (by decide) (hts (.fieldLink RX2 26 "PartGraphs$Reader" "end" "I") (by decide +kernel)) (fun _ h9 => h9) rfl (by decide +kernel) rfl rfl (Nat.le_of_ble_eq_true rfl) dX2_readAll_7 (fun H locs hP hD hS => ?_)
  have hP : va_P D vwCl (sh_R cs adR txR nuR lnR 0 0 ++ sh_P cs adP kdP grP cvP brP hzP fmP dmP e1P e2P fkP pnP fnP) H := hP
  have hD : va_D A (sh_R cs adR txR nuR lnR 0 0 ++ sh_P cs adP kdP grP cvP brP hzP fmP dmP e1P e2P fkP pnP fnP) := hD
  refine lv_iconst (v := 0) hx hb dX2_readAll_10 (by decide) ?_
  refine lv_istore_n (lv' := [(2, .int 0), (0, .ref (adR 0)), (1, .ref (adP 0))]) hx hb dX2_readAll_11 rfl hl (by decide) rfl (fun ls hl => ?_)
  rw [hA12] at h
  exact h _ _ hP hD hS ls (lv_sub hl [1, 2, 0] rfl)
