def wp_X1_allows (cvP : Nat → Int32) (brP : Nat → Int32) (hzP : Nat → Int32) (fmP : Nat → Int32) (pnP : Int32) (fnP : Int32) (k : Nat) (p2 : Int32) (p3 : Int32) (p4 : Int32) (post : Int32 → Unit → Prop) : Prop :=
    (k < 7 ∧ wp_Jx29ce0_ordinal_8abf5 k (fun r_1 _ => (vp_in r_1 7 ∧ (((swTab.getD r_1.toNatClampNeg 0) = 1 → wp_X1_allowsPart pnP p2 p3.toInt64 (fun r_2 _ => (narrow .boolean (.int r_2) = .int r_2 ∧ post r_2 ()))) ∧ (¬ (swTab.getD r_1.toNatClampNeg 0) = 1 → (((swTab.getD r_1.toNatClampNeg 0) = 2 → wp_X1_allowsCover cvP pnP p2 p3 (fun r_3 _ => (narrow .boolean (.int r_3) = .int r_3 ∧ post r_3 ()))) ∧ (¬ (swTab.getD r_1.toNatClampNeg 0) = 2 → (((swTab.getD r_1.toNatClampNeg 0) = 3 → wp_X1_allowsBar brP pnP p2 p3 p4 (fun r_4 _ => (narrow .boolean (.int r_4) = .int r_4 ∧ post r_4 ()))) ∧ (¬ (swTab.getD r_1.toNatClampNeg 0) = 3 → (((swTab.getD r_1.toNatClampNeg 0) = 4 → wp_X1_allowsFastening pnP fnP p2 p3 p4 (fun r_5 _ => (narrow .boolean (.int r_5) = .int r_5 ∧ post r_5 ()))) ∧ (¬ (swTab.getD r_1.toNatClampNeg 0) = 4 → (((swTab.getD r_1.toNatClampNeg 0) = 5 → wp_X1_allowsHazard hzP pnP p2 p3 (fun r_6 _ => (narrow .boolean (.int r_6) = .int r_6 ∧ post r_6 ()))) ∧ (¬ (swTab.getD r_1.toNatClampNeg 0) = 5 → (((swTab.getD r_1.toNatClampNeg 0) = 6 → wp_X1_allowsOption fmP pnP p2 p3 (fun r_7 _ => (narrow .boolean (.int r_7) = .int r_7 ∧ post r_7 ()))) ∧ (¬ (swTab.getD r_1.toNatClampNeg 0) = 6 → wp_X1_allowsDamage pnP p2 p3 (fun r_8 _ => (narrow .boolean (.int r_8) = .int r_8 ∧ post r_8 ())))))))))))))))))
set_option maxHeartbeats 4000000 in
set_option maxRecDepth 100000 in
theorem met_X1_allows (l : Launch) (D : va_G) (cs : Nat → ClassId) (ev : Nat → Nat → Nat) (sz0 : Nat) (adP : Nat → Nat) (kdP : Nat → Int32) (grP : Nat → Int64) (cvP : Nat → Int32) (brP : Nat → Int32) (hzP : Nat → Int32) (fmP : Nat → Int32) (dmP : Nat → Int32) (e1P : Nat → Int32) (e2P : Nat → Int32) (fkP : Nat → Int32) (pnP : Int32) (fnP : Int32) (k : Nat) (p2 : Int32) (p3 : Int32) (p4 : Int32) (post : Int32 → Unit → Prop) (h : wp_X1_allows cvP brP hzP fmP pnP fnP k p2 p3 p4 post) : Met l yX1_allows wsX1_allows ({ frames := 2, cells := 0, slots := 0, locals := 45 }) (va_Pc [.ref (adP 0), .ref (ev 0 k), .int p2, .int p3, .int p4] (mPre D cs ev (sh_P cs adP kdP grP cvP brP hzP fmP dmP e1P e2P fkP pnP fnP) sz0)) (va_Qi post (fun _ t => mAt D cs (va_A (sh_P cs adP kdP grP cvP brP hzP fmP dmP e1P e2P fkP pnP fnP) sz0) (sh_P cs adP kdP grP cvP brP hzP fmP dmP e1P e2P fkP pnP fnP) t) (va_A (sh_P cs adP kdP grP cvP brP hzP fmP dmP e1P e2P fkP pnP fnP) sz0)) 0 0 (va_A (sh_P cs adP kdP grP cvP brP hzP fmP dmP e1P e2P fkP pnP fnP) sz0) := by
  refine Met.ofW (cc := cX1_allows) (maxL := 5) (ret := (some .boolean)) (by decide) rfl ?_
  intro p e s m args below meth c s₁ B hml hv
  obtain ⟨rfl, hsz, hP, hK, hD0, hE⟩ := hv
  have hx := B.exec
  have hb := B.bytes
  have hr := B.returns
  have hts := atoms_spec (ws := wsX1_allows) B.pre
  have hown : s.vm.findClass RX1 = some m.cls := findClass_of_methodNamed B.named
  have hlocks := B.notSynchronized
  subst hsz
  have hD := hD0.self (sz := s.heap.size)
  generalize hAe : va_A (sh_P cs adP kdP grP cvP brP hzP fmP dmP e1P e2P fkP pnP fnP) s.heap.size = A at hD hE ⊢
  have hA : ∀ q : Nat, s.heap.size ≤ q → A q := fun q h => by rw [← hAe]; exact Or.inr h
  have hS : va_S A s.heap s.heap [] := va_S.rf
  have hl := lv_entry ([.ref (adP 0), .ref (ev 0 k), .int p2, .int p3, .int p4]) (n := 5) (Nat.le_of_ble_eq_true rfl)
  rw [lg_entry_eq]
  generalize (lg_sl ([.ref (adP 0), .ref (ev 0 k), .int p2, .int p3, .int p4]) ++ List.replicate (5 - (lg_sl ([.ref (adP 0), .ref (ev 0 k), .int p2, .int p3, .int p4])).length) Slot.unset).toArray = ls at hl ⊢
  have hl : lv_has ls 5 [(0, .ref (adP 0)), (1, .ref (ev 0 k)), (2, .int p2), (3, .int p3), (4, .int p4)] := hl
  refine va_gets hx hb hE.2.2.2.2.2.2.2.1 hS hown (hts (.fieldLink RX1 93 "PartGraphs$1" "$SwitchMap$PartGraphs$Verb" "[I") (by decide +kernel)) (fun _ h9 => h9) dX1_allows_0 ?_
  refine lv_aload_n hx hb dX1_allows_3 rfl (lv_at hl 1 rfl) ?_
  have hk := h.1
  have h := h.2
  have hFc := va_free (wc := ([] : va_W)) hD hS hA [] rfl
  refine va_calli (va_runU (As := []) (rest := [.ref (ev 3 1)]) ⟨hx, hb, hml, hown, hts⟩ (met_Jx29ce0_ordinal_8abf5 l D cs ev _ k _ h) (va_cwU 0 hts gX1_allows_Jx29ce0_ordinal_8abf5_u98X4 rfl rfl rfl rfl (by decide +kernel) ⟨Nat.le_of_ble_eq_true rfl, Nat.le_of_ble_eq_true rfl⟩) (mPreV (va_recvE hE.2.2.1 hk hS) hP hD hS hK hE hFc [] (by decide) rfl) rfl rfl hl.1 rfl (lv_room (Nat.le_of_ble_eq_true rfl)) dX1_allows_4 ⟨Nat.le_of_ble_eq_true rfl, Nat.le_of_ble_eq_true rfl⟩) hS (fun q _ h => hFc q h) hFc (fun r_1 u t H1 locs ht hvm hw hB hz1 hk1 hS => ?_)
  have h := hw
  obtain ⟨hP1, hK1, hD1⟩ := hB
  rw [ht] at hP1
  obtain ⟨hP, hD⟩ := mJoin (wr := (sh_P cs adP kdP grP cvP brP hzP fmP dmP e1P e2P fkP pnP fnP)) (w1 := ([] : va_W)) (w' := (sh_P cs adP kdP grP cvP brP hzP fmP dmP e1P e2P fkP pnP fnP)) hP hD [] [0, 1, 2, 3, 4, 5, 6, 7, 8, 9, 10] rfl rfl (by decide) (by decide) hk1 hFc hP1 hD1 [0, 1, 2, 3, 4, 5, 6, 7, 8, 9, 10] (by decide) rfl
  generalize H1 = H at hP hS ⊢
  have hin := h.1
  have h := h.2
  refine va_ti (v := .int (swTab.getD r_1.toNatClampNeg 0)) hx hb hE.2.2.2.2.2.2.2.2.1 hS hin rfl dX1_allows_7 ?_
  by_cases cs_0 : (swTab.getD r_1.toNatClampNeg 0) = 1
  · have h := h.1 cs_0
    refine lv_tableIn (tgt := 48) hx hb dX1_allows_8 (by rw [cs_0]; decide) (by rw [cs_0]; decide) (by rw [cs_0]; rfl) (by decide) ?_
    refine lv_aload_n hx hb dX1_allows_48 rfl (lv_at hl 0 rfl) ?_
    refine lv_iload_n hx hb dX1_allows_49 rfl (lv_at hl 2 rfl) ?_
    refine lv_iload_n hx hb dX1_allows_50 rfl (lv_at hl 3 rfl) ?_
    refine lv_i2l hx hb dX1_allows_51 rfl ?_
    have hFc := va_free (wc := (sh_P cs adP kdP grP cvP brP hzP fmP dmP e1P e2P fkP pnP fnP)) hD hS hA [0, 1, 2, 3, 4, 5, 6, 7, 8, 9, 10] rfl
    refine va_calli (va_runV (As := [.int p2, .long p3.toInt64]) (rest := []) ⟨hx, hb, hml, hown, hts⟩ (met_X1_allowsPart l D cs ev _ adP kdP grP cvP brP hzP fmP dmP e1P e2P fkP pnP fnP p2 p3.toInt64 _ h) (cwV 2 hts gX1_allows_X1_allowsPart rfl rfl rfl (by decide +kernel) ⟨Nat.le_of_ble_eq_true rfl, Nat.le_of_ble_eq_true rfl⟩) (mPreV (va_recv hK hP (ci := 1) (q0 := 0) rfl rfl) hP hD hS hK hE hFc [0, 1, 2, 3, 4, 5, 6, 7, 8, 9, 10] (by decide) rfl) rfl rfl hl.1 rfl (lv_room (Nat.le_of_ble_eq_true rfl)) dX1_allows_52 ⟨Nat.le_of_ble_eq_true rfl, Nat.le_of_ble_eq_true rfl⟩) hS (fun q _ h => hFc q h) hFc (fun r_2 u t H1 locs ht hvm hw hB hz1 hk1 hS => ?_)
    have h := hw
    obtain ⟨hP1, hK1, hD1⟩ := hB
    rw [ht] at hP1
    obtain ⟨hP, hD⟩ := mJoin (wr := ([] : va_W)) (w1 := (sh_P cs adP kdP grP cvP brP hzP fmP dmP e1P e2P fkP pnP fnP)) (w' := (sh_P cs adP kdP grP cvP brP hzP fmP dmP e1P e2P fkP pnP fnP)) hP hD [0, 1, 2, 3, 4, 5, 6, 7, 8, 9, 10] [] rfl rfl (by decide) (by decide) hk1 hFc hP1 hD1 [0, 1, 2, 3, 4, 5, 6, 7, 8, 9, 10] (by decide) rfl
    generalize H1 = H at hP hS ⊢
    have hn := h.1
    have h := h.2
    exact W.zret (v := r_2) hx hb hr hn (fun t ht hW => ⟨⟨r_2, (), rfl, h, by rw [ht]; exact hP, va_K.moved hW.alike hK, hD⟩, hS.F ht⟩) hS.2.2 dX1_allows_55
  · have h := h.2 cs_0
    by_cases cs_1 : (swTab.getD r_1.toNatClampNeg 0) = 2
    · have h := h.1 cs_1
      refine lv_tableIn (tgt := 56) hx hb dX1_allows_8 (by rw [cs_1]; decide) (by rw [cs_1]; decide) (by rw [cs_1]; rfl) (by decide) ?_
      refine lv_aload_n hx hb dX1_allows_56 rfl (lv_at hl 0 rfl) ?_
      refine lv_iload_n hx hb dX1_allows_57 rfl (lv_at hl 2 rfl) ?_
      refine lv_iload_n hx hb dX1_allows_58 rfl (lv_at hl 3 rfl) ?_
      have hFc := va_free (wc := (sh_P cs adP kdP grP cvP brP hzP fmP dmP e1P e2P fkP pnP fnP)) hD hS hA [0, 1, 2, 3, 4, 5, 6, 7, 8, 9, 10] rfl
      refine va_calli (va_runV (As := [.int p2, .int p3]) (rest := []) ⟨hx, hb, hml, hown, hts⟩ (met_X1_allowsCover l D cs ev _ adP kdP grP cvP brP hzP fmP dmP e1P e2P fkP pnP fnP p2 p3 _ h) (cwV 2 hts gX1_allows_X1_allowsCover rfl rfl rfl (by decide +kernel) ⟨Nat.le_of_ble_eq_true rfl, Nat.le_of_ble_eq_true rfl⟩) (mPreV (va_recv hK hP (ci := 1) (q0 := 0) rfl rfl) hP hD hS hK hE hFc [0, 1, 2, 3, 4, 5, 6, 7, 8, 9, 10] (by decide) rfl) rfl rfl hl.1 rfl (lv_room (Nat.le_of_ble_eq_true rfl)) dX1_allows_59 ⟨Nat.le_of_ble_eq_true rfl, Nat.le_of_ble_eq_true rfl⟩) hS (fun q _ h => hFc q h) hFc (fun r_3 u t H1 locs ht hvm hw hB hz1 hk1 hS => ?_)
      have h := hw
      obtain ⟨hP1, hK1, hD1⟩ := hB
      rw [ht] at hP1
      obtain ⟨hP, hD⟩ := mJoin (wr := ([] : va_W)) (w1 := (sh_P cs adP kdP grP cvP brP hzP fmP dmP e1P e2P fkP pnP fnP)) (w' := (sh_P cs adP kdP grP cvP brP hzP fmP dmP e1P e2P fkP pnP fnP)) hP hD [0, 1, 2, 3, 4, 5, 6, 7, 8, 9, 10] [] rfl rfl (by decide) (by decide) hk1 hFc hP1 hD1 [0, 1, 2, 3, 4, 5, 6, 7, 8, 9, 10] (by decide) rfl
      generalize H1 = H at hP hS ⊢
      have hn := h.1
      have h := h.2
      exact W.zret (v := r_3) hx hb hr hn (fun t ht hW => ⟨⟨r_3, (), rfl, h, by rw [ht]; exact hP, va_K.moved hW.alike hK, hD⟩, hS.F ht⟩) hS.2.2 dX1_allows_62
    · have h := h.2 cs_1
      by_cases cs_2 : (swTab.getD r_1.toNatClampNeg 0) = 3
      · have h := h.1 cs_2
        refine lv_tableIn (tgt := 63) hx hb dX1_allows_8 (by rw [cs_2]; decide) (by rw [cs_2]; decide) (by rw [cs_2]; rfl) (by decide) ?_
        refine lv_aload_n hx hb dX1_allows_63 rfl (lv_at hl 0 rfl) ?_
        refine lv_iload_n hx hb dX1_allows_64 rfl (lv_at hl 2 rfl) ?_
        refine lv_iload_n hx hb dX1_allows_65 rfl (lv_at hl 3 rfl) ?_
        refine lv_iload hx hb dX1_allows_66 (lv_at hl 4 rfl) ?_
        have hFc := va_free (wc := (sh_P cs adP kdP grP cvP brP hzP fmP dmP e1P e2P fkP pnP fnP)) hD hS hA [0, 1, 2, 3, 4, 5, 6, 7, 8, 9, 10] rfl
        refine va_calli (va_runV (As := [.int p2, .int p3, .int p4]) (rest := []) ⟨hx, hb, hml, hown, hts⟩ (met_X1_allowsBar l D cs ev _ adP kdP grP cvP brP hzP fmP dmP e1P e2P fkP pnP fnP p2 p3 p4 _ h) (cwV 3 hts gX1_allows_X1_allowsBar rfl rfl rfl (by decide +kernel) ⟨Nat.le_of_ble_eq_true rfl, Nat.le_of_ble_eq_true rfl⟩) (mPreV (va_recv hK hP (ci := 1) (q0 := 0) rfl rfl) hP hD hS hK hE hFc [0, 1, 2, 3, 4, 5, 6, 7, 8, 9, 10] (by decide) rfl) rfl rfl hl.1 rfl (lv_room (Nat.le_of_ble_eq_true rfl)) dX1_allows_68 ⟨Nat.le_of_ble_eq_true rfl, Nat.le_of_ble_eq_true rfl⟩) hS (fun q _ h => hFc q h) hFc (fun r_4 u t H1 locs ht hvm hw hB hz1 hk1 hS => ?_)
        have h := hw
        obtain ⟨hP1, hK1, hD1⟩ := hB
        rw [ht] at hP1
        obtain ⟨hP, hD⟩ := mJoin (wr := ([] : va_W)) (w1 := (sh_P cs adP kdP grP cvP brP hzP fmP dmP e1P e2P fkP pnP fnP)) (w' := (sh_P cs adP kdP grP cvP brP hzP fmP dmP e1P e2P fkP pnP fnP)) hP hD [0, 1, 2, 3, 4, 5, 6, 7, 8, 9, 10] [] rfl rfl (by decide) (by decide) hk1 hFc hP1 hD1 [0, 1, 2, 3, 4, 5, 6, 7, 8, 9, 10] (by decide) rfl
        generalize H1 = H at hP hS ⊢
        have hn := h.1
        have h := h.2
        exact W.zret (v := r_4) hx hb hr hn (fun t ht hW => ⟨⟨r_4, (), rfl, h, by rw [ht]; exact hP, va_K.moved hW.alike hK, hD⟩, hS.F ht⟩) hS.2.2 dX1_allows_71
      · have h := h.2 cs_2
        by_cases cs_3 : (swTab.getD r_1.toNatClampNeg 0) = 4
        · have h := h.1 cs_3
          refine lv_tableIn (tgt := 72) hx hb dX1_allows_8 (by rw [cs_3]; decide) (by rw [cs_3]; decide) (by rw [cs_3]; rfl) (by decide) ?_
          refine lv_aload_n hx hb dX1_allows_72 rfl (lv_at hl 0 rfl) ?_
          refine lv_iload_n hx hb dX1_allows_73 rfl (lv_at hl 2 rfl) ?_
          refine lv_iload_n hx hb dX1_allows_74 rfl (lv_at hl 3 rfl) ?_
          refine lv_iload hx hb dX1_allows_75 (lv_at hl 4 rfl) ?_
          have hFc := va_free (wc := (sh_P cs adP kdP grP cvP brP hzP fmP dmP e1P e2P fkP pnP fnP)) hD hS hA [0, 1, 2, 3, 4, 5, 6, 7, 8, 9, 10] rfl
          refine va_calli (va_runV (As := [.int p2, .int p3, .int p4]) (rest := []) ⟨hx, hb, hml, hown, hts⟩ (met_X1_allowsFastening l D cs ev _ adP kdP grP cvP brP hzP fmP dmP e1P e2P fkP pnP fnP p2 p3 p4 _ h) (cwV 3 hts gX1_allows_X1_allowsFastening rfl rfl rfl (by decide +kernel) ⟨Nat.le_of_ble_eq_true rfl, Nat.le_of_ble_eq_true rfl⟩) (mPreV (va_recv hK hP (ci := 1) (q0 := 0) rfl rfl) hP hD hS hK hE hFc [0, 1, 2, 3, 4, 5, 6, 7, 8, 9, 10] (by decide) rfl) rfl rfl hl.1 rfl (lv_room (Nat.le_of_ble_eq_true rfl)) dX1_allows_77 ⟨Nat.le_of_ble_eq_true rfl, Nat.le_of_ble_eq_true rfl⟩) hS (fun q _ h => hFc q h) hFc (fun r_5 u t H1 locs ht hvm hw hB hz1 hk1 hS => ?_)
          have h := hw
          obtain ⟨hP1, hK1, hD1⟩ := hB
          rw [ht] at hP1
          obtain ⟨hP, hD⟩ := mJoin (wr := ([] : va_W)) (w1 := (sh_P cs adP kdP grP cvP brP hzP fmP dmP e1P e2P fkP pnP fnP)) (w' := (sh_P cs adP kdP grP cvP brP hzP fmP dmP e1P e2P fkP pnP fnP)) hP hD [0, 1, 2, 3, 4, 5, 6, 7, 8, 9, 10] [] rfl rfl (by decide) (by decide) hk1 hFc hP1 hD1 [0, 1, 2, 3, 4, 5, 6, 7, 8, 9, 10] (by decide) rfl
          generalize H1 = H at hP hS ⊢
          have hn := h.1
          have h := h.2
          exact W.zret (v := r_5) hx hb hr hn (fun t ht hW => ⟨⟨r_5, (), rfl, h, by rw [ht]; exact hP, va_K.moved hW.alike hK, hD⟩, hS.F ht⟩) hS.2.2 dX1_allows_80
        · have h := h.2 cs_3
          by_cases cs_4 : (swTab.getD r_1.toNatClampNeg 0) = 5
          · have h := h.1 cs_4
            refine lv_tableIn (tgt := 81) hx hb dX1_allows_8 (by rw [cs_4]; decide) (by rw [cs_4]; decide) (by rw [cs_4]; rfl) (by decide) ?_
            refine lv_aload_n hx hb dX1_allows_81 rfl (lv_at hl 0 rfl) ?_
            refine lv_iload_n hx hb dX1_allows_82 rfl (lv_at hl 2 rfl) ?_
            refine lv_iload_n hx hb dX1_allows_83 rfl (lv_at hl 3 rfl) ?_
            have hFc := va_free (wc := (sh_P cs adP kdP grP cvP brP hzP fmP dmP e1P e2P fkP pnP fnP)) hD hS hA [0, 1, 2, 3, 4, 5, 6, 7, 8, 9, 10] rfl
            refine va_calli (va_runV (As := [.int p2, .int p3]) (rest := []) ⟨hx, hb, hml, hown, hts⟩ (met_X1_allowsHazard l D cs ev _ adP kdP grP cvP brP hzP fmP dmP e1P e2P fkP pnP fnP p2 p3 _ h) (cwV 2 hts gX1_allows_X1_allowsHazard rfl rfl rfl (by decide +kernel) ⟨Nat.le_of_ble_eq_true rfl, Nat.le_of_ble_eq_true rfl⟩) (mPreV (va_recv hK hP (ci := 1) (q0 := 0) rfl rfl) hP hD hS hK hE hFc [0, 1, 2, 3, 4, 5, 6, 7, 8, 9, 10] (by decide) rfl) rfl rfl hl.1 rfl (lv_room (Nat.le_of_ble_eq_true rfl)) dX1_allows_84 ⟨Nat.le_of_ble_eq_true rfl, Nat.le_of_ble_eq_true rfl⟩) hS (fun q _ h => hFc q h) hFc (fun r_6 u t H1 locs ht hvm hw hB hz1 hk1 hS => ?_)
            have h := hw
            obtain ⟨hP1, hK1, hD1⟩ := hB
            rw [ht] at hP1
            obtain ⟨hP, hD⟩ := mJoin (wr := ([] : va_W)) (w1 := (sh_P cs adP kdP grP cvP brP hzP fmP dmP e1P e2P fkP pnP fnP)) (w' := (sh_P cs adP kdP grP cvP brP hzP fmP dmP e1P e2P fkP pnP fnP)) hP hD [0, 1, 2, 3, 4, 5, 6, 7, 8, 9, 10] [] rfl rfl (by decide) (by decide) hk1 hFc hP1 hD1 [0, 1, 2, 3, 4, 5, 6, 7, 8, 9, 10] (by decide) rfl
            generalize H1 = H at hP hS ⊢
            have hn := h.1
            have h := h.2
            exact W.zret (v := r_6) hx hb hr hn (fun t ht hW => ⟨⟨r_6, (), rfl, h, by rw [ht]; exact hP, va_K.moved hW.alike hK, hD⟩, hS.F ht⟩) hS.2.2 dX1_allows_87
          · have h := h.2 cs_4
            by_cases cs_5 : (swTab.getD r_1.toNatClampNeg 0) = 6
            · have h := h.1 cs_5
              refine lv_tableIn (tgt := 88) hx hb dX1_allows_8 (by rw [cs_5]; decide) (by rw [cs_5]; decide) (by rw [cs_5]; rfl) (by decide) ?_
              refine lv_aload_n hx hb dX1_allows_88 rfl (lv_at hl 0 rfl) ?_
              refine lv_iload_n hx hb dX1_allows_89 rfl (lv_at hl 2 rfl) ?_
              refine lv_iload_n hx hb dX1_allows_90 rfl (lv_at hl 3 rfl) ?_
              have hFc := va_free (wc := (sh_P cs adP kdP grP cvP brP hzP fmP dmP e1P e2P fkP pnP fnP)) hD hS hA [0, 1, 2, 3, 4, 5, 6, 7, 8, 9, 10] rfl
              refine va_calli (va_runV (As := [.int p2, .int p3]) (rest := []) ⟨hx, hb, hml, hown, hts⟩ (met_X1_allowsOption l D cs ev _ adP kdP grP cvP brP hzP fmP dmP e1P e2P fkP pnP fnP p2 p3 _ h) (cwV 2 hts gX1_allows_X1_allowsOption rfl rfl rfl (by decide +kernel) ⟨Nat.le_of_ble_eq_true rfl, Nat.le_of_ble_eq_true rfl⟩) (mPreV (va_recv hK hP (ci := 1) (q0 := 0) rfl rfl) hP hD hS hK hE hFc [0, 1, 2, 3, 4, 5, 6, 7, 8, 9, 10] (by decide) rfl) rfl rfl hl.1 rfl (lv_room (Nat.le_of_ble_eq_true rfl)) dX1_allows_91 ⟨Nat.le_of_ble_eq_true rfl, Nat.le_of_ble_eq_true rfl⟩) hS (fun q _ h => hFc q h) hFc (fun r_7 u t H1 locs ht hvm hw hB hz1 hk1 hS => ?_)
              have h := hw
              obtain ⟨hP1, hK1, hD1⟩ := hB
              rw [ht] at hP1
              obtain ⟨hP, hD⟩ := mJoin (wr := ([] : va_W)) (w1 := (sh_P cs adP kdP grP cvP brP hzP fmP dmP e1P e2P fkP pnP fnP)) (w' := (sh_P cs adP kdP grP cvP brP hzP fmP dmP e1P e2P fkP pnP fnP)) hP hD [0, 1, 2, 3, 4, 5, 6, 7, 8, 9, 10] [] rfl rfl (by decide) (by decide) hk1 hFc hP1 hD1 [0, 1, 2, 3, 4, 5, 6, 7, 8, 9, 10] (by decide) rfl
              generalize H1 = H at hP hS ⊢
              have hn := h.1
              have h := h.2
              exact W.zret (v := r_7) hx hb hr hn (fun t ht hW => ⟨⟨r_7, (), rfl, h, by rw [ht]; exact hP, va_K.moved hW.alike hK, hD⟩, hS.F ht⟩) hS.2.2 dX1_allows_94
            · have h := h.2 cs_5
              refine lv_tableOut (tgt := 95) hx hb dX1_allows_8 (by have q0 := lv_neT cs_0 (show (1 : Int32).toInt = 1 by decide); have q1 := lv_neT cs_1 (show (2 : Int32).toInt = 2 by decide); have q2 := lv_neT cs_2 (show (3 : Int32).toInt = 3 by decide); have q3 := lv_neT cs_3 (show (4 : Int32).toInt = 4 by decide); have q4 := lv_neT cs_4 (show (5 : Int32).toInt = 5 by decide); have q5 := lv_neT cs_5 (show (6 : Int32).toInt = 6 by decide); omega) (by decide) ?_
              refine lv_aload_n hx hb dX1_allows_95 rfl (lv_at hl 0 rfl) ?_
              refine lv_iload_n hx hb dX1_allows_96 rfl (lv_at hl 2 rfl) ?_
              refine lv_iload_n hx hb dX1_allows_97 rfl (lv_at hl 3 rfl) ?_
              have hFc := va_free (wc := (sh_P cs adP kdP grP cvP brP hzP fmP dmP e1P e2P fkP pnP fnP)) hD hS hA [0, 1, 2, 3, 4, 5, 6, 7, 8, 9, 10] rfl
              refine va_calli (va_runV (As := [.int p2, .int p3]) (rest := []) ⟨hx, hb, hml, hown, hts⟩ (met_X1_allowsDamage l D cs ev _ adP kdP grP cvP brP hzP fmP dmP e1P e2P fkP pnP fnP p2 p3 _ h) (cwV 2 hts gX1_allows_X1_allowsDamage rfl rfl rfl (by decide +kernel) ⟨Nat.le_of_ble_eq_true rfl, Nat.le_of_ble_eq_true rfl⟩) (mPreV (va_recv hK hP (ci := 1) (q0 := 0) rfl rfl) hP hD hS hK hE hFc [0, 1, 2, 3, 4, 5, 6, 7, 8, 9, 10] (by decide) rfl) rfl rfl hl.1 rfl (lv_room (Nat.le_of_ble_eq_true rfl)) dX1_allows_98 ⟨Nat.le_of_ble_eq_true rfl, Nat.le_of_ble_eq_true rfl⟩) hS (fun q _ h => hFc q h) hFc (fun r_8 u t H1 locs ht hvm hw hB hz1 hk1 hS => ?_)
              have h := hw
              obtain ⟨hP1, hK1, hD1⟩ := hB
              rw [ht] at hP1
              obtain ⟨hP, hD⟩ := mJoin (wr := ([] : va_W)) (w1 := (sh_P cs adP kdP grP cvP brP hzP fmP dmP e1P e2P fkP pnP fnP)) (w' := (sh_P cs adP kdP grP cvP brP hzP fmP dmP e1P e2P fkP pnP fnP)) hP hD [0, 1, 2, 3, 4, 5, 6, 7, 8, 9, 10] [] rfl rfl (by decide) (by decide) hk1 hFc hP1 hD1 [0, 1, 2, 3, 4, 5, 6, 7, 8, 9, 10] (by decide) rfl
              generalize H1 = H at hP hS ⊢
              have hn := h.1
              have h := h.2
              exact W.zret (v := r_8) hx hb hr hn (fun t ht hW => ⟨⟨r_8, (), rfl, h, by rw [ht]; exact hP, va_K.moved hW.alike hK, hD⟩, hS.F ht⟩) hS.2.2 dX1_allows_101
def wp_X1_carryOut (kdP : Nat → Int32) (grP : Nat → Int64) (cvP : Nat → Int32) (brP : Nat → Int32) (hzP : Nat → Int32) (fmP : Nat → Int32) (dmP : Nat → Int32) (e1P : Nat → Int32) (e2P : Nat → Int32) (fkP : Nat → Int32) (pnP : Int32) (fnP : Int32) (k : Nat) (p2 : Int32) (p3 : Int32) (p4 : Int32) (post : ((Nat → Int32) × (Nat → Int64) × (Nat → Int32) × (Nat → Int32) × (Nat → Int32) × (Nat → Int32) × (Nat → Int32) × (Nat → Int32) × (Nat → Int32) × (Nat → Int32) × Int32 × Int32) → Prop) : Prop :=
    (k < 7 ∧ wp_Jx29ce0_ordinal_8abf5 k (fun r_1 _ => (vp_in r_1 7 ∧ (((swTab.getD r_1.toNatClampNeg 0) = 1 → wp_X1_addPart kdP grP cvP brP hzP fmP dmP pnP p2 p3.toInt64 (fun r_2 u => match u with | (kd_3, gr_4, cv_5, br_6, hz_7, fm_8, dm_9, pn_10) => post (kd_3, gr_4, cv_5, br_6, hz_7, fm_8, dm_9, e1P, e2P, fkP, pn_10, fnP))) ∧ (¬ (swTab.getD r_1.toNatClampNeg 0) = 1 → (((swTab.getD r_1.toNatClampNeg 0) = 2 → wp_X1_addCover cvP pnP p2 p3 (fun r_11 cv_12 => post (kdP, grP, cv_12, brP, hzP, fmP, dmP, e1P, e2P, fkP, pnP, fnP))) ∧ (¬ (swTab.getD r_1.toNatClampNeg 0) = 2 → (((swTab.getD r_1.toNatClampNeg 0) = 3 → wp_X1_addBar brP pnP p2 p3 p4 (fun r_13 br_14 => post (kdP, grP, cvP, br_14, hzP, fmP, dmP, e1P, e2P, fkP, pnP, fnP))) ∧ (¬ (swTab.getD r_1.toNatClampNeg 0) = 3 → (((swTab.getD r_1.toNatClampNeg 0) = 4 → wp_X1_addFastening e1P e2P fkP pnP fnP p2 p3 p4 (fun r_15 u => match u with | (e1_16, e2_17, fk_18, fn_19) => post (kdP, grP, cvP, brP, hzP, fmP, dmP, e1_16, e2_17, fk_18, pnP, fn_19))) ∧ (¬ (swTab.getD r_1.toNatClampNeg 0) = 4 → (((swTab.getD r_1.toNatClampNeg 0) = 5 → wp_X1_addHazard hzP pnP p2 p3 (fun r_20 hz_21 => post (kdP, grP, cvP, brP, hz_21, fmP, dmP, e1P, e2P, fkP, pnP, fnP))) ∧ (¬ (swTab.getD r_1.toNatClampNeg 0) = 5 → (((swTab.getD r_1.toNatClampNeg 0) = 6 → wp_X1_addOption fmP pnP p2 p3 (fun r_22 fm_23 => post (kdP, grP, cvP, brP, hzP, fm_23, dmP, e1P, e2P, fkP, pnP, fnP))) ∧ (¬ (swTab.getD r_1.toNatClampNeg 0) = 6 → wp_X1_setDamage dmP pnP p2 p3 (fun r_24 dm_25 => post (kdP, grP, cvP, brP, hzP, fmP, dm_25, e1P, e2P, fkP, pnP, fnP)))))))))))))))))
set_option maxHeartbeats 4000000 in
set_option maxRecDepth 100000 in
theorem met_X1_carryOut (l : Launch) (D : va_G) (cs : Nat → ClassId) (ev : Nat → Nat → Nat) (sz0 : Nat) (adP : Nat → Nat) (kdP : Nat → Int32) (grP : Nat → Int64) (cvP : Nat → Int32) (brP : Nat → Int32) (hzP : Nat → Int32) (fmP : Nat → Int32) (dmP : Nat → Int32) (e1P : Nat → Int32) (e2P : Nat → Int32) (fkP : Nat → Int32) (pnP : Int32) (fnP : Int32) (k : Nat) (p2 : Int32) (p3 : Int32) (p4 : Int32) (post : ((Nat → Int32) × (Nat → Int64) × (Nat → Int32) × (Nat → Int32) × (Nat → Int32) × (Nat → Int32) × (Nat → Int32) × (Nat → Int32) × (Nat → Int32) × (Nat → Int32) × Int32 × Int32) → Prop) (h : wp_X1_carryOut kdP grP cvP brP hzP fmP dmP e1P e2P fkP pnP fnP k p2 p3 p4 post) : Met l yX1_carryOut wsX1_carryOut ({ frames := 3, cells := 0, slots := 0, locals := 69 }) (va_Pc [.ref (adP 0), .ref (ev 0 k), .int p2, .int p3, .int p4] (mPre D cs ev (sh_P cs adP kdP grP cvP brP hzP fmP dmP e1P e2P fkP pnP fnP) sz0)) (va_Qv post (fun u t => match u with | (kdP', grP', cvP', brP', hzP', fmP', dmP', e1P', e2P', fkP', pnP', fnP') => mAt D cs (va_A (sh_P cs adP kdP grP cvP brP hzP fmP dmP e1P e2P fkP pnP fnP) sz0) (sh_P cs adP kdP' grP' cvP' brP' hzP' fmP' dmP' e1P' e2P' fkP' pnP' fnP') t) (va_A (sh_P cs adP kdP grP cvP brP hzP fmP dmP e1P e2P fkP pnP fnP) sz0)) 0 0 (va_A (sh_P cs adP kdP grP cvP brP hzP fmP dmP e1P e2P fkP pnP fnP) sz0) := by
  refine Met.ofW (cc := cX1_carryOut) (maxL := 5) (ret := none) (by decide) rfl ?_
  intro p e s m args below meth c s₁ B hml hv
  obtain ⟨rfl, hsz, hP, hK, hD0, hE⟩ := hv
  have hx := B.exec
  have hb := B.bytes
  have hr := B.returns
  have hts := atoms_spec (ws := wsX1_carryOut) B.pre
  have hown : s.vm.findClass RX1 = some m.cls := findClass_of_methodNamed B.named
  have hlocks := B.notSynchronized
  subst hsz
  have hD := hD0.self (sz := s.heap.size)
  generalize hAe : va_A (sh_P cs adP kdP grP cvP brP hzP fmP dmP e1P e2P fkP pnP fnP) s.heap.size = A at hD hE ⊢
  have hA : ∀ q : Nat, s.heap.size ≤ q → A q := fun q h => by rw [← hAe]; exact Or.inr h
  have hS : va_S A s.heap s.heap [] := va_S.rf
  have hl := lv_entry ([.ref (adP 0), .ref (ev 0 k), .int p2, .int p3, .int p4]) (n := 5) (Nat.le_of_ble_eq_true rfl)
  rw [lg_entry_eq]
  generalize (lg_sl ([.ref (adP 0), .ref (ev 0 k), .int p2, .int p3, .int p4]) ++ List.replicate (5 - (lg_sl ([.ref (adP 0), .ref (ev 0 k), .int p2, .int p3, .int p4])).length) Slot.unset).toArray = ls at hl ⊢
  have hl : lv_has ls 5 [(0, .ref (adP 0)), (1, .ref (ev 0 k)), (2, .int p2), (3, .int p3), (4, .int p4)] := hl
  refine va_gets hx hb hE.2.2.2.2.2.2.2.1 hS hown (hts (.fieldLink RX1 93 "PartGraphs$1" "$SwitchMap$PartGraphs$Verb" "[I") (by decide +kernel)) (fun _ h9 => h9) dX1_carryOut_0 ?_
  refine lv_aload_n hx hb dX1_carryOut_3 rfl (lv_at hl 1 rfl) ?_
  have hk := h.1
  have h := h.2
  have hFc := va_free (wc := ([] : va_W)) hD hS hA [] rfl
  refine va_calli (va_runU (As := []) (rest := [.ref (ev 3 1)]) ⟨hx, hb, hml, hown, hts⟩ (met_Jx29ce0_ordinal_8abf5 l D cs ev _ k _ h) (va_cwU 0 hts gX1_carryOut_Jx29ce0_ordinal_8abf5_u98X4 rfl rfl rfl rfl (by decide +kernel) ⟨Nat.le_of_ble_eq_true rfl, Nat.le_of_ble_eq_true rfl⟩) (mPreV (va_recvE hE.2.2.1 hk hS) hP hD hS hK hE hFc [] (by decide) rfl) rfl rfl hl.1 rfl (lv_room (Nat.le_of_ble_eq_true rfl)) dX1_carryOut_4 ⟨Nat.le_of_ble_eq_true rfl, Nat.le_of_ble_eq_true rfl⟩) hS (fun q _ h => hFc q h) hFc (fun r_1 u t H1 locs ht hvm hw hB hz1 hk1 hS => ?_)
  have h := hw
  obtain ⟨hP1, hK1, hD1⟩ := hB
  rw [ht] at hP1
  obtain ⟨hP, hD⟩ := mJoin (wr := (sh_P cs adP kdP grP cvP brP hzP fmP dmP e1P e2P fkP pnP fnP)) (w1 := ([] : va_W)) (w' := (sh_P cs adP kdP grP cvP brP hzP fmP dmP e1P e2P fkP pnP fnP)) hP hD [] [0, 1, 2, 3, 4, 5, 6, 7, 8, 9, 10] rfl rfl (by decide) (by decide) hk1 hFc hP1 hD1 [0, 1, 2, 3, 4, 5, 6, 7, 8, 9, 10] (by decide) rfl
  generalize H1 = H at hP hS ⊢
  have hin := h.1
  have h := h.2
  refine va_ti (v := .int (swTab.getD r_1.toNatClampNeg 0)) hx hb hE.2.2.2.2.2.2.2.2.1 hS hin rfl dX1_carryOut_7 ?_
  by_cases cs_0 : (swTab.getD r_1.toNatClampNeg 0) = 1
  · have h := h.1 cs_0
    refine lv_tableIn (tgt := 48) hx hb dX1_carryOut_8 (by rw [cs_0]; decide) (by rw [cs_0]; decide) (by rw [cs_0]; rfl) (by decide) ?_
    refine lv_aload_n hx hb dX1_carryOut_48 rfl (lv_at hl 0 rfl) ?_
    refine lv_iload_n hx hb dX1_carryOut_49 rfl (lv_at hl 2 rfl) ?_
    refine lv_iload_n hx hb dX1_carryOut_50 rfl (lv_at hl 3 rfl) ?_
    refine lv_i2l hx hb dX1_carryOut_51 rfl ?_
    have hFc := va_free (wc := (sh_P cs adP kdP grP cvP brP hzP fmP dmP e1P e2P fkP pnP fnP)) hD hS hA [0, 1, 2, 3, 4, 5, 6, 7, 8, 9, 10] rfl
    refine va_calli (va_runV (As := [.int p2, .long p3.toInt64]) (rest := []) ⟨hx, hb, hml, hown, hts⟩ (met_X1_addPart l D cs ev _ adP kdP grP cvP brP hzP fmP dmP e1P e2P fkP pnP fnP p2 p3.toInt64 _ h) (cwV 2 hts gX1_carryOut_X1_addPart rfl rfl rfl (by decide +kernel) ⟨Nat.le_of_ble_eq_true rfl, Nat.le_of_ble_eq_true rfl⟩) (mPreV (va_recv hK hP (ci := 1) (q0 := 0) rfl rfl) hP hD hS hK hE hFc [0, 1, 2, 3, 4, 5, 6, 7, 8, 9, 10] (by decide) rfl) rfl rfl hl.1 rfl (lv_room (Nat.le_of_ble_eq_true rfl)) dX1_carryOut_52 ⟨Nat.le_of_ble_eq_true rfl, Nat.le_of_ble_eq_true rfl⟩) hS (fun q _ h => hFc q h) hFc (fun r_2 u t H1 locs ht hvm hw hB hz1 hk1 hS => ?_)
    obtain ⟨kd_3, gr_4, cv_5, br_6, hz_7, fm_8, dm_9, pn_10⟩ := u
    have h := hw
    obtain ⟨hP1, hK1, hD1⟩ := hB
    rw [ht] at hP1
    obtain ⟨hP, hD⟩ := mJoin (wr := ([] : va_W)) (w1 := (sh_P cs adP kd_3 gr_4 cv_5 br_6 hz_7 fm_8 dm_9 e1P e2P fkP pn_10 fnP)) (w' := (sh_P cs adP kd_3 gr_4 cv_5 br_6 hz_7 fm_8 dm_9 e1P e2P fkP pn_10 fnP)) hP hD [0, 1, 2, 3, 4, 5, 6, 7, 8, 9, 10] [] rfl rfl (by decide) (by decide) hk1 hFc hP1 hD1 [0, 1, 2, 3, 4, 5, 6, 7, 8, 9, 10] (by decide) rfl
    generalize H1 = H at hP hS ⊢
    refine lv_pop hx hb dX1_carryOut_55 rfl ?_
    refine lv_goto (tgt := 120) hx hb dX1_carryOut_56 (by decide) ?_
    exact W.vret hx hb hr (fun t ht hW => ⟨⟨(kd_3, gr_4, cv_5, br_6, hz_7, fm_8, dm_9, e1P, e2P, fkP, pn_10, fnP), rfl, h, by rw [ht]; exact hP, va_K.moved hW.alike hK, hD⟩, hS.F ht⟩) hS.2.2 dX1_carryOut_120
  · have h := h.2 cs_0
    by_cases cs_1 : (swTab.getD r_1.toNatClampNeg 0) = 2
    · have h := h.1 cs_1
      refine lv_tableIn (tgt := 59) hx hb dX1_carryOut_8 (by rw [cs_1]; decide) (by rw [cs_1]; decide) (by rw [cs_1]; rfl) (by decide) ?_
      refine lv_aload_n hx hb dX1_carryOut_59 rfl (lv_at hl 0 rfl) ?_
      refine lv_iload_n hx hb dX1_carryOut_60 rfl (lv_at hl 2 rfl) ?_
      refine lv_iload_n hx hb dX1_carryOut_61 rfl (lv_at hl 3 rfl) ?_
      have hFc := va_free (wc := (sh_P cs adP kdP grP cvP brP hzP fmP dmP e1P e2P fkP pnP fnP)) hD hS hA [0, 1, 2, 3, 4, 5, 6, 7, 8, 9, 10] rfl
      refine va_calli (va_runV (As := [.int p2, .int p3]) (rest := []) ⟨hx, hb, hml, hown, hts⟩ (met_X1_addCover l D cs ev _ adP kdP grP cvP brP hzP fmP dmP e1P e2P fkP pnP fnP p2 p3 _ h) (cwV 2 hts gX1_carryOut_X1_addCover rfl rfl rfl (by decide +kernel) ⟨Nat.le_of_ble_eq_true rfl, Nat.le_of_ble_eq_true rfl⟩) (mPreV (va_recv hK hP (ci := 1) (q0 := 0) rfl rfl) hP hD hS hK hE hFc [0, 1, 2, 3, 4, 5, 6, 7, 8, 9, 10] (by decide) rfl) rfl rfl hl.1 rfl (lv_room (Nat.le_of_ble_eq_true rfl)) dX1_carryOut_62 ⟨Nat.le_of_ble_eq_true rfl, Nat.le_of_ble_eq_true rfl⟩) hS (fun q _ h => hFc q h) hFc (fun r_11 u t H1 locs ht hvm hw hB hz1 hk1 hS => ?_)
      obtain ⟨cv_12, rfl⟩ : ∃ z, z = u := ⟨_, rfl⟩
      have h := hw
      obtain ⟨hP1, hK1, hD1⟩ := hB
      rw [ht] at hP1
      obtain ⟨hP, hD⟩ := mJoin (wr := ([] : va_W)) (w1 := (sh_P cs adP kdP grP cv_12 brP hzP fmP dmP e1P e2P fkP pnP fnP)) (w' := (sh_P cs adP kdP grP cv_12 brP hzP fmP dmP e1P e2P fkP pnP fnP)) hP hD [0, 1, 2, 3, 4, 5, 6, 7, 8, 9, 10] [] rfl rfl (by decide) (by decide) hk1 hFc hP1 hD1 [0, 1, 2, 3, 4, 5, 6, 7, 8, 9, 10] (by decide) rfl
      generalize H1 = H at hP hS ⊢
      refine lv_pop hx hb dX1_carryOut_65 rfl ?_
      refine lv_goto (tgt := 120) hx hb dX1_carryOut_66 (by decide) ?_
      exact W.vret hx hb hr (fun t ht hW => ⟨⟨(kdP, grP, cv_12, brP, hzP, fmP, dmP, e1P, e2P, fkP, pnP, fnP), rfl, h, by rw [ht]; exact hP, va_K.moved hW.alike hK, hD⟩, hS.F ht⟩) hS.2.2 dX1_carryOut_120
    · have h := h.2 cs_1
      by_cases cs_2 : (swTab.getD r_1.toNatClampNeg 0) = 3
      · have h := h.1 cs_2
        refine lv_tableIn (tgt := 69) hx hb dX1_carryOut_8 (by rw [cs_2]; decide) (by rw [cs_2]; decide) (by rw [cs_2]; rfl) (by decide) ?_
        refine lv_aload_n hx hb dX1_carryOut_69 rfl (lv_at hl 0 rfl) ?_
        refine lv_iload_n hx hb dX1_carryOut_70 rfl (lv_at hl 2 rfl) ?_
        refine lv_iload_n hx hb dX1_carryOut_71 rfl (lv_at hl 3 rfl) ?_
        refine lv_iload hx hb dX1_carryOut_72 (lv_at hl 4 rfl) ?_
        have hFc := va_free (wc := (sh_P cs adP kdP grP cvP brP hzP fmP dmP e1P e2P fkP pnP fnP)) hD hS hA [0, 1, 2, 3, 4, 5, 6, 7, 8, 9, 10] rfl
        refine va_calli (va_runV (As := [.int p2, .int p3, .int p4]) (rest := []) ⟨hx, hb, hml, hown, hts⟩ (met_X1_addBar l D cs ev _ adP kdP grP cvP brP hzP fmP dmP e1P e2P fkP pnP fnP p2 p3 p4 _ h) (cwV 3 hts gX1_carryOut_X1_addBar rfl rfl rfl (by decide +kernel) ⟨Nat.le_of_ble_eq_true rfl, Nat.le_of_ble_eq_true rfl⟩) (mPreV (va_recv hK hP (ci := 1) (q0 := 0) rfl rfl) hP hD hS hK hE hFc [0, 1, 2, 3, 4, 5, 6, 7, 8, 9, 10] (by decide) rfl) rfl rfl hl.1 rfl (lv_room (Nat.le_of_ble_eq_true rfl)) dX1_carryOut_74 ⟨Nat.le_of_ble_eq_true rfl, Nat.le_of_ble_eq_true rfl⟩) hS (fun q _ h => hFc q h) hFc (fun r_13 u t H1 locs ht hvm hw hB hz1 hk1 hS => ?_)
        obtain ⟨br_14, rfl⟩ : ∃ z, z = u := ⟨_, rfl⟩
        have h := hw
        obtain ⟨hP1, hK1, hD1⟩ := hB
        rw [ht] at hP1
        obtain ⟨hP, hD⟩ := mJoin (wr := ([] : va_W)) (w1 := (sh_P cs adP kdP grP cvP br_14 hzP fmP dmP e1P e2P fkP pnP fnP)) (w' := (sh_P cs adP kdP grP cvP br_14 hzP fmP dmP e1P e2P fkP pnP fnP)) hP hD [0, 1, 2, 3, 4, 5, 6, 7, 8, 9, 10] [] rfl rfl (by decide) (by decide) hk1 hFc hP1 hD1 [0, 1, 2, 3, 4, 5, 6, 7, 8, 9, 10] (by decide) rfl
        generalize H1 = H at hP hS ⊢
        refine lv_pop hx hb dX1_carryOut_77 rfl ?_
        refine lv_goto (tgt := 120) hx hb dX1_carryOut_78 (by decide) ?_
        exact W.vret hx hb hr (fun t ht hW => ⟨⟨(kdP, grP, cvP, br_14, hzP, fmP, dmP, e1P, e2P, fkP, pnP, fnP), rfl, h, by rw [ht]; exact hP, va_K.moved hW.alike hK, hD⟩, hS.F ht⟩) hS.2.2 dX1_carryOut_120
      · have h := h.2 cs_2
        by_cases cs_3 : (swTab.getD r_1.toNatClampNeg 0) = 4
        · have h := h.1 cs_3
          refine lv_tableIn (tgt := 81) hx hb dX1_carryOut_8 (by rw [cs_3]; decide) (by rw [cs_3]; decide) (by rw [cs_3]; rfl) (by decide) ?_
          refine lv_aload_n hx hb dX1_carryOut_81 rfl (lv_at hl 0 rfl) ?_
          refine lv_iload_n hx hb dX1_carryOut_82 rfl (lv_at hl 2 rfl) ?_
          refine lv_iload_n hx hb dX1_carryOut_83 rfl (lv_at hl 3 rfl) ?_
          refine lv_iload hx hb dX1_carryOut_84 (lv_at hl 4 rfl) ?_
          have hFc := va_free (wc := (sh_P cs adP kdP grP cvP brP hzP fmP dmP e1P e2P fkP pnP fnP)) hD hS hA [0, 1, 2, 3, 4, 5, 6, 7, 8, 9, 10] rfl
          refine va_calli (va_runV (As := [.int p2, .int p3, .int p4]) (rest := []) ⟨hx, hb, hml, hown, hts⟩ (met_X1_addFastening l D cs ev _ adP kdP grP cvP brP hzP fmP dmP e1P e2P fkP pnP fnP p2 p3 p4 _ h) (cwV 3 hts gX1_carryOut_X1_addFastening rfl rfl rfl (by decide +kernel) ⟨Nat.le_of_ble_eq_true rfl, Nat.le_of_ble_eq_true rfl⟩) (mPreV (va_recv hK hP (ci := 1) (q0 := 0) rfl rfl) hP hD hS hK hE hFc [0, 1, 2, 3, 4, 5, 6, 7, 8, 9, 10] (by decide) rfl) rfl rfl hl.1 rfl (lv_room (Nat.le_of_ble_eq_true rfl)) dX1_carryOut_86 ⟨Nat.le_of_ble_eq_true rfl, Nat.le_of_ble_eq_true rfl⟩) hS (fun q _ h => hFc q h) hFc (fun r_15 u t H1 locs ht hvm hw hB hz1 hk1 hS => ?_)
          obtain ⟨e1_16, e2_17, fk_18, fn_19⟩ := u
          have h := hw
          obtain ⟨hP1, hK1, hD1⟩ := hB
          rw [ht] at hP1
          obtain ⟨hP, hD⟩ := mJoin (wr := ([] : va_W)) (w1 := (sh_P cs adP kdP grP cvP brP hzP fmP dmP e1_16 e2_17 fk_18 pnP fn_19)) (w' := (sh_P cs adP kdP grP cvP brP hzP fmP dmP e1_16 e2_17 fk_18 pnP fn_19)) hP hD [0, 1, 2, 3, 4, 5, 6, 7, 8, 9, 10] [] rfl rfl (by decide) (by decide) hk1 hFc hP1 hD1 [0, 1, 2, 3, 4, 5, 6, 7, 8, 9, 10] (by decide) rfl
          generalize H1 = H at hP hS ⊢
          refine lv_pop hx hb dX1_carryOut_89 rfl ?_
          refine lv_goto (tgt := 120) hx hb dX1_carryOut_90 (by decide) ?_
          exact W.vret hx hb hr (fun t ht hW => ⟨⟨(kdP, grP, cvP, brP, hzP, fmP, dmP, e1_16, e2_17, fk_18, pnP, fn_19), rfl, h, by rw [ht]; exact hP, va_K.moved hW.alike hK, hD⟩, hS.F ht⟩) hS.2.2 dX1_carryOut_120
        · have h := h.2 cs_3
          by_cases cs_4 : (swTab.getD r_1.toNatClampNeg 0) = 5
          · have h := h.1 cs_4
            refine lv_tableIn (tgt := 93) hx hb dX1_carryOut_8 (by rw [cs_4]; decide) (by rw [cs_4]; decide) (by rw [cs_4]; rfl) (by decide) ?_
            refine lv_aload_n hx hb dX1_carryOut_93 rfl (lv_at hl 0 rfl) ?_
            refine lv_iload_n hx hb dX1_carryOut_94 rfl (lv_at hl 2 rfl) ?_
            refine lv_iload_n hx hb dX1_carryOut_95 rfl (lv_at hl 3 rfl) ?_
            have hFc := va_free (wc := (sh_P cs adP kdP grP cvP brP hzP fmP dmP e1P e2P fkP pnP fnP)) hD hS hA [0, 1, 2, 3, 4, 5, 6, 7, 8, 9, 10] rfl
            refine va_calli (va_runV (As := [.int p2, .int p3]) (rest := []) ⟨hx, hb, hml, hown, hts⟩ (met_X1_addHazard l D cs ev _ adP kdP grP cvP brP hzP fmP dmP e1P e2P fkP pnP fnP p2 p3 _ h) (cwV 2 hts gX1_carryOut_X1_addHazard rfl rfl rfl (by decide +kernel) ⟨Nat.le_of_ble_eq_true rfl, Nat.le_of_ble_eq_true rfl⟩) (mPreV (va_recv hK hP (ci := 1) (q0 := 0) rfl rfl) hP hD hS hK hE hFc [0, 1, 2, 3, 4, 5, 6, 7, 8, 9, 10] (by decide) rfl) rfl rfl hl.1 rfl (lv_room (Nat.le_of_ble_eq_true rfl)) dX1_carryOut_96 ⟨Nat.le_of_ble_eq_true rfl, Nat.le_of_ble_eq_true rfl⟩) hS (fun q _ h => hFc q h) hFc (fun r_20 u t H1 locs ht hvm hw hB hz1 hk1 hS => ?_)
            obtain ⟨hz_21, rfl⟩ : ∃ z, z = u := ⟨_, rfl⟩
            have h := hw
            obtain ⟨hP1, hK1, hD1⟩ := hB
            rw [ht] at hP1
            obtain ⟨hP, hD⟩ := mJoin (wr := ([] : va_W)) (w1 := (sh_P cs adP kdP grP cvP brP hz_21 fmP dmP e1P e2P fkP pnP fnP)) (w' := (sh_P cs adP kdP grP cvP brP hz_21 fmP dmP e1P e2P fkP pnP fnP)) hP hD [0, 1, 2, 3, 4, 5, 6, 7, 8, 9, 10] [] rfl rfl (by decide) (by decide) hk1 hFc hP1 hD1 [0, 1, 2, 3, 4, 5, 6, 7, 8, 9, 10] (by decide) rfl
            generalize H1 = H at hP hS ⊢
            refine lv_pop hx hb dX1_carryOut_99 rfl ?_
            refine lv_goto (tgt := 120) hx hb dX1_carryOut_100 (by decide) ?_
            exact W.vret hx hb hr (fun t ht hW => ⟨⟨(kdP, grP, cvP, brP, hz_21, fmP, dmP, e1P, e2P, fkP, pnP, fnP), rfl, h, by rw [ht]; exact hP, va_K.moved hW.alike hK, hD⟩, hS.F ht⟩) hS.2.2 dX1_carryOut_120
          · have h := h.2 cs_4
            by_cases cs_5 : (swTab.getD r_1.toNatClampNeg 0) = 6
            · have h := h.1 cs_5
              refine lv_tableIn (tgt := 103) hx hb dX1_carryOut_8 (by rw [cs_5]; decide) (by rw [cs_5]; decide) (by rw [cs_5]; rfl) (by decide) ?_
              refine lv_aload_n hx hb dX1_carryOut_103 rfl (lv_at hl 0 rfl) ?_
              refine lv_iload_n hx hb dX1_carryOut_104 rfl (lv_at hl 2 rfl) ?_
              refine lv_iload_n hx hb dX1_carryOut_105 rfl (lv_at hl 3 rfl) ?_
              have hFc := va_free (wc := (sh_P cs adP kdP grP cvP brP hzP fmP dmP e1P e2P fkP pnP fnP)) hD hS hA [0, 1, 2, 3, 4, 5, 6, 7, 8, 9, 10] rfl
              refine va_calli (va_runV (As := [.int p2, .int p3]) (rest := []) ⟨hx, hb, hml, hown, hts⟩ (met_X1_addOption l D cs ev _ adP kdP grP cvP brP hzP fmP dmP e1P e2P fkP pnP fnP p2 p3 _ h) (cwV 2 hts gX1_carryOut_X1_addOption rfl rfl rfl (by decide +kernel) ⟨Nat.le_of_ble_eq_true rfl, Nat.le_of_ble_eq_true rfl⟩) (mPreV (va_recv hK hP (ci := 1) (q0 := 0) rfl rfl) hP hD hS hK hE hFc [0, 1, 2, 3, 4, 5, 6, 7, 8, 9, 10] (by decide) rfl) rfl rfl hl.1 rfl (lv_room (Nat.le_of_ble_eq_true rfl)) dX1_carryOut_106 ⟨Nat.le_of_ble_eq_true rfl, Nat.le_of_ble_eq_true rfl⟩) hS (fun q _ h => hFc q h) hFc (fun r_22 u t H1 locs ht hvm hw hB hz1 hk1 hS => ?_)
              obtain ⟨fm_23, rfl⟩ : ∃ z, z = u := ⟨_, rfl⟩
              have h := hw
              obtain ⟨hP1, hK1, hD1⟩ := hB
              rw [ht] at hP1
              obtain ⟨hP, hD⟩ := mJoin (wr := ([] : va_W)) (w1 := (sh_P cs adP kdP grP cvP brP hzP fm_23 dmP e1P e2P fkP pnP fnP)) (w' := (sh_P cs adP kdP grP cvP brP hzP fm_23 dmP e1P e2P fkP pnP fnP)) hP hD [0, 1, 2, 3, 4, 5, 6, 7, 8, 9, 10] [] rfl rfl (by decide) (by decide) hk1 hFc hP1 hD1 [0, 1, 2, 3, 4, 5, 6, 7, 8, 9, 10] (by decide) rfl
              generalize H1 = H at hP hS ⊢
              refine lv_pop hx hb dX1_carryOut_109 rfl ?_
              refine lv_goto (tgt := 120) hx hb dX1_carryOut_110 (by decide) ?_
              exact W.vret hx hb hr (fun t ht hW => ⟨⟨(kdP, grP, cvP, brP, hzP, fm_23, dmP, e1P, e2P, fkP, pnP, fnP), rfl, h, by rw [ht]; exact hP, va_K.moved hW.alike hK, hD⟩, hS.F ht⟩) hS.2.2 dX1_carryOut_120
            · have h := h.2 cs_5
              refine lv_tableOut (tgt := 113) hx hb dX1_carryOut_8 (by have q0 := lv_neT cs_0 (show (1 : Int32).toInt = 1 by decide); have q1 := lv_neT cs_1 (show (2 : Int32).toInt = 2 by decide); have q2 := lv_neT cs_2 (show (3 : Int32).toInt = 3 by decide); have q3 := lv_neT cs_3 (show (4 : Int32).toInt = 4 by decide); have q4 := lv_neT cs_4 (show (5 : Int32).toInt = 5 by decide); have q5 := lv_neT cs_5 (show (6 : Int32).toInt = 6 by decide); omega) (by decide) ?_
              refine lv_aload_n hx hb dX1_carryOut_113 rfl (lv_at hl 0 rfl) ?_
              refine lv_iload_n hx hb dX1_carryOut_114 rfl (lv_at hl 2 rfl) ?_
              refine lv_iload_n hx hb dX1_carryOut_115 rfl (lv_at hl 3 rfl) ?_
              have hFc := va_free (wc := (sh_P cs adP kdP grP cvP brP hzP fmP dmP e1P e2P fkP pnP fnP)) hD hS hA [0, 1, 2, 3, 4, 5, 6, 7, 8, 9, 10] rfl
              refine va_calli (va_runV (As := [.int p2, .int p3]) (rest := []) ⟨hx, hb, hml, hown, hts⟩ (met_X1_setDamage l D cs ev _ adP kdP grP cvP brP hzP fmP dmP e1P e2P fkP pnP fnP p2 p3 _ h) (cwV 2 hts gX1_carryOut_X1_setDamage rfl rfl rfl (by decide +kernel) ⟨Nat.le_of_ble_eq_true rfl, Nat.le_of_ble_eq_true rfl⟩) (mPreV (va_recv hK hP (ci := 1) (q0 := 0) rfl rfl) hP hD hS hK hE hFc [0, 1, 2, 3, 4, 5, 6, 7, 8, 9, 10] (by decide) rfl) rfl rfl hl.1 rfl (lv_room (Nat.le_of_ble_eq_true rfl)) dX1_carryOut_116 ⟨Nat.le_of_ble_eq_true rfl, Nat.le_of_ble_eq_true rfl⟩) hS (fun q _ h => hFc q h) hFc (fun r_24 u t H1 locs ht hvm hw hB hz1 hk1 hS => ?_)
              obtain ⟨dm_25, rfl⟩ : ∃ z, z = u := ⟨_, rfl⟩
              have h := hw
              obtain ⟨hP1, hK1, hD1⟩ := hB
              rw [ht] at hP1
              obtain ⟨hP, hD⟩ := mJoin (wr := ([] : va_W)) (w1 := (sh_P cs adP kdP grP cvP brP hzP fmP dm_25 e1P e2P fkP pnP fnP)) (w' := (sh_P cs adP kdP grP cvP brP hzP fmP dm_25 e1P e2P fkP pnP fnP)) hP hD [0, 1, 2, 3, 4, 5, 6, 7, 8, 9, 10] [] rfl rfl (by decide) (by decide) hk1 hFc hP1 hD1 [0, 1, 2, 3, 4, 5, 6, 7, 8, 9, 10] (by decide) rfl
              generalize H1 = H at hP hS ⊢
              refine lv_pop hx hb dX1_carryOut_119 rfl ?_
              exact W.vret hx hb hr (fun t ht hW => ⟨⟨(kdP, grP, cvP, brP, hzP, fmP, dm_25, e1P, e2P, fkP, pnP, fnP), rfl, h, by rw [ht]; exact hP, va_K.moved hW.alike hK, hD⟩, hS.F ht⟩) hS.2.2 dX1_carryOut_120
