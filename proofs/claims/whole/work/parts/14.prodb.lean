def wp_X1_isPlain (cvP : Nat → Int32) (pnP : Int32) (p1 : Int32) (p2 : Int32) (post : Int32 → Unit → Prop) : Prop :=
    wp_X1_hasPart pnP p1 (fun r_1 _ => ((r_1 = 0 → post 0 ()) ∧ (¬ r_1 = 0 → wp_X5_contains p2 p1 (fun r_3 _ => ((r_3 = 0 → (vp_in p1 10 ∧ ((((cvP p1.toNatClampNeg) &&& (p2 ^^^ (-1))) = 0 → post 1 ()) ∧ (¬ ((cvP p1.toNatClampNeg) &&& (p2 ^^^ (-1))) = 0 → post 0 ())))) ∧ (¬ r_3 = 0 → post 0 ()))))))
set_option maxHeartbeats 4000000 in
set_option maxRecDepth 100000 in
theorem met_X1_isPlain (l : Launch) (D : va_G) (cs : Nat → ClassId) (ev : Nat → Nat → Nat) (sz0 : Nat) (adP : Nat → Nat) (kdP : Nat → Int32) (grP : Nat → Int64) (cvP : Nat → Int32) (brP : Nat → Int32) (hzP : Nat → Int32) (fmP : Nat → Int32) (dmP : Nat → Int32) (e1P : Nat → Int32) (e2P : Nat → Int32) (fkP : Nat → Int32) (pnP : Int32) (fnP : Int32) (p1 : Int32) (p2 : Int32) (post : Int32 → Unit → Prop) (h : wp_X1_isPlain cvP pnP p1 p2 post) : Met l yX1_isPlain wsX1_isPlain ({ frames := 1, cells := 0, slots := 0, locals := 21 }) (va_Pc [.ref (adP 0), .int p1, .int p2] (mPre D cs ev (sh_P cs adP kdP grP cvP brP hzP fmP dmP e1P e2P fkP pnP fnP) sz0)) (va_Qi post (fun _ t => mAt D cs (va_A (sh_P cs adP kdP grP cvP brP hzP fmP dmP e1P e2P fkP pnP fnP) sz0) (sh_P cs adP kdP grP cvP brP hzP fmP dmP e1P e2P fkP pnP fnP) t) (va_A (sh_P cs adP kdP grP cvP brP hzP fmP dmP e1P e2P fkP pnP fnP) sz0)) 0 0 (va_A (sh_P cs adP kdP grP cvP brP hzP fmP dmP e1P e2P fkP pnP fnP) sz0) := by
  refine Met.ofW (cc := cX1_isPlain) (maxL := 3) (ret := (some .boolean)) (by decide) rfl ?_
  intro p e s m args below meth c s₁ B hml hv
  obtain ⟨rfl, hsz, hP, hK, hD0, hE⟩ := hv
  have hx := B.exec
  have hb := B.bytes
  have hr := B.returns
  have hts := atoms_spec (ws := wsX1_isPlain) B.pre
  have hown : s.vm.findClass RX1 = some m.cls := findClass_of_methodNamed B.named
  have hlocks := B.notSynchronized
  subst hsz
  have hD := hD0.self (sz := s.heap.size)
  generalize hAe : va_A (sh_P cs adP kdP grP cvP brP hzP fmP dmP e1P e2P fkP pnP fnP) s.heap.size = A at hD hE ⊢
  have hA : ∀ q : Nat, s.heap.size ≤ q → A q := fun q h => by rw [← hAe]; exact Or.inr h
  have hS : va_S A s.heap s.heap [] := va_S.rf
  have hl := lv_entry ([.ref (adP 0), .int p1, .int p2]) (n := 3) (Nat.le_of_ble_eq_true rfl)
  rw [lg_entry_eq]
  generalize (lg_sl ([.ref (adP 0), .int p1, .int p2]) ++ List.replicate (3 - (lg_sl ([.ref (adP 0), .int p1, .int p2])).length) Slot.unset).toArray = ls at hl ⊢
  have hl : lv_has ls 3 [(0, .ref (adP 0)), (1, .int p1), (2, .int p2)] := hl
  refine lv_aload_n hx hb dX1_isPlain_0 rfl (lv_at hl 0 rfl) ?_
  refine lv_iload_n hx hb dX1_isPlain_1 rfl (lv_at hl 1 rfl) ?_
  have hFc := va_free (wc := (sh_P cs adP kdP grP cvP brP hzP fmP dmP e1P e2P fkP pnP fnP)) hD hS hA [0, 1, 2, 3, 4, 5, 6, 7, 8, 9, 10] rfl
  refine va_calli (va_runV (As := [.int p1]) (rest := []) ⟨hx, hb, hml, hown, hts⟩ (met_X1_hasPart l D cs ev _ adP kdP grP cvP brP hzP fmP dmP e1P e2P fkP pnP fnP p1 _ h) (cwV 1 hts gX1_isPlain_X1_hasPart rfl rfl rfl (by decide +kernel) ⟨Nat.le_of_ble_eq_true rfl, Nat.le_of_ble_eq_true rfl⟩) (mPreV (va_recv hK hP (ci := 1) (q0 := 0) rfl rfl) hP hD hS hK hE hFc [0, 1, 2, 3, 4, 5, 6, 7, 8, 9, 10] (by decide) rfl) rfl rfl hl.1 rfl (lv_room (Nat.le_of_ble_eq_true rfl)) dX1_isPlain_2 ⟨Nat.le_of_ble_eq_true rfl, Nat.le_of_ble_eq_true rfl⟩) hS (fun q _ h => hFc q h) hFc (fun r_1 u t H1 locs ht hvm hw hB hz1 hk1 hS => ?_)
  have h := hw
  obtain ⟨hP1, hK1, hD1⟩ := hB
  rw [ht] at hP1
  obtain ⟨hP, hD⟩ := mJoin (wr := ([] : va_W)) (w1 := (sh_P cs adP kdP grP cvP brP hzP fmP dmP e1P e2P fkP pnP fnP)) (w' := (sh_P cs adP kdP grP cvP brP hzP fmP dmP e1P e2P fkP pnP fnP)) hP hD [0, 1, 2, 3, 4, 5, 6, 7, 8, 9, 10] [] rfl rfl (by decide) (by decide) hk1 hFc hP1 hD1 [0, 1, 2, 3, 4, 5, 6, 7, 8, 9, 10] (by decide) rfl
  generalize H1 = H at hP hS ⊢
  refine lv_if_eq (tgt := 33) hx hb dX1_isPlain_5 (by decide) (fun c_2 => ?_) (fun c_2 => ?_)
  · have h := h.1 c_2
    refine lv_iconst (v := 0) hx hb dX1_isPlain_33 (by decide) ?_
    exact W.zret (v := 0) hx hb hr (by decide) (fun t ht hW => ⟨⟨0, (), rfl, h, by rw [ht]; exact hP, va_K.moved hW.alike hK, hD⟩, hS.F ht⟩) hS.2.2 dX1_isPlain_34
  · have h := h.2 c_2
    refine lv_iload_n hx hb dX1_isPlain_8 rfl (lv_at hl 2 rfl) ?_
    refine lv_iload_n hx hb dX1_isPlain_9 rfl (lv_at hl 1 rfl) ?_
    have hFc := va_free (wc := ([] : va_W)) hD hS hA [] rfl
    refine va_calli (va_runSN (As := [.int p2, .int p1]) (rest := []) ⟨hx, hb, hml, hown, hts⟩ (met_X5_contains l D cs ev _ p2 p1 _ h) ⟨va_cnB 2 hts gX1_isPlain_X5_contains_n71 rfl rfl rfl hE.1.2.1 (hts (.initialized RX5) (by decide +kernel)) (by decide +kernel) ⟨Nat.le_of_ble_eq_true rfl, Nat.le_of_ble_eq_true rfl⟩, hts (.static yX5_contains) (by decide +kernel), trivial⟩ (mPreS hP hD hS hK hE hFc [] (by decide) rfl) rfl rfl hl.1 rfl (lv_room (Nat.le_of_ble_eq_true rfl)) dX1_isPlain_10 ⟨Nat.le_of_ble_eq_true rfl, Nat.le_of_ble_eq_true rfl⟩) hS (fun q _ h => hFc q h) hFc (fun r_3 u t H1 locs ht hvm hw hB hz1 hk1 hS => ?_)
    have h := hw
    obtain ⟨hP1, hK1, hD1⟩ := hB
    rw [ht] at hP1
    obtain ⟨hP, hD⟩ := mJoin (wr := (sh_P cs adP kdP grP cvP brP hzP fmP dmP e1P e2P fkP pnP fnP)) (w1 := ([] : va_W)) (w' := (sh_P cs adP kdP grP cvP brP hzP fmP dmP e1P e2P fkP pnP fnP)) hP hD [] [0, 1, 2, 3, 4, 5, 6, 7, 8, 9, 10] rfl rfl (by decide) (by decide) hk1 hFc hP1 hD1 [0, 1, 2, 3, 4, 5, 6, 7, 8, 9, 10] (by decide) rfl
    generalize H1 = H at hP hS ⊢
    refine lv_if_ne (tgt := 33) hx hb dX1_isPlain_13 (by decide) (fun c_4 => ?_) (fun c_4 => ?_)
    · have h := h.2 c_4
      refine lv_iconst (v := 0) hx hb dX1_isPlain_33 (by decide) ?_
      exact W.zret (v := 0) hx hb hr (by decide) (fun t ht hW => ⟨⟨0, (), rfl, h, by rw [ht]; exact hP, va_K.moved hW.alike hK, hD⟩, hS.F ht⟩) hS.2.2 dX1_isPlain_34
    · have h := h.1 c_4
      refine lv_aload_n hx hb dX1_isPlain_16 rfl (lv_at hl 0 rfl) ?_
      refine va_get (D := D) (ci := 1) (v := .ref (adP 3)) (C := RX1) (T := TX1) (N := 12) hx hb hts (by decide +kernel) hown hK hP 0 rfl rfl 2 (by decide) (hts (.fieldLink RX1 19 "PartGraphs$Product" "coverers" "[I") (by decide +kernel)) (fun _ h9 => h9) rfl dX1_isPlain_17 ?_
      refine lv_iload_n hx hb dX1_isPlain_20 rfl (lv_at hl 1 rfl) ?_
      have hin := h.1
      have h := h.2
      refine va_iald (D := D) (cl := vwCl) hx hb hK hP 3 0 rfl rfl hin dX1_isPlain_21 ?_
      refine lv_iload_n hx hb dX1_isPlain_22 rfl (lv_at hl 2 rfl) ?_
      refine lv_iconst (v := (-1)) hx hb dX1_isPlain_23 (by decide) ?_
      refine lv_ixor hx hb dX1_isPlain_24 ?_
      refine lv_iand hx hb dX1_isPlain_25 ?_
      refine lv_if_ne (tgt := 33) hx hb dX1_isPlain_26 (by decide) (fun c_5 => ?_) (fun c_5 => ?_)
      · have h := h.2 c_5
        refine lv_iconst (v := 0) hx hb dX1_isPlain_33 (by decide) ?_
        exact W.zret (v := 0) hx hb hr (by decide) (fun t ht hW => ⟨⟨0, (), rfl, h, by rw [ht]; exact hP, va_K.moved hW.alike hK, hD⟩, hS.F ht⟩) hS.2.2 dX1_isPlain_34
      · have h := h.1 c_5
        refine lv_iconst (v := 1) hx hb dX1_isPlain_29 (by decide) ?_
        refine lv_goto (tgt := 34) hx hb dX1_isPlain_30 (by decide) ?_
        exact W.zret (v := 1) hx hb hr (by decide) (fun t ht hW => ⟨⟨1, (), rfl, h, by rw [ht]; exact hP, va_K.moved hW.alike hK, hD⟩, hS.F ht⟩) hS.2.2 dX1_isPlain_34
def wp_X1_isFree (cvP : Nat → Int32) (brP : Nat → Int32) (pnP : Int32) (p1 : Int32) (p2 : Int32) (post : Int32 → Unit → Prop) : Prop :=
    ∀ (A13 : Int32 → Prop),
    (∀ (v3 : Int32), ((6 ≤ v3 → post 0 ()) ∧ (¬ 6 ≤ v3 → wp_X1_barIndex p1 v3 (fun r_4 _ => (vp_in r_4 60 ∧ ((((brP r_4.toNatClampNeg) &&& (p2 ^^^ (-1))) = 0 → post 1 ()) ∧ (¬ ((brP r_4.toNatClampNeg) &&& (p2 ^^^ (-1))) = 0 → A13 (v3 + 1))))))) → A13 v3) →
    wp_X1_isPlain cvP pnP p1 p2 (fun r_1 _ => ((r_1 = 0 → post 0 ()) ∧ (¬ r_1 = 0 → A13 0)))
set_option maxHeartbeats 4000000 in
set_option maxRecDepth 100000 in
theorem met_X1_isFree (l : Launch) (D : va_G) (cs : Nat → ClassId) (ev : Nat → Nat → Nat) (sz0 : Nat) (adP : Nat → Nat) (kdP : Nat → Int32) (grP : Nat → Int64) (cvP : Nat → Int32) (brP : Nat → Int32) (hzP : Nat → Int32) (fmP : Nat → Int32) (dmP : Nat → Int32) (e1P : Nat → Int32) (e2P : Nat → Int32) (fkP : Nat → Int32) (pnP : Int32) (fnP : Int32) (p1 : Int32) (p2 : Int32) (post : Int32 → Unit → Prop) (h : wp_X1_isFree cvP brP pnP p1 p2 post) : Met l yX1_isFree wsX1_isFree ({ frames := 2, cells := 0, slots := 0, locals := 43 }) (va_Pc [.ref (adP 0), .int p1, .int p2] (mPre D cs ev (sh_P cs adP kdP grP cvP brP hzP fmP dmP e1P e2P fkP pnP fnP) sz0)) (va_Qi post (fun _ t => mAt D cs (va_A (sh_P cs adP kdP grP cvP brP hzP fmP dmP e1P e2P fkP pnP fnP) sz0) (sh_P cs adP kdP grP cvP brP hzP fmP dmP e1P e2P fkP pnP fnP) t) (va_A (sh_P cs adP kdP grP cvP brP hzP fmP dmP e1P e2P fkP pnP fnP) sz0)) 0 0 (va_A (sh_P cs adP kdP grP cvP brP hzP fmP dmP e1P e2P fkP pnP fnP) sz0) := by
  refine Met.ofW (cc := cX1_isFree) (maxL := 4) (ret := (some .boolean)) (by decide) rfl ?_
  intro p e s m args below meth c s₁ B hml hv
  obtain ⟨rfl, hsz, hP, hK, hD0, hE⟩ := hv
  have hx := B.exec
  have hb := B.bytes
  have hr := B.returns
  have hts := atoms_spec (ws := wsX1_isFree) B.pre
  have hown : s.vm.findClass RX1 = some m.cls := findClass_of_methodNamed B.named
  have hlocks := B.notSynchronized
  subst hsz
  have hD := hD0.self (sz := s.heap.size)
  generalize hAe : va_A (sh_P cs adP kdP grP cvP brP hzP fmP dmP e1P e2P fkP pnP fnP) s.heap.size = A at hD hE ⊢
  have hA : ∀ q : Nat, s.heap.size ≤ q → A q := fun q h => by rw [← hAe]; exact Or.inr h
  have hS : va_S A s.heap s.heap [] := va_S.rf
  have hl := lv_entry ([.ref (adP 0), .int p1, .int p2]) (n := 4) (Nat.le_of_ble_eq_true rfl)
  rw [lg_entry_eq]
  generalize (lg_sl ([.ref (adP 0), .int p1, .int p2]) ++ List.replicate (4 - (lg_sl ([.ref (adP 0), .int p1, .int p2])).length) Slot.unset).toArray = ls at hl ⊢
  have hl : lv_has ls 4 [(0, .ref (adP 0)), (1, .int p1), (2, .int p2)] := hl
  obtain ⟨A13, hA13⟩ : ∃ Q : Int32 → Prop, Q = (fun v3 => ∀ (H : Heap) (locs : List Loc), va_P D vwCl (sh_P cs adP kdP grP cvP brP hzP fmP dmP e1P e2P fkP pnP fnP) H → va_D A (sh_P cs adP kdP grP cvP brP hzP fmP dmP e1P e2P fkP pnP fnP) → va_S A s.heap H locs → ∀ ls : Array Slot, lv_has ls 4 [(0, .ref (adP 0)), (1, .int p1), (2, .int p2), (3, .int v3)] → W p l e (headSpec wsX1_isFree ({ frames := 2, cells := 0, slots := 0, locals := 43 })).room s m ([.ref (adP 0), .int p1, .int p2] : List Value).toArray below meth c H locs 0 0 (MQ below (va_Qi post (fun _ t => mAt D cs (A) (sh_P cs adP kdP grP cvP brP hzP fmP dmP e1P e2P fkP pnP fnP) t) A) ([.ref (adP 0), .int p1, .int p2] : List Value).toArray s 0 0 A) (F0 m 13 ls [])) := ⟨_, rfl⟩
  have s13 : ∀ (v3 : Int32), ((6 ≤ v3 → post 0 ()) ∧ (¬ 6 ≤ v3 → wp_X1_barIndex p1 v3 (fun r_4 _ => (vp_in r_4 60 ∧ ((((brP r_4.toNatClampNeg) &&& (p2 ^^^ (-1))) = 0 → post 1 ()) ∧ (¬ ((brP r_4.toNatClampNeg) &&& (p2 ^^^ (-1))) = 0 → A13 (v3 + 1))))))) → A13 v3 := by
    intro v3 h
    rw [hA13]
    intro H locs hP hD hS ls hl
    refine lv_iload_n hx hb dX1_isFree_13 rfl (lv_at hl 3 rfl) ?_
    refine lv_bipush (v := 6) hx hb dX1_isFree_14 (by decide) ?_
    refine lv_icmp_ge (tgt := 44) hx hb dX1_isFree_16 (by decide) (fun c_3 => ?_) (fun c_3 => ?_)
    · have h := h.1 c_3
      refine lv_iconst (v := 0) hx hb dX1_isFree_44 (by decide) ?_
      exact W.zret (v := 0) hx hb hr (by decide) (fun t ht hW => ⟨⟨0, (), rfl, h, by rw [ht]; exact hP, va_K.moved hW.alike hK, hD⟩, hS.F ht⟩) hS.2.2 dX1_isFree_45
    · have h := h.2 c_3
      refine lv_aload_n hx hb dX1_isFree_19 rfl (lv_at hl 0 rfl) ?_
      refine va_get (D := D) (ci := 1) (v := .ref (adP 4)) (C := RX1) (T := TX1) (N := 12) hx hb hts (by decide +kernel) hown hK hP 0 rfl rfl 3 (by decide) (hts (.fieldLink RX1 22 "PartGraphs$Product" "bars" "[I") (by decide +kernel)) (fun _ h9 => h9) rfl dX1_isFree_20 ?_
      refine lv_iload_n hx hb dX1_isFree_23 rfl (lv_at hl 1 rfl) ?_
      refine lv_iload_n hx hb dX1_isFree_24 rfl (lv_at hl 3 rfl) ?_
      have hFc := va_free (wc := ([] : va_W)) hD hS hA [] rfl
      refine va_calli (va_runS (As := [.int p1, .int v3]) (rest := [.ref (adP 4)]) ⟨hx, hb, hml, hown, hts⟩ (met_X1_barIndex l D cs ev _ p1 v3 _ h) (va_cwS 2 hts gX1_isFree_X1_barIndex rfl rfl rfl (by decide +kernel) ⟨Nat.le_of_ble_eq_true rfl, Nat.le_of_ble_eq_true rfl⟩) (mPreS hP hD hS hK hE hFc [] (by decide) rfl) rfl rfl hl.1 rfl (lv_room (Nat.le_of_ble_eq_true rfl)) dX1_isFree_25 ⟨Nat.le_of_ble_eq_true rfl, Nat.le_of_ble_eq_true rfl⟩) hS (fun q _ h => hFc q h) hFc (fun r_4 u t H1 locs ht hvm hw hB hz1 hk1 hS => ?_)
      have h := hw
      obtain ⟨hP1, hK1, hD1⟩ := hB
      rw [ht] at hP1
      obtain ⟨hP, hD⟩ := mJoin (wr := (sh_P cs adP kdP grP cvP brP hzP fmP dmP e1P e2P fkP pnP fnP)) (w1 := ([] : va_W)) (w' := (sh_P cs adP kdP grP cvP brP hzP fmP dmP e1P e2P fkP pnP fnP)) hP hD [] [0, 1, 2, 3, 4, 5, 6, 7, 8, 9, 10] rfl rfl (by decide) (by decide) hk1 hFc hP1 hD1 [0, 1, 2, 3, 4, 5, 6, 7, 8, 9, 10] (by decide) rfl
      generalize H1 = H at hP hS ⊢
      have hin := h.1
      have h := h.2
      refine va_iald (D := D) (cl := vwCl) hx hb hK hP 4 0 rfl rfl hin dX1_isFree_28 ?_
      refine lv_iload_n hx hb dX1_isFree_29 rfl (lv_at hl 2 rfl) ?_
      refine lv_iconst (v := (-1)) hx hb dX1_isFree_30 (by decide) ?_
      refine lv_ixor hx hb dX1_isFree_31 ?_
      refine lv_iand hx hb dX1_isFree_32 ?_
      refine lv_if_ne (tgt := 38) hx hb dX1_isFree_33 (by decide) (fun c_5 => ?_) (fun c_5 => ?_)
      · have h := h.2 c_5
        refine lv_iinc (v := v3 + 1) (lv' := [(3, .int (v3 + 1)), (0, .ref (adP 0)), (1, .int p1), (2, .int p2)]) hx hb dX1_isFree_38 hl (k := 3) rfl rfl (by decide) rfl (fun ls hl => ?_)
        refine lv_goto (tgt := 13) hx hb dX1_isFree_41 (by decide) ?_
        rw [hA13] at h
        exact h _ _ hP hD hS ls (lv_sub hl [1, 2, 3, 0] rfl)
      · have h := h.1 c_5
        refine lv_iconst (v := 1) hx hb dX1_isFree_36 (by decide) ?_
        exact W.zret (v := 1) hx hb hr (by decide) (fun t ht hW => ⟨⟨1, (), rfl, h, by rw [ht]; exact hP, va_K.moved hW.alike hK, hD⟩, hS.F ht⟩) hS.2.2 dX1_isFree_37
  have h := h A13 s13
  refine lv_aload_n hx hb dX1_isFree_0 rfl (lv_at hl 0 rfl) ?_
  refine lv_iload_n hx hb dX1_isFree_1 rfl (lv_at hl 1 rfl) ?_
  refine lv_iload_n hx hb dX1_isFree_2 rfl (lv_at hl 2 rfl) ?_
  have hFc := va_free (wc := (sh_P cs adP kdP grP cvP brP hzP fmP dmP e1P e2P fkP pnP fnP)) hD hS hA [0, 1, 2, 3, 4, 5, 6, 7, 8, 9, 10] rfl
  refine va_calli (va_runV (As := [.int p1, .int p2]) (rest := []) ⟨hx, hb, hml, hown, hts⟩ (met_X1_isPlain l D cs ev _ adP kdP grP cvP brP hzP fmP dmP e1P e2P fkP pnP fnP p1 p2 _ h) (cwV 2 hts gX1_isFree_X1_isPlain rfl rfl rfl (by decide +kernel) ⟨Nat.le_of_ble_eq_true rfl, Nat.le_of_ble_eq_true rfl⟩) (mPreV (va_recv hK hP (ci := 1) (q0 := 0) rfl rfl) hP hD hS hK hE hFc [0, 1, 2, 3, 4, 5, 6, 7, 8, 9, 10] (by decide) rfl) rfl rfl hl.1 rfl (lv_room (Nat.le_of_ble_eq_true rfl)) dX1_isFree_3 ⟨Nat.le_of_ble_eq_true rfl, Nat.le_of_ble_eq_true rfl⟩) hS (fun q _ h => hFc q h) hFc (fun r_1 u t H1 locs ht hvm hw hB hz1 hk1 hS => ?_)
  have h := hw
  obtain ⟨hP1, hK1, hD1⟩ := hB
  rw [ht] at hP1
  obtain ⟨hP, hD⟩ := mJoin (wr := ([] : va_W)) (w1 := (sh_P cs adP kdP grP cvP brP hzP fmP dmP e1P e2P fkP pnP fnP)) (w' := (sh_P cs adP kdP grP cvP brP hzP fmP dmP e1P e2P fkP pnP fnP)) hP hD [0, 1, 2, 3, 4, 5, 6, 7, 8, 9, 10] [] rfl rfl (by decide) (by decide) hk1 hFc hP1 hD1 [0, 1, 2, 3, 4, 5, 6, 7, 8, 9, 10] (by decide) rfl
  generalize H1 = H at hP hS ⊢
  refine lv_if_ne (tgt := 11) hx hb dX1_isFree_6 (by decide) (fun c_2 => ?_) (fun c_2 => ?_)
  · have h := h.2 c_2
    refine lv_iconst (v := 0) hx hb dX1_isFree_11 (by decide) ?_
    refine lv_istore_n (lv' := [(3, .int 0), (0, .ref (adP 0)), (1, .int p1), (2, .int p2)]) hx hb dX1_isFree_12 rfl hl (by decide) rfl (fun ls hl => ?_)
    rw [hA13] at h
    exact h _ _ hP hD hS ls (lv_sub hl [1, 2, 3, 0] rfl)
  · have h := h.1 c_2
    refine lv_iconst (v := 0) hx hb dX1_isFree_9 (by decide) ?_
    exact W.zret (v := 0) hx hb hr (by decide) (fun t ht hW => ⟨⟨0, (), rfl, h, by rw [ht]; exact hP, va_K.moved hW.alike hK, hD⟩, hS.F ht⟩) hS.2.2 dX1_isFree_10
def wp_X1_comingOff (cvP : Nat → Int32) (brP : Nat → Int32) (pnP : Int32) (p1 : Int32) (post : Int32 → Unit → Prop) : Prop :=
    ∀ (A4 : Int32 → Int32 → Prop) (A16 : Int32 → Int32 → Int32 → Int32 → Prop),
    (∀ (v2 : Int32) (v3 : Int32), ((10 ≤ v3 → post v2 ()) ∧ (¬ 10 ≤ v3 → A16 v2 v3 v2 0)) → A4 v2 v3) →
    (∀ (v2 : Int32) (v3 : Int32) (v4 : Int32) (v5 : Int32), ((pnP ≤ v5 → ((v2 = v4 → post v2 ()) ∧ (¬ v2 = v4 → A4 v2 (v3 + 1)))) ∧ (¬ pnP ≤ v5 → ((v5 = p1 → A16 v2 v3 v4 (v5 + 1)) ∧ (¬ v5 = p1 → wp_X1_isFree cvP brP pnP v5 v2 (fun r_5 _ => ((r_5 = 0 → A16 v2 v3 v4 (v5 + 1)) ∧ (¬ r_5 = 0 → A16 (v2 ||| (1 <<< (v5 &&& 31))) v3 v4 (v5 + 1)))))))) → A16 v2 v3 v4 v5) →
    A4 0 0
set_option maxHeartbeats 4000000 in
set_option maxRecDepth 100000 in
theorem met_X1_comingOff (l : Launch) (D : va_G) (cs : Nat → ClassId) (ev : Nat → Nat → Nat) (sz0 : Nat) (adP : Nat → Nat) (kdP : Nat → Int32) (grP : Nat → Int64) (cvP : Nat → Int32) (brP : Nat → Int32) (hzP : Nat → Int32) (fmP : Nat → Int32) (dmP : Nat → Int32) (e1P : Nat → Int32) (e2P : Nat → Int32) (fkP : Nat → Int32) (pnP : Int32) (fnP : Int32) (p1 : Int32) (post : Int32 → Unit → Prop) (h : wp_X1_comingOff cvP brP pnP p1 post) : Met l yX1_comingOff wsX1_comingOff ({ frames := 3, cells := 0, slots := 0, locals := 66 }) (va_Pc [.ref (adP 0), .int p1] (mPre D cs ev (sh_P cs adP kdP grP cvP brP hzP fmP dmP e1P e2P fkP pnP fnP) sz0)) (va_Qi post (fun _ t => mAt D cs (va_A (sh_P cs adP kdP grP cvP brP hzP fmP dmP e1P e2P fkP pnP fnP) sz0) (sh_P cs adP kdP grP cvP brP hzP fmP dmP e1P e2P fkP pnP fnP) t) (va_A (sh_P cs adP kdP grP cvP brP hzP fmP dmP e1P e2P fkP pnP fnP) sz0)) 0 0 (va_A (sh_P cs adP kdP grP cvP brP hzP fmP dmP e1P e2P fkP pnP fnP) sz0) := by
  refine Met.ofW (cc := cX1_comingOff) (maxL := 6) (ret := (some .int)) (by decide) rfl ?_
  intro p e s m args below meth c s₁ B hml hv
  obtain ⟨rfl, hsz, hP, hK, hD0, hE⟩ := hv
  have hx := B.exec
  have hb := B.bytes
  have hr := B.returns
  have hts := atoms_spec (ws := wsX1_comingOff) B.pre
  have hown : s.vm.findClass RX1 = some m.cls := findClass_of_methodNamed B.named
  have hlocks := B.notSynchronized
  subst hsz
  have hD := hD0.self (sz := s.heap.size)
  generalize hAe : va_A (sh_P cs adP kdP grP cvP brP hzP fmP dmP e1P e2P fkP pnP fnP) s.heap.size = A at hD hE ⊢
  have hA : ∀ q : Nat, s.heap.size ≤ q → A q := fun q h => by rw [← hAe]; exact Or.inr h
  have hS : va_S A s.heap s.heap [] := va_S.rf
  have hl := lv_entry ([.ref (adP 0), .int p1]) (n := 6) (Nat.le_of_ble_eq_true rfl)
  rw [lg_entry_eq]
  generalize (lg_sl ([.ref (adP 0), .int p1]) ++ List.replicate (6 - (lg_sl ([.ref (adP 0), .int p1])).length) Slot.unset).toArray = ls at hl ⊢
  have hl : lv_has ls 6 [(0, .ref (adP 0)), (1, .int p1)] := hl
  obtain ⟨A4, hA4⟩ : ∃ Q : Int32 → Int32 → Prop, Q = (fun v2 v3 => ∀ (H : Heap) (locs : List Loc), va_P D vwCl (sh_P cs adP kdP grP cvP brP hzP fmP dmP e1P e2P fkP pnP fnP) H → va_D A (sh_P cs adP kdP grP cvP brP hzP fmP dmP e1P e2P fkP pnP fnP) → va_S A s.heap H locs → ∀ ls : Array Slot, lv_has ls 6 [(0, .ref (adP 0)), (1, .int p1), (2, .int v2), (3, .int v3)] → W p l e (headSpec wsX1_comingOff ({ frames := 3, cells := 0, slots := 0, locals := 66 })).room s m ([.ref (adP 0), .int p1] : List Value).toArray below meth c H locs 0 0 (MQ below (va_Qi post (fun _ t => mAt D cs (A) (sh_P cs adP kdP grP cvP brP hzP fmP dmP e1P e2P fkP pnP fnP) t) A) ([.ref (adP 0), .int p1] : List Value).toArray s 0 0 A) (F0 m 4 ls [])) := ⟨_, rfl⟩
  obtain ⟨A16, hA16⟩ : ∃ Q : Int32 → Int32 → Int32 → Int32 → Prop, Q = (fun v2 v3 v4 v5 => ∀ (H : Heap) (locs : List Loc), va_P D vwCl (sh_P cs adP kdP grP cvP brP hzP fmP dmP e1P e2P fkP pnP fnP) H → va_D A (sh_P cs adP kdP grP cvP brP hzP fmP dmP e1P e2P fkP pnP fnP) → va_S A s.heap H locs → ∀ ls : Array Slot, lv_has ls 6 [(0, .ref (adP 0)), (1, .int p1), (2, .int v2), (3, .int v3), (4, .int v4), (5, .int v5)] → W p l e (headSpec wsX1_comingOff ({ frames := 3, cells := 0, slots := 0, locals := 66 })).room s m ([.ref (adP 0), .int p1] : List Value).toArray below meth c H locs 0 0 (MQ below (va_Qi post (fun _ t => mAt D cs (A) (sh_P cs adP kdP grP cvP brP hzP fmP dmP e1P e2P fkP pnP fnP) t) A) ([.ref (adP 0), .int p1] : List Value).toArray s 0 0 A) (F0 m 16 ls [])) := ⟨_, rfl⟩
  have s4 : ∀ (v2 : Int32) (v3 : Int32), ((10 ≤ v3 → post v2 ()) ∧ (¬ 10 ≤ v3 → A16 v2 v3 v2 0)) → A4 v2 v3 := by
    intro v2 v3 h
    rw [hA4]
    intro H locs hP hD hS ls hl
    refine lv_iload_n hx hb dX1_comingOff_4 rfl (lv_at hl 3 rfl) ?_
    refine lv_bipush (v := 10) hx hb dX1_comingOff_5 (by decide) ?_
    refine lv_icmp_ge (tgt := 69) hx hb dX1_comingOff_7 (by decide) (fun c_1 => ?_) (fun c_1 => ?_)
    · have h := h.1 c_1
      refine lv_iload_n hx hb dX1_comingOff_69 rfl (lv_at hl 2 rfl) ?_
      exact W.iret (v := v2) hx hb hr (fun t ht hW => ⟨⟨v2, (), rfl, h, by rw [ht]; exact hP, va_K.moved hW.alike hK, hD⟩, hS.F ht⟩) hS.2.2 dX1_comingOff_70
    · have h := h.2 c_1
      refine lv_iload_n hx hb dX1_comingOff_10 rfl (lv_at hl 2 rfl) ?_
      refine lv_istore (lv' := [(4, .int v2), (0, .ref (adP 0)), (1, .int p1), (2, .int v2), (3, .int v3)]) hx hb dX1_comingOff_11 hl (by decide) rfl (fun ls hl => ?_)
      refine lv_iconst (v := 0) hx hb dX1_comingOff_13 (by decide) ?_
      refine lv_istore (lv' := [(5, .int 0), (4, .int v2), (0, .ref (adP 0)), (1, .int p1), (2, .int v2), (3, .int v3)]) hx hb dX1_comingOff_14 hl (by decide) rfl (fun ls hl => ?_)
      rw [hA16] at h
      exact h _ _ hP hD hS ls (lv_sub hl [2, 3, 4, 5, 1, 0] rfl)
  have s16 : ∀ (v2 : Int32) (v3 : Int32) (v4 : Int32) (v5 : Int32), ((pnP ≤ v5 → ((v2 = v4 → post v2 ()) ∧ (¬ v2 = v4 → A4 v2 (v3 + 1)))) ∧ (¬ pnP ≤ v5 → ((v5 = p1 → A16 v2 v3 v4 (v5 + 1)) ∧ (¬ v5 = p1 → wp_X1_isFree cvP brP pnP v5 v2 (fun r_5 _ => ((r_5 = 0 → A16 v2 v3 v4 (v5 + 1)) ∧ (¬ r_5 = 0 → A16 (v2 ||| (1 <<< (v5 &&& 31))) v3 v4 (v5 + 1)))))))) → A16 v2 v3 v4 v5 := by
    intro v2 v3 v4 v5 h
    rw [hA16]
    intro H locs hP hD hS ls hl
    refine lv_iload hx hb dX1_comingOff_16 (lv_at hl 5 rfl) ?_
    refine lv_aload_n hx hb dX1_comingOff_18 rfl (lv_at hl 0 rfl) ?_
    refine va_get (D := D) (ci := 1) (v := .int pnP) (C := RX1) (T := TX1) (N := 12) hx hb hts (by decide +kernel) hown hK hP 0 rfl rfl 10 (by decide) (hts (.fieldLink RX1 43 "PartGraphs$Product" "partCount" "I") (by decide +kernel)) (fun _ h9 => h9) rfl dX1_comingOff_19 ?_
    refine lv_icmp_ge (tgt := 54) hx hb dX1_comingOff_22 (by decide) (fun c_2 => ?_) (fun c_2 => ?_)
    · have h := h.1 c_2
      refine lv_iload_n hx hb dX1_comingOff_54 rfl (lv_at hl 2 rfl) ?_
      refine lv_iload hx hb dX1_comingOff_55 (lv_at hl 4 rfl) ?_
      refine lv_icmp_ne (tgt := 63) hx hb dX1_comingOff_57 (by decide) (fun c_3 => ?_) (fun c_3 => ?_)
      · have h := h.2 c_3
        refine lv_iinc (v := v3 + 1) (lv' := [(3, .int (v3 + 1)), (0, .ref (adP 0)), (1, .int p1), (2, .int v2), (4, .int v4), (5, .int v5)]) hx hb dX1_comingOff_63 hl (k := 3) rfl rfl (by decide) rfl (fun ls hl => ?_)
        refine lv_goto (tgt := 4) hx hb dX1_comingOff_66 (by decide) ?_
        rw [hA4] at h
        exact h _ _ hP hD hS ls (lv_sub hl [1, 2, 3, 0] rfl)
      · have h := h.1 c_3
        refine lv_goto (tgt := 69) hx hb dX1_comingOff_60 (by decide) ?_
        refine lv_iload_n hx hb dX1_comingOff_69 rfl (lv_at hl 2 rfl) ?_
        exact W.iret (v := v2) hx hb hr (fun t ht hW => ⟨⟨v2, (), rfl, h, by rw [ht]; exact hP, va_K.moved hW.alike hK, hD⟩, hS.F ht⟩) hS.2.2 dX1_comingOff_70
    · have h := h.2 c_2
      refine lv_iload hx hb dX1_comingOff_25 (lv_at hl 5 rfl) ?_
      refine lv_iload_n hx hb dX1_comingOff_27 rfl (lv_at hl 1 rfl) ?_
      refine lv_icmp_eq (tgt := 48) hx hb dX1_comingOff_28 (by decide) (fun c_4 => ?_) (fun c_4 => ?_)
      · have h := h.1 c_4
        refine lv_iinc (v := v5 + 1) (lv' := [(5, .int (v5 + 1)), (0, .ref (adP 0)), (1, .int p1), (2, .int v2), (3, .int v3), (4, .int v4)]) hx hb dX1_comingOff_48 hl (k := 5) rfl rfl (by decide) rfl (fun ls hl => ?_)
        refine lv_goto (tgt := 16) hx hb dX1_comingOff_51 (by decide) ?_
        rw [hA16] at h
        exact h _ _ hP hD hS ls (lv_sub hl [1, 2, 3, 4, 5, 0] rfl)
      · have h := h.2 c_4
        refine lv_aload_n hx hb dX1_comingOff_31 rfl (lv_at hl 0 rfl) ?_
        refine lv_iload hx hb dX1_comingOff_32 (lv_at hl 5 rfl) ?_
        refine lv_iload_n hx hb dX1_comingOff_34 rfl (lv_at hl 2 rfl) ?_
        have hFc := va_free (wc := (sh_P cs adP kdP grP cvP brP hzP fmP dmP e1P e2P fkP pnP fnP)) hD hS hA [0, 1, 2, 3, 4, 5, 6, 7, 8, 9, 10] rfl
        refine va_calli (va_runV (As := [.int v5, .int v2]) (rest := []) ⟨hx, hb, hml, hown, hts⟩ (met_X1_isFree l D cs ev _ adP kdP grP cvP brP hzP fmP dmP e1P e2P fkP pnP fnP v5 v2 _ h) (cwV 2 hts gX1_comingOff_X1_isFree rfl rfl rfl (by decide +kernel) ⟨Nat.le_of_ble_eq_true rfl, Nat.le_of_ble_eq_true rfl⟩) (mPreV (va_recv hK hP (ci := 1) (q0 := 0) rfl rfl) hP hD hS hK hE hFc [0, 1, 2, 3, 4, 5, 6, 7, 8, 9, 10] (by decide) rfl) rfl rfl hl.1 rfl (lv_room (Nat.le_of_ble_eq_true rfl)) dX1_comingOff_35 ⟨Nat.le_of_ble_eq_true rfl, Nat.le_of_ble_eq_true rfl⟩) hS (fun q _ h => hFc q h) hFc (fun r_5 u t H1 locs ht hvm hw hB hz1 hk1 hS => ?_)
        have h := hw
        obtain ⟨hP1, hK1, hD1⟩ := hB
        rw [ht] at hP1
        obtain ⟨hP, hD⟩ := mJoin (wr := ([] : va_W)) (w1 := (sh_P cs adP kdP grP cvP brP hzP fmP dmP e1P e2P fkP pnP fnP)) (w' := (sh_P cs adP kdP grP cvP brP hzP fmP dmP e1P e2P fkP pnP fnP)) hP hD [0, 1, 2, 3, 4, 5, 6, 7, 8, 9, 10] [] rfl rfl (by decide) (by decide) hk1 hFc hP1 hD1 [0, 1, 2, 3, 4, 5, 6, 7, 8, 9, 10] (by decide) rfl
        generalize H1 = H at hP hS ⊢
        refine lv_if_eq (tgt := 48) hx hb dX1_comingOff_38 (by decide) (fun c_6 => ?_) (fun c_6 => ?_)
        · have h := h.1 c_6
          refine lv_iinc (v := v5 + 1) (lv' := [(5, .int (v5 + 1)), (0, .ref (adP 0)), (1, .int p1), (2, .int v2), (3, .int v3), (4, .int v4)]) hx hb dX1_comingOff_48 hl (k := 5) rfl rfl (by decide) rfl (fun ls hl => ?_)
          refine lv_goto (tgt := 16) hx hb dX1_comingOff_51 (by decide) ?_
          rw [hA16] at h
          exact h _ _ hP hD hS ls (lv_sub hl [1, 2, 3, 4, 5, 0] rfl)
        · have h := h.2 c_6
          refine lv_iload_n hx hb dX1_comingOff_41 rfl (lv_at hl 2 rfl) ?_
          refine lv_iconst (v := 1) hx hb dX1_comingOff_42 (by decide) ?_
          refine lv_iload hx hb dX1_comingOff_43 (lv_at hl 5 rfl) ?_
          refine lv_ishl hx hb dX1_comingOff_45 ?_
          refine lv_ior hx hb dX1_comingOff_46 ?_
          refine lv_istore_n (lv' := [(2, .int (v2 ||| (1 <<< (v5 &&& 31)))), (0, .ref (adP 0)), (1, .int p1), (3, .int v3), (4, .int v4), (5, .int v5)]) hx hb dX1_comingOff_47 rfl hl (by decide) rfl (fun ls hl => ?_)
          refine lv_iinc (v := v5 + 1) (lv' := [(5, .int (v5 + 1)), (2, .int (v2 ||| (1 <<< (v5 &&& 31)))), (0, .ref (adP 0)), (1, .int p1), (3, .int v3), (4, .int v4)]) hx hb dX1_comingOff_48 hl (k := 5) rfl rfl (by decide) rfl (fun ls hl => ?_)
          refine lv_goto (tgt := 16) hx hb dX1_comingOff_51 (by decide) ?_
          rw [hA16] at h
          exact h _ _ hP hD hS ls (lv_sub hl [2, 3, 1, 4, 5, 0] rfl)
  have h := h A4 A16 s4 s16
  refine lv_iconst (v := 0) hx hb dX1_comingOff_0 (by decide) ?_
  refine lv_istore_n (lv' := [(2, .int 0), (0, .ref (adP 0)), (1, .int p1)]) hx hb dX1_comingOff_1 rfl hl (by decide) rfl (fun ls hl => ?_)
  refine lv_iconst (v := 0) hx hb dX1_comingOff_2 (by decide) ?_
  refine lv_istore_n (lv' := [(3, .int 0), (2, .int 0), (0, .ref (adP 0)), (1, .int p1)]) hx hb dX1_comingOff_3 rfl hl (by decide) rfl (fun ls hl => ?_)
  rw [hA4] at h
  exact h _ _ hP hD hS ls (lv_sub hl [2, 3, 1, 0] rfl)
def wp_X1_neverComingOff (cvP : Nat → Int32) (brP : Nat → Int32) (pnP : Int32) (post : Int32 → Unit → Prop) : Prop :=
    wp_X1_comingOff cvP brP pnP (-1) (fun r_1 _ => post (((1 <<< (pnP &&& 31)) - 1) &&& (r_1 ^^^ (-1))) ())
set_option maxHeartbeats 4000000 in
set_option maxRecDepth 100000 in
theorem met_X1_neverComingOff (l : Launch) (D : va_G) (cs : Nat → ClassId) (ev : Nat → Nat → Nat) (sz0 : Nat) (adP : Nat → Nat) (kdP : Nat → Int32) (grP : Nat → Int64) (cvP : Nat → Int32) (brP : Nat → Int32) (hzP : Nat → Int32) (fmP : Nat → Int32) (dmP : Nat → Int32) (e1P : Nat → Int32) (e2P : Nat → Int32) (fkP : Nat → Int32) (pnP : Int32) (fnP : Int32) (post : Int32 → Unit → Prop) (h : wp_X1_neverComingOff cvP brP pnP post) : Met l yX1_neverComingOff wsX1_neverComingOff ({ frames := 4, cells := 0, slots := 0, locals := 91 }) (va_Pc [.ref (adP 0)] (mPre D cs ev (sh_P cs adP kdP grP cvP brP hzP fmP dmP e1P e2P fkP pnP fnP) sz0)) (va_Qi post (fun _ t => mAt D cs (va_A (sh_P cs adP kdP grP cvP brP hzP fmP dmP e1P e2P fkP pnP fnP) sz0) (sh_P cs adP kdP grP cvP brP hzP fmP dmP e1P e2P fkP pnP fnP) t) (va_A (sh_P cs adP kdP grP cvP brP hzP fmP dmP e1P e2P fkP pnP fnP) sz0)) 0 0 (va_A (sh_P cs adP kdP grP cvP brP hzP fmP dmP e1P e2P fkP pnP fnP) sz0) := by
  refine Met.ofW (cc := cX1_neverComingOff) (maxL := 1) (ret := (some .int)) (by decide) rfl ?_
  intro p e s m args below meth c s₁ B hml hv
  obtain ⟨rfl, hsz, hP, hK, hD0, hE⟩ := hv
  have hx := B.exec
  have hb := B.bytes
  have hr := B.returns
  have hts := atoms_spec (ws := wsX1_neverComingOff) B.pre
  have hown : s.vm.findClass RX1 = some m.cls := findClass_of_methodNamed B.named
  have hlocks := B.notSynchronized
  subst hsz
  have hD := hD0.self (sz := s.heap.size)
  generalize hAe : va_A (sh_P cs adP kdP grP cvP brP hzP fmP dmP e1P e2P fkP pnP fnP) s.heap.size = A at hD hE ⊢
  have hA : ∀ q : Nat, s.heap.size ≤ q → A q := fun q h => by rw [← hAe]; exact Or.inr h
  have hS : va_S A s.heap s.heap [] := va_S.rf
  have hl := lv_entry ([.ref (adP 0)]) (n := 1) (Nat.le_of_ble_eq_true rfl)
  rw [lg_entry_eq]
  generalize (lg_sl ([.ref (adP 0)]) ++ List.replicate (1 - (lg_sl ([.ref (adP 0)])).length) Slot.unset).toArray = ls at hl ⊢
  have hl : lv_has ls 1 [(0, .ref (adP 0))] := hl
  refine lv_iconst (v := 1) hx hb dX1_neverComingOff_0 (by decide) ?_
  refine lv_aload_n hx hb dX1_neverComingOff_1 rfl (lv_at hl 0 rfl) ?_
  refine va_get (D := D) (ci := 1) (v := .int pnP) (C := RX1) (T := TX1) (N := 12) hx hb hts (by decide +kernel) hown hK hP 0 rfl rfl 10 (by decide) (hts (.fieldLink RX1 43 "PartGraphs$Product" "partCount" "I") (by decide +kernel)) (fun _ h9 => h9) rfl dX1_neverComingOff_2 ?_
  refine lv_ishl hx hb dX1_neverComingOff_5 ?_
  refine lv_iconst (v := 1) hx hb dX1_neverComingOff_6 (by decide) ?_
  refine lv_isub hx hb dX1_neverComingOff_7 ?_
  refine lv_aload_n hx hb dX1_neverComingOff_8 rfl (lv_at hl 0 rfl) ?_
  refine lv_iconst (v := (-1)) hx hb dX1_neverComingOff_9 (by decide) ?_
  have hFc := va_free (wc := (sh_P cs adP kdP grP cvP brP hzP fmP dmP e1P e2P fkP pnP fnP)) hD hS hA [0, 1, 2, 3, 4, 5, 6, 7, 8, 9, 10] rfl
  refine va_calli (va_runV (As := [.int (-1)]) (rest := [.int ((1 <<< (pnP &&& 31)) - 1)]) ⟨hx, hb, hml, hown, hts⟩ (met_X1_comingOff l D cs ev _ adP kdP grP cvP brP hzP fmP dmP e1P e2P fkP pnP fnP (-1) _ h) (cwV 1 hts gX1_neverComingOff_X1_comingOff rfl rfl rfl (by decide +kernel) ⟨Nat.le_of_ble_eq_true rfl, Nat.le_of_ble_eq_true rfl⟩) (mPreV (va_recv hK hP (ci := 1) (q0 := 0) rfl rfl) hP hD hS hK hE hFc [0, 1, 2, 3, 4, 5, 6, 7, 8, 9, 10] (by decide) rfl) rfl rfl hl.1 rfl (lv_room (Nat.le_of_ble_eq_true rfl)) dX1_neverComingOff_10 ⟨Nat.le_of_ble_eq_true rfl, Nat.le_of_ble_eq_true rfl⟩) hS (fun q _ h => hFc q h) hFc (fun r_1 u t H1 locs ht hvm hw hB hz1 hk1 hS => ?_)
  have h := hw
  obtain ⟨hP1, hK1, hD1⟩ := hB
  rw [ht] at hP1
  obtain ⟨hP, hD⟩ := mJoin (wr := ([] : va_W)) (w1 := (sh_P cs adP kdP grP cvP brP hzP fmP dmP e1P e2P fkP pnP fnP)) (w' := (sh_P cs adP kdP grP cvP brP hzP fmP dmP e1P e2P fkP pnP fnP)) hP hD [0, 1, 2, 3, 4, 5, 6, 7, 8, 9, 10] [] rfl rfl (by decide) (by decide) hk1 hFc hP1 hD1 [0, 1, 2, 3, 4, 5, 6, 7, 8, 9, 10] (by decide) rfl
  generalize H1 = H at hP hS ⊢
  refine lv_iconst (v := (-1)) hx hb dX1_neverComingOff_13 (by decide) ?_
  refine lv_ixor hx hb dX1_neverComingOff_14 ?_
  refine lv_iand hx hb dX1_neverComingOff_15 ?_
  exact W.iret (v := ((1 <<< (pnP &&& 31)) - 1) &&& (r_1 ^^^ (-1))) hx hb hr (fun t ht hW => ⟨⟨((1 <<< (pnP &&& 31)) - 1) &&& (r_1 ^^^ (-1)), (), rfl, h, by rw [ht]; exact hP, va_K.moved hW.alike hK, hD⟩, hS.F ht⟩) hS.2.2 dX1_neverComingOff_16
def wp_X1_mustComeOffBefore (cvP : Nat → Int32) (brP : Nat → Int32) (pnP : Int32) (p1 : Int32) (post : Int32 → Unit → Prop) : Prop :=
    ∀ (A26 : Int32 → Int32 → Prop),
    (∀ (v2 : Int32) (v3 : Int32), ((pnP ≤ v3 → post v2 ()) ∧ (¬ pnP ≤ v3 → ((v3 = p1 → A26 v2 (v3 + 1)) ∧ (¬ v3 = p1 → wp_X1_comingOff cvP brP pnP v3 (fun r_8 _ => wp_X5_contains r_8 p1 (fun r_9 _ => ((r_9 = 0 → A26 (v2 ||| (1 <<< (v3 &&& 31))) (v3 + 1)) ∧ (¬ r_9 = 0 → A26 v2 (v3 + 1))))))))) → A26 v2 v3) →
    wp_X1_hasPart pnP p1 (fun r_1 _ => ((r_1 = 0 → post 0 ()) ∧ (¬ r_1 = 0 → wp_X1_comingOff cvP brP pnP (-1) (fun r_3 _ => wp_X5_contains r_3 p1 (fun r_4 _ => ((r_4 = 0 → post 0 ()) ∧ (¬ r_4 = 0 → A26 0 0)))))))
set_option maxHeartbeats 4000000 in
set_option maxRecDepth 100000 in
theorem met_X1_mustComeOffBefore (l : Launch) (D : va_G) (cs : Nat → ClassId) (ev : Nat → Nat → Nat) (sz0 : Nat) (adP : Nat → Nat) (kdP : Nat → Int32) (grP : Nat → Int64) (cvP : Nat → Int32) (brP : Nat → Int32) (hzP : Nat → Int32) (fmP : Nat → Int32) (dmP : Nat → Int32) (e1P : Nat → Int32) (e2P : Nat → Int32) (fkP : Nat → Int32) (pnP : Int32) (fnP : Int32) (p1 : Int32) (post : Int32 → Unit → Prop) (h : wp_X1_mustComeOffBefore cvP brP pnP p1 post) : Met l yX1_mustComeOffBefore wsX1_mustComeOffBefore ({ frames := 4, cells := 0, slots := 0, locals := 91 }) (va_Pc [.ref (adP 0), .int p1] (mPre D cs ev (sh_P cs adP kdP grP cvP brP hzP fmP dmP e1P e2P fkP pnP fnP) sz0)) (va_Qi post (fun _ t => mAt D cs (va_A (sh_P cs adP kdP grP cvP brP hzP fmP dmP e1P e2P fkP pnP fnP) sz0) (sh_P cs adP kdP grP cvP brP hzP fmP dmP e1P e2P fkP pnP fnP) t) (va_A (sh_P cs adP kdP grP cvP brP hzP fmP dmP e1P e2P fkP pnP fnP) sz0)) 0 0 (va_A (sh_P cs adP kdP grP cvP brP hzP fmP dmP e1P e2P fkP pnP fnP) sz0) := by
  refine Met.ofW (cc := cX1_mustComeOffBefore) (maxL := 4) (ret := (some .int)) (by decide) rfl ?_
  intro p e s m args below meth c s₁ B hml hv
  obtain ⟨rfl, hsz, hP, hK, hD0, hE⟩ := hv
  have hx := B.exec
  have hb := B.bytes
  have hr := B.returns
  have hts := atoms_spec (ws := wsX1_mustComeOffBefore) B.pre
  have hown : s.vm.findClass RX1 = some m.cls := findClass_of_methodNamed B.named
  have hlocks := B.notSynchronized
  subst hsz
  have hD := hD0.self (sz := s.heap.size)
  generalize hAe : va_A (sh_P cs adP kdP grP cvP brP hzP fmP dmP e1P e2P fkP pnP fnP) s.heap.size = A at hD hE ⊢
  have hA : ∀ q : Nat, s.heap.size ≤ q → A q := fun q h => by rw [← hAe]; exact Or.inr h
  have hS : va_S A s.heap s.heap [] := va_S.rf
  have hl := lv_entry ([.ref (adP 0), .int p1]) (n := 4) (Nat.le_of_ble_eq_true rfl)
  rw [lg_entry_eq]
  generalize (lg_sl ([.ref (adP 0), .int p1]) ++ List.replicate (4 - (lg_sl ([.ref (adP 0), .int p1])).length) Slot.unset).toArray = ls at hl ⊢
  have hl : lv_has ls 4 [(0, .ref (adP 0)), (1, .int p1)] := hl
  obtain ⟨A26, hA26⟩ : ∃ Q : Int32 → Int32 → Prop, Q = (fun v2 v3 => ∀ (H : Heap) (locs : List Loc), va_P D vwCl (sh_P cs adP kdP grP cvP brP hzP fmP dmP e1P e2P fkP pnP fnP) H → va_D A (sh_P cs adP kdP grP cvP brP hzP fmP dmP e1P e2P fkP pnP fnP) → va_S A s.heap H locs → ∀ ls : Array Slot, lv_has ls 4 [(0, .ref (adP 0)), (1, .int p1), (2, .int v2), (3, .int v3)] → W p l e (headSpec wsX1_mustComeOffBefore ({ frames := 4, cells := 0, slots := 0, locals := 91 })).room s m ([.ref (adP 0), .int p1] : List Value).toArray below meth c H locs 0 0 (MQ below (va_Qi post (fun _ t => mAt D cs (A) (sh_P cs adP kdP grP cvP brP hzP fmP dmP e1P e2P fkP pnP fnP) t) A) ([.ref (adP 0), .int p1] : List Value).toArray s 0 0 A) (F0 m 26 ls [])) := ⟨_, rfl⟩
  have s26 : ∀ (v2 : Int32) (v3 : Int32), ((pnP ≤ v3 → post v2 ()) ∧ (¬ pnP ≤ v3 → ((v3 = p1 → A26 v2 (v3 + 1)) ∧ (¬ v3 = p1 → wp_X1_comingOff cvP brP pnP v3 (fun r_8 _ => wp_X5_contains r_8 p1 (fun r_9 _ => ((r_9 = 0 → A26 (v2 ||| (1 <<< (v3 &&& 31))) (v3 + 1)) ∧ (¬ r_9 = 0 → A26 v2 (v3 + 1))))))))) → A26 v2 v3 := by
    intro v2 v3 h
    rw [hA26]
    intro H locs hP hD hS ls hl
    refine lv_iload_n hx hb dX1_mustComeOffBefore_26 rfl (lv_at hl 3 rfl) ?_
    refine lv_aload_n hx hb dX1_mustComeOffBefore_27 rfl (lv_at hl 0 rfl) ?_
    refine va_get (D := D) (ci := 1) (v := .int pnP) (C := RX1) (T := TX1) (N := 12) hx hb hts (by decide +kernel) hown hK hP 0 rfl rfl 10 (by decide) (hts (.fieldLink RX1 43 "PartGraphs$Product" "partCount" "I") (by decide +kernel)) (fun _ h9 => h9) rfl dX1_mustComeOffBefore_28 ?_
    refine lv_icmp_ge (tgt := 63) hx hb dX1_mustComeOffBefore_31 (by decide) (fun c_6 => ?_) (fun c_6 => ?_)
    · have h := h.1 c_6
      refine lv_iload_n hx hb dX1_mustComeOffBefore_63 rfl (lv_at hl 2 rfl) ?_
      exact W.iret (v := v2) hx hb hr (fun t ht hW => ⟨⟨v2, (), rfl, h, by rw [ht]; exact hP, va_K.moved hW.alike hK, hD⟩, hS.F ht⟩) hS.2.2 dX1_mustComeOffBefore_64
    · have h := h.2 c_6
      refine lv_iload_n hx hb dX1_mustComeOffBefore_34 rfl (lv_at hl 3 rfl) ?_
      refine lv_iload_n hx hb dX1_mustComeOffBefore_35 rfl (lv_at hl 1 rfl) ?_
      refine lv_icmp_eq (tgt := 57) hx hb dX1_mustComeOffBefore_36 (by decide) (fun c_7 => ?_) (fun c_7 => ?_)
      · have h := h.1 c_7
        refine lv_iinc (v := v3 + 1) (lv' := [(3, .int (v3 + 1)), (0, .ref (adP 0)), (1, .int p1), (2, .int v2)]) hx hb dX1_mustComeOffBefore_57 hl (k := 3) rfl rfl (by decide) rfl (fun ls hl => ?_)
        refine lv_goto (tgt := 26) hx hb dX1_mustComeOffBefore_60 (by decide) ?_
        rw [hA26] at h
        exact h _ _ hP hD hS ls (lv_sub hl [1, 2, 3, 0] rfl)
      · have h := h.2 c_7
        refine lv_aload_n hx hb dX1_mustComeOffBefore_39 rfl (lv_at hl 0 rfl) ?_
        refine lv_iload_n hx hb dX1_mustComeOffBefore_40 rfl (lv_at hl 3 rfl) ?_
        have hFc := va_free (wc := (sh_P cs adP kdP grP cvP brP hzP fmP dmP e1P e2P fkP pnP fnP)) hD hS hA [0, 1, 2, 3, 4, 5, 6, 7, 8, 9, 10] rfl
        refine va_calli (va_runV (As := [.int v3]) (rest := []) ⟨hx, hb, hml, hown, hts⟩ (met_X1_comingOff l D cs ev _ adP kdP grP cvP brP hzP fmP dmP e1P e2P fkP pnP fnP v3 _ h) (cwV 1 hts gX1_mustComeOffBefore_X1_comingOff rfl rfl rfl (by decide +kernel) ⟨Nat.le_of_ble_eq_true rfl, Nat.le_of_ble_eq_true rfl⟩) (mPreV (va_recv hK hP (ci := 1) (q0 := 0) rfl rfl) hP hD hS hK hE hFc [0, 1, 2, 3, 4, 5, 6, 7, 8, 9, 10] (by decide) rfl) rfl rfl hl.1 rfl (lv_room (Nat.le_of_ble_eq_true rfl)) dX1_mustComeOffBefore_41 ⟨Nat.le_of_ble_eq_true rfl, Nat.le_of_ble_eq_true rfl⟩) hS (fun q _ h => hFc q h) hFc (fun r_8 u t H1 locs ht hvm hw hB hz1 hk1 hS => ?_)
        have h := hw
        obtain ⟨hP1, hK1, hD1⟩ := hB
        rw [ht] at hP1
        obtain ⟨hP, hD⟩ := mJoin (wr := ([] : va_W)) (w1 := (sh_P cs adP kdP grP cvP brP hzP fmP dmP e1P e2P fkP pnP fnP)) (w' := (sh_P cs adP kdP grP cvP brP hzP fmP dmP e1P e2P fkP pnP fnP)) hP hD [0, 1, 2, 3, 4, 5, 6, 7, 8, 9, 10] [] rfl rfl (by decide) (by decide) hk1 hFc hP1 hD1 [0, 1, 2, 3, 4, 5, 6, 7, 8, 9, 10] (by decide) rfl
        generalize H1 = H at hP hS ⊢
        refine lv_iload_n hx hb dX1_mustComeOffBefore_44 rfl (lv_at hl 1 rfl) ?_
        have hFc := va_free (wc := ([] : va_W)) hD hS hA [] rfl
        refine va_calli (va_runSN (As := [.int r_8, .int p1]) (rest := []) ⟨hx, hb, hml, hown, hts⟩ (met_X5_contains l D cs ev _ r_8 p1 _ h) ⟨va_cnB 2 hts gX1_mustComeOffBefore_X5_contains_n71 rfl rfl rfl hE.1.2.1 (hts (.initialized RX5) (by decide +kernel)) (by decide +kernel) ⟨Nat.le_of_ble_eq_true rfl, Nat.le_of_ble_eq_true rfl⟩, hts (.static yX5_contains) (by decide +kernel), trivial⟩ (mPreS hP hD hS hK hE hFc [] (by decide) rfl) rfl rfl hl.1 rfl (lv_room (Nat.le_of_ble_eq_true rfl)) dX1_mustComeOffBefore_45 ⟨Nat.le_of_ble_eq_true rfl, Nat.le_of_ble_eq_true rfl⟩) hS (fun q _ h => hFc q h) hFc (fun r_9 u t H1 locs ht hvm hw hB hz1 hk1 hS => ?_)
        have h := hw
        obtain ⟨hP1, hK1, hD1⟩ := hB
        rw [ht] at hP1
        obtain ⟨hP, hD⟩ := mJoin (wr := (sh_P cs adP kdP grP cvP brP hzP fmP dmP e1P e2P fkP pnP fnP)) (w1 := ([] : va_W)) (w' := (sh_P cs adP kdP grP cvP brP hzP fmP dmP e1P e2P fkP pnP fnP)) hP hD [] [0, 1, 2, 3, 4, 5, 6, 7, 8, 9, 10] rfl rfl (by decide) (by decide) hk1 hFc hP1 hD1 [0, 1, 2, 3, 4, 5, 6, 7, 8, 9, 10] (by decide) rfl
        generalize H1 = H at hP hS ⊢
        refine lv_if_ne (tgt := 57) hx hb dX1_mustComeOffBefore_48 (by decide) (fun c_10 => ?_) (fun c_10 => ?_)
        · have h := h.2 c_10
          refine lv_iinc (v := v3 + 1) (lv' := [(3, .int (v3 + 1)), (0, .ref (adP 0)), (1, .int p1), (2, .int v2)]) hx hb dX1_mustComeOffBefore_57 hl (k := 3) rfl rfl (by decide) rfl (fun ls hl => ?_)
          refine lv_goto (tgt := 26) hx hb dX1_mustComeOffBefore_60 (by decide) ?_
          rw [hA26] at h
          exact h _ _ hP hD hS ls (lv_sub hl [1, 2, 3, 0] rfl)
        · have h := h.1 c_10
          refine lv_iload_n hx hb dX1_mustComeOffBefore_51 rfl (lv_at hl 2 rfl) ?_
          refine lv_iconst (v := 1) hx hb dX1_mustComeOffBefore_52 (by decide) ?_
          refine lv_iload_n hx hb dX1_mustComeOffBefore_53 rfl (lv_at hl 3 rfl) ?_
          refine lv_ishl hx hb dX1_mustComeOffBefore_54 ?_
          refine lv_ior hx hb dX1_mustComeOffBefore_55 ?_
          refine lv_istore_n (lv' := [(2, .int (v2 ||| (1 <<< (v3 &&& 31)))), (0, .ref (adP 0)), (1, .int p1), (3, .int v3)]) hx hb dX1_mustComeOffBefore_56 rfl hl (by decide) rfl (fun ls hl => ?_)
          refine lv_iinc (v := v3 + 1) (lv' := [(3, .int (v3 + 1)), (2, .int (v2 ||| (1 <<< (v3 &&& 31)))), (0, .ref (adP 0)), (1, .int p1)]) hx hb dX1_mustComeOffBefore_57 hl (k := 3) rfl rfl (by decide) rfl (fun ls hl => ?_)
          refine lv_goto (tgt := 26) hx hb dX1_mustComeOffBefore_60 (by decide) ?_
          rw [hA26] at h
          exact h _ _ hP hD hS ls (lv_sub hl [2, 3, 1, 0] rfl)
  have h := h A26 s26
  refine lv_iconst (v := 0) hx hb dX1_mustComeOffBefore_0 (by decide) ?_
  refine lv_istore_n (lv' := [(2, .int 0), (0, .ref (adP 0)), (1, .int p1)]) hx hb dX1_mustComeOffBefore_1 rfl hl (by decide) rfl (fun ls hl => ?_)
  refine lv_aload_n hx hb dX1_mustComeOffBefore_2 rfl (lv_at hl 1 rfl) ?_
  refine lv_iload_n hx hb dX1_mustComeOffBefore_3 rfl (lv_at hl 2 rfl) ?_
  have hFc := va_free (wc := (sh_P cs adP kdP grP cvP brP hzP fmP dmP e1P e2P fkP pnP fnP)) hD hS hA [0, 1, 2, 3, 4, 5, 6, 7, 8, 9, 10] rfl
  refine va_calli (va_runV (As := [.int p1]) (rest := []) ⟨hx, hb, hml, hown, hts⟩ (met_X1_hasPart l D cs ev _ adP kdP grP cvP brP hzP fmP dmP e1P e2P fkP pnP fnP p1 _ h) (cwV 1 hts gX1_mustComeOffBefore_X1_hasPart rfl rfl rfl (by decide +kernel) ⟨Nat.le_of_ble_eq_true rfl, Nat.le_of_ble_eq_true rfl⟩) (mPreV (va_recv hK hP (ci := 1) (q0 := 0) rfl rfl) hP hD hS hK hE hFc [0, 1, 2, 3, 4, 5, 6, 7, 8, 9, 10] (by decide) rfl) rfl rfl hl.1 rfl (lv_room (Nat.le_of_ble_eq_true rfl)) dX1_mustComeOffBefore_4 ⟨Nat.le_of_ble_eq_true rfl, Nat.le_of_ble_eq_true rfl⟩) hS (fun q _ h => hFc q h) hFc (fun r_1 u t H1 locs ht hvm hw hB hz1 hk1 hS => ?_)
  have h := hw
  obtain ⟨hP1, hK1, hD1⟩ := hB
  rw [ht] at hP1
  obtain ⟨hP, hD⟩ := mJoin (wr := ([] : va_W)) (w1 := (sh_P cs adP kdP grP cvP brP hzP fmP dmP e1P e2P fkP pnP fnP)) (w' := (sh_P cs adP kdP grP cvP brP hzP fmP dmP e1P e2P fkP pnP fnP)) hP hD [0, 1, 2, 3, 4, 5, 6, 7, 8, 9, 10] [] rfl rfl (by decide) (by decide) hk1 hFc hP1 hD1 [0, 1, 2, 3, 4, 5, 6, 7, 8, 9, 10] (by decide) rfl
  generalize H1 = H at hP hS ⊢
  refine lv_if_eq (tgt := 22) hx hb dX1_mustComeOffBefore_7 (by decide) (fun c_2 => ?_) (fun c_2 => ?_)
  · have h := h.1 c_2
    refine lv_iload_n hx hb dX1_mustComeOffBefore_22 rfl (lv_at hl 0 rfl) ?_
    exact W.iret (v := 0) hx hb hr (fun t ht hW => ⟨⟨0, (), rfl, h, by rw [ht]; exact hP, va_K.moved hW.alike hK, hD⟩, hS.F ht⟩) hS.2.2 dX1_mustComeOffBefore_23
  · have h := h.2 c_2
    refine lv_aload_n hx hb dX1_mustComeOffBefore_10 rfl (lv_at hl 1 rfl) ?_
    refine lv_iconst (v := (-1)) hx hb dX1_mustComeOffBefore_11 (by decide) ?_
    have hFc := va_free (wc := (sh_P cs adP kdP grP cvP brP hzP fmP dmP e1P e2P fkP pnP fnP)) hD hS hA [0, 1, 2, 3, 4, 5, 6, 7, 8, 9, 10] rfl
    refine va_calli (va_runV (As := [.int (-1)]) (rest := []) ⟨hx, hb, hml, hown, hts⟩ (met_X1_comingOff l D cs ev _ adP kdP grP cvP brP hzP fmP dmP e1P e2P fkP pnP fnP (-1) _ h) (cwV 1 hts gX1_mustComeOffBefore_X1_comingOff rfl rfl rfl (by decide +kernel) ⟨Nat.le_of_ble_eq_true rfl, Nat.le_of_ble_eq_true rfl⟩) (mPreV (va_recv hK hP (ci := 1) (q0 := 0) rfl rfl) hP hD hS hK hE hFc [0, 1, 2, 3, 4, 5, 6, 7, 8, 9, 10] (by decide) rfl) rfl rfl hl.1 rfl (lv_room (Nat.le_of_ble_eq_true rfl)) dX1_mustComeOffBefore_12 ⟨Nat.le_of_ble_eq_true rfl, Nat.le_of_ble_eq_true rfl⟩) hS (fun q _ h => hFc q h) hFc (fun r_3 u t H1 locs ht hvm hw hB hz1 hk1 hS => ?_)
    have h := hw
    obtain ⟨hP1, hK1, hD1⟩ := hB
    rw [ht] at hP1
    obtain ⟨hP, hD⟩ := mJoin (wr := ([] : va_W)) (w1 := (sh_P cs adP kdP grP cvP brP hzP fmP dmP e1P e2P fkP pnP fnP)) (w' := (sh_P cs adP kdP grP cvP brP hzP fmP dmP e1P e2P fkP pnP fnP)) hP hD [0, 1, 2, 3, 4, 5, 6, 7, 8, 9, 10] [] rfl rfl (by decide) (by decide) hk1 hFc hP1 hD1 [0, 1, 2, 3, 4, 5, 6, 7, 8, 9, 10] (by decide) rfl
    generalize H1 = H at hP hS ⊢
    refine lv_iload_n hx hb dX1_mustComeOffBefore_15 rfl (lv_at hl 2 rfl) ?_
    have hFc := va_free (wc := ([] : va_W)) hD hS hA [] rfl
    refine va_calli (va_runSN (As := [.int r_3, .int p1]) (rest := []) ⟨hx, hb, hml, hown, hts⟩ (met_X5_contains l D cs ev _ r_3 p1 _ h) ⟨va_cnB 2 hts gX1_mustComeOffBefore_X5_contains_n71 rfl rfl rfl hE.1.2.1 (hts (.initialized RX5) (by decide +kernel)) (by decide +kernel) ⟨Nat.le_of_ble_eq_true rfl, Nat.le_of_ble_eq_true rfl⟩, hts (.static yX5_contains) (by decide +kernel), trivial⟩ (mPreS hP hD hS hK hE hFc [] (by decide) rfl) rfl rfl hl.1 rfl (lv_room (Nat.le_of_ble_eq_true rfl)) dX1_mustComeOffBefore_16 ⟨Nat.le_of_ble_eq_true rfl, Nat.le_of_ble_eq_true rfl⟩) hS (fun q _ h => hFc q h) hFc (fun r_4 u t H1 locs ht hvm hw hB hz1 hk1 hS => ?_)
    have h := hw
    obtain ⟨hP1, hK1, hD1⟩ := hB
    rw [ht] at hP1
    obtain ⟨hP, hD⟩ := mJoin (wr := (sh_P cs adP kdP grP cvP brP hzP fmP dmP e1P e2P fkP pnP fnP)) (w1 := ([] : va_W)) (w' := (sh_P cs adP kdP grP cvP brP hzP fmP dmP e1P e2P fkP pnP fnP)) hP hD [] [0, 1, 2, 3, 4, 5, 6, 7, 8, 9, 10] rfl rfl (by decide) (by decide) hk1 hFc hP1 hD1 [0, 1, 2, 3, 4, 5, 6, 7, 8, 9, 10] (by decide) rfl
    generalize H1 = H at hP hS ⊢
    refine lv_if_ne (tgt := 24) hx hb dX1_mustComeOffBefore_19 (by decide) (fun c_5 => ?_) (fun c_5 => ?_)
    · have h := h.2 c_5
      refine lv_iconst (v := 0) hx hb dX1_mustComeOffBefore_24 (by decide) ?_
      refine lv_istore_n (lv' := [(3, .int 0), (2, .int 0), (0, .ref (adP 0)), (1, .int p1)]) hx hb dX1_mustComeOffBefore_25 rfl hl (by decide) rfl (fun ls hl => ?_)
      rw [hA26] at h
      exact h _ _ hP hD hS ls (lv_sub hl [2, 3, 1, 0] rfl)
    · have h := h.1 c_5
      refine lv_iload_n hx hb dX1_mustComeOffBefore_22 rfl (lv_at hl 0 rfl) ?_
      exact W.iret (v := 0) hx hb hr (fun t ht hW => ⟨⟨0, (), rfl, h, by rw [ht]; exact hP, va_K.moved hW.alike hK, hD⟩, hS.F ht⟩) hS.2.2 dX1_mustComeOffBefore_23
def wp_X1_membersOf (fmP : Nat → Int32) (pnP : Int32) (p1 : Int32) (post : Int32 → Unit → Prop) : Prop :=
    ∀ (A4 : Int32 → Int32 → Prop),
    (∀ (v2 : Int32) (v3 : Int32), ((pnP ≤ v3 → post v2 ()) ∧ (¬ pnP ≤ v3 → (vp_in v3 10 ∧ (((fmP v3.toNatClampNeg) = p1 → A4 (v2 ||| (1 <<< (v3 &&& 31))) (v3 + 1)) ∧ (¬ (fmP v3.toNatClampNeg) = p1 → A4 v2 (v3 + 1)))))) → A4 v2 v3) →
    A4 0 0
set_option maxHeartbeats 4000000 in
set_option maxRecDepth 100000 in
theorem met_X1_membersOf (l : Launch) (D : va_G) (cs : Nat → ClassId) (ev : Nat → Nat → Nat) (sz0 : Nat) (adP : Nat → Nat) (kdP : Nat → Int32) (grP : Nat → Int64) (cvP : Nat → Int32) (brP : Nat → Int32) (hzP : Nat → Int32) (fmP : Nat → Int32) (dmP : Nat → Int32) (e1P : Nat → Int32) (e2P : Nat → Int32) (fkP : Nat → Int32) (pnP : Int32) (fnP : Int32) (p1 : Int32) (post : Int32 → Unit → Prop) (h : wp_X1_membersOf fmP pnP p1 post) : Met l yX1_membersOf wsX1_membersOf ({ frames := 0, cells := 0, slots := 0, locals := 0 }) (va_Pc [.ref (adP 0), .int p1] (mPre D cs ev (sh_P cs adP kdP grP cvP brP hzP fmP dmP e1P e2P fkP pnP fnP) sz0)) (va_Qi post (fun _ t => mAt D cs (va_A (sh_P cs adP kdP grP cvP brP hzP fmP dmP e1P e2P fkP pnP fnP) sz0) (sh_P cs adP kdP grP cvP brP hzP fmP dmP e1P e2P fkP pnP fnP) t) (va_A (sh_P cs adP kdP grP cvP brP hzP fmP dmP e1P e2P fkP pnP fnP) sz0)) 0 0 (va_A (sh_P cs adP kdP grP cvP brP hzP fmP dmP e1P e2P fkP pnP fnP) sz0) := by
  refine Met.ofW (cc := cX1_membersOf) (maxL := 4) (ret := (some .int)) (by decide) rfl ?_
  intro p e s m args below meth c s₁ B hml hv
  obtain ⟨rfl, hsz, hP, hK, hD0, hE⟩ := hv
  have hx := B.exec
  have hb := B.bytes
  have hr := B.returns
  have hts := atoms_spec (ws := wsX1_membersOf) B.pre
  have hown : s.vm.findClass RX1 = some m.cls := findClass_of_methodNamed B.named
  have hlocks := B.notSynchronized
  subst hsz
  have hD := hD0.self (sz := s.heap.size)
  generalize hAe : va_A (sh_P cs adP kdP grP cvP brP hzP fmP dmP e1P e2P fkP pnP fnP) s.heap.size = A at hD hE ⊢
  have hA : ∀ q : Nat, s.heap.size ≤ q → A q := fun q h => by rw [← hAe]; exact Or.inr h
  have hS : va_S A s.heap s.heap [] := va_S.rf
  have hl := lv_entry ([.ref (adP 0), .int p1]) (n := 4) (Nat.le_of_ble_eq_true rfl)
  rw [lg_entry_eq]
  generalize (lg_sl ([.ref (adP 0), .int p1]) ++ List.replicate (4 - (lg_sl ([.ref (adP 0), .int p1])).length) Slot.unset).toArray = ls at hl ⊢
  have hl : lv_has ls 4 [(0, .ref (adP 0)), (1, .int p1)] := hl
  obtain ⟨A4, hA4⟩ : ∃ Q : Int32 → Int32 → Prop, Q = (fun v2 v3 => ∀ (H : Heap) (locs : List Loc), va_P D vwCl (sh_P cs adP kdP grP cvP brP hzP fmP dmP e1P e2P fkP pnP fnP) H → va_D A (sh_P cs adP kdP grP cvP brP hzP fmP dmP e1P e2P fkP pnP fnP) → va_S A s.heap H locs → ∀ ls : Array Slot, lv_has ls 4 [(0, .ref (adP 0)), (1, .int p1), (2, .int v2), (3, .int v3)] → W p l e (headSpec wsX1_membersOf ({ frames := 0, cells := 0, slots := 0, locals := 0 })).room s m ([.ref (adP 0), .int p1] : List Value).toArray below meth c H locs 0 0 (MQ below (va_Qi post (fun _ t => mAt D cs (A) (sh_P cs adP kdP grP cvP brP hzP fmP dmP e1P e2P fkP pnP fnP) t) A) ([.ref (adP 0), .int p1] : List Value).toArray s 0 0 A) (F0 m 4 ls [])) := ⟨_, rfl⟩
  have s4 : ∀ (v2 : Int32) (v3 : Int32), ((pnP ≤ v3 → post v2 ()) ∧ (¬ pnP ≤ v3 → (vp_in v3 10 ∧ (((fmP v3.toNatClampNeg) = p1 → A4 (v2 ||| (1 <<< (v3 &&& 31))) (v3 + 1)) ∧ (¬ (fmP v3.toNatClampNeg) = p1 → A4 v2 (v3 + 1)))))) → A4 v2 v3 := by
    intro v2 v3 h
    rw [hA4]
    intro H locs hP hD hS ls hl
    refine lv_iload_n hx hb dX1_membersOf_4 rfl (lv_at hl 3 rfl) ?_
    refine lv_aload_n hx hb dX1_membersOf_5 rfl (lv_at hl 0 rfl) ?_
    refine va_get (D := D) (ci := 1) (v := .int pnP) (C := RX1) (T := TX1) (N := 12) hx hb hts (by decide +kernel) hown hK hP 0 rfl rfl 10 (by decide) (hts (.fieldLink RX1 43 "PartGraphs$Product" "partCount" "I") (by decide +kernel)) (fun _ h9 => h9) rfl dX1_membersOf_6 ?_
    refine lv_icmp_ge (tgt := 34) hx hb dX1_membersOf_9 (by decide) (fun c_1 => ?_) (fun c_1 => ?_)
    · have h := h.1 c_1
      refine lv_iload_n hx hb dX1_membersOf_34 rfl (lv_at hl 2 rfl) ?_
      exact W.iret (v := v2) hx hb hr (fun t ht hW => ⟨⟨v2, (), rfl, h, by rw [ht]; exact hP, va_K.moved hW.alike hK, hD⟩, hS.F ht⟩) hS.2.2 dX1_membersOf_35
    · have h := h.2 c_1
      refine lv_aload_n hx hb dX1_membersOf_12 rfl (lv_at hl 0 rfl) ?_
      refine va_get (D := D) (ci := 1) (v := .ref (adP 6)) (C := RX1) (T := TX1) (N := 12) hx hb hts (by decide +kernel) hown hK hP 0 rfl rfl 5 (by decide) (hts (.fieldLink RX1 28 "PartGraphs$Product" "families" "[I") (by decide +kernel)) (fun _ h9 => h9) rfl dX1_membersOf_13 ?_
      refine lv_iload_n hx hb dX1_membersOf_16 rfl (lv_at hl 3 rfl) ?_
      have hin := h.1
      have h := h.2
      refine va_iald (D := D) (cl := vwCl) hx hb hK hP 6 0 rfl rfl hin dX1_membersOf_17 ?_
      refine lv_iload_n hx hb dX1_membersOf_18 rfl (lv_at hl 1 rfl) ?_
      refine lv_icmp_ne (tgt := 28) hx hb dX1_membersOf_19 (by decide) (fun c_2 => ?_) (fun c_2 => ?_)
      · have h := h.2 c_2
        refine lv_iinc (v := v3 + 1) (lv' := [(3, .int (v3 + 1)), (0, .ref (adP 0)), (1, .int p1), (2, .int v2)]) hx hb dX1_membersOf_28 hl (k := 3) rfl rfl (by decide) rfl (fun ls hl => ?_)
        refine lv_goto (tgt := 4) hx hb dX1_membersOf_31 (by decide) ?_
        rw [hA4] at h
        exact h _ _ hP hD hS ls (lv_sub hl [1, 2, 3, 0] rfl)
      · have h := h.1 c_2
        refine lv_iload_n hx hb dX1_membersOf_22 rfl (lv_at hl 2 rfl) ?_
        refine lv_iconst (v := 1) hx hb dX1_membersOf_23 (by decide) ?_
        refine lv_iload_n hx hb dX1_membersOf_24 rfl (lv_at hl 3 rfl) ?_
        refine lv_ishl hx hb dX1_membersOf_25 ?_
        refine lv_ior hx hb dX1_membersOf_26 ?_
        refine lv_istore_n (lv' := [(2, .int (v2 ||| (1 <<< (v3 &&& 31)))), (0, .ref (adP 0)), (1, .int p1), (3, .int v3)]) hx hb dX1_membersOf_27 rfl hl (by decide) rfl (fun ls hl => ?_)
        refine lv_iinc (v := v3 + 1) (lv' := [(3, .int (v3 + 1)), (2, .int (v2 ||| (1 <<< (v3 &&& 31)))), (0, .ref (adP 0)), (1, .int p1)]) hx hb dX1_membersOf_28 hl (k := 3) rfl rfl (by decide) rfl (fun ls hl => ?_)
        refine lv_goto (tgt := 4) hx hb dX1_membersOf_31 (by decide) ?_
        rw [hA4] at h
        exact h _ _ hP hD hS ls (lv_sub hl [2, 3, 1, 0] rfl)
  have h := h A4 s4
  refine lv_iconst (v := 0) hx hb dX1_membersOf_0 (by decide) ?_
  refine lv_istore_n (lv' := [(2, .int 0), (0, .ref (adP 0)), (1, .int p1)]) hx hb dX1_membersOf_1 rfl hl (by decide) rfl (fun ls hl => ?_)
  refine lv_iconst (v := 0) hx hb dX1_membersOf_2 (by decide) ?_
  refine lv_istore_n (lv' := [(3, .int 0), (2, .int 0), (0, .ref (adP 0)), (1, .int p1)]) hx hb dX1_membersOf_3 rfl hl (by decide) rfl (fun ls hl => ?_)
  rw [hA4] at h
  exact h _ _ hP hD hS ls (lv_sub hl [2, 3, 1, 0] rfl)
def wp_X1_variant (fmP : Nat → Int32) (pnP : Int32) (p1 : Int32) (post : Int32 → Unit → Prop) : Prop :=
    ∀ (A17 : Int32 → Int32 → Int32 → Prop),
    (∀ (v2 : Int32) (v3 : Int32) (v4 : Int32), ((v4 < 0 → ((v3 = 0 → post v2 ()) ∧ (¬ v3 = 0 → post 0 ()))) ∧ (¬ v4 < 0 → wp_X1_membersOf fmP pnP v4 (fun r_5 _ => wp_J6_bitCount_0f7a4 r_5 (fun r_6 _ => ((r_6 ≤ 0 → A17 v2 v3 (v4 + (-1))) ∧ (¬ r_6 ≤ 0 → (¬ r_6 = 0 ∧ wp_X5_memberOf r_5 (v3 - v3 / r_6 * r_6) (fun r_8 _ => (¬ r_6 = 0 ∧ A17 (v2 ||| (1 <<< (r_8 &&& 31))) (v3 / r_6) (v4 + (-1))))))))))) → A17 v2 v3 v4) →
    ((0 ≤ p1 → wp_X1_membersOf fmP pnP (-1) (fun r_2 _ => A17 r_2 p1 3)) ∧ (¬ 0 ≤ p1 → post 0 ()))
set_option maxHeartbeats 4000000 in
set_option maxRecDepth 100000 in
theorem met_X1_variant (l : Launch) (D : va_G) (cs : Nat → ClassId) (ev : Nat → Nat → Nat) (sz0 : Nat) (adP : Nat → Nat) (kdP : Nat → Int32) (grP : Nat → Int64) (cvP : Nat → Int32) (brP : Nat → Int32) (hzP : Nat → Int32) (fmP : Nat → Int32) (dmP : Nat → Int32) (e1P : Nat → Int32) (e2P : Nat → Int32) (fkP : Nat → Int32) (pnP : Int32) (fnP : Int32) (p1 : Int32) (post : Int32 → Unit → Prop) (h : wp_X1_variant fmP pnP p1 post) : Met l yX1_variant wsX1_variant ({ frames := 2, cells := 0, slots := 0, locals := 44 }) (va_Pc [.ref (adP 0), .int p1] (mPre D cs ev (sh_P cs adP kdP grP cvP brP hzP fmP dmP e1P e2P fkP pnP fnP) sz0)) (va_Qi post (fun _ t => mAt D cs (va_A (sh_P cs adP kdP grP cvP brP hzP fmP dmP e1P e2P fkP pnP fnP) sz0) (sh_P cs adP kdP grP cvP brP hzP fmP dmP e1P e2P fkP pnP fnP) t) (va_A (sh_P cs adP kdP grP cvP brP hzP fmP dmP e1P e2P fkP pnP fnP) sz0)) 0 0 (va_A (sh_P cs adP kdP grP cvP brP hzP fmP dmP e1P e2P fkP pnP fnP) sz0) := by
  refine Met.ofW (cc := cX1_variant) (maxL := 7) (ret := (some .int)) (by decide) rfl ?_
  intro p e s m args below meth c s₁ B hml hv
  obtain ⟨rfl, hsz, hP, hK, hD0, hE⟩ := hv
  have hx := B.exec
  have hb := B.bytes
  have hr := B.returns
  have hts := atoms_spec (ws := wsX1_variant) B.pre
  have hown : s.vm.findClass RX1 = some m.cls := findClass_of_methodNamed B.named
  have hlocks := B.notSynchronized
  subst hsz
  have hD := hD0.self (sz := s.heap.size)
  generalize hAe : va_A (sh_P cs adP kdP grP cvP brP hzP fmP dmP e1P e2P fkP pnP fnP) s.heap.size = A at hD hE ⊢
  have hA : ∀ q : Nat, s.heap.size ≤ q → A q := fun q h => by rw [← hAe]; exact Or.inr h
  have hS : va_S A s.heap s.heap [] := va_S.rf
  have hl := lv_entry ([.ref (adP 0), .int p1]) (n := 7) (Nat.le_of_ble_eq_true rfl)
  rw [lg_entry_eq]
  generalize (lg_sl ([.ref (adP 0), .int p1]) ++ List.replicate (7 - (lg_sl ([.ref (adP 0), .int p1])).length) Slot.unset).toArray = ls at hl ⊢
  have hl : lv_has ls 7 [(0, .ref (adP 0)), (1, .int p1)] := hl
  obtain ⟨A17, hA17⟩ : ∃ Q : Int32 → Int32 → Int32 → Prop, Q = (fun v2 v3 v4 => ∀ (H : Heap) (locs : List Loc), va_P D vwCl (sh_P cs adP kdP grP cvP brP hzP fmP dmP e1P e2P fkP pnP fnP) H → va_D A (sh_P cs adP kdP grP cvP brP hzP fmP dmP e1P e2P fkP pnP fnP) → va_S A s.heap H locs → ∀ ls : Array Slot, lv_has ls 7 [(0, .ref (adP 0)), (2, .int v2), (3, .int v3), (4, .int v4)] → W p l e (headSpec wsX1_variant ({ frames := 2, cells := 0, slots := 0, locals := 44 })).room s m ([.ref (adP 0), .int p1] : List Value).toArray below meth c H locs 0 0 (MQ below (va_Qi post (fun _ t => mAt D cs (A) (sh_P cs adP kdP grP cvP brP hzP fmP dmP e1P e2P fkP pnP fnP) t) A) ([.ref (adP 0), .int p1] : List Value).toArray s 0 0 A) (F0 m 17 ls [])) := ⟨_, rfl⟩
  have s17 : ∀ (v2 : Int32) (v3 : Int32) (v4 : Int32), ((v4 < 0 → ((v3 = 0 → post v2 ()) ∧ (¬ v3 = 0 → post 0 ()))) ∧ (¬ v4 < 0 → wp_X1_membersOf fmP pnP v4 (fun r_5 _ => wp_J6_bitCount_0f7a4 r_5 (fun r_6 _ => ((r_6 ≤ 0 → A17 v2 v3 (v4 + (-1))) ∧ (¬ r_6 ≤ 0 → (¬ r_6 = 0 ∧ wp_X5_memberOf r_5 (v3 - v3 / r_6 * r_6) (fun r_8 _ => (¬ r_6 = 0 ∧ A17 (v2 ||| (1 <<< (r_8 &&& 31))) (v3 / r_6) (v4 + (-1))))))))))) → A17 v2 v3 v4 := by
    intro v2 v3 v4 h
    rw [hA17]
    intro H locs hP hD hS ls hl
    refine lv_iload hx hb dX1_variant_17 (lv_at hl 3 rfl) ?_
    refine lv_if_lt (tgt := 67) hx hb dX1_variant_19 (by decide) (fun c_3 => ?_) (fun c_3 => ?_)
    · have h := h.1 c_3
      refine lv_iload_n hx hb dX1_variant_67 rfl (lv_at hl 2 rfl) ?_
      refine lv_if_ne (tgt := 75) hx hb dX1_variant_68 (by decide) (fun c_4 => ?_) (fun c_4 => ?_)
      · have h := h.2 c_4
        refine lv_iconst (v := 0) hx hb dX1_variant_75 (by decide) ?_
        exact W.iret (v := 0) hx hb hr (fun t ht hW => ⟨⟨0, (), rfl, h, by rw [ht]; exact hP, va_K.moved hW.alike hK, hD⟩, hS.F ht⟩) hS.2.2 dX1_variant_76
      · have h := h.1 c_4
        refine lv_iload_n hx hb dX1_variant_71 rfl (lv_at hl 1 rfl) ?_
        refine lv_goto (tgt := 76) hx hb dX1_variant_72 (by decide) ?_
        exact W.iret (v := v2) hx hb hr (fun t ht hW => ⟨⟨v2, (), rfl, h, by rw [ht]; exact hP, va_K.moved hW.alike hK, hD⟩, hS.F ht⟩) hS.2.2 dX1_variant_76
    · have h := h.2 c_3
      refine lv_aload_n hx hb dX1_variant_22 rfl (lv_at hl 0 rfl) ?_
      refine lv_iload hx hb dX1_variant_23 (lv_at hl 3 rfl) ?_
      have hFc := va_free (wc := (sh_P cs adP kdP grP cvP brP hzP fmP dmP e1P e2P fkP pnP fnP)) hD hS hA [0, 1, 2, 3, 4, 5, 6, 7, 8, 9, 10] rfl
      refine va_calli (va_runV (As := [.int v4]) (rest := []) ⟨hx, hb, hml, hown, hts⟩ (met_X1_membersOf l D cs ev _ adP kdP grP cvP brP hzP fmP dmP e1P e2P fkP pnP fnP v4 _ h) (cwV 1 hts gX1_variant_X1_membersOf rfl rfl rfl (by decide +kernel) ⟨Nat.le_of_ble_eq_true rfl, Nat.le_of_ble_eq_true rfl⟩) (mPreV (va_recv hK hP (ci := 1) (q0 := 0) rfl rfl) hP hD hS hK hE hFc [0, 1, 2, 3, 4, 5, 6, 7, 8, 9, 10] (by decide) rfl) rfl rfl hl.1 rfl (lv_room (Nat.le_of_ble_eq_true rfl)) dX1_variant_25 ⟨Nat.le_of_ble_eq_true rfl, Nat.le_of_ble_eq_true rfl⟩) hS (fun q _ h => hFc q h) hFc (fun r_5 u t H1 locs ht hvm hw hB hz1 hk1 hS => ?_)
      have h := hw
      obtain ⟨hP1, hK1, hD1⟩ := hB
      rw [ht] at hP1
      obtain ⟨hP, hD⟩ := mJoin (wr := ([] : va_W)) (w1 := (sh_P cs adP kdP grP cvP brP hzP fmP dmP e1P e2P fkP pnP fnP)) (w' := (sh_P cs adP kdP grP cvP brP hzP fmP dmP e1P e2P fkP pnP fnP)) hP hD [0, 1, 2, 3, 4, 5, 6, 7, 8, 9, 10] [] rfl rfl (by decide) (by decide) hk1 hFc hP1 hD1 [0, 1, 2, 3, 4, 5, 6, 7, 8, 9, 10] (by decide) rfl
      generalize H1 = H at hP hS ⊢
      refine lv_istore (lv' := [(5, .int r_5), (0, .ref (adP 0)), (2, .int v2), (3, .int v3), (4, .int v4)]) hx hb dX1_variant_28 hl (by decide) rfl (fun ls hl => ?_)
      refine lv_iload hx hb dX1_variant_30 (lv_at hl 0 rfl) ?_
      have hFc := va_free (wc := ([] : va_W)) hD hS hA [] rfl
      refine va_calli (va_runS (As := [.int r_5]) (rest := []) ⟨hx, hb, hml, hown, hts⟩ (met_J6_bitCount_0f7a4 l D cs ev _ r_5 _ h) (va_cwS 1 hts gX1_variant_J6_bitCount_0f7a4 rfl rfl rfl (by decide +kernel) ⟨Nat.le_of_ble_eq_true rfl, Nat.le_of_ble_eq_true rfl⟩) (mPreS hP hD hS hK hE hFc [] (by decide) rfl) rfl rfl hl.1 rfl (lv_room (Nat.le_of_ble_eq_true rfl)) dX1_variant_32 ⟨Nat.le_of_ble_eq_true rfl, Nat.le_of_ble_eq_true rfl⟩) hS (fun q _ h => hFc q h) hFc (fun r_6 u t H1 locs ht hvm hw hB hz1 hk1 hS => ?_)
      have h := hw
      obtain ⟨hP1, hK1, hD1⟩ := hB
      rw [ht] at hP1
      obtain ⟨hP, hD⟩ := mJoin (wr := (sh_P cs adP kdP grP cvP brP hzP fmP dmP e1P e2P fkP pnP fnP)) (w1 := ([] : va_W)) (w' := (sh_P cs adP kdP grP cvP brP hzP fmP dmP e1P e2P fkP pnP fnP)) hP hD [] [0, 1, 2, 3, 4, 5, 6, 7, 8, 9, 10] rfl rfl (by decide) (by decide) hk1 hFc hP1 hD1 [0, 1, 2, 3, 4, 5, 6, 7, 8, 9, 10] (by decide) rfl
      generalize H1 = H at hP hS ⊢
      refine lv_istore (lv' := [(6, .int r_6), (5, .int r_5), (0, .ref (adP 0)), (2, .int v2), (3, .int v3), (4, .int v4)]) hx hb dX1_variant_35 hl (by decide) rfl (fun ls hl => ?_)
      refine lv_iload hx hb dX1_variant_37 (lv_at hl 0 rfl) ?_
      refine lv_if_le (tgt := 61) hx hb dX1_variant_39 (by decide) (fun c_7 => ?_) (fun c_7 => ?_)
      · have h := h.1 c_7
        refine lv_iinc (v := v4 + (-1)) (lv' := [(4, .int (v4 + (-1))), (6, .int r_6), (5, .int r_5), (0, .ref (adP 0)), (2, .int v2), (3, .int v3)]) hx hb dX1_variant_61 hl (k := 5) rfl rfl (by decide) rfl (fun ls hl => ?_)
        refine lv_goto (tgt := 17) hx hb dX1_variant_64 (by decide) ?_
        rw [hA17] at h
        exact h _ _ hP hD hS ls (lv_sub hl [3, 4, 5, 0] rfl)
      · have h := h.2 c_7
        refine lv_iload_n hx hb dX1_variant_42 rfl (lv_at hl 3 rfl) ?_
        refine lv_iconst (v := 1) hx hb dX1_variant_43 (by decide) ?_
        refine lv_iload hx hb dX1_variant_44 (lv_at hl 1 rfl) ?_
        refine lv_iload_n hx hb dX1_variant_46 rfl (lv_at hl 4 rfl) ?_
        refine lv_iload hx hb dX1_variant_47 (lv_at hl 0 rfl) ?_
        have hne := h.1
        have h := h.2
        refine lv_irem hx hb dX1_variant_49 hne ?_
        have hFc := va_free (wc := ([] : va_W)) hD hS hA [] rfl
        refine va_calli (va_runSN (As := [.int r_5, .int (v3 - v3 / r_6 * r_6)]) (rest := [.int 1, .int v2]) ⟨hx, hb, hml, hown, hts⟩ (met_X5_memberOf l D cs ev _ r_5 (v3 - v3 / r_6 * r_6) _ h) ⟨va_cnB 2 hts gX1_variant_X5_memberOf_n145 rfl rfl rfl hE.1.2.2.1 (hts (.initialized RX5) (by decide +kernel)) (by decide +kernel) ⟨Nat.le_of_ble_eq_true rfl, Nat.le_of_ble_eq_true rfl⟩, hts (.static yX5_memberOf) (by decide +kernel), trivial⟩ (mPreS hP hD hS hK hE hFc [] (by decide) rfl) rfl rfl hl.1 rfl (lv_room (Nat.le_of_ble_eq_true rfl)) dX1_variant_50 ⟨Nat.le_of_ble_eq_true rfl, Nat.le_of_ble_eq_true rfl⟩) hS (fun q _ h => hFc q h) hFc (fun r_8 u t H1 locs ht hvm hw hB hz1 hk1 hS => ?_)
        have h := hw
        obtain ⟨hP1, hK1, hD1⟩ := hB
        rw [ht] at hP1
        obtain ⟨hP, hD⟩ := mJoin (wr := (sh_P cs adP kdP grP cvP brP hzP fmP dmP e1P e2P fkP pnP fnP)) (w1 := ([] : va_W)) (w' := (sh_P cs adP kdP grP cvP brP hzP fmP dmP e1P e2P fkP pnP fnP)) hP hD [] [0, 1, 2, 3, 4, 5, 6, 7, 8, 9, 10] rfl rfl (by decide) (by decide) hk1 hFc hP1 hD1 [0, 1, 2, 3, 4, 5, 6, 7, 8, 9, 10] (by decide) rfl
        generalize H1 = H at hP hS ⊢
        refine lv_ishl hx hb dX1_variant_53 ?_
        refine lv_ior hx hb dX1_variant_54 ?_
        refine lv_istore_n (lv' := [(2, .int (v2 ||| (1 <<< (r_8 &&& 31)))), (6, .int r_6), (5, .int r_5), (0, .ref (adP 0)), (3, .int v3), (4, .int v4)]) hx hb dX1_variant_55 rfl hl (by decide) rfl (fun ls hl => ?_)
        refine lv_iload_n hx hb dX1_variant_56 rfl (lv_at hl 4 rfl) ?_
        refine lv_iload hx hb dX1_variant_57 (lv_at hl 1 rfl) ?_
        have hne := h.1
        have h := h.2
        refine lv_idiv hx hb dX1_variant_59 hne ?_
        refine lv_istore_n (lv' := [(3, .int (v3 / r_6)), (2, .int (v2 ||| (1 <<< (r_8 &&& 31)))), (6, .int r_6), (5, .int r_5), (0, .ref (adP 0)), (4, .int v4)]) hx hb dX1_variant_60 rfl hl (by decide) rfl (fun ls hl => ?_)
        refine lv_iinc (v := v4 + (-1)) (lv' := [(4, .int (v4 + (-1))), (3, .int (v3 / r_6)), (2, .int (v2 ||| (1 <<< (r_8 &&& 31)))), (6, .int r_6), (5, .int r_5), (0, .ref (adP 0))]) hx hb dX1_variant_61 hl (k := 5) rfl rfl (by decide) rfl (fun ls hl => ?_)
        refine lv_goto (tgt := 17) hx hb dX1_variant_64 (by decide) ?_
        rw [hA17] at h
        exact h _ _ hP hD hS ls (lv_sub hl [5, 2, 1, 0] rfl)
  have h := h A17 s17
  refine lv_iload_n hx hb dX1_variant_0 rfl (lv_at hl 1 rfl) ?_
  refine lv_if_ge (tgt := 6) hx hb dX1_variant_1 (by decide) (fun c_1 => ?_) (fun c_1 => ?_)
  · have h := h.1 c_1
    refine lv_aload_n hx hb dX1_variant_6 rfl (lv_at hl 0 rfl) ?_
    refine lv_iconst (v := (-1)) hx hb dX1_variant_7 (by decide) ?_
    have hFc := va_free (wc := (sh_P cs adP kdP grP cvP brP hzP fmP dmP e1P e2P fkP pnP fnP)) hD hS hA [0, 1, 2, 3, 4, 5, 6, 7, 8, 9, 10] rfl
    refine va_calli (va_runV (As := [.int (-1)]) (rest := []) ⟨hx, hb, hml, hown, hts⟩ (met_X1_membersOf l D cs ev _ adP kdP grP cvP brP hzP fmP dmP e1P e2P fkP pnP fnP (-1) _ h) (cwV 1 hts gX1_variant_X1_membersOf rfl rfl rfl (by decide +kernel) ⟨Nat.le_of_ble_eq_true rfl, Nat.le_of_ble_eq_true rfl⟩) (mPreV (va_recv hK hP (ci := 1) (q0 := 0) rfl rfl) hP hD hS hK hE hFc [0, 1, 2, 3, 4, 5, 6, 7, 8, 9, 10] (by decide) rfl) rfl rfl hl.1 rfl (lv_room (Nat.le_of_ble_eq_true rfl)) dX1_variant_8 ⟨Nat.le_of_ble_eq_true rfl, Nat.le_of_ble_eq_true rfl⟩) hS (fun q _ h => hFc q h) hFc (fun r_2 u t H1 locs ht hvm hw hB hz1 hk1 hS => ?_)
    have h := hw
    obtain ⟨hP1, hK1, hD1⟩ := hB
    rw [ht] at hP1
    obtain ⟨hP, hD⟩ := mJoin (wr := ([] : va_W)) (w1 := (sh_P cs adP kdP grP cvP brP hzP fmP dmP e1P e2P fkP pnP fnP)) (w' := (sh_P cs adP kdP grP cvP brP hzP fmP dmP e1P e2P fkP pnP fnP)) hP hD [0, 1, 2, 3, 4, 5, 6, 7, 8, 9, 10] [] rfl rfl (by decide) (by decide) hk1 hFc hP1 hD1 [0, 1, 2, 3, 4, 5, 6, 7, 8, 9, 10] (by decide) rfl
    generalize H1 = H at hP hS ⊢
    refine lv_istore_n (lv' := [(2, .int r_2), (0, .ref (adP 0)), (1, .int p1)]) hx hb dX1_variant_11 rfl hl (by decide) rfl (fun ls hl => ?_)
    refine lv_iload_n hx hb dX1_variant_12 rfl (lv_at hl 2 rfl) ?_
    refine lv_istore_n (lv' := [(3, .int p1), (2, .int r_2), (0, .ref (adP 0)), (1, .int p1)]) hx hb dX1_variant_13 rfl hl (by decide) rfl (fun ls hl => ?_)
    refine lv_iconst (v := 3) hx hb dX1_variant_14 (by decide) ?_
    refine lv_istore (lv' := [(4, .int 3), (3, .int p1), (2, .int r_2), (0, .ref (adP 0)), (1, .int p1)]) hx hb dX1_variant_15 hl (by decide) rfl (fun ls hl => ?_)
    rw [hA17] at h
    exact h _ _ hP hD hS ls (lv_sub hl [3, 2, 1, 0] rfl)
  · have h := h.2 c_1
    refine lv_iconst (v := 0) hx hb dX1_variant_4 (by decide) ?_
    exact W.iret (v := 0) hx hb hr (fun t ht hW => ⟨⟨0, (), rfl, h, by rw [ht]; exact hP, va_K.moved hW.alike hK, hD⟩, hS.F ht⟩) hS.2.2 dX1_variant_5
def wp_X1_piece (e1P : Nat → Int32) (e2P : Nat → Int32) (pnP : Int32) (fnP : Int32) (p1 : Int32) (p2 : Int32) (post : Int32 → Unit → Prop) : Prop :=
    ∀ (A25 : Int32 → Int32 → Prop) (A38 : Int32 → Int32 → Int32 → Int32 → Prop),
    (∀ (v3 : Int32) (v4 : Int32), ((10 ≤ v4 → post v3 ()) ∧ (¬ 10 ≤ v4 → A38 v3 v4 v3 0)) → A25 v3 v4) →
    (∀ (v3 : Int32) (v4 : Int32) (v5 : Int32) (v6 : Int32), ((fnP ≤ v6 → ((v3 = v5 → post v3 ()) ∧ (¬ v3 = v5 → A25 v3 (v4 + 1)))) ∧ (¬ fnP ≤ v6 → (vp_in v6 20 ∧ (vp_in v6 20 ∧ (∀ y_8 : Int32, y_8 = (1 <<< ((e1P v6.toNatClampNeg) &&& 31)) ||| (1 <<< ((e2P v6.toNatClampNeg) &&& 31)) → (((y_8 &&& p2) = 0 → (((y_8 &&& v3) = 0 → A38 v3 v4 v5 (v6 + 1)) ∧ (¬ (y_8 &&& v3) = 0 → A38 (v3 ||| y_8) v4 v5 (v6 + 1)))) ∧ (¬ (y_8 &&& p2) = 0 → A38 v3 v4 v5 (v6 + 1)))))))) → A38 v3 v4 v5 v6) →
    wp_X1_hasPart pnP p1 (fun r_1 _ => ((r_1 = 0 → post 0 ()) ∧ (¬ r_1 = 0 → wp_X5_contains p2 p1 (fun r_3 _ => ((r_3 = 0 → A25 (1 <<< (p1 &&& 31)) 0) ∧ (¬ r_3 = 0 → post 0 ()))))))
set_option maxHeartbeats 4000000 in
set_option maxRecDepth 100000 in
theorem met_X1_piece (l : Launch) (D : va_G) (cs : Nat → ClassId) (ev : Nat → Nat → Nat) (sz0 : Nat) (adP : Nat → Nat) (kdP : Nat → Int32) (grP : Nat → Int64) (cvP : Nat → Int32) (brP : Nat → Int32) (hzP : Nat → Int32) (fmP : Nat → Int32) (dmP : Nat → Int32) (e1P : Nat → Int32) (e2P : Nat → Int32) (fkP : Nat → Int32) (pnP : Int32) (fnP : Int32) (p1 : Int32) (p2 : Int32) (post : Int32 → Unit → Prop) (h : wp_X1_piece e1P e2P pnP fnP p1 p2 post) : Met l yX1_piece wsX1_piece ({ frames := 1, cells := 0, slots := 0, locals := 21 }) (va_Pc [.ref (adP 0), .int p1, .int p2] (mPre D cs ev (sh_P cs adP kdP grP cvP brP hzP fmP dmP e1P e2P fkP pnP fnP) sz0)) (va_Qi post (fun _ t => mAt D cs (va_A (sh_P cs adP kdP grP cvP brP hzP fmP dmP e1P e2P fkP pnP fnP) sz0) (sh_P cs adP kdP grP cvP brP hzP fmP dmP e1P e2P fkP pnP fnP) t) (va_A (sh_P cs adP kdP grP cvP brP hzP fmP dmP e1P e2P fkP pnP fnP) sz0)) 0 0 (va_A (sh_P cs adP kdP grP cvP brP hzP fmP dmP e1P e2P fkP pnP fnP) sz0) := by
  refine Met.ofW (cc := cX1_piece) (maxL := 8) (ret := (some .int)) (by decide) rfl ?_
  intro p e s m args below meth c s₁ B hml hv
  obtain ⟨rfl, hsz, hP, hK, hD0, hE⟩ := hv
  have hx := B.exec
  have hb := B.bytes
  have hr := B.returns
  have hts := atoms_spec (ws := wsX1_piece) B.pre
  have hown : s.vm.findClass RX1 = some m.cls := findClass_of_methodNamed B.named
  have hlocks := B.notSynchronized
  subst hsz
  have hD := hD0.self (sz := s.heap.size)
  generalize hAe : va_A (sh_P cs adP kdP grP cvP brP hzP fmP dmP e1P e2P fkP pnP fnP) s.heap.size = A at hD hE ⊢
  have hA : ∀ q : Nat, s.heap.size ≤ q → A q := fun q h => by rw [← hAe]; exact Or.inr h
  have hS : va_S A s.heap s.heap [] := va_S.rf
  have hl := lv_entry ([.ref (adP 0), .int p1, .int p2]) (n := 8) (Nat.le_of_ble_eq_true rfl)
  rw [lg_entry_eq]
  generalize (lg_sl ([.ref (adP 0), .int p1, .int p2]) ++ List.replicate (8 - (lg_sl ([.ref (adP 0), .int p1, .int p2])).length) Slot.unset).toArray = ls at hl ⊢
  have hl : lv_has ls 8 [(0, .ref (adP 0)), (1, .int p1), (2, .int p2)] := hl
  obtain ⟨A25, hA25⟩ : ∃ Q : Int32 → Int32 → Prop, Q = (fun v3 v4 => ∀ (H : Heap) (locs : List Loc), va_P D vwCl (sh_P cs adP kdP grP cvP brP hzP fmP dmP e1P e2P fkP pnP fnP) H → va_D A (sh_P cs adP kdP grP cvP brP hzP fmP dmP e1P e2P fkP pnP fnP) → va_S A s.heap H locs → ∀ ls : Array Slot, lv_has ls 8 [(0, .ref (adP 0)), (2, .int p2), (3, .int v3), (4, .int v4)] → W p l e (headSpec wsX1_piece ({ frames := 1, cells := 0, slots := 0, locals := 21 })).room s m ([.ref (adP 0), .int p1, .int p2] : List Value).toArray below meth c H locs 0 0 (MQ below (va_Qi post (fun _ t => mAt D cs (A) (sh_P cs adP kdP grP cvP brP hzP fmP dmP e1P e2P fkP pnP fnP) t) A) ([.ref (adP 0), .int p1, .int p2] : List Value).toArray s 0 0 A) (F0 m 25 ls [])) := ⟨_, rfl⟩
  obtain ⟨A38, hA38⟩ : ∃ Q : Int32 → Int32 → Int32 → Int32 → Prop, Q = (fun v3 v4 v5 v6 => ∀ (H : Heap) (locs : List Loc), va_P D vwCl (sh_P cs adP kdP grP cvP brP hzP fmP dmP e1P e2P fkP pnP fnP) H → va_D A (sh_P cs adP kdP grP cvP brP hzP fmP dmP e1P e2P fkP pnP fnP) → va_S A s.heap H locs → ∀ ls : Array Slot, lv_has ls 8 [(0, .ref (adP 0)), (2, .int p2), (3, .int v3), (4, .int v4), (5, .int v5), (6, .int v6)] → W p l e (headSpec wsX1_piece ({ frames := 1, cells := 0, slots := 0, locals := 21 })).room s m ([.ref (adP 0), .int p1, .int p2] : List Value).toArray below meth c H locs 0 0 (MQ below (va_Qi post (fun _ t => mAt D cs (A) (sh_P cs adP kdP grP cvP brP hzP fmP dmP e1P e2P fkP pnP fnP) t) A) ([.ref (adP 0), .int p1, .int p2] : List Value).toArray s 0 0 A) (F0 m 38 ls [])) := ⟨_, rfl⟩
  have s25 : ∀ (v3 : Int32) (v4 : Int32), ((10 ≤ v4 → post v3 ()) ∧ (¬ 10 ≤ v4 → A38 v3 v4 v3 0)) → A25 v3 v4 := by
    intro v3 v4 h
    rw [hA25]
    intro H locs hP hD hS ls hl
    refine lv_iload hx hb dX1_piece_25 (lv_at hl 3 rfl) ?_
    refine lv_bipush (v := 10) hx hb dX1_piece_27 (by decide) ?_
    refine lv_icmp_ge (tgt := 108) hx hb dX1_piece_29 (by decide) (fun c_5 => ?_) (fun c_5 => ?_)
    · have h := h.1 c_5
      refine lv_iload_n hx hb dX1_piece_108 rfl (lv_at hl 2 rfl) ?_
      exact W.iret (v := v3) hx hb hr (fun t ht hW => ⟨⟨v3, (), rfl, h, by rw [ht]; exact hP, va_K.moved hW.alike hK, hD⟩, hS.F ht⟩) hS.2.2 dX1_piece_109
    · have h := h.2 c_5
      refine lv_iload_n hx hb dX1_piece_32 rfl (lv_at hl 2 rfl) ?_
      refine lv_istore (lv' := [(5, .int v3), (0, .ref (adP 0)), (2, .int p2), (3, .int v3), (4, .int v4)]) hx hb dX1_piece_33 hl (by decide) rfl (fun ls hl => ?_)
      refine lv_iconst (v := 0) hx hb dX1_piece_35 (by decide) ?_
      refine lv_istore (lv' := [(6, .int 0), (5, .int v3), (0, .ref (adP 0)), (2, .int p2), (3, .int v3), (4, .int v4)]) hx hb dX1_piece_36 hl (by decide) rfl (fun ls hl => ?_)
      rw [hA38] at h
      exact h _ _ hP hD hS ls (lv_sub hl [2, 3, 4, 5, 1, 0] rfl)
  have s38 : ∀ (v3 : Int32) (v4 : Int32) (v5 : Int32) (v6 : Int32), ((fnP ≤ v6 → ((v3 = v5 → post v3 ()) ∧ (¬ v3 = v5 → A25 v3 (v4 + 1)))) ∧ (¬ fnP ≤ v6 → (vp_in v6 20 ∧ (vp_in v6 20 ∧ (∀ y_8 : Int32, y_8 = (1 <<< ((e1P v6.toNatClampNeg) &&& 31)) ||| (1 <<< ((e2P v6.toNatClampNeg) &&& 31)) → (((y_8 &&& p2) = 0 → (((y_8 &&& v3) = 0 → A38 v3 v4 v5 (v6 + 1)) ∧ (¬ (y_8 &&& v3) = 0 → A38 (v3 ||| y_8) v4 v5 (v6 + 1)))) ∧ (¬ (y_8 &&& p2) = 0 → A38 v3 v4 v5 (v6 + 1)))))))) → A38 v3 v4 v5 v6 := by
    intro v3 v4 v5 v6 h
    rw [hA38]
    intro H locs hP hD hS ls hl
    refine lv_iload hx hb dX1_piece_38 (lv_at hl 5 rfl) ?_
    refine lv_aload_n hx hb dX1_piece_40 rfl (lv_at hl 0 rfl) ?_
    refine va_get (D := D) (ci := 1) (v := .int fnP) (C := RX1) (T := TX1) (N := 12) hx hb hts (by decide +kernel) hown hK hP 0 rfl rfl 11 (by decide) (hts (.fieldLink RX1 47 "PartGraphs$Product" "fasteningCount" "I") (by decide +kernel)) (fun _ h9 => h9) rfl dX1_piece_41 ?_
    refine lv_icmp_ge (tgt := 93) hx hb dX1_piece_44 (by decide) (fun c_6 => ?_) (fun c_6 => ?_)
    · have h := h.1 c_6
      refine lv_iload_n hx hb dX1_piece_93 rfl (lv_at hl 2 rfl) ?_
      refine lv_iload hx hb dX1_piece_94 (lv_at hl 4 rfl) ?_
      refine lv_icmp_ne (tgt := 102) hx hb dX1_piece_96 (by decide) (fun c_7 => ?_) (fun c_7 => ?_)
      · have h := h.2 c_7
        refine lv_iinc (v := v4 + 1) (lv' := [(4, .int (v4 + 1)), (0, .ref (adP 0)), (2, .int p2), (3, .int v3), (5, .int v5), (6, .int v6)]) hx hb dX1_piece_102 hl (k := 3) rfl rfl (by decide) rfl (fun ls hl => ?_)
        refine lv_goto (tgt := 25) hx hb dX1_piece_105 (by decide) ?_
        rw [hA25] at h
        exact h _ _ hP hD hS ls (lv_sub hl [1, 2, 3, 0] rfl)
      · have h := h.1 c_7
        refine lv_goto (tgt := 108) hx hb dX1_piece_99 (by decide) ?_
        refine lv_iload_n hx hb dX1_piece_108 rfl (lv_at hl 2 rfl) ?_
        exact W.iret (v := v3) hx hb hr (fun t ht hW => ⟨⟨v3, (), rfl, h, by rw [ht]; exact hP, va_K.moved hW.alike hK, hD⟩, hS.F ht⟩) hS.2.2 dX1_piece_109
    · have h := h.2 c_6
      refine lv_iconst (v := 1) hx hb dX1_piece_47 (by decide) ?_
      refine lv_aload_n hx hb dX1_piece_48 rfl (lv_at hl 0 rfl) ?_
      refine va_get (D := D) (ci := 1) (v := .ref (adP 8)) (C := RX1) (T := TX1) (N := 12) hx hb hts (by decide +kernel) hown hK hP 0 rfl rfl 7 (by decide) (hts (.fieldLink RX1 34 "PartGraphs$Product" "firstEnds" "[I") (by decide +kernel)) (fun _ h9 => h9) rfl dX1_piece_49 ?_
      refine lv_iload hx hb dX1_piece_52 (lv_at hl 5 rfl) ?_
      have hin := h.1
      have h := h.2
      refine va_iald (D := D) (cl := vwCl) hx hb hK hP 8 0 rfl rfl hin dX1_piece_54 ?_
      refine lv_ishl hx hb dX1_piece_55 ?_
      refine lv_iconst (v := 1) hx hb dX1_piece_56 (by decide) ?_
      refine lv_aload_n hx hb dX1_piece_57 rfl (lv_at hl 0 rfl) ?_
      refine va_get (D := D) (ci := 1) (v := .ref (adP 9)) (C := RX1) (T := TX1) (N := 12) hx hb hts (by decide +kernel) hown hK hP 0 rfl rfl 8 (by decide) (hts (.fieldLink RX1 37 "PartGraphs$Product" "secondEnds" "[I") (by decide +kernel)) (fun _ h9 => h9) rfl dX1_piece_58 ?_
      refine lv_iload hx hb dX1_piece_61 (lv_at hl 5 rfl) ?_
      have hin := h.1
      have h := h.2
      refine va_iald (D := D) (cl := vwCl) hx hb hK hP 9 0 rfl rfl hin dX1_piece_63 ?_
      refine lv_ishl hx hb dX1_piece_64 ?_
      refine lv_ior hx hb dX1_piece_65 ?_
      refine lv_topi (fun y_8 ey_8 => ?_)
      have h := h y_8 ey_8
      refine lv_istore (lv' := [(7, .int y_8), (0, .ref (adP 0)), (2, .int p2), (3, .int v3), (4, .int v4), (5, .int v5), (6, .int v6)]) hx hb dX1_piece_66 hl (by decide) rfl (fun ls hl => ?_)
      refine lv_iload hx hb dX1_piece_68 (lv_at hl 0 rfl) ?_
      refine lv_iload_n hx hb dX1_piece_70 rfl (lv_at hl 2 rfl) ?_
      refine lv_iand hx hb dX1_piece_71 ?_
      refine lv_if_ne (tgt := 87) hx hb dX1_piece_72 (by decide) (fun c_9 => ?_) (fun c_9 => ?_)
      · have h := h.2 c_9
        refine lv_iinc (v := v6 + 1) (lv' := [(6, .int (v6 + 1)), (7, .int y_8), (0, .ref (adP 0)), (2, .int p2), (3, .int v3), (4, .int v4), (5, .int v5)]) hx hb dX1_piece_87 hl (k := 6) rfl rfl (by decide) rfl (fun ls hl => ?_)
        refine lv_goto (tgt := 38) hx hb dX1_piece_90 (by decide) ?_
        rw [hA38] at h
        exact h _ _ hP hD hS ls (lv_sub hl [2, 3, 4, 5, 6, 0] rfl)
      · have h := h.1 c_9
        refine lv_iload hx hb dX1_piece_75 (lv_at hl 0 rfl) ?_
        refine lv_iload_n hx hb dX1_piece_77 rfl (lv_at hl 3 rfl) ?_
        refine lv_iand hx hb dX1_piece_78 ?_
        refine lv_if_eq (tgt := 87) hx hb dX1_piece_79 (by decide) (fun c_10 => ?_) (fun c_10 => ?_)
        · have h := h.1 c_10
          refine lv_iinc (v := v6 + 1) (lv' := [(6, .int (v6 + 1)), (7, .int y_8), (0, .ref (adP 0)), (2, .int p2), (3, .int v3), (4, .int v4), (5, .int v5)]) hx hb dX1_piece_87 hl (k := 6) rfl rfl (by decide) rfl (fun ls hl => ?_)
          refine lv_goto (tgt := 38) hx hb dX1_piece_90 (by decide) ?_
          rw [hA38] at h
          exact h _ _ hP hD hS ls (lv_sub hl [2, 3, 4, 5, 6, 0] rfl)
        · have h := h.2 c_10
          refine lv_iload_n hx hb dX1_piece_82 rfl (lv_at hl 3 rfl) ?_
          refine lv_iload hx hb dX1_piece_83 (lv_at hl 0 rfl) ?_
          refine lv_ior hx hb dX1_piece_85 ?_
          refine lv_istore_n (lv' := [(3, .int (v3 ||| y_8)), (7, .int y_8), (0, .ref (adP 0)), (2, .int p2), (4, .int v4), (5, .int v5), (6, .int v6)]) hx hb dX1_piece_86 rfl hl (by decide) rfl (fun ls hl => ?_)
          refine lv_iinc (v := v6 + 1) (lv' := [(6, .int (v6 + 1)), (3, .int (v3 ||| y_8)), (7, .int y_8), (0, .ref (adP 0)), (2, .int p2), (4, .int v4), (5, .int v5)]) hx hb dX1_piece_87 hl (k := 6) rfl rfl (by decide) rfl (fun ls hl => ?_)
          refine lv_goto (tgt := 38) hx hb dX1_piece_90 (by decide) ?_
          rw [hA38] at h
          exact h _ _ hP hD hS ls (lv_sub hl [3, 4, 1, 5, 6, 0] rfl)
  have h := h A25 A38 s25 s38
  refine lv_aload_n hx hb dX1_piece_0 rfl (lv_at hl 0 rfl) ?_
  refine lv_iload_n hx hb dX1_piece_1 rfl (lv_at hl 1 rfl) ?_
  have hFc := va_free (wc := (sh_P cs adP kdP grP cvP brP hzP fmP dmP e1P e2P fkP pnP fnP)) hD hS hA [0, 1, 2, 3, 4, 5, 6, 7, 8, 9, 10] rfl
  refine va_calli (va_runV (As := [.int p1]) (rest := []) ⟨hx, hb, hml, hown, hts⟩ (met_X1_hasPart l D cs ev _ adP kdP grP cvP brP hzP fmP dmP e1P e2P fkP pnP fnP p1 _ h) (cwV 1 hts gX1_piece_X1_hasPart rfl rfl rfl (by decide +kernel) ⟨Nat.le_of_ble_eq_true rfl, Nat.le_of_ble_eq_true rfl⟩) (mPreV (va_recv hK hP (ci := 1) (q0 := 0) rfl rfl) hP hD hS hK hE hFc [0, 1, 2, 3, 4, 5, 6, 7, 8, 9, 10] (by decide) rfl) rfl rfl hl.1 rfl (lv_room (Nat.le_of_ble_eq_true rfl)) dX1_piece_2 ⟨Nat.le_of_ble_eq_true rfl, Nat.le_of_ble_eq_true rfl⟩) hS (fun q _ h => hFc q h) hFc (fun r_1 u t H1 locs ht hvm hw hB hz1 hk1 hS => ?_)
  have h := hw
  obtain ⟨hP1, hK1, hD1⟩ := hB
  rw [ht] at hP1
  obtain ⟨hP, hD⟩ := mJoin (wr := ([] : va_W)) (w1 := (sh_P cs adP kdP grP cvP brP hzP fmP dmP e1P e2P fkP pnP fnP)) (w' := (sh_P cs adP kdP grP cvP brP hzP fmP dmP e1P e2P fkP pnP fnP)) hP hD [0, 1, 2, 3, 4, 5, 6, 7, 8, 9, 10] [] rfl rfl (by decide) (by decide) hk1 hFc hP1 hD1 [0, 1, 2, 3, 4, 5, 6, 7, 8, 9, 10] (by decide) rfl
  generalize H1 = H at hP hS ⊢
  refine lv_if_eq (tgt := 16) hx hb dX1_piece_5 (by decide) (fun c_2 => ?_) (fun c_2 => ?_)
  · have h := h.1 c_2
    refine lv_iconst (v := 0) hx hb dX1_piece_16 (by decide) ?_
    exact W.iret (v := 0) hx hb hr (fun t ht hW => ⟨⟨0, (), rfl, h, by rw [ht]; exact hP, va_K.moved hW.alike hK, hD⟩, hS.F ht⟩) hS.2.2 dX1_piece_17
  · have h := h.2 c_2
    refine lv_iload_n hx hb dX1_piece_8 rfl (lv_at hl 2 rfl) ?_
    refine lv_iload_n hx hb dX1_piece_9 rfl (lv_at hl 1 rfl) ?_
    have hFc := va_free (wc := ([] : va_W)) hD hS hA [] rfl
    refine va_calli (va_runSN (As := [.int p2, .int p1]) (rest := []) ⟨hx, hb, hml, hown, hts⟩ (met_X5_contains l D cs ev _ p2 p1 _ h) ⟨va_cnB 2 hts gX1_piece_X5_contains_n71 rfl rfl rfl hE.1.2.1 (hts (.initialized RX5) (by decide +kernel)) (by decide +kernel) ⟨Nat.le_of_ble_eq_true rfl, Nat.le_of_ble_eq_true rfl⟩, hts (.static yX5_contains) (by decide +kernel), trivial⟩ (mPreS hP hD hS hK hE hFc [] (by decide) rfl) rfl rfl hl.1 rfl (lv_room (Nat.le_of_ble_eq_true rfl)) dX1_piece_10 ⟨Nat.le_of_ble_eq_true rfl, Nat.le_of_ble_eq_true rfl⟩) hS (fun q _ h => hFc q h) hFc (fun r_3 u t H1 locs ht hvm hw hB hz1 hk1 hS => ?_)
    have h := hw
    obtain ⟨hP1, hK1, hD1⟩ := hB
    rw [ht] at hP1
    obtain ⟨hP, hD⟩ := mJoin (wr := (sh_P cs adP kdP grP cvP brP hzP fmP dmP e1P e2P fkP pnP fnP)) (w1 := ([] : va_W)) (w' := (sh_P cs adP kdP grP cvP brP hzP fmP dmP e1P e2P fkP pnP fnP)) hP hD [] [0, 1, 2, 3, 4, 5, 6, 7, 8, 9, 10] rfl rfl (by decide) (by decide) hk1 hFc hP1 hD1 [0, 1, 2, 3, 4, 5, 6, 7, 8, 9, 10] (by decide) rfl
    generalize H1 = H at hP hS ⊢
    refine lv_if_eq (tgt := 18) hx hb dX1_piece_13 (by decide) (fun c_4 => ?_) (fun c_4 => ?_)
    · have h := h.1 c_4
      refine lv_iconst (v := 1) hx hb dX1_piece_18 (by decide) ?_
      refine lv_iload_n hx hb dX1_piece_19 rfl (lv_at hl 1 rfl) ?_
      refine lv_ishl hx hb dX1_piece_20 ?_
      refine lv_istore_n (lv' := [(3, .int (1 <<< (p1 &&& 31))), (0, .ref (adP 0)), (1, .int p1), (2, .int p2)]) hx hb dX1_piece_21 rfl hl (by decide) rfl (fun ls hl => ?_)
      refine lv_iconst (v := 0) hx hb dX1_piece_22 (by decide) ?_
      refine lv_istore (lv' := [(4, .int 0), (3, .int (1 <<< (p1 &&& 31))), (0, .ref (adP 0)), (1, .int p1), (2, .int p2)]) hx hb dX1_piece_23 hl (by decide) rfl (fun ls hl => ?_)
      rw [hA25] at h
      exact h _ _ hP hD hS ls (lv_sub hl [2, 4, 1, 0] rfl)
    · have h := h.2 c_4
      refine lv_iconst (v := 0) hx hb dX1_piece_16 (by decide) ?_
      exact W.iret (v := 0) hx hb hr (fun t ht hW => ⟨⟨0, (), rfl, h, by rw [ht]; exact hP, va_K.moved hW.alike hK, hD⟩, hS.F ht⟩) hS.2.2 dX1_piece_17
def wp_X1_pieces (e1P : Nat → Int32) (e2P : Nat → Int32) (pnP : Int32) (fnP : Int32) (post : Int32 → Unit → Prop) : Prop :=
    ∀ (A6 : Int32 → Int32 → Int32 → Prop),
    (∀ (v1 : Int32) (v2 : Int32) (v3 : Int32), ((pnP ≤ v3 → post v1 ()) ∧ (¬ pnP ≤ v3 → wp_X5_contains v2 v3 (fun r_2 _ => ((r_2 = 0 → wp_X1_piece e1P e2P pnP fnP v3 0 (fun r_4 _ => A6 (v1 + 1) (v2 ||| r_4) (v3 + 1))) ∧ (¬ r_2 = 0 → A6 v1 v2 (v3 + 1)))))) → A6 v1 v2 v3) →
    A6 0 0 0
set_option maxHeartbeats 4000000 in
set_option maxRecDepth 100000 in
theorem met_X1_pieces (l : Launch) (D : va_G) (cs : Nat → ClassId) (ev : Nat → Nat → Nat) (sz0 : Nat) (adP : Nat → Nat) (kdP : Nat → Int32) (grP : Nat → Int64) (cvP : Nat → Int32) (brP : Nat → Int32) (hzP : Nat → Int32) (fmP : Nat → Int32) (dmP : Nat → Int32) (e1P : Nat → Int32) (e2P : Nat → Int32) (fkP : Nat → Int32) (pnP : Int32) (fnP : Int32) (post : Int32 → Unit → Prop) (h : wp_X1_pieces e1P e2P pnP fnP post) : Met l yX1_pieces wsX1_pieces ({ frames := 2, cells := 0, slots := 0, locals := 48 }) (va_Pc [.ref (adP 0)] (mPre D cs ev (sh_P cs adP kdP grP cvP brP hzP fmP dmP e1P e2P fkP pnP fnP) sz0)) (va_Qi post (fun _ t => mAt D cs (va_A (sh_P cs adP kdP grP cvP brP hzP fmP dmP e1P e2P fkP pnP fnP) sz0) (sh_P cs adP kdP grP cvP brP hzP fmP dmP e1P e2P fkP pnP fnP) t) (va_A (sh_P cs adP kdP grP cvP brP hzP fmP dmP e1P e2P fkP pnP fnP) sz0)) 0 0 (va_A (sh_P cs adP kdP grP cvP brP hzP fmP dmP e1P e2P fkP pnP fnP) sz0) := by
  refine Met.ofW (cc := cX1_pieces) (maxL := 4) (ret := (some .int)) (by decide) rfl ?_
  intro p e s m args below meth c s₁ B hml hv
  obtain ⟨rfl, hsz, hP, hK, hD0, hE⟩ := hv
  have hx := B.exec
  have hb := B.bytes
  have hr := B.returns
  have hts := atoms_spec (ws := wsX1_pieces) B.pre
  have hown : s.vm.findClass RX1 = some m.cls := findClass_of_methodNamed B.named
  have hlocks := B.notSynchronized
  subst hsz
  have hD := hD0.self (sz := s.heap.size)
  generalize hAe : va_A (sh_P cs adP kdP grP cvP brP hzP fmP dmP e1P e2P fkP pnP fnP) s.heap.size = A at hD hE ⊢
  have hA : ∀ q : Nat, s.heap.size ≤ q → A q := fun q h => by rw [← hAe]; exact Or.inr h
  have hS : va_S A s.heap s.heap [] := va_S.rf
  have hl := lv_entry ([.ref (adP 0)]) (n := 4) (Nat.le_of_ble_eq_true rfl)
  rw [lg_entry_eq]
  generalize (lg_sl ([.ref (adP 0)]) ++ List.replicate (4 - (lg_sl ([.ref (adP 0)])).length) Slot.unset).toArray = ls at hl ⊢
  have hl : lv_has ls 4 [(0, .ref (adP 0))] := hl
  obtain ⟨A6, hA6⟩ : ∃ Q : Int32 → Int32 → Int32 → Prop, Q = (fun v1 v2 v3 => ∀ (H : Heap) (locs : List Loc), va_P D vwCl (sh_P cs adP kdP grP cvP brP hzP fmP dmP e1P e2P fkP pnP fnP) H → va_D A (sh_P cs adP kdP grP cvP brP hzP fmP dmP e1P e2P fkP pnP fnP) → va_S A s.heap H locs → ∀ ls : Array Slot, lv_has ls 4 [(0, .ref (adP 0)), (1, .int v1), (2, .int v2), (3, .int v3)] → W p l e (headSpec wsX1_pieces ({ frames := 2, cells := 0, slots := 0, locals := 48 })).room s m ([.ref (adP 0)] : List Value).toArray below meth c H locs 0 0 (MQ below (va_Qi post (fun _ t => mAt D cs (A) (sh_P cs adP kdP grP cvP brP hzP fmP dmP e1P e2P fkP pnP fnP) t) A) ([.ref (adP 0)] : List Value).toArray s 0 0 A) (F0 m 6 ls [])) := ⟨_, rfl⟩
  have s6 : ∀ (v1 : Int32) (v2 : Int32) (v3 : Int32), ((pnP ≤ v3 → post v1 ()) ∧ (¬ pnP ≤ v3 → wp_X5_contains v2 v3 (fun r_2 _ => ((r_2 = 0 → wp_X1_piece e1P e2P pnP fnP v3 0 (fun r_4 _ => A6 (v1 + 1) (v2 ||| r_4) (v3 + 1))) ∧ (¬ r_2 = 0 → A6 v1 v2 (v3 + 1)))))) → A6 v1 v2 v3 := by
    intro v1 v2 v3 h
    rw [hA6]
    intro H locs hP hD hS ls hl
    refine lv_iload_n hx hb dX1_pieces_6 rfl (lv_at hl 3 rfl) ?_
    refine lv_aload_n hx hb dX1_pieces_7 rfl (lv_at hl 0 rfl) ?_
    refine va_get (D := D) (ci := 1) (v := .int pnP) (C := RX1) (T := TX1) (N := 12) hx hb hts (by decide +kernel) hown hK hP 0 rfl rfl 10 (by decide) (hts (.fieldLink RX1 43 "PartGraphs$Product" "partCount" "I") (by decide +kernel)) (fun _ h9 => h9) rfl dX1_pieces_8 ?_
    refine lv_icmp_ge (tgt := 40) hx hb dX1_pieces_11 (by decide) (fun c_1 => ?_) (fun c_1 => ?_)
    · have h := h.1 c_1
      refine lv_iload_n hx hb dX1_pieces_40 rfl (lv_at hl 1 rfl) ?_
      exact W.iret (v := v1) hx hb hr (fun t ht hW => ⟨⟨v1, (), rfl, h, by rw [ht]; exact hP, va_K.moved hW.alike hK, hD⟩, hS.F ht⟩) hS.2.2 dX1_pieces_41
    · have h := h.2 c_1
      refine lv_iload_n hx hb dX1_pieces_14 rfl (lv_at hl 2 rfl) ?_
      refine lv_iload_n hx hb dX1_pieces_15 rfl (lv_at hl 3 rfl) ?_
      have hFc := va_free (wc := ([] : va_W)) hD hS hA [] rfl
      refine va_calli (va_runSN (As := [.int v2, .int v3]) (rest := []) ⟨hx, hb, hml, hown, hts⟩ (met_X5_contains l D cs ev _ v2 v3 _ h) ⟨va_cnB 2 hts gX1_pieces_X5_contains_n71 rfl rfl rfl hE.1.2.1 (hts (.initialized RX5) (by decide +kernel)) (by decide +kernel) ⟨Nat.le_of_ble_eq_true rfl, Nat.le_of_ble_eq_true rfl⟩, hts (.static yX5_contains) (by decide +kernel), trivial⟩ (mPreS hP hD hS hK hE hFc [] (by decide) rfl) rfl rfl hl.1 rfl (lv_room (Nat.le_of_ble_eq_true rfl)) dX1_pieces_16 ⟨Nat.le_of_ble_eq_true rfl, Nat.le_of_ble_eq_true rfl⟩) hS (fun q _ h => hFc q h) hFc (fun r_2 u t H1 locs ht hvm hw hB hz1 hk1 hS => ?_)
      have h := hw
      obtain ⟨hP1, hK1, hD1⟩ := hB
      rw [ht] at hP1
      obtain ⟨hP, hD⟩ := mJoin (wr := (sh_P cs adP kdP grP cvP brP hzP fmP dmP e1P e2P fkP pnP fnP)) (w1 := ([] : va_W)) (w' := (sh_P cs adP kdP grP cvP brP hzP fmP dmP e1P e2P fkP pnP fnP)) hP hD [] [0, 1, 2, 3, 4, 5, 6, 7, 8, 9, 10] rfl rfl (by decide) (by decide) hk1 hFc hP1 hD1 [0, 1, 2, 3, 4, 5, 6, 7, 8, 9, 10] (by decide) rfl
      generalize H1 = H at hP hS ⊢
      refine lv_if_ne (tgt := 34) hx hb dX1_pieces_19 (by decide) (fun c_3 => ?_) (fun c_3 => ?_)
      · have h := h.2 c_3
        refine lv_iinc (v := v3 + 1) (lv' := [(3, .int (v3 + 1)), (0, .ref (adP 0)), (1, .int v1), (2, .int v2)]) hx hb dX1_pieces_34 hl (k := 3) rfl rfl (by decide) rfl (fun ls hl => ?_)
        refine lv_goto (tgt := 6) hx hb dX1_pieces_37 (by decide) ?_
        rw [hA6] at h
        exact h _ _ hP hD hS ls (lv_sub hl [1, 2, 3, 0] rfl)
      · have h := h.1 c_3
        refine lv_iload_n hx hb dX1_pieces_22 rfl (lv_at hl 2 rfl) ?_
        refine lv_aload_n hx hb dX1_pieces_23 rfl (lv_at hl 0 rfl) ?_
        refine lv_iload_n hx hb dX1_pieces_24 rfl (lv_at hl 3 rfl) ?_
        refine lv_iconst (v := 0) hx hb dX1_pieces_25 (by decide) ?_
        have hFc := va_free (wc := (sh_P cs adP kdP grP cvP brP hzP fmP dmP e1P e2P fkP pnP fnP)) hD hS hA [0, 1, 2, 3, 4, 5, 6, 7, 8, 9, 10] rfl
        refine va_calli (va_runV (As := [.int v3, .int 0]) (rest := [.int v2]) ⟨hx, hb, hml, hown, hts⟩ (met_X1_piece l D cs ev _ adP kdP grP cvP brP hzP fmP dmP e1P e2P fkP pnP fnP v3 0 _ h) (cwV 2 hts gX1_pieces_X1_piece rfl rfl rfl (by decide +kernel) ⟨Nat.le_of_ble_eq_true rfl, Nat.le_of_ble_eq_true rfl⟩) (mPreV (va_recv hK hP (ci := 1) (q0 := 0) rfl rfl) hP hD hS hK hE hFc [0, 1, 2, 3, 4, 5, 6, 7, 8, 9, 10] (by decide) rfl) rfl rfl hl.1 rfl (lv_room (Nat.le_of_ble_eq_true rfl)) dX1_pieces_26 ⟨Nat.le_of_ble_eq_true rfl, Nat.le_of_ble_eq_true rfl⟩) hS (fun q _ h => hFc q h) hFc (fun r_4 u t H1 locs ht hvm hw hB hz1 hk1 hS => ?_)
        have h := hw
        obtain ⟨hP1, hK1, hD1⟩ := hB
        rw [ht] at hP1
        obtain ⟨hP, hD⟩ := mJoin (wr := ([] : va_W)) (w1 := (sh_P cs adP kdP grP cvP brP hzP fmP dmP e1P e2P fkP pnP fnP)) (w' := (sh_P cs adP kdP grP cvP brP hzP fmP dmP e1P e2P fkP pnP fnP)) hP hD [0, 1, 2, 3, 4, 5, 6, 7, 8, 9, 10] [] rfl rfl (by decide) (by decide) hk1 hFc hP1 hD1 [0, 1, 2, 3, 4, 5, 6, 7, 8, 9, 10] (by decide) rfl
        generalize H1 = H at hP hS ⊢
        refine lv_ior hx hb dX1_pieces_29 ?_
        refine lv_istore_n (lv' := [(2, .int (v2 ||| r_4)), (0, .ref (adP 0)), (1, .int v1), (3, .int v3)]) hx hb dX1_pieces_30 rfl hl (by decide) rfl (fun ls hl => ?_)
        refine lv_iinc (v := v1 + 1) (lv' := [(1, .int (v1 + 1)), (2, .int (v2 ||| r_4)), (0, .ref (adP 0)), (3, .int v3)]) hx hb dX1_pieces_31 hl (k := 2) rfl rfl (by decide) rfl (fun ls hl => ?_)
        refine lv_iinc (v := v3 + 1) (lv' := [(3, .int (v3 + 1)), (1, .int (v1 + 1)), (2, .int (v2 ||| r_4)), (0, .ref (adP 0))]) hx hb dX1_pieces_34 hl (k := 3) rfl rfl (by decide) rfl (fun ls hl => ?_)
        refine lv_goto (tgt := 6) hx hb dX1_pieces_37 (by decide) ?_
        rw [hA6] at h
        exact h _ _ hP hD hS ls (lv_sub hl [3, 1, 2, 0] rfl)
  have h := h A6 s6
  refine lv_iconst (v := 0) hx hb dX1_pieces_0 (by decide) ?_
  refine lv_istore_n (lv' := [(1, .int 0), (0, .ref (adP 0))]) hx hb dX1_pieces_1 rfl hl (by decide) rfl (fun ls hl => ?_)
  refine lv_iconst (v := 0) hx hb dX1_pieces_2 (by decide) ?_
  refine lv_istore_n (lv' := [(2, .int 0), (1, .int 0), (0, .ref (adP 0))]) hx hb dX1_pieces_3 rfl hl (by decide) rfl (fun ls hl => ?_)
  refine lv_iconst (v := 0) hx hb dX1_pieces_4 (by decide) ?_
  refine lv_istore_n (lv' := [(3, .int 0), (2, .int 0), (1, .int 0), (0, .ref (adP 0))]) hx hb dX1_pieces_5 rfl hl (by decide) rfl (fun ls hl => ?_)
  rw [hA6] at h
  exact h _ _ hP hD hS ls (lv_sub hl [3, 2, 1, 0] rfl)
def wp_X1_gramsOf (grP : Nat → Int64) (pnP : Int32) (p1 : Int32) (post : Int64 → Unit → Prop) : Prop :=
    ∀ (A5 : Int64 → Int32 → Prop),
    (∀ (v2 : Int64) (v4 : Int32), ((pnP ≤ v4 → post v2 ()) ∧ (¬ pnP ≤ v4 → wp_X5_contains p1 v4 (fun r_2 _ => ((r_2 = 0 → A5 v2 (v4 + 1)) ∧ (¬ r_2 = 0 → (vp_in v4 10 ∧ A5 (v2 + (grP v4.toNatClampNeg)) (v4 + 1))))))) → A5 v2 v4) →
    A5 0 0
set_option maxHeartbeats 4000000 in
set_option maxRecDepth 100000 in
theorem met_X1_gramsOf (l : Launch) (D : va_G) (cs : Nat → ClassId) (ev : Nat → Nat → Nat) (sz0 : Nat) (adP : Nat → Nat) (kdP : Nat → Int32) (grP : Nat → Int64) (cvP : Nat → Int32) (brP : Nat → Int32) (hzP : Nat → Int32) (fmP : Nat → Int32) (dmP : Nat → Int32) (e1P : Nat → Int32) (e2P : Nat → Int32) (fkP : Nat → Int32) (pnP : Int32) (fnP : Int32) (p1 : Int32) (post : Int64 → Unit → Prop) (h : wp_X1_gramsOf grP pnP p1 post) : Met l yX1_gramsOf wsX1_gramsOf ({ frames := 1, cells := 0, slots := 0, locals := 21 }) (va_Pc [.ref (adP 0), .int p1] (mPre D cs ev (sh_P cs adP kdP grP cvP brP hzP fmP dmP e1P e2P fkP pnP fnP) sz0)) (va_Ql post (fun _ t => mAt D cs (va_A (sh_P cs adP kdP grP cvP brP hzP fmP dmP e1P e2P fkP pnP fnP) sz0) (sh_P cs adP kdP grP cvP brP hzP fmP dmP e1P e2P fkP pnP fnP) t) (va_A (sh_P cs adP kdP grP cvP brP hzP fmP dmP e1P e2P fkP pnP fnP) sz0)) 0 0 (va_A (sh_P cs adP kdP grP cvP brP hzP fmP dmP e1P e2P fkP pnP fnP) sz0) := by
  refine Met.ofW (cc := cX1_gramsOf) (maxL := 5) (ret := (some .long)) (by decide) rfl ?_
  intro p e s m args below meth c s₁ B hml hv
  obtain ⟨rfl, hsz, hP, hK, hD0, hE⟩ := hv
  have hx := B.exec
  have hb := B.bytes
  have hr := B.returns
  have hts := atoms_spec (ws := wsX1_gramsOf) B.pre
  have hown : s.vm.findClass RX1 = some m.cls := findClass_of_methodNamed B.named
  have hlocks := B.notSynchronized
  subst hsz
  have hD := hD0.self (sz := s.heap.size)
  generalize hAe : va_A (sh_P cs adP kdP grP cvP brP hzP fmP dmP e1P e2P fkP pnP fnP) s.heap.size = A at hD hE ⊢
  have hA : ∀ q : Nat, s.heap.size ≤ q → A q := fun q h => by rw [← hAe]; exact Or.inr h
  have hS : va_S A s.heap s.heap [] := va_S.rf
  have hl := lv_entry ([.ref (adP 0), .int p1]) (n := 5) (Nat.le_of_ble_eq_true rfl)
  rw [lg_entry_eq]
  generalize (lg_sl ([.ref (adP 0), .int p1]) ++ List.replicate (5 - (lg_sl ([.ref (adP 0), .int p1])).length) Slot.unset).toArray = ls at hl ⊢
  have hl : lv_has ls 5 [(0, .ref (adP 0)), (1, .int p1)] := hl
  obtain ⟨A5, hA5⟩ : ∃ Q : Int64 → Int32 → Prop, Q = (fun v2 v4 => ∀ (H : Heap) (locs : List Loc), va_P D vwCl (sh_P cs adP kdP grP cvP brP hzP fmP dmP e1P e2P fkP pnP fnP) H → va_D A (sh_P cs adP kdP grP cvP brP hzP fmP dmP e1P e2P fkP pnP fnP) → va_S A s.heap H locs → ∀ ls : Array Slot, lv_has ls 5 [(0, .ref (adP 0)), (1, .int p1), (2, .long v2), (4, .int v4)] → W p l e (headSpec wsX1_gramsOf ({ frames := 1, cells := 0, slots := 0, locals := 21 })).room s m ([.ref (adP 0), .int p1] : List Value).toArray below meth c H locs 0 0 (MQ below (va_Ql post (fun _ t => mAt D cs (A) (sh_P cs adP kdP grP cvP brP hzP fmP dmP e1P e2P fkP pnP fnP) t) A) ([.ref (adP 0), .int p1] : List Value).toArray s 0 0 A) (F0 m 5 ls [])) := ⟨_, rfl⟩
  have s5 : ∀ (v2 : Int64) (v4 : Int32), ((pnP ≤ v4 → post v2 ()) ∧ (¬ pnP ≤ v4 → wp_X5_contains p1 v4 (fun r_2 _ => ((r_2 = 0 → A5 v2 (v4 + 1)) ∧ (¬ r_2 = 0 → (vp_in v4 10 ∧ A5 (v2 + (grP v4.toNatClampNeg)) (v4 + 1))))))) → A5 v2 v4 := by
    intro v2 v4 h
    rw [hA5]
    intro H locs hP hD hS ls hl
    refine lv_iload hx hb dX1_gramsOf_5 (lv_at hl 3 rfl) ?_
    refine lv_aload_n hx hb dX1_gramsOf_7 rfl (lv_at hl 0 rfl) ?_
    refine va_get (D := D) (ci := 1) (v := .int pnP) (C := RX1) (T := TX1) (N := 12) hx hb hts (by decide +kernel) hown hK hP 0 rfl rfl 10 (by decide) (hts (.fieldLink RX1 43 "PartGraphs$Product" "partCount" "I") (by decide +kernel)) (fun _ h9 => h9) rfl dX1_gramsOf_8 ?_
    refine lv_icmp_ge (tgt := 39) hx hb dX1_gramsOf_11 (by decide) (fun c_1 => ?_) (fun c_1 => ?_)
    · have h := h.1 c_1
      refine lv_lload_n hx hb dX1_gramsOf_39 rfl (lv_at hl 2 rfl) ?_
      exact W.lret (v := v2) hx hb hr (fun t ht hW => ⟨⟨v2, (), rfl, h, by rw [ht]; exact hP, va_K.moved hW.alike hK, hD⟩, hS.F ht⟩) hS.2.2 dX1_gramsOf_40
    · have h := h.2 c_1
      refine lv_iload_n hx hb dX1_gramsOf_14 rfl (lv_at hl 1 rfl) ?_
      refine lv_iload hx hb dX1_gramsOf_15 (lv_at hl 3 rfl) ?_
      have hFc := va_free (wc := ([] : va_W)) hD hS hA [] rfl
      refine va_calli (va_runSN (As := [.int p1, .int v4]) (rest := []) ⟨hx, hb, hml, hown, hts⟩ (met_X5_contains l D cs ev _ p1 v4 _ h) ⟨va_cnB 2 hts gX1_gramsOf_X5_contains_n71 rfl rfl rfl hE.1.2.1 (hts (.initialized RX5) (by decide +kernel)) (by decide +kernel) ⟨Nat.le_of_ble_eq_true rfl, Nat.le_of_ble_eq_true rfl⟩, hts (.static yX5_contains) (by decide +kernel), trivial⟩ (mPreS hP hD hS hK hE hFc [] (by decide) rfl) rfl rfl hl.1 rfl (lv_room (Nat.le_of_ble_eq_true rfl)) dX1_gramsOf_17 ⟨Nat.le_of_ble_eq_true rfl, Nat.le_of_ble_eq_true rfl⟩) hS (fun q _ h => hFc q h) hFc (fun r_2 u t H1 locs ht hvm hw hB hz1 hk1 hS => ?_)
      have h := hw
      obtain ⟨hP1, hK1, hD1⟩ := hB
      rw [ht] at hP1
      obtain ⟨hP, hD⟩ := mJoin (wr := (sh_P cs adP kdP grP cvP brP hzP fmP dmP e1P e2P fkP pnP fnP)) (w1 := ([] : va_W)) (w' := (sh_P cs adP kdP grP cvP brP hzP fmP dmP e1P e2P fkP pnP fnP)) hP hD [] [0, 1, 2, 3, 4, 5, 6, 7, 8, 9, 10] rfl rfl (by decide) (by decide) hk1 hFc hP1 hD1 [0, 1, 2, 3, 4, 5, 6, 7, 8, 9, 10] (by decide) rfl
      generalize H1 = H at hP hS ⊢
      refine lv_if_eq (tgt := 33) hx hb dX1_gramsOf_20 (by decide) (fun c_3 => ?_) (fun c_3 => ?_)
      · have h := h.1 c_3
        refine lv_iinc (v := v4 + 1) (lv' := [(4, .int (v4 + 1)), (0, .ref (adP 0)), (1, .int p1), (2, .long v2)]) hx hb dX1_gramsOf_33 hl (k := 3) rfl rfl (by decide) rfl (fun ls hl => ?_)
        refine lv_goto (tgt := 5) hx hb dX1_gramsOf_36 (by decide) ?_
        rw [hA5] at h
        exact h _ _ hP hD hS ls (lv_sub hl [1, 2, 3, 0] rfl)
      · have h := h.2 c_3
        refine lv_lload_n hx hb dX1_gramsOf_23 rfl (lv_at hl 2 rfl) ?_
        refine lv_aload_n hx hb dX1_gramsOf_24 rfl (lv_at hl 0 rfl) ?_
        refine va_get (D := D) (ci := 1) (v := .ref (adP 2)) (C := RX1) (T := TX1) (N := 12) hx hb hts (by decide +kernel) hown hK hP 0 rfl rfl 1 (by decide) (hts (.fieldLink RX1 15 "PartGraphs$Product" "grams" "[J") (by decide +kernel)) (fun _ h9 => h9) rfl dX1_gramsOf_25 ?_
        refine lv_iload hx hb dX1_gramsOf_28 (lv_at hl 3 rfl) ?_
        have hin := h.1
        have h := h.2
        refine va_lald (D := D) (cl := vwCl) hx hb hK hP 2 1 rfl rfl hin dX1_gramsOf_30 ?_
        refine lv_ladd hx hb dX1_gramsOf_31 ?_
        refine lv_lstore_n (lv' := [(2, .long (v2 + (grP v4.toNatClampNeg))), (0, .ref (adP 0)), (1, .int p1), (4, .int v4)]) hx hb dX1_gramsOf_32 rfl hl (by decide) rfl (fun ls hl => ?_)
        refine lv_iinc (v := v4 + 1) (lv' := [(4, .int (v4 + 1)), (2, .long (v2 + (grP v4.toNatClampNeg))), (0, .ref (adP 0)), (1, .int p1)]) hx hb dX1_gramsOf_33 hl (k := 3) rfl rfl (by decide) rfl (fun ls hl => ?_)
        refine lv_goto (tgt := 5) hx hb dX1_gramsOf_36 (by decide) ?_
        rw [hA5] at h
        exact h _ _ hP hD hS ls (lv_sub hl [2, 3, 1, 0] rfl)
  have h := h A5 s5
  refine lv_lconst (v := 0) hx hb dX1_gramsOf_0 (by decide) ?_
  refine lv_lstore_n (lv' := [(2, .long 0), (0, .ref (adP 0)), (1, .int p1)]) hx hb dX1_gramsOf_1 rfl hl (by decide) rfl (fun ls hl => ?_)
  refine lv_iconst (v := 0) hx hb dX1_gramsOf_2 (by decide) ?_
  refine lv_istore (lv' := [(4, .int 0), (2, .long 0), (0, .ref (adP 0)), (1, .int p1)]) hx hb dX1_gramsOf_3 hl (by decide) rfl (fun ls hl => ?_)
  rw [hA5] at h
  exact h _ _ hP hD hS ls (lv_sub hl [2, 3, 1, 0] rfl)
def wp_X1_partsLike (kdP : Nat → Int32) (grP : Nat → Int64) (hzP : Nat → Int32) (pnP : Int32) (p1 : Int32) (post : Int32 → Unit → Prop) : Prop :=
    ∀ (A14 : Int32 → Int32 → Prop),
    (∀ (v2 : Int32) (v3 : Int32), ((pnP ≤ v3 → post v2 ()) ∧ (¬ pnP ≤ v3 → ((v3 = p1 → A14 v2 (v3 + 1)) ∧ (¬ v3 = p1 → (vp_in v3 10 ∧ (vp_in p1 10 ∧ (((kdP v3.toNatClampNeg) = (kdP p1.toNatClampNeg) → (vp_in v3 10 ∧ (vp_in p1 10 ∧ (((lg_cmp (grP v3.toNatClampNeg) (grP p1.toNatClampNeg)) = 0 → (vp_in v3 10 ∧ (vp_in p1 10 ∧ (((hzP v3.toNatClampNeg) = (hzP p1.toNatClampNeg) → A14 (v2 ||| (1 <<< (v3 &&& 31))) (v3 + 1)) ∧ (¬ (hzP v3.toNatClampNeg) = (hzP p1.toNatClampNeg) → A14 v2 (v3 + 1)))))) ∧ (¬ (lg_cmp (grP v3.toNatClampNeg) (grP p1.toNatClampNeg)) = 0 → A14 v2 (v3 + 1)))))) ∧ (¬ (kdP v3.toNatClampNeg) = (kdP p1.toNatClampNeg) → A14 v2 (v3 + 1))))))))) → A14 v2 v3) →
    wp_X1_hasPart pnP p1 (fun r_1 _ => ((r_1 = 0 → post 0 ()) ∧ (¬ r_1 = 0 → A14 0 0)))
set_option maxHeartbeats 4000000 in
set_option maxRecDepth 100000 in
theorem met_X1_partsLike (l : Launch) (D : va_G) (cs : Nat → ClassId) (ev : Nat → Nat → Nat) (sz0 : Nat) (adP : Nat → Nat) (kdP : Nat → Int32) (grP : Nat → Int64) (cvP : Nat → Int32) (brP : Nat → Int32) (hzP : Nat → Int32) (fmP : Nat → Int32) (dmP : Nat → Int32) (e1P : Nat → Int32) (e2P : Nat → Int32) (fkP : Nat → Int32) (pnP : Int32) (fnP : Int32) (p1 : Int32) (post : Int32 → Unit → Prop) (h : wp_X1_partsLike kdP grP hzP pnP p1 post) : Met l yX1_partsLike wsX1_partsLike ({ frames := 1, cells := 0, slots := 0, locals := 21 }) (va_Pc [.ref (adP 0), .int p1] (mPre D cs ev (sh_P cs adP kdP grP cvP brP hzP fmP dmP e1P e2P fkP pnP fnP) sz0)) (va_Qi post (fun _ t => mAt D cs (va_A (sh_P cs adP kdP grP cvP brP hzP fmP dmP e1P e2P fkP pnP fnP) sz0) (sh_P cs adP kdP grP cvP brP hzP fmP dmP e1P e2P fkP pnP fnP) t) (va_A (sh_P cs adP kdP grP cvP brP hzP fmP dmP e1P e2P fkP pnP fnP) sz0)) 0 0 (va_A (sh_P cs adP kdP grP cvP brP hzP fmP dmP e1P e2P fkP pnP fnP) sz0) := by
  refine Met.ofW (cc := cX1_partsLike) (maxL := 4) (ret := (some .int)) (by decide) rfl ?_
  intro p e s m args below meth c s₁ B hml hv
  obtain ⟨rfl, hsz, hP, hK, hD0, hE⟩ := hv
  have hx := B.exec
  have hb := B.bytes
  have hr := B.returns
  have hts := atoms_spec (ws := wsX1_partsLike) B.pre
  have hown : s.vm.findClass RX1 = some m.cls := findClass_of_methodNamed B.named
  have hlocks := B.notSynchronized
  subst hsz
  have hD := hD0.self (sz := s.heap.size)
  generalize hAe : va_A (sh_P cs adP kdP grP cvP brP hzP fmP dmP e1P e2P fkP pnP fnP) s.heap.size = A at hD hE ⊢
  have hA : ∀ q : Nat, s.heap.size ≤ q → A q := fun q h => by rw [← hAe]; exact Or.inr h
  have hS : va_S A s.heap s.heap [] := va_S.rf
  have hl := lv_entry ([.ref (adP 0), .int p1]) (n := 4) (Nat.le_of_ble_eq_true rfl)
  rw [lg_entry_eq]
  generalize (lg_sl ([.ref (adP 0), .int p1]) ++ List.replicate (4 - (lg_sl ([.ref (adP 0), .int p1])).length) Slot.unset).toArray = ls at hl ⊢
  have hl : lv_has ls 4 [(0, .ref (adP 0)), (1, .int p1)] := hl
  obtain ⟨A14, hA14⟩ : ∃ Q : Int32 → Int32 → Prop, Q = (fun v2 v3 => ∀ (H : Heap) (locs : List Loc), va_P D vwCl (sh_P cs adP kdP grP cvP brP hzP fmP dmP e1P e2P fkP pnP fnP) H → va_D A (sh_P cs adP kdP grP cvP brP hzP fmP dmP e1P e2P fkP pnP fnP) → va_S A s.heap H locs → ∀ ls : Array Slot, lv_has ls 4 [(0, .ref (adP 0)), (1, .int p1), (2, .int v2), (3, .int v3)] → W p l e (headSpec wsX1_partsLike ({ frames := 1, cells := 0, slots := 0, locals := 21 })).room s m ([.ref (adP 0), .int p1] : List Value).toArray below meth c H locs 0 0 (MQ below (va_Qi post (fun _ t => mAt D cs (A) (sh_P cs adP kdP grP cvP brP hzP fmP dmP e1P e2P fkP pnP fnP) t) A) ([.ref (adP 0), .int p1] : List Value).toArray s 0 0 A) (F0 m 14 ls [])) := ⟨_, rfl⟩
  have s14 : ∀ (v2 : Int32) (v3 : Int32), ((pnP ≤ v3 → post v2 ()) ∧ (¬ pnP ≤ v3 → ((v3 = p1 → A14 v2 (v3 + 1)) ∧ (¬ v3 = p1 → (vp_in v3 10 ∧ (vp_in p1 10 ∧ (((kdP v3.toNatClampNeg) = (kdP p1.toNatClampNeg) → (vp_in v3 10 ∧ (vp_in p1 10 ∧ (((lg_cmp (grP v3.toNatClampNeg) (grP p1.toNatClampNeg)) = 0 → (vp_in v3 10 ∧ (vp_in p1 10 ∧ (((hzP v3.toNatClampNeg) = (hzP p1.toNatClampNeg) → A14 (v2 ||| (1 <<< (v3 &&& 31))) (v3 + 1)) ∧ (¬ (hzP v3.toNatClampNeg) = (hzP p1.toNatClampNeg) → A14 v2 (v3 + 1)))))) ∧ (¬ (lg_cmp (grP v3.toNatClampNeg) (grP p1.toNatClampNeg)) = 0 → A14 v2 (v3 + 1)))))) ∧ (¬ (kdP v3.toNatClampNeg) = (kdP p1.toNatClampNeg) → A14 v2 (v3 + 1))))))))) → A14 v2 v3 := by
    intro v2 v3 h
    rw [hA14]
    intro H locs hP hD hS ls hl
    refine lv_iload_n hx hb dX1_partsLike_14 rfl (lv_at hl 3 rfl) ?_
    refine lv_aload_n hx hb dX1_partsLike_15 rfl (lv_at hl 0 rfl) ?_
    refine va_get (D := D) (ci := 1) (v := .int pnP) (C := RX1) (T := TX1) (N := 12) hx hb hts (by decide +kernel) hown hK hP 0 rfl rfl 10 (by decide) (hts (.fieldLink RX1 43 "PartGraphs$Product" "partCount" "I") (by decide +kernel)) (fun _ h9 => h9) rfl dX1_partsLike_16 ?_
    refine lv_icmp_ge (tgt := 85) hx hb dX1_partsLike_19 (by decide) (fun c_3 => ?_) (fun c_3 => ?_)
    · have h := h.1 c_3
      refine lv_iload_n hx hb dX1_partsLike_85 rfl (lv_at hl 2 rfl) ?_
      exact W.iret (v := v2) hx hb hr (fun t ht hW => ⟨⟨v2, (), rfl, h, by rw [ht]; exact hP, va_K.moved hW.alike hK, hD⟩, hS.F ht⟩) hS.2.2 dX1_partsLike_86
    · have h := h.2 c_3
      refine lv_iload_n hx hb dX1_partsLike_22 rfl (lv_at hl 3 rfl) ?_
      refine lv_iload_n hx hb dX1_partsLike_23 rfl (lv_at hl 1 rfl) ?_
      refine lv_icmp_eq (tgt := 79) hx hb dX1_partsLike_24 (by decide) (fun c_4 => ?_) (fun c_4 => ?_)
      · have h := h.1 c_4
        refine lv_iinc (v := v3 + 1) (lv' := [(3, .int (v3 + 1)), (0, .ref (adP 0)), (1, .int p1), (2, .int v2)]) hx hb dX1_partsLike_79 hl (k := 3) rfl rfl (by decide) rfl (fun ls hl => ?_)
        refine lv_goto (tgt := 14) hx hb dX1_partsLike_82 (by decide) ?_
        rw [hA14] at h
        exact h _ _ hP hD hS ls (lv_sub hl [1, 2, 3, 0] rfl)
      · have h := h.2 c_4
        refine lv_aload_n hx hb dX1_partsLike_27 rfl (lv_at hl 0 rfl) ?_
        refine va_get (D := D) (ci := 1) (v := .ref (adP 1)) (C := RX1) (T := TX1) (N := 12) hx hb hts (by decide +kernel) hown hK hP 0 rfl rfl 0 (by decide) (hts (.fieldLink RX1 9 "PartGraphs$Product" "kinds" "[I") (by decide +kernel)) (fun _ h9 => h9) rfl dX1_partsLike_28 ?_
        refine lv_iload_n hx hb dX1_partsLike_31 rfl (lv_at hl 3 rfl) ?_
        have hin := h.1
        have h := h.2
        refine va_iald (D := D) (cl := vwCl) hx hb hK hP 1 0 rfl rfl hin dX1_partsLike_32 ?_
        refine lv_aload_n hx hb dX1_partsLike_33 rfl (lv_at hl 0 rfl) ?_
        refine va_get (D := D) (ci := 1) (v := .ref (adP 1)) (C := RX1) (T := TX1) (N := 12) hx hb hts (by decide +kernel) hown hK hP 0 rfl rfl 0 (by decide) (hts (.fieldLink RX1 9 "PartGraphs$Product" "kinds" "[I") (by decide +kernel)) (fun _ h9 => h9) rfl dX1_partsLike_34 ?_
        refine lv_iload_n hx hb dX1_partsLike_37 rfl (lv_at hl 1 rfl) ?_
        have hin := h.1
        have h := h.2
        refine va_iald (D := D) (cl := vwCl) hx hb hK hP 1 0 rfl rfl hin dX1_partsLike_38 ?_
        refine lv_icmp_ne (tgt := 79) hx hb dX1_partsLike_39 (by decide) (fun c_5 => ?_) (fun c_5 => ?_)
        · have h := h.2 c_5
          refine lv_iinc (v := v3 + 1) (lv' := [(3, .int (v3 + 1)), (0, .ref (adP 0)), (1, .int p1), (2, .int v2)]) hx hb dX1_partsLike_79 hl (k := 3) rfl rfl (by decide) rfl (fun ls hl => ?_)
          refine lv_goto (tgt := 14) hx hb dX1_partsLike_82 (by decide) ?_
          rw [hA14] at h
          exact h _ _ hP hD hS ls (lv_sub hl [1, 2, 3, 0] rfl)
        · have h := h.1 c_5
          refine lv_aload_n hx hb dX1_partsLike_42 rfl (lv_at hl 0 rfl) ?_
          refine va_get (D := D) (ci := 1) (v := .ref (adP 2)) (C := RX1) (T := TX1) (N := 12) hx hb hts (by decide +kernel) hown hK hP 0 rfl rfl 1 (by decide) (hts (.fieldLink RX1 15 "PartGraphs$Product" "grams" "[J") (by decide +kernel)) (fun _ h9 => h9) rfl dX1_partsLike_43 ?_
          refine lv_iload_n hx hb dX1_partsLike_46 rfl (lv_at hl 3 rfl) ?_
          have hin := h.1
          have h := h.2
          refine va_lald (D := D) (cl := vwCl) hx hb hK hP 2 1 rfl rfl hin dX1_partsLike_47 ?_
          refine lv_aload_n hx hb dX1_partsLike_48 rfl (lv_at hl 0 rfl) ?_
          refine va_get (D := D) (ci := 1) (v := .ref (adP 2)) (C := RX1) (T := TX1) (N := 12) hx hb hts (by decide +kernel) hown hK hP 0 rfl rfl 1 (by decide) (hts (.fieldLink RX1 15 "PartGraphs$Product" "grams" "[J") (by decide +kernel)) (fun _ h9 => h9) rfl dX1_partsLike_49 ?_
          refine lv_iload_n hx hb dX1_partsLike_52 rfl (lv_at hl 1 rfl) ?_
          have hin := h.1
          have h := h.2
          refine va_lald (D := D) (cl := vwCl) hx hb hK hP 2 1 rfl rfl hin dX1_partsLike_53 ?_
          refine W.lcmp hx hb dX1_partsLike_54 ?_
          refine lv_if_ne (tgt := 79) hx hb dX1_partsLike_55 (by decide) (fun c_6 => ?_) (fun c_6 => ?_)
          · have h := h.2 c_6
            refine lv_iinc (v := v3 + 1) (lv' := [(3, .int (v3 + 1)), (0, .ref (adP 0)), (1, .int p1), (2, .int v2)]) hx hb dX1_partsLike_79 hl (k := 3) rfl rfl (by decide) rfl (fun ls hl => ?_)
            refine lv_goto (tgt := 14) hx hb dX1_partsLike_82 (by decide) ?_
            rw [hA14] at h
            exact h _ _ hP hD hS ls (lv_sub hl [1, 2, 3, 0] rfl)
          · have h := h.1 c_6
            refine lv_aload_n hx hb dX1_partsLike_58 rfl (lv_at hl 0 rfl) ?_
            refine va_get (D := D) (ci := 1) (v := .ref (adP 5)) (C := RX1) (T := TX1) (N := 12) hx hb hts (by decide +kernel) hown hK hP 0 rfl rfl 4 (by decide) (hts (.fieldLink RX1 25 "PartGraphs$Product" "hazards" "[I") (by decide +kernel)) (fun _ h9 => h9) rfl dX1_partsLike_59 ?_
            refine lv_iload_n hx hb dX1_partsLike_62 rfl (lv_at hl 3 rfl) ?_
            have hin := h.1
            have h := h.2
            refine va_iald (D := D) (cl := vwCl) hx hb hK hP 5 0 rfl rfl hin dX1_partsLike_63 ?_
            refine lv_aload_n hx hb dX1_partsLike_64 rfl (lv_at hl 0 rfl) ?_
            refine va_get (D := D) (ci := 1) (v := .ref (adP 5)) (C := RX1) (T := TX1) (N := 12) hx hb hts (by decide +kernel) hown hK hP 0 rfl rfl 4 (by decide) (hts (.fieldLink RX1 25 "PartGraphs$Product" "hazards" "[I") (by decide +kernel)) (fun _ h9 => h9) rfl dX1_partsLike_65 ?_
            refine lv_iload_n hx hb dX1_partsLike_68 rfl (lv_at hl 1 rfl) ?_
            have hin := h.1
            have h := h.2
            refine va_iald (D := D) (cl := vwCl) hx hb hK hP 5 0 rfl rfl hin dX1_partsLike_69 ?_
            refine lv_icmp_ne (tgt := 79) hx hb dX1_partsLike_70 (by decide) (fun c_7 => ?_) (fun c_7 => ?_)
            · have h := h.2 c_7
              refine lv_iinc (v := v3 + 1) (lv' := [(3, .int (v3 + 1)), (0, .ref (adP 0)), (1, .int p1), (2, .int v2)]) hx hb dX1_partsLike_79 hl (k := 3) rfl rfl (by decide) rfl (fun ls hl => ?_)
              refine lv_goto (tgt := 14) hx hb dX1_partsLike_82 (by decide) ?_
              rw [hA14] at h
              exact h _ _ hP hD hS ls (lv_sub hl [1, 2, 3, 0] rfl)
            · have h := h.1 c_7
              refine lv_iload_n hx hb dX1_partsLike_73 rfl (lv_at hl 2 rfl) ?_
              refine lv_iconst (v := 1) hx hb dX1_partsLike_74 (by decide) ?_
              refine lv_iload_n hx hb dX1_partsLike_75 rfl (lv_at hl 3 rfl) ?_
              refine lv_ishl hx hb dX1_partsLike_76 ?_
              refine lv_ior hx hb dX1_partsLike_77 ?_
              refine lv_istore_n (lv' := [(2, .int (v2 ||| (1 <<< (v3 &&& 31)))), (0, .ref (adP 0)), (1, .int p1), (3, .int v3)]) hx hb dX1_partsLike_78 rfl hl (by decide) rfl (fun ls hl => ?_)
              refine lv_iinc (v := v3 + 1) (lv' := [(3, .int (v3 + 1)), (2, .int (v2 ||| (1 <<< (v3 &&& 31)))), (0, .ref (adP 0)), (1, .int p1)]) hx hb dX1_partsLike_79 hl (k := 3) rfl rfl (by decide) rfl (fun ls hl => ?_)
              refine lv_goto (tgt := 14) hx hb dX1_partsLike_82 (by decide) ?_
              rw [hA14] at h
              exact h _ _ hP hD hS ls (lv_sub hl [2, 3, 1, 0] rfl)
  have h := h A14 s14
  refine lv_iconst (v := 0) hx hb dX1_partsLike_0 (by decide) ?_
  refine lv_istore_n (lv' := [(2, .int 0), (0, .ref (adP 0)), (1, .int p1)]) hx hb dX1_partsLike_1 rfl hl (by decide) rfl (fun ls hl => ?_)
  refine lv_aload_n hx hb dX1_partsLike_2 rfl (lv_at hl 1 rfl) ?_
  refine lv_iload_n hx hb dX1_partsLike_3 rfl (lv_at hl 2 rfl) ?_
  have hFc := va_free (wc := (sh_P cs adP kdP grP cvP brP hzP fmP dmP e1P e2P fkP pnP fnP)) hD hS hA [0, 1, 2, 3, 4, 5, 6, 7, 8, 9, 10] rfl
  refine va_calli (va_runV (As := [.int p1]) (rest := []) ⟨hx, hb, hml, hown, hts⟩ (met_X1_hasPart l D cs ev _ adP kdP grP cvP brP hzP fmP dmP e1P e2P fkP pnP fnP p1 _ h) (cwV 1 hts gX1_partsLike_X1_hasPart rfl rfl rfl (by decide +kernel) ⟨Nat.le_of_ble_eq_true rfl, Nat.le_of_ble_eq_true rfl⟩) (mPreV (va_recv hK hP (ci := 1) (q0 := 0) rfl rfl) hP hD hS hK hE hFc [0, 1, 2, 3, 4, 5, 6, 7, 8, 9, 10] (by decide) rfl) rfl rfl hl.1 rfl (lv_room (Nat.le_of_ble_eq_true rfl)) dX1_partsLike_4 ⟨Nat.le_of_ble_eq_true rfl, Nat.le_of_ble_eq_true rfl⟩) hS (fun q _ h => hFc q h) hFc (fun r_1 u t H1 locs ht hvm hw hB hz1 hk1 hS => ?_)
  have h := hw
  obtain ⟨hP1, hK1, hD1⟩ := hB
  rw [ht] at hP1
  obtain ⟨hP, hD⟩ := mJoin (wr := ([] : va_W)) (w1 := (sh_P cs adP kdP grP cvP brP hzP fmP dmP e1P e2P fkP pnP fnP)) (w' := (sh_P cs adP kdP grP cvP brP hzP fmP dmP e1P e2P fkP pnP fnP)) hP hD [0, 1, 2, 3, 4, 5, 6, 7, 8, 9, 10] [] rfl rfl (by decide) (by decide) hk1 hFc hP1 hD1 [0, 1, 2, 3, 4, 5, 6, 7, 8, 9, 10] (by decide) rfl
  generalize H1 = H at hP hS ⊢
  refine lv_if_ne (tgt := 12) hx hb dX1_partsLike_7 (by decide) (fun c_2 => ?_) (fun c_2 => ?_)
  · have h := h.2 c_2
    refine lv_iconst (v := 0) hx hb dX1_partsLike_12 (by decide) ?_
    refine lv_istore_n (lv' := [(3, .int 0), (2, .int 0), (0, .ref (adP 0)), (1, .int p1)]) hx hb dX1_partsLike_13 rfl hl (by decide) rfl (fun ls hl => ?_)
    rw [hA14] at h
    exact h _ _ hP hD hS ls (lv_sub hl [2, 3, 1, 0] rfl)
  · have h := h.1 c_2
    refine lv_iload_n hx hb dX1_partsLike_10 rfl (lv_at hl 0 rfl) ?_
    exact W.iret (v := 0) hx hb hr (fun t ht hW => ⟨⟨0, (), rfl, h, by rw [ht]; exact hP, va_K.moved hW.alike hK, hD⟩, hS.F ht⟩) hS.2.2 dX1_partsLike_11
def wp_X1_coveredBy (cvP : Nat → Int32) (pnP : Int32) (p1 : Int32) (post : Int32 → Unit → Prop) : Prop :=
    ∀ (A4 : Int32 → Int32 → Prop),
    (∀ (v2 : Int32) (v3 : Int32), ((pnP ≤ v3 → post v2 ()) ∧ (¬ pnP ≤ v3 → (vp_in v3 10 ∧ wp_X5_contains (cvP v3.toNatClampNeg) p1 (fun r_2 _ => ((r_2 = 0 → A4 v2 (v3 + 1)) ∧ (¬ r_2 = 0 → A4 (v2 ||| (1 <<< (v3 &&& 31))) (v3 + 1))))))) → A4 v2 v3) →
    A4 0 0
set_option maxHeartbeats 4000000 in
set_option maxRecDepth 100000 in
theorem met_X1_coveredBy (l : Launch) (D : va_G) (cs : Nat → ClassId) (ev : Nat → Nat → Nat) (sz0 : Nat) (adP : Nat → Nat) (kdP : Nat → Int32) (grP : Nat → Int64) (cvP : Nat → Int32) (brP : Nat → Int32) (hzP : Nat → Int32) (fmP : Nat → Int32) (dmP : Nat → Int32) (e1P : Nat → Int32) (e2P : Nat → Int32) (fkP : Nat → Int32) (pnP : Int32) (fnP : Int32) (p1 : Int32) (post : Int32 → Unit → Prop) (h : wp_X1_coveredBy cvP pnP p1 post) : Met l yX1_coveredBy wsX1_coveredBy ({ frames := 1, cells := 0, slots := 0, locals := 21 }) (va_Pc [.ref (adP 0), .int p1] (mPre D cs ev (sh_P cs adP kdP grP cvP brP hzP fmP dmP e1P e2P fkP pnP fnP) sz0)) (va_Qi post (fun _ t => mAt D cs (va_A (sh_P cs adP kdP grP cvP brP hzP fmP dmP e1P e2P fkP pnP fnP) sz0) (sh_P cs adP kdP grP cvP brP hzP fmP dmP e1P e2P fkP pnP fnP) t) (va_A (sh_P cs adP kdP grP cvP brP hzP fmP dmP e1P e2P fkP pnP fnP) sz0)) 0 0 (va_A (sh_P cs adP kdP grP cvP brP hzP fmP dmP e1P e2P fkP pnP fnP) sz0) := by
  refine Met.ofW (cc := cX1_coveredBy) (maxL := 4) (ret := (some .int)) (by decide) rfl ?_
  intro p e s m args below meth c s₁ B hml hv
  obtain ⟨rfl, hsz, hP, hK, hD0, hE⟩ := hv
  have hx := B.exec
  have hb := B.bytes
  have hr := B.returns
  have hts := atoms_spec (ws := wsX1_coveredBy) B.pre
  have hown : s.vm.findClass RX1 = some m.cls := findClass_of_methodNamed B.named
  have hlocks := B.notSynchronized
  subst hsz
  have hD := hD0.self (sz := s.heap.size)
  generalize hAe : va_A (sh_P cs adP kdP grP cvP brP hzP fmP dmP e1P e2P fkP pnP fnP) s.heap.size = A at hD hE ⊢
  have hA : ∀ q : Nat, s.heap.size ≤ q → A q := fun q h => by rw [← hAe]; exact Or.inr h
  have hS : va_S A s.heap s.heap [] := va_S.rf
  have hl := lv_entry ([.ref (adP 0), .int p1]) (n := 4) (Nat.le_of_ble_eq_true rfl)
  rw [lg_entry_eq]
  generalize (lg_sl ([.ref (adP 0), .int p1]) ++ List.replicate (4 - (lg_sl ([.ref (adP 0), .int p1])).length) Slot.unset).toArray = ls at hl ⊢
  have hl : lv_has ls 4 [(0, .ref (adP 0)), (1, .int p1)] := hl
  obtain ⟨A4, hA4⟩ : ∃ Q : Int32 → Int32 → Prop, Q = (fun v2 v3 => ∀ (H : Heap) (locs : List Loc), va_P D vwCl (sh_P cs adP kdP grP cvP brP hzP fmP dmP e1P e2P fkP pnP fnP) H → va_D A (sh_P cs adP kdP grP cvP brP hzP fmP dmP e1P e2P fkP pnP fnP) → va_S A s.heap H locs → ∀ ls : Array Slot, lv_has ls 4 [(0, .ref (adP 0)), (1, .int p1), (2, .int v2), (3, .int v3)] → W p l e (headSpec wsX1_coveredBy ({ frames := 1, cells := 0, slots := 0, locals := 21 })).room s m ([.ref (adP 0), .int p1] : List Value).toArray below meth c H locs 0 0 (MQ below (va_Qi post (fun _ t => mAt D cs (A) (sh_P cs adP kdP grP cvP brP hzP fmP dmP e1P e2P fkP pnP fnP) t) A) ([.ref (adP 0), .int p1] : List Value).toArray s 0 0 A) (F0 m 4 ls [])) := ⟨_, rfl⟩
  have s4 : ∀ (v2 : Int32) (v3 : Int32), ((pnP ≤ v3 → post v2 ()) ∧ (¬ pnP ≤ v3 → (vp_in v3 10 ∧ wp_X5_contains (cvP v3.toNatClampNeg) p1 (fun r_2 _ => ((r_2 = 0 → A4 v2 (v3 + 1)) ∧ (¬ r_2 = 0 → A4 (v2 ||| (1 <<< (v3 &&& 31))) (v3 + 1))))))) → A4 v2 v3 := by
    intro v2 v3 h
    rw [hA4]
    intro H locs hP hD hS ls hl
    refine lv_iload_n hx hb dX1_coveredBy_4 rfl (lv_at hl 3 rfl) ?_
    refine lv_aload_n hx hb dX1_coveredBy_5 rfl (lv_at hl 0 rfl) ?_
    refine va_get (D := D) (ci := 1) (v := .int pnP) (C := RX1) (T := TX1) (N := 12) hx hb hts (by decide +kernel) hown hK hP 0 rfl rfl 10 (by decide) (hts (.fieldLink RX1 43 "PartGraphs$Product" "partCount" "I") (by decide +kernel)) (fun _ h9 => h9) rfl dX1_coveredBy_6 ?_
    refine lv_icmp_ge (tgt := 37) hx hb dX1_coveredBy_9 (by decide) (fun c_1 => ?_) (fun c_1 => ?_)
    · have h := h.1 c_1
      refine lv_iload_n hx hb dX1_coveredBy_37 rfl (lv_at hl 2 rfl) ?_
      exact W.iret (v := v2) hx hb hr (fun t ht hW => ⟨⟨v2, (), rfl, h, by rw [ht]; exact hP, va_K.moved hW.alike hK, hD⟩, hS.F ht⟩) hS.2.2 dX1_coveredBy_38
    · have h := h.2 c_1
      refine lv_aload_n hx hb dX1_coveredBy_12 rfl (lv_at hl 0 rfl) ?_
      refine va_get (D := D) (ci := 1) (v := .ref (adP 3)) (C := RX1) (T := TX1) (N := 12) hx hb hts (by decide +kernel) hown hK hP 0 rfl rfl 2 (by decide) (hts (.fieldLink RX1 19 "PartGraphs$Product" "coverers" "[I") (by decide +kernel)) (fun _ h9 => h9) rfl dX1_coveredBy_13 ?_
      refine lv_iload_n hx hb dX1_coveredBy_16 rfl (lv_at hl 3 rfl) ?_
      have hin := h.1
      have h := h.2
      refine va_iald (D := D) (cl := vwCl) hx hb hK hP 3 0 rfl rfl hin dX1_coveredBy_17 ?_
      refine lv_iload_n hx hb dX1_coveredBy_18 rfl (lv_at hl 1 rfl) ?_
      have hFc := va_free (wc := ([] : va_W)) hD hS hA [] rfl
      refine va_calli (va_runSN (As := [.int (cvP v3.toNatClampNeg), .int p1]) (rest := []) ⟨hx, hb, hml, hown, hts⟩ (met_X5_contains l D cs ev _ (cvP v3.toNatClampNeg) p1 _ h) ⟨va_cnB 2 hts gX1_coveredBy_X5_contains_n71 rfl rfl rfl hE.1.2.1 (hts (.initialized RX5) (by decide +kernel)) (by decide +kernel) ⟨Nat.le_of_ble_eq_true rfl, Nat.le_of_ble_eq_true rfl⟩, hts (.static yX5_contains) (by decide +kernel), trivial⟩ (mPreS hP hD hS hK hE hFc [] (by decide) rfl) rfl rfl hl.1 rfl (lv_room (Nat.le_of_ble_eq_true rfl)) dX1_coveredBy_19 ⟨Nat.le_of_ble_eq_true rfl, Nat.le_of_ble_eq_true rfl⟩) hS (fun q _ h => hFc q h) hFc (fun r_2 u t H1 locs ht hvm hw hB hz1 hk1 hS => ?_)
      have h := hw
      obtain ⟨hP1, hK1, hD1⟩ := hB
      rw [ht] at hP1
      obtain ⟨hP, hD⟩ := mJoin (wr := (sh_P cs adP kdP grP cvP brP hzP fmP dmP e1P e2P fkP pnP fnP)) (w1 := ([] : va_W)) (w' := (sh_P cs adP kdP grP cvP brP hzP fmP dmP e1P e2P fkP pnP fnP)) hP hD [] [0, 1, 2, 3, 4, 5, 6, 7, 8, 9, 10] rfl rfl (by decide) (by decide) hk1 hFc hP1 hD1 [0, 1, 2, 3, 4, 5, 6, 7, 8, 9, 10] (by decide) rfl
      generalize H1 = H at hP hS ⊢
      refine lv_if_eq (tgt := 31) hx hb dX1_coveredBy_22 (by decide) (fun c_3 => ?_) (fun c_3 => ?_)
      · have h := h.1 c_3
        refine lv_iinc (v := v3 + 1) (lv' := [(3, .int (v3 + 1)), (0, .ref (adP 0)), (1, .int p1), (2, .int v2)]) hx hb dX1_coveredBy_31 hl (k := 3) rfl rfl (by decide) rfl (fun ls hl => ?_)
        refine lv_goto (tgt := 4) hx hb dX1_coveredBy_34 (by decide) ?_
        rw [hA4] at h
        exact h _ _ hP hD hS ls (lv_sub hl [1, 2, 3, 0] rfl)
      · have h := h.2 c_3
        refine lv_iload_n hx hb dX1_coveredBy_25 rfl (lv_at hl 2 rfl) ?_
        refine lv_iconst (v := 1) hx hb dX1_coveredBy_26 (by decide) ?_
        refine lv_iload_n hx hb dX1_coveredBy_27 rfl (lv_at hl 3 rfl) ?_
        refine lv_ishl hx hb dX1_coveredBy_28 ?_
        refine lv_ior hx hb dX1_coveredBy_29 ?_
        refine lv_istore_n (lv' := [(2, .int (v2 ||| (1 <<< (v3 &&& 31)))), (0, .ref (adP 0)), (1, .int p1), (3, .int v3)]) hx hb dX1_coveredBy_30 rfl hl (by decide) rfl (fun ls hl => ?_)
        refine lv_iinc (v := v3 + 1) (lv' := [(3, .int (v3 + 1)), (2, .int (v2 ||| (1 <<< (v3 &&& 31)))), (0, .ref (adP 0)), (1, .int p1)]) hx hb dX1_coveredBy_31 hl (k := 3) rfl rfl (by decide) rfl (fun ls hl => ?_)
        refine lv_goto (tgt := 4) hx hb dX1_coveredBy_34 (by decide) ?_
        rw [hA4] at h
        exact h _ _ hP hD hS ls (lv_sub hl [2, 3, 1, 0] rfl)
  have h := h A4 s4
  refine lv_iconst (v := 0) hx hb dX1_coveredBy_0 (by decide) ?_
  refine lv_istore_n (lv' := [(2, .int 0), (0, .ref (adP 0)), (1, .int p1)]) hx hb dX1_coveredBy_1 rfl hl (by decide) rfl (fun ls hl => ?_)
  refine lv_iconst (v := 0) hx hb dX1_coveredBy_2 (by decide) ?_
  refine lv_istore_n (lv' := [(3, .int 0), (2, .int 0), (0, .ref (adP 0)), (1, .int p1)]) hx hb dX1_coveredBy_3 rfl hl (by decide) rfl (fun ls hl => ?_)
  rw [hA4] at h
  exact h _ _ hP hD hS ls (lv_sub hl [2, 3, 1, 0] rfl)
