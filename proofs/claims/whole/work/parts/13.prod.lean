def wp_X1_hasPart (pnP : Int32) (p1 : Int32) (post : Int32 → Unit → Prop) : Prop :=
    ((p1 < 0 → post 0 ()) ∧ (¬ p1 < 0 → ((pnP ≤ p1 → post 0 ()) ∧ (¬ pnP ≤ p1 → post 1 ()))))
set_option maxHeartbeats 4000000 in
set_option maxRecDepth 100000 in
theorem met_X1_hasPart (l : Launch) (D : va_G) (cs : Nat → ClassId) (ev : Nat → Nat → Nat) (sz0 : Nat) (adP : Nat → Nat) (kdP : Nat → Int32) (grP : Nat → Int64) (cvP : Nat → Int32) (brP : Nat → Int32) (hzP : Nat → Int32) (fmP : Nat → Int32) (dmP : Nat → Int32) (e1P : Nat → Int32) (e2P : Nat → Int32) (fkP : Nat → Int32) (pnP : Int32) (fnP : Int32) (p1 : Int32) (post : Int32 → Unit → Prop) (h : wp_X1_hasPart pnP p1 post) : Met l yX1_hasPart wsX1_hasPart ({ frames := 0, cells := 0, slots := 0, locals := 0 }) (va_Pc [.ref (adP 0), .int p1] (mPre D cs ev (sh_P cs adP kdP grP cvP brP hzP fmP dmP e1P e2P fkP pnP fnP) sz0)) (va_Qi post (fun _ t => mAt D cs (va_A (sh_P cs adP kdP grP cvP brP hzP fmP dmP e1P e2P fkP pnP fnP) sz0) (sh_P cs adP kdP grP cvP brP hzP fmP dmP e1P e2P fkP pnP fnP) t) (va_A (sh_P cs adP kdP grP cvP brP hzP fmP dmP e1P e2P fkP pnP fnP) sz0)) 0 0 (va_A (sh_P cs adP kdP grP cvP brP hzP fmP dmP e1P e2P fkP pnP fnP) sz0) := by
  refine Met.ofW (cc := cX1_hasPart) (maxL := 2) (ret := (some .boolean)) (by decide) rfl ?_
  intro p e s m args below meth c s₁ B hml hv
  obtain ⟨rfl, hsz, hP, hK, hD0, hE⟩ := hv
  have hx := B.exec
  have hb := B.bytes
  have hr := B.returns
  have hts := atoms_spec (ws := wsX1_hasPart) B.pre
  have hown : s.vm.findClass RX1 = some m.cls := findClass_of_methodNamed B.named
  have hlocks := B.notSynchronized
  subst hsz
  have hD := hD0.self (sz := s.heap.size)
  generalize hAe : va_A (sh_P cs adP kdP grP cvP brP hzP fmP dmP e1P e2P fkP pnP fnP) s.heap.size = A at hD hE ⊢
  have hA : ∀ q : Nat, s.heap.size ≤ q → A q := fun q h => by rw [← hAe]; exact Or.inr h
  have hS : va_S A s.heap s.heap [] := va_S.rf
  have hl := lv_entry ([.ref (adP 0), .int p1]) (n := 2) (Nat.le_of_ble_eq_true rfl)
  rw [lg_entry_eq]
  generalize (lg_sl ([.ref (adP 0), .int p1]) ++ List.replicate (2 - (lg_sl ([.ref (adP 0), .int p1])).length) Slot.unset).toArray = ls at hl ⊢
  have hl : lv_has ls 2 [(0, .ref (adP 0)), (1, .int p1)] := hl
  refine lv_iload_n hx hb dX1_hasPart_0 rfl (lv_at hl 1 rfl) ?_
  refine lv_if_lt (tgt := 16) hx hb dX1_hasPart_1 (by decide) (fun c_1 => ?_) (fun c_1 => ?_)
  · have h := h.1 c_1
    refine lv_iconst (v := 0) hx hb dX1_hasPart_16 (by decide) ?_
    exact W.zret (v := 0) hx hb hr (by decide) (fun t ht hW => ⟨⟨0, (), rfl, h, by rw [ht]; exact hP, va_K.moved hW.alike hK, hD⟩, hS.F ht⟩) hS.2.2 dX1_hasPart_17
  · have h := h.2 c_1
    refine lv_iload_n hx hb dX1_hasPart_4 rfl (lv_at hl 1 rfl) ?_
    refine lv_aload_n hx hb dX1_hasPart_5 rfl (lv_at hl 0 rfl) ?_
    refine va_get (D := D) (ci := 1) (v := .int pnP) (C := RX1) (T := TX1) (N := 12) hx hb hts (by decide +kernel) hown hK hP 0 rfl rfl 10 (by decide) (hts (.fieldLink RX1 43 "PartGraphs$Product" "partCount" "I") (by decide +kernel)) (fun _ h9 => h9) rfl dX1_hasPart_6 ?_
    refine lv_icmp_ge (tgt := 16) hx hb dX1_hasPart_9 (by decide) (fun c_2 => ?_) (fun c_2 => ?_)
    · have h := h.1 c_2
      refine lv_iconst (v := 0) hx hb dX1_hasPart_16 (by decide) ?_
      exact W.zret (v := 0) hx hb hr (by decide) (fun t ht hW => ⟨⟨0, (), rfl, h, by rw [ht]; exact hP, va_K.moved hW.alike hK, hD⟩, hS.F ht⟩) hS.2.2 dX1_hasPart_17
    · have h := h.2 c_2
      refine lv_iconst (v := 1) hx hb dX1_hasPart_12 (by decide) ?_
      refine lv_goto (tgt := 17) hx hb dX1_hasPart_13 (by decide) ?_
      exact W.zret (v := 1) hx hb hr (by decide) (fun t ht hW => ⟨⟨1, (), rfl, h, by rw [ht]; exact hP, va_K.moved hW.alike hK, hD⟩, hS.F ht⟩) hS.2.2 dX1_hasPart_17
def wp_X1_areTwoParts (pnP : Int32) (p1 : Int32) (p2 : Int32) (post : Int32 → Unit → Prop) : Prop :=
    ((p1 < 0 → post 0 ()) ∧ (¬ p1 < 0 → ((pnP ≤ p1 → post 0 ()) ∧ (¬ pnP ≤ p1 → ((p2 < 0 → post 0 ()) ∧ (¬ p2 < 0 → ((pnP ≤ p2 → post 0 ()) ∧ (¬ pnP ≤ p2 → ((p1 = p2 → post 0 ()) ∧ (¬ p1 = p2 → post 1 ()))))))))))
set_option maxHeartbeats 4000000 in
set_option maxRecDepth 100000 in
theorem met_X1_areTwoParts (l : Launch) (D : va_G) (cs : Nat → ClassId) (ev : Nat → Nat → Nat) (sz0 : Nat) (adP : Nat → Nat) (kdP : Nat → Int32) (grP : Nat → Int64) (cvP : Nat → Int32) (brP : Nat → Int32) (hzP : Nat → Int32) (fmP : Nat → Int32) (dmP : Nat → Int32) (e1P : Nat → Int32) (e2P : Nat → Int32) (fkP : Nat → Int32) (pnP : Int32) (fnP : Int32) (p1 : Int32) (p2 : Int32) (post : Int32 → Unit → Prop) (h : wp_X1_areTwoParts pnP p1 p2 post) : Met l yX1_areTwoParts wsX1_areTwoParts ({ frames := 0, cells := 0, slots := 0, locals := 0 }) (va_Pc [.ref (adP 0), .int p1, .int p2] (mPre D cs ev (sh_P cs adP kdP grP cvP brP hzP fmP dmP e1P e2P fkP pnP fnP) sz0)) (va_Qi post (fun _ t => mAt D cs (va_A (sh_P cs adP kdP grP cvP brP hzP fmP dmP e1P e2P fkP pnP fnP) sz0) (sh_P cs adP kdP grP cvP brP hzP fmP dmP e1P e2P fkP pnP fnP) t) (va_A (sh_P cs adP kdP grP cvP brP hzP fmP dmP e1P e2P fkP pnP fnP) sz0)) 0 0 (va_A (sh_P cs adP kdP grP cvP brP hzP fmP dmP e1P e2P fkP pnP fnP) sz0) := by
  refine Met.ofW (cc := cX1_areTwoParts) (maxL := 3) (ret := (some .boolean)) (by decide) rfl ?_
  intro p e s m args below meth c s₁ B hml hv
  obtain ⟨rfl, hsz, hP, hK, hD0, hE⟩ := hv
  have hx := B.exec
  have hb := B.bytes
  have hr := B.returns
  have hts := atoms_spec (ws := wsX1_areTwoParts) B.pre
  have hown : s.vm.findClass RX1 = some m.cls := findClass_of_methodNamed B.named
  have hlocks := B.notSynchronized
  subst hsz
  have hD := hD0.self (sz := s.heap.size)
  generalize hAe : va_A (sh_P cs adP kdP grP cvP brP hzP fmP dmP e1P e2P fkP pnP fnP) s.heap.size = A at hD hE ⊢
  have hA : ∀ q : Nat, s.heap.size ≤ q → A q := fun q h => by rw [← hAe]; exact Or.inr h
  have hS : va_S A s.heap s.heap [] := va_S.rf
  have hl := lv_entry ([.ref (adP 0), .int p1, .int p2]) (n := 3) (Nat.le_of_ble_eq_true rfl)
  rw [lg_entry_eq]
  generalize (lg_sl ([.ref (adP 0), .int p1, .int p2]) ++ List.replicate (3 - (lg_sl ([.ref (adP 0), .int p1, .int p2])).length) Slot.unset).toArray = ls at hl ⊢
  have hl : lv_has ls 3 [(0, .ref (adP 0)), (1, .int p1), (2, .int p2)] := hl
  refine lv_iload_n hx hb dX1_areTwoParts_0 rfl (lv_at hl 1 rfl) ?_
  refine lv_if_lt (tgt := 33) hx hb dX1_areTwoParts_1 (by decide) (fun c_1 => ?_) (fun c_1 => ?_)
  · have h := h.1 c_1
    refine lv_iconst (v := 0) hx hb dX1_areTwoParts_33 (by decide) ?_
    exact W.zret (v := 0) hx hb hr (by decide) (fun t ht hW => ⟨⟨0, (), rfl, h, by rw [ht]; exact hP, va_K.moved hW.alike hK, hD⟩, hS.F ht⟩) hS.2.2 dX1_areTwoParts_34
  · have h := h.2 c_1
    refine lv_iload_n hx hb dX1_areTwoParts_4 rfl (lv_at hl 1 rfl) ?_
    refine lv_aload_n hx hb dX1_areTwoParts_5 rfl (lv_at hl 0 rfl) ?_
    refine va_get (D := D) (ci := 1) (v := .int pnP) (C := RX1) (T := TX1) (N := 12) hx hb hts (by decide +kernel) hown hK hP 0 rfl rfl 10 (by decide) (hts (.fieldLink RX1 43 "PartGraphs$Product" "partCount" "I") (by decide +kernel)) (fun _ h9 => h9) rfl dX1_areTwoParts_6 ?_
    refine lv_icmp_ge (tgt := 33) hx hb dX1_areTwoParts_9 (by decide) (fun c_2 => ?_) (fun c_2 => ?_)
    · have h := h.1 c_2
      refine lv_iconst (v := 0) hx hb dX1_areTwoParts_33 (by decide) ?_
      exact W.zret (v := 0) hx hb hr (by decide) (fun t ht hW => ⟨⟨0, (), rfl, h, by rw [ht]; exact hP, va_K.moved hW.alike hK, hD⟩, hS.F ht⟩) hS.2.2 dX1_areTwoParts_34
    · have h := h.2 c_2
      refine lv_iload_n hx hb dX1_areTwoParts_12 rfl (lv_at hl 2 rfl) ?_
      refine lv_if_lt (tgt := 33) hx hb dX1_areTwoParts_13 (by decide) (fun c_3 => ?_) (fun c_3 => ?_)
      · have h := h.1 c_3
        refine lv_iconst (v := 0) hx hb dX1_areTwoParts_33 (by decide) ?_
        exact W.zret (v := 0) hx hb hr (by decide) (fun t ht hW => ⟨⟨0, (), rfl, h, by rw [ht]; exact hP, va_K.moved hW.alike hK, hD⟩, hS.F ht⟩) hS.2.2 dX1_areTwoParts_34
      · have h := h.2 c_3
        refine lv_iload_n hx hb dX1_areTwoParts_16 rfl (lv_at hl 2 rfl) ?_
        refine lv_aload_n hx hb dX1_areTwoParts_17 rfl (lv_at hl 0 rfl) ?_
        refine va_get (D := D) (ci := 1) (v := .int pnP) (C := RX1) (T := TX1) (N := 12) hx hb hts (by decide +kernel) hown hK hP 0 rfl rfl 10 (by decide) (hts (.fieldLink RX1 43 "PartGraphs$Product" "partCount" "I") (by decide +kernel)) (fun _ h9 => h9) rfl dX1_areTwoParts_18 ?_
        refine lv_icmp_ge (tgt := 33) hx hb dX1_areTwoParts_21 (by decide) (fun c_4 => ?_) (fun c_4 => ?_)
        · have h := h.1 c_4
          refine lv_iconst (v := 0) hx hb dX1_areTwoParts_33 (by decide) ?_
          exact W.zret (v := 0) hx hb hr (by decide) (fun t ht hW => ⟨⟨0, (), rfl, h, by rw [ht]; exact hP, va_K.moved hW.alike hK, hD⟩, hS.F ht⟩) hS.2.2 dX1_areTwoParts_34
        · have h := h.2 c_4
          refine lv_iload_n hx hb dX1_areTwoParts_24 rfl (lv_at hl 1 rfl) ?_
          refine lv_iload_n hx hb dX1_areTwoParts_25 rfl (lv_at hl 2 rfl) ?_
          refine lv_icmp_eq (tgt := 33) hx hb dX1_areTwoParts_26 (by decide) (fun c_5 => ?_) (fun c_5 => ?_)
          · have h := h.1 c_5
            refine lv_iconst (v := 0) hx hb dX1_areTwoParts_33 (by decide) ?_
            exact W.zret (v := 0) hx hb hr (by decide) (fun t ht hW => ⟨⟨0, (), rfl, h, by rw [ht]; exact hP, va_K.moved hW.alike hK, hD⟩, hS.F ht⟩) hS.2.2 dX1_areTwoParts_34
          · have h := h.2 c_5
            refine lv_iconst (v := 1) hx hb dX1_areTwoParts_29 (by decide) ?_
            refine lv_goto (tgt := 34) hx hb dX1_areTwoParts_30 (by decide) ?_
            exact W.zret (v := 1) hx hb hr (by decide) (fun t ht hW => ⟨⟨1, (), rfl, h, by rw [ht]; exact hP, va_K.moved hW.alike hK, hD⟩, hS.F ht⟩) hS.2.2 dX1_areTwoParts_34
def wp_X1_clear (post : (Int32 × Int32) → Prop) : Prop :=
    post (0, 0)
set_option maxHeartbeats 4000000 in
set_option maxRecDepth 100000 in
theorem met_X1_clear (l : Launch) (D : va_G) (cs : Nat → ClassId) (ev : Nat → Nat → Nat) (sz0 : Nat) (adP : Nat → Nat) (kdP : Nat → Int32) (grP : Nat → Int64) (cvP : Nat → Int32) (brP : Nat → Int32) (hzP : Nat → Int32) (fmP : Nat → Int32) (dmP : Nat → Int32) (e1P : Nat → Int32) (e2P : Nat → Int32) (fkP : Nat → Int32) (pnP : Int32) (fnP : Int32) (post : (Int32 × Int32) → Prop) (h : wp_X1_clear  post) : Met l yX1_clear wsX1_clear ({ frames := 0, cells := 0, slots := 0, locals := 0 }) (va_Pc [.ref (adP 0)] (mPre D cs ev (sh_P cs adP kdP grP cvP brP hzP fmP dmP e1P e2P fkP pnP fnP) sz0)) (va_Qv post (fun u t => match u with | (pnP', fnP') => mAt D cs (va_A (sh_P cs adP kdP grP cvP brP hzP fmP dmP e1P e2P fkP pnP fnP) sz0) (sh_P cs adP kdP grP cvP brP hzP fmP dmP e1P e2P fkP pnP' fnP') t) (va_A (sh_P cs adP kdP grP cvP brP hzP fmP dmP e1P e2P fkP pnP fnP) sz0)) 0 0 (va_A (sh_P cs adP kdP grP cvP brP hzP fmP dmP e1P e2P fkP pnP fnP) sz0) := by
  refine Met.ofW (cc := cX1_clear) (maxL := 1) (ret := none) (by decide) rfl ?_
  intro p e s m args below meth c s₁ B hml hv
  obtain ⟨rfl, hsz, hP, hK, hD0, hE⟩ := hv
  have hx := B.exec
  have hb := B.bytes
  have hr := B.returns
  have hts := atoms_spec (ws := wsX1_clear) B.pre
  have hown : s.vm.findClass RX1 = some m.cls := findClass_of_methodNamed B.named
  have hlocks := B.notSynchronized
  subst hsz
  have hD := hD0.self (sz := s.heap.size)
  generalize hAe : va_A (sh_P cs adP kdP grP cvP brP hzP fmP dmP e1P e2P fkP pnP fnP) s.heap.size = A at hD hE ⊢
  have hA : ∀ q : Nat, s.heap.size ≤ q → A q := fun q h => by rw [← hAe]; exact Or.inr h
  have hS : va_S A s.heap s.heap [] := va_S.rf
  have hl := lv_entry ([.ref (adP 0)]) (n := 1) (Nat.le_of_ble_eq_true rfl)
  rw [lg_entry_eq]
  generalize (lg_sl ([.ref (adP 0)]) ++ List.replicate (1 - (lg_sl ([.ref (adP 0)])).length) Slot.unset).toArray = ls at hl ⊢
  have hl : lv_has ls 1 [(0, .ref (adP 0))] := hl
  refine lv_aload_n hx hb dX1_clear_0 rfl (lv_at hl 0 rfl) ?_
  refine lv_iconst (v := 0) hx hb dX1_clear_1 (by decide) ?_
  refine va_put (D := D) (ci := 1) (v := .int 0) (ty := .int) (C := RX1) (T := TX1) (N := 12) hx hb hts (by decide +kernel) tyX1 tyX1_ok nmX1 hown hK hP hD hS 0 rfl rfl 10 (by decide) (hts (.fieldLink RX1 43 "PartGraphs$Product" "partCount" "I") (by decide +kernel)) (fun _ h9 => h9) rfl (by decide +kernel) rfl rfl (Nat.le_of_ble_eq_true rfl) dX1_clear_2 (fun H locs hP hD hS => ?_)
  have hP : va_P D vwCl (sh_P cs adP kdP grP cvP brP hzP fmP dmP e1P e2P fkP 0 fnP) H := hP
  have hD : va_D A (sh_P cs adP kdP grP cvP brP hzP fmP dmP e1P e2P fkP 0 fnP) := hD
  refine lv_aload_n hx hb dX1_clear_5 rfl (lv_at hl 0 rfl) ?_
  refine lv_iconst (v := 0) hx hb dX1_clear_6 (by decide) ?_
  refine va_put (D := D) (ci := 1) (v := .int 0) (ty := .int) (C := RX1) (T := TX1) (N := 12) hx hb hts (by decide +kernel) tyX1 tyX1_ok nmX1 hown hK hP hD hS 0 rfl rfl 11 (by decide) (hts (.fieldLink RX1 47 "PartGraphs$Product" "fasteningCount" "I") (by decide +kernel)) (fun _ h9 => h9) rfl (by decide +kernel) rfl rfl (Nat.le_of_ble_eq_true rfl) dX1_clear_7 (fun H locs hP hD hS => ?_)
  have hP : va_P D vwCl (sh_P cs adP kdP grP cvP brP hzP fmP dmP e1P e2P fkP 0 0) H := hP
  have hD : va_D A (sh_P cs adP kdP grP cvP brP hzP fmP dmP e1P e2P fkP 0 0) := hD
  exact W.vret hx hb hr (fun t ht hW => ⟨⟨(0, 0), rfl, h, by rw [ht]; exact hP, va_K.moved hW.alike hK, hD⟩, hS.F ht⟩) hS.2.2 dX1_clear_10
def wp_X1_allowsPart (pnP : Int32) (p1 : Int32) (p2 : Int64) (post : Int32 → Unit → Prop) : Prop :=
    ((10 ≤ pnP → post 0 ()) ∧ (¬ 10 ≤ pnP → wp_X5_isBelow p1 10 (fun r_2 _ => ((r_2 = 0 → post 0 ()) ∧ (¬ r_2 = 0 → (((lg_cmp p2 0) < 0 → post 0 ()) ∧ (¬ (lg_cmp p2 0) < 0 → ((0 < (lg_cmp p2 1000000) → post 0 ()) ∧ (¬ 0 < (lg_cmp p2 1000000) → post 1 ())))))))))
set_option maxHeartbeats 4000000 in
set_option maxRecDepth 100000 in
theorem met_X1_allowsPart (l : Launch) (D : va_G) (cs : Nat → ClassId) (ev : Nat → Nat → Nat) (sz0 : Nat) (adP : Nat → Nat) (kdP : Nat → Int32) (grP : Nat → Int64) (cvP : Nat → Int32) (brP : Nat → Int32) (hzP : Nat → Int32) (fmP : Nat → Int32) (dmP : Nat → Int32) (e1P : Nat → Int32) (e2P : Nat → Int32) (fkP : Nat → Int32) (pnP : Int32) (fnP : Int32) (p1 : Int32) (p2 : Int64) (post : Int32 → Unit → Prop) (h : wp_X1_allowsPart pnP p1 p2 post) : Met l yX1_allowsPart wsX1_allowsPart ({ frames := 1, cells := 0, slots := 0, locals := 21 }) (va_Pc [.ref (adP 0), .int p1, .long p2] (mPre D cs ev (sh_P cs adP kdP grP cvP brP hzP fmP dmP e1P e2P fkP pnP fnP) sz0)) (va_Qi post (fun _ t => mAt D cs (va_A (sh_P cs adP kdP grP cvP brP hzP fmP dmP e1P e2P fkP pnP fnP) sz0) (sh_P cs adP kdP grP cvP brP hzP fmP dmP e1P e2P fkP pnP fnP) t) (va_A (sh_P cs adP kdP grP cvP brP hzP fmP dmP e1P e2P fkP pnP fnP) sz0)) 0 0 (va_A (sh_P cs adP kdP grP cvP brP hzP fmP dmP e1P e2P fkP pnP fnP) sz0) := by
  refine Met.ofW (cc := cX1_allowsPart) (maxL := 4) (ret := (some .boolean)) (by decide) rfl ?_
  intro p e s m args below meth c s₁ B hml hv
  obtain ⟨rfl, hsz, hP, hK, hD0, hE⟩ := hv
  have hx := B.exec
  have hb := B.bytes
  have hr := B.returns
  have hts := atoms_spec (ws := wsX1_allowsPart) B.pre
  have hown : s.vm.findClass RX1 = some m.cls := findClass_of_methodNamed B.named
  have hlocks := B.notSynchronized
  subst hsz
  have hD := hD0.self (sz := s.heap.size)
  generalize hAe : va_A (sh_P cs adP kdP grP cvP brP hzP fmP dmP e1P e2P fkP pnP fnP) s.heap.size = A at hD hE ⊢
  have hA : ∀ q : Nat, s.heap.size ≤ q → A q := fun q h => by rw [← hAe]; exact Or.inr h
  have hS : va_S A s.heap s.heap [] := va_S.rf
  have hl := lv_entry ([.ref (adP 0), .int p1, .long p2]) (n := 4) (Nat.le_of_ble_eq_true rfl)
  rw [lg_entry_eq]
  generalize (lg_sl ([.ref (adP 0), .int p1, .long p2]) ++ List.replicate (4 - (lg_sl ([.ref (adP 0), .int p1, .long p2])).length) Slot.unset).toArray = ls at hl ⊢
  have hl : lv_has ls 4 [(0, .ref (adP 0)), (1, .int p1), (2, .long p2)] := hl
  refine lv_aload_n hx hb dX1_allowsPart_0 rfl (lv_at hl 0 rfl) ?_
  refine va_get (D := D) (ci := 1) (v := .int pnP) (C := RX1) (T := TX1) (N := 12) hx hb hts (by decide +kernel) hown hK hP 0 rfl rfl 10 (by decide) (hts (.fieldLink RX1 43 "PartGraphs$Product" "partCount" "I") (by decide +kernel)) (fun _ h9 => h9) rfl dX1_allowsPart_1 ?_
  refine lv_bipush (v := 10) hx hb dX1_allowsPart_4 (by decide) ?_
  refine lv_icmp_ge (tgt := 36) hx hb dX1_allowsPart_6 (by decide) (fun c_1 => ?_) (fun c_1 => ?_)
  · have h := h.1 c_1
    refine lv_iconst (v := 0) hx hb dX1_allowsPart_36 (by decide) ?_
    exact W.zret (v := 0) hx hb hr (by decide) (fun t ht hW => ⟨⟨0, (), rfl, h, by rw [ht]; exact hP, va_K.moved hW.alike hK, hD⟩, hS.F ht⟩) hS.2.2 dX1_allowsPart_37
  · have h := h.2 c_1
    refine lv_iload_n hx hb dX1_allowsPart_9 rfl (lv_at hl 1 rfl) ?_
    refine lv_bipush (v := 10) hx hb dX1_allowsPart_10 (by decide) ?_
    have hFc := va_free (wc := ([] : va_W)) hD hS hA [] rfl
    refine va_calli (va_runSN (As := [.int p1, .int 10]) (rest := []) ⟨hx, hb, hml, hown, hts⟩ (met_X5_isBelow l D cs ev _ p1 10 _ h) ⟨va_cnB 2 hts gX1_allowsPart_X5_isBelow_n50 rfl rfl rfl hE.1.1 (hts (.initialized RX5) (by decide +kernel)) (by decide +kernel) ⟨Nat.le_of_ble_eq_true rfl, Nat.le_of_ble_eq_true rfl⟩, hts (.static yX5_isBelow) (by decide +kernel), trivial⟩ (mPreS hP hD hS hK hE hFc [] (by decide) rfl) rfl rfl hl.1 rfl (lv_room (Nat.le_of_ble_eq_true rfl)) dX1_allowsPart_12 ⟨Nat.le_of_ble_eq_true rfl, Nat.le_of_ble_eq_true rfl⟩) hS (fun q _ h => hFc q h) hFc (fun r_2 u t H1 locs ht hvm hw hB hz1 hk1 hS => ?_)
    have h := hw
    obtain ⟨hP1, hK1, hD1⟩ := hB
    rw [ht] at hP1
    obtain ⟨hP, hD⟩ := mJoin (wr := (sh_P cs adP kdP grP cvP brP hzP fmP dmP e1P e2P fkP pnP fnP)) (w1 := ([] : va_W)) (w' := (sh_P cs adP kdP grP cvP brP hzP fmP dmP e1P e2P fkP pnP fnP)) hP hD [] [0, 1, 2, 3, 4, 5, 6, 7, 8, 9, 10] rfl rfl (by decide) (by decide) hk1 hFc hP1 hD1 [0, 1, 2, 3, 4, 5, 6, 7, 8, 9, 10] (by decide) rfl
    generalize H1 = H at hP hS ⊢
    refine lv_if_eq (tgt := 36) hx hb dX1_allowsPart_15 (by decide) (fun c_3 => ?_) (fun c_3 => ?_)
    · have h := h.1 c_3
      refine lv_iconst (v := 0) hx hb dX1_allowsPart_36 (by decide) ?_
      exact W.zret (v := 0) hx hb hr (by decide) (fun t ht hW => ⟨⟨0, (), rfl, h, by rw [ht]; exact hP, va_K.moved hW.alike hK, hD⟩, hS.F ht⟩) hS.2.2 dX1_allowsPart_37
    · have h := h.2 c_3
      refine lv_lload_n hx hb dX1_allowsPart_18 rfl (lv_at hl 2 rfl) ?_
      refine lv_lconst (v := 0) hx hb dX1_allowsPart_19 (by decide) ?_
      refine W.lcmp hx hb dX1_allowsPart_20 ?_
      refine lv_if_lt (tgt := 36) hx hb dX1_allowsPart_21 (by decide) (fun c_4 => ?_) (fun c_4 => ?_)
      · have h := h.1 c_4
        refine lv_iconst (v := 0) hx hb dX1_allowsPart_36 (by decide) ?_
        exact W.zret (v := 0) hx hb hr (by decide) (fun t ht hW => ⟨⟨0, (), rfl, h, by rw [ht]; exact hP, va_K.moved hW.alike hK, hD⟩, hS.F ht⟩) hS.2.2 dX1_allowsPart_37
      · have h := h.2 c_4
        refine lv_lload_n hx hb dX1_allowsPart_24 rfl (lv_at hl 2 rfl) ?_
        refine lv_ldc2 (v := 1000000) hx hb hown (hts (.constantLong RX1 54 1000000) (by decide +kernel)) dX1_allowsPart_25 ?_
        refine W.lcmp hx hb dX1_allowsPart_28 ?_
        refine lv_if_gt (tgt := 36) hx hb dX1_allowsPart_29 (by decide) (fun c_5 => ?_) (fun c_5 => ?_)
        · have h := h.1 c_5
          refine lv_iconst (v := 0) hx hb dX1_allowsPart_36 (by decide) ?_
          exact W.zret (v := 0) hx hb hr (by decide) (fun t ht hW => ⟨⟨0, (), rfl, h, by rw [ht]; exact hP, va_K.moved hW.alike hK, hD⟩, hS.F ht⟩) hS.2.2 dX1_allowsPart_37
        · have h := h.2 c_5
          refine lv_iconst (v := 1) hx hb dX1_allowsPart_32 (by decide) ?_
          refine lv_goto (tgt := 37) hx hb dX1_allowsPart_33 (by decide) ?_
          exact W.zret (v := 1) hx hb hr (by decide) (fun t ht hW => ⟨⟨1, (), rfl, h, by rw [ht]; exact hP, va_K.moved hW.alike hK, hD⟩, hS.F ht⟩) hS.2.2 dX1_allowsPart_37
def wp_X1_addPart (kdP : Nat → Int32) (grP : Nat → Int64) (cvP : Nat → Int32) (brP : Nat → Int32) (hzP : Nat → Int32) (fmP : Nat → Int32) (dmP : Nat → Int32) (pnP : Int32) (p1 : Int32) (p2 : Int64) (post : Int32 → ((Nat → Int32) × (Nat → Int64) × (Nat → Int32) × (Nat → Int32) × (Nat → Int32) × (Nat → Int32) × (Nat → Int32) × Int32) → Prop) : Prop :=
    ∀ (A44 : Int32 → Int32 → (Nat → Int32) → (Nat → Int64) → (Nat → Int32) → (Nat → Int32) → (Nat → Int32) → (Nat → Int32) → (Nat → Int32) → Int32 → Prop),
    (∀ (v4 : Int32) (v5 : Int32) (kdP : Nat → Int32) (grP : Nat → Int64) (cvP : Nat → Int32) (brP : Nat → Int32) (hzP : Nat → Int32) (fmP : Nat → Int32) (dmP : Nat → Int32) (pnP : Int32), ((6 ≤ v5 → (vp_in v4 10 ∧ (vp_in v4 10 ∧ (vp_in v4 10 ∧ post v4 (kdP, grP, cvP, brP, upd hzP v4.toNatClampNeg 0, upd fmP v4.toNatClampNeg (-1), upd dmP v4.toNatClampNeg 0, pnP + 1))))) ∧ (¬ 6 ≤ v5 → wp_X1_barIndex v4 v5 (fun r_4 _ => (vp_in r_4 60 ∧ A44 v4 (v5 + 1) kdP grP cvP (upd brP r_4.toNatClampNeg 0) hzP fmP dmP pnP)))) → A44 v4 v5 kdP grP cvP brP hzP fmP dmP pnP) →
    wp_X1_allowsPart pnP p1 p2 (fun r_1 _ => ((r_1 = 0 → post (-1) (kdP, grP, cvP, brP, hzP, fmP, dmP, pnP)) ∧ (¬ r_1 = 0 → (vp_in pnP 10 ∧ (vp_in pnP 10 ∧ (vp_in pnP 10 ∧ A44 pnP 0 (upd kdP pnP.toNatClampNeg p1) (vp_updL grP pnP.toNatClampNeg p2) (upd cvP pnP.toNatClampNeg 0) brP hzP fmP dmP pnP))))))
set_option maxHeartbeats 4000000 in
set_option maxRecDepth 100000 in
theorem met_X1_addPart (l : Launch) (D : va_G) (cs : Nat → ClassId) (ev : Nat → Nat → Nat) (sz0 : Nat) (adP : Nat → Nat) (kdP : Nat → Int32) (grP : Nat → Int64) (cvP : Nat → Int32) (brP : Nat → Int32) (hzP : Nat → Int32) (fmP : Nat → Int32) (dmP : Nat → Int32) (e1P : Nat → Int32) (e2P : Nat → Int32) (fkP : Nat → Int32) (pnP : Int32) (fnP : Int32) (p1 : Int32) (p2 : Int64) (post : Int32 → ((Nat → Int32) × (Nat → Int64) × (Nat → Int32) × (Nat → Int32) × (Nat → Int32) × (Nat → Int32) × (Nat → Int32) × Int32) → Prop) (h : wp_X1_addPart kdP grP cvP brP hzP fmP dmP pnP p1 p2 post) : Met l yX1_addPart wsX1_addPart ({ frames := 2, cells := 0, slots := 0, locals := 44 }) (va_Pc [.ref (adP 0), .int p1, .long p2] (mPre D cs ev (sh_P cs adP kdP grP cvP brP hzP fmP dmP e1P e2P fkP pnP fnP) sz0)) (va_Qi post (fun u t => match u with | (kdP', grP', cvP', brP', hzP', fmP', dmP', pnP') => mAt D cs (va_A (sh_P cs adP kdP grP cvP brP hzP fmP dmP e1P e2P fkP pnP fnP) sz0) (sh_P cs adP kdP' grP' cvP' brP' hzP' fmP' dmP' e1P e2P fkP pnP' fnP) t) (va_A (sh_P cs adP kdP grP cvP brP hzP fmP dmP e1P e2P fkP pnP fnP) sz0)) 0 0 (va_A (sh_P cs adP kdP grP cvP brP hzP fmP dmP e1P e2P fkP pnP fnP) sz0) := by
  refine Met.ofW (cc := cX1_addPart) (maxL := 6) (ret := (some .int)) (by decide) rfl ?_
  intro p e s m args below meth c s₁ B hml hv
  obtain ⟨rfl, hsz, hP, hK, hD0, hE⟩ := hv
  have hx := B.exec
  have hb := B.bytes
  have hr := B.returns
  have hts := atoms_spec (ws := wsX1_addPart) B.pre
  have hown : s.vm.findClass RX1 = some m.cls := findClass_of_methodNamed B.named
  have hlocks := B.notSynchronized
  subst hsz
  have hD := hD0.self (sz := s.heap.size)
  generalize hAe : va_A (sh_P cs adP kdP grP cvP brP hzP fmP dmP e1P e2P fkP pnP fnP) s.heap.size = A at hD hE ⊢
  have hA : ∀ q : Nat, s.heap.size ≤ q → A q := fun q h => by rw [← hAe]; exact Or.inr h
  have hS : va_S A s.heap s.heap [] := va_S.rf
  have hl := lv_entry ([.ref (adP 0), .int p1, .long p2]) (n := 6) (Nat.le_of_ble_eq_true rfl)
  rw [lg_entry_eq]
  generalize (lg_sl ([.ref (adP 0), .int p1, .long p2]) ++ List.replicate (6 - (lg_sl ([.ref (adP 0), .int p1, .long p2])).length) Slot.unset).toArray = ls at hl ⊢
  have hl : lv_has ls 6 [(0, .ref (adP 0)), (1, .int p1), (2, .long p2)] := hl
  obtain ⟨A44, hA44⟩ : ∃ Q : Int32 → Int32 → (Nat → Int32) → (Nat → Int64) → (Nat → Int32) → (Nat → Int32) → (Nat → Int32) → (Nat → Int32) → (Nat → Int32) → Int32 → Prop, Q = (fun v4 v5 kdP grP cvP brP hzP fmP dmP pnP => ∀ (H : Heap) (locs : List Loc), va_P D vwCl (sh_P cs adP kdP grP cvP brP hzP fmP dmP e1P e2P fkP pnP fnP) H → va_D A (sh_P cs adP kdP grP cvP brP hzP fmP dmP e1P e2P fkP pnP fnP) → va_S A s.heap H locs → ∀ ls : Array Slot, lv_has ls 6 [(0, .ref (adP 0)), (4, .int v4), (5, .int v5)] → W p l e (headSpec wsX1_addPart ({ frames := 2, cells := 0, slots := 0, locals := 44 })).room s m ([.ref (adP 0), .int p1, .long p2] : List Value).toArray below meth c H locs 0 0 (MQ below (va_Qi post (fun u t => match u with | (kdP', grP', cvP', brP', hzP', fmP', dmP', pnP') => mAt D cs (A) (sh_P cs adP kdP' grP' cvP' brP' hzP' fmP' dmP' e1P e2P fkP pnP' fnP) t) A) ([.ref (adP 0), .int p1, .long p2] : List Value).toArray s 0 0 A) (F0 m 44 ls [])) := ⟨_, rfl⟩
  have s44 : ∀ (v4 : Int32) (v5 : Int32) (kdP : Nat → Int32) (grP : Nat → Int64) (cvP : Nat → Int32) (brP : Nat → Int32) (hzP : Nat → Int32) (fmP : Nat → Int32) (dmP : Nat → Int32) (pnP : Int32), ((6 ≤ v5 → (vp_in v4 10 ∧ (vp_in v4 10 ∧ (vp_in v4 10 ∧ post v4 (kdP, grP, cvP, brP, upd hzP v4.toNatClampNeg 0, upd fmP v4.toNatClampNeg (-1), upd dmP v4.toNatClampNeg 0, pnP + 1))))) ∧ (¬ 6 ≤ v5 → wp_X1_barIndex v4 v5 (fun r_4 _ => (vp_in r_4 60 ∧ A44 v4 (v5 + 1) kdP grP cvP (upd brP r_4.toNatClampNeg 0) hzP fmP dmP pnP)))) → A44 v4 v5 kdP grP cvP brP hzP fmP dmP pnP := by
    intro v4 v5 kdP grP cvP brP hzP fmP dmP pnP h
    rw [hA44]
    intro H locs hP hD hS ls hl
    refine lv_iload hx hb dX1_addPart_44 (lv_at hl 2 rfl) ?_
    refine lv_bipush (v := 6) hx hb dX1_addPart_46 (by decide) ?_
    refine lv_icmp_ge (tgt := 70) hx hb dX1_addPart_48 (by decide) (fun c_3 => ?_) (fun c_3 => ?_)
    · have h := h.1 c_3
      refine lv_aload_n hx hb dX1_addPart_70 rfl (lv_at hl 0 rfl) ?_
      refine va_get (D := D) (ci := 1) (v := .ref (adP 5)) (C := RX1) (T := TX1) (N := 12) hx hb hts (by decide +kernel) hown hK hP 0 rfl rfl 4 (by decide) (hts (.fieldLink RX1 25 "PartGraphs$Product" "hazards" "[I") (by decide +kernel)) (fun _ h9 => h9) rfl dX1_addPart_71 ?_
      refine lv_iload hx hb dX1_addPart_74 (lv_at hl 1 rfl) ?_
      refine lv_iconst (v := 0) hx hb dX1_addPart_76 (by decide) ?_
      have hin := h.1
      have h := h.2
      refine va_iast (D := D) (cl := vwCl) hx hb hK hP hD hS 5 0 rfl rfl hin dX1_addPart_77 (fun H locs hP hD hS => ?_)
      have hP : va_P D vwCl (sh_P cs adP kdP grP cvP brP (upd hzP v4.toNatClampNeg 0) fmP dmP e1P e2P fkP pnP fnP) H := hP
      have hD : va_D A (sh_P cs adP kdP grP cvP brP (upd hzP v4.toNatClampNeg 0) fmP dmP e1P e2P fkP pnP fnP) := hD
      refine lv_aload_n hx hb dX1_addPart_78 rfl (lv_at hl 0 rfl) ?_
      refine va_get (D := D) (ci := 1) (v := .ref (adP 6)) (C := RX1) (T := TX1) (N := 12) hx hb hts (by decide +kernel) hown hK hP 0 rfl rfl 5 (by decide) (hts (.fieldLink RX1 28 "PartGraphs$Product" "families" "[I") (by decide +kernel)) (fun _ h9 => h9) rfl dX1_addPart_79 ?_
      refine lv_iload hx hb dX1_addPart_82 (lv_at hl 1 rfl) ?_
      refine lv_iconst (v := (-1)) hx hb dX1_addPart_84 (by decide) ?_
      have hin := h.1
      have h := h.2
      refine va_iast (D := D) (cl := vwCl) hx hb hK hP hD hS 6 0 rfl rfl hin dX1_addPart_85 (fun H locs hP hD hS => ?_)
      have hP : va_P D vwCl (sh_P cs adP kdP grP cvP brP (upd hzP v4.toNatClampNeg 0) (upd fmP v4.toNatClampNeg (-1)) dmP e1P e2P fkP pnP fnP) H := hP
      have hD : va_D A (sh_P cs adP kdP grP cvP brP (upd hzP v4.toNatClampNeg 0) (upd fmP v4.toNatClampNeg (-1)) dmP e1P e2P fkP pnP fnP) := hD
      refine lv_aload_n hx hb dX1_addPart_86 rfl (lv_at hl 0 rfl) ?_
      refine va_get (D := D) (ci := 1) (v := .ref (adP 7)) (C := RX1) (T := TX1) (N := 12) hx hb hts (by decide +kernel) hown hK hP 0 rfl rfl 6 (by decide) (hts (.fieldLink RX1 31 "PartGraphs$Product" "damages" "[I") (by decide +kernel)) (fun _ h9 => h9) rfl dX1_addPart_87 ?_
      refine lv_iload hx hb dX1_addPart_90 (lv_at hl 1 rfl) ?_
      refine lv_iconst (v := 0) hx hb dX1_addPart_92 (by decide) ?_
      have hin := h.1
      have h := h.2
      refine va_iast (D := D) (cl := vwCl) hx hb hK hP hD hS 7 0 rfl rfl hin dX1_addPart_93 (fun H locs hP hD hS => ?_)
      have hP : va_P D vwCl (sh_P cs adP kdP grP cvP brP (upd hzP v4.toNatClampNeg 0) (upd fmP v4.toNatClampNeg (-1)) (upd dmP v4.toNatClampNeg 0) e1P e2P fkP pnP fnP) H := hP
      have hD : va_D A (sh_P cs adP kdP grP cvP brP (upd hzP v4.toNatClampNeg 0) (upd fmP v4.toNatClampNeg (-1)) (upd dmP v4.toNatClampNeg 0) e1P e2P fkP pnP fnP) := hD
      refine lv_aload_n hx hb dX1_addPart_94 rfl (lv_at hl 0 rfl) ?_
      refine lv_dup hx hb dX1_addPart_95 rfl ?_
      refine va_get (D := D) (ci := 1) (v := .int pnP) (C := RX1) (T := TX1) (N := 12) hx hb hts (by decide +kernel) hown hK hP 0 rfl rfl 10 (by decide) (hts (.fieldLink RX1 43 "PartGraphs$Product" "partCount" "I") (by decide +kernel)) (fun _ h9 => h9) rfl dX1_addPart_96 ?_
      refine lv_iconst (v := 1) hx hb dX1_addPart_99 (by decide) ?_
      refine lv_iadd hx hb dX1_addPart_100 ?_
      refine va_put (D := D) (ci := 1) (v := .int (pnP + 1)) (ty := .int) (C := RX1) (T := TX1) (N := 12) hx hb hts (by decide +kernel) tyX1 tyX1_ok nmX1 hown hK hP hD hS 0 rfl rfl 10 (by decide) (hts (.fieldLink RX1 43 "PartGraphs$Product" "partCount" "I") (by decide +kernel)) (fun _ h9 => h9) rfl (by decide +kernel) rfl rfl (Nat.le_of_ble_eq_true rfl) dX1_addPart_101 (fun H locs hP hD hS => ?_)
      have hP : va_P D vwCl (sh_P cs adP kdP grP cvP brP (upd hzP v4.toNatClampNeg 0) (upd fmP v4.toNatClampNeg (-1)) (upd dmP v4.toNatClampNeg 0) e1P e2P fkP (pnP + 1) fnP) H := hP
      have hD : va_D A (sh_P cs adP kdP grP cvP brP (upd hzP v4.toNatClampNeg 0) (upd fmP v4.toNatClampNeg (-1)) (upd dmP v4.toNatClampNeg 0) e1P e2P fkP (pnP + 1) fnP) := hD
      refine lv_iload hx hb dX1_addPart_104 (lv_at hl 1 rfl) ?_
      exact W.iret (v := v4) hx hb hr (fun t ht hW => ⟨⟨v4, (kdP, grP, cvP, brP, upd hzP v4.toNatClampNeg 0, upd fmP v4.toNatClampNeg (-1), upd dmP v4.toNatClampNeg 0, pnP + 1), rfl, h, by rw [ht]; exact hP, va_K.moved hW.alike hK, hD⟩, hS.F ht⟩) hS.2.2 dX1_addPart_106
    · have h := h.2 c_3
      refine lv_aload_n hx hb dX1_addPart_51 rfl (lv_at hl 0 rfl) ?_
      refine va_get (D := D) (ci := 1) (v := .ref (adP 4)) (C := RX1) (T := TX1) (N := 12) hx hb hts (by decide +kernel) hown hK hP 0 rfl rfl 3 (by decide) (hts (.fieldLink RX1 22 "PartGraphs$Product" "bars" "[I") (by decide +kernel)) (fun _ h9 => h9) rfl dX1_addPart_52 ?_
      refine lv_iload hx hb dX1_addPart_55 (lv_at hl 1 rfl) ?_
      refine lv_iload hx hb dX1_addPart_57 (lv_at hl 2 rfl) ?_
      have hFc := va_free (wc := ([] : va_W)) hD hS hA [] rfl
      refine va_calli (va_runS (As := [.int v4, .int v5]) (rest := [.ref (adP 4)]) ⟨hx, hb, hml, hown, hts⟩ (met_X1_barIndex l D cs ev _ v4 v5 _ h) (va_cwS 2 hts gX1_addPart_X1_barIndex rfl rfl rfl (by decide +kernel) ⟨Nat.le_of_ble_eq_true rfl, Nat.le_of_ble_eq_true rfl⟩) (mPreS hP hD hS hK hE hFc [] (by decide) rfl) rfl rfl hl.1 rfl (lv_room (Nat.le_of_ble_eq_true rfl)) dX1_addPart_59 ⟨Nat.le_of_ble_eq_true rfl, Nat.le_of_ble_eq_true rfl⟩) hS (fun q _ h => hFc q h) hFc (fun r_4 u t H1 locs ht hvm hw hB hz1 hk1 hS => ?_)
      have h := hw
      obtain ⟨hP1, hK1, hD1⟩ := hB
      rw [ht] at hP1
      obtain ⟨hP, hD⟩ := mJoin (wr := (sh_P cs adP kdP grP cvP brP hzP fmP dmP e1P e2P fkP pnP fnP)) (w1 := ([] : va_W)) (w' := (sh_P cs adP kdP grP cvP brP hzP fmP dmP e1P e2P fkP pnP fnP)) hP hD [] [0, 1, 2, 3, 4, 5, 6, 7, 8, 9, 10] rfl rfl (by decide) (by decide) hk1 hFc hP1 hD1 [0, 1, 2, 3, 4, 5, 6, 7, 8, 9, 10] (by decide) rfl
      generalize H1 = H at hP hS ⊢
      refine lv_iconst (v := 0) hx hb dX1_addPart_62 (by decide) ?_
      have hin := h.1
      have h := h.2
      refine va_iast (D := D) (cl := vwCl) hx hb hK hP hD hS 4 0 rfl rfl hin dX1_addPart_63 (fun H locs hP hD hS => ?_)
      have hP : va_P D vwCl (sh_P cs adP kdP grP cvP (upd brP r_4.toNatClampNeg 0) hzP fmP dmP e1P e2P fkP pnP fnP) H := hP
      have hD : va_D A (sh_P cs adP kdP grP cvP (upd brP r_4.toNatClampNeg 0) hzP fmP dmP e1P e2P fkP pnP fnP) := hD
      refine lv_iinc (v := v5 + 1) (lv' := [(5, .int (v5 + 1)), (0, .ref (adP 0)), (4, .int v4)]) hx hb dX1_addPart_64 hl (k := 2) rfl rfl (by decide) rfl (fun ls hl => ?_)
      refine lv_goto (tgt := 44) hx hb dX1_addPart_67 (by decide) ?_
      rw [hA44] at h
      exact h _ _ hP hD hS ls (lv_sub hl [1, 2, 0] rfl)
  have h := h A44 s44
  refine lv_aload_n hx hb dX1_addPart_0 rfl (lv_at hl 0 rfl) ?_
  refine lv_iload_n hx hb dX1_addPart_1 rfl (lv_at hl 1 rfl) ?_
  refine lv_lload_n hx hb dX1_addPart_2 rfl (lv_at hl 2 rfl) ?_
  have hFc := va_free (wc := (sh_P cs adP kdP grP cvP brP hzP fmP dmP e1P e2P fkP pnP fnP)) hD hS hA [0, 1, 2, 3, 4, 5, 6, 7, 8, 9, 10] rfl
  refine va_calli (va_runV (As := [.int p1, .long p2]) (rest := []) ⟨hx, hb, hml, hown, hts⟩ (met_X1_allowsPart l D cs ev _ adP kdP grP cvP brP hzP fmP dmP e1P e2P fkP pnP fnP p1 p2 _ h) (cwV 2 hts gX1_addPart_X1_allowsPart rfl rfl rfl (by decide +kernel) ⟨Nat.le_of_ble_eq_true rfl, Nat.le_of_ble_eq_true rfl⟩) (mPreV (va_recv hK hP (ci := 1) (q0 := 0) rfl rfl) hP hD hS hK hE hFc [0, 1, 2, 3, 4, 5, 6, 7, 8, 9, 10] (by decide) rfl) rfl rfl hl.1 rfl (lv_room (Nat.le_of_ble_eq_true rfl)) dX1_addPart_3 ⟨Nat.le_of_ble_eq_true rfl, Nat.le_of_ble_eq_true rfl⟩) hS (fun q _ h => hFc q h) hFc (fun r_1 u t H1 locs ht hvm hw hB hz1 hk1 hS => ?_)
  have h := hw
  obtain ⟨hP1, hK1, hD1⟩ := hB
  rw [ht] at hP1
  obtain ⟨hP, hD⟩ := mJoin (wr := ([] : va_W)) (w1 := (sh_P cs adP kdP grP cvP brP hzP fmP dmP e1P e2P fkP pnP fnP)) (w' := (sh_P cs adP kdP grP cvP brP hzP fmP dmP e1P e2P fkP pnP fnP)) hP hD [0, 1, 2, 3, 4, 5, 6, 7, 8, 9, 10] [] rfl rfl (by decide) (by decide) hk1 hFc hP1 hD1 [0, 1, 2, 3, 4, 5, 6, 7, 8, 9, 10] (by decide) rfl
  generalize H1 = H at hP hS ⊢
  refine lv_if_ne (tgt := 11) hx hb dX1_addPart_6 (by decide) (fun c_2 => ?_) (fun c_2 => ?_)
  · have h := h.2 c_2
    refine lv_aload_n hx hb dX1_addPart_11 rfl (lv_at hl 0 rfl) ?_
    refine va_get (D := D) (ci := 1) (v := .int pnP) (C := RX1) (T := TX1) (N := 12) hx hb hts (by decide +kernel) hown hK hP 0 rfl rfl 10 (by decide) (hts (.fieldLink RX1 43 "PartGraphs$Product" "partCount" "I") (by decide +kernel)) (fun _ h9 => h9) rfl dX1_addPart_12 ?_
    refine lv_istore (lv' := [(4, .int pnP), (0, .ref (adP 0)), (1, .int p1), (2, .long p2)]) hx hb dX1_addPart_15 hl (by decide) rfl (fun ls hl => ?_)
    refine lv_aload_n hx hb dX1_addPart_17 rfl (lv_at hl 1 rfl) ?_
    refine va_get (D := D) (ci := 1) (v := .ref (adP 1)) (C := RX1) (T := TX1) (N := 12) hx hb hts (by decide +kernel) hown hK hP 0 rfl rfl 0 (by decide) (hts (.fieldLink RX1 9 "PartGraphs$Product" "kinds" "[I") (by decide +kernel)) (fun _ h9 => h9) rfl dX1_addPart_18 ?_
    refine lv_iload hx hb dX1_addPart_21 (lv_at hl 0 rfl) ?_
    refine lv_iload_n hx hb dX1_addPart_23 rfl (lv_at hl 2 rfl) ?_
    have hin := h.1
    have h := h.2
    refine va_iast (D := D) (cl := vwCl) hx hb hK hP hD hS 1 0 rfl rfl hin dX1_addPart_24 (fun H locs hP hD hS => ?_)
    have hP : va_P D vwCl (sh_P cs adP (upd kdP pnP.toNatClampNeg p1) grP cvP brP hzP fmP dmP e1P e2P fkP pnP fnP) H := hP
    have hD : va_D A (sh_P cs adP (upd kdP pnP.toNatClampNeg p1) grP cvP brP hzP fmP dmP e1P e2P fkP pnP fnP) := hD
    refine lv_aload_n hx hb dX1_addPart_25 rfl (lv_at hl 1 rfl) ?_
    refine va_get (D := D) (ci := 1) (v := .ref (adP 2)) (C := RX1) (T := TX1) (N := 12) hx hb hts (by decide +kernel) hown hK hP 0 rfl rfl 1 (by decide) (hts (.fieldLink RX1 15 "PartGraphs$Product" "grams" "[J") (by decide +kernel)) (fun _ h9 => h9) rfl dX1_addPart_26 ?_
    refine lv_iload hx hb dX1_addPart_29 (lv_at hl 0 rfl) ?_
    refine lv_lload_n hx hb dX1_addPart_31 rfl (lv_at hl 3 rfl) ?_
    have hin := h.1
    have h := h.2
    refine va_last (D := D) (cl := vwCl) hx hb hK hP hD hS 2 1 rfl rfl hin dX1_addPart_32 (fun H locs hP hD hS => ?_)
    have hP : va_P D vwCl (sh_P cs adP (upd kdP pnP.toNatClampNeg p1) (vp_updL grP pnP.toNatClampNeg p2) cvP brP hzP fmP dmP e1P e2P fkP pnP fnP) H := hP
    have hD : va_D A (sh_P cs adP (upd kdP pnP.toNatClampNeg p1) (vp_updL grP pnP.toNatClampNeg p2) cvP brP hzP fmP dmP e1P e2P fkP pnP fnP) := hD
    refine lv_aload_n hx hb dX1_addPart_33 rfl (lv_at hl 1 rfl) ?_
    refine va_get (D := D) (ci := 1) (v := .ref (adP 3)) (C := RX1) (T := TX1) (N := 12) hx hb hts (by decide +kernel) hown hK hP 0 rfl rfl 2 (by decide) (hts (.fieldLink RX1 19 "PartGraphs$Product" "coverers" "[I") (by decide +kernel)) (fun _ h9 => h9) rfl dX1_addPart_34 ?_
    refine lv_iload hx hb dX1_addPart_37 (lv_at hl 0 rfl) ?_
    refine lv_iconst (v := 0) hx hb dX1_addPart_39 (by decide) ?_
    have hin := h.1
    have h := h.2
    refine va_iast (D := D) (cl := vwCl) hx hb hK hP hD hS 3 0 rfl rfl hin dX1_addPart_40 (fun H locs hP hD hS => ?_)
    have hP : va_P D vwCl (sh_P cs adP (upd kdP pnP.toNatClampNeg p1) (vp_updL grP pnP.toNatClampNeg p2) (upd cvP pnP.toNatClampNeg 0) brP hzP fmP dmP e1P e2P fkP pnP fnP) H := hP
    have hD : va_D A (sh_P cs adP (upd kdP pnP.toNatClampNeg p1) (vp_updL grP pnP.toNatClampNeg p2) (upd cvP pnP.toNatClampNeg 0) brP hzP fmP dmP e1P e2P fkP pnP fnP) := hD
    refine lv_iconst (v := 0) hx hb dX1_addPart_41 (by decide) ?_
    refine lv_istore (lv' := [(5, .int 0), (4, .int pnP), (0, .ref (adP 0)), (1, .int p1), (2, .long p2)]) hx hb dX1_addPart_42 hl (by decide) rfl (fun ls hl => ?_)
    rw [hA44] at h
    exact h _ _ hP hD hS ls (lv_sub hl [2, 1, 0] rfl)
  · have h := h.1 c_2
    refine lv_iconst (v := (-1)) hx hb dX1_addPart_9 (by decide) ?_
    exact W.iret (v := (-1)) hx hb hr (fun t ht hW => ⟨⟨(-1), (kdP, grP, cvP, brP, hzP, fmP, dmP, pnP), rfl, h, by rw [ht]; exact hP, va_K.moved hW.alike hK, hD⟩, hS.F ht⟩) hS.2.2 dX1_addPart_10
def wp_X1_allowsFastening (pnP : Int32) (fnP : Int32) (p1 : Int32) (p2 : Int32) (p3 : Int32) (post : Int32 → Unit → Prop) : Prop :=
    ((20 ≤ fnP → post 0 ()) ∧ (¬ 20 ≤ fnP → wp_X1_areTwoParts pnP p1 p2 (fun r_2 _ => ((r_2 = 0 → post 0 ()) ∧ (¬ r_2 = 0 → wp_X5_isBelow p3 4 (fun r_4 _ => ((r_4 = 0 → post 0 ()) ∧ (¬ r_4 = 0 → post 1 ()))))))))
set_option maxHeartbeats 4000000 in
set_option maxRecDepth 100000 in
theorem met_X1_allowsFastening (l : Launch) (D : va_G) (cs : Nat → ClassId) (ev : Nat → Nat → Nat) (sz0 : Nat) (adP : Nat → Nat) (kdP : Nat → Int32) (grP : Nat → Int64) (cvP : Nat → Int32) (brP : Nat → Int32) (hzP : Nat → Int32) (fmP : Nat → Int32) (dmP : Nat → Int32) (e1P : Nat → Int32) (e2P : Nat → Int32) (fkP : Nat → Int32) (pnP : Int32) (fnP : Int32) (p1 : Int32) (p2 : Int32) (p3 : Int32) (post : Int32 → Unit → Prop) (h : wp_X1_allowsFastening pnP fnP p1 p2 p3 post) : Met l yX1_allowsFastening wsX1_allowsFastening ({ frames := 1, cells := 0, slots := 0, locals := 22 }) (va_Pc [.ref (adP 0), .int p1, .int p2, .int p3] (mPre D cs ev (sh_P cs adP kdP grP cvP brP hzP fmP dmP e1P e2P fkP pnP fnP) sz0)) (va_Qi post (fun _ t => mAt D cs (va_A (sh_P cs adP kdP grP cvP brP hzP fmP dmP e1P e2P fkP pnP fnP) sz0) (sh_P cs adP kdP grP cvP brP hzP fmP dmP e1P e2P fkP pnP fnP) t) (va_A (sh_P cs adP kdP grP cvP brP hzP fmP dmP e1P e2P fkP pnP fnP) sz0)) 0 0 (va_A (sh_P cs adP kdP grP cvP brP hzP fmP dmP e1P e2P fkP pnP fnP) sz0) := by
  refine Met.ofW (cc := cX1_allowsFastening) (maxL := 4) (ret := (some .boolean)) (by decide) rfl ?_
  intro p e s m args below meth c s₁ B hml hv
  obtain ⟨rfl, hsz, hP, hK, hD0, hE⟩ := hv
  have hx := B.exec
  have hb := B.bytes
  have hr := B.returns
  have hts := atoms_spec (ws := wsX1_allowsFastening) B.pre
  have hown : s.vm.findClass RX1 = some m.cls := findClass_of_methodNamed B.named
  have hlocks := B.notSynchronized
  subst hsz
  have hD := hD0.self (sz := s.heap.size)
  generalize hAe : va_A (sh_P cs adP kdP grP cvP brP hzP fmP dmP e1P e2P fkP pnP fnP) s.heap.size = A at hD hE ⊢
  have hA : ∀ q : Nat, s.heap.size ≤ q → A q := fun q h => by rw [← hAe]; exact Or.inr h
  have hS : va_S A s.heap s.heap [] := va_S.rf
  have hl := lv_entry ([.ref (adP 0), .int p1, .int p2, .int p3]) (n := 4) (Nat.le_of_ble_eq_true rfl)
  rw [lg_entry_eq]
  generalize (lg_sl ([.ref (adP 0), .int p1, .int p2, .int p3]) ++ List.replicate (4 - (lg_sl ([.ref (adP 0), .int p1, .int p2, .int p3])).length) Slot.unset).toArray = ls at hl ⊢
  have hl : lv_has ls 4 [(0, .ref (adP 0)), (1, .int p1), (2, .int p2), (3, .int p3)] := hl
  refine lv_aload_n hx hb dX1_allowsFastening_0 rfl (lv_at hl 0 rfl) ?_
  refine va_get (D := D) (ci := 1) (v := .int fnP) (C := RX1) (T := TX1) (N := 12) hx hb hts (by decide +kernel) hown hK hP 0 rfl rfl 11 (by decide) (hts (.fieldLink RX1 47 "PartGraphs$Product" "fasteningCount" "I") (by decide +kernel)) (fun _ h9 => h9) rfl dX1_allowsFastening_1 ?_
  refine lv_bipush (v := 20) hx hb dX1_allowsFastening_4 (by decide) ?_
  refine lv_icmp_ge (tgt := 30) hx hb dX1_allowsFastening_6 (by decide) (fun c_1 => ?_) (fun c_1 => ?_)
  · have h := h.1 c_1
    refine lv_iconst (v := 0) hx hb dX1_allowsFastening_30 (by decide) ?_
    exact W.zret (v := 0) hx hb hr (by decide) (fun t ht hW => ⟨⟨0, (), rfl, h, by rw [ht]; exact hP, va_K.moved hW.alike hK, hD⟩, hS.F ht⟩) hS.2.2 dX1_allowsFastening_31
  · have h := h.2 c_1
    refine lv_aload_n hx hb dX1_allowsFastening_9 rfl (lv_at hl 0 rfl) ?_
    refine lv_iload_n hx hb dX1_allowsFastening_10 rfl (lv_at hl 1 rfl) ?_
    refine lv_iload_n hx hb dX1_allowsFastening_11 rfl (lv_at hl 2 rfl) ?_
    have hFc := va_free (wc := (sh_P cs adP kdP grP cvP brP hzP fmP dmP e1P e2P fkP pnP fnP)) hD hS hA [0, 1, 2, 3, 4, 5, 6, 7, 8, 9, 10] rfl
    refine va_calli (va_runV (As := [.int p1, .int p2]) (rest := []) ⟨hx, hb, hml, hown, hts⟩ (met_X1_areTwoParts l D cs ev _ adP kdP grP cvP brP hzP fmP dmP e1P e2P fkP pnP fnP p1 p2 _ h) (cwV 2 hts gX1_allowsFastening_X1_areTwoParts rfl rfl rfl (by decide +kernel) ⟨Nat.le_of_ble_eq_true rfl, Nat.le_of_ble_eq_true rfl⟩) (mPreV (va_recv hK hP (ci := 1) (q0 := 0) rfl rfl) hP hD hS hK hE hFc [0, 1, 2, 3, 4, 5, 6, 7, 8, 9, 10] (by decide) rfl) rfl rfl hl.1 rfl (lv_room (Nat.le_of_ble_eq_true rfl)) dX1_allowsFastening_12 ⟨Nat.le_of_ble_eq_true rfl, Nat.le_of_ble_eq_true rfl⟩) hS (fun q _ h => hFc q h) hFc (fun r_2 u t H1 locs ht hvm hw hB hz1 hk1 hS => ?_)
    have h := hw
    obtain ⟨hP1, hK1, hD1⟩ := hB
    rw [ht] at hP1
    obtain ⟨hP, hD⟩ := mJoin (wr := ([] : va_W)) (w1 := (sh_P cs adP kdP grP cvP brP hzP fmP dmP e1P e2P fkP pnP fnP)) (w' := (sh_P cs adP kdP grP cvP brP hzP fmP dmP e1P e2P fkP pnP fnP)) hP hD [0, 1, 2, 3, 4, 5, 6, 7, 8, 9, 10] [] rfl rfl (by decide) (by decide) hk1 hFc hP1 hD1 [0, 1, 2, 3, 4, 5, 6, 7, 8, 9, 10] (by decide) rfl
    generalize H1 = H at hP hS ⊢
    refine lv_if_eq (tgt := 30) hx hb dX1_allowsFastening_15 (by decide) (fun c_3 => ?_) (fun c_3 => ?_)
    · have h := h.1 c_3
      refine lv_iconst (v := 0) hx hb dX1_allowsFastening_30 (by decide) ?_
      exact W.zret (v := 0) hx hb hr (by decide) (fun t ht hW => ⟨⟨0, (), rfl, h, by rw [ht]; exact hP, va_K.moved hW.alike hK, hD⟩, hS.F ht⟩) hS.2.2 dX1_allowsFastening_31
    · have h := h.2 c_3
      refine lv_iload_n hx hb dX1_allowsFastening_18 rfl (lv_at hl 3 rfl) ?_
      refine lv_iconst (v := 4) hx hb dX1_allowsFastening_19 (by decide) ?_
      have hFc := va_free (wc := ([] : va_W)) hD hS hA [] rfl
      refine va_calli (va_runSN (As := [.int p3, .int 4]) (rest := []) ⟨hx, hb, hml, hown, hts⟩ (met_X5_isBelow l D cs ev _ p3 4 _ h) ⟨va_cnB 2 hts gX1_allowsFastening_X5_isBelow_n50 rfl rfl rfl hE.1.1 (hts (.initialized RX5) (by decide +kernel)) (by decide +kernel) ⟨Nat.le_of_ble_eq_true rfl, Nat.le_of_ble_eq_true rfl⟩, hts (.static yX5_isBelow) (by decide +kernel), trivial⟩ (mPreS hP hD hS hK hE hFc [] (by decide) rfl) rfl rfl hl.1 rfl (lv_room (Nat.le_of_ble_eq_true rfl)) dX1_allowsFastening_20 ⟨Nat.le_of_ble_eq_true rfl, Nat.le_of_ble_eq_true rfl⟩) hS (fun q _ h => hFc q h) hFc (fun r_4 u t H1 locs ht hvm hw hB hz1 hk1 hS => ?_)
      have h := hw
      obtain ⟨hP1, hK1, hD1⟩ := hB
      rw [ht] at hP1
      obtain ⟨hP, hD⟩ := mJoin (wr := (sh_P cs adP kdP grP cvP brP hzP fmP dmP e1P e2P fkP pnP fnP)) (w1 := ([] : va_W)) (w' := (sh_P cs adP kdP grP cvP brP hzP fmP dmP e1P e2P fkP pnP fnP)) hP hD [] [0, 1, 2, 3, 4, 5, 6, 7, 8, 9, 10] rfl rfl (by decide) (by decide) hk1 hFc hP1 hD1 [0, 1, 2, 3, 4, 5, 6, 7, 8, 9, 10] (by decide) rfl
      generalize H1 = H at hP hS ⊢
      refine lv_if_eq (tgt := 30) hx hb dX1_allowsFastening_23 (by decide) (fun c_5 => ?_) (fun c_5 => ?_)
      · have h := h.1 c_5
        refine lv_iconst (v := 0) hx hb dX1_allowsFastening_30 (by decide) ?_
        exact W.zret (v := 0) hx hb hr (by decide) (fun t ht hW => ⟨⟨0, (), rfl, h, by rw [ht]; exact hP, va_K.moved hW.alike hK, hD⟩, hS.F ht⟩) hS.2.2 dX1_allowsFastening_31
      · have h := h.2 c_5
        refine lv_iconst (v := 1) hx hb dX1_allowsFastening_26 (by decide) ?_
        refine lv_goto (tgt := 31) hx hb dX1_allowsFastening_27 (by decide) ?_
        exact W.zret (v := 1) hx hb hr (by decide) (fun t ht hW => ⟨⟨1, (), rfl, h, by rw [ht]; exact hP, va_K.moved hW.alike hK, hD⟩, hS.F ht⟩) hS.2.2 dX1_allowsFastening_31
def wp_X1_addFastening (e1P : Nat → Int32) (e2P : Nat → Int32) (fkP : Nat → Int32) (pnP : Int32) (fnP : Int32) (p1 : Int32) (p2 : Int32) (p3 : Int32) (post : Int32 → ((Nat → Int32) × (Nat → Int32) × (Nat → Int32) × Int32) → Prop) : Prop :=
    wp_X1_allowsFastening pnP fnP p1 p2 p3 (fun r_1 _ => ((r_1 = 0 → post (-1) (e1P, e2P, fkP, fnP)) ∧ (¬ r_1 = 0 → (vp_in fnP 20 ∧ (vp_in fnP 20 ∧ (vp_in fnP 20 ∧ post fnP (upd e1P fnP.toNatClampNeg p1, upd e2P fnP.toNatClampNeg p2, upd fkP fnP.toNatClampNeg p3, fnP + 1)))))))
set_option maxHeartbeats 4000000 in
set_option maxRecDepth 100000 in
theorem met_X1_addFastening (l : Launch) (D : va_G) (cs : Nat → ClassId) (ev : Nat → Nat → Nat) (sz0 : Nat) (adP : Nat → Nat) (kdP : Nat → Int32) (grP : Nat → Int64) (cvP : Nat → Int32) (brP : Nat → Int32) (hzP : Nat → Int32) (fmP : Nat → Int32) (dmP : Nat → Int32) (e1P : Nat → Int32) (e2P : Nat → Int32) (fkP : Nat → Int32) (pnP : Int32) (fnP : Int32) (p1 : Int32) (p2 : Int32) (p3 : Int32) (post : Int32 → ((Nat → Int32) × (Nat → Int32) × (Nat → Int32) × Int32) → Prop) (h : wp_X1_addFastening e1P e2P fkP pnP fnP p1 p2 p3 post) : Met l yX1_addFastening wsX1_addFastening ({ frames := 2, cells := 0, slots := 0, locals := 45 }) (va_Pc [.ref (adP 0), .int p1, .int p2, .int p3] (mPre D cs ev (sh_P cs adP kdP grP cvP brP hzP fmP dmP e1P e2P fkP pnP fnP) sz0)) (va_Qi post (fun u t => match u with | (e1P', e2P', fkP', fnP') => mAt D cs (va_A (sh_P cs adP kdP grP cvP brP hzP fmP dmP e1P e2P fkP pnP fnP) sz0) (sh_P cs adP kdP grP cvP brP hzP fmP dmP e1P' e2P' fkP' pnP fnP') t) (va_A (sh_P cs adP kdP grP cvP brP hzP fmP dmP e1P e2P fkP pnP fnP) sz0)) 0 0 (va_A (sh_P cs adP kdP grP cvP brP hzP fmP dmP e1P e2P fkP pnP fnP) sz0) := by
  refine Met.ofW (cc := cX1_addFastening) (maxL := 5) (ret := (some .int)) (by decide) rfl ?_
  intro p e s m args below meth c s₁ B hml hv
  obtain ⟨rfl, hsz, hP, hK, hD0, hE⟩ := hv
  have hx := B.exec
  have hb := B.bytes
  have hr := B.returns
  have hts := atoms_spec (ws := wsX1_addFastening) B.pre
  have hown : s.vm.findClass RX1 = some m.cls := findClass_of_methodNamed B.named
  have hlocks := B.notSynchronized
  subst hsz
  have hD := hD0.self (sz := s.heap.size)
  generalize hAe : va_A (sh_P cs adP kdP grP cvP brP hzP fmP dmP e1P e2P fkP pnP fnP) s.heap.size = A at hD hE ⊢
  have hA : ∀ q : Nat, s.heap.size ≤ q → A q := fun q h => by rw [← hAe]; exact Or.inr h
  have hS : va_S A s.heap s.heap [] := va_S.rf
  have hl := lv_entry ([.ref (adP 0), .int p1, .int p2, .int p3]) (n := 5) (Nat.le_of_ble_eq_true rfl)
  rw [lg_entry_eq]
  generalize (lg_sl ([.ref (adP 0), .int p1, .int p2, .int p3]) ++ List.replicate (5 - (lg_sl ([.ref (adP 0), .int p1, .int p2, .int p3])).length) Slot.unset).toArray = ls at hl ⊢
  have hl : lv_has ls 5 [(0, .ref (adP 0)), (1, .int p1), (2, .int p2), (3, .int p3)] := hl
  refine lv_aload_n hx hb dX1_addFastening_0 rfl (lv_at hl 0 rfl) ?_
  refine lv_iload_n hx hb dX1_addFastening_1 rfl (lv_at hl 1 rfl) ?_
  refine lv_iload_n hx hb dX1_addFastening_2 rfl (lv_at hl 2 rfl) ?_
  refine lv_iload_n hx hb dX1_addFastening_3 rfl (lv_at hl 3 rfl) ?_
  have hFc := va_free (wc := (sh_P cs adP kdP grP cvP brP hzP fmP dmP e1P e2P fkP pnP fnP)) hD hS hA [0, 1, 2, 3, 4, 5, 6, 7, 8, 9, 10] rfl
  refine va_calli (va_runV (As := [.int p1, .int p2, .int p3]) (rest := []) ⟨hx, hb, hml, hown, hts⟩ (met_X1_allowsFastening l D cs ev _ adP kdP grP cvP brP hzP fmP dmP e1P e2P fkP pnP fnP p1 p2 p3 _ h) (cwV 3 hts gX1_addFastening_X1_allowsFastening rfl rfl rfl (by decide +kernel) ⟨Nat.le_of_ble_eq_true rfl, Nat.le_of_ble_eq_true rfl⟩) (mPreV (va_recv hK hP (ci := 1) (q0 := 0) rfl rfl) hP hD hS hK hE hFc [0, 1, 2, 3, 4, 5, 6, 7, 8, 9, 10] (by decide) rfl) rfl rfl hl.1 rfl (lv_room (Nat.le_of_ble_eq_true rfl)) dX1_addFastening_4 ⟨Nat.le_of_ble_eq_true rfl, Nat.le_of_ble_eq_true rfl⟩) hS (fun q _ h => hFc q h) hFc (fun r_1 u t H1 locs ht hvm hw hB hz1 hk1 hS => ?_)
  have h := hw
  obtain ⟨hP1, hK1, hD1⟩ := hB
  rw [ht] at hP1
  obtain ⟨hP, hD⟩ := mJoin (wr := ([] : va_W)) (w1 := (sh_P cs adP kdP grP cvP brP hzP fmP dmP e1P e2P fkP pnP fnP)) (w' := (sh_P cs adP kdP grP cvP brP hzP fmP dmP e1P e2P fkP pnP fnP)) hP hD [0, 1, 2, 3, 4, 5, 6, 7, 8, 9, 10] [] rfl rfl (by decide) (by decide) hk1 hFc hP1 hD1 [0, 1, 2, 3, 4, 5, 6, 7, 8, 9, 10] (by decide) rfl
  generalize H1 = H at hP hS ⊢
  refine lv_if_ne (tgt := 12) hx hb dX1_addFastening_7 (by decide) (fun c_2 => ?_) (fun c_2 => ?_)
  · have h := h.2 c_2
    refine lv_aload_n hx hb dX1_addFastening_12 rfl (lv_at hl 0 rfl) ?_
    refine va_get (D := D) (ci := 1) (v := .int fnP) (C := RX1) (T := TX1) (N := 12) hx hb hts (by decide +kernel) hown hK hP 0 rfl rfl 11 (by decide) (hts (.fieldLink RX1 47 "PartGraphs$Product" "fasteningCount" "I") (by decide +kernel)) (fun _ h9 => h9) rfl dX1_addFastening_13 ?_
    refine lv_istore (lv' := [(4, .int fnP), (0, .ref (adP 0)), (1, .int p1), (2, .int p2), (3, .int p3)]) hx hb dX1_addFastening_16 hl (by decide) rfl (fun ls hl => ?_)
    refine lv_aload_n hx hb dX1_addFastening_18 rfl (lv_at hl 1 rfl) ?_
    refine va_get (D := D) (ci := 1) (v := .ref (adP 8)) (C := RX1) (T := TX1) (N := 12) hx hb hts (by decide +kernel) hown hK hP 0 rfl rfl 7 (by decide) (hts (.fieldLink RX1 34 "PartGraphs$Product" "firstEnds" "[I") (by decide +kernel)) (fun _ h9 => h9) rfl dX1_addFastening_19 ?_
    refine lv_iload hx hb dX1_addFastening_22 (lv_at hl 0 rfl) ?_
    refine lv_iload_n hx hb dX1_addFastening_24 rfl (lv_at hl 2 rfl) ?_
    have hin := h.1
    have h := h.2
    refine va_iast (D := D) (cl := vwCl) hx hb hK hP hD hS 8 0 rfl rfl hin dX1_addFastening_25 (fun H locs hP hD hS => ?_)
    have hP : va_P D vwCl (sh_P cs adP kdP grP cvP brP hzP fmP dmP (upd e1P fnP.toNatClampNeg p1) e2P fkP pnP fnP) H := hP
    have hD : va_D A (sh_P cs adP kdP grP cvP brP hzP fmP dmP (upd e1P fnP.toNatClampNeg p1) e2P fkP pnP fnP) := hD
    refine lv_aload_n hx hb dX1_addFastening_26 rfl (lv_at hl 1 rfl) ?_
    refine va_get (D := D) (ci := 1) (v := .ref (adP 9)) (C := RX1) (T := TX1) (N := 12) hx hb hts (by decide +kernel) hown hK hP 0 rfl rfl 8 (by decide) (hts (.fieldLink RX1 37 "PartGraphs$Product" "secondEnds" "[I") (by decide +kernel)) (fun _ h9 => h9) rfl dX1_addFastening_27 ?_
    refine lv_iload hx hb dX1_addFastening_30 (lv_at hl 0 rfl) ?_
    refine lv_iload_n hx hb dX1_addFastening_32 rfl (lv_at hl 3 rfl) ?_
    have hin := h.1
    have h := h.2
    refine va_iast (D := D) (cl := vwCl) hx hb hK hP hD hS 9 0 rfl rfl hin dX1_addFastening_33 (fun H locs hP hD hS => ?_)
    have hP : va_P D vwCl (sh_P cs adP kdP grP cvP brP hzP fmP dmP (upd e1P fnP.toNatClampNeg p1) (upd e2P fnP.toNatClampNeg p2) fkP pnP fnP) H := hP
    have hD : va_D A (sh_P cs adP kdP grP cvP brP hzP fmP dmP (upd e1P fnP.toNatClampNeg p1) (upd e2P fnP.toNatClampNeg p2) fkP pnP fnP) := hD
    refine lv_aload_n hx hb dX1_addFastening_34 rfl (lv_at hl 1 rfl) ?_
    refine va_get (D := D) (ci := 1) (v := .ref (adP 10)) (C := RX1) (T := TX1) (N := 12) hx hb hts (by decide +kernel) hown hK hP 0 rfl rfl 9 (by decide) (hts (.fieldLink RX1 40 "PartGraphs$Product" "fasteningKinds" "[I") (by decide +kernel)) (fun _ h9 => h9) rfl dX1_addFastening_35 ?_
    refine lv_iload hx hb dX1_addFastening_38 (lv_at hl 0 rfl) ?_
    refine lv_iload_n hx hb dX1_addFastening_40 rfl (lv_at hl 4 rfl) ?_
    have hin := h.1
    have h := h.2
    refine va_iast (D := D) (cl := vwCl) hx hb hK hP hD hS 10 0 rfl rfl hin dX1_addFastening_41 (fun H locs hP hD hS => ?_)
    have hP : va_P D vwCl (sh_P cs adP kdP grP cvP brP hzP fmP dmP (upd e1P fnP.toNatClampNeg p1) (upd e2P fnP.toNatClampNeg p2) (upd fkP fnP.toNatClampNeg p3) pnP fnP) H := hP
    have hD : va_D A (sh_P cs adP kdP grP cvP brP hzP fmP dmP (upd e1P fnP.toNatClampNeg p1) (upd e2P fnP.toNatClampNeg p2) (upd fkP fnP.toNatClampNeg p3) pnP fnP) := hD
    refine lv_aload_n hx hb dX1_addFastening_42 rfl (lv_at hl 1 rfl) ?_
    refine lv_dup hx hb dX1_addFastening_43 rfl ?_
    refine va_get (D := D) (ci := 1) (v := .int fnP) (C := RX1) (T := TX1) (N := 12) hx hb hts (by decide +kernel) hown hK hP 0 rfl rfl 11 (by decide) (hts (.fieldLink RX1 47 "PartGraphs$Product" "fasteningCount" "I") (by decide +kernel)) (fun _ h9 => h9) rfl dX1_addFastening_44 ?_
    refine lv_iconst (v := 1) hx hb dX1_addFastening_47 (by decide) ?_
    refine lv_iadd hx hb dX1_addFastening_48 ?_
    refine va_put (D := D) (ci := 1) (v := .int (fnP + 1)) (ty := .int) (C := RX1) (T := TX1) (N := 12) hx hb hts (by decide +kernel) tyX1 tyX1_ok nmX1 hown hK hP hD hS 0 rfl rfl 11 (by decide) (hts (.fieldLink RX1 47 "PartGraphs$Product" "fasteningCount" "I") (by decide +kernel)) (fun _ h9 => h9) rfl (by decide +kernel) rfl rfl (Nat.le_of_ble_eq_true rfl) dX1_addFastening_49 (fun H locs hP hD hS => ?_)
    have hP : va_P D vwCl (sh_P cs adP kdP grP cvP brP hzP fmP dmP (upd e1P fnP.toNatClampNeg p1) (upd e2P fnP.toNatClampNeg p2) (upd fkP fnP.toNatClampNeg p3) pnP (fnP + 1)) H := hP
    have hD : va_D A (sh_P cs adP kdP grP cvP brP hzP fmP dmP (upd e1P fnP.toNatClampNeg p1) (upd e2P fnP.toNatClampNeg p2) (upd fkP fnP.toNatClampNeg p3) pnP (fnP + 1)) := hD
    refine lv_iload hx hb dX1_addFastening_52 (lv_at hl 0 rfl) ?_
    exact W.iret (v := fnP) hx hb hr (fun t ht hW => ⟨⟨fnP, (upd e1P fnP.toNatClampNeg p1, upd e2P fnP.toNatClampNeg p2, upd fkP fnP.toNatClampNeg p3, fnP + 1), rfl, h, by rw [ht]; exact hP, va_K.moved hW.alike hK, hD⟩, hS.F ht⟩) hS.2.2 dX1_addFastening_54
  · have h := h.1 c_2
    refine lv_iconst (v := (-1)) hx hb dX1_addFastening_10 (by decide) ?_
    exact W.iret (v := (-1)) hx hb hr (fun t ht hW => ⟨⟨(-1), (e1P, e2P, fkP, fnP), rfl, h, by rw [ht]; exact hP, va_K.moved hW.alike hK, hD⟩, hS.F ht⟩) hS.2.2 dX1_addFastening_11
def wp_X1_allowsCover (cvP : Nat → Int32) (pnP : Int32) (p1 : Int32) (p2 : Int32) (post : Int32 → Unit → Prop) : Prop :=
    wp_X1_areTwoParts pnP p1 p2 (fun r_1 _ => ((r_1 = 0 → post 0 ()) ∧ (¬ r_1 = 0 → (vp_in p2 10 ∧ wp_X5_contains (cvP p2.toNatClampNeg) p1 (fun r_3 _ => ((r_3 = 0 → post 1 ()) ∧ (¬ r_3 = 0 → post 0 ())))))))
set_option maxHeartbeats 4000000 in
set_option maxRecDepth 100000 in
theorem met_X1_allowsCover (l : Launch) (D : va_G) (cs : Nat → ClassId) (ev : Nat → Nat → Nat) (sz0 : Nat) (adP : Nat → Nat) (kdP : Nat → Int32) (grP : Nat → Int64) (cvP : Nat → Int32) (brP : Nat → Int32) (hzP : Nat → Int32) (fmP : Nat → Int32) (dmP : Nat → Int32) (e1P : Nat → Int32) (e2P : Nat → Int32) (fkP : Nat → Int32) (pnP : Int32) (fnP : Int32) (p1 : Int32) (p2 : Int32) (post : Int32 → Unit → Prop) (h : wp_X1_allowsCover cvP pnP p1 p2 post) : Met l yX1_allowsCover wsX1_allowsCover ({ frames := 1, cells := 0, slots := 0, locals := 22 }) (va_Pc [.ref (adP 0), .int p1, .int p2] (mPre D cs ev (sh_P cs adP kdP grP cvP brP hzP fmP dmP e1P e2P fkP pnP fnP) sz0)) (va_Qi post (fun _ t => mAt D cs (va_A (sh_P cs adP kdP grP cvP brP hzP fmP dmP e1P e2P fkP pnP fnP) sz0) (sh_P cs adP kdP grP cvP brP hzP fmP dmP e1P e2P fkP pnP fnP) t) (va_A (sh_P cs adP kdP grP cvP brP hzP fmP dmP e1P e2P fkP pnP fnP) sz0)) 0 0 (va_A (sh_P cs adP kdP grP cvP brP hzP fmP dmP e1P e2P fkP pnP fnP) sz0) := by
  refine Met.ofW (cc := cX1_allowsCover) (maxL := 3) (ret := (some .boolean)) (by decide) rfl ?_
  intro p e s m args below meth c s₁ B hml hv
  obtain ⟨rfl, hsz, hP, hK, hD0, hE⟩ := hv
  have hx := B.exec
  have hb := B.bytes
  have hr := B.returns
  have hts := atoms_spec (ws := wsX1_allowsCover) B.pre
  have hown : s.vm.findClass RX1 = some m.cls := findClass_of_methodNamed B.named
  have hlocks := B.notSynchronized
  subst hsz
  have hD := hD0.self (sz := s.heap.size)
  generalize hAe : va_A (sh_P cs adP kdP grP cvP brP hzP fmP dmP e1P e2P fkP pnP fnP) s.heap.size = A at hD hE ⊢
  have hA : ∀ q : Nat, s.heap.size ≤ q → A q := fun q h => by rw [← hAe]; exact Or.inr h
  have hS : va_S A s.heap s.heap [] := va_S.rf
  have hl := lv_entry ([.ref (adP 0), .int p1, .int p2]) (n := 3) (Nat.le_of_ble_eq_true rfl)
  rw [lg_entry_eq]
  generalize (lg_sl ([.ref (adP 0), .int p1, .int p2]) ++ List.replicate (3 - (lg_sl ([.ref (adP 0), .int p1, .int p2])).length) Slot.unset).toArray = ls at hl ⊢
  have hl : lv_has ls 3 [(0, .ref (adP 0)), (1, .int p1), (2, .int p2)] := hl
  refine lv_aload_n hx hb dX1_allowsCover_0 rfl (lv_at hl 0 rfl) ?_
  refine lv_iload_n hx hb dX1_allowsCover_1 rfl (lv_at hl 1 rfl) ?_
  refine lv_iload_n hx hb dX1_allowsCover_2 rfl (lv_at hl 2 rfl) ?_
  have hFc := va_free (wc := (sh_P cs adP kdP grP cvP brP hzP fmP dmP e1P e2P fkP pnP fnP)) hD hS hA [0, 1, 2, 3, 4, 5, 6, 7, 8, 9, 10] rfl
  refine va_calli (va_runV (As := [.int p1, .int p2]) (rest := []) ⟨hx, hb, hml, hown, hts⟩ (met_X1_areTwoParts l D cs ev _ adP kdP grP cvP brP hzP fmP dmP e1P e2P fkP pnP fnP p1 p2 _ h) (cwV 2 hts gX1_allowsCover_X1_areTwoParts rfl rfl rfl (by decide +kernel) ⟨Nat.le_of_ble_eq_true rfl, Nat.le_of_ble_eq_true rfl⟩) (mPreV (va_recv hK hP (ci := 1) (q0 := 0) rfl rfl) hP hD hS hK hE hFc [0, 1, 2, 3, 4, 5, 6, 7, 8, 9, 10] (by decide) rfl) rfl rfl hl.1 rfl (lv_room (Nat.le_of_ble_eq_true rfl)) dX1_allowsCover_3 ⟨Nat.le_of_ble_eq_true rfl, Nat.le_of_ble_eq_true rfl⟩) hS (fun q _ h => hFc q h) hFc (fun r_1 u t H1 locs ht hvm hw hB hz1 hk1 hS => ?_)
  have h := hw
  obtain ⟨hP1, hK1, hD1⟩ := hB
  rw [ht] at hP1
  obtain ⟨hP, hD⟩ := mJoin (wr := ([] : va_W)) (w1 := (sh_P cs adP kdP grP cvP brP hzP fmP dmP e1P e2P fkP pnP fnP)) (w' := (sh_P cs adP kdP grP cvP brP hzP fmP dmP e1P e2P fkP pnP fnP)) hP hD [0, 1, 2, 3, 4, 5, 6, 7, 8, 9, 10] [] rfl rfl (by decide) (by decide) hk1 hFc hP1 hD1 [0, 1, 2, 3, 4, 5, 6, 7, 8, 9, 10] (by decide) rfl
  generalize H1 = H at hP hS ⊢
  refine lv_if_eq (tgt := 26) hx hb dX1_allowsCover_6 (by decide) (fun c_2 => ?_) (fun c_2 => ?_)
  · have h := h.1 c_2
    refine lv_iconst (v := 0) hx hb dX1_allowsCover_26 (by decide) ?_
    exact W.zret (v := 0) hx hb hr (by decide) (fun t ht hW => ⟨⟨0, (), rfl, h, by rw [ht]; exact hP, va_K.moved hW.alike hK, hD⟩, hS.F ht⟩) hS.2.2 dX1_allowsCover_27
  · have h := h.2 c_2
    refine lv_aload_n hx hb dX1_allowsCover_9 rfl (lv_at hl 0 rfl) ?_
    refine va_get (D := D) (ci := 1) (v := .ref (adP 3)) (C := RX1) (T := TX1) (N := 12) hx hb hts (by decide +kernel) hown hK hP 0 rfl rfl 2 (by decide) (hts (.fieldLink RX1 19 "PartGraphs$Product" "coverers" "[I") (by decide +kernel)) (fun _ h9 => h9) rfl dX1_allowsCover_10 ?_
    refine lv_iload_n hx hb dX1_allowsCover_13 rfl (lv_at hl 2 rfl) ?_
    have hin := h.1
    have h := h.2
    refine va_iald (D := D) (cl := vwCl) hx hb hK hP 3 0 rfl rfl hin dX1_allowsCover_14 ?_
    refine lv_iload_n hx hb dX1_allowsCover_15 rfl (lv_at hl 1 rfl) ?_
    have hFc := va_free (wc := ([] : va_W)) hD hS hA [] rfl
    refine va_calli (va_runSN (As := [.int (cvP p2.toNatClampNeg), .int p1]) (rest := []) ⟨hx, hb, hml, hown, hts⟩ (met_X5_contains l D cs ev _ (cvP p2.toNatClampNeg) p1 _ h) ⟨va_cnB 2 hts gX1_allowsCover_X5_contains_n71 rfl rfl rfl hE.1.2.1 (hts (.initialized RX5) (by decide +kernel)) (by decide +kernel) ⟨Nat.le_of_ble_eq_true rfl, Nat.le_of_ble_eq_true rfl⟩, hts (.static yX5_contains) (by decide +kernel), trivial⟩ (mPreS hP hD hS hK hE hFc [] (by decide) rfl) rfl rfl hl.1 rfl (lv_room (Nat.le_of_ble_eq_true rfl)) dX1_allowsCover_16 ⟨Nat.le_of_ble_eq_true rfl, Nat.le_of_ble_eq_true rfl⟩) hS (fun q _ h => hFc q h) hFc (fun r_3 u t H1 locs ht hvm hw hB hz1 hk1 hS => ?_)
    have h := hw
    obtain ⟨hP1, hK1, hD1⟩ := hB
    rw [ht] at hP1
    obtain ⟨hP, hD⟩ := mJoin (wr := (sh_P cs adP kdP grP cvP brP hzP fmP dmP e1P e2P fkP pnP fnP)) (w1 := ([] : va_W)) (w' := (sh_P cs adP kdP grP cvP brP hzP fmP dmP e1P e2P fkP pnP fnP)) hP hD [] [0, 1, 2, 3, 4, 5, 6, 7, 8, 9, 10] rfl rfl (by decide) (by decide) hk1 hFc hP1 hD1 [0, 1, 2, 3, 4, 5, 6, 7, 8, 9, 10] (by decide) rfl
    generalize H1 = H at hP hS ⊢
    refine lv_if_ne (tgt := 26) hx hb dX1_allowsCover_19 (by decide) (fun c_4 => ?_) (fun c_4 => ?_)
    · have h := h.2 c_4
      refine lv_iconst (v := 0) hx hb dX1_allowsCover_26 (by decide) ?_
      exact W.zret (v := 0) hx hb hr (by decide) (fun t ht hW => ⟨⟨0, (), rfl, h, by rw [ht]; exact hP, va_K.moved hW.alike hK, hD⟩, hS.F ht⟩) hS.2.2 dX1_allowsCover_27
    · have h := h.1 c_4
      refine lv_iconst (v := 1) hx hb dX1_allowsCover_22 (by decide) ?_
      refine lv_goto (tgt := 27) hx hb dX1_allowsCover_23 (by decide) ?_
      exact W.zret (v := 1) hx hb hr (by decide) (fun t ht hW => ⟨⟨1, (), rfl, h, by rw [ht]; exact hP, va_K.moved hW.alike hK, hD⟩, hS.F ht⟩) hS.2.2 dX1_allowsCover_27
def wp_X1_addCover (cvP : Nat → Int32) (pnP : Int32) (p1 : Int32) (p2 : Int32) (post : Int32 → ((Nat → Int32)) → Prop) : Prop :=
    wp_X1_allowsCover cvP pnP p1 p2 (fun r_1 _ => ((r_1 = 0 → post 0 cvP) ∧ (¬ r_1 = 0 → (vp_in p2 10 ∧ (vp_in p2 10 ∧ post 1 (upd cvP p2.toNatClampNeg ((cvP p2.toNatClampNeg) ||| (1 <<< (p1 &&& 31)))))))))
set_option maxHeartbeats 4000000 in
set_option maxRecDepth 100000 in
theorem met_X1_addCover (l : Launch) (D : va_G) (cs : Nat → ClassId) (ev : Nat → Nat → Nat) (sz0 : Nat) (adP : Nat → Nat) (kdP : Nat → Int32) (grP : Nat → Int64) (cvP : Nat → Int32) (brP : Nat → Int32) (hzP : Nat → Int32) (fmP : Nat → Int32) (dmP : Nat → Int32) (e1P : Nat → Int32) (e2P : Nat → Int32) (fkP : Nat → Int32) (pnP : Int32) (fnP : Int32) (p1 : Int32) (p2 : Int32) (post : Int32 → ((Nat → Int32)) → Prop) (h : wp_X1_addCover cvP pnP p1 p2 post) : Met l yX1_addCover wsX1_addCover ({ frames := 2, cells := 0, slots := 0, locals := 44 }) (va_Pc [.ref (adP 0), .int p1, .int p2] (mPre D cs ev (sh_P cs adP kdP grP cvP brP hzP fmP dmP e1P e2P fkP pnP fnP) sz0)) (va_Qi post (fun cvP' t => mAt D cs (va_A (sh_P cs adP kdP grP cvP brP hzP fmP dmP e1P e2P fkP pnP fnP) sz0) (sh_P cs adP kdP grP cvP' brP hzP fmP dmP e1P e2P fkP pnP fnP) t) (va_A (sh_P cs adP kdP grP cvP brP hzP fmP dmP e1P e2P fkP pnP fnP) sz0)) 0 0 (va_A (sh_P cs adP kdP grP cvP brP hzP fmP dmP e1P e2P fkP pnP fnP) sz0) := by
  refine Met.ofW (cc := cX1_addCover) (maxL := 3) (ret := (some .boolean)) (by decide) rfl ?_
  intro p e s m args below meth c s₁ B hml hv
  obtain ⟨rfl, hsz, hP, hK, hD0, hE⟩ := hv
  have hx := B.exec
  have hb := B.bytes
  have hr := B.returns
  have hts := atoms_spec (ws := wsX1_addCover) B.pre
  have hown : s.vm.findClass RX1 = some m.cls := findClass_of_methodNamed B.named
  have hlocks := B.notSynchronized
  subst hsz
  have hD := hD0.self (sz := s.heap.size)
  generalize hAe : va_A (sh_P cs adP kdP grP cvP brP hzP fmP dmP e1P e2P fkP pnP fnP) s.heap.size = A at hD hE ⊢
  have hA : ∀ q : Nat, s.heap.size ≤ q → A q := fun q h => by rw [← hAe]; exact Or.inr h
  have hS : va_S A s.heap s.heap [] := va_S.rf
  have hl := lv_entry ([.ref (adP 0), .int p1, .int p2]) (n := 3) (Nat.le_of_ble_eq_true rfl)
  rw [lg_entry_eq]
  generalize (lg_sl ([.ref (adP 0), .int p1, .int p2]) ++ List.replicate (3 - (lg_sl ([.ref (adP 0), .int p1, .int p2])).length) Slot.unset).toArray = ls at hl ⊢
  have hl : lv_has ls 3 [(0, .ref (adP 0)), (1, .int p1), (2, .int p2)] := hl
  refine lv_aload_n hx hb dX1_addCover_0 rfl (lv_at hl 0 rfl) ?_
  refine lv_iload_n hx hb dX1_addCover_1 rfl (lv_at hl 1 rfl) ?_
  refine lv_iload_n hx hb dX1_addCover_2 rfl (lv_at hl 2 rfl) ?_
  have hFc := va_free (wc := (sh_P cs adP kdP grP cvP brP hzP fmP dmP e1P e2P fkP pnP fnP)) hD hS hA [0, 1, 2, 3, 4, 5, 6, 7, 8, 9, 10] rfl
  refine va_calli (va_runV (As := [.int p1, .int p2]) (rest := []) ⟨hx, hb, hml, hown, hts⟩ (met_X1_allowsCover l D cs ev _ adP kdP grP cvP brP hzP fmP dmP e1P e2P fkP pnP fnP p1 p2 _ h) (cwV 2 hts gX1_addCover_X1_allowsCover rfl rfl rfl (by decide +kernel) ⟨Nat.le_of_ble_eq_true rfl, Nat.le_of_ble_eq_true rfl⟩) (mPreV (va_recv hK hP (ci := 1) (q0 := 0) rfl rfl) hP hD hS hK hE hFc [0, 1, 2, 3, 4, 5, 6, 7, 8, 9, 10] (by decide) rfl) rfl rfl hl.1 rfl (lv_room (Nat.le_of_ble_eq_true rfl)) dX1_addCover_3 ⟨Nat.le_of_ble_eq_true rfl, Nat.le_of_ble_eq_true rfl⟩) hS (fun q _ h => hFc q h) hFc (fun r_1 u t H1 locs ht hvm hw hB hz1 hk1 hS => ?_)
  have h := hw
  obtain ⟨hP1, hK1, hD1⟩ := hB
  rw [ht] at hP1
  obtain ⟨hP, hD⟩ := mJoin (wr := ([] : va_W)) (w1 := (sh_P cs adP kdP grP cvP brP hzP fmP dmP e1P e2P fkP pnP fnP)) (w' := (sh_P cs adP kdP grP cvP brP hzP fmP dmP e1P e2P fkP pnP fnP)) hP hD [0, 1, 2, 3, 4, 5, 6, 7, 8, 9, 10] [] rfl rfl (by decide) (by decide) hk1 hFc hP1 hD1 [0, 1, 2, 3, 4, 5, 6, 7, 8, 9, 10] (by decide) rfl
  generalize H1 = H at hP hS ⊢
  refine lv_if_ne (tgt := 11) hx hb dX1_addCover_6 (by decide) (fun c_2 => ?_) (fun c_2 => ?_)
  · have h := h.2 c_2
    refine lv_aload_n hx hb dX1_addCover_11 rfl (lv_at hl 0 rfl) ?_
    refine va_get (D := D) (ci := 1) (v := .ref (adP 3)) (C := RX1) (T := TX1) (N := 12) hx hb hts (by decide +kernel) hown hK hP 0 rfl rfl 2 (by decide) (hts (.fieldLink RX1 19 "PartGraphs$Product" "coverers" "[I") (by decide +kernel)) (fun _ h9 => h9) rfl dX1_addCover_12 ?_
    refine lv_iload_n hx hb dX1_addCover_15 rfl (lv_at hl 2 rfl) ?_
    refine lv_dup2_11 hx hb dX1_addCover_16 rfl rfl ?_
    have hin := h.1
    have h := h.2
    refine va_iald (D := D) (cl := vwCl) hx hb hK hP 3 0 rfl rfl hin dX1_addCover_17 ?_
    refine lv_iconst (v := 1) hx hb dX1_addCover_18 (by decide) ?_
    refine lv_iload_n hx hb dX1_addCover_19 rfl (lv_at hl 1 rfl) ?_
    refine lv_ishl hx hb dX1_addCover_20 ?_
    refine lv_ior hx hb dX1_addCover_21 ?_
    have hin := h.1
    have h := h.2
    refine va_iast (D := D) (cl := vwCl) hx hb hK hP hD hS 3 0 rfl rfl hin dX1_addCover_22 (fun H locs hP hD hS => ?_)
    have hP : va_P D vwCl (sh_P cs adP kdP grP (upd cvP p2.toNatClampNeg ((cvP p2.toNatClampNeg) ||| (1 <<< (p1 &&& 31)))) brP hzP fmP dmP e1P e2P fkP pnP fnP) H := hP
    have hD : va_D A (sh_P cs adP kdP grP (upd cvP p2.toNatClampNeg ((cvP p2.toNatClampNeg) ||| (1 <<< (p1 &&& 31)))) brP hzP fmP dmP e1P e2P fkP pnP fnP) := hD
    refine lv_iconst (v := 1) hx hb dX1_addCover_23 (by decide) ?_
    exact W.zret (v := 1) hx hb hr (by decide) (fun t ht hW => ⟨⟨1, (upd cvP p2.toNatClampNeg ((cvP p2.toNatClampNeg) ||| (1 <<< (p1 &&& 31)))), rfl, h, by rw [ht]; exact hP, va_K.moved hW.alike hK, hD⟩, hS.F ht⟩) hS.2.2 dX1_addCover_24
  · have h := h.1 c_2
    refine lv_iconst (v := 0) hx hb dX1_addCover_9 (by decide) ?_
    exact W.zret (v := 0) hx hb hr (by decide) (fun t ht hW => ⟨⟨0, cvP, rfl, h, by rw [ht]; exact hP, va_K.moved hW.alike hK, hD⟩, hS.F ht⟩) hS.2.2 dX1_addCover_10
def wp_X1_allowsBar (brP : Nat → Int32) (pnP : Int32) (p1 : Int32) (p2 : Int32) (p3 : Int32) (post : Int32 → Unit → Prop) : Prop :=
    wp_X1_areTwoParts pnP p1 p3 (fun r_1 _ => ((r_1 = 0 → post 0 ()) ∧ (¬ r_1 = 0 → wp_X5_isBelow p2 6 (fun r_3 _ => ((r_3 = 0 → post 0 ()) ∧ (¬ r_3 = 0 → wp_X1_barIndex p1 p2 (fun r_5 _ => (vp_in r_5 60 ∧ wp_X5_contains (brP r_5.toNatClampNeg) p3 (fun r_6 _ => ((r_6 = 0 → post 1 ()) ∧ (¬ r_6 = 0 → post 0 ())))))))))))
set_option maxHeartbeats 4000000 in
set_option maxRecDepth 100000 in
theorem met_X1_allowsBar (l : Launch) (D : va_G) (cs : Nat → ClassId) (ev : Nat → Nat → Nat) (sz0 : Nat) (adP : Nat → Nat) (kdP : Nat → Int32) (grP : Nat → Int64) (cvP : Nat → Int32) (brP : Nat → Int32) (hzP : Nat → Int32) (fmP : Nat → Int32) (dmP : Nat → Int32) (e1P : Nat → Int32) (e2P : Nat → Int32) (fkP : Nat → Int32) (pnP : Int32) (fnP : Int32) (p1 : Int32) (p2 : Int32) (p3 : Int32) (post : Int32 → Unit → Prop) (h : wp_X1_allowsBar brP pnP p1 p2 p3 post) : Met l yX1_allowsBar wsX1_allowsBar ({ frames := 1, cells := 0, slots := 0, locals := 22 }) (va_Pc [.ref (adP 0), .int p1, .int p2, .int p3] (mPre D cs ev (sh_P cs adP kdP grP cvP brP hzP fmP dmP e1P e2P fkP pnP fnP) sz0)) (va_Qi post (fun _ t => mAt D cs (va_A (sh_P cs adP kdP grP cvP brP hzP fmP dmP e1P e2P fkP pnP fnP) sz0) (sh_P cs adP kdP grP cvP brP hzP fmP dmP e1P e2P fkP pnP fnP) t) (va_A (sh_P cs adP kdP grP cvP brP hzP fmP dmP e1P e2P fkP pnP fnP) sz0)) 0 0 (va_A (sh_P cs adP kdP grP cvP brP hzP fmP dmP e1P e2P fkP pnP fnP) sz0) := by
  refine Met.ofW (cc := cX1_allowsBar) (maxL := 4) (ret := (some .boolean)) (by decide) rfl ?_
  intro p e s m args below meth c s₁ B hml hv
  obtain ⟨rfl, hsz, hP, hK, hD0, hE⟩ := hv
  have hx := B.exec
  have hb := B.bytes
  have hr := B.returns
  have hts := atoms_spec (ws := wsX1_allowsBar) B.pre
  have hown : s.vm.findClass RX1 = some m.cls := findClass_of_methodNamed B.named
  have hlocks := B.notSynchronized
  subst hsz
  have hD := hD0.self (sz := s.heap.size)
  generalize hAe : va_A (sh_P cs adP kdP grP cvP brP hzP fmP dmP e1P e2P fkP pnP fnP) s.heap.size = A at hD hE ⊢
  have hA : ∀ q : Nat, s.heap.size ≤ q → A q := fun q h => by rw [← hAe]; exact Or.inr h
  have hS : va_S A s.heap s.heap [] := va_S.rf
  have hl := lv_entry ([.ref (adP 0), .int p1, .int p2, .int p3]) (n := 4) (Nat.le_of_ble_eq_true rfl)
  rw [lg_entry_eq]
  generalize (lg_sl ([.ref (adP 0), .int p1, .int p2, .int p3]) ++ List.replicate (4 - (lg_sl ([.ref (adP 0), .int p1, .int p2, .int p3])).length) Slot.unset).toArray = ls at hl ⊢
  have hl : lv_has ls 4 [(0, .ref (adP 0)), (1, .int p1), (2, .int p2), (3, .int p3)] := hl
  refine lv_aload_n hx hb dX1_allowsBar_0 rfl (lv_at hl 0 rfl) ?_
  refine lv_iload_n hx hb dX1_allowsBar_1 rfl (lv_at hl 1 rfl) ?_
  refine lv_iload_n hx hb dX1_allowsBar_2 rfl (lv_at hl 3 rfl) ?_
  have hFc := va_free (wc := (sh_P cs adP kdP grP cvP brP hzP fmP dmP e1P e2P fkP pnP fnP)) hD hS hA [0, 1, 2, 3, 4, 5, 6, 7, 8, 9, 10] rfl
  refine va_calli (va_runV (As := [.int p1, .int p3]) (rest := []) ⟨hx, hb, hml, hown, hts⟩ (met_X1_areTwoParts l D cs ev _ adP kdP grP cvP brP hzP fmP dmP e1P e2P fkP pnP fnP p1 p3 _ h) (cwV 2 hts gX1_allowsBar_X1_areTwoParts rfl rfl rfl (by decide +kernel) ⟨Nat.le_of_ble_eq_true rfl, Nat.le_of_ble_eq_true rfl⟩) (mPreV (va_recv hK hP (ci := 1) (q0 := 0) rfl rfl) hP hD hS hK hE hFc [0, 1, 2, 3, 4, 5, 6, 7, 8, 9, 10] (by decide) rfl) rfl rfl hl.1 rfl (lv_room (Nat.le_of_ble_eq_true rfl)) dX1_allowsBar_3 ⟨Nat.le_of_ble_eq_true rfl, Nat.le_of_ble_eq_true rfl⟩) hS (fun q _ h => hFc q h) hFc (fun r_1 u t H1 locs ht hvm hw hB hz1 hk1 hS => ?_)
  have h := hw
  obtain ⟨hP1, hK1, hD1⟩ := hB
  rw [ht] at hP1
  obtain ⟨hP, hD⟩ := mJoin (wr := ([] : va_W)) (w1 := (sh_P cs adP kdP grP cvP brP hzP fmP dmP e1P e2P fkP pnP fnP)) (w' := (sh_P cs adP kdP grP cvP brP hzP fmP dmP e1P e2P fkP pnP fnP)) hP hD [0, 1, 2, 3, 4, 5, 6, 7, 8, 9, 10] [] rfl rfl (by decide) (by decide) hk1 hFc hP1 hD1 [0, 1, 2, 3, 4, 5, 6, 7, 8, 9, 10] (by decide) rfl
  generalize H1 = H at hP hS ⊢
  refine lv_if_eq (tgt := 39) hx hb dX1_allowsBar_6 (by decide) (fun c_2 => ?_) (fun c_2 => ?_)
  · have h := h.1 c_2
    refine lv_iconst (v := 0) hx hb dX1_allowsBar_39 (by decide) ?_
    exact W.zret (v := 0) hx hb hr (by decide) (fun t ht hW => ⟨⟨0, (), rfl, h, by rw [ht]; exact hP, va_K.moved hW.alike hK, hD⟩, hS.F ht⟩) hS.2.2 dX1_allowsBar_40
  · have h := h.2 c_2
    refine lv_iload_n hx hb dX1_allowsBar_9 rfl (lv_at hl 2 rfl) ?_
    refine lv_bipush (v := 6) hx hb dX1_allowsBar_10 (by decide) ?_
    have hFc := va_free (wc := ([] : va_W)) hD hS hA [] rfl
    refine va_calli (va_runSN (As := [.int p2, .int 6]) (rest := []) ⟨hx, hb, hml, hown, hts⟩ (met_X5_isBelow l D cs ev _ p2 6 _ h) ⟨va_cnB 2 hts gX1_allowsBar_X5_isBelow_n50 rfl rfl rfl hE.1.1 (hts (.initialized RX5) (by decide +kernel)) (by decide +kernel) ⟨Nat.le_of_ble_eq_true rfl, Nat.le_of_ble_eq_true rfl⟩, hts (.static yX5_isBelow) (by decide +kernel), trivial⟩ (mPreS hP hD hS hK hE hFc [] (by decide) rfl) rfl rfl hl.1 rfl (lv_room (Nat.le_of_ble_eq_true rfl)) dX1_allowsBar_12 ⟨Nat.le_of_ble_eq_true rfl, Nat.le_of_ble_eq_true rfl⟩) hS (fun q _ h => hFc q h) hFc (fun r_3 u t H1 locs ht hvm hw hB hz1 hk1 hS => ?_)
    have h := hw
    obtain ⟨hP1, hK1, hD1⟩ := hB
    rw [ht] at hP1
    obtain ⟨hP, hD⟩ := mJoin (wr := (sh_P cs adP kdP grP cvP brP hzP fmP dmP e1P e2P fkP pnP fnP)) (w1 := ([] : va_W)) (w' := (sh_P cs adP kdP grP cvP brP hzP fmP dmP e1P e2P fkP pnP fnP)) hP hD [] [0, 1, 2, 3, 4, 5, 6, 7, 8, 9, 10] rfl rfl (by decide) (by decide) hk1 hFc hP1 hD1 [0, 1, 2, 3, 4, 5, 6, 7, 8, 9, 10] (by decide) rfl
    generalize H1 = H at hP hS ⊢
    refine lv_if_eq (tgt := 39) hx hb dX1_allowsBar_15 (by decide) (fun c_4 => ?_) (fun c_4 => ?_)
    · have h := h.1 c_4
      refine lv_iconst (v := 0) hx hb dX1_allowsBar_39 (by decide) ?_
      exact W.zret (v := 0) hx hb hr (by decide) (fun t ht hW => ⟨⟨0, (), rfl, h, by rw [ht]; exact hP, va_K.moved hW.alike hK, hD⟩, hS.F ht⟩) hS.2.2 dX1_allowsBar_40
    · have h := h.2 c_4
      refine lv_aload_n hx hb dX1_allowsBar_18 rfl (lv_at hl 0 rfl) ?_
      refine va_get (D := D) (ci := 1) (v := .ref (adP 4)) (C := RX1) (T := TX1) (N := 12) hx hb hts (by decide +kernel) hown hK hP 0 rfl rfl 3 (by decide) (hts (.fieldLink RX1 22 "PartGraphs$Product" "bars" "[I") (by decide +kernel)) (fun _ h9 => h9) rfl dX1_allowsBar_19 ?_
      refine lv_iload_n hx hb dX1_allowsBar_22 rfl (lv_at hl 1 rfl) ?_
      refine lv_iload_n hx hb dX1_allowsBar_23 rfl (lv_at hl 2 rfl) ?_
      have hFc := va_free (wc := ([] : va_W)) hD hS hA [] rfl
      refine va_calli (va_runS (As := [.int p1, .int p2]) (rest := [.ref (adP 4)]) ⟨hx, hb, hml, hown, hts⟩ (met_X1_barIndex l D cs ev _ p1 p2 _ h) (va_cwS 2 hts gX1_allowsBar_X1_barIndex rfl rfl rfl (by decide +kernel) ⟨Nat.le_of_ble_eq_true rfl, Nat.le_of_ble_eq_true rfl⟩) (mPreS hP hD hS hK hE hFc [] (by decide) rfl) rfl rfl hl.1 rfl (lv_room (Nat.le_of_ble_eq_true rfl)) dX1_allowsBar_24 ⟨Nat.le_of_ble_eq_true rfl, Nat.le_of_ble_eq_true rfl⟩) hS (fun q _ h => hFc q h) hFc (fun r_5 u t H1 locs ht hvm hw hB hz1 hk1 hS => ?_)
      have h := hw
      obtain ⟨hP1, hK1, hD1⟩ := hB
      rw [ht] at hP1
      obtain ⟨hP, hD⟩ := mJoin (wr := (sh_P cs adP kdP grP cvP brP hzP fmP dmP e1P e2P fkP pnP fnP)) (w1 := ([] : va_W)) (w' := (sh_P cs adP kdP grP cvP brP hzP fmP dmP e1P e2P fkP pnP fnP)) hP hD [] [0, 1, 2, 3, 4, 5, 6, 7, 8, 9, 10] rfl rfl (by decide) (by decide) hk1 hFc hP1 hD1 [0, 1, 2, 3, 4, 5, 6, 7, 8, 9, 10] (by decide) rfl
      generalize H1 = H at hP hS ⊢
      have hin := h.1
      have h := h.2
      refine va_iald (D := D) (cl := vwCl) hx hb hK hP 4 0 rfl rfl hin dX1_allowsBar_27 ?_
      refine lv_iload_n hx hb dX1_allowsBar_28 rfl (lv_at hl 3 rfl) ?_
      have hFc := va_free (wc := ([] : va_W)) hD hS hA [] rfl
      refine va_calli (va_runSN (As := [.int (brP r_5.toNatClampNeg), .int p3]) (rest := []) ⟨hx, hb, hml, hown, hts⟩ (met_X5_contains l D cs ev _ (brP r_5.toNatClampNeg) p3 _ h) ⟨va_cnB 2 hts gX1_allowsBar_X5_contains_n71 rfl rfl rfl hE.1.2.1 (hts (.initialized RX5) (by decide +kernel)) (by decide +kernel) ⟨Nat.le_of_ble_eq_true rfl, Nat.le_of_ble_eq_true rfl⟩, hts (.static yX5_contains) (by decide +kernel), trivial⟩ (mPreS hP hD hS hK hE hFc [] (by decide) rfl) rfl rfl hl.1 rfl (lv_room (Nat.le_of_ble_eq_true rfl)) dX1_allowsBar_29 ⟨Nat.le_of_ble_eq_true rfl, Nat.le_of_ble_eq_true rfl⟩) hS (fun q _ h => hFc q h) hFc (fun r_6 u t H1 locs ht hvm hw hB hz1 hk1 hS => ?_)
      have h := hw
      obtain ⟨hP1, hK1, hD1⟩ := hB
      rw [ht] at hP1
      obtain ⟨hP, hD⟩ := mJoin (wr := (sh_P cs adP kdP grP cvP brP hzP fmP dmP e1P e2P fkP pnP fnP)) (w1 := ([] : va_W)) (w' := (sh_P cs adP kdP grP cvP brP hzP fmP dmP e1P e2P fkP pnP fnP)) hP hD [] [0, 1, 2, 3, 4, 5, 6, 7, 8, 9, 10] rfl rfl (by decide) (by decide) hk1 hFc hP1 hD1 [0, 1, 2, 3, 4, 5, 6, 7, 8, 9, 10] (by decide) rfl
      generalize H1 = H at hP hS ⊢
      refine lv_if_ne (tgt := 39) hx hb dX1_allowsBar_32 (by decide) (fun c_7 => ?_) (fun c_7 => ?_)
      · have h := h.2 c_7
        refine lv_iconst (v := 0) hx hb dX1_allowsBar_39 (by decide) ?_
        exact W.zret (v := 0) hx hb hr (by decide) (fun t ht hW => ⟨⟨0, (), rfl, h, by rw [ht]; exact hP, va_K.moved hW.alike hK, hD⟩, hS.F ht⟩) hS.2.2 dX1_allowsBar_40
      · have h := h.1 c_7
        refine lv_iconst (v := 1) hx hb dX1_allowsBar_35 (by decide) ?_
        refine lv_goto (tgt := 40) hx hb dX1_allowsBar_36 (by decide) ?_
        exact W.zret (v := 1) hx hb hr (by decide) (fun t ht hW => ⟨⟨1, (), rfl, h, by rw [ht]; exact hP, va_K.moved hW.alike hK, hD⟩, hS.F ht⟩) hS.2.2 dX1_allowsBar_40
def wp_X1_addBar (brP : Nat → Int32) (pnP : Int32) (p1 : Int32) (p2 : Int32) (p3 : Int32) (post : Int32 → ((Nat → Int32)) → Prop) : Prop :=
    wp_X1_allowsBar brP pnP p1 p2 p3 (fun r_1 _ => ((r_1 = 0 → post 0 brP) ∧ (¬ r_1 = 0 → wp_X1_barIndex p1 p2 (fun r_3 _ => (vp_in r_3 60 ∧ (vp_in r_3 60 ∧ post 1 (upd brP r_3.toNatClampNeg ((brP r_3.toNatClampNeg) ||| (1 <<< (p3 &&& 31))))))))))
set_option maxHeartbeats 4000000 in
set_option maxRecDepth 100000 in
theorem met_X1_addBar (l : Launch) (D : va_G) (cs : Nat → ClassId) (ev : Nat → Nat → Nat) (sz0 : Nat) (adP : Nat → Nat) (kdP : Nat → Int32) (grP : Nat → Int64) (cvP : Nat → Int32) (brP : Nat → Int32) (hzP : Nat → Int32) (fmP : Nat → Int32) (dmP : Nat → Int32) (e1P : Nat → Int32) (e2P : Nat → Int32) (fkP : Nat → Int32) (pnP : Int32) (fnP : Int32) (p1 : Int32) (p2 : Int32) (p3 : Int32) (post : Int32 → ((Nat → Int32)) → Prop) (h : wp_X1_addBar brP pnP p1 p2 p3 post) : Met l yX1_addBar wsX1_addBar ({ frames := 2, cells := 0, slots := 0, locals := 45 }) (va_Pc [.ref (adP 0), .int p1, .int p2, .int p3] (mPre D cs ev (sh_P cs adP kdP grP cvP brP hzP fmP dmP e1P e2P fkP pnP fnP) sz0)) (va_Qi post (fun brP' t => mAt D cs (va_A (sh_P cs adP kdP grP cvP brP hzP fmP dmP e1P e2P fkP pnP fnP) sz0) (sh_P cs adP kdP grP cvP brP' hzP fmP dmP e1P e2P fkP pnP fnP) t) (va_A (sh_P cs adP kdP grP cvP brP hzP fmP dmP e1P e2P fkP pnP fnP) sz0)) 0 0 (va_A (sh_P cs adP kdP grP cvP brP hzP fmP dmP e1P e2P fkP pnP fnP) sz0) := by
  refine Met.ofW (cc := cX1_addBar) (maxL := 4) (ret := (some .boolean)) (by decide) rfl ?_
  intro p e s m args below meth c s₁ B hml hv
  obtain ⟨rfl, hsz, hP, hK, hD0, hE⟩ := hv
  have hx := B.exec
  have hb := B.bytes
  have hr := B.returns
  have hts := atoms_spec (ws := wsX1_addBar) B.pre
  have hown : s.vm.findClass RX1 = some m.cls := findClass_of_methodNamed B.named
  have hlocks := B.notSynchronized
  subst hsz
  have hD := hD0.self (sz := s.heap.size)
  generalize hAe : va_A (sh_P cs adP kdP grP cvP brP hzP fmP dmP e1P e2P fkP pnP fnP) s.heap.size = A at hD hE ⊢
  have hA : ∀ q : Nat, s.heap.size ≤ q → A q := fun q h => by rw [← hAe]; exact Or.inr h
  have hS : va_S A s.heap s.heap [] := va_S.rf
  have hl := lv_entry ([.ref (adP 0), .int p1, .int p2, .int p3]) (n := 4) (Nat.le_of_ble_eq_true rfl)
  rw [lg_entry_eq]
  generalize (lg_sl ([.ref (adP 0), .int p1, .int p2, .int p3]) ++ List.replicate (4 - (lg_sl ([.ref (adP 0), .int p1, .int p2, .int p3])).length) Slot.unset).toArray = ls at hl ⊢
  have hl : lv_has ls 4 [(0, .ref (adP 0)), (1, .int p1), (2, .int p2), (3, .int p3)] := hl
  refine lv_aload_n hx hb dX1_addBar_0 rfl (lv_at hl 0 rfl) ?_
  refine lv_iload_n hx hb dX1_addBar_1 rfl (lv_at hl 1 rfl) ?_
  refine lv_iload_n hx hb dX1_addBar_2 rfl (lv_at hl 2 rfl) ?_
  refine lv_iload_n hx hb dX1_addBar_3 rfl (lv_at hl 3 rfl) ?_
  have hFc := va_free (wc := (sh_P cs adP kdP grP cvP brP hzP fmP dmP e1P e2P fkP pnP fnP)) hD hS hA [0, 1, 2, 3, 4, 5, 6, 7, 8, 9, 10] rfl
  refine va_calli (va_runV (As := [.int p1, .int p2, .int p3]) (rest := []) ⟨hx, hb, hml, hown, hts⟩ (met_X1_allowsBar l D cs ev _ adP kdP grP cvP brP hzP fmP dmP e1P e2P fkP pnP fnP p1 p2 p3 _ h) (cwV 3 hts gX1_addBar_X1_allowsBar rfl rfl rfl (by decide +kernel) ⟨Nat.le_of_ble_eq_true rfl, Nat.le_of_ble_eq_true rfl⟩) (mPreV (va_recv hK hP (ci := 1) (q0 := 0) rfl rfl) hP hD hS hK hE hFc [0, 1, 2, 3, 4, 5, 6, 7, 8, 9, 10] (by decide) rfl) rfl rfl hl.1 rfl (lv_room (Nat.le_of_ble_eq_true rfl)) dX1_addBar_4 ⟨Nat.le_of_ble_eq_true rfl, Nat.le_of_ble_eq_true rfl⟩) hS (fun q _ h => hFc q h) hFc (fun r_1 u t H1 locs ht hvm hw hB hz1 hk1 hS => ?_)
  have h := hw
  obtain ⟨hP1, hK1, hD1⟩ := hB
  rw [ht] at hP1
  obtain ⟨hP, hD⟩ := mJoin (wr := ([] : va_W)) (w1 := (sh_P cs adP kdP grP cvP brP hzP fmP dmP e1P e2P fkP pnP fnP)) (w' := (sh_P cs adP kdP grP cvP brP hzP fmP dmP e1P e2P fkP pnP fnP)) hP hD [0, 1, 2, 3, 4, 5, 6, 7, 8, 9, 10] [] rfl rfl (by decide) (by decide) hk1 hFc hP1 hD1 [0, 1, 2, 3, 4, 5, 6, 7, 8, 9, 10] (by decide) rfl
  generalize H1 = H at hP hS ⊢
  refine lv_if_ne (tgt := 12) hx hb dX1_addBar_7 (by decide) (fun c_2 => ?_) (fun c_2 => ?_)
  · have h := h.2 c_2
    refine lv_aload_n hx hb dX1_addBar_12 rfl (lv_at hl 0 rfl) ?_
    refine va_get (D := D) (ci := 1) (v := .ref (adP 4)) (C := RX1) (T := TX1) (N := 12) hx hb hts (by decide +kernel) hown hK hP 0 rfl rfl 3 (by decide) (hts (.fieldLink RX1 22 "PartGraphs$Product" "bars" "[I") (by decide +kernel)) (fun _ h9 => h9) rfl dX1_addBar_13 ?_
    refine lv_iload_n hx hb dX1_addBar_16 rfl (lv_at hl 1 rfl) ?_
    refine lv_iload_n hx hb dX1_addBar_17 rfl (lv_at hl 2 rfl) ?_
    have hFc := va_free (wc := ([] : va_W)) hD hS hA [] rfl
    refine va_calli (va_runS (As := [.int p1, .int p2]) (rest := [.ref (adP 4)]) ⟨hx, hb, hml, hown, hts⟩ (met_X1_barIndex l D cs ev _ p1 p2 _ h) (va_cwS 2 hts gX1_addBar_X1_barIndex rfl rfl rfl (by decide +kernel) ⟨Nat.le_of_ble_eq_true rfl, Nat.le_of_ble_eq_true rfl⟩) (mPreS hP hD hS hK hE hFc [] (by decide) rfl) rfl rfl hl.1 rfl (lv_room (Nat.le_of_ble_eq_true rfl)) dX1_addBar_18 ⟨Nat.le_of_ble_eq_true rfl, Nat.le_of_ble_eq_true rfl⟩) hS (fun q _ h => hFc q h) hFc (fun r_3 u t H1 locs ht hvm hw hB hz1 hk1 hS => ?_)
    have h := hw
    obtain ⟨hP1, hK1, hD1⟩ := hB
    rw [ht] at hP1
    obtain ⟨hP, hD⟩ := mJoin (wr := (sh_P cs adP kdP grP cvP brP hzP fmP dmP e1P e2P fkP pnP fnP)) (w1 := ([] : va_W)) (w' := (sh_P cs adP kdP grP cvP brP hzP fmP dmP e1P e2P fkP pnP fnP)) hP hD [] [0, 1, 2, 3, 4, 5, 6, 7, 8, 9, 10] rfl rfl (by decide) (by decide) hk1 hFc hP1 hD1 [0, 1, 2, 3, 4, 5, 6, 7, 8, 9, 10] (by decide) rfl
    generalize H1 = H at hP hS ⊢
    refine lv_dup2_11 hx hb dX1_addBar_21 rfl rfl ?_
    have hin := h.1
    have h := h.2
    refine va_iald (D := D) (cl := vwCl) hx hb hK hP 4 0 rfl rfl hin dX1_addBar_22 ?_
    refine lv_iconst (v := 1) hx hb dX1_addBar_23 (by decide) ?_
    refine lv_iload_n hx hb dX1_addBar_24 rfl (lv_at hl 3 rfl) ?_
    refine lv_ishl hx hb dX1_addBar_25 ?_
    refine lv_ior hx hb dX1_addBar_26 ?_
    have hin := h.1
    have h := h.2
    refine va_iast (D := D) (cl := vwCl) hx hb hK hP hD hS 4 0 rfl rfl hin dX1_addBar_27 (fun H locs hP hD hS => ?_)
    have hP : va_P D vwCl (sh_P cs adP kdP grP cvP (upd brP r_3.toNatClampNeg ((brP r_3.toNatClampNeg) ||| (1 <<< (p3 &&& 31)))) hzP fmP dmP e1P e2P fkP pnP fnP) H := hP
    have hD : va_D A (sh_P cs adP kdP grP cvP (upd brP r_3.toNatClampNeg ((brP r_3.toNatClampNeg) ||| (1 <<< (p3 &&& 31)))) hzP fmP dmP e1P e2P fkP pnP fnP) := hD
    refine lv_iconst (v := 1) hx hb dX1_addBar_28 (by decide) ?_
    exact W.zret (v := 1) hx hb hr (by decide) (fun t ht hW => ⟨⟨1, (upd brP r_3.toNatClampNeg ((brP r_3.toNatClampNeg) ||| (1 <<< (p3 &&& 31)))), rfl, h, by rw [ht]; exact hP, va_K.moved hW.alike hK, hD⟩, hS.F ht⟩) hS.2.2 dX1_addBar_29
  · have h := h.1 c_2
    refine lv_iconst (v := 0) hx hb dX1_addBar_10 (by decide) ?_
    exact W.zret (v := 0) hx hb hr (by decide) (fun t ht hW => ⟨⟨0, brP, rfl, h, by rw [ht]; exact hP, va_K.moved hW.alike hK, hD⟩, hS.F ht⟩) hS.2.2 dX1_addBar_11
def wp_X1_allowsHazard (hzP : Nat → Int32) (pnP : Int32) (p1 : Int32) (p2 : Int32) (post : Int32 → Unit → Prop) : Prop :=
    wp_X1_hasPart pnP p1 (fun r_1 _ => ((r_1 = 0 → post 0 ()) ∧ (¬ r_1 = 0 → wp_X5_isBelow p2 8 (fun r_3 _ => ((r_3 = 0 → post 0 ()) ∧ (¬ r_3 = 0 → (vp_in p1 10 ∧ wp_X5_contains (hzP p1.toNatClampNeg) p2 (fun r_5 _ => ((r_5 = 0 → post 1 ()) ∧ (¬ r_5 = 0 → post 0 ()))))))))))
set_option maxHeartbeats 4000000 in
set_option maxRecDepth 100000 in
theorem met_X1_allowsHazard (l : Launch) (D : va_G) (cs : Nat → ClassId) (ev : Nat → Nat → Nat) (sz0 : Nat) (adP : Nat → Nat) (kdP : Nat → Int32) (grP : Nat → Int64) (cvP : Nat → Int32) (brP : Nat → Int32) (hzP : Nat → Int32) (fmP : Nat → Int32) (dmP : Nat → Int32) (e1P : Nat → Int32) (e2P : Nat → Int32) (fkP : Nat → Int32) (pnP : Int32) (fnP : Int32) (p1 : Int32) (p2 : Int32) (post : Int32 → Unit → Prop) (h : wp_X1_allowsHazard hzP pnP p1 p2 post) : Met l yX1_allowsHazard wsX1_allowsHazard ({ frames := 1, cells := 0, slots := 0, locals := 21 }) (va_Pc [.ref (adP 0), .int p1, .int p2] (mPre D cs ev (sh_P cs adP kdP grP cvP brP hzP fmP dmP e1P e2P fkP pnP fnP) sz0)) (va_Qi post (fun _ t => mAt D cs (va_A (sh_P cs adP kdP grP cvP brP hzP fmP dmP e1P e2P fkP pnP fnP) sz0) (sh_P cs adP kdP grP cvP brP hzP fmP dmP e1P e2P fkP pnP fnP) t) (va_A (sh_P cs adP kdP grP cvP brP hzP fmP dmP e1P e2P fkP pnP fnP) sz0)) 0 0 (va_A (sh_P cs adP kdP grP cvP brP hzP fmP dmP e1P e2P fkP pnP fnP) sz0) := by
  refine Met.ofW (cc := cX1_allowsHazard) (maxL := 3) (ret := (some .boolean)) (by decide) rfl ?_
  intro p e s m args below meth c s₁ B hml hv
  obtain ⟨rfl, hsz, hP, hK, hD0, hE⟩ := hv
  have hx := B.exec
  have hb := B.bytes
  have hr := B.returns
  have hts := atoms_spec (ws := wsX1_allowsHazard) B.pre
  have hown : s.vm.findClass RX1 = some m.cls := findClass_of_methodNamed B.named
  have hlocks := B.notSynchronized
  subst hsz
  have hD := hD0.self (sz := s.heap.size)
  generalize hAe : va_A (sh_P cs adP kdP grP cvP brP hzP fmP dmP e1P e2P fkP pnP fnP) s.heap.size = A at hD hE ⊢
  have hA : ∀ q : Nat, s.heap.size ≤ q → A q := fun q h => by rw [← hAe]; exact Or.inr h
  have hS : va_S A s.heap s.heap [] := va_S.rf
  have hl := lv_entry ([.ref (adP 0), .int p1, .int p2]) (n := 3) (Nat.le_of_ble_eq_true rfl)
  rw [lg_entry_eq]
  generalize (lg_sl ([.ref (adP 0), .int p1, .int p2]) ++ List.replicate (3 - (lg_sl ([.ref (adP 0), .int p1, .int p2])).length) Slot.unset).toArray = ls at hl ⊢
  have hl : lv_has ls 3 [(0, .ref (adP 0)), (1, .int p1), (2, .int p2)] := hl
  refine lv_aload_n hx hb dX1_allowsHazard_0 rfl (lv_at hl 0 rfl) ?_
  refine lv_iload_n hx hb dX1_allowsHazard_1 rfl (lv_at hl 1 rfl) ?_
  have hFc := va_free (wc := (sh_P cs adP kdP grP cvP brP hzP fmP dmP e1P e2P fkP pnP fnP)) hD hS hA [0, 1, 2, 3, 4, 5, 6, 7, 8, 9, 10] rfl
  refine va_calli (va_runV (As := [.int p1]) (rest := []) ⟨hx, hb, hml, hown, hts⟩ (met_X1_hasPart l D cs ev _ adP kdP grP cvP brP hzP fmP dmP e1P e2P fkP pnP fnP p1 _ h) (cwV 1 hts gX1_allowsHazard_X1_hasPart rfl rfl rfl (by decide +kernel) ⟨Nat.le_of_ble_eq_true rfl, Nat.le_of_ble_eq_true rfl⟩) (mPreV (va_recv hK hP (ci := 1) (q0 := 0) rfl rfl) hP hD hS hK hE hFc [0, 1, 2, 3, 4, 5, 6, 7, 8, 9, 10] (by decide) rfl) rfl rfl hl.1 rfl (lv_room (Nat.le_of_ble_eq_true rfl)) dX1_allowsHazard_2 ⟨Nat.le_of_ble_eq_true rfl, Nat.le_of_ble_eq_true rfl⟩) hS (fun q _ h => hFc q h) hFc (fun r_1 u t H1 locs ht hvm hw hB hz1 hk1 hS => ?_)
  have h := hw
  obtain ⟨hP1, hK1, hD1⟩ := hB
  rw [ht] at hP1
  obtain ⟨hP, hD⟩ := mJoin (wr := ([] : va_W)) (w1 := (sh_P cs adP kdP grP cvP brP hzP fmP dmP e1P e2P fkP pnP fnP)) (w' := (sh_P cs adP kdP grP cvP brP hzP fmP dmP e1P e2P fkP pnP fnP)) hP hD [0, 1, 2, 3, 4, 5, 6, 7, 8, 9, 10] [] rfl rfl (by decide) (by decide) hk1 hFc hP1 hD1 [0, 1, 2, 3, 4, 5, 6, 7, 8, 9, 10] (by decide) rfl
  generalize H1 = H at hP hS ⊢
  refine lv_if_eq (tgt := 34) hx hb dX1_allowsHazard_5 (by decide) (fun c_2 => ?_) (fun c_2 => ?_)
  · have h := h.1 c_2
    refine lv_iconst (v := 0) hx hb dX1_allowsHazard_34 (by decide) ?_
    exact W.zret (v := 0) hx hb hr (by decide) (fun t ht hW => ⟨⟨0, (), rfl, h, by rw [ht]; exact hP, va_K.moved hW.alike hK, hD⟩, hS.F ht⟩) hS.2.2 dX1_allowsHazard_35
  · have h := h.2 c_2
    refine lv_iload_n hx hb dX1_allowsHazard_8 rfl (lv_at hl 2 rfl) ?_
    refine lv_bipush (v := 8) hx hb dX1_allowsHazard_9 (by decide) ?_
    have hFc := va_free (wc := ([] : va_W)) hD hS hA [] rfl
    refine va_calli (va_runSN (As := [.int p2, .int 8]) (rest := []) ⟨hx, hb, hml, hown, hts⟩ (met_X5_isBelow l D cs ev _ p2 8 _ h) ⟨va_cnB 2 hts gX1_allowsHazard_X5_isBelow_n50 rfl rfl rfl hE.1.1 (hts (.initialized RX5) (by decide +kernel)) (by decide +kernel) ⟨Nat.le_of_ble_eq_true rfl, Nat.le_of_ble_eq_true rfl⟩, hts (.static yX5_isBelow) (by decide +kernel), trivial⟩ (mPreS hP hD hS hK hE hFc [] (by decide) rfl) rfl rfl hl.1 rfl (lv_room (Nat.le_of_ble_eq_true rfl)) dX1_allowsHazard_11 ⟨Nat.le_of_ble_eq_true rfl, Nat.le_of_ble_eq_true rfl⟩) hS (fun q _ h => hFc q h) hFc (fun r_3 u t H1 locs ht hvm hw hB hz1 hk1 hS => ?_)
    have h := hw
    obtain ⟨hP1, hK1, hD1⟩ := hB
    rw [ht] at hP1
    obtain ⟨hP, hD⟩ := mJoin (wr := (sh_P cs adP kdP grP cvP brP hzP fmP dmP e1P e2P fkP pnP fnP)) (w1 := ([] : va_W)) (w' := (sh_P cs adP kdP grP cvP brP hzP fmP dmP e1P e2P fkP pnP fnP)) hP hD [] [0, 1, 2, 3, 4, 5, 6, 7, 8, 9, 10] rfl rfl (by decide) (by decide) hk1 hFc hP1 hD1 [0, 1, 2, 3, 4, 5, 6, 7, 8, 9, 10] (by decide) rfl
    generalize H1 = H at hP hS ⊢
    refine lv_if_eq (tgt := 34) hx hb dX1_allowsHazard_14 (by decide) (fun c_4 => ?_) (fun c_4 => ?_)
    · have h := h.1 c_4
      refine lv_iconst (v := 0) hx hb dX1_allowsHazard_34 (by decide) ?_
      exact W.zret (v := 0) hx hb hr (by decide) (fun t ht hW => ⟨⟨0, (), rfl, h, by rw [ht]; exact hP, va_K.moved hW.alike hK, hD⟩, hS.F ht⟩) hS.2.2 dX1_allowsHazard_35
    · have h := h.2 c_4
      refine lv_aload_n hx hb dX1_allowsHazard_17 rfl (lv_at hl 0 rfl) ?_
      refine va_get (D := D) (ci := 1) (v := .ref (adP 5)) (C := RX1) (T := TX1) (N := 12) hx hb hts (by decide +kernel) hown hK hP 0 rfl rfl 4 (by decide) (hts (.fieldLink RX1 25 "PartGraphs$Product" "hazards" "[I") (by decide +kernel)) (fun _ h9 => h9) rfl dX1_allowsHazard_18 ?_
      refine lv_iload_n hx hb dX1_allowsHazard_21 rfl (lv_at hl 1 rfl) ?_
      have hin := h.1
      have h := h.2
      refine va_iald (D := D) (cl := vwCl) hx hb hK hP 5 0 rfl rfl hin dX1_allowsHazard_22 ?_
      refine lv_iload_n hx hb dX1_allowsHazard_23 rfl (lv_at hl 2 rfl) ?_
      have hFc := va_free (wc := ([] : va_W)) hD hS hA [] rfl
      refine va_calli (va_runSN (As := [.int (hzP p1.toNatClampNeg), .int p2]) (rest := []) ⟨hx, hb, hml, hown, hts⟩ (met_X5_contains l D cs ev _ (hzP p1.toNatClampNeg) p2 _ h) ⟨va_cnB 2 hts gX1_allowsHazard_X5_contains_n71 rfl rfl rfl hE.1.2.1 (hts (.initialized RX5) (by decide +kernel)) (by decide +kernel) ⟨Nat.le_of_ble_eq_true rfl, Nat.le_of_ble_eq_true rfl⟩, hts (.static yX5_contains) (by decide +kernel), trivial⟩ (mPreS hP hD hS hK hE hFc [] (by decide) rfl) rfl rfl hl.1 rfl (lv_room (Nat.le_of_ble_eq_true rfl)) dX1_allowsHazard_24 ⟨Nat.le_of_ble_eq_true rfl, Nat.le_of_ble_eq_true rfl⟩) hS (fun q _ h => hFc q h) hFc (fun r_5 u t H1 locs ht hvm hw hB hz1 hk1 hS => ?_)
      have h := hw
      obtain ⟨hP1, hK1, hD1⟩ := hB
      rw [ht] at hP1
      obtain ⟨hP, hD⟩ := mJoin (wr := (sh_P cs adP kdP grP cvP brP hzP fmP dmP e1P e2P fkP pnP fnP)) (w1 := ([] : va_W)) (w' := (sh_P cs adP kdP grP cvP brP hzP fmP dmP e1P e2P fkP pnP fnP)) hP hD [] [0, 1, 2, 3, 4, 5, 6, 7, 8, 9, 10] rfl rfl (by decide) (by decide) hk1 hFc hP1 hD1 [0, 1, 2, 3, 4, 5, 6, 7, 8, 9, 10] (by decide) rfl
      generalize H1 = H at hP hS ⊢
      refine lv_if_ne (tgt := 34) hx hb dX1_allowsHazard_27 (by decide) (fun c_6 => ?_) (fun c_6 => ?_)
      · have h := h.2 c_6
        refine lv_iconst (v := 0) hx hb dX1_allowsHazard_34 (by decide) ?_
        exact W.zret (v := 0) hx hb hr (by decide) (fun t ht hW => ⟨⟨0, (), rfl, h, by rw [ht]; exact hP, va_K.moved hW.alike hK, hD⟩, hS.F ht⟩) hS.2.2 dX1_allowsHazard_35
      · have h := h.1 c_6
        refine lv_iconst (v := 1) hx hb dX1_allowsHazard_30 (by decide) ?_
        refine lv_goto (tgt := 35) hx hb dX1_allowsHazard_31 (by decide) ?_
        exact W.zret (v := 1) hx hb hr (by decide) (fun t ht hW => ⟨⟨1, (), rfl, h, by rw [ht]; exact hP, va_K.moved hW.alike hK, hD⟩, hS.F ht⟩) hS.2.2 dX1_allowsHazard_35
def wp_X1_addHazard (hzP : Nat → Int32) (pnP : Int32) (p1 : Int32) (p2 : Int32) (post : Int32 → ((Nat → Int32)) → Prop) : Prop :=
    wp_X1_allowsHazard hzP pnP p1 p2 (fun r_1 _ => ((r_1 = 0 → post 0 hzP) ∧ (¬ r_1 = 0 → (vp_in p1 10 ∧ (vp_in p1 10 ∧ post 1 (upd hzP p1.toNatClampNeg ((hzP p1.toNatClampNeg) ||| (1 <<< (p2 &&& 31)))))))))
set_option maxHeartbeats 4000000 in
set_option maxRecDepth 100000 in
theorem met_X1_addHazard (l : Launch) (D : va_G) (cs : Nat → ClassId) (ev : Nat → Nat → Nat) (sz0 : Nat) (adP : Nat → Nat) (kdP : Nat → Int32) (grP : Nat → Int64) (cvP : Nat → Int32) (brP : Nat → Int32) (hzP : Nat → Int32) (fmP : Nat → Int32) (dmP : Nat → Int32) (e1P : Nat → Int32) (e2P : Nat → Int32) (fkP : Nat → Int32) (pnP : Int32) (fnP : Int32) (p1 : Int32) (p2 : Int32) (post : Int32 → ((Nat → Int32)) → Prop) (h : wp_X1_addHazard hzP pnP p1 p2 post) : Met l yX1_addHazard wsX1_addHazard ({ frames := 2, cells := 0, slots := 0, locals := 43 }) (va_Pc [.ref (adP 0), .int p1, .int p2] (mPre D cs ev (sh_P cs adP kdP grP cvP brP hzP fmP dmP e1P e2P fkP pnP fnP) sz0)) (va_Qi post (fun hzP' t => mAt D cs (va_A (sh_P cs adP kdP grP cvP brP hzP fmP dmP e1P e2P fkP pnP fnP) sz0) (sh_P cs adP kdP grP cvP brP hzP' fmP dmP e1P e2P fkP pnP fnP) t) (va_A (sh_P cs adP kdP grP cvP brP hzP fmP dmP e1P e2P fkP pnP fnP) sz0)) 0 0 (va_A (sh_P cs adP kdP grP cvP brP hzP fmP dmP e1P e2P fkP pnP fnP) sz0) := by
  refine Met.ofW (cc := cX1_addHazard) (maxL := 3) (ret := (some .boolean)) (by decide) rfl ?_
  intro p e s m args below meth c s₁ B hml hv
  obtain ⟨rfl, hsz, hP, hK, hD0, hE⟩ := hv
  have hx := B.exec
  have hb := B.bytes
  have hr := B.returns
  have hts := atoms_spec (ws := wsX1_addHazard) B.pre
  have hown : s.vm.findClass RX1 = some m.cls := findClass_of_methodNamed B.named
  have hlocks := B.notSynchronized
  subst hsz
  have hD := hD0.self (sz := s.heap.size)
  generalize hAe : va_A (sh_P cs adP kdP grP cvP brP hzP fmP dmP e1P e2P fkP pnP fnP) s.heap.size = A at hD hE ⊢
  have hA : ∀ q : Nat, s.heap.size ≤ q → A q := fun q h => by rw [← hAe]; exact Or.inr h
  have hS : va_S A s.heap s.heap [] := va_S.rf
  have hl := lv_entry ([.ref (adP 0), .int p1, .int p2]) (n := 3) (Nat.le_of_ble_eq_true rfl)
  rw [lg_entry_eq]
  generalize (lg_sl ([.ref (adP 0), .int p1, .int p2]) ++ List.replicate (3 - (lg_sl ([.ref (adP 0), .int p1, .int p2])).length) Slot.unset).toArray = ls at hl ⊢
  have hl : lv_has ls 3 [(0, .ref (adP 0)), (1, .int p1), (2, .int p2)] := hl
  refine lv_aload_n hx hb dX1_addHazard_0 rfl (lv_at hl 0 rfl) ?_
  refine lv_iload_n hx hb dX1_addHazard_1 rfl (lv_at hl 1 rfl) ?_
  refine lv_iload_n hx hb dX1_addHazard_2 rfl (lv_at hl 2 rfl) ?_
  have hFc := va_free (wc := (sh_P cs adP kdP grP cvP brP hzP fmP dmP e1P e2P fkP pnP fnP)) hD hS hA [0, 1, 2, 3, 4, 5, 6, 7, 8, 9, 10] rfl
  refine va_calli (va_runV (As := [.int p1, .int p2]) (rest := []) ⟨hx, hb, hml, hown, hts⟩ (met_X1_allowsHazard l D cs ev _ adP kdP grP cvP brP hzP fmP dmP e1P e2P fkP pnP fnP p1 p2 _ h) (cwV 2 hts gX1_addHazard_X1_allowsHazard rfl rfl rfl (by decide +kernel) ⟨Nat.le_of_ble_eq_true rfl, Nat.le_of_ble_eq_true rfl⟩) (mPreV (va_recv hK hP (ci := 1) (q0 := 0) rfl rfl) hP hD hS hK hE hFc [0, 1, 2, 3, 4, 5, 6, 7, 8, 9, 10] (by decide) rfl) rfl rfl hl.1 rfl (lv_room (Nat.le_of_ble_eq_true rfl)) dX1_addHazard_3 ⟨Nat.le_of_ble_eq_true rfl, Nat.le_of_ble_eq_true rfl⟩) hS (fun q _ h => hFc q h) hFc (fun r_1 u t H1 locs ht hvm hw hB hz1 hk1 hS => ?_)
  have h := hw
  obtain ⟨hP1, hK1, hD1⟩ := hB
  rw [ht] at hP1
  obtain ⟨hP, hD⟩ := mJoin (wr := ([] : va_W)) (w1 := (sh_P cs adP kdP grP cvP brP hzP fmP dmP e1P e2P fkP pnP fnP)) (w' := (sh_P cs adP kdP grP cvP brP hzP fmP dmP e1P e2P fkP pnP fnP)) hP hD [0, 1, 2, 3, 4, 5, 6, 7, 8, 9, 10] [] rfl rfl (by decide) (by decide) hk1 hFc hP1 hD1 [0, 1, 2, 3, 4, 5, 6, 7, 8, 9, 10] (by decide) rfl
  generalize H1 = H at hP hS ⊢
  refine lv_if_ne (tgt := 11) hx hb dX1_addHazard_6 (by decide) (fun c_2 => ?_) (fun c_2 => ?_)
  · have h := h.2 c_2
    refine lv_aload_n hx hb dX1_addHazard_11 rfl (lv_at hl 0 rfl) ?_
    refine va_get (D := D) (ci := 1) (v := .ref (adP 5)) (C := RX1) (T := TX1) (N := 12) hx hb hts (by decide +kernel) hown hK hP 0 rfl rfl 4 (by decide) (hts (.fieldLink RX1 25 "PartGraphs$Product" "hazards" "[I") (by decide +kernel)) (fun _ h9 => h9) rfl dX1_addHazard_12 ?_
    refine lv_iload_n hx hb dX1_addHazard_15 rfl (lv_at hl 1 rfl) ?_
    refine lv_dup2_11 hx hb dX1_addHazard_16 rfl rfl ?_
    have hin := h.1
    have h := h.2
    refine va_iald (D := D) (cl := vwCl) hx hb hK hP 5 0 rfl rfl hin dX1_addHazard_17 ?_
    refine lv_iconst (v := 1) hx hb dX1_addHazard_18 (by decide) ?_
    refine lv_iload_n hx hb dX1_addHazard_19 rfl (lv_at hl 2 rfl) ?_
    refine lv_ishl hx hb dX1_addHazard_20 ?_
    refine lv_ior hx hb dX1_addHazard_21 ?_
    have hin := h.1
    have h := h.2
    refine va_iast (D := D) (cl := vwCl) hx hb hK hP hD hS 5 0 rfl rfl hin dX1_addHazard_22 (fun H locs hP hD hS => ?_)
    have hP : va_P D vwCl (sh_P cs adP kdP grP cvP brP (upd hzP p1.toNatClampNeg ((hzP p1.toNatClampNeg) ||| (1 <<< (p2 &&& 31)))) fmP dmP e1P e2P fkP pnP fnP) H := hP
    have hD : va_D A (sh_P cs adP kdP grP cvP brP (upd hzP p1.toNatClampNeg ((hzP p1.toNatClampNeg) ||| (1 <<< (p2 &&& 31)))) fmP dmP e1P e2P fkP pnP fnP) := hD
    refine lv_iconst (v := 1) hx hb dX1_addHazard_23 (by decide) ?_
    exact W.zret (v := 1) hx hb hr (by decide) (fun t ht hW => ⟨⟨1, (upd hzP p1.toNatClampNeg ((hzP p1.toNatClampNeg) ||| (1 <<< (p2 &&& 31)))), rfl, h, by rw [ht]; exact hP, va_K.moved hW.alike hK, hD⟩, hS.F ht⟩) hS.2.2 dX1_addHazard_24
  · have h := h.1 c_2
    refine lv_iconst (v := 0) hx hb dX1_addHazard_9 (by decide) ?_
    exact W.zret (v := 0) hx hb hr (by decide) (fun t ht hW => ⟨⟨0, hzP, rfl, h, by rw [ht]; exact hP, va_K.moved hW.alike hK, hD⟩, hS.F ht⟩) hS.2.2 dX1_addHazard_10
def wp_X1_allowsOption (fmP : Nat → Int32) (pnP : Int32) (p1 : Int32) (p2 : Int32) (post : Int32 → Unit → Prop) : Prop :=
    wp_X1_hasPart pnP p1 (fun r_1 _ => ((r_1 = 0 → post 0 ()) ∧ (¬ r_1 = 0 → wp_X5_isBelow p2 4 (fun r_3 _ => ((r_3 = 0 → post 0 ()) ∧ (¬ r_3 = 0 → (vp_in p1 10 ∧ (((fmP p1.toNatClampNeg) = p2 → post 0 ()) ∧ (¬ (fmP p1.toNatClampNeg) = p2 → post 1 ())))))))))
set_option maxHeartbeats 4000000 in
set_option maxRecDepth 100000 in
theorem met_X1_allowsOption (l : Launch) (D : va_G) (cs : Nat → ClassId) (ev : Nat → Nat → Nat) (sz0 : Nat) (adP : Nat → Nat) (kdP : Nat → Int32) (grP : Nat → Int64) (cvP : Nat → Int32) (brP : Nat → Int32) (hzP : Nat → Int32) (fmP : Nat → Int32) (dmP : Nat → Int32) (e1P : Nat → Int32) (e2P : Nat → Int32) (fkP : Nat → Int32) (pnP : Int32) (fnP : Int32) (p1 : Int32) (p2 : Int32) (post : Int32 → Unit → Prop) (h : wp_X1_allowsOption fmP pnP p1 p2 post) : Met l yX1_allowsOption wsX1_allowsOption ({ frames := 1, cells := 0, slots := 0, locals := 21 }) (va_Pc [.ref (adP 0), .int p1, .int p2] (mPre D cs ev (sh_P cs adP kdP grP cvP brP hzP fmP dmP e1P e2P fkP pnP fnP) sz0)) (va_Qi post (fun _ t => mAt D cs (va_A (sh_P cs adP kdP grP cvP brP hzP fmP dmP e1P e2P fkP pnP fnP) sz0) (sh_P cs adP kdP grP cvP brP hzP fmP dmP e1P e2P fkP pnP fnP) t) (va_A (sh_P cs adP kdP grP cvP brP hzP fmP dmP e1P e2P fkP pnP fnP) sz0)) 0 0 (va_A (sh_P cs adP kdP grP cvP brP hzP fmP dmP e1P e2P fkP pnP fnP) sz0) := by
  refine Met.ofW (cc := cX1_allowsOption) (maxL := 3) (ret := (some .boolean)) (by decide) rfl ?_
  intro p e s m args below meth c s₁ B hml hv
  obtain ⟨rfl, hsz, hP, hK, hD0, hE⟩ := hv
  have hx := B.exec
  have hb := B.bytes
  have hr := B.returns
  have hts := atoms_spec (ws := wsX1_allowsOption) B.pre
  have hown : s.vm.findClass RX1 = some m.cls := findClass_of_methodNamed B.named
  have hlocks := B.notSynchronized
  subst hsz
  have hD := hD0.self (sz := s.heap.size)
  generalize hAe : va_A (sh_P cs adP kdP grP cvP brP hzP fmP dmP e1P e2P fkP pnP fnP) s.heap.size = A at hD hE ⊢
  have hA : ∀ q : Nat, s.heap.size ≤ q → A q := fun q h => by rw [← hAe]; exact Or.inr h
  have hS : va_S A s.heap s.heap [] := va_S.rf
  have hl := lv_entry ([.ref (adP 0), .int p1, .int p2]) (n := 3) (Nat.le_of_ble_eq_true rfl)
  rw [lg_entry_eq]
  generalize (lg_sl ([.ref (adP 0), .int p1, .int p2]) ++ List.replicate (3 - (lg_sl ([.ref (adP 0), .int p1, .int p2])).length) Slot.unset).toArray = ls at hl ⊢
  have hl : lv_has ls 3 [(0, .ref (adP 0)), (1, .int p1), (2, .int p2)] := hl
  refine lv_aload_n hx hb dX1_allowsOption_0 rfl (lv_at hl 0 rfl) ?_
  refine lv_iload_n hx hb dX1_allowsOption_1 rfl (lv_at hl 1 rfl) ?_
  have hFc := va_free (wc := (sh_P cs adP kdP grP cvP brP hzP fmP dmP e1P e2P fkP pnP fnP)) hD hS hA [0, 1, 2, 3, 4, 5, 6, 7, 8, 9, 10] rfl
  refine va_calli (va_runV (As := [.int p1]) (rest := []) ⟨hx, hb, hml, hown, hts⟩ (met_X1_hasPart l D cs ev _ adP kdP grP cvP brP hzP fmP dmP e1P e2P fkP pnP fnP p1 _ h) (cwV 1 hts gX1_allowsOption_X1_hasPart rfl rfl rfl (by decide +kernel) ⟨Nat.le_of_ble_eq_true rfl, Nat.le_of_ble_eq_true rfl⟩) (mPreV (va_recv hK hP (ci := 1) (q0 := 0) rfl rfl) hP hD hS hK hE hFc [0, 1, 2, 3, 4, 5, 6, 7, 8, 9, 10] (by decide) rfl) rfl rfl hl.1 rfl (lv_room (Nat.le_of_ble_eq_true rfl)) dX1_allowsOption_2 ⟨Nat.le_of_ble_eq_true rfl, Nat.le_of_ble_eq_true rfl⟩) hS (fun q _ h => hFc q h) hFc (fun r_1 u t H1 locs ht hvm hw hB hz1 hk1 hS => ?_)
  have h := hw
  obtain ⟨hP1, hK1, hD1⟩ := hB
  rw [ht] at hP1
  obtain ⟨hP, hD⟩ := mJoin (wr := ([] : va_W)) (w1 := (sh_P cs adP kdP grP cvP brP hzP fmP dmP e1P e2P fkP pnP fnP)) (w' := (sh_P cs adP kdP grP cvP brP hzP fmP dmP e1P e2P fkP pnP fnP)) hP hD [0, 1, 2, 3, 4, 5, 6, 7, 8, 9, 10] [] rfl rfl (by decide) (by decide) hk1 hFc hP1 hD1 [0, 1, 2, 3, 4, 5, 6, 7, 8, 9, 10] (by decide) rfl
  generalize H1 = H at hP hS ⊢
  refine lv_if_eq (tgt := 30) hx hb dX1_allowsOption_5 (by decide) (fun c_2 => ?_) (fun c_2 => ?_)
  · have h := h.1 c_2
    refine lv_iconst (v := 0) hx hb dX1_allowsOption_30 (by decide) ?_
    exact W.zret (v := 0) hx hb hr (by decide) (fun t ht hW => ⟨⟨0, (), rfl, h, by rw [ht]; exact hP, va_K.moved hW.alike hK, hD⟩, hS.F ht⟩) hS.2.2 dX1_allowsOption_31
  · have h := h.2 c_2
    refine lv_iload_n hx hb dX1_allowsOption_8 rfl (lv_at hl 2 rfl) ?_
    refine lv_iconst (v := 4) hx hb dX1_allowsOption_9 (by decide) ?_
    have hFc := va_free (wc := ([] : va_W)) hD hS hA [] rfl
    refine va_calli (va_runSN (As := [.int p2, .int 4]) (rest := []) ⟨hx, hb, hml, hown, hts⟩ (met_X5_isBelow l D cs ev _ p2 4 _ h) ⟨va_cnB 2 hts gX1_allowsOption_X5_isBelow_n50 rfl rfl rfl hE.1.1 (hts (.initialized RX5) (by decide +kernel)) (by decide +kernel) ⟨Nat.le_of_ble_eq_true rfl, Nat.le_of_ble_eq_true rfl⟩, hts (.static yX5_isBelow) (by decide +kernel), trivial⟩ (mPreS hP hD hS hK hE hFc [] (by decide) rfl) rfl rfl hl.1 rfl (lv_room (Nat.le_of_ble_eq_true rfl)) dX1_allowsOption_10 ⟨Nat.le_of_ble_eq_true rfl, Nat.le_of_ble_eq_true rfl⟩) hS (fun q _ h => hFc q h) hFc (fun r_3 u t H1 locs ht hvm hw hB hz1 hk1 hS => ?_)
    have h := hw
    obtain ⟨hP1, hK1, hD1⟩ := hB
    rw [ht] at hP1
    obtain ⟨hP, hD⟩ := mJoin (wr := (sh_P cs adP kdP grP cvP brP hzP fmP dmP e1P e2P fkP pnP fnP)) (w1 := ([] : va_W)) (w' := (sh_P cs adP kdP grP cvP brP hzP fmP dmP e1P e2P fkP pnP fnP)) hP hD [] [0, 1, 2, 3, 4, 5, 6, 7, 8, 9, 10] rfl rfl (by decide) (by decide) hk1 hFc hP1 hD1 [0, 1, 2, 3, 4, 5, 6, 7, 8, 9, 10] (by decide) rfl
    generalize H1 = H at hP hS ⊢
    refine lv_if_eq (tgt := 30) hx hb dX1_allowsOption_13 (by decide) (fun c_4 => ?_) (fun c_4 => ?_)
    · have h := h.1 c_4
      refine lv_iconst (v := 0) hx hb dX1_allowsOption_30 (by decide) ?_
      exact W.zret (v := 0) hx hb hr (by decide) (fun t ht hW => ⟨⟨0, (), rfl, h, by rw [ht]; exact hP, va_K.moved hW.alike hK, hD⟩, hS.F ht⟩) hS.2.2 dX1_allowsOption_31
    · have h := h.2 c_4
      refine lv_aload_n hx hb dX1_allowsOption_16 rfl (lv_at hl 0 rfl) ?_
      refine va_get (D := D) (ci := 1) (v := .ref (adP 6)) (C := RX1) (T := TX1) (N := 12) hx hb hts (by decide +kernel) hown hK hP 0 rfl rfl 5 (by decide) (hts (.fieldLink RX1 28 "PartGraphs$Product" "families" "[I") (by decide +kernel)) (fun _ h9 => h9) rfl dX1_allowsOption_17 ?_
      refine lv_iload_n hx hb dX1_allowsOption_20 rfl (lv_at hl 1 rfl) ?_
      have hin := h.1
      have h := h.2
      refine va_iald (D := D) (cl := vwCl) hx hb hK hP 6 0 rfl rfl hin dX1_allowsOption_21 ?_
      refine lv_iload_n hx hb dX1_allowsOption_22 rfl (lv_at hl 2 rfl) ?_
      refine lv_icmp_eq (tgt := 30) hx hb dX1_allowsOption_23 (by decide) (fun c_5 => ?_) (fun c_5 => ?_)
      · have h := h.1 c_5
        refine lv_iconst (v := 0) hx hb dX1_allowsOption_30 (by decide) ?_
        exact W.zret (v := 0) hx hb hr (by decide) (fun t ht hW => ⟨⟨0, (), rfl, h, by rw [ht]; exact hP, va_K.moved hW.alike hK, hD⟩, hS.F ht⟩) hS.2.2 dX1_allowsOption_31
      · have h := h.2 c_5
        refine lv_iconst (v := 1) hx hb dX1_allowsOption_26 (by decide) ?_
        refine lv_goto (tgt := 31) hx hb dX1_allowsOption_27 (by decide) ?_
        exact W.zret (v := 1) hx hb hr (by decide) (fun t ht hW => ⟨⟨1, (), rfl, h, by rw [ht]; exact hP, va_K.moved hW.alike hK, hD⟩, hS.F ht⟩) hS.2.2 dX1_allowsOption_31
def wp_X1_addOption (fmP : Nat → Int32) (pnP : Int32) (p1 : Int32) (p2 : Int32) (post : Int32 → ((Nat → Int32)) → Prop) : Prop :=
    wp_X1_allowsOption fmP pnP p1 p2 (fun r_1 _ => ((r_1 = 0 → post 0 fmP) ∧ (¬ r_1 = 0 → (vp_in p1 10 ∧ post 1 (upd fmP p1.toNatClampNeg p2)))))
set_option maxHeartbeats 4000000 in
set_option maxRecDepth 100000 in
theorem met_X1_addOption (l : Launch) (D : va_G) (cs : Nat → ClassId) (ev : Nat → Nat → Nat) (sz0 : Nat) (adP : Nat → Nat) (kdP : Nat → Int32) (grP : Nat → Int64) (cvP : Nat → Int32) (brP : Nat → Int32) (hzP : Nat → Int32) (fmP : Nat → Int32) (dmP : Nat → Int32) (e1P : Nat → Int32) (e2P : Nat → Int32) (fkP : Nat → Int32) (pnP : Int32) (fnP : Int32) (p1 : Int32) (p2 : Int32) (post : Int32 → ((Nat → Int32)) → Prop) (h : wp_X1_addOption fmP pnP p1 p2 post) : Met l yX1_addOption wsX1_addOption ({ frames := 2, cells := 0, slots := 0, locals := 43 }) (va_Pc [.ref (adP 0), .int p1, .int p2] (mPre D cs ev (sh_P cs adP kdP grP cvP brP hzP fmP dmP e1P e2P fkP pnP fnP) sz0)) (va_Qi post (fun fmP' t => mAt D cs (va_A (sh_P cs adP kdP grP cvP brP hzP fmP dmP e1P e2P fkP pnP fnP) sz0) (sh_P cs adP kdP grP cvP brP hzP fmP' dmP e1P e2P fkP pnP fnP) t) (va_A (sh_P cs adP kdP grP cvP brP hzP fmP dmP e1P e2P fkP pnP fnP) sz0)) 0 0 (va_A (sh_P cs adP kdP grP cvP brP hzP fmP dmP e1P e2P fkP pnP fnP) sz0) := by
  refine Met.ofW (cc := cX1_addOption) (maxL := 3) (ret := (some .boolean)) (by decide) rfl ?_
  intro p e s m args below meth c s₁ B hml hv
  obtain ⟨rfl, hsz, hP, hK, hD0, hE⟩ := hv
  have hx := B.exec
  have hb := B.bytes
  have hr := B.returns
  have hts := atoms_spec (ws := wsX1_addOption) B.pre
  have hown : s.vm.findClass RX1 = some m.cls := findClass_of_methodNamed B.named
  have hlocks := B.notSynchronized
  subst hsz
  have hD := hD0.self (sz := s.heap.size)
  generalize hAe : va_A (sh_P cs adP kdP grP cvP brP hzP fmP dmP e1P e2P fkP pnP fnP) s.heap.size = A at hD hE ⊢
  have hA : ∀ q : Nat, s.heap.size ≤ q → A q := fun q h => by rw [← hAe]; exact Or.inr h
  have hS : va_S A s.heap s.heap [] := va_S.rf
  have hl := lv_entry ([.ref (adP 0), .int p1, .int p2]) (n := 3) (Nat.le_of_ble_eq_true rfl)
  rw [lg_entry_eq]
  generalize (lg_sl ([.ref (adP 0), .int p1, .int p2]) ++ List.replicate (3 - (lg_sl ([.ref (adP 0), .int p1, .int p2])).length) Slot.unset).toArray = ls at hl ⊢
  have hl : lv_has ls 3 [(0, .ref (adP 0)), (1, .int p1), (2, .int p2)] := hl
  refine lv_aload_n hx hb dX1_addOption_0 rfl (lv_at hl 0 rfl) ?_
  refine lv_iload_n hx hb dX1_addOption_1 rfl (lv_at hl 1 rfl) ?_
  refine lv_iload_n hx hb dX1_addOption_2 rfl (lv_at hl 2 rfl) ?_
  have hFc := va_free (wc := (sh_P cs adP kdP grP cvP brP hzP fmP dmP e1P e2P fkP pnP fnP)) hD hS hA [0, 1, 2, 3, 4, 5, 6, 7, 8, 9, 10] rfl
  refine va_calli (va_runV (As := [.int p1, .int p2]) (rest := []) ⟨hx, hb, hml, hown, hts⟩ (met_X1_allowsOption l D cs ev _ adP kdP grP cvP brP hzP fmP dmP e1P e2P fkP pnP fnP p1 p2 _ h) (cwV 2 hts gX1_addOption_X1_allowsOption rfl rfl rfl (by decide +kernel) ⟨Nat.le_of_ble_eq_true rfl, Nat.le_of_ble_eq_true rfl⟩) (mPreV (va_recv hK hP (ci := 1) (q0 := 0) rfl rfl) hP hD hS hK hE hFc [0, 1, 2, 3, 4, 5, 6, 7, 8, 9, 10] (by decide) rfl) rfl rfl hl.1 rfl (lv_room (Nat.le_of_ble_eq_true rfl)) dX1_addOption_3 ⟨Nat.le_of_ble_eq_true rfl, Nat.le_of_ble_eq_true rfl⟩) hS (fun q _ h => hFc q h) hFc (fun r_1 u t H1 locs ht hvm hw hB hz1 hk1 hS => ?_)
  have h := hw
  obtain ⟨hP1, hK1, hD1⟩ := hB
  rw [ht] at hP1
  obtain ⟨hP, hD⟩ := mJoin (wr := ([] : va_W)) (w1 := (sh_P cs adP kdP grP cvP brP hzP fmP dmP e1P e2P fkP pnP fnP)) (w' := (sh_P cs adP kdP grP cvP brP hzP fmP dmP e1P e2P fkP pnP fnP)) hP hD [0, 1, 2, 3, 4, 5, 6, 7, 8, 9, 10] [] rfl rfl (by decide) (by decide) hk1 hFc hP1 hD1 [0, 1, 2, 3, 4, 5, 6, 7, 8, 9, 10] (by decide) rfl
  generalize H1 = H at hP hS ⊢
  refine lv_if_ne (tgt := 11) hx hb dX1_addOption_6 (by decide) (fun c_2 => ?_) (fun c_2 => ?_)
  · have h := h.2 c_2
    refine lv_aload_n hx hb dX1_addOption_11 rfl (lv_at hl 0 rfl) ?_
    refine va_get (D := D) (ci := 1) (v := .ref (adP 6)) (C := RX1) (T := TX1) (N := 12) hx hb hts (by decide +kernel) hown hK hP 0 rfl rfl 5 (by decide) (hts (.fieldLink RX1 28 "PartGraphs$Product" "families" "[I") (by decide +kernel)) (fun _ h9 => h9) rfl dX1_addOption_12 ?_
    refine lv_iload_n hx hb dX1_addOption_15 rfl (lv_at hl 1 rfl) ?_
    refine lv_iload_n hx hb dX1_addOption_16 rfl (lv_at hl 2 rfl) ?_
    have hin := h.1
    have h := h.2
    refine va_iast (D := D) (cl := vwCl) hx hb hK hP hD hS 6 0 rfl rfl hin dX1_addOption_17 (fun H locs hP hD hS => ?_)
    have hP : va_P D vwCl (sh_P cs adP kdP grP cvP brP hzP (upd fmP p1.toNatClampNeg p2) dmP e1P e2P fkP pnP fnP) H := hP
    have hD : va_D A (sh_P cs adP kdP grP cvP brP hzP (upd fmP p1.toNatClampNeg p2) dmP e1P e2P fkP pnP fnP) := hD
    refine lv_iconst (v := 1) hx hb dX1_addOption_18 (by decide) ?_
    exact W.zret (v := 1) hx hb hr (by decide) (fun t ht hW => ⟨⟨1, (upd fmP p1.toNatClampNeg p2), rfl, h, by rw [ht]; exact hP, va_K.moved hW.alike hK, hD⟩, hS.F ht⟩) hS.2.2 dX1_addOption_19
  · have h := h.1 c_2
    refine lv_iconst (v := 0) hx hb dX1_addOption_9 (by decide) ?_
    exact W.zret (v := 0) hx hb hr (by decide) (fun t ht hW => ⟨⟨0, fmP, rfl, h, by rw [ht]; exact hP, va_K.moved hW.alike hK, hD⟩, hS.F ht⟩) hS.2.2 dX1_addOption_10
def wp_X1_allowsDamage (pnP : Int32) (p1 : Int32) (p2 : Int32) (post : Int32 → Unit → Prop) : Prop :=
    wp_X1_hasPart pnP p1 (fun r_1 _ => ((r_1 = 0 → post 0 ()) ∧ (¬ r_1 = 0 → wp_X5_isBelow p2 4 (fun r_3 _ => ((r_3 = 0 → post 0 ()) ∧ (¬ r_3 = 0 → post 1 ()))))))
set_option maxHeartbeats 4000000 in
set_option maxRecDepth 100000 in
theorem met_X1_allowsDamage (l : Launch) (D : va_G) (cs : Nat → ClassId) (ev : Nat → Nat → Nat) (sz0 : Nat) (adP : Nat → Nat) (kdP : Nat → Int32) (grP : Nat → Int64) (cvP : Nat → Int32) (brP : Nat → Int32) (hzP : Nat → Int32) (fmP : Nat → Int32) (dmP : Nat → Int32) (e1P : Nat → Int32) (e2P : Nat → Int32) (fkP : Nat → Int32) (pnP : Int32) (fnP : Int32) (p1 : Int32) (p2 : Int32) (post : Int32 → Unit → Prop) (h : wp_X1_allowsDamage pnP p1 p2 post) : Met l yX1_allowsDamage wsX1_allowsDamage ({ frames := 1, cells := 0, slots := 0, locals := 21 }) (va_Pc [.ref (adP 0), .int p1, .int p2] (mPre D cs ev (sh_P cs adP kdP grP cvP brP hzP fmP dmP e1P e2P fkP pnP fnP) sz0)) (va_Qi post (fun _ t => mAt D cs (va_A (sh_P cs adP kdP grP cvP brP hzP fmP dmP e1P e2P fkP pnP fnP) sz0) (sh_P cs adP kdP grP cvP brP hzP fmP dmP e1P e2P fkP pnP fnP) t) (va_A (sh_P cs adP kdP grP cvP brP hzP fmP dmP e1P e2P fkP pnP fnP) sz0)) 0 0 (va_A (sh_P cs adP kdP grP cvP brP hzP fmP dmP e1P e2P fkP pnP fnP) sz0) := by
  refine Met.ofW (cc := cX1_allowsDamage) (maxL := 3) (ret := (some .boolean)) (by decide) rfl ?_
  intro p e s m args below meth c s₁ B hml hv
  obtain ⟨rfl, hsz, hP, hK, hD0, hE⟩ := hv
  have hx := B.exec
  have hb := B.bytes
  have hr := B.returns
  have hts := atoms_spec (ws := wsX1_allowsDamage) B.pre
  have hown : s.vm.findClass RX1 = some m.cls := findClass_of_methodNamed B.named
  have hlocks := B.notSynchronized
  subst hsz
  have hD := hD0.self (sz := s.heap.size)
  generalize hAe : va_A (sh_P cs adP kdP grP cvP brP hzP fmP dmP e1P e2P fkP pnP fnP) s.heap.size = A at hD hE ⊢
  have hA : ∀ q : Nat, s.heap.size ≤ q → A q := fun q h => by rw [← hAe]; exact Or.inr h
  have hS : va_S A s.heap s.heap [] := va_S.rf
  have hl := lv_entry ([.ref (adP 0), .int p1, .int p2]) (n := 3) (Nat.le_of_ble_eq_true rfl)
  rw [lg_entry_eq]
  generalize (lg_sl ([.ref (adP 0), .int p1, .int p2]) ++ List.replicate (3 - (lg_sl ([.ref (adP 0), .int p1, .int p2])).length) Slot.unset).toArray = ls at hl ⊢
  have hl : lv_has ls 3 [(0, .ref (adP 0)), (1, .int p1), (2, .int p2)] := hl
  refine lv_aload_n hx hb dX1_allowsDamage_0 rfl (lv_at hl 0 rfl) ?_
  refine lv_iload_n hx hb dX1_allowsDamage_1 rfl (lv_at hl 1 rfl) ?_
  have hFc := va_free (wc := (sh_P cs adP kdP grP cvP brP hzP fmP dmP e1P e2P fkP pnP fnP)) hD hS hA [0, 1, 2, 3, 4, 5, 6, 7, 8, 9, 10] rfl
  refine va_calli (va_runV (As := [.int p1]) (rest := []) ⟨hx, hb, hml, hown, hts⟩ (met_X1_hasPart l D cs ev _ adP kdP grP cvP brP hzP fmP dmP e1P e2P fkP pnP fnP p1 _ h) (cwV 1 hts gX1_allowsDamage_X1_hasPart rfl rfl rfl (by decide +kernel) ⟨Nat.le_of_ble_eq_true rfl, Nat.le_of_ble_eq_true rfl⟩) (mPreV (va_recv hK hP (ci := 1) (q0 := 0) rfl rfl) hP hD hS hK hE hFc [0, 1, 2, 3, 4, 5, 6, 7, 8, 9, 10] (by decide) rfl) rfl rfl hl.1 rfl (lv_room (Nat.le_of_ble_eq_true rfl)) dX1_allowsDamage_2 ⟨Nat.le_of_ble_eq_true rfl, Nat.le_of_ble_eq_true rfl⟩) hS (fun q _ h => hFc q h) hFc (fun r_1 u t H1 locs ht hvm hw hB hz1 hk1 hS => ?_)
  have h := hw
  obtain ⟨hP1, hK1, hD1⟩ := hB
  rw [ht] at hP1
  obtain ⟨hP, hD⟩ := mJoin (wr := ([] : va_W)) (w1 := (sh_P cs adP kdP grP cvP brP hzP fmP dmP e1P e2P fkP pnP fnP)) (w' := (sh_P cs adP kdP grP cvP brP hzP fmP dmP e1P e2P fkP pnP fnP)) hP hD [0, 1, 2, 3, 4, 5, 6, 7, 8, 9, 10] [] rfl rfl (by decide) (by decide) hk1 hFc hP1 hD1 [0, 1, 2, 3, 4, 5, 6, 7, 8, 9, 10] (by decide) rfl
  generalize H1 = H at hP hS ⊢
  refine lv_if_eq (tgt := 20) hx hb dX1_allowsDamage_5 (by decide) (fun c_2 => ?_) (fun c_2 => ?_)
  · have h := h.1 c_2
    refine lv_iconst (v := 0) hx hb dX1_allowsDamage_20 (by decide) ?_
    exact W.zret (v := 0) hx hb hr (by decide) (fun t ht hW => ⟨⟨0, (), rfl, h, by rw [ht]; exact hP, va_K.moved hW.alike hK, hD⟩, hS.F ht⟩) hS.2.2 dX1_allowsDamage_21
  · have h := h.2 c_2
    refine lv_iload_n hx hb dX1_allowsDamage_8 rfl (lv_at hl 2 rfl) ?_
    refine lv_iconst (v := 4) hx hb dX1_allowsDamage_9 (by decide) ?_
    have hFc := va_free (wc := ([] : va_W)) hD hS hA [] rfl
    refine va_calli (va_runSN (As := [.int p2, .int 4]) (rest := []) ⟨hx, hb, hml, hown, hts⟩ (met_X5_isBelow l D cs ev _ p2 4 _ h) ⟨va_cnB 2 hts gX1_allowsDamage_X5_isBelow_n50 rfl rfl rfl hE.1.1 (hts (.initialized RX5) (by decide +kernel)) (by decide +kernel) ⟨Nat.le_of_ble_eq_true rfl, Nat.le_of_ble_eq_true rfl⟩, hts (.static yX5_isBelow) (by decide +kernel), trivial⟩ (mPreS hP hD hS hK hE hFc [] (by decide) rfl) rfl rfl hl.1 rfl (lv_room (Nat.le_of_ble_eq_true rfl)) dX1_allowsDamage_10 ⟨Nat.le_of_ble_eq_true rfl, Nat.le_of_ble_eq_true rfl⟩) hS (fun q _ h => hFc q h) hFc (fun r_3 u t H1 locs ht hvm hw hB hz1 hk1 hS => ?_)
    have h := hw
    obtain ⟨hP1, hK1, hD1⟩ := hB
    rw [ht] at hP1
    obtain ⟨hP, hD⟩ := mJoin (wr := (sh_P cs adP kdP grP cvP brP hzP fmP dmP e1P e2P fkP pnP fnP)) (w1 := ([] : va_W)) (w' := (sh_P cs adP kdP grP cvP brP hzP fmP dmP e1P e2P fkP pnP fnP)) hP hD [] [0, 1, 2, 3, 4, 5, 6, 7, 8, 9, 10] rfl rfl (by decide) (by decide) hk1 hFc hP1 hD1 [0, 1, 2, 3, 4, 5, 6, 7, 8, 9, 10] (by decide) rfl
    generalize H1 = H at hP hS ⊢
    refine lv_if_eq (tgt := 20) hx hb dX1_allowsDamage_13 (by decide) (fun c_4 => ?_) (fun c_4 => ?_)
    · have h := h.1 c_4
      refine lv_iconst (v := 0) hx hb dX1_allowsDamage_20 (by decide) ?_
      exact W.zret (v := 0) hx hb hr (by decide) (fun t ht hW => ⟨⟨0, (), rfl, h, by rw [ht]; exact hP, va_K.moved hW.alike hK, hD⟩, hS.F ht⟩) hS.2.2 dX1_allowsDamage_21
    · have h := h.2 c_4
      refine lv_iconst (v := 1) hx hb dX1_allowsDamage_16 (by decide) ?_
      refine lv_goto (tgt := 21) hx hb dX1_allowsDamage_17 (by decide) ?_
      exact W.zret (v := 1) hx hb hr (by decide) (fun t ht hW => ⟨⟨1, (), rfl, h, by rw [ht]; exact hP, va_K.moved hW.alike hK, hD⟩, hS.F ht⟩) hS.2.2 dX1_allowsDamage_21
def wp_X1_setDamage (dmP : Nat → Int32) (pnP : Int32) (p1 : Int32) (p2 : Int32) (post : Int32 → ((Nat → Int32)) → Prop) : Prop :=
    wp_X1_allowsDamage pnP p1 p2 (fun r_1 _ => ((r_1 = 0 → post (-1) dmP) ∧ (¬ r_1 = 0 → (vp_in p1 10 ∧ (vp_in p1 10 ∧ post (dmP p1.toNatClampNeg) (upd dmP p1.toNatClampNeg p2))))))
set_option maxHeartbeats 4000000 in
set_option maxRecDepth 100000 in
theorem met_X1_setDamage (l : Launch) (D : va_G) (cs : Nat → ClassId) (ev : Nat → Nat → Nat) (sz0 : Nat) (adP : Nat → Nat) (kdP : Nat → Int32) (grP : Nat → Int64) (cvP : Nat → Int32) (brP : Nat → Int32) (hzP : Nat → Int32) (fmP : Nat → Int32) (dmP : Nat → Int32) (e1P : Nat → Int32) (e2P : Nat → Int32) (fkP : Nat → Int32) (pnP : Int32) (fnP : Int32) (p1 : Int32) (p2 : Int32) (post : Int32 → ((Nat → Int32)) → Prop) (h : wp_X1_setDamage dmP pnP p1 p2 post) : Met l yX1_setDamage wsX1_setDamage ({ frames := 2, cells := 0, slots := 0, locals := 43 }) (va_Pc [.ref (adP 0), .int p1, .int p2] (mPre D cs ev (sh_P cs adP kdP grP cvP brP hzP fmP dmP e1P e2P fkP pnP fnP) sz0)) (va_Qi post (fun dmP' t => mAt D cs (va_A (sh_P cs adP kdP grP cvP brP hzP fmP dmP e1P e2P fkP pnP fnP) sz0) (sh_P cs adP kdP grP cvP brP hzP fmP dmP' e1P e2P fkP pnP fnP) t) (va_A (sh_P cs adP kdP grP cvP brP hzP fmP dmP e1P e2P fkP pnP fnP) sz0)) 0 0 (va_A (sh_P cs adP kdP grP cvP brP hzP fmP dmP e1P e2P fkP pnP fnP) sz0) := by
  refine Met.ofW (cc := cX1_setDamage) (maxL := 4) (ret := (some .int)) (by decide) rfl ?_
  intro p e s m args below meth c s₁ B hml hv
  obtain ⟨rfl, hsz, hP, hK, hD0, hE⟩ := hv
  have hx := B.exec
  have hb := B.bytes
  have hr := B.returns
  have hts := atoms_spec (ws := wsX1_setDamage) B.pre
  have hown : s.vm.findClass RX1 = some m.cls := findClass_of_methodNamed B.named
  have hlocks := B.notSynchronized
  subst hsz
  have hD := hD0.self (sz := s.heap.size)
  generalize hAe : va_A (sh_P cs adP kdP grP cvP brP hzP fmP dmP e1P e2P fkP pnP fnP) s.heap.size = A at hD hE ⊢
  have hA : ∀ q : Nat, s.heap.size ≤ q → A q := fun q h => by rw [← hAe]; exact Or.inr h
  have hS : va_S A s.heap s.heap [] := va_S.rf
  have hl := lv_entry ([.ref (adP 0), .int p1, .int p2]) (n := 4) (Nat.le_of_ble_eq_true rfl)
  rw [lg_entry_eq]
  generalize (lg_sl ([.ref (adP 0), .int p1, .int p2]) ++ List.replicate (4 - (lg_sl ([.ref (adP 0), .int p1, .int p2])).length) Slot.unset).toArray = ls at hl ⊢
  have hl : lv_has ls 4 [(0, .ref (adP 0)), (1, .int p1), (2, .int p2)] := hl
  refine lv_aload_n hx hb dX1_setDamage_0 rfl (lv_at hl 0 rfl) ?_
  refine lv_iload_n hx hb dX1_setDamage_1 rfl (lv_at hl 1 rfl) ?_
  refine lv_iload_n hx hb dX1_setDamage_2 rfl (lv_at hl 2 rfl) ?_
  have hFc := va_free (wc := (sh_P cs adP kdP grP cvP brP hzP fmP dmP e1P e2P fkP pnP fnP)) hD hS hA [0, 1, 2, 3, 4, 5, 6, 7, 8, 9, 10] rfl
  refine va_calli (va_runV (As := [.int p1, .int p2]) (rest := []) ⟨hx, hb, hml, hown, hts⟩ (met_X1_allowsDamage l D cs ev _ adP kdP grP cvP brP hzP fmP dmP e1P e2P fkP pnP fnP p1 p2 _ h) (cwV 2 hts gX1_setDamage_X1_allowsDamage rfl rfl rfl (by decide +kernel) ⟨Nat.le_of_ble_eq_true rfl, Nat.le_of_ble_eq_true rfl⟩) (mPreV (va_recv hK hP (ci := 1) (q0 := 0) rfl rfl) hP hD hS hK hE hFc [0, 1, 2, 3, 4, 5, 6, 7, 8, 9, 10] (by decide) rfl) rfl rfl hl.1 rfl (lv_room (Nat.le_of_ble_eq_true rfl)) dX1_setDamage_3 ⟨Nat.le_of_ble_eq_true rfl, Nat.le_of_ble_eq_true rfl⟩) hS (fun q _ h => hFc q h) hFc (fun r_1 u t H1 locs ht hvm hw hB hz1 hk1 hS => ?_)
  have h := hw
  obtain ⟨hP1, hK1, hD1⟩ := hB
  rw [ht] at hP1
  obtain ⟨hP, hD⟩ := mJoin (wr := ([] : va_W)) (w1 := (sh_P cs adP kdP grP cvP brP hzP fmP dmP e1P e2P fkP pnP fnP)) (w' := (sh_P cs adP kdP grP cvP brP hzP fmP dmP e1P e2P fkP pnP fnP)) hP hD [0, 1, 2, 3, 4, 5, 6, 7, 8, 9, 10] [] rfl rfl (by decide) (by decide) hk1 hFc hP1 hD1 [0, 1, 2, 3, 4, 5, 6, 7, 8, 9, 10] (by decide) rfl
  generalize H1 = H at hP hS ⊢
  refine lv_if_ne (tgt := 11) hx hb dX1_setDamage_6 (by decide) (fun c_2 => ?_) (fun c_2 => ?_)
  · have h := h.2 c_2
    refine lv_aload_n hx hb dX1_setDamage_11 rfl (lv_at hl 0 rfl) ?_
    refine va_get (D := D) (ci := 1) (v := .ref (adP 7)) (C := RX1) (T := TX1) (N := 12) hx hb hts (by decide +kernel) hown hK hP 0 rfl rfl 6 (by decide) (hts (.fieldLink RX1 31 "PartGraphs$Product" "damages" "[I") (by decide +kernel)) (fun _ h9 => h9) rfl dX1_setDamage_12 ?_
    refine lv_iload_n hx hb dX1_setDamage_15 rfl (lv_at hl 1 rfl) ?_
    have hin := h.1
    have h := h.2
    refine va_iald (D := D) (cl := vwCl) hx hb hK hP 7 0 rfl rfl hin dX1_setDamage_16 ?_
    refine lv_istore_n (lv' := [(3, .int (dmP p1.toNatClampNeg)), (0, .ref (adP 0)), (1, .int p1), (2, .int p2)]) hx hb dX1_setDamage_17 rfl hl (by decide) rfl (fun ls hl => ?_)
    refine lv_aload_n hx hb dX1_setDamage_18 rfl (lv_at hl 1 rfl) ?_
    refine va_get (D := D) (ci := 1) (v := .ref (adP 7)) (C := RX1) (T := TX1) (N := 12) hx hb hts (by decide +kernel) hown hK hP 0 rfl rfl 6 (by decide) (hts (.fieldLink RX1 31 "PartGraphs$Product" "damages" "[I") (by decide +kernel)) (fun _ h9 => h9) rfl dX1_setDamage_19 ?_
    refine lv_iload_n hx hb dX1_setDamage_22 rfl (lv_at hl 2 rfl) ?_
    refine lv_iload_n hx hb dX1_setDamage_23 rfl (lv_at hl 3 rfl) ?_
    have hin := h.1
    have h := h.2
    refine va_iast (D := D) (cl := vwCl) hx hb hK hP hD hS 7 0 rfl rfl hin dX1_setDamage_24 (fun H locs hP hD hS => ?_)
    have hP : va_P D vwCl (sh_P cs adP kdP grP cvP brP hzP fmP (upd dmP p1.toNatClampNeg p2) e1P e2P fkP pnP fnP) H := hP
    have hD : va_D A (sh_P cs adP kdP grP cvP brP hzP fmP (upd dmP p1.toNatClampNeg p2) e1P e2P fkP pnP fnP) := hD
    refine lv_iload_n hx hb dX1_setDamage_25 rfl (lv_at hl 0 rfl) ?_
    exact W.iret (v := dmP p1.toNatClampNeg) hx hb hr (fun t ht hW => ⟨⟨dmP p1.toNatClampNeg, (upd dmP p1.toNatClampNeg p2), rfl, h, by rw [ht]; exact hP, va_K.moved hW.alike hK, hD⟩, hS.F ht⟩) hS.2.2 dX1_setDamage_26
  · have h := h.1 c_2
    refine lv_iconst (v := (-1)) hx hb dX1_setDamage_9 (by decide) ?_
    exact W.iret (v := (-1)) hx hb hr (fun t ht hW => ⟨⟨(-1), dmP, rfl, h, by rw [ht]; exact hP, va_K.moved hW.alike hK, hD⟩, hS.F ht⟩) hS.2.2 dX1_setDamage_10
