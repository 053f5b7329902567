def wp_X2_take (txR : Nat → Int32) (lnR : Int32) (p1 : Int32) (post : Int32 → ((Nat → Int32) × Int32) → Prop) : Prop :=
    ((p1 < 0 → post 0 (txR, lnR)) ∧ (¬ p1 < 0 → ((255 < p1 → post 0 (txR, lnR)) ∧ (¬ 255 < p1 → ((lnR < 2000 → (vp_in lnR 2000 ∧ post 1 (upd txR lnR.toNatClampNeg (vp_nar .char ((p1.toUInt32 % 65536).toInt32)), lnR + 1))) ∧ (¬ lnR < 2000 → post 0 (txR, lnR)))))))
set_option maxHeartbeats 4000000 in
set_option maxRecDepth 100000 in
theorem met_X2_take (l : Launch) (D : va_G) (cs : Nat → ClassId) (ev : Nat → Nat → Nat) (sz0 : Nat) (adR : Nat → Nat) (txR : Nat → Int32) (nuR : Nat → Int32) (lnR : Int32) (bgR : Int32) (enR : Int32) (p1 : Int32) (post : Int32 → ((Nat → Int32) × Int32) → Prop) (h : wp_X2_take txR lnR p1 post) : Met l yX2_take wsX2_take ({ frames := 0, cells := 0, slots := 0, locals := 0 }) (va_Pc [.ref (adR 0), .int p1] (mPre D cs ev (sh_R cs adR txR nuR lnR bgR enR) sz0)) (va_Qi post (fun u t => match u with | (txR', lnR') => mAt D cs (va_A (sh_R cs adR txR nuR lnR bgR enR) sz0) (sh_R cs adR txR' nuR lnR' bgR enR) t) (va_A (sh_R cs adR txR nuR lnR bgR enR) sz0)) 0 0 (va_A (sh_R cs adR txR nuR lnR bgR enR) sz0) := by
  refine Met.ofW (cc := cX2_take) (maxL := 2) (ret := (some .boolean)) (by decide) rfl ?_
  intro p e s m args below meth c s₁ B hml hv
  obtain ⟨rfl, hsz, hP, hK, hD0, hE⟩ := hv
  have hx := B.exec
  have hb := B.bytes
  have hr := B.returns
  have hts := atoms_spec (ws := wsX2_take) B.pre
  have hown : s.vm.findClass RX2 = some m.cls := findClass_of_methodNamed B.named
  have hlocks := B.notSynchronized
  subst hsz
  have hD := hD0.self (sz := s.heap.size)
  generalize hAe : va_A (sh_R cs adR txR nuR lnR bgR enR) s.heap.size = A at hD hE ⊢
  have hA : ∀ q : Nat, s.heap.size ≤ q → A q := fun q h => by rw [← hAe]; exact Or.inr h
  have hS : va_S A s.heap s.heap [] := va_S.rf
  have hl := lv_entry ([.ref (adR 0), .int p1]) (n := 2) (Nat.le_of_ble_eq_true rfl)
  rw [lg_entry_eq]
  generalize (lg_sl ([.ref (adR 0), .int p1]) ++ List.replicate (2 - (lg_sl ([.ref (adR 0), .int p1])).length) Slot.unset).toArray = ls at hl ⊢
  have hl : lv_has ls 2 [(0, .ref (adR 0)), (1, .int p1)] := hl
  refine lv_iload_n hx hb dX2_take_0 rfl (lv_at hl 1 rfl) ?_
  refine lv_if_lt (tgt := 21) hx hb dX2_take_1 (by decide) (fun c_1 => ?_) (fun c_1 => ?_)
  · have h := h.1 c_1
    refine lv_iconst (v := 0) hx hb dX2_take_21 (by decide) ?_
    exact W.zret (v := 0) hx hb hr (by decide) (fun t ht hW => ⟨⟨0, (txR, lnR), rfl, h, by rw [ht]; exact hP, va_K.moved hW.alike hK, hD⟩, hS.F ht⟩) hS.2.2 dX2_take_22
  · have h := h.2 c_1
    refine lv_iload_n hx hb dX2_take_4 rfl (lv_at hl 1 rfl) ?_
    refine lv_sipush (v := 255) hx hb dX2_take_5 (by decide) ?_
    refine lv_icmp_gt (tgt := 21) hx hb dX2_take_8 (by decide) (fun c_2 => ?_) (fun c_2 => ?_)
    · have h := h.1 c_2
      refine lv_iconst (v := 0) hx hb dX2_take_21 (by decide) ?_
      exact W.zret (v := 0) hx hb hr (by decide) (fun t ht hW => ⟨⟨0, (txR, lnR), rfl, h, by rw [ht]; exact hP, va_K.moved hW.alike hK, hD⟩, hS.F ht⟩) hS.2.2 dX2_take_22
    · have h := h.2 c_2
      refine lv_aload_n hx hb dX2_take_11 rfl (lv_at hl 0 rfl) ?_
      refine va_get (D := D) (ci := 2) (v := .int lnR) (C := RX2) (T := TX2) (N := 5) hx hb hts (by decide +kernel) hown hK hP 0 rfl rfl 2 (by decide) (hts (.fieldLink RX2 19 "PartGraphs$Reader" "length" "I") (by decide +kernel)) (fun _ h9 => h9) rfl dX2_take_12 ?_
      refine lv_sipush (v := 2000) hx hb dX2_take_15 (by decide) ?_
      refine lv_icmp_lt (tgt := 23) hx hb dX2_take_18 (by decide) (fun c_3 => ?_) (fun c_3 => ?_)
      · have h := h.1 c_3
        refine lv_aload_n hx hb dX2_take_23 rfl (lv_at hl 0 rfl) ?_
        refine va_get (D := D) (ci := 2) (v := .ref (adR 1)) (C := RX2) (T := TX2) (N := 5) hx hb hts (by decide +kernel) hown hK hP 0 rfl rfl 0 (by decide) (hts (.fieldLink RX2 9 "PartGraphs$Reader" "text" "[C") (by decide +kernel)) (fun _ h9 => h9) rfl dX2_take_24 ?_
        refine lv_aload_n hx hb dX2_take_27 rfl (lv_at hl 0 rfl) ?_
        refine va_get (D := D) (ci := 2) (v := .int lnR) (C := RX2) (T := TX2) (N := 5) hx hb hts (by decide +kernel) hown hK hP 0 rfl rfl 2 (by decide) (hts (.fieldLink RX2 19 "PartGraphs$Reader" "length" "I") (by decide +kernel)) (fun _ h9 => h9) rfl dX2_take_28 ?_
        refine lv_iload_n hx hb dX2_take_31 rfl (lv_at hl 1 rfl) ?_
        refine lv_i2c hx hb dX2_take_32 rfl ?_
        have hin := h.1
        have h := h.2
        refine va_cast (D := D) (cl := vwCl) hx hb hK hP hD hS 1 2 rfl rfl hin dX2_take_33 (fun H locs hP hD hS => ?_)
        have hP : va_P D vwCl (sh_R cs adR (upd txR lnR.toNatClampNeg (vp_nar .char ((p1.toUInt32 % 65536).toInt32))) nuR lnR bgR enR) H := hP
        have hD : va_D A (sh_R cs adR (upd txR lnR.toNatClampNeg (vp_nar .char ((p1.toUInt32 % 65536).toInt32))) nuR lnR bgR enR) := hD
        refine lv_aload_n hx hb dX2_take_34 rfl (lv_at hl 0 rfl) ?_
        refine lv_dup hx hb dX2_take_35 rfl ?_
        refine va_get (D := D) (ci := 2) (v := .int lnR) (C := RX2) (T := TX2) (N := 5) hx hb hts (by decide +kernel) hown hK hP 0 rfl rfl 2 (by decide) (hts (.fieldLink RX2 19 "PartGraphs$Reader" "length" "I") (by decide +kernel)) (fun _ h9 => h9) rfl dX2_take_36 ?_
        refine lv_iconst (v := 1) hx hb dX2_take_39 (by decide) ?_
        refine lv_iadd hx hb dX2_take_40 ?_
        refine va_put (D := D) (ci := 2) (v := .int (lnR + 1)) (ty := .int) (C := RX2) (T := TX2) (N := 5) hx hb hts (by decide +kernel) tyX2 tyX2_ok nmX2 hown hK hP hD hS 0 rfl rfl 2 (by decide) (hts (.fieldLink RX2 19 "PartGraphs$Reader" "length" "I") (by decide +kernel)) (fun _ h9 => h9) rfl (by decide +kernel) rfl rfl (Nat.le_of_ble_eq_true rfl) dX2_take_41 (fun H locs hP hD hS => ?_)
        have hP : va_P D vwCl (sh_R cs adR (upd txR lnR.toNatClampNeg (vp_nar .char ((p1.toUInt32 % 65536).toInt32))) nuR (lnR + 1) bgR enR) H := hP
        have hD : va_D A (sh_R cs adR (upd txR lnR.toNatClampNeg (vp_nar .char ((p1.toUInt32 % 65536).toInt32))) nuR (lnR + 1) bgR enR) := hD
        refine lv_iconst (v := 1) hx hb dX2_take_44 (by decide) ?_
        exact W.zret (v := 1) hx hb hr (by decide) (fun t ht hW => ⟨⟨1, (upd txR lnR.toNatClampNeg (vp_nar .char ((p1.toUInt32 % 65536).toInt32)), lnR + 1), rfl, h, by rw [ht]; exact hP, va_K.moved hW.alike hK, hD⟩, hS.F ht⟩) hS.2.2 dX2_take_45
      · have h := h.2 c_3
        refine lv_iconst (v := 0) hx hb dX2_take_21 (by decide) ?_
        exact W.zret (v := 0) hx hb hr (by decide) (fun t ht hW => ⟨⟨0, (txR, lnR), rfl, h, by rw [ht]; exact hP, va_K.moved hW.alike hK, hD⟩, hS.F ht⟩) hS.2.2 dX2_take_22
def wp_X2_clear (post : Int32 → Prop) : Prop :=
    post 0
set_option maxHeartbeats 4000000 in
set_option maxRecDepth 100000 in
theorem met_X2_clear (l : Launch) (D : va_G) (cs : Nat → ClassId) (ev : Nat → Nat → Nat) (sz0 : Nat) (adR : Nat → Nat) (txR : Nat → Int32) (nuR : Nat → Int32) (lnR : Int32) (bgR : Int32) (enR : Int32) (post : Int32 → Prop) (h : wp_X2_clear  post) : Met l yX2_clear wsX2_clear ({ frames := 0, cells := 0, slots := 0, locals := 0 }) (va_Pc [.ref (adR 0)] (mPre D cs ev (sh_R cs adR txR nuR lnR bgR enR) sz0)) (va_Qv post (fun lnR' t => mAt D cs (va_A (sh_R cs adR txR nuR lnR bgR enR) sz0) (sh_R cs adR txR nuR lnR' bgR enR) t) (va_A (sh_R cs adR txR nuR lnR bgR enR) sz0)) 0 0 (va_A (sh_R cs adR txR nuR lnR bgR enR) sz0) := by
  refine Met.ofW (cc := cX2_clear) (maxL := 1) (ret := none) (by decide) rfl ?_
  intro p e s m args below meth c s₁ B hml hv
  obtain ⟨rfl, hsz, hP, hK, hD0, hE⟩ := hv
  have hx := B.exec
  have hb := B.bytes
  have hr := B.returns
  have hts := atoms_spec (ws := wsX2_clear) B.pre
  have hown : s.vm.findClass RX2 = some m.cls := findClass_of_methodNamed B.named
  have hlocks := B.notSynchronized
  subst hsz
  have hD := hD0.self (sz := s.heap.size)
  generalize hAe : va_A (sh_R cs adR txR nuR lnR bgR enR) s.heap.size = A at hD hE ⊢
  have hA : ∀ q : Nat, s.heap.size ≤ q → A q := fun q h => by rw [← hAe]; exact Or.inr h
  have hS : va_S A s.heap s.heap [] := va_S.rf
  have hl := lv_entry ([.ref (adR 0)]) (n := 1) (Nat.le_of_ble_eq_true rfl)
  rw [lg_entry_eq]
  generalize (lg_sl ([.ref (adR 0)]) ++ List.replicate (1 - (lg_sl ([.ref (adR 0)])).length) Slot.unset).toArray = ls at hl ⊢
  have hl : lv_has ls 1 [(0, .ref (adR 0))] := hl
  refine lv_aload_n hx hb dX2_clear_0 rfl (lv_at hl 0 rfl) ?_
  refine lv_iconst (v := 0) hx hb dX2_clear_1 (by decide) ?_
  refine va_put (D := D) (ci := 2) (v := .int 0) (ty := .int) (C := RX2) (T := TX2) (N := 5) hx hb hts (by decide +kernel) tyX2 tyX2_ok nmX2 hown hK hP hD hS 0 rfl rfl 2 (by decide) (hts (.fieldLink RX2 19 "PartGraphs$Reader" "length" "I") (by decide +kernel)) (fun _ h9 => h9) rfl (by decide +kernel) rfl rfl (Nat.le_of_ble_eq_true rfl) dX2_clear_2 (fun H locs hP hD hS => ?_)
  have hP : va_P D vwCl (sh_R cs adR txR nuR 0 bgR enR) H := hP
  have hD : va_D A (sh_R cs adR txR nuR 0 bgR enR) := hD
  exact W.vret hx hb hr (fun t ht hW => ⟨⟨0, rfl, h, by rw [ht]; exact hP, va_K.moved hW.alike hK, hD⟩, hS.F ht⟩) hS.2.2 dX2_clear_5
def wp_X2_wordBegin (bgR : Int32) (post : Int32 → Unit → Prop) : Prop :=
    post bgR ()
set_option maxHeartbeats 4000000 in
set_option maxRecDepth 100000 in
theorem met_X2_wordBegin (l : Launch) (D : va_G) (cs : Nat → ClassId) (ev : Nat → Nat → Nat) (sz0 : Nat) (adR : Nat → Nat) (txR : Nat → Int32) (nuR : Nat → Int32) (lnR : Int32) (bgR : Int32) (enR : Int32) (post : Int32 → Unit → Prop) (h : wp_X2_wordBegin bgR post) : Met l yX2_wordBegin wsX2_wordBegin ({ frames := 0, cells := 0, slots := 0, locals := 0 }) (va_Pc [.ref (adR 0)] (mPre D cs ev (sh_R cs adR txR nuR lnR bgR enR) sz0)) (va_Qi post (fun _ t => mAt D cs (va_A (sh_R cs adR txR nuR lnR bgR enR) sz0) (sh_R cs adR txR nuR lnR bgR enR) t) (va_A (sh_R cs adR txR nuR lnR bgR enR) sz0)) 0 0 (va_A (sh_R cs adR txR nuR lnR bgR enR) sz0) := by
  refine Met.ofW (cc := cX2_wordBegin) (maxL := 1) (ret := (some .int)) (by decide) rfl ?_
  intro p e s m args below meth c s₁ B hml hv
  obtain ⟨rfl, hsz, hP, hK, hD0, hE⟩ := hv
  have hx := B.exec
  have hb := B.bytes
  have hr := B.returns
  have hts := atoms_spec (ws := wsX2_wordBegin) B.pre
  have hown : s.vm.findClass RX2 = some m.cls := findClass_of_methodNamed B.named
  have hlocks := B.notSynchronized
  subst hsz
  have hD := hD0.self (sz := s.heap.size)
  generalize hAe : va_A (sh_R cs adR txR nuR lnR bgR enR) s.heap.size = A at hD hE ⊢
  have hA : ∀ q : Nat, s.heap.size ≤ q → A q := fun q h => by rw [← hAe]; exact Or.inr h
  have hS : va_S A s.heap s.heap [] := va_S.rf
  have hl := lv_entry ([.ref (adR 0)]) (n := 1) (Nat.le_of_ble_eq_true rfl)
  rw [lg_entry_eq]
  generalize (lg_sl ([.ref (adR 0)]) ++ List.replicate (1 - (lg_sl ([.ref (adR 0)])).length) Slot.unset).toArray = ls at hl ⊢
  have hl : lv_has ls 1 [(0, .ref (adR 0))] := hl
  refine lv_aload_n hx hb dX2_wordBegin_0 rfl (lv_at hl 0 rfl) ?_
  refine va_get (D := D) (ci := 2) (v := .int bgR) (C := RX2) (T := TX2) (N := 5) hx hb hts (by decide +kernel) hown hK hP 0 rfl rfl 3 (by decide) (hts (.fieldLink RX2 23 "PartGraphs$Reader" "begin" "I") (by decide +kernel)) (fun _ h9 => h9) rfl dX2_wordBegin_1 ?_
  exact W.iret (v := bgR) hx hb hr (fun t ht hW => ⟨⟨bgR, (), rfl, h, by rw [ht]; exact hP, va_K.moved hW.alike hK, hD⟩, hS.F ht⟩) hS.2.2 dX2_wordBegin_4
def wp_X2_isBlankAt (txR : Nat → Int32) (p1 : Int32) (post : Int32 → Unit → Prop) : Prop :=
    (vp_in p1 2000 ∧ (((txR p1.toNatClampNeg) = 32 → post 1 ()) ∧ (¬ (txR p1.toNatClampNeg) = 32 → (vp_in p1 2000 ∧ (((txR p1.toNatClampNeg) = 10 → post 1 ()) ∧ (¬ (txR p1.toNatClampNeg) = 10 → post 0 ()))))))
set_option maxHeartbeats 4000000 in
set_option maxRecDepth 100000 in
theorem met_X2_isBlankAt (l : Launch) (D : va_G) (cs : Nat → ClassId) (ev : Nat → Nat → Nat) (sz0 : Nat) (adR : Nat → Nat) (txR : Nat → Int32) (nuR : Nat → Int32) (lnR : Int32) (bgR : Int32) (enR : Int32) (p1 : Int32) (post : Int32 → Unit → Prop) (h : wp_X2_isBlankAt txR p1 post) : Met l yX2_isBlankAt wsX2_isBlankAt ({ frames := 0, cells := 0, slots := 0, locals := 0 }) (va_Pc [.ref (adR 0), .int p1] (mPre D cs ev (sh_R cs adR txR nuR lnR bgR enR) sz0)) (va_Qi post (fun _ t => mAt D cs (va_A (sh_R cs adR txR nuR lnR bgR enR) sz0) (sh_R cs adR txR nuR lnR bgR enR) t) (va_A (sh_R cs adR txR nuR lnR bgR enR) sz0)) 0 0 (va_A (sh_R cs adR txR nuR lnR bgR enR) sz0) := by
  refine Met.ofW (cc := cX2_isBlankAt) (maxL := 2) (ret := (some .boolean)) (by decide) rfl ?_
  intro p e s m args below meth c s₁ B hml hv
  obtain ⟨rfl, hsz, hP, hK, hD0, hE⟩ := hv
  have hx := B.exec
  have hb := B.bytes
  have hr := B.returns
  have hts := atoms_spec (ws := wsX2_isBlankAt) B.pre
  have hown : s.vm.findClass RX2 = some m.cls := findClass_of_methodNamed B.named
  have hlocks := B.notSynchronized
  subst hsz
  have hD := hD0.self (sz := s.heap.size)
  generalize hAe : va_A (sh_R cs adR txR nuR lnR bgR enR) s.heap.size = A at hD hE ⊢
  have hA : ∀ q : Nat, s.heap.size ≤ q → A q := fun q h => by rw [← hAe]; exact Or.inr h
  have hS : va_S A s.heap s.heap [] := va_S.rf
  have hl := lv_entry ([.ref (adR 0), .int p1]) (n := 2) (Nat.le_of_ble_eq_true rfl)
  rw [lg_entry_eq]
  generalize (lg_sl ([.ref (adR 0), .int p1]) ++ List.replicate (2 - (lg_sl ([.ref (adR 0), .int p1])).length) Slot.unset).toArray = ls at hl ⊢
  have hl : lv_has ls 2 [(0, .ref (adR 0)), (1, .int p1)] := hl
  refine lv_aload_n hx hb dX2_isBlankAt_0 rfl (lv_at hl 0 rfl) ?_
  refine va_get (D := D) (ci := 2) (v := .ref (adR 1)) (C := RX2) (T := TX2) (N := 5) hx hb hts (by decide +kernel) hown hK hP 0 rfl rfl 0 (by decide) (hts (.fieldLink RX2 9 "PartGraphs$Reader" "text" "[C") (by decide +kernel)) (fun _ h9 => h9) rfl dX2_isBlankAt_1 ?_
  refine lv_iload_n hx hb dX2_isBlankAt_4 rfl (lv_at hl 1 rfl) ?_
  have hin := h.1
  have h := h.2
  refine va_cald (D := D) (cl := vwCl) hx hb hK hP 1 2 rfl rfl hin dX2_isBlankAt_5 ?_
  refine lv_bipush (v := 32) hx hb dX2_isBlankAt_6 (by decide) ?_
  refine lv_icmp_eq (tgt := 22) hx hb dX2_isBlankAt_8 (by decide) (fun c_1 => ?_) (fun c_1 => ?_)
  · have h := h.1 c_1
    refine lv_iconst (v := 1) hx hb dX2_isBlankAt_22 (by decide) ?_
    refine lv_goto (tgt := 27) hx hb dX2_isBlankAt_23 (by decide) ?_
    exact W.zret (v := 1) hx hb hr (by decide) (fun t ht hW => ⟨⟨1, (), rfl, h, by rw [ht]; exact hP, va_K.moved hW.alike hK, hD⟩, hS.F ht⟩) hS.2.2 dX2_isBlankAt_27
  · have h := h.2 c_1
    refine lv_aload_n hx hb dX2_isBlankAt_11 rfl (lv_at hl 0 rfl) ?_
    refine va_get (D := D) (ci := 2) (v := .ref (adR 1)) (C := RX2) (T := TX2) (N := 5) hx hb hts (by decide +kernel) hown hK hP 0 rfl rfl 0 (by decide) (hts (.fieldLink RX2 9 "PartGraphs$Reader" "text" "[C") (by decide +kernel)) (fun _ h9 => h9) rfl dX2_isBlankAt_12 ?_
    refine lv_iload_n hx hb dX2_isBlankAt_15 rfl (lv_at hl 1 rfl) ?_
    have hin := h.1
    have h := h.2
    refine va_cald (D := D) (cl := vwCl) hx hb hK hP 1 2 rfl rfl hin dX2_isBlankAt_16 ?_
    refine lv_bipush (v := 10) hx hb dX2_isBlankAt_17 (by decide) ?_
    refine lv_icmp_ne (tgt := 26) hx hb dX2_isBlankAt_19 (by decide) (fun c_2 => ?_) (fun c_2 => ?_)
    · have h := h.2 c_2
      refine lv_iconst (v := 0) hx hb dX2_isBlankAt_26 (by decide) ?_
      exact W.zret (v := 0) hx hb hr (by decide) (fun t ht hW => ⟨⟨0, (), rfl, h, by rw [ht]; exact hP, va_K.moved hW.alike hK, hD⟩, hS.F ht⟩) hS.2.2 dX2_isBlankAt_27
    · have h := h.1 c_2
      refine lv_iconst (v := 1) hx hb dX2_isBlankAt_22 (by decide) ?_
      refine lv_goto (tgt := 27) hx hb dX2_isBlankAt_23 (by decide) ?_
      exact W.zret (v := 1) hx hb hr (by decide) (fun t ht hW => ⟨⟨1, (), rfl, h, by rw [ht]; exact hP, va_K.moved hW.alike hK, hD⟩, hS.F ht⟩) hS.2.2 dX2_isBlankAt_27
def wp_X2_findWord (txR : Nat → Int32) (lnR : Int32) (bgR : Int32) (enR : Int32) (post : Int32 → (Int32 × Int32) → Prop) : Prop :=
    ∀ (A8 : Int32 → Int32 → Prop) (A51 : Int32 → Int32 → Prop),
    (∀ (bgR : Int32) (enR : Int32), ((lnR ≤ bgR → A51 bgR bgR) ∧ (¬ lnR ≤ bgR → wp_X2_isBlankAt txR bgR (fun r_2 _ => ((r_2 = 0 → A51 bgR bgR) ∧ (¬ r_2 = 0 → A8 (bgR + 1) enR))))) → A8 bgR enR) →
    (∀ (bgR : Int32) (enR : Int32), ((lnR ≤ enR → ((enR ≤ bgR → post 0 (bgR, enR)) ∧ (¬ enR ≤ bgR → post 1 (bgR, enR)))) ∧ (¬ lnR ≤ enR → wp_X2_isBlankAt txR enR (fun r_6 _ => ((r_6 = 0 → A51 bgR (enR + 1)) ∧ (¬ r_6 = 0 → ((enR ≤ bgR → post 0 (bgR, enR)) ∧ (¬ enR ≤ bgR → post 1 (bgR, enR)))))))) → A51 bgR enR) →
    A8 enR enR
set_option maxHeartbeats 4000000 in
set_option maxRecDepth 100000 in
theorem met_X2_findWord (l : Launch) (D : va_G) (cs : Nat → ClassId) (ev : Nat → Nat → Nat) (sz0 : Nat) (adR : Nat → Nat) (txR : Nat → Int32) (nuR : Nat → Int32) (lnR : Int32) (bgR : Int32) (enR : Int32) (post : Int32 → (Int32 × Int32) → Prop) (h : wp_X2_findWord txR lnR bgR enR post) : Met l yX2_findWord wsX2_findWord ({ frames := 1, cells := 0, slots := 0, locals := 21 }) (va_Pc [.ref (adR 0)] (mPre D cs ev (sh_R cs adR txR nuR lnR bgR enR) sz0)) (va_Qi post (fun u t => match u with | (bgR', enR') => mAt D cs (va_A (sh_R cs adR txR nuR lnR bgR enR) sz0) (sh_R cs adR txR nuR lnR bgR' enR') t) (va_A (sh_R cs adR txR nuR lnR bgR enR) sz0)) 0 0 (va_A (sh_R cs adR txR nuR lnR bgR enR) sz0) := by
  refine Met.ofW (cc := cX2_findWord) (maxL := 1) (ret := (some .boolean)) (by decide) rfl ?_
  intro p e s m args below meth c s₁ B hml hv
  obtain ⟨rfl, hsz, hP, hK, hD0, hE⟩ := hv
  have hx := B.exec
  have hb := B.bytes
  have hr := B.returns
  have hts := atoms_spec (ws := wsX2_findWord) B.pre
  have hown : s.vm.findClass RX2 = some m.cls := findClass_of_methodNamed B.named
  have hlocks := B.notSynchronized
  subst hsz
  have hD := hD0.self (sz := s.heap.size)
  generalize hAe : va_A (sh_R cs adR txR nuR lnR bgR enR) s.heap.size = A at hD hE ⊢
  have hA : ∀ q : Nat, s.heap.size ≤ q → A q := fun q h => by rw [← hAe]; exact Or.inr h
  have hS : va_S A s.heap s.heap [] := va_S.rf
  have hl := lv_entry ([.ref (adR 0)]) (n := 1) (Nat.le_of_ble_eq_true rfl)
  rw [lg_entry_eq]
  generalize (lg_sl ([.ref (adR 0)]) ++ List.replicate (1 - (lg_sl ([.ref (adR 0)])).length) Slot.unset).toArray = ls at hl ⊢
  have hl : lv_has ls 1 [(0, .ref (adR 0))] := hl
  obtain ⟨A8, hA8⟩ : ∃ Q : Int32 → Int32 → Prop, Q = (fun bgR enR => ∀ (H : Heap) (locs : List Loc), va_P D vwCl (sh_R cs adR txR nuR lnR bgR enR) H → va_D A (sh_R cs adR txR nuR lnR bgR enR) → va_S A s.heap H locs → ∀ ls : Array Slot, lv_has ls 1 [(0, .ref (adR 0))] → W p l e (headSpec wsX2_findWord ({ frames := 1, cells := 0, slots := 0, locals := 21 })).room s m ([.ref (adR 0)] : List Value).toArray below meth c H locs 0 0 (MQ below (va_Qi post (fun u t => match u with | (bgR', enR') => mAt D cs (A) (sh_R cs adR txR nuR lnR bgR' enR') t) A) ([.ref (adR 0)] : List Value).toArray s 0 0 A) (F0 m 8 ls [])) := ⟨_, rfl⟩
  obtain ⟨A51, hA51⟩ : ∃ Q : Int32 → Int32 → Prop, Q = (fun bgR enR => ∀ (H : Heap) (locs : List Loc), va_P D vwCl (sh_R cs adR txR nuR lnR bgR enR) H → va_D A (sh_R cs adR txR nuR lnR bgR enR) → va_S A s.heap H locs → ∀ ls : Array Slot, lv_has ls 1 [(0, .ref (adR 0))] → W p l e (headSpec wsX2_findWord ({ frames := 1, cells := 0, slots := 0, locals := 21 })).room s m ([.ref (adR 0)] : List Value).toArray below meth c H locs 0 0 (MQ below (va_Qi post (fun u t => match u with | (bgR', enR') => mAt D cs (A) (sh_R cs adR txR nuR lnR bgR' enR') t) A) ([.ref (adR 0)] : List Value).toArray s 0 0 A) (F0 m 51 ls [])) := ⟨_, rfl⟩
  have s8 : ∀ (bgR : Int32) (enR : Int32), ((lnR ≤ bgR → A51 bgR bgR) ∧ (¬ lnR ≤ bgR → wp_X2_isBlankAt txR bgR (fun r_2 _ => ((r_2 = 0 → A51 bgR bgR) ∧ (¬ r_2 = 0 → A8 (bgR + 1) enR))))) → A8 bgR enR := by
    intro bgR enR h
    rw [hA8]
    intro H locs hP hD hS ls hl
    refine lv_aload_n hx hb dX2_findWord_8 rfl (lv_at hl 0 rfl) ?_
    refine va_get (D := D) (ci := 2) (v := .int bgR) (C := RX2) (T := TX2) (N := 5) hx hb hts (by decide +kernel) hown hK hP 0 rfl rfl 3 (by decide) (hts (.fieldLink RX2 23 "PartGraphs$Reader" "begin" "I") (by decide +kernel)) (fun _ h9 => h9) rfl dX2_findWord_9 ?_
    refine lv_aload_n hx hb dX2_findWord_12 rfl (lv_at hl 0 rfl) ?_
    refine va_get (D := D) (ci := 2) (v := .int lnR) (C := RX2) (T := TX2) (N := 5) hx hb hts (by decide +kernel) hown hK hP 0 rfl rfl 2 (by decide) (hts (.fieldLink RX2 19 "PartGraphs$Reader" "length" "I") (by decide +kernel)) (fun _ h9 => h9) rfl dX2_findWord_13 ?_
    refine lv_icmp_ge (tgt := 43) hx hb dX2_findWord_16 (by decide) (fun c_1 => ?_) (fun c_1 => ?_)
    · have h := h.1 c_1
      refine lv_aload_n hx hb dX2_findWord_43 rfl (lv_at hl 0 rfl) ?_
      refine lv_aload_n hx hb dX2_findWord_44 rfl (lv_at hl 0 rfl) ?_
      refine va_get (D := D) (ci := 2) (v := .int bgR) (C := RX2) (T := TX2) (N := 5) hx hb hts (by decide +kernel) hown hK hP 0 rfl rfl 3 (by decide) (hts (.fieldLink RX2 23 "PartGraphs$Reader" "begin" "I") (by decide +kernel)) (fun _ h9 => h9) rfl dX2_findWord_45 ?_
      refine va_put (D := D) (ci := 2) (v := .int bgR) (ty := .int) (C := RX2) (T := TX2) (N := 5) hx hb hts (by decide +kernel) tyX2 tyX2_ok nmX2 hown hK hP hD hS 0 rfl rfl 4 (by decide) (hts (.fieldLink RX2 26 "PartGraphs$Reader" "end" "I") (by decide +kernel)) (fun _ h9 => h9) rfl (by decide +kernel) rfl rfl (Nat.le_of_ble_eq_true rfl) dX2_findWord_48 (fun H locs hP hD hS => ?_)
      have hP : va_P D vwCl (sh_R cs adR txR nuR lnR bgR bgR) H := hP
      have hD : va_D A (sh_R cs adR txR nuR lnR bgR bgR) := hD
      rw [hA51] at h
      exact h _ _ hP hD hS ls (lv_sub hl [0] rfl)
    · have h := h.2 c_1
      refine lv_aload_n hx hb dX2_findWord_19 rfl (lv_at hl 0 rfl) ?_
      refine lv_aload_n hx hb dX2_findWord_20 rfl (lv_at hl 0 rfl) ?_
      refine va_get (D := D) (ci := 2) (v := .int bgR) (C := RX2) (T := TX2) (N := 5) hx hb hts (by decide +kernel) hown hK hP 0 rfl rfl 3 (by decide) (hts (.fieldLink RX2 23 "PartGraphs$Reader" "begin" "I") (by decide +kernel)) (fun _ h9 => h9) rfl dX2_findWord_21 ?_
      have hFc := va_free (wc := (sh_R cs adR txR nuR lnR bgR enR)) hD hS hA [0, 1, 2] rfl
      refine va_calli (va_runV (As := [.int bgR]) (rest := []) ⟨hx, hb, hml, hown, hts⟩ (met_X2_isBlankAt l D cs ev _ adR txR nuR lnR bgR enR bgR _ h) (cwV 1 hts gX2_findWord_X2_isBlankAt rfl rfl rfl (by decide +kernel) ⟨Nat.le_of_ble_eq_true rfl, Nat.le_of_ble_eq_true rfl⟩) (mPreV (va_recv hK hP (ci := 2) (q0 := 0) rfl rfl) hP hD hS hK hE hFc [0, 1, 2] (by decide) rfl) rfl rfl hl.1 rfl (lv_room (Nat.le_of_ble_eq_true rfl)) dX2_findWord_24 ⟨Nat.le_of_ble_eq_true rfl, Nat.le_of_ble_eq_true rfl⟩) hS (fun q _ h => hFc q h) hFc (fun r_2 u t H1 locs ht hvm hw hB hz1 hk1 hS => ?_)
      have h := hw
      obtain ⟨hP1, hK1, hD1⟩ := hB
      rw [ht] at hP1
      obtain ⟨hP, hD⟩ := mJoin (wr := ([] : va_W)) (w1 := (sh_R cs adR txR nuR lnR bgR enR)) (w' := (sh_R cs adR txR nuR lnR bgR enR)) hP hD [0, 1, 2] [] rfl rfl (by decide) (by decide) hk1 hFc hP1 hD1 [0, 1, 2] (by decide) rfl
      generalize H1 = H at hP hS ⊢
      refine lv_if_eq (tgt := 43) hx hb dX2_findWord_27 (by decide) (fun c_3 => ?_) (fun c_3 => ?_)
      · have h := h.1 c_3
        refine lv_aload_n hx hb dX2_findWord_43 rfl (lv_at hl 0 rfl) ?_
        refine lv_aload_n hx hb dX2_findWord_44 rfl (lv_at hl 0 rfl) ?_
        refine va_get (D := D) (ci := 2) (v := .int bgR) (C := RX2) (T := TX2) (N := 5) hx hb hts (by decide +kernel) hown hK hP 0 rfl rfl 3 (by decide) (hts (.fieldLink RX2 23 "PartGraphs$Reader" "begin" "I") (by decide +kernel)) (fun _ h9 => h9) rfl dX2_findWord_45 ?_
        refine va_put (D := D) (ci := 2) (v := .int bgR) (ty := .int) (C := RX2) (T := TX2) (N := 5) hx hb hts (by decide +kernel) tyX2 tyX2_ok nmX2 hown hK hP hD hS 0 rfl rfl 4 (by decide) (hts (.fieldLink RX2 26 "PartGraphs$Reader" "end" "I") (by decide +kernel)) (fun _ h9 => h9) rfl (by decide +kernel) rfl rfl (Nat.le_of_ble_eq_true rfl) dX2_findWord_48 (fun H locs hP hD hS => ?_)
        have hP : va_P D vwCl (sh_R cs adR txR nuR lnR bgR bgR) H := hP
        have hD : va_D A (sh_R cs adR txR nuR lnR bgR bgR) := hD
        rw [hA51] at h
        exact h _ _ hP hD hS ls (lv_sub hl [0] rfl)
      · have h := h.2 c_3
        refine lv_aload_n hx hb dX2_findWord_30 rfl (lv_at hl 0 rfl) ?_
        refine lv_dup hx hb dX2_findWord_31 rfl ?_
        refine va_get (D := D) (ci := 2) (v := .int bgR) (C := RX2) (T := TX2) (N := 5) hx hb hts (by decide +kernel) hown hK hP 0 rfl rfl 3 (by decide) (hts (.fieldLink RX2 23 "PartGraphs$Reader" "begin" "I") (by decide +kernel)) (fun _ h9 => h9) rfl dX2_findWord_32 ?_
        refine lv_iconst (v := 1) hx hb dX2_findWord_35 (by decide) ?_
        refine lv_iadd hx hb dX2_findWord_36 ?_
        refine va_put (D := D) (ci := 2) (v := .int (bgR + 1)) (ty := .int) (C := RX2) (T := TX2) (N := 5) hx hb hts (by decide +kernel) tyX2 tyX2_ok nmX2 hown hK hP hD hS 0 rfl rfl 3 (by decide) (hts (.fieldLink RX2 23 "PartGraphs$Reader" "begin" "I") (by decide +kernel)) (fun _ h9 => h9) rfl (by decide +kernel) rfl rfl (Nat.le_of_ble_eq_true rfl) dX2_findWord_37 (fun H locs hP hD hS => ?_)
        have hP : va_P D vwCl (sh_R cs adR txR nuR lnR (bgR + 1) enR) H := hP
        have hD : va_D A (sh_R cs adR txR nuR lnR (bgR + 1) enR) := hD
        refine lv_goto (tgt := 8) hx hb dX2_findWord_40 (by decide) ?_
        rw [hA8] at h
        exact h _ _ hP hD hS ls (lv_sub hl [0] rfl)
  have s51 : ∀ (bgR : Int32) (enR : Int32), ((lnR ≤ enR → ((enR ≤ bgR → post 0 (bgR, enR)) ∧ (¬ enR ≤ bgR → post 1 (bgR, enR)))) ∧ (¬ lnR ≤ enR → wp_X2_isBlankAt txR enR (fun r_6 _ => ((r_6 = 0 → A51 bgR (enR + 1)) ∧ (¬ r_6 = 0 → ((enR ≤ bgR → post 0 (bgR, enR)) ∧ (¬ enR ≤ bgR → post 1 (bgR, enR)))))))) → A51 bgR enR := by
    intro bgR enR h
    rw [hA51]
    intro H locs hP hD hS ls hl
    refine lv_aload_n hx hb dX2_findWord_51 rfl (lv_at hl 0 rfl) ?_
    refine va_get (D := D) (ci := 2) (v := .int enR) (C := RX2) (T := TX2) (N := 5) hx hb hts (by decide +kernel) hown hK hP 0 rfl rfl 4 (by decide) (hts (.fieldLink RX2 26 "PartGraphs$Reader" "end" "I") (by decide +kernel)) (fun _ h9 => h9) rfl dX2_findWord_52 ?_
    refine lv_aload_n hx hb dX2_findWord_55 rfl (lv_at hl 0 rfl) ?_
    refine va_get (D := D) (ci := 2) (v := .int lnR) (C := RX2) (T := TX2) (N := 5) hx hb hts (by decide +kernel) hown hK hP 0 rfl rfl 2 (by decide) (hts (.fieldLink RX2 19 "PartGraphs$Reader" "length" "I") (by decide +kernel)) (fun _ h9 => h9) rfl dX2_findWord_56 ?_
    refine lv_icmp_ge (tgt := 86) hx hb dX2_findWord_59 (by decide) (fun c_4 => ?_) (fun c_4 => ?_)
    · have h := h.1 c_4
      refine lv_aload_n hx hb dX2_findWord_86 rfl (lv_at hl 0 rfl) ?_
      refine va_get (D := D) (ci := 2) (v := .int bgR) (C := RX2) (T := TX2) (N := 5) hx hb hts (by decide +kernel) hown hK hP 0 rfl rfl 3 (by decide) (hts (.fieldLink RX2 23 "PartGraphs$Reader" "begin" "I") (by decide +kernel)) (fun _ h9 => h9) rfl dX2_findWord_87 ?_
      refine lv_aload_n hx hb dX2_findWord_90 rfl (lv_at hl 0 rfl) ?_
      refine va_get (D := D) (ci := 2) (v := .int enR) (C := RX2) (T := TX2) (N := 5) hx hb hts (by decide +kernel) hown hK hP 0 rfl rfl 4 (by decide) (hts (.fieldLink RX2 26 "PartGraphs$Reader" "end" "I") (by decide +kernel)) (fun _ h9 => h9) rfl dX2_findWord_91 ?_
      refine lv_icmp_ge (tgt := 101) hx hb dX2_findWord_94 (by decide) (fun c_5 => ?_) (fun c_5 => ?_)
      · have h := h.1 c_5
        refine lv_iconst (v := 0) hx hb dX2_findWord_101 (by decide) ?_
        exact W.zret (v := 0) hx hb hr (by decide) (fun t ht hW => ⟨⟨0, (bgR, enR), rfl, h, by rw [ht]; exact hP, va_K.moved hW.alike hK, hD⟩, hS.F ht⟩) hS.2.2 dX2_findWord_102
      · have h := h.2 c_5
        refine lv_iconst (v := 1) hx hb dX2_findWord_97 (by decide) ?_
        refine lv_goto (tgt := 102) hx hb dX2_findWord_98 (by decide) ?_
        exact W.zret (v := 1) hx hb hr (by decide) (fun t ht hW => ⟨⟨1, (bgR, enR), rfl, h, by rw [ht]; exact hP, va_K.moved hW.alike hK, hD⟩, hS.F ht⟩) hS.2.2 dX2_findWord_102
    · have h := h.2 c_4
      refine lv_aload_n hx hb dX2_findWord_62 rfl (lv_at hl 0 rfl) ?_
      refine lv_aload_n hx hb dX2_findWord_63 rfl (lv_at hl 0 rfl) ?_
      refine va_get (D := D) (ci := 2) (v := .int enR) (C := RX2) (T := TX2) (N := 5) hx hb hts (by decide +kernel) hown hK hP 0 rfl rfl 4 (by decide) (hts (.fieldLink RX2 26 "PartGraphs$Reader" "end" "I") (by decide +kernel)) (fun _ h9 => h9) rfl dX2_findWord_64 ?_
      have hFc := va_free (wc := (sh_R cs adR txR nuR lnR bgR enR)) hD hS hA [0, 1, 2] rfl
      refine va_calli (va_runV (As := [.int enR]) (rest := []) ⟨hx, hb, hml, hown, hts⟩ (met_X2_isBlankAt l D cs ev _ adR txR nuR lnR bgR enR enR _ h) (cwV 1 hts gX2_findWord_X2_isBlankAt rfl rfl rfl (by decide +kernel) ⟨Nat.le_of_ble_eq_true rfl, Nat.le_of_ble_eq_true rfl⟩) (mPreV (va_recv hK hP (ci := 2) (q0 := 0) rfl rfl) hP hD hS hK hE hFc [0, 1, 2] (by decide) rfl) rfl rfl hl.1 rfl (lv_room (Nat.le_of_ble_eq_true rfl)) dX2_findWord_67 ⟨Nat.le_of_ble_eq_true rfl, Nat.le_of_ble_eq_true rfl⟩) hS (fun q _ h => hFc q h) hFc (fun r_6 u t H1 locs ht hvm hw hB hz1 hk1 hS => ?_)
      have h := hw
      obtain ⟨hP1, hK1, hD1⟩ := hB
      rw [ht] at hP1
      obtain ⟨hP, hD⟩ := mJoin (wr := ([] : va_W)) (w1 := (sh_R cs adR txR nuR lnR bgR enR)) (w' := (sh_R cs adR txR nuR lnR bgR enR)) hP hD [0, 1, 2] [] rfl rfl (by decide) (by decide) hk1 hFc hP1 hD1 [0, 1, 2] (by decide) rfl
      generalize H1 = H at hP hS ⊢
      refine lv_if_ne (tgt := 86) hx hb dX2_findWord_70 (by decide) (fun c_7 => ?_) (fun c_7 => ?_)
      · have h := h.2 c_7
        refine lv_aload_n hx hb dX2_findWord_86 rfl (lv_at hl 0 rfl) ?_
        refine va_get (D := D) (ci := 2) (v := .int bgR) (C := RX2) (T := TX2) (N := 5) hx hb hts (by decide +kernel) hown hK hP 0 rfl rfl 3 (by decide) (hts (.fieldLink RX2 23 "PartGraphs$Reader" "begin" "I") (by decide +kernel)) (fun _ h9 => h9) rfl dX2_findWord_87 ?_
        refine lv_aload_n hx hb dX2_findWord_90 rfl (lv_at hl 0 rfl) ?_
        refine va_get (D := D) (ci := 2) (v := .int enR) (C := RX2) (T := TX2) (N := 5) hx hb hts (by decide +kernel) hown hK hP 0 rfl rfl 4 (by decide) (hts (.fieldLink RX2 26 "PartGraphs$Reader" "end" "I") (by decide +kernel)) (fun _ h9 => h9) rfl dX2_findWord_91 ?_
        refine lv_icmp_ge (tgt := 101) hx hb dX2_findWord_94 (by decide) (fun c_8 => ?_) (fun c_8 => ?_)
        · have h := h.1 c_8
          refine lv_iconst (v := 0) hx hb dX2_findWord_101 (by decide) ?_
          exact W.zret (v := 0) hx hb hr (by decide) (fun t ht hW => ⟨⟨0, (bgR, enR), rfl, h, by rw [ht]; exact hP, va_K.moved hW.alike hK, hD⟩, hS.F ht⟩) hS.2.2 dX2_findWord_102
        · have h := h.2 c_8
          refine lv_iconst (v := 1) hx hb dX2_findWord_97 (by decide) ?_
          refine lv_goto (tgt := 102) hx hb dX2_findWord_98 (by decide) ?_
          exact W.zret (v := 1) hx hb hr (by decide) (fun t ht hW => ⟨⟨1, (bgR, enR), rfl, h, by rw [ht]; exact hP, va_K.moved hW.alike hK, hD⟩, hS.F ht⟩) hS.2.2 dX2_findWord_102
      · have h := h.1 c_7
        refine lv_aload_n hx hb dX2_findWord_73 rfl (lv_at hl 0 rfl) ?_
        refine lv_dup hx hb dX2_findWord_74 rfl ?_
        refine va_get (D := D) (ci := 2) (v := .int enR) (C := RX2) (T := TX2) (N := 5) hx hb hts (by decide +kernel) hown hK hP 0 rfl rfl 4 (by decide) (hts (.fieldLink RX2 26 "PartGraphs$Reader" "end" "I") (by decide +kernel)) (fun _ h9 => h9) rfl dX2_findWord_75 ?_
        refine lv_iconst (v := 1) hx hb dX2_findWord_78 (by decide) ?_
        refine lv_iadd hx hb dX2_findWord_79 ?_
        refine va_put (D := D) (ci := 2) (v := .int (enR + 1)) (ty := .int) (C := RX2) (T := TX2) (N := 5) hx hb hts (by decide +kernel) tyX2 tyX2_ok nmX2 hown hK hP hD hS 0 rfl rfl 4 (by decide) (hts (.fieldLink RX2 26 "PartGraphs$Reader" "end" "I") (by decide +kernel)) (fun _ h9 => h9) rfl (by decide +kernel) rfl rfl (Nat.le_of_ble_eq_true rfl) dX2_findWord_80 (fun H locs hP hD hS => ?_)
        have hP : va_P D vwCl (sh_R cs adR txR nuR lnR bgR (enR + 1)) H := hP
        have hD : va_D A (sh_R cs adR txR nuR lnR bgR (enR + 1)) := hD
        refine lv_goto (tgt := 51) hx hb dX2_findWord_83 (by decide) ?_
        rw [hA51] at h
        exact h _ _ hP hD hS ls (lv_sub hl [0] rfl)
  have h := h A8 A51 s8 s51
  refine lv_aload_n hx hb dX2_findWord_0 rfl (lv_at hl 0 rfl) ?_
  refine lv_aload_n hx hb dX2_findWord_1 rfl (lv_at hl 0 rfl) ?_
  refine va_get (D := D) (ci := 2) (v := .int enR) (C := RX2) (T := TX2) (N := 5) hx hb hts (by decide +kernel) hown hK hP 0 rfl rfl 4 (by decide) (hts (.fieldLink RX2 26 "PartGraphs$Reader" "end" "I") (by decide +kernel)) (fun _ h9 => h9) rfl dX2_findWord_2 ?_
  refine va_put (D := D) (ci := 2) (v := .int enR) (ty := .int) (C := RX2) (T := TX2) (N := 5) hx hb hts (by decide +kernel) tyX2 tyX2_ok nmX2 hown hK hP hD hS 0 rfl rfl 3 (by decide) (hts (.fieldLink RX2 23 "PartGraphs$Reader" "begin" "I") (by decide +kernel)) (fun _ h9 => h9) rfl (by decide +kernel) rfl rfl (Nat.le_of_ble_eq_true rfl) dX2_findWord_5 (fun H locs hP hD hS => ?_)
  have hP : va_P D vwCl (sh_R cs adR txR nuR lnR enR enR) H := hP
  have hD : va_D A (sh_R cs adR txR nuR lnR enR enR) := hD
  rw [hA8] at h
  exact h _ _ hP hD hS ls (lv_sub hl [0] rfl)
def wp_X2_isWordHere (txR : Nat → Int32) (bgR : Int32) (enR : Int32) (k : Nat) (post : Int32 → Unit → Prop) : Prop :=
    ∀ (A20 : Int32 → Prop),
    (∀ (v2 : Int32), (k < 9 ∧ wp_J0_length_8abf5 k (fun r_3 _ => ((r_3 ≤ v2 → post 1 ()) ∧ (¬ r_3 ≤ v2 → (vp_in (bgR + v2) 2000 ∧ (k < 9 ∧ wp_J0_charAt_5068e k v2 (fun r_5 _ => (((txR (bgR + v2).toNatClampNeg) = r_5 → A20 (v2 + 1)) ∧ (¬ (txR (bgR + v2).toNatClampNeg) = r_5 → post 0 ()))))))))) → A20 v2) →
    (k < 9 ∧ wp_J0_length_8abf5 k (fun r_1 _ => ((r_1 = (enR - bgR) → A20 0) ∧ (¬ r_1 = (enR - bgR) → post 0 ()))))
set_option maxHeartbeats 4000000 in
set_option maxRecDepth 100000 in
theorem met_X2_isWordHere (l : Launch) (D : va_G) (cs : Nat → ClassId) (ev : Nat → Nat → Nat) (sz0 : Nat) (adR : Nat → Nat) (txR : Nat → Int32) (nuR : Nat → Int32) (lnR : Int32) (bgR : Int32) (enR : Int32) (k : Nat) (post : Int32 → Unit → Prop) (h : wp_X2_isWordHere txR bgR enR k post) : Met l yX2_isWordHere wsX2_isWordHere ({ frames := 4, cells := 0, slots := 0, locals := 85 }) (va_Pc [.ref (adR 0), .ref (ev 1 k)] (mPre D cs ev (sh_R cs adR txR nuR lnR bgR enR) sz0)) (va_Qi post (fun _ t => mAt D cs (va_A (sh_R cs adR txR nuR lnR bgR enR) sz0) (sh_R cs adR txR nuR lnR bgR enR) t) (va_A (sh_R cs adR txR nuR lnR bgR enR) sz0)) 0 0 (va_A (sh_R cs adR txR nuR lnR bgR enR) sz0) := by
  refine Met.ofW (cc := cX2_isWordHere) (maxL := 3) (ret := (some .boolean)) (by decide) rfl ?_
  intro p e s m args below meth c s₁ B hml hv
  obtain ⟨rfl, hsz, hP, hK, hD0, hE⟩ := hv
  have hx := B.exec
  have hb := B.bytes
  have hr := B.returns
  have hts := atoms_spec (ws := wsX2_isWordHere) B.pre
  have hown : s.vm.findClass RX2 = some m.cls := findClass_of_methodNamed B.named
  have hlocks := B.notSynchronized
  subst hsz
  have hD := hD0.self (sz := s.heap.size)
  generalize hAe : va_A (sh_R cs adR txR nuR lnR bgR enR) s.heap.size = A at hD hE ⊢
  have hA : ∀ q : Nat, s.heap.size ≤ q → A q := fun q h => by rw [← hAe]; exact Or.inr h
  have hS : va_S A s.heap s.heap [] := va_S.rf
  have hl := lv_entry ([.ref (adR 0), .ref (ev 1 k)]) (n := 3) (Nat.le_of_ble_eq_true rfl)
  rw [lg_entry_eq]
  generalize (lg_sl ([.ref (adR 0), .ref (ev 1 k)]) ++ List.replicate (3 - (lg_sl ([.ref (adR 0), .ref (ev 1 k)])).length) Slot.unset).toArray = ls at hl ⊢
  have hl : lv_has ls 3 [(0, .ref (adR 0)), (1, .ref (ev 1 k))] := hl
  obtain ⟨A20, hA20⟩ : ∃ Q : Int32 → Prop, Q = (fun v2 => ∀ (H : Heap) (locs : List Loc), va_P D vwCl (sh_R cs adR txR nuR lnR bgR enR) H → va_D A (sh_R cs adR txR nuR lnR bgR enR) → va_S A s.heap H locs → ∀ ls : Array Slot, lv_has ls 3 [(0, .ref (adR 0)), (1, .ref (ev 1 k)), (2, .int v2)] → W p l e (headSpec wsX2_isWordHere ({ frames := 4, cells := 0, slots := 0, locals := 85 })).room s m ([.ref (adR 0), .ref (ev 1 k)] : List Value).toArray below meth c H locs 0 0 (MQ below (va_Qi post (fun _ t => mAt D cs (A) (sh_R cs adR txR nuR lnR bgR enR) t) A) ([.ref (adR 0), .ref (ev 1 k)] : List Value).toArray s 0 0 A) (F0 m 20 ls [])) := ⟨_, rfl⟩
  have s20 : ∀ (v2 : Int32), (k < 9 ∧ wp_J0_length_8abf5 k (fun r_3 _ => ((r_3 ≤ v2 → post 1 ()) ∧ (¬ r_3 ≤ v2 → (vp_in (bgR + v2) 2000 ∧ (k < 9 ∧ wp_J0_charAt_5068e k v2 (fun r_5 _ => (((txR (bgR + v2).toNatClampNeg) = r_5 → A20 (v2 + 1)) ∧ (¬ (txR (bgR + v2).toNatClampNeg) = r_5 → post 0 ()))))))))) → A20 v2 := by
    intro v2 h
    rw [hA20]
    intro H locs hP hD hS ls hl
    refine lv_iload_n hx hb dX2_isWordHere_20 rfl (lv_at hl 2 rfl) ?_
    refine lv_aload_n hx hb dX2_isWordHere_21 rfl (lv_at hl 1 rfl) ?_
    have hk := h.1
    have h := h.2
    have hFc := va_free (wc := ([] : va_W)) hD hS hA [] rfl
    refine va_calli (va_runV (As := []) (rest := [.int v2]) ⟨hx, hb, hml, hown, hts⟩ (met_J0_length_8abf5 l D cs ev _ k _ h) (cwV 0 hts gX2_isWordHere_J0_length_8abf5 rfl rfl rfl (by decide +kernel) ⟨Nat.le_of_ble_eq_true rfl, Nat.le_of_ble_eq_true rfl⟩) (mPreV (vk_recv hE.2.2.2.2.1 hk hS) hP hD hS hK hE hFc [] (by decide) rfl) rfl rfl hl.1 rfl (lv_room (Nat.le_of_ble_eq_true rfl)) dX2_isWordHere_22 ⟨Nat.le_of_ble_eq_true rfl, Nat.le_of_ble_eq_true rfl⟩) hS (fun q _ h => hFc q h) hFc (fun r_3 u t H1 locs ht hvm hw hB hz1 hk1 hS => ?_)
    have h := hw
    obtain ⟨hP1, hK1, hD1⟩ := hB
    rw [ht] at hP1
    obtain ⟨hP, hD⟩ := mJoin (wr := (sh_R cs adR txR nuR lnR bgR enR)) (w1 := ([] : va_W)) (w' := (sh_R cs adR txR nuR lnR bgR enR)) hP hD [] [0, 1, 2] rfl rfl (by decide) (by decide) hk1 hFc hP1 hD1 [0, 1, 2] (by decide) rfl
    generalize H1 = H at hP hS ⊢
    refine lv_icmp_ge (tgt := 55) hx hb dX2_isWordHere_25 (by decide) (fun c_4 => ?_) (fun c_4 => ?_)
    · have h := h.1 c_4
      refine lv_iconst (v := 1) hx hb dX2_isWordHere_55 (by decide) ?_
      exact W.zret (v := 1) hx hb hr (by decide) (fun t ht hW => ⟨⟨1, (), rfl, h, by rw [ht]; exact hP, va_K.moved hW.alike hK, hD⟩, hS.F ht⟩) hS.2.2 dX2_isWordHere_56
    · have h := h.2 c_4
      refine lv_aload_n hx hb dX2_isWordHere_28 rfl (lv_at hl 0 rfl) ?_
      refine va_get (D := D) (ci := 2) (v := .ref (adR 1)) (C := RX2) (T := TX2) (N := 5) hx hb hts (by decide +kernel) hown hK hP 0 rfl rfl 0 (by decide) (hts (.fieldLink RX2 9 "PartGraphs$Reader" "text" "[C") (by decide +kernel)) (fun _ h9 => h9) rfl dX2_isWordHere_29 ?_
      refine lv_aload_n hx hb dX2_isWordHere_32 rfl (lv_at hl 0 rfl) ?_
      refine va_get (D := D) (ci := 2) (v := .int bgR) (C := RX2) (T := TX2) (N := 5) hx hb hts (by decide +kernel) hown hK hP 0 rfl rfl 3 (by decide) (hts (.fieldLink RX2 23 "PartGraphs$Reader" "begin" "I") (by decide +kernel)) (fun _ h9 => h9) rfl dX2_isWordHere_33 ?_
      refine lv_iload_n hx hb dX2_isWordHere_36 rfl (lv_at hl 2 rfl) ?_
      refine lv_iadd hx hb dX2_isWordHere_37 ?_
      have hin := h.1
      have h := h.2
      refine va_cald (D := D) (cl := vwCl) hx hb hK hP 1 2 rfl rfl hin dX2_isWordHere_38 ?_
      refine lv_aload_n hx hb dX2_isWordHere_39 rfl (lv_at hl 1 rfl) ?_
      refine lv_iload_n hx hb dX2_isWordHere_40 rfl (lv_at hl 2 rfl) ?_
      have hk := h.1
      have h := h.2
      have hFc := va_free (wc := ([] : va_W)) hD hS hA [] rfl
      refine va_calli (va_runV (As := [.int v2]) (rest := [.int (txR (bgR + v2).toNatClampNeg)]) ⟨hx, hb, hml, hown, hts⟩ (met_J0_charAt_5068e l D cs ev _ k v2 _ h) (cwV 1 hts gX2_isWordHere_J0_charAt_5068e rfl rfl rfl (by decide +kernel) ⟨Nat.le_of_ble_eq_true rfl, Nat.le_of_ble_eq_true rfl⟩) (mPreV (vk_recv hE.2.2.2.2.1 hk hS) hP hD hS hK hE hFc [] (by decide) rfl) rfl rfl hl.1 rfl (lv_room (Nat.le_of_ble_eq_true rfl)) dX2_isWordHere_41 ⟨Nat.le_of_ble_eq_true rfl, Nat.le_of_ble_eq_true rfl⟩) hS (fun q _ h => hFc q h) hFc (fun r_5 u t H1 locs ht hvm hw hB hz1 hk1 hS => ?_)
      have h := hw
      obtain ⟨hP1, hK1, hD1⟩ := hB
      rw [ht] at hP1
      obtain ⟨hP, hD⟩ := mJoin (wr := (sh_R cs adR txR nuR lnR bgR enR)) (w1 := ([] : va_W)) (w' := (sh_R cs adR txR nuR lnR bgR enR)) hP hD [] [0, 1, 2] rfl rfl (by decide) (by decide) hk1 hFc hP1 hD1 [0, 1, 2] (by decide) rfl
      generalize H1 = H at hP hS ⊢
      refine lv_icmp_eq (tgt := 49) hx hb dX2_isWordHere_44 (by decide) (fun c_6 => ?_) (fun c_6 => ?_)
      · have h := h.1 c_6
        refine lv_iinc (v := v2 + 1) (lv' := [(2, .int (v2 + 1)), (0, .ref (adR 0)), (1, .ref (ev 1 k))]) hx hb dX2_isWordHere_49 hl (k := 2) rfl rfl (by decide) rfl (fun ls hl => ?_)
        refine lv_goto (tgt := 20) hx hb dX2_isWordHere_52 (by decide) ?_
        rw [hA20] at h
        exact h _ _ hP hD hS ls (lv_sub hl [1, 2, 0] rfl)
      · have h := h.2 c_6
        refine lv_iconst (v := 0) hx hb dX2_isWordHere_47 (by decide) ?_
        exact W.zret (v := 0) hx hb hr (by decide) (fun t ht hW => ⟨⟨0, (), rfl, h, by rw [ht]; exact hP, va_K.moved hW.alike hK, hD⟩, hS.F ht⟩) hS.2.2 dX2_isWordHere_48
  have h := h A20 s20
  refine lv_aload_n hx hb dX2_isWordHere_0 rfl (lv_at hl 1 rfl) ?_
  have hk := h.1
  have h := h.2
  have hFc := va_free (wc := ([] : va_W)) hD hS hA [] rfl
  refine va_calli (va_runV (As := []) (rest := []) ⟨hx, hb, hml, hown, hts⟩ (met_J0_length_8abf5 l D cs ev _ k _ h) (cwV 0 hts gX2_isWordHere_J0_length_8abf5 rfl rfl rfl (by decide +kernel) ⟨Nat.le_of_ble_eq_true rfl, Nat.le_of_ble_eq_true rfl⟩) (mPreV (vk_recv hE.2.2.2.2.1 hk hS) hP hD hS hK hE hFc [] (by decide) rfl) rfl rfl hl.1 rfl (lv_room (Nat.le_of_ble_eq_true rfl)) dX2_isWordHere_1 ⟨Nat.le_of_ble_eq_true rfl, Nat.le_of_ble_eq_true rfl⟩) hS (fun q _ h => hFc q h) hFc (fun r_1 u t H1 locs ht hvm hw hB hz1 hk1 hS => ?_)
  have h := hw
  obtain ⟨hP1, hK1, hD1⟩ := hB
  rw [ht] at hP1
  obtain ⟨hP, hD⟩ := mJoin (wr := (sh_R cs adR txR nuR lnR bgR enR)) (w1 := ([] : va_W)) (w' := (sh_R cs adR txR nuR lnR bgR enR)) hP hD [] [0, 1, 2] rfl rfl (by decide) (by decide) hk1 hFc hP1 hD1 [0, 1, 2] (by decide) rfl
  generalize H1 = H at hP hS ⊢
  refine lv_aload_n hx hb dX2_isWordHere_4 rfl (lv_at hl 0 rfl) ?_
  refine va_get (D := D) (ci := 2) (v := .int enR) (C := RX2) (T := TX2) (N := 5) hx hb hts (by decide +kernel) hown hK hP 0 rfl rfl 4 (by decide) (hts (.fieldLink RX2 26 "PartGraphs$Reader" "end" "I") (by decide +kernel)) (fun _ h9 => h9) rfl dX2_isWordHere_5 ?_
  refine lv_aload_n hx hb dX2_isWordHere_8 rfl (lv_at hl 0 rfl) ?_
  refine va_get (D := D) (ci := 2) (v := .int bgR) (C := RX2) (T := TX2) (N := 5) hx hb hts (by decide +kernel) hown hK hP 0 rfl rfl 3 (by decide) (hts (.fieldLink RX2 23 "PartGraphs$Reader" "begin" "I") (by decide +kernel)) (fun _ h9 => h9) rfl dX2_isWordHere_9 ?_
  refine lv_isub hx hb dX2_isWordHere_12 ?_
  refine lv_icmp_eq (tgt := 18) hx hb dX2_isWordHere_13 (by decide) (fun c_2 => ?_) (fun c_2 => ?_)
  · have h := h.1 c_2
    refine lv_iconst (v := 0) hx hb dX2_isWordHere_18 (by decide) ?_
    refine lv_istore_n (lv' := [(2, .int 0), (0, .ref (adR 0)), (1, .ref (ev 1 k))]) hx hb dX2_isWordHere_19 rfl hl (by decide) rfl (fun ls hl => ?_)
    rw [hA20] at h
    exact h _ _ hP hD hS ls (lv_sub hl [1, 2, 0] rfl)
  · have h := h.2 c_2
    refine lv_iconst (v := 0) hx hb dX2_isWordHere_16 (by decide) ?_
    exact W.zret (v := 0) hx hb hr (by decide) (fun t ht hW => ⟨⟨0, (), rfl, h, by rw [ht]; exact hP, va_K.moved hW.alike hK, hD⟩, hS.F ht⟩) hS.2.2 dX2_isWordHere_17
def wp_X2_verbHere (txR : Nat → Int32) (bgR : Int32) (enR : Int32) (post : Option Nat → Unit → Prop) : Prop :=
    ∀ (A2 : Int32 → Prop),
    (∀ (v1 : Int32), ((7 ≤ v1 → post none ()) ∧ (¬ 7 ≤ v1 → (vp_in v1 7 ∧ (v1.toNatClampNeg < 7 ∧ wp_X2_isWordHere txR bgR enR v1.toNatClampNeg (fun r_2 _ => ((r_2 = 0 → A2 (v1 + 1)) ∧ (¬ r_2 = 0 → (vp_in v1 7 ∧ post (some v1.toNatClampNeg) ())))))))) → A2 v1) →
    A2 0
set_option maxHeartbeats 4000000 in
set_option maxRecDepth 100000 in
theorem met_X2_verbHere (l : Launch) (D : va_G) (cs : Nat → ClassId) (ev : Nat → Nat → Nat) (sz0 : Nat) (adR : Nat → Nat) (txR : Nat → Int32) (nuR : Nat → Int32) (lnR : Int32) (bgR : Int32) (enR : Int32) (post : Option Nat → Unit → Prop) (h : wp_X2_verbHere txR bgR enR post) : Met l yX2_verbHere wsX2_verbHere ({ frames := 5, cells := 0, slots := 0, locals := 107 }) (va_Pc [.ref (adR 0)] (mPre D cs ev (sh_R cs adR txR nuR lnR bgR enR) sz0)) (va_Qe (ev 0) post (fun _ t => mAt D cs (va_A (sh_R cs adR txR nuR lnR bgR enR) sz0) (sh_R cs adR txR nuR lnR bgR enR) t) (va_A (sh_R cs adR txR nuR lnR bgR enR) sz0)) 0 0 (va_A (sh_R cs adR txR nuR lnR bgR enR) sz0) := by
  refine Met.ofW (cc := cX2_verbHere) (maxL := 2) (ret := (some (.object "PartGraphs$Verb"))) (by decide) rfl ?_
  intro p e s m args below meth c s₁ B hml hv
  obtain ⟨rfl, hsz, hP, hK, hD0, hE⟩ := hv
  have hx := B.exec
  have hb := B.bytes
  have hr := B.returns
  have hts := atoms_spec (ws := wsX2_verbHere) B.pre
  have hown : s.vm.findClass RX2 = some m.cls := findClass_of_methodNamed B.named
  have hlocks := B.notSynchronized
  subst hsz
  have hD := hD0.self (sz := s.heap.size)
  generalize hAe : va_A (sh_R cs adR txR nuR lnR bgR enR) s.heap.size = A at hD hE ⊢
  have hA : ∀ q : Nat, s.heap.size ≤ q → A q := fun q h => by rw [← hAe]; exact Or.inr h
  have hS : va_S A s.heap s.heap [] := va_S.rf
  have hl := lv_entry ([.ref (adR 0)]) (n := 2) (Nat.le_of_ble_eq_true rfl)
  rw [lg_entry_eq]
  generalize (lg_sl ([.ref (adR 0)]) ++ List.replicate (2 - (lg_sl ([.ref (adR 0)])).length) Slot.unset).toArray = ls at hl ⊢
  have hl : lv_has ls 2 [(0, .ref (adR 0))] := hl
  obtain ⟨A2, hA2⟩ : ∃ Q : Int32 → Prop, Q = (fun v1 => ∀ (H : Heap) (locs : List Loc), va_P D vwCl (sh_R cs adR txR nuR lnR bgR enR) H → va_D A (sh_R cs adR txR nuR lnR bgR enR) → va_S A s.heap H locs → ∀ ls : Array Slot, lv_has ls 2 [(0, .ref (adR 0)), (1, .int v1)] → W p l e (headSpec wsX2_verbHere ({ frames := 5, cells := 0, slots := 0, locals := 107 })).room s m ([.ref (adR 0)] : List Value).toArray below meth c H locs 0 0 (MQ below (va_Qe (ev 0) post (fun _ t => mAt D cs (A) (sh_R cs adR txR nuR lnR bgR enR) t) A) ([.ref (adR 0)] : List Value).toArray s 0 0 A) (F0 m 2 ls [])) := ⟨_, rfl⟩
  have s2 : ∀ (v1 : Int32), ((7 ≤ v1 → post none ()) ∧ (¬ 7 ≤ v1 → (vp_in v1 7 ∧ (v1.toNatClampNeg < 7 ∧ wp_X2_isWordHere txR bgR enR v1.toNatClampNeg (fun r_2 _ => ((r_2 = 0 → A2 (v1 + 1)) ∧ (¬ r_2 = 0 → (vp_in v1 7 ∧ post (some v1.toNatClampNeg) ())))))))) → A2 v1 := by
    intro v1 h
    rw [hA2]
    intro H locs hP hD hS ls hl
    refine lv_iload_n hx hb dX2_verbHere_2 rfl (lv_at hl 1 rfl) ?_
    refine va_getsN hx hb hE.2.2.2.2.2.1 hS hown (va_Nw.use rfl hE.1.2.2.2.2.2.2) (fun _ h9 => h9) dX2_verbHere_3 ?_
    refine va_tlen (v := 7) hx hb hE.2.2.2.2.2.2.1 hS (by decide) dX2_verbHere_6 ?_
    refine lv_icmp_ge (tgt := 37) hx hb dX2_verbHere_7 (by decide) (fun c_1 => ?_) (fun c_1 => ?_)
    · have h := h.1 c_1
      refine lv_null hx hb dX2_verbHere_37 ?_
      exact W.aret (v := va_re (ev 0) none) hx hb hr (Or.inl ⟨_, rfl⟩) (va_re_or _ _) (fun t ht hW => ⟨⟨none, (), rfl, h, by rw [ht]; exact hP, va_K.moved hW.alike hK, hD⟩, hS.F ht⟩) hS.2.2 dX2_verbHere_38
    · have h := h.2 c_1
      refine lv_aload_n hx hb dX2_verbHere_10 rfl (lv_at hl 0 rfl) ?_
      refine va_getsN hx hb hE.2.2.2.2.2.1 hS hown (va_Nw.use rfl hE.1.2.2.2.2.2.2) (fun _ h9 => h9) dX2_verbHere_11 ?_
      refine lv_iload_n hx hb dX2_verbHere_14 rfl (lv_at hl 1 rfl) ?_
      have hin := h.1
      have h := h.2
      refine vb_tq (v := .ref (ev 0 v1.toNatClampNeg)) hx hb hE.2.2.2.2.2.2.1 hS hin rfl dX2_verbHere_15 ?_
      have hk := h.1
      have h := h.2
      refine va_getX (i := v1.toNatClampNeg) hx hb hE.2.2.2.1 hk hS hown (hts (.fieldLink RX2 71 "PartGraphs$Verb" "word" "Ljava/lang/String;") (by decide +kernel)) (fun _ h9 => h9) dX2_verbHere_16 ?_
      have hFc := va_free (wc := (sh_R cs adR txR nuR lnR bgR enR)) hD hS hA [0, 1, 2] rfl
      refine va_calli (va_runV (As := [.ref (ev 1 v1.toNatClampNeg)]) (rest := []) ⟨hx, hb, hml, hown, hts⟩ (met_X2_isWordHere l D cs ev _ adR txR nuR lnR bgR enR v1.toNatClampNeg _ h) (cwV 1 hts gX2_verbHere_X2_isWordHere rfl rfl rfl (by decide +kernel) ⟨Nat.le_of_ble_eq_true rfl, Nat.le_of_ble_eq_true rfl⟩) (mPreV (va_recv hK hP (ci := 2) (q0 := 0) rfl rfl) hP hD hS hK hE hFc [0, 1, 2] (by decide) rfl) rfl rfl hl.1 rfl (lv_room (Nat.le_of_ble_eq_true rfl)) dX2_verbHere_19 ⟨Nat.le_of_ble_eq_true rfl, Nat.le_of_ble_eq_true rfl⟩) hS (fun q _ h => hFc q h) hFc (fun r_2 u t H1 locs ht hvm hw hB hz1 hk1 hS => ?_)
      have h := hw
      obtain ⟨hP1, hK1, hD1⟩ := hB
      rw [ht] at hP1
      obtain ⟨hP, hD⟩ := mJoin (wr := ([] : va_W)) (w1 := (sh_R cs adR txR nuR lnR bgR enR)) (w' := (sh_R cs adR txR nuR lnR bgR enR)) hP hD [0, 1, 2] [] rfl rfl (by decide) (by decide) hk1 hFc hP1 hD1 [0, 1, 2] (by decide) rfl
      generalize H1 = H at hP hS ⊢
      refine lv_if_eq (tgt := 31) hx hb dX2_verbHere_22 (by decide) (fun c_3 => ?_) (fun c_3 => ?_)
      · have h := h.1 c_3
        refine lv_iinc (v := v1 + 1) (lv' := [(1, .int (v1 + 1)), (0, .ref (adR 0))]) hx hb dX2_verbHere_31 hl (k := 1) rfl rfl (by decide) rfl (fun ls hl => ?_)
        refine lv_goto (tgt := 2) hx hb dX2_verbHere_34 (by decide) ?_
        rw [hA2] at h
        exact h _ _ hP hD hS ls (lv_sub hl [1, 0] rfl)
      · have h := h.2 c_3
        refine va_getsN hx hb hE.2.2.2.2.2.1 hS hown (va_Nw.use rfl hE.1.2.2.2.2.2.2) (fun _ h9 => h9) dX2_verbHere_25 ?_
        refine lv_iload_n hx hb dX2_verbHere_28 rfl (lv_at hl 1 rfl) ?_
        have hin := h.1
        have h := h.2
        refine vb_tq (v := .ref (ev 0 v1.toNatClampNeg)) hx hb hE.2.2.2.2.2.2.1 hS hin rfl dX2_verbHere_29 ?_
        exact W.aret (v := va_re (ev 0) (some v1.toNatClampNeg)) hx hb hr (Or.inl ⟨_, rfl⟩) (va_re_or _ _) (fun t ht hW => ⟨⟨some v1.toNatClampNeg, (), rfl, h, by rw [ht]; exact hP, va_K.moved hW.alike hK, hD⟩, hS.F ht⟩) hS.2.2 dX2_verbHere_30
  have h := h A2 s2
  refine lv_iconst (v := 0) hx hb dX2_verbHere_0 (by decide) ?_
  refine lv_istore_n (lv' := [(1, .int 0), (0, .ref (adR 0))]) hx hb dX2_verbHere_1 rfl hl (by decide) rfl (fun ls hl => ?_)
  rw [hA2] at h
  exact h _ _ hP hD hS ls (lv_sub hl [1, 0] rfl)
def wp_X2_numberHere (txR : Nat → Int32) (bgR : Int32) (enR : Int32) (post : Int32 → Unit → Prop) : Prop :=
    ∀ (A23 : Int32 → Int32 → Prop),
    (∀ (v1 : Int32) (v2 : Int32), ((enR ≤ v2 → post v1 ()) ∧ (¬ enR ≤ v2 → (vp_in v2 2000 ∧ (((txR v2.toNatClampNeg) < 48 → post (-1) ()) ∧ (¬ (txR v2.toNatClampNeg) < 48 → (vp_in v2 2000 ∧ (((txR v2.toNatClampNeg) ≤ 57 → (vp_in v2 2000 ∧ A23 ((v1 * 10) + ((txR v2.toNatClampNeg) - 48)) (v2 + 1))) ∧ (¬ (txR v2.toNatClampNeg) ≤ 57 → post (-1) ())))))))) → A23 v1 v2) →
    (((enR - bgR) ≤ 9 → A23 0 bgR) ∧ (¬ (enR - bgR) ≤ 9 → post (-1) ()))
set_option maxHeartbeats 4000000 in
set_option maxRecDepth 100000 in
theorem met_X2_numberHere (l : Launch) (D : va_G) (cs : Nat → ClassId) (ev : Nat → Nat → Nat) (sz0 : Nat) (adR : Nat → Nat) (txR : Nat → Int32) (nuR : Nat → Int32) (lnR : Int32) (bgR : Int32) (enR : Int32) (post : Int32 → Unit → Prop) (h : wp_X2_numberHere txR bgR enR post) : Met l yX2_numberHere wsX2_numberHere ({ frames := 0, cells := 0, slots := 0, locals := 0 }) (va_Pc [.ref (adR 0)] (mPre D cs ev (sh_R cs adR txR nuR lnR bgR enR) sz0)) (va_Qi post (fun _ t => mAt D cs (va_A (sh_R cs adR txR nuR lnR bgR enR) sz0) (sh_R cs adR txR nuR lnR bgR enR) t) (va_A (sh_R cs adR txR nuR lnR bgR enR) sz0)) 0 0 (va_A (sh_R cs adR txR nuR lnR bgR enR) sz0) := by
  refine Met.ofW (cc := cX2_numberHere) (maxL := 3) (ret := (some .int)) (by decide) rfl ?_
  intro p e s m args below meth c s₁ B hml hv
  obtain ⟨rfl, hsz, hP, hK, hD0, hE⟩ := hv
  have hx := B.exec
  have hb := B.bytes
  have hr := B.returns
  have hts := atoms_spec (ws := wsX2_numberHere) B.pre
  have hown : s.vm.findClass RX2 = some m.cls := findClass_of_methodNamed B.named
  have hlocks := B.notSynchronized
  subst hsz
  have hD := hD0.self (sz := s.heap.size)
  generalize hAe : va_A (sh_R cs adR txR nuR lnR bgR enR) s.heap.size = A at hD hE ⊢
  have hA : ∀ q : Nat, s.heap.size ≤ q → A q := fun q h => by rw [← hAe]; exact Or.inr h
  have hS : va_S A s.heap s.heap [] := va_S.rf
  have hl := lv_entry ([.ref (adR 0)]) (n := 3) (Nat.le_of_ble_eq_true rfl)
  rw [lg_entry_eq]
  generalize (lg_sl ([.ref (adR 0)]) ++ List.replicate (3 - (lg_sl ([.ref (adR 0)])).length) Slot.unset).toArray = ls at hl ⊢
  have hl : lv_has ls 3 [(0, .ref (adR 0))] := hl
  obtain ⟨A23, hA23⟩ : ∃ Q : Int32 → Int32 → Prop, Q = (fun v1 v2 => ∀ (H : Heap) (locs : List Loc), va_P D vwCl (sh_R cs adR txR nuR lnR bgR enR) H → va_D A (sh_R cs adR txR nuR lnR bgR enR) → va_S A s.heap H locs → ∀ ls : Array Slot, lv_has ls 3 [(0, .ref (adR 0)), (1, .int v1), (2, .int v2)] → W p l e (headSpec wsX2_numberHere ({ frames := 0, cells := 0, slots := 0, locals := 0 })).room s m ([.ref (adR 0)] : List Value).toArray below meth c H locs 0 0 (MQ below (va_Qi post (fun _ t => mAt D cs (A) (sh_R cs adR txR nuR lnR bgR enR) t) A) ([.ref (adR 0)] : List Value).toArray s 0 0 A) (F0 m 23 ls [])) := ⟨_, rfl⟩
  have s23 : ∀ (v1 : Int32) (v2 : Int32), ((enR ≤ v2 → post v1 ()) ∧ (¬ enR ≤ v2 → (vp_in v2 2000 ∧ (((txR v2.toNatClampNeg) < 48 → post (-1) ()) ∧ (¬ (txR v2.toNatClampNeg) < 48 → (vp_in v2 2000 ∧ (((txR v2.toNatClampNeg) ≤ 57 → (vp_in v2 2000 ∧ A23 ((v1 * 10) + ((txR v2.toNatClampNeg) - 48)) (v2 + 1))) ∧ (¬ (txR v2.toNatClampNeg) ≤ 57 → post (-1) ())))))))) → A23 v1 v2 := by
    intro v1 v2 h
    rw [hA23]
    intro H locs hP hD hS ls hl
    refine lv_iload_n hx hb dX2_numberHere_23 rfl (lv_at hl 2 rfl) ?_
    refine lv_aload_n hx hb dX2_numberHere_24 rfl (lv_at hl 0 rfl) ?_
    refine va_get (D := D) (ci := 2) (v := .int enR) (C := RX2) (T := TX2) (N := 5) hx hb hts (by decide +kernel) hown hK hP 0 rfl rfl 4 (by decide) (hts (.fieldLink RX2 26 "PartGraphs$Reader" "end" "I") (by decide +kernel)) (fun _ h9 => h9) rfl dX2_numberHere_25 ?_
    refine lv_icmp_ge (tgt := 76) hx hb dX2_numberHere_28 (by decide) (fun c_2 => ?_) (fun c_2 => ?_)
    · have h := h.1 c_2
      refine lv_iload_n hx hb dX2_numberHere_76 rfl (lv_at hl 1 rfl) ?_
      exact W.iret (v := v1) hx hb hr (fun t ht hW => ⟨⟨v1, (), rfl, h, by rw [ht]; exact hP, va_K.moved hW.alike hK, hD⟩, hS.F ht⟩) hS.2.2 dX2_numberHere_77
    · have h := h.2 c_2
      refine lv_aload_n hx hb dX2_numberHere_31 rfl (lv_at hl 0 rfl) ?_
      refine va_get (D := D) (ci := 2) (v := .ref (adR 1)) (C := RX2) (T := TX2) (N := 5) hx hb hts (by decide +kernel) hown hK hP 0 rfl rfl 0 (by decide) (hts (.fieldLink RX2 9 "PartGraphs$Reader" "text" "[C") (by decide +kernel)) (fun _ h9 => h9) rfl dX2_numberHere_32 ?_
      refine lv_iload_n hx hb dX2_numberHere_35 rfl (lv_at hl 2 rfl) ?_
      have hin := h.1
      have h := h.2
      refine va_cald (D := D) (cl := vwCl) hx hb hK hP 1 2 rfl rfl hin dX2_numberHere_36 ?_
      refine lv_bipush (v := 48) hx hb dX2_numberHere_37 (by decide) ?_
      refine lv_icmp_lt (tgt := 53) hx hb dX2_numberHere_39 (by decide) (fun c_3 => ?_) (fun c_3 => ?_)
      · have h := h.1 c_3
        refine lv_iconst (v := (-1)) hx hb dX2_numberHere_53 (by decide) ?_
        exact W.iret (v := (-1)) hx hb hr (fun t ht hW => ⟨⟨(-1), (), rfl, h, by rw [ht]; exact hP, va_K.moved hW.alike hK, hD⟩, hS.F ht⟩) hS.2.2 dX2_numberHere_54
      · have h := h.2 c_3
        refine lv_aload_n hx hb dX2_numberHere_42 rfl (lv_at hl 0 rfl) ?_
        refine va_get (D := D) (ci := 2) (v := .ref (adR 1)) (C := RX2) (T := TX2) (N := 5) hx hb hts (by decide +kernel) hown hK hP 0 rfl rfl 0 (by decide) (hts (.fieldLink RX2 9 "PartGraphs$Reader" "text" "[C") (by decide +kernel)) (fun _ h9 => h9) rfl dX2_numberHere_43 ?_
        refine lv_iload_n hx hb dX2_numberHere_46 rfl (lv_at hl 2 rfl) ?_
        have hin := h.1
        have h := h.2
        refine va_cald (D := D) (cl := vwCl) hx hb hK hP 1 2 rfl rfl hin dX2_numberHere_47 ?_
        refine lv_bipush (v := 57) hx hb dX2_numberHere_48 (by decide) ?_
        refine lv_icmp_le (tgt := 55) hx hb dX2_numberHere_50 (by decide) (fun c_4 => ?_) (fun c_4 => ?_)
        · have h := h.1 c_4
          refine lv_iload_n hx hb dX2_numberHere_55 rfl (lv_at hl 1 rfl) ?_
          refine lv_bipush (v := 10) hx hb dX2_numberHere_56 (by decide) ?_
          refine lv_imul hx hb dX2_numberHere_58 ?_
          refine lv_aload_n hx hb dX2_numberHere_59 rfl (lv_at hl 0 rfl) ?_
          refine va_get (D := D) (ci := 2) (v := .ref (adR 1)) (C := RX2) (T := TX2) (N := 5) hx hb hts (by decide +kernel) hown hK hP 0 rfl rfl 0 (by decide) (hts (.fieldLink RX2 9 "PartGraphs$Reader" "text" "[C") (by decide +kernel)) (fun _ h9 => h9) rfl dX2_numberHere_60 ?_
          refine lv_iload_n hx hb dX2_numberHere_63 rfl (lv_at hl 2 rfl) ?_
          have hin := h.1
          have h := h.2
          refine va_cald (D := D) (cl := vwCl) hx hb hK hP 1 2 rfl rfl hin dX2_numberHere_64 ?_
          refine lv_bipush (v := 48) hx hb dX2_numberHere_65 (by decide) ?_
          refine lv_isub hx hb dX2_numberHere_67 ?_
          refine lv_iadd hx hb dX2_numberHere_68 ?_
          refine lv_istore_n (lv' := [(1, .int ((v1 * 10) + ((txR v2.toNatClampNeg) - 48))), (0, .ref (adR 0)), (2, .int v2)]) hx hb dX2_numberHere_69 rfl hl (by decide) rfl (fun ls hl => ?_)
          refine lv_iinc (v := v2 + 1) (lv' := [(2, .int (v2 + 1)), (1, .int ((v1 * 10) + ((txR v2.toNatClampNeg) - 48))), (0, .ref (adR 0))]) hx hb dX2_numberHere_70 hl (k := 2) rfl rfl (by decide) rfl (fun ls hl => ?_)
          refine lv_goto (tgt := 23) hx hb dX2_numberHere_73 (by decide) ?_
          rw [hA23] at h
          exact h _ _ hP hD hS ls (lv_sub hl [2, 1, 0] rfl)
        · have h := h.2 c_4
          refine lv_iconst (v := (-1)) hx hb dX2_numberHere_53 (by decide) ?_
          exact W.iret (v := (-1)) hx hb hr (fun t ht hW => ⟨⟨(-1), (), rfl, h, by rw [ht]; exact hP, va_K.moved hW.alike hK, hD⟩, hS.F ht⟩) hS.2.2 dX2_numberHere_54
  have h := h A23 s23
  refine lv_aload_n hx hb dX2_numberHere_0 rfl (lv_at hl 0 rfl) ?_
  refine va_get (D := D) (ci := 2) (v := .int enR) (C := RX2) (T := TX2) (N := 5) hx hb hts (by decide +kernel) hown hK hP 0 rfl rfl 4 (by decide) (hts (.fieldLink RX2 26 "PartGraphs$Reader" "end" "I") (by decide +kernel)) (fun _ h9 => h9) rfl dX2_numberHere_1 ?_
  refine lv_aload_n hx hb dX2_numberHere_4 rfl (lv_at hl 0 rfl) ?_
  refine va_get (D := D) (ci := 2) (v := .int bgR) (C := RX2) (T := TX2) (N := 5) hx hb hts (by decide +kernel) hown hK hP 0 rfl rfl 3 (by decide) (hts (.fieldLink RX2 23 "PartGraphs$Reader" "begin" "I") (by decide +kernel)) (fun _ h9 => h9) rfl dX2_numberHere_5 ?_
  refine lv_isub hx hb dX2_numberHere_8 ?_
  refine lv_bipush (v := 9) hx hb dX2_numberHere_9 (by decide) ?_
  refine lv_icmp_le (tgt := 16) hx hb dX2_numberHere_11 (by decide) (fun c_1 => ?_) (fun c_1 => ?_)
  · have h := h.1 c_1
    refine lv_iconst (v := 0) hx hb dX2_numberHere_16 (by decide) ?_
    refine lv_istore_n (lv' := [(1, .int 0), (0, .ref (adR 0))]) hx hb dX2_numberHere_17 rfl hl (by decide) rfl (fun ls hl => ?_)
    refine lv_aload_n hx hb dX2_numberHere_18 rfl (lv_at hl 1 rfl) ?_
    refine va_get (D := D) (ci := 2) (v := .int bgR) (C := RX2) (T := TX2) (N := 5) hx hb hts (by decide +kernel) hown hK hP 0 rfl rfl 3 (by decide) (hts (.fieldLink RX2 23 "PartGraphs$Reader" "begin" "I") (by decide +kernel)) (fun _ h9 => h9) rfl dX2_numberHere_19 ?_
    refine lv_istore_n (lv' := [(2, .int bgR), (1, .int 0), (0, .ref (adR 0))]) hx hb dX2_numberHere_22 rfl hl (by decide) rfl (fun ls hl => ?_)
    rw [hA23] at h
    exact h _ _ hP hD hS ls (lv_sub hl [2, 1, 0] rfl)
  · have h := h.2 c_1
    refine lv_iconst (v := (-1)) hx hb dX2_numberHere_14 (by decide) ?_
    exact W.iret (v := (-1)) hx hb hr (fun t ht hW => ⟨⟨(-1), (), rfl, h, by rw [ht]; exact hP, va_K.moved hW.alike hK, hD⟩, hS.F ht⟩) hS.2.2 dX2_numberHere_15
