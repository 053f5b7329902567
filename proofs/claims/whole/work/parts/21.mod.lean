def wp_X6_wayAt (p1 : Int32) (p2 : Int32) (p3 : Int32) (p4 : Int32) (post : Int32 → Unit → Prop) : Prop :=
    post ((((600 * p1) + (100 * p3)) + (10 * p2)) + p4) ()
set_option maxHeartbeats 4000000 in
set_option maxRecDepth 100000 in
theorem met_X6_wayAt (l : Launch) (D : va_G) (cs : Nat → ClassId) (ev : Nat → Nat → Nat) (sz0 : Nat) (p1 : Int32) (p2 : Int32) (p3 : Int32) (p4 : Int32) (post : Int32 → Unit → Prop) (h : wp_X6_wayAt p1 p2 p3 p4 post) : Met l yX6_wayAt wsX6_wayAt ({ frames := 0, cells := 0, slots := 0, locals := 0 }) (va_Pc [.int p1, .int p2, .int p3, .int p4] (mPre D cs ev ([] : va_W) sz0)) (va_Qi post (fun _ t => mAt D cs (va_A ([] : va_W) sz0) ([] : va_W) t) (va_A ([] : va_W) sz0)) 0 0 (va_A ([] : va_W) sz0) := by
  refine Met.ofW (cc := cX6_wayAt) (maxL := 4) (ret := (some .int)) (by decide) rfl ?_
  intro p e s m args below meth c s₁ B hml hv
  obtain ⟨rfl, hsz, hP, hK, hD0, hE⟩ := hv
  have hx := B.exec
  have hb := B.bytes
  have hr := B.returns
  have hts := atoms_spec (ws := wsX6_wayAt) B.pre
  have hown : s.vm.findClass RX6 = some m.cls := findClass_of_methodNamed B.named
  have hlocks := B.notSynchronized
  subst hsz
  have hD := hD0.self (sz := s.heap.size)
  generalize hAe : va_A ([] : va_W) s.heap.size = A at hD hE ⊢
  have hA : ∀ q : Nat, s.heap.size ≤ q → A q := fun q h => by rw [← hAe]; exact Or.inr h
  have hS : va_S A s.heap s.heap [] := va_S.rf
  have hl := lv_entry ([.int p1, .int p2, .int p3, .int p4]) (n := 4) (Nat.le_of_ble_eq_true rfl)
  rw [lg_entry_eq]
  generalize (lg_sl ([.int p1, .int p2, .int p3, .int p4]) ++ List.replicate (4 - (lg_sl ([.int p1, .int p2, .int p3, .int p4])).length) Slot.unset).toArray = ls at hl ⊢
  have hl : lv_has ls 4 [(0, .int p1), (1, .int p2), (2, .int p3), (3, .int p4)] := hl
  refine lv_sipush (v := 600) hx hb dX6_wayAt_0 (by decide) ?_
  refine lv_iload_n hx hb dX6_wayAt_3 rfl (lv_at hl 0 rfl) ?_
  refine lv_imul hx hb dX6_wayAt_4 ?_
  refine lv_bipush (v := 100) hx hb dX6_wayAt_5 (by decide) ?_
  refine lv_iload_n hx hb dX6_wayAt_7 rfl (lv_at hl 2 rfl) ?_
  refine lv_imul hx hb dX6_wayAt_8 ?_
  refine lv_iadd hx hb dX6_wayAt_9 ?_
  refine lv_bipush (v := 10) hx hb dX6_wayAt_10 (by decide) ?_
  refine lv_iload_n hx hb dX6_wayAt_12 rfl (lv_at hl 1 rfl) ?_
  refine lv_imul hx hb dX6_wayAt_13 ?_
  refine lv_iadd hx hb dX6_wayAt_14 ?_
  refine lv_iload_n hx hb dX6_wayAt_15 rfl (lv_at hl 3 rfl) ?_
  refine lv_iadd hx hb dX6_wayAt_16 ?_
  exact W.iret (v := (((600 * p1) + (100 * p3)) + (10 * p2)) + p4) hx hb hr (fun t ht hW => ⟨⟨(((600 * p1) + (100 * p3)) + (10 * p2)) + p4, (), rfl, h, by rw [ht]; exact hP, va_K.moved hW.alike hK, hD⟩, hS.F ht⟩) hS.2.2 dX6_wayAt_17
def wp_X6_numbersOf (p1 : Int32) (post : Int32 → Unit → Prop) : Prop :=
    ((p1 = 2 → post 3 ()) ∧ (¬ p1 = 2 → ((p1 = 3 → post 3 ()) ∧ (¬ p1 = 3 → post 2 ()))))
set_option maxHeartbeats 4000000 in
set_option maxRecDepth 100000 in
theorem met_X6_numbersOf (l : Launch) (D : va_G) (cs : Nat → ClassId) (ev : Nat → Nat → Nat) (sz0 : Nat) (p1 : Int32) (post : Int32 → Unit → Prop) (h : wp_X6_numbersOf p1 post) : Met l yX6_numbersOf wsX6_numbersOf ({ frames := 0, cells := 0, slots := 0, locals := 0 }) (va_Pc [.int p1] (mPre D cs ev ([] : va_W) sz0)) (va_Qi post (fun _ t => mAt D cs (va_A ([] : va_W) sz0) ([] : va_W) t) (va_A ([] : va_W) sz0)) 0 0 (va_A ([] : va_W) sz0) := by
  refine Met.ofW (cc := cX6_numbersOf) (maxL := 1) (ret := (some .int)) (by decide) rfl ?_
  intro p e s m args below meth c s₁ B hml hv
  obtain ⟨rfl, hsz, hP, hK, hD0, hE⟩ := hv
  have hx := B.exec
  have hb := B.bytes
  have hr := B.returns
  have hts := atoms_spec (ws := wsX6_numbersOf) B.pre
  have hown : s.vm.findClass RX6 = some m.cls := findClass_of_methodNamed B.named
  have hlocks := B.notSynchronized
  subst hsz
  have hD := hD0.self (sz := s.heap.size)
  generalize hAe : va_A ([] : va_W) s.heap.size = A at hD hE ⊢
  have hA : ∀ q : Nat, s.heap.size ≤ q → A q := fun q h => by rw [← hAe]; exact Or.inr h
  have hS : va_S A s.heap s.heap [] := va_S.rf
  have hl := lv_entry ([.int p1]) (n := 1) (Nat.le_of_ble_eq_true rfl)
  rw [lg_entry_eq]
  generalize (lg_sl ([.int p1]) ++ List.replicate (1 - (lg_sl ([.int p1])).length) Slot.unset).toArray = ls at hl ⊢
  have hl : lv_has ls 1 [(0, .int p1)] := hl
  refine lv_iload_n hx hb dX6_numbersOf_0 rfl (lv_at hl 0 rfl) ?_
  refine lv_iconst (v := 2) hx hb dX6_numbersOf_1 (by decide) ?_
  refine lv_icmp_eq (tgt := 10) hx hb dX6_numbersOf_2 (by decide) (fun c_1 => ?_) (fun c_1 => ?_)
  · have h := h.1 c_1
    refine lv_iconst (v := 3) hx hb dX6_numbersOf_10 (by decide) ?_
    refine lv_goto (tgt := 15) hx hb dX6_numbersOf_11 (by decide) ?_
    exact W.iret (v := 3) hx hb hr (fun t ht hW => ⟨⟨3, (), rfl, h, by rw [ht]; exact hP, va_K.moved hW.alike hK, hD⟩, hS.F ht⟩) hS.2.2 dX6_numbersOf_15
  · have h := h.2 c_1
    refine lv_iload_n hx hb dX6_numbersOf_5 rfl (lv_at hl 0 rfl) ?_
    refine lv_iconst (v := 3) hx hb dX6_numbersOf_6 (by decide) ?_
    refine lv_icmp_ne (tgt := 14) hx hb dX6_numbersOf_7 (by decide) (fun c_2 => ?_) (fun c_2 => ?_)
    · have h := h.2 c_2
      refine lv_iconst (v := 2) hx hb dX6_numbersOf_14 (by decide) ?_
      exact W.iret (v := 2) hx hb hr (fun t ht hW => ⟨⟨2, (), rfl, h, by rw [ht]; exact hP, va_K.moved hW.alike hK, hD⟩, hS.F ht⟩) hS.2.2 dX6_numbersOf_15
    · have h := h.1 c_2
      refine lv_iconst (v := 3) hx hb dX6_numbersOf_10 (by decide) ?_
      refine lv_goto (tgt := 15) hx hb dX6_numbersOf_11 (by decide) ?_
      exact W.iret (v := 3) hx hb hr (fun t ht hW => ⟨⟨3, (), rfl, h, by rw [ht]; exact hP, va_K.moved hW.alike hK, hD⟩, hS.F ht⟩) hS.2.2 dX6_numbersOf_15
def wp_X6_nameOf (p1 : Int32) (post : Int64 → Unit → Prop) : Prop :=
    ((p1 = 0 → post 6180401780 ()) ∧ (¬ p1 = 0 → ((p1 = 1 → post 1526583420274 ()) ∧ (¬ p1 = 1 → ((p1 = 2 → post 24600953 ()) ∧ (¬ p1 = 2 → ((p1 = 3 → post 394043711579502 ()) ∧ (¬ p1 = 3 → ((p1 = 4 → post 396242851033700 ()) ∧ (¬ p1 = 4 → ((p1 = 5 → post 404003756797806 ()) ∧ (¬ p1 = 5 → post 391844586415973 ()))))))))))))
set_option maxHeartbeats 4000000 in
set_option maxRecDepth 100000 in
theorem met_X6_nameOf (l : Launch) (D : va_G) (cs : Nat → ClassId) (ev : Nat → Nat → Nat) (sz0 : Nat) (p1 : Int32) (post : Int64 → Unit → Prop) (h : wp_X6_nameOf p1 post) : Met l yX6_nameOf wsX6_nameOf ({ frames := 0, cells := 0, slots := 0, locals := 0 }) (va_Pc [.int p1] (mPre D cs ev ([] : va_W) sz0)) (va_Ql post (fun _ t => mAt D cs (va_A ([] : va_W) sz0) ([] : va_W) t) (va_A ([] : va_W) sz0)) 0 0 (va_A ([] : va_W) sz0) := by
  refine Met.ofW (cc := cX6_nameOf) (maxL := 1) (ret := (some .long)) (by decide) rfl ?_
  intro p e s m args below meth c s₁ B hml hv
  obtain ⟨rfl, hsz, hP, hK, hD0, hE⟩ := hv
  have hx := B.exec
  have hb := B.bytes
  have hr := B.returns
  have hts := atoms_spec (ws := wsX6_nameOf) B.pre
  have hown : s.vm.findClass RX6 = some m.cls := findClass_of_methodNamed B.named
  have hlocks := B.notSynchronized
  subst hsz
  have hD := hD0.self (sz := s.heap.size)
  generalize hAe : va_A ([] : va_W) s.heap.size = A at hD hE ⊢
  have hA : ∀ q : Nat, s.heap.size ≤ q → A q := fun q h => by rw [← hAe]; exact Or.inr h
  have hS : va_S A s.heap s.heap [] := va_S.rf
  have hl := lv_entry ([.int p1]) (n := 1) (Nat.le_of_ble_eq_true rfl)
  rw [lg_entry_eq]
  generalize (lg_sl ([.int p1]) ++ List.replicate (1 - (lg_sl ([.int p1])).length) Slot.unset).toArray = ls at hl ⊢
  have hl : lv_has ls 1 [(0, .int p1)] := hl
  refine lv_iload_n hx hb dX6_nameOf_0 rfl (lv_at hl 0 rfl) ?_
  by_cases cs_0 : p1 = 0
  · have h := h.1 cs_0
    refine lv_tableIn (tgt := 40) hx hb dX6_nameOf_1 (by rw [cs_0]; decide) (by rw [cs_0]; decide) (by rw [cs_0]; rfl) (by decide) ?_
    refine lv_ldc2 (v := 6180401780) hx hb hown (hts (.constantLong RX6 78 6180401780) (by decide +kernel)) dX6_nameOf_40 ?_
    exact W.lret (v := 6180401780) hx hb hr (fun t ht hW => ⟨⟨6180401780, (), rfl, h, by rw [ht]; exact hP, va_K.moved hW.alike hK, hD⟩, hS.F ht⟩) hS.2.2 dX6_nameOf_43
  · have h := h.2 cs_0
    by_cases cs_1 : p1 = 1
    · have h := h.1 cs_1
      refine lv_tableIn (tgt := 44) hx hb dX6_nameOf_1 (by rw [cs_1]; decide) (by rw [cs_1]; decide) (by rw [cs_1]; rfl) (by decide) ?_
      refine lv_ldc2 (v := 1526583420274) hx hb hown (hts (.constantLong RX6 80 1526583420274) (by decide +kernel)) dX6_nameOf_44 ?_
      exact W.lret (v := 1526583420274) hx hb hr (fun t ht hW => ⟨⟨1526583420274, (), rfl, h, by rw [ht]; exact hP, va_K.moved hW.alike hK, hD⟩, hS.F ht⟩) hS.2.2 dX6_nameOf_47
    · have h := h.2 cs_1
      by_cases cs_2 : p1 = 2
      · have h := h.1 cs_2
        refine lv_tableIn (tgt := 48) hx hb dX6_nameOf_1 (by rw [cs_2]; decide) (by rw [cs_2]; decide) (by rw [cs_2]; rfl) (by decide) ?_
        refine lv_ldc2 (v := 24600953) hx hb hown (hts (.constantLong RX6 82 24600953) (by decide +kernel)) dX6_nameOf_48 ?_
        exact W.lret (v := 24600953) hx hb hr (fun t ht hW => ⟨⟨24600953, (), rfl, h, by rw [ht]; exact hP, va_K.moved hW.alike hK, hD⟩, hS.F ht⟩) hS.2.2 dX6_nameOf_51
      · have h := h.2 cs_2
        by_cases cs_3 : p1 = 3
        · have h := h.1 cs_3
          refine lv_tableIn (tgt := 52) hx hb dX6_nameOf_1 (by rw [cs_3]; decide) (by rw [cs_3]; decide) (by rw [cs_3]; rfl) (by decide) ?_
          refine lv_ldc2 (v := 394043711579502) hx hb hown (hts (.constantLong RX6 84 394043711579502) (by decide +kernel)) dX6_nameOf_52 ?_
          exact W.lret (v := 394043711579502) hx hb hr (fun t ht hW => ⟨⟨394043711579502, (), rfl, h, by rw [ht]; exact hP, va_K.moved hW.alike hK, hD⟩, hS.F ht⟩) hS.2.2 dX6_nameOf_55
        · have h := h.2 cs_3
          by_cases cs_4 : p1 = 4
          · have h := h.1 cs_4
            refine lv_tableIn (tgt := 56) hx hb dX6_nameOf_1 (by rw [cs_4]; decide) (by rw [cs_4]; decide) (by rw [cs_4]; rfl) (by decide) ?_
            refine lv_ldc2 (v := 396242851033700) hx hb hown (hts (.constantLong RX6 86 396242851033700) (by decide +kernel)) dX6_nameOf_56 ?_
            exact W.lret (v := 396242851033700) hx hb hr (fun t ht hW => ⟨⟨396242851033700, (), rfl, h, by rw [ht]; exact hP, va_K.moved hW.alike hK, hD⟩, hS.F ht⟩) hS.2.2 dX6_nameOf_59
          · have h := h.2 cs_4
            by_cases cs_5 : p1 = 5
            · have h := h.1 cs_5
              refine lv_tableIn (tgt := 60) hx hb dX6_nameOf_1 (by rw [cs_5]; decide) (by rw [cs_5]; decide) (by rw [cs_5]; rfl) (by decide) ?_
              refine lv_ldc2 (v := 404003756797806) hx hb hown (hts (.constantLong RX6 88 404003756797806) (by decide +kernel)) dX6_nameOf_60 ?_
              exact W.lret (v := 404003756797806) hx hb hr (fun t ht hW => ⟨⟨404003756797806, (), rfl, h, by rw [ht]; exact hP, va_K.moved hW.alike hK, hD⟩, hS.F ht⟩) hS.2.2 dX6_nameOf_63
            · have h := h.2 cs_5
              refine lv_tableOut (tgt := 64) hx hb dX6_nameOf_1 (by have q0 := lv_neT cs_0 (show (0 : Int32).toInt = 0 by decide); have q1 := lv_neT cs_1 (show (1 : Int32).toInt = 1 by decide); have q2 := lv_neT cs_2 (show (2 : Int32).toInt = 2 by decide); have q3 := lv_neT cs_3 (show (3 : Int32).toInt = 3 by decide); have q4 := lv_neT cs_4 (show (4 : Int32).toInt = 4 by decide); have q5 := lv_neT cs_5 (show (5 : Int32).toInt = 5 by decide); omega) (by decide) ?_
              refine lv_ldc2 (v := 391844586415973) hx hb hown (hts (.constantLong RX6 90 391844586415973) (by decide +kernel)) dX6_nameOf_64 ?_
              exact W.lret (v := 391844586415973) hx hb hr (fun t ht hW => ⟨⟨391844586415973, (), rfl, h, by rw [ht]; exact hP, va_K.moved hW.alike hK, hD⟩, hS.F ht⟩) hS.2.2 dX6_nameOf_67
def wp_X6_isOff (p1 : Int64) (p2 : Int32) (post : Int32 → Unit → Prop) : Prop :=
    (((lg_cmp ((p1 >>> (p2.toInt64 &&& 63)) &&& 1) 1) = 0 → post 1 ()) ∧ (¬ (lg_cmp ((p1 >>> (p2.toInt64 &&& 63)) &&& 1) 1) = 0 → post 0 ()))
set_option maxHeartbeats 4000000 in
set_option maxRecDepth 100000 in
theorem met_X6_isOff (l : Launch) (D : va_G) (cs : Nat → ClassId) (ev : Nat → Nat → Nat) (sz0 : Nat) (p1 : Int64) (p2 : Int32) (post : Int32 → Unit → Prop) (h : wp_X6_isOff p1 p2 post) : Met l yX6_isOff wsX6_isOff ({ frames := 0, cells := 0, slots := 0, locals := 0 }) (va_Pc [.long p1, .int p2] (mPre D cs ev ([] : va_W) sz0)) (va_Qi post (fun _ t => mAt D cs (va_A ([] : va_W) sz0) ([] : va_W) t) (va_A ([] : va_W) sz0)) 0 0 (va_A ([] : va_W) sz0) := by
  refine Met.ofW (cc := cX6_isOff) (maxL := 3) (ret := (some .boolean)) (by decide) rfl ?_
  intro p e s m args below meth c s₁ B hml hv
  obtain ⟨rfl, hsz, hP, hK, hD0, hE⟩ := hv
  have hx := B.exec
  have hb := B.bytes
  have hr := B.returns
  have hts := atoms_spec (ws := wsX6_isOff) B.pre
  have hown : s.vm.findClass RX6 = some m.cls := findClass_of_methodNamed B.named
  have hlocks := B.notSynchronized
  subst hsz
  have hD := hD0.self (sz := s.heap.size)
  generalize hAe : va_A ([] : va_W) s.heap.size = A at hD hE ⊢
  have hA : ∀ q : Nat, s.heap.size ≤ q → A q := fun q h => by rw [← hAe]; exact Or.inr h
  have hS : va_S A s.heap s.heap [] := va_S.rf
  have hl := lv_entry ([.long p1, .int p2]) (n := 3) (Nat.le_of_ble_eq_true rfl)
  rw [lg_entry_eq]
  generalize (lg_sl ([.long p1, .int p2]) ++ List.replicate (3 - (lg_sl ([.long p1, .int p2])).length) Slot.unset).toArray = ls at hl ⊢
  have hl : lv_has ls 3 [(0, .long p1), (2, .int p2)] := hl
  refine lv_lload_n hx hb dX6_isOff_0 rfl (lv_at hl 0 rfl) ?_
  refine lv_iload_n hx hb dX6_isOff_1 rfl (lv_at hl 1 rfl) ?_
  refine lv_lshr hx hb dX6_isOff_2 rfl ?_
  refine lv_lconst (v := 1) hx hb dX6_isOff_3 (by decide) ?_
  refine lv_land hx hb dX6_isOff_4 ?_
  refine lv_lconst (v := 1) hx hb dX6_isOff_5 (by decide) ?_
  refine W.lcmp hx hb dX6_isOff_6 ?_
  refine lv_if_ne (tgt := 14) hx hb dX6_isOff_7 (by decide) (fun c_1 => ?_) (fun c_1 => ?_)
  · have h := h.2 c_1
    refine lv_iconst (v := 0) hx hb dX6_isOff_14 (by decide) ?_
    exact W.zret (v := 0) hx hb hr (by decide) (fun t ht hW => ⟨⟨0, (), rfl, h, by rw [ht]; exact hP, va_K.moved hW.alike hK, hD⟩, hS.F ht⟩) hS.2.2 dX6_isOff_15
  · have h := h.1 c_1
    refine lv_iconst (v := 1) hx hb dX6_isOff_10 (by decide) ?_
    refine lv_goto (tgt := 15) hx hb dX6_isOff_11 (by decide) ?_
    exact W.zret (v := 1) hx hb hr (by decide) (fun t ht hW => ⟨⟨1, (), rfl, h, by rw [ht]; exact hP, va_K.moved hW.alike hK, hD⟩, hS.F ht⟩) hS.2.2 dX6_isOff_15
def wp_X6_thrown (faM : Int32) (post : Int32 → Unit → Prop) : Prop :=
    post faM ()
set_option maxHeartbeats 4000000 in
set_option maxRecDepth 100000 in
theorem met_X6_thrown (l : Launch) (D : va_G) (cs : Nat → ClassId) (ev : Nat → Nat → Nat) (sz0 : Nat) (adM : Nat → Nat) (mpM : Nat → Int32) (mkM : Nat → Int32) (mgM : Nat → Int32) (mcM : Nat → Int32) (mwM : Nat → Int32) (mfM : Nat → Int32) (mtM : Nat → Int32) (mhM : Nat → Int32) (mmM : Nat → Int32) (mdM : Nat → Int32) (mxM : Nat → Int32) (mnM : Nat → Int32) (szM : Int32) (faM : Int32) (apM : Int32) (waM : Int32) (wrM : Int32) (fuM : Int32) (post : Int32 → Unit → Prop) (h : wp_X6_thrown faM post) : Met l yX6_thrown wsX6_thrown ({ frames := 0, cells := 0, slots := 0, locals := 0 }) (va_Pc [.ref (adM 0)] (mPre D cs ev (sh_M cs adM mpM mkM mgM mcM mwM mfM mtM mhM mmM mdM mxM mnM szM faM apM waM wrM fuM) sz0)) (va_Qi post (fun _ t => mAt D cs (va_A (sh_M cs adM mpM mkM mgM mcM mwM mfM mtM mhM mmM mdM mxM mnM szM faM apM waM wrM fuM) sz0) (sh_M cs adM mpM mkM mgM mcM mwM mfM mtM mhM mmM mdM mxM mnM szM faM apM waM wrM fuM) t) (va_A (sh_M cs adM mpM mkM mgM mcM mwM mfM mtM mhM mmM mdM mxM mnM szM faM apM waM wrM fuM) sz0)) 0 0 (va_A (sh_M cs adM mpM mkM mgM mcM mwM mfM mtM mhM mmM mdM mxM mnM szM faM apM waM wrM fuM) sz0) := by
  refine Met.ofW (cc := cX6_thrown) (maxL := 1) (ret := (some .int)) (by decide) rfl ?_
  intro p e s m args below meth c s₁ B hml hv
  obtain ⟨rfl, hsz, hP, hK, hD0, hE⟩ := hv
  have hx := B.exec
  have hb := B.bytes
  have hr := B.returns
  have hts := atoms_spec (ws := wsX6_thrown) B.pre
  have hown : s.vm.findClass RX6 = some m.cls := findClass_of_methodNamed B.named
  have hlocks := B.notSynchronized
  subst hsz
  have hD := hD0.self (sz := s.heap.size)
  generalize hAe : va_A (sh_M cs adM mpM mkM mgM mcM mwM mfM mtM mhM mmM mdM mxM mnM szM faM apM waM wrM fuM) s.heap.size = A at hD hE ⊢
  have hA : ∀ q : Nat, s.heap.size ≤ q → A q := fun q h => by rw [← hAe]; exact Or.inr h
  have hS : va_S A s.heap s.heap [] := va_S.rf
  have hl := lv_entry ([.ref (adM 0)]) (n := 1) (Nat.le_of_ble_eq_true rfl)
  rw [lg_entry_eq]
  generalize (lg_sl ([.ref (adM 0)]) ++ List.replicate (1 - (lg_sl ([.ref (adM 0)])).length) Slot.unset).toArray = ls at hl ⊢
  have hl : lv_has ls 1 [(0, .ref (adM 0))] := hl
  refine lv_aload_n hx hb dX6_thrown_0 rfl (lv_at hl 0 rfl) ?_
  refine va_get (D := D) (ci := 5) (v := .int faM) (C := RX6) (T := TX6) (N := 18) hx hb hts (by decide +kernel) hown hK hP 0 rfl rfl 12 (by decide) (hts (.fieldLink RX6 52 "PartGraphsModel" "fault" "I") (by decide +kernel)) (fun _ h9 => h9) rfl dX6_thrown_1 ?_
  exact W.iret (v := faM) hx hb hr (fun t ht hW => ⟨⟨faM, (), rfl, h, by rw [ht]; exact hP, va_K.moved hW.alike hK, hD⟩, hS.F ht⟩) hS.2.2 dX6_thrown_4
def wp_X6_clear (mpM : Nat → Int32) (mcM : Nat → Int32) (mwM : Nat → Int32) (mfM : Nat → Int32) (mhM : Nat → Int32) (mmM : Nat → Int32) (mdM : Nat → Int32) (p1 : Int32) (post : ((Nat → Int32) × (Nat → Int32) × (Nat → Int32) × (Nat → Int32) × (Nat → Int32) × (Nat → Int32) × (Nat → Int32)) → Prop) : Prop :=
    ∀ (A16 : Int32 → (Nat → Int32) → (Nat → Int32) → (Nat → Int32) → (Nat → Int32) → (Nat → Int32) → (Nat → Int32) → (Nat → Int32) → Prop) (A42 : Int32 → (Nat → Int32) → (Nat → Int32) → (Nat → Int32) → (Nat → Int32) → (Nat → Int32) → (Nat → Int32) → (Nat → Int32) → Prop) (A70 : Int32 → (Nat → Int32) → (Nat → Int32) → (Nat → Int32) → (Nat → Int32) → (Nat → Int32) → (Nat → Int32) → (Nat → Int32) → Prop) (A96 : Int32 → (Nat → Int32) → (Nat → Int32) → (Nat → Int32) → (Nat → Int32) → (Nat → Int32) → (Nat → Int32) → (Nat → Int32) → Prop),
    (∀ (v2 : Int32) (mpM : Nat → Int32) (mcM : Nat → Int32) (mwM : Nat → Int32) (mfM : Nat → Int32) (mhM : Nat → Int32) (mmM : Nat → Int32) (mdM : Nat → Int32), ((100 ≤ v2 → A42 0 mpM mcM mwM mfM mhM mmM mdM) ∧ (¬ 100 ≤ v2 → (vp_in ((100 * p1) + v2) 200 ∧ A16 (v2 + 1) mpM (upd mcM ((100 * p1) + v2).toNatClampNeg (vp_nar .boolean 0)) mwM mfM mhM mmM mdM))) → A16 v2 mpM mcM mwM mfM mhM mmM mdM) →
    (∀ (v2 : Int32) (mpM : Nat → Int32) (mcM : Nat → Int32) (mwM : Nat → Int32) (mfM : Nat → Int32) (mhM : Nat → Int32) (mmM : Nat → Int32) (mdM : Nat → Int32), ((600 ≤ v2 → A70 0 mpM mcM mwM mfM mhM mmM mdM) ∧ (¬ 600 ≤ v2 → (vp_in ((600 * p1) + v2) 1200 ∧ A42 (v2 + 1) mpM mcM (upd mwM ((600 * p1) + v2).toNatClampNeg (vp_nar .boolean 0)) mfM mhM mmM mdM))) → A42 v2 mpM mcM mwM mfM mhM mmM mdM) →
    (∀ (v2 : Int32) (mpM : Nat → Int32) (mcM : Nat → Int32) (mwM : Nat → Int32) (mfM : Nat → Int32) (mhM : Nat → Int32) (mmM : Nat → Int32) (mdM : Nat → Int32), ((80 ≤ v2 → A96 0 mpM mcM mwM mfM mhM mmM mdM) ∧ (¬ 80 ≤ v2 → (vp_in ((80 * p1) + v2) 160 ∧ A70 (v2 + 1) mpM mcM mwM mfM (upd mhM ((80 * p1) + v2).toNatClampNeg (vp_nar .boolean 0)) mmM mdM))) → A70 v2 mpM mcM mwM mfM mhM mmM mdM) →
    (∀ (v2 : Int32) (mpM : Nat → Int32) (mcM : Nat → Int32) (mwM : Nat → Int32) (mfM : Nat → Int32) (mhM : Nat → Int32) (mmM : Nat → Int32) (mdM : Nat → Int32), ((10 ≤ v2 → post (mpM, mcM, mwM, mfM, mhM, mmM, mdM)) ∧ (¬ 10 ≤ v2 → (vp_in ((10 * p1) + v2) 20 ∧ (vp_in ((10 * p1) + v2) 20 ∧ A96 (v2 + 1) mpM mcM mwM mfM mhM (upd mmM ((10 * p1) + v2).toNatClampNeg (-1)) (upd mdM ((10 * p1) + v2).toNatClampNeg 0))))) → A96 v2 mpM mcM mwM mfM mhM mmM mdM) →
    (vp_in p1 2 ∧ (vp_in p1 2 ∧ A16 0 (upd mpM p1.toNatClampNeg 0) mcM mwM (upd mfM p1.toNatClampNeg 0) mhM mmM mdM))
set_option maxHeartbeats 4000000 in
set_option maxRecDepth 100000 in
theorem met_X6_clear (l : Launch) (D : va_G) (cs : Nat → ClassId) (ev : Nat → Nat → Nat) (sz0 : Nat) (adM : Nat → Nat) (mpM : Nat → Int32) (mkM : Nat → Int32) (mgM : Nat → Int32) (mcM : Nat → Int32) (mwM : Nat → Int32) (mfM : Nat → Int32) (mtM : Nat → Int32) (mhM : Nat → Int32) (mmM : Nat → Int32) (mdM : Nat → Int32) (mxM : Nat → Int32) (mnM : Nat → Int32) (szM : Int32) (faM : Int32) (apM : Int32) (waM : Int32) (wrM : Int32) (fuM : Int32) (p1 : Int32) (post : ((Nat → Int32) × (Nat → Int32) × (Nat → Int32) × (Nat → Int32) × (Nat → Int32) × (Nat → Int32) × (Nat → Int32)) → Prop) (h : wp_X6_clear mpM mcM mwM mfM mhM mmM mdM p1 post) : Met l yX6_clear wsX6_clear ({ frames := 0, cells := 0, slots := 0, locals := 0 }) (va_Pc [.ref (adM 0), .int p1] (mPre D cs ev (sh_M cs adM mpM mkM mgM mcM mwM mfM mtM mhM mmM mdM mxM mnM szM faM apM waM wrM fuM) sz0)) (va_Qv post (fun u t => match u with | (mpM', mcM', mwM', mfM', mhM', mmM', mdM') => mAt D cs (va_A (sh_M cs adM mpM mkM mgM mcM mwM mfM mtM mhM mmM mdM mxM mnM szM faM apM waM wrM fuM) sz0) (sh_M cs adM mpM' mkM mgM mcM' mwM' mfM' mtM mhM' mmM' mdM' mxM mnM szM faM apM waM wrM fuM) t) (va_A (sh_M cs adM mpM mkM mgM mcM mwM mfM mtM mhM mmM mdM mxM mnM szM faM apM waM wrM fuM) sz0)) 0 0 (va_A (sh_M cs adM mpM mkM mgM mcM mwM mfM mtM mhM mmM mdM mxM mnM szM faM apM waM wrM fuM) sz0) := by
  refine Met.ofW (cc := cX6_clear) (maxL := 3) (ret := none) (by decide) rfl ?_
  intro p e s m args below meth c s₁ B hml hv
  obtain ⟨rfl, hsz, hP, hK, hD0, hE⟩ := hv
  have hx := B.exec
  have hb := B.bytes
  have hr := B.returns
  have hts := atoms_spec (ws := wsX6_clear) B.pre
  have hown : s.vm.findClass RX6 = some m.cls := findClass_of_methodNamed B.named
  have hlocks := B.notSynchronized
  subst hsz
  have hD := hD0.self (sz := s.heap.size)
  generalize hAe : va_A (sh_M cs adM mpM mkM mgM mcM mwM mfM mtM mhM mmM mdM mxM mnM szM faM apM waM wrM fuM) s.heap.size = A at hD hE ⊢
  have hA : ∀ q : Nat, s.heap.size ≤ q → A q := fun q h => by rw [← hAe]; exact Or.inr h
  have hS : va_S A s.heap s.heap [] := va_S.rf
  have hl := lv_entry ([.ref (adM 0), .int p1]) (n := 3) (Nat.le_of_ble_eq_true rfl)
  rw [lg_entry_eq]
  generalize (lg_sl ([.ref (adM 0), .int p1]) ++ List.replicate (3 - (lg_sl ([.ref (adM 0), .int p1])).length) Slot.unset).toArray = ls at hl ⊢
  have hl : lv_has ls 3 [(0, .ref (adM 0)), (1, .int p1)] := hl
  obtain ⟨A16, hA16⟩ : ∃ Q : Int32 → (Nat → Int32) → (Nat → Int32) → (Nat → Int32) → (Nat → Int32) → (Nat → Int32) → (Nat → Int32) → (Nat → Int32) → Prop, Q = (fun v2 mpM mcM mwM mfM mhM mmM mdM => ∀ (H : Heap) (locs : List Loc), va_P D vwCl (sh_M cs adM mpM mkM mgM mcM mwM mfM mtM mhM mmM mdM mxM mnM szM faM apM waM wrM fuM) H → va_D A (sh_M cs adM mpM mkM mgM mcM mwM mfM mtM mhM mmM mdM mxM mnM szM faM apM waM wrM fuM) → va_S A s.heap H locs → ∀ ls : Array Slot, lv_has ls 3 [(0, .ref (adM 0)), (1, .int p1), (2, .int v2)] → W p l e (headSpec wsX6_clear ({ frames := 0, cells := 0, slots := 0, locals := 0 })).room s m ([.ref (adM 0), .int p1] : List Value).toArray below meth c H locs 0 0 (MQ below (va_Qv post (fun u t => match u with | (mpM', mcM', mwM', mfM', mhM', mmM', mdM') => mAt D cs (A) (sh_M cs adM mpM' mkM mgM mcM' mwM' mfM' mtM mhM' mmM' mdM' mxM mnM szM faM apM waM wrM fuM) t) A) ([.ref (adM 0), .int p1] : List Value).toArray s 0 0 A) (F0 m 16 ls [])) := ⟨_, rfl⟩
  obtain ⟨A42, hA42⟩ : ∃ Q : Int32 → (Nat → Int32) → (Nat → Int32) → (Nat → Int32) → (Nat → Int32) → (Nat → Int32) → (Nat → Int32) → (Nat → Int32) → Prop, Q = (fun v2 mpM mcM mwM mfM mhM mmM mdM => ∀ (H : Heap) (locs : List Loc), va_P D vwCl (sh_M cs adM mpM mkM mgM mcM mwM mfM mtM mhM mmM mdM mxM mnM szM faM apM waM wrM fuM) H → va_D A (sh_M cs adM mpM mkM mgM mcM mwM mfM mtM mhM mmM mdM mxM mnM szM faM apM waM wrM fuM) → va_S A s.heap H locs → ∀ ls : Array Slot, lv_has ls 3 [(0, .ref (adM 0)), (1, .int p1), (2, .int v2)] → W p l e (headSpec wsX6_clear ({ frames := 0, cells := 0, slots := 0, locals := 0 })).room s m ([.ref (adM 0), .int p1] : List Value).toArray below meth c H locs 0 0 (MQ below (va_Qv post (fun u t => match u with | (mpM', mcM', mwM', mfM', mhM', mmM', mdM') => mAt D cs (A) (sh_M cs adM mpM' mkM mgM mcM' mwM' mfM' mtM mhM' mmM' mdM' mxM mnM szM faM apM waM wrM fuM) t) A) ([.ref (adM 0), .int p1] : List Value).toArray s 0 0 A) (F0 m 42 ls [])) := ⟨_, rfl⟩
  obtain ⟨A70, hA70⟩ : ∃ Q : Int32 → (Nat → Int32) → (Nat → Int32) → (Nat → Int32) → (Nat → Int32) → (Nat → Int32) → (Nat → Int32) → (Nat → Int32) → Prop, Q = (fun v2 mpM mcM mwM mfM mhM mmM mdM => ∀ (H : Heap) (locs : List Loc), va_P D vwCl (sh_M cs adM mpM mkM mgM mcM mwM mfM mtM mhM mmM mdM mxM mnM szM faM apM waM wrM fuM) H → va_D A (sh_M cs adM mpM mkM mgM mcM mwM mfM mtM mhM mmM mdM mxM mnM szM faM apM waM wrM fuM) → va_S A s.heap H locs → ∀ ls : Array Slot, lv_has ls 3 [(0, .ref (adM 0)), (1, .int p1), (2, .int v2)] → W p l e (headSpec wsX6_clear ({ frames := 0, cells := 0, slots := 0, locals := 0 })).room s m ([.ref (adM 0), .int p1] : List Value).toArray below meth c H locs 0 0 (MQ below (va_Qv post (fun u t => match u with | (mpM', mcM', mwM', mfM', mhM', mmM', mdM') => mAt D cs (A) (sh_M cs adM mpM' mkM mgM mcM' mwM' mfM' mtM mhM' mmM' mdM' mxM mnM szM faM apM waM wrM fuM) t) A) ([.ref (adM 0), .int p1] : List Value).toArray s 0 0 A) (F0 m 70 ls [])) := ⟨_, rfl⟩
  obtain ⟨A96, hA96⟩ : ∃ Q : Int32 → (Nat → Int32) → (Nat → Int32) → (Nat → Int32) → (Nat → Int32) → (Nat → Int32) → (Nat → Int32) → (Nat → Int32) → Prop, Q = (fun v2 mpM mcM mwM mfM mhM mmM mdM => ∀ (H : Heap) (locs : List Loc), va_P D vwCl (sh_M cs adM mpM mkM mgM mcM mwM mfM mtM mhM mmM mdM mxM mnM szM faM apM waM wrM fuM) H → va_D A (sh_M cs adM mpM mkM mgM mcM mwM mfM mtM mhM mmM mdM mxM mnM szM faM apM waM wrM fuM) → va_S A s.heap H locs → ∀ ls : Array Slot, lv_has ls 3 [(0, .ref (adM 0)), (1, .int p1), (2, .int v2)] → W p l e (headSpec wsX6_clear ({ frames := 0, cells := 0, slots := 0, locals := 0 })).room s m ([.ref (adM 0), .int p1] : List Value).toArray below meth c H locs 0 0 (MQ below (va_Qv post (fun u t => match u with | (mpM', mcM', mwM', mfM', mhM', mmM', mdM') => mAt D cs (A) (sh_M cs adM mpM' mkM mgM mcM' mwM' mfM' mtM mhM' mmM' mdM' mxM mnM szM faM apM waM wrM fuM) t) A) ([.ref (adM 0), .int p1] : List Value).toArray s 0 0 A) (F0 m 96 ls [])) := ⟨_, rfl⟩
  have s16 : ∀ (v2 : Int32) (mpM : Nat → Int32) (mcM : Nat → Int32) (mwM : Nat → Int32) (mfM : Nat → Int32) (mhM : Nat → Int32) (mmM : Nat → Int32) (mdM : Nat → Int32), ((100 ≤ v2 → A42 0 mpM mcM mwM mfM mhM mmM mdM) ∧ (¬ 100 ≤ v2 → (vp_in ((100 * p1) + v2) 200 ∧ A16 (v2 + 1) mpM (upd mcM ((100 * p1) + v2).toNatClampNeg (vp_nar .boolean 0)) mwM mfM mhM mmM mdM))) → A16 v2 mpM mcM mwM mfM mhM mmM mdM := by
    intro v2 mpM mcM mwM mfM mhM mmM mdM h
    rw [hA16]
    intro H locs hP hD hS ls hl
    refine lv_iload_n hx hb dX6_clear_16 rfl (lv_at hl 2 rfl) ?_
    refine lv_bipush (v := 100) hx hb dX6_clear_17 (by decide) ?_
    refine lv_icmp_ge (tgt := 40) hx hb dX6_clear_19 (by decide) (fun c_1 => ?_) (fun c_1 => ?_)
    · have h := h.1 c_1
      refine lv_iconst (v := 0) hx hb dX6_clear_40 (by decide) ?_
      refine lv_istore_n (lv' := [(2, .int 0), (0, .ref (adM 0)), (1, .int p1)]) hx hb dX6_clear_41 rfl hl (by decide) rfl (fun ls hl => ?_)
      rw [hA42] at h
      exact h _ _ hP hD hS ls (lv_sub hl [1, 2, 0] rfl)
    · have h := h.2 c_1
      refine lv_aload_n hx hb dX6_clear_22 rfl (lv_at hl 0 rfl) ?_
      refine va_get (D := D) (ci := 5) (v := .ref (adM 4)) (C := RX6) (T := TX6) (N := 18) hx hb hts (by decide +kernel) hown hK hP 0 rfl rfl 3 (by decide) (hts (.fieldLink RX6 19 "PartGraphsModel" "covers" "[Z") (by decide +kernel)) (fun _ h9 => h9) rfl dX6_clear_23 ?_
      refine lv_bipush (v := 100) hx hb dX6_clear_26 (by decide) ?_
      refine lv_iload_n hx hb dX6_clear_28 rfl (lv_at hl 1 rfl) ?_
      refine lv_imul hx hb dX6_clear_29 ?_
      refine lv_iload_n hx hb dX6_clear_30 rfl (lv_at hl 2 rfl) ?_
      refine lv_iadd hx hb dX6_clear_31 ?_
      refine lv_iconst (v := 0) hx hb dX6_clear_32 (by decide) ?_
      have hin := h.1
      have h := h.2
      refine va_zast (D := D) (cl := vwCl) hx hb hK hP hD hS 4 4 rfl rfl hin dX6_clear_33 (fun H locs hP hD hS => ?_)
      have hP : va_P D vwCl (sh_M cs adM mpM mkM mgM (upd mcM ((100 * p1) + v2).toNatClampNeg (vp_nar .boolean 0)) mwM mfM mtM mhM mmM mdM mxM mnM szM faM apM waM wrM fuM) H := hP
      have hD : va_D A (sh_M cs adM mpM mkM mgM (upd mcM ((100 * p1) + v2).toNatClampNeg (vp_nar .boolean 0)) mwM mfM mtM mhM mmM mdM mxM mnM szM faM apM waM wrM fuM) := hD
      refine lv_iinc (v := v2 + 1) (lv' := [(2, .int (v2 + 1)), (0, .ref (adM 0)), (1, .int p1)]) hx hb dX6_clear_34 hl (k := 2) rfl rfl (by decide) rfl (fun ls hl => ?_)
      refine lv_goto (tgt := 16) hx hb dX6_clear_37 (by decide) ?_
      rw [hA16] at h
      exact h _ _ hP hD hS ls (lv_sub hl [1, 2, 0] rfl)
  have s42 : ∀ (v2 : Int32) (mpM : Nat → Int32) (mcM : Nat → Int32) (mwM : Nat → Int32) (mfM : Nat → Int32) (mhM : Nat → Int32) (mmM : Nat → Int32) (mdM : Nat → Int32), ((600 ≤ v2 → A70 0 mpM mcM mwM mfM mhM mmM mdM) ∧ (¬ 600 ≤ v2 → (vp_in ((600 * p1) + v2) 1200 ∧ A42 (v2 + 1) mpM mcM (upd mwM ((600 * p1) + v2).toNatClampNeg (vp_nar .boolean 0)) mfM mhM mmM mdM))) → A42 v2 mpM mcM mwM mfM mhM mmM mdM := by
    intro v2 mpM mcM mwM mfM mhM mmM mdM h
    rw [hA42]
    intro H locs hP hD hS ls hl
    refine lv_iload_n hx hb dX6_clear_42 rfl (lv_at hl 2 rfl) ?_
    refine lv_sipush (v := 600) hx hb dX6_clear_43 (by decide) ?_
    refine lv_icmp_ge (tgt := 68) hx hb dX6_clear_46 (by decide) (fun c_2 => ?_) (fun c_2 => ?_)
    · have h := h.1 c_2
      refine lv_iconst (v := 0) hx hb dX6_clear_68 (by decide) ?_
      refine lv_istore_n (lv' := [(2, .int 0), (0, .ref (adM 0)), (1, .int p1)]) hx hb dX6_clear_69 rfl hl (by decide) rfl (fun ls hl => ?_)
      rw [hA70] at h
      exact h _ _ hP hD hS ls (lv_sub hl [1, 2, 0] rfl)
    · have h := h.2 c_2
      refine lv_aload_n hx hb dX6_clear_49 rfl (lv_at hl 0 rfl) ?_
      refine va_get (D := D) (ci := 5) (v := .ref (adM 5)) (C := RX6) (T := TX6) (N := 18) hx hb hts (by decide +kernel) hown hK hP 0 rfl rfl 4 (by decide) (hts (.fieldLink RX6 23 "PartGraphsModel" "ways" "[Z") (by decide +kernel)) (fun _ h9 => h9) rfl dX6_clear_50 ?_
      refine lv_sipush (v := 600) hx hb dX6_clear_53 (by decide) ?_
      refine lv_iload_n hx hb dX6_clear_56 rfl (lv_at hl 1 rfl) ?_
      refine lv_imul hx hb dX6_clear_57 ?_
      refine lv_iload_n hx hb dX6_clear_58 rfl (lv_at hl 2 rfl) ?_
      refine lv_iadd hx hb dX6_clear_59 ?_
      refine lv_iconst (v := 0) hx hb dX6_clear_60 (by decide) ?_
      have hin := h.1
      have h := h.2
      refine va_zast (D := D) (cl := vwCl) hx hb hK hP hD hS 5 4 rfl rfl hin dX6_clear_61 (fun H locs hP hD hS => ?_)
      have hP : va_P D vwCl (sh_M cs adM mpM mkM mgM mcM (upd mwM ((600 * p1) + v2).toNatClampNeg (vp_nar .boolean 0)) mfM mtM mhM mmM mdM mxM mnM szM faM apM waM wrM fuM) H := hP
      have hD : va_D A (sh_M cs adM mpM mkM mgM mcM (upd mwM ((600 * p1) + v2).toNatClampNeg (vp_nar .boolean 0)) mfM mtM mhM mmM mdM mxM mnM szM faM apM waM wrM fuM) := hD
      refine lv_iinc (v := v2 + 1) (lv' := [(2, .int (v2 + 1)), (0, .ref (adM 0)), (1, .int p1)]) hx hb dX6_clear_62 hl (k := 2) rfl rfl (by decide) rfl (fun ls hl => ?_)
      refine lv_goto (tgt := 42) hx hb dX6_clear_65 (by decide) ?_
      rw [hA42] at h
      exact h _ _ hP hD hS ls (lv_sub hl [1, 2, 0] rfl)
  have s70 : ∀ (v2 : Int32) (mpM : Nat → Int32) (mcM : Nat → Int32) (mwM : Nat → Int32) (mfM : Nat → Int32) (mhM : Nat → Int32) (mmM : Nat → Int32) (mdM : Nat → Int32), ((80 ≤ v2 → A96 0 mpM mcM mwM mfM mhM mmM mdM) ∧ (¬ 80 ≤ v2 → (vp_in ((80 * p1) + v2) 160 ∧ A70 (v2 + 1) mpM mcM mwM mfM (upd mhM ((80 * p1) + v2).toNatClampNeg (vp_nar .boolean 0)) mmM mdM))) → A70 v2 mpM mcM mwM mfM mhM mmM mdM := by
    intro v2 mpM mcM mwM mfM mhM mmM mdM h
    rw [hA70]
    intro H locs hP hD hS ls hl
    refine lv_iload_n hx hb dX6_clear_70 rfl (lv_at hl 2 rfl) ?_
    refine lv_bipush (v := 80) hx hb dX6_clear_71 (by decide) ?_
    refine lv_icmp_ge (tgt := 94) hx hb dX6_clear_73 (by decide) (fun c_3 => ?_) (fun c_3 => ?_)
    · have h := h.1 c_3
      refine lv_iconst (v := 0) hx hb dX6_clear_94 (by decide) ?_
      refine lv_istore_n (lv' := [(2, .int 0), (0, .ref (adM 0)), (1, .int p1)]) hx hb dX6_clear_95 rfl hl (by decide) rfl (fun ls hl => ?_)
      rw [hA96] at h
      exact h _ _ hP hD hS ls (lv_sub hl [1, 2, 0] rfl)
    · have h := h.2 c_3
      refine lv_aload_n hx hb dX6_clear_76 rfl (lv_at hl 0 rfl) ?_
      refine va_get (D := D) (ci := 5) (v := .ref (adM 8)) (C := RX6) (T := TX6) (N := 18) hx hb hts (by decide +kernel) hown hK hP 0 rfl rfl 7 (by decide) (hts (.fieldLink RX6 32 "PartGraphsModel" "hazards" "[Z") (by decide +kernel)) (fun _ h9 => h9) rfl dX6_clear_77 ?_
      refine lv_bipush (v := 80) hx hb dX6_clear_80 (by decide) ?_
      refine lv_iload_n hx hb dX6_clear_82 rfl (lv_at hl 1 rfl) ?_
      refine lv_imul hx hb dX6_clear_83 ?_
      refine lv_iload_n hx hb dX6_clear_84 rfl (lv_at hl 2 rfl) ?_
      refine lv_iadd hx hb dX6_clear_85 ?_
      refine lv_iconst (v := 0) hx hb dX6_clear_86 (by decide) ?_
      have hin := h.1
      have h := h.2
      refine va_zast (D := D) (cl := vwCl) hx hb hK hP hD hS 8 4 rfl rfl hin dX6_clear_87 (fun H locs hP hD hS => ?_)
      have hP : va_P D vwCl (sh_M cs adM mpM mkM mgM mcM mwM mfM mtM (upd mhM ((80 * p1) + v2).toNatClampNeg (vp_nar .boolean 0)) mmM mdM mxM mnM szM faM apM waM wrM fuM) H := hP
      have hD : va_D A (sh_M cs adM mpM mkM mgM mcM mwM mfM mtM (upd mhM ((80 * p1) + v2).toNatClampNeg (vp_nar .boolean 0)) mmM mdM mxM mnM szM faM apM waM wrM fuM) := hD
      refine lv_iinc (v := v2 + 1) (lv' := [(2, .int (v2 + 1)), (0, .ref (adM 0)), (1, .int p1)]) hx hb dX6_clear_88 hl (k := 2) rfl rfl (by decide) rfl (fun ls hl => ?_)
      refine lv_goto (tgt := 70) hx hb dX6_clear_91 (by decide) ?_
      rw [hA70] at h
      exact h _ _ hP hD hS ls (lv_sub hl [1, 2, 0] rfl)
  have s96 : ∀ (v2 : Int32) (mpM : Nat → Int32) (mcM : Nat → Int32) (mwM : Nat → Int32) (mfM : Nat → Int32) (mhM : Nat → Int32) (mmM : Nat → Int32) (mdM : Nat → Int32), ((10 ≤ v2 → post (mpM, mcM, mwM, mfM, mhM, mmM, mdM)) ∧ (¬ 10 ≤ v2 → (vp_in ((10 * p1) + v2) 20 ∧ (vp_in ((10 * p1) + v2) 20 ∧ A96 (v2 + 1) mpM mcM mwM mfM mhM (upd mmM ((10 * p1) + v2).toNatClampNeg (-1)) (upd mdM ((10 * p1) + v2).toNatClampNeg 0))))) → A96 v2 mpM mcM mwM mfM mhM mmM mdM := by
    intro v2 mpM mcM mwM mfM mhM mmM mdM h
    rw [hA96]
    intro H locs hP hD hS ls hl
    refine lv_iload_n hx hb dX6_clear_96 rfl (lv_at hl 2 rfl) ?_
    refine lv_bipush (v := 10) hx hb dX6_clear_97 (by decide) ?_
    refine lv_icmp_ge (tgt := 132) hx hb dX6_clear_99 (by decide) (fun c_4 => ?_) (fun c_4 => ?_)
    · have h := h.1 c_4
      exact W.vret hx hb hr (fun t ht hW => ⟨⟨(mpM, mcM, mwM, mfM, mhM, mmM, mdM), rfl, h, by rw [ht]; exact hP, va_K.moved hW.alike hK, hD⟩, hS.F ht⟩) hS.2.2 dX6_clear_132
    · have h := h.2 c_4
      refine lv_aload_n hx hb dX6_clear_102 rfl (lv_at hl 0 rfl) ?_
      refine va_get (D := D) (ci := 5) (v := .ref (adM 9)) (C := RX6) (T := TX6) (N := 18) hx hb hts (by decide +kernel) hown hK hP 0 rfl rfl 8 (by decide) (hts (.fieldLink RX6 35 "PartGraphsModel" "families" "[I") (by decide +kernel)) (fun _ h9 => h9) rfl dX6_clear_103 ?_
      refine lv_bipush (v := 10) hx hb dX6_clear_106 (by decide) ?_
      refine lv_iload_n hx hb dX6_clear_108 rfl (lv_at hl 1 rfl) ?_
      refine lv_imul hx hb dX6_clear_109 ?_
      refine lv_iload_n hx hb dX6_clear_110 rfl (lv_at hl 2 rfl) ?_
      refine lv_iadd hx hb dX6_clear_111 ?_
      refine lv_iconst (v := (-1)) hx hb dX6_clear_112 (by decide) ?_
      have hin := h.1
      have h := h.2
      refine va_iast (D := D) (cl := vwCl) hx hb hK hP hD hS 9 0 rfl rfl hin dX6_clear_113 (fun H locs hP hD hS => ?_)
      have hP : va_P D vwCl (sh_M cs adM mpM mkM mgM mcM mwM mfM mtM mhM (upd mmM ((10 * p1) + v2).toNatClampNeg (-1)) mdM mxM mnM szM faM apM waM wrM fuM) H := hP
      have hD : va_D A (sh_M cs adM mpM mkM mgM mcM mwM mfM mtM mhM (upd mmM ((10 * p1) + v2).toNatClampNeg (-1)) mdM mxM mnM szM faM apM waM wrM fuM) := hD
      refine lv_aload_n hx hb dX6_clear_114 rfl (lv_at hl 0 rfl) ?_
      refine va_get (D := D) (ci := 5) (v := .ref (adM 10)) (C := RX6) (T := TX6) (N := 18) hx hb hts (by decide +kernel) hown hK hP 0 rfl rfl 9 (by decide) (hts (.fieldLink RX6 38 "PartGraphsModel" "damages" "[I") (by decide +kernel)) (fun _ h9 => h9) rfl dX6_clear_115 ?_
      refine lv_bipush (v := 10) hx hb dX6_clear_118 (by decide) ?_
      refine lv_iload_n hx hb dX6_clear_120 rfl (lv_at hl 1 rfl) ?_
      refine lv_imul hx hb dX6_clear_121 ?_
      refine lv_iload_n hx hb dX6_clear_122 rfl (lv_at hl 2 rfl) ?_
      refine lv_iadd hx hb dX6_clear_123 ?_
      refine lv_iconst (v := 0) hx hb dX6_clear_124 (by decide) ?_
      have hin := h.1
      have h := h.2
      refine va_iast (D := D) (cl := vwCl) hx hb hK hP hD hS 10 0 rfl rfl hin dX6_clear_125 (fun H locs hP hD hS => ?_)
      have hP : va_P D vwCl (sh_M cs adM mpM mkM mgM mcM mwM mfM mtM mhM (upd mmM ((10 * p1) + v2).toNatClampNeg (-1)) (upd mdM ((10 * p1) + v2).toNatClampNeg 0) mxM mnM szM faM apM waM wrM fuM) H := hP
      have hD : va_D A (sh_M cs adM mpM mkM mgM mcM mwM mfM mtM mhM (upd mmM ((10 * p1) + v2).toNatClampNeg (-1)) (upd mdM ((10 * p1) + v2).toNatClampNeg 0) mxM mnM szM faM apM waM wrM fuM) := hD
      refine lv_iinc (v := v2 + 1) (lv' := [(2, .int (v2 + 1)), (0, .ref (adM 0)), (1, .int p1)]) hx hb dX6_clear_126 hl (k := 2) rfl rfl (by decide) rfl (fun ls hl => ?_)
      refine lv_goto (tgt := 96) hx hb dX6_clear_129 (by decide) ?_
      rw [hA96] at h
      exact h _ _ hP hD hS ls (lv_sub hl [1, 2, 0] rfl)
  have h := h A16 A42 A70 A96 s16 s42 s70 s96
  refine lv_aload_n hx hb dX6_clear_0 rfl (lv_at hl 0 rfl) ?_
  refine va_get (D := D) (ci := 5) (v := .ref (adM 1)) (C := RX6) (T := TX6) (N := 18) hx hb hts (by decide +kernel) hown hK hP 0 rfl rfl 0 (by decide) (hts (.fieldLink RX6 7 "PartGraphsModel" "parts" "[I") (by decide +kernel)) (fun _ h9 => h9) rfl dX6_clear_1 ?_
  refine lv_iload_n hx hb dX6_clear_4 rfl (lv_at hl 1 rfl) ?_
  refine lv_iconst (v := 0) hx hb dX6_clear_5 (by decide) ?_
  have hin := h.1
  have h := h.2
  refine va_iast (D := D) (cl := vwCl) hx hb hK hP hD hS 1 0 rfl rfl hin dX6_clear_6 (fun H locs hP hD hS => ?_)
  have hP : va_P D vwCl (sh_M cs adM (upd mpM p1.toNatClampNeg 0) mkM mgM mcM mwM mfM mtM mhM mmM mdM mxM mnM szM faM apM waM wrM fuM) H := hP
  have hD : va_D A (sh_M cs adM (upd mpM p1.toNatClampNeg 0) mkM mgM mcM mwM mfM mtM mhM mmM mdM mxM mnM szM faM apM waM wrM fuM) := hD
  refine lv_aload_n hx hb dX6_clear_7 rfl (lv_at hl 0 rfl) ?_
  refine va_get (D := D) (ci := 5) (v := .ref (adM 6)) (C := RX6) (T := TX6) (N := 18) hx hb hts (by decide +kernel) hown hK hP 0 rfl rfl 5 (by decide) (hts (.fieldLink RX6 26 "PartGraphsModel" "fastenings" "[I") (by decide +kernel)) (fun _ h9 => h9) rfl dX6_clear_8 ?_
  refine lv_iload_n hx hb dX6_clear_11 rfl (lv_at hl 1 rfl) ?_
  refine lv_iconst (v := 0) hx hb dX6_clear_12 (by decide) ?_
  have hin := h.1
  have h := h.2
  refine va_iast (D := D) (cl := vwCl) hx hb hK hP hD hS 6 0 rfl rfl hin dX6_clear_13 (fun H locs hP hD hS => ?_)
  have hP : va_P D vwCl (sh_M cs adM (upd mpM p1.toNatClampNeg 0) mkM mgM mcM mwM (upd mfM p1.toNatClampNeg 0) mtM mhM mmM mdM mxM mnM szM faM apM waM wrM fuM) H := hP
  have hD : va_D A (sh_M cs adM (upd mpM p1.toNatClampNeg 0) mkM mgM mcM mwM (upd mfM p1.toNatClampNeg 0) mtM mhM mmM mdM mxM mnM szM faM apM waM wrM fuM) := hD
  refine lv_iconst (v := 0) hx hb dX6_clear_14 (by decide) ?_
  refine lv_istore_n (lv' := [(2, .int 0), (0, .ref (adM 0)), (1, .int p1)]) hx hb dX6_clear_15 rfl hl (by decide) rfl (fun ls hl => ?_)
  rw [hA16] at h
  exact h _ _ hP hD hS ls (lv_sub hl [1, 2, 0] rfl)
def wp_X6_take (mpM : Nat → Int32) (mkM : Nat → Int32) (mgM : Nat → Int32) (mcM : Nat → Int32) (mwM : Nat → Int32) (mfM : Nat → Int32) (mtM : Nat → Int32) (mhM : Nat → Int32) (mmM : Nat → Int32) (mdM : Nat → Int32) (post : ((Nat → Int32) × (Nat → Int32) × (Nat → Int32) × (Nat → Int32) × (Nat → Int32) × (Nat → Int32) × (Nat → Int32) × (Nat → Int32) × (Nat → Int32) × (Nat → Int32)) → Prop) : Prop :=
    ∀ (A26 : Int32 → (Nat → Int32) → (Nat → Int32) → (Nat → Int32) → (Nat → Int32) → (Nat → Int32) → (Nat → Int32) → (Nat → Int32) → (Nat → Int32) → (Nat → Int32) → (Nat → Int32) → Prop) (A55 : Int32 → (Nat → Int32) → (Nat → Int32) → (Nat → Int32) → (Nat → Int32) → (Nat → Int32) → (Nat → Int32) → (Nat → Int32) → (Nat → Int32) → (Nat → Int32) → (Nat → Int32) → Prop) (A86 : Int32 → (Nat → Int32) → (Nat → Int32) → (Nat → Int32) → (Nat → Int32) → (Nat → Int32) → (Nat → Int32) → (Nat → Int32) → (Nat → Int32) → (Nat → Int32) → (Nat → Int32) → Prop) (A115 : Int32 → (Nat → Int32) → (Nat → Int32) → (Nat → Int32) → (Nat → Int32) → (Nat → Int32) → (Nat → Int32) → (Nat → Int32) → (Nat → Int32) → (Nat → Int32) → (Nat → Int32) → Prop) (A189 : Int32 → (Nat → Int32) → (Nat → Int32) → (Nat → Int32) → (Nat → Int32) → (Nat → Int32) → (Nat → Int32) → (Nat → Int32) → (Nat → Int32) → (Nat → Int32) → (Nat → Int32) → Prop),
    (∀ (v1 : Int32) (mpM : Nat → Int32) (mkM : Nat → Int32) (mgM : Nat → Int32) (mcM : Nat → Int32) (mwM : Nat → Int32) (mfM : Nat → Int32) (mtM : Nat → Int32) (mhM : Nat → Int32) (mmM : Nat → Int32) (mdM : Nat → Int32), ((100 ≤ v1 → A55 0 mpM mkM mgM mcM mwM mfM mtM mhM mmM mdM) ∧ (¬ 100 ≤ v1 → (vp_in (100 + v1) 200 ∧ (vp_in v1 200 ∧ A26 (v1 + 1) mpM mkM mgM (upd mcM v1.toNatClampNeg (vp_nar .boolean (mcM (100 + v1).toNatClampNeg))) mwM mfM mtM mhM mmM mdM)))) → A26 v1 mpM mkM mgM mcM mwM mfM mtM mhM mmM mdM) →
    (∀ (v1 : Int32) (mpM : Nat → Int32) (mkM : Nat → Int32) (mgM : Nat → Int32) (mcM : Nat → Int32) (mwM : Nat → Int32) (mfM : Nat → Int32) (mtM : Nat → Int32) (mhM : Nat → Int32) (mmM : Nat → Int32) (mdM : Nat → Int32), ((600 ≤ v1 → A86 0 mpM mkM mgM mcM mwM mfM mtM mhM mmM mdM) ∧ (¬ 600 ≤ v1 → (vp_in (600 + v1) 1200 ∧ (vp_in v1 1200 ∧ A55 (v1 + 1) mpM mkM mgM mcM (upd mwM v1.toNatClampNeg (vp_nar .boolean (mwM (600 + v1).toNatClampNeg))) mfM mtM mhM mmM mdM)))) → A55 v1 mpM mkM mgM mcM mwM mfM mtM mhM mmM mdM) →
    (∀ (v1 : Int32) (mpM : Nat → Int32) (mkM : Nat → Int32) (mgM : Nat → Int32) (mcM : Nat → Int32) (mwM : Nat → Int32) (mfM : Nat → Int32) (mtM : Nat → Int32) (mhM : Nat → Int32) (mmM : Nat → Int32) (mdM : Nat → Int32), ((80 ≤ v1 → A115 0 mpM mkM mgM mcM mwM mfM mtM mhM mmM mdM) ∧ (¬ 80 ≤ v1 → (vp_in (80 + v1) 160 ∧ (vp_in v1 160 ∧ A86 (v1 + 1) mpM mkM mgM mcM mwM mfM mtM (upd mhM v1.toNatClampNeg (vp_nar .boolean (mhM (80 + v1).toNatClampNeg))) mmM mdM)))) → A86 v1 mpM mkM mgM mcM mwM mfM mtM mhM mmM mdM) →
    (∀ (v1 : Int32) (mpM : Nat → Int32) (mkM : Nat → Int32) (mgM : Nat → Int32) (mcM : Nat → Int32) (mwM : Nat → Int32) (mfM : Nat → Int32) (mtM : Nat → Int32) (mhM : Nat → Int32) (mmM : Nat → Int32) (mdM : Nat → Int32), ((10 ≤ v1 → A189 0 mpM mkM mgM mcM mwM mfM mtM mhM mmM mdM) ∧ (¬ 10 ≤ v1 → (vp_in (10 + v1) 20 ∧ (vp_in v1 20 ∧ (vp_in (10 + v1) 20 ∧ (vp_in v1 20 ∧ (vp_in (10 + v1) 20 ∧ (vp_in v1 20 ∧ (vp_in (10 + v1) 20 ∧ (vp_in v1 20 ∧ A115 (v1 + 1) mpM (upd mkM v1.toNatClampNeg (mkM (10 + v1).toNatClampNeg)) (upd mgM v1.toNatClampNeg (mgM (10 + v1).toNatClampNeg)) mcM mwM mfM mtM mhM (upd mmM v1.toNatClampNeg (mmM (10 + v1).toNatClampNeg)) (upd mdM v1.toNatClampNeg (mdM (10 + v1).toNatClampNeg)))))))))))) → A115 v1 mpM mkM mgM mcM mwM mfM mtM mhM mmM mdM) →
    (∀ (v1 : Int32) (mpM : Nat → Int32) (mkM : Nat → Int32) (mgM : Nat → Int32) (mcM : Nat → Int32) (mwM : Nat → Int32) (mfM : Nat → Int32) (mtM : Nat → Int32) (mhM : Nat → Int32) (mmM : Nat → Int32) (mdM : Nat → Int32), ((60 ≤ v1 → post (mpM, mkM, mgM, mcM, mwM, mfM, mtM, mhM, mmM, mdM)) ∧ (¬ 60 ≤ v1 → (vp_in (60 + v1) 120 ∧ (vp_in v1 120 ∧ A189 (v1 + 1) mpM mkM mgM mcM mwM mfM (upd mtM v1.toNatClampNeg (mtM (60 + v1).toNatClampNeg)) mhM mmM mdM)))) → A189 v1 mpM mkM mgM mcM mwM mfM mtM mhM mmM mdM) →
    (vp_in 1 2 ∧ (vp_in 0 2 ∧ (vp_in 1 2 ∧ (vp_in 0 2 ∧ A26 0 (upd mpM (0 : Int32).toNatClampNeg (mpM (1 : Int32).toNatClampNeg)) mkM mgM mcM mwM (upd mfM (0 : Int32).toNatClampNeg (mfM (1 : Int32).toNatClampNeg)) mtM mhM mmM mdM))))
set_option maxHeartbeats 4000000 in
set_option maxRecDepth 100000 in
theorem met_X6_take (l : Launch) (D : va_G) (cs : Nat → ClassId) (ev : Nat → Nat → Nat) (sz0 : Nat) (adM : Nat → Nat) (mpM : Nat → Int32) (mkM : Nat → Int32) (mgM : Nat → Int32) (mcM : Nat → Int32) (mwM : Nat → Int32) (mfM : Nat → Int32) (mtM : Nat → Int32) (mhM : Nat → Int32) (mmM : Nat → Int32) (mdM : Nat → Int32) (mxM : Nat → Int32) (mnM : Nat → Int32) (szM : Int32) (faM : Int32) (apM : Int32) (waM : Int32) (wrM : Int32) (fuM : Int32) (post : ((Nat → Int32) × (Nat → Int32) × (Nat → Int32) × (Nat → Int32) × (Nat → Int32) × (Nat → Int32) × (Nat → Int32) × (Nat → Int32) × (Nat → Int32) × (Nat → Int32)) → Prop) (h : wp_X6_take mpM mkM mgM mcM mwM mfM mtM mhM mmM mdM post) : Met l yX6_take wsX6_take ({ frames := 0, cells := 0, slots := 0, locals := 0 }) (va_Pc [.ref (adM 0)] (mPre D cs ev (sh_M cs adM mpM mkM mgM mcM mwM mfM mtM mhM mmM mdM mxM mnM szM faM apM waM wrM fuM) sz0)) (va_Qv post (fun u t => match u with | (mpM', mkM', mgM', mcM', mwM', mfM', mtM', mhM', mmM', mdM') => mAt D cs (va_A (sh_M cs adM mpM mkM mgM mcM mwM mfM mtM mhM mmM mdM mxM mnM szM faM apM waM wrM fuM) sz0) (sh_M cs adM mpM' mkM' mgM' mcM' mwM' mfM' mtM' mhM' mmM' mdM' mxM mnM szM faM apM waM wrM fuM) t) (va_A (sh_M cs adM mpM mkM mgM mcM mwM mfM mtM mhM mmM mdM mxM mnM szM faM apM waM wrM fuM) sz0)) 0 0 (va_A (sh_M cs adM mpM mkM mgM mcM mwM mfM mtM mhM mmM mdM mxM mnM szM faM apM waM wrM fuM) sz0) := by
  refine Met.ofW (cc := cX6_take) (maxL := 2) (ret := none) (by decide) rfl ?_
  intro p e s m args below meth c s₁ B hml hv
  obtain ⟨rfl, hsz, hP, hK, hD0, hE⟩ := hv
  have hx := B.exec
  have hb := B.bytes
  have hr := B.returns
  have hts := atoms_spec (ws := wsX6_take) B.pre
  have hown : s.vm.findClass RX6 = some m.cls := findClass_of_methodNamed B.named
  have hlocks := B.notSynchronized
  subst hsz
  have hD := hD0.self (sz := s.heap.size)
  generalize hAe : va_A (sh_M cs adM mpM mkM mgM mcM mwM mfM mtM mhM mmM mdM mxM mnM szM faM apM waM wrM fuM) s.heap.size = A at hD hE ⊢
  have hA : ∀ q : Nat, s.heap.size ≤ q → A q := fun q h => by rw [← hAe]; exact Or.inr h
  have hS : va_S A s.heap s.heap [] := va_S.rf
  have hl := lv_entry ([.ref (adM 0)]) (n := 2) (Nat.le_of_ble_eq_true rfl)
  rw [lg_entry_eq]
  generalize (lg_sl ([.ref (adM 0)]) ++ List.replicate (2 - (lg_sl ([.ref (adM 0)])).length) Slot.unset).toArray = ls at hl ⊢
  have hl : lv_has ls 2 [(0, .ref (adM 0))] := hl
  obtain ⟨A26, hA26⟩ : ∃ Q : Int32 → (Nat → Int32) → (Nat → Int32) → (Nat → Int32) → (Nat → Int32) → (Nat → Int32) → (Nat → Int32) → (Nat → Int32) → (Nat → Int32) → (Nat → Int32) → (Nat → Int32) → Prop, Q = (fun v1 mpM mkM mgM mcM mwM mfM mtM mhM mmM mdM => ∀ (H : Heap) (locs : List Loc), va_P D vwCl (sh_M cs adM mpM mkM mgM mcM mwM mfM mtM mhM mmM mdM mxM mnM szM faM apM waM wrM fuM) H → va_D A (sh_M cs adM mpM mkM mgM mcM mwM mfM mtM mhM mmM mdM mxM mnM szM faM apM waM wrM fuM) → va_S A s.heap H locs → ∀ ls : Array Slot, lv_has ls 2 [(0, .ref (adM 0)), (1, .int v1)] → W p l e (headSpec wsX6_take ({ frames := 0, cells := 0, slots := 0, locals := 0 })).room s m ([.ref (adM 0)] : List Value).toArray below meth c H locs 0 0 (MQ below (va_Qv post (fun u t => match u with | (mpM', mkM', mgM', mcM', mwM', mfM', mtM', mhM', mmM', mdM') => mAt D cs (A) (sh_M cs adM mpM' mkM' mgM' mcM' mwM' mfM' mtM' mhM' mmM' mdM' mxM mnM szM faM apM waM wrM fuM) t) A) ([.ref (adM 0)] : List Value).toArray s 0 0 A) (F0 m 26 ls [])) := ⟨_, rfl⟩
  obtain ⟨A55, hA55⟩ : ∃ Q : Int32 → (Nat → Int32) → (Nat → Int32) → (Nat → Int32) → (Nat → Int32) → (Nat → Int32) → (Nat → Int32) → (Nat → Int32) → (Nat → Int32) → (Nat → Int32) → (Nat → Int32) → Prop, Q = (fun v1 mpM mkM mgM mcM mwM mfM mtM mhM mmM mdM => ∀ (H : Heap) (locs : List Loc), va_P D vwCl (sh_M cs adM mpM mkM mgM mcM mwM mfM mtM mhM mmM mdM mxM mnM szM faM apM waM wrM fuM) H → va_D A (sh_M cs adM mpM mkM mgM mcM mwM mfM mtM mhM mmM mdM mxM mnM szM faM apM waM wrM fuM) → va_S A s.heap H locs → ∀ ls : Array Slot, lv_has ls 2 [(0, .ref (adM 0)), (1, .int v1)] → W p l e (headSpec wsX6_take ({ frames := 0, cells := 0, slots := 0, locals := 0 })).room s m ([.ref (adM 0)] : List Value).toArray below meth c H locs 0 0 (MQ below (va_Qv post (fun u t => match u with | (mpM', mkM', mgM', mcM', mwM', mfM', mtM', mhM', mmM', mdM') => mAt D cs (A) (sh_M cs adM mpM' mkM' mgM' mcM' mwM' mfM' mtM' mhM' mmM' mdM' mxM mnM szM faM apM waM wrM fuM) t) A) ([.ref (adM 0)] : List Value).toArray s 0 0 A) (F0 m 55 ls [])) := ⟨_, rfl⟩
  obtain ⟨A86, hA86⟩ : ∃ Q : Int32 → (Nat → Int32) → (Nat → Int32) → (Nat → Int32) → (Nat → Int32) → (Nat → Int32) → (Nat → Int32) → (Nat → Int32) → (Nat → Int32) → (Nat → Int32) → (Nat → Int32) → Prop, Q = (fun v1 mpM mkM mgM mcM mwM mfM mtM mhM mmM mdM => ∀ (H : Heap) (locs : List Loc), va_P D vwCl (sh_M cs adM mpM mkM mgM mcM mwM mfM mtM mhM mmM mdM mxM mnM szM faM apM waM wrM fuM) H → va_D A (sh_M cs adM mpM mkM mgM mcM mwM mfM mtM mhM mmM mdM mxM mnM szM faM apM waM wrM fuM) → va_S A s.heap H locs → ∀ ls : Array Slot, lv_has ls 2 [(0, .ref (adM 0)), (1, .int v1)] → W p l e (headSpec wsX6_take ({ frames := 0, cells := 0, slots := 0, locals := 0 })).room s m ([.ref (adM 0)] : List Value).toArray below meth c H locs 0 0 (MQ below (va_Qv post (fun u t => match u with | (mpM', mkM', mgM', mcM', mwM', mfM', mtM', mhM', mmM', mdM') => mAt D cs (A) (sh_M cs adM mpM' mkM' mgM' mcM' mwM' mfM' mtM' mhM' mmM' mdM' mxM mnM szM faM apM waM wrM fuM) t) A) ([.ref (adM 0)] : List Value).toArray s 0 0 A) (F0 m 86 ls [])) := ⟨_, rfl⟩
  obtain ⟨A115, hA115⟩ : ∃ Q : Int32 → (Nat → Int32) → (Nat → Int32) → (Nat → Int32) → (Nat → Int32) → (Nat → Int32) → (Nat → Int32) → (Nat → Int32) → (Nat → Int32) → (Nat → Int32) → (Nat → Int32) → Prop, Q = (fun v1 mpM mkM mgM mcM mwM mfM mtM mhM mmM mdM => ∀ (H : Heap) (locs : List Loc), va_P D vwCl (sh_M cs adM mpM mkM mgM mcM mwM mfM mtM mhM mmM mdM mxM mnM szM faM apM waM wrM fuM) H → va_D A (sh_M cs adM mpM mkM mgM mcM mwM mfM mtM mhM mmM mdM mxM mnM szM faM apM waM wrM fuM) → va_S A s.heap H locs → ∀ ls : Array Slot, lv_has ls 2 [(0, .ref (adM 0)), (1, .int v1)] → W p l e (headSpec wsX6_take ({ frames := 0, cells := 0, slots := 0, locals := 0 })).room s m ([.ref (adM 0)] : List Value).toArray below meth c H locs 0 0 (MQ below (va_Qv post (fun u t => match u with | (mpM', mkM', mgM', mcM', mwM', mfM', mtM', mhM', mmM', mdM') => mAt D cs (A) (sh_M cs adM mpM' mkM' mgM' mcM' mwM' mfM' mtM' mhM' mmM' mdM' mxM mnM szM faM apM waM wrM fuM) t) A) ([.ref (adM 0)] : List Value).toArray s 0 0 A) (F0 m 115 ls [])) := ⟨_, rfl⟩
  obtain ⟨A189, hA189⟩ : ∃ Q : Int32 → (Nat → Int32) → (Nat → Int32) → (Nat → Int32) → (Nat → Int32) → (Nat → Int32) → (Nat → Int32) → (Nat → Int32) → (Nat → Int32) → (Nat → Int32) → (Nat → Int32) → Prop, Q = (fun v1 mpM mkM mgM mcM mwM mfM mtM mhM mmM mdM => ∀ (H : Heap) (locs : List Loc), va_P D vwCl (sh_M cs adM mpM mkM mgM mcM mwM mfM mtM mhM mmM mdM mxM mnM szM faM apM waM wrM fuM) H → va_D A (sh_M cs adM mpM mkM mgM mcM mwM mfM mtM mhM mmM mdM mxM mnM szM faM apM waM wrM fuM) → va_S A s.heap H locs → ∀ ls : Array Slot, lv_has ls 2 [(0, .ref (adM 0)), (1, .int v1)] → W p l e (headSpec wsX6_take ({ frames := 0, cells := 0, slots := 0, locals := 0 })).room s m ([.ref (adM 0)] : List Value).toArray below meth c H locs 0 0 (MQ below (va_Qv post (fun u t => match u with | (mpM', mkM', mgM', mcM', mwM', mfM', mtM', mhM', mmM', mdM') => mAt D cs (A) (sh_M cs adM mpM' mkM' mgM' mcM' mwM' mfM' mtM' mhM' mmM' mdM' mxM mnM szM faM apM waM wrM fuM) t) A) ([.ref (adM 0)] : List Value).toArray s 0 0 A) (F0 m 189 ls [])) := ⟨_, rfl⟩
  have s26 : ∀ (v1 : Int32) (mpM : Nat → Int32) (mkM : Nat → Int32) (mgM : Nat → Int32) (mcM : Nat → Int32) (mwM : Nat → Int32) (mfM : Nat → Int32) (mtM : Nat → Int32) (mhM : Nat → Int32) (mmM : Nat → Int32) (mdM : Nat → Int32), ((100 ≤ v1 → A55 0 mpM mkM mgM mcM mwM mfM mtM mhM mmM mdM) ∧ (¬ 100 ≤ v1 → (vp_in (100 + v1) 200 ∧ (vp_in v1 200 ∧ A26 (v1 + 1) mpM mkM mgM (upd mcM v1.toNatClampNeg (vp_nar .boolean (mcM (100 + v1).toNatClampNeg))) mwM mfM mtM mhM mmM mdM)))) → A26 v1 mpM mkM mgM mcM mwM mfM mtM mhM mmM mdM := by
    intro v1 mpM mkM mgM mcM mwM mfM mtM mhM mmM mdM h
    rw [hA26]
    intro H locs hP hD hS ls hl
    refine lv_iload_n hx hb dX6_take_26 rfl (lv_at hl 1 rfl) ?_
    refine lv_bipush (v := 100) hx hb dX6_take_27 (by decide) ?_
    refine lv_icmp_ge (tgt := 53) hx hb dX6_take_29 (by decide) (fun c_1 => ?_) (fun c_1 => ?_)
    · have h := h.1 c_1
      refine lv_iconst (v := 0) hx hb dX6_take_53 (by decide) ?_
      refine lv_istore_n (lv' := [(1, .int 0), (0, .ref (adM 0))]) hx hb dX6_take_54 rfl hl (by decide) rfl (fun ls hl => ?_)
      rw [hA55] at h
      exact h _ _ hP hD hS ls (lv_sub hl [1, 0] rfl)
    · have h := h.2 c_1
      refine lv_aload_n hx hb dX6_take_32 rfl (lv_at hl 0 rfl) ?_
      refine va_get (D := D) (ci := 5) (v := .ref (adM 4)) (C := RX6) (T := TX6) (N := 18) hx hb hts (by decide +kernel) hown hK hP 0 rfl rfl 3 (by decide) (hts (.fieldLink RX6 19 "PartGraphsModel" "covers" "[Z") (by decide +kernel)) (fun _ h9 => h9) rfl dX6_take_33 ?_
      refine lv_iload_n hx hb dX6_take_36 rfl (lv_at hl 1 rfl) ?_
      refine lv_aload_n hx hb dX6_take_37 rfl (lv_at hl 0 rfl) ?_
      refine va_get (D := D) (ci := 5) (v := .ref (adM 4)) (C := RX6) (T := TX6) (N := 18) hx hb hts (by decide +kernel) hown hK hP 0 rfl rfl 3 (by decide) (hts (.fieldLink RX6 19 "PartGraphsModel" "covers" "[Z") (by decide +kernel)) (fun _ h9 => h9) rfl dX6_take_38 ?_
      refine lv_bipush (v := 100) hx hb dX6_take_41 (by decide) ?_
      refine lv_iload_n hx hb dX6_take_43 rfl (lv_at hl 1 rfl) ?_
      refine lv_iadd hx hb dX6_take_44 ?_
      have hin := h.1
      have h := h.2
      refine va_zald (D := D) (cl := vwCl) hx hb hK hP 4 4 rfl rfl hin dX6_take_45 ?_
      have hin := h.1
      have h := h.2
      refine va_zast (D := D) (cl := vwCl) hx hb hK hP hD hS 4 4 rfl rfl hin dX6_take_46 (fun H locs hP hD hS => ?_)
      have hP : va_P D vwCl (sh_M cs adM mpM mkM mgM (upd mcM v1.toNatClampNeg (vp_nar .boolean (mcM (100 + v1).toNatClampNeg))) mwM mfM mtM mhM mmM mdM mxM mnM szM faM apM waM wrM fuM) H := hP
      have hD : va_D A (sh_M cs adM mpM mkM mgM (upd mcM v1.toNatClampNeg (vp_nar .boolean (mcM (100 + v1).toNatClampNeg))) mwM mfM mtM mhM mmM mdM mxM mnM szM faM apM waM wrM fuM) := hD
      refine lv_iinc (v := v1 + 1) (lv' := [(1, .int (v1 + 1)), (0, .ref (adM 0))]) hx hb dX6_take_47 hl (k := 1) rfl rfl (by decide) rfl (fun ls hl => ?_)
      refine lv_goto (tgt := 26) hx hb dX6_take_50 (by decide) ?_
      rw [hA26] at h
      exact h _ _ hP hD hS ls (lv_sub hl [1, 0] rfl)
  have s55 : ∀ (v1 : Int32) (mpM : Nat → Int32) (mkM : Nat → Int32) (mgM : Nat → Int32) (mcM : Nat → Int32) (mwM : Nat → Int32) (mfM : Nat → Int32) (mtM : Nat → Int32) (mhM : Nat → Int32) (mmM : Nat → Int32) (mdM : Nat → Int32), ((600 ≤ v1 → A86 0 mpM mkM mgM mcM mwM mfM mtM mhM mmM mdM) ∧ (¬ 600 ≤ v1 → (vp_in (600 + v1) 1200 ∧ (vp_in v1 1200 ∧ A55 (v1 + 1) mpM mkM mgM mcM (upd mwM v1.toNatClampNeg (vp_nar .boolean (mwM (600 + v1).toNatClampNeg))) mfM mtM mhM mmM mdM)))) → A55 v1 mpM mkM mgM mcM mwM mfM mtM mhM mmM mdM := by
    intro v1 mpM mkM mgM mcM mwM mfM mtM mhM mmM mdM h
    rw [hA55]
    intro H locs hP hD hS ls hl
    refine lv_iload_n hx hb dX6_take_55 rfl (lv_at hl 1 rfl) ?_
    refine lv_sipush (v := 600) hx hb dX6_take_56 (by decide) ?_
    refine lv_icmp_ge (tgt := 84) hx hb dX6_take_59 (by decide) (fun c_2 => ?_) (fun c_2 => ?_)
    · have h := h.1 c_2
      refine lv_iconst (v := 0) hx hb dX6_take_84 (by decide) ?_
      refine lv_istore_n (lv' := [(1, .int 0), (0, .ref (adM 0))]) hx hb dX6_take_85 rfl hl (by decide) rfl (fun ls hl => ?_)
      rw [hA86] at h
      exact h _ _ hP hD hS ls (lv_sub hl [1, 0] rfl)
    · have h := h.2 c_2
      refine lv_aload_n hx hb dX6_take_62 rfl (lv_at hl 0 rfl) ?_
      refine va_get (D := D) (ci := 5) (v := .ref (adM 5)) (C := RX6) (T := TX6) (N := 18) hx hb hts (by decide +kernel) hown hK hP 0 rfl rfl 4 (by decide) (hts (.fieldLink RX6 23 "PartGraphsModel" "ways" "[Z") (by decide +kernel)) (fun _ h9 => h9) rfl dX6_take_63 ?_
      refine lv_iload_n hx hb dX6_take_66 rfl (lv_at hl 1 rfl) ?_
      refine lv_aload_n hx hb dX6_take_67 rfl (lv_at hl 0 rfl) ?_
      refine va_get (D := D) (ci := 5) (v := .ref (adM 5)) (C := RX6) (T := TX6) (N := 18) hx hb hts (by decide +kernel) hown hK hP 0 rfl rfl 4 (by decide) (hts (.fieldLink RX6 23 "PartGraphsModel" "ways" "[Z") (by decide +kernel)) (fun _ h9 => h9) rfl dX6_take_68 ?_
      refine lv_sipush (v := 600) hx hb dX6_take_71 (by decide) ?_
      refine lv_iload_n hx hb dX6_take_74 rfl (lv_at hl 1 rfl) ?_
      refine lv_iadd hx hb dX6_take_75 ?_
      have hin := h.1
      have h := h.2
      refine va_zald (D := D) (cl := vwCl) hx hb hK hP 5 4 rfl rfl hin dX6_take_76 ?_
      have hin := h.1
      have h := h.2
      refine va_zast (D := D) (cl := vwCl) hx hb hK hP hD hS 5 4 rfl rfl hin dX6_take_77 (fun H locs hP hD hS => ?_)
      have hP : va_P D vwCl (sh_M cs adM mpM mkM mgM mcM (upd mwM v1.toNatClampNeg (vp_nar .boolean (mwM (600 + v1).toNatClampNeg))) mfM mtM mhM mmM mdM mxM mnM szM faM apM waM wrM fuM) H := hP
      have hD : va_D A (sh_M cs adM mpM mkM mgM mcM (upd mwM v1.toNatClampNeg (vp_nar .boolean (mwM (600 + v1).toNatClampNeg))) mfM mtM mhM mmM mdM mxM mnM szM faM apM waM wrM fuM) := hD
      refine lv_iinc (v := v1 + 1) (lv' := [(1, .int (v1 + 1)), (0, .ref (adM 0))]) hx hb dX6_take_78 hl (k := 1) rfl rfl (by decide) rfl (fun ls hl => ?_)
      refine lv_goto (tgt := 55) hx hb dX6_take_81 (by decide) ?_
      rw [hA55] at h
      exact h _ _ hP hD hS ls (lv_sub hl [1, 0] rfl)
  have s86 : ∀ (v1 : Int32) (mpM : Nat → Int32) (mkM : Nat → Int32) (mgM : Nat → Int32) (mcM : Nat → Int32) (mwM : Nat → Int32) (mfM : Nat → Int32) (mtM : Nat → Int32) (mhM : Nat → Int32) (mmM : Nat → Int32) (mdM : Nat → Int32), ((80 ≤ v1 → A115 0 mpM mkM mgM mcM mwM mfM mtM mhM mmM mdM) ∧ (¬ 80 ≤ v1 → (vp_in (80 + v1) 160 ∧ (vp_in v1 160 ∧ A86 (v1 + 1) mpM mkM mgM mcM mwM mfM mtM (upd mhM v1.toNatClampNeg (vp_nar .boolean (mhM (80 + v1).toNatClampNeg))) mmM mdM)))) → A86 v1 mpM mkM mgM mcM mwM mfM mtM mhM mmM mdM := by
    intro v1 mpM mkM mgM mcM mwM mfM mtM mhM mmM mdM h
    rw [hA86]
    intro H locs hP hD hS ls hl
    refine lv_iload_n hx hb dX6_take_86 rfl (lv_at hl 1 rfl) ?_
    refine lv_bipush (v := 80) hx hb dX6_take_87 (by decide) ?_
    refine lv_icmp_ge (tgt := 113) hx hb dX6_take_89 (by decide) (fun c_3 => ?_) (fun c_3 => ?_)
    · have h := h.1 c_3
      refine lv_iconst (v := 0) hx hb dX6_take_113 (by decide) ?_
      refine lv_istore_n (lv' := [(1, .int 0), (0, .ref (adM 0))]) hx hb dX6_take_114 rfl hl (by decide) rfl (fun ls hl => ?_)
      rw [hA115] at h
      exact h _ _ hP hD hS ls (lv_sub hl [1, 0] rfl)
    · have h := h.2 c_3
      refine lv_aload_n hx hb dX6_take_92 rfl (lv_at hl 0 rfl) ?_
      refine va_get (D := D) (ci := 5) (v := .ref (adM 8)) (C := RX6) (T := TX6) (N := 18) hx hb hts (by decide +kernel) hown hK hP 0 rfl rfl 7 (by decide) (hts (.fieldLink RX6 32 "PartGraphsModel" "hazards" "[Z") (by decide +kernel)) (fun _ h9 => h9) rfl dX6_take_93 ?_
      refine lv_iload_n hx hb dX6_take_96 rfl (lv_at hl 1 rfl) ?_
      refine lv_aload_n hx hb dX6_take_97 rfl (lv_at hl 0 rfl) ?_
      refine va_get (D := D) (ci := 5) (v := .ref (adM 8)) (C := RX6) (T := TX6) (N := 18) hx hb hts (by decide +kernel) hown hK hP 0 rfl rfl 7 (by decide) (hts (.fieldLink RX6 32 "PartGraphsModel" "hazards" "[Z") (by decide +kernel)) (fun _ h9 => h9) rfl dX6_take_98 ?_
      refine lv_bipush (v := 80) hx hb dX6_take_101 (by decide) ?_
      refine lv_iload_n hx hb dX6_take_103 rfl (lv_at hl 1 rfl) ?_
      refine lv_iadd hx hb dX6_take_104 ?_
      have hin := h.1
      have h := h.2
      refine va_zald (D := D) (cl := vwCl) hx hb hK hP 8 4 rfl rfl hin dX6_take_105 ?_
      have hin := h.1
      have h := h.2
      refine va_zast (D := D) (cl := vwCl) hx hb hK hP hD hS 8 4 rfl rfl hin dX6_take_106 (fun H locs hP hD hS => ?_)
      have hP : va_P D vwCl (sh_M cs adM mpM mkM mgM mcM mwM mfM mtM (upd mhM v1.toNatClampNeg (vp_nar .boolean (mhM (80 + v1).toNatClampNeg))) mmM mdM mxM mnM szM faM apM waM wrM fuM) H := hP
      have hD : va_D A (sh_M cs adM mpM mkM mgM mcM mwM mfM mtM (upd mhM v1.toNatClampNeg (vp_nar .boolean (mhM (80 + v1).toNatClampNeg))) mmM mdM mxM mnM szM faM apM waM wrM fuM) := hD
      refine lv_iinc (v := v1 + 1) (lv' := [(1, .int (v1 + 1)), (0, .ref (adM 0))]) hx hb dX6_take_107 hl (k := 1) rfl rfl (by decide) rfl (fun ls hl => ?_)
      refine lv_goto (tgt := 86) hx hb dX6_take_110 (by decide) ?_
      rw [hA86] at h
      exact h _ _ hP hD hS ls (lv_sub hl [1, 0] rfl)
  have s115 : ∀ (v1 : Int32) (mpM : Nat → Int32) (mkM : Nat → Int32) (mgM : Nat → Int32) (mcM : Nat → Int32) (mwM : Nat → Int32) (mfM : Nat → Int32) (mtM : Nat → Int32) (mhM : Nat → Int32) (mmM : Nat → Int32) (mdM : Nat → Int32), ((10 ≤ v1 → A189 0 mpM mkM mgM mcM mwM mfM mtM mhM mmM mdM) ∧ (¬ 10 ≤ v1 → (vp_in (10 + v1) 20 ∧ (vp_in v1 20 ∧ (vp_in (10 + v1) 20 ∧ (vp_in v1 20 ∧ (vp_in (10 + v1) 20 ∧ (vp_in v1 20 ∧ (vp_in (10 + v1) 20 ∧ (vp_in v1 20 ∧ A115 (v1 + 1) mpM (upd mkM v1.toNatClampNeg (mkM (10 + v1).toNatClampNeg)) (upd mgM v1.toNatClampNeg (mgM (10 + v1).toNatClampNeg)) mcM mwM mfM mtM mhM (upd mmM v1.toNatClampNeg (mmM (10 + v1).toNatClampNeg)) (upd mdM v1.toNatClampNeg (mdM (10 + v1).toNatClampNeg)))))))))))) → A115 v1 mpM mkM mgM mcM mwM mfM mtM mhM mmM mdM := by
    intro v1 mpM mkM mgM mcM mwM mfM mtM mhM mmM mdM h
    rw [hA115]
    intro H locs hP hD hS ls hl
    refine lv_iload_n hx hb dX6_take_115 rfl (lv_at hl 1 rfl) ?_
    refine lv_bipush (v := 10) hx hb dX6_take_116 (by decide) ?_
    refine lv_icmp_ge (tgt := 187) hx hb dX6_take_118 (by decide) (fun c_4 => ?_) (fun c_4 => ?_)
    · have h := h.1 c_4
      refine lv_iconst (v := 0) hx hb dX6_take_187 (by decide) ?_
      refine lv_istore_n (lv' := [(1, .int 0), (0, .ref (adM 0))]) hx hb dX6_take_188 rfl hl (by decide) rfl (fun ls hl => ?_)
      rw [hA189] at h
      exact h _ _ hP hD hS ls (lv_sub hl [1, 0] rfl)
    · have h := h.2 c_4
      refine lv_aload_n hx hb dX6_take_121 rfl (lv_at hl 0 rfl) ?_
      refine va_get (D := D) (ci := 5) (v := .ref (adM 2)) (C := RX6) (T := TX6) (N := 18) hx hb hts (by decide +kernel) hown hK hP 0 rfl rfl 1 (by decide) (hts (.fieldLink RX6 13 "PartGraphsModel" "kinds" "[I") (by decide +kernel)) (fun _ h9 => h9) rfl dX6_take_122 ?_
      refine lv_iload_n hx hb dX6_take_125 rfl (lv_at hl 1 rfl) ?_
      refine lv_aload_n hx hb dX6_take_126 rfl (lv_at hl 0 rfl) ?_
      refine va_get (D := D) (ci := 5) (v := .ref (adM 2)) (C := RX6) (T := TX6) (N := 18) hx hb hts (by decide +kernel) hown hK hP 0 rfl rfl 1 (by decide) (hts (.fieldLink RX6 13 "PartGraphsModel" "kinds" "[I") (by decide +kernel)) (fun _ h9 => h9) rfl dX6_take_127 ?_
      refine lv_bipush (v := 10) hx hb dX6_take_130 (by decide) ?_
      refine lv_iload_n hx hb dX6_take_132 rfl (lv_at hl 1 rfl) ?_
      refine lv_iadd hx hb dX6_take_133 ?_
      have hin := h.1
      have h := h.2
      refine va_iald (D := D) (cl := vwCl) hx hb hK hP 2 0 rfl rfl hin dX6_take_134 ?_
      have hin := h.1
      have h := h.2
      refine va_iast (D := D) (cl := vwCl) hx hb hK hP hD hS 2 0 rfl rfl hin dX6_take_135 (fun H locs hP hD hS => ?_)
      have hP : va_P D vwCl (sh_M cs adM mpM (upd mkM v1.toNatClampNeg (mkM (10 + v1).toNatClampNeg)) mgM mcM mwM mfM mtM mhM mmM mdM mxM mnM szM faM apM waM wrM fuM) H := hP
      have hD : va_D A (sh_M cs adM mpM (upd mkM v1.toNatClampNeg (mkM (10 + v1).toNatClampNeg)) mgM mcM mwM mfM mtM mhM mmM mdM mxM mnM szM faM apM waM wrM fuM) := hD
      refine lv_aload_n hx hb dX6_take_136 rfl (lv_at hl 0 rfl) ?_
      refine va_get (D := D) (ci := 5) (v := .ref (adM 3)) (C := RX6) (T := TX6) (N := 18) hx hb hts (by decide +kernel) hown hK hP 0 rfl rfl 2 (by decide) (hts (.fieldLink RX6 16 "PartGraphsModel" "grams" "[I") (by decide +kernel)) (fun _ h9 => h9) rfl dX6_take_137 ?_
      refine lv_iload_n hx hb dX6_take_140 rfl (lv_at hl 1 rfl) ?_
      refine lv_aload_n hx hb dX6_take_141 rfl (lv_at hl 0 rfl) ?_
      refine va_get (D := D) (ci := 5) (v := .ref (adM 3)) (C := RX6) (T := TX6) (N := 18) hx hb hts (by decide +kernel) hown hK hP 0 rfl rfl 2 (by decide) (hts (.fieldLink RX6 16 "PartGraphsModel" "grams" "[I") (by decide +kernel)) (fun _ h9 => h9) rfl dX6_take_142 ?_
      refine lv_bipush (v := 10) hx hb dX6_take_145 (by decide) ?_
      refine lv_iload_n hx hb dX6_take_147 rfl (lv_at hl 1 rfl) ?_
      refine lv_iadd hx hb dX6_take_148 ?_
      have hin := h.1
      have h := h.2
      refine va_iald (D := D) (cl := vwCl) hx hb hK hP 3 0 rfl rfl hin dX6_take_149 ?_
      have hin := h.1
      have h := h.2
      refine va_iast (D := D) (cl := vwCl) hx hb hK hP hD hS 3 0 rfl rfl hin dX6_take_150 (fun H locs hP hD hS => ?_)
      have hP : va_P D vwCl (sh_M cs adM mpM (upd mkM v1.toNatClampNeg (mkM (10 + v1).toNatClampNeg)) (upd mgM v1.toNatClampNeg (mgM (10 + v1).toNatClampNeg)) mcM mwM mfM mtM mhM mmM mdM mxM mnM szM faM apM waM wrM fuM) H := hP
      have hD : va_D A (sh_M cs adM mpM (upd mkM v1.toNatClampNeg (mkM (10 + v1).toNatClampNeg)) (upd mgM v1.toNatClampNeg (mgM (10 + v1).toNatClampNeg)) mcM mwM mfM mtM mhM mmM mdM mxM mnM szM faM apM waM wrM fuM) := hD
      refine lv_aload_n hx hb dX6_take_151 rfl (lv_at hl 0 rfl) ?_
      refine va_get (D := D) (ci := 5) (v := .ref (adM 9)) (C := RX6) (T := TX6) (N := 18) hx hb hts (by decide +kernel) hown hK hP 0 rfl rfl 8 (by decide) (hts (.fieldLink RX6 35 "PartGraphsModel" "families" "[I") (by decide +kernel)) (fun _ h9 => h9) rfl dX6_take_152 ?_
      refine lv_iload_n hx hb dX6_take_155 rfl (lv_at hl 1 rfl) ?_
      refine lv_aload_n hx hb dX6_take_156 rfl (lv_at hl 0 rfl) ?_
      refine va_get (D := D) (ci := 5) (v := .ref (adM 9)) (C := RX6) (T := TX6) (N := 18) hx hb hts (by decide +kernel) hown hK hP 0 rfl rfl 8 (by decide) (hts (.fieldLink RX6 35 "PartGraphsModel" "families" "[I") (by decide +kernel)) (fun _ h9 => h9) rfl dX6_take_157 ?_
      refine lv_bipush (v := 10) hx hb dX6_take_160 (by decide) ?_
      refine lv_iload_n hx hb dX6_take_162 rfl (lv_at hl 1 rfl) ?_
      refine lv_iadd hx hb dX6_take_163 ?_
      have hin := h.1
      have h := h.2
      refine va_iald (D := D) (cl := vwCl) hx hb hK hP 9 0 rfl rfl hin dX6_take_164 ?_
      have hin := h.1
      have h := h.2
      refine va_iast (D := D) (cl := vwCl) hx hb hK hP hD hS 9 0 rfl rfl hin dX6_take_165 (fun H locs hP hD hS => ?_)
      have hP : va_P D vwCl (sh_M cs adM mpM (upd mkM v1.toNatClampNeg (mkM (10 + v1).toNatClampNeg)) (upd mgM v1.toNatClampNeg (mgM (10 + v1).toNatClampNeg)) mcM mwM mfM mtM mhM (upd mmM v1.toNatClampNeg (mmM (10 + v1).toNatClampNeg)) mdM mxM mnM szM faM apM waM wrM fuM) H := hP
      have hD : va_D A (sh_M cs adM mpM (upd mkM v1.toNatClampNeg (mkM (10 + v1).toNatClampNeg)) (upd mgM v1.toNatClampNeg (mgM (10 + v1).toNatClampNeg)) mcM mwM mfM mtM mhM (upd mmM v1.toNatClampNeg (mmM (10 + v1).toNatClampNeg)) mdM mxM mnM szM faM apM waM wrM fuM) := hD
      refine lv_aload_n hx hb dX6_take_166 rfl (lv_at hl 0 rfl) ?_
      refine va_get (D := D) (ci := 5) (v := .ref (adM 10)) (C := RX6) (T := TX6) (N := 18) hx hb hts (by decide +kernel) hown hK hP 0 rfl rfl 9 (by decide) (hts (.fieldLink RX6 38 "PartGraphsModel" "damages" "[I") (by decide +kernel)) (fun _ h9 => h9) rfl dX6_take_167 ?_
      refine lv_iload_n hx hb dX6_take_170 rfl (lv_at hl 1 rfl) ?_
      refine lv_aload_n hx hb dX6_take_171 rfl (lv_at hl 0 rfl) ?_
      refine va_get (D := D) (ci := 5) (v := .ref (adM 10)) (C := RX6) (T := TX6) (N := 18) hx hb hts (by decide +kernel) hown hK hP 0 rfl rfl 9 (by decide) (hts (.fieldLink RX6 38 "PartGraphsModel" "damages" "[I") (by decide +kernel)) (fun _ h9 => h9) rfl dX6_take_172 ?_
      refine lv_bipush (v := 10) hx hb dX6_take_175 (by decide) ?_
      refine lv_iload_n hx hb dX6_take_177 rfl (lv_at hl 1 rfl) ?_
      refine lv_iadd hx hb dX6_take_178 ?_
      have hin := h.1
      have h := h.2
      refine va_iald (D := D) (cl := vwCl) hx hb hK hP 10 0 rfl rfl hin dX6_take_179 ?_
      have hin := h.1
      have h := h.2
      refine va_iast (D := D) (cl := vwCl) hx hb hK hP hD hS 10 0 rfl rfl hin dX6_take_180 (fun H locs hP hD hS => ?_)
      have hP : va_P D vwCl (sh_M cs adM mpM (upd mkM v1.toNatClampNeg (mkM (10 + v1).toNatClampNeg)) (upd mgM v1.toNatClampNeg (mgM (10 + v1).toNatClampNeg)) mcM mwM mfM mtM mhM (upd mmM v1.toNatClampNeg (mmM (10 + v1).toNatClampNeg)) (upd mdM v1.toNatClampNeg (mdM (10 + v1).toNatClampNeg)) mxM mnM szM faM apM waM wrM fuM) H := hP
      have hD : va_D A (sh_M cs adM mpM (upd mkM v1.toNatClampNeg (mkM (10 + v1).toNatClampNeg)) (upd mgM v1.toNatClampNeg (mgM (10 + v1).toNatClampNeg)) mcM mwM mfM mtM mhM (upd mmM v1.toNatClampNeg (mmM (10 + v1).toNatClampNeg)) (upd mdM v1.toNatClampNeg (mdM (10 + v1).toNatClampNeg)) mxM mnM szM faM apM waM wrM fuM) := hD
      refine lv_iinc (v := v1 + 1) (lv' := [(1, .int (v1 + 1)), (0, .ref (adM 0))]) hx hb dX6_take_181 hl (k := 1) rfl rfl (by decide) rfl (fun ls hl => ?_)
      refine lv_goto (tgt := 115) hx hb dX6_take_184 (by decide) ?_
      rw [hA115] at h
      exact h _ _ hP hD hS ls (lv_sub hl [1, 0] rfl)
  have s189 : ∀ (v1 : Int32) (mpM : Nat → Int32) (mkM : Nat → Int32) (mgM : Nat → Int32) (mcM : Nat → Int32) (mwM : Nat → Int32) (mfM : Nat → Int32) (mtM : Nat → Int32) (mhM : Nat → Int32) (mmM : Nat → Int32) (mdM : Nat → Int32), ((60 ≤ v1 → post (mpM, mkM, mgM, mcM, mwM, mfM, mtM, mhM, mmM, mdM)) ∧ (¬ 60 ≤ v1 → (vp_in (60 + v1) 120 ∧ (vp_in v1 120 ∧ A189 (v1 + 1) mpM mkM mgM mcM mwM mfM (upd mtM v1.toNatClampNeg (mtM (60 + v1).toNatClampNeg)) mhM mmM mdM)))) → A189 v1 mpM mkM mgM mcM mwM mfM mtM mhM mmM mdM := by
    intro v1 mpM mkM mgM mcM mwM mfM mtM mhM mmM mdM h
    rw [hA189]
    intro H locs hP hD hS ls hl
    refine lv_iload_n hx hb dX6_take_189 rfl (lv_at hl 1 rfl) ?_
    refine lv_bipush (v := 60) hx hb dX6_take_190 (by decide) ?_
    refine lv_icmp_ge (tgt := 216) hx hb dX6_take_192 (by decide) (fun c_5 => ?_) (fun c_5 => ?_)
    · have h := h.1 c_5
      exact W.vret hx hb hr (fun t ht hW => ⟨⟨(mpM, mkM, mgM, mcM, mwM, mfM, mtM, mhM, mmM, mdM), rfl, h, by rw [ht]; exact hP, va_K.moved hW.alike hK, hD⟩, hS.F ht⟩) hS.2.2 dX6_take_216
    · have h := h.2 c_5
      refine lv_aload_n hx hb dX6_take_195 rfl (lv_at hl 0 rfl) ?_
      refine va_get (D := D) (ci := 5) (v := .ref (adM 7)) (C := RX6) (T := TX6) (N := 18) hx hb hts (by decide +kernel) hown hK hP 0 rfl rfl 6 (by decide) (hts (.fieldLink RX6 29 "PartGraphsModel" "ties" "[I") (by decide +kernel)) (fun _ h9 => h9) rfl dX6_take_196 ?_
      refine lv_iload_n hx hb dX6_take_199 rfl (lv_at hl 1 rfl) ?_
      refine lv_aload_n hx hb dX6_take_200 rfl (lv_at hl 0 rfl) ?_
      refine va_get (D := D) (ci := 5) (v := .ref (adM 7)) (C := RX6) (T := TX6) (N := 18) hx hb hts (by decide +kernel) hown hK hP 0 rfl rfl 6 (by decide) (hts (.fieldLink RX6 29 "PartGraphsModel" "ties" "[I") (by decide +kernel)) (fun _ h9 => h9) rfl dX6_take_201 ?_
      refine lv_bipush (v := 60) hx hb dX6_take_204 (by decide) ?_
      refine lv_iload_n hx hb dX6_take_206 rfl (lv_at hl 1 rfl) ?_
      refine lv_iadd hx hb dX6_take_207 ?_
      have hin := h.1
      have h := h.2
      refine va_iald (D := D) (cl := vwCl) hx hb hK hP 7 0 rfl rfl hin dX6_take_208 ?_
      have hin := h.1
      have h := h.2
      refine va_iast (D := D) (cl := vwCl) hx hb hK hP hD hS 7 0 rfl rfl hin dX6_take_209 (fun H locs hP hD hS => ?_)
      have hP : va_P D vwCl (sh_M cs adM mpM mkM mgM mcM mwM mfM (upd mtM v1.toNatClampNeg (mtM (60 + v1).toNatClampNeg)) mhM mmM mdM mxM mnM szM faM apM waM wrM fuM) H := hP
      have hD : va_D A (sh_M cs adM mpM mkM mgM mcM mwM mfM (upd mtM v1.toNatClampNeg (mtM (60 + v1).toNatClampNeg)) mhM mmM mdM mxM mnM szM faM apM waM wrM fuM) := hD
      refine lv_iinc (v := v1 + 1) (lv' := [(1, .int (v1 + 1)), (0, .ref (adM 0))]) hx hb dX6_take_210 hl (k := 1) rfl rfl (by decide) rfl (fun ls hl => ?_)
      refine lv_goto (tgt := 189) hx hb dX6_take_213 (by decide) ?_
      rw [hA189] at h
      exact h _ _ hP hD hS ls (lv_sub hl [1, 0] rfl)
  have h := h A26 A55 A86 A115 A189 s26 s55 s86 s115 s189
  refine lv_aload_n hx hb dX6_take_0 rfl (lv_at hl 0 rfl) ?_
  refine va_get (D := D) (ci := 5) (v := .ref (adM 1)) (C := RX6) (T := TX6) (N := 18) hx hb hts (by decide +kernel) hown hK hP 0 rfl rfl 0 (by decide) (hts (.fieldLink RX6 7 "PartGraphsModel" "parts" "[I") (by decide +kernel)) (fun _ h9 => h9) rfl dX6_take_1 ?_
  refine lv_iconst (v := 0) hx hb dX6_take_4 (by decide) ?_
  refine lv_aload_n hx hb dX6_take_5 rfl (lv_at hl 0 rfl) ?_
  refine va_get (D := D) (ci := 5) (v := .ref (adM 1)) (C := RX6) (T := TX6) (N := 18) hx hb hts (by decide +kernel) hown hK hP 0 rfl rfl 0 (by decide) (hts (.fieldLink RX6 7 "PartGraphsModel" "parts" "[I") (by decide +kernel)) (fun _ h9 => h9) rfl dX6_take_6 ?_
  refine lv_iconst (v := 1) hx hb dX6_take_9 (by decide) ?_
  have hin := h.1
  have h := h.2
  refine va_iald (D := D) (cl := vwCl) hx hb hK hP 1 0 rfl rfl hin dX6_take_10 ?_
  have hin := h.1
  have h := h.2
  refine va_iast (D := D) (cl := vwCl) hx hb hK hP hD hS 1 0 rfl rfl hin dX6_take_11 (fun H locs hP hD hS => ?_)
  have hP : va_P D vwCl (sh_M cs adM (upd mpM (0 : Int32).toNatClampNeg (mpM (1 : Int32).toNatClampNeg)) mkM mgM mcM mwM mfM mtM mhM mmM mdM mxM mnM szM faM apM waM wrM fuM) H := hP
  have hD : va_D A (sh_M cs adM (upd mpM (0 : Int32).toNatClampNeg (mpM (1 : Int32).toNatClampNeg)) mkM mgM mcM mwM mfM mtM mhM mmM mdM mxM mnM szM faM apM waM wrM fuM) := hD
  refine lv_aload_n hx hb dX6_take_12 rfl (lv_at hl 0 rfl) ?_
  refine va_get (D := D) (ci := 5) (v := .ref (adM 6)) (C := RX6) (T := TX6) (N := 18) hx hb hts (by decide +kernel) hown hK hP 0 rfl rfl 5 (by decide) (hts (.fieldLink RX6 26 "PartGraphsModel" "fastenings" "[I") (by decide +kernel)) (fun _ h9 => h9) rfl dX6_take_13 ?_
  refine lv_iconst (v := 0) hx hb dX6_take_16 (by decide) ?_
  refine lv_aload_n hx hb dX6_take_17 rfl (lv_at hl 0 rfl) ?_
  refine va_get (D := D) (ci := 5) (v := .ref (adM 6)) (C := RX6) (T := TX6) (N := 18) hx hb hts (by decide +kernel) hown hK hP 0 rfl rfl 5 (by decide) (hts (.fieldLink RX6 26 "PartGraphsModel" "fastenings" "[I") (by decide +kernel)) (fun _ h9 => h9) rfl dX6_take_18 ?_
  refine lv_iconst (v := 1) hx hb dX6_take_21 (by decide) ?_
  have hin := h.1
  have h := h.2
  refine va_iald (D := D) (cl := vwCl) hx hb hK hP 6 0 rfl rfl hin dX6_take_22 ?_
  have hin := h.1
  have h := h.2
  refine va_iast (D := D) (cl := vwCl) hx hb hK hP hD hS 6 0 rfl rfl hin dX6_take_23 (fun H locs hP hD hS => ?_)
  have hP : va_P D vwCl (sh_M cs adM (upd mpM (0 : Int32).toNatClampNeg (mpM (1 : Int32).toNatClampNeg)) mkM mgM mcM mwM (upd mfM (0 : Int32).toNatClampNeg (mfM (1 : Int32).toNatClampNeg)) mtM mhM mmM mdM mxM mnM szM faM apM waM wrM fuM) H := hP
  have hD : va_D A (sh_M cs adM (upd mpM (0 : Int32).toNatClampNeg (mpM (1 : Int32).toNatClampNeg)) mkM mgM mcM mwM (upd mfM (0 : Int32).toNatClampNeg (mfM (1 : Int32).toNatClampNeg)) mtM mhM mmM mdM mxM mnM szM faM apM waM wrM fuM) := hD
  refine lv_iconst (v := 0) hx hb dX6_take_24 (by decide) ?_
  refine lv_istore_n (lv' := [(1, .int 0), (0, .ref (adM 0))]) hx hb dX6_take_25 rfl hl (by decide) rfl (fun ls hl => ?_)
  rw [hA26] at h
  exact h _ _ hP hD hS ls (lv_sub hl [1, 0] rfl)
def wp_X6_isPart (mpM : Nat → Int32) (p1 : Int32) (p2 : Int32) (post : Int32 → Unit → Prop) : Prop :=
    ((p2 < 0 → post 0 ()) ∧ (¬ p2 < 0 → (vp_in p1 2 ∧ (((mpM p1.toNatClampNeg) ≤ p2 → post 0 ()) ∧ (¬ (mpM p1.toNatClampNeg) ≤ p2 → post 1 ())))))
set_option maxHeartbeats 4000000 in
set_option maxRecDepth 100000 in
theorem met_X6_isPart (l : Launch) (D : va_G) (cs : Nat → ClassId) (ev : Nat → Nat → Nat) (sz0 : Nat) (adM : Nat → Nat) (mpM : Nat → Int32) (mkM : Nat → Int32) (mgM : Nat → Int32) (mcM : Nat → Int32) (mwM : Nat → Int32) (mfM : Nat → Int32) (mtM : Nat → Int32) (mhM : Nat → Int32) (mmM : Nat → Int32) (mdM : Nat → Int32) (mxM : Nat → Int32) (mnM : Nat → Int32) (szM : Int32) (faM : Int32) (apM : Int32) (waM : Int32) (wrM : Int32) (fuM : Int32) (p1 : Int32) (p2 : Int32) (post : Int32 → Unit → Prop) (h : wp_X6_isPart mpM p1 p2 post) : Met l yX6_isPart wsX6_isPart ({ frames := 0, cells := 0, slots := 0, locals := 0 }) (va_Pc [.ref (adM 0), .int p1, .int p2] (mPre D cs ev (sh_M cs adM mpM mkM mgM mcM mwM mfM mtM mhM mmM mdM mxM mnM szM faM apM waM wrM fuM) sz0)) (va_Qi post (fun _ t => mAt D cs (va_A (sh_M cs adM mpM mkM mgM mcM mwM mfM mtM mhM mmM mdM mxM mnM szM faM apM waM wrM fuM) sz0) (sh_M cs adM mpM mkM mgM mcM mwM mfM mtM mhM mmM mdM mxM mnM szM faM apM waM wrM fuM) t) (va_A (sh_M cs adM mpM mkM mgM mcM mwM mfM mtM mhM mmM mdM mxM mnM szM faM apM waM wrM fuM) sz0)) 0 0 (va_A (sh_M cs adM mpM mkM mgM mcM mwM mfM mtM mhM mmM mdM mxM mnM szM faM apM waM wrM fuM) sz0) := by
  refine Met.ofW (cc := cX6_isPart) (maxL := 3) (ret := (some .boolean)) (by decide) rfl ?_
  intro p e s m args below meth c s₁ B hml hv
  obtain ⟨rfl, hsz, hP, hK, hD0, hE⟩ := hv
  have hx := B.exec
  have hb := B.bytes
  have hr := B.returns
  have hts := atoms_spec (ws := wsX6_isPart) B.pre
  have hown : s.vm.findClass RX6 = some m.cls := findClass_of_methodNamed B.named
  have hlocks := B.notSynchronized
  subst hsz
  have hD := hD0.self (sz := s.heap.size)
  generalize hAe : va_A (sh_M cs adM mpM mkM mgM mcM mwM mfM mtM mhM mmM mdM mxM mnM szM faM apM waM wrM fuM) s.heap.size = A at hD hE ⊢
  have hA : ∀ q : Nat, s.heap.size ≤ q → A q := fun q h => by rw [← hAe]; exact Or.inr h
  have hS : va_S A s.heap s.heap [] := va_S.rf
  have hl := lv_entry ([.ref (adM 0), .int p1, .int p2]) (n := 3) (Nat.le_of_ble_eq_true rfl)
  rw [lg_entry_eq]
  generalize (lg_sl ([.ref (adM 0), .int p1, .int p2]) ++ List.replicate (3 - (lg_sl ([.ref (adM 0), .int p1, .int p2])).length) Slot.unset).toArray = ls at hl ⊢
  have hl : lv_has ls 3 [(0, .ref (adM 0)), (1, .int p1), (2, .int p2)] := hl
  refine lv_iload_n hx hb dX6_isPart_0 rfl (lv_at hl 2 rfl) ?_
  refine lv_if_lt (tgt := 18) hx hb dX6_isPart_1 (by decide) (fun c_1 => ?_) (fun c_1 => ?_)
  · have h := h.1 c_1
    refine lv_iconst (v := 0) hx hb dX6_isPart_18 (by decide) ?_
    exact W.zret (v := 0) hx hb hr (by decide) (fun t ht hW => ⟨⟨0, (), rfl, h, by rw [ht]; exact hP, va_K.moved hW.alike hK, hD⟩, hS.F ht⟩) hS.2.2 dX6_isPart_19
  · have h := h.2 c_1
    refine lv_iload_n hx hb dX6_isPart_4 rfl (lv_at hl 2 rfl) ?_
    refine lv_aload_n hx hb dX6_isPart_5 rfl (lv_at hl 0 rfl) ?_
    refine va_get (D := D) (ci := 5) (v := .ref (adM 1)) (C := RX6) (T := TX6) (N := 18) hx hb hts (by decide +kernel) hown hK hP 0 rfl rfl 0 (by decide) (hts (.fieldLink RX6 7 "PartGraphsModel" "parts" "[I") (by decide +kernel)) (fun _ h9 => h9) rfl dX6_isPart_6 ?_
    refine lv_iload_n hx hb dX6_isPart_9 rfl (lv_at hl 1 rfl) ?_
    have hin := h.1
    have h := h.2
    refine va_iald (D := D) (cl := vwCl) hx hb hK hP 1 0 rfl rfl hin dX6_isPart_10 ?_
    refine lv_icmp_ge (tgt := 18) hx hb dX6_isPart_11 (by decide) (fun c_2 => ?_) (fun c_2 => ?_)
    · have h := h.1 c_2
      refine lv_iconst (v := 0) hx hb dX6_isPart_18 (by decide) ?_
      exact W.zret (v := 0) hx hb hr (by decide) (fun t ht hW => ⟨⟨0, (), rfl, h, by rw [ht]; exact hP, va_K.moved hW.alike hK, hD⟩, hS.F ht⟩) hS.2.2 dX6_isPart_19
    · have h := h.2 c_2
      refine lv_iconst (v := 1) hx hb dX6_isPart_14 (by decide) ?_
      refine lv_goto (tgt := 19) hx hb dX6_isPart_15 (by decide) ?_
      exact W.zret (v := 1) hx hb hr (by decide) (fun t ht hW => ⟨⟨1, (), rfl, h, by rw [ht]; exact hP, va_K.moved hW.alike hK, hD⟩, hS.F ht⟩) hS.2.2 dX6_isPart_19
def wp_X6_isAllowed (mpM : Nat → Int32) (mcM : Nat → Int32) (mwM : Nat → Int32) (mfM : Nat → Int32) (mhM : Nat → Int32) (mmM : Nat → Int32) (p1 : Int32) (p2 : Int32) (p3 : Int32) (p4 : Int32) (p5 : Int32) (post : Int32 → Unit → Prop) : Prop :=
    ((p2 = 0 → (vp_in p1 2 ∧ ((10 ≤ (mpM p1.toNatClampNeg) → post 0 ()) ∧ (¬ 10 ≤ (mpM p1.toNatClampNeg) → ((p3 < 0 → post 0 ()) ∧ (¬ p3 < 0 → ((10 ≤ p3 → post 0 ()) ∧ (¬ 10 ≤ p3 → ((p4 < 0 → post 0 ()) ∧ (¬ p4 < 0 → ((1000000 < p4 → post 0 ()) ∧ (¬ 1000000 < p4 → post 1 ())))))))))))) ∧ (¬ p2 = 0 → ((p2 = 1 → wp_X6_isPart mpM p1 p3 (fun r_6 _ => ((r_6 = 0 → post 0 ()) ∧ (¬ r_6 = 0 → wp_X6_isPart mpM p1 p4 (fun r_8 _ => ((r_8 = 0 → post 0 ()) ∧ (¬ r_8 = 0 → ((p3 = p4 → post 0 ()) ∧ (¬ p3 = p4 → (vp_in (((100 * p1) + (10 * p3)) + p4) 200 ∧ (((mcM (((100 * p1) + (10 * p3)) + p4).toNatClampNeg) = 0 → post 1 ()) ∧ (¬ (mcM (((100 * p1) + (10 * p3)) + p4).toNatClampNeg) = 0 → post 0 ())))))))))))) ∧ (¬ p2 = 1 → ((p2 = 2 → wp_X6_isPart mpM p1 p3 (fun r_12 _ => ((r_12 = 0 → post 0 ()) ∧ (¬ r_12 = 0 → ((p4 < 0 → post 0 ()) ∧ (¬ p4 < 0 → ((6 ≤ p4 → post 0 ()) ∧ (¬ 6 ≤ p4 → wp_X6_isPart mpM p1 p5 (fun r_16 _ => ((r_16 = 0 → post 0 ()) ∧ (¬ r_16 = 0 → ((p3 = p5 → post 0 ()) ∧ (¬ p3 = p5 → wp_X6_wayAt p1 p3 p4 p5 (fun r_19 _ => (vp_in r_19 1200 ∧ (((mwM r_19.toNatClampNeg) = 0 → post 1 ()) ∧ (¬ (mwM r_19.toNatClampNeg) = 0 → post 0 ()))))))))))))))))) ∧ (¬ p2 = 2 → ((p2 = 3 → (vp_in p1 2 ∧ ((20 ≤ (mfM p1.toNatClampNeg) → post 0 ()) ∧ (¬ 20 ≤ (mfM p1.toNatClampNeg) → wp_X6_isPart mpM p1 p3 (fun r_22 _ => ((r_22 = 0 → post 0 ()) ∧ (¬ r_22 = 0 → wp_X6_isPart mpM p1 p4 (fun r_24 _ => ((r_24 = 0 → post 0 ()) ∧ (¬ r_24 = 0 → ((p3 = p4 → post 0 ()) ∧ (¬ p3 = p4 → ((p5 < 0 → post 0 ()) ∧ (¬ p5 < 0 → ((4 ≤ p5 → post 0 ()) ∧ (¬ 4 ≤ p5 → post 1 ())))))))))))))))) ∧ (¬ p2 = 3 → ((p2 = 4 → wp_X6_isPart mpM p1 p3 (fun r_29 _ => ((r_29 = 0 → post 0 ()) ∧ (¬ r_29 = 0 → ((p4 < 0 → post 0 ()) ∧ (¬ p4 < 0 → ((8 ≤ p4 → post 0 ()) ∧ (¬ 8 ≤ p4 → (vp_in (((80 * p1) + (8 * p3)) + p4) 160 ∧ (((mhM (((80 * p1) + (8 * p3)) + p4).toNatClampNeg) = 0 → post 1 ()) ∧ (¬ (mhM (((80 * p1) + (8 * p3)) + p4).toNatClampNeg) = 0 → post 0 ()))))))))))) ∧ (¬ p2 = 4 → ((p2 = 5 → wp_X6_isPart mpM p1 p3 (fun r_34 _ => ((r_34 = 0 → post 0 ()) ∧ (¬ r_34 = 0 → ((p4 < 0 → post 0 ()) ∧ (¬ p4 < 0 → ((4 ≤ p4 → post 0 ()) ∧ (¬ 4 ≤ p4 → (vp_in ((10 * p1) + p3) 20 ∧ (((mmM ((10 * p1) + p3).toNatClampNeg) = p4 → post 0 ()) ∧ (¬ (mmM ((10 * p1) + p3).toNatClampNeg) = p4 → post 1 ()))))))))))) ∧ (¬ p2 = 5 → wp_X6_isPart mpM p1 p3 (fun r_39 _ => ((r_39 = 0 → post 0 ()) ∧ (¬ r_39 = 0 → ((p4 < 0 → post 0 ()) ∧ (¬ p4 < 0 → ((4 ≤ p4 → post 0 ()) ∧ (¬ 4 ≤ p4 → post 1 ())))))))))))))))))))
set_option maxHeartbeats 4000000 in
set_option maxRecDepth 100000 in
theorem met_X6_isAllowed (l : Launch) (D : va_G) (cs : Nat → ClassId) (ev : Nat → Nat → Nat) (sz0 : Nat) (adM : Nat → Nat) (mpM : Nat → Int32) (mkM : Nat → Int32) (mgM : Nat → Int32) (mcM : Nat → Int32) (mwM : Nat → Int32) (mfM : Nat → Int32) (mtM : Nat → Int32) (mhM : Nat → Int32) (mmM : Nat → Int32) (mdM : Nat → Int32) (mxM : Nat → Int32) (mnM : Nat → Int32) (szM : Int32) (faM : Int32) (apM : Int32) (waM : Int32) (wrM : Int32) (fuM : Int32) (p1 : Int32) (p2 : Int32) (p3 : Int32) (p4 : Int32) (p5 : Int32) (post : Int32 → Unit → Prop) (h : wp_X6_isAllowed mpM mcM mwM mfM mhM mmM p1 p2 p3 p4 p5 post) : Met l yX6_isAllowed wsX6_isAllowed ({ frames := 1, cells := 0, slots := 0, locals := 23 }) (va_Pc [.ref (adM 0), .int p1, .int p2, .int p3, .int p4, .int p5] (mPre D cs ev (sh_M cs adM mpM mkM mgM mcM mwM mfM mtM mhM mmM mdM mxM mnM szM faM apM waM wrM fuM) sz0)) (va_Qi post (fun _ t => mAt D cs (va_A (sh_M cs adM mpM mkM mgM mcM mwM mfM mtM mhM mmM mdM mxM mnM szM faM apM waM wrM fuM) sz0) (sh_M cs adM mpM mkM mgM mcM mwM mfM mtM mhM mmM mdM mxM mnM szM faM apM waM wrM fuM) t) (va_A (sh_M cs adM mpM mkM mgM mcM mwM mfM mtM mhM mmM mdM mxM mnM szM faM apM waM wrM fuM) sz0)) 0 0 (va_A (sh_M cs adM mpM mkM mgM mcM mwM mfM mtM mhM mmM mdM mxM mnM szM faM apM waM wrM fuM) sz0) := by
  refine Met.ofW (cc := cX6_isAllowed) (maxL := 6) (ret := (some .boolean)) (by decide) rfl ?_
  intro p e s m args below meth c s₁ B hml hv
  obtain ⟨rfl, hsz, hP, hK, hD0, hE⟩ := hv
  have hx := B.exec
  have hb := B.bytes
  have hr := B.returns
  have hts := atoms_spec (ws := wsX6_isAllowed) B.pre
  have hown : s.vm.findClass RX6 = some m.cls := findClass_of_methodNamed B.named
  have hlocks := B.notSynchronized
  subst hsz
  have hD := hD0.self (sz := s.heap.size)
  generalize hAe : va_A (sh_M cs adM mpM mkM mgM mcM mwM mfM mtM mhM mmM mdM mxM mnM szM faM apM waM wrM fuM) s.heap.size = A at hD hE ⊢
  have hA : ∀ q : Nat, s.heap.size ≤ q → A q := fun q h => by rw [← hAe]; exact Or.inr h
  have hS : va_S A s.heap s.heap [] := va_S.rf
  have hl := lv_entry ([.ref (adM 0), .int p1, .int p2, .int p3, .int p4, .int p5]) (n := 6) (Nat.le_of_ble_eq_true rfl)
  rw [lg_entry_eq]
  generalize (lg_sl ([.ref (adM 0), .int p1, .int p2, .int p3, .int p4, .int p5]) ++ List.replicate (6 - (lg_sl ([.ref (adM 0), .int p1, .int p2, .int p3, .int p4, .int p5])).length) Slot.unset).toArray = ls at hl ⊢
  have hl : lv_has ls 6 [(0, .ref (adM 0)), (1, .int p1), (2, .int p2), (3, .int p3), (4, .int p4), (5, .int p5)] := hl
  refine lv_iload_n hx hb dX6_isAllowed_0 rfl (lv_at hl 2 rfl) ?_
  by_cases cs_0 : p2 = 0
  · have h := h.1 cs_0
    refine lv_tableIn (tgt := 40) hx hb dX6_isAllowed_1 (by rw [cs_0]; decide) (by rw [cs_0]; decide) (by rw [cs_0]; rfl) (by decide) ?_
    refine lv_aload_n hx hb dX6_isAllowed_40 rfl (lv_at hl 0 rfl) ?_
    refine va_get (D := D) (ci := 5) (v := .ref (adM 1)) (C := RX6) (T := TX6) (N := 18) hx hb hts (by decide +kernel) hown hK hP 0 rfl rfl 0 (by decide) (hts (.fieldLink RX6 7 "PartGraphsModel" "parts" "[I") (by decide +kernel)) (fun _ h9 => h9) rfl dX6_isAllowed_41 ?_
    refine lv_iload_n hx hb dX6_isAllowed_44 rfl (lv_at hl 1 rfl) ?_
    have hin := h.1
    have h := h.2
    refine va_iald (D := D) (cl := vwCl) hx hb hK hP 1 0 rfl rfl hin dX6_isAllowed_45 ?_
    refine lv_bipush (v := 10) hx hb dX6_isAllowed_46 (by decide) ?_
    refine lv_icmp_ge (tgt := 77) hx hb dX6_isAllowed_48 (by decide) (fun c_1 => ?_) (fun c_1 => ?_)
    · have h := h.1 c_1
      refine lv_iconst (v := 0) hx hb dX6_isAllowed_77 (by decide) ?_
      exact W.zret (v := 0) hx hb hr (by decide) (fun t ht hW => ⟨⟨0, (), rfl, h, by rw [ht]; exact hP, va_K.moved hW.alike hK, hD⟩, hS.F ht⟩) hS.2.2 dX6_isAllowed_78
    · have h := h.2 c_1
      refine lv_iload_n hx hb dX6_isAllowed_51 rfl (lv_at hl 3 rfl) ?_
      refine lv_if_lt (tgt := 77) hx hb dX6_isAllowed_52 (by decide) (fun c_2 => ?_) (fun c_2 => ?_)
      · have h := h.1 c_2
        refine lv_iconst (v := 0) hx hb dX6_isAllowed_77 (by decide) ?_
        exact W.zret (v := 0) hx hb hr (by decide) (fun t ht hW => ⟨⟨0, (), rfl, h, by rw [ht]; exact hP, va_K.moved hW.alike hK, hD⟩, hS.F ht⟩) hS.2.2 dX6_isAllowed_78
      · have h := h.2 c_2
        refine lv_iload_n hx hb dX6_isAllowed_55 rfl (lv_at hl 3 rfl) ?_
        refine lv_bipush (v := 10) hx hb dX6_isAllowed_56 (by decide) ?_
        refine lv_icmp_ge (tgt := 77) hx hb dX6_isAllowed_58 (by decide) (fun c_3 => ?_) (fun c_3 => ?_)
        · have h := h.1 c_3
          refine lv_iconst (v := 0) hx hb dX6_isAllowed_77 (by decide) ?_
          exact W.zret (v := 0) hx hb hr (by decide) (fun t ht hW => ⟨⟨0, (), rfl, h, by rw [ht]; exact hP, va_K.moved hW.alike hK, hD⟩, hS.F ht⟩) hS.2.2 dX6_isAllowed_78
        · have h := h.2 c_3
          refine lv_iload hx hb dX6_isAllowed_61 (lv_at hl 4 rfl) ?_
          refine lv_if_lt (tgt := 77) hx hb dX6_isAllowed_63 (by decide) (fun c_4 => ?_) (fun c_4 => ?_)
          · have h := h.1 c_4
            refine lv_iconst (v := 0) hx hb dX6_isAllowed_77 (by decide) ?_
            exact W.zret (v := 0) hx hb hr (by decide) (fun t ht hW => ⟨⟨0, (), rfl, h, by rw [ht]; exact hP, va_K.moved hW.alike hK, hD⟩, hS.F ht⟩) hS.2.2 dX6_isAllowed_78
          · have h := h.2 c_4
            refine lv_iload hx hb dX6_isAllowed_66 (lv_at hl 4 rfl) ?_
            refine lv_ldc (v := 1000000) hx hb hown (hts (.constant RX6 56 1000000) (by decide +kernel)) dX6_isAllowed_68 ?_
            refine lv_icmp_gt (tgt := 77) hx hb dX6_isAllowed_70 (by decide) (fun c_5 => ?_) (fun c_5 => ?_)
            · have h := h.1 c_5
              refine lv_iconst (v := 0) hx hb dX6_isAllowed_77 (by decide) ?_
              exact W.zret (v := 0) hx hb hr (by decide) (fun t ht hW => ⟨⟨0, (), rfl, h, by rw [ht]; exact hP, va_K.moved hW.alike hK, hD⟩, hS.F ht⟩) hS.2.2 dX6_isAllowed_78
            · have h := h.2 c_5
              refine lv_iconst (v := 1) hx hb dX6_isAllowed_73 (by decide) ?_
              refine lv_goto (tgt := 78) hx hb dX6_isAllowed_74 (by decide) ?_
              exact W.zret (v := 1) hx hb hr (by decide) (fun t ht hW => ⟨⟨1, (), rfl, h, by rw [ht]; exact hP, va_K.moved hW.alike hK, hD⟩, hS.F ht⟩) hS.2.2 dX6_isAllowed_78
  · have h := h.2 cs_0
    by_cases cs_1 : p2 = 1
    · have h := h.1 cs_1
      refine lv_tableIn (tgt := 79) hx hb dX6_isAllowed_1 (by rw [cs_1]; decide) (by rw [cs_1]; decide) (by rw [cs_1]; rfl) (by decide) ?_
      refine lv_aload_n hx hb dX6_isAllowed_79 rfl (lv_at hl 0 rfl) ?_
      refine lv_iload_n hx hb dX6_isAllowed_80 rfl (lv_at hl 1 rfl) ?_
      refine lv_iload_n hx hb dX6_isAllowed_81 rfl (lv_at hl 3 rfl) ?_
      have hFc := va_free (wc := (sh_M cs adM mpM mkM mgM mcM mwM mfM mtM mhM mmM mdM mxM mnM szM faM apM waM wrM fuM)) hD hS hA [0, 1, 2, 3, 4, 5, 6, 7, 8, 9, 10, 11, 12] rfl
      refine va_calli (va_runV (As := [.int p1, .int p3]) (rest := []) ⟨hx, hb, hml, hown, hts⟩ (met_X6_isPart l D cs ev _ adM mpM mkM mgM mcM mwM mfM mtM mhM mmM mdM mxM mnM szM faM apM waM wrM fuM p1 p3 _ h) (cwV 2 hts gX6_isAllowed_X6_isPart rfl rfl rfl (by decide +kernel) ⟨Nat.le_of_ble_eq_true rfl, Nat.le_of_ble_eq_true rfl⟩) (mPreV (va_recv hK hP (ci := 5) (q0 := 0) rfl rfl) hP hD hS hK hE hFc [0, 1, 2, 3, 4, 5, 6, 7, 8, 9, 10, 11, 12] (by decide) rfl) rfl rfl hl.1 rfl (lv_room (Nat.le_of_ble_eq_true rfl)) dX6_isAllowed_82 ⟨Nat.le_of_ble_eq_true rfl, Nat.le_of_ble_eq_true rfl⟩) hS (fun q _ h => hFc q h) hFc (fun r_6 u t H1 locs ht hvm hw hB hz1 hk1 hS => ?_)
      have h := hw
      obtain ⟨hP1, hK1, hD1⟩ := hB
      rw [ht] at hP1
      obtain ⟨hP, hD⟩ := mJoin (wr := ([] : va_W)) (w1 := (sh_M cs adM mpM mkM mgM mcM mwM mfM mtM mhM mmM mdM mxM mnM szM faM apM waM wrM fuM)) (w' := (sh_M cs adM mpM mkM mgM mcM mwM mfM mtM mhM mmM mdM mxM mnM szM faM apM waM wrM fuM)) hP hD [0, 1, 2, 3, 4, 5, 6, 7, 8, 9, 10, 11, 12] [] rfl rfl (by decide) (by decide) hk1 hFc hP1 hD1 [0, 1, 2, 3, 4, 5, 6, 7, 8, 9, 10, 11, 12] (by decide) rfl
      generalize H1 = H at hP hS ⊢
      refine lv_if_eq (tgt := 128) hx hb dX6_isAllowed_85 (by decide) (fun c_7 => ?_) (fun c_7 => ?_)
      · have h := h.1 c_7
        refine lv_iconst (v := 0) hx hb dX6_isAllowed_128 (by decide) ?_
        exact W.zret (v := 0) hx hb hr (by decide) (fun t ht hW => ⟨⟨0, (), rfl, h, by rw [ht]; exact hP, va_K.moved hW.alike hK, hD⟩, hS.F ht⟩) hS.2.2 dX6_isAllowed_129
      · have h := h.2 c_7
        refine lv_aload_n hx hb dX6_isAllowed_88 rfl (lv_at hl 0 rfl) ?_
        refine lv_iload_n hx hb dX6_isAllowed_89 rfl (lv_at hl 1 rfl) ?_
        refine lv_iload hx hb dX6_isAllowed_90 (lv_at hl 4 rfl) ?_
        have hFc := va_free (wc := (sh_M cs adM mpM mkM mgM mcM mwM mfM mtM mhM mmM mdM mxM mnM szM faM apM waM wrM fuM)) hD hS hA [0, 1, 2, 3, 4, 5, 6, 7, 8, 9, 10, 11, 12] rfl
        refine va_calli (va_runV (As := [.int p1, .int p4]) (rest := []) ⟨hx, hb, hml, hown, hts⟩ (met_X6_isPart l D cs ev _ adM mpM mkM mgM mcM mwM mfM mtM mhM mmM mdM mxM mnM szM faM apM waM wrM fuM p1 p4 _ h) (cwV 2 hts gX6_isAllowed_X6_isPart rfl rfl rfl (by decide +kernel) ⟨Nat.le_of_ble_eq_true rfl, Nat.le_of_ble_eq_true rfl⟩) (mPreV (va_recv hK hP (ci := 5) (q0 := 0) rfl rfl) hP hD hS hK hE hFc [0, 1, 2, 3, 4, 5, 6, 7, 8, 9, 10, 11, 12] (by decide) rfl) rfl rfl hl.1 rfl (lv_room (Nat.le_of_ble_eq_true rfl)) dX6_isAllowed_92 ⟨Nat.le_of_ble_eq_true rfl, Nat.le_of_ble_eq_true rfl⟩) hS (fun q _ h => hFc q h) hFc (fun r_8 u t H1 locs ht hvm hw hB hz1 hk1 hS => ?_)
        have h := hw
        obtain ⟨hP1, hK1, hD1⟩ := hB
        rw [ht] at hP1
        obtain ⟨hP, hD⟩ := mJoin (wr := ([] : va_W)) (w1 := (sh_M cs adM mpM mkM mgM mcM mwM mfM mtM mhM mmM mdM mxM mnM szM faM apM waM wrM fuM)) (w' := (sh_M cs adM mpM mkM mgM mcM mwM mfM mtM mhM mmM mdM mxM mnM szM faM apM waM wrM fuM)) hP hD [0, 1, 2, 3, 4, 5, 6, 7, 8, 9, 10, 11, 12] [] rfl rfl (by decide) (by decide) hk1 hFc hP1 hD1 [0, 1, 2, 3, 4, 5, 6, 7, 8, 9, 10, 11, 12] (by decide) rfl
        generalize H1 = H at hP hS ⊢
        refine lv_if_eq (tgt := 128) hx hb dX6_isAllowed_95 (by decide) (fun c_9 => ?_) (fun c_9 => ?_)
        · have h := h.1 c_9
          refine lv_iconst (v := 0) hx hb dX6_isAllowed_128 (by decide) ?_
          exact W.zret (v := 0) hx hb hr (by decide) (fun t ht hW => ⟨⟨0, (), rfl, h, by rw [ht]; exact hP, va_K.moved hW.alike hK, hD⟩, hS.F ht⟩) hS.2.2 dX6_isAllowed_129
        · have h := h.2 c_9
          refine lv_iload_n hx hb dX6_isAllowed_98 rfl (lv_at hl 3 rfl) ?_
          refine lv_iload hx hb dX6_isAllowed_99 (lv_at hl 4 rfl) ?_
          refine lv_icmp_eq (tgt := 128) hx hb dX6_isAllowed_101 (by decide) (fun c_10 => ?_) (fun c_10 => ?_)
          · have h := h.1 c_10
            refine lv_iconst (v := 0) hx hb dX6_isAllowed_128 (by decide) ?_
            exact W.zret (v := 0) hx hb hr (by decide) (fun t ht hW => ⟨⟨0, (), rfl, h, by rw [ht]; exact hP, va_K.moved hW.alike hK, hD⟩, hS.F ht⟩) hS.2.2 dX6_isAllowed_129
          · have h := h.2 c_10
            refine lv_aload_n hx hb dX6_isAllowed_104 rfl (lv_at hl 0 rfl) ?_
            refine va_get (D := D) (ci := 5) (v := .ref (adM 4)) (C := RX6) (T := TX6) (N := 18) hx hb hts (by decide +kernel) hown hK hP 0 rfl rfl 3 (by decide) (hts (.fieldLink RX6 19 "PartGraphsModel" "covers" "[Z") (by decide +kernel)) (fun _ h9 => h9) rfl dX6_isAllowed_105 ?_
            refine lv_bipush (v := 100) hx hb dX6_isAllowed_108 (by decide) ?_
            refine lv_iload_n hx hb dX6_isAllowed_110 rfl (lv_at hl 1 rfl) ?_
            refine lv_imul hx hb dX6_isAllowed_111 ?_
            refine lv_bipush (v := 10) hx hb dX6_isAllowed_112 (by decide) ?_
            refine lv_iload_n hx hb dX6_isAllowed_114 rfl (lv_at hl 3 rfl) ?_
            refine lv_imul hx hb dX6_isAllowed_115 ?_
            refine lv_iadd hx hb dX6_isAllowed_116 ?_
            refine lv_iload hx hb dX6_isAllowed_117 (lv_at hl 4 rfl) ?_
            refine lv_iadd hx hb dX6_isAllowed_119 ?_
            have hin := h.1
            have h := h.2
            refine va_zald (D := D) (cl := vwCl) hx hb hK hP 4 4 rfl rfl hin dX6_isAllowed_120 ?_
            refine lv_if_ne (tgt := 128) hx hb dX6_isAllowed_121 (by decide) (fun c_11 => ?_) (fun c_11 => ?_)
            · have h := h.2 c_11
              refine lv_iconst (v := 0) hx hb dX6_isAllowed_128 (by decide) ?_
              exact W.zret (v := 0) hx hb hr (by decide) (fun t ht hW => ⟨⟨0, (), rfl, h, by rw [ht]; exact hP, va_K.moved hW.alike hK, hD⟩, hS.F ht⟩) hS.2.2 dX6_isAllowed_129
            · have h := h.1 c_11
              refine lv_iconst (v := 1) hx hb dX6_isAllowed_124 (by decide) ?_
              refine lv_goto (tgt := 129) hx hb dX6_isAllowed_125 (by decide) ?_
              exact W.zret (v := 1) hx hb hr (by decide) (fun t ht hW => ⟨⟨1, (), rfl, h, by rw [ht]; exact hP, va_K.moved hW.alike hK, hD⟩, hS.F ht⟩) hS.2.2 dX6_isAllowed_129
    · have h := h.2 cs_1
      by_cases cs_2 : p2 = 2
      · have h := h.1 cs_2
        refine lv_tableIn (tgt := 130) hx hb dX6_isAllowed_1 (by rw [cs_2]; decide) (by rw [cs_2]; decide) (by rw [cs_2]; rfl) (by decide) ?_
        refine lv_aload_n hx hb dX6_isAllowed_130 rfl (lv_at hl 0 rfl) ?_
        refine lv_iload_n hx hb dX6_isAllowed_131 rfl (lv_at hl 1 rfl) ?_
        refine lv_iload_n hx hb dX6_isAllowed_132 rfl (lv_at hl 3 rfl) ?_
        have hFc := va_free (wc := (sh_M cs adM mpM mkM mgM mcM mwM mfM mtM mhM mmM mdM mxM mnM szM faM apM waM wrM fuM)) hD hS hA [0, 1, 2, 3, 4, 5, 6, 7, 8, 9, 10, 11, 12] rfl
        refine va_calli (va_runV (As := [.int p1, .int p3]) (rest := []) ⟨hx, hb, hml, hown, hts⟩ (met_X6_isPart l D cs ev _ adM mpM mkM mgM mcM mwM mfM mtM mhM mmM mdM mxM mnM szM faM apM waM wrM fuM p1 p3 _ h) (cwV 2 hts gX6_isAllowed_X6_isPart rfl rfl rfl (by decide +kernel) ⟨Nat.le_of_ble_eq_true rfl, Nat.le_of_ble_eq_true rfl⟩) (mPreV (va_recv hK hP (ci := 5) (q0 := 0) rfl rfl) hP hD hS hK hE hFc [0, 1, 2, 3, 4, 5, 6, 7, 8, 9, 10, 11, 12] (by decide) rfl) rfl rfl hl.1 rfl (lv_room (Nat.le_of_ble_eq_true rfl)) dX6_isAllowed_133 ⟨Nat.le_of_ble_eq_true rfl, Nat.le_of_ble_eq_true rfl⟩) hS (fun q _ h => hFc q h) hFc (fun r_12 u t H1 locs ht hvm hw hB hz1 hk1 hS => ?_)
        have h := hw
        obtain ⟨hP1, hK1, hD1⟩ := hB
        rw [ht] at hP1
        obtain ⟨hP, hD⟩ := mJoin (wr := ([] : va_W)) (w1 := (sh_M cs adM mpM mkM mgM mcM mwM mfM mtM mhM mmM mdM mxM mnM szM faM apM waM wrM fuM)) (w' := (sh_M cs adM mpM mkM mgM mcM mwM mfM mtM mhM mmM mdM mxM mnM szM faM apM waM wrM fuM)) hP hD [0, 1, 2, 3, 4, 5, 6, 7, 8, 9, 10, 11, 12] [] rfl rfl (by decide) (by decide) hk1 hFc hP1 hD1 [0, 1, 2, 3, 4, 5, 6, 7, 8, 9, 10, 11, 12] (by decide) rfl
        generalize H1 = H at hP hS ⊢
        refine lv_if_eq (tgt := 188) hx hb dX6_isAllowed_136 (by decide) (fun c_13 => ?_) (fun c_13 => ?_)
        · have h := h.1 c_13
          refine lv_iconst (v := 0) hx hb dX6_isAllowed_188 (by decide) ?_
          exact W.zret (v := 0) hx hb hr (by decide) (fun t ht hW => ⟨⟨0, (), rfl, h, by rw [ht]; exact hP, va_K.moved hW.alike hK, hD⟩, hS.F ht⟩) hS.2.2 dX6_isAllowed_189
        · have h := h.2 c_13
          refine lv_iload hx hb dX6_isAllowed_139 (lv_at hl 4 rfl) ?_
          refine lv_if_lt (tgt := 188) hx hb dX6_isAllowed_141 (by decide) (fun c_14 => ?_) (fun c_14 => ?_)
          · have h := h.1 c_14
            refine lv_iconst (v := 0) hx hb dX6_isAllowed_188 (by decide) ?_
            exact W.zret (v := 0) hx hb hr (by decide) (fun t ht hW => ⟨⟨0, (), rfl, h, by rw [ht]; exact hP, va_K.moved hW.alike hK, hD⟩, hS.F ht⟩) hS.2.2 dX6_isAllowed_189
          · have h := h.2 c_14
            refine lv_iload hx hb dX6_isAllowed_144 (lv_at hl 4 rfl) ?_
            refine lv_bipush (v := 6) hx hb dX6_isAllowed_146 (by decide) ?_
            refine lv_icmp_ge (tgt := 188) hx hb dX6_isAllowed_148 (by decide) (fun c_15 => ?_) (fun c_15 => ?_)
            · have h := h.1 c_15
              refine lv_iconst (v := 0) hx hb dX6_isAllowed_188 (by decide) ?_
              exact W.zret (v := 0) hx hb hr (by decide) (fun t ht hW => ⟨⟨0, (), rfl, h, by rw [ht]; exact hP, va_K.moved hW.alike hK, hD⟩, hS.F ht⟩) hS.2.2 dX6_isAllowed_189
            · have h := h.2 c_15
              refine lv_aload_n hx hb dX6_isAllowed_151 rfl (lv_at hl 0 rfl) ?_
              refine lv_iload_n hx hb dX6_isAllowed_152 rfl (lv_at hl 1 rfl) ?_
              refine lv_iload hx hb dX6_isAllowed_153 (lv_at hl 5 rfl) ?_
              have hFc := va_free (wc := (sh_M cs adM mpM mkM mgM mcM mwM mfM mtM mhM mmM mdM mxM mnM szM faM apM waM wrM fuM)) hD hS hA [0, 1, 2, 3, 4, 5, 6, 7, 8, 9, 10, 11, 12] rfl
              refine va_calli (va_runV (As := [.int p1, .int p5]) (rest := []) ⟨hx, hb, hml, hown, hts⟩ (met_X6_isPart l D cs ev _ adM mpM mkM mgM mcM mwM mfM mtM mhM mmM mdM mxM mnM szM faM apM waM wrM fuM p1 p5 _ h) (cwV 2 hts gX6_isAllowed_X6_isPart rfl rfl rfl (by decide +kernel) ⟨Nat.le_of_ble_eq_true rfl, Nat.le_of_ble_eq_true rfl⟩) (mPreV (va_recv hK hP (ci := 5) (q0 := 0) rfl rfl) hP hD hS hK hE hFc [0, 1, 2, 3, 4, 5, 6, 7, 8, 9, 10, 11, 12] (by decide) rfl) rfl rfl hl.1 rfl (lv_room (Nat.le_of_ble_eq_true rfl)) dX6_isAllowed_155 ⟨Nat.le_of_ble_eq_true rfl, Nat.le_of_ble_eq_true rfl⟩) hS (fun q _ h => hFc q h) hFc (fun r_16 u t H1 locs ht hvm hw hB hz1 hk1 hS => ?_)
              have h := hw
              obtain ⟨hP1, hK1, hD1⟩ := hB
              rw [ht] at hP1
              obtain ⟨hP, hD⟩ := mJoin (wr := ([] : va_W)) (w1 := (sh_M cs adM mpM mkM mgM mcM mwM mfM mtM mhM mmM mdM mxM mnM szM faM apM waM wrM fuM)) (w' := (sh_M cs adM mpM mkM mgM mcM mwM mfM mtM mhM mmM mdM mxM mnM szM faM apM waM wrM fuM)) hP hD [0, 1, 2, 3, 4, 5, 6, 7, 8, 9, 10, 11, 12] [] rfl rfl (by decide) (by decide) hk1 hFc hP1 hD1 [0, 1, 2, 3, 4, 5, 6, 7, 8, 9, 10, 11, 12] (by decide) rfl
              generalize H1 = H at hP hS ⊢
              refine lv_if_eq (tgt := 188) hx hb dX6_isAllowed_158 (by decide) (fun c_17 => ?_) (fun c_17 => ?_)
              · have h := h.1 c_17
                refine lv_iconst (v := 0) hx hb dX6_isAllowed_188 (by decide) ?_
                exact W.zret (v := 0) hx hb hr (by decide) (fun t ht hW => ⟨⟨0, (), rfl, h, by rw [ht]; exact hP, va_K.moved hW.alike hK, hD⟩, hS.F ht⟩) hS.2.2 dX6_isAllowed_189
              · have h := h.2 c_17
                refine lv_iload_n hx hb dX6_isAllowed_161 rfl (lv_at hl 3 rfl) ?_
                refine lv_iload hx hb dX6_isAllowed_162 (lv_at hl 5 rfl) ?_
                refine lv_icmp_eq (tgt := 188) hx hb dX6_isAllowed_164 (by decide) (fun c_18 => ?_) (fun c_18 => ?_)
                · have h := h.1 c_18
                  refine lv_iconst (v := 0) hx hb dX6_isAllowed_188 (by decide) ?_
                  exact W.zret (v := 0) hx hb hr (by decide) (fun t ht hW => ⟨⟨0, (), rfl, h, by rw [ht]; exact hP, va_K.moved hW.alike hK, hD⟩, hS.F ht⟩) hS.2.2 dX6_isAllowed_189
                · have h := h.2 c_18
                  refine lv_aload_n hx hb dX6_isAllowed_167 rfl (lv_at hl 0 rfl) ?_
                  refine va_get (D := D) (ci := 5) (v := .ref (adM 5)) (C := RX6) (T := TX6) (N := 18) hx hb hts (by decide +kernel) hown hK hP 0 rfl rfl 4 (by decide) (hts (.fieldLink RX6 23 "PartGraphsModel" "ways" "[Z") (by decide +kernel)) (fun _ h9 => h9) rfl dX6_isAllowed_168 ?_
                  refine lv_iload_n hx hb dX6_isAllowed_171 rfl (lv_at hl 1 rfl) ?_
                  refine lv_iload_n hx hb dX6_isAllowed_172 rfl (lv_at hl 3 rfl) ?_
                  refine lv_iload hx hb dX6_isAllowed_173 (lv_at hl 4 rfl) ?_
                  refine lv_iload hx hb dX6_isAllowed_175 (lv_at hl 5 rfl) ?_
                  have hFc := va_free (wc := ([] : va_W)) hD hS hA [] rfl
                  refine va_calli (va_runS (As := [.int p1, .int p3, .int p4, .int p5]) (rest := [.ref (adM 5)]) ⟨hx, hb, hml, hown, hts⟩ (met_X6_wayAt l D cs ev _ p1 p3 p4 p5 _ h) (va_cwS 4 hts gX6_isAllowed_X6_wayAt rfl rfl rfl (by decide +kernel) ⟨Nat.le_of_ble_eq_true rfl, Nat.le_of_ble_eq_true rfl⟩) (mPreS hP hD hS hK hE hFc [] (by decide) rfl) rfl rfl hl.1 rfl (lv_room (Nat.le_of_ble_eq_true rfl)) dX6_isAllowed_177 ⟨Nat.le_of_ble_eq_true rfl, Nat.le_of_ble_eq_true rfl⟩) hS (fun q _ h => hFc q h) hFc (fun r_19 u t H1 locs ht hvm hw hB hz1 hk1 hS => ?_)
                  have h := hw
                  obtain ⟨hP1, hK1, hD1⟩ := hB
                  rw [ht] at hP1
                  obtain ⟨hP, hD⟩ := mJoin (wr := (sh_M cs adM mpM mkM mgM mcM mwM mfM mtM mhM mmM mdM mxM mnM szM faM apM waM wrM fuM)) (w1 := ([] : va_W)) (w' := (sh_M cs adM mpM mkM mgM mcM mwM mfM mtM mhM mmM mdM mxM mnM szM faM apM waM wrM fuM)) hP hD [] [0, 1, 2, 3, 4, 5, 6, 7, 8, 9, 10, 11, 12] rfl rfl (by decide) (by decide) hk1 hFc hP1 hD1 [0, 1, 2, 3, 4, 5, 6, 7, 8, 9, 10, 11, 12] (by decide) rfl
                  generalize H1 = H at hP hS ⊢
                  have hin := h.1
                  have h := h.2
                  refine va_zald (D := D) (cl := vwCl) hx hb hK hP 5 4 rfl rfl hin dX6_isAllowed_180 ?_
                  refine lv_if_ne (tgt := 188) hx hb dX6_isAllowed_181 (by decide) (fun c_20 => ?_) (fun c_20 => ?_)
                  · have h := h.2 c_20
                    refine lv_iconst (v := 0) hx hb dX6_isAllowed_188 (by decide) ?_
                    exact W.zret (v := 0) hx hb hr (by decide) (fun t ht hW => ⟨⟨0, (), rfl, h, by rw [ht]; exact hP, va_K.moved hW.alike hK, hD⟩, hS.F ht⟩) hS.2.2 dX6_isAllowed_189
                  · have h := h.1 c_20
                    refine lv_iconst (v := 1) hx hb dX6_isAllowed_184 (by decide) ?_
                    refine lv_goto (tgt := 189) hx hb dX6_isAllowed_185 (by decide) ?_
                    exact W.zret (v := 1) hx hb hr (by decide) (fun t ht hW => ⟨⟨1, (), rfl, h, by rw [ht]; exact hP, va_K.moved hW.alike hK, hD⟩, hS.F ht⟩) hS.2.2 dX6_isAllowed_189
      · have h := h.2 cs_2
        by_cases cs_3 : p2 = 3
        · have h := h.1 cs_3
          refine lv_tableIn (tgt := 190) hx hb dX6_isAllowed_1 (by rw [cs_3]; decide) (by rw [cs_3]; decide) (by rw [cs_3]; rfl) (by decide) ?_
          refine lv_aload_n hx hb dX6_isAllowed_190 rfl (lv_at hl 0 rfl) ?_
          refine va_get (D := D) (ci := 5) (v := .ref (adM 6)) (C := RX6) (T := TX6) (N := 18) hx hb hts (by decide +kernel) hown hK hP 0 rfl rfl 5 (by decide) (hts (.fieldLink RX6 26 "PartGraphsModel" "fastenings" "[I") (by decide +kernel)) (fun _ h9 => h9) rfl dX6_isAllowed_191 ?_
          refine lv_iload_n hx hb dX6_isAllowed_194 rfl (lv_at hl 1 rfl) ?_
          have hin := h.1
          have h := h.2
          refine va_iald (D := D) (cl := vwCl) hx hb hK hP 6 0 rfl rfl hin dX6_isAllowed_195 ?_
          refine lv_bipush (v := 20) hx hb dX6_isAllowed_196 (by decide) ?_
          refine lv_icmp_ge (tgt := 241) hx hb dX6_isAllowed_198 (by decide) (fun c_21 => ?_) (fun c_21 => ?_)
          · have h := h.1 c_21
            refine lv_iconst (v := 0) hx hb dX6_isAllowed_241 (by decide) ?_
            exact W.zret (v := 0) hx hb hr (by decide) (fun t ht hW => ⟨⟨0, (), rfl, h, by rw [ht]; exact hP, va_K.moved hW.alike hK, hD⟩, hS.F ht⟩) hS.2.2 dX6_isAllowed_242
          · have h := h.2 c_21
            refine lv_aload_n hx hb dX6_isAllowed_201 rfl (lv_at hl 0 rfl) ?_
            refine lv_iload_n hx hb dX6_isAllowed_202 rfl (lv_at hl 1 rfl) ?_
            refine lv_iload_n hx hb dX6_isAllowed_203 rfl (lv_at hl 3 rfl) ?_
            have hFc := va_free (wc := (sh_M cs adM mpM mkM mgM mcM mwM mfM mtM mhM mmM mdM mxM mnM szM faM apM waM wrM fuM)) hD hS hA [0, 1, 2, 3, 4, 5, 6, 7, 8, 9, 10, 11, 12] rfl
            refine va_calli (va_runV (As := [.int p1, .int p3]) (rest := []) ⟨hx, hb, hml, hown, hts⟩ (met_X6_isPart l D cs ev _ adM mpM mkM mgM mcM mwM mfM mtM mhM mmM mdM mxM mnM szM faM apM waM wrM fuM p1 p3 _ h) (cwV 2 hts gX6_isAllowed_X6_isPart rfl rfl rfl (by decide +kernel) ⟨Nat.le_of_ble_eq_true rfl, Nat.le_of_ble_eq_true rfl⟩) (mPreV (va_recv hK hP (ci := 5) (q0 := 0) rfl rfl) hP hD hS hK hE hFc [0, 1, 2, 3, 4, 5, 6, 7, 8, 9, 10, 11, 12] (by decide) rfl) rfl rfl hl.1 rfl (lv_room (Nat.le_of_ble_eq_true rfl)) dX6_isAllowed_204 ⟨Nat.le_of_ble_eq_true rfl, Nat.le_of_ble_eq_true rfl⟩) hS (fun q _ h => hFc q h) hFc (fun r_22 u t H1 locs ht hvm hw hB hz1 hk1 hS => ?_)
            have h := hw
            obtain ⟨hP1, hK1, hD1⟩ := hB
            rw [ht] at hP1
            obtain ⟨hP, hD⟩ := mJoin (wr := ([] : va_W)) (w1 := (sh_M cs adM mpM mkM mgM mcM mwM mfM mtM mhM mmM mdM mxM mnM szM faM apM waM wrM fuM)) (w' := (sh_M cs adM mpM mkM mgM mcM mwM mfM mtM mhM mmM mdM mxM mnM szM faM apM waM wrM fuM)) hP hD [0, 1, 2, 3, 4, 5, 6, 7, 8, 9, 10, 11, 12] [] rfl rfl (by decide) (by decide) hk1 hFc hP1 hD1 [0, 1, 2, 3, 4, 5, 6, 7, 8, 9, 10, 11, 12] (by decide) rfl
            generalize H1 = H at hP hS ⊢
            refine lv_if_eq (tgt := 241) hx hb dX6_isAllowed_207 (by decide) (fun c_23 => ?_) (fun c_23 => ?_)
            · have h := h.1 c_23
              refine lv_iconst (v := 0) hx hb dX6_isAllowed_241 (by decide) ?_
              exact W.zret (v := 0) hx hb hr (by decide) (fun t ht hW => ⟨⟨0, (), rfl, h, by rw [ht]; exact hP, va_K.moved hW.alike hK, hD⟩, hS.F ht⟩) hS.2.2 dX6_isAllowed_242
            · have h := h.2 c_23
              refine lv_aload_n hx hb dX6_isAllowed_210 rfl (lv_at hl 0 rfl) ?_
              refine lv_iload_n hx hb dX6_isAllowed_211 rfl (lv_at hl 1 rfl) ?_
              refine lv_iload hx hb dX6_isAllowed_212 (lv_at hl 4 rfl) ?_
              have hFc := va_free (wc := (sh_M cs adM mpM mkM mgM mcM mwM mfM mtM mhM mmM mdM mxM mnM szM faM apM waM wrM fuM)) hD hS hA [0, 1, 2, 3, 4, 5, 6, 7, 8, 9, 10, 11, 12] rfl
              refine va_calli (va_runV (As := [.int p1, .int p4]) (rest := []) ⟨hx, hb, hml, hown, hts⟩ (met_X6_isPart l D cs ev _ adM mpM mkM mgM mcM mwM mfM mtM mhM mmM mdM mxM mnM szM faM apM waM wrM fuM p1 p4 _ h) (cwV 2 hts gX6_isAllowed_X6_isPart rfl rfl rfl (by decide +kernel) ⟨Nat.le_of_ble_eq_true rfl, Nat.le_of_ble_eq_true rfl⟩) (mPreV (va_recv hK hP (ci := 5) (q0 := 0) rfl rfl) hP hD hS hK hE hFc [0, 1, 2, 3, 4, 5, 6, 7, 8, 9, 10, 11, 12] (by decide) rfl) rfl rfl hl.1 rfl (lv_room (Nat.le_of_ble_eq_true rfl)) dX6_isAllowed_214 ⟨Nat.le_of_ble_eq_true rfl, Nat.le_of_ble_eq_true rfl⟩) hS (fun q _ h => hFc q h) hFc (fun r_24 u t H1 locs ht hvm hw hB hz1 hk1 hS => ?_)
              have h := hw
              obtain ⟨hP1, hK1, hD1⟩ := hB
              rw [ht] at hP1
              obtain ⟨hP, hD⟩ := mJoin (wr := ([] : va_W)) (w1 := (sh_M cs adM mpM mkM mgM mcM mwM mfM mtM mhM mmM mdM mxM mnM szM faM apM waM wrM fuM)) (w' := (sh_M cs adM mpM mkM mgM mcM mwM mfM mtM mhM mmM mdM mxM mnM szM faM apM waM wrM fuM)) hP hD [0, 1, 2, 3, 4, 5, 6, 7, 8, 9, 10, 11, 12] [] rfl rfl (by decide) (by decide) hk1 hFc hP1 hD1 [0, 1, 2, 3, 4, 5, 6, 7, 8, 9, 10, 11, 12] (by decide) rfl
              generalize H1 = H at hP hS ⊢
              refine lv_if_eq (tgt := 241) hx hb dX6_isAllowed_217 (by decide) (fun c_25 => ?_) (fun c_25 => ?_)
              · have h := h.1 c_25
                refine lv_iconst (v := 0) hx hb dX6_isAllowed_241 (by decide) ?_
                exact W.zret (v := 0) hx hb hr (by decide) (fun t ht hW => ⟨⟨0, (), rfl, h, by rw [ht]; exact hP, va_K.moved hW.alike hK, hD⟩, hS.F ht⟩) hS.2.2 dX6_isAllowed_242
              · have h := h.2 c_25
                refine lv_iload_n hx hb dX6_isAllowed_220 rfl (lv_at hl 3 rfl) ?_
                refine lv_iload hx hb dX6_isAllowed_221 (lv_at hl 4 rfl) ?_
                refine lv_icmp_eq (tgt := 241) hx hb dX6_isAllowed_223 (by decide) (fun c_26 => ?_) (fun c_26 => ?_)
                · have h := h.1 c_26
                  refine lv_iconst (v := 0) hx hb dX6_isAllowed_241 (by decide) ?_
                  exact W.zret (v := 0) hx hb hr (by decide) (fun t ht hW => ⟨⟨0, (), rfl, h, by rw [ht]; exact hP, va_K.moved hW.alike hK, hD⟩, hS.F ht⟩) hS.2.2 dX6_isAllowed_242
                · have h := h.2 c_26
                  refine lv_iload hx hb dX6_isAllowed_226 (lv_at hl 5 rfl) ?_
                  refine lv_if_lt (tgt := 241) hx hb dX6_isAllowed_228 (by decide) (fun c_27 => ?_) (fun c_27 => ?_)
                  · have h := h.1 c_27
                    refine lv_iconst (v := 0) hx hb dX6_isAllowed_241 (by decide) ?_
                    exact W.zret (v := 0) hx hb hr (by decide) (fun t ht hW => ⟨⟨0, (), rfl, h, by rw [ht]; exact hP, va_K.moved hW.alike hK, hD⟩, hS.F ht⟩) hS.2.2 dX6_isAllowed_242
                  · have h := h.2 c_27
                    refine lv_iload hx hb dX6_isAllowed_231 (lv_at hl 5 rfl) ?_
                    refine lv_iconst (v := 4) hx hb dX6_isAllowed_233 (by decide) ?_
                    refine lv_icmp_ge (tgt := 241) hx hb dX6_isAllowed_234 (by decide) (fun c_28 => ?_) (fun c_28 => ?_)
                    · have h := h.1 c_28
                      refine lv_iconst (v := 0) hx hb dX6_isAllowed_241 (by decide) ?_
                      exact W.zret (v := 0) hx hb hr (by decide) (fun t ht hW => ⟨⟨0, (), rfl, h, by rw [ht]; exact hP, va_K.moved hW.alike hK, hD⟩, hS.F ht⟩) hS.2.2 dX6_isAllowed_242
                    · have h := h.2 c_28
                      refine lv_iconst (v := 1) hx hb dX6_isAllowed_237 (by decide) ?_
                      refine lv_goto (tgt := 242) hx hb dX6_isAllowed_238 (by decide) ?_
                      exact W.zret (v := 1) hx hb hr (by decide) (fun t ht hW => ⟨⟨1, (), rfl, h, by rw [ht]; exact hP, va_K.moved hW.alike hK, hD⟩, hS.F ht⟩) hS.2.2 dX6_isAllowed_242
        · have h := h.2 cs_3
          by_cases cs_4 : p2 = 4
          · have h := h.1 cs_4
            refine lv_tableIn (tgt := 243) hx hb dX6_isAllowed_1 (by rw [cs_4]; decide) (by rw [cs_4]; decide) (by rw [cs_4]; rfl) (by decide) ?_
            refine lv_aload_n hx hb dX6_isAllowed_243 rfl (lv_at hl 0 rfl) ?_
            refine lv_iload_n hx hb dX6_isAllowed_244 rfl (lv_at hl 1 rfl) ?_
            refine lv_iload_n hx hb dX6_isAllowed_245 rfl (lv_at hl 3 rfl) ?_
            have hFc := va_free (wc := (sh_M cs adM mpM mkM mgM mcM mwM mfM mtM mhM mmM mdM mxM mnM szM faM apM waM wrM fuM)) hD hS hA [0, 1, 2, 3, 4, 5, 6, 7, 8, 9, 10, 11, 12] rfl
            refine va_calli (va_runV (As := [.int p1, .int p3]) (rest := []) ⟨hx, hb, hml, hown, hts⟩ (met_X6_isPart l D cs ev _ adM mpM mkM mgM mcM mwM mfM mtM mhM mmM mdM mxM mnM szM faM apM waM wrM fuM p1 p3 _ h) (cwV 2 hts gX6_isAllowed_X6_isPart rfl rfl rfl (by decide +kernel) ⟨Nat.le_of_ble_eq_true rfl, Nat.le_of_ble_eq_true rfl⟩) (mPreV (va_recv hK hP (ci := 5) (q0 := 0) rfl rfl) hP hD hS hK hE hFc [0, 1, 2, 3, 4, 5, 6, 7, 8, 9, 10, 11, 12] (by decide) rfl) rfl rfl hl.1 rfl (lv_room (Nat.le_of_ble_eq_true rfl)) dX6_isAllowed_246 ⟨Nat.le_of_ble_eq_true rfl, Nat.le_of_ble_eq_true rfl⟩) hS (fun q _ h => hFc q h) hFc (fun r_29 u t H1 locs ht hvm hw hB hz1 hk1 hS => ?_)
            have h := hw
            obtain ⟨hP1, hK1, hD1⟩ := hB
            rw [ht] at hP1
            obtain ⟨hP, hD⟩ := mJoin (wr := ([] : va_W)) (w1 := (sh_M cs adM mpM mkM mgM mcM mwM mfM mtM mhM mmM mdM mxM mnM szM faM apM waM wrM fuM)) (w' := (sh_M cs adM mpM mkM mgM mcM mwM mfM mtM mhM mmM mdM mxM mnM szM faM apM waM wrM fuM)) hP hD [0, 1, 2, 3, 4, 5, 6, 7, 8, 9, 10, 11, 12] [] rfl rfl (by decide) (by decide) hk1 hFc hP1 hD1 [0, 1, 2, 3, 4, 5, 6, 7, 8, 9, 10, 11, 12] (by decide) rfl
            generalize H1 = H at hP hS ⊢
            refine lv_if_eq (tgt := 288) hx hb dX6_isAllowed_249 (by decide) (fun c_30 => ?_) (fun c_30 => ?_)
            · have h := h.1 c_30
              refine lv_iconst (v := 0) hx hb dX6_isAllowed_288 (by decide) ?_
              exact W.zret (v := 0) hx hb hr (by decide) (fun t ht hW => ⟨⟨0, (), rfl, h, by rw [ht]; exact hP, va_K.moved hW.alike hK, hD⟩, hS.F ht⟩) hS.2.2 dX6_isAllowed_289
            · have h := h.2 c_30
              refine lv_iload hx hb dX6_isAllowed_252 (lv_at hl 4 rfl) ?_
              refine lv_if_lt (tgt := 288) hx hb dX6_isAllowed_254 (by decide) (fun c_31 => ?_) (fun c_31 => ?_)
              · have h := h.1 c_31
                refine lv_iconst (v := 0) hx hb dX6_isAllowed_288 (by decide) ?_
                exact W.zret (v := 0) hx hb hr (by decide) (fun t ht hW => ⟨⟨0, (), rfl, h, by rw [ht]; exact hP, va_K.moved hW.alike hK, hD⟩, hS.F ht⟩) hS.2.2 dX6_isAllowed_289
              · have h := h.2 c_31
                refine lv_iload hx hb dX6_isAllowed_257 (lv_at hl 4 rfl) ?_
                refine lv_bipush (v := 8) hx hb dX6_isAllowed_259 (by decide) ?_
                refine lv_icmp_ge (tgt := 288) hx hb dX6_isAllowed_261 (by decide) (fun c_32 => ?_) (fun c_32 => ?_)
                · have h := h.1 c_32
                  refine lv_iconst (v := 0) hx hb dX6_isAllowed_288 (by decide) ?_
                  exact W.zret (v := 0) hx hb hr (by decide) (fun t ht hW => ⟨⟨0, (), rfl, h, by rw [ht]; exact hP, va_K.moved hW.alike hK, hD⟩, hS.F ht⟩) hS.2.2 dX6_isAllowed_289
                · have h := h.2 c_32
                  refine lv_aload_n hx hb dX6_isAllowed_264 rfl (lv_at hl 0 rfl) ?_
                  refine va_get (D := D) (ci := 5) (v := .ref (adM 8)) (C := RX6) (T := TX6) (N := 18) hx hb hts (by decide +kernel) hown hK hP 0 rfl rfl 7 (by decide) (hts (.fieldLink RX6 32 "PartGraphsModel" "hazards" "[Z") (by decide +kernel)) (fun _ h9 => h9) rfl dX6_isAllowed_265 ?_
                  refine lv_bipush (v := 80) hx hb dX6_isAllowed_268 (by decide) ?_
                  refine lv_iload_n hx hb dX6_isAllowed_270 rfl (lv_at hl 1 rfl) ?_
                  refine lv_imul hx hb dX6_isAllowed_271 ?_
                  refine lv_bipush (v := 8) hx hb dX6_isAllowed_272 (by decide) ?_
                  refine lv_iload_n hx hb dX6_isAllowed_274 rfl (lv_at hl 3 rfl) ?_
                  refine lv_imul hx hb dX6_isAllowed_275 ?_
                  refine lv_iadd hx hb dX6_isAllowed_276 ?_
                  refine lv_iload hx hb dX6_isAllowed_277 (lv_at hl 4 rfl) ?_
                  refine lv_iadd hx hb dX6_isAllowed_279 ?_
                  have hin := h.1
                  have h := h.2
                  refine va_zald (D := D) (cl := vwCl) hx hb hK hP 8 4 rfl rfl hin dX6_isAllowed_280 ?_
                  refine lv_if_ne (tgt := 288) hx hb dX6_isAllowed_281 (by decide) (fun c_33 => ?_) (fun c_33 => ?_)
                  · have h := h.2 c_33
                    refine lv_iconst (v := 0) hx hb dX6_isAllowed_288 (by decide) ?_
                    exact W.zret (v := 0) hx hb hr (by decide) (fun t ht hW => ⟨⟨0, (), rfl, h, by rw [ht]; exact hP, va_K.moved hW.alike hK, hD⟩, hS.F ht⟩) hS.2.2 dX6_isAllowed_289
                  · have h := h.1 c_33
                    refine lv_iconst (v := 1) hx hb dX6_isAllowed_284 (by decide) ?_
                    refine lv_goto (tgt := 289) hx hb dX6_isAllowed_285 (by decide) ?_
                    exact W.zret (v := 1) hx hb hr (by decide) (fun t ht hW => ⟨⟨1, (), rfl, h, by rw [ht]; exact hP, va_K.moved hW.alike hK, hD⟩, hS.F ht⟩) hS.2.2 dX6_isAllowed_289
          · have h := h.2 cs_4
            by_cases cs_5 : p2 = 5
            · have h := h.1 cs_5
              refine lv_tableIn (tgt := 290) hx hb dX6_isAllowed_1 (by rw [cs_5]; decide) (by rw [cs_5]; decide) (by rw [cs_5]; rfl) (by decide) ?_
              refine lv_aload_n hx hb dX6_isAllowed_290 rfl (lv_at hl 0 rfl) ?_
              refine lv_iload_n hx hb dX6_isAllowed_291 rfl (lv_at hl 1 rfl) ?_
              refine lv_iload_n hx hb dX6_isAllowed_292 rfl (lv_at hl 3 rfl) ?_
              have hFc := va_free (wc := (sh_M cs adM mpM mkM mgM mcM mwM mfM mtM mhM mmM mdM mxM mnM szM faM apM waM wrM fuM)) hD hS hA [0, 1, 2, 3, 4, 5, 6, 7, 8, 9, 10, 11, 12] rfl
              refine va_calli (va_runV (As := [.int p1, .int p3]) (rest := []) ⟨hx, hb, hml, hown, hts⟩ (met_X6_isPart l D cs ev _ adM mpM mkM mgM mcM mwM mfM mtM mhM mmM mdM mxM mnM szM faM apM waM wrM fuM p1 p3 _ h) (cwV 2 hts gX6_isAllowed_X6_isPart rfl rfl rfl (by decide +kernel) ⟨Nat.le_of_ble_eq_true rfl, Nat.le_of_ble_eq_true rfl⟩) (mPreV (va_recv hK hP (ci := 5) (q0 := 0) rfl rfl) hP hD hS hK hE hFc [0, 1, 2, 3, 4, 5, 6, 7, 8, 9, 10, 11, 12] (by decide) rfl) rfl rfl hl.1 rfl (lv_room (Nat.le_of_ble_eq_true rfl)) dX6_isAllowed_293 ⟨Nat.le_of_ble_eq_true rfl, Nat.le_of_ble_eq_true rfl⟩) hS (fun q _ h => hFc q h) hFc (fun r_34 u t H1 locs ht hvm hw hB hz1 hk1 hS => ?_)
              have h := hw
              obtain ⟨hP1, hK1, hD1⟩ := hB
              rw [ht] at hP1
              obtain ⟨hP, hD⟩ := mJoin (wr := ([] : va_W)) (w1 := (sh_M cs adM mpM mkM mgM mcM mwM mfM mtM mhM mmM mdM mxM mnM szM faM apM waM wrM fuM)) (w' := (sh_M cs adM mpM mkM mgM mcM mwM mfM mtM mhM mmM mdM mxM mnM szM faM apM waM wrM fuM)) hP hD [0, 1, 2, 3, 4, 5, 6, 7, 8, 9, 10, 11, 12] [] rfl rfl (by decide) (by decide) hk1 hFc hP1 hD1 [0, 1, 2, 3, 4, 5, 6, 7, 8, 9, 10, 11, 12] (by decide) rfl
              generalize H1 = H at hP hS ⊢
              refine lv_if_eq (tgt := 330) hx hb dX6_isAllowed_296 (by decide) (fun c_35 => ?_) (fun c_35 => ?_)
              · have h := h.1 c_35
                refine lv_iconst (v := 0) hx hb dX6_isAllowed_330 (by decide) ?_
                exact W.zret (v := 0) hx hb hr (by decide) (fun t ht hW => ⟨⟨0, (), rfl, h, by rw [ht]; exact hP, va_K.moved hW.alike hK, hD⟩, hS.F ht⟩) hS.2.2 dX6_isAllowed_331
              · have h := h.2 c_35
                refine lv_iload hx hb dX6_isAllowed_299 (lv_at hl 4 rfl) ?_
                refine lv_if_lt (tgt := 330) hx hb dX6_isAllowed_301 (by decide) (fun c_36 => ?_) (fun c_36 => ?_)
                · have h := h.1 c_36
                  refine lv_iconst (v := 0) hx hb dX6_isAllowed_330 (by decide) ?_
                  exact W.zret (v := 0) hx hb hr (by decide) (fun t ht hW => ⟨⟨0, (), rfl, h, by rw [ht]; exact hP, va_K.moved hW.alike hK, hD⟩, hS.F ht⟩) hS.2.2 dX6_isAllowed_331
                · have h := h.2 c_36
                  refine lv_iload hx hb dX6_isAllowed_304 (lv_at hl 4 rfl) ?_
                  refine lv_iconst (v := 4) hx hb dX6_isAllowed_306 (by decide) ?_
                  refine lv_icmp_ge (tgt := 330) hx hb dX6_isAllowed_307 (by decide) (fun c_37 => ?_) (fun c_37 => ?_)
                  · have h := h.1 c_37
                    refine lv_iconst (v := 0) hx hb dX6_isAllowed_330 (by decide) ?_
                    exact W.zret (v := 0) hx hb hr (by decide) (fun t ht hW => ⟨⟨0, (), rfl, h, by rw [ht]; exact hP, va_K.moved hW.alike hK, hD⟩, hS.F ht⟩) hS.2.2 dX6_isAllowed_331
                  · have h := h.2 c_37
                    refine lv_aload_n hx hb dX6_isAllowed_310 rfl (lv_at hl 0 rfl) ?_
                    refine va_get (D := D) (ci := 5) (v := .ref (adM 9)) (C := RX6) (T := TX6) (N := 18) hx hb hts (by decide +kernel) hown hK hP 0 rfl rfl 8 (by decide) (hts (.fieldLink RX6 35 "PartGraphsModel" "families" "[I") (by decide +kernel)) (fun _ h9 => h9) rfl dX6_isAllowed_311 ?_
                    refine lv_bipush (v := 10) hx hb dX6_isAllowed_314 (by decide) ?_
                    refine lv_iload_n hx hb dX6_isAllowed_316 rfl (lv_at hl 1 rfl) ?_
                    refine lv_imul hx hb dX6_isAllowed_317 ?_
                    refine lv_iload_n hx hb dX6_isAllowed_318 rfl (lv_at hl 3 rfl) ?_
                    refine lv_iadd hx hb dX6_isAllowed_319 ?_
                    have hin := h.1
                    have h := h.2
                    refine va_iald (D := D) (cl := vwCl) hx hb hK hP 9 0 rfl rfl hin dX6_isAllowed_320 ?_
                    refine lv_iload hx hb dX6_isAllowed_321 (lv_at hl 4 rfl) ?_
                    refine lv_icmp_eq (tgt := 330) hx hb dX6_isAllowed_323 (by decide) (fun c_38 => ?_) (fun c_38 => ?_)
                    · have h := h.1 c_38
                      refine lv_iconst (v := 0) hx hb dX6_isAllowed_330 (by decide) ?_
                      exact W.zret (v := 0) hx hb hr (by decide) (fun t ht hW => ⟨⟨0, (), rfl, h, by rw [ht]; exact hP, va_K.moved hW.alike hK, hD⟩, hS.F ht⟩) hS.2.2 dX6_isAllowed_331
                    · have h := h.2 c_38
                      refine lv_iconst (v := 1) hx hb dX6_isAllowed_326 (by decide) ?_
                      refine lv_goto (tgt := 331) hx hb dX6_isAllowed_327 (by decide) ?_
                      exact W.zret (v := 1) hx hb hr (by decide) (fun t ht hW => ⟨⟨1, (), rfl, h, by rw [ht]; exact hP, va_K.moved hW.alike hK, hD⟩, hS.F ht⟩) hS.2.2 dX6_isAllowed_331
            · have h := h.2 cs_5
              refine lv_tableOut (tgt := 332) hx hb dX6_isAllowed_1 (by have q0 := lv_neT cs_0 (show (0 : Int32).toInt = 0 by decide); have q1 := lv_neT cs_1 (show (1 : Int32).toInt = 1 by decide); have q2 := lv_neT cs_2 (show (2 : Int32).toInt = 2 by decide); have q3 := lv_neT cs_3 (show (3 : Int32).toInt = 3 by decide); have q4 := lv_neT cs_4 (show (4 : Int32).toInt = 4 by decide); have q5 := lv_neT cs_5 (show (5 : Int32).toInt = 5 by decide); omega) (by decide) ?_
              refine lv_aload_n hx hb dX6_isAllowed_332 rfl (lv_at hl 0 rfl) ?_
              refine lv_iload_n hx hb dX6_isAllowed_333 rfl (lv_at hl 1 rfl) ?_
              refine lv_iload_n hx hb dX6_isAllowed_334 rfl (lv_at hl 3 rfl) ?_
              have hFc := va_free (wc := (sh_M cs adM mpM mkM mgM mcM mwM mfM mtM mhM mmM mdM mxM mnM szM faM apM waM wrM fuM)) hD hS hA [0, 1, 2, 3, 4, 5, 6, 7, 8, 9, 10, 11, 12] rfl
              refine va_calli (va_runV (As := [.int p1, .int p3]) (rest := []) ⟨hx, hb, hml, hown, hts⟩ (met_X6_isPart l D cs ev _ adM mpM mkM mgM mcM mwM mfM mtM mhM mmM mdM mxM mnM szM faM apM waM wrM fuM p1 p3 _ h) (cwV 2 hts gX6_isAllowed_X6_isPart rfl rfl rfl (by decide +kernel) ⟨Nat.le_of_ble_eq_true rfl, Nat.le_of_ble_eq_true rfl⟩) (mPreV (va_recv hK hP (ci := 5) (q0 := 0) rfl rfl) hP hD hS hK hE hFc [0, 1, 2, 3, 4, 5, 6, 7, 8, 9, 10, 11, 12] (by decide) rfl) rfl rfl hl.1 rfl (lv_room (Nat.le_of_ble_eq_true rfl)) dX6_isAllowed_335 ⟨Nat.le_of_ble_eq_true rfl, Nat.le_of_ble_eq_true rfl⟩) hS (fun q _ h => hFc q h) hFc (fun r_39 u t H1 locs ht hvm hw hB hz1 hk1 hS => ?_)
              have h := hw
              obtain ⟨hP1, hK1, hD1⟩ := hB
              rw [ht] at hP1
              obtain ⟨hP, hD⟩ := mJoin (wr := ([] : va_W)) (w1 := (sh_M cs adM mpM mkM mgM mcM mwM mfM mtM mhM mmM mdM mxM mnM szM faM apM waM wrM fuM)) (w' := (sh_M cs adM mpM mkM mgM mcM mwM mfM mtM mhM mmM mdM mxM mnM szM faM apM waM wrM fuM)) hP hD [0, 1, 2, 3, 4, 5, 6, 7, 8, 9, 10, 11, 12] [] rfl rfl (by decide) (by decide) hk1 hFc hP1 hD1 [0, 1, 2, 3, 4, 5, 6, 7, 8, 9, 10, 11, 12] (by decide) rfl
              generalize H1 = H at hP hS ⊢
              refine lv_if_eq (tgt := 356) hx hb dX6_isAllowed_338 (by decide) (fun c_40 => ?_) (fun c_40 => ?_)
              · have h := h.1 c_40
                refine lv_iconst (v := 0) hx hb dX6_isAllowed_356 (by decide) ?_
                exact W.zret (v := 0) hx hb hr (by decide) (fun t ht hW => ⟨⟨0, (), rfl, h, by rw [ht]; exact hP, va_K.moved hW.alike hK, hD⟩, hS.F ht⟩) hS.2.2 dX6_isAllowed_357
              · have h := h.2 c_40
                refine lv_iload hx hb dX6_isAllowed_341 (lv_at hl 4 rfl) ?_
                refine lv_if_lt (tgt := 356) hx hb dX6_isAllowed_343 (by decide) (fun c_41 => ?_) (fun c_41 => ?_)
                · have h := h.1 c_41
                  refine lv_iconst (v := 0) hx hb dX6_isAllowed_356 (by decide) ?_
                  exact W.zret (v := 0) hx hb hr (by decide) (fun t ht hW => ⟨⟨0, (), rfl, h, by rw [ht]; exact hP, va_K.moved hW.alike hK, hD⟩, hS.F ht⟩) hS.2.2 dX6_isAllowed_357
                · have h := h.2 c_41
                  refine lv_iload hx hb dX6_isAllowed_346 (lv_at hl 4 rfl) ?_
                  refine lv_iconst (v := 4) hx hb dX6_isAllowed_348 (by decide) ?_
                  refine lv_icmp_ge (tgt := 356) hx hb dX6_isAllowed_349 (by decide) (fun c_42 => ?_) (fun c_42 => ?_)
                  · have h := h.1 c_42
                    refine lv_iconst (v := 0) hx hb dX6_isAllowed_356 (by decide) ?_
                    exact W.zret (v := 0) hx hb hr (by decide) (fun t ht hW => ⟨⟨0, (), rfl, h, by rw [ht]; exact hP, va_K.moved hW.alike hK, hD⟩, hS.F ht⟩) hS.2.2 dX6_isAllowed_357
                  · have h := h.2 c_42
                    refine lv_iconst (v := 1) hx hb dX6_isAllowed_352 (by decide) ?_
                    refine lv_goto (tgt := 357) hx hb dX6_isAllowed_353 (by decide) ?_
                    exact W.zret (v := 1) hx hb hr (by decide) (fun t ht hW => ⟨⟨1, (), rfl, h, by rw [ht]; exact hP, va_K.moved hW.alike hK, hD⟩, hS.F ht⟩) hS.2.2 dX6_isAllowed_357
def wp_X6_make (mpM : Nat → Int32) (mkM : Nat → Int32) (mgM : Nat → Int32) (mcM : Nat → Int32) (mwM : Nat → Int32) (mfM : Nat → Int32) (mtM : Nat → Int32) (mhM : Nat → Int32) (mmM : Nat → Int32) (mdM : Nat → Int32) (p1 : Int32) (p2 : Int32) (p3 : Int32) (p4 : Int32) (p5 : Int32) (post : ((Nat → Int32) × (Nat → Int32) × (Nat → Int32) × (Nat → Int32) × (Nat → Int32) × (Nat → Int32) × (Nat → Int32) × (Nat → Int32) × (Nat → Int32) × (Nat → Int32)) → Prop) : Prop :=
    ((p2 = 0 → (vp_in p1 2 ∧ (vp_in ((10 * p1) + (mpM p1.toNatClampNeg)) 20 ∧ (vp_in p1 2 ∧ (vp_in ((10 * p1) + (mpM p1.toNatClampNeg)) 20 ∧ (vp_in p1 2 ∧ (vp_in p1 2 ∧ post (upd mpM p1.toNatClampNeg ((mpM p1.toNatClampNeg) + 1), upd mkM ((10 * p1) + (mpM p1.toNatClampNeg)).toNatClampNeg p3, upd mgM ((10 * p1) + (mpM p1.toNatClampNeg)).toNatClampNeg p4, mcM, mwM, mfM, mtM, mhM, mmM, mdM)))))))) ∧ (¬ p2 = 0 → ((p2 = 1 → (vp_in (((100 * p1) + (10 * p3)) + p4) 200 ∧ post (mpM, mkM, mgM, upd mcM (((100 * p1) + (10 * p3)) + p4).toNatClampNeg (vp_nar .boolean 1), mwM, mfM, mtM, mhM, mmM, mdM))) ∧ (¬ p2 = 1 → ((p2 = 2 → wp_X6_wayAt p1 p3 p4 p5 (fun r_1 _ => (vp_in r_1 1200 ∧ post (mpM, mkM, mgM, mcM, upd mwM r_1.toNatClampNeg (vp_nar .boolean 1), mfM, mtM, mhM, mmM, mdM)))) ∧ (¬ p2 = 2 → ((p2 = 3 → (vp_in p1 2 ∧ (vp_in ((60 * p1) + (3 * (mfM p1.toNatClampNeg))) 120 ∧ (vp_in p1 2 ∧ (vp_in (((60 * p1) + (3 * (mfM p1.toNatClampNeg))) + 1) 120 ∧ (vp_in p1 2 ∧ (vp_in (((60 * p1) + (3 * (mfM p1.toNatClampNeg))) + 2) 120 ∧ (vp_in p1 2 ∧ (vp_in p1 2 ∧ post (mpM, mkM, mgM, mcM, mwM, upd mfM p1.toNatClampNeg ((mfM p1.toNatClampNeg) + 1), upd (upd (upd mtM ((60 * p1) + (3 * (mfM p1.toNatClampNeg))).toNatClampNeg p3) (((60 * p1) + (3 * (mfM p1.toNatClampNeg))) + 1).toNatClampNeg p4) (((60 * p1) + (3 * (mfM p1.toNatClampNeg))) + 2).toNatClampNeg p5, mhM, mmM, mdM)))))))))) ∧ (¬ p2 = 3 → ((p2 = 4 → (vp_in (((80 * p1) + (8 * p3)) + p4) 160 ∧ post (mpM, mkM, mgM, mcM, mwM, mfM, mtM, upd mhM (((80 * p1) + (8 * p3)) + p4).toNatClampNeg (vp_nar .boolean 1), mmM, mdM))) ∧ (¬ p2 = 4 → ((p2 = 5 → (vp_in ((10 * p1) + p3) 20 ∧ post (mpM, mkM, mgM, mcM, mwM, mfM, mtM, mhM, upd mmM ((10 * p1) + p3).toNatClampNeg p4, mdM))) ∧ (¬ p2 = 5 → (vp_in ((10 * p1) + p3) 20 ∧ post (mpM, mkM, mgM, mcM, mwM, mfM, mtM, mhM, mmM, upd mdM ((10 * p1) + p3).toNatClampNeg p4))))))))))))))
set_option maxHeartbeats 4000000 in
set_option maxRecDepth 100000 in
theorem met_X6_make (l : Launch) (D : va_G) (cs : Nat → ClassId) (ev : Nat → Nat → Nat) (sz0 : Nat) (adM : Nat → Nat) (mpM : Nat → Int32) (mkM : Nat → Int32) (mgM : Nat → Int32) (mcM : Nat → Int32) (mwM : Nat → Int32) (mfM : Nat → Int32) (mtM : Nat → Int32) (mhM : Nat → Int32) (mmM : Nat → Int32) (mdM : Nat → Int32) (mxM : Nat → Int32) (mnM : Nat → Int32) (szM : Int32) (faM : Int32) (apM : Int32) (waM : Int32) (wrM : Int32) (fuM : Int32) (p1 : Int32) (p2 : Int32) (p3 : Int32) (p4 : Int32) (p5 : Int32) (post : ((Nat → Int32) × (Nat → Int32) × (Nat → Int32) × (Nat → Int32) × (Nat → Int32) × (Nat → Int32) × (Nat → Int32) × (Nat → Int32) × (Nat → Int32) × (Nat → Int32)) → Prop) (h : wp_X6_make mpM mkM mgM mcM mwM mfM mtM mhM mmM mdM p1 p2 p3 p4 p5 post) : Met l yX6_make wsX6_make ({ frames := 1, cells := 0, slots := 0, locals := 23 }) (va_Pc [.ref (adM 0), .int p1, .int p2, .int p3, .int p4, .int p5] (mPre D cs ev (sh_M cs adM mpM mkM mgM mcM mwM mfM mtM mhM mmM mdM mxM mnM szM faM apM waM wrM fuM) sz0)) (va_Qv post (fun u t => match u with | (mpM', mkM', mgM', mcM', mwM', mfM', mtM', mhM', mmM', mdM') => mAt D cs (va_A (sh_M cs adM mpM mkM mgM mcM mwM mfM mtM mhM mmM mdM mxM mnM szM faM apM waM wrM fuM) sz0) (sh_M cs adM mpM' mkM' mgM' mcM' mwM' mfM' mtM' mhM' mmM' mdM' mxM mnM szM faM apM waM wrM fuM) t) (va_A (sh_M cs adM mpM mkM mgM mcM mwM mfM mtM mhM mmM mdM mxM mnM szM faM apM waM wrM fuM) sz0)) 0 0 (va_A (sh_M cs adM mpM mkM mgM mcM mwM mfM mtM mhM mmM mdM mxM mnM szM faM apM waM wrM fuM) sz0) := by
  refine Met.ofW (cc := cX6_make) (maxL := 6) (ret := none) (by decide) rfl ?_
  intro p e s m args below meth c s₁ B hml hv
  obtain ⟨rfl, hsz, hP, hK, hD0, hE⟩ := hv
  have hx := B.exec
  have hb := B.bytes
  have hr := B.returns
  have hts := atoms_spec (ws := wsX6_make) B.pre
  have hown : s.vm.findClass RX6 = some m.cls := findClass_of_methodNamed B.named
  have hlocks := B.notSynchronized
  subst hsz
  have hD := hD0.self (sz := s.heap.size)
  generalize hAe : va_A (sh_M cs adM mpM mkM mgM mcM mwM mfM mtM mhM mmM mdM mxM mnM szM faM apM waM wrM fuM) s.heap.size = A at hD hE ⊢
  have hA : ∀ q : Nat, s.heap.size ≤ q → A q := fun q h => by rw [← hAe]; exact Or.inr h
  have hS : va_S A s.heap s.heap [] := va_S.rf
  have hl := lv_entry ([.ref (adM 0), .int p1, .int p2, .int p3, .int p4, .int p5]) (n := 6) (Nat.le_of_ble_eq_true rfl)
  rw [lg_entry_eq]
  generalize (lg_sl ([.ref (adM 0), .int p1, .int p2, .int p3, .int p4, .int p5]) ++ List.replicate (6 - (lg_sl ([.ref (adM 0), .int p1, .int p2, .int p3, .int p4, .int p5])).length) Slot.unset).toArray = ls at hl ⊢
  have hl : lv_has ls 6 [(0, .ref (adM 0)), (1, .int p1), (2, .int p2), (3, .int p3), (4, .int p4), (5, .int p5)] := hl
  refine lv_iload_n hx hb dX6_make_0 rfl (lv_at hl 2 rfl) ?_
  by_cases cs_0 : p2 = 0
  · have h := h.1 cs_0
    refine lv_tableIn (tgt := 40) hx hb dX6_make_1 (by rw [cs_0]; decide) (by rw [cs_0]; decide) (by rw [cs_0]; rfl) (by decide) ?_
    refine lv_aload_n hx hb dX6_make_40 rfl (lv_at hl 0 rfl) ?_
    refine va_get (D := D) (ci := 5) (v := .ref (adM 2)) (C := RX6) (T := TX6) (N := 18) hx hb hts (by decide +kernel) hown hK hP 0 rfl rfl 1 (by decide) (hts (.fieldLink RX6 13 "PartGraphsModel" "kinds" "[I") (by decide +kernel)) (fun _ h9 => h9) rfl dX6_make_41 ?_
    refine lv_bipush (v := 10) hx hb dX6_make_44 (by decide) ?_
    refine lv_iload_n hx hb dX6_make_46 rfl (lv_at hl 1 rfl) ?_
    refine lv_imul hx hb dX6_make_47 ?_
    refine lv_aload_n hx hb dX6_make_48 rfl (lv_at hl 0 rfl) ?_
    refine va_get (D := D) (ci := 5) (v := .ref (adM 1)) (C := RX6) (T := TX6) (N := 18) hx hb hts (by decide +kernel) hown hK hP 0 rfl rfl 0 (by decide) (hts (.fieldLink RX6 7 "PartGraphsModel" "parts" "[I") (by decide +kernel)) (fun _ h9 => h9) rfl dX6_make_49 ?_
    refine lv_iload_n hx hb dX6_make_52 rfl (lv_at hl 1 rfl) ?_
    have hin := h.1
    have h := h.2
    refine va_iald (D := D) (cl := vwCl) hx hb hK hP 1 0 rfl rfl hin dX6_make_53 ?_
    refine lv_iadd hx hb dX6_make_54 ?_
    refine lv_iload_n hx hb dX6_make_55 rfl (lv_at hl 3 rfl) ?_
    have hin := h.1
    have h := h.2
    refine va_iast (D := D) (cl := vwCl) hx hb hK hP hD hS 2 0 rfl rfl hin dX6_make_56 (fun H locs hP hD hS => ?_)
    have hP : va_P D vwCl (sh_M cs adM mpM (upd mkM ((10 * p1) + (mpM p1.toNatClampNeg)).toNatClampNeg p3) mgM mcM mwM mfM mtM mhM mmM mdM mxM mnM szM faM apM waM wrM fuM) H := hP
    have hD : va_D A (sh_M cs adM mpM (upd mkM ((10 * p1) + (mpM p1.toNatClampNeg)).toNatClampNeg p3) mgM mcM mwM mfM mtM mhM mmM mdM mxM mnM szM faM apM waM wrM fuM) := hD
    refine lv_aload_n hx hb dX6_make_57 rfl (lv_at hl 0 rfl) ?_
    refine va_get (D := D) (ci := 5) (v := .ref (adM 3)) (C := RX6) (T := TX6) (N := 18) hx hb hts (by decide +kernel) hown hK hP 0 rfl rfl 2 (by decide) (hts (.fieldLink RX6 16 "PartGraphsModel" "grams" "[I") (by decide +kernel)) (fun _ h9 => h9) rfl dX6_make_58 ?_
    refine lv_bipush (v := 10) hx hb dX6_make_61 (by decide) ?_
    refine lv_iload_n hx hb dX6_make_63 rfl (lv_at hl 1 rfl) ?_
    refine lv_imul hx hb dX6_make_64 ?_
    refine lv_aload_n hx hb dX6_make_65 rfl (lv_at hl 0 rfl) ?_
    refine va_get (D := D) (ci := 5) (v := .ref (adM 1)) (C := RX6) (T := TX6) (N := 18) hx hb hts (by decide +kernel) hown hK hP 0 rfl rfl 0 (by decide) (hts (.fieldLink RX6 7 "PartGraphsModel" "parts" "[I") (by decide +kernel)) (fun _ h9 => h9) rfl dX6_make_66 ?_
    refine lv_iload_n hx hb dX6_make_69 rfl (lv_at hl 1 rfl) ?_
    have hin := h.1
    have h := h.2
    refine va_iald (D := D) (cl := vwCl) hx hb hK hP 1 0 rfl rfl hin dX6_make_70 ?_
    refine lv_iadd hx hb dX6_make_71 ?_
    refine lv_iload hx hb dX6_make_72 (lv_at hl 4 rfl) ?_
    have hin := h.1
    have h := h.2
    refine va_iast (D := D) (cl := vwCl) hx hb hK hP hD hS 3 0 rfl rfl hin dX6_make_74 (fun H locs hP hD hS => ?_)
    have hP : va_P D vwCl (sh_M cs adM mpM (upd mkM ((10 * p1) + (mpM p1.toNatClampNeg)).toNatClampNeg p3) (upd mgM ((10 * p1) + (mpM p1.toNatClampNeg)).toNatClampNeg p4) mcM mwM mfM mtM mhM mmM mdM mxM mnM szM faM apM waM wrM fuM) H := hP
    have hD : va_D A (sh_M cs adM mpM (upd mkM ((10 * p1) + (mpM p1.toNatClampNeg)).toNatClampNeg p3) (upd mgM ((10 * p1) + (mpM p1.toNatClampNeg)).toNatClampNeg p4) mcM mwM mfM mtM mhM mmM mdM mxM mnM szM faM apM waM wrM fuM) := hD
    refine lv_aload_n hx hb dX6_make_75 rfl (lv_at hl 0 rfl) ?_
    refine va_get (D := D) (ci := 5) (v := .ref (adM 1)) (C := RX6) (T := TX6) (N := 18) hx hb hts (by decide +kernel) hown hK hP 0 rfl rfl 0 (by decide) (hts (.fieldLink RX6 7 "PartGraphsModel" "parts" "[I") (by decide +kernel)) (fun _ h9 => h9) rfl dX6_make_76 ?_
    refine lv_iload_n hx hb dX6_make_79 rfl (lv_at hl 1 rfl) ?_
    refine lv_dup2_11 hx hb dX6_make_80 rfl rfl ?_
    have hin := h.1
    have h := h.2
    refine va_iald (D := D) (cl := vwCl) hx hb hK hP 1 0 rfl rfl hin dX6_make_81 ?_
    refine lv_iconst (v := 1) hx hb dX6_make_82 (by decide) ?_
    refine lv_iadd hx hb dX6_make_83 ?_
    have hin := h.1
    have h := h.2
    refine va_iast (D := D) (cl := vwCl) hx hb hK hP hD hS 1 0 rfl rfl hin dX6_make_84 (fun H locs hP hD hS => ?_)
    have hP : va_P D vwCl (sh_M cs adM (upd mpM p1.toNatClampNeg ((mpM p1.toNatClampNeg) + 1)) (upd mkM ((10 * p1) + (mpM p1.toNatClampNeg)).toNatClampNeg p3) (upd mgM ((10 * p1) + (mpM p1.toNatClampNeg)).toNatClampNeg p4) mcM mwM mfM mtM mhM mmM mdM mxM mnM szM faM apM waM wrM fuM) H := hP
    have hD : va_D A (sh_M cs adM (upd mpM p1.toNatClampNeg ((mpM p1.toNatClampNeg) + 1)) (upd mkM ((10 * p1) + (mpM p1.toNatClampNeg)).toNatClampNeg p3) (upd mgM ((10 * p1) + (mpM p1.toNatClampNeg)).toNatClampNeg p4) mcM mwM mfM mtM mhM mmM mdM mxM mnM szM faM apM waM wrM fuM) := hD
    refine lv_goto (tgt := 253) hx hb dX6_make_85 (by decide) ?_
    exact W.vret hx hb hr (fun t ht hW => ⟨⟨(upd mpM p1.toNatClampNeg ((mpM p1.toNatClampNeg) + 1), upd mkM ((10 * p1) + (mpM p1.toNatClampNeg)).toNatClampNeg p3, upd mgM ((10 * p1) + (mpM p1.toNatClampNeg)).toNatClampNeg p4, mcM, mwM, mfM, mtM, mhM, mmM, mdM), rfl, h, by rw [ht]; exact hP, va_K.moved hW.alike hK, hD⟩, hS.F ht⟩) hS.2.2 dX6_make_253
  · have h := h.2 cs_0
    by_cases cs_1 : p2 = 1
    · have h := h.1 cs_1
      refine lv_tableIn (tgt := 88) hx hb dX6_make_1 (by rw [cs_1]; decide) (by rw [cs_1]; decide) (by rw [cs_1]; rfl) (by decide) ?_
      refine lv_aload_n hx hb dX6_make_88 rfl (lv_at hl 0 rfl) ?_
      refine va_get (D := D) (ci := 5) (v := .ref (adM 4)) (C := RX6) (T := TX6) (N := 18) hx hb hts (by decide +kernel) hown hK hP 0 rfl rfl 3 (by decide) (hts (.fieldLink RX6 19 "PartGraphsModel" "covers" "[Z") (by decide +kernel)) (fun _ h9 => h9) rfl dX6_make_89 ?_
      refine lv_bipush (v := 100) hx hb dX6_make_92 (by decide) ?_
      refine lv_iload_n hx hb dX6_make_94 rfl (lv_at hl 1 rfl) ?_
      refine lv_imul hx hb dX6_make_95 ?_
      refine lv_bipush (v := 10) hx hb dX6_make_96 (by decide) ?_
      refine lv_iload_n hx hb dX6_make_98 rfl (lv_at hl 3 rfl) ?_
      refine lv_imul hx hb dX6_make_99 ?_
      refine lv_iadd hx hb dX6_make_100 ?_
      refine lv_iload hx hb dX6_make_101 (lv_at hl 4 rfl) ?_
      refine lv_iadd hx hb dX6_make_103 ?_
      refine lv_iconst (v := 1) hx hb dX6_make_104 (by decide) ?_
      have hin := h.1
      have h := h.2
      refine va_zast (D := D) (cl := vwCl) hx hb hK hP hD hS 4 4 rfl rfl hin dX6_make_105 (fun H locs hP hD hS => ?_)
      have hP : va_P D vwCl (sh_M cs adM mpM mkM mgM (upd mcM (((100 * p1) + (10 * p3)) + p4).toNatClampNeg (vp_nar .boolean 1)) mwM mfM mtM mhM mmM mdM mxM mnM szM faM apM waM wrM fuM) H := hP
      have hD : va_D A (sh_M cs adM mpM mkM mgM (upd mcM (((100 * p1) + (10 * p3)) + p4).toNatClampNeg (vp_nar .boolean 1)) mwM mfM mtM mhM mmM mdM mxM mnM szM faM apM waM wrM fuM) := hD
      refine lv_goto (tgt := 253) hx hb dX6_make_106 (by decide) ?_
      exact W.vret hx hb hr (fun t ht hW => ⟨⟨(mpM, mkM, mgM, upd mcM (((100 * p1) + (10 * p3)) + p4).toNatClampNeg (vp_nar .boolean 1), mwM, mfM, mtM, mhM, mmM, mdM), rfl, h, by rw [ht]; exact hP, va_K.moved hW.alike hK, hD⟩, hS.F ht⟩) hS.2.2 dX6_make_253
    · have h := h.2 cs_1
      by_cases cs_2 : p2 = 2
      · have h := h.1 cs_2
        refine lv_tableIn (tgt := 109) hx hb dX6_make_1 (by rw [cs_2]; decide) (by rw [cs_2]; decide) (by rw [cs_2]; rfl) (by decide) ?_
        refine lv_aload_n hx hb dX6_make_109 rfl (lv_at hl 0 rfl) ?_
        refine va_get (D := D) (ci := 5) (v := .ref (adM 5)) (C := RX6) (T := TX6) (N := 18) hx hb hts (by decide +kernel) hown hK hP 0 rfl rfl 4 (by decide) (hts (.fieldLink RX6 23 "PartGraphsModel" "ways" "[Z") (by decide +kernel)) (fun _ h9 => h9) rfl dX6_make_110 ?_
        refine lv_iload_n hx hb dX6_make_113 rfl (lv_at hl 1 rfl) ?_
        refine lv_iload_n hx hb dX6_make_114 rfl (lv_at hl 3 rfl) ?_
        refine lv_iload hx hb dX6_make_115 (lv_at hl 4 rfl) ?_
        refine lv_iload hx hb dX6_make_117 (lv_at hl 5 rfl) ?_
        have hFc := va_free (wc := ([] : va_W)) hD hS hA [] rfl
        refine va_calli (va_runS (As := [.int p1, .int p3, .int p4, .int p5]) (rest := [.ref (adM 5)]) ⟨hx, hb, hml, hown, hts⟩ (met_X6_wayAt l D cs ev _ p1 p3 p4 p5 _ h) (va_cwS 4 hts gX6_make_X6_wayAt rfl rfl rfl (by decide +kernel) ⟨Nat.le_of_ble_eq_true rfl, Nat.le_of_ble_eq_true rfl⟩) (mPreS hP hD hS hK hE hFc [] (by decide) rfl) rfl rfl hl.1 rfl (lv_room (Nat.le_of_ble_eq_true rfl)) dX6_make_119 ⟨Nat.le_of_ble_eq_true rfl, Nat.le_of_ble_eq_true rfl⟩) hS (fun q _ h => hFc q h) hFc (fun r_1 u t H1 locs ht hvm hw hB hz1 hk1 hS => ?_)
        have h := hw
        obtain ⟨hP1, hK1, hD1⟩ := hB
        rw [ht] at hP1
        obtain ⟨hP, hD⟩ := mJoin (wr := (sh_M cs adM mpM mkM mgM mcM mwM mfM mtM mhM mmM mdM mxM mnM szM faM apM waM wrM fuM)) (w1 := ([] : va_W)) (w' := (sh_M cs adM mpM mkM mgM mcM mwM mfM mtM mhM mmM mdM mxM mnM szM faM apM waM wrM fuM)) hP hD [] [0, 1, 2, 3, 4, 5, 6, 7, 8, 9, 10, 11, 12] rfl rfl (by decide) (by decide) hk1 hFc hP1 hD1 [0, 1, 2, 3, 4, 5, 6, 7, 8, 9, 10, 11, 12] (by decide) rfl
        generalize H1 = H at hP hS ⊢
        refine lv_iconst (v := 1) hx hb dX6_make_122 (by decide) ?_
        have hin := h.1
        have h := h.2
        refine va_zast (D := D) (cl := vwCl) hx hb hK hP hD hS 5 4 rfl rfl hin dX6_make_123 (fun H locs hP hD hS => ?_)
        have hP : va_P D vwCl (sh_M cs adM mpM mkM mgM mcM (upd mwM r_1.toNatClampNeg (vp_nar .boolean 1)) mfM mtM mhM mmM mdM mxM mnM szM faM apM waM wrM fuM) H := hP
        have hD : va_D A (sh_M cs adM mpM mkM mgM mcM (upd mwM r_1.toNatClampNeg (vp_nar .boolean 1)) mfM mtM mhM mmM mdM mxM mnM szM faM apM waM wrM fuM) := hD
        refine lv_goto (tgt := 253) hx hb dX6_make_124 (by decide) ?_
        exact W.vret hx hb hr (fun t ht hW => ⟨⟨(mpM, mkM, mgM, mcM, upd mwM r_1.toNatClampNeg (vp_nar .boolean 1), mfM, mtM, mhM, mmM, mdM), rfl, h, by rw [ht]; exact hP, va_K.moved hW.alike hK, hD⟩, hS.F ht⟩) hS.2.2 dX6_make_253
      · have h := h.2 cs_2
        by_cases cs_3 : p2 = 3
        · have h := h.1 cs_3
          refine lv_tableIn (tgt := 127) hx hb dX6_make_1 (by rw [cs_3]; decide) (by rw [cs_3]; decide) (by rw [cs_3]; rfl) (by decide) ?_
          refine lv_aload_n hx hb dX6_make_127 rfl (lv_at hl 0 rfl) ?_
          refine va_get (D := D) (ci := 5) (v := .ref (adM 7)) (C := RX6) (T := TX6) (N := 18) hx hb hts (by decide +kernel) hown hK hP 0 rfl rfl 6 (by decide) (hts (.fieldLink RX6 29 "PartGraphsModel" "ties" "[I") (by decide +kernel)) (fun _ h9 => h9) rfl dX6_make_128 ?_
          refine lv_bipush (v := 60) hx hb dX6_make_131 (by decide) ?_
          refine lv_iload_n hx hb dX6_make_133 rfl (lv_at hl 1 rfl) ?_
          refine lv_imul hx hb dX6_make_134 ?_
          refine lv_iconst (v := 3) hx hb dX6_make_135 (by decide) ?_
          refine lv_aload_n hx hb dX6_make_136 rfl (lv_at hl 0 rfl) ?_
          refine va_get (D := D) (ci := 5) (v := .ref (adM 6)) (C := RX6) (T := TX6) (N := 18) hx hb hts (by decide +kernel) hown hK hP 0 rfl rfl 5 (by decide) (hts (.fieldLink RX6 26 "PartGraphsModel" "fastenings" "[I") (by decide +kernel)) (fun _ h9 => h9) rfl dX6_make_137 ?_
          refine lv_iload_n hx hb dX6_make_140 rfl (lv_at hl 1 rfl) ?_
          have hin := h.1
          have h := h.2
          refine va_iald (D := D) (cl := vwCl) hx hb hK hP 6 0 rfl rfl hin dX6_make_141 ?_
          refine lv_imul hx hb dX6_make_142 ?_
          refine lv_iadd hx hb dX6_make_143 ?_
          refine lv_iload_n hx hb dX6_make_144 rfl (lv_at hl 3 rfl) ?_
          have hin := h.1
          have h := h.2
          refine va_iast (D := D) (cl := vwCl) hx hb hK hP hD hS 7 0 rfl rfl hin dX6_make_145 (fun H locs hP hD hS => ?_)
          have hP : va_P D vwCl (sh_M cs adM mpM mkM mgM mcM mwM mfM (upd mtM ((60 * p1) + (3 * (mfM p1.toNatClampNeg))).toNatClampNeg p3) mhM mmM mdM mxM mnM szM faM apM waM wrM fuM) H := hP
          have hD : va_D A (sh_M cs adM mpM mkM mgM mcM mwM mfM (upd mtM ((60 * p1) + (3 * (mfM p1.toNatClampNeg))).toNatClampNeg p3) mhM mmM mdM mxM mnM szM faM apM waM wrM fuM) := hD
          refine lv_aload_n hx hb dX6_make_146 rfl (lv_at hl 0 rfl) ?_
          refine va_get (D := D) (ci := 5) (v := .ref (adM 7)) (C := RX6) (T := TX6) (N := 18) hx hb hts (by decide +kernel) hown hK hP 0 rfl rfl 6 (by decide) (hts (.fieldLink RX6 29 "PartGraphsModel" "ties" "[I") (by decide +kernel)) (fun _ h9 => h9) rfl dX6_make_147 ?_
          refine lv_bipush (v := 60) hx hb dX6_make_150 (by decide) ?_
          refine lv_iload_n hx hb dX6_make_152 rfl (lv_at hl 1 rfl) ?_
          refine lv_imul hx hb dX6_make_153 ?_
          refine lv_iconst (v := 3) hx hb dX6_make_154 (by decide) ?_
          refine lv_aload_n hx hb dX6_make_155 rfl (lv_at hl 0 rfl) ?_
          refine va_get (D := D) (ci := 5) (v := .ref (adM 6)) (C := RX6) (T := TX6) (N := 18) hx hb hts (by decide +kernel) hown hK hP 0 rfl rfl 5 (by decide) (hts (.fieldLink RX6 26 "PartGraphsModel" "fastenings" "[I") (by decide +kernel)) (fun _ h9 => h9) rfl dX6_make_156 ?_
          refine lv_iload_n hx hb dX6_make_159 rfl (lv_at hl 1 rfl) ?_
          have hin := h.1
          have h := h.2
          refine va_iald (D := D) (cl := vwCl) hx hb hK hP 6 0 rfl rfl hin dX6_make_160 ?_
          refine lv_imul hx hb dX6_make_161 ?_
          refine lv_iadd hx hb dX6_make_162 ?_
          refine lv_iconst (v := 1) hx hb dX6_make_163 (by decide) ?_
          refine lv_iadd hx hb dX6_make_164 ?_
          refine lv_iload hx hb dX6_make_165 (lv_at hl 4 rfl) ?_
          have hin := h.1
          have h := h.2
          refine va_iast (D := D) (cl := vwCl) hx hb hK hP hD hS 7 0 rfl rfl hin dX6_make_167 (fun H locs hP hD hS => ?_)
          have hP : va_P D vwCl (sh_M cs adM mpM mkM mgM mcM mwM mfM (upd (upd mtM ((60 * p1) + (3 * (mfM p1.toNatClampNeg))).toNatClampNeg p3) (((60 * p1) + (3 * (mfM p1.toNatClampNeg))) + 1).toNatClampNeg p4) mhM mmM mdM mxM mnM szM faM apM waM wrM fuM) H := hP
          have hD : va_D A (sh_M cs adM mpM mkM mgM mcM mwM mfM (upd (upd mtM ((60 * p1) + (3 * (mfM p1.toNatClampNeg))).toNatClampNeg p3) (((60 * p1) + (3 * (mfM p1.toNatClampNeg))) + 1).toNatClampNeg p4) mhM mmM mdM mxM mnM szM faM apM waM wrM fuM) := hD
          refine lv_aload_n hx hb dX6_make_168 rfl (lv_at hl 0 rfl) ?_
          refine va_get (D := D) (ci := 5) (v := .ref (adM 7)) (C := RX6) (T := TX6) (N := 18) hx hb hts (by decide +kernel) hown hK hP 0 rfl rfl 6 (by decide) (hts (.fieldLink RX6 29 "PartGraphsModel" "ties" "[I") (by decide +kernel)) (fun _ h9 => h9) rfl dX6_make_169 ?_
          refine lv_bipush (v := 60) hx hb dX6_make_172 (by decide) ?_
          refine lv_iload_n hx hb dX6_make_174 rfl (lv_at hl 1 rfl) ?_
          refine lv_imul hx hb dX6_make_175 ?_
          refine lv_iconst (v := 3) hx hb dX6_make_176 (by decide) ?_
          refine lv_aload_n hx hb dX6_make_177 rfl (lv_at hl 0 rfl) ?_
          refine va_get (D := D) (ci := 5) (v := .ref (adM 6)) (C := RX6) (T := TX6) (N := 18) hx hb hts (by decide +kernel) hown hK hP 0 rfl rfl 5 (by decide) (hts (.fieldLink RX6 26 "PartGraphsModel" "fastenings" "[I") (by decide +kernel)) (fun _ h9 => h9) rfl dX6_make_178 ?_
          refine lv_iload_n hx hb dX6_make_181 rfl (lv_at hl 1 rfl) ?_
          have hin := h.1
          have h := h.2
          refine va_iald (D := D) (cl := vwCl) hx hb hK hP 6 0 rfl rfl hin dX6_make_182 ?_
          refine lv_imul hx hb dX6_make_183 ?_
          refine lv_iadd hx hb dX6_make_184 ?_
          refine lv_iconst (v := 2) hx hb dX6_make_185 (by decide) ?_
          refine lv_iadd hx hb dX6_make_186 ?_
          refine lv_iload hx hb dX6_make_187 (lv_at hl 5 rfl) ?_
          have hin := h.1
          have h := h.2
          refine va_iast (D := D) (cl := vwCl) hx hb hK hP hD hS 7 0 rfl rfl hin dX6_make_189 (fun H locs hP hD hS => ?_)
          have hP : va_P D vwCl (sh_M cs adM mpM mkM mgM mcM mwM mfM (upd (upd (upd mtM ((60 * p1) + (3 * (mfM p1.toNatClampNeg))).toNatClampNeg p3) (((60 * p1) + (3 * (mfM p1.toNatClampNeg))) + 1).toNatClampNeg p4) (((60 * p1) + (3 * (mfM p1.toNatClampNeg))) + 2).toNatClampNeg p5) mhM mmM mdM mxM mnM szM faM apM waM wrM fuM) H := hP
          have hD : va_D A (sh_M cs adM mpM mkM mgM mcM mwM mfM (upd (upd (upd mtM ((60 * p1) + (3 * (mfM p1.toNatClampNeg))).toNatClampNeg p3) (((60 * p1) + (3 * (mfM p1.toNatClampNeg))) + 1).toNatClampNeg p4) (((60 * p1) + (3 * (mfM p1.toNatClampNeg))) + 2).toNatClampNeg p5) mhM mmM mdM mxM mnM szM faM apM waM wrM fuM) := hD
          refine lv_aload_n hx hb dX6_make_190 rfl (lv_at hl 0 rfl) ?_
          refine va_get (D := D) (ci := 5) (v := .ref (adM 6)) (C := RX6) (T := TX6) (N := 18) hx hb hts (by decide +kernel) hown hK hP 0 rfl rfl 5 (by decide) (hts (.fieldLink RX6 26 "PartGraphsModel" "fastenings" "[I") (by decide +kernel)) (fun _ h9 => h9) rfl dX6_make_191 ?_
          refine lv_iload_n hx hb dX6_make_194 rfl (lv_at hl 1 rfl) ?_
          refine lv_dup2_11 hx hb dX6_make_195 rfl rfl ?_
          have hin := h.1
          have h := h.2
          refine va_iald (D := D) (cl := vwCl) hx hb hK hP 6 0 rfl rfl hin dX6_make_196 ?_
          refine lv_iconst (v := 1) hx hb dX6_make_197 (by decide) ?_
          refine lv_iadd hx hb dX6_make_198 ?_
          have hin := h.1
          have h := h.2
          refine va_iast (D := D) (cl := vwCl) hx hb hK hP hD hS 6 0 rfl rfl hin dX6_make_199 (fun H locs hP hD hS => ?_)
          have hP : va_P D vwCl (sh_M cs adM mpM mkM mgM mcM mwM (upd mfM p1.toNatClampNeg ((mfM p1.toNatClampNeg) + 1)) (upd (upd (upd mtM ((60 * p1) + (3 * (mfM p1.toNatClampNeg))).toNatClampNeg p3) (((60 * p1) + (3 * (mfM p1.toNatClampNeg))) + 1).toNatClampNeg p4) (((60 * p1) + (3 * (mfM p1.toNatClampNeg))) + 2).toNatClampNeg p5) mhM mmM mdM mxM mnM szM faM apM waM wrM fuM) H := hP
          have hD : va_D A (sh_M cs adM mpM mkM mgM mcM mwM (upd mfM p1.toNatClampNeg ((mfM p1.toNatClampNeg) + 1)) (upd (upd (upd mtM ((60 * p1) + (3 * (mfM p1.toNatClampNeg))).toNatClampNeg p3) (((60 * p1) + (3 * (mfM p1.toNatClampNeg))) + 1).toNatClampNeg p4) (((60 * p1) + (3 * (mfM p1.toNatClampNeg))) + 2).toNatClampNeg p5) mhM mmM mdM mxM mnM szM faM apM waM wrM fuM) := hD
          refine lv_goto (tgt := 253) hx hb dX6_make_200 (by decide) ?_
          exact W.vret hx hb hr (fun t ht hW => ⟨⟨(mpM, mkM, mgM, mcM, mwM, upd mfM p1.toNatClampNeg ((mfM p1.toNatClampNeg) + 1), upd (upd (upd mtM ((60 * p1) + (3 * (mfM p1.toNatClampNeg))).toNatClampNeg p3) (((60 * p1) + (3 * (mfM p1.toNatClampNeg))) + 1).toNatClampNeg p4) (((60 * p1) + (3 * (mfM p1.toNatClampNeg))) + 2).toNatClampNeg p5, mhM, mmM, mdM), rfl, h, by rw [ht]; exact hP, va_K.moved hW.alike hK, hD⟩, hS.F ht⟩) hS.2.2 dX6_make_253
        · have h := h.2 cs_3
          by_cases cs_4 : p2 = 4
          · have h := h.1 cs_4
            refine lv_tableIn (tgt := 203) hx hb dX6_make_1 (by rw [cs_4]; decide) (by rw [cs_4]; decide) (by rw [cs_4]; rfl) (by decide) ?_
            refine lv_aload_n hx hb dX6_make_203 rfl (lv_at hl 0 rfl) ?_
            refine va_get (D := D) (ci := 5) (v := .ref (adM 8)) (C := RX6) (T := TX6) (N := 18) hx hb hts (by decide +kernel) hown hK hP 0 rfl rfl 7 (by decide) (hts (.fieldLink RX6 32 "PartGraphsModel" "hazards" "[Z") (by decide +kernel)) (fun _ h9 => h9) rfl dX6_make_204 ?_
            refine lv_bipush (v := 80) hx hb dX6_make_207 (by decide) ?_
            refine lv_iload_n hx hb dX6_make_209 rfl (lv_at hl 1 rfl) ?_
            refine lv_imul hx hb dX6_make_210 ?_
            refine lv_bipush (v := 8) hx hb dX6_make_211 (by decide) ?_
            refine lv_iload_n hx hb dX6_make_213 rfl (lv_at hl 3 rfl) ?_
            refine lv_imul hx hb dX6_make_214 ?_
            refine lv_iadd hx hb dX6_make_215 ?_
            refine lv_iload hx hb dX6_make_216 (lv_at hl 4 rfl) ?_
            refine lv_iadd hx hb dX6_make_218 ?_
            refine lv_iconst (v := 1) hx hb dX6_make_219 (by decide) ?_
            have hin := h.1
            have h := h.2
            refine va_zast (D := D) (cl := vwCl) hx hb hK hP hD hS 8 4 rfl rfl hin dX6_make_220 (fun H locs hP hD hS => ?_)
            have hP : va_P D vwCl (sh_M cs adM mpM mkM mgM mcM mwM mfM mtM (upd mhM (((80 * p1) + (8 * p3)) + p4).toNatClampNeg (vp_nar .boolean 1)) mmM mdM mxM mnM szM faM apM waM wrM fuM) H := hP
            have hD : va_D A (sh_M cs adM mpM mkM mgM mcM mwM mfM mtM (upd mhM (((80 * p1) + (8 * p3)) + p4).toNatClampNeg (vp_nar .boolean 1)) mmM mdM mxM mnM szM faM apM waM wrM fuM) := hD
            refine lv_goto (tgt := 253) hx hb dX6_make_221 (by decide) ?_
            exact W.vret hx hb hr (fun t ht hW => ⟨⟨(mpM, mkM, mgM, mcM, mwM, mfM, mtM, upd mhM (((80 * p1) + (8 * p3)) + p4).toNatClampNeg (vp_nar .boolean 1), mmM, mdM), rfl, h, by rw [ht]; exact hP, va_K.moved hW.alike hK, hD⟩, hS.F ht⟩) hS.2.2 dX6_make_253
          · have h := h.2 cs_4
            by_cases cs_5 : p2 = 5
            · have h := h.1 cs_5
              refine lv_tableIn (tgt := 224) hx hb dX6_make_1 (by rw [cs_5]; decide) (by rw [cs_5]; decide) (by rw [cs_5]; rfl) (by decide) ?_
              refine lv_aload_n hx hb dX6_make_224 rfl (lv_at hl 0 rfl) ?_
              refine va_get (D := D) (ci := 5) (v := .ref (adM 9)) (C := RX6) (T := TX6) (N := 18) hx hb hts (by decide +kernel) hown hK hP 0 rfl rfl 8 (by decide) (hts (.fieldLink RX6 35 "PartGraphsModel" "families" "[I") (by decide +kernel)) (fun _ h9 => h9) rfl dX6_make_225 ?_
              refine lv_bipush (v := 10) hx hb dX6_make_228 (by decide) ?_
              refine lv_iload_n hx hb dX6_make_230 rfl (lv_at hl 1 rfl) ?_
              refine lv_imul hx hb dX6_make_231 ?_
              refine lv_iload_n hx hb dX6_make_232 rfl (lv_at hl 3 rfl) ?_
              refine lv_iadd hx hb dX6_make_233 ?_
              refine lv_iload hx hb dX6_make_234 (lv_at hl 4 rfl) ?_
              have hin := h.1
              have h := h.2
              refine va_iast (D := D) (cl := vwCl) hx hb hK hP hD hS 9 0 rfl rfl hin dX6_make_236 (fun H locs hP hD hS => ?_)
              have hP : va_P D vwCl (sh_M cs adM mpM mkM mgM mcM mwM mfM mtM mhM (upd mmM ((10 * p1) + p3).toNatClampNeg p4) mdM mxM mnM szM faM apM waM wrM fuM) H := hP
              have hD : va_D A (sh_M cs adM mpM mkM mgM mcM mwM mfM mtM mhM (upd mmM ((10 * p1) + p3).toNatClampNeg p4) mdM mxM mnM szM faM apM waM wrM fuM) := hD
              refine lv_goto (tgt := 253) hx hb dX6_make_237 (by decide) ?_
              exact W.vret hx hb hr (fun t ht hW => ⟨⟨(mpM, mkM, mgM, mcM, mwM, mfM, mtM, mhM, upd mmM ((10 * p1) + p3).toNatClampNeg p4, mdM), rfl, h, by rw [ht]; exact hP, va_K.moved hW.alike hK, hD⟩, hS.F ht⟩) hS.2.2 dX6_make_253
            · have h := h.2 cs_5
              refine lv_tableOut (tgt := 240) hx hb dX6_make_1 (by have q0 := lv_neT cs_0 (show (0 : Int32).toInt = 0 by decide); have q1 := lv_neT cs_1 (show (1 : Int32).toInt = 1 by decide); have q2 := lv_neT cs_2 (show (2 : Int32).toInt = 2 by decide); have q3 := lv_neT cs_3 (show (3 : Int32).toInt = 3 by decide); have q4 := lv_neT cs_4 (show (4 : Int32).toInt = 4 by decide); have q5 := lv_neT cs_5 (show (5 : Int32).toInt = 5 by decide); omega) (by decide) ?_
              refine lv_aload_n hx hb dX6_make_240 rfl (lv_at hl 0 rfl) ?_
              refine va_get (D := D) (ci := 5) (v := .ref (adM 10)) (C := RX6) (T := TX6) (N := 18) hx hb hts (by decide +kernel) hown hK hP 0 rfl rfl 9 (by decide) (hts (.fieldLink RX6 38 "PartGraphsModel" "damages" "[I") (by decide +kernel)) (fun _ h9 => h9) rfl dX6_make_241 ?_
              refine lv_bipush (v := 10) hx hb dX6_make_244 (by decide) ?_
              refine lv_iload_n hx hb dX6_make_246 rfl (lv_at hl 1 rfl) ?_
              refine lv_imul hx hb dX6_make_247 ?_
              refine lv_iload_n hx hb dX6_make_248 rfl (lv_at hl 3 rfl) ?_
              refine lv_iadd hx hb dX6_make_249 ?_
              refine lv_iload hx hb dX6_make_250 (lv_at hl 4 rfl) ?_
              have hin := h.1
              have h := h.2
              refine va_iast (D := D) (cl := vwCl) hx hb hK hP hD hS 10 0 rfl rfl hin dX6_make_252 (fun H locs hP hD hS => ?_)
              have hP : va_P D vwCl (sh_M cs adM mpM mkM mgM mcM mwM mfM mtM mhM mmM (upd mdM ((10 * p1) + p3).toNatClampNeg p4) mxM mnM szM faM apM waM wrM fuM) H := hP
              have hD : va_D A (sh_M cs adM mpM mkM mgM mcM mwM mfM mtM mhM mmM (upd mdM ((10 * p1) + p3).toNatClampNeg p4) mxM mnM szM faM apM waM wrM fuM) := hD
              exact W.vret hx hb hr (fun t ht hW => ⟨⟨(mpM, mkM, mgM, mcM, mwM, mfM, mtM, mhM, mmM, upd mdM ((10 * p1) + p3).toNatClampNeg p4), rfl, h, by rw [ht]; exact hP, va_K.moved hW.alike hK, hD⟩, hS.F ht⟩) hS.2.2 dX6_make_253
