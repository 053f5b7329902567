def wp_X5_isBelow (p1 : Int32) (p2 : Int32) (post : Int32 → Unit → Prop) : Prop :=
    ((p1 < 0 → post 0 ()) ∧ (¬ p1 < 0 → ((p2 ≤ p1 → post 0 ()) ∧ (¬ p2 ≤ p1 → post 1 ()))))
set_option maxHeartbeats 4000000 in
set_option maxRecDepth 100000 in
theorem met_X5_isBelow (l : Launch) (D : va_G) (cs : Nat → ClassId) (ev : Nat → Nat → Nat) (sz0 : Nat) (p1 : Int32) (p2 : Int32) (post : Int32 → Unit → Prop) (h : wp_X5_isBelow p1 p2 post) : Met l yX5_isBelow wsX5_isBelow ({ frames := 0, cells := 0, slots := 0, locals := 0 }) (va_Pc [.int p1, .int p2] (mPre D cs ev ([] : va_W) sz0)) (va_Qi post (fun _ t => mAt D cs (va_A ([] : va_W) sz0) ([] : va_W) t) (va_A ([] : va_W) sz0)) 0 0 (va_A ([] : va_W) sz0) := by
  refine Met.ofW (cc := cX5_isBelow) (maxL := 2) (ret := (some .boolean)) (by decide) rfl ?_
  intro p e s m args below meth c s₁ B hml hv
  obtain ⟨rfl, hsz, hP, hK, hD0, hE⟩ := hv
  have hx := B.exec
  have hb := B.bytes
  have hr := B.returns
  have hts := atoms_spec (ws := wsX5_isBelow) B.pre
  have hown : s.vm.findClass RX5 = some m.cls := findClass_of_methodNamed B.named
  have hlocks := B.notSynchronized
  subst hsz
  have hD := hD0.self (sz := s.heap.size)
  generalize hAe : va_A ([] : va_W) s.heap.size = A at hD hE ⊢
  have hA : ∀ q : Nat, s.heap.size ≤ q → A q := fun q h => by rw [← hAe]; exact Or.inr h
  have hS : va_S A s.heap s.heap [] := va_S.rf
  have hl := lv_entry ([.int p1, .int p2]) (n := 2) (Nat.le_of_ble_eq_true rfl)
  rw [lg_entry_eq]
  generalize (lg_sl ([.int p1, .int p2]) ++ List.replicate (2 - (lg_sl ([.int p1, .int p2])).length) Slot.unset).toArray = ls at hl ⊢
  have hl : lv_has ls 2 [(0, .int p1), (1, .int p2)] := hl
  refine lv_iload_n hx hb dX5_isBelow_0 rfl (lv_at hl 0 rfl) ?_
  refine lv_if_lt (tgt := 13) hx hb dX5_isBelow_1 (by decide) (fun c_1 => ?_) (fun c_1 => ?_)
  · have h := h.1 c_1
    refine lv_iconst (v := 0) hx hb dX5_isBelow_13 (by decide) ?_
    exact W.zret (v := 0) hx hb hr (by decide) (fun t ht hW => ⟨⟨0, (), rfl, h, by rw [ht]; exact hP, va_K.moved hW.alike hK, hD⟩, hS.F ht⟩) hS.2.2 dX5_isBelow_14
  · have h := h.2 c_1
    refine lv_iload_n hx hb dX5_isBelow_4 rfl (lv_at hl 0 rfl) ?_
    refine lv_iload_n hx hb dX5_isBelow_5 rfl (lv_at hl 1 rfl) ?_
    refine lv_icmp_ge (tgt := 13) hx hb dX5_isBelow_6 (by decide) (fun c_2 => ?_) (fun c_2 => ?_)
    · have h := h.1 c_2
      refine lv_iconst (v := 0) hx hb dX5_isBelow_13 (by decide) ?_
      exact W.zret (v := 0) hx hb hr (by decide) (fun t ht hW => ⟨⟨0, (), rfl, h, by rw [ht]; exact hP, va_K.moved hW.alike hK, hD⟩, hS.F ht⟩) hS.2.2 dX5_isBelow_14
    · have h := h.2 c_2
      refine lv_iconst (v := 1) hx hb dX5_isBelow_9 (by decide) ?_
      refine lv_goto (tgt := 14) hx hb dX5_isBelow_10 (by decide) ?_
      exact W.zret (v := 1) hx hb hr (by decide) (fun t ht hW => ⟨⟨1, (), rfl, h, by rw [ht]; exact hP, va_K.moved hW.alike hK, hD⟩, hS.F ht⟩) hS.2.2 dX5_isBelow_14
def wp_X5_contains (p1 : Int32) (p2 : Int32) (post : Int32 → Unit → Prop) : Prop :=
    ((((p1 >>> (p2 &&& 31)) &&& 1) = 0 → post 0 ()) ∧ (¬ ((p1 >>> (p2 &&& 31)) &&& 1) = 0 → post 1 ()))
set_option maxHeartbeats 4000000 in
set_option maxRecDepth 100000 in
theorem met_X5_contains (l : Launch) (D : va_G) (cs : Nat → ClassId) (ev : Nat → Nat → Nat) (sz0 : Nat) (p1 : Int32) (p2 : Int32) (post : Int32 → Unit → Prop) (h : wp_X5_contains p1 p2 post) : Met l yX5_contains wsX5_contains ({ frames := 0, cells := 0, slots := 0, locals := 0 }) (va_Pc [.int p1, .int p2] (mPre D cs ev ([] : va_W) sz0)) (va_Qi post (fun _ t => mAt D cs (va_A ([] : va_W) sz0) ([] : va_W) t) (va_A ([] : va_W) sz0)) 0 0 (va_A ([] : va_W) sz0) := by
  refine Met.ofW (cc := cX5_contains) (maxL := 2) (ret := (some .boolean)) (by decide) rfl ?_
  intro p e s m args below meth c s₁ B hml hv
  obtain ⟨rfl, hsz, hP, hK, hD0, hE⟩ := hv
  have hx := B.exec
  have hb := B.bytes
  have hr := B.returns
  have hts := atoms_spec (ws := wsX5_contains) B.pre
  have hown : s.vm.findClass RX5 = some m.cls := findClass_of_methodNamed B.named
  have hlocks := B.notSynchronized
  subst hsz
  have hD := hD0.self (sz := s.heap.size)
  generalize hAe : va_A ([] : va_W) s.heap.size = A at hD hE ⊢
  have hA : ∀ q : Nat, s.heap.size ≤ q → A q := fun q h => by rw [← hAe]; exact Or.inr h
  have hS : va_S A s.heap s.heap [] := va_S.rf
  have hl := lv_entry ([.int p1, .int p2]) (n := 2) (Nat.le_of_ble_eq_true rfl)
  rw [lg_entry_eq]
  generalize (lg_sl ([.int p1, .int p2]) ++ List.replicate (2 - (lg_sl ([.int p1, .int p2])).length) Slot.unset).toArray = ls at hl ⊢
  have hl : lv_has ls 2 [(0, .int p1), (1, .int p2)] := hl
  refine lv_iload_n hx hb dX5_contains_0 rfl (lv_at hl 0 rfl) ?_
  refine lv_iload_n hx hb dX5_contains_1 rfl (lv_at hl 1 rfl) ?_
  refine lv_ishr hx hb dX5_contains_2 ?_
  refine lv_iconst (v := 1) hx hb dX5_contains_3 (by decide) ?_
  refine lv_iand hx hb dX5_contains_4 ?_
  refine lv_if_eq (tgt := 12) hx hb dX5_contains_5 (by decide) (fun c_1 => ?_) (fun c_1 => ?_)
  · have h := h.1 c_1
    refine lv_iconst (v := 0) hx hb dX5_contains_12 (by decide) ?_
    exact W.zret (v := 0) hx hb hr (by decide) (fun t ht hW => ⟨⟨0, (), rfl, h, by rw [ht]; exact hP, va_K.moved hW.alike hK, hD⟩, hS.F ht⟩) hS.2.2 dX5_contains_13
  · have h := h.2 c_1
    refine lv_iconst (v := 1) hx hb dX5_contains_8 (by decide) ?_
    refine lv_goto (tgt := 13) hx hb dX5_contains_9 (by decide) ?_
    exact W.zret (v := 1) hx hb hr (by decide) (fun t ht hW => ⟨⟨1, (), rfl, h, by rw [ht]; exact hP, va_K.moved hW.alike hK, hD⟩, hS.F ht⟩) hS.2.2 dX5_contains_13
def wp_X5_memberOf (p1 : Int32) (p2 : Int32) (post : Int32 → Unit → Prop) : Prop :=
    ∀ (A4 : Int32 → Int32 → Prop),
    (∀ (v2 : Int32) (v3 : Int32), ((10 ≤ v3 → post (-1) ()) ∧ (¬ 10 ≤ v3 → wp_X5_contains p1 v3 (fun r_2 _ => ((r_2 = 0 → A4 v2 (v3 + 1)) ∧ (¬ r_2 = 0 → ((v2 = 0 → post v3 ()) ∧ (¬ v2 = 0 → A4 (v2 + (-1)) (v3 + 1)))))))) → A4 v2 v3) →
    A4 p2 0
set_option maxHeartbeats 4000000 in
set_option maxRecDepth 100000 in
theorem met_X5_memberOf (l : Launch) (D : va_G) (cs : Nat → ClassId) (ev : Nat → Nat → Nat) (sz0 : Nat) (p1 : Int32) (p2 : Int32) (post : Int32 → Unit → Prop) (h : wp_X5_memberOf p1 p2 post) : Met l yX5_memberOf wsX5_memberOf ({ frames := 1, cells := 0, slots := 0, locals := 21 }) (va_Pc [.int p1, .int p2] (mPre D cs ev ([] : va_W) sz0)) (va_Qi post (fun _ t => mAt D cs (va_A ([] : va_W) sz0) ([] : va_W) t) (va_A ([] : va_W) sz0)) 0 0 (va_A ([] : va_W) sz0) := by
  refine Met.ofW (cc := cX5_memberOf) (maxL := 4) (ret := (some .int)) (by decide) rfl ?_
  intro p e s m args below meth c s₁ B hml hv
  obtain ⟨rfl, hsz, hP, hK, hD0, hE⟩ := hv
  have hx := B.exec
  have hb := B.bytes
  have hr := B.returns
  have hts := atoms_spec (ws := wsX5_memberOf) B.pre
  have hown : s.vm.findClass RX5 = some m.cls := findClass_of_methodNamed B.named
  have hlocks := B.notSynchronized
  subst hsz
  have hD := hD0.self (sz := s.heap.size)
  generalize hAe : va_A ([] : va_W) s.heap.size = A at hD hE ⊢
  have hA : ∀ q : Nat, s.heap.size ≤ q → A q := fun q h => by rw [← hAe]; exact Or.inr h
  have hS : va_S A s.heap s.heap [] := va_S.rf
  have hl := lv_entry ([.int p1, .int p2]) (n := 4) (Nat.le_of_ble_eq_true rfl)
  rw [lg_entry_eq]
  generalize (lg_sl ([.int p1, .int p2]) ++ List.replicate (4 - (lg_sl ([.int p1, .int p2])).length) Slot.unset).toArray = ls at hl ⊢
  have hl : lv_has ls 4 [(0, .int p1), (1, .int p2)] := hl
  obtain ⟨A4, hA4⟩ : ∃ Q : Int32 → Int32 → Prop, Q = (fun v2 v3 => ∀ (H : Heap) (locs : List Loc), va_P D vwCl ([] : va_W) H → va_D A ([] : va_W) → va_S A s.heap H locs → ∀ ls : Array Slot, lv_has ls 4 [(0, .int p1), (2, .int v2), (3, .int v3)] → W p l e (headSpec wsX5_memberOf ({ frames := 1, cells := 0, slots := 0, locals := 21 })).room s m ([.int p1, .int p2] : List Value).toArray below meth c H locs 0 0 (MQ below (va_Qi post (fun _ t => mAt D cs (A) ([] : va_W) t) A) ([.int p1, .int p2] : List Value).toArray s 0 0 A) (F0 m 4 ls [])) := ⟨_, rfl⟩
  have s4 : ∀ (v2 : Int32) (v3 : Int32), ((10 ≤ v3 → post (-1) ()) ∧ (¬ 10 ≤ v3 → wp_X5_contains p1 v3 (fun r_2 _ => ((r_2 = 0 → A4 v2 (v3 + 1)) ∧ (¬ r_2 = 0 → ((v2 = 0 → post v3 ()) ∧ (¬ v2 = 0 → A4 (v2 + (-1)) (v3 + 1)))))))) → A4 v2 v3 := by
    intro v2 v3 h
    rw [hA4]
    intro H locs hP hD hS ls hl
    refine lv_iload_n hx hb dX5_memberOf_4 rfl (lv_at hl 2 rfl) ?_
    refine lv_bipush (v := 10) hx hb dX5_memberOf_5 (by decide) ?_
    refine lv_icmp_ge (tgt := 33) hx hb dX5_memberOf_7 (by decide) (fun c_1 => ?_) (fun c_1 => ?_)
    · have h := h.1 c_1
      refine lv_iconst (v := (-1)) hx hb dX5_memberOf_33 (by decide) ?_
      exact W.iret (v := (-1)) hx hb hr (fun t ht hW => ⟨⟨(-1), (), rfl, h, by rw [ht]; exact hP, va_K.moved hW.alike hK, hD⟩, hS.F ht⟩) hS.2.2 dX5_memberOf_34
    · have h := h.2 c_1
      refine lv_iload_n hx hb dX5_memberOf_10 rfl (lv_at hl 0 rfl) ?_
      refine lv_iload_n hx hb dX5_memberOf_11 rfl (lv_at hl 2 rfl) ?_
      have hFc := va_free (wc := ([] : va_W)) hD hS hA [] rfl
      refine va_calli (va_runS (As := [.int p1, .int v3]) (rest := []) ⟨hx, hb, hml, hown, hts⟩ (met_X5_contains l D cs ev _ p1 v3 _ h) (va_cwS 2 hts gX5_memberOf_X5_contains rfl rfl rfl (by decide +kernel) ⟨Nat.le_of_ble_eq_true rfl, Nat.le_of_ble_eq_true rfl⟩) (mPreS hP hD hS hK hE hFc [] (by decide) rfl) rfl rfl hl.1 rfl (lv_room (Nat.le_of_ble_eq_true rfl)) dX5_memberOf_12 ⟨Nat.le_of_ble_eq_true rfl, Nat.le_of_ble_eq_true rfl⟩) hS (fun q _ h => hFc q h) hFc (fun r_2 u t H1 locs ht hvm hw hB hz1 hk1 hS => ?_)
      have h := hw
      obtain ⟨hP1, hK1, hD1⟩ := hB
      rw [ht] at hP1
      obtain ⟨hP, hD⟩ := mJoin (wr := ([] : va_W)) (w1 := ([] : va_W)) (w' := ([] : va_W)) hP hD [] [] rfl rfl (by decide) (by decide) hk1 hFc hP1 hD1 [] (by decide) rfl
      generalize H1 = H at hP hS ⊢
      refine lv_if_eq (tgt := 27) hx hb dX5_memberOf_15 (by decide) (fun c_3 => ?_) (fun c_3 => ?_)
      · have h := h.1 c_3
        refine lv_iinc (v := v3 + 1) (lv' := [(3, .int (v3 + 1)), (0, .int p1), (2, .int v2)]) hx hb dX5_memberOf_27 hl (k := 2) rfl rfl (by decide) rfl (fun ls hl => ?_)
        refine lv_goto (tgt := 4) hx hb dX5_memberOf_30 (by decide) ?_
        rw [hA4] at h
        exact h _ _ hP hD hS ls (lv_sub hl [1, 2, 0] rfl)
      · have h := h.2 c_3
        refine lv_iload_n hx hb dX5_memberOf_18 rfl (lv_at hl 1 rfl) ?_
        refine lv_if_ne (tgt := 24) hx hb dX5_memberOf_19 (by decide) (fun c_4 => ?_) (fun c_4 => ?_)
        · have h := h.2 c_4
          refine lv_iinc (v := v2 + (-1)) (lv' := [(2, .int (v2 + (-1))), (0, .int p1), (3, .int v3)]) hx hb dX5_memberOf_24 hl (k := 1) rfl rfl (by decide) rfl (fun ls hl => ?_)
          refine lv_iinc (v := v3 + 1) (lv' := [(3, .int (v3 + 1)), (2, .int (v2 + (-1))), (0, .int p1)]) hx hb dX5_memberOf_27 hl (k := 2) rfl rfl (by decide) rfl (fun ls hl => ?_)
          refine lv_goto (tgt := 4) hx hb dX5_memberOf_30 (by decide) ?_
          rw [hA4] at h
          exact h _ _ hP hD hS ls (lv_sub hl [2, 1, 0] rfl)
        · have h := h.1 c_4
          refine lv_iload_n hx hb dX5_memberOf_22 rfl (lv_at hl 2 rfl) ?_
          exact W.iret (v := v3) hx hb hr (fun t ht hW => ⟨⟨v3, (), rfl, h, by rw [ht]; exact hP, va_K.moved hW.alike hK, hD⟩, hS.F ht⟩) hS.2.2 dX5_memberOf_23
  have h := h A4 s4
  refine lv_iload_n hx hb dX5_memberOf_0 rfl (lv_at hl 1 rfl) ?_
  refine lv_istore_n (lv' := [(2, .int p2), (0, .int p1), (1, .int p2)]) hx hb dX5_memberOf_1 rfl hl (by decide) rfl (fun ls hl => ?_)
  refine lv_iconst (v := 0) hx hb dX5_memberOf_2 (by decide) ?_
  refine lv_istore_n (lv' := [(3, .int 0), (2, .int p2), (0, .int p1), (1, .int p2)]) hx hb dX5_memberOf_3 rfl hl (by decide) rfl (fun ls hl => ?_)
  rw [hA4] at h
  exact h _ _ hP hD hS ls (lv_sub hl [2, 1, 0] rfl)
def wp_X5_lowBits (p1 : Int64) (post : Int32 → Unit → Prop) : Prop :=
    post ((p1 &&& 1023).toInt32) ()
set_option maxHeartbeats 4000000 in
set_option maxRecDepth 100000 in
theorem met_X5_lowBits (l : Launch) (D : va_G) (cs : Nat → ClassId) (ev : Nat → Nat → Nat) (sz0 : Nat) (p1 : Int64) (post : Int32 → Unit → Prop) (h : wp_X5_lowBits p1 post) : Met l yX5_lowBits wsX5_lowBits ({ frames := 0, cells := 0, slots := 0, locals := 0 }) (va_Pc [.long p1] (mPre D cs ev ([] : va_W) sz0)) (va_Qi post (fun _ t => mAt D cs (va_A ([] : va_W) sz0) ([] : va_W) t) (va_A ([] : va_W) sz0)) 0 0 (va_A ([] : va_W) sz0) := by
  refine Met.ofW (cc := cX5_lowBits) (maxL := 2) (ret := (some .int)) (by decide) rfl ?_
  intro p e s m args below meth c s₁ B hml hv
  obtain ⟨rfl, hsz, hP, hK, hD0, hE⟩ := hv
  have hx := B.exec
  have hb := B.bytes
  have hr := B.returns
  have hts := atoms_spec (ws := wsX5_lowBits) B.pre
  have hown : s.vm.findClass RX5 = some m.cls := findClass_of_methodNamed B.named
  have hlocks := B.notSynchronized
  subst hsz
  have hD := hD0.self (sz := s.heap.size)
  generalize hAe : va_A ([] : va_W) s.heap.size = A at hD hE ⊢
  have hA : ∀ q : Nat, s.heap.size ≤ q → A q := fun q h => by rw [← hAe]; exact Or.inr h
  have hS : va_S A s.heap s.heap [] := va_S.rf
  have hl := lv_entry ([.long p1]) (n := 2) (Nat.le_of_ble_eq_true rfl)
  rw [lg_entry_eq]
  generalize (lg_sl ([.long p1]) ++ List.replicate (2 - (lg_sl ([.long p1])).length) Slot.unset).toArray = ls at hl ⊢
  have hl : lv_has ls 2 [(0, .long p1)] := hl
  refine lv_lload_n hx hb dX5_lowBits_0 rfl (lv_at hl 0 rfl) ?_
  refine lv_ldc2 (v := 1023) hx hb hown (hts (.constantLong RX5 137 1023) (by decide +kernel)) dX5_lowBits_1 ?_
  refine lv_land hx hb dX5_lowBits_4 ?_
  refine lv_l2i hx hb dX5_lowBits_5 rfl ?_
  exact W.iret (v := (p1 &&& 1023).toInt32) hx hb hr (fun t ht hW => ⟨⟨(p1 &&& 1023).toInt32, (), rfl, h, by rw [ht]; exact hP, va_K.moved hW.alike hK, hD⟩, hS.F ht⟩) hS.2.2 dX5_lowBits_6
def wp_X1_barIndex (p1 : Int32) (p2 : Int32) (post : Int32 → Unit → Prop) : Prop :=
    post ((p1 * 6) + p2) ()
set_option maxHeartbeats 4000000 in
set_option maxRecDepth 100000 in
theorem met_X1_barIndex (l : Launch) (D : va_G) (cs : Nat → ClassId) (ev : Nat → Nat → Nat) (sz0 : Nat) (p1 : Int32) (p2 : Int32) (post : Int32 → Unit → Prop) (h : wp_X1_barIndex p1 p2 post) : Met l yX1_barIndex wsX1_barIndex ({ frames := 0, cells := 0, slots := 0, locals := 0 }) (va_Pc [.int p1, .int p2] (mPre D cs ev ([] : va_W) sz0)) (va_Qi post (fun _ t => mAt D cs (va_A ([] : va_W) sz0) ([] : va_W) t) (va_A ([] : va_W) sz0)) 0 0 (va_A ([] : va_W) sz0) := by
  refine Met.ofW (cc := cX1_barIndex) (maxL := 2) (ret := (some .int)) (by decide) rfl ?_
  intro p e s m args below meth c s₁ B hml hv
  obtain ⟨rfl, hsz, hP, hK, hD0, hE⟩ := hv
  have hx := B.exec
  have hb := B.bytes
  have hr := B.returns
  have hts := atoms_spec (ws := wsX1_barIndex) B.pre
  have hown : s.vm.findClass RX1 = some m.cls := findClass_of_methodNamed B.named
  have hlocks := B.notSynchronized
  subst hsz
  have hD := hD0.self (sz := s.heap.size)
  generalize hAe : va_A ([] : va_W) s.heap.size = A at hD hE ⊢
  have hA : ∀ q : Nat, s.heap.size ≤ q → A q := fun q h => by rw [← hAe]; exact Or.inr h
  have hS : va_S A s.heap s.heap [] := va_S.rf
  have hl := lv_entry ([.int p1, .int p2]) (n := 2) (Nat.le_of_ble_eq_true rfl)
  rw [lg_entry_eq]
  generalize (lg_sl ([.int p1, .int p2]) ++ List.replicate (2 - (lg_sl ([.int p1, .int p2])).length) Slot.unset).toArray = ls at hl ⊢
  have hl : lv_has ls 2 [(0, .int p1), (1, .int p2)] := hl
  refine lv_iload_n hx hb dX1_barIndex_0 rfl (lv_at hl 0 rfl) ?_
  refine lv_bipush (v := 6) hx hb dX1_barIndex_1 (by decide) ?_
  refine lv_imul hx hb dX1_barIndex_3 ?_
  refine lv_iload_n hx hb dX1_barIndex_4 rfl (lv_at hl 1 rfl) ?_
  refine lv_iadd hx hb dX1_barIndex_5 ?_
  exact W.iret (v := (p1 * 6) + p2) hx hb hr (fun t ht hW => ⟨⟨(p1 * 6) + p2, (), rfl, h, by rw [ht]; exact hP, va_K.moved hW.alike hK, hD⟩, hS.F ht⟩) hS.2.2 dX1_barIndex_6
def wp_J6_bitCount_0f7a4 (p1 : Int32) (post : Int32 → Unit → Prop) : Prop :=
    (∀ y_1 : Int32, y_1 = p1 - (((p1.toUInt32 >>> ((1 : Int32).toUInt32 &&& Int32.toUInt32 31)).toInt32) &&& 1431655765) → (∀ y_2 : Int32, y_2 = (y_1 &&& 858993459) + (((y_1.toUInt32 >>> ((2 : Int32).toUInt32 &&& Int32.toUInt32 31)).toInt32) &&& 858993459) → (∀ y_3 : Int32, y_3 = (y_2 + ((y_2.toUInt32 >>> ((4 : Int32).toUInt32 &&& Int32.toUInt32 31)).toInt32)) &&& 252645135 → (∀ y_4 : Int32, y_4 = y_3 + ((y_3.toUInt32 >>> ((8 : Int32).toUInt32 &&& Int32.toUInt32 31)).toInt32) → (∀ y_5 : Int32, y_5 = y_4 + ((y_4.toUInt32 >>> ((16 : Int32).toUInt32 &&& Int32.toUInt32 31)).toInt32) → post (y_5 &&& 63) ())))))
set_option maxHeartbeats 4000000 in
set_option maxRecDepth 100000 in
theorem met_J6_bitCount_0f7a4 (l : Launch) (D : va_G) (cs : Nat → ClassId) (ev : Nat → Nat → Nat) (sz0 : Nat) (p1 : Int32) (post : Int32 → Unit → Prop) (h : wp_J6_bitCount_0f7a4 p1 post) : Met l yJ6_bitCount_0f7a4 wsJ6_bitCount_0f7a4 ({ frames := 0, cells := 0, slots := 0, locals := 0 }) (va_Pc [.int p1] (mPre D cs ev ([] : va_W) sz0)) (va_Qi post (fun _ t => mAt D cs (va_A ([] : va_W) sz0) ([] : va_W) t) (va_A ([] : va_W) sz0)) 0 0 (va_A ([] : va_W) sz0) := by
  refine Met.ofW (cc := cJ6_bitCount_0f7a4) (maxL := 1) (ret := (some .int)) (by decide) rfl ?_
  intro p e s m args below meth c s₁ B hml hv
  obtain ⟨rfl, hsz, hP, hK, hD0, hE⟩ := hv
  have hx := B.exec
  have hb := B.bytes
  have hr := B.returns
  have hts := atoms_spec (ws := wsJ6_bitCount_0f7a4) B.pre
  have hown : s.vm.findClass RJ6 = some m.cls := findClass_of_methodNamed B.named
  have hlocks := B.notSynchronized
  subst hsz
  have hD := hD0.self (sz := s.heap.size)
  generalize hAe : va_A ([] : va_W) s.heap.size = A at hD hE ⊢
  have hA : ∀ q : Nat, s.heap.size ≤ q → A q := fun q h => by rw [← hAe]; exact Or.inr h
  have hS : va_S A s.heap s.heap [] := va_S.rf
  have hl := lv_entry ([.int p1]) (n := 1) (Nat.le_of_ble_eq_true rfl)
  rw [lg_entry_eq]
  generalize (lg_sl ([.int p1]) ++ List.replicate (1 - (lg_sl ([.int p1])).length) Slot.unset).toArray = ls at hl ⊢
  have hl : lv_has ls 1 [(0, .int p1)] := hl
  refine lv_iload_n hx hb dJ6_bitCount_0f7a4_0 rfl (lv_at hl 0 rfl) ?_
  refine lv_iload_n hx hb dJ6_bitCount_0f7a4_1 rfl (lv_at hl 0 rfl) ?_
  refine lv_iconst (v := 1) hx hb dJ6_bitCount_0f7a4_2 (by decide) ?_
  refine lv_iushr hx hb dJ6_bitCount_0f7a4_3 rfl ?_
  refine lv_ldcw (v := 1431655765) hx hb hown (hts (.constant RJ6 265 1431655765) (by decide +kernel)) dJ6_bitCount_0f7a4_4 ?_
  refine lv_iand hx hb dJ6_bitCount_0f7a4_7 ?_
  refine lv_isub hx hb dJ6_bitCount_0f7a4_8 ?_
  refine lv_topi (fun y_1 ey_1 => ?_)
  have h := h y_1 ey_1
  refine lv_istore_n (lv' := [(0, .int y_1)]) hx hb dJ6_bitCount_0f7a4_9 rfl hl (by decide) rfl (fun ls hl => ?_)
  refine lv_iload_n hx hb dJ6_bitCount_0f7a4_10 rfl (lv_at hl 0 rfl) ?_
  refine lv_ldcw (v := 858993459) hx hb hown (hts (.constant RJ6 266 858993459) (by decide +kernel)) dJ6_bitCount_0f7a4_11 ?_
  refine lv_iand hx hb dJ6_bitCount_0f7a4_14 ?_
  refine lv_iload_n hx hb dJ6_bitCount_0f7a4_15 rfl (lv_at hl 0 rfl) ?_
  refine lv_iconst (v := 2) hx hb dJ6_bitCount_0f7a4_16 (by decide) ?_
  refine lv_iushr hx hb dJ6_bitCount_0f7a4_17 rfl ?_
  refine lv_ldcw (v := 858993459) hx hb hown (hts (.constant RJ6 266 858993459) (by decide +kernel)) dJ6_bitCount_0f7a4_18 ?_
  refine lv_iand hx hb dJ6_bitCount_0f7a4_21 ?_
  refine lv_iadd hx hb dJ6_bitCount_0f7a4_22 ?_
  refine lv_topi (fun y_2 ey_2 => ?_)
  have h := h y_2 ey_2
  refine lv_istore_n (lv' := [(0, .int y_2)]) hx hb dJ6_bitCount_0f7a4_23 rfl hl (by decide) rfl (fun ls hl => ?_)
  refine lv_iload_n hx hb dJ6_bitCount_0f7a4_24 rfl (lv_at hl 0 rfl) ?_
  refine lv_iload_n hx hb dJ6_bitCount_0f7a4_25 rfl (lv_at hl 0 rfl) ?_
  refine lv_iconst (v := 4) hx hb dJ6_bitCount_0f7a4_26 (by decide) ?_
  refine lv_iushr hx hb dJ6_bitCount_0f7a4_27 rfl ?_
  refine lv_iadd hx hb dJ6_bitCount_0f7a4_28 ?_
  refine lv_ldcw (v := 252645135) hx hb hown (hts (.constant RJ6 267 252645135) (by decide +kernel)) dJ6_bitCount_0f7a4_29 ?_
  refine lv_iand hx hb dJ6_bitCount_0f7a4_32 ?_
  refine lv_topi (fun y_3 ey_3 => ?_)
  have h := h y_3 ey_3
  refine lv_istore_n (lv' := [(0, .int y_3)]) hx hb dJ6_bitCount_0f7a4_33 rfl hl (by decide) rfl (fun ls hl => ?_)
  refine lv_iload_n hx hb dJ6_bitCount_0f7a4_34 rfl (lv_at hl 0 rfl) ?_
  refine lv_iload_n hx hb dJ6_bitCount_0f7a4_35 rfl (lv_at hl 0 rfl) ?_
  refine lv_bipush (v := 8) hx hb dJ6_bitCount_0f7a4_36 (by decide) ?_
  refine lv_iushr hx hb dJ6_bitCount_0f7a4_38 rfl ?_
  refine lv_iadd hx hb dJ6_bitCount_0f7a4_39 ?_
  refine lv_topi (fun y_4 ey_4 => ?_)
  have h := h y_4 ey_4
  refine lv_istore_n (lv' := [(0, .int y_4)]) hx hb dJ6_bitCount_0f7a4_40 rfl hl (by decide) rfl (fun ls hl => ?_)
  refine lv_iload_n hx hb dJ6_bitCount_0f7a4_41 rfl (lv_at hl 0 rfl) ?_
  refine lv_iload_n hx hb dJ6_bitCount_0f7a4_42 rfl (lv_at hl 0 rfl) ?_
  refine lv_bipush (v := 16) hx hb dJ6_bitCount_0f7a4_43 (by decide) ?_
  refine lv_iushr hx hb dJ6_bitCount_0f7a4_45 rfl ?_
  refine lv_iadd hx hb dJ6_bitCount_0f7a4_46 ?_
  refine lv_topi (fun y_5 ey_5 => ?_)
  have h := h y_5 ey_5
  refine lv_istore_n (lv' := [(0, .int y_5)]) hx hb dJ6_bitCount_0f7a4_47 rfl hl (by decide) rfl (fun ls hl => ?_)
  refine lv_iload_n hx hb dJ6_bitCount_0f7a4_48 rfl (lv_at hl 0 rfl) ?_
  refine lv_bipush (v := 63) hx hb dJ6_bitCount_0f7a4_49 (by decide) ?_
  refine lv_iand hx hb dJ6_bitCount_0f7a4_51 ?_
  exact W.iret (v := y_5 &&& 63) hx hb hr (fun t ht hW => ⟨⟨y_5 &&& 63, (), rfl, h, by rw [ht]; exact hP, va_K.moved hW.alike hK, hD⟩, hS.F ht⟩) hS.2.2 dJ6_bitCount_0f7a4_52
def wp_Jx29ce0_ordinal_8abf5 (k : Nat) (post : Int32 → Unit → Prop) : Prop :=
    (k < 7 ∧ post (([0, 1, 2, 3, 4, 5, 6] : List Int32).getD k 0) ())
set_option maxHeartbeats 4000000 in
set_option maxRecDepth 100000 in
theorem met_Jx29ce0_ordinal_8abf5 (l : Launch) (D : va_G) (cs : Nat → ClassId) (ev : Nat → Nat → Nat) (sz0 : Nat) (k : Nat) (post : Int32 → Unit → Prop) (h : wp_Jx29ce0_ordinal_8abf5 k post) : Met l yJx29ce0_ordinal_8abf5 wsJx29ce0_ordinal_8abf5 ({ frames := 0, cells := 0, slots := 0, locals := 0 }) (va_Pc [.ref (ev 0 k)] (mPre D cs ev ([] : va_W) sz0)) (va_Qi post (fun _ t => mAt D cs (va_A ([] : va_W) sz0) ([] : va_W) t) (va_A ([] : va_W) sz0)) 0 0 (va_A ([] : va_W) sz0) := by
  refine Met.ofW (cc := cJx29ce0_ordinal_8abf5) (maxL := 1) (ret := (some .int)) (by decide) rfl ?_
  intro p e s m args below meth c s₁ B hml hv
  obtain ⟨rfl, hsz, hP, hK, hD0, hE⟩ := hv
  have hx := B.exec
  have hb := B.bytes
  have hr := B.returns
  have hts := atoms_spec (ws := wsJx29ce0_ordinal_8abf5) B.pre
  have hown : s.vm.findClass RJx29ce0 = some m.cls := findClass_of_methodNamed B.named
  have hlocks := B.notSynchronized
  subst hsz
  have hD := hD0.self (sz := s.heap.size)
  generalize hAe : va_A ([] : va_W) s.heap.size = A at hD hE ⊢
  have hA : ∀ q : Nat, s.heap.size ≤ q → A q := fun q h => by rw [← hAe]; exact Or.inr h
  have hS : va_S A s.heap s.heap [] := va_S.rf
  have hl := lv_entry ([.ref (ev 0 k)]) (n := 1) (Nat.le_of_ble_eq_true rfl)
  rw [lg_entry_eq]
  generalize (lg_sl ([.ref (ev 0 k)]) ++ List.replicate (1 - (lg_sl ([.ref (ev 0 k)])).length) Slot.unset).toArray = ls at hl ⊢
  have hl : lv_has ls 1 [(0, .ref (ev 0 k))] := hl
  refine lv_aload_n hx hb dJx29ce0_ordinal_8abf5_0 rfl (lv_at hl 0 rfl) ?_
  have hk := h.1
  have h := h.2
  refine va_getE (i := k) hx hb hE.2.2.1 hk hS hown (q := ("java/lang/Enum", "ordinal", "I", [0, 1, 2, 3, 4, 5, 6])) (by decide) (hts (.fieldLink RJx29ce0 7 "java/lang/Enum" "ordinal" "I") (by decide +kernel)) (fun _ h9 => h9) dJx29ce0_ordinal_8abf5_1 ?_
  exact W.iret (v := ([0, 1, 2, 3, 4, 5, 6] : List Int32).getD k 0) hx hb hr (fun t ht hW => ⟨⟨([0, 1, 2, 3, 4, 5, 6] : List Int32).getD k 0, (), rfl, h, by rw [ht]; exact hP, va_K.moved hW.alike hK, hD⟩, hS.F ht⟩) hS.2.2 dJx29ce0_ordinal_8abf5_4
def wp_J3_checkIndex_8e157_N (p1 : Int32) (p2 : Int32) (post : Int32 → Unit → Prop) : Prop :=
    ((p1 < 0 → False) ∧ (¬ p1 < 0 → ((p1 < p2 → post p1 ()) ∧ (¬ p1 < p2 → False))))
set_option maxHeartbeats 4000000 in
set_option maxRecDepth 100000 in
theorem met_J3_checkIndex_8e157_N (l : Launch) (D : va_G) (cs : Nat → ClassId) (ev : Nat → Nat → Nat) (sz0 : Nat) (p1 : Int32) (p2 : Int32) (post : Int32 → Unit → Prop) (h : wp_J3_checkIndex_8e157_N p1 p2 post) : Met l yJ3_checkIndex_8e157 wsJ3_checkIndex_8e157 ({ frames := 0, cells := 0, slots := 0, locals := 0 }) (va_Pc [.int p1, .int p2, .null] (mPre D cs ev ([] : va_W) sz0)) (va_Qi post (fun _ t => mAt D cs (va_A ([] : va_W) sz0) ([] : va_W) t) (va_A ([] : va_W) sz0)) 0 0 (va_A ([] : va_W) sz0) := by
  refine Met.ofW (cc := cJ3_checkIndex_8e157) (maxL := 3) (ret := (some .int)) (by decide) rfl ?_
  intro p e s m args below meth c s₁ B hml hv
  obtain ⟨rfl, hsz, hP, hK, hD0, hE⟩ := hv
  have hx := B.exec
  have hb := B.bytes
  have hr := B.returns
  have hts := atoms_spec (ws := wsJ3_checkIndex_8e157) B.pre
  have hown : s.vm.findClass RJ3 = some m.cls := findClass_of_methodNamed B.named
  have hlocks := B.notSynchronized
  subst hsz
  have hD := hD0.self (sz := s.heap.size)
  generalize hAe : va_A ([] : va_W) s.heap.size = A at hD hE ⊢
  have hA : ∀ q : Nat, s.heap.size ≤ q → A q := fun q h => by rw [← hAe]; exact Or.inr h
  have hS : va_S A s.heap s.heap [] := va_S.rf
  have hl := lv_entry ([.int p1, .int p2, .null]) (n := 3) (Nat.le_of_ble_eq_true rfl)
  rw [lg_entry_eq]
  generalize (lg_sl ([.int p1, .int p2, .null]) ++ List.replicate (3 - (lg_sl ([.int p1, .int p2, .null])).length) Slot.unset).toArray = ls at hl ⊢
  have hl : lv_has ls 3 [(0, .int p1), (1, .int p2), (2, .null)] := hl
  refine lv_iload_n hx hb dJ3_checkIndex_8e157_0 rfl (lv_at hl 0 rfl) ?_
  refine lv_if_lt (tgt := 9) hx hb dJ3_checkIndex_8e157_1 (by decide) (fun c_1 => ?_) (fun c_1 => ?_)
  · have h := h.1 c_1
    exact h.elim
  · have h := h.2 c_1
    refine lv_iload_n hx hb dJ3_checkIndex_8e157_4 rfl (lv_at hl 0 rfl) ?_
    refine lv_iload_n hx hb dJ3_checkIndex_8e157_5 rfl (lv_at hl 1 rfl) ?_
    refine lv_icmp_lt (tgt := 16) hx hb dJ3_checkIndex_8e157_6 (by decide) (fun c_2 => ?_) (fun c_2 => ?_)
    · have h := h.1 c_2
      refine lv_iload_n hx hb dJ3_checkIndex_8e157_16 rfl (lv_at hl 0 rfl) ?_
      exact W.iret (v := p1) hx hb hr (fun t ht hW => ⟨⟨p1, (), rfl, h, by rw [ht]; exact hP, va_K.moved hW.alike hK, hD⟩, hS.F ht⟩) hS.2.2 dJ3_checkIndex_8e157_17
    · have h := h.2 c_2
      exact h.elim
def wp_J3_checkIndex_8e157_R (p1 : Int32) (p2 : Int32) (any0 : Nat) (post : Int32 → Unit → Prop) : Prop :=
    ((p1 < 0 → False) ∧ (¬ p1 < 0 → ((p1 < p2 → post p1 ()) ∧ (¬ p1 < p2 → False))))
set_option maxHeartbeats 4000000 in
set_option maxRecDepth 100000 in
theorem met_J3_checkIndex_8e157_R (l : Launch) (D : va_G) (cs : Nat → ClassId) (ev : Nat → Nat → Nat) (sz0 : Nat) (p1 : Int32) (p2 : Int32) (any0 : Nat) (post : Int32 → Unit → Prop) (h : wp_J3_checkIndex_8e157_R p1 p2 any0 post) : Met l yJ3_checkIndex_8e157 wsJ3_checkIndex_8e157 ({ frames := 0, cells := 0, slots := 0, locals := 0 }) (va_Pc [.int p1, .int p2, .ref any0] (mPre D cs ev ([] : va_W) sz0)) (va_Qi post (fun _ t => mAt D cs (va_A ([] : va_W) sz0) ([] : va_W) t) (va_A ([] : va_W) sz0)) 0 0 (va_A ([] : va_W) sz0) := by
  refine Met.ofW (cc := cJ3_checkIndex_8e157) (maxL := 3) (ret := (some .int)) (by decide) rfl ?_
  intro p e s m args below meth c s₁ B hml hv
  obtain ⟨rfl, hsz, hP, hK, hD0, hE⟩ := hv
  have hx := B.exec
  have hb := B.bytes
  have hr := B.returns
  have hts := atoms_spec (ws := wsJ3_checkIndex_8e157) B.pre
  have hown : s.vm.findClass RJ3 = some m.cls := findClass_of_methodNamed B.named
  have hlocks := B.notSynchronized
  subst hsz
  have hD := hD0.self (sz := s.heap.size)
  generalize hAe : va_A ([] : va_W) s.heap.size = A at hD hE ⊢
  have hA : ∀ q : Nat, s.heap.size ≤ q → A q := fun q h => by rw [← hAe]; exact Or.inr h
  have hS : va_S A s.heap s.heap [] := va_S.rf
  have hl := lv_entry ([.int p1, .int p2, .ref any0]) (n := 3) (Nat.le_of_ble_eq_true rfl)
  rw [lg_entry_eq]
  generalize (lg_sl ([.int p1, .int p2, .ref any0]) ++ List.replicate (3 - (lg_sl ([.int p1, .int p2, .ref any0])).length) Slot.unset).toArray = ls at hl ⊢
  have hl : lv_has ls 3 [(0, .int p1), (1, .int p2), (2, .ref any0)] := hl
  refine lv_iload_n hx hb dJ3_checkIndex_8e157_0 rfl (lv_at hl 0 rfl) ?_
  refine lv_if_lt (tgt := 9) hx hb dJ3_checkIndex_8e157_1 (by decide) (fun c_1 => ?_) (fun c_1 => ?_)
  · have h := h.1 c_1
    exact h.elim
  · have h := h.2 c_1
    refine lv_iload_n hx hb dJ3_checkIndex_8e157_4 rfl (lv_at hl 0 rfl) ?_
    refine lv_iload_n hx hb dJ3_checkIndex_8e157_5 rfl (lv_at hl 1 rfl) ?_
    refine lv_icmp_lt (tgt := 16) hx hb dJ3_checkIndex_8e157_6 (by decide) (fun c_2 => ?_) (fun c_2 => ?_)
    · have h := h.1 c_2
      refine lv_iload_n hx hb dJ3_checkIndex_8e157_16 rfl (lv_at hl 0 rfl) ?_
      exact W.iret (v := p1) hx hb hr (fun t ht hW => ⟨⟨p1, (), rfl, h, by rw [ht]; exact hP, va_K.moved hW.alike hK, hD⟩, hS.F ht⟩) hS.2.2 dJ3_checkIndex_8e157_17
    · have h := h.2 c_2
      exact h.elim
def wp_J0_checkIndex_df160 (p1 : Int32) (p2 : Int32) (post : Unit → Prop) : Prop :=
    (wp_J3_checkIndex_8e157_N p1 p2 (fun r_2 _ => post ()) ∧ ∀ any_1 : Nat, wp_J3_checkIndex_8e157_R p1 p2 any_1 (fun r_3 _ => post ()))
set_option maxHeartbeats 4000000 in
set_option maxRecDepth 100000 in
theorem met_J0_checkIndex_df160 (l : Launch) (D : va_G) (cs : Nat → ClassId) (ev : Nat → Nat → Nat) (sz0 : Nat) (p1 : Int32) (p2 : Int32) (post : Unit → Prop) (h : wp_J0_checkIndex_df160 p1 p2 post) : Met l yJ0_checkIndex_df160 wsJ0_checkIndex_df160 ({ frames := 1, cells := 0, slots := 0, locals := 22 }) (va_Pc [.int p1, .int p2] (mPre D cs ev ([] : va_W) sz0)) (va_Qv post (fun _ t => mAt D cs (va_A ([] : va_W) sz0) ([] : va_W) t) (va_A ([] : va_W) sz0)) 0 0 (va_A ([] : va_W) sz0) := by
  refine Met.ofW (cc := cJ0_checkIndex_df160) (maxL := 2) (ret := none) (by decide) rfl ?_
  intro p e s m args below meth c s₁ B hml hv
  obtain ⟨rfl, hsz, hP, hK, hD0, hE⟩ := hv
  have hx := B.exec
  have hb := B.bytes
  have hr := B.returns
  have hts := atoms_spec (ws := wsJ0_checkIndex_df160) B.pre
  have hown : s.vm.findClass RJ0 = some m.cls := findClass_of_methodNamed B.named
  have hlocks := B.notSynchronized
  subst hsz
  have hD := hD0.self (sz := s.heap.size)
  generalize hAe : va_A ([] : va_W) s.heap.size = A at hD hE ⊢
  have hA : ∀ q : Nat, s.heap.size ≤ q → A q := fun q h => by rw [← hAe]; exact Or.inr h
  have hS : va_S A s.heap s.heap [] := va_S.rf
  have hl := lv_entry ([.int p1, .int p2]) (n := 2) (Nat.le_of_ble_eq_true rfl)
  rw [lg_entry_eq]
  generalize (lg_sl ([.int p1, .int p2]) ++ List.replicate (2 - (lg_sl ([.int p1, .int p2])).length) Slot.unset).toArray = ls at hl ⊢
  have hl : lv_has ls 2 [(0, .int p1), (1, .int p2)] := hl
  refine lv_iload_n hx hb dJ0_checkIndex_df160_0 rfl (lv_at hl 0 rfl) ?_
  refine lv_iload_n hx hb dJ0_checkIndex_df160_1 rfl (lv_at hl 1 rfl) ?_
  rcases hE.2.2.2.2.2.2.2.2.2.2 with hz | ⟨any_1, hz⟩
  · refine va_gets hx hb hz hS hown (hts (.fieldLink RJ0 1053 "jdk/internal/util/Preconditions" "SIOOBE_FORMATTER" "Ljava/util/function/BiFunction;") (by decide +kernel)) (fun _ h9 => h9) dJ0_checkIndex_df160_2 ?_
    have h := h.1
    have hFc := va_free (wc := ([] : va_W)) hD hS hA [] rfl
    refine va_calli (va_runS (As := [.int p1, .int p2, .null]) (rest := []) ⟨hx, hb, hml, hown, hts⟩ (met_J3_checkIndex_8e157_N l D cs ev _ p1 p2 _ h) (va_cwS 3 hts gJ0_checkIndex_df160_J3_checkIndex_8e157 rfl rfl rfl (by decide +kernel) ⟨Nat.le_of_ble_eq_true rfl, Nat.le_of_ble_eq_true rfl⟩) (mPreS hP hD hS hK hE hFc [] (by decide) rfl) rfl rfl hl.1 rfl (lv_room (Nat.le_of_ble_eq_true rfl)) dJ0_checkIndex_df160_5 ⟨Nat.le_of_ble_eq_true rfl, Nat.le_of_ble_eq_true rfl⟩) hS (fun q _ h => hFc q h) hFc (fun r_2 u t H1 locs ht hvm hw hB hz1 hk1 hS => ?_)
    have h := hw
    obtain ⟨hP1, hK1, hD1⟩ := hB
    rw [ht] at hP1
    obtain ⟨hP, hD⟩ := mJoin (wr := ([] : va_W)) (w1 := ([] : va_W)) (w' := ([] : va_W)) hP hD [] [] rfl rfl (by decide) (by decide) hk1 hFc hP1 hD1 [] (by decide) rfl
    generalize H1 = H at hP hS ⊢
    refine lv_pop hx hb dJ0_checkIndex_df160_8 rfl ?_
    exact W.vret hx hb hr (fun t ht hW => ⟨⟨(), rfl, h, by rw [ht]; exact hP, va_K.moved hW.alike hK, hD⟩, hS.F ht⟩) hS.2.2 dJ0_checkIndex_df160_9
  · refine va_gets hx hb hz hS hown (hts (.fieldLink RJ0 1053 "jdk/internal/util/Preconditions" "SIOOBE_FORMATTER" "Ljava/util/function/BiFunction;") (by decide +kernel)) (fun _ h9 => h9) dJ0_checkIndex_df160_2 ?_
    have h := h.2 any_1
    have hFc := va_free (wc := ([] : va_W)) hD hS hA [] rfl
    refine va_calli (va_runS (As := [.int p1, .int p2, .ref any_1]) (rest := []) ⟨hx, hb, hml, hown, hts⟩ (met_J3_checkIndex_8e157_R l D cs ev _ p1 p2 any_1 _ h) (va_cwS 3 hts gJ0_checkIndex_df160_J3_checkIndex_8e157 rfl rfl rfl (by decide +kernel) ⟨Nat.le_of_ble_eq_true rfl, Nat.le_of_ble_eq_true rfl⟩) (mPreS hP hD hS hK hE hFc [] (by decide) rfl) rfl rfl hl.1 rfl (lv_room (Nat.le_of_ble_eq_true rfl)) dJ0_checkIndex_df160_5 ⟨Nat.le_of_ble_eq_true rfl, Nat.le_of_ble_eq_true rfl⟩) hS (fun q _ h => hFc q h) hFc (fun r_3 u t H1 locs ht hvm hw hB hz1 hk1 hS => ?_)
    have h := hw
    obtain ⟨hP1, hK1, hD1⟩ := hB
    rw [ht] at hP1
    obtain ⟨hP, hD⟩ := mJoin (wr := ([] : va_W)) (w1 := ([] : va_W)) (w' := ([] : va_W)) hP hD [] [] rfl rfl (by decide) (by decide) hk1 hFc hP1 hD1 [] (by decide) rfl
    generalize H1 = H at hP hS ⊢
    refine lv_pop hx hb dJ0_checkIndex_df160_8 rfl ?_
    exact W.vret hx hb hr (fun t ht hW => ⟨⟨(), rfl, h, by rw [ht]; exact hP, va_K.moved hW.alike hK, hD⟩, hS.F ht⟩) hS.2.2 dJ0_checkIndex_df160_9
def wp_J1_charAt_3b067 (k : Nat) (p2 : Int32) (post : Int32 → Unit → Prop) : Prop :=
    (k < 9 ∧ wp_J0_checkIndex_df160 p2 (Int32.ofNat (strLen.getD k 0)) (fun _ => (k < 9 ∧ vp_in p2 (strLen.getD k 0) ∧ (narrow .char (.int (((((strByt.getD k []).getD p2.toNatClampNeg 0) &&& 255).toUInt32 % 65536).toInt32)) = .int (((((strByt.getD k []).getD p2.toNatClampNeg 0) &&& 255).toUInt32 % 65536).toInt32) ∧ post (((((strByt.getD k []).getD p2.toNatClampNeg 0) &&& 255).toUInt32 % 65536).toInt32) ()))))
set_option maxHeartbeats 4000000 in
set_option maxRecDepth 100000 in
theorem met_J1_charAt_3b067 (l : Launch) (D : va_G) (cs : Nat → ClassId) (ev : Nat → Nat → Nat) (sz0 : Nat) (k : Nat) (p2 : Int32) (post : Int32 → Unit → Prop) (h : wp_J1_charAt_3b067 k p2 post) : Met l yJ1_charAt_3b067 wsJ1_charAt_3b067 ({ frames := 2, cells := 0, slots := 0, locals := 43 }) (va_Pc [.ref (ev 2 k), .int p2] (mPre D cs ev ([] : va_W) sz0)) (va_Qi post (fun _ t => mAt D cs (va_A ([] : va_W) sz0) ([] : va_W) t) (va_A ([] : va_W) sz0)) 0 0 (va_A ([] : va_W) sz0) := by
  refine Met.ofW (cc := cJ1_charAt_3b067) (maxL := 2) (ret := (some .char)) (by decide) rfl ?_
  intro p e s m args below meth c s₁ B hml hv
  obtain ⟨rfl, hsz, hP, hK, hD0, hE⟩ := hv
  have hx := B.exec
  have hb := B.bytes
  have hr := B.returns
  have hts := atoms_spec (ws := wsJ1_charAt_3b067) B.pre
  have hown : s.vm.findClass RJ1 = some m.cls := findClass_of_methodNamed B.named
  have hlocks := B.notSynchronized
  subst hsz
  have hD := hD0.self (sz := s.heap.size)
  generalize hAe : va_A ([] : va_W) s.heap.size = A at hD hE ⊢
  have hA : ∀ q : Nat, s.heap.size ≤ q → A q := fun q h => by rw [← hAe]; exact Or.inr h
  have hS : va_S A s.heap s.heap [] := va_S.rf
  have hl := lv_entry ([.ref (ev 2 k), .int p2]) (n := 2) (Nat.le_of_ble_eq_true rfl)
  rw [lg_entry_eq]
  generalize (lg_sl ([.ref (ev 2 k), .int p2]) ++ List.replicate (2 - (lg_sl ([.ref (ev 2 k), .int p2])).length) Slot.unset).toArray = ls at hl ⊢
  have hl : lv_has ls 2 [(0, .ref (ev 2 k)), (1, .int p2)] := hl
  refine lv_iload_n hx hb dJ1_charAt_3b067_0 rfl (lv_at hl 1 rfl) ?_
  refine lv_aload_n hx hb dJ1_charAt_3b067_1 rfl (lv_at hl 0 rfl) ?_
  have hk := h.1
  have h := h.2
  refine va_tlen hx hb (hE.2.2.2.2.1.1 k hk).2.2.2 hS rfl dJ1_charAt_3b067_2 ?_
  have hFc := va_free (wc := ([] : va_W)) hD hS hA [] rfl
  refine va_callv (va_runS (As := [.int p2, .int (Int32.ofNat (strLen.getD k 0))]) (rest := []) ⟨hx, hb, hml, hown, hts⟩ (met_J0_checkIndex_df160 l D cs ev _ p2 (Int32.ofNat (strLen.getD k 0)) _ h) (va_cwS 2 hts gJ1_charAt_3b067_J0_checkIndex_df160 rfl rfl rfl (by decide +kernel) ⟨Nat.le_of_ble_eq_true rfl, Nat.le_of_ble_eq_true rfl⟩) (mPreS hP hD hS hK hE hFc [] (by decide) rfl) rfl rfl hl.1 rfl (lv_room (Nat.le_of_ble_eq_true rfl)) dJ1_charAt_3b067_3 ⟨Nat.le_of_ble_eq_true rfl, Nat.le_of_ble_eq_true rfl⟩) hS (fun q _ h => hFc q h) hFc (fun u t H1 locs ht hvm hw hB hz1 hk1 hS => ?_)
  have h := hw
  obtain ⟨hP1, hK1, hD1⟩ := hB
  rw [ht] at hP1
  obtain ⟨hP, hD⟩ := mJoin (wr := ([] : va_W)) (w1 := ([] : va_W)) (w' := ([] : va_W)) hP hD [] [] rfl rfl (by decide) (by decide) hk1 hFc hP1 hD1 [] (by decide) rfl
  generalize H1 = H at hP hS ⊢
  refine lv_aload_n hx hb dJ1_charAt_3b067_6 rfl (lv_at hl 0 rfl) ?_
  refine lv_iload_n hx hb dJ1_charAt_3b067_7 rfl (lv_at hl 1 rfl) ?_
  have hk := h.1
  have hin := h.2.1
  have h := h.2.2
  refine va_tb (v := .int ((strByt.getD k []).getD p2.toNatClampNeg 0)) hx hb (hE.2.2.2.2.1.1 k hk).2.2.2 hS hin rfl dJ1_charAt_3b067_8 ?_
  refine lv_sipush (v := 255) hx hb dJ1_charAt_3b067_9 (by decide) ?_
  refine lv_iand hx hb dJ1_charAt_3b067_12 ?_
  refine lv_i2c hx hb dJ1_charAt_3b067_13 rfl ?_
  have hn := h.1
  have h := h.2
  exact W.zret (v := ((((strByt.getD k []).getD p2.toNatClampNeg 0) &&& 255).toUInt32 % 65536).toInt32) hx hb hr hn (fun t ht hW => ⟨⟨((((strByt.getD k []).getD p2.toNatClampNeg 0) &&& 255).toUInt32 % 65536).toInt32, (), rfl, h, by rw [ht]; exact hP, va_K.moved hW.alike hK, hD⟩, hS.F ht⟩) hS.2.2 dJ1_charAt_3b067_14
def wp_J0_isLatin1_aae02 (k : Nat) (post : Int32 → Unit → Prop) : Prop :=
    (((1 : Int32) = 0 → post 0 ()) ∧ (¬ (1 : Int32) = 0 → (k < 9 ∧ (((0 : Int32) = 0 → post 1 ()) ∧ (¬ (0 : Int32) = 0 → post 0 ())))))
set_option maxHeartbeats 4000000 in
set_option maxRecDepth 100000 in
theorem met_J0_isLatin1_aae02 (l : Launch) (D : va_G) (cs : Nat → ClassId) (ev : Nat → Nat → Nat) (sz0 : Nat) (k : Nat) (post : Int32 → Unit → Prop) (h : wp_J0_isLatin1_aae02 k post) : Met l yJ0_isLatin1_aae02 wsJ0_isLatin1_aae02 ({ frames := 0, cells := 0, slots := 0, locals := 0 }) (va_Pc [.ref (ev 1 k)] (mPre D cs ev ([] : va_W) sz0)) (va_Qi post (fun _ t => mAt D cs (va_A ([] : va_W) sz0) ([] : va_W) t) (va_A ([] : va_W) sz0)) 0 0 (va_A ([] : va_W) sz0) := by
  refine Met.ofW (cc := cJ0_isLatin1_aae02) (maxL := 1) (ret := (some .boolean)) (by decide) rfl ?_
  intro p e s m args below meth c s₁ B hml hv
  obtain ⟨rfl, hsz, hP, hK, hD0, hE⟩ := hv
  have hx := B.exec
  have hb := B.bytes
  have hr := B.returns
  have hts := atoms_spec (ws := wsJ0_isLatin1_aae02) B.pre
  have hown : s.vm.findClass RJ0 = some m.cls := findClass_of_methodNamed B.named
  have hlocks := B.notSynchronized
  subst hsz
  have hD := hD0.self (sz := s.heap.size)
  generalize hAe : va_A ([] : va_W) s.heap.size = A at hD hE ⊢
  have hA : ∀ q : Nat, s.heap.size ≤ q → A q := fun q h => by rw [← hAe]; exact Or.inr h
  have hS : va_S A s.heap s.heap [] := va_S.rf
  have hl := lv_entry ([.ref (ev 1 k)]) (n := 1) (Nat.le_of_ble_eq_true rfl)
  rw [lg_entry_eq]
  generalize (lg_sl ([.ref (ev 1 k)]) ++ List.replicate (1 - (lg_sl ([.ref (ev 1 k)])).length) Slot.unset).toArray = ls at hl ⊢
  have hl : lv_has ls 1 [(0, .ref (ev 1 k))] := hl
  refine va_gets hx hb hE.2.2.2.2.2.2.2.2.2.1 hS hown (hts (.fieldLink RJ0 38 "java/lang/String" "COMPACT_STRINGS" "Z") (by decide +kernel)) (fun _ h9 => h9) dJ0_isLatin1_aae02_0 ?_
  refine lv_if_eq (tgt := 17) hx hb dJ0_isLatin1_aae02_3 (by decide) (fun c_1 => ?_) (fun c_1 => ?_)
  · have h := h.1 c_1
    refine lv_iconst (v := 0) hx hb dJ0_isLatin1_aae02_17 (by decide) ?_
    exact W.zret (v := 0) hx hb hr (by decide) (fun t ht hW => ⟨⟨0, (), rfl, h, by rw [ht]; exact hP, va_K.moved hW.alike hK, hD⟩, hS.F ht⟩) hS.2.2 dJ0_isLatin1_aae02_18
  · have h := h.2 c_1
    refine lv_aload_n hx hb dJ0_isLatin1_aae02_6 rfl (lv_at hl 0 rfl) ?_
    have hk := h.1
    have h := h.2
    refine vk_getf (v := .int 0) hx hb (hE.2.2.2.2.1.1 k hk).2.1 hS hown (hts (.fieldLink RJ0 15 "java/lang/String" "coder" "B") (by decide +kernel)) (fun _ h9 => h9) dJ0_isLatin1_aae02_7 ?_
    refine lv_if_ne (tgt := 17) hx hb dJ0_isLatin1_aae02_10 (by decide) (fun c_2 => ?_) (fun c_2 => ?_)
    · have h := h.2 c_2
      refine lv_iconst (v := 0) hx hb dJ0_isLatin1_aae02_17 (by decide) ?_
      exact W.zret (v := 0) hx hb hr (by decide) (fun t ht hW => ⟨⟨0, (), rfl, h, by rw [ht]; exact hP, va_K.moved hW.alike hK, hD⟩, hS.F ht⟩) hS.2.2 dJ0_isLatin1_aae02_18
    · have h := h.1 c_2
      refine lv_iconst (v := 1) hx hb dJ0_isLatin1_aae02_13 (by decide) ?_
      refine lv_goto (tgt := 18) hx hb dJ0_isLatin1_aae02_14 (by decide) ?_
      exact W.zret (v := 1) hx hb hr (by decide) (fun t ht hW => ⟨⟨1, (), rfl, h, by rw [ht]; exact hP, va_K.moved hW.alike hK, hD⟩, hS.F ht⟩) hS.2.2 dJ0_isLatin1_aae02_18
def wp_J0_coder_7d493 (k : Nat) (post : Int32 → Unit → Prop) : Prop :=
    (((1 : Int32) = 0 → post 1 ()) ∧ (¬ (1 : Int32) = 0 → (k < 9 ∧ post 0 ())))
set_option maxHeartbeats 4000000 in
set_option maxRecDepth 100000 in
theorem met_J0_coder_7d493 (l : Launch) (D : va_G) (cs : Nat → ClassId) (ev : Nat → Nat → Nat) (sz0 : Nat) (k : Nat) (post : Int32 → Unit → Prop) (h : wp_J0_coder_7d493 k post) : Met l yJ0_coder_7d493 wsJ0_coder_7d493 ({ frames := 0, cells := 0, slots := 0, locals := 0 }) (va_Pc [.ref (ev 1 k)] (mPre D cs ev ([] : va_W) sz0)) (va_Qi post (fun _ t => mAt D cs (va_A ([] : va_W) sz0) ([] : va_W) t) (va_A ([] : va_W) sz0)) 0 0 (va_A ([] : va_W) sz0) := by
  refine Met.ofW (cc := cJ0_coder_7d493) (maxL := 1) (ret := (some .byte)) (by decide) rfl ?_
  intro p e s m args below meth c s₁ B hml hv
  obtain ⟨rfl, hsz, hP, hK, hD0, hE⟩ := hv
  have hx := B.exec
  have hb := B.bytes
  have hr := B.returns
  have hts := atoms_spec (ws := wsJ0_coder_7d493) B.pre
  have hown : s.vm.findClass RJ0 = some m.cls := findClass_of_methodNamed B.named
  have hlocks := B.notSynchronized
  subst hsz
  have hD := hD0.self (sz := s.heap.size)
  generalize hAe : va_A ([] : va_W) s.heap.size = A at hD hE ⊢
  have hA : ∀ q : Nat, s.heap.size ≤ q → A q := fun q h => by rw [← hAe]; exact Or.inr h
  have hS : va_S A s.heap s.heap [] := va_S.rf
  have hl := lv_entry ([.ref (ev 1 k)]) (n := 1) (Nat.le_of_ble_eq_true rfl)
  rw [lg_entry_eq]
  generalize (lg_sl ([.ref (ev 1 k)]) ++ List.replicate (1 - (lg_sl ([.ref (ev 1 k)])).length) Slot.unset).toArray = ls at hl ⊢
  have hl : lv_has ls 1 [(0, .ref (ev 1 k))] := hl
  refine va_gets hx hb hE.2.2.2.2.2.2.2.2.2.1 hS hown (hts (.fieldLink RJ0 38 "java/lang/String" "COMPACT_STRINGS" "Z") (by decide +kernel)) (fun _ h9 => h9) dJ0_coder_7d493_0 ?_
  refine lv_if_eq (tgt := 13) hx hb dJ0_coder_7d493_3 (by decide) (fun c_1 => ?_) (fun c_1 => ?_)
  · have h := h.1 c_1
    refine lv_iconst (v := 1) hx hb dJ0_coder_7d493_13 (by decide) ?_
    exact W.zret (v := 1) hx hb hr (by decide) (fun t ht hW => ⟨⟨1, (), rfl, h, by rw [ht]; exact hP, va_K.moved hW.alike hK, hD⟩, hS.F ht⟩) hS.2.2 dJ0_coder_7d493_14
  · have h := h.2 c_1
    refine lv_aload_n hx hb dJ0_coder_7d493_6 rfl (lv_at hl 0 rfl) ?_
    have hk := h.1
    have h := h.2
    refine vk_getf (v := .int 0) hx hb (hE.2.2.2.2.1.1 k hk).2.1 hS hown (hts (.fieldLink RJ0 15 "java/lang/String" "coder" "B") (by decide +kernel)) (fun _ h9 => h9) dJ0_coder_7d493_7 ?_
    refine lv_goto (tgt := 14) hx hb dJ0_coder_7d493_10 (by decide) ?_
    exact W.zret (v := 0) hx hb hr (by decide) (fun t ht hW => ⟨⟨0, (), rfl, h, by rw [ht]; exact hP, va_K.moved hW.alike hK, hD⟩, hS.F ht⟩) hS.2.2 dJ0_coder_7d493_14
def wp_J0_length_8abf5 (k : Nat) (post : Int32 → Unit → Prop) : Prop :=
    (k < 9 ∧ (k < 9 ∧ (k < 9 ∧ wp_J0_coder_7d493 k (fun r_1 _ => post ((Int32.ofNat (strLen.getD k 0)) >>> (r_1 &&& 31)) ()))))
set_option maxHeartbeats 4000000 in
set_option maxRecDepth 100000 in
theorem met_J0_length_8abf5 (l : Launch) (D : va_G) (cs : Nat → ClassId) (ev : Nat → Nat → Nat) (sz0 : Nat) (k : Nat) (post : Int32 → Unit → Prop) (h : wp_J0_length_8abf5 k post) : Met l yJ0_length_8abf5 wsJ0_length_8abf5 ({ frames := 1, cells := 0, slots := 0, locals := 20 }) (va_Pc [.ref (ev 1 k)] (mPre D cs ev ([] : va_W) sz0)) (va_Qi post (fun _ t => mAt D cs (va_A ([] : va_W) sz0) ([] : va_W) t) (va_A ([] : va_W) sz0)) 0 0 (va_A ([] : va_W) sz0) := by
  refine Met.ofW (cc := cJ0_length_8abf5) (maxL := 1) (ret := (some .int)) (by decide) rfl ?_
  intro p e s m args below meth c s₁ B hml hv
  obtain ⟨rfl, hsz, hP, hK, hD0, hE⟩ := hv
  have hx := B.exec
  have hb := B.bytes
  have hr := B.returns
  have hts := atoms_spec (ws := wsJ0_length_8abf5) B.pre
  have hown : s.vm.findClass RJ0 = some m.cls := findClass_of_methodNamed B.named
  have hlocks := B.notSynchronized
  subst hsz
  have hD := hD0.self (sz := s.heap.size)
  generalize hAe : va_A ([] : va_W) s.heap.size = A at hD hE ⊢
  have hA : ∀ q : Nat, s.heap.size ≤ q → A q := fun q h => by rw [← hAe]; exact Or.inr h
  have hS : va_S A s.heap s.heap [] := va_S.rf
  have hl := lv_entry ([.ref (ev 1 k)]) (n := 1) (Nat.le_of_ble_eq_true rfl)
  rw [lg_entry_eq]
  generalize (lg_sl ([.ref (ev 1 k)]) ++ List.replicate (1 - (lg_sl ([.ref (ev 1 k)])).length) Slot.unset).toArray = ls at hl ⊢
  have hl : lv_has ls 1 [(0, .ref (ev 1 k))] := hl
  refine lv_aload_n hx hb dJ0_length_8abf5_0 rfl (lv_at hl 0 rfl) ?_
  have hk := h.1
  have h := h.2
  refine vk_getf (v := .ref (ev 2 k)) hx hb (hE.2.2.2.2.1.1 k hk).2.2.1 hS hown (hts (.fieldLink RJ0 9 "java/lang/String" "value" "[B") (by decide +kernel)) (fun _ h9 => h9) dJ0_length_8abf5_1 ?_
  have hk := h.1
  have h := h.2
  refine va_tlen hx hb (hE.2.2.2.2.1.1 k hk).2.2.2 hS rfl dJ0_length_8abf5_4 ?_
  refine lv_aload_n hx hb dJ0_length_8abf5_5 rfl (lv_at hl 0 rfl) ?_
  have hk := h.1
  have h := h.2
  have hFc := va_free (wc := ([] : va_W)) hD hS hA [] rfl
  refine va_calli (va_runV (As := []) (rest := [.int (Int32.ofNat (strLen.getD k 0))]) ⟨hx, hb, hml, hown, hts⟩ (met_J0_coder_7d493 l D cs ev _ k _ h) (cwV 0 hts gJ0_length_8abf5_J0_coder_7d493 rfl rfl rfl (by decide +kernel) ⟨Nat.le_of_ble_eq_true rfl, Nat.le_of_ble_eq_true rfl⟩) (mPreV (vk_recv hE.2.2.2.2.1 hk hS) hP hD hS hK hE hFc [] (by decide) rfl) rfl rfl hl.1 rfl (lv_room (Nat.le_of_ble_eq_true rfl)) dJ0_length_8abf5_6 ⟨Nat.le_of_ble_eq_true rfl, Nat.le_of_ble_eq_true rfl⟩) hS (fun q _ h => hFc q h) hFc (fun r_1 u t H1 locs ht hvm hw hB hz1 hk1 hS => ?_)
  have h := hw
  obtain ⟨hP1, hK1, hD1⟩ := hB
  rw [ht] at hP1
  obtain ⟨hP, hD⟩ := mJoin (wr := ([] : va_W)) (w1 := ([] : va_W)) (w' := ([] : va_W)) hP hD [] [] rfl rfl (by decide) (by decide) hk1 hFc hP1 hD1 [] (by decide) rfl
  generalize H1 = H at hP hS ⊢
  refine lv_ishr hx hb dJ0_length_8abf5_9 ?_
  exact W.iret (v := (Int32.ofNat (strLen.getD k 0)) >>> (r_1 &&& 31)) hx hb hr (fun t ht hW => ⟨⟨(Int32.ofNat (strLen.getD k 0)) >>> (r_1 &&& 31), (), rfl, h, by rw [ht]; exact hP, va_K.moved hW.alike hK, hD⟩, hS.F ht⟩) hS.2.2 dJ0_length_8abf5_10
def wp_J0_charAt_5068e (k : Nat) (p1 : Int32) (post : Int32 → Unit → Prop) : Prop :=
    (k < 9 ∧ wp_J0_isLatin1_aae02 k (fun r_1 _ => ((r_1 = 0 → False) ∧ (¬ r_1 = 0 → (k < 9 ∧ wp_J1_charAt_3b067 k p1 (fun r_3 _ => (narrow .char (.int r_3) = .int r_3 ∧ post r_3 ())))))))
set_option maxHeartbeats 4000000 in
set_option maxRecDepth 100000 in
theorem met_J0_charAt_5068e (l : Launch) (D : va_G) (cs : Nat → ClassId) (ev : Nat → Nat → Nat) (sz0 : Nat) (k : Nat) (p1 : Int32) (post : Int32 → Unit → Prop) (h : wp_J0_charAt_5068e k p1 post) : Met l yJ0_charAt_5068e wsJ0_charAt_5068e ({ frames := 3, cells := 0, slots := 0, locals := 64 }) (va_Pc [.ref (ev 1 k), .int p1] (mPre D cs ev ([] : va_W) sz0)) (va_Qi post (fun _ t => mAt D cs (va_A ([] : va_W) sz0) ([] : va_W) t) (va_A ([] : va_W) sz0)) 0 0 (va_A ([] : va_W) sz0) := by
  refine Met.ofW (cc := cJ0_charAt_5068e) (maxL := 2) (ret := (some .char)) (by decide) rfl ?_
  intro p e s m args below meth c s₁ B hml hv
  obtain ⟨rfl, hsz, hP, hK, hD0, hE⟩ := hv
  have hx := B.exec
  have hb := B.bytes
  have hr := B.returns
  have hts := atoms_spec (ws := wsJ0_charAt_5068e) B.pre
  have hown : s.vm.findClass RJ0 = some m.cls := findClass_of_methodNamed B.named
  have hlocks := B.notSynchronized
  subst hsz
  have hD := hD0.self (sz := s.heap.size)
  generalize hAe : va_A ([] : va_W) s.heap.size = A at hD hE ⊢
  have hA : ∀ q : Nat, s.heap.size ≤ q → A q := fun q h => by rw [← hAe]; exact Or.inr h
  have hS : va_S A s.heap s.heap [] := va_S.rf
  have hl := lv_entry ([.ref (ev 1 k), .int p1]) (n := 2) (Nat.le_of_ble_eq_true rfl)
  rw [lg_entry_eq]
  generalize (lg_sl ([.ref (ev 1 k), .int p1]) ++ List.replicate (2 - (lg_sl ([.ref (ev 1 k), .int p1])).length) Slot.unset).toArray = ls at hl ⊢
  have hl : lv_has ls 2 [(0, .ref (ev 1 k)), (1, .int p1)] := hl
  refine lv_aload_n hx hb dJ0_charAt_5068e_0 rfl (lv_at hl 0 rfl) ?_
  have hk := h.1
  have h := h.2
  have hFc := va_free (wc := ([] : va_W)) hD hS hA [] rfl
  refine va_calli (va_runV (As := []) (rest := []) ⟨hx, hb, hml, hown, hts⟩ (met_J0_isLatin1_aae02 l D cs ev _ k _ h) (cwV 0 hts gJ0_charAt_5068e_J0_isLatin1_aae02 rfl rfl rfl (by decide +kernel) ⟨Nat.le_of_ble_eq_true rfl, Nat.le_of_ble_eq_true rfl⟩) (mPreV (vk_recv hE.2.2.2.2.1 hk hS) hP hD hS hK hE hFc [] (by decide) rfl) rfl rfl hl.1 rfl (lv_room (Nat.le_of_ble_eq_true rfl)) dJ0_charAt_5068e_1 ⟨Nat.le_of_ble_eq_true rfl, Nat.le_of_ble_eq_true rfl⟩) hS (fun q _ h => hFc q h) hFc (fun r_1 u t H1 locs ht hvm hw hB hz1 hk1 hS => ?_)
  have h := hw
  obtain ⟨hP1, hK1, hD1⟩ := hB
  rw [ht] at hP1
  obtain ⟨hP, hD⟩ := mJoin (wr := ([] : va_W)) (w1 := ([] : va_W)) (w' := ([] : va_W)) hP hD [] [] rfl rfl (by decide) (by decide) hk1 hFc hP1 hD1 [] (by decide) rfl
  generalize H1 = H at hP hS ⊢
  refine lv_if_eq (tgt := 16) hx hb dJ0_charAt_5068e_4 (by decide) (fun c_2 => ?_) (fun c_2 => ?_)
  · have h := h.1 c_2
    exact h.elim
  · have h := h.2 c_2
    refine lv_aload_n hx hb dJ0_charAt_5068e_7 rfl (lv_at hl 0 rfl) ?_
    have hk := h.1
    have h := h.2
    refine vk_getf (v := .ref (ev 2 k)) hx hb (hE.2.2.2.2.1.1 k hk).2.2.1 hS hown (hts (.fieldLink RJ0 9 "java/lang/String" "value" "[B") (by decide +kernel)) (fun _ h9 => h9) dJ0_charAt_5068e_8 ?_
    refine lv_iload_n hx hb dJ0_charAt_5068e_11 rfl (lv_at hl 1 rfl) ?_
    have hFc := va_free (wc := ([] : va_W)) hD hS hA [] rfl
    refine va_calli (va_runS (As := [.ref (ev 2 k), .int p1]) (rest := []) ⟨hx, hb, hml, hown, hts⟩ (met_J1_charAt_3b067 l D cs ev _ k p1 _ h) (va_cwS 2 hts gJ0_charAt_5068e_J1_charAt_3b067 rfl rfl rfl (by decide +kernel) ⟨Nat.le_of_ble_eq_true rfl, Nat.le_of_ble_eq_true rfl⟩) (mPreS hP hD hS hK hE hFc [] (by decide) rfl) rfl rfl hl.1 rfl (lv_room (Nat.le_of_ble_eq_true rfl)) dJ0_charAt_5068e_12 ⟨Nat.le_of_ble_eq_true rfl, Nat.le_of_ble_eq_true rfl⟩) hS (fun q _ h => hFc q h) hFc (fun r_3 u t H1 locs ht hvm hw hB hz1 hk1 hS => ?_)
    have h := hw
    obtain ⟨hP1, hK1, hD1⟩ := hB
    rw [ht] at hP1
    obtain ⟨hP, hD⟩ := mJoin (wr := ([] : va_W)) (w1 := ([] : va_W)) (w' := ([] : va_W)) hP hD [] [] rfl rfl (by decide) (by decide) hk1 hFc hP1 hD1 [] (by decide) rfl
    generalize H1 = H at hP hS ⊢
    have hn := h.1
    have h := h.2
    exact W.zret (v := r_3) hx hb hr hn (fun t ht hW => ⟨⟨r_3, (), rfl, h, by rw [ht]; exact hP, va_K.moved hW.alike hK, hD⟩, hS.F ht⟩) hS.2.2 dJ0_charAt_5068e_15
