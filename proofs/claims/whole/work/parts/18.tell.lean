def wp_X3_tellByte (lfT : Int32) (foT : Int32) (p1 : Int32) (post : (Int32 × Int32) → Prop) : Prop :=
    ((lfT = 0 → post (lfT - 1, p1)) ∧ (¬ lfT = 0 → post (lfT - 1, foT)))
set_option maxHeartbeats 4000000 in
set_option maxRecDepth 100000 in
theorem met_X3_tellByte (l : Launch) (D : va_G) (cs : Nat → ClassId) (ev : Nat → Nat → Nat) (sz0 : Nat) (adT : Nat → Nat) (lfT : Int32) (foT : Int32) (p1 : Int32) (post : (Int32 × Int32) → Prop) (h : wp_X3_tellByte lfT foT p1 post) : Met l yX3_tellByte wsX3_tellByte ({ frames := 0, cells := 0, slots := 0, locals := 0 }) (va_Pc [.ref (adT 0), .int p1] (mPre D cs ev (sh_T cs adT lfT foT) sz0)) (va_Qv post (fun u t => match u with | (lfT', foT') => mAt D cs (va_A (sh_T cs adT lfT foT) sz0) (sh_T cs adT lfT' foT') t) (va_A (sh_T cs adT lfT foT) sz0)) 0 0 (va_A (sh_T cs adT lfT foT) sz0) := by
  refine Met.ofW (cc := cX3_tellByte) (maxL := 2) (ret := none) (by decide) rfl ?_
  intro p e s m args below meth c s₁ B hml hv
  obtain ⟨rfl, hsz, hP, hK, hD0, hE⟩ := hv
  have hx := B.exec
  have hb := B.bytes
  have hr := B.returns
  have hts := atoms_spec (ws := wsX3_tellByte) B.pre
  have hown : s.vm.findClass RX3 = some m.cls := findClass_of_methodNamed B.named
  have hlocks := B.notSynchronized
  subst hsz
  have hD := hD0.self (sz := s.heap.size)
  generalize hAe : va_A (sh_T cs adT lfT foT) s.heap.size = A at hD hE ⊢
  have hA : ∀ q : Nat, s.heap.size ≤ q → A q := fun q h => by rw [← hAe]; exact Or.inr h
  have hS : va_S A s.heap s.heap [] := va_S.rf
  have hl := lv_entry ([.ref (adT 0), .int p1]) (n := 2) (Nat.le_of_ble_eq_true rfl)
  rw [lg_entry_eq]
  generalize (lg_sl ([.ref (adT 0), .int p1]) ++ List.replicate (2 - (lg_sl ([.ref (adT 0), .int p1])).length) Slot.unset).toArray = ls at hl ⊢
  have hl : lv_has ls 2 [(0, .ref (adT 0)), (1, .int p1)] := hl
  refine lv_aload_n hx hb dX3_tellByte_0 rfl (lv_at hl 0 rfl) ?_
  refine va_get (D := D) (ci := 3) (v := .int lfT) (C := RX3) (T := TX3) (N := 2) hx hb hts (by decide +kernel) hown hK hP 0 rfl rfl 0 (by decide) (hts (.fieldLink RX3 9 "PartGraphs$Teller" "left" "I") (by decide +kernel)) (fun _ h9 => h9) rfl dX3_tellByte_1 ?_
  refine lv_if_ne (tgt := 12) hx hb dX3_tellByte_4 (by decide) (fun c_1 => ?_) (fun c_1 => ?_)
  · have h := h.2 c_1
    refine lv_aload_n hx hb dX3_tellByte_12 rfl (lv_at hl 0 rfl) ?_
    refine lv_dup hx hb dX3_tellByte_13 rfl ?_
    refine va_get (D := D) (ci := 3) (v := .int lfT) (C := RX3) (T := TX3) (N := 2) hx hb hts (by decide +kernel) hown hK hP 0 rfl rfl 0 (by decide) (hts (.fieldLink RX3 9 "PartGraphs$Teller" "left" "I") (by decide +kernel)) (fun _ h9 => h9) rfl dX3_tellByte_14 ?_
    refine lv_iconst (v := 1) hx hb dX3_tellByte_17 (by decide) ?_
    refine lv_isub hx hb dX3_tellByte_18 ?_
    refine va_put (D := D) (ci := 3) (v := .int (lfT - 1)) (ty := .int) (C := RX3) (T := TX3) (N := 2) hx hb hts (by decide +kernel) tyX3 tyX3_ok nmX3 hown hK hP hD hS 0 rfl rfl 0 (by decide) (hts (.fieldLink RX3 9 "PartGraphs$Teller" "left" "I") (by decide +kernel)) (fun _ h9 => h9) rfl (by decide +kernel) rfl rfl (Nat.le_of_ble_eq_true rfl) dX3_tellByte_19 (fun H locs hP hD hS => ?_)
    have hP : va_P D vwCl (sh_T cs adT (lfT - 1) foT) H := hP
    have hD : va_D A (sh_T cs adT (lfT - 1) foT) := hD
    exact W.vret hx hb hr (fun t ht hW => ⟨⟨(lfT - 1, foT), rfl, h, by rw [ht]; exact hP, va_K.moved hW.alike hK, hD⟩, hS.F ht⟩) hS.2.2 dX3_tellByte_22
  · have h := h.1 c_1
    refine lv_aload_n hx hb dX3_tellByte_7 rfl (lv_at hl 0 rfl) ?_
    refine lv_iload_n hx hb dX3_tellByte_8 rfl (lv_at hl 1 rfl) ?_
    refine va_put (D := D) (ci := 3) (v := .int p1) (ty := .int) (C := RX3) (T := TX3) (N := 2) hx hb hts (by decide +kernel) tyX3 tyX3_ok nmX3 hown hK hP hD hS 0 rfl rfl 1 (by decide) (hts (.fieldLink RX3 15 "PartGraphs$Teller" "found" "I") (by decide +kernel)) (fun _ h9 => h9) rfl (by decide +kernel) rfl rfl (Nat.le_of_ble_eq_true rfl) dX3_tellByte_9 (fun H locs hP hD hS => ?_)
    have hP : va_P D vwCl (sh_T cs adT lfT p1) H := hP
    have hD : va_D A (sh_T cs adT lfT p1) := hD
    refine lv_aload_n hx hb dX3_tellByte_12 rfl (lv_at hl 0 rfl) ?_
    refine lv_dup hx hb dX3_tellByte_13 rfl ?_
    refine va_get (D := D) (ci := 3) (v := .int lfT) (C := RX3) (T := TX3) (N := 2) hx hb hts (by decide +kernel) hown hK hP 0 rfl rfl 0 (by decide) (hts (.fieldLink RX3 9 "PartGraphs$Teller" "left" "I") (by decide +kernel)) (fun _ h9 => h9) rfl dX3_tellByte_14 ?_
    refine lv_iconst (v := 1) hx hb dX3_tellByte_17 (by decide) ?_
    refine lv_isub hx hb dX3_tellByte_18 ?_
    refine va_put (D := D) (ci := 3) (v := .int (lfT - 1)) (ty := .int) (C := RX3) (T := TX3) (N := 2) hx hb hts (by decide +kernel) tyX3 tyX3_ok nmX3 hown hK hP hD hS 0 rfl rfl 0 (by decide) (hts (.fieldLink RX3 9 "PartGraphs$Teller" "left" "I") (by decide +kernel)) (fun _ h9 => h9) rfl (by decide +kernel) rfl rfl (Nat.le_of_ble_eq_true rfl) dX3_tellByte_19 (fun H locs hP hD hS => ?_)
    have hP : va_P D vwCl (sh_T cs adT (lfT - 1) p1) H := hP
    have hD : va_D A (sh_T cs adT (lfT - 1) p1) := hD
    exact W.vret hx hb hr (fun t ht hW => ⟨⟨(lfT - 1, p1), rfl, h, by rw [ht]; exact hP, va_K.moved hW.alike hK, hD⟩, hS.F ht⟩) hS.2.2 dX3_tellByte_22
def wp_X3_tellNumber (lfT : Int32) (foT : Int32) (p1 : Int64) (post : (Int32 × Int32) → Prop) : Prop :=
    ∀ (A5 : Int64 → Int32 → Int32 → Int32 → Prop) (A37 : Int64 → Int32 → Int32 → Int32 → Prop),
    (∀ (v3 : Int64) (v5 : Int32) (lfT : Int32) (foT : Int32), ((9 ≤ v5 → A37 v3 0 lfT foT) ∧ (¬ 9 ≤ v5 → (¬ v3 = 0 ∧ (((lg_cmp (p1 / v3) 10) < 0 → A37 v3 0 lfT foT) ∧ (¬ (lg_cmp (p1 / v3) 10) < 0 → A5 (v3 * 10) (v5 + 1) lfT foT))))) → A5 v3 v5 lfT foT) →
    (∀ (v3 : Int64) (v5 : Int32) (lfT : Int32) (foT : Int32), ((9 ≤ v5 → wp_X3_tellByte lfT foT 32 (fun u => match u with | (lf_5, fo_6) => post (lf_5, fo_6))) ∧ (¬ 9 ≤ v5 → (((lg_cmp v3 0) ≤ 0 → wp_X3_tellByte lfT foT 32 (fun u => match u with | (lf_9, fo_10) => post (lf_9, fo_10))) ∧ (¬ (lg_cmp v3 0) ≤ 0 → (¬ v3 = 0 ∧ (¬ (10 : Int64) = 0 ∧ wp_X3_tellByte lfT foT (48 + (((p1 / v3) - (p1 / v3) / 10 * 10).toInt32)) (fun u => match u with | (lf_12, fo_13) => (¬ (10 : Int64) = 0 ∧ A37 (v3 / 10) (v5 + 1) lf_12 fo_13)))))))) → A37 v3 v5 lfT foT) →
    A5 1 1 lfT foT
set_option maxHeartbeats 4000000 in
set_option maxRecDepth 100000 in
theorem met_X3_tellNumber (l : Launch) (D : va_G) (cs : Nat → ClassId) (ev : Nat → Nat → Nat) (sz0 : Nat) (adT : Nat → Nat) (lfT : Int32) (foT : Int32) (p1 : Int64) (post : (Int32 × Int32) → Prop) (h : wp_X3_tellNumber lfT foT p1 post) : Met l yX3_tellNumber wsX3_tellNumber ({ frames := 1, cells := 0, slots := 0, locals := 21 }) (va_Pc [.ref (adT 0), .long p1] (mPre D cs ev (sh_T cs adT lfT foT) sz0)) (va_Qv post (fun u t => match u with | (lfT', foT') => mAt D cs (va_A (sh_T cs adT lfT foT) sz0) (sh_T cs adT lfT' foT') t) (va_A (sh_T cs adT lfT foT) sz0)) 0 0 (va_A (sh_T cs adT lfT foT) sz0) := by
  refine Met.ofW (cc := cX3_tellNumber) (maxL := 6) (ret := none) (by decide) rfl ?_
  intro p e s m args below meth c s₁ B hml hv
  obtain ⟨rfl, hsz, hP, hK, hD0, hE⟩ := hv
  have hx := B.exec
  have hb := B.bytes
  have hr := B.returns
  have hts := atoms_spec (ws := wsX3_tellNumber) B.pre
  have hown : s.vm.findClass RX3 = some m.cls := findClass_of_methodNamed B.named
  have hlocks := B.notSynchronized
  subst hsz
  have hD := hD0.self (sz := s.heap.size)
  generalize hAe : va_A (sh_T cs adT lfT foT) s.heap.size = A at hD hE ⊢
  have hA : ∀ q : Nat, s.heap.size ≤ q → A q := fun q h => by rw [← hAe]; exact Or.inr h
  have hS : va_S A s.heap s.heap [] := va_S.rf
  have hl := lv_entry ([.ref (adT 0), .long p1]) (n := 6) (Nat.le_of_ble_eq_true rfl)
  rw [lg_entry_eq]
  generalize (lg_sl ([.ref (adT 0), .long p1]) ++ List.replicate (6 - (lg_sl ([.ref (adT 0), .long p1])).length) Slot.unset).toArray = ls at hl ⊢
  have hl : lv_has ls 6 [(0, .ref (adT 0)), (1, .long p1)] := hl
  obtain ⟨A5, hA5⟩ : ∃ Q : Int64 → Int32 → Int32 → Int32 → Prop, Q = (fun v3 v5 lfT foT => ∀ (H : Heap) (locs : List Loc), va_P D vwCl (sh_T cs adT lfT foT) H → va_D A (sh_T cs adT lfT foT) → va_S A s.heap H locs → ∀ ls : Array Slot, lv_has ls 6 [(0, .ref (adT 0)), (1, .long p1), (3, .long v3), (5, .int v5)] → W p l e (headSpec wsX3_tellNumber ({ frames := 1, cells := 0, slots := 0, locals := 21 })).room s m ([.ref (adT 0), .long p1] : List Value).toArray below meth c H locs 0 0 (MQ below (va_Qv post (fun u t => match u with | (lfT', foT') => mAt D cs (A) (sh_T cs adT lfT' foT') t) A) ([.ref (adT 0), .long p1] : List Value).toArray s 0 0 A) (F0 m 5 ls [])) := ⟨_, rfl⟩
  obtain ⟨A37, hA37⟩ : ∃ Q : Int64 → Int32 → Int32 → Int32 → Prop, Q = (fun v3 v5 lfT foT => ∀ (H : Heap) (locs : List Loc), va_P D vwCl (sh_T cs adT lfT foT) H → va_D A (sh_T cs adT lfT foT) → va_S A s.heap H locs → ∀ ls : Array Slot, lv_has ls 6 [(0, .ref (adT 0)), (1, .long p1), (3, .long v3), (5, .int v5)] → W p l e (headSpec wsX3_tellNumber ({ frames := 1, cells := 0, slots := 0, locals := 21 })).room s m ([.ref (adT 0), .long p1] : List Value).toArray below meth c H locs 0 0 (MQ below (va_Qv post (fun u t => match u with | (lfT', foT') => mAt D cs (A) (sh_T cs adT lfT' foT') t) A) ([.ref (adT 0), .long p1] : List Value).toArray s 0 0 A) (F0 m 37 ls [])) := ⟨_, rfl⟩
  have s5 : ∀ (v3 : Int64) (v5 : Int32) (lfT : Int32) (foT : Int32), ((9 ≤ v5 → A37 v3 0 lfT foT) ∧ (¬ 9 ≤ v5 → (¬ v3 = 0 ∧ (((lg_cmp (p1 / v3) 10) < 0 → A37 v3 0 lfT foT) ∧ (¬ (lg_cmp (p1 / v3) 10) < 0 → A5 (v3 * 10) (v5 + 1) lfT foT))))) → A5 v3 v5 lfT foT := by
    intro v3 v5 lfT foT h
    rw [hA5]
    intro H locs hP hD hS ls hl
    refine lv_iload hx hb dX3_tellNumber_5 (lv_at hl 3 rfl) ?_
    refine lv_bipush (v := 9) hx hb dX3_tellNumber_7 (by decide) ?_
    refine lv_icmp_ge (tgt := 34) hx hb dX3_tellNumber_9 (by decide) (fun c_1 => ?_) (fun c_1 => ?_)
    · have h := h.1 c_1
      refine lv_iconst (v := 0) hx hb dX3_tellNumber_34 (by decide) ?_
      refine lv_istore (lv' := [(5, .int 0), (0, .ref (adT 0)), (1, .long p1), (3, .long v3)]) hx hb dX3_tellNumber_35 hl (by decide) rfl (fun ls hl => ?_)
      rw [hA37] at h
      exact h _ _ hP hD hS ls (lv_sub hl [1, 2, 3, 0] rfl)
    · have h := h.2 c_1
      refine lv_lload_n hx hb dX3_tellNumber_12 rfl (lv_at hl 1 rfl) ?_
      refine lv_lload_n hx hb dX3_tellNumber_13 rfl (lv_at hl 2 rfl) ?_
      have hne := h.1
      have h := h.2
      refine lv_ldiv hx hb dX3_tellNumber_14 hne ?_
      refine lv_ldc2 (v := 10) hx hb hown (hts (.constantLong RX3 139 10) (by decide +kernel)) dX3_tellNumber_15 ?_
      refine W.lcmp hx hb dX3_tellNumber_18 ?_
      refine lv_if_lt (tgt := 34) hx hb dX3_tellNumber_19 (by decide) (fun c_2 => ?_) (fun c_2 => ?_)
      · have h := h.1 c_2
        refine lv_iconst (v := 0) hx hb dX3_tellNumber_34 (by decide) ?_
        refine lv_istore (lv' := [(5, .int 0), (0, .ref (adT 0)), (1, .long p1), (3, .long v3)]) hx hb dX3_tellNumber_35 hl (by decide) rfl (fun ls hl => ?_)
        rw [hA37] at h
        exact h _ _ hP hD hS ls (lv_sub hl [1, 2, 3, 0] rfl)
      · have h := h.2 c_2
        refine lv_lload_n hx hb dX3_tellNumber_22 rfl (lv_at hl 2 rfl) ?_
        refine lv_ldc2 (v := 10) hx hb hown (hts (.constantLong RX3 139 10) (by decide +kernel)) dX3_tellNumber_23 ?_
        refine lv_lmul hx hb dX3_tellNumber_26 ?_
        refine lv_lstore_n (lv' := [(3, .long (v3 * 10)), (0, .ref (adT 0)), (1, .long p1), (5, .int v5)]) hx hb dX3_tellNumber_27 rfl hl (by decide) rfl (fun ls hl => ?_)
        refine lv_iinc (v := v5 + 1) (lv' := [(5, .int (v5 + 1)), (3, .long (v3 * 10)), (0, .ref (adT 0)), (1, .long p1)]) hx hb dX3_tellNumber_28 hl (k := 3) rfl rfl (by decide) rfl (fun ls hl => ?_)
        refine lv_goto (tgt := 5) hx hb dX3_tellNumber_31 (by decide) ?_
        rw [hA5] at h
        exact h _ _ hP hD hS ls (lv_sub hl [2, 3, 1, 0] rfl)
  have s37 : ∀ (v3 : Int64) (v5 : Int32) (lfT : Int32) (foT : Int32), ((9 ≤ v5 → wp_X3_tellByte lfT foT 32 (fun u => match u with | (lf_5, fo_6) => post (lf_5, fo_6))) ∧ (¬ 9 ≤ v5 → (((lg_cmp v3 0) ≤ 0 → wp_X3_tellByte lfT foT 32 (fun u => match u with | (lf_9, fo_10) => post (lf_9, fo_10))) ∧ (¬ (lg_cmp v3 0) ≤ 0 → (¬ v3 = 0 ∧ (¬ (10 : Int64) = 0 ∧ wp_X3_tellByte lfT foT (48 + (((p1 / v3) - (p1 / v3) / 10 * 10).toInt32)) (fun u => match u with | (lf_12, fo_13) => (¬ (10 : Int64) = 0 ∧ A37 (v3 / 10) (v5 + 1) lf_12 fo_13)))))))) → A37 v3 v5 lfT foT := by
    intro v3 v5 lfT foT h
    rw [hA37]
    intro H locs hP hD hS ls hl
    refine lv_iload hx hb dX3_tellNumber_37 (lv_at hl 3 rfl) ?_
    refine lv_bipush (v := 9) hx hb dX3_tellNumber_39 (by decide) ?_
    refine lv_icmp_ge (tgt := 77) hx hb dX3_tellNumber_41 (by decide) (fun c_3 => ?_) (fun c_3 => ?_)
    · have h := h.1 c_3
      refine lv_aload_n hx hb dX3_tellNumber_77 rfl (lv_at hl 0 rfl) ?_
      refine lv_bipush (v := 32) hx hb dX3_tellNumber_78 (by decide) ?_
      have hFc := va_free (wc := (sh_T cs adT lfT foT)) hD hS hA [0] rfl
      refine va_callv (va_runV (As := [.int 32]) (rest := []) ⟨hx, hb, hml, hown, hts⟩ (met_X3_tellByte l D cs ev _ adT lfT foT 32 _ h) (cwV 1 hts gX3_tellNumber_X3_tellByte rfl rfl rfl (by decide +kernel) ⟨Nat.le_of_ble_eq_true rfl, Nat.le_of_ble_eq_true rfl⟩) (mPreV (va_recv hK hP (ci := 3) (q0 := 0) rfl rfl) hP hD hS hK hE hFc [0] (by decide) rfl) rfl rfl hl.1 rfl (lv_room (Nat.le_of_ble_eq_true rfl)) dX3_tellNumber_80 ⟨Nat.le_of_ble_eq_true rfl, Nat.le_of_ble_eq_true rfl⟩) hS (fun q _ h => hFc q h) hFc (fun u t H1 locs ht hvm hw hB hz1 hk1 hS => ?_)
      obtain ⟨lf_5, fo_6⟩ := u
      have h := hw
      obtain ⟨hP1, hK1, hD1⟩ := hB
      rw [ht] at hP1
      obtain ⟨hP, hD⟩ := mJoin (wr := ([] : va_W)) (w1 := (sh_T cs adT lf_5 fo_6)) (w' := (sh_T cs adT lf_5 fo_6)) hP hD [0] [] rfl rfl (by decide) (by decide) hk1 hFc hP1 hD1 [0] (by decide) rfl
      generalize H1 = H at hP hS ⊢
      exact W.vret hx hb hr (fun t ht hW => ⟨⟨(lf_5, fo_6), rfl, h, by rw [ht]; exact hP, va_K.moved hW.alike hK, hD⟩, hS.F ht⟩) hS.2.2 dX3_tellNumber_83
    · have h := h.2 c_3
      refine lv_lload_n hx hb dX3_tellNumber_44 rfl (lv_at hl 2 rfl) ?_
      refine lv_lconst (v := 0) hx hb dX3_tellNumber_45 (by decide) ?_
      refine W.lcmp hx hb dX3_tellNumber_46 ?_
      refine lv_if_le (tgt := 77) hx hb dX3_tellNumber_47 (by decide) (fun c_7 => ?_) (fun c_7 => ?_)
      · have h := h.1 c_7
        refine lv_aload_n hx hb dX3_tellNumber_77 rfl (lv_at hl 0 rfl) ?_
        refine lv_bipush (v := 32) hx hb dX3_tellNumber_78 (by decide) ?_
        have hFc := va_free (wc := (sh_T cs adT lfT foT)) hD hS hA [0] rfl
        refine va_callv (va_runV (As := [.int 32]) (rest := []) ⟨hx, hb, hml, hown, hts⟩ (met_X3_tellByte l D cs ev _ adT lfT foT 32 _ h) (cwV 1 hts gX3_tellNumber_X3_tellByte rfl rfl rfl (by decide +kernel) ⟨Nat.le_of_ble_eq_true rfl, Nat.le_of_ble_eq_true rfl⟩) (mPreV (va_recv hK hP (ci := 3) (q0 := 0) rfl rfl) hP hD hS hK hE hFc [0] (by decide) rfl) rfl rfl hl.1 rfl (lv_room (Nat.le_of_ble_eq_true rfl)) dX3_tellNumber_80 ⟨Nat.le_of_ble_eq_true rfl, Nat.le_of_ble_eq_true rfl⟩) hS (fun q _ h => hFc q h) hFc (fun u t H1 locs ht hvm hw hB hz1 hk1 hS => ?_)
        obtain ⟨lf_9, fo_10⟩ := u
        have h := hw
        obtain ⟨hP1, hK1, hD1⟩ := hB
        rw [ht] at hP1
        obtain ⟨hP, hD⟩ := mJoin (wr := ([] : va_W)) (w1 := (sh_T cs adT lf_9 fo_10)) (w' := (sh_T cs adT lf_9 fo_10)) hP hD [0] [] rfl rfl (by decide) (by decide) hk1 hFc hP1 hD1 [0] (by decide) rfl
        generalize H1 = H at hP hS ⊢
        exact W.vret hx hb hr (fun t ht hW => ⟨⟨(lf_9, fo_10), rfl, h, by rw [ht]; exact hP, va_K.moved hW.alike hK, hD⟩, hS.F ht⟩) hS.2.2 dX3_tellNumber_83
      · have h := h.2 c_7
        refine lv_aload_n hx hb dX3_tellNumber_50 rfl (lv_at hl 0 rfl) ?_
        refine lv_bipush (v := 48) hx hb dX3_tellNumber_51 (by decide) ?_
        refine lv_lload_n hx hb dX3_tellNumber_53 rfl (lv_at hl 1 rfl) ?_
        refine lv_lload_n hx hb dX3_tellNumber_54 rfl (lv_at hl 2 rfl) ?_
        have hne := h.1
        have h := h.2
        refine lv_ldiv hx hb dX3_tellNumber_55 hne ?_
        refine lv_ldc2 (v := 10) hx hb hown (hts (.constantLong RX3 139 10) (by decide +kernel)) dX3_tellNumber_56 ?_
        have hne := h.1
        have h := h.2
        refine lv_lrem hx hb dX3_tellNumber_59 hne ?_
        refine lv_l2i hx hb dX3_tellNumber_60 rfl ?_
        refine lv_iadd hx hb dX3_tellNumber_61 ?_
        have hFc := va_free (wc := (sh_T cs adT lfT foT)) hD hS hA [0] rfl
        refine va_callv (va_runV (As := [.int (48 + (((p1 / v3) - (p1 / v3) / 10 * 10).toInt32))]) (rest := []) ⟨hx, hb, hml, hown, hts⟩ (met_X3_tellByte l D cs ev _ adT lfT foT (48 + (((p1 / v3) - (p1 / v3) / 10 * 10).toInt32)) _ h) (cwV 1 hts gX3_tellNumber_X3_tellByte rfl rfl rfl (by decide +kernel) ⟨Nat.le_of_ble_eq_true rfl, Nat.le_of_ble_eq_true rfl⟩) (mPreV (va_recv hK hP (ci := 3) (q0 := 0) rfl rfl) hP hD hS hK hE hFc [0] (by decide) rfl) rfl rfl hl.1 rfl (lv_room (Nat.le_of_ble_eq_true rfl)) dX3_tellNumber_62 ⟨Nat.le_of_ble_eq_true rfl, Nat.le_of_ble_eq_true rfl⟩) hS (fun q _ h => hFc q h) hFc (fun u t H1 locs ht hvm hw hB hz1 hk1 hS => ?_)
        obtain ⟨lf_12, fo_13⟩ := u
        have h := hw
        obtain ⟨hP1, hK1, hD1⟩ := hB
        rw [ht] at hP1
        obtain ⟨hP, hD⟩ := mJoin (wr := ([] : va_W)) (w1 := (sh_T cs adT lf_12 fo_13)) (w' := (sh_T cs adT lf_12 fo_13)) hP hD [0] [] rfl rfl (by decide) (by decide) hk1 hFc hP1 hD1 [0] (by decide) rfl
        generalize H1 = H at hP hS ⊢
        refine lv_lload_n hx hb dX3_tellNumber_65 rfl (lv_at hl 2 rfl) ?_
        refine lv_ldc2 (v := 10) hx hb hown (hts (.constantLong RX3 139 10) (by decide +kernel)) dX3_tellNumber_66 ?_
        have hne := h.1
        have h := h.2
        refine lv_ldiv hx hb dX3_tellNumber_69 hne ?_
        refine lv_lstore_n (lv' := [(3, .long (v3 / 10)), (0, .ref (adT 0)), (1, .long p1), (5, .int v5)]) hx hb dX3_tellNumber_70 rfl hl (by decide) rfl (fun ls hl => ?_)
        refine lv_iinc (v := v5 + 1) (lv' := [(5, .int (v5 + 1)), (3, .long (v3 / 10)), (0, .ref (adT 0)), (1, .long p1)]) hx hb dX3_tellNumber_71 hl (k := 3) rfl rfl (by decide) rfl (fun ls hl => ?_)
        refine lv_goto (tgt := 37) hx hb dX3_tellNumber_74 (by decide) ?_
        rw [hA37] at h
        exact h _ _ hP hD hS ls (lv_sub hl [2, 3, 1, 0] rfl)
  have h := h A5 A37 s5 s37
  refine lv_lconst (v := 1) hx hb dX3_tellNumber_0 (by decide) ?_
  refine lv_lstore_n (lv' := [(3, .long 1), (0, .ref (adT 0)), (1, .long p1)]) hx hb dX3_tellNumber_1 rfl hl (by decide) rfl (fun ls hl => ?_)
  refine lv_iconst (v := 1) hx hb dX3_tellNumber_2 (by decide) ?_
  refine lv_istore (lv' := [(5, .int 1), (3, .long 1), (0, .ref (adT 0)), (1, .long p1)]) hx hb dX3_tellNumber_3 hl (by decide) rfl (fun ls hl => ?_)
  rw [hA5] at h
  exact h _ _ hP hD hS ls (lv_sub hl [2, 3, 1, 0] rfl)
def wp_X3_tellWord (lfT : Int32) (foT : Int32) (k : Nat) (post : (Int32 × Int32) → Prop) : Prop :=
    ∀ (A2 : Int32 → Int32 → Int32 → Prop),
    (∀ (v2 : Int32) (lfT : Int32) (foT : Int32), (k < 7 ∧ (k < 9 ∧ wp_J0_length_8abf5 k (fun r_1 _ => ((r_1 ≤ v2 → wp_X3_tellByte lfT foT 32 (fun u => match u with | (lf_4, fo_5) => post (lf_4, fo_5))) ∧ (¬ r_1 ≤ v2 → (k < 7 ∧ (k < 9 ∧ wp_J0_charAt_5068e k v2 (fun r_6 _ => wp_X3_tellByte lfT foT r_6 (fun u => match u with | (lf_8, fo_9) => A2 (v2 + 1) lf_8 fo_9))))))))) → A2 v2 lfT foT) →
    A2 0 lfT foT
set_option maxHeartbeats 4000000 in
set_option maxRecDepth 100000 in
theorem met_X3_tellWord (l : Launch) (D : va_G) (cs : Nat → ClassId) (ev : Nat → Nat → Nat) (sz0 : Nat) (adT : Nat → Nat) (lfT : Int32) (foT : Int32) (k : Nat) (post : (Int32 × Int32) → Prop) (h : wp_X3_tellWord lfT foT k post) : Met l yX3_tellWord wsX3_tellWord ({ frames := 4, cells := 0, slots := 0, locals := 85 }) (va_Pc [.ref (adT 0), .ref (ev 0 k)] (mPre D cs ev (sh_T cs adT lfT foT) sz0)) (va_Qv post (fun u t => match u with | (lfT', foT') => mAt D cs (va_A (sh_T cs adT lfT foT) sz0) (sh_T cs adT lfT' foT') t) (va_A (sh_T cs adT lfT foT) sz0)) 0 0 (va_A (sh_T cs adT lfT foT) sz0) := by
  refine Met.ofW (cc := cX3_tellWord) (maxL := 3) (ret := none) (by decide) rfl ?_
  intro p e s m args below meth c s₁ B hml hv
  obtain ⟨rfl, hsz, hP, hK, hD0, hE⟩ := hv
  have hx := B.exec
  have hb := B.bytes
  have hr := B.returns
  have hts := atoms_spec (ws := wsX3_tellWord) B.pre
  have hown : s.vm.findClass RX3 = some m.cls := findClass_of_methodNamed B.named
  have hlocks := B.notSynchronized
  subst hsz
  have hD := hD0.self (sz := s.heap.size)
  generalize hAe : va_A (sh_T cs adT lfT foT) s.heap.size = A at hD hE ⊢
  have hA : ∀ q : Nat, s.heap.size ≤ q → A q := fun q h => by rw [← hAe]; exact Or.inr h
  have hS : va_S A s.heap s.heap [] := va_S.rf
  have hl := lv_entry ([.ref (adT 0), .ref (ev 0 k)]) (n := 3) (Nat.le_of_ble_eq_true rfl)
  rw [lg_entry_eq]
  generalize (lg_sl ([.ref (adT 0), .ref (ev 0 k)]) ++ List.replicate (3 - (lg_sl ([.ref (adT 0), .ref (ev 0 k)])).length) Slot.unset).toArray = ls at hl ⊢
  have hl : lv_has ls 3 [(0, .ref (adT 0)), (1, .ref (ev 0 k))] := hl
  obtain ⟨A2, hA2⟩ : ∃ Q : Int32 → Int32 → Int32 → Prop, Q = (fun v2 lfT foT => ∀ (H : Heap) (locs : List Loc), va_P D vwCl (sh_T cs adT lfT foT) H → va_D A (sh_T cs adT lfT foT) → va_S A s.heap H locs → ∀ ls : Array Slot, lv_has ls 3 [(0, .ref (adT 0)), (1, .ref (ev 0 k)), (2, .int v2)] → W p l e (headSpec wsX3_tellWord ({ frames := 4, cells := 0, slots := 0, locals := 85 })).room s m ([.ref (adT 0), .ref (ev 0 k)] : List Value).toArray below meth c H locs 0 0 (MQ below (va_Qv post (fun u t => match u with | (lfT', foT') => mAt D cs (A) (sh_T cs adT lfT' foT') t) A) ([.ref (adT 0), .ref (ev 0 k)] : List Value).toArray s 0 0 A) (F0 m 2 ls [])) := ⟨_, rfl⟩
  have s2 : ∀ (v2 : Int32) (lfT : Int32) (foT : Int32), (k < 7 ∧ (k < 9 ∧ wp_J0_length_8abf5 k (fun r_1 _ => ((r_1 ≤ v2 → wp_X3_tellByte lfT foT 32 (fun u => match u with | (lf_4, fo_5) => post (lf_4, fo_5))) ∧ (¬ r_1 ≤ v2 → (k < 7 ∧ (k < 9 ∧ wp_J0_charAt_5068e k v2 (fun r_6 _ => wp_X3_tellByte lfT foT r_6 (fun u => match u with | (lf_8, fo_9) => A2 (v2 + 1) lf_8 fo_9))))))))) → A2 v2 lfT foT := by
    intro v2 lfT foT h
    rw [hA2]
    intro H locs hP hD hS ls hl
    refine lv_iload_n hx hb dX3_tellWord_2 rfl (lv_at hl 2 rfl) ?_
    refine lv_aload_n hx hb dX3_tellWord_3 rfl (lv_at hl 1 rfl) ?_
    have hk := h.1
    have h := h.2
    refine va_getX (i := k) hx hb hE.2.2.2.1 hk hS hown (hts (.fieldLink RX3 121 "PartGraphs$Verb" "word" "Ljava/lang/String;") (by decide +kernel)) (fun _ h9 => h9) dX3_tellWord_4 ?_
    have hk := h.1
    have h := h.2
    have hFc := va_free (wc := ([] : va_W)) hD hS hA [] rfl
    refine va_calli (va_runV (As := []) (rest := [.int v2]) ⟨hx, hb, hml, hown, hts⟩ (met_J0_length_8abf5 l D cs ev _ k _ h) (cwV 0 hts gX3_tellWord_J0_length_8abf5 rfl rfl rfl (by decide +kernel) ⟨Nat.le_of_ble_eq_true rfl, Nat.le_of_ble_eq_true rfl⟩) (mPreV (vk_recv hE.2.2.2.2.1 hk hS) hP hD hS hK hE hFc [] (by decide) rfl) rfl rfl hl.1 rfl (lv_room (Nat.le_of_ble_eq_true rfl)) dX3_tellWord_7 ⟨Nat.le_of_ble_eq_true rfl, Nat.le_of_ble_eq_true rfl⟩) hS (fun q _ h => hFc q h) hFc (fun r_1 u t H1 locs ht hvm hw hB hz1 hk1 hS => ?_)
    have h := hw
    obtain ⟨hP1, hK1, hD1⟩ := hB
    rw [ht] at hP1
    obtain ⟨hP, hD⟩ := mJoin (wr := (sh_T cs adT lfT foT)) (w1 := ([] : va_W)) (w' := (sh_T cs adT lfT foT)) hP hD [] [0] rfl rfl (by decide) (by decide) hk1 hFc hP1 hD1 [0] (by decide) rfl
    generalize H1 = H at hP hS ⊢
    refine lv_icmp_ge (tgt := 31) hx hb dX3_tellWord_10 (by decide) (fun c_2 => ?_) (fun c_2 => ?_)
    · have h := h.1 c_2
      refine lv_aload_n hx hb dX3_tellWord_31 rfl (lv_at hl 0 rfl) ?_
      refine lv_bipush (v := 32) hx hb dX3_tellWord_32 (by decide) ?_
      have hFc := va_free (wc := (sh_T cs adT lfT foT)) hD hS hA [0] rfl
      refine va_callv (va_runV (As := [.int 32]) (rest := []) ⟨hx, hb, hml, hown, hts⟩ (met_X3_tellByte l D cs ev _ adT lfT foT 32 _ h) (cwV 1 hts gX3_tellWord_X3_tellByte rfl rfl rfl (by decide +kernel) ⟨Nat.le_of_ble_eq_true rfl, Nat.le_of_ble_eq_true rfl⟩) (mPreV (va_recv hK hP (ci := 3) (q0 := 0) rfl rfl) hP hD hS hK hE hFc [0] (by decide) rfl) rfl rfl hl.1 rfl (lv_room (Nat.le_of_ble_eq_true rfl)) dX3_tellWord_34 ⟨Nat.le_of_ble_eq_true rfl, Nat.le_of_ble_eq_true rfl⟩) hS (fun q _ h => hFc q h) hFc (fun u t H1 locs ht hvm hw hB hz1 hk1 hS => ?_)
      obtain ⟨lf_4, fo_5⟩ := u
      have h := hw
      obtain ⟨hP1, hK1, hD1⟩ := hB
      rw [ht] at hP1
      obtain ⟨hP, hD⟩ := mJoin (wr := ([] : va_W)) (w1 := (sh_T cs adT lf_4 fo_5)) (w' := (sh_T cs adT lf_4 fo_5)) hP hD [0] [] rfl rfl (by decide) (by decide) hk1 hFc hP1 hD1 [0] (by decide) rfl
      generalize H1 = H at hP hS ⊢
      exact W.vret hx hb hr (fun t ht hW => ⟨⟨(lf_4, fo_5), rfl, h, by rw [ht]; exact hP, va_K.moved hW.alike hK, hD⟩, hS.F ht⟩) hS.2.2 dX3_tellWord_37
    · have h := h.2 c_2
      refine lv_aload_n hx hb dX3_tellWord_13 rfl (lv_at hl 0 rfl) ?_
      refine lv_aload_n hx hb dX3_tellWord_14 rfl (lv_at hl 1 rfl) ?_
      have hk := h.1
      have h := h.2
      refine va_getX (i := k) hx hb hE.2.2.2.1 hk hS hown (hts (.fieldLink RX3 121 "PartGraphs$Verb" "word" "Ljava/lang/String;") (by decide +kernel)) (fun _ h9 => h9) dX3_tellWord_15 ?_
      refine lv_iload_n hx hb dX3_tellWord_18 rfl (lv_at hl 2 rfl) ?_
      have hk := h.1
      have h := h.2
      have hFc := va_free (wc := ([] : va_W)) hD hS hA [] rfl
      refine va_calli (va_runV (As := [.int v2]) (rest := [.ref (adT 0)]) ⟨hx, hb, hml, hown, hts⟩ (met_J0_charAt_5068e l D cs ev _ k v2 _ h) (cwV 1 hts gX3_tellWord_J0_charAt_5068e rfl rfl rfl (by decide +kernel) ⟨Nat.le_of_ble_eq_true rfl, Nat.le_of_ble_eq_true rfl⟩) (mPreV (vk_recv hE.2.2.2.2.1 hk hS) hP hD hS hK hE hFc [] (by decide) rfl) rfl rfl hl.1 rfl (lv_room (Nat.le_of_ble_eq_true rfl)) dX3_tellWord_19 ⟨Nat.le_of_ble_eq_true rfl, Nat.le_of_ble_eq_true rfl⟩) hS (fun q _ h => hFc q h) hFc (fun r_6 u t H1 locs ht hvm hw hB hz1 hk1 hS => ?_)
      have h := hw
      obtain ⟨hP1, hK1, hD1⟩ := hB
      rw [ht] at hP1
      obtain ⟨hP, hD⟩ := mJoin (wr := (sh_T cs adT lfT foT)) (w1 := ([] : va_W)) (w' := (sh_T cs adT lfT foT)) hP hD [] [0] rfl rfl (by decide) (by decide) hk1 hFc hP1 hD1 [0] (by decide) rfl
      generalize H1 = H at hP hS ⊢
      have hFc := va_free (wc := (sh_T cs adT lfT foT)) hD hS hA [0] rfl
      refine va_callv (va_runV (As := [.int r_6]) (rest := []) ⟨hx, hb, hml, hown, hts⟩ (met_X3_tellByte l D cs ev _ adT lfT foT r_6 _ h) (cwV 1 hts gX3_tellWord_X3_tellByte rfl rfl rfl (by decide +kernel) ⟨Nat.le_of_ble_eq_true rfl, Nat.le_of_ble_eq_true rfl⟩) (mPreV (va_recv hK hP (ci := 3) (q0 := 0) rfl rfl) hP hD hS hK hE hFc [0] (by decide) rfl) rfl rfl hl.1 rfl (lv_room (Nat.le_of_ble_eq_true rfl)) dX3_tellWord_22 ⟨Nat.le_of_ble_eq_true rfl, Nat.le_of_ble_eq_true rfl⟩) hS (fun q _ h => hFc q h) hFc (fun u t H1 locs ht hvm hw hB hz1 hk1 hS => ?_)
      obtain ⟨lf_8, fo_9⟩ := u
      have h := hw
      obtain ⟨hP1, hK1, hD1⟩ := hB
      rw [ht] at hP1
      obtain ⟨hP, hD⟩ := mJoin (wr := ([] : va_W)) (w1 := (sh_T cs adT lf_8 fo_9)) (w' := (sh_T cs adT lf_8 fo_9)) hP hD [0] [] rfl rfl (by decide) (by decide) hk1 hFc hP1 hD1 [0] (by decide) rfl
      generalize H1 = H at hP hS ⊢
      refine lv_iinc (v := v2 + 1) (lv' := [(2, .int (v2 + 1)), (0, .ref (adT 0)), (1, .ref (ev 0 k))]) hx hb dX3_tellWord_25 hl (k := 2) rfl rfl (by decide) rfl (fun ls hl => ?_)
      refine lv_goto (tgt := 2) hx hb dX3_tellWord_28 (by decide) ?_
      rw [hA2] at h
      exact h _ _ hP hD hS ls (lv_sub hl [1, 2, 0] rfl)
  have h := h A2 s2
  refine lv_iconst (v := 0) hx hb dX3_tellWord_0 (by decide) ?_
  refine lv_istore_n (lv' := [(2, .int 0), (0, .ref (adT 0)), (1, .ref (ev 0 k))]) hx hb dX3_tellWord_1 rfl hl (by decide) rfl (fun ls hl => ?_)
  rw [hA2] at h
  exact h _ _ hP hD hS ls (lv_sub hl [1, 2, 0] rfl)
def wp_X3_tellPair (lfT : Int32) (foT : Int32) (k : Nat) (p2 : Int32) (p3 : Int32) (post : (Int32 × Int32) → Prop) : Prop :=
    wp_X3_tellWord lfT foT k (fun u => match u with | (lf_2, fo_3) => wp_X3_tellNumber lf_2 fo_3 p2.toInt64 (fun u => match u with | (lf_5, fo_6) => wp_X3_tellNumber lf_5 fo_6 p3.toInt64 (fun u => match u with | (lf_8, fo_9) => post (lf_8, fo_9))))
set_option maxHeartbeats 4000000 in
set_option maxRecDepth 100000 in
theorem met_X3_tellPair (l : Launch) (D : va_G) (cs : Nat → ClassId) (ev : Nat → Nat → Nat) (sz0 : Nat) (adT : Nat → Nat) (lfT : Int32) (foT : Int32) (k : Nat) (p2 : Int32) (p3 : Int32) (post : (Int32 × Int32) → Prop) (h : wp_X3_tellPair lfT foT k p2 p3 post) : Met l yX3_tellPair wsX3_tellPair ({ frames := 5, cells := 0, slots := 0, locals := 107 }) (va_Pc [.ref (adT 0), .ref (ev 0 k), .int p2, .int p3] (mPre D cs ev (sh_T cs adT lfT foT) sz0)) (va_Qv post (fun u t => match u with | (lfT', foT') => mAt D cs (va_A (sh_T cs adT lfT foT) sz0) (sh_T cs adT lfT' foT') t) (va_A (sh_T cs adT lfT foT) sz0)) 0 0 (va_A (sh_T cs adT lfT foT) sz0) := by
  refine Met.ofW (cc := cX3_tellPair) (maxL := 4) (ret := none) (by decide) rfl ?_
  intro p e s m args below meth c s₁ B hml hv
  obtain ⟨rfl, hsz, hP, hK, hD0, hE⟩ := hv
  have hx := B.exec
  have hb := B.bytes
  have hr := B.returns
  have hts := atoms_spec (ws := wsX3_tellPair) B.pre
  have hown : s.vm.findClass RX3 = some m.cls := findClass_of_methodNamed B.named
  have hlocks := B.notSynchronized
  subst hsz
  have hD := hD0.self (sz := s.heap.size)
  generalize hAe : va_A (sh_T cs adT lfT foT) s.heap.size = A at hD hE ⊢
  have hA : ∀ q : Nat, s.heap.size ≤ q → A q := fun q h => by rw [← hAe]; exact Or.inr h
  have hS : va_S A s.heap s.heap [] := va_S.rf
  have hl := lv_entry ([.ref (adT 0), .ref (ev 0 k), .int p2, .int p3]) (n := 4) (Nat.le_of_ble_eq_true rfl)
  rw [lg_entry_eq]
  generalize (lg_sl ([.ref (adT 0), .ref (ev 0 k), .int p2, .int p3]) ++ List.replicate (4 - (lg_sl ([.ref (adT 0), .ref (ev 0 k), .int p2, .int p3])).length) Slot.unset).toArray = ls at hl ⊢
  have hl : lv_has ls 4 [(0, .ref (adT 0)), (1, .ref (ev 0 k)), (2, .int p2), (3, .int p3)] := hl
  refine lv_aload_n hx hb dX3_tellPair_0 rfl (lv_at hl 0 rfl) ?_
  refine lv_aload_n hx hb dX3_tellPair_1 rfl (lv_at hl 1 rfl) ?_
  have hFc := va_free (wc := (sh_T cs adT lfT foT)) hD hS hA [0] rfl
  refine va_callv (va_runV (As := [.ref (ev 0 k)]) (rest := []) ⟨hx, hb, hml, hown, hts⟩ (met_X3_tellWord l D cs ev _ adT lfT foT k _ h) (cwV 1 hts gX3_tellPair_X3_tellWord rfl rfl rfl (by decide +kernel) ⟨Nat.le_of_ble_eq_true rfl, Nat.le_of_ble_eq_true rfl⟩) (mPreV (va_recv hK hP (ci := 3) (q0 := 0) rfl rfl) hP hD hS hK hE hFc [0] (by decide) rfl) rfl rfl hl.1 rfl (lv_room (Nat.le_of_ble_eq_true rfl)) dX3_tellPair_2 ⟨Nat.le_of_ble_eq_true rfl, Nat.le_of_ble_eq_true rfl⟩) hS (fun q _ h => hFc q h) hFc (fun u t H1 locs ht hvm hw hB hz1 hk1 hS => ?_)
  obtain ⟨lf_2, fo_3⟩ := u
  have h := hw
  obtain ⟨hP1, hK1, hD1⟩ := hB
  rw [ht] at hP1
  obtain ⟨hP, hD⟩ := mJoin (wr := ([] : va_W)) (w1 := (sh_T cs adT lf_2 fo_3)) (w' := (sh_T cs adT lf_2 fo_3)) hP hD [0] [] rfl rfl (by decide) (by decide) hk1 hFc hP1 hD1 [0] (by decide) rfl
  generalize H1 = H at hP hS ⊢
  refine lv_aload_n hx hb dX3_tellPair_5 rfl (lv_at hl 0 rfl) ?_
  refine lv_iload_n hx hb dX3_tellPair_6 rfl (lv_at hl 2 rfl) ?_
  refine lv_i2l hx hb dX3_tellPair_7 rfl ?_
  have hFc := va_free (wc := (sh_T cs adT lf_2 fo_3)) hD hS hA [0] rfl
  refine va_callv (va_runV (As := [.long p2.toInt64]) (rest := []) ⟨hx, hb, hml, hown, hts⟩ (met_X3_tellNumber l D cs ev _ adT lf_2 fo_3 p2.toInt64 _ h) (cwV 1 hts gX3_tellPair_X3_tellNumber rfl rfl rfl (by decide +kernel) ⟨Nat.le_of_ble_eq_true rfl, Nat.le_of_ble_eq_true rfl⟩) (mPreV (va_recv hK hP (ci := 3) (q0 := 0) rfl rfl) hP hD hS hK hE hFc [0] (by decide) rfl) rfl rfl hl.1 rfl (lv_room (Nat.le_of_ble_eq_true rfl)) dX3_tellPair_8 ⟨Nat.le_of_ble_eq_true rfl, Nat.le_of_ble_eq_true rfl⟩) hS (fun q _ h => hFc q h) hFc (fun u t H1 locs ht hvm hw hB hz1 hk1 hS => ?_)
  obtain ⟨lf_5, fo_6⟩ := u
  have h := hw
  obtain ⟨hP1, hK1, hD1⟩ := hB
  rw [ht] at hP1
  obtain ⟨hP, hD⟩ := mJoin (wr := ([] : va_W)) (w1 := (sh_T cs adT lf_5 fo_6)) (w' := (sh_T cs adT lf_5 fo_6)) hP hD [0] [] rfl rfl (by decide) (by decide) hk1 hFc hP1 hD1 [0] (by decide) rfl
  generalize H1 = H at hP hS ⊢
  refine lv_aload_n hx hb dX3_tellPair_11 rfl (lv_at hl 0 rfl) ?_
  refine lv_iload_n hx hb dX3_tellPair_12 rfl (lv_at hl 3 rfl) ?_
  refine lv_i2l hx hb dX3_tellPair_13 rfl ?_
  have hFc := va_free (wc := (sh_T cs adT lf_5 fo_6)) hD hS hA [0] rfl
  refine va_callv (va_runV (As := [.long p3.toInt64]) (rest := []) ⟨hx, hb, hml, hown, hts⟩ (met_X3_tellNumber l D cs ev _ adT lf_5 fo_6 p3.toInt64 _ h) (cwV 1 hts gX3_tellPair_X3_tellNumber rfl rfl rfl (by decide +kernel) ⟨Nat.le_of_ble_eq_true rfl, Nat.le_of_ble_eq_true rfl⟩) (mPreV (va_recv hK hP (ci := 3) (q0 := 0) rfl rfl) hP hD hS hK hE hFc [0] (by decide) rfl) rfl rfl hl.1 rfl (lv_room (Nat.le_of_ble_eq_true rfl)) dX3_tellPair_14 ⟨Nat.le_of_ble_eq_true rfl, Nat.le_of_ble_eq_true rfl⟩) hS (fun q _ h => hFc q h) hFc (fun u t H1 locs ht hvm hw hB hz1 hk1 hS => ?_)
  obtain ⟨lf_8, fo_9⟩ := u
  have h := hw
  obtain ⟨hP1, hK1, hD1⟩ := hB
  rw [ht] at hP1
  obtain ⟨hP, hD⟩ := mJoin (wr := ([] : va_W)) (w1 := (sh_T cs adT lf_8 fo_9)) (w' := (sh_T cs adT lf_8 fo_9)) hP hD [0] [] rfl rfl (by decide) (by decide) hk1 hFc hP1 hD1 [0] (by decide) rfl
  generalize H1 = H at hP hS ⊢
  exact W.vret hx hb hr (fun t ht hW => ⟨⟨(lf_8, fo_9), rfl, h, by rw [ht]; exact hP, va_K.moved hW.alike hK, hD⟩, hS.F ht⟩) hS.2.2 dX3_tellPair_17
def wp_X3_tellEach (lfT : Int32) (foT : Int32) (k : Nat) (p2 : Int32) (p3 : Int32) (post : (Int32 × Int32) → Prop) : Prop :=
    ∀ (A3 : Int32 → Int32 → Int32 → Prop),
    (∀ (v4 : Int32) (lfT : Int32) (foT : Int32), ((10 ≤ v4 → post (lfT, foT)) ∧ (¬ 10 ≤ v4 → wp_X5_contains p3 v4 (fun r_2 _ => ((r_2 = 0 → A3 (v4 + 1) lfT foT) ∧ (¬ r_2 = 0 → wp_X3_tellPair lfT foT k p2 v4 (fun u => match u with | (lf_5, fo_6) => A3 (v4 + 1) lf_5 fo_6)))))) → A3 v4 lfT foT) →
    A3 0 lfT foT
set_option maxHeartbeats 4000000 in
set_option maxRecDepth 100000 in
theorem met_X3_tellEach (l : Launch) (D : va_G) (cs : Nat → ClassId) (ev : Nat → Nat → Nat) (sz0 : Nat) (adT : Nat → Nat) (lfT : Int32) (foT : Int32) (k : Nat) (p2 : Int32) (p3 : Int32) (post : (Int32 × Int32) → Prop) (h : wp_X3_tellEach lfT foT k p2 p3 post) : Met l yX3_tellEach wsX3_tellEach ({ frames := 6, cells := 0, slots := 0, locals := 130 }) (va_Pc [.ref (adT 0), .ref (ev 0 k), .int p2, .int p3] (mPre D cs ev (sh_T cs adT lfT foT) sz0)) (va_Qv post (fun u t => match u with | (lfT', foT') => mAt D cs (va_A (sh_T cs adT lfT foT) sz0) (sh_T cs adT lfT' foT') t) (va_A (sh_T cs adT lfT foT) sz0)) 0 0 (va_A (sh_T cs adT lfT foT) sz0) := by
  refine Met.ofW (cc := cX3_tellEach) (maxL := 5) (ret := none) (by decide) rfl ?_
  intro p e s m args below meth c s₁ B hml hv
  obtain ⟨rfl, hsz, hP, hK, hD0, hE⟩ := hv
  have hx := B.exec
  have hb := B.bytes
  have hr := B.returns
  have hts := atoms_spec (ws := wsX3_tellEach) B.pre
  have hown : s.vm.findClass RX3 = some m.cls := findClass_of_methodNamed B.named
  have hlocks := B.notSynchronized
  subst hsz
  have hD := hD0.self (sz := s.heap.size)
  generalize hAe : va_A (sh_T cs adT lfT foT) s.heap.size = A at hD hE ⊢
  have hA : ∀ q : Nat, s.heap.size ≤ q → A q := fun q h => by rw [← hAe]; exact Or.inr h
  have hS : va_S A s.heap s.heap [] := va_S.rf
  have hl := lv_entry ([.ref (adT 0), .ref (ev 0 k), .int p2, .int p3]) (n := 5) (Nat.le_of_ble_eq_true rfl)
  rw [lg_entry_eq]
  generalize (lg_sl ([.ref (adT 0), .ref (ev 0 k), .int p2, .int p3]) ++ List.replicate (5 - (lg_sl ([.ref (adT 0), .ref (ev 0 k), .int p2, .int p3])).length) Slot.unset).toArray = ls at hl ⊢
  have hl : lv_has ls 5 [(0, .ref (adT 0)), (1, .ref (ev 0 k)), (2, .int p2), (3, .int p3)] := hl
  obtain ⟨A3, hA3⟩ : ∃ Q : Int32 → Int32 → Int32 → Prop, Q = (fun v4 lfT foT => ∀ (H : Heap) (locs : List Loc), va_P D vwCl (sh_T cs adT lfT foT) H → va_D A (sh_T cs adT lfT foT) → va_S A s.heap H locs → ∀ ls : Array Slot, lv_has ls 5 [(0, .ref (adT 0)), (1, .ref (ev 0 k)), (2, .int p2), (3, .int p3), (4, .int v4)] → W p l e (headSpec wsX3_tellEach ({ frames := 6, cells := 0, slots := 0, locals := 130 })).room s m ([.ref (adT 0), .ref (ev 0 k), .int p2, .int p3] : List Value).toArray below meth c H locs 0 0 (MQ below (va_Qv post (fun u t => match u with | (lfT', foT') => mAt D cs (A) (sh_T cs adT lfT' foT') t) A) ([.ref (adT 0), .ref (ev 0 k), .int p2, .int p3] : List Value).toArray s 0 0 A) (F0 m 3 ls [])) := ⟨_, rfl⟩
  have s3 : ∀ (v4 : Int32) (lfT : Int32) (foT : Int32), ((10 ≤ v4 → post (lfT, foT)) ∧ (¬ 10 ≤ v4 → wp_X5_contains p3 v4 (fun r_2 _ => ((r_2 = 0 → A3 (v4 + 1) lfT foT) ∧ (¬ r_2 = 0 → wp_X3_tellPair lfT foT k p2 v4 (fun u => match u with | (lf_5, fo_6) => A3 (v4 + 1) lf_5 fo_6)))))) → A3 v4 lfT foT := by
    intro v4 lfT foT h
    rw [hA3]
    intro H locs hP hD hS ls hl
    refine lv_iload hx hb dX3_tellEach_3 (lv_at hl 4 rfl) ?_
    refine lv_bipush (v := 10) hx hb dX3_tellEach_5 (by decide) ?_
    refine lv_icmp_ge (tgt := 33) hx hb dX3_tellEach_7 (by decide) (fun c_1 => ?_) (fun c_1 => ?_)
    · have h := h.1 c_1
      exact W.vret hx hb hr (fun t ht hW => ⟨⟨(lfT, foT), rfl, h, by rw [ht]; exact hP, va_K.moved hW.alike hK, hD⟩, hS.F ht⟩) hS.2.2 dX3_tellEach_33
    · have h := h.2 c_1
      refine lv_iload_n hx hb dX3_tellEach_10 rfl (lv_at hl 3 rfl) ?_
      refine lv_iload hx hb dX3_tellEach_11 (lv_at hl 4 rfl) ?_
      have hFc := va_free (wc := ([] : va_W)) hD hS hA [] rfl
      refine va_calli (va_runSN (As := [.int p3, .int v4]) (rest := []) ⟨hx, hb, hml, hown, hts⟩ (met_X5_contains l D cs ev _ p3 v4 _ h) ⟨va_cnB 2 hts gX3_tellEach_X5_contains_n114 rfl rfl rfl hE.1.2.2.2.1 (hts (.initialized RX5) (by decide +kernel)) (by decide +kernel) ⟨Nat.le_of_ble_eq_true rfl, Nat.le_of_ble_eq_true rfl⟩, hts (.static yX5_contains) (by decide +kernel), trivial⟩ (mPreS hP hD hS hK hE hFc [] (by decide) rfl) rfl rfl hl.1 rfl (lv_room (Nat.le_of_ble_eq_true rfl)) dX3_tellEach_13 ⟨Nat.le_of_ble_eq_true rfl, Nat.le_of_ble_eq_true rfl⟩) hS (fun q _ h => hFc q h) hFc (fun r_2 u t H1 locs ht hvm hw hB hz1 hk1 hS => ?_)
      have h := hw
      obtain ⟨hP1, hK1, hD1⟩ := hB
      rw [ht] at hP1
      obtain ⟨hP, hD⟩ := mJoin (wr := (sh_T cs adT lfT foT)) (w1 := ([] : va_W)) (w' := (sh_T cs adT lfT foT)) hP hD [] [0] rfl rfl (by decide) (by decide) hk1 hFc hP1 hD1 [0] (by decide) rfl
      generalize H1 = H at hP hS ⊢
      refine lv_if_eq (tgt := 27) hx hb dX3_tellEach_16 (by decide) (fun c_3 => ?_) (fun c_3 => ?_)
      · have h := h.1 c_3
        refine lv_iinc (v := v4 + 1) (lv' := [(4, .int (v4 + 1)), (0, .ref (adT 0)), (1, .ref (ev 0 k)), (2, .int p2), (3, .int p3)]) hx hb dX3_tellEach_27 hl (k := 4) rfl rfl (by decide) rfl (fun ls hl => ?_)
        refine lv_goto (tgt := 3) hx hb dX3_tellEach_30 (by decide) ?_
        rw [hA3] at h
        exact h _ _ hP hD hS ls (lv_sub hl [1, 2, 3, 4, 0] rfl)
      · have h := h.2 c_3
        refine lv_aload_n hx hb dX3_tellEach_19 rfl (lv_at hl 0 rfl) ?_
        refine lv_aload_n hx hb dX3_tellEach_20 rfl (lv_at hl 1 rfl) ?_
        refine lv_iload_n hx hb dX3_tellEach_21 rfl (lv_at hl 2 rfl) ?_
        refine lv_iload hx hb dX3_tellEach_22 (lv_at hl 4 rfl) ?_
        have hFc := va_free (wc := (sh_T cs adT lfT foT)) hD hS hA [0] rfl
        refine va_callv (va_runV (As := [.ref (ev 0 k), .int p2, .int v4]) (rest := []) ⟨hx, hb, hml, hown, hts⟩ (met_X3_tellPair l D cs ev _ adT lfT foT k p2 v4 _ h) (cwV 3 hts gX3_tellEach_X3_tellPair rfl rfl rfl (by decide +kernel) ⟨Nat.le_of_ble_eq_true rfl, Nat.le_of_ble_eq_true rfl⟩) (mPreV (va_recv hK hP (ci := 3) (q0 := 0) rfl rfl) hP hD hS hK hE hFc [0] (by decide) rfl) rfl rfl hl.1 rfl (lv_room (Nat.le_of_ble_eq_true rfl)) dX3_tellEach_24 ⟨Nat.le_of_ble_eq_true rfl, Nat.le_of_ble_eq_true rfl⟩) hS (fun q _ h => hFc q h) hFc (fun u t H1 locs ht hvm hw hB hz1 hk1 hS => ?_)
        obtain ⟨lf_5, fo_6⟩ := u
        have h := hw
        obtain ⟨hP1, hK1, hD1⟩ := hB
        rw [ht] at hP1
        obtain ⟨hP, hD⟩ := mJoin (wr := ([] : va_W)) (w1 := (sh_T cs adT lf_5 fo_6)) (w' := (sh_T cs adT lf_5 fo_6)) hP hD [0] [] rfl rfl (by decide) (by decide) hk1 hFc hP1 hD1 [0] (by decide) rfl
        generalize H1 = H at hP hS ⊢
        refine lv_iinc (v := v4 + 1) (lv' := [(4, .int (v4 + 1)), (0, .ref (adT 0)), (1, .ref (ev 0 k)), (2, .int p2), (3, .int p3)]) hx hb dX3_tellEach_27 hl (k := 4) rfl rfl (by decide) rfl (fun ls hl => ?_)
        refine lv_goto (tgt := 3) hx hb dX3_tellEach_30 (by decide) ?_
        rw [hA3] at h
        exact h _ _ hP hD hS ls (lv_sub hl [1, 2, 3, 4, 0] rfl)
  have h := h A3 s3
  refine lv_iconst (v := 0) hx hb dX3_tellEach_0 (by decide) ?_
  refine lv_istore (lv' := [(4, .int 0), (0, .ref (adT 0)), (1, .ref (ev 0 k)), (2, .int p2), (3, .int p3)]) hx hb dX3_tellEach_1 hl (by decide) rfl (fun ls hl => ?_)
  rw [hA3] at h
  exact h _ _ hP hD hS ls (lv_sub hl [1, 2, 3, 4, 0] rfl)
def wp_X3_tellBars (lfT : Int32) (foT : Int32) (p1 : Int32) (p2 : Int32) (p3 : Int32) (post : (Int32 × Int32) → Prop) : Prop :=
    ∀ (A3 : Int32 → Int32 → Int32 → Prop),
    (∀ (v4 : Int32) (lfT : Int32) (foT : Int32), ((10 ≤ v4 → post (lfT, foT)) ∧ (¬ 10 ≤ v4 → wp_X5_contains p3 v4 (fun r_2 _ => ((r_2 = 0 → A3 (v4 + 1) lfT foT) ∧ (¬ r_2 = 0 → wp_X3_tellPair lfT foT 2 p1 p2 (fun u => match u with | (lf_5, fo_6) => wp_X3_tellNumber lf_5 fo_6 v4.toInt64 (fun u => match u with | (lf_8, fo_9) => A3 (v4 + 1) lf_8 fo_9))))))) → A3 v4 lfT foT) →
    A3 0 lfT foT
set_option maxHeartbeats 4000000 in
set_option maxRecDepth 100000 in
theorem met_X3_tellBars (l : Launch) (D : va_G) (cs : Nat → ClassId) (ev : Nat → Nat → Nat) (sz0 : Nat) (adT : Nat → Nat) (lfT : Int32) (foT : Int32) (p1 : Int32) (p2 : Int32) (p3 : Int32) (post : (Int32 × Int32) → Prop) (h : wp_X3_tellBars lfT foT p1 p2 p3 post) : Met l yX3_tellBars wsX3_tellBars ({ frames := 6, cells := 0, slots := 0, locals := 130 }) (va_Pc [.ref (adT 0), .int p1, .int p2, .int p3] (mPre D cs ev (sh_T cs adT lfT foT) sz0)) (va_Qv post (fun u t => match u with | (lfT', foT') => mAt D cs (va_A (sh_T cs adT lfT foT) sz0) (sh_T cs adT lfT' foT') t) (va_A (sh_T cs adT lfT foT) sz0)) 0 0 (va_A (sh_T cs adT lfT foT) sz0) := by
  refine Met.ofW (cc := cX3_tellBars) (maxL := 5) (ret := none) (by decide) rfl ?_
  intro p e s m args below meth c s₁ B hml hv
  obtain ⟨rfl, hsz, hP, hK, hD0, hE⟩ := hv
  have hx := B.exec
  have hb := B.bytes
  have hr := B.returns
  have hts := atoms_spec (ws := wsX3_tellBars) B.pre
  have hown : s.vm.findClass RX3 = some m.cls := findClass_of_methodNamed B.named
  have hlocks := B.notSynchronized
  subst hsz
  have hD := hD0.self (sz := s.heap.size)
  generalize hAe : va_A (sh_T cs adT lfT foT) s.heap.size = A at hD hE ⊢
  have hA : ∀ q : Nat, s.heap.size ≤ q → A q := fun q h => by rw [← hAe]; exact Or.inr h
  have hS : va_S A s.heap s.heap [] := va_S.rf
  have hl := lv_entry ([.ref (adT 0), .int p1, .int p2, .int p3]) (n := 5) (Nat.le_of_ble_eq_true rfl)
  rw [lg_entry_eq]
  generalize (lg_sl ([.ref (adT 0), .int p1, .int p2, .int p3]) ++ List.replicate (5 - (lg_sl ([.ref (adT 0), .int p1, .int p2, .int p3])).length) Slot.unset).toArray = ls at hl ⊢
  have hl : lv_has ls 5 [(0, .ref (adT 0)), (1, .int p1), (2, .int p2), (3, .int p3)] := hl
  obtain ⟨A3, hA3⟩ : ∃ Q : Int32 → Int32 → Int32 → Prop, Q = (fun v4 lfT foT => ∀ (H : Heap) (locs : List Loc), va_P D vwCl (sh_T cs adT lfT foT) H → va_D A (sh_T cs adT lfT foT) → va_S A s.heap H locs → ∀ ls : Array Slot, lv_has ls 5 [(0, .ref (adT 0)), (1, .int p1), (2, .int p2), (3, .int p3), (4, .int v4)] → W p l e (headSpec wsX3_tellBars ({ frames := 6, cells := 0, slots := 0, locals := 130 })).room s m ([.ref (adT 0), .int p1, .int p2, .int p3] : List Value).toArray below meth c H locs 0 0 (MQ below (va_Qv post (fun u t => match u with | (lfT', foT') => mAt D cs (A) (sh_T cs adT lfT' foT') t) A) ([.ref (adT 0), .int p1, .int p2, .int p3] : List Value).toArray s 0 0 A) (F0 m 3 ls [])) := ⟨_, rfl⟩
  have s3 : ∀ (v4 : Int32) (lfT : Int32) (foT : Int32), ((10 ≤ v4 → post (lfT, foT)) ∧ (¬ 10 ≤ v4 → wp_X5_contains p3 v4 (fun r_2 _ => ((r_2 = 0 → A3 (v4 + 1) lfT foT) ∧ (¬ r_2 = 0 → wp_X3_tellPair lfT foT 2 p1 p2 (fun u => match u with | (lf_5, fo_6) => wp_X3_tellNumber lf_5 fo_6 v4.toInt64 (fun u => match u with | (lf_8, fo_9) => A3 (v4 + 1) lf_8 fo_9))))))) → A3 v4 lfT foT := by
    intro v4 lfT foT h
    rw [hA3]
    intro H locs hP hD hS ls hl
    refine lv_iload hx hb dX3_tellBars_3 (lv_at hl 4 rfl) ?_
    refine lv_bipush (v := 10) hx hb dX3_tellBars_5 (by decide) ?_
    refine lv_icmp_ge (tgt := 41) hx hb dX3_tellBars_7 (by decide) (fun c_1 => ?_) (fun c_1 => ?_)
    · have h := h.1 c_1
      exact W.vret hx hb hr (fun t ht hW => ⟨⟨(lfT, foT), rfl, h, by rw [ht]; exact hP, va_K.moved hW.alike hK, hD⟩, hS.F ht⟩) hS.2.2 dX3_tellBars_41
    · have h := h.2 c_1
      refine lv_iload_n hx hb dX3_tellBars_10 rfl (lv_at hl 3 rfl) ?_
      refine lv_iload hx hb dX3_tellBars_11 (lv_at hl 4 rfl) ?_
      have hFc := va_free (wc := ([] : va_W)) hD hS hA [] rfl
      refine va_calli (va_runSN (As := [.int p3, .int v4]) (rest := []) ⟨hx, hb, hml, hown, hts⟩ (met_X5_contains l D cs ev _ p3 v4 _ h) ⟨va_cnB 2 hts gX3_tellBars_X5_contains_n114 rfl rfl rfl hE.1.2.2.2.1 (hts (.initialized RX5) (by decide +kernel)) (by decide +kernel) ⟨Nat.le_of_ble_eq_true rfl, Nat.le_of_ble_eq_true rfl⟩, hts (.static yX5_contains) (by decide +kernel), trivial⟩ (mPreS hP hD hS hK hE hFc [] (by decide) rfl) rfl rfl hl.1 rfl (lv_room (Nat.le_of_ble_eq_true rfl)) dX3_tellBars_13 ⟨Nat.le_of_ble_eq_true rfl, Nat.le_of_ble_eq_true rfl⟩) hS (fun q _ h => hFc q h) hFc (fun r_2 u t H1 locs ht hvm hw hB hz1 hk1 hS => ?_)
      have h := hw
      obtain ⟨hP1, hK1, hD1⟩ := hB
      rw [ht] at hP1
      obtain ⟨hP, hD⟩ := mJoin (wr := (sh_T cs adT lfT foT)) (w1 := ([] : va_W)) (w' := (sh_T cs adT lfT foT)) hP hD [] [0] rfl rfl (by decide) (by decide) hk1 hFc hP1 hD1 [0] (by decide) rfl
      generalize H1 = H at hP hS ⊢
      refine lv_if_eq (tgt := 35) hx hb dX3_tellBars_16 (by decide) (fun c_3 => ?_) (fun c_3 => ?_)
      · have h := h.1 c_3
        refine lv_iinc (v := v4 + 1) (lv' := [(4, .int (v4 + 1)), (0, .ref (adT 0)), (1, .int p1), (2, .int p2), (3, .int p3)]) hx hb dX3_tellBars_35 hl (k := 4) rfl rfl (by decide) rfl (fun ls hl => ?_)
        refine lv_goto (tgt := 3) hx hb dX3_tellBars_38 (by decide) ?_
        rw [hA3] at h
        exact h _ _ hP hD hS ls (lv_sub hl [1, 2, 3, 4, 0] rfl)
      · have h := h.2 c_3
        refine lv_aload_n hx hb dX3_tellBars_19 rfl (lv_at hl 0 rfl) ?_
        refine va_gets hx hb (show va_Z "PartGraphs$Verb" "WAY" "LPartGraphs$Verb;" (.ref (ev 0 2)) A s s.heap from (hE.2.2.1.1 2 (by decide)).1) hS hown (hts (.fieldLink RX3 118 "PartGraphs$Verb" "WAY" "LPartGraphs$Verb;") (by decide +kernel)) (fun _ h9 => h9) dX3_tellBars_20 ?_
        refine lv_iload_n hx hb dX3_tellBars_23 rfl (lv_at hl 1 rfl) ?_
        refine lv_iload_n hx hb dX3_tellBars_24 rfl (lv_at hl 2 rfl) ?_
        have hFc := va_free (wc := (sh_T cs adT lfT foT)) hD hS hA [0] rfl
        refine va_callv (va_runV (As := [.ref (ev 0 2), .int p1, .int p2]) (rest := []) ⟨hx, hb, hml, hown, hts⟩ (met_X3_tellPair l D cs ev _ adT lfT foT 2 p1 p2 _ h) (cwV 3 hts gX3_tellBars_X3_tellPair rfl rfl rfl (by decide +kernel) ⟨Nat.le_of_ble_eq_true rfl, Nat.le_of_ble_eq_true rfl⟩) (mPreV (va_recv hK hP (ci := 3) (q0 := 0) rfl rfl) hP hD hS hK hE hFc [0] (by decide) rfl) rfl rfl hl.1 rfl (lv_room (Nat.le_of_ble_eq_true rfl)) dX3_tellBars_25 ⟨Nat.le_of_ble_eq_true rfl, Nat.le_of_ble_eq_true rfl⟩) hS (fun q _ h => hFc q h) hFc (fun u t H1 locs ht hvm hw hB hz1 hk1 hS => ?_)
        obtain ⟨lf_5, fo_6⟩ := u
        have h := hw
        obtain ⟨hP1, hK1, hD1⟩ := hB
        rw [ht] at hP1
        obtain ⟨hP, hD⟩ := mJoin (wr := ([] : va_W)) (w1 := (sh_T cs adT lf_5 fo_6)) (w' := (sh_T cs adT lf_5 fo_6)) hP hD [0] [] rfl rfl (by decide) (by decide) hk1 hFc hP1 hD1 [0] (by decide) rfl
        generalize H1 = H at hP hS ⊢
        refine lv_aload_n hx hb dX3_tellBars_28 rfl (lv_at hl 0 rfl) ?_
        refine lv_iload hx hb dX3_tellBars_29 (lv_at hl 4 rfl) ?_
        refine lv_i2l hx hb dX3_tellBars_31 rfl ?_
        have hFc := va_free (wc := (sh_T cs adT lf_5 fo_6)) hD hS hA [0] rfl
        refine va_callv (va_runV (As := [.long v4.toInt64]) (rest := []) ⟨hx, hb, hml, hown, hts⟩ (met_X3_tellNumber l D cs ev _ adT lf_5 fo_6 v4.toInt64 _ h) (cwV 1 hts gX3_tellBars_X3_tellNumber rfl rfl rfl (by decide +kernel) ⟨Nat.le_of_ble_eq_true rfl, Nat.le_of_ble_eq_true rfl⟩) (mPreV (va_recv hK hP (ci := 3) (q0 := 0) rfl rfl) hP hD hS hK hE hFc [0] (by decide) rfl) rfl rfl hl.1 rfl (lv_room (Nat.le_of_ble_eq_true rfl)) dX3_tellBars_32 ⟨Nat.le_of_ble_eq_true rfl, Nat.le_of_ble_eq_true rfl⟩) hS (fun q _ h => hFc q h) hFc (fun u t H1 locs ht hvm hw hB hz1 hk1 hS => ?_)
        obtain ⟨lf_8, fo_9⟩ := u
        have h := hw
        obtain ⟨hP1, hK1, hD1⟩ := hB
        rw [ht] at hP1
        obtain ⟨hP, hD⟩ := mJoin (wr := ([] : va_W)) (w1 := (sh_T cs adT lf_8 fo_9)) (w' := (sh_T cs adT lf_8 fo_9)) hP hD [0] [] rfl rfl (by decide) (by decide) hk1 hFc hP1 hD1 [0] (by decide) rfl
        generalize H1 = H at hP hS ⊢
        refine lv_iinc (v := v4 + 1) (lv' := [(4, .int (v4 + 1)), (0, .ref (adT 0)), (1, .int p1), (2, .int p2), (3, .int p3)]) hx hb dX3_tellBars_35 hl (k := 4) rfl rfl (by decide) rfl (fun ls hl => ?_)
        refine lv_goto (tgt := 3) hx hb dX3_tellBars_38 (by decide) ?_
        rw [hA3] at h
        exact h _ _ hP hD hS ls (lv_sub hl [1, 2, 3, 4, 0] rfl)
  have h := h A3 s3
  refine lv_iconst (v := 0) hx hb dX3_tellBars_0 (by decide) ?_
  refine lv_istore (lv' := [(4, .int 0), (0, .ref (adT 0)), (1, .int p1), (2, .int p2), (3, .int p3)]) hx hb dX3_tellBars_1 hl (by decide) rfl (fun ls hl => ?_)
  rw [hA3] at h
  exact h _ _ hP hD hS ls (lv_sub hl [1, 2, 3, 4, 0] rfl)
def wp_X3_tellFastenings (lfT : Int32) (foT : Int32) (e1P : Nat → Int32) (e2P : Nat → Int32) (fkP : Nat → Int32) (fnP : Int32) (post : (Int32 × Int32) → Prop) : Prop :=
    ∀ (A2 : Int32 → Int32 → Int32 → Prop),
    (∀ (v2 : Int32) (lfT : Int32) (foT : Int32), ((fnP ≤ v2 → post (lfT, foT)) ∧ (¬ fnP ≤ v2 → ((lfT < 0 → post (lfT, foT)) ∧ (¬ lfT < 0 → (vp_in v2 20 ∧ (vp_in v2 20 ∧ wp_X3_tellPair lfT foT 3 (e1P v2.toNatClampNeg) (e2P v2.toNatClampNeg) (fun u => match u with | (lf_4, fo_5) => (vp_in v2 20 ∧ wp_X3_tellNumber lf_4 fo_5 ((fkP v2.toNatClampNeg).toInt64) (fun u => match u with | (lf_7, fo_8) => A2 (v2 + 1) lf_7 fo_8))))))))) → A2 v2 lfT foT) →
    A2 0 lfT foT
set_option maxHeartbeats 4000000 in
set_option maxRecDepth 100000 in
theorem met_X3_tellFastenings (l : Launch) (D : va_G) (cs : Nat → ClassId) (ev : Nat → Nat → Nat) (sz0 : Nat) (adT : Nat → Nat) (adP : Nat → Nat) (lfT : Int32) (foT : Int32) (kdP : Nat → Int32) (grP : Nat → Int64) (cvP : Nat → Int32) (brP : Nat → Int32) (hzP : Nat → Int32) (fmP : Nat → Int32) (dmP : Nat → Int32) (e1P : Nat → Int32) (e2P : Nat → Int32) (fkP : Nat → Int32) (pnP : Int32) (fnP : Int32) (post : (Int32 × Int32) → Prop) (h : wp_X3_tellFastenings lfT foT e1P e2P fkP fnP post) : Met l yX3_tellFastenings wsX3_tellFastenings ({ frames := 6, cells := 0, slots := 0, locals := 130 }) (va_Pc [.ref (adT 0), .ref (adP 0)] (mPre D cs ev (sh_T cs adT lfT foT ++ sh_P cs adP kdP grP cvP brP hzP fmP dmP e1P e2P fkP pnP fnP) sz0)) (va_Qv post (fun u t => match u with | (lfT', foT') => mAt D cs (va_A (sh_T cs adT lfT foT ++ sh_P cs adP kdP grP cvP brP hzP fmP dmP e1P e2P fkP pnP fnP) sz0) (sh_T cs adT lfT' foT' ++ sh_P cs adP kdP grP cvP brP hzP fmP dmP e1P e2P fkP pnP fnP) t) (va_A (sh_T cs adT lfT foT ++ sh_P cs adP kdP grP cvP brP hzP fmP dmP e1P e2P fkP pnP fnP) sz0)) 0 0 (va_A (sh_T cs adT lfT foT ++ sh_P cs adP kdP grP cvP brP hzP fmP dmP e1P e2P fkP pnP fnP) sz0) := by
  refine Met.ofW (cc := cX3_tellFastenings) (maxL := 3) (ret := none) (by decide) rfl ?_
  intro p e s m args below meth c s₁ B hml hv
  obtain ⟨rfl, hsz, hP, hK, hD0, hE⟩ := hv
  have hx := B.exec
  have hb := B.bytes
  have hr := B.returns
  have hts := atoms_spec (ws := wsX3_tellFastenings) B.pre
  have hown : s.vm.findClass RX3 = some m.cls := findClass_of_methodNamed B.named
  have hlocks := B.notSynchronized
  subst hsz
  have hD := hD0.self (sz := s.heap.size)
  generalize hAe : va_A (sh_T cs adT lfT foT ++ sh_P cs adP kdP grP cvP brP hzP fmP dmP e1P e2P fkP pnP fnP) s.heap.size = A at hD hE ⊢
  have hA : ∀ q : Nat, s.heap.size ≤ q → A q := fun q h => by rw [← hAe]; exact Or.inr h
  have hS : va_S A s.heap s.heap [] := va_S.rf
  have hl := lv_entry ([.ref (adT 0), .ref (adP 0)]) (n := 3) (Nat.le_of_ble_eq_true rfl)
  rw [lg_entry_eq]
  generalize (lg_sl ([.ref (adT 0), .ref (adP 0)]) ++ List.replicate (3 - (lg_sl ([.ref (adT 0), .ref (adP 0)])).length) Slot.unset).toArray = ls at hl ⊢
  have hl : lv_has ls 3 [(0, .ref (adT 0)), (1, .ref (adP 0))] := hl
  obtain ⟨A2, hA2⟩ : ∃ Q : Int32 → Int32 → Int32 → Prop, Q = (fun v2 lfT foT => ∀ (H : Heap) (locs : List Loc), va_P D vwCl (sh_T cs adT lfT foT ++ sh_P cs adP kdP grP cvP brP hzP fmP dmP e1P e2P fkP pnP fnP) H → va_D A (sh_T cs adT lfT foT ++ sh_P cs adP kdP grP cvP brP hzP fmP dmP e1P e2P fkP pnP fnP) → va_S A s.heap H locs → ∀ ls : Array Slot, lv_has ls 3 [(0, .ref (adT 0)), (1, .ref (adP 0)), (2, .int v2)] → W p l e (headSpec wsX3_tellFastenings ({ frames := 6, cells := 0, slots := 0, locals := 130 })).room s m ([.ref (adT 0), .ref (adP 0)] : List Value).toArray below meth c H locs 0 0 (MQ below (va_Qv post (fun u t => match u with | (lfT', foT') => mAt D cs (A) (sh_T cs adT lfT' foT' ++ sh_P cs adP kdP grP cvP brP hzP fmP dmP e1P e2P fkP pnP fnP) t) A) ([.ref (adT 0), .ref (adP 0)] : List Value).toArray s 0 0 A) (F0 m 2 ls [])) := ⟨_, rfl⟩
  have s2 : ∀ (v2 : Int32) (lfT : Int32) (foT : Int32), ((fnP ≤ v2 → post (lfT, foT)) ∧ (¬ fnP ≤ v2 → ((lfT < 0 → post (lfT, foT)) ∧ (¬ lfT < 0 → (vp_in v2 20 ∧ (vp_in v2 20 ∧ wp_X3_tellPair lfT foT 3 (e1P v2.toNatClampNeg) (e2P v2.toNatClampNeg) (fun u => match u with | (lf_4, fo_5) => (vp_in v2 20 ∧ wp_X3_tellNumber lf_4 fo_5 ((fkP v2.toNatClampNeg).toInt64) (fun u => match u with | (lf_7, fo_8) => A2 (v2 + 1) lf_7 fo_8))))))))) → A2 v2 lfT foT := by
    intro v2 lfT foT h
    rw [hA2]
    intro H locs hP hD hS ls hl
    refine lv_iload_n hx hb dX3_tellFastenings_2 rfl (lv_at hl 2 rfl) ?_
    refine lv_aload_n hx hb dX3_tellFastenings_3 rfl (lv_at hl 1 rfl) ?_
    refine va_get (D := D) (ci := 1) (v := .int fnP) (C := RX1) (T := TX1) (N := 12) hx hb hts (by decide +kernel) hown hK hP 1 rfl rfl 11 (by decide) (hts (.fieldLink RX3 99 "PartGraphs$Product" "fasteningCount" "I") (by decide +kernel)) (fun _ h9 => h9) rfl dX3_tellFastenings_4 ?_
    refine lv_icmp_ge (tgt := 53) hx hb dX3_tellFastenings_7 (by decide) (fun c_1 => ?_) (fun c_1 => ?_)
    · have h := h.1 c_1
      exact W.vret hx hb hr (fun t ht hW => ⟨⟨(lfT, foT), rfl, h, by rw [ht]; exact hP, va_K.moved hW.alike hK, hD⟩, hS.F ht⟩) hS.2.2 dX3_tellFastenings_53
    · have h := h.2 c_1
      refine lv_aload_n hx hb dX3_tellFastenings_10 rfl (lv_at hl 0 rfl) ?_
      refine va_get (D := D) (ci := 3) (v := .int lfT) (C := RX3) (T := TX3) (N := 2) hx hb hts (by decide +kernel) hown hK hP 0 rfl rfl 0 (by decide) (hts (.fieldLink RX3 9 "PartGraphs$Teller" "left" "I") (by decide +kernel)) (fun _ h9 => h9) rfl dX3_tellFastenings_11 ?_
      refine lv_if_lt (tgt := 53) hx hb dX3_tellFastenings_14 (by decide) (fun c_2 => ?_) (fun c_2 => ?_)
      · have h := h.1 c_2
        exact W.vret hx hb hr (fun t ht hW => ⟨⟨(lfT, foT), rfl, h, by rw [ht]; exact hP, va_K.moved hW.alike hK, hD⟩, hS.F ht⟩) hS.2.2 dX3_tellFastenings_53
      · have h := h.2 c_2
        refine lv_aload_n hx hb dX3_tellFastenings_17 rfl (lv_at hl 0 rfl) ?_
        refine va_gets hx hb (show va_Z "PartGraphs$Verb" "FASTEN" "LPartGraphs$Verb;" (.ref (ev 0 3)) A s s.heap from (hE.2.2.1.1 3 (by decide)).1) hS hown (hts (.fieldLink RX3 102 "PartGraphs$Verb" "FASTEN" "LPartGraphs$Verb;") (by decide +kernel)) (fun _ h9 => h9) dX3_tellFastenings_18 ?_
        refine lv_aload_n hx hb dX3_tellFastenings_21 rfl (lv_at hl 1 rfl) ?_
        refine va_get (D := D) (ci := 1) (v := .ref (adP 8)) (C := RX1) (T := TX1) (N := 12) hx hb hts (by decide +kernel) hown hK hP 1 rfl rfl 7 (by decide) (hts (.fieldLink RX3 105 "PartGraphs$Product" "firstEnds" "[I") (by decide +kernel)) (fun _ h9 => h9) rfl dX3_tellFastenings_22 ?_
        refine lv_iload_n hx hb dX3_tellFastenings_25 rfl (lv_at hl 2 rfl) ?_
        have hin := h.1
        have h := h.2
        refine va_iald (D := D) (cl := vwCl) hx hb hK hP 9 0 rfl rfl hin dX3_tellFastenings_26 ?_
        refine lv_aload_n hx hb dX3_tellFastenings_27 rfl (lv_at hl 1 rfl) ?_
        refine va_get (D := D) (ci := 1) (v := .ref (adP 9)) (C := RX1) (T := TX1) (N := 12) hx hb hts (by decide +kernel) hown hK hP 1 rfl rfl 8 (by decide) (hts (.fieldLink RX3 108 "PartGraphs$Product" "secondEnds" "[I") (by decide +kernel)) (fun _ h9 => h9) rfl dX3_tellFastenings_28 ?_
        refine lv_iload_n hx hb dX3_tellFastenings_31 rfl (lv_at hl 2 rfl) ?_
        have hin := h.1
        have h := h.2
        refine va_iald (D := D) (cl := vwCl) hx hb hK hP 10 0 rfl rfl hin dX3_tellFastenings_32 ?_
        have hFc := va_free (wc := (sh_T cs adT lfT foT)) hD hS hA [0] rfl
        refine va_callv (va_runV (As := [.ref (ev 0 3), .int (e1P v2.toNatClampNeg), .int (e2P v2.toNatClampNeg)]) (rest := []) ⟨hx, hb, hml, hown, hts⟩ (met_X3_tellPair l D cs ev _ adT lfT foT 3 (e1P v2.toNatClampNeg) (e2P v2.toNatClampNeg) _ h) (cwV 3 hts gX3_tellFastenings_X3_tellPair rfl rfl rfl (by decide +kernel) ⟨Nat.le_of_ble_eq_true rfl, Nat.le_of_ble_eq_true rfl⟩) (mPreV (va_recv hK hP (ci := 3) (q0 := 0) rfl rfl) hP hD hS hK hE hFc [0] (by decide) rfl) rfl rfl hl.1 rfl (lv_room (Nat.le_of_ble_eq_true rfl)) dX3_tellFastenings_33 ⟨Nat.le_of_ble_eq_true rfl, Nat.le_of_ble_eq_true rfl⟩) hS (fun q _ h => hFc q h) hFc (fun u t H1 locs ht hvm hw hB hz1 hk1 hS => ?_)
        obtain ⟨lf_4, fo_5⟩ := u
        have h := hw
        obtain ⟨hP1, hK1, hD1⟩ := hB
        rw [ht] at hP1
        obtain ⟨hP, hD⟩ := mJoin (wr := (sh_P cs adP kdP grP cvP brP hzP fmP dmP e1P e2P fkP pnP fnP)) (w1 := (sh_T cs adT lf_4 fo_5)) (w' := (sh_T cs adT lf_4 fo_5 ++ sh_P cs adP kdP grP cvP brP hzP fmP dmP e1P e2P fkP pnP fnP)) hP hD [0] [1, 2, 3, 4, 5, 6, 7, 8, 9, 10, 11] rfl rfl (by decide) (by decide) hk1 hFc hP1 hD1 [11, 0, 1, 2, 3, 4, 5, 6, 7, 8, 9, 10] (by decide) rfl
        generalize H1 = H at hP hS ⊢
        refine lv_aload_n hx hb dX3_tellFastenings_36 rfl (lv_at hl 0 rfl) ?_
        refine lv_aload_n hx hb dX3_tellFastenings_37 rfl (lv_at hl 1 rfl) ?_
        refine va_get (D := D) (ci := 1) (v := .ref (adP 10)) (C := RX1) (T := TX1) (N := 12) hx hb hts (by decide +kernel) hown hK hP 1 rfl rfl 9 (by decide) (hts (.fieldLink RX3 111 "PartGraphs$Product" "fasteningKinds" "[I") (by decide +kernel)) (fun _ h9 => h9) rfl dX3_tellFastenings_38 ?_
        refine lv_iload_n hx hb dX3_tellFastenings_41 rfl (lv_at hl 2 rfl) ?_
        have hin := h.1
        have h := h.2
        refine va_iald (D := D) (cl := vwCl) hx hb hK hP 11 0 rfl rfl hin dX3_tellFastenings_42 ?_
        refine lv_i2l hx hb dX3_tellFastenings_43 rfl ?_
        have hFc := va_free (wc := (sh_T cs adT lf_4 fo_5)) hD hS hA [0] rfl
        refine va_callv (va_runV (As := [.long ((fkP v2.toNatClampNeg).toInt64)]) (rest := []) ⟨hx, hb, hml, hown, hts⟩ (met_X3_tellNumber l D cs ev _ adT lf_4 fo_5 ((fkP v2.toNatClampNeg).toInt64) _ h) (cwV 1 hts gX3_tellFastenings_X3_tellNumber rfl rfl rfl (by decide +kernel) ⟨Nat.le_of_ble_eq_true rfl, Nat.le_of_ble_eq_true rfl⟩) (mPreV (va_recv hK hP (ci := 3) (q0 := 0) rfl rfl) hP hD hS hK hE hFc [0] (by decide) rfl) rfl rfl hl.1 rfl (lv_room (Nat.le_of_ble_eq_true rfl)) dX3_tellFastenings_44 ⟨Nat.le_of_ble_eq_true rfl, Nat.le_of_ble_eq_true rfl⟩) hS (fun q _ h => hFc q h) hFc (fun u t H1 locs ht hvm hw hB hz1 hk1 hS => ?_)
        obtain ⟨lf_7, fo_8⟩ := u
        have h := hw
        obtain ⟨hP1, hK1, hD1⟩ := hB
        rw [ht] at hP1
        obtain ⟨hP, hD⟩ := mJoin (wr := (sh_P cs adP kdP grP cvP brP hzP fmP dmP e1P e2P fkP pnP fnP)) (w1 := (sh_T cs adT lf_7 fo_8)) (w' := (sh_T cs adT lf_7 fo_8 ++ sh_P cs adP kdP grP cvP brP hzP fmP dmP e1P e2P fkP pnP fnP)) hP hD [0] [1, 2, 3, 4, 5, 6, 7, 8, 9, 10, 11] rfl rfl (by decide) (by decide) hk1 hFc hP1 hD1 [11, 0, 1, 2, 3, 4, 5, 6, 7, 8, 9, 10] (by decide) rfl
        generalize H1 = H at hP hS ⊢
        refine lv_iinc (v := v2 + 1) (lv' := [(2, .int (v2 + 1)), (0, .ref (adT 0)), (1, .ref (adP 0))]) hx hb dX3_tellFastenings_47 hl (k := 2) rfl rfl (by decide) rfl (fun ls hl => ?_)
        refine lv_goto (tgt := 2) hx hb dX3_tellFastenings_50 (by decide) ?_
        rw [hA2] at h
        exact h _ _ hP hD hS ls (lv_sub hl [1, 2, 0] rfl)
  have h := h A2 s2
  refine lv_iconst (v := 0) hx hb dX3_tellFastenings_0 (by decide) ?_
  refine lv_istore_n (lv' := [(2, .int 0), (0, .ref (adT 0)), (1, .ref (adP 0))]) hx hb dX3_tellFastenings_1 rfl hl (by decide) rfl (fun ls hl => ?_)
  rw [hA2] at h
  exact h _ _ hP hD hS ls (lv_sub hl [1, 2, 0] rfl)
def wp_X3_tellParts (lfT : Int32) (foT : Int32) (kdP : Nat → Int32) (grP : Nat → Int64) (pnP : Int32) (post : (Int32 × Int32) → Prop) : Prop :=
    ∀ (A2 : Int32 → Int32 → Int32 → Prop),
    (∀ (v2 : Int32) (lfT : Int32) (foT : Int32), ((pnP ≤ v2 → post (lfT, foT)) ∧ (¬ pnP ≤ v2 → ((lfT < 0 → post (lfT, foT)) ∧ (¬ lfT < 0 → wp_X3_tellWord lfT foT 0 (fun u => match u with | (lf_4, fo_5) => (vp_in v2 10 ∧ wp_X3_tellNumber lf_4 fo_5 ((kdP v2.toNatClampNeg).toInt64) (fun u => match u with | (lf_7, fo_8) => (vp_in v2 10 ∧ wp_X3_tellNumber lf_7 fo_8 (grP v2.toNatClampNeg) (fun u => match u with | (lf_10, fo_11) => A2 (v2 + 1) lf_10 fo_11))))))))) → A2 v2 lfT foT) →
    A2 0 lfT foT
set_option maxHeartbeats 4000000 in
set_option maxRecDepth 100000 in
theorem met_X3_tellParts (l : Launch) (D : va_G) (cs : Nat → ClassId) (ev : Nat → Nat → Nat) (sz0 : Nat) (adT : Nat → Nat) (adP : Nat → Nat) (lfT : Int32) (foT : Int32) (kdP : Nat → Int32) (grP : Nat → Int64) (cvP : Nat → Int32) (brP : Nat → Int32) (hzP : Nat → Int32) (fmP : Nat → Int32) (dmP : Nat → Int32) (e1P : Nat → Int32) (e2P : Nat → Int32) (fkP : Nat → Int32) (pnP : Int32) (fnP : Int32) (post : (Int32 × Int32) → Prop) (h : wp_X3_tellParts lfT foT kdP grP pnP post) : Met l yX3_tellParts wsX3_tellParts ({ frames := 5, cells := 0, slots := 0, locals := 107 }) (va_Pc [.ref (adT 0), .ref (adP 0)] (mPre D cs ev (sh_T cs adT lfT foT ++ sh_P cs adP kdP grP cvP brP hzP fmP dmP e1P e2P fkP pnP fnP) sz0)) (va_Qv post (fun u t => match u with | (lfT', foT') => mAt D cs (va_A (sh_T cs adT lfT foT ++ sh_P cs adP kdP grP cvP brP hzP fmP dmP e1P e2P fkP pnP fnP) sz0) (sh_T cs adT lfT' foT' ++ sh_P cs adP kdP grP cvP brP hzP fmP dmP e1P e2P fkP pnP fnP) t) (va_A (sh_T cs adT lfT foT ++ sh_P cs adP kdP grP cvP brP hzP fmP dmP e1P e2P fkP pnP fnP) sz0)) 0 0 (va_A (sh_T cs adT lfT foT ++ sh_P cs adP kdP grP cvP brP hzP fmP dmP e1P e2P fkP pnP fnP) sz0) := by
  refine Met.ofW (cc := cX3_tellParts) (maxL := 3) (ret := none) (by decide) rfl ?_
  intro p e s m args below meth c s₁ B hml hv
  obtain ⟨rfl, hsz, hP, hK, hD0, hE⟩ := hv
  have hx := B.exec
  have hb := B.bytes
  have hr := B.returns
  have hts := atoms_spec (ws := wsX3_tellParts) B.pre
  have hown : s.vm.findClass RX3 = some m.cls := findClass_of_methodNamed B.named
  have hlocks := B.notSynchronized
  subst hsz
  have hD := hD0.self (sz := s.heap.size)
  generalize hAe : va_A (sh_T cs adT lfT foT ++ sh_P cs adP kdP grP cvP brP hzP fmP dmP e1P e2P fkP pnP fnP) s.heap.size = A at hD hE ⊢
  have hA : ∀ q : Nat, s.heap.size ≤ q → A q := fun q h => by rw [← hAe]; exact Or.inr h
  have hS : va_S A s.heap s.heap [] := va_S.rf
  have hl := lv_entry ([.ref (adT 0), .ref (adP 0)]) (n := 3) (Nat.le_of_ble_eq_true rfl)
  rw [lg_entry_eq]
  generalize (lg_sl ([.ref (adT 0), .ref (adP 0)]) ++ List.replicate (3 - (lg_sl ([.ref (adT 0), .ref (adP 0)])).length) Slot.unset).toArray = ls at hl ⊢
  have hl : lv_has ls 3 [(0, .ref (adT 0)), (1, .ref (adP 0))] := hl
  obtain ⟨A2, hA2⟩ : ∃ Q : Int32 → Int32 → Int32 → Prop, Q = (fun v2 lfT foT => ∀ (H : Heap) (locs : List Loc), va_P D vwCl (sh_T cs adT lfT foT ++ sh_P cs adP kdP grP cvP brP hzP fmP dmP e1P e2P fkP pnP fnP) H → va_D A (sh_T cs adT lfT foT ++ sh_P cs adP kdP grP cvP brP hzP fmP dmP e1P e2P fkP pnP fnP) → va_S A s.heap H locs → ∀ ls : Array Slot, lv_has ls 3 [(0, .ref (adT 0)), (1, .ref (adP 0)), (2, .int v2)] → W p l e (headSpec wsX3_tellParts ({ frames := 5, cells := 0, slots := 0, locals := 107 })).room s m ([.ref (adT 0), .ref (adP 0)] : List Value).toArray below meth c H locs 0 0 (MQ below (va_Qv post (fun u t => match u with | (lfT', foT') => mAt D cs (A) (sh_T cs adT lfT' foT' ++ sh_P cs adP kdP grP cvP brP hzP fmP dmP e1P e2P fkP pnP fnP) t) A) ([.ref (adT 0), .ref (adP 0)] : List Value).toArray s 0 0 A) (F0 m 2 ls [])) := ⟨_, rfl⟩
  have s2 : ∀ (v2 : Int32) (lfT : Int32) (foT : Int32), ((pnP ≤ v2 → post (lfT, foT)) ∧ (¬ pnP ≤ v2 → ((lfT < 0 → post (lfT, foT)) ∧ (¬ lfT < 0 → wp_X3_tellWord lfT foT 0 (fun u => match u with | (lf_4, fo_5) => (vp_in v2 10 ∧ wp_X3_tellNumber lf_4 fo_5 ((kdP v2.toNatClampNeg).toInt64) (fun u => match u with | (lf_7, fo_8) => (vp_in v2 10 ∧ wp_X3_tellNumber lf_7 fo_8 (grP v2.toNatClampNeg) (fun u => match u with | (lf_10, fo_11) => A2 (v2 + 1) lf_10 fo_11))))))))) → A2 v2 lfT foT := by
    intro v2 lfT foT h
    rw [hA2]
    intro H locs hP hD hS ls hl
    refine lv_iload_n hx hb dX3_tellParts_2 rfl (lv_at hl 2 rfl) ?_
    refine lv_aload_n hx hb dX3_tellParts_3 rfl (lv_at hl 1 rfl) ?_
    refine va_get (D := D) (ci := 1) (v := .int pnP) (C := RX1) (T := TX1) (N := 12) hx hb hts (by decide +kernel) hown hK hP 1 rfl rfl 10 (by decide) (hts (.fieldLink RX3 22 "PartGraphs$Product" "partCount" "I") (by decide +kernel)) (fun _ h9 => h9) rfl dX3_tellParts_4 ?_
    refine lv_icmp_ge (tgt := 51) hx hb dX3_tellParts_7 (by decide) (fun c_1 => ?_) (fun c_1 => ?_)
    · have h := h.1 c_1
      exact W.vret hx hb hr (fun t ht hW => ⟨⟨(lfT, foT), rfl, h, by rw [ht]; exact hP, va_K.moved hW.alike hK, hD⟩, hS.F ht⟩) hS.2.2 dX3_tellParts_51
    · have h := h.2 c_1
      refine lv_aload_n hx hb dX3_tellParts_10 rfl (lv_at hl 0 rfl) ?_
      refine va_get (D := D) (ci := 3) (v := .int lfT) (C := RX3) (T := TX3) (N := 2) hx hb hts (by decide +kernel) hown hK hP 0 rfl rfl 0 (by decide) (hts (.fieldLink RX3 9 "PartGraphs$Teller" "left" "I") (by decide +kernel)) (fun _ h9 => h9) rfl dX3_tellParts_11 ?_
      refine lv_if_lt (tgt := 51) hx hb dX3_tellParts_14 (by decide) (fun c_2 => ?_) (fun c_2 => ?_)
      · have h := h.1 c_2
        exact W.vret hx hb hr (fun t ht hW => ⟨⟨(lfT, foT), rfl, h, by rw [ht]; exact hP, va_K.moved hW.alike hK, hD⟩, hS.F ht⟩) hS.2.2 dX3_tellParts_51
      · have h := h.2 c_2
        refine lv_aload_n hx hb dX3_tellParts_17 rfl (lv_at hl 0 rfl) ?_
        refine va_gets hx hb (show va_Z "PartGraphs$Verb" "PART" "LPartGraphs$Verb;" (.ref (ev 0 0)) A s s.heap from (hE.2.2.1.1 0 (by decide)).1) hS hown (hts (.fieldLink RX3 34 "PartGraphs$Verb" "PART" "LPartGraphs$Verb;") (by decide +kernel)) (fun _ h9 => h9) dX3_tellParts_18 ?_
        have hFc := va_free (wc := (sh_T cs adT lfT foT)) hD hS hA [0] rfl
        refine va_callv (va_runV (As := [.ref (ev 0 0)]) (rest := []) ⟨hx, hb, hml, hown, hts⟩ (met_X3_tellWord l D cs ev _ adT lfT foT 0 _ h) (cwV 1 hts gX3_tellParts_X3_tellWord rfl rfl rfl (by decide +kernel) ⟨Nat.le_of_ble_eq_true rfl, Nat.le_of_ble_eq_true rfl⟩) (mPreV (va_recv hK hP (ci := 3) (q0 := 0) rfl rfl) hP hD hS hK hE hFc [0] (by decide) rfl) rfl rfl hl.1 rfl (lv_room (Nat.le_of_ble_eq_true rfl)) dX3_tellParts_21 ⟨Nat.le_of_ble_eq_true rfl, Nat.le_of_ble_eq_true rfl⟩) hS (fun q _ h => hFc q h) hFc (fun u t H1 locs ht hvm hw hB hz1 hk1 hS => ?_)
        obtain ⟨lf_4, fo_5⟩ := u
        have h := hw
        obtain ⟨hP1, hK1, hD1⟩ := hB
        rw [ht] at hP1
        obtain ⟨hP, hD⟩ := mJoin (wr := (sh_P cs adP kdP grP cvP brP hzP fmP dmP e1P e2P fkP pnP fnP)) (w1 := (sh_T cs adT lf_4 fo_5)) (w' := (sh_T cs adT lf_4 fo_5 ++ sh_P cs adP kdP grP cvP brP hzP fmP dmP e1P e2P fkP pnP fnP)) hP hD [0] [1, 2, 3, 4, 5, 6, 7, 8, 9, 10, 11] rfl rfl (by decide) (by decide) hk1 hFc hP1 hD1 [11, 0, 1, 2, 3, 4, 5, 6, 7, 8, 9, 10] (by decide) rfl
        generalize H1 = H at hP hS ⊢
        refine lv_aload_n hx hb dX3_tellParts_24 rfl (lv_at hl 0 rfl) ?_
        refine lv_aload_n hx hb dX3_tellParts_25 rfl (lv_at hl 1 rfl) ?_
        refine va_get (D := D) (ci := 1) (v := .ref (adP 1)) (C := RX1) (T := TX1) (N := 12) hx hb hts (by decide +kernel) hown hK hP 1 rfl rfl 0 (by decide) (hts (.fieldLink RX3 44 "PartGraphs$Product" "kinds" "[I") (by decide +kernel)) (fun _ h9 => h9) rfl dX3_tellParts_26 ?_
        refine lv_iload_n hx hb dX3_tellParts_29 rfl (lv_at hl 2 rfl) ?_
        have hin := h.1
        have h := h.2
        refine va_iald (D := D) (cl := vwCl) hx hb hK hP 2 0 rfl rfl hin dX3_tellParts_30 ?_
        refine lv_i2l hx hb dX3_tellParts_31 rfl ?_
        have hFc := va_free (wc := (sh_T cs adT lf_4 fo_5)) hD hS hA [0] rfl
        refine va_callv (va_runV (As := [.long ((kdP v2.toNatClampNeg).toInt64)]) (rest := []) ⟨hx, hb, hml, hown, hts⟩ (met_X3_tellNumber l D cs ev _ adT lf_4 fo_5 ((kdP v2.toNatClampNeg).toInt64) _ h) (cwV 1 hts gX3_tellParts_X3_tellNumber rfl rfl rfl (by decide +kernel) ⟨Nat.le_of_ble_eq_true rfl, Nat.le_of_ble_eq_true rfl⟩) (mPreV (va_recv hK hP (ci := 3) (q0 := 0) rfl rfl) hP hD hS hK hE hFc [0] (by decide) rfl) rfl rfl hl.1 rfl (lv_room (Nat.le_of_ble_eq_true rfl)) dX3_tellParts_32 ⟨Nat.le_of_ble_eq_true rfl, Nat.le_of_ble_eq_true rfl⟩) hS (fun q _ h => hFc q h) hFc (fun u t H1 locs ht hvm hw hB hz1 hk1 hS => ?_)
        obtain ⟨lf_7, fo_8⟩ := u
        have h := hw
        obtain ⟨hP1, hK1, hD1⟩ := hB
        rw [ht] at hP1
        obtain ⟨hP, hD⟩ := mJoin (wr := (sh_P cs adP kdP grP cvP brP hzP fmP dmP e1P e2P fkP pnP fnP)) (w1 := (sh_T cs adT lf_7 fo_8)) (w' := (sh_T cs adT lf_7 fo_8 ++ sh_P cs adP kdP grP cvP brP hzP fmP dmP e1P e2P fkP pnP fnP)) hP hD [0] [1, 2, 3, 4, 5, 6, 7, 8, 9, 10, 11] rfl rfl (by decide) (by decide) hk1 hFc hP1 hD1 [11, 0, 1, 2, 3, 4, 5, 6, 7, 8, 9, 10] (by decide) rfl
        generalize H1 = H at hP hS ⊢
        refine lv_aload_n hx hb dX3_tellParts_35 rfl (lv_at hl 0 rfl) ?_
        refine lv_aload_n hx hb dX3_tellParts_36 rfl (lv_at hl 1 rfl) ?_
        refine va_get (D := D) (ci := 1) (v := .ref (adP 2)) (C := RX1) (T := TX1) (N := 12) hx hb hts (by decide +kernel) hown hK hP 1 rfl rfl 1 (by decide) (hts (.fieldLink RX3 52 "PartGraphs$Product" "grams" "[J") (by decide +kernel)) (fun _ h9 => h9) rfl dX3_tellParts_37 ?_
        refine lv_iload_n hx hb dX3_tellParts_40 rfl (lv_at hl 2 rfl) ?_
        have hin := h.1
        have h := h.2
        refine va_lald (D := D) (cl := vwCl) hx hb hK hP 3 1 rfl rfl hin dX3_tellParts_41 ?_
        have hFc := va_free (wc := (sh_T cs adT lf_7 fo_8)) hD hS hA [0] rfl
        refine va_callv (va_runV (As := [.long (grP v2.toNatClampNeg)]) (rest := []) ⟨hx, hb, hml, hown, hts⟩ (met_X3_tellNumber l D cs ev _ adT lf_7 fo_8 (grP v2.toNatClampNeg) _ h) (cwV 1 hts gX3_tellParts_X3_tellNumber rfl rfl rfl (by decide +kernel) ⟨Nat.le_of_ble_eq_true rfl, Nat.le_of_ble_eq_true rfl⟩) (mPreV (va_recv hK hP (ci := 3) (q0 := 0) rfl rfl) hP hD hS hK hE hFc [0] (by decide) rfl) rfl rfl hl.1 rfl (lv_room (Nat.le_of_ble_eq_true rfl)) dX3_tellParts_42 ⟨Nat.le_of_ble_eq_true rfl, Nat.le_of_ble_eq_true rfl⟩) hS (fun q _ h => hFc q h) hFc (fun u t H1 locs ht hvm hw hB hz1 hk1 hS => ?_)
        obtain ⟨lf_10, fo_11⟩ := u
        have h := hw
        obtain ⟨hP1, hK1, hD1⟩ := hB
        rw [ht] at hP1
        obtain ⟨hP, hD⟩ := mJoin (wr := (sh_P cs adP kdP grP cvP brP hzP fmP dmP e1P e2P fkP pnP fnP)) (w1 := (sh_T cs adT lf_10 fo_11)) (w' := (sh_T cs adT lf_10 fo_11 ++ sh_P cs adP kdP grP cvP brP hzP fmP dmP e1P e2P fkP pnP fnP)) hP hD [0] [1, 2, 3, 4, 5, 6, 7, 8, 9, 10, 11] rfl rfl (by decide) (by decide) hk1 hFc hP1 hD1 [11, 0, 1, 2, 3, 4, 5, 6, 7, 8, 9, 10] (by decide) rfl
        generalize H1 = H at hP hS ⊢
        refine lv_iinc (v := v2 + 1) (lv' := [(2, .int (v2 + 1)), (0, .ref (adT 0)), (1, .ref (adP 0))]) hx hb dX3_tellParts_45 hl (k := 2) rfl rfl (by decide) rfl (fun ls hl => ?_)
        refine lv_goto (tgt := 2) hx hb dX3_tellParts_48 (by decide) ?_
        rw [hA2] at h
        exact h _ _ hP hD hS ls (lv_sub hl [1, 2, 0] rfl)
  have h := h A2 s2
  refine lv_iconst (v := 0) hx hb dX3_tellParts_0 (by decide) ?_
  refine lv_istore_n (lv' := [(2, .int 0), (0, .ref (adT 0)), (1, .ref (adP 0))]) hx hb dX3_tellParts_1 rfl hl (by decide) rfl (fun ls hl => ?_)
  rw [hA2] at h
  exact h _ _ hP hD hS ls (lv_sub hl [1, 2, 0] rfl)
def wp_X3_tellDetails (lfT : Int32) (foT : Int32) (cvP : Nat → Int32) (brP : Nat → Int32) (hzP : Nat → Int32) (fmP : Nat → Int32) (dmP : Nat → Int32) (pnP : Int32) (p2 : Int32) (post : (Int32 × Int32) → Prop) : Prop :=
    ∀ (A15 : Int32 → Int32 → Int32 → Prop),
    (∀ (v3 : Int32) (lfT : Int32) (foT : Int32), ((6 ≤ v3 → (vp_in p2 10 ∧ wp_X3_tellEach lfT foT 4 p2 (hzP p2.toNatClampNeg) (fun u => match u with | (lf_7, fo_8) => (vp_in p2 10 ∧ (((fmP p2.toNatClampNeg) = (-1) → (vp_in p2 10 ∧ (((dmP p2.toNatClampNeg) ≤ 0 → post (lf_7, fo_8)) ∧ (¬ (dmP p2.toNatClampNeg) ≤ 0 → (vp_in p2 10 ∧ wp_X3_tellPair lf_7 fo_8 6 p2 (dmP p2.toNatClampNeg) (fun u => match u with | (lf_12, fo_13) => post (lf_12, fo_13))))))) ∧ (¬ (fmP p2.toNatClampNeg) = (-1) → (vp_in p2 10 ∧ wp_X3_tellPair lf_7 fo_8 5 p2 (fmP p2.toNatClampNeg) (fun u => match u with | (lf_15, fo_16) => (vp_in p2 10 ∧ (((dmP p2.toNatClampNeg) ≤ 0 → post (lf_15, fo_16)) ∧ (¬ (dmP p2.toNatClampNeg) ≤ 0 → (vp_in p2 10 ∧ wp_X3_tellPair lf_15 fo_16 6 p2 (dmP p2.toNatClampNeg) (fun u => match u with | (lf_19, fo_20) => post (lf_19, fo_20)))))))))))))) ∧ (¬ 6 ≤ v3 → wp_X1_barIndex p2 v3 (fun r_21 _ => (vp_in r_21 60 ∧ wp_X3_tellBars lfT foT p2 v3 (brP r_21.toNatClampNeg) (fun u => match u with | (lf_23, fo_24) => A15 (v3 + 1) lf_23 fo_24))))) → A15 v3 lfT foT) →
    wp_X1_coveredBy cvP pnP p2 (fun r_1 _ => wp_X3_tellEach lfT foT 1 p2 r_1 (fun u => match u with | (lf_3, fo_4) => A15 0 lf_3 fo_4))
set_option maxHeartbeats 4000000 in
set_option maxRecDepth 100000 in
theorem met_X3_tellDetails (l : Launch) (D : va_G) (cs : Nat → ClassId) (ev : Nat → Nat → Nat) (sz0 : Nat) (adT : Nat → Nat) (adP : Nat → Nat) (lfT : Int32) (foT : Int32) (kdP : Nat → Int32) (grP : Nat → Int64) (cvP : Nat → Int32) (brP : Nat → Int32) (hzP : Nat → Int32) (fmP : Nat → Int32) (dmP : Nat → Int32) (e1P : Nat → Int32) (e2P : Nat → Int32) (fkP : Nat → Int32) (pnP : Int32) (fnP : Int32) (p2 : Int32) (post : (Int32 × Int32) → Prop) (h : wp_X3_tellDetails lfT foT cvP brP hzP fmP dmP pnP p2 post) : Met l yX3_tellDetails wsX3_tellDetails ({ frames := 7, cells := 0, slots := 0, locals := 154 }) (va_Pc [.ref (adT 0), .ref (adP 0), .int p2] (mPre D cs ev (sh_T cs adT lfT foT ++ sh_P cs adP kdP grP cvP brP hzP fmP dmP e1P e2P fkP pnP fnP) sz0)) (va_Qv post (fun u t => match u with | (lfT', foT') => mAt D cs (va_A (sh_T cs adT lfT foT ++ sh_P cs adP kdP grP cvP brP hzP fmP dmP e1P e2P fkP pnP fnP) sz0) (sh_T cs adT lfT' foT' ++ sh_P cs adP kdP grP cvP brP hzP fmP dmP e1P e2P fkP pnP fnP) t) (va_A (sh_T cs adT lfT foT ++ sh_P cs adP kdP grP cvP brP hzP fmP dmP e1P e2P fkP pnP fnP) sz0)) 0 0 (va_A (sh_T cs adT lfT foT ++ sh_P cs adP kdP grP cvP brP hzP fmP dmP e1P e2P fkP pnP fnP) sz0) := by
  refine Met.ofW (cc := cX3_tellDetails) (maxL := 4) (ret := none) (by decide) rfl ?_
  intro p e s m args below meth c s₁ B hml hv
  obtain ⟨rfl, hsz, hP, hK, hD0, hE⟩ := hv
  have hx := B.exec
  have hb := B.bytes
  have hr := B.returns
  have hts := atoms_spec (ws := wsX3_tellDetails) B.pre
  have hown : s.vm.findClass RX3 = some m.cls := findClass_of_methodNamed B.named
  have hlocks := B.notSynchronized
  subst hsz
  have hD := hD0.self (sz := s.heap.size)
  generalize hAe : va_A (sh_T cs adT lfT foT ++ sh_P cs adP kdP grP cvP brP hzP fmP dmP e1P e2P fkP pnP fnP) s.heap.size = A at hD hE ⊢
  have hA : ∀ q : Nat, s.heap.size ≤ q → A q := fun q h => by rw [← hAe]; exact Or.inr h
  have hS : va_S A s.heap s.heap [] := va_S.rf
  have hl := lv_entry ([.ref (adT 0), .ref (adP 0), .int p2]) (n := 4) (Nat.le_of_ble_eq_true rfl)
  rw [lg_entry_eq]
  generalize (lg_sl ([.ref (adT 0), .ref (adP 0), .int p2]) ++ List.replicate (4 - (lg_sl ([.ref (adT 0), .ref (adP 0), .int p2])).length) Slot.unset).toArray = ls at hl ⊢
  have hl : lv_has ls 4 [(0, .ref (adT 0)), (1, .ref (adP 0)), (2, .int p2)] := hl
  obtain ⟨A15, hA15⟩ : ∃ Q : Int32 → Int32 → Int32 → Prop, Q = (fun v3 lfT foT => ∀ (H : Heap) (locs : List Loc), va_P D vwCl (sh_T cs adT lfT foT ++ sh_P cs adP kdP grP cvP brP hzP fmP dmP e1P e2P fkP pnP fnP) H → va_D A (sh_T cs adT lfT foT ++ sh_P cs adP kdP grP cvP brP hzP fmP dmP e1P e2P fkP pnP fnP) → va_S A s.heap H locs → ∀ ls : Array Slot, lv_has ls 4 [(0, .ref (adT 0)), (1, .ref (adP 0)), (2, .int p2), (3, .int v3)] → W p l e (headSpec wsX3_tellDetails ({ frames := 7, cells := 0, slots := 0, locals := 154 })).room s m ([.ref (adT 0), .ref (adP 0), .int p2] : List Value).toArray below meth c H locs 0 0 (MQ below (va_Qv post (fun u t => match u with | (lfT', foT') => mAt D cs (A) (sh_T cs adT lfT' foT' ++ sh_P cs adP kdP grP cvP brP hzP fmP dmP e1P e2P fkP pnP fnP) t) A) ([.ref (adT 0), .ref (adP 0), .int p2] : List Value).toArray s 0 0 A) (F0 m 15 ls [])) := ⟨_, rfl⟩
  have s15 : ∀ (v3 : Int32) (lfT : Int32) (foT : Int32), ((6 ≤ v3 → (vp_in p2 10 ∧ wp_X3_tellEach lfT foT 4 p2 (hzP p2.toNatClampNeg) (fun u => match u with | (lf_7, fo_8) => (vp_in p2 10 ∧ (((fmP p2.toNatClampNeg) = (-1) → (vp_in p2 10 ∧ (((dmP p2.toNatClampNeg) ≤ 0 → post (lf_7, fo_8)) ∧ (¬ (dmP p2.toNatClampNeg) ≤ 0 → (vp_in p2 10 ∧ wp_X3_tellPair lf_7 fo_8 6 p2 (dmP p2.toNatClampNeg) (fun u => match u with | (lf_12, fo_13) => post (lf_12, fo_13))))))) ∧ (¬ (fmP p2.toNatClampNeg) = (-1) → (vp_in p2 10 ∧ wp_X3_tellPair lf_7 fo_8 5 p2 (fmP p2.toNatClampNeg) (fun u => match u with | (lf_15, fo_16) => (vp_in p2 10 ∧ (((dmP p2.toNatClampNeg) ≤ 0 → post (lf_15, fo_16)) ∧ (¬ (dmP p2.toNatClampNeg) ≤ 0 → (vp_in p2 10 ∧ wp_X3_tellPair lf_15 fo_16 6 p2 (dmP p2.toNatClampNeg) (fun u => match u with | (lf_19, fo_20) => post (lf_19, fo_20)))))))))))))) ∧ (¬ 6 ≤ v3 → wp_X1_barIndex p2 v3 (fun r_21 _ => (vp_in r_21 60 ∧ wp_X3_tellBars lfT foT p2 v3 (brP r_21.toNatClampNeg) (fun u => match u with | (lf_23, fo_24) => A15 (v3 + 1) lf_23 fo_24))))) → A15 v3 lfT foT := by
    intro v3 lfT foT h
    rw [hA15]
    intro H locs hP hD hS ls hl
    refine lv_iload_n hx hb dX3_tellDetails_15 rfl (lv_at hl 3 rfl) ?_
    refine lv_bipush (v := 6) hx hb dX3_tellDetails_16 (by decide) ?_
    refine lv_icmp_ge (tgt := 43) hx hb dX3_tellDetails_18 (by decide) (fun c_5 => ?_) (fun c_5 => ?_)
    · have h := h.1 c_5
      refine lv_aload_n hx hb dX3_tellDetails_43 rfl (lv_at hl 0 rfl) ?_
      refine va_gets hx hb (show va_Z "PartGraphs$Verb" "HAZARD" "LPartGraphs$Verb;" (.ref (ev 0 4)) A s s.heap from (hE.2.2.1.1 4 (by decide)).1) hS hown (hts (.fieldLink RX3 78 "PartGraphs$Verb" "HAZARD" "LPartGraphs$Verb;") (by decide +kernel)) (fun _ h9 => h9) dX3_tellDetails_44 ?_
      refine lv_iload_n hx hb dX3_tellDetails_47 rfl (lv_at hl 2 rfl) ?_
      refine lv_aload_n hx hb dX3_tellDetails_48 rfl (lv_at hl 1 rfl) ?_
      refine va_get (D := D) (ci := 1) (v := .ref (adP 5)) (C := RX1) (T := TX1) (N := 12) hx hb hts (by decide +kernel) hown hK hP 1 rfl rfl 4 (by decide) (hts (.fieldLink RX3 81 "PartGraphs$Product" "hazards" "[I") (by decide +kernel)) (fun _ h9 => h9) rfl dX3_tellDetails_49 ?_
      refine lv_iload_n hx hb dX3_tellDetails_52 rfl (lv_at hl 2 rfl) ?_
      have hin := h.1
      have h := h.2
      refine va_iald (D := D) (cl := vwCl) hx hb hK hP 6 0 rfl rfl hin dX3_tellDetails_53 ?_
      have hFc := va_free (wc := (sh_T cs adT lfT foT)) hD hS hA [0] rfl
      refine va_callv (va_runV (As := [.ref (ev 0 4), .int p2, .int (hzP p2.toNatClampNeg)]) (rest := []) ⟨hx, hb, hml, hown, hts⟩ (met_X3_tellEach l D cs ev _ adT lfT foT 4 p2 (hzP p2.toNatClampNeg) _ h) (cwV 3 hts gX3_tellDetails_X3_tellEach rfl rfl rfl (by decide +kernel) ⟨Nat.le_of_ble_eq_true rfl, Nat.le_of_ble_eq_true rfl⟩) (mPreV (va_recv hK hP (ci := 3) (q0 := 0) rfl rfl) hP hD hS hK hE hFc [0] (by decide) rfl) rfl rfl hl.1 rfl (lv_room (Nat.le_of_ble_eq_true rfl)) dX3_tellDetails_54 ⟨Nat.le_of_ble_eq_true rfl, Nat.le_of_ble_eq_true rfl⟩) hS (fun q _ h => hFc q h) hFc (fun u t H1 locs ht hvm hw hB hz1 hk1 hS => ?_)
      obtain ⟨lf_7, fo_8⟩ := u
      have h := hw
      obtain ⟨hP1, hK1, hD1⟩ := hB
      rw [ht] at hP1
      obtain ⟨hP, hD⟩ := mJoin (wr := (sh_P cs adP kdP grP cvP brP hzP fmP dmP e1P e2P fkP pnP fnP)) (w1 := (sh_T cs adT lf_7 fo_8)) (w' := (sh_T cs adT lf_7 fo_8 ++ sh_P cs adP kdP grP cvP brP hzP fmP dmP e1P e2P fkP pnP fnP)) hP hD [0] [1, 2, 3, 4, 5, 6, 7, 8, 9, 10, 11] rfl rfl (by decide) (by decide) hk1 hFc hP1 hD1 [11, 0, 1, 2, 3, 4, 5, 6, 7, 8, 9, 10] (by decide) rfl
      generalize H1 = H at hP hS ⊢
      refine lv_aload_n hx hb dX3_tellDetails_57 rfl (lv_at hl 1 rfl) ?_
      refine va_get (D := D) (ci := 1) (v := .ref (adP 6)) (C := RX1) (T := TX1) (N := 12) hx hb hts (by decide +kernel) hown hK hP 1 rfl rfl 5 (by decide) (hts (.fieldLink RX3 84 "PartGraphs$Product" "families" "[I") (by decide +kernel)) (fun _ h9 => h9) rfl dX3_tellDetails_58 ?_
      refine lv_iload_n hx hb dX3_tellDetails_61 rfl (lv_at hl 2 rfl) ?_
      have hin := h.1
      have h := h.2
      refine va_iald (D := D) (cl := vwCl) hx hb hK hP 7 0 rfl rfl hin dX3_tellDetails_62 ?_
      refine lv_iconst (v := (-1)) hx hb dX3_tellDetails_63 (by decide) ?_
      refine lv_icmp_eq (tgt := 81) hx hb dX3_tellDetails_64 (by decide) (fun c_9 => ?_) (fun c_9 => ?_)
      · have h := h.1 c_9
        refine lv_aload_n hx hb dX3_tellDetails_81 rfl (lv_at hl 1 rfl) ?_
        refine va_get (D := D) (ci := 1) (v := .ref (adP 7)) (C := RX1) (T := TX1) (N := 12) hx hb hts (by decide +kernel) hown hK hP 1 rfl rfl 6 (by decide) (hts (.fieldLink RX3 93 "PartGraphs$Product" "damages" "[I") (by decide +kernel)) (fun _ h9 => h9) rfl dX3_tellDetails_82 ?_
        refine lv_iload_n hx hb dX3_tellDetails_85 rfl (lv_at hl 2 rfl) ?_
        have hin := h.1
        have h := h.2
        refine va_iald (D := D) (cl := vwCl) hx hb hK hP 8 0 rfl rfl hin dX3_tellDetails_86 ?_
        refine lv_if_le (tgt := 104) hx hb dX3_tellDetails_87 (by decide) (fun c_10 => ?_) (fun c_10 => ?_)
        · have h := h.1 c_10
          exact W.vret hx hb hr (fun t ht hW => ⟨⟨(lf_7, fo_8), rfl, h, by rw [ht]; exact hP, va_K.moved hW.alike hK, hD⟩, hS.F ht⟩) hS.2.2 dX3_tellDetails_104
        · have h := h.2 c_10
          refine lv_aload_n hx hb dX3_tellDetails_90 rfl (lv_at hl 0 rfl) ?_
          refine va_gets hx hb (show va_Z "PartGraphs$Verb" "DAMAGE" "LPartGraphs$Verb;" (.ref (ev 0 6)) A s s.heap from (hE.2.2.1.1 6 (by decide)).1) hS hown (hts (.fieldLink RX3 96 "PartGraphs$Verb" "DAMAGE" "LPartGraphs$Verb;") (by decide +kernel)) (fun _ h9 => h9) dX3_tellDetails_91 ?_
          refine lv_iload_n hx hb dX3_tellDetails_94 rfl (lv_at hl 2 rfl) ?_
          refine lv_aload_n hx hb dX3_tellDetails_95 rfl (lv_at hl 1 rfl) ?_
          refine va_get (D := D) (ci := 1) (v := .ref (adP 7)) (C := RX1) (T := TX1) (N := 12) hx hb hts (by decide +kernel) hown hK hP 1 rfl rfl 6 (by decide) (hts (.fieldLink RX3 93 "PartGraphs$Product" "damages" "[I") (by decide +kernel)) (fun _ h9 => h9) rfl dX3_tellDetails_96 ?_
          refine lv_iload_n hx hb dX3_tellDetails_99 rfl (lv_at hl 2 rfl) ?_
          have hin := h.1
          have h := h.2
          refine va_iald (D := D) (cl := vwCl) hx hb hK hP 8 0 rfl rfl hin dX3_tellDetails_100 ?_
          have hFc := va_free (wc := (sh_T cs adT lf_7 fo_8)) hD hS hA [0] rfl
          refine va_callv (va_runV (As := [.ref (ev 0 6), .int p2, .int (dmP p2.toNatClampNeg)]) (rest := []) ⟨hx, hb, hml, hown, hts⟩ (met_X3_tellPair l D cs ev _ adT lf_7 fo_8 6 p2 (dmP p2.toNatClampNeg) _ h) (cwV 3 hts gX3_tellDetails_X3_tellPair rfl rfl rfl (by decide +kernel) ⟨Nat.le_of_ble_eq_true rfl, Nat.le_of_ble_eq_true rfl⟩) (mPreV (va_recv hK hP (ci := 3) (q0 := 0) rfl rfl) hP hD hS hK hE hFc [0] (by decide) rfl) rfl rfl hl.1 rfl (lv_room (Nat.le_of_ble_eq_true rfl)) dX3_tellDetails_101 ⟨Nat.le_of_ble_eq_true rfl, Nat.le_of_ble_eq_true rfl⟩) hS (fun q _ h => hFc q h) hFc (fun u t H1 locs ht hvm hw hB hz1 hk1 hS => ?_)
          obtain ⟨lf_12, fo_13⟩ := u
          have h := hw
          obtain ⟨hP1, hK1, hD1⟩ := hB
          rw [ht] at hP1
          obtain ⟨hP, hD⟩ := mJoin (wr := (sh_P cs adP kdP grP cvP brP hzP fmP dmP e1P e2P fkP pnP fnP)) (w1 := (sh_T cs adT lf_12 fo_13)) (w' := (sh_T cs adT lf_12 fo_13 ++ sh_P cs adP kdP grP cvP brP hzP fmP dmP e1P e2P fkP pnP fnP)) hP hD [0] [1, 2, 3, 4, 5, 6, 7, 8, 9, 10, 11] rfl rfl (by decide) (by decide) hk1 hFc hP1 hD1 [11, 0, 1, 2, 3, 4, 5, 6, 7, 8, 9, 10] (by decide) rfl
          generalize H1 = H at hP hS ⊢
          exact W.vret hx hb hr (fun t ht hW => ⟨⟨(lf_12, fo_13), rfl, h, by rw [ht]; exact hP, va_K.moved hW.alike hK, hD⟩, hS.F ht⟩) hS.2.2 dX3_tellDetails_104
      · have h := h.2 c_9
        refine lv_aload_n hx hb dX3_tellDetails_67 rfl (lv_at hl 0 rfl) ?_
        refine va_gets hx hb (show va_Z "PartGraphs$Verb" "OPTION" "LPartGraphs$Verb;" (.ref (ev 0 5)) A s s.heap from (hE.2.2.1.1 5 (by decide)).1) hS hown (hts (.fieldLink RX3 87 "PartGraphs$Verb" "OPTION" "LPartGraphs$Verb;") (by decide +kernel)) (fun _ h9 => h9) dX3_tellDetails_68 ?_
        refine lv_iload_n hx hb dX3_tellDetails_71 rfl (lv_at hl 2 rfl) ?_
        refine lv_aload_n hx hb dX3_tellDetails_72 rfl (lv_at hl 1 rfl) ?_
        refine va_get (D := D) (ci := 1) (v := .ref (adP 6)) (C := RX1) (T := TX1) (N := 12) hx hb hts (by decide +kernel) hown hK hP 1 rfl rfl 5 (by decide) (hts (.fieldLink RX3 84 "PartGraphs$Product" "families" "[I") (by decide +kernel)) (fun _ h9 => h9) rfl dX3_tellDetails_73 ?_
        refine lv_iload_n hx hb dX3_tellDetails_76 rfl (lv_at hl 2 rfl) ?_
        have hin := h.1
        have h := h.2
        refine va_iald (D := D) (cl := vwCl) hx hb hK hP 7 0 rfl rfl hin dX3_tellDetails_77 ?_
        have hFc := va_free (wc := (sh_T cs adT lf_7 fo_8)) hD hS hA [0] rfl
        refine va_callv (va_runV (As := [.ref (ev 0 5), .int p2, .int (fmP p2.toNatClampNeg)]) (rest := []) ⟨hx, hb, hml, hown, hts⟩ (met_X3_tellPair l D cs ev _ adT lf_7 fo_8 5 p2 (fmP p2.toNatClampNeg) _ h) (cwV 3 hts gX3_tellDetails_X3_tellPair rfl rfl rfl (by decide +kernel) ⟨Nat.le_of_ble_eq_true rfl, Nat.le_of_ble_eq_true rfl⟩) (mPreV (va_recv hK hP (ci := 3) (q0 := 0) rfl rfl) hP hD hS hK hE hFc [0] (by decide) rfl) rfl rfl hl.1 rfl (lv_room (Nat.le_of_ble_eq_true rfl)) dX3_tellDetails_78 ⟨Nat.le_of_ble_eq_true rfl, Nat.le_of_ble_eq_true rfl⟩) hS (fun q _ h => hFc q h) hFc (fun u t H1 locs ht hvm hw hB hz1 hk1 hS => ?_)
        obtain ⟨lf_15, fo_16⟩ := u
        have h := hw
        obtain ⟨hP1, hK1, hD1⟩ := hB
        rw [ht] at hP1
        obtain ⟨hP, hD⟩ := mJoin (wr := (sh_P cs adP kdP grP cvP brP hzP fmP dmP e1P e2P fkP pnP fnP)) (w1 := (sh_T cs adT lf_15 fo_16)) (w' := (sh_T cs adT lf_15 fo_16 ++ sh_P cs adP kdP grP cvP brP hzP fmP dmP e1P e2P fkP pnP fnP)) hP hD [0] [1, 2, 3, 4, 5, 6, 7, 8, 9, 10, 11] rfl rfl (by decide) (by decide) hk1 hFc hP1 hD1 [11, 0, 1, 2, 3, 4, 5, 6, 7, 8, 9, 10] (by decide) rfl
        generalize H1 = H at hP hS ⊢
        refine lv_aload_n hx hb dX3_tellDetails_81 rfl (lv_at hl 1 rfl) ?_
        refine va_get (D := D) (ci := 1) (v := .ref (adP 7)) (C := RX1) (T := TX1) (N := 12) hx hb hts (by decide +kernel) hown hK hP 1 rfl rfl 6 (by decide) (hts (.fieldLink RX3 93 "PartGraphs$Product" "damages" "[I") (by decide +kernel)) (fun _ h9 => h9) rfl dX3_tellDetails_82 ?_
        refine lv_iload_n hx hb dX3_tellDetails_85 rfl (lv_at hl 2 rfl) ?_
        have hin := h.1
        have h := h.2
        refine va_iald (D := D) (cl := vwCl) hx hb hK hP 8 0 rfl rfl hin dX3_tellDetails_86 ?_
        refine lv_if_le (tgt := 104) hx hb dX3_tellDetails_87 (by decide) (fun c_17 => ?_) (fun c_17 => ?_)
        · have h := h.1 c_17
          exact W.vret hx hb hr (fun t ht hW => ⟨⟨(lf_15, fo_16), rfl, h, by rw [ht]; exact hP, va_K.moved hW.alike hK, hD⟩, hS.F ht⟩) hS.2.2 dX3_tellDetails_104
        · have h := h.2 c_17
          refine lv_aload_n hx hb dX3_tellDetails_90 rfl (lv_at hl 0 rfl) ?_
          refine va_gets hx hb (show va_Z "PartGraphs$Verb" "DAMAGE" "LPartGraphs$Verb;" (.ref (ev 0 6)) A s s.heap from (hE.2.2.1.1 6 (by decide)).1) hS hown (hts (.fieldLink RX3 96 "PartGraphs$Verb" "DAMAGE" "LPartGraphs$Verb;") (by decide +kernel)) (fun _ h9 => h9) dX3_tellDetails_91 ?_
          refine lv_iload_n hx hb dX3_tellDetails_94 rfl (lv_at hl 2 rfl) ?_
          refine lv_aload_n hx hb dX3_tellDetails_95 rfl (lv_at hl 1 rfl) ?_
          refine va_get (D := D) (ci := 1) (v := .ref (adP 7)) (C := RX1) (T := TX1) (N := 12) hx hb hts (by decide +kernel) hown hK hP 1 rfl rfl 6 (by decide) (hts (.fieldLink RX3 93 "PartGraphs$Product" "damages" "[I") (by decide +kernel)) (fun _ h9 => h9) rfl dX3_tellDetails_96 ?_
          refine lv_iload_n hx hb dX3_tellDetails_99 rfl (lv_at hl 2 rfl) ?_
          have hin := h.1
          have h := h.2
          refine va_iald (D := D) (cl := vwCl) hx hb hK hP 8 0 rfl rfl hin dX3_tellDetails_100 ?_
          have hFc := va_free (wc := (sh_T cs adT lf_15 fo_16)) hD hS hA [0] rfl
          refine va_callv (va_runV (As := [.ref (ev 0 6), .int p2, .int (dmP p2.toNatClampNeg)]) (rest := []) ⟨hx, hb, hml, hown, hts⟩ (met_X3_tellPair l D cs ev _ adT lf_15 fo_16 6 p2 (dmP p2.toNatClampNeg) _ h) (cwV 3 hts gX3_tellDetails_X3_tellPair rfl rfl rfl (by decide +kernel) ⟨Nat.le_of_ble_eq_true rfl, Nat.le_of_ble_eq_true rfl⟩) (mPreV (va_recv hK hP (ci := 3) (q0 := 0) rfl rfl) hP hD hS hK hE hFc [0] (by decide) rfl) rfl rfl hl.1 rfl (lv_room (Nat.le_of_ble_eq_true rfl)) dX3_tellDetails_101 ⟨Nat.le_of_ble_eq_true rfl, Nat.le_of_ble_eq_true rfl⟩) hS (fun q _ h => hFc q h) hFc (fun u t H1 locs ht hvm hw hB hz1 hk1 hS => ?_)
          obtain ⟨lf_19, fo_20⟩ := u
          have h := hw
          obtain ⟨hP1, hK1, hD1⟩ := hB
          rw [ht] at hP1
          obtain ⟨hP, hD⟩ := mJoin (wr := (sh_P cs adP kdP grP cvP brP hzP fmP dmP e1P e2P fkP pnP fnP)) (w1 := (sh_T cs adT lf_19 fo_20)) (w' := (sh_T cs adT lf_19 fo_20 ++ sh_P cs adP kdP grP cvP brP hzP fmP dmP e1P e2P fkP pnP fnP)) hP hD [0] [1, 2, 3, 4, 5, 6, 7, 8, 9, 10, 11] rfl rfl (by decide) (by decide) hk1 hFc hP1 hD1 [11, 0, 1, 2, 3, 4, 5, 6, 7, 8, 9, 10] (by decide) rfl
          generalize H1 = H at hP hS ⊢
          exact W.vret hx hb hr (fun t ht hW => ⟨⟨(lf_19, fo_20), rfl, h, by rw [ht]; exact hP, va_K.moved hW.alike hK, hD⟩, hS.F ht⟩) hS.2.2 dX3_tellDetails_104
    · have h := h.2 c_5
      refine lv_aload_n hx hb dX3_tellDetails_21 rfl (lv_at hl 0 rfl) ?_
      refine lv_iload_n hx hb dX3_tellDetails_22 rfl (lv_at hl 2 rfl) ?_
      refine lv_iload_n hx hb dX3_tellDetails_23 rfl (lv_at hl 3 rfl) ?_
      refine lv_aload_n hx hb dX3_tellDetails_24 rfl (lv_at hl 1 rfl) ?_
      refine va_get (D := D) (ci := 1) (v := .ref (adP 4)) (C := RX1) (T := TX1) (N := 12) hx hb hts (by decide +kernel) hown hK hP 1 rfl rfl 3 (by decide) (hts (.fieldLink RX3 67 "PartGraphs$Product" "bars" "[I") (by decide +kernel)) (fun _ h9 => h9) rfl dX3_tellDetails_25 ?_
      refine lv_iload_n hx hb dX3_tellDetails_28 rfl (lv_at hl 2 rfl) ?_
      refine lv_iload_n hx hb dX3_tellDetails_29 rfl (lv_at hl 3 rfl) ?_
      have hFc := va_free (wc := ([] : va_W)) hD hS hA [] rfl
      refine va_calli (va_runSN (As := [.int p2, .int v3]) (rest := [.ref (adP 4), .int v3, .int p2, .ref (adT 0)]) ⟨hx, hb, hml, hown, hts⟩ (met_X1_barIndex l D cs ev _ p2 v3 _ h) ⟨va_cnB 2 hts gX3_tellDetails_X1_barIndex_n70 rfl rfl rfl hE.1.2.2.2.2.1 (hts (.initialized RX1) (by decide +kernel)) (by decide +kernel) ⟨Nat.le_of_ble_eq_true rfl, Nat.le_of_ble_eq_true rfl⟩, hts (.static yX1_barIndex) (by decide +kernel), trivial⟩ (mPreS hP hD hS hK hE hFc [] (by decide) rfl) rfl rfl hl.1 rfl (lv_room (Nat.le_of_ble_eq_true rfl)) dX3_tellDetails_30 ⟨Nat.le_of_ble_eq_true rfl, Nat.le_of_ble_eq_true rfl⟩) hS (fun q _ h => hFc q h) hFc (fun r_21 u t H1 locs ht hvm hw hB hz1 hk1 hS => ?_)
      have h := hw
      obtain ⟨hP1, hK1, hD1⟩ := hB
      rw [ht] at hP1
      obtain ⟨hP, hD⟩ := mJoin (wr := (sh_T cs adT lfT foT ++ sh_P cs adP kdP grP cvP brP hzP fmP dmP e1P e2P fkP pnP fnP)) (w1 := ([] : va_W)) (w' := (sh_T cs adT lfT foT ++ sh_P cs adP kdP grP cvP brP hzP fmP dmP e1P e2P fkP pnP fnP)) hP hD [] [0, 1, 2, 3, 4, 5, 6, 7, 8, 9, 10, 11] rfl rfl (by decide) (by decide) hk1 hFc hP1 hD1 [0, 1, 2, 3, 4, 5, 6, 7, 8, 9, 10, 11] (by decide) rfl
      generalize H1 = H at hP hS ⊢
      have hin := h.1
      have h := h.2
      refine va_iald (D := D) (cl := vwCl) hx hb hK hP 5 0 rfl rfl hin dX3_tellDetails_33 ?_
      have hFc := va_free (wc := (sh_T cs adT lfT foT)) hD hS hA [0] rfl
      refine va_callv (va_runV (As := [.int p2, .int v3, .int (brP r_21.toNatClampNeg)]) (rest := []) ⟨hx, hb, hml, hown, hts⟩ (met_X3_tellBars l D cs ev _ adT lfT foT p2 v3 (brP r_21.toNatClampNeg) _ h) (cwV 3 hts gX3_tellDetails_X3_tellBars rfl rfl rfl (by decide +kernel) ⟨Nat.le_of_ble_eq_true rfl, Nat.le_of_ble_eq_true rfl⟩) (mPreV (va_recv hK hP (ci := 3) (q0 := 0) rfl rfl) hP hD hS hK hE hFc [0] (by decide) rfl) rfl rfl hl.1 rfl (lv_room (Nat.le_of_ble_eq_true rfl)) dX3_tellDetails_34 ⟨Nat.le_of_ble_eq_true rfl, Nat.le_of_ble_eq_true rfl⟩) hS (fun q _ h => hFc q h) hFc (fun u t H1 locs ht hvm hw hB hz1 hk1 hS => ?_)
      obtain ⟨lf_23, fo_24⟩ := u
      have h := hw
      obtain ⟨hP1, hK1, hD1⟩ := hB
      rw [ht] at hP1
      obtain ⟨hP, hD⟩ := mJoin (wr := (sh_P cs adP kdP grP cvP brP hzP fmP dmP e1P e2P fkP pnP fnP)) (w1 := (sh_T cs adT lf_23 fo_24)) (w' := (sh_T cs adT lf_23 fo_24 ++ sh_P cs adP kdP grP cvP brP hzP fmP dmP e1P e2P fkP pnP fnP)) hP hD [0] [1, 2, 3, 4, 5, 6, 7, 8, 9, 10, 11] rfl rfl (by decide) (by decide) hk1 hFc hP1 hD1 [11, 0, 1, 2, 3, 4, 5, 6, 7, 8, 9, 10] (by decide) rfl
      generalize H1 = H at hP hS ⊢
      refine lv_iinc (v := v3 + 1) (lv' := [(3, .int (v3 + 1)), (0, .ref (adT 0)), (1, .ref (adP 0)), (2, .int p2)]) hx hb dX3_tellDetails_37 hl (k := 3) rfl rfl (by decide) rfl (fun ls hl => ?_)
      refine lv_goto (tgt := 15) hx hb dX3_tellDetails_40 (by decide) ?_
      rw [hA15] at h
      exact h _ _ hP hD hS ls (lv_sub hl [1, 2, 3, 0] rfl)
  have h := h A15 s15
  refine lv_aload_n hx hb dX3_tellDetails_0 rfl (lv_at hl 0 rfl) ?_
  refine va_gets hx hb (show va_Z "PartGraphs$Verb" "COVER" "LPartGraphs$Verb;" (.ref (ev 0 1)) A s s.heap from (hE.2.2.1.1 1 (by decide)).1) hS hown (hts (.fieldLink RX3 56 "PartGraphs$Verb" "COVER" "LPartGraphs$Verb;") (by decide +kernel)) (fun _ h9 => h9) dX3_tellDetails_1 ?_
  refine lv_iload_n hx hb dX3_tellDetails_4 rfl (lv_at hl 2 rfl) ?_
  refine lv_aload_n hx hb dX3_tellDetails_5 rfl (lv_at hl 1 rfl) ?_
  refine lv_iload_n hx hb dX3_tellDetails_6 rfl (lv_at hl 2 rfl) ?_
  have hFc := va_free (wc := (sh_P cs adP kdP grP cvP brP hzP fmP dmP e1P e2P fkP pnP fnP)) hD hS hA [1, 2, 3, 4, 5, 6, 7, 8, 9, 10, 11] rfl
  refine va_calli (va_runV (As := [.int p2]) (rest := [.int p2, .ref (ev 0 1), .ref (adT 0)]) ⟨hx, hb, hml, hown, hts⟩ (met_X1_coveredBy l D cs ev _ adP kdP grP cvP brP hzP fmP dmP e1P e2P fkP pnP fnP p2 _ h) (cwV 1 hts gX3_tellDetails_X1_coveredBy rfl rfl rfl (by decide +kernel) ⟨Nat.le_of_ble_eq_true rfl, Nat.le_of_ble_eq_true rfl⟩) (mPreV (va_recv hK hP (ci := 1) (q0 := 1) rfl rfl) hP hD hS hK hE hFc [1, 2, 3, 4, 5, 6, 7, 8, 9, 10, 11] (by decide) rfl) rfl rfl hl.1 rfl (lv_room (Nat.le_of_ble_eq_true rfl)) dX3_tellDetails_7 ⟨Nat.le_of_ble_eq_true rfl, Nat.le_of_ble_eq_true rfl⟩) hS (fun q _ h => hFc q h) hFc (fun r_1 u t H1 locs ht hvm hw hB hz1 hk1 hS => ?_)
  have h := hw
  obtain ⟨hP1, hK1, hD1⟩ := hB
  rw [ht] at hP1
  obtain ⟨hP, hD⟩ := mJoin (wr := (sh_T cs adT lfT foT)) (w1 := (sh_P cs adP kdP grP cvP brP hzP fmP dmP e1P e2P fkP pnP fnP)) (w' := (sh_T cs adT lfT foT ++ sh_P cs adP kdP grP cvP brP hzP fmP dmP e1P e2P fkP pnP fnP)) hP hD [1, 2, 3, 4, 5, 6, 7, 8, 9, 10, 11] [0] rfl rfl (by decide) (by decide) hk1 hFc hP1 hD1 [0, 1, 2, 3, 4, 5, 6, 7, 8, 9, 10, 11] (by decide) rfl
  generalize H1 = H at hP hS ⊢
  have hFc := va_free (wc := (sh_T cs adT lfT foT)) hD hS hA [0] rfl
  refine va_callv (va_runV (As := [.ref (ev 0 1), .int p2, .int r_1]) (rest := []) ⟨hx, hb, hml, hown, hts⟩ (met_X3_tellEach l D cs ev _ adT lfT foT 1 p2 r_1 _ h) (cwV 3 hts gX3_tellDetails_X3_tellEach rfl rfl rfl (by decide +kernel) ⟨Nat.le_of_ble_eq_true rfl, Nat.le_of_ble_eq_true rfl⟩) (mPreV (va_recv hK hP (ci := 3) (q0 := 0) rfl rfl) hP hD hS hK hE hFc [0] (by decide) rfl) rfl rfl hl.1 rfl (lv_room (Nat.le_of_ble_eq_true rfl)) dX3_tellDetails_10 ⟨Nat.le_of_ble_eq_true rfl, Nat.le_of_ble_eq_true rfl⟩) hS (fun q _ h => hFc q h) hFc (fun u t H1 locs ht hvm hw hB hz1 hk1 hS => ?_)
  obtain ⟨lf_3, fo_4⟩ := u
  have h := hw
  obtain ⟨hP1, hK1, hD1⟩ := hB
  rw [ht] at hP1
  obtain ⟨hP, hD⟩ := mJoin (wr := (sh_P cs adP kdP grP cvP brP hzP fmP dmP e1P e2P fkP pnP fnP)) (w1 := (sh_T cs adT lf_3 fo_4)) (w' := (sh_T cs adT lf_3 fo_4 ++ sh_P cs adP kdP grP cvP brP hzP fmP dmP e1P e2P fkP pnP fnP)) hP hD [0] [1, 2, 3, 4, 5, 6, 7, 8, 9, 10, 11] rfl rfl (by decide) (by decide) hk1 hFc hP1 hD1 [11, 0, 1, 2, 3, 4, 5, 6, 7, 8, 9, 10] (by decide) rfl
  generalize H1 = H at hP hS ⊢
  refine lv_iconst (v := 0) hx hb dX3_tellDetails_13 (by decide) ?_
  refine lv_istore_n (lv' := [(3, .int 0), (0, .ref (adT 0)), (1, .ref (adP 0)), (2, .int p2)]) hx hb dX3_tellDetails_14 rfl hl (by decide) rfl (fun ls hl => ?_)
  rw [hA15] at h
  exact h _ _ hP hD hS ls (lv_sub hl [1, 2, 3, 0] rfl)
def wp_X3_byteAt (lfT : Int32) (foT : Int32) (kdP : Nat → Int32) (grP : Nat → Int64) (cvP : Nat → Int32) (brP : Nat → Int32) (hzP : Nat → Int32) (fmP : Nat → Int32) (dmP : Nat → Int32) (e1P : Nat → Int32) (e2P : Nat → Int32) (fkP : Nat → Int32) (pnP : Int32) (fnP : Int32) (p2 : Int32) (post : Int32 → (Int32 × Int32) → Prop) : Prop :=
    ∀ (A23 : Int32 → Int32 → Int32 → Prop),
    (∀ (v3 : Int32) (lfT : Int32) (foT : Int32), ((pnP ≤ v3 → wp_X3_tellFastenings lfT foT e1P e2P fkP fnP (fun u => match u with | (lf_7, fo_8) => post fo_8 (lf_7, fo_8))) ∧ (¬ pnP ≤ v3 → ((lfT < 0 → wp_X3_tellFastenings lfT foT e1P e2P fkP fnP (fun u => match u with | (lf_11, fo_12) => post fo_12 (lf_11, fo_12))) ∧ (¬ lfT < 0 → wp_X3_tellDetails lfT foT cvP brP hzP fmP dmP pnP v3 (fun u => match u with | (lf_14, fo_15) => A23 (v3 + 1) lf_14 fo_15))))) → A23 v3 lfT foT) →
    ((0 ≤ p2 → wp_X3_tellParts p2 (-1) kdP grP pnP (fun u => match u with | (lf_3, fo_4) => A23 0 lf_3 fo_4)) ∧ (¬ 0 ≤ p2 → post (-1) (lfT, foT)))
set_option maxHeartbeats 4000000 in
set_option maxRecDepth 100000 in
theorem met_X3_byteAt (l : Launch) (D : va_G) (cs : Nat → ClassId) (ev : Nat → Nat → Nat) (sz0 : Nat) (adT : Nat → Nat) (adP : Nat → Nat) (lfT : Int32) (foT : Int32) (kdP : Nat → Int32) (grP : Nat → Int64) (cvP : Nat → Int32) (brP : Nat → Int32) (hzP : Nat → Int32) (fmP : Nat → Int32) (dmP : Nat → Int32) (e1P : Nat → Int32) (e2P : Nat → Int32) (fkP : Nat → Int32) (pnP : Int32) (fnP : Int32) (p2 : Int32) (post : Int32 → (Int32 × Int32) → Prop) (h : wp_X3_byteAt lfT foT kdP grP cvP brP hzP fmP dmP e1P e2P fkP pnP fnP p2 post) : Met l yX3_byteAt wsX3_byteAt ({ frames := 8, cells := 0, slots := 0, locals := 177 }) (va_Pc [.ref (adT 0), .ref (adP 0), .int p2] (mPre D cs ev (sh_T cs adT lfT foT ++ sh_P cs adP kdP grP cvP brP hzP fmP dmP e1P e2P fkP pnP fnP) sz0)) (va_Qi post (fun u t => match u with | (lfT', foT') => mAt D cs (va_A (sh_T cs adT lfT foT ++ sh_P cs adP kdP grP cvP brP hzP fmP dmP e1P e2P fkP pnP fnP) sz0) (sh_T cs adT lfT' foT' ++ sh_P cs adP kdP grP cvP brP hzP fmP dmP e1P e2P fkP pnP fnP) t) (va_A (sh_T cs adT lfT foT ++ sh_P cs adP kdP grP cvP brP hzP fmP dmP e1P e2P fkP pnP fnP) sz0)) 0 0 (va_A (sh_T cs adT lfT foT ++ sh_P cs adP kdP grP cvP brP hzP fmP dmP e1P e2P fkP pnP fnP) sz0) := by
  refine Met.ofW (cc := cX3_byteAt) (maxL := 4) (ret := (some .int)) (by decide) rfl ?_
  intro p e s m args below meth c s₁ B hml hv
  obtain ⟨rfl, hsz, hP, hK, hD0, hE⟩ := hv
  have hx := B.exec
  have hb := B.bytes
  have hr := B.returns
  have hts := atoms_spec (ws := wsX3_byteAt) B.pre
  have hown : s.vm.findClass RX3 = some m.cls := findClass_of_methodNamed B.named
  have hlocks := B.notSynchronized
  subst hsz
  have hD := hD0.self (sz := s.heap.size)
  generalize hAe : va_A (sh_T cs adT lfT foT ++ sh_P cs adP kdP grP cvP brP hzP fmP dmP e1P e2P fkP pnP fnP) s.heap.size = A at hD hE ⊢
  have hA : ∀ q : Nat, s.heap.size ≤ q → A q := fun q h => by rw [← hAe]; exact Or.inr h
  have hS : va_S A s.heap s.heap [] := va_S.rf
  have hl := lv_entry ([.ref (adT 0), .ref (adP 0), .int p2]) (n := 4) (Nat.le_of_ble_eq_true rfl)
  rw [lg_entry_eq]
  generalize (lg_sl ([.ref (adT 0), .ref (adP 0), .int p2]) ++ List.replicate (4 - (lg_sl ([.ref (adT 0), .ref (adP 0), .int p2])).length) Slot.unset).toArray = ls at hl ⊢
  have hl : lv_has ls 4 [(0, .ref (adT 0)), (1, .ref (adP 0)), (2, .int p2)] := hl
  obtain ⟨A23, hA23⟩ : ∃ Q : Int32 → Int32 → Int32 → Prop, Q = (fun v3 lfT foT => ∀ (H : Heap) (locs : List Loc), va_P D vwCl (sh_T cs adT lfT foT ++ sh_P cs adP kdP grP cvP brP hzP fmP dmP e1P e2P fkP pnP fnP) H → va_D A (sh_T cs adT lfT foT ++ sh_P cs adP kdP grP cvP brP hzP fmP dmP e1P e2P fkP pnP fnP) → va_S A s.heap H locs → ∀ ls : Array Slot, lv_has ls 4 [(0, .ref (adT 0)), (1, .ref (adP 0)), (3, .int v3)] → W p l e (headSpec wsX3_byteAt ({ frames := 8, cells := 0, slots := 0, locals := 177 })).room s m ([.ref (adT 0), .ref (adP 0), .int p2] : List Value).toArray below meth c H locs 0 0 (MQ below (va_Qi post (fun u t => match u with | (lfT', foT') => mAt D cs (A) (sh_T cs adT lfT' foT' ++ sh_P cs adP kdP grP cvP brP hzP fmP dmP e1P e2P fkP pnP fnP) t) A) ([.ref (adT 0), .ref (adP 0), .int p2] : List Value).toArray s 0 0 A) (F0 m 23 ls [])) := ⟨_, rfl⟩
  have s23 : ∀ (v3 : Int32) (lfT : Int32) (foT : Int32), ((pnP ≤ v3 → wp_X3_tellFastenings lfT foT e1P e2P fkP fnP (fun u => match u with | (lf_7, fo_8) => post fo_8 (lf_7, fo_8))) ∧ (¬ pnP ≤ v3 → ((lfT < 0 → wp_X3_tellFastenings lfT foT e1P e2P fkP fnP (fun u => match u with | (lf_11, fo_12) => post fo_12 (lf_11, fo_12))) ∧ (¬ lfT < 0 → wp_X3_tellDetails lfT foT cvP brP hzP fmP dmP pnP v3 (fun u => match u with | (lf_14, fo_15) => A23 (v3 + 1) lf_14 fo_15))))) → A23 v3 lfT foT := by
    intro v3 lfT foT h
    rw [hA23]
    intro H locs hP hD hS ls hl
    refine lv_iload_n hx hb dX3_byteAt_23 rfl (lv_at hl 2 rfl) ?_
    refine lv_aload_n hx hb dX3_byteAt_24 rfl (lv_at hl 1 rfl) ?_
    refine va_get (D := D) (ci := 1) (v := .int pnP) (C := RX1) (T := TX1) (N := 12) hx hb hts (by decide +kernel) hown hK hP 1 rfl rfl 10 (by decide) (hts (.fieldLink RX3 22 "PartGraphs$Product" "partCount" "I") (by decide +kernel)) (fun _ h9 => h9) rfl dX3_byteAt_25 ?_
    refine lv_icmp_ge (tgt := 50) hx hb dX3_byteAt_28 (by decide) (fun c_5 => ?_) (fun c_5 => ?_)
    · have h := h.1 c_5
      refine lv_aload_n hx hb dX3_byteAt_50 rfl (lv_at hl 0 rfl) ?_
      refine lv_aload_n hx hb dX3_byteAt_51 rfl (lv_at hl 1 rfl) ?_
      have hFc := va_free (wc := (sh_T cs adT lfT foT ++ sh_P cs adP kdP grP cvP brP hzP fmP dmP e1P e2P fkP pnP fnP)) hD hS hA [0, 1, 2, 3, 4, 5, 6, 7, 8, 9, 10, 11] rfl
      refine va_callv (va_runV (As := [.ref (adP 0)]) (rest := []) ⟨hx, hb, hml, hown, hts⟩ (met_X3_tellFastenings l D cs ev _ adT adP lfT foT kdP grP cvP brP hzP fmP dmP e1P e2P fkP pnP fnP _ h) (cwV 1 hts gX3_byteAt_X3_tellFastenings rfl rfl rfl (by decide +kernel) ⟨Nat.le_of_ble_eq_true rfl, Nat.le_of_ble_eq_true rfl⟩) (mPreV (va_recv hK hP (ci := 3) (q0 := 0) rfl rfl) hP hD hS hK hE hFc [0, 1, 2, 3, 4, 5, 6, 7, 8, 9, 10, 11] (by decide) rfl) rfl rfl hl.1 rfl (lv_room (Nat.le_of_ble_eq_true rfl)) dX3_byteAt_52 ⟨Nat.le_of_ble_eq_true rfl, Nat.le_of_ble_eq_true rfl⟩) hS (fun q _ h => hFc q h) hFc (fun u t H1 locs ht hvm hw hB hz1 hk1 hS => ?_)
      obtain ⟨lf_7, fo_8⟩ := u
      have h := hw
      obtain ⟨hP1, hK1, hD1⟩ := hB
      rw [ht] at hP1
      obtain ⟨hP, hD⟩ := mJoin (wr := ([] : va_W)) (w1 := (sh_T cs adT lf_7 fo_8 ++ sh_P cs adP kdP grP cvP brP hzP fmP dmP e1P e2P fkP pnP fnP)) (w' := (sh_T cs adT lf_7 fo_8 ++ sh_P cs adP kdP grP cvP brP hzP fmP dmP e1P e2P fkP pnP fnP)) hP hD [0, 1, 2, 3, 4, 5, 6, 7, 8, 9, 10, 11] [] rfl rfl (by decide) (by decide) hk1 hFc hP1 hD1 [0, 1, 2, 3, 4, 5, 6, 7, 8, 9, 10, 11] (by decide) rfl
      generalize H1 = H at hP hS ⊢
      refine lv_aload_n hx hb dX3_byteAt_55 rfl (lv_at hl 0 rfl) ?_
      refine va_get (D := D) (ci := 3) (v := .int fo_8) (C := RX3) (T := TX3) (N := 2) hx hb hts (by decide +kernel) hown hK hP 0 rfl rfl 1 (by decide) (hts (.fieldLink RX3 15 "PartGraphs$Teller" "found" "I") (by decide +kernel)) (fun _ h9 => h9) rfl dX3_byteAt_56 ?_
      exact W.iret (v := fo_8) hx hb hr (fun t ht hW => ⟨⟨fo_8, (lf_7, fo_8), rfl, h, by rw [ht]; exact hP, va_K.moved hW.alike hK, hD⟩, hS.F ht⟩) hS.2.2 dX3_byteAt_59
    · have h := h.2 c_5
      refine lv_aload_n hx hb dX3_byteAt_31 rfl (lv_at hl 0 rfl) ?_
      refine va_get (D := D) (ci := 3) (v := .int lfT) (C := RX3) (T := TX3) (N := 2) hx hb hts (by decide +kernel) hown hK hP 0 rfl rfl 0 (by decide) (hts (.fieldLink RX3 9 "PartGraphs$Teller" "left" "I") (by decide +kernel)) (fun _ h9 => h9) rfl dX3_byteAt_32 ?_
      refine lv_if_lt (tgt := 50) hx hb dX3_byteAt_35 (by decide) (fun c_9 => ?_) (fun c_9 => ?_)
      · have h := h.1 c_9
        refine lv_aload_n hx hb dX3_byteAt_50 rfl (lv_at hl 0 rfl) ?_
        refine lv_aload_n hx hb dX3_byteAt_51 rfl (lv_at hl 1 rfl) ?_
        have hFc := va_free (wc := (sh_T cs adT lfT foT ++ sh_P cs adP kdP grP cvP brP hzP fmP dmP e1P e2P fkP pnP fnP)) hD hS hA [0, 1, 2, 3, 4, 5, 6, 7, 8, 9, 10, 11] rfl
        refine va_callv (va_runV (As := [.ref (adP 0)]) (rest := []) ⟨hx, hb, hml, hown, hts⟩ (met_X3_tellFastenings l D cs ev _ adT adP lfT foT kdP grP cvP brP hzP fmP dmP e1P e2P fkP pnP fnP _ h) (cwV 1 hts gX3_byteAt_X3_tellFastenings rfl rfl rfl (by decide +kernel) ⟨Nat.le_of_ble_eq_true rfl, Nat.le_of_ble_eq_true rfl⟩) (mPreV (va_recv hK hP (ci := 3) (q0 := 0) rfl rfl) hP hD hS hK hE hFc [0, 1, 2, 3, 4, 5, 6, 7, 8, 9, 10, 11] (by decide) rfl) rfl rfl hl.1 rfl (lv_room (Nat.le_of_ble_eq_true rfl)) dX3_byteAt_52 ⟨Nat.le_of_ble_eq_true rfl, Nat.le_of_ble_eq_true rfl⟩) hS (fun q _ h => hFc q h) hFc (fun u t H1 locs ht hvm hw hB hz1 hk1 hS => ?_)
        obtain ⟨lf_11, fo_12⟩ := u
        have h := hw
        obtain ⟨hP1, hK1, hD1⟩ := hB
        rw [ht] at hP1
        obtain ⟨hP, hD⟩ := mJoin (wr := ([] : va_W)) (w1 := (sh_T cs adT lf_11 fo_12 ++ sh_P cs adP kdP grP cvP brP hzP fmP dmP e1P e2P fkP pnP fnP)) (w' := (sh_T cs adT lf_11 fo_12 ++ sh_P cs adP kdP grP cvP brP hzP fmP dmP e1P e2P fkP pnP fnP)) hP hD [0, 1, 2, 3, 4, 5, 6, 7, 8, 9, 10, 11] [] rfl rfl (by decide) (by decide) hk1 hFc hP1 hD1 [0, 1, 2, 3, 4, 5, 6, 7, 8, 9, 10, 11] (by decide) rfl
        generalize H1 = H at hP hS ⊢
        refine lv_aload_n hx hb dX3_byteAt_55 rfl (lv_at hl 0 rfl) ?_
        refine va_get (D := D) (ci := 3) (v := .int fo_12) (C := RX3) (T := TX3) (N := 2) hx hb hts (by decide +kernel) hown hK hP 0 rfl rfl 1 (by decide) (hts (.fieldLink RX3 15 "PartGraphs$Teller" "found" "I") (by decide +kernel)) (fun _ h9 => h9) rfl dX3_byteAt_56 ?_
        exact W.iret (v := fo_12) hx hb hr (fun t ht hW => ⟨⟨fo_12, (lf_11, fo_12), rfl, h, by rw [ht]; exact hP, va_K.moved hW.alike hK, hD⟩, hS.F ht⟩) hS.2.2 dX3_byteAt_59
      · have h := h.2 c_9
        refine lv_aload_n hx hb dX3_byteAt_38 rfl (lv_at hl 0 rfl) ?_
        refine lv_aload_n hx hb dX3_byteAt_39 rfl (lv_at hl 1 rfl) ?_
        refine lv_iload_n hx hb dX3_byteAt_40 rfl (lv_at hl 2 rfl) ?_
        have hFc := va_free (wc := (sh_T cs adT lfT foT ++ sh_P cs adP kdP grP cvP brP hzP fmP dmP e1P e2P fkP pnP fnP)) hD hS hA [0, 1, 2, 3, 4, 5, 6, 7, 8, 9, 10, 11] rfl
        refine va_callv (va_runV (As := [.ref (adP 0), .int v3]) (rest := []) ⟨hx, hb, hml, hown, hts⟩ (met_X3_tellDetails l D cs ev _ adT adP lfT foT kdP grP cvP brP hzP fmP dmP e1P e2P fkP pnP fnP v3 _ h) (cwV 2 hts gX3_byteAt_X3_tellDetails rfl rfl rfl (by decide +kernel) ⟨Nat.le_of_ble_eq_true rfl, Nat.le_of_ble_eq_true rfl⟩) (mPreV (va_recv hK hP (ci := 3) (q0 := 0) rfl rfl) hP hD hS hK hE hFc [0, 1, 2, 3, 4, 5, 6, 7, 8, 9, 10, 11] (by decide) rfl) rfl rfl hl.1 rfl (lv_room (Nat.le_of_ble_eq_true rfl)) dX3_byteAt_41 ⟨Nat.le_of_ble_eq_true rfl, Nat.le_of_ble_eq_true rfl⟩) hS (fun q _ h => hFc q h) hFc (fun u t H1 locs ht hvm hw hB hz1 hk1 hS => ?_)
        obtain ⟨lf_14, fo_15⟩ := u
        have h := hw
        obtain ⟨hP1, hK1, hD1⟩ := hB
        rw [ht] at hP1
        obtain ⟨hP, hD⟩ := mJoin (wr := ([] : va_W)) (w1 := (sh_T cs adT lf_14 fo_15 ++ sh_P cs adP kdP grP cvP brP hzP fmP dmP e1P e2P fkP pnP fnP)) (w' := (sh_T cs adT lf_14 fo_15 ++ sh_P cs adP kdP grP cvP brP hzP fmP dmP e1P e2P fkP pnP fnP)) hP hD [0, 1, 2, 3, 4, 5, 6, 7, 8, 9, 10, 11] [] rfl rfl (by decide) (by decide) hk1 hFc hP1 hD1 [0, 1, 2, 3, 4, 5, 6, 7, 8, 9, 10, 11] (by decide) rfl
        generalize H1 = H at hP hS ⊢
        refine lv_iinc (v := v3 + 1) (lv' := [(3, .int (v3 + 1)), (0, .ref (adT 0)), (1, .ref (adP 0))]) hx hb dX3_byteAt_44 hl (k := 2) rfl rfl (by decide) rfl (fun ls hl => ?_)
        refine lv_goto (tgt := 23) hx hb dX3_byteAt_47 (by decide) ?_
        rw [hA23] at h
        exact h _ _ hP hD hS ls (lv_sub hl [1, 2, 0] rfl)
  have h := h A23 s23
  refine lv_iload_n hx hb dX3_byteAt_0 rfl (lv_at hl 2 rfl) ?_
  refine lv_if_ge (tgt := 6) hx hb dX3_byteAt_1 (by decide) (fun c_1 => ?_) (fun c_1 => ?_)
  · have h := h.1 c_1
    refine lv_aload_n hx hb dX3_byteAt_6 rfl (lv_at hl 0 rfl) ?_
    refine lv_iload_n hx hb dX3_byteAt_7 rfl (lv_at hl 2 rfl) ?_
    refine va_put (D := D) (ci := 3) (v := .int p2) (ty := .int) (C := RX3) (T := TX3) (N := 2) hx hb hts (by decide +kernel) tyX3 tyX3_ok nmX3 hown hK hP hD hS 0 rfl rfl 0 (by decide) (hts (.fieldLink RX3 9 "PartGraphs$Teller" "left" "I") (by decide +kernel)) (fun _ h9 => h9) rfl (by decide +kernel) rfl rfl (Nat.le_of_ble_eq_true rfl) dX3_byteAt_8 (fun H locs hP hD hS => ?_)
    have hP : va_P D vwCl (sh_T cs adT p2 foT ++ sh_P cs adP kdP grP cvP brP hzP fmP dmP e1P e2P fkP pnP fnP) H := hP
    have hD : va_D A (sh_T cs adT p2 foT ++ sh_P cs adP kdP grP cvP brP hzP fmP dmP e1P e2P fkP pnP fnP) := hD
    refine lv_aload_n hx hb dX3_byteAt_11 rfl (lv_at hl 0 rfl) ?_
    refine lv_iconst (v := (-1)) hx hb dX3_byteAt_12 (by decide) ?_
    refine va_put (D := D) (ci := 3) (v := .int (-1)) (ty := .int) (C := RX3) (T := TX3) (N := 2) hx hb hts (by decide +kernel) tyX3 tyX3_ok nmX3 hown hK hP hD hS 0 rfl rfl 1 (by decide) (hts (.fieldLink RX3 15 "PartGraphs$Teller" "found" "I") (by decide +kernel)) (fun _ h9 => h9) rfl (by decide +kernel) rfl rfl (Nat.le_of_ble_eq_true rfl) dX3_byteAt_13 (fun H locs hP hD hS => ?_)
    have hP : va_P D vwCl (sh_T cs adT p2 (-1) ++ sh_P cs adP kdP grP cvP brP hzP fmP dmP e1P e2P fkP pnP fnP) H := hP
    have hD : va_D A (sh_T cs adT p2 (-1) ++ sh_P cs adP kdP grP cvP brP hzP fmP dmP e1P e2P fkP pnP fnP) := hD
    refine lv_aload_n hx hb dX3_byteAt_16 rfl (lv_at hl 0 rfl) ?_
    refine lv_aload_n hx hb dX3_byteAt_17 rfl (lv_at hl 1 rfl) ?_
    have hFc := va_free (wc := (sh_T cs adT p2 (-1) ++ sh_P cs adP kdP grP cvP brP hzP fmP dmP e1P e2P fkP pnP fnP)) hD hS hA [0, 1, 2, 3, 4, 5, 6, 7, 8, 9, 10, 11] rfl
    refine va_callv (va_runV (As := [.ref (adP 0)]) (rest := []) ⟨hx, hb, hml, hown, hts⟩ (met_X3_tellParts l D cs ev _ adT adP p2 (-1) kdP grP cvP brP hzP fmP dmP e1P e2P fkP pnP fnP _ h) (cwV 1 hts gX3_byteAt_X3_tellParts rfl rfl rfl (by decide +kernel) ⟨Nat.le_of_ble_eq_true rfl, Nat.le_of_ble_eq_true rfl⟩) (mPreV (va_recv hK hP (ci := 3) (q0 := 0) rfl rfl) hP hD hS hK hE hFc [0, 1, 2, 3, 4, 5, 6, 7, 8, 9, 10, 11] (by decide) rfl) rfl rfl hl.1 rfl (lv_room (Nat.le_of_ble_eq_true rfl)) dX3_byteAt_18 ⟨Nat.le_of_ble_eq_true rfl, Nat.le_of_ble_eq_true rfl⟩) hS (fun q _ h => hFc q h) hFc (fun u t H1 locs ht hvm hw hB hz1 hk1 hS => ?_)
    obtain ⟨lf_3, fo_4⟩ := u
    have h := hw
    obtain ⟨hP1, hK1, hD1⟩ := hB
    rw [ht] at hP1
    obtain ⟨hP, hD⟩ := mJoin (wr := ([] : va_W)) (w1 := (sh_T cs adT lf_3 fo_4 ++ sh_P cs adP kdP grP cvP brP hzP fmP dmP e1P e2P fkP pnP fnP)) (w' := (sh_T cs adT lf_3 fo_4 ++ sh_P cs adP kdP grP cvP brP hzP fmP dmP e1P e2P fkP pnP fnP)) hP hD [0, 1, 2, 3, 4, 5, 6, 7, 8, 9, 10, 11] [] rfl rfl (by decide) (by decide) hk1 hFc hP1 hD1 [0, 1, 2, 3, 4, 5, 6, 7, 8, 9, 10, 11] (by decide) rfl
    generalize H1 = H at hP hS ⊢
    refine lv_iconst (v := 0) hx hb dX3_byteAt_21 (by decide) ?_
    refine lv_istore_n (lv' := [(3, .int 0), (0, .ref (adT 0)), (1, .ref (adP 0)), (2, .int p2)]) hx hb dX3_byteAt_22 rfl hl (by decide) rfl (fun ls hl => ?_)
    rw [hA23] at h
    exact h _ _ hP hD hS ls (lv_sub hl [1, 2, 0] rfl)
  · have h := h.2 c_1
    refine lv_iconst (v := (-1)) hx hb dX3_byteAt_4 (by decide) ?_
    exact W.iret (v := (-1)) hx hb hr (fun t ht hW => ⟨⟨(-1), (lfT, foT), rfl, h, by rw [ht]; exact hP, va_K.moved hW.alike hK, hD⟩, hS.F ht⟩) hS.2.2 dX3_byteAt_5
