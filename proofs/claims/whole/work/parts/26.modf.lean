def wp_X6_put (waM : Int32) (wrM : Int32) (fuM : Int32) (p1 : Int32) (post : (Int32 × Int32) → Prop) : Prop :=
    ((wrM = waM → post (wrM + 1, p1)) ∧ (¬ wrM = waM → post (wrM + 1, fuM)))
set_option maxHeartbeats 4000000 in
set_option maxRecDepth 100000 in
theorem met_X6_put (l : Launch) (D : va_G) (cs : Nat → ClassId) (ev : Nat → Nat → Nat) (sz0 : Nat) (adM : Nat → Nat) (mpM : Nat → Int32) (mkM : Nat → Int32) (mgM : Nat → Int32) (mcM : Nat → Int32) (mwM : Nat → Int32) (mfM : Nat → Int32) (mtM : Nat → Int32) (mhM : Nat → Int32) (mmM : Nat → Int32) (mdM : Nat → Int32) (mxM : Nat → Int32) (mnM : Nat → Int32) (szM : Int32) (faM : Int32) (apM : Int32) (waM : Int32) (wrM : Int32) (fuM : Int32) (p1 : Int32) (post : (Int32 × Int32) → Prop) (h : wp_X6_put waM wrM fuM p1 post) : Met l yX6_put wsX6_put ({ frames := 0, cells := 0, slots := 0, locals := 0 }) (va_Pc [.ref (adM 0), .int p1] (mPre D cs ev (sh_M cs adM mpM mkM mgM mcM mwM mfM mtM mhM mmM mdM mxM mnM szM faM apM waM wrM fuM) sz0)) (va_Qv post (fun u t => match u with | (wrM', fuM') => mAt D cs (va_A (sh_M cs adM mpM mkM mgM mcM mwM mfM mtM mhM mmM mdM mxM mnM szM faM apM waM wrM fuM) sz0) (sh_M cs adM mpM mkM mgM mcM mwM mfM mtM mhM mmM mdM mxM mnM szM faM apM waM wrM' fuM') t) (va_A (sh_M cs adM mpM mkM mgM mcM mwM mfM mtM mhM mmM mdM mxM mnM szM faM apM waM wrM fuM) sz0)) 0 0 (va_A (sh_M cs adM mpM mkM mgM mcM mwM mfM mtM mhM mmM mdM mxM mnM szM faM apM waM wrM fuM) sz0) := by
  refine Met.ofW (cc := cX6_put) (maxL := 2) (ret := none) (by decide) rfl ?_
  intro p e s m args below meth c s₁ B hml hv
  obtain ⟨rfl, hsz, hP, hK, hD0, hE⟩ := hv
  have hx := B.exec
  have hb := B.bytes
  have hr := B.returns
  have hts := atoms_spec (ws := wsX6_put) B.pre
  have hown : s.vm.findClass RX6 = some m.cls := findClass_of_methodNamed B.named
  have hlocks := B.notSynchronized
  subst hsz
  have hD := hD0.self (sz := s.heap.size)
  generalize hAe : va_A (sh_M cs adM mpM mkM mgM mcM mwM mfM mtM mhM mmM mdM mxM mnM szM faM apM waM wrM fuM) s.heap.size = A at hD hE ⊢
  have hA : ∀ q : Nat, s.heap.size ≤ q → A q := fun q h => by rw [← hAe]; exact Or.inr h
  have hS : va_S A s.heap s.heap [] := va_S.rf
  have hl := lv_entry ([.ref (adM 0), .int p1]) (n := 2) (Nat.le_of_ble_eq_true rfl)
  rw [lg_entry_eq]
  generalize (lg_sl ([.ref (adM 0), .int p1]) ++ List.replicate (2 - (lg_sl ([.ref (adM 0), .int p1])).length) Slot.unset).toArray = ls at hl ⊢
  have hl : lv_has ls 2 [(0, .ref (adM 0)), (1, .int p1)] := hl
  refine lv_aload_n hx hb dX6_put_0 rfl (lv_at hl 0 rfl) ?_
  refine lv_aload_n hx hb dX6_put_1 rfl (lv_at hl 0 rfl) ?_
  refine va_get (D := D) (ci := 5) (v := .int wrM) (C := RX6) (T := TX6) (N := 18) hx hb hts (by decide +kernel) hown hK hP 0 rfl rfl 16 (by decide) (hts (.fieldLink RX6 165 "PartGraphsModel" "written" "I") (by decide +kernel)) (fun _ h9 => h9) rfl dX6_put_2 ?_
  refine lv_aload_n hx hb dX6_put_5 rfl (lv_at hl 0 rfl) ?_
  refine va_get (D := D) (ci := 5) (v := .int waM) (C := RX6) (T := TX6) (N := 18) hx hb hts (by decide +kernel) hown hK hP 0 rfl rfl 15 (by decide) (hts (.fieldLink RX6 168 "PartGraphsModel" "wanted" "I") (by decide +kernel)) (fun _ h9 => h9) rfl dX6_put_6 ?_
  refine lv_icmp_ne (tgt := 16) hx hb dX6_put_9 (by decide) (fun c_1 => ?_) (fun c_1 => ?_)
  · have h := h.2 c_1
    refine lv_aload_n hx hb dX6_put_16 rfl (lv_at hl 0 rfl) ?_
    refine va_get (D := D) (ci := 5) (v := .int fuM) (C := RX6) (T := TX6) (N := 18) hx hb hts (by decide +kernel) hown hK hP 0 rfl rfl 17 (by decide) (hts (.fieldLink RX6 171 "PartGraphsModel" "found" "I") (by decide +kernel)) (fun _ h9 => h9) rfl dX6_put_17 ?_
    refine va_put (D := D) (ci := 5) (v := .int fuM) (ty := .int) (C := RX6) (T := TX6) (N := 18) hx hb hts (by decide +kernel) tyX6 tyX6_ok nmX6 hown hK hP hD hS 0 rfl rfl 17 (by decide) (hts (.fieldLink RX6 171 "PartGraphsModel" "found" "I") (by decide +kernel)) (fun _ h9 => h9) rfl (by decide +kernel) rfl rfl (Nat.le_of_ble_eq_true rfl) dX6_put_20 (fun H locs hP hD hS => ?_)
    have hP : va_P D vwCl (sh_M cs adM mpM mkM mgM mcM mwM mfM mtM mhM mmM mdM mxM mnM szM faM apM waM wrM fuM) H := hP
    have hD : va_D A (sh_M cs adM mpM mkM mgM mcM mwM mfM mtM mhM mmM mdM mxM mnM szM faM apM waM wrM fuM) := hD
    refine lv_aload_n hx hb dX6_put_23 rfl (lv_at hl 0 rfl) ?_
    refine lv_dup hx hb dX6_put_24 rfl ?_
    refine va_get (D := D) (ci := 5) (v := .int wrM) (C := RX6) (T := TX6) (N := 18) hx hb hts (by decide +kernel) hown hK hP 0 rfl rfl 16 (by decide) (hts (.fieldLink RX6 165 "PartGraphsModel" "written" "I") (by decide +kernel)) (fun _ h9 => h9) rfl dX6_put_25 ?_
    refine lv_iconst (v := 1) hx hb dX6_put_28 (by decide) ?_
    refine lv_iadd hx hb dX6_put_29 ?_
    refine va_put (D := D) (ci := 5) (v := .int (wrM + 1)) (ty := .int) (C := RX6) (T := TX6) (N := 18) hx hb hts (by decide +kernel) tyX6 tyX6_ok nmX6 hown hK hP hD hS 0 rfl rfl 16 (by decide) (hts (.fieldLink RX6 165 "PartGraphsModel" "written" "I") (by decide +kernel)) (fun _ h9 => h9) rfl (by decide +kernel) rfl rfl (Nat.le_of_ble_eq_true rfl) dX6_put_30 (fun H locs hP hD hS => ?_)
    have hP : va_P D vwCl (sh_M cs adM mpM mkM mgM mcM mwM mfM mtM mhM mmM mdM mxM mnM szM faM apM waM (wrM + 1) fuM) H := hP
    have hD : va_D A (sh_M cs adM mpM mkM mgM mcM mwM mfM mtM mhM mmM mdM mxM mnM szM faM apM waM (wrM + 1) fuM) := hD
    exact W.vret hx hb hr (fun t ht hW => ⟨⟨(wrM + 1, fuM), rfl, h, by rw [ht]; exact hP, va_K.moved hW.alike hK, hD⟩, hS.F ht⟩) hS.2.2 dX6_put_33
  · have h := h.1 c_1
    refine lv_iload_n hx hb dX6_put_12 rfl (lv_at hl 1 rfl) ?_
    refine lv_goto (tgt := 20) hx hb dX6_put_13 (by decide) ?_
    refine va_put (D := D) (ci := 5) (v := .int p1) (ty := .int) (C := RX6) (T := TX6) (N := 18) hx hb hts (by decide +kernel) tyX6 tyX6_ok nmX6 hown hK hP hD hS 0 rfl rfl 17 (by decide) (hts (.fieldLink RX6 171 "PartGraphsModel" "found" "I") (by decide +kernel)) (fun _ h9 => h9) rfl (by decide +kernel) rfl rfl (Nat.le_of_ble_eq_true rfl) dX6_put_20 (fun H locs hP hD hS => ?_)
    have hP : va_P D vwCl (sh_M cs adM mpM mkM mgM mcM mwM mfM mtM mhM mmM mdM mxM mnM szM faM apM waM wrM p1) H := hP
    have hD : va_D A (sh_M cs adM mpM mkM mgM mcM mwM mfM mtM mhM mmM mdM mxM mnM szM faM apM waM wrM p1) := hD
    refine lv_aload_n hx hb dX6_put_23 rfl (lv_at hl 0 rfl) ?_
    refine lv_dup hx hb dX6_put_24 rfl ?_
    refine va_get (D := D) (ci := 5) (v := .int wrM) (C := RX6) (T := TX6) (N := 18) hx hb hts (by decide +kernel) hown hK hP 0 rfl rfl 16 (by decide) (hts (.fieldLink RX6 165 "PartGraphsModel" "written" "I") (by decide +kernel)) (fun _ h9 => h9) rfl dX6_put_25 ?_
    refine lv_iconst (v := 1) hx hb dX6_put_28 (by decide) ?_
    refine lv_iadd hx hb dX6_put_29 ?_
    refine va_put (D := D) (ci := 5) (v := .int (wrM + 1)) (ty := .int) (C := RX6) (T := TX6) (N := 18) hx hb hts (by decide +kernel) tyX6 tyX6_ok nmX6 hown hK hP hD hS 0 rfl rfl 16 (by decide) (hts (.fieldLink RX6 165 "PartGraphsModel" "written" "I") (by decide +kernel)) (fun _ h9 => h9) rfl (by decide +kernel) rfl rfl (Nat.le_of_ble_eq_true rfl) dX6_put_30 (fun H locs hP hD hS => ?_)
    have hP : va_P D vwCl (sh_M cs adM mpM mkM mgM mcM mwM mfM mtM mhM mmM mdM mxM mnM szM faM apM waM (wrM + 1) p1) H := hP
    have hD : va_D A (sh_M cs adM mpM mkM mgM mcM mwM mfM mtM mhM mmM mdM mxM mnM szM faM apM waM (wrM + 1) p1) := hD
    exact W.vret hx hb hr (fun t ht hW => ⟨⟨(wrM + 1, p1), rfl, h, by rw [ht]; exact hP, va_K.moved hW.alike hK, hD⟩, hS.F ht⟩) hS.2.2 dX6_put_33
def wp_X6_putWord (waM : Int32) (wrM : Int32) (fuM : Int32) (p1 : Int32) (post : (Int32 × Int32) → Prop) : Prop :=
    ∀ (A11 : Int64 → Int32 → Int64 → Int32 → Int32 → Prop) (A40 : Int64 → Int32 → Int32 → Int32 → Prop),
    (∀ (v2 : Int64) (v4 : Int32) (v5 : Int64) (wrM : Int32) (fuM : Int32), (((lg_cmp v5 255) ≤ 0 → A40 v2 (v4 - 1) wrM fuM) ∧ (¬ (lg_cmp v5 255) ≤ 0 → (¬ (256 : Int64) = 0 ∧ A11 v2 (v4 + 1) (v5 / 256) wrM fuM))) → A11 v2 v4 v5 wrM fuM) →
    (∀ (v2 : Int64) (v5 : Int32) (wrM : Int32) (fuM : Int32), ((v5 < 0 → wp_X6_put waM wrM fuM 32 (fun u => match u with | (wr_5, fu_6) => post (wr_5, fu_6))) ∧ (¬ v5 < 0 → wp_X6_put waM wrM fuM (((v2 >>> ((8 * v5).toInt64 &&& 63)) &&& 255).toInt32) (fun u => match u with | (wr_8, fu_9) => A40 v2 (v5 + (-1)) wr_8 fu_9))) → A40 v2 v5 wrM fuM) →
    wp_X6_nameOf p1 (fun r_1 _ => A11 r_1 0 r_1 wrM fuM)
set_option maxHeartbeats 4000000 in
set_option maxRecDepth 100000 in
theorem met_X6_putWord (l : Launch) (D : va_G) (cs : Nat → ClassId) (ev : Nat → Nat → Nat) (sz0 : Nat) (adM : Nat → Nat) (mpM : Nat → Int32) (mkM : Nat → Int32) (mgM : Nat → Int32) (mcM : Nat → Int32) (mwM : Nat → Int32) (mfM : Nat → Int32) (mtM : Nat → Int32) (mhM : Nat → Int32) (mmM : Nat → Int32) (mdM : Nat → Int32) (mxM : Nat → Int32) (mnM : Nat → Int32) (szM : Int32) (faM : Int32) (apM : Int32) (waM : Int32) (wrM : Int32) (fuM : Int32) (p1 : Int32) (post : (Int32 × Int32) → Prop) (h : wp_X6_putWord waM wrM fuM p1 post) : Met l yX6_putWord wsX6_putWord ({ frames := 1, cells := 0, slots := 0, locals := 21 }) (va_Pc [.ref (adM 0), .int p1] (mPre D cs ev (sh_M cs adM mpM mkM mgM mcM mwM mfM mtM mhM mmM mdM mxM mnM szM faM apM waM wrM fuM) sz0)) (va_Qv post (fun u t => match u with | (wrM', fuM') => mAt D cs (va_A (sh_M cs adM mpM mkM mgM mcM mwM mfM mtM mhM mmM mdM mxM mnM szM faM apM waM wrM fuM) sz0) (sh_M cs adM mpM mkM mgM mcM mwM mfM mtM mhM mmM mdM mxM mnM szM faM apM waM wrM' fuM') t) (va_A (sh_M cs adM mpM mkM mgM mcM mwM mfM mtM mhM mmM mdM mxM mnM szM faM apM waM wrM fuM) sz0)) 0 0 (va_A (sh_M cs adM mpM mkM mgM mcM mwM mfM mtM mhM mmM mdM mxM mnM szM faM apM waM wrM fuM) sz0) := by
  refine Met.ofW (cc := cX6_putWord) (maxL := 7) (ret := none) (by decide) rfl ?_
  intro p e s m args below meth c s₁ B hml hv
  obtain ⟨rfl, hsz, hP, hK, hD0, hE⟩ := hv
  have hx := B.exec
  have hb := B.bytes
  have hr := B.returns
  have hts := atoms_spec (ws := wsX6_putWord) B.pre
  have hown : s.vm.findClass RX6 = some m.cls := findClass_of_methodNamed B.named
  have hlocks := B.notSynchronized
  subst hsz
  have hD := hD0.self (sz := s.heap.size)
  generalize hAe : va_A (sh_M cs adM mpM mkM mgM mcM mwM mfM mtM mhM mmM mdM mxM mnM szM faM apM waM wrM fuM) s.heap.size = A at hD hE ⊢
  have hA : ∀ q : Nat, s.heap.size ≤ q → A q := fun q h => by rw [← hAe]; exact Or.inr h
  have hS : va_S A s.heap s.heap [] := va_S.rf
  have hl := lv_entry ([.ref (adM 0), .int p1]) (n := 7) (Nat.le_of_ble_eq_true rfl)
  rw [lg_entry_eq]
  generalize (lg_sl ([.ref (adM 0), .int p1]) ++ List.replicate (7 - (lg_sl ([.ref (adM 0), .int p1])).length) Slot.unset).toArray = ls at hl ⊢
  have hl : lv_has ls 7 [(0, .ref (adM 0)), (1, .int p1)] := hl
  obtain ⟨A11, hA11⟩ : ∃ Q : Int64 → Int32 → Int64 → Int32 → Int32 → Prop, Q = (fun v2 v4 v5 wrM fuM => ∀ (H : Heap) (locs : List Loc), va_P D vwCl (sh_M cs adM mpM mkM mgM mcM mwM mfM mtM mhM mmM mdM mxM mnM szM faM apM waM wrM fuM) H → va_D A (sh_M cs adM mpM mkM mgM mcM mwM mfM mtM mhM mmM mdM mxM mnM szM faM apM waM wrM fuM) → va_S A s.heap H locs → ∀ ls : Array Slot, lv_has ls 7 [(0, .ref (adM 0)), (2, .long v2), (4, .int v4), (5, .long v5)] → W p l e (headSpec wsX6_putWord ({ frames := 1, cells := 0, slots := 0, locals := 21 })).room s m ([.ref (adM 0), .int p1] : List Value).toArray below meth c H locs 0 0 (MQ below (va_Qv post (fun u t => match u with | (wrM', fuM') => mAt D cs (A) (sh_M cs adM mpM mkM mgM mcM mwM mfM mtM mhM mmM mdM mxM mnM szM faM apM waM wrM' fuM') t) A) ([.ref (adM 0), .int p1] : List Value).toArray s 0 0 A) (F0 m 11 ls [])) := ⟨_, rfl⟩
  obtain ⟨A40, hA40⟩ : ∃ Q : Int64 → Int32 → Int32 → Int32 → Prop, Q = (fun v2 v5 wrM fuM => ∀ (H : Heap) (locs : List Loc), va_P D vwCl (sh_M cs adM mpM mkM mgM mcM mwM mfM mtM mhM mmM mdM mxM mnM szM faM apM waM wrM fuM) H → va_D A (sh_M cs adM mpM mkM mgM mcM mwM mfM mtM mhM mmM mdM mxM mnM szM faM apM waM wrM fuM) → va_S A s.heap H locs → ∀ ls : Array Slot, lv_has ls 7 [(0, .ref (adM 0)), (2, .long v2), (5, .int v5)] → W p l e (headSpec wsX6_putWord ({ frames := 1, cells := 0, slots := 0, locals := 21 })).room s m ([.ref (adM 0), .int p1] : List Value).toArray below meth c H locs 0 0 (MQ below (va_Qv post (fun u t => match u with | (wrM', fuM') => mAt D cs (A) (sh_M cs adM mpM mkM mgM mcM mwM mfM mtM mhM mmM mdM mxM mnM szM faM apM waM wrM' fuM') t) A) ([.ref (adM 0), .int p1] : List Value).toArray s 0 0 A) (F0 m 40 ls [])) := ⟨_, rfl⟩
  have s11 : ∀ (v2 : Int64) (v4 : Int32) (v5 : Int64) (wrM : Int32) (fuM : Int32), (((lg_cmp v5 255) ≤ 0 → A40 v2 (v4 - 1) wrM fuM) ∧ (¬ (lg_cmp v5 255) ≤ 0 → (¬ (256 : Int64) = 0 ∧ A11 v2 (v4 + 1) (v5 / 256) wrM fuM))) → A11 v2 v4 v5 wrM fuM := by
    intro v2 v4 v5 wrM fuM h
    rw [hA11]
    intro H locs hP hD hS ls hl
    refine lv_lload hx hb dX6_putWord_11 (lv_at hl 3 rfl) ?_
    refine lv_ldc2 (v := 255) hx hb hown (hts (.constantLong RX6 174 255) (by decide +kernel)) dX6_putWord_13 ?_
    refine W.lcmp hx hb dX6_putWord_16 ?_
    refine lv_if_le (tgt := 34) hx hb dX6_putWord_17 (by decide) (fun c_2 => ?_) (fun c_2 => ?_)
    · have h := h.1 c_2
      refine lv_iload hx hb dX6_putWord_34 (lv_at hl 2 rfl) ?_
      refine lv_iconst (v := 1) hx hb dX6_putWord_36 (by decide) ?_
      refine lv_isub hx hb dX6_putWord_37 ?_
      refine lv_istore (lv' := [(5, .int (v4 - 1)), (0, .ref (adM 0)), (2, .long v2), (4, .int v4)]) hx hb dX6_putWord_38 hl (by decide) rfl (fun ls hl => ?_)
      rw [hA40] at h
      exact h _ _ hP hD hS ls (lv_sub hl [1, 2, 0] rfl)
    · have h := h.2 c_2
      refine lv_iinc (v := v4 + 1) (lv' := [(4, .int (v4 + 1)), (0, .ref (adM 0)), (2, .long v2), (5, .long v5)]) hx hb dX6_putWord_20 hl (k := 2) rfl rfl (by decide) rfl (fun ls hl => ?_)
      refine lv_lload hx hb dX6_putWord_23 (lv_at hl 3 rfl) ?_
      refine lv_ldc2 (v := 256) hx hb hown (hts (.constantLong RX6 76 256) (by decide +kernel)) dX6_putWord_25 ?_
      have hne := h.1
      have h := h.2
      refine lv_ldiv hx hb dX6_putWord_28 hne ?_
      refine lv_lstore (lv' := [(5, .long (v5 / 256)), (4, .int (v4 + 1)), (0, .ref (adM 0)), (2, .long v2)]) hx hb dX6_putWord_29 hl (by decide) rfl (fun ls hl => ?_)
      refine lv_goto (tgt := 11) hx hb dX6_putWord_31 (by decide) ?_
      rw [hA11] at h
      exact h _ _ hP hD hS ls (lv_sub hl [2, 3, 1, 0] rfl)
  have s40 : ∀ (v2 : Int64) (v5 : Int32) (wrM : Int32) (fuM : Int32), ((v5 < 0 → wp_X6_put waM wrM fuM 32 (fun u => match u with | (wr_5, fu_6) => post (wr_5, fu_6))) ∧ (¬ v5 < 0 → wp_X6_put waM wrM fuM (((v2 >>> ((8 * v5).toInt64 &&& 63)) &&& 255).toInt32) (fun u => match u with | (wr_8, fu_9) => A40 v2 (v5 + (-1)) wr_8 fu_9))) → A40 v2 v5 wrM fuM := by
    intro v2 v5 wrM fuM h
    rw [hA40]
    intro H locs hP hD hS ls hl
    refine lv_iload hx hb dX6_putWord_40 (lv_at hl 2 rfl) ?_
    refine lv_if_lt (tgt := 67) hx hb dX6_putWord_42 (by decide) (fun c_3 => ?_) (fun c_3 => ?_)
    · have h := h.1 c_3
      refine lv_aload_n hx hb dX6_putWord_67 rfl (lv_at hl 0 rfl) ?_
      refine lv_bipush (v := 32) hx hb dX6_putWord_68 (by decide) ?_
      have hFc := va_free (wc := (sh_M cs adM mpM mkM mgM mcM mwM mfM mtM mhM mmM mdM mxM mnM szM faM apM waM wrM fuM)) hD hS hA [0, 1, 2, 3, 4, 5, 6, 7, 8, 9, 10, 11, 12] rfl
      refine va_callv (va_runV (As := [.int 32]) (rest := []) ⟨hx, hb, hml, hown, hts⟩ (met_X6_put l D cs ev _ adM mpM mkM mgM mcM mwM mfM mtM mhM mmM mdM mxM mnM szM faM apM waM wrM fuM 32 _ h) (cwV 1 hts gX6_putWord_X6_put rfl rfl rfl (by decide +kernel) ⟨Nat.le_of_ble_eq_true rfl, Nat.le_of_ble_eq_true rfl⟩) (mPreV (va_recv hK hP (ci := 5) (q0 := 0) rfl rfl) hP hD hS hK hE hFc [0, 1, 2, 3, 4, 5, 6, 7, 8, 9, 10, 11, 12] (by decide) rfl) rfl rfl hl.1 rfl (lv_room (Nat.le_of_ble_eq_true rfl)) dX6_putWord_70 ⟨Nat.le_of_ble_eq_true rfl, Nat.le_of_ble_eq_true rfl⟩) hS (fun q _ h => hFc q h) hFc (fun u t H1 locs ht hvm hw hB hz1 hk1 hS => ?_)
      obtain ⟨wr_5, fu_6⟩ := u
      have h := hw
      obtain ⟨hP1, hK1, hD1⟩ := hB
      rw [ht] at hP1
      obtain ⟨hP, hD⟩ := mJoin (wr := ([] : va_W)) (w1 := (sh_M cs adM mpM mkM mgM mcM mwM mfM mtM mhM mmM mdM mxM mnM szM faM apM waM wr_5 fu_6)) (w' := (sh_M cs adM mpM mkM mgM mcM mwM mfM mtM mhM mmM mdM mxM mnM szM faM apM waM wr_5 fu_6)) hP hD [0, 1, 2, 3, 4, 5, 6, 7, 8, 9, 10, 11, 12] [] rfl rfl (by decide) (by decide) hk1 hFc hP1 hD1 [0, 1, 2, 3, 4, 5, 6, 7, 8, 9, 10, 11, 12] (by decide) rfl
      generalize H1 = H at hP hS ⊢
      exact W.vret hx hb hr (fun t ht hW => ⟨⟨(wr_5, fu_6), rfl, h, by rw [ht]; exact hP, va_K.moved hW.alike hK, hD⟩, hS.F ht⟩) hS.2.2 dX6_putWord_73
    · have h := h.2 c_3
      refine lv_aload_n hx hb dX6_putWord_45 rfl (lv_at hl 0 rfl) ?_
      refine lv_lload_n hx hb dX6_putWord_46 rfl (lv_at hl 1 rfl) ?_
      refine lv_bipush (v := 8) hx hb dX6_putWord_47 (by decide) ?_
      refine lv_iload hx hb dX6_putWord_49 (lv_at hl 2 rfl) ?_
      refine lv_imul hx hb dX6_putWord_51 ?_
      refine lv_lshr hx hb dX6_putWord_52 rfl ?_
      refine lv_ldc2 (v := 255) hx hb hown (hts (.constantLong RX6 174 255) (by decide +kernel)) dX6_putWord_53 ?_
      refine lv_land hx hb dX6_putWord_56 ?_
      refine lv_l2i hx hb dX6_putWord_57 rfl ?_
      have hFc := va_free (wc := (sh_M cs adM mpM mkM mgM mcM mwM mfM mtM mhM mmM mdM mxM mnM szM faM apM waM wrM fuM)) hD hS hA [0, 1, 2, 3, 4, 5, 6, 7, 8, 9, 10, 11, 12] rfl
      refine va_callv (va_runV (As := [.int (((v2 >>> ((8 * v5).toInt64 &&& 63)) &&& 255).toInt32)]) (rest := []) ⟨hx, hb, hml, hown, hts⟩ (met_X6_put l D cs ev _ adM mpM mkM mgM mcM mwM mfM mtM mhM mmM mdM mxM mnM szM faM apM waM wrM fuM (((v2 >>> ((8 * v5).toInt64 &&& 63)) &&& 255).toInt32) _ h) (cwV 1 hts gX6_putWord_X6_put rfl rfl rfl (by decide +kernel) ⟨Nat.le_of_ble_eq_true rfl, Nat.le_of_ble_eq_true rfl⟩) (mPreV (va_recv hK hP (ci := 5) (q0 := 0) rfl rfl) hP hD hS hK hE hFc [0, 1, 2, 3, 4, 5, 6, 7, 8, 9, 10, 11, 12] (by decide) rfl) rfl rfl hl.1 rfl (lv_room (Nat.le_of_ble_eq_true rfl)) dX6_putWord_58 ⟨Nat.le_of_ble_eq_true rfl, Nat.le_of_ble_eq_true rfl⟩) hS (fun q _ h => hFc q h) hFc (fun u t H1 locs ht hvm hw hB hz1 hk1 hS => ?_)
      obtain ⟨wr_8, fu_9⟩ := u
      have h := hw
      obtain ⟨hP1, hK1, hD1⟩ := hB
      rw [ht] at hP1
      obtain ⟨hP, hD⟩ := mJoin (wr := ([] : va_W)) (w1 := (sh_M cs adM mpM mkM mgM mcM mwM mfM mtM mhM mmM mdM mxM mnM szM faM apM waM wr_8 fu_9)) (w' := (sh_M cs adM mpM mkM mgM mcM mwM mfM mtM mhM mmM mdM mxM mnM szM faM apM waM wr_8 fu_9)) hP hD [0, 1, 2, 3, 4, 5, 6, 7, 8, 9, 10, 11, 12] [] rfl rfl (by decide) (by decide) hk1 hFc hP1 hD1 [0, 1, 2, 3, 4, 5, 6, 7, 8, 9, 10, 11, 12] (by decide) rfl
      generalize H1 = H at hP hS ⊢
      refine lv_iinc (v := v5 + (-1)) (lv' := [(5, .int (v5 + (-1))), (0, .ref (adM 0)), (2, .long v2)]) hx hb dX6_putWord_61 hl (k := 2) rfl rfl (by decide) rfl (fun ls hl => ?_)
      refine lv_goto (tgt := 40) hx hb dX6_putWord_64 (by decide) ?_
      rw [hA40] at h
      exact h _ _ hP hD hS ls (lv_sub hl [1, 2, 0] rfl)
  have h := h A11 A40 s11 s40
  refine lv_iload_n hx hb dX6_putWord_0 rfl (lv_at hl 1 rfl) ?_
  have hFc := va_free (wc := ([] : va_W)) hD hS hA [] rfl
  refine va_calll (va_runS (As := [.int p1]) (rest := []) ⟨hx, hb, hml, hown, hts⟩ (met_X6_nameOf l D cs ev _ p1 _ h) (va_cwS 1 hts gX6_putWord_X6_nameOf rfl rfl rfl (by decide +kernel) ⟨Nat.le_of_ble_eq_true rfl, Nat.le_of_ble_eq_true rfl⟩) (mPreS hP hD hS hK hE hFc [] (by decide) rfl) rfl rfl hl.1 rfl (lv_room (Nat.le_of_ble_eq_true rfl)) dX6_putWord_1 ⟨Nat.le_of_ble_eq_true rfl, Nat.le_of_ble_eq_true rfl⟩) hS (fun q _ h => hFc q h) hFc (fun r_1 u t H1 locs ht hvm hw hB hz1 hk1 hS => ?_)
  have h := hw
  obtain ⟨hP1, hK1, hD1⟩ := hB
  rw [ht] at hP1
  obtain ⟨hP, hD⟩ := mJoin (wr := (sh_M cs adM mpM mkM mgM mcM mwM mfM mtM mhM mmM mdM mxM mnM szM faM apM waM wrM fuM)) (w1 := ([] : va_W)) (w' := (sh_M cs adM mpM mkM mgM mcM mwM mfM mtM mhM mmM mdM mxM mnM szM faM apM waM wrM fuM)) hP hD [] [0, 1, 2, 3, 4, 5, 6, 7, 8, 9, 10, 11, 12] rfl rfl (by decide) (by decide) hk1 hFc hP1 hD1 [0, 1, 2, 3, 4, 5, 6, 7, 8, 9, 10, 11, 12] (by decide) rfl
  generalize H1 = H at hP hS ⊢
  refine lv_lstore_n (lv' := [(2, .long r_1), (0, .ref (adM 0)), (1, .int p1)]) hx hb dX6_putWord_4 rfl hl (by decide) rfl (fun ls hl => ?_)
  refine lv_iconst (v := 0) hx hb dX6_putWord_5 (by decide) ?_
  refine lv_istore (lv' := [(4, .int 0), (2, .long r_1), (0, .ref (adM 0)), (1, .int p1)]) hx hb dX6_putWord_6 hl (by decide) rfl (fun ls hl => ?_)
  refine lv_lload_n hx hb dX6_putWord_8 rfl (lv_at hl 1 rfl) ?_
  refine lv_lstore (lv' := [(5, .long r_1), (4, .int 0), (2, .long r_1), (0, .ref (adM 0)), (1, .int p1)]) hx hb dX6_putWord_9 hl (by decide) rfl (fun ls hl => ?_)
  rw [hA11] at h
  exact h _ _ hP hD hS ls (lv_sub hl [3, 2, 1, 0] rfl)
def wp_X6_putNumber (waM : Int32) (wrM : Int32) (fuM : Int32) (p1 : Int32) (post : (Int32 × Int32) → Prop) : Prop :=
    ∀ (A2 : Int32 → Int32 → Int32 → Prop) (A18 : Int32 → Int32 → Int32 → Prop),
    (∀ (v2 : Int32) (wrM : Int32) (fuM : Int32), (¬ v2 = 0 ∧ (((p1 / v2) ≤ 9 → A18 v2 wrM fuM) ∧ (¬ (p1 / v2) ≤ 9 → A2 (v2 * 10) wrM fuM))) → A2 v2 wrM fuM) →
    (∀ (v2 : Int32) (wrM : Int32) (fuM : Int32), ((v2 ≤ 0 → wp_X6_put waM wrM fuM 32 (fun u => match u with | (wr_4, fu_5) => post (wr_4, fu_5))) ∧ (¬ v2 ≤ 0 → (¬ v2 = 0 ∧ (¬ (10 : Int32) = 0 ∧ wp_X6_put waM wrM fuM (48 + ((p1 / v2) - (p1 / v2) / 10 * 10)) (fun u => match u with | (wr_7, fu_8) => (¬ (10 : Int32) = 0 ∧ A18 (v2 / 10) wr_7 fu_8)))))) → A18 v2 wrM fuM) →
    A2 1 wrM fuM
set_option maxHeartbeats 4000000 in
set_option maxRecDepth 100000 in
theorem met_X6_putNumber (l : Launch) (D : va_G) (cs : Nat → ClassId) (ev : Nat → Nat → Nat) (sz0 : Nat) (adM : Nat → Nat) (mpM : Nat → Int32) (mkM : Nat → Int32) (mgM : Nat → Int32) (mcM : Nat → Int32) (mwM : Nat → Int32) (mfM : Nat → Int32) (mtM : Nat → Int32) (mhM : Nat → Int32) (mmM : Nat → Int32) (mdM : Nat → Int32) (mxM : Nat → Int32) (mnM : Nat → Int32) (szM : Int32) (faM : Int32) (apM : Int32) (waM : Int32) (wrM : Int32) (fuM : Int32) (p1 : Int32) (post : (Int32 × Int32) → Prop) (h : wp_X6_putNumber waM wrM fuM p1 post) : Met l yX6_putNumber wsX6_putNumber ({ frames := 1, cells := 0, slots := 0, locals := 21 }) (va_Pc [.ref (adM 0), .int p1] (mPre D cs ev (sh_M cs adM mpM mkM mgM mcM mwM mfM mtM mhM mmM mdM mxM mnM szM faM apM waM wrM fuM) sz0)) (va_Qv post (fun u t => match u with | (wrM', fuM') => mAt D cs (va_A (sh_M cs adM mpM mkM mgM mcM mwM mfM mtM mhM mmM mdM mxM mnM szM faM apM waM wrM fuM) sz0) (sh_M cs adM mpM mkM mgM mcM mwM mfM mtM mhM mmM mdM mxM mnM szM faM apM waM wrM' fuM') t) (va_A (sh_M cs adM mpM mkM mgM mcM mwM mfM mtM mhM mmM mdM mxM mnM szM faM apM waM wrM fuM) sz0)) 0 0 (va_A (sh_M cs adM mpM mkM mgM mcM mwM mfM mtM mhM mmM mdM mxM mnM szM faM apM waM wrM fuM) sz0) := by
  refine Met.ofW (cc := cX6_putNumber) (maxL := 3) (ret := none) (by decide) rfl ?_
  intro p e s m args below meth c s₁ B hml hv
  obtain ⟨rfl, hsz, hP, hK, hD0, hE⟩ := hv
  have hx := B.exec
  have hb := B.bytes
  have hr := B.returns
  have hts := atoms_spec (ws := wsX6_putNumber) B.pre
  have hown : s.vm.findClass RX6 = some m.cls := findClass_of_methodNamed B.named
  have hlocks := B.notSynchronized
  subst hsz
  have hD := hD0.self (sz := s.heap.size)
  generalize hAe : va_A (sh_M cs adM mpM mkM mgM mcM mwM mfM mtM mhM mmM mdM mxM mnM szM faM apM waM wrM fuM) s.heap.size = A at hD hE ⊢
  have hA : ∀ q : Nat, s.heap.size ≤ q → A q := fun q h => by rw [← hAe]; exact Or.inr h
  have hS : va_S A s.heap s.heap [] := va_S.rf
  have hl := lv_entry ([.ref (adM 0), .int p1]) (n := 3) (Nat.le_of_ble_eq_true rfl)
  rw [lg_entry_eq]
  generalize (lg_sl ([.ref (adM 0), .int p1]) ++ List.replicate (3 - (lg_sl ([.ref (adM 0), .int p1])).length) Slot.unset).toArray = ls at hl ⊢
  have hl : lv_has ls 3 [(0, .ref (adM 0)), (1, .int p1)] := hl
  obtain ⟨A2, hA2⟩ : ∃ Q : Int32 → Int32 → Int32 → Prop, Q = (fun v2 wrM fuM => ∀ (H : Heap) (locs : List Loc), va_P D vwCl (sh_M cs adM mpM mkM mgM mcM mwM mfM mtM mhM mmM mdM mxM mnM szM faM apM waM wrM fuM) H → va_D A (sh_M cs adM mpM mkM mgM mcM mwM mfM mtM mhM mmM mdM mxM mnM szM faM apM waM wrM fuM) → va_S A s.heap H locs → ∀ ls : Array Slot, lv_has ls 3 [(0, .ref (adM 0)), (1, .int p1), (2, .int v2)] → W p l e (headSpec wsX6_putNumber ({ frames := 1, cells := 0, slots := 0, locals := 21 })).room s m ([.ref (adM 0), .int p1] : List Value).toArray below meth c H locs 0 0 (MQ below (va_Qv post (fun u t => match u with | (wrM', fuM') => mAt D cs (A) (sh_M cs adM mpM mkM mgM mcM mwM mfM mtM mhM mmM mdM mxM mnM szM faM apM waM wrM' fuM') t) A) ([.ref (adM 0), .int p1] : List Value).toArray s 0 0 A) (F0 m 2 ls [])) := ⟨_, rfl⟩
  obtain ⟨A18, hA18⟩ : ∃ Q : Int32 → Int32 → Int32 → Prop, Q = (fun v2 wrM fuM => ∀ (H : Heap) (locs : List Loc), va_P D vwCl (sh_M cs adM mpM mkM mgM mcM mwM mfM mtM mhM mmM mdM mxM mnM szM faM apM waM wrM fuM) H → va_D A (sh_M cs adM mpM mkM mgM mcM mwM mfM mtM mhM mmM mdM mxM mnM szM faM apM waM wrM fuM) → va_S A s.heap H locs → ∀ ls : Array Slot, lv_has ls 3 [(0, .ref (adM 0)), (1, .int p1), (2, .int v2)] → W p l e (headSpec wsX6_putNumber ({ frames := 1, cells := 0, slots := 0, locals := 21 })).room s m ([.ref (adM 0), .int p1] : List Value).toArray below meth c H locs 0 0 (MQ below (va_Qv post (fun u t => match u with | (wrM', fuM') => mAt D cs (A) (sh_M cs adM mpM mkM mgM mcM mwM mfM mtM mhM mmM mdM mxM mnM szM faM apM waM wrM' fuM') t) A) ([.ref (adM 0), .int p1] : List Value).toArray s 0 0 A) (F0 m 18 ls [])) := ⟨_, rfl⟩
  have s2 : ∀ (v2 : Int32) (wrM : Int32) (fuM : Int32), (¬ v2 = 0 ∧ (((p1 / v2) ≤ 9 → A18 v2 wrM fuM) ∧ (¬ (p1 / v2) ≤ 9 → A2 (v2 * 10) wrM fuM))) → A2 v2 wrM fuM := by
    intro v2 wrM fuM h
    rw [hA2]
    intro H locs hP hD hS ls hl
    refine lv_iload_n hx hb dX6_putNumber_2 rfl (lv_at hl 1 rfl) ?_
    refine lv_iload_n hx hb dX6_putNumber_3 rfl (lv_at hl 2 rfl) ?_
    have hne := h.1
    have h := h.2
    refine lv_idiv hx hb dX6_putNumber_4 hne ?_
    refine lv_bipush (v := 9) hx hb dX6_putNumber_5 (by decide) ?_
    refine lv_icmp_le (tgt := 18) hx hb dX6_putNumber_7 (by decide) (fun c_1 => ?_) (fun c_1 => ?_)
    · have h := h.1 c_1
      rw [hA18] at h
      exact h _ _ hP hD hS ls (lv_sub hl [0, 1, 2] rfl)
    · have h := h.2 c_1
      refine lv_iload_n hx hb dX6_putNumber_10 rfl (lv_at hl 2 rfl) ?_
      refine lv_bipush (v := 10) hx hb dX6_putNumber_11 (by decide) ?_
      refine lv_imul hx hb dX6_putNumber_13 ?_
      refine lv_istore_n (lv' := [(2, .int (v2 * 10)), (0, .ref (adM 0)), (1, .int p1)]) hx hb dX6_putNumber_14 rfl hl (by decide) rfl (fun ls hl => ?_)
      refine lv_goto (tgt := 2) hx hb dX6_putNumber_15 (by decide) ?_
      rw [hA2] at h
      exact h _ _ hP hD hS ls (lv_sub hl [1, 2, 0] rfl)
  have s18 : ∀ (v2 : Int32) (wrM : Int32) (fuM : Int32), ((v2 ≤ 0 → wp_X6_put waM wrM fuM 32 (fun u => match u with | (wr_4, fu_5) => post (wr_4, fu_5))) ∧ (¬ v2 ≤ 0 → (¬ v2 = 0 ∧ (¬ (10 : Int32) = 0 ∧ wp_X6_put waM wrM fuM (48 + ((p1 / v2) - (p1 / v2) / 10 * 10)) (fun u => match u with | (wr_7, fu_8) => (¬ (10 : Int32) = 0 ∧ A18 (v2 / 10) wr_7 fu_8)))))) → A18 v2 wrM fuM := by
    intro v2 wrM fuM h
    rw [hA18]
    intro H locs hP hD hS ls hl
    refine lv_iload_n hx hb dX6_putNumber_18 rfl (lv_at hl 2 rfl) ?_
    refine lv_if_le (tgt := 43) hx hb dX6_putNumber_19 (by decide) (fun c_2 => ?_) (fun c_2 => ?_)
    · have h := h.1 c_2
      refine lv_aload_n hx hb dX6_putNumber_43 rfl (lv_at hl 0 rfl) ?_
      refine lv_bipush (v := 32) hx hb dX6_putNumber_44 (by decide) ?_
      have hFc := va_free (wc := (sh_M cs adM mpM mkM mgM mcM mwM mfM mtM mhM mmM mdM mxM mnM szM faM apM waM wrM fuM)) hD hS hA [0, 1, 2, 3, 4, 5, 6, 7, 8, 9, 10, 11, 12] rfl
      refine va_callv (va_runV (As := [.int 32]) (rest := []) ⟨hx, hb, hml, hown, hts⟩ (met_X6_put l D cs ev _ adM mpM mkM mgM mcM mwM mfM mtM mhM mmM mdM mxM mnM szM faM apM waM wrM fuM 32 _ h) (cwV 1 hts gX6_putNumber_X6_put rfl rfl rfl (by decide +kernel) ⟨Nat.le_of_ble_eq_true rfl, Nat.le_of_ble_eq_true rfl⟩) (mPreV (va_recv hK hP (ci := 5) (q0 := 0) rfl rfl) hP hD hS hK hE hFc [0, 1, 2, 3, 4, 5, 6, 7, 8, 9, 10, 11, 12] (by decide) rfl) rfl rfl hl.1 rfl (lv_room (Nat.le_of_ble_eq_true rfl)) dX6_putNumber_46 ⟨Nat.le_of_ble_eq_true rfl, Nat.le_of_ble_eq_true rfl⟩) hS (fun q _ h => hFc q h) hFc (fun u t H1 locs ht hvm hw hB hz1 hk1 hS => ?_)
      obtain ⟨wr_4, fu_5⟩ := u
      have h := hw
      obtain ⟨hP1, hK1, hD1⟩ := hB
      rw [ht] at hP1
      obtain ⟨hP, hD⟩ := mJoin (wr := ([] : va_W)) (w1 := (sh_M cs adM mpM mkM mgM mcM mwM mfM mtM mhM mmM mdM mxM mnM szM faM apM waM wr_4 fu_5)) (w' := (sh_M cs adM mpM mkM mgM mcM mwM mfM mtM mhM mmM mdM mxM mnM szM faM apM waM wr_4 fu_5)) hP hD [0, 1, 2, 3, 4, 5, 6, 7, 8, 9, 10, 11, 12] [] rfl rfl (by decide) (by decide) hk1 hFc hP1 hD1 [0, 1, 2, 3, 4, 5, 6, 7, 8, 9, 10, 11, 12] (by decide) rfl
      generalize H1 = H at hP hS ⊢
      exact W.vret hx hb hr (fun t ht hW => ⟨⟨(wr_4, fu_5), rfl, h, by rw [ht]; exact hP, va_K.moved hW.alike hK, hD⟩, hS.F ht⟩) hS.2.2 dX6_putNumber_49
    · have h := h.2 c_2
      refine lv_aload_n hx hb dX6_putNumber_22 rfl (lv_at hl 0 rfl) ?_
      refine lv_bipush (v := 48) hx hb dX6_putNumber_23 (by decide) ?_
      refine lv_iload_n hx hb dX6_putNumber_25 rfl (lv_at hl 1 rfl) ?_
      refine lv_iload_n hx hb dX6_putNumber_26 rfl (lv_at hl 2 rfl) ?_
      have hne := h.1
      have h := h.2
      refine lv_idiv hx hb dX6_putNumber_27 hne ?_
      refine lv_bipush (v := 10) hx hb dX6_putNumber_28 (by decide) ?_
      have hne := h.1
      have h := h.2
      refine lv_irem hx hb dX6_putNumber_30 hne ?_
      refine lv_iadd hx hb dX6_putNumber_31 ?_
      have hFc := va_free (wc := (sh_M cs adM mpM mkM mgM mcM mwM mfM mtM mhM mmM mdM mxM mnM szM faM apM waM wrM fuM)) hD hS hA [0, 1, 2, 3, 4, 5, 6, 7, 8, 9, 10, 11, 12] rfl
      refine va_callv (va_runV (As := [.int (48 + ((p1 / v2) - (p1 / v2) / 10 * 10))]) (rest := []) ⟨hx, hb, hml, hown, hts⟩ (met_X6_put l D cs ev _ adM mpM mkM mgM mcM mwM mfM mtM mhM mmM mdM mxM mnM szM faM apM waM wrM fuM (48 + ((p1 / v2) - (p1 / v2) / 10 * 10)) _ h) (cwV 1 hts gX6_putNumber_X6_put rfl rfl rfl (by decide +kernel) ⟨Nat.le_of_ble_eq_true rfl, Nat.le_of_ble_eq_true rfl⟩) (mPreV (va_recv hK hP (ci := 5) (q0 := 0) rfl rfl) hP hD hS hK hE hFc [0, 1, 2, 3, 4, 5, 6, 7, 8, 9, 10, 11, 12] (by decide) rfl) rfl rfl hl.1 rfl (lv_room (Nat.le_of_ble_eq_true rfl)) dX6_putNumber_32 ⟨Nat.le_of_ble_eq_true rfl, Nat.le_of_ble_eq_true rfl⟩) hS (fun q _ h => hFc q h) hFc (fun u t H1 locs ht hvm hw hB hz1 hk1 hS => ?_)
      obtain ⟨wr_7, fu_8⟩ := u
      have h := hw
      obtain ⟨hP1, hK1, hD1⟩ := hB
      rw [ht] at hP1
      obtain ⟨hP, hD⟩ := mJoin (wr := ([] : va_W)) (w1 := (sh_M cs adM mpM mkM mgM mcM mwM mfM mtM mhM mmM mdM mxM mnM szM faM apM waM wr_7 fu_8)) (w' := (sh_M cs adM mpM mkM mgM mcM mwM mfM mtM mhM mmM mdM mxM mnM szM faM apM waM wr_7 fu_8)) hP hD [0, 1, 2, 3, 4, 5, 6, 7, 8, 9, 10, 11, 12] [] rfl rfl (by decide) (by decide) hk1 hFc hP1 hD1 [0, 1, 2, 3, 4, 5, 6, 7, 8, 9, 10, 11, 12] (by decide) rfl
      generalize H1 = H at hP hS ⊢
      refine lv_iload_n hx hb dX6_putNumber_35 rfl (lv_at hl 2 rfl) ?_
      refine lv_bipush (v := 10) hx hb dX6_putNumber_36 (by decide) ?_
      have hne := h.1
      have h := h.2
      refine lv_idiv hx hb dX6_putNumber_38 hne ?_
      refine lv_istore_n (lv' := [(2, .int (v2 / 10)), (0, .ref (adM 0)), (1, .int p1)]) hx hb dX6_putNumber_39 rfl hl (by decide) rfl (fun ls hl => ?_)
      refine lv_goto (tgt := 18) hx hb dX6_putNumber_40 (by decide) ?_
      rw [hA18] at h
      exact h _ _ hP hD hS ls (lv_sub hl [1, 2, 0] rfl)
  have h := h A2 A18 s2 s18
  refine lv_iconst (v := 1) hx hb dX6_putNumber_0 (by decide) ?_
  refine lv_istore_n (lv' := [(2, .int 1), (0, .ref (adM 0)), (1, .int p1)]) hx hb dX6_putNumber_1 rfl hl (by decide) rfl (fun ls hl => ?_)
  rw [hA2] at h
  exact h _ _ hP hD hS ls (lv_sub hl [1, 2, 0] rfl)
def wp_X6_putTwo (waM : Int32) (wrM : Int32) (fuM : Int32) (p1 : Int32) (p2 : Int32) (p3 : Int32) (post : (Int32 × Int32) → Prop) : Prop :=
    wp_X6_putWord waM wrM fuM p1 (fun u => match u with | (wr_2, fu_3) => wp_X6_putNumber waM wr_2 fu_3 p2 (fun u => match u with | (wr_5, fu_6) => wp_X6_putNumber waM wr_5 fu_6 p3 (fun u => match u with | (wr_8, fu_9) => post (wr_8, fu_9))))
set_option maxHeartbeats 4000000 in
set_option maxRecDepth 100000 in
theorem met_X6_putTwo (l : Launch) (D : va_G) (cs : Nat → ClassId) (ev : Nat → Nat → Nat) (sz0 : Nat) (adM : Nat → Nat) (mpM : Nat → Int32) (mkM : Nat → Int32) (mgM : Nat → Int32) (mcM : Nat → Int32) (mwM : Nat → Int32) (mfM : Nat → Int32) (mtM : Nat → Int32) (mhM : Nat → Int32) (mmM : Nat → Int32) (mdM : Nat → Int32) (mxM : Nat → Int32) (mnM : Nat → Int32) (szM : Int32) (faM : Int32) (apM : Int32) (waM : Int32) (wrM : Int32) (fuM : Int32) (p1 : Int32) (p2 : Int32) (p3 : Int32) (post : (Int32 × Int32) → Prop) (h : wp_X6_putTwo waM wrM fuM p1 p2 p3 post) : Met l yX6_putTwo wsX6_putTwo ({ frames := 2, cells := 0, slots := 0, locals := 47 }) (va_Pc [.ref (adM 0), .int p1, .int p2, .int p3] (mPre D cs ev (sh_M cs adM mpM mkM mgM mcM mwM mfM mtM mhM mmM mdM mxM mnM szM faM apM waM wrM fuM) sz0)) (va_Qv post (fun u t => match u with | (wrM', fuM') => mAt D cs (va_A (sh_M cs adM mpM mkM mgM mcM mwM mfM mtM mhM mmM mdM mxM mnM szM faM apM waM wrM fuM) sz0) (sh_M cs adM mpM mkM mgM mcM mwM mfM mtM mhM mmM mdM mxM mnM szM faM apM waM wrM' fuM') t) (va_A (sh_M cs adM mpM mkM mgM mcM mwM mfM mtM mhM mmM mdM mxM mnM szM faM apM waM wrM fuM) sz0)) 0 0 (va_A (sh_M cs adM mpM mkM mgM mcM mwM mfM mtM mhM mmM mdM mxM mnM szM faM apM waM wrM fuM) sz0) := by
  refine Met.ofW (cc := cX6_putTwo) (maxL := 4) (ret := none) (by decide) rfl ?_
  intro p e s m args below meth c s₁ B hml hv
  obtain ⟨rfl, hsz, hP, hK, hD0, hE⟩ := hv
  have hx := B.exec
  have hb := B.bytes
  have hr := B.returns
  have hts := atoms_spec (ws := wsX6_putTwo) B.pre
  have hown : s.vm.findClass RX6 = some m.cls := findClass_of_methodNamed B.named
  have hlocks := B.notSynchronized
  subst hsz
  have hD := hD0.self (sz := s.heap.size)
  generalize hAe : va_A (sh_M cs adM mpM mkM mgM mcM mwM mfM mtM mhM mmM mdM mxM mnM szM faM apM waM wrM fuM) s.heap.size = A at hD hE ⊢
  have hA : ∀ q : Nat, s.heap.size ≤ q → A q := fun q h => by rw [← hAe]; exact Or.inr h
  have hS : va_S A s.heap s.heap [] := va_S.rf
  have hl := lv_entry ([.ref (adM 0), .int p1, .int p2, .int p3]) (n := 4) (Nat.le_of_ble_eq_true rfl)
  rw [lg_entry_eq]
  generalize (lg_sl ([.ref (adM 0), .int p1, .int p2, .int p3]) ++ List.replicate (4 - (lg_sl ([.ref (adM 0), .int p1, .int p2, .int p3])).length) Slot.unset).toArray = ls at hl ⊢
  have hl : lv_has ls 4 [(0, .ref (adM 0)), (1, .int p1), (2, .int p2), (3, .int p3)] := hl
  refine lv_aload_n hx hb dX6_putTwo_0 rfl (lv_at hl 0 rfl) ?_
  refine lv_iload_n hx hb dX6_putTwo_1 rfl (lv_at hl 1 rfl) ?_
  have hFc := va_free (wc := (sh_M cs adM mpM mkM mgM mcM mwM mfM mtM mhM mmM mdM mxM mnM szM faM apM waM wrM fuM)) hD hS hA [0, 1, 2, 3, 4, 5, 6, 7, 8, 9, 10, 11, 12] rfl
  refine va_callv (va_runV (As := [.int p1]) (rest := []) ⟨hx, hb, hml, hown, hts⟩ (met_X6_putWord l D cs ev _ adM mpM mkM mgM mcM mwM mfM mtM mhM mmM mdM mxM mnM szM faM apM waM wrM fuM p1 _ h) (cwV 1 hts gX6_putTwo_X6_putWord rfl rfl rfl (by decide +kernel) ⟨Nat.le_of_ble_eq_true rfl, Nat.le_of_ble_eq_true rfl⟩) (mPreV (va_recv hK hP (ci := 5) (q0 := 0) rfl rfl) hP hD hS hK hE hFc [0, 1, 2, 3, 4, 5, 6, 7, 8, 9, 10, 11, 12] (by decide) rfl) rfl rfl hl.1 rfl (lv_room (Nat.le_of_ble_eq_true rfl)) dX6_putTwo_2 ⟨Nat.le_of_ble_eq_true rfl, Nat.le_of_ble_eq_true rfl⟩) hS (fun q _ h => hFc q h) hFc (fun u t H1 locs ht hvm hw hB hz1 hk1 hS => ?_)
  obtain ⟨wr_2, fu_3⟩ := u
  have h := hw
  obtain ⟨hP1, hK1, hD1⟩ := hB
  rw [ht] at hP1
  obtain ⟨hP, hD⟩ := mJoin (wr := ([] : va_W)) (w1 := (sh_M cs adM mpM mkM mgM mcM mwM mfM mtM mhM mmM mdM mxM mnM szM faM apM waM wr_2 fu_3)) (w' := (sh_M cs adM mpM mkM mgM mcM mwM mfM mtM mhM mmM mdM mxM mnM szM faM apM waM wr_2 fu_3)) hP hD [0, 1, 2, 3, 4, 5, 6, 7, 8, 9, 10, 11, 12] [] rfl rfl (by decide) (by decide) hk1 hFc hP1 hD1 [0, 1, 2, 3, 4, 5, 6, 7, 8, 9, 10, 11, 12] (by decide) rfl
  generalize H1 = H at hP hS ⊢
  refine lv_aload_n hx hb dX6_putTwo_5 rfl (lv_at hl 0 rfl) ?_
  refine lv_iload_n hx hb dX6_putTwo_6 rfl (lv_at hl 2 rfl) ?_
  have hFc := va_free (wc := (sh_M cs adM mpM mkM mgM mcM mwM mfM mtM mhM mmM mdM mxM mnM szM faM apM waM wr_2 fu_3)) hD hS hA [0, 1, 2, 3, 4, 5, 6, 7, 8, 9, 10, 11, 12] rfl
  refine va_callv (va_runV (As := [.int p2]) (rest := []) ⟨hx, hb, hml, hown, hts⟩ (met_X6_putNumber l D cs ev _ adM mpM mkM mgM mcM mwM mfM mtM mhM mmM mdM mxM mnM szM faM apM waM wr_2 fu_3 p2 _ h) (cwV 1 hts gX6_putTwo_X6_putNumber rfl rfl rfl (by decide +kernel) ⟨Nat.le_of_ble_eq_true rfl, Nat.le_of_ble_eq_true rfl⟩) (mPreV (va_recv hK hP (ci := 5) (q0 := 0) rfl rfl) hP hD hS hK hE hFc [0, 1, 2, 3, 4, 5, 6, 7, 8, 9, 10, 11, 12] (by decide) rfl) rfl rfl hl.1 rfl (lv_room (Nat.le_of_ble_eq_true rfl)) dX6_putTwo_7 ⟨Nat.le_of_ble_eq_true rfl, Nat.le_of_ble_eq_true rfl⟩) hS (fun q _ h => hFc q h) hFc (fun u t H1 locs ht hvm hw hB hz1 hk1 hS => ?_)
  obtain ⟨wr_5, fu_6⟩ := u
  have h := hw
  obtain ⟨hP1, hK1, hD1⟩ := hB
  rw [ht] at hP1
  obtain ⟨hP, hD⟩ := mJoin (wr := ([] : va_W)) (w1 := (sh_M cs adM mpM mkM mgM mcM mwM mfM mtM mhM mmM mdM mxM mnM szM faM apM waM wr_5 fu_6)) (w' := (sh_M cs adM mpM mkM mgM mcM mwM mfM mtM mhM mmM mdM mxM mnM szM faM apM waM wr_5 fu_6)) hP hD [0, 1, 2, 3, 4, 5, 6, 7, 8, 9, 10, 11, 12] [] rfl rfl (by decide) (by decide) hk1 hFc hP1 hD1 [0, 1, 2, 3, 4, 5, 6, 7, 8, 9, 10, 11, 12] (by decide) rfl
  generalize H1 = H at hP hS ⊢
  refine lv_aload_n hx hb dX6_putTwo_10 rfl (lv_at hl 0 rfl) ?_
  refine lv_iload_n hx hb dX6_putTwo_11 rfl (lv_at hl 3 rfl) ?_
  have hFc := va_free (wc := (sh_M cs adM mpM mkM mgM mcM mwM mfM mtM mhM mmM mdM mxM mnM szM faM apM waM wr_5 fu_6)) hD hS hA [0, 1, 2, 3, 4, 5, 6, 7, 8, 9, 10, 11, 12] rfl
  refine va_callv (va_runV (As := [.int p3]) (rest := []) ⟨hx, hb, hml, hown, hts⟩ (met_X6_putNumber l D cs ev _ adM mpM mkM mgM mcM mwM mfM mtM mhM mmM mdM mxM mnM szM faM apM waM wr_5 fu_6 p3 _ h) (cwV 1 hts gX6_putTwo_X6_putNumber rfl rfl rfl (by decide +kernel) ⟨Nat.le_of_ble_eq_true rfl, Nat.le_of_ble_eq_true rfl⟩) (mPreV (va_recv hK hP (ci := 5) (q0 := 0) rfl rfl) hP hD hS hK hE hFc [0, 1, 2, 3, 4, 5, 6, 7, 8, 9, 10, 11, 12] (by decide) rfl) rfl rfl hl.1 rfl (lv_room (Nat.le_of_ble_eq_true rfl)) dX6_putTwo_12 ⟨Nat.le_of_ble_eq_true rfl, Nat.le_of_ble_eq_true rfl⟩) hS (fun q _ h => hFc q h) hFc (fun u t H1 locs ht hvm hw hB hz1 hk1 hS => ?_)
  obtain ⟨wr_8, fu_9⟩ := u
  have h := hw
  obtain ⟨hP1, hK1, hD1⟩ := hB
  rw [ht] at hP1
  obtain ⟨hP, hD⟩ := mJoin (wr := ([] : va_W)) (w1 := (sh_M cs adM mpM mkM mgM mcM mwM mfM mtM mhM mmM mdM mxM mnM szM faM apM waM wr_8 fu_9)) (w' := (sh_M cs adM mpM mkM mgM mcM mwM mfM mtM mhM mmM mdM mxM mnM szM faM apM waM wr_8 fu_9)) hP hD [0, 1, 2, 3, 4, 5, 6, 7, 8, 9, 10, 11, 12] [] rfl rfl (by decide) (by decide) hk1 hFc hP1 hD1 [0, 1, 2, 3, 4, 5, 6, 7, 8, 9, 10, 11, 12] (by decide) rfl
  generalize H1 = H at hP hS ⊢
  exact W.vret hx hb hr (fun t ht hW => ⟨⟨(wr_8, fu_9), rfl, h, by rw [ht]; exact hP, va_K.moved hW.alike hK, hD⟩, hS.F ht⟩) hS.2.2 dX6_putTwo_15
def wp_X6_putPart (mpM : Nat → Int32) (mcM : Nat → Int32) (mwM : Nat → Int32) (mhM : Nat → Int32) (mmM : Nat → Int32) (mdM : Nat → Int32) (waM : Int32) (wrM : Int32) (fuM : Int32) (p1 : Int32) (post : (Int32 × Int32) → Prop) : Prop :=
    ∀ (A2 : Int32 → Int32 → Int32 → Prop) (A41 : Int32 → Int32 → Int32 → Prop) (A100 : Int32 → Int32 → Int32 → Prop) (A49 : Int32 → Int32 → Int32 → Int32 → Prop),
    (∀ (v2 : Int32) (wrM : Int32) (fuM : Int32), (vp_in 0 2 ∧ (((mpM (0 : Int32).toNatClampNeg) ≤ v2 → A41 0 wrM fuM) ∧ (¬ (mpM (0 : Int32).toNatClampNeg) ≤ v2 → (vp_in ((10 * p1) + v2) 200 ∧ (((mcM ((10 * p1) + v2).toNatClampNeg) = 0 → A2 (v2 + 1) wrM fuM) ∧ (¬ (mcM ((10 * p1) + v2).toNatClampNeg) = 0 → wp_X6_putTwo waM wrM fuM 1 p1 v2 (fun u => match u with | (wr_4, fu_5) => A2 (v2 + 1) wr_4 fu_5))))))) → A2 v2 wrM fuM) →
    (∀ (v2 : Int32) (wrM : Int32) (fuM : Int32), ((6 ≤ v2 → A100 0 wrM fuM) ∧ (¬ 6 ≤ v2 → A49 v2 0 wrM fuM)) → A41 v2 wrM fuM) →
    (∀ (v2 : Int32) (wrM : Int32) (fuM : Int32), ((8 ≤ v2 → (vp_in p1 20 ∧ (((mmM p1.toNatClampNeg) < 0 → (vp_in p1 20 ∧ (((mdM p1.toNatClampNeg) ≤ 0 → post (wrM, fuM)) ∧ (¬ (mdM p1.toNatClampNeg) ≤ 0 → (vp_in p1 20 ∧ wp_X6_putTwo waM wrM fuM 6 p1 (mdM p1.toNatClampNeg) (fun u => match u with | (wr_11, fu_12) => post (wr_11, fu_12))))))) ∧ (¬ (mmM p1.toNatClampNeg) < 0 → (vp_in p1 20 ∧ wp_X6_putTwo waM wrM fuM 5 p1 (mmM p1.toNatClampNeg) (fun u => match u with | (wr_14, fu_15) => (vp_in p1 20 ∧ (((mdM p1.toNatClampNeg) ≤ 0 → post (wr_14, fu_15)) ∧ (¬ (mdM p1.toNatClampNeg) ≤ 0 → (vp_in p1 20 ∧ wp_X6_putTwo waM wr_14 fu_15 6 p1 (mdM p1.toNatClampNeg) (fun u => match u with | (wr_18, fu_19) => post (wr_18, fu_19)))))))))))) ∧ (¬ 8 ≤ v2 → (vp_in ((8 * p1) + v2) 160 ∧ (((mhM ((8 * p1) + v2).toNatClampNeg) = 0 → A100 (v2 + 1) wrM fuM) ∧ (¬ (mhM ((8 * p1) + v2).toNatClampNeg) = 0 → wp_X6_putTwo waM wrM fuM 4 p1 v2 (fun u => match u with | (wr_22, fu_23) => A100 (v2 + 1) wr_22 fu_23)))))) → A100 v2 wrM fuM) →
    (∀ (v2 : Int32) (v3 : Int32) (wrM : Int32) (fuM : Int32), (vp_in 0 2 ∧ (((mpM (0 : Int32).toNatClampNeg) ≤ v3 → A41 (v2 + 1) wrM fuM) ∧ (¬ (mpM (0 : Int32).toNatClampNeg) ≤ v3 → wp_X6_wayAt 0 p1 v2 v3 (fun r_25 _ => (vp_in r_25 1200 ∧ (((mwM r_25.toNatClampNeg) = 0 → A49 v2 (v3 + 1) wrM fuM) ∧ (¬ (mwM r_25.toNatClampNeg) = 0 → wp_X6_putTwo waM wrM fuM 2 p1 v2 (fun u => match u with | (wr_28, fu_29) => wp_X6_putNumber waM wr_28 fu_29 v3 (fun u => match u with | (wr_31, fu_32) => A49 v2 (v3 + 1) wr_31 fu_32))))))))) → A49 v2 v3 wrM fuM) →
    A2 0 wrM fuM
set_option maxHeartbeats 4000000 in
set_option maxRecDepth 100000 in
theorem met_X6_putPart (l : Launch) (D : va_G) (cs : Nat → ClassId) (ev : Nat → Nat → Nat) (sz0 : Nat) (adM : Nat → Nat) (mpM : Nat → Int32) (mkM : Nat → Int32) (mgM : Nat → Int32) (mcM : Nat → Int32) (mwM : Nat → Int32) (mfM : Nat → Int32) (mtM : Nat → Int32) (mhM : Nat → Int32) (mmM : Nat → Int32) (mdM : Nat → Int32) (mxM : Nat → Int32) (mnM : Nat → Int32) (szM : Int32) (faM : Int32) (apM : Int32) (waM : Int32) (wrM : Int32) (fuM : Int32) (p1 : Int32) (post : (Int32 × Int32) → Prop) (h : wp_X6_putPart mpM mcM mwM mhM mmM mdM waM wrM fuM p1 post) : Met l yX6_putPart wsX6_putPart ({ frames := 3, cells := 0, slots := 0, locals := 70 }) (va_Pc [.ref (adM 0), .int p1] (mPre D cs ev (sh_M cs adM mpM mkM mgM mcM mwM mfM mtM mhM mmM mdM mxM mnM szM faM apM waM wrM fuM) sz0)) (va_Qv post (fun u t => match u with | (wrM', fuM') => mAt D cs (va_A (sh_M cs adM mpM mkM mgM mcM mwM mfM mtM mhM mmM mdM mxM mnM szM faM apM waM wrM fuM) sz0) (sh_M cs adM mpM mkM mgM mcM mwM mfM mtM mhM mmM mdM mxM mnM szM faM apM waM wrM' fuM') t) (va_A (sh_M cs adM mpM mkM mgM mcM mwM mfM mtM mhM mmM mdM mxM mnM szM faM apM waM wrM fuM) sz0)) 0 0 (va_A (sh_M cs adM mpM mkM mgM mcM mwM mfM mtM mhM mmM mdM mxM mnM szM faM apM waM wrM fuM) sz0) := by
  refine Met.ofW (cc := cX6_putPart) (maxL := 4) (ret := none) (by decide) rfl ?_
  intro p e s m args below meth c s₁ B hml hv
  obtain ⟨rfl, hsz, hP, hK, hD0, hE⟩ := hv
  have hx := B.exec
  have hb := B.bytes
  have hr := B.returns
  have hts := atoms_spec (ws := wsX6_putPart) B.pre
  have hown : s.vm.findClass RX6 = some m.cls := findClass_of_methodNamed B.named
  have hlocks := B.notSynchronized
  subst hsz
  have hD := hD0.self (sz := s.heap.size)
  generalize hAe : va_A (sh_M cs adM mpM mkM mgM mcM mwM mfM mtM mhM mmM mdM mxM mnM szM faM apM waM wrM fuM) s.heap.size = A at hD hE ⊢
  have hA : ∀ q : Nat, s.heap.size ≤ q → A q := fun q h => by rw [← hAe]; exact Or.inr h
  have hS : va_S A s.heap s.heap [] := va_S.rf
  have hl := lv_entry ([.ref (adM 0), .int p1]) (n := 4) (Nat.le_of_ble_eq_true rfl)
  rw [lg_entry_eq]
  generalize (lg_sl ([.ref (adM 0), .int p1]) ++ List.replicate (4 - (lg_sl ([.ref (adM 0), .int p1])).length) Slot.unset).toArray = ls at hl ⊢
  have hl : lv_has ls 4 [(0, .ref (adM 0)), (1, .int p1)] := hl
  obtain ⟨A2, hA2⟩ : ∃ Q : Int32 → Int32 → Int32 → Prop, Q = (fun v2 wrM fuM => ∀ (H : Heap) (locs : List Loc), va_P D vwCl (sh_M cs adM mpM mkM mgM mcM mwM mfM mtM mhM mmM mdM mxM mnM szM faM apM waM wrM fuM) H → va_D A (sh_M cs adM mpM mkM mgM mcM mwM mfM mtM mhM mmM mdM mxM mnM szM faM apM waM wrM fuM) → va_S A s.heap H locs → ∀ ls : Array Slot, lv_has ls 4 [(0, .ref (adM 0)), (1, .int p1), (2, .int v2)] → W p l e (headSpec wsX6_putPart ({ frames := 3, cells := 0, slots := 0, locals := 70 })).room s m ([.ref (adM 0), .int p1] : List Value).toArray below meth c H locs 0 0 (MQ below (va_Qv post (fun u t => match u with | (wrM', fuM') => mAt D cs (A) (sh_M cs adM mpM mkM mgM mcM mwM mfM mtM mhM mmM mdM mxM mnM szM faM apM waM wrM' fuM') t) A) ([.ref (adM 0), .int p1] : List Value).toArray s 0 0 A) (F0 m 2 ls [])) := ⟨_, rfl⟩
  obtain ⟨A41, hA41⟩ : ∃ Q : Int32 → Int32 → Int32 → Prop, Q = (fun v2 wrM fuM => ∀ (H : Heap) (locs : List Loc), va_P D vwCl (sh_M cs adM mpM mkM mgM mcM mwM mfM mtM mhM mmM mdM mxM mnM szM faM apM waM wrM fuM) H → va_D A (sh_M cs adM mpM mkM mgM mcM mwM mfM mtM mhM mmM mdM mxM mnM szM faM apM waM wrM fuM) → va_S A s.heap H locs → ∀ ls : Array Slot, lv_has ls 4 [(0, .ref (adM 0)), (1, .int p1), (2, .int v2)] → W p l e (headSpec wsX6_putPart ({ frames := 3, cells := 0, slots := 0, locals := 70 })).room s m ([.ref (adM 0), .int p1] : List Value).toArray below meth c H locs 0 0 (MQ below (va_Qv post (fun u t => match u with | (wrM', fuM') => mAt D cs (A) (sh_M cs adM mpM mkM mgM mcM mwM mfM mtM mhM mmM mdM mxM mnM szM faM apM waM wrM' fuM') t) A) ([.ref (adM 0), .int p1] : List Value).toArray s 0 0 A) (F0 m 41 ls [])) := ⟨_, rfl⟩
  obtain ⟨A100, hA100⟩ : ∃ Q : Int32 → Int32 → Int32 → Prop, Q = (fun v2 wrM fuM => ∀ (H : Heap) (locs : List Loc), va_P D vwCl (sh_M cs adM mpM mkM mgM mcM mwM mfM mtM mhM mmM mdM mxM mnM szM faM apM waM wrM fuM) H → va_D A (sh_M cs adM mpM mkM mgM mcM mwM mfM mtM mhM mmM mdM mxM mnM szM faM apM waM wrM fuM) → va_S A s.heap H locs → ∀ ls : Array Slot, lv_has ls 4 [(0, .ref (adM 0)), (1, .int p1), (2, .int v2)] → W p l e (headSpec wsX6_putPart ({ frames := 3, cells := 0, slots := 0, locals := 70 })).room s m ([.ref (adM 0), .int p1] : List Value).toArray below meth c H locs 0 0 (MQ below (va_Qv post (fun u t => match u with | (wrM', fuM') => mAt D cs (A) (sh_M cs adM mpM mkM mgM mcM mwM mfM mtM mhM mmM mdM mxM mnM szM faM apM waM wrM' fuM') t) A) ([.ref (adM 0), .int p1] : List Value).toArray s 0 0 A) (F0 m 100 ls [])) := ⟨_, rfl⟩
  obtain ⟨A49, hA49⟩ : ∃ Q : Int32 → Int32 → Int32 → Int32 → Prop, Q = (fun v2 v3 wrM fuM => ∀ (H : Heap) (locs : List Loc), va_P D vwCl (sh_M cs adM mpM mkM mgM mcM mwM mfM mtM mhM mmM mdM mxM mnM szM faM apM waM wrM fuM) H → va_D A (sh_M cs adM mpM mkM mgM mcM mwM mfM mtM mhM mmM mdM mxM mnM szM faM apM waM wrM fuM) → va_S A s.heap H locs → ∀ ls : Array Slot, lv_has ls 4 [(0, .ref (adM 0)), (1, .int p1), (2, .int v2), (3, .int v3)] → W p l e (headSpec wsX6_putPart ({ frames := 3, cells := 0, slots := 0, locals := 70 })).room s m ([.ref (adM 0), .int p1] : List Value).toArray below meth c H locs 0 0 (MQ below (va_Qv post (fun u t => match u with | (wrM', fuM') => mAt D cs (A) (sh_M cs adM mpM mkM mgM mcM mwM mfM mtM mhM mmM mdM mxM mnM szM faM apM waM wrM' fuM') t) A) ([.ref (adM 0), .int p1] : List Value).toArray s 0 0 A) (F0 m 49 ls [])) := ⟨_, rfl⟩
  have s2 : ∀ (v2 : Int32) (wrM : Int32) (fuM : Int32), (vp_in 0 2 ∧ (((mpM (0 : Int32).toNatClampNeg) ≤ v2 → A41 0 wrM fuM) ∧ (¬ (mpM (0 : Int32).toNatClampNeg) ≤ v2 → (vp_in ((10 * p1) + v2) 200 ∧ (((mcM ((10 * p1) + v2).toNatClampNeg) = 0 → A2 (v2 + 1) wrM fuM) ∧ (¬ (mcM ((10 * p1) + v2).toNatClampNeg) = 0 → wp_X6_putTwo waM wrM fuM 1 p1 v2 (fun u => match u with | (wr_4, fu_5) => A2 (v2 + 1) wr_4 fu_5))))))) → A2 v2 wrM fuM := by
    intro v2 wrM fuM h
    rw [hA2]
    intro H locs hP hD hS ls hl
    refine lv_iload_n hx hb dX6_putPart_2 rfl (lv_at hl 2 rfl) ?_
    refine lv_aload_n hx hb dX6_putPart_3 rfl (lv_at hl 0 rfl) ?_
    refine va_get (D := D) (ci := 5) (v := .ref (adM 1)) (C := RX6) (T := TX6) (N := 18) hx hb hts (by decide +kernel) hown hK hP 0 rfl rfl 0 (by decide) (hts (.fieldLink RX6 7 "PartGraphsModel" "parts" "[I") (by decide +kernel)) (fun _ h9 => h9) rfl dX6_putPart_4 ?_
    refine lv_iconst (v := 0) hx hb dX6_putPart_7 (by decide) ?_
    have hin := h.1
    have h := h.2
    refine va_iald (D := D) (cl := vwCl) hx hb hK hP 1 0 rfl rfl hin dX6_putPart_8 ?_
    refine lv_icmp_ge (tgt := 39) hx hb dX6_putPart_9 (by decide) (fun c_1 => ?_) (fun c_1 => ?_)
    · have h := h.1 c_1
      refine lv_iconst (v := 0) hx hb dX6_putPart_39 (by decide) ?_
      refine lv_istore_n (lv' := [(2, .int 0), (0, .ref (adM 0)), (1, .int p1)]) hx hb dX6_putPart_40 rfl hl (by decide) rfl (fun ls hl => ?_)
      rw [hA41] at h
      exact h _ _ hP hD hS ls (lv_sub hl [1, 2, 0] rfl)
    · have h := h.2 c_1
      refine lv_aload_n hx hb dX6_putPart_12 rfl (lv_at hl 0 rfl) ?_
      refine va_get (D := D) (ci := 5) (v := .ref (adM 4)) (C := RX6) (T := TX6) (N := 18) hx hb hts (by decide +kernel) hown hK hP 0 rfl rfl 3 (by decide) (hts (.fieldLink RX6 19 "PartGraphsModel" "covers" "[Z") (by decide +kernel)) (fun _ h9 => h9) rfl dX6_putPart_13 ?_
      refine lv_bipush (v := 10) hx hb dX6_putPart_16 (by decide) ?_
      refine lv_iload_n hx hb dX6_putPart_18 rfl (lv_at hl 1 rfl) ?_
      refine lv_imul hx hb dX6_putPart_19 ?_
      refine lv_iload_n hx hb dX6_putPart_20 rfl (lv_at hl 2 rfl) ?_
      refine lv_iadd hx hb dX6_putPart_21 ?_
      have hin := h.1
      have h := h.2
      refine va_zald (D := D) (cl := vwCl) hx hb hK hP 4 4 rfl rfl hin dX6_putPart_22 ?_
      refine lv_if_eq (tgt := 33) hx hb dX6_putPart_23 (by decide) (fun c_2 => ?_) (fun c_2 => ?_)
      · have h := h.1 c_2
        refine lv_iinc (v := v2 + 1) (lv' := [(2, .int (v2 + 1)), (0, .ref (adM 0)), (1, .int p1)]) hx hb dX6_putPart_33 hl (k := 2) rfl rfl (by decide) rfl (fun ls hl => ?_)
        refine lv_goto (tgt := 2) hx hb dX6_putPart_36 (by decide) ?_
        rw [hA2] at h
        exact h _ _ hP hD hS ls (lv_sub hl [1, 2, 0] rfl)
      · have h := h.2 c_2
        refine lv_aload_n hx hb dX6_putPart_26 rfl (lv_at hl 0 rfl) ?_
        refine lv_iconst (v := 1) hx hb dX6_putPart_27 (by decide) ?_
        refine lv_iload_n hx hb dX6_putPart_28 rfl (lv_at hl 1 rfl) ?_
        refine lv_iload_n hx hb dX6_putPart_29 rfl (lv_at hl 2 rfl) ?_
        have hFc := va_free (wc := (sh_M cs adM mpM mkM mgM mcM mwM mfM mtM mhM mmM mdM mxM mnM szM faM apM waM wrM fuM)) hD hS hA [0, 1, 2, 3, 4, 5, 6, 7, 8, 9, 10, 11, 12] rfl
        refine va_callv (va_runV (As := [.int 1, .int p1, .int v2]) (rest := []) ⟨hx, hb, hml, hown, hts⟩ (met_X6_putTwo l D cs ev _ adM mpM mkM mgM mcM mwM mfM mtM mhM mmM mdM mxM mnM szM faM apM waM wrM fuM 1 p1 v2 _ h) (cwV 3 hts gX6_putPart_X6_putTwo rfl rfl rfl (by decide +kernel) ⟨Nat.le_of_ble_eq_true rfl, Nat.le_of_ble_eq_true rfl⟩) (mPreV (va_recv hK hP (ci := 5) (q0 := 0) rfl rfl) hP hD hS hK hE hFc [0, 1, 2, 3, 4, 5, 6, 7, 8, 9, 10, 11, 12] (by decide) rfl) rfl rfl hl.1 rfl (lv_room (Nat.le_of_ble_eq_true rfl)) dX6_putPart_30 ⟨Nat.le_of_ble_eq_true rfl, Nat.le_of_ble_eq_true rfl⟩) hS (fun q _ h => hFc q h) hFc (fun u t H1 locs ht hvm hw hB hz1 hk1 hS => ?_)
        obtain ⟨wr_4, fu_5⟩ := u
        have h := hw
        obtain ⟨hP1, hK1, hD1⟩ := hB
        rw [ht] at hP1
        obtain ⟨hP, hD⟩ := mJoin (wr := ([] : va_W)) (w1 := (sh_M cs adM mpM mkM mgM mcM mwM mfM mtM mhM mmM mdM mxM mnM szM faM apM waM wr_4 fu_5)) (w' := (sh_M cs adM mpM mkM mgM mcM mwM mfM mtM mhM mmM mdM mxM mnM szM faM apM waM wr_4 fu_5)) hP hD [0, 1, 2, 3, 4, 5, 6, 7, 8, 9, 10, 11, 12] [] rfl rfl (by decide) (by decide) hk1 hFc hP1 hD1 [0, 1, 2, 3, 4, 5, 6, 7, 8, 9, 10, 11, 12] (by decide) rfl
        generalize H1 = H at hP hS ⊢
        refine lv_iinc (v := v2 + 1) (lv' := [(2, .int (v2 + 1)), (0, .ref (adM 0)), (1, .int p1)]) hx hb dX6_putPart_33 hl (k := 2) rfl rfl (by decide) rfl (fun ls hl => ?_)
        refine lv_goto (tgt := 2) hx hb dX6_putPart_36 (by decide) ?_
        rw [hA2] at h
        exact h _ _ hP hD hS ls (lv_sub hl [1, 2, 0] rfl)
  have s41 : ∀ (v2 : Int32) (wrM : Int32) (fuM : Int32), ((6 ≤ v2 → A100 0 wrM fuM) ∧ (¬ 6 ≤ v2 → A49 v2 0 wrM fuM)) → A41 v2 wrM fuM := by
    intro v2 wrM fuM h
    rw [hA41]
    intro H locs hP hD hS ls hl
    refine lv_iload_n hx hb dX6_putPart_41 rfl (lv_at hl 2 rfl) ?_
    refine lv_bipush (v := 6) hx hb dX6_putPart_42 (by decide) ?_
    refine lv_icmp_ge (tgt := 98) hx hb dX6_putPart_44 (by decide) (fun c_6 => ?_) (fun c_6 => ?_)
    · have h := h.1 c_6
      refine lv_iconst (v := 0) hx hb dX6_putPart_98 (by decide) ?_
      refine lv_istore_n (lv' := [(2, .int 0), (0, .ref (adM 0)), (1, .int p1)]) hx hb dX6_putPart_99 rfl hl (by decide) rfl (fun ls hl => ?_)
      rw [hA100] at h
      exact h _ _ hP hD hS ls (lv_sub hl [1, 2, 0] rfl)
    · have h := h.2 c_6
      refine lv_iconst (v := 0) hx hb dX6_putPart_47 (by decide) ?_
      refine lv_istore_n (lv' := [(3, .int 0), (0, .ref (adM 0)), (1, .int p1), (2, .int v2)]) hx hb dX6_putPart_48 rfl hl (by decide) rfl (fun ls hl => ?_)
      rw [hA49] at h
      exact h _ _ hP hD hS ls (lv_sub hl [1, 2, 3, 0] rfl)
  have s100 : ∀ (v2 : Int32) (wrM : Int32) (fuM : Int32), ((8 ≤ v2 → (vp_in p1 20 ∧ (((mmM p1.toNatClampNeg) < 0 → (vp_in p1 20 ∧ (((mdM p1.toNatClampNeg) ≤ 0 → post (wrM, fuM)) ∧ (¬ (mdM p1.toNatClampNeg) ≤ 0 → (vp_in p1 20 ∧ wp_X6_putTwo waM wrM fuM 6 p1 (mdM p1.toNatClampNeg) (fun u => match u with | (wr_11, fu_12) => post (wr_11, fu_12))))))) ∧ (¬ (mmM p1.toNatClampNeg) < 0 → (vp_in p1 20 ∧ wp_X6_putTwo waM wrM fuM 5 p1 (mmM p1.toNatClampNeg) (fun u => match u with | (wr_14, fu_15) => (vp_in p1 20 ∧ (((mdM p1.toNatClampNeg) ≤ 0 → post (wr_14, fu_15)) ∧ (¬ (mdM p1.toNatClampNeg) ≤ 0 → (vp_in p1 20 ∧ wp_X6_putTwo waM wr_14 fu_15 6 p1 (mdM p1.toNatClampNeg) (fun u => match u with | (wr_18, fu_19) => post (wr_18, fu_19)))))))))))) ∧ (¬ 8 ≤ v2 → (vp_in ((8 * p1) + v2) 160 ∧ (((mhM ((8 * p1) + v2).toNatClampNeg) = 0 → A100 (v2 + 1) wrM fuM) ∧ (¬ (mhM ((8 * p1) + v2).toNatClampNeg) = 0 → wp_X6_putTwo waM wrM fuM 4 p1 v2 (fun u => match u with | (wr_22, fu_23) => A100 (v2 + 1) wr_22 fu_23)))))) → A100 v2 wrM fuM := by
    intro v2 wrM fuM h
    rw [hA100]
    intro H locs hP hD hS ls hl
    refine lv_iload_n hx hb dX6_putPart_100 rfl (lv_at hl 2 rfl) ?_
    refine lv_bipush (v := 8) hx hb dX6_putPart_101 (by decide) ?_
    refine lv_icmp_ge (tgt := 133) hx hb dX6_putPart_103 (by decide) (fun c_7 => ?_) (fun c_7 => ?_)
    · have h := h.1 c_7
      refine lv_aload_n hx hb dX6_putPart_133 rfl (lv_at hl 0 rfl) ?_
      refine va_get (D := D) (ci := 5) (v := .ref (adM 9)) (C := RX6) (T := TX6) (N := 18) hx hb hts (by decide +kernel) hown hK hP 0 rfl rfl 8 (by decide) (hts (.fieldLink RX6 35 "PartGraphsModel" "families" "[I") (by decide +kernel)) (fun _ h9 => h9) rfl dX6_putPart_134 ?_
      refine lv_iload_n hx hb dX6_putPart_137 rfl (lv_at hl 1 rfl) ?_
      have hin := h.1
      have h := h.2
      refine va_iald (D := D) (cl := vwCl) hx hb hK hP 9 0 rfl rfl hin dX6_putPart_138 ?_
      refine lv_if_lt (tgt := 154) hx hb dX6_putPart_139 (by decide) (fun c_8 => ?_) (fun c_8 => ?_)
      · have h := h.1 c_8
        refine lv_aload_n hx hb dX6_putPart_154 rfl (lv_at hl 0 rfl) ?_
        refine va_get (D := D) (ci := 5) (v := .ref (adM 10)) (C := RX6) (T := TX6) (N := 18) hx hb hts (by decide +kernel) hown hK hP 0 rfl rfl 9 (by decide) (hts (.fieldLink RX6 38 "PartGraphsModel" "damages" "[I") (by decide +kernel)) (fun _ h9 => h9) rfl dX6_putPart_155 ?_
        refine lv_iload_n hx hb dX6_putPart_158 rfl (lv_at hl 1 rfl) ?_
        have hin := h.1
        have h := h.2
        refine va_iald (D := D) (cl := vwCl) hx hb hK hP 10 0 rfl rfl hin dX6_putPart_159 ?_
        refine lv_if_le (tgt := 176) hx hb dX6_putPart_160 (by decide) (fun c_9 => ?_) (fun c_9 => ?_)
        · have h := h.1 c_9
          exact W.vret hx hb hr (fun t ht hW => ⟨⟨(wrM, fuM), rfl, h, by rw [ht]; exact hP, va_K.moved hW.alike hK, hD⟩, hS.F ht⟩) hS.2.2 dX6_putPart_176
        · have h := h.2 c_9
          refine lv_aload_n hx hb dX6_putPart_163 rfl (lv_at hl 0 rfl) ?_
          refine lv_bipush (v := 6) hx hb dX6_putPart_164 (by decide) ?_
          refine lv_iload_n hx hb dX6_putPart_166 rfl (lv_at hl 1 rfl) ?_
          refine lv_aload_n hx hb dX6_putPart_167 rfl (lv_at hl 0 rfl) ?_
          refine va_get (D := D) (ci := 5) (v := .ref (adM 10)) (C := RX6) (T := TX6) (N := 18) hx hb hts (by decide +kernel) hown hK hP 0 rfl rfl 9 (by decide) (hts (.fieldLink RX6 38 "PartGraphsModel" "damages" "[I") (by decide +kernel)) (fun _ h9 => h9) rfl dX6_putPart_168 ?_
          refine lv_iload_n hx hb dX6_putPart_171 rfl (lv_at hl 1 rfl) ?_
          have hin := h.1
          have h := h.2
          refine va_iald (D := D) (cl := vwCl) hx hb hK hP 10 0 rfl rfl hin dX6_putPart_172 ?_
          have hFc := va_free (wc := (sh_M cs adM mpM mkM mgM mcM mwM mfM mtM mhM mmM mdM mxM mnM szM faM apM waM wrM fuM)) hD hS hA [0, 1, 2, 3, 4, 5, 6, 7, 8, 9, 10, 11, 12] rfl
          refine va_callv (va_runV (As := [.int 6, .int p1, .int (mdM p1.toNatClampNeg)]) (rest := []) ⟨hx, hb, hml, hown, hts⟩ (met_X6_putTwo l D cs ev _ adM mpM mkM mgM mcM mwM mfM mtM mhM mmM mdM mxM mnM szM faM apM waM wrM fuM 6 p1 (mdM p1.toNatClampNeg) _ h) (cwV 3 hts gX6_putPart_X6_putTwo rfl rfl rfl (by decide +kernel) ⟨Nat.le_of_ble_eq_true rfl, Nat.le_of_ble_eq_true rfl⟩) (mPreV (va_recv hK hP (ci := 5) (q0 := 0) rfl rfl) hP hD hS hK hE hFc [0, 1, 2, 3, 4, 5, 6, 7, 8, 9, 10, 11, 12] (by decide) rfl) rfl rfl hl.1 rfl (lv_room (Nat.le_of_ble_eq_true rfl)) dX6_putPart_173 ⟨Nat.le_of_ble_eq_true rfl, Nat.le_of_ble_eq_true rfl⟩) hS (fun q _ h => hFc q h) hFc (fun u t H1 locs ht hvm hw hB hz1 hk1 hS => ?_)
          obtain ⟨wr_11, fu_12⟩ := u
          have h := hw
          obtain ⟨hP1, hK1, hD1⟩ := hB
          rw [ht] at hP1
          obtain ⟨hP, hD⟩ := mJoin (wr := ([] : va_W)) (w1 := (sh_M cs adM mpM mkM mgM mcM mwM mfM mtM mhM mmM mdM mxM mnM szM faM apM waM wr_11 fu_12)) (w' := (sh_M cs adM mpM mkM mgM mcM mwM mfM mtM mhM mmM mdM mxM mnM szM faM apM waM wr_11 fu_12)) hP hD [0, 1, 2, 3, 4, 5, 6, 7, 8, 9, 10, 11, 12] [] rfl rfl (by decide) (by decide) hk1 hFc hP1 hD1 [0, 1, 2, 3, 4, 5, 6, 7, 8, 9, 10, 11, 12] (by decide) rfl
          generalize H1 = H at hP hS ⊢
          exact W.vret hx hb hr (fun t ht hW => ⟨⟨(wr_11, fu_12), rfl, h, by rw [ht]; exact hP, va_K.moved hW.alike hK, hD⟩, hS.F ht⟩) hS.2.2 dX6_putPart_176
      · have h := h.2 c_8
        refine lv_aload_n hx hb dX6_putPart_142 rfl (lv_at hl 0 rfl) ?_
        refine lv_iconst (v := 5) hx hb dX6_putPart_143 (by decide) ?_
        refine lv_iload_n hx hb dX6_putPart_144 rfl (lv_at hl 1 rfl) ?_
        refine lv_aload_n hx hb dX6_putPart_145 rfl (lv_at hl 0 rfl) ?_
        refine va_get (D := D) (ci := 5) (v := .ref (adM 9)) (C := RX6) (T := TX6) (N := 18) hx hb hts (by decide +kernel) hown hK hP 0 rfl rfl 8 (by decide) (hts (.fieldLink RX6 35 "PartGraphsModel" "families" "[I") (by decide +kernel)) (fun _ h9 => h9) rfl dX6_putPart_146 ?_
        refine lv_iload_n hx hb dX6_putPart_149 rfl (lv_at hl 1 rfl) ?_
        have hin := h.1
        have h := h.2
        refine va_iald (D := D) (cl := vwCl) hx hb hK hP 9 0 rfl rfl hin dX6_putPart_150 ?_
        have hFc := va_free (wc := (sh_M cs adM mpM mkM mgM mcM mwM mfM mtM mhM mmM mdM mxM mnM szM faM apM waM wrM fuM)) hD hS hA [0, 1, 2, 3, 4, 5, 6, 7, 8, 9, 10, 11, 12] rfl
        refine va_callv (va_runV (As := [.int 5, .int p1, .int (mmM p1.toNatClampNeg)]) (rest := []) ⟨hx, hb, hml, hown, hts⟩ (met_X6_putTwo l D cs ev _ adM mpM mkM mgM mcM mwM mfM mtM mhM mmM mdM mxM mnM szM faM apM waM wrM fuM 5 p1 (mmM p1.toNatClampNeg) _ h) (cwV 3 hts gX6_putPart_X6_putTwo rfl rfl rfl (by decide +kernel) ⟨Nat.le_of_ble_eq_true rfl, Nat.le_of_ble_eq_true rfl⟩) (mPreV (va_recv hK hP (ci := 5) (q0 := 0) rfl rfl) hP hD hS hK hE hFc [0, 1, 2, 3, 4, 5, 6, 7, 8, 9, 10, 11, 12] (by decide) rfl) rfl rfl hl.1 rfl (lv_room (Nat.le_of_ble_eq_true rfl)) dX6_putPart_151 ⟨Nat.le_of_ble_eq_true rfl, Nat.le_of_ble_eq_true rfl⟩) hS (fun q _ h => hFc q h) hFc (fun u t H1 locs ht hvm hw hB hz1 hk1 hS => ?_)
        obtain ⟨wr_14, fu_15⟩ := u
        have h := hw
        obtain ⟨hP1, hK1, hD1⟩ := hB
        rw [ht] at hP1
        obtain ⟨hP, hD⟩ := mJoin (wr := ([] : va_W)) (w1 := (sh_M cs adM mpM mkM mgM mcM mwM mfM mtM mhM mmM mdM mxM mnM szM faM apM waM wr_14 fu_15)) (w' := (sh_M cs adM mpM mkM mgM mcM mwM mfM mtM mhM mmM mdM mxM mnM szM faM apM waM wr_14 fu_15)) hP hD [0, 1, 2, 3, 4, 5, 6, 7, 8, 9, 10, 11, 12] [] rfl rfl (by decide) (by decide) hk1 hFc hP1 hD1 [0, 1, 2, 3, 4, 5, 6, 7, 8, 9, 10, 11, 12] (by decide) rfl
        generalize H1 = H at hP hS ⊢
        refine lv_aload_n hx hb dX6_putPart_154 rfl (lv_at hl 0 rfl) ?_
        refine va_get (D := D) (ci := 5) (v := .ref (adM 10)) (C := RX6) (T := TX6) (N := 18) hx hb hts (by decide +kernel) hown hK hP 0 rfl rfl 9 (by decide) (hts (.fieldLink RX6 38 "PartGraphsModel" "damages" "[I") (by decide +kernel)) (fun _ h9 => h9) rfl dX6_putPart_155 ?_
        refine lv_iload_n hx hb dX6_putPart_158 rfl (lv_at hl 1 rfl) ?_
        have hin := h.1
        have h := h.2
        refine va_iald (D := D) (cl := vwCl) hx hb hK hP 10 0 rfl rfl hin dX6_putPart_159 ?_
        refine lv_if_le (tgt := 176) hx hb dX6_putPart_160 (by decide) (fun c_16 => ?_) (fun c_16 => ?_)
        · have h := h.1 c_16
          exact W.vret hx hb hr (fun t ht hW => ⟨⟨(wr_14, fu_15), rfl, h, by rw [ht]; exact hP, va_K.moved hW.alike hK, hD⟩, hS.F ht⟩) hS.2.2 dX6_putPart_176
        · have h := h.2 c_16
          refine lv_aload_n hx hb dX6_putPart_163 rfl (lv_at hl 0 rfl) ?_
          refine lv_bipush (v := 6) hx hb dX6_putPart_164 (by decide) ?_
          refine lv_iload_n hx hb dX6_putPart_166 rfl (lv_at hl 1 rfl) ?_
          refine lv_aload_n hx hb dX6_putPart_167 rfl (lv_at hl 0 rfl) ?_
          refine va_get (D := D) (ci := 5) (v := .ref (adM 10)) (C := RX6) (T := TX6) (N := 18) hx hb hts (by decide +kernel) hown hK hP 0 rfl rfl 9 (by decide) (hts (.fieldLink RX6 38 "PartGraphsModel" "damages" "[I") (by decide +kernel)) (fun _ h9 => h9) rfl dX6_putPart_168 ?_
          refine lv_iload_n hx hb dX6_putPart_171 rfl (lv_at hl 1 rfl) ?_
          have hin := h.1
          have h := h.2
          refine va_iald (D := D) (cl := vwCl) hx hb hK hP 10 0 rfl rfl hin dX6_putPart_172 ?_
          have hFc := va_free (wc := (sh_M cs adM mpM mkM mgM mcM mwM mfM mtM mhM mmM mdM mxM mnM szM faM apM waM wr_14 fu_15)) hD hS hA [0, 1, 2, 3, 4, 5, 6, 7, 8, 9, 10, 11, 12] rfl
          refine va_callv (va_runV (As := [.int 6, .int p1, .int (mdM p1.toNatClampNeg)]) (rest := []) ⟨hx, hb, hml, hown, hts⟩ (met_X6_putTwo l D cs ev _ adM mpM mkM mgM mcM mwM mfM mtM mhM mmM mdM mxM mnM szM faM apM waM wr_14 fu_15 6 p1 (mdM p1.toNatClampNeg) _ h) (cwV 3 hts gX6_putPart_X6_putTwo rfl rfl rfl (by decide +kernel) ⟨Nat.le_of_ble_eq_true rfl, Nat.le_of_ble_eq_true rfl⟩) (mPreV (va_recv hK hP (ci := 5) (q0 := 0) rfl rfl) hP hD hS hK hE hFc [0, 1, 2, 3, 4, 5, 6, 7, 8, 9, 10, 11, 12] (by decide) rfl) rfl rfl hl.1 rfl (lv_room (Nat.le_of_ble_eq_true rfl)) dX6_putPart_173 ⟨Nat.le_of_ble_eq_true rfl, Nat.le_of_ble_eq_true rfl⟩) hS (fun q _ h => hFc q h) hFc (fun u t H1 locs ht hvm hw hB hz1 hk1 hS => ?_)
          obtain ⟨wr_18, fu_19⟩ := u
          have h := hw
          obtain ⟨hP1, hK1, hD1⟩ := hB
          rw [ht] at hP1
          obtain ⟨hP, hD⟩ := mJoin (wr := ([] : va_W)) (w1 := (sh_M cs adM mpM mkM mgM mcM mwM mfM mtM mhM mmM mdM mxM mnM szM faM apM waM wr_18 fu_19)) (w' := (sh_M cs adM mpM mkM mgM mcM mwM mfM mtM mhM mmM mdM mxM mnM szM faM apM waM wr_18 fu_19)) hP hD [0, 1, 2, 3, 4, 5, 6, 7, 8, 9, 10, 11, 12] [] rfl rfl (by decide) (by decide) hk1 hFc hP1 hD1 [0, 1, 2, 3, 4, 5, 6, 7, 8, 9, 10, 11, 12] (by decide) rfl
          generalize H1 = H at hP hS ⊢
          exact W.vret hx hb hr (fun t ht hW => ⟨⟨(wr_18, fu_19), rfl, h, by rw [ht]; exact hP, va_K.moved hW.alike hK, hD⟩, hS.F ht⟩) hS.2.2 dX6_putPart_176
    · have h := h.2 c_7
      refine lv_aload_n hx hb dX6_putPart_106 rfl (lv_at hl 0 rfl) ?_
      refine va_get (D := D) (ci := 5) (v := .ref (adM 8)) (C := RX6) (T := TX6) (N := 18) hx hb hts (by decide +kernel) hown hK hP 0 rfl rfl 7 (by decide) (hts (.fieldLink RX6 32 "PartGraphsModel" "hazards" "[Z") (by decide +kernel)) (fun _ h9 => h9) rfl dX6_putPart_107 ?_
      refine lv_bipush (v := 8) hx hb dX6_putPart_110 (by decide) ?_
      refine lv_iload_n hx hb dX6_putPart_112 rfl (lv_at hl 1 rfl) ?_
      refine lv_imul hx hb dX6_putPart_113 ?_
      refine lv_iload_n hx hb dX6_putPart_114 rfl (lv_at hl 2 rfl) ?_
      refine lv_iadd hx hb dX6_putPart_115 ?_
      have hin := h.1
      have h := h.2
      refine va_zald (D := D) (cl := vwCl) hx hb hK hP 8 4 rfl rfl hin dX6_putPart_116 ?_
      refine lv_if_eq (tgt := 127) hx hb dX6_putPart_117 (by decide) (fun c_20 => ?_) (fun c_20 => ?_)
      · have h := h.1 c_20
        refine lv_iinc (v := v2 + 1) (lv' := [(2, .int (v2 + 1)), (0, .ref (adM 0)), (1, .int p1)]) hx hb dX6_putPart_127 hl (k := 2) rfl rfl (by decide) rfl (fun ls hl => ?_)
        refine lv_goto (tgt := 100) hx hb dX6_putPart_130 (by decide) ?_
        rw [hA100] at h
        exact h _ _ hP hD hS ls (lv_sub hl [1, 2, 0] rfl)
      · have h := h.2 c_20
        refine lv_aload_n hx hb dX6_putPart_120 rfl (lv_at hl 0 rfl) ?_
        refine lv_iconst (v := 4) hx hb dX6_putPart_121 (by decide) ?_
        refine lv_iload_n hx hb dX6_putPart_122 rfl (lv_at hl 1 rfl) ?_
        refine lv_iload_n hx hb dX6_putPart_123 rfl (lv_at hl 2 rfl) ?_
        have hFc := va_free (wc := (sh_M cs adM mpM mkM mgM mcM mwM mfM mtM mhM mmM mdM mxM mnM szM faM apM waM wrM fuM)) hD hS hA [0, 1, 2, 3, 4, 5, 6, 7, 8, 9, 10, 11, 12] rfl
        refine va_callv (va_runV (As := [.int 4, .int p1, .int v2]) (rest := []) ⟨hx, hb, hml, hown, hts⟩ (met_X6_putTwo l D cs ev _ adM mpM mkM mgM mcM mwM mfM mtM mhM mmM mdM mxM mnM szM faM apM waM wrM fuM 4 p1 v2 _ h) (cwV 3 hts gX6_putPart_X6_putTwo rfl rfl rfl (by decide +kernel) ⟨Nat.le_of_ble_eq_true rfl, Nat.le_of_ble_eq_true rfl⟩) (mPreV (va_recv hK hP (ci := 5) (q0 := 0) rfl rfl) hP hD hS hK hE hFc [0, 1, 2, 3, 4, 5, 6, 7, 8, 9, 10, 11, 12] (by decide) rfl) rfl rfl hl.1 rfl (lv_room (Nat.le_of_ble_eq_true rfl)) dX6_putPart_124 ⟨Nat.le_of_ble_eq_true rfl, Nat.le_of_ble_eq_true rfl⟩) hS (fun q _ h => hFc q h) hFc (fun u t H1 locs ht hvm hw hB hz1 hk1 hS => ?_)
        obtain ⟨wr_22, fu_23⟩ := u
        have h := hw
        obtain ⟨hP1, hK1, hD1⟩ := hB
        rw [ht] at hP1
        obtain ⟨hP, hD⟩ := mJoin (wr := ([] : va_W)) (w1 := (sh_M cs adM mpM mkM mgM mcM mwM mfM mtM mhM mmM mdM mxM mnM szM faM apM waM wr_22 fu_23)) (w' := (sh_M cs adM mpM mkM mgM mcM mwM mfM mtM mhM mmM mdM mxM mnM szM faM apM waM wr_22 fu_23)) hP hD [0, 1, 2, 3, 4, 5, 6, 7, 8, 9, 10, 11, 12] [] rfl rfl (by decide) (by decide) hk1 hFc hP1 hD1 [0, 1, 2, 3, 4, 5, 6, 7, 8, 9, 10, 11, 12] (by decide) rfl
        generalize H1 = H at hP hS ⊢
        refine lv_iinc (v := v2 + 1) (lv' := [(2, .int (v2 + 1)), (0, .ref (adM 0)), (1, .int p1)]) hx hb dX6_putPart_127 hl (k := 2) rfl rfl (by decide) rfl (fun ls hl => ?_)
        refine lv_goto (tgt := 100) hx hb dX6_putPart_130 (by decide) ?_
        rw [hA100] at h
        exact h _ _ hP hD hS ls (lv_sub hl [1, 2, 0] rfl)
  have s49 : ∀ (v2 : Int32) (v3 : Int32) (wrM : Int32) (fuM : Int32), (vp_in 0 2 ∧ (((mpM (0 : Int32).toNatClampNeg) ≤ v3 → A41 (v2 + 1) wrM fuM) ∧ (¬ (mpM (0 : Int32).toNatClampNeg) ≤ v3 → wp_X6_wayAt 0 p1 v2 v3 (fun r_25 _ => (vp_in r_25 1200 ∧ (((mwM r_25.toNatClampNeg) = 0 → A49 v2 (v3 + 1) wrM fuM) ∧ (¬ (mwM r_25.toNatClampNeg) = 0 → wp_X6_putTwo waM wrM fuM 2 p1 v2 (fun u => match u with | (wr_28, fu_29) => wp_X6_putNumber waM wr_28 fu_29 v3 (fun u => match u with | (wr_31, fu_32) => A49 v2 (v3 + 1) wr_31 fu_32))))))))) → A49 v2 v3 wrM fuM := by
    intro v2 v3 wrM fuM h
    rw [hA49]
    intro H locs hP hD hS ls hl
    refine lv_iload_n hx hb dX6_putPart_49 rfl (lv_at hl 3 rfl) ?_
    refine lv_aload_n hx hb dX6_putPart_50 rfl (lv_at hl 0 rfl) ?_
    refine va_get (D := D) (ci := 5) (v := .ref (adM 1)) (C := RX6) (T := TX6) (N := 18) hx hb hts (by decide +kernel) hown hK hP 0 rfl rfl 0 (by decide) (hts (.fieldLink RX6 7 "PartGraphsModel" "parts" "[I") (by decide +kernel)) (fun _ h9 => h9) rfl dX6_putPart_51 ?_
    refine lv_iconst (v := 0) hx hb dX6_putPart_54 (by decide) ?_
    have hin := h.1
    have h := h.2
    refine va_iald (D := D) (cl := vwCl) hx hb hK hP 1 0 rfl rfl hin dX6_putPart_55 ?_
    refine lv_icmp_ge (tgt := 92) hx hb dX6_putPart_56 (by decide) (fun c_24 => ?_) (fun c_24 => ?_)
    · have h := h.1 c_24
      refine lv_iinc (v := v2 + 1) (lv' := [(2, .int (v2 + 1)), (0, .ref (adM 0)), (1, .int p1), (3, .int v3)]) hx hb dX6_putPart_92 hl (k := 2) rfl rfl (by decide) rfl (fun ls hl => ?_)
      refine lv_goto (tgt := 41) hx hb dX6_putPart_95 (by decide) ?_
      rw [hA41] at h
      exact h _ _ hP hD hS ls (lv_sub hl [1, 2, 0] rfl)
    · have h := h.2 c_24
      refine lv_aload_n hx hb dX6_putPart_59 rfl (lv_at hl 0 rfl) ?_
      refine va_get (D := D) (ci := 5) (v := .ref (adM 5)) (C := RX6) (T := TX6) (N := 18) hx hb hts (by decide +kernel) hown hK hP 0 rfl rfl 4 (by decide) (hts (.fieldLink RX6 23 "PartGraphsModel" "ways" "[Z") (by decide +kernel)) (fun _ h9 => h9) rfl dX6_putPart_60 ?_
      refine lv_iconst (v := 0) hx hb dX6_putPart_63 (by decide) ?_
      refine lv_iload_n hx hb dX6_putPart_64 rfl (lv_at hl 1 rfl) ?_
      refine lv_iload_n hx hb dX6_putPart_65 rfl (lv_at hl 2 rfl) ?_
      refine lv_iload_n hx hb dX6_putPart_66 rfl (lv_at hl 3 rfl) ?_
      have hFc := va_free (wc := ([] : va_W)) hD hS hA [] rfl
      refine va_calli (va_runS (As := [.int 0, .int p1, .int v2, .int v3]) (rest := [.ref (adM 5)]) ⟨hx, hb, hml, hown, hts⟩ (met_X6_wayAt l D cs ev _ 0 p1 v2 v3 _ h) (va_cwS 4 hts gX6_putPart_X6_wayAt rfl rfl rfl (by decide +kernel) ⟨Nat.le_of_ble_eq_true rfl, Nat.le_of_ble_eq_true rfl⟩) (mPreS hP hD hS hK hE hFc [] (by decide) rfl) rfl rfl hl.1 rfl (lv_room (Nat.le_of_ble_eq_true rfl)) dX6_putPart_67 ⟨Nat.le_of_ble_eq_true rfl, Nat.le_of_ble_eq_true rfl⟩) hS (fun q _ h => hFc q h) hFc (fun r_25 u t H1 locs ht hvm hw hB hz1 hk1 hS => ?_)
      have h := hw
      obtain ⟨hP1, hK1, hD1⟩ := hB
      rw [ht] at hP1
      obtain ⟨hP, hD⟩ := mJoin (wr := (sh_M cs adM mpM mkM mgM mcM mwM mfM mtM mhM mmM mdM mxM mnM szM faM apM waM wrM fuM)) (w1 := ([] : va_W)) (w' := (sh_M cs adM mpM mkM mgM mcM mwM mfM mtM mhM mmM mdM mxM mnM szM faM apM waM wrM fuM)) hP hD [] [0, 1, 2, 3, 4, 5, 6, 7, 8, 9, 10, 11, 12] rfl rfl (by decide) (by decide) hk1 hFc hP1 hD1 [0, 1, 2, 3, 4, 5, 6, 7, 8, 9, 10, 11, 12] (by decide) rfl
      generalize H1 = H at hP hS ⊢
      have hin := h.1
      have h := h.2
      refine va_zald (D := D) (cl := vwCl) hx hb hK hP 5 4 rfl rfl hin dX6_putPart_70 ?_
      refine lv_if_eq (tgt := 86) hx hb dX6_putPart_71 (by decide) (fun c_26 => ?_) (fun c_26 => ?_)
      · have h := h.1 c_26
        refine lv_iinc (v := v3 + 1) (lv' := [(3, .int (v3 + 1)), (0, .ref (adM 0)), (1, .int p1), (2, .int v2)]) hx hb dX6_putPart_86 hl (k := 3) rfl rfl (by decide) rfl (fun ls hl => ?_)
        refine lv_goto (tgt := 49) hx hb dX6_putPart_89 (by decide) ?_
        rw [hA49] at h
        exact h _ _ hP hD hS ls (lv_sub hl [1, 2, 3, 0] rfl)
      · have h := h.2 c_26
        refine lv_aload_n hx hb dX6_putPart_74 rfl (lv_at hl 0 rfl) ?_
        refine lv_iconst (v := 2) hx hb dX6_putPart_75 (by decide) ?_
        refine lv_iload_n hx hb dX6_putPart_76 rfl (lv_at hl 1 rfl) ?_
        refine lv_iload_n hx hb dX6_putPart_77 rfl (lv_at hl 2 rfl) ?_
        have hFc := va_free (wc := (sh_M cs adM mpM mkM mgM mcM mwM mfM mtM mhM mmM mdM mxM mnM szM faM apM waM wrM fuM)) hD hS hA [0, 1, 2, 3, 4, 5, 6, 7, 8, 9, 10, 11, 12] rfl
        refine va_callv (va_runV (As := [.int 2, .int p1, .int v2]) (rest := []) ⟨hx, hb, hml, hown, hts⟩ (met_X6_putTwo l D cs ev _ adM mpM mkM mgM mcM mwM mfM mtM mhM mmM mdM mxM mnM szM faM apM waM wrM fuM 2 p1 v2 _ h) (cwV 3 hts gX6_putPart_X6_putTwo rfl rfl rfl (by decide +kernel) ⟨Nat.le_of_ble_eq_true rfl, Nat.le_of_ble_eq_true rfl⟩) (mPreV (va_recv hK hP (ci := 5) (q0 := 0) rfl rfl) hP hD hS hK hE hFc [0, 1, 2, 3, 4, 5, 6, 7, 8, 9, 10, 11, 12] (by decide) rfl) rfl rfl hl.1 rfl (lv_room (Nat.le_of_ble_eq_true rfl)) dX6_putPart_78 ⟨Nat.le_of_ble_eq_true rfl, Nat.le_of_ble_eq_true rfl⟩) hS (fun q _ h => hFc q h) hFc (fun u t H1 locs ht hvm hw hB hz1 hk1 hS => ?_)
        obtain ⟨wr_28, fu_29⟩ := u
        have h := hw
        obtain ⟨hP1, hK1, hD1⟩ := hB
        rw [ht] at hP1
        obtain ⟨hP, hD⟩ := mJoin (wr := ([] : va_W)) (w1 := (sh_M cs adM mpM mkM mgM mcM mwM mfM mtM mhM mmM mdM mxM mnM szM faM apM waM wr_28 fu_29)) (w' := (sh_M cs adM mpM mkM mgM mcM mwM mfM mtM mhM mmM mdM mxM mnM szM faM apM waM wr_28 fu_29)) hP hD [0, 1, 2, 3, 4, 5, 6, 7, 8, 9, 10, 11, 12] [] rfl rfl (by decide) (by decide) hk1 hFc hP1 hD1 [0, 1, 2, 3, 4, 5, 6, 7, 8, 9, 10, 11, 12] (by decide) rfl
        generalize H1 = H at hP hS ⊢
        refine lv_aload_n hx hb dX6_putPart_81 rfl (lv_at hl 0 rfl) ?_
        refine lv_iload_n hx hb dX6_putPart_82 rfl (lv_at hl 3 rfl) ?_
        have hFc := va_free (wc := (sh_M cs adM mpM mkM mgM mcM mwM mfM mtM mhM mmM mdM mxM mnM szM faM apM waM wr_28 fu_29)) hD hS hA [0, 1, 2, 3, 4, 5, 6, 7, 8, 9, 10, 11, 12] rfl
        refine va_callv (va_runV (As := [.int v3]) (rest := []) ⟨hx, hb, hml, hown, hts⟩ (met_X6_putNumber l D cs ev _ adM mpM mkM mgM mcM mwM mfM mtM mhM mmM mdM mxM mnM szM faM apM waM wr_28 fu_29 v3 _ h) (cwV 1 hts gX6_putPart_X6_putNumber rfl rfl rfl (by decide +kernel) ⟨Nat.le_of_ble_eq_true rfl, Nat.le_of_ble_eq_true rfl⟩) (mPreV (va_recv hK hP (ci := 5) (q0 := 0) rfl rfl) hP hD hS hK hE hFc [0, 1, 2, 3, 4, 5, 6, 7, 8, 9, 10, 11, 12] (by decide) rfl) rfl rfl hl.1 rfl (lv_room (Nat.le_of_ble_eq_true rfl)) dX6_putPart_83 ⟨Nat.le_of_ble_eq_true rfl, Nat.le_of_ble_eq_true rfl⟩) hS (fun q _ h => hFc q h) hFc (fun u t H1 locs ht hvm hw hB hz1 hk1 hS => ?_)
        obtain ⟨wr_31, fu_32⟩ := u
        have h := hw
        obtain ⟨hP1, hK1, hD1⟩ := hB
        rw [ht] at hP1
        obtain ⟨hP, hD⟩ := mJoin (wr := ([] : va_W)) (w1 := (sh_M cs adM mpM mkM mgM mcM mwM mfM mtM mhM mmM mdM mxM mnM szM faM apM waM wr_31 fu_32)) (w' := (sh_M cs adM mpM mkM mgM mcM mwM mfM mtM mhM mmM mdM mxM mnM szM faM apM waM wr_31 fu_32)) hP hD [0, 1, 2, 3, 4, 5, 6, 7, 8, 9, 10, 11, 12] [] rfl rfl (by decide) (by decide) hk1 hFc hP1 hD1 [0, 1, 2, 3, 4, 5, 6, 7, 8, 9, 10, 11, 12] (by decide) rfl
        generalize H1 = H at hP hS ⊢
        refine lv_iinc (v := v3 + 1) (lv' := [(3, .int (v3 + 1)), (0, .ref (adM 0)), (1, .int p1), (2, .int v2)]) hx hb dX6_putPart_86 hl (k := 3) rfl rfl (by decide) rfl (fun ls hl => ?_)
        refine lv_goto (tgt := 49) hx hb dX6_putPart_89 (by decide) ?_
        rw [hA49] at h
        exact h _ _ hP hD hS ls (lv_sub hl [1, 2, 3, 0] rfl)
  have h := h A2 A41 A100 A49 s2 s41 s100 s49
  refine lv_iconst (v := 0) hx hb dX6_putPart_0 (by decide) ?_
  refine lv_istore_n (lv' := [(2, .int 0), (0, .ref (adM 0)), (1, .int p1)]) hx hb dX6_putPart_1 rfl hl (by decide) rfl (fun ls hl => ?_)
  rw [hA2] at h
  exact h _ _ hP hD hS ls (lv_sub hl [1, 2, 0] rfl)
def wp_X6_write (mpM : Nat → Int32) (mkM : Nat → Int32) (mgM : Nat → Int32) (mcM : Nat → Int32) (mwM : Nat → Int32) (mfM : Nat → Int32) (mtM : Nat → Int32) (mhM : Nat → Int32) (mmM : Nat → Int32) (mdM : Nat → Int32) (faM : Int32) (waM : Int32) (wrM : Int32) (fuM : Int32) (p1 : Int32) (post : Int32 → (Int32 × Int32 × Int32 × Int32) → Prop) : Prop :=
    ∀ (A22 : Int32 → Int32 → Int32 → Int32 → Int32 → Prop) (A57 : Int32 → Int32 → Int32 → Int32 → Int32 → Prop) (A80 : Int32 → Int32 → Int32 → Int32 → Int32 → Prop),
    (∀ (v2 : Int32) (faM : Int32) (waM : Int32) (wrM : Int32) (fuM : Int32), (vp_in 0 2 ∧ (((mpM (0 : Int32).toNatClampNeg) ≤ v2 → A57 0 faM waM wrM fuM) ∧ (¬ (mpM (0 : Int32).toNatClampNeg) ≤ v2 → (vp_in v2 20 ∧ (vp_in v2 20 ∧ wp_X6_putTwo waM wrM fuM 0 (mkM v2.toNatClampNeg) (mgM v2.toNatClampNeg) (fun u => match u with | (wr_3, fu_4) => A22 (v2 + 1) faM waM wr_3 fu_4)))))) → A22 v2 faM waM wrM fuM) →
    (∀ (v2 : Int32) (faM : Int32) (waM : Int32) (wrM : Int32) (fuM : Int32), (vp_in 0 2 ∧ (((mpM (0 : Int32).toNatClampNeg) ≤ v2 → A80 0 faM waM wrM fuM) ∧ (¬ (mpM (0 : Int32).toNatClampNeg) ≤ v2 → wp_X6_putPart mpM mcM mwM mhM mmM mdM waM wrM fuM v2 (fun u => match u with | (wr_7, fu_8) => A57 (v2 + 1) faM waM wr_7 fu_8)))) → A57 v2 faM waM wrM fuM) →
    (∀ (v2 : Int32) (faM : Int32) (waM : Int32) (wrM : Int32) (fuM : Int32), (vp_in 0 2 ∧ (((mfM (0 : Int32).toNatClampNeg) ≤ v2 → post fuM (faM, waM, wrM, fuM)) ∧ (¬ (mfM (0 : Int32).toNatClampNeg) ≤ v2 → (vp_in (3 * v2) 120 ∧ (vp_in ((3 * v2) + 1) 120 ∧ wp_X6_putTwo waM wrM fuM 3 (mtM (3 * v2).toNatClampNeg) (mtM ((3 * v2) + 1).toNatClampNeg) (fun u => match u with | (wr_11, fu_12) => (vp_in ((3 * v2) + 2) 120 ∧ wp_X6_putNumber waM wr_11 fu_12 (mtM ((3 * v2) + 2).toNatClampNeg) (fun u => match u with | (wr_14, fu_15) => A80 (v2 + 1) faM waM wr_14 fu_15)))))))) → A80 v2 faM waM wrM fuM) →
    A22 0 0 p1 0 (-1)
set_option maxHeartbeats 4000000 in
set_option maxRecDepth 100000 in
theorem met_X6_write (l : Launch) (D : va_G) (cs : Nat → ClassId) (ev : Nat → Nat → Nat) (sz0 : Nat) (adM : Nat → Nat) (mpM : Nat → Int32) (mkM : Nat → Int32) (mgM : Nat → Int32) (mcM : Nat → Int32) (mwM : Nat → Int32) (mfM : Nat → Int32) (mtM : Nat → Int32) (mhM : Nat → Int32) (mmM : Nat → Int32) (mdM : Nat → Int32) (mxM : Nat → Int32) (mnM : Nat → Int32) (szM : Int32) (faM : Int32) (apM : Int32) (waM : Int32) (wrM : Int32) (fuM : Int32) (p1 : Int32) (post : Int32 → (Int32 × Int32 × Int32 × Int32) → Prop) (h : wp_X6_write mpM mkM mgM mcM mwM mfM mtM mhM mmM mdM faM waM wrM fuM p1 post) : Met l yX6_write wsX6_write ({ frames := 4, cells := 0, slots := 0, locals := 93 }) (va_Pc [.ref (adM 0), .int p1] (mPre D cs ev (sh_M cs adM mpM mkM mgM mcM mwM mfM mtM mhM mmM mdM mxM mnM szM faM apM waM wrM fuM) sz0)) (va_Qi post (fun u t => match u with | (faM', waM', wrM', fuM') => mAt D cs (va_A (sh_M cs adM mpM mkM mgM mcM mwM mfM mtM mhM mmM mdM mxM mnM szM faM apM waM wrM fuM) sz0) (sh_M cs adM mpM mkM mgM mcM mwM mfM mtM mhM mmM mdM mxM mnM szM faM' apM waM' wrM' fuM') t) (va_A (sh_M cs adM mpM mkM mgM mcM mwM mfM mtM mhM mmM mdM mxM mnM szM faM apM waM wrM fuM) sz0)) 0 0 (va_A (sh_M cs adM mpM mkM mgM mcM mwM mfM mtM mhM mmM mdM mxM mnM szM faM apM waM wrM fuM) sz0) := by
  refine Met.ofW (cc := cX6_write) (maxL := 3) (ret := (some .int)) (by decide) rfl ?_
  intro p e s m args below meth c s₁ B hml hv
  obtain ⟨rfl, hsz, hP, hK, hD0, hE⟩ := hv
  have hx := B.exec
  have hb := B.bytes
  have hr := B.returns
  have hts := atoms_spec (ws := wsX6_write) B.pre
  have hown : s.vm.findClass RX6 = some m.cls := findClass_of_methodNamed B.named
  have hlocks := B.notSynchronized
  subst hsz
  have hD := hD0.self (sz := s.heap.size)
  generalize hAe : va_A (sh_M cs adM mpM mkM mgM mcM mwM mfM mtM mhM mmM mdM mxM mnM szM faM apM waM wrM fuM) s.heap.size = A at hD hE ⊢
  have hA : ∀ q : Nat, s.heap.size ≤ q → A q := fun q h => by rw [← hAe]; exact Or.inr h
  have hS : va_S A s.heap s.heap [] := va_S.rf
  have hl := lv_entry ([.ref (adM 0), .int p1]) (n := 3) (Nat.le_of_ble_eq_true rfl)
  rw [lg_entry_eq]
  generalize (lg_sl ([.ref (adM 0), .int p1]) ++ List.replicate (3 - (lg_sl ([.ref (adM 0), .int p1])).length) Slot.unset).toArray = ls at hl ⊢
  have hl : lv_has ls 3 [(0, .ref (adM 0)), (1, .int p1)] := hl
  obtain ⟨A22, hA22⟩ : ∃ Q : Int32 → Int32 → Int32 → Int32 → Int32 → Prop, Q = (fun v2 faM waM wrM fuM => ∀ (H : Heap) (locs : List Loc), va_P D vwCl (sh_M cs adM mpM mkM mgM mcM mwM mfM mtM mhM mmM mdM mxM mnM szM faM apM waM wrM fuM) H → va_D A (sh_M cs adM mpM mkM mgM mcM mwM mfM mtM mhM mmM mdM mxM mnM szM faM apM waM wrM fuM) → va_S A s.heap H locs → ∀ ls : Array Slot, lv_has ls 3 [(0, .ref (adM 0)), (2, .int v2)] → W p l e (headSpec wsX6_write ({ frames := 4, cells := 0, slots := 0, locals := 93 })).room s m ([.ref (adM 0), .int p1] : List Value).toArray below meth c H locs 0 0 (MQ below (va_Qi post (fun u t => match u with | (faM', waM', wrM', fuM') => mAt D cs (A) (sh_M cs adM mpM mkM mgM mcM mwM mfM mtM mhM mmM mdM mxM mnM szM faM' apM waM' wrM' fuM') t) A) ([.ref (adM 0), .int p1] : List Value).toArray s 0 0 A) (F0 m 22 ls [])) := ⟨_, rfl⟩
  obtain ⟨A57, hA57⟩ : ∃ Q : Int32 → Int32 → Int32 → Int32 → Int32 → Prop, Q = (fun v2 faM waM wrM fuM => ∀ (H : Heap) (locs : List Loc), va_P D vwCl (sh_M cs adM mpM mkM mgM mcM mwM mfM mtM mhM mmM mdM mxM mnM szM faM apM waM wrM fuM) H → va_D A (sh_M cs adM mpM mkM mgM mcM mwM mfM mtM mhM mmM mdM mxM mnM szM faM apM waM wrM fuM) → va_S A s.heap H locs → ∀ ls : Array Slot, lv_has ls 3 [(0, .ref (adM 0)), (2, .int v2)] → W p l e (headSpec wsX6_write ({ frames := 4, cells := 0, slots := 0, locals := 93 })).room s m ([.ref (adM 0), .int p1] : List Value).toArray below meth c H locs 0 0 (MQ below (va_Qi post (fun u t => match u with | (faM', waM', wrM', fuM') => mAt D cs (A) (sh_M cs adM mpM mkM mgM mcM mwM mfM mtM mhM mmM mdM mxM mnM szM faM' apM waM' wrM' fuM') t) A) ([.ref (adM 0), .int p1] : List Value).toArray s 0 0 A) (F0 m 57 ls [])) := ⟨_, rfl⟩
  obtain ⟨A80, hA80⟩ : ∃ Q : Int32 → Int32 → Int32 → Int32 → Int32 → Prop, Q = (fun v2 faM waM wrM fuM => ∀ (H : Heap) (locs : List Loc), va_P D vwCl (sh_M cs adM mpM mkM mgM mcM mwM mfM mtM mhM mmM mdM mxM mnM szM faM apM waM wrM fuM) H → va_D A (sh_M cs adM mpM mkM mgM mcM mwM mfM mtM mhM mmM mdM mxM mnM szM faM apM waM wrM fuM) → va_S A s.heap H locs → ∀ ls : Array Slot, lv_has ls 3 [(0, .ref (adM 0)), (2, .int v2)] → W p l e (headSpec wsX6_write ({ frames := 4, cells := 0, slots := 0, locals := 93 })).room s m ([.ref (adM 0), .int p1] : List Value).toArray below meth c H locs 0 0 (MQ below (va_Qi post (fun u t => match u with | (faM', waM', wrM', fuM') => mAt D cs (A) (sh_M cs adM mpM mkM mgM mcM mwM mfM mtM mhM mmM mdM mxM mnM szM faM' apM waM' wrM' fuM') t) A) ([.ref (adM 0), .int p1] : List Value).toArray s 0 0 A) (F0 m 80 ls [])) := ⟨_, rfl⟩
  have s22 : ∀ (v2 : Int32) (faM : Int32) (waM : Int32) (wrM : Int32) (fuM : Int32), (vp_in 0 2 ∧ (((mpM (0 : Int32).toNatClampNeg) ≤ v2 → A57 0 faM waM wrM fuM) ∧ (¬ (mpM (0 : Int32).toNatClampNeg) ≤ v2 → (vp_in v2 20 ∧ (vp_in v2 20 ∧ wp_X6_putTwo waM wrM fuM 0 (mkM v2.toNatClampNeg) (mgM v2.toNatClampNeg) (fun u => match u with | (wr_3, fu_4) => A22 (v2 + 1) faM waM wr_3 fu_4)))))) → A22 v2 faM waM wrM fuM := by
    intro v2 faM waM wrM fuM h
    rw [hA22]
    intro H locs hP hD hS ls hl
    refine lv_iload_n hx hb dX6_write_22 rfl (lv_at hl 1 rfl) ?_
    refine lv_aload_n hx hb dX6_write_23 rfl (lv_at hl 0 rfl) ?_
    refine va_get (D := D) (ci := 5) (v := .ref (adM 1)) (C := RX6) (T := TX6) (N := 18) hx hb hts (by decide +kernel) hown hK hP 0 rfl rfl 0 (by decide) (hts (.fieldLink RX6 7 "PartGraphsModel" "parts" "[I") (by decide +kernel)) (fun _ h9 => h9) rfl dX6_write_24 ?_
    refine lv_iconst (v := 0) hx hb dX6_write_27 (by decide) ?_
    have hin := h.1
    have h := h.2
    refine va_iald (D := D) (cl := vwCl) hx hb hK hP 1 0 rfl rfl hin dX6_write_28 ?_
    refine lv_icmp_ge (tgt := 55) hx hb dX6_write_29 (by decide) (fun c_1 => ?_) (fun c_1 => ?_)
    · have h := h.1 c_1
      refine lv_iconst (v := 0) hx hb dX6_write_55 (by decide) ?_
      refine lv_istore_n (lv' := [(2, .int 0), (0, .ref (adM 0))]) hx hb dX6_write_56 rfl hl (by decide) rfl (fun ls hl => ?_)
      rw [hA57] at h
      exact h _ _ hP hD hS ls (lv_sub hl [1, 0] rfl)
    · have h := h.2 c_1
      refine lv_aload_n hx hb dX6_write_32 rfl (lv_at hl 0 rfl) ?_
      refine lv_iconst (v := 0) hx hb dX6_write_33 (by decide) ?_
      refine lv_aload_n hx hb dX6_write_34 rfl (lv_at hl 0 rfl) ?_
      refine va_get (D := D) (ci := 5) (v := .ref (adM 2)) (C := RX6) (T := TX6) (N := 18) hx hb hts (by decide +kernel) hown hK hP 0 rfl rfl 1 (by decide) (hts (.fieldLink RX6 13 "PartGraphsModel" "kinds" "[I") (by decide +kernel)) (fun _ h9 => h9) rfl dX6_write_35 ?_
      refine lv_iload_n hx hb dX6_write_38 rfl (lv_at hl 1 rfl) ?_
      have hin := h.1
      have h := h.2
      refine va_iald (D := D) (cl := vwCl) hx hb hK hP 2 0 rfl rfl hin dX6_write_39 ?_
      refine lv_aload_n hx hb dX6_write_40 rfl (lv_at hl 0 rfl) ?_
      refine va_get (D := D) (ci := 5) (v := .ref (adM 3)) (C := RX6) (T := TX6) (N := 18) hx hb hts (by decide +kernel) hown hK hP 0 rfl rfl 2 (by decide) (hts (.fieldLink RX6 16 "PartGraphsModel" "grams" "[I") (by decide +kernel)) (fun _ h9 => h9) rfl dX6_write_41 ?_
      refine lv_iload_n hx hb dX6_write_44 rfl (lv_at hl 1 rfl) ?_
      have hin := h.1
      have h := h.2
      refine va_iald (D := D) (cl := vwCl) hx hb hK hP 3 0 rfl rfl hin dX6_write_45 ?_
      have hFc := va_free (wc := (sh_M cs adM mpM mkM mgM mcM mwM mfM mtM mhM mmM mdM mxM mnM szM faM apM waM wrM fuM)) hD hS hA [0, 1, 2, 3, 4, 5, 6, 7, 8, 9, 10, 11, 12] rfl
      refine va_callv (va_runV (As := [.int 0, .int (mkM v2.toNatClampNeg), .int (mgM v2.toNatClampNeg)]) (rest := []) ⟨hx, hb, hml, hown, hts⟩ (met_X6_putTwo l D cs ev _ adM mpM mkM mgM mcM mwM mfM mtM mhM mmM mdM mxM mnM szM faM apM waM wrM fuM 0 (mkM v2.toNatClampNeg) (mgM v2.toNatClampNeg) _ h) (cwV 3 hts gX6_write_X6_putTwo rfl rfl rfl (by decide +kernel) ⟨Nat.le_of_ble_eq_true rfl, Nat.le_of_ble_eq_true rfl⟩) (mPreV (va_recv hK hP (ci := 5) (q0 := 0) rfl rfl) hP hD hS hK hE hFc [0, 1, 2, 3, 4, 5, 6, 7, 8, 9, 10, 11, 12] (by decide) rfl) rfl rfl hl.1 rfl (lv_room (Nat.le_of_ble_eq_true rfl)) dX6_write_46 ⟨Nat.le_of_ble_eq_true rfl, Nat.le_of_ble_eq_true rfl⟩) hS (fun q _ h => hFc q h) hFc (fun u t H1 locs ht hvm hw hB hz1 hk1 hS => ?_)
      obtain ⟨wr_3, fu_4⟩ := u
      have h := hw
      obtain ⟨hP1, hK1, hD1⟩ := hB
      rw [ht] at hP1
      obtain ⟨hP, hD⟩ := mJoin (wr := ([] : va_W)) (w1 := (sh_M cs adM mpM mkM mgM mcM mwM mfM mtM mhM mmM mdM mxM mnM szM faM apM waM wr_3 fu_4)) (w' := (sh_M cs adM mpM mkM mgM mcM mwM mfM mtM mhM mmM mdM mxM mnM szM faM apM waM wr_3 fu_4)) hP hD [0, 1, 2, 3, 4, 5, 6, 7, 8, 9, 10, 11, 12] [] rfl rfl (by decide) (by decide) hk1 hFc hP1 hD1 [0, 1, 2, 3, 4, 5, 6, 7, 8, 9, 10, 11, 12] (by decide) rfl
      generalize H1 = H at hP hS ⊢
      refine lv_iinc (v := v2 + 1) (lv' := [(2, .int (v2 + 1)), (0, .ref (adM 0))]) hx hb dX6_write_49 hl (k := 1) rfl rfl (by decide) rfl (fun ls hl => ?_)
      refine lv_goto (tgt := 22) hx hb dX6_write_52 (by decide) ?_
      rw [hA22] at h
      exact h _ _ hP hD hS ls (lv_sub hl [1, 0] rfl)
  have s57 : ∀ (v2 : Int32) (faM : Int32) (waM : Int32) (wrM : Int32) (fuM : Int32), (vp_in 0 2 ∧ (((mpM (0 : Int32).toNatClampNeg) ≤ v2 → A80 0 faM waM wrM fuM) ∧ (¬ (mpM (0 : Int32).toNatClampNeg) ≤ v2 → wp_X6_putPart mpM mcM mwM mhM mmM mdM waM wrM fuM v2 (fun u => match u with | (wr_7, fu_8) => A57 (v2 + 1) faM waM wr_7 fu_8)))) → A57 v2 faM waM wrM fuM := by
    intro v2 faM waM wrM fuM h
    rw [hA57]
    intro H locs hP hD hS ls hl
    refine lv_iload_n hx hb dX6_write_57 rfl (lv_at hl 1 rfl) ?_
    refine lv_aload_n hx hb dX6_write_58 rfl (lv_at hl 0 rfl) ?_
    refine va_get (D := D) (ci := 5) (v := .ref (adM 1)) (C := RX6) (T := TX6) (N := 18) hx hb hts (by decide +kernel) hown hK hP 0 rfl rfl 0 (by decide) (hts (.fieldLink RX6 7 "PartGraphsModel" "parts" "[I") (by decide +kernel)) (fun _ h9 => h9) rfl dX6_write_59 ?_
    refine lv_iconst (v := 0) hx hb dX6_write_62 (by decide) ?_
    have hin := h.1
    have h := h.2
    refine va_iald (D := D) (cl := vwCl) hx hb hK hP 1 0 rfl rfl hin dX6_write_63 ?_
    refine lv_icmp_ge (tgt := 78) hx hb dX6_write_64 (by decide) (fun c_5 => ?_) (fun c_5 => ?_)
    · have h := h.1 c_5
      refine lv_iconst (v := 0) hx hb dX6_write_78 (by decide) ?_
      refine lv_istore_n (lv' := [(2, .int 0), (0, .ref (adM 0))]) hx hb dX6_write_79 rfl hl (by decide) rfl (fun ls hl => ?_)
      rw [hA80] at h
      exact h _ _ hP hD hS ls (lv_sub hl [1, 0] rfl)
    · have h := h.2 c_5
      refine lv_aload_n hx hb dX6_write_67 rfl (lv_at hl 0 rfl) ?_
      refine lv_iload_n hx hb dX6_write_68 rfl (lv_at hl 1 rfl) ?_
      have hFc := va_free (wc := (sh_M cs adM mpM mkM mgM mcM mwM mfM mtM mhM mmM mdM mxM mnM szM faM apM waM wrM fuM)) hD hS hA [0, 1, 2, 3, 4, 5, 6, 7, 8, 9, 10, 11, 12] rfl
      refine va_callv (va_runV (As := [.int v2]) (rest := []) ⟨hx, hb, hml, hown, hts⟩ (met_X6_putPart l D cs ev _ adM mpM mkM mgM mcM mwM mfM mtM mhM mmM mdM mxM mnM szM faM apM waM wrM fuM v2 _ h) (cwV 1 hts gX6_write_X6_putPart rfl rfl rfl (by decide +kernel) ⟨Nat.le_of_ble_eq_true rfl, Nat.le_of_ble_eq_true rfl⟩) (mPreV (va_recv hK hP (ci := 5) (q0 := 0) rfl rfl) hP hD hS hK hE hFc [0, 1, 2, 3, 4, 5, 6, 7, 8, 9, 10, 11, 12] (by decide) rfl) rfl rfl hl.1 rfl (lv_room (Nat.le_of_ble_eq_true rfl)) dX6_write_69 ⟨Nat.le_of_ble_eq_true rfl, Nat.le_of_ble_eq_true rfl⟩) hS (fun q _ h => hFc q h) hFc (fun u t H1 locs ht hvm hw hB hz1 hk1 hS => ?_)
      obtain ⟨wr_7, fu_8⟩ := u
      have h := hw
      obtain ⟨hP1, hK1, hD1⟩ := hB
      rw [ht] at hP1
      obtain ⟨hP, hD⟩ := mJoin (wr := ([] : va_W)) (w1 := (sh_M cs adM mpM mkM mgM mcM mwM mfM mtM mhM mmM mdM mxM mnM szM faM apM waM wr_7 fu_8)) (w' := (sh_M cs adM mpM mkM mgM mcM mwM mfM mtM mhM mmM mdM mxM mnM szM faM apM waM wr_7 fu_8)) hP hD [0, 1, 2, 3, 4, 5, 6, 7, 8, 9, 10, 11, 12] [] rfl rfl (by decide) (by decide) hk1 hFc hP1 hD1 [0, 1, 2, 3, 4, 5, 6, 7, 8, 9, 10, 11, 12] (by decide) rfl
      generalize H1 = H at hP hS ⊢
      refine lv_iinc (v := v2 + 1) (lv' := [(2, .int (v2 + 1)), (0, .ref (adM 0))]) hx hb dX6_write_72 hl (k := 1) rfl rfl (by decide) rfl (fun ls hl => ?_)
      refine lv_goto (tgt := 57) hx hb dX6_write_75 (by decide) ?_
      rw [hA57] at h
      exact h _ _ hP hD hS ls (lv_sub hl [1, 0] rfl)
  have s80 : ∀ (v2 : Int32) (faM : Int32) (waM : Int32) (wrM : Int32) (fuM : Int32), (vp_in 0 2 ∧ (((mfM (0 : Int32).toNatClampNeg) ≤ v2 → post fuM (faM, waM, wrM, fuM)) ∧ (¬ (mfM (0 : Int32).toNatClampNeg) ≤ v2 → (vp_in (3 * v2) 120 ∧ (vp_in ((3 * v2) + 1) 120 ∧ wp_X6_putTwo waM wrM fuM 3 (mtM (3 * v2).toNatClampNeg) (mtM ((3 * v2) + 1).toNatClampNeg) (fun u => match u with | (wr_11, fu_12) => (vp_in ((3 * v2) + 2) 120 ∧ wp_X6_putNumber waM wr_11 fu_12 (mtM ((3 * v2) + 2).toNatClampNeg) (fun u => match u with | (wr_14, fu_15) => A80 (v2 + 1) faM waM wr_14 fu_15)))))))) → A80 v2 faM waM wrM fuM := by
    intro v2 faM waM wrM fuM h
    rw [hA80]
    intro H locs hP hD hS ls hl
    refine lv_iload_n hx hb dX6_write_80 rfl (lv_at hl 1 rfl) ?_
    refine lv_aload_n hx hb dX6_write_81 rfl (lv_at hl 0 rfl) ?_
    refine va_get (D := D) (ci := 5) (v := .ref (adM 6)) (C := RX6) (T := TX6) (N := 18) hx hb hts (by decide +kernel) hown hK hP 0 rfl rfl 5 (by decide) (hts (.fieldLink RX6 26 "PartGraphsModel" "fastenings" "[I") (by decide +kernel)) (fun _ h9 => h9) rfl dX6_write_82 ?_
    refine lv_iconst (v := 0) hx hb dX6_write_85 (by decide) ?_
    have hin := h.1
    have h := h.2
    refine va_iald (D := D) (cl := vwCl) hx hb hK hP 6 0 rfl rfl hin dX6_write_86 ?_
    refine lv_icmp_ge (tgt := 133) hx hb dX6_write_87 (by decide) (fun c_9 => ?_) (fun c_9 => ?_)
    · have h := h.1 c_9
      refine lv_aload_n hx hb dX6_write_133 rfl (lv_at hl 0 rfl) ?_
      refine va_get (D := D) (ci := 5) (v := .int fuM) (C := RX6) (T := TX6) (N := 18) hx hb hts (by decide +kernel) hown hK hP 0 rfl rfl 17 (by decide) (hts (.fieldLink RX6 171 "PartGraphsModel" "found" "I") (by decide +kernel)) (fun _ h9 => h9) rfl dX6_write_134 ?_
      exact W.iret (v := fuM) hx hb hr (fun t ht hW => ⟨⟨fuM, (faM, waM, wrM, fuM), rfl, h, by rw [ht]; exact hP, va_K.moved hW.alike hK, hD⟩, hS.F ht⟩) hS.2.2 dX6_write_137
    · have h := h.2 c_9
      refine lv_aload_n hx hb dX6_write_90 rfl (lv_at hl 0 rfl) ?_
      refine lv_iconst (v := 3) hx hb dX6_write_91 (by decide) ?_
      refine lv_aload_n hx hb dX6_write_92 rfl (lv_at hl 0 rfl) ?_
      refine va_get (D := D) (ci := 5) (v := .ref (adM 7)) (C := RX6) (T := TX6) (N := 18) hx hb hts (by decide +kernel) hown hK hP 0 rfl rfl 6 (by decide) (hts (.fieldLink RX6 29 "PartGraphsModel" "ties" "[I") (by decide +kernel)) (fun _ h9 => h9) rfl dX6_write_93 ?_
      refine lv_iconst (v := 3) hx hb dX6_write_96 (by decide) ?_
      refine lv_iload_n hx hb dX6_write_97 rfl (lv_at hl 1 rfl) ?_
      refine lv_imul hx hb dX6_write_98 ?_
      have hin := h.1
      have h := h.2
      refine va_iald (D := D) (cl := vwCl) hx hb hK hP 7 0 rfl rfl hin dX6_write_99 ?_
      refine lv_aload_n hx hb dX6_write_100 rfl (lv_at hl 0 rfl) ?_
      refine va_get (D := D) (ci := 5) (v := .ref (adM 7)) (C := RX6) (T := TX6) (N := 18) hx hb hts (by decide +kernel) hown hK hP 0 rfl rfl 6 (by decide) (hts (.fieldLink RX6 29 "PartGraphsModel" "ties" "[I") (by decide +kernel)) (fun _ h9 => h9) rfl dX6_write_101 ?_
      refine lv_iconst (v := 3) hx hb dX6_write_104 (by decide) ?_
      refine lv_iload_n hx hb dX6_write_105 rfl (lv_at hl 1 rfl) ?_
      refine lv_imul hx hb dX6_write_106 ?_
      refine lv_iconst (v := 1) hx hb dX6_write_107 (by decide) ?_
      refine lv_iadd hx hb dX6_write_108 ?_
      have hin := h.1
      have h := h.2
      refine va_iald (D := D) (cl := vwCl) hx hb hK hP 7 0 rfl rfl hin dX6_write_109 ?_
      have hFc := va_free (wc := (sh_M cs adM mpM mkM mgM mcM mwM mfM mtM mhM mmM mdM mxM mnM szM faM apM waM wrM fuM)) hD hS hA [0, 1, 2, 3, 4, 5, 6, 7, 8, 9, 10, 11, 12] rfl
      refine va_callv (va_runV (As := [.int 3, .int (mtM (3 * v2).toNatClampNeg), .int (mtM ((3 * v2) + 1).toNatClampNeg)]) (rest := []) ⟨hx, hb, hml, hown, hts⟩ (met_X6_putTwo l D cs ev _ adM mpM mkM mgM mcM mwM mfM mtM mhM mmM mdM mxM mnM szM faM apM waM wrM fuM 3 (mtM (3 * v2).toNatClampNeg) (mtM ((3 * v2) + 1).toNatClampNeg) _ h) (cwV 3 hts gX6_write_X6_putTwo rfl rfl rfl (by decide +kernel) ⟨Nat.le_of_ble_eq_true rfl, Nat.le_of_ble_eq_true rfl⟩) (mPreV (va_recv hK hP (ci := 5) (q0 := 0) rfl rfl) hP hD hS hK hE hFc [0, 1, 2, 3, 4, 5, 6, 7, 8, 9, 10, 11, 12] (by decide) rfl) rfl rfl hl.1 rfl (lv_room (Nat.le_of_ble_eq_true rfl)) dX6_write_110 ⟨Nat.le_of_ble_eq_true rfl, Nat.le_of_ble_eq_true rfl⟩) hS (fun q _ h => hFc q h) hFc (fun u t H1 locs ht hvm hw hB hz1 hk1 hS => ?_)
      obtain ⟨wr_11, fu_12⟩ := u
      have h := hw
      obtain ⟨hP1, hK1, hD1⟩ := hB
      rw [ht] at hP1
      obtain ⟨hP, hD⟩ := mJoin (wr := ([] : va_W)) (w1 := (sh_M cs adM mpM mkM mgM mcM mwM mfM mtM mhM mmM mdM mxM mnM szM faM apM waM wr_11 fu_12)) (w' := (sh_M cs adM mpM mkM mgM mcM mwM mfM mtM mhM mmM mdM mxM mnM szM faM apM waM wr_11 fu_12)) hP hD [0, 1, 2, 3, 4, 5, 6, 7, 8, 9, 10, 11, 12] [] rfl rfl (by decide) (by decide) hk1 hFc hP1 hD1 [0, 1, 2, 3, 4, 5, 6, 7, 8, 9, 10, 11, 12] (by decide) rfl
      generalize H1 = H at hP hS ⊢
      refine lv_aload_n hx hb dX6_write_113 rfl (lv_at hl 0 rfl) ?_
      refine lv_aload_n hx hb dX6_write_114 rfl (lv_at hl 0 rfl) ?_
      refine va_get (D := D) (ci := 5) (v := .ref (adM 7)) (C := RX6) (T := TX6) (N := 18) hx hb hts (by decide +kernel) hown hK hP 0 rfl rfl 6 (by decide) (hts (.fieldLink RX6 29 "PartGraphsModel" "ties" "[I") (by decide +kernel)) (fun _ h9 => h9) rfl dX6_write_115 ?_
      refine lv_iconst (v := 3) hx hb dX6_write_118 (by decide) ?_
      refine lv_iload_n hx hb dX6_write_119 rfl (lv_at hl 1 rfl) ?_
      refine lv_imul hx hb dX6_write_120 ?_
      refine lv_iconst (v := 2) hx hb dX6_write_121 (by decide) ?_
      refine lv_iadd hx hb dX6_write_122 ?_
      have hin := h.1
      have h := h.2
      refine va_iald (D := D) (cl := vwCl) hx hb hK hP 7 0 rfl rfl hin dX6_write_123 ?_
      have hFc := va_free (wc := (sh_M cs adM mpM mkM mgM mcM mwM mfM mtM mhM mmM mdM mxM mnM szM faM apM waM wr_11 fu_12)) hD hS hA [0, 1, 2, 3, 4, 5, 6, 7, 8, 9, 10, 11, 12] rfl
      refine va_callv (va_runV (As := [.int (mtM ((3 * v2) + 2).toNatClampNeg)]) (rest := []) ⟨hx, hb, hml, hown, hts⟩ (met_X6_putNumber l D cs ev _ adM mpM mkM mgM mcM mwM mfM mtM mhM mmM mdM mxM mnM szM faM apM waM wr_11 fu_12 (mtM ((3 * v2) + 2).toNatClampNeg) _ h) (cwV 1 hts gX6_write_X6_putNumber rfl rfl rfl (by decide +kernel) ⟨Nat.le_of_ble_eq_true rfl, Nat.le_of_ble_eq_true rfl⟩) (mPreV (va_recv hK hP (ci := 5) (q0 := 0) rfl rfl) hP hD hS hK hE hFc [0, 1, 2, 3, 4, 5, 6, 7, 8, 9, 10, 11, 12] (by decide) rfl) rfl rfl hl.1 rfl (lv_room (Nat.le_of_ble_eq_true rfl)) dX6_write_124 ⟨Nat.le_of_ble_eq_true rfl, Nat.le_of_ble_eq_true rfl⟩) hS (fun q _ h => hFc q h) hFc (fun u t H1 locs ht hvm hw hB hz1 hk1 hS => ?_)
      obtain ⟨wr_14, fu_15⟩ := u
      have h := hw
      obtain ⟨hP1, hK1, hD1⟩ := hB
      rw [ht] at hP1
      obtain ⟨hP, hD⟩ := mJoin (wr := ([] : va_W)) (w1 := (sh_M cs adM mpM mkM mgM mcM mwM mfM mtM mhM mmM mdM mxM mnM szM faM apM waM wr_14 fu_15)) (w' := (sh_M cs adM mpM mkM mgM mcM mwM mfM mtM mhM mmM mdM mxM mnM szM faM apM waM wr_14 fu_15)) hP hD [0, 1, 2, 3, 4, 5, 6, 7, 8, 9, 10, 11, 12] [] rfl rfl (by decide) (by decide) hk1 hFc hP1 hD1 [0, 1, 2, 3, 4, 5, 6, 7, 8, 9, 10, 11, 12] (by decide) rfl
      generalize H1 = H at hP hS ⊢
      refine lv_iinc (v := v2 + 1) (lv' := [(2, .int (v2 + 1)), (0, .ref (adM 0))]) hx hb dX6_write_127 hl (k := 1) rfl rfl (by decide) rfl (fun ls hl => ?_)
      refine lv_goto (tgt := 80) hx hb dX6_write_130 (by decide) ?_
      rw [hA80] at h
      exact h _ _ hP hD hS ls (lv_sub hl [1, 0] rfl)
  have h := h A22 A57 A80 s22 s57 s80
  refine lv_aload_n hx hb dX6_write_0 rfl (lv_at hl 0 rfl) ?_
  refine lv_iconst (v := 0) hx hb dX6_write_1 (by decide) ?_
  refine va_put (D := D) (ci := 5) (v := .int 0) (ty := .int) (C := RX6) (T := TX6) (N := 18) hx hb hts (by decide +kernel) tyX6 tyX6_ok nmX6 hown hK hP hD hS 0 rfl rfl 12 (by decide) (hts (.fieldLink RX6 52 "PartGraphsModel" "fault" "I") (by decide +kernel)) (fun _ h9 => h9) rfl (by decide +kernel) rfl rfl (Nat.le_of_ble_eq_true rfl) dX6_write_2 (fun H locs hP hD hS => ?_)
  have hP : va_P D vwCl (sh_M cs adM mpM mkM mgM mcM mwM mfM mtM mhM mmM mdM mxM mnM szM 0 apM waM wrM fuM) H := hP
  have hD : va_D A (sh_M cs adM mpM mkM mgM mcM mwM mfM mtM mhM mmM mdM mxM mnM szM 0 apM waM wrM fuM) := hD
  refine lv_aload_n hx hb dX6_write_5 rfl (lv_at hl 0 rfl) ?_
  refine lv_iload_n hx hb dX6_write_6 rfl (lv_at hl 1 rfl) ?_
  refine va_put (D := D) (ci := 5) (v := .int p1) (ty := .int) (C := RX6) (T := TX6) (N := 18) hx hb hts (by decide +kernel) tyX6 tyX6_ok nmX6 hown hK hP hD hS 0 rfl rfl 15 (by decide) (hts (.fieldLink RX6 168 "PartGraphsModel" "wanted" "I") (by decide +kernel)) (fun _ h9 => h9) rfl (by decide +kernel) rfl rfl (Nat.le_of_ble_eq_true rfl) dX6_write_7 (fun H locs hP hD hS => ?_)
  have hP : va_P D vwCl (sh_M cs adM mpM mkM mgM mcM mwM mfM mtM mhM mmM mdM mxM mnM szM 0 apM p1 wrM fuM) H := hP
  have hD : va_D A (sh_M cs adM mpM mkM mgM mcM mwM mfM mtM mhM mmM mdM mxM mnM szM 0 apM p1 wrM fuM) := hD
  refine lv_aload_n hx hb dX6_write_10 rfl (lv_at hl 0 rfl) ?_
  refine lv_iconst (v := 0) hx hb dX6_write_11 (by decide) ?_
  refine va_put (D := D) (ci := 5) (v := .int 0) (ty := .int) (C := RX6) (T := TX6) (N := 18) hx hb hts (by decide +kernel) tyX6 tyX6_ok nmX6 hown hK hP hD hS 0 rfl rfl 16 (by decide) (hts (.fieldLink RX6 165 "PartGraphsModel" "written" "I") (by decide +kernel)) (fun _ h9 => h9) rfl (by decide +kernel) rfl rfl (Nat.le_of_ble_eq_true rfl) dX6_write_12 (fun H locs hP hD hS => ?_)
  have hP : va_P D vwCl (sh_M cs adM mpM mkM mgM mcM mwM mfM mtM mhM mmM mdM mxM mnM szM 0 apM p1 0 fuM) H := hP
  have hD : va_D A (sh_M cs adM mpM mkM mgM mcM mwM mfM mtM mhM mmM mdM mxM mnM szM 0 apM p1 0 fuM) := hD
  refine lv_aload_n hx hb dX6_write_15 rfl (lv_at hl 0 rfl) ?_
  refine lv_iconst (v := (-1)) hx hb dX6_write_16 (by decide) ?_
  refine va_put (D := D) (ci := 5) (v := .int (-1)) (ty := .int) (C := RX6) (T := TX6) (N := 18) hx hb hts (by decide +kernel) tyX6 tyX6_ok nmX6 hown hK hP hD hS 0 rfl rfl 17 (by decide) (hts (.fieldLink RX6 171 "PartGraphsModel" "found" "I") (by decide +kernel)) (fun _ h9 => h9) rfl (by decide +kernel) rfl rfl (Nat.le_of_ble_eq_true rfl) dX6_write_17 (fun H locs hP hD hS => ?_)
  have hP : va_P D vwCl (sh_M cs adM mpM mkM mgM mcM mwM mfM mtM mhM mmM mdM mxM mnM szM 0 apM p1 0 (-1)) H := hP
  have hD : va_D A (sh_M cs adM mpM mkM mgM mcM mwM mfM mtM mhM mmM mdM mxM mnM szM 0 apM p1 0 (-1)) := hD
  refine lv_iconst (v := 0) hx hb dX6_write_20 (by decide) ?_
  refine lv_istore_n (lv' := [(2, .int 0), (0, .ref (adM 0)), (1, .int p1)]) hx hb dX6_write_21 rfl hl (by decide) rfl (fun ls hl => ?_)
  rw [hA22] at h
  exact h _ _ hP hD hS ls (lv_sub hl [1, 0] rfl)
