def wp_X6_pieceOf (mfM : Nat → Int32) (mtM : Nat → Int32) (p1 : Int32) (p2 : Int64) (post : Int64 → Unit → Prop) : Prop :=
    ∀ (A20 : Int64 → Int32 → Prop) (A30 : Int64 → Int32 → Int32 → Prop),
    (∀ (v4 : Int64) (v6 : Int32), ((10 ≤ v6 → post v4 ()) ∧ (¬ 10 ≤ v6 → A30 v4 v6 0)) → A20 v4 v6) →
    (∀ (v4 : Int64) (v6 : Int32) (v7 : Int32), (vp_in 0 2 ∧ (((mfM (0 : Int32).toNatClampNeg) ≤ v7 → A20 v4 (v6 + 1)) ∧ (¬ (mfM (0 : Int32).toNatClampNeg) ≤ v7 → (vp_in (3 * v7) 120 ∧ (vp_in ((3 * v7) + 1) 120 ∧ wp_X6_isOff p2 (mtM (3 * v7).toNatClampNeg) (fun r_5 _ => ((r_5 = 0 → wp_X6_isOff p2 (mtM ((3 * v7) + 1).toNatClampNeg) (fun r_9 _ => ((r_9 = 0 → wp_X6_isOff v4 (mtM (3 * v7).toNatClampNeg) (fun r_13 _ => ((r_13 = 0 → wp_X6_isOff v4 (mtM ((3 * v7) + 1).toNatClampNeg) (fun r_17 _ => ((r_17 = 0 → (((0 : Int32) = 0 → A30 (v4 ||| 0) v6 (v7 + 1)) ∧ (¬ (0 : Int32) = 0 → (∀ y_20 : Int64, y_20 = v4 ||| ((1 <<< ((mtM (3 * v7).toNatClampNeg).toInt64 &&& 63)) ||| (1 <<< ((mtM ((3 * v7) + 1).toNatClampNeg).toInt64 &&& 63))) → A30 y_20 v6 (v7 + 1))))) ∧ (¬ r_17 = 0 → (((1 : Int32) = 0 → A30 (v4 ||| 0) v6 (v7 + 1)) ∧ (¬ (1 : Int32) = 0 → (∀ y_22 : Int64, y_22 = v4 ||| ((1 <<< ((mtM (3 * v7).toNatClampNeg).toInt64 &&& 63)) ||| (1 <<< ((mtM ((3 * v7) + 1).toNatClampNeg).toInt64 &&& 63))) → A30 y_22 v6 (v7 + 1)))))))) ∧ (¬ r_13 = 0 → (((1 : Int32) = 0 → A30 (v4 ||| 0) v6 (v7 + 1)) ∧ (¬ (1 : Int32) = 0 → (∀ y_16 : Int64, y_16 = v4 ||| ((1 <<< ((mtM (3 * v7).toNatClampNeg).toInt64 &&& 63)) ||| (1 <<< ((mtM ((3 * v7) + 1).toNatClampNeg).toInt64 &&& 63))) → A30 y_16 v6 (v7 + 1)))))))) ∧ (¬ r_9 = 0 → (((0 : Int32) = 0 → A30 (v4 ||| 0) v6 (v7 + 1)) ∧ (¬ (0 : Int32) = 0 → (∀ y_12 : Int64, y_12 = v4 ||| ((1 <<< ((mtM (3 * v7).toNatClampNeg).toInt64 &&& 63)) ||| (1 <<< ((mtM ((3 * v7) + 1).toNatClampNeg).toInt64 &&& 63))) → A30 y_12 v6 (v7 + 1)))))))) ∧ (¬ r_5 = 0 → (((0 : Int32) = 0 → A30 (v4 ||| 0) v6 (v7 + 1)) ∧ (¬ (0 : Int32) = 0 → (∀ y_8 : Int64, y_8 = v4 ||| ((1 <<< ((mtM (3 * v7).toNatClampNeg).toInt64 &&& 63)) ||| (1 <<< ((mtM ((3 * v7) + 1).toNatClampNeg).toInt64 &&& 63))) → A30 y_8 v6 (v7 + 1)))))))))))) → A30 v4 v6 v7) →
    wp_X6_isOff p2 p1 (fun r_1 _ => ((r_1 = 0 → A20 (1 <<< (p1.toInt64 &&& 63)) 0) ∧ (¬ r_1 = 0 → A20 0 0)))
set_option maxHeartbeats 4000000 in
set_option maxRecDepth 100000 in
theorem met_X6_pieceOf (l : Launch) (D : va_G) (cs : Nat → ClassId) (ev : Nat → Nat → Nat) (sz0 : Nat) (adM : Nat → Nat) (mpM : Nat → Int32) (mkM : Nat → Int32) (mgM : Nat → Int32) (mcM : Nat → Int32) (mwM : Nat → Int32) (mfM : Nat → Int32) (mtM : Nat → Int32) (mhM : Nat → Int32) (mmM : Nat → Int32) (mdM : Nat → Int32) (mxM : Nat → Int32) (mnM : Nat → Int32) (szM : Int32) (faM : Int32) (apM : Int32) (waM : Int32) (wrM : Int32) (fuM : Int32) (p1 : Int32) (p2 : Int64) (post : Int64 → Unit → Prop) (h : wp_X6_pieceOf mfM mtM p1 p2 post) : Met l yX6_pieceOf wsX6_pieceOf ({ frames := 1, cells := 0, slots := 0, locals := 22 }) (va_Pc [.ref (adM 0), .int p1, .long p2] (mPre D cs ev (sh_M cs adM mpM mkM mgM mcM mwM mfM mtM mhM mmM mdM mxM mnM szM faM apM waM wrM fuM) sz0)) (va_Ql post (fun _ t => mAt D cs (va_A (sh_M cs adM mpM mkM mgM mcM mwM mfM mtM mhM mmM mdM mxM mnM szM faM apM waM wrM fuM) sz0) (sh_M cs adM mpM mkM mgM mcM mwM mfM mtM mhM mmM mdM mxM mnM szM faM apM waM wrM fuM) t) (va_A (sh_M cs adM mpM mkM mgM mcM mwM mfM mtM mhM mmM mdM mxM mnM szM faM apM waM wrM fuM) sz0)) 0 0 (va_A (sh_M cs adM mpM mkM mgM mcM mwM mfM mtM mhM mmM mdM mxM mnM szM faM apM waM wrM fuM) sz0) := by
  refine Met.ofW (cc := cX6_pieceOf) (maxL := 11) (ret := (some .long)) (by decide) rfl ?_
  intro p e s m args below meth c s₁ B hml hv
  obtain ⟨rfl, hsz, hP, hK, hD0, hE⟩ := hv
  have hx := B.exec
  have hb := B.bytes
  have hr := B.returns
  have hts := atoms_spec (ws := wsX6_pieceOf) B.pre
  have hown : s.vm.findClass RX6 = some m.cls := findClass_of_methodNamed B.named
  have hlocks := B.notSynchronized
  subst hsz
  have hD := hD0.self (sz := s.heap.size)
  generalize hAe : va_A (sh_M cs adM mpM mkM mgM mcM mwM mfM mtM mhM mmM mdM mxM mnM szM faM apM waM wrM fuM) s.heap.size = A at hD hE ⊢
  have hA : ∀ q : Nat, s.heap.size ≤ q → A q := fun q h => by rw [← hAe]; exact Or.inr h
  have hS : va_S A s.heap s.heap [] := va_S.rf
  have hl := lv_entry ([.ref (adM 0), .int p1, .long p2]) (n := 11) (Nat.le_of_ble_eq_true rfl)
  rw [lg_entry_eq]
  generalize (lg_sl ([.ref (adM 0), .int p1, .long p2]) ++ List.replicate (11 - (lg_sl ([.ref (adM 0), .int p1, .long p2])).length) Slot.unset).toArray = ls at hl ⊢
  have hl : lv_has ls 11 [(0, .ref (adM 0)), (1, .int p1), (2, .long p2)] := hl
  obtain ⟨A20, hA20⟩ : ∃ Q : Int64 → Int32 → Prop, Q = (fun v4 v6 => ∀ (H : Heap) (locs : List Loc), va_P D vwCl (sh_M cs adM mpM mkM mgM mcM mwM mfM mtM mhM mmM mdM mxM mnM szM faM apM waM wrM fuM) H → va_D A (sh_M cs adM mpM mkM mgM mcM mwM mfM mtM mhM mmM mdM mxM mnM szM faM apM waM wrM fuM) → va_S A s.heap H locs → ∀ ls : Array Slot, lv_has ls 11 [(0, .ref (adM 0)), (2, .long p2), (4, .long v4), (6, .int v6)] → W p l e (headSpec wsX6_pieceOf ({ frames := 1, cells := 0, slots := 0, locals := 22 })).room s m ([.ref (adM 0), .int p1, .long p2] : List Value).toArray below meth c H locs 0 0 (MQ below (va_Ql post (fun _ t => mAt D cs (A) (sh_M cs adM mpM mkM mgM mcM mwM mfM mtM mhM mmM mdM mxM mnM szM faM apM waM wrM fuM) t) A) ([.ref (adM 0), .int p1, .long p2] : List Value).toArray s 0 0 A) (F0 m 20 ls [])) := ⟨_, rfl⟩
  obtain ⟨A30, hA30⟩ : ∃ Q : Int64 → Int32 → Int32 → Prop, Q = (fun v4 v6 v7 => ∀ (H : Heap) (locs : List Loc), va_P D vwCl (sh_M cs adM mpM mkM mgM mcM mwM mfM mtM mhM mmM mdM mxM mnM szM faM apM waM wrM fuM) H → va_D A (sh_M cs adM mpM mkM mgM mcM mwM mfM mtM mhM mmM mdM mxM mnM szM faM apM waM wrM fuM) → va_S A s.heap H locs → ∀ ls : Array Slot, lv_has ls 11 [(0, .ref (adM 0)), (2, .long p2), (4, .long v4), (6, .int v6), (7, .int v7)] → W p l e (headSpec wsX6_pieceOf ({ frames := 1, cells := 0, slots := 0, locals := 22 })).room s m ([.ref (adM 0), .int p1, .long p2] : List Value).toArray below meth c H locs 0 0 (MQ below (va_Ql post (fun _ t => mAt D cs (A) (sh_M cs adM mpM mkM mgM mcM mwM mfM mtM mhM mmM mdM mxM mnM szM faM apM waM wrM fuM) t) A) ([.ref (adM 0), .int p1, .long p2] : List Value).toArray s 0 0 A) (F0 m 30 ls [])) := ⟨_, rfl⟩
  have s20 : ∀ (v4 : Int64) (v6 : Int32), ((10 ≤ v6 → post v4 ()) ∧ (¬ 10 ≤ v6 → A30 v4 v6 0)) → A20 v4 v6 := by
    intro v4 v6 h
    rw [hA20]
    intro H locs hP hD hS ls hl
    refine lv_iload hx hb dX6_pieceOf_20 (lv_at hl 3 rfl) ?_
    refine lv_bipush (v := 10) hx hb dX6_pieceOf_22 (by decide) ?_
    refine lv_icmp_ge (tgt := 145) hx hb dX6_pieceOf_24 (by decide) (fun c_3 => ?_) (fun c_3 => ?_)
    · have h := h.1 c_3
      refine lv_lload hx hb dX6_pieceOf_145 (lv_at hl 2 rfl) ?_
      exact W.lret (v := v4) hx hb hr (fun t ht hW => ⟨⟨v4, (), rfl, h, by rw [ht]; exact hP, va_K.moved hW.alike hK, hD⟩, hS.F ht⟩) hS.2.2 dX6_pieceOf_147
    · have h := h.2 c_3
      refine lv_iconst (v := 0) hx hb dX6_pieceOf_27 (by decide) ?_
      refine lv_istore (lv' := [(7, .int 0), (0, .ref (adM 0)), (2, .long p2), (4, .long v4), (6, .int v6)]) hx hb dX6_pieceOf_28 hl (by decide) rfl (fun ls hl => ?_)
      rw [hA30] at h
      exact h _ _ hP hD hS ls (lv_sub hl [1, 2, 3, 4, 0] rfl)
  have s30 : ∀ (v4 : Int64) (v6 : Int32) (v7 : Int32), (vp_in 0 2 ∧ (((mfM (0 : Int32).toNatClampNeg) ≤ v7 → A20 v4 (v6 + 1)) ∧ (¬ (mfM (0 : Int32).toNatClampNeg) ≤ v7 → (vp_in (3 * v7) 120 ∧ (vp_in ((3 * v7) + 1) 120 ∧ wp_X6_isOff p2 (mtM (3 * v7).toNatClampNeg) (fun r_5 _ => ((r_5 = 0 → wp_X6_isOff p2 (mtM ((3 * v7) + 1).toNatClampNeg) (fun r_9 _ => ((r_9 = 0 → wp_X6_isOff v4 (mtM (3 * v7).toNatClampNeg) (fun r_13 _ => ((r_13 = 0 → wp_X6_isOff v4 (mtM ((3 * v7) + 1).toNatClampNeg) (fun r_17 _ => ((r_17 = 0 → (((0 : Int32) = 0 → A30 (v4 ||| 0) v6 (v7 + 1)) ∧ (¬ (0 : Int32) = 0 → (∀ y_20 : Int64, y_20 = v4 ||| ((1 <<< ((mtM (3 * v7).toNatClampNeg).toInt64 &&& 63)) ||| (1 <<< ((mtM ((3 * v7) + 1).toNatClampNeg).toInt64 &&& 63))) → A30 y_20 v6 (v7 + 1))))) ∧ (¬ r_17 = 0 → (((1 : Int32) = 0 → A30 (v4 ||| 0) v6 (v7 + 1)) ∧ (¬ (1 : Int32) = 0 → (∀ y_22 : Int64, y_22 = v4 ||| ((1 <<< ((mtM (3 * v7).toNatClampNeg).toInt64 &&& 63)) ||| (1 <<< ((mtM ((3 * v7) + 1).toNatClampNeg).toInt64 &&& 63))) → A30 y_22 v6 (v7 + 1)))))))) ∧ (¬ r_13 = 0 → (((1 : Int32) = 0 → A30 (v4 ||| 0) v6 (v7 + 1)) ∧ (¬ (1 : Int32) = 0 → (∀ y_16 : Int64, y_16 = v4 ||| ((1 <<< ((mtM (3 * v7).toNatClampNeg).toInt64 &&& 63)) ||| (1 <<< ((mtM ((3 * v7) + 1).toNatClampNeg).toInt64 &&& 63))) → A30 y_16 v6 (v7 + 1)))))))) ∧ (¬ r_9 = 0 → (((0 : Int32) = 0 → A30 (v4 ||| 0) v6 (v7 + 1)) ∧ (¬ (0 : Int32) = 0 → (∀ y_12 : Int64, y_12 = v4 ||| ((1 <<< ((mtM (3 * v7).toNatClampNeg).toInt64 &&& 63)) ||| (1 <<< ((mtM ((3 * v7) + 1).toNatClampNeg).toInt64 &&& 63))) → A30 y_12 v6 (v7 + 1)))))))) ∧ (¬ r_5 = 0 → (((0 : Int32) = 0 → A30 (v4 ||| 0) v6 (v7 + 1)) ∧ (¬ (0 : Int32) = 0 → (∀ y_8 : Int64, y_8 = v4 ||| ((1 <<< ((mtM (3 * v7).toNatClampNeg).toInt64 &&& 63)) ||| (1 <<< ((mtM ((3 * v7) + 1).toNatClampNeg).toInt64 &&& 63))) → A30 y_8 v6 (v7 + 1)))))))))))) → A30 v4 v6 v7 := by
    intro v4 v6 v7 h
    rw [hA30]
    intro H locs hP hD hS ls hl
    refine lv_iload hx hb dX6_pieceOf_30 (lv_at hl 4 rfl) ?_
    refine lv_aload_n hx hb dX6_pieceOf_32 rfl (lv_at hl 0 rfl) ?_
    refine va_get (D := D) (ci := 5) (v := .ref (adM 6)) (C := RX6) (T := TX6) (N := 18) hx hb hts (by decide +kernel) hown hK hP 0 rfl rfl 5 (by decide) (hts (.fieldLink RX6 26 "PartGraphsModel" "fastenings" "[I") (by decide +kernel)) (fun _ h9 => h9) rfl dX6_pieceOf_33 ?_
    refine lv_iconst (v := 0) hx hb dX6_pieceOf_36 (by decide) ?_
    have hin := h.1
    have h := h.2
    refine va_iald (D := D) (cl := vwCl) hx hb hK hP 6 0 rfl rfl hin dX6_pieceOf_37 ?_
    refine lv_icmp_ge (tgt := 139) hx hb dX6_pieceOf_38 (by decide) (fun c_4 => ?_) (fun c_4 => ?_)
    · have h := h.1 c_4
      refine lv_iinc (v := v6 + 1) (lv' := [(6, .int (v6 + 1)), (0, .ref (adM 0)), (2, .long p2), (4, .long v4), (7, .int v7)]) hx hb dX6_pieceOf_139 hl (k := 3) rfl rfl (by decide) rfl (fun ls hl => ?_)
      refine lv_goto (tgt := 20) hx hb dX6_pieceOf_142 (by decide) ?_
      rw [hA20] at h
      exact h _ _ hP hD hS ls (lv_sub hl [1, 2, 3, 0] rfl)
    · have h := h.2 c_4
      refine lv_aload_n hx hb dX6_pieceOf_41 rfl (lv_at hl 0 rfl) ?_
      refine va_get (D := D) (ci := 5) (v := .ref (adM 7)) (C := RX6) (T := TX6) (N := 18) hx hb hts (by decide +kernel) hown hK hP 0 rfl rfl 6 (by decide) (hts (.fieldLink RX6 29 "PartGraphsModel" "ties" "[I") (by decide +kernel)) (fun _ h9 => h9) rfl dX6_pieceOf_42 ?_
      refine lv_iconst (v := 3) hx hb dX6_pieceOf_45 (by decide) ?_
      refine lv_iload hx hb dX6_pieceOf_46 (lv_at hl 4 rfl) ?_
      refine lv_imul hx hb dX6_pieceOf_48 ?_
      have hin := h.1
      have h := h.2
      refine va_iald (D := D) (cl := vwCl) hx hb hK hP 7 0 rfl rfl hin dX6_pieceOf_49 ?_
      refine lv_istore (lv' := [(8, .int (mtM (3 * v7).toNatClampNeg)), (0, .ref (adM 0)), (2, .long p2), (4, .long v4), (6, .int v6), (7, .int v7)]) hx hb dX6_pieceOf_50 hl (by decide) rfl (fun ls hl => ?_)
      refine lv_aload_n hx hb dX6_pieceOf_52 rfl (lv_at hl 1 rfl) ?_
      refine va_get (D := D) (ci := 5) (v := .ref (adM 7)) (C := RX6) (T := TX6) (N := 18) hx hb hts (by decide +kernel) hown hK hP 0 rfl rfl 6 (by decide) (hts (.fieldLink RX6 29 "PartGraphsModel" "ties" "[I") (by decide +kernel)) (fun _ h9 => h9) rfl dX6_pieceOf_53 ?_
      refine lv_iconst (v := 3) hx hb dX6_pieceOf_56 (by decide) ?_
      refine lv_iload hx hb dX6_pieceOf_57 (lv_at hl 5 rfl) ?_
      refine lv_imul hx hb dX6_pieceOf_59 ?_
      refine lv_iconst (v := 1) hx hb dX6_pieceOf_60 (by decide) ?_
      refine lv_iadd hx hb dX6_pieceOf_61 ?_
      have hin := h.1
      have h := h.2
      refine va_iald (D := D) (cl := vwCl) hx hb hK hP 7 0 rfl rfl hin dX6_pieceOf_62 ?_
      refine lv_istore (lv' := [(9, .int (mtM ((3 * v7) + 1).toNatClampNeg)), (8, .int (mtM (3 * v7).toNatClampNeg)), (0, .ref (adM 0)), (2, .long p2), (4, .long v4), (6, .int v6), (7, .int v7)]) hx hb dX6_pieceOf_63 hl (by decide) rfl (fun ls hl => ?_)
      refine lv_lload_n hx hb dX6_pieceOf_65 rfl (lv_at hl 3 rfl) ?_
      refine lv_iload hx hb dX6_pieceOf_66 (lv_at hl 1 rfl) ?_
      have hFc := va_free (wc := ([] : va_W)) hD hS hA [] rfl
      refine va_calli (va_runS (As := [.long p2, .int (mtM (3 * v7).toNatClampNeg)]) (rest := []) ⟨hx, hb, hml, hown, hts⟩ (met_X6_isOff l D cs ev _ p2 (mtM (3 * v7).toNatClampNeg) _ h) (va_cwS 2 hts gX6_pieceOf_X6_isOff rfl rfl rfl (by decide +kernel) ⟨Nat.le_of_ble_eq_true rfl, Nat.le_of_ble_eq_true rfl⟩) (mPreS hP hD hS hK hE hFc [] (by decide) rfl) rfl rfl hl.1 rfl (lv_room (Nat.le_of_ble_eq_true rfl)) dX6_pieceOf_68 ⟨Nat.le_of_ble_eq_true rfl, Nat.le_of_ble_eq_true rfl⟩) hS (fun q _ h => hFc q h) hFc (fun r_5 u t H1 locs ht hvm hw hB hz1 hk1 hS => ?_)
      have h := hw
      obtain ⟨hP1, hK1, hD1⟩ := hB
      rw [ht] at hP1
      obtain ⟨hP, hD⟩ := mJoin (wr := (sh_M cs adM mpM mkM mgM mcM mwM mfM mtM mhM mmM mdM mxM mnM szM faM apM waM wrM fuM)) (w1 := ([] : va_W)) (w' := (sh_M cs adM mpM mkM mgM mcM mwM mfM mtM mhM mmM mdM mxM mnM szM faM apM waM wrM fuM)) hP hD [] [0, 1, 2, 3, 4, 5, 6, 7, 8, 9, 10, 11, 12] rfl rfl (by decide) (by decide) hk1 hFc hP1 hD1 [0, 1, 2, 3, 4, 5, 6, 7, 8, 9, 10, 11, 12] (by decide) rfl
      generalize H1 = H at hP hS ⊢
      refine lv_if_ne (tgt := 107) hx hb dX6_pieceOf_71 (by decide) (fun c_6 => ?_) (fun c_6 => ?_)
      · have h := h.2 c_6
        refine lv_iconst (v := 0) hx hb dX6_pieceOf_107 (by decide) ?_
        refine lv_istore (lv' := [(10, .int 0), (9, .int (mtM ((3 * v7) + 1).toNatClampNeg)), (8, .int (mtM (3 * v7).toNatClampNeg)), (0, .ref (adM 0)), (2, .long p2), (4, .long v4), (6, .int v6), (7, .int v7)]) hx hb dX6_pieceOf_108 hl (by decide) rfl (fun ls hl => ?_)
        refine lv_lload hx hb dX6_pieceOf_110 (lv_at hl 5 rfl) ?_
        refine lv_iload hx hb dX6_pieceOf_112 (lv_at hl 0 rfl) ?_
        refine lv_if_eq (tgt := 129) hx hb dX6_pieceOf_114 (by decide) (fun c_7 => ?_) (fun c_7 => ?_)
        · have h := h.1 c_7
          refine lv_lconst (v := 0) hx hb dX6_pieceOf_129 (by decide) ?_
          refine lv_lor hx hb dX6_pieceOf_130 ?_
          refine lv_lstore (lv' := [(4, .long (v4 ||| 0)), (10, .int 0), (9, .int (mtM ((3 * v7) + 1).toNatClampNeg)), (8, .int (mtM (3 * v7).toNatClampNeg)), (0, .ref (adM 0)), (2, .long p2), (6, .int v6), (7, .int v7)]) hx hb dX6_pieceOf_131 hl (by decide) rfl (fun ls hl => ?_)
          refine lv_iinc (v := v7 + 1) (lv' := [(7, .int (v7 + 1)), (4, .long (v4 ||| 0)), (10, .int 0), (9, .int (mtM ((3 * v7) + 1).toNatClampNeg)), (8, .int (mtM (3 * v7).toNatClampNeg)), (0, .ref (adM 0)), (2, .long p2), (6, .int v6)]) hx hb dX6_pieceOf_133 hl (k := 7) rfl rfl (by decide) rfl (fun ls hl => ?_)
          refine lv_goto (tgt := 30) hx hb dX6_pieceOf_136 (by decide) ?_
          rw [hA30] at h
          exact h _ _ hP hD hS ls (lv_sub hl [5, 6, 1, 7, 0] rfl)
        · have h := h.2 c_7
          refine lv_lconst (v := 1) hx hb dX6_pieceOf_117 (by decide) ?_
          refine lv_iload hx hb dX6_pieceOf_118 (lv_at hl 2 rfl) ?_
          refine lv_lshl hx hb dX6_pieceOf_120 rfl ?_
          refine lv_lconst (v := 1) hx hb dX6_pieceOf_121 (by decide) ?_
          refine lv_iload hx hb dX6_pieceOf_122 (lv_at hl 1 rfl) ?_
          refine lv_lshl hx hb dX6_pieceOf_124 rfl ?_
          refine lv_lor hx hb dX6_pieceOf_125 ?_
          refine lv_goto (tgt := 130) hx hb dX6_pieceOf_126 (by decide) ?_
          refine lv_lor hx hb dX6_pieceOf_130 ?_
          refine lv_topl (fun y_8 ey_8 => ?_)
          have h := h y_8 ey_8
          refine lv_lstore (lv' := [(4, .long y_8), (10, .int 0), (9, .int (mtM ((3 * v7) + 1).toNatClampNeg)), (8, .int (mtM (3 * v7).toNatClampNeg)), (0, .ref (adM 0)), (2, .long p2), (6, .int v6), (7, .int v7)]) hx hb dX6_pieceOf_131 hl (by decide) rfl (fun ls hl => ?_)
          refine lv_iinc (v := v7 + 1) (lv' := [(7, .int (v7 + 1)), (4, .long y_8), (10, .int 0), (9, .int (mtM ((3 * v7) + 1).toNatClampNeg)), (8, .int (mtM (3 * v7).toNatClampNeg)), (0, .ref (adM 0)), (2, .long p2), (6, .int v6)]) hx hb dX6_pieceOf_133 hl (k := 7) rfl rfl (by decide) rfl (fun ls hl => ?_)
          refine lv_goto (tgt := 30) hx hb dX6_pieceOf_136 (by decide) ?_
          rw [hA30] at h
          exact h _ _ hP hD hS ls (lv_sub hl [5, 6, 1, 7, 0] rfl)
      · have h := h.1 c_6
        refine lv_lload_n hx hb dX6_pieceOf_74 rfl (lv_at hl 3 rfl) ?_
        refine lv_iload hx hb dX6_pieceOf_75 (lv_at hl 0 rfl) ?_
        have hFc := va_free (wc := ([] : va_W)) hD hS hA [] rfl
        refine va_calli (va_runS (As := [.long p2, .int (mtM ((3 * v7) + 1).toNatClampNeg)]) (rest := []) ⟨hx, hb, hml, hown, hts⟩ (met_X6_isOff l D cs ev _ p2 (mtM ((3 * v7) + 1).toNatClampNeg) _ h) (va_cwS 2 hts gX6_pieceOf_X6_isOff rfl rfl rfl (by decide +kernel) ⟨Nat.le_of_ble_eq_true rfl, Nat.le_of_ble_eq_true rfl⟩) (mPreS hP hD hS hK hE hFc [] (by decide) rfl) rfl rfl hl.1 rfl (lv_room (Nat.le_of_ble_eq_true rfl)) dX6_pieceOf_77 ⟨Nat.le_of_ble_eq_true rfl, Nat.le_of_ble_eq_true rfl⟩) hS (fun q _ h => hFc q h) hFc (fun r_9 u t H1 locs ht hvm hw hB hz1 hk1 hS => ?_)
        have h := hw
        obtain ⟨hP1, hK1, hD1⟩ := hB
        rw [ht] at hP1
        obtain ⟨hP, hD⟩ := mJoin (wr := (sh_M cs adM mpM mkM mgM mcM mwM mfM mtM mhM mmM mdM mxM mnM szM faM apM waM wrM fuM)) (w1 := ([] : va_W)) (w' := (sh_M cs adM mpM mkM mgM mcM mwM mfM mtM mhM mmM mdM mxM mnM szM faM apM waM wrM fuM)) hP hD [] [0, 1, 2, 3, 4, 5, 6, 7, 8, 9, 10, 11, 12] rfl rfl (by decide) (by decide) hk1 hFc hP1 hD1 [0, 1, 2, 3, 4, 5, 6, 7, 8, 9, 10, 11, 12] (by decide) rfl
        generalize H1 = H at hP hS ⊢
        refine lv_if_ne (tgt := 107) hx hb dX6_pieceOf_80 (by decide) (fun c_10 => ?_) (fun c_10 => ?_)
        · have h := h.2 c_10
          refine lv_iconst (v := 0) hx hb dX6_pieceOf_107 (by decide) ?_
          refine lv_istore (lv' := [(10, .int 0), (9, .int (mtM ((3 * v7) + 1).toNatClampNeg)), (8, .int (mtM (3 * v7).toNatClampNeg)), (0, .ref (adM 0)), (2, .long p2), (4, .long v4), (6, .int v6), (7, .int v7)]) hx hb dX6_pieceOf_108 hl (by decide) rfl (fun ls hl => ?_)
          refine lv_lload hx hb dX6_pieceOf_110 (lv_at hl 5 rfl) ?_
          refine lv_iload hx hb dX6_pieceOf_112 (lv_at hl 0 rfl) ?_
          refine lv_if_eq (tgt := 129) hx hb dX6_pieceOf_114 (by decide) (fun c_11 => ?_) (fun c_11 => ?_)
          · have h := h.1 c_11
            refine lv_lconst (v := 0) hx hb dX6_pieceOf_129 (by decide) ?_
            refine lv_lor hx hb dX6_pieceOf_130 ?_
            refine lv_lstore (lv' := [(4, .long (v4 ||| 0)), (10, .int 0), (9, .int (mtM ((3 * v7) + 1).toNatClampNeg)), (8, .int (mtM (3 * v7).toNatClampNeg)), (0, .ref (adM 0)), (2, .long p2), (6, .int v6), (7, .int v7)]) hx hb dX6_pieceOf_131 hl (by decide) rfl (fun ls hl => ?_)
            refine lv_iinc (v := v7 + 1) (lv' := [(7, .int (v7 + 1)), (4, .long (v4 ||| 0)), (10, .int 0), (9, .int (mtM ((3 * v7) + 1).toNatClampNeg)), (8, .int (mtM (3 * v7).toNatClampNeg)), (0, .ref (adM 0)), (2, .long p2), (6, .int v6)]) hx hb dX6_pieceOf_133 hl (k := 7) rfl rfl (by decide) rfl (fun ls hl => ?_)
            refine lv_goto (tgt := 30) hx hb dX6_pieceOf_136 (by decide) ?_
            rw [hA30] at h
            exact h _ _ hP hD hS ls (lv_sub hl [5, 6, 1, 7, 0] rfl)
          · have h := h.2 c_11
            refine lv_lconst (v := 1) hx hb dX6_pieceOf_117 (by decide) ?_
            refine lv_iload hx hb dX6_pieceOf_118 (lv_at hl 2 rfl) ?_
            refine lv_lshl hx hb dX6_pieceOf_120 rfl ?_
            refine lv_lconst (v := 1) hx hb dX6_pieceOf_121 (by decide) ?_
            refine lv_iload hx hb dX6_pieceOf_122 (lv_at hl 1 rfl) ?_
            refine lv_lshl hx hb dX6_pieceOf_124 rfl ?_
            refine lv_lor hx hb dX6_pieceOf_125 ?_
            refine lv_goto (tgt := 130) hx hb dX6_pieceOf_126 (by decide) ?_
            refine lv_lor hx hb dX6_pieceOf_130 ?_
            refine lv_topl (fun y_12 ey_12 => ?_)
            have h := h y_12 ey_12
            refine lv_lstore (lv' := [(4, .long y_12), (10, .int 0), (9, .int (mtM ((3 * v7) + 1).toNatClampNeg)), (8, .int (mtM (3 * v7).toNatClampNeg)), (0, .ref (adM 0)), (2, .long p2), (6, .int v6), (7, .int v7)]) hx hb dX6_pieceOf_131 hl (by decide) rfl (fun ls hl => ?_)
            refine lv_iinc (v := v7 + 1) (lv' := [(7, .int (v7 + 1)), (4, .long y_12), (10, .int 0), (9, .int (mtM ((3 * v7) + 1).toNatClampNeg)), (8, .int (mtM (3 * v7).toNatClampNeg)), (0, .ref (adM 0)), (2, .long p2), (6, .int v6)]) hx hb dX6_pieceOf_133 hl (k := 7) rfl rfl (by decide) rfl (fun ls hl => ?_)
            refine lv_goto (tgt := 30) hx hb dX6_pieceOf_136 (by decide) ?_
            rw [hA30] at h
            exact h _ _ hP hD hS ls (lv_sub hl [5, 6, 1, 7, 0] rfl)
        · have h := h.1 c_10
          refine lv_lload hx hb dX6_pieceOf_83 (lv_at hl 4 rfl) ?_
          refine lv_iload hx hb dX6_pieceOf_85 (lv_at hl 1 rfl) ?_
          have hFc := va_free (wc := ([] : va_W)) hD hS hA [] rfl
          refine va_calli (va_runS (As := [.long v4, .int (mtM (3 * v7).toNatClampNeg)]) (rest := []) ⟨hx, hb, hml, hown, hts⟩ (met_X6_isOff l D cs ev _ v4 (mtM (3 * v7).toNatClampNeg) _ h) (va_cwS 2 hts gX6_pieceOf_X6_isOff rfl rfl rfl (by decide +kernel) ⟨Nat.le_of_ble_eq_true rfl, Nat.le_of_ble_eq_true rfl⟩) (mPreS hP hD hS hK hE hFc [] (by decide) rfl) rfl rfl hl.1 rfl (lv_room (Nat.le_of_ble_eq_true rfl)) dX6_pieceOf_87 ⟨Nat.le_of_ble_eq_true rfl, Nat.le_of_ble_eq_true rfl⟩) hS (fun q _ h => hFc q h) hFc (fun r_13 u t H1 locs ht hvm hw hB hz1 hk1 hS => ?_)
          have h := hw
          obtain ⟨hP1, hK1, hD1⟩ := hB
          rw [ht] at hP1
          obtain ⟨hP, hD⟩ := mJoin (wr := (sh_M cs adM mpM mkM mgM mcM mwM mfM mtM mhM mmM mdM mxM mnM szM faM apM waM wrM fuM)) (w1 := ([] : va_W)) (w' := (sh_M cs adM mpM mkM mgM mcM mwM mfM mtM mhM mmM mdM mxM mnM szM faM apM waM wrM fuM)) hP hD [] [0, 1, 2, 3, 4, 5, 6, 7, 8, 9, 10, 11, 12] rfl rfl (by decide) (by decide) hk1 hFc hP1 hD1 [0, 1, 2, 3, 4, 5, 6, 7, 8, 9, 10, 11, 12] (by decide) rfl
          generalize H1 = H at hP hS ⊢
          refine lv_if_ne (tgt := 103) hx hb dX6_pieceOf_90 (by decide) (fun c_14 => ?_) (fun c_14 => ?_)
          · have h := h.2 c_14
            refine lv_iconst (v := 1) hx hb dX6_pieceOf_103 (by decide) ?_
            refine lv_goto (tgt := 108) hx hb dX6_pieceOf_104 (by decide) ?_
            refine lv_istore (lv' := [(10, .int 1), (9, .int (mtM ((3 * v7) + 1).toNatClampNeg)), (8, .int (mtM (3 * v7).toNatClampNeg)), (0, .ref (adM 0)), (2, .long p2), (4, .long v4), (6, .int v6), (7, .int v7)]) hx hb dX6_pieceOf_108 hl (by decide) rfl (fun ls hl => ?_)
            refine lv_lload hx hb dX6_pieceOf_110 (lv_at hl 5 rfl) ?_
            refine lv_iload hx hb dX6_pieceOf_112 (lv_at hl 0 rfl) ?_
            refine lv_if_eq (tgt := 129) hx hb dX6_pieceOf_114 (by decide) (fun c_15 => ?_) (fun c_15 => ?_)
            · have h := h.1 c_15
              refine lv_lconst (v := 0) hx hb dX6_pieceOf_129 (by decide) ?_
              refine lv_lor hx hb dX6_pieceOf_130 ?_
              refine lv_lstore (lv' := [(4, .long (v4 ||| 0)), (10, .int 1), (9, .int (mtM ((3 * v7) + 1).toNatClampNeg)), (8, .int (mtM (3 * v7).toNatClampNeg)), (0, .ref (adM 0)), (2, .long p2), (6, .int v6), (7, .int v7)]) hx hb dX6_pieceOf_131 hl (by decide) rfl (fun ls hl => ?_)
              refine lv_iinc (v := v7 + 1) (lv' := [(7, .int (v7 + 1)), (4, .long (v4 ||| 0)), (10, .int 1), (9, .int (mtM ((3 * v7) + 1).toNatClampNeg)), (8, .int (mtM (3 * v7).toNatClampNeg)), (0, .ref (adM 0)), (2, .long p2), (6, .int v6)]) hx hb dX6_pieceOf_133 hl (k := 7) rfl rfl (by decide) rfl (fun ls hl => ?_)
              refine lv_goto (tgt := 30) hx hb dX6_pieceOf_136 (by decide) ?_
              rw [hA30] at h
              exact h _ _ hP hD hS ls (lv_sub hl [5, 6, 1, 7, 0] rfl)
            · have h := h.2 c_15
              refine lv_lconst (v := 1) hx hb dX6_pieceOf_117 (by decide) ?_
              refine lv_iload hx hb dX6_pieceOf_118 (lv_at hl 2 rfl) ?_
              refine lv_lshl hx hb dX6_pieceOf_120 rfl ?_
              refine lv_lconst (v := 1) hx hb dX6_pieceOf_121 (by decide) ?_
              refine lv_iload hx hb dX6_pieceOf_122 (lv_at hl 1 rfl) ?_
              refine lv_lshl hx hb dX6_pieceOf_124 rfl ?_
              refine lv_lor hx hb dX6_pieceOf_125 ?_
              refine lv_goto (tgt := 130) hx hb dX6_pieceOf_126 (by decide) ?_
              refine lv_lor hx hb dX6_pieceOf_130 ?_
              refine lv_topl (fun y_16 ey_16 => ?_)
              have h := h y_16 ey_16
              refine lv_lstore (lv' := [(4, .long y_16), (10, .int 1), (9, .int (mtM ((3 * v7) + 1).toNatClampNeg)), (8, .int (mtM (3 * v7).toNatClampNeg)), (0, .ref (adM 0)), (2, .long p2), (6, .int v6), (7, .int v7)]) hx hb dX6_pieceOf_131 hl (by decide) rfl (fun ls hl => ?_)
              refine lv_iinc (v := v7 + 1) (lv' := [(7, .int (v7 + 1)), (4, .long y_16), (10, .int 1), (9, .int (mtM ((3 * v7) + 1).toNatClampNeg)), (8, .int (mtM (3 * v7).toNatClampNeg)), (0, .ref (adM 0)), (2, .long p2), (6, .int v6)]) hx hb dX6_pieceOf_133 hl (k := 7) rfl rfl (by decide) rfl (fun ls hl => ?_)
              refine lv_goto (tgt := 30) hx hb dX6_pieceOf_136 (by decide) ?_
              rw [hA30] at h
              exact h _ _ hP hD hS ls (lv_sub hl [5, 6, 1, 7, 0] rfl)
          · have h := h.1 c_14
            refine lv_lload hx hb dX6_pieceOf_93 (lv_at hl 4 rfl) ?_
            refine lv_iload hx hb dX6_pieceOf_95 (lv_at hl 0 rfl) ?_
            have hFc := va_free (wc := ([] : va_W)) hD hS hA [] rfl
            refine va_calli (va_runS (As := [.long v4, .int (mtM ((3 * v7) + 1).toNatClampNeg)]) (rest := []) ⟨hx, hb, hml, hown, hts⟩ (met_X6_isOff l D cs ev _ v4 (mtM ((3 * v7) + 1).toNatClampNeg) _ h) (va_cwS 2 hts gX6_pieceOf_X6_isOff rfl rfl rfl (by decide +kernel) ⟨Nat.le_of_ble_eq_true rfl, Nat.le_of_ble_eq_true rfl⟩) (mPreS hP hD hS hK hE hFc [] (by decide) rfl) rfl rfl hl.1 rfl (lv_room (Nat.le_of_ble_eq_true rfl)) dX6_pieceOf_97 ⟨Nat.le_of_ble_eq_true rfl, Nat.le_of_ble_eq_true rfl⟩) hS (fun q _ h => hFc q h) hFc (fun r_17 u t H1 locs ht hvm hw hB hz1 hk1 hS => ?_)
            have h := hw
            obtain ⟨hP1, hK1, hD1⟩ := hB
            rw [ht] at hP1
            obtain ⟨hP, hD⟩ := mJoin (wr := (sh_M cs adM mpM mkM mgM mcM mwM mfM mtM mhM mmM mdM mxM mnM szM faM apM waM wrM fuM)) (w1 := ([] : va_W)) (w' := (sh_M cs adM mpM mkM mgM mcM mwM mfM mtM mhM mmM mdM mxM mnM szM faM apM waM wrM fuM)) hP hD [] [0, 1, 2, 3, 4, 5, 6, 7, 8, 9, 10, 11, 12] rfl rfl (by decide) (by decide) hk1 hFc hP1 hD1 [0, 1, 2, 3, 4, 5, 6, 7, 8, 9, 10, 11, 12] (by decide) rfl
            generalize H1 = H at hP hS ⊢
            refine lv_if_eq (tgt := 107) hx hb dX6_pieceOf_100 (by decide) (fun c_18 => ?_) (fun c_18 => ?_)
            · have h := h.1 c_18
              refine lv_iconst (v := 0) hx hb dX6_pieceOf_107 (by decide) ?_
              refine lv_istore (lv' := [(10, .int 0), (9, .int (mtM ((3 * v7) + 1).toNatClampNeg)), (8, .int (mtM (3 * v7).toNatClampNeg)), (0, .ref (adM 0)), (2, .long p2), (4, .long v4), (6, .int v6), (7, .int v7)]) hx hb dX6_pieceOf_108 hl (by decide) rfl (fun ls hl => ?_)
              refine lv_lload hx hb dX6_pieceOf_110 (lv_at hl 5 rfl) ?_
              refine lv_iload hx hb dX6_pieceOf_112 (lv_at hl 0 rfl) ?_
              refine lv_if_eq (tgt := 129) hx hb dX6_pieceOf_114 (by decide) (fun c_19 => ?_) (fun c_19 => ?_)
              · have h := h.1 c_19
                refine lv_lconst (v := 0) hx hb dX6_pieceOf_129 (by decide) ?_
                refine lv_lor hx hb dX6_pieceOf_130 ?_
                refine lv_lstore (lv' := [(4, .long (v4 ||| 0)), (10, .int 0), (9, .int (mtM ((3 * v7) + 1).toNatClampNeg)), (8, .int (mtM (3 * v7).toNatClampNeg)), (0, .ref (adM 0)), (2, .long p2), (6, .int v6), (7, .int v7)]) hx hb dX6_pieceOf_131 hl (by decide) rfl (fun ls hl => ?_)
                refine lv_iinc (v := v7 + 1) (lv' := [(7, .int (v7 + 1)), (4, .long (v4 ||| 0)), (10, .int 0), (9, .int (mtM ((3 * v7) + 1).toNatClampNeg)), (8, .int (mtM (3 * v7).toNatClampNeg)), (0, .ref (adM 0)), (2, .long p2), (6, .int v6)]) hx hb dX6_pieceOf_133 hl (k := 7) rfl rfl (by decide) rfl (fun ls hl => ?_)
                refine lv_goto (tgt := 30) hx hb dX6_pieceOf_136 (by decide) ?_
                rw [hA30] at h
                exact h _ _ hP hD hS ls (lv_sub hl [5, 6, 1, 7, 0] rfl)
              · have h := h.2 c_19
                refine lv_lconst (v := 1) hx hb dX6_pieceOf_117 (by decide) ?_
                refine lv_iload hx hb dX6_pieceOf_118 (lv_at hl 2 rfl) ?_
                refine lv_lshl hx hb dX6_pieceOf_120 rfl ?_
                refine lv_lconst (v := 1) hx hb dX6_pieceOf_121 (by decide) ?_
                refine lv_iload hx hb dX6_pieceOf_122 (lv_at hl 1 rfl) ?_
                refine lv_lshl hx hb dX6_pieceOf_124 rfl ?_
                refine lv_lor hx hb dX6_pieceOf_125 ?_
                refine lv_goto (tgt := 130) hx hb dX6_pieceOf_126 (by decide) ?_
                refine lv_lor hx hb dX6_pieceOf_130 ?_
                refine lv_topl (fun y_20 ey_20 => ?_)
                have h := h y_20 ey_20
                refine lv_lstore (lv' := [(4, .long y_20), (10, .int 0), (9, .int (mtM ((3 * v7) + 1).toNatClampNeg)), (8, .int (mtM (3 * v7).toNatClampNeg)), (0, .ref (adM 0)), (2, .long p2), (6, .int v6), (7, .int v7)]) hx hb dX6_pieceOf_131 hl (by decide) rfl (fun ls hl => ?_)
                refine lv_iinc (v := v7 + 1) (lv' := [(7, .int (v7 + 1)), (4, .long y_20), (10, .int 0), (9, .int (mtM ((3 * v7) + 1).toNatClampNeg)), (8, .int (mtM (3 * v7).toNatClampNeg)), (0, .ref (adM 0)), (2, .long p2), (6, .int v6)]) hx hb dX6_pieceOf_133 hl (k := 7) rfl rfl (by decide) rfl (fun ls hl => ?_)
                refine lv_goto (tgt := 30) hx hb dX6_pieceOf_136 (by decide) ?_
                rw [hA30] at h
                exact h _ _ hP hD hS ls (lv_sub hl [5, 6, 1, 7, 0] rfl)
            · have h := h.2 c_18
              refine lv_iconst (v := 1) hx hb dX6_pieceOf_103 (by decide) ?_
              refine lv_goto (tgt := 108) hx hb dX6_pieceOf_104 (by decide) ?_
              refine lv_istore (lv' := [(10, .int 1), (9, .int (mtM ((3 * v7) + 1).toNatClampNeg)), (8, .int (mtM (3 * v7).toNatClampNeg)), (0, .ref (adM 0)), (2, .long p2), (4, .long v4), (6, .int v6), (7, .int v7)]) hx hb dX6_pieceOf_108 hl (by decide) rfl (fun ls hl => ?_)
              refine lv_lload hx hb dX6_pieceOf_110 (lv_at hl 5 rfl) ?_
              refine lv_iload hx hb dX6_pieceOf_112 (lv_at hl 0 rfl) ?_
              refine lv_if_eq (tgt := 129) hx hb dX6_pieceOf_114 (by decide) (fun c_21 => ?_) (fun c_21 => ?_)
              · have h := h.1 c_21
                refine lv_lconst (v := 0) hx hb dX6_pieceOf_129 (by decide) ?_
                refine lv_lor hx hb dX6_pieceOf_130 ?_
                refine lv_lstore (lv' := [(4, .long (v4 ||| 0)), (10, .int 1), (9, .int (mtM ((3 * v7) + 1).toNatClampNeg)), (8, .int (mtM (3 * v7).toNatClampNeg)), (0, .ref (adM 0)), (2, .long p2), (6, .int v6), (7, .int v7)]) hx hb dX6_pieceOf_131 hl (by decide) rfl (fun ls hl => ?_)
                refine lv_iinc (v := v7 + 1) (lv' := [(7, .int (v7 + 1)), (4, .long (v4 ||| 0)), (10, .int 1), (9, .int (mtM ((3 * v7) + 1).toNatClampNeg)), (8, .int (mtM (3 * v7).toNatClampNeg)), (0, .ref (adM 0)), (2, .long p2), (6, .int v6)]) hx hb dX6_pieceOf_133 hl (k := 7) rfl rfl (by decide) rfl (fun ls hl => ?_)
                refine lv_goto (tgt := 30) hx hb dX6_pieceOf_136 (by decide) ?_
                rw [hA30] at h
                exact h _ _ hP hD hS ls (lv_sub hl [5, 6, 1, 7, 0] rfl)
              · have h := h.2 c_21
                refine lv_lconst (v := 1) hx hb dX6_pieceOf_117 (by decide) ?_
                refine lv_iload hx hb dX6_pieceOf_118 (lv_at hl 2 rfl) ?_
                refine lv_lshl hx hb dX6_pieceOf_120 rfl ?_
                refine lv_lconst (v := 1) hx hb dX6_pieceOf_121 (by decide) ?_
                refine lv_iload hx hb dX6_pieceOf_122 (lv_at hl 1 rfl) ?_
                refine lv_lshl hx hb dX6_pieceOf_124 rfl ?_
                refine lv_lor hx hb dX6_pieceOf_125 ?_
                refine lv_goto (tgt := 130) hx hb dX6_pieceOf_126 (by decide) ?_
                refine lv_lor hx hb dX6_pieceOf_130 ?_
                refine lv_topl (fun y_22 ey_22 => ?_)
                have h := h y_22 ey_22
                refine lv_lstore (lv' := [(4, .long y_22), (10, .int 1), (9, .int (mtM ((3 * v7) + 1).toNatClampNeg)), (8, .int (mtM (3 * v7).toNatClampNeg)), (0, .ref (adM 0)), (2, .long p2), (6, .int v6), (7, .int v7)]) hx hb dX6_pieceOf_131 hl (by decide) rfl (fun ls hl => ?_)
                refine lv_iinc (v := v7 + 1) (lv' := [(7, .int (v7 + 1)), (4, .long y_22), (10, .int 1), (9, .int (mtM ((3 * v7) + 1).toNatClampNeg)), (8, .int (mtM (3 * v7).toNatClampNeg)), (0, .ref (adM 0)), (2, .long p2), (6, .int v6)]) hx hb dX6_pieceOf_133 hl (k := 7) rfl rfl (by decide) rfl (fun ls hl => ?_)
                refine lv_goto (tgt := 30) hx hb dX6_pieceOf_136 (by decide) ?_
                rw [hA30] at h
                exact h _ _ hP hD hS ls (lv_sub hl [5, 6, 1, 7, 0] rfl)
  have h := h A20 A30 s20 s30
  refine lv_lload_n hx hb dX6_pieceOf_0 rfl (lv_at hl 2 rfl) ?_
  refine lv_iload_n hx hb dX6_pieceOf_1 rfl (lv_at hl 1 rfl) ?_
  have hFc := va_free (wc := ([] : va_W)) hD hS hA [] rfl
  refine va_calli (va_runS (As := [.long p2, .int p1]) (rest := []) ⟨hx, hb, hml, hown, hts⟩ (met_X6_isOff l D cs ev _ p2 p1 _ h) (va_cwS 2 hts gX6_pieceOf_X6_isOff rfl rfl rfl (by decide +kernel) ⟨Nat.le_of_ble_eq_true rfl, Nat.le_of_ble_eq_true rfl⟩) (mPreS hP hD hS hK hE hFc [] (by decide) rfl) rfl rfl hl.1 rfl (lv_room (Nat.le_of_ble_eq_true rfl)) dX6_pieceOf_2 ⟨Nat.le_of_ble_eq_true rfl, Nat.le_of_ble_eq_true rfl⟩) hS (fun q _ h => hFc q h) hFc (fun r_1 u t H1 locs ht hvm hw hB hz1 hk1 hS => ?_)
  have h := hw
  obtain ⟨hP1, hK1, hD1⟩ := hB
  rw [ht] at hP1
  obtain ⟨hP, hD⟩ := mJoin (wr := (sh_M cs adM mpM mkM mgM mcM mwM mfM mtM mhM mmM mdM mxM mnM szM faM apM waM wrM fuM)) (w1 := ([] : va_W)) (w' := (sh_M cs adM mpM mkM mgM mcM mwM mfM mtM mhM mmM mdM mxM mnM szM faM apM waM wrM fuM)) hP hD [] [0, 1, 2, 3, 4, 5, 6, 7, 8, 9, 10, 11, 12] rfl rfl (by decide) (by decide) hk1 hFc hP1 hD1 [0, 1, 2, 3, 4, 5, 6, 7, 8, 9, 10, 11, 12] (by decide) rfl
  generalize H1 = H at hP hS ⊢
  refine lv_if_eq (tgt := 12) hx hb dX6_pieceOf_5 (by decide) (fun c_2 => ?_) (fun c_2 => ?_)
  · have h := h.1 c_2
    refine lv_lconst (v := 1) hx hb dX6_pieceOf_12 (by decide) ?_
    refine lv_iload_n hx hb dX6_pieceOf_13 rfl (lv_at hl 1 rfl) ?_
    refine lv_lshl hx hb dX6_pieceOf_14 rfl ?_
    refine lv_lstore (lv' := [(4, .long (1 <<< (p1.toInt64 &&& 63))), (0, .ref (adM 0)), (1, .int p1), (2, .long p2)]) hx hb dX6_pieceOf_15 hl (by decide) rfl (fun ls hl => ?_)
    refine lv_iconst (v := 0) hx hb dX6_pieceOf_17 (by decide) ?_
    refine lv_istore (lv' := [(6, .int 0), (4, .long (1 <<< (p1.toInt64 &&& 63))), (0, .ref (adM 0)), (1, .int p1), (2, .long p2)]) hx hb dX6_pieceOf_18 hl (by decide) rfl (fun ls hl => ?_)
    rw [hA20] at h
    exact h _ _ hP hD hS ls (lv_sub hl [2, 4, 1, 0] rfl)
  · have h := h.2 c_2
    refine lv_lconst (v := 0) hx hb dX6_pieceOf_8 (by decide) ?_
    refine lv_goto (tgt := 15) hx hb dX6_pieceOf_9 (by decide) ?_
    refine lv_lstore (lv' := [(4, .long 0), (0, .ref (adM 0)), (1, .int p1), (2, .long p2)]) hx hb dX6_pieceOf_15 hl (by decide) rfl (fun ls hl => ?_)
    refine lv_iconst (v := 0) hx hb dX6_pieceOf_17 (by decide) ?_
    refine lv_istore (lv' := [(6, .int 0), (4, .long 0), (0, .ref (adM 0)), (1, .int p1), (2, .long p2)]) hx hb dX6_pieceOf_18 hl (by decide) rfl (fun ls hl => ?_)
    rw [hA20] at h
    exact h _ _ hP hD hS ls (lv_sub hl [2, 4, 1, 0] rfl)
def wp_X6_holds (mpM : Nat → Int32) (mfM : Nat → Int32) (mtM : Nat → Int32) (p1 : Int32) (p2 : Int32) (p3 : Int32) (post : Int32 → Int32 → Prop) : Prop :=
    wp_X6_isPart mpM 0 p1 (fun r_1 _ => ((r_1 = 0 → post 0 0) ∧ (¬ r_1 = 0 → wp_X6_isPart mpM 0 p2 (fun r_3 _ => ((r_3 = 0 → post 0 0) ∧ (¬ r_3 = 0 → wp_X6_pieceOf mfM mtM p1 p3.toInt64 (fun r_5 _ => wp_X6_isOff r_5 p2 (fun r_6 _ => ((r_6 = 0 → post 0 0) ∧ (¬ r_6 = 0 → post 1 0))))))))))
set_option maxHeartbeats 4000000 in
set_option maxRecDepth 100000 in
theorem met_X6_holds (l : Launch) (D : va_G) (cs : Nat → ClassId) (ev : Nat → Nat → Nat) (sz0 : Nat) (adM : Nat → Nat) (mpM : Nat → Int32) (mkM : Nat → Int32) (mgM : Nat → Int32) (mcM : Nat → Int32) (mwM : Nat → Int32) (mfM : Nat → Int32) (mtM : Nat → Int32) (mhM : Nat → Int32) (mmM : Nat → Int32) (mdM : Nat → Int32) (mxM : Nat → Int32) (mnM : Nat → Int32) (szM : Int32) (faM : Int32) (apM : Int32) (waM : Int32) (wrM : Int32) (fuM : Int32) (p1 : Int32) (p2 : Int32) (p3 : Int32) (post : Int32 → Int32 → Prop) (h : wp_X6_holds mpM mfM mtM p1 p2 p3 post) : Met l yX6_holds wsX6_holds ({ frames := 2, cells := 0, slots := 0, locals := 52 }) (va_Pc [.ref (adM 0), .int p1, .int p2, .int p3] (mPre D cs ev (sh_M cs adM mpM mkM mgM mcM mwM mfM mtM mhM mmM mdM mxM mnM szM faM apM waM wrM fuM) sz0)) (va_Qi post (fun faM' t => mAt D cs (va_A (sh_M cs adM mpM mkM mgM mcM mwM mfM mtM mhM mmM mdM mxM mnM szM faM apM waM wrM fuM) sz0) (sh_M cs adM mpM mkM mgM mcM mwM mfM mtM mhM mmM mdM mxM mnM szM faM' apM waM wrM fuM) t) (va_A (sh_M cs adM mpM mkM mgM mcM mwM mfM mtM mhM mmM mdM mxM mnM szM faM apM waM wrM fuM) sz0)) 0 0 (va_A (sh_M cs adM mpM mkM mgM mcM mwM mfM mtM mhM mmM mdM mxM mnM szM faM apM waM wrM fuM) sz0) := by
  refine Met.ofW (cc := cX6_holds) (maxL := 4) (ret := (some .boolean)) (by decide) rfl ?_
  intro p e s m args below meth c s₁ B hml hv
  obtain ⟨rfl, hsz, hP, hK, hD0, hE⟩ := hv
  have hx := B.exec
  have hb := B.bytes
  have hr := B.returns
  have hts := atoms_spec (ws := wsX6_holds) B.pre
  have hown : s.vm.findClass RX6 = some m.cls := findClass_of_methodNamed B.named
  have hlocks := B.notSynchronized
  subst hsz
  have hD := hD0.self (sz := s.heap.size)
  generalize hAe : va_A (sh_M cs adM mpM mkM mgM mcM mwM mfM mtM mhM mmM mdM mxM mnM szM faM apM waM wrM fuM) s.heap.size = A at hD hE ⊢
  have hA : ∀ q : Nat, s.heap.size ≤ q → A q := fun q h => by rw [← hAe]; exact Or.inr h
  have hS : va_S A s.heap s.heap [] := va_S.rf
  have hl := lv_entry ([.ref (adM 0), .int p1, .int p2, .int p3]) (n := 4) (Nat.le_of_ble_eq_true rfl)
  rw [lg_entry_eq]
  generalize (lg_sl ([.ref (adM 0), .int p1, .int p2, .int p3]) ++ List.replicate (4 - (lg_sl ([.ref (adM 0), .int p1, .int p2, .int p3])).length) Slot.unset).toArray = ls at hl ⊢
  have hl : lv_has ls 4 [(0, .ref (adM 0)), (1, .int p1), (2, .int p2), (3, .int p3)] := hl
  refine lv_aload_n hx hb dX6_holds_0 rfl (lv_at hl 0 rfl) ?_
  refine lv_iconst (v := 0) hx hb dX6_holds_1 (by decide) ?_
  refine va_put (D := D) (ci := 5) (v := .int 0) (ty := .int) (C := RX6) (T := TX6) (N := 18) hx hb hts (by decide +kernel) tyX6 tyX6_ok nmX6 hown hK hP hD hS 0 rfl rfl 12 (by decide) (hts (.fieldLink RX6 52 "PartGraphsModel" "fault" "I") (by decide +kernel)) (fun _ h9 => h9) rfl (by decide +kernel) rfl rfl (Nat.le_of_ble_eq_true rfl) dX6_holds_2 (fun H locs hP hD hS => ?_)
  have hP : va_P D vwCl (sh_M cs adM mpM mkM mgM mcM mwM mfM mtM mhM mmM mdM mxM mnM szM 0 apM waM wrM fuM) H := hP
  have hD : va_D A (sh_M cs adM mpM mkM mgM mcM mwM mfM mtM mhM mmM mdM mxM mnM szM 0 apM waM wrM fuM) := hD
  refine lv_aload_n hx hb dX6_holds_5 rfl (lv_at hl 0 rfl) ?_
  refine lv_iconst (v := 0) hx hb dX6_holds_6 (by decide) ?_
  refine lv_iload_n hx hb dX6_holds_7 rfl (lv_at hl 1 rfl) ?_
  have hFc := va_free (wc := (sh_M cs adM mpM mkM mgM mcM mwM mfM mtM mhM mmM mdM mxM mnM szM 0 apM waM wrM fuM)) hD hS hA [0, 1, 2, 3, 4, 5, 6, 7, 8, 9, 10, 11, 12] rfl
  refine va_calli (va_runV (As := [.int 0, .int p1]) (rest := []) ⟨hx, hb, hml, hown, hts⟩ (met_X6_isPart l D cs ev _ adM mpM mkM mgM mcM mwM mfM mtM mhM mmM mdM mxM mnM szM 0 apM waM wrM fuM 0 p1 _ h) (cwV 2 hts gX6_holds_X6_isPart rfl rfl rfl (by decide +kernel) ⟨Nat.le_of_ble_eq_true rfl, Nat.le_of_ble_eq_true rfl⟩) (mPreV (va_recv hK hP (ci := 5) (q0 := 0) rfl rfl) hP hD hS hK hE hFc [0, 1, 2, 3, 4, 5, 6, 7, 8, 9, 10, 11, 12] (by decide) rfl) rfl rfl hl.1 rfl (lv_room (Nat.le_of_ble_eq_true rfl)) dX6_holds_8 ⟨Nat.le_of_ble_eq_true rfl, Nat.le_of_ble_eq_true rfl⟩) hS (fun q _ h => hFc q h) hFc (fun r_1 u t H1 locs ht hvm hw hB hz1 hk1 hS => ?_)
  have h := hw
  obtain ⟨hP1, hK1, hD1⟩ := hB
  rw [ht] at hP1
  obtain ⟨hP, hD⟩ := mJoin (wr := ([] : va_W)) (w1 := (sh_M cs adM mpM mkM mgM mcM mwM mfM mtM mhM mmM mdM mxM mnM szM 0 apM waM wrM fuM)) (w' := (sh_M cs adM mpM mkM mgM mcM mwM mfM mtM mhM mmM mdM mxM mnM szM 0 apM waM wrM fuM)) hP hD [0, 1, 2, 3, 4, 5, 6, 7, 8, 9, 10, 11, 12] [] rfl rfl (by decide) (by decide) hk1 hFc hP1 hD1 [0, 1, 2, 3, 4, 5, 6, 7, 8, 9, 10, 11, 12] (by decide) rfl
  generalize H1 = H at hP hS ⊢
  refine lv_if_eq (tgt := 41) hx hb dX6_holds_11 (by decide) (fun c_2 => ?_) (fun c_2 => ?_)
  · have h := h.1 c_2
    refine lv_iconst (v := 0) hx hb dX6_holds_41 (by decide) ?_
    exact W.zret (v := 0) hx hb hr (by decide) (fun t ht hW => ⟨⟨0, 0, rfl, h, by rw [ht]; exact hP, va_K.moved hW.alike hK, hD⟩, hS.F ht⟩) hS.2.2 dX6_holds_42
  · have h := h.2 c_2
    refine lv_aload_n hx hb dX6_holds_14 rfl (lv_at hl 0 rfl) ?_
    refine lv_iconst (v := 0) hx hb dX6_holds_15 (by decide) ?_
    refine lv_iload_n hx hb dX6_holds_16 rfl (lv_at hl 2 rfl) ?_
    have hFc := va_free (wc := (sh_M cs adM mpM mkM mgM mcM mwM mfM mtM mhM mmM mdM mxM mnM szM 0 apM waM wrM fuM)) hD hS hA [0, 1, 2, 3, 4, 5, 6, 7, 8, 9, 10, 11, 12] rfl
    refine va_calli (va_runV (As := [.int 0, .int p2]) (rest := []) ⟨hx, hb, hml, hown, hts⟩ (met_X6_isPart l D cs ev _ adM mpM mkM mgM mcM mwM mfM mtM mhM mmM mdM mxM mnM szM 0 apM waM wrM fuM 0 p2 _ h) (cwV 2 hts gX6_holds_X6_isPart rfl rfl rfl (by decide +kernel) ⟨Nat.le_of_ble_eq_true rfl, Nat.le_of_ble_eq_true rfl⟩) (mPreV (va_recv hK hP (ci := 5) (q0 := 0) rfl rfl) hP hD hS hK hE hFc [0, 1, 2, 3, 4, 5, 6, 7, 8, 9, 10, 11, 12] (by decide) rfl) rfl rfl hl.1 rfl (lv_room (Nat.le_of_ble_eq_true rfl)) dX6_holds_17 ⟨Nat.le_of_ble_eq_true rfl, Nat.le_of_ble_eq_true rfl⟩) hS (fun q _ h => hFc q h) hFc (fun r_3 u t H1 locs ht hvm hw hB hz1 hk1 hS => ?_)
    have h := hw
    obtain ⟨hP1, hK1, hD1⟩ := hB
    rw [ht] at hP1
    obtain ⟨hP, hD⟩ := mJoin (wr := ([] : va_W)) (w1 := (sh_M cs adM mpM mkM mgM mcM mwM mfM mtM mhM mmM mdM mxM mnM szM 0 apM waM wrM fuM)) (w' := (sh_M cs adM mpM mkM mgM mcM mwM mfM mtM mhM mmM mdM mxM mnM szM 0 apM waM wrM fuM)) hP hD [0, 1, 2, 3, 4, 5, 6, 7, 8, 9, 10, 11, 12] [] rfl rfl (by decide) (by decide) hk1 hFc hP1 hD1 [0, 1, 2, 3, 4, 5, 6, 7, 8, 9, 10, 11, 12] (by decide) rfl
    generalize H1 = H at hP hS ⊢
    refine lv_if_eq (tgt := 41) hx hb dX6_holds_20 (by decide) (fun c_4 => ?_) (fun c_4 => ?_)
    · have h := h.1 c_4
      refine lv_iconst (v := 0) hx hb dX6_holds_41 (by decide) ?_
      exact W.zret (v := 0) hx hb hr (by decide) (fun t ht hW => ⟨⟨0, 0, rfl, h, by rw [ht]; exact hP, va_K.moved hW.alike hK, hD⟩, hS.F ht⟩) hS.2.2 dX6_holds_42
    · have h := h.2 c_4
      refine lv_aload_n hx hb dX6_holds_23 rfl (lv_at hl 0 rfl) ?_
      refine lv_iload_n hx hb dX6_holds_24 rfl (lv_at hl 1 rfl) ?_
      refine lv_iload_n hx hb dX6_holds_25 rfl (lv_at hl 3 rfl) ?_
      refine lv_i2l hx hb dX6_holds_26 rfl ?_
      have hFc := va_free (wc := (sh_M cs adM mpM mkM mgM mcM mwM mfM mtM mhM mmM mdM mxM mnM szM 0 apM waM wrM fuM)) hD hS hA [0, 1, 2, 3, 4, 5, 6, 7, 8, 9, 10, 11, 12] rfl
      refine va_calll (va_runV (As := [.int p1, .long p3.toInt64]) (rest := []) ⟨hx, hb, hml, hown, hts⟩ (met_X6_pieceOf l D cs ev _ adM mpM mkM mgM mcM mwM mfM mtM mhM mmM mdM mxM mnM szM 0 apM waM wrM fuM p1 p3.toInt64 _ h) (cwV 2 hts gX6_holds_X6_pieceOf rfl rfl rfl (by decide +kernel) ⟨Nat.le_of_ble_eq_true rfl, Nat.le_of_ble_eq_true rfl⟩) (mPreV (va_recv hK hP (ci := 5) (q0 := 0) rfl rfl) hP hD hS hK hE hFc [0, 1, 2, 3, 4, 5, 6, 7, 8, 9, 10, 11, 12] (by decide) rfl) rfl rfl hl.1 rfl (lv_room (Nat.le_of_ble_eq_true rfl)) dX6_holds_27 ⟨Nat.le_of_ble_eq_true rfl, Nat.le_of_ble_eq_true rfl⟩) hS (fun q _ h => hFc q h) hFc (fun r_5 u t H1 locs ht hvm hw hB hz1 hk1 hS => ?_)
      have h := hw
      obtain ⟨hP1, hK1, hD1⟩ := hB
      rw [ht] at hP1
      obtain ⟨hP, hD⟩ := mJoin (wr := ([] : va_W)) (w1 := (sh_M cs adM mpM mkM mgM mcM mwM mfM mtM mhM mmM mdM mxM mnM szM 0 apM waM wrM fuM)) (w' := (sh_M cs adM mpM mkM mgM mcM mwM mfM mtM mhM mmM mdM mxM mnM szM 0 apM waM wrM fuM)) hP hD [0, 1, 2, 3, 4, 5, 6, 7, 8, 9, 10, 11, 12] [] rfl rfl (by decide) (by decide) hk1 hFc hP1 hD1 [0, 1, 2, 3, 4, 5, 6, 7, 8, 9, 10, 11, 12] (by decide) rfl
      generalize H1 = H at hP hS ⊢
      refine lv_iload_n hx hb dX6_holds_30 rfl (lv_at hl 2 rfl) ?_
      have hFc := va_free (wc := ([] : va_W)) hD hS hA [] rfl
      refine va_calli (va_runS (As := [.long r_5, .int p2]) (rest := []) ⟨hx, hb, hml, hown, hts⟩ (met_X6_isOff l D cs ev _ r_5 p2 _ h) (va_cwS 2 hts gX6_holds_X6_isOff rfl rfl rfl (by decide +kernel) ⟨Nat.le_of_ble_eq_true rfl, Nat.le_of_ble_eq_true rfl⟩) (mPreS hP hD hS hK hE hFc [] (by decide) rfl) rfl rfl hl.1 rfl (lv_room (Nat.le_of_ble_eq_true rfl)) dX6_holds_31 ⟨Nat.le_of_ble_eq_true rfl, Nat.le_of_ble_eq_true rfl⟩) hS (fun q _ h => hFc q h) hFc (fun r_6 u t H1 locs ht hvm hw hB hz1 hk1 hS => ?_)
      have h := hw
      obtain ⟨hP1, hK1, hD1⟩ := hB
      rw [ht] at hP1
      obtain ⟨hP, hD⟩ := mJoin (wr := (sh_M cs adM mpM mkM mgM mcM mwM mfM mtM mhM mmM mdM mxM mnM szM 0 apM waM wrM fuM)) (w1 := ([] : va_W)) (w' := (sh_M cs adM mpM mkM mgM mcM mwM mfM mtM mhM mmM mdM mxM mnM szM 0 apM waM wrM fuM)) hP hD [] [0, 1, 2, 3, 4, 5, 6, 7, 8, 9, 10, 11, 12] rfl rfl (by decide) (by decide) hk1 hFc hP1 hD1 [0, 1, 2, 3, 4, 5, 6, 7, 8, 9, 10, 11, 12] (by decide) rfl
      generalize H1 = H at hP hS ⊢
      refine lv_if_eq (tgt := 41) hx hb dX6_holds_34 (by decide) (fun c_7 => ?_) (fun c_7 => ?_)
      · have h := h.1 c_7
        refine lv_iconst (v := 0) hx hb dX6_holds_41 (by decide) ?_
        exact W.zret (v := 0) hx hb hr (by decide) (fun t ht hW => ⟨⟨0, 0, rfl, h, by rw [ht]; exact hP, va_K.moved hW.alike hK, hD⟩, hS.F ht⟩) hS.2.2 dX6_holds_42
      · have h := h.2 c_7
        refine lv_iconst (v := 1) hx hb dX6_holds_37 (by decide) ?_
        refine lv_goto (tgt := 42) hx hb dX6_holds_38 (by decide) ?_
        exact W.zret (v := 1) hx hb hr (by decide) (fun t ht hW => ⟨⟨1, 0, rfl, h, by rw [ht]; exact hP, va_K.moved hW.alike hK, hD⟩, hS.F ht⟩) hS.2.2 dX6_holds_42
def wp_X6_weight (mpM : Nat → Int32) (mgM : Nat → Int32) (mfM : Nat → Int32) (mtM : Nat → Int32) (faM : Int32) (p1 : Int32) (post : Int64 → Int32 → Prop) : Prop :=
    ∀ (A23 : Int64 → Int32 → Int32 → Prop),
    (∀ (v2 : Int64) (v4 : Int32) (faM : Int32), (vp_in 0 2 ∧ (((mpM (0 : Int32).toNatClampNeg) ≤ v4 → post v2 faM) ∧ (¬ (mpM (0 : Int32).toNatClampNeg) ≤ v4 → ((faM = 0 → wp_X6_pieceOf mfM mtM p1 0 (fun r_5 _ => wp_X6_isOff r_5 v4 (fun r_6 _ => ((r_6 = 0 → A23 (v2 + 0) (v4 + 1) faM) ∧ (¬ r_6 = 0 → (vp_in v4 20 ∧ A23 (v2 + ((mgM v4.toNatClampNeg).toInt64)) (v4 + 1) faM)))))) ∧ (¬ faM = 0 → post v2 faM))))) → A23 v2 v4 faM) →
    wp_X6_isPart mpM 0 p1 (fun r_1 _ => ((r_1 = 0 → A23 0 0 1) ∧ (¬ r_1 = 0 → A23 0 0 0)))
set_option maxHeartbeats 4000000 in
set_option maxRecDepth 100000 in
theorem met_X6_weight (l : Launch) (D : va_G) (cs : Nat → ClassId) (ev : Nat → Nat → Nat) (sz0 : Nat) (adM : Nat → Nat) (mpM : Nat → Int32) (mkM : Nat → Int32) (mgM : Nat → Int32) (mcM : Nat → Int32) (mwM : Nat → Int32) (mfM : Nat → Int32) (mtM : Nat → Int32) (mhM : Nat → Int32) (mmM : Nat → Int32) (mdM : Nat → Int32) (mxM : Nat → Int32) (mnM : Nat → Int32) (szM : Int32) (faM : Int32) (apM : Int32) (waM : Int32) (wrM : Int32) (fuM : Int32) (p1 : Int32) (post : Int64 → Int32 → Prop) (h : wp_X6_weight mpM mgM mfM mtM faM p1 post) : Met l yX6_weight wsX6_weight ({ frames := 2, cells := 0, slots := 0, locals := 52 }) (va_Pc [.ref (adM 0), .int p1] (mPre D cs ev (sh_M cs adM mpM mkM mgM mcM mwM mfM mtM mhM mmM mdM mxM mnM szM faM apM waM wrM fuM) sz0)) (va_Ql post (fun faM' t => mAt D cs (va_A (sh_M cs adM mpM mkM mgM mcM mwM mfM mtM mhM mmM mdM mxM mnM szM faM apM waM wrM fuM) sz0) (sh_M cs adM mpM mkM mgM mcM mwM mfM mtM mhM mmM mdM mxM mnM szM faM' apM waM wrM fuM) t) (va_A (sh_M cs adM mpM mkM mgM mcM mwM mfM mtM mhM mmM mdM mxM mnM szM faM apM waM wrM fuM) sz0)) 0 0 (va_A (sh_M cs adM mpM mkM mgM mcM mwM mfM mtM mhM mmM mdM mxM mnM szM faM apM waM wrM fuM) sz0) := by
  refine Met.ofW (cc := cX6_weight) (maxL := 5) (ret := (some .long)) (by decide) rfl ?_
  intro p e s m args below meth c s₁ B hml hv
  obtain ⟨rfl, hsz, hP, hK, hD0, hE⟩ := hv
  have hx := B.exec
  have hb := B.bytes
  have hr := B.returns
  have hts := atoms_spec (ws := wsX6_weight) B.pre
  have hown : s.vm.findClass RX6 = some m.cls := findClass_of_methodNamed B.named
  have hlocks := B.notSynchronized
  subst hsz
  have hD := hD0.self (sz := s.heap.size)
  generalize hAe : va_A (sh_M cs adM mpM mkM mgM mcM mwM mfM mtM mhM mmM mdM mxM mnM szM faM apM waM wrM fuM) s.heap.size = A at hD hE ⊢
  have hA : ∀ q : Nat, s.heap.size ≤ q → A q := fun q h => by rw [← hAe]; exact Or.inr h
  have hS : va_S A s.heap s.heap [] := va_S.rf
  have hl := lv_entry ([.ref (adM 0), .int p1]) (n := 5) (Nat.le_of_ble_eq_true rfl)
  rw [lg_entry_eq]
  generalize (lg_sl ([.ref (adM 0), .int p1]) ++ List.replicate (5 - (lg_sl ([.ref (adM 0), .int p1])).length) Slot.unset).toArray = ls at hl ⊢
  have hl : lv_has ls 5 [(0, .ref (adM 0)), (1, .int p1)] := hl
  obtain ⟨A23, hA23⟩ : ∃ Q : Int64 → Int32 → Int32 → Prop, Q = (fun v2 v4 faM => ∀ (H : Heap) (locs : List Loc), va_P D vwCl (sh_M cs adM mpM mkM mgM mcM mwM mfM mtM mhM mmM mdM mxM mnM szM faM apM waM wrM fuM) H → va_D A (sh_M cs adM mpM mkM mgM mcM mwM mfM mtM mhM mmM mdM mxM mnM szM faM apM waM wrM fuM) → va_S A s.heap H locs → ∀ ls : Array Slot, lv_has ls 5 [(0, .ref (adM 0)), (1, .int p1), (2, .long v2), (4, .int v4)] → W p l e (headSpec wsX6_weight ({ frames := 2, cells := 0, slots := 0, locals := 52 })).room s m ([.ref (adM 0), .int p1] : List Value).toArray below meth c H locs 0 0 (MQ below (va_Ql post (fun faM' t => mAt D cs (A) (sh_M cs adM mpM mkM mgM mcM mwM mfM mtM mhM mmM mdM mxM mnM szM faM' apM waM wrM fuM) t) A) ([.ref (adM 0), .int p1] : List Value).toArray s 0 0 A) (F0 m 23 ls [])) := ⟨_, rfl⟩
  have s23 : ∀ (v2 : Int64) (v4 : Int32) (faM : Int32), (vp_in 0 2 ∧ (((mpM (0 : Int32).toNatClampNeg) ≤ v4 → post v2 faM) ∧ (¬ (mpM (0 : Int32).toNatClampNeg) ≤ v4 → ((faM = 0 → wp_X6_pieceOf mfM mtM p1 0 (fun r_5 _ => wp_X6_isOff r_5 v4 (fun r_6 _ => ((r_6 = 0 → A23 (v2 + 0) (v4 + 1) faM) ∧ (¬ r_6 = 0 → (vp_in v4 20 ∧ A23 (v2 + ((mgM v4.toNatClampNeg).toInt64)) (v4 + 1) faM)))))) ∧ (¬ faM = 0 → post v2 faM))))) → A23 v2 v4 faM := by
    intro v2 v4 faM h
    rw [hA23]
    intro H locs hP hD hS ls hl
    refine lv_iload hx hb dX6_weight_23 (lv_at hl 3 rfl) ?_
    refine lv_aload_n hx hb dX6_weight_25 rfl (lv_at hl 0 rfl) ?_
    refine va_get (D := D) (ci := 5) (v := .ref (adM 1)) (C := RX6) (T := TX6) (N := 18) hx hb hts (by decide +kernel) hown hK hP 0 rfl rfl 0 (by decide) (hts (.fieldLink RX6 7 "PartGraphsModel" "parts" "[I") (by decide +kernel)) (fun _ h9 => h9) rfl dX6_weight_26 ?_
    refine lv_iconst (v := 0) hx hb dX6_weight_29 (by decide) ?_
    have hin := h.1
    have h := h.2
    refine va_iald (D := D) (cl := vwCl) hx hb hK hP 1 0 rfl rfl hin dX6_weight_30 ?_
    refine lv_icmp_ge (tgt := 76) hx hb dX6_weight_31 (by decide) (fun c_3 => ?_) (fun c_3 => ?_)
    · have h := h.1 c_3
      refine lv_lload_n hx hb dX6_weight_76 rfl (lv_at hl 2 rfl) ?_
      exact W.lret (v := v2) hx hb hr (fun t ht hW => ⟨⟨v2, faM, rfl, h, by rw [ht]; exact hP, va_K.moved hW.alike hK, hD⟩, hS.F ht⟩) hS.2.2 dX6_weight_77
    · have h := h.2 c_3
      refine lv_aload_n hx hb dX6_weight_34 rfl (lv_at hl 0 rfl) ?_
      refine va_get (D := D) (ci := 5) (v := .int faM) (C := RX6) (T := TX6) (N := 18) hx hb hts (by decide +kernel) hown hK hP 0 rfl rfl 12 (by decide) (hts (.fieldLink RX6 52 "PartGraphsModel" "fault" "I") (by decide +kernel)) (fun _ h9 => h9) rfl dX6_weight_35 ?_
      refine lv_if_ne (tgt := 76) hx hb dX6_weight_38 (by decide) (fun c_4 => ?_) (fun c_4 => ?_)
      · have h := h.2 c_4
        refine lv_lload_n hx hb dX6_weight_76 rfl (lv_at hl 2 rfl) ?_
        exact W.lret (v := v2) hx hb hr (fun t ht hW => ⟨⟨v2, faM, rfl, h, by rw [ht]; exact hP, va_K.moved hW.alike hK, hD⟩, hS.F ht⟩) hS.2.2 dX6_weight_77
      · have h := h.1 c_4
        refine lv_lload_n hx hb dX6_weight_41 rfl (lv_at hl 2 rfl) ?_
        refine lv_aload_n hx hb dX6_weight_42 rfl (lv_at hl 0 rfl) ?_
        refine lv_iload_n hx hb dX6_weight_43 rfl (lv_at hl 1 rfl) ?_
        refine lv_lconst (v := 0) hx hb dX6_weight_44 (by decide) ?_
        have hFc := va_free (wc := (sh_M cs adM mpM mkM mgM mcM mwM mfM mtM mhM mmM mdM mxM mnM szM faM apM waM wrM fuM)) hD hS hA [0, 1, 2, 3, 4, 5, 6, 7, 8, 9, 10, 11, 12] rfl
        refine va_calll (va_runV (As := [.int p1, .long 0]) (rest := [.long v2]) ⟨hx, hb, hml, hown, hts⟩ (met_X6_pieceOf l D cs ev _ adM mpM mkM mgM mcM mwM mfM mtM mhM mmM mdM mxM mnM szM faM apM waM wrM fuM p1 0 _ h) (cwV 2 hts gX6_weight_X6_pieceOf rfl rfl rfl (by decide +kernel) ⟨Nat.le_of_ble_eq_true rfl, Nat.le_of_ble_eq_true rfl⟩) (mPreV (va_recv hK hP (ci := 5) (q0 := 0) rfl rfl) hP hD hS hK hE hFc [0, 1, 2, 3, 4, 5, 6, 7, 8, 9, 10, 11, 12] (by decide) rfl) rfl rfl hl.1 rfl (lv_room (Nat.le_of_ble_eq_true rfl)) dX6_weight_45 ⟨Nat.le_of_ble_eq_true rfl, Nat.le_of_ble_eq_true rfl⟩) hS (fun q _ h => hFc q h) hFc (fun r_5 u t H1 locs ht hvm hw hB hz1 hk1 hS => ?_)
        have h := hw
        obtain ⟨hP1, hK1, hD1⟩ := hB
        rw [ht] at hP1
        obtain ⟨hP, hD⟩ := mJoin (wr := ([] : va_W)) (w1 := (sh_M cs adM mpM mkM mgM mcM mwM mfM mtM mhM mmM mdM mxM mnM szM faM apM waM wrM fuM)) (w' := (sh_M cs adM mpM mkM mgM mcM mwM mfM mtM mhM mmM mdM mxM mnM szM faM apM waM wrM fuM)) hP hD [0, 1, 2, 3, 4, 5, 6, 7, 8, 9, 10, 11, 12] [] rfl rfl (by decide) (by decide) hk1 hFc hP1 hD1 [0, 1, 2, 3, 4, 5, 6, 7, 8, 9, 10, 11, 12] (by decide) rfl
        generalize H1 = H at hP hS ⊢
        refine lv_iload hx hb dX6_weight_48 (lv_at hl 3 rfl) ?_
        have hFc := va_free (wc := ([] : va_W)) hD hS hA [] rfl
        refine va_calli (va_runS (As := [.long r_5, .int v4]) (rest := [.long v2]) ⟨hx, hb, hml, hown, hts⟩ (met_X6_isOff l D cs ev _ r_5 v4 _ h) (va_cwS 2 hts gX6_weight_X6_isOff rfl rfl rfl (by decide +kernel) ⟨Nat.le_of_ble_eq_true rfl, Nat.le_of_ble_eq_true rfl⟩) (mPreS hP hD hS hK hE hFc [] (by decide) rfl) rfl rfl hl.1 rfl (lv_room (Nat.le_of_ble_eq_true rfl)) dX6_weight_50 ⟨Nat.le_of_ble_eq_true rfl, Nat.le_of_ble_eq_true rfl⟩) hS (fun q _ h => hFc q h) hFc (fun r_6 u t H1 locs ht hvm hw hB hz1 hk1 hS => ?_)
        have h := hw
        obtain ⟨hP1, hK1, hD1⟩ := hB
        rw [ht] at hP1
        obtain ⟨hP, hD⟩ := mJoin (wr := (sh_M cs adM mpM mkM mgM mcM mwM mfM mtM mhM mmM mdM mxM mnM szM faM apM waM wrM fuM)) (w1 := ([] : va_W)) (w' := (sh_M cs adM mpM mkM mgM mcM mwM mfM mtM mhM mmM mdM mxM mnM szM faM apM waM wrM fuM)) hP hD [] [0, 1, 2, 3, 4, 5, 6, 7, 8, 9, 10, 11, 12] rfl rfl (by decide) (by decide) hk1 hFc hP1 hD1 [0, 1, 2, 3, 4, 5, 6, 7, 8, 9, 10, 11, 12] (by decide) rfl
        generalize H1 = H at hP hS ⊢
        refine lv_if_eq (tgt := 67) hx hb dX6_weight_53 (by decide) (fun c_7 => ?_) (fun c_7 => ?_)
        · have h := h.1 c_7
          refine lv_lconst (v := 0) hx hb dX6_weight_67 (by decide) ?_
          refine lv_ladd hx hb dX6_weight_68 ?_
          refine lv_lstore_n (lv' := [(2, .long (v2 + 0)), (0, .ref (adM 0)), (1, .int p1), (4, .int v4)]) hx hb dX6_weight_69 rfl hl (by decide) rfl (fun ls hl => ?_)
          refine lv_iinc (v := v4 + 1) (lv' := [(4, .int (v4 + 1)), (2, .long (v2 + 0)), (0, .ref (adM 0)), (1, .int p1)]) hx hb dX6_weight_70 hl (k := 3) rfl rfl (by decide) rfl (fun ls hl => ?_)
          refine lv_goto (tgt := 23) hx hb dX6_weight_73 (by decide) ?_
          rw [hA23] at h
          exact h _ _ hP hD hS ls (lv_sub hl [2, 3, 1, 0] rfl)
        · have h := h.2 c_7
          refine lv_aload_n hx hb dX6_weight_56 rfl (lv_at hl 0 rfl) ?_
          refine va_get (D := D) (ci := 5) (v := .ref (adM 3)) (C := RX6) (T := TX6) (N := 18) hx hb hts (by decide +kernel) hown hK hP 0 rfl rfl 2 (by decide) (hts (.fieldLink RX6 16 "PartGraphsModel" "grams" "[I") (by decide +kernel)) (fun _ h9 => h9) rfl dX6_weight_57 ?_
          refine lv_iload hx hb dX6_weight_60 (lv_at hl 3 rfl) ?_
          have hin := h.1
          have h := h.2
          refine va_iald (D := D) (cl := vwCl) hx hb hK hP 3 0 rfl rfl hin dX6_weight_62 ?_
          refine lv_i2l hx hb dX6_weight_63 rfl ?_
          refine lv_goto (tgt := 68) hx hb dX6_weight_64 (by decide) ?_
          refine lv_ladd hx hb dX6_weight_68 ?_
          refine lv_lstore_n (lv' := [(2, .long (v2 + ((mgM v4.toNatClampNeg).toInt64))), (0, .ref (adM 0)), (1, .int p1), (4, .int v4)]) hx hb dX6_weight_69 rfl hl (by decide) rfl (fun ls hl => ?_)
          refine lv_iinc (v := v4 + 1) (lv' := [(4, .int (v4 + 1)), (2, .long (v2 + ((mgM v4.toNatClampNeg).toInt64))), (0, .ref (adM 0)), (1, .int p1)]) hx hb dX6_weight_70 hl (k := 3) rfl rfl (by decide) rfl (fun ls hl => ?_)
          refine lv_goto (tgt := 23) hx hb dX6_weight_73 (by decide) ?_
          rw [hA23] at h
          exact h _ _ hP hD hS ls (lv_sub hl [2, 3, 1, 0] rfl)
  have h := h A23 s23
  refine lv_aload_n hx hb dX6_weight_0 rfl (lv_at hl 0 rfl) ?_
  refine lv_aload_n hx hb dX6_weight_1 rfl (lv_at hl 0 rfl) ?_
  refine lv_iconst (v := 0) hx hb dX6_weight_2 (by decide) ?_
  refine lv_iload_n hx hb dX6_weight_3 rfl (lv_at hl 1 rfl) ?_
  have hFc := va_free (wc := (sh_M cs adM mpM mkM mgM mcM mwM mfM mtM mhM mmM mdM mxM mnM szM faM apM waM wrM fuM)) hD hS hA [0, 1, 2, 3, 4, 5, 6, 7, 8, 9, 10, 11, 12] rfl
  refine va_calli (va_runV (As := [.int 0, .int p1]) (rest := [.ref (adM 0)]) ⟨hx, hb, hml, hown, hts⟩ (met_X6_isPart l D cs ev _ adM mpM mkM mgM mcM mwM mfM mtM mhM mmM mdM mxM mnM szM faM apM waM wrM fuM 0 p1 _ h) (cwV 2 hts gX6_weight_X6_isPart rfl rfl rfl (by decide +kernel) ⟨Nat.le_of_ble_eq_true rfl, Nat.le_of_ble_eq_true rfl⟩) (mPreV (va_recv hK hP (ci := 5) (q0 := 0) rfl rfl) hP hD hS hK hE hFc [0, 1, 2, 3, 4, 5, 6, 7, 8, 9, 10, 11, 12] (by decide) rfl) rfl rfl hl.1 rfl (lv_room (Nat.le_of_ble_eq_true rfl)) dX6_weight_4 ⟨Nat.le_of_ble_eq_true rfl, Nat.le_of_ble_eq_true rfl⟩) hS (fun q _ h => hFc q h) hFc (fun r_1 u t H1 locs ht hvm hw hB hz1 hk1 hS => ?_)
  have h := hw
  obtain ⟨hP1, hK1, hD1⟩ := hB
  rw [ht] at hP1
  obtain ⟨hP, hD⟩ := mJoin (wr := ([] : va_W)) (w1 := (sh_M cs adM mpM mkM mgM mcM mwM mfM mtM mhM mmM mdM mxM mnM szM faM apM waM wrM fuM)) (w' := (sh_M cs adM mpM mkM mgM mcM mwM mfM mtM mhM mmM mdM mxM mnM szM faM apM waM wrM fuM)) hP hD [0, 1, 2, 3, 4, 5, 6, 7, 8, 9, 10, 11, 12] [] rfl rfl (by decide) (by decide) hk1 hFc hP1 hD1 [0, 1, 2, 3, 4, 5, 6, 7, 8, 9, 10, 11, 12] (by decide) rfl
  generalize H1 = H at hP hS ⊢
  refine lv_if_eq (tgt := 14) hx hb dX6_weight_7 (by decide) (fun c_2 => ?_) (fun c_2 => ?_)
  · have h := h.1 c_2
    refine lv_iconst (v := 1) hx hb dX6_weight_14 (by decide) ?_
    refine va_put (D := D) (ci := 5) (v := .int 1) (ty := .int) (C := RX6) (T := TX6) (N := 18) hx hb hts (by decide +kernel) tyX6 tyX6_ok nmX6 hown hK hP hD hS 0 rfl rfl 12 (by decide) (hts (.fieldLink RX6 52 "PartGraphsModel" "fault" "I") (by decide +kernel)) (fun _ h9 => h9) rfl (by decide +kernel) rfl rfl (Nat.le_of_ble_eq_true rfl) dX6_weight_15 (fun H locs hP hD hS => ?_)
    have hP : va_P D vwCl (sh_M cs adM mpM mkM mgM mcM mwM mfM mtM mhM mmM mdM mxM mnM szM 1 apM waM wrM fuM) H := hP
    have hD : va_D A (sh_M cs adM mpM mkM mgM mcM mwM mfM mtM mhM mmM mdM mxM mnM szM 1 apM waM wrM fuM) := hD
    refine lv_lconst (v := 0) hx hb dX6_weight_18 (by decide) ?_
    refine lv_lstore_n (lv' := [(2, .long 0), (0, .ref (adM 0)), (1, .int p1)]) hx hb dX6_weight_19 rfl hl (by decide) rfl (fun ls hl => ?_)
    refine lv_iconst (v := 0) hx hb dX6_weight_20 (by decide) ?_
    refine lv_istore (lv' := [(4, .int 0), (2, .long 0), (0, .ref (adM 0)), (1, .int p1)]) hx hb dX6_weight_21 hl (by decide) rfl (fun ls hl => ?_)
    rw [hA23] at h
    exact h _ _ hP hD hS ls (lv_sub hl [2, 3, 1, 0] rfl)
  · have h := h.2 c_2
    refine lv_iconst (v := 0) hx hb dX6_weight_10 (by decide) ?_
    refine lv_goto (tgt := 15) hx hb dX6_weight_11 (by decide) ?_
    refine va_put (D := D) (ci := 5) (v := .int 0) (ty := .int) (C := RX6) (T := TX6) (N := 18) hx hb hts (by decide +kernel) tyX6 tyX6_ok nmX6 hown hK hP hD hS 0 rfl rfl 12 (by decide) (hts (.fieldLink RX6 52 "PartGraphsModel" "fault" "I") (by decide +kernel)) (fun _ h9 => h9) rfl (by decide +kernel) rfl rfl (Nat.le_of_ble_eq_true rfl) dX6_weight_15 (fun H locs hP hD hS => ?_)
    have hP : va_P D vwCl (sh_M cs adM mpM mkM mgM mcM mwM mfM mtM mhM mmM mdM mxM mnM szM 0 apM waM wrM fuM) H := hP
    have hD : va_D A (sh_M cs adM mpM mkM mgM mcM mwM mfM mtM mhM mmM mdM mxM mnM szM 0 apM waM wrM fuM) := hD
    refine lv_lconst (v := 0) hx hb dX6_weight_18 (by decide) ?_
    refine lv_lstore_n (lv' := [(2, .long 0), (0, .ref (adM 0)), (1, .int p1)]) hx hb dX6_weight_19 rfl hl (by decide) rfl (fun ls hl => ?_)
    refine lv_iconst (v := 0) hx hb dX6_weight_20 (by decide) ?_
    refine lv_istore (lv' := [(4, .int 0), (2, .long 0), (0, .ref (adM 0)), (1, .int p1)]) hx hb dX6_weight_21 hl (by decide) rfl (fun ls hl => ?_)
    rw [hA23] at h
    exact h _ _ hP hD hS ls (lv_sub hl [2, 3, 1, 0] rfl)
def wp_X6_loose (mpM : Nat → Int32) (mfM : Nat → Int32) (mtM : Nat → Int32) (faM : Int32) (post : Int32 → Int32 → Prop) : Prop :=
    ∀ (A9 : Int32 → Int32 → Int32 → Prop) (A24 : Int32 → Int32 → Int32 → Int32 → Int32 → Prop),
    (∀ (v1 : Int32) (v2 : Int32) (faM : Int32), (vp_in 0 2 ∧ (((mpM (0 : Int32).toNatClampNeg) ≤ v2 → post v1 faM) ∧ (¬ (mpM (0 : Int32).toNatClampNeg) ≤ v2 → A24 v1 v2 1 0 faM))) → A9 v1 v2 faM) →
    (∀ (v1 : Int32) (v2 : Int32) (v3 : Int32) (v4 : Int32) (faM : Int32), ((v2 ≤ v4 → ((v3 = 0 → A9 (v1 + 0) (v2 + 1) faM) ∧ (¬ v3 = 0 → A9 (v1 + 1) (v2 + 1) faM))) ∧ (¬ v2 ≤ v4 → ((v3 = 0 → A24 v1 v2 0 (v4 + 1) faM) ∧ (¬ v3 = 0 → wp_X6_pieceOf mfM mtM v2 0 (fun r_5 _ => wp_X6_isOff r_5 v4 (fun r_6 _ => ((r_6 = 0 → A24 v1 v2 1 (v4 + 1) faM) ∧ (¬ r_6 = 0 → A24 v1 v2 0 (v4 + 1) faM)))))))) → A24 v1 v2 v3 v4 faM) →
    A9 0 0 0
set_option maxHeartbeats 4000000 in
set_option maxRecDepth 100000 in
theorem met_X6_loose (l : Launch) (D : va_G) (cs : Nat → ClassId) (ev : Nat → Nat → Nat) (sz0 : Nat) (adM : Nat → Nat) (mpM : Nat → Int32) (mkM : Nat → Int32) (mgM : Nat → Int32) (mcM : Nat → Int32) (mwM : Nat → Int32) (mfM : Nat → Int32) (mtM : Nat → Int32) (mhM : Nat → Int32) (mmM : Nat → Int32) (mdM : Nat → Int32) (mxM : Nat → Int32) (mnM : Nat → Int32) (szM : Int32) (faM : Int32) (apM : Int32) (waM : Int32) (wrM : Int32) (fuM : Int32) (post : Int32 → Int32 → Prop) (h : wp_X6_loose mpM mfM mtM faM post) : Met l yX6_loose wsX6_loose ({ frames := 2, cells := 0, slots := 0, locals := 52 }) (va_Pc [.ref (adM 0)] (mPre D cs ev (sh_M cs adM mpM mkM mgM mcM mwM mfM mtM mhM mmM mdM mxM mnM szM faM apM waM wrM fuM) sz0)) (va_Qi post (fun faM' t => mAt D cs (va_A (sh_M cs adM mpM mkM mgM mcM mwM mfM mtM mhM mmM mdM mxM mnM szM faM apM waM wrM fuM) sz0) (sh_M cs adM mpM mkM mgM mcM mwM mfM mtM mhM mmM mdM mxM mnM szM faM' apM waM wrM fuM) t) (va_A (sh_M cs adM mpM mkM mgM mcM mwM mfM mtM mhM mmM mdM mxM mnM szM faM apM waM wrM fuM) sz0)) 0 0 (va_A (sh_M cs adM mpM mkM mgM mcM mwM mfM mtM mhM mmM mdM mxM mnM szM faM apM waM wrM fuM) sz0) := by
  refine Met.ofW (cc := cX6_loose) (maxL := 5) (ret := (some .int)) (by decide) rfl ?_
  intro p e s m args below meth c s₁ B hml hv
  obtain ⟨rfl, hsz, hP, hK, hD0, hE⟩ := hv
  have hx := B.exec
  have hb := B.bytes
  have hr := B.returns
  have hts := atoms_spec (ws := wsX6_loose) B.pre
  have hown : s.vm.findClass RX6 = some m.cls := findClass_of_methodNamed B.named
  have hlocks := B.notSynchronized
  subst hsz
  have hD := hD0.self (sz := s.heap.size)
  generalize hAe : va_A (sh_M cs adM mpM mkM mgM mcM mwM mfM mtM mhM mmM mdM mxM mnM szM faM apM waM wrM fuM) s.heap.size = A at hD hE ⊢
  have hA : ∀ q : Nat, s.heap.size ≤ q → A q := fun q h => by rw [← hAe]; exact Or.inr h
  have hS : va_S A s.heap s.heap [] := va_S.rf
  have hl := lv_entry ([.ref (adM 0)]) (n := 5) (Nat.le_of_ble_eq_true rfl)
  rw [lg_entry_eq]
  generalize (lg_sl ([.ref (adM 0)]) ++ List.replicate (5 - (lg_sl ([.ref (adM 0)])).length) Slot.unset).toArray = ls at hl ⊢
  have hl : lv_has ls 5 [(0, .ref (adM 0))] := hl
  obtain ⟨A9, hA9⟩ : ∃ Q : Int32 → Int32 → Int32 → Prop, Q = (fun v1 v2 faM => ∀ (H : Heap) (locs : List Loc), va_P D vwCl (sh_M cs adM mpM mkM mgM mcM mwM mfM mtM mhM mmM mdM mxM mnM szM faM apM waM wrM fuM) H → va_D A (sh_M cs adM mpM mkM mgM mcM mwM mfM mtM mhM mmM mdM mxM mnM szM faM apM waM wrM fuM) → va_S A s.heap H locs → ∀ ls : Array Slot, lv_has ls 5 [(0, .ref (adM 0)), (1, .int v1), (2, .int v2)] → W p l e (headSpec wsX6_loose ({ frames := 2, cells := 0, slots := 0, locals := 52 })).room s m ([.ref (adM 0)] : List Value).toArray below meth c H locs 0 0 (MQ below (va_Qi post (fun faM' t => mAt D cs (A) (sh_M cs adM mpM mkM mgM mcM mwM mfM mtM mhM mmM mdM mxM mnM szM faM' apM waM wrM fuM) t) A) ([.ref (adM 0)] : List Value).toArray s 0 0 A) (F0 m 9 ls [])) := ⟨_, rfl⟩
  obtain ⟨A24, hA24⟩ : ∃ Q : Int32 → Int32 → Int32 → Int32 → Int32 → Prop, Q = (fun v1 v2 v3 v4 faM => ∀ (H : Heap) (locs : List Loc), va_P D vwCl (sh_M cs adM mpM mkM mgM mcM mwM mfM mtM mhM mmM mdM mxM mnM szM faM apM waM wrM fuM) H → va_D A (sh_M cs adM mpM mkM mgM mcM mwM mfM mtM mhM mmM mdM mxM mnM szM faM apM waM wrM fuM) → va_S A s.heap H locs → ∀ ls : Array Slot, lv_has ls 5 [(0, .ref (adM 0)), (1, .int v1), (2, .int v2), (3, .int v3), (4, .int v4)] → W p l e (headSpec wsX6_loose ({ frames := 2, cells := 0, slots := 0, locals := 52 })).room s m ([.ref (adM 0)] : List Value).toArray below meth c H locs 0 0 (MQ below (va_Qi post (fun faM' t => mAt D cs (A) (sh_M cs adM mpM mkM mgM mcM mwM mfM mtM mhM mmM mdM mxM mnM szM faM' apM waM wrM fuM) t) A) ([.ref (adM 0)] : List Value).toArray s 0 0 A) (F0 m 24 ls [])) := ⟨_, rfl⟩
  have s9 : ∀ (v1 : Int32) (v2 : Int32) (faM : Int32), (vp_in 0 2 ∧ (((mpM (0 : Int32).toNatClampNeg) ≤ v2 → post v1 faM) ∧ (¬ (mpM (0 : Int32).toNatClampNeg) ≤ v2 → A24 v1 v2 1 0 faM))) → A9 v1 v2 faM := by
    intro v1 v2 faM h
    rw [hA9]
    intro H locs hP hD hS ls hl
    refine lv_iload_n hx hb dX6_loose_9 rfl (lv_at hl 2 rfl) ?_
    refine lv_aload_n hx hb dX6_loose_10 rfl (lv_at hl 0 rfl) ?_
    refine va_get (D := D) (ci := 5) (v := .ref (adM 1)) (C := RX6) (T := TX6) (N := 18) hx hb hts (by decide +kernel) hown hK hP 0 rfl rfl 0 (by decide) (hts (.fieldLink RX6 7 "PartGraphsModel" "parts" "[I") (by decide +kernel)) (fun _ h9 => h9) rfl dX6_loose_11 ?_
    refine lv_iconst (v := 0) hx hb dX6_loose_14 (by decide) ?_
    have hin := h.1
    have h := h.2
    refine va_iald (D := D) (cl := vwCl) hx hb hK hP 1 0 rfl rfl hin dX6_loose_15 ?_
    refine lv_icmp_ge (tgt := 78) hx hb dX6_loose_16 (by decide) (fun c_1 => ?_) (fun c_1 => ?_)
    · have h := h.1 c_1
      refine lv_iload_n hx hb dX6_loose_78 rfl (lv_at hl 1 rfl) ?_
      exact W.iret (v := v1) hx hb hr (fun t ht hW => ⟨⟨v1, faM, rfl, h, by rw [ht]; exact hP, va_K.moved hW.alike hK, hD⟩, hS.F ht⟩) hS.2.2 dX6_loose_79
    · have h := h.2 c_1
      refine lv_iconst (v := 1) hx hb dX6_loose_19 (by decide) ?_
      refine lv_istore_n (lv' := [(3, .int 1), (0, .ref (adM 0)), (1, .int v1), (2, .int v2)]) hx hb dX6_loose_20 rfl hl (by decide) rfl (fun ls hl => ?_)
      refine lv_iconst (v := 0) hx hb dX6_loose_21 (by decide) ?_
      refine lv_istore (lv' := [(4, .int 0), (3, .int 1), (0, .ref (adM 0)), (1, .int v1), (2, .int v2)]) hx hb dX6_loose_22 hl (by decide) rfl (fun ls hl => ?_)
      rw [hA24] at h
      exact h _ _ hP hD hS ls (lv_sub hl [2, 3, 4, 1, 0] rfl)
  have s24 : ∀ (v1 : Int32) (v2 : Int32) (v3 : Int32) (v4 : Int32) (faM : Int32), ((v2 ≤ v4 → ((v3 = 0 → A9 (v1 + 0) (v2 + 1) faM) ∧ (¬ v3 = 0 → A9 (v1 + 1) (v2 + 1) faM))) ∧ (¬ v2 ≤ v4 → ((v3 = 0 → A24 v1 v2 0 (v4 + 1) faM) ∧ (¬ v3 = 0 → wp_X6_pieceOf mfM mtM v2 0 (fun r_5 _ => wp_X6_isOff r_5 v4 (fun r_6 _ => ((r_6 = 0 → A24 v1 v2 1 (v4 + 1) faM) ∧ (¬ r_6 = 0 → A24 v1 v2 0 (v4 + 1) faM)))))))) → A24 v1 v2 v3 v4 faM := by
    intro v1 v2 v3 v4 faM h
    rw [hA24]
    intro H locs hP hD hS ls hl
    refine lv_iload hx hb dX6_loose_24 (lv_at hl 4 rfl) ?_
    refine lv_iload_n hx hb dX6_loose_26 rfl (lv_at hl 2 rfl) ?_
    refine lv_icmp_ge (tgt := 60) hx hb dX6_loose_27 (by decide) (fun c_2 => ?_) (fun c_2 => ?_)
    · have h := h.1 c_2
      refine lv_iload_n hx hb dX6_loose_60 rfl (lv_at hl 1 rfl) ?_
      refine lv_iload_n hx hb dX6_loose_61 rfl (lv_at hl 3 rfl) ?_
      refine lv_if_eq (tgt := 69) hx hb dX6_loose_62 (by decide) (fun c_3 => ?_) (fun c_3 => ?_)
      · have h := h.1 c_3
        refine lv_iconst (v := 0) hx hb dX6_loose_69 (by decide) ?_
        refine lv_iadd hx hb dX6_loose_70 ?_
        refine lv_istore_n (lv' := [(1, .int (v1 + 0)), (0, .ref (adM 0)), (2, .int v2), (3, .int v3), (4, .int v4)]) hx hb dX6_loose_71 rfl hl (by decide) rfl (fun ls hl => ?_)
        refine lv_iinc (v := v2 + 1) (lv' := [(2, .int (v2 + 1)), (1, .int (v1 + 0)), (0, .ref (adM 0)), (3, .int v3), (4, .int v4)]) hx hb dX6_loose_72 hl (k := 2) rfl rfl (by decide) rfl (fun ls hl => ?_)
        refine lv_goto (tgt := 9) hx hb dX6_loose_75 (by decide) ?_
        rw [hA9] at h
        exact h _ _ hP hD hS ls (lv_sub hl [2, 1, 0] rfl)
      · have h := h.2 c_3
        refine lv_iconst (v := 1) hx hb dX6_loose_65 (by decide) ?_
        refine lv_goto (tgt := 70) hx hb dX6_loose_66 (by decide) ?_
        refine lv_iadd hx hb dX6_loose_70 ?_
        refine lv_istore_n (lv' := [(1, .int (v1 + 1)), (0, .ref (adM 0)), (2, .int v2), (3, .int v3), (4, .int v4)]) hx hb dX6_loose_71 rfl hl (by decide) rfl (fun ls hl => ?_)
        refine lv_iinc (v := v2 + 1) (lv' := [(2, .int (v2 + 1)), (1, .int (v1 + 1)), (0, .ref (adM 0)), (3, .int v3), (4, .int v4)]) hx hb dX6_loose_72 hl (k := 2) rfl rfl (by decide) rfl (fun ls hl => ?_)
        refine lv_goto (tgt := 9) hx hb dX6_loose_75 (by decide) ?_
        rw [hA9] at h
        exact h _ _ hP hD hS ls (lv_sub hl [2, 1, 0] rfl)
    · have h := h.2 c_2
      refine lv_iload_n hx hb dX6_loose_30 rfl (lv_at hl 3 rfl) ?_
      refine lv_if_eq (tgt := 52) hx hb dX6_loose_31 (by decide) (fun c_4 => ?_) (fun c_4 => ?_)
      · have h := h.1 c_4
        refine lv_iconst (v := 0) hx hb dX6_loose_52 (by decide) ?_
        refine lv_istore_n (lv' := [(3, .int 0), (0, .ref (adM 0)), (1, .int v1), (2, .int v2), (4, .int v4)]) hx hb dX6_loose_53 rfl hl (by decide) rfl (fun ls hl => ?_)
        refine lv_iinc (v := v4 + 1) (lv' := [(4, .int (v4 + 1)), (3, .int 0), (0, .ref (adM 0)), (1, .int v1), (2, .int v2)]) hx hb dX6_loose_54 hl (k := 4) rfl rfl (by decide) rfl (fun ls hl => ?_)
        refine lv_goto (tgt := 24) hx hb dX6_loose_57 (by decide) ?_
        rw [hA24] at h
        exact h _ _ hP hD hS ls (lv_sub hl [2, 3, 4, 1, 0] rfl)
      · have h := h.2 c_4
        refine lv_aload_n hx hb dX6_loose_34 rfl (lv_at hl 0 rfl) ?_
        refine lv_iload_n hx hb dX6_loose_35 rfl (lv_at hl 2 rfl) ?_
        refine lv_lconst (v := 0) hx hb dX6_loose_36 (by decide) ?_
        have hFc := va_free (wc := (sh_M cs adM mpM mkM mgM mcM mwM mfM mtM mhM mmM mdM mxM mnM szM faM apM waM wrM fuM)) hD hS hA [0, 1, 2, 3, 4, 5, 6, 7, 8, 9, 10, 11, 12] rfl
        refine va_calll (va_runV (As := [.int v2, .long 0]) (rest := []) ⟨hx, hb, hml, hown, hts⟩ (met_X6_pieceOf l D cs ev _ adM mpM mkM mgM mcM mwM mfM mtM mhM mmM mdM mxM mnM szM faM apM waM wrM fuM v2 0 _ h) (cwV 2 hts gX6_loose_X6_pieceOf rfl rfl rfl (by decide +kernel) ⟨Nat.le_of_ble_eq_true rfl, Nat.le_of_ble_eq_true rfl⟩) (mPreV (va_recv hK hP (ci := 5) (q0 := 0) rfl rfl) hP hD hS hK hE hFc [0, 1, 2, 3, 4, 5, 6, 7, 8, 9, 10, 11, 12] (by decide) rfl) rfl rfl hl.1 rfl (lv_room (Nat.le_of_ble_eq_true rfl)) dX6_loose_37 ⟨Nat.le_of_ble_eq_true rfl, Nat.le_of_ble_eq_true rfl⟩) hS (fun q _ h => hFc q h) hFc (fun r_5 u t H1 locs ht hvm hw hB hz1 hk1 hS => ?_)
        have h := hw
        obtain ⟨hP1, hK1, hD1⟩ := hB
        rw [ht] at hP1
        obtain ⟨hP, hD⟩ := mJoin (wr := ([] : va_W)) (w1 := (sh_M cs adM mpM mkM mgM mcM mwM mfM mtM mhM mmM mdM mxM mnM szM faM apM waM wrM fuM)) (w' := (sh_M cs adM mpM mkM mgM mcM mwM mfM mtM mhM mmM mdM mxM mnM szM faM apM waM wrM fuM)) hP hD [0, 1, 2, 3, 4, 5, 6, 7, 8, 9, 10, 11, 12] [] rfl rfl (by decide) (by decide) hk1 hFc hP1 hD1 [0, 1, 2, 3, 4, 5, 6, 7, 8, 9, 10, 11, 12] (by decide) rfl
        generalize H1 = H at hP hS ⊢
        refine lv_iload hx hb dX6_loose_40 (lv_at hl 4 rfl) ?_
        have hFc := va_free (wc := ([] : va_W)) hD hS hA [] rfl
        refine va_calli (va_runS (As := [.long r_5, .int v4]) (rest := []) ⟨hx, hb, hml, hown, hts⟩ (met_X6_isOff l D cs ev _ r_5 v4 _ h) (va_cwS 2 hts gX6_loose_X6_isOff rfl rfl rfl (by decide +kernel) ⟨Nat.le_of_ble_eq_true rfl, Nat.le_of_ble_eq_true rfl⟩) (mPreS hP hD hS hK hE hFc [] (by decide) rfl) rfl rfl hl.1 rfl (lv_room (Nat.le_of_ble_eq_true rfl)) dX6_loose_42 ⟨Nat.le_of_ble_eq_true rfl, Nat.le_of_ble_eq_true rfl⟩) hS (fun q _ h => hFc q h) hFc (fun r_6 u t H1 locs ht hvm hw hB hz1 hk1 hS => ?_)
        have h := hw
        obtain ⟨hP1, hK1, hD1⟩ := hB
        rw [ht] at hP1
        obtain ⟨hP, hD⟩ := mJoin (wr := (sh_M cs adM mpM mkM mgM mcM mwM mfM mtM mhM mmM mdM mxM mnM szM faM apM waM wrM fuM)) (w1 := ([] : va_W)) (w' := (sh_M cs adM mpM mkM mgM mcM mwM mfM mtM mhM mmM mdM mxM mnM szM faM apM waM wrM fuM)) hP hD [] [0, 1, 2, 3, 4, 5, 6, 7, 8, 9, 10, 11, 12] rfl rfl (by decide) (by decide) hk1 hFc hP1 hD1 [0, 1, 2, 3, 4, 5, 6, 7, 8, 9, 10, 11, 12] (by decide) rfl
        generalize H1 = H at hP hS ⊢
        refine lv_if_ne (tgt := 52) hx hb dX6_loose_45 (by decide) (fun c_7 => ?_) (fun c_7 => ?_)
        · have h := h.2 c_7
          refine lv_iconst (v := 0) hx hb dX6_loose_52 (by decide) ?_
          refine lv_istore_n (lv' := [(3, .int 0), (0, .ref (adM 0)), (1, .int v1), (2, .int v2), (4, .int v4)]) hx hb dX6_loose_53 rfl hl (by decide) rfl (fun ls hl => ?_)
          refine lv_iinc (v := v4 + 1) (lv' := [(4, .int (v4 + 1)), (3, .int 0), (0, .ref (adM 0)), (1, .int v1), (2, .int v2)]) hx hb dX6_loose_54 hl (k := 4) rfl rfl (by decide) rfl (fun ls hl => ?_)
          refine lv_goto (tgt := 24) hx hb dX6_loose_57 (by decide) ?_
          rw [hA24] at h
          exact h _ _ hP hD hS ls (lv_sub hl [2, 3, 4, 1, 0] rfl)
        · have h := h.1 c_7
          refine lv_iconst (v := 1) hx hb dX6_loose_48 (by decide) ?_
          refine lv_goto (tgt := 53) hx hb dX6_loose_49 (by decide) ?_
          refine lv_istore_n (lv' := [(3, .int 1), (0, .ref (adM 0)), (1, .int v1), (2, .int v2), (4, .int v4)]) hx hb dX6_loose_53 rfl hl (by decide) rfl (fun ls hl => ?_)
          refine lv_iinc (v := v4 + 1) (lv' := [(4, .int (v4 + 1)), (3, .int 1), (0, .ref (adM 0)), (1, .int v1), (2, .int v2)]) hx hb dX6_loose_54 hl (k := 4) rfl rfl (by decide) rfl (fun ls hl => ?_)
          refine lv_goto (tgt := 24) hx hb dX6_loose_57 (by decide) ?_
          rw [hA24] at h
          exact h _ _ hP hD hS ls (lv_sub hl [2, 3, 4, 1, 0] rfl)
  have h := h A9 A24 s9 s24
  refine lv_aload_n hx hb dX6_loose_0 rfl (lv_at hl 0 rfl) ?_
  refine lv_iconst (v := 0) hx hb dX6_loose_1 (by decide) ?_
  refine va_put (D := D) (ci := 5) (v := .int 0) (ty := .int) (C := RX6) (T := TX6) (N := 18) hx hb hts (by decide +kernel) tyX6 tyX6_ok nmX6 hown hK hP hD hS 0 rfl rfl 12 (by decide) (hts (.fieldLink RX6 52 "PartGraphsModel" "fault" "I") (by decide +kernel)) (fun _ h9 => h9) rfl (by decide +kernel) rfl rfl (Nat.le_of_ble_eq_true rfl) dX6_loose_2 (fun H locs hP hD hS => ?_)
  have hP : va_P D vwCl (sh_M cs adM mpM mkM mgM mcM mwM mfM mtM mhM mmM mdM mxM mnM szM 0 apM waM wrM fuM) H := hP
  have hD : va_D A (sh_M cs adM mpM mkM mgM mcM mwM mfM mtM mhM mmM mdM mxM mnM szM 0 apM waM wrM fuM) := hD
  refine lv_iconst (v := 0) hx hb dX6_loose_5 (by decide) ?_
  refine lv_istore_n (lv' := [(1, .int 0), (0, .ref (adM 0))]) hx hb dX6_loose_6 rfl hl (by decide) rfl (fun ls hl => ?_)
  refine lv_iconst (v := 0) hx hb dX6_loose_7 (by decide) ?_
  refine lv_istore_n (lv' := [(2, .int 0), (1, .int 0), (0, .ref (adM 0))]) hx hb dX6_loose_8 rfl hl (by decide) rfl (fun ls hl => ?_)
  rw [hA9] at h
  exact h _ _ hP hD hS ls (lv_sub hl [2, 1, 0] rfl)
def wp_X6_alike (mpM : Nat → Int32) (mkM : Nat → Int32) (mgM : Nat → Int32) (mhM : Nat → Int32) (faM : Int32) (p1 : Int32) (p2 : Int32) (post : Int32 → Int32 → Prop) : Prop :=
    ∀ (A10 : Int32 → Int32 → Int32 → Prop) (A78 : Int32 → Int32 → Int32 → Int32 → Int32 → Prop),
    (∀ (v3 : Int32) (v4 : Int32) (faM : Int32), (vp_in 0 2 ∧ (((mpM (0 : Int32).toNatClampNeg) ≤ v4 → post (-1) faM) ∧ (¬ (mpM (0 : Int32).toNatClampNeg) ≤ v4 → wp_X6_isPart mpM 0 p1 (fun r_2 _ => ((r_2 = 0 → post (-1) faM) ∧ (¬ r_2 = 0 → ((v4 = p1 → A78 v3 v4 0 0 faM) ∧ (¬ v4 = p1 → (vp_in v4 20 ∧ (vp_in p1 20 ∧ (((mkM v4.toNatClampNeg) = (mkM p1.toNatClampNeg) → (vp_in v4 20 ∧ (vp_in p1 20 ∧ (((mgM v4.toNatClampNeg) = (mgM p1.toNatClampNeg) → A78 v3 v4 1 0 faM) ∧ (¬ (mgM v4.toNatClampNeg) = (mgM p1.toNatClampNeg) → A78 v3 v4 0 0 faM))))) ∧ (¬ (mkM v4.toNatClampNeg) = (mkM p1.toNatClampNeg) → A78 v3 v4 0 0 faM)))))))))))) → A10 v3 v4 faM) →
    (∀ (v3 : Int32) (v4 : Int32) (v5 : Int32) (v6 : Int32) (faM : Int32), ((8 ≤ v6 → ((v5 = 0 → A10 v3 (v4 + 1) faM) ∧ (¬ v5 = 0 → ((v3 = p2 → post v4 faM) ∧ (¬ v3 = p2 → A10 (v3 + 1) (v4 + 1) faM))))) ∧ (¬ 8 ≤ v6 → ((v5 = 0 → A78 v3 v4 0 (v6 + 1) faM) ∧ (¬ v5 = 0 → (vp_in ((8 * v4) + v6) 160 ∧ (vp_in ((8 * p1) + v6) 160 ∧ (((mhM ((8 * v4) + v6).toNatClampNeg) = (mhM ((8 * p1) + v6).toNatClampNeg) → A78 v3 v4 1 (v6 + 1) faM) ∧ (¬ (mhM ((8 * v4) + v6).toNatClampNeg) = (mhM ((8 * p1) + v6).toNatClampNeg) → A78 v3 v4 0 (v6 + 1) faM)))))))) → A78 v3 v4 v5 v6 faM) →
    A10 0 0 0
set_option maxHeartbeats 4000000 in
set_option maxRecDepth 100000 in
theorem met_X6_alike (l : Launch) (D : va_G) (cs : Nat → ClassId) (ev : Nat → Nat → Nat) (sz0 : Nat) (adM : Nat → Nat) (mpM : Nat → Int32) (mkM : Nat → Int32) (mgM : Nat → Int32) (mcM : Nat → Int32) (mwM : Nat → Int32) (mfM : Nat → Int32) (mtM : Nat → Int32) (mhM : Nat → Int32) (mmM : Nat → Int32) (mdM : Nat → Int32) (mxM : Nat → Int32) (mnM : Nat → Int32) (szM : Int32) (faM : Int32) (apM : Int32) (waM : Int32) (wrM : Int32) (fuM : Int32) (p1 : Int32) (p2 : Int32) (post : Int32 → Int32 → Prop) (h : wp_X6_alike mpM mkM mgM mhM faM p1 p2 post) : Met l yX6_alike wsX6_alike ({ frames := 1, cells := 0, slots := 0, locals := 22 }) (va_Pc [.ref (adM 0), .int p1, .int p2] (mPre D cs ev (sh_M cs adM mpM mkM mgM mcM mwM mfM mtM mhM mmM mdM mxM mnM szM faM apM waM wrM fuM) sz0)) (va_Qi post (fun faM' t => mAt D cs (va_A (sh_M cs adM mpM mkM mgM mcM mwM mfM mtM mhM mmM mdM mxM mnM szM faM apM waM wrM fuM) sz0) (sh_M cs adM mpM mkM mgM mcM mwM mfM mtM mhM mmM mdM mxM mnM szM faM' apM waM wrM fuM) t) (va_A (sh_M cs adM mpM mkM mgM mcM mwM mfM mtM mhM mmM mdM mxM mnM szM faM apM waM wrM fuM) sz0)) 0 0 (va_A (sh_M cs adM mpM mkM mgM mcM mwM mfM mtM mhM mmM mdM mxM mnM szM faM apM waM wrM fuM) sz0) := by
  refine Met.ofW (cc := cX6_alike) (maxL := 7) (ret := (some .int)) (by decide) rfl ?_
  intro p e s m args below meth c s₁ B hml hv
  obtain ⟨rfl, hsz, hP, hK, hD0, hE⟩ := hv
  have hx := B.exec
  have hb := B.bytes
  have hr := B.returns
  have hts := atoms_spec (ws := wsX6_alike) B.pre
  have hown : s.vm.findClass RX6 = some m.cls := findClass_of_methodNamed B.named
  have hlocks := B.notSynchronized
  subst hsz
  have hD := hD0.self (sz := s.heap.size)
  generalize hAe : va_A (sh_M cs adM mpM mkM mgM mcM mwM mfM mtM mhM mmM mdM mxM mnM szM faM apM waM wrM fuM) s.heap.size = A at hD hE ⊢
  have hA : ∀ q : Nat, s.heap.size ≤ q → A q := fun q h => by rw [← hAe]; exact Or.inr h
  have hS : va_S A s.heap s.heap [] := va_S.rf
  have hl := lv_entry ([.ref (adM 0), .int p1, .int p2]) (n := 7) (Nat.le_of_ble_eq_true rfl)
  rw [lg_entry_eq]
  generalize (lg_sl ([.ref (adM 0), .int p1, .int p2]) ++ List.replicate (7 - (lg_sl ([.ref (adM 0), .int p1, .int p2])).length) Slot.unset).toArray = ls at hl ⊢
  have hl : lv_has ls 7 [(0, .ref (adM 0)), (1, .int p1), (2, .int p2)] := hl
  obtain ⟨A10, hA10⟩ : ∃ Q : Int32 → Int32 → Int32 → Prop, Q = (fun v3 v4 faM => ∀ (H : Heap) (locs : List Loc), va_P D vwCl (sh_M cs adM mpM mkM mgM mcM mwM mfM mtM mhM mmM mdM mxM mnM szM faM apM waM wrM fuM) H → va_D A (sh_M cs adM mpM mkM mgM mcM mwM mfM mtM mhM mmM mdM mxM mnM szM faM apM waM wrM fuM) → va_S A s.heap H locs → ∀ ls : Array Slot, lv_has ls 7 [(0, .ref (adM 0)), (1, .int p1), (2, .int p2), (3, .int v3), (4, .int v4)] → W p l e (headSpec wsX6_alike ({ frames := 1, cells := 0, slots := 0, locals := 22 })).room s m ([.ref (adM 0), .int p1, .int p2] : List Value).toArray below meth c H locs 0 0 (MQ below (va_Qi post (fun faM' t => mAt D cs (A) (sh_M cs adM mpM mkM mgM mcM mwM mfM mtM mhM mmM mdM mxM mnM szM faM' apM waM wrM fuM) t) A) ([.ref (adM 0), .int p1, .int p2] : List Value).toArray s 0 0 A) (F0 m 10 ls [])) := ⟨_, rfl⟩
  obtain ⟨A78, hA78⟩ : ∃ Q : Int32 → Int32 → Int32 → Int32 → Int32 → Prop, Q = (fun v3 v4 v5 v6 faM => ∀ (H : Heap) (locs : List Loc), va_P D vwCl (sh_M cs adM mpM mkM mgM mcM mwM mfM mtM mhM mmM mdM mxM mnM szM faM apM waM wrM fuM) H → va_D A (sh_M cs adM mpM mkM mgM mcM mwM mfM mtM mhM mmM mdM mxM mnM szM faM apM waM wrM fuM) → va_S A s.heap H locs → ∀ ls : Array Slot, lv_has ls 7 [(0, .ref (adM 0)), (1, .int p1), (2, .int p2), (3, .int v3), (4, .int v4), (5, .int v5), (6, .int v6)] → W p l e (headSpec wsX6_alike ({ frames := 1, cells := 0, slots := 0, locals := 22 })).room s m ([.ref (adM 0), .int p1, .int p2] : List Value).toArray below meth c H locs 0 0 (MQ below (va_Qi post (fun faM' t => mAt D cs (A) (sh_M cs adM mpM mkM mgM mcM mwM mfM mtM mhM mmM mdM mxM mnM szM faM' apM waM wrM fuM) t) A) ([.ref (adM 0), .int p1, .int p2] : List Value).toArray s 0 0 A) (F0 m 78 ls [])) := ⟨_, rfl⟩
  have s10 : ∀ (v3 : Int32) (v4 : Int32) (faM : Int32), (vp_in 0 2 ∧ (((mpM (0 : Int32).toNatClampNeg) ≤ v4 → post (-1) faM) ∧ (¬ (mpM (0 : Int32).toNatClampNeg) ≤ v4 → wp_X6_isPart mpM 0 p1 (fun r_2 _ => ((r_2 = 0 → post (-1) faM) ∧ (¬ r_2 = 0 → ((v4 = p1 → A78 v3 v4 0 0 faM) ∧ (¬ v4 = p1 → (vp_in v4 20 ∧ (vp_in p1 20 ∧ (((mkM v4.toNatClampNeg) = (mkM p1.toNatClampNeg) → (vp_in v4 20 ∧ (vp_in p1 20 ∧ (((mgM v4.toNatClampNeg) = (mgM p1.toNatClampNeg) → A78 v3 v4 1 0 faM) ∧ (¬ (mgM v4.toNatClampNeg) = (mgM p1.toNatClampNeg) → A78 v3 v4 0 0 faM))))) ∧ (¬ (mkM v4.toNatClampNeg) = (mkM p1.toNatClampNeg) → A78 v3 v4 0 0 faM)))))))))))) → A10 v3 v4 faM := by
    intro v3 v4 faM h
    rw [hA10]
    intro H locs hP hD hS ls hl
    refine lv_iload hx hb dX6_alike_10 (lv_at hl 4 rfl) ?_
    refine lv_aload_n hx hb dX6_alike_12 rfl (lv_at hl 0 rfl) ?_
    refine va_get (D := D) (ci := 5) (v := .ref (adM 1)) (C := RX6) (T := TX6) (N := 18) hx hb hts (by decide +kernel) hown hK hP 0 rfl rfl 0 (by decide) (hts (.fieldLink RX6 7 "PartGraphsModel" "parts" "[I") (by decide +kernel)) (fun _ h9 => h9) rfl dX6_alike_13 ?_
    refine lv_iconst (v := 0) hx hb dX6_alike_16 (by decide) ?_
    have hin := h.1
    have h := h.2
    refine va_iald (D := D) (cl := vwCl) hx hb hK hP 1 0 rfl rfl hin dX6_alike_17 ?_
    refine lv_icmp_ge (tgt := 153) hx hb dX6_alike_18 (by decide) (fun c_1 => ?_) (fun c_1 => ?_)
    · have h := h.1 c_1
      refine lv_iconst (v := (-1)) hx hb dX6_alike_153 (by decide) ?_
      exact W.iret (v := (-1)) hx hb hr (fun t ht hW => ⟨⟨(-1), faM, rfl, h, by rw [ht]; exact hP, va_K.moved hW.alike hK, hD⟩, hS.F ht⟩) hS.2.2 dX6_alike_154
    · have h := h.2 c_1
      refine lv_aload_n hx hb dX6_alike_21 rfl (lv_at hl 0 rfl) ?_
      refine lv_iconst (v := 0) hx hb dX6_alike_22 (by decide) ?_
      refine lv_iload_n hx hb dX6_alike_23 rfl (lv_at hl 1 rfl) ?_
      have hFc := va_free (wc := (sh_M cs adM mpM mkM mgM mcM mwM mfM mtM mhM mmM mdM mxM mnM szM faM apM waM wrM fuM)) hD hS hA [0, 1, 2, 3, 4, 5, 6, 7, 8, 9, 10, 11, 12] rfl
      refine va_calli (va_runV (As := [.int 0, .int p1]) (rest := []) ⟨hx, hb, hml, hown, hts⟩ (met_X6_isPart l D cs ev _ adM mpM mkM mgM mcM mwM mfM mtM mhM mmM mdM mxM mnM szM faM apM waM wrM fuM 0 p1 _ h) (cwV 2 hts gX6_alike_X6_isPart rfl rfl rfl (by decide +kernel) ⟨Nat.le_of_ble_eq_true rfl, Nat.le_of_ble_eq_true rfl⟩) (mPreV (va_recv hK hP (ci := 5) (q0 := 0) rfl rfl) hP hD hS hK hE hFc [0, 1, 2, 3, 4, 5, 6, 7, 8, 9, 10, 11, 12] (by decide) rfl) rfl rfl hl.1 rfl (lv_room (Nat.le_of_ble_eq_true rfl)) dX6_alike_24 ⟨Nat.le_of_ble_eq_true rfl, Nat.le_of_ble_eq_true rfl⟩) hS (fun q _ h => hFc q h) hFc (fun r_2 u t H1 locs ht hvm hw hB hz1 hk1 hS => ?_)
      have h := hw
      obtain ⟨hP1, hK1, hD1⟩ := hB
      rw [ht] at hP1
      obtain ⟨hP, hD⟩ := mJoin (wr := ([] : va_W)) (w1 := (sh_M cs adM mpM mkM mgM mcM mwM mfM mtM mhM mmM mdM mxM mnM szM faM apM waM wrM fuM)) (w' := (sh_M cs adM mpM mkM mgM mcM mwM mfM mtM mhM mmM mdM mxM mnM szM faM apM waM wrM fuM)) hP hD [0, 1, 2, 3, 4, 5, 6, 7, 8, 9, 10, 11, 12] [] rfl rfl (by decide) (by decide) hk1 hFc hP1 hD1 [0, 1, 2, 3, 4, 5, 6, 7, 8, 9, 10, 11, 12] (by decide) rfl
      generalize H1 = H at hP hS ⊢
      refine lv_if_eq (tgt := 153) hx hb dX6_alike_27 (by decide) (fun c_3 => ?_) (fun c_3 => ?_)
      · have h := h.1 c_3
        refine lv_iconst (v := (-1)) hx hb dX6_alike_153 (by decide) ?_
        exact W.iret (v := (-1)) hx hb hr (fun t ht hW => ⟨⟨(-1), faM, rfl, h, by rw [ht]; exact hP, va_K.moved hW.alike hK, hD⟩, hS.F ht⟩) hS.2.2 dX6_alike_154
      · have h := h.2 c_3
        refine lv_iload hx hb dX6_alike_30 (lv_at hl 4 rfl) ?_
        refine lv_iload_n hx hb dX6_alike_32 rfl (lv_at hl 1 rfl) ?_
        refine lv_icmp_eq (tgt := 72) hx hb dX6_alike_33 (by decide) (fun c_4 => ?_) (fun c_4 => ?_)
        · have h := h.1 c_4
          refine lv_iconst (v := 0) hx hb dX6_alike_72 (by decide) ?_
          refine lv_istore (lv' := [(5, .int 0), (0, .ref (adM 0)), (1, .int p1), (2, .int p2), (3, .int v3), (4, .int v4)]) hx hb dX6_alike_73 hl (by decide) rfl (fun ls hl => ?_)
          refine lv_iconst (v := 0) hx hb dX6_alike_75 (by decide) ?_
          refine lv_istore (lv' := [(6, .int 0), (5, .int 0), (0, .ref (adM 0)), (1, .int p1), (2, .int p2), (3, .int v3), (4, .int v4)]) hx hb dX6_alike_76 hl (by decide) rfl (fun ls hl => ?_)
          rw [hA78] at h
          exact h _ _ hP hD hS ls (lv_sub hl [2, 3, 4, 5, 6, 1, 0] rfl)
        · have h := h.2 c_4
          refine lv_aload_n hx hb dX6_alike_36 rfl (lv_at hl 0 rfl) ?_
          refine va_get (D := D) (ci := 5) (v := .ref (adM 2)) (C := RX6) (T := TX6) (N := 18) hx hb hts (by decide +kernel) hown hK hP 0 rfl rfl 1 (by decide) (hts (.fieldLink RX6 13 "PartGraphsModel" "kinds" "[I") (by decide +kernel)) (fun _ h9 => h9) rfl dX6_alike_37 ?_
          refine lv_iload hx hb dX6_alike_40 (lv_at hl 4 rfl) ?_
          have hin := h.1
          have h := h.2
          refine va_iald (D := D) (cl := vwCl) hx hb hK hP 2 0 rfl rfl hin dX6_alike_42 ?_
          refine lv_aload_n hx hb dX6_alike_43 rfl (lv_at hl 0 rfl) ?_
          refine va_get (D := D) (ci := 5) (v := .ref (adM 2)) (C := RX6) (T := TX6) (N := 18) hx hb hts (by decide +kernel) hown hK hP 0 rfl rfl 1 (by decide) (hts (.fieldLink RX6 13 "PartGraphsModel" "kinds" "[I") (by decide +kernel)) (fun _ h9 => h9) rfl dX6_alike_44 ?_
          refine lv_iload_n hx hb dX6_alike_47 rfl (lv_at hl 1 rfl) ?_
          have hin := h.1
          have h := h.2
          refine va_iald (D := D) (cl := vwCl) hx hb hK hP 2 0 rfl rfl hin dX6_alike_48 ?_
          refine lv_icmp_ne (tgt := 72) hx hb dX6_alike_49 (by decide) (fun c_5 => ?_) (fun c_5 => ?_)
          · have h := h.2 c_5
            refine lv_iconst (v := 0) hx hb dX6_alike_72 (by decide) ?_
            refine lv_istore (lv' := [(5, .int 0), (0, .ref (adM 0)), (1, .int p1), (2, .int p2), (3, .int v3), (4, .int v4)]) hx hb dX6_alike_73 hl (by decide) rfl (fun ls hl => ?_)
            refine lv_iconst (v := 0) hx hb dX6_alike_75 (by decide) ?_
            refine lv_istore (lv' := [(6, .int 0), (5, .int 0), (0, .ref (adM 0)), (1, .int p1), (2, .int p2), (3, .int v3), (4, .int v4)]) hx hb dX6_alike_76 hl (by decide) rfl (fun ls hl => ?_)
            rw [hA78] at h
            exact h _ _ hP hD hS ls (lv_sub hl [2, 3, 4, 5, 6, 1, 0] rfl)
          · have h := h.1 c_5
            refine lv_aload_n hx hb dX6_alike_52 rfl (lv_at hl 0 rfl) ?_
            refine va_get (D := D) (ci := 5) (v := .ref (adM 3)) (C := RX6) (T := TX6) (N := 18) hx hb hts (by decide +kernel) hown hK hP 0 rfl rfl 2 (by decide) (hts (.fieldLink RX6 16 "PartGraphsModel" "grams" "[I") (by decide +kernel)) (fun _ h9 => h9) rfl dX6_alike_53 ?_
            refine lv_iload hx hb dX6_alike_56 (lv_at hl 4 rfl) ?_
            have hin := h.1
            have h := h.2
            refine va_iald (D := D) (cl := vwCl) hx hb hK hP 3 0 rfl rfl hin dX6_alike_58 ?_
            refine lv_aload_n hx hb dX6_alike_59 rfl (lv_at hl 0 rfl) ?_
            refine va_get (D := D) (ci := 5) (v := .ref (adM 3)) (C := RX6) (T := TX6) (N := 18) hx hb hts (by decide +kernel) hown hK hP 0 rfl rfl 2 (by decide) (hts (.fieldLink RX6 16 "PartGraphsModel" "grams" "[I") (by decide +kernel)) (fun _ h9 => h9) rfl dX6_alike_60 ?_
            refine lv_iload_n hx hb dX6_alike_63 rfl (lv_at hl 1 rfl) ?_
            have hin := h.1
            have h := h.2
            refine va_iald (D := D) (cl := vwCl) hx hb hK hP 3 0 rfl rfl hin dX6_alike_64 ?_
            refine lv_icmp_ne (tgt := 72) hx hb dX6_alike_65 (by decide) (fun c_6 => ?_) (fun c_6 => ?_)
            · have h := h.2 c_6
              refine lv_iconst (v := 0) hx hb dX6_alike_72 (by decide) ?_
              refine lv_istore (lv' := [(5, .int 0), (0, .ref (adM 0)), (1, .int p1), (2, .int p2), (3, .int v3), (4, .int v4)]) hx hb dX6_alike_73 hl (by decide) rfl (fun ls hl => ?_)
              refine lv_iconst (v := 0) hx hb dX6_alike_75 (by decide) ?_
              refine lv_istore (lv' := [(6, .int 0), (5, .int 0), (0, .ref (adM 0)), (1, .int p1), (2, .int p2), (3, .int v3), (4, .int v4)]) hx hb dX6_alike_76 hl (by decide) rfl (fun ls hl => ?_)
              rw [hA78] at h
              exact h _ _ hP hD hS ls (lv_sub hl [2, 3, 4, 5, 6, 1, 0] rfl)
            · have h := h.1 c_6
              refine lv_iconst (v := 1) hx hb dX6_alike_68 (by decide) ?_
              refine lv_goto (tgt := 73) hx hb dX6_alike_69 (by decide) ?_
              refine lv_istore (lv' := [(5, .int 1), (0, .ref (adM 0)), (1, .int p1), (2, .int p2), (3, .int v3), (4, .int v4)]) hx hb dX6_alike_73 hl (by decide) rfl (fun ls hl => ?_)
              refine lv_iconst (v := 0) hx hb dX6_alike_75 (by decide) ?_
              refine lv_istore (lv' := [(6, .int 0), (5, .int 1), (0, .ref (adM 0)), (1, .int p1), (2, .int p2), (3, .int v3), (4, .int v4)]) hx hb dX6_alike_76 hl (by decide) rfl (fun ls hl => ?_)
              rw [hA78] at h
              exact h _ _ hP hD hS ls (lv_sub hl [2, 3, 4, 5, 6, 1, 0] rfl)
  have s78 : ∀ (v3 : Int32) (v4 : Int32) (v5 : Int32) (v6 : Int32) (faM : Int32), ((8 ≤ v6 → ((v5 = 0 → A10 v3 (v4 + 1) faM) ∧ (¬ v5 = 0 → ((v3 = p2 → post v4 faM) ∧ (¬ v3 = p2 → A10 (v3 + 1) (v4 + 1) faM))))) ∧ (¬ 8 ≤ v6 → ((v5 = 0 → A78 v3 v4 0 (v6 + 1) faM) ∧ (¬ v5 = 0 → (vp_in ((8 * v4) + v6) 160 ∧ (vp_in ((8 * p1) + v6) 160 ∧ (((mhM ((8 * v4) + v6).toNatClampNeg) = (mhM ((8 * p1) + v6).toNatClampNeg) → A78 v3 v4 1 (v6 + 1) faM) ∧ (¬ (mhM ((8 * v4) + v6).toNatClampNeg) = (mhM ((8 * p1) + v6).toNatClampNeg) → A78 v3 v4 0 (v6 + 1) faM)))))))) → A78 v3 v4 v5 v6 faM := by
    intro v3 v4 v5 v6 faM h
    rw [hA78]
    intro H locs hP hD hS ls hl
    refine lv_iload hx hb dX6_alike_78 (lv_at hl 6 rfl) ?_
    refine lv_bipush (v := 8) hx hb dX6_alike_80 (by decide) ?_
    refine lv_icmp_ge (tgt := 131) hx hb dX6_alike_82 (by decide) (fun c_7 => ?_) (fun c_7 => ?_)
    · have h := h.1 c_7
      refine lv_iload hx hb dX6_alike_131 (lv_at hl 5 rfl) ?_
      refine lv_if_eq (tgt := 147) hx hb dX6_alike_133 (by decide) (fun c_8 => ?_) (fun c_8 => ?_)
      · have h := h.1 c_8
        refine lv_iinc (v := v4 + 1) (lv' := [(4, .int (v4 + 1)), (0, .ref (adM 0)), (1, .int p1), (2, .int p2), (3, .int v3), (5, .int v5), (6, .int v6)]) hx hb dX6_alike_147 hl (k := 4) rfl rfl (by decide) rfl (fun ls hl => ?_)
        refine lv_goto (tgt := 10) hx hb dX6_alike_150 (by decide) ?_
        rw [hA10] at h
        exact h _ _ hP hD hS ls (lv_sub hl [1, 2, 3, 4, 0] rfl)
      · have h := h.2 c_8
        refine lv_iload_n hx hb dX6_alike_136 rfl (lv_at hl 3 rfl) ?_
        refine lv_iload_n hx hb dX6_alike_137 rfl (lv_at hl 2 rfl) ?_
        refine lv_icmp_ne (tgt := 144) hx hb dX6_alike_138 (by decide) (fun c_9 => ?_) (fun c_9 => ?_)
        · have h := h.2 c_9
          refine lv_iinc (v := v3 + 1) (lv' := [(3, .int (v3 + 1)), (0, .ref (adM 0)), (1, .int p1), (2, .int p2), (4, .int v4), (5, .int v5), (6, .int v6)]) hx hb dX6_alike_144 hl (k := 3) rfl rfl (by decide) rfl (fun ls hl => ?_)
          refine lv_iinc (v := v4 + 1) (lv' := [(4, .int (v4 + 1)), (3, .int (v3 + 1)), (0, .ref (adM 0)), (1, .int p1), (2, .int p2), (5, .int v5), (6, .int v6)]) hx hb dX6_alike_147 hl (k := 4) rfl rfl (by decide) rfl (fun ls hl => ?_)
          refine lv_goto (tgt := 10) hx hb dX6_alike_150 (by decide) ?_
          rw [hA10] at h
          exact h _ _ hP hD hS ls (lv_sub hl [2, 3, 4, 1, 0] rfl)
        · have h := h.1 c_9
          refine lv_iload hx hb dX6_alike_141 (lv_at hl 4 rfl) ?_
          exact W.iret (v := v4) hx hb hr (fun t ht hW => ⟨⟨v4, faM, rfl, h, by rw [ht]; exact hP, va_K.moved hW.alike hK, hD⟩, hS.F ht⟩) hS.2.2 dX6_alike_143
    · have h := h.2 c_7
      refine lv_iload hx hb dX6_alike_85 (lv_at hl 5 rfl) ?_
      refine lv_if_eq (tgt := 122) hx hb dX6_alike_87 (by decide) (fun c_10 => ?_) (fun c_10 => ?_)
      · have h := h.1 c_10
        refine lv_iconst (v := 0) hx hb dX6_alike_122 (by decide) ?_
        refine lv_istore (lv' := [(5, .int 0), (0, .ref (adM 0)), (1, .int p1), (2, .int p2), (3, .int v3), (4, .int v4), (6, .int v6)]) hx hb dX6_alike_123 hl (by decide) rfl (fun ls hl => ?_)
        refine lv_iinc (v := v6 + 1) (lv' := [(6, .int (v6 + 1)), (5, .int 0), (0, .ref (adM 0)), (1, .int p1), (2, .int p2), (3, .int v3), (4, .int v4)]) hx hb dX6_alike_125 hl (k := 6) rfl rfl (by decide) rfl (fun ls hl => ?_)
        refine lv_goto (tgt := 78) hx hb dX6_alike_128 (by decide) ?_
        rw [hA78] at h
        exact h _ _ hP hD hS ls (lv_sub hl [2, 3, 4, 5, 6, 1, 0] rfl)
      · have h := h.2 c_10
        refine lv_aload_n hx hb dX6_alike_90 rfl (lv_at hl 0 rfl) ?_
        refine va_get (D := D) (ci := 5) (v := .ref (adM 8)) (C := RX6) (T := TX6) (N := 18) hx hb hts (by decide +kernel) hown hK hP 0 rfl rfl 7 (by decide) (hts (.fieldLink RX6 32 "PartGraphsModel" "hazards" "[Z") (by decide +kernel)) (fun _ h9 => h9) rfl dX6_alike_91 ?_
        refine lv_bipush (v := 8) hx hb dX6_alike_94 (by decide) ?_
        refine lv_iload hx hb dX6_alike_96 (lv_at hl 4 rfl) ?_
        refine lv_imul hx hb dX6_alike_98 ?_
        refine lv_iload hx hb dX6_alike_99 (lv_at hl 6 rfl) ?_
        refine lv_iadd hx hb dX6_alike_101 ?_
        have hin := h.1
        have h := h.2
        refine va_zald (D := D) (cl := vwCl) hx hb hK hP 8 4 rfl rfl hin dX6_alike_102 ?_
        refine lv_aload_n hx hb dX6_alike_103 rfl (lv_at hl 0 rfl) ?_
        refine va_get (D := D) (ci := 5) (v := .ref (adM 8)) (C := RX6) (T := TX6) (N := 18) hx hb hts (by decide +kernel) hown hK hP 0 rfl rfl 7 (by decide) (hts (.fieldLink RX6 32 "PartGraphsModel" "hazards" "[Z") (by decide +kernel)) (fun _ h9 => h9) rfl dX6_alike_104 ?_
        refine lv_bipush (v := 8) hx hb dX6_alike_107 (by decide) ?_
        refine lv_iload_n hx hb dX6_alike_109 rfl (lv_at hl 1 rfl) ?_
        refine lv_imul hx hb dX6_alike_110 ?_
        refine lv_iload hx hb dX6_alike_111 (lv_at hl 6 rfl) ?_
        refine lv_iadd hx hb dX6_alike_113 ?_
        have hin := h.1
        have h := h.2
        refine va_zald (D := D) (cl := vwCl) hx hb hK hP 8 4 rfl rfl hin dX6_alike_114 ?_
        refine lv_icmp_ne (tgt := 122) hx hb dX6_alike_115 (by decide) (fun c_11 => ?_) (fun c_11 => ?_)
        · have h := h.2 c_11
          refine lv_iconst (v := 0) hx hb dX6_alike_122 (by decide) ?_
          refine lv_istore (lv' := [(5, .int 0), (0, .ref (adM 0)), (1, .int p1), (2, .int p2), (3, .int v3), (4, .int v4), (6, .int v6)]) hx hb dX6_alike_123 hl (by decide) rfl (fun ls hl => ?_)
          refine lv_iinc (v := v6 + 1) (lv' := [(6, .int (v6 + 1)), (5, .int 0), (0, .ref (adM 0)), (1, .int p1), (2, .int p2), (3, .int v3), (4, .int v4)]) hx hb dX6_alike_125 hl (k := 6) rfl rfl (by decide) rfl (fun ls hl => ?_)
          refine lv_goto (tgt := 78) hx hb dX6_alike_128 (by decide) ?_
          rw [hA78] at h
          exact h _ _ hP hD hS ls (lv_sub hl [2, 3, 4, 5, 6, 1, 0] rfl)
        · have h := h.1 c_11
          refine lv_iconst (v := 1) hx hb dX6_alike_118 (by decide) ?_
          refine lv_goto (tgt := 123) hx hb dX6_alike_119 (by decide) ?_
          refine lv_istore (lv' := [(5, .int 1), (0, .ref (adM 0)), (1, .int p1), (2, .int p2), (3, .int v3), (4, .int v4), (6, .int v6)]) hx hb dX6_alike_123 hl (by decide) rfl (fun ls hl => ?_)
          refine lv_iinc (v := v6 + 1) (lv' := [(6, .int (v6 + 1)), (5, .int 1), (0, .ref (adM 0)), (1, .int p1), (2, .int p2), (3, .int v3), (4, .int v4)]) hx hb dX6_alike_125 hl (k := 6) rfl rfl (by decide) rfl (fun ls hl => ?_)
          refine lv_goto (tgt := 78) hx hb dX6_alike_128 (by decide) ?_
          rw [hA78] at h
          exact h _ _ hP hD hS ls (lv_sub hl [2, 3, 4, 5, 6, 1, 0] rfl)
  have h := h A10 A78 s10 s78
  refine lv_aload_n hx hb dX6_alike_0 rfl (lv_at hl 0 rfl) ?_
  refine lv_iconst (v := 0) hx hb dX6_alike_1 (by decide) ?_
  refine va_put (D := D) (ci := 5) (v := .int 0) (ty := .int) (C := RX6) (T := TX6) (N := 18) hx hb hts (by decide +kernel) tyX6 tyX6_ok nmX6 hown hK hP hD hS 0 rfl rfl 12 (by decide) (hts (.fieldLink RX6 52 "PartGraphsModel" "fault" "I") (by decide +kernel)) (fun _ h9 => h9) rfl (by decide +kernel) rfl rfl (Nat.le_of_ble_eq_true rfl) dX6_alike_2 (fun H locs hP hD hS => ?_)
  have hP : va_P D vwCl (sh_M cs adM mpM mkM mgM mcM mwM mfM mtM mhM mmM mdM mxM mnM szM 0 apM waM wrM fuM) H := hP
  have hD : va_D A (sh_M cs adM mpM mkM mgM mcM mwM mfM mtM mhM mmM mdM mxM mnM szM 0 apM waM wrM fuM) := hD
  refine lv_iconst (v := 0) hx hb dX6_alike_5 (by decide) ?_
  refine lv_istore_n (lv' := [(3, .int 0), (0, .ref (adM 0)), (1, .int p1), (2, .int p2)]) hx hb dX6_alike_6 rfl hl (by decide) rfl (fun ls hl => ?_)
  refine lv_iconst (v := 0) hx hb dX6_alike_7 (by decide) ?_
  refine lv_istore (lv' := [(4, .int 0), (3, .int 0), (0, .ref (adM 0)), (1, .int p1), (2, .int p2)]) hx hb dX6_alike_8 hl (by decide) rfl (fun ls hl => ?_)
  rw [hA10] at h
  exact h _ _ hP hD hS ls (lv_sub hl [2, 3, 4, 1, 0] rfl)
