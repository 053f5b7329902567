def wp_X6_canBe (mpM : Nat → Int32) (mcM : Nat → Int32) (mwM : Nat → Int32) (mfM : Nat → Int32) (mhM : Nat → Int32) (mmM : Nat → Int32) (p1 : Int32) (p2 : Int32) (p3 : Int32) (p4 : Int32) (p5 : Int32) (p6 : Int32) (post : Int32 → Unit → Prop) : Prop :=
    ∀ (A3 : Int32 → Prop) (A13 : Int32 → Int32 → Prop) (A23 : Int32 → Int32 → Int32 → Prop),
    (∀ (v7 : Int32), ((10 ≤ v7 → post 0 ()) ∧ (¬ 10 ≤ v7 → A13 v7 0)) → A3 v7) →
    (∀ (v7 : Int32) (v8 : Int32), ((10 ≤ v8 → A3 (v7 + 1)) ∧ (¬ 10 ≤ v8 → A23 v7 v8 0)) → A13 v7 v8) →
    (∀ (v7 : Int32) (v8 : Int32) (v9 : Int32), ((10 ≤ v9 → A13 v7 (v8 + 1)) ∧ (¬ 10 ≤ v9 → ((p3 ≤ 0 → ((p3 ≤ 1 → ((p3 ≤ 2 → wp_X6_isAllowed mpM mcM mwM mfM mhM mmM p1 p2 v7 v8 v9 (fun r_7 _ => ((r_7 = 0 → A23 v7 v8 (v9 + 1)) ∧ (¬ r_7 = 0 → post 1 ())))) ∧ (¬ p3 ≤ 2 → wp_X6_isAllowed mpM mcM mwM mfM mhM mmM p1 p2 v7 v8 p6 (fun r_9 _ => ((r_9 = 0 → A23 v7 v8 (v9 + 1)) ∧ (¬ r_9 = 0 → post 1 ())))))) ∧ (¬ p3 ≤ 1 → ((p3 ≤ 2 → wp_X6_isAllowed mpM mcM mwM mfM mhM mmM p1 p2 v7 p5 v9 (fun r_12 _ => ((r_12 = 0 → A23 v7 v8 (v9 + 1)) ∧ (¬ r_12 = 0 → post 1 ())))) ∧ (¬ p3 ≤ 2 → wp_X6_isAllowed mpM mcM mwM mfM mhM mmM p1 p2 v7 p5 p6 (fun r_14 _ => ((r_14 = 0 → A23 v7 v8 (v9 + 1)) ∧ (¬ r_14 = 0 → post 1 ())))))))) ∧ (¬ p3 ≤ 0 → ((p3 ≤ 1 → ((p3 ≤ 2 → wp_X6_isAllowed mpM mcM mwM mfM mhM mmM p1 p2 p4 v8 v9 (fun r_18 _ => ((r_18 = 0 → A23 v7 v8 (v9 + 1)) ∧ (¬ r_18 = 0 → post 1 ())))) ∧ (¬ p3 ≤ 2 → wp_X6_isAllowed mpM mcM mwM mfM mhM mmM p1 p2 p4 v8 p6 (fun r_20 _ => ((r_20 = 0 → A23 v7 v8 (v9 + 1)) ∧ (¬ r_20 = 0 → post 1 ())))))) ∧ (¬ p3 ≤ 1 → ((p3 ≤ 2 → wp_X6_isAllowed mpM mcM mwM mfM mhM mmM p1 p2 p4 p5 v9 (fun r_23 _ => ((r_23 = 0 → A23 v7 v8 (v9 + 1)) ∧ (¬ r_23 = 0 → post 1 ())))) ∧ (¬ p3 ≤ 2 → wp_X6_isAllowed mpM mcM mwM mfM mhM mmM p1 p2 p4 p5 p6 (fun r_25 _ => ((r_25 = 0 → A23 v7 v8 (v9 + 1)) ∧ (¬ r_25 = 0 → post 1 ()))))))))))) → A23 v7 v8 v9) →
    A3 0
set_option maxHeartbeats 4000000 in
set_option maxRecDepth 100000 in
theorem met_X6_canBe (l : Launch) (D : va_G) (cs : Nat → ClassId) (ev : Nat → Nat → Nat) (sz0 : Nat) (adM : Nat → Nat) (mpM : Nat → Int32) (mkM : Nat → Int32) (mgM : Nat → Int32) (mcM : Nat → Int32) (mwM : Nat → Int32) (mfM : Nat → Int32) (mtM : Nat → Int32) (mhM : Nat → Int32) (mmM : Nat → Int32) (mdM : Nat → Int32) (mxM : Nat → Int32) (mnM : Nat → Int32) (szM : Int32) (faM : Int32) (apM : Int32) (waM : Int32) (wrM : Int32) (fuM : Int32) (p1 : Int32) (p2 : Int32) (p3 : Int32) (p4 : Int32) (p5 : Int32) (p6 : Int32) (post : Int32 → Unit → Prop) (h : wp_X6_canBe mpM mcM mwM mfM mhM mmM p1 p2 p3 p4 p5 p6 post) : Met l yX6_canBe wsX6_canBe ({ frames := 2, cells := 0, slots := 0, locals := 48 }) (va_Pc [.ref (adM 0), .int p1, .int p2, .int p3, .int p4, .int p5, .int p6] (mPre D cs ev (sh_M cs adM mpM mkM mgM mcM mwM mfM mtM mhM mmM mdM mxM mnM szM faM apM waM wrM fuM) sz0)) (va_Qi post (fun _ t => mAt D cs (va_A (sh_M cs adM mpM mkM mgM mcM mwM mfM mtM mhM mmM mdM mxM mnM szM faM apM waM wrM fuM) sz0) (sh_M cs adM mpM mkM mgM mcM mwM mfM mtM mhM mmM mdM mxM mnM szM faM apM waM wrM fuM) t) (va_A (sh_M cs adM mpM mkM mgM mcM mwM mfM mtM mhM mmM mdM mxM mnM szM faM apM waM wrM fuM) sz0)) 0 0 (va_A (sh_M cs adM mpM mkM mgM mcM mwM mfM mtM mhM mmM mdM mxM mnM szM faM apM waM wrM fuM) sz0) := by
  refine Met.ofW (cc := cX6_canBe) (maxL := 10) (ret := (some .boolean)) (by decide) rfl ?_
  intro p e s m args below meth c s₁ B hml hv
  obtain ⟨rfl, hsz, hP, hK, hD0, hE⟩ := hv
  have hx := B.exec
  have hb := B.bytes
  have hr := B.returns
  have hts := atoms_spec (ws := wsX6_canBe) B.pre
  have hown : s.vm.findClass RX6 = some m.cls := findClass_of_methodNamed B.named
  have hlocks := B.notSynchronized
  subst hsz
  have hD := hD0.self (sz := s.heap.size)
  generalize hAe : va_A (sh_M cs adM mpM mkM mgM mcM mwM mfM mtM mhM mmM mdM mxM mnM szM faM apM waM wrM fuM) s.heap.size = A at hD hE ⊢
  have hA : ∀ q : Nat, s.heap.size ≤ q → A q := fun q h => by rw [← hAe]; exact Or.inr h
  have hS : va_S A s.heap s.heap [] := va_S.rf
  have hl := lv_entry ([.ref (adM 0), .int p1, .int p2, .int p3, .int p4, .int p5, .int p6]) (n := 10) (Nat.le_of_ble_eq_true rfl)
  rw [lg_entry_eq]
  generalize (lg_sl ([.ref (adM 0), .int p1, .int p2, .int p3, .int p4, .int p5, .int p6]) ++ List.replicate (10 - (lg_sl ([.ref (adM 0), .int p1, .int p2, .int p3, .int p4, .int p5, .int p6])).length) Slot.unset).toArray = ls at hl ⊢
  have hl : lv_has ls 10 [(0, .ref (adM 0)), (1, .int p1), (2, .int p2), (3, .int p3), (4, .int p4), (5, .int p5), (6, .int p6)] := hl
  obtain ⟨A3, hA3⟩ : ∃ Q : Int32 → Prop, Q = (fun v7 => ∀ (H : Heap) (locs : List Loc), va_P D vwCl (sh_M cs adM mpM mkM mgM mcM mwM mfM mtM mhM mmM mdM mxM mnM szM faM apM waM wrM fuM) H → va_D A (sh_M cs adM mpM mkM mgM mcM mwM mfM mtM mhM mmM mdM mxM mnM szM faM apM waM wrM fuM) → va_S A s.heap H locs → ∀ ls : Array Slot, lv_has ls 10 [(0, .ref (adM 0)), (1, .int p1), (2, .int p2), (3, .int p3), (4, .int p4), (5, .int p5), (6, .int p6), (7, .int v7)] → W p l e (headSpec wsX6_canBe ({ frames := 2, cells := 0, slots := 0, locals := 48 })).room s m ([.ref (adM 0), .int p1, .int p2, .int p3, .int p4, .int p5, .int p6] : List Value).toArray below meth c H locs 0 0 (MQ below (va_Qi post (fun _ t => mAt D cs (A) (sh_M cs adM mpM mkM mgM mcM mwM mfM mtM mhM mmM mdM mxM mnM szM faM apM waM wrM fuM) t) A) ([.ref (adM 0), .int p1, .int p2, .int p3, .int p4, .int p5, .int p6] : List Value).toArray s 0 0 A) (F0 m 3 ls [])) := ⟨_, rfl⟩
  obtain ⟨A13, hA13⟩ : ∃ Q : Int32 → Int32 → Prop, Q = (fun v7 v8 => ∀ (H : Heap) (locs : List Loc), va_P D vwCl (sh_M cs adM mpM mkM mgM mcM mwM mfM mtM mhM mmM mdM mxM mnM szM faM apM waM wrM fuM) H → va_D A (sh_M cs adM mpM mkM mgM mcM mwM mfM mtM mhM mmM mdM mxM mnM szM faM apM waM wrM fuM) → va_S A s.heap H locs → ∀ ls : Array Slot, lv_has ls 10 [(0, .ref (adM 0)), (1, .int p1), (2, .int p2), (3, .int p3), (4, .int p4), (5, .int p5), (6, .int p6), (7, .int v7), (8, .int v8)] → W p l e (headSpec wsX6_canBe ({ frames := 2, cells := 0, slots := 0, locals := 48 })).room s m ([.ref (adM 0), .int p1, .int p2, .int p3, .int p4, .int p5, .int p6] : List Value).toArray below meth c H locs 0 0 (MQ below (va_Qi post (fun _ t => mAt D cs (A) (sh_M cs adM mpM mkM mgM mcM mwM mfM mtM mhM mmM mdM mxM mnM szM faM apM waM wrM fuM) t) A) ([.ref (adM 0), .int p1, .int p2, .int p3, .int p4, .int p5, .int p6] : List Value).toArray s 0 0 A) (F0 m 13 ls [])) := ⟨_, rfl⟩
  obtain ⟨A23, hA23⟩ : ∃ Q : Int32 → Int32 → Int32 → Prop, Q = (fun v7 v8 v9 => ∀ (H : Heap) (locs : List Loc), va_P D vwCl (sh_M cs adM mpM mkM mgM mcM mwM mfM mtM mhM mmM mdM mxM mnM szM faM apM waM wrM fuM) H → va_D A (sh_M cs adM mpM mkM mgM mcM mwM mfM mtM mhM mmM mdM mxM mnM szM faM apM waM wrM fuM) → va_S A s.heap H locs → ∀ ls : Array Slot, lv_has ls 10 [(0, .ref (adM 0)), (1, .int p1), (2, .int p2), (3, .int p3), (4, .int p4), (5, .int p5), (6, .int p6), (7, .int v7), (8, .int v8), (9, .int v9)] → W p l e (headSpec wsX6_canBe ({ frames := 2, cells := 0, slots := 0, locals := 48 })).room s m ([.ref (adM 0), .int p1, .int p2, .int p3, .int p4, .int p5, .int p6] : List Value).toArray below meth c H locs 0 0 (MQ below (va_Qi post (fun _ t => mAt D cs (A) (sh_M cs adM mpM mkM mgM mcM mwM mfM mtM mhM mmM mdM mxM mnM szM faM apM waM wrM fuM) t) A) ([.ref (adM 0), .int p1, .int p2, .int p3, .int p4, .int p5, .int p6] : List Value).toArray s 0 0 A) (F0 m 23 ls [])) := ⟨_, rfl⟩
  have s3 : ∀ (v7 : Int32), ((10 ≤ v7 → post 0 ()) ∧ (¬ 10 ≤ v7 → A13 v7 0)) → A3 v7 := by
    intro v7 h
    rw [hA3]
    intro H locs hP hD hS ls hl
    refine lv_iload hx hb dX6_canBe_3 (lv_at hl 7 rfl) ?_
    refine lv_bipush (v := 10) hx hb dX6_canBe_5 (by decide) ?_
    refine lv_icmp_ge (tgt := 94) hx hb dX6_canBe_7 (by decide) (fun c_1 => ?_) (fun c_1 => ?_)
    · have h := h.1 c_1
      refine lv_iconst (v := 0) hx hb dX6_canBe_94 (by decide) ?_
      exact W.zret (v := 0) hx hb hr (by decide) (fun t ht hW => ⟨⟨0, (), rfl, h, by rw [ht]; exact hP, va_K.moved hW.alike hK, hD⟩, hS.F ht⟩) hS.2.2 dX6_canBe_95
    · have h := h.2 c_1
      refine lv_iconst (v := 0) hx hb dX6_canBe_10 (by decide) ?_
      refine lv_istore (lv' := [(8, .int 0), (0, .ref (adM 0)), (1, .int p1), (2, .int p2), (3, .int p3), (4, .int p4), (5, .int p5), (6, .int p6), (7, .int v7)]) hx hb dX6_canBe_11 hl (by decide) rfl (fun ls hl => ?_)
      rw [hA13] at h
      exact h _ _ hP hD hS ls (lv_sub hl [1, 2, 3, 4, 5, 6, 7, 8, 0] rfl)
  have s13 : ∀ (v7 : Int32) (v8 : Int32), ((10 ≤ v8 → A3 (v7 + 1)) ∧ (¬ 10 ≤ v8 → A23 v7 v8 0)) → A13 v7 v8 := by
    intro v7 v8 h
    rw [hA13]
    intro H locs hP hD hS ls hl
    refine lv_iload hx hb dX6_canBe_13 (lv_at hl 8 rfl) ?_
    refine lv_bipush (v := 10) hx hb dX6_canBe_15 (by decide) ?_
    refine lv_icmp_ge (tgt := 88) hx hb dX6_canBe_17 (by decide) (fun c_2 => ?_) (fun c_2 => ?_)
    · have h := h.1 c_2
      refine lv_iinc (v := v7 + 1) (lv' := [(7, .int (v7 + 1)), (0, .ref (adM 0)), (1, .int p1), (2, .int p2), (3, .int p3), (4, .int p4), (5, .int p5), (6, .int p6), (8, .int v8)]) hx hb dX6_canBe_88 hl (k := 7) rfl rfl (by decide) rfl (fun ls hl => ?_)
      refine lv_goto (tgt := 3) hx hb dX6_canBe_91 (by decide) ?_
      rw [hA3] at h
      exact h _ _ hP hD hS ls (lv_sub hl [1, 2, 3, 4, 5, 6, 7, 0] rfl)
    · have h := h.2 c_2
      refine lv_iconst (v := 0) hx hb dX6_canBe_20 (by decide) ?_
      refine lv_istore (lv' := [(9, .int 0), (0, .ref (adM 0)), (1, .int p1), (2, .int p2), (3, .int p3), (4, .int p4), (5, .int p5), (6, .int p6), (7, .int v7), (8, .int v8)]) hx hb dX6_canBe_21 hl (by decide) rfl (fun ls hl => ?_)
      rw [hA23] at h
      exact h _ _ hP hD hS ls (lv_sub hl [1, 2, 3, 4, 5, 6, 7, 8, 9, 0] rfl)
  have s23 : ∀ (v7 : Int32) (v8 : Int32) (v9 : Int32), ((10 ≤ v9 → A13 v7 (v8 + 1)) ∧ (¬ 10 ≤ v9 → ((p3 ≤ 0 → ((p3 ≤ 1 → ((p3 ≤ 2 → wp_X6_isAllowed mpM mcM mwM mfM mhM mmM p1 p2 v7 v8 v9 (fun r_7 _ => ((r_7 = 0 → A23 v7 v8 (v9 + 1)) ∧ (¬ r_7 = 0 → post 1 ())))) ∧ (¬ p3 ≤ 2 → wp_X6_isAllowed mpM mcM mwM mfM mhM mmM p1 p2 v7 v8 p6 (fun r_9 _ => ((r_9 = 0 → A23 v7 v8 (v9 + 1)) ∧ (¬ r_9 = 0 → post 1 ())))))) ∧ (¬ p3 ≤ 1 → ((p3 ≤ 2 → wp_X6_isAllowed mpM mcM mwM mfM mhM mmM p1 p2 v7 p5 v9 (fun r_12 _ => ((r_12 = 0 → A23 v7 v8 (v9 + 1)) ∧ (¬ r_12 = 0 → post 1 ())))) ∧ (¬ p3 ≤ 2 → wp_X6_isAllowed mpM mcM mwM mfM mhM mmM p1 p2 v7 p5 p6 (fun r_14 _ => ((r_14 = 0 → A23 v7 v8 (v9 + 1)) ∧ (¬ r_14 = 0 → post 1 ())))))))) ∧ (¬ p3 ≤ 0 → ((p3 ≤ 1 → ((p3 ≤ 2 → wp_X6_isAllowed mpM mcM mwM mfM mhM mmM p1 p2 p4 v8 v9 (fun r_18 _ => ((r_18 = 0 → A23 v7 v8 (v9 + 1)) ∧ (¬ r_18 = 0 → post 1 ())))) ∧ (¬ p3 ≤ 2 → wp_X6_isAllowed mpM mcM mwM mfM mhM mmM p1 p2 p4 v8 p6 (fun r_20 _ => ((r_20 = 0 → A23 v7 v8 (v9 + 1)) ∧ (¬ r_20 = 0 → post 1 ())))))) ∧ (¬ p3 ≤ 1 → ((p3 ≤ 2 → wp_X6_isAllowed mpM mcM mwM mfM mhM mmM p1 p2 p4 p5 v9 (fun r_23 _ => ((r_23 = 0 → A23 v7 v8 (v9 + 1)) ∧ (¬ r_23 = 0 → post 1 ())))) ∧ (¬ p3 ≤ 2 → wp_X6_isAllowed mpM mcM mwM mfM mhM mmM p1 p2 p4 p5 p6 (fun r_25 _ => ((r_25 = 0 → A23 v7 v8 (v9 + 1)) ∧ (¬ r_25 = 0 → post 1 ()))))))))))) → A23 v7 v8 v9 := by
    intro v7 v8 v9 h
    rw [hA23]
    intro H locs hP hD hS ls hl
    refine lv_iload hx hb dX6_canBe_23 (lv_at hl 9 rfl) ?_
    refine lv_bipush (v := 10) hx hb dX6_canBe_25 (by decide) ?_
    refine lv_icmp_ge (tgt := 82) hx hb dX6_canBe_27 (by decide) (fun c_3 => ?_) (fun c_3 => ?_)
    · have h := h.1 c_3
      refine lv_iinc (v := v8 + 1) (lv' := [(8, .int (v8 + 1)), (0, .ref (adM 0)), (1, .int p1), (2, .int p2), (3, .int p3), (4, .int p4), (5, .int p5), (6, .int p6), (7, .int v7), (9, .int v9)]) hx hb dX6_canBe_82 hl (k := 8) rfl rfl (by decide) rfl (fun ls hl => ?_)
      refine lv_goto (tgt := 13) hx hb dX6_canBe_85 (by decide) ?_
      rw [hA13] at h
      exact h _ _ hP hD hS ls (lv_sub hl [1, 2, 3, 4, 5, 6, 7, 8, 0] rfl)
    · have h := h.2 c_3
      refine lv_aload_n hx hb dX6_canBe_30 rfl (lv_at hl 0 rfl) ?_
      refine lv_iload_n hx hb dX6_canBe_31 rfl (lv_at hl 1 rfl) ?_
      refine lv_iload_n hx hb dX6_canBe_32 rfl (lv_at hl 2 rfl) ?_
      refine lv_iload_n hx hb dX6_canBe_33 rfl (lv_at hl 3 rfl) ?_
      refine lv_if_le (tgt := 42) hx hb dX6_canBe_34 (by decide) (fun c_4 => ?_) (fun c_4 => ?_)
      · have h := h.1 c_4
        refine lv_iload hx hb dX6_canBe_42 (lv_at hl 7 rfl) ?_
        refine lv_iload_n hx hb dX6_canBe_44 rfl (lv_at hl 3 rfl) ?_
        refine lv_iconst (v := 1) hx hb dX6_canBe_45 (by decide) ?_
        refine lv_icmp_le (tgt := 54) hx hb dX6_canBe_46 (by decide) (fun c_5 => ?_) (fun c_5 => ?_)
        · have h := h.1 c_5
          refine lv_iload hx hb dX6_canBe_54 (lv_at hl 8 rfl) ?_
          refine lv_iload_n hx hb dX6_canBe_56 rfl (lv_at hl 3 rfl) ?_
          refine lv_iconst (v := 2) hx hb dX6_canBe_57 (by decide) ?_
          refine lv_icmp_le (tgt := 66) hx hb dX6_canBe_58 (by decide) (fun c_6 => ?_) (fun c_6 => ?_)
          · have h := h.1 c_6
            refine lv_iload hx hb dX6_canBe_66 (lv_at hl 9 rfl) ?_
            have hFc := va_free (wc := (sh_M cs adM mpM mkM mgM mcM mwM mfM mtM mhM mmM mdM mxM mnM szM faM apM waM wrM fuM)) hD hS hA [0, 1, 2, 3, 4, 5, 6, 7, 8, 9, 10, 11, 12] rfl
            refine va_calli (va_runV (As := [.int p1, .int p2, .int v7, .int v8, .int v9]) (rest := []) ⟨hx, hb, hml, hown, hts⟩ (met_X6_isAllowed l D cs ev _ adM mpM mkM mgM mcM mwM mfM mtM mhM mmM mdM mxM mnM szM faM apM waM wrM fuM p1 p2 v7 v8 v9 _ h) (cwV 5 hts gX6_canBe_X6_isAllowed rfl rfl rfl (by decide +kernel) ⟨Nat.le_of_ble_eq_true rfl, Nat.le_of_ble_eq_true rfl⟩) (mPreV (va_recv hK hP (ci := 5) (q0 := 0) rfl rfl) hP hD hS hK hE hFc [0, 1, 2, 3, 4, 5, 6, 7, 8, 9, 10, 11, 12] (by decide) rfl) rfl rfl hl.1 rfl (lv_room (Nat.le_of_ble_eq_true rfl)) dX6_canBe_68 ⟨Nat.le_of_ble_eq_true rfl, Nat.le_of_ble_eq_true rfl⟩) hS (fun q _ h => hFc q h) hFc (fun r_7 u t H1 locs ht hvm hw hB hz1 hk1 hS => ?_)
            have h := hw
            obtain ⟨hP1, hK1, hD1⟩ := hB
            rw [ht] at hP1
            obtain ⟨hP, hD⟩ := mJoin (wr := ([] : va_W)) (w1 := (sh_M cs adM mpM mkM mgM mcM mwM mfM mtM mhM mmM mdM mxM mnM szM faM apM waM wrM fuM)) (w' := (sh_M cs adM mpM mkM mgM mcM mwM mfM mtM mhM mmM mdM mxM mnM szM faM apM waM wrM fuM)) hP hD [0, 1, 2, 3, 4, 5, 6, 7, 8, 9, 10, 11, 12] [] rfl rfl (by decide) (by decide) hk1 hFc hP1 hD1 [0, 1, 2, 3, 4, 5, 6, 7, 8, 9, 10, 11, 12] (by decide) rfl
            generalize H1 = H at hP hS ⊢
            refine lv_if_eq (tgt := 76) hx hb dX6_canBe_71 (by decide) (fun c_8 => ?_) (fun c_8 => ?_)
            · have h := h.1 c_8
              refine lv_iinc (v := v9 + 1) (lv' := [(9, .int (v9 + 1)), (0, .ref (adM 0)), (1, .int p1), (2, .int p2), (3, .int p3), (4, .int p4), (5, .int p5), (6, .int p6), (7, .int v7), (8, .int v8)]) hx hb dX6_canBe_76 hl (k := 9) rfl rfl (by decide) rfl (fun ls hl => ?_)
              refine lv_goto (tgt := 23) hx hb dX6_canBe_79 (by decide) ?_
              rw [hA23] at h
              exact h _ _ hP hD hS ls (lv_sub hl [1, 2, 3, 4, 5, 6, 7, 8, 9, 0] rfl)
            · have h := h.2 c_8
              refine lv_iconst (v := 1) hx hb dX6_canBe_74 (by decide) ?_
              exact W.zret (v := 1) hx hb hr (by decide) (fun t ht hW => ⟨⟨1, (), rfl, h, by rw [ht]; exact hP, va_K.moved hW.alike hK, hD⟩, hS.F ht⟩) hS.2.2 dX6_canBe_75
          · have h := h.2 c_6
            refine lv_iload hx hb dX6_canBe_61 (lv_at hl 6 rfl) ?_
            refine lv_goto (tgt := 68) hx hb dX6_canBe_63 (by decide) ?_
            have hFc := va_free (wc := (sh_M cs adM mpM mkM mgM mcM mwM mfM mtM mhM mmM mdM mxM mnM szM faM apM waM wrM fuM)) hD hS hA [0, 1, 2, 3, 4, 5, 6, 7, 8, 9, 10, 11, 12] rfl
            refine va_calli (va_runV (As := [.int p1, .int p2, .int v7, .int v8, .int p6]) (rest := []) ⟨hx, hb, hml, hown, hts⟩ (met_X6_isAllowed l D cs ev _ adM mpM mkM mgM mcM mwM mfM mtM mhM mmM mdM mxM mnM szM faM apM waM wrM fuM p1 p2 v7 v8 p6 _ h) (cwV 5 hts gX6_canBe_X6_isAllowed rfl rfl rfl (by decide +kernel) ⟨Nat.le_of_ble_eq_true rfl, Nat.le_of_ble_eq_true rfl⟩) (mPreV (va_recv hK hP (ci := 5) (q0 := 0) rfl rfl) hP hD hS hK hE hFc [0, 1, 2, 3, 4, 5, 6, 7, 8, 9, 10, 11, 12] (by decide) rfl) rfl rfl hl.1 rfl (lv_room (Nat.le_of_ble_eq_true rfl)) dX6_canBe_68 ⟨Nat.le_of_ble_eq_true rfl, Nat.le_of_ble_eq_true rfl⟩) hS (fun q _ h => hFc q h) hFc (fun r_9 u t H1 locs ht hvm hw hB hz1 hk1 hS => ?_)
            have h := hw
            obtain ⟨hP1, hK1, hD1⟩ := hB
            rw [ht] at hP1
            obtain ⟨hP, hD⟩ := mJoin (wr := ([] : va_W)) (w1 := (sh_M cs adM mpM mkM mgM mcM mwM mfM mtM mhM mmM mdM mxM mnM szM faM apM waM wrM fuM)) (w' := (sh_M cs adM mpM mkM mgM mcM mwM mfM mtM mhM mmM mdM mxM mnM szM faM apM waM wrM fuM)) hP hD [0, 1, 2, 3, 4, 5, 6, 7, 8, 9, 10, 11, 12] [] rfl rfl (by decide) (by decide) hk1 hFc hP1 hD1 [0, 1, 2, 3, 4, 5, 6, 7, 8, 9, 10, 11, 12] (by decide) rfl
            generalize H1 = H at hP hS ⊢
            refine lv_if_eq (tgt := 76) hx hb dX6_canBe_71 (by decide) (fun c_10 => ?_) (fun c_10 => ?_)
            · have h := h.1 c_10
              refine lv_iinc (v := v9 + 1) (lv' := [(9, .int (v9 + 1)), (0, .ref (adM 0)), (1, .int p1), (2, .int p2), (3, .int p3), (4, .int p4), (5, .int p5), (6, .int p6), (7, .int v7), (8, .int v8)]) hx hb dX6_canBe_76 hl (k := 9) rfl rfl (by decide) rfl (fun ls hl => ?_)
              refine lv_goto (tgt := 23) hx hb dX6_canBe_79 (by decide) ?_
              rw [hA23] at h
              exact h _ _ hP hD hS ls (lv_sub hl [1, 2, 3, 4, 5, 6, 7, 8, 9, 0] rfl)
            · have h := h.2 c_10
              refine lv_iconst (v := 1) hx hb dX6_canBe_74 (by decide) ?_
              exact W.zret (v := 1) hx hb hr (by decide) (fun t ht hW => ⟨⟨1, (), rfl, h, by rw [ht]; exact hP, va_K.moved hW.alike hK, hD⟩, hS.F ht⟩) hS.2.2 dX6_canBe_75
        · have h := h.2 c_5
          refine lv_iload hx hb dX6_canBe_49 (lv_at hl 5 rfl) ?_
          refine lv_goto (tgt := 56) hx hb dX6_canBe_51 (by decide) ?_
          refine lv_iload_n hx hb dX6_canBe_56 rfl (lv_at hl 3 rfl) ?_
          refine lv_iconst (v := 2) hx hb dX6_canBe_57 (by decide) ?_
          refine lv_icmp_le (tgt := 66) hx hb dX6_canBe_58 (by decide) (fun c_11 => ?_) (fun c_11 => ?_)
          · have h := h.1 c_11
            refine lv_iload hx hb dX6_canBe_66 (lv_at hl 9 rfl) ?_
            have hFc := va_free (wc := (sh_M cs adM mpM mkM mgM mcM mwM mfM mtM mhM mmM mdM mxM mnM szM faM apM waM wrM fuM)) hD hS hA [0, 1, 2, 3, 4, 5, 6, 7, 8, 9, 10, 11, 12] rfl
            refine va_calli (va_runV (As := [.int p1, .int p2, .int v7, .int p5, .int v9]) (rest := []) ⟨hx, hb, hml, hown, hts⟩ (met_X6_isAllowed l D cs ev _ adM mpM mkM mgM mcM mwM mfM mtM mhM mmM mdM mxM mnM szM faM apM waM wrM fuM p1 p2 v7 p5 v9 _ h) (cwV 5 hts gX6_canBe_X6_isAllowed rfl rfl rfl (by decide +kernel) ⟨Nat.le_of_ble_eq_true rfl, Nat.le_of_ble_eq_true rfl⟩) (mPreV (va_recv hK hP (ci := 5) (q0 := 0) rfl rfl) hP hD hS hK hE hFc [0, 1, 2, 3, 4, 5, 6, 7, 8, 9, 10, 11, 12] (by decide) rfl) rfl rfl hl.1 rfl (lv_room (Nat.le_of_ble_eq_true rfl)) dX6_canBe_68 ⟨Nat.le_of_ble_eq_true rfl, Nat.le_of_ble_eq_true rfl⟩) hS (fun q _ h => hFc q h) hFc (fun r_12 u t H1 locs ht hvm hw hB hz1 hk1 hS => ?_)
            have h := hw
            obtain ⟨hP1, hK1, hD1⟩ := hB
            rw [ht] at hP1
            obtain ⟨hP, hD⟩ := mJoin (wr := ([] : va_W)) (w1 := (sh_M cs adM mpM mkM mgM mcM mwM mfM mtM mhM mmM mdM mxM mnM szM faM apM waM wrM fuM)) (w' := (sh_M cs adM mpM mkM mgM mcM mwM mfM mtM mhM mmM mdM mxM mnM szM faM apM waM wrM fuM)) hP hD [0, 1, 2, 3, 4, 5, 6, 7, 8, 9, 10, 11, 12] [] rfl rfl (by decide) (by decide) hk1 hFc hP1 hD1 [0, 1, 2, 3, 4, 5, 6, 7, 8, 9, 10, 11, 12] (by decide) rfl
            generalize H1 = H at hP hS ⊢
            refine lv_if_eq (tgt := 76) hx hb dX6_canBe_71 (by decide) (fun c_13 => ?_) (fun c_13 => ?_)
            · have h := h.1 c_13
              refine lv_iinc (v := v9 + 1) (lv' := [(9, .int (v9 + 1)), (0, .ref (adM 0)), (1, .int p1), (2, .int p2), (3, .int p3), (4, .int p4), (5, .int p5), (6, .int p6), (7, .int v7), (8, .int v8)]) hx hb dX6_canBe_76 hl (k := 9) rfl rfl (by decide) rfl (fun ls hl => ?_)
              refine lv_goto (tgt := 23) hx hb dX6_canBe_79 (by decide) ?_
              rw [hA23] at h
              exact h _ _ hP hD hS ls (lv_sub hl [1, 2, 3, 4, 5, 6, 7, 8, 9, 0] rfl)
            · have h := h.2 c_13
              refine lv_iconst (v := 1) hx hb dX6_canBe_74 (by decide) ?_
              exact W.zret (v := 1) hx hb hr (by decide) (fun t ht hW => ⟨⟨1, (), rfl, h, by rw [ht]; exact hP, va_K.moved hW.alike hK, hD⟩, hS.F ht⟩) hS.2.2 dX6_canBe_75
          · have h := h.2 c_11
            refine lv_iload hx hb dX6_canBe_61 (lv_at hl 6 rfl) ?_
            refine lv_goto (tgt := 68) hx hb dX6_canBe_63 (by decide) ?_
            have hFc := va_free (wc := (sh_M cs adM mpM mkM mgM mcM mwM mfM mtM mhM mmM mdM mxM mnM szM faM apM waM wrM fuM)) hD hS hA [0, 1, 2, 3, 4, 5, 6, 7, 8, 9, 10, 11, 12] rfl
            refine va_calli (va_runV (As := [.int p1, .int p2, .int v7, .int p5, .int p6]) (rest := []) ⟨hx, hb, hml, hown, hts⟩ (met_X6_isAllowed l D cs ev _ adM mpM mkM mgM mcM mwM mfM mtM mhM mmM mdM mxM mnM szM faM apM waM wrM fuM p1 p2 v7 p5 p6 _ h) (cwV 5 hts gX6_canBe_X6_isAllowed rfl rfl rfl (by decide +kernel) ⟨Nat.le_of_ble_eq_true rfl, Nat.le_of_ble_eq_true rfl⟩) (mPreV (va_recv hK hP (ci := 5) (q0 := 0) rfl rfl) hP hD hS hK hE hFc [0, 1, 2, 3, 4, 5, 6, 7, 8, 9, 10, 11, 12] (by decide) rfl) rfl rfl hl.1 rfl (lv_room (Nat.le_of_ble_eq_true rfl)) dX6_canBe_68 ⟨Nat.le_of_ble_eq_true rfl, Nat.le_of_ble_eq_true rfl⟩) hS (fun q _ h => hFc q h) hFc (fun r_14 u t H1 locs ht hvm hw hB hz1 hk1 hS => ?_)
            have h := hw
            obtain ⟨hP1, hK1, hD1⟩ := hB
            rw [ht] at hP1
            obtain ⟨hP, hD⟩ := mJoin (wr := ([] : va_W)) (w1 := (sh_M cs adM mpM mkM mgM mcM mwM mfM mtM mhM mmM mdM mxM mnM szM faM apM waM wrM fuM)) (w' := (sh_M cs adM mpM mkM mgM mcM mwM mfM mtM mhM mmM mdM mxM mnM szM faM apM waM wrM fuM)) hP hD [0, 1, 2, 3, 4, 5, 6, 7, 8, 9, 10, 11, 12] [] rfl rfl (by decide) (by decide) hk1 hFc hP1 hD1 [0, 1, 2, 3, 4, 5, 6, 7, 8, 9, 10, 11, 12] (by decide) rfl
            generalize H1 = H at hP hS ⊢
            refine lv_if_eq (tgt := 76) hx hb dX6_canBe_71 (by decide) (fun c_15 => ?_) (fun c_15 => ?_)
            · have h := h.1 c_15
              refine lv_iinc (v := v9 + 1) (lv' := [(9, .int (v9 + 1)), (0, .ref (adM 0)), (1, .int p1), (2, .int p2), (3, .int p3), (4, .int p4), (5, .int p5), (6, .int p6), (7, .int v7), (8, .int v8)]) hx hb dX6_canBe_76 hl (k := 9) rfl rfl (by decide) rfl (fun ls hl => ?_)
              refine lv_goto (tgt := 23) hx hb dX6_canBe_79 (by decide) ?_
              rw [hA23] at h
              exact h _ _ hP hD hS ls (lv_sub hl [1, 2, 3, 4, 5, 6, 7, 8, 9, 0] rfl)
            · have h := h.2 c_15
              refine lv_iconst (v := 1) hx hb dX6_canBe_74 (by decide) ?_
              exact W.zret (v := 1) hx hb hr (by decide) (fun t ht hW => ⟨⟨1, (), rfl, h, by rw [ht]; exact hP, va_K.moved hW.alike hK, hD⟩, hS.F ht⟩) hS.2.2 dX6_canBe_75
      · have h := h.2 c_4
        refine lv_iload hx hb dX6_canBe_37 (lv_at hl 4 rfl) ?_
        refine lv_goto (tgt := 44) hx hb dX6_canBe_39 (by decide) ?_
        refine lv_iload_n hx hb dX6_canBe_44 rfl (lv_at hl 3 rfl) ?_
        refine lv_iconst (v := 1) hx hb dX6_canBe_45 (by decide) ?_
        refine lv_icmp_le (tgt := 54) hx hb dX6_canBe_46 (by decide) (fun c_16 => ?_) (fun c_16 => ?_)
        · have h := h.1 c_16
          refine lv_iload hx hb dX6_canBe_54 (lv_at hl 8 rfl) ?_
          refine lv_iload_n hx hb dX6_canBe_56 rfl (lv_at hl 3 rfl) ?_
          refine lv_iconst (v := 2) hx hb dX6_canBe_57 (by decide) ?_
          refine lv_icmp_le (tgt := 66) hx hb dX6_canBe_58 (by decide) (fun c_17 => ?_) (fun c_17 => ?_)
          · have h := h.1 c_17
            refine lv_iload hx hb dX6_canBe_66 (lv_at hl 9 rfl) ?_
            have hFc := va_free (wc := (sh_M cs adM mpM mkM mgM mcM mwM mfM mtM mhM mmM mdM mxM mnM szM faM apM waM wrM fuM)) hD hS hA [0, 1, 2, 3, 4, 5, 6, 7, 8, 9, 10, 11, 12] rfl
            refine va_calli (va_runV (As := [.int p1, .int p2, .int p4, .int v8, .int v9]) (rest := []) ⟨hx, hb, hml, hown, hts⟩ (met_X6_isAllowed l D cs ev _ adM mpM mkM mgM mcM mwM mfM mtM mhM mmM mdM mxM mnM szM faM apM waM wrM fuM p1 p2 p4 v8 v9 _ h) (cwV 5 hts gX6_canBe_X6_isAllowed rfl rfl rfl (by decide +kernel) ⟨Nat.le_of_ble_eq_true rfl, Nat.le_of_ble_eq_true rfl⟩) (mPreV (va_recv hK hP (ci := 5) (q0 := 0) rfl rfl) hP hD hS hK hE hFc [0, 1, 2, 3, 4, 5, 6, 7, 8, 9, 10, 11, 12] (by decide) rfl) rfl rfl hl.1 rfl (lv_room (Nat.le_of_ble_eq_true rfl)) dX6_canBe_68 ⟨Nat.le_of_ble_eq_true rfl, Nat.le_of_ble_eq_true rfl⟩) hS (fun q _ h => hFc q h) hFc (fun r_18 u t H1 locs ht hvm hw hB hz1 hk1 hS => ?_)
            have h := hw
            obtain ⟨hP1, hK1, hD1⟩ := hB
            rw [ht] at hP1
            obtain ⟨hP, hD⟩ := mJoin (wr := ([] : va_W)) (w1 := (sh_M cs adM mpM mkM mgM mcM mwM mfM mtM mhM mmM mdM mxM mnM szM faM apM waM wrM fuM)) (w' := (sh_M cs adM mpM mkM mgM mcM mwM mfM mtM mhM mmM mdM mxM mnM szM faM apM waM wrM fuM)) hP hD [0, 1, 2, 3, 4, 5, 6, 7, 8, 9, 10, 11, 12] [] rfl rfl (by decide) (by decide) hk1 hFc hP1 hD1 [0, 1, 2, 3, 4, 5, 6, 7, 8, 9, 10, 11, 12] (by decide) rfl
            generalize H1 = H at hP hS ⊢
            refine lv_if_eq (tgt := 76) hx hb dX6_canBe_71 (by decide) (fun c_19 => ?_) (fun c_19 => ?_)
            · have h := h.1 c_19
              refine lv_iinc (v := v9 + 1) (lv' := [(9, .int (v9 + 1)), (0, .ref (adM 0)), (1, .int p1), (2, .int p2), (3, .int p3), (4, .int p4), (5, .int p5), (6, .int p6), (7, .int v7), (8, .int v8)]) hx hb dX6_canBe_76 hl (k := 9) rfl rfl (by decide) rfl (fun ls hl => ?_)
              refine lv_goto (tgt := 23) hx hb dX6_canBe_79 (by decide) ?_
              rw [hA23] at h
              exact h _ _ hP hD hS ls (lv_sub hl [1, 2, 3, 4, 5, 6, 7, 8, 9, 0] rfl)
            · have h := h.2 c_19
              refine lv_iconst (v := 1) hx hb dX6_canBe_74 (by decide) ?_
              exact W.zret (v := 1) hx hb hr (by decide) (fun t ht hW => ⟨⟨1, (), rfl, h, by rw [ht]; exact hP, va_K.moved hW.alike hK, hD⟩, hS.F ht⟩) hS.2.2 dX6_canBe_75
          · have h := h.2 c_17
            refine lv_iload hx hb dX6_canBe_61 (lv_at hl 6 rfl) ?_
            refine lv_goto (tgt := 68) hx hb dX6_canBe_63 (by decide) ?_
            have hFc := va_free (wc := (sh_M cs adM mpM mkM mgM mcM mwM mfM mtM mhM mmM mdM mxM mnM szM faM apM waM wrM fuM)) hD hS hA [0, 1, 2, 3, 4, 5, 6, 7, 8, 9, 10, 11, 12] rfl
            refine va_calli (va_runV (As := [.int p1, .int p2, .int p4, .int v8, .int p6]) (rest := []) ⟨hx, hb, hml, hown, hts⟩ (met_X6_isAllowed l D cs ev _ adM mpM mkM mgM mcM mwM mfM mtM mhM mmM mdM mxM mnM szM faM apM waM wrM fuM p1 p2 p4 v8 p6 _ h) (cwV 5 hts gX6_canBe_X6_isAllowed rfl rfl rfl (by decide +kernel) ⟨Nat.le_of_ble_eq_true rfl, Nat.le_of_ble_eq_true rfl⟩) (mPreV (va_recv hK hP (ci := 5) (q0 := 0) rfl rfl) hP hD hS hK hE hFc [0, 1, 2, 3, 4, 5, 6, 7, 8, 9, 10, 11, 12] (by decide) rfl) rfl rfl hl.1 rfl (lv_room (Nat.le_of_ble_eq_true rfl)) dX6_canBe_68 ⟨Nat.le_of_ble_eq_true rfl, Nat.le_of_ble_eq_true rfl⟩) hS (fun q _ h => hFc q h) hFc (fun r_20 u t H1 locs ht hvm hw hB hz1 hk1 hS => ?_)
            have h := hw
            obtain ⟨hP1, hK1, hD1⟩ := hB
            rw [ht] at hP1
            obtain ⟨hP, hD⟩ := mJoin (wr := ([] : va_W)) (w1 := (sh_M cs adM mpM mkM mgM mcM mwM mfM mtM mhM mmM mdM mxM mnM szM faM apM waM wrM fuM)) (w' := (sh_M cs adM mpM mkM mgM mcM mwM mfM mtM mhM mmM mdM mxM mnM szM faM apM waM wrM fuM)) hP hD [0, 1, 2, 3, 4, 5, 6, 7, 8, 9, 10, 11, 12] [] rfl rfl (by decide) (by decide) hk1 hFc hP1 hD1 [0, 1, 2, 3, 4, 5, 6, 7, 8, 9, 10, 11, 12] (by decide) rfl
            generalize H1 = H at hP hS ⊢
            refine lv_if_eq (tgt := 76) hx hb dX6_canBe_71 (by decide) (fun c_21 => ?_) (fun c_21 => ?_)
            · have h := h.1 c_21
              refine lv_iinc (v := v9 + 1) (lv' := [(9, .int (v9 + 1)), (0, .ref (adM 0)), (1, .int p1), (2, .int p2), (3, .int p3), (4, .int p4), (5, .int p5), (6, .int p6), (7, .int v7), (8, .int v8)]) hx hb dX6_canBe_76 hl (k := 9) rfl rfl (by decide) rfl (fun ls hl => ?_)
              refine lv_goto (tgt := 23) hx hb dX6_canBe_79 (by decide) ?_
              rw [hA23] at h
              exact h _ _ hP hD hS ls (lv_sub hl [1, 2, 3, 4, 5, 6, 7, 8, 9, 0] rfl)
            · have h := h.2 c_21
              refine lv_iconst (v := 1) hx hb dX6_canBe_74 (by decide) ?_
              exact W.zret (v := 1) hx hb hr (by decide) (fun t ht hW => ⟨⟨1, (), rfl, h, by rw [ht]; exact hP, va_K.moved hW.alike hK, hD⟩, hS.F ht⟩) hS.2.2 dX6_canBe_75
        · have h := h.2 c_16
          refine lv_iload hx hb dX6_canBe_49 (lv_at hl 5 rfl) ?_
          refine lv_goto (tgt := 56) hx hb dX6_canBe_51 (by decide) ?_
          refine lv_iload_n hx hb dX6_canBe_56 rfl (lv_at hl 3 rfl) ?_
          refine lv_iconst (v := 2) hx hb dX6_canBe_57 (by decide) ?_
          refine lv_icmp_le (tgt := 66) hx hb dX6_canBe_58 (by decide) (fun c_22 => ?_) (fun c_22 => ?_)
          · have h := h.1 c_22
            refine lv_iload hx hb dX6_canBe_66 (lv_at hl 9 rfl) ?_
            have hFc := va_free (wc := (sh_M cs adM mpM mkM mgM mcM mwM mfM mtM mhM mmM mdM mxM mnM szM faM apM waM wrM fuM)) hD hS hA [0, 1, 2, 3, 4, 5, 6, 7, 8, 9, 10, 11, 12] rfl
            refine va_calli (va_runV (As := [.int p1, .int p2, .int p4, .int p5, .int v9]) (rest := []) ⟨hx, hb, hml, hown, hts⟩ (met_X6_isAllowed l D cs ev _ adM mpM mkM mgM mcM mwM mfM mtM mhM mmM mdM mxM mnM szM faM apM waM wrM fuM p1 p2 p4 p5 v9 _ h) (cwV 5 hts gX6_canBe_X6_isAllowed rfl rfl rfl (by decide +kernel) ⟨Nat.le_of_ble_eq_true rfl, Nat.le_of_ble_eq_true rfl⟩) (mPreV (va_recv hK hP (ci := 5) (q0 := 0) rfl rfl) hP hD hS hK hE hFc [0, 1, 2, 3, 4, 5, 6, 7, 8, 9, 10, 11, 12] (by decide) rfl) rfl rfl hl.1 rfl (lv_room (Nat.le_of_ble_eq_true rfl)) dX6_canBe_68 ⟨Nat.le_of_ble_eq_true rfl, Nat.le_of_ble_eq_true rfl⟩) hS (fun q _ h => hFc q h) hFc (fun r_23 u t H1 locs ht hvm hw hB hz1 hk1 hS => ?_)
            have h := hw
            obtain ⟨hP1, hK1, hD1⟩ := hB
            rw [ht] at hP1
            obtain ⟨hP, hD⟩ := mJoin (wr := ([] : va_W)) (w1 := (sh_M cs adM mpM mkM mgM mcM mwM mfM mtM mhM mmM mdM mxM mnM szM faM apM waM wrM fuM)) (w' := (sh_M cs adM mpM mkM mgM mcM mwM mfM mtM mhM mmM mdM mxM mnM szM faM apM waM wrM fuM)) hP hD [0, 1, 2, 3, 4, 5, 6, 7, 8, 9, 10, 11, 12] [] rfl rfl (by decide) (by decide) hk1 hFc hP1 hD1 [0, 1, 2, 3, 4, 5, 6, 7, 8, 9, 10, 11, 12] (by decide) rfl
            generalize H1 = H at hP hS ⊢
            refine lv_if_eq (tgt := 76) hx hb dX6_canBe_71 (by decide) (fun c_24 => ?_) (fun c_24 => ?_)
            · have h := h.1 c_24
              refine lv_iinc (v := v9 + 1) (lv' := [(9, .int (v9 + 1)), (0, .ref (adM 0)), (1, .int p1), (2, .int p2), (3, .int p3), (4, .int p4), (5, .int p5), (6, .int p6), (7, .int v7), (8, .int v8)]) hx hb dX6_canBe_76 hl (k := 9) rfl rfl (by decide) rfl (fun ls hl => ?_)
              refine lv_goto (tgt := 23) hx hb dX6_canBe_79 (by decide) ?_
              rw [hA23] at h
              exact h _ _ hP hD hS ls (lv_sub hl [1, 2, 3, 4, 5, 6, 7, 8, 9, 0] rfl)
            · have h := h.2 c_24
              refine lv_iconst (v := 1) hx hb dX6_canBe_74 (by decide) ?_
              exact W.zret (v := 1) hx hb hr (by decide) (fun t ht hW => ⟨⟨1, (), rfl, h, by rw [ht]; exact hP, va_K.moved hW.alike hK, hD⟩, hS.F ht⟩) hS.2.2 dX6_canBe_75
          · have h := h.2 c_22
            refine lv_iload hx hb dX6_canBe_61 (lv_at hl 6 rfl) ?_
            refine lv_goto (tgt := 68) hx hb dX6_canBe_63 (by decide) ?_
            have hFc := va_free (wc := (sh_M cs adM mpM mkM mgM mcM mwM mfM mtM mhM mmM mdM mxM mnM szM faM apM waM wrM fuM)) hD hS hA [0, 1, 2, 3, 4, 5, 6, 7, 8, 9, 10, 11, 12] rfl
            refine va_calli (va_runV (As := [.int p1, .int p2, .int p4, .int p5, .int p6]) (rest := []) ⟨hx, hb, hml, hown, hts⟩ (met_X6_isAllowed l D cs ev _ adM mpM mkM mgM mcM mwM mfM mtM mhM mmM mdM mxM mnM szM faM apM waM wrM fuM p1 p2 p4 p5 p6 _ h) (cwV 5 hts gX6_canBe_X6_isAllowed rfl rfl rfl (by decide +kernel) ⟨Nat.le_of_ble_eq_true rfl, Nat.le_of_ble_eq_true rfl⟩) (mPreV (va_recv hK hP (ci := 5) (q0 := 0) rfl rfl) hP hD hS hK hE hFc [0, 1, 2, 3, 4, 5, 6, 7, 8, 9, 10, 11, 12] (by decide) rfl) rfl rfl hl.1 rfl (lv_room (Nat.le_of_ble_eq_true rfl)) dX6_canBe_68 ⟨Nat.le_of_ble_eq_true rfl, Nat.le_of_ble_eq_true rfl⟩) hS (fun q _ h => hFc q h) hFc (fun r_25 u t H1 locs ht hvm hw hB hz1 hk1 hS => ?_)
            have h := hw
            obtain ⟨hP1, hK1, hD1⟩ := hB
            rw [ht] at hP1
            obtain ⟨hP, hD⟩ := mJoin (wr := ([] : va_W)) (w1 := (sh_M cs adM mpM mkM mgM mcM mwM mfM mtM mhM mmM mdM mxM mnM szM faM apM waM wrM fuM)) (w' := (sh_M cs adM mpM mkM mgM mcM mwM mfM mtM mhM mmM mdM mxM mnM szM faM apM waM wrM fuM)) hP hD [0, 1, 2, 3, 4, 5, 6, 7, 8, 9, 10, 11, 12] [] rfl rfl (by decide) (by decide) hk1 hFc hP1 hD1 [0, 1, 2, 3, 4, 5, 6, 7, 8, 9, 10, 11, 12] (by decide) rfl
            generalize H1 = H at hP hS ⊢
            refine lv_if_eq (tgt := 76) hx hb dX6_canBe_71 (by decide) (fun c_26 => ?_) (fun c_26 => ?_)
            · have h := h.1 c_26
              refine lv_iinc (v := v9 + 1) (lv' := [(9, .int (v9 + 1)), (0, .ref (adM 0)), (1, .int p1), (2, .int p2), (3, .int p3), (4, .int p4), (5, .int p5), (6, .int p6), (7, .int v7), (8, .int v8)]) hx hb dX6_canBe_76 hl (k := 9) rfl rfl (by decide) rfl (fun ls hl => ?_)
              refine lv_goto (tgt := 23) hx hb dX6_canBe_79 (by decide) ?_
              rw [hA23] at h
              exact h _ _ hP hD hS ls (lv_sub hl [1, 2, 3, 4, 5, 6, 7, 8, 9, 0] rfl)
            · have h := h.2 c_26
              refine lv_iconst (v := 1) hx hb dX6_canBe_74 (by decide) ?_
              exact W.zret (v := 1) hx hb hr (by decide) (fun t ht hW => ⟨⟨1, (), rfl, h, by rw [ht]; exact hP, va_K.moved hW.alike hK, hD⟩, hS.F ht⟩) hS.2.2 dX6_canBe_75
  have h := h A3 A13 A23 s3 s13 s23
  refine lv_iconst (v := 0) hx hb dX6_canBe_0 (by decide) ?_
  refine lv_istore (lv' := [(7, .int 0), (0, .ref (adM 0)), (1, .int p1), (2, .int p2), (3, .int p3), (4, .int p4), (5, .int p5), (6, .int p6)]) hx hb dX6_canBe_1 hl (by decide) rfl (fun ls hl => ?_)
  rw [hA3] at h
  exact h _ _ hP hD hS ls (lv_sub hl [1, 2, 3, 4, 5, 6, 7, 0] rfl)
def wp_X6_unit (mxM : Nat → Int32) (szM : Int32) (p1 : Int32) (post : Int32 → ((Nat → Int32) × Int32 × Int32) → Prop) : Prop :=
    ((p1 < 0 → post 0 (mxM, szM, 0)) ∧ (¬ p1 < 0 → ((255 < p1 → post 0 (mxM, szM, 0)) ∧ (¬ 255 < p1 → ((szM = 2000 → post 0 (mxM, szM, 0)) ∧ (¬ szM = 2000 → (vp_in szM 2000 ∧ post 1 (upd mxM szM.toNatClampNeg (vp_nar .byte p1.toInt8.toInt32), szM + 1, 0))))))))
set_option maxHeartbeats 4000000 in
set_option maxRecDepth 100000 in
theorem met_X6_unit (l : Launch) (D : va_G) (cs : Nat → ClassId) (ev : Nat → Nat → Nat) (sz0 : Nat) (adM : Nat → Nat) (mpM : Nat → Int32) (mkM : Nat → Int32) (mgM : Nat → Int32) (mcM : Nat → Int32) (mwM : Nat → Int32) (mfM : Nat → Int32) (mtM : Nat → Int32) (mhM : Nat → Int32) (mmM : Nat → Int32) (mdM : Nat → Int32) (mxM : Nat → Int32) (mnM : Nat → Int32) (szM : Int32) (faM : Int32) (apM : Int32) (waM : Int32) (wrM : Int32) (fuM : Int32) (p1 : Int32) (post : Int32 → ((Nat → Int32) × Int32 × Int32) → Prop) (h : wp_X6_unit mxM szM p1 post) : Met l yX6_unit wsX6_unit ({ frames := 0, cells := 0, slots := 0, locals := 0 }) (va_Pc [.ref (adM 0), .int p1] (mPre D cs ev (sh_M cs adM mpM mkM mgM mcM mwM mfM mtM mhM mmM mdM mxM mnM szM faM apM waM wrM fuM) sz0)) (va_Qi post (fun u t => match u with | (mxM', szM', faM') => mAt D cs (va_A (sh_M cs adM mpM mkM mgM mcM mwM mfM mtM mhM mmM mdM mxM mnM szM faM apM waM wrM fuM) sz0) (sh_M cs adM mpM mkM mgM mcM mwM mfM mtM mhM mmM mdM mxM' mnM szM' faM' apM waM wrM fuM) t) (va_A (sh_M cs adM mpM mkM mgM mcM mwM mfM mtM mhM mmM mdM mxM mnM szM faM apM waM wrM fuM) sz0)) 0 0 (va_A (sh_M cs adM mpM mkM mgM mcM mwM mfM mtM mhM mmM mdM mxM mnM szM faM apM waM wrM fuM) sz0) := by
  refine Met.ofW (cc := cX6_unit) (maxL := 2) (ret := (some .boolean)) (by decide) rfl ?_
  intro p e s m args below meth c s₁ B hml hv
  obtain ⟨rfl, hsz, hP, hK, hD0, hE⟩ := hv
  have hx := B.exec
  have hb := B.bytes
  have hr := B.returns
  have hts := atoms_spec (ws := wsX6_unit) B.pre
  have hown : s.vm.findClass RX6 = some m.cls := findClass_of_methodNamed B.named
  have hlocks := B.notSynchronized
  subst hsz
  have hD := hD0.self (sz := s.heap.size)
  generalize hAe : va_A (sh_M cs adM mpM mkM mgM mcM mwM mfM mtM mhM mmM mdM mxM mnM szM faM apM waM wrM fuM) s.heap.size = A at hD hE ⊢
  have hA : ∀ q : Nat, s.heap.size ≤ q → A q := fun q h => by rw [← hAe]; exact Or.inr h
  have hS : va_S A s.heap s.heap [] := va_S.rf
  have hl := lv_entry ([.ref (adM 0), .int p1]) (n := 2) (Nat.le_of_ble_eq_true rfl)
  rw [lg_entry_eq]
  generalize (lg_sl ([.ref (adM 0), .int p1]) ++ List.replicate (2 - (lg_sl ([.ref (adM 0), .int p1])).length) Slot.unset).toArray = ls at hl ⊢
  have hl : lv_has ls 2 [(0, .ref (adM 0)), (1, .int p1)] := hl
  refine lv_aload_n hx hb dX6_unit_0 rfl (lv_at hl 0 rfl) ?_
  refine lv_iconst (v := 0) hx hb dX6_unit_1 (by decide) ?_
  refine va_put (D := D) (ci := 5) (v := .int 0) (ty := .int) (C := RX6) (T := TX6) (N := 18) hx hb hts (by decide +kernel) tyX6 tyX6_ok nmX6 hown hK hP hD hS 0 rfl rfl 12 (by decide) (hts (.fieldLink RX6 52 "PartGraphsModel" "fault" "I") (by decide +kernel)) (fun _ h9 => h9) rfl (by decide +kernel) rfl rfl (Nat.le_of_ble_eq_true rfl) dX6_unit_2 (fun H locs hP hD hS => ?_)
  have hP : va_P D vwCl (sh_M cs adM mpM mkM mgM mcM mwM mfM mtM mhM mmM mdM mxM mnM szM 0 apM waM wrM fuM) H := hP
  have hD : va_D A (sh_M cs adM mpM mkM mgM mcM mwM mfM mtM mhM mmM mdM mxM mnM szM 0 apM waM wrM fuM) := hD
  refine lv_iload_n hx hb dX6_unit_5 rfl (lv_at hl 1 rfl) ?_
  refine lv_if_lt (tgt := 26) hx hb dX6_unit_6 (by decide) (fun c_1 => ?_) (fun c_1 => ?_)
  · have h := h.1 c_1
    refine lv_iconst (v := 0) hx hb dX6_unit_26 (by decide) ?_
    exact W.zret (v := 0) hx hb hr (by decide) (fun t ht hW => ⟨⟨0, (mxM, szM, 0), rfl, h, by rw [ht]; exact hP, va_K.moved hW.alike hK, hD⟩, hS.F ht⟩) hS.2.2 dX6_unit_27
  · have h := h.2 c_1
    refine lv_iload_n hx hb dX6_unit_9 rfl (lv_at hl 1 rfl) ?_
    refine lv_sipush (v := 255) hx hb dX6_unit_10 (by decide) ?_
    refine lv_icmp_gt (tgt := 26) hx hb dX6_unit_13 (by decide) (fun c_2 => ?_) (fun c_2 => ?_)
    · have h := h.1 c_2
      refine lv_iconst (v := 0) hx hb dX6_unit_26 (by decide) ?_
      exact W.zret (v := 0) hx hb hr (by decide) (fun t ht hW => ⟨⟨0, (mxM, szM, 0), rfl, h, by rw [ht]; exact hP, va_K.moved hW.alike hK, hD⟩, hS.F ht⟩) hS.2.2 dX6_unit_27
    · have h := h.2 c_2
      refine lv_aload_n hx hb dX6_unit_16 rfl (lv_at hl 0 rfl) ?_
      refine va_get (D := D) (ci := 5) (v := .int szM) (C := RX6) (T := TX6) (N := 18) hx hb hts (by decide +kernel) hown hK hP 0 rfl rfl 11 (by decide) (hts (.fieldLink RX6 69 "PartGraphsModel" "size" "I") (by decide +kernel)) (fun _ h9 => h9) rfl dX6_unit_17 ?_
      refine lv_sipush (v := 2000) hx hb dX6_unit_20 (by decide) ?_
      refine lv_icmp_ne (tgt := 28) hx hb dX6_unit_23 (by decide) (fun c_3 => ?_) (fun c_3 => ?_)
      · have h := h.2 c_3
        refine lv_aload_n hx hb dX6_unit_28 rfl (lv_at hl 0 rfl) ?_
        refine va_get (D := D) (ci := 5) (v := .ref (adM 11)) (C := RX6) (T := TX6) (N := 18) hx hb hts (by decide +kernel) hown hK hP 0 rfl rfl 10 (by decide) (hts (.fieldLink RX6 41 "PartGraphsModel" "text" "[B") (by decide +kernel)) (fun _ h9 => h9) rfl dX6_unit_29 ?_
        refine lv_aload_n hx hb dX6_unit_32 rfl (lv_at hl 0 rfl) ?_
        refine va_get (D := D) (ci := 5) (v := .int szM) (C := RX6) (T := TX6) (N := 18) hx hb hts (by decide +kernel) hown hK hP 0 rfl rfl 11 (by decide) (hts (.fieldLink RX6 69 "PartGraphsModel" "size" "I") (by decide +kernel)) (fun _ h9 => h9) rfl dX6_unit_33 ?_
        refine lv_iload_n hx hb dX6_unit_36 rfl (lv_at hl 1 rfl) ?_
        refine lv_i2b hx hb dX6_unit_37 rfl ?_
        have hin := h.1
        have h := h.2
        refine va_bast (D := D) (cl := vwCl) hx hb hK hP hD hS 11 3 rfl rfl hin dX6_unit_38 (fun H locs hP hD hS => ?_)
        have hP : va_P D vwCl (sh_M cs adM mpM mkM mgM mcM mwM mfM mtM mhM mmM mdM (upd mxM szM.toNatClampNeg (vp_nar .byte p1.toInt8.toInt32)) mnM szM 0 apM waM wrM fuM) H := hP
        have hD : va_D A (sh_M cs adM mpM mkM mgM mcM mwM mfM mtM mhM mmM mdM (upd mxM szM.toNatClampNeg (vp_nar .byte p1.toInt8.toInt32)) mnM szM 0 apM waM wrM fuM) := hD
        refine lv_aload_n hx hb dX6_unit_39 rfl (lv_at hl 0 rfl) ?_
        refine lv_dup hx hb dX6_unit_40 rfl ?_
        refine va_get (D := D) (ci := 5) (v := .int szM) (C := RX6) (T := TX6) (N := 18) hx hb hts (by decide +kernel) hown hK hP 0 rfl rfl 11 (by decide) (hts (.fieldLink RX6 69 "PartGraphsModel" "size" "I") (by decide +kernel)) (fun _ h9 => h9) rfl dX6_unit_41 ?_
        refine lv_iconst (v := 1) hx hb dX6_unit_44 (by decide) ?_
        refine lv_iadd hx hb dX6_unit_45 ?_
        refine va_put (D := D) (ci := 5) (v := .int (szM + 1)) (ty := .int) (C := RX6) (T := TX6) (N := 18) hx hb hts (by decide +kernel) tyX6 tyX6_ok nmX6 hown hK hP hD hS 0 rfl rfl 11 (by decide) (hts (.fieldLink RX6 69 "PartGraphsModel" "size" "I") (by decide +kernel)) (fun _ h9 => h9) rfl (by decide +kernel) rfl rfl (Nat.le_of_ble_eq_true rfl) dX6_unit_46 (fun H locs hP hD hS => ?_)
        have hP : va_P D vwCl (sh_M cs adM mpM mkM mgM mcM mwM mfM mtM mhM mmM mdM (upd mxM szM.toNatClampNeg (vp_nar .byte p1.toInt8.toInt32)) mnM (szM + 1) 0 apM waM wrM fuM) H := hP
        have hD : va_D A (sh_M cs adM mpM mkM mgM mcM mwM mfM mtM mhM mmM mdM (upd mxM szM.toNatClampNeg (vp_nar .byte p1.toInt8.toInt32)) mnM (szM + 1) 0 apM waM wrM fuM) := hD
        refine lv_iconst (v := 1) hx hb dX6_unit_49 (by decide) ?_
        exact W.zret (v := 1) hx hb hr (by decide) (fun t ht hW => ⟨⟨1, (upd mxM szM.toNatClampNeg (vp_nar .byte p1.toInt8.toInt32), szM + 1, 0), rfl, h, by rw [ht]; exact hP, va_K.moved hW.alike hK, hD⟩, hS.F ht⟩) hS.2.2 dX6_unit_50
      · have h := h.1 c_3
        refine lv_iconst (v := 0) hx hb dX6_unit_26 (by decide) ?_
        exact W.zret (v := 0) hx hb hr (by decide) (fun t ht hW => ⟨⟨0, (mxM, szM, 0), rfl, h, by rw [ht]; exact hP, va_K.moved hW.alike hK, hD⟩, hS.F ht⟩) hS.2.2 dX6_unit_27
def wp_X6_isGap (mxM : Nat → Int32) (p1 : Int32) (post : Int32 → Unit → Prop) : Prop :=
    (vp_in p1 2000 ∧ (((mxM p1.toNatClampNeg) = 32 → post 1 ()) ∧ (¬ (mxM p1.toNatClampNeg) = 32 → (vp_in p1 2000 ∧ (((mxM p1.toNatClampNeg) = 10 → post 1 ()) ∧ (¬ (mxM p1.toNatClampNeg) = 10 → post 0 ()))))))
set_option maxHeartbeats 4000000 in
set_option maxRecDepth 100000 in
theorem met_X6_isGap (l : Launch) (D : va_G) (cs : Nat → ClassId) (ev : Nat → Nat → Nat) (sz0 : Nat) (adM : Nat → Nat) (mpM : Nat → Int32) (mkM : Nat → Int32) (mgM : Nat → Int32) (mcM : Nat → Int32) (mwM : Nat → Int32) (mfM : Nat → Int32) (mtM : Nat → Int32) (mhM : Nat → Int32) (mmM : Nat → Int32) (mdM : Nat → Int32) (mxM : Nat → Int32) (mnM : Nat → Int32) (szM : Int32) (faM : Int32) (apM : Int32) (waM : Int32) (wrM : Int32) (fuM : Int32) (p1 : Int32) (post : Int32 → Unit → Prop) (h : wp_X6_isGap mxM p1 post) : Met l yX6_isGap wsX6_isGap ({ frames := 0, cells := 0, slots := 0, locals := 0 }) (va_Pc [.ref (adM 0), .int p1] (mPre D cs ev (sh_M cs adM mpM mkM mgM mcM mwM mfM mtM mhM mmM mdM mxM mnM szM faM apM waM wrM fuM) sz0)) (va_Qi post (fun _ t => mAt D cs (va_A (sh_M cs adM mpM mkM mgM mcM mwM mfM mtM mhM mmM mdM mxM mnM szM faM apM waM wrM fuM) sz0) (sh_M cs adM mpM mkM mgM mcM mwM mfM mtM mhM mmM mdM mxM mnM szM faM apM waM wrM fuM) t) (va_A (sh_M cs adM mpM mkM mgM mcM mwM mfM mtM mhM mmM mdM mxM mnM szM faM apM waM wrM fuM) sz0)) 0 0 (va_A (sh_M cs adM mpM mkM mgM mcM mwM mfM mtM mhM mmM mdM mxM mnM szM faM apM waM wrM fuM) sz0) := by
  refine Met.ofW (cc := cX6_isGap) (maxL := 2) (ret := (some .boolean)) (by decide) rfl ?_
  intro p e s m args below meth c s₁ B hml hv
  obtain ⟨rfl, hsz, hP, hK, hD0, hE⟩ := hv
  have hx := B.exec
  have hb := B.bytes
  have hr := B.returns
  have hts := atoms_spec (ws := wsX6_isGap) B.pre
  have hown : s.vm.findClass RX6 = some m.cls := findClass_of_methodNamed B.named
  have hlocks := B.notSynchronized
  subst hsz
  have hD := hD0.self (sz := s.heap.size)
  generalize hAe : va_A (sh_M cs adM mpM mkM mgM mcM mwM mfM mtM mhM mmM mdM mxM mnM szM faM apM waM wrM fuM) s.heap.size = A at hD hE ⊢
  have hA : ∀ q : Nat, s.heap.size ≤ q → A q := fun q h => by rw [← hAe]; exact Or.inr h
  have hS : va_S A s.heap s.heap [] := va_S.rf
  have hl := lv_entry ([.ref (adM 0), .int p1]) (n := 2) (Nat.le_of_ble_eq_true rfl)
  rw [lg_entry_eq]
  generalize (lg_sl ([.ref (adM 0), .int p1]) ++ List.replicate (2 - (lg_sl ([.ref (adM 0), .int p1])).length) Slot.unset).toArray = ls at hl ⊢
  have hl : lv_has ls 2 [(0, .ref (adM 0)), (1, .int p1)] := hl
  refine lv_aload_n hx hb dX6_isGap_0 rfl (lv_at hl 0 rfl) ?_
  refine va_get (D := D) (ci := 5) (v := .ref (adM 11)) (C := RX6) (T := TX6) (N := 18) hx hb hts (by decide +kernel) hown hK hP 0 rfl rfl 10 (by decide) (hts (.fieldLink RX6 41 "PartGraphsModel" "text" "[B") (by decide +kernel)) (fun _ h9 => h9) rfl dX6_isGap_1 ?_
  refine lv_iload_n hx hb dX6_isGap_4 rfl (lv_at hl 1 rfl) ?_
  have hin := h.1
  have h := h.2
  refine va_bald (D := D) (cl := vwCl) hx hb hK hP 11 3 rfl rfl hin dX6_isGap_5 ?_
  refine lv_bipush (v := 32) hx hb dX6_isGap_6 (by decide) ?_
  refine lv_icmp_eq (tgt := 22) hx hb dX6_isGap_8 (by decide) (fun c_1 => ?_) (fun c_1 => ?_)
  · have h := h.1 c_1
    refine lv_iconst (v := 1) hx hb dX6_isGap_22 (by decide) ?_
    refine lv_goto (tgt := 27) hx hb dX6_isGap_23 (by decide) ?_
    exact W.zret (v := 1) hx hb hr (by decide) (fun t ht hW => ⟨⟨1, (), rfl, h, by rw [ht]; exact hP, va_K.moved hW.alike hK, hD⟩, hS.F ht⟩) hS.2.2 dX6_isGap_27
  · have h := h.2 c_1
    refine lv_aload_n hx hb dX6_isGap_11 rfl (lv_at hl 0 rfl) ?_
    refine va_get (D := D) (ci := 5) (v := .ref (adM 11)) (C := RX6) (T := TX6) (N := 18) hx hb hts (by decide +kernel) hown hK hP 0 rfl rfl 10 (by decide) (hts (.fieldLink RX6 41 "PartGraphsModel" "text" "[B") (by decide +kernel)) (fun _ h9 => h9) rfl dX6_isGap_12 ?_
    refine lv_iload_n hx hb dX6_isGap_15 rfl (lv_at hl 1 rfl) ?_
    have hin := h.1
    have h := h.2
    refine va_bald (D := D) (cl := vwCl) hx hb hK hP 11 3 rfl rfl hin dX6_isGap_16 ?_
    refine lv_bipush (v := 10) hx hb dX6_isGap_17 (by decide) ?_
    refine lv_icmp_ne (tgt := 26) hx hb dX6_isGap_19 (by decide) (fun c_2 => ?_) (fun c_2 => ?_)
    · have h := h.2 c_2
      refine lv_iconst (v := 0) hx hb dX6_isGap_26 (by decide) ?_
      exact W.zret (v := 0) hx hb hr (by decide) (fun t ht hW => ⟨⟨0, (), rfl, h, by rw [ht]; exact hP, va_K.moved hW.alike hK, hD⟩, hS.F ht⟩) hS.2.2 dX6_isGap_27
    · have h := h.1 c_2
      refine lv_iconst (v := 1) hx hb dX6_isGap_22 (by decide) ?_
      refine lv_goto (tgt := 27) hx hb dX6_isGap_23 (by decide) ?_
      exact W.zret (v := 1) hx hb hr (by decide) (fun t ht hW => ⟨⟨1, (), rfl, h, by rw [ht]; exact hP, va_K.moved hW.alike hK, hD⟩, hS.F ht⟩) hS.2.2 dX6_isGap_27
def wp_X6_wordBegin (mxM : Nat → Int32) (szM : Int32) (p1 : Int32) (post : Int32 → Unit → Prop) : Prop :=
    ∀ (A2 : Int32 → Prop),
    (∀ (v2 : Int32), ((szM ≤ v2 → post v2 ()) ∧ (¬ szM ≤ v2 → wp_X6_isGap mxM v2 (fun r_2 _ => ((r_2 = 0 → post v2 ()) ∧ (¬ r_2 = 0 → A2 (v2 + 1)))))) → A2 v2) →
    A2 p1
set_option maxHeartbeats 4000000 in
set_option maxRecDepth 100000 in
theorem met_X6_wordBegin (l : Launch) (D : va_G) (cs : Nat → ClassId) (ev : Nat → Nat → Nat) (sz0 : Nat) (adM : Nat → Nat) (mpM : Nat → Int32) (mkM : Nat → Int32) (mgM : Nat → Int32) (mcM : Nat → Int32) (mwM : Nat → Int32) (mfM : Nat → Int32) (mtM : Nat → Int32) (mhM : Nat → Int32) (mmM : Nat → Int32) (mdM : Nat → Int32) (mxM : Nat → Int32) (mnM : Nat → Int32) (szM : Int32) (faM : Int32) (apM : Int32) (waM : Int32) (wrM : Int32) (fuM : Int32) (p1 : Int32) (post : Int32 → Unit → Prop) (h : wp_X6_wordBegin mxM szM p1 post) : Met l yX6_wordBegin wsX6_wordBegin ({ frames := 1, cells := 0, slots := 0, locals := 21 }) (va_Pc [.ref (adM 0), .int p1] (mPre D cs ev (sh_M cs adM mpM mkM mgM mcM mwM mfM mtM mhM mmM mdM mxM mnM szM faM apM waM wrM fuM) sz0)) (va_Qi post (fun _ t => mAt D cs (va_A (sh_M cs adM mpM mkM mgM mcM mwM mfM mtM mhM mmM mdM mxM mnM szM faM apM waM wrM fuM) sz0) (sh_M cs adM mpM mkM mgM mcM mwM mfM mtM mhM mmM mdM mxM mnM szM faM apM waM wrM fuM) t) (va_A (sh_M cs adM mpM mkM mgM mcM mwM mfM mtM mhM mmM mdM mxM mnM szM faM apM waM wrM fuM) sz0)) 0 0 (va_A (sh_M cs adM mpM mkM mgM mcM mwM mfM mtM mhM mmM mdM mxM mnM szM faM apM waM wrM fuM) sz0) := by
  refine Met.ofW (cc := cX6_wordBegin) (maxL := 3) (ret := (some .int)) (by decide) rfl ?_
  intro p e s m args below meth c s₁ B hml hv
  obtain ⟨rfl, hsz, hP, hK, hD0, hE⟩ := hv
  have hx := B.exec
  have hb := B.bytes
  have hr := B.returns
  have hts := atoms_spec (ws := wsX6_wordBegin) B.pre
  have hown : s.vm.findClass RX6 = some m.cls := findClass_of_methodNamed B.named
  have hlocks := B.notSynchronized
  subst hsz
  have hD := hD0.self (sz := s.heap.size)
  generalize hAe : va_A (sh_M cs adM mpM mkM mgM mcM mwM mfM mtM mhM mmM mdM mxM mnM szM faM apM waM wrM fuM) s.heap.size = A at hD hE ⊢
  have hA : ∀ q : Nat, s.heap.size ≤ q → A q := fun q h => by rw [← hAe]; exact Or.inr h
  have hS : va_S A s.heap s.heap [] := va_S.rf
  have hl := lv_entry ([.ref (adM 0), .int p1]) (n := 3) (Nat.le_of_ble_eq_true rfl)
  rw [lg_entry_eq]
  generalize (lg_sl ([.ref (adM 0), .int p1]) ++ List.replicate (3 - (lg_sl ([.ref (adM 0), .int p1])).length) Slot.unset).toArray = ls at hl ⊢
  have hl : lv_has ls 3 [(0, .ref (adM 0)), (1, .int p1)] := hl
  obtain ⟨A2, hA2⟩ : ∃ Q : Int32 → Prop, Q = (fun v2 => ∀ (H : Heap) (locs : List Loc), va_P D vwCl (sh_M cs adM mpM mkM mgM mcM mwM mfM mtM mhM mmM mdM mxM mnM szM faM apM waM wrM fuM) H → va_D A (sh_M cs adM mpM mkM mgM mcM mwM mfM mtM mhM mmM mdM mxM mnM szM faM apM waM wrM fuM) → va_S A s.heap H locs → ∀ ls : Array Slot, lv_has ls 3 [(0, .ref (adM 0)), (2, .int v2)] → W p l e (headSpec wsX6_wordBegin ({ frames := 1, cells := 0, slots := 0, locals := 21 })).room s m ([.ref (adM 0), .int p1] : List Value).toArray below meth c H locs 0 0 (MQ below (va_Qi post (fun _ t => mAt D cs (A) (sh_M cs adM mpM mkM mgM mcM mwM mfM mtM mhM mmM mdM mxM mnM szM faM apM waM wrM fuM) t) A) ([.ref (adM 0), .int p1] : List Value).toArray s 0 0 A) (F0 m 2 ls [])) := ⟨_, rfl⟩
  have s2 : ∀ (v2 : Int32), ((szM ≤ v2 → post v2 ()) ∧ (¬ szM ≤ v2 → wp_X6_isGap mxM v2 (fun r_2 _ => ((r_2 = 0 → post v2 ()) ∧ (¬ r_2 = 0 → A2 (v2 + 1)))))) → A2 v2 := by
    intro v2 h
    rw [hA2]
    intro H locs hP hD hS ls hl
    refine lv_iload_n hx hb dX6_wordBegin_2 rfl (lv_at hl 1 rfl) ?_
    refine lv_aload_n hx hb dX6_wordBegin_3 rfl (lv_at hl 0 rfl) ?_
    refine va_get (D := D) (ci := 5) (v := .int szM) (C := RX6) (T := TX6) (N := 18) hx hb hts (by decide +kernel) hown hK hP 0 rfl rfl 11 (by decide) (hts (.fieldLink RX6 69 "PartGraphsModel" "size" "I") (by decide +kernel)) (fun _ h9 => h9) rfl dX6_wordBegin_4 ?_
    refine lv_icmp_ge (tgt := 24) hx hb dX6_wordBegin_7 (by decide) (fun c_1 => ?_) (fun c_1 => ?_)
    · have h := h.1 c_1
      refine lv_iload_n hx hb dX6_wordBegin_24 rfl (lv_at hl 1 rfl) ?_
      exact W.iret (v := v2) hx hb hr (fun t ht hW => ⟨⟨v2, (), rfl, h, by rw [ht]; exact hP, va_K.moved hW.alike hK, hD⟩, hS.F ht⟩) hS.2.2 dX6_wordBegin_25
    · have h := h.2 c_1
      refine lv_aload_n hx hb dX6_wordBegin_10 rfl (lv_at hl 0 rfl) ?_
      refine lv_iload_n hx hb dX6_wordBegin_11 rfl (lv_at hl 1 rfl) ?_
      have hFc := va_free (wc := (sh_M cs adM mpM mkM mgM mcM mwM mfM mtM mhM mmM mdM mxM mnM szM faM apM waM wrM fuM)) hD hS hA [0, 1, 2, 3, 4, 5, 6, 7, 8, 9, 10, 11, 12] rfl
      refine va_calli (va_runV (As := [.int v2]) (rest := []) ⟨hx, hb, hml, hown, hts⟩ (met_X6_isGap l D cs ev _ adM mpM mkM mgM mcM mwM mfM mtM mhM mmM mdM mxM mnM szM faM apM waM wrM fuM v2 _ h) (cwV 1 hts gX6_wordBegin_X6_isGap rfl rfl rfl (by decide +kernel) ⟨Nat.le_of_ble_eq_true rfl, Nat.le_of_ble_eq_true rfl⟩) (mPreV (va_recv hK hP (ci := 5) (q0 := 0) rfl rfl) hP hD hS hK hE hFc [0, 1, 2, 3, 4, 5, 6, 7, 8, 9, 10, 11, 12] (by decide) rfl) rfl rfl hl.1 rfl (lv_room (Nat.le_of_ble_eq_true rfl)) dX6_wordBegin_12 ⟨Nat.le_of_ble_eq_true rfl, Nat.le_of_ble_eq_true rfl⟩) hS (fun q _ h => hFc q h) hFc (fun r_2 u t H1 locs ht hvm hw hB hz1 hk1 hS => ?_)
      have h := hw
      obtain ⟨hP1, hK1, hD1⟩ := hB
      rw [ht] at hP1
      obtain ⟨hP, hD⟩ := mJoin (wr := ([] : va_W)) (w1 := (sh_M cs adM mpM mkM mgM mcM mwM mfM mtM mhM mmM mdM mxM mnM szM faM apM waM wrM fuM)) (w' := (sh_M cs adM mpM mkM mgM mcM mwM mfM mtM mhM mmM mdM mxM mnM szM faM apM waM wrM fuM)) hP hD [0, 1, 2, 3, 4, 5, 6, 7, 8, 9, 10, 11, 12] [] rfl rfl (by decide) (by decide) hk1 hFc hP1 hD1 [0, 1, 2, 3, 4, 5, 6, 7, 8, 9, 10, 11, 12] (by decide) rfl
      generalize H1 = H at hP hS ⊢
      refine lv_if_eq (tgt := 24) hx hb dX6_wordBegin_15 (by decide) (fun c_3 => ?_) (fun c_3 => ?_)
      · have h := h.1 c_3
        refine lv_iload_n hx hb dX6_wordBegin_24 rfl (lv_at hl 1 rfl) ?_
        exact W.iret (v := v2) hx hb hr (fun t ht hW => ⟨⟨v2, (), rfl, h, by rw [ht]; exact hP, va_K.moved hW.alike hK, hD⟩, hS.F ht⟩) hS.2.2 dX6_wordBegin_25
      · have h := h.2 c_3
        refine lv_iinc (v := v2 + 1) (lv' := [(2, .int (v2 + 1)), (0, .ref (adM 0))]) hx hb dX6_wordBegin_18 hl (k := 1) rfl rfl (by decide) rfl (fun ls hl => ?_)
        refine lv_goto (tgt := 2) hx hb dX6_wordBegin_21 (by decide) ?_
        rw [hA2] at h
        exact h _ _ hP hD hS ls (lv_sub hl [1, 0] rfl)
  have h := h A2 s2
  refine lv_iload_n hx hb dX6_wordBegin_0 rfl (lv_at hl 1 rfl) ?_
  refine lv_istore_n (lv' := [(2, .int p1), (0, .ref (adM 0)), (1, .int p1)]) hx hb dX6_wordBegin_1 rfl hl (by decide) rfl (fun ls hl => ?_)
  rw [hA2] at h
  exact h _ _ hP hD hS ls (lv_sub hl [1, 0] rfl)
def wp_X6_wordEnd (mxM : Nat → Int32) (szM : Int32) (p1 : Int32) (post : Int32 → Unit → Prop) : Prop :=
    ∀ (A2 : Int32 → Prop),
    (∀ (v2 : Int32), ((szM ≤ v2 → post v2 ()) ∧ (¬ szM ≤ v2 → wp_X6_isGap mxM v2 (fun r_2 _ => ((r_2 = 0 → A2 (v2 + 1)) ∧ (¬ r_2 = 0 → post v2 ()))))) → A2 v2) →
    A2 p1
set_option maxHeartbeats 4000000 in
set_option maxRecDepth 100000 in
theorem met_X6_wordEnd (l : Launch) (D : va_G) (cs : Nat → ClassId) (ev : Nat → Nat → Nat) (sz0 : Nat) (adM : Nat → Nat) (mpM : Nat → Int32) (mkM : Nat → Int32) (mgM : Nat → Int32) (mcM : Nat → Int32) (mwM : Nat → Int32) (mfM : Nat → Int32) (mtM : Nat → Int32) (mhM : Nat → Int32) (mmM : Nat → Int32) (mdM : Nat → Int32) (mxM : Nat → Int32) (mnM : Nat → Int32) (szM : Int32) (faM : Int32) (apM : Int32) (waM : Int32) (wrM : Int32) (fuM : Int32) (p1 : Int32) (post : Int32 → Unit → Prop) (h : wp_X6_wordEnd mxM szM p1 post) : Met l yX6_wordEnd wsX6_wordEnd ({ frames := 1, cells := 0, slots := 0, locals := 21 }) (va_Pc [.ref (adM 0), .int p1] (mPre D cs ev (sh_M cs adM mpM mkM mgM mcM mwM mfM mtM mhM mmM mdM mxM mnM szM faM apM waM wrM fuM) sz0)) (va_Qi post (fun _ t => mAt D cs (va_A (sh_M cs adM mpM mkM mgM mcM mwM mfM mtM mhM mmM mdM mxM mnM szM faM apM waM wrM fuM) sz0) (sh_M cs adM mpM mkM mgM mcM mwM mfM mtM mhM mmM mdM mxM mnM szM faM apM waM wrM fuM) t) (va_A (sh_M cs adM mpM mkM mgM mcM mwM mfM mtM mhM mmM mdM mxM mnM szM faM apM waM wrM fuM) sz0)) 0 0 (va_A (sh_M cs adM mpM mkM mgM mcM mwM mfM mtM mhM mmM mdM mxM mnM szM faM apM waM wrM fuM) sz0) := by
  refine Met.ofW (cc := cX6_wordEnd) (maxL := 3) (ret := (some .int)) (by decide) rfl ?_
  intro p e s m args below meth c s₁ B hml hv
  obtain ⟨rfl, hsz, hP, hK, hD0, hE⟩ := hv
  have hx := B.exec
  have hb := B.bytes
  have hr := B.returns
  have hts := atoms_spec (ws := wsX6_wordEnd) B.pre
  have hown : s.vm.findClass RX6 = some m.cls := findClass_of_methodNamed B.named
  have hlocks := B.notSynchronized
  subst hsz
  have hD := hD0.self (sz := s.heap.size)
  generalize hAe : va_A (sh_M cs adM mpM mkM mgM mcM mwM mfM mtM mhM mmM mdM mxM mnM szM faM apM waM wrM fuM) s.heap.size = A at hD hE ⊢
  have hA : ∀ q : Nat, s.heap.size ≤ q → A q := fun q h => by rw [← hAe]; exact Or.inr h
  have hS : va_S A s.heap s.heap [] := va_S.rf
  have hl := lv_entry ([.ref (adM 0), .int p1]) (n := 3) (Nat.le_of_ble_eq_true rfl)
  rw [lg_entry_eq]
  generalize (lg_sl ([.ref (adM 0), .int p1]) ++ List.replicate (3 - (lg_sl ([.ref (adM 0), .int p1])).length) Slot.unset).toArray = ls at hl ⊢
  have hl : lv_has ls 3 [(0, .ref (adM 0)), (1, .int p1)] := hl
  obtain ⟨A2, hA2⟩ : ∃ Q : Int32 → Prop, Q = (fun v2 => ∀ (H : Heap) (locs : List Loc), va_P D vwCl (sh_M cs adM mpM mkM mgM mcM mwM mfM mtM mhM mmM mdM mxM mnM szM faM apM waM wrM fuM) H → va_D A (sh_M cs adM mpM mkM mgM mcM mwM mfM mtM mhM mmM mdM mxM mnM szM faM apM waM wrM fuM) → va_S A s.heap H locs → ∀ ls : Array Slot, lv_has ls 3 [(0, .ref (adM 0)), (2, .int v2)] → W p l e (headSpec wsX6_wordEnd ({ frames := 1, cells := 0, slots := 0, locals := 21 })).room s m ([.ref (adM 0), .int p1] : List Value).toArray below meth c H locs 0 0 (MQ below (va_Qi post (fun _ t => mAt D cs (A) (sh_M cs adM mpM mkM mgM mcM mwM mfM mtM mhM mmM mdM mxM mnM szM faM apM waM wrM fuM) t) A) ([.ref (adM 0), .int p1] : List Value).toArray s 0 0 A) (F0 m 2 ls [])) := ⟨_, rfl⟩
  have s2 : ∀ (v2 : Int32), ((szM ≤ v2 → post v2 ()) ∧ (¬ szM ≤ v2 → wp_X6_isGap mxM v2 (fun r_2 _ => ((r_2 = 0 → A2 (v2 + 1)) ∧ (¬ r_2 = 0 → post v2 ()))))) → A2 v2 := by
    intro v2 h
    rw [hA2]
    intro H locs hP hD hS ls hl
    refine lv_iload_n hx hb dX6_wordEnd_2 rfl (lv_at hl 1 rfl) ?_
    refine lv_aload_n hx hb dX6_wordEnd_3 rfl (lv_at hl 0 rfl) ?_
    refine va_get (D := D) (ci := 5) (v := .int szM) (C := RX6) (T := TX6) (N := 18) hx hb hts (by decide +kernel) hown hK hP 0 rfl rfl 11 (by decide) (hts (.fieldLink RX6 69 "PartGraphsModel" "size" "I") (by decide +kernel)) (fun _ h9 => h9) rfl dX6_wordEnd_4 ?_
    refine lv_icmp_ge (tgt := 24) hx hb dX6_wordEnd_7 (by decide) (fun c_1 => ?_) (fun c_1 => ?_)
    · have h := h.1 c_1
      refine lv_iload_n hx hb dX6_wordEnd_24 rfl (lv_at hl 1 rfl) ?_
      exact W.iret (v := v2) hx hb hr (fun t ht hW => ⟨⟨v2, (), rfl, h, by rw [ht]; exact hP, va_K.moved hW.alike hK, hD⟩, hS.F ht⟩) hS.2.2 dX6_wordEnd_25
    · have h := h.2 c_1
      refine lv_aload_n hx hb dX6_wordEnd_10 rfl (lv_at hl 0 rfl) ?_
      refine lv_iload_n hx hb dX6_wordEnd_11 rfl (lv_at hl 1 rfl) ?_
      have hFc := va_free (wc := (sh_M cs adM mpM mkM mgM mcM mwM mfM mtM mhM mmM mdM mxM mnM szM faM apM waM wrM fuM)) hD hS hA [0, 1, 2, 3, 4, 5, 6, 7, 8, 9, 10, 11, 12] rfl
      refine va_calli (va_runV (As := [.int v2]) (rest := []) ⟨hx, hb, hml, hown, hts⟩ (met_X6_isGap l D cs ev _ adM mpM mkM mgM mcM mwM mfM mtM mhM mmM mdM mxM mnM szM faM apM waM wrM fuM v2 _ h) (cwV 1 hts gX6_wordEnd_X6_isGap rfl rfl rfl (by decide +kernel) ⟨Nat.le_of_ble_eq_true rfl, Nat.le_of_ble_eq_true rfl⟩) (mPreV (va_recv hK hP (ci := 5) (q0 := 0) rfl rfl) hP hD hS hK hE hFc [0, 1, 2, 3, 4, 5, 6, 7, 8, 9, 10, 11, 12] (by decide) rfl) rfl rfl hl.1 rfl (lv_room (Nat.le_of_ble_eq_true rfl)) dX6_wordEnd_12 ⟨Nat.le_of_ble_eq_true rfl, Nat.le_of_ble_eq_true rfl⟩) hS (fun q _ h => hFc q h) hFc (fun r_2 u t H1 locs ht hvm hw hB hz1 hk1 hS => ?_)
      have h := hw
      obtain ⟨hP1, hK1, hD1⟩ := hB
      rw [ht] at hP1
      obtain ⟨hP, hD⟩ := mJoin (wr := ([] : va_W)) (w1 := (sh_M cs adM mpM mkM mgM mcM mwM mfM mtM mhM mmM mdM mxM mnM szM faM apM waM wrM fuM)) (w' := (sh_M cs adM mpM mkM mgM mcM mwM mfM mtM mhM mmM mdM mxM mnM szM faM apM waM wrM fuM)) hP hD [0, 1, 2, 3, 4, 5, 6, 7, 8, 9, 10, 11, 12] [] rfl rfl (by decide) (by decide) hk1 hFc hP1 hD1 [0, 1, 2, 3, 4, 5, 6, 7, 8, 9, 10, 11, 12] (by decide) rfl
      generalize H1 = H at hP hS ⊢
      refine lv_if_ne (tgt := 24) hx hb dX6_wordEnd_15 (by decide) (fun c_3 => ?_) (fun c_3 => ?_)
      · have h := h.2 c_3
        refine lv_iload_n hx hb dX6_wordEnd_24 rfl (lv_at hl 1 rfl) ?_
        exact W.iret (v := v2) hx hb hr (fun t ht hW => ⟨⟨v2, (), rfl, h, by rw [ht]; exact hP, va_K.moved hW.alike hK, hD⟩, hS.F ht⟩) hS.2.2 dX6_wordEnd_25
      · have h := h.1 c_3
        refine lv_iinc (v := v2 + 1) (lv' := [(2, .int (v2 + 1)), (0, .ref (adM 0))]) hx hb dX6_wordEnd_18 hl (k := 1) rfl rfl (by decide) rfl (fun ls hl => ?_)
        refine lv_goto (tgt := 2) hx hb dX6_wordEnd_21 (by decide) ?_
        rw [hA2] at h
        exact h _ _ hP hD hS ls (lv_sub hl [1, 0] rfl)
  have h := h A2 s2
  refine lv_iload_n hx hb dX6_wordEnd_0 rfl (lv_at hl 1 rfl) ?_
  refine lv_istore_n (lv' := [(2, .int p1), (0, .ref (adM 0)), (1, .int p1)]) hx hb dX6_wordEnd_1 rfl hl (by decide) rfl (fun ls hl => ?_)
  rw [hA2] at h
  exact h _ _ hP hD hS ls (lv_sub hl [1, 0] rfl)
def wp_X6_wordOf (mxM : Nat → Int32) (p1 : Int32) (p2 : Int32) (post : Int64 → Unit → Prop) : Prop :=
    ∀ (A5 : Int64 → Int32 → Prop),
    (∀ (v3 : Int64) (v5 : Int32), ((p2 ≤ v5 → post v3 ()) ∧ (¬ p2 ≤ v5 → ((8 ≤ (p2 - p1) → post v3 ()) ∧ (¬ 8 ≤ (p2 - p1) → (vp_in v5 2000 ∧ A5 ((256 * v3) + (((mxM v5.toNatClampNeg) &&& 255).toInt64)) (v5 + 1)))))) → A5 v3 v5) →
    A5 1 p1
set_option maxHeartbeats 4000000 in
set_option maxRecDepth 100000 in
theorem met_X6_wordOf (l : Launch) (D : va_G) (cs : Nat → ClassId) (ev : Nat → Nat → Nat) (sz0 : Nat) (adM : Nat → Nat) (mpM : Nat → Int32) (mkM : Nat → Int32) (mgM : Nat → Int32) (mcM : Nat → Int32) (mwM : Nat → Int32) (mfM : Nat → Int32) (mtM : Nat → Int32) (mhM : Nat → Int32) (mmM : Nat → Int32) (mdM : Nat → Int32) (mxM : Nat → Int32) (mnM : Nat → Int32) (szM : Int32) (faM : Int32) (apM : Int32) (waM : Int32) (wrM : Int32) (fuM : Int32) (p1 : Int32) (p2 : Int32) (post : Int64 → Unit → Prop) (h : wp_X6_wordOf mxM p1 p2 post) : Met l yX6_wordOf wsX6_wordOf ({ frames := 0, cells := 0, slots := 0, locals := 0 }) (va_Pc [.ref (adM 0), .int p1, .int p2] (mPre D cs ev (sh_M cs adM mpM mkM mgM mcM mwM mfM mtM mhM mmM mdM mxM mnM szM faM apM waM wrM fuM) sz0)) (va_Ql post (fun _ t => mAt D cs (va_A (sh_M cs adM mpM mkM mgM mcM mwM mfM mtM mhM mmM mdM mxM mnM szM faM apM waM wrM fuM) sz0) (sh_M cs adM mpM mkM mgM mcM mwM mfM mtM mhM mmM mdM mxM mnM szM faM apM waM wrM fuM) t) (va_A (sh_M cs adM mpM mkM mgM mcM mwM mfM mtM mhM mmM mdM mxM mnM szM faM apM waM wrM fuM) sz0)) 0 0 (va_A (sh_M cs adM mpM mkM mgM mcM mwM mfM mtM mhM mmM mdM mxM mnM szM faM apM waM wrM fuM) sz0) := by
  refine Met.ofW (cc := cX6_wordOf) (maxL := 6) (ret := (some .long)) (by decide) rfl ?_
  intro p e s m args below meth c s₁ B hml hv
  obtain ⟨rfl, hsz, hP, hK, hD0, hE⟩ := hv
  have hx := B.exec
  have hb := B.bytes
  have hr := B.returns
  have hts := atoms_spec (ws := wsX6_wordOf) B.pre
  have hown : s.vm.findClass RX6 = some m.cls := findClass_of_methodNamed B.named
  have hlocks := B.notSynchronized
  subst hsz
  have hD := hD0.self (sz := s.heap.size)
  generalize hAe : va_A (sh_M cs adM mpM mkM mgM mcM mwM mfM mtM mhM mmM mdM mxM mnM szM faM apM waM wrM fuM) s.heap.size = A at hD hE ⊢
  have hA : ∀ q : Nat, s.heap.size ≤ q → A q := fun q h => by rw [← hAe]; exact Or.inr h
  have hS : va_S A s.heap s.heap [] := va_S.rf
  have hl := lv_entry ([.ref (adM 0), .int p1, .int p2]) (n := 6) (Nat.le_of_ble_eq_true rfl)
  rw [lg_entry_eq]
  generalize (lg_sl ([.ref (adM 0), .int p1, .int p2]) ++ List.replicate (6 - (lg_sl ([.ref (adM 0), .int p1, .int p2])).length) Slot.unset).toArray = ls at hl ⊢
  have hl : lv_has ls 6 [(0, .ref (adM 0)), (1, .int p1), (2, .int p2)] := hl
  obtain ⟨A5, hA5⟩ : ∃ Q : Int64 → Int32 → Prop, Q = (fun v3 v5 => ∀ (H : Heap) (locs : List Loc), va_P D vwCl (sh_M cs adM mpM mkM mgM mcM mwM mfM mtM mhM mmM mdM mxM mnM szM faM apM waM wrM fuM) H → va_D A (sh_M cs adM mpM mkM mgM mcM mwM mfM mtM mhM mmM mdM mxM mnM szM faM apM waM wrM fuM) → va_S A s.heap H locs → ∀ ls : Array Slot, lv_has ls 6 [(0, .ref (adM 0)), (1, .int p1), (2, .int p2), (3, .long v3), (5, .int v5)] → W p l e (headSpec wsX6_wordOf ({ frames := 0, cells := 0, slots := 0, locals := 0 })).room s m ([.ref (adM 0), .int p1, .int p2] : List Value).toArray below meth c H locs 0 0 (MQ below (va_Ql post (fun _ t => mAt D cs (A) (sh_M cs adM mpM mkM mgM mcM mwM mfM mtM mhM mmM mdM mxM mnM szM faM apM waM wrM fuM) t) A) ([.ref (adM 0), .int p1, .int p2] : List Value).toArray s 0 0 A) (F0 m 5 ls [])) := ⟨_, rfl⟩
  have s5 : ∀ (v3 : Int64) (v5 : Int32), ((p2 ≤ v5 → post v3 ()) ∧ (¬ p2 ≤ v5 → ((8 ≤ (p2 - p1) → post v3 ()) ∧ (¬ 8 ≤ (p2 - p1) → (vp_in v5 2000 ∧ A5 ((256 * v3) + (((mxM v5.toNatClampNeg) &&& 255).toInt64)) (v5 + 1)))))) → A5 v3 v5 := by
    intro v3 v5 h
    rw [hA5]
    intro H locs hP hD hS ls hl
    refine lv_iload hx hb dX6_wordOf_5 (lv_at hl 4 rfl) ?_
    refine lv_iload_n hx hb dX6_wordOf_7 rfl (lv_at hl 2 rfl) ?_
    refine lv_icmp_ge (tgt := 44) hx hb dX6_wordOf_8 (by decide) (fun c_1 => ?_) (fun c_1 => ?_)
    · have h := h.1 c_1
      refine lv_lload_n hx hb dX6_wordOf_44 rfl (lv_at hl 3 rfl) ?_
      exact W.lret (v := v3) hx hb hr (fun t ht hW => ⟨⟨v3, (), rfl, h, by rw [ht]; exact hP, va_K.moved hW.alike hK, hD⟩, hS.F ht⟩) hS.2.2 dX6_wordOf_45
    · have h := h.2 c_1
      refine lv_iload_n hx hb dX6_wordOf_11 rfl (lv_at hl 2 rfl) ?_
      refine lv_iload_n hx hb dX6_wordOf_12 rfl (lv_at hl 1 rfl) ?_
      refine lv_isub hx hb dX6_wordOf_13 ?_
      refine lv_bipush (v := 8) hx hb dX6_wordOf_14 (by decide) ?_
      refine lv_icmp_ge (tgt := 44) hx hb dX6_wordOf_16 (by decide) (fun c_2 => ?_) (fun c_2 => ?_)
      · have h := h.1 c_2
        refine lv_lload_n hx hb dX6_wordOf_44 rfl (lv_at hl 3 rfl) ?_
        exact W.lret (v := v3) hx hb hr (fun t ht hW => ⟨⟨v3, (), rfl, h, by rw [ht]; exact hP, va_K.moved hW.alike hK, hD⟩, hS.F ht⟩) hS.2.2 dX6_wordOf_45
      · have h := h.2 c_2
        refine lv_ldc2 (v := 256) hx hb hown (hts (.constantLong RX6 76 256) (by decide +kernel)) dX6_wordOf_19 ?_
        refine lv_lload_n hx hb dX6_wordOf_22 rfl (lv_at hl 3 rfl) ?_
        refine lv_lmul hx hb dX6_wordOf_23 ?_
        refine lv_aload_n hx hb dX6_wordOf_24 rfl (lv_at hl 0 rfl) ?_
        refine va_get (D := D) (ci := 5) (v := .ref (adM 11)) (C := RX6) (T := TX6) (N := 18) hx hb hts (by decide +kernel) hown hK hP 0 rfl rfl 10 (by decide) (hts (.fieldLink RX6 41 "PartGraphsModel" "text" "[B") (by decide +kernel)) (fun _ h9 => h9) rfl dX6_wordOf_25 ?_
        refine lv_iload hx hb dX6_wordOf_28 (lv_at hl 4 rfl) ?_
        have hin := h.1
        have h := h.2
        refine va_bald (D := D) (cl := vwCl) hx hb hK hP 11 3 rfl rfl hin dX6_wordOf_30 ?_
        refine lv_sipush (v := 255) hx hb dX6_wordOf_31 (by decide) ?_
        refine lv_iand hx hb dX6_wordOf_34 ?_
        refine lv_i2l hx hb dX6_wordOf_35 rfl ?_
        refine lv_ladd hx hb dX6_wordOf_36 ?_
        refine lv_lstore_n (lv' := [(3, .long ((256 * v3) + (((mxM v5.toNatClampNeg) &&& 255).toInt64))), (0, .ref (adM 0)), (1, .int p1), (2, .int p2), (5, .int v5)]) hx hb dX6_wordOf_37 rfl hl (by decide) rfl (fun ls hl => ?_)
        refine lv_iinc (v := v5 + 1) (lv' := [(5, .int (v5 + 1)), (3, .long ((256 * v3) + (((mxM v5.toNatClampNeg) &&& 255).toInt64))), (0, .ref (adM 0)), (1, .int p1), (2, .int p2)]) hx hb dX6_wordOf_38 hl (k := 4) rfl rfl (by decide) rfl (fun ls hl => ?_)
        refine lv_goto (tgt := 5) hx hb dX6_wordOf_41 (by decide) ?_
        rw [hA5] at h
        exact h _ _ hP hD hS ls (lv_sub hl [2, 3, 4, 1, 0] rfl)
  have h := h A5 s5
  refine lv_lconst (v := 1) hx hb dX6_wordOf_0 (by decide) ?_
  refine lv_lstore_n (lv' := [(3, .long 1), (0, .ref (adM 0)), (1, .int p1), (2, .int p2)]) hx hb dX6_wordOf_1 rfl hl (by decide) rfl (fun ls hl => ?_)
  refine lv_iload_n hx hb dX6_wordOf_2 rfl (lv_at hl 2 rfl) ?_
  refine lv_istore (lv' := [(5, .int p1), (3, .long 1), (0, .ref (adM 0)), (1, .int p1), (2, .int p2)]) hx hb dX6_wordOf_3 hl (by decide) rfl (fun ls hl => ?_)
  rw [hA5] at h
  exact h _ _ hP hD hS ls (lv_sub hl [2, 3, 4, 1, 0] rfl)
def wp_X6_numberOf (mxM : Nat → Int32) (p1 : Int32) (p2 : Int32) (post : Int32 → Unit → Prop) : Prop :=
    ∀ (A17 : Int32 → Int32 → Prop),
    (∀ (v3 : Int32) (v4 : Int32), ((p2 ≤ v4 → post v3 ()) ∧ (¬ p2 ≤ v4 → ((v3 < 0 → post v3 ()) ∧ (¬ v3 < 0 → (vp_in v4 2000 ∧ ((((mxM v4.toNatClampNeg) - 48) < 0 → A17 (-1) (v4 + 1)) ∧ (¬ ((mxM v4.toNatClampNeg) - 48) < 0 → ((((mxM v4.toNatClampNeg) - 48) ≤ 9 → A17 ((10 * v3) + ((mxM v4.toNatClampNeg) - 48)) (v4 + 1)) ∧ (¬ ((mxM v4.toNatClampNeg) - 48) ≤ 9 → A17 (-1) (v4 + 1)))))))))) → A17 v3 v4) →
    (((p2 - p1) ≤ 9 → A17 0 p1) ∧ (¬ (p2 - p1) ≤ 9 → A17 (-1) p1))
set_option maxHeartbeats 4000000 in
set_option maxRecDepth 100000 in
theorem met_X6_numberOf (l : Launch) (D : va_G) (cs : Nat → ClassId) (ev : Nat → Nat → Nat) (sz0 : Nat) (adM : Nat → Nat) (mpM : Nat → Int32) (mkM : Nat → Int32) (mgM : Nat → Int32) (mcM : Nat → Int32) (mwM : Nat → Int32) (mfM : Nat → Int32) (mtM : Nat → Int32) (mhM : Nat → Int32) (mmM : Nat → Int32) (mdM : Nat → Int32) (mxM : Nat → Int32) (mnM : Nat → Int32) (szM : Int32) (faM : Int32) (apM : Int32) (waM : Int32) (wrM : Int32) (fuM : Int32) (p1 : Int32) (p2 : Int32) (post : Int32 → Unit → Prop) (h : wp_X6_numberOf mxM p1 p2 post) : Met l yX6_numberOf wsX6_numberOf ({ frames := 0, cells := 0, slots := 0, locals := 0 }) (va_Pc [.ref (adM 0), .int p1, .int p2] (mPre D cs ev (sh_M cs adM mpM mkM mgM mcM mwM mfM mtM mhM mmM mdM mxM mnM szM faM apM waM wrM fuM) sz0)) (va_Qi post (fun _ t => mAt D cs (va_A (sh_M cs adM mpM mkM mgM mcM mwM mfM mtM mhM mmM mdM mxM mnM szM faM apM waM wrM fuM) sz0) (sh_M cs adM mpM mkM mgM mcM mwM mfM mtM mhM mmM mdM mxM mnM szM faM apM waM wrM fuM) t) (va_A (sh_M cs adM mpM mkM mgM mcM mwM mfM mtM mhM mmM mdM mxM mnM szM faM apM waM wrM fuM) sz0)) 0 0 (va_A (sh_M cs adM mpM mkM mgM mcM mwM mfM mtM mhM mmM mdM mxM mnM szM faM apM waM wrM fuM) sz0) := by
  refine Met.ofW (cc := cX6_numberOf) (maxL := 6) (ret := (some .int)) (by decide) rfl ?_
  intro p e s m args below meth c s₁ B hml hv
  obtain ⟨rfl, hsz, hP, hK, hD0, hE⟩ := hv
  have hx := B.exec
  have hb := B.bytes
  have hr := B.returns
  have hts := atoms_spec (ws := wsX6_numberOf) B.pre
  have hown : s.vm.findClass RX6 = some m.cls := findClass_of_methodNamed B.named
  have hlocks := B.notSynchronized
  subst hsz
  have hD := hD0.self (sz := s.heap.size)
  generalize hAe : va_A (sh_M cs adM mpM mkM mgM mcM mwM mfM mtM mhM mmM mdM mxM mnM szM faM apM waM wrM fuM) s.heap.size = A at hD hE ⊢
  have hA : ∀ q : Nat, s.heap.size ≤ q → A q := fun q h => by rw [← hAe]; exact Or.inr h
  have hS : va_S A s.heap s.heap [] := va_S.rf
  have hl := lv_entry ([.ref (adM 0), .int p1, .int p2]) (n := 6) (Nat.le_of_ble_eq_true rfl)
  rw [lg_entry_eq]
  generalize (lg_sl ([.ref (adM 0), .int p1, .int p2]) ++ List.replicate (6 - (lg_sl ([.ref (adM 0), .int p1, .int p2])).length) Slot.unset).toArray = ls at hl ⊢
  have hl : lv_has ls 6 [(0, .ref (adM 0)), (1, .int p1), (2, .int p2)] := hl
  obtain ⟨A17, hA17⟩ : ∃ Q : Int32 → Int32 → Prop, Q = (fun v3 v4 => ∀ (H : Heap) (locs : List Loc), va_P D vwCl (sh_M cs adM mpM mkM mgM mcM mwM mfM mtM mhM mmM mdM mxM mnM szM faM apM waM wrM fuM) H → va_D A (sh_M cs adM mpM mkM mgM mcM mwM mfM mtM mhM mmM mdM mxM mnM szM faM apM waM wrM fuM) → va_S A s.heap H locs → ∀ ls : Array Slot, lv_has ls 6 [(0, .ref (adM 0)), (2, .int p2), (3, .int v3), (4, .int v4)] → W p l e (headSpec wsX6_numberOf ({ frames := 0, cells := 0, slots := 0, locals := 0 })).room s m ([.ref (adM 0), .int p1, .int p2] : List Value).toArray below meth c H locs 0 0 (MQ below (va_Qi post (fun _ t => mAt D cs (A) (sh_M cs adM mpM mkM mgM mcM mwM mfM mtM mhM mmM mdM mxM mnM szM faM apM waM wrM fuM) t) A) ([.ref (adM 0), .int p1, .int p2] : List Value).toArray s 0 0 A) (F0 m 17 ls [])) := ⟨_, rfl⟩
  have s17 : ∀ (v3 : Int32) (v4 : Int32), ((p2 ≤ v4 → post v3 ()) ∧ (¬ p2 ≤ v4 → ((v3 < 0 → post v3 ()) ∧ (¬ v3 < 0 → (vp_in v4 2000 ∧ ((((mxM v4.toNatClampNeg) - 48) < 0 → A17 (-1) (v4 + 1)) ∧ (¬ ((mxM v4.toNatClampNeg) - 48) < 0 → ((((mxM v4.toNatClampNeg) - 48) ≤ 9 → A17 ((10 * v3) + ((mxM v4.toNatClampNeg) - 48)) (v4 + 1)) ∧ (¬ ((mxM v4.toNatClampNeg) - 48) ≤ 9 → A17 (-1) (v4 + 1)))))))))) → A17 v3 v4 := by
    intro v3 v4 h
    rw [hA17]
    intro H locs hP hD hS ls hl
    refine lv_iload hx hb dX6_numberOf_17 (lv_at hl 3 rfl) ?_
    refine lv_iload_n hx hb dX6_numberOf_19 rfl (lv_at hl 1 rfl) ?_
    refine lv_icmp_ge (tgt := 69) hx hb dX6_numberOf_20 (by decide) (fun c_2 => ?_) (fun c_2 => ?_)
    · have h := h.1 c_2
      refine lv_iload_n hx hb dX6_numberOf_69 rfl (lv_at hl 2 rfl) ?_
      exact W.iret (v := v3) hx hb hr (fun t ht hW => ⟨⟨v3, (), rfl, h, by rw [ht]; exact hP, va_K.moved hW.alike hK, hD⟩, hS.F ht⟩) hS.2.2 dX6_numberOf_70
    · have h := h.2 c_2
      refine lv_iload_n hx hb dX6_numberOf_23 rfl (lv_at hl 2 rfl) ?_
      refine lv_if_lt (tgt := 69) hx hb dX6_numberOf_24 (by decide) (fun c_3 => ?_) (fun c_3 => ?_)
      · have h := h.1 c_3
        refine lv_iload_n hx hb dX6_numberOf_69 rfl (lv_at hl 2 rfl) ?_
        exact W.iret (v := v3) hx hb hr (fun t ht hW => ⟨⟨v3, (), rfl, h, by rw [ht]; exact hP, va_K.moved hW.alike hK, hD⟩, hS.F ht⟩) hS.2.2 dX6_numberOf_70
      · have h := h.2 c_3
        refine lv_aload_n hx hb dX6_numberOf_27 rfl (lv_at hl 0 rfl) ?_
        refine va_get (D := D) (ci := 5) (v := .ref (adM 11)) (C := RX6) (T := TX6) (N := 18) hx hb hts (by decide +kernel) hown hK hP 0 rfl rfl 10 (by decide) (hts (.fieldLink RX6 41 "PartGraphsModel" "text" "[B") (by decide +kernel)) (fun _ h9 => h9) rfl dX6_numberOf_28 ?_
        refine lv_iload hx hb dX6_numberOf_31 (lv_at hl 3 rfl) ?_
        have hin := h.1
        have h := h.2
        refine va_bald (D := D) (cl := vwCl) hx hb hK hP 11 3 rfl rfl hin dX6_numberOf_33 ?_
        refine lv_bipush (v := 48) hx hb dX6_numberOf_34 (by decide) ?_
        refine lv_isub hx hb dX6_numberOf_36 ?_
        refine lv_istore (lv' := [(5, .int ((mxM v4.toNatClampNeg) - 48)), (0, .ref (adM 0)), (2, .int p2), (3, .int v3), (4, .int v4)]) hx hb dX6_numberOf_37 hl (by decide) rfl (fun ls hl => ?_)
        refine lv_iload hx hb dX6_numberOf_39 (lv_at hl 0 rfl) ?_
        refine lv_if_lt (tgt := 51) hx hb dX6_numberOf_41 (by decide) (fun c_4 => ?_) (fun c_4 => ?_)
        · have h := h.1 c_4
          refine lv_iconst (v := (-1)) hx hb dX6_numberOf_51 (by decide) ?_
          refine lv_goto (tgt := 62) hx hb dX6_numberOf_52 (by decide) ?_
          refine lv_istore_n (lv' := [(3, .int (-1)), (5, .int ((mxM v4.toNatClampNeg) - 48)), (0, .ref (adM 0)), (2, .int p2), (4, .int v4)]) hx hb dX6_numberOf_62 rfl hl (by decide) rfl (fun ls hl => ?_)
          refine lv_iinc (v := v4 + 1) (lv' := [(4, .int (v4 + 1)), (3, .int (-1)), (5, .int ((mxM v4.toNatClampNeg) - 48)), (0, .ref (adM 0)), (2, .int p2)]) hx hb dX6_numberOf_63 hl (k := 4) rfl rfl (by decide) rfl (fun ls hl => ?_)
          refine lv_goto (tgt := 17) hx hb dX6_numberOf_66 (by decide) ?_
          rw [hA17] at h
          exact h _ _ hP hD hS ls (lv_sub hl [3, 4, 1, 0] rfl)
        · have h := h.2 c_4
          refine lv_iload hx hb dX6_numberOf_44 (lv_at hl 0 rfl) ?_
          refine lv_bipush (v := 9) hx hb dX6_numberOf_46 (by decide) ?_
          refine lv_icmp_le (tgt := 55) hx hb dX6_numberOf_48 (by decide) (fun c_5 => ?_) (fun c_5 => ?_)
          · have h := h.1 c_5
            refine lv_bipush (v := 10) hx hb dX6_numberOf_55 (by decide) ?_
            refine lv_iload_n hx hb dX6_numberOf_57 rfl (lv_at hl 3 rfl) ?_
            refine lv_imul hx hb dX6_numberOf_58 ?_
            refine lv_iload hx hb dX6_numberOf_59 (lv_at hl 0 rfl) ?_
            refine lv_iadd hx hb dX6_numberOf_61 ?_
            refine lv_istore_n (lv' := [(3, .int ((10 * v3) + ((mxM v4.toNatClampNeg) - 48))), (5, .int ((mxM v4.toNatClampNeg) - 48)), (0, .ref (adM 0)), (2, .int p2), (4, .int v4)]) hx hb dX6_numberOf_62 rfl hl (by decide) rfl (fun ls hl => ?_)
            refine lv_iinc (v := v4 + 1) (lv' := [(4, .int (v4 + 1)), (3, .int ((10 * v3) + ((mxM v4.toNatClampNeg) - 48))), (5, .int ((mxM v4.toNatClampNeg) - 48)), (0, .ref (adM 0)), (2, .int p2)]) hx hb dX6_numberOf_63 hl (k := 4) rfl rfl (by decide) rfl (fun ls hl => ?_)
            refine lv_goto (tgt := 17) hx hb dX6_numberOf_66 (by decide) ?_
            rw [hA17] at h
            exact h _ _ hP hD hS ls (lv_sub hl [3, 4, 1, 0] rfl)
          · have h := h.2 c_5
            refine lv_iconst (v := (-1)) hx hb dX6_numberOf_51 (by decide) ?_
            refine lv_goto (tgt := 62) hx hb dX6_numberOf_52 (by decide) ?_
            refine lv_istore_n (lv' := [(3, .int (-1)), (5, .int ((mxM v4.toNatClampNeg) - 48)), (0, .ref (adM 0)), (2, .int p2), (4, .int v4)]) hx hb dX6_numberOf_62 rfl hl (by decide) rfl (fun ls hl => ?_)
            refine lv_iinc (v := v4 + 1) (lv' := [(4, .int (v4 + 1)), (3, .int (-1)), (5, .int ((mxM v4.toNatClampNeg) - 48)), (0, .ref (adM 0)), (2, .int p2)]) hx hb dX6_numberOf_63 hl (k := 4) rfl rfl (by decide) rfl (fun ls hl => ?_)
            refine lv_goto (tgt := 17) hx hb dX6_numberOf_66 (by decide) ?_
            rw [hA17] at h
            exact h _ _ hP hD hS ls (lv_sub hl [3, 4, 1, 0] rfl)
  have h := h A17 s17
  refine lv_iload_n hx hb dX6_numberOf_0 rfl (lv_at hl 2 rfl) ?_
  refine lv_iload_n hx hb dX6_numberOf_1 rfl (lv_at hl 1 rfl) ?_
  refine lv_isub hx hb dX6_numberOf_2 ?_
  refine lv_bipush (v := 9) hx hb dX6_numberOf_3 (by decide) ?_
  refine lv_icmp_le (tgt := 12) hx hb dX6_numberOf_5 (by decide) (fun c_1 => ?_) (fun c_1 => ?_)
  · have h := h.1 c_1
    refine lv_iconst (v := 0) hx hb dX6_numberOf_12 (by decide) ?_
    refine lv_istore_n (lv' := [(3, .int 0), (0, .ref (adM 0)), (1, .int p1), (2, .int p2)]) hx hb dX6_numberOf_13 rfl hl (by decide) rfl (fun ls hl => ?_)
    refine lv_iload_n hx hb dX6_numberOf_14 rfl (lv_at hl 2 rfl) ?_
    refine lv_istore (lv' := [(4, .int p1), (3, .int 0), (0, .ref (adM 0)), (1, .int p1), (2, .int p2)]) hx hb dX6_numberOf_15 hl (by decide) rfl (fun ls hl => ?_)
    rw [hA17] at h
    exact h _ _ hP hD hS ls (lv_sub hl [2, 4, 1, 0] rfl)
  · have h := h.2 c_1
    refine lv_iconst (v := (-1)) hx hb dX6_numberOf_8 (by decide) ?_
    refine lv_goto (tgt := 13) hx hb dX6_numberOf_9 (by decide) ?_
    refine lv_istore_n (lv' := [(3, .int (-1)), (0, .ref (adM 0)), (1, .int p1), (2, .int p2)]) hx hb dX6_numberOf_13 rfl hl (by decide) rfl (fun ls hl => ?_)
    refine lv_iload_n hx hb dX6_numberOf_14 rfl (lv_at hl 2 rfl) ?_
    refine lv_istore (lv' := [(4, .int p1), (3, .int (-1)), (0, .ref (adM 0)), (1, .int p1), (2, .int p2)]) hx hb dX6_numberOf_15 hl (by decide) rfl (fun ls hl => ?_)
    rw [hA17] at h
    exact h _ _ hP hD hS ls (lv_sub hl [2, 4, 1, 0] rfl)
