def wp_X6_isPlain (mpM : Nat → Int32) (mcM : Nat → Int32) (p1 : Int32) (p2 : Int64) (post : Int32 → Unit → Prop) : Prop :=
    ∀ (A18 : Int32 → Int32 → Prop),
    (∀ (v4 : Int32) (v5 : Int32), (vp_in 0 2 ∧ (((mpM (0 : Int32).toNatClampNeg) ≤ v5 → (narrow .boolean (.int v4) = .int v4 ∧ post v4 ())) ∧ (¬ (mpM (0 : Int32).toNatClampNeg) ≤ v5 → ((v4 = 0 → A18 0 (v5 + 1)) ∧ (¬ v4 = 0 → (vp_in ((10 * v5) + p1) 200 ∧ (((mcM ((10 * v5) + p1).toNatClampNeg) = 0 → A18 1 (v5 + 1)) ∧ (¬ (mcM ((10 * v5) + p1).toNatClampNeg) = 0 → wp_X6_isOff p2 v5 (fun r_6 _ => ((r_6 = 0 → A18 0 (v5 + 1)) ∧ (¬ r_6 = 0 → A18 1 (v5 + 1)))))))))))) → A18 v4 v5) →
    wp_X6_isOff p2 p1 (fun r_1 _ => ((r_1 = 0 → A18 1 0) ∧ (¬ r_1 = 0 → A18 0 0)))
set_option maxHeartbeats 4000000 in
set_option maxRecDepth 100000 in
theorem met_X6_isPlain (l : Launch) (D : va_G) (cs : Nat → ClassId) (ev : Nat → Nat → Nat) (sz0 : Nat) (adM : Nat → Nat) (mpM : Nat → Int32) (mkM : Nat → Int32) (mgM : Nat → Int32) (mcM : Nat → Int32) (mwM : Nat → Int32) (mfM : Nat → Int32) (mtM : Nat → Int32) (mhM : Nat → Int32) (mmM : Nat → Int32) (mdM : Nat → Int32) (mxM : Nat → Int32) (mnM : Nat → Int32) (szM : Int32) (faM : Int32) (apM : Int32) (waM : Int32) (wrM : Int32) (fuM : Int32) (p1 : Int32) (p2 : Int64) (post : Int32 → Unit → Prop) (h : wp_X6_isPlain mpM mcM p1 p2 post) : Met l yX6_isPlain wsX6_isPlain ({ frames := 1, cells := 0, slots := 0, locals := 22 }) (va_Pc [.ref (adM 0), .int p1, .long p2] (mPre D cs ev (sh_M cs adM mpM mkM mgM mcM mwM mfM mtM mhM mmM mdM mxM mnM szM faM apM waM wrM fuM) sz0)) (va_Qi post (fun _ t => mAt D cs (va_A (sh_M cs adM mpM mkM mgM mcM mwM mfM mtM mhM mmM mdM mxM mnM szM faM apM waM wrM fuM) sz0) (sh_M cs adM mpM mkM mgM mcM mwM mfM mtM mhM mmM mdM mxM mnM szM faM apM waM wrM fuM) t) (va_A (sh_M cs adM mpM mkM mgM mcM mwM mfM mtM mhM mmM mdM mxM mnM szM faM apM waM wrM fuM) sz0)) 0 0 (va_A (sh_M cs adM mpM mkM mgM mcM mwM mfM mtM mhM mmM mdM mxM mnM szM faM apM waM wrM fuM) sz0) := by
  refine Met.ofW (cc := cX6_isPlain) (maxL := 6) (ret := (some .boolean)) (by decide) rfl ?_
  intro p e s m args below meth c s₁ B hml hv
  obtain ⟨rfl, hsz, hP, hK, hD0, hE⟩ := hv
  have hx := B.exec
  have hb := B.bytes
  have hr := B.returns
  have hts := atoms_spec (ws := wsX6_isPlain) B.pre
  have hown : s.vm.findClass RX6 = some m.cls := findClass_of_methodNamed B.named
  have hlocks := B.notSynchronized
  subst hsz
  have hD := hD0.self (sz := s.heap.size)
  generalize hAe : va_A (sh_M cs adM mpM mkM mgM mcM mwM mfM mtM mhM mmM mdM mxM mnM szM faM apM waM wrM fuM) s.heap.size = A at hD hE ⊢
  have hA : ∀ q : Nat, s.heap.size ≤ q → A q := fun q h => by rw [← hAe]; exact Or.inr h
  have hS : va_S A s.heap s.heap [] := va_S.rf
  have hl := lv_entry ([.ref (adM 0), .int p1, .long p2]) (n := 6) (Nat.le_of_ble_eq_true rfl)
  rw [lg_entry_eq]
  generalize (lg_sl ([.ref (adM 0), .int p1, .long p2]) ++ List.replicate (6 - (lg_sl ([.ref (adM 0), .int p1, .long p2])).length) Slot.unset).toArray = ls at hl ⊢
  have hl : lv_has ls 6 [(0, .ref (adM 0)), (1, .int p1), (2, .long p2)] := hl
  obtain ⟨A18, hA18⟩ : ∃ Q : Int32 → Int32 → Prop, Q = (fun v4 v5 => ∀ (H : Heap) (locs : List Loc), va_P D vwCl (sh_M cs adM mpM mkM mgM mcM mwM mfM mtM mhM mmM mdM mxM mnM szM faM apM waM wrM fuM) H → va_D A (sh_M cs adM mpM mkM mgM mcM mwM mfM mtM mhM mmM mdM mxM mnM szM faM apM waM wrM fuM) → va_S A s.heap H locs → ∀ ls : Array Slot, lv_has ls 6 [(0, .ref (adM 0)), (1, .int p1), (2, .long p2), (4, .int v4), (5, .int v5)] → W p l e (headSpec wsX6_isPlain ({ frames := 1, cells := 0, slots := 0, locals := 22 })).room s m ([.ref (adM 0), .int p1, .long p2] : List Value).toArray below meth c H locs 0 0 (MQ below (va_Qi post (fun _ t => mAt D cs (A) (sh_M cs adM mpM mkM mgM mcM mwM mfM mtM mhM mmM mdM mxM mnM szM faM apM waM wrM fuM) t) A) ([.ref (adM 0), .int p1, .long p2] : List Value).toArray s 0 0 A) (F0 m 18 ls [])) := ⟨_, rfl⟩
  have s18 : ∀ (v4 : Int32) (v5 : Int32), (vp_in 0 2 ∧ (((mpM (0 : Int32).toNatClampNeg) ≤ v5 → (narrow .boolean (.int v4) = .int v4 ∧ post v4 ())) ∧ (¬ (mpM (0 : Int32).toNatClampNeg) ≤ v5 → ((v4 = 0 → A18 0 (v5 + 1)) ∧ (¬ v4 = 0 → (vp_in ((10 * v5) + p1) 200 ∧ (((mcM ((10 * v5) + p1).toNatClampNeg) = 0 → A18 1 (v5 + 1)) ∧ (¬ (mcM ((10 * v5) + p1).toNatClampNeg) = 0 → wp_X6_isOff p2 v5 (fun r_6 _ => ((r_6 = 0 → A18 0 (v5 + 1)) ∧ (¬ r_6 = 0 → A18 1 (v5 + 1)))))))))))) → A18 v4 v5 := by
    intro v4 v5 h
    rw [hA18]
    intro H locs hP hD hS ls hl
    refine lv_iload hx hb dX6_isPlain_18 (lv_at hl 4 rfl) ?_
    refine lv_aload_n hx hb dX6_isPlain_20 rfl (lv_at hl 0 rfl) ?_
    refine va_get (D := D) (ci := 5) (v := .ref (adM 1)) (C := RX6) (T := TX6) (N := 18) hx hb hts (by decide +kernel) hown hK hP 0 rfl rfl 0 (by decide) (hts (.fieldLink RX6 7 "PartGraphsModel" "parts" "[I") (by decide +kernel)) (fun _ h9 => h9) rfl dX6_isPlain_21 ?_
    refine lv_iconst (v := 0) hx hb dX6_isPlain_24 (by decide) ?_
    have hin := h.1
    have h := h.2
    refine va_iald (D := D) (cl := vwCl) hx hb hK hP 1 0 rfl rfl hin dX6_isPlain_25 ?_
    refine lv_icmp_ge (tgt := 71) hx hb dX6_isPlain_26 (by decide) (fun c_3 => ?_) (fun c_3 => ?_)
    · have h := h.1 c_3
      refine lv_iload hx hb dX6_isPlain_71 (lv_at hl 3 rfl) ?_
      have hn := h.1
      have h := h.2
      exact W.zret (v := v4) hx hb hr hn (fun t ht hW => ⟨⟨v4, (), rfl, h, by rw [ht]; exact hP, va_K.moved hW.alike hK, hD⟩, hS.F ht⟩) hS.2.2 dX6_isPlain_73
    · have h := h.2 c_3
      refine lv_iload hx hb dX6_isPlain_29 (lv_at hl 3 rfl) ?_
      refine lv_if_eq (tgt := 62) hx hb dX6_isPlain_31 (by decide) (fun c_4 => ?_) (fun c_4 => ?_)
      · have h := h.1 c_4
        refine lv_iconst (v := 0) hx hb dX6_isPlain_62 (by decide) ?_
        refine lv_istore (lv' := [(4, .int 0), (0, .ref (adM 0)), (1, .int p1), (2, .long p2), (5, .int v5)]) hx hb dX6_isPlain_63 hl (by decide) rfl (fun ls hl => ?_)
        refine lv_iinc (v := v5 + 1) (lv' := [(5, .int (v5 + 1)), (4, .int 0), (0, .ref (adM 0)), (1, .int p1), (2, .long p2)]) hx hb dX6_isPlain_65 hl (k := 4) rfl rfl (by decide) rfl (fun ls hl => ?_)
        refine lv_goto (tgt := 18) hx hb dX6_isPlain_68 (by decide) ?_
        rw [hA18] at h
        exact h _ _ hP hD hS ls (lv_sub hl [2, 3, 4, 1, 0] rfl)
      · have h := h.2 c_4
        refine lv_aload_n hx hb dX6_isPlain_34 rfl (lv_at hl 0 rfl) ?_
        refine va_get (D := D) (ci := 5) (v := .ref (adM 4)) (C := RX6) (T := TX6) (N := 18) hx hb hts (by decide +kernel) hown hK hP 0 rfl rfl 3 (by decide) (hts (.fieldLink RX6 19 "PartGraphsModel" "covers" "[Z") (by decide +kernel)) (fun _ h9 => h9) rfl dX6_isPlain_35 ?_
        refine lv_bipush (v := 10) hx hb dX6_isPlain_38 (by decide) ?_
        refine lv_iload hx hb dX6_isPlain_40 (lv_at hl 4 rfl) ?_
        refine lv_imul hx hb dX6_isPlain_42 ?_
        refine lv_iload_n hx hb dX6_isPlain_43 rfl (lv_at hl 1 rfl) ?_
        refine lv_iadd hx hb dX6_isPlain_44 ?_
        have hin := h.1
        have h := h.2
        refine va_zald (D := D) (cl := vwCl) hx hb hK hP 4 4 rfl rfl hin dX6_isPlain_45 ?_
        refine lv_if_eq (tgt := 58) hx hb dX6_isPlain_46 (by decide) (fun c_5 => ?_) (fun c_5 => ?_)
        · have h := h.1 c_5
          refine lv_iconst (v := 1) hx hb dX6_isPlain_58 (by decide) ?_
          refine lv_goto (tgt := 63) hx hb dX6_isPlain_59 (by decide) ?_
          refine lv_istore (lv' := [(4, .int 1), (0, .ref (adM 0)), (1, .int p1), (2, .long p2), (5, .int v5)]) hx hb dX6_isPlain_63 hl (by decide) rfl (fun ls hl => ?_)
          refine lv_iinc (v := v5 + 1) (lv' := [(5, .int (v5 + 1)), (4, .int 1), (0, .ref (adM 0)), (1, .int p1), (2, .long p2)]) hx hb dX6_isPlain_65 hl (k := 4) rfl rfl (by decide) rfl (fun ls hl => ?_)
          refine lv_goto (tgt := 18) hx hb dX6_isPlain_68 (by decide) ?_
          rw [hA18] at h
          exact h _ _ hP hD hS ls (lv_sub hl [2, 3, 4, 1, 0] rfl)
        · have h := h.2 c_5
          refine lv_lload_n hx hb dX6_isPlain_49 rfl (lv_at hl 2 rfl) ?_
          refine lv_iload hx hb dX6_isPlain_50 (lv_at hl 4 rfl) ?_
          have hFc := va_free (wc := ([] : va_W)) hD hS hA [] rfl
          refine va_calli (va_runS (As := [.long p2, .int v5]) (rest := []) ⟨hx, hb, hml, hown, hts⟩ (met_X6_isOff l D cs ev _ p2 v5 _ h) (va_cwS 2 hts gX6_isPlain_X6_isOff rfl rfl rfl (by decide +kernel) ⟨Nat.le_of_ble_eq_true rfl, Nat.le_of_ble_eq_true rfl⟩) (mPreS hP hD hS hK hE hFc [] (by decide) rfl) rfl rfl hl.1 rfl (lv_room (Nat.le_of_ble_eq_true rfl)) dX6_isPlain_52 ⟨Nat.le_of_ble_eq_true rfl, Nat.le_of_ble_eq_true rfl⟩) hS (fun q _ h => hFc q h) hFc (fun r_6 u t H1 locs ht hvm hw hB hz1 hk1 hS => ?_)
          have h := hw
          obtain ⟨hP1, hK1, hD1⟩ := hB
          rw [ht] at hP1
          obtain ⟨hP, hD⟩ := mJoin (wr := (sh_M cs adM mpM mkM mgM mcM mwM mfM mtM mhM mmM mdM mxM mnM szM faM apM waM wrM fuM)) (w1 := ([] : va_W)) (w' := (sh_M cs adM mpM mkM mgM mcM mwM mfM mtM mhM mmM mdM mxM mnM szM faM apM waM wrM fuM)) hP hD [] [0, 1, 2, 3, 4, 5, 6, 7, 8, 9, 10, 11, 12] rfl rfl (by decide) (by decide) hk1 hFc hP1 hD1 [0, 1, 2, 3, 4, 5, 6, 7, 8, 9, 10, 11, 12] (by decide) rfl
          generalize H1 = H at hP hS ⊢
          refine lv_if_eq (tgt := 62) hx hb dX6_isPlain_55 (by decide) (fun c_7 => ?_) (fun c_7 => ?_)
          · have h := h.1 c_7
            refine lv_iconst (v := 0) hx hb dX6_isPlain_62 (by decide) ?_
            refine lv_istore (lv' := [(4, .int 0), (0, .ref (adM 0)), (1, .int p1), (2, .long p2), (5, .int v5)]) hx hb dX6_isPlain_63 hl (by decide) rfl (fun ls hl => ?_)
            refine lv_iinc (v := v5 + 1) (lv' := [(5, .int (v5 + 1)), (4, .int 0), (0, .ref (adM 0)), (1, .int p1), (2, .long p2)]) hx hb dX6_isPlain_65 hl (k := 4) rfl rfl (by decide) rfl (fun ls hl => ?_)
            refine lv_goto (tgt := 18) hx hb dX6_isPlain_68 (by decide) ?_
            rw [hA18] at h
            exact h _ _ hP hD hS ls (lv_sub hl [2, 3, 4, 1, 0] rfl)
          · have h := h.2 c_7
            refine lv_iconst (v := 1) hx hb dX6_isPlain_58 (by decide) ?_
            refine lv_goto (tgt := 63) hx hb dX6_isPlain_59 (by decide) ?_
            refine lv_istore (lv' := [(4, .int 1), (0, .ref (adM 0)), (1, .int p1), (2, .long p2), (5, .int v5)]) hx hb dX6_isPlain_63 hl (by decide) rfl (fun ls hl => ?_)
            refine lv_iinc (v := v5 + 1) (lv' := [(5, .int (v5 + 1)), (4, .int 1), (0, .ref (adM 0)), (1, .int p1), (2, .long p2)]) hx hb dX6_isPlain_65 hl (k := 4) rfl rfl (by decide) rfl (fun ls hl => ?_)
            refine lv_goto (tgt := 18) hx hb dX6_isPlain_68 (by decide) ?_
            rw [hA18] at h
            exact h _ _ hP hD hS ls (lv_sub hl [2, 3, 4, 1, 0] rfl)
  have h := h A18 s18
  refine lv_lload_n hx hb dX6_isPlain_0 rfl (lv_at hl 2 rfl) ?_
  refine lv_iload_n hx hb dX6_isPlain_1 rfl (lv_at hl 1 rfl) ?_
  have hFc := va_free (wc := ([] : va_W)) hD hS hA [] rfl
  refine va_calli (va_runS (As := [.long p2, .int p1]) (rest := []) ⟨hx, hb, hml, hown, hts⟩ (met_X6_isOff l D cs ev _ p2 p1 _ h) (va_cwS 2 hts gX6_isPlain_X6_isOff rfl rfl rfl (by decide +kernel) ⟨Nat.le_of_ble_eq_true rfl, Nat.le_of_ble_eq_true rfl⟩) (mPreS hP hD hS hK hE hFc [] (by decide) rfl) rfl rfl hl.1 rfl (lv_room (Nat.le_of_ble_eq_true rfl)) dX6_isPlain_2 ⟨Nat.le_of_ble_eq_true rfl, Nat.le_of_ble_eq_true rfl⟩) hS (fun q _ h => hFc q h) hFc (fun r_1 u t H1 locs ht hvm hw hB hz1 hk1 hS => ?_)
  have h := hw
  obtain ⟨hP1, hK1, hD1⟩ := hB
  rw [ht] at hP1
  obtain ⟨hP, hD⟩ := mJoin (wr := (sh_M cs adM mpM mkM mgM mcM mwM mfM mtM mhM mmM mdM mxM mnM szM faM apM waM wrM fuM)) (w1 := ([] : va_W)) (w' := (sh_M cs adM mpM mkM mgM mcM mwM mfM mtM mhM mmM mdM mxM mnM szM faM apM waM wrM fuM)) hP hD [] [0, 1, 2, 3, 4, 5, 6, 7, 8, 9, 10, 11, 12] rfl rfl (by decide) (by decide) hk1 hFc hP1 hD1 [0, 1, 2, 3, 4, 5, 6, 7, 8, 9, 10, 11, 12] (by decide) rfl
  generalize H1 = H at hP hS ⊢
  refine lv_if_ne (tgt := 12) hx hb dX6_isPlain_5 (by decide) (fun c_2 => ?_) (fun c_2 => ?_)
  · have h := h.2 c_2
    refine lv_iconst (v := 0) hx hb dX6_isPlain_12 (by decide) ?_
    refine lv_istore (lv' := [(4, .int 0), (0, .ref (adM 0)), (1, .int p1), (2, .long p2)]) hx hb dX6_isPlain_13 hl (by decide) rfl (fun ls hl => ?_)
    refine lv_iconst (v := 0) hx hb dX6_isPlain_15 (by decide) ?_
    refine lv_istore (lv' := [(5, .int 0), (4, .int 0), (0, .ref (adM 0)), (1, .int p1), (2, .long p2)]) hx hb dX6_isPlain_16 hl (by decide) rfl (fun ls hl => ?_)
    rw [hA18] at h
    exact h _ _ hP hD hS ls (lv_sub hl [2, 3, 4, 1, 0] rfl)
  · have h := h.1 c_2
    refine lv_iconst (v := 1) hx hb dX6_isPlain_8 (by decide) ?_
    refine lv_goto (tgt := 13) hx hb dX6_isPlain_9 (by decide) ?_
    refine lv_istore (lv' := [(4, .int 1), (0, .ref (adM 0)), (1, .int p1), (2, .long p2)]) hx hb dX6_isPlain_13 hl (by decide) rfl (fun ls hl => ?_)
    refine lv_iconst (v := 0) hx hb dX6_isPlain_15 (by decide) ?_
    refine lv_istore (lv' := [(5, .int 0), (4, .int 1), (0, .ref (adM 0)), (1, .int p1), (2, .long p2)]) hx hb dX6_isPlain_16 hl (by decide) rfl (fun ls hl => ?_)
    rw [hA18] at h
    exact h _ _ hP hD hS ls (lv_sub hl [2, 3, 4, 1, 0] rfl)
def wp_X6_isFree (mpM : Nat → Int32) (mcM : Nat → Int32) (mwM : Nat → Int32) (p1 : Int32) (p2 : Int64) (post : Int32 → Unit → Prop) : Prop :=
    ∀ (A6 : Int32 → Int32 → Prop) (A19 : Int32 → Int32 → Int32 → Int32 → Prop),
    (∀ (v4 : Int32) (v5 : Int32), ((6 ≤ v5 → ((v4 = 0 → post 0 ()) ∧ (¬ v4 = 0 → wp_X6_isPlain mpM mcM p1 p2 (fun r_3 _ => ((r_3 = 0 → post 0 ()) ∧ (¬ r_3 = 0 → post 1 ())))))) ∧ (¬ 6 ≤ v5 → A19 v4 v5 1 0)) → A6 v4 v5) →
    (∀ (v4 : Int32) (v5 : Int32) (v6 : Int32) (v7 : Int32), (vp_in 0 2 ∧ (((mpM (0 : Int32).toNatClampNeg) ≤ v7 → ((v4 = 0 → ((v6 = 0 → A6 0 (v5 + 1)) ∧ (¬ v6 = 0 → A6 1 (v5 + 1)))) ∧ (¬ v4 = 0 → A6 1 (v5 + 1)))) ∧ (¬ (mpM (0 : Int32).toNatClampNeg) ≤ v7 → ((v6 = 0 → A19 v4 v5 0 (v7 + 1)) ∧ (¬ v6 = 0 → wp_X6_wayAt 0 p1 v5 v7 (fun r_9 _ => (vp_in r_9 1200 ∧ (((mwM r_9.toNatClampNeg) = 0 → A19 v4 v5 1 (v7 + 1)) ∧ (¬ (mwM r_9.toNatClampNeg) = 0 → wp_X6_isOff p2 v7 (fun r_11 _ => ((r_11 = 0 → A19 v4 v5 0 (v7 + 1)) ∧ (¬ r_11 = 0 → A19 v4 v5 1 (v7 + 1))))))))))))) → A19 v4 v5 v6 v7) →
    A6 0 0
set_option maxHeartbeats 4000000 in
set_option maxRecDepth 100000 in
theorem met_X6_isFree (l : Launch) (D : va_G) (cs : Nat → ClassId) (ev : Nat → Nat → Nat) (sz0 : Nat) (adM : Nat → Nat) (mpM : Nat → Int32) (mkM : Nat → Int32) (mgM : Nat → Int32) (mcM : Nat → Int32) (mwM : Nat → Int32) (mfM : Nat → Int32) (mtM : Nat → Int32) (mhM : Nat → Int32) (mmM : Nat → Int32) (mdM : Nat → Int32) (mxM : Nat → Int32) (mnM : Nat → Int32) (szM : Int32) (faM : Int32) (apM : Int32) (waM : Int32) (wrM : Int32) (fuM : Int32) (p1 : Int32) (p2 : Int64) (post : Int32 → Unit → Prop) (h : wp_X6_isFree mpM mcM mwM p1 p2 post) : Met l yX6_isFree wsX6_isFree ({ frames := 2, cells := 0, slots := 0, locals := 47 }) (va_Pc [.ref (adM 0), .int p1, .long p2] (mPre D cs ev (sh_M cs adM mpM mkM mgM mcM mwM mfM mtM mhM mmM mdM mxM mnM szM faM apM waM wrM fuM) sz0)) (va_Qi post (fun _ t => mAt D cs (va_A (sh_M cs adM mpM mkM mgM mcM mwM mfM mtM mhM mmM mdM mxM mnM szM faM apM waM wrM fuM) sz0) (sh_M cs adM mpM mkM mgM mcM mwM mfM mtM mhM mmM mdM mxM mnM szM faM apM waM wrM fuM) t) (va_A (sh_M cs adM mpM mkM mgM mcM mwM mfM mtM mhM mmM mdM mxM mnM szM faM apM waM wrM fuM) sz0)) 0 0 (va_A (sh_M cs adM mpM mkM mgM mcM mwM mfM mtM mhM mmM mdM mxM mnM szM faM apM waM wrM fuM) sz0) := by
  refine Met.ofW (cc := cX6_isFree) (maxL := 8) (ret := (some .boolean)) (by decide) rfl ?_
  intro p e s m args below meth c s₁ B hml hv
  obtain ⟨rfl, hsz, hP, hK, hD0, hE⟩ := hv
  have hx := B.exec
  have hb := B.bytes
  have hr := B.returns
  have hts := atoms_spec (ws := wsX6_isFree) B.pre
  have hown : s.vm.findClass RX6 = some m.cls := findClass_of_methodNamed B.named
  have hlocks := B.notSynchronized
  subst hsz
  have hD := hD0.self (sz := s.heap.size)
  generalize hAe : va_A (sh_M cs adM mpM mkM mgM mcM mwM mfM mtM mhM mmM mdM mxM mnM szM faM apM waM wrM fuM) s.heap.size = A at hD hE ⊢
  have hA : ∀ q : Nat, s.heap.size ≤ q → A q := fun q h => by rw [← hAe]; exact Or.inr h
  have hS : va_S A s.heap s.heap [] := va_S.rf
  have hl := lv_entry ([.ref (adM 0), .int p1, .long p2]) (n := 8) (Nat.le_of_ble_eq_true rfl)
  rw [lg_entry_eq]
  generalize (lg_sl ([.ref (adM 0), .int p1, .long p2]) ++ List.replicate (8 - (lg_sl ([.ref (adM 0), .int p1, .long p2])).length) Slot.unset).toArray = ls at hl ⊢
  have hl : lv_has ls 8 [(0, .ref (adM 0)), (1, .int p1), (2, .long p2)] := hl
  obtain ⟨A6, hA6⟩ : ∃ Q : Int32 → Int32 → Prop, Q = (fun v4 v5 => ∀ (H : Heap) (locs : List Loc), va_P D vwCl (sh_M cs adM mpM mkM mgM mcM mwM mfM mtM mhM mmM mdM mxM mnM szM faM apM waM wrM fuM) H → va_D A (sh_M cs adM mpM mkM mgM mcM mwM mfM mtM mhM mmM mdM mxM mnM szM faM apM waM wrM fuM) → va_S A s.heap H locs → ∀ ls : Array Slot, lv_has ls 8 [(0, .ref (adM 0)), (1, .int p1), (2, .long p2), (4, .int v4), (5, .int v5)] → W p l e (headSpec wsX6_isFree ({ frames := 2, cells := 0, slots := 0, locals := 47 })).room s m ([.ref (adM 0), .int p1, .long p2] : List Value).toArray below meth c H locs 0 0 (MQ below (va_Qi post (fun _ t => mAt D cs (A) (sh_M cs adM mpM mkM mgM mcM mwM mfM mtM mhM mmM mdM mxM mnM szM faM apM waM wrM fuM) t) A) ([.ref (adM 0), .int p1, .long p2] : List Value).toArray s 0 0 A) (F0 m 6 ls [])) := ⟨_, rfl⟩
  obtain ⟨A19, hA19⟩ : ∃ Q : Int32 → Int32 → Int32 → Int32 → Prop, Q = (fun v4 v5 v6 v7 => ∀ (H : Heap) (locs : List Loc), va_P D vwCl (sh_M cs adM mpM mkM mgM mcM mwM mfM mtM mhM mmM mdM mxM mnM szM faM apM waM wrM fuM) H → va_D A (sh_M cs adM mpM mkM mgM mcM mwM mfM mtM mhM mmM mdM mxM mnM szM faM apM waM wrM fuM) → va_S A s.heap H locs → ∀ ls : Array Slot, lv_has ls 8 [(0, .ref (adM 0)), (1, .int p1), (2, .long p2), (4, .int v4), (5, .int v5), (6, .int v6), (7, .int v7)] → W p l e (headSpec wsX6_isFree ({ frames := 2, cells := 0, slots := 0, locals := 47 })).room s m ([.ref (adM 0), .int p1, .long p2] : List Value).toArray below meth c H locs 0 0 (MQ below (va_Qi post (fun _ t => mAt D cs (A) (sh_M cs adM mpM mkM mgM mcM mwM mfM mtM mhM mmM mdM mxM mnM szM faM apM waM wrM fuM) t) A) ([.ref (adM 0), .int p1, .long p2] : List Value).toArray s 0 0 A) (F0 m 19 ls [])) := ⟨_, rfl⟩
  have s6 : ∀ (v4 : Int32) (v5 : Int32), ((6 ≤ v5 → ((v4 = 0 → post 0 ()) ∧ (¬ v4 = 0 → wp_X6_isPlain mpM mcM p1 p2 (fun r_3 _ => ((r_3 = 0 → post 0 ()) ∧ (¬ r_3 = 0 → post 1 ())))))) ∧ (¬ 6 ≤ v5 → A19 v4 v5 1 0)) → A6 v4 v5 := by
    intro v4 v5 h
    rw [hA6]
    intro H locs hP hD hS ls hl
    refine lv_iload hx hb dX6_isFree_6 (lv_at hl 4 rfl) ?_
    refine lv_bipush (v := 6) hx hb dX6_isFree_8 (by decide) ?_
    refine lv_icmp_ge (tgt := 97) hx hb dX6_isFree_10 (by decide) (fun c_1 => ?_) (fun c_1 => ?_)
    · have h := h.1 c_1
      refine lv_iload hx hb dX6_isFree_97 (lv_at hl 3 rfl) ?_
      refine lv_if_eq (tgt := 115) hx hb dX6_isFree_99 (by decide) (fun c_2 => ?_) (fun c_2 => ?_)
      · have h := h.1 c_2
        refine lv_iconst (v := 0) hx hb dX6_isFree_115 (by decide) ?_
        exact W.zret (v := 0) hx hb hr (by decide) (fun t ht hW => ⟨⟨0, (), rfl, h, by rw [ht]; exact hP, va_K.moved hW.alike hK, hD⟩, hS.F ht⟩) hS.2.2 dX6_isFree_116
      · have h := h.2 c_2
        refine lv_aload_n hx hb dX6_isFree_102 rfl (lv_at hl 0 rfl) ?_
        refine lv_iload_n hx hb dX6_isFree_103 rfl (lv_at hl 1 rfl) ?_
        refine lv_lload_n hx hb dX6_isFree_104 rfl (lv_at hl 2 rfl) ?_
        have hFc := va_free (wc := (sh_M cs adM mpM mkM mgM mcM mwM mfM mtM mhM mmM mdM mxM mnM szM faM apM waM wrM fuM)) hD hS hA [0, 1, 2, 3, 4, 5, 6, 7, 8, 9, 10, 11, 12] rfl
        refine va_calli (va_runV (As := [.int p1, .long p2]) (rest := []) ⟨hx, hb, hml, hown, hts⟩ (met_X6_isPlain l D cs ev _ adM mpM mkM mgM mcM mwM mfM mtM mhM mmM mdM mxM mnM szM faM apM waM wrM fuM p1 p2 _ h) (cwV 2 hts gX6_isFree_X6_isPlain rfl rfl rfl (by decide +kernel) ⟨Nat.le_of_ble_eq_true rfl, Nat.le_of_ble_eq_true rfl⟩) (mPreV (va_recv hK hP (ci := 5) (q0 := 0) rfl rfl) hP hD hS hK hE hFc [0, 1, 2, 3, 4, 5, 6, 7, 8, 9, 10, 11, 12] (by decide) rfl) rfl rfl hl.1 rfl (lv_room (Nat.le_of_ble_eq_true rfl)) dX6_isFree_105 ⟨Nat.le_of_ble_eq_true rfl, Nat.le_of_ble_eq_true rfl⟩) hS (fun q _ h => hFc q h) hFc (fun r_3 u t H1 locs ht hvm hw hB hz1 hk1 hS => ?_)
        have h := hw
        obtain ⟨hP1, hK1, hD1⟩ := hB
        rw [ht] at hP1
        obtain ⟨hP, hD⟩ := mJoin (wr := ([] : va_W)) (w1 := (sh_M cs adM mpM mkM mgM mcM mwM mfM mtM mhM mmM mdM mxM mnM szM faM apM waM wrM fuM)) (w' := (sh_M cs adM mpM mkM mgM mcM mwM mfM mtM mhM mmM mdM mxM mnM szM faM apM waM wrM fuM)) hP hD [0, 1, 2, 3, 4, 5, 6, 7, 8, 9, 10, 11, 12] [] rfl rfl (by decide) (by decide) hk1 hFc hP1 hD1 [0, 1, 2, 3, 4, 5, 6, 7, 8, 9, 10, 11, 12] (by decide) rfl
        generalize H1 = H at hP hS ⊢
        refine lv_if_eq (tgt := 115) hx hb dX6_isFree_108 (by decide) (fun c_4 => ?_) (fun c_4 => ?_)
        · have h := h.1 c_4
          refine lv_iconst (v := 0) hx hb dX6_isFree_115 (by decide) ?_
          exact W.zret (v := 0) hx hb hr (by decide) (fun t ht hW => ⟨⟨0, (), rfl, h, by rw [ht]; exact hP, va_K.moved hW.alike hK, hD⟩, hS.F ht⟩) hS.2.2 dX6_isFree_116
        · have h := h.2 c_4
          refine lv_iconst (v := 1) hx hb dX6_isFree_111 (by decide) ?_
          refine lv_goto (tgt := 116) hx hb dX6_isFree_112 (by decide) ?_
          exact W.zret (v := 1) hx hb hr (by decide) (fun t ht hW => ⟨⟨1, (), rfl, h, by rw [ht]; exact hP, va_K.moved hW.alike hK, hD⟩, hS.F ht⟩) hS.2.2 dX6_isFree_116
    · have h := h.2 c_1
      refine lv_iconst (v := 1) hx hb dX6_isFree_13 (by decide) ?_
      refine lv_istore (lv' := [(6, .int 1), (0, .ref (adM 0)), (1, .int p1), (2, .long p2), (4, .int v4), (5, .int v5)]) hx hb dX6_isFree_14 hl (by decide) rfl (fun ls hl => ?_)
      refine lv_iconst (v := 0) hx hb dX6_isFree_16 (by decide) ?_
      refine lv_istore (lv' := [(7, .int 0), (6, .int 1), (0, .ref (adM 0)), (1, .int p1), (2, .long p2), (4, .int v4), (5, .int v5)]) hx hb dX6_isFree_17 hl (by decide) rfl (fun ls hl => ?_)
      rw [hA19] at h
      exact h _ _ hP hD hS ls (lv_sub hl [2, 3, 4, 5, 6, 1, 0] rfl)
  have s19 : ∀ (v4 : Int32) (v5 : Int32) (v6 : Int32) (v7 : Int32), (vp_in 0 2 ∧ (((mpM (0 : Int32).toNatClampNeg) ≤ v7 → ((v4 = 0 → ((v6 = 0 → A6 0 (v5 + 1)) ∧ (¬ v6 = 0 → A6 1 (v5 + 1)))) ∧ (¬ v4 = 0 → A6 1 (v5 + 1)))) ∧ (¬ (mpM (0 : Int32).toNatClampNeg) ≤ v7 → ((v6 = 0 → A19 v4 v5 0 (v7 + 1)) ∧ (¬ v6 = 0 → wp_X6_wayAt 0 p1 v5 v7 (fun r_9 _ => (vp_in r_9 1200 ∧ (((mwM r_9.toNatClampNeg) = 0 → A19 v4 v5 1 (v7 + 1)) ∧ (¬ (mwM r_9.toNatClampNeg) = 0 → wp_X6_isOff p2 v7 (fun r_11 _ => ((r_11 = 0 → A19 v4 v5 0 (v7 + 1)) ∧ (¬ r_11 = 0 → A19 v4 v5 1 (v7 + 1))))))))))))) → A19 v4 v5 v6 v7 := by
    intro v4 v5 v6 v7 h
    rw [hA19]
    intro H locs hP hD hS ls hl
    refine lv_iload hx hb dX6_isFree_19 (lv_at hl 6 rfl) ?_
    refine lv_aload_n hx hb dX6_isFree_21 rfl (lv_at hl 0 rfl) ?_
    refine va_get (D := D) (ci := 5) (v := .ref (adM 1)) (C := RX6) (T := TX6) (N := 18) hx hb hts (by decide +kernel) hown hK hP 0 rfl rfl 0 (by decide) (hts (.fieldLink RX6 7 "PartGraphsModel" "parts" "[I") (by decide +kernel)) (fun _ h9 => h9) rfl dX6_isFree_22 ?_
    refine lv_iconst (v := 0) hx hb dX6_isFree_25 (by decide) ?_
    have hin := h.1
    have h := h.2
    refine va_iald (D := D) (cl := vwCl) hx hb hK hP 1 0 rfl rfl hin dX6_isFree_26 ?_
    refine lv_icmp_ge (tgt := 74) hx hb dX6_isFree_27 (by decide) (fun c_5 => ?_) (fun c_5 => ?_)
    · have h := h.1 c_5
      refine lv_iload hx hb dX6_isFree_74 (lv_at hl 3 rfl) ?_
      refine lv_if_ne (tgt := 84) hx hb dX6_isFree_76 (by decide) (fun c_6 => ?_) (fun c_6 => ?_)
      · have h := h.2 c_6
        refine lv_iconst (v := 1) hx hb dX6_isFree_84 (by decide) ?_
        refine lv_goto (tgt := 89) hx hb dX6_isFree_85 (by decide) ?_
        refine lv_istore (lv' := [(4, .int 1), (0, .ref (adM 0)), (1, .int p1), (2, .long p2), (5, .int v5), (6, .int v6), (7, .int v7)]) hx hb dX6_isFree_89 hl (by decide) rfl (fun ls hl => ?_)
        refine lv_iinc (v := v5 + 1) (lv' := [(5, .int (v5 + 1)), (4, .int 1), (0, .ref (adM 0)), (1, .int p1), (2, .long p2), (6, .int v6), (7, .int v7)]) hx hb dX6_isFree_91 hl (k := 4) rfl rfl (by decide) rfl (fun ls hl => ?_)
        refine lv_goto (tgt := 6) hx hb dX6_isFree_94 (by decide) ?_
        rw [hA6] at h
        exact h _ _ hP hD hS ls (lv_sub hl [2, 3, 4, 1, 0] rfl)
      · have h := h.1 c_6
        refine lv_iload hx hb dX6_isFree_79 (lv_at hl 5 rfl) ?_
        refine lv_if_eq (tgt := 88) hx hb dX6_isFree_81 (by decide) (fun c_7 => ?_) (fun c_7 => ?_)
        · have h := h.1 c_7
          refine lv_iconst (v := 0) hx hb dX6_isFree_88 (by decide) ?_
          refine lv_istore (lv' := [(4, .int 0), (0, .ref (adM 0)), (1, .int p1), (2, .long p2), (5, .int v5), (6, .int v6), (7, .int v7)]) hx hb dX6_isFree_89 hl (by decide) rfl (fun ls hl => ?_)
          refine lv_iinc (v := v5 + 1) (lv' := [(5, .int (v5 + 1)), (4, .int 0), (0, .ref (adM 0)), (1, .int p1), (2, .long p2), (6, .int v6), (7, .int v7)]) hx hb dX6_isFree_91 hl (k := 4) rfl rfl (by decide) rfl (fun ls hl => ?_)
          refine lv_goto (tgt := 6) hx hb dX6_isFree_94 (by decide) ?_
          rw [hA6] at h
          exact h _ _ hP hD hS ls (lv_sub hl [2, 3, 4, 1, 0] rfl)
        · have h := h.2 c_7
          refine lv_iconst (v := 1) hx hb dX6_isFree_84 (by decide) ?_
          refine lv_goto (tgt := 89) hx hb dX6_isFree_85 (by decide) ?_
          refine lv_istore (lv' := [(4, .int 1), (0, .ref (adM 0)), (1, .int p1), (2, .long p2), (5, .int v5), (6, .int v6), (7, .int v7)]) hx hb dX6_isFree_89 hl (by decide) rfl (fun ls hl => ?_)
          refine lv_iinc (v := v5 + 1) (lv' := [(5, .int (v5 + 1)), (4, .int 1), (0, .ref (adM 0)), (1, .int p1), (2, .long p2), (6, .int v6), (7, .int v7)]) hx hb dX6_isFree_91 hl (k := 4) rfl rfl (by decide) rfl (fun ls hl => ?_)
          refine lv_goto (tgt := 6) hx hb dX6_isFree_94 (by decide) ?_
          rw [hA6] at h
          exact h _ _ hP hD hS ls (lv_sub hl [2, 3, 4, 1, 0] rfl)
    · have h := h.2 c_5
      refine lv_iload hx hb dX6_isFree_30 (lv_at hl 5 rfl) ?_
      refine lv_if_eq (tgt := 65) hx hb dX6_isFree_32 (by decide) (fun c_8 => ?_) (fun c_8 => ?_)
      · have h := h.1 c_8
        refine lv_iconst (v := 0) hx hb dX6_isFree_65 (by decide) ?_
        refine lv_istore (lv' := [(6, .int 0), (0, .ref (adM 0)), (1, .int p1), (2, .long p2), (4, .int v4), (5, .int v5), (7, .int v7)]) hx hb dX6_isFree_66 hl (by decide) rfl (fun ls hl => ?_)
        refine lv_iinc (v := v7 + 1) (lv' := [(7, .int (v7 + 1)), (6, .int 0), (0, .ref (adM 0)), (1, .int p1), (2, .long p2), (4, .int v4), (5, .int v5)]) hx hb dX6_isFree_68 hl (k := 6) rfl rfl (by decide) rfl (fun ls hl => ?_)
        refine lv_goto (tgt := 19) hx hb dX6_isFree_71 (by decide) ?_
        rw [hA19] at h
        exact h _ _ hP hD hS ls (lv_sub hl [2, 3, 4, 5, 6, 1, 0] rfl)
      · have h := h.2 c_8
        refine lv_aload_n hx hb dX6_isFree_35 rfl (lv_at hl 0 rfl) ?_
        refine va_get (D := D) (ci := 5) (v := .ref (adM 5)) (C := RX6) (T := TX6) (N := 18) hx hb hts (by decide +kernel) hown hK hP 0 rfl rfl 4 (by decide) (hts (.fieldLink RX6 23 "PartGraphsModel" "ways" "[Z") (by decide +kernel)) (fun _ h9 => h9) rfl dX6_isFree_36 ?_
        refine lv_iconst (v := 0) hx hb dX6_isFree_39 (by decide) ?_
        refine lv_iload_n hx hb dX6_isFree_40 rfl (lv_at hl 1 rfl) ?_
        refine lv_iload hx hb dX6_isFree_41 (lv_at hl 4 rfl) ?_
        refine lv_iload hx hb dX6_isFree_43 (lv_at hl 6 rfl) ?_
        have hFc := va_free (wc := ([] : va_W)) hD hS hA [] rfl
        refine va_calli (va_runS (As := [.int 0, .int p1, .int v5, .int v7]) (rest := [.ref (adM 5)]) ⟨hx, hb, hml, hown, hts⟩ (met_X6_wayAt l D cs ev _ 0 p1 v5 v7 _ h) (va_cwS 4 hts gX6_isFree_X6_wayAt rfl rfl rfl (by decide +kernel) ⟨Nat.le_of_ble_eq_true rfl, Nat.le_of_ble_eq_true rfl⟩) (mPreS hP hD hS hK hE hFc [] (by decide) rfl) rfl rfl hl.1 rfl (lv_room (Nat.le_of_ble_eq_true rfl)) dX6_isFree_45 ⟨Nat.le_of_ble_eq_true rfl, Nat.le_of_ble_eq_true rfl⟩) hS (fun q _ h => hFc q h) hFc (fun r_9 u t H1 locs ht hvm hw hB hz1 hk1 hS => ?_)
        have h := hw
        obtain ⟨hP1, hK1, hD1⟩ := hB
        rw [ht] at hP1
        obtain ⟨hP, hD⟩ := mJoin (wr := (sh_M cs adM mpM mkM mgM mcM mwM mfM mtM mhM mmM mdM mxM mnM szM faM apM waM wrM fuM)) (w1 := ([] : va_W)) (w' := (sh_M cs adM mpM mkM mgM mcM mwM mfM mtM mhM mmM mdM mxM mnM szM faM apM waM wrM fuM)) hP hD [] [0, 1, 2, 3, 4, 5, 6, 7, 8, 9, 10, 11, 12] rfl rfl (by decide) (by decide) hk1 hFc hP1 hD1 [0, 1, 2, 3, 4, 5, 6, 7, 8, 9, 10, 11, 12] (by decide) rfl
        generalize H1 = H at hP hS ⊢
        have hin := h.1
        have h := h.2
        refine va_zald (D := D) (cl := vwCl) hx hb hK hP 5 4 rfl rfl hin dX6_isFree_48 ?_
        refine lv_if_eq (tgt := 61) hx hb dX6_isFree_49 (by decide) (fun c_10 => ?_) (fun c_10 => ?_)
        · have h := h.1 c_10
          refine lv_iconst (v := 1) hx hb dX6_isFree_61 (by decide) ?_
          refine lv_goto (tgt := 66) hx hb dX6_isFree_62 (by decide) ?_
          refine lv_istore (lv' := [(6, .int 1), (0, .ref (adM 0)), (1, .int p1), (2, .long p2), (4, .int v4), (5, .int v5), (7, .int v7)]) hx hb dX6_isFree_66 hl (by decide) rfl (fun ls hl => ?_)
          refine lv_iinc (v := v7 + 1) (lv' := [(7, .int (v7 + 1)), (6, .int 1), (0, .ref (adM 0)), (1, .int p1), (2, .long p2), (4, .int v4), (5, .int v5)]) hx hb dX6_isFree_68 hl (k := 6) rfl rfl (by decide) rfl (fun ls hl => ?_)
          refine lv_goto (tgt := 19) hx hb dX6_isFree_71 (by decide) ?_
          rw [hA19] at h
          exact h _ _ hP hD hS ls (lv_sub hl [2, 3, 4, 5, 6, 1, 0] rfl)
        · have h := h.2 c_10
          refine lv_lload_n hx hb dX6_isFree_52 rfl (lv_at hl 2 rfl) ?_
          refine lv_iload hx hb dX6_isFree_53 (lv_at hl 6 rfl) ?_
          have hFc := va_free (wc := ([] : va_W)) hD hS hA [] rfl
          refine va_calli (va_runS (As := [.long p2, .int v7]) (rest := []) ⟨hx, hb, hml, hown, hts⟩ (met_X6_isOff l D cs ev _ p2 v7 _ h) (va_cwS 2 hts gX6_isFree_X6_isOff rfl rfl rfl (by decide +kernel) ⟨Nat.le_of_ble_eq_true rfl, Nat.le_of_ble_eq_true rfl⟩) (mPreS hP hD hS hK hE hFc [] (by decide) rfl) rfl rfl hl.1 rfl (lv_room (Nat.le_of_ble_eq_true rfl)) dX6_isFree_55 ⟨Nat.le_of_ble_eq_true rfl, Nat.le_of_ble_eq_true rfl⟩) hS (fun q _ h => hFc q h) hFc (fun r_11 u t H1 locs ht hvm hw hB hz1 hk1 hS => ?_)
          have h := hw
          obtain ⟨hP1, hK1, hD1⟩ := hB
          rw [ht] at hP1
          obtain ⟨hP, hD⟩ := mJoin (wr := (sh_M cs adM mpM mkM mgM mcM mwM mfM mtM mhM mmM mdM mxM mnM szM faM apM waM wrM fuM)) (w1 := ([] : va_W)) (w' := (sh_M cs adM mpM mkM mgM mcM mwM mfM mtM mhM mmM mdM mxM mnM szM faM apM waM wrM fuM)) hP hD [] [0, 1, 2, 3, 4, 5, 6, 7, 8, 9, 10, 11, 12] rfl rfl (by decide) (by decide) hk1 hFc hP1 hD1 [0, 1, 2, 3, 4, 5, 6, 7, 8, 9, 10, 11, 12] (by decide) rfl
          generalize H1 = H at hP hS ⊢
          refine lv_if_eq (tgt := 65) hx hb dX6_isFree_58 (by decide) (fun c_12 => ?_) (fun c_12 => ?_)
          · have h := h.1 c_12
            refine lv_iconst (v := 0) hx hb dX6_isFree_65 (by decide) ?_
            refine lv_istore (lv' := [(6, .int 0), (0, .ref (adM 0)), (1, .int p1), (2, .long p2), (4, .int v4), (5, .int v5), (7, .int v7)]) hx hb dX6_isFree_66 hl (by decide) rfl (fun ls hl => ?_)
            refine lv_iinc (v := v7 + 1) (lv' := [(7, .int (v7 + 1)), (6, .int 0), (0, .ref (adM 0)), (1, .int p1), (2, .long p2), (4, .int v4), (5, .int v5)]) hx hb dX6_isFree_68 hl (k := 6) rfl rfl (by decide) rfl (fun ls hl => ?_)
            refine lv_goto (tgt := 19) hx hb dX6_isFree_71 (by decide) ?_
            rw [hA19] at h
            exact h _ _ hP hD hS ls (lv_sub hl [2, 3, 4, 5, 6, 1, 0] rfl)
          · have h := h.2 c_12
            refine lv_iconst (v := 1) hx hb dX6_isFree_61 (by decide) ?_
            refine lv_goto (tgt := 66) hx hb dX6_isFree_62 (by decide) ?_
            refine lv_istore (lv' := [(6, .int 1), (0, .ref (adM 0)), (1, .int p1), (2, .long p2), (4, .int v4), (5, .int v5), (7, .int v7)]) hx hb dX6_isFree_66 hl (by decide) rfl (fun ls hl => ?_)
            refine lv_iinc (v := v7 + 1) (lv' := [(7, .int (v7 + 1)), (6, .int 1), (0, .ref (adM 0)), (1, .int p1), (2, .long p2), (4, .int v4), (5, .int v5)]) hx hb dX6_isFree_68 hl (k := 6) rfl rfl (by decide) rfl (fun ls hl => ?_)
            refine lv_goto (tgt := 19) hx hb dX6_isFree_71 (by decide) ?_
            rw [hA19] at h
            exact h _ _ hP hD hS ls (lv_sub hl [2, 3, 4, 5, 6, 1, 0] rfl)
  have h := h A6 A19 s6 s19
  refine lv_iconst (v := 0) hx hb dX6_isFree_0 (by decide) ?_
  refine lv_istore (lv' := [(4, .int 0), (0, .ref (adM 0)), (1, .int p1), (2, .long p2)]) hx hb dX6_isFree_1 hl (by decide) rfl (fun ls hl => ?_)
  refine lv_iconst (v := 0) hx hb dX6_isFree_3 (by decide) ?_
  refine lv_istore (lv' := [(5, .int 0), (4, .int 0), (0, .ref (adM 0)), (1, .int p1), (2, .long p2)]) hx hb dX6_isFree_4 hl (by decide) rfl (fun ls hl => ?_)
  rw [hA6] at h
  exact h _ _ hP hD hS ls (lv_sub hl [2, 3, 4, 1, 0] rfl)
def wp_X6_free (mpM : Nat → Int32) (mcM : Nat → Int32) (mwM : Nat → Int32) (p1 : Int32) (p2 : Int64) (post : Int32 → Int32 → Prop) : Prop :=
    wp_X6_isPart mpM 0 p1 (fun r_1 _ => ((r_1 = 0 → post 0 0) ∧ (¬ r_1 = 0 → wp_X6_isFree mpM mcM mwM p1 p2 (fun r_3 _ => ((r_3 = 0 → post 0 0) ∧ (¬ r_3 = 0 → post 1 0))))))
set_option maxHeartbeats 4000000 in
set_option maxRecDepth 100000 in
theorem met_X6_free (l : Launch) (D : va_G) (cs : Nat → ClassId) (ev : Nat → Nat → Nat) (sz0 : Nat) (adM : Nat → Nat) (mpM : Nat → Int32) (mkM : Nat → Int32) (mgM : Nat → Int32) (mcM : Nat → Int32) (mwM : Nat → Int32) (mfM : Nat → Int32) (mtM : Nat → Int32) (mhM : Nat → Int32) (mmM : Nat → Int32) (mdM : Nat → Int32) (mxM : Nat → Int32) (mnM : Nat → Int32) (szM : Int32) (faM : Int32) (apM : Int32) (waM : Int32) (wrM : Int32) (fuM : Int32) (p1 : Int32) (p2 : Int64) (post : Int32 → Int32 → Prop) (h : wp_X6_free mpM mcM mwM p1 p2 post) : Met l yX6_free wsX6_free ({ frames := 3, cells := 0, slots := 0, locals := 74 }) (va_Pc [.ref (adM 0), .int p1, .long p2] (mPre D cs ev (sh_M cs adM mpM mkM mgM mcM mwM mfM mtM mhM mmM mdM mxM mnM szM faM apM waM wrM fuM) sz0)) (va_Qi post (fun faM' t => mAt D cs (va_A (sh_M cs adM mpM mkM mgM mcM mwM mfM mtM mhM mmM mdM mxM mnM szM faM apM waM wrM fuM) sz0) (sh_M cs adM mpM mkM mgM mcM mwM mfM mtM mhM mmM mdM mxM mnM szM faM' apM waM wrM fuM) t) (va_A (sh_M cs adM mpM mkM mgM mcM mwM mfM mtM mhM mmM mdM mxM mnM szM faM apM waM wrM fuM) sz0)) 0 0 (va_A (sh_M cs adM mpM mkM mgM mcM mwM mfM mtM mhM mmM mdM mxM mnM szM faM apM waM wrM fuM) sz0) := by
  refine Met.ofW (cc := cX6_free) (maxL := 4) (ret := (some .boolean)) (by decide) rfl ?_
  intro p e s m args below meth c s₁ B hml hv
  obtain ⟨rfl, hsz, hP, hK, hD0, hE⟩ := hv
  have hx := B.exec
  have hb := B.bytes
  have hr := B.returns
  have hts := atoms_spec (ws := wsX6_free) B.pre
  have hown : s.vm.findClass RX6 = some m.cls := findClass_of_methodNamed B.named
  have hlocks := B.notSynchronized
  subst hsz
  have hD := hD0.self (sz := s.heap.size)
  generalize hAe : va_A (sh_M cs adM mpM mkM mgM mcM mwM mfM mtM mhM mmM mdM mxM mnM szM faM apM waM wrM fuM) s.heap.size = A at hD hE ⊢
  have hA : ∀ q : Nat, s.heap.size ≤ q → A q := fun q h => by rw [← hAe]; exact Or.inr h
  have hS : va_S A s.heap s.heap [] := va_S.rf
  have hl := lv_entry ([.ref (adM 0), .int p1, .long p2]) (n := 4) (Nat.le_of_ble_eq_true rfl)
  rw [lg_entry_eq]
  generalize (lg_sl ([.ref (adM 0), .int p1, .long p2]) ++ List.replicate (4 - (lg_sl ([.ref (adM 0), .int p1, .long p2])).length) Slot.unset).toArray = ls at hl ⊢
  have hl : lv_has ls 4 [(0, .ref (adM 0)), (1, .int p1), (2, .long p2)] := hl
  refine lv_aload_n hx hb dX6_free_0 rfl (lv_at hl 0 rfl) ?_
  refine lv_iconst (v := 0) hx hb dX6_free_1 (by decide) ?_
  refine va_put (D := D) (ci := 5) (v := .int 0) (ty := .int) (C := RX6) (T := TX6) (N := 18) hx hb hts (by decide +kernel) tyX6 tyX6_ok nmX6 hown hK hP hD hS 0 rfl rfl 12 (by decide) (hts (.fieldLink RX6 52 "PartGraphsModel" "fault" "I") (by decide +kernel)) (fun _ h9 => h9) rfl (by decide +kernel) rfl rfl (Nat.le_of_ble_eq_true rfl) dX6_free_2 (fun H locs hP hD hS => ?_)
  have hP : va_P D vwCl (sh_M cs adM mpM mkM mgM mcM mwM mfM mtM mhM mmM mdM mxM mnM szM 0 apM waM wrM fuM) H := hP
  have hD : va_D A (sh_M cs adM mpM mkM mgM mcM mwM mfM mtM mhM mmM mdM mxM mnM szM 0 apM waM wrM fuM) := hD
  refine lv_aload_n hx hb dX6_free_5 rfl (lv_at hl 0 rfl) ?_
  refine lv_iconst (v := 0) hx hb dX6_free_6 (by decide) ?_
  refine lv_iload_n hx hb dX6_free_7 rfl (lv_at hl 1 rfl) ?_
  have hFc := va_free (wc := (sh_M cs adM mpM mkM mgM mcM mwM mfM mtM mhM mmM mdM mxM mnM szM 0 apM waM wrM fuM)) hD hS hA [0, 1, 2, 3, 4, 5, 6, 7, 8, 9, 10, 11, 12] rfl
  refine va_calli (va_runV (As := [.int 0, .int p1]) (rest := []) ⟨hx, hb, hml, hown, hts⟩ (met_X6_isPart l D cs ev _ adM mpM mkM mgM mcM mwM mfM mtM mhM mmM mdM mxM mnM szM 0 apM waM wrM fuM 0 p1 _ h) (cwV 2 hts gX6_free_X6_isPart rfl rfl rfl (by decide +kernel) ⟨Nat.le_of_ble_eq_true rfl, Nat.le_of_ble_eq_true rfl⟩) (mPreV (va_recv hK hP (ci := 5) (q0 := 0) rfl rfl) hP hD hS hK hE hFc [0, 1, 2, 3, 4, 5, 6, 7, 8, 9, 10, 11, 12] (by decide) rfl) rfl rfl hl.1 rfl (lv_room (Nat.le_of_ble_eq_true rfl)) dX6_free_8 ⟨Nat.le_of_ble_eq_true rfl, Nat.le_of_ble_eq_true rfl⟩) hS (fun q _ h => hFc q h) hFc (fun r_1 u t H1 locs ht hvm hw hB hz1 hk1 hS => ?_)
  have h := hw
  obtain ⟨hP1, hK1, hD1⟩ := hB
  rw [ht] at hP1
  obtain ⟨hP, hD⟩ := mJoin (wr := ([] : va_W)) (w1 := (sh_M cs adM mpM mkM mgM mcM mwM mfM mtM mhM mmM mdM mxM mnM szM 0 apM waM wrM fuM)) (w' := (sh_M cs adM mpM mkM mgM mcM mwM mfM mtM mhM mmM mdM mxM mnM szM 0 apM waM wrM fuM)) hP hD [0, 1, 2, 3, 4, 5, 6, 7, 8, 9, 10, 11, 12] [] rfl rfl (by decide) (by decide) hk1 hFc hP1 hD1 [0, 1, 2, 3, 4, 5, 6, 7, 8, 9, 10, 11, 12] (by decide) rfl
  generalize H1 = H at hP hS ⊢
  refine lv_if_eq (tgt := 27) hx hb dX6_free_11 (by decide) (fun c_2 => ?_) (fun c_2 => ?_)
  · have h := h.1 c_2
    refine lv_iconst (v := 0) hx hb dX6_free_27 (by decide) ?_
    exact W.zret (v := 0) hx hb hr (by decide) (fun t ht hW => ⟨⟨0, 0, rfl, h, by rw [ht]; exact hP, va_K.moved hW.alike hK, hD⟩, hS.F ht⟩) hS.2.2 dX6_free_28
  · have h := h.2 c_2
    refine lv_aload_n hx hb dX6_free_14 rfl (lv_at hl 0 rfl) ?_
    refine lv_iload_n hx hb dX6_free_15 rfl (lv_at hl 1 rfl) ?_
    refine lv_lload_n hx hb dX6_free_16 rfl (lv_at hl 2 rfl) ?_
    have hFc := va_free (wc := (sh_M cs adM mpM mkM mgM mcM mwM mfM mtM mhM mmM mdM mxM mnM szM 0 apM waM wrM fuM)) hD hS hA [0, 1, 2, 3, 4, 5, 6, 7, 8, 9, 10, 11, 12] rfl
    refine va_calli (va_runV (As := [.int p1, .long p2]) (rest := []) ⟨hx, hb, hml, hown, hts⟩ (met_X6_isFree l D cs ev _ adM mpM mkM mgM mcM mwM mfM mtM mhM mmM mdM mxM mnM szM 0 apM waM wrM fuM p1 p2 _ h) (cwV 2 hts gX6_free_X6_isFree rfl rfl rfl (by decide +kernel) ⟨Nat.le_of_ble_eq_true rfl, Nat.le_of_ble_eq_true rfl⟩) (mPreV (va_recv hK hP (ci := 5) (q0 := 0) rfl rfl) hP hD hS hK hE hFc [0, 1, 2, 3, 4, 5, 6, 7, 8, 9, 10, 11, 12] (by decide) rfl) rfl rfl hl.1 rfl (lv_room (Nat.le_of_ble_eq_true rfl)) dX6_free_17 ⟨Nat.le_of_ble_eq_true rfl, Nat.le_of_ble_eq_true rfl⟩) hS (fun q _ h => hFc q h) hFc (fun r_3 u t H1 locs ht hvm hw hB hz1 hk1 hS => ?_)
    have h := hw
    obtain ⟨hP1, hK1, hD1⟩ := hB
    rw [ht] at hP1
    obtain ⟨hP, hD⟩ := mJoin (wr := ([] : va_W)) (w1 := (sh_M cs adM mpM mkM mgM mcM mwM mfM mtM mhM mmM mdM mxM mnM szM 0 apM waM wrM fuM)) (w' := (sh_M cs adM mpM mkM mgM mcM mwM mfM mtM mhM mmM mdM mxM mnM szM 0 apM waM wrM fuM)) hP hD [0, 1, 2, 3, 4, 5, 6, 7, 8, 9, 10, 11, 12] [] rfl rfl (by decide) (by decide) hk1 hFc hP1 hD1 [0, 1, 2, 3, 4, 5, 6, 7, 8, 9, 10, 11, 12] (by decide) rfl
    generalize H1 = H at hP hS ⊢
    refine lv_if_eq (tgt := 27) hx hb dX6_free_20 (by decide) (fun c_4 => ?_) (fun c_4 => ?_)
    · have h := h.1 c_4
      refine lv_iconst (v := 0) hx hb dX6_free_27 (by decide) ?_
      exact W.zret (v := 0) hx hb hr (by decide) (fun t ht hW => ⟨⟨0, 0, rfl, h, by rw [ht]; exact hP, va_K.moved hW.alike hK, hD⟩, hS.F ht⟩) hS.2.2 dX6_free_28
    · have h := h.2 c_4
      refine lv_iconst (v := 1) hx hb dX6_free_23 (by decide) ?_
      refine lv_goto (tgt := 28) hx hb dX6_free_24 (by decide) ?_
      exact W.zret (v := 1) hx hb hr (by decide) (fun t ht hW => ⟨⟨1, 0, rfl, h, by rw [ht]; exact hP, va_K.moved hW.alike hK, hD⟩, hS.F ht⟩) hS.2.2 dX6_free_28
def wp_X6_plain (mpM : Nat → Int32) (mcM : Nat → Int32) (p1 : Int32) (p2 : Int64) (post : Int32 → Int32 → Prop) : Prop :=
    wp_X6_isPart mpM 0 p1 (fun r_1 _ => ((r_1 = 0 → post 0 0) ∧ (¬ r_1 = 0 → wp_X6_isPlain mpM mcM p1 p2 (fun r_3 _ => ((r_3 = 0 → post 0 0) ∧ (¬ r_3 = 0 → post 1 0))))))
set_option maxHeartbeats 4000000 in
set_option maxRecDepth 100000 in
theorem met_X6_plain (l : Launch) (D : va_G) (cs : Nat → ClassId) (ev : Nat → Nat → Nat) (sz0 : Nat) (adM : Nat → Nat) (mpM : Nat → Int32) (mkM : Nat → Int32) (mgM : Nat → Int32) (mcM : Nat → Int32) (mwM : Nat → Int32) (mfM : Nat → Int32) (mtM : Nat → Int32) (mhM : Nat → Int32) (mmM : Nat → Int32) (mdM : Nat → Int32) (mxM : Nat → Int32) (mnM : Nat → Int32) (szM : Int32) (faM : Int32) (apM : Int32) (waM : Int32) (wrM : Int32) (fuM : Int32) (p1 : Int32) (p2 : Int64) (post : Int32 → Int32 → Prop) (h : wp_X6_plain mpM mcM p1 p2 post) : Met l yX6_plain wsX6_plain ({ frames := 2, cells := 0, slots := 0, locals := 47 }) (va_Pc [.ref (adM 0), .int p1, .long p2] (mPre D cs ev (sh_M cs adM mpM mkM mgM mcM mwM mfM mtM mhM mmM mdM mxM mnM szM faM apM waM wrM fuM) sz0)) (va_Qi post (fun faM' t => mAt D cs (va_A (sh_M cs adM mpM mkM mgM mcM mwM mfM mtM mhM mmM mdM mxM mnM szM faM apM waM wrM fuM) sz0) (sh_M cs adM mpM mkM mgM mcM mwM mfM mtM mhM mmM mdM mxM mnM szM faM' apM waM wrM fuM) t) (va_A (sh_M cs adM mpM mkM mgM mcM mwM mfM mtM mhM mmM mdM mxM mnM szM faM apM waM wrM fuM) sz0)) 0 0 (va_A (sh_M cs adM mpM mkM mgM mcM mwM mfM mtM mhM mmM mdM mxM mnM szM faM apM waM wrM fuM) sz0) := by
  refine Met.ofW (cc := cX6_plain) (maxL := 4) (ret := (some .boolean)) (by decide) rfl ?_
  intro p e s m args below meth c s₁ B hml hv
  obtain ⟨rfl, hsz, hP, hK, hD0, hE⟩ := hv
  have hx := B.exec
  have hb := B.bytes
  have hr := B.returns
  have hts := atoms_spec (ws := wsX6_plain) B.pre
  have hown : s.vm.findClass RX6 = some m.cls := findClass_of_methodNamed B.named
  have hlocks := B.notSynchronized
  subst hsz
  have hD := hD0.self (sz := s.heap.size)
  generalize hAe : va_A (sh_M cs adM mpM mkM mgM mcM mwM mfM mtM mhM mmM mdM mxM mnM szM faM apM waM wrM fuM) s.heap.size = A at hD hE ⊢
  have hA : ∀ q : Nat, s.heap.size ≤ q → A q := fun q h => by rw [← hAe]; exact Or.inr h
  have hS : va_S A s.heap s.heap [] := va_S.rf
  have hl := lv_entry ([.ref (adM 0), .int p1, .long p2]) (n := 4) (Nat.le_of_ble_eq_true rfl)
  rw [lg_entry_eq]
  generalize (lg_sl ([.ref (adM 0), .int p1, .long p2]) ++ List.replicate (4 - (lg_sl ([.ref (adM 0), .int p1, .long p2])).length) Slot.unset).toArray = ls at hl ⊢
  have hl : lv_has ls 4 [(0, .ref (adM 0)), (1, .int p1), (2, .long p2)] := hl
  refine lv_aload_n hx hb dX6_plain_0 rfl (lv_at hl 0 rfl) ?_
  refine lv_iconst (v := 0) hx hb dX6_plain_1 (by decide) ?_
  refine va_put (D := D) (ci := 5) (v := .int 0) (ty := .int) (C := RX6) (T := TX6) (N := 18) hx hb hts (by decide +kernel) tyX6 tyX6_ok nmX6 hown hK hP hD hS 0 rfl rfl 12 (by decide) (hts (.fieldLink RX6 52 "PartGraphsModel" "fault" "I") (by decide +kernel)) (fun _ h9 => h9) rfl (by decide +kernel) rfl rfl (Nat.le_of_ble_eq_true rfl) dX6_plain_2 (fun H locs hP hD hS => ?_)
  have hP : va_P D vwCl (sh_M cs adM mpM mkM mgM mcM mwM mfM mtM mhM mmM mdM mxM mnM szM 0 apM waM wrM fuM) H := hP
  have hD : va_D A (sh_M cs adM mpM mkM mgM mcM mwM mfM mtM mhM mmM mdM mxM mnM szM 0 apM waM wrM fuM) := hD
  refine lv_aload_n hx hb dX6_plain_5 rfl (lv_at hl 0 rfl) ?_
  refine lv_iconst (v := 0) hx hb dX6_plain_6 (by decide) ?_
  refine lv_iload_n hx hb dX6_plain_7 rfl (lv_at hl 1 rfl) ?_
  have hFc := va_free (wc := (sh_M cs adM mpM mkM mgM mcM mwM mfM mtM mhM mmM mdM mxM mnM szM 0 apM waM wrM fuM)) hD hS hA [0, 1, 2, 3, 4, 5, 6, 7, 8, 9, 10, 11, 12] rfl
  refine va_calli (va_runV (As := [.int 0, .int p1]) (rest := []) ⟨hx, hb, hml, hown, hts⟩ (met_X6_isPart l D cs ev _ adM mpM mkM mgM mcM mwM mfM mtM mhM mmM mdM mxM mnM szM 0 apM waM wrM fuM 0 p1 _ h) (cwV 2 hts gX6_plain_X6_isPart rfl rfl rfl (by decide +kernel) ⟨Nat.le_of_ble_eq_true rfl, Nat.le_of_ble_eq_true rfl⟩) (mPreV (va_recv hK hP (ci := 5) (q0 := 0) rfl rfl) hP hD hS hK hE hFc [0, 1, 2, 3, 4, 5, 6, 7, 8, 9, 10, 11, 12] (by decide) rfl) rfl rfl hl.1 rfl (lv_room (Nat.le_of_ble_eq_true rfl)) dX6_plain_8 ⟨Nat.le_of_ble_eq_true rfl, Nat.le_of_ble_eq_true rfl⟩) hS (fun q _ h => hFc q h) hFc (fun r_1 u t H1 locs ht hvm hw hB hz1 hk1 hS => ?_)
  have h := hw
  obtain ⟨hP1, hK1, hD1⟩ := hB
  rw [ht] at hP1
  obtain ⟨hP, hD⟩ := mJoin (wr := ([] : va_W)) (w1 := (sh_M cs adM mpM mkM mgM mcM mwM mfM mtM mhM mmM mdM mxM mnM szM 0 apM waM wrM fuM)) (w' := (sh_M cs adM mpM mkM mgM mcM mwM mfM mtM mhM mmM mdM mxM mnM szM 0 apM waM wrM fuM)) hP hD [0, 1, 2, 3, 4, 5, 6, 7, 8, 9, 10, 11, 12] [] rfl rfl (by decide) (by decide) hk1 hFc hP1 hD1 [0, 1, 2, 3, 4, 5, 6, 7, 8, 9, 10, 11, 12] (by decide) rfl
  generalize H1 = H at hP hS ⊢
  refine lv_if_eq (tgt := 27) hx hb dX6_plain_11 (by decide) (fun c_2 => ?_) (fun c_2 => ?_)
  · have h := h.1 c_2
    refine lv_iconst (v := 0) hx hb dX6_plain_27 (by decide) ?_
    exact W.zret (v := 0) hx hb hr (by decide) (fun t ht hW => ⟨⟨0, 0, rfl, h, by rw [ht]; exact hP, va_K.moved hW.alike hK, hD⟩, hS.F ht⟩) hS.2.2 dX6_plain_28
  · have h := h.2 c_2
    refine lv_aload_n hx hb dX6_plain_14 rfl (lv_at hl 0 rfl) ?_
    refine lv_iload_n hx hb dX6_plain_15 rfl (lv_at hl 1 rfl) ?_
    refine lv_lload_n hx hb dX6_plain_16 rfl (lv_at hl 2 rfl) ?_
    have hFc := va_free (wc := (sh_M cs adM mpM mkM mgM mcM mwM mfM mtM mhM mmM mdM mxM mnM szM 0 apM waM wrM fuM)) hD hS hA [0, 1, 2, 3, 4, 5, 6, 7, 8, 9, 10, 11, 12] rfl
    refine va_calli (va_runV (As := [.int p1, .long p2]) (rest := []) ⟨hx, hb, hml, hown, hts⟩ (met_X6_isPlain l D cs ev _ adM mpM mkM mgM mcM mwM mfM mtM mhM mmM mdM mxM mnM szM 0 apM waM wrM fuM p1 p2 _ h) (cwV 2 hts gX6_plain_X6_isPlain rfl rfl rfl (by decide +kernel) ⟨Nat.le_of_ble_eq_true rfl, Nat.le_of_ble_eq_true rfl⟩) (mPreV (va_recv hK hP (ci := 5) (q0 := 0) rfl rfl) hP hD hS hK hE hFc [0, 1, 2, 3, 4, 5, 6, 7, 8, 9, 10, 11, 12] (by decide) rfl) rfl rfl hl.1 rfl (lv_room (Nat.le_of_ble_eq_true rfl)) dX6_plain_17 ⟨Nat.le_of_ble_eq_true rfl, Nat.le_of_ble_eq_true rfl⟩) hS (fun q _ h => hFc q h) hFc (fun r_3 u t H1 locs ht hvm hw hB hz1 hk1 hS => ?_)
    have h := hw
    obtain ⟨hP1, hK1, hD1⟩ := hB
    rw [ht] at hP1
    obtain ⟨hP, hD⟩ := mJoin (wr := ([] : va_W)) (w1 := (sh_M cs adM mpM mkM mgM mcM mwM mfM mtM mhM mmM mdM mxM mnM szM 0 apM waM wrM fuM)) (w' := (sh_M cs adM mpM mkM mgM mcM mwM mfM mtM mhM mmM mdM mxM mnM szM 0 apM waM wrM fuM)) hP hD [0, 1, 2, 3, 4, 5, 6, 7, 8, 9, 10, 11, 12] [] rfl rfl (by decide) (by decide) hk1 hFc hP1 hD1 [0, 1, 2, 3, 4, 5, 6, 7, 8, 9, 10, 11, 12] (by decide) rfl
    generalize H1 = H at hP hS ⊢
    refine lv_if_eq (tgt := 27) hx hb dX6_plain_20 (by decide) (fun c_4 => ?_) (fun c_4 => ?_)
    · have h := h.1 c_4
      refine lv_iconst (v := 0) hx hb dX6_plain_27 (by decide) ?_
      exact W.zret (v := 0) hx hb hr (by decide) (fun t ht hW => ⟨⟨0, 0, rfl, h, by rw [ht]; exact hP, va_K.moved hW.alike hK, hD⟩, hS.F ht⟩) hS.2.2 dX6_plain_28
    · have h := h.2 c_4
      refine lv_iconst (v := 1) hx hb dX6_plain_23 (by decide) ?_
      refine lv_goto (tgt := 28) hx hb dX6_plain_24 (by decide) ?_
      exact W.zret (v := 1) hx hb hr (by decide) (fun t ht hW => ⟨⟨1, 0, rfl, h, by rw [ht]; exact hP, va_K.moved hW.alike hK, hD⟩, hS.F ht⟩) hS.2.2 dX6_plain_28
def wp_X6_allOff (mpM : Nat → Int32) (mcM : Nat → Int32) (mwM : Nat → Int32) (p1 : Int32) (post : Int64 → Unit → Prop) : Prop :=
    ∀ (A5 : Int64 → Int32 → Prop) (A15 : Int64 → Int32 → Int32 → Prop),
    (∀ (v2 : Int64) (v4 : Int32), ((10 ≤ v4 → post v2 ()) ∧ (¬ 10 ≤ v4 → A15 v2 v4 0)) → A5 v2 v4) →
    (∀ (v2 : Int64) (v4 : Int32) (v5 : Int32), (vp_in 0 2 ∧ (((mpM (0 : Int32).toNatClampNeg) ≤ v5 → A5 v2 (v4 + 1)) ∧ (¬ (mpM (0 : Int32).toNatClampNeg) ≤ v5 → ((v5 = p1 → A15 (v2 ||| 0) v4 (v5 + 1)) ∧ (¬ v5 = p1 → wp_X6_isFree mpM mcM mwM v5 v2 (fun r_4 _ => ((r_4 = 0 → A15 (v2 ||| 0) v4 (v5 + 1)) ∧ (¬ r_4 = 0 → A15 (v2 ||| (1 <<< (v5.toInt64 &&& 63))) v4 (v5 + 1))))))))) → A15 v2 v4 v5) →
    A5 0 0
set_option maxHeartbeats 4000000 in
set_option maxRecDepth 100000 in
theorem met_X6_allOff (l : Launch) (D : va_G) (cs : Nat → ClassId) (ev : Nat → Nat → Nat) (sz0 : Nat) (adM : Nat → Nat) (mpM : Nat → Int32) (mkM : Nat → Int32) (mgM : Nat → Int32) (mcM : Nat → Int32) (mwM : Nat → Int32) (mfM : Nat → Int32) (mtM : Nat → Int32) (mhM : Nat → Int32) (mmM : Nat → Int32) (mdM : Nat → Int32) (mxM : Nat → Int32) (mnM : Nat → Int32) (szM : Int32) (faM : Int32) (apM : Int32) (waM : Int32) (wrM : Int32) (fuM : Int32) (p1 : Int32) (post : Int64 → Unit → Prop) (h : wp_X6_allOff mpM mcM mwM p1 post) : Met l yX6_allOff wsX6_allOff ({ frames := 3, cells := 0, slots := 0, locals := 74 }) (va_Pc [.ref (adM 0), .int p1] (mPre D cs ev (sh_M cs adM mpM mkM mgM mcM mwM mfM mtM mhM mmM mdM mxM mnM szM faM apM waM wrM fuM) sz0)) (va_Ql post (fun _ t => mAt D cs (va_A (sh_M cs adM mpM mkM mgM mcM mwM mfM mtM mhM mmM mdM mxM mnM szM faM apM waM wrM fuM) sz0) (sh_M cs adM mpM mkM mgM mcM mwM mfM mtM mhM mmM mdM mxM mnM szM faM apM waM wrM fuM) t) (va_A (sh_M cs adM mpM mkM mgM mcM mwM mfM mtM mhM mmM mdM mxM mnM szM faM apM waM wrM fuM) sz0)) 0 0 (va_A (sh_M cs adM mpM mkM mgM mcM mwM mfM mtM mhM mmM mdM mxM mnM szM faM apM waM wrM fuM) sz0) := by
  refine Met.ofW (cc := cX6_allOff) (maxL := 6) (ret := (some .long)) (by decide) rfl ?_
  intro p e s m args below meth c s₁ B hml hv
  obtain ⟨rfl, hsz, hP, hK, hD0, hE⟩ := hv
  have hx := B.exec
  have hb := B.bytes
  have hr := B.returns
  have hts := atoms_spec (ws := wsX6_allOff) B.pre
  have hown : s.vm.findClass RX6 = some m.cls := findClass_of_methodNamed B.named
  have hlocks := B.notSynchronized
  subst hsz
  have hD := hD0.self (sz := s.heap.size)
  generalize hAe : va_A (sh_M cs adM mpM mkM mgM mcM mwM mfM mtM mhM mmM mdM mxM mnM szM faM apM waM wrM fuM) s.heap.size = A at hD hE ⊢
  have hA : ∀ q : Nat, s.heap.size ≤ q → A q := fun q h => by rw [← hAe]; exact Or.inr h
  have hS : va_S A s.heap s.heap [] := va_S.rf
  have hl := lv_entry ([.ref (adM 0), .int p1]) (n := 6) (Nat.le_of_ble_eq_true rfl)
  rw [lg_entry_eq]
  generalize (lg_sl ([.ref (adM 0), .int p1]) ++ List.replicate (6 - (lg_sl ([.ref (adM 0), .int p1])).length) Slot.unset).toArray = ls at hl ⊢
  have hl : lv_has ls 6 [(0, .ref (adM 0)), (1, .int p1)] := hl
  obtain ⟨A5, hA5⟩ : ∃ Q : Int64 → Int32 → Prop, Q = (fun v2 v4 => ∀ (H : Heap) (locs : List Loc), va_P D vwCl (sh_M cs adM mpM mkM mgM mcM mwM mfM mtM mhM mmM mdM mxM mnM szM faM apM waM wrM fuM) H → va_D A (sh_M cs adM mpM mkM mgM mcM mwM mfM mtM mhM mmM mdM mxM mnM szM faM apM waM wrM fuM) → va_S A s.heap H locs → ∀ ls : Array Slot, lv_has ls 6 [(0, .ref (adM 0)), (1, .int p1), (2, .long v2), (4, .int v4)] → W p l e (headSpec wsX6_allOff ({ frames := 3, cells := 0, slots := 0, locals := 74 })).room s m ([.ref (adM 0), .int p1] : List Value).toArray below meth c H locs 0 0 (MQ below (va_Ql post (fun _ t => mAt D cs (A) (sh_M cs adM mpM mkM mgM mcM mwM mfM mtM mhM mmM mdM mxM mnM szM faM apM waM wrM fuM) t) A) ([.ref (adM 0), .int p1] : List Value).toArray s 0 0 A) (F0 m 5 ls [])) := ⟨_, rfl⟩
  obtain ⟨A15, hA15⟩ : ∃ Q : Int64 → Int32 → Int32 → Prop, Q = (fun v2 v4 v5 => ∀ (H : Heap) (locs : List Loc), va_P D vwCl (sh_M cs adM mpM mkM mgM mcM mwM mfM mtM mhM mmM mdM mxM mnM szM faM apM waM wrM fuM) H → va_D A (sh_M cs adM mpM mkM mgM mcM mwM mfM mtM mhM mmM mdM mxM mnM szM faM apM waM wrM fuM) → va_S A s.heap H locs → ∀ ls : Array Slot, lv_has ls 6 [(0, .ref (adM 0)), (1, .int p1), (2, .long v2), (4, .int v4), (5, .int v5)] → W p l e (headSpec wsX6_allOff ({ frames := 3, cells := 0, slots := 0, locals := 74 })).room s m ([.ref (adM 0), .int p1] : List Value).toArray below meth c H locs 0 0 (MQ below (va_Ql post (fun _ t => mAt D cs (A) (sh_M cs adM mpM mkM mgM mcM mwM mfM mtM mhM mmM mdM mxM mnM szM faM apM waM wrM fuM) t) A) ([.ref (adM 0), .int p1] : List Value).toArray s 0 0 A) (F0 m 15 ls [])) := ⟨_, rfl⟩
  have s5 : ∀ (v2 : Int64) (v4 : Int32), ((10 ≤ v4 → post v2 ()) ∧ (¬ 10 ≤ v4 → A15 v2 v4 0)) → A5 v2 v4 := by
    intro v2 v4 h
    rw [hA5]
    intro H locs hP hD hS ls hl
    refine lv_iload hx hb dX6_allOff_5 (lv_at hl 3 rfl) ?_
    refine lv_bipush (v := 10) hx hb dX6_allOff_7 (by decide) ?_
    refine lv_icmp_ge (tgt := 65) hx hb dX6_allOff_9 (by decide) (fun c_1 => ?_) (fun c_1 => ?_)
    · have h := h.1 c_1
      refine lv_lload_n hx hb dX6_allOff_65 rfl (lv_at hl 2 rfl) ?_
      exact W.lret (v := v2) hx hb hr (fun t ht hW => ⟨⟨v2, (), rfl, h, by rw [ht]; exact hP, va_K.moved hW.alike hK, hD⟩, hS.F ht⟩) hS.2.2 dX6_allOff_66
    · have h := h.2 c_1
      refine lv_iconst (v := 0) hx hb dX6_allOff_12 (by decide) ?_
      refine lv_istore (lv' := [(5, .int 0), (0, .ref (adM 0)), (1, .int p1), (2, .long v2), (4, .int v4)]) hx hb dX6_allOff_13 hl (by decide) rfl (fun ls hl => ?_)
      rw [hA15] at h
      exact h _ _ hP hD hS ls (lv_sub hl [1, 2, 3, 4, 0] rfl)
  have s15 : ∀ (v2 : Int64) (v4 : Int32) (v5 : Int32), (vp_in 0 2 ∧ (((mpM (0 : Int32).toNatClampNeg) ≤ v5 → A5 v2 (v4 + 1)) ∧ (¬ (mpM (0 : Int32).toNatClampNeg) ≤ v5 → ((v5 = p1 → A15 (v2 ||| 0) v4 (v5 + 1)) ∧ (¬ v5 = p1 → wp_X6_isFree mpM mcM mwM v5 v2 (fun r_4 _ => ((r_4 = 0 → A15 (v2 ||| 0) v4 (v5 + 1)) ∧ (¬ r_4 = 0 → A15 (v2 ||| (1 <<< (v5.toInt64 &&& 63))) v4 (v5 + 1))))))))) → A15 v2 v4 v5 := by
    intro v2 v4 v5 h
    rw [hA15]
    intro H locs hP hD hS ls hl
    refine lv_iload hx hb dX6_allOff_15 (lv_at hl 4 rfl) ?_
    refine lv_aload_n hx hb dX6_allOff_17 rfl (lv_at hl 0 rfl) ?_
    refine va_get (D := D) (ci := 5) (v := .ref (adM 1)) (C := RX6) (T := TX6) (N := 18) hx hb hts (by decide +kernel) hown hK hP 0 rfl rfl 0 (by decide) (hts (.fieldLink RX6 7 "PartGraphsModel" "parts" "[I") (by decide +kernel)) (fun _ h9 => h9) rfl dX6_allOff_18 ?_
    refine lv_iconst (v := 0) hx hb dX6_allOff_21 (by decide) ?_
    have hin := h.1
    have h := h.2
    refine va_iald (D := D) (cl := vwCl) hx hb hK hP 1 0 rfl rfl hin dX6_allOff_22 ?_
    refine lv_icmp_ge (tgt := 59) hx hb dX6_allOff_23 (by decide) (fun c_2 => ?_) (fun c_2 => ?_)
    · have h := h.1 c_2
      refine lv_iinc (v := v4 + 1) (lv' := [(4, .int (v4 + 1)), (0, .ref (adM 0)), (1, .int p1), (2, .long v2), (5, .int v5)]) hx hb dX6_allOff_59 hl (k := 3) rfl rfl (by decide) rfl (fun ls hl => ?_)
      refine lv_goto (tgt := 5) hx hb dX6_allOff_62 (by decide) ?_
      rw [hA5] at h
      exact h _ _ hP hD hS ls (lv_sub hl [1, 2, 3, 0] rfl)
    · have h := h.2 c_2
      refine lv_lload_n hx hb dX6_allOff_26 rfl (lv_at hl 2 rfl) ?_
      refine lv_iload hx hb dX6_allOff_27 (lv_at hl 4 rfl) ?_
      refine lv_iload_n hx hb dX6_allOff_29 rfl (lv_at hl 1 rfl) ?_
      refine lv_icmp_eq (tgt := 50) hx hb dX6_allOff_30 (by decide) (fun c_3 => ?_) (fun c_3 => ?_)
      · have h := h.1 c_3
        refine lv_lconst (v := 0) hx hb dX6_allOff_50 (by decide) ?_
        refine lv_lor hx hb dX6_allOff_51 ?_
        refine lv_lstore_n (lv' := [(2, .long (v2 ||| 0)), (0, .ref (adM 0)), (1, .int p1), (4, .int v4), (5, .int v5)]) hx hb dX6_allOff_52 rfl hl (by decide) rfl (fun ls hl => ?_)
        refine lv_iinc (v := v5 + 1) (lv' := [(5, .int (v5 + 1)), (2, .long (v2 ||| 0)), (0, .ref (adM 0)), (1, .int p1), (4, .int v4)]) hx hb dX6_allOff_53 hl (k := 4) rfl rfl (by decide) rfl (fun ls hl => ?_)
        refine lv_goto (tgt := 15) hx hb dX6_allOff_56 (by decide) ?_
        rw [hA15] at h
        exact h _ _ hP hD hS ls (lv_sub hl [2, 3, 1, 4, 0] rfl)
      · have h := h.2 c_3
        refine lv_aload_n hx hb dX6_allOff_33 rfl (lv_at hl 0 rfl) ?_
        refine lv_iload hx hb dX6_allOff_34 (lv_at hl 4 rfl) ?_
        refine lv_lload_n hx hb dX6_allOff_36 rfl (lv_at hl 2 rfl) ?_
        have hFc := va_free (wc := (sh_M cs adM mpM mkM mgM mcM mwM mfM mtM mhM mmM mdM mxM mnM szM faM apM waM wrM fuM)) hD hS hA [0, 1, 2, 3, 4, 5, 6, 7, 8, 9, 10, 11, 12] rfl
        refine va_calli (va_runV (As := [.int v5, .long v2]) (rest := [.long v2]) ⟨hx, hb, hml, hown, hts⟩ (met_X6_isFree l D cs ev _ adM mpM mkM mgM mcM mwM mfM mtM mhM mmM mdM mxM mnM szM faM apM waM wrM fuM v5 v2 _ h) (cwV 2 hts gX6_allOff_X6_isFree rfl rfl rfl (by decide +kernel) ⟨Nat.le_of_ble_eq_true rfl, Nat.le_of_ble_eq_true rfl⟩) (mPreV (va_recv hK hP (ci := 5) (q0 := 0) rfl rfl) hP hD hS hK hE hFc [0, 1, 2, 3, 4, 5, 6, 7, 8, 9, 10, 11, 12] (by decide) rfl) rfl rfl hl.1 rfl (lv_room (Nat.le_of_ble_eq_true rfl)) dX6_allOff_37 ⟨Nat.le_of_ble_eq_true rfl, Nat.le_of_ble_eq_true rfl⟩) hS (fun q _ h => hFc q h) hFc (fun r_4 u t H1 locs ht hvm hw hB hz1 hk1 hS => ?_)
        have h := hw
        obtain ⟨hP1, hK1, hD1⟩ := hB
        rw [ht] at hP1
        obtain ⟨hP, hD⟩ := mJoin (wr := ([] : va_W)) (w1 := (sh_M cs adM mpM mkM mgM mcM mwM mfM mtM mhM mmM mdM mxM mnM szM faM apM waM wrM fuM)) (w' := (sh_M cs adM mpM mkM mgM mcM mwM mfM mtM mhM mmM mdM mxM mnM szM faM apM waM wrM fuM)) hP hD [0, 1, 2, 3, 4, 5, 6, 7, 8, 9, 10, 11, 12] [] rfl rfl (by decide) (by decide) hk1 hFc hP1 hD1 [0, 1, 2, 3, 4, 5, 6, 7, 8, 9, 10, 11, 12] (by decide) rfl
        generalize H1 = H at hP hS ⊢
        refine lv_if_eq (tgt := 50) hx hb dX6_allOff_40 (by decide) (fun c_5 => ?_) (fun c_5 => ?_)
        · have h := h.1 c_5
          refine lv_lconst (v := 0) hx hb dX6_allOff_50 (by decide) ?_
          refine lv_lor hx hb dX6_allOff_51 ?_
          refine lv_lstore_n (lv' := [(2, .long (v2 ||| 0)), (0, .ref (adM 0)), (1, .int p1), (4, .int v4), (5, .int v5)]) hx hb dX6_allOff_52 rfl hl (by decide) rfl (fun ls hl => ?_)
          refine lv_iinc (v := v5 + 1) (lv' := [(5, .int (v5 + 1)), (2, .long (v2 ||| 0)), (0, .ref (adM 0)), (1, .int p1), (4, .int v4)]) hx hb dX6_allOff_53 hl (k := 4) rfl rfl (by decide) rfl (fun ls hl => ?_)
          refine lv_goto (tgt := 15) hx hb dX6_allOff_56 (by decide) ?_
          rw [hA15] at h
          exact h _ _ hP hD hS ls (lv_sub hl [2, 3, 1, 4, 0] rfl)
        · have h := h.2 c_5
          refine lv_lconst (v := 1) hx hb dX6_allOff_43 (by decide) ?_
          refine lv_iload hx hb dX6_allOff_44 (lv_at hl 4 rfl) ?_
          refine lv_lshl hx hb dX6_allOff_46 rfl ?_
          refine lv_goto (tgt := 51) hx hb dX6_allOff_47 (by decide) ?_
          refine lv_lor hx hb dX6_allOff_51 ?_
          refine lv_lstore_n (lv' := [(2, .long (v2 ||| (1 <<< (v5.toInt64 &&& 63)))), (0, .ref (adM 0)), (1, .int p1), (4, .int v4), (5, .int v5)]) hx hb dX6_allOff_52 rfl hl (by decide) rfl (fun ls hl => ?_)
          refine lv_iinc (v := v5 + 1) (lv' := [(5, .int (v5 + 1)), (2, .long (v2 ||| (1 <<< (v5.toInt64 &&& 63)))), (0, .ref (adM 0)), (1, .int p1), (4, .int v4)]) hx hb dX6_allOff_53 hl (k := 4) rfl rfl (by decide) rfl (fun ls hl => ?_)
          refine lv_goto (tgt := 15) hx hb dX6_allOff_56 (by decide) ?_
          rw [hA15] at h
          exact h _ _ hP hD hS ls (lv_sub hl [2, 3, 1, 4, 0] rfl)
  have h := h A5 A15 s5 s15
  refine lv_lconst (v := 0) hx hb dX6_allOff_0 (by decide) ?_
  refine lv_lstore_n (lv' := [(2, .long 0), (0, .ref (adM 0)), (1, .int p1)]) hx hb dX6_allOff_1 rfl hl (by decide) rfl (fun ls hl => ?_)
  refine lv_iconst (v := 0) hx hb dX6_allOff_2 (by decide) ?_
  refine lv_istore (lv' := [(4, .int 0), (2, .long 0), (0, .ref (adM 0)), (1, .int p1)]) hx hb dX6_allOff_3 hl (by decide) rfl (fun ls hl => ?_)
  rw [hA5] at h
  exact h _ _ hP hD hS ls (lv_sub hl [2, 3, 1, 0] rfl)
def wp_X6_before (mpM : Nat → Int32) (mcM : Nat → Int32) (mwM : Nat → Int32) (faM : Int32) (p1 : Int32) (p2 : Int32) (post : Int32 → Int32 → Prop) : Prop :=
    ∀ (A33 : Int32 → Int32 → Int32 → Prop),
    (∀ (v3 : Int32) (v4 : Int32) (faM : Int32), (vp_in 0 2 ∧ (((mpM (0 : Int32).toNatClampNeg) ≤ v4 → post (-1) faM) ∧ (¬ (mpM (0 : Int32).toNatClampNeg) ≤ v4 → ((v4 = p1 → A33 v3 (v4 + 1) faM) ∧ (¬ v4 = p1 → wp_X6_allOff mpM mcM mwM v4 (fun r_8 _ => wp_X6_isOff r_8 p1 (fun r_9 _ => ((r_9 = 0 → ((v3 = p2 → post v4 faM) ∧ (¬ v3 = p2 → A33 (v3 + 1) (v4 + 1) faM))) ∧ (¬ r_9 = 0 → A33 v3 (v4 + 1) faM))))))))) → A33 v3 v4 faM) →
    wp_X6_isPart mpM 0 p1 (fun r_1 _ => ((r_1 = 0 → post (-1) 0) ∧ (¬ r_1 = 0 → wp_X6_allOff mpM mcM mwM (-1) (fun r_3 _ => wp_X6_isOff r_3 p1 (fun r_4 _ => ((r_4 = 0 → post (-1) 0) ∧ (¬ r_4 = 0 → A33 0 0 0)))))))
set_option maxHeartbeats 4000000 in
set_option maxRecDepth 100000 in
theorem met_X6_before (l : Launch) (D : va_G) (cs : Nat → ClassId) (ev : Nat → Nat → Nat) (sz0 : Nat) (adM : Nat → Nat) (mpM : Nat → Int32) (mkM : Nat → Int32) (mgM : Nat → Int32) (mcM : Nat → Int32) (mwM : Nat → Int32) (mfM : Nat → Int32) (mtM : Nat → Int32) (mhM : Nat → Int32) (mmM : Nat → Int32) (mdM : Nat → Int32) (mxM : Nat → Int32) (mnM : Nat → Int32) (szM : Int32) (faM : Int32) (apM : Int32) (waM : Int32) (wrM : Int32) (fuM : Int32) (p1 : Int32) (p2 : Int32) (post : Int32 → Int32 → Prop) (h : wp_X6_before mpM mcM mwM faM p1 p2 post) : Met l yX6_before wsX6_before ({ frames := 4, cells := 0, slots := 0, locals := 99 }) (va_Pc [.ref (adM 0), .int p1, .int p2] (mPre D cs ev (sh_M cs adM mpM mkM mgM mcM mwM mfM mtM mhM mmM mdM mxM mnM szM faM apM waM wrM fuM) sz0)) (va_Qi post (fun faM' t => mAt D cs (va_A (sh_M cs adM mpM mkM mgM mcM mwM mfM mtM mhM mmM mdM mxM mnM szM faM apM waM wrM fuM) sz0) (sh_M cs adM mpM mkM mgM mcM mwM mfM mtM mhM mmM mdM mxM mnM szM faM' apM waM wrM fuM) t) (va_A (sh_M cs adM mpM mkM mgM mcM mwM mfM mtM mhM mmM mdM mxM mnM szM faM apM waM wrM fuM) sz0)) 0 0 (va_A (sh_M cs adM mpM mkM mgM mcM mwM mfM mtM mhM mmM mdM mxM mnM szM faM apM waM wrM fuM) sz0) := by
  refine Met.ofW (cc := cX6_before) (maxL := 5) (ret := (some .int)) (by decide) rfl ?_
  intro p e s m args below meth c s₁ B hml hv
  obtain ⟨rfl, hsz, hP, hK, hD0, hE⟩ := hv
  have hx := B.exec
  have hb := B.bytes
  have hr := B.returns
  have hts := atoms_spec (ws := wsX6_before) B.pre
  have hown : s.vm.findClass RX6 = some m.cls := findClass_of_methodNamed B.named
  have hlocks := B.notSynchronized
  subst hsz
  have hD := hD0.self (sz := s.heap.size)
  generalize hAe : va_A (sh_M cs adM mpM mkM mgM mcM mwM mfM mtM mhM mmM mdM mxM mnM szM faM apM waM wrM fuM) s.heap.size = A at hD hE ⊢
  have hA : ∀ q : Nat, s.heap.size ≤ q → A q := fun q h => by rw [← hAe]; exact Or.inr h
  have hS : va_S A s.heap s.heap [] := va_S.rf
  have hl := lv_entry ([.ref (adM 0), .int p1, .int p2]) (n := 5) (Nat.le_of_ble_eq_true rfl)
  rw [lg_entry_eq]
  generalize (lg_sl ([.ref (adM 0), .int p1, .int p2]) ++ List.replicate (5 - (lg_sl ([.ref (adM 0), .int p1, .int p2])).length) Slot.unset).toArray = ls at hl ⊢
  have hl : lv_has ls 5 [(0, .ref (adM 0)), (1, .int p1), (2, .int p2)] := hl
  obtain ⟨A33, hA33⟩ : ∃ Q : Int32 → Int32 → Int32 → Prop, Q = (fun v3 v4 faM => ∀ (H : Heap) (locs : List Loc), va_P D vwCl (sh_M cs adM mpM mkM mgM mcM mwM mfM mtM mhM mmM mdM mxM mnM szM faM apM waM wrM fuM) H → va_D A (sh_M cs adM mpM mkM mgM mcM mwM mfM mtM mhM mmM mdM mxM mnM szM faM apM waM wrM fuM) → va_S A s.heap H locs → ∀ ls : Array Slot, lv_has ls 5 [(0, .ref (adM 0)), (1, .int p1), (2, .int p2), (3, .int v3), (4, .int v4)] → W p l e (headSpec wsX6_before ({ frames := 4, cells := 0, slots := 0, locals := 99 })).room s m ([.ref (adM 0), .int p1, .int p2] : List Value).toArray below meth c H locs 0 0 (MQ below (va_Qi post (fun faM' t => mAt D cs (A) (sh_M cs adM mpM mkM mgM mcM mwM mfM mtM mhM mmM mdM mxM mnM szM faM' apM waM wrM fuM) t) A) ([.ref (adM 0), .int p1, .int p2] : List Value).toArray s 0 0 A) (F0 m 33 ls [])) := ⟨_, rfl⟩
  have s33 : ∀ (v3 : Int32) (v4 : Int32) (faM : Int32), (vp_in 0 2 ∧ (((mpM (0 : Int32).toNatClampNeg) ≤ v4 → post (-1) faM) ∧ (¬ (mpM (0 : Int32).toNatClampNeg) ≤ v4 → ((v4 = p1 → A33 v3 (v4 + 1) faM) ∧ (¬ v4 = p1 → wp_X6_allOff mpM mcM mwM v4 (fun r_8 _ => wp_X6_isOff r_8 p1 (fun r_9 _ => ((r_9 = 0 → ((v3 = p2 → post v4 faM) ∧ (¬ v3 = p2 → A33 (v3 + 1) (v4 + 1) faM))) ∧ (¬ r_9 = 0 → A33 v3 (v4 + 1) faM))))))))) → A33 v3 v4 faM := by
    intro v3 v4 faM h
    rw [hA33]
    intro H locs hP hD hS ls hl
    refine lv_iload hx hb dX6_before_33 (lv_at hl 4 rfl) ?_
    refine lv_aload_n hx hb dX6_before_35 rfl (lv_at hl 0 rfl) ?_
    refine va_get (D := D) (ci := 5) (v := .ref (adM 1)) (C := RX6) (T := TX6) (N := 18) hx hb hts (by decide +kernel) hown hK hP 0 rfl rfl 0 (by decide) (hts (.fieldLink RX6 7 "PartGraphsModel" "parts" "[I") (by decide +kernel)) (fun _ h9 => h9) rfl dX6_before_36 ?_
    refine lv_iconst (v := 0) hx hb dX6_before_39 (by decide) ?_
    have hin := h.1
    have h := h.2
    refine va_iald (D := D) (cl := vwCl) hx hb hK hP 1 0 rfl rfl hin dX6_before_40 ?_
    refine lv_icmp_ge (tgt := 80) hx hb dX6_before_41 (by decide) (fun c_6 => ?_) (fun c_6 => ?_)
    · have h := h.1 c_6
      refine lv_iconst (v := (-1)) hx hb dX6_before_80 (by decide) ?_
      exact W.iret (v := (-1)) hx hb hr (fun t ht hW => ⟨⟨(-1), faM, rfl, h, by rw [ht]; exact hP, va_K.moved hW.alike hK, hD⟩, hS.F ht⟩) hS.2.2 dX6_before_81
    · have h := h.2 c_6
      refine lv_iload hx hb dX6_before_44 (lv_at hl 4 rfl) ?_
      refine lv_iload_n hx hb dX6_before_46 rfl (lv_at hl 1 rfl) ?_
      refine lv_icmp_eq (tgt := 74) hx hb dX6_before_47 (by decide) (fun c_7 => ?_) (fun c_7 => ?_)
      · have h := h.1 c_7
        refine lv_iinc (v := v4 + 1) (lv' := [(4, .int (v4 + 1)), (0, .ref (adM 0)), (1, .int p1), (2, .int p2), (3, .int v3)]) hx hb dX6_before_74 hl (k := 4) rfl rfl (by decide) rfl (fun ls hl => ?_)
        refine lv_goto (tgt := 33) hx hb dX6_before_77 (by decide) ?_
        rw [hA33] at h
        exact h _ _ hP hD hS ls (lv_sub hl [1, 2, 3, 4, 0] rfl)
      · have h := h.2 c_7
        refine lv_aload_n hx hb dX6_before_50 rfl (lv_at hl 0 rfl) ?_
        refine lv_iload hx hb dX6_before_51 (lv_at hl 4 rfl) ?_
        have hFc := va_free (wc := (sh_M cs adM mpM mkM mgM mcM mwM mfM mtM mhM mmM mdM mxM mnM szM faM apM waM wrM fuM)) hD hS hA [0, 1, 2, 3, 4, 5, 6, 7, 8, 9, 10, 11, 12] rfl
        refine va_calll (va_runV (As := [.int v4]) (rest := []) ⟨hx, hb, hml, hown, hts⟩ (met_X6_allOff l D cs ev _ adM mpM mkM mgM mcM mwM mfM mtM mhM mmM mdM mxM mnM szM faM apM waM wrM fuM v4 _ h) (cwV 1 hts gX6_before_X6_allOff rfl rfl rfl (by decide +kernel) ⟨Nat.le_of_ble_eq_true rfl, Nat.le_of_ble_eq_true rfl⟩) (mPreV (va_recv hK hP (ci := 5) (q0 := 0) rfl rfl) hP hD hS hK hE hFc [0, 1, 2, 3, 4, 5, 6, 7, 8, 9, 10, 11, 12] (by decide) rfl) rfl rfl hl.1 rfl (lv_room (Nat.le_of_ble_eq_true rfl)) dX6_before_53 ⟨Nat.le_of_ble_eq_true rfl, Nat.le_of_ble_eq_true rfl⟩) hS (fun q _ h => hFc q h) hFc (fun r_8 u t H1 locs ht hvm hw hB hz1 hk1 hS => ?_)
        have h := hw
        obtain ⟨hP1, hK1, hD1⟩ := hB
        rw [ht] at hP1
        obtain ⟨hP, hD⟩ := mJoin (wr := ([] : va_W)) (w1 := (sh_M cs adM mpM mkM mgM mcM mwM mfM mtM mhM mmM mdM mxM mnM szM faM apM waM wrM fuM)) (w' := (sh_M cs adM mpM mkM mgM mcM mwM mfM mtM mhM mmM mdM mxM mnM szM faM apM waM wrM fuM)) hP hD [0, 1, 2, 3, 4, 5, 6, 7, 8, 9, 10, 11, 12] [] rfl rfl (by decide) (by decide) hk1 hFc hP1 hD1 [0, 1, 2, 3, 4, 5, 6, 7, 8, 9, 10, 11, 12] (by decide) rfl
        generalize H1 = H at hP hS ⊢
        refine lv_iload_n hx hb dX6_before_56 rfl (lv_at hl 1 rfl) ?_
        have hFc := va_free (wc := ([] : va_W)) hD hS hA [] rfl
        refine va_calli (va_runS (As := [.long r_8, .int p1]) (rest := []) ⟨hx, hb, hml, hown, hts⟩ (met_X6_isOff l D cs ev _ r_8 p1 _ h) (va_cwS 2 hts gX6_before_X6_isOff rfl rfl rfl (by decide +kernel) ⟨Nat.le_of_ble_eq_true rfl, Nat.le_of_ble_eq_true rfl⟩) (mPreS hP hD hS hK hE hFc [] (by decide) rfl) rfl rfl hl.1 rfl (lv_room (Nat.le_of_ble_eq_true rfl)) dX6_before_57 ⟨Nat.le_of_ble_eq_true rfl, Nat.le_of_ble_eq_true rfl⟩) hS (fun q _ h => hFc q h) hFc (fun r_9 u t H1 locs ht hvm hw hB hz1 hk1 hS => ?_)
        have h := hw
        obtain ⟨hP1, hK1, hD1⟩ := hB
        rw [ht] at hP1
        obtain ⟨hP, hD⟩ := mJoin (wr := (sh_M cs adM mpM mkM mgM mcM mwM mfM mtM mhM mmM mdM mxM mnM szM faM apM waM wrM fuM)) (w1 := ([] : va_W)) (w' := (sh_M cs adM mpM mkM mgM mcM mwM mfM mtM mhM mmM mdM mxM mnM szM faM apM waM wrM fuM)) hP hD [] [0, 1, 2, 3, 4, 5, 6, 7, 8, 9, 10, 11, 12] rfl rfl (by decide) (by decide) hk1 hFc hP1 hD1 [0, 1, 2, 3, 4, 5, 6, 7, 8, 9, 10, 11, 12] (by decide) rfl
        generalize H1 = H at hP hS ⊢
        refine lv_if_ne (tgt := 74) hx hb dX6_before_60 (by decide) (fun c_10 => ?_) (fun c_10 => ?_)
        · have h := h.2 c_10
          refine lv_iinc (v := v4 + 1) (lv' := [(4, .int (v4 + 1)), (0, .ref (adM 0)), (1, .int p1), (2, .int p2), (3, .int v3)]) hx hb dX6_before_74 hl (k := 4) rfl rfl (by decide) rfl (fun ls hl => ?_)
          refine lv_goto (tgt := 33) hx hb dX6_before_77 (by decide) ?_
          rw [hA33] at h
          exact h _ _ hP hD hS ls (lv_sub hl [1, 2, 3, 4, 0] rfl)
        · have h := h.1 c_10
          refine lv_iload_n hx hb dX6_before_63 rfl (lv_at hl 3 rfl) ?_
          refine lv_iload_n hx hb dX6_before_64 rfl (lv_at hl 2 rfl) ?_
          refine lv_icmp_ne (tgt := 71) hx hb dX6_before_65 (by decide) (fun c_11 => ?_) (fun c_11 => ?_)
          · have h := h.2 c_11
            refine lv_iinc (v := v3 + 1) (lv' := [(3, .int (v3 + 1)), (0, .ref (adM 0)), (1, .int p1), (2, .int p2), (4, .int v4)]) hx hb dX6_before_71 hl (k := 3) rfl rfl (by decide) rfl (fun ls hl => ?_)
            refine lv_iinc (v := v4 + 1) (lv' := [(4, .int (v4 + 1)), (3, .int (v3 + 1)), (0, .ref (adM 0)), (1, .int p1), (2, .int p2)]) hx hb dX6_before_74 hl (k := 4) rfl rfl (by decide) rfl (fun ls hl => ?_)
            refine lv_goto (tgt := 33) hx hb dX6_before_77 (by decide) ?_
            rw [hA33] at h
            exact h _ _ hP hD hS ls (lv_sub hl [2, 3, 4, 1, 0] rfl)
          · have h := h.1 c_11
            refine lv_iload hx hb dX6_before_68 (lv_at hl 4 rfl) ?_
            exact W.iret (v := v4) hx hb hr (fun t ht hW => ⟨⟨v4, faM, rfl, h, by rw [ht]; exact hP, va_K.moved hW.alike hK, hD⟩, hS.F ht⟩) hS.2.2 dX6_before_70
  have h := h A33 s33
  refine lv_aload_n hx hb dX6_before_0 rfl (lv_at hl 0 rfl) ?_
  refine lv_iconst (v := 0) hx hb dX6_before_1 (by decide) ?_
  refine va_put (D := D) (ci := 5) (v := .int 0) (ty := .int) (C := RX6) (T := TX6) (N := 18) hx hb hts (by decide +kernel) tyX6 tyX6_ok nmX6 hown hK hP hD hS 0 rfl rfl 12 (by decide) (hts (.fieldLink RX6 52 "PartGraphsModel" "fault" "I") (by decide +kernel)) (fun _ h9 => h9) rfl (by decide +kernel) rfl rfl (Nat.le_of_ble_eq_true rfl) dX6_before_2 (fun H locs hP hD hS => ?_)
  have hP : va_P D vwCl (sh_M cs adM mpM mkM mgM mcM mwM mfM mtM mhM mmM mdM mxM mnM szM 0 apM waM wrM fuM) H := hP
  have hD : va_D A (sh_M cs adM mpM mkM mgM mcM mwM mfM mtM mhM mmM mdM mxM mnM szM 0 apM waM wrM fuM) := hD
  refine lv_aload_n hx hb dX6_before_5 rfl (lv_at hl 0 rfl) ?_
  refine lv_iconst (v := 0) hx hb dX6_before_6 (by decide) ?_
  refine lv_iload_n hx hb dX6_before_7 rfl (lv_at hl 1 rfl) ?_
  have hFc := va_free (wc := (sh_M cs adM mpM mkM mgM mcM mwM mfM mtM mhM mmM mdM mxM mnM szM 0 apM waM wrM fuM)) hD hS hA [0, 1, 2, 3, 4, 5, 6, 7, 8, 9, 10, 11, 12] rfl
  refine va_calli (va_runV (As := [.int 0, .int p1]) (rest := []) ⟨hx, hb, hml, hown, hts⟩ (met_X6_isPart l D cs ev _ adM mpM mkM mgM mcM mwM mfM mtM mhM mmM mdM mxM mnM szM 0 apM waM wrM fuM 0 p1 _ h) (cwV 2 hts gX6_before_X6_isPart rfl rfl rfl (by decide +kernel) ⟨Nat.le_of_ble_eq_true rfl, Nat.le_of_ble_eq_true rfl⟩) (mPreV (va_recv hK hP (ci := 5) (q0 := 0) rfl rfl) hP hD hS hK hE hFc [0, 1, 2, 3, 4, 5, 6, 7, 8, 9, 10, 11, 12] (by decide) rfl) rfl rfl hl.1 rfl (lv_room (Nat.le_of_ble_eq_true rfl)) dX6_before_8 ⟨Nat.le_of_ble_eq_true rfl, Nat.le_of_ble_eq_true rfl⟩) hS (fun q _ h => hFc q h) hFc (fun r_1 u t H1 locs ht hvm hw hB hz1 hk1 hS => ?_)
  have h := hw
  obtain ⟨hP1, hK1, hD1⟩ := hB
  rw [ht] at hP1
  obtain ⟨hP, hD⟩ := mJoin (wr := ([] : va_W)) (w1 := (sh_M cs adM mpM mkM mgM mcM mwM mfM mtM mhM mmM mdM mxM mnM szM 0 apM waM wrM fuM)) (w' := (sh_M cs adM mpM mkM mgM mcM mwM mfM mtM mhM mmM mdM mxM mnM szM 0 apM waM wrM fuM)) hP hD [0, 1, 2, 3, 4, 5, 6, 7, 8, 9, 10, 11, 12] [] rfl rfl (by decide) (by decide) hk1 hFc hP1 hD1 [0, 1, 2, 3, 4, 5, 6, 7, 8, 9, 10, 11, 12] (by decide) rfl
  generalize H1 = H at hP hS ⊢
  refine lv_if_eq (tgt := 26) hx hb dX6_before_11 (by decide) (fun c_2 => ?_) (fun c_2 => ?_)
  · have h := h.1 c_2
    refine lv_iconst (v := (-1)) hx hb dX6_before_26 (by decide) ?_
    exact W.iret (v := (-1)) hx hb hr (fun t ht hW => ⟨⟨(-1), 0, rfl, h, by rw [ht]; exact hP, va_K.moved hW.alike hK, hD⟩, hS.F ht⟩) hS.2.2 dX6_before_27
  · have h := h.2 c_2
    refine lv_aload_n hx hb dX6_before_14 rfl (lv_at hl 0 rfl) ?_
    refine lv_iconst (v := (-1)) hx hb dX6_before_15 (by decide) ?_
    have hFc := va_free (wc := (sh_M cs adM mpM mkM mgM mcM mwM mfM mtM mhM mmM mdM mxM mnM szM 0 apM waM wrM fuM)) hD hS hA [0, 1, 2, 3, 4, 5, 6, 7, 8, 9, 10, 11, 12] rfl
    refine va_calll (va_runV (As := [.int (-1)]) (rest := []) ⟨hx, hb, hml, hown, hts⟩ (met_X6_allOff l D cs ev _ adM mpM mkM mgM mcM mwM mfM mtM mhM mmM mdM mxM mnM szM 0 apM waM wrM fuM (-1) _ h) (cwV 1 hts gX6_before_X6_allOff rfl rfl rfl (by decide +kernel) ⟨Nat.le_of_ble_eq_true rfl, Nat.le_of_ble_eq_true rfl⟩) (mPreV (va_recv hK hP (ci := 5) (q0 := 0) rfl rfl) hP hD hS hK hE hFc [0, 1, 2, 3, 4, 5, 6, 7, 8, 9, 10, 11, 12] (by decide) rfl) rfl rfl hl.1 rfl (lv_room (Nat.le_of_ble_eq_true rfl)) dX6_before_16 ⟨Nat.le_of_ble_eq_true rfl, Nat.le_of_ble_eq_true rfl⟩) hS (fun q _ h => hFc q h) hFc (fun r_3 u t H1 locs ht hvm hw hB hz1 hk1 hS => ?_)
    have h := hw
    obtain ⟨hP1, hK1, hD1⟩ := hB
    rw [ht] at hP1
    obtain ⟨hP, hD⟩ := mJoin (wr := ([] : va_W)) (w1 := (sh_M cs adM mpM mkM mgM mcM mwM mfM mtM mhM mmM mdM mxM mnM szM 0 apM waM wrM fuM)) (w' := (sh_M cs adM mpM mkM mgM mcM mwM mfM mtM mhM mmM mdM mxM mnM szM 0 apM waM wrM fuM)) hP hD [0, 1, 2, 3, 4, 5, 6, 7, 8, 9, 10, 11, 12] [] rfl rfl (by decide) (by decide) hk1 hFc hP1 hD1 [0, 1, 2, 3, 4, 5, 6, 7, 8, 9, 10, 11, 12] (by decide) rfl
    generalize H1 = H at hP hS ⊢
    refine lv_iload_n hx hb dX6_before_19 rfl (lv_at hl 1 rfl) ?_
    have hFc := va_free (wc := ([] : va_W)) hD hS hA [] rfl
    refine va_calli (va_runS (As := [.long r_3, .int p1]) (rest := []) ⟨hx, hb, hml, hown, hts⟩ (met_X6_isOff l D cs ev _ r_3 p1 _ h) (va_cwS 2 hts gX6_before_X6_isOff rfl rfl rfl (by decide +kernel) ⟨Nat.le_of_ble_eq_true rfl, Nat.le_of_ble_eq_true rfl⟩) (mPreS hP hD hS hK hE hFc [] (by decide) rfl) rfl rfl hl.1 rfl (lv_room (Nat.le_of_ble_eq_true rfl)) dX6_before_20 ⟨Nat.le_of_ble_eq_true rfl, Nat.le_of_ble_eq_true rfl⟩) hS (fun q _ h => hFc q h) hFc (fun r_4 u t H1 locs ht hvm hw hB hz1 hk1 hS => ?_)
    have h := hw
    obtain ⟨hP1, hK1, hD1⟩ := hB
    rw [ht] at hP1
    obtain ⟨hP, hD⟩ := mJoin (wr := (sh_M cs adM mpM mkM mgM mcM mwM mfM mtM mhM mmM mdM mxM mnM szM 0 apM waM wrM fuM)) (w1 := ([] : va_W)) (w' := (sh_M cs adM mpM mkM mgM mcM mwM mfM mtM mhM mmM mdM mxM mnM szM 0 apM waM wrM fuM)) hP hD [] [0, 1, 2, 3, 4, 5, 6, 7, 8, 9, 10, 11, 12] rfl rfl (by decide) (by decide) hk1 hFc hP1 hD1 [0, 1, 2, 3, 4, 5, 6, 7, 8, 9, 10, 11, 12] (by decide) rfl
    generalize H1 = H at hP hS ⊢
    refine lv_if_ne (tgt := 28) hx hb dX6_before_23 (by decide) (fun c_5 => ?_) (fun c_5 => ?_)
    · have h := h.2 c_5
      refine lv_iconst (v := 0) hx hb dX6_before_28 (by decide) ?_
      refine lv_istore_n (lv' := [(3, .int 0), (0, .ref (adM 0)), (1, .int p1), (2, .int p2)]) hx hb dX6_before_29 rfl hl (by decide) rfl (fun ls hl => ?_)
      refine lv_iconst (v := 0) hx hb dX6_before_30 (by decide) ?_
      refine lv_istore (lv' := [(4, .int 0), (3, .int 0), (0, .ref (adM 0)), (1, .int p1), (2, .int p2)]) hx hb dX6_before_31 hl (by decide) rfl (fun ls hl => ?_)
      rw [hA33] at h
      exact h _ _ hP hD hS ls (lv_sub hl [2, 3, 4, 1, 0] rfl)
    · have h := h.1 c_5
      refine lv_iconst (v := (-1)) hx hb dX6_before_26 (by decide) ?_
      exact W.iret (v := (-1)) hx hb hr (fun t ht hW => ⟨⟨(-1), 0, rfl, h, by rw [ht]; exact hP, va_K.moved hW.alike hK, hD⟩, hS.F ht⟩) hS.2.2 dX6_before_27
def wp_X6_ring (mpM : Nat → Int32) (mcM : Nat → Int32) (mwM : Nat → Int32) (faM : Int32) (p1 : Int32) (post : Int32 → Int32 → Prop) : Prop :=
    ∀ (A17 : Int64 → Int32 → Int32 → Int32 → Prop),
    (∀ (v2 : Int64) (v4 : Int32) (v5 : Int32) (faM : Int32), (vp_in 0 2 ∧ (((mpM (0 : Int32).toNatClampNeg) ≤ v5 → post (-1) faM) ∧ (¬ (mpM (0 : Int32).toNatClampNeg) ≤ v5 → wp_X6_isOff v2 v5 (fun r_3 _ => ((r_3 = 0 → ((v4 = p1 → post v5 faM) ∧ (¬ v4 = p1 → A17 v2 (v4 + 1) (v5 + 1) faM))) ∧ (¬ r_3 = 0 → A17 v2 v4 (v5 + 1) faM)))))) → A17 v2 v4 v5 faM) →
    wp_X6_allOff mpM mcM mwM (-1) (fun r_1 _ => A17 r_1 0 0 0)
set_option maxHeartbeats 4000000 in
set_option maxRecDepth 100000 in
theorem met_X6_ring (l : Launch) (D : va_G) (cs : Nat → ClassId) (ev : Nat → Nat → Nat) (sz0 : Nat) (adM : Nat → Nat) (mpM : Nat → Int32) (mkM : Nat → Int32) (mgM : Nat → Int32) (mcM : Nat → Int32) (mwM : Nat → Int32) (mfM : Nat → Int32) (mtM : Nat → Int32) (mhM : Nat → Int32) (mmM : Nat → Int32) (mdM : Nat → Int32) (mxM : Nat → Int32) (mnM : Nat → Int32) (szM : Int32) (faM : Int32) (apM : Int32) (waM : Int32) (wrM : Int32) (fuM : Int32) (p1 : Int32) (post : Int32 → Int32 → Prop) (h : wp_X6_ring mpM mcM mwM faM p1 post) : Met l yX6_ring wsX6_ring ({ frames := 4, cells := 0, slots := 0, locals := 99 }) (va_Pc [.ref (adM 0), .int p1] (mPre D cs ev (sh_M cs adM mpM mkM mgM mcM mwM mfM mtM mhM mmM mdM mxM mnM szM faM apM waM wrM fuM) sz0)) (va_Qi post (fun faM' t => mAt D cs (va_A (sh_M cs adM mpM mkM mgM mcM mwM mfM mtM mhM mmM mdM mxM mnM szM faM apM waM wrM fuM) sz0) (sh_M cs adM mpM mkM mgM mcM mwM mfM mtM mhM mmM mdM mxM mnM szM faM' apM waM wrM fuM) t) (va_A (sh_M cs adM mpM mkM mgM mcM mwM mfM mtM mhM mmM mdM mxM mnM szM faM apM waM wrM fuM) sz0)) 0 0 (va_A (sh_M cs adM mpM mkM mgM mcM mwM mfM mtM mhM mmM mdM mxM mnM szM faM apM waM wrM fuM) sz0) := by
  refine Met.ofW (cc := cX6_ring) (maxL := 6) (ret := (some .int)) (by decide) rfl ?_
  intro p e s m args below meth c s₁ B hml hv
  obtain ⟨rfl, hsz, hP, hK, hD0, hE⟩ := hv
  have hx := B.exec
  have hb := B.bytes
  have hr := B.returns
  have hts := atoms_spec (ws := wsX6_ring) B.pre
  have hown : s.vm.findClass RX6 = some m.cls := findClass_of_methodNamed B.named
  have hlocks := B.notSynchronized
  subst hsz
  have hD := hD0.self (sz := s.heap.size)
  generalize hAe : va_A (sh_M cs adM mpM mkM mgM mcM mwM mfM mtM mhM mmM mdM mxM mnM szM faM apM waM wrM fuM) s.heap.size = A at hD hE ⊢
  have hA : ∀ q : Nat, s.heap.size ≤ q → A q := fun q h => by rw [← hAe]; exact Or.inr h
  have hS : va_S A s.heap s.heap [] := va_S.rf
  have hl := lv_entry ([.ref (adM 0), .int p1]) (n := 6) (Nat.le_of_ble_eq_true rfl)
  rw [lg_entry_eq]
  generalize (lg_sl ([.ref (adM 0), .int p1]) ++ List.replicate (6 - (lg_sl ([.ref (adM 0), .int p1])).length) Slot.unset).toArray = ls at hl ⊢
  have hl : lv_has ls 6 [(0, .ref (adM 0)), (1, .int p1)] := hl
  obtain ⟨A17, hA17⟩ : ∃ Q : Int64 → Int32 → Int32 → Int32 → Prop, Q = (fun v2 v4 v5 faM => ∀ (H : Heap) (locs : List Loc), va_P D vwCl (sh_M cs adM mpM mkM mgM mcM mwM mfM mtM mhM mmM mdM mxM mnM szM faM apM waM wrM fuM) H → va_D A (sh_M cs adM mpM mkM mgM mcM mwM mfM mtM mhM mmM mdM mxM mnM szM faM apM waM wrM fuM) → va_S A s.heap H locs → ∀ ls : Array Slot, lv_has ls 6 [(0, .ref (adM 0)), (1, .int p1), (2, .long v2), (4, .int v4), (5, .int v5)] → W p l e (headSpec wsX6_ring ({ frames := 4, cells := 0, slots := 0, locals := 99 })).room s m ([.ref (adM 0), .int p1] : List Value).toArray below meth c H locs 0 0 (MQ below (va_Qi post (fun faM' t => mAt D cs (A) (sh_M cs adM mpM mkM mgM mcM mwM mfM mtM mhM mmM mdM mxM mnM szM faM' apM waM wrM fuM) t) A) ([.ref (adM 0), .int p1] : List Value).toArray s 0 0 A) (F0 m 17 ls [])) := ⟨_, rfl⟩
  have s17 : ∀ (v2 : Int64) (v4 : Int32) (v5 : Int32) (faM : Int32), (vp_in 0 2 ∧ (((mpM (0 : Int32).toNatClampNeg) ≤ v5 → post (-1) faM) ∧ (¬ (mpM (0 : Int32).toNatClampNeg) ≤ v5 → wp_X6_isOff v2 v5 (fun r_3 _ => ((r_3 = 0 → ((v4 = p1 → post v5 faM) ∧ (¬ v4 = p1 → A17 v2 (v4 + 1) (v5 + 1) faM))) ∧ (¬ r_3 = 0 → A17 v2 v4 (v5 + 1) faM)))))) → A17 v2 v4 v5 faM := by
    intro v2 v4 v5 faM h
    rw [hA17]
    intro H locs hP hD hS ls hl
    refine lv_iload hx hb dX6_ring_17 (lv_at hl 4 rfl) ?_
    refine lv_aload_n hx hb dX6_ring_19 rfl (lv_at hl 0 rfl) ?_
    refine va_get (D := D) (ci := 5) (v := .ref (adM 1)) (C := RX6) (T := TX6) (N := 18) hx hb hts (by decide +kernel) hown hK hP 0 rfl rfl 0 (by decide) (hts (.fieldLink RX6 7 "PartGraphsModel" "parts" "[I") (by decide +kernel)) (fun _ h9 => h9) rfl dX6_ring_20 ?_
    refine lv_iconst (v := 0) hx hb dX6_ring_23 (by decide) ?_
    have hin := h.1
    have h := h.2
    refine va_iald (D := D) (cl := vwCl) hx hb hK hP 1 0 rfl rfl hin dX6_ring_24 ?_
    refine lv_icmp_ge (tgt := 55) hx hb dX6_ring_25 (by decide) (fun c_2 => ?_) (fun c_2 => ?_)
    · have h := h.1 c_2
      refine lv_iconst (v := (-1)) hx hb dX6_ring_55 (by decide) ?_
      exact W.iret (v := (-1)) hx hb hr (fun t ht hW => ⟨⟨(-1), faM, rfl, h, by rw [ht]; exact hP, va_K.moved hW.alike hK, hD⟩, hS.F ht⟩) hS.2.2 dX6_ring_56
    · have h := h.2 c_2
      refine lv_lload_n hx hb dX6_ring_28 rfl (lv_at hl 2 rfl) ?_
      refine lv_iload hx hb dX6_ring_29 (lv_at hl 4 rfl) ?_
      have hFc := va_free (wc := ([] : va_W)) hD hS hA [] rfl
      refine va_calli (va_runS (As := [.long v2, .int v5]) (rest := []) ⟨hx, hb, hml, hown, hts⟩ (met_X6_isOff l D cs ev _ v2 v5 _ h) (va_cwS 2 hts gX6_ring_X6_isOff rfl rfl rfl (by decide +kernel) ⟨Nat.le_of_ble_eq_true rfl, Nat.le_of_ble_eq_true rfl⟩) (mPreS hP hD hS hK hE hFc [] (by decide) rfl) rfl rfl hl.1 rfl (lv_room (Nat.le_of_ble_eq_true rfl)) dX6_ring_31 ⟨Nat.le_of_ble_eq_true rfl, Nat.le_of_ble_eq_true rfl⟩) hS (fun q _ h => hFc q h) hFc (fun r_3 u t H1 locs ht hvm hw hB hz1 hk1 hS => ?_)
      have h := hw
      obtain ⟨hP1, hK1, hD1⟩ := hB
      rw [ht] at hP1
      obtain ⟨hP, hD⟩ := mJoin (wr := (sh_M cs adM mpM mkM mgM mcM mwM mfM mtM mhM mmM mdM mxM mnM szM faM apM waM wrM fuM)) (w1 := ([] : va_W)) (w' := (sh_M cs adM mpM mkM mgM mcM mwM mfM mtM mhM mmM mdM mxM mnM szM faM apM waM wrM fuM)) hP hD [] [0, 1, 2, 3, 4, 5, 6, 7, 8, 9, 10, 11, 12] rfl rfl (by decide) (by decide) hk1 hFc hP1 hD1 [0, 1, 2, 3, 4, 5, 6, 7, 8, 9, 10, 11, 12] (by decide) rfl
      generalize H1 = H at hP hS ⊢
      refine lv_if_ne (tgt := 49) hx hb dX6_ring_34 (by decide) (fun c_4 => ?_) (fun c_4 => ?_)
      · have h := h.2 c_4
        refine lv_iinc (v := v5 + 1) (lv' := [(5, .int (v5 + 1)), (0, .ref (adM 0)), (1, .int p1), (2, .long v2), (4, .int v4)]) hx hb dX6_ring_49 hl (k := 4) rfl rfl (by decide) rfl (fun ls hl => ?_)
        refine lv_goto (tgt := 17) hx hb dX6_ring_52 (by decide) ?_
        rw [hA17] at h
        exact h _ _ hP hD hS ls (lv_sub hl [1, 2, 3, 4, 0] rfl)
      · have h := h.1 c_4
        refine lv_iload hx hb dX6_ring_37 (lv_at hl 3 rfl) ?_
        refine lv_iload_n hx hb dX6_ring_39 rfl (lv_at hl 1 rfl) ?_
        refine lv_icmp_ne (tgt := 46) hx hb dX6_ring_40 (by decide) (fun c_5 => ?_) (fun c_5 => ?_)
        · have h := h.2 c_5
          refine lv_iinc (v := v4 + 1) (lv' := [(4, .int (v4 + 1)), (0, .ref (adM 0)), (1, .int p1), (2, .long v2), (5, .int v5)]) hx hb dX6_ring_46 hl (k := 3) rfl rfl (by decide) rfl (fun ls hl => ?_)
          refine lv_iinc (v := v5 + 1) (lv' := [(5, .int (v5 + 1)), (4, .int (v4 + 1)), (0, .ref (adM 0)), (1, .int p1), (2, .long v2)]) hx hb dX6_ring_49 hl (k := 4) rfl rfl (by decide) rfl (fun ls hl => ?_)
          refine lv_goto (tgt := 17) hx hb dX6_ring_52 (by decide) ?_
          rw [hA17] at h
          exact h _ _ hP hD hS ls (lv_sub hl [2, 3, 4, 1, 0] rfl)
        · have h := h.1 c_5
          refine lv_iload hx hb dX6_ring_43 (lv_at hl 4 rfl) ?_
          exact W.iret (v := v5) hx hb hr (fun t ht hW => ⟨⟨v5, faM, rfl, h, by rw [ht]; exact hP, va_K.moved hW.alike hK, hD⟩, hS.F ht⟩) hS.2.2 dX6_ring_45
  have h := h A17 s17
  refine lv_aload_n hx hb dX6_ring_0 rfl (lv_at hl 0 rfl) ?_
  refine lv_iconst (v := 0) hx hb dX6_ring_1 (by decide) ?_
  refine va_put (D := D) (ci := 5) (v := .int 0) (ty := .int) (C := RX6) (T := TX6) (N := 18) hx hb hts (by decide +kernel) tyX6 tyX6_ok nmX6 hown hK hP hD hS 0 rfl rfl 12 (by decide) (hts (.fieldLink RX6 52 "PartGraphsModel" "fault" "I") (by decide +kernel)) (fun _ h9 => h9) rfl (by decide +kernel) rfl rfl (Nat.le_of_ble_eq_true rfl) dX6_ring_2 (fun H locs hP hD hS => ?_)
  have hP : va_P D vwCl (sh_M cs adM mpM mkM mgM mcM mwM mfM mtM mhM mmM mdM mxM mnM szM 0 apM waM wrM fuM) H := hP
  have hD : va_D A (sh_M cs adM mpM mkM mgM mcM mwM mfM mtM mhM mmM mdM mxM mnM szM 0 apM waM wrM fuM) := hD
  refine lv_aload_n hx hb dX6_ring_5 rfl (lv_at hl 0 rfl) ?_
  refine lv_iconst (v := (-1)) hx hb dX6_ring_6 (by decide) ?_
  have hFc := va_free (wc := (sh_M cs adM mpM mkM mgM mcM mwM mfM mtM mhM mmM mdM mxM mnM szM 0 apM waM wrM fuM)) hD hS hA [0, 1, 2, 3, 4, 5, 6, 7, 8, 9, 10, 11, 12] rfl
  refine va_calll (va_runV (As := [.int (-1)]) (rest := []) ⟨hx, hb, hml, hown, hts⟩ (met_X6_allOff l D cs ev _ adM mpM mkM mgM mcM mwM mfM mtM mhM mmM mdM mxM mnM szM 0 apM waM wrM fuM (-1) _ h) (cwV 1 hts gX6_ring_X6_allOff rfl rfl rfl (by decide +kernel) ⟨Nat.le_of_ble_eq_true rfl, Nat.le_of_ble_eq_true rfl⟩) (mPreV (va_recv hK hP (ci := 5) (q0 := 0) rfl rfl) hP hD hS hK hE hFc [0, 1, 2, 3, 4, 5, 6, 7, 8, 9, 10, 11, 12] (by decide) rfl) rfl rfl hl.1 rfl (lv_room (Nat.le_of_ble_eq_true rfl)) dX6_ring_7 ⟨Nat.le_of_ble_eq_true rfl, Nat.le_of_ble_eq_true rfl⟩) hS (fun q _ h => hFc q h) hFc (fun r_1 u t H1 locs ht hvm hw hB hz1 hk1 hS => ?_)
  have h := hw
  obtain ⟨hP1, hK1, hD1⟩ := hB
  rw [ht] at hP1
  obtain ⟨hP, hD⟩ := mJoin (wr := ([] : va_W)) (w1 := (sh_M cs adM mpM mkM mgM mcM mwM mfM mtM mhM mmM mdM mxM mnM szM 0 apM waM wrM fuM)) (w' := (sh_M cs adM mpM mkM mgM mcM mwM mfM mtM mhM mmM mdM mxM mnM szM 0 apM waM wrM fuM)) hP hD [0, 1, 2, 3, 4, 5, 6, 7, 8, 9, 10, 11, 12] [] rfl rfl (by decide) (by decide) hk1 hFc hP1 hD1 [0, 1, 2, 3, 4, 5, 6, 7, 8, 9, 10, 11, 12] (by decide) rfl
  generalize H1 = H at hP hS ⊢
  refine lv_lstore_n (lv' := [(2, .long r_1), (0, .ref (adM 0)), (1, .int p1)]) hx hb dX6_ring_10 rfl hl (by decide) rfl (fun ls hl => ?_)
  refine lv_iconst (v := 0) hx hb dX6_ring_11 (by decide) ?_
  refine lv_istore (lv' := [(4, .int 0), (2, .long r_1), (0, .ref (adM 0)), (1, .int p1)]) hx hb dX6_ring_12 hl (by decide) rfl (fun ls hl => ?_)
  refine lv_iconst (v := 0) hx hb dX6_ring_14 (by decide) ?_
  refine lv_istore (lv' := [(5, .int 0), (4, .int 0), (2, .long r_1), (0, .ref (adM 0)), (1, .int p1)]) hx hb dX6_ring_15 hl (by decide) rfl (fun ls hl => ?_)
  rw [hA17] at h
  exact h _ _ hP hD hS ls (lv_sub hl [3, 4, 2, 1, 0] rfl)
def wp_X6_sizeOf (mpM : Nat → Int32) (mmM : Nat → Int32) (p1 : Int32) (post : Int32 → Unit → Prop) : Prop :=
    ∀ (A4 : Int32 → Int32 → Prop),
    (∀ (v2 : Int32) (v3 : Int32), (vp_in 0 2 ∧ (((mpM (0 : Int32).toNatClampNeg) ≤ v3 → post v2 ()) ∧ (¬ (mpM (0 : Int32).toNatClampNeg) ≤ v3 → (vp_in v3 20 ∧ (((mmM v3.toNatClampNeg) = p1 → A4 (v2 + 1) (v3 + 1)) ∧ (¬ (mmM v3.toNatClampNeg) = p1 → A4 (v2 + 0) (v3 + 1))))))) → A4 v2 v3) →
    A4 0 0
set_option maxHeartbeats 4000000 in
set_option maxRecDepth 100000 in
theorem met_X6_sizeOf (l : Launch) (D : va_G) (cs : Nat → ClassId) (ev : Nat → Nat → Nat) (sz0 : Nat) (adM : Nat → Nat) (mpM : Nat → Int32) (mkM : Nat → Int32) (mgM : Nat → Int32) (mcM : Nat → Int32) (mwM : Nat → Int32) (mfM : Nat → Int32) (mtM : Nat → Int32) (mhM : Nat → Int32) (mmM : Nat → Int32) (mdM : Nat → Int32) (mxM : Nat → Int32) (mnM : Nat → Int32) (szM : Int32) (faM : Int32) (apM : Int32) (waM : Int32) (wrM : Int32) (fuM : Int32) (p1 : Int32) (post : Int32 → Unit → Prop) (h : wp_X6_sizeOf mpM mmM p1 post) : Met l yX6_sizeOf wsX6_sizeOf ({ frames := 0, cells := 0, slots := 0, locals := 0 }) (va_Pc [.ref (adM 0), .int p1] (mPre D cs ev (sh_M cs adM mpM mkM mgM mcM mwM mfM mtM mhM mmM mdM mxM mnM szM faM apM waM wrM fuM) sz0)) (va_Qi post (fun _ t => mAt D cs (va_A (sh_M cs adM mpM mkM mgM mcM mwM mfM mtM mhM mmM mdM mxM mnM szM faM apM waM wrM fuM) sz0) (sh_M cs adM mpM mkM mgM mcM mwM mfM mtM mhM mmM mdM mxM mnM szM faM apM waM wrM fuM) t) (va_A (sh_M cs adM mpM mkM mgM mcM mwM mfM mtM mhM mmM mdM mxM mnM szM faM apM waM wrM fuM) sz0)) 0 0 (va_A (sh_M cs adM mpM mkM mgM mcM mwM mfM mtM mhM mmM mdM mxM mnM szM faM apM waM wrM fuM) sz0) := by
  refine Met.ofW (cc := cX6_sizeOf) (maxL := 4) (ret := (some .int)) (by decide) rfl ?_
  intro p e s m args below meth c s₁ B hml hv
  obtain ⟨rfl, hsz, hP, hK, hD0, hE⟩ := hv
  have hx := B.exec
  have hb := B.bytes
  have hr := B.returns
  have hts := atoms_spec (ws := wsX6_sizeOf) B.pre
  have hown : s.vm.findClass RX6 = some m.cls := findClass_of_methodNamed B.named
  have hlocks := B.notSynchronized
  subst hsz
  have hD := hD0.self (sz := s.heap.size)
  generalize hAe : va_A (sh_M cs adM mpM mkM mgM mcM mwM mfM mtM mhM mmM mdM mxM mnM szM faM apM waM wrM fuM) s.heap.size = A at hD hE ⊢
  have hA : ∀ q : Nat, s.heap.size ≤ q → A q := fun q h => by rw [← hAe]; exact Or.inr h
  have hS : va_S A s.heap s.heap [] := va_S.rf
  have hl := lv_entry ([.ref (adM 0), .int p1]) (n := 4) (Nat.le_of_ble_eq_true rfl)
  rw [lg_entry_eq]
  generalize (lg_sl ([.ref (adM 0), .int p1]) ++ List.replicate (4 - (lg_sl ([.ref (adM 0), .int p1])).length) Slot.unset).toArray = ls at hl ⊢
  have hl : lv_has ls 4 [(0, .ref (adM 0)), (1, .int p1)] := hl
  obtain ⟨A4, hA4⟩ : ∃ Q : Int32 → Int32 → Prop, Q = (fun v2 v3 => ∀ (H : Heap) (locs : List Loc), va_P D vwCl (sh_M cs adM mpM mkM mgM mcM mwM mfM mtM mhM mmM mdM mxM mnM szM faM apM waM wrM fuM) H → va_D A (sh_M cs adM mpM mkM mgM mcM mwM mfM mtM mhM mmM mdM mxM mnM szM faM apM waM wrM fuM) → va_S A s.heap H locs → ∀ ls : Array Slot, lv_has ls 4 [(0, .ref (adM 0)), (1, .int p1), (2, .int v2), (3, .int v3)] → W p l e (headSpec wsX6_sizeOf ({ frames := 0, cells := 0, slots := 0, locals := 0 })).room s m ([.ref (adM 0), .int p1] : List Value).toArray below meth c H locs 0 0 (MQ below (va_Qi post (fun _ t => mAt D cs (A) (sh_M cs adM mpM mkM mgM mcM mwM mfM mtM mhM mmM mdM mxM mnM szM faM apM waM wrM fuM) t) A) ([.ref (adM 0), .int p1] : List Value).toArray s 0 0 A) (F0 m 4 ls [])) := ⟨_, rfl⟩
  have s4 : ∀ (v2 : Int32) (v3 : Int32), (vp_in 0 2 ∧ (((mpM (0 : Int32).toNatClampNeg) ≤ v3 → post v2 ()) ∧ (¬ (mpM (0 : Int32).toNatClampNeg) ≤ v3 → (vp_in v3 20 ∧ (((mmM v3.toNatClampNeg) = p1 → A4 (v2 + 1) (v3 + 1)) ∧ (¬ (mmM v3.toNatClampNeg) = p1 → A4 (v2 + 0) (v3 + 1))))))) → A4 v2 v3 := by
    intro v2 v3 h
    rw [hA4]
    intro H locs hP hD hS ls hl
    refine lv_iload_n hx hb dX6_sizeOf_4 rfl (lv_at hl 3 rfl) ?_
    refine lv_aload_n hx hb dX6_sizeOf_5 rfl (lv_at hl 0 rfl) ?_
    refine va_get (D := D) (ci := 5) (v := .ref (adM 1)) (C := RX6) (T := TX6) (N := 18) hx hb hts (by decide +kernel) hown hK hP 0 rfl rfl 0 (by decide) (hts (.fieldLink RX6 7 "PartGraphsModel" "parts" "[I") (by decide +kernel)) (fun _ h9 => h9) rfl dX6_sizeOf_6 ?_
    refine lv_iconst (v := 0) hx hb dX6_sizeOf_9 (by decide) ?_
    have hin := h.1
    have h := h.2
    refine va_iald (D := D) (cl := vwCl) hx hb hK hP 1 0 rfl rfl hin dX6_sizeOf_10 ?_
    refine lv_icmp_ge (tgt := 38) hx hb dX6_sizeOf_11 (by decide) (fun c_1 => ?_) (fun c_1 => ?_)
    · have h := h.1 c_1
      refine lv_iload_n hx hb dX6_sizeOf_38 rfl (lv_at hl 2 rfl) ?_
      exact W.iret (v := v2) hx hb hr (fun t ht hW => ⟨⟨v2, (), rfl, h, by rw [ht]; exact hP, va_K.moved hW.alike hK, hD⟩, hS.F ht⟩) hS.2.2 dX6_sizeOf_39
    · have h := h.2 c_1
      refine lv_iload_n hx hb dX6_sizeOf_14 rfl (lv_at hl 2 rfl) ?_
      refine lv_aload_n hx hb dX6_sizeOf_15 rfl (lv_at hl 0 rfl) ?_
      refine va_get (D := D) (ci := 5) (v := .ref (adM 9)) (C := RX6) (T := TX6) (N := 18) hx hb hts (by decide +kernel) hown hK hP 0 rfl rfl 8 (by decide) (hts (.fieldLink RX6 35 "PartGraphsModel" "families" "[I") (by decide +kernel)) (fun _ h9 => h9) rfl dX6_sizeOf_16 ?_
      refine lv_iload_n hx hb dX6_sizeOf_19 rfl (lv_at hl 3 rfl) ?_
      have hin := h.1
      have h := h.2
      refine va_iald (D := D) (cl := vwCl) hx hb hK hP 9 0 rfl rfl hin dX6_sizeOf_20 ?_
      refine lv_iload_n hx hb dX6_sizeOf_21 rfl (lv_at hl 1 rfl) ?_
      refine lv_icmp_ne (tgt := 29) hx hb dX6_sizeOf_22 (by decide) (fun c_2 => ?_) (fun c_2 => ?_)
      · have h := h.2 c_2
        refine lv_iconst (v := 0) hx hb dX6_sizeOf_29 (by decide) ?_
        refine lv_iadd hx hb dX6_sizeOf_30 ?_
        refine lv_istore_n (lv' := [(2, .int (v2 + 0)), (0, .ref (adM 0)), (1, .int p1), (3, .int v3)]) hx hb dX6_sizeOf_31 rfl hl (by decide) rfl (fun ls hl => ?_)
        refine lv_iinc (v := v3 + 1) (lv' := [(3, .int (v3 + 1)), (2, .int (v2 + 0)), (0, .ref (adM 0)), (1, .int p1)]) hx hb dX6_sizeOf_32 hl (k := 3) rfl rfl (by decide) rfl (fun ls hl => ?_)
        refine lv_goto (tgt := 4) hx hb dX6_sizeOf_35 (by decide) ?_
        rw [hA4] at h
        exact h _ _ hP hD hS ls (lv_sub hl [2, 3, 1, 0] rfl)
      · have h := h.1 c_2
        refine lv_iconst (v := 1) hx hb dX6_sizeOf_25 (by decide) ?_
        refine lv_goto (tgt := 30) hx hb dX6_sizeOf_26 (by decide) ?_
        refine lv_iadd hx hb dX6_sizeOf_30 ?_
        refine lv_istore_n (lv' := [(2, .int (v2 + 1)), (0, .ref (adM 0)), (1, .int p1), (3, .int v3)]) hx hb dX6_sizeOf_31 rfl hl (by decide) rfl (fun ls hl => ?_)
        refine lv_iinc (v := v3 + 1) (lv' := [(3, .int (v3 + 1)), (2, .int (v2 + 1)), (0, .ref (adM 0)), (1, .int p1)]) hx hb dX6_sizeOf_32 hl (k := 3) rfl rfl (by decide) rfl (fun ls hl => ?_)
        refine lv_goto (tgt := 4) hx hb dX6_sizeOf_35 (by decide) ?_
        rw [hA4] at h
        exact h _ _ hP hD hS ls (lv_sub hl [2, 3, 1, 0] rfl)
  have h := h A4 s4
  refine lv_iconst (v := 0) hx hb dX6_sizeOf_0 (by decide) ?_
  refine lv_istore_n (lv' := [(2, .int 0), (0, .ref (adM 0)), (1, .int p1)]) hx hb dX6_sizeOf_1 rfl hl (by decide) rfl (fun ls hl => ?_)
  refine lv_iconst (v := 0) hx hb dX6_sizeOf_2 (by decide) ?_
  refine lv_istore_n (lv' := [(3, .int 0), (2, .int 0), (0, .ref (adM 0)), (1, .int p1)]) hx hb dX6_sizeOf_3 rfl hl (by decide) rfl (fun ls hl => ?_)
  rw [hA4] at h
  exact h _ _ hP hD hS ls (lv_sub hl [2, 3, 1, 0] rfl)
def wp_X6_orderOf (mmM : Nat → Int32) (p1 : Int32) (post : Int32 → Unit → Prop) : Prop :=
    ∀ (A4 : Int32 → Int32 → Prop),
    (∀ (v2 : Int32) (v3 : Int32), ((p1 ≤ v3 → post v2 ()) ∧ (¬ p1 ≤ v3 → (vp_in v3 20 ∧ (vp_in p1 20 ∧ (((mmM v3.toNatClampNeg) = (mmM p1.toNatClampNeg) → A4 (v2 + 1) (v3 + 1)) ∧ (¬ (mmM v3.toNatClampNeg) = (mmM p1.toNatClampNeg) → A4 (v2 + 0) (v3 + 1))))))) → A4 v2 v3) →
    A4 0 0
set_option maxHeartbeats 4000000 in
set_option maxRecDepth 100000 in
theorem met_X6_orderOf (l : Launch) (D : va_G) (cs : Nat → ClassId) (ev : Nat → Nat → Nat) (sz0 : Nat) (adM : Nat → Nat) (mpM : Nat → Int32) (mkM : Nat → Int32) (mgM : Nat → Int32) (mcM : Nat → Int32) (mwM : Nat → Int32) (mfM : Nat → Int32) (mtM : Nat → Int32) (mhM : Nat → Int32) (mmM : Nat → Int32) (mdM : Nat → Int32) (mxM : Nat → Int32) (mnM : Nat → Int32) (szM : Int32) (faM : Int32) (apM : Int32) (waM : Int32) (wrM : Int32) (fuM : Int32) (p1 : Int32) (post : Int32 → Unit → Prop) (h : wp_X6_orderOf mmM p1 post) : Met l yX6_orderOf wsX6_orderOf ({ frames := 0, cells := 0, slots := 0, locals := 0 }) (va_Pc [.ref (adM 0), .int p1] (mPre D cs ev (sh_M cs adM mpM mkM mgM mcM mwM mfM mtM mhM mmM mdM mxM mnM szM faM apM waM wrM fuM) sz0)) (va_Qi post (fun _ t => mAt D cs (va_A (sh_M cs adM mpM mkM mgM mcM mwM mfM mtM mhM mmM mdM mxM mnM szM faM apM waM wrM fuM) sz0) (sh_M cs adM mpM mkM mgM mcM mwM mfM mtM mhM mmM mdM mxM mnM szM faM apM waM wrM fuM) t) (va_A (sh_M cs adM mpM mkM mgM mcM mwM mfM mtM mhM mmM mdM mxM mnM szM faM apM waM wrM fuM) sz0)) 0 0 (va_A (sh_M cs adM mpM mkM mgM mcM mwM mfM mtM mhM mmM mdM mxM mnM szM faM apM waM wrM fuM) sz0) := by
  refine Met.ofW (cc := cX6_orderOf) (maxL := 4) (ret := (some .int)) (by decide) rfl ?_
  intro p e s m args below meth c s₁ B hml hv
  obtain ⟨rfl, hsz, hP, hK, hD0, hE⟩ := hv
  have hx := B.exec
  have hb := B.bytes
  have hr := B.returns
  have hts := atoms_spec (ws := wsX6_orderOf) B.pre
  have hown : s.vm.findClass RX6 = some m.cls := findClass_of_methodNamed B.named
  have hlocks := B.notSynchronized
  subst hsz
  have hD := hD0.self (sz := s.heap.size)
  generalize hAe : va_A (sh_M cs adM mpM mkM mgM mcM mwM mfM mtM mhM mmM mdM mxM mnM szM faM apM waM wrM fuM) s.heap.size = A at hD hE ⊢
  have hA : ∀ q : Nat, s.heap.size ≤ q → A q := fun q h => by rw [← hAe]; exact Or.inr h
  have hS : va_S A s.heap s.heap [] := va_S.rf
  have hl := lv_entry ([.ref (adM 0), .int p1]) (n := 4) (Nat.le_of_ble_eq_true rfl)
  rw [lg_entry_eq]
  generalize (lg_sl ([.ref (adM 0), .int p1]) ++ List.replicate (4 - (lg_sl ([.ref (adM 0), .int p1])).length) Slot.unset).toArray = ls at hl ⊢
  have hl : lv_has ls 4 [(0, .ref (adM 0)), (1, .int p1)] := hl
  obtain ⟨A4, hA4⟩ : ∃ Q : Int32 → Int32 → Prop, Q = (fun v2 v3 => ∀ (H : Heap) (locs : List Loc), va_P D vwCl (sh_M cs adM mpM mkM mgM mcM mwM mfM mtM mhM mmM mdM mxM mnM szM faM apM waM wrM fuM) H → va_D A (sh_M cs adM mpM mkM mgM mcM mwM mfM mtM mhM mmM mdM mxM mnM szM faM apM waM wrM fuM) → va_S A s.heap H locs → ∀ ls : Array Slot, lv_has ls 4 [(0, .ref (adM 0)), (1, .int p1), (2, .int v2), (3, .int v3)] → W p l e (headSpec wsX6_orderOf ({ frames := 0, cells := 0, slots := 0, locals := 0 })).room s m ([.ref (adM 0), .int p1] : List Value).toArray below meth c H locs 0 0 (MQ below (va_Qi post (fun _ t => mAt D cs (A) (sh_M cs adM mpM mkM mgM mcM mwM mfM mtM mhM mmM mdM mxM mnM szM faM apM waM wrM fuM) t) A) ([.ref (adM 0), .int p1] : List Value).toArray s 0 0 A) (F0 m 4 ls [])) := ⟨_, rfl⟩
  have s4 : ∀ (v2 : Int32) (v3 : Int32), ((p1 ≤ v3 → post v2 ()) ∧ (¬ p1 ≤ v3 → (vp_in v3 20 ∧ (vp_in p1 20 ∧ (((mmM v3.toNatClampNeg) = (mmM p1.toNatClampNeg) → A4 (v2 + 1) (v3 + 1)) ∧ (¬ (mmM v3.toNatClampNeg) = (mmM p1.toNatClampNeg) → A4 (v2 + 0) (v3 + 1))))))) → A4 v2 v3 := by
    intro v2 v3 h
    rw [hA4]
    intro H locs hP hD hS ls hl
    refine lv_iload_n hx hb dX6_orderOf_4 rfl (lv_at hl 3 rfl) ?_
    refine lv_iload_n hx hb dX6_orderOf_5 rfl (lv_at hl 1 rfl) ?_
    refine lv_icmp_ge (tgt := 38) hx hb dX6_orderOf_6 (by decide) (fun c_1 => ?_) (fun c_1 => ?_)
    · have h := h.1 c_1
      refine lv_iload_n hx hb dX6_orderOf_38 rfl (lv_at hl 2 rfl) ?_
      exact W.iret (v := v2) hx hb hr (fun t ht hW => ⟨⟨v2, (), rfl, h, by rw [ht]; exact hP, va_K.moved hW.alike hK, hD⟩, hS.F ht⟩) hS.2.2 dX6_orderOf_39
    · have h := h.2 c_1
      refine lv_iload_n hx hb dX6_orderOf_9 rfl (lv_at hl 2 rfl) ?_
      refine lv_aload_n hx hb dX6_orderOf_10 rfl (lv_at hl 0 rfl) ?_
      refine va_get (D := D) (ci := 5) (v := .ref (adM 9)) (C := RX6) (T := TX6) (N := 18) hx hb hts (by decide +kernel) hown hK hP 0 rfl rfl 8 (by decide) (hts (.fieldLink RX6 35 "PartGraphsModel" "families" "[I") (by decide +kernel)) (fun _ h9 => h9) rfl dX6_orderOf_11 ?_
      refine lv_iload_n hx hb dX6_orderOf_14 rfl (lv_at hl 3 rfl) ?_
      have hin := h.1
      have h := h.2
      refine va_iald (D := D) (cl := vwCl) hx hb hK hP 9 0 rfl rfl hin dX6_orderOf_15 ?_
      refine lv_aload_n hx hb dX6_orderOf_16 rfl (lv_at hl 0 rfl) ?_
      refine va_get (D := D) (ci := 5) (v := .ref (adM 9)) (C := RX6) (T := TX6) (N := 18) hx hb hts (by decide +kernel) hown hK hP 0 rfl rfl 8 (by decide) (hts (.fieldLink RX6 35 "PartGraphsModel" "families" "[I") (by decide +kernel)) (fun _ h9 => h9) rfl dX6_orderOf_17 ?_
      refine lv_iload_n hx hb dX6_orderOf_20 rfl (lv_at hl 1 rfl) ?_
      have hin := h.1
      have h := h.2
      refine va_iald (D := D) (cl := vwCl) hx hb hK hP 9 0 rfl rfl hin dX6_orderOf_21 ?_
      refine lv_icmp_ne (tgt := 29) hx hb dX6_orderOf_22 (by decide) (fun c_2 => ?_) (fun c_2 => ?_)
      · have h := h.2 c_2
        refine lv_iconst (v := 0) hx hb dX6_orderOf_29 (by decide) ?_
        refine lv_iadd hx hb dX6_orderOf_30 ?_
        refine lv_istore_n (lv' := [(2, .int (v2 + 0)), (0, .ref (adM 0)), (1, .int p1), (3, .int v3)]) hx hb dX6_orderOf_31 rfl hl (by decide) rfl (fun ls hl => ?_)
        refine lv_iinc (v := v3 + 1) (lv' := [(3, .int (v3 + 1)), (2, .int (v2 + 0)), (0, .ref (adM 0)), (1, .int p1)]) hx hb dX6_orderOf_32 hl (k := 3) rfl rfl (by decide) rfl (fun ls hl => ?_)
        refine lv_goto (tgt := 4) hx hb dX6_orderOf_35 (by decide) ?_
        rw [hA4] at h
        exact h _ _ hP hD hS ls (lv_sub hl [2, 3, 1, 0] rfl)
      · have h := h.1 c_2
        refine lv_iconst (v := 1) hx hb dX6_orderOf_25 (by decide) ?_
        refine lv_goto (tgt := 30) hx hb dX6_orderOf_26 (by decide) ?_
        refine lv_iadd hx hb dX6_orderOf_30 ?_
        refine lv_istore_n (lv' := [(2, .int (v2 + 1)), (0, .ref (adM 0)), (1, .int p1), (3, .int v3)]) hx hb dX6_orderOf_31 rfl hl (by decide) rfl (fun ls hl => ?_)
        refine lv_iinc (v := v3 + 1) (lv' := [(3, .int (v3 + 1)), (2, .int (v2 + 1)), (0, .ref (adM 0)), (1, .int p1)]) hx hb dX6_orderOf_32 hl (k := 3) rfl rfl (by decide) rfl (fun ls hl => ?_)
        refine lv_goto (tgt := 4) hx hb dX6_orderOf_35 (by decide) ?_
        rw [hA4] at h
        exact h _ _ hP hD hS ls (lv_sub hl [2, 3, 1, 0] rfl)
  have h := h A4 s4
  refine lv_iconst (v := 0) hx hb dX6_orderOf_0 (by decide) ?_
  refine lv_istore_n (lv' := [(2, .int 0), (0, .ref (adM 0)), (1, .int p1)]) hx hb dX6_orderOf_1 rfl hl (by decide) rfl (fun ls hl => ?_)
  refine lv_iconst (v := 0) hx hb dX6_orderOf_2 (by decide) ?_
  refine lv_istore_n (lv' := [(3, .int 0), (2, .int 0), (0, .ref (adM 0)), (1, .int p1)]) hx hb dX6_orderOf_3 rfl hl (by decide) rfl (fun ls hl => ?_)
  rw [hA4] at h
  exact h _ _ hP hD hS ls (lv_sub hl [2, 3, 1, 0] rfl)
def wp_X6_isIn (mpM : Nat → Int32) (mmM : Nat → Int32) (p1 : Int32) (p2 : Int32) (post : Int32 → Unit → Prop) : Prop :=
    ∀ (A23 : Int32 → Int32 → Prop),
    (∀ (v3 : Int32) (v4 : Int32), ((4 ≤ v4 → (¬ v3 = 0 ∧ (vp_in p1 20 ∧ wp_X6_sizeOf mpM mmM (mmM p1.toNatClampNeg) (fun r_3 _ => (¬ r_3 = 0 ∧ wp_X6_orderOf mmM p1 (fun r_4 _ => ((((p2 / v3) - (p2 / v3) / r_3 * r_3) = r_4 → post 1 ()) ∧ (¬ ((p2 / v3) - (p2 / v3) / r_3 * r_3) = r_4 → post 0 ())))))))) ∧ (¬ 4 ≤ v4 → wp_X6_sizeOf mpM mmM v4 (fun r_6 _ => ((r_6 ≤ 0 → A23 (v3 * 1) (v4 + 1)) ∧ (¬ r_6 ≤ 0 → wp_X6_sizeOf mpM mmM v4 (fun r_8 _ => A23 (v3 * r_8) (v4 + 1))))))) → A23 v3 v4) →
    (vp_in p1 20 ∧ ((0 ≤ (mmM p1.toNatClampNeg) → (vp_in p1 20 ∧ A23 1 ((mmM p1.toNatClampNeg) + 1))) ∧ (¬ 0 ≤ (mmM p1.toNatClampNeg) → post 1 ())))
set_option maxHeartbeats 4000000 in
set_option maxRecDepth 100000 in
theorem met_X6_isIn (l : Launch) (D : va_G) (cs : Nat → ClassId) (ev : Nat → Nat → Nat) (sz0 : Nat) (adM : Nat → Nat) (mpM : Nat → Int32) (mkM : Nat → Int32) (mgM : Nat → Int32) (mcM : Nat → Int32) (mwM : Nat → Int32) (mfM : Nat → Int32) (mtM : Nat → Int32) (mhM : Nat → Int32) (mmM : Nat → Int32) (mdM : Nat → Int32) (mxM : Nat → Int32) (mnM : Nat → Int32) (szM : Int32) (faM : Int32) (apM : Int32) (waM : Int32) (wrM : Int32) (fuM : Int32) (p1 : Int32) (p2 : Int32) (post : Int32 → Unit → Prop) (h : wp_X6_isIn mpM mmM p1 p2 post) : Met l yX6_isIn wsX6_isIn ({ frames := 1, cells := 0, slots := 0, locals := 23 }) (va_Pc [.ref (adM 0), .int p1, .int p2] (mPre D cs ev (sh_M cs adM mpM mkM mgM mcM mwM mfM mtM mhM mmM mdM mxM mnM szM faM apM waM wrM fuM) sz0)) (va_Qi post (fun _ t => mAt D cs (va_A (sh_M cs adM mpM mkM mgM mcM mwM mfM mtM mhM mmM mdM mxM mnM szM faM apM waM wrM fuM) sz0) (sh_M cs adM mpM mkM mgM mcM mwM mfM mtM mhM mmM mdM mxM mnM szM faM apM waM wrM fuM) t) (va_A (sh_M cs adM mpM mkM mgM mcM mwM mfM mtM mhM mmM mdM mxM mnM szM faM apM waM wrM fuM) sz0)) 0 0 (va_A (sh_M cs adM mpM mkM mgM mcM mwM mfM mtM mhM mmM mdM mxM mnM szM faM apM waM wrM fuM) sz0) := by
  refine Met.ofW (cc := cX6_isIn) (maxL := 5) (ret := (some .boolean)) (by decide) rfl ?_
  intro p e s m args below meth c s₁ B hml hv
  obtain ⟨rfl, hsz, hP, hK, hD0, hE⟩ := hv
  have hx := B.exec
  have hb := B.bytes
  have hr := B.returns
  have hts := atoms_spec (ws := wsX6_isIn) B.pre
  have hown : s.vm.findClass RX6 = some m.cls := findClass_of_methodNamed B.named
  have hlocks := B.notSynchronized
  subst hsz
  have hD := hD0.self (sz := s.heap.size)
  generalize hAe : va_A (sh_M cs adM mpM mkM mgM mcM mwM mfM mtM mhM mmM mdM mxM mnM szM faM apM waM wrM fuM) s.heap.size = A at hD hE ⊢
  have hA : ∀ q : Nat, s.heap.size ≤ q → A q := fun q h => by rw [← hAe]; exact Or.inr h
  have hS : va_S A s.heap s.heap [] := va_S.rf
  have hl := lv_entry ([.ref (adM 0), .int p1, .int p2]) (n := 5) (Nat.le_of_ble_eq_true rfl)
  rw [lg_entry_eq]
  generalize (lg_sl ([.ref (adM 0), .int p1, .int p2]) ++ List.replicate (5 - (lg_sl ([.ref (adM 0), .int p1, .int p2])).length) Slot.unset).toArray = ls at hl ⊢
  have hl : lv_has ls 5 [(0, .ref (adM 0)), (1, .int p1), (2, .int p2)] := hl
  obtain ⟨A23, hA23⟩ : ∃ Q : Int32 → Int32 → Prop, Q = (fun v3 v4 => ∀ (H : Heap) (locs : List Loc), va_P D vwCl (sh_M cs adM mpM mkM mgM mcM mwM mfM mtM mhM mmM mdM mxM mnM szM faM apM waM wrM fuM) H → va_D A (sh_M cs adM mpM mkM mgM mcM mwM mfM mtM mhM mmM mdM mxM mnM szM faM apM waM wrM fuM) → va_S A s.heap H locs → ∀ ls : Array Slot, lv_has ls 5 [(0, .ref (adM 0)), (1, .int p1), (2, .int p2), (3, .int v3), (4, .int v4)] → W p l e (headSpec wsX6_isIn ({ frames := 1, cells := 0, slots := 0, locals := 23 })).room s m ([.ref (adM 0), .int p1, .int p2] : List Value).toArray below meth c H locs 0 0 (MQ below (va_Qi post (fun _ t => mAt D cs (A) (sh_M cs adM mpM mkM mgM mcM mwM mfM mtM mhM mmM mdM mxM mnM szM faM apM waM wrM fuM) t) A) ([.ref (adM 0), .int p1, .int p2] : List Value).toArray s 0 0 A) (F0 m 23 ls [])) := ⟨_, rfl⟩
  have s23 : ∀ (v3 : Int32) (v4 : Int32), ((4 ≤ v4 → (¬ v3 = 0 ∧ (vp_in p1 20 ∧ wp_X6_sizeOf mpM mmM (mmM p1.toNatClampNeg) (fun r_3 _ => (¬ r_3 = 0 ∧ wp_X6_orderOf mmM p1 (fun r_4 _ => ((((p2 / v3) - (p2 / v3) / r_3 * r_3) = r_4 → post 1 ()) ∧ (¬ ((p2 / v3) - (p2 / v3) / r_3 * r_3) = r_4 → post 0 ())))))))) ∧ (¬ 4 ≤ v4 → wp_X6_sizeOf mpM mmM v4 (fun r_6 _ => ((r_6 ≤ 0 → A23 (v3 * 1) (v4 + 1)) ∧ (¬ r_6 ≤ 0 → wp_X6_sizeOf mpM mmM v4 (fun r_8 _ => A23 (v3 * r_8) (v4 + 1))))))) → A23 v3 v4 := by
    intro v3 v4 h
    rw [hA23]
    intro H locs hP hD hS ls hl
    refine lv_iload hx hb dX6_isIn_23 (lv_at hl 4 rfl) ?_
    refine lv_iconst (v := 4) hx hb dX6_isIn_25 (by decide) ?_
    refine lv_icmp_ge (tgt := 57) hx hb dX6_isIn_26 (by decide) (fun c_2 => ?_) (fun c_2 => ?_)
    · have h := h.1 c_2
      refine lv_iload_n hx hb dX6_isIn_57 rfl (lv_at hl 2 rfl) ?_
      refine lv_iload_n hx hb dX6_isIn_58 rfl (lv_at hl 3 rfl) ?_
      have hne := h.1
      have h := h.2
      refine lv_idiv hx hb dX6_isIn_59 hne ?_
      refine lv_aload_n hx hb dX6_isIn_60 rfl (lv_at hl 0 rfl) ?_
      refine lv_aload_n hx hb dX6_isIn_61 rfl (lv_at hl 0 rfl) ?_
      refine va_get (D := D) (ci := 5) (v := .ref (adM 9)) (C := RX6) (T := TX6) (N := 18) hx hb hts (by decide +kernel) hown hK hP 0 rfl rfl 8 (by decide) (hts (.fieldLink RX6 35 "PartGraphsModel" "families" "[I") (by decide +kernel)) (fun _ h9 => h9) rfl dX6_isIn_62 ?_
      refine lv_iload_n hx hb dX6_isIn_65 rfl (lv_at hl 1 rfl) ?_
      have hin := h.1
      have h := h.2
      refine va_iald (D := D) (cl := vwCl) hx hb hK hP 9 0 rfl rfl hin dX6_isIn_66 ?_
      have hFc := va_free (wc := (sh_M cs adM mpM mkM mgM mcM mwM mfM mtM mhM mmM mdM mxM mnM szM faM apM waM wrM fuM)) hD hS hA [0, 1, 2, 3, 4, 5, 6, 7, 8, 9, 10, 11, 12] rfl
      refine va_calli (va_runV (As := [.int (mmM p1.toNatClampNeg)]) (rest := [.int (p2 / v3)]) ⟨hx, hb, hml, hown, hts⟩ (met_X6_sizeOf l D cs ev _ adM mpM mkM mgM mcM mwM mfM mtM mhM mmM mdM mxM mnM szM faM apM waM wrM fuM (mmM p1.toNatClampNeg) _ h) (cwV 1 hts gX6_isIn_X6_sizeOf rfl rfl rfl (by decide +kernel) ⟨Nat.le_of_ble_eq_true rfl, Nat.le_of_ble_eq_true rfl⟩) (mPreV (va_recv hK hP (ci := 5) (q0 := 0) rfl rfl) hP hD hS hK hE hFc [0, 1, 2, 3, 4, 5, 6, 7, 8, 9, 10, 11, 12] (by decide) rfl) rfl rfl hl.1 rfl (lv_room (Nat.le_of_ble_eq_true rfl)) dX6_isIn_67 ⟨Nat.le_of_ble_eq_true rfl, Nat.le_of_ble_eq_true rfl⟩) hS (fun q _ h => hFc q h) hFc (fun r_3 u t H1 locs ht hvm hw hB hz1 hk1 hS => ?_)
      have h := hw
      obtain ⟨hP1, hK1, hD1⟩ := hB
      rw [ht] at hP1
      obtain ⟨hP, hD⟩ := mJoin (wr := ([] : va_W)) (w1 := (sh_M cs adM mpM mkM mgM mcM mwM mfM mtM mhM mmM mdM mxM mnM szM faM apM waM wrM fuM)) (w' := (sh_M cs adM mpM mkM mgM mcM mwM mfM mtM mhM mmM mdM mxM mnM szM faM apM waM wrM fuM)) hP hD [0, 1, 2, 3, 4, 5, 6, 7, 8, 9, 10, 11, 12] [] rfl rfl (by decide) (by decide) hk1 hFc hP1 hD1 [0, 1, 2, 3, 4, 5, 6, 7, 8, 9, 10, 11, 12] (by decide) rfl
      generalize H1 = H at hP hS ⊢
      have hne := h.1
      have h := h.2
      refine lv_irem hx hb dX6_isIn_70 hne ?_
      refine lv_aload_n hx hb dX6_isIn_71 rfl (lv_at hl 0 rfl) ?_
      refine lv_iload_n hx hb dX6_isIn_72 rfl (lv_at hl 1 rfl) ?_
      have hFc := va_free (wc := (sh_M cs adM mpM mkM mgM mcM mwM mfM mtM mhM mmM mdM mxM mnM szM faM apM waM wrM fuM)) hD hS hA [0, 1, 2, 3, 4, 5, 6, 7, 8, 9, 10, 11, 12] rfl
      refine va_calli (va_runV (As := [.int p1]) (rest := [.int ((p2 / v3) - (p2 / v3) / r_3 * r_3)]) ⟨hx, hb, hml, hown, hts⟩ (met_X6_orderOf l D cs ev _ adM mpM mkM mgM mcM mwM mfM mtM mhM mmM mdM mxM mnM szM faM apM waM wrM fuM p1 _ h) (cwV 1 hts gX6_isIn_X6_orderOf rfl rfl rfl (by decide +kernel) ⟨Nat.le_of_ble_eq_true rfl, Nat.le_of_ble_eq_true rfl⟩) (mPreV (va_recv hK hP (ci := 5) (q0 := 0) rfl rfl) hP hD hS hK hE hFc [0, 1, 2, 3, 4, 5, 6, 7, 8, 9, 10, 11, 12] (by decide) rfl) rfl rfl hl.1 rfl (lv_room (Nat.le_of_ble_eq_true rfl)) dX6_isIn_73 ⟨Nat.le_of_ble_eq_true rfl, Nat.le_of_ble_eq_true rfl⟩) hS (fun q _ h => hFc q h) hFc (fun r_4 u t H1 locs ht hvm hw hB hz1 hk1 hS => ?_)
      have h := hw
      obtain ⟨hP1, hK1, hD1⟩ := hB
      rw [ht] at hP1
      obtain ⟨hP, hD⟩ := mJoin (wr := ([] : va_W)) (w1 := (sh_M cs adM mpM mkM mgM mcM mwM mfM mtM mhM mmM mdM mxM mnM szM faM apM waM wrM fuM)) (w' := (sh_M cs adM mpM mkM mgM mcM mwM mfM mtM mhM mmM mdM mxM mnM szM faM apM waM wrM fuM)) hP hD [0, 1, 2, 3, 4, 5, 6, 7, 8, 9, 10, 11, 12] [] rfl rfl (by decide) (by decide) hk1 hFc hP1 hD1 [0, 1, 2, 3, 4, 5, 6, 7, 8, 9, 10, 11, 12] (by decide) rfl
      generalize H1 = H at hP hS ⊢
      refine lv_icmp_ne (tgt := 83) hx hb dX6_isIn_76 (by decide) (fun c_5 => ?_) (fun c_5 => ?_)
      · have h := h.2 c_5
        refine lv_iconst (v := 0) hx hb dX6_isIn_83 (by decide) ?_
        exact W.zret (v := 0) hx hb hr (by decide) (fun t ht hW => ⟨⟨0, (), rfl, h, by rw [ht]; exact hP, va_K.moved hW.alike hK, hD⟩, hS.F ht⟩) hS.2.2 dX6_isIn_84
      · have h := h.1 c_5
        refine lv_iconst (v := 1) hx hb dX6_isIn_79 (by decide) ?_
        refine lv_goto (tgt := 84) hx hb dX6_isIn_80 (by decide) ?_
        exact W.zret (v := 1) hx hb hr (by decide) (fun t ht hW => ⟨⟨1, (), rfl, h, by rw [ht]; exact hP, va_K.moved hW.alike hK, hD⟩, hS.F ht⟩) hS.2.2 dX6_isIn_84
    · have h := h.2 c_2
      refine lv_iload_n hx hb dX6_isIn_29 rfl (lv_at hl 3 rfl) ?_
      refine lv_aload_n hx hb dX6_isIn_30 rfl (lv_at hl 0 rfl) ?_
      refine lv_iload hx hb dX6_isIn_31 (lv_at hl 4 rfl) ?_
      have hFc := va_free (wc := (sh_M cs adM mpM mkM mgM mcM mwM mfM mtM mhM mmM mdM mxM mnM szM faM apM waM wrM fuM)) hD hS hA [0, 1, 2, 3, 4, 5, 6, 7, 8, 9, 10, 11, 12] rfl
      refine va_calli (va_runV (As := [.int v4]) (rest := [.int v3]) ⟨hx, hb, hml, hown, hts⟩ (met_X6_sizeOf l D cs ev _ adM mpM mkM mgM mcM mwM mfM mtM mhM mmM mdM mxM mnM szM faM apM waM wrM fuM v4 _ h) (cwV 1 hts gX6_isIn_X6_sizeOf rfl rfl rfl (by decide +kernel) ⟨Nat.le_of_ble_eq_true rfl, Nat.le_of_ble_eq_true rfl⟩) (mPreV (va_recv hK hP (ci := 5) (q0 := 0) rfl rfl) hP hD hS hK hE hFc [0, 1, 2, 3, 4, 5, 6, 7, 8, 9, 10, 11, 12] (by decide) rfl) rfl rfl hl.1 rfl (lv_room (Nat.le_of_ble_eq_true rfl)) dX6_isIn_33 ⟨Nat.le_of_ble_eq_true rfl, Nat.le_of_ble_eq_true rfl⟩) hS (fun q _ h => hFc q h) hFc (fun r_6 u t H1 locs ht hvm hw hB hz1 hk1 hS => ?_)
      have h := hw
      obtain ⟨hP1, hK1, hD1⟩ := hB
      rw [ht] at hP1
      obtain ⟨hP, hD⟩ := mJoin (wr := ([] : va_W)) (w1 := (sh_M cs adM mpM mkM mgM mcM mwM mfM mtM mhM mmM mdM mxM mnM szM faM apM waM wrM fuM)) (w' := (sh_M cs adM mpM mkM mgM mcM mwM mfM mtM mhM mmM mdM mxM mnM szM faM apM waM wrM fuM)) hP hD [0, 1, 2, 3, 4, 5, 6, 7, 8, 9, 10, 11, 12] [] rfl rfl (by decide) (by decide) hk1 hFc hP1 hD1 [0, 1, 2, 3, 4, 5, 6, 7, 8, 9, 10, 11, 12] (by decide) rfl
      generalize H1 = H at hP hS ⊢
      refine lv_if_le (tgt := 48) hx hb dX6_isIn_36 (by decide) (fun c_7 => ?_) (fun c_7 => ?_)
      · have h := h.1 c_7
        refine lv_iconst (v := 1) hx hb dX6_isIn_48 (by decide) ?_
        refine lv_imul hx hb dX6_isIn_49 ?_
        refine lv_istore_n (lv' := [(3, .int (v3 * 1)), (0, .ref (adM 0)), (1, .int p1), (2, .int p2), (4, .int v4)]) hx hb dX6_isIn_50 rfl hl (by decide) rfl (fun ls hl => ?_)
        refine lv_iinc (v := v4 + 1) (lv' := [(4, .int (v4 + 1)), (3, .int (v3 * 1)), (0, .ref (adM 0)), (1, .int p1), (2, .int p2)]) hx hb dX6_isIn_51 hl (k := 4) rfl rfl (by decide) rfl (fun ls hl => ?_)
        refine lv_goto (tgt := 23) hx hb dX6_isIn_54 (by decide) ?_
        rw [hA23] at h
        exact h _ _ hP hD hS ls (lv_sub hl [2, 3, 4, 1, 0] rfl)
      · have h := h.2 c_7
        refine lv_aload_n hx hb dX6_isIn_39 rfl (lv_at hl 0 rfl) ?_
        refine lv_iload hx hb dX6_isIn_40 (lv_at hl 4 rfl) ?_
        have hFc := va_free (wc := (sh_M cs adM mpM mkM mgM mcM mwM mfM mtM mhM mmM mdM mxM mnM szM faM apM waM wrM fuM)) hD hS hA [0, 1, 2, 3, 4, 5, 6, 7, 8, 9, 10, 11, 12] rfl
        refine va_calli (va_runV (As := [.int v4]) (rest := [.int v3]) ⟨hx, hb, hml, hown, hts⟩ (met_X6_sizeOf l D cs ev _ adM mpM mkM mgM mcM mwM mfM mtM mhM mmM mdM mxM mnM szM faM apM waM wrM fuM v4 _ h) (cwV 1 hts gX6_isIn_X6_sizeOf rfl rfl rfl (by decide +kernel) ⟨Nat.le_of_ble_eq_true rfl, Nat.le_of_ble_eq_true rfl⟩) (mPreV (va_recv hK hP (ci := 5) (q0 := 0) rfl rfl) hP hD hS hK hE hFc [0, 1, 2, 3, 4, 5, 6, 7, 8, 9, 10, 11, 12] (by decide) rfl) rfl rfl hl.1 rfl (lv_room (Nat.le_of_ble_eq_true rfl)) dX6_isIn_42 ⟨Nat.le_of_ble_eq_true rfl, Nat.le_of_ble_eq_true rfl⟩) hS (fun q _ h => hFc q h) hFc (fun r_8 u t H1 locs ht hvm hw hB hz1 hk1 hS => ?_)
        have h := hw
        obtain ⟨hP1, hK1, hD1⟩ := hB
        rw [ht] at hP1
        obtain ⟨hP, hD⟩ := mJoin (wr := ([] : va_W)) (w1 := (sh_M cs adM mpM mkM mgM mcM mwM mfM mtM mhM mmM mdM mxM mnM szM faM apM waM wrM fuM)) (w' := (sh_M cs adM mpM mkM mgM mcM mwM mfM mtM mhM mmM mdM mxM mnM szM faM apM waM wrM fuM)) hP hD [0, 1, 2, 3, 4, 5, 6, 7, 8, 9, 10, 11, 12] [] rfl rfl (by decide) (by decide) hk1 hFc hP1 hD1 [0, 1, 2, 3, 4, 5, 6, 7, 8, 9, 10, 11, 12] (by decide) rfl
        generalize H1 = H at hP hS ⊢
        refine lv_goto (tgt := 49) hx hb dX6_isIn_45 (by decide) ?_
        refine lv_imul hx hb dX6_isIn_49 ?_
        refine lv_istore_n (lv' := [(3, .int (v3 * r_8)), (0, .ref (adM 0)), (1, .int p1), (2, .int p2), (4, .int v4)]) hx hb dX6_isIn_50 rfl hl (by decide) rfl (fun ls hl => ?_)
        refine lv_iinc (v := v4 + 1) (lv' := [(4, .int (v4 + 1)), (3, .int (v3 * r_8)), (0, .ref (adM 0)), (1, .int p1), (2, .int p2)]) hx hb dX6_isIn_51 hl (k := 4) rfl rfl (by decide) rfl (fun ls hl => ?_)
        refine lv_goto (tgt := 23) hx hb dX6_isIn_54 (by decide) ?_
        rw [hA23] at h
        exact h _ _ hP hD hS ls (lv_sub hl [2, 3, 4, 1, 0] rfl)
  have h := h A23 s23
  refine lv_aload_n hx hb dX6_isIn_0 rfl (lv_at hl 0 rfl) ?_
  refine va_get (D := D) (ci := 5) (v := .ref (adM 9)) (C := RX6) (T := TX6) (N := 18) hx hb hts (by decide +kernel) hown hK hP 0 rfl rfl 8 (by decide) (hts (.fieldLink RX6 35 "PartGraphsModel" "families" "[I") (by decide +kernel)) (fun _ h9 => h9) rfl dX6_isIn_1 ?_
  refine lv_iload_n hx hb dX6_isIn_4 rfl (lv_at hl 1 rfl) ?_
  have hin := h.1
  have h := h.2
  refine va_iald (D := D) (cl := vwCl) hx hb hK hP 9 0 rfl rfl hin dX6_isIn_5 ?_
  refine lv_if_ge (tgt := 11) hx hb dX6_isIn_6 (by decide) (fun c_1 => ?_) (fun c_1 => ?_)
  · have h := h.1 c_1
    refine lv_iconst (v := 1) hx hb dX6_isIn_11 (by decide) ?_
    refine lv_istore_n (lv' := [(3, .int 1), (0, .ref (adM 0)), (1, .int p1), (2, .int p2)]) hx hb dX6_isIn_12 rfl hl (by decide) rfl (fun ls hl => ?_)
    refine lv_aload_n hx hb dX6_isIn_13 rfl (lv_at hl 1 rfl) ?_
    refine va_get (D := D) (ci := 5) (v := .ref (adM 9)) (C := RX6) (T := TX6) (N := 18) hx hb hts (by decide +kernel) hown hK hP 0 rfl rfl 8 (by decide) (hts (.fieldLink RX6 35 "PartGraphsModel" "families" "[I") (by decide +kernel)) (fun _ h9 => h9) rfl dX6_isIn_14 ?_
    refine lv_iload_n hx hb dX6_isIn_17 rfl (lv_at hl 2 rfl) ?_
    have hin := h.1
    have h := h.2
    refine va_iald (D := D) (cl := vwCl) hx hb hK hP 9 0 rfl rfl hin dX6_isIn_18 ?_
    refine lv_iconst (v := 1) hx hb dX6_isIn_19 (by decide) ?_
    refine lv_iadd hx hb dX6_isIn_20 ?_
    refine lv_istore (lv' := [(4, .int ((mmM p1.toNatClampNeg) + 1)), (3, .int 1), (0, .ref (adM 0)), (1, .int p1), (2, .int p2)]) hx hb dX6_isIn_21 hl (by decide) rfl (fun ls hl => ?_)
    rw [hA23] at h
    exact h _ _ hP hD hS ls (lv_sub hl [2, 3, 4, 1, 0] rfl)
  · have h := h.2 c_1
    refine lv_iconst (v := 1) hx hb dX6_isIn_9 (by decide) ?_
    exact W.zret (v := 1) hx hb hr (by decide) (fun t ht hW => ⟨⟨1, (), rfl, h, by rw [ht]; exact hP, va_K.moved hW.alike hK, hD⟩, hS.F ht⟩) hS.2.2 dX6_isIn_10
def wp_X6_family (mpM : Nat → Int32) (mmM : Nat → Int32) (faM : Int32) (p1 : Int32) (p2 : Int32) (post : Int32 → Int32 → Prop) : Prop :=
    ∀ (A10 : Int32 → Int32 → Int32 → Prop) (A61 : Int32 → Int32 → Int32 → Prop),
    (∀ (v3 : Int32) (v4 : Int32) (faM : Int32), ((4 ≤ v4 → ((p1 < 0 → post (-1) faM) ∧ (¬ p1 < 0 → ((p1 < v3 → A61 0 0 faM) ∧ (¬ p1 < v3 → post (-1) faM))))) ∧ (¬ 4 ≤ v4 → wp_X6_sizeOf mpM mmM v4 (fun r_4 _ => ((r_4 ≤ 0 → A10 (v3 * 1) (v4 + 1) faM) ∧ (¬ r_4 ≤ 0 → wp_X6_sizeOf mpM mmM v4 (fun r_6 _ => A10 (v3 * r_6) (v4 + 1) faM)))))) → A10 v3 v4 faM) →
    (∀ (v4 : Int32) (v5 : Int32) (faM : Int32), (vp_in 0 2 ∧ (((mpM (0 : Int32).toNatClampNeg) ≤ v5 → post (-1) faM) ∧ (¬ (mpM (0 : Int32).toNatClampNeg) ≤ v5 → wp_X6_isIn mpM mmM v5 p1 (fun r_8 _ => ((r_8 = 0 → A61 v4 (v5 + 1) faM) ∧ (¬ r_8 = 0 → ((v4 = p2 → post v5 faM) ∧ (¬ v4 = p2 → A61 (v4 + 1) (v5 + 1) faM)))))))) → A61 v4 v5 faM) →
    A10 1 0 0
set_option maxHeartbeats 4000000 in
set_option maxRecDepth 100000 in
theorem met_X6_family (l : Launch) (D : va_G) (cs : Nat → ClassId) (ev : Nat → Nat → Nat) (sz0 : Nat) (adM : Nat → Nat) (mpM : Nat → Int32) (mkM : Nat → Int32) (mgM : Nat → Int32) (mcM : Nat → Int32) (mwM : Nat → Int32) (mfM : Nat → Int32) (mtM : Nat → Int32) (mhM : Nat → Int32) (mmM : Nat → Int32) (mdM : Nat → Int32) (mxM : Nat → Int32) (mnM : Nat → Int32) (szM : Int32) (faM : Int32) (apM : Int32) (waM : Int32) (wrM : Int32) (fuM : Int32) (p1 : Int32) (p2 : Int32) (post : Int32 → Int32 → Prop) (h : wp_X6_family mpM mmM faM p1 p2 post) : Met l yX6_family wsX6_family ({ frames := 2, cells := 0, slots := 0, locals := 47 }) (va_Pc [.ref (adM 0), .int p1, .int p2] (mPre D cs ev (sh_M cs adM mpM mkM mgM mcM mwM mfM mtM mhM mmM mdM mxM mnM szM faM apM waM wrM fuM) sz0)) (va_Qi post (fun faM' t => mAt D cs (va_A (sh_M cs adM mpM mkM mgM mcM mwM mfM mtM mhM mmM mdM mxM mnM szM faM apM waM wrM fuM) sz0) (sh_M cs adM mpM mkM mgM mcM mwM mfM mtM mhM mmM mdM mxM mnM szM faM' apM waM wrM fuM) t) (va_A (sh_M cs adM mpM mkM mgM mcM mwM mfM mtM mhM mmM mdM mxM mnM szM faM apM waM wrM fuM) sz0)) 0 0 (va_A (sh_M cs adM mpM mkM mgM mcM mwM mfM mtM mhM mmM mdM mxM mnM szM faM apM waM wrM fuM) sz0) := by
  refine Met.ofW (cc := cX6_family) (maxL := 6) (ret := (some .int)) (by decide) rfl ?_
  intro p e s m args below meth c s₁ B hml hv
  obtain ⟨rfl, hsz, hP, hK, hD0, hE⟩ := hv
  have hx := B.exec
  have hb := B.bytes
  have hr := B.returns
  have hts := atoms_spec (ws := wsX6_family) B.pre
  have hown : s.vm.findClass RX6 = some m.cls := findClass_of_methodNamed B.named
  have hlocks := B.notSynchronized
  subst hsz
  have hD := hD0.self (sz := s.heap.size)
  generalize hAe : va_A (sh_M cs adM mpM mkM mgM mcM mwM mfM mtM mhM mmM mdM mxM mnM szM faM apM waM wrM fuM) s.heap.size = A at hD hE ⊢
  have hA : ∀ q : Nat, s.heap.size ≤ q → A q := fun q h => by rw [← hAe]; exact Or.inr h
  have hS : va_S A s.heap s.heap [] := va_S.rf
  have hl := lv_entry ([.ref (adM 0), .int p1, .int p2]) (n := 6) (Nat.le_of_ble_eq_true rfl)
  rw [lg_entry_eq]
  generalize (lg_sl ([.ref (adM 0), .int p1, .int p2]) ++ List.replicate (6 - (lg_sl ([.ref (adM 0), .int p1, .int p2])).length) Slot.unset).toArray = ls at hl ⊢
  have hl : lv_has ls 6 [(0, .ref (adM 0)), (1, .int p1), (2, .int p2)] := hl
  obtain ⟨A10, hA10⟩ : ∃ Q : Int32 → Int32 → Int32 → Prop, Q = (fun v3 v4 faM => ∀ (H : Heap) (locs : List Loc), va_P D vwCl (sh_M cs adM mpM mkM mgM mcM mwM mfM mtM mhM mmM mdM mxM mnM szM faM apM waM wrM fuM) H → va_D A (sh_M cs adM mpM mkM mgM mcM mwM mfM mtM mhM mmM mdM mxM mnM szM faM apM waM wrM fuM) → va_S A s.heap H locs → ∀ ls : Array Slot, lv_has ls 6 [(0, .ref (adM 0)), (1, .int p1), (2, .int p2), (3, .int v3), (4, .int v4)] → W p l e (headSpec wsX6_family ({ frames := 2, cells := 0, slots := 0, locals := 47 })).room s m ([.ref (adM 0), .int p1, .int p2] : List Value).toArray below meth c H locs 0 0 (MQ below (va_Qi post (fun faM' t => mAt D cs (A) (sh_M cs adM mpM mkM mgM mcM mwM mfM mtM mhM mmM mdM mxM mnM szM faM' apM waM wrM fuM) t) A) ([.ref (adM 0), .int p1, .int p2] : List Value).toArray s 0 0 A) (F0 m 10 ls [])) := ⟨_, rfl⟩
  obtain ⟨A61, hA61⟩ : ∃ Q : Int32 → Int32 → Int32 → Prop, Q = (fun v4 v5 faM => ∀ (H : Heap) (locs : List Loc), va_P D vwCl (sh_M cs adM mpM mkM mgM mcM mwM mfM mtM mhM mmM mdM mxM mnM szM faM apM waM wrM fuM) H → va_D A (sh_M cs adM mpM mkM mgM mcM mwM mfM mtM mhM mmM mdM mxM mnM szM faM apM waM wrM fuM) → va_S A s.heap H locs → ∀ ls : Array Slot, lv_has ls 6 [(0, .ref (adM 0)), (1, .int p1), (2, .int p2), (4, .int v4), (5, .int v5)] → W p l e (headSpec wsX6_family ({ frames := 2, cells := 0, slots := 0, locals := 47 })).room s m ([.ref (adM 0), .int p1, .int p2] : List Value).toArray below meth c H locs 0 0 (MQ below (va_Qi post (fun faM' t => mAt D cs (A) (sh_M cs adM mpM mkM mgM mcM mwM mfM mtM mhM mmM mdM mxM mnM szM faM' apM waM wrM fuM) t) A) ([.ref (adM 0), .int p1, .int p2] : List Value).toArray s 0 0 A) (F0 m 61 ls [])) := ⟨_, rfl⟩
  have s10 : ∀ (v3 : Int32) (v4 : Int32) (faM : Int32), ((4 ≤ v4 → ((p1 < 0 → post (-1) faM) ∧ (¬ p1 < 0 → ((p1 < v3 → A61 0 0 faM) ∧ (¬ p1 < v3 → post (-1) faM))))) ∧ (¬ 4 ≤ v4 → wp_X6_sizeOf mpM mmM v4 (fun r_4 _ => ((r_4 ≤ 0 → A10 (v3 * 1) (v4 + 1) faM) ∧ (¬ r_4 ≤ 0 → wp_X6_sizeOf mpM mmM v4 (fun r_6 _ => A10 (v3 * r_6) (v4 + 1) faM)))))) → A10 v3 v4 faM := by
    intro v3 v4 faM h
    rw [hA10]
    intro H locs hP hD hS ls hl
    refine lv_iload hx hb dX6_family_10 (lv_at hl 4 rfl) ?_
    refine lv_iconst (v := 4) hx hb dX6_family_12 (by decide) ?_
    refine lv_icmp_ge (tgt := 44) hx hb dX6_family_13 (by decide) (fun c_1 => ?_) (fun c_1 => ?_)
    · have h := h.1 c_1
      refine lv_iload_n hx hb dX6_family_44 rfl (lv_at hl 1 rfl) ?_
      refine lv_if_lt (tgt := 53) hx hb dX6_family_45 (by decide) (fun c_2 => ?_) (fun c_2 => ?_)
      · have h := h.1 c_2
        refine lv_iconst (v := (-1)) hx hb dX6_family_53 (by decide) ?_
        exact W.iret (v := (-1)) hx hb hr (fun t ht hW => ⟨⟨(-1), faM, rfl, h, by rw [ht]; exact hP, va_K.moved hW.alike hK, hD⟩, hS.F ht⟩) hS.2.2 dX6_family_54
      · have h := h.2 c_2
        refine lv_iload_n hx hb dX6_family_48 rfl (lv_at hl 1 rfl) ?_
        refine lv_iload_n hx hb dX6_family_49 rfl (lv_at hl 3 rfl) ?_
        refine lv_icmp_lt (tgt := 55) hx hb dX6_family_50 (by decide) (fun c_3 => ?_) (fun c_3 => ?_)
        · have h := h.1 c_3
          refine lv_iconst (v := 0) hx hb dX6_family_55 (by decide) ?_
          refine lv_istore (lv' := [(4, .int 0), (0, .ref (adM 0)), (1, .int p1), (2, .int p2), (3, .int v3)]) hx hb dX6_family_56 hl (by decide) rfl (fun ls hl => ?_)
          refine lv_iconst (v := 0) hx hb dX6_family_58 (by decide) ?_
          refine lv_istore (lv' := [(5, .int 0), (4, .int 0), (0, .ref (adM 0)), (1, .int p1), (2, .int p2), (3, .int v3)]) hx hb dX6_family_59 hl (by decide) rfl (fun ls hl => ?_)
          rw [hA61] at h
          exact h _ _ hP hD hS ls (lv_sub hl [2, 3, 4, 1, 0] rfl)
        · have h := h.2 c_3
          refine lv_iconst (v := (-1)) hx hb dX6_family_53 (by decide) ?_
          exact W.iret (v := (-1)) hx hb hr (fun t ht hW => ⟨⟨(-1), faM, rfl, h, by rw [ht]; exact hP, va_K.moved hW.alike hK, hD⟩, hS.F ht⟩) hS.2.2 dX6_family_54
    · have h := h.2 c_1
      refine lv_iload_n hx hb dX6_family_16 rfl (lv_at hl 3 rfl) ?_
      refine lv_aload_n hx hb dX6_family_17 rfl (lv_at hl 0 rfl) ?_
      refine lv_iload hx hb dX6_family_18 (lv_at hl 4 rfl) ?_
      have hFc := va_free (wc := (sh_M cs adM mpM mkM mgM mcM mwM mfM mtM mhM mmM mdM mxM mnM szM faM apM waM wrM fuM)) hD hS hA [0, 1, 2, 3, 4, 5, 6, 7, 8, 9, 10, 11, 12] rfl
      refine va_calli (va_runV (As := [.int v4]) (rest := [.int v3]) ⟨hx, hb, hml, hown, hts⟩ (met_X6_sizeOf l D cs ev _ adM mpM mkM mgM mcM mwM mfM mtM mhM mmM mdM mxM mnM szM faM apM waM wrM fuM v4 _ h) (cwV 1 hts gX6_family_X6_sizeOf rfl rfl rfl (by decide +kernel) ⟨Nat.le_of_ble_eq_true rfl, Nat.le_of_ble_eq_true rfl⟩) (mPreV (va_recv hK hP (ci := 5) (q0 := 0) rfl rfl) hP hD hS hK hE hFc [0, 1, 2, 3, 4, 5, 6, 7, 8, 9, 10, 11, 12] (by decide) rfl) rfl rfl hl.1 rfl (lv_room (Nat.le_of_ble_eq_true rfl)) dX6_family_20 ⟨Nat.le_of_ble_eq_true rfl, Nat.le_of_ble_eq_true rfl⟩) hS (fun q _ h => hFc q h) hFc (fun r_4 u t H1 locs ht hvm hw hB hz1 hk1 hS => ?_)
      have h := hw
      obtain ⟨hP1, hK1, hD1⟩ := hB
      rw [ht] at hP1
      obtain ⟨hP, hD⟩ := mJoin (wr := ([] : va_W)) (w1 := (sh_M cs adM mpM mkM mgM mcM mwM mfM mtM mhM mmM mdM mxM mnM szM faM apM waM wrM fuM)) (w' := (sh_M cs adM mpM mkM mgM mcM mwM mfM mtM mhM mmM mdM mxM mnM szM faM apM waM wrM fuM)) hP hD [0, 1, 2, 3, 4, 5, 6, 7, 8, 9, 10, 11, 12] [] rfl rfl (by decide) (by decide) hk1 hFc hP1 hD1 [0, 1, 2, 3, 4, 5, 6, 7, 8, 9, 10, 11, 12] (by decide) rfl
      generalize H1 = H at hP hS ⊢
      refine lv_if_le (tgt := 35) hx hb dX6_family_23 (by decide) (fun c_5 => ?_) (fun c_5 => ?_)
      · have h := h.1 c_5
        refine lv_iconst (v := 1) hx hb dX6_family_35 (by decide) ?_
        refine lv_imul hx hb dX6_family_36 ?_
        refine lv_istore_n (lv' := [(3, .int (v3 * 1)), (0, .ref (adM 0)), (1, .int p1), (2, .int p2), (4, .int v4)]) hx hb dX6_family_37 rfl hl (by decide) rfl (fun ls hl => ?_)
        refine lv_iinc (v := v4 + 1) (lv' := [(4, .int (v4 + 1)), (3, .int (v3 * 1)), (0, .ref (adM 0)), (1, .int p1), (2, .int p2)]) hx hb dX6_family_38 hl (k := 4) rfl rfl (by decide) rfl (fun ls hl => ?_)
        refine lv_goto (tgt := 10) hx hb dX6_family_41 (by decide) ?_
        rw [hA10] at h
        exact h _ _ hP hD hS ls (lv_sub hl [2, 3, 4, 1, 0] rfl)
      · have h := h.2 c_5
        refine lv_aload_n hx hb dX6_family_26 rfl (lv_at hl 0 rfl) ?_
        refine lv_iload hx hb dX6_family_27 (lv_at hl 4 rfl) ?_
        have hFc := va_free (wc := (sh_M cs adM mpM mkM mgM mcM mwM mfM mtM mhM mmM mdM mxM mnM szM faM apM waM wrM fuM)) hD hS hA [0, 1, 2, 3, 4, 5, 6, 7, 8, 9, 10, 11, 12] rfl
        refine va_calli (va_runV (As := [.int v4]) (rest := [.int v3]) ⟨hx, hb, hml, hown, hts⟩ (met_X6_sizeOf l D cs ev _ adM mpM mkM mgM mcM mwM mfM mtM mhM mmM mdM mxM mnM szM faM apM waM wrM fuM v4 _ h) (cwV 1 hts gX6_family_X6_sizeOf rfl rfl rfl (by decide +kernel) ⟨Nat.le_of_ble_eq_true rfl, Nat.le_of_ble_eq_true rfl⟩) (mPreV (va_recv hK hP (ci := 5) (q0 := 0) rfl rfl) hP hD hS hK hE hFc [0, 1, 2, 3, 4, 5, 6, 7, 8, 9, 10, 11, 12] (by decide) rfl) rfl rfl hl.1 rfl (lv_room (Nat.le_of_ble_eq_true rfl)) dX6_family_29 ⟨Nat.le_of_ble_eq_true rfl, Nat.le_of_ble_eq_true rfl⟩) hS (fun q _ h => hFc q h) hFc (fun r_6 u t H1 locs ht hvm hw hB hz1 hk1 hS => ?_)
        have h := hw
        obtain ⟨hP1, hK1, hD1⟩ := hB
        rw [ht] at hP1
        obtain ⟨hP, hD⟩ := mJoin (wr := ([] : va_W)) (w1 := (sh_M cs adM mpM mkM mgM mcM mwM mfM mtM mhM mmM mdM mxM mnM szM faM apM waM wrM fuM)) (w' := (sh_M cs adM mpM mkM mgM mcM mwM mfM mtM mhM mmM mdM mxM mnM szM faM apM waM wrM fuM)) hP hD [0, 1, 2, 3, 4, 5, 6, 7, 8, 9, 10, 11, 12] [] rfl rfl (by decide) (by decide) hk1 hFc hP1 hD1 [0, 1, 2, 3, 4, 5, 6, 7, 8, 9, 10, 11, 12] (by decide) rfl
        generalize H1 = H at hP hS ⊢
        refine lv_goto (tgt := 36) hx hb dX6_family_32 (by decide) ?_
        refine lv_imul hx hb dX6_family_36 ?_
        refine lv_istore_n (lv' := [(3, .int (v3 * r_6)), (0, .ref (adM 0)), (1, .int p1), (2, .int p2), (4, .int v4)]) hx hb dX6_family_37 rfl hl (by decide) rfl (fun ls hl => ?_)
        refine lv_iinc (v := v4 + 1) (lv' := [(4, .int (v4 + 1)), (3, .int (v3 * r_6)), (0, .ref (adM 0)), (1, .int p1), (2, .int p2)]) hx hb dX6_family_38 hl (k := 4) rfl rfl (by decide) rfl (fun ls hl => ?_)
        refine lv_goto (tgt := 10) hx hb dX6_family_41 (by decide) ?_
        rw [hA10] at h
        exact h _ _ hP hD hS ls (lv_sub hl [2, 3, 4, 1, 0] rfl)
  have s61 : ∀ (v4 : Int32) (v5 : Int32) (faM : Int32), (vp_in 0 2 ∧ (((mpM (0 : Int32).toNatClampNeg) ≤ v5 → post (-1) faM) ∧ (¬ (mpM (0 : Int32).toNatClampNeg) ≤ v5 → wp_X6_isIn mpM mmM v5 p1 (fun r_8 _ => ((r_8 = 0 → A61 v4 (v5 + 1) faM) ∧ (¬ r_8 = 0 → ((v4 = p2 → post v5 faM) ∧ (¬ v4 = p2 → A61 (v4 + 1) (v5 + 1) faM)))))))) → A61 v4 v5 faM := by
    intro v4 v5 faM h
    rw [hA61]
    intro H locs hP hD hS ls hl
    refine lv_iload hx hb dX6_family_61 (lv_at hl 4 rfl) ?_
    refine lv_aload_n hx hb dX6_family_63 rfl (lv_at hl 0 rfl) ?_
    refine va_get (D := D) (ci := 5) (v := .ref (adM 1)) (C := RX6) (T := TX6) (N := 18) hx hb hts (by decide +kernel) hown hK hP 0 rfl rfl 0 (by decide) (hts (.fieldLink RX6 7 "PartGraphsModel" "parts" "[I") (by decide +kernel)) (fun _ h9 => h9) rfl dX6_family_64 ?_
    refine lv_iconst (v := 0) hx hb dX6_family_67 (by decide) ?_
    have hin := h.1
    have h := h.2
    refine va_iald (D := D) (cl := vwCl) hx hb hK hP 1 0 rfl rfl hin dX6_family_68 ?_
    refine lv_icmp_ge (tgt := 100) hx hb dX6_family_69 (by decide) (fun c_7 => ?_) (fun c_7 => ?_)
    · have h := h.1 c_7
      refine lv_iconst (v := (-1)) hx hb dX6_family_100 (by decide) ?_
      exact W.iret (v := (-1)) hx hb hr (fun t ht hW => ⟨⟨(-1), faM, rfl, h, by rw [ht]; exact hP, va_K.moved hW.alike hK, hD⟩, hS.F ht⟩) hS.2.2 dX6_family_101
    · have h := h.2 c_7
      refine lv_aload_n hx hb dX6_family_72 rfl (lv_at hl 0 rfl) ?_
      refine lv_iload hx hb dX6_family_73 (lv_at hl 4 rfl) ?_
      refine lv_iload_n hx hb dX6_family_75 rfl (lv_at hl 1 rfl) ?_
      have hFc := va_free (wc := (sh_M cs adM mpM mkM mgM mcM mwM mfM mtM mhM mmM mdM mxM mnM szM faM apM waM wrM fuM)) hD hS hA [0, 1, 2, 3, 4, 5, 6, 7, 8, 9, 10, 11, 12] rfl
      refine va_calli (va_runV (As := [.int v5, .int p1]) (rest := []) ⟨hx, hb, hml, hown, hts⟩ (met_X6_isIn l D cs ev _ adM mpM mkM mgM mcM mwM mfM mtM mhM mmM mdM mxM mnM szM faM apM waM wrM fuM v5 p1 _ h) (cwV 2 hts gX6_family_X6_isIn rfl rfl rfl (by decide +kernel) ⟨Nat.le_of_ble_eq_true rfl, Nat.le_of_ble_eq_true rfl⟩) (mPreV (va_recv hK hP (ci := 5) (q0 := 0) rfl rfl) hP hD hS hK hE hFc [0, 1, 2, 3, 4, 5, 6, 7, 8, 9, 10, 11, 12] (by decide) rfl) rfl rfl hl.1 rfl (lv_room (Nat.le_of_ble_eq_true rfl)) dX6_family_76 ⟨Nat.le_of_ble_eq_true rfl, Nat.le_of_ble_eq_true rfl⟩) hS (fun q _ h => hFc q h) hFc (fun r_8 u t H1 locs ht hvm hw hB hz1 hk1 hS => ?_)
      have h := hw
      obtain ⟨hP1, hK1, hD1⟩ := hB
      rw [ht] at hP1
      obtain ⟨hP, hD⟩ := mJoin (wr := ([] : va_W)) (w1 := (sh_M cs adM mpM mkM mgM mcM mwM mfM mtM mhM mmM mdM mxM mnM szM faM apM waM wrM fuM)) (w' := (sh_M cs adM mpM mkM mgM mcM mwM mfM mtM mhM mmM mdM mxM mnM szM faM apM waM wrM fuM)) hP hD [0, 1, 2, 3, 4, 5, 6, 7, 8, 9, 10, 11, 12] [] rfl rfl (by decide) (by decide) hk1 hFc hP1 hD1 [0, 1, 2, 3, 4, 5, 6, 7, 8, 9, 10, 11, 12] (by decide) rfl
      generalize H1 = H at hP hS ⊢
      refine lv_if_eq (tgt := 94) hx hb dX6_family_79 (by decide) (fun c_9 => ?_) (fun c_9 => ?_)
      · have h := h.1 c_9
        refine lv_iinc (v := v5 + 1) (lv' := [(5, .int (v5 + 1)), (0, .ref (adM 0)), (1, .int p1), (2, .int p2), (4, .int v4)]) hx hb dX6_family_94 hl (k := 4) rfl rfl (by decide) rfl (fun ls hl => ?_)
        refine lv_goto (tgt := 61) hx hb dX6_family_97 (by decide) ?_
        rw [hA61] at h
        exact h _ _ hP hD hS ls (lv_sub hl [1, 2, 3, 4, 0] rfl)
      · have h := h.2 c_9
        refine lv_iload hx hb dX6_family_82 (lv_at hl 3 rfl) ?_
        refine lv_iload_n hx hb dX6_family_84 rfl (lv_at hl 2 rfl) ?_
        refine lv_icmp_ne (tgt := 91) hx hb dX6_family_85 (by decide) (fun c_10 => ?_) (fun c_10 => ?_)
        · have h := h.2 c_10
          refine lv_iinc (v := v4 + 1) (lv' := [(4, .int (v4 + 1)), (0, .ref (adM 0)), (1, .int p1), (2, .int p2), (5, .int v5)]) hx hb dX6_family_91 hl (k := 3) rfl rfl (by decide) rfl (fun ls hl => ?_)
          refine lv_iinc (v := v5 + 1) (lv' := [(5, .int (v5 + 1)), (4, .int (v4 + 1)), (0, .ref (adM 0)), (1, .int p1), (2, .int p2)]) hx hb dX6_family_94 hl (k := 4) rfl rfl (by decide) rfl (fun ls hl => ?_)
          refine lv_goto (tgt := 61) hx hb dX6_family_97 (by decide) ?_
          rw [hA61] at h
          exact h _ _ hP hD hS ls (lv_sub hl [2, 3, 4, 1, 0] rfl)
        · have h := h.1 c_10
          refine lv_iload hx hb dX6_family_88 (lv_at hl 4 rfl) ?_
          exact W.iret (v := v5) hx hb hr (fun t ht hW => ⟨⟨v5, faM, rfl, h, by rw [ht]; exact hP, va_K.moved hW.alike hK, hD⟩, hS.F ht⟩) hS.2.2 dX6_family_90
  have h := h A10 A61 s10 s61
  refine lv_aload_n hx hb dX6_family_0 rfl (lv_at hl 0 rfl) ?_
  refine lv_iconst (v := 0) hx hb dX6_family_1 (by decide) ?_
  refine va_put (D := D) (ci := 5) (v := .int 0) (ty := .int) (C := RX6) (T := TX6) (N := 18) hx hb hts (by decide +kernel) tyX6 tyX6_ok nmX6 hown hK hP hD hS 0 rfl rfl 12 (by decide) (hts (.fieldLink RX6 52 "PartGraphsModel" "fault" "I") (by decide +kernel)) (fun _ h9 => h9) rfl (by decide +kernel) rfl rfl (Nat.le_of_ble_eq_true rfl) dX6_family_2 (fun H locs hP hD hS => ?_)
  have hP : va_P D vwCl (sh_M cs adM mpM mkM mgM mcM mwM mfM mtM mhM mmM mdM mxM mnM szM 0 apM waM wrM fuM) H := hP
  have hD : va_D A (sh_M cs adM mpM mkM mgM mcM mwM mfM mtM mhM mmM mdM mxM mnM szM 0 apM waM wrM fuM) := hD
  refine lv_iconst (v := 1) hx hb dX6_family_5 (by decide) ?_
  refine lv_istore_n (lv' := [(3, .int 1), (0, .ref (adM 0)), (1, .int p1), (2, .int p2)]) hx hb dX6_family_6 rfl hl (by decide) rfl (fun ls hl => ?_)
  refine lv_iconst (v := 0) hx hb dX6_family_7 (by decide) ?_
  refine lv_istore (lv' := [(4, .int 0), (3, .int 1), (0, .ref (adM 0)), (1, .int p1), (2, .int p2)]) hx hb dX6_family_8 hl (by decide) rfl (fun ls hl => ?_)
  rw [hA10] at h
  exact h _ _ hP hD hS ls (lv_sub hl [2, 3, 4, 1, 0] rfl)
