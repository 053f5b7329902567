def wp_X6_readSentence (mpM : Nat → Int32) (mkM : Nat → Int32) (mgM : Nat → Int32) (mcM : Nat → Int32) (mwM : Nat → Int32) (mfM : Nat → Int32) (mtM : Nat → Int32) (mhM : Nat → Int32) (mmM : Nat → Int32) (mdM : Nat → Int32) (mxM : Nat → Int32) (mnM : Nat → Int32) (szM : Int32) (apM : Int32) (post : Int32 → ((Nat → Int32) × (Nat → Int32) × (Nat → Int32) × (Nat → Int32) × (Nat → Int32) × (Nat → Int32) × (Nat → Int32) × (Nat → Int32) × (Nat → Int32) × (Nat → Int32) × (Nat → Int32) × Int32) → Prop) : Prop :=
    ∀ (A22 : Int32 → Int64 → Int32 → (Nat → Int32) → (Nat → Int32) → (Nat → Int32) → (Nat → Int32) → (Nat → Int32) → (Nat → Int32) → (Nat → Int32) → (Nat → Int32) → (Nat → Int32) → (Nat → Int32) → (Nat → Int32) → Int32 → Prop) (A80 : Int32 → Int32 → (Nat → Int32) → (Nat → Int32) → (Nat → Int32) → (Nat → Int32) → (Nat → Int32) → (Nat → Int32) → (Nat → Int32) → (Nat → Int32) → (Nat → Int32) → (Nat → Int32) → (Nat → Int32) → Int32 → Prop),
    (∀ (v1 : Int32) (v2 : Int64) (v4 : Int32) (mpM : Nat → Int32) (mkM : Nat → Int32) (mgM : Nat → Int32) (mcM : Nat → Int32) (mwM : Nat → Int32) (mfM : Nat → Int32) (mtM : Nat → Int32) (mhM : Nat → Int32) (mmM : Nat → Int32) (mdM : Nat → Int32) (mnM : Nat → Int32) (apM : Int32), ((7 ≤ v4 → ((v4 = 7 → post 0 (mpM, mkM, mgM, mcM, mwM, mfM, mtM, mhM, mmM, mdM, mnM, apM)) ∧ (¬ v4 = 7 → wp_X6_canBe mpM mcM mwM mfM mhM mmM 1 v4 0 0 0 0 (fun r_5 _ => ((r_5 = 0 → post 0 (mpM, mkM, mgM, mcM, mwM, mfM, mtM, mhM, mmM, mdM, mnM, apM)) ∧ (¬ r_5 = 0 → wp_X6_wordBegin mxM szM v1 (fun r_7 _ => A80 v4 0 mpM mkM mgM mcM mwM mfM mtM mhM mmM mdM mnM r_7))))))) ∧ (¬ 7 ≤ v4 → wp_X6_nameOf v4 (fun r_8 _ => (((lg_cmp r_8 v2) = 0 → ((v4 = 7 → post 0 (mpM, mkM, mgM, mcM, mwM, mfM, mtM, mhM, mmM, mdM, mnM, apM)) ∧ (¬ v4 = 7 → wp_X6_canBe mpM mcM mwM mfM mhM mmM 1 v4 0 0 0 0 (fun r_11 _ => ((r_11 = 0 → post 0 (mpM, mkM, mgM, mcM, mwM, mfM, mtM, mhM, mmM, mdM, mnM, apM)) ∧ (¬ r_11 = 0 → wp_X6_wordBegin mxM szM v1 (fun r_13 _ => A80 v4 0 mpM mkM mgM mcM mwM mfM mtM mhM mmM mdM mnM r_13))))))) ∧ (¬ (lg_cmp r_8 v2) = 0 → A22 v1 v2 (v4 + 1) mpM mkM mgM mcM mwM mfM mtM mhM mmM mdM mnM apM))))) → A22 v1 v2 v4 mpM mkM mgM mcM mwM mfM mtM mhM mmM mdM mnM apM) →
    (∀ (v4 : Int32) (v5 : Int32) (mpM : Nat → Int32) (mkM : Nat → Int32) (mgM : Nat → Int32) (mcM : Nat → Int32) (mwM : Nat → Int32) (mfM : Nat → Int32) (mtM : Nat → Int32) (mhM : Nat → Int32) (mmM : Nat → Int32) (mdM : Nat → Int32) (mnM : Nat → Int32) (apM : Int32), wp_X6_numbersOf v4 (fun r_14 _ => ((r_14 ≤ v5 → (vp_in 0 3 ∧ (vp_in 1 3 ∧ (vp_in 2 3 ∧ wp_X6_make mpM mkM mgM mcM mwM mfM mtM mhM mmM mdM 1 v4 (mnM (0 : Int32).toNatClampNeg) (mnM (1 : Int32).toNatClampNeg) (mnM (2 : Int32).toNatClampNeg) (fun u => match u with | (mp_17, mk_18, mg_19, mc_20, mw_21, mf_22, mt_23, mh_24, mm_25, md_26) => post 1 (mp_17, mk_18, mg_19, mc_20, mw_21, mf_22, mt_23, mh_24, mm_25, md_26, mnM, apM)))))) ∧ (¬ r_14 ≤ v5 → wp_X6_wordEnd mxM szM apM (fun r_27 _ => ((szM ≤ apM → (vp_in v5 3 ∧ (vp_in v5 3 ∧ ((((upd mnM v5.toNatClampNeg (-1)) v5.toNatClampNeg) < 0 → post 0 (mpM, mkM, mgM, mcM, mwM, mfM, mtM, mhM, mmM, mdM, upd mnM v5.toNatClampNeg (-1), apM)) ∧ (¬ ((upd mnM v5.toNatClampNeg (-1)) v5.toNatClampNeg) < 0 → (vp_in 0 3 ∧ (vp_in 1 3 ∧ (vp_in 2 3 ∧ wp_X6_canBe mpM mcM mwM mfM mhM mmM 1 v4 (v5 + 1) ((upd mnM v5.toNatClampNeg (-1)) (0 : Int32).toNatClampNeg) ((upd mnM v5.toNatClampNeg (-1)) (1 : Int32).toNatClampNeg) ((upd mnM v5.toNatClampNeg (-1)) (2 : Int32).toNatClampNeg) (fun r_30 _ => ((r_30 = 0 → post 0 (mpM, mkM, mgM, mcM, mwM, mfM, mtM, mhM, mmM, mdM, upd mnM v5.toNatClampNeg (-1), apM)) ∧ (¬ r_30 = 0 → wp_X6_wordBegin mxM szM r_27 (fun r_32 _ => A80 v4 (v5 + 1) mpM mkM mgM mcM mwM mfM mtM mhM mmM mdM (upd mnM v5.toNatClampNeg (-1)) r_32)))))))))))) ∧ (¬ szM ≤ apM → wp_X6_numberOf mxM apM r_27 (fun r_33 _ => (vp_in v5 3 ∧ (vp_in v5 3 ∧ ((((upd mnM v5.toNatClampNeg r_33) v5.toNatClampNeg) < 0 → post 0 (mpM, mkM, mgM, mcM, mwM, mfM, mtM, mhM, mmM, mdM, upd mnM v5.toNatClampNeg r_33, apM)) ∧ (¬ ((upd mnM v5.toNatClampNeg r_33) v5.toNatClampNeg) < 0 → (vp_in 0 3 ∧ (vp_in 1 3 ∧ (vp_in 2 3 ∧ wp_X6_canBe mpM mcM mwM mfM mhM mmM 1 v4 (v5 + 1) ((upd mnM v5.toNatClampNeg r_33) (0 : Int32).toNatClampNeg) ((upd mnM v5.toNatClampNeg r_33) (1 : Int32).toNatClampNeg) ((upd mnM v5.toNatClampNeg r_33) (2 : Int32).toNatClampNeg) (fun r_35 _ => ((r_35 = 0 → post 0 (mpM, mkM, mgM, mcM, mwM, mfM, mtM, mhM, mmM, mdM, upd mnM v5.toNatClampNeg r_33, apM)) ∧ (¬ r_35 = 0 → wp_X6_wordBegin mxM szM r_27 (fun r_37 _ => A80 v4 (v5 + 1) mpM mkM mgM mcM mwM mfM mtM mhM mmM mdM (upd mnM v5.toNatClampNeg r_33) r_37)))))))))))))))))) → A80 v4 v5 mpM mkM mgM mcM mwM mfM mtM mhM mmM mdM mnM apM) →
    wp_X6_wordEnd mxM szM apM (fun r_1 _ => wp_X6_wordOf mxM apM r_1 (fun r_2 _ => A22 r_1 r_2 0 mpM mkM mgM mcM mwM mfM mtM mhM mmM mdM mnM apM))
set_option maxHeartbeats 4000000 in
set_option maxRecDepth 100000 in
theorem met_X6_readSentence (l : Launch) (D : va_G) (cs : Nat → ClassId) (ev : Nat → Nat → Nat) (sz0 : Nat) (adM : Nat → Nat) (mpM : Nat → Int32) (mkM : Nat → Int32) (mgM : Nat → Int32) (mcM : Nat → Int32) (mwM : Nat → Int32) (mfM : Nat → Int32) (mtM : Nat → Int32) (mhM : Nat → Int32) (mmM : Nat → Int32) (mdM : Nat → Int32) (mxM : Nat → Int32) (mnM : Nat → Int32) (szM : Int32) (faM : Int32) (apM : Int32) (waM : Int32) (wrM : Int32) (fuM : Int32) (post : Int32 → ((Nat → Int32) × (Nat → Int32) × (Nat → Int32) × (Nat → Int32) × (Nat → Int32) × (Nat → Int32) × (Nat → Int32) × (Nat → Int32) × (Nat → Int32) × (Nat → Int32) × (Nat → Int32) × Int32) → Prop) (h : wp_X6_readSentence mpM mkM mgM mcM mwM mfM mtM mhM mmM mdM mxM mnM szM apM post) : Met l yX6_readSentence wsX6_readSentence ({ frames := 3, cells := 0, slots := 0, locals := 77 }) (va_Pc [.ref (adM 0)] (mPre D cs ev (sh_M cs adM mpM mkM mgM mcM mwM mfM mtM mhM mmM mdM mxM mnM szM faM apM waM wrM fuM) sz0)) (va_Qi post (fun u t => match u with | (mpM', mkM', mgM', mcM', mwM', mfM', mtM', mhM', mmM', mdM', mnM', apM') => mAt D cs (va_A (sh_M cs adM mpM mkM mgM mcM mwM mfM mtM mhM mmM mdM mxM mnM szM faM apM waM wrM fuM) sz0) (sh_M cs adM mpM' mkM' mgM' mcM' mwM' mfM' mtM' mhM' mmM' mdM' mxM mnM' szM faM apM' waM wrM fuM) t) (va_A (sh_M cs adM mpM mkM mgM mcM mwM mfM mtM mhM mmM mdM mxM mnM szM faM apM waM wrM fuM) sz0)) 0 0 (va_A (sh_M cs adM mpM mkM mgM mcM mwM mfM mtM mhM mmM mdM mxM mnM szM faM apM waM wrM fuM) sz0) := by
  refine Met.ofW (cc := cX6_readSentence) (maxL := 6) (ret := (some .boolean)) (by decide) rfl ?_
  intro p e s m args below meth c s₁ B hml hv
  obtain ⟨rfl, hsz, hP, hK, hD0, hE⟩ := hv
  have hx := B.exec
  have hb := B.bytes
  have hr := B.returns
  have hts := atoms_spec (ws := wsX6_readSentence) B.pre
  have hown : s.vm.findClass RX6 = some m.cls := findClass_of_methodNamed B.named
  have hlocks := B.notSynchronized
  subst hsz
  have hD := hD0.self (sz := s.heap.size)
  generalize hAe : va_A (sh_M cs adM mpM mkM mgM mcM mwM mfM mtM mhM mmM mdM mxM mnM szM faM apM waM wrM fuM) s.heap.size = A at hD hE ⊢
  have hA : ∀ q : Nat, s.heap.size ≤ q → A q := fun q h => by rw [← hAe]; exact Or.inr h
  have hS : va_S A s.heap s.heap [] := va_S.rf
  have hl := lv_entry ([.ref (adM 0)]) (n := 6) (Nat.le_of_ble_eq_true rfl)
  rw [lg_entry_eq]
  generalize (lg_sl ([.ref (adM 0)]) ++ List.replicate (6 - (lg_sl ([.ref (adM 0)])).length) Slot.unset).toArray = ls at hl ⊢
  have hl : lv_has ls 6 [(0, .ref (adM 0))] := hl
  obtain ⟨A22, hA22⟩ : ∃ Q : Int32 → Int64 → Int32 → (Nat → Int32) → (Nat → Int32) → (Nat → Int32) → (Nat → Int32) → (Nat → Int32) → (Nat → Int32) → (Nat → Int32) → (Nat → Int32) → (Nat → Int32) → (Nat → Int32) → (Nat → Int32) → Int32 → Prop, Q = (fun v1 v2 v4 mpM mkM mgM mcM mwM mfM mtM mhM mmM mdM mnM apM => ∀ (H : Heap) (locs : List Loc), va_P D vwCl (sh_M cs adM mpM mkM mgM mcM mwM mfM mtM mhM mmM mdM mxM mnM szM faM apM waM wrM fuM) H → va_D A (sh_M cs adM mpM mkM mgM mcM mwM mfM mtM mhM mmM mdM mxM mnM szM faM apM waM wrM fuM) → va_S A s.heap H locs → ∀ ls : Array Slot, lv_has ls 6 [(0, .ref (adM 0)), (1, .int v1), (2, .long v2), (4, .int v4)] → W p l e (headSpec wsX6_readSentence ({ frames := 3, cells := 0, slots := 0, locals := 77 })).room s m ([.ref (adM 0)] : List Value).toArray below meth c H locs 0 0 (MQ below (va_Qi post (fun u t => match u with | (mpM', mkM', mgM', mcM', mwM', mfM', mtM', mhM', mmM', mdM', mnM', apM') => mAt D cs (A) (sh_M cs adM mpM' mkM' mgM' mcM' mwM' mfM' mtM' mhM' mmM' mdM' mxM mnM' szM faM apM' waM wrM fuM) t) A) ([.ref (adM 0)] : List Value).toArray s 0 0 A) (F0 m 22 ls [])) := ⟨_, rfl⟩
  obtain ⟨A80, hA80⟩ : ∃ Q : Int32 → Int32 → (Nat → Int32) → (Nat → Int32) → (Nat → Int32) → (Nat → Int32) → (Nat → Int32) → (Nat → Int32) → (Nat → Int32) → (Nat → Int32) → (Nat → Int32) → (Nat → Int32) → (Nat → Int32) → Int32 → Prop, Q = (fun v4 v5 mpM mkM mgM mcM mwM mfM mtM mhM mmM mdM mnM apM => ∀ (H : Heap) (locs : List Loc), va_P D vwCl (sh_M cs adM mpM mkM mgM mcM mwM mfM mtM mhM mmM mdM mxM mnM szM faM apM waM wrM fuM) H → va_D A (sh_M cs adM mpM mkM mgM mcM mwM mfM mtM mhM mmM mdM mxM mnM szM faM apM waM wrM fuM) → va_S A s.heap H locs → ∀ ls : Array Slot, lv_has ls 6 [(0, .ref (adM 0)), (4, .int v4), (5, .int v5)] → W p l e (headSpec wsX6_readSentence ({ frames := 3, cells := 0, slots := 0, locals := 77 })).room s m ([.ref (adM 0)] : List Value).toArray below meth c H locs 0 0 (MQ below (va_Qi post (fun u t => match u with | (mpM', mkM', mgM', mcM', mwM', mfM', mtM', mhM', mmM', mdM', mnM', apM') => mAt D cs (A) (sh_M cs adM mpM' mkM' mgM' mcM' mwM' mfM' mtM' mhM' mmM' mdM' mxM mnM' szM faM apM' waM wrM fuM) t) A) ([.ref (adM 0)] : List Value).toArray s 0 0 A) (F0 m 80 ls [])) := ⟨_, rfl⟩
  have s22 : ∀ (v1 : Int32) (v2 : Int64) (v4 : Int32) (mpM : Nat → Int32) (mkM : Nat → Int32) (mgM : Nat → Int32) (mcM : Nat → Int32) (mwM : Nat → Int32) (mfM : Nat → Int32) (mtM : Nat → Int32) (mhM : Nat → Int32) (mmM : Nat → Int32) (mdM : Nat → Int32) (mnM : Nat → Int32) (apM : Int32), ((7 ≤ v4 → ((v4 = 7 → post 0 (mpM, mkM, mgM, mcM, mwM, mfM, mtM, mhM, mmM, mdM, mnM, apM)) ∧ (¬ v4 = 7 → wp_X6_canBe mpM mcM mwM mfM mhM mmM 1 v4 0 0 0 0 (fun r_5 _ => ((r_5 = 0 → post 0 (mpM, mkM, mgM, mcM, mwM, mfM, mtM, mhM, mmM, mdM, mnM, apM)) ∧ (¬ r_5 = 0 → wp_X6_wordBegin mxM szM v1 (fun r_7 _ => A80 v4 0 mpM mkM mgM mcM mwM mfM mtM mhM mmM mdM mnM r_7))))))) ∧ (¬ 7 ≤ v4 → wp_X6_nameOf v4 (fun r_8 _ => (((lg_cmp r_8 v2) = 0 → ((v4 = 7 → post 0 (mpM, mkM, mgM, mcM, mwM, mfM, mtM, mhM, mmM, mdM, mnM, apM)) ∧ (¬ v4 = 7 → wp_X6_canBe mpM mcM mwM mfM mhM mmM 1 v4 0 0 0 0 (fun r_11 _ => ((r_11 = 0 → post 0 (mpM, mkM, mgM, mcM, mwM, mfM, mtM, mhM, mmM, mdM, mnM, apM)) ∧ (¬ r_11 = 0 → wp_X6_wordBegin mxM szM v1 (fun r_13 _ => A80 v4 0 mpM mkM mgM mcM mwM mfM mtM mhM mmM mdM mnM r_13))))))) ∧ (¬ (lg_cmp r_8 v2) = 0 → A22 v1 v2 (v4 + 1) mpM mkM mgM mcM mwM mfM mtM mhM mmM mdM mnM apM))))) → A22 v1 v2 v4 mpM mkM mgM mcM mwM mfM mtM mhM mmM mdM mnM apM := by
    intro v1 v2 v4 mpM mkM mgM mcM mwM mfM mtM mhM mmM mdM mnM apM h
    rw [hA22]
    intro H locs hP hD hS ls hl
    refine lv_iload hx hb dX6_readSentence_22 (lv_at hl 3 rfl) ?_
    refine lv_bipush (v := 7) hx hb dX6_readSentence_24 (by decide) ?_
    refine lv_icmp_ge (tgt := 45) hx hb dX6_readSentence_26 (by decide) (fun c_3 => ?_) (fun c_3 => ?_)
    · have h := h.1 c_3
      refine lv_iload hx hb dX6_readSentence_45 (lv_at hl 3 rfl) ?_
      refine lv_bipush (v := 7) hx hb dX6_readSentence_47 (by decide) ?_
      refine lv_icmp_eq (tgt := 66) hx hb dX6_readSentence_49 (by decide) (fun c_4 => ?_) (fun c_4 => ?_)
      · have h := h.1 c_4
        refine lv_iconst (v := 0) hx hb dX6_readSentence_66 (by decide) ?_
        exact W.zret (v := 0) hx hb hr (by decide) (fun t ht hW => ⟨⟨0, (mpM, mkM, mgM, mcM, mwM, mfM, mtM, mhM, mmM, mdM, mnM, apM), rfl, h, by rw [ht]; exact hP, va_K.moved hW.alike hK, hD⟩, hS.F ht⟩) hS.2.2 dX6_readSentence_67
      · have h := h.2 c_4
        refine lv_aload_n hx hb dX6_readSentence_52 rfl (lv_at hl 0 rfl) ?_
        refine lv_iconst (v := 1) hx hb dX6_readSentence_53 (by decide) ?_
        refine lv_iload hx hb dX6_readSentence_54 (lv_at hl 3 rfl) ?_
        refine lv_iconst (v := 0) hx hb dX6_readSentence_56 (by decide) ?_
        refine lv_iconst (v := 0) hx hb dX6_readSentence_57 (by decide) ?_
        refine lv_iconst (v := 0) hx hb dX6_readSentence_58 (by decide) ?_
        refine lv_iconst (v := 0) hx hb dX6_readSentence_59 (by decide) ?_
        have hFc := va_free (wc := (sh_M cs adM mpM mkM mgM mcM mwM mfM mtM mhM mmM mdM mxM mnM szM faM apM waM wrM fuM)) hD hS hA [0, 1, 2, 3, 4, 5, 6, 7, 8, 9, 10, 11, 12] rfl
        refine va_calli (va_runV (As := [.int 1, .int v4, .int 0, .int 0, .int 0, .int 0]) (rest := []) ⟨hx, hb, hml, hown, hts⟩ (met_X6_canBe l D cs ev _ adM mpM mkM mgM mcM mwM mfM mtM mhM mmM mdM mxM mnM szM faM apM waM wrM fuM 1 v4 0 0 0 0 _ h) (cwV 6 hts gX6_readSentence_X6_canBe rfl rfl rfl (by decide +kernel) ⟨Nat.le_of_ble_eq_true rfl, Nat.le_of_ble_eq_true rfl⟩) (mPreV (va_recv hK hP (ci := 5) (q0 := 0) rfl rfl) hP hD hS hK hE hFc [0, 1, 2, 3, 4, 5, 6, 7, 8, 9, 10, 11, 12] (by decide) rfl) rfl rfl hl.1 rfl (lv_room (Nat.le_of_ble_eq_true rfl)) dX6_readSentence_60 ⟨Nat.le_of_ble_eq_true rfl, Nat.le_of_ble_eq_true rfl⟩) hS (fun q _ h => hFc q h) hFc (fun r_5 u t H1 locs ht hvm hw hB hz1 hk1 hS => ?_)
        have h := hw
        obtain ⟨hP1, hK1, hD1⟩ := hB
        rw [ht] at hP1
        obtain ⟨hP, hD⟩ := mJoin (wr := ([] : va_W)) (w1 := (sh_M cs adM mpM mkM mgM mcM mwM mfM mtM mhM mmM mdM mxM mnM szM faM apM waM wrM fuM)) (w' := (sh_M cs adM mpM mkM mgM mcM mwM mfM mtM mhM mmM mdM mxM mnM szM faM apM waM wrM fuM)) hP hD [0, 1, 2, 3, 4, 5, 6, 7, 8, 9, 10, 11, 12] [] rfl rfl (by decide) (by decide) hk1 hFc hP1 hD1 [0, 1, 2, 3, 4, 5, 6, 7, 8, 9, 10, 11, 12] (by decide) rfl
        generalize H1 = H at hP hS ⊢
        refine lv_if_ne (tgt := 68) hx hb dX6_readSentence_63 (by decide) (fun c_6 => ?_) (fun c_6 => ?_)
        · have h := h.2 c_6
          refine lv_aload_n hx hb dX6_readSentence_68 rfl (lv_at hl 0 rfl) ?_
          refine lv_aload_n hx hb dX6_readSentence_69 rfl (lv_at hl 0 rfl) ?_
          refine lv_iload_n hx hb dX6_readSentence_70 rfl (lv_at hl 1 rfl) ?_
          have hFc := va_free (wc := (sh_M cs adM mpM mkM mgM mcM mwM mfM mtM mhM mmM mdM mxM mnM szM faM apM waM wrM fuM)) hD hS hA [0, 1, 2, 3, 4, 5, 6, 7, 8, 9, 10, 11, 12] rfl
          refine va_calli (va_runV (As := [.int v1]) (rest := [.ref (adM 0)]) ⟨hx, hb, hml, hown, hts⟩ (met_X6_wordBegin l D cs ev _ adM mpM mkM mgM mcM mwM mfM mtM mhM mmM mdM mxM mnM szM faM apM waM wrM fuM v1 _ h) (cwV 1 hts gX6_readSentence_X6_wordBegin rfl rfl rfl (by decide +kernel) ⟨Nat.le_of_ble_eq_true rfl, Nat.le_of_ble_eq_true rfl⟩) (mPreV (va_recv hK hP (ci := 5) (q0 := 0) rfl rfl) hP hD hS hK hE hFc [0, 1, 2, 3, 4, 5, 6, 7, 8, 9, 10, 11, 12] (by decide) rfl) rfl rfl hl.1 rfl (lv_room (Nat.le_of_ble_eq_true rfl)) dX6_readSentence_71 ⟨Nat.le_of_ble_eq_true rfl, Nat.le_of_ble_eq_true rfl⟩) hS (fun q _ h => hFc q h) hFc (fun r_7 u t H1 locs ht hvm hw hB hz1 hk1 hS => ?_)
          have h := hw
          obtain ⟨hP1, hK1, hD1⟩ := hB
          rw [ht] at hP1
          obtain ⟨hP, hD⟩ := mJoin (wr := ([] : va_W)) (w1 := (sh_M cs adM mpM mkM mgM mcM mwM mfM mtM mhM mmM mdM mxM mnM szM faM apM waM wrM fuM)) (w' := (sh_M cs adM mpM mkM mgM mcM mwM mfM mtM mhM mmM mdM mxM mnM szM faM apM waM wrM fuM)) hP hD [0, 1, 2, 3, 4, 5, 6, 7, 8, 9, 10, 11, 12] [] rfl rfl (by decide) (by decide) hk1 hFc hP1 hD1 [0, 1, 2, 3, 4, 5, 6, 7, 8, 9, 10, 11, 12] (by decide) rfl
          generalize H1 = H at hP hS ⊢
          refine va_put (D := D) (ci := 5) (v := .int r_7) (ty := .int) (C := RX6) (T := TX6) (N := 18) hx hb hts (by decide +kernel) tyX6 tyX6_ok nmX6 hown hK hP hD hS 0 rfl rfl 14 (by decide) (hts (.fieldLink RX6 92 "PartGraphsModel" "at" "I") (by decide +kernel)) (fun _ h9 => h9) rfl (by decide +kernel) rfl rfl (Nat.le_of_ble_eq_true rfl) dX6_readSentence_74 (fun H locs hP hD hS => ?_)
          have hP : va_P D vwCl (sh_M cs adM mpM mkM mgM mcM mwM mfM mtM mhM mmM mdM mxM mnM szM faM r_7 waM wrM fuM) H := hP
          have hD : va_D A (sh_M cs adM mpM mkM mgM mcM mwM mfM mtM mhM mmM mdM mxM mnM szM faM r_7 waM wrM fuM) := hD
          refine lv_iconst (v := 0) hx hb dX6_readSentence_77 (by decide) ?_
          refine lv_istore (lv' := [(5, .int 0), (0, .ref (adM 0)), (1, .int v1), (2, .long v2), (4, .int v4)]) hx hb dX6_readSentence_78 hl (by decide) rfl (fun ls hl => ?_)
          rw [hA80] at h
          exact h _ _ hP hD hS ls (lv_sub hl [1, 4, 0] rfl)
        · have h := h.1 c_6
          refine lv_iconst (v := 0) hx hb dX6_readSentence_66 (by decide) ?_
          exact W.zret (v := 0) hx hb hr (by decide) (fun t ht hW => ⟨⟨0, (mpM, mkM, mgM, mcM, mwM, mfM, mtM, mhM, mmM, mdM, mnM, apM), rfl, h, by rw [ht]; exact hP, va_K.moved hW.alike hK, hD⟩, hS.F ht⟩) hS.2.2 dX6_readSentence_67
    · have h := h.2 c_3
      refine lv_iload hx hb dX6_readSentence_29 (lv_at hl 3 rfl) ?_
      have hFc := va_free (wc := ([] : va_W)) hD hS hA [] rfl
      refine va_calll (va_runS (As := [.int v4]) (rest := []) ⟨hx, hb, hml, hown, hts⟩ (met_X6_nameOf l D cs ev _ v4 _ h) (va_cwS 1 hts gX6_readSentence_X6_nameOf rfl rfl rfl (by decide +kernel) ⟨Nat.le_of_ble_eq_true rfl, Nat.le_of_ble_eq_true rfl⟩) (mPreS hP hD hS hK hE hFc [] (by decide) rfl) rfl rfl hl.1 rfl (lv_room (Nat.le_of_ble_eq_true rfl)) dX6_readSentence_31 ⟨Nat.le_of_ble_eq_true rfl, Nat.le_of_ble_eq_true rfl⟩) hS (fun q _ h => hFc q h) hFc (fun r_8 u t H1 locs ht hvm hw hB hz1 hk1 hS => ?_)
      have h := hw
      obtain ⟨hP1, hK1, hD1⟩ := hB
      rw [ht] at hP1
      obtain ⟨hP, hD⟩ := mJoin (wr := (sh_M cs adM mpM mkM mgM mcM mwM mfM mtM mhM mmM mdM mxM mnM szM faM apM waM wrM fuM)) (w1 := ([] : va_W)) (w' := (sh_M cs adM mpM mkM mgM mcM mwM mfM mtM mhM mmM mdM mxM mnM szM faM apM waM wrM fuM)) hP hD [] [0, 1, 2, 3, 4, 5, 6, 7, 8, 9, 10, 11, 12] rfl rfl (by decide) (by decide) hk1 hFc hP1 hD1 [0, 1, 2, 3, 4, 5, 6, 7, 8, 9, 10, 11, 12] (by decide) rfl
      generalize H1 = H at hP hS ⊢
      refine lv_lload_n hx hb dX6_readSentence_34 rfl (lv_at hl 2 rfl) ?_
      refine W.lcmp hx hb dX6_readSentence_35 ?_
      refine lv_if_eq (tgt := 45) hx hb dX6_readSentence_36 (by decide) (fun c_9 => ?_) (fun c_9 => ?_)
      · have h := h.1 c_9
        refine lv_iload hx hb dX6_readSentence_45 (lv_at hl 3 rfl) ?_
        refine lv_bipush (v := 7) hx hb dX6_readSentence_47 (by decide) ?_
        refine lv_icmp_eq (tgt := 66) hx hb dX6_readSentence_49 (by decide) (fun c_10 => ?_) (fun c_10 => ?_)
        · have h := h.1 c_10
          refine lv_iconst (v := 0) hx hb dX6_readSentence_66 (by decide) ?_
          exact W.zret (v := 0) hx hb hr (by decide) (fun t ht hW => ⟨⟨0, (mpM, mkM, mgM, mcM, mwM, mfM, mtM, mhM, mmM, mdM, mnM, apM), rfl, h, by rw [ht]; exact hP, va_K.moved hW.alike hK, hD⟩, hS.F ht⟩) hS.2.2 dX6_readSentence_67
        · have h := h.2 c_10
          refine lv_aload_n hx hb dX6_readSentence_52 rfl (lv_at hl 0 rfl) ?_
          refine lv_iconst (v := 1) hx hb dX6_readSentence_53 (by decide) ?_
          refine lv_iload hx hb dX6_readSentence_54 (lv_at hl 3 rfl) ?_
          refine lv_iconst (v := 0) hx hb dX6_readSentence_56 (by decide) ?_
          refine lv_iconst (v := 0) hx hb dX6_readSentence_57 (by decide) ?_
          refine lv_iconst (v := 0) hx hb dX6_readSentence_58 (by decide) ?_
          refine lv_iconst (v := 0) hx hb dX6_readSentence_59 (by decide) ?_
          have hFc := va_free (wc := (sh_M cs adM mpM mkM mgM mcM mwM mfM mtM mhM mmM mdM mxM mnM szM faM apM waM wrM fuM)) hD hS hA [0, 1, 2, 3, 4, 5, 6, 7, 8, 9, 10, 11, 12] rfl
          refine va_calli (va_runV (As := [.int 1, .int v4, .int 0, .int 0, .int 0, .int 0]) (rest := []) ⟨hx, hb, hml, hown, hts⟩ (met_X6_canBe l D cs ev _ adM mpM mkM mgM mcM mwM mfM mtM mhM mmM mdM mxM mnM szM faM apM waM wrM fuM 1 v4 0 0 0 0 _ h) (cwV 6 hts gX6_readSentence_X6_canBe rfl rfl rfl (by decide +kernel) ⟨Nat.le_of_ble_eq_true rfl, Nat.le_of_ble_eq_true rfl⟩) (mPreV (va_recv hK hP (ci := 5) (q0 := 0) rfl rfl) hP hD hS hK hE hFc [0, 1, 2, 3, 4, 5, 6, 7, 8, 9, 10, 11, 12] (by decide) rfl) rfl rfl hl.1 rfl (lv_room (Nat.le_of_ble_eq_true rfl)) dX6_readSentence_60 ⟨Nat.le_of_ble_eq_true rfl, Nat.le_of_ble_eq_true rfl⟩) hS (fun q _ h => hFc q h) hFc (fun r_11 u t H1 locs ht hvm hw hB hz1 hk1 hS => ?_)
          have h := hw
          obtain ⟨hP1, hK1, hD1⟩ := hB
          rw [ht] at hP1
          obtain ⟨hP, hD⟩ := mJoin (wr := ([] : va_W)) (w1 := (sh_M cs adM mpM mkM mgM mcM mwM mfM mtM mhM mmM mdM mxM mnM szM faM apM waM wrM fuM)) (w' := (sh_M cs adM mpM mkM mgM mcM mwM mfM mtM mhM mmM mdM mxM mnM szM faM apM waM wrM fuM)) hP hD [0, 1, 2, 3, 4, 5, 6, 7, 8, 9, 10, 11, 12] [] rfl rfl (by decide) (by decide) hk1 hFc hP1 hD1 [0, 1, 2, 3, 4, 5, 6, 7, 8, 9, 10, 11, 12] (by decide) rfl
          generalize H1 = H at hP hS ⊢
          refine lv_if_ne (tgt := 68) hx hb dX6_readSentence_63 (by decide) (fun c_12 => ?_) (fun c_12 => ?_)
          · have h := h.2 c_12
            refine lv_aload_n hx hb dX6_readSentence_68 rfl (lv_at hl 0 rfl) ?_
            refine lv_aload_n hx hb dX6_readSentence_69 rfl (lv_at hl 0 rfl) ?_
            refine lv_iload_n hx hb dX6_readSentence_70 rfl (lv_at hl 1 rfl) ?_
            have hFc := va_free (wc := (sh_M cs adM mpM mkM mgM mcM mwM mfM mtM mhM mmM mdM mxM mnM szM faM apM waM wrM fuM)) hD hS hA [0, 1, 2, 3, 4, 5, 6, 7, 8, 9, 10, 11, 12] rfl
            refine va_calli (va_runV (As := [.int v1]) (rest := [.ref (adM 0)]) ⟨hx, hb, hml, hown, hts⟩ (met_X6_wordBegin l D cs ev _ adM mpM mkM mgM mcM mwM mfM mtM mhM mmM mdM mxM mnM szM faM apM waM wrM fuM v1 _ h) (cwV 1 hts gX6_readSentence_X6_wordBegin rfl rfl rfl (by decide +kernel) ⟨Nat.le_of_ble_eq_true rfl, Nat.le_of_ble_eq_true rfl⟩) (mPreV (va_recv hK hP (ci := 5) (q0 := 0) rfl rfl) hP hD hS hK hE hFc [0, 1, 2, 3, 4, 5, 6, 7, 8, 9, 10, 11, 12] (by decide) rfl) rfl rfl hl.1 rfl (lv_room (Nat.le_of_ble_eq_true rfl)) dX6_readSentence_71 ⟨Nat.le_of_ble_eq_true rfl, Nat.le_of_ble_eq_true rfl⟩) hS (fun q _ h => hFc q h) hFc (fun r_13 u t H1 locs ht hvm hw hB hz1 hk1 hS => ?_)
            have h := hw
            obtain ⟨hP1, hK1, hD1⟩ := hB
            rw [ht] at hP1
            obtain ⟨hP, hD⟩ := mJoin (wr := ([] : va_W)) (w1 := (sh_M cs adM mpM mkM mgM mcM mwM mfM mtM mhM mmM mdM mxM mnM szM faM apM waM wrM fuM)) (w' := (sh_M cs adM mpM mkM mgM mcM mwM mfM mtM mhM mmM mdM mxM mnM szM faM apM waM wrM fuM)) hP hD [0, 1, 2, 3, 4, 5, 6, 7, 8, 9, 10, 11, 12] [] rfl rfl (by decide) (by decide) hk1 hFc hP1 hD1 [0, 1, 2, 3, 4, 5, 6, 7, 8, 9, 10, 11, 12] (by decide) rfl
            generalize H1 = H at hP hS ⊢
            refine va_put (D := D) (ci := 5) (v := .int r_13) (ty := .int) (C := RX6) (T := TX6) (N := 18) hx hb hts (by decide +kernel) tyX6 tyX6_ok nmX6 hown hK hP hD hS 0 rfl rfl 14 (by decide) (hts (.fieldLink RX6 92 "PartGraphsModel" "at" "I") (by decide +kernel)) (fun _ h9 => h9) rfl (by decide +kernel) rfl rfl (Nat.le_of_ble_eq_true rfl) dX6_readSentence_74 (fun H locs hP hD hS => ?_)
            have hP : va_P D vwCl (sh_M cs adM mpM mkM mgM mcM mwM mfM mtM mhM mmM mdM mxM mnM szM faM r_13 waM wrM fuM) H := hP
            have hD : va_D A (sh_M cs adM mpM mkM mgM mcM mwM mfM mtM mhM mmM mdM mxM mnM szM faM r_13 waM wrM fuM) := hD
            refine lv_iconst (v := 0) hx hb dX6_readSentence_77 (by decide) ?_
            refine lv_istore (lv' := [(5, .int 0), (0, .ref (adM 0)), (1, .int v1), (2, .long v2), (4, .int v4)]) hx hb dX6_readSentence_78 hl (by decide) rfl (fun ls hl => ?_)
            rw [hA80] at h
            exact h _ _ hP hD hS ls (lv_sub hl [1, 4, 0] rfl)
          · have h := h.1 c_12
            refine lv_iconst (v := 0) hx hb dX6_readSentence_66 (by decide) ?_
            exact W.zret (v := 0) hx hb hr (by decide) (fun t ht hW => ⟨⟨0, (mpM, mkM, mgM, mcM, mwM, mfM, mtM, mhM, mmM, mdM, mnM, apM), rfl, h, by rw [ht]; exact hP, va_K.moved hW.alike hK, hD⟩, hS.F ht⟩) hS.2.2 dX6_readSentence_67
      · have h := h.2 c_9
        refine lv_iinc (v := v4 + 1) (lv' := [(4, .int (v4 + 1)), (0, .ref (adM 0)), (1, .int v1), (2, .long v2)]) hx hb dX6_readSentence_39 hl (k := 3) rfl rfl (by decide) rfl (fun ls hl => ?_)
        refine lv_goto (tgt := 22) hx hb dX6_readSentence_42 (by decide) ?_
        rw [hA22] at h
        exact h _ _ hP hD hS ls (lv_sub hl [1, 2, 3, 0] rfl)
  have s80 : ∀ (v4 : Int32) (v5 : Int32) (mpM : Nat → Int32) (mkM : Nat → Int32) (mgM : Nat → Int32) (mcM : Nat → Int32) (mwM : Nat → Int32) (mfM : Nat → Int32) (mtM : Nat → Int32) (mhM : Nat → Int32) (mmM : Nat → Int32) (mdM : Nat → Int32) (mnM : Nat → Int32) (apM : Int32), wp_X6_numbersOf v4 (fun r_14 _ => ((r_14 ≤ v5 → (vp_in 0 3 ∧ (vp_in 1 3 ∧ (vp_in 2 3 ∧ wp_X6_make mpM mkM mgM mcM mwM mfM mtM mhM mmM mdM 1 v4 (mnM (0 : Int32).toNatClampNeg) (mnM (1 : Int32).toNatClampNeg) (mnM (2 : Int32).toNatClampNeg) (fun u => match u with | (mp_17, mk_18, mg_19, mc_20, mw_21, mf_22, mt_23, mh_24, mm_25, md_26) => post 1 (mp_17, mk_18, mg_19, mc_20, mw_21, mf_22, mt_23, mh_24, mm_25, md_26, mnM, apM)))))) ∧ (¬ r_14 ≤ v5 → wp_X6_wordEnd mxM szM apM (fun r_27 _ => ((szM ≤ apM → (vp_in v5 3 ∧ (vp_in v5 3 ∧ ((((upd mnM v5.toNatClampNeg (-1)) v5.toNatClampNeg) < 0 → post 0 (mpM, mkM, mgM, mcM, mwM, mfM, mtM, mhM, mmM, mdM, upd mnM v5.toNatClampNeg (-1), apM)) ∧ (¬ ((upd mnM v5.toNatClampNeg (-1)) v5.toNatClampNeg) < 0 → (vp_in 0 3 ∧ (vp_in 1 3 ∧ (vp_in 2 3 ∧ wp_X6_canBe mpM mcM mwM mfM mhM mmM 1 v4 (v5 + 1) ((upd mnM v5.toNatClampNeg (-1)) (0 : Int32).toNatClampNeg) ((upd mnM v5.toNatClampNeg (-1)) (1 : Int32).toNatClampNeg) ((upd mnM v5.toNatClampNeg (-1)) (2 : Int32).toNatClampNeg) (fun r_30 _ => ((r_30 = 0 → post 0 (mpM, mkM, mgM, mcM, mwM, mfM, mtM, mhM, mmM, mdM, upd mnM v5.toNatClampNeg (-1), apM)) ∧ (¬ r_30 = 0 → wp_X6_wordBegin mxM szM r_27 (fun r_32 _ => A80 v4 (v5 + 1) mpM mkM mgM mcM mwM mfM mtM mhM mmM mdM (upd mnM v5.toNatClampNeg (-1)) r_32)))))))))))) ∧ (¬ szM ≤ apM → wp_X6_numberOf mxM apM r_27 (fun r_33 _ => (vp_in v5 3 ∧ (vp_in v5 3 ∧ ((((upd mnM v5.toNatClampNeg r_33) v5.toNatClampNeg) < 0 → post 0 (mpM, mkM, mgM, mcM, mwM, mfM, mtM, mhM, mmM, mdM, upd mnM v5.toNatClampNeg r_33, apM)) ∧ (¬ ((upd mnM v5.toNatClampNeg r_33) v5.toNatClampNeg) < 0 → (vp_in 0 3 ∧ (vp_in 1 3 ∧ (vp_in 2 3 ∧ wp_X6_canBe mpM mcM mwM mfM mhM mmM 1 v4 (v5 + 1) ((upd mnM v5.toNatClampNeg r_33) (0 : Int32).toNatClampNeg) ((upd mnM v5.toNatClampNeg r_33) (1 : Int32).toNatClampNeg) ((upd mnM v5.toNatClampNeg r_33) (2 : Int32).toNatClampNeg) (fun r_35 _ => ((r_35 = 0 → post 0 (mpM, mkM, mgM, mcM, mwM, mfM, mtM, mhM, mmM, mdM, upd mnM v5.toNatClampNeg r_33, apM)) ∧ (¬ r_35 = 0 → wp_X6_wordBegin mxM szM r_27 (fun r_37 _ => A80 v4 (v5 + 1) mpM mkM mgM mcM mwM mfM mtM mhM mmM mdM (upd mnM v5.toNatClampNeg r_33) r_37)))))))))))))))))) → A80 v4 v5 mpM mkM mgM mcM mwM mfM mtM mhM mmM mdM mnM apM := by
    intro v4 v5 mpM mkM mgM mcM mwM mfM mtM mhM mmM mdM mnM apM h
    rw [hA80]
    intro H locs hP hD hS ls hl
    refine lv_iload hx hb dX6_readSentence_80 (lv_at hl 2 rfl) ?_
    refine lv_iload hx hb dX6_readSentence_82 (lv_at hl 1 rfl) ?_
    have hFc := va_free (wc := ([] : va_W)) hD hS hA [] rfl
    refine va_calli (va_runS (As := [.int v4]) (rest := [.int v5]) ⟨hx, hb, hml, hown, hts⟩ (met_X6_numbersOf l D cs ev _ v4 _ h) (va_cwS 1 hts gX6_readSentence_X6_numbersOf rfl rfl rfl (by decide +kernel) ⟨Nat.le_of_ble_eq_true rfl, Nat.le_of_ble_eq_true rfl⟩) (mPreS hP hD hS hK hE hFc [] (by decide) rfl) rfl rfl hl.1 rfl (lv_room (Nat.le_of_ble_eq_true rfl)) dX6_readSentence_84 ⟨Nat.le_of_ble_eq_true rfl, Nat.le_of_ble_eq_true rfl⟩) hS (fun q _ h => hFc q h) hFc (fun r_14 u t H1 locs ht hvm hw hB hz1 hk1 hS => ?_)
    have h := hw
    obtain ⟨hP1, hK1, hD1⟩ := hB
    rw [ht] at hP1
    obtain ⟨hP, hD⟩ := mJoin (wr := (sh_M cs adM mpM mkM mgM mcM mwM mfM mtM mhM mmM mdM mxM mnM szM faM apM waM wrM fuM)) (w1 := ([] : va_W)) (w' := (sh_M cs adM mpM mkM mgM mcM mwM mfM mtM mhM mmM mdM mxM mnM szM faM apM waM wrM fuM)) hP hD [] [0, 1, 2, 3, 4, 5, 6, 7, 8, 9, 10, 11, 12] rfl rfl (by decide) (by decide) hk1 hFc hP1 hD1 [0, 1, 2, 3, 4, 5, 6, 7, 8, 9, 10, 11, 12] (by decide) rfl
    generalize H1 = H at hP hS ⊢
    refine lv_icmp_ge (tgt := 189) hx hb dX6_readSentence_87 (by decide) (fun c_15 => ?_) (fun c_15 => ?_)
    · have h := h.1 c_15
      refine lv_aload_n hx hb dX6_readSentence_189 rfl (lv_at hl 0 rfl) ?_
      refine lv_iconst (v := 1) hx hb dX6_readSentence_190 (by decide) ?_
      refine lv_iload hx hb dX6_readSentence_191 (lv_at hl 1 rfl) ?_
      refine lv_aload_n hx hb dX6_readSentence_193 rfl (lv_at hl 0 rfl) ?_
      refine va_get (D := D) (ci := 5) (v := .ref (adM 12)) (C := RX6) (T := TX6) (N := 18) hx hb hts (by decide +kernel) hown hK hP 0 rfl rfl 13 (by decide) (hts (.fieldLink RX6 45 "PartGraphsModel" "numbers" "[I") (by decide +kernel)) (fun _ h9 => h9) rfl dX6_readSentence_194 ?_
      refine lv_iconst (v := 0) hx hb dX6_readSentence_197 (by decide) ?_
      have hin := h.1
      have h := h.2
      refine va_iald (D := D) (cl := vwCl) hx hb hK hP 12 0 rfl rfl hin dX6_readSentence_198 ?_
      refine lv_aload_n hx hb dX6_readSentence_199 rfl (lv_at hl 0 rfl) ?_
      refine va_get (D := D) (ci := 5) (v := .ref (adM 12)) (C := RX6) (T := TX6) (N := 18) hx hb hts (by decide +kernel) hown hK hP 0 rfl rfl 13 (by decide) (hts (.fieldLink RX6 45 "PartGraphsModel" "numbers" "[I") (by decide +kernel)) (fun _ h9 => h9) rfl dX6_readSentence_200 ?_
      refine lv_iconst (v := 1) hx hb dX6_readSentence_203 (by decide) ?_
      have hin := h.1
      have h := h.2
      refine va_iald (D := D) (cl := vwCl) hx hb hK hP 12 0 rfl rfl hin dX6_readSentence_204 ?_
      refine lv_aload_n hx hb dX6_readSentence_205 rfl (lv_at hl 0 rfl) ?_
      refine va_get (D := D) (ci := 5) (v := .ref (adM 12)) (C := RX6) (T := TX6) (N := 18) hx hb hts (by decide +kernel) hown hK hP 0 rfl rfl 13 (by decide) (hts (.fieldLink RX6 45 "PartGraphsModel" "numbers" "[I") (by decide +kernel)) (fun _ h9 => h9) rfl dX6_readSentence_206 ?_
      refine lv_iconst (v := 2) hx hb dX6_readSentence_209 (by decide) ?_
      have hin := h.1
      have h := h.2
      refine va_iald (D := D) (cl := vwCl) hx hb hK hP 12 0 rfl rfl hin dX6_readSentence_210 ?_
      have hFc := va_free (wc := (sh_M cs adM mpM mkM mgM mcM mwM mfM mtM mhM mmM mdM mxM mnM szM faM apM waM wrM fuM)) hD hS hA [0, 1, 2, 3, 4, 5, 6, 7, 8, 9, 10, 11, 12] rfl
      refine va_callv (va_runV (As := [.int 1, .int v4, .int (mnM (0 : Int32).toNatClampNeg), .int (mnM (1 : Int32).toNatClampNeg), .int (mnM (2 : Int32).toNatClampNeg)]) (rest := []) ⟨hx, hb, hml, hown, hts⟩ (met_X6_make l D cs ev _ adM mpM mkM mgM mcM mwM mfM mtM mhM mmM mdM mxM mnM szM faM apM waM wrM fuM 1 v4 (mnM (0 : Int32).toNatClampNeg) (mnM (1 : Int32).toNatClampNeg) (mnM (2 : Int32).toNatClampNeg) _ h) (cwV 5 hts gX6_readSentence_X6_make rfl rfl rfl (by decide +kernel) ⟨Nat.le_of_ble_eq_true rfl, Nat.le_of_ble_eq_true rfl⟩) (mPreV (va_recv hK hP (ci := 5) (q0 := 0) rfl rfl) hP hD hS hK hE hFc [0, 1, 2, 3, 4, 5, 6, 7, 8, 9, 10, 11, 12] (by decide) rfl) rfl rfl hl.1 rfl (lv_room (Nat.le_of_ble_eq_true rfl)) dX6_readSentence_211 ⟨Nat.le_of_ble_eq_true rfl, Nat.le_of_ble_eq_true rfl⟩) hS (fun q _ h => hFc q h) hFc (fun u t H1 locs ht hvm hw hB hz1 hk1 hS => ?_)
      obtain ⟨mp_17, mk_18, mg_19, mc_20, mw_21, mf_22, mt_23, mh_24, mm_25, md_26⟩ := u
      have h := hw
      obtain ⟨hP1, hK1, hD1⟩ := hB
      rw [ht] at hP1
      obtain ⟨hP, hD⟩ := mJoin (wr := ([] : va_W)) (w1 := (sh_M cs adM mp_17 mk_18 mg_19 mc_20 mw_21 mf_22 mt_23 mh_24 mm_25 md_26 mxM mnM szM faM apM waM wrM fuM)) (w' := (sh_M cs adM mp_17 mk_18 mg_19 mc_20 mw_21 mf_22 mt_23 mh_24 mm_25 md_26 mxM mnM szM faM apM waM wrM fuM)) hP hD [0, 1, 2, 3, 4, 5, 6, 7, 8, 9, 10, 11, 12] [] rfl rfl (by decide) (by decide) hk1 hFc hP1 hD1 [0, 1, 2, 3, 4, 5, 6, 7, 8, 9, 10, 11, 12] (by decide) rfl
      generalize H1 = H at hP hS ⊢
      refine lv_iconst (v := 1) hx hb dX6_readSentence_214 (by decide) ?_
      exact W.zret (v := 1) hx hb hr (by decide) (fun t ht hW => ⟨⟨1, (mp_17, mk_18, mg_19, mc_20, mw_21, mf_22, mt_23, mh_24, mm_25, md_26, mnM, apM), rfl, h, by rw [ht]; exact hP, va_K.moved hW.alike hK, hD⟩, hS.F ht⟩) hS.2.2 dX6_readSentence_215
    · have h := h.2 c_15
      refine lv_aload_n hx hb dX6_readSentence_90 rfl (lv_at hl 0 rfl) ?_
      refine lv_aload_n hx hb dX6_readSentence_91 rfl (lv_at hl 0 rfl) ?_
      refine va_get (D := D) (ci := 5) (v := .int apM) (C := RX6) (T := TX6) (N := 18) hx hb hts (by decide +kernel) hown hK hP 0 rfl rfl 14 (by decide) (hts (.fieldLink RX6 92 "PartGraphsModel" "at" "I") (by decide +kernel)) (fun _ h9 => h9) rfl dX6_readSentence_92 ?_
      have hFc := va_free (wc := (sh_M cs adM mpM mkM mgM mcM mwM mfM mtM mhM mmM mdM mxM mnM szM faM apM waM wrM fuM)) hD hS hA [0, 1, 2, 3, 4, 5, 6, 7, 8, 9, 10, 11, 12] rfl
      refine va_calli (va_runV (As := [.int apM]) (rest := []) ⟨hx, hb, hml, hown, hts⟩ (met_X6_wordEnd l D cs ev _ adM mpM mkM mgM mcM mwM mfM mtM mhM mmM mdM mxM mnM szM faM apM waM wrM fuM apM _ h) (cwV 1 hts gX6_readSentence_X6_wordEnd rfl rfl rfl (by decide +kernel) ⟨Nat.le_of_ble_eq_true rfl, Nat.le_of_ble_eq_true rfl⟩) (mPreV (va_recv hK hP (ci := 5) (q0 := 0) rfl rfl) hP hD hS hK hE hFc [0, 1, 2, 3, 4, 5, 6, 7, 8, 9, 10, 11, 12] (by decide) rfl) rfl rfl hl.1 rfl (lv_room (Nat.le_of_ble_eq_true rfl)) dX6_readSentence_95 ⟨Nat.le_of_ble_eq_true rfl, Nat.le_of_ble_eq_true rfl⟩) hS (fun q _ h => hFc q h) hFc (fun r_27 u t H1 locs ht hvm hw hB hz1 hk1 hS => ?_)
      have h := hw
      obtain ⟨hP1, hK1, hD1⟩ := hB
      rw [ht] at hP1
      obtain ⟨hP, hD⟩ := mJoin (wr := ([] : va_W)) (w1 := (sh_M cs adM mpM mkM mgM mcM mwM mfM mtM mhM mmM mdM mxM mnM szM faM apM waM wrM fuM)) (w' := (sh_M cs adM mpM mkM mgM mcM mwM mfM mtM mhM mmM mdM mxM mnM szM faM apM waM wrM fuM)) hP hD [0, 1, 2, 3, 4, 5, 6, 7, 8, 9, 10, 11, 12] [] rfl rfl (by decide) (by decide) hk1 hFc hP1 hD1 [0, 1, 2, 3, 4, 5, 6, 7, 8, 9, 10, 11, 12] (by decide) rfl
      generalize H1 = H at hP hS ⊢
      refine lv_istore_n (lv' := [(1, .int r_27), (0, .ref (adM 0)), (4, .int v4), (5, .int v5)]) hx hb dX6_readSentence_98 rfl hl (by decide) rfl (fun ls hl => ?_)
      refine lv_aload_n hx hb dX6_readSentence_99 rfl (lv_at hl 1 rfl) ?_
      refine va_get (D := D) (ci := 5) (v := .ref (adM 12)) (C := RX6) (T := TX6) (N := 18) hx hb hts (by decide +kernel) hown hK hP 0 rfl rfl 13 (by decide) (hts (.fieldLink RX6 45 "PartGraphsModel" "numbers" "[I") (by decide +kernel)) (fun _ h9 => h9) rfl dX6_readSentence_100 ?_
      refine lv_iload hx hb dX6_readSentence_103 (lv_at hl 3 rfl) ?_
      refine lv_aload_n hx hb dX6_readSentence_105 rfl (lv_at hl 1 rfl) ?_
      refine va_get (D := D) (ci := 5) (v := .int apM) (C := RX6) (T := TX6) (N := 18) hx hb hts (by decide +kernel) hown hK hP 0 rfl rfl 14 (by decide) (hts (.fieldLink RX6 92 "PartGraphsModel" "at" "I") (by decide +kernel)) (fun _ h9 => h9) rfl dX6_readSentence_106 ?_
      refine lv_aload_n hx hb dX6_readSentence_109 rfl (lv_at hl 1 rfl) ?_
      refine va_get (D := D) (ci := 5) (v := .int szM) (C := RX6) (T := TX6) (N := 18) hx hb hts (by decide +kernel) hown hK hP 0 rfl rfl 11 (by decide) (hts (.fieldLink RX6 69 "PartGraphsModel" "size" "I") (by decide +kernel)) (fun _ h9 => h9) rfl dX6_readSentence_110 ?_
      refine lv_icmp_ge (tgt := 128) hx hb dX6_readSentence_113 (by decide) (fun c_28 => ?_) (fun c_28 => ?_)
      · have h := h.1 c_28
        refine lv_iconst (v := (-1)) hx hb dX6_readSentence_128 (by decide) ?_
        have hin := h.1
        have h := h.2
        refine va_iast (D := D) (cl := vwCl) hx hb hK hP hD hS 12 0 rfl rfl hin dX6_readSentence_129 (fun H locs hP hD hS => ?_)
        have hP : va_P D vwCl (sh_M cs adM mpM mkM mgM mcM mwM mfM mtM mhM mmM mdM mxM (upd mnM v5.toNatClampNeg (-1)) szM faM apM waM wrM fuM) H := hP
        have hD : va_D A (sh_M cs adM mpM mkM mgM mcM mwM mfM mtM mhM mmM mdM mxM (upd mnM v5.toNatClampNeg (-1)) szM faM apM waM wrM fuM) := hD
        refine lv_aload_n hx hb dX6_readSentence_130 rfl (lv_at hl 1 rfl) ?_
        refine va_get (D := D) (ci := 5) (v := .ref (adM 12)) (C := RX6) (T := TX6) (N := 18) hx hb hts (by decide +kernel) hown hK hP 0 rfl rfl 13 (by decide) (hts (.fieldLink RX6 45 "PartGraphsModel" "numbers" "[I") (by decide +kernel)) (fun _ h9 => h9) rfl dX6_readSentence_131 ?_
        refine lv_iload hx hb dX6_readSentence_134 (lv_at hl 3 rfl) ?_
        have hin := h.1
        have h := h.2
        refine va_iald (D := D) (cl := vwCl) hx hb hK hP 12 0 rfl rfl hin dX6_readSentence_136 ?_
        refine lv_if_lt (tgt := 172) hx hb dX6_readSentence_137 (by decide) (fun c_29 => ?_) (fun c_29 => ?_)
        · have h := h.1 c_29
          refine lv_iconst (v := 0) hx hb dX6_readSentence_172 (by decide) ?_
          exact W.zret (v := 0) hx hb hr (by decide) (fun t ht hW => ⟨⟨0, (mpM, mkM, mgM, mcM, mwM, mfM, mtM, mhM, mmM, mdM, upd mnM v5.toNatClampNeg (-1), apM), rfl, h, by rw [ht]; exact hP, va_K.moved hW.alike hK, hD⟩, hS.F ht⟩) hS.2.2 dX6_readSentence_173
        · have h := h.2 c_29
          refine lv_aload_n hx hb dX6_readSentence_140 rfl (lv_at hl 1 rfl) ?_
          refine lv_iconst (v := 1) hx hb dX6_readSentence_141 (by decide) ?_
          refine lv_iload hx hb dX6_readSentence_142 (lv_at hl 2 rfl) ?_
          refine lv_iload hx hb dX6_readSentence_144 (lv_at hl 3 rfl) ?_
          refine lv_iconst (v := 1) hx hb dX6_readSentence_146 (by decide) ?_
          refine lv_iadd hx hb dX6_readSentence_147 ?_
          refine lv_aload_n hx hb dX6_readSentence_148 rfl (lv_at hl 1 rfl) ?_
          refine va_get (D := D) (ci := 5) (v := .ref (adM 12)) (C := RX6) (T := TX6) (N := 18) hx hb hts (by decide +kernel) hown hK hP 0 rfl rfl 13 (by decide) (hts (.fieldLink RX6 45 "PartGraphsModel" "numbers" "[I") (by decide +kernel)) (fun _ h9 => h9) rfl dX6_readSentence_149 ?_
          refine lv_iconst (v := 0) hx hb dX6_readSentence_152 (by decide) ?_
          have hin := h.1
          have h := h.2
          refine va_iald (D := D) (cl := vwCl) hx hb hK hP 12 0 rfl rfl hin dX6_readSentence_153 ?_
          refine lv_aload_n hx hb dX6_readSentence_154 rfl (lv_at hl 1 rfl) ?_
          refine va_get (D := D) (ci := 5) (v := .ref (adM 12)) (C := RX6) (T := TX6) (N := 18) hx hb hts (by decide +kernel) hown hK hP 0 rfl rfl 13 (by decide) (hts (.fieldLink RX6 45 "PartGraphsModel" "numbers" "[I") (by decide +kernel)) (fun _ h9 => h9) rfl dX6_readSentence_155 ?_
          refine lv_iconst (v := 1) hx hb dX6_readSentence_158 (by decide) ?_
          have hin := h.1
          have h := h.2
          refine va_iald (D := D) (cl := vwCl) hx hb hK hP 12 0 rfl rfl hin dX6_readSentence_159 ?_
          refine lv_aload_n hx hb dX6_readSentence_160 rfl (lv_at hl 1 rfl) ?_
          refine va_get (D := D) (ci := 5) (v := .ref (adM 12)) (C := RX6) (T := TX6) (N := 18) hx hb hts (by decide +kernel) hown hK hP 0 rfl rfl 13 (by decide) (hts (.fieldLink RX6 45 "PartGraphsModel" "numbers" "[I") (by decide +kernel)) (fun _ h9 => h9) rfl dX6_readSentence_161 ?_
          refine lv_iconst (v := 2) hx hb dX6_readSentence_164 (by decide) ?_
          have hin := h.1
          have h := h.2
          refine va_iald (D := D) (cl := vwCl) hx hb hK hP 12 0 rfl rfl hin dX6_readSentence_165 ?_
          have hFc := va_free (wc := (sh_M cs adM mpM mkM mgM mcM mwM mfM mtM mhM mmM mdM mxM (upd mnM v5.toNatClampNeg (-1)) szM faM apM waM wrM fuM)) hD hS hA [0, 1, 2, 3, 4, 5, 6, 7, 8, 9, 10, 11, 12] rfl
          refine va_calli (va_runV (As := [.int 1, .int v4, .int (v5 + 1), .int ((upd mnM v5.toNatClampNeg (-1)) (0 : Int32).toNatClampNeg), .int ((upd mnM v5.toNatClampNeg (-1)) (1 : Int32).toNatClampNeg), .int ((upd mnM v5.toNatClampNeg (-1)) (2 : Int32).toNatClampNeg)]) (rest := []) ⟨hx, hb, hml, hown, hts⟩ (met_X6_canBe l D cs ev _ adM mpM mkM mgM mcM mwM mfM mtM mhM mmM mdM mxM (upd mnM v5.toNatClampNeg (-1)) szM faM apM waM wrM fuM 1 v4 (v5 + 1) ((upd mnM v5.toNatClampNeg (-1)) (0 : Int32).toNatClampNeg) ((upd mnM v5.toNatClampNeg (-1)) (1 : Int32).toNatClampNeg) ((upd mnM v5.toNatClampNeg (-1)) (2 : Int32).toNatClampNeg) _ h) (cwV 6 hts gX6_readSentence_X6_canBe rfl rfl rfl (by decide +kernel) ⟨Nat.le_of_ble_eq_true rfl, Nat.le_of_ble_eq_true rfl⟩) (mPreV (va_recv hK hP (ci := 5) (q0 := 0) rfl rfl) hP hD hS hK hE hFc [0, 1, 2, 3, 4, 5, 6, 7, 8, 9, 10, 11, 12] (by decide) rfl) rfl rfl hl.1 rfl (lv_room (Nat.le_of_ble_eq_true rfl)) dX6_readSentence_166 ⟨Nat.le_of_ble_eq_true rfl, Nat.le_of_ble_eq_true rfl⟩) hS (fun q _ h => hFc q h) hFc (fun r_30 u t H1 locs ht hvm hw hB hz1 hk1 hS => ?_)
          have h := hw
          obtain ⟨hP1, hK1, hD1⟩ := hB
          rw [ht] at hP1
          obtain ⟨hP, hD⟩ := mJoin (wr := ([] : va_W)) (w1 := (sh_M cs adM mpM mkM mgM mcM mwM mfM mtM mhM mmM mdM mxM (upd mnM v5.toNatClampNeg (-1)) szM faM apM waM wrM fuM)) (w' := (sh_M cs adM mpM mkM mgM mcM mwM mfM mtM mhM mmM mdM mxM (upd mnM v5.toNatClampNeg (-1)) szM faM apM waM wrM fuM)) hP hD [0, 1, 2, 3, 4, 5, 6, 7, 8, 9, 10, 11, 12] [] rfl rfl (by decide) (by decide) hk1 hFc hP1 hD1 [0, 1, 2, 3, 4, 5, 6, 7, 8, 9, 10, 11, 12] (by decide) rfl
          generalize H1 = H at hP hS ⊢
          refine lv_if_ne (tgt := 174) hx hb dX6_readSentence_169 (by decide) (fun c_31 => ?_) (fun c_31 => ?_)
          · have h := h.2 c_31
            refine lv_aload_n hx hb dX6_readSentence_174 rfl (lv_at hl 1 rfl) ?_
            refine lv_aload_n hx hb dX6_readSentence_175 rfl (lv_at hl 1 rfl) ?_
            refine lv_iload_n hx hb dX6_readSentence_176 rfl (lv_at hl 0 rfl) ?_
            have hFc := va_free (wc := (sh_M cs adM mpM mkM mgM mcM mwM mfM mtM mhM mmM mdM mxM (upd mnM v5.toNatClampNeg (-1)) szM faM apM waM wrM fuM)) hD hS hA [0, 1, 2, 3, 4, 5, 6, 7, 8, 9, 10, 11, 12] rfl
            refine va_calli (va_runV (As := [.int r_27]) (rest := [.ref (adM 0)]) ⟨hx, hb, hml, hown, hts⟩ (met_X6_wordBegin l D cs ev _ adM mpM mkM mgM mcM mwM mfM mtM mhM mmM mdM mxM (upd mnM v5.toNatClampNeg (-1)) szM faM apM waM wrM fuM r_27 _ h) (cwV 1 hts gX6_readSentence_X6_wordBegin rfl rfl rfl (by decide +kernel) ⟨Nat.le_of_ble_eq_true rfl, Nat.le_of_ble_eq_true rfl⟩) (mPreV (va_recv hK hP (ci := 5) (q0 := 0) rfl rfl) hP hD hS hK hE hFc [0, 1, 2, 3, 4, 5, 6, 7, 8, 9, 10, 11, 12] (by decide) rfl) rfl rfl hl.1 rfl (lv_room (Nat.le_of_ble_eq_true rfl)) dX6_readSentence_177 ⟨Nat.le_of_ble_eq_true rfl, Nat.le_of_ble_eq_true rfl⟩) hS (fun q _ h => hFc q h) hFc (fun r_32 u t H1 locs ht hvm hw hB hz1 hk1 hS => ?_)
            have h := hw
            obtain ⟨hP1, hK1, hD1⟩ := hB
            rw [ht] at hP1
            obtain ⟨hP, hD⟩ := mJoin (wr := ([] : va_W)) (w1 := (sh_M cs adM mpM mkM mgM mcM mwM mfM mtM mhM mmM mdM mxM (upd mnM v5.toNatClampNeg (-1)) szM faM apM waM wrM fuM)) (w' := (sh_M cs adM mpM mkM mgM mcM mwM mfM mtM mhM mmM mdM mxM (upd mnM v5.toNatClampNeg (-1)) szM faM apM waM wrM fuM)) hP hD [0, 1, 2, 3, 4, 5, 6, 7, 8, 9, 10, 11, 12] [] rfl rfl (by decide) (by decide) hk1 hFc hP1 hD1 [0, 1, 2, 3, 4, 5, 6, 7, 8, 9, 10, 11, 12] (by decide) rfl
            generalize H1 = H at hP hS ⊢
            refine va_put (D := D) (ci := 5) (v := .int r_32) (ty := .int) (C := RX6) (T := TX6) (N := 18) hx hb hts (by decide +kernel) tyX6 tyX6_ok nmX6 hown hK hP hD hS 0 rfl rfl 14 (by decide) (hts (.fieldLink RX6 92 "PartGraphsModel" "at" "I") (by decide +kernel)) (fun _ h9 => h9) rfl (by decide +kernel) rfl rfl (Nat.le_of_ble_eq_true rfl) dX6_readSentence_180 (fun H locs hP hD hS => ?_)
            have hP : va_P D vwCl (sh_M cs adM mpM mkM mgM mcM mwM mfM mtM mhM mmM mdM mxM (upd mnM v5.toNatClampNeg (-1)) szM faM r_32 waM wrM fuM) H := hP
            have hD : va_D A (sh_M cs adM mpM mkM mgM mcM mwM mfM mtM mhM mmM mdM mxM (upd mnM v5.toNatClampNeg (-1)) szM faM r_32 waM wrM fuM) := hD
            refine lv_iinc (v := v5 + 1) (lv' := [(5, .int (v5 + 1)), (1, .int r_27), (0, .ref (adM 0)), (4, .int v4)]) hx hb dX6_readSentence_183 hl (k := 3) rfl rfl (by decide) rfl (fun ls hl => ?_)
            refine lv_goto (tgt := 80) hx hb dX6_readSentence_186 (by decide) ?_
            rw [hA80] at h
            exact h _ _ hP hD hS ls (lv_sub hl [2, 3, 0] rfl)
          · have h := h.1 c_31
            refine lv_iconst (v := 0) hx hb dX6_readSentence_172 (by decide) ?_
            exact W.zret (v := 0) hx hb hr (by decide) (fun t ht hW => ⟨⟨0, (mpM, mkM, mgM, mcM, mwM, mfM, mtM, mhM, mmM, mdM, upd mnM v5.toNatClampNeg (-1), apM), rfl, h, by rw [ht]; exact hP, va_K.moved hW.alike hK, hD⟩, hS.F ht⟩) hS.2.2 dX6_readSentence_173
      · have h := h.2 c_28
        refine lv_aload_n hx hb dX6_readSentence_116 rfl (lv_at hl 1 rfl) ?_
        refine lv_aload_n hx hb dX6_readSentence_117 rfl (lv_at hl 1 rfl) ?_
        refine va_get (D := D) (ci := 5) (v := .int apM) (C := RX6) (T := TX6) (N := 18) hx hb hts (by decide +kernel) hown hK hP 0 rfl rfl 14 (by decide) (hts (.fieldLink RX6 92 "PartGraphsModel" "at" "I") (by decide +kernel)) (fun _ h9 => h9) rfl dX6_readSentence_118 ?_
        refine lv_iload_n hx hb dX6_readSentence_121 rfl (lv_at hl 0 rfl) ?_
        have hFc := va_free (wc := (sh_M cs adM mpM mkM mgM mcM mwM mfM mtM mhM mmM mdM mxM mnM szM faM apM waM wrM fuM)) hD hS hA [0, 1, 2, 3, 4, 5, 6, 7, 8, 9, 10, 11, 12] rfl
        refine va_calli (va_runV (As := [.int apM, .int r_27]) (rest := [.int v5, .ref (adM 12)]) ⟨hx, hb, hml, hown, hts⟩ (met_X6_numberOf l D cs ev _ adM mpM mkM mgM mcM mwM mfM mtM mhM mmM mdM mxM mnM szM faM apM waM wrM fuM apM r_27 _ h) (cwV 2 hts gX6_readSentence_X6_numberOf rfl rfl rfl (by decide +kernel) ⟨Nat.le_of_ble_eq_true rfl, Nat.le_of_ble_eq_true rfl⟩) (mPreV (va_recv hK hP (ci := 5) (q0 := 0) rfl rfl) hP hD hS hK hE hFc [0, 1, 2, 3, 4, 5, 6, 7, 8, 9, 10, 11, 12] (by decide) rfl) rfl rfl hl.1 rfl (lv_room (Nat.le_of_ble_eq_true rfl)) dX6_readSentence_122 ⟨Nat.le_of_ble_eq_true rfl, Nat.le_of_ble_eq_true rfl⟩) hS (fun q _ h => hFc q h) hFc (fun r_33 u t H1 locs ht hvm hw hB hz1 hk1 hS => ?_)
        have h := hw
        obtain ⟨hP1, hK1, hD1⟩ := hB
        rw [ht] at hP1
        obtain ⟨hP, hD⟩ := mJoin (wr := ([] : va_W)) (w1 := (sh_M cs adM mpM mkM mgM mcM mwM mfM mtM mhM mmM mdM mxM mnM szM faM apM waM wrM fuM)) (w' := (sh_M cs adM mpM mkM mgM mcM mwM mfM mtM mhM mmM mdM mxM mnM szM faM apM waM wrM fuM)) hP hD [0, 1, 2, 3, 4, 5, 6, 7, 8, 9, 10, 11, 12] [] rfl rfl (by decide) (by decide) hk1 hFc hP1 hD1 [0, 1, 2, 3, 4, 5, 6, 7, 8, 9, 10, 11, 12] (by decide) rfl
        generalize H1 = H at hP hS ⊢
        refine lv_goto (tgt := 129) hx hb dX6_readSentence_125 (by decide) ?_
        have hin := h.1
        have h := h.2
        refine va_iast (D := D) (cl := vwCl) hx hb hK hP hD hS 12 0 rfl rfl hin dX6_readSentence_129 (fun H locs hP hD hS => ?_)
        have hP : va_P D vwCl (sh_M cs adM mpM mkM mgM mcM mwM mfM mtM mhM mmM mdM mxM (upd mnM v5.toNatClampNeg r_33) szM faM apM waM wrM fuM) H := hP
        have hD : va_D A (sh_M cs adM mpM mkM mgM mcM mwM mfM mtM mhM mmM mdM mxM (upd mnM v5.toNatClampNeg r_33) szM faM apM waM wrM fuM) := hD
        refine lv_aload_n hx hb dX6_readSentence_130 rfl (lv_at hl 1 rfl) ?_
        refine va_get (D := D) (ci := 5) (v := .ref (adM 12)) (C := RX6) (T := TX6) (N := 18) hx hb hts (by decide +kernel) hown hK hP 0 rfl rfl 13 (by decide) (hts (.fieldLink RX6 45 "PartGraphsModel" "numbers" "[I") (by decide +kernel)) (fun _ h9 => h9) rfl dX6_readSentence_131 ?_
        refine lv_iload hx hb dX6_readSentence_134 (lv_at hl 3 rfl) ?_
        have hin := h.1
        have h := h.2
        refine va_iald (D := D) (cl := vwCl) hx hb hK hP 12 0 rfl rfl hin dX6_readSentence_136 ?_
        refine lv_if_lt (tgt := 172) hx hb dX6_readSentence_137 (by decide) (fun c_34 => ?_) (fun c_34 => ?_)
        · have h := h.1 c_34
          refine lv_iconst (v := 0) hx hb dX6_readSentence_172 (by decide) ?_
          exact W.zret (v := 0) hx hb hr (by decide) (fun t ht hW => ⟨⟨0, (mpM, mkM, mgM, mcM, mwM, mfM, mtM, mhM, mmM, mdM, upd mnM v5.toNatClampNeg r_33, apM), rfl, h, by rw [ht]; exact hP, va_K.moved hW.alike hK, hD⟩, hS.F ht⟩) hS.2.2 dX6_readSentence_173
        · have h := h.2 c_34
          refine lv_aload_n hx hb dX6_readSentence_140 rfl (lv_at hl 1 rfl) ?_
          refine lv_iconst (v := 1) hx hb dX6_readSentence_141 (by decide) ?_
          refine lv_iload hx hb dX6_readSentence_142 (lv_at hl 2 rfl) ?_
          refine lv_iload hx hb dX6_readSentence_144 (lv_at hl 3 rfl) ?_
          refine lv_iconst (v := 1) hx hb dX6_readSentence_146 (by decide) ?_
          refine lv_iadd hx hb dX6_readSentence_147 ?_
          refine lv_aload_n hx hb dX6_readSentence_148 rfl (lv_at hl 1 rfl) ?_
          refine va_get (D := D) (ci := 5) (v := .ref (adM 12)) (C := RX6) (T := TX6) (N := 18) hx hb hts (by decide +kernel) hown hK hP 0 rfl rfl 13 (by decide) (hts (.fieldLink RX6 45 "PartGraphsModel" "numbers" "[I") (by decide +kernel)) (fun _ h9 => h9) rfl dX6_readSentence_149 ?_
          refine lv_iconst (v := 0) hx hb dX6_readSentence_152 (by decide) ?_
          have hin := h.1
          have h := h.2
          refine va_iald (D := D) (cl := vwCl) hx hb hK hP 12 0 rfl rfl hin dX6_readSentence_153 ?_
          refine lv_aload_n hx hb dX6_readSentence_154 rfl (lv_at hl 1 rfl) ?_
          refine va_get (D := D) (ci := 5) (v := .ref (adM 12)) (C := RX6) (T := TX6) (N := 18) hx hb hts (by decide +kernel) hown hK hP 0 rfl rfl 13 (by decide) (hts (.fieldLink RX6 45 "PartGraphsModel" "numbers" "[I") (by decide +kernel)) (fun _ h9 => h9) rfl dX6_readSentence_155 ?_
          refine lv_iconst (v := 1) hx hb dX6_readSentence_158 (by decide) ?_
          have hin := h.1
          have h := h.2
          refine va_iald (D := D) (cl := vwCl) hx hb hK hP 12 0 rfl rfl hin dX6_readSentence_159 ?_
          refine lv_aload_n hx hb dX6_readSentence_160 rfl (lv_at hl 1 rfl) ?_
          refine va_get (D := D) (ci := 5) (v := .ref (adM 12)) (C := RX6) (T := TX6) (N := 18) hx hb hts (by decide +kernel) hown hK hP 0 rfl rfl 13 (by decide) (hts (.fieldLink RX6 45 "PartGraphsModel" "numbers" "[I") (by decide +kernel)) (fun _ h9 => h9) rfl dX6_readSentence_161 ?_
          refine lv_iconst (v := 2) hx hb dX6_readSentence_164 (by decide) ?_
          have hin := h.1
          have h := h.2
          refine va_iald (D := D) (cl := vwCl) hx hb hK hP 12 0 rfl rfl hin dX6_readSentence_165 ?_
          have hFc := va_free (wc := (sh_M cs adM mpM mkM mgM mcM mwM mfM mtM mhM mmM mdM mxM (upd mnM v5.toNatClampNeg r_33) szM faM apM waM wrM fuM)) hD hS hA [0, 1, 2, 3, 4, 5, 6, 7, 8, 9, 10, 11, 12] rfl
          refine va_calli (va_runV (As := [.int 1, .int v4, .int (v5 + 1), .int ((upd mnM v5.toNatClampNeg r_33) (0 : Int32).toNatClampNeg), .int ((upd mnM v5.toNatClampNeg r_33) (1 : Int32).toNatClampNeg), .int ((upd mnM v5.toNatClampNeg r_33) (2 : Int32).toNatClampNeg)]) (rest := []) ⟨hx, hb, hml, hown, hts⟩ (met_X6_canBe l D cs ev _ adM mpM mkM mgM mcM mwM mfM mtM mhM mmM mdM mxM (upd mnM v5.toNatClampNeg r_33) szM faM apM waM wrM fuM 1 v4 (v5 + 1) ((upd mnM v5.toNatClampNeg r_33) (0 : Int32).toNatClampNeg) ((upd mnM v5.toNatClampNeg r_33) (1 : Int32).toNatClampNeg) ((upd mnM v5.toNatClampNeg r_33) (2 : Int32).toNatClampNeg) _ h) (cwV 6 hts gX6_readSentence_X6_canBe rfl rfl rfl (by decide +kernel) ⟨Nat.le_of_ble_eq_true rfl, Nat.le_of_ble_eq_true rfl⟩) (mPreV (va_recv hK hP (ci := 5) (q0 := 0) rfl rfl) hP hD hS hK hE hFc [0, 1, 2, 3, 4, 5, 6, 7, 8, 9, 10, 11, 12] (by decide) rfl) rfl rfl hl.1 rfl (lv_room (Nat.le_of_ble_eq_true rfl)) dX6_readSentence_166 ⟨Nat.le_of_ble_eq_true rfl, Nat.le_of_ble_eq_true rfl⟩) hS (fun q _ h => hFc q h) hFc (fun r_35 u t H1 locs ht hvm hw hB hz1 hk1 hS => ?_)
          have h := hw
          obtain ⟨hP1, hK1, hD1⟩ := hB
          rw [ht] at hP1
          obtain ⟨hP, hD⟩ := mJoin (wr := ([] : va_W)) (w1 := (sh_M cs adM mpM mkM mgM mcM mwM mfM mtM mhM mmM mdM mxM (upd mnM v5.toNatClampNeg r_33) szM faM apM waM wrM fuM)) (w' := (sh_M cs adM mpM mkM mgM mcM mwM mfM mtM mhM mmM mdM mxM (upd mnM v5.toNatClampNeg r_33) szM faM apM waM wrM fuM)) hP hD [0, 1, 2, 3, 4, 5, 6, 7, 8, 9, 10, 11, 12] [] rfl rfl (by decide) (by decide) hk1 hFc hP1 hD1 [0, 1, 2, 3, 4, 5, 6, 7, 8, 9, 10, 11, 12] (by decide) rfl
          generalize H1 = H at hP hS ⊢
          refine lv_if_ne (tgt := 174) hx hb dX6_readSentence_169 (by decide) (fun c_36 => ?_) (fun c_36 => ?_)
          · have h := h.2 c_36
            refine lv_aload_n hx hb dX6_readSentence_174 rfl (lv_at hl 1 rfl) ?_
            refine lv_aload_n hx hb dX6_readSentence_175 rfl (lv_at hl 1 rfl) ?_
            refine lv_iload_n hx hb dX6_readSentence_176 rfl (lv_at hl 0 rfl) ?_
            have hFc := va_free (wc := (sh_M cs adM mpM mkM mgM mcM mwM mfM mtM mhM mmM mdM mxM (upd mnM v5.toNatClampNeg r_33) szM faM apM waM wrM fuM)) hD hS hA [0, 1, 2, 3, 4, 5, 6, 7, 8, 9, 10, 11, 12] rfl
            refine va_calli (va_runV (As := [.int r_27]) (rest := [.ref (adM 0)]) ⟨hx, hb, hml, hown, hts⟩ (met_X6_wordBegin l D cs ev _ adM mpM mkM mgM mcM mwM mfM mtM mhM mmM mdM mxM (upd mnM v5.toNatClampNeg r_33) szM faM apM waM wrM fuM r_27 _ h) (cwV 1 hts gX6_readSentence_X6_wordBegin rfl rfl rfl (by decide +kernel) ⟨Nat.le_of_ble_eq_true rfl, Nat.le_of_ble_eq_true rfl⟩) (mPreV (va_recv hK hP (ci := 5) (q0 := 0) rfl rfl) hP hD hS hK hE hFc [0, 1, 2, 3, 4, 5, 6, 7, 8, 9, 10, 11, 12] (by decide) rfl) rfl rfl hl.1 rfl (lv_room (Nat.le_of_ble_eq_true rfl)) dX6_readSentence_177 ⟨Nat.le_of_ble_eq_true rfl, Nat.le_of_ble_eq_true rfl⟩) hS (fun q _ h => hFc q h) hFc (fun r_37 u t H1 locs ht hvm hw hB hz1 hk1 hS => ?_)
            have h := hw
            obtain ⟨hP1, hK1, hD1⟩ := hB
            rw [ht] at hP1
            obtain ⟨hP, hD⟩ := mJoin (wr := ([] : va_W)) (w1 := (sh_M cs adM mpM mkM mgM mcM mwM mfM mtM mhM mmM mdM mxM (upd mnM v5.toNatClampNeg r_33) szM faM apM waM wrM fuM)) (w' := (sh_M cs adM mpM mkM mgM mcM mwM mfM mtM mhM mmM mdM mxM (upd mnM v5.toNatClampNeg r_33) szM faM apM waM wrM fuM)) hP hD [0, 1, 2, 3, 4, 5, 6, 7, 8, 9, 10, 11, 12] [] rfl rfl (by decide) (by decide) hk1 hFc hP1 hD1 [0, 1, 2, 3, 4, 5, 6, 7, 8, 9, 10, 11, 12] (by decide) rfl
            generalize H1 = H at hP hS ⊢
            refine va_put (D := D) (ci := 5) (v := .int r_37) (ty := .int) (C := RX6) (T := TX6) (N := 18) hx hb hts (by decide +kernel) tyX6 tyX6_ok nmX6 hown hK hP hD hS 0 rfl rfl 14 (by decide) (hts (.fieldLink RX6 92 "PartGraphsModel" "at" "I") (by decide +kernel)) (fun _ h9 => h9) rfl (by decide +kernel) rfl rfl (Nat.le_of_ble_eq_true rfl) dX6_readSentence_180 (fun H locs hP hD hS => ?_)
            have hP : va_P D vwCl (sh_M cs adM mpM mkM mgM mcM mwM mfM mtM mhM mmM mdM mxM (upd mnM v5.toNatClampNeg r_33) szM faM r_37 waM wrM fuM) H := hP
            have hD : va_D A (sh_M cs adM mpM mkM mgM mcM mwM mfM mtM mhM mmM mdM mxM (upd mnM v5.toNatClampNeg r_33) szM faM r_37 waM wrM fuM) := hD
            refine lv_iinc (v := v5 + 1) (lv' := [(5, .int (v5 + 1)), (1, .int r_27), (0, .ref (adM 0)), (4, .int v4)]) hx hb dX6_readSentence_183 hl (k := 3) rfl rfl (by decide) rfl (fun ls hl => ?_)
            refine lv_goto (tgt := 80) hx hb dX6_readSentence_186 (by decide) ?_
            rw [hA80] at h
            exact h _ _ hP hD hS ls (lv_sub hl [2, 3, 0] rfl)
          · have h := h.1 c_36
            refine lv_iconst (v := 0) hx hb dX6_readSentence_172 (by decide) ?_
            exact W.zret (v := 0) hx hb hr (by decide) (fun t ht hW => ⟨⟨0, (mpM, mkM, mgM, mcM, mwM, mfM, mtM, mhM, mmM, mdM, upd mnM v5.toNatClampNeg r_33, apM), rfl, h, by rw [ht]; exact hP, va_K.moved hW.alike hK, hD⟩, hS.F ht⟩) hS.2.2 dX6_readSentence_173
  have h := h A22 A80 s22 s80
  refine lv_aload_n hx hb dX6_readSentence_0 rfl (lv_at hl 0 rfl) ?_
  refine lv_aload_n hx hb dX6_readSentence_1 rfl (lv_at hl 0 rfl) ?_
  refine va_get (D := D) (ci := 5) (v := .int apM) (C := RX6) (T := TX6) (N := 18) hx hb hts (by decide +kernel) hown hK hP 0 rfl rfl 14 (by decide) (hts (.fieldLink RX6 92 "PartGraphsModel" "at" "I") (by decide +kernel)) (fun _ h9 => h9) rfl dX6_readSentence_2 ?_
  have hFc := va_free (wc := (sh_M cs adM mpM mkM mgM mcM mwM mfM mtM mhM mmM mdM mxM mnM szM faM apM waM wrM fuM)) hD hS hA [0, 1, 2, 3, 4, 5, 6, 7, 8, 9, 10, 11, 12] rfl
  refine va_calli (va_runV (As := [.int apM]) (rest := []) ⟨hx, hb, hml, hown, hts⟩ (met_X6_wordEnd l D cs ev _ adM mpM mkM mgM mcM mwM mfM mtM mhM mmM mdM mxM mnM szM faM apM waM wrM fuM apM _ h) (cwV 1 hts gX6_readSentence_X6_wordEnd rfl rfl rfl (by decide +kernel) ⟨Nat.le_of_ble_eq_true rfl, Nat.le_of_ble_eq_true rfl⟩) (mPreV (va_recv hK hP (ci := 5) (q0 := 0) rfl rfl) hP hD hS hK hE hFc [0, 1, 2, 3, 4, 5, 6, 7, 8, 9, 10, 11, 12] (by decide) rfl) rfl rfl hl.1 rfl (lv_room (Nat.le_of_ble_eq_true rfl)) dX6_readSentence_5 ⟨Nat.le_of_ble_eq_true rfl, Nat.le_of_ble_eq_true rfl⟩) hS (fun q _ h => hFc q h) hFc (fun r_1 u t H1 locs ht hvm hw hB hz1 hk1 hS => ?_)
  have h := hw
  obtain ⟨hP1, hK1, hD1⟩ := hB
  rw [ht] at hP1
  obtain ⟨hP, hD⟩ := mJoin (wr := ([] : va_W)) (w1 := (sh_M cs adM mpM mkM mgM mcM mwM mfM mtM mhM mmM mdM mxM mnM szM faM apM waM wrM fuM)) (w' := (sh_M cs adM mpM mkM mgM mcM mwM mfM mtM mhM mmM mdM mxM mnM szM faM apM waM wrM fuM)) hP hD [0, 1, 2, 3, 4, 5, 6, 7, 8, 9, 10, 11, 12] [] rfl rfl (by decide) (by decide) hk1 hFc hP1 hD1 [0, 1, 2, 3, 4, 5, 6, 7, 8, 9, 10, 11, 12] (by decide) rfl
  generalize H1 = H at hP hS ⊢
  refine lv_istore_n (lv' := [(1, .int r_1), (0, .ref (adM 0))]) hx hb dX6_readSentence_8 rfl hl (by decide) rfl (fun ls hl => ?_)
  refine lv_aload_n hx hb dX6_readSentence_9 rfl (lv_at hl 1 rfl) ?_
  refine lv_aload_n hx hb dX6_readSentence_10 rfl (lv_at hl 1 rfl) ?_
  refine va_get (D := D) (ci := 5) (v := .int apM) (C := RX6) (T := TX6) (N := 18) hx hb hts (by decide +kernel) hown hK hP 0 rfl rfl 14 (by decide) (hts (.fieldLink RX6 92 "PartGraphsModel" "at" "I") (by decide +kernel)) (fun _ h9 => h9) rfl dX6_readSentence_11 ?_
  refine lv_iload_n hx hb dX6_readSentence_14 rfl (lv_at hl 0 rfl) ?_
  have hFc := va_free (wc := (sh_M cs adM mpM mkM mgM mcM mwM mfM mtM mhM mmM mdM mxM mnM szM faM apM waM wrM fuM)) hD hS hA [0, 1, 2, 3, 4, 5, 6, 7, 8, 9, 10, 11, 12] rfl
  refine va_calll (va_runV (As := [.int apM, .int r_1]) (rest := []) ⟨hx, hb, hml, hown, hts⟩ (met_X6_wordOf l D cs ev _ adM mpM mkM mgM mcM mwM mfM mtM mhM mmM mdM mxM mnM szM faM apM waM wrM fuM apM r_1 _ h) (cwV 2 hts gX6_readSentence_X6_wordOf rfl rfl rfl (by decide +kernel) ⟨Nat.le_of_ble_eq_true rfl, Nat.le_of_ble_eq_true rfl⟩) (mPreV (va_recv hK hP (ci := 5) (q0 := 0) rfl rfl) hP hD hS hK hE hFc [0, 1, 2, 3, 4, 5, 6, 7, 8, 9, 10, 11, 12] (by decide) rfl) rfl rfl hl.1 rfl (lv_room (Nat.le_of_ble_eq_true rfl)) dX6_readSentence_15 ⟨Nat.le_of_ble_eq_true rfl, Nat.le_of_ble_eq_true rfl⟩) hS (fun q _ h => hFc q h) hFc (fun r_2 u t H1 locs ht hvm hw hB hz1 hk1 hS => ?_)
  have h := hw
  obtain ⟨hP1, hK1, hD1⟩ := hB
  rw [ht] at hP1
  obtain ⟨hP, hD⟩ := mJoin (wr := ([] : va_W)) (w1 := (sh_M cs adM mpM mkM mgM mcM mwM mfM mtM mhM mmM mdM mxM mnM szM faM apM waM wrM fuM)) (w' := (sh_M cs adM mpM mkM mgM mcM mwM mfM mtM mhM mmM mdM mxM mnM szM faM apM waM wrM fuM)) hP hD [0, 1, 2, 3, 4, 5, 6, 7, 8, 9, 10, 11, 12] [] rfl rfl (by decide) (by decide) hk1 hFc hP1 hD1 [0, 1, 2, 3, 4, 5, 6, 7, 8, 9, 10, 11, 12] (by decide) rfl
  generalize H1 = H at hP hS ⊢
  refine lv_lstore_n (lv' := [(2, .long r_2), (1, .int r_1), (0, .ref (adM 0))]) hx hb dX6_readSentence_18 rfl hl (by decide) rfl (fun ls hl => ?_)
  refine lv_iconst (v := 0) hx hb dX6_readSentence_19 (by decide) ?_
  refine lv_istore (lv' := [(4, .int 0), (2, .long r_2), (1, .int r_1), (0, .ref (adM 0))]) hx hb dX6_readSentence_20 hl (by decide) rfl (fun ls hl => ?_)
  rw [hA22] at h
  exact h _ _ hP hD hS ls (lv_sub hl [3, 2, 1, 0] rfl)
def wp_X6_read (mpM : Nat → Int32) (mkM : Nat → Int32) (mgM : Nat → Int32) (mcM : Nat → Int32) (mwM : Nat → Int32) (mfM : Nat → Int32) (mtM : Nat → Int32) (mhM : Nat → Int32) (mmM : Nat → Int32) (mdM : Nat → Int32) (mxM : Nat → Int32) (mnM : Nat → Int32) (szM : Int32) (faM : Int32) (apM : Int32) (post : Int32 → ((Nat → Int32) × (Nat → Int32) × (Nat → Int32) × (Nat → Int32) × (Nat → Int32) × (Nat → Int32) × (Nat → Int32) × (Nat → Int32) × (Nat → Int32) × (Nat → Int32) × (Nat → Int32) × Int32 × Int32 × Int32) → Prop) : Prop :=
    ∀ (A21 : Int32 → (Nat → Int32) → (Nat → Int32) → (Nat → Int32) → (Nat → Int32) → (Nat → Int32) → (Nat → Int32) → (Nat → Int32) → (Nat → Int32) → (Nat → Int32) → (Nat → Int32) → (Nat → Int32) → Int32 → Int32 → Int32 → Prop),
    (∀ (v1 : Int32) (mpM : Nat → Int32) (mkM : Nat → Int32) (mgM : Nat → Int32) (mcM : Nat → Int32) (mwM : Nat → Int32) (mfM : Nat → Int32) (mtM : Nat → Int32) (mhM : Nat → Int32) (mmM : Nat → Int32) (mdM : Nat → Int32) (mnM : Nat → Int32) (szM : Int32) (faM : Int32) (apM : Int32), ((v1 = 0 → ((v1 = 0 → post ((-1) - apM) (mpM, mkM, mgM, mcM, mwM, mfM, mtM, mhM, mmM, mdM, mnM, 0, faM, apM)) ∧ (¬ v1 = 0 → wp_X6_take mpM mkM mgM mcM mwM mfM mtM mhM mmM mdM (fun u => match u with | (mp_13, mk_14, mg_15, mc_16, mw_17, mf_18, mt_19, mh_20, mm_21, md_22) => (vp_in 0 2 ∧ post (mp_13 (0 : Int32).toNatClampNeg) (mp_13, mk_14, mg_15, mc_16, mw_17, mf_18, mt_19, mh_20, mm_21, md_22, mnM, 0, faM, apM)))))) ∧ (¬ v1 = 0 → ((szM ≤ apM → ((v1 = 0 → post ((-1) - apM) (mpM, mkM, mgM, mcM, mwM, mfM, mtM, mhM, mmM, mdM, mnM, 0, faM, apM)) ∧ (¬ v1 = 0 → wp_X6_take mpM mkM mgM mcM mwM mfM mtM mhM mmM mdM (fun u => match u with | (mp_26, mk_27, mg_28, mc_29, mw_30, mf_31, mt_32, mh_33, mm_34, md_35) => (vp_in 0 2 ∧ post (mp_26 (0 : Int32).toNatClampNeg) (mp_26, mk_27, mg_28, mc_29, mw_30, mf_31, mt_32, mh_33, mm_34, md_35, mnM, 0, faM, apM)))))) ∧ (¬ szM ≤ apM → wp_X6_readSentence mpM mkM mgM mcM mwM mfM mtM mhM mmM mdM mxM mnM szM apM (fun r_36 u => match u with | (mp_37, mk_38, mg_39, mc_40, mw_41, mf_42, mt_43, mh_44, mm_45, md_46, mn_47, ap_48) => A21 r_36 mp_37 mk_38 mg_39 mc_40 mw_41 mf_42 mt_43 mh_44 mm_45 md_46 mn_47 szM faM ap_48))))) → A21 v1 mpM mkM mgM mcM mwM mfM mtM mhM mmM mdM mnM szM faM apM) →
    wp_X6_clear mpM mcM mwM mfM mhM mmM mdM 1 (fun u => match u with | (mp_2, mc_3, mw_4, mf_5, mh_6, mm_7, md_8) => wp_X6_wordBegin mxM szM 0 (fun r_9 _ => A21 1 mp_2 mkM mgM mc_3 mw_4 mf_5 mtM mh_6 mm_7 md_8 mnM szM 0 r_9))
set_option maxHeartbeats 4000000 in
set_option maxRecDepth 100000 in
theorem met_X6_read (l : Launch) (D : va_G) (cs : Nat → ClassId) (ev : Nat → Nat → Nat) (sz0 : Nat) (adM : Nat → Nat) (mpM : Nat → Int32) (mkM : Nat → Int32) (mgM : Nat → Int32) (mcM : Nat → Int32) (mwM : Nat → Int32) (mfM : Nat → Int32) (mtM : Nat → Int32) (mhM : Nat → Int32) (mmM : Nat → Int32) (mdM : Nat → Int32) (mxM : Nat → Int32) (mnM : Nat → Int32) (szM : Int32) (faM : Int32) (apM : Int32) (waM : Int32) (wrM : Int32) (fuM : Int32) (post : Int32 → ((Nat → Int32) × (Nat → Int32) × (Nat → Int32) × (Nat → Int32) × (Nat → Int32) × (Nat → Int32) × (Nat → Int32) × (Nat → Int32) × (Nat → Int32) × (Nat → Int32) × (Nat → Int32) × Int32 × Int32 × Int32) → Prop) (h : wp_X6_read mpM mkM mgM mcM mwM mfM mtM mhM mmM mdM mxM mnM szM faM apM post) : Met l yX6_read wsX6_read ({ frames := 4, cells := 0, slots := 0, locals := 102 }) (va_Pc [.ref (adM 0)] (mPre D cs ev (sh_M cs adM mpM mkM mgM mcM mwM mfM mtM mhM mmM mdM mxM mnM szM faM apM waM wrM fuM) sz0)) (va_Qi post (fun u t => match u with | (mpM', mkM', mgM', mcM', mwM', mfM', mtM', mhM', mmM', mdM', mnM', szM', faM', apM') => mAt D cs (va_A (sh_M cs adM mpM mkM mgM mcM mwM mfM mtM mhM mmM mdM mxM mnM szM faM apM waM wrM fuM) sz0) (sh_M cs adM mpM' mkM' mgM' mcM' mwM' mfM' mtM' mhM' mmM' mdM' mxM mnM' szM' faM' apM' waM wrM fuM) t) (va_A (sh_M cs adM mpM mkM mgM mcM mwM mfM mtM mhM mmM mdM mxM mnM szM faM apM waM wrM fuM) sz0)) 0 0 (va_A (sh_M cs adM mpM mkM mgM mcM mwM mfM mtM mhM mmM mdM mxM mnM szM faM apM waM wrM fuM) sz0) := by
  refine Met.ofW (cc := cX6_read) (maxL := 2) (ret := (some .int)) (by decide) rfl ?_
  intro p e s m args below meth c s₁ B hml hv
  obtain ⟨rfl, hsz, hP, hK, hD0, hE⟩ := hv
  have hx := B.exec
  have hb := B.bytes
  have hr := B.returns
  have hts := atoms_spec (ws := wsX6_read) B.pre
  have hown : s.vm.findClass RX6 = some m.cls := findClass_of_methodNamed B.named
  have hlocks := B.notSynchronized
  subst hsz
  have hD := hD0.self (sz := s.heap.size)
  generalize hAe : va_A (sh_M cs adM mpM mkM mgM mcM mwM mfM mtM mhM mmM mdM mxM mnM szM faM apM waM wrM fuM) s.heap.size = A at hD hE ⊢
  have hA : ∀ q : Nat, s.heap.size ≤ q → A q := fun q h => by rw [← hAe]; exact Or.inr h
  have hS : va_S A s.heap s.heap [] := va_S.rf
  have hl := lv_entry ([.ref (adM 0)]) (n := 2) (Nat.le_of_ble_eq_true rfl)
  rw [lg_entry_eq]
  generalize (lg_sl ([.ref (adM 0)]) ++ List.replicate (2 - (lg_sl ([.ref (adM 0)])).length) Slot.unset).toArray = ls at hl ⊢
  have hl : lv_has ls 2 [(0, .ref (adM 0))] := hl
  obtain ⟨A21, hA21⟩ : ∃ Q : Int32 → (Nat → Int32) → (Nat → Int32) → (Nat → Int32) → (Nat → Int32) → (Nat → Int32) → (Nat → Int32) → (Nat → Int32) → (Nat → Int32) → (Nat → Int32) → (Nat → Int32) → (Nat → Int32) → Int32 → Int32 → Int32 → Prop, Q = (fun v1 mpM mkM mgM mcM mwM mfM mtM mhM mmM mdM mnM szM faM apM => ∀ (H : Heap) (locs : List Loc), va_P D vwCl (sh_M cs adM mpM mkM mgM mcM mwM mfM mtM mhM mmM mdM mxM mnM szM faM apM waM wrM fuM) H → va_D A (sh_M cs adM mpM mkM mgM mcM mwM mfM mtM mhM mmM mdM mxM mnM szM faM apM waM wrM fuM) → va_S A s.heap H locs → ∀ ls : Array Slot, lv_has ls 2 [(0, .ref (adM 0)), (1, .int v1)] → W p l e (headSpec wsX6_read ({ frames := 4, cells := 0, slots := 0, locals := 102 })).room s m ([.ref (adM 0)] : List Value).toArray below meth c H locs 0 0 (MQ below (va_Qi post (fun u t => match u with | (mpM', mkM', mgM', mcM', mwM', mfM', mtM', mhM', mmM', mdM', mnM', szM', faM', apM') => mAt D cs (A) (sh_M cs adM mpM' mkM' mgM' mcM' mwM' mfM' mtM' mhM' mmM' mdM' mxM mnM' szM' faM' apM' waM wrM fuM) t) A) ([.ref (adM 0)] : List Value).toArray s 0 0 A) (F0 m 21 ls [])) := ⟨_, rfl⟩
  have s21 : ∀ (v1 : Int32) (mpM : Nat → Int32) (mkM : Nat → Int32) (mgM : Nat → Int32) (mcM : Nat → Int32) (mwM : Nat → Int32) (mfM : Nat → Int32) (mtM : Nat → Int32) (mhM : Nat → Int32) (mmM : Nat → Int32) (mdM : Nat → Int32) (mnM : Nat → Int32) (szM : Int32) (faM : Int32) (apM : Int32), ((v1 = 0 → ((v1 = 0 → post ((-1) - apM) (mpM, mkM, mgM, mcM, mwM, mfM, mtM, mhM, mmM, mdM, mnM, 0, faM, apM)) ∧ (¬ v1 = 0 → wp_X6_take mpM mkM mgM mcM mwM mfM mtM mhM mmM mdM (fun u => match u with | (mp_13, mk_14, mg_15, mc_16, mw_17, mf_18, mt_19, mh_20, mm_21, md_22) => (vp_in 0 2 ∧ post (mp_13 (0 : Int32).toNatClampNeg) (mp_13, mk_14, mg_15, mc_16, mw_17, mf_18, mt_19, mh_20, mm_21, md_22, mnM, 0, faM, apM)))))) ∧ (¬ v1 = 0 → ((szM ≤ apM → ((v1 = 0 → post ((-1) - apM) (mpM, mkM, mgM, mcM, mwM, mfM, mtM, mhM, mmM, mdM, mnM, 0, faM, apM)) ∧ (¬ v1 = 0 → wp_X6_take mpM mkM mgM mcM mwM mfM mtM mhM mmM mdM (fun u => match u with | (mp_26, mk_27, mg_28, mc_29, mw_30, mf_31, mt_32, mh_33, mm_34, md_35) => (vp_in 0 2 ∧ post (mp_26 (0 : Int32).toNatClampNeg) (mp_26, mk_27, mg_28, mc_29, mw_30, mf_31, mt_32, mh_33, mm_34, md_35, mnM, 0, faM, apM)))))) ∧ (¬ szM ≤ apM → wp_X6_readSentence mpM mkM mgM mcM mwM mfM mtM mhM mmM mdM mxM mnM szM apM (fun r_36 u => match u with | (mp_37, mk_38, mg_39, mc_40, mw_41, mf_42, mt_43, mh_44, mm_45, md_46, mn_47, ap_48) => A21 r_36 mp_37 mk_38 mg_39 mc_40 mw_41 mf_42 mt_43 mh_44 mm_45 md_46 mn_47 szM faM ap_48))))) → A21 v1 mpM mkM mgM mcM mwM mfM mtM mhM mmM mdM mnM szM faM apM := by
    intro v1 mpM mkM mgM mcM mwM mfM mtM mhM mmM mdM mnM szM faM apM h
    rw [hA21]
    intro H locs hP hD hS ls hl
    refine lv_iload_n hx hb dX6_read_21 rfl (lv_at hl 1 rfl) ?_
    refine lv_if_eq (tgt := 44) hx hb dX6_read_22 (by decide) (fun c_10 => ?_) (fun c_10 => ?_)
    · have h := h.1 c_10
      refine lv_aload_n hx hb dX6_read_44 rfl (lv_at hl 0 rfl) ?_
      refine lv_iconst (v := 0) hx hb dX6_read_45 (by decide) ?_
      refine va_put (D := D) (ci := 5) (v := .int 0) (ty := .int) (C := RX6) (T := TX6) (N := 18) hx hb hts (by decide +kernel) tyX6 tyX6_ok nmX6 hown hK hP hD hS 0 rfl rfl 11 (by decide) (hts (.fieldLink RX6 69 "PartGraphsModel" "size" "I") (by decide +kernel)) (fun _ h9 => h9) rfl (by decide +kernel) rfl rfl (Nat.le_of_ble_eq_true rfl) dX6_read_46 (fun H locs hP hD hS => ?_)
      have hP : va_P D vwCl (sh_M cs adM mpM mkM mgM mcM mwM mfM mtM mhM mmM mdM mxM mnM 0 faM apM waM wrM fuM) H := hP
      have hD : va_D A (sh_M cs adM mpM mkM mgM mcM mwM mfM mtM mhM mmM mdM mxM mnM 0 faM apM waM wrM fuM) := hD
      refine lv_iload_n hx hb dX6_read_49 rfl (lv_at hl 1 rfl) ?_
      refine lv_if_ne (tgt := 60) hx hb dX6_read_50 (by decide) (fun c_11 => ?_) (fun c_11 => ?_)
      · have h := h.2 c_11
        refine lv_aload_n hx hb dX6_read_60 rfl (lv_at hl 0 rfl) ?_
        have hFc := va_free (wc := (sh_M cs adM mpM mkM mgM mcM mwM mfM mtM mhM mmM mdM mxM mnM 0 faM apM waM wrM fuM)) hD hS hA [0, 1, 2, 3, 4, 5, 6, 7, 8, 9, 10, 11, 12] rfl
        refine va_callv (va_runV (As := []) (rest := []) ⟨hx, hb, hml, hown, hts⟩ (met_X6_take l D cs ev _ adM mpM mkM mgM mcM mwM mfM mtM mhM mmM mdM mxM mnM 0 faM apM waM wrM fuM _ h) (cwV 0 hts gX6_read_X6_take rfl rfl rfl (by decide +kernel) ⟨Nat.le_of_ble_eq_true rfl, Nat.le_of_ble_eq_true rfl⟩) (mPreV (va_recv hK hP (ci := 5) (q0 := 0) rfl rfl) hP hD hS hK hE hFc [0, 1, 2, 3, 4, 5, 6, 7, 8, 9, 10, 11, 12] (by decide) rfl) rfl rfl hl.1 rfl (lv_room (Nat.le_of_ble_eq_true rfl)) dX6_read_61 ⟨Nat.le_of_ble_eq_true rfl, Nat.le_of_ble_eq_true rfl⟩) hS (fun q _ h => hFc q h) hFc (fun u t H1 locs ht hvm hw hB hz1 hk1 hS => ?_)
        obtain ⟨mp_13, mk_14, mg_15, mc_16, mw_17, mf_18, mt_19, mh_20, mm_21, md_22⟩ := u
        have h := hw
        obtain ⟨hP1, hK1, hD1⟩ := hB
        rw [ht] at hP1
        obtain ⟨hP, hD⟩ := mJoin (wr := ([] : va_W)) (w1 := (sh_M cs adM mp_13 mk_14 mg_15 mc_16 mw_17 mf_18 mt_19 mh_20 mm_21 md_22 mxM mnM 0 faM apM waM wrM fuM)) (w' := (sh_M cs adM mp_13 mk_14 mg_15 mc_16 mw_17 mf_18 mt_19 mh_20 mm_21 md_22 mxM mnM 0 faM apM waM wrM fuM)) hP hD [0, 1, 2, 3, 4, 5, 6, 7, 8, 9, 10, 11, 12] [] rfl rfl (by decide) (by decide) hk1 hFc hP1 hD1 [0, 1, 2, 3, 4, 5, 6, 7, 8, 9, 10, 11, 12] (by decide) rfl
        generalize H1 = H at hP hS ⊢
        refine lv_aload_n hx hb dX6_read_64 rfl (lv_at hl 0 rfl) ?_
        refine va_get (D := D) (ci := 5) (v := .ref (adM 1)) (C := RX6) (T := TX6) (N := 18) hx hb hts (by decide +kernel) hown hK hP 0 rfl rfl 0 (by decide) (hts (.fieldLink RX6 7 "PartGraphsModel" "parts" "[I") (by decide +kernel)) (fun _ h9 => h9) rfl dX6_read_65 ?_
        refine lv_iconst (v := 0) hx hb dX6_read_68 (by decide) ?_
        have hin := h.1
        have h := h.2
        refine va_iald (D := D) (cl := vwCl) hx hb hK hP 1 0 rfl rfl hin dX6_read_69 ?_
        exact W.iret (v := mp_13 (0 : Int32).toNatClampNeg) hx hb hr (fun t ht hW => ⟨⟨mp_13 (0 : Int32).toNatClampNeg, (mp_13, mk_14, mg_15, mc_16, mw_17, mf_18, mt_19, mh_20, mm_21, md_22, mnM, 0, faM, apM), rfl, h, by rw [ht]; exact hP, va_K.moved hW.alike hK, hD⟩, hS.F ht⟩) hS.2.2 dX6_read_70
      · have h := h.1 c_11
        refine lv_iconst (v := (-1)) hx hb dX6_read_53 (by decide) ?_
        refine lv_aload_n hx hb dX6_read_54 rfl (lv_at hl 0 rfl) ?_
        refine va_get (D := D) (ci := 5) (v := .int apM) (C := RX6) (T := TX6) (N := 18) hx hb hts (by decide +kernel) hown hK hP 0 rfl rfl 14 (by decide) (hts (.fieldLink RX6 92 "PartGraphsModel" "at" "I") (by decide +kernel)) (fun _ h9 => h9) rfl dX6_read_55 ?_
        refine lv_isub hx hb dX6_read_58 ?_
        exact W.iret (v := (-1) - apM) hx hb hr (fun t ht hW => ⟨⟨(-1) - apM, (mpM, mkM, mgM, mcM, mwM, mfM, mtM, mhM, mmM, mdM, mnM, 0, faM, apM), rfl, h, by rw [ht]; exact hP, va_K.moved hW.alike hK, hD⟩, hS.F ht⟩) hS.2.2 dX6_read_59
    · have h := h.2 c_10
      refine lv_aload_n hx hb dX6_read_25 rfl (lv_at hl 0 rfl) ?_
      refine va_get (D := D) (ci := 5) (v := .int apM) (C := RX6) (T := TX6) (N := 18) hx hb hts (by decide +kernel) hown hK hP 0 rfl rfl 14 (by decide) (hts (.fieldLink RX6 92 "PartGraphsModel" "at" "I") (by decide +kernel)) (fun _ h9 => h9) rfl dX6_read_26 ?_
      refine lv_aload_n hx hb dX6_read_29 rfl (lv_at hl 0 rfl) ?_
      refine va_get (D := D) (ci := 5) (v := .int szM) (C := RX6) (T := TX6) (N := 18) hx hb hts (by decide +kernel) hown hK hP 0 rfl rfl 11 (by decide) (hts (.fieldLink RX6 69 "PartGraphsModel" "size" "I") (by decide +kernel)) (fun _ h9 => h9) rfl dX6_read_30 ?_
      refine lv_icmp_ge (tgt := 44) hx hb dX6_read_33 (by decide) (fun c_23 => ?_) (fun c_23 => ?_)
      · have h := h.1 c_23
        refine lv_aload_n hx hb dX6_read_44 rfl (lv_at hl 0 rfl) ?_
        refine lv_iconst (v := 0) hx hb dX6_read_45 (by decide) ?_
        refine va_put (D := D) (ci := 5) (v := .int 0) (ty := .int) (C := RX6) (T := TX6) (N := 18) hx hb hts (by decide +kernel) tyX6 tyX6_ok nmX6 hown hK hP hD hS 0 rfl rfl 11 (by decide) (hts (.fieldLink RX6 69 "PartGraphsModel" "size" "I") (by decide +kernel)) (fun _ h9 => h9) rfl (by decide +kernel) rfl rfl (Nat.le_of_ble_eq_true rfl) dX6_read_46 (fun H locs hP hD hS => ?_)
        have hP : va_P D vwCl (sh_M cs adM mpM mkM mgM mcM mwM mfM mtM mhM mmM mdM mxM mnM 0 faM apM waM wrM fuM) H := hP
        have hD : va_D A (sh_M cs adM mpM mkM mgM mcM mwM mfM mtM mhM mmM mdM mxM mnM 0 faM apM waM wrM fuM) := hD
        refine lv_iload_n hx hb dX6_read_49 rfl (lv_at hl 1 rfl) ?_
        refine lv_if_ne (tgt := 60) hx hb dX6_read_50 (by decide) (fun c_24 => ?_) (fun c_24 => ?_)
        · have h := h.2 c_24
          refine lv_aload_n hx hb dX6_read_60 rfl (lv_at hl 0 rfl) ?_
          have hFc := va_free (wc := (sh_M cs adM mpM mkM mgM mcM mwM mfM mtM mhM mmM mdM mxM mnM 0 faM apM waM wrM fuM)) hD hS hA [0, 1, 2, 3, 4, 5, 6, 7, 8, 9, 10, 11, 12] rfl
          refine va_callv (va_runV (As := []) (rest := []) ⟨hx, hb, hml, hown, hts⟩ (met_X6_take l D cs ev _ adM mpM mkM mgM mcM mwM mfM mtM mhM mmM mdM mxM mnM 0 faM apM waM wrM fuM _ h) (cwV 0 hts gX6_read_X6_take rfl rfl rfl (by decide +kernel) ⟨Nat.le_of_ble_eq_true rfl, Nat.le_of_ble_eq_true rfl⟩) (mPreV (va_recv hK hP (ci := 5) (q0 := 0) rfl rfl) hP hD hS hK hE hFc [0, 1, 2, 3, 4, 5, 6, 7, 8, 9, 10, 11, 12] (by decide) rfl) rfl rfl hl.1 rfl (lv_room (Nat.le_of_ble_eq_true rfl)) dX6_read_61 ⟨Nat.le_of_ble_eq_true rfl, Nat.le_of_ble_eq_true rfl⟩) hS (fun q _ h => hFc q h) hFc (fun u t H1 locs ht hvm hw hB hz1 hk1 hS => ?_)
          obtain ⟨mp_26, mk_27, mg_28, mc_29, mw_30, mf_31, mt_32, mh_33, mm_34, md_35⟩ := u
          have h := hw
          obtain ⟨hP1, hK1, hD1⟩ := hB
          rw [ht] at hP1
          obtain ⟨hP, hD⟩ := mJoin (wr := ([] : va_W)) (w1 := (sh_M cs adM mp_26 mk_27 mg_28 mc_29 mw_30 mf_31 mt_32 mh_33 mm_34 md_35 mxM mnM 0 faM apM waM wrM fuM)) (w' := (sh_M cs adM mp_26 mk_27 mg_28 mc_29 mw_30 mf_31 mt_32 mh_33 mm_34 md_35 mxM mnM 0 faM apM waM wrM fuM)) hP hD [0, 1, 2, 3, 4, 5, 6, 7, 8, 9, 10, 11, 12] [] rfl rfl (by decide) (by decide) hk1 hFc hP1 hD1 [0, 1, 2, 3, 4, 5, 6, 7, 8, 9, 10, 11, 12] (by decide) rfl
          generalize H1 = H at hP hS ⊢
          refine lv_aload_n hx hb dX6_read_64 rfl (lv_at hl 0 rfl) ?_
          refine va_get (D := D) (ci := 5) (v := .ref (adM 1)) (C := RX6) (T := TX6) (N := 18) hx hb hts (by decide +kernel) hown hK hP 0 rfl rfl 0 (by decide) (hts (.fieldLink RX6 7 "PartGraphsModel" "parts" "[I") (by decide +kernel)) (fun _ h9 => h9) rfl dX6_read_65 ?_
          refine lv_iconst (v := 0) hx hb dX6_read_68 (by decide) ?_
          have hin := h.1
          have h := h.2
          refine va_iald (D := D) (cl := vwCl) hx hb hK hP 1 0 rfl rfl hin dX6_read_69 ?_
          exact W.iret (v := mp_26 (0 : Int32).toNatClampNeg) hx hb hr (fun t ht hW => ⟨⟨mp_26 (0 : Int32).toNatClampNeg, (mp_26, mk_27, mg_28, mc_29, mw_30, mf_31, mt_32, mh_33, mm_34, md_35, mnM, 0, faM, apM), rfl, h, by rw [ht]; exact hP, va_K.moved hW.alike hK, hD⟩, hS.F ht⟩) hS.2.2 dX6_read_70
        · have h := h.1 c_24
          refine lv_iconst (v := (-1)) hx hb dX6_read_53 (by decide) ?_
          refine lv_aload_n hx hb dX6_read_54 rfl (lv_at hl 0 rfl) ?_
          refine va_get (D := D) (ci := 5) (v := .int apM) (C := RX6) (T := TX6) (N := 18) hx hb hts (by decide +kernel) hown hK hP 0 rfl rfl 14 (by decide) (hts (.fieldLink RX6 92 "PartGraphsModel" "at" "I") (by decide +kernel)) (fun _ h9 => h9) rfl dX6_read_55 ?_
          refine lv_isub hx hb dX6_read_58 ?_
          exact W.iret (v := (-1) - apM) hx hb hr (fun t ht hW => ⟨⟨(-1) - apM, (mpM, mkM, mgM, mcM, mwM, mfM, mtM, mhM, mmM, mdM, mnM, 0, faM, apM), rfl, h, by rw [ht]; exact hP, va_K.moved hW.alike hK, hD⟩, hS.F ht⟩) hS.2.2 dX6_read_59
      · have h := h.2 c_23
        refine lv_aload_n hx hb dX6_read_36 rfl (lv_at hl 0 rfl) ?_
        have hFc := va_free (wc := (sh_M cs adM mpM mkM mgM mcM mwM mfM mtM mhM mmM mdM mxM mnM szM faM apM waM wrM fuM)) hD hS hA [0, 1, 2, 3, 4, 5, 6, 7, 8, 9, 10, 11, 12] rfl
        refine va_calli (va_runV (As := []) (rest := []) ⟨hx, hb, hml, hown, hts⟩ (met_X6_readSentence l D cs ev _ adM mpM mkM mgM mcM mwM mfM mtM mhM mmM mdM mxM mnM szM faM apM waM wrM fuM _ h) (cwV 0 hts gX6_read_X6_readSentence rfl rfl rfl (by decide +kernel) ⟨Nat.le_of_ble_eq_true rfl, Nat.le_of_ble_eq_true rfl⟩) (mPreV (va_recv hK hP (ci := 5) (q0 := 0) rfl rfl) hP hD hS hK hE hFc [0, 1, 2, 3, 4, 5, 6, 7, 8, 9, 10, 11, 12] (by decide) rfl) rfl rfl hl.1 rfl (lv_room (Nat.le_of_ble_eq_true rfl)) dX6_read_37 ⟨Nat.le_of_ble_eq_true rfl, Nat.le_of_ble_eq_true rfl⟩) hS (fun q _ h => hFc q h) hFc (fun r_36 u t H1 locs ht hvm hw hB hz1 hk1 hS => ?_)
        obtain ⟨mp_37, mk_38, mg_39, mc_40, mw_41, mf_42, mt_43, mh_44, mm_45, md_46, mn_47, ap_48⟩ := u
        have h := hw
        obtain ⟨hP1, hK1, hD1⟩ := hB
        rw [ht] at hP1
        obtain ⟨hP, hD⟩ := mJoin (wr := ([] : va_W)) (w1 := (sh_M cs adM mp_37 mk_38 mg_39 mc_40 mw_41 mf_42 mt_43 mh_44 mm_45 md_46 mxM mn_47 szM faM ap_48 waM wrM fuM)) (w' := (sh_M cs adM mp_37 mk_38 mg_39 mc_40 mw_41 mf_42 mt_43 mh_44 mm_45 md_46 mxM mn_47 szM faM ap_48 waM wrM fuM)) hP hD [0, 1, 2, 3, 4, 5, 6, 7, 8, 9, 10, 11, 12] [] rfl rfl (by decide) (by decide) hk1 hFc hP1 hD1 [0, 1, 2, 3, 4, 5, 6, 7, 8, 9, 10, 11, 12] (by decide) rfl
        generalize H1 = H at hP hS ⊢
        refine lv_istore_n (lv' := [(1, .int r_36), (0, .ref (adM 0))]) hx hb dX6_read_40 rfl hl (by decide) rfl (fun ls hl => ?_)
        refine lv_goto (tgt := 21) hx hb dX6_read_41 (by decide) ?_
        rw [hA21] at h
        exact h _ _ hP hD hS ls (lv_sub hl [1, 0] rfl)
  have h := h A21 s21
  refine lv_aload_n hx hb dX6_read_0 rfl (lv_at hl 0 rfl) ?_
  refine lv_iconst (v := 0) hx hb dX6_read_1 (by decide) ?_
  refine va_put (D := D) (ci := 5) (v := .int 0) (ty := .int) (C := RX6) (T := TX6) (N := 18) hx hb hts (by decide +kernel) tyX6 tyX6_ok nmX6 hown hK hP hD hS 0 rfl rfl 12 (by decide) (hts (.fieldLink RX6 52 "PartGraphsModel" "fault" "I") (by decide +kernel)) (fun _ h9 => h9) rfl (by decide +kernel) rfl rfl (Nat.le_of_ble_eq_true rfl) dX6_read_2 (fun H locs hP hD hS => ?_)
  have hP : va_P D vwCl (sh_M cs adM mpM mkM mgM mcM mwM mfM mtM mhM mmM mdM mxM mnM szM 0 apM waM wrM fuM) H := hP
  have hD : va_D A (sh_M cs adM mpM mkM mgM mcM mwM mfM mtM mhM mmM mdM mxM mnM szM 0 apM waM wrM fuM) := hD
  refine lv_aload_n hx hb dX6_read_5 rfl (lv_at hl 0 rfl) ?_
  refine lv_iconst (v := 1) hx hb dX6_read_6 (by decide) ?_
  have hFc := va_free (wc := (sh_M cs adM mpM mkM mgM mcM mwM mfM mtM mhM mmM mdM mxM mnM szM 0 apM waM wrM fuM)) hD hS hA [0, 1, 2, 3, 4, 5, 6, 7, 8, 9, 10, 11, 12] rfl
  refine va_callv (va_runV (As := [.int 1]) (rest := []) ⟨hx, hb, hml, hown, hts⟩ (met_X6_clear l D cs ev _ adM mpM mkM mgM mcM mwM mfM mtM mhM mmM mdM mxM mnM szM 0 apM waM wrM fuM 1 _ h) (cwV 1 hts gX6_read_X6_clear rfl rfl rfl (by decide +kernel) ⟨Nat.le_of_ble_eq_true rfl, Nat.le_of_ble_eq_true rfl⟩) (mPreV (va_recv hK hP (ci := 5) (q0 := 0) rfl rfl) hP hD hS hK hE hFc [0, 1, 2, 3, 4, 5, 6, 7, 8, 9, 10, 11, 12] (by decide) rfl) rfl rfl hl.1 rfl (lv_room (Nat.le_of_ble_eq_true rfl)) dX6_read_7 ⟨Nat.le_of_ble_eq_true rfl, Nat.le_of_ble_eq_true rfl⟩) hS (fun q _ h => hFc q h) hFc (fun u t H1 locs ht hvm hw hB hz1 hk1 hS => ?_)
  obtain ⟨mp_2, mc_3, mw_4, mf_5, mh_6, mm_7, md_8⟩ := u
  have h := hw
  obtain ⟨hP1, hK1, hD1⟩ := hB
  rw [ht] at hP1
  obtain ⟨hP, hD⟩ := mJoin (wr := ([] : va_W)) (w1 := (sh_M cs adM mp_2 mkM mgM mc_3 mw_4 mf_5 mtM mh_6 mm_7 md_8 mxM mnM szM 0 apM waM wrM fuM)) (w' := (sh_M cs adM mp_2 mkM mgM mc_3 mw_4 mf_5 mtM mh_6 mm_7 md_8 mxM mnM szM 0 apM waM wrM fuM)) hP hD [0, 1, 2, 3, 4, 5, 6, 7, 8, 9, 10, 11, 12] [] rfl rfl (by decide) (by decide) hk1 hFc hP1 hD1 [0, 1, 2, 3, 4, 5, 6, 7, 8, 9, 10, 11, 12] (by decide) rfl
  generalize H1 = H at hP hS ⊢
  refine lv_aload_n hx hb dX6_read_10 rfl (lv_at hl 0 rfl) ?_
  refine lv_aload_n hx hb dX6_read_11 rfl (lv_at hl 0 rfl) ?_
  refine lv_iconst (v := 0) hx hb dX6_read_12 (by decide) ?_
  have hFc := va_free (wc := (sh_M cs adM mp_2 mkM mgM mc_3 mw_4 mf_5 mtM mh_6 mm_7 md_8 mxM mnM szM 0 apM waM wrM fuM)) hD hS hA [0, 1, 2, 3, 4, 5, 6, 7, 8, 9, 10, 11, 12] rfl
  refine va_calli (va_runV (As := [.int 0]) (rest := [.ref (adM 0)]) ⟨hx, hb, hml, hown, hts⟩ (met_X6_wordBegin l D cs ev _ adM mp_2 mkM mgM mc_3 mw_4 mf_5 mtM mh_6 mm_7 md_8 mxM mnM szM 0 apM waM wrM fuM 0 _ h) (cwV 1 hts gX6_read_X6_wordBegin rfl rfl rfl (by decide +kernel) ⟨Nat.le_of_ble_eq_true rfl, Nat.le_of_ble_eq_true rfl⟩) (mPreV (va_recv hK hP (ci := 5) (q0 := 0) rfl rfl) hP hD hS hK hE hFc [0, 1, 2, 3, 4, 5, 6, 7, 8, 9, 10, 11, 12] (by decide) rfl) rfl rfl hl.1 rfl (lv_room (Nat.le_of_ble_eq_true rfl)) dX6_read_13 ⟨Nat.le_of_ble_eq_true rfl, Nat.le_of_ble_eq_true rfl⟩) hS (fun q _ h => hFc q h) hFc (fun r_9 u t H1 locs ht hvm hw hB hz1 hk1 hS => ?_)
  have h := hw
  obtain ⟨hP1, hK1, hD1⟩ := hB
  rw [ht] at hP1
  obtain ⟨hP, hD⟩ := mJoin (wr := ([] : va_W)) (w1 := (sh_M cs adM mp_2 mkM mgM mc_3 mw_4 mf_5 mtM mh_6 mm_7 md_8 mxM mnM szM 0 apM waM wrM fuM)) (w' := (sh_M cs adM mp_2 mkM mgM mc_3 mw_4 mf_5 mtM mh_6 mm_7 md_8 mxM mnM szM 0 apM waM wrM fuM)) hP hD [0, 1, 2, 3, 4, 5, 6, 7, 8, 9, 10, 11, 12] [] rfl rfl (by decide) (by decide) hk1 hFc hP1 hD1 [0, 1, 2, 3, 4, 5, 6, 7, 8, 9, 10, 11, 12] (by decide) rfl
  generalize H1 = H at hP hS ⊢
  refine va_put (D := D) (ci := 5) (v := .int r_9) (ty := .int) (C := RX6) (T := TX6) (N := 18) hx hb hts (by decide +kernel) tyX6 tyX6_ok nmX6 hown hK hP hD hS 0 rfl rfl 14 (by decide) (hts (.fieldLink RX6 92 "PartGraphsModel" "at" "I") (by decide +kernel)) (fun _ h9 => h9) rfl (by decide +kernel) rfl rfl (Nat.le_of_ble_eq_true rfl) dX6_read_16 (fun H locs hP hD hS => ?_)
  have hP : va_P D vwCl (sh_M cs adM mp_2 mkM mgM mc_3 mw_4 mf_5 mtM mh_6 mm_7 md_8 mxM mnM szM 0 r_9 waM wrM fuM) H := hP
  have hD : va_D A (sh_M cs adM mp_2 mkM mgM mc_3 mw_4 mf_5 mtM mh_6 mm_7 md_8 mxM mnM szM 0 r_9 waM wrM fuM) := hD
  refine lv_iconst (v := 1) hx hb dX6_read_19 (by decide) ?_
  refine lv_istore_n (lv' := [(1, .int 1), (0, .ref (adM 0))]) hx hb dX6_read_20 rfl hl (by decide) rfl (fun ls hl => ?_)
  rw [hA21] at h
  exact h _ _ hP hD hS ls (lv_sub hl [1, 0] rfl)
def wp_X6_part (mpM : Nat → Int32) (mkM : Nat → Int32) (mgM : Nat → Int32) (mcM : Nat → Int32) (mwM : Nat → Int32) (mfM : Nat → Int32) (mtM : Nat → Int32) (mhM : Nat → Int32) (mmM : Nat → Int32) (mdM : Nat → Int32) (p1 : Int32) (p2 : Int64) (post : Int32 → ((Nat → Int32) × (Nat → Int32) × (Nat → Int32) × (Nat → Int32) × (Nat → Int32) × (Nat → Int32) × (Nat → Int32) × (Nat → Int32) × (Nat → Int32) × (Nat → Int32) × Int32) → Prop) : Prop :=
    (((lg_cmp p2 0) < 0 → post (-1) (mpM, mkM, mgM, mcM, mwM, mfM, mtM, mhM, mmM, mdM, 0)) ∧ (¬ (lg_cmp p2 0) < 0 → ((0 < (lg_cmp p2 1000000) → post (-1) (mpM, mkM, mgM, mcM, mwM, mfM, mtM, mhM, mmM, mdM, 0)) ∧ (¬ 0 < (lg_cmp p2 1000000) → wp_X6_isAllowed mpM mcM mwM mfM mhM mmM 0 0 p1 p2.toInt32 0 (fun r_3 _ => ((r_3 = 0 → post (-1) (mpM, mkM, mgM, mcM, mwM, mfM, mtM, mhM, mmM, mdM, 0)) ∧ (¬ r_3 = 0 → wp_X6_make mpM mkM mgM mcM mwM mfM mtM mhM mmM mdM 0 0 p1 p2.toInt32 0 (fun u => match u with | (mp_6, mk_7, mg_8, mc_9, mw_10, mf_11, mt_12, mh_13, mm_14, md_15) => (vp_in 0 2 ∧ post ((mp_6 (0 : Int32).toNatClampNeg) - 1) (mp_6, mk_7, mg_8, mc_9, mw_10, mf_11, mt_12, mh_13, mm_14, md_15, 0))))))))))
set_option maxHeartbeats 4000000 in
set_option maxRecDepth 100000 in
theorem met_X6_part (l : Launch) (D : va_G) (cs : Nat → ClassId) (ev : Nat → Nat → Nat) (sz0 : Nat) (adM : Nat → Nat) (mpM : Nat → Int32) (mkM : Nat → Int32) (mgM : Nat → Int32) (mcM : Nat → Int32) (mwM : Nat → Int32) (mfM : Nat → Int32) (mtM : Nat → Int32) (mhM : Nat → Int32) (mmM : Nat → Int32) (mdM : Nat → Int32) (mxM : Nat → Int32) (mnM : Nat → Int32) (szM : Int32) (faM : Int32) (apM : Int32) (waM : Int32) (wrM : Int32) (fuM : Int32) (p1 : Int32) (p2 : Int64) (post : Int32 → ((Nat → Int32) × (Nat → Int32) × (Nat → Int32) × (Nat → Int32) × (Nat → Int32) × (Nat → Int32) × (Nat → Int32) × (Nat → Int32) × (Nat → Int32) × (Nat → Int32) × Int32) → Prop) (h : wp_X6_part mpM mkM mgM mcM mwM mfM mtM mhM mmM mdM p1 p2 post) : Met l yX6_part wsX6_part ({ frames := 2, cells := 0, slots := 0, locals := 48 }) (va_Pc [.ref (adM 0), .int p1, .long p2] (mPre D cs ev (sh_M cs adM mpM mkM mgM mcM mwM mfM mtM mhM mmM mdM mxM mnM szM faM apM waM wrM fuM) sz0)) (va_Qi post (fun u t => match u with | (mpM', mkM', mgM', mcM', mwM', mfM', mtM', mhM', mmM', mdM', faM') => mAt D cs (va_A (sh_M cs adM mpM mkM mgM mcM mwM mfM mtM mhM mmM mdM mxM mnM szM faM apM waM wrM fuM) sz0) (sh_M cs adM mpM' mkM' mgM' mcM' mwM' mfM' mtM' mhM' mmM' mdM' mxM mnM szM faM' apM waM wrM fuM) t) (va_A (sh_M cs adM mpM mkM mgM mcM mwM mfM mtM mhM mmM mdM mxM mnM szM faM apM waM wrM fuM) sz0)) 0 0 (va_A (sh_M cs adM mpM mkM mgM mcM mwM mfM mtM mhM mmM mdM mxM mnM szM faM apM waM wrM fuM) sz0) := by
  refine Met.ofW (cc := cX6_part) (maxL := 4) (ret := (some .int)) (by decide) rfl ?_
  intro p e s m args below meth c s₁ B hml hv
  obtain ⟨rfl, hsz, hP, hK, hD0, hE⟩ := hv
  have hx := B.exec
  have hb := B.bytes
  have hr := B.returns
  have hts := atoms_spec (ws := wsX6_part) B.pre
  have hown : s.vm.findClass RX6 = some m.cls := findClass_of_methodNamed B.named
  have hlocks := B.notSynchronized
  subst hsz
  have hD := hD0.self (sz := s.heap.size)
  generalize hAe : va_A (sh_M cs adM mpM mkM mgM mcM mwM mfM mtM mhM mmM mdM mxM mnM szM faM apM waM wrM fuM) s.heap.size = A at hD hE ⊢
  have hA : ∀ q : Nat, s.heap.size ≤ q → A q := fun q h => by rw [← hAe]; exact Or.inr h
  have hS : va_S A s.heap s.heap [] := va_S.rf
  have hl := lv_entry ([.ref (adM 0), .int p1, .long p2]) (n := 4) (Nat.le_of_ble_eq_true rfl)
  rw [lg_entry_eq]
  generalize (lg_sl ([.ref (adM 0), .int p1, .long p2]) ++ List.replicate (4 - (lg_sl ([.ref (adM 0), .int p1, .long p2])).length) Slot.unset).toArray = ls at hl ⊢
  have hl : lv_has ls 4 [(0, .ref (adM 0)), (1, .int p1), (2, .long p2)] := hl
  refine lv_aload_n hx hb dX6_part_0 rfl (lv_at hl 0 rfl) ?_
  refine lv_iconst (v := 0) hx hb dX6_part_1 (by decide) ?_
  refine va_put (D := D) (ci := 5) (v := .int 0) (ty := .int) (C := RX6) (T := TX6) (N := 18) hx hb hts (by decide +kernel) tyX6 tyX6_ok nmX6 hown hK hP hD hS 0 rfl rfl 12 (by decide) (hts (.fieldLink RX6 52 "PartGraphsModel" "fault" "I") (by decide +kernel)) (fun _ h9 => h9) rfl (by decide +kernel) rfl rfl (Nat.le_of_ble_eq_true rfl) dX6_part_2 (fun H locs hP hD hS => ?_)
  have hP : va_P D vwCl (sh_M cs adM mpM mkM mgM mcM mwM mfM mtM mhM mmM mdM mxM mnM szM 0 apM waM wrM fuM) H := hP
  have hD : va_D A (sh_M cs adM mpM mkM mgM mcM mwM mfM mtM mhM mmM mdM mxM mnM szM 0 apM waM wrM fuM) := hD
  refine lv_lload_n hx hb dX6_part_5 rfl (lv_at hl 2 rfl) ?_
  refine lv_lconst (v := 0) hx hb dX6_part_6 (by decide) ?_
  refine W.lcmp hx hb dX6_part_7 ?_
  refine lv_if_lt (tgt := 32) hx hb dX6_part_8 (by decide) (fun c_1 => ?_) (fun c_1 => ?_)
  · have h := h.1 c_1
    refine lv_iconst (v := (-1)) hx hb dX6_part_32 (by decide) ?_
    exact W.iret (v := (-1)) hx hb hr (fun t ht hW => ⟨⟨(-1), (mpM, mkM, mgM, mcM, mwM, mfM, mtM, mhM, mmM, mdM, 0), rfl, h, by rw [ht]; exact hP, va_K.moved hW.alike hK, hD⟩, hS.F ht⟩) hS.2.2 dX6_part_33
  · have h := h.2 c_1
    refine lv_lload_n hx hb dX6_part_11 rfl (lv_at hl 2 rfl) ?_
    refine lv_ldc2 (v := 1000000) hx hb hown (hts (.constantLong RX6 132 1000000) (by decide +kernel)) dX6_part_12 ?_
    refine W.lcmp hx hb dX6_part_15 ?_
    refine lv_if_gt (tgt := 32) hx hb dX6_part_16 (by decide) (fun c_2 => ?_) (fun c_2 => ?_)
    · have h := h.1 c_2
      refine lv_iconst (v := (-1)) hx hb dX6_part_32 (by decide) ?_
      exact W.iret (v := (-1)) hx hb hr (fun t ht hW => ⟨⟨(-1), (mpM, mkM, mgM, mcM, mwM, mfM, mtM, mhM, mmM, mdM, 0), rfl, h, by rw [ht]; exact hP, va_K.moved hW.alike hK, hD⟩, hS.F ht⟩) hS.2.2 dX6_part_33
    · have h := h.2 c_2
      refine lv_aload_n hx hb dX6_part_19 rfl (lv_at hl 0 rfl) ?_
      refine lv_iconst (v := 0) hx hb dX6_part_20 (by decide) ?_
      refine lv_iconst (v := 0) hx hb dX6_part_21 (by decide) ?_
      refine lv_iload_n hx hb dX6_part_22 rfl (lv_at hl 1 rfl) ?_
      refine lv_lload_n hx hb dX6_part_23 rfl (lv_at hl 2 rfl) ?_
      refine lv_l2i hx hb dX6_part_24 rfl ?_
      refine lv_iconst (v := 0) hx hb dX6_part_25 (by decide) ?_
      have hFc := va_free (wc := (sh_M cs adM mpM mkM mgM mcM mwM mfM mtM mhM mmM mdM mxM mnM szM 0 apM waM wrM fuM)) hD hS hA [0, 1, 2, 3, 4, 5, 6, 7, 8, 9, 10, 11, 12] rfl
      refine va_calli (va_runV (As := [.int 0, .int 0, .int p1, .int p2.toInt32, .int 0]) (rest := []) ⟨hx, hb, hml, hown, hts⟩ (met_X6_isAllowed l D cs ev _ adM mpM mkM mgM mcM mwM mfM mtM mhM mmM mdM mxM mnM szM 0 apM waM wrM fuM 0 0 p1 p2.toInt32 0 _ h) (cwV 5 hts gX6_part_X6_isAllowed rfl rfl rfl (by decide +kernel) ⟨Nat.le_of_ble_eq_true rfl, Nat.le_of_ble_eq_true rfl⟩) (mPreV (va_recv hK hP (ci := 5) (q0 := 0) rfl rfl) hP hD hS hK hE hFc [0, 1, 2, 3, 4, 5, 6, 7, 8, 9, 10, 11, 12] (by decide) rfl) rfl rfl hl.1 rfl (lv_room (Nat.le_of_ble_eq_true rfl)) dX6_part_26 ⟨Nat.le_of_ble_eq_true rfl, Nat.le_of_ble_eq_true rfl⟩) hS (fun q _ h => hFc q h) hFc (fun r_3 u t H1 locs ht hvm hw hB hz1 hk1 hS => ?_)
      have h := hw
      obtain ⟨hP1, hK1, hD1⟩ := hB
      rw [ht] at hP1
      obtain ⟨hP, hD⟩ := mJoin (wr := ([] : va_W)) (w1 := (sh_M cs adM mpM mkM mgM mcM mwM mfM mtM mhM mmM mdM mxM mnM szM 0 apM waM wrM fuM)) (w' := (sh_M cs adM mpM mkM mgM mcM mwM mfM mtM mhM mmM mdM mxM mnM szM 0 apM waM wrM fuM)) hP hD [0, 1, 2, 3, 4, 5, 6, 7, 8, 9, 10, 11, 12] [] rfl rfl (by decide) (by decide) hk1 hFc hP1 hD1 [0, 1, 2, 3, 4, 5, 6, 7, 8, 9, 10, 11, 12] (by decide) rfl
      generalize H1 = H at hP hS ⊢
      refine lv_if_ne (tgt := 34) hx hb dX6_part_29 (by decide) (fun c_4 => ?_) (fun c_4 => ?_)
      · have h := h.2 c_4
        refine lv_aload_n hx hb dX6_part_34 rfl (lv_at hl 0 rfl) ?_
        refine lv_iconst (v := 0) hx hb dX6_part_35 (by decide) ?_
        refine lv_iconst (v := 0) hx hb dX6_part_36 (by decide) ?_
        refine lv_iload_n hx hb dX6_part_37 rfl (lv_at hl 1 rfl) ?_
        refine lv_lload_n hx hb dX6_part_38 rfl (lv_at hl 2 rfl) ?_
        refine lv_l2i hx hb dX6_part_39 rfl ?_
        refine lv_iconst (v := 0) hx hb dX6_part_40 (by decide) ?_
        have hFc := va_free (wc := (sh_M cs adM mpM mkM mgM mcM mwM mfM mtM mhM mmM mdM mxM mnM szM 0 apM waM wrM fuM)) hD hS hA [0, 1, 2, 3, 4, 5, 6, 7, 8, 9, 10, 11, 12] rfl
        refine va_callv (va_runV (As := [.int 0, .int 0, .int p1, .int p2.toInt32, .int 0]) (rest := []) ⟨hx, hb, hml, hown, hts⟩ (met_X6_make l D cs ev _ adM mpM mkM mgM mcM mwM mfM mtM mhM mmM mdM mxM mnM szM 0 apM waM wrM fuM 0 0 p1 p2.toInt32 0 _ h) (cwV 5 hts gX6_part_X6_make rfl rfl rfl (by decide +kernel) ⟨Nat.le_of_ble_eq_true rfl, Nat.le_of_ble_eq_true rfl⟩) (mPreV (va_recv hK hP (ci := 5) (q0 := 0) rfl rfl) hP hD hS hK hE hFc [0, 1, 2, 3, 4, 5, 6, 7, 8, 9, 10, 11, 12] (by decide) rfl) rfl rfl hl.1 rfl (lv_room (Nat.le_of_ble_eq_true rfl)) dX6_part_41 ⟨Nat.le_of_ble_eq_true rfl, Nat.le_of_ble_eq_true rfl⟩) hS (fun q _ h => hFc q h) hFc (fun u t H1 locs ht hvm hw hB hz1 hk1 hS => ?_)
        obtain ⟨mp_6, mk_7, mg_8, mc_9, mw_10, mf_11, mt_12, mh_13, mm_14, md_15⟩ := u
        have h := hw
        obtain ⟨hP1, hK1, hD1⟩ := hB
        rw [ht] at hP1
        obtain ⟨hP, hD⟩ := mJoin (wr := ([] : va_W)) (w1 := (sh_M cs adM mp_6 mk_7 mg_8 mc_9 mw_10 mf_11 mt_12 mh_13 mm_14 md_15 mxM mnM szM 0 apM waM wrM fuM)) (w' := (sh_M cs adM mp_6 mk_7 mg_8 mc_9 mw_10 mf_11 mt_12 mh_13 mm_14 md_15 mxM mnM szM 0 apM waM wrM fuM)) hP hD [0, 1, 2, 3, 4, 5, 6, 7, 8, 9, 10, 11, 12] [] rfl rfl (by decide) (by decide) hk1 hFc hP1 hD1 [0, 1, 2, 3, 4, 5, 6, 7, 8, 9, 10, 11, 12] (by decide) rfl
        generalize H1 = H at hP hS ⊢
        refine lv_aload_n hx hb dX6_part_44 rfl (lv_at hl 0 rfl) ?_
        refine va_get (D := D) (ci := 5) (v := .ref (adM 1)) (C := RX6) (T := TX6) (N := 18) hx hb hts (by decide +kernel) hown hK hP 0 rfl rfl 0 (by decide) (hts (.fieldLink RX6 7 "PartGraphsModel" "parts" "[I") (by decide +kernel)) (fun _ h9 => h9) rfl dX6_part_45 ?_
        refine lv_iconst (v := 0) hx hb dX6_part_48 (by decide) ?_
        have hin := h.1
        have h := h.2
        refine va_iald (D := D) (cl := vwCl) hx hb hK hP 1 0 rfl rfl hin dX6_part_49 ?_
        refine lv_iconst (v := 1) hx hb dX6_part_50 (by decide) ?_
        refine lv_isub hx hb dX6_part_51 ?_
        exact W.iret (v := (mp_6 (0 : Int32).toNatClampNeg) - 1) hx hb hr (fun t ht hW => ⟨⟨(mp_6 (0 : Int32).toNatClampNeg) - 1, (mp_6, mk_7, mg_8, mc_9, mw_10, mf_11, mt_12, mh_13, mm_14, md_15, 0), rfl, h, by rw [ht]; exact hP, va_K.moved hW.alike hK, hD⟩, hS.F ht⟩) hS.2.2 dX6_part_52
      · have h := h.1 c_4
        refine lv_iconst (v := (-1)) hx hb dX6_part_32 (by decide) ?_
        exact W.iret (v := (-1)) hx hb hr (fun t ht hW => ⟨⟨(-1), (mpM, mkM, mgM, mcM, mwM, mfM, mtM, mhM, mmM, mdM, 0), rfl, h, by rw [ht]; exact hP, va_K.moved hW.alike hK, hD⟩, hS.F ht⟩) hS.2.2 dX6_part_33
def wp_X6_fasten (mpM : Nat → Int32) (mkM : Nat → Int32) (mgM : Nat → Int32) (mcM : Nat → Int32) (mwM : Nat → Int32) (mfM : Nat → Int32) (mtM : Nat → Int32) (mhM : Nat → Int32) (mmM : Nat → Int32) (mdM : Nat → Int32) (p1 : Int32) (p2 : Int32) (p3 : Int32) (post : Int32 → ((Nat → Int32) × (Nat → Int32) × (Nat → Int32) × (Nat → Int32) × (Nat → Int32) × (Nat → Int32) × (Nat → Int32) × (Nat → Int32) × (Nat → Int32) × (Nat → Int32) × Int32) → Prop) : Prop :=
    wp_X6_isAllowed mpM mcM mwM mfM mhM mmM 0 3 p1 p2 p3 (fun r_1 _ => ((r_1 = 0 → post (-1) (mpM, mkM, mgM, mcM, mwM, mfM, mtM, mhM, mmM, mdM, 0)) ∧ (¬ r_1 = 0 → wp_X6_make mpM mkM mgM mcM mwM mfM mtM mhM mmM mdM 0 3 p1 p2 p3 (fun u => match u with | (mp_4, mk_5, mg_6, mc_7, mw_8, mf_9, mt_10, mh_11, mm_12, md_13) => (vp_in 0 2 ∧ post ((mf_9 (0 : Int32).toNatClampNeg) - 1) (mp_4, mk_5, mg_6, mc_7, mw_8, mf_9, mt_10, mh_11, mm_12, md_13, 0))))))
set_option maxHeartbeats 4000000 in
set_option maxRecDepth 100000 in
theorem met_X6_fasten (l : Launch) (D : va_G) (cs : Nat → ClassId) (ev : Nat → Nat → Nat) (sz0 : Nat) (adM : Nat → Nat) (mpM : Nat → Int32) (mkM : Nat → Int32) (mgM : Nat → Int32) (mcM : Nat → Int32) (mwM : Nat → Int32) (mfM : Nat → Int32) (mtM : Nat → Int32) (mhM : Nat → Int32) (mmM : Nat → Int32) (mdM : Nat → Int32) (mxM : Nat → Int32) (mnM : Nat → Int32) (szM : Int32) (faM : Int32) (apM : Int32) (waM : Int32) (wrM : Int32) (fuM : Int32) (p1 : Int32) (p2 : Int32) (p3 : Int32) (post : Int32 → ((Nat → Int32) × (Nat → Int32) × (Nat → Int32) × (Nat → Int32) × (Nat → Int32) × (Nat → Int32) × (Nat → Int32) × (Nat → Int32) × (Nat → Int32) × (Nat → Int32) × Int32) → Prop) (h : wp_X6_fasten mpM mkM mgM mcM mwM mfM mtM mhM mmM mdM p1 p2 p3 post) : Met l yX6_fasten wsX6_fasten ({ frames := 2, cells := 0, slots := 0, locals := 48 }) (va_Pc [.ref (adM 0), .int p1, .int p2, .int p3] (mPre D cs ev (sh_M cs adM mpM mkM mgM mcM mwM mfM mtM mhM mmM mdM mxM mnM szM faM apM waM wrM fuM) sz0)) (va_Qi post (fun u t => match u with | (mpM', mkM', mgM', mcM', mwM', mfM', mtM', mhM', mmM', mdM', faM') => mAt D cs (va_A (sh_M cs adM mpM mkM mgM mcM mwM mfM mtM mhM mmM mdM mxM mnM szM faM apM waM wrM fuM) sz0) (sh_M cs adM mpM' mkM' mgM' mcM' mwM' mfM' mtM' mhM' mmM' mdM' mxM mnM szM faM' apM waM wrM fuM) t) (va_A (sh_M cs adM mpM mkM mgM mcM mwM mfM mtM mhM mmM mdM mxM mnM szM faM apM waM wrM fuM) sz0)) 0 0 (va_A (sh_M cs adM mpM mkM mgM mcM mwM mfM mtM mhM mmM mdM mxM mnM szM faM apM waM wrM fuM) sz0) := by
  refine Met.ofW (cc := cX6_fasten) (maxL := 4) (ret := (some .int)) (by decide) rfl ?_
  intro p e s m args below meth c s₁ B hml hv
  obtain ⟨rfl, hsz, hP, hK, hD0, hE⟩ := hv
  have hx := B.exec
  have hb := B.bytes
  have hr := B.returns
  have hts := atoms_spec (ws := wsX6_fasten) B.pre
  have hown : s.vm.findClass RX6 = some m.cls := findClass_of_methodNamed B.named
  have hlocks := B.notSynchronized
  subst hsz
  have hD := hD0.self (sz := s.heap.size)
  generalize hAe : va_A (sh_M cs adM mpM mkM mgM mcM mwM mfM mtM mhM mmM mdM mxM mnM szM faM apM waM wrM fuM) s.heap.size = A at hD hE ⊢
  have hA : ∀ q : Nat, s.heap.size ≤ q → A q := fun q h => by rw [← hAe]; exact Or.inr h
  have hS : va_S A s.heap s.heap [] := va_S.rf
  have hl := lv_entry ([.ref (adM 0), .int p1, .int p2, .int p3]) (n := 4) (Nat.le_of_ble_eq_true rfl)
  rw [lg_entry_eq]
  generalize (lg_sl ([.ref (adM 0), .int p1, .int p2, .int p3]) ++ List.replicate (4 - (lg_sl ([.ref (adM 0), .int p1, .int p2, .int p3])).length) Slot.unset).toArray = ls at hl ⊢
  have hl : lv_has ls 4 [(0, .ref (adM 0)), (1, .int p1), (2, .int p2), (3, .int p3)] := hl
  refine lv_aload_n hx hb dX6_fasten_0 rfl (lv_at hl 0 rfl) ?_
  refine lv_iconst (v := 0) hx hb dX6_fasten_1 (by decide) ?_
  refine va_put (D := D) (ci := 5) (v := .int 0) (ty := .int) (C := RX6) (T := TX6) (N := 18) hx hb hts (by decide +kernel) tyX6 tyX6_ok nmX6 hown hK hP hD hS 0 rfl rfl 12 (by decide) (hts (.fieldLink RX6 52 "PartGraphsModel" "fault" "I") (by decide +kernel)) (fun _ h9 => h9) rfl (by decide +kernel) rfl rfl (Nat.le_of_ble_eq_true rfl) dX6_fasten_2 (fun H locs hP hD hS => ?_)
  have hP : va_P D vwCl (sh_M cs adM mpM mkM mgM mcM mwM mfM mtM mhM mmM mdM mxM mnM szM 0 apM waM wrM fuM) H := hP
  have hD : va_D A (sh_M cs adM mpM mkM mgM mcM mwM mfM mtM mhM mmM mdM mxM mnM szM 0 apM waM wrM fuM) := hD
  refine lv_aload_n hx hb dX6_fasten_5 rfl (lv_at hl 0 rfl) ?_
  refine lv_iconst (v := 0) hx hb dX6_fasten_6 (by decide) ?_
  refine lv_iconst (v := 3) hx hb dX6_fasten_7 (by decide) ?_
  refine lv_iload_n hx hb dX6_fasten_8 rfl (lv_at hl 1 rfl) ?_
  refine lv_iload_n hx hb dX6_fasten_9 rfl (lv_at hl 2 rfl) ?_
  refine lv_iload_n hx hb dX6_fasten_10 rfl (lv_at hl 3 rfl) ?_
  have hFc := va_free (wc := (sh_M cs adM mpM mkM mgM mcM mwM mfM mtM mhM mmM mdM mxM mnM szM 0 apM waM wrM fuM)) hD hS hA [0, 1, 2, 3, 4, 5, 6, 7, 8, 9, 10, 11, 12] rfl
  refine va_calli (va_runV (As := [.int 0, .int 3, .int p1, .int p2, .int p3]) (rest := []) ⟨hx, hb, hml, hown, hts⟩ (met_X6_isAllowed l D cs ev _ adM mpM mkM mgM mcM mwM mfM mtM mhM mmM mdM mxM mnM szM 0 apM waM wrM fuM 0 3 p1 p2 p3 _ h) (cwV 5 hts gX6_fasten_X6_isAllowed rfl rfl rfl (by decide +kernel) ⟨Nat.le_of_ble_eq_true rfl, Nat.le_of_ble_eq_true rfl⟩) (mPreV (va_recv hK hP (ci := 5) (q0 := 0) rfl rfl) hP hD hS hK hE hFc [0, 1, 2, 3, 4, 5, 6, 7, 8, 9, 10, 11, 12] (by decide) rfl) rfl rfl hl.1 rfl (lv_room (Nat.le_of_ble_eq_true rfl)) dX6_fasten_11 ⟨Nat.le_of_ble_eq_true rfl, Nat.le_of_ble_eq_true rfl⟩) hS (fun q _ h => hFc q h) hFc (fun r_1 u t H1 locs ht hvm hw hB hz1 hk1 hS => ?_)
  have h := hw
  obtain ⟨hP1, hK1, hD1⟩ := hB
  rw [ht] at hP1
  obtain ⟨hP, hD⟩ := mJoin (wr := ([] : va_W)) (w1 := (sh_M cs adM mpM mkM mgM mcM mwM mfM mtM mhM mmM mdM mxM mnM szM 0 apM waM wrM fuM)) (w' := (sh_M cs adM mpM mkM mgM mcM mwM mfM mtM mhM mmM mdM mxM mnM szM 0 apM waM wrM fuM)) hP hD [0, 1, 2, 3, 4, 5, 6, 7, 8, 9, 10, 11, 12] [] rfl rfl (by decide) (by decide) hk1 hFc hP1 hD1 [0, 1, 2, 3, 4, 5, 6, 7, 8, 9, 10, 11, 12] (by decide) rfl
  generalize H1 = H at hP hS ⊢
  refine lv_if_ne (tgt := 19) hx hb dX6_fasten_14 (by decide) (fun c_2 => ?_) (fun c_2 => ?_)
  · have h := h.2 c_2
    refine lv_aload_n hx hb dX6_fasten_19 rfl (lv_at hl 0 rfl) ?_
    refine lv_iconst (v := 0) hx hb dX6_fasten_20 (by decide) ?_
    refine lv_iconst (v := 3) hx hb dX6_fasten_21 (by decide) ?_
    refine lv_iload_n hx hb dX6_fasten_22 rfl (lv_at hl 1 rfl) ?_
    refine lv_iload_n hx hb dX6_fasten_23 rfl (lv_at hl 2 rfl) ?_
    refine lv_iload_n hx hb dX6_fasten_24 rfl (lv_at hl 3 rfl) ?_
    have hFc := va_free (wc := (sh_M cs adM mpM mkM mgM mcM mwM mfM mtM mhM mmM mdM mxM mnM szM 0 apM waM wrM fuM)) hD hS hA [0, 1, 2, 3, 4, 5, 6, 7, 8, 9, 10, 11, 12] rfl
    refine va_callv (va_runV (As := [.int 0, .int 3, .int p1, .int p2, .int p3]) (rest := []) ⟨hx, hb, hml, hown, hts⟩ (met_X6_make l D cs ev _ adM mpM mkM mgM mcM mwM mfM mtM mhM mmM mdM mxM mnM szM 0 apM waM wrM fuM 0 3 p1 p2 p3 _ h) (cwV 5 hts gX6_fasten_X6_make rfl rfl rfl (by decide +kernel) ⟨Nat.le_of_ble_eq_true rfl, Nat.le_of_ble_eq_true rfl⟩) (mPreV (va_recv hK hP (ci := 5) (q0 := 0) rfl rfl) hP hD hS hK hE hFc [0, 1, 2, 3, 4, 5, 6, 7, 8, 9, 10, 11, 12] (by decide) rfl) rfl rfl hl.1 rfl (lv_room (Nat.le_of_ble_eq_true rfl)) dX6_fasten_25 ⟨Nat.le_of_ble_eq_true rfl, Nat.le_of_ble_eq_true rfl⟩) hS (fun q _ h => hFc q h) hFc (fun u t H1 locs ht hvm hw hB hz1 hk1 hS => ?_)
    obtain ⟨mp_4, mk_5, mg_6, mc_7, mw_8, mf_9, mt_10, mh_11, mm_12, md_13⟩ := u
    have h := hw
    obtain ⟨hP1, hK1, hD1⟩ := hB
    rw [ht] at hP1
    obtain ⟨hP, hD⟩ := mJoin (wr := ([] : va_W)) (w1 := (sh_M cs adM mp_4 mk_5 mg_6 mc_7 mw_8 mf_9 mt_10 mh_11 mm_12 md_13 mxM mnM szM 0 apM waM wrM fuM)) (w' := (sh_M cs adM mp_4 mk_5 mg_6 mc_7 mw_8 mf_9 mt_10 mh_11 mm_12 md_13 mxM mnM szM 0 apM waM wrM fuM)) hP hD [0, 1, 2, 3, 4, 5, 6, 7, 8, 9, 10, 11, 12] [] rfl rfl (by decide) (by decide) hk1 hFc hP1 hD1 [0, 1, 2, 3, 4, 5, 6, 7, 8, 9, 10, 11, 12] (by decide) rfl
    generalize H1 = H at hP hS ⊢
    refine lv_aload_n hx hb dX6_fasten_28 rfl (lv_at hl 0 rfl) ?_
    refine va_get (D := D) (ci := 5) (v := .ref (adM 6)) (C := RX6) (T := TX6) (N := 18) hx hb hts (by decide +kernel) hown hK hP 0 rfl rfl 5 (by decide) (hts (.fieldLink RX6 26 "PartGraphsModel" "fastenings" "[I") (by decide +kernel)) (fun _ h9 => h9) rfl dX6_fasten_29 ?_
    refine lv_iconst (v := 0) hx hb dX6_fasten_32 (by decide) ?_
    have hin := h.1
    have h := h.2
    refine va_iald (D := D) (cl := vwCl) hx hb hK hP 6 0 rfl rfl hin dX6_fasten_33 ?_
    refine lv_iconst (v := 1) hx hb dX6_fasten_34 (by decide) ?_
    refine lv_isub hx hb dX6_fasten_35 ?_
    exact W.iret (v := (mf_9 (0 : Int32).toNatClampNeg) - 1) hx hb hr (fun t ht hW => ⟨⟨(mf_9 (0 : Int32).toNatClampNeg) - 1, (mp_4, mk_5, mg_6, mc_7, mw_8, mf_9, mt_10, mh_11, mm_12, md_13, 0), rfl, h, by rw [ht]; exact hP, va_K.moved hW.alike hK, hD⟩, hS.F ht⟩) hS.2.2 dX6_fasten_36
  · have h := h.1 c_2
    refine lv_iconst (v := (-1)) hx hb dX6_fasten_17 (by decide) ?_
    exact W.iret (v := (-1)) hx hb hr (fun t ht hW => ⟨⟨(-1), (mpM, mkM, mgM, mcM, mwM, mfM, mtM, mhM, mmM, mdM, 0), rfl, h, by rw [ht]; exact hP, va_K.moved hW.alike hK, hD⟩, hS.F ht⟩) hS.2.2 dX6_fasten_18
def wp_X6_tell (mpM : Nat → Int32) (mkM : Nat → Int32) (mgM : Nat → Int32) (mcM : Nat → Int32) (mwM : Nat → Int32) (mfM : Nat → Int32) (mtM : Nat → Int32) (mhM : Nat → Int32) (mmM : Nat → Int32) (mdM : Nat → Int32) (p1 : Int32) (p2 : Int32) (p3 : Int32) (p4 : Int32) (post : Int32 → ((Nat → Int32) × (Nat → Int32) × (Nat → Int32) × (Nat → Int32) × (Nat → Int32) × (Nat → Int32) × (Nat → Int32) × (Nat → Int32) × (Nat → Int32) × (Nat → Int32)) → Prop) : Prop :=
    wp_X6_isAllowed mpM mcM mwM mfM mhM mmM 0 p1 p2 p3 p4 (fun r_1 _ => ((r_1 = 0 → (narrow .boolean (.int r_1) = .int r_1 ∧ post r_1 (mpM, mkM, mgM, mcM, mwM, mfM, mtM, mhM, mmM, mdM))) ∧ (¬ r_1 = 0 → wp_X6_make mpM mkM mgM mcM mwM mfM mtM mhM mmM mdM 0 p1 p2 p3 p4 (fun u => match u with | (mp_4, mk_5, mg_6, mc_7, mw_8, mf_9, mt_10, mh_11, mm_12, md_13) => (narrow .boolean (.int r_1) = .int r_1 ∧ post r_1 (mp_4, mk_5, mg_6, mc_7, mw_8, mf_9, mt_10, mh_11, mm_12, md_13))))))
set_option maxHeartbeats 4000000 in
set_option maxRecDepth 100000 in
theorem met_X6_tell (l : Launch) (D : va_G) (cs : Nat → ClassId) (ev : Nat → Nat → Nat) (sz0 : Nat) (adM : Nat → Nat) (mpM : Nat → Int32) (mkM : Nat → Int32) (mgM : Nat → Int32) (mcM : Nat → Int32) (mwM : Nat → Int32) (mfM : Nat → Int32) (mtM : Nat → Int32) (mhM : Nat → Int32) (mmM : Nat → Int32) (mdM : Nat → Int32) (mxM : Nat → Int32) (mnM : Nat → Int32) (szM : Int32) (faM : Int32) (apM : Int32) (waM : Int32) (wrM : Int32) (fuM : Int32) (p1 : Int32) (p2 : Int32) (p3 : Int32) (p4 : Int32) (post : Int32 → ((Nat → Int32) × (Nat → Int32) × (Nat → Int32) × (Nat → Int32) × (Nat → Int32) × (Nat → Int32) × (Nat → Int32) × (Nat → Int32) × (Nat → Int32) × (Nat → Int32)) → Prop) (h : wp_X6_tell mpM mkM mgM mcM mwM mfM mtM mhM mmM mdM p1 p2 p3 p4 post) : Met l yX6_tell wsX6_tell ({ frames := 2, cells := 0, slots := 0, locals := 48 }) (va_Pc [.ref (adM 0), .int p1, .int p2, .int p3, .int p4] (mPre D cs ev (sh_M cs adM mpM mkM mgM mcM mwM mfM mtM mhM mmM mdM mxM mnM szM faM apM waM wrM fuM) sz0)) (va_Qi post (fun u t => match u with | (mpM', mkM', mgM', mcM', mwM', mfM', mtM', mhM', mmM', mdM') => mAt D cs (va_A (sh_M cs adM mpM mkM mgM mcM mwM mfM mtM mhM mmM mdM mxM mnM szM faM apM waM wrM fuM) sz0) (sh_M cs adM mpM' mkM' mgM' mcM' mwM' mfM' mtM' mhM' mmM' mdM' mxM mnM szM faM apM waM wrM fuM) t) (va_A (sh_M cs adM mpM mkM mgM mcM mwM mfM mtM mhM mmM mdM mxM mnM szM faM apM waM wrM fuM) sz0)) 0 0 (va_A (sh_M cs adM mpM mkM mgM mcM mwM mfM mtM mhM mmM mdM mxM mnM szM faM apM waM wrM fuM) sz0) := by
  refine Met.ofW (cc := cX6_tell) (maxL := 6) (ret := (some .boolean)) (by decide) rfl ?_
  intro p e s m args below meth c s₁ B hml hv
  obtain ⟨rfl, hsz, hP, hK, hD0, hE⟩ := hv
  have hx := B.exec
  have hb := B.bytes
  have hr := B.returns
  have hts := atoms_spec (ws := wsX6_tell) B.pre
  have hown : s.vm.findClass RX6 = some m.cls := findClass_of_methodNamed B.named
  have hlocks := B.notSynchronized
  subst hsz
  have hD := hD0.self (sz := s.heap.size)
  generalize hAe : va_A (sh_M cs adM mpM mkM mgM mcM mwM mfM mtM mhM mmM mdM mxM mnM szM faM apM waM wrM fuM) s.heap.size = A at hD hE ⊢
  have hA : ∀ q : Nat, s.heap.size ≤ q → A q := fun q h => by rw [← hAe]; exact Or.inr h
  have hS : va_S A s.heap s.heap [] := va_S.rf
  have hl := lv_entry ([.ref (adM 0), .int p1, .int p2, .int p3, .int p4]) (n := 6) (Nat.le_of_ble_eq_true rfl)
  rw [lg_entry_eq]
  generalize (lg_sl ([.ref (adM 0), .int p1, .int p2, .int p3, .int p4]) ++ List.replicate (6 - (lg_sl ([.ref (adM 0), .int p1, .int p2, .int p3, .int p4])).length) Slot.unset).toArray = ls at hl ⊢
  have hl : lv_has ls 6 [(0, .ref (adM 0)), (1, .int p1), (2, .int p2), (3, .int p3), (4, .int p4)] := hl
  refine lv_aload_n hx hb dX6_tell_0 rfl (lv_at hl 0 rfl) ?_
  refine lv_iconst (v := 0) hx hb dX6_tell_1 (by decide) ?_
  refine lv_iload_n hx hb dX6_tell_2 rfl (lv_at hl 1 rfl) ?_
  refine lv_iload_n hx hb dX6_tell_3 rfl (lv_at hl 2 rfl) ?_
  refine lv_iload_n hx hb dX6_tell_4 rfl (lv_at hl 3 rfl) ?_
  refine lv_iload hx hb dX6_tell_5 (lv_at hl 4 rfl) ?_
  have hFc := va_free (wc := (sh_M cs adM mpM mkM mgM mcM mwM mfM mtM mhM mmM mdM mxM mnM szM faM apM waM wrM fuM)) hD hS hA [0, 1, 2, 3, 4, 5, 6, 7, 8, 9, 10, 11, 12] rfl
  refine va_calli (va_runV (As := [.int 0, .int p1, .int p2, .int p3, .int p4]) (rest := []) ⟨hx, hb, hml, hown, hts⟩ (met_X6_isAllowed l D cs ev _ adM mpM mkM mgM mcM mwM mfM mtM mhM mmM mdM mxM mnM szM faM apM waM wrM fuM 0 p1 p2 p3 p4 _ h) (cwV 5 hts gX6_tell_X6_isAllowed rfl rfl rfl (by decide +kernel) ⟨Nat.le_of_ble_eq_true rfl, Nat.le_of_ble_eq_true rfl⟩) (mPreV (va_recv hK hP (ci := 5) (q0 := 0) rfl rfl) hP hD hS hK hE hFc [0, 1, 2, 3, 4, 5, 6, 7, 8, 9, 10, 11, 12] (by decide) rfl) rfl rfl hl.1 rfl (lv_room (Nat.le_of_ble_eq_true rfl)) dX6_tell_7 ⟨Nat.le_of_ble_eq_true rfl, Nat.le_of_ble_eq_true rfl⟩) hS (fun q _ h => hFc q h) hFc (fun r_1 u t H1 locs ht hvm hw hB hz1 hk1 hS => ?_)
  have h := hw
  obtain ⟨hP1, hK1, hD1⟩ := hB
  rw [ht] at hP1
  obtain ⟨hP, hD⟩ := mJoin (wr := ([] : va_W)) (w1 := (sh_M cs adM mpM mkM mgM mcM mwM mfM mtM mhM mmM mdM mxM mnM szM faM apM waM wrM fuM)) (w' := (sh_M cs adM mpM mkM mgM mcM mwM mfM mtM mhM mmM mdM mxM mnM szM faM apM waM wrM fuM)) hP hD [0, 1, 2, 3, 4, 5, 6, 7, 8, 9, 10, 11, 12] [] rfl rfl (by decide) (by decide) hk1 hFc hP1 hD1 [0, 1, 2, 3, 4, 5, 6, 7, 8, 9, 10, 11, 12] (by decide) rfl
  generalize H1 = H at hP hS ⊢
  refine lv_istore (lv' := [(5, .int r_1), (0, .ref (adM 0)), (1, .int p1), (2, .int p2), (3, .int p3), (4, .int p4)]) hx hb dX6_tell_10 hl (by decide) rfl (fun ls hl => ?_)
  refine lv_iload hx hb dX6_tell_12 (lv_at hl 0 rfl) ?_
  refine lv_if_eq (tgt := 27) hx hb dX6_tell_14 (by decide) (fun c_2 => ?_) (fun c_2 => ?_)
  · have h := h.1 c_2
    refine lv_iload hx hb dX6_tell_27 (lv_at hl 0 rfl) ?_
    have hn := h.1
    have h := h.2
    exact W.zret (v := r_1) hx hb hr hn (fun t ht hW => ⟨⟨r_1, (mpM, mkM, mgM, mcM, mwM, mfM, mtM, mhM, mmM, mdM), rfl, h, by rw [ht]; exact hP, va_K.moved hW.alike hK, hD⟩, hS.F ht⟩) hS.2.2 dX6_tell_29
  · have h := h.2 c_2
    refine lv_aload_n hx hb dX6_tell_17 rfl (lv_at hl 1 rfl) ?_
    refine lv_iconst (v := 0) hx hb dX6_tell_18 (by decide) ?_
    refine lv_iload_n hx hb dX6_tell_19 rfl (lv_at hl 2 rfl) ?_
    refine lv_iload_n hx hb dX6_tell_20 rfl (lv_at hl 3 rfl) ?_
    refine lv_iload_n hx hb dX6_tell_21 rfl (lv_at hl 4 rfl) ?_
    refine lv_iload hx hb dX6_tell_22 (lv_at hl 5 rfl) ?_
    have hFc := va_free (wc := (sh_M cs adM mpM mkM mgM mcM mwM mfM mtM mhM mmM mdM mxM mnM szM faM apM waM wrM fuM)) hD hS hA [0, 1, 2, 3, 4, 5, 6, 7, 8, 9, 10, 11, 12] rfl
    refine va_callv (va_runV (As := [.int 0, .int p1, .int p2, .int p3, .int p4]) (rest := []) ⟨hx, hb, hml, hown, hts⟩ (met_X6_make l D cs ev _ adM mpM mkM mgM mcM mwM mfM mtM mhM mmM mdM mxM mnM szM faM apM waM wrM fuM 0 p1 p2 p3 p4 _ h) (cwV 5 hts gX6_tell_X6_make rfl rfl rfl (by decide +kernel) ⟨Nat.le_of_ble_eq_true rfl, Nat.le_of_ble_eq_true rfl⟩) (mPreV (va_recv hK hP (ci := 5) (q0 := 0) rfl rfl) hP hD hS hK hE hFc [0, 1, 2, 3, 4, 5, 6, 7, 8, 9, 10, 11, 12] (by decide) rfl) rfl rfl hl.1 rfl (lv_room (Nat.le_of_ble_eq_true rfl)) dX6_tell_24 ⟨Nat.le_of_ble_eq_true rfl, Nat.le_of_ble_eq_true rfl⟩) hS (fun q _ h => hFc q h) hFc (fun u t H1 locs ht hvm hw hB hz1 hk1 hS => ?_)
    obtain ⟨mp_4, mk_5, mg_6, mc_7, mw_8, mf_9, mt_10, mh_11, mm_12, md_13⟩ := u
    have h := hw
    obtain ⟨hP1, hK1, hD1⟩ := hB
    rw [ht] at hP1
    obtain ⟨hP, hD⟩ := mJoin (wr := ([] : va_W)) (w1 := (sh_M cs adM mp_4 mk_5 mg_6 mc_7 mw_8 mf_9 mt_10 mh_11 mm_12 md_13 mxM mnM szM faM apM waM wrM fuM)) (w' := (sh_M cs adM mp_4 mk_5 mg_6 mc_7 mw_8 mf_9 mt_10 mh_11 mm_12 md_13 mxM mnM szM faM apM waM wrM fuM)) hP hD [0, 1, 2, 3, 4, 5, 6, 7, 8, 9, 10, 11, 12] [] rfl rfl (by decide) (by decide) hk1 hFc hP1 hD1 [0, 1, 2, 3, 4, 5, 6, 7, 8, 9, 10, 11, 12] (by decide) rfl
    generalize H1 = H at hP hS ⊢
    refine lv_iload hx hb dX6_tell_27 (lv_at hl 0 rfl) ?_
    have hn := h.1
    have h := h.2
    exact W.zret (v := r_1) hx hb hr hn (fun t ht hW => ⟨⟨r_1, (mp_4, mk_5, mg_6, mc_7, mw_8, mf_9, mt_10, mh_11, mm_12, md_13), rfl, h, by rw [ht]; exact hP, va_K.moved hW.alike hK, hD⟩, hS.F ht⟩) hS.2.2 dX6_tell_29
def wp_X6_cover (mpM : Nat → Int32) (mkM : Nat → Int32) (mgM : Nat → Int32) (mcM : Nat → Int32) (mwM : Nat → Int32) (mfM : Nat → Int32) (mtM : Nat → Int32) (mhM : Nat → Int32) (mmM : Nat → Int32) (mdM : Nat → Int32) (p1 : Int32) (p2 : Int32) (post : Int32 → ((Nat → Int32) × (Nat → Int32) × (Nat → Int32) × (Nat → Int32) × (Nat → Int32) × (Nat → Int32) × (Nat → Int32) × (Nat → Int32) × (Nat → Int32) × (Nat → Int32) × Int32) → Prop) : Prop :=
    wp_X6_tell mpM mkM mgM mcM mwM mfM mtM mhM mmM mdM 1 p1 p2 0 (fun r_1 u => match u with | (mp_2, mk_3, mg_4, mc_5, mw_6, mf_7, mt_8, mh_9, mm_10, md_11) => (narrow .boolean (.int r_1) = .int r_1 ∧ post r_1 (mp_2, mk_3, mg_4, mc_5, mw_6, mf_7, mt_8, mh_9, mm_10, md_11, 0)))
set_option maxHeartbeats 4000000 in
set_option maxRecDepth 100000 in
theorem met_X6_cover (l : Launch) (D : va_G) (cs : Nat → ClassId) (ev : Nat → Nat → Nat) (sz0 : Nat) (adM : Nat → Nat) (mpM : Nat → Int32) (mkM : Nat → Int32) (mgM : Nat → Int32) (mcM : Nat → Int32) (mwM : Nat → Int32) (mfM : Nat → Int32) (mtM : Nat → Int32) (mhM : Nat → Int32) (mmM : Nat → Int32) (mdM : Nat → Int32) (mxM : Nat → Int32) (mnM : Nat → Int32) (szM : Int32) (faM : Int32) (apM : Int32) (waM : Int32) (wrM : Int32) (fuM : Int32) (p1 : Int32) (p2 : Int32) (post : Int32 → ((Nat → Int32) × (Nat → Int32) × (Nat → Int32) × (Nat → Int32) × (Nat → Int32) × (Nat → Int32) × (Nat → Int32) × (Nat → Int32) × (Nat → Int32) × (Nat → Int32) × Int32) → Prop) (h : wp_X6_cover mpM mkM mgM mcM mwM mfM mtM mhM mmM mdM p1 p2 post) : Met l yX6_cover wsX6_cover ({ frames := 3, cells := 0, slots := 0, locals := 73 }) (va_Pc [.ref (adM 0), .int p1, .int p2] (mPre D cs ev (sh_M cs adM mpM mkM mgM mcM mwM mfM mtM mhM mmM mdM mxM mnM szM faM apM waM wrM fuM) sz0)) (va_Qi post (fun u t => match u with | (mpM', mkM', mgM', mcM', mwM', mfM', mtM', mhM', mmM', mdM', faM') => mAt D cs (va_A (sh_M cs adM mpM mkM mgM mcM mwM mfM mtM mhM mmM mdM mxM mnM szM faM apM waM wrM fuM) sz0) (sh_M cs adM mpM' mkM' mgM' mcM' mwM' mfM' mtM' mhM' mmM' mdM' mxM mnM szM faM' apM waM wrM fuM) t) (va_A (sh_M cs adM mpM mkM mgM mcM mwM mfM mtM mhM mmM mdM mxM mnM szM faM apM waM wrM fuM) sz0)) 0 0 (va_A (sh_M cs adM mpM mkM mgM mcM mwM mfM mtM mhM mmM mdM mxM mnM szM faM apM waM wrM fuM) sz0) := by
  refine Met.ofW (cc := cX6_cover) (maxL := 3) (ret := (some .boolean)) (by decide) rfl ?_
  intro p e s m args below meth c s₁ B hml hv
  obtain ⟨rfl, hsz, hP, hK, hD0, hE⟩ := hv
  have hx := B.exec
  have hb := B.bytes
  have hr := B.returns
  have hts := atoms_spec (ws := wsX6_cover) B.pre
  have hown : s.vm.findClass RX6 = some m.cls := findClass_of_methodNamed B.named
  have hlocks := B.notSynchronized
  subst hsz
  have hD := hD0.self (sz := s.heap.size)
  generalize hAe : va_A (sh_M cs adM mpM mkM mgM mcM mwM mfM mtM mhM mmM mdM mxM mnM szM faM apM waM wrM fuM) s.heap.size = A at hD hE ⊢
  have hA : ∀ q : Nat, s.heap.size ≤ q → A q := fun q h => by rw [← hAe]; exact Or.inr h
  have hS : va_S A s.heap s.heap [] := va_S.rf
  have hl := lv_entry ([.ref (adM 0), .int p1, .int p2]) (n := 3) (Nat.le_of_ble_eq_true rfl)
  rw [lg_entry_eq]
  generalize (lg_sl ([.ref (adM 0), .int p1, .int p2]) ++ List.replicate (3 - (lg_sl ([.ref (adM 0), .int p1, .int p2])).length) Slot.unset).toArray = ls at hl ⊢
  have hl : lv_has ls 3 [(0, .ref (adM 0)), (1, .int p1), (2, .int p2)] := hl
  refine lv_aload_n hx hb dX6_cover_0 rfl (lv_at hl 0 rfl) ?_
  refine lv_iconst (v := 0) hx hb dX6_cover_1 (by decide) ?_
  refine va_put (D := D) (ci := 5) (v := .int 0) (ty := .int) (C := RX6) (T := TX6) (N := 18) hx hb hts (by decide +kernel) tyX6 tyX6_ok nmX6 hown hK hP hD hS 0 rfl rfl 12 (by decide) (hts (.fieldLink RX6 52 "PartGraphsModel" "fault" "I") (by decide +kernel)) (fun _ h9 => h9) rfl (by decide +kernel) rfl rfl (Nat.le_of_ble_eq_true rfl) dX6_cover_2 (fun H locs hP hD hS => ?_)
  have hP : va_P D vwCl (sh_M cs adM mpM mkM mgM mcM mwM mfM mtM mhM mmM mdM mxM mnM szM 0 apM waM wrM fuM) H := hP
  have hD : va_D A (sh_M cs adM mpM mkM mgM mcM mwM mfM mtM mhM mmM mdM mxM mnM szM 0 apM waM wrM fuM) := hD
  refine lv_aload_n hx hb dX6_cover_5 rfl (lv_at hl 0 rfl) ?_
  refine lv_iconst (v := 1) hx hb dX6_cover_6 (by decide) ?_
  refine lv_iload_n hx hb dX6_cover_7 rfl (lv_at hl 1 rfl) ?_
  refine lv_iload_n hx hb dX6_cover_8 rfl (lv_at hl 2 rfl) ?_
  refine lv_iconst (v := 0) hx hb dX6_cover_9 (by decide) ?_
  have hFc := va_free (wc := (sh_M cs adM mpM mkM mgM mcM mwM mfM mtM mhM mmM mdM mxM mnM szM 0 apM waM wrM fuM)) hD hS hA [0, 1, 2, 3, 4, 5, 6, 7, 8, 9, 10, 11, 12] rfl
  refine va_calli (va_runV (As := [.int 1, .int p1, .int p2, .int 0]) (rest := []) ⟨hx, hb, hml, hown, hts⟩ (met_X6_tell l D cs ev _ adM mpM mkM mgM mcM mwM mfM mtM mhM mmM mdM mxM mnM szM 0 apM waM wrM fuM 1 p1 p2 0 _ h) (cwV 4 hts gX6_cover_X6_tell rfl rfl rfl (by decide +kernel) ⟨Nat.le_of_ble_eq_true rfl, Nat.le_of_ble_eq_true rfl⟩) (mPreV (va_recv hK hP (ci := 5) (q0 := 0) rfl rfl) hP hD hS hK hE hFc [0, 1, 2, 3, 4, 5, 6, 7, 8, 9, 10, 11, 12] (by decide) rfl) rfl rfl hl.1 rfl (lv_room (Nat.le_of_ble_eq_true rfl)) dX6_cover_10 ⟨Nat.le_of_ble_eq_true rfl, Nat.le_of_ble_eq_true rfl⟩) hS (fun q _ h => hFc q h) hFc (fun r_1 u t H1 locs ht hvm hw hB hz1 hk1 hS => ?_)
  obtain ⟨mp_2, mk_3, mg_4, mc_5, mw_6, mf_7, mt_8, mh_9, mm_10, md_11⟩ := u
  have h := hw
  obtain ⟨hP1, hK1, hD1⟩ := hB
  rw [ht] at hP1
  obtain ⟨hP, hD⟩ := mJoin (wr := ([] : va_W)) (w1 := (sh_M cs adM mp_2 mk_3 mg_4 mc_5 mw_6 mf_7 mt_8 mh_9 mm_10 md_11 mxM mnM szM 0 apM waM wrM fuM)) (w' := (sh_M cs adM mp_2 mk_3 mg_4 mc_5 mw_6 mf_7 mt_8 mh_9 mm_10 md_11 mxM mnM szM 0 apM waM wrM fuM)) hP hD [0, 1, 2, 3, 4, 5, 6, 7, 8, 9, 10, 11, 12] [] rfl rfl (by decide) (by decide) hk1 hFc hP1 hD1 [0, 1, 2, 3, 4, 5, 6, 7, 8, 9, 10, 11, 12] (by decide) rfl
  generalize H1 = H at hP hS ⊢
  have hn := h.1
  have h := h.2
  exact W.zret (v := r_1) hx hb hr hn (fun t ht hW => ⟨⟨r_1, (mp_2, mk_3, mg_4, mc_5, mw_6, mf_7, mt_8, mh_9, mm_10, md_11, 0), rfl, h, by rw [ht]; exact hP, va_K.moved hW.alike hK, hD⟩, hS.F ht⟩) hS.2.2 dX6_cover_13
def wp_X6_way (mpM : Nat → Int32) (mkM : Nat → Int32) (mgM : Nat → Int32) (mcM : Nat → Int32) (mwM : Nat → Int32) (mfM : Nat → Int32) (mtM : Nat → Int32) (mhM : Nat → Int32) (mmM : Nat → Int32) (mdM : Nat → Int32) (p1 : Int32) (p2 : Int32) (p3 : Int32) (post : Int32 → ((Nat → Int32) × (Nat → Int32) × (Nat → Int32) × (Nat → Int32) × (Nat → Int32) × (Nat → Int32) × (Nat → Int32) × (Nat → Int32) × (Nat → Int32) × (Nat → Int32) × Int32) → Prop) : Prop :=
    wp_X6_isPart mpM 0 p1 (fun r_1 _ => ((r_1 = 0 → (((1 : Int32) = 0 → wp_X6_tell mpM mkM mgM mcM mwM mfM mtM mhM mmM mdM 2 p1 p2 p3 (fun r_4 u => match u with | (mp_5, mk_6, mg_7, mc_8, mw_9, mf_10, mt_11, mh_12, mm_13, md_14) => ((r_4 = 0 → post 0 (mp_5, mk_6, mg_7, mc_8, mw_9, mf_10, mt_11, mh_12, mm_13, md_14, 1)) ∧ (¬ r_4 = 0 → post 1 (mp_5, mk_6, mg_7, mc_8, mw_9, mf_10, mt_11, mh_12, mm_13, md_14, 1))))) ∧ (¬ (1 : Int32) = 0 → post 0 (mpM, mkM, mgM, mcM, mwM, mfM, mtM, mhM, mmM, mdM, 1)))) ∧ (¬ r_1 = 0 → wp_X6_isPart mpM 0 p3 (fun r_16 _ => ((r_16 = 0 → (((1 : Int32) = 0 → wp_X6_tell mpM mkM mgM mcM mwM mfM mtM mhM mmM mdM 2 p1 p2 p3 (fun r_19 u => match u with | (mp_20, mk_21, mg_22, mc_23, mw_24, mf_25, mt_26, mh_27, mm_28, md_29) => ((r_19 = 0 → post 0 (mp_20, mk_21, mg_22, mc_23, mw_24, mf_25, mt_26, mh_27, mm_28, md_29, 1)) ∧ (¬ r_19 = 0 → post 1 (mp_20, mk_21, mg_22, mc_23, mw_24, mf_25, mt_26, mh_27, mm_28, md_29, 1))))) ∧ (¬ (1 : Int32) = 0 → post 0 (mpM, mkM, mgM, mcM, mwM, mfM, mtM, mhM, mmM, mdM, 1)))) ∧ (¬ r_16 = 0 → ((p2 < 0 → (((1 : Int32) = 0 → wp_X6_tell mpM mkM mgM mcM mwM mfM mtM mhM mmM mdM 2 p1 p2 p3 (fun r_33 u => match u with | (mp_34, mk_35, mg_36, mc_37, mw_38, mf_39, mt_40, mh_41, mm_42, md_43) => ((r_33 = 0 → post 0 (mp_34, mk_35, mg_36, mc_37, mw_38, mf_39, mt_40, mh_41, mm_42, md_43, 1)) ∧ (¬ r_33 = 0 → post 1 (mp_34, mk_35, mg_36, mc_37, mw_38, mf_39, mt_40, mh_41, mm_42, md_43, 1))))) ∧ (¬ (1 : Int32) = 0 → post 0 (mpM, mkM, mgM, mcM, mwM, mfM, mtM, mhM, mmM, mdM, 1)))) ∧ (¬ p2 < 0 → ((6 ≤ p2 → (((1 : Int32) = 0 → wp_X6_tell mpM mkM mgM mcM mwM mfM mtM mhM mmM mdM 2 p1 p2 p3 (fun r_47 u => match u with | (mp_48, mk_49, mg_50, mc_51, mw_52, mf_53, mt_54, mh_55, mm_56, md_57) => ((r_47 = 0 → post 0 (mp_48, mk_49, mg_50, mc_51, mw_52, mf_53, mt_54, mh_55, mm_56, md_57, 1)) ∧ (¬ r_47 = 0 → post 1 (mp_48, mk_49, mg_50, mc_51, mw_52, mf_53, mt_54, mh_55, mm_56, md_57, 1))))) ∧ (¬ (1 : Int32) = 0 → post 0 (mpM, mkM, mgM, mcM, mwM, mfM, mtM, mhM, mmM, mdM, 1)))) ∧ (¬ 6 ≤ p2 → (((0 : Int32) = 0 → wp_X6_tell mpM mkM mgM mcM mwM mfM mtM mhM mmM mdM 2 p1 p2 p3 (fun r_60 u => match u with | (mp_61, mk_62, mg_63, mc_64, mw_65, mf_66, mt_67, mh_68, mm_69, md_70) => ((r_60 = 0 → post 0 (mp_61, mk_62, mg_63, mc_64, mw_65, mf_66, mt_67, mh_68, mm_69, md_70, 0)) ∧ (¬ r_60 = 0 → post 1 (mp_61, mk_62, mg_63, mc_64, mw_65, mf_66, mt_67, mh_68, mm_69, md_70, 0))))) ∧ (¬ (0 : Int32) = 0 → post 0 (mpM, mkM, mgM, mcM, mwM, mfM, mtM, mhM, mmM, mdM, 0)))))))))))))
set_option maxHeartbeats 4000000 in
set_option maxRecDepth 100000 in
theorem met_X6_way (l : Launch) (D : va_G) (cs : Nat → ClassId) (ev : Nat → Nat → Nat) (sz0 : Nat) (adM : Nat → Nat) (mpM : Nat → Int32) (mkM : Nat → Int32) (mgM : Nat → Int32) (mcM : Nat → Int32) (mwM : Nat → Int32) (mfM : Nat → Int32) (mtM : Nat → Int32) (mhM : Nat → Int32) (mmM : Nat → Int32) (mdM : Nat → Int32) (mxM : Nat → Int32) (mnM : Nat → Int32) (szM : Int32) (faM : Int32) (apM : Int32) (waM : Int32) (wrM : Int32) (fuM : Int32) (p1 : Int32) (p2 : Int32) (p3 : Int32) (post : Int32 → ((Nat → Int32) × (Nat → Int32) × (Nat → Int32) × (Nat → Int32) × (Nat → Int32) × (Nat → Int32) × (Nat → Int32) × (Nat → Int32) × (Nat → Int32) × (Nat → Int32) × Int32) → Prop) (h : wp_X6_way mpM mkM mgM mcM mwM mfM mtM mhM mmM mdM p1 p2 p3 post) : Met l yX6_way wsX6_way ({ frames := 3, cells := 0, slots := 0, locals := 73 }) (va_Pc [.ref (adM 0), .int p1, .int p2, .int p3] (mPre D cs ev (sh_M cs adM mpM mkM mgM mcM mwM mfM mtM mhM mmM mdM mxM mnM szM faM apM waM wrM fuM) sz0)) (va_Qi post (fun u t => match u with | (mpM', mkM', mgM', mcM', mwM', mfM', mtM', mhM', mmM', mdM', faM') => mAt D cs (va_A (sh_M cs adM mpM mkM mgM mcM mwM mfM mtM mhM mmM mdM mxM mnM szM faM apM waM wrM fuM) sz0) (sh_M cs adM mpM' mkM' mgM' mcM' mwM' mfM' mtM' mhM' mmM' mdM' mxM mnM szM faM' apM waM wrM fuM) t) (va_A (sh_M cs adM mpM mkM mgM mcM mwM mfM mtM mhM mmM mdM mxM mnM szM faM apM waM wrM fuM) sz0)) 0 0 (va_A (sh_M cs adM mpM mkM mgM mcM mwM mfM mtM mhM mmM mdM mxM mnM szM faM apM waM wrM fuM) sz0) := by
  refine Met.ofW (cc := cX6_way) (maxL := 4) (ret := (some .boolean)) (by decide) rfl ?_
  intro p e s m args below meth c s₁ B hml hv
  obtain ⟨rfl, hsz, hP, hK, hD0, hE⟩ := hv
  have hx := B.exec
  have hb := B.bytes
  have hr := B.returns
  have hts := atoms_spec (ws := wsX6_way) B.pre
  have hown : s.vm.findClass RX6 = some m.cls := findClass_of_methodNamed B.named
  have hlocks := B.notSynchronized
  subst hsz
  have hD := hD0.self (sz := s.heap.size)
  generalize hAe : va_A (sh_M cs adM mpM mkM mgM mcM mwM mfM mtM mhM mmM mdM mxM mnM szM faM apM waM wrM fuM) s.heap.size = A at hD hE ⊢
  have hA : ∀ q : Nat, s.heap.size ≤ q → A q := fun q h => by rw [← hAe]; exact Or.inr h
  have hS : va_S A s.heap s.heap [] := va_S.rf
  have hl := lv_entry ([.ref (adM 0), .int p1, .int p2, .int p3]) (n := 4) (Nat.le_of_ble_eq_true rfl)
  rw [lg_entry_eq]
  generalize (lg_sl ([.ref (adM 0), .int p1, .int p2, .int p3]) ++ List.replicate (4 - (lg_sl ([.ref (adM 0), .int p1, .int p2, .int p3])).length) Slot.unset).toArray = ls at hl ⊢
  have hl : lv_has ls 4 [(0, .ref (adM 0)), (1, .int p1), (2, .int p2), (3, .int p3)] := hl
  refine lv_aload_n hx hb dX6_way_0 rfl (lv_at hl 0 rfl) ?_
  refine lv_aload_n hx hb dX6_way_1 rfl (lv_at hl 0 rfl) ?_
  refine lv_iconst (v := 0) hx hb dX6_way_2 (by decide) ?_
  refine lv_iload_n hx hb dX6_way_3 rfl (lv_at hl 1 rfl) ?_
  have hFc := va_free (wc := (sh_M cs adM mpM mkM mgM mcM mwM mfM mtM mhM mmM mdM mxM mnM szM faM apM waM wrM fuM)) hD hS hA [0, 1, 2, 3, 4, 5, 6, 7, 8, 9, 10, 11, 12] rfl
  refine va_calli (va_runV (As := [.int 0, .int p1]) (rest := [.ref (adM 0)]) ⟨hx, hb, hml, hown, hts⟩ (met_X6_isPart l D cs ev _ adM mpM mkM mgM mcM mwM mfM mtM mhM mmM mdM mxM mnM szM faM apM waM wrM fuM 0 p1 _ h) (cwV 2 hts gX6_way_X6_isPart rfl rfl rfl (by decide +kernel) ⟨Nat.le_of_ble_eq_true rfl, Nat.le_of_ble_eq_true rfl⟩) (mPreV (va_recv hK hP (ci := 5) (q0 := 0) rfl rfl) hP hD hS hK hE hFc [0, 1, 2, 3, 4, 5, 6, 7, 8, 9, 10, 11, 12] (by decide) rfl) rfl rfl hl.1 rfl (lv_room (Nat.le_of_ble_eq_true rfl)) dX6_way_4 ⟨Nat.le_of_ble_eq_true rfl, Nat.le_of_ble_eq_true rfl⟩) hS (fun q _ h => hFc q h) hFc (fun r_1 u t H1 locs ht hvm hw hB hz1 hk1 hS => ?_)
  have h := hw
  obtain ⟨hP1, hK1, hD1⟩ := hB
  rw [ht] at hP1
  obtain ⟨hP, hD⟩ := mJoin (wr := ([] : va_W)) (w1 := (sh_M cs adM mpM mkM mgM mcM mwM mfM mtM mhM mmM mdM mxM mnM szM faM apM waM wrM fuM)) (w' := (sh_M cs adM mpM mkM mgM mcM mwM mfM mtM mhM mmM mdM mxM mnM szM faM apM waM wrM fuM)) hP hD [0, 1, 2, 3, 4, 5, 6, 7, 8, 9, 10, 11, 12] [] rfl rfl (by decide) (by decide) hk1 hFc hP1 hD1 [0, 1, 2, 3, 4, 5, 6, 7, 8, 9, 10, 11, 12] (by decide) rfl
  generalize H1 = H at hP hS ⊢
  refine lv_if_eq (tgt := 33) hx hb dX6_way_7 (by decide) (fun c_2 => ?_) (fun c_2 => ?_)
  · have h := h.1 c_2
    refine lv_iconst (v := 1) hx hb dX6_way_33 (by decide) ?_
    refine va_put (D := D) (ci := 5) (v := .int 1) (ty := .int) (C := RX6) (T := TX6) (N := 18) hx hb hts (by decide +kernel) tyX6 tyX6_ok nmX6 hown hK hP hD hS 0 rfl rfl 12 (by decide) (hts (.fieldLink RX6 52 "PartGraphsModel" "fault" "I") (by decide +kernel)) (fun _ h9 => h9) rfl (by decide +kernel) rfl rfl (Nat.le_of_ble_eq_true rfl) dX6_way_34 (fun H locs hP hD hS => ?_)
    have hP : va_P D vwCl (sh_M cs adM mpM mkM mgM mcM mwM mfM mtM mhM mmM mdM mxM mnM szM 1 apM waM wrM fuM) H := hP
    have hD : va_D A (sh_M cs adM mpM mkM mgM mcM mwM mfM mtM mhM mmM mdM mxM mnM szM 1 apM waM wrM fuM) := hD
    refine lv_aload_n hx hb dX6_way_37 rfl (lv_at hl 0 rfl) ?_
    refine va_get (D := D) (ci := 5) (v := .int 1) (C := RX6) (T := TX6) (N := 18) hx hb hts (by decide +kernel) hown hK hP 0 rfl rfl 12 (by decide) (hts (.fieldLink RX6 52 "PartGraphsModel" "fault" "I") (by decide +kernel)) (fun _ h9 => h9) rfl dX6_way_38 ?_
    refine lv_if_ne (tgt := 59) hx hb dX6_way_41 (by decide) (fun c_3 => ?_) (fun c_3 => ?_)
    · have h := h.2 c_3
      refine lv_iconst (v := 0) hx hb dX6_way_59 (by decide) ?_
      exact W.zret (v := 0) hx hb hr (by decide) (fun t ht hW => ⟨⟨0, (mpM, mkM, mgM, mcM, mwM, mfM, mtM, mhM, mmM, mdM, 1), rfl, h, by rw [ht]; exact hP, va_K.moved hW.alike hK, hD⟩, hS.F ht⟩) hS.2.2 dX6_way_60
    · have h := h.1 c_3
      refine lv_aload_n hx hb dX6_way_44 rfl (lv_at hl 0 rfl) ?_
      refine lv_iconst (v := 2) hx hb dX6_way_45 (by decide) ?_
      refine lv_iload_n hx hb dX6_way_46 rfl (lv_at hl 1 rfl) ?_
      refine lv_iload_n hx hb dX6_way_47 rfl (lv_at hl 2 rfl) ?_
      refine lv_iload_n hx hb dX6_way_48 rfl (lv_at hl 3 rfl) ?_
      have hFc := va_free (wc := (sh_M cs adM mpM mkM mgM mcM mwM mfM mtM mhM mmM mdM mxM mnM szM 1 apM waM wrM fuM)) hD hS hA [0, 1, 2, 3, 4, 5, 6, 7, 8, 9, 10, 11, 12] rfl
      refine va_calli (va_runV (As := [.int 2, .int p1, .int p2, .int p3]) (rest := []) ⟨hx, hb, hml, hown, hts⟩ (met_X6_tell l D cs ev _ adM mpM mkM mgM mcM mwM mfM mtM mhM mmM mdM mxM mnM szM 1 apM waM wrM fuM 2 p1 p2 p3 _ h) (cwV 4 hts gX6_way_X6_tell rfl rfl rfl (by decide +kernel) ⟨Nat.le_of_ble_eq_true rfl, Nat.le_of_ble_eq_true rfl⟩) (mPreV (va_recv hK hP (ci := 5) (q0 := 0) rfl rfl) hP hD hS hK hE hFc [0, 1, 2, 3, 4, 5, 6, 7, 8, 9, 10, 11, 12] (by decide) rfl) rfl rfl hl.1 rfl (lv_room (Nat.le_of_ble_eq_true rfl)) dX6_way_49 ⟨Nat.le_of_ble_eq_true rfl, Nat.le_of_ble_eq_true rfl⟩) hS (fun q _ h => hFc q h) hFc (fun r_4 u t H1 locs ht hvm hw hB hz1 hk1 hS => ?_)
      obtain ⟨mp_5, mk_6, mg_7, mc_8, mw_9, mf_10, mt_11, mh_12, mm_13, md_14⟩ := u
      have h := hw
      obtain ⟨hP1, hK1, hD1⟩ := hB
      rw [ht] at hP1
      obtain ⟨hP, hD⟩ := mJoin (wr := ([] : va_W)) (w1 := (sh_M cs adM mp_5 mk_6 mg_7 mc_8 mw_9 mf_10 mt_11 mh_12 mm_13 md_14 mxM mnM szM 1 apM waM wrM fuM)) (w' := (sh_M cs adM mp_5 mk_6 mg_7 mc_8 mw_9 mf_10 mt_11 mh_12 mm_13 md_14 mxM mnM szM 1 apM waM wrM fuM)) hP hD [0, 1, 2, 3, 4, 5, 6, 7, 8, 9, 10, 11, 12] [] rfl rfl (by decide) (by decide) hk1 hFc hP1 hD1 [0, 1, 2, 3, 4, 5, 6, 7, 8, 9, 10, 11, 12] (by decide) rfl
      generalize H1 = H at hP hS ⊢
      refine lv_if_eq (tgt := 59) hx hb dX6_way_52 (by decide) (fun c_15 => ?_) (fun c_15 => ?_)
      · have h := h.1 c_15
        refine lv_iconst (v := 0) hx hb dX6_way_59 (by decide) ?_
        exact W.zret (v := 0) hx hb hr (by decide) (fun t ht hW => ⟨⟨0, (mp_5, mk_6, mg_7, mc_8, mw_9, mf_10, mt_11, mh_12, mm_13, md_14, 1), rfl, h, by rw [ht]; exact hP, va_K.moved hW.alike hK, hD⟩, hS.F ht⟩) hS.2.2 dX6_way_60
      · have h := h.2 c_15
        refine lv_iconst (v := 1) hx hb dX6_way_55 (by decide) ?_
        refine lv_goto (tgt := 60) hx hb dX6_way_56 (by decide) ?_
        exact W.zret (v := 1) hx hb hr (by decide) (fun t ht hW => ⟨⟨1, (mp_5, mk_6, mg_7, mc_8, mw_9, mf_10, mt_11, mh_12, mm_13, md_14, 1), rfl, h, by rw [ht]; exact hP, va_K.moved hW.alike hK, hD⟩, hS.F ht⟩) hS.2.2 dX6_way_60
  · have h := h.2 c_2
    refine lv_aload_n hx hb dX6_way_10 rfl (lv_at hl 0 rfl) ?_
    refine lv_iconst (v := 0) hx hb dX6_way_11 (by decide) ?_
    refine lv_iload_n hx hb dX6_way_12 rfl (lv_at hl 3 rfl) ?_
    have hFc := va_free (wc := (sh_M cs adM mpM mkM mgM mcM mwM mfM mtM mhM mmM mdM mxM mnM szM faM apM waM wrM fuM)) hD hS hA [0, 1, 2, 3, 4, 5, 6, 7, 8, 9, 10, 11, 12] rfl
    refine va_calli (va_runV (As := [.int 0, .int p3]) (rest := [.ref (adM 0)]) ⟨hx, hb, hml, hown, hts⟩ (met_X6_isPart l D cs ev _ adM mpM mkM mgM mcM mwM mfM mtM mhM mmM mdM mxM mnM szM faM apM waM wrM fuM 0 p3 _ h) (cwV 2 hts gX6_way_X6_isPart rfl rfl rfl (by decide +kernel) ⟨Nat.le_of_ble_eq_true rfl, Nat.le_of_ble_eq_true rfl⟩) (mPreV (va_recv hK hP (ci := 5) (q0 := 0) rfl rfl) hP hD hS hK hE hFc [0, 1, 2, 3, 4, 5, 6, 7, 8, 9, 10, 11, 12] (by decide) rfl) rfl rfl hl.1 rfl (lv_room (Nat.le_of_ble_eq_true rfl)) dX6_way_13 ⟨Nat.le_of_ble_eq_true rfl, Nat.le_of_ble_eq_true rfl⟩) hS (fun q _ h => hFc q h) hFc (fun r_16 u t H1 locs ht hvm hw hB hz1 hk1 hS => ?_)
    have h := hw
    obtain ⟨hP1, hK1, hD1⟩ := hB
    rw [ht] at hP1
    obtain ⟨hP, hD⟩ := mJoin (wr := ([] : va_W)) (w1 := (sh_M cs adM mpM mkM mgM mcM mwM mfM mtM mhM mmM mdM mxM mnM szM faM apM waM wrM fuM)) (w' := (sh_M cs adM mpM mkM mgM mcM mwM mfM mtM mhM mmM mdM mxM mnM szM faM apM waM wrM fuM)) hP hD [0, 1, 2, 3, 4, 5, 6, 7, 8, 9, 10, 11, 12] [] rfl rfl (by decide) (by decide) hk1 hFc hP1 hD1 [0, 1, 2, 3, 4, 5, 6, 7, 8, 9, 10, 11, 12] (by decide) rfl
    generalize H1 = H at hP hS ⊢
    refine lv_if_eq (tgt := 33) hx hb dX6_way_16 (by decide) (fun c_17 => ?_) (fun c_17 => ?_)
    · have h := h.1 c_17
      refine lv_iconst (v := 1) hx hb dX6_way_33 (by decide) ?_
      refine va_put (D := D) (ci := 5) (v := .int 1) (ty := .int) (C := RX6) (T := TX6) (N := 18) hx hb hts (by decide +kernel) tyX6 tyX6_ok nmX6 hown hK hP hD hS 0 rfl rfl 12 (by decide) (hts (.fieldLink RX6 52 "PartGraphsModel" "fault" "I") (by decide +kernel)) (fun _ h9 => h9) rfl (by decide +kernel) rfl rfl (Nat.le_of_ble_eq_true rfl) dX6_way_34 (fun H locs hP hD hS => ?_)
      have hP : va_P D vwCl (sh_M cs adM mpM mkM mgM mcM mwM mfM mtM mhM mmM mdM mxM mnM szM 1 apM waM wrM fuM) H := hP
      have hD : va_D A (sh_M cs adM mpM mkM mgM mcM mwM mfM mtM mhM mmM mdM mxM mnM szM 1 apM waM wrM fuM) := hD
      refine lv_aload_n hx hb dX6_way_37 rfl (lv_at hl 0 rfl) ?_
      refine va_get (D := D) (ci := 5) (v := .int 1) (C := RX6) (T := TX6) (N := 18) hx hb hts (by decide +kernel) hown hK hP 0 rfl rfl 12 (by decide) (hts (.fieldLink RX6 52 "PartGraphsModel" "fault" "I") (by decide +kernel)) (fun _ h9 => h9) rfl dX6_way_38 ?_
      refine lv_if_ne (tgt := 59) hx hb dX6_way_41 (by decide) (fun c_18 => ?_) (fun c_18 => ?_)
      · have h := h.2 c_18
        refine lv_iconst (v := 0) hx hb dX6_way_59 (by decide) ?_
        exact W.zret (v := 0) hx hb hr (by decide) (fun t ht hW => ⟨⟨0, (mpM, mkM, mgM, mcM, mwM, mfM, mtM, mhM, mmM, mdM, 1), rfl, h, by rw [ht]; exact hP, va_K.moved hW.alike hK, hD⟩, hS.F ht⟩) hS.2.2 dX6_way_60
      · have h := h.1 c_18
        refine lv_aload_n hx hb dX6_way_44 rfl (lv_at hl 0 rfl) ?_
        refine lv_iconst (v := 2) hx hb dX6_way_45 (by decide) ?_
        refine lv_iload_n hx hb dX6_way_46 rfl (lv_at hl 1 rfl) ?_
        refine lv_iload_n hx hb dX6_way_47 rfl (lv_at hl 2 rfl) ?_
        refine lv_iload_n hx hb dX6_way_48 rfl (lv_at hl 3 rfl) ?_
        have hFc := va_free (wc := (sh_M cs adM mpM mkM mgM mcM mwM mfM mtM mhM mmM mdM mxM mnM szM 1 apM waM wrM fuM)) hD hS hA [0, 1, 2, 3, 4, 5, 6, 7, 8, 9, 10, 11, 12] rfl
        refine va_calli (va_runV (As := [.int 2, .int p1, .int p2, .int p3]) (rest := []) ⟨hx, hb, hml, hown, hts⟩ (met_X6_tell l D cs ev _ adM mpM mkM mgM mcM mwM mfM mtM mhM mmM mdM mxM mnM szM 1 apM waM wrM fuM 2 p1 p2 p3 _ h) (cwV 4 hts gX6_way_X6_tell rfl rfl rfl (by decide +kernel) ⟨Nat.le_of_ble_eq_true rfl, Nat.le_of_ble_eq_true rfl⟩) (mPreV (va_recv hK hP (ci := 5) (q0 := 0) rfl rfl) hP hD hS hK hE hFc [0, 1, 2, 3, 4, 5, 6, 7, 8, 9, 10, 11, 12] (by decide) rfl) rfl rfl hl.1 rfl (lv_room (Nat.le_of_ble_eq_true rfl)) dX6_way_49 ⟨Nat.le_of_ble_eq_true rfl, Nat.le_of_ble_eq_true rfl⟩) hS (fun q _ h => hFc q h) hFc (fun r_19 u t H1 locs ht hvm hw hB hz1 hk1 hS => ?_)
        obtain ⟨mp_20, mk_21, mg_22, mc_23, mw_24, mf_25, mt_26, mh_27, mm_28, md_29⟩ := u
        have h := hw
        obtain ⟨hP1, hK1, hD1⟩ := hB
        rw [ht] at hP1
        obtain ⟨hP, hD⟩ := mJoin (wr := ([] : va_W)) (w1 := (sh_M cs adM mp_20 mk_21 mg_22 mc_23 mw_24 mf_25 mt_26 mh_27 mm_28 md_29 mxM mnM szM 1 apM waM wrM fuM)) (w' := (sh_M cs adM mp_20 mk_21 mg_22 mc_23 mw_24 mf_25 mt_26 mh_27 mm_28 md_29 mxM mnM szM 1 apM waM wrM fuM)) hP hD [0, 1, 2, 3, 4, 5, 6, 7, 8, 9, 10, 11, 12] [] rfl rfl (by decide) (by decide) hk1 hFc hP1 hD1 [0, 1, 2, 3, 4, 5, 6, 7, 8, 9, 10, 11, 12] (by decide) rfl
        generalize H1 = H at hP hS ⊢
        refine lv_if_eq (tgt := 59) hx hb dX6_way_52 (by decide) (fun c_30 => ?_) (fun c_30 => ?_)
        · have h := h.1 c_30
          refine lv_iconst (v := 0) hx hb dX6_way_59 (by decide) ?_
          exact W.zret (v := 0) hx hb hr (by decide) (fun t ht hW => ⟨⟨0, (mp_20, mk_21, mg_22, mc_23, mw_24, mf_25, mt_26, mh_27, mm_28, md_29, 1), rfl, h, by rw [ht]; exact hP, va_K.moved hW.alike hK, hD⟩, hS.F ht⟩) hS.2.2 dX6_way_60
        · have h := h.2 c_30
          refine lv_iconst (v := 1) hx hb dX6_way_55 (by decide) ?_
          refine lv_goto (tgt := 60) hx hb dX6_way_56 (by decide) ?_
          exact W.zret (v := 1) hx hb hr (by decide) (fun t ht hW => ⟨⟨1, (mp_20, mk_21, mg_22, mc_23, mw_24, mf_25, mt_26, mh_27, mm_28, md_29, 1), rfl, h, by rw [ht]; exact hP, va_K.moved hW.alike hK, hD⟩, hS.F ht⟩) hS.2.2 dX6_way_60
    · have h := h.2 c_17
      refine lv_iload_n hx hb dX6_way_19 rfl (lv_at hl 2 rfl) ?_
      refine lv_if_lt (tgt := 33) hx hb dX6_way_20 (by decide) (fun c_31 => ?_) (fun c_31 => ?_)
      · have h := h.1 c_31
        refine lv_iconst (v := 1) hx hb dX6_way_33 (by decide) ?_
        refine va_put (D := D) (ci := 5) (v := .int 1) (ty := .int) (C := RX6) (T := TX6) (N := 18) hx hb hts (by decide +kernel) tyX6 tyX6_ok nmX6 hown hK hP hD hS 0 rfl rfl 12 (by decide) (hts (.fieldLink RX6 52 "PartGraphsModel" "fault" "I") (by decide +kernel)) (fun _ h9 => h9) rfl (by decide +kernel) rfl rfl (Nat.le_of_ble_eq_true rfl) dX6_way_34 (fun H locs hP hD hS => ?_)
        have hP : va_P D vwCl (sh_M cs adM mpM mkM mgM mcM mwM mfM mtM mhM mmM mdM mxM mnM szM 1 apM waM wrM fuM) H := hP
        have hD : va_D A (sh_M cs adM mpM mkM mgM mcM mwM mfM mtM mhM mmM mdM mxM mnM szM 1 apM waM wrM fuM) := hD
        refine lv_aload_n hx hb dX6_way_37 rfl (lv_at hl 0 rfl) ?_
        refine va_get (D := D) (ci := 5) (v := .int 1) (C := RX6) (T := TX6) (N := 18) hx hb hts (by decide +kernel) hown hK hP 0 rfl rfl 12 (by decide) (hts (.fieldLink RX6 52 "PartGraphsModel" "fault" "I") (by decide +kernel)) (fun _ h9 => h9) rfl dX6_way_38 ?_
        refine lv_if_ne (tgt := 59) hx hb dX6_way_41 (by decide) (fun c_32 => ?_) (fun c_32 => ?_)
        · have h := h.2 c_32
          refine lv_iconst (v := 0) hx hb dX6_way_59 (by decide) ?_
          exact W.zret (v := 0) hx hb hr (by decide) (fun t ht hW => ⟨⟨0, (mpM, mkM, mgM, mcM, mwM, mfM, mtM, mhM, mmM, mdM, 1), rfl, h, by rw [ht]; exact hP, va_K.moved hW.alike hK, hD⟩, hS.F ht⟩) hS.2.2 dX6_way_60
        · have h := h.1 c_32
          refine lv_aload_n hx hb dX6_way_44 rfl (lv_at hl 0 rfl) ?_
          refine lv_iconst (v := 2) hx hb dX6_way_45 (by decide) ?_
          refine lv_iload_n hx hb dX6_way_46 rfl (lv_at hl 1 rfl) ?_
          refine lv_iload_n hx hb dX6_way_47 rfl (lv_at hl 2 rfl) ?_
          refine lv_iload_n hx hb dX6_way_48 rfl (lv_at hl 3 rfl) ?_
          have hFc := va_free (wc := (sh_M cs adM mpM mkM mgM mcM mwM mfM mtM mhM mmM mdM mxM mnM szM 1 apM waM wrM fuM)) hD hS hA [0, 1, 2, 3, 4, 5, 6, 7, 8, 9, 10, 11, 12] rfl
          refine va_calli (va_runV (As := [.int 2, .int p1, .int p2, .int p3]) (rest := []) ⟨hx, hb, hml, hown, hts⟩ (met_X6_tell l D cs ev _ adM mpM mkM mgM mcM mwM mfM mtM mhM mmM mdM mxM mnM szM 1 apM waM wrM fuM 2 p1 p2 p3 _ h) (cwV 4 hts gX6_way_X6_tell rfl rfl rfl (by decide +kernel) ⟨Nat.le_of_ble_eq_true rfl, Nat.le_of_ble_eq_true rfl⟩) (mPreV (va_recv hK hP (ci := 5) (q0 := 0) rfl rfl) hP hD hS hK hE hFc [0, 1, 2, 3, 4, 5, 6, 7, 8, 9, 10, 11, 12] (by decide) rfl) rfl rfl hl.1 rfl (lv_room (Nat.le_of_ble_eq_true rfl)) dX6_way_49 ⟨Nat.le_of_ble_eq_true rfl, Nat.le_of_ble_eq_true rfl⟩) hS (fun q _ h => hFc q h) hFc (fun r_33 u t H1 locs ht hvm hw hB hz1 hk1 hS => ?_)
          obtain ⟨mp_34, mk_35, mg_36, mc_37, mw_38, mf_39, mt_40, mh_41, mm_42, md_43⟩ := u
          have h := hw
          obtain ⟨hP1, hK1, hD1⟩ := hB
          rw [ht] at hP1
          obtain ⟨hP, hD⟩ := mJoin (wr := ([] : va_W)) (w1 := (sh_M cs adM mp_34 mk_35 mg_36 mc_37 mw_38 mf_39 mt_40 mh_41 mm_42 md_43 mxM mnM szM 1 apM waM wrM fuM)) (w' := (sh_M cs adM mp_34 mk_35 mg_36 mc_37 mw_38 mf_39 mt_40 mh_41 mm_42 md_43 mxM mnM szM 1 apM waM wrM fuM)) hP hD [0, 1, 2, 3, 4, 5, 6, 7, 8, 9, 10, 11, 12] [] rfl rfl (by decide) (by decide) hk1 hFc hP1 hD1 [0, 1, 2, 3, 4, 5, 6, 7, 8, 9, 10, 11, 12] (by decide) rfl
          generalize H1 = H at hP hS ⊢
          refine lv_if_eq (tgt := 59) hx hb dX6_way_52 (by decide) (fun c_44 => ?_) (fun c_44 => ?_)
          · have h := h.1 c_44
            refine lv_iconst (v := 0) hx hb dX6_way_59 (by decide) ?_
            exact W.zret (v := 0) hx hb hr (by decide) (fun t ht hW => ⟨⟨0, (mp_34, mk_35, mg_36, mc_37, mw_38, mf_39, mt_40, mh_41, mm_42, md_43, 1), rfl, h, by rw [ht]; exact hP, va_K.moved hW.alike hK, hD⟩, hS.F ht⟩) hS.2.2 dX6_way_60
          · have h := h.2 c_44
            refine lv_iconst (v := 1) hx hb dX6_way_55 (by decide) ?_
            refine lv_goto (tgt := 60) hx hb dX6_way_56 (by decide) ?_
            exact W.zret (v := 1) hx hb hr (by decide) (fun t ht hW => ⟨⟨1, (mp_34, mk_35, mg_36, mc_37, mw_38, mf_39, mt_40, mh_41, mm_42, md_43, 1), rfl, h, by rw [ht]; exact hP, va_K.moved hW.alike hK, hD⟩, hS.F ht⟩) hS.2.2 dX6_way_60
      · have h := h.2 c_31
        refine lv_iload_n hx hb dX6_way_23 rfl (lv_at hl 2 rfl) ?_
        refine lv_bipush (v := 6) hx hb dX6_way_24 (by decide) ?_
        refine lv_icmp_ge (tgt := 33) hx hb dX6_way_26 (by decide) (fun c_45 => ?_) (fun c_45 => ?_)
        · have h := h.1 c_45
          refine lv_iconst (v := 1) hx hb dX6_way_33 (by decide) ?_
          refine va_put (D := D) (ci := 5) (v := .int 1) (ty := .int) (C := RX6) (T := TX6) (N := 18) hx hb hts (by decide +kernel) tyX6 tyX6_ok nmX6 hown hK hP hD hS 0 rfl rfl 12 (by decide) (hts (.fieldLink RX6 52 "PartGraphsModel" "fault" "I") (by decide +kernel)) (fun _ h9 => h9) rfl (by decide +kernel) rfl rfl (Nat.le_of_ble_eq_true rfl) dX6_way_34 (fun H locs hP hD hS => ?_)
          have hP : va_P D vwCl (sh_M cs adM mpM mkM mgM mcM mwM mfM mtM mhM mmM mdM mxM mnM szM 1 apM waM wrM fuM) H := hP
          have hD : va_D A (sh_M cs adM mpM mkM mgM mcM mwM mfM mtM mhM mmM mdM mxM mnM szM 1 apM waM wrM fuM) := hD
          refine lv_aload_n hx hb dX6_way_37 rfl (lv_at hl 0 rfl) ?_
          refine va_get (D := D) (ci := 5) (v := .int 1) (C := RX6) (T := TX6) (N := 18) hx hb hts (by decide +kernel) hown hK hP 0 rfl rfl 12 (by decide) (hts (.fieldLink RX6 52 "PartGraphsModel" "fault" "I") (by decide +kernel)) (fun _ h9 => h9) rfl dX6_way_38 ?_
          refine lv_if_ne (tgt := 59) hx hb dX6_way_41 (by decide) (fun c_46 => ?_) (fun c_46 => ?_)
          · have h := h.2 c_46
            refine lv_iconst (v := 0) hx hb dX6_way_59 (by decide) ?_
            exact W.zret (v := 0) hx hb hr (by decide) (fun t ht hW => ⟨⟨0, (mpM, mkM, mgM, mcM, mwM, mfM, mtM, mhM, mmM, mdM, 1), rfl, h, by rw [ht]; exact hP, va_K.moved hW.alike hK, hD⟩, hS.F ht⟩) hS.2.2 dX6_way_60
          · have h := h.1 c_46
            refine lv_aload_n hx hb dX6_way_44 rfl (lv_at hl 0 rfl) ?_
            refine lv_iconst (v := 2) hx hb dX6_way_45 (by decide) ?_
            refine lv_iload_n hx hb dX6_way_46 rfl (lv_at hl 1 rfl) ?_
            refine lv_iload_n hx hb dX6_way_47 rfl (lv_at hl 2 rfl) ?_
            refine lv_iload_n hx hb dX6_way_48 rfl (lv_at hl 3 rfl) ?_
            have hFc := va_free (wc := (sh_M cs adM mpM mkM mgM mcM mwM mfM mtM mhM mmM mdM mxM mnM szM 1 apM waM wrM fuM)) hD hS hA [0, 1, 2, 3, 4, 5, 6, 7, 8, 9, 10, 11, 12] rfl
            refine va_calli (va_runV (As := [.int 2, .int p1, .int p2, .int p3]) (rest := []) ⟨hx, hb, hml, hown, hts⟩ (met_X6_tell l D cs ev _ adM mpM mkM mgM mcM mwM mfM mtM mhM mmM mdM mxM mnM szM 1 apM waM wrM fuM 2 p1 p2 p3 _ h) (cwV 4 hts gX6_way_X6_tell rfl rfl rfl (by decide +kernel) ⟨Nat.le_of_ble_eq_true rfl, Nat.le_of_ble_eq_true rfl⟩) (mPreV (va_recv hK hP (ci := 5) (q0 := 0) rfl rfl) hP hD hS hK hE hFc [0, 1, 2, 3, 4, 5, 6, 7, 8, 9, 10, 11, 12] (by decide) rfl) rfl rfl hl.1 rfl (lv_room (Nat.le_of_ble_eq_true rfl)) dX6_way_49 ⟨Nat.le_of_ble_eq_true rfl, Nat.le_of_ble_eq_true rfl⟩) hS (fun q _ h => hFc q h) hFc (fun r_47 u t H1 locs ht hvm hw hB hz1 hk1 hS => ?_)
            obtain ⟨mp_48, mk_49, mg_50, mc_51, mw_52, mf_53, mt_54, mh_55, mm_56, md_57⟩ := u
            have h := hw
            obtain ⟨hP1, hK1, hD1⟩ := hB
            rw [ht] at hP1
            obtain ⟨hP, hD⟩ := mJoin (wr := ([] : va_W)) (w1 := (sh_M cs adM mp_48 mk_49 mg_50 mc_51 mw_52 mf_53 mt_54 mh_55 mm_56 md_57 mxM mnM szM 1 apM waM wrM fuM)) (w' := (sh_M cs adM mp_48 mk_49 mg_50 mc_51 mw_52 mf_53 mt_54 mh_55 mm_56 md_57 mxM mnM szM 1 apM waM wrM fuM)) hP hD [0, 1, 2, 3, 4, 5, 6, 7, 8, 9, 10, 11, 12] [] rfl rfl (by decide) (by decide) hk1 hFc hP1 hD1 [0, 1, 2, 3, 4, 5, 6, 7, 8, 9, 10, 11, 12] (by decide) rfl
            generalize H1 = H at hP hS ⊢
            refine lv_if_eq (tgt := 59) hx hb dX6_way_52 (by decide) (fun c_58 => ?_) (fun c_58 => ?_)
            · have h := h.1 c_58
              refine lv_iconst (v := 0) hx hb dX6_way_59 (by decide) ?_
              exact W.zret (v := 0) hx hb hr (by decide) (fun t ht hW => ⟨⟨0, (mp_48, mk_49, mg_50, mc_51, mw_52, mf_53, mt_54, mh_55, mm_56, md_57, 1), rfl, h, by rw [ht]; exact hP, va_K.moved hW.alike hK, hD⟩, hS.F ht⟩) hS.2.2 dX6_way_60
            · have h := h.2 c_58
              refine lv_iconst (v := 1) hx hb dX6_way_55 (by decide) ?_
              refine lv_goto (tgt := 60) hx hb dX6_way_56 (by decide) ?_
              exact W.zret (v := 1) hx hb hr (by decide) (fun t ht hW => ⟨⟨1, (mp_48, mk_49, mg_50, mc_51, mw_52, mf_53, mt_54, mh_55, mm_56, md_57, 1), rfl, h, by rw [ht]; exact hP, va_K.moved hW.alike hK, hD⟩, hS.F ht⟩) hS.2.2 dX6_way_60
        · have h := h.2 c_45
          refine lv_iconst (v := 0) hx hb dX6_way_29 (by decide) ?_
          refine lv_goto (tgt := 34) hx hb dX6_way_30 (by decide) ?_
          refine va_put (D := D) (ci := 5) (v := .int 0) (ty := .int) (C := RX6) (T := TX6) (N := 18) hx hb hts (by decide +kernel) tyX6 tyX6_ok nmX6 hown hK hP hD hS 0 rfl rfl 12 (by decide) (hts (.fieldLink RX6 52 "PartGraphsModel" "fault" "I") (by decide +kernel)) (fun _ h9 => h9) rfl (by decide +kernel) rfl rfl (Nat.le_of_ble_eq_true rfl) dX6_way_34 (fun H locs hP hD hS => ?_)
          have hP : va_P D vwCl (sh_M cs adM mpM mkM mgM mcM mwM mfM mtM mhM mmM mdM mxM mnM szM 0 apM waM wrM fuM) H := hP
          have hD : va_D A (sh_M cs adM mpM mkM mgM mcM mwM mfM mtM mhM mmM mdM mxM mnM szM 0 apM waM wrM fuM) := hD
          refine lv_aload_n hx hb dX6_way_37 rfl (lv_at hl 0 rfl) ?_
          refine va_get (D := D) (ci := 5) (v := .int 0) (C := RX6) (T := TX6) (N := 18) hx hb hts (by decide +kernel) hown hK hP 0 rfl rfl 12 (by decide) (hts (.fieldLink RX6 52 "PartGraphsModel" "fault" "I") (by decide +kernel)) (fun _ h9 => h9) rfl dX6_way_38 ?_
          refine lv_if_ne (tgt := 59) hx hb dX6_way_41 (by decide) (fun c_59 => ?_) (fun c_59 => ?_)
          · have h := h.2 c_59
            refine lv_iconst (v := 0) hx hb dX6_way_59 (by decide) ?_
            exact W.zret (v := 0) hx hb hr (by decide) (fun t ht hW => ⟨⟨0, (mpM, mkM, mgM, mcM, mwM, mfM, mtM, mhM, mmM, mdM, 0), rfl, h, by rw [ht]; exact hP, va_K.moved hW.alike hK, hD⟩, hS.F ht⟩) hS.2.2 dX6_way_60
          · have h := h.1 c_59
            refine lv_aload_n hx hb dX6_way_44 rfl (lv_at hl 0 rfl) ?_
            refine lv_iconst (v := 2) hx hb dX6_way_45 (by decide) ?_
            refine lv_iload_n hx hb dX6_way_46 rfl (lv_at hl 1 rfl) ?_
            refine lv_iload_n hx hb dX6_way_47 rfl (lv_at hl 2 rfl) ?_
            refine lv_iload_n hx hb dX6_way_48 rfl (lv_at hl 3 rfl) ?_
            have hFc := va_free (wc := (sh_M cs adM mpM mkM mgM mcM mwM mfM mtM mhM mmM mdM mxM mnM szM 0 apM waM wrM fuM)) hD hS hA [0, 1, 2, 3, 4, 5, 6, 7, 8, 9, 10, 11, 12] rfl
            refine va_calli (va_runV (As := [.int 2, .int p1, .int p2, .int p3]) (rest := []) ⟨hx, hb, hml, hown, hts⟩ (met_X6_tell l D cs ev _ adM mpM mkM mgM mcM mwM mfM mtM mhM mmM mdM mxM mnM szM 0 apM waM wrM fuM 2 p1 p2 p3 _ h) (cwV 4 hts gX6_way_X6_tell rfl rfl rfl (by decide +kernel) ⟨Nat.le_of_ble_eq_true rfl, Nat.le_of_ble_eq_true rfl⟩) (mPreV (va_recv hK hP (ci := 5) (q0 := 0) rfl rfl) hP hD hS hK hE hFc [0, 1, 2, 3, 4, 5, 6, 7, 8, 9, 10, 11, 12] (by decide) rfl) rfl rfl hl.1 rfl (lv_room (Nat.le_of_ble_eq_true rfl)) dX6_way_49 ⟨Nat.le_of_ble_eq_true rfl, Nat.le_of_ble_eq_true rfl⟩) hS (fun q _ h => hFc q h) hFc (fun r_60 u t H1 locs ht hvm hw hB hz1 hk1 hS => ?_)
            obtain ⟨mp_61, mk_62, mg_63, mc_64, mw_65, mf_66, mt_67, mh_68, mm_69, md_70⟩ := u
            have h := hw
            obtain ⟨hP1, hK1, hD1⟩ := hB
            rw [ht] at hP1
            obtain ⟨hP, hD⟩ := mJoin (wr := ([] : va_W)) (w1 := (sh_M cs adM mp_61 mk_62 mg_63 mc_64 mw_65 mf_66 mt_67 mh_68 mm_69 md_70 mxM mnM szM 0 apM waM wrM fuM)) (w' := (sh_M cs adM mp_61 mk_62 mg_63 mc_64 mw_65 mf_66 mt_67 mh_68 mm_69 md_70 mxM mnM szM 0 apM waM wrM fuM)) hP hD [0, 1, 2, 3, 4, 5, 6, 7, 8, 9, 10, 11, 12] [] rfl rfl (by decide) (by decide) hk1 hFc hP1 hD1 [0, 1, 2, 3, 4, 5, 6, 7, 8, 9, 10, 11, 12] (by decide) rfl
            generalize H1 = H at hP hS ⊢
            refine lv_if_eq (tgt := 59) hx hb dX6_way_52 (by decide) (fun c_71 => ?_) (fun c_71 => ?_)
            · have h := h.1 c_71
              refine lv_iconst (v := 0) hx hb dX6_way_59 (by decide) ?_
              exact W.zret (v := 0) hx hb hr (by decide) (fun t ht hW => ⟨⟨0, (mp_61, mk_62, mg_63, mc_64, mw_65, mf_66, mt_67, mh_68, mm_69, md_70, 0), rfl, h, by rw [ht]; exact hP, va_K.moved hW.alike hK, hD⟩, hS.F ht⟩) hS.2.2 dX6_way_60
            · have h := h.2 c_71
              refine lv_iconst (v := 1) hx hb dX6_way_55 (by decide) ?_
              refine lv_goto (tgt := 60) hx hb dX6_way_56 (by decide) ?_
              exact W.zret (v := 1) hx hb hr (by decide) (fun t ht hW => ⟨⟨1, (mp_61, mk_62, mg_63, mc_64, mw_65, mf_66, mt_67, mh_68, mm_69, md_70, 0), rfl, h, by rw [ht]; exact hP, va_K.moved hW.alike hK, hD⟩, hS.F ht⟩) hS.2.2 dX6_way_60
def wp_X6_option (mpM : Nat → Int32) (mkM : Nat → Int32) (mgM : Nat → Int32) (mcM : Nat → Int32) (mwM : Nat → Int32) (mfM : Nat → Int32) (mtM : Nat → Int32) (mhM : Nat → Int32) (mmM : Nat → Int32) (mdM : Nat → Int32) (p1 : Int32) (p2 : Int32) (post : Int32 → ((Nat → Int32) × (Nat → Int32) × (Nat → Int32) × (Nat → Int32) × (Nat → Int32) × (Nat → Int32) × (Nat → Int32) × (Nat → Int32) × (Nat → Int32) × (Nat → Int32) × Int32) → Prop) : Prop :=
    wp_X6_tell mpM mkM mgM mcM mwM mfM mtM mhM mmM mdM 5 p1 p2 0 (fun r_1 u => match u with | (mp_2, mk_3, mg_4, mc_5, mw_6, mf_7, mt_8, mh_9, mm_10, md_11) => (narrow .boolean (.int r_1) = .int r_1 ∧ post r_1 (mp_2, mk_3, mg_4, mc_5, mw_6, mf_7, mt_8, mh_9, mm_10, md_11, 0)))
set_option maxHeartbeats 4000000 in
set_option maxRecDepth 100000 in
theorem met_X6_option (l : Launch) (D : va_G) (cs : Nat → ClassId) (ev : Nat → Nat → Nat) (sz0 : Nat) (adM : Nat → Nat) (mpM : Nat → Int32) (mkM : Nat → Int32) (mgM : Nat → Int32) (mcM : Nat → Int32) (mwM : Nat → Int32) (mfM : Nat → Int32) (mtM : Nat → Int32) (mhM : Nat → Int32) (mmM : Nat → Int32) (mdM : Nat → Int32) (mxM : Nat → Int32) (mnM : Nat → Int32) (szM : Int32) (faM : Int32) (apM : Int32) (waM : Int32) (wrM : Int32) (fuM : Int32) (p1 : Int32) (p2 : Int32) (post : Int32 → ((Nat → Int32) × (Nat → Int32) × (Nat → Int32) × (Nat → Int32) × (Nat → Int32) × (Nat → Int32) × (Nat → Int32) × (Nat → Int32) × (Nat → Int32) × (Nat → Int32) × Int32) → Prop) (h : wp_X6_option mpM mkM mgM mcM mwM mfM mtM mhM mmM mdM p1 p2 post) : Met l yX6_option wsX6_option ({ frames := 3, cells := 0, slots := 0, locals := 73 }) (va_Pc [.ref (adM 0), .int p1, .int p2] (mPre D cs ev (sh_M cs adM mpM mkM mgM mcM mwM mfM mtM mhM mmM mdM mxM mnM szM faM apM waM wrM fuM) sz0)) (va_Qi post (fun u t => match u with | (mpM', mkM', mgM', mcM', mwM', mfM', mtM', mhM', mmM', mdM', faM') => mAt D cs (va_A (sh_M cs adM mpM mkM mgM mcM mwM mfM mtM mhM mmM mdM mxM mnM szM faM apM waM wrM fuM) sz0) (sh_M cs adM mpM' mkM' mgM' mcM' mwM' mfM' mtM' mhM' mmM' mdM' mxM mnM szM faM' apM waM wrM fuM) t) (va_A (sh_M cs adM mpM mkM mgM mcM mwM mfM mtM mhM mmM mdM mxM mnM szM faM apM waM wrM fuM) sz0)) 0 0 (va_A (sh_M cs adM mpM mkM mgM mcM mwM mfM mtM mhM mmM mdM mxM mnM szM faM apM waM wrM fuM) sz0) := by
  refine Met.ofW (cc := cX6_option) (maxL := 3) (ret := (some .boolean)) (by decide) rfl ?_
  intro p e s m args below meth c s₁ B hml hv
  obtain ⟨rfl, hsz, hP, hK, hD0, hE⟩ := hv
  have hx := B.exec
  have hb := B.bytes
  have hr := B.returns
  have hts := atoms_spec (ws := wsX6_option) B.pre
  have hown : s.vm.findClass RX6 = some m.cls := findClass_of_methodNamed B.named
  have hlocks := B.notSynchronized
  subst hsz
  have hD := hD0.self (sz := s.heap.size)
  generalize hAe : va_A (sh_M cs adM mpM mkM mgM mcM mwM mfM mtM mhM mmM mdM mxM mnM szM faM apM waM wrM fuM) s.heap.size = A at hD hE ⊢
  have hA : ∀ q : Nat, s.heap.size ≤ q → A q := fun q h => by rw [← hAe]; exact Or.inr h
  have hS : va_S A s.heap s.heap [] := va_S.rf
  have hl := lv_entry ([.ref (adM 0), .int p1, .int p2]) (n := 3) (Nat.le_of_ble_eq_true rfl)
  rw [lg_entry_eq]
  generalize (lg_sl ([.ref (adM 0), .int p1, .int p2]) ++ List.replicate (3 - (lg_sl ([.ref (adM 0), .int p1, .int p2])).length) Slot.unset).toArray = ls at hl ⊢
  have hl : lv_has ls 3 [(0, .ref (adM 0)), (1, .int p1), (2, .int p2)] := hl
  refine lv_aload_n hx hb dX6_option_0 rfl (lv_at hl 0 rfl) ?_
  refine lv_iconst (v := 0) hx hb dX6_option_1 (by decide) ?_
  refine va_put (D := D) (ci := 5) (v := .int 0) (ty := .int) (C := RX6) (T := TX6) (N := 18) hx hb hts (by decide +kernel) tyX6 tyX6_ok nmX6 hown hK hP hD hS 0 rfl rfl 12 (by decide) (hts (.fieldLink RX6 52 "PartGraphsModel" "fault" "I") (by decide +kernel)) (fun _ h9 => h9) rfl (by decide +kernel) rfl rfl (Nat.le_of_ble_eq_true rfl) dX6_option_2 (fun H locs hP hD hS => ?_)
  have hP : va_P D vwCl (sh_M cs adM mpM mkM mgM mcM mwM mfM mtM mhM mmM mdM mxM mnM szM 0 apM waM wrM fuM) H := hP
  have hD : va_D A (sh_M cs adM mpM mkM mgM mcM mwM mfM mtM mhM mmM mdM mxM mnM szM 0 apM waM wrM fuM) := hD
  refine lv_aload_n hx hb dX6_option_5 rfl (lv_at hl 0 rfl) ?_
  refine lv_iconst (v := 5) hx hb dX6_option_6 (by decide) ?_
  refine lv_iload_n hx hb dX6_option_7 rfl (lv_at hl 1 rfl) ?_
  refine lv_iload_n hx hb dX6_option_8 rfl (lv_at hl 2 rfl) ?_
  refine lv_iconst (v := 0) hx hb dX6_option_9 (by decide) ?_
  have hFc := va_free (wc := (sh_M cs adM mpM mkM mgM mcM mwM mfM mtM mhM mmM mdM mxM mnM szM 0 apM waM wrM fuM)) hD hS hA [0, 1, 2, 3, 4, 5, 6, 7, 8, 9, 10, 11, 12] rfl
  refine va_calli (va_runV (As := [.int 5, .int p1, .int p2, .int 0]) (rest := []) ⟨hx, hb, hml, hown, hts⟩ (met_X6_tell l D cs ev _ adM mpM mkM mgM mcM mwM mfM mtM mhM mmM mdM mxM mnM szM 0 apM waM wrM fuM 5 p1 p2 0 _ h) (cwV 4 hts gX6_option_X6_tell rfl rfl rfl (by decide +kernel) ⟨Nat.le_of_ble_eq_true rfl, Nat.le_of_ble_eq_true rfl⟩) (mPreV (va_recv hK hP (ci := 5) (q0 := 0) rfl rfl) hP hD hS hK hE hFc [0, 1, 2, 3, 4, 5, 6, 7, 8, 9, 10, 11, 12] (by decide) rfl) rfl rfl hl.1 rfl (lv_room (Nat.le_of_ble_eq_true rfl)) dX6_option_10 ⟨Nat.le_of_ble_eq_true rfl, Nat.le_of_ble_eq_true rfl⟩) hS (fun q _ h => hFc q h) hFc (fun r_1 u t H1 locs ht hvm hw hB hz1 hk1 hS => ?_)
  obtain ⟨mp_2, mk_3, mg_4, mc_5, mw_6, mf_7, mt_8, mh_9, mm_10, md_11⟩ := u
  have h := hw
  obtain ⟨hP1, hK1, hD1⟩ := hB
  rw [ht] at hP1
  obtain ⟨hP, hD⟩ := mJoin (wr := ([] : va_W)) (w1 := (sh_M cs adM mp_2 mk_3 mg_4 mc_5 mw_6 mf_7 mt_8 mh_9 mm_10 md_11 mxM mnM szM 0 apM waM wrM fuM)) (w' := (sh_M cs adM mp_2 mk_3 mg_4 mc_5 mw_6 mf_7 mt_8 mh_9 mm_10 md_11 mxM mnM szM 0 apM waM wrM fuM)) hP hD [0, 1, 2, 3, 4, 5, 6, 7, 8, 9, 10, 11, 12] [] rfl rfl (by decide) (by decide) hk1 hFc hP1 hD1 [0, 1, 2, 3, 4, 5, 6, 7, 8, 9, 10, 11, 12] (by decide) rfl
  generalize H1 = H at hP hS ⊢
  have hn := h.1
  have h := h.2
  exact W.zret (v := r_1) hx hb hr hn (fun t ht hW => ⟨⟨r_1, (mp_2, mk_3, mg_4, mc_5, mw_6, mf_7, mt_8, mh_9, mm_10, md_11, 0), rfl, h, by rw [ht]; exact hP, va_K.moved hW.alike hK, hD⟩, hS.F ht⟩) hS.2.2 dX6_option_13
def wp_X6_hazard (mpM : Nat → Int32) (mkM : Nat → Int32) (mgM : Nat → Int32) (mcM : Nat → Int32) (mwM : Nat → Int32) (mfM : Nat → Int32) (mtM : Nat → Int32) (mhM : Nat → Int32) (mmM : Nat → Int32) (mdM : Nat → Int32) (p1 : Int32) (p2 : Int32) (post : Int32 → ((Nat → Int32) × (Nat → Int32) × (Nat → Int32) × (Nat → Int32) × (Nat → Int32) × (Nat → Int32) × (Nat → Int32) × (Nat → Int32) × (Nat → Int32) × (Nat → Int32) × Int32) → Prop) : Prop :=
    wp_X6_tell mpM mkM mgM mcM mwM mfM mtM mhM mmM mdM 4 p1 p2 0 (fun r_1 u => match u with | (mp_2, mk_3, mg_4, mc_5, mw_6, mf_7, mt_8, mh_9, mm_10, md_11) => (narrow .boolean (.int r_1) = .int r_1 ∧ post r_1 (mp_2, mk_3, mg_4, mc_5, mw_6, mf_7, mt_8, mh_9, mm_10, md_11, 0)))
set_option maxHeartbeats 4000000 in
set_option maxRecDepth 100000 in
theorem met_X6_hazard (l : Launch) (D : va_G) (cs : Nat → ClassId) (ev : Nat → Nat → Nat) (sz0 : Nat) (adM : Nat → Nat) (mpM : Nat → Int32) (mkM : Nat → Int32) (mgM : Nat → Int32) (mcM : Nat → Int32) (mwM : Nat → Int32) (mfM : Nat → Int32) (mtM : Nat → Int32) (mhM : Nat → Int32) (mmM : Nat → Int32) (mdM : Nat → Int32) (mxM : Nat → Int32) (mnM : Nat → Int32) (szM : Int32) (faM : Int32) (apM : Int32) (waM : Int32) (wrM : Int32) (fuM : Int32) (p1 : Int32) (p2 : Int32) (post : Int32 → ((Nat → Int32) × (Nat → Int32) × (Nat → Int32) × (Nat → Int32) × (Nat → Int32) × (Nat → Int32) × (Nat → Int32) × (Nat → Int32) × (Nat → Int32) × (Nat → Int32) × Int32) → Prop) (h : wp_X6_hazard mpM mkM mgM mcM mwM mfM mtM mhM mmM mdM p1 p2 post) : Met l yX6_hazard wsX6_hazard ({ frames := 3, cells := 0, slots := 0, locals := 73 }) (va_Pc [.ref (adM 0), .int p1, .int p2] (mPre D cs ev (sh_M cs adM mpM mkM mgM mcM mwM mfM mtM mhM mmM mdM mxM mnM szM faM apM waM wrM fuM) sz0)) (va_Qi post (fun u t => match u with | (mpM', mkM', mgM', mcM', mwM', mfM', mtM', mhM', mmM', mdM', faM') => mAt D cs (va_A (sh_M cs adM mpM mkM mgM mcM mwM mfM mtM mhM mmM mdM mxM mnM szM faM apM waM wrM fuM) sz0) (sh_M cs adM mpM' mkM' mgM' mcM' mwM' mfM' mtM' mhM' mmM' mdM' mxM mnM szM faM' apM waM wrM fuM) t) (va_A (sh_M cs adM mpM mkM mgM mcM mwM mfM mtM mhM mmM mdM mxM mnM szM faM apM waM wrM fuM) sz0)) 0 0 (va_A (sh_M cs adM mpM mkM mgM mcM mwM mfM mtM mhM mmM mdM mxM mnM szM faM apM waM wrM fuM) sz0) := by
  refine Met.ofW (cc := cX6_hazard) (maxL := 3) (ret := (some .boolean)) (by decide) rfl ?_
  intro p e s m args below meth c s₁ B hml hv
  obtain ⟨rfl, hsz, hP, hK, hD0, hE⟩ := hv
  have hx := B.exec
  have hb := B.bytes
  have hr := B.returns
  have hts := atoms_spec (ws := wsX6_hazard) B.pre
  have hown : s.vm.findClass RX6 = some m.cls := findClass_of_methodNamed B.named
  have hlocks := B.notSynchronized
  subst hsz
  have hD := hD0.self (sz := s.heap.size)
  generalize hAe : va_A (sh_M cs adM mpM mkM mgM mcM mwM mfM mtM mhM mmM mdM mxM mnM szM faM apM waM wrM fuM) s.heap.size = A at hD hE ⊢
  have hA : ∀ q : Nat, s.heap.size ≤ q → A q := fun q h => by rw [← hAe]; exact Or.inr h
  have hS : va_S A s.heap s.heap [] := va_S.rf
  have hl := lv_entry ([.ref (adM 0), .int p1, .int p2]) (n := 3) (Nat.le_of_ble_eq_true rfl)
  rw [lg_entry_eq]
  generalize (lg_sl ([.ref (adM 0), .int p1, .int p2]) ++ List.replicate (3 - (lg_sl ([.ref (adM 0), .int p1, .int p2])).length) Slot.unset).toArray = ls at hl ⊢
  have hl : lv_has ls 3 [(0, .ref (adM 0)), (1, .int p1), (2, .int p2)] := hl
  refine lv_aload_n hx hb dX6_hazard_0 rfl (lv_at hl 0 rfl) ?_
  refine lv_iconst (v := 0) hx hb dX6_hazard_1 (by decide) ?_
  refine va_put (D := D) (ci := 5) (v := .int 0) (ty := .int) (C := RX6) (T := TX6) (N := 18) hx hb hts (by decide +kernel) tyX6 tyX6_ok nmX6 hown hK hP hD hS 0 rfl rfl 12 (by decide) (hts (.fieldLink RX6 52 "PartGraphsModel" "fault" "I") (by decide +kernel)) (fun _ h9 => h9) rfl (by decide +kernel) rfl rfl (Nat.le_of_ble_eq_true rfl) dX6_hazard_2 (fun H locs hP hD hS => ?_)
  have hP : va_P D vwCl (sh_M cs adM mpM mkM mgM mcM mwM mfM mtM mhM mmM mdM mxM mnM szM 0 apM waM wrM fuM) H := hP
  have hD : va_D A (sh_M cs adM mpM mkM mgM mcM mwM mfM mtM mhM mmM mdM mxM mnM szM 0 apM waM wrM fuM) := hD
  refine lv_aload_n hx hb dX6_hazard_5 rfl (lv_at hl 0 rfl) ?_
  refine lv_iconst (v := 4) hx hb dX6_hazard_6 (by decide) ?_
  refine lv_iload_n hx hb dX6_hazard_7 rfl (lv_at hl 1 rfl) ?_
  refine lv_iload_n hx hb dX6_hazard_8 rfl (lv_at hl 2 rfl) ?_
  refine lv_iconst (v := 0) hx hb dX6_hazard_9 (by decide) ?_
  have hFc := va_free (wc := (sh_M cs adM mpM mkM mgM mcM mwM mfM mtM mhM mmM mdM mxM mnM szM 0 apM waM wrM fuM)) hD hS hA [0, 1, 2, 3, 4, 5, 6, 7, 8, 9, 10, 11, 12] rfl
  refine va_calli (va_runV (As := [.int 4, .int p1, .int p2, .int 0]) (rest := []) ⟨hx, hb, hml, hown, hts⟩ (met_X6_tell l D cs ev _ adM mpM mkM mgM mcM mwM mfM mtM mhM mmM mdM mxM mnM szM 0 apM waM wrM fuM 4 p1 p2 0 _ h) (cwV 4 hts gX6_hazard_X6_tell rfl rfl rfl (by decide +kernel) ⟨Nat.le_of_ble_eq_true rfl, Nat.le_of_ble_eq_true rfl⟩) (mPreV (va_recv hK hP (ci := 5) (q0 := 0) rfl rfl) hP hD hS hK hE hFc [0, 1, 2, 3, 4, 5, 6, 7, 8, 9, 10, 11, 12] (by decide) rfl) rfl rfl hl.1 rfl (lv_room (Nat.le_of_ble_eq_true rfl)) dX6_hazard_10 ⟨Nat.le_of_ble_eq_true rfl, Nat.le_of_ble_eq_true rfl⟩) hS (fun q _ h => hFc q h) hFc (fun r_1 u t H1 locs ht hvm hw hB hz1 hk1 hS => ?_)
  obtain ⟨mp_2, mk_3, mg_4, mc_5, mw_6, mf_7, mt_8, mh_9, mm_10, md_11⟩ := u
  have h := hw
  obtain ⟨hP1, hK1, hD1⟩ := hB
  rw [ht] at hP1
  obtain ⟨hP, hD⟩ := mJoin (wr := ([] : va_W)) (w1 := (sh_M cs adM mp_2 mk_3 mg_4 mc_5 mw_6 mf_7 mt_8 mh_9 mm_10 md_11 mxM mnM szM 0 apM waM wrM fuM)) (w' := (sh_M cs adM mp_2 mk_3 mg_4 mc_5 mw_6 mf_7 mt_8 mh_9 mm_10 md_11 mxM mnM szM 0 apM waM wrM fuM)) hP hD [0, 1, 2, 3, 4, 5, 6, 7, 8, 9, 10, 11, 12] [] rfl rfl (by decide) (by decide) hk1 hFc hP1 hD1 [0, 1, 2, 3, 4, 5, 6, 7, 8, 9, 10, 11, 12] (by decide) rfl
  generalize H1 = H at hP hS ⊢
  have hn := h.1
  have h := h.2
  exact W.zret (v := r_1) hx hb hr hn (fun t ht hW => ⟨⟨r_1, (mp_2, mk_3, mg_4, mc_5, mw_6, mf_7, mt_8, mh_9, mm_10, md_11, 0), rfl, h, by rw [ht]; exact hP, va_K.moved hW.alike hK, hD⟩, hS.F ht⟩) hS.2.2 dX6_hazard_13
def wp_X6_damage (mpM : Nat → Int32) (mcM : Nat → Int32) (mwM : Nat → Int32) (mfM : Nat → Int32) (mhM : Nat → Int32) (mmM : Nat → Int32) (mdM : Nat → Int32) (p1 : Int32) (p2 : Int32) (post : Int32 → ((Nat → Int32) × Int32) → Prop) : Prop :=
    wp_X6_isAllowed mpM mcM mwM mfM mhM mmM 0 6 p1 p2 0 (fun r_1 _ => ((r_1 = 0 → post (-1) (mdM, 0)) ∧ (¬ r_1 = 0 → (vp_in p1 20 ∧ (vp_in p1 20 ∧ post (mdM p1.toNatClampNeg) (upd mdM p1.toNatClampNeg p2, 0))))))
set_option maxHeartbeats 4000000 in
set_option maxRecDepth 100000 in
theorem met_X6_damage (l : Launch) (D : va_G) (cs : Nat → ClassId) (ev : Nat → Nat → Nat) (sz0 : Nat) (adM : Nat → Nat) (mpM : Nat → Int32) (mkM : Nat → Int32) (mgM : Nat → Int32) (mcM : Nat → Int32) (mwM : Nat → Int32) (mfM : Nat → Int32) (mtM : Nat → Int32) (mhM : Nat → Int32) (mmM : Nat → Int32) (mdM : Nat → Int32) (mxM : Nat → Int32) (mnM : Nat → Int32) (szM : Int32) (faM : Int32) (apM : Int32) (waM : Int32) (wrM : Int32) (fuM : Int32) (p1 : Int32) (p2 : Int32) (post : Int32 → ((Nat → Int32) × Int32) → Prop) (h : wp_X6_damage mpM mcM mwM mfM mhM mmM mdM p1 p2 post) : Met l yX6_damage wsX6_damage ({ frames := 2, cells := 0, slots := 0, locals := 48 }) (va_Pc [.ref (adM 0), .int p1, .int p2] (mPre D cs ev (sh_M cs adM mpM mkM mgM mcM mwM mfM mtM mhM mmM mdM mxM mnM szM faM apM waM wrM fuM) sz0)) (va_Qi post (fun u t => match u with | (mdM', faM') => mAt D cs (va_A (sh_M cs adM mpM mkM mgM mcM mwM mfM mtM mhM mmM mdM mxM mnM szM faM apM waM wrM fuM) sz0) (sh_M cs adM mpM mkM mgM mcM mwM mfM mtM mhM mmM mdM' mxM mnM szM faM' apM waM wrM fuM) t) (va_A (sh_M cs adM mpM mkM mgM mcM mwM mfM mtM mhM mmM mdM mxM mnM szM faM apM waM wrM fuM) sz0)) 0 0 (va_A (sh_M cs adM mpM mkM mgM mcM mwM mfM mtM mhM mmM mdM mxM mnM szM faM apM waM wrM fuM) sz0) := by
  refine Met.ofW (cc := cX6_damage) (maxL := 4) (ret := (some .int)) (by decide) rfl ?_
  intro p e s m args below meth c s₁ B hml hv
  obtain ⟨rfl, hsz, hP, hK, hD0, hE⟩ := hv
  have hx := B.exec
  have hb := B.bytes
  have hr := B.returns
  have hts := atoms_spec (ws := wsX6_damage) B.pre
  have hown : s.vm.findClass RX6 = some m.cls := findClass_of_methodNamed B.named
  have hlocks := B.notSynchronized
  subst hsz
  have hD := hD0.self (sz := s.heap.size)
  generalize hAe : va_A (sh_M cs adM mpM mkM mgM mcM mwM mfM mtM mhM mmM mdM mxM mnM szM faM apM waM wrM fuM) s.heap.size = A at hD hE ⊢
  have hA : ∀ q : Nat, s.heap.size ≤ q → A q := fun q h => by rw [← hAe]; exact Or.inr h
  have hS : va_S A s.heap s.heap [] := va_S.rf
  have hl := lv_entry ([.ref (adM 0), .int p1, .int p2]) (n := 4) (Nat.le_of_ble_eq_true rfl)
  rw [lg_entry_eq]
  generalize (lg_sl ([.ref (adM 0), .int p1, .int p2]) ++ List.replicate (4 - (lg_sl ([.ref (adM 0), .int p1, .int p2])).length) Slot.unset).toArray = ls at hl ⊢
  have hl : lv_has ls 4 [(0, .ref (adM 0)), (1, .int p1), (2, .int p2)] := hl
  refine lv_aload_n hx hb dX6_damage_0 rfl (lv_at hl 0 rfl) ?_
  refine lv_iconst (v := 0) hx hb dX6_damage_1 (by decide) ?_
  refine va_put (D := D) (ci := 5) (v := .int 0) (ty := .int) (C := RX6) (T := TX6) (N := 18) hx hb hts (by decide +kernel) tyX6 tyX6_ok nmX6 hown hK hP hD hS 0 rfl rfl 12 (by decide) (hts (.fieldLink RX6 52 "PartGraphsModel" "fault" "I") (by decide +kernel)) (fun _ h9 => h9) rfl (by decide +kernel) rfl rfl (Nat.le_of_ble_eq_true rfl) dX6_damage_2 (fun H locs hP hD hS => ?_)
  have hP : va_P D vwCl (sh_M cs adM mpM mkM mgM mcM mwM mfM mtM mhM mmM mdM mxM mnM szM 0 apM waM wrM fuM) H := hP
  have hD : va_D A (sh_M cs adM mpM mkM mgM mcM mwM mfM mtM mhM mmM mdM mxM mnM szM 0 apM waM wrM fuM) := hD
  refine lv_aload_n hx hb dX6_damage_5 rfl (lv_at hl 0 rfl) ?_
  refine lv_iconst (v := 0) hx hb dX6_damage_6 (by decide) ?_
  refine lv_bipush (v := 6) hx hb dX6_damage_7 (by decide) ?_
  refine lv_iload_n hx hb dX6_damage_9 rfl (lv_at hl 1 rfl) ?_
  refine lv_iload_n hx hb dX6_damage_10 rfl (lv_at hl 2 rfl) ?_
  refine lv_iconst (v := 0) hx hb dX6_damage_11 (by decide) ?_
  have hFc := va_free (wc := (sh_M cs adM mpM mkM mgM mcM mwM mfM mtM mhM mmM mdM mxM mnM szM 0 apM waM wrM fuM)) hD hS hA [0, 1, 2, 3, 4, 5, 6, 7, 8, 9, 10, 11, 12] rfl
  refine va_calli (va_runV (As := [.int 0, .int 6, .int p1, .int p2, .int 0]) (rest := []) ⟨hx, hb, hml, hown, hts⟩ (met_X6_isAllowed l D cs ev _ adM mpM mkM mgM mcM mwM mfM mtM mhM mmM mdM mxM mnM szM 0 apM waM wrM fuM 0 6 p1 p2 0 _ h) (cwV 5 hts gX6_damage_X6_isAllowed rfl rfl rfl (by decide +kernel) ⟨Nat.le_of_ble_eq_true rfl, Nat.le_of_ble_eq_true rfl⟩) (mPreV (va_recv hK hP (ci := 5) (q0 := 0) rfl rfl) hP hD hS hK hE hFc [0, 1, 2, 3, 4, 5, 6, 7, 8, 9, 10, 11, 12] (by decide) rfl) rfl rfl hl.1 rfl (lv_room (Nat.le_of_ble_eq_true rfl)) dX6_damage_12 ⟨Nat.le_of_ble_eq_true rfl, Nat.le_of_ble_eq_true rfl⟩) hS (fun q _ h => hFc q h) hFc (fun r_1 u t H1 locs ht hvm hw hB hz1 hk1 hS => ?_)
  have h := hw
  obtain ⟨hP1, hK1, hD1⟩ := hB
  rw [ht] at hP1
  obtain ⟨hP, hD⟩ := mJoin (wr := ([] : va_W)) (w1 := (sh_M cs adM mpM mkM mgM mcM mwM mfM mtM mhM mmM mdM mxM mnM szM 0 apM waM wrM fuM)) (w' := (sh_M cs adM mpM mkM mgM mcM mwM mfM mtM mhM mmM mdM mxM mnM szM 0 apM waM wrM fuM)) hP hD [0, 1, 2, 3, 4, 5, 6, 7, 8, 9, 10, 11, 12] [] rfl rfl (by decide) (by decide) hk1 hFc hP1 hD1 [0, 1, 2, 3, 4, 5, 6, 7, 8, 9, 10, 11, 12] (by decide) rfl
  generalize H1 = H at hP hS ⊢
  refine lv_if_ne (tgt := 20) hx hb dX6_damage_15 (by decide) (fun c_2 => ?_) (fun c_2 => ?_)
  · have h := h.2 c_2
    refine lv_aload_n hx hb dX6_damage_20 rfl (lv_at hl 0 rfl) ?_
    refine va_get (D := D) (ci := 5) (v := .ref (adM 10)) (C := RX6) (T := TX6) (N := 18) hx hb hts (by decide +kernel) hown hK hP 0 rfl rfl 9 (by decide) (hts (.fieldLink RX6 38 "PartGraphsModel" "damages" "[I") (by decide +kernel)) (fun _ h9 => h9) rfl dX6_damage_21 ?_
    refine lv_iload_n hx hb dX6_damage_24 rfl (lv_at hl 1 rfl) ?_
    have hin := h.1
    have h := h.2
    refine va_iald (D := D) (cl := vwCl) hx hb hK hP 10 0 rfl rfl hin dX6_damage_25 ?_
    refine lv_istore_n (lv' := [(3, .int (mdM p1.toNatClampNeg)), (0, .ref (adM 0)), (1, .int p1), (2, .int p2)]) hx hb dX6_damage_26 rfl hl (by decide) rfl (fun ls hl => ?_)
    refine lv_aload_n hx hb dX6_damage_27 rfl (lv_at hl 1 rfl) ?_
    refine va_get (D := D) (ci := 5) (v := .ref (adM 10)) (C := RX6) (T := TX6) (N := 18) hx hb hts (by decide +kernel) hown hK hP 0 rfl rfl 9 (by decide) (hts (.fieldLink RX6 38 "PartGraphsModel" "damages" "[I") (by decide +kernel)) (fun _ h9 => h9) rfl dX6_damage_28 ?_
    refine lv_iload_n hx hb dX6_damage_31 rfl (lv_at hl 2 rfl) ?_
    refine lv_iload_n hx hb dX6_damage_32 rfl (lv_at hl 3 rfl) ?_
    have hin := h.1
    have h := h.2
    refine va_iast (D := D) (cl := vwCl) hx hb hK hP hD hS 10 0 rfl rfl hin dX6_damage_33 (fun H locs hP hD hS => ?_)
    have hP : va_P D vwCl (sh_M cs adM mpM mkM mgM mcM mwM mfM mtM mhM mmM (upd mdM p1.toNatClampNeg p2) mxM mnM szM 0 apM waM wrM fuM) H := hP
    have hD : va_D A (sh_M cs adM mpM mkM mgM mcM mwM mfM mtM mhM mmM (upd mdM p1.toNatClampNeg p2) mxM mnM szM 0 apM waM wrM fuM) := hD
    refine lv_iload_n hx hb dX6_damage_34 rfl (lv_at hl 0 rfl) ?_
    exact W.iret (v := mdM p1.toNatClampNeg) hx hb hr (fun t ht hW => ⟨⟨mdM p1.toNatClampNeg, (upd mdM p1.toNatClampNeg p2, 0), rfl, h, by rw [ht]; exact hP, va_K.moved hW.alike hK, hD⟩, hS.F ht⟩) hS.2.2 dX6_damage_35
  · have h := h.1 c_2
    refine lv_iconst (v := (-1)) hx hb dX6_damage_18 (by decide) ?_
    exact W.iret (v := (-1)) hx hb hr (fun t ht hW => ⟨⟨(-1), (mdM, 0), rfl, h, by rw [ht]; exact hP, va_K.moved hW.alike hK, hD⟩, hS.F ht⟩) hS.2.2 dX6_damage_19
