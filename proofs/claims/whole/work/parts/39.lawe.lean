def wp_law23 (L : Nat) (xs : Nat → Int32) (A23 : Nat → (Nat → Int32) → (Nat → Int32) → Int32 → Int32 → Int32 → Int32 → Int32 → (Nat → Int32) → (Nat → Int64) → (Nat → Int32) → (Nat → Int32) → (Nat → Int32) → (Nat → Int32) → (Nat → Int32) → (Nat → Int32) → (Nat → Int32) → (Nat → Int32) → Int32 → Int32 → (Nat → Int32) → (Nat → Int64) → (Nat → Int32) → (Nat → Int32) → (Nat → Int32) → (Nat → Int32) → (Nat → Int32) → (Nat → Int32) → (Nat → Int32) → (Nat → Int32) → Int32 → Int32 → (Nat → Int32) → (Nat → Int32) → (Nat → Int32) → (Nat → Int32) → (Nat → Int32) → (Nat → Int32) → (Nat → Int32) → (Nat → Int32) → (Nat → Int32) → (Nat → Int32) → (Nat → Int32) → (Nat → Int32) → Int32 → Int32 → Int32 → Int32 → Int32 → Int32 → (Nat → Int64) → Prop) (i : Nat) (txR : Nat → Int32) (nuR : Nat → Int32) (lnR : Int32) (bgR : Int32) (enR : Int32) (lfT : Int32) (foT : Int32) (kdP : Nat → Int32) (grP : Nat → Int64) (cvP : Nat → Int32) (brP : Nat → Int32) (hzP : Nat → Int32) (fmP : Nat → Int32) (dmP : Nat → Int32) (e1P : Nat → Int32) (e2P : Nat → Int32) (fkP : Nat → Int32) (pnP : Int32) (fnP : Int32) (kdQ : Nat → Int32) (grQ : Nat → Int64) (cvQ : Nat → Int32) (brQ : Nat → Int32) (hzQ : Nat → Int32) (fmQ : Nat → Int32) (dmQ : Nat → Int32) (e1Q : Nat → Int32) (e2Q : Nat → Int32) (fkQ : Nat → Int32) (pnQ : Int32) (fnQ : Int32) (mpM : Nat → Int32) (mkM : Nat → Int32) (mgM : Nat → Int32) (mcM : Nat → Int32) (mwM : Nat → Int32) (mfM : Nat → Int32) (mtM : Nat → Int32) (mhM : Nat → Int32) (mmM : Nat → Int32) (mdM : Nat → Int32) (mxM : Nat → Int32) (mnM : Nat → Int32) (szM : Int32) (faM : Int32) (apM : Int32) (waM : Int32) (wrM : Int32) (fuM : Int32) (ouO : Nat → Int64) : Prop :=
    ((((Int32.ofNat L) - 4) < (nI i) → True) ∧ (¬ ((Int32.ofNat L) - 4) < (nI i) → (vp_in (nI i) L ∧ ((((xs (nI i).toNatClampNeg) &&& 31) = 0 → wp_law128 L xs A23 i txR nuR lnR bgR enR lfT foT kdP grP cvP brP hzP fmP dmP e1P e2P fkP pnP fnP kdQ grQ cvQ brQ hzQ fmQ dmQ e1Q e2Q fkQ pnQ fnQ mpM mkM mgM mcM mwM mfM mtM mhM mmM mdM mxM mnM szM faM apM waM wrM fuM ouO) ∧ (¬ ((xs (nI i).toNatClampNeg) &&& 31) = 0 → ((((xs (nI i).toNatClampNeg) &&& 31) = 1 → wp_law153 L xs A23 i txR nuR lnR bgR enR lfT foT kdP grP cvP brP hzP fmP dmP e1P e2P fkP pnP fnP kdQ grQ cvQ brQ hzQ fmQ dmQ e1Q e2Q fkQ pnQ fnQ mpM mkM mgM mcM mwM mfM mtM mhM mmM mdM mxM mnM szM faM apM waM wrM fuM ouO) ∧ (¬ ((xs (nI i).toNatClampNeg) &&& 31) = 1 → ((((xs (nI i).toNatClampNeg) &&& 31) = 2 → wp_law166 L xs A23 i txR nuR lnR bgR enR lfT foT kdP grP cvP brP hzP fmP dmP e1P e2P fkP pnP fnP kdQ grQ cvQ brQ hzQ fmQ dmQ e1Q e2Q fkQ pnQ fnQ mpM mkM mgM mcM mwM mfM mtM mhM mmM mdM mxM mnM szM faM apM waM wrM fuM ouO) ∧ (¬ ((xs (nI i).toNatClampNeg) &&& 31) = 2 → ((((xs (nI i).toNatClampNeg) &&& 31) = 3 → wp_law235 L xs A23 i txR nuR lnR bgR enR lfT foT kdP grP cvP brP hzP fmP dmP e1P e2P fkP pnP fnP kdQ grQ cvQ brQ hzQ fmQ dmQ e1Q e2Q fkQ pnQ fnQ mpM mkM mgM mcM mwM mfM mtM mhM mmM mdM mxM mnM szM faM apM waM wrM fuM ouO) ∧ (¬ ((xs (nI i).toNatClampNeg) &&& 31) = 3 → ((((xs (nI i).toNatClampNeg) &&& 31) = 4 → wp_law284 L xs A23 i txR nuR lnR bgR enR lfT foT kdP grP cvP brP hzP fmP dmP e1P e2P fkP pnP fnP kdQ grQ cvQ brQ hzQ fmQ dmQ e1Q e2Q fkQ pnQ fnQ mpM mkM mgM mcM mwM mfM mtM mhM mmM mdM mxM mnM szM faM apM waM wrM fuM ouO) ∧ (¬ ((xs (nI i).toNatClampNeg) &&& 31) = 4 → ((((xs (nI i).toNatClampNeg) &&& 31) = 5 → wp_law321 L xs A23 i txR nuR lnR bgR enR lfT foT kdP grP cvP brP hzP fmP dmP e1P e2P fkP pnP fnP kdQ grQ cvQ brQ hzQ fmQ dmQ e1Q e2Q fkQ pnQ fnQ mpM mkM mgM mcM mwM mfM mtM mhM mmM mdM mxM mnM szM faM apM waM wrM fuM ouO) ∧ (¬ ((xs (nI i).toNatClampNeg) &&& 31) = 5 → ((((xs (nI i).toNatClampNeg) &&& 31) = 6 → wp_law408 L xs A23 i txR nuR lnR bgR enR lfT foT kdP grP cvP brP hzP fmP dmP e1P e2P fkP pnP fnP kdQ grQ cvQ brQ hzQ fmQ dmQ e1Q e2Q fkQ pnQ fnQ mpM mkM mgM mcM mwM mfM mtM mhM mmM mdM mxM mnM szM faM apM waM wrM fuM ouO) ∧ (¬ ((xs (nI i).toNatClampNeg) &&& 31) = 6 → ((((xs (nI i).toNatClampNeg) &&& 31) = 7 → wp_law445 L xs A23 i txR nuR lnR bgR enR lfT foT kdP grP cvP brP hzP fmP dmP e1P e2P fkP pnP fnP kdQ grQ cvQ brQ hzQ fmQ dmQ e1Q e2Q fkQ pnQ fnQ mpM mkM mgM mcM mwM mfM mtM mhM mmM mdM mxM mnM szM faM apM waM wrM fuM ouO) ∧ (¬ ((xs (nI i).toNatClampNeg) &&& 31) = 7 → ((((xs (nI i).toNatClampNeg) &&& 31) = 8 → wp_law470 L xs A23 i txR nuR lnR bgR enR lfT foT kdP grP cvP brP hzP fmP dmP e1P e2P fkP pnP fnP kdQ grQ cvQ brQ hzQ fmQ dmQ e1Q e2Q fkQ pnQ fnQ mpM mkM mgM mcM mwM mfM mtM mhM mmM mdM mxM mnM szM faM apM waM wrM fuM ouO) ∧ (¬ ((xs (nI i).toNatClampNeg) &&& 31) = 8 → ((((xs (nI i).toNatClampNeg) &&& 31) = 9 → wp_law507 L xs A23 i txR nuR lnR bgR enR lfT foT kdP grP cvP brP hzP fmP dmP e1P e2P fkP pnP fnP kdQ grQ cvQ brQ hzQ fmQ dmQ e1Q e2Q fkQ pnQ fnQ mpM mkM mgM mcM mwM mfM mtM mhM mmM mdM mxM mnM szM faM apM waM wrM fuM ouO) ∧ (¬ ((xs (nI i).toNatClampNeg) &&& 31) = 9 → ((((xs (nI i).toNatClampNeg) &&& 31) = 10 → wp_law544 L xs A23 i txR nuR lnR bgR enR lfT foT kdP grP cvP brP hzP fmP dmP e1P e2P fkP pnP fnP kdQ grQ cvQ brQ hzQ fmQ dmQ e1Q e2Q fkQ pnQ fnQ mpM mkM mgM mcM mwM mfM mtM mhM mmM mdM mxM mnM szM faM apM waM wrM fuM ouO) ∧ (¬ ((xs (nI i).toNatClampNeg) &&& 31) = 10 → ((((xs (nI i).toNatClampNeg) &&& 31) = 11 → wp_law593 L xs A23 i txR nuR lnR bgR enR lfT foT kdP grP cvP brP hzP fmP dmP e1P e2P fkP pnP fnP kdQ grQ cvQ brQ hzQ fmQ dmQ e1Q e2Q fkQ pnQ fnQ mpM mkM mgM mcM mwM mfM mtM mhM mmM mdM mxM mnM szM faM apM waM wrM fuM ouO) ∧ (¬ ((xs (nI i).toNatClampNeg) &&& 31) = 11 → ((((xs (nI i).toNatClampNeg) &&& 31) = 12 → wp_law630 L xs A23 i txR nuR lnR bgR enR lfT foT kdP grP cvP brP hzP fmP dmP e1P e2P fkP pnP fnP kdQ grQ cvQ brQ hzQ fmQ dmQ e1Q e2Q fkQ pnQ fnQ mpM mkM mgM mcM mwM mfM mtM mhM mmM mdM mxM mnM szM faM apM waM wrM fuM ouO) ∧ (¬ ((xs (nI i).toNatClampNeg) &&& 31) = 12 → ((((xs (nI i).toNatClampNeg) &&& 31) = 13 → wp_law685 L xs A23 i txR nuR lnR bgR enR lfT foT kdP grP cvP brP hzP fmP dmP e1P e2P fkP pnP fnP kdQ grQ cvQ brQ hzQ fmQ dmQ e1Q e2Q fkQ pnQ fnQ mpM mkM mgM mcM mwM mfM mtM mhM mmM mdM mxM mnM szM faM apM waM wrM fuM ouO) ∧ (¬ ((xs (nI i).toNatClampNeg) &&& 31) = 13 → ((((xs (nI i).toNatClampNeg) &&& 31) = 14 → wp_law722 L xs A23 i txR nuR lnR bgR enR lfT foT kdP grP cvP brP hzP fmP dmP e1P e2P fkP pnP fnP kdQ grQ cvQ brQ hzQ fmQ dmQ e1Q e2Q fkQ pnQ fnQ mpM mkM mgM mcM mwM mfM mtM mhM mmM mdM mxM mnM szM faM apM waM wrM fuM ouO) ∧ (¬ ((xs (nI i).toNatClampNeg) &&& 31) = 14 → ((((xs (nI i).toNatClampNeg) &&& 31) = 15 → wp_law759 L xs A23 i txR nuR lnR bgR enR lfT foT kdP grP cvP brP hzP fmP dmP e1P e2P fkP pnP fnP kdQ grQ cvQ brQ hzQ fmQ dmQ e1Q e2Q fkQ pnQ fnQ mpM mkM mgM mcM mwM mfM mtM mhM mmM mdM mxM mnM szM faM apM waM wrM fuM ouO) ∧ (¬ ((xs (nI i).toNatClampNeg) &&& 31) = 15 → ((((xs (nI i).toNatClampNeg) &&& 31) = 16 → wp_law828 L xs A23 i txR nuR lnR bgR enR lfT foT kdP grP cvP brP hzP fmP dmP e1P e2P fkP pnP fnP kdQ grQ cvQ brQ hzQ fmQ dmQ e1Q e2Q fkQ pnQ fnQ mpM mkM mgM mcM mwM mfM mtM mhM mmM mdM mxM mnM szM faM apM waM wrM fuM ouO) ∧ (¬ ((xs (nI i).toNatClampNeg) &&& 31) = 16 → ((((xs (nI i).toNatClampNeg) &&& 31) = 17 → wp_law897 L xs A23 i txR nuR lnR bgR enR lfT foT kdP grP cvP brP hzP fmP dmP e1P e2P fkP pnP fnP kdQ grQ cvQ brQ hzQ fmQ dmQ e1Q e2Q fkQ pnQ fnQ mpM mkM mgM mcM mwM mfM mtM mhM mmM mdM mxM mnM szM faM apM waM wrM fuM ouO) ∧ (¬ ((xs (nI i).toNatClampNeg) &&& 31) = 17 → ((((xs (nI i).toNatClampNeg) &&& 31) = 18 → wp_law922 L xs A23 i txR nuR lnR bgR enR lfT foT kdP grP cvP brP hzP fmP dmP e1P e2P fkP pnP fnP kdQ grQ cvQ brQ hzQ fmQ dmQ e1Q e2Q fkQ pnQ fnQ mpM mkM mgM mcM mwM mfM mtM mhM mmM mdM mxM mnM szM faM apM waM wrM fuM ouO) ∧ (¬ ((xs (nI i).toNatClampNeg) &&& 31) = 18 → A23 (i + 4) txR nuR lnR bgR enR lfT foT kdP grP cvP brP hzP fmP dmP e1P e2P fkP pnP fnP kdQ grQ cvQ brQ hzQ fmQ dmQ e1Q e2Q fkQ pnQ fnQ mpM mkM mgM mcM mwM mfM mtM mhM mmM mdM mxM mnM szM faM apM waM wrM fuM ouO)))))))))))))))))))))))))))))))))))))))))
set_option maxHeartbeats 4000000 in
set_option maxRecDepth 100000 in
theorem law_c23 {p : Program} {l : Launch} {e : Env} {s : State} {m : MethodId} {below : List Frame} {meth : Method} {c : Code} {b L : Nat} {xs : Nat → Int32} {D : va_G} {cs : Nat → ClassId} {ev : Nat → Nat → Nat} {i : Nat} {txR : Nat → Int32} {nuR : Nat → Int32} {lnR : Int32} {bgR : Int32} {enR : Int32} {lfT : Int32} {foT : Int32} {kdP : Nat → Int32} {grP : Nat → Int64} {cvP : Nat → Int32} {brP : Nat → Int32} {hzP : Nat → Int32} {fmP : Nat → Int32} {dmP : Nat → Int32} {e1P : Nat → Int32} {e2P : Nat → Int32} {fkP : Nat → Int32} {pnP : Int32} {fnP : Int32} {kdQ : Nat → Int32} {grQ : Nat → Int64} {cvQ : Nat → Int32} {brQ : Nat → Int32} {hzQ : Nat → Int32} {fmQ : Nat → Int32} {dmQ : Nat → Int32} {e1Q : Nat → Int32} {e2Q : Nat → Int32} {fkQ : Nat → Int32} {pnQ : Int32} {fnQ : Int32} {mpM : Nat → Int32} {mkM : Nat → Int32} {mgM : Nat → Int32} {mcM : Nat → Int32} {mwM : Nat → Int32} {mfM : Nat → Int32} {mtM : Nat → Int32} {mhM : Nat → Int32} {mmM : Nat → Int32} {mdM : Nat → Int32} {mxM : Nat → Int32} {mnM : Nat → Int32} {szM : Int32} {faM : Int32} {apM : Int32} {waM : Int32} {wrM : Int32} {fuM : Int32} {ouO : Nat → Int64} (hnt : l.stackTraces = false) (C0 : lw_At p s m meth c b L xs) (hLi : i ≤ 2048) (hK : va_K D vwCl (tyS cs) s) (hE : EV ev (fun q : Nat => s.heap.size ≤ q) s s.heap) (hTV : TV (fun q : Nat => s.heap.size ≤ q) s s.heap) (h : wp_law23 L xs (law_A p l e s m below meth c b D cs) i txR nuR lnR bgR enR lfT foT kdP grP cvP brP hzP fmP dmP e1P e2P fkP pnP fnP kdQ grQ cvQ brQ hzQ fmQ dmQ e1Q e2Q fkQ pnQ fnQ mpM mkM mgM mcM mwM mfM mtM mhM mmM mdM mxM mnM szM faM apM waM wrM fuM ouO) : ∀ (adG adR adT adP adQ adM adO : Nat → Nat) (H : Heap) (locs : List Loc), va_P D vwCl (sh_G cs adG (adR 0) (adT 0) (adP 0) (adQ 0) ++ sh_R cs adR txR nuR lnR bgR enR ++ sh_T cs adT lfT foT ++ sh_P cs adP kdP grP cvP brP hzP fmP dmP e1P e2P fkP pnP fnP ++ sh_P cs adQ kdQ grQ cvQ brQ hzQ fmQ dmQ e1Q e2Q fkQ pnQ fnQ ++ sh_M cs adM mpM mkM mgM mcM mwM mfM mtM mhM mmM mdM mxM mnM szM faM apM waM wrM fuM ++ sh_O cs adO ouO) H → va_D (fun q : Nat => s.heap.size ≤ q) (sh_G cs adG (adR 0) (adT 0) (adP 0) (adQ 0) ++ sh_R cs adR txR nuR lnR bgR enR ++ sh_T cs adT lfT foT ++ sh_P cs adP kdP grP cvP brP hzP fmP dmP e1P e2P fkP pnP fnP ++ sh_P cs adQ kdQ grQ cvQ brQ hzQ fmQ dmQ e1Q e2Q fkQ pnQ fnQ ++ sh_M cs adM mpM mkM mgM mcM mwM mfM mtM mhM mmM mdM mxM mnM szM faM apM waM wrM fuM ++ sh_O cs adO ouO) → va_S (fun q : Nat => s.heap.size ≤ q) s.heap H locs → ∀ ls : Array Slot, lv_has ls 8 [(0, .ref b), (1, .ref (adG 0)), (2, .ref (adM 0)), (3, .ref (adO 0)), (4, .int (nI i))] → W p l e room_1 s m #[Value.ref b] below meth c H locs (100 + i) (20000 + 6 * i) (lw_Z below #[Value.ref b] s) (F0 m 23 ls []) := by
  obtain ⟨hx, hb, hr, hml, hown, hts, hX, hbl, hlocks, hgv⟩ := id C0
  have hts : ∀ w ∈ wsL_law, w.before #[Value.ref b] s = true := fun w h => hts w (wsL_law_in2 w h)
  have hA : ∀ q : Nat, s.heap.size ≤ q → (fun q : Nat => s.heap.size ≤ q) q := fun _ h => h
  have hbA : ¬ (fun q : Nat => s.heap.size ≤ q) b := Nat.not_le.mpr hbl
  have hc0 : 100 + i + 0 ≤ room_1.cells := by show 100 + i + 0 ≤ 601024; omega
  have hs0 : 20000 + 6 * i + 0 ≤ room_1.slots := by show 20000 + 6 * i + 0 ≤ 7293034; omega
  have hc1 : 100 + i + 1 ≤ room_1.cells := by show 100 + i + 1 ≤ 601024; omega
  have hs1 : 20000 + 6 * i + 6 ≤ room_1.slots := by show 20000 + 6 * i + 6 ≤ 7293034; omega
  intro adG adR adT adP adQ adM adO H locs hP hD hS ls hl
  refine lv_iload hx hb dL_law_23 (lv_at hl 4 rfl) ?_
  refine lv_aload_n hx hb dL_law_25 rfl (lv_at hl 0 rfl) ?_
  refine va_slen hx hb hX hbl hbA hS dL_law_26 ?_
  refine lv_iconst (v := 4) hx hb dL_law_27 (by decide) ?_
  refine lv_isub hx hb dL_law_28 ?_
  refine lv_icmp_gt (tgt := 941) hx hb dL_law_29 (by decide) (fun c_1 => ?_) (fun c_1 => ?_)
  · have h := h.1 c_1
    refine lv_iconst (v := 1) hx hb dL_law_941 (by decide) ?_
    refine va_forget (fun q hq => hS.2.2 q hq) ?_
    refine W.widen (k := 601024) (n := 7293034) (by omega) (by omega) ?_
    exact lw_ret hx hb hr hlocks dL_law_942
  · have h := h.2 c_1
    refine lv_aload_n hx hb dL_law_32 rfl (lv_at hl 0 rfl) ?_
    refine lv_iload hx hb dL_law_33 (lv_at hl 4 rfl) ?_
    have hin := h.1
    have h := h.2
    refine va_sld hx hb hX hbl hbA hS hin dL_law_35 ?_
    refine lv_bipush (v := 31) hx hb dL_law_36 (by decide) ?_
    refine lv_iand hx hb dL_law_38 ?_
    by_cases cs_0 : ((xs (nI i).toNatClampNeg) &&& 31) = 0
    · have h := h.1 cs_0
      refine lv_tableIn (tgt := 128) hx hb dL_law_39 (by rw [cs_0]; decide) (by rw [cs_0]; decide) (by rw [cs_0]; rfl) (by decide) ?_
      exact law_c128 hnt C0 hLi hK hE hTV h adG adR adT adP adQ adM adO _ _ hP hD hS ls (lv_sub hl [0, 1, 2, 3, 4] rfl)
    · have h := h.2 cs_0
      by_cases cs_1 : ((xs (nI i).toNatClampNeg) &&& 31) = 1
      · have h := h.1 cs_1
        refine lv_tableIn (tgt := 153) hx hb dL_law_39 (by rw [cs_1]; decide) (by rw [cs_1]; decide) (by rw [cs_1]; rfl) (by decide) ?_
        exact law_c153 hnt C0 hLi hK hE hTV h adG adR adT adP adQ adM adO _ _ hP hD hS ls (lv_sub hl [0, 1, 2, 3, 4] rfl)
      · have h := h.2 cs_1
        by_cases cs_2 : ((xs (nI i).toNatClampNeg) &&& 31) = 2
        · have h := h.1 cs_2
          refine lv_tableIn (tgt := 166) hx hb dL_law_39 (by rw [cs_2]; decide) (by rw [cs_2]; decide) (by rw [cs_2]; rfl) (by decide) ?_
          exact law_c166 hnt C0 hLi hK hE hTV h adG adR adT adP adQ adM adO _ _ hP hD hS ls (lv_sub hl [0, 1, 2, 3, 4] rfl)
        · have h := h.2 cs_2
          by_cases cs_3 : ((xs (nI i).toNatClampNeg) &&& 31) = 3
          · have h := h.1 cs_3
            refine lv_tableIn (tgt := 235) hx hb dL_law_39 (by rw [cs_3]; decide) (by rw [cs_3]; decide) (by rw [cs_3]; rfl) (by decide) ?_
            exact law_c235 hnt C0 hLi hK hE hTV h adG adR adT adP adQ adM adO _ _ hP hD hS ls (lv_sub hl [0, 1, 2, 3, 4] rfl)
          · have h := h.2 cs_3
            by_cases cs_4 : ((xs (nI i).toNatClampNeg) &&& 31) = 4
            · have h := h.1 cs_4
              refine lv_tableIn (tgt := 284) hx hb dL_law_39 (by rw [cs_4]; decide) (by rw [cs_4]; decide) (by rw [cs_4]; rfl) (by decide) ?_
              exact law_c284 hnt C0 hLi hK hE hTV h adG adR adT adP adQ adM adO _ _ hP hD hS ls (lv_sub hl [0, 1, 2, 3, 4] rfl)
            · have h := h.2 cs_4
              by_cases cs_5 : ((xs (nI i).toNatClampNeg) &&& 31) = 5
              · have h := h.1 cs_5
                refine lv_tableIn (tgt := 321) hx hb dL_law_39 (by rw [cs_5]; decide) (by rw [cs_5]; decide) (by rw [cs_5]; rfl) (by decide) ?_
                exact law_c321 hnt C0 hLi hK hE hTV h adG adR adT adP adQ adM adO _ _ hP hD hS ls (lv_sub hl [0, 1, 2, 3, 4] rfl)
              · have h := h.2 cs_5
                by_cases cs_6 : ((xs (nI i).toNatClampNeg) &&& 31) = 6
                · have h := h.1 cs_6
                  refine lv_tableIn (tgt := 408) hx hb dL_law_39 (by rw [cs_6]; decide) (by rw [cs_6]; decide) (by rw [cs_6]; rfl) (by decide) ?_
                  exact law_c408 hnt C0 hLi hK hE hTV h adG adR adT adP adQ adM adO _ _ hP hD hS ls (lv_sub hl [0, 1, 2, 3, 4] rfl)
                · have h := h.2 cs_6
                  by_cases cs_7 : ((xs (nI i).toNatClampNeg) &&& 31) = 7
                  · have h := h.1 cs_7
                    refine lv_tableIn (tgt := 445) hx hb dL_law_39 (by rw [cs_7]; decide) (by rw [cs_7]; decide) (by rw [cs_7]; rfl) (by decide) ?_
                    exact law_c445 hnt C0 hLi hK hE hTV h adG adR adT adP adQ adM adO _ _ hP hD hS ls (lv_sub hl [0, 1, 2, 3, 4] rfl)
                  · have h := h.2 cs_7
                    by_cases cs_8 : ((xs (nI i).toNatClampNeg) &&& 31) = 8
                    · have h := h.1 cs_8
                      refine lv_tableIn (tgt := 470) hx hb dL_law_39 (by rw [cs_8]; decide) (by rw [cs_8]; decide) (by rw [cs_8]; rfl) (by decide) ?_
                      exact law_c470 hnt C0 hLi hK hE hTV h adG adR adT adP adQ adM adO _ _ hP hD hS ls (lv_sub hl [0, 1, 2, 3, 4] rfl)
                    · have h := h.2 cs_8
                      by_cases cs_9 : ((xs (nI i).toNatClampNeg) &&& 31) = 9
                      · have h := h.1 cs_9
                        refine lv_tableIn (tgt := 507) hx hb dL_law_39 (by rw [cs_9]; decide) (by rw [cs_9]; decide) (by rw [cs_9]; rfl) (by decide) ?_
                        exact law_c507 hnt C0 hLi hK hE hTV h adG adR adT adP adQ adM adO _ _ hP hD hS ls (lv_sub hl [0, 1, 2, 3, 4] rfl)
                      · have h := h.2 cs_9
                        by_cases cs_10 : ((xs (nI i).toNatClampNeg) &&& 31) = 10
                        · have h := h.1 cs_10
                          refine lv_tableIn (tgt := 544) hx hb dL_law_39 (by rw [cs_10]; decide) (by rw [cs_10]; decide) (by rw [cs_10]; rfl) (by decide) ?_
                          exact law_c544 hnt C0 hLi hK hE hTV h adG adR adT adP adQ adM adO _ _ hP hD hS ls (lv_sub hl [0, 1, 2, 3, 4] rfl)
                        · have h := h.2 cs_10
                          by_cases cs_11 : ((xs (nI i).toNatClampNeg) &&& 31) = 11
                          · have h := h.1 cs_11
                            refine lv_tableIn (tgt := 593) hx hb dL_law_39 (by rw [cs_11]; decide) (by rw [cs_11]; decide) (by rw [cs_11]; rfl) (by decide) ?_
                            exact law_c593 hnt C0 hLi hK hE hTV h adG adR adT adP adQ adM adO _ _ hP hD hS ls (lv_sub hl [0, 1, 2, 3, 4] rfl)
                          · have h := h.2 cs_11
                            by_cases cs_12 : ((xs (nI i).toNatClampNeg) &&& 31) = 12
                            · have h := h.1 cs_12
                              refine lv_tableIn (tgt := 630) hx hb dL_law_39 (by rw [cs_12]; decide) (by rw [cs_12]; decide) (by rw [cs_12]; rfl) (by decide) ?_
                              exact law_c630 hnt C0 hLi hK hE hTV h adG adR adT adP adQ adM adO _ _ hP hD hS ls (lv_sub hl [0, 1, 2, 3, 4] rfl)
                            · have h := h.2 cs_12
                              by_cases cs_13 : ((xs (nI i).toNatClampNeg) &&& 31) = 13
                              · have h := h.1 cs_13
                                refine lv_tableIn (tgt := 685) hx hb dL_law_39 (by rw [cs_13]; decide) (by rw [cs_13]; decide) (by rw [cs_13]; rfl) (by decide) ?_
                                exact law_c685 hnt C0 hLi hK hE hTV h adG adR adT adP adQ adM adO _ _ hP hD hS ls (lv_sub hl [0, 1, 2, 3, 4] rfl)
                              · have h := h.2 cs_13
                                by_cases cs_14 : ((xs (nI i).toNatClampNeg) &&& 31) = 14
                                · have h := h.1 cs_14
                                  refine lv_tableIn (tgt := 722) hx hb dL_law_39 (by rw [cs_14]; decide) (by rw [cs_14]; decide) (by rw [cs_14]; rfl) (by decide) ?_
                                  exact law_c722 hnt C0 hLi hK hE hTV h adG adR adT adP adQ adM adO _ _ hP hD hS ls (lv_sub hl [0, 1, 2, 3, 4] rfl)
                                · have h := h.2 cs_14
                                  by_cases cs_15 : ((xs (nI i).toNatClampNeg) &&& 31) = 15
                                  · have h := h.1 cs_15
                                    refine lv_tableIn (tgt := 759) hx hb dL_law_39 (by rw [cs_15]; decide) (by rw [cs_15]; decide) (by rw [cs_15]; rfl) (by decide) ?_
                                    exact law_c759 hnt C0 hLi hK hE hTV h adG adR adT adP adQ adM adO _ _ hP hD hS ls (lv_sub hl [0, 1, 2, 3, 4] rfl)
                                  · have h := h.2 cs_15
                                    by_cases cs_16 : ((xs (nI i).toNatClampNeg) &&& 31) = 16
                                    · have h := h.1 cs_16
                                      refine lv_tableIn (tgt := 828) hx hb dL_law_39 (by rw [cs_16]; decide) (by rw [cs_16]; decide) (by rw [cs_16]; rfl) (by decide) ?_
                                      exact law_c828 hnt C0 hLi hK hE hTV h adG adR adT adP adQ adM adO _ _ hP hD hS ls (lv_sub hl [0, 1, 2, 3, 4] rfl)
                                    · have h := h.2 cs_16
                                      by_cases cs_17 : ((xs (nI i).toNatClampNeg) &&& 31) = 17
                                      · have h := h.1 cs_17
                                        refine lv_tableIn (tgt := 897) hx hb dL_law_39 (by rw [cs_17]; decide) (by rw [cs_17]; decide) (by rw [cs_17]; rfl) (by decide) ?_
                                        exact law_c897 hnt C0 hLi hK hE hTV h adG adR adT adP adQ adM adO _ _ hP hD hS ls (lv_sub hl [0, 1, 2, 3, 4] rfl)
                                      · have h := h.2 cs_17
                                        by_cases cs_18 : ((xs (nI i).toNatClampNeg) &&& 31) = 18
                                        · have h := h.1 cs_18
                                          refine lv_tableIn (tgt := 922) hx hb dL_law_39 (by rw [cs_18]; decide) (by rw [cs_18]; decide) (by rw [cs_18]; rfl) (by decide) ?_
                                          exact law_c922 hnt C0 hLi hK hE hTV h adG adR adT adP adQ adM adO _ _ hP hD hS ls (lv_sub hl [0, 1, 2, 3, 4] rfl)
                                        · have h := h.2 cs_18
                                          refine lv_tableOut (tgt := 935) hx hb dL_law_39 (by have q0 := lv_neT cs_0 (show (0 : Int32).toInt = 0 by decide); have q1 := lv_neT cs_1 (show (1 : Int32).toInt = 1 by decide); have q2 := lv_neT cs_2 (show (2 : Int32).toInt = 2 by decide); have q3 := lv_neT cs_3 (show (3 : Int32).toInt = 3 by decide); have q4 := lv_neT cs_4 (show (4 : Int32).toInt = 4 by decide); have q5 := lv_neT cs_5 (show (5 : Int32).toInt = 5 by decide); have q6 := lv_neT cs_6 (show (6 : Int32).toInt = 6 by decide); have q7 := lv_neT cs_7 (show (7 : Int32).toInt = 7 by decide); have q8 := lv_neT cs_8 (show (8 : Int32).toInt = 8 by decide); have q9 := lv_neT cs_9 (show (9 : Int32).toInt = 9 by decide); have q10 := lv_neT cs_10 (show (10 : Int32).toInt = 10 by decide); have q11 := lv_neT cs_11 (show (11 : Int32).toInt = 11 by decide); have q12 := lv_neT cs_12 (show (12 : Int32).toInt = 12 by decide); have q13 := lv_neT cs_13 (show (13 : Int32).toInt = 13 by decide); have q14 := lv_neT cs_14 (show (14 : Int32).toInt = 14 by decide); have q15 := lv_neT cs_15 (show (15 : Int32).toInt = 15 by decide); have q16 := lv_neT cs_16 (show (16 : Int32).toInt = 16 by decide); have q17 := lv_neT cs_17 (show (17 : Int32).toInt = 17 by decide); have q18 := lv_neT cs_18 (show (18 : Int32).toInt = 18 by decide); omega) (by decide) ?_
                                          refine lv_iinc (v := (nI i) + 4) (lv' := [(4, .int ((nI i) + 4)), (0, .ref b), (1, .ref (adG 0)), (2, .ref (adM 0)), (3, .ref (adO 0))]) hx hb dL_law_935 hl (k := 4) rfl rfl (by decide) rfl (fun ls hl => ?_)
                                          refine lv_goto (tgt := 23) hx hb dL_law_938 (by decide) ?_
                                          have h := h
                                          refine W.widen (k := 100 + (i + 4)) (n := 20000 + 6 * (i + 4)) (by omega) (by omega) ?_
                                          have hl := lv_sub (l' := [(0, .ref b), (1, .ref (adG 0)), (2, .ref (adM 0)), (3, .ref (adO 0)), (4, .int ((nI i) + 4))]) hl [1, 2, 3, 4, 0] rfl
                                          rw [show (nI i) + 4 = nI (i + 4) from nI_add i 4] at hl
                                          exact h adG adR adT adP adQ adM adO _ _ hP hD hS ls hl
