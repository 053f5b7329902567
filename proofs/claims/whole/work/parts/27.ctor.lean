theorem aZi (cA : ClassId) (n : Nat) (ty : FieldType) (h : defaultValue ty = .int 0) : vp_cell cA (n, .inl (fun _ => 0)) = arrV cA n (fun _ => defaultValue ty) := by rw [h]; rfl
theorem aZl (cA : ClassId) (n : Nat) (ty : FieldType) (h : defaultValue ty = .long 0) : vp_cell cA (n, .inr (.inl (fun _ => 0))) = arrV cA n (fun _ => defaultValue ty) := by rw [h]; rfl
theorem kUniq {D : va_G} {cl : List vw_C} {tys : List (ClassId × FieldType)} {U : State} (h : va_K D cl tys U) (i j : Nat) {a b : ClassId} {ty : FieldType} (hi : tys[i]? = some (a, ty)) (hj : tys[j]? = some (b, ty)) (hp : (match ty with | .object _ => false | _ => true) = true) : a = b := by
  have h1 := (h.2 i _ hi).2
  have h2 := (h.2 j _ hj).2
  cases ty with
  | object C => simp at hp
  | _ => exact Option.some.inj (h1.symm.trans h2)
set_option maxHeartbeats 4000000 in
set_option maxRecDepth 100000 in
theorem met_X3_init (l : Launch) (D : va_G) (cs : Nat → ClassId) (ev : Nat → Nat → Nat) (sz0 : Nat) (h0 : Nat) : Met l yX3_init wsX3_init ({ frames := 1, cells := 0, slots := 0, locals := 12 }) (va_Pc [.ref h0] (mPre D cs ev ([(h0, .inr (3, [.int 0, .int 0]))]) sz0)) (va_Qv (S := Unit) (fun _ => True) (fun _ t => ∃ ad : Nat → Nat, ad 0 = h0 ∧ mAt D cs (va_A ([(h0, .inr (3, [.int 0, .int 0]))]) sz0) (sh_T cs ad 0 0) t) (va_A ([(h0, .inr (3, [.int 0, .int 0]))]) sz0)) 0 0 (va_A ([(h0, .inr (3, [.int 0, .int 0]))]) sz0) := by
  refine Met.ofW (cc := cX3_init) (maxL := 1) (ret := none) (by decide) rfl ?_
  intro p e s m args below meth c s₁ B hml hv
  obtain ⟨rfl, hsz, hP, hK, hD0, hE⟩ := hv
  have hx := B.exec
  have hb := B.bytes
  have hr := B.returns
  have hts := atoms_spec (ws := wsX3_init) B.pre
  have hown : s.vm.findClass RX3 = some m.cls := findClass_of_methodNamed B.named
  have hlocks := B.notSynchronized
  have hin : meth.name = "<init>" := (name_of_methodNamed B.named B.method).1
  subst hsz
  have hD := hD0.self (sz := s.heap.size)
  generalize hAe : va_A ([(h0, .inr (3, [.int 0, .int 0]))]) s.heap.size = A at hD hE ⊢
  have hA : ∀ q : Nat, s.heap.size ≤ q → A q := fun q h => by rw [← hAe]; exact Or.inr h
  have hS : va_S A s.heap s.heap [] := va_S.rf
  have hl := lv_entry ([.ref h0]) (n := 1) (Nat.le_of_ble_eq_true rfl)
  rw [lg_entry_eq]
  generalize (lg_sl ([.ref h0]) ++ List.replicate (1 - (lg_sl ([.ref h0])).length) Slot.unset).toArray = ls at hl ⊢
  have hl : lv_has ls 1 [(0, .ref h0)] := hl
  refine lv_aload_n hx hb dX3_init_0 rfl (lv_at hl 0 rfl) ?_
  refine W.objInit hx hb hown (hts (.methodLink RX3 3 objectInit) (by decide +kernel)) (hts (.instanceMethod objectInit) (by decide +kernel)) (hts (.code objectInit ⟨#[0xb1]⟩ 1 none) (List.mem_of_getElem? (i := 3) rfl)) rfl (by rw [hml]; exact hl.1) rfl dX3_init_1 (Nat.le_of_ble_eq_true rfl) (Nat.le_of_ble_eq_true rfl) ?_
  refine W.eq (g2 := F0 m 4 ls []) rfl ?_
  exact W.vret hx hb hr (fun t ht hW => ⟨⟨(), rfl, trivial, fun k => [h0].getD k 0, rfl, by rw [ht]; exact hP, va_K.moved hW.alike hK, hD⟩, hS.F ht⟩) hS.2.2 dX3_init_4
set_option maxHeartbeats 4000000 in
set_option maxRecDepth 100000 in
theorem met_X1_init (l : Launch) (D : va_G) (cs : Nat → ClassId) (ev : Nat → Nat → Nat) (sz0 : Nat) (h0 : Nat) : Met l yX1_init wsX1_init ({ frames := 1, cells := 10, slots := 180, locals := 12 }) (va_Pc [.ref h0] (mPre D cs ev ([(h0, .inr (1, [.null, .null, .null, .null, .null, .null, .null, .null, .null, .null, .int 0, .int 0]))]) sz0)) (va_Qv (S := Unit) (fun _ => True) (fun _ t => ∃ ad : Nat → Nat, ad 0 = h0 ∧ mAt D cs (va_A ([(h0, .inr (1, [.null, .null, .null, .null, .null, .null, .null, .null, .null, .null, .int 0, .int 0]))]) sz0) (sh_P cs ad (fun _ => 0) (fun _ => 0) (fun _ => 0) (fun _ => 0) (fun _ => 0) (fun _ => 0) (fun _ => 0) (fun _ => 0) (fun _ => 0) (fun _ => 0) 0 0) t) (va_A ([(h0, .inr (1, [.null, .null, .null, .null, .null, .null, .null, .null, .null, .null, .int 0, .int 0]))]) sz0)) 10 180 (va_A ([(h0, .inr (1, [.null, .null, .null, .null, .null, .null, .null, .null, .null, .null, .int 0, .int 0]))]) sz0) := by
  refine Met.ofW (cc := cX1_init) (maxL := 1) (ret := none) (by decide) rfl ?_
  intro p e s m args below meth c s₁ B hml hv
  obtain ⟨rfl, hsz, hP, hK, hD0, hE⟩ := hv
  have hx := B.exec
  have hb := B.bytes
  have hr := B.returns
  have hts := atoms_spec (ws := wsX1_init) B.pre
  have hown : s.vm.findClass RX1 = some m.cls := findClass_of_methodNamed B.named
  have hlocks := B.notSynchronized
  have hin : meth.name = "<init>" := (name_of_methodNamed B.named B.method).1
  subst hsz
  have hD := hD0.self (sz := s.heap.size)
  generalize hAe : va_A ([(h0, .inr (1, [.null, .null, .null, .null, .null, .null, .null, .null, .null, .null, .int 0, .int 0]))]) s.heap.size = A at hD hE ⊢
  have hA : ∀ q : Nat, s.heap.size ≤ q → A q := fun q h => by rw [← hAe]; exact Or.inr h
  have hS : va_S A s.heap s.heap [] := va_S.rf
  have hl := lv_entry ([.ref h0]) (n := 1) (Nat.le_of_ble_eq_true rfl)
  rw [lg_entry_eq]
  generalize (lg_sl ([.ref h0]) ++ List.replicate (1 - (lg_sl ([.ref h0])).length) Slot.unset).toArray = ls at hl ⊢
  have hl : lv_has ls 1 [(0, .ref h0)] := hl
  refine lv_aload_n hx hb dX1_init_0 rfl (lv_at hl 0 rfl) ?_
  refine W.objInit hx hb hown (hts (.methodLink RX1 3 objectInit) (by decide +kernel)) (hts (.instanceMethod objectInit) (by decide +kernel)) (hts (.code objectInit ⟨#[0xb1]⟩ 1 none) (List.mem_of_getElem? (i := 3) rfl)) rfl (by rw [hml]; exact hl.1) rfl dX1_init_1 (Nat.le_of_ble_eq_true rfl) (Nat.le_of_ble_eq_true rfl) ?_
  refine W.eq (g2 := F0 m 4 ls []) rfl ?_
  refine lv_aload_n hx hb dX1_init_4 rfl (lv_at hl 0 rfl) ?_
  refine lv_bipush (v := 10) hx hb dX1_init_5 (by decide) ?_
  have hc1 : 0 + 1 ≤ 10 := Nat.le_of_ble_eq_true rfl
  have hc2 : 0 + 10 ≤ 180 := Nat.le_of_ble_eq_true rfl
  refine va_newa (atype := .int) (ty := .int) (N' := 10) (a0 := (10, .inl (fun _ => 0))) hx hb (hts (.arrayClass .int) (by decide +kernel)) rfl hK hP hD hS hA (fun _ => aZi _ _ _ rfl) (by decide +kernel) (by decide +kernel) (by decide +kernel) hc1 hc2 dX1_init_7 (fun q1 cA H hK2 hP hD hS => ?_)
  obtain rfl : cA = cs 0 := kUniq hK2 5 0 rfl rfl rfl
  have hP : va_P D vwCl ([(h0, .inr (1, [.null, .null, .null, .null, .null, .null, .null, .null, .null, .null, .int 0, .int 0])), (q1, .inl (cs 0, 10, .inl (fun _ => 0)))]) H := hP
  have hD : va_D A ([(h0, .inr (1, [.null, .null, .null, .null, .null, .null, .null, .null, .null, .null, .int 0, .int 0])), (q1, .inl (cs 0, 10, .inl (fun _ => 0)))]) := hD
  refine W.widen (k := 1) (n := 10) (by omega) (by omega) ?_
  refine va_putF (D := D) (ci := 1) (v := .ref q1) (ty := .array .int) (C := RX1) (T := TX1) (N := 12) hx hb hts (by decide +kernel) tyX1 tyX1_ok nmX1 hown hK hP hD hS 0 rfl rfl 0 (by decide) (hts (.fieldLink RX1 9 "PartGraphs$Product" "kinds" "[I") (by decide +kernel)) (fun _ h9 => h9) rfl hin rfl (by decide +kernel) rfl rfl (Nat.le_of_ble_eq_true rfl) dX1_init_9 (fun H locs hP hD hS => ?_)
  have hP : va_P D vwCl ([(h0, .inr (1, [.ref q1, .null, .null, .null, .null, .null, .null, .null, .null, .null, .int 0, .int 0])), (q1, .inl (cs 0, 10, .inl (fun _ => 0)))]) H := hP
  have hD : va_D A ([(h0, .inr (1, [.ref q1, .null, .null, .null, .null, .null, .null, .null, .null, .null, .int 0, .int 0])), (q1, .inl (cs 0, 10, .inl (fun _ => 0)))]) := hD
  refine lv_aload_n hx hb dX1_init_12 rfl (lv_at hl 0 rfl) ?_
  refine lv_bipush (v := 10) hx hb dX1_init_13 (by decide) ?_
  have hc1 : 1 + 1 ≤ 10 := Nat.le_of_ble_eq_true rfl
  have hc2 : 10 + 10 ≤ 180 := Nat.le_of_ble_eq_true rfl
  refine va_newa (atype := .long) (ty := .long) (N' := 10) (a0 := (10, .inr (.inl (fun _ => 0)))) hx hb (hts (.arrayClass .long) (by decide +kernel)) rfl hK hP hD hS hA (fun _ => aZl _ _ _ rfl) (by decide +kernel) (by decide +kernel) (by decide +kernel) hc1 hc2 dX1_init_15 (fun q2 cA H hK2 hP hD hS => ?_)
  obtain rfl : cA = cs 1 := kUniq hK2 5 1 rfl rfl rfl
  have hP : va_P D vwCl ([(h0, .inr (1, [.ref q1, .null, .null, .null, .null, .null, .null, .null, .null, .null, .int 0, .int 0])), (q1, .inl (cs 0, 10, .inl (fun _ => 0))), (q2, .inl (cs 1, 10, .inr (.inl (fun _ => 0))))]) H := hP
  have hD : va_D A ([(h0, .inr (1, [.ref q1, .null, .null, .null, .null, .null, .null, .null, .null, .null, .int 0, .int 0])), (q1, .inl (cs 0, 10, .inl (fun _ => 0))), (q2, .inl (cs 1, 10, .inr (.inl (fun _ => 0))))]) := hD
  refine W.widen (k := 2) (n := 20) (by omega) (by omega) ?_
  refine va_putF (D := D) (ci := 1) (v := .ref q2) (ty := .array .long) (C := RX1) (T := TX1) (N := 12) hx hb hts (by decide +kernel) tyX1 tyX1_ok nmX1 hown hK hP hD hS 0 rfl rfl 1 (by decide) (hts (.fieldLink RX1 15 "PartGraphs$Product" "grams" "[J") (by decide +kernel)) (fun _ h9 => h9) rfl hin rfl (by decide +kernel) rfl rfl (Nat.le_of_ble_eq_true rfl) dX1_init_17 (fun H locs hP hD hS => ?_)
  have hP : va_P D vwCl ([(h0, .inr (1, [.ref q1, .ref q2, .null, .null, .null, .null, .null, .null, .null, .null, .int 0, .int 0])), (q1, .inl (cs 0, 10, .inl (fun _ => 0))), (q2, .inl (cs 1, 10, .inr (.inl (fun _ => 0))))]) H := hP
  have hD : va_D A ([(h0, .inr (1, [.ref q1, .ref q2, .null, .null, .null, .null, .null, .null, .null, .null, .int 0, .int 0])), (q1, .inl (cs 0, 10, .inl (fun _ => 0))), (q2, .inl (cs 1, 10, .inr (.inl (fun _ => 0))))]) := hD
  refine lv_aload_n hx hb dX1_init_20 rfl (lv_at hl 0 rfl) ?_
  refine lv_bipush (v := 10) hx hb dX1_init_21 (by decide) ?_
  have hc1 : 2 + 1 ≤ 10 := Nat.le_of_ble_eq_true rfl
  have hc2 : 20 + 10 ≤ 180 := Nat.le_of_ble_eq_true rfl
  refine va_newa (atype := .int) (ty := .int) (N' := 10) (a0 := (10, .inl (fun _ => 0))) hx hb (hts (.arrayClass .int) (by decide +kernel)) rfl hK hP hD hS hA (fun _ => aZi _ _ _ rfl) (by decide +kernel) (by decide +kernel) (by decide +kernel) hc1 hc2 dX1_init_23 (fun q3 cA H hK2 hP hD hS => ?_)
  obtain rfl : cA = cs 0 := kUniq hK2 5 0 rfl rfl rfl
  have hP : va_P D vwCl ([(h0, .inr (1, [.ref q1, .ref q2, .null, .null, .null, .null, .null, .null, .null, .null, .int 0, .int 0])), (q1, .inl (cs 0, 10, .inl (fun _ => 0))), (q2, .inl (cs 1, 10, .inr (.inl (fun _ => 0)))), (q3, .inl (cs 0, 10, .inl (fun _ => 0)))]) H := hP
  have hD : va_D A ([(h0, .inr (1, [.ref q1, .ref q2, .null, .null, .null, .null, .null, .null, .null, .null, .int 0, .int 0])), (q1, .inl (cs 0, 10, .inl (fun _ => 0))), (q2, .inl (cs 1, 10, .inr (.inl (fun _ => 0)))), (q3, .inl (cs 0, 10, .inl (fun _ => 0)))]) := hD
  refine W.widen (k := 3) (n := 30) (by omega) (by omega) ?_
  refine va_putF (D := D) (ci := 1) (v := .ref q3) (ty := .array .int) (C := RX1) (T := TX1) (N := 12) hx hb hts (by decide +kernel) tyX1 tyX1_ok nmX1 hown hK hP hD hS 0 rfl rfl 2 (by decide) (hts (.fieldLink RX1 19 "PartGraphs$Product" "coverers" "[I") (by decide +kernel)) (fun _ h9 => h9) rfl hin rfl (by decide +kernel) rfl rfl (Nat.le_of_ble_eq_true rfl) dX1_init_25 (fun H locs hP hD hS => ?_)
  have hP : va_P D vwCl ([(h0, .inr (1, [.ref q1, .ref q2, .ref q3, .null, .null, .null, .null, .null, .null, .null, .int 0, .int 0])), (q1, .inl (cs 0, 10, .inl (fun _ => 0))), (q2, .inl (cs 1, 10, .inr (.inl (fun _ => 0)))), (q3, .inl (cs 0, 10, .inl (fun _ => 0)))]) H := hP
  have hD : va_D A ([(h0, .inr (1, [.ref q1, .ref q2, .ref q3, .null, .null, .null, .null, .null, .null, .null, .int 0, .int 0])), (q1, .inl (cs 0, 10, .inl (fun _ => 0))), (q2, .inl (cs 1, 10, .inr (.inl (fun _ => 0)))), (q3, .inl (cs 0, 10, .inl (fun _ => 0)))]) := hD
  refine lv_aload_n hx hb dX1_init_28 rfl (lv_at hl 0 rfl) ?_
  refine lv_bipush (v := 60) hx hb dX1_init_29 (by decide) ?_
  have hc1 : 3 + 1 ≤ 10 := Nat.le_of_ble_eq_true rfl
  have hc2 : 30 + 60 ≤ 180 := Nat.le_of_ble_eq_true rfl
  refine va_newa (atype := .int) (ty := .int) (N' := 60) (a0 := (60, .inl (fun _ => 0))) hx hb (hts (.arrayClass .int) (by decide +kernel)) rfl hK hP hD hS hA (fun _ => aZi _ _ _ rfl) (by decide +kernel) (by decide +kernel) (by decide +kernel) hc1 hc2 dX1_init_31 (fun q4 cA H hK2 hP hD hS => ?_)
  obtain rfl : cA = cs 0 := kUniq hK2 5 0 rfl rfl rfl
  have hP : va_P D vwCl ([(h0, .inr (1, [.ref q1, .ref q2, .ref q3, .null, .null, .null, .null, .null, .null, .null, .int 0, .int 0])), (q1, .inl (cs 0, 10, .inl (fun _ => 0))), (q2, .inl (cs 1, 10, .inr (.inl (fun _ => 0)))), (q3, .inl (cs 0, 10, .inl (fun _ => 0))), (q4, .inl (cs 0, 60, .inl (fun _ => 0)))]) H := hP
  have hD : va_D A ([(h0, .inr (1, [.ref q1, .ref q2, .ref q3, .null, .null, .null, .null, .null, .null, .null, .int 0, .int 0])), (q1, .inl (cs 0, 10, .inl (fun _ => 0))), (q2, .inl (cs 1, 10, .inr (.inl (fun _ => 0)))), (q3, .inl (cs 0, 10, .inl (fun _ => 0))), (q4, .inl (cs 0, 60, .inl (fun _ => 0)))]) := hD
  refine W.widen (k := 4) (n := 90) (by omega) (by omega) ?_
  refine va_putF (D := D) (ci := 1) (v := .ref q4) (ty := .array .int) (C := RX1) (T := TX1) (N := 12) hx hb hts (by decide +kernel) tyX1 tyX1_ok nmX1 hown hK hP hD hS 0 rfl rfl 3 (by decide) (hts (.fieldLink RX1 22 "PartGraphs$Product" "bars" "[I") (by decide +kernel)) (fun _ h9 => h9) rfl hin rfl (by decide +kernel) rfl rfl (Nat.le_of_ble_eq_true rfl) dX1_init_33 (fun H locs hP hD hS => ?_)
  have hP : va_P D vwCl ([(h0, .inr (1, [.ref q1, .ref q2, .ref q3, .ref q4, .null, .null, .null, .null, .null, .null, .int 0, .int 0])), (q1, .inl (cs 0, 10, .inl (fun _ => 0))), (q2, .inl (cs 1, 10, .inr (.inl (fun _ => 0)))), (q3, .inl (cs 0, 10, .inl (fun _ => 0))), (q4, .inl (cs 0, 60, .inl (fun _ => 0)))]) H := hP
  have hD : va_D A ([(h0, .inr (1, [.ref q1, .ref q2, .ref q3, .ref q4, .null, .null, .null, .null, .null, .null, .int 0, .int 0])), (q1, .inl (cs 0, 10, .inl (fun _ => 0))), (q2, .inl (cs 1, 10, .inr (.inl (fun _ => 0)))), (q3, .inl (cs 0, 10, .inl (fun _ => 0))), (q4, .inl (cs 0, 60, .inl (fun _ => 0)))]) := hD
  refine lv_aload_n hx hb dX1_init_36 rfl (lv_at hl 0 rfl) ?_
  refine lv_bipush (v := 10) hx hb dX1_init_37 (by decide) ?_
  have hc1 : 4 + 1 ≤ 10 := Nat.le_of_ble_eq_true rfl
  have hc2 : 90 + 10 ≤ 180 := Nat.le_of_ble_eq_true rfl
  refine va_newa (atype := .int) (ty := .int) (N' := 10) (a0 := (10, .inl (fun _ => 0))) hx hb (hts (.arrayClass .int) (by decide +kernel)) rfl hK hP hD hS hA (fun _ => aZi _ _ _ rfl) (by decide +kernel) (by decide +kernel) (by decide +kernel) hc1 hc2 dX1_init_39 (fun q5 cA H hK2 hP hD hS => ?_)
  obtain rfl : cA = cs 0 := kUniq hK2 5 0 rfl rfl rfl
  have hP : va_P D vwCl ([(h0, .inr (1, [.ref q1, .ref q2, .ref q3, .ref q4, .null, .null, .null, .null, .null, .null, .int 0, .int 0])), (q1, .inl (cs 0, 10, .inl (fun _ => 0))), (q2, .inl (cs 1, 10, .inr (.inl (fun _ => 0)))), (q3, .inl (cs 0, 10, .inl (fun _ => 0))), (q4, .inl (cs 0, 60, .inl (fun _ => 0))), (q5, .inl (cs 0, 10, .inl (fun _ => 0)))]) H := hP
  have hD : va_D A ([(h0, .inr (1, [.ref q1, .ref q2, .ref q3, .ref q4, .null, .null, .null, .null, .null, .null, .int 0, .int 0])), (q1, .inl (cs 0, 10, .inl (fun _ => 0))), (q2, .inl (cs 1, 10, .inr (.inl (fun _ => 0)))), (q3, .inl (cs 0, 10, .inl (fun _ => 0))), (q4, .inl (cs 0, 60, .inl (fun _ => 0))), (q5, .inl (cs 0, 10, .inl (fun _ => 0)))]) := hD
  refine W.widen (k := 5) (n := 100) (by omega) (by omega) ?_
  refine va_putF (D := D) (ci := 1) (v := .ref q5) (ty := .array .int) (C := RX1) (T := TX1) (N := 12) hx hb hts (by decide +kernel) tyX1 tyX1_ok nmX1 hown hK hP hD hS 0 rfl rfl 4 (by decide) (hts (.fieldLink RX1 25 "PartGraphs$Product" "hazards" "[I") (by decide +kernel)) (fun _ h9 => h9) rfl hin rfl (by decide +kernel) rfl rfl (Nat.le_of_ble_eq_true rfl) dX1_init_41 (fun H locs hP hD hS => ?_)
  have hP : va_P D vwCl ([(h0, .inr (1, [.ref q1, .ref q2, .ref q3, .ref q4, .ref q5, .null, .null, .null, .null, .null, .int 0, .int 0])), (q1, .inl (cs 0, 10, .inl (fun _ => 0))), (q2, .inl (cs 1, 10, .inr (.inl (fun _ => 0)))), (q3, .inl (cs 0, 10, .inl (fun _ => 0))), (q4, .inl (cs 0, 60, .inl (fun _ => 0))), (q5, .inl (cs 0, 10, .inl (fun _ => 0)))]) H := hP
  have hD : va_D A ([(h0, .inr (1, [.ref q1, .ref q2, .ref q3, .ref q4, .ref q5, .null, .null, .null, .null, .null, .int 0, .int 0])), (q1, .inl (cs 0, 10, .inl (fun _ => 0))), (q2, .inl (cs 1, 10, .inr (.inl (fun _ => 0)))), (q3, .inl (cs 0, 10, .inl (fun _ => 0))), (q4, .inl (cs 0, 60, .inl (fun _ => 0))), (q5, .inl (cs 0, 10, .inl (fun _ => 0)))]) := hD
  refine lv_aload_n hx hb dX1_init_44 rfl (lv_at hl 0 rfl) ?_
  refine lv_bipush (v := 10) hx hb dX1_init_45 (by decide) ?_
  have hc1 : 5 + 1 ≤ 10 := Nat.le_of_ble_eq_true rfl
  have hc2 : 100 + 10 ≤ 180 := Nat.le_of_ble_eq_true rfl
  refine va_newa (atype := .int) (ty := .int) (N' := 10) (a0 := (10, .inl (fun _ => 0))) hx hb (hts (.arrayClass .int) (by decide +kernel)) rfl hK hP hD hS hA (fun _ => aZi _ _ _ rfl) (by decide +kernel) (by decide +kernel) (by decide +kernel) hc1 hc2 dX1_init_47 (fun q6 cA H hK2 hP hD hS => ?_)
  obtain rfl : cA = cs 0 := kUniq hK2 5 0 rfl rfl rfl
  have hP : va_P D vwCl ([(h0, .inr (1, [.ref q1, .ref q2, .ref q3, .ref q4, .ref q5, .null, .null, .null, .null, .null, .int 0, .int 0])), (q1, .inl (cs 0, 10, .inl (fun _ => 0))), (q2, .inl (cs 1, 10, .inr (.inl (fun _ => 0)))), (q3, .inl (cs 0, 10, .inl (fun _ => 0))), (q4, .inl (cs 0, 60, .inl (fun _ => 0))), (q5, .inl (cs 0, 10, .inl (fun _ => 0))), (q6, .inl (cs 0, 10, .inl (fun _ => 0)))]) H := hP
  have hD : va_D A ([(h0, .inr (1, [.ref q1, .ref q2, .ref q3, .ref q4, .ref q5, .null, .null, .null, .null, .null, .int 0, .int 0])), (q1, .inl (cs 0, 10, .inl (fun _ => 0))), (q2, .inl (cs 1, 10, .inr (.inl (fun _ => 0)))), (q3, .inl (cs 0, 10, .inl (fun _ => 0))), (q4, .inl (cs 0, 60, .inl (fun _ => 0))), (q5, .inl (cs 0, 10, .inl (fun _ => 0))), (q6, .inl (cs 0, 10, .inl (fun _ => 0)))]) := hD
  refine W.widen (k := 6) (n := 110) (by omega) (by omega) ?_
  refine va_putF (D := D) (ci := 1) (v := .ref q6) (ty := .array .int) (C := RX1) (T := TX1) (N := 12) hx hb hts (by decide +kernel) tyX1 tyX1_ok nmX1 hown hK hP hD hS 0 rfl rfl 5 (by decide) (hts (.fieldLink RX1 28 "PartGraphs$Product" "families" "[I") (by decide +kernel)) (fun _ h9 => h9) rfl hin rfl (by decide +kernel) rfl rfl (Nat.le_of_ble_eq_true rfl) dX1_init_49 (fun H locs hP hD hS => ?_)
  have hP : va_P D vwCl ([(h0, .inr (1, [.ref q1, .ref q2, .ref q3, .ref q4, .ref q5, .ref q6, .null, .null, .null, .null, .int 0, .int 0])), (q1, .inl (cs 0, 10, .inl (fun _ => 0))), (q2, .inl (cs 1, 10, .inr (.inl (fun _ => 0)))), (q3, .inl (cs 0, 10, .inl (fun _ => 0))), (q4, .inl (cs 0, 60, .inl (fun _ => 0))), (q5, .inl (cs 0, 10, .inl (fun _ => 0))), (q6, .inl (cs 0, 10, .inl (fun _ => 0)))]) H := hP
  have hD : va_D A ([(h0, .inr (1, [.ref q1, .ref q2, .ref q3, .ref q4, .ref q5, .ref q6, .null, .null, .null, .null, .int 0, .int 0])), (q1, .inl (cs 0, 10, .inl (fun _ => 0))), (q2, .inl (cs 1, 10, .inr (.inl (fun _ => 0)))), (q3, .inl (cs 0, 10, .inl (fun _ => 0))), (q4, .inl (cs 0, 60, .inl (fun _ => 0))), (q5, .inl (cs 0, 10, .inl (fun _ => 0))), (q6, .inl (cs 0, 10, .inl (fun _ => 0)))]) := hD
  refine lv_aload_n hx hb dX1_init_52 rfl (lv_at hl 0 rfl) ?_
  refine lv_bipush (v := 10) hx hb dX1_init_53 (by decide) ?_
  have hc1 : 6 + 1 ≤ 10 := Nat.le_of_ble_eq_true rfl
  have hc2 : 110 + 10 ≤ 180 := Nat.le_of_ble_eq_true rfl
  refine va_newa (atype := .int) (ty := .int) (N' := 10) (a0 := (10, .inl (fun _ => 0))) hx hb (hts (.arrayClass .int) (by decide +kernel)) rfl hK hP hD hS hA (fun _ => aZi _ _ _ rfl) (by decide +kernel) (by decide +kernel) (by decide +kernel) hc1 hc2 dX1_init_55 (fun q7 cA H hK2 hP hD hS => ?_)
  obtain rfl : cA = cs 0 := kUniq hK2 5 0 rfl rfl rfl
  have hP : va_P D vwCl ([(h0, .inr (1, [.ref q1, .ref q2, .ref q3, .ref q4, .ref q5, .ref q6, .null, .null, .null, .null, .int 0, .int 0])), (q1, .inl (cs 0, 10, .inl (fun _ => 0))), (q2, .inl (cs 1, 10, .inr (.inl (fun _ => 0)))), (q3, .inl (cs 0, 10, .inl (fun _ => 0))), (q4, .inl (cs 0, 60, .inl (fun _ => 0))), (q5, .inl (cs 0, 10, .inl (fun _ => 0))), (q6, .inl (cs 0, 10, .inl (fun _ => 0))), (q7, .inl (cs 0, 10, .inl (fun _ => 0)))]) H := hP
  have hD : va_D A ([(h0, .inr (1, [.ref q1, .ref q2, .ref q3, .ref q4, .ref q5, .ref q6, .null, .null, .null, .null, .int 0, .int 0])), (q1, .inl (cs 0, 10, .inl (fun _ => 0))), (q2, .inl (cs 1, 10, .inr (.inl (fun _ => 0)))), (q3, .inl (cs 0, 10, .inl (fun _ => 0))), (q4, .inl (cs 0, 60, .inl (fun _ => 0))), (q5, .inl (cs 0, 10, .inl (fun _ => 0))), (q6, .inl (cs 0, 10, .inl (fun _ => 0))), (q7, .inl (cs 0, 10, .inl (fun _ => 0)))]) := hD
  refine W.widen (k := 7) (n := 120) (by omega) (by omega) ?_
  refine va_putF (D := D) (ci := 1) (v := .ref q7) (ty := .array .int) (C := RX1) (T := TX1) (N := 12) hx hb hts (by decide +kernel) tyX1 tyX1_ok nmX1 hown hK hP hD hS 0 rfl rfl 6 (by decide) (hts (.fieldLink RX1 31 "PartGraphs$Product" "damages" "[I") (by decide +kernel)) (fun _ h9 => h9) rfl hin rfl (by decide +kernel) rfl rfl (Nat.le_of_ble_eq_true rfl) dX1_init_57 (fun H locs hP hD hS => ?_)
  have hP : va_P D vwCl ([(h0, .inr (1, [.ref q1, .ref q2, .ref q3, .ref q4, .ref q5, .ref q6, .ref q7, .null, .null, .null, .int 0, .int 0])), (q1, .inl (cs 0, 10, .inl (fun _ => 0))), (q2, .inl (cs 1, 10, .inr (.inl (fun _ => 0)))), (q3, .inl (cs 0, 10, .inl (fun _ => 0))), (q4, .inl (cs 0, 60, .inl (fun _ => 0))), (q5, .inl (cs 0, 10, .inl (fun _ => 0))), (q6, .inl (cs 0, 10, .inl (fun _ => 0))), (q7, .inl (cs 0, 10, .inl (fun _ => 0)))]) H := hP
  have hD : va_D A ([(h0, .inr (1, [.ref q1, .ref q2, .ref q3, .ref q4, .ref q5, .ref q6, .ref q7, .null, .null, .null, .int 0, .int 0])), (q1, .inl (cs 0, 10, .inl (fun _ => 0))), (q2, .inl (cs 1, 10, .inr (.inl (fun _ => 0)))), (q3, .inl (cs 0, 10, .inl (fun _ => 0))), (q4, .inl (cs 0, 60, .inl (fun _ => 0))), (q5, .inl (cs 0, 10, .inl (fun _ => 0))), (q6, .inl (cs 0, 10, .inl (fun _ => 0))), (q7, .inl (cs 0, 10, .inl (fun _ => 0)))]) := hD
  refine lv_aload_n hx hb dX1_init_60 rfl (lv_at hl 0 rfl) ?_
  refine lv_bipush (v := 20) hx hb dX1_init_61 (by decide) ?_
  have hc1 : 7 + 1 ≤ 10 := Nat.le_of_ble_eq_true rfl
  have hc2 : 120 + 20 ≤ 180 := Nat.le_of_ble_eq_true rfl
  refine va_newa (atype := .int) (ty := .int) (N' := 20) (a0 := (20, .inl (fun _ => 0))) hx hb (hts (.arrayClass .int) (by decide +kernel)) rfl hK hP hD hS hA (fun _ => aZi _ _ _ rfl) (by decide +kernel) (by decide +kernel) (by decide +kernel) hc1 hc2 dX1_init_63 (fun q8 cA H hK2 hP hD hS => ?_)
  obtain rfl : cA = cs 0 := kUniq hK2 5 0 rfl rfl rfl
  have hP : va_P D vwCl ([(h0, .inr (1, [.ref q1, .ref q2, .ref q3, .ref q4, .ref q5, .ref q6, .ref q7, .null, .null, .null, .int 0, .int 0])), (q1, .inl (cs 0, 10, .inl (fun _ => 0))), (q2, .inl (cs 1, 10, .inr (.inl (fun _ => 0)))), (q3, .inl (cs 0, 10, .inl (fun _ => 0))), (q4, .inl (cs 0, 60, .inl (fun _ => 0))), (q5, .inl (cs 0, 10, .inl (fun _ => 0))), (q6, .inl (cs 0, 10, .inl (fun _ => 0))), (q7, .inl (cs 0, 10, .inl (fun _ => 0))), (q8, .inl (cs 0, 20, .inl (fun _ => 0)))]) H := hP
  have hD : va_D A ([(h0, .inr (1, [.ref q1, .ref q2, .ref q3, .ref q4, .ref q5, .ref q6, .ref q7, .null, .null, .null, .int 0, .int 0])), (q1, .inl (cs 0, 10, .inl (fun _ => 0))), (q2, .inl (cs 1, 10, .inr (.inl (fun _ => 0)))), (q3, .inl (cs 0, 10, .inl (fun _ => 0))), (q4, .inl (cs 0, 60, .inl (fun _ => 0))), (q5, .inl (cs 0, 10, .inl (fun _ => 0))), (q6, .inl (cs 0, 10, .inl (fun _ => 0))), (q7, .inl (cs 0, 10, .inl (fun _ => 0))), (q8, .inl (cs 0, 20, .inl (fun _ => 0)))]) := hD
  refine W.widen (k := 8) (n := 140) (by omega) (by omega) ?_
  refine va_putF (D := D) (ci := 1) (v := .ref q8) (ty := .array .int) (C := RX1) (T := TX1) (N := 12) hx hb hts (by decide +kernel) tyX1 tyX1_ok nmX1 hown hK hP hD hS 0 rfl rfl 7 (by decide) (hts (.fieldLink RX1 34 "PartGraphs$Product" "firstEnds" "[I") (by decide +kernel)) (fun _ h9 => h9) rfl hin rfl (by decide +kernel) rfl rfl (Nat.le_of_ble_eq_true rfl) dX1_init_65 (fun H locs hP hD hS => ?_)
  have hP : va_P D vwCl ([(h0, .inr (1, [.ref q1, .ref q2, .ref q3, .ref q4, .ref q5, .ref q6, .ref q7, .ref q8, .null, .null, .int 0, .int 0])), (q1, .inl (cs 0, 10, .inl (fun _ => 0))), (q2, .inl (cs 1, 10, .inr (.inl (fun _ => 0)))), (q3, .inl (cs 0, 10, .inl (fun _ => 0))), (q4, .inl (cs 0, 60, .inl (fun _ => 0))), (q5, .inl (cs 0, 10, .inl (fun _ => 0))), (q6, .inl (cs 0, 10, .inl (fun _ => 0))), (q7, .inl (cs 0, 10, .inl (fun _ => 0))), (q8, .inl (cs 0, 20, .inl (fun _ => 0)))]) H := hP
  have hD : va_D A ([(h0, .inr (1, [.ref q1, .ref q2, .ref q3, .ref q4, .ref q5, .ref q6, .ref q7, .ref q8, .null, .null, .int 0, .int 0])), (q1, .inl (cs 0, 10, .inl (fun _ => 0))), (q2, .inl (cs 1, 10, .inr (.inl (fun _ => 0)))), (q3, .inl (cs 0, 10, .inl (fun _ => 0))), (q4, .inl (cs 0, 60, .inl (fun _ => 0))), (q5, .inl (cs 0, 10, .inl (fun _ => 0))), (q6, .inl (cs 0, 10, .inl (fun _ => 0))), (q7, .inl (cs 0, 10, .inl (fun _ => 0))), (q8, .inl (cs 0, 20, .inl (fun _ => 0)))]) := hD
  refine lv_aload_n hx hb dX1_init_68 rfl (lv_at hl 0 rfl) ?_
  refine lv_bipush (v := 20) hx hb dX1_init_69 (by decide) ?_
  have hc1 : 8 + 1 ≤ 10 := Nat.le_of_ble_eq_true rfl
  have hc2 : 140 + 20 ≤ 180 := Nat.le_of_ble_eq_true rfl
  refine va_newa (atype := .int) (ty := .int) (N' := 20) (a0 := (20, .inl (fun _ => 0))) hx hb (hts (.arrayClass .int) (by decide +kernel)) rfl hK hP hD hS hA (fun _ => aZi _ _ _ rfl) (by decide +kernel) (by decide +kernel) (by decide +kernel) hc1 hc2 dX1_init_71 (fun q9 cA H hK2 hP hD hS => ?_)
  obtain rfl : cA = cs 0 := kUniq hK2 5 0 rfl rfl rfl
  have hP : va_P D vwCl ([(h0, .inr (1, [.ref q1, .ref q2, .ref q3, .ref q4, .ref q5, .ref q6, .ref q7, .ref q8, .null, .null, .int 0, .int 0])), (q1, .inl (cs 0, 10, .inl (fun _ => 0))), (q2, .inl (cs 1, 10, .inr (.inl (fun _ => 0)))), (q3, .inl (cs 0, 10, .inl (fun _ => 0))), (q4, .inl (cs 0, 60, .inl (fun _ => 0))), (q5, .inl (cs 0, 10, .inl (fun _ => 0))), (q6, .inl (cs 0, 10, .inl (fun _ => 0))), (q7, .inl (cs 0, 10, .inl (fun _ => 0))), (q8, .inl (cs 0, 20, .inl (fun _ => 0))), (q9, .inl (cs 0, 20, .inl (fun _ => 0)))]) H := hP
  have hD : va_D A ([(h0, .inr (1, [.ref q1, .ref q2, .ref q3, .ref q4, .ref q5, .ref q6, .ref q7, .ref q8, .null, .null, .int 0, .int 0])), (q1, .inl (cs 0, 10, .inl (fun _ => 0))), (q2, .inl (cs 1, 10, .inr (.inl (fun _ => 0)))), (q3, .inl (cs 0, 10, .inl (fun _ => 0))), (q4, .inl (cs 0, 60, .inl (fun _ => 0))), (q5, .inl (cs 0, 10, .inl (fun _ => 0))), (q6, .inl (cs 0, 10, .inl (fun _ => 0))), (q7, .inl (cs 0, 10, .inl (fun _ => 0))), (q8, .inl (cs 0, 20, .inl (fun _ => 0))), (q9, .inl (cs 0, 20, .inl (fun _ => 0)))]) := hD
  refine W.widen (k := 9) (n := 160) (by omega) (by omega) ?_
  refine va_putF (D := D) (ci := 1) (v := .ref q9) (ty := .array .int) (C := RX1) (T := TX1) (N := 12) hx hb hts (by decide +kernel) tyX1 tyX1_ok nmX1 hown hK hP hD hS 0 rfl rfl 8 (by decide) (hts (.fieldLink RX1 37 "PartGraphs$Product" "secondEnds" "[I") (by decide +kernel)) (fun _ h9 => h9) rfl hin rfl (by decide +kernel) rfl rfl (Nat.le_of_ble_eq_true rfl) dX1_init_73 (fun H locs hP hD hS => ?_)
  have hP : va_P D vwCl ([(h0, .inr (1, [.ref q1, .ref q2, .ref q3, .ref q4, .ref q5, .ref q6, .ref q7, .ref q8, .ref q9, .null, .int 0, .int 0])), (q1, .inl (cs 0, 10, .inl (fun _ => 0))), (q2, .inl (cs 1, 10, .inr (.inl (fun _ => 0)))), (q3, .inl (cs 0, 10, .inl (fun _ => 0))), (q4, .inl (cs 0, 60, .inl (fun _ => 0))), (q5, .inl (cs 0, 10, .inl (fun _ => 0))), (q6, .inl (cs 0, 10, .inl (fun _ => 0))), (q7, .inl (cs 0, 10, .inl (fun _ => 0))), (q8, .inl (cs 0, 20, .inl (fun _ => 0))), (q9, .inl (cs 0, 20, .inl (fun _ => 0)))]) H := hP
  have hD : va_D A ([(h0, .inr (1, [.ref q1, .ref q2, .ref q3, .ref q4, .ref q5, .ref q6, .ref q7, .ref q8, .ref q9, .null, .int 0, .int 0])), (q1, .inl (cs 0, 10, .inl (fun _ => 0))), (q2, .inl (cs 1, 10, .inr (.inl (fun _ => 0)))), (q3, .inl (cs 0, 10, .inl (fun _ => 0))), (q4, .inl (cs 0, 60, .inl (fun _ => 0))), (q5, .inl (cs 0, 10, .inl (fun _ => 0))), (q6, .inl (cs 0, 10, .inl (fun _ => 0))), (q7, .inl (cs 0, 10, .inl (fun _ => 0))), (q8, .inl (cs 0, 20, .inl (fun _ => 0))), (q9, .inl (cs 0, 20, .inl (fun _ => 0)))]) := hD
  refine lv_aload_n hx hb dX1_init_76 rfl (lv_at hl 0 rfl) ?_
  refine lv_bipush (v := 20) hx hb dX1_init_77 (by decide) ?_
  have hc1 : 9 + 1 ≤ 10 := Nat.le_of_ble_eq_true rfl
  have hc2 : 160 + 20 ≤ 180 := Nat.le_of_ble_eq_true rfl
  refine va_newa (atype := .int) (ty := .int) (N' := 20) (a0 := (20, .inl (fun _ => 0))) hx hb (hts (.arrayClass .int) (by decide +kernel)) rfl hK hP hD hS hA (fun _ => aZi _ _ _ rfl) (by decide +kernel) (by decide +kernel) (by decide +kernel) hc1 hc2 dX1_init_79 (fun q10 cA H hK2 hP hD hS => ?_)
  obtain rfl : cA = cs 0 := kUniq hK2 5 0 rfl rfl rfl
  have hP : va_P D vwCl ([(h0, .inr (1, [.ref q1, .ref q2, .ref q3, .ref q4, .ref q5, .ref q6, .ref q7, .ref q8, .ref q9, .null, .int 0, .int 0])), (q1, .inl (cs 0, 10, .inl (fun _ => 0))), (q2, .inl (cs 1, 10, .inr (.inl (fun _ => 0)))), (q3, .inl (cs 0, 10, .inl (fun _ => 0))), (q4, .inl (cs 0, 60, .inl (fun _ => 0))), (q5, .inl (cs 0, 10, .inl (fun _ => 0))), (q6, .inl (cs 0, 10, .inl (fun _ => 0))), (q7, .inl (cs 0, 10, .inl (fun _ => 0))), (q8, .inl (cs 0, 20, .inl (fun _ => 0))), (q9, .inl (cs 0, 20, .inl (fun _ => 0))), (q10, .inl (cs 0, 20, .inl (fun _ => 0)))]) H := hP
  have hD : va_D A ([(h0, .inr (1, [.ref q1, .ref q2, .ref q3, .ref q4, .ref q5, .ref q6, .ref q7, .ref q8, .ref q9, .null, .int 0, .int 0])), (q1, .inl (cs 0, 10, .inl (fun _ => 0))), (q2, .inl (cs 1, 10, .inr (.inl (fun _ => 0)))), (q3, .inl (cs 0, 10, .inl (fun _ => 0))), (q4, .inl (cs 0, 60, .inl (fun _ => 0))), (q5, .inl (cs 0, 10, .inl (fun _ => 0))), (q6, .inl (cs 0, 10, .inl (fun _ => 0))), (q7, .inl (cs 0, 10, .inl (fun _ => 0))), (q8, .inl (cs 0, 20, .inl (fun _ => 0))), (q9, .inl (cs 0, 20, .inl (fun _ => 0))), (q10, .inl (cs 0, 20, .inl (fun _ => 0)))]) := hD
  refine W.widen (k := 10) (n := 180) (by omega) (by omega) ?_
  refine va_putF (D := D) (ci := 1) (v := .ref q10) (ty := .array .int) (C := RX1) (T := TX1) (N := 12) hx hb hts (by decide +kernel) tyX1 tyX1_ok nmX1 hown hK hP hD hS 0 rfl rfl 9 (by decide) (hts (.fieldLink RX1 40 "PartGraphs$Product" "fasteningKinds" "[I") (by decide +kernel)) (fun _ h9 => h9) rfl hin rfl (by decide +kernel) rfl rfl (Nat.le_of_ble_eq_true rfl) dX1_init_81 (fun H locs hP hD hS => ?_)
  have hP : va_P D vwCl ([(h0, .inr (1, [.ref q1, .ref q2, .ref q3, .ref q4, .ref q5, .ref q6, .ref q7, .ref q8, .ref q9, .ref q10, .int 0, .int 0])), (q1, .inl (cs 0, 10, .inl (fun _ => 0))), (q2, .inl (cs 1, 10, .inr (.inl (fun _ => 0)))), (q3, .inl (cs 0, 10, .inl (fun _ => 0))), (q4, .inl (cs 0, 60, .inl (fun _ => 0))), (q5, .inl (cs 0, 10, .inl (fun _ => 0))), (q6, .inl (cs 0, 10, .inl (fun _ => 0))), (q7, .inl (cs 0, 10, .inl (fun _ => 0))), (q8, .inl (cs 0, 20, .inl (fun _ => 0))), (q9, .inl (cs 0, 20, .inl (fun _ => 0))), (q10, .inl (cs 0, 20, .inl (fun _ => 0)))]) H := hP
  have hD : va_D A ([(h0, .inr (1, [.ref q1, .ref q2, .ref q3, .ref q4, .ref q5, .ref q6, .ref q7, .ref q8, .ref q9, .ref q10, .int 0, .int 0])), (q1, .inl (cs 0, 10, .inl (fun _ => 0))), (q2, .inl (cs 1, 10, .inr (.inl (fun _ => 0)))), (q3, .inl (cs 0, 10, .inl (fun _ => 0))), (q4, .inl (cs 0, 60, .inl (fun _ => 0))), (q5, .inl (cs 0, 10, .inl (fun _ => 0))), (q6, .inl (cs 0, 10, .inl (fun _ => 0))), (q7, .inl (cs 0, 10, .inl (fun _ => 0))), (q8, .inl (cs 0, 20, .inl (fun _ => 0))), (q9, .inl (cs 0, 20, .inl (fun _ => 0))), (q10, .inl (cs 0, 20, .inl (fun _ => 0)))]) := hD
  exact W.vret hx hb hr (fun t ht hW => ⟨⟨(), rfl, trivial, fun k => [h0, q1, q2, q3, q4, q5, q6, q7, q8, q9, q10].getD k 0, rfl, by rw [ht]; exact hP, va_K.moved hW.alike hK, hD⟩, hS.F ht⟩) hS.2.2 dX1_init_84
set_option maxHeartbeats 4000000 in
set_option maxRecDepth 100000 in
theorem met_X2_init (l : Launch) (D : va_G) (cs : Nat → ClassId) (ev : Nat → Nat → Nat) (sz0 : Nat) (h0 : Nat) : Met l yX2_init wsX2_init ({ frames := 1, cells := 2, slots := 2003, locals := 12 }) (va_Pc [.ref h0] (mPre D cs ev ([(h0, .inr (2, [.null, .null, .int 0, .int 0, .int 0]))]) sz0)) (va_Qv (S := Unit) (fun _ => True) (fun _ t => ∃ ad : Nat → Nat, ad 0 = h0 ∧ mAt D cs (va_A ([(h0, .inr (2, [.null, .null, .int 0, .int 0, .int 0]))]) sz0) (sh_R cs ad (fun _ => 0) (fun _ => 0) 0 0 0) t) (va_A ([(h0, .inr (2, [.null, .null, .int 0, .int 0, .int 0]))]) sz0)) 2 2003 (va_A ([(h0, .inr (2, [.null, .null, .int 0, .int 0, .int 0]))]) sz0) := by
  refine Met.ofW (cc := cX2_init) (maxL := 1) (ret := none) (by decide) rfl ?_
  intro p e s m args below meth c s₁ B hml hv
  obtain ⟨rfl, hsz, hP, hK, hD0, hE⟩ := hv
  have hx := B.exec
  have hb := B.bytes
  have hr := B.returns
  have hts := atoms_spec (ws := wsX2_init) B.pre
  have hown : s.vm.findClass RX2 = some m.cls := findClass_of_methodNamed B.named
  have hlocks := B.notSynchronized
  have hin : meth.name = "<init>" := (name_of_methodNamed B.named B.method).1
  subst hsz
  have hD := hD0.self (sz := s.heap.size)
  generalize hAe : va_A ([(h0, .inr (2, [.null, .null, .int 0, .int 0, .int 0]))]) s.heap.size = A at hD hE ⊢
  have hA : ∀ q : Nat, s.heap.size ≤ q → A q := fun q h => by rw [← hAe]; exact Or.inr h
  have hS : va_S A s.heap s.heap [] := va_S.rf
  have hl := lv_entry ([.ref h0]) (n := 1) (Nat.le_of_ble_eq_true rfl)
  rw [lg_entry_eq]
  generalize (lg_sl ([.ref h0]) ++ List.replicate (1 - (lg_sl ([.ref h0])).length) Slot.unset).toArray = ls at hl ⊢
  have hl : lv_has ls 1 [(0, .ref h0)] := hl
  refine lv_aload_n hx hb dX2_init_0 rfl (lv_at hl 0 rfl) ?_
  refine W.objInit hx hb hown (hts (.methodLink RX2 3 objectInit) (by decide +kernel)) (hts (.instanceMethod objectInit) (by decide +kernel)) (hts (.code objectInit ⟨#[0xb1]⟩ 1 none) (List.mem_of_getElem? (i := 3) rfl)) rfl (by rw [hml]; exact hl.1) rfl dX2_init_1 (Nat.le_of_ble_eq_true rfl) (Nat.le_of_ble_eq_true rfl) ?_
  refine W.eq (g2 := F0 m 4 ls []) rfl ?_
  refine lv_aload_n hx hb dX2_init_4 rfl (lv_at hl 0 rfl) ?_
  refine lv_sipush (v := 2000) hx hb dX2_init_5 (by decide) ?_
  have hc1 : 0 + 1 ≤ 2 := Nat.le_of_ble_eq_true rfl
  have hc2 : 0 + 2000 ≤ 2003 := Nat.le_of_ble_eq_true rfl
  refine va_newa (atype := .char) (ty := .char) (N' := 2000) (a0 := (2000, .inl (fun _ => 0))) hx hb (hts (.arrayClass .char) (by decide +kernel)) rfl hK hP hD hS hA (fun _ => aZi _ _ _ rfl) (by decide +kernel) (by decide +kernel) (by decide +kernel) hc1 hc2 dX2_init_8 (fun q1 cA H hK2 hP hD hS => ?_)
  obtain rfl : cA = cs 2 := kUniq hK2 5 2 rfl rfl rfl
  have hP : va_P D vwCl ([(h0, .inr (2, [.null, .null, .int 0, .int 0, .int 0])), (q1, .inl (cs 2, 2000, .inl (fun _ => 0)))]) H := hP
  have hD : va_D A ([(h0, .inr (2, [.null, .null, .int 0, .int 0, .int 0])), (q1, .inl (cs 2, 2000, .inl (fun _ => 0)))]) := hD
  refine W.widen (k := 1) (n := 2000) (by omega) (by omega) ?_
  refine va_putF (D := D) (ci := 2) (v := .ref q1) (ty := .array .char) (C := RX2) (T := TX2) (N := 5) hx hb hts (by decide +kernel) tyX2 tyX2_ok nmX2 hown hK hP hD hS 0 rfl rfl 0 (by decide) (hts (.fieldLink RX2 9 "PartGraphs$Reader" "text" "[C") (by decide +kernel)) (fun _ h9 => h9) rfl hin rfl (by decide +kernel) rfl rfl (Nat.le_of_ble_eq_true rfl) dX2_init_10 (fun H locs hP hD hS => ?_)
  have hP : va_P D vwCl ([(h0, .inr (2, [.ref q1, .null, .int 0, .int 0, .int 0])), (q1, .inl (cs 2, 2000, .inl (fun _ => 0)))]) H := hP
  have hD : va_D A ([(h0, .inr (2, [.ref q1, .null, .int 0, .int 0, .int 0])), (q1, .inl (cs 2, 2000, .inl (fun _ => 0)))]) := hD
  refine lv_aload_n hx hb dX2_init_13 rfl (lv_at hl 0 rfl) ?_
  refine lv_iconst (v := 3) hx hb dX2_init_14 (by decide) ?_
  have hc1 : 1 + 1 ≤ 2 := Nat.le_of_ble_eq_true rfl
  have hc2 : 2000 + 3 ≤ 2003 := Nat.le_of_ble_eq_true rfl
  refine va_newa (atype := .int) (ty := .int) (N' := 3) (a0 := (3, .inl (fun _ => 0))) hx hb (hts (.arrayClass .int) (by decide +kernel)) rfl hK hP hD hS hA (fun _ => aZi _ _ _ rfl) (by decide +kernel) (by decide +kernel) (by decide +kernel) hc1 hc2 dX2_init_15 (fun q2 cA H hK2 hP hD hS => ?_)
  obtain rfl : cA = cs 0 := kUniq hK2 5 0 rfl rfl rfl
  have hP : va_P D vwCl ([(h0, .inr (2, [.ref q1, .null, .int 0, .int 0, .int 0])), (q1, .inl (cs 2, 2000, .inl (fun _ => 0))), (q2, .inl (cs 0, 3, .inl (fun _ => 0)))]) H := hP
  have hD : va_D A ([(h0, .inr (2, [.ref q1, .null, .int 0, .int 0, .int 0])), (q1, .inl (cs 2, 2000, .inl (fun _ => 0))), (q2, .inl (cs 0, 3, .inl (fun _ => 0)))]) := hD
  refine W.widen (k := 2) (n := 2003) (by omega) (by omega) ?_
  refine va_putF (D := D) (ci := 2) (v := .ref q2) (ty := .array .int) (C := RX2) (T := TX2) (N := 5) hx hb hts (by decide +kernel) tyX2 tyX2_ok nmX2 hown hK hP hD hS 0 rfl rfl 1 (by decide) (hts (.fieldLink RX2 15 "PartGraphs$Reader" "numbers" "[I") (by decide +kernel)) (fun _ h9 => h9) rfl hin rfl (by decide +kernel) rfl rfl (Nat.le_of_ble_eq_true rfl) dX2_init_17 (fun H locs hP hD hS => ?_)
  have hP : va_P D vwCl ([(h0, .inr (2, [.ref q1, .ref q2, .int 0, .int 0, .int 0])), (q1, .inl (cs 2, 2000, .inl (fun _ => 0))), (q2, .inl (cs 0, 3, .inl (fun _ => 0)))]) H := hP
  have hD : va_D A ([(h0, .inr (2, [.ref q1, .ref q2, .int 0, .int 0, .int 0])), (q1, .inl (cs 2, 2000, .inl (fun _ => 0))), (q2, .inl (cs 0, 3, .inl (fun _ => 0)))]) := hD
  exact W.vret hx hb hr (fun t ht hW => ⟨⟨(), rfl, trivial, fun k => [h0, q1, q2].getD k 0, rfl, by rw [ht]; exact hP, va_K.moved hW.alike hK, hD⟩, hS.F ht⟩) hS.2.2 dX2_init_20
set_option maxHeartbeats 4000000 in
set_option maxRecDepth 100000 in
theorem met_X5_init (l : Launch) (D : va_G) (cs : Nat → ClassId) (ev : Nat → Nat → Nat) (sz0 : Nat) (h0 : Nat) : Met l yX5_init wsX5_init ({ frames := 2, cells := 26, slots := 2394, locals := 32 }) (va_Pc [.ref h0] (mPre D cs ev ([(h0, .inr (4, [.null, .null, .null, .null]))]) sz0)) (va_Qv (S := Unit) (fun _ => True) (fun _ t => ∃ adG adR adT adP adQ : Nat → Nat, adG 0 = h0 ∧ mAt D cs (va_A ([(h0, .inr (4, [.null, .null, .null, .null]))]) sz0) (sh_G cs adG (adR 0) (adT 0) (adP 0) (adQ 0) ++ sh_R cs adR (fun _ => 0) (fun _ => 0) 0 0 0 ++ sh_T cs adT 0 0 ++ sh_P cs adP (fun _ => 0) (fun _ => 0) (fun _ => 0) (fun _ => 0) (fun _ => 0) (fun _ => 0) (fun _ => 0) (fun _ => 0) (fun _ => 0) (fun _ => 0) 0 0 ++ sh_P cs adQ (fun _ => 0) (fun _ => 0) (fun _ => 0) (fun _ => 0) (fun _ => 0) (fun _ => 0) (fun _ => 0) (fun _ => 0) (fun _ => 0) (fun _ => 0) 0 0) t) (va_A ([(h0, .inr (4, [.null, .null, .null, .null]))]) sz0)) 26 2394 (va_A ([(h0, .inr (4, [.null, .null, .null, .null]))]) sz0) := by
  refine Met.ofW (cc := cX5_init) (maxL := 1) (ret := none) (by decide) rfl ?_
  intro p e s m args below meth c s₁ B hml hv
  obtain ⟨rfl, hsz, hP, hK, hD0, hE⟩ := hv
  have hx := B.exec
  have hb := B.bytes
  have hr := B.returns
  have hts := atoms_spec (ws := wsX5_init) B.pre
  have hown : s.vm.findClass RX5 = some m.cls := findClass_of_methodNamed B.named
  have hlocks := B.notSynchronized
  have hin : meth.name = "<init>" := (name_of_methodNamed B.named B.method).1
  subst hsz
  have hD := hD0.self (sz := s.heap.size)
  generalize hAe : va_A ([(h0, .inr (4, [.null, .null, .null, .null]))]) s.heap.size = A at hD hE ⊢
  have hA : ∀ q : Nat, s.heap.size ≤ q → A q := fun q h => by rw [← hAe]; exact Or.inr h
  have hS : va_S A s.heap s.heap [] := va_S.rf
  have hl := lv_entry ([.ref h0]) (n := 1) (Nat.le_of_ble_eq_true rfl)
  rw [lg_entry_eq]
  generalize (lg_sl ([.ref h0]) ++ List.replicate (1 - (lg_sl ([.ref h0])).length) Slot.unset).toArray = ls at hl ⊢
  have hl : lv_has ls 1 [(0, .ref h0)] := hl
  refine lv_aload_n hx hb dX5_init_0 rfl (lv_at hl 0 rfl) ?_
  refine W.objInit hx hb hown (hts (.methodLink RX5 1 objectInit) (by decide +kernel)) (hts (.instanceMethod objectInit) (by decide +kernel)) (hts (.code objectInit ⟨#[0xb1]⟩ 1 none) (List.mem_of_getElem? (i := 3) rfl)) rfl (by rw [hml]; exact hl.1) rfl dX5_init_1 (Nat.le_of_ble_eq_true rfl) (Nat.le_of_ble_eq_true rfl) ?_
  refine W.eq (g2 := F0 m 4 ls []) rfl ?_
  refine lv_aload_n hx hb dX5_init_4 rfl (lv_at hl 0 rfl) ?_
  have hc1 : 0 + 1 ≤ 26 := Nat.le_of_ble_eq_true rfl
  have hc2 : 0 + 5 ≤ 2394 := Nat.le_of_ble_eq_true rfl
  refine va_new (ci := 2) (fs := [.null, .null, .int 0, .int 0, .int 0]) (C := RX2) (T := TX2) (N := 5) hx hb hts (by decide +kernel) tyX2 tyX2_ok hown (hts (.classLink RX5 7 RX2) (by decide +kernel)) (hts (.instantiable RX2 5) (by decide +kernel)) (hts (.initialized RX2) (by decide +kernel)) hK hP hD hS hA rfl (fun j hj => by rcases (show j = 0 ∨ j = 1 ∨ j = 2 ∨ j = 3 ∨ j = 4 by omega) with rfl | rfl | rfl | rfl | rfl <;> rfl) hc1 hc2 dX5_init_5 (fun q1 H hP hD hS => ?_)
  have hP : va_P D vwCl ([(h0, .inr (4, [.null, .null, .null, .null]))] ++ ([(q1, .inr (2, [.null, .null, .int 0, .int 0, .int 0]))] : va_W)) H := hP
  have hD : va_D A ([(h0, .inr (4, [.null, .null, .null, .null]))] ++ ([(q1, .inr (2, [.null, .null, .int 0, .int 0, .int 0]))] : va_W)) := hD
  refine W.widen (k := 1) (n := 5) (by omega) (by omega) ?_
  refine lv_dup hx hb dX5_init_8 rfl ?_
  have hFc := va_free (wc := ([(q1, .inr (2, [.null, .null, .int 0, .int 0, .int 0]))] : va_W)) hD hS hA [1] rfl
  have hc1 : 1 + 2 ≤ 26 := Nat.le_of_ble_eq_true rfl
  have hc2 : 5 + 2003 ≤ 2394 := Nat.le_of_ble_eq_true rfl
  refine va_callv (va_runI (As := []) (rest := [.ref q1, .ref h0]) ⟨hx, hb, hml, hown, hts⟩ (met_X2_init l D cs ev _ q1) (cwI 0 hts gX5_init_X2_init rfl rfl rfl (hts (.initialized RX2) (by decide +kernel)) (hts (.methodLink RX5 9 yX2_init) (by decide +kernel)) (hts (.instanceMethod yX2_init) (by decide +kernel)) rfl (by decide +kernel) ⟨Nat.le_of_ble_eq_true rfl, Nat.le_of_ble_eq_true rfl⟩) (mPreS hP hD hS hK hE hFc [1] (by decide) rfl) rfl rfl hl.1 rfl (lv_room (Nat.le_of_ble_eq_true rfl)) dX5_init_9 ⟨hc1, hc2⟩) hS (fun q _ h => hFc q h) hFc (fun u t H1 locs ht hvm hw hB hz1 hk1 hS => ?_)
  obtain ⟨ad1, had, hP1, hK1, hD1⟩ := hB
  rw [ht] at hP1
  obtain ⟨hP, hD⟩ := mJoin (wr := ([(h0, .inr (4, [.null, .null, .null, .null]))])) (w1 := (sh_R cs ad1 (fun _ => 0) (fun _ => 0) 0 0 0)) (w' := ([(h0, .inr (4, [.null, .null, .null, .null]))]) ++ (sh_R cs ad1 (fun _ => 0) (fun _ => 0) 0 0 0)) hP hD [1] [0] rfl rfl (by decide) (by decide) hk1 hFc hP1 hD1 [0, 1, 2, 3] (by decide) rfl
  generalize H1 = H at hP hS ⊢
  have hP : va_P D vwCl ([(h0, .inr (4, [.null, .null, .null, .null]))] ++ (sh_R cs ad1 (fun _ => 0) (fun _ => 0) 0 0 0)) H := hP
  have hD : va_D A ([(h0, .inr (4, [.null, .null, .null, .null]))] ++ (sh_R cs ad1 (fun _ => 0) (fun _ => 0) 0 0 0)) := hD
  refine W.widen (k := 3) (n := 2008) (by omega) (by omega) ?_
  rw [← had]
  refine va_putF (D := D) (ci := 4) (v := .ref (ad1 0)) (ty := .object "PartGraphs$Reader") (C := RX5) (T := TX5) (N := 4) hx hb hts (by decide +kernel) tyX5 tyX5_ok nmX5 hown hK hP hD hS 0 rfl rfl 0 (by decide) (hts (.fieldLink RX5 10 "PartGraphs" "reader" "LPartGraphs$Reader;") (by decide +kernel)) (fun _ h9 => h9) rfl hin rfl (by decide +kernel) rfl rfl (Nat.le_of_ble_eq_true rfl) dX5_init_12 (fun H locs hP hD hS => ?_)
  have hP : va_P D vwCl ([(h0, .inr (4, [.ref (ad1 0), .null, .null, .null]))] ++ (sh_R cs ad1 (fun _ => 0) (fun _ => 0) 0 0 0)) H := hP
  have hD : va_D A ([(h0, .inr (4, [.ref (ad1 0), .null, .null, .null]))] ++ (sh_R cs ad1 (fun _ => 0) (fun _ => 0) 0 0 0)) := hD
  refine lv_aload_n hx hb dX5_init_15 rfl (lv_at hl 0 rfl) ?_
  have hc1 : 3 + 1 ≤ 26 := Nat.le_of_ble_eq_true rfl
  have hc2 : 2008 + 2 ≤ 2394 := Nat.le_of_ble_eq_true rfl
  refine va_new (ci := 3) (fs := [.int 0, .int 0]) (C := RX3) (T := TX3) (N := 2) hx hb hts (by decide +kernel) tyX3 tyX3_ok hown (hts (.classLink RX5 16 RX3) (by decide +kernel)) (hts (.instantiable RX3 2) (by decide +kernel)) (hts (.initialized RX3) (by decide +kernel)) hK hP hD hS hA rfl (fun j hj => by rcases (show j = 0 ∨ j = 1 by omega) with rfl | rfl <;> rfl) hc1 hc2 dX5_init_16 (fun q2 H hP hD hS => ?_)
  have hP : va_P D vwCl ([(h0, .inr (4, [.ref (ad1 0), .null, .null, .null]))] ++ (sh_R cs ad1 (fun _ => 0) (fun _ => 0) 0 0 0) ++ ([(q2, .inr (3, [.int 0, .int 0]))] : va_W)) H := hP
  have hD : va_D A ([(h0, .inr (4, [.ref (ad1 0), .null, .null, .null]))] ++ (sh_R cs ad1 (fun _ => 0) (fun _ => 0) 0 0 0) ++ ([(q2, .inr (3, [.int 0, .int 0]))] : va_W)) := hD
  refine W.widen (k := 4) (n := 2010) (by omega) (by omega) ?_
  refine lv_dup hx hb dX5_init_19 rfl ?_
  have hFc := va_free (wc := ([(q2, .inr (3, [.int 0, .int 0]))] : va_W)) hD hS hA [4] rfl
  have hc1 : 4 + 0 ≤ 26 := Nat.le_of_ble_eq_true rfl
  have hc2 : 2010 + 0 ≤ 2394 := Nat.le_of_ble_eq_true rfl
  refine va_callv (va_runIN (As := []) (rest := [.ref q2, .ref h0]) ⟨hx, hb, hml, hown, hts⟩ (met_X3_init l D cs ev _ q2) ⟨va_cnB 0 hts gX5_init_X3_init_n18 rfl rfl rfl hE.1.2.2.2.2.2.1 (hts (.initialized RX3) (by decide +kernel)) (by decide +kernel) ⟨Nat.le_of_ble_eq_true rfl, Nat.le_of_ble_eq_true rfl⟩, rfl, hts (.instanceMethod yX3_init) (by decide +kernel)⟩ (mPreS hP hD hS hK hE hFc [4] (by decide) rfl) rfl rfl hl.1 rfl (lv_room (Nat.le_of_ble_eq_true rfl)) dX5_init_20 ⟨hc1, hc2⟩) hS (fun q _ h => hFc q h) hFc (fun u t H1 locs ht hvm hw hB hz1 hk1 hS => ?_)
  obtain ⟨ad2, had, hP1, hK1, hD1⟩ := hB
  rw [ht] at hP1
  obtain ⟨hP, hD⟩ := mJoin (wr := ([(h0, .inr (4, [.ref (ad1 0), .null, .null, .null]))] ++ (sh_R cs ad1 (fun _ => 0) (fun _ => 0) 0 0 0))) (w1 := (sh_T cs ad2 0 0)) (w' := ([(h0, .inr (4, [.ref (ad1 0), .null, .null, .null]))] ++ (sh_R cs ad1 (fun _ => 0) (fun _ => 0) 0 0 0)) ++ (sh_T cs ad2 0 0)) hP hD [4] [0, 1, 2, 3] rfl rfl (by decide) (by decide) hk1 hFc hP1 hD1 [0, 1, 2, 3, 4] (by decide) rfl
  generalize H1 = H at hP hS ⊢
  have hP : va_P D vwCl ([(h0, .inr (4, [.ref (ad1 0), .null, .null, .null]))] ++ (sh_R cs ad1 (fun _ => 0) (fun _ => 0) 0 0 0) ++ (sh_T cs ad2 0 0)) H := hP
  have hD : va_D A ([(h0, .inr (4, [.ref (ad1 0), .null, .null, .null]))] ++ (sh_R cs ad1 (fun _ => 0) (fun _ => 0) 0 0 0) ++ (sh_T cs ad2 0 0)) := hD
  refine W.widen (k := 4) (n := 2010) (by omega) (by omega) ?_
  rw [← had]
  refine va_putF (D := D) (ci := 4) (v := .ref (ad2 0)) (ty := .object "PartGraphs$Teller") (C := RX5) (T := TX5) (N := 4) hx hb hts (by decide +kernel) tyX5 tyX5_ok nmX5 hown hK hP hD hS 0 rfl rfl 1 (by decide) (hts (.fieldLink RX5 19 "PartGraphs" "teller" "LPartGraphs$Teller;") (by decide +kernel)) (fun _ h9 => h9) rfl hin rfl (by decide +kernel) rfl rfl (Nat.le_of_ble_eq_true rfl) dX5_init_23 (fun H locs hP hD hS => ?_)
  have hP : va_P D vwCl ([(h0, .inr (4, [.ref (ad1 0), .ref (ad2 0), .null, .null]))] ++ (sh_R cs ad1 (fun _ => 0) (fun _ => 0) 0 0 0) ++ (sh_T cs ad2 0 0)) H := hP
  have hD : va_D A ([(h0, .inr (4, [.ref (ad1 0), .ref (ad2 0), .null, .null]))] ++ (sh_R cs ad1 (fun _ => 0) (fun _ => 0) 0 0 0) ++ (sh_T cs ad2 0 0)) := hD
  refine lv_aload_n hx hb dX5_init_26 rfl (lv_at hl 0 rfl) ?_
  have hc1 : 4 + 1 ≤ 26 := Nat.le_of_ble_eq_true rfl
  have hc2 : 2010 + 12 ≤ 2394 := Nat.le_of_ble_eq_true rfl
  refine va_new (ci := 1) (fs := [.null, .null, .null, .null, .null, .null, .null, .null, .null, .null, .int 0, .int 0]) (C := RX1) (T := TX1) (N := 12) hx hb hts (by decide +kernel) tyX1 tyX1_ok hown (hts (.classLink RX5 23 RX1) (by decide +kernel)) (hts (.instantiable RX1 12) (by decide +kernel)) (hts (.initialized RX1) (by decide +kernel)) hK hP hD hS hA rfl (fun j hj => by rcases (show j = 0 ∨ j = 1 ∨ j = 2 ∨ j = 3 ∨ j = 4 ∨ j = 5 ∨ j = 6 ∨ j = 7 ∨ j = 8 ∨ j = 9 ∨ j = 10 ∨ j = 11 by omega) with rfl | rfl | rfl | rfl | rfl | rfl | rfl | rfl | rfl | rfl | rfl | rfl <;> rfl) hc1 hc2 dX5_init_27 (fun q3 H hP hD hS => ?_)
  have hP : va_P D vwCl ([(h0, .inr (4, [.ref (ad1 0), .ref (ad2 0), .null, .null]))] ++ (sh_R cs ad1 (fun _ => 0) (fun _ => 0) 0 0 0) ++ (sh_T cs ad2 0 0) ++ ([(q3, .inr (1, [.null, .null, .null, .null, .null, .null, .null, .null, .null, .null, .int 0, .int 0]))] : va_W)) H := hP
  have hD : va_D A ([(h0, .inr (4, [.ref (ad1 0), .ref (ad2 0), .null, .null]))] ++ (sh_R cs ad1 (fun _ => 0) (fun _ => 0) 0 0 0) ++ (sh_T cs ad2 0 0) ++ ([(q3, .inr (1, [.null, .null, .null, .null, .null, .null, .null, .null, .null, .null, .int 0, .int 0]))] : va_W)) := hD
  refine W.widen (k := 5) (n := 2022) (by omega) (by omega) ?_
  refine lv_dup hx hb dX5_init_30 rfl ?_
  have hFc := va_free (wc := ([(q3, .inr (1, [.null, .null, .null, .null, .null, .null, .null, .null, .null, .null, .int 0, .int 0]))] : va_W)) hD hS hA [5] rfl
  have hc1 : 5 + 10 ≤ 26 := Nat.le_of_ble_eq_true rfl
  have hc2 : 2022 + 180 ≤ 2394 := Nat.le_of_ble_eq_true rfl
  refine va_callv (va_runI (As := []) (rest := [.ref q3, .ref h0]) ⟨hx, hb, hml, hown, hts⟩ (met_X1_init l D cs ev _ q3) (cwI 0 hts gX5_init_X1_init rfl rfl rfl (hts (.initialized RX1) (by decide +kernel)) (hts (.methodLink RX5 25 yX1_init) (by decide +kernel)) (hts (.instanceMethod yX1_init) (by decide +kernel)) rfl (by decide +kernel) ⟨Nat.le_of_ble_eq_true rfl, Nat.le_of_ble_eq_true rfl⟩) (mPreS hP hD hS hK hE hFc [5] (by decide) rfl) rfl rfl hl.1 rfl (lv_room (Nat.le_of_ble_eq_true rfl)) dX5_init_31 ⟨hc1, hc2⟩) hS (fun q _ h => hFc q h) hFc (fun u t H1 locs ht hvm hw hB hz1 hk1 hS => ?_)
  obtain ⟨ad3, had, hP1, hK1, hD1⟩ := hB
  rw [ht] at hP1
  obtain ⟨hP, hD⟩ := mJoin (wr := ([(h0, .inr (4, [.ref (ad1 0), .ref (ad2 0), .null, .null]))] ++ (sh_R cs ad1 (fun _ => 0) (fun _ => 0) 0 0 0) ++ (sh_T cs ad2 0 0))) (w1 := (sh_P cs ad3 (fun _ => 0) (fun _ => 0) (fun _ => 0) (fun _ => 0) (fun _ => 0) (fun _ => 0) (fun _ => 0) (fun _ => 0) (fun _ => 0) (fun _ => 0) 0 0)) (w' := ([(h0, .inr (4, [.ref (ad1 0), .ref (ad2 0), .null, .null]))] ++ (sh_R cs ad1 (fun _ => 0) (fun _ => 0) 0 0 0) ++ (sh_T cs ad2 0 0)) ++ (sh_P cs ad3 (fun _ => 0) (fun _ => 0) (fun _ => 0) (fun _ => 0) (fun _ => 0) (fun _ => 0) (fun _ => 0) (fun _ => 0) (fun _ => 0) (fun _ => 0) 0 0)) hP hD [5] [0, 1, 2, 3, 4] rfl rfl (by decide) (by decide) hk1 hFc hP1 hD1 [0, 1, 2, 3, 4, 5, 6, 7, 8, 9, 10, 11, 12, 13, 14, 15] (by decide) rfl
  generalize H1 = H at hP hS ⊢
  have hP : va_P D vwCl ([(h0, .inr (4, [.ref (ad1 0), .ref (ad2 0), .null, .null]))] ++ (sh_R cs ad1 (fun _ => 0) (fun _ => 0) 0 0 0) ++ (sh_T cs ad2 0 0) ++ (sh_P cs ad3 (fun _ => 0) (fun _ => 0) (fun _ => 0) (fun _ => 0) (fun _ => 0) (fun _ => 0) (fun _ => 0) (fun _ => 0) (fun _ => 0) (fun _ => 0) 0 0)) H := hP
  have hD : va_D A ([(h0, .inr (4, [.ref (ad1 0), .ref (ad2 0), .null, .null]))] ++ (sh_R cs ad1 (fun _ => 0) (fun _ => 0) 0 0 0) ++ (sh_T cs ad2 0 0) ++ (sh_P cs ad3 (fun _ => 0) (fun _ => 0) (fun _ => 0) (fun _ => 0) (fun _ => 0) (fun _ => 0) (fun _ => 0) (fun _ => 0) (fun _ => 0) (fun _ => 0) 0 0)) := hD
  refine W.widen (k := 15) (n := 2202) (by omega) (by omega) ?_
  rw [← had]
  refine va_put (D := D) (ci := 4) (v := .ref (ad3 0)) (ty := .object "PartGraphs$Product") (C := RX5) (T := TX5) (N := 4) hx hb hts (by decide +kernel) tyX5 tyX5_ok nmX5 hown hK hP hD hS 0 rfl rfl 2 (by decide) (hts (.fieldLink RX5 26 "PartGraphs" "product" "LPartGraphs$Product;") (by decide +kernel)) (fun _ h9 => h9) rfl (by decide +kernel) rfl rfl (Nat.le_of_ble_eq_true rfl) dX5_init_34 (fun H locs hP hD hS => ?_)
  have hP : va_P D vwCl ([(h0, .inr (4, [.ref (ad1 0), .ref (ad2 0), .ref (ad3 0), .null]))] ++ (sh_R cs ad1 (fun _ => 0) (fun _ => 0) 0 0 0) ++ (sh_T cs ad2 0 0) ++ (sh_P cs ad3 (fun _ => 0) (fun _ => 0) (fun _ => 0) (fun _ => 0) (fun _ => 0) (fun _ => 0) (fun _ => 0) (fun _ => 0) (fun _ => 0) (fun _ => 0) 0 0)) H := hP
  have hD : va_D A ([(h0, .inr (4, [.ref (ad1 0), .ref (ad2 0), .ref (ad3 0), .null]))] ++ (sh_R cs ad1 (fun _ => 0) (fun _ => 0) 0 0 0) ++ (sh_T cs ad2 0 0) ++ (sh_P cs ad3 (fun _ => 0) (fun _ => 0) (fun _ => 0) (fun _ => 0) (fun _ => 0) (fun _ => 0) (fun _ => 0) (fun _ => 0) (fun _ => 0) (fun _ => 0) 0 0)) := hD
  refine lv_aload_n hx hb dX5_init_37 rfl (lv_at hl 0 rfl) ?_
  have hc1 : 15 + 1 ≤ 26 := Nat.le_of_ble_eq_true rfl
  have hc2 : 2202 + 12 ≤ 2394 := Nat.le_of_ble_eq_true rfl
  refine va_new (ci := 1) (fs := [.null, .null, .null, .null, .null, .null, .null, .null, .null, .null, .int 0, .int 0]) (C := RX1) (T := TX1) (N := 12) hx hb hts (by decide +kernel) tyX1 tyX1_ok hown (hts (.classLink RX5 23 RX1) (by decide +kernel)) (hts (.instantiable RX1 12) (by decide +kernel)) (hts (.initialized RX1) (by decide +kernel)) hK hP hD hS hA rfl (fun j hj => by rcases (show j = 0 ∨ j = 1 ∨ j = 2 ∨ j = 3 ∨ j = 4 ∨ j = 5 ∨ j = 6 ∨ j = 7 ∨ j = 8 ∨ j = 9 ∨ j = 10 ∨ j = 11 by omega) with rfl | rfl | rfl | rfl | rfl | rfl | rfl | rfl | rfl | rfl | rfl | rfl <;> rfl) hc1 hc2 dX5_init_38 (fun q4 H hP hD hS => ?_)
  have hP : va_P D vwCl ([(h0, .inr (4, [.ref (ad1 0), .ref (ad2 0), .ref (ad3 0), .null]))] ++ (sh_R cs ad1 (fun _ => 0) (fun _ => 0) 0 0 0) ++ (sh_T cs ad2 0 0) ++ (sh_P cs ad3 (fun _ => 0) (fun _ => 0) (fun _ => 0) (fun _ => 0) (fun _ => 0) (fun _ => 0) (fun _ => 0) (fun _ => 0) (fun _ => 0) (fun _ => 0) 0 0) ++ ([(q4, .inr (1, [.null, .null, .null, .null, .null, .null, .null, .null, .null, .null, .int 0, .int 0]))] : va_W)) H := hP
  have hD : va_D A ([(h0, .inr (4, [.ref (ad1 0), .ref (ad2 0), .ref (ad3 0), .null]))] ++ (sh_R cs ad1 (fun _ => 0) (fun _ => 0) 0 0 0) ++ (sh_T cs ad2 0 0) ++ (sh_P cs ad3 (fun _ => 0) (fun _ => 0) (fun _ => 0) (fun _ => 0) (fun _ => 0) (fun _ => 0) (fun _ => 0) (fun _ => 0) (fun _ => 0) (fun _ => 0) 0 0) ++ ([(q4, .inr (1, [.null, .null, .null, .null, .null, .null, .null, .null, .null, .null, .int 0, .int 0]))] : va_W)) := hD
  refine W.widen (k := 16) (n := 2214) (by omega) (by omega) ?_
  refine lv_dup hx hb dX5_init_41 rfl ?_
  have hFc := va_free (wc := ([(q4, .inr (1, [.null, .null, .null, .null, .null, .null, .null, .null, .null, .null, .int 0, .int 0]))] : va_W)) hD hS hA [16] rfl
  have hc1 : 16 + 10 ≤ 26 := Nat.le_of_ble_eq_true rfl
  have hc2 : 2214 + 180 ≤ 2394 := Nat.le_of_ble_eq_true rfl
  refine va_callv (va_runI (As := []) (rest := [.ref q4, .ref h0]) ⟨hx, hb, hml, hown, hts⟩ (met_X1_init l D cs ev _ q4) (cwI 0 hts gX5_init_X1_init rfl rfl rfl (hts (.initialized RX1) (by decide +kernel)) (hts (.methodLink RX5 25 yX1_init) (by decide +kernel)) (hts (.instanceMethod yX1_init) (by decide +kernel)) rfl (by decide +kernel) ⟨Nat.le_of_ble_eq_true rfl, Nat.le_of_ble_eq_true rfl⟩) (mPreS hP hD hS hK hE hFc [16] (by decide) rfl) rfl rfl hl.1 rfl (lv_room (Nat.le_of_ble_eq_true rfl)) dX5_init_42 ⟨hc1, hc2⟩) hS (fun q _ h => hFc q h) hFc (fun u t H1 locs ht hvm hw hB hz1 hk1 hS => ?_)
  obtain ⟨ad4, had, hP1, hK1, hD1⟩ := hB
  rw [ht] at hP1
  obtain ⟨hP, hD⟩ := mJoin (wr := ([(h0, .inr (4, [.ref (ad1 0), .ref (ad2 0), .ref (ad3 0), .null]))] ++ (sh_R cs ad1 (fun _ => 0) (fun _ => 0) 0 0 0) ++ (sh_T cs ad2 0 0) ++ (sh_P cs ad3 (fun _ => 0) (fun _ => 0) (fun _ => 0) (fun _ => 0) (fun _ => 0) (fun _ => 0) (fun _ => 0) (fun _ => 0) (fun _ => 0) (fun _ => 0) 0 0))) (w1 := (sh_P cs ad4 (fun _ => 0) (fun _ => 0) (fun _ => 0) (fun _ => 0) (fun _ => 0) (fun _ => 0) (fun _ => 0) (fun _ => 0) (fun _ => 0) (fun _ => 0) 0 0)) (w' := ([(h0, .inr (4, [.ref (ad1 0), .ref (ad2 0), .ref (ad3 0), .null]))] ++ (sh_R cs ad1 (fun _ => 0) (fun _ => 0) 0 0 0) ++ (sh_T cs ad2 0 0) ++ (sh_P cs ad3 (fun _ => 0) (fun _ => 0) (fun _ => 0) (fun _ => 0) (fun _ => 0) (fun _ => 0) (fun _ => 0) (fun _ => 0) (fun _ => 0) (fun _ => 0) 0 0)) ++ (sh_P cs ad4 (fun _ => 0) (fun _ => 0) (fun _ => 0) (fun _ => 0) (fun _ => 0) (fun _ => 0) (fun _ => 0) (fun _ => 0) (fun _ => 0) (fun _ => 0) 0 0)) hP hD [16] [0, 1, 2, 3, 4, 5, 6, 7, 8, 9, 10, 11, 12, 13, 14, 15] rfl rfl (by decide) (by decide) hk1 hFc hP1 hD1 [0, 1, 2, 3, 4, 5, 6, 7, 8, 9, 10, 11, 12, 13, 14, 15, 16, 17, 18, 19, 20, 21, 22, 23, 24, 25, 26] (by decide) rfl
  generalize H1 = H at hP hS ⊢
  have hP : va_P D vwCl ([(h0, .inr (4, [.ref (ad1 0), .ref (ad2 0), .ref (ad3 0), .null]))] ++ (sh_R cs ad1 (fun _ => 0) (fun _ => 0) 0 0 0) ++ (sh_T cs ad2 0 0) ++ (sh_P cs ad3 (fun _ => 0) (fun _ => 0) (fun _ => 0) (fun _ => 0) (fun _ => 0) (fun _ => 0) (fun _ => 0) (fun _ => 0) (fun _ => 0) (fun _ => 0) 0 0) ++ (sh_P cs ad4 (fun _ => 0) (fun _ => 0) (fun _ => 0) (fun _ => 0) (fun _ => 0) (fun _ => 0) (fun _ => 0) (fun _ => 0) (fun _ => 0) (fun _ => 0) 0 0)) H := hP
  have hD : va_D A ([(h0, .inr (4, [.ref (ad1 0), .ref (ad2 0), .ref (ad3 0), .null]))] ++ (sh_R cs ad1 (fun _ => 0) (fun _ => 0) 0 0 0) ++ (sh_T cs ad2 0 0) ++ (sh_P cs ad3 (fun _ => 0) (fun _ => 0) (fun _ => 0) (fun _ => 0) (fun _ => 0) (fun _ => 0) (fun _ => 0) (fun _ => 0) (fun _ => 0) (fun _ => 0) 0 0) ++ (sh_P cs ad4 (fun _ => 0) (fun _ => 0) (fun _ => 0) (fun _ => 0) (fun _ => 0) (fun _ => 0) (fun _ => 0) (fun _ => 0) (fun _ => 0) (fun _ => 0) 0 0)) := hD
  refine W.widen (k := 26) (n := 2394) (by omega) (by omega) ?_
  rw [← had]
  refine va_put (D := D) (ci := 4) (v := .ref (ad4 0)) (ty := .object "PartGraphs$Product") (C := RX5) (T := TX5) (N := 4) hx hb hts (by decide +kernel) tyX5 tyX5_ok nmX5 hown hK hP hD hS 0 rfl rfl 3 (by decide) (hts (.fieldLink RX5 30 "PartGraphs" "draft" "LPartGraphs$Product;") (by decide +kernel)) (fun _ h9 => h9) rfl (by decide +kernel) rfl rfl (Nat.le_of_ble_eq_true rfl) dX5_init_45 (fun H locs hP hD hS => ?_)
  have hP : va_P D vwCl ([(h0, .inr (4, [.ref (ad1 0), .ref (ad2 0), .ref (ad3 0), .ref (ad4 0)]))] ++ (sh_R cs ad1 (fun _ => 0) (fun _ => 0) 0 0 0) ++ (sh_T cs ad2 0 0) ++ (sh_P cs ad3 (fun _ => 0) (fun _ => 0) (fun _ => 0) (fun _ => 0) (fun _ => 0) (fun _ => 0) (fun _ => 0) (fun _ => 0) (fun _ => 0) (fun _ => 0) 0 0) ++ (sh_P cs ad4 (fun _ => 0) (fun _ => 0) (fun _ => 0) (fun _ => 0) (fun _ => 0) (fun _ => 0) (fun _ => 0) (fun _ => 0) (fun _ => 0) (fun _ => 0) 0 0)) H := hP
  have hD : va_D A ([(h0, .inr (4, [.ref (ad1 0), .ref (ad2 0), .ref (ad3 0), .ref (ad4 0)]))] ++ (sh_R cs ad1 (fun _ => 0) (fun _ => 0) 0 0 0) ++ (sh_T cs ad2 0 0) ++ (sh_P cs ad3 (fun _ => 0) (fun _ => 0) (fun _ => 0) (fun _ => 0) (fun _ => 0) (fun _ => 0) (fun _ => 0) (fun _ => 0) (fun _ => 0) (fun _ => 0) 0 0) ++ (sh_P cs ad4 (fun _ => 0) (fun _ => 0) (fun _ => 0) (fun _ => 0) (fun _ => 0) (fun _ => 0) (fun _ => 0) (fun _ => 0) (fun _ => 0) (fun _ => 0) 0 0)) := hD
  exact W.vret hx hb hr (fun t ht hW => ⟨⟨(), rfl, trivial, (fun _ => h0), ad1, ad2, ad3, ad4, rfl, by rw [ht]; exact hP, va_K.moved hW.alike hK, hD⟩, hS.F ht⟩) hS.2.2 dX5_init_48
set_option maxHeartbeats 4000000 in
set_option maxRecDepth 100000 in
theorem met_X6_init (l : Launch) (D : va_G) (cs : Nat → ClassId) (ev : Nat → Nat → Nat) (sz0 : Nat) (h0 : Nat) (post : ((Nat → Int32) × (Nat → Int32) × (Nat → Int32) × (Nat → Int32) × (Nat → Int32) × (Nat → Int32) × (Nat → Int32)) → Prop) (h : wp_X6_clear (fun _ => 0) (fun _ => 0) (fun _ => 0) (fun _ => 0) (fun _ => 0) (fun _ => 0) (fun _ => 0) 0 post) : Met l yX6_init wsX6_init ({ frames := 1, cells := 12, slots := 3767, locals := 22 }) (va_Pc [.ref h0] (mPre D cs ev ([(h0, .inr (5, [.null, .null, .null, .null, .null, .null, .null, .null, .null, .null, .null, .int 0, .int 0, .null, .int 0, .int 0, .int 0, .int 0]))]) sz0)) (va_Qv (S := (Nat → Int32) × (Nat → Int32) × (Nat → Int32) × (Nat → Int32) × (Nat → Int32) × (Nat → Int32) × (Nat → Int32)) (post) (fun u t => match u with | (mp, mc, mw, mf, mh, mm, md) => ∃ ad : Nat → Nat, ad 0 = h0 ∧ mAt D cs (va_A ([(h0, .inr (5, [.null, .null, .null, .null, .null, .null, .null, .null, .null, .null, .null, .int 0, .int 0, .null, .int 0, .int 0, .int 0, .int 0]))]) sz0) (sh_M cs ad mp (fun _ => 0) (fun _ => 0) mc mw mf (fun _ => 0) mh mm md (fun _ => 0) (fun _ => 0) 0 0 0 0 0 0) t) (va_A ([(h0, .inr (5, [.null, .null, .null, .null, .null, .null, .null, .null, .null, .null, .null, .int 0, .int 0, .null, .int 0, .int 0, .int 0, .int 0]))]) sz0)) 12 3767 (va_A ([(h0, .inr (5, [.null, .null, .null, .null, .null, .null, .null, .null, .null, .null, .null, .int 0, .int 0, .null, .int 0, .int 0, .int 0, .int 0]))]) sz0) := by
  refine Met.ofW (cc := cX6_init) (maxL := 1) (ret := none) (by decide) rfl ?_
  intro p e s m args below meth c s₁ B hml hv
  obtain ⟨rfl, hsz, hP, hK, hD0, hE⟩ := hv
  have hx := B.exec
  have hb := B.bytes
  have hr := B.returns
  have hts := atoms_spec (ws := wsX6_init) B.pre
  have hown : s.vm.findClass RX6 = some m.cls := findClass_of_methodNamed B.named
  have hlocks := B.notSynchronized
  have hin : meth.name = "<init>" := (name_of_methodNamed B.named B.method).1
  subst hsz
  have hD := hD0.self (sz := s.heap.size)
  generalize hAe : va_A ([(h0, .inr (5, [.null, .null, .null, .null, .null, .null, .null, .null, .null, .null, .null, .int 0, .int 0, .null, .int 0, .int 0, .int 0, .int 0]))]) s.heap.size = A at hD hE ⊢
  have hA : ∀ q : Nat, s.heap.size ≤ q → A q := fun q h => by rw [← hAe]; exact Or.inr h
  have hS : va_S A s.heap s.heap [] := va_S.rf
  have hl := lv_entry ([.ref h0]) (n := 1) (Nat.le_of_ble_eq_true rfl)
  rw [lg_entry_eq]
  generalize (lg_sl ([.ref h0]) ++ List.replicate (1 - (lg_sl ([.ref h0])).length) Slot.unset).toArray = ls at hl ⊢
  have hl : lv_has ls 1 [(0, .ref h0)] := hl
  refine lv_aload_n hx hb dX6_init_0 rfl (lv_at hl 0 rfl) ?_
  refine W.objInit hx hb hown (hts (.methodLink RX6 1 objectInit) (by decide +kernel)) (hts (.instanceMethod objectInit) (by decide +kernel)) (hts (.code objectInit ⟨#[0xb1]⟩ 1 none) (List.mem_of_getElem? (i := 3) rfl)) rfl (by rw [hml]; exact hl.1) rfl dX6_init_1 (Nat.le_of_ble_eq_true rfl) (Nat.le_of_ble_eq_true rfl) ?_
  refine W.eq (g2 := F0 m 4 ls []) rfl ?_
  refine lv_aload_n hx hb dX6_init_4 rfl (lv_at hl 0 rfl) ?_
  refine lv_iconst (v := 2) hx hb dX6_init_5 (by decide) ?_
  have hc1 : 0 + 1 ≤ 12 := Nat.le_of_ble_eq_true rfl
  have hc2 : 0 + 2 ≤ 3767 := Nat.le_of_ble_eq_true rfl
  refine va_newa (atype := .int) (ty := .int) (N' := 2) (a0 := (2, .inl (fun _ => 0))) hx hb (hts (.arrayClass .int) (by decide +kernel)) rfl hK hP hD hS hA (fun _ => aZi _ _ _ rfl) (by decide +kernel) (by decide +kernel) (by decide +kernel) hc1 hc2 dX6_init_6 (fun q1 cA H hK2 hP hD hS => ?_)
  obtain rfl : cA = cs 0 := kUniq hK2 5 0 rfl rfl rfl
  have hP : va_P D vwCl ([(h0, .inr (5, [.null, .null, .null, .null, .null, .null, .null, .null, .null, .null, .null, .int 0, .int 0, .null, .int 0, .int 0, .int 0, .int 0])), (q1, .inl (cs 0, 2, .inl (fun _ => 0)))]) H := hP
  have hD : va_D A ([(h0, .inr (5, [.null, .null, .null, .null, .null, .null, .null, .null, .null, .null, .null, .int 0, .int 0, .null, .int 0, .int 0, .int 0, .int 0])), (q1, .inl (cs 0, 2, .inl (fun _ => 0)))]) := hD
  refine W.widen (k := 1) (n := 2) (by omega) (by omega) ?_
  refine va_putF (D := D) (ci := 5) (v := .ref q1) (ty := .array .int) (C := RX6) (T := TX6) (N := 18) hx hb hts (by decide +kernel) tyX6 tyX6_ok nmX6 hown hK hP hD hS 0 rfl rfl 0 (by decide) (hts (.fieldLink RX6 7 "PartGraphsModel" "parts" "[I") (by decide +kernel)) (fun _ h9 => h9) rfl hin rfl (by decide +kernel) rfl rfl (Nat.le_of_ble_eq_true rfl) dX6_init_8 (fun H locs hP hD hS => ?_)
  have hP : va_P D vwCl ([(h0, .inr (5, [.ref q1, .null, .null, .null, .null, .null, .null, .null, .null, .null, .null, .int 0, .int 0, .null, .int 0, .int 0, .int 0, .int 0])), (q1, .inl (cs 0, 2, .inl (fun _ => 0)))]) H := hP
  have hD : va_D A ([(h0, .inr (5, [.ref q1, .null, .null, .null, .null, .null, .null, .null, .null, .null, .null, .int 0, .int 0, .null, .int 0, .int 0, .int 0, .int 0])), (q1, .inl (cs 0, 2, .inl (fun _ => 0)))]) := hD
  refine lv_aload_n hx hb dX6_init_11 rfl (lv_at hl 0 rfl) ?_
  refine lv_bipush (v := 20) hx hb dX6_init_12 (by decide) ?_
  have hc1 : 1 + 1 ≤ 12 := Nat.le_of_ble_eq_true rfl
  have hc2 : 2 + 20 ≤ 3767 := Nat.le_of_ble_eq_true rfl
  refine va_newa (atype := .int) (ty := .int) (N' := 20) (a0 := (20, .inl (fun _ => 0))) hx hb (hts (.arrayClass .int) (by decide +kernel)) rfl hK hP hD hS hA (fun _ => aZi _ _ _ rfl) (by decide +kernel) (by decide +kernel) (by decide +kernel) hc1 hc2 dX6_init_14 (fun q2 cA H hK2 hP hD hS => ?_)
  obtain rfl : cA = cs 0 := kUniq hK2 5 0 rfl rfl rfl
  have hP : va_P D vwCl ([(h0, .inr (5, [.ref q1, .null, .null, .null, .null, .null, .null, .null, .null, .null, .null, .int 0, .int 0, .null, .int 0, .int 0, .int 0, .int 0])), (q1, .inl (cs 0, 2, .inl (fun _ => 0))), (q2, .inl (cs 0, 20, .inl (fun _ => 0)))]) H := hP
  have hD : va_D A ([(h0, .inr (5, [.ref q1, .null, .null, .null, .null, .null, .null, .null, .null, .null, .null, .int 0, .int 0, .null, .int 0, .int 0, .int 0, .int 0])), (q1, .inl (cs 0, 2, .inl (fun _ => 0))), (q2, .inl (cs 0, 20, .inl (fun _ => 0)))]) := hD
  refine W.widen (k := 2) (n := 22) (by omega) (by omega) ?_
  refine va_putF (D := D) (ci := 5) (v := .ref q2) (ty := .array .int) (C := RX6) (T := TX6) (N := 18) hx hb hts (by decide +kernel) tyX6 tyX6_ok nmX6 hown hK hP hD hS 0 rfl rfl 1 (by decide) (hts (.fieldLink RX6 13 "PartGraphsModel" "kinds" "[I") (by decide +kernel)) (fun _ h9 => h9) rfl hin rfl (by decide +kernel) rfl rfl (Nat.le_of_ble_eq_true rfl) dX6_init_16 (fun H locs hP hD hS => ?_)
  have hP : va_P D vwCl ([(h0, .inr (5, [.ref q1, .ref q2, .null, .null, .null, .null, .null, .null, .null, .null, .null, .int 0, .int 0, .null, .int 0, .int 0, .int 0, .int 0])), (q1, .inl (cs 0, 2, .inl (fun _ => 0))), (q2, .inl (cs 0, 20, .inl (fun _ => 0)))]) H := hP
  have hD : va_D A ([(h0, .inr (5, [.ref q1, .ref q2, .null, .null, .null, .null, .null, .null, .null, .null, .null, .int 0, .int 0, .null, .int 0, .int 0, .int 0, .int 0])), (q1, .inl (cs 0, 2, .inl (fun _ => 0))), (q2, .inl (cs 0, 20, .inl (fun _ => 0)))]) := hD
  refine lv_aload_n hx hb dX6_init_19 rfl (lv_at hl 0 rfl) ?_
  refine lv_bipush (v := 20) hx hb dX6_init_20 (by decide) ?_
  have hc1 : 2 + 1 ≤ 12 := Nat.le_of_ble_eq_true rfl
  have hc2 : 22 + 20 ≤ 3767 := Nat.le_of_ble_eq_true rfl
  refine va_newa (atype := .int) (ty := .int) (N' := 20) (a0 := (20, .inl (fun _ => 0))) hx hb (hts (.arrayClass .int) (by decide +kernel)) rfl hK hP hD hS hA (fun _ => aZi _ _ _ rfl) (by decide +kernel) (by decide +kernel) (by decide +kernel) hc1 hc2 dX6_init_22 (fun q3 cA H hK2 hP hD hS => ?_)
  obtain rfl : cA = cs 0 := kUniq hK2 5 0 rfl rfl rfl
  have hP : va_P D vwCl ([(h0, .inr (5, [.ref q1, .ref q2, .null, .null, .null, .null, .null, .null, .null, .null, .null, .int 0, .int 0, .null, .int 0, .int 0, .int 0, .int 0])), (q1, .inl (cs 0, 2, .inl (fun _ => 0))), (q2, .inl (cs 0, 20, .inl (fun _ => 0))), (q3, .inl (cs 0, 20, .inl (fun _ => 0)))]) H := hP
  have hD : va_D A ([(h0, .inr (5, [.ref q1, .ref q2, .null, .null, .null, .null, .null, .null, .null, .null, .null, .int 0, .int 0, .null, .int 0, .int 0, .int 0, .int 0])), (q1, .inl (cs 0, 2, .inl (fun _ => 0))), (q2, .inl (cs 0, 20, .inl (fun _ => 0))), (q3, .inl (cs 0, 20, .inl (fun _ => 0)))]) := hD
  refine W.widen (k := 3) (n := 42) (by omega) (by omega) ?_
  refine va_putF (D := D) (ci := 5) (v := .ref q3) (ty := .array .int) (C := RX6) (T := TX6) (N := 18) hx hb hts (by decide +kernel) tyX6 tyX6_ok nmX6 hown hK hP hD hS 0 rfl rfl 2 (by decide) (hts (.fieldLink RX6 16 "PartGraphsModel" "grams" "[I") (by decide +kernel)) (fun _ h9 => h9) rfl hin rfl (by decide +kernel) rfl rfl (Nat.le_of_ble_eq_true rfl) dX6_init_24 (fun H locs hP hD hS => ?_)
  have hP : va_P D vwCl ([(h0, .inr (5, [.ref q1, .ref q2, .ref q3, .null, .null, .null, .null, .null, .null, .null, .null, .int 0, .int 0, .null, .int 0, .int 0, .int 0, .int 0])), (q1, .inl (cs 0, 2, .inl (fun _ => 0))), (q2, .inl (cs 0, 20, .inl (fun _ => 0))), (q3, .inl (cs 0, 20, .inl (fun _ => 0)))]) H := hP
  have hD : va_D A ([(h0, .inr (5, [.ref q1, .ref q2, .ref q3, .null, .null, .null, .null, .null, .null, .null, .null, .int 0, .int 0, .null, .int 0, .int 0, .int 0, .int 0])), (q1, .inl (cs 0, 2, .inl (fun _ => 0))), (q2, .inl (cs 0, 20, .inl (fun _ => 0))), (q3, .inl (cs 0, 20, .inl (fun _ => 0)))]) := hD
  refine lv_aload_n hx hb dX6_init_27 rfl (lv_at hl 0 rfl) ?_
  refine lv_sipush (v := 200) hx hb dX6_init_28 (by decide) ?_
  have hc1 : 3 + 1 ≤ 12 := Nat.le_of_ble_eq_true rfl
  have hc2 : 42 + 200 ≤ 3767 := Nat.le_of_ble_eq_true rfl
  refine va_newa (atype := .boolean) (ty := .boolean) (N' := 200) (a0 := (200, .inl (fun _ => 0))) hx hb (hts (.arrayClass .boolean) (by decide +kernel)) rfl hK hP hD hS hA (fun _ => aZi _ _ _ rfl) (by decide +kernel) (by decide +kernel) (by decide +kernel) hc1 hc2 dX6_init_31 (fun q4 cA H hK2 hP hD hS => ?_)
  obtain rfl : cA = cs 4 := kUniq hK2 5 4 rfl rfl rfl
  have hP : va_P D vwCl ([(h0, .inr (5, [.ref q1, .ref q2, .ref q3, .null, .null, .null, .null, .null, .null, .null, .null, .int 0, .int 0, .null, .int 0, .int 0, .int 0, .int 0])), (q1, .inl (cs 0, 2, .inl (fun _ => 0))), (q2, .inl (cs 0, 20, .inl (fun _ => 0))), (q3, .inl (cs 0, 20, .inl (fun _ => 0))), (q4, .inl (cs 4, 200, .inl (fun _ => 0)))]) H := hP
  have hD : va_D A ([(h0, .inr (5, [.ref q1, .ref q2, .ref q3, .null, .null, .null, .null, .null, .null, .null, .null, .int 0, .int 0, .null, .int 0, .int 0, .int 0, .int 0])), (q1, .inl (cs 0, 2, .inl (fun _ => 0))), (q2, .inl (cs 0, 20, .inl (fun _ => 0))), (q3, .inl (cs 0, 20, .inl (fun _ => 0))), (q4, .inl (cs 4, 200, .inl (fun _ => 0)))]) := hD
  refine W.widen (k := 4) (n := 242) (by omega) (by omega) ?_
  refine va_putF (D := D) (ci := 5) (v := .ref q4) (ty := .array .boolean) (C := RX6) (T := TX6) (N := 18) hx hb hts (by decide +kernel) tyX6 tyX6_ok nmX6 hown hK hP hD hS 0 rfl rfl 3 (by decide) (hts (.fieldLink RX6 19 "PartGraphsModel" "covers" "[Z") (by decide +kernel)) (fun _ h9 => h9) rfl hin rfl (by decide +kernel) rfl rfl (Nat.le_of_ble_eq_true rfl) dX6_init_33 (fun H locs hP hD hS => ?_)
  have hP : va_P D vwCl ([(h0, .inr (5, [.ref q1, .ref q2, .ref q3, .ref q4, .null, .null, .null, .null, .null, .null, .null, .int 0, .int 0, .null, .int 0, .int 0, .int 0, .int 0])), (q1, .inl (cs 0, 2, .inl (fun _ => 0))), (q2, .inl (cs 0, 20, .inl (fun _ => 0))), (q3, .inl (cs 0, 20, .inl (fun _ => 0))), (q4, .inl (cs 4, 200, .inl (fun _ => 0)))]) H := hP
  have hD : va_D A ([(h0, .inr (5, [.ref q1, .ref q2, .ref q3, .ref q4, .null, .null, .null, .null, .null, .null, .null, .int 0, .int 0, .null, .int 0, .int 0, .int 0, .int 0])), (q1, .inl (cs 0, 2, .inl (fun _ => 0))), (q2, .inl (cs 0, 20, .inl (fun _ => 0))), (q3, .inl (cs 0, 20, .inl (fun _ => 0))), (q4, .inl (cs 4, 200, .inl (fun _ => 0)))]) := hD
  refine lv_aload_n hx hb dX6_init_36 rfl (lv_at hl 0 rfl) ?_
  refine lv_sipush (v := 1200) hx hb dX6_init_37 (by decide) ?_
  have hc1 : 4 + 1 ≤ 12 := Nat.le_of_ble_eq_true rfl
  have hc2 : 242 + 1200 ≤ 3767 := Nat.le_of_ble_eq_true rfl
  refine va_newa (atype := .boolean) (ty := .boolean) (N' := 1200) (a0 := (1200, .inl (fun _ => 0))) hx hb (hts (.arrayClass .boolean) (by decide +kernel)) rfl hK hP hD hS hA (fun _ => aZi _ _ _ rfl) (by decide +kernel) (by decide +kernel) (by decide +kernel) hc1 hc2 dX6_init_40 (fun q5 cA H hK2 hP hD hS => ?_)
  obtain rfl : cA = cs 4 := kUniq hK2 5 4 rfl rfl rfl
  have hP : va_P D vwCl ([(h0, .inr (5, [.ref q1, .ref q2, .ref q3, .ref q4, .null, .null, .null, .null, .null, .null, .null, .int 0, .int 0, .null, .int 0, .int 0, .int 0, .int 0])), (q1, .inl (cs 0, 2, .inl (fun _ => 0))), (q2, .inl (cs 0, 20, .inl (fun _ => 0))), (q3, .inl (cs 0, 20, .inl (fun _ => 0))), (q4, .inl (cs 4, 200, .inl (fun _ => 0))), (q5, .inl (cs 4, 1200, .inl (fun _ => 0)))]) H := hP
  have hD : va_D A ([(h0, .inr (5, [.ref q1, .ref q2, .ref q3, .ref q4, .null, .null, .null, .null, .null, .null, .null, .int 0, .int 0, .null, .int 0, .int 0, .int 0, .int 0])), (q1, .inl (cs 0, 2, .inl (fun _ => 0))), (q2, .inl (cs 0, 20, .inl (fun _ => 0))), (q3, .inl (cs 0, 20, .inl (fun _ => 0))), (q4, .inl (cs 4, 200, .inl (fun _ => 0))), (q5, .inl (cs 4, 1200, .inl (fun _ => 0)))]) := hD
  refine W.widen (k := 5) (n := 1442) (by omega) (by omega) ?_
  refine va_putF (D := D) (ci := 5) (v := .ref q5) (ty := .array .boolean) (C := RX6) (T := TX6) (N := 18) hx hb hts (by decide +kernel) tyX6 tyX6_ok nmX6 hown hK hP hD hS 0 rfl rfl 4 (by decide) (hts (.fieldLink RX6 23 "PartGraphsModel" "ways" "[Z") (by decide +kernel)) (fun _ h9 => h9) rfl hin rfl (by decide +kernel) rfl rfl (Nat.le_of_ble_eq_true rfl) dX6_init_42 (fun H locs hP hD hS => ?_)
  have hP : va_P D vwCl ([(h0, .inr (5, [.ref q1, .ref q2, .ref q3, .ref q4, .ref q5, .null, .null, .null, .null, .null, .null, .int 0, .int 0, .null, .int 0, .int 0, .int 0, .int 0])), (q1, .inl (cs 0, 2, .inl (fun _ => 0))), (q2, .inl (cs 0, 20, .inl (fun _ => 0))), (q3, .inl (cs 0, 20, .inl (fun _ => 0))), (q4, .inl (cs 4, 200, .inl (fun _ => 0))), (q5, .inl (cs 4, 1200, .inl (fun _ => 0)))]) H := hP
  have hD : va_D A ([(h0, .inr (5, [.ref q1, .ref q2, .ref q3, .ref q4, .ref q5, .null, .null, .null, .null, .null, .null, .int 0, .int 0, .null, .int 0, .int 0, .int 0, .int 0])), (q1, .inl (cs 0, 2, .inl (fun _ => 0))), (q2, .inl (cs 0, 20, .inl (fun _ => 0))), (q3, .inl (cs 0, 20, .inl (fun _ => 0))), (q4, .inl (cs 4, 200, .inl (fun _ => 0))), (q5, .inl (cs 4, 1200, .inl (fun _ => 0)))]) := hD
  refine lv_aload_n hx hb dX6_init_45 rfl (lv_at hl 0 rfl) ?_
  refine lv_iconst (v := 2) hx hb dX6_init_46 (by decide) ?_
  have hc1 : 5 + 1 ≤ 12 := Nat.le_of_ble_eq_true rfl
  have hc2 : 1442 + 2 ≤ 3767 := Nat.le_of_ble_eq_true rfl
  refine va_newa (atype := .int) (ty := .int) (N' := 2) (a0 := (2, .inl (fun _ => 0))) hx hb (hts (.arrayClass .int) (by decide +kernel)) rfl hK hP hD hS hA (fun _ => aZi _ _ _ rfl) (by decide +kernel) (by decide +kernel) (by decide +kernel) hc1 hc2 dX6_init_47 (fun q6 cA H hK2 hP hD hS => ?_)
  obtain rfl : cA = cs 0 := kUniq hK2 5 0 rfl rfl rfl
  have hP : va_P D vwCl ([(h0, .inr (5, [.ref q1, .ref q2, .ref q3, .ref q4, .ref q5, .null, .null, .null, .null, .null, .null, .int 0, .int 0, .null, .int 0, .int 0, .int 0, .int 0])), (q1, .inl (cs 0, 2, .inl (fun _ => 0))), (q2, .inl (cs 0, 20, .inl (fun _ => 0))), (q3, .inl (cs 0, 20, .inl (fun _ => 0))), (q4, .inl (cs 4, 200, .inl (fun _ => 0))), (q5, .inl (cs 4, 1200, .inl (fun _ => 0))), (q6, .inl (cs 0, 2, .inl (fun _ => 0)))]) H := hP
  have hD : va_D A ([(h0, .inr (5, [.ref q1, .ref q2, .ref q3, .ref q4, .ref q5, .null, .null, .null, .null, .null, .null, .int 0, .int 0, .null, .int 0, .int 0, .int 0, .int 0])), (q1, .inl (cs 0, 2, .inl (fun _ => 0))), (q2, .inl (cs 0, 20, .inl (fun _ => 0))), (q3, .inl (cs 0, 20, .inl (fun _ => 0))), (q4, .inl (cs 4, 200, .inl (fun _ => 0))), (q5, .inl (cs 4, 1200, .inl (fun _ => 0))), (q6, .inl (cs 0, 2, .inl (fun _ => 0)))]) := hD
  refine W.widen (k := 6) (n := 1444) (by omega) (by omega) ?_
  refine va_putF (D := D) (ci := 5) (v := .ref q6) (ty := .array .int) (C := RX6) (T := TX6) (N := 18) hx hb hts (by decide +kernel) tyX6 tyX6_ok nmX6 hown hK hP hD hS 0 rfl rfl 5 (by decide) (hts (.fieldLink RX6 26 "PartGraphsModel" "fastenings" "[I") (by decide +kernel)) (fun _ h9 => h9) rfl hin rfl (by decide +kernel) rfl rfl (Nat.le_of_ble_eq_true rfl) dX6_init_49 (fun H locs hP hD hS => ?_)
  have hP : va_P D vwCl ([(h0, .inr (5, [.ref q1, .ref q2, .ref q3, .ref q4, .ref q5, .ref q6, .null, .null, .null, .null, .null, .int 0, .int 0, .null, .int 0, .int 0, .int 0, .int 0])), (q1, .inl (cs 0, 2, .inl (fun _ => 0))), (q2, .inl (cs 0, 20, .inl (fun _ => 0))), (q3, .inl (cs 0, 20, .inl (fun _ => 0))), (q4, .inl (cs 4, 200, .inl (fun _ => 0))), (q5, .inl (cs 4, 1200, .inl (fun _ => 0))), (q6, .inl (cs 0, 2, .inl (fun _ => 0)))]) H := hP
  have hD : va_D A ([(h0, .inr (5, [.ref q1, .ref q2, .ref q3, .ref q4, .ref q5, .ref q6, .null, .null, .null, .null, .null, .int 0, .int 0, .null, .int 0, .int 0, .int 0, .int 0])), (q1, .inl (cs 0, 2, .inl (fun _ => 0))), (q2, .inl (cs 0, 20, .inl (fun _ => 0))), (q3, .inl (cs 0, 20, .inl (fun _ => 0))), (q4, .inl (cs 4, 200, .inl (fun _ => 0))), (q5, .inl (cs 4, 1200, .inl (fun _ => 0))), (q6, .inl (cs 0, 2, .inl (fun _ => 0)))]) := hD
  refine lv_aload_n hx hb dX6_init_52 rfl (lv_at hl 0 rfl) ?_
  refine lv_bipush (v := 120) hx hb dX6_init_53 (by decide) ?_
  have hc1 : 6 + 1 ≤ 12 := Nat.le_of_ble_eq_true rfl
  have hc2 : 1444 + 120 ≤ 3767 := Nat.le_of_ble_eq_true rfl
  refine va_newa (atype := .int) (ty := .int) (N' := 120) (a0 := (120, .inl (fun _ => 0))) hx hb (hts (.arrayClass .int) (by decide +kernel)) rfl hK hP hD hS hA (fun _ => aZi _ _ _ rfl) (by decide +kernel) (by decide +kernel) (by decide +kernel) hc1 hc2 dX6_init_55 (fun q7 cA H hK2 hP hD hS => ?_)
  obtain rfl : cA = cs 0 := kUniq hK2 5 0 rfl rfl rfl
  have hP : va_P D vwCl ([(h0, .inr (5, [.ref q1, .ref q2, .ref q3, .ref q4, .ref q5, .ref q6, .null, .null, .null, .null, .null, .int 0, .int 0, .null, .int 0, .int 0, .int 0, .int 0])), (q1, .inl (cs 0, 2, .inl (fun _ => 0))), (q2, .inl (cs 0, 20, .inl (fun _ => 0))), (q3, .inl (cs 0, 20, .inl (fun _ => 0))), (q4, .inl (cs 4, 200, .inl (fun _ => 0))), (q5, .inl (cs 4, 1200, .inl (fun _ => 0))), (q6, .inl (cs 0, 2, .inl (fun _ => 0))), (q7, .inl (cs 0, 120, .inl (fun _ => 0)))]) H := hP
  have hD : va_D A ([(h0, .inr (5, [.ref q1, .ref q2, .ref q3, .ref q4, .ref q5, .ref q6, .null, .null, .null, .null, .null, .int 0, .int 0, .null, .int 0, .int 0, .int 0, .int 0])), (q1, .inl (cs 0, 2, .inl (fun _ => 0))), (q2, .inl (cs 0, 20, .inl (fun _ => 0))), (q3, .inl (cs 0, 20, .inl (fun _ => 0))), (q4, .inl (cs 4, 200, .inl (fun _ => 0))), (q5, .inl (cs 4, 1200, .inl (fun _ => 0))), (q6, .inl (cs 0, 2, .inl (fun _ => 0))), (q7, .inl (cs 0, 120, .inl (fun _ => 0)))]) := hD
  refine W.widen (k := 7) (n := 1564) (by omega) (by omega) ?_
  refine va_putF (D := D) (ci := 5) (v := .ref q7) (ty := .array .int) (C := RX6) (T := TX6) (N := 18) hx hb hts (by decide +kernel) tyX6 tyX6_ok nmX6 hown hK hP hD hS 0 rfl rfl 6 (by decide) (hts (.fieldLink RX6 29 "PartGraphsModel" "ties" "[I") (by decide +kernel)) (fun _ h9 => h9) rfl hin rfl (by decide +kernel) rfl rfl (Nat.le_of_ble_eq_true rfl) dX6_init_57 (fun H locs hP hD hS => ?_)
  have hP : va_P D vwCl ([(h0, .inr (5, [.ref q1, .ref q2, .ref q3, .ref q4, .ref q5, .ref q6, .ref q7, .null, .null, .null, .null, .int 0, .int 0, .null, .int 0, .int 0, .int 0, .int 0])), (q1, .inl (cs 0, 2, .inl (fun _ => 0))), (q2, .inl (cs 0, 20, .inl (fun _ => 0))), (q3, .inl (cs 0, 20, .inl (fun _ => 0))), (q4, .inl (cs 4, 200, .inl (fun _ => 0))), (q5, .inl (cs 4, 1200, .inl (fun _ => 0))), (q6, .inl (cs 0, 2, .inl (fun _ => 0))), (q7, .inl (cs 0, 120, .inl (fun _ => 0)))]) H := hP
  have hD : va_D A ([(h0, .inr (5, [.ref q1, .ref q2, .ref q3, .ref q4, .ref q5, .ref q6, .ref q7, .null, .null, .null, .null, .int 0, .int 0, .null, .int 0, .int 0, .int 0, .int 0])), (q1, .inl (cs 0, 2, .inl (fun _ => 0))), (q2, .inl (cs 0, 20, .inl (fun _ => 0))), (q3, .inl (cs 0, 20, .inl (fun _ => 0))), (q4, .inl (cs 4, 200, .inl (fun _ => 0))), (q5, .inl (cs 4, 1200, .inl (fun _ => 0))), (q6, .inl (cs 0, 2, .inl (fun _ => 0))), (q7, .inl (cs 0, 120, .inl (fun _ => 0)))]) := hD
  refine lv_aload_n hx hb dX6_init_60 rfl (lv_at hl 0 rfl) ?_
  refine lv_sipush (v := 160) hx hb dX6_init_61 (by decide) ?_
  have hc1 : 7 + 1 ≤ 12 := Nat.le_of_ble_eq_true rfl
  have hc2 : 1564 + 160 ≤ 3767 := Nat.le_of_ble_eq_true rfl
  refine va_newa (atype := .boolean) (ty := .boolean) (N' := 160) (a0 := (160, .inl (fun _ => 0))) hx hb (hts (.arrayClass .boolean) (by decide +kernel)) rfl hK hP hD hS hA (fun _ => aZi _ _ _ rfl) (by decide +kernel) (by decide +kernel) (by decide +kernel) hc1 hc2 dX6_init_64 (fun q8 cA H hK2 hP hD hS => ?_)
  obtain rfl : cA = cs 4 := kUniq hK2 5 4 rfl rfl rfl
  have hP : va_P D vwCl ([(h0, .inr (5, [.ref q1, .ref q2, .ref q3, .ref q4, .ref q5, .ref q6, .ref q7, .null, .null, .null, .null, .int 0, .int 0, .null, .int 0, .int 0, .int 0, .int 0])), (q1, .inl (cs 0, 2, .inl (fun _ => 0))), (q2, .inl (cs 0, 20, .inl (fun _ => 0))), (q3, .inl (cs 0, 20, .inl (fun _ => 0))), (q4, .inl (cs 4, 200, .inl (fun _ => 0))), (q5, .inl (cs 4, 1200, .inl (fun _ => 0))), (q6, .inl (cs 0, 2, .inl (fun _ => 0))), (q7, .inl (cs 0, 120, .inl (fun _ => 0))), (q8, .inl (cs 4, 160, .inl (fun _ => 0)))]) H := hP
  have hD : va_D A ([(h0, .inr (5, [.ref q1, .ref q2, .ref q3, .ref q4, .ref q5, .ref q6, .ref q7, .null, .null, .null, .null, .int 0, .int 0, .null, .int 0, .int 0, .int 0, .int 0])), (q1, .inl (cs 0, 2, .inl (fun _ => 0))), (q2, .inl (cs 0, 20, .inl (fun _ => 0))), (q3, .inl (cs 0, 20, .inl (fun _ => 0))), (q4, .inl (cs 4, 200, .inl (fun _ => 0))), (q5, .inl (cs 4, 1200, .inl (fun _ => 0))), (q6, .inl (cs 0, 2, .inl (fun _ => 0))), (q7, .inl (cs 0, 120, .inl (fun _ => 0))), (q8, .inl (cs 4, 160, .inl (fun _ => 0)))]) := hD
  refine W.widen (k := 8) (n := 1724) (by omega) (by omega) ?_
  refine va_putF (D := D) (ci := 5) (v := .ref q8) (ty := .array .boolean) (C := RX6) (T := TX6) (N := 18) hx hb hts (by decide +kernel) tyX6 tyX6_ok nmX6 hown hK hP hD hS 0 rfl rfl 7 (by decide) (hts (.fieldLink RX6 32 "PartGraphsModel" "hazards" "[Z") (by decide +kernel)) (fun _ h9 => h9) rfl hin rfl (by decide +kernel) rfl rfl (Nat.le_of_ble_eq_true rfl) dX6_init_66 (fun H locs hP hD hS => ?_)
  have hP : va_P D vwCl ([(h0, .inr (5, [.ref q1, .ref q2, .ref q3, .ref q4, .ref q5, .ref q6, .ref q7, .ref q8, .null, .null, .null, .int 0, .int 0, .null, .int 0, .int 0, .int 0, .int 0])), (q1, .inl (cs 0, 2, .inl (fun _ => 0))), (q2, .inl (cs 0, 20, .inl (fun _ => 0))), (q3, .inl (cs 0, 20, .inl (fun _ => 0))), (q4, .inl (cs 4, 200, .inl (fun _ => 0))), (q5, .inl (cs 4, 1200, .inl (fun _ => 0))), (q6, .inl (cs 0, 2, .inl (fun _ => 0))), (q7, .inl (cs 0, 120, .inl (fun _ => 0))), (q8, .inl (cs 4, 160, .inl (fun _ => 0)))]) H := hP
  have hD : va_D A ([(h0, .inr (5, [.ref q1, .ref q2, .ref q3, .ref q4, .ref q5, .ref q6, .ref q7, .ref q8, .null, .null, .null, .int 0, .int 0, .null, .int 0, .int 0, .int 0, .int 0])), (q1, .inl (cs 0, 2, .inl (fun _ => 0))), (q2, .inl (cs 0, 20, .inl (fun _ => 0))), (q3, .inl (cs 0, 20, .inl (fun _ => 0))), (q4, .inl (cs 4, 200, .inl (fun _ => 0))), (q5, .inl (cs 4, 1200, .inl (fun _ => 0))), (q6, .inl (cs 0, 2, .inl (fun _ => 0))), (q7, .inl (cs 0, 120, .inl (fun _ => 0))), (q8, .inl (cs 4, 160, .inl (fun _ => 0)))]) := hD
  refine lv_aload_n hx hb dX6_init_69 rfl (lv_at hl 0 rfl) ?_
  refine lv_bipush (v := 20) hx hb dX6_init_70 (by decide) ?_
  have hc1 : 8 + 1 ≤ 12 := Nat.le_of_ble_eq_true rfl
  have hc2 : 1724 + 20 ≤ 3767 := Nat.le_of_ble_eq_true rfl
  refine va_newa (atype := .int) (ty := .int) (N' := 20) (a0 := (20, .inl (fun _ => 0))) hx hb (hts (.arrayClass .int) (by decide +kernel)) rfl hK hP hD hS hA (fun _ => aZi _ _ _ rfl) (by decide +kernel) (by decide +kernel) (by decide +kernel) hc1 hc2 dX6_init_72 (fun q9 cA H hK2 hP hD hS => ?_)
  obtain rfl : cA = cs 0 := kUniq hK2 5 0 rfl rfl rfl
  have hP : va_P D vwCl ([(h0, .inr (5, [.ref q1, .ref q2, .ref q3, .ref q4, .ref q5, .ref q6, .ref q7, .ref q8, .null, .null, .null, .int 0, .int 0, .null, .int 0, .int 0, .int 0, .int 0])), (q1, .inl (cs 0, 2, .inl (fun _ => 0))), (q2, .inl (cs 0, 20, .inl (fun _ => 0))), (q3, .inl (cs 0, 20, .inl (fun _ => 0))), (q4, .inl (cs 4, 200, .inl (fun _ => 0))), (q5, .inl (cs 4, 1200, .inl (fun _ => 0))), (q6, .inl (cs 0, 2, .inl (fun _ => 0))), (q7, .inl (cs 0, 120, .inl (fun _ => 0))), (q8, .inl (cs 4, 160, .inl (fun _ => 0))), (q9, .inl (cs 0, 20, .inl (fun _ => 0)))]) H := hP
  have hD : va_D A ([(h0, .inr (5, [.ref q1, .ref q2, .ref q3, .ref q4, .ref q5, .ref q6, .ref q7, .ref q8, .null, .null, .null, .int 0, .int 0, .null, .int 0, .int 0, .int 0, .int 0])), (q1, .inl (cs 0, 2, .inl (fun _ => 0))), (q2, .inl (cs 0, 20, .inl (fun _ => 0))), (q3, .inl (cs 0, 20, .inl (fun _ => 0))), (q4, .inl (cs 4, 200, .inl (fun _ => 0))), (q5, .inl (cs 4, 1200, .inl (fun _ => 0))), (q6, .inl (cs 0, 2, .inl (fun _ => 0))), (q7, .inl (cs 0, 120, .inl (fun _ => 0))), (q8, .inl (cs 4, 160, .inl (fun _ => 0))), (q9, .inl (cs 0, 20, .inl (fun _ => 0)))]) := hD
  refine W.widen (k := 9) (n := 1744) (by omega) (by omega) ?_
  refine va_putF (D := D) (ci := 5) (v := .ref q9) (ty := .array .int) (C := RX6) (T := TX6) (N := 18) hx hb hts (by decide +kernel) tyX6 tyX6_ok nmX6 hown hK hP hD hS 0 rfl rfl 8 (by decide) (hts (.fieldLink RX6 35 "PartGraphsModel" "families" "[I") (by decide +kernel)) (fun _ h9 => h9) rfl hin rfl (by decide +kernel) rfl rfl (Nat.le_of_ble_eq_true rfl) dX6_init_74 (fun H locs hP hD hS => ?_)
  have hP : va_P D vwCl ([(h0, .inr (5, [.ref q1, .ref q2, .ref q3, .ref q4, .ref q5, .ref q6, .ref q7, .ref q8, .ref q9, .null, .null, .int 0, .int 0, .null, .int 0, .int 0, .int 0, .int 0])), (q1, .inl (cs 0, 2, .inl (fun _ => 0))), (q2, .inl (cs 0, 20, .inl (fun _ => 0))), (q3, .inl (cs 0, 20, .inl (fun _ => 0))), (q4, .inl (cs 4, 200, .inl (fun _ => 0))), (q5, .inl (cs 4, 1200, .inl (fun _ => 0))), (q6, .inl (cs 0, 2, .inl (fun _ => 0))), (q7, .inl (cs 0, 120, .inl (fun _ => 0))), (q8, .inl (cs 4, 160, .inl (fun _ => 0))), (q9, .inl (cs 0, 20, .inl (fun _ => 0)))]) H := hP
  have hD : va_D A ([(h0, .inr (5, [.ref q1, .ref q2, .ref q3, .ref q4, .ref q5, .ref q6, .ref q7, .ref q8, .ref q9, .null, .null, .int 0, .int 0, .null, .int 0, .int 0, .int 0, .int 0])), (q1, .inl (cs 0, 2, .inl (fun _ => 0))), (q2, .inl (cs 0, 20, .inl (fun _ => 0))), (q3, .inl (cs 0, 20, .inl (fun _ => 0))), (q4, .inl (cs 4, 200, .inl (fun _ => 0))), (q5, .inl (cs 4, 1200, .inl (fun _ => 0))), (q6, .inl (cs 0, 2, .inl (fun _ => 0))), (q7, .inl (cs 0, 120, .inl (fun _ => 0))), (q8, .inl (cs 4, 160, .inl (fun _ => 0))), (q9, .inl (cs 0, 20, .inl (fun _ => 0)))]) := hD
  refine lv_aload_n hx hb dX6_init_77 rfl (lv_at hl 0 rfl) ?_
  refine lv_bipush (v := 20) hx hb dX6_init_78 (by decide) ?_
  have hc1 : 9 + 1 ≤ 12 := Nat.le_of_ble_eq_true rfl
  have hc2 : 1744 + 20 ≤ 3767 := Nat.le_of_ble_eq_true rfl
  refine va_newa (atype := .int) (ty := .int) (N' := 20) (a0 := (20, .inl (fun _ => 0))) hx hb (hts (.arrayClass .int) (by decide +kernel)) rfl hK hP hD hS hA (fun _ => aZi _ _ _ rfl) (by decide +kernel) (by decide +kernel) (by decide +kernel) hc1 hc2 dX6_init_80 (fun q10 cA H hK2 hP hD hS => ?_)
  obtain rfl : cA = cs 0 := kUniq hK2 5 0 rfl rfl rfl
  have hP : va_P D vwCl ([(h0, .inr (5, [.ref q1, .ref q2, .ref q3, .ref q4, .ref q5, .ref q6, .ref q7, .ref q8, .ref q9, .null, .null, .int 0, .int 0, .null, .int 0, .int 0, .int 0, .int 0])), (q1, .inl (cs 0, 2, .inl (fun _ => 0))), (q2, .inl (cs 0, 20, .inl (fun _ => 0))), (q3, .inl (cs 0, 20, .inl (fun _ => 0))), (q4, .inl (cs 4, 200, .inl (fun _ => 0))), (q5, .inl (cs 4, 1200, .inl (fun _ => 0))), (q6, .inl (cs 0, 2, .inl (fun _ => 0))), (q7, .inl (cs 0, 120, .inl (fun _ => 0))), (q8, .inl (cs 4, 160, .inl (fun _ => 0))), (q9, .inl (cs 0, 20, .inl (fun _ => 0))), (q10, .inl (cs 0, 20, .inl (fun _ => 0)))]) H := hP
  have hD : va_D A ([(h0, .inr (5, [.ref q1, .ref q2, .ref q3, .ref q4, .ref q5, .ref q6, .ref q7, .ref q8, .ref q9, .null, .null, .int 0, .int 0, .null, .int 0, .int 0, .int 0, .int 0])), (q1, .inl (cs 0, 2, .inl (fun _ => 0))), (q2, .inl (cs 0, 20, .inl (fun _ => 0))), (q3, .inl (cs 0, 20, .inl (fun _ => 0))), (q4, .inl (cs 4, 200, .inl (fun _ => 0))), (q5, .inl (cs 4, 1200, .inl (fun _ => 0))), (q6, .inl (cs 0, 2, .inl (fun _ => 0))), (q7, .inl (cs 0, 120, .inl (fun _ => 0))), (q8, .inl (cs 4, 160, .inl (fun _ => 0))), (q9, .inl (cs 0, 20, .inl (fun _ => 0))), (q10, .inl (cs 0, 20, .inl (fun _ => 0)))]) := hD
  refine W.widen (k := 10) (n := 1764) (by omega) (by omega) ?_
  refine va_putF (D := D) (ci := 5) (v := .ref q10) (ty := .array .int) (C := RX6) (T := TX6) (N := 18) hx hb hts (by decide +kernel) tyX6 tyX6_ok nmX6 hown hK hP hD hS 0 rfl rfl 9 (by decide) (hts (.fieldLink RX6 38 "PartGraphsModel" "damages" "[I") (by decide +kernel)) (fun _ h9 => h9) rfl hin rfl (by decide +kernel) rfl rfl (Nat.le_of_ble_eq_true rfl) dX6_init_82 (fun H locs hP hD hS => ?_)
  have hP : va_P D vwCl ([(h0, .inr (5, [.ref q1, .ref q2, .ref q3, .ref q4, .ref q5, .ref q6, .ref q7, .ref q8, .ref q9, .ref q10, .null, .int 0, .int 0, .null, .int 0, .int 0, .int 0, .int 0])), (q1, .inl (cs 0, 2, .inl (fun _ => 0))), (q2, .inl (cs 0, 20, .inl (fun _ => 0))), (q3, .inl (cs 0, 20, .inl (fun _ => 0))), (q4, .inl (cs 4, 200, .inl (fun _ => 0))), (q5, .inl (cs 4, 1200, .inl (fun _ => 0))), (q6, .inl (cs 0, 2, .inl (fun _ => 0))), (q7, .inl (cs 0, 120, .inl (fun _ => 0))), (q8, .inl (cs 4, 160, .inl (fun _ => 0))), (q9, .inl (cs 0, 20, .inl (fun _ => 0))), (q10, .inl (cs 0, 20, .inl (fun _ => 0)))]) H := hP
  have hD : va_D A ([(h0, .inr (5, [.ref q1, .ref q2, .ref q3, .ref q4, .ref q5, .ref q6, .ref q7, .ref q8, .ref q9, .ref q10, .null, .int 0, .int 0, .null, .int 0, .int 0, .int 0, .int 0])), (q1, .inl (cs 0, 2, .inl (fun _ => 0))), (q2, .inl (cs 0, 20, .inl (fun _ => 0))), (q3, .inl (cs 0, 20, .inl (fun _ => 0))), (q4, .inl (cs 4, 200, .inl (fun _ => 0))), (q5, .inl (cs 4, 1200, .inl (fun _ => 0))), (q6, .inl (cs 0, 2, .inl (fun _ => 0))), (q7, .inl (cs 0, 120, .inl (fun _ => 0))), (q8, .inl (cs 4, 160, .inl (fun _ => 0))), (q9, .inl (cs 0, 20, .inl (fun _ => 0))), (q10, .inl (cs 0, 20, .inl (fun _ => 0)))]) := hD
  refine lv_aload_n hx hb dX6_init_85 rfl (lv_at hl 0 rfl) ?_
  refine lv_sipush (v := 2000) hx hb dX6_init_86 (by decide) ?_
  have hc1 : 10 + 1 ≤ 12 := Nat.le_of_ble_eq_true rfl
  have hc2 : 1764 + 2000 ≤ 3767 := Nat.le_of_ble_eq_true rfl
  refine va_newa (atype := .byte) (ty := .byte) (N' := 2000) (a0 := (2000, .inl (fun _ => 0))) hx hb (hts (.arrayClass .byte) (by decide +kernel)) rfl hK hP hD hS hA (fun _ => aZi _ _ _ rfl) (by decide +kernel) (by decide +kernel) (by decide +kernel) hc1 hc2 dX6_init_89 (fun q11 cA H hK2 hP hD hS => ?_)
  obtain rfl : cA = cs 3 := kUniq hK2 5 3 rfl rfl rfl
  have hP : va_P D vwCl ([(h0, .inr (5, [.ref q1, .ref q2, .ref q3, .ref q4, .ref q5, .ref q6, .ref q7, .ref q8, .ref q9, .ref q10, .null, .int 0, .int 0, .null, .int 0, .int 0, .int 0, .int 0])), (q1, .inl (cs 0, 2, .inl (fun _ => 0))), (q2, .inl (cs 0, 20, .inl (fun _ => 0))), (q3, .inl (cs 0, 20, .inl (fun _ => 0))), (q4, .inl (cs 4, 200, .inl (fun _ => 0))), (q5, .inl (cs 4, 1200, .inl (fun _ => 0))), (q6, .inl (cs 0, 2, .inl (fun _ => 0))), (q7, .inl (cs 0, 120, .inl (fun _ => 0))), (q8, .inl (cs 4, 160, .inl (fun _ => 0))), (q9, .inl (cs 0, 20, .inl (fun _ => 0))), (q10, .inl (cs 0, 20, .inl (fun _ => 0))), (q11, .inl (cs 3, 2000, .inl (fun _ => 0)))]) H := hP
  have hD : va_D A ([(h0, .inr (5, [.ref q1, .ref q2, .ref q3, .ref q4, .ref q5, .ref q6, .ref q7, .ref q8, .ref q9, .ref q10, .null, .int 0, .int 0, .null, .int 0, .int 0, .int 0, .int 0])), (q1, .inl (cs 0, 2, .inl (fun _ => 0))), (q2, .inl (cs 0, 20, .inl (fun _ => 0))), (q3, .inl (cs 0, 20, .inl (fun _ => 0))), (q4, .inl (cs 4, 200, .inl (fun _ => 0))), (q5, .inl (cs 4, 1200, .inl (fun _ => 0))), (q6, .inl (cs 0, 2, .inl (fun _ => 0))), (q7, .inl (cs 0, 120, .inl (fun _ => 0))), (q8, .inl (cs 4, 160, .inl (fun _ => 0))), (q9, .inl (cs 0, 20, .inl (fun _ => 0))), (q10, .inl (cs 0, 20, .inl (fun _ => 0))), (q11, .inl (cs 3, 2000, .inl (fun _ => 0)))]) := hD
  refine W.widen (k := 11) (n := 3764) (by omega) (by omega) ?_
  refine va_putF (D := D) (ci := 5) (v := .ref q11) (ty := .array .byte) (C := RX6) (T := TX6) (N := 18) hx hb hts (by decide +kernel) tyX6 tyX6_ok nmX6 hown hK hP hD hS 0 rfl rfl 10 (by decide) (hts (.fieldLink RX6 41 "PartGraphsModel" "text" "[B") (by decide +kernel)) (fun _ h9 => h9) rfl hin rfl (by decide +kernel) rfl rfl (Nat.le_of_ble_eq_true rfl) dX6_init_91 (fun H locs hP hD hS => ?_)
  have hP : va_P D vwCl ([(h0, .inr (5, [.ref q1, .ref q2, .ref q3, .ref q4, .ref q5, .ref q6, .ref q7, .ref q8, .ref q9, .ref q10, .ref q11, .int 0, .int 0, .null, .int 0, .int 0, .int 0, .int 0])), (q1, .inl (cs 0, 2, .inl (fun _ => 0))), (q2, .inl (cs 0, 20, .inl (fun _ => 0))), (q3, .inl (cs 0, 20, .inl (fun _ => 0))), (q4, .inl (cs 4, 200, .inl (fun _ => 0))), (q5, .inl (cs 4, 1200, .inl (fun _ => 0))), (q6, .inl (cs 0, 2, .inl (fun _ => 0))), (q7, .inl (cs 0, 120, .inl (fun _ => 0))), (q8, .inl (cs 4, 160, .inl (fun _ => 0))), (q9, .inl (cs 0, 20, .inl (fun _ => 0))), (q10, .inl (cs 0, 20, .inl (fun _ => 0))), (q11, .inl (cs 3, 2000, .inl (fun _ => 0)))]) H := hP
  have hD : va_D A ([(h0, .inr (5, [.ref q1, .ref q2, .ref q3, .ref q4, .ref q5, .ref q6, .ref q7, .ref q8, .ref q9, .ref q10, .ref q11, .int 0, .int 0, .null, .int 0, .int 0, .int 0, .int 0])), (q1, .inl (cs 0, 2, .inl (fun _ => 0))), (q2, .inl (cs 0, 20, .inl (fun _ => 0))), (q3, .inl (cs 0, 20, .inl (fun _ => 0))), (q4, .inl (cs 4, 200, .inl (fun _ => 0))), (q5, .inl (cs 4, 1200, .inl (fun _ => 0))), (q6, .inl (cs 0, 2, .inl (fun _ => 0))), (q7, .inl (cs 0, 120, .inl (fun _ => 0))), (q8, .inl (cs 4, 160, .inl (fun _ => 0))), (q9, .inl (cs 0, 20, .inl (fun _ => 0))), (q10, .inl (cs 0, 20, .inl (fun _ => 0))), (q11, .inl (cs 3, 2000, .inl (fun _ => 0)))]) := hD
  refine lv_aload_n hx hb dX6_init_94 rfl (lv_at hl 0 rfl) ?_
  refine lv_iconst (v := 3) hx hb dX6_init_95 (by decide) ?_
  have hc1 : 11 + 1 ≤ 12 := Nat.le_of_ble_eq_true rfl
  have hc2 : 3764 + 3 ≤ 3767 := Nat.le_of_ble_eq_true rfl
  refine va_newa (atype := .int) (ty := .int) (N' := 3) (a0 := (3, .inl (fun _ => 0))) hx hb (hts (.arrayClass .int) (by decide +kernel)) rfl hK hP hD hS hA (fun _ => aZi _ _ _ rfl) (by decide +kernel) (by decide +kernel) (by decide +kernel) hc1 hc2 dX6_init_96 (fun q12 cA H hK2 hP hD hS => ?_)
  obtain rfl : cA = cs 0 := kUniq hK2 5 0 rfl rfl rfl
  have hP : va_P D vwCl ([(h0, .inr (5, [.ref q1, .ref q2, .ref q3, .ref q4, .ref q5, .ref q6, .ref q7, .ref q8, .ref q9, .ref q10, .ref q11, .int 0, .int 0, .null, .int 0, .int 0, .int 0, .int 0])), (q1, .inl (cs 0, 2, .inl (fun _ => 0))), (q2, .inl (cs 0, 20, .inl (fun _ => 0))), (q3, .inl (cs 0, 20, .inl (fun _ => 0))), (q4, .inl (cs 4, 200, .inl (fun _ => 0))), (q5, .inl (cs 4, 1200, .inl (fun _ => 0))), (q6, .inl (cs 0, 2, .inl (fun _ => 0))), (q7, .inl (cs 0, 120, .inl (fun _ => 0))), (q8, .inl (cs 4, 160, .inl (fun _ => 0))), (q9, .inl (cs 0, 20, .inl (fun _ => 0))), (q10, .inl (cs 0, 20, .inl (fun _ => 0))), (q11, .inl (cs 3, 2000, .inl (fun _ => 0))), (q12, .inl (cs 0, 3, .inl (fun _ => 0)))]) H := hP
  have hD : va_D A ([(h0, .inr (5, [.ref q1, .ref q2, .ref q3, .ref q4, .ref q5, .ref q6, .ref q7, .ref q8, .ref q9, .ref q10, .ref q11, .int 0, .int 0, .null, .int 0, .int 0, .int 0, .int 0])), (q1, .inl (cs 0, 2, .inl (fun _ => 0))), (q2, .inl (cs 0, 20, .inl (fun _ => 0))), (q3, .inl (cs 0, 20, .inl (fun _ => 0))), (q4, .inl (cs 4, 200, .inl (fun _ => 0))), (q5, .inl (cs 4, 1200, .inl (fun _ => 0))), (q6, .inl (cs 0, 2, .inl (fun _ => 0))), (q7, .inl (cs 0, 120, .inl (fun _ => 0))), (q8, .inl (cs 4, 160, .inl (fun _ => 0))), (q9, .inl (cs 0, 20, .inl (fun _ => 0))), (q10, .inl (cs 0, 20, .inl (fun _ => 0))), (q11, .inl (cs 3, 2000, .inl (fun _ => 0))), (q12, .inl (cs 0, 3, .inl (fun _ => 0)))]) := hD
  refine W.widen (k := 12) (n := 3767) (by omega) (by omega) ?_
  refine va_putF (D := D) (ci := 5) (v := .ref q12) (ty := .array .int) (C := RX6) (T := TX6) (N := 18) hx hb hts (by decide +kernel) tyX6 tyX6_ok nmX6 hown hK hP hD hS 0 rfl rfl 13 (by decide) (hts (.fieldLink RX6 45 "PartGraphsModel" "numbers" "[I") (by decide +kernel)) (fun _ h9 => h9) rfl hin rfl (by decide +kernel) rfl rfl (Nat.le_of_ble_eq_true rfl) dX6_init_98 (fun H locs hP hD hS => ?_)
  have hP : va_P D vwCl ([(h0, .inr (5, [.ref q1, .ref q2, .ref q3, .ref q4, .ref q5, .ref q6, .ref q7, .ref q8, .ref q9, .ref q10, .ref q11, .int 0, .int 0, .ref q12, .int 0, .int 0, .int 0, .int 0])), (q1, .inl (cs 0, 2, .inl (fun _ => 0))), (q2, .inl (cs 0, 20, .inl (fun _ => 0))), (q3, .inl (cs 0, 20, .inl (fun _ => 0))), (q4, .inl (cs 4, 200, .inl (fun _ => 0))), (q5, .inl (cs 4, 1200, .inl (fun _ => 0))), (q6, .inl (cs 0, 2, .inl (fun _ => 0))), (q7, .inl (cs 0, 120, .inl (fun _ => 0))), (q8, .inl (cs 4, 160, .inl (fun _ => 0))), (q9, .inl (cs 0, 20, .inl (fun _ => 0))), (q10, .inl (cs 0, 20, .inl (fun _ => 0))), (q11, .inl (cs 3, 2000, .inl (fun _ => 0))), (q12, .inl (cs 0, 3, .inl (fun _ => 0)))]) H := hP
  have hD : va_D A ([(h0, .inr (5, [.ref q1, .ref q2, .ref q3, .ref q4, .ref q5, .ref q6, .ref q7, .ref q8, .ref q9, .ref q10, .ref q11, .int 0, .int 0, .ref q12, .int 0, .int 0, .int 0, .int 0])), (q1, .inl (cs 0, 2, .inl (fun _ => 0))), (q2, .inl (cs 0, 20, .inl (fun _ => 0))), (q3, .inl (cs 0, 20, .inl (fun _ => 0))), (q4, .inl (cs 4, 200, .inl (fun _ => 0))), (q5, .inl (cs 4, 1200, .inl (fun _ => 0))), (q6, .inl (cs 0, 2, .inl (fun _ => 0))), (q7, .inl (cs 0, 120, .inl (fun _ => 0))), (q8, .inl (cs 4, 160, .inl (fun _ => 0))), (q9, .inl (cs 0, 20, .inl (fun _ => 0))), (q10, .inl (cs 0, 20, .inl (fun _ => 0))), (q11, .inl (cs 3, 2000, .inl (fun _ => 0))), (q12, .inl (cs 0, 3, .inl (fun _ => 0)))]) := hD
  refine lv_aload_n hx hb dX6_init_101 rfl (lv_at hl 0 rfl) ?_
  refine lv_iconst (v := 0) hx hb dX6_init_102 (by decide) ?_
  have hP : va_P D vwCl (sh_M cs (fun k => [h0, q1, q2, q3, q4, q5, q6, q7, q8, q9, q10, q11, q12].getD k 0) (fun _ => 0) (fun _ => 0) (fun _ => 0) (fun _ => 0) (fun _ => 0) (fun _ => 0) (fun _ => 0) (fun _ => 0) (fun _ => 0) (fun _ => 0) (fun _ => 0) (fun _ => 0) 0 0 0 0 0 0) H := hP
  have hD : va_D A (sh_M cs (fun k => [h0, q1, q2, q3, q4, q5, q6, q7, q8, q9, q10, q11, q12].getD k 0) (fun _ => 0) (fun _ => 0) (fun _ => 0) (fun _ => 0) (fun _ => 0) (fun _ => 0) (fun _ => 0) (fun _ => 0) (fun _ => 0) (fun _ => 0) (fun _ => 0) (fun _ => 0) 0 0 0 0 0 0) := hD
  have hFc := va_free (wc := (sh_M cs (fun k => [h0, q1, q2, q3, q4, q5, q6, q7, q8, q9, q10, q11, q12].getD k 0) (fun _ => 0) (fun _ => 0) (fun _ => 0) (fun _ => 0) (fun _ => 0) (fun _ => 0) (fun _ => 0) (fun _ => 0) (fun _ => 0) (fun _ => 0) (fun _ => 0) (fun _ => 0) 0 0 0 0 0 0)) hD hS hA [0, 1, 2, 3, 4, 5, 6, 7, 8, 9, 10, 11, 12] rfl
  refine va_callv (va_runV (As := [.int 0]) (rest := []) ⟨hx, hb, hml, hown, hts⟩ (met_X6_clear l D cs ev _ (fun k => [h0, q1, q2, q3, q4, q5, q6, q7, q8, q9, q10, q11, q12].getD k 0) (fun _ => 0) (fun _ => 0) (fun _ => 0) (fun _ => 0) (fun _ => 0) (fun _ => 0) (fun _ => 0) (fun _ => 0) (fun _ => 0) (fun _ => 0) (fun _ => 0) (fun _ => 0) 0 0 0 0 0 0 0 _ h) (cwV 1 hts gX6_init_X6_clear rfl rfl rfl (by decide +kernel) ⟨Nat.le_of_ble_eq_true rfl, Nat.le_of_ble_eq_true rfl⟩) (mPreV (va_recv hK hP (ci := 5) (q0 := 0) rfl rfl) hP hD hS hK hE hFc [0, 1, 2, 3, 4, 5, 6, 7, 8, 9, 10, 11, 12] (by decide) rfl) rfl rfl hl.1 rfl (lv_room (Nat.le_of_ble_eq_true rfl)) dX6_init_103 ⟨Nat.le_of_ble_eq_true rfl, Nat.le_of_ble_eq_true rfl⟩) hS (fun q _ h => hFc q h) hFc (fun u t H1 locs ht hvm hw hB hz1 hk1 hS => ?_)
  obtain ⟨mpM, mcM, mwM, mfM, mhM, mmM, mdM⟩ := u
  obtain ⟨hP1, hK1, hD1⟩ := hB
  rw [ht] at hP1
  obtain ⟨hP, hD⟩ := mJoin (wr := ([] : va_W)) (w1 := (sh_M cs (fun k => [h0, q1, q2, q3, q4, q5, q6, q7, q8, q9, q10, q11, q12].getD k 0) mpM (fun _ => 0) (fun _ => 0) mcM mwM mfM (fun _ => 0) mhM mmM mdM (fun _ => 0) (fun _ => 0) 0 0 0 0 0 0)) (w' := (sh_M cs (fun k => [h0, q1, q2, q3, q4, q5, q6, q7, q8, q9, q10, q11, q12].getD k 0) mpM (fun _ => 0) (fun _ => 0) mcM mwM mfM (fun _ => 0) mhM mmM mdM (fun _ => 0) (fun _ => 0) 0 0 0 0 0 0)) hP hD [0, 1, 2, 3, 4, 5, 6, 7, 8, 9, 10, 11, 12] [] rfl rfl (by decide) (by decide) hk1 hFc hP1 hD1 [0, 1, 2, 3, 4, 5, 6, 7, 8, 9, 10, 11, 12] (by decide) rfl
  generalize H1 = H at hP hS ⊢
  exact W.vret hx hb hr (fun t ht hW => ⟨⟨_, rfl, hw, fun k => [h0, q1, q2, q3, q4, q5, q6, q7, q8, q9, q10, q11, q12].getD k 0, rfl, by rw [ht]; exact hP, va_K.moved hW.alike hK, hD⟩, hS.F ht⟩) hS.2.2 dX6_init_106
