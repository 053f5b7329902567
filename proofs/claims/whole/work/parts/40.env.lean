/-! what the Statement gives of the start, in our words -/
theorem th_S.of {args : Array Value} {s : State} {C n d : String} {A : Nat → Prop} (hl : (Cond.laysStatic C n d).before args s = true) (hr : (Cond.isRef (.static C n d)).before args s = true) (hA : ∀ a : Nat, a < s.heap.size → ¬ A a) : th_S C n d A s s.heap := by
  obtain ⟨c, k, i, f, a, cell, h1, h2, h3, h4, h5, h6, h7, h8, h9⟩ := Cond.laysStatic_spec hl
  obtain ⟨v, hv⟩ : ∃ v, cell.slots[f.slot]? = some v := ⟨_, Array.getElem?_eq_getElem h8⟩
  refine ⟨c, k, i, f, a, cell, v, h1, h2, h3, h4, h9, h5, h6, h7, h8, hv, ?_, hA a (Array.getElem?_eq_some_iff.mp h5).1⟩
  simp [Cond.before, Cond.holds, Cond.value, Term.eval, State.fieldNamed?, h2, h3, h4, h5, h6, hv] at hr
  cases v <;> simp_all [Value.isRef]
abbrev lawFL : List Cond := flatC (Jvm.Cond.and given_1 narrow_1)
def stTm (i : Nat) : Term := ([.string "PartGraphs$Verb" 53, .string "PartGraphs$Verb" 59, .string "PartGraphs$Verb" 62, .string "PartGraphs$Verb" 65, .string "PartGraphs$Verb" 68, .string "PartGraphs$Verb" 71, .string "PartGraphs$Verb" 74, .string "PartGraphs" 73, .string "PartGraphs" 108] : List Term).getD i (.string "" 0)
theorem en_1 : ∀ i, i < 9 → Cond.exactly (stTm i) "java/lang/String" ∈ lawFL := by decide +kernel
theorem en_2 : ∀ i, i < 9 → Cond.eq (.field (stTm i) "java/lang/String" "coder" "B") (.int 0) ∈ lawFL := by decide +kernel
theorem en_3 : ∀ i, i < 9 → Cond.arrayOf (.field (stTm i) "java/lang/String" "value" "[B") .byte ∈ lawFL := by decide +kernel
theorem en_4 : ∀ i, i < 9 → Cond.eq (.length (.field (stTm i) "java/lang/String" "value" "[B")) (.int (Int32.ofNat (strLen.getD i 0))) ∈ lawFL := by decide +kernel
theorem en_5 : ∀ i, i < 9 → ∀ j, j < strLen.getD i 0 → Cond.eq (.elem (.field (stTm i) "java/lang/String" "value" "[B") (.int (Int32.ofNat j))) (.int ((strByt.getD i []).getD j 0)) ∈ lawFL := by decide +kernel
theorem en_6 : ∀ i, i < 9 → ∀ j, j < 9 → i ≠ j → (Cond.not (Cond.eq (stTm i) (stTm j)) ∈ lawFL ∨ Cond.not (Cond.eq (stTm j) (stTm i)) ∈ lawFL) := by decide +kernel
theorem en_7 : ∀ i, i < 7 → Cond.exactly (.static "PartGraphs$Verb" (verbN.getD i "") "LPartGraphs$Verb;") "PartGraphs$Verb" ∈ lawFL := by decide +kernel
theorem en_8 : ∀ q ∈ verbF, ∀ i, i < 7 → Cond.eq (.field (.static "PartGraphs$Verb" (verbN.getD i "") "LPartGraphs$Verb;") q.1 q.2.1 q.2.2.1) (.int (q.2.2.2.getD i 0)) ∈ lawFL := by decide +kernel
theorem en_9 : ∀ i, i < 7 → ∀ j, j < 7 → i ≠ j → (Cond.not (.eq (.static "PartGraphs$Verb" (verbN.getD i "") "LPartGraphs$Verb;") (.static "PartGraphs$Verb" (verbN.getD j "") "LPartGraphs$Verb;")) ∈ lawFL ∨ Cond.not (.eq (.static "PartGraphs$Verb" (verbN.getD j "") "LPartGraphs$Verb;") (.static "PartGraphs$Verb" (verbN.getD i "") "LPartGraphs$Verb;")) ∈ lawFL) := by decide +kernel
theorem en_10 : ∀ i, i < 7 → Cond.eq (.field (.static "PartGraphs$Verb" (verbN.getD i "") "LPartGraphs$Verb;") "PartGraphs$Verb" "word" "Ljava/lang/String;") (stTm i) ∈ lawFL := by decide +kernel
theorem en_11 : ∀ i, i < 7 → Cond.eq (.elem (.static "PartGraphs" "VERBS" "[LPartGraphs$Verb;") (.int (Int32.ofNat i))) (.static "PartGraphs$Verb" (verbN.getD i "") "LPartGraphs$Verb;") ∈ lawFL := by decide +kernel
theorem en_12 : ∀ i, i < 7 → Cond.eq (.elem (.static "PartGraphs$1" "$SwitchMap$PartGraphs$Verb" "[I") (.int (Int32.ofNat i))) (.int (swTab.getD i 0)) ∈ lawFL := by decide +kernel
theorem en_13 : ∀ i, i < 7 → Cond.laysStatic "PartGraphs$Verb" (verbN.getD i "") "LPartGraphs$Verb;" ∈ lw_tbl := by decide +kernel
theorem en_14 : thW.all (fun w => decide (w ∈ lw_tbl)) = true := by decide +kernel
set_option maxHeartbeats 4000000 in
theorem law_env {args : Array Value} {s : State} (hts : ∀ w ∈ lw_tbl, w.before args s = true) (hgv : (Jvm.Cond.and given_1 narrow_1).before args s = true) : ∃ ev : Nat → Nat → Nat, EV ev (fun q : Nat => s.heap.size ≤ q) s s.heap ∧ TV (fun q : Nat => s.heap.size ≤ q) s s.heap := by
  have hs := flat_of_before _ hgv
  have hA : ∀ a : Nat, a < s.heap.size → ¬ (fun q : Nat => s.heap.size ≤ q) a := fun a h => Nat.not_le.mpr h
  obtain ⟨adE, hEn, hev⟩ := va_Enof2 (args := args) (s := s) (E := "PartGraphs$Verb") (d := "LPartGraphs$Verb;") (nm := verbN) (F := verbF) (fun i hi => hts _ (en_13 i hi)) (hts (.initialized "PartGraphs$Verb") (by decide +kernel)) (fun i hi => hs _ (en_7 i hi)) (fun q hq i hi => hs _ (en_8 q hq i hi))
    (fun i j hi hj hij => (en_9 i hi j hj hij).elim (fun h => Or.inl (hs _ h)) (fun h => Or.inr (hs _ h))) hA
  obtain ⟨adK, adV, hSt, hevK⟩ := vk_Sof (args := args) (s := s) (N := 9) (tm := stTm) (len := strLen) (byt := strByt) (by decide) (fun i hi => hs _ (en_1 i hi)) (fun i hi => hs _ (en_2 i hi)) (fun i hi => hs _ (en_3 i hi)) (fun i hi => hs _ (en_4 i hi)) (fun i hi j hj => hs _ (en_5 i hi j hj))
    (fun i j hi hj hij => (en_6 i hi j hj hij).elim (fun h => Or.inl (hs _ h)) (fun h => Or.inr (hs _ h))) hA
  have hEf : va_Ef 7 "PartGraphs$Verb" "word" "Ljava/lang/String;" (fun i => .ref (adK i)) adE (fun q : Nat => s.heap.size ≤ q) s s.heap := va_Efof (args := args) (tm := stTm) (nm := verbN) (E := "PartGraphs$Verb") (d0 := "LPartGraphs$Verb;") hev (fun i hi => hs _ (en_10 i hi)) (fun i hi => hevK i (by omega)) hA
  obtain ⟨t0, ht0, hT0⟩ := va_Tof (args := args) (s := s) (tm := .static "PartGraphs" "VERBS" "[LPartGraphs$Verb;") (ty := .object "PartGraphs$Verb") (N := 7) (f := fun i => .ref (adE i)) (by decide) (hs (.arrayOf (.static "PartGraphs" "VERBS" "[LPartGraphs$Verb;") (.object "PartGraphs$Verb")) (by decide +kernel)) (va_eqt (hs (.eq (.length (.static "PartGraphs" "VERBS" "[LPartGraphs$Verb;")) (.int 7)) (by decide +kernel))) (fun j hj => va_eqv (hs _ (en_11 j hj)) (hev j hj)) hA
  obtain ⟨t1, ht1, hT1⟩ := va_Tof (args := args) (s := s) (tm := .static "PartGraphs$1" "$SwitchMap$PartGraphs$Verb" "[I") (ty := .int) (N := 7) (f := fun i => .int (swTab.getD i 0)) (by decide) (hs (.arrayOf (.static "PartGraphs$1" "$SwitchMap$PartGraphs$Verb" "[I") .int) (by decide +kernel)) (va_eqt (hs (.eq (.length (.static "PartGraphs$1" "$SwitchMap$PartGraphs$Verb" "[I")) (.int 7)) (by decide +kernel))) (fun j hj => va_eqt (hs _ (en_12 j hj))) hA
  refine ⟨fun k => if k = 0 then adE else if k = 1 then adK else if k = 2 then adV else fun j => if j = 0 then t0 else t1, ⟨⟨va_Nw.of rfl (hts _ (by decide +kernel)), va_Nw.of rfl (hts _ (by decide +kernel)), va_Nw.of rfl (hts _ (by decide +kernel)), va_Nw.of rfl (hts _ (by decide +kernel)), va_Nw.of rfl (hts _ (by decide +kernel)), va_Nw.of rfl (hts _ (by decide +kernel)), va_Nw.of rfl (hts _ (by decide +kernel))⟩, ⟨vk_R.of (hts (.stringRef RX5 73 "no such part or direction") (by decide +kernel)) (hevK 7 (by decide)), vk_R.of (hts (.stringRef RX5 108 "no such part") (by decide +kernel)) (hevK 8 (by decide))⟩, hEn, hEf, hSt,
    va_Zref (hts (.laysStatic "PartGraphs" "VERBS" "[LPartGraphs$Verb;") (by decide +kernel)) (hts (.initialized "PartGraphs") (by decide +kernel)) ht0 hA, hT0, va_Zref (hts (.laysStatic "PartGraphs$1" "$SwitchMap$PartGraphs$Verb" "[I") (by decide +kernel)) (hts (.initialized "PartGraphs$1") (by decide +kernel)) ht1 hA, hT1,
    va_Zof (hts (.laysStatic "java/lang/String" "COMPACT_STRINGS" "Z") (by decide +kernel)) (hts (.initialized "java/lang/String") (by decide +kernel)) (va_eqi (hs (.eq (.static "java/lang/String" "COMPACT_STRINGS" "Z") (.int 1)) (by decide +kernel))) hA,
    va_Zqof (hts (.laysStatic "jdk/internal/util/Preconditions" "SIOOBE_FORMATTER" "Ljava/util/function/BiFunction;") (by decide +kernel)) (hts (.initialized "jdk/internal/util/Preconditions") (by decide +kernel)) (hs (.isRef (.static "jdk/internal/util/Preconditions" "SIOOBE_FORMATTER" "Ljava/util/function/BiFunction;")) (by decide +kernel)) hA⟩,
    fun w hw => va_tabs (thW_tab hw) rfl (hts w (of_decide_eq_true (List.all_eq_true.mp en_14 w hw))), th_S.of (hts (.laysStatic "java/lang/Throwable" "UNASSIGNED_STACK" "[Ljava/lang/StackTraceElement;") (by decide +kernel)) (hs (.isRef (.static "java/lang/Throwable" "UNASSIGNED_STACK" "[Ljava/lang/StackTraceElement;")) (by decide +kernel)) hA, th_S.of (hts (.laysStatic "java/lang/Throwable" "SUPPRESSED_SENTINEL" "Ljava/util/List;") (by decide +kernel)) (hs (.isRef (.static "java/lang/Throwable" "SUPPRESSED_SENTINEL" "Ljava/util/List;")) (by decide +kernel)) hA⟩
theorem arr_of {args : Array Value} {s : State} {ty : FieldType} (h : (Cond.arrayClass ty).before args s = true) (hp : (match ty with | .object _ => false | _ => true) = true) : ∃ cA : ClassId, ArrOfT s cA ty ∧ va_RA s cA ty := by
  obtain ⟨c, k, comp, h1, h2, h3⟩ := Cond.arrayClass_spec h
  refine ⟨c, fun n z => ⟨fun k h => (by cases h), k, h2, comp, h3⟩, ?_⟩
  cases ty with
  | object C => simp at hp
  | _ => exact h1
theorem law_K {args : Array Value} {s : State} (hts : ∀ w ∈ lw_tbl, w.before args s = true) : ∃ (D : va_G) (cs : Nat → ClassId), va_K D vwCl (tyS cs) s := by
  obtain ⟨c0, i0, hk0⟩ := u_known (C := RJx00060) (T := TJx00060) (N := 6) (n := 6) hts lin_Jx00060 (hts (.instantiable RJx00060 6) (by decide +kernel))
  obtain ⟨c1, i1, hk1⟩ := u_known (C := RX1) (T := TX1) (N := 12) (n := 12) hts lin_X1 (hts (.instantiable RX1 12) (by decide +kernel))
  obtain ⟨c2, i2, hk2⟩ := u_known (C := RX2) (T := TX2) (N := 5) (n := 5) hts lin_X2 (hts (.instantiable RX2 5) (by decide +kernel))
  obtain ⟨c3, i3, hk3⟩ := u_known (C := RX3) (T := TX3) (N := 2) (n := 2) hts lin_X3 (hts (.instantiable RX3 2) (by decide +kernel))
  obtain ⟨c4, i4, hk4⟩ := u_known (C := RX5) (T := TX5) (N := 4) (n := 4) hts lin_X5 (hts (.instantiable RX5 4) (by decide +kernel))
  obtain ⟨c5, i5, hk5⟩ := u_known (C := RX6) (T := TX6) (N := 18) (n := 18) hts lin_X6 (hts (.instantiable RX6 18) (by decide +kernel))
  obtain ⟨a0, ha0⟩ := arr_of (ty := .int) (hts (.arrayClass .int) (by decide +kernel)) rfl
  obtain ⟨a1, ha1⟩ := arr_of (ty := .long) (hts (.arrayClass .long) (by decide +kernel)) rfl
  obtain ⟨a2, ha2⟩ := arr_of (ty := .char) (hts (.arrayClass .char) (by decide +kernel)) rfl
  obtain ⟨a3, ha3⟩ := arr_of (ty := .byte) (hts (.arrayClass .byte) (by decide +kernel)) rfl
  obtain ⟨a4, ha4⟩ := arr_of (ty := .boolean) (hts (.arrayClass .boolean) (by decide +kernel)) rfl
  refine ⟨(fun k => if k = 0 then c0 else if k = 1 then c1 else if k = 2 then c2 else if k = 3 then c3 else if k = 4 then c4 else c5, fun k => if k = 0 then i0 else if k = 1 then i1 else if k = 2 then i2 else if k = 3 then i3 else if k = 4 then i4 else i5), fun k => if k = 0 then a0 else if k = 1 then a1 else if k = 2 then a2 else if k = 3 then a3 else a4, ?_, ?_⟩
  · intro k q hq
    match k, hq with
    | 0, hq => cases hq; exact hk0
    | 1, hq => cases hq; exact hk1
    | 2, hq => cases hq; exact hk2
    | 3, hq => cases hq; exact hk3
    | 4, hq => cases hq; exact hk4
    | 5, hq => cases hq; exact hk5
    | k + 6, hq => simp [vwCl] at hq
  · intro k q hq
    match k, hq with
    | 0, hq => cases hq; exact ha0
    | 1, hq => cases hq; exact ha1
    | 2, hq => cases hq; exact ha2
    | 3, hq => cases hq; exact ha3
    | 4, hq => cases hq; exact ha4
    | k + 5, hq => simp [tyS] at hq
