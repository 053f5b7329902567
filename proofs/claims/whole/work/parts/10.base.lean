/-! BASE: the constants' world (EV), a contract's start and end (mPre, mAt), calls -/
/-- the array classes, by element type: 0 int, 1 long, 2 char, 3 byte, 4 boolean -/
abbrev tyS (cs : Nat → ClassId) : List (ClassId × FieldType) := [(cs 0, .int), (cs 1, .long), (cs 2, .char), (cs 3, .byte), (cs 4, .boolean)]
def verbN : List String := ["PART", "COVER", "WAY", "FASTEN", "HAZARD", "OPTION", "DAMAGE"]
def verbF : List (String × String × String × List Int32) := [("java/lang/Enum", "ordinal", "I", [0, 1, 2, 3, 4, 5, 6]), ("PartGraphs$Verb", "numbers", "I", [2, 2, 3, 3, 2, 2, 2])]
def swTab : List Int32 := [1, 2, 3, 4, 5, 6, 0]
def strLen : List Nat := [4, 5, 3, 6, 6, 6, 6, 25, 12]
def strByt : List (List Int32) := [[112, 97, 114, 116], [99, 111, 118, 101, 114], [119, 97, 121], [102, 97, 115, 116, 101, 110], [104, 97, 122, 97, 114, 100], [111, 112, 116, 105, 111, 110], [100, 97, 109, 97, 103, 101],
  [110, 111, 32, 115, 117, 99, 104, 32, 112, 97, 114, 116, 32, 111, 114, 32, 100, 105, 114, 101, 99, 116, 105, 111, 110], [110, 111, 32, 115, 117, 99, 104, 32, 112, 97, 114, 116]]
/-- links across the nest -/
def evN (U : State) : Prop := va_Nw (.methodLinkNest RX1 50 yX5_isBelow "PartGraphs") U ∧ va_Nw (.methodLinkNest RX1 71 yX5_contains "PartGraphs") U ∧ va_Nw (.methodLinkNest RX1 145 yX5_memberOf "PartGraphs") U ∧ va_Nw (.methodLinkNest RX3 114 yX5_contains "PartGraphs") U ∧ va_Nw (.methodLinkNest RX3 70 yX1_barIndex "PartGraphs") U ∧ va_Nw (.methodLinkNest RX5 18 yX3_init "PartGraphs") U ∧ va_Nw (.fieldLinkNest RX2 67 "PartGraphs" "VERBS" "[LPartGraphs$Verb;" "PartGraphs") U
/-- texts that are loaded by name -/
def evR (ev : Nat → Nat → Nat) (U : State) : Prop := vk_R RX5 73 "no such part or direction" (ev 1 7) U ∧ vk_R RX5 108 "no such part" (ev 1 8) U
/-- what never changes: the enum's constants, their texts, the tables -/
def evH (ev : Nat → Nat → Nat) (A : Nat → Prop) (U : State) (H : Heap) : Prop :=
  va_En "PartGraphs$Verb" "LPartGraphs$Verb;" verbN verbF (ev 0) A U H ∧ va_Ef 7 "PartGraphs$Verb" "word" "Ljava/lang/String;" (fun i => .ref (ev 1 i)) (ev 0) A U H ∧ vk_S 9 strLen strByt (ev 1) (ev 2) A U H ∧
  va_Z "PartGraphs" "VERBS" "[LPartGraphs$Verb;" (.ref (ev 3 0)) A U H ∧ va_T (.object "PartGraphs$Verb") (ev 3 0) 7 (fun i => .ref (ev 0 i)) A U H ∧
  va_Z "PartGraphs$1" "$SwitchMap$PartGraphs$Verb" "[I" (.ref (ev 3 1)) A U H ∧ va_T .int (ev 3 1) 7 (fun i => .int (swTab.getD i 0)) A U H ∧ va_Z "java/lang/String" "COMPACT_STRINGS" "Z" (.int 1) A U H ∧ va_Zq "jdk/internal/util/Preconditions" "SIOOBE_FORMATTER" "Ljava/util/function/BiFunction;" A U H
def EV (ev : Nat → Nat → Nat) (A : Nat → Prop) (U : State) (H : Heap) : Prop := evN U ∧ evR ev U ∧ evH ev A U H
theorem evH.kept {ev : Nat → Nat → Nat} {A : Nat → Prop} {U : State} {H H1 : Heap} (h : evH ev A U H) (hq : ∀ a : Nat, a < H.size → ¬ A a → H1[a]? = H[a]?) : evH ev A U H1 := by
  obtain ⟨h1, h2, h3, h4, h5, h6, h7, h8, h9⟩ := h
  exact ⟨h1.kept hq, h2.kept hq, h3.kept hq, h4.kept hq, h5.kept hq, h6.kept hq, h7.kept hq, h8.kept hq, h9.kept hq⟩
theorem evH.moved {ev : Nat → Nat → Nat} {A : Nat → Prop} {u U : State} {H : Heap} (hvm : u.vm.Alike U.vm) (h : evH ev A u H) : evH ev A U H := by
  obtain ⟨h1, h2, h3, h4, h5, h6, h7, h8, h9⟩ := h
  exact ⟨h1.moved hvm, h2.moved hvm, h3.moved hvm, h4.moved hvm, h5.moved hvm, h6.moved hvm, h7.moved hvm, h8.moved hvm, h9.moved hvm⟩
theorem evH.narrow {ev : Nat → Nat → Nat} {A B : Nat → Prop} {U : State} {H : Heap} (h : evH ev A U H) (hAB : ∀ q, B q → A q) : evH ev B U H := by
  obtain ⟨h1, h2, h3, h4, h5, h6, h7, h8, h9⟩ := h
  exact ⟨h1.narrow hAB, h2.narrow hAB, h3.narrow hAB, h4.narrow hAB, h5.narrow hAB, h6.narrow hAB, h7.narrow hAB, h8.narrow hAB, h9.narrow hAB⟩
theorem evN.warm {s U : State} (hW : s.WarmedH U.vm) (h : evN s) : evN U := by
  obtain ⟨h1, h2, h3, h4, h5, h6, h7⟩ := h
  exact ⟨h1.warmM hW, h2.warmM hW, h3.warmM hW, h4.warmM hW, h5.warmM hW, h6.warmM hW, h7.warmF hW⟩
theorem evN.same {u U : State} (hv : u.vm = U.vm) (h : evN u) : evN U := by
  obtain ⟨h1, h2, h3, h4, h5, h6, h7⟩ := h
  exact ⟨h1.same rfl hv, h2.same rfl hv, h3.same rfl hv, h4.same rfl hv, h5.same rfl hv, h6.same rfl hv, h7.same rfl hv⟩
theorem EV.step {ev : Nat → Nat → Nat} {A B : Nat → Prop} {s U : State} {H : Heap} {locs : List Loc} (h : EV ev A s s.heap) (hS : va_S A s.heap H locs) (hAB : ∀ q, B q → A q) (hU : U.heap = H) (hW : s.WarmedH U.vm) : EV ev B U U.heap := by
  obtain ⟨h1, h2, h3⟩ := h
  rw [hU]
  exact ⟨h1.warm hW, ⟨h2.1.warm hW, h2.2.warm hW⟩, ((h3.kept hS.2.1).moved hW.alike).narrow hAB⟩
/-- a contract's start: its world w at a heap of size sz -/
abbrev mPre (D : va_G) (cs : Nat → ClassId) (ev : Nat → Nat → Nat) (w : va_W) (sz : Nat) (U : State) : Prop := U.heap.size = sz ∧ va_P D vwCl w U.heap ∧ va_K D vwCl (tyS cs) U ∧ va_D (fun _ => True) w ∧ EV ev (va_A w sz) U U.heap
/-- a contract's end -/
abbrev mAt (D : va_G) (cs : Nat → ClassId) (A : Nat → Prop) (w : va_W) (t : State) : Prop := va_P D vwCl w t.heap ∧ va_K D vwCl (tyS cs) t ∧ va_D A w
theorem mPre.blind {D : va_G} {cs : Nat → ClassId} {ev : Nat → Nat → Nat} {w : va_W} {sz : Nat} {av : List Value} : FrameBlind (va_Pc av (mPre D cs ev w sz)) := by
  intro a U g mk q
  obtain ⟨q0, q1, qP, qK, qD, qE⟩ := q
  exact ⟨q0, q1, qP, va_K.moved (u := U) (U := U.calling g mk a) (Vm.Alike.refl U.vm) qK, qD, qE.1.same rfl, ⟨vk_R.same rfl qE.2.1.1, vk_R.same rfl qE.2.1.2⟩, evH.moved (u := U) (U := U.calling g mk a) (Vm.Alike.refl U.vm) qE.2.2⟩
section MCALL
variable {s : State} {D : va_G} {cs : Nat → ClassId} {ev : Nat → Nat → Nat} {A : Nat → Prop} {H : Heap} {locs : List Loc} {ws wc : va_W}
theorem mPreS {As : List Value} (hP : va_P D vwCl ws H) (hD : va_D A ws) (hS : va_S A s.heap H locs) (hK : va_K D vwCl (tyS cs) s) (hE : EV ev A s s.heap) (hF : ∀ q, va_A wc H.size q → A q) (is : List Nat) (hn : va_nd is = true) (hs : is.map (fun i => ws[i]?) = wc.map some) : PreS s H (va_Pc As (mPre D cs ev wc H.size)) As := by
  refine ⟨mPre.blind, fun U hU hW => ⟨rfl, by rw [hU], ?_, va_K.moved hW.alike hK, (hD.sub is hn hs).weaken (fun _ _ _ _ => trivial), hE.step hS hF hU hW⟩⟩
  rw [hU]
  intro k q hk
  have h1 : (is.map (fun i => ws[i]?))[k]? = some (some q) := by rw [hs, List.getElem?_map, hk]; rfl
  rw [List.getElem?_map] at h1
  cases hi : is[k]? with
  | none => rw [hi] at h1; cases h1
  | some i => rw [hi] at h1; exact hP i q (Option.some.inj h1)
theorem mPreV {As : List Value} {C : String} {b : Nat} (hr : ∃ cell : Cell, H[b]? = some cell ∧ cell.vm.isStatics = false ∧ s.vm.findClass C = some cell.cls) (hP : va_P D vwCl ws H) (hD : va_D A ws) (hS : va_S A s.heap H locs) (hK : va_K D vwCl (tyS cs) s) (hE : EV ev A s s.heap) (hF : ∀ q, va_A wc H.size q → A q) (is : List Nat) (hn : va_nd is = true) (hs : is.map (fun i => ws[i]?) = wc.map some) : PreV s H C b (va_Pc (.ref b :: As) (mPre D cs ev wc H.size)) As :=
  ⟨mPre.blind, hr, (mPreS (As := .ref b :: As) hP hD hS hK hE hF is hn hs).2⟩
/-- behind a call: the world in its old order, the callee's cells as they are now -/
theorem mJoin {w1 wr w' : va_W} {H1 : Heap} (hP : va_P D vwCl ws H) (hD : va_D A ws) (isC isR : List Nat) (hC : isC.map (fun i => ws[i]?) = wc.map some) (hR : isR.map (fun i => ws[i]?) = wr.map some) (hn : va_nd isR = true) (hdis : ∀ i ∈ isR, i ∉ isC)
    (hk : ∀ q : Nat, q < H.size → ¬ va_A wc H.size q → H1[q]? = H[q]?) (hF : ∀ q, va_A wc H.size q → A q) (hP1 : va_P D vwCl w1 H1) (hD1 : va_D (va_A wc H.size) w1) (is : List Nat) (hm : va_nd is = true) (hs : is.map (fun i => (wr ++ w1)[i]?) = w'.map some) : va_P D vwCl w' H1 ∧ va_D A w' := by
  obtain ⟨a, b⟩ := va_join hP hD isC isR hC hR hn hdis hk hF hP1 hD1
  refine ⟨fun k q hk => ?_, b.sub is hm hs⟩
  have h1 : (is.map (fun i => (wr ++ w1)[i]?))[k]? = some (some q) := by rw [hs, List.getElem?_map, hk]; rfl
  rw [List.getElem?_map] at h1
  cases hi : is[k]? with
  | none => rw [hi] at h1; cases h1
  | some i => rw [hi] at h1; exact a i q (Option.some.inj h1)
end MCALL
