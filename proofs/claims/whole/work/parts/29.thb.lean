/-! what a throw needs of the tables and of Throwable's statics -/
def xN : String := "java/lang/ArrayIndexOutOfBoundsException"
def xUp : List String := ["java/lang/IndexOutOfBoundsException", "java/lang/RuntimeException", "java/lang/Exception"]
def thSt : Cond → Bool
  | .isRef _ => true
  | .laysStatic .. => true
  | _ => false
def thW : List Cond := .classLink RL 13 xN :: (Jvm.Bundle.ownAtoms RX5 75 xN xUp).filter (fun w => !thSt w)
def thG (w : Cond) : Bool := w.onTables && (w.keeps || (match w with | .declares _ => true | .castable .. => true | _ => false))
theorem th_word {s U : State} (hW : s.WarmedH U.vm) {w : Cond} (hg : thG w = true) (h : w.before #[] s = true) : w.before #[] U = true := by
  simp only [thG, Bool.and_eq_true, Bool.or_eq_true] at hg
  obtain ⟨h1, h2 | h2⟩ := hg
  · exact word_at hW (Or.inl (by rw [h1, h2]; rfl)) h
  · cases w with
    | declares x => exact va_tabs (u := s.setVm U.vm) rfl rfl ((Cond.declares_setVm (args := #[]) hW.alike x).trans h)
    | castable a b => exact va_tabs (u := s.setVm U.vm) rfl rfl ((Cond.castable_setVm (args := #[]) hW.alike a b).trans h)
    | _ => simp at h2
theorem thW_good : thW.all thG = true := by decide +kernel
theorem thW_tab {w : Cond} (hw : w ∈ thW) : w.onTables = true := by
  have := List.all_eq_true.mp thW_good w hw
  simp only [thG, Bool.and_eq_true] at this
  exact this.1
theorem thW_rest : ((Jvm.Bundle.ownAtoms RX5 75 xN xUp).filter thSt).all (fun w => decide (w ∈ ([.isRef (.static "java/lang/Throwable" "UNASSIGNED_STACK" "[Ljava/lang/StackTraceElement;"), .isRef (.static "java/lang/Throwable" "SUPPRESSED_SENTINEL" "Ljava/util/List;"), .laysStatic "java/lang/Throwable" "UNASSIGNED_STACK" "[Ljava/lang/StackTraceElement;", .laysStatic "java/lang/Throwable" "SUPPRESSED_SENTINEL" "Ljava/util/List;"] : List Cond))) = true := by decide +kernel
/-- a static of a class holds a reference or null, in a cell that nobody writes -/
def th_S (C n d : String) (A : Nat → Prop) (U : State) (H : Heap) : Prop := ∃ (c : ClassId) (k : Class) (i : Nat) (f : Field) (a : Nat) (cell : Cell) (v : Value), U.vm.findClass C = some c ∧ U.fieldFound? C n d = some (c, k, i, f) ∧ f.isStatic = true ∧ k.statics = some a ∧ k.staticTypes[f.slot]? = some f.type ∧ H[a]? = some cell ∧ cell.vm.isStatics = true ∧ cell.cls = c ∧ f.slot < cell.slots.size ∧ cell.slots[f.slot]? = some v ∧ v.isRef = true ∧ ¬ A a
theorem th_S.moved {C n d : String} {A : Nat → Prop} {u U : State} {H : Heap} (hvm : u.vm.Alike U.vm) (h : th_S C n d A u H) : th_S C n d A U H := by
  obtain ⟨c, k, i, f, a, cell, v, h1, h2, h3, h4, h5, h6⟩ := h
  obtain ⟨k', hi', he⟩ := State.fieldFound?_setVm hvm h2
  exact ⟨c, k', i, f, a, cell, v, by rw [hvm.findClass]; exact h1, hi', h3, by rw [he]; exact h4, by rw [he]; exact h5, h6⟩
theorem th_S.kept {C n d : String} {A : Nat → Prop} {U : State} {H H1 : Heap} (h : th_S C n d A U H) (hq : ∀ a : Nat, a < H.size → ¬ A a → H1[a]? = H[a]?) : th_S C n d A U H1 := by
  obtain ⟨c, k, i, f, a, cell, v, h1, h2, h3, h4, h5, h6, h7, h8, h9, h10, h11, h12⟩ := h
  exact ⟨c, k, i, f, a, cell, v, h1, h2, h3, h4, h5, by rw [hq a (Array.getElem?_eq_some_iff.mp h6).1 h12]; exact h6, h7, h8, h9, h10, h11, h12⟩
theorem th_S.narrow {C n d : String} {A B : Nat → Prop} {U : State} {H : Heap} (h : th_S C n d A U H) (hAB : ∀ q, B q → A q) : th_S C n d B U H := by
  obtain ⟨c, k, i, f, a, cell, v, h1, h2, h3, h4, h5, h6, h7, h8, h9, h10, h11, h12⟩ := h
  exact ⟨c, k, i, f, a, cell, v, h1, h2, h3, h4, h5, h6, h7, h8, h9, h10, h11, fun z => h12 (hAB a z)⟩
theorem th_S.lays {C n d : String} {A : Nat → Prop} {U : State} {args : Array Value} (h : th_S C n d A U U.heap) : (Cond.laysStatic C n d).before args U = true := by
  obtain ⟨c, k, i, f, a, cell, v, h1, h2, h3, h4, h5, h6, h7, h8, h9, h10, h11, h12⟩ := h
  simp [Cond.before, Cond.holds, Cond.value, h1, h2, h3, h4, h6, h7, h8, h9, h5]
theorem th_S.ref {C n d : String} {A : Nat → Prop} {U : State} {args : Array Value} (h : th_S C n d A U U.heap) : (Cond.isRef (.static C n d)).before args U = true := by
  obtain ⟨c, k, i, f, a, cell, v, h1, h2, h3, h4, h5, h6, h7, h8, h9, h10, h11, h12⟩ := h
  simp [Cond.before, Cond.holds, Cond.value, Term.eval, State.fieldNamed?, h2, h3, h4, h6, h7, h10]
  cases v <;> simp_all [Value.isRef]
def TV (A : Nat → Prop) (U : State) (H : Heap) : Prop := (∀ w ∈ thW, w.before #[] U = true) ∧ th_S "java/lang/Throwable" "UNASSIGNED_STACK" "[Ljava/lang/StackTraceElement;" A U H ∧ th_S "java/lang/Throwable" "SUPPRESSED_SENTINEL" "Ljava/util/List;" A U H
theorem TV.step {A B : Nat → Prop} {s U : State} {H : Heap} {locs : List Loc} (h : TV A s s.heap) (hS : va_S A s.heap H locs) (hAB : ∀ q, B q → A q) (hU : U.heap = H) (hW : s.WarmedH U.vm) : TV B U U.heap := by
  obtain ⟨h1, h2, h3⟩ := h
  rw [hU]
  exact ⟨fun w hw => th_word hW (List.all_eq_true.mp thW_good w hw) (h1 w hw), ((h2.kept hS.2.1).moved hW.alike).narrow hAB, ((h3.kept hS.2.1).moved hW.alike).narrow hAB⟩
theorem TV.calling {A : Nat → Prop} {U : State} {g : JFrame} {mk : MethodId} {a : Array Value} (h : TV A U U.heap) : TV A (U.calling g mk a) (U.calling g mk a).heap := by
  obtain ⟨h1, h2, h3⟩ := h
  refine ⟨fun w hw => ?_, th_S.moved (u := U) (Vm.Alike.refl U.vm) h2, th_S.moved (u := U) (Vm.Alike.refl U.vm) h3⟩
  exact va_tabs (u := U) (thW_tab hw) rfl (h1 w hw)
theorem TV.atoms {A : Nat → Prop} {U : State} {args : Array Value} (h : TV A U U.heap) : ∀ a ∈ Jvm.Bundle.ownAtoms RX5 75 xN xUp, a.before args U = true := by
  intro w hw
  by_cases hs : thSt w = true
  · have := List.all_eq_true.mp thW_rest w (List.mem_filter.mpr ⟨hw, hs⟩)
    simp only [decide_eq_true_eq] at this
    simp only [List.mem_cons, List.not_mem_nil, or_false] at this
    rcases this with rfl | rfl | rfl | rfl
    · exact h.2.1.ref
    · exact h.2.2.ref
    · exact h.2.1.lays
    · exact h.2.2.lays
  · have hm : w ∈ thW := List.mem_cons_of_mem _ (List.mem_filter.mpr ⟨hw, by simp [hs]⟩)
    exact va_tabs (thW_tab hm) rfl (h.1 w hm)
def th_MQ (below : List Frame) (Qt : Array Value → State → Addr → State → Prop) (a : Array Value) (s : State) (mc ms : Nat) : State → Prop := fun t => ∃ o, t.status = .running ∧ Ended t below o ∧ th_Q Qt mc ms a s o t
theorem th_ofW {l : Launch} {y : MethodName} {ws ws' : List Cond} {rm : Room} {Pc : Array Value → State → Prop} {Qt : Array Value → State → Addr → State → Prop} {mc ms : Nat} {cc : ByteArray} {maxL : Nat} {ret : Option FieldType}
    (hy : plainName y.cls = true) (hw : ws = Cond.code y cc maxL ret :: ws')
    (body : ∀ p e s m args below meth c s₁, BodyLoose p l y (headSpec ws rm) cc maxL ret e s m args below meth c s₁ → c.maxLocals = maxL → Pc args s →
      W p l e (headSpec ws rm).room s m args below meth c s.heap [] 0 0 (th_MQ below Qt args s mc ms) (entryFrame m args maxL)) : MetFree l y (headSpec ws rm) Pc (fun _ _ _ _ _ => True) (th_Q Qt mc ms) := by
  refine MetFree.of_bodyS (code := cc) (maxLocals := maxL) (ret := ret) hy ?_ ?_
  · intro args s m h hn
    obtain ⟨meth, c, h1, h2, h3, h4, h5, h6, -, -⟩ := Cond.code_spec hn (atoms_spec (ws := ws) h _ (by rw [hw]; exact List.mem_cons_self))
    exact ⟨meth, c, h1, h2, h3, h4, h5, h6⟩
  · intro p e s m args below meth c s₁ B hml hP _
    have hh0 : s₁.heap = s.heap := by rw [B.state]; rfl
    obtain ⟨t, a1, o, b1, b2, b3⟩ := body p e s m args below meth c s₁ B hml hP s₁ hh0 (Stand.of_body B)
    exact ⟨t, o, a1, b1, b2, b3⟩
/-- the exception that stands at v -/
def th_Qx : Array Value → State → Addr → State → Prop := fun _ st v t => st.heap.size ≤ v ∧ ∃ ce : Cell, t.heap[v]? = some ce ∧ st.vm.findClass xN = some ce.cls ∧ ce.vm.isStatics = false ∧ ∃ k0, st.vm.classes[ce.cls]? = some k0
/-- new X; dup; ldc text; X.<init>; athrow -/
theorem th_throw {p : Program} {l : Launch} {e : Env} {R : Room} {s : State} {m : MethodId} {args : Array Value} {below : List Frame} {meth : Method} {c : Code} {cc : ByteArray} {pc ib sa : Nat} {ls : Array Slot} {text : String} (hexec : p.tables.exec = Jvm.exec) (hb : c.code = cc) (hl : l.stackTraces = false) (hown : s.vm.findClass RX5 = some m.cls)
    (hat : ∀ a ∈ Jvm.Bundle.ownAtoms RX5 75 xN xUp, a.before args s = true) (hcl : (Cond.classLink RX5 71 xN).before args s = true) (hins : (Cond.instantiable xN 6).before args s = true) (hini : (Cond.initialized xN).before args s = true) (hstr : vk_R RX5 ib text sa s)
    (hsize : ls.size = c.maxLocals) (hnoH : ∀ x ∈ c.exceptionTable.toList, covers x (pc + 9) = false) (hlocks : meth.locks = false)
    (d0 : decode cc pc = .ok (.new 71, 3)) (d3 : decode cc (pc + 3) = .ok (.dup, 1)) (d4 : decode cc (pc + 4) = .ok (.ldc ib, 2)) (d6 : decode cc (pc + 6) = .ok (.invokespecial 75, 3)) (d9 : decode cc (pc + 9) = .ok (.athrow, 1))
    (hRc : 1 ≤ R.cells) (hRs : 6 ≤ R.slots) (hRf : 6 < R.frames) (hRl : 100 ≤ R.locals) : W p l e R s m args below meth c s.heap [] 0 0 (th_MQ below th_Qx args s 1 6) (F0 m pc ls []) := by
  intro T hT X
  have htr : e.platform.stackTraces = false := by rw [Jvm.Example.NoTraceControls.admits_follows X.admits]; exact hl
  obtain ⟨vm₁, cX, kX, hfX, hkX, -, -, X₁, st1⟩ := X.newCold hexec (own := RX5) (C := xN) (index := 71) (n := 6) hown hcl hins hini (g := F0 m pc ls []) rfl (by rw [hb]; exact d0) (by omega) (by omega)
  generalize hT1 : (T.setVm vm₁).pushCell { cls := cX, slots := kX.instanceTypes.map defaultValue, vm := .none } = T1 at X₁ st1
  have hcellA : T1.heap[T.heap.size]? = some (freshCell cX kX) := by rw [← hT1]; exact State.heap_pushCell_size _ _
  obtain ⟨U, hsteps, hrun, hend, hW, hsame, ce, hce, K⟩ := X₁.ctorThrowS hexec htr (own := RX5) (cls := xN) (names := xUp) (ic := 75) hown (by decide +kernel) (by decide +kernel)
    hat (fun y hy => by cases hy) hfX hkX hcellA (by rw [hT]; exact Nat.le_refl _) (msg := .ref sa) rfl
    (g := F0 m (pc + 6) ls [.ref sa, .ref T.heap.size, .ref T.heap.size]) rfl hsize rfl rfl (rest := []) rfl
    (by rw [hb]; exact d6) (by rw [hb]; exact d9) hnoH (by show 3 + 3 < R.frames; omega) (by show 2 * 0 + (1 + 0) + (13 * (3 + 1) + 42) ≤ R.locals; omega) hlocks
  have hcc : ce.cls = cX := Option.some.inj (K.cls.symm.trans hfX)
  refine ⟨U, ?_, .threw T.heap.size, hrun, hend, T.heap.size, rfl, ⟨by rw [hT]; exact Nat.le_refl _, ce, hce, K.cls, by rw [K.vm]; rfl, kX, by rw [hcc]; exact hkX⟩, hW, hsame⟩
  refine st1 _ ?_
  show Steps p.tables e below (T1.setTop (F0 m (pc + 3) ls [.ref T.heap.size])) _
  jvm_step X₁.here [X₁.here.top, hexec, hb, d3, Value.category]
  exact X₁.ldcString hexec (own := RX5) (text := text) (index := ib) (a := sa) hown hstr.1 hstr.2 (g := F0 m (pc + 4) ls [.ref T.heap.size, .ref T.heap.size]) rfl (by rw [hb]; exact d4) _ hsteps
