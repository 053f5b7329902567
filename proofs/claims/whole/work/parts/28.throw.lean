/-! THROWING: a method that makes an exception and throws it; a call of it that is caught -/
theorem th_go_cold {Q : Handler → Pre} {E : CtlPost} {e : Env} {d : Bool} {acts : List Action} {s : State} {f : JFrame} {a : Addr} {x : ExceptionTableEntry} {t : List ExceptionTableEntry} {c : ClassId} {cell : Cell} {vm' : Vm} (hx : covers x f.pc = true) (h0 : x.catchType ≠ 0)
    (hg : (Jvm.resolveClass f.method.cls x.catchType).Gives e.toSetting s.vm (.ok c) vm') (hsz : vm'.classes.size ≤ s.vm.classes.size) (hcell : s.heap[a]? = some cell) (hobj : ∀ k, cell.vm ≠ .statics k)
    (hk : ∃ k, vm'.classes[cell.cls]? = some k) (hc : ∃ k, vm'.classes[c]? = some k) (hfit : vm'.assignable cell.cls c = true) :
    wp (findHandler.go f a (x :: t)) Q E e d acts s ↔ Q (.found x.handlerPc) d acts (s.setVm vm') := by
  simp only [covers] at hx
  obtain ⟨ha, ht⟩ := hg.op (op := VmOp.resolveClass f.method.cls x.catchType) rfl
  simp [findHandler.go, hx, h0, ha, ht, hsz, hcell, hobj, hk, hc, hfit, VmOp.dirties, VmOp.acts]
theorem th_catch {e : Env} {s : State} {a : Addr} {f : JFrame} {r : List Frame} {pc : Nat} {vm' : Vm} (hfind : ∀ (Q : Handler → Pre) (E : CtlPost) (d : Bool) (acts : List Action), wp (findHandler f a) Q E e d acts s ↔ Q (.found pc) d acts (s.setVm vm')) :
    (stepThrowing e s a (.java f :: r)).Is ((s.setVm vm').setFrames (.java { f with pc := pc, stack := [.ref a] } :: r)) [] := by
  simp only [stepThrowing, searchFrame, vmDo]
  generalize hr : Sem.go _ e false [] s = res
  obtain ⟨as, rfl, ha⟩ := Sem.eq_ok_of hr (a := Handler.found pc) (s' := s.setVm vm') (acts' := []) (by simp [hfind _ _ _ _])
  exact ⟨rfl, ha⟩
theorem th_caught {tb : Tables} {e : Env} {s target : State} {g : JFrame} {c : Code} {below : List Frame} {a : Addr} {vm' : Vm} (h : At s g.method c below) {pc : Nat}
    (hfind : ∀ (Q : Handler → Pre) (E : CtlPost) (d : Bool) (acts : List Action), wp (findHandler g a) Q E e d acts ((s.setTop g).pushFrame (.throwing a)) ↔ Q (.found pc) d acts (((s.setTop g).pushFrame (.throwing a)).setVm vm'))
    (hrest : Steps tb e below ((s.setVm vm').setTop { g with pc := pc, stack := [.ref a] }) target) :
    Steps tb e below ((s.setTop g).pushFrame (.throwing a)) target := by
  obtain ⟨hgo, hw⟩ := h.throwing a
  refine Steps.head hgo hw ?_
  rw [stepThread_throwing (frames_entered h.top _), (th_catch (s := (s.setTop g).pushFrame (.throwing a)) hfind).1]
  obtain ⟨g₀, hg⟩ := Option.isSome_iff_exists.mp h.top
  obtain ⟨r, hr⟩ := State.topJava?_eq_some.mp hg
  have hr' : (s.setVm vm').frames = .java g₀ :: r := hr
  rw [State.setTop_of_frames _ hr'] at hrest
  rw [State.pushFrame, State.setTop_of_frames _ hr, hr]
  have e1 : ((((s.setFrames (Frame.java g :: r)).setFrames (Frame.throwing a :: (s.setFrames (Frame.java g :: r)).frames)).setVm vm').setFrames (Frame.java { g with pc := pc, stack := [.ref a] } :: r)) = (s.setVm vm').setFrames (Frame.java { g with pc := pc, stack := [.ref a] } :: r) := by
    show ((((s.setVm vm').setFrames (Frame.java g :: r)).setFrames (Frame.throwing a :: (s.setFrames (Frame.java g :: r)).frames)).setFrames _) = _
    rw [State.setFrames_setFrames, State.setFrames_setFrames]
  show Steps tb e below (((((s.setFrames (Frame.java g :: r)).setFrames (Frame.throwing a :: (s.setFrames (Frame.java g :: r)).frames)).setVm vm').setFrames (Frame.java { g with pc := pc, stack := [.ref a] } :: r))) target
  rw [e1]
  exact hrest
/-- what a method that throws leaves: the exception, nothing old changed -/
def th_Q (Qt : Array Value → State → Addr → State → Prop) (mc ms : Nat) : Array Value → State → Outcome → State → Prop := fun a st o t =>
  ∃ v, o = .threw v ∧ Qt a st v t ∧ st.WarmedH t.vm ∧ st.sameButNew ({ t with vm := st.vm } : State) [] mc ms
section THC
variable {p : Program} {l : Launch} {e : Env} {R : Room} {s : State} {m : MethodId} {args : Array Value} {below : List Frame} {meth : Method} {c : Code} {H : Heap} {locs : List Loc} {cells slots : Nat} {Q : State → Prop}
variable {y : MethodName} {bytes cc : ByteArray} {maxL nL mc ms n index : Nat} {ret : Option FieldType} {ws : List Cond} {rm : Room} {Pc : Array Value → State → Prop} {Qt : Array Value → State → Addr → State → Prop} {Ts : List Cond} {own C : String} {b : Addr} {As rest : List Value} {g : JFrame}
/-- the call comes to the note over the caller's frame -/
theorem th_runV (S : CallFix p m c cc nL s args Ts own) (hM : MetFree l y (headSpec ws rm) Pc (fun _ _ _ _ _ => True) (th_Q Qt mc ms)) (cw : CallW R s args own C index y bytes maxL ret ws rm mc ms n) (hp : PreV s H C b Pc As)
    (hg : g.method = m) (hn : As.length = n) (hsize : g.locals.size = nL) (hstack : g.stack = As.reverse ++ .ref b :: rest) (hW : 2 * g.monitorRoom + (rest.map fun v => v.category).sum ≤ 8) (hdg : decode cc g.pc = .ok (.invokevirtual index, 3)) (hf : cells + mc ≤ R.cells ∧ slots + ms ≤ R.slots)
    {T : State} (hT : T.heap = H) (X : Stand p l e R s m args below meth c T locs cells slots) :
    ∃ (v : Addr) (st₀ t T' : State), st₀.heap = H ∧ Stand p l e R s m args below meth c T' locs (cells + mc) (slots + ms) ∧ T'.heap = t.heap ∧ T'.vm = t.vm ∧ s.WarmedH t.vm ∧ Qt (Value.ref b :: As).toArray st₀ v t ∧ s.WarmedH st₀.vm ∧
      (∀ q : Nat, q < H.size → t.heap[q]? = H[q]?) ∧ H.size ≤ t.heap.size ∧ Steps p.tables e below (T.setTop g) ((T'.setTop { g with stack := rest }).pushFrame (.throwing v)) := by
  obtain ⟨⟨hrc, hrs, hfr, hlo, hws, hcw, hcode, hini, hy, hlen, hl⟩, hin, hse⟩ := cw
  obtain ⟨hx, hb, hml, ho, -⟩ := S
  obtain ⟨hbl, ⟨cellB, hcB, hoB, hclB⟩, hPc⟩ := hp
  obtain ⟨mk, methM, hnamed, hmethM, hstM, habM⟩ := Cond.instanceMethod_spec hin
  obtain ⟨methM', cM, hmethM', -, -, -, -, -, -, hsigM⟩ := Cond.code_spec hnamed hcode
  cases hmethM.symm.trans hmethM'
  obtain ⟨c2, r2, m2, q1, q2, q3, q4, kP, hkP, hkPi⟩ := Cond.selects_spec hse
  cases hclB.symm.trans q1
  cases (State.methodFound?_of_named hnamed hy).symm.trans q2
  cases hnamed.symm.trans q3
  have hselP : selectMethod e.platform s.vm cellB.cls mk = .method mk := by rw [Launch.admits_selectMethod X.admits]; exact q4
  obtain ⟨vm₁, X₁, hstep₁⟩ := X.invokevirtual hx ho hl hnamed hmethM hstM hkP hkPi hy (a := b) (cell := cellB) (by rw [hT]; exact hcB)
    (fun z h => by rw [h] at hoB; cases hoB) hselP hmethM habM hkP hkPi (g := g) hg (argsL := As) (rest := rest) (by rw [hn]; exact hlen _ hsigM) hstack (by rw [hb]; exact hdg)
  have hPre := hPc (T.setVm vm₁) hT X₁.warmed
  generalize hU : T.setVm vm₁ = U at X₁ hPre
  have hUh : U.heap = H := by rw [← hU]; exact hT
  have h2 : (Cond.code y bytes maxL ret).before (Value.ref b :: As).toArray U = true := hws _ hcw _ _ X₁.warmed
  have h3 : (Cond.initialized y.cls).before (Value.ref b :: As).toArray U = true := word_at X₁.warmed (Or.inl (by first | rfl | simp [Cond.onTables, Cond.keeps, Cond.steady])) hini
  have hnU := X₁.named hnamed
  obtain ⟨methY, cY, hmY, hcY, -, hlY, -, -, -, -⟩ := Cond.code_spec hnU h2
  obtain ⟨kY, hkY, -⟩ := className_of_methodNamed hnU
  have hinitY : kY.init = .initialized := Cond.initialized_spec (findClass_of_methodNamed hnU) hkY h3
  have hgm : ({ g with stack := rest } : JFrame).method = m := hg
  have h : At U ({ g with stack := rest } : JFrame).method c below := by rw [hgm]; exact X₁.here
  have happ : (headSpec ws rm).appliesLoose y e.platform (U.calling { g with stack := rest } mk (Value.ref b :: As).toArray) = true :=
    Spec.appliesLoose_calling (g := { g with stack := rest }) h (by rw [hb]; exact hdg) hnU hkY hinitY
      (X₁.room_calling (g := { g with stack := rest }) (R' := rm) (hsize.trans hml.symm) hmY hcY hfr (by rw [hlY]; show 2 * ({ g with stack := rest } : JFrame).monitorRoom + (rest.map fun v => v.category).sum + (maxL + 11) + rm.locals ≤ R.locals; have : 2 * ({ g with stack := rest } : JFrame).monitorRoom + (rest.map fun v => v.category).sum ≤ 8 := hW; omega) (by rw [hrc]; exact hf.1) (by rw [hrs]; exact hf.2)) (atoms_intro fun w hw => hws w hw _ _ X₁.warmed)
  obtain ⟨mid, hmid⟩ := h.above
  have hfrm : (U.setTop { g with stack := rest }).frames = (.java { g with stack := rest } :: mid) ++ below := by rw [State.frames_setTop' _ h.top, hmid]; rfl
  obtain ⟨o, s₂, hsteps, -, hend, hq⟩ := Steps.callFree hM p X₁.admits X₁.cas X₁.clock (acts := []) hfrm happ (hbl _ _ _ _ hPre) trivial
  rw [State.frames_setTop' _ h.top] at hend
  have hq : th_Q Qt mc ms (Value.ref b :: As).toArray (U.calling { g with stack := rest } mk (Value.ref b :: As).toArray) o s₂ := hq
  obtain ⟨v, rfl, hqt, hW₂, e2, q2, q3, q4, q5, q6⟩ := hq
  have hW' : U.WarmedH s₂.vm := hW₂
  have hf₂ : s₂.frames = .throwing v :: .java { g with stack := rest } :: U.frames.tail := hend
  have e3 : s₂ = ({ (U.calling { g with stack := rest } mk (Value.ref b :: As).toArray).setFrames s₂.frames with heap := s₂.heap, slotsUsed := s₂.slotsUsed } : State).setVm s₂.vm := by
    have : s₂ = ({ s₂ with vm := (U.calling { g with stack := rest } mk (Value.ref b :: As).toArray).vm } : State).setVm s₂.vm := rfl
    rw [e2] at this
    exact this
  obtain ⟨g₀, hg0⟩ := Option.isSome_iff_exists.mp h.top
  obtain ⟨r, hr⟩ := State.topJava?_eq_some.mp hg0
  have hs₂ : s₂ = ((({ U with heap := s₂.heap, slotsUsed := s₂.slotsUsed } : State).setVm s₂.vm).setTop { g with stack := rest }).pushFrame (.throwing v) := by
    have hr' : (({ U with heap := s₂.heap, slotsUsed := s₂.slotsUsed } : State).setVm s₂.vm).frames = .java g₀ :: r := hr
    refine e3.trans ?_
    rw [hf₂, State.calling_eq h.top, State.setFrames_setFrames, State.pushFrame, State.frames_setTop _ hr', State.setTop_of_frames _ hr', State.setFrames_setFrames, hr]
    rfl
  have hsame : U.sameButNew ({ U with heap := s₂.heap, slotsUsed := s₂.slotsUsed } : State) [] mc ms := by
    refine ⟨?_, q2, q3, q4, q5, q6⟩
    obtain ⟨t, ht, -⟩ := State.frames_cons hr
    show ({ U with heap := s₂.heap, slotsUsed := s₂.slotsUsed } : State) = { U.setFrames U.frames with heap := s₂.heap, slotsUsed := s₂.slotsUsed }
    rw [State.setFrames_self ht]
  have hcells : ∀ q : Nat, q < H.size → s₂.heap[q]? = H[q]? := by
    intro q hq
    rw [← hUh] at hq ⊢
    obtain ⟨cl, hcl⟩ : ∃ cl, U.heap[q]? = some cl := ⟨_, Array.getElem?_eq_getElem hq⟩
    obtain ⟨c', h1, h2, h4, h5⟩ := q6 q cl hcl
    have h1 : s₂.heap[q]? = some c' := h1
    have hsl : c'.slots = cl.slots := by
      apply Array.ext_getElem?
      intro i
      exact h5 i (by simp)
    rw [h1, hcl, h2, hsl]
  have hXs := X₁.same.trans (hsame.setVm s.vm)
  rw [List.append_nil] at hXs
  refine ⟨v, U.calling { g with stack := rest } mk (Value.ref b :: As).toArray, s₂, ({ U with heap := s₂.heap, slotsUsed := s₂.slotsUsed } : State).setVm s₂.vm, hUh, ?_, rfl, rfl, State.WarmedH.trans X₁.warmed hW', hqt, X₁.warmed, hcells, by rw [← hUh]; exact q2, ?_⟩
  · subst hg
    exact ⟨X₁.admits, X₁.cas, X₁.clock, X₁.frames, X₁.room, X₁.hears, X₁.method, X₁.code, (X₁.here.setHeapUsed s₂.heap s₂.slotsUsed).setVm hW'.alike, X₁.tail, State.WarmedH.trans X₁.warmed hW', X₁.limits, X₁.bytes, hXs⟩
  · rw [← hs₂]
    exact hstep₁ _ fun acts => by rw [doInvoke_state, hU]; exact hsteps
/-- a call that throws an exception of class E, which this method's only handler takes -/
theorem th_callV {E : String} {x : ExceptionTableEntry} {pc : Nat} {ls : Array Slot} {st0 : List Value} (S : CallFix p m c cc nL s args Ts own) (hM : MetFree l y (headSpec ws rm) Pc (fun _ _ _ _ _ => True) (th_Q Qt mc ms)) (cw : CallW R s args own C index y bytes maxL ret ws rm mc ms n) (hp : PreV s H C b Pc As)
    (hn : As.length = n) (hsize : ls.size = nL) (hstack : st0 = As.reverse ++ .ref b :: rest) (hW : 2 * (F0 m pc ls st0).monitorRoom + (rest.map fun v => v.category).sum ≤ 8) (hdg : decode cc pc = .ok (.invokevirtual index, 3)) (hf : cells + mc ≤ R.cells ∧ slots + ms ≤ R.slots)
    (htab : c.exceptionTable.toList = [x]) (hcov : covers x pc = true) (hct : x.catchType ≠ 0) (hlink : (Cond.classLink own x.catchType E).before args s = true)
    (hQ : ∀ (st : State) (v : Addr) (t : State), st.heap = H → s.WarmedH st.vm → s.WarmedH t.vm → Qt (Value.ref b :: As).toArray st v t → ∃ ce : Cell, t.heap[v]? = some ce ∧ ce.vm.isStatics = false ∧ s.vm.findClass E = some ce.cls ∧ ∃ k0, s.vm.classes[ce.cls]? = some k0)
    (kk : ∀ (v : Nat) (H1 : Heap), (∀ q : Nat, q < H.size → H1[q]? = H[q]?) → H.size ≤ H1.size → W p l e R s m args below meth c H1 locs (cells + mc) (slots + ms) Q (F0 m x.handlerPc ls [.ref v])) : W p l e R s m args below meth c H locs cells slots Q (F0 m pc ls st0) := by
  intro T hT X
  obtain ⟨v, st₀, t, T', h0, X', e1, e2, hWt, hqt, hWs, hold, hsz, hsteps⟩ := th_runV (g := F0 m pc ls st0) S hM cw hp rfl hn hsize hstack hW hdg hf hT X
  obtain ⟨ce, hce, hcs, hcf, hkX⟩ := hQ st₀ v t h0 hWs hWt hqt
  have hpl : e.platform.magicAccessors = ({} : Platform).magicAccessors := by rw [X.admits.platform]
  obtain ⟨cX, hfX, hcl⟩ := Cond.classLink_spec S.2.2.2.1 hlink e.platform hpl
  cases hcf.symm.trans hfX
  obtain ⟨hg₁, hwarm₁, hready₁⟩ := State.classEntry (e := e) X'.warmed hcl
  have hsame : ∀ k : Nat, (∃ c0, s.vm.classes[k]? = some c0) → ∃ c0, (T'.vm.noted m.cls x.catchType (.cls ce.cls)).classes[k]? = some c0 := fun k ⟨c0, hc0⟩ => by
    obtain ⟨k', hk', -⟩ := hwarm₁.alike.2.2 _ _ hc0
    exact ⟨k', hk'⟩
  have hsz2 : (T'.vm.noted m.cls x.catchType (.cls ce.cls)).classes.size ≤ T'.vm.classes.size := by rw [Vm.size_noted]; exact Nat.le_refl _
  generalize hv2 : T'.vm.noted m.cls x.catchType (.cls ce.cls) = vm₂ at hg₁ hwarm₁ hready₁ hsame hsz2
  obtain ⟨t2, a1, b1⟩ := kk v T'.heap (fun q hq => by rw [e1]; exact hold q hq) (by rw [e1]; exact hsz) (T'.setVm vm₂) rfl (X'.noted hwarm₁)
  refine ⟨t2, hsteps.trans (th_caught (vm' := vm₂) (pc := x.handlerPc) (show At T' m c below from X'.here) ?_ a1), b1⟩
  intro Q' E' d acts
  have hvm : ((T'.setTop { (F0 m pc ls st0) with stack := rest }).pushFrame (.throwing v)).vm = T'.vm := Jvm.Stand.throwing_vm _ _ _
  have hhp : ((T'.setTop { (F0 m pc ls st0) with stack := rest }).pushFrame (.throwing v)).heap = T'.heap := Jvm.Stand.throwing_heap _ _ _
  refine (_root_.Jvm.W.findHandler_eq (meth := meth) (code := c) (by rw [hvm]; exact X'.method') X'.code).trans ?_
  rw [htab]
  exact th_go_cold (cell := ce) hcov hct (by rw [hvm]; exact hg₁) (by rw [hvm]; exact hsz2) (by rw [hhp, e1]; exact hce) (fun k h => by rw [h] at hcs; cases hcs) (hsame _ hkX) (hsame _ hkX) (va_asg _ _)
end THC
