/-! THE CLAIM OUT OF ONE WALK OF THE LAW'S BODY. Your part is whole_start (and what it stands on); all else here is the same for every law, but numbers. -/
def R_law : String := "PartGraphsLaw"
def lw_P (b : Addr) (xs : List Int32) (args : Array Value) (s : State) : Prop := args = #[.ref b] ∧ s.IntsAt b xs ∧ xs.length ≤ 2048 ∧ (Jvm.Cond.and given_1 narrow_1).before args s = true
def lw_Q (_ : Array Value) (s : State) (o : Outcome) (t : State) : Prop := o = .returned (some (.int 1)) ∧ Framed s o t [] 601024 7293034
def lw_Z (below : List Frame) (a : Array Value) (s : State) : State → Prop := fun t => ∃ o, t.status = .running ∧ Ended t below o ∧ lw_Q a s o t
/-- the law's own end, with 1 on the stack, nothing written that was there before, its room as the claim has it -/
theorem lw_ret {p : Program} {l : Launch} {e : Env} {s : State} {m : MethodId} {below : List Frame} {meth : Method} {c : Code} {b : Nat} (hx : p.tables.exec = Jvm.exec) (hb : c.code = code) (hr : meth.sig.returnType = ret) (hlocks : meth.locks = false) {pc : Nat} {H : Heap} {ls : Array Slot} (hdg : decode code pc = .ok (.ireturn, 1)) : W p l e room_1 s m #[Value.ref b] below meth c H [] 601024 7293034 (lw_Z below #[Value.ref b] s) (F0 m pc ls [.int 1]) := by
  intro T hT X
  obtain ⟨fs, hret, hrun, hended, hW, hframe⟩ := X.leave (v := some (.int 1)) (hlocks := hlocks) (fun h => by rw [hr] at h; cases h)
  have hmeth' : T.vm.method? m = some meth := X.method'
  refine ⟨T.setFrames fs, ?_, .returned (some (.int 1)), hrun, hended, rfl, ⟨_, rfl⟩, hW, hframe⟩
  jvm_step X.here [X.here.top, hx, hb, hdg, hmeth', hr, ret, narrow_b1]
  (try refine ⟨rfl, ?_⟩); (try refine ⟨rfl, ?_⟩)
  first | (intro acts; rw [hret _ acts rfl rfl rfl]) | rw [hret _ _ rfl rfl rfl]
  exact Steps.refl _
/-- what holds at the law's entry: the machine, the code, the tables' words (any of lw_tbl by 'hts w (by decide +kernel)'), the script of L ints xs at the cell b, what the Statement gives of the start (any of its parts by flat_of_before) -/
def lw_At (p : Program) (s : State) (m : MethodId) (meth : Method) (c : Code) (b L : Nat) (xs : Nat → Int32) : Prop :=
  p.tables.exec = Jvm.exec ∧ c.code = code ∧ meth.sig.returnType = ret ∧ c.maxLocals = 8 ∧ s.vm.findClass R_law = some m.cls ∧ (∀ w ∈ lw_tbl, w.before #[Value.ref b] s = true) ∧ va_X b L xs s s.heap ∧ b < s.heap.size ∧ meth.locks = false ∧ (Jvm.Cond.and given_1 narrow_1).before #[Value.ref b] s = true
theorem th_runSW {p : Program} {l : Launch} {e : Env} {R : Room} {s : State} {m : MethodId} {args : Array Value} {below : List Frame} {meth : Method} {c : Code} {H : Heap} {locs : List Loc} {cells slots : Nat} {y : MethodName} {bytes cc : ByteArray} {maxL nL mc ms n index : Nat} {ret : Option FieldType} {hh : List (Nat × Nat × Nat × Nat)} {ws ws' : List Cond} {rm : Room} {Pc : Array Value → State → Prop} {Qc : Array Value → State → Outcome → State → Prop} {free : Addr → Prop} {Ts : List Cond} {own : String} {As rest : List Value} {g : JFrame}
    (S : CallFix p m c cc nL s args Ts own) (hM : Met l y ws rm Pc Qc mc ms free) (hT : GoodIn Ts (va_wsS own index y ws)) (hw : ws = Cond.codeWith y bytes maxL ret hh :: ws') (hrc : rm.cells = mc) (hrs : rm.slots = ms)
    (hd : y.cls ≠ "java/lang/invoke/MethodHandle" ∧ y.cls ≠ "java/lang/invoke/VarHandle" ∧ (parseMethodDescriptor y.desc).map (fun d => d.parameters.length) = some n) (hR : rm.frames + 1 ≤ R.frames ∧ 8 + (maxL + 11) + rm.locals ≤ R.locals) (hp : PreS s H Pc As)
    (hg : g.method = m) (hn : As.length = n) (hsize : g.locals.size = nL) (hstack : g.stack = As.reverse ++ rest) (hW : 2 * g.monitorRoom + (rest.map fun v => v.category).sum ≤ 8) (hdg : decode cc g.pc = .ok (.invokestatic index, 3)) (hf : cells + mc ≤ R.cells ∧ slots + ms ≤ R.slots) :
    va_Run p l e R s m args below meth c H locs cells slots mc ms g rest (Qc As.toArray) free := by
  obtain ⟨hx, hb, hml, ho, ht⟩ := S
  have ok : ∀ w ∈ va_wsS own index y ws, w.before args s = true := fun w h => ht w (hT w h).1
  have hG : GoodIn Ts ws := fun w h => hT w (by unfold va_wsS; exact List.mem_append_right _ h)
  have hmem : Cond.codeWith y bytes maxL ret hh ∈ ws := by rw [hw]; exact List.mem_cons_self
  have hini : (Cond.initialized y.cls).before args s = true := ok _ (by simp [va_wsS])
  have hstt : (Cond.static y).before args s = true := ok _ (by simp [va_wsS])
  have hlk : (Cond.methodLink own index y).before args s = true := ok _ (by simp [va_wsS])
  have hcode : (Cond.codeWith y bytes maxL ret hh).before args s = true := ht _ (hG _ hmem).1
  have hK : Back l R p e below s args y 3 8 (PreOf R mc ms Pc) (PostOf Qc mc ms free) := va_backW (hh := hh) (bytes := bytes) (maxL := maxL) (ret := ret) hM hp.1 hrc hrs hR.1 hR.2 (pay_in ht hG) hmem (fun a' U hW => word_at hW (Or.inl (by first | rfl | simp [Cond.onTables, Cond.keeps, Cond.steady])) hini)
  intro T hT9 X
  obtain ⟨mk, methM, cM, hnamed, hmethM, -, -, -, -, -, -, hsigM⟩ := Cond.codeWith_spec hcode
  have hstatic : methM.isStatic = true := Cond.static_spec hnamed hmethM hstt
  obtain ⟨kP, hkP, -⟩ := className_of_methodNamed hnamed
  have hinitP : kP.init = .initialized := Cond.initialized_spec (findClass_of_methodNamed hnamed) hkP hini
  have hlen : As.length = methM.sig.parameters.length := by
    have h2 := hd.2.2
    rw [hsigM] at h2
    exact hn.trans (Option.some.inj h2).symm
  obtain ⟨vm₁, X₁, hstep₁⟩ := X.invokestatic hx ho hlk hnamed hmethM hstatic hkP hinitP ⟨hd.1, hd.2.1⟩ (g := g) hg (argsL := As) (rest := rest) hlen hstack (by rw [hb]; exact hdg)
  obtain ⟨v, ⟨U', l2, c2, s2⟩, X', ⟨g', mk2, t, L, e1, e2, hq, h1, hL, h2, h3⟩, hsteps⟩ := hK m meth c ⟨T.setVm vm₁, locs, cells, slots⟩ { g with stack := rest } (.invokestatic index) mk As.toArray X₁ hg (hsize.trans hml.symm) (by rw [hb]; exact hdg) hW (X₁.named hnamed) ⟨hf.1, hf.2, hp.2 (T.setVm vm₁) hT9 X₁.warmed⟩
  dsimp only [Pt.U, Pt.locs, Pt.cells, Pt.slots] at X' e1 e2 h1 h2 h3 hsteps
  subst h1; subst h2; subst h3
  exact ⟨v, (T.setVm vm₁).calling g' mk2 As.toArray, t, U', L, hT9, X', hL, e1, e2, hq, fun target h => hstep₁ _ fun acts => by rw [doInvoke_state]; exact hsteps.trans h⟩
theorem mPreST {s : State} {D : va_G} {cs : Nat → ClassId} {ev : Nat → Nat → Nat} {A : Nat → Prop} {H : Heap} {locs : List Loc} {ws wc : va_W} {As : List Value} (hP : va_P D vwCl ws H) (hD : va_D A ws) (hS : va_S A s.heap H locs) (hK : va_K D vwCl (tyS cs) s) (hE : EV ev A s s.heap) (hTV : TV A s s.heap) (hF : ∀ q, va_A wc H.size q → A q) (is : List Nat) (hn : va_nd is = true) (hs : is.map (fun i => ws[i]?) = wc.map some) : PreS s H (va_Pc As (fun U => mPre D cs ev wc H.size U ∧ TV (va_A wc H.size) U U.heap)) As := by
  refine ⟨?_, fun U hU hW => ⟨rfl, ((mPreS (As := As) hP hD hS hK hE hF is hn hs).2 U hU hW).2, hTV.step hS hF hU hW⟩⟩
  intro a U g mk q
  exact ⟨q.1, (mPre.blind (av := As) a U g mk ⟨q.1, q.2.1⟩).2, q.2.2.calling⟩
/-- the law's place b, its script and what it stands on are fixed: at the loop's head, i ints read -/
def law_A (p : Program) (l : Launch) (e : Env) (s : State) (m : MethodId) (below : List Frame) (meth : Method) (c : Code) (b : Nat) (D : va_G) (cs : Nat → ClassId) (i : Nat) (txR : Nat → Int32) (nuR : Nat → Int32) (lnR : Int32) (bgR : Int32) (enR : Int32) (lfT : Int32) (foT : Int32) (kdP : Nat → Int32) (grP : Nat → Int64) (cvP : Nat → Int32) (brP : Nat → Int32) (hzP : Nat → Int32) (fmP : Nat → Int32) (dmP : Nat → Int32) (e1P : Nat → Int32) (e2P : Nat → Int32) (fkP : Nat → Int32) (pnP : Int32) (fnP : Int32) (kdQ : Nat → Int32) (grQ : Nat → Int64) (cvQ : Nat → Int32) (brQ : Nat → Int32) (hzQ : Nat → Int32) (fmQ : Nat → Int32) (dmQ : Nat → Int32) (e1Q : Nat → Int32) (e2Q : Nat → Int32) (fkQ : Nat → Int32) (pnQ : Int32) (fnQ : Int32) (mpM : Nat → Int32) (mkM : Nat → Int32) (mgM : Nat → Int32) (mcM : Nat → Int32) (mwM : Nat → Int32) (mfM : Nat → Int32) (mtM : Nat → Int32) (mhM : Nat → Int32) (mmM : Nat → Int32) (mdM : Nat → Int32) (mxM : Nat → Int32) (mnM : Nat → Int32) (szM : Int32) (faM : Int32) (apM : Int32) (waM : Int32) (wrM : Int32) (fuM : Int32) (ouO : Nat → Int64) : Prop := ∀ (adG adR adT adP adQ adM adO : Nat → Nat) (H : Heap) (locs : List Loc), va_P D vwCl (sh_G cs adG (adR 0) (adT 0) (adP 0) (adQ 0) ++ sh_R cs adR txR nuR lnR bgR enR ++ sh_T cs adT lfT foT ++ sh_P cs adP kdP grP cvP brP hzP fmP dmP e1P e2P fkP pnP fnP ++ sh_P cs adQ kdQ grQ cvQ brQ hzQ fmQ dmQ e1Q e2Q fkQ pnQ fnQ ++ sh_M cs adM mpM mkM mgM mcM mwM mfM mtM mhM mmM mdM mxM mnM szM faM apM waM wrM fuM ++ sh_O cs adO ouO) H → va_D (fun q : Nat => s.heap.size ≤ q) (sh_G cs adG (adR 0) (adT 0) (adP 0) (adQ 0) ++ sh_R cs adR txR nuR lnR bgR enR ++ sh_T cs adT lfT foT ++ sh_P cs adP kdP grP cvP brP hzP fmP dmP e1P e2P fkP pnP fnP ++ sh_P cs adQ kdQ grQ cvQ brQ hzQ fmQ dmQ e1Q e2Q fkQ pnQ fnQ ++ sh_M cs adM mpM mkM mgM mcM mwM mfM mtM mhM mmM mdM mxM mnM szM faM apM waM wrM fuM ++ sh_O cs adO ouO) → va_S (fun q : Nat => s.heap.size ≤ q) s.heap H locs → ∀ ls : Array Slot, lv_has ls 8 [(0, .ref b), (1, .ref (adG 0)), (2, .ref (adM 0)), (3, .ref (adO 0)), (4, .int (nI i))] → W p l e room_1 s m #[Value.ref b] below meth c H locs (100 + i) (20000 + 6 * i) (lw_Z below #[Value.ref b] s) (F0 m 23 ls [])
