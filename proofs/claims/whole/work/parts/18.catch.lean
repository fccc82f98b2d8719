/-! methods with handlers: a throw of a callee is caught; contracts and calls of such methods -/
section XCT
variable {E0 : CtlPost} {e : Env} {d : Bool} {acts : List Action} {f : JFrame} {a : Addr} {Q : Handler → Pre}
/-- one row of the table whose class may have to be linked first -/
theorem xgo1 {S : State} {x : ExceptionTableEntry} {t : List ExceptionTableEntry} {c : ClassId} {cell : Cell} (hx : covers x f.pc = true) (h0 : x.catchType ≠ 0) (hl : S.vm.ClassLinks e.platform f.method.cls x.catchType c)
    (hcell : S.heap[a]? = some cell) (hobj : ∀ k, cell.vm ≠ .statics k) (hk : ∃ k, S.vm.classes[cell.cls]? = some k) (hc : ∃ k, S.vm.classes[c]? = some k) :
    wp (findHandler.go f a (x :: t)) Q E0 e d acts S ↔ if S.vm.assignable cell.cls c = true then Q (.found x.handlerPc) d acts (S.setVm (S.vm.noted f.method.cls x.catchType (.cls c))) else wp (findHandler.go f a t) Q E0 e d acts (S.setVm (S.vm.noted f.method.cls x.catchType (.cls c))) := by
  obtain ⟨r1, r2⟩ := (resolveClass_links e.toSetting hl).op (op := VmOp.resolveClass f.method.cls x.catchType) rfl
  have al : S.vm.Alike (S.vm.noted f.method.cls x.catchType (.cls c)) := (Vm.Alike.refl S.vm).noted _ _ _
  obtain ⟨k1, hk1⟩ := hk
  obtain ⟨k2, hk2⟩ := hc
  obtain ⟨k3, hk3, -⟩ := al.2.2 _ _ hk1
  obtain ⟨k4, hk4, -⟩ := al.2.2 _ _ hk2
  have hx' : (decide (x.startPc ≤ f.pc) && decide (f.pc < x.endPc)) = true := hx
  have has := al.assignable cell.cls c
  cases hfit : S.vm.assignable cell.cls c <;> rw [hfit] at has <;>
    simp [findHandler.go, hx', h0, r1, r2, hcell, hobj, hk3, hk4, has, VmOp.dirties, VmOp.acts]
end XCT
def xpick (E : String) : List (ExceptionTableEntry × String) → Option Nat
  | [] => none
  | q :: r => if q.2 = E then some q.1.handlerPc else xpick E r
/-- the search through rows that all cover the pc, each of a class that the tables link, up to the row that names the thrown object's class -/
theorem xgo {e : Env} {s : State} {args : Array Value} {f : JFrame} {a : Addr} {cell : Cell} {own E : String} (hpl : e.platform.magicAccessors = ({} : Platform).magicAccessors) (hown : s.vm.findClass own = some f.method.cls) (hE : s.vm.findClass E = some cell.cls) (hobj : ∀ k, cell.vm ≠ .statics k) (hself : (Cond.castable E E).before #[] s = true) :
    ∀ (rows : List (ExceptionTableEntry × String)) (hd : Nat), (∀ q ∈ rows, covers q.1 f.pc = true ∧ q.1.catchType ≠ 0 ∧ (Cond.classLink own q.1.catchType q.2).before args s = true ∧ (q.2 ≠ E → (Cond.castable E q.2).before #[] s = false)) → xpick E rows = some hd →
      ∀ S : State, s.WarmedH S.vm → S.heap[a]? = some cell → ∃ vm', s.WarmedH vm' ∧ ∀ (Q : Handler → Pre) (E0 : CtlPost) (d : Bool) (acts : List Action), wp (findHandler.go f a (rows.map (·.1))) Q E0 e d acts S ↔ Q (.found hd) d acts (S.setVm vm') := by
  obtain ⟨k0, hk0⟩ := Vm.classAt_of_findClass hE
  intro rows
  induction rows with
  | nil => intro hd _ hp; cases hp
  | cons q r ih =>
    intro hd hall hp S hW hcell
    obtain ⟨q1, q2, q3, q4⟩ := hall q List.mem_cons_self
    obtain ⟨c', hc', hcl⟩ := Cond.classLink_spec hown q3 e.platform hpl
    obtain ⟨dk, _, _, kt, hd1, _, _, _, _, hkt, _, hopen⟩ := hcl.here
    obtain ⟨k0', hk0', -⟩ := hW.alike.2.2 _ _ hk0
    obtain ⟨kt', hkt', -⟩ := hW.alike.2.2 _ _ hkt
    have hW2 := hW.noted hd1 hopen (State.rightAt_cls hcl)
    have step := fun (Q : Handler → Pre) (E0 : CtlPost) (d : Bool) (acts : List Action) => xgo1 (Q := Q) (E0 := E0) (d := d) (acts := acts) (t := r.map (·.1)) q1 q2 (hW.classLinks hcl) hcell hobj ⟨k0', hk0'⟩ ⟨kt', hkt'⟩
    have has : S.vm.assignable cell.cls c' = s.vm.assignable cell.cls c' := hW.alike.assignable _ _
    by_cases hq : q.2 = E
    · have hcast : s.vm.assignable cell.cls c' = true := by
        rw [hq] at hc'
        have hcc : c' = cell.cls := Option.some.inj (hc'.symm.trans hE)
        have h1 := hself
        simp only [Cond.before, Cond.holds, Cond.value, hE] at h1
        rw [hcc]
        simpa using h1
      have hhd : q.1.handlerPc = hd := by
        have h1 : (if q.2 = E then some q.1.handlerPc else xpick E r) = some hd := hp
        rw [if_pos hq] at h1
        exact Option.some.inj h1
      refine ⟨_, hW2, fun Q E0 d acts => ?_⟩
      rw [List.map_cons, step, if_pos (by rw [has]; exact hcast), hhd]
    · have hcast : s.vm.assignable cell.cls c' = false := by
        have h1 := q4 hq
        simp only [Cond.before, Cond.holds, Cond.value, hE, hc'] at h1
        simpa using h1
      have hp' : xpick E r = some hd := by
        have h1 : (if q.2 = E then some q.1.handlerPc else xpick E r) = some hd := hp
        rw [if_neg hq] at h1
        exact h1
      obtain ⟨vm', hW', hv⟩ := ih hd (fun z hz => hall z (List.mem_cons_of_mem _ hz)) hp' (S.setVm (S.vm.noted f.method.cls q.1.catchType (.cls c'))) hW2 hcell
      refine ⟨vm', hW', fun Q E0 d acts => ?_⟩
      rw [List.map_cons, step, if_neg (by rw [has, hcast]; decide)]
      exact hv Q E0 d acts
section XCS
variable {p : Program} {l : Launch} {e : Env} {R : Room} {s : State} {m : MethodId} {args : Array Value} {below : List Frame} {meth : Method} {c : Code} {T : State} {locs : List Loc} {cells slots : Nat}
/-- into the handler -/
theorem xcaught (X : Stand p l e R s m args below meth c T locs cells slots) {g : JFrame} (hg : g.method = m) {a : Addr} {vm' : Vm} {hd : Nat} (hW' : s.WarmedH vm')
    (hfind : ∀ (Q : Handler → Pre) (E0 : CtlPost) (d : Bool) (acts : List Action), wp (findHandler g a) Q E0 e d acts ((T.setTop g).pushFrame (.throwing a)) ↔ Q (.found hd) d acts (((T.setTop g).pushFrame (.throwing a)).setVm vm')) :
    Stand p l e R s m args below meth c (T.setVm vm') locs cells slots ∧ ∀ tg, Steps p.tables e below ((T.setVm vm').setTop { g with pc := hd, stack := [.ref a] }) tg → Steps p.tables e below ((T.setTop g).pushFrame (.throwing a)) tg := by
  refine ⟨X.noted hW', fun tg hrest => ?_⟩
  have h : At T g.method c below := by rw [hg]; exact X.here
  obtain ⟨hgo, hw⟩ := h.throwing a
  refine Steps.head hgo hw ?_
  have hstep : (stepThrowing e ((T.setTop g).pushFrame (.throwing a)) a (.java g :: T.frames.tail)).1 = (((T.setTop g).pushFrame (.throwing a)).setVm vm').setFrames (.java { g with pc := hd, stack := [.ref a] } :: T.frames.tail) := by
    simp only [stepThrowing, searchFrame, vmDo]
    generalize hr : Sem.go _ e false [] ((T.setTop g).pushFrame (.throwing a)) = res
    obtain ⟨as, rfl, -⟩ := Sem.eq_ok_of hr (a := Handler.found hd) (s' := ((T.setTop g).pushFrame (.throwing a)).setVm vm') (acts' := []) (by simp [hfind _ _ _ _])
    rfl
  rw [stepThread_throwing (frames_entered h.top _), hstep]
  obtain ⟨g₀, hg0⟩ := X.frames_eq
  have hr' : (T.setVm vm').frames = .java g₀ :: below := hg0
  have e1 : (((T.setTop g).pushFrame (.throwing a)).setVm vm').setFrames (.java { g with pc := hd, stack := [.ref a] } :: T.frames.tail) = (T.setVm vm').setTop { g with pc := hd, stack := [.ref a] } := by
    rw [State.setTop_of_frames _ hr', X.tail, State.pushFrame, State.setTop_of_frames _ hg0]
    have h1 : ∀ (u : State) (F G : List Frame), ((u.setFrames F).setVm vm').setFrames G = (u.setVm vm').setFrames G := fun u F G => by
      show ((u.setVm vm').setFrames F).setFrames G = _
      rw [State.setFrames_setFrames]
    rw [h1, h1]
  rw [e1]
  exact hrest
end XCS
/-! contracts of methods with handlers -/
section XHM
variable {p : Program} {l : Launch} {e : Env} {R : Room} {s : State} {m : MethodId} {args : Array Value} {below : List Frame} {meth : Method} {c : Code} {T : State} {H : Heap} {locs : List Loc} {cells slots : Nat}
variable {y : MethodName} {rm : Room} {Pc : Array Value → State → Prop} {Qc : Array Value → State → Outcome → State → Prop} {mc ms : Nat} {free : Addr → Prop} {cc bytes : ByteArray} {maxL : Nat} {ret : Option FieldType} {hs : List (Nat × Nat × Nat × Nat)}
theorem xMet.ofWH (hy : plainName y.cls = true)
    (body : ∀ p e s m args below meth c s₁, BodyLoose p l y (headSpec [Cond.codeWith y cc maxL ret hs] rm) cc maxL ret e s m args below meth c s₁ → c.maxLocals = maxL → c.exceptionTable.toList = tableOf hs → Pc args s →
      W p l e rm s m args below meth c s.heap [] 0 0 (xMQ below Qc args s mc ms free) (entryFrame m args maxL)) : xMet l y [Cond.codeWith y cc maxL ret hs] rm Pc Qc mc ms free := by
  refine MetFree.of_bodyS (code := cc) (maxLocals := maxL) (ret := ret) hy ?_ ?_
  · intro args s m h hn
    obtain ⟨m', meth, c, h0, h1, h2, h3, h4, -, h5, h6, -⟩ := Cond.codeWith_spec (atoms_spec (ws := [Cond.codeWith y cc maxL ret hs]) h _ List.mem_cons_self)
    cases hn.symm.trans h0
    exact ⟨meth, c, h1, h2, h3, h4, h5, h6⟩
  · intro p e s m args below meth c s₁ B hml hP _
    have hh0 : s₁.heap = s.heap := by rw [B.state]; rfl
    have St := Stand.of_body B
    have htab : c.exceptionTable.toList = tableOf hs := by
      obtain ⟨m', meth', c', h0, h1, h2, -, -, h5, -⟩ := Cond.codeWith_spec (atoms_spec (ws := [Cond.codeWith y cc maxL ret hs]) B.pre _ List.mem_cons_self)
      cases B.named.symm.trans h0
      cases B.method.symm.trans h1
      cases St.code.symm.trans h2
      rw [← h5, table_eq]
    obtain ⟨t, a1, o, b1, b2, b3⟩ := body p e s m args below meth c s₁ B hml htab hP s₁ hh0 St
    exact ⟨t, o, a1, b1, b2, ⟨b3.1, b3.2⟩⟩
/-- a static call of such a method: it comes back (none of them throws) -/
theorem xcallSH (X : Stand p l e R s m args below meth c T locs cells slots) (hexec : p.tables.exec = Jvm.exec) (hM : xMet l y [Cond.codeWith y bytes maxL ret hs] rm Pc Qc mc ms free) (hbl : FrameBlind Pc)
    (cb : rm.cells = mc ∧ rm.slots = ms ∧ rm.frames + 1 ≤ R.frames ∧ 8 + (maxL + 11) + rm.locals ≤ R.locals) (hcw : ∀ (a' : Array Value) (U : State), s.WarmedH U.vm → (Cond.codeWith y bytes maxL ret hs).before a' U = true) (hini : ∀ (a' : Array Value) (U : State), s.WarmedH U.vm → (Cond.initialized y.cls).before a' U = true)
    {own : String} {index : Nat} (hown : s.vm.findClass own = some m.cls) (hlink : (Cond.methodLink own index y).before args s = true) (hstat : (Cond.static y).before args s = true)
    (hy : y.cls ≠ "java/lang/invoke/MethodHandle" ∧ y.cls ≠ "java/lang/invoke/VarHandle")
    {g : JFrame} (hg : g.method = m) (hsize : g.locals.size = c.maxLocals) {argsL rest : List Value} (hlen : ∀ sig, parseMethodDescriptor y.desc = some sig → argsL.length = sig.parameters.length)
    (hstack : g.stack = argsL.reverse ++ rest) (hW : 2 * g.monitorRoom + (rest.map fun v => v.category).sum ≤ 8) (hdg : decode c.code g.pc = .ok (.invokestatic index, 3)) (hc : cells + mc ≤ R.cells) (hss : slots + ms ≤ R.slots)
    (hP : ∀ U : State, U.heap = T.heap → s.WarmedH U.vm → Pc argsL.toArray U) : xRun p l e R s m args below meth c T locs cells slots mc ms g rest (Qc argsL.toArray) free := by
  obtain ⟨mk, methM, cM, hnamed, hmethM, hcM, -, hlM, -, -, -, hsigM⟩ := Cond.codeWith_spec (hcw args s (State.WarmedH.refl s))
  have hstatic : methM.isStatic = true := Cond.static_spec hnamed hmethM hstat
  obtain ⟨kP, hkP, -⟩ := className_of_methodNamed hnamed
  have hinitP : kP.init = .initialized := Cond.initialized_spec (findClass_of_methodNamed hnamed) hkP (hini args s (State.WarmedH.refl s))
  obtain ⟨vm₁, X₁, hstep₁⟩ := X.invokestatic hexec hown hlink hnamed hmethM hstatic hkP hinitP hy (g := g) hg (argsL := argsL) (rest := rest) (hlen _ hsigM) hstack hdg
  have hn₁ := X₁.named hnamed
  have hP₁ := hP (T.setVm vm₁) rfl X₁.warmed
  obtain ⟨mk', methY, cY, hnY, hmY, hcY, -, hlY, -⟩ := Cond.codeWith_spec (hcw argsL.toArray (T.setVm vm₁) X₁.warmed)
  cases hn₁.symm.trans hnY
  obtain ⟨kY, hkY, -⟩ := className_of_methodNamed hn₁
  have hinitY : kY.init = .initialized := Cond.initialized_spec (findClass_of_methodNamed hn₁) hkY (hini argsL.toArray (T.setVm vm₁) X₁.warmed)
  have h : At (T.setVm vm₁) g.method c below := by rw [hg]; exact X₁.here
  have happ : (headSpec [Cond.codeWith y bytes maxL ret hs] rm).appliesLoose y e.platform ((T.setVm vm₁).calling { g with stack := rest } mk argsL.toArray) = true :=
    Spec.appliesLoose_calling (g := { g with stack := rest }) h hdg hn₁ hkY hinitY
      (X₁.room_calling (g := { g with stack := rest }) (R' := (headSpec [Cond.codeWith y bytes maxL ret hs] rm).room) hsize hmY hcY cb.2.2.1 (by rw [hlY]; show _ + rm.locals ≤ _; have := cb.2.2.2; show 2 * g.monitorRoom + (rest.map fun v => v.category).sum + (maxL + 11) + rm.locals ≤ R.locals; omega) (by show _ + rm.cells ≤ _; rw [cb.1]; exact hc) (by show _ + rm.slots ≤ _; rw [cb.2.1]; exact hss)) (atoms_intro fun w hw => by rw [List.mem_singleton.mp hw]; exact hcw _ _ X₁.warmed)
  obtain ⟨mid, hmid⟩ := h.above
  have hfr2 : ((T.setVm vm₁).setTop { g with stack := rest }).frames = (.java { g with stack := rest } :: mid) ++ below := by rw [State.frames_setTop' _ h.top, hmid]; rfl
  obtain ⟨o, t, hsteps, -, hend, hq, L, ⟨hWt, hsame⟩, hL⟩ := Steps.callFree hM p X₁.admits X₁.cas X₁.clock (acts := []) hfr2 happ (hbl _ _ _ _ hP₁) trivial
  rw [State.frames_setTop' _ h.top, X₁.tail] at hend
  refine ⟨o, (T.setVm vm₁).calling { g with stack := rest } mk argsL.toArray, t, ?_⟩
  cases o with
  | returned v =>
    obtain ⟨T', X', hW', hs', ht⟩ := X₁.outOf (g := { g with stack := rest }) hg hdg (mk := mk) (a := argsL.toArray) hend hWt hsame
    refine ⟨T', L, rfl, X', hL, by rw [ht]; rfl, by rw [ht]; rfl, hq, Or.inl ⟨v, rfl, fun tg htg => hstep₁ _ fun acts => ?_⟩⟩
    rw [doInvoke_state]
    rw [ht] at hsteps
    exact hsteps.trans htg
  | threw x =>
    obtain ⟨T', X', hW', hs', ht⟩ := X₁.outOfThrown (g := { g with stack := rest }) hg (mk := mk) (a := argsL.toArray) hend hWt hsame
    refine ⟨T', L, rfl, X', hL, by rw [ht]; rfl, by rw [ht]; rfl, hq, Or.inr ⟨x, rfl, fun tg htg => hstep₁ _ fun acts => ?_⟩⟩
    rw [doInvoke_state]
    rw [ht] at hsteps
    exact hsteps.trans htg
end XHM
theorem x_contractH {l : Launch} {y : MethodName} {bytes : ByteArray} {maxL : Nat} {ret : Option FieldType} {hs : List (Nat × Nat × Nat × Nat)} {rm : Room} {As : (Nat → Nat) → List Value} {g g' : xSt} {ov : Option Value ⊕ String} {mc ms : Nat} (hy : plainName y.cls = true) (hn : ∀ ad, (lg_sl (As ad)).length ≤ maxL)
    (body : ∀ (p : Program) (e : Env) (s : State) (m : MethodId) (below : List Frame) (meth : Method) (c : Code) (D : va_G) (ad : Nat → Nat) (ca : Nat → ClassId), xX p s m (As ad).toArray meth c bytes y.cls maxL ret D ad ca → c.exceptionTable.toList = tableOf hs →
      xV p l e rm s m (As ad).toArray below meth c D xcl (wX ad ca) (xA (wX ad ca) s.heap.size) maxL 0 0 (xMQ below (xQ D xcl (wX ad ca) (xA (wX ad ca) s.heap.size) ov g') (As ad).toArray s mc ms (xA (wX ad ca) s.heap.size)) g 0 (lv_args 0 (As ad)) []) :
    xM l y (.codeWith y bytes maxL ret hs) rm As g ov g' mc ms := by
  intro D ad ca sz
  refine xMet.ofWH (cc := bytes) (maxL := maxL) (ret := ret) (hs := hs) hy ?_
  intro p e s m args below meth c s₁ B hml htab hv
  obtain ⟨rfl, hsz, hP, hK, hD, hE⟩ := hv
  subst hsz
  have hown : s.vm.findClass y.cls = some m.cls := findClass_of_methodNamed B.named
  exact x_start (body p e s m below meth c D ad ca ⟨⟨B.exec, B.bytes, hml, hown, fun q hq => hE.1 _ q hq, hK, x_D hD _, fun q h => Or.inr h⟩, hE, B.returns, B.notSynchronized, xNS_of hP⟩ htab) hP (hn ad)
section XVH
variable {p : Program} {l : Launch} {e : Env} {R : Room} {s : State} {m : MethodId} {args : Array Value} {below : List Frame} {meth : Method} {c : Code} {D : va_G} {ad : Nat → Nat} {ca : Nat → ClassId} {nL cells slots : Nat} {Q : State → Prop}
variable {cc : ByteArray} {own : String} {g g' : xSt} {pc mc ms : Nat} {lv lv' : List (Nat × Value)} {stk rest : List Value} {E : String} {rt : Option FieldType} {a : Array Value}
/-- a call that throws, caught here -/
theorem v_catch (X : xX p s m args meth c cc own nL rt D ad ca)
    (run : ∀ (T : State) (locs : List Loc) (ls : Array Slot), va_P D xcl (wX ad ca g) T.heap → va_S (xA (wX ad ca) s.heap.size) s.heap T.heap locs → ls.size = nL → Stand p l e R s m args below meth c T locs cells slots → xRun p l e R s m args below meth c T locs cells slots mc ms (F0 m pc ls stk) rest (xQ D xcl (wX ad ca) (xA (wX ad ca) T.heap.size) (.inr E) g' a) (xA (wX ad ca) T.heap.size))
    (rows : List (ExceptionTableEntry × String)) (htab : c.exceptionTable.toList = rows.map (·.1)) {hd : Nat} (hp : xpick E rows = some hd) (hEx : E ∈ xex) (hself : Cond.castable E E ∈ xT)
    (hrows : ∀ q ∈ rows, covers q.1 pc = true ∧ q.1.catchType ≠ 0 ∧ Cond.classLink own q.1.catchType q.2 ∈ xT ∧ q.2 ∈ xex)
    (k : ∀ b : Nat, xV p l e R s m args below meth c D xcl (wX ad ca) (xA (wX ad ca) s.heap.size) nL (cells + mc) (slots + ms) Q g' hd lv [.ref b]) : xV p l e R s m args below meth c D xcl (wX ad ca) (xA (wX ad ca) s.heap.size) nL cells slots Q g pc lv stk := by
  intro H locs ls hP hS hl T hT St
  subst hT
  obtain ⟨o, st₀, t, T', L, h0, X', hL, e1, e2, ⟨ho, hP', hF⟩, hst⟩ := run T locs ls hP hS hl.1 St
  obtain ⟨x, ho, hx, ce, c1, c2, c3⟩ : ∃ x : Addr, o = .threw x ∧ st₀.heap.size ≤ x ∧ xTh E t x := ho
  rcases hst with ⟨v', hv', h⟩ | ⟨x', hx', h⟩
  · have := hv'.symm.trans ho
    cases this
  · have hxx : x' = x := by have := hx'.symm.trans ho; cases this; rfl
    subst hxx
    have hpl : e.platform.magicAccessors = ({} : Platform).magicAccessors := by rw [St.admits.platform]
    have hE : s.vm.findClass E = some ce.cls := by rw [← c2, ← e2, X'.warmed.alike.findClass]
    obtain ⟨vm', hW', hgo⟩ := xgo (e := e) (s := s) (args := args) (f := { F0 m pc ls stk with stack := rest }) (a := x') (cell := ce) (own := own) (E := E) hpl X.1.2.2.2.1 hE (fun k hk => by rw [c3] at hk; cases hk) (X.2.1.1 _ _ hself) rows hd
      (fun q hq => ⟨(hrows q hq).1, (hrows q hq).2.1, X.2.1.1 _ _ (hrows q hq).2.2.1, fun hne => X.2.1.2.2.1 E hEx q.2 (hrows q hq).2.2.2 (fun z => hne z.symm)⟩) hp ((T'.setTop { F0 m pc ls stk with stack := rest }).pushFrame (.throwing x')) (by rw [Stand.throwing_vm]; exact X'.warmed) (by rw [Stand.throwing_heap, e1]; exact c1)
    obtain ⟨X'', hcat⟩ := xcaught X' (g := { F0 m pc ls stk with stack := rest }) rfl (a := x') hW' (hd := hd) (fun Q E0 d acts => by
      rw [W.findHandler_eq (meth := meth) (code := c) (by rw [Stand.throwing_vm]; exact X'.method') X'.code, htab]
      exact hgo Q E0 d acts)
    have hS' := xS_call X.1 hS h0 hF hL
    obtain ⟨t2, a1, b1⟩ := k x' T'.heap (locs ++ L) ls (by rw [e1]; exact hP') (by rw [e1]; exact hS') hl (T'.setVm vm') rfl X''
    exact ⟨t2, h t2 (hcat t2 a1), b1⟩
end XVH
