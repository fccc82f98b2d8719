/-! THE CALCULUS: contracts that may throw; states as register files; one row an instruction, goal first -/
/-- what a method's end leaves, returned or thrown -/
def xFr (first t : State) (L : List Loc) (k n : Nat) : Prop := first.WarmedH t.vm ∧ first.sameButNew ({ t with vm := first.vm } : State) L k n
/-- a contract whose end may be a throw -/
def xMet (l : Launch) (y : MethodName) (ws : List Cond) (rm : Room) (Pc : Array Value → State → Prop) (Qc : Array Value → State → Outcome → State → Prop) (mc ms : Nat) (free : Addr → Prop) : Prop :=
  MetFree l y (headSpec ws rm) Pc (fun _ _ _ _ _ => True) (fun a st o t => Qc a st o t ∧ ∃ L, xFr st t L mc ms ∧ ∀ q ∈ L, free q.base)
def xMQ (below : List Frame) (Qc : Array Value → State → Outcome → State → Prop) (a : Array Value) (s : State) (mc ms : Nat) (free : Addr → Prop) : State → Prop := fun t =>
  ∃ o, t.status = .running ∧ Ended t below o ∧ Qc a s o t ∧ ∃ L, xFr s t L mc ms ∧ ∀ q ∈ L, free q.base
section XM
variable {p : Program} {l : Launch} {e : Env} {R : Room} {s : State} {m : MethodId} {args : Array Value} {below : List Frame} {meth : Method} {c : Code} {T : State} {H : Heap} {locs : List Loc} {cells slots : Nat}
variable {y : MethodName} {ws ws' : List Cond} {rm : Room} {Pc : Array Value → State → Prop} {Qc : Array Value → State → Outcome → State → Prop} {mc ms : Nat} {free : Addr → Prop} {cc bytes : ByteArray} {maxL : Nat} {ret : Option FieldType}
theorem xMet.ofW (hy : plainName y.cls = true) (hw : ws = Cond.code y cc maxL ret :: ws')
    (body : ∀ p e s m args below meth c s₁, BodyLoose p l y (headSpec ws rm) cc maxL ret e s m args below meth c s₁ → c.maxLocals = maxL → Pc args s →
      W p l e (headSpec ws rm).room s m args below meth c s.heap [] 0 0 (xMQ below Qc args s mc ms free) (entryFrame m args maxL)) : xMet l y ws rm Pc Qc mc ms free := by
  refine MetFree.of_bodyS (code := cc) (maxLocals := maxL) (ret := ret) hy ?_ ?_
  · intro args s m h hn
    obtain ⟨meth, c, h1, h2, h3, h4, h5, h6, -, -⟩ := Cond.code_spec hn (atoms_spec (ws := ws) h _ (by rw [hw]; exact List.mem_cons_self))
    exact ⟨meth, c, h1, h2, h3, h4, h5, h6⟩
  · intro p e s m args below meth c s₁ B hml hP _
    have hh0 : s₁.heap = s.heap := by rw [B.state]; rfl
    obtain ⟨t, a1, o, b1, b2, b3⟩ := body p e s m args below meth c s₁ B hml hP s₁ hh0 (Stand.of_body B)
    exact ⟨t, o, a1, b1, b2, ⟨b3.1, b3.2⟩⟩
theorem xMet.of (h : Met l y ws rm Pc Qc mc ms free) : xMet l y ws rm Pc Qc mc ms free := by
  intro p e ha hc hk s m args below hf happ hP hK
  obtain ⟨n, o, h1, h2, h3, h4, L, h5, h6⟩ := h p e ha hc hk s m args below hf happ hP hK
  exact ⟨n, o, h1, h2, h3, h4, L, ⟨h5.2.1, h5.2.2⟩, h6⟩
/-- a call of a method with such a contract: it comes back, or it throws -/
theorem xBack (hM : xMet l y ws rm Pc Qc mc ms free) (hbl : FrameBlind Pc)
    (cb : rm.cells = mc ∧ rm.slots = ms ∧ rm.frames + 1 ≤ R.frames ∧ 8 + (maxL + 11) + rm.locals ≤ R.locals ∧ (∀ w ∈ ws, ∀ (a' : Array Value) (U : State), s.WarmedH U.vm → w.before a' U = true) ∧ Cond.code y bytes maxL ret ∈ ws)
    (hini : ∀ (a' : Array Value) (U : State), s.WarmedH U.vm → (Cond.initialized y.cls).before a' U = true)
    (X : Stand p l e R s m args below meth c T locs cells slots) {g : JFrame} (hg : g.method = m) (hsize : g.locals.size = c.maxLocals) {ig : Instr} {len : Nat} (hdg : decode c.code g.pc = .ok (ig, len)) (hW : 2 * g.monitorRoom + (g.stack.map fun v => v.category).sum ≤ 8)
    {mk : MethodId} (hn : T.methodNamed? y = some mk) {a : Array Value} (hc : cells + mc ≤ R.cells) (hs : slots + ms ≤ R.slots) (hP : Pc a T) :
    ∃ (o : Outcome) (t T' : State) (L : List Loc), Stand p l e R s m args below meth c T' (locs ++ L) (cells + mc) (slots + ms) ∧ (∀ q ∈ L, free q.base) ∧ T'.heap = t.heap ∧ T'.vm = t.vm ∧ Qc a (T.calling g mk a) o t ∧
      ((∃ v, o = .returned v ∧ Steps p.tables e below (doInvoke e (T.setTop g) [] mk a).1 (T'.setTop { g with pc := g.pc + len, stack := v.toList ++ g.stack })) ∨
       (∃ x, o = .threw x ∧ Steps p.tables e below (doInvoke e (T.setTop g) [] mk a).1 ((T'.setTop g).pushFrame (.throwing x)))) := by
  obtain ⟨hrc, hrs, hfr, hlo, hws, hcw⟩ := cb
  obtain ⟨methY, cY, hmY, hcY, -, hlY, -, -, -, -⟩ := Cond.code_spec hn (hws _ hcw a T X.warmed)
  obtain ⟨kY, hkY, -⟩ := className_of_methodNamed hn
  have hinitY : kY.init = .initialized := Cond.initialized_spec (findClass_of_methodNamed hn) hkY (hini a T X.warmed)
  have h : At T g.method c below := by rw [hg]; exact X.here
  have happ : (headSpec ws rm).appliesLoose y e.platform (T.calling g mk a) = true :=
    Spec.appliesLoose_calling (g := g) h hdg hn hkY hinitY
      (X.room_calling (g := g) (R' := (headSpec ws rm).room) hsize hmY hcY hfr (by rw [hlY]; show _ + rm.locals ≤ _; omega) (by show _ + rm.cells ≤ _; rw [hrc]; exact hc) (by show _ + rm.slots ≤ _; rw [hrs]; exact hs)) (atoms_intro fun w hw => hws w hw _ _ X.warmed)
  obtain ⟨mid, hmid⟩ := h.above
  have hfr2 : (T.setTop g).frames = (.java g :: mid) ++ below := by rw [State.frames_setTop' g h.top, hmid]; rfl
  obtain ⟨o, t, hsteps, -, hend, hq, L, ⟨hWt, hsame⟩, hL⟩ := Steps.callFree hM p X.admits X.cas X.clock (acts := []) hfr2 happ (hbl _ _ _ _ hP) trivial
  rw [State.frames_setTop' g h.top, X.tail] at hend
  cases o with
  | returned v =>
    obtain ⟨T', X', hW', hs', ht⟩ := X.outOf hg hdg (mk := mk) (a := a) hend hWt hsame
    refine ⟨.returned v, t, T', L, X', hL, by rw [ht]; rfl, by rw [ht]; rfl, hq, Or.inl ⟨v, rfl, ?_⟩⟩
    rw [← ht]; exact hsteps
  | threw x =>
    obtain ⟨T', X', hW', hs', ht⟩ := X.outOfThrown hg (mk := mk) (a := a) hend hWt hsame
    refine ⟨.threw x, t, T', L, X', hL, by rw [ht]; rfl, by rw [ht]; rfl, hq, Or.inr ⟨x, rfl, ?_⟩⟩
    rw [← ht]; exact hsteps
variable {Q : State → Prop} {pc : Nat} {ls : Array Slot}
theorem xiret {v : Int32} {ty : FieldType} (hexec : p.tables.exec = Jvm.exec) (hb : c.code = cc) (hr : meth.sig.returnType = some ty) (hn : narrow ty (.int v) = .int v)
    (hq : ∀ t : State, t.heap = H → s.WarmedH t.vm → Qc args s (.returned (some (.int v))) t) (hf : ∀ q ∈ locs, free q.base)
    (hdg : decode cc pc = .ok (.ireturn, 1)) (hlocks : meth.locks = false) : W p l e R s m args below meth c H locs cells slots (xMQ below Qc args s cells slots free) (F0 m pc ls [.int v]) := by
  intro T hT X
  obtain ⟨fs, hret, hrun, hended, hW, hframe⟩ := X.leave (v := some (.int v)) (fun h => by rw [hr] at h; cases h)
  have hmeth' : T.vm.method? m = some meth := X.method'
  refine ⟨T.setFrames fs, ?_, .returned (some (.int v)), hrun, hended, hq _ hT hW, locs, ⟨hW, hframe⟩, hf⟩
  jvm_step X.here [X.here.top, hexec, hb, hdg, hmeth', hr, hn]
  (try refine ⟨rfl, ?_⟩); (try refine ⟨rfl, ?_⟩)
  first | (intro acts; rw [hret _ acts rfl rfl rfl]) | rw [hret _ _ rfl rfl rfl]
  exact Steps.refl _
theorem xvret (hexec : p.tables.exec = Jvm.exec) (hb : c.code = cc) (hr : meth.sig.returnType = none)
    (hq : ∀ t : State, t.heap = H → s.WarmedH t.vm → Qc args s (.returned none) t) (hf : ∀ q ∈ locs, free q.base)
    (hdg : decode cc pc = .ok (.return_, 1)) (hlocks : meth.locks = false) : W p l e R s m args below meth c H locs cells slots (xMQ below Qc args s cells slots free) (F0 m pc ls []) := by
  intro T hT X
  obtain ⟨fs, hret, hrun, hended, hW, hframe⟩ := X.leave (v := none) (fun _ => rfl)
  have hmeth' : T.vm.method? m = some meth := X.method'
  refine ⟨T.setFrames fs, ?_, .returned none, hrun, hended, hq _ hT hW, locs, ⟨hW, hframe⟩, hf⟩
  jvm_step X.here [X.here.top, hexec, hb, hdg, hmeth', hr]
  (try refine ⟨rfl, ?_⟩); (try refine ⟨rfl, ?_⟩)
  first | (intro acts; rw [hret _ acts rfl rfl rfl]) | rw [hret _ _ rfl rfl rfl]
  exact Steps.refl _
end XM
abbrev xSt : Type := Nat → Nat → Int32
/-- a register's place gets a value -/
def xw (g : xSt) (a i : Nat) (v : Int32) : xSt := va_up g a (upd (g a) i v)
theorem xw_self (g : xSt) (a i : Nat) (v : Int32) : xw g a i v a i = v := by simp [xw, va_up, upd]
theorem xw_reg (g : xSt) {a b : Nat} (i : Nat) (v : Int32) (h : b ≠ a) : xw g a i v b = g b := by simp [xw, va_up, h]
theorem xw_ix (g : xSt) (a : Nat) {i j : Nat} (v : Int32) (h : j ≠ i) : xw g a i v a j = g a j := by simp [xw, va_up, upd, h]
/-- from every heap that holds the state g, at this place of the code with these locals: the machine comes to Q -/
def xV (p : Program) (l : Launch) (e : Env) (R : Room) (s : State) (m : MethodId) (args : Array Value) (below : List Frame) (meth : Method) (c : Code) (D : va_G) (cl : List vw_C) (w : xSt → va_W) (A : Nat → Prop) (nL cells slots : Nat) (Q : State → Prop) (g : xSt) (pc : Nat) (lv : List (Nat × Value)) (stk : List Value) : Prop :=
  ∀ (H : Heap) (locs : List Loc) (ls : Array Slot), va_P D cl (w g) H → va_S A s.heap H locs → lv_has ls nL lv → W p l e R s m args below meth c H locs cells slots Q (F0 m pc ls stk)
/-- what stays the same in a method's walk -/
def xC (p : Program) (s : State) (m : MethodId) (args : Array Value) (c : Code) (cc : ByteArray) (own : String) (Ts : List Cond) (nL : Nat) (D : va_G) (cl : List vw_C) (w : xSt → va_W) (tys : List (ClassId × FieldType)) (A : Nat → Prop) : Prop :=
  p.tables.exec = Jvm.exec ∧ c.code = cc ∧ c.maxLocals = nL ∧ s.vm.findClass own = some m.cls ∧ (∀ q ∈ Ts, q.before args s = true) ∧ va_K D cl tys s ∧ (∀ g, va_D A (w g)) ∧ ∀ q, s.heap.size ≤ q → A q
section XR
variable {p : Program} {l : Launch} {e : Env} {R : Room} {s : State} {m : MethodId} {args : Array Value} {below : List Frame} {meth : Method} {c : Code} {D : va_G} {cl : List vw_C} {w : xSt → va_W} {A : Nat → Prop} {nL cells slots : Nat} {Q : State → Prop}
variable {cc : ByteArray} {own : String} {Ts : List Cond} {tys : List (ClassId × FieldType)} {g : xSt} {pc : Nat} {lv lv' : List (Nat × Value)} {stk : List Value}
theorem v_iconst (C : xC p s m args c cc own Ts nL D cl w tys A) {n : Int} {v : Int32} (hdg : decode cc pc = .ok (.iconst n, 1)) (hv : Int32.ofInt n = v) (k : xV p l e R s m args below meth c D cl w A nL cells slots Q g (pc + 1) lv (.int v :: stk)) : xV p l e R s m args below meth c D cl w A nL cells slots Q g pc lv stk := fun H locs ls hP hS hl => lv_iconst C.1 C.2.1 hdg hv (k H locs ls hP hS hl)
theorem v_bipush (C : xC p s m args c cc own Ts nL D cl w tys A) {n : Int} {v : Int32} (hdg : decode cc pc = .ok (.bipush n, 2)) (hv : (Int8.ofInt n).toInt32 = v) (k : xV p l e R s m args below meth c D cl w A nL cells slots Q g (pc + 2) lv (.int v :: stk)) : xV p l e R s m args below meth c D cl w A nL cells slots Q g pc lv stk := fun H locs ls hP hS hl => lv_bipush C.1 C.2.1 hdg hv (k H locs ls hP hS hl)
theorem v_sipush (C : xC p s m args c cc own Ts nL D cl w tys A) {n : Int} {v : Int32} (hdg : decode cc pc = .ok (.sipush n, 3)) (hv : (Int16.ofInt n).toInt32 = v) (k : xV p l e R s m args below meth c D cl w A nL cells slots Q g (pc + 3) lv (.int v :: stk)) : xV p l e R s m args below meth c D cl w A nL cells slots Q g pc lv stk := fun H locs ls hP hS hl => lv_sipush C.1 C.2.1 hdg hv (k H locs ls hP hS hl)
theorem v_iload_n (C : xC p s m args c cc own Ts nL D cl w tys A) {k0 : Fin 4} {i : Nat} {x : Int32} (hdg : decode cc pc = .ok (.iload_n k0, 1)) (hi : (k0 : Nat) = i) (q : Nat) (hq : lv[q]? = some (i, .int x)) (k : xV p l e R s m args below meth c D cl w A nL cells slots Q g (pc + 1) lv (.int x :: stk)) : xV p l e R s m args below meth c D cl w A nL cells slots Q g pc lv stk := fun H locs ls hP hS hl => lv_iload_n C.1 C.2.1 hdg hi (lv_at hl q hq) (k H locs ls hP hS hl)
theorem v_iload (C : xC p s m args c cc own Ts nL D cl w tys A) {i : Nat} {x : Int32} (hdg : decode cc pc = .ok (.iload i, 2)) (q : Nat) (hq : lv[q]? = some (i, .int x)) (k : xV p l e R s m args below meth c D cl w A nL cells slots Q g (pc + 2) lv (.int x :: stk)) : xV p l e R s m args below meth c D cl w A nL cells slots Q g pc lv stk := fun H locs ls hP hS hl => lv_iload C.1 C.2.1 hdg (lv_at hl q hq) (k H locs ls hP hS hl)
theorem v_aload_n (C : xC p s m args c cc own Ts nL D cl w tys A) {k0 : Fin 4} {i : Nat} {x : Nat} (hdg : decode cc pc = .ok (.aload_n k0, 1)) (hi : (k0 : Nat) = i) (q : Nat) (hq : lv[q]? = some (i, .ref x)) (k : xV p l e R s m args below meth c D cl w A nL cells slots Q g (pc + 1) lv (.ref x :: stk)) : xV p l e R s m args below meth c D cl w A nL cells slots Q g pc lv stk := fun H locs ls hP hS hl => lv_aload_n C.1 C.2.1 hdg hi (lv_at hl q hq) (k H locs ls hP hS hl)
theorem v_aload (C : xC p s m args c cc own Ts nL D cl w tys A) {i : Nat} {x : Nat} (hdg : decode cc pc = .ok (.aload i, 2)) (q : Nat) (hq : lv[q]? = some (i, .ref x)) (k : xV p l e R s m args below meth c D cl w A nL cells slots Q g (pc + 2) lv (.ref x :: stk)) : xV p l e R s m args below meth c D cl w A nL cells slots Q g pc lv stk := fun H locs ls hP hS hl => lv_aload C.1 C.2.1 hdg (lv_at hl q hq) (k H locs ls hP hS hl)
theorem v_lload_n (C : xC p s m args c cc own Ts nL D cl w tys A) {k0 : Fin 4} {i : Nat} {x : Int64} (hdg : decode cc pc = .ok (.lload_n k0, 1)) (hi : (k0 : Nat) = i) (q : Nat) (hq : lv[q]? = some (i, .long x)) (k : xV p l e R s m args below meth c D cl w A nL cells slots Q g (pc + 1) lv (.long x :: stk)) : xV p l e R s m args below meth c D cl w A nL cells slots Q g pc lv stk := fun H locs ls hP hS hl => lv_lload_n C.1 C.2.1 hdg hi (lv_at hl q hq) (k H locs ls hP hS hl)
theorem v_lload (C : xC p s m args c cc own Ts nL D cl w tys A) {i : Nat} {x : Int64} (hdg : decode cc pc = .ok (.lload i, 2)) (q : Nat) (hq : lv[q]? = some (i, .long x)) (k : xV p l e R s m args below meth c D cl w A nL cells slots Q g (pc + 2) lv (.long x :: stk)) : xV p l e R s m args below meth c D cl w A nL cells slots Q g pc lv stk := fun H locs ls hP hS hl => lv_lload C.1 C.2.1 hdg (lv_at hl q hq) (k H locs ls hP hS hl)
theorem v_istore_n (C : xC p s m args c cc own Ts nL D cl w tys A) {k0 : Fin 4} {i : Nat} {x : Int32} (hdg : decode cc pc = .ok (.istore_n k0, 1)) (hi : (k0 : Nat) = i) (hn : i < nL) (hv : (i, Value.int x) :: lv.filter (fun q => !(q.1 == i) && !(q.1 + 1 == i && q.2.category == 2)) = lv') (k : xV p l e R s m args below meth c D cl w A nL cells slots Q g (pc + 1) lv' stk) : xV p l e R s m args below meth c D cl w A nL cells slots Q g pc lv (.int x :: stk) := fun H locs ls hP hS hl => lv_istore_n C.1 C.2.1 hdg hi hl hn hv (fun ls' hl' => k H locs ls' hP hS hl')
theorem v_istore (C : xC p s m args c cc own Ts nL D cl w tys A) {i : Nat} {x : Int32} (hdg : decode cc pc = .ok (.istore i, 2)) (hn : i < nL) (hv : (i, Value.int x) :: lv.filter (fun q => !(q.1 == i) && !(q.1 + 1 == i && q.2.category == 2)) = lv') (k : xV p l e R s m args below meth c D cl w A nL cells slots Q g (pc + 2) lv' stk) : xV p l e R s m args below meth c D cl w A nL cells slots Q g pc lv (.int x :: stk) := fun H locs ls hP hS hl => lv_istore C.1 C.2.1 hdg hl hn hv (fun ls' hl' => k H locs ls' hP hS hl')
theorem v_astore_n (C : xC p s m args c cc own Ts nL D cl w tys A) {k0 : Fin 4} {i : Nat} {x : Nat} (hdg : decode cc pc = .ok (.astore_n k0, 1)) (hi : (k0 : Nat) = i) (hn : i < nL) (hv : (i, Value.ref x) :: lv.filter (fun q => !(q.1 == i) && !(q.1 + 1 == i && q.2.category == 2)) = lv') (k : xV p l e R s m args below meth c D cl w A nL cells slots Q g (pc + 1) lv' stk) : xV p l e R s m args below meth c D cl w A nL cells slots Q g pc lv (.ref x :: stk) := fun H locs ls hP hS hl => lv_astore_n C.1 C.2.1 hdg hi hl hn hv (fun ls' hl' => k H locs ls' hP hS hl')
theorem v_astore (C : xC p s m args c cc own Ts nL D cl w tys A) {i : Nat} {x : Nat} (hdg : decode cc pc = .ok (.astore i, 2)) (hn : i < nL) (hv : (i, Value.ref x) :: lv.filter (fun q => !(q.1 == i) && !(q.1 + 1 == i && q.2.category == 2)) = lv') (k : xV p l e R s m args below meth c D cl w A nL cells slots Q g (pc + 2) lv' stk) : xV p l e R s m args below meth c D cl w A nL cells slots Q g pc lv (.ref x :: stk) := fun H locs ls hP hS hl => lv_astore C.1 C.2.1 hdg hl hn hv (fun ls' hl' => k H locs ls' hP hS hl')
theorem v_iinc (C : xC p s m args c cc own Ts nL D cl w tys A) {i k0 : Nat} {n : Int} {x v : Int32} (hdg : decode cc pc = .ok (.iinc i n, 3)) (hk : lv[k0]? = some (i, .int x)) (hx : x + Int32.ofInt n = v) (hn : i < nL) (hv : (i, Value.int v) :: lv.filter (fun q => !(q.1 == i) && !(q.1 + 1 == i && q.2.category == 2)) = lv') (k : xV p l e R s m args below meth c D cl w A nL cells slots Q g (pc + 3) lv' stk) : xV p l e R s m args below meth c D cl w A nL cells slots Q g pc lv stk := fun H locs ls hP hS hl => lv_iinc C.1 C.2.1 hdg hl hk hx hn hv (fun ls' hl' => k H locs ls' hP hS hl')
theorem v_iadd (C : xC p s m args c cc own Ts nL D cl w tys A) {x y : Int32} (hdg : decode cc pc = .ok (.iadd, 1)) (k : xV p l e R s m args below meth c D cl w A nL cells slots Q g (pc + 1) lv (.int (x + y) :: stk)) : xV p l e R s m args below meth c D cl w A nL cells slots Q g pc lv (.int y :: .int x :: stk) := fun H locs ls hP hS hl => lv_iadd C.1 C.2.1 hdg (k H locs ls hP hS hl)
theorem v_isub (C : xC p s m args c cc own Ts nL D cl w tys A) {x y : Int32} (hdg : decode cc pc = .ok (.isub, 1)) (k : xV p l e R s m args below meth c D cl w A nL cells slots Q g (pc + 1) lv (.int (x - y) :: stk)) : xV p l e R s m args below meth c D cl w A nL cells slots Q g pc lv (.int y :: .int x :: stk) := fun H locs ls hP hS hl => lv_isub C.1 C.2.1 hdg (k H locs ls hP hS hl)
theorem v_imul (C : xC p s m args c cc own Ts nL D cl w tys A) {x y : Int32} (hdg : decode cc pc = .ok (.imul, 1)) (k : xV p l e R s m args below meth c D cl w A nL cells slots Q g (pc + 1) lv (.int (x * y) :: stk)) : xV p l e R s m args below meth c D cl w A nL cells slots Q g pc lv (.int y :: .int x :: stk) := fun H locs ls hP hS hl => lv_imul C.1 C.2.1 hdg (k H locs ls hP hS hl)
theorem v_iand (C : xC p s m args c cc own Ts nL D cl w tys A) {x y : Int32} (hdg : decode cc pc = .ok (.iand, 1)) (k : xV p l e R s m args below meth c D cl w A nL cells slots Q g (pc + 1) lv (.int (x &&& y) :: stk)) : xV p l e R s m args below meth c D cl w A nL cells slots Q g pc lv (.int y :: .int x :: stk) := fun H locs ls hP hS hl => lv_iand C.1 C.2.1 hdg (k H locs ls hP hS hl)
theorem v_ior (C : xC p s m args c cc own Ts nL D cl w tys A) {x y : Int32} (hdg : decode cc pc = .ok (.ior, 1)) (k : xV p l e R s m args below meth c D cl w A nL cells slots Q g (pc + 1) lv (.int (x ||| y) :: stk)) : xV p l e R s m args below meth c D cl w A nL cells slots Q g pc lv (.int y :: .int x :: stk) := fun H locs ls hP hS hl => lv_ior C.1 C.2.1 hdg (k H locs ls hP hS hl)
theorem v_ixor (C : xC p s m args c cc own Ts nL D cl w tys A) {x y : Int32} (hdg : decode cc pc = .ok (.ixor, 1)) (k : xV p l e R s m args below meth c D cl w A nL cells slots Q g (pc + 1) lv (.int (x ^^^ y) :: stk)) : xV p l e R s m args below meth c D cl w A nL cells slots Q g pc lv (.int y :: .int x :: stk) := fun H locs ls hP hS hl => lv_ixor C.1 C.2.1 hdg (k H locs ls hP hS hl)
theorem v_ishl (C : xC p s m args c cc own Ts nL D cl w tys A) {x y : Int32} (hdg : decode cc pc = .ok (.ishl, 1)) (k : xV p l e R s m args below meth c D cl w A nL cells slots Q g (pc + 1) lv (.int (x <<< (y &&& 31)) :: stk)) : xV p l e R s m args below meth c D cl w A nL cells slots Q g pc lv (.int y :: .int x :: stk) := fun H locs ls hP hS hl => lv_ishl C.1 C.2.1 hdg (k H locs ls hP hS hl)
theorem v_ishr (C : xC p s m args c cc own Ts nL D cl w tys A) {x y : Int32} (hdg : decode cc pc = .ok (.ishr, 1)) (k : xV p l e R s m args below meth c D cl w A nL cells slots Q g (pc + 1) lv (.int (x >>> (y &&& 31)) :: stk)) : xV p l e R s m args below meth c D cl w A nL cells slots Q g pc lv (.int y :: .int x :: stk) := fun H locs ls hP hS hl => lv_ishr C.1 C.2.1 hdg (k H locs ls hP hS hl)
theorem v_i2l (C : xC p s m args c cc own Ts nL D cl w tys A) {x : Int32} {v : Int64} (hdg : decode cc pc = .ok (.i2l, 1)) (hv : x.toInt64 = v) (k : xV p l e R s m args below meth c D cl w A nL cells slots Q g (pc + 1) lv (.long v :: stk)) : xV p l e R s m args below meth c D cl w A nL cells slots Q g pc lv (.int x :: stk) := fun H locs ls hP hS hl => lv_i2l C.1 C.2.1 hdg hv (k H locs ls hP hS hl)
theorem v_dup (C : xC p s m args c cc own Ts nL D cl w tys A) {va : Value} (hdg : decode cc pc = .ok (.dup, 1)) (hva : va.category = 1) (k : xV p l e R s m args below meth c D cl w A nL cells slots Q g (pc + 1) lv (va :: va :: stk)) : xV p l e R s m args below meth c D cl w A nL cells slots Q g pc lv (va :: stk) := fun H locs ls hP hS hl => lv_dup C.1 C.2.1 hdg hva (k H locs ls hP hS hl)
theorem v_pop (C : xC p s m args c cc own Ts nL D cl w tys A) {va : Value} (hdg : decode cc pc = .ok (.pop, 1)) (hva : va.category = 1) (k : xV p l e R s m args below meth c D cl w A nL cells slots Q g (pc + 1) lv stk) : xV p l e R s m args below meth c D cl w A nL cells slots Q g pc lv (va :: stk) := fun H locs ls hP hS hl => lv_pop C.1 C.2.1 hdg hva (k H locs ls hP hS hl)
theorem v_dup_x1 (C : xC p s m args c cc own Ts nL D cl w tys A) {va vb : Value} (hdg : decode cc pc = .ok (.dup_x1, 1)) (hva : va.category = 1) (hvb : vb.category = 1) (k : xV p l e R s m args below meth c D cl w A nL cells slots Q g (pc + 1) lv (va :: vb :: va :: stk)) : xV p l e R s m args below meth c D cl w A nL cells slots Q g pc lv (va :: vb :: stk) := fun H locs ls hP hS hl => lv_dup_x1 C.1 C.2.1 hdg hva hvb (k H locs ls hP hS hl)
theorem v_dup2 (C : xC p s m args c cc own Ts nL D cl w tys A) {va vb : Value} (hdg : decode cc pc = .ok (.dup2, 1)) (hva : va.category = 1) (hvb : vb.category = 1) (k : xV p l e R s m args below meth c D cl w A nL cells slots Q g (pc + 1) lv (va :: vb :: va :: vb :: stk)) : xV p l e R s m args below meth c D cl w A nL cells slots Q g pc lv (va :: vb :: stk) := fun H locs ls hP hS hl => lv_dup2_11 C.1 C.2.1 hdg hva hvb (k H locs ls hP hS hl)
theorem v_goto (C : xC p s m args c cc own Ts nL D cl w tys A) {off : Int} {tgt : Nat} (hdg : decode cc pc = .ok (.goto off, 3)) (ht : (pc : Int) + off = (tgt : Int)) (k : xV p l e R s m args below meth c D cl w A nL cells slots Q g tgt lv stk) : xV p l e R s m args below meth c D cl w A nL cells slots Q g pc lv stk := fun H locs ls hP hS hl => lv_goto C.1 C.2.1 hdg ht (k H locs ls hP hS hl)
theorem v_if_eq (C : xC p s m args c cc own Ts nL D cl w tys A) {x : Int32} {off : Int} {tgt : Nat} (hdg : decode cc pc = .ok (.ifCond .eq off, 3)) (ht : (pc : Int) + off = (tgt : Int)) (kt : (x = 0) → xV p l e R s m args below meth c D cl w A nL cells slots Q g tgt lv stk) (kf : (¬ x = 0) → xV p l e R s m args below meth c D cl w A nL cells slots Q g (pc + 3) lv stk) : xV p l e R s m args below meth c D cl w A nL cells slots Q g pc lv (.int x :: stk) := fun H locs ls hP hS hl => lv_if_eq C.1 C.2.1 hdg ht (fun q => kt q H locs ls hP hS hl) (fun q => kf q H locs ls hP hS hl)
theorem v_icmp_eq (C : xC p s m args c cc own Ts nL D cl w tys A) {x y : Int32} {off : Int} {tgt : Nat} (hdg : decode cc pc = .ok (.if_icmp .eq off, 3)) (ht : (pc : Int) + off = (tgt : Int)) (kt : (x = y) → xV p l e R s m args below meth c D cl w A nL cells slots Q g tgt lv stk) (kf : (¬ x = y) → xV p l e R s m args below meth c D cl w A nL cells slots Q g (pc + 3) lv stk) : xV p l e R s m args below meth c D cl w A nL cells slots Q g pc lv (.int y :: .int x :: stk) := fun H locs ls hP hS hl => lv_icmp_eq C.1 C.2.1 hdg ht (fun q => kt q H locs ls hP hS hl) (fun q => kf q H locs ls hP hS hl)
theorem v_if_ne (C : xC p s m args c cc own Ts nL D cl w tys A) {x : Int32} {off : Int} {tgt : Nat} (hdg : decode cc pc = .ok (.ifCond .ne off, 3)) (ht : (pc : Int) + off = (tgt : Int)) (kt : (¬ x = 0) → xV p l e R s m args below meth c D cl w A nL cells slots Q g tgt lv stk) (kf : (x = 0) → xV p l e R s m args below meth c D cl w A nL cells slots Q g (pc + 3) lv stk) : xV p l e R s m args below meth c D cl w A nL cells slots Q g pc lv (.int x :: stk) := fun H locs ls hP hS hl => lv_if_ne C.1 C.2.1 hdg ht (fun q => kt q H locs ls hP hS hl) (fun q => kf q H locs ls hP hS hl)
theorem v_icmp_ne (C : xC p s m args c cc own Ts nL D cl w tys A) {x y : Int32} {off : Int} {tgt : Nat} (hdg : decode cc pc = .ok (.if_icmp .ne off, 3)) (ht : (pc : Int) + off = (tgt : Int)) (kt : (¬ x = y) → xV p l e R s m args below meth c D cl w A nL cells slots Q g tgt lv stk) (kf : (x = y) → xV p l e R s m args below meth c D cl w A nL cells slots Q g (pc + 3) lv stk) : xV p l e R s m args below meth c D cl w A nL cells slots Q g pc lv (.int y :: .int x :: stk) := fun H locs ls hP hS hl => lv_icmp_ne C.1 C.2.1 hdg ht (fun q => kt q H locs ls hP hS hl) (fun q => kf q H locs ls hP hS hl)
theorem v_if_lt (C : xC p s m args c cc own Ts nL D cl w tys A) {x : Int32} {off : Int} {tgt : Nat} (hdg : decode cc pc = .ok (.ifCond .lt off, 3)) (ht : (pc : Int) + off = (tgt : Int)) (kt : (x < 0) → xV p l e R s m args below meth c D cl w A nL cells slots Q g tgt lv stk) (kf : (¬ x < 0) → xV p l e R s m args below meth c D cl w A nL cells slots Q g (pc + 3) lv stk) : xV p l e R s m args below meth c D cl w A nL cells slots Q g pc lv (.int x :: stk) := fun H locs ls hP hS hl => lv_if_lt C.1 C.2.1 hdg ht (fun q => kt q H locs ls hP hS hl) (fun q => kf q H locs ls hP hS hl)
theorem v_icmp_lt (C : xC p s m args c cc own Ts nL D cl w tys A) {x y : Int32} {off : Int} {tgt : Nat} (hdg : decode cc pc = .ok (.if_icmp .lt off, 3)) (ht : (pc : Int) + off = (tgt : Int)) (kt : (x < y) → xV p l e R s m args below meth c D cl w A nL cells slots Q g tgt lv stk) (kf : (¬ x < y) → xV p l e R s m args below meth c D cl w A nL cells slots Q g (pc + 3) lv stk) : xV p l e R s m args below meth c D cl w A nL cells slots Q g pc lv (.int y :: .int x :: stk) := fun H locs ls hP hS hl => lv_icmp_lt C.1 C.2.1 hdg ht (fun q => kt q H locs ls hP hS hl) (fun q => kf q H locs ls hP hS hl)
theorem v_if_ge (C : xC p s m args c cc own Ts nL D cl w tys A) {x : Int32} {off : Int} {tgt : Nat} (hdg : decode cc pc = .ok (.ifCond .ge off, 3)) (ht : (pc : Int) + off = (tgt : Int)) (kt : (0 ≤ x) → xV p l e R s m args below meth c D cl w A nL cells slots Q g tgt lv stk) (kf : (¬ 0 ≤ x) → xV p l e R s m args below meth c D cl w A nL cells slots Q g (pc + 3) lv stk) : xV p l e R s m args below meth c D cl w A nL cells slots Q g pc lv (.int x :: stk) := fun H locs ls hP hS hl => lv_if_ge C.1 C.2.1 hdg ht (fun q => kt q H locs ls hP hS hl) (fun q => kf q H locs ls hP hS hl)
theorem v_icmp_ge (C : xC p s m args c cc own Ts nL D cl w tys A) {x y : Int32} {off : Int} {tgt : Nat} (hdg : decode cc pc = .ok (.if_icmp .ge off, 3)) (ht : (pc : Int) + off = (tgt : Int)) (kt : (y ≤ x) → xV p l e R s m args below meth c D cl w A nL cells slots Q g tgt lv stk) (kf : (¬ y ≤ x) → xV p l e R s m args below meth c D cl w A nL cells slots Q g (pc + 3) lv stk) : xV p l e R s m args below meth c D cl w A nL cells slots Q g pc lv (.int y :: .int x :: stk) := fun H locs ls hP hS hl => lv_icmp_ge C.1 C.2.1 hdg ht (fun q => kt q H locs ls hP hS hl) (fun q => kf q H locs ls hP hS hl)
theorem v_if_gt (C : xC p s m args c cc own Ts nL D cl w tys A) {x : Int32} {off : Int} {tgt : Nat} (hdg : decode cc pc = .ok (.ifCond .gt off, 3)) (ht : (pc : Int) + off = (tgt : Int)) (kt : (0 < x) → xV p l e R s m args below meth c D cl w A nL cells slots Q g tgt lv stk) (kf : (¬ 0 < x) → xV p l e R s m args below meth c D cl w A nL cells slots Q g (pc + 3) lv stk) : xV p l e R s m args below meth c D cl w A nL cells slots Q g pc lv (.int x :: stk) := fun H locs ls hP hS hl => lv_if_gt C.1 C.2.1 hdg ht (fun q => kt q H locs ls hP hS hl) (fun q => kf q H locs ls hP hS hl)
theorem v_icmp_gt (C : xC p s m args c cc own Ts nL D cl w tys A) {x y : Int32} {off : Int} {tgt : Nat} (hdg : decode cc pc = .ok (.if_icmp .gt off, 3)) (ht : (pc : Int) + off = (tgt : Int)) (kt : (y < x) → xV p l e R s m args below meth c D cl w A nL cells slots Q g tgt lv stk) (kf : (¬ y < x) → xV p l e R s m args below meth c D cl w A nL cells slots Q g (pc + 3) lv stk) : xV p l e R s m args below meth c D cl w A nL cells slots Q g pc lv (.int y :: .int x :: stk) := fun H locs ls hP hS hl => lv_icmp_gt C.1 C.2.1 hdg ht (fun q => kt q H locs ls hP hS hl) (fun q => kf q H locs ls hP hS hl)
theorem v_if_le (C : xC p s m args c cc own Ts nL D cl w tys A) {x : Int32} {off : Int} {tgt : Nat} (hdg : decode cc pc = .ok (.ifCond .le off, 3)) (ht : (pc : Int) + off = (tgt : Int)) (kt : (x ≤ 0) → xV p l e R s m args below meth c D cl w A nL cells slots Q g tgt lv stk) (kf : (¬ x ≤ 0) → xV p l e R s m args below meth c D cl w A nL cells slots Q g (pc + 3) lv stk) : xV p l e R s m args below meth c D cl w A nL cells slots Q g pc lv (.int x :: stk) := fun H locs ls hP hS hl => lv_if_le C.1 C.2.1 hdg ht (fun q => kt q H locs ls hP hS hl) (fun q => kf q H locs ls hP hS hl)
theorem v_icmp_le (C : xC p s m args c cc own Ts nL D cl w tys A) {x y : Int32} {off : Int} {tgt : Nat} (hdg : decode cc pc = .ok (.if_icmp .le off, 3)) (ht : (pc : Int) + off = (tgt : Int)) (kt : (x ≤ y) → xV p l e R s m args below meth c D cl w A nL cells slots Q g tgt lv stk) (kf : (¬ x ≤ y) → xV p l e R s m args below meth c D cl w A nL cells slots Q g (pc + 3) lv stk) : xV p l e R s m args below meth c D cl w A nL cells slots Q g pc lv (.int y :: .int x :: stk) := fun H locs ls hP hS hl => lv_icmp_le C.1 C.2.1 hdg ht (fun q => kt q H locs ls hP hS hl) (fun q => kf q H locs ls hP hS hl)
theorem v_get (C : xC p s m args c cc own Ts nL D cl w tys A) {Cn : String} {Tf : u_T} {N ci index a : Nat} (F : (∀ q ∈ u_ws Cn Tf N, q ∈ Ts) ∧ cl[ci]? = some (Cn, Tf, N)) (q0 : Nat) {fs : List Value} (he : (w g)[q0]? = some (a, .inr (ci, fs))) (k0 : Nat) (hk : k0 < N) (hlink : (Cond.fieldLink own index (Tf k0).1 (Tf k0).2.1 (Tf k0).2.2.1).before args s = true) {v : Value} (hv : fs[k0]? = some v) (hdg : decode cc pc = .ok (.getfield index, 3)) (k : xV p l e R s m args below meth c D cl w A nL cells slots Q g (pc + 3) lv (v :: stk)) : xV p l e R s m args below meth c D cl w A nL cells slots Q g pc lv (.ref a :: stk) := fun H locs ls hP hS hl => va_get C.1 C.2.1 C.2.2.2.2.1 F.1 C.2.2.2.1 C.2.2.2.2.2.1 hP q0 he F.2 k0 hk hlink (fun _ h9 => h9) hv hdg (k H locs ls hP hS hl)
theorem v_getN (C : xC p s m args c cc own Ts nL D cl w tys A) {host : String} {Cn : String} {Tf : u_T} {N ci index a : Nat} (F : (∀ q ∈ u_ws Cn Tf N, q ∈ Ts) ∧ cl[ci]? = some (Cn, Tf, N)) (q0 : Nat) {fs : List Value} (he : (w g)[q0]? = some (a, .inr (ci, fs))) (k0 : Nat) (hk : k0 < N) (hlink : (Cond.fieldLinkNest own index (Tf k0).1 (Tf k0).2.1 (Tf k0).2.2.1 host).before args s = true) {v : Value} (hv : fs[k0]? = some v) (hdg : decode cc pc = .ok (.getfield index, 3)) (k : xV p l e R s m args below meth c D cl w A nL cells slots Q g (pc + 3) lv (v :: stk)) : xV p l e R s m args below meth c D cl w A nL cells slots Q g pc lv (.ref a :: stk) := fun H locs ls hP hS hl => va_getN C.1 C.2.1 C.2.2.2.2.1 F.1 C.2.2.2.1 C.2.2.2.2.2.1 hP q0 he F.2 k0 hk hlink (fun _ h9 => h9) hv hdg (k H locs ls hP hS hl)
theorem v_put (C : xC p s m args c cc own Ts nL D cl w tys A) {Cn : String} {Tf : u_T} {N ci index a : Nat} (F : (∀ q ∈ u_ws Cn Tf N, q ∈ Ts) ∧ cl[ci]? = some (Cn, Tf, N)) (q0 : Nat) {fs : List Value} (he : (w g)[q0]? = some (a, .inr (ci, fs))) (k0 : Nat) (hk : k0 < N) {ty0 : Nat → FieldType} (G : (∀ j, j < N → parseFieldDescriptor (Tf j).2.2.1 = some (ty0 j)) ∧ ∀ a, a < N → ∀ b, b < N → a ≠ b → (Tf a).2.1 ≠ (Tf b).2.1) (hlink : (Cond.fieldLink own index (Tf k0).1 (Tf k0).2.1 (Tf k0).2.2.1).before args s = true) (hfin : (Tf k0).2.2.2 = false) {ty : FieldType} {v : Value} (hd : parseFieldDescriptor (Tf k0).2.2.1 = some ty) (hn : narrow ty v = v) (hfit : fits ty v = true) (hl0 : k0 < fs.length) {g' : xSt} (hw : (w g).set q0 (a, .inr (ci, fs.set k0 v)) = w g') (hdg : decode cc pc = .ok (.putfield index, 3)) (k : xV p l e R s m args below meth c D cl w A nL cells slots Q g' (pc + 3) lv stk) : xV p l e R s m args below meth c D cl w A nL cells slots Q g pc lv (v :: .ref a :: stk) := fun H locs ls hP hS hl => va_put C.1 C.2.1 C.2.2.2.2.1 F.1 ty0 G.1 G.2 C.2.2.2.1 C.2.2.2.2.2.1 hP (C.2.2.2.2.2.2.1 g) hS q0 he F.2 k0 hk hlink (fun _ h9 => h9) hfin hd hn hfit hl0 hdg (fun H1 locs1 hP1 _ hS1 => k H1 locs1 ls (by rw [← hw]; exact hP1) hS1 hl)
theorem v_putN (C : xC p s m args c cc own Ts nL D cl w tys A) {host : String} {Cn : String} {Tf : u_T} {N ci index a : Nat} (F : (∀ q ∈ u_ws Cn Tf N, q ∈ Ts) ∧ cl[ci]? = some (Cn, Tf, N)) (q0 : Nat) {fs : List Value} (he : (w g)[q0]? = some (a, .inr (ci, fs))) (k0 : Nat) (hk : k0 < N) {ty0 : Nat → FieldType} (G : (∀ j, j < N → parseFieldDescriptor (Tf j).2.2.1 = some (ty0 j)) ∧ ∀ a, a < N → ∀ b, b < N → a ≠ b → (Tf a).2.1 ≠ (Tf b).2.1) (hlink : (Cond.fieldLinkNest own index (Tf k0).1 (Tf k0).2.1 (Tf k0).2.2.1 host).before args s = true) (hfin : (Tf k0).2.2.2 = false) {ty : FieldType} {v : Value} (hd : parseFieldDescriptor (Tf k0).2.2.1 = some ty) (hn : narrow ty v = v) (hfit : fits ty v = true) (hl0 : k0 < fs.length) {g' : xSt} (hw : (w g).set q0 (a, .inr (ci, fs.set k0 v)) = w g') (hdg : decode cc pc = .ok (.putfield index, 3)) (k : xV p l e R s m args below meth c D cl w A nL cells slots Q g' (pc + 3) lv stk) : xV p l e R s m args below meth c D cl w A nL cells slots Q g pc lv (v :: .ref a :: stk) := fun H locs ls hP hS hl => va_putN C.1 C.2.1 C.2.2.2.2.1 F.1 ty0 G.1 G.2 C.2.2.2.1 C.2.2.2.2.2.1 hP (C.2.2.2.2.2.2.1 g) hS q0 he F.2 k0 hk hlink (fun _ h9 => h9) hfin hd hn hfit hl0 hdg (fun H1 locs1 hP1 _ hS1 => k H1 locs1 ls (by rw [← hw]; exact hP1) hS1 hl)
theorem v_iald (C : xC p s m args c cc own Ts nL D cl w tys A) (q0 t0 : Nat) {a : Nat} {cA : ClassId} {n : Nat} {f : Nat → Int32} (ha : (w g)[q0]? = some (a, .inl (cA, n, .inl f))) (ht : tys[t0]? = some (cA, .int)) {i : Int32} (hin : ¬ (i < 0 ∨ n ≤ i.toNatClampNeg)) (hdg : decode cc pc = .ok (.iaload, 1)) (k : xV p l e R s m args below meth c D cl w A nL cells slots Q g (pc + 1) lv (.int (f i.toNatClampNeg) :: stk)) : xV p l e R s m args below meth c D cl w A nL cells slots Q g pc lv (.int i :: .ref a :: stk) := fun H locs ls hP hS hl => va_iald C.1 C.2.1 C.2.2.2.2.2.1 hP q0 t0 ha ht hin hdg (k H locs ls hP hS hl)
theorem v_zald (C : xC p s m args c cc own Ts nL D cl w tys A) (q0 t0 : Nat) {a : Nat} {cA : ClassId} {n : Nat} {f : Nat → Int32} (ha : (w g)[q0]? = some (a, .inl (cA, n, .inl f))) (ht : tys[t0]? = some (cA, .boolean)) {i : Int32} (hin : ¬ (i < 0 ∨ n ≤ i.toNatClampNeg)) (hdg : decode cc pc = .ok (.baload, 1)) (k : xV p l e R s m args below meth c D cl w A nL cells slots Q g (pc + 1) lv (.int (f i.toNatClampNeg) :: stk)) : xV p l e R s m args below meth c D cl w A nL cells slots Q g pc lv (.int i :: .ref a :: stk) := fun H locs ls hP hS hl => va_zald C.1 C.2.1 C.2.2.2.2.2.1 hP q0 t0 ha ht hin hdg (k H locs ls hP hS hl)
theorem v_aald (C : xC p s m args c cc own Ts nL D cl w tys A) (q0 t0 : Nat) {a b : Nat} {cA : ClassId} {n : Nat} {Cn : String} {f : Nat → Option Nat} (ha : (w g)[q0]? = some (a, .inl (cA, n, .inr (.inr (.inr (.inr f)))))) (ht : tys[t0]? = some (cA, .object Cn)) {i : Int32} (hin : ¬ (i < 0 ∨ n ≤ i.toNatClampNeg)) (hf : f i.toNatClampNeg = some b) (hdg : decode cc pc = .ok (.aaload, 1)) (k : xV p l e R s m args below meth c D cl w A nL cells slots Q g (pc + 1) lv (.ref b :: stk)) : xV p l e R s m args below meth c D cl w A nL cells slots Q g pc lv (.int i :: .ref a :: stk) := fun H locs ls hP hS hl => va_aldq C.1 C.2.1 C.2.2.2.2.2.1 hP q0 t0 ha ht hin hdg (by rw [hf]; exact k H locs ls hP hS hl)
theorem v_iast (C : xC p s m args c cc own Ts nL D cl w tys A) (q0 t0 : Nat) {a : Nat} {cA : ClassId} {n : Nat} {f : Nat → Int32} (ha : (w g)[q0]? = some (a, .inl (cA, n, .inl f))) (ht : tys[t0]? = some (cA, .int)) {i x : Int32} (hin : ¬ (i < 0 ∨ n ≤ i.toNatClampNeg)) {g' : xSt} (hw : (w g).set q0 (a, .inl (cA, n, .inl (upd f i.toNatClampNeg x))) = w g') (hdg : decode cc pc = .ok (.iastore, 1)) (k : xV p l e R s m args below meth c D cl w A nL cells slots Q g' (pc + 1) lv stk) : xV p l e R s m args below meth c D cl w A nL cells slots Q g pc lv (.int x :: .int i :: .ref a :: stk) := fun H locs ls hP hS hl => va_iast C.1 C.2.1 C.2.2.2.2.2.1 hP (C.2.2.2.2.2.2.1 g) hS q0 t0 ha ht hin hdg (fun H1 locs1 hP1 _ hS1 => k H1 locs1 ls (by rw [← hw]; exact hP1) hS1 hl)
theorem v_zast (C : xC p s m args c cc own Ts nL D cl w tys A) (q0 t0 : Nat) {a : Nat} {cA : ClassId} {n : Nat} {f : Nat → Int32} (ha : (w g)[q0]? = some (a, .inl (cA, n, .inl f))) (ht : tys[t0]? = some (cA, .boolean)) {i x : Int32} (hin : ¬ (i < 0 ∨ n ≤ i.toNatClampNeg)) {g' : xSt} (hw : (w g).set q0 (a, .inl (cA, n, .inl (upd f i.toNatClampNeg (vp_nar .boolean x)))) = w g') (hdg : decode cc pc = .ok (.bastore, 1)) (k : xV p l e R s m args below meth c D cl w A nL cells slots Q g' (pc + 1) lv stk) : xV p l e R s m args below meth c D cl w A nL cells slots Q g pc lv (.int x :: .int i :: .ref a :: stk) := fun H locs ls hP hS hl => va_zast C.1 C.2.1 C.2.2.2.2.2.1 hP (C.2.2.2.2.2.2.1 g) hS q0 t0 ha ht hin hdg (fun H1 locs1 hP1 _ hS1 => k H1 locs1 ls (by rw [← hw]; exact hP1) hS1 hl)
theorem v_lv (h : lv = lv') (k : xV p l e R s m args below meth c D cl w A nL cells slots Q g pc lv' stk) : xV p l e R s m args below meth c D cl w A nL cells slots Q g pc lv stk := h ▸ k
theorem v_g {g' : xSt} (h : g' = g) (k : xV p l e R s m args below meth c D cl w A nL cells slots Q g' pc lv stk) : xV p l e R s m args below meth c D cl w A nL cells slots Q g pc lv stk := h ▸ k
theorem v_sub (ks : List Nat) (h : lv_pick lv ks = lv') (k : xV p l e R s m args below meth c D cl w A nL cells slots Q g pc lv' stk) : xV p l e R s m args below meth c D cl w A nL cells slots Q g pc lv stk := fun H locs ls hP hS hl => k H locs ls hP hS (lv_sub hl ks h)
end XR
/-! calls -/
def xTh (E : String) (t : State) (a : Addr) : Prop := ∃ ce : Cell, t.heap[a]? = some ce ∧ t.vm.findClass E = some ce.cls ∧ ce.vm = .none
def xA (w : xSt → va_W) (sz : Nat) : Nat → Prop := va_A (w (fun _ _ => 0)) sz
def xP (TB : State → Prop) (D : va_G) (cl : List vw_C) (w : xSt → va_W) (tys : List (ClassId × FieldType)) (sz : Nat) (As : List Value) (g : xSt) : Array Value → State → Prop :=
  va_Pc As (fun U => U.heap.size = sz ∧ va_P D cl (w g) U.heap ∧ va_K D cl tys U ∧ va_D (fun _ => True) (w g) ∧ TB U)
def xQ (D : va_G) (cl : List vw_C) (w : xSt → va_W) (A : Nat → Prop) (ov : Option Value ⊕ String) (g' : xSt) : Array Value → State → Outcome → State → Prop := fun _ st oc t =>
  (match ov with | .inl v => oc = .returned v | .inr E => ∃ a : Addr, oc = .threw a ∧ st.heap.size ≤ a ∧ xTh E t a) ∧ va_P D cl (w g') t.heap ∧ va_F A st t
section XCALL
variable {p : Program} {l : Launch} {e : Env} {R : Room} {s : State} {m : MethodId} {args : Array Value} {below : List Frame} {meth : Method} {c : Code} {T : State} {H : Heap} {locs : List Loc} {cells slots : Nat}
variable {y : MethodName} {ws ws' : List Cond} {rm : Room} {Pc : Array Value → State → Prop} {Qc : Array Value → State → Outcome → State → Prop} {mc ms : Nat} {free : Addr → Prop} {cc bytes : ByteArray} {maxL : Nat} {ret : Option FieldType}
/-- what a call does to the caller's walk -/
def xRun (p : Program) (l : Launch) (e : Env) (R : Room) (s : State) (m : MethodId) (args : Array Value) (below : List Frame) (meth : Method) (c : Code) (T : State) (locs : List Loc) (cells slots mc ms : Nat) (g : JFrame) (rest : List Value) (Qa : State → Outcome → State → Prop) (free : Addr → Prop) : Prop :=
  ∃ (o : Outcome) (st₀ t T' : State) (L : List Loc), st₀.heap = T.heap ∧ Stand p l e R s m args below meth c T' (locs ++ L) (cells + mc) (slots + ms) ∧ (∀ q ∈ L, free q.base) ∧ T'.heap = t.heap ∧ T'.vm = t.vm ∧ Qa st₀ o t ∧
    ((∃ v, o = .returned v ∧ ∀ tg, Steps p.tables e below (T'.setTop { g with pc := g.pc + 3, stack := v.toList ++ rest }) tg → Steps p.tables e below (T.setTop g) tg) ∨
     (∃ x, o = .threw x ∧ ∀ tg, Steps p.tables e below ((T'.setTop { g with stack := rest }).pushFrame (.throwing x)) tg → Steps p.tables e below (T.setTop g) tg))
/-- what is asked of a callee's words and room -/
def xCB (R : Room) (s : State) (y : MethodName) (bytes : ByteArray) (maxL : Nat) (ret : Option FieldType) (ws : List Cond) (rm : Room) (mc ms : Nat) : Prop :=
  (rm.cells = mc ∧ rm.slots = ms ∧ rm.frames + 1 ≤ R.frames ∧ 8 + (maxL + 11) + rm.locals ≤ R.locals ∧ (∀ w ∈ ws, ∀ (a' : Array Value) (U : State), s.WarmedH U.vm → w.before a' U = true) ∧ Cond.code y bytes maxL ret ∈ ws) ∧
  (∀ (a' : Array Value) (U : State), s.WarmedH U.vm → (Cond.initialized y.cls).before a' U = true)
theorem xcallS (X : Stand p l e R s m args below meth c T locs cells slots) (hexec : p.tables.exec = Jvm.exec) (hM : xMet l y ws rm Pc Qc mc ms free) (hbl : FrameBlind Pc) (cb : xCB R s y bytes maxL ret ws rm mc ms)
    {own : String} {index : Nat} (hown : s.vm.findClass own = some m.cls) (hlink : (Cond.methodLink own index y).before args s = true) (hstat : (Cond.static y).before args s = true)
    (hy : y.cls ≠ "java/lang/invoke/MethodHandle" ∧ y.cls ≠ "java/lang/invoke/VarHandle")
    {g : JFrame} (hg : g.method = m) (hsize : g.locals.size = c.maxLocals) {argsL rest : List Value} (hlen : ∀ sig, parseMethodDescriptor y.desc = some sig → argsL.length = sig.parameters.length)
    (hstack : g.stack = argsL.reverse ++ rest) (hW : 2 * g.monitorRoom + (rest.map fun v => v.category).sum ≤ 8) (hdg : decode c.code g.pc = .ok (.invokestatic index, 3)) (hc : cells + mc ≤ R.cells) (hs : slots + ms ≤ R.slots)
    (hP : ∀ U : State, U.heap = T.heap → s.WarmedH U.vm → Pc argsL.toArray U) : xRun p l e R s m args below meth c T locs cells slots mc ms g rest (Qc argsL.toArray) free := by
  have hcode : (Cond.code y bytes maxL ret).before args s = true := cb.1.2.2.2.2.1 _ cb.1.2.2.2.2.2 args s (State.WarmedH.refl s)
  have hinit : (Cond.initialized y.cls).before args s = true := cb.2 args s (State.WarmedH.refl s)
  obtain ⟨mk, hnamed⟩ := Cond.code_named hcode
  obtain ⟨methM, cM, hmethM, -, -, -, -, -, -, hsigM⟩ := Cond.code_spec hnamed hcode
  have hstatic : methM.isStatic = true := Cond.static_spec hnamed hmethM hstat
  obtain ⟨kP, hkP, -⟩ := className_of_methodNamed hnamed
  have hinitP : kP.init = .initialized := Cond.initialized_spec (findClass_of_methodNamed hnamed) hkP hinit
  obtain ⟨vm₁, X₁, hstep₁⟩ := X.invokestatic hexec hown hlink hnamed hmethM hstatic hkP hinitP hy (g := g) hg (argsL := argsL) (rest := rest) (hlen _ hsigM) hstack hdg
  obtain ⟨o, t, T', L, X', hL, e1, e2, hq, hst⟩ := xBack hM hbl cb.1 cb.2 X₁ (g := { g with stack := rest }) hg hsize hdg hW (X₁.named hnamed) hc hs (hP (T.setVm vm₁) rfl X₁.warmed)
  refine ⟨o, (T.setVm vm₁).calling { g with stack := rest } mk _, t, T', L, rfl, X', hL, e1, e2, hq, ?_⟩
  rcases hst with ⟨v, hv, h⟩ | ⟨x, hx, h⟩
  · exact Or.inl ⟨v, hv, fun tg ht => hstep₁ _ fun acts => by rw [doInvoke_state]; exact h.trans ht⟩
  · exact Or.inr ⟨x, hx, fun tg ht => hstep₁ _ fun acts => by rw [doInvoke_state]; exact h.trans ht⟩
theorem xcallV (X : Stand p l e R s m args below meth c T locs cells slots) (hexec : p.tables.exec = Jvm.exec) (hM : xMet l y ws rm Pc Qc mc ms free) (hbl : FrameBlind Pc) (cb : xCB R s y bytes maxL ret ws rm mc ms)
    {own C : String} {index : Nat} (hown : s.vm.findClass own = some m.cls) (hlink : (Cond.methodLink own index y).before args s = true) (hinst : (Cond.instanceMethod y).before args s = true) (hsel : (Cond.selects C y y).before args s = true)
    (hy : y.cls ≠ "java/lang/invoke/MethodHandle" ∧ y.cls ≠ "java/lang/invoke/VarHandle")
    {b : Addr} {cellB : Cell} (hcell : T.heap[b]? = some cellB) (hobj : cellB.vm.isStatics = false) (hcls : s.vm.findClass C = some cellB.cls)
    {g : JFrame} (hg : g.method = m) (hsize : g.locals.size = c.maxLocals) {argsL rest : List Value} (hlen : ∀ sig, parseMethodDescriptor y.desc = some sig → argsL.length = sig.parameters.length)
    (hstack : g.stack = argsL.reverse ++ .ref b :: rest) (hW : 2 * g.monitorRoom + (rest.map fun v => v.category).sum ≤ 8) (hdg : decode c.code g.pc = .ok (.invokevirtual index, 3)) (hc : cells + mc ≤ R.cells) (hs : slots + ms ≤ R.slots)
    (hP : ∀ U : State, U.heap = T.heap → s.WarmedH U.vm → Pc (Value.ref b :: argsL).toArray U) : xRun p l e R s m args below meth c T locs cells slots mc ms g rest (Qc (Value.ref b :: argsL).toArray) free := by
  have hcode : (Cond.code y bytes maxL ret).before args s = true := cb.1.2.2.2.2.1 _ cb.1.2.2.2.2.2 args s (State.WarmedH.refl s)
  obtain ⟨mk, methM, hnamed, hmethM, hstM, habM⟩ := Cond.instanceMethod_spec hinst
  obtain ⟨methM', cM, hmethM', -, -, -, -, -, -, hsigM⟩ := Cond.code_spec hnamed hcode
  cases hmethM.symm.trans hmethM'
  obtain ⟨c2, r2, m2, q1, q2, q3, q4, kP, hkP, hkPi⟩ := Cond.selects_spec hsel
  cases hcls.symm.trans q1
  cases (State.methodFound?_of_named hnamed hy).symm.trans q2
  cases hnamed.symm.trans q3
  have hselP : selectMethod e.platform s.vm cellB.cls mk = .method mk := by rw [Launch.admits_selectMethod X.admits]; exact q4
  obtain ⟨vm₁, X₁, hstep₁⟩ := X.invokevirtual hexec hown hlink hnamed hmethM hstM hkP hkPi hy (a := b) (cell := cellB) hcell
    (fun z h => by rw [h] at hobj; cases hobj) hselP hmethM habM hkP hkPi (g := g) hg (argsL := argsL) (rest := rest) (hlen _ hsigM) hstack hdg
  obtain ⟨o, t, T', L, X', hL, e1, e2, hq, hst⟩ := xBack hM hbl cb.1 cb.2 X₁ (g := { g with stack := rest }) hg hsize hdg hW (X₁.named hnamed) hc hs (hP (T.setVm vm₁) rfl X₁.warmed)
  refine ⟨o, (T.setVm vm₁).calling { g with stack := rest } mk _, t, T', L, rfl, X', hL, e1, e2, hq, ?_⟩
  rcases hst with ⟨v, hv, h⟩ | ⟨x, hx, h⟩
  · exact Or.inl ⟨v, hv, fun tg ht => hstep₁ _ fun acts => by rw [doInvoke_state]; exact h.trans ht⟩
  · exact Or.inr ⟨x, hx, fun tg ht => hstep₁ _ fun acts => by rw [doInvoke_state]; exact h.trans ht⟩
theorem xcallVN (X : Stand p l e R s m args below meth c T locs cells slots) (hexec : p.tables.exec = Jvm.exec) (hM : xMet l y ws rm Pc Qc mc ms free) (hbl : FrameBlind Pc) (cb : xCB R s y bytes maxL ret ws rm mc ms)
    {own C host : String} {index : Nat} (hown : s.vm.findClass own = some m.cls) (hlink : (Cond.methodLinkNest own index y host).before args s = true) (hinst : (Cond.instanceMethod y).before args s = true) (hsel : (Cond.selects C y y).before args s = true)
    (hy : y.cls ≠ "java/lang/invoke/MethodHandle" ∧ y.cls ≠ "java/lang/invoke/VarHandle")
    {b : Addr} {cellB : Cell} (hcell : T.heap[b]? = some cellB) (hobj : cellB.vm.isStatics = false) (hcls : s.vm.findClass C = some cellB.cls)
    {g : JFrame} (hg : g.method = m) (hsize : g.locals.size = c.maxLocals) {argsL rest : List Value} (hlen : ∀ sig, parseMethodDescriptor y.desc = some sig → argsL.length = sig.parameters.length)
    (hstack : g.stack = argsL.reverse ++ .ref b :: rest) (hW : 2 * g.monitorRoom + (rest.map fun v => v.category).sum ≤ 8) (hdg : decode c.code g.pc = .ok (.invokevirtual index, 3)) (hc : cells + mc ≤ R.cells) (hs : slots + ms ≤ R.slots)
    (hP : ∀ U : State, U.heap = T.heap → s.WarmedH U.vm → Pc (Value.ref b :: argsL).toArray U) : xRun p l e R s m args below meth c T locs cells slots mc ms g rest (Qc (Value.ref b :: argsL).toArray) free := by
  have hcode : (Cond.code y bytes maxL ret).before args s = true := cb.1.2.2.2.2.1 _ cb.1.2.2.2.2.2 args s (State.WarmedH.refl s)
  obtain ⟨mk, methM, hnamed, hmethM, hstM, habM⟩ := Cond.instanceMethod_spec hinst
  obtain ⟨methM', cM, hmethM', -, -, -, -, -, -, hsigM⟩ := Cond.code_spec hnamed hcode
  cases hmethM.symm.trans hmethM'
  obtain ⟨c2, r2, m2, q1, q2, q3, q4, kP, hkP, hkPi⟩ := Cond.selects_spec hsel
  cases hcls.symm.trans q1
  cases (State.methodFound?_of_named hnamed hy).symm.trans q2
  cases hnamed.symm.trans q3
  have hselP : selectMethod e.platform s.vm cellB.cls mk = .method mk := by rw [Launch.admits_selectMethod X.admits]; exact q4
  obtain ⟨vm₁, X₁, hstep₁⟩ := X.invokevirtualNest hexec hown hlink hnamed hmethM hstM hkP hkPi hy (a := b) (cell := cellB) hcell
    (fun z h => by rw [h] at hobj; cases hobj) hselP hmethM habM hkP hkPi (g := g) hg (argsL := argsL) (rest := rest) (hlen _ hsigM) hstack hdg
  obtain ⟨o, t, T', L, X', hL, e1, e2, hq, hst⟩ := xBack hM hbl cb.1 cb.2 X₁ (g := { g with stack := rest }) hg hsize hdg hW (X₁.named hnamed) hc hs (hP (T.setVm vm₁) rfl X₁.warmed)
  refine ⟨o, (T.setVm vm₁).calling { g with stack := rest } mk _, t, T', L, rfl, X', hL, e1, e2, hq, ?_⟩
  rcases hst with ⟨v, hv, h⟩ | ⟨x, hx, h⟩
  · exact Or.inl ⟨v, hv, fun tg ht => hstep₁ _ fun acts => by rw [doInvoke_state]; exact h.trans ht⟩
  · exact Or.inr ⟨x, hx, fun tg ht => hstep₁ _ fun acts => by rw [doInvoke_state]; exact h.trans ht⟩
end XCALL
/-! calls, returns, throws and the entry, in the calculus -/
section XVC
variable {p : Program} {l : Launch} {e : Env} {R : Room} {s : State} {m : MethodId} {args : Array Value} {below : List Frame} {meth : Method} {c : Code} {D : va_G} {cl : List vw_C} {w : xSt → va_W} {A : Nat → Prop} {nL cells slots : Nat} {Q : State → Prop}
variable {cc : ByteArray} {own : String} {Ts : List Cond} {tys : List (ClassId × FieldType)} {g g' : xSt} {pc mc ms : Nat} {lv lv' : List (Nat × Value)} {stk rest : List Value} {v : Option Value} {E : String} {a : Array Value}
theorem xA_sub (C : xC p s m args c cc own Ts nL D cl w tys A) {sz q : Nat} (hz : s.heap.size ≤ sz) (h : xA w sz q) : A q := by
  rcases h with ⟨k, e, h⟩ | h
  · exact (C.2.2.2.2.2.2.1 _).2 k _ h
  · exact C.2.2.2.2.2.2.2 q (Nat.le_trans hz h)
theorem xS_call (C : xC p s m args c cc own Ts nL D cl w tys A) {H : Heap} {t st₀ : State} {locs L : List Loc} (hS : va_S A s.heap H locs) (h0 : st₀.heap = H) (hF : va_F (xA w H.size) st₀ t) (hL : ∀ q ∈ L, xA w H.size q.base) : va_S A s.heap t.heap (locs ++ L) := by
  obtain ⟨hz, hk⟩ := hF
  rw [h0] at hz hk
  refine ⟨Nat.le_trans hS.1 hz, fun q h1 h2 => ?_, fun q hq => ?_⟩
  · rw [hk q (Nat.lt_of_lt_of_le h1 hS.1) (fun z => h2 (xA_sub C hS.1 z))]
    exact hS.2.1 q h1 h2
  · rcases List.mem_append.mp hq with h | h
    · exact hS.2.2 q h
    · exact xA_sub C hS.1 (hL q h)
theorem v_back (C : xC p s m args c cc own Ts nL D cl w tys A)
    (run : ∀ (T : State) (locs : List Loc) (ls : Array Slot), va_P D cl (w g) T.heap → va_S A s.heap T.heap locs → ls.size = nL → Stand p l e R s m args below meth c T locs cells slots → xRun p l e R s m args below meth c T locs cells slots mc ms (F0 m pc ls stk) rest (xQ D cl w (xA w T.heap.size) (.inl v) g' a) (xA w T.heap.size))
    (k : xV p l e R s m args below meth c D cl w A nL (cells + mc) (slots + ms) Q g' (pc + 3) lv (v.toList ++ rest)) : xV p l e R s m args below meth c D cl w A nL cells slots Q g pc lv stk := by
  intro H locs ls hP hS hl T hT X
  subst hT
  obtain ⟨o, st₀, t, T', L, h0, X', hL, e1, e2, ⟨ho, hP', hF⟩, hst⟩ := run T locs ls hP hS hl.1 X
  have ho : o = .returned v := ho
  rcases hst with ⟨v', hv', h⟩ | ⟨x, hx, h⟩
  · have hvv : v' = v := by have := hv'.symm.trans ho; cases this; rfl
    subst hvv
    obtain ⟨t2, a1, b1⟩ := k T'.heap (locs ++ L) ls (by rw [e1]; exact hP') (by rw [e1]; exact xS_call C hS h0 hF hL) hl T' rfl X'
    exact ⟨t2, h t2 a1, b1⟩
  · have := hx.symm.trans ho
    cases this
/-- a call that throws out of this method -/
theorem v_out (C : xC p s m args c cc own Ts nL D cl w tys A)
    (run : ∀ (T : State) (locs : List Loc) (ls : Array Slot), va_P D cl (w g) T.heap → va_S A s.heap T.heap locs → ls.size = nL → Stand p l e R s m args below meth c T locs cells slots → xRun p l e R s m args below meth c T locs cells slots mc ms (F0 m pc ls stk) rest (xQ D cl w (xA w T.heap.size) (.inr E) g' a) (xA w T.heap.size))
    (hout : ∀ x ∈ c.exceptionTable.toList, covers x pc = false) (hlocks : meth.locks = false) {mc' ms' : Nat} (h1 : cells + mc ≤ mc') (h2 : slots + ms ≤ ms') :
    xV p l e R s m args below meth c D cl w A nL cells slots (xMQ below (xQ D cl w A (.inr E) g') args s mc' ms' A) g pc lv stk := by
  intro H locs ls hP hS hl T hT X
  subst hT
  obtain ⟨o, st₀, t, T', L, h0, X', hL, e1, e2, ⟨ho, hP', hF⟩, hst⟩ := run T locs ls hP hS hl.1 X
  obtain ⟨x, ho, hx, hth⟩ : ∃ x : Addr, o = .threw x ∧ st₀.heap.size ≤ x ∧ xTh E t x := ho
  rcases hst with ⟨v', hv', h⟩ | ⟨x', hx', h⟩
  · have := hv'.symm.trans ho
    cases this
  · have hxx : x' = x := by have := hx'.symm.trans ho; cases this; rfl
    subst hxx
    have X'' := stand_widen X' h1 h2
    obtain ⟨q1, q2, q3, q4, q5⟩ := X''.leaveThrown x' (g := { F0 m pc ls stk with stack := rest }) rfl rfl rfl hout hlocks
    have hS' := xS_call C hS h0 hF hL
    refine ⟨_, h _ q1, .threw x', q2, q3, ⟨⟨x', rfl, by rw [h0] at hx; exact Nat.le_trans hS.1 hx, ?_⟩, ?_, ?_⟩, locs ++ L, ⟨q4, q5⟩, hS'.2.2⟩
    · obtain ⟨ce, c1, c2, c3⟩ := hth
      exact ⟨ce, by show T'.heap[x']? = _; rw [e1]; exact c1, by show T'.vm.findClass E = _; rw [e2]; exact c2, c3⟩
    · show va_P D cl (w g') T'.heap
      rw [e1]; exact hP'
    · rw [← e1] at hS'
      exact hS'.F rfl
theorem v_iret (C : xC p s m args c cc own Ts nL D cl w tys A) {r : Int32} {ty : FieldType} (hr : meth.sig.returnType = some ty) (hn : narrow ty (.int r) = .int r) (hdg : decode cc pc = .ok (.ireturn, 1)) (hlocks : meth.locks = false) {mc' ms' : Nat} (h1 : cells ≤ mc') (h2 : slots ≤ ms') :
    xV p l e R s m args below meth c D cl w A nL cells slots (xMQ below (xQ D cl w A (.inl (some (.int r))) g) args s mc' ms' A) g pc lv [.int r] :=
  fun H locs ls hP hS hl => W.widen h1 h2 (xiret C.1 C.2.1 hr hn (fun t ht hW => ⟨rfl, by rw [ht]; exact hP, hS.F ht⟩) hS.2.2 hdg hlocks)
theorem v_vret (C : xC p s m args c cc own Ts nL D cl w tys A) (hr : meth.sig.returnType = none) (hdg : decode cc pc = .ok (.return_, 1)) (hlocks : meth.locks = false) {mc' ms' : Nat} (h1 : cells ≤ mc') (h2 : slots ≤ ms') :
    xV p l e R s m args below meth c D cl w A nL cells slots (xMQ below (xQ D cl w A (.inl none) g) args s mc' ms' A) g pc lv [] :=
  fun H locs ls hP hS hl => W.widen h1 h2 (xvret C.1 C.2.1 hr (fun t ht hW => ⟨rfl, by rw [ht]; exact hP, hS.F ht⟩) hS.2.2 hdg hlocks)
theorem x_start {As : List Value} (hV : xV p l e R s m args below meth c D cl w A nL cells slots Q g 0 (lv_args 0 As) []) (hP : va_P D cl (w g) s.heap) (hn : (lg_sl As).length ≤ nL) : W p l e R s m args below meth c s.heap [] cells slots Q (entryFrame m As.toArray nL) := by
  rw [lg_entry_eq]
  exact hV s.heap [] _ hP va_S.rf (lv_entry As hn)
end XVC
