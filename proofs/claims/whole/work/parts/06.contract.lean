/-! contracts over the one world: what every method is given (tables, texts, Throwable's statics), how it is entered, how it calls -/
theorem xok_warm {s U : State} (hW : s.WarmedH U.vm) {q : Cond} (hk : xok q = true) {a a' : Array Value} (h : q.before a s = true) : q.before a' U = true := by
  have key : ∀ q : Cond, (q.onTables && q.keepsH) = true → q.before a s = true → q.before a' U = true := by
    intro q hk h
    simp only [Bool.and_eq_true] at hk
    have h1 := Cond.onTables_warmH (T := U) (args' := a') hW hk.1 hk.2 h
    rwa [State.setVm_self] at h1
  cases q with
  | castable x y => exact va_Nw.use rfl (va_Nw.warmC hW (va_Nw.of rfl h))
  | declares x => exact va_Nw.use rfl (va_Nw.warmD hW (va_Nw.of rfl h))
  | arrayClass ty => exact word_at hW (Or.inr ⟨ty, rfl⟩) h
  | _ => exact key _ hk h
def xTB (U : State) : Prop := ∀ (a : Array Value) (q : Cond), q ∈ xT → q.before a U = true
theorem xTB.warm {s U : State} (hW : s.WarmedH U.vm) (h : xTB s) : xTB U := fun a q hq => xok_warm hW (List.mem_filter.mp hq).2 (h a q hq)
theorem xTB.same {s U : State} (hv : U.vm = s.vm) (h : xTB s) : xTB U := by
  refine h.warm ?_
  rw [hv]; exact State.WarmedH.refl s
/-- the texts of the messages -/
abbrev xtx : List (Nat × String) := [(195, "a number is outside its range"), (200, "there is no room"), (190, "there is none of this number"), (105, "matches that stand hold too many pallets"), (164, "the arrival is in a pair")]
def xSR (U : State) : Prop := ∀ q ∈ xtx, ∃ a : Nat, vk_R "CrossDock" q.1 q.2 a U
theorem xSR.warm {s U : State} (hW : s.WarmedH U.vm) (h : xSR s) : xSR U := fun q hq => by
  obtain ⟨a, ha⟩ := h q hq
  exact ⟨a, ha.warm hW⟩
/-- Throwable's two statics -/
abbrev xsts : List Cond := [.laysStatic "java/lang/Throwable" "UNASSIGNED_STACK" "[Ljava/lang/StackTraceElement;", .laysStatic "java/lang/Throwable" "SUPPRESSED_SENTINEL" "Ljava/util/List;", .isRef (.static "java/lang/Throwable" "UNASSIGNED_STACK" "[Ljava/lang/StackTraceElement;"), .isRef (.static "java/lang/Throwable" "SUPPRESSED_SENTINEL" "Ljava/util/List;")]
def xST (w : xSt → va_W) (U : State) : Prop := ∃ aS : Nat, aS < U.heap.size ∧ (∀ (k : Nat) (e : va_E), (w (fun _ _ => 0))[k]? ≠ some (aS, e)) ∧ ∀ V : State, U.vm.Alike V.vm → V.heap[aS]? = U.heap[aS]? → ∀ (a : Array Value), ∀ q ∈ xsts, q.before a V = true
theorem xST.moved {w : xSt → va_W} {s U : State} (hvm : s.vm.Alike U.vm) (hz : s.heap.size ≤ U.heap.size) (hk : ∀ q : Nat, q < s.heap.size → ¬ xA w s.heap.size q → U.heap[q]? = s.heap[q]?) (h : xST w s) : xST w U := by
  obtain ⟨aS, h1, h2, h3⟩ := h
  have e : U.heap[aS]? = s.heap[aS]? := hk aS h1 (by
    rintro (⟨k, x, hx⟩ | hx)
    · exact h2 k x hx
    · omega)
  exact ⟨aS, by omega, h2, fun V hv he => h3 V (hvm.trans hv) (he.trans e)⟩
/-- what no exception of one class is -/
abbrev xex : List String := ["java/lang/IllegalArgumentException", "java/lang/UnsupportedOperationException", "java/util/NoSuchElementException", "java/lang/IllegalStateException"]
def xNC (U : State) : Prop := ∀ x ∈ xex, ∀ y ∈ xex, x ≠ y → (Cond.castable x y).before #[] U = false
theorem xNC.warm {s U : State} (hW : s.WarmedH U.vm) (h : xNC s) : xNC U := fun x hx y hy hne => by
  have h1 : (Cond.castable x y).before #[] (s.setVm U.vm) = (Cond.castable x y).before #[] s := Cond.castable_setVm hW.alike x y
  have h2 : (Cond.castable x y).before #[] (s.setVm U.vm) = (Cond.castable x y).before #[] (U.setVm U.vm) := Cond.onTables_vm U.vm _ rfl
  rw [State.setVm_self] at h2
  rw [← h2, h1]; exact h x hx y hy hne
def xE (w : xSt → va_W) (U : State) : Prop := xTB U ∧ xSR U ∧ xNC U ∧ xST w U
theorem xE.moved {w : xSt → va_W} {s U : State} (hW : s.WarmedH U.vm) (hz : s.heap.size ≤ U.heap.size) (hk : ∀ q : Nat, q < s.heap.size → ¬ xA w s.heap.size q → U.heap[q]? = s.heap[q]?) (h : xE w s) : xE w U :=
  ⟨h.1.warm hW, h.2.1.warm hW, h.2.2.1.warm hW, h.2.2.2.moved hW.alike hz hk⟩
theorem xE.calling {w : xSt → va_W} {U : State} {g : JFrame} {mk : MethodId} {a : Array Value} (h : xE w U) : xE w (U.calling g mk a) :=
  h.moved (s := U) (U := U.calling g mk a) (State.WarmedH.refl U) (Nat.le_refl _) (fun _ _ _ => rfl)
theorem xP_blind {D : va_G} {ad : Nat → Nat} {ca : Nat → ClassId} {sz : Nat} {As : List Value} {g : xSt} : FrameBlind (xP (xE (wX ad ca)) D xcl (wX ad ca) (tyX ca) sz As g) := fun a U gf mk q => by
  obtain ⟨q0, q1, qP, qK, qD, qE⟩ := q
  exact ⟨q0, q1, qP, va_K.moved (u := U) (U := U.calling gf mk a) (Vm.Alike.refl U.vm) qK, qD, qE.calling⟩
/-- a method's contract over the one world: from the state g with these arguments to this outcome and the state g' -/
def xM (l : Launch) (y : MethodName) (cw : Cond) (rm : Room) (As : (Nat → Nat) → List Value) (g : xSt) (ov : Option Value ⊕ String) (g' : xSt) (mc ms : Nat) : Prop :=
  ∀ (D : va_G) (ad : Nat → Nat) (ca : Nat → ClassId) (sz : Nat), xMet l y [cw] rm (xP (xE (wX ad ca)) D xcl (wX ad ca) (tyX ca) sz (As ad) g) (xQ D xcl (wX ad ca) (xA (wX ad ca) sz) ov g') mc ms (xA (wX ad ca) sz)
/-- no cell that a method may change is a class's statics -/
def xNS (w : xSt → va_W) (s : State) : Prop := ∀ q : Nat, xA w s.heap.size q → ∀ cell, s.heap[q]? = some cell → cell.vm.isStatics = false
theorem xNS_of {D : va_G} {ad : Nat → Nat} {ca : Nat → ClassId} {s : State} {g0 : xSt} (hP : va_P D xcl (wX ad ca g0) s.heap) : xNS (wX ad ca) s := by
  intro x hx cell hc
  rcases hx with ⟨k, en, hk⟩ | h
  · have h1 : ((wX ad ca g0).map (·.1))[k]? = some x := by rw [wX_fst ad ca g0 (fun _ _ => 0), List.getElem?_map, hk]; rfl
    rw [List.getElem?_map] at h1
    cases hq : (wX ad ca g0)[k]? with
    | none => rw [hq] at h1; cases h1
    | some q =>
      rw [hq] at h1
      have e1 : q.1 = x := Option.some.inj h1
      have h2 := hP k q hq
      unfold va_at at h2
      rw [e1] at h2
      split at h2
      · rename_i a0 _
        rw [hc] at h2
        rw [Option.some.inj h2]
        obtain ⟨cA, n, f | f | f | f | f⟩ := a0 <;> rfl
      · obtain ⟨r, -, cell', c1, -, c3, -⟩ := h2
        rw [hc] at c1
        rw [Option.some.inj c1, c3]; rfl
  · have := (Array.getElem?_eq_some_iff.mp hc).1
    omega
/-- the walk's context in a method of this world -/
def xX (p : Program) (s : State) (m : MethodId) (args : Array Value) (meth : Method) (c : Code) (cc : ByteArray) (own : String) (nL : Nat) (ret : Option FieldType) (D : va_G) (ad : Nat → Nat) (ca : Nat → ClassId) : Prop :=
  xC p s m args c cc own xT nL D xcl (wX ad ca) (tyX ca) (xA (wX ad ca) s.heap.size) ∧ xE (wX ad ca) s ∧ meth.sig.returnType = ret ∧ meth.locks = false ∧ xNS (wX ad ca) s
theorem x_D {A : Nat → Prop} {ad : Nat → Nat} {ca : Nat → ClassId} {g : xSt} (h : va_D A (wX ad ca g)) (sz : Nat) : ∀ g', va_D (xA (wX ad ca) sz) (wX ad ca g') := fun g' => va_D.of_fst (wX_fst ad ca (fun _ _ => 0) g') ((va_D.of_fst (wX_fst ad ca g (fun _ _ => 0)) h).self)
theorem x_contract {l : Launch} {y : MethodName} {bytes : ByteArray} {maxL : Nat} {ret : Option FieldType} {rm : Room} {As : (Nat → Nat) → List Value} {g g' : xSt} {ov : Option Value ⊕ String} {mc ms : Nat} (hy : plainName y.cls = true) (hn : ∀ ad, (lg_sl (As ad)).length ≤ maxL)
    (body : ∀ (p : Program) (e : Env) (s : State) (m : MethodId) (below : List Frame) (meth : Method) (c : Code) (D : va_G) (ad : Nat → Nat) (ca : Nat → ClassId), xX p s m (As ad).toArray meth c bytes y.cls maxL ret D ad ca → c.exceptionTable.toList = [] →
      xV p l e rm s m (As ad).toArray below meth c D xcl (wX ad ca) (xA (wX ad ca) s.heap.size) maxL 0 0 (xMQ below (xQ D xcl (wX ad ca) (xA (wX ad ca) s.heap.size) ov g') (As ad).toArray s mc ms (xA (wX ad ca) s.heap.size)) g 0 (lv_args 0 (As ad)) []) :
    xM l y (.code y bytes maxL ret) rm As g ov g' mc ms := by
  intro D ad ca sz
  refine xMet.ofW (cc := bytes) (maxL := maxL) (ret := ret) (ws' := []) hy rfl ?_
  intro p e s m args below meth c s₁ B hml hv
  obtain ⟨rfl, hsz, hP, hK, hD, hE⟩ := hv
  subst hsz
  have hcode := atoms_spec (ws := [Cond.code y bytes maxL ret]) B.pre _ List.mem_cons_self
  have hempty := B.noHandlers hcode
  have hno : c.exceptionTable.toList = [] := List.eq_nil_of_length_eq_zero (by simpa [Array.isEmpty] using hempty)
  have hown : s.vm.findClass y.cls = some m.cls := findClass_of_methodNamed B.named
  exact x_start (body p e s m below meth c D ad ca ⟨⟨B.exec, B.bytes, hml, hown, fun q hq => hE.1 _ q hq, hK, x_D hD _, fun q h => Or.inr h⟩, hE, B.returns, B.notSynchronized, xNS_of hP⟩ hno) hP (hn ad)
section XW
variable {p : Program} {l : Launch} {e : Env} {R : Room} {s : State} {m : MethodId} {args : Array Value} {below : List Frame} {meth : Method} {c : Code} {D : va_G} {ad : Nat → Nat} {ca : Nat → ClassId} {nL cells slots : Nat} {Q : State → Prop}
variable {cc : ByteArray} {own : String} {g g' : xSt} {pc mc ms : Nat} {lv lv' : List (Nat × Value)} {stk rest : List Value} {v : Option Value} {E : String} {rt : Option FieldType}
variable {y : MethodName} {bytes : ByteArray} {maxL : Nat} {ret : Option FieldType} {rm : Room} {As : (Nat → Nat) → List Value} {ov : Option Value ⊕ String}
theorem xX.t (X : xX p s m args meth c cc own nL rt D ad ca) {i : Nat} {q : Cond} (h : lw_tbl[i]? = some q) (hq : xok q = true) : q.before args s = true := X.1.2.2.2.2.1 q (List.mem_filter.mpr ⟨List.mem_of_getElem? h, hq⟩)
/-- what a callee is given -/
theorem x_pre (X : xX p s m args meth c cc own nL rt D ad ca) {H : Heap} {locs : List Loc} (hP : va_P D xcl (wX ad ca g) H) (hS : va_S (xA (wX ad ca) s.heap.size) s.heap H locs) (L : List Value) : ∀ U : State, U.heap = H → s.WarmedH U.vm → xP (xE (wX ad ca)) D xcl (wX ad ca) (tyX ca) H.size L g L.toArray U := by
  intro U hU hW
  subst hU
  exact ⟨rfl, rfl, hP, va_K.moved hW.alike X.1.2.2.2.2.2.1, (X.1.2.2.2.2.2.2.1 g).weaken (fun _ _ _ _ => trivial), X.2.1.moved hW hS.1 hS.2.1⟩
theorem x_cb (X : xX p s m args meth c cc own nL rt D ad ca) {i j : Nat} (hc : lw_tbl[i]? = some (Cond.code y bytes maxL ret)) (hi : lw_tbl[j]? = some (Cond.initialized y.cls)) (hr : rm.cells = mc ∧ rm.slots = ms ∧ rm.frames + 1 ≤ R.frames ∧ 8 + (maxL + 11) + rm.locals ≤ R.locals) : xCB R s y bytes maxL ret [Cond.code y bytes maxL ret] rm mc ms :=
  ⟨⟨hr.1, hr.2.1, hr.2.2.1, hr.2.2.2, fun w hw a' U hW => by rw [List.mem_singleton.mp hw]; exact xok_warm hW rfl (X.t hc rfl), List.mem_singleton.mpr rfl⟩, fun a' U hW => xok_warm hW rfl (X.t hi rfl)⟩
theorem x_len {n : Nat} (h : (parseMethodDescriptor y.desc).map (fun d => d.parameters.length) = some n) : ∀ sig, parseMethodDescriptor y.desc = some sig → n = sig.parameters.length := fun sig hs => by
  rw [hs] at h
  exact (Option.some.inj h).symm
theorem x_runS (X : xX p s m args meth c cc own nL rt D ad ca) (hM : xM l y (.code y bytes maxL ret) rm As g ov g' mc ms) {i1 i2 i3 i4 index : Nat} (h1 : lw_tbl[i1]? = some (Cond.code y bytes maxL ret)) (h2 : lw_tbl[i2]? = some (Cond.initialized y.cls)) (h3 : lw_tbl[i3]? = some (Cond.methodLink own index y)) (h4 : lw_tbl[i4]? = some (Cond.static y))
    (hr : rm.cells = mc ∧ rm.slots = ms ∧ rm.frames + 1 ≤ R.frames ∧ 8 + (maxL + 11) + rm.locals ≤ R.locals) (hy : (y.cls ≠ "java/lang/invoke/MethodHandle" ∧ y.cls ≠ "java/lang/invoke/VarHandle") ∧ (parseMethodDescriptor y.desc).map (fun d => d.parameters.length) = some (As ad).length)
    (hstk : (As ad).reverse ++ rest = stk) (hW : (rest.map fun v => v.category).sum ≤ 8) (hdg : decode cc pc = .ok (.invokestatic index, 3)) (hc : cells + mc ≤ R.cells) (hs : slots + ms ≤ R.slots) :
    ∀ (T : State) (locs : List Loc) (ls : Array Slot), va_P D xcl (wX ad ca g) T.heap → va_S (xA (wX ad ca) s.heap.size) s.heap T.heap locs → ls.size = nL → Stand p l e R s m args below meth c T locs cells slots → xRun p l e R s m args below meth c T locs cells slots mc ms (F0 m pc ls stk) rest (xQ D xcl (wX ad ca) (xA (wX ad ca) T.heap.size) ov g' (As ad).toArray) (xA (wX ad ca) T.heap.size) := by
  intro T locs ls hP hS hl St
  exact xcallS St X.1.1 (hM D ad ca T.heap.size) xP_blind (x_cb X h1 h2 hr) X.1.2.2.2.1 (X.t h3 rfl) (X.t h4 rfl) hy.1 (g := F0 m pc ls stk) rfl (hl.trans X.1.2.2.1.symm) (argsL := As ad) (rest := rest) (x_len hy.2) hstk.symm (by show 2 * 0 + _ ≤ 8; omega) (by rw [X.1.2.1]; exact hdg) hc hs (x_pre X hP hS (As ad))
end XW
