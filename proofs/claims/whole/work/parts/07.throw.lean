/-! throw new E("text"), the launch without stack traces -/
theorem th_a0 : ∀ q ∈ Bundle.throwableAtoms, q ∈ xT ∨ q ∈ xsts := by decide +kernel
theorem th_a1 : ∀ q ∈ Bundle.throwableSAtoms, q ∈ xT := by decide +kernel
theorem th_a2 : ∀ q ∈ Bundle.chainSAtoms "java/lang/RuntimeException" ["java/lang/Exception"], q ∈ xT := by decide +kernel
/-- what the tables say of an exception's class -/
def thW (X : String) (i : Nat) (bytes : ByteArray) : List Cond := Bundle.passSAtoms X "java/lang/RuntimeException" i bytes ++ [.instantiable X 6, .castable X X, .selects X Bundle.tFill0 Bundle.tFill0, .selects X Bundle.tFill Bundle.tFill,
   .lays X Bundle.tN "cause" "Ljava/lang/Throwable;", .lays X Bundle.tN "stackTrace" Bundle.steD, .lays X Bundle.tN "suppressedExceptions" Bundle.listD, .lays X Bundle.tN "detailMessage" "Ljava/lang/String;",
   .fieldLink Bundle.tN 198 Bundle.tN "backtrace" "Ljava/lang/Object;", .lays Bundle.tN Bundle.tN "backtrace" "Ljava/lang/Object;", .lays X Bundle.tN "backtrace" "Ljava/lang/Object;"]
theorem xE.static {w : xSt → va_W} {s : State} (h : xE w s) (a : Array Value) : ∀ q ∈ xsts, q.before a s = true := by
  obtain ⟨aS, -, -, h3⟩ := h.2.2.2
  exact h3 s (Vm.Alike.refl _) rfl a
section XTH
variable {p : Program} {l : Launch} {e : Env} {R : Room} {s : State} {m : MethodId} {args : Array Value} {below : List Frame} {meth : Method} {c : Code} {W : State} {locs : List Loc} {cells slots : Nat}
set_option maxHeartbeats 1000000 in
/-- the constructor of a fresh exception, called with a text: it comes back, and only the new cell has changed -/
theorem x_ctor (X : Stand p l e R s m args below meth c W locs cells slots) (hexec : p.tables.exec = Jvm.exec) (htr : e.platform.stackTraces = false) {w : xSt → va_W} (hE : xE w s) {own cls : String} {ic i1 : Nat} {b1 : ByteArray}
    (hown : s.vm.findClass own = some m.cls) (hcls : Bundle.fit cls = true) (hd0 : decode b1 0 = .ok (.aload_n 0, 1)) (hd1 : decode b1 1 = .ok (.aload_n 1, 1)) (hd2 : decode b1 2 = .ok (.invokespecial i1, 3)) (hd5 : decode b1 5 = .ok (.return_, 1))
    (hw : ∀ q ∈ thW cls i1 b1, q ∈ xT) (hml : Cond.methodLink own ic (Bundle.initS cls) ∈ xT)
    (hlocs : ∀ x ∈ locs, ∀ cell, s.heap[x.base]? = some cell → cell.vm.isStatics = false)
    {a : Addr} {cX : ClassId} {kX : Class} (hfoundX : s.vm.findClass cls = some cX) (hkX : s.vm.classes[cX]? = some kX) (hcell : W.heap[a]? = some (freshCell cX kX)) (hnew : s.heap.size ≤ a)
    {msg : Value} (hmsg : msg.isRef = true)
    {g : JFrame} (hg : g.method = m) (hsize : g.locals.size = c.maxLocals) {rest : List Value} (hstack : g.stack = msg :: .ref a :: rest) (hd6 : decode c.code g.pc = .ok (.invokespecial ic, 3))
    (hRframes : 5 < R.frames) (hRlocals : 2 * g.monitorRoom + (rest.map fun v => v.category).sum + 81 ≤ R.locals) :
    ∃ (T' : State) (L : List Loc) (ce : Cell), Stand p l e R s m args below meth c T' (locs ++ L) cells slots ∧ (∀ x ∈ L, x.base = a) ∧ T'.heap = W.heap.setIfInBounds a ce ∧ ce.cls = cX ∧ ce.vm = .none ∧
      ∀ tg, Steps p.tables e below (T'.setTop { g with pc := g.pc + 3, stack := rest }) tg → Steps p.tables e below (W.setTop g) tg := by
  have howns : e.platform.frameOwnsMonitors = true := by rw [X.admits.platform]
  have hfin : e.platform.finalization = false := by rw [X.admits.platform]
  have hpl : e.platform.magicAccessors = ({} : Platform).magicAccessors := by rw [X.admits.platform]
  have hst := hE.static args
  have htb : ∀ q ∈ xT, q.before args s = true := fun q hq => hE.1 args q hq
  have tw : ∀ q ∈ thW cls i1 b1, q.holds args s none s [] = true := fun q hq => htb q (hw q hq)
  obtain ⟨T, Z0, L, -, Y⟩ := ThrowableC.of_atoms (args := args) howns hfin hpl (fun q hq => (th_a0 q hq).elim (htb q) (hst q))
  obtain ⟨Z, M, LZ, LM, hnZ⟩ := Init0T.ofS_atoms (args := args) hpl L Y (fun q hq => htb q (th_a1 q hq))
  obtain ⟨P2, Ps, hlen, L2, hL, hP2m, hlink2, hlink⟩ := Bundle.chainS (args := args) hpl hnZ ["java/lang/Exception"] "java/lang/RuntimeException" (by decide +kernel) (by decide +kernel) (fun q hq => htb q (th_a2 q hq))
  obtain ⟨P1, L1, hP1m, hP1s⟩ := PassC.ofS_atoms (args := args) (s := s) hpl (X := cls) (Y := "java/lang/RuntimeException") (Bundle.fit_spec hcls).1 (by decide) hd0 hd1 hd2 hd5 (fun q hq => htb q (hw q (by simp [thW, hq])))
  have hsup : P1.sup = P2.m := Option.some.inj (hP1s.symm.trans hP2m)
  have hfound : s.vm.findClass cls = some P1.m.cls := findClass_of_methodNamed hP1m
  cases Option.some.inj (hfoundX.symm.trans hfound)
  obtain ⟨c1, kX', hc1, hk, hord, -, -, hn6⟩ := Cond.instantiable_spec (tw (.instantiable cls 6) (by simp [thW]))
  cases Option.some.inj (hc1.symm.trans hfound)
  cases Option.some.inj (hkX.symm.trans hk)
  have hsel0 : selectMethod e.platform s.vm P1.m.cls T.fill0 = .method T.fill0 := by
    obtain ⟨c2, r2, m2, q1, q2, q3, q4, -⟩ := Cond.selects_spec (tw (.selects cls Bundle.tFill0 Bundle.tFill0) (by simp [thW]))
    cases Option.some.inj (q1.symm.trans hfound)
    cases Option.some.inj (q2.symm.trans (State.methodFound?_of_named Y.fill0 (by decide)))
    cases Option.some.inj (q3.symm.trans Y.fill0)
    rw [Launch.admits_selectMethod X.admits]; exact q4
  have hselF : selectMethod e.platform s.vm P1.m.cls T.fill = .method T.fill := by
    obtain ⟨c2, r2, m2, q1, q2, q3, q4, -⟩ := Cond.selects_spec (tw (.selects cls Bundle.tFill Bundle.tFill) (by simp [thW]))
    cases Option.some.inj (q1.symm.trans hfound)
    cases Option.some.inj (q2.symm.trans (State.methodFound?_of_named Y.fill (by decide)))
    cases Option.some.inj (q3.symm.trans Y.fill)
    rw [Launch.admits_selectMethod X.admits]; exact q4
  obtain ⟨cellS0, hcS0, hiss⟩ := Y.statics
  obtain ⟨u0, hu0⟩ := Cond.staticRefV Y.unassigned L.unassignedStatic L.statics hcS0 hiss (hst (.isRef (.static Bundle.tN "UNASSIGNED_STACK" Bundle.steD)) (by simp [xsts, Bundle.tN, Bundle.steD]))
  obtain ⟨sen, hsen⟩ := Cond.staticRefV Y.sentinel L.sentinelStatic L.statics hcS0 hiss (hst (.isRef (.static Bundle.tN "SUPPRESSED_SENTINEL" Bundle.listD)) (by simp [xsts, Bundle.tN, Bundle.listD]))
  obtain ⟨ci198, i198, fB, hk198, hg198, ha198, hsB, -, hnB, htB, hffB⟩ := Cond.ownField (t := .object "java/lang/Object") Y.found L.cls (by decide +kernel) (tw (.fieldLink Bundle.tN 198 Bundle.tN "backtrace" "Ljava/lang/Object;") (by simp [thW])) (tw (.lays Bundle.tN Bundle.tN "backtrace" "Ljava/lang/Object;") (by simp [thW])) e.platform hpl
  obtain ⟨cellS, hcS', heS, -, hkeep⟩ := X.same.2.2.2.2.2 T.aS cellS0 hcS0
  have hcellS : W.heap[T.aS]? = some cellS := hcS'
  have hout' : ∀ i, (⟨T.aS, i⟩ : Loc) ∉ locs := fun i hmem => by
    have := hlocs _ hmem cellS0 hcS0
    rw [hiss] at this; cases this
  have hknownS : cellS.vm ≠ .unknown := by
    rw [heS]; intro hu
    rw [show cellS0.vm = .unknown from hu] at hiss
    cases hiss
  have hneS : T.aS ≠ a := Nat.ne_of_lt (Nat.lt_of_lt_of_le (Array.getElem?_eq_some_iff.mp hcS0).1 hnew)
  obtain ⟨iM, hffM⟩ := Y.msg
  obtain ⟨tyC, dC, hdC, hdnC⟩ := Cond.laysAt hfound hk Y.cause (tw (.lays cls Bundle.tN "cause" "Ljava/lang/Throwable;") (by simp [thW]))
  obtain ⟨tyS, dS, hdS, hdnS⟩ := Cond.laysAt hfound hk Y.stack (tw (.lays cls Bundle.tN "stackTrace" Bundle.steD) (by simp [thW]))
  obtain ⟨tyP, dP, hdP, hdnP⟩ := Cond.laysAt hfound hk Y.supp (tw (.lays cls Bundle.tN "suppressedExceptions" Bundle.listD) (by simp [thW]))
  obtain ⟨tyM, dM, hdM, hdnM⟩ := Cond.laysAt hfound hk hffM (tw (.lays cls Bundle.tN "detailMessage" "Ljava/lang/String;") (by simp [thW]))
  obtain ⟨tyB, dB, hdB, hdnB⟩ := Cond.laysAt hfound hk hffB (tw (.lays cls Bundle.tN "backtrace" "Ljava/lang/Object;") (by simp [thW]))
  have bC := Cond.laysApart hdB hdC hdnB hdnC (by rw [hnB, Y.causeName]; decide)
  have bS := Cond.laysApart hdB hdS hdnB hdnS (by rw [hnB, Y.stackName]; decide)
  have bP := Cond.laysApart hdB hdP hdnB hdnP (by rw [hnB, Y.suppName]; decide)
  have hskip : SkipFacts T e.platform s (fun u => u) u0 ((preparedCellV T.toThrowableT (freshCell P1.m.cls kX) a u0 sen).withEntry W.cur) :=
    ⟨{ ci198 := ci198, i198 := i198, fBack := fB }, ⟨hk198, hg198, ha198, hsB⟩, by
      have := fresh_default (c := P1.m.cls) tyB
      rw [htB] at this
      simpa [preparedCellV, Cell.setSlot, Cell.withEntry, Array.getElem?_setIfInBounds, bC, bS, bP, bC.symm, bS.symm, bP.symm, defaultValue] using this, fun _ _ => rfl⟩
  obtain ⟨tm, methC, cdC, kC, vm₁, hnC, -, -, -, -, -, -, -, hW₁, st1⟩ := Steps.initColdS (tb := p.tables) (e := e) (below := below) (s := s) (U := W) X.here hexec X.warmed hpl hown (t := Bundle.initS cls) rfl rfl (Bundle.fit_spec hcls).2
    (htb (.methodLink own ic (Bundle.initS cls)) hml) (htb _ (hw (.instanceMethod (Bundle.initS cls)) (by simp [thW, Bundle.passSAtoms]))) (bytes := b1) (maxL := 2) (htb _ (hw (.code (Bundle.initS cls) b1 2 none) (by simp [thW, Bundle.passSAtoms])))
    (f := g) hg (a := a) (msg := msg) (rest := rest) hstack hd6
  cases Option.some.inj (hnC.symm.trans hP1m)
  have X₁ := X.noted hW₁
  obtain ⟨vm₂, X₂, st2⟩ := X₁.ctorMessageOffV hexec (g := { g with stack := rest }) hg hsize T L Z LZ M LM (P1 :: P2 :: Ps)
    (fun P hP => by
      rcases List.mem_cons.mp hP with rfl | hP
      · exact L1
      · rcases List.mem_cons.mp hP with rfl | hP
        · exact L2
        · exact hL P hP) ⟨hsup, hlink2, hlink⟩ (u0 := u0) (sen := sen) (self := a) hmsg (cell := freshCell P1.m.cls kX) (cellS := cellS)
    hcell (fun _ => by simp) (by simp) rfl rfl hsel0 hselF hcellS hneS hknownS (by rw [hkeep _ (hout' _)]; exact hu0) (by rw [hkeep _ (hout' _)]; exact hsen)
    (Takes.of_laid hk hord tyC (by rw [Y.causeType]; rfl)) (Takes.of_laid hk hord tyS (by rw [Y.stackType]; exact fits_refV_array _ u0)) (Takes.of_laid hk hord tyP (by rw [Y.suppType]; exact fits_refV_object _ sen))
    (Takes.of_laid hk hord tyM (by rw [Y.msgType]; exact fits_refV_object _ ⟨msg, hmsg⟩)) Y.objLocals hskip htr [] hd6
    (by simp only [List.length_cons, hlen]; omega) (by simp only [List.length_cons, hlen]; exact hRlocals)
  refine ⟨_, _, plainBareV T.toThrowableT (freshCell P1.m.cls kX) a u0 sen msg, X₂, ?_, rfl, ?_, ?_, fun tg h => st1 _ (fun acts => ?_)⟩
  · intro x hx
    simp only [List.mem_cons, List.not_mem_nil, or_false] at hx
    rcases hx with rfl | rfl | rfl | rfl | rfl <;> rfl
  · simp [plainBareV, preparedCellV, Cell.setSlot]
  · simp [plainBareV, preparedCellV, Cell.setSlot]
  · rw [doInvoke_state]
    exact st2 _ h
end XTH
section XTV
variable {p : Program} {l : Launch} {e : Env} {R : Room} {s : State} {m : MethodId} {args : Array Value} {below : List Frame} {meth : Method} {c : Code} {D : va_G} {ad : Nat → Nat} {ca : Nat → ClassId} {nL cells slots : Nat}
variable {cc : ByteArray} {own : String} {g : xSt} {pc mc ms : Nat} {lv : List (Nat × Value)} {rt : Option FieldType}
theorem x_notrace {p : Program} {T : State} {locs : List Loc} (X : Stand p l e R s m args below meth c T locs cells slots) (h : l.stackTraces = false) : e.platform.stackTraces = false := by
  rw [X.admits.platform]; exact h
theorem v_throw (X : xX p s m args meth c cc own nL rt D ad ca) (hfl : l.stackTraces = false) (hno : c.exceptionTable.toList = []) {cls text : String} {icl itx ic i1 j1 j2 j3 j4 : Nat} {b1 : ByteArray} (hown : own = "CrossDock")
    (w1 : lw_tbl[j1]? = some (Cond.classLink own icl cls)) (w2 : lw_tbl[j2]? = some (Cond.instantiable cls 6)) (w3 : lw_tbl[j3]? = some (Cond.initialized cls)) (w4 : lw_tbl[j4]? = some (Cond.methodLink own ic (Bundle.initS cls))) (htx : (itx, text) ∈ xtx)
    (hcls : Bundle.fit cls = true) (hb : decode b1 0 = .ok (.aload_n 0, 1) ∧ decode b1 1 = .ok (.aload_n 1, 1) ∧ decode b1 2 = .ok (.invokespecial i1, 3) ∧ decode b1 5 = .ok (.return_, 1)) (hw : ∀ q ∈ thW cls i1 b1, q ∈ xT)
    (d0 : decode cc pc = .ok (.new icl, 3)) (d1 : decode cc (pc + 3) = .ok (.dup, 1)) (d2 : decode cc (pc + 4) = .ok (.ldc itx, 2)) (d3 : decode cc (pc + 6) = .ok (.invokespecial ic, 3)) (d4 : decode cc (pc + 9) = .ok (.athrow, 1))
    (hR : cells + 1 ≤ R.cells ∧ slots + 6 ≤ R.slots ∧ 5 < R.frames ∧ 82 ≤ R.locals) (h1 : cells + 1 ≤ mc) (h2 : slots + 6 ≤ ms) :
    xV p l e R s m args below meth c D xcl (wX ad ca) (xA (wX ad ca) s.heap.size) nL cells slots (xMQ below (xQ D xcl (wX ad ca) (xA (wX ad ca) s.heap.size) (.inr cls) g) args s mc ms (xA (wX ad ca) s.heap.size)) g pc lv [] := by
  intro H locs ls hP hS hl
  refine W.newc X.1.1 X.1.2.1 X.1.2.2.2.1 (X.t w1 rfl) (X.t w2 rfl) (X.t w3 rfl) rfl d0 hR.1 hR.2.1 (fun cC kC f1 f2 f3 f4 => ?_)
  refine W.eq (g2 := F0 m (pc + 3) ls [.ref H.size]) rfl ?_
  refine lv_dup X.1.1 X.1.2.1 d1 rfl ?_
  obtain ⟨ta, hta⟩ := X.2.1.2.1 _ htx
  rw [← hown] at hta
  refine va_ldcS X.1.1 X.1.2.1 X.1.2.2.2.1 hta d2 ?_
  intro T hT St
  have hcell : T.heap[H.size]? = some (freshCell cC kC) := by rw [hT]; exact Array.getElem?_push_size
  obtain ⟨T', L, ce, St', hL, hh, hc1, hc2, st⟩ := x_ctor St X.1.1 (x_notrace St hfl) X.2.1 X.1.2.2.2.1 hcls hb.1 hb.2.1 hb.2.2.1 hb.2.2.2 hw (List.mem_filter.mpr ⟨List.mem_of_getElem? w4, rfl⟩) (fun x hx => X.2.2.2.2 x.base (hS.2.2 x hx)) f1 f2 hcell hS.1 (msg := .ref ta) rfl
    (g := F0 m (pc + 6) ls [.ref ta, .ref H.size, .ref H.size]) rfl (hl.1.trans X.1.2.2.1.symm) (rest := [.ref H.size]) rfl (by rw [X.1.2.1]; exact d3) hR.2.2.1 (by show 2 * 0 + 1 + 81 ≤ R.locals; exact hR.2.2.2)
  have St'' := stand_widen St' h1 h2
  obtain ⟨q1, q2, q3, q4, q5⟩ := St''.athrowLeaves X.1.1 (g := F0 m (pc + 9) ls [.ref H.size]) rfl rfl rfl (by rw [hno]; intro x hx; cases hx) (a := H.size) (rest := []) rfl (by rw [X.1.2.1]; exact d4) X.2.2.2.1
  have hother : ∀ q : Nat, q < H.size → T'.heap[q]? = H[q]? := fun q hq => by
    rw [hh, hT, Array.getElem?_setIfInBounds, if_neg (Nat.ne_of_gt hq), Array.getElem?_push, if_neg (Nat.ne_of_lt hq)]
  have hsz : T'.heap.size = H.size + 1 := by rw [hh, hT]; simp
  refine ⟨_, st _ q1, .threw H.size, q2, q3, ⟨⟨H.size, rfl, hS.1, ce, ?_, ?_, hc2⟩, ?_, ?_⟩, locs ++ L, ⟨q4, q5⟩, ?_⟩
  · show T'.heap[H.size]? = some ce
    rw [hh, hT, Array.getElem?_setIfInBounds]; simp
  · show T'.vm.findClass cls = some ce.cls
    rw [hc1, ← f1, St'.warmed.alike.findClass]
  · show va_P D xcl (wX ad ca g) T'.heap
    exact hP.kept (fun k q hq => hother q.1 ((hP k q hq).lt))
  · refine ⟨?_, fun q a1 a2 => ?_⟩
    · show s.heap.size ≤ T'.heap.size
      have := hS.1
      omega
    · show T'.heap[q]? = s.heap[q]?
      rw [hother q (Nat.lt_of_lt_of_le a1 hS.1)]
      exact hS.2.1 q a1 a2
  · intro q hq
    rcases List.mem_append.mp hq with h | h
    · exact hS.2.2 q h
    · rw [hL q h]; exact Or.inr hS.1
end XTV
