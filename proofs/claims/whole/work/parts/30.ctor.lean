/-! constructors: the calculus with a world that grows (the world is a constant of the register file) -/
abbrev z0 : xSt := fun _ _ => 0
def xAOs (U : State) : Prop := va_AO "CrossDock$Arrival" U ∧ va_AO "CrossDock$Order" U
def yM (l : Launch) (y : MethodName) (bytes : ByteArray) (maxL : Nat) (rm : Room) (b : Nat) (D : va_G) (ca : Nat → ClassId) (wpre : va_W) (Post : va_W → Prop) (mc ms : Nat) : Prop :=
  ∀ sz : Nat, Met l y [Cond.code y bytes maxL none] rm (va_Pc [.ref b] (fun U => U.heap.size = sz ∧ va_P D xcl wpre U.heap ∧ va_K D xcl (tyX ca) U ∧ va_D (fun _ => True) wpre ∧ xTB U ∧ xAOs U)) (va_Qv Post (fun u t => va_P D xcl u t.heap ∧ va_D (va_A wpre sz) u) (va_A wpre sz)) mc ms (va_A wpre sz)
theorem y_contract {l : Launch} {y : MethodName} {bytes : ByteArray} {maxL : Nat} {rm : Room} {b : Nat} {D : va_G} {ca : Nat → ClassId} {wpre : va_W} {Post : va_W → Prop} {mc ms : Nat} (hy : plainName y.cls = true) (hn : 1 ≤ maxL)
    (body : ∀ (p : Program) (e : Env) (s : State) (m : MethodId) (below : List Frame) (meth : Method) (c : Code), xC p s m #[Value.ref b] c bytes y.cls xT maxL D xcl (fun _ => wpre) (tyX ca) (va_A wpre s.heap.size) → xTB s → xAOs s → meth.name = y.name → meth.sig.returnType = none → meth.locks = false →
      xV p l e rm s m #[Value.ref b] below meth c D xcl (fun _ => wpre) (va_A wpre s.heap.size) maxL 0 0 (MQ below (va_Qv Post (fun u t => va_P D xcl u t.heap ∧ va_D (va_A wpre s.heap.size) u) (va_A wpre s.heap.size)) #[Value.ref b] s mc ms (va_A wpre s.heap.size)) z0 0 [(0, .ref b)] []) :
    yM l y bytes maxL rm b D ca wpre Post mc ms := by
  intro sz
  refine Met.ofW (cc := bytes) (maxL := maxL) (ret := none) (ws' := []) hy rfl ?_
  intro p e s m args below meth c s₁ B hml hv
  obtain ⟨rfl, hsz, hP, hK, hD, hT, hO⟩ := hv
  subst hsz
  have hown : s.vm.findClass y.cls = some m.cls := findClass_of_methodNamed B.named
  exact x_start (As := [.ref b]) (body p e s m below meth c ⟨B.exec, B.bytes, hml, hown, fun q hq => hT _ q hq, hK, fun _ => hD.self, fun q h => Or.inr h⟩ hT hO (name_of_methodNamed B.named B.method).1 B.returns B.notSynchronized) hP hn
section YR
variable {p : Program} {l : Launch} {e : Env} {R : Room} {s : State} {m : MethodId} {args : Array Value} {below : List Frame} {meth : Method} {c : Code} {D : va_G} {ca : Nat → ClassId} {A : Nat → Prop} {nL cells slots : Nat} {Q : State → Prop}
variable {cc : ByteArray} {own : String} {ws ws' : va_W} {pc mc ms : Nat} {lv : List (Nat × Value)} {stk rest : List Value} {cl : List vw_C} {w : xSt → va_W} {tys : List (ClassId × FieldType)}
theorem xC.t (C : xC p s m args c cc own xT nL D cl w tys A) {i : Nat} {q : Cond} (h : lw_tbl[i]? = some q) (hq : xok q = true) : q.before args s = true := C.2.2.2.2.1 q (List.mem_filter.mpr ⟨List.mem_of_getElem? h, hq⟩)
theorem xC.wd (C : xC p s m args c cc own xT nL D xcl (fun _ => ws) (tyX ca) A) (hD : va_D A ws') : xC p s m args c cc own xT nL D xcl (fun _ => ws') (tyX ca) A := ⟨C.1, C.2.1, C.2.2.1, C.2.2.2.1, C.2.2.2.2.1, C.2.2.2.2.2.1, fun _ => hD, C.2.2.2.2.2.2.2⟩
theorem y_new (C : xC p s m args c cc own xT nL D xcl (fun _ => ws) (tyX ca) A) {cn : String} {T : u_T} {N ci index i1 i2 i3 : Nat} (F : (∀ q ∈ u_ws cn T N, q ∈ xT) ∧ xcl[ci]? = some (cn, T, N)) {ty : Nat → FieldType} (hty : ∀ k, k < N → parseFieldDescriptor (T k).2.2.1 = some (ty k)) (w1 : lw_tbl[i1]? = some (Cond.classLink own index cn)) (w2 : lw_tbl[i2]? = some (Cond.instantiable cn N)) (w3 : lw_tbl[i3]? = some (Cond.initialized cn))
    {fs : List Value} (hfs : ∀ j, j < N → defaultValue (ty j) = vp_V fs j) (h1 : cells + 1 ≤ R.cells) (h2 : slots + N ≤ R.slots) (hdg : decode cc pc = .ok (.new index, 3))
    (k : ∀ q : Nat, xC p s m args c cc own xT nL D xcl (fun _ => ws ++ [(q, .inr (ci, fs))]) (tyX ca) A → xV p l e R s m args below meth c D xcl (fun _ => ws ++ [(q, .inr (ci, fs))]) A nL (cells + 1) (slots + N) Q z0 (pc + 3) lv (.ref q :: stk)) :
    xV p l e R s m args below meth c D xcl (fun _ => ws) A nL cells slots Q z0 pc lv stk :=
  fun H locs ls hP hS hl => va_new C.1 C.2.1 C.2.2.2.2.1 F.1 ty hty C.2.2.2.1 (C.t w1 rfl) (C.t w2 rfl) (C.t w3 rfl) C.2.2.2.2.2.1 hP (C.2.2.2.2.2.2.1 z0) hS C.2.2.2.2.2.2.2 F.2 hfs h1 h2 hdg (fun q H1 hP1 hD1 hS1 => k q (C.wd hD1) H1 locs ls hP1 hS1 hl)
theorem y_newa (C : xC p s m args c cc own xT nL D xcl (fun _ => ws) (tyX ca) A) {atype : ArrayType} {i1 t0 : Nat} {ty : FieldType} (hty : newarray.typeOf atype = ty) (hpr : ∀ n : String, ty ≠ .object n) (w1 : lw_tbl[i1]? = some (Cond.arrayClass ty)) (ht : (tyX ca)[t0]? = some (ca t0, ty)) {n : Int32} {N' : Nat} {a0 : vp_A} (ha : ∀ cA : ClassId, vp_cell cA a0 = arrV cA N' (fun _ => defaultValue ty)) (hn : ¬ n < 0) (hN : n.toNatClampNeg = N') (hb : N' * componentBytes ty ≤ 536870912) (h1 : cells + 1 ≤ R.cells) (h2 : slots + N' ≤ R.slots) (hdg : decode cc pc = .ok (.newarray atype, 2))
    (k : ∀ q : Nat, xC p s m args c cc own xT nL D xcl (fun _ => ws ++ [(q, .inl (ca t0, a0))]) (tyX ca) A → xV p l e R s m args below meth c D xcl (fun _ => ws ++ [(q, .inl (ca t0, a0))]) A nL (cells + 1) (slots + N') Q z0 (pc + 2) lv (.ref q :: stk)) :
    xV p l e R s m args below meth c D xcl (fun _ => ws) A nL cells slots Q z0 pc lv (.int n :: stk) := by
  subst hty
  intro H locs ls hP hS hl
  refine va_newa C.1 C.2.1 (C.t w1 rfl) rfl C.2.2.2.2.2.1 hP (C.2.2.2.2.2.2.1 z0) hS C.2.2.2.2.2.2.2 ha hn hN hb h1 h2 hdg (fun q cA H1 hK1 hP1 hD1 hS1 => ?_)
  have hr : ∀ (x : ClassId), va_RA s x (newarray.typeOf atype) → s.vm.findClass ("[" ++ (newarray.typeOf atype).toString) = some x := by
    intro x hx
    unfold va_RA at hx
    split at hx
    · rename_i C' hC'; exact absurd hC' (hpr _)
    · exact hx
  have e1 := hr _ (C.2.2.2.2.2.1.2 t0 _ ht).2
  have e2 := hr _ (hK1.2 (tyX ca).length (cA, newarray.typeOf atype) (by simp)).2
  have hc : cA = ca t0 := Option.some.inj (e2.symm.trans e1)
  subst hc
  exact k q (C.wd hD1) H1 locs ls hP1 hS1 hl
theorem y_newq (C : xC p s m args c cc own xT nL D xcl (fun _ => ws) (tyX ca) A) {cn : String} {index i1 t0 : Nat} (hO : va_AO cn s) (w1 : lw_tbl[i1]? = some (Cond.classLink own index cn)) (ht : (tyX ca)[t0]? = some (ca t0, .object cn)) {n : Int32} {N' : Nat} (hn : ¬ n < 0) (hN : n.toNatClampNeg = N') (hb : N' * 4 ≤ 536870912) (h1 : cells + 1 ≤ R.cells) (h2 : slots + N' ≤ R.slots) (hdg : decode cc pc = .ok (.anewarray index, 3))
    (k : ∀ q : Nat, xC p s m args c cc own xT nL D xcl (fun _ => ws ++ [(q, .inl (ca t0, N', .inr (.inr (.inr (.inr (fun _ => none))))))]) (tyX ca) A → xV p l e R s m args below meth c D xcl (fun _ => ws ++ [(q, .inl (ca t0, N', .inr (.inr (.inr (.inr (fun _ => none))))))]) A nL (cells + 1) (slots + N') Q z0 (pc + 3) lv (.ref q :: stk)) :
    xV p l e R s m args below meth c D xcl (fun _ => ws) A nL cells slots Q z0 pc lv (.int n :: stk) := by
  intro H locs ls hP hS hl
  refine va_newq C.1 C.2.1 C.2.2.2.1 (C.t w1 rfl) hO C.2.2.2.2.2.1 hP (C.2.2.2.2.2.2.1 z0) hS C.2.2.2.2.2.2.2 hn hN hb h1 h2 hdg (fun q cA H1 hK1 hP1 hD1 hS1 => ?_)
  obtain ⟨_, _, -, -, -, e1⟩ := (C.2.2.2.2.2.1.2 t0 _ ht).2
  obtain ⟨_, _, -, -, -, e2⟩ := (hK1.2 (tyX ca).length (cA, .object cn) (by simp)).2
  have hc : cA = ca t0 := Option.some.inj (e2.symm.trans e1)
  subst hc
  exact k q (C.wd hD1) H1 locs ls hP1 hS1 hl
theorem y_put (C : xC p s m args c cc own xT nL D xcl (fun _ => ws) (tyX ca) A) {cn : String} {T : u_T} {N ci index i1 a : Nat} (F : (∀ q ∈ u_ws cn T N, q ∈ xT) ∧ xcl[ci]? = some (cn, T, N)) {ty0 : Nat → FieldType} (G : (∀ j, j < N → parseFieldDescriptor (T j).2.2.1 = some (ty0 j)) ∧ ∀ a, a < N → ∀ b, b < N → a ≠ b → (T a).2.1 ≠ (T b).2.1) (q0 : Nat) {fs : List Value} (he : ws[q0]? = some (a, .inr (ci, fs))) (k0 : Nat) (hk : k0 < N) (w1 : lw_tbl[i1]? = some (Cond.fieldLink own index (T k0).1 (T k0).2.1 (T k0).2.2.1)) (hfin : (T k0).2.2.2 = false)
    {ty : FieldType} {v : Value} (hd : parseFieldDescriptor (T k0).2.2.1 = some ty) (hn : narrow ty v = v) (hfit : fits ty v = true) (hl0 : k0 < fs.length) (hw : ws.set q0 (a, .inr (ci, fs.set k0 v)) = ws') (hdg : decode cc pc = .ok (.putfield index, 3))
    (k : xC p s m args c cc own xT nL D xcl (fun _ => ws') (tyX ca) A → xV p l e R s m args below meth c D xcl (fun _ => ws') A nL cells slots Q z0 (pc + 3) lv stk) : xV p l e R s m args below meth c D xcl (fun _ => ws) A nL cells slots Q z0 pc lv (v :: .ref a :: stk) := by
  subst hw
  exact fun H locs ls hP hS hl => va_put C.1 C.2.1 C.2.2.2.2.1 F.1 ty0 G.1 G.2 C.2.2.2.1 C.2.2.2.2.2.1 hP (C.2.2.2.2.2.2.1 z0) hS q0 he F.2 k0 hk (C.t w1 rfl) (fun _ h9 => h9) hfin hd hn hfit hl0 hdg (fun H1 locs1 hP1 hD1 hS1 => k (C.wd hD1) H1 locs1 ls hP1 hS1 hl)
theorem y_putF (C : xC p s m args c cc own xT nL D xcl (fun _ => ws) (tyX ca) A) (hin : meth.name = "<init>") {cn : String} {T : u_T} {N ci index i1 a : Nat} (F : (∀ q ∈ u_ws cn T N, q ∈ xT) ∧ xcl[ci]? = some (cn, T, N)) {ty0 : Nat → FieldType} (G : (∀ j, j < N → parseFieldDescriptor (T j).2.2.1 = some (ty0 j)) ∧ ∀ a, a < N → ∀ b, b < N → a ≠ b → (T a).2.1 ≠ (T b).2.1) (q0 : Nat) {fs : List Value} (he : ws[q0]? = some (a, .inr (ci, fs))) (k0 : Nat) (hk : k0 < N) (w1 : lw_tbl[i1]? = some (Cond.fieldLink own index (T k0).1 (T k0).2.1 (T k0).2.2.1)) (hfin : (T k0).2.2.2 = true) (hdecl : (T k0).1 = own)
    {ty : FieldType} {v : Value} (hd : parseFieldDescriptor (T k0).2.2.1 = some ty) (hn : narrow ty v = v) (hfit : fits ty v = true) (hl0 : k0 < fs.length) (hw : ws.set q0 (a, .inr (ci, fs.set k0 v)) = ws') (hdg : decode cc pc = .ok (.putfield index, 3))
    (k : xC p s m args c cc own xT nL D xcl (fun _ => ws') (tyX ca) A → xV p l e R s m args below meth c D xcl (fun _ => ws') A nL cells slots Q z0 (pc + 3) lv stk) : xV p l e R s m args below meth c D xcl (fun _ => ws) A nL cells slots Q z0 pc lv (v :: .ref a :: stk) := by
  subst hw
  exact fun H locs ls hP hS hl => va_putF C.1 C.2.1 C.2.2.2.2.1 F.1 ty0 G.1 G.2 C.2.2.2.1 C.2.2.2.2.2.1 hP (C.2.2.2.2.2.2.1 z0) hS q0 he F.2 k0 hk (C.t w1 rfl) (fun _ h9 => h9) hfin hin hdecl hd hn hfit hl0 hdg (fun H1 locs1 hP1 hD1 hS1 => k (C.wd hD1) H1 locs1 ls hP1 hS1 hl)
theorem y_astq (C : xC p s m args c cc own xT nL D xcl (fun _ => ws) (tyX ca) A) (q0 t0 qk ci : Nat) {r : vw_C} {n v a : Nat} {vs : List Value} {f : Nat → Option Nat} (ha : ws[q0]? = some (a, .inl (ca t0, n, .inr (.inr (.inr (.inr f)))))) (ht : (tyX ca)[t0]? = some (ca t0, .object r.1)) (hv : ws[qk]? = some (v, .inr (ci, vs))) (hc : xcl[ci]? = some r) {i : Int32} (hin : ¬ (i < 0 ∨ n ≤ i.toNatClampNeg)) {f' : Nat → Option Nat} (hf : va_up f i.toNatClampNeg (some v) = f') (hw : ws.set q0 (a, .inl (ca t0, n, .inr (.inr (.inr (.inr f'))))) = ws') (hdg : decode cc pc = .ok (.aastore, 1))
    (k : xC p s m args c cc own xT nL D xcl (fun _ => ws') (tyX ca) A → xV p l e R s m args below meth c D xcl (fun _ => ws') A nL cells slots Q z0 (pc + 1) lv stk) : xV p l e R s m args below meth c D xcl (fun _ => ws) A nL cells slots Q z0 pc lv (.ref v :: .int i :: .ref a :: stk) := by
  subst hf
  subst hw
  exact fun H locs ls hP hS hl => va_astq C.1 C.2.1 C.2.2.2.2.2.1 hP (C.2.2.2.2.2.2.1 z0) hS q0 t0 qk ci ha ht hv hc hin hdg (fun H1 locs1 hP1 hD1 hS1 => k (C.wd hD1) H1 locs1 ls hP1 hS1 hl)
theorem y_obj (C : xC p s m args c cc own xT nL D xcl w tys A) {g : xSt} {idx i1 i2 i3 a : Nat} (w1 : lw_tbl[i1]? = some (Cond.methodLink own idx Lib.objectInit)) (w2 : lw_tbl[i2]? = some (Cond.instanceMethod Lib.objectInit)) (w3 : lw_tbl[i3]? = some (Cond.code Lib.objectInit ⟨#[0xb1]⟩ 1 none)) (hdg : decode cc pc = .ok (.invokespecial idx, 3)) (h1 : 1 ≤ R.frames) (h2 : (stk.map fun v => v.category).sum + 12 ≤ R.locals)
    (k : xV p l e R s m args below meth c D xcl w A nL cells slots Q g (pc + 3) lv stk) : xV p l e R s m args below meth c D xcl w A nL cells slots Q g pc lv (.ref a :: stk) :=
  fun H locs ls hP hS hl => W.objInit C.1 C.2.1 C.2.2.2.1 (C.t w1 rfl) (C.t w2 rfl) (C.t w3 rfl) (g := F0 m pc ls (.ref a :: stk)) rfl (hl.1.trans C.2.2.1.symm) rfl hdg h1 (by show 2 * 0 + _ + 12 ≤ _; omega) (k H locs ls hP hS hl)
theorem y_vret (C : xC p s m args c cc own xT nL D xcl (fun _ => ws) (tyX ca) A) {Post : va_W → Prop} {wpre : va_W} (hA : A = va_A wpre s.heap.size) (hr : meth.sig.returnType = none) (hlk : meth.locks = false) (hp : Post ws) (hdg : decode cc pc = .ok (.return_, 1)) (h1 : cells ≤ mc) (h2 : slots ≤ ms) :
    xV p l e R s m args below meth c D xcl (fun _ => ws) A nL cells slots (MQ below (va_Qv Post (fun u t => va_P D xcl u t.heap ∧ va_D (va_A wpre s.heap.size) u) (va_A wpre s.heap.size)) args s mc ms (va_A wpre s.heap.size)) z0 pc lv [] := by
  subst hA
  exact fun H locs ls hP hS hl => W.widen h1 h2 (W.vret C.1 C.2.1 hr (fun t ht hW => ⟨⟨ws, rfl, hp, by rw [ht]; exact hP, C.2.2.2.2.2.2.1 z0⟩, hS.F ht⟩) hS.2.2 hdg hlk)
/-- what a constructor's call asks -/
theorem y_ask {wc : va_W} {b sz : Nat} : FrameBlind (va_Pc [Value.ref b] (fun U => U.heap.size = sz ∧ va_P D xcl wc U.heap ∧ va_K D xcl (tyX ca) U ∧ va_D (fun _ => True) wc ∧ xTB U ∧ xAOs U)) := fun a U g mk q => by
  obtain ⟨q0, q1, q2, q3, q4, q5, q6⟩ := q
  exact ⟨q0, q1, q2, va_K.moved (u := U) (U := U.calling g mk a) (Vm.Alike.refl U.vm) q3, q4, xTB.same (s := U) rfl q5, ⟨va_AO.moved (u := U) (U := U.calling g mk a) (Vm.Alike.refl U.vm) q6.1, va_AO.moved (u := U) (U := U.calling g mk a) (Vm.Alike.refl U.vm) q6.2⟩⟩
theorem y_go (C : xC p s m args c cc own xT nL D xcl (fun _ => ws) (tyX ca) A) {wc wr : va_W} {Post : va_W → Prop} {b : Nat} (isC isR : List Nat) (hC : isC.map (fun i => ws[i]?) = wc.map some) (hR : isR.map (fun i => ws[i]?) = wr.map some) (hn : va_nd isR = true) (hnC : va_nd isC = true) (hdis : ∀ i ∈ isR, i ∉ isC)
    (run : ∀ (H : Heap) (locs : List Loc) (ls : Array Slot), va_P D xcl wc H → va_D (fun _ => True) wc → ls.size = nL → va_Run p l e R s m args below meth c H locs cells slots mc ms (F0 m pc ls stk) rest (va_Qv Post (fun u t => va_P D xcl u t.heap ∧ va_D (va_A wc H.size) u) (va_A wc H.size) #[Value.ref b]) (va_A wc H.size))
    (k : ∀ u : va_W, Post u → xC p s m args c cc own xT nL D xcl (fun _ => wr ++ u) (tyX ca) A → xV p l e R s m args below meth c D xcl (fun _ => wr ++ u) A nL (cells + mc) (slots + ms) Q z0 (pc + 3) lv rest) : xV p l e R s m args below meth c D xcl (fun _ => ws) A nL cells slots Q z0 pc lv stk := by
  intro H locs ls hP hS hl
  have hD := C.2.2.2.2.2.2.1 z0
  have hPc : va_P D xcl wc H := by
    intro j q hq
    obtain ⟨i, -, hi⟩ := va_in_of isC hC hq
    exact hP i q hi
  have hDc : va_D A wc := hD.sub isC hnC hC
  have hFc := va_free (wc := wc) hD hS C.2.2.2.2.2.2.2 isC hC
  refine va_callv (run H locs ls hPc (hDc.weaken (fun _ _ _ _ => trivial)) hl.1) hS (fun q _ h => hFc q h) hFc (fun u t H1 locs1 ht hvm hw hB hz1 hk1 hS1 => ?_)
  obtain ⟨hP1, hD1⟩ := hB
  rw [ht] at hP1
  obtain ⟨hP2, hD2⟩ := va_join (wr := wr) (w1 := u) hP hD isC isR hC hR hn hdis hk1 hFc hP1 hD1
  exact k u hw (C.wd hD2) H1 locs1 ls hP2 hS1 hl
theorem y_runN (C : xC p s m args c cc own xT nL D xcl w (tyX ca) A) (hT : xTB s) (hO : xAOs s) {y : MethodName} {bytes : ByteArray} {maxL : Nat} {rm : Room} {b : Nat} {wc : va_W} {Post : va_W → Prop} (hM : yM l y bytes maxL rm b D ca wc Post mc ms) {i1 i2 i3 i4 index : Nat} {host : String} (h1 : lw_tbl[i1]? = some (Cond.code y bytes maxL none)) (h2 : lw_tbl[i2]? = some (Cond.initialized y.cls)) (h3 : lw_tbl[i3]? = some (Cond.methodLinkNest own index y host)) (h4 : lw_tbl[i4]? = some (Cond.instanceMethod y))
    (hr : rm.cells = mc ∧ rm.slots = ms ∧ rm.frames + 1 ≤ R.frames ∧ 8 + (maxL + 11) + rm.locals ≤ R.locals) (hy : (y.cls ≠ "java/lang/invoke/MethodHandle" ∧ y.cls ≠ "java/lang/invoke/VarHandle") ∧ (parseMethodDescriptor y.desc).map (fun d => d.parameters.length) = some 0 ∧ y.name = "<init>") (hW : (rest.map fun v => v.category).sum ≤ 8) (hdg : decode cc pc = .ok (.invokespecial index, 3)) (hc : cells + mc ≤ R.cells) (hs : slots + ms ≤ R.slots) :
    ∀ (H : Heap) (locs : List Loc) (ls : Array Slot), va_P D xcl wc H → va_D (fun _ => True) wc → ls.size = nL → va_Run p l e R s m args below meth c H locs cells slots mc ms (F0 m pc ls (.ref b :: rest)) rest (va_Qv Post (fun u t => va_P D xcl u t.heap ∧ va_D (va_A wc H.size) u) (va_A wc H.size) #[Value.ref b]) (va_A wc H.size) := by
  intro H locs ls hP hD hl
  exact va_runIN (As := []) (b := b) (rest := rest) (n := 0) ⟨C.1, C.2.1, C.2.2.1, C.2.2.2.1, C.2.2.2.2.1⟩ (hM H.size) ⟨⟨⟨hr.1, hr.2.1, hr.2.2.1, hr.2.2.2, fun w hw a' U hW => by rw [List.mem_singleton.mp hw]; exact xok_warm hW rfl (C.t h1 rfl), List.mem_singleton.mpr rfl⟩, C.t h1 rfl, C.t h2 rfl, hy.1, fun sig hs => x_len hy.2.1 sig hs, C.t h3 rfl⟩, hy.2.2, C.t h4 rfl⟩
    ⟨y_ask, fun U hU hW => ⟨rfl, by rw [hU], by rw [hU]; exact hP, va_K.moved hW.alike C.2.2.2.2.2.1, hD, hT.warm hW, va_AO.moved hW.alike hO.1, va_AO.moved hW.alike hO.2⟩⟩ rfl rfl hl rfl (by show 2 * 0 + _ ≤ 8; omega) hdg ⟨hc, hs⟩
theorem y_runI (C : xC p s m args c cc own xT nL D xcl w (tyX ca) A) (hT : xTB s) (hO : xAOs s) {y : MethodName} {bytes : ByteArray} {maxL : Nat} {rm : Room} {b : Nat} {wc : va_W} {Post : va_W → Prop} (hM : yM l y bytes maxL rm b D ca wc Post mc ms) {i1 i2 i3 i4 index : Nat} (h1 : lw_tbl[i1]? = some (Cond.code y bytes maxL none)) (h2 : lw_tbl[i2]? = some (Cond.initialized y.cls)) (h3 : lw_tbl[i3]? = some (Cond.methodLink own index y)) (h4 : lw_tbl[i4]? = some (Cond.instanceMethod y))
    (hr : rm.cells = mc ∧ rm.slots = ms ∧ rm.frames + 1 ≤ R.frames ∧ 8 + (maxL + 11) + rm.locals ≤ R.locals) (hy : (y.cls ≠ "java/lang/invoke/MethodHandle" ∧ y.cls ≠ "java/lang/invoke/VarHandle") ∧ (parseMethodDescriptor y.desc).map (fun d => d.parameters.length) = some 0 ∧ y.name = "<init>") (hW : (rest.map fun v => v.category).sum ≤ 8) (hdg : decode cc pc = .ok (.invokespecial index, 3)) (hc : cells + mc ≤ R.cells) (hs : slots + ms ≤ R.slots) :
    ∀ (H : Heap) (locs : List Loc) (ls : Array Slot), va_P D xcl wc H → va_D (fun _ => True) wc → ls.size = nL → va_Run p l e R s m args below meth c H locs cells slots mc ms (F0 m pc ls (.ref b :: rest)) rest (va_Qv Post (fun u t => va_P D xcl u t.heap ∧ va_D (va_A wc H.size) u) (va_A wc H.size) #[Value.ref b]) (va_A wc H.size) := by
  intro H locs ls hP hD hl
  exact va_runI (As := []) (b := b) (rest := rest) (n := 0) ⟨C.1, C.2.1, C.2.2.1, C.2.2.2.1, C.2.2.2.2.1⟩ (hM H.size) ⟨⟨hr.1, hr.2.1, hr.2.2.1, hr.2.2.2, fun w hw a' U hW => by rw [List.mem_singleton.mp hw]; exact xok_warm hW rfl (C.t h1 rfl), List.mem_singleton.mpr rfl, C.t h1 rfl, C.t h2 rfl, hy.1, fun sig hs => x_len hy.2.1 sig hs, C.t h3 rfl⟩, hy.2.2, C.t h4 rfl⟩
    ⟨y_ask, fun U hU hW => ⟨rfl, by rw [hU], by rw [hU]; exact hP, va_K.moved hW.alike C.2.2.2.2.2.1, hD, hT.warm hW, va_AO.moved hW.alike hO.1, va_AO.moved hW.alike hO.2⟩⟩ rfl rfl hl rfl (by show 2 * 0 + _ ≤ 8; omega) hdg ⟨hc, hs⟩
end YR
