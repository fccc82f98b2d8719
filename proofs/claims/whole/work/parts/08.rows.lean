/-! calls of instance methods, Math, arraycopy, switches, over the one world -/
section XWV
variable {p : Program} {l : Launch} {e : Env} {R : Room} {s : State} {m : MethodId} {args : Array Value} {below : List Frame} {meth : Method} {c : Code} {D : va_G} {ad : Nat → Nat} {ca : Nat → ClassId} {nL cells slots : Nat} {Q : State → Prop}
variable {cc : ByteArray} {own : String} {g g' : xSt} {pc mc ms : Nat} {lv lv' : List (Nat × Value)} {stk rest L : List Value} {v : Option Value} {E : String} {rt : Option FieldType} {b : Nat}
variable {y : MethodName} {bytes : ByteArray} {maxL : Nat} {ret : Option FieldType} {rm : Room} {As : (Nat → Nat) → List Value} {ov : Option Value ⊕ String}
theorem x_runV (X : xX p s m args meth c cc own nL rt D ad ca) (hM : xM l y (.code y bytes maxL ret) rm As g ov g' mc ms) (hAs : As ad = .ref b :: L) {i1 i2 i3 i4 i5 index : Nat} (h1 : lw_tbl[i1]? = some (Cond.code y bytes maxL ret)) (h2 : lw_tbl[i2]? = some (Cond.initialized y.cls)) (h3 : lw_tbl[i3]? = some (Cond.methodLink own index y)) (h4 : lw_tbl[i4]? = some (Cond.instanceMethod y)) (h5 : lw_tbl[i5]? = some (Cond.selects y.cls y y))
    (q0 ci : Nat) {fs : List Value} {vq : vw_C} (he : (wX ad ca g)[q0]? = some (b, .inr (ci, fs))) (hcl : xcl[ci]? = some vq) (hcn : vq.1 = y.cls)
    (hr : rm.cells = mc ∧ rm.slots = ms ∧ rm.frames + 1 ≤ R.frames ∧ 8 + (maxL + 11) + rm.locals ≤ R.locals) (hy : (y.cls ≠ "java/lang/invoke/MethodHandle" ∧ y.cls ≠ "java/lang/invoke/VarHandle") ∧ (parseMethodDescriptor y.desc).map (fun d => d.parameters.length) = some L.length)
    (hstk : L.reverse ++ .ref b :: rest = stk) (hW : (rest.map fun v => v.category).sum ≤ 8) (hdg : decode cc pc = .ok (.invokevirtual index, 3)) (hc : cells + mc ≤ R.cells) (hs : slots + ms ≤ R.slots) :
    ∀ (T : State) (locs : List Loc) (ls : Array Slot), va_P D xcl (wX ad ca g) T.heap → va_S (xA (wX ad ca) s.heap.size) s.heap T.heap locs → ls.size = nL → Stand p l e R s m args below meth c T locs cells slots → xRun p l e R s m args below meth c T locs cells slots mc ms (F0 m pc ls stk) rest (xQ D xcl (wX ad ca) (xA (wX ad ca) T.heap.size) ov g' (As ad).toArray) (xA (wX ad ca) T.heap.size) := by
  intro T locs ls hP hS hl St
  obtain ⟨cellB, k1, k2, k3⟩ := va_recv X.1.2.2.2.2.2.1 hP hcl he
  rw [hcn] at k3
  have hpre := x_pre X hP hS (As ad)
  have hM' := hM D ad ca T.heap.size
  rw [hAs] at hpre hM' ⊢
  exact xcallV St X.1.1 hM' xP_blind (x_cb X h1 h2 hr) X.1.2.2.2.1 (X.t h3 rfl) (X.t h4 rfl) (X.t h5 rfl) hy.1 k1 k2 k3 (g := F0 m pc ls stk) rfl (hl.trans X.1.2.2.1.symm) (argsL := L) (rest := rest) (x_len hy.2) hstk.symm (by show 2 * 0 + _ ≤ 8; omega) (by rw [X.1.2.1]; exact hdg) hc hs hpre
theorem x_runN (X : xX p s m args meth c cc own nL rt D ad ca) (hM : xM l y (.code y bytes maxL ret) rm As g ov g' mc ms) (hAs : As ad = .ref b :: L) {i1 i2 i3 i4 i5 index : Nat} {host : String} (h1 : lw_tbl[i1]? = some (Cond.code y bytes maxL ret)) (h2 : lw_tbl[i2]? = some (Cond.initialized y.cls)) (h3 : lw_tbl[i3]? = some (Cond.methodLinkNest own index y host)) (h4 : lw_tbl[i4]? = some (Cond.instanceMethod y)) (h5 : lw_tbl[i5]? = some (Cond.selects y.cls y y))
    (q0 ci : Nat) {fs : List Value} {vq : vw_C} (he : (wX ad ca g)[q0]? = some (b, .inr (ci, fs))) (hcl : xcl[ci]? = some vq) (hcn : vq.1 = y.cls)
    (hr : rm.cells = mc ∧ rm.slots = ms ∧ rm.frames + 1 ≤ R.frames ∧ 8 + (maxL + 11) + rm.locals ≤ R.locals) (hy : (y.cls ≠ "java/lang/invoke/MethodHandle" ∧ y.cls ≠ "java/lang/invoke/VarHandle") ∧ (parseMethodDescriptor y.desc).map (fun d => d.parameters.length) = some L.length)
    (hstk : L.reverse ++ .ref b :: rest = stk) (hW : (rest.map fun v => v.category).sum ≤ 8) (hdg : decode cc pc = .ok (.invokevirtual index, 3)) (hc : cells + mc ≤ R.cells) (hs : slots + ms ≤ R.slots) :
    ∀ (T : State) (locs : List Loc) (ls : Array Slot), va_P D xcl (wX ad ca g) T.heap → va_S (xA (wX ad ca) s.heap.size) s.heap T.heap locs → ls.size = nL → Stand p l e R s m args below meth c T locs cells slots → xRun p l e R s m args below meth c T locs cells slots mc ms (F0 m pc ls stk) rest (xQ D xcl (wX ad ca) (xA (wX ad ca) T.heap.size) ov g' (As ad).toArray) (xA (wX ad ca) T.heap.size) := by
  intro T locs ls hP hS hl St
  obtain ⟨cellB, k1, k2, k3⟩ := va_recv X.1.2.2.2.2.2.1 hP hcl he
  rw [hcn] at k3
  have hpre := x_pre X hP hS (As ad)
  have hM' := hM D ad ca T.heap.size
  rw [hAs] at hpre hM' ⊢
  exact xcallVN St X.1.1 hM' xP_blind (x_cb X h1 h2 hr) X.1.2.2.2.1 (X.t h3 rfl) (X.t h4 rfl) (X.t h5 rfl) hy.1 k1 k2 k3 (g := F0 m pc ls stk) rfl (hl.trans X.1.2.2.1.symm) (argsL := L) (rest := rest) (x_len hy.2) hstk.symm (by show 2 * 0 + _ ≤ 8; omega) (by rw [X.1.2.1]; exact hdg) hc hs hpre
theorem v_min (X : xX p s m args meth c cc own nL rt D ad ca) {i1 i2 i3 i4 index : Nat} (h1 : lw_tbl[i1]? = some (Cond.methodLink own index Lib.Math.min.name)) (h2 : lw_tbl[i2]? = some (Cond.static Lib.Math.min.name)) (h3 : lw_tbl[i3]? = some (Cond.initialized "java/lang/Math")) (h4 : lw_tbl[i4]? = some (Cond.code Lib.Math.min.name Lib.Math.min.code 2 (some .int)))
    (hr : 1 ≤ R.frames ∧ (stk.map fun v => v.category).sum + 13 ≤ R.locals ∧ cells ≤ R.cells ∧ slots ≤ R.slots) {x y : Int32} (hdg : decode cc pc = .ok (.invokestatic index, 3))
    (k : xV p l e R s m args below meth c D xcl (wX ad ca) (xA (wX ad ca) s.heap.size) nL cells slots Q g (pc + 3) lv (.int (if y < x then y else x) :: stk)) : xV p l e R s m args below meth c D xcl (wX ad ca) (xA (wX ad ca) s.heap.size) nL cells slots Q g pc lv (.int y :: .int x :: stk) :=
  fun H locs ls hP hS hl => va_mmin X.1.1 X.1.2.1 (X.1.2.2.1.trans hl.1.symm) X.1.2.2.2.1 (X.t h1 rfl) (X.t h2 rfl) (X.t h3 rfl) (X.t h4 rfl) hr.1 hr.2.1 hr.2.2.1 hr.2.2.2 hdg (k H locs ls hP hS hl)
theorem v_max (X : xX p s m args meth c cc own nL rt D ad ca) {i1 i2 i3 i4 index : Nat} (h1 : lw_tbl[i1]? = some (Cond.methodLink own index Lib.Math.max.name)) (h2 : lw_tbl[i2]? = some (Cond.static Lib.Math.max.name)) (h3 : lw_tbl[i3]? = some (Cond.initialized "java/lang/Math")) (h4 : lw_tbl[i4]? = some (Cond.code Lib.Math.max.name Lib.Math.max.code 2 (some .int)))
    (hr : 1 ≤ R.frames ∧ (stk.map fun v => v.category).sum + 13 ≤ R.locals ∧ cells ≤ R.cells ∧ slots ≤ R.slots) {x y : Int32} (hdg : decode cc pc = .ok (.invokestatic index, 3))
    (k : xV p l e R s m args below meth c D xcl (wX ad ca) (xA (wX ad ca) s.heap.size) nL cells slots Q g (pc + 3) lv (.int (if x < y then y else x) :: stk)) : xV p l e R s m args below meth c D xcl (wX ad ca) (xA (wX ad ca) s.heap.size) nL cells slots Q g pc lv (.int y :: .int x :: stk) :=
  fun H locs ls hP hS hl => va_mmax X.1.1 X.1.2.1 (X.1.2.2.1.trans hl.1.symm) X.1.2.2.2.1 (X.t h1 rfl) (X.t h2 rfl) (X.t h3 rfl) (X.t h4 rfl) hr.1 hr.2.1 hr.2.2.1 hr.2.2.2 hdg (k H locs ls hP hS hl)
theorem v_copy (X : xX p s m args meth c cc own nL rt D ad ca) {i1 i2 i3 i4 index : Nat} (h1 : lw_tbl[i1]? = some (Cond.methodLink own index arraycopyName)) (h2 : lw_tbl[i2]? = some (Cond.native arraycopyName)) (h3 : lw_tbl[i3]? = some (Cond.static arraycopyName)) (h4 : lw_tbl[i4]? = some (Cond.initialized "java/lang/System"))
    (q0 q1 : Nat) {a0 a1 n0 n1 : Nat} {f0 f1 : Nat → Int32} (ha0 : (wX ad ca g)[q0]? = some (a0, .inl (ca 0, n0, .inl f0))) (ha1 : (wX ad ca g)[q1]? = some (a1, .inl (ca 0, n1, .inl f1))) {n : Int32} (hn : ¬ (n < 0 ∨ n0 < n.toNatClampNeg ∨ n1 < n.toNatClampNeg))
    (hw : (wX ad ca g).set q1 (a1, .inl (ca 0, n1, .inl (va_cpy f0 f1 0 0 n.toNatClampNeg))) = wX ad ca g')
    (hr : 1 ≤ R.frames ∧ (stk.map fun v => v.category).sum + (nativeFrameWords "java/lang/System" "arraycopy" 5 + 11) ≤ R.locals) (hdg : decode cc pc = .ok (.invokestatic index, 3))
    (k : xV p l e R s m args below meth c D xcl (wX ad ca) (xA (wX ad ca) s.heap.size) nL cells slots Q g' (pc + 3) lv stk) : xV p l e R s m args below meth c D xcl (wX ad ca) (xA (wX ad ca) s.heap.size) nL cells slots Q g pc lv (.int n :: .int 0 :: .ref a1 :: .int 0 :: .ref a0 :: stk) := by
  intro H locs ls hP hS hl
  have hz : (0 : Int32).toNatClampNeg = 0 := rfl
  refine va_copyi X.1.1 X.1.2.1 (X.1.2.2.1.trans hl.1.symm) X.1.2.2.2.1 (X.t h1 rfl) (X.t h2 rfl) (X.t h3 rfl) (X.t h4 rfl) X.1.2.2.2.2.2.1 hP (X.1.2.2.2.2.2.2.1 g) hS q0 q1 0 0 ha0 ha1 rfl rfl (ty := .int) rfl (sp := 0) (dp := 0) (n := n) (by decide) (by decide) (fun h => hn (Or.inl h)) (by rw [hz]; omega) (by rw [hz]; omega) (fun _ _ => rfl) hr.1 hr.2 hdg (fun H1 locs1 hP1 _ hS1 => ?_)
  rw [hz] at hP1
  exact k H1 locs1 ls (by rw [← hw]; exact hP1) hS1 hl
theorem v_tout (X : xX p s m args meth c cc own nL rt D ad ca) {dflt lo hi : Int} {offs : Array Int} {len : Nat} {x : Int32} {tgt : Nat} (hdg : decode cc pc = .ok (.tableswitch dflt lo hi offs, len)) (h : x.toInt < lo ∨ hi < x.toInt) (ht : (pc : Int) + dflt = (tgt : Int))
    (k : xV p l e R s m args below meth c D xcl (wX ad ca) (xA (wX ad ca) s.heap.size) nL cells slots Q g tgt lv stk) : xV p l e R s m args below meth c D xcl (wX ad ca) (xA (wX ad ca) s.heap.size) nL cells slots Q g pc lv (.int x :: stk) :=
  fun H locs ls hP hS hl => lv_tableOut X.1.1 X.1.2.1 hdg h ht (k H locs ls hP hS hl)
theorem v_tin (X : xX p s m args meth c cc own nL rt D ad ca) {dflt lo hi : Int} {offs : Array Int} {len : Nat} {x : Int32} {off : Int} {tgt : Nat} (hdg : decode cc pc = .ok (.tableswitch dflt lo hi offs, len)) (h1 : ¬ x.toInt < lo) (h2 : ¬ hi < x.toInt) (ho : offs[(x.toInt - lo).toNat]? = some off) (ht : (pc : Int) + off = (tgt : Int))
    (k : xV p l e R s m args below meth c D xcl (wX ad ca) (xA (wX ad ca) s.heap.size) nL cells slots Q g tgt lv stk) : xV p l e R s m args below meth c D xcl (wX ad ca) (xA (wX ad ca) s.heap.size) nL cells slots Q g pc lv (.int x :: stk) :=
  fun H locs ls hP hS hl => lv_tableIn X.1.1 X.1.2.1 hdg h1 h2 ho ht (k H locs ls hP hS hl)
end XWV
theorem ob_some {α β : Type} {o : Option α} {f : α → Option β} {r : β} (h : o.bind f = some r) : ∃ x, o = some x ∧ f x = some r := by
  cases o with
  | none => cases h
  | some x => exact ⟨x, rfl, h⟩
theorem oi_none {α : Type} {c : Prop} {i : Decidable c} {o : Option α} {r : α} (h : @ite _ c i none o = some r) : ¬ c ∧ o = some r := by
  by_cases hc : c
  · rw [if_pos hc] at h; cases h
  · rw [if_neg hc] at h; exact ⟨hc, h⟩
theorem oz_nar {x : Int32} (h : ¬ ¬ (x = 0 ∨ x = 1)) : narrow .boolean (.int x) = .int x ∧ fits .boolean (.int x) = true := by
  rcases Classical.not_not.mp h with rfl | rfl <;> exact ⟨rfl, rfl⟩
section XB
variable {p : Program} {l : Launch} {e : Env} {R : Room} {s : State} {m : MethodId} {args : Array Value} {below : List Frame} {meth : Method} {c : Code} {D : va_G} {cl : List vw_C} {w : xSt → va_W} {A : Nat → Prop} {nL cells slots : Nat} {Q : State → Prop}
variable {cc : ByteArray} {own : String} {Ts : List Cond} {tys : List (ClassId × FieldType)} {g g' : xSt} {pc mc ms : Nat} {lv lv' : List (Nat × Value)} {stk rest : List Value} {a : Array Value}
theorem v_backI (C : xC p s m args c cc own Ts nL D cl w tys A) {r : Int32}
    (run : ∀ (T : State) (locs : List Loc) (ls : Array Slot), va_P D cl (w g) T.heap → va_S A s.heap T.heap locs → ls.size = nL → Stand p l e R s m args below meth c T locs cells slots → xRun p l e R s m args below meth c T locs cells slots mc ms (F0 m pc ls stk) rest (xQ D cl w (xA w T.heap.size) (.inl (some (.int r))) g' a) (xA w T.heap.size))
    (k : xV p l e R s m args below meth c D cl w A nL (cells + mc) (slots + ms) Q g' (pc + 3) lv (.int r :: rest)) : xV p l e R s m args below meth c D cl w A nL cells slots Q g pc lv stk := v_back C run k
theorem v_backV (C : xC p s m args c cc own Ts nL D cl w tys A)
    (run : ∀ (T : State) (locs : List Loc) (ls : Array Slot), va_P D cl (w g) T.heap → va_S A s.heap T.heap locs → ls.size = nL → Stand p l e R s m args below meth c T locs cells slots → xRun p l e R s m args below meth c T locs cells slots mc ms (F0 m pc ls stk) rest (xQ D cl w (xA w T.heap.size) (.inl none) g' a) (xA w T.heap.size))
    (k : xV p l e R s m args below meth c D cl w A nL (cells + mc) (slots + ms) Q g' (pc + 3) lv rest) : xV p l e R s m args below meth c D cl w A nL cells slots Q g pc lv stk := v_back C run k
end XB
/-! outcomes by number: 0 returned, k + 1 threw -/
def xexn : Nat → String
  | 0 => "java/lang/IllegalArgumentException"
  | 1 => "java/lang/UnsupportedOperationException"
  | 2 => "java/util/NoSuchElementException"
  | _ => "java/lang/IllegalStateException"
def xov : Nat → Option Value → Option Value ⊕ String
  | 0, r => .inl r
  | k + 1, _ => .inr (xexn k)
def obT (o : Option (Nat × Int32 × xSt)) (f : Int32 → xSt → Option (Nat × Int32 × xSt)) : Option (Nat × Int32 × xSt) := match o with
  | none => none
  | some (0, r, g) => f r g
  | some (k + 1, _, g) => some (k + 1, 0, g)
theorem obT_some {o : Option (Nat × Int32 × xSt)} {f : Int32 → xSt → Option (Nat × Int32 × xSt)} {q : Nat × Int32 × xSt} (h : obT o f = some q) : (∃ r g, o = some (0, r, g) ∧ f r g = some q) ∨ ∃ k r g, o = some (k + 1, r, g) ∧ some (k + 1, 0, g) = some q := by
  match o, h with
  | some (0, r, g), h => exact Or.inl ⟨r, g, rfl, h⟩
  | some (k + 1, r, g), h => exact Or.inr ⟨k, r, g, rfl, h⟩
