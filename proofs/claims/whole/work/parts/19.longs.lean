/-! the law's own rows: longs, the out array, the script, calls of methods with handlers -/
def obC {β : Type} (o : Option (Nat × Int32 × xSt)) (f : Int32 → xSt → Option β) (h : Nat → xSt → Option β) : Option β := match o with
  | none => none
  | some (0, r, g) => f r g
  | some (k + 1, _, g) => h k g
theorem obC_some {β : Type} {o : Option (Nat × Int32 × xSt)} {f : Int32 → xSt → Option β} {h : Nat → xSt → Option β} {q : β} (e : obC o f h = some q) : (∃ r g, o = some (0, r, g) ∧ f r g = some q) ∨ ∃ k r g, o = some (k + 1, r, g) ∧ h k g = some q := by
  match o, e with
  | some (0, r, g), e => exact Or.inl ⟨r, g, rfl, e⟩
  | some (k + 1, r, g), e => exact Or.inr ⟨k, r, g, rfl, e⟩
theorem so_68 (ad : Nat → Nat) (ca : Nat → ClassId) (g : xSt) (x : Int32) : (wX ad ca g).set 58 (ad 58, .inl (ca 4, 1, .inr (.inl (vp_updL (fun j => (g 68 j).toInt64) (0 : Int32).toNatClampNeg x.toInt64)))) = wX ad ca (xw g 68 0 x) := by
  have h : vp_updL (fun j => (g 68 j).toInt64) (0 : Int32).toNatClampNeg x.toInt64 = fun j => (xw g 68 0 x 68 j).toInt64 := by
    funext j
    have hz : (0 : Int32).toNatClampNeg = 0 := rfl
    by_cases hj : j = 0
    · subst hj; simp [vp_updL, hz, xw, va_up, upd]
    · simp [vp_updL, hz, xw, va_up, upd, hj]
  rw [h]; rfl
section XLW
variable {p : Program} {l : Launch} {e : Env} {R : Room} {s : State} {m : MethodId} {args : Array Value} {below : List Frame} {meth : Method} {c : Code} {D : va_G} {ad : Nat → Nat} {ca : Nat → ClassId} {nL cells slots : Nat} {Q : State → Prop}
variable {cc : ByteArray} {own : String} {g g' : xSt} {pc mc ms : Nat} {lv lv' : List (Nat × Value)} {stk rest : List Value} {E : String} {rt : Option FieldType} {a : Array Value}
variable {y : MethodName} {bytes : ByteArray} {maxL : Nat} {ret : Option FieldType} {rm : Room} {As : (Nat → Nat) → List Value} {ov : Option Value ⊕ String} {hs : List (Nat × Nat × Nat × Nat)}
theorem v_lconst (X : xX p s m args meth c cc own nL rt D ad ca) {n : Fin 2} {v : Int64} (hdg : decode cc pc = .ok (.lconst n, 1)) (hv : Int64.ofNat (n : Nat) = v)
    (k : xV p l e R s m args below meth c D xcl (wX ad ca) (xA (wX ad ca) s.heap.size) nL cells slots Q g (pc + 1) lv (.long v :: stk)) : xV p l e R s m args below meth c D xcl (wX ad ca) (xA (wX ad ca) s.heap.size) nL cells slots Q g pc lv stk :=
  fun H locs ls hP hS hl => lv_lconst X.1.1 X.1.2.1 hdg hv (k H locs ls hP hS hl)
theorem v_last (X : xX p s m args meth c cc own nL rt D ad ca) {x : Int32} (hg : xw g 68 0 x = g') (hdg : decode cc pc = .ok (.lastore, 1))
    (k : xV p l e R s m args below meth c D xcl (wX ad ca) (xA (wX ad ca) s.heap.size) nL cells slots Q g' (pc + 1) lv stk) : xV p l e R s m args below meth c D xcl (wX ad ca) (xA (wX ad ca) s.heap.size) nL cells slots Q g pc lv (.long x.toInt64 :: .int 0 :: .ref (ad 58) :: stk) :=
  fun H locs ls hP hS hl => va_last X.1.1 X.1.2.1 X.1.2.2.2.2.2.1 hP (X.1.2.2.2.2.2.2.1 g) hS 58 4 rfl rfl (vp_in_nI (n := 0) (N := 1) (by decide) (by decide)) hdg (fun H1 locs1 hP1 _ hS1 => k H1 locs1 ls (by rw [← hg, ← so_68]; exact hP1) hS1 hl)
theorem v_lald (X : xX p s m args meth c cc own nL rt D ad ca) (hdg : decode cc pc = .ok (.laload, 1))
    (k : xV p l e R s m args below meth c D xcl (wX ad ca) (xA (wX ad ca) s.heap.size) nL cells slots Q g (pc + 1) lv (.long (g 68 0).toInt64 :: stk)) : xV p l e R s m args below meth c D xcl (wX ad ca) (xA (wX ad ca) s.heap.size) nL cells slots Q g pc lv (.int 0 :: .ref (ad 58) :: stk) :=
  fun H locs ls hP hS hl => va_lald X.1.1 X.1.2.1 X.1.2.2.2.2.2.1 hP 58 4 rfl rfl (vp_in_nI (n := 0) (N := 1) (by decide) (by decide)) hdg (k H locs ls hP hS hl)
theorem v_lcmp (X : xX p s m args meth c cc own nL rt D ad ca) {x y : Int64} (hdg : decode cc pc = .ok (.lcmp, 1))
    (k : xV p l e R s m args below meth c D xcl (wX ad ca) (xA (wX ad ca) s.heap.size) nL cells slots Q g (pc + 1) lv (.int (lg_cmp x y) :: stk)) : xV p l e R s m args below meth c D xcl (wX ad ca) (xA (wX ad ca) s.heap.size) nL cells slots Q g pc lv (.long y :: .long x :: stk) :=
  fun H locs ls hP hS hl => W.lcmp X.1.1 X.1.2.1 hdg (k H locs ls hP hS hl)
theorem v_sld (X : xX p s m args meth c cc own nL rt D ad ca) {b L : Nat} {xs : Nat → Int32} (hb : va_X b L xs s s.heap ∧ b < s.heap.size ∧ ¬ xA (wX ad ca) s.heap.size b) {i : Int32} (hin : ¬ (i < 0 ∨ L ≤ i.toNatClampNeg)) (hdg : decode cc pc = .ok (.iaload, 1))
    (k : xV p l e R s m args below meth c D xcl (wX ad ca) (xA (wX ad ca) s.heap.size) nL cells slots Q g (pc + 1) lv (.int (xs i.toNatClampNeg) :: stk)) : xV p l e R s m args below meth c D xcl (wX ad ca) (xA (wX ad ca) s.heap.size) nL cells slots Q g pc lv (.int i :: .ref b :: stk) :=
  fun H locs ls hP hS hl => va_sld X.1.1 X.1.2.1 hb.1 hb.2.1 hb.2.2 hS hin hdg (k H locs ls hP hS hl)
theorem v_slen (X : xX p s m args meth c cc own nL rt D ad ca) {b L : Nat} {xs : Nat → Int32} (hb : va_X b L xs s s.heap ∧ b < s.heap.size ∧ ¬ xA (wX ad ca) s.heap.size b) (hdg : decode cc pc = .ok (.arraylength, 1))
    (k : xV p l e R s m args below meth c D xcl (wX ad ca) (xA (wX ad ca) s.heap.size) nL cells slots Q g (pc + 1) lv (.int (Int32.ofNat L) :: stk)) : xV p l e R s m args below meth c D xcl (wX ad ca) (xA (wX ad ca) s.heap.size) nL cells slots Q g pc lv (.ref b :: stk) :=
  fun H locs ls hP hS hl => va_slen X.1.1 X.1.2.1 hb.1 hb.2.1 hb.2.2 hS hdg (k H locs ls hP hS hl)
theorem x_runH (X : xX p s m args meth c cc own nL rt D ad ca) (hM : xM l y (.codeWith y bytes maxL ret hs) rm As g ov g' mc ms) {i1 i2 i3 i4 index : Nat} (h1 : lw_tbl[i1]? = some (Cond.codeWith y bytes maxL ret hs)) (h2 : lw_tbl[i2]? = some (Cond.initialized y.cls)) (h3 : lw_tbl[i3]? = some (Cond.methodLink own index y)) (h4 : lw_tbl[i4]? = some (Cond.static y))
    (hr : rm.cells = mc ∧ rm.slots = ms ∧ rm.frames + 1 ≤ R.frames ∧ 8 + (maxL + 11) + rm.locals ≤ R.locals) (hy : (y.cls ≠ "java/lang/invoke/MethodHandle" ∧ y.cls ≠ "java/lang/invoke/VarHandle") ∧ (parseMethodDescriptor y.desc).map (fun d => d.parameters.length) = some (As ad).length)
    (hstk : (As ad).reverse ++ rest = stk) (hW : (rest.map fun v => v.category).sum ≤ 8) (hdg : decode cc pc = .ok (.invokestatic index, 3)) (hc : cells + mc ≤ R.cells) (hss : slots + ms ≤ R.slots) :
    ∀ (T : State) (locs : List Loc) (ls : Array Slot), va_P D xcl (wX ad ca g) T.heap → va_S (xA (wX ad ca) s.heap.size) s.heap T.heap locs → ls.size = nL → Stand p l e R s m args below meth c T locs cells slots → xRun p l e R s m args below meth c T locs cells slots mc ms (F0 m pc ls stk) rest (xQ D xcl (wX ad ca) (xA (wX ad ca) T.heap.size) ov g' (As ad).toArray) (xA (wX ad ca) T.heap.size) := by
  intro T locs ls hP hS hl St
  exact xcallSH St X.1.1 (hM D ad ca T.heap.size) xP_blind hr (fun a' U hW => xok_warm hW rfl (X.t h1 rfl)) (fun a' U hW => xok_warm hW rfl (X.t h2 rfl)) X.1.2.2.2.1 (X.t h3 rfl) (X.t h4 rfl) hy.1 (g := F0 m pc ls stk) rfl (hl.trans X.1.2.2.1.symm) (argsL := As ad) (rest := rest) (x_len hy.2) hstk.symm (by show 2 * 0 + _ ≤ 8; omega) (by rw [X.1.2.1]; exact hdg) hc hss (x_pre X hP hS (As ad))
end XLW
