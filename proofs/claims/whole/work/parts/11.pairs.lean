def f_P_removeAt_L4 (fu : Nat) (p1 : Int32) : Nat → Int32 → xSt → Option (Int32 × xSt)
  | 0, _, _ => none
  | n + 1, a2, g => (if (g 23 0) ≤ a2 then some (a2, g) else (if a2 < 0 ∨ 64 ≤ a2.toNatClampNeg then none else (if (a2 - ((1 : Int32))) < 0 ∨ 64 ≤ (a2 - ((1 : Int32))).toNatClampNeg then none else (Option.bind (some (xw g 20 (a2 - ((1 : Int32))).toNatClampNeg (g 20 a2.toNatClampNeg))) (fun g4 => (if a2 < 0 ∨ 64 ≤ a2.toNatClampNeg then none else (if (a2 - ((1 : Int32))) < 0 ∨ 64 ≤ (a2 - ((1 : Int32))).toNatClampNeg then none else (Option.bind (some (xw g4 21 (a2 - ((1 : Int32))).toNatClampNeg (g4 21 a2.toNatClampNeg))) (fun g8 => (if a2 < 0 ∨ 64 ≤ a2.toNatClampNeg then none else (if (a2 - ((1 : Int32))) < 0 ∨ 64 ≤ (a2 - ((1 : Int32))).toNatClampNeg then none else (Option.bind (some (xw g8 22 (a2 - ((1 : Int32))).toNatClampNeg (g8 22 a2.toNatClampNeg))) (fun g12 => f_P_removeAt_L4 fu p1 n (a2 + (1 : Int32)) g12)))))))))))))

def f_P_removeAt (fu : Nat) (p1 : Int32) (g : xSt) : Option (xSt) := (ob2 (f_P_removeAt_L4 fu p1 fu (p1 + ((1 : Int32))) g) (fun x14 g15 => (Option.bind (some (xw g15 23 0 ((g15 23 0) - ((1 : Int32))))) (fun g17 => some g17))))

set_option maxRecDepth 100000 in
set_option maxHeartbeats 4000000 in
theorem l_P_removeAt_L4 {p : Program} {e : Env} {s : State} {m : MethodId} {below : List Frame} {meth : Method} {c : Code} {D : va_G} {ad : Nat → Nat} {ca : Nat → ClassId} (l : Launch) (fu : Nat) (p1 : Int32) (X : xX p s m ([.ref (ad 7), .int p1] : List Value).toArray meth c b_P_removeAt "CrossDock$Pairs" 3 none D ad ca) (hno : c.exceptionTable.toList = []) {Q : State → Prop} : ∀ (n : Nat) (a2 : Int32) (g : xSt) (a2' : Int32) (g' : xSt), f_P_removeAt_L4 fu p1 n a2 g = some (a2', g') → xV p l e ({ frames := 0, cells := 0, slots := 0, locals := 0 } : Room) s m ([.ref (ad 7), .int p1] : List Value).toArray below meth c D xcl (wX ad ca) (xA (wX ad ca) s.heap.size) 3 0 0 Q g' 60 [(2, .int a2'), (0, .ref (ad 7)), (1, .int p1)] [] → xV p l e ({ frames := 0, cells := 0, slots := 0, locals := 0 } : Room) s m ([.ref (ad 7), .int p1] : List Value).toArray below meth c D xcl (wX ad ca) (xA (wX ad ca) s.heap.size) 3 0 0 Q g 4 [(2, .int a2), (0, .ref (ad 7)), (1, .int p1)] [] := by
  intro n
  induction n with
  | zero =>
    intro a2 g a2' g' hf
    rw [f_P_removeAt_L4] at hf
    cases hf
  | succ n ih =>
    intro a2 g a2' g' hf hk
    rw [f_P_removeAt_L4] at hf
    refine v_iload_n X.1 d_P_removeAt_4 rfl 0 rfl ?_
    refine v_aload_n X.1 d_P_removeAt_5 rfl 1 rfl ?_
    refine v_get X.1 (ci := 3) ⟨in_P, rfl⟩ 7 rfl 3 (by decide) (X.t tw_201 rfl) rfl d_P_removeAt_6 ?_
    refine v_icmp_ge X.1 (tgt := 60) d_P_removeAt_9 (by decide) (fun c1 => ?_) (fun c1 => ?_)
    · rw [if_pos c1] at hf
      cases hf
      refine v_sub [0, 1, 2] rfl ?_
      exact hk
    · rw [if_neg c1] at hf
      refine v_aload_n X.1 d_P_removeAt_12 rfl 1 rfl ?_
      refine v_get X.1 (ci := 3) ⟨in_P, rfl⟩ 7 rfl 0 (by decide) (X.t tw_195 rfl) rfl d_P_removeAt_13 ?_
      refine v_iload_n X.1 d_P_removeAt_16 rfl 0 rfl ?_
      refine v_iconst X.1 (v := (1 : Int32)) d_P_removeAt_17 (by decide) ?_
      refine v_isub X.1 d_P_removeAt_18 ?_
      refine v_aload_n X.1 d_P_removeAt_19 rfl 1 rfl ?_
      refine v_get X.1 (ci := 3) ⟨in_P, rfl⟩ 7 rfl 0 (by decide) (X.t tw_195 rfl) rfl d_P_removeAt_20 ?_
      refine v_iload_n X.1 d_P_removeAt_23 rfl 0 rfl ?_
      obtain ⟨hb2, hf⟩ := oi_none hf
      refine v_iald X.1 17 0 rfl rfl hb2 d_P_removeAt_24 ?_
      obtain ⟨hb3, hf⟩ := oi_none hf
      obtain ⟨g4, eg5, hf⟩ := ob_some hf
      refine v_iast X.1 17 0 rfl rfl hb3 ((sa_20 ad ca _ _ _).trans (congrArg (wX ad ca) (Option.some.inj eg5))) d_P_removeAt_25 ?_
      refine v_aload_n X.1 d_P_removeAt_26 rfl 1 rfl ?_
      refine v_get X.1 (ci := 3) ⟨in_P, rfl⟩ 7 rfl 1 (by decide) (X.t tw_197 rfl) rfl d_P_removeAt_27 ?_
      refine v_iload_n X.1 d_P_removeAt_30 rfl 0 rfl ?_
      refine v_iconst X.1 (v := (1 : Int32)) d_P_removeAt_31 (by decide) ?_
      refine v_isub X.1 d_P_removeAt_32 ?_
      refine v_aload_n X.1 d_P_removeAt_33 rfl 1 rfl ?_
      refine v_get X.1 (ci := 3) ⟨in_P, rfl⟩ 7 rfl 1 (by decide) (X.t tw_197 rfl) rfl d_P_removeAt_34 ?_
      refine v_iload_n X.1 d_P_removeAt_37 rfl 0 rfl ?_
      obtain ⟨hb6, hf⟩ := oi_none hf
      refine v_iald X.1 18 0 rfl rfl hb6 d_P_removeAt_38 ?_
      obtain ⟨hb7, hf⟩ := oi_none hf
      obtain ⟨g8, eg9, hf⟩ := ob_some hf
      refine v_iast X.1 18 0 rfl rfl hb7 ((sa_21 ad ca _ _ _).trans (congrArg (wX ad ca) (Option.some.inj eg9))) d_P_removeAt_39 ?_
      refine v_aload_n X.1 d_P_removeAt_40 rfl 1 rfl ?_
      refine v_get X.1 (ci := 3) ⟨in_P, rfl⟩ 7 rfl 2 (by decide) (X.t tw_199 rfl) rfl d_P_removeAt_41 ?_
      refine v_iload_n X.1 d_P_removeAt_44 rfl 0 rfl ?_
      refine v_iconst X.1 (v := (1 : Int32)) d_P_removeAt_45 (by decide) ?_
      refine v_isub X.1 d_P_removeAt_46 ?_
      refine v_aload_n X.1 d_P_removeAt_47 rfl 1 rfl ?_
      refine v_get X.1 (ci := 3) ⟨in_P, rfl⟩ 7 rfl 2 (by decide) (X.t tw_199 rfl) rfl d_P_removeAt_48 ?_
      refine v_iload_n X.1 d_P_removeAt_51 rfl 0 rfl ?_
      obtain ⟨hb10, hf⟩ := oi_none hf
      refine v_iald X.1 19 0 rfl rfl hb10 d_P_removeAt_52 ?_
      obtain ⟨hb11, hf⟩ := oi_none hf
      obtain ⟨g12, eg13, hf⟩ := ob_some hf
      refine v_iast X.1 19 0 rfl rfl hb11 ((sa_22 ad ca _ _ _).trans (congrArg (wX ad ca) (Option.some.inj eg13))) d_P_removeAt_53 ?_
      refine v_iinc X.1 (k0 := 0) (v := a2 + (1 : Int32)) (lv' := [(2, .int (a2 + (1 : Int32))), (0, .ref (ad 7)), (1, .int p1)]) d_P_removeAt_54 rfl rfl (by decide) rfl ?_
      refine v_goto X.1 (tgt := 4) d_P_removeAt_57 (by decide) ?_
      refine v_sub [0, 1, 2] rfl ?_
      exact ih _ _ _ _ hf hk

set_option maxRecDepth 100000 in
set_option maxHeartbeats 4000000 in
theorem c_P_removeAt (l : Launch) (fu : Nat) (p1 : Int32) (g : xSt) (g' : xSt) (hf : f_P_removeAt fu p1 g = some g') : xM l y_P_removeAt (.code y_P_removeAt b_P_removeAt 3 none) ({ frames := 0, cells := 0, slots := 0, locals := 0 } : Room) (fun ad => [.ref (ad 7), .int p1]) g (.inl none) g' 0 0 := by
  refine x_contract (by decide) (fun _ => Nat.le_of_ble_eq_true rfl) ?_
  intro p e s m below meth c D ad ca X hno
  unfold f_P_removeAt at hf
  refine v_iload_n X.1 d_P_removeAt_0 rfl 1 rfl ?_
  refine v_iconst X.1 (v := (1 : Int32)) d_P_removeAt_1 (by decide) ?_
  refine v_iadd X.1 d_P_removeAt_2 ?_
  refine v_istore_n X.1 (lv' := [(2, .int (p1 + ((1 : Int32)))), (0, .ref (ad 7)), (1, .int p1)]) d_P_removeAt_3 rfl (by decide) rfl ?_
  obtain ⟨x14, g15, hL16, hf⟩ := ob2_some hf
  refine l_P_removeAt_L4 l fu p1 X hno fu _ _ _ _ hL16 ?_
  refine v_aload_n X.1 d_P_removeAt_60 rfl 1 rfl ?_
  refine v_dup X.1 d_P_removeAt_61 rfl ?_
  refine v_get X.1 (ci := 3) ⟨in_P, rfl⟩ 7 rfl 3 (by decide) (X.t tw_201 rfl) rfl d_P_removeAt_62 ?_
  refine v_iconst X.1 (v := (1 : Int32)) d_P_removeAt_65 (by decide) ?_
  refine v_isub X.1 d_P_removeAt_66 ?_
  obtain ⟨g17, eg18, hf⟩ := ob_some hf
  refine v_put X.1 (ci := 3) ⟨in_P, rfl⟩ 7 rfl 3 (by decide) ⟨ty_P_ok, nm_P⟩ (X.t tw_201 rfl) rfl (ty := .int) (by decide +kernel) rfl rfl (Nat.le_of_ble_eq_true rfl) ((sw_23 ad ca _ _).trans (congrArg (wX ad ca) (Option.some.inj eg18))) d_P_removeAt_67 ?_
  cases hf
  exact v_vret X.1 X.2.2.1 d_P_removeAt_70 X.2.2.2.1 (by decide) (by decide)

def f_P_palletsOf_L4 (fu : Nat) (p1 : Int32) : Nat → Int32 → Int32 → xSt → Option (Int32 × Int32 × xSt)
  | 0, _, _, _ => none
  | n + 1, a2, a3, g => (if (g 23 0) ≤ a3 then some (a2, a3, g) else (if a3 < 0 ∨ 64 ≤ a3.toNatClampNeg then none else (if (g 20 a3.toNatClampNeg) = p1 then (if a3 < 0 ∨ 64 ≤ a3.toNatClampNeg then none else f_P_palletsOf_L4 fu p1 n (a2 + (g 22 a3.toNatClampNeg)) (a3 + (1 : Int32)) g) else f_P_palletsOf_L4 fu p1 n a2 (a3 + (1 : Int32)) g)))

def f_P_palletsOf (fu : Nat) (p1 : Int32) (g : xSt) : Option (Int32 × xSt) := (ob3 (f_P_palletsOf_L4 fu p1 fu ((0 : Int32)) ((0 : Int32)) g) (fun x5 x6 g7 => some (x5, g7)))

set_option maxRecDepth 100000 in
set_option maxHeartbeats 4000000 in
theorem l_P_palletsOf_L4 {p : Program} {e : Env} {s : State} {m : MethodId} {below : List Frame} {meth : Method} {c : Code} {D : va_G} {ad : Nat → Nat} {ca : Nat → ClassId} (l : Launch) (fu : Nat) (p1 : Int32) (X : xX p s m ([.ref (ad 7), .int p1] : List Value).toArray meth c b_P_palletsOf "CrossDock$Pairs" 4 (some .int) D ad ca) (hno : c.exceptionTable.toList = []) {Q : State → Prop} : ∀ (n : Nat) (a2 : Int32) (a3 : Int32) (g : xSt) (a2' : Int32) (a3' : Int32) (g' : xSt), f_P_palletsOf_L4 fu p1 n a2 a3 g = some (a2', a3', g') → xV p l e ({ frames := 0, cells := 0, slots := 0, locals := 0 } : Room) s m ([.ref (ad 7), .int p1] : List Value).toArray below meth c D xcl (wX ad ca) (xA (wX ad ca) s.heap.size) 4 0 0 Q g' 37 [(3, .int a3'), (2, .int a2'), (0, .ref (ad 7)), (1, .int p1)] [] → xV p l e ({ frames := 0, cells := 0, slots := 0, locals := 0 } : Room) s m ([.ref (ad 7), .int p1] : List Value).toArray below meth c D xcl (wX ad ca) (xA (wX ad ca) s.heap.size) 4 0 0 Q g 4 [(3, .int a3), (2, .int a2), (0, .ref (ad 7)), (1, .int p1)] [] := by
  intro n
  induction n with
  | zero =>
    intro a2 a3 g a2' a3' g' hf
    rw [f_P_palletsOf_L4] at hf
    cases hf
  | succ n ih =>
    intro a2 a3 g a2' a3' g' hf hk
    rw [f_P_palletsOf_L4] at hf
    refine v_iload_n X.1 d_P_palletsOf_4 rfl 0 rfl ?_
    refine v_aload_n X.1 d_P_palletsOf_5 rfl 2 rfl ?_
    refine v_get X.1 (ci := 3) ⟨in_P, rfl⟩ 7 rfl 3 (by decide) (X.t tw_201 rfl) rfl d_P_palletsOf_6 ?_
    refine v_icmp_ge X.1 (tgt := 37) d_P_palletsOf_9 (by decide) (fun c1 => ?_) (fun c1 => ?_)
    · rw [if_pos c1] at hf
      cases hf
      refine v_sub [0, 1, 2, 3] rfl ?_
      exact hk
    · rw [if_neg c1] at hf
      refine v_aload_n X.1 d_P_palletsOf_12 rfl 2 rfl ?_
      refine v_get X.1 (ci := 3) ⟨in_P, rfl⟩ 7 rfl 0 (by decide) (X.t tw_195 rfl) rfl d_P_palletsOf_13 ?_
      refine v_iload_n X.1 d_P_palletsOf_16 rfl 0 rfl ?_
      obtain ⟨hb2, hf⟩ := oi_none hf
      refine v_iald X.1 17 0 rfl rfl hb2 d_P_palletsOf_17 ?_
      refine v_iload_n X.1 d_P_palletsOf_18 rfl 3 rfl ?_
      refine v_icmp_ne X.1 (tgt := 31) d_P_palletsOf_19 (by decide) (fun c3 => ?_) (fun c3 => ?_)
      · rw [if_neg c3] at hf
        refine v_iinc X.1 (k0 := 0) (v := a3 + (1 : Int32)) (lv' := [(3, .int (a3 + (1 : Int32))), (2, .int a2), (0, .ref (ad 7)), (1, .int p1)]) d_P_palletsOf_31 rfl rfl (by decide) rfl ?_
        refine v_goto X.1 (tgt := 4) d_P_palletsOf_34 (by decide) ?_
        refine v_sub [0, 1, 2, 3] rfl ?_
        exact ih _ _ _ _ _ _ hf hk
      · rw [if_pos c3] at hf
        refine v_iload_n X.1 d_P_palletsOf_22 rfl 1 rfl ?_
        refine v_aload_n X.1 d_P_palletsOf_23 rfl 2 rfl ?_
        refine v_get X.1 (ci := 3) ⟨in_P, rfl⟩ 7 rfl 2 (by decide) (X.t tw_199 rfl) rfl d_P_palletsOf_24 ?_
        refine v_iload_n X.1 d_P_palletsOf_27 rfl 0 rfl ?_
        obtain ⟨hb4, hf⟩ := oi_none hf
        refine v_iald X.1 19 0 rfl rfl hb4 d_P_palletsOf_28 ?_
        refine v_iadd X.1 d_P_palletsOf_29 ?_
        refine v_istore_n X.1 (lv' := [(2, .int (a2 + (g 22 a3.toNatClampNeg))), (3, .int a3), (0, .ref (ad 7)), (1, .int p1)]) d_P_palletsOf_30 rfl (by decide) rfl ?_
        refine v_iinc X.1 (k0 := 1) (v := a3 + (1 : Int32)) (lv' := [(3, .int (a3 + (1 : Int32))), (2, .int (a2 + (g 22 a3.toNatClampNeg))), (0, .ref (ad 7)), (1, .int p1)]) d_P_palletsOf_31 rfl rfl (by decide) rfl ?_
        refine v_goto X.1 (tgt := 4) d_P_palletsOf_34 (by decide) ?_
        refine v_sub [0, 1, 2, 3] rfl ?_
        exact ih _ _ _ _ _ _ hf hk

set_option maxRecDepth 100000 in
set_option maxHeartbeats 4000000 in
theorem c_P_palletsOf (l : Launch) (fu : Nat) (p1 : Int32) (g : xSt) (r : Int32) (g' : xSt) (hf : f_P_palletsOf fu p1 g = some (r, g')) : xM l y_P_palletsOf (.code y_P_palletsOf b_P_palletsOf 4 (some .int)) ({ frames := 0, cells := 0, slots := 0, locals := 0 } : Room) (fun ad => [.ref (ad 7), .int p1]) g (.inl (some (.int r))) g' 0 0 := by
  refine x_contract (by decide) (fun _ => Nat.le_of_ble_eq_true rfl) ?_
  intro p e s m below meth c D ad ca X hno
  unfold f_P_palletsOf at hf
  refine v_iconst X.1 (v := (0 : Int32)) d_P_palletsOf_0 (by decide) ?_
  refine v_istore_n X.1 (lv' := [(2, .int ((0 : Int32))), (0, .ref (ad 7)), (1, .int p1)]) d_P_palletsOf_1 rfl (by decide) rfl ?_
  refine v_iconst X.1 (v := (0 : Int32)) d_P_palletsOf_2 (by decide) ?_
  refine v_istore_n X.1 (lv' := [(3, .int ((0 : Int32))), (2, .int ((0 : Int32))), (0, .ref (ad 7)), (1, .int p1)]) d_P_palletsOf_3 rfl (by decide) rfl ?_
  obtain ⟨x5, x6, g7, hL8, hf⟩ := ob3_some hf
  refine l_P_palletsOf_L4 l fu p1 X hno fu _ _ _ _ _ _ hL8 ?_
  refine v_iload_n X.1 d_P_palletsOf_37 rfl 1 rfl ?_
  cases hf
  exact v_iret X.1 X.2.2.1 rfl d_P_palletsOf_38 X.2.2.2.1 (by decide) (by decide)

def f_P_palletsFor_L4 (fu : Nat) (p1 : Int32) : Nat → Int32 → Int32 → xSt → Option (Int32 × Int32 × xSt)
  | 0, _, _, _ => none
  | n + 1, a2, a3, g => (if (g 23 0) ≤ a3 then some (a2, a3, g) else (if a3 < 0 ∨ 64 ≤ a3.toNatClampNeg then none else (if (g 21 a3.toNatClampNeg) = p1 then (if a3 < 0 ∨ 64 ≤ a3.toNatClampNeg then none else f_P_palletsFor_L4 fu p1 n (a2 + (g 22 a3.toNatClampNeg)) (a3 + (1 : Int32)) g) else f_P_palletsFor_L4 fu p1 n a2 (a3 + (1 : Int32)) g)))

def f_P_palletsFor (fu : Nat) (p1 : Int32) (g : xSt) : Option (Int32 × xSt) := (ob3 (f_P_palletsFor_L4 fu p1 fu ((0 : Int32)) ((0 : Int32)) g) (fun x5 x6 g7 => some (x5, g7)))

set_option maxRecDepth 100000 in
set_option maxHeartbeats 4000000 in
theorem l_P_palletsFor_L4 {p : Program} {e : Env} {s : State} {m : MethodId} {below : List Frame} {meth : Method} {c : Code} {D : va_G} {ad : Nat → Nat} {ca : Nat → ClassId} (l : Launch) (fu : Nat) (p1 : Int32) (X : xX p s m ([.ref (ad 7), .int p1] : List Value).toArray meth c b_P_palletsFor "CrossDock$Pairs" 4 (some .int) D ad ca) (hno : c.exceptionTable.toList = []) {Q : State → Prop} : ∀ (n : Nat) (a2 : Int32) (a3 : Int32) (g : xSt) (a2' : Int32) (a3' : Int32) (g' : xSt), f_P_palletsFor_L4 fu p1 n a2 a3 g = some (a2', a3', g') → xV p l e ({ frames := 0, cells := 0, slots := 0, locals := 0 } : Room) s m ([.ref (ad 7), .int p1] : List Value).toArray below meth c D xcl (wX ad ca) (xA (wX ad ca) s.heap.size) 4 0 0 Q g' 37 [(3, .int a3'), (2, .int a2'), (0, .ref (ad 7)), (1, .int p1)] [] → xV p l e ({ frames := 0, cells := 0, slots := 0, locals := 0 } : Room) s m ([.ref (ad 7), .int p1] : List Value).toArray below meth c D xcl (wX ad ca) (xA (wX ad ca) s.heap.size) 4 0 0 Q g 4 [(3, .int a3), (2, .int a2), (0, .ref (ad 7)), (1, .int p1)] [] := by
  intro n
  induction n with
  | zero =>
    intro a2 a3 g a2' a3' g' hf
    rw [f_P_palletsFor_L4] at hf
    cases hf
  | succ n ih =>
    intro a2 a3 g a2' a3' g' hf hk
    rw [f_P_palletsFor_L4] at hf
    refine v_iload_n X.1 d_P_palletsFor_4 rfl 0 rfl ?_
    refine v_aload_n X.1 d_P_palletsFor_5 rfl 2 rfl ?_
    refine v_get X.1 (ci := 3) ⟨in_P, rfl⟩ 7 rfl 3 (by decide) (X.t tw_201 rfl) rfl d_P_palletsFor_6 ?_
    refine v_icmp_ge X.1 (tgt := 37) d_P_palletsFor_9 (by decide) (fun c1 => ?_) (fun c1 => ?_)
    · rw [if_pos c1] at hf
      cases hf
      refine v_sub [0, 1, 2, 3] rfl ?_
      exact hk
    · rw [if_neg c1] at hf
      refine v_aload_n X.1 d_P_palletsFor_12 rfl 2 rfl ?_
      refine v_get X.1 (ci := 3) ⟨in_P, rfl⟩ 7 rfl 1 (by decide) (X.t tw_197 rfl) rfl d_P_palletsFor_13 ?_
      refine v_iload_n X.1 d_P_palletsFor_16 rfl 0 rfl ?_
      obtain ⟨hb2, hf⟩ := oi_none hf
      refine v_iald X.1 18 0 rfl rfl hb2 d_P_palletsFor_17 ?_
      refine v_iload_n X.1 d_P_palletsFor_18 rfl 3 rfl ?_
      refine v_icmp_ne X.1 (tgt := 31) d_P_palletsFor_19 (by decide) (fun c3 => ?_) (fun c3 => ?_)
      · rw [if_neg c3] at hf
        refine v_iinc X.1 (k0 := 0) (v := a3 + (1 : Int32)) (lv' := [(3, .int (a3 + (1 : Int32))), (2, .int a2), (0, .ref (ad 7)), (1, .int p1)]) d_P_palletsFor_31 rfl rfl (by decide) rfl ?_
        refine v_goto X.1 (tgt := 4) d_P_palletsFor_34 (by decide) ?_
        refine v_sub [0, 1, 2, 3] rfl ?_
        exact ih _ _ _ _ _ _ hf hk
      · rw [if_pos c3] at hf
        refine v_iload_n X.1 d_P_palletsFor_22 rfl 1 rfl ?_
        refine v_aload_n X.1 d_P_palletsFor_23 rfl 2 rfl ?_
        refine v_get X.1 (ci := 3) ⟨in_P, rfl⟩ 7 rfl 2 (by decide) (X.t tw_199 rfl) rfl d_P_palletsFor_24 ?_
        refine v_iload_n X.1 d_P_palletsFor_27 rfl 0 rfl ?_
        obtain ⟨hb4, hf⟩ := oi_none hf
        refine v_iald X.1 19 0 rfl rfl hb4 d_P_palletsFor_28 ?_
        refine v_iadd X.1 d_P_palletsFor_29 ?_
        refine v_istore_n X.1 (lv' := [(2, .int (a2 + (g 22 a3.toNatClampNeg))), (3, .int a3), (0, .ref (ad 7)), (1, .int p1)]) d_P_palletsFor_30 rfl (by decide) rfl ?_
        refine v_iinc X.1 (k0 := 1) (v := a3 + (1 : Int32)) (lv' := [(3, .int (a3 + (1 : Int32))), (2, .int (a2 + (g 22 a3.toNatClampNeg))), (0, .ref (ad 7)), (1, .int p1)]) d_P_palletsFor_31 rfl rfl (by decide) rfl ?_
        refine v_goto X.1 (tgt := 4) d_P_palletsFor_34 (by decide) ?_
        refine v_sub [0, 1, 2, 3] rfl ?_
        exact ih _ _ _ _ _ _ hf hk

set_option maxRecDepth 100000 in
set_option maxHeartbeats 4000000 in
theorem c_P_palletsFor (l : Launch) (fu : Nat) (p1 : Int32) (g : xSt) (r : Int32) (g' : xSt) (hf : f_P_palletsFor fu p1 g = some (r, g')) : xM l y_P_palletsFor (.code y_P_palletsFor b_P_palletsFor 4 (some .int)) ({ frames := 0, cells := 0, slots := 0, locals := 0 } : Room) (fun ad => [.ref (ad 7), .int p1]) g (.inl (some (.int r))) g' 0 0 := by
  refine x_contract (by decide) (fun _ => Nat.le_of_ble_eq_true rfl) ?_
  intro p e s m below meth c D ad ca X hno
  unfold f_P_palletsFor at hf
  refine v_iconst X.1 (v := (0 : Int32)) d_P_palletsFor_0 (by decide) ?_
  refine v_istore_n X.1 (lv' := [(2, .int ((0 : Int32))), (0, .ref (ad 7)), (1, .int p1)]) d_P_palletsFor_1 rfl (by decide) rfl ?_
  refine v_iconst X.1 (v := (0 : Int32)) d_P_palletsFor_2 (by decide) ?_
  refine v_istore_n X.1 (lv' := [(3, .int ((0 : Int32))), (2, .int ((0 : Int32))), (0, .ref (ad 7)), (1, .int p1)]) d_P_palletsFor_3 rfl (by decide) rfl ?_
  obtain ⟨x5, x6, g7, hL8, hf⟩ := ob3_some hf
  refine l_P_palletsFor_L4 l fu p1 X hno fu _ _ _ _ _ _ hL8 ?_
  refine v_iload_n X.1 d_P_palletsFor_37 rfl 1 rfl ?_
  cases hf
  exact v_iret X.1 X.2.2.1 rfl d_P_palletsFor_38 X.2.2.2.1 (by decide) (by decide)

def f_P_palletsInAll_L4 (fu : Nat) : Nat → Int32 → Int32 → xSt → Option (Int32 × Int32 × xSt)
  | 0, _, _, _ => none
  | n + 1, a1, a2, g => (if (g 23 0) ≤ a2 then some (a1, a2, g) else (if a2 < 0 ∨ 64 ≤ a2.toNatClampNeg then none else f_P_palletsInAll_L4 fu n (a1 + (g 22 a2.toNatClampNeg)) (a2 + (1 : Int32)) g))

def f_P_palletsInAll (fu : Nat) (g : xSt) : Option (Int32 × xSt) := (ob3 (f_P_palletsInAll_L4 fu fu ((0 : Int32)) ((0 : Int32)) g) (fun x3 x4 g5 => some (x3, g5)))

set_option maxRecDepth 100000 in
set_option maxHeartbeats 4000000 in
theorem l_P_palletsInAll_L4 {p : Program} {e : Env} {s : State} {m : MethodId} {below : List Frame} {meth : Method} {c : Code} {D : va_G} {ad : Nat → Nat} {ca : Nat → ClassId} (l : Launch) (fu : Nat) (X : xX p s m ([.ref (ad 7)] : List Value).toArray meth c b_P_palletsInAll "CrossDock$Pairs" 3 (some .int) D ad ca) (hno : c.exceptionTable.toList = []) {Q : State → Prop} : ∀ (n : Nat) (a1 : Int32) (a2 : Int32) (g : xSt) (a1' : Int32) (a2' : Int32) (g' : xSt), f_P_palletsInAll_L4 fu n a1 a2 g = some (a1', a2', g') → xV p l e ({ frames := 0, cells := 0, slots := 0, locals := 0 } : Room) s m ([.ref (ad 7)] : List Value).toArray below meth c D xcl (wX ad ca) (xA (wX ad ca) s.heap.size) 3 0 0 Q g' 27 [(2, .int a2'), (1, .int a1'), (0, .ref (ad 7))] [] → xV p l e ({ frames := 0, cells := 0, slots := 0, locals := 0 } : Room) s m ([.ref (ad 7)] : List Value).toArray below meth c D xcl (wX ad ca) (xA (wX ad ca) s.heap.size) 3 0 0 Q g 4 [(2, .int a2), (1, .int a1), (0, .ref (ad 7))] [] := by
  intro n
  induction n with
  | zero =>
    intro a1 a2 g a1' a2' g' hf
    rw [f_P_palletsInAll_L4] at hf
    cases hf
  | succ n ih =>
    intro a1 a2 g a1' a2' g' hf hk
    rw [f_P_palletsInAll_L4] at hf
    refine v_iload_n X.1 d_P_palletsInAll_4 rfl 0 rfl ?_
    refine v_aload_n X.1 d_P_palletsInAll_5 rfl 2 rfl ?_
    refine v_get X.1 (ci := 3) ⟨in_P, rfl⟩ 7 rfl 3 (by decide) (X.t tw_201 rfl) rfl d_P_palletsInAll_6 ?_
    refine v_icmp_ge X.1 (tgt := 27) d_P_palletsInAll_9 (by decide) (fun c1 => ?_) (fun c1 => ?_)
    · rw [if_pos c1] at hf
      cases hf
      refine v_sub [0, 1, 2] rfl ?_
      exact hk
    · rw [if_neg c1] at hf
      refine v_iload_n X.1 d_P_palletsInAll_12 rfl 1 rfl ?_
      refine v_aload_n X.1 d_P_palletsInAll_13 rfl 2 rfl ?_
      refine v_get X.1 (ci := 3) ⟨in_P, rfl⟩ 7 rfl 2 (by decide) (X.t tw_199 rfl) rfl d_P_palletsInAll_14 ?_
      refine v_iload_n X.1 d_P_palletsInAll_17 rfl 0 rfl ?_
      obtain ⟨hb2, hf⟩ := oi_none hf
      refine v_iald X.1 19 0 rfl rfl hb2 d_P_palletsInAll_18 ?_
      refine v_iadd X.1 d_P_palletsInAll_19 ?_
      refine v_istore_n X.1 (lv' := [(1, .int (a1 + (g 22 a2.toNatClampNeg))), (2, .int a2), (0, .ref (ad 7))]) d_P_palletsInAll_20 rfl (by decide) rfl ?_
      refine v_iinc X.1 (k0 := 1) (v := a2 + (1 : Int32)) (lv' := [(2, .int (a2 + (1 : Int32))), (1, .int (a1 + (g 22 a2.toNatClampNeg))), (0, .ref (ad 7))]) d_P_palletsInAll_21 rfl rfl (by decide) rfl ?_
      refine v_goto X.1 (tgt := 4) d_P_palletsInAll_24 (by decide) ?_
      refine v_sub [0, 1, 2] rfl ?_
      exact ih _ _ _ _ _ _ hf hk

set_option maxRecDepth 100000 in
set_option maxHeartbeats 4000000 in
theorem c_P_palletsInAll (l : Launch) (fu : Nat) (g : xSt) (r : Int32) (g' : xSt) (hf : f_P_palletsInAll fu g = some (r, g')) : xM l y_P_palletsInAll (.code y_P_palletsInAll b_P_palletsInAll 3 (some .int)) ({ frames := 0, cells := 0, slots := 0, locals := 0 } : Room) (fun ad => [.ref (ad 7)]) g (.inl (some (.int r))) g' 0 0 := by
  refine x_contract (by decide) (fun _ => Nat.le_of_ble_eq_true rfl) ?_
  intro p e s m below meth c D ad ca X hno
  unfold f_P_palletsInAll at hf
  refine v_iconst X.1 (v := (0 : Int32)) d_P_palletsInAll_0 (by decide) ?_
  refine v_istore_n X.1 (lv' := [(1, .int ((0 : Int32))), (0, .ref (ad 7))]) d_P_palletsInAll_1 rfl (by decide) rfl ?_
  refine v_iconst X.1 (v := (0 : Int32)) d_P_palletsInAll_2 (by decide) ?_
  refine v_istore_n X.1 (lv' := [(2, .int ((0 : Int32))), (1, .int ((0 : Int32))), (0, .ref (ad 7))]) d_P_palletsInAll_3 rfl (by decide) rfl ?_
  obtain ⟨x3, x4, g5, hL6, hf⟩ := ob3_some hf
  refine l_P_palletsInAll_L4 l fu X hno fu _ _ _ _ _ _ hL6 ?_
  refine v_iload_n X.1 d_P_palletsInAll_27 rfl 1 rfl ?_
  cases hf
  exact v_iret X.1 X.2.2.1 rfl d_P_palletsInAll_28 X.2.2.2.1 (by decide) (by decide)

def f_P_replaceBy_L7 (fu : Nat) : Nat → Int32 → xSt → Option (Int32 × xSt)
  | 0, _, _ => none
  | n + 1, a2, g => (if (g 16 0) ≤ a2 then some (a2, g) else (if a2 < 0 ∨ 64 ≤ a2.toNatClampNeg then none else (if (g 15 a2.toNatClampNeg) ≤ 0 then f_P_replaceBy_L7 fu n (a2 + (1 : Int32)) g else (if a2 < 0 ∨ 64 ≤ a2.toNatClampNeg then none else (if (g 23 0) < 0 ∨ 64 ≤ (g 23 0).toNatClampNeg then none else (Option.bind (some (xw g 20 (g 23 0).toNatClampNeg (g 7 a2.toNatClampNeg))) (fun g8 => (if a2 < 0 ∨ 64 ≤ a2.toNatClampNeg then none else (if (g8 23 0) < 0 ∨ 64 ≤ (g8 23 0).toNatClampNeg then none else (Option.bind (some (xw g8 21 (g8 23 0).toNatClampNeg (g8 8 a2.toNatClampNeg))) (fun g12 => (if a2 < 0 ∨ 64 ≤ a2.toNatClampNeg then none else (if (g12 23 0) < 0 ∨ 64 ≤ (g12 23 0).toNatClampNeg then none else (Option.bind (some (xw g12 22 (g12 23 0).toNatClampNeg (g12 15 a2.toNatClampNeg))) (fun g16 => (Option.bind (some (xw g16 23 0 ((g16 23 0) + ((1 : Int32))))) (fun g18 => f_P_replaceBy_L7 fu n (a2 + (1 : Int32)) g18)))))))))))))))))

def f_P_replaceBy (fu : Nat) (g : xSt) : Option (xSt) := (Option.bind (some (xw g 23 0 ((0 : Int32)))) (fun g1 => (ob2 (f_P_replaceBy_L7 fu fu ((0 : Int32)) g1) (fun x20 g21 => some g21))))

set_option maxRecDepth 100000 in
set_option maxHeartbeats 4000000 in
theorem l_P_replaceBy_L7 {p : Program} {e : Env} {s : State} {m : MethodId} {below : List Frame} {meth : Method} {c : Code} {D : va_G} {ad : Nat → Nat} {ca : Nat → ClassId} (l : Launch) (fu : Nat) (X : xX p s m ([.ref (ad 7), .ref (ad 6)] : List Value).toArray meth c b_P_replaceBy "CrossDock$Pairs" 3 none D ad ca) (hno : c.exceptionTable.toList = []) {Q : State → Prop} : ∀ (n : Nat) (a2 : Int32) (g : xSt) (a2' : Int32) (g' : xSt), f_P_replaceBy_L7 fu n a2 g = some (a2', g') → xV p l e ({ frames := 0, cells := 0, slots := 0, locals := 0 } : Room) s m ([.ref (ad 7), .ref (ad 6)] : List Value).toArray below meth c D xcl (wX ad ca) (xA (wX ad ca) s.heap.size) 3 0 0 Q g' 85 [(2, .int a2'), (0, .ref (ad 7)), (1, .ref (ad 6))] [] → xV p l e ({ frames := 0, cells := 0, slots := 0, locals := 0 } : Room) s m ([.ref (ad 7), .ref (ad 6)] : List Value).toArray below meth c D xcl (wX ad ca) (xA (wX ad ca) s.heap.size) 3 0 0 Q g 7 [(2, .int a2), (0, .ref (ad 7)), (1, .ref (ad 6))] [] := by
  intro n
  induction n with
  | zero =>
    intro a2 g a2' g' hf
    rw [f_P_replaceBy_L7] at hf
    cases hf
  | succ n ih =>
    intro a2 g a2' g' hf hk
    rw [f_P_replaceBy_L7] at hf
    refine v_iload_n X.1 d_P_replaceBy_7 rfl 0 rfl ?_
    refine v_aload_n X.1 d_P_replaceBy_8 rfl 2 rfl ?_
    refine v_getN X.1 (ci := 4) ⟨in_S, rfl⟩ 6 rfl 9 (by decide) (X.t tw_154 rfl) rfl d_P_replaceBy_9 ?_
    refine v_icmp_ge X.1 (tgt := 85) d_P_replaceBy_12 (by decide) (fun c3 => ?_) (fun c3 => ?_)
    · rw [if_pos c3] at hf
      cases hf
      refine v_sub [0, 1, 2] rfl ?_
      exact hk
    · rw [if_neg c3] at hf
      refine v_aload_n X.1 d_P_replaceBy_15 rfl 2 rfl ?_
      refine v_getN X.1 (ci := 4) ⟨in_S, rfl⟩ 6 rfl 8 (by decide) (X.t tw_152 rfl) rfl d_P_replaceBy_16 ?_
      refine v_iload_n X.1 d_P_replaceBy_19 rfl 0 rfl ?_
      obtain ⟨hb4, hf⟩ := oi_none hf
      refine v_iald X.1 16 0 rfl rfl hb4 d_P_replaceBy_20 ?_
      refine v_if_le X.1 (tgt := 79) d_P_replaceBy_21 (by decide) (fun c5 => ?_) (fun c5 => ?_)
      · rw [if_pos c5] at hf
        refine v_iinc X.1 (k0 := 0) (v := a2 + (1 : Int32)) (lv' := [(2, .int (a2 + (1 : Int32))), (0, .ref (ad 7)), (1, .ref (ad 6))]) d_P_replaceBy_79 rfl rfl (by decide) rfl ?_
        refine v_goto X.1 (tgt := 7) d_P_replaceBy_82 (by decide) ?_
        refine v_sub [0, 1, 2] rfl ?_
        exact ih _ _ _ _ hf hk
      · rw [if_neg c5] at hf
        refine v_aload_n X.1 d_P_replaceBy_24 rfl 1 rfl ?_
        refine v_get X.1 (ci := 3) ⟨in_P, rfl⟩ 7 rfl 0 (by decide) (X.t tw_195 rfl) rfl d_P_replaceBy_25 ?_
        refine v_aload_n X.1 d_P_replaceBy_28 rfl 1 rfl ?_
        refine v_get X.1 (ci := 3) ⟨in_P, rfl⟩ 7 rfl 3 (by decide) (X.t tw_201 rfl) rfl d_P_replaceBy_29 ?_
        refine v_aload_n X.1 d_P_replaceBy_32 rfl 2 rfl ?_
        refine v_getN X.1 (ci := 4) ⟨in_S, rfl⟩ 6 rfl 0 (by decide) (X.t tw_140 rfl) rfl d_P_replaceBy_33 ?_
        refine v_iload_n X.1 d_P_replaceBy_36 rfl 0 rfl ?_
        obtain ⟨hb6, hf⟩ := oi_none hf
        refine v_iald X.1 8 0 rfl rfl hb6 d_P_replaceBy_37 ?_
        obtain ⟨hb7, hf⟩ := oi_none hf
        obtain ⟨g8, eg9, hf⟩ := ob_some hf
        refine v_iast X.1 17 0 rfl rfl hb7 ((sa_20 ad ca _ _ _).trans (congrArg (wX ad ca) (Option.some.inj eg9))) d_P_replaceBy_38 ?_
        refine v_aload_n X.1 d_P_replaceBy_39 rfl 1 rfl ?_
        refine v_get X.1 (ci := 3) ⟨in_P, rfl⟩ 7 rfl 1 (by decide) (X.t tw_197 rfl) rfl d_P_replaceBy_40 ?_
        refine v_aload_n X.1 d_P_replaceBy_43 rfl 1 rfl ?_
        refine v_get X.1 (ci := 3) ⟨in_P, rfl⟩ 7 rfl 3 (by decide) (X.t tw_201 rfl) rfl d_P_replaceBy_44 ?_
        refine v_aload_n X.1 d_P_replaceBy_47 rfl 2 rfl ?_
        refine v_getN X.1 (ci := 4) ⟨in_S, rfl⟩ 6 rfl 1 (by decide) (X.t tw_142 rfl) rfl d_P_replaceBy_48 ?_
        refine v_iload_n X.1 d_P_replaceBy_51 rfl 0 rfl ?_
        obtain ⟨hb10, hf⟩ := oi_none hf
        refine v_iald X.1 9 0 rfl rfl hb10 d_P_replaceBy_52 ?_
        obtain ⟨hb11, hf⟩ := oi_none hf
        obtain ⟨g12, eg13, hf⟩ := ob_some hf
        refine v_iast X.1 18 0 rfl rfl hb11 ((sa_21 ad ca _ _ _).trans (congrArg (wX ad ca) (Option.some.inj eg13))) d_P_replaceBy_53 ?_
        refine v_aload_n X.1 d_P_replaceBy_54 rfl 1 rfl ?_
        refine v_get X.1 (ci := 3) ⟨in_P, rfl⟩ 7 rfl 2 (by decide) (X.t tw_199 rfl) rfl d_P_replaceBy_55 ?_
        refine v_aload_n X.1 d_P_replaceBy_58 rfl 1 rfl ?_
        refine v_get X.1 (ci := 3) ⟨in_P, rfl⟩ 7 rfl 3 (by decide) (X.t tw_201 rfl) rfl d_P_replaceBy_59 ?_
        refine v_aload_n X.1 d_P_replaceBy_62 rfl 2 rfl ?_
        refine v_getN X.1 (ci := 4) ⟨in_S, rfl⟩ 6 rfl 8 (by decide) (X.t tw_152 rfl) rfl d_P_replaceBy_63 ?_
        refine v_iload_n X.1 d_P_replaceBy_66 rfl 0 rfl ?_
        obtain ⟨hb14, hf⟩ := oi_none hf
        refine v_iald X.1 16 0 rfl rfl hb14 d_P_replaceBy_67 ?_
        obtain ⟨hb15, hf⟩ := oi_none hf
        obtain ⟨g16, eg17, hf⟩ := ob_some hf
        refine v_iast X.1 19 0 rfl rfl hb15 ((sa_22 ad ca _ _ _).trans (congrArg (wX ad ca) (Option.some.inj eg17))) d_P_replaceBy_68 ?_
        refine v_aload_n X.1 d_P_replaceBy_69 rfl 1 rfl ?_
        refine v_dup X.1 d_P_replaceBy_70 rfl ?_
        refine v_get X.1 (ci := 3) ⟨in_P, rfl⟩ 7 rfl 3 (by decide) (X.t tw_201 rfl) rfl d_P_replaceBy_71 ?_
        refine v_iconst X.1 (v := (1 : Int32)) d_P_replaceBy_74 (by decide) ?_
        refine v_iadd X.1 d_P_replaceBy_75 ?_
        obtain ⟨g18, eg19, hf⟩ := ob_some hf
        refine v_put X.1 (ci := 3) ⟨in_P, rfl⟩ 7 rfl 3 (by decide) ⟨ty_P_ok, nm_P⟩ (X.t tw_201 rfl) rfl (ty := .int) (by decide +kernel) rfl rfl (Nat.le_of_ble_eq_true rfl) ((sw_23 ad ca _ _).trans (congrArg (wX ad ca) (Option.some.inj eg19))) d_P_replaceBy_76 ?_
        refine v_iinc X.1 (k0 := 0) (v := a2 + (1 : Int32)) (lv' := [(2, .int (a2 + (1 : Int32))), (0, .ref (ad 7)), (1, .ref (ad 6))]) d_P_replaceBy_79 rfl rfl (by decide) rfl ?_
        refine v_goto X.1 (tgt := 7) d_P_replaceBy_82 (by decide) ?_
        refine v_sub [0, 1, 2] rfl ?_
        exact ih _ _ _ _ hf hk

set_option maxRecDepth 100000 in
set_option maxHeartbeats 4000000 in
theorem c_P_replaceBy (l : Launch) (fu : Nat) (g : xSt) (g' : xSt) (hf : f_P_replaceBy fu g = some g') : xM l y_P_replaceBy (.code y_P_replaceBy b_P_replaceBy 3 none) ({ frames := 0, cells := 0, slots := 0, locals := 0 } : Room) (fun ad => [.ref (ad 7), .ref (ad 6)]) g (.inl none) g' 0 0 := by
  refine x_contract (by decide) (fun _ => Nat.le_of_ble_eq_true rfl) ?_
  intro p e s m below meth c D ad ca X hno
  unfold f_P_replaceBy at hf
  refine v_aload_n X.1 d_P_replaceBy_0 rfl 0 rfl ?_
  refine v_iconst X.1 (v := (0 : Int32)) d_P_replaceBy_1 (by decide) ?_
  obtain ⟨g1, eg2, hf⟩ := ob_some hf
  refine v_put X.1 (ci := 3) ⟨in_P, rfl⟩ 7 rfl 3 (by decide) ⟨ty_P_ok, nm_P⟩ (X.t tw_201 rfl) rfl (ty := .int) (by decide +kernel) rfl rfl (Nat.le_of_ble_eq_true rfl) ((sw_23 ad ca _ _).trans (congrArg (wX ad ca) (Option.some.inj eg2))) d_P_replaceBy_2 ?_
  refine v_iconst X.1 (v := (0 : Int32)) d_P_replaceBy_5 (by decide) ?_
  refine v_istore_n X.1 (lv' := [(2, .int ((0 : Int32))), (0, .ref (ad 7)), (1, .ref (ad 6))]) d_P_replaceBy_6 rfl (by decide) rfl ?_
  obtain ⟨x20, g21, hL22, hf⟩ := ob2_some hf
  refine l_P_replaceBy_L7 l fu X hno fu _ _ _ _ hL22 ?_
  cases hf
  exact v_vret X.1 X.2.2.1 d_P_replaceBy_85 X.2.2.2.1 (by decide) (by decide)

