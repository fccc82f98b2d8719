def f_M_thrown (g : xSt) : Option (Int32 × xSt) := some (g 40 0, g)

set_option maxRecDepth 100000 in
set_option maxHeartbeats 4000000 in
theorem c_M_thrown (l : Launch) (g : xSt) (r : Int32) (g' : xSt) (hf : f_M_thrown g = some (r, g')) : xM l y_M_thrown (.code y_M_thrown b_M_thrown 1 (some .int)) ({ frames := 0, cells := 0, slots := 0, locals := 0 } : Room) (fun ad => [.ref (ad 36)]) g (.inl (some (.int r))) g' 0 0 := by
  refine x_contract (by decide) (fun _ => Nat.le_of_ble_eq_true rfl) ?_
  intro p e s m below meth c D ad ca X hno
  unfold f_M_thrown at hf
  refine v_aload_n X.1 d_M_thrown_0 rfl 0 rfl ?_
  refine v_get X.1 (ci := 5) ⟨in_M, rfl⟩ 36 rfl 0 (by decide) (X.t tw_628 rfl) rfl d_M_thrown_1 ?_
  cases hf
  exact v_iret X.1 X.2.2.1 rfl d_M_thrown_4 X.2.2.2.1 (by decide) (by decide)

def f_M_in (p1 : Int32) (p2 : Int32) (p3 : Int32) (g : xSt) : Option (Int32 × xSt) := (if p1 < p2 then some ((0 : Int32), g) else (if p3 < p1 then some ((0 : Int32), g) else some ((1 : Int32), g)))

set_option maxRecDepth 100000 in
set_option maxHeartbeats 4000000 in
theorem c_M_in (l : Launch) (p1 : Int32) (p2 : Int32) (p3 : Int32) (g : xSt) (r : Int32) (g' : xSt) (hf : f_M_in p1 p2 p3 g = some (r, g')) : xM l y_M_in (.code y_M_in b_M_in 3 (some .boolean)) ({ frames := 0, cells := 0, slots := 0, locals := 0 } : Room) (fun ad => [.int p1, .int p2, .int p3]) g (.inl (some (.int r))) g' 0 0 := by
  refine x_contract (by decide) (fun _ => Nat.le_of_ble_eq_true rfl) ?_
  intro p e s m below meth c D ad ca X hno
  unfold f_M_in at hf
  refine v_iload_n X.1 d_M_in_0 rfl 0 rfl ?_
  refine v_iload_n X.1 d_M_in_1 rfl 1 rfl ?_
  refine v_icmp_lt X.1 (tgt := 14) d_M_in_2 (by decide) (fun c1 => ?_) (fun c1 => ?_)
  · rw [if_pos c1] at hf
    refine v_iconst X.1 (v := (0 : Int32)) d_M_in_14 (by decide) ?_
    cases hf
    exact v_iret X.1 X.2.2.1 rfl d_M_in_15 X.2.2.2.1 (by decide) (by decide)
  · rw [if_neg c1] at hf
    refine v_iload_n X.1 d_M_in_5 rfl 0 rfl ?_
    refine v_iload_n X.1 d_M_in_6 rfl 2 rfl ?_
    refine v_icmp_gt X.1 (tgt := 14) d_M_in_7 (by decide) (fun c2 => ?_) (fun c2 => ?_)
    · rw [if_pos c2] at hf
      refine v_iconst X.1 (v := (0 : Int32)) d_M_in_14 (by decide) ?_
      cases hf
      exact v_iret X.1 X.2.2.1 rfl d_M_in_15 X.2.2.2.1 (by decide) (by decide)
    · rw [if_neg c2] at hf
      refine v_iconst X.1 (v := (1 : Int32)) d_M_in_10 (by decide) ?_
      refine v_goto X.1 (tgt := 15) d_M_in_11 (by decide) ?_
      cases hf
      exact v_iret X.1 X.2.2.1 rfl d_M_in_15 X.2.2.2.1 (by decide) (by decide)

def f_M_isArrival (p1 : Int32) (g : xSt) : Option (Int32 × xSt) := (ob2 (f_M_in p1 ((0 : Int32)) ((g 41 0) - ((1 : Int32))) g) (fun r2 g3 => (if ¬ (r2 = 0 ∨ r2 = 1) then none else some (r2, g3))))

set_option maxRecDepth 100000 in
set_option maxHeartbeats 4000000 in
theorem c_M_isArrival (l : Launch) (p1 : Int32) (g : xSt) (r : Int32) (g' : xSt) (hf : f_M_isArrival p1 g = some (r, g')) : xM l y_M_isArrival (.code y_M_isArrival b_M_isArrival 2 (some .boolean)) ({ frames := 1, cells := 0, slots := 0, locals := 22 } : Room) (fun ad => [.ref (ad 36), .int p1]) g (.inl (some (.int r))) g' 0 0 := by
  refine x_contract (by decide) (fun _ => Nat.le_of_ble_eq_true rfl) ?_
  intro p e s m below meth c D ad ca X hno
  unfold f_M_isArrival at hf
  refine v_iload_n X.1 d_M_isArrival_0 rfl 1 rfl ?_
  refine v_iconst X.1 (v := (0 : Int32)) d_M_isArrival_1 (by decide) ?_
  refine v_aload_n X.1 d_M_isArrival_2 rfl 0 rfl ?_
  refine v_get X.1 (ci := 5) ⟨in_M, rfl⟩ 36 rfl 1 (by decide) (X.t tw_629 rfl) rfl d_M_isArrival_3 ?_
  refine v_iconst X.1 (v := (1 : Int32)) d_M_isArrival_6 (by decide) ?_
  refine v_isub X.1 d_M_isArrival_7 ?_
  obtain ⟨r2, g3, hc1, hf⟩ := ob2_some hf
  refine v_backI X.1 (x_runS X (c_M_in l p1 ((0 : Int32)) ((g 41 0) - ((1 : Int32))) _ _ _ hc1) tw_723 tw_57 tw_721 tw_722 ⟨rfl, rfl, by decide, by decide⟩ ⟨by decide, by show _ = some 3; decide⟩ (rest := []) rfl (Nat.le_of_ble_eq_true rfl) d_M_isArrival_8 (by decide) (by decide)) ?_
  obtain ⟨hz4, hf⟩ := oi_none hf
  cases hf
  exact v_iret X.1 X.2.2.1 (oz_nar hz4).1 d_M_isArrival_11 X.2.2.2.1 (by decide) (by decide)

def f_M_isOrder (p1 : Int32) (g : xSt) : Option (Int32 × xSt) := (ob2 (f_M_in p1 ((0 : Int32)) ((g 42 0) - ((1 : Int32))) g) (fun r2 g3 => (if ¬ (r2 = 0 ∨ r2 = 1) then none else some (r2, g3))))

set_option maxRecDepth 100000 in
set_option maxHeartbeats 4000000 in
theorem c_M_isOrder (l : Launch) (p1 : Int32) (g : xSt) (r : Int32) (g' : xSt) (hf : f_M_isOrder p1 g = some (r, g')) : xM l y_M_isOrder (.code y_M_isOrder b_M_isOrder 2 (some .boolean)) ({ frames := 1, cells := 0, slots := 0, locals := 22 } : Room) (fun ad => [.ref (ad 36), .int p1]) g (.inl (some (.int r))) g' 0 0 := by
  refine x_contract (by decide) (fun _ => Nat.le_of_ble_eq_true rfl) ?_
  intro p e s m below meth c D ad ca X hno
  unfold f_M_isOrder at hf
  refine v_iload_n X.1 d_M_isOrder_0 rfl 1 rfl ?_
  refine v_iconst X.1 (v := (0 : Int32)) d_M_isOrder_1 (by decide) ?_
  refine v_aload_n X.1 d_M_isOrder_2 rfl 0 rfl ?_
  refine v_get X.1 (ci := 5) ⟨in_M, rfl⟩ 36 rfl 7 (by decide) (X.t tw_635 rfl) rfl d_M_isOrder_3 ?_
  refine v_iconst X.1 (v := (1 : Int32)) d_M_isOrder_6 (by decide) ?_
  refine v_isub X.1 d_M_isOrder_7 ?_
  obtain ⟨r2, g3, hc1, hf⟩ := ob2_some hf
  refine v_backI X.1 (x_runS X (c_M_in l p1 ((0 : Int32)) ((g 42 0) - ((1 : Int32))) _ _ _ hc1) tw_723 tw_57 tw_721 tw_722 ⟨rfl, rfl, by decide, by decide⟩ ⟨by decide, by show _ = some 3; decide⟩ (rest := []) rfl (Nat.le_of_ble_eq_true rfl) d_M_isOrder_8 (by decide) (by decide)) ?_
  obtain ⟨hz4, hf⟩ := oi_none hf
  cases hf
  exact v_iret X.1 X.2.2.1 (oz_nar hz4).1 d_M_isOrder_11 X.2.2.2.1 (by decide) (by decide)

def f_M_held_L4 (fu : Nat) (p1 : Int32) : Nat → Int32 → Int32 → xSt → Option (Int32 × Int32 × xSt)
  | 0, _, _, _ => none
  | n + 1, a2, a3, g => (if (g 43 0) ≤ a3 then some (a2, a3, g) else (if a3 < 0 ∨ 64 ≤ a3.toNatClampNeg then none else (if (g 60 a3.toNatClampNeg) = p1 then (if a3 < 0 ∨ 64 ≤ a3.toNatClampNeg then none else f_M_held_L4 fu p1 n (a2 + (g 62 a3.toNatClampNeg)) (a3 + (1 : Int32)) g) else f_M_held_L4 fu p1 n (a2 + ((0 : Int32))) (a3 + (1 : Int32)) g)))

def f_M_held (fu : Nat) (p1 : Int32) (g : xSt) : Option (Int32 × xSt) := (ob3 (f_M_held_L4 fu p1 fu ((0 : Int32)) ((0 : Int32)) g) (fun x5 x6 g7 => some (x5, g7)))

set_option maxRecDepth 100000 in
set_option maxHeartbeats 4000000 in
theorem l_M_held_L4 {p : Program} {e : Env} {s : State} {m : MethodId} {below : List Frame} {meth : Method} {c : Code} {D : va_G} {ad : Nat → Nat} {ca : Nat → ClassId} (l : Launch) (fu : Nat) (p1 : Int32) (X : xX p s m ([.ref (ad 36), .int p1] : List Value).toArray meth c b_M_held "CrossDockModel" 4 (some .int) D ad ca) (hno : c.exceptionTable.toList = []) {Q : State → Prop} : ∀ (n : Nat) (a2 : Int32) (a3 : Int32) (g : xSt) (a2' : Int32) (a3' : Int32) (g' : xSt), f_M_held_L4 fu p1 n a2 a3 g = some (a2', a3', g') → xV p l e ({ frames := 0, cells := 0, slots := 0, locals := 0 } : Room) s m ([.ref (ad 36), .int p1] : List Value).toArray below meth c D xcl (wX ad ca) (xA (wX ad ca) s.heap.size) 4 0 0 Q g' 41 [(3, .int a3'), (2, .int a2'), (0, .ref (ad 36)), (1, .int p1)] [] → xV p l e ({ frames := 0, cells := 0, slots := 0, locals := 0 } : Room) s m ([.ref (ad 36), .int p1] : List Value).toArray below meth c D xcl (wX ad ca) (xA (wX ad ca) s.heap.size) 4 0 0 Q g 4 [(3, .int a3), (2, .int a2), (0, .ref (ad 36)), (1, .int p1)] [] := by
  intro n
  induction n with
  | zero =>
    intro a2 a3 g a2' a3' g' hf
    rw [f_M_held_L4] at hf
    cases hf
  | succ n ih =>
    intro a2 a3 g a2' a3' g' hf hk
    rw [f_M_held_L4] at hf
    refine v_iload_n X.1 d_M_held_4 rfl 0 rfl ?_
    refine v_aload_n X.1 d_M_held_5 rfl 2 rfl ?_
    refine v_get X.1 (ci := 5) ⟨in_M, rfl⟩ 36 rfl 16 (by decide) (X.t tw_644 rfl) rfl d_M_held_6 ?_
    refine v_icmp_ge X.1 (tgt := 41) d_M_held_9 (by decide) (fun c1 => ?_) (fun c1 => ?_)
    · rw [if_pos c1] at hf
      cases hf
      refine v_sub [0, 1, 2, 3] rfl ?_
      exact hk
    · rw [if_neg c1] at hf
      refine v_iload_n X.1 d_M_held_12 rfl 1 rfl ?_
      refine v_aload_n X.1 d_M_held_13 rfl 2 rfl ?_
      refine v_get X.1 (ci := 5) ⟨in_M, rfl⟩ 36 rfl 17 (by decide) (X.t tw_645 rfl) rfl d_M_held_14 ?_
      refine v_iload_n X.1 d_M_held_17 rfl 0 rfl ?_
      obtain ⟨hb2, hf⟩ := oi_none hf
      refine v_iald X.1 50 0 rfl rfl hb2 d_M_held_18 ?_
      refine v_iload_n X.1 d_M_held_19 rfl 3 rfl ?_
      refine v_icmp_ne X.1 (tgt := 32) d_M_held_20 (by decide) (fun c3 => ?_) (fun c3 => ?_)
      · rw [if_neg c3] at hf
        refine v_iconst X.1 (v := (0 : Int32)) d_M_held_32 (by decide) ?_
        refine v_iadd X.1 d_M_held_33 ?_
        refine v_istore_n X.1 (lv' := [(2, .int (a2 + ((0 : Int32)))), (3, .int a3), (0, .ref (ad 36)), (1, .int p1)]) d_M_held_34 rfl (by decide) rfl ?_
        refine v_iinc X.1 (k0 := 1) (v := a3 + (1 : Int32)) (lv' := [(3, .int (a3 + (1 : Int32))), (2, .int (a2 + ((0 : Int32)))), (0, .ref (ad 36)), (1, .int p1)]) d_M_held_35 rfl rfl (by decide) rfl ?_
        refine v_goto X.1 (tgt := 4) d_M_held_38 (by decide) ?_
        refine v_sub [0, 1, 2, 3] rfl ?_
        exact ih _ _ _ _ _ _ hf hk
      · rw [if_pos c3] at hf
        refine v_aload_n X.1 d_M_held_23 rfl 2 rfl ?_
        refine v_get X.1 (ci := 5) ⟨in_M, rfl⟩ 36 rfl 19 (by decide) (X.t tw_647 rfl) rfl d_M_held_24 ?_
        refine v_iload_n X.1 d_M_held_27 rfl 0 rfl ?_
        obtain ⟨hb4, hf⟩ := oi_none hf
        refine v_iald X.1 52 0 rfl rfl hb4 d_M_held_28 ?_
        refine v_goto X.1 (tgt := 33) d_M_held_29 (by decide) ?_
        refine v_iadd X.1 d_M_held_33 ?_
        refine v_istore_n X.1 (lv' := [(2, .int (a2 + (g 62 a3.toNatClampNeg))), (3, .int a3), (0, .ref (ad 36)), (1, .int p1)]) d_M_held_34 rfl (by decide) rfl ?_
        refine v_iinc X.1 (k0 := 1) (v := a3 + (1 : Int32)) (lv' := [(3, .int (a3 + (1 : Int32))), (2, .int (a2 + (g 62 a3.toNatClampNeg))), (0, .ref (ad 36)), (1, .int p1)]) d_M_held_35 rfl rfl (by decide) rfl ?_
        refine v_goto X.1 (tgt := 4) d_M_held_38 (by decide) ?_
        refine v_sub [0, 1, 2, 3] rfl ?_
        exact ih _ _ _ _ _ _ hf hk

set_option maxRecDepth 100000 in
set_option maxHeartbeats 4000000 in
theorem c_M_held (l : Launch) (fu : Nat) (p1 : Int32) (g : xSt) (r : Int32) (g' : xSt) (hf : f_M_held fu p1 g = some (r, g')) : xM l y_M_held (.code y_M_held b_M_held 4 (some .int)) ({ frames := 0, cells := 0, slots := 0, locals := 0 } : Room) (fun ad => [.ref (ad 36), .int p1]) g (.inl (some (.int r))) g' 0 0 := by
  refine x_contract (by decide) (fun _ => Nat.le_of_ble_eq_true rfl) ?_
  intro p e s m below meth c D ad ca X hno
  unfold f_M_held at hf
  refine v_iconst X.1 (v := (0 : Int32)) d_M_held_0 (by decide) ?_
  refine v_istore_n X.1 (lv' := [(2, .int ((0 : Int32))), (0, .ref (ad 36)), (1, .int p1)]) d_M_held_1 rfl (by decide) rfl ?_
  refine v_iconst X.1 (v := (0 : Int32)) d_M_held_2 (by decide) ?_
  refine v_istore_n X.1 (lv' := [(3, .int ((0 : Int32))), (2, .int ((0 : Int32))), (0, .ref (ad 36)), (1, .int p1)]) d_M_held_3 rfl (by decide) rfl ?_
  obtain ⟨x5, x6, g7, hL8, hf⟩ := ob3_some hf
  refine l_M_held_L4 l fu p1 X hno fu _ _ _ _ _ _ hL8 ?_
  refine v_iload_n X.1 d_M_held_41 rfl 1 rfl ?_
  cases hf
  exact v_iret X.1 X.2.2.1 rfl d_M_held_42 X.2.2.2.1 (by decide) (by decide)

def f_M_hasGot_L4 (fu : Nat) (p1 : Int32) : Nat → Int32 → Int32 → xSt → Option (Int32 × Int32 × xSt)
  | 0, _, _, _ => none
  | n + 1, a2, a3, g => (if (g 43 0) ≤ a3 then some (a2, a3, g) else (if a3 < 0 ∨ 64 ≤ a3.toNatClampNeg then none else (if (g 61 a3.toNatClampNeg) = p1 then (if a3 < 0 ∨ 64 ≤ a3.toNatClampNeg then none else f_M_hasGot_L4 fu p1 n (a2 + (g 62 a3.toNatClampNeg)) (a3 + (1 : Int32)) g) else f_M_hasGot_L4 fu p1 n (a2 + ((0 : Int32))) (a3 + (1 : Int32)) g)))

def f_M_hasGot (fu : Nat) (p1 : Int32) (g : xSt) : Option (Int32 × xSt) := (ob3 (f_M_hasGot_L4 fu p1 fu ((0 : Int32)) ((0 : Int32)) g) (fun x5 x6 g7 => some (x5, g7)))

set_option maxRecDepth 100000 in
set_option maxHeartbeats 4000000 in
theorem l_M_hasGot_L4 {p : Program} {e : Env} {s : State} {m : MethodId} {below : List Frame} {meth : Method} {c : Code} {D : va_G} {ad : Nat → Nat} {ca : Nat → ClassId} (l : Launch) (fu : Nat) (p1 : Int32) (X : xX p s m ([.ref (ad 36), .int p1] : List Value).toArray meth c b_M_hasGot "CrossDockModel" 4 (some .int) D ad ca) (hno : c.exceptionTable.toList = []) {Q : State → Prop} : ∀ (n : Nat) (a2 : Int32) (a3 : Int32) (g : xSt) (a2' : Int32) (a3' : Int32) (g' : xSt), f_M_hasGot_L4 fu p1 n a2 a3 g = some (a2', a3', g') → xV p l e ({ frames := 0, cells := 0, slots := 0, locals := 0 } : Room) s m ([.ref (ad 36), .int p1] : List Value).toArray below meth c D xcl (wX ad ca) (xA (wX ad ca) s.heap.size) 4 0 0 Q g' 41 [(3, .int a3'), (2, .int a2'), (0, .ref (ad 36)), (1, .int p1)] [] → xV p l e ({ frames := 0, cells := 0, slots := 0, locals := 0 } : Room) s m ([.ref (ad 36), .int p1] : List Value).toArray below meth c D xcl (wX ad ca) (xA (wX ad ca) s.heap.size) 4 0 0 Q g 4 [(3, .int a3), (2, .int a2), (0, .ref (ad 36)), (1, .int p1)] [] := by
  intro n
  induction n with
  | zero =>
    intro a2 a3 g a2' a3' g' hf
    rw [f_M_hasGot_L4] at hf
    cases hf
  | succ n ih =>
    intro a2 a3 g a2' a3' g' hf hk
    rw [f_M_hasGot_L4] at hf
    refine v_iload_n X.1 d_M_hasGot_4 rfl 0 rfl ?_
    refine v_aload_n X.1 d_M_hasGot_5 rfl 2 rfl ?_
    refine v_get X.1 (ci := 5) ⟨in_M, rfl⟩ 36 rfl 16 (by decide) (X.t tw_644 rfl) rfl d_M_hasGot_6 ?_
    refine v_icmp_ge X.1 (tgt := 41) d_M_hasGot_9 (by decide) (fun c1 => ?_) (fun c1 => ?_)
    · rw [if_pos c1] at hf
      cases hf
      refine v_sub [0, 1, 2, 3] rfl ?_
      exact hk
    · rw [if_neg c1] at hf
      refine v_iload_n X.1 d_M_hasGot_12 rfl 1 rfl ?_
      refine v_aload_n X.1 d_M_hasGot_13 rfl 2 rfl ?_
      refine v_get X.1 (ci := 5) ⟨in_M, rfl⟩ 36 rfl 18 (by decide) (X.t tw_646 rfl) rfl d_M_hasGot_14 ?_
      refine v_iload_n X.1 d_M_hasGot_17 rfl 0 rfl ?_
      obtain ⟨hb2, hf⟩ := oi_none hf
      refine v_iald X.1 51 0 rfl rfl hb2 d_M_hasGot_18 ?_
      refine v_iload_n X.1 d_M_hasGot_19 rfl 3 rfl ?_
      refine v_icmp_ne X.1 (tgt := 32) d_M_hasGot_20 (by decide) (fun c3 => ?_) (fun c3 => ?_)
      · rw [if_neg c3] at hf
        refine v_iconst X.1 (v := (0 : Int32)) d_M_hasGot_32 (by decide) ?_
        refine v_iadd X.1 d_M_hasGot_33 ?_
        refine v_istore_n X.1 (lv' := [(2, .int (a2 + ((0 : Int32)))), (3, .int a3), (0, .ref (ad 36)), (1, .int p1)]) d_M_hasGot_34 rfl (by decide) rfl ?_
        refine v_iinc X.1 (k0 := 1) (v := a3 + (1 : Int32)) (lv' := [(3, .int (a3 + (1 : Int32))), (2, .int (a2 + ((0 : Int32)))), (0, .ref (ad 36)), (1, .int p1)]) d_M_hasGot_35 rfl rfl (by decide) rfl ?_
        refine v_goto X.1 (tgt := 4) d_M_hasGot_38 (by decide) ?_
        refine v_sub [0, 1, 2, 3] rfl ?_
        exact ih _ _ _ _ _ _ hf hk
      · rw [if_pos c3] at hf
        refine v_aload_n X.1 d_M_hasGot_23 rfl 2 rfl ?_
        refine v_get X.1 (ci := 5) ⟨in_M, rfl⟩ 36 rfl 19 (by decide) (X.t tw_647 rfl) rfl d_M_hasGot_24 ?_
        refine v_iload_n X.1 d_M_hasGot_27 rfl 0 rfl ?_
        obtain ⟨hb4, hf⟩ := oi_none hf
        refine v_iald X.1 52 0 rfl rfl hb4 d_M_hasGot_28 ?_
        refine v_goto X.1 (tgt := 33) d_M_hasGot_29 (by decide) ?_
        refine v_iadd X.1 d_M_hasGot_33 ?_
        refine v_istore_n X.1 (lv' := [(2, .int (a2 + (g 62 a3.toNatClampNeg))), (3, .int a3), (0, .ref (ad 36)), (1, .int p1)]) d_M_hasGot_34 rfl (by decide) rfl ?_
        refine v_iinc X.1 (k0 := 1) (v := a3 + (1 : Int32)) (lv' := [(3, .int (a3 + (1 : Int32))), (2, .int (a2 + (g 62 a3.toNatClampNeg))), (0, .ref (ad 36)), (1, .int p1)]) d_M_hasGot_35 rfl rfl (by decide) rfl ?_
        refine v_goto X.1 (tgt := 4) d_M_hasGot_38 (by decide) ?_
        refine v_sub [0, 1, 2, 3] rfl ?_
        exact ih _ _ _ _ _ _ hf hk

set_option maxRecDepth 100000 in
set_option maxHeartbeats 4000000 in
theorem c_M_hasGot (l : Launch) (fu : Nat) (p1 : Int32) (g : xSt) (r : Int32) (g' : xSt) (hf : f_M_hasGot fu p1 g = some (r, g')) : xM l y_M_hasGot (.code y_M_hasGot b_M_hasGot 4 (some .int)) ({ frames := 0, cells := 0, slots := 0, locals := 0 } : Room) (fun ad => [.ref (ad 36), .int p1]) g (.inl (some (.int r))) g' 0 0 := by
  refine x_contract (by decide) (fun _ => Nat.le_of_ble_eq_true rfl) ?_
  intro p e s m below meth c D ad ca X hno
  unfold f_M_hasGot at hf
  refine v_iconst X.1 (v := (0 : Int32)) d_M_hasGot_0 (by decide) ?_
  refine v_istore_n X.1 (lv' := [(2, .int ((0 : Int32))), (0, .ref (ad 36)), (1, .int p1)]) d_M_hasGot_1 rfl (by decide) rfl ?_
  refine v_iconst X.1 (v := (0 : Int32)) d_M_hasGot_2 (by decide) ?_
  refine v_istore_n X.1 (lv' := [(3, .int ((0 : Int32))), (2, .int ((0 : Int32))), (0, .ref (ad 36)), (1, .int p1)]) d_M_hasGot_3 rfl (by decide) rfl ?_
  obtain ⟨x5, x6, g7, hL8, hf⟩ := ob3_some hf
  refine l_M_hasGot_L4 l fu p1 X hno fu _ _ _ _ _ _ hL8 ?_
  refine v_iload_n X.1 d_M_hasGot_41 rfl 1 rfl ?_
  cases hf
  exact v_iret X.1 X.2.2.1 rfl d_M_hasGot_42 X.2.2.2.1 (by decide) (by decide)

def f_M_passes (p1 : Int32) (p2 : Int32) (p3 : Int32) (g : xSt) : Option (Int32 × xSt) := (if p3 ≤ 0 then (if p3 ≤ ((1 : Int32)) then (if p3 ≤ ((2 : Int32)) then (if p3 ≤ ((3 : Int32)) then (if p3 < ((5 : Int32)) then some ((1 : Int32), g) else (if p2 < 0 ∨ 8 ≤ p2.toNatClampNeg then none else (if (g 55 p2.toNatClampNeg) < 0 ∨ 4 ≤ (g 55 p2.toNatClampNeg).toNatClampNeg then none else (if (g 59 (g 55 p2.toNatClampNeg).toNatClampNeg) = 0 then some ((1 : Int32), g) else some ((0 : Int32), g))))) else (if ((((8 : Int32)) * p1) + p2) < 0 ∨ 64 ≤ ((((8 : Int32)) * p1) + p2).toNatClampNeg then none else (if (g 58 ((((8 : Int32)) * p1) + p2).toNatClampNeg) = 0 then (if p3 < ((5 : Int32)) then some ((1 : Int32), g) else (if p2 < 0 ∨ 8 ≤ p2.toNatClampNeg then none else (if (g 55 p2.toNatClampNeg) < 0 ∨ 4 ≤ (g 55 p2.toNatClampNeg).toNatClampNeg then none else (if (g 59 (g 55 p2.toNatClampNeg).toNatClampNeg) = 0 then some ((1 : Int32), g) else some ((0 : Int32), g))))) else some ((0 : Int32), g)))) else (if p2 < 0 ∨ 8 ≤ p2.toNatClampNeg then none else (if p1 < 0 ∨ 8 ≤ p1.toNatClampNeg then none else (if (((g 57 p2.toNatClampNeg) >>> ((g 48 p1.toNatClampNeg) &&& 31)) &&& ((1 : Int32))) = 0 then some ((0 : Int32), g) else (if p3 ≤ ((3 : Int32)) then (if p3 < ((5 : Int32)) then some ((1 : Int32), g) else (if p2 < 0 ∨ 8 ≤ p2.toNatClampNeg then none else (if (g 55 p2.toNatClampNeg) < 0 ∨ 4 ≤ (g 55 p2.toNatClampNeg).toNatClampNeg then none else (if (g 59 (g 55 p2.toNatClampNeg).toNatClampNeg) = 0 then some ((1 : Int32), g) else some ((0 : Int32), g))))) else (if ((((8 : Int32)) * p1) + p2) < 0 ∨ 64 ≤ ((((8 : Int32)) * p1) + p2).toNatClampNeg then none else (if (g 58 ((((8 : Int32)) * p1) + p2).toNatClampNeg) = 0 then (if p3 < ((5 : Int32)) then some ((1 : Int32), g) else (if p2 < 0 ∨ 8 ≤ p2.toNatClampNeg then none else (if (g 55 p2.toNatClampNeg) < 0 ∨ 4 ≤ (g 55 p2.toNatClampNeg).toNatClampNeg then none else (if (g 59 (g 55 p2.toNatClampNeg).toNatClampNeg) = 0 then some ((1 : Int32), g) else some ((0 : Int32), g))))) else some ((0 : Int32), g)))))))) else (if p1 < 0 ∨ 8 ≤ p1.toNatClampNeg then none else (if p2 < 0 ∨ 8 ≤ p2.toNatClampNeg then none else (if (g 49 p1.toNatClampNeg) ≤ (g 56 p2.toNatClampNeg) then (if p3 ≤ ((2 : Int32)) then (if p3 ≤ ((3 : Int32)) then (if p3 < ((5 : Int32)) then some ((1 : Int32), g) else (if p2 < 0 ∨ 8 ≤ p2.toNatClampNeg then none else (if (g 55 p2.toNatClampNeg) < 0 ∨ 4 ≤ (g 55 p2.toNatClampNeg).toNatClampNeg then none else (if (g 59 (g 55 p2.toNatClampNeg).toNatClampNeg) = 0 then some ((1 : Int32), g) else some ((0 : Int32), g))))) else (if ((((8 : Int32)) * p1) + p2) < 0 ∨ 64 ≤ ((((8 : Int32)) * p1) + p2).toNatClampNeg then none else (if (g 58 ((((8 : Int32)) * p1) + p2).toNatClampNeg) = 0 then (if p3 < ((5 : Int32)) then some ((1 : Int32), g) else (if p2 < 0 ∨ 8 ≤ p2.toNatClampNeg then none else (if (g 55 p2.toNatClampNeg) < 0 ∨ 4 ≤ (g 55 p2.toNatClampNeg).toNatClampNeg then none else (if (g 59 (g 55 p2.toNatClampNeg).toNatClampNeg) = 0 then some ((1 : Int32), g) else some ((0 : Int32), g))))) else some ((0 : Int32), g)))) else (if p2 < 0 ∨ 8 ≤ p2.toNatClampNeg then none else (if p1 < 0 ∨ 8 ≤ p1.toNatClampNeg then none else (if (((g 57 p2.toNatClampNeg) >>> ((g 48 p1.toNatClampNeg) &&& 31)) &&& ((1 : Int32))) = 0 then some ((0 : Int32), g) else (if p3 ≤ ((3 : Int32)) then (if p3 < ((5 : Int32)) then some ((1 : Int32), g) else (if p2 < 0 ∨ 8 ≤ p2.toNatClampNeg then none else (if (g 55 p2.toNatClampNeg) < 0 ∨ 4 ≤ (g 55 p2.toNatClampNeg).toNatClampNeg then none else (if (g 59 (g 55 p2.toNatClampNeg).toNatClampNeg) = 0 then some ((1 : Int32), g) else some ((0 : Int32), g))))) else (if ((((8 : Int32)) * p1) + p2) < 0 ∨ 64 ≤ ((((8 : Int32)) * p1) + p2).toNatClampNeg then none else (if (g 58 ((((8 : Int32)) * p1) + p2).toNatClampNeg) = 0 then (if p3 < ((5 : Int32)) then some ((1 : Int32), g) else (if p2 < 0 ∨ 8 ≤ p2.toNatClampNeg then none else (if (g 55 p2.toNatClampNeg) < 0 ∨ 4 ≤ (g 55 p2.toNatClampNeg).toNatClampNeg then none else (if (g 59 (g 55 p2.toNatClampNeg).toNatClampNeg) = 0 then some ((1 : Int32), g) else some ((0 : Int32), g))))) else some ((0 : Int32), g)))))))) else some ((0 : Int32), g))))) else (if p1 < 0 ∨ 8 ≤ p1.toNatClampNeg then none else (if p2 < 0 ∨ 8 ≤ p2.toNatClampNeg then none else (if (g 47 p1.toNatClampNeg) = (g 52 p2.toNatClampNeg) then (if p3 ≤ ((1 : Int32)) then (if p3 ≤ ((2 : Int32)) then (if p3 ≤ ((3 : Int32)) then (if p3 < ((5 : Int32)) then some ((1 : Int32), g) else (if p2 < 0 ∨ 8 ≤ p2.toNatClampNeg then none else (if (g 55 p2.toNatClampNeg) < 0 ∨ 4 ≤ (g 55 p2.toNatClampNeg).toNatClampNeg then none else (if (g 59 (g 55 p2.toNatClampNeg).toNatClampNeg) = 0 then some ((1 : Int32), g) else some ((0 : Int32), g))))) else (if ((((8 : Int32)) * p1) + p2) < 0 ∨ 64 ≤ ((((8 : Int32)) * p1) + p2).toNatClampNeg then none else (if (g 58 ((((8 : Int32)) * p1) + p2).toNatClampNeg) = 0 then (if p3 < ((5 : Int32)) then some ((1 : Int32), g) else (if p2 < 0 ∨ 8 ≤ p2.toNatClampNeg then none else (if (g 55 p2.toNatClampNeg) < 0 ∨ 4 ≤ (g 55 p2.toNatClampNeg).toNatClampNeg then none else (if (g 59 (g 55 p2.toNatClampNeg).toNatClampNeg) = 0 then some ((1 : Int32), g) else some ((0 : Int32), g))))) else some ((0 : Int32), g)))) else (if p2 < 0 ∨ 8 ≤ p2.toNatClampNeg then none else (if p1 < 0 ∨ 8 ≤ p1.toNatClampNeg then none else (if (((g 57 p2.toNatClampNeg) >>> ((g 48 p1.toNatClampNeg) &&& 31)) &&& ((1 : Int32))) = 0 then some ((0 : Int32), g) else (if p3 ≤ ((3 : Int32)) then (if p3 < ((5 : Int32)) then some ((1 : Int32), g) else (if p2 < 0 ∨ 8 ≤ p2.toNatClampNeg then none else (if (g 55 p2.toNatClampNeg) < 0 ∨ 4 ≤ (g 55 p2.toNatClampNeg).toNatClampNeg then none else (if (g 59 (g 55 p2.toNatClampNeg).toNatClampNeg) = 0 then some ((1 : Int32), g) else some ((0 : Int32), g))))) else (if ((((8 : Int32)) * p1) + p2) < 0 ∨ 64 ≤ ((((8 : Int32)) * p1) + p2).toNatClampNeg then none else (if (g 58 ((((8 : Int32)) * p1) + p2).toNatClampNeg) = 0 then (if p3 < ((5 : Int32)) then some ((1 : Int32), g) else (if p2 < 0 ∨ 8 ≤ p2.toNatClampNeg then none else (if (g 55 p2.toNatClampNeg) < 0 ∨ 4 ≤ (g 55 p2.toNatClampNeg).toNatClampNeg then none else (if (g 59 (g 55 p2.toNatClampNeg).toNatClampNeg) = 0 then some ((1 : Int32), g) else some ((0 : Int32), g))))) else some ((0 : Int32), g)))))))) else (if p1 < 0 ∨ 8 ≤ p1.toNatClampNeg then none else (if p2 < 0 ∨ 8 ≤ p2.toNatClampNeg then none else (if (g 49 p1.toNatClampNeg) ≤ (g 56 p2.toNatClampNeg) then (if p3 ≤ ((2 : Int32)) then (if p3 ≤ ((3 : Int32)) then (if p3 < ((5 : Int32)) then some ((1 : Int32), g) else (if p2 < 0 ∨ 8 ≤ p2.toNatClampNeg then none else (if (g 55 p2.toNatClampNeg) < 0 ∨ 4 ≤ (g 55 p2.toNatClampNeg).toNatClampNeg then none else (if (g 59 (g 55 p2.toNatClampNeg).toNatClampNeg) = 0 then some ((1 : Int32), g) else some ((0 : Int32), g))))) else (if ((((8 : Int32)) * p1) + p2) < 0 ∨ 64 ≤ ((((8 : Int32)) * p1) + p2).toNatClampNeg then none else (if (g 58 ((((8 : Int32)) * p1) + p2).toNatClampNeg) = 0 then (if p3 < ((5 : Int32)) then some ((1 : Int32), g) else (if p2 < 0 ∨ 8 ≤ p2.toNatClampNeg then none else (if (g 55 p2.toNatClampNeg) < 0 ∨ 4 ≤ (g 55 p2.toNatClampNeg).toNatClampNeg then none else (if (g 59 (g 55 p2.toNatClampNeg).toNatClampNeg) = 0 then some ((1 : Int32), g) else some ((0 : Int32), g))))) else some ((0 : Int32), g)))) else (if p2 < 0 ∨ 8 ≤ p2.toNatClampNeg then none else (if p1 < 0 ∨ 8 ≤ p1.toNatClampNeg then none else (if (((g 57 p2.toNatClampNeg) >>> ((g 48 p1.toNatClampNeg) &&& 31)) &&& ((1 : Int32))) = 0 then some ((0 : Int32), g) else (if p3 ≤ ((3 : Int32)) then (if p3 < ((5 : Int32)) then some ((1 : Int32), g) else (if p2 < 0 ∨ 8 ≤ p2.toNatClampNeg then none else (if (g 55 p2.toNatClampNeg) < 0 ∨ 4 ≤ (g 55 p2.toNatClampNeg).toNatClampNeg then none else (if (g 59 (g 55 p2.toNatClampNeg).toNatClampNeg) = 0 then some ((1 : Int32), g) else some ((0 : Int32), g))))) else (if ((((8 : Int32)) * p1) + p2) < 0 ∨ 64 ≤ ((((8 : Int32)) * p1) + p2).toNatClampNeg then none else (if (g 58 ((((8 : Int32)) * p1) + p2).toNatClampNeg) = 0 then (if p3 < ((5 : Int32)) then some ((1 : Int32), g) else (if p2 < 0 ∨ 8 ≤ p2.toNatClampNeg then none else (if (g 55 p2.toNatClampNeg) < 0 ∨ 4 ≤ (g 55 p2.toNatClampNeg).toNatClampNeg then none else (if (g 59 (g 55 p2.toNatClampNeg).toNatClampNeg) = 0 then some ((1 : Int32), g) else some ((0 : Int32), g))))) else some ((0 : Int32), g)))))))) else some ((0 : Int32), g))))) else some ((0 : Int32), g)))))

set_option maxRecDepth 100000 in
set_option maxHeartbeats 4000000 in
theorem c_M_passes (l : Launch) (p1 : Int32) (p2 : Int32) (p3 : Int32) (g : xSt) (r : Int32) (g' : xSt) (hf : f_M_passes p1 p2 p3 g = some (r, g')) : xM l y_M_passes (.code y_M_passes b_M_passes 4 (some .boolean)) ({ frames := 0, cells := 0, slots := 0, locals := 0 } : Room) (fun ad => [.ref (ad 36), .int p1, .int p2, .int p3]) g (.inl (some (.int r))) g' 0 0 := by
  refine x_contract (by decide) (fun _ => Nat.le_of_ble_eq_true rfl) ?_
  intro p e s m below meth c D ad ca X hno
  unfold f_M_passes at hf
  refine v_iload_n X.1 d_M_passes_0 rfl 3 rfl ?_
  refine v_if_le X.1 (tgt := 21) d_M_passes_1 (by decide) (fun c1 => ?_) (fun c1 => ?_)
  · rw [if_pos c1] at hf
    refine v_iload_n X.1 d_M_passes_21 rfl 3 rfl ?_
    refine v_iconst X.1 (v := (1 : Int32)) d_M_passes_22 (by decide) ?_
    refine v_icmp_le X.1 (tgt := 43) d_M_passes_23 (by decide) (fun c2 => ?_) (fun c2 => ?_)
    · rw [if_pos c2] at hf
      refine v_iload_n X.1 d_M_passes_43 rfl 3 rfl ?_
      refine v_iconst X.1 (v := (2 : Int32)) d_M_passes_44 (by decide) ?_
      refine v_icmp_le X.1 (tgt := 68) d_M_passes_45 (by decide) (fun c3 => ?_) (fun c3 => ?_)
      · rw [if_pos c3] at hf
        refine v_iload_n X.1 d_M_passes_68 rfl 3 rfl ?_
        refine v_iconst X.1 (v := (3 : Int32)) d_M_passes_69 (by decide) ?_
        refine v_icmp_le X.1 (tgt := 89) d_M_passes_70 (by decide) (fun c4 => ?_) (fun c4 => ?_)
        · rw [if_pos c4] at hf
          refine v_iload_n X.1 d_M_passes_89 rfl 3 rfl ?_
          refine v_iconst X.1 (v := (5 : Int32)) d_M_passes_90 (by decide) ?_
          refine v_icmp_lt X.1 (tgt := 108) d_M_passes_91 (by decide) (fun c5 => ?_) (fun c5 => ?_)
          · rw [if_pos c5] at hf
            refine v_iconst X.1 (v := (1 : Int32)) d_M_passes_108 (by decide) ?_
            refine v_goto X.1 (tgt := 113) d_M_passes_109 (by decide) ?_
            cases hf
            exact v_iret X.1 X.2.2.1 rfl d_M_passes_113 X.2.2.2.1 (by decide) (by decide)
          · rw [if_neg c5] at hf
            refine v_aload_n X.1 d_M_passes_94 rfl 0 rfl ?_
            refine v_get X.1 (ci := 5) ⟨in_M, rfl⟩ 36 rfl 15 (by decide) (X.t tw_643 rfl) rfl d_M_passes_95 ?_
            refine v_aload_n X.1 d_M_passes_98 rfl 0 rfl ?_
            refine v_get X.1 (ci := 5) ⟨in_M, rfl⟩ 36 rfl 11 (by decide) (X.t tw_639 rfl) rfl d_M_passes_99 ?_
            refine v_iload_n X.1 d_M_passes_102 rfl 2 rfl ?_
            obtain ⟨hb6, hf⟩ := oi_none hf
            refine v_iald X.1 45 0 rfl rfl hb6 d_M_passes_103 ?_
            obtain ⟨hb7, hf⟩ := oi_none hf
            refine v_zald X.1 49 1 rfl rfl hb7 d_M_passes_104 ?_
            refine v_if_ne X.1 (tgt := 112) d_M_passes_105 (by decide) (fun c8 => ?_) (fun c8 => ?_)
            · rw [if_neg c8] at hf
              refine v_iconst X.1 (v := (0 : Int32)) d_M_passes_112 (by decide) ?_
              cases hf
              exact v_iret X.1 X.2.2.1 rfl d_M_passes_113 X.2.2.2.1 (by decide) (by decide)
            · rw [if_pos c8] at hf
              refine v_iconst X.1 (v := (1 : Int32)) d_M_passes_108 (by decide) ?_
              refine v_goto X.1 (tgt := 113) d_M_passes_109 (by decide) ?_
              cases hf
              exact v_iret X.1 X.2.2.1 rfl d_M_passes_113 X.2.2.2.1 (by decide) (by decide)
        · rw [if_neg c4] at hf
          refine v_aload_n X.1 d_M_passes_73 rfl 0 rfl ?_
          refine v_get X.1 (ci := 5) ⟨in_M, rfl⟩ 36 rfl 14 (by decide) (X.t tw_642 rfl) rfl d_M_passes_74 ?_
          refine v_bipush X.1 (v := (8 : Int32)) d_M_passes_77 (by decide) ?_
          refine v_iload_n X.1 d_M_passes_79 rfl 1 rfl ?_
          refine v_imul X.1 d_M_passes_80 ?_
          refine v_iload_n X.1 d_M_passes_81 rfl 2 rfl ?_
          refine v_iadd X.1 d_M_passes_82 ?_
          obtain ⟨hb9, hf⟩ := oi_none hf
          refine v_zald X.1 48 1 rfl rfl hb9 d_M_passes_83 ?_
          refine v_if_eq X.1 (tgt := 89) d_M_passes_84 (by decide) (fun c10 => ?_) (fun c10 => ?_)
          · rw [if_pos c10] at hf
            refine v_iload_n X.1 d_M_passes_89 rfl 3 rfl ?_
            refine v_iconst X.1 (v := (5 : Int32)) d_M_passes_90 (by decide) ?_
            refine v_icmp_lt X.1 (tgt := 108) d_M_passes_91 (by decide) (fun c11 => ?_) (fun c11 => ?_)
            · rw [if_pos c11] at hf
              refine v_iconst X.1 (v := (1 : Int32)) d_M_passes_108 (by decide) ?_
              refine v_goto X.1 (tgt := 113) d_M_passes_109 (by decide) ?_
              cases hf
              exact v_iret X.1 X.2.2.1 rfl d_M_passes_113 X.2.2.2.1 (by decide) (by decide)
            · rw [if_neg c11] at hf
              refine v_aload_n X.1 d_M_passes_94 rfl 0 rfl ?_
              refine v_get X.1 (ci := 5) ⟨in_M, rfl⟩ 36 rfl 15 (by decide) (X.t tw_643 rfl) rfl d_M_passes_95 ?_
              refine v_aload_n X.1 d_M_passes_98 rfl 0 rfl ?_
              refine v_get X.1 (ci := 5) ⟨in_M, rfl⟩ 36 rfl 11 (by decide) (X.t tw_639 rfl) rfl d_M_passes_99 ?_
              refine v_iload_n X.1 d_M_passes_102 rfl 2 rfl ?_
              obtain ⟨hb12, hf⟩ := oi_none hf
              refine v_iald X.1 45 0 rfl rfl hb12 d_M_passes_103 ?_
              obtain ⟨hb13, hf⟩ := oi_none hf
              refine v_zald X.1 49 1 rfl rfl hb13 d_M_passes_104 ?_
              refine v_if_ne X.1 (tgt := 112) d_M_passes_105 (by decide) (fun c14 => ?_) (fun c14 => ?_)
              · rw [if_neg c14] at hf
                refine v_iconst X.1 (v := (0 : Int32)) d_M_passes_112 (by decide) ?_
                cases hf
                exact v_iret X.1 X.2.2.1 rfl d_M_passes_113 X.2.2.2.1 (by decide) (by decide)
              · rw [if_pos c14] at hf
                refine v_iconst X.1 (v := (1 : Int32)) d_M_passes_108 (by decide) ?_
                refine v_goto X.1 (tgt := 113) d_M_passes_109 (by decide) ?_
                cases hf
                exact v_iret X.1 X.2.2.1 rfl d_M_passes_113 X.2.2.2.1 (by decide) (by decide)
          · rw [if_neg c10] at hf
            refine v_iconst X.1 (v := (0 : Int32)) d_M_passes_87 (by decide) ?_
            cases hf
            exact v_iret X.1 X.2.2.1 rfl d_M_passes_88 X.2.2.2.1 (by decide) (by decide)
      · rw [if_neg c3] at hf
        refine v_aload_n X.1 d_M_passes_48 rfl 0 rfl ?_
        refine v_get X.1 (ci := 5) ⟨in_M, rfl⟩ 36 rfl 13 (by decide) (X.t tw_641 rfl) rfl d_M_passes_49 ?_
        refine v_iload_n X.1 d_M_passes_52 rfl 2 rfl ?_
        obtain ⟨hb15, hf⟩ := oi_none hf
        refine v_iald X.1 47 0 rfl rfl hb15 d_M_passes_53 ?_
        refine v_aload_n X.1 d_M_passes_54 rfl 0 rfl ?_
        refine v_get X.1 (ci := 5) ⟨in_M, rfl⟩ 36 rfl 3 (by decide) (X.t tw_631 rfl) rfl d_M_passes_55 ?_
        refine v_iload_n X.1 d_M_passes_58 rfl 1 rfl ?_
        obtain ⟨hb16, hf⟩ := oi_none hf
        refine v_iald X.1 38 0 rfl rfl hb16 d_M_passes_59 ?_
        refine v_ishr X.1 d_M_passes_60 ?_
        refine v_iconst X.1 (v := (1 : Int32)) d_M_passes_61 (by decide) ?_
        refine v_iand X.1 d_M_passes_62 ?_
        refine v_if_ne X.1 (tgt := 68) d_M_passes_63 (by decide) (fun c17 => ?_) (fun c17 => ?_)
        · rw [if_neg c17] at hf
          refine v_iload_n X.1 d_M_passes_68 rfl 3 rfl ?_
          refine v_iconst X.1 (v := (3 : Int32)) d_M_passes_69 (by decide) ?_
          refine v_icmp_le X.1 (tgt := 89) d_M_passes_70 (by decide) (fun c18 => ?_) (fun c18 => ?_)
          · rw [if_pos c18] at hf
            refine v_iload_n X.1 d_M_passes_89 rfl 3 rfl ?_
            refine v_iconst X.1 (v := (5 : Int32)) d_M_passes_90 (by decide) ?_
            refine v_icmp_lt X.1 (tgt := 108) d_M_passes_91 (by decide) (fun c19 => ?_) (fun c19 => ?_)
            · rw [if_pos c19] at hf
              refine v_iconst X.1 (v := (1 : Int32)) d_M_passes_108 (by decide) ?_
              refine v_goto X.1 (tgt := 113) d_M_passes_109 (by decide) ?_
              cases hf
              exact v_iret X.1 X.2.2.1 rfl d_M_passes_113 X.2.2.2.1 (by decide) (by decide)
            · rw [if_neg c19] at hf
              refine v_aload_n X.1 d_M_passes_94 rfl 0 rfl ?_
              refine v_get X.1 (ci := 5) ⟨in_M, rfl⟩ 36 rfl 15 (by decide) (X.t tw_643 rfl) rfl d_M_passes_95 ?_
              refine v_aload_n X.1 d_M_passes_98 rfl 0 rfl ?_
              refine v_get X.1 (ci := 5) ⟨in_M, rfl⟩ 36 rfl 11 (by decide) (X.t tw_639 rfl) rfl d_M_passes_99 ?_
              refine v_iload_n X.1 d_M_passes_102 rfl 2 rfl ?_
              obtain ⟨hb20, hf⟩ := oi_none hf
              refine v_iald X.1 45 0 rfl rfl hb20 d_M_passes_103 ?_
              obtain ⟨hb21, hf⟩ := oi_none hf
              refine v_zald X.1 49 1 rfl rfl hb21 d_M_passes_104 ?_
              refine v_if_ne X.1 (tgt := 112) d_M_passes_105 (by decide) (fun c22 => ?_) (fun c22 => ?_)
              · rw [if_neg c22] at hf
                refine v_iconst X.1 (v := (0 : Int32)) d_M_passes_112 (by decide) ?_
                cases hf
                exact v_iret X.1 X.2.2.1 rfl d_M_passes_113 X.2.2.2.1 (by decide) (by decide)
              · rw [if_pos c22] at hf
                refine v_iconst X.1 (v := (1 : Int32)) d_M_passes_108 (by decide) ?_
                refine v_goto X.1 (tgt := 113) d_M_passes_109 (by decide) ?_
                cases hf
                exact v_iret X.1 X.2.2.1 rfl d_M_passes_113 X.2.2.2.1 (by decide) (by decide)
          · rw [if_neg c18] at hf
            refine v_aload_n X.1 d_M_passes_73 rfl 0 rfl ?_
            refine v_get X.1 (ci := 5) ⟨in_M, rfl⟩ 36 rfl 14 (by decide) (X.t tw_642 rfl) rfl d_M_passes_74 ?_
            refine v_bipush X.1 (v := (8 : Int32)) d_M_passes_77 (by decide) ?_
            refine v_iload_n X.1 d_M_passes_79 rfl 1 rfl ?_
            refine v_imul X.1 d_M_passes_80 ?_
            refine v_iload_n X.1 d_M_passes_81 rfl 2 rfl ?_
            refine v_iadd X.1 d_M_passes_82 ?_
            obtain ⟨hb23, hf⟩ := oi_none hf
            refine v_zald X.1 48 1 rfl rfl hb23 d_M_passes_83 ?_
            refine v_if_eq X.1 (tgt := 89) d_M_passes_84 (by decide) (fun c24 => ?_) (fun c24 => ?_)
            · rw [if_pos c24] at hf
              refine v_iload_n X.1 d_M_passes_89 rfl 3 rfl ?_
              refine v_iconst X.1 (v := (5 : Int32)) d_M_passes_90 (by decide) ?_
              refine v_icmp_lt X.1 (tgt := 108) d_M_passes_91 (by decide) (fun c25 => ?_) (fun c25 => ?_)
              · rw [if_pos c25] at hf
                refine v_iconst X.1 (v := (1 : Int32)) d_M_passes_108 (by decide) ?_
                refine v_goto X.1 (tgt := 113) d_M_passes_109 (by decide) ?_
                cases hf
                exact v_iret X.1 X.2.2.1 rfl d_M_passes_113 X.2.2.2.1 (by decide) (by decide)
              · rw [if_neg c25] at hf
                refine v_aload_n X.1 d_M_passes_94 rfl 0 rfl ?_
                refine v_get X.1 (ci := 5) ⟨in_M, rfl⟩ 36 rfl 15 (by decide) (X.t tw_643 rfl) rfl d_M_passes_95 ?_
                refine v_aload_n X.1 d_M_passes_98 rfl 0 rfl ?_
                refine v_get X.1 (ci := 5) ⟨in_M, rfl⟩ 36 rfl 11 (by decide) (X.t tw_639 rfl) rfl d_M_passes_99 ?_
                refine v_iload_n X.1 d_M_passes_102 rfl 2 rfl ?_
                obtain ⟨hb26, hf⟩ := oi_none hf
                refine v_iald X.1 45 0 rfl rfl hb26 d_M_passes_103 ?_
                obtain ⟨hb27, hf⟩ := oi_none hf
                refine v_zald X.1 49 1 rfl rfl hb27 d_M_passes_104 ?_
                refine v_if_ne X.1 (tgt := 112) d_M_passes_105 (by decide) (fun c28 => ?_) (fun c28 => ?_)
                · rw [if_neg c28] at hf
                  refine v_iconst X.1 (v := (0 : Int32)) d_M_passes_112 (by decide) ?_
                  cases hf
                  exact v_iret X.1 X.2.2.1 rfl d_M_passes_113 X.2.2.2.1 (by decide) (by decide)
                · rw [if_pos c28] at hf
                  refine v_iconst X.1 (v := (1 : Int32)) d_M_passes_108 (by decide) ?_
                  refine v_goto X.1 (tgt := 113) d_M_passes_109 (by decide) ?_
                  cases hf
                  exact v_iret X.1 X.2.2.1 rfl d_M_passes_113 X.2.2.2.1 (by decide) (by decide)
            · rw [if_neg c24] at hf
              refine v_iconst X.1 (v := (0 : Int32)) d_M_passes_87 (by decide) ?_
              cases hf
              exact v_iret X.1 X.2.2.1 rfl d_M_passes_88 X.2.2.2.1 (by decide) (by decide)
        · rw [if_pos c17] at hf
          refine v_iconst X.1 (v := (0 : Int32)) d_M_passes_66 (by decide) ?_
          cases hf
          exact v_iret X.1 X.2.2.1 rfl d_M_passes_67 X.2.2.2.1 (by decide) (by decide)
    · rw [if_neg c2] at hf
      refine v_aload_n X.1 d_M_passes_26 rfl 0 rfl ?_
      refine v_get X.1 (ci := 5) ⟨in_M, rfl⟩ 36 rfl 4 (by decide) (X.t tw_632 rfl) rfl d_M_passes_27 ?_
      refine v_iload_n X.1 d_M_passes_30 rfl 1 rfl ?_
      obtain ⟨hb29, hf⟩ := oi_none hf
      refine v_iald X.1 39 0 rfl rfl hb29 d_M_passes_31 ?_
      refine v_aload_n X.1 d_M_passes_32 rfl 0 rfl ?_
      refine v_get X.1 (ci := 5) ⟨in_M, rfl⟩ 36 rfl 12 (by decide) (X.t tw_640 rfl) rfl d_M_passes_33 ?_
      refine v_iload_n X.1 d_M_passes_36 rfl 2 rfl ?_
      obtain ⟨hb30, hf⟩ := oi_none hf
      refine v_iald X.1 46 0 rfl rfl hb30 d_M_passes_37 ?_
      refine v_icmp_le X.1 (tgt := 43) d_M_passes_38 (by decide) (fun c31 => ?_) (fun c31 => ?_)
      · rw [if_pos c31] at hf
        refine v_iload_n X.1 d_M_passes_43 rfl 3 rfl ?_
        refine v_iconst X.1 (v := (2 : Int32)) d_M_passes_44 (by decide) ?_
        refine v_icmp_le X.1 (tgt := 68) d_M_passes_45 (by decide) (fun c32 => ?_) (fun c32 => ?_)
        · rw [if_pos c32] at hf
          refine v_iload_n X.1 d_M_passes_68 rfl 3 rfl ?_
          refine v_iconst X.1 (v := (3 : Int32)) d_M_passes_69 (by decide) ?_
          refine v_icmp_le X.1 (tgt := 89) d_M_passes_70 (by decide) (fun c33 => ?_) (fun c33 => ?_)
          · rw [if_pos c33] at hf
            refine v_iload_n X.1 d_M_passes_89 rfl 3 rfl ?_
            refine v_iconst X.1 (v := (5 : Int32)) d_M_passes_90 (by decide) ?_
            refine v_icmp_lt X.1 (tgt := 108) d_M_passes_91 (by decide) (fun c34 => ?_) (fun c34 => ?_)
            · rw [if_pos c34] at hf
              refine v_iconst X.1 (v := (1 : Int32)) d_M_passes_108 (by decide) ?_
              refine v_goto X.1 (tgt := 113) d_M_passes_109 (by decide) ?_
              cases hf
              exact v_iret X.1 X.2.2.1 rfl d_M_passes_113 X.2.2.2.1 (by decide) (by decide)
            · rw [if_neg c34] at hf
              refine v_aload_n X.1 d_M_passes_94 rfl 0 rfl ?_
              refine v_get X.1 (ci := 5) ⟨in_M, rfl⟩ 36 rfl 15 (by decide) (X.t tw_643 rfl) rfl d_M_passes_95 ?_
              refine v_aload_n X.1 d_M_passes_98 rfl 0 rfl ?_
              refine v_get X.1 (ci := 5) ⟨in_M, rfl⟩ 36 rfl 11 (by decide) (X.t tw_639 rfl) rfl d_M_passes_99 ?_
              refine v_iload_n X.1 d_M_passes_102 rfl 2 rfl ?_
              obtain ⟨hb35, hf⟩ := oi_none hf
              refine v_iald X.1 45 0 rfl rfl hb35 d_M_passes_103 ?_
              obtain ⟨hb36, hf⟩ := oi_none hf
              refine v_zald X.1 49 1 rfl rfl hb36 d_M_passes_104 ?_
              refine v_if_ne X.1 (tgt := 112) d_M_passes_105 (by decide) (fun c37 => ?_) (fun c37 => ?_)
              · rw [if_neg c37] at hf
                refine v_iconst X.1 (v := (0 : Int32)) d_M_passes_112 (by decide) ?_
                cases hf
                exact v_iret X.1 X.2.2.1 rfl d_M_passes_113 X.2.2.2.1 (by decide) (by decide)
              · rw [if_pos c37] at hf
                refine v_iconst X.1 (v := (1 : Int32)) d_M_passes_108 (by decide) ?_
                refine v_goto X.1 (tgt := 113) d_M_passes_109 (by decide) ?_
                cases hf
                exact v_iret X.1 X.2.2.1 rfl d_M_passes_113 X.2.2.2.1 (by decide) (by decide)
          · rw [if_neg c33] at hf
            refine v_aload_n X.1 d_M_passes_73 rfl 0 rfl ?_
            refine v_get X.1 (ci := 5) ⟨in_M, rfl⟩ 36 rfl 14 (by decide) (X.t tw_642 rfl) rfl d_M_passes_74 ?_
            refine v_bipush X.1 (v := (8 : Int32)) d_M_passes_77 (by decide) ?_
            refine v_iload_n X.1 d_M_passes_79 rfl 1 rfl ?_
            refine v_imul X.1 d_M_passes_80 ?_
            refine v_iload_n X.1 d_M_passes_81 rfl 2 rfl ?_
            refine v_iadd X.1 d_M_passes_82 ?_
            obtain ⟨hb38, hf⟩ := oi_none hf
            refine v_zald X.1 48 1 rfl rfl hb38 d_M_passes_83 ?_
            refine v_if_eq X.1 (tgt := 89) d_M_passes_84 (by decide) (fun c39 => ?_) (fun c39 => ?_)
            · rw [if_pos c39] at hf
              refine v_iload_n X.1 d_M_passes_89 rfl 3 rfl ?_
              refine v_iconst X.1 (v := (5 : Int32)) d_M_passes_90 (by decide) ?_
              refine v_icmp_lt X.1 (tgt := 108) d_M_passes_91 (by decide) (fun c40 => ?_) (fun c40 => ?_)
              · rw [if_pos c40] at hf
                refine v_iconst X.1 (v := (1 : Int32)) d_M_passes_108 (by decide) ?_
                refine v_goto X.1 (tgt := 113) d_M_passes_109 (by decide) ?_
                cases hf
                exact v_iret X.1 X.2.2.1 rfl d_M_passes_113 X.2.2.2.1 (by decide) (by decide)
              · rw [if_neg c40] at hf
                refine v_aload_n X.1 d_M_passes_94 rfl 0 rfl ?_
                refine v_get X.1 (ci := 5) ⟨in_M, rfl⟩ 36 rfl 15 (by decide) (X.t tw_643 rfl) rfl d_M_passes_95 ?_
                refine v_aload_n X.1 d_M_passes_98 rfl 0 rfl ?_
                refine v_get X.1 (ci := 5) ⟨in_M, rfl⟩ 36 rfl 11 (by decide) (X.t tw_639 rfl) rfl d_M_passes_99 ?_
                refine v_iload_n X.1 d_M_passes_102 rfl 2 rfl ?_
                obtain ⟨hb41, hf⟩ := oi_none hf
                refine v_iald X.1 45 0 rfl rfl hb41 d_M_passes_103 ?_
                obtain ⟨hb42, hf⟩ := oi_none hf
                refine v_zald X.1 49 1 rfl rfl hb42 d_M_passes_104 ?_
                refine v_if_ne X.1 (tgt := 112) d_M_passes_105 (by decide) (fun c43 => ?_) (fun c43 => ?_)
                · rw [if_neg c43] at hf
                  refine v_iconst X.1 (v := (0 : Int32)) d_M_passes_112 (by decide) ?_
                  cases hf
                  exact v_iret X.1 X.2.2.1 rfl d_M_passes_113 X.2.2.2.1 (by decide) (by decide)
                · rw [if_pos c43] at hf
                  refine v_iconst X.1 (v := (1 : Int32)) d_M_passes_108 (by decide) ?_
                  refine v_goto X.1 (tgt := 113) d_M_passes_109 (by decide) ?_
                  cases hf
                  exact v_iret X.1 X.2.2.1 rfl d_M_passes_113 X.2.2.2.1 (by decide) (by decide)
            · rw [if_neg c39] at hf
              refine v_iconst X.1 (v := (0 : Int32)) d_M_passes_87 (by decide) ?_
              cases hf
              exact v_iret X.1 X.2.2.1 rfl d_M_passes_88 X.2.2.2.1 (by decide) (by decide)
        · rw [if_neg c32] at hf
          refine v_aload_n X.1 d_M_passes_48 rfl 0 rfl ?_
          refine v_get X.1 (ci := 5) ⟨in_M, rfl⟩ 36 rfl 13 (by decide) (X.t tw_641 rfl) rfl d_M_passes_49 ?_
          refine v_iload_n X.1 d_M_passes_52 rfl 2 rfl ?_
          obtain ⟨hb44, hf⟩ := oi_none hf
          refine v_iald X.1 47 0 rfl rfl hb44 d_M_passes_53 ?_
          refine v_aload_n X.1 d_M_passes_54 rfl 0 rfl ?_
          refine v_get X.1 (ci := 5) ⟨in_M, rfl⟩ 36 rfl 3 (by decide) (X.t tw_631 rfl) rfl d_M_passes_55 ?_
          refine v_iload_n X.1 d_M_passes_58 rfl 1 rfl ?_
          obtain ⟨hb45, hf⟩ := oi_none hf
          refine v_iald X.1 38 0 rfl rfl hb45 d_M_passes_59 ?_
          refine v_ishr X.1 d_M_passes_60 ?_
          refine v_iconst X.1 (v := (1 : Int32)) d_M_passes_61 (by decide) ?_
          refine v_iand X.1 d_M_passes_62 ?_
          refine v_if_ne X.1 (tgt := 68) d_M_passes_63 (by decide) (fun c46 => ?_) (fun c46 => ?_)
          · rw [if_neg c46] at hf
            refine v_iload_n X.1 d_M_passes_68 rfl 3 rfl ?_
            refine v_iconst X.1 (v := (3 : Int32)) d_M_passes_69 (by decide) ?_
            refine v_icmp_le X.1 (tgt := 89) d_M_passes_70 (by decide) (fun c47 => ?_) (fun c47 => ?_)
            · rw [if_pos c47] at hf
              refine v_iload_n X.1 d_M_passes_89 rfl 3 rfl ?_
              refine v_iconst X.1 (v := (5 : Int32)) d_M_passes_90 (by decide) ?_
              refine v_icmp_lt X.1 (tgt := 108) d_M_passes_91 (by decide) (fun c48 => ?_) (fun c48 => ?_)
              · rw [if_pos c48] at hf
                refine v_iconst X.1 (v := (1 : Int32)) d_M_passes_108 (by decide) ?_
                refine v_goto X.1 (tgt := 113) d_M_passes_109 (by decide) ?_
                cases hf
                exact v_iret X.1 X.2.2.1 rfl d_M_passes_113 X.2.2.2.1 (by decide) (by decide)
              · rw [if_neg c48] at hf
                refine v_aload_n X.1 d_M_passes_94 rfl 0 rfl ?_
                refine v_get X.1 (ci := 5) ⟨in_M, rfl⟩ 36 rfl 15 (by decide) (X.t tw_643 rfl) rfl d_M_passes_95 ?_
                refine v_aload_n X.1 d_M_passes_98 rfl 0 rfl ?_
                refine v_get X.1 (ci := 5) ⟨in_M, rfl⟩ 36 rfl 11 (by decide) (X.t tw_639 rfl) rfl d_M_passes_99 ?_
                refine v_iload_n X.1 d_M_passes_102 rfl 2 rfl ?_
                obtain ⟨hb49, hf⟩ := oi_none hf
                refine v_iald X.1 45 0 rfl rfl hb49 d_M_passes_103 ?_
                obtain ⟨hb50, hf⟩ := oi_none hf
                refine v_zald X.1 49 1 rfl rfl hb50 d_M_passes_104 ?_
                refine v_if_ne X.1 (tgt := 112) d_M_passes_105 (by decide) (fun c51 => ?_) (fun c51 => ?_)
                · rw [if_neg c51] at hf
                  refine v_iconst X.1 (v := (0 : Int32)) d_M_passes_112 (by decide) ?_
                  cases hf
                  exact v_iret X.1 X.2.2.1 rfl d_M_passes_113 X.2.2.2.1 (by decide) (by decide)
                · rw [if_pos c51] at hf
                  refine v_iconst X.1 (v := (1 : Int32)) d_M_passes_108 (by decide) ?_
                  refine v_goto X.1 (tgt := 113) d_M_passes_109 (by decide) ?_
                  cases hf
                  exact v_iret X.1 X.2.2.1 rfl d_M_passes_113 X.2.2.2.1 (by decide) (by decide)
            · rw [if_neg c47] at hf
              refine v_aload_n X.1 d_M_passes_73 rfl 0 rfl ?_
              refine v_get X.1 (ci := 5) ⟨in_M, rfl⟩ 36 rfl 14 (by decide) (X.t tw_642 rfl) rfl d_M_passes_74 ?_
              refine v_bipush X.1 (v := (8 : Int32)) d_M_passes_77 (by decide) ?_
              refine v_iload_n X.1 d_M_passes_79 rfl 1 rfl ?_
              refine v_imul X.1 d_M_passes_80 ?_
              refine v_iload_n X.1 d_M_passes_81 rfl 2 rfl ?_
              refine v_iadd X.1 d_M_passes_82 ?_
              obtain ⟨hb52, hf⟩ := oi_none hf
              refine v_zald X.1 48 1 rfl rfl hb52 d_M_passes_83 ?_
              refine v_if_eq X.1 (tgt := 89) d_M_passes_84 (by decide) (fun c53 => ?_) (fun c53 => ?_)
              · rw [if_pos c53] at hf
                refine v_iload_n X.1 d_M_passes_89 rfl 3 rfl ?_
                refine v_iconst X.1 (v := (5 : Int32)) d_M_passes_90 (by decide) ?_
                refine v_icmp_lt X.1 (tgt := 108) d_M_passes_91 (by decide) (fun c54 => ?_) (fun c54 => ?_)
                · rw [if_pos c54] at hf
                  refine v_iconst X.1 (v := (1 : Int32)) d_M_passes_108 (by decide) ?_
                  refine v_goto X.1 (tgt := 113) d_M_passes_109 (by decide) ?_
                  cases hf
                  exact v_iret X.1 X.2.2.1 rfl d_M_passes_113 X.2.2.2.1 (by decide) (by decide)
                · rw [if_neg c54] at hf
                  refine v_aload_n X.1 d_M_passes_94 rfl 0 rfl ?_
                  refine v_get X.1 (ci := 5) ⟨in_M, rfl⟩ 36 rfl 15 (by decide) (X.t tw_643 rfl) rfl d_M_passes_95 ?_
                  refine v_aload_n X.1 d_M_passes_98 rfl 0 rfl ?_
                  refine v_get X.1 (ci := 5) ⟨in_M, rfl⟩ 36 rfl 11 (by decide) (X.t tw_639 rfl) rfl d_M_passes_99 ?_
                  refine v_iload_n X.1 d_M_passes_102 rfl 2 rfl ?_
                  obtain ⟨hb55, hf⟩ := oi_none hf
                  refine v_iald X.1 45 0 rfl rfl hb55 d_M_passes_103 ?_
                  obtain ⟨hb56, hf⟩ := oi_none hf
                  refine v_zald X.1 49 1 rfl rfl hb56 d_M_passes_104 ?_
                  refine v_if_ne X.1 (tgt := 112) d_M_passes_105 (by decide) (fun c57 => ?_) (fun c57 => ?_)
                  · rw [if_neg c57] at hf
                    refine v_iconst X.1 (v := (0 : Int32)) d_M_passes_112 (by decide) ?_
                    cases hf
                    exact v_iret X.1 X.2.2.1 rfl d_M_passes_113 X.2.2.2.1 (by decide) (by decide)
                  · rw [if_pos c57] at hf
                    refine v_iconst X.1 (v := (1 : Int32)) d_M_passes_108 (by decide) ?_
                    refine v_goto X.1 (tgt := 113) d_M_passes_109 (by decide) ?_
                    cases hf
                    exact v_iret X.1 X.2.2.1 rfl d_M_passes_113 X.2.2.2.1 (by decide) (by decide)
              · rw [if_neg c53] at hf
                refine v_iconst X.1 (v := (0 : Int32)) d_M_passes_87 (by decide) ?_
                cases hf
                exact v_iret X.1 X.2.2.1 rfl d_M_passes_88 X.2.2.2.1 (by decide) (by decide)
          · rw [if_pos c46] at hf
            refine v_iconst X.1 (v := (0 : Int32)) d_M_passes_66 (by decide) ?_
            cases hf
            exact v_iret X.1 X.2.2.1 rfl d_M_passes_67 X.2.2.2.1 (by decide) (by decide)
      · rw [if_neg c31] at hf
        refine v_iconst X.1 (v := (0 : Int32)) d_M_passes_41 (by decide) ?_
        cases hf
        exact v_iret X.1 X.2.2.1 rfl d_M_passes_42 X.2.2.2.1 (by decide) (by decide)
  · rw [if_neg c1] at hf
    refine v_aload_n X.1 d_M_passes_4 rfl 0 rfl ?_
    refine v_get X.1 (ci := 5) ⟨in_M, rfl⟩ 36 rfl 2 (by decide) (X.t tw_630 rfl) rfl d_M_passes_5 ?_
    refine v_iload_n X.1 d_M_passes_8 rfl 1 rfl ?_
    obtain ⟨hb58, hf⟩ := oi_none hf
    refine v_iald X.1 37 0 rfl rfl hb58 d_M_passes_9 ?_
    refine v_aload_n X.1 d_M_passes_10 rfl 0 rfl ?_
    refine v_get X.1 (ci := 5) ⟨in_M, rfl⟩ 36 rfl 8 (by decide) (X.t tw_636 rfl) rfl d_M_passes_11 ?_
    refine v_iload_n X.1 d_M_passes_14 rfl 2 rfl ?_
    obtain ⟨hb59, hf⟩ := oi_none hf
    refine v_iald X.1 42 0 rfl rfl hb59 d_M_passes_15 ?_
    refine v_icmp_eq X.1 (tgt := 21) d_M_passes_16 (by decide) (fun c60 => ?_) (fun c60 => ?_)
    · rw [if_pos c60] at hf
      refine v_iload_n X.1 d_M_passes_21 rfl 3 rfl ?_
      refine v_iconst X.1 (v := (1 : Int32)) d_M_passes_22 (by decide) ?_
      refine v_icmp_le X.1 (tgt := 43) d_M_passes_23 (by decide) (fun c61 => ?_) (fun c61 => ?_)
      · rw [if_pos c61] at hf
        refine v_iload_n X.1 d_M_passes_43 rfl 3 rfl ?_
        refine v_iconst X.1 (v := (2 : Int32)) d_M_passes_44 (by decide) ?_
        refine v_icmp_le X.1 (tgt := 68) d_M_passes_45 (by decide) (fun c62 => ?_) (fun c62 => ?_)
        · rw [if_pos c62] at hf
          refine v_iload_n X.1 d_M_passes_68 rfl 3 rfl ?_
          refine v_iconst X.1 (v := (3 : Int32)) d_M_passes_69 (by decide) ?_
          refine v_icmp_le X.1 (tgt := 89) d_M_passes_70 (by decide) (fun c63 => ?_) (fun c63 => ?_)
          · rw [if_pos c63] at hf
            refine v_iload_n X.1 d_M_passes_89 rfl 3 rfl ?_
            refine v_iconst X.1 (v := (5 : Int32)) d_M_passes_90 (by decide) ?_
            refine v_icmp_lt X.1 (tgt := 108) d_M_passes_91 (by decide) (fun c64 => ?_) (fun c64 => ?_)
            · rw [if_pos c64] at hf
              refine v_iconst X.1 (v := (1 : Int32)) d_M_passes_108 (by decide) ?_
              refine v_goto X.1 (tgt := 113) d_M_passes_109 (by decide) ?_
              cases hf
              exact v_iret X.1 X.2.2.1 rfl d_M_passes_113 X.2.2.2.1 (by decide) (by decide)
            · rw [if_neg c64] at hf
              refine v_aload_n X.1 d_M_passes_94 rfl 0 rfl ?_
              refine v_get X.1 (ci := 5) ⟨in_M, rfl⟩ 36 rfl 15 (by decide) (X.t tw_643 rfl) rfl d_M_passes_95 ?_
              refine v_aload_n X.1 d_M_passes_98 rfl 0 rfl ?_
              refine v_get X.1 (ci := 5) ⟨in_M, rfl⟩ 36 rfl 11 (by decide) (X.t tw_639 rfl) rfl d_M_passes_99 ?_
              refine v_iload_n X.1 d_M_passes_102 rfl 2 rfl ?_
              obtain ⟨hb65, hf⟩ := oi_none hf
              refine v_iald X.1 45 0 rfl rfl hb65 d_M_passes_103 ?_
              obtain ⟨hb66, hf⟩ := oi_none hf
              refine v_zald X.1 49 1 rfl rfl hb66 d_M_passes_104 ?_
              refine v_if_ne X.1 (tgt := 112) d_M_passes_105 (by decide) (fun c67 => ?_) (fun c67 => ?_)
              · rw [if_neg c67] at hf
                refine v_iconst X.1 (v := (0 : Int32)) d_M_passes_112 (by decide) ?_
                cases hf
                exact v_iret X.1 X.2.2.1 rfl d_M_passes_113 X.2.2.2.1 (by decide) (by decide)
              · rw [if_pos c67] at hf
                refine v_iconst X.1 (v := (1 : Int32)) d_M_passes_108 (by decide) ?_
                refine v_goto X.1 (tgt := 113) d_M_passes_109 (by decide) ?_
                cases hf
                exact v_iret X.1 X.2.2.1 rfl d_M_passes_113 X.2.2.2.1 (by decide) (by decide)
          · rw [if_neg c63] at hf
            refine v_aload_n X.1 d_M_passes_73 rfl 0 rfl ?_
            refine v_get X.1 (ci := 5) ⟨in_M, rfl⟩ 36 rfl 14 (by decide) (X.t tw_642 rfl) rfl d_M_passes_74 ?_
            refine v_bipush X.1 (v := (8 : Int32)) d_M_passes_77 (by decide) ?_
            refine v_iload_n X.1 d_M_passes_79 rfl 1 rfl ?_
            refine v_imul X.1 d_M_passes_80 ?_
            refine v_iload_n X.1 d_M_passes_81 rfl 2 rfl ?_
            refine v_iadd X.1 d_M_passes_82 ?_
            obtain ⟨hb68, hf⟩ := oi_none hf
            refine v_zald X.1 48 1 rfl rfl hb68 d_M_passes_83 ?_
            refine v_if_eq X.1 (tgt := 89) d_M_passes_84 (by decide) (fun c69 => ?_) (fun c69 => ?_)
            · rw [if_pos c69] at hf
              refine v_iload_n X.1 d_M_passes_89 rfl 3 rfl ?_
              refine v_iconst X.1 (v := (5 : Int32)) d_M_passes_90 (by decide) ?_
              refine v_icmp_lt X.1 (tgt := 108) d_M_passes_91 (by decide) (fun c70 => ?_) (fun c70 => ?_)
              · rw [if_pos c70] at hf
                refine v_iconst X.1 (v := (1 : Int32)) d_M_passes_108 (by decide) ?_
                refine v_goto X.1 (tgt := 113) d_M_passes_109 (by decide) ?_
                cases hf
                exact v_iret X.1 X.2.2.1 rfl d_M_passes_113 X.2.2.2.1 (by decide) (by decide)
              · rw [if_neg c70] at hf
                refine v_aload_n X.1 d_M_passes_94 rfl 0 rfl ?_
                refine v_get X.1 (ci := 5) ⟨in_M, rfl⟩ 36 rfl 15 (by decide) (X.t tw_643 rfl) rfl d_M_passes_95 ?_
                refine v_aload_n X.1 d_M_passes_98 rfl 0 rfl ?_
                refine v_get X.1 (ci := 5) ⟨in_M, rfl⟩ 36 rfl 11 (by decide) (X.t tw_639 rfl) rfl d_M_passes_99 ?_
                refine v_iload_n X.1 d_M_passes_102 rfl 2 rfl ?_
                obtain ⟨hb71, hf⟩ := oi_none hf
                refine v_iald X.1 45 0 rfl rfl hb71 d_M_passes_103 ?_
                obtain ⟨hb72, hf⟩ := oi_none hf
                refine v_zald X.1 49 1 rfl rfl hb72 d_M_passes_104 ?_
                refine v_if_ne X.1 (tgt := 112) d_M_passes_105 (by decide) (fun c73 => ?_) (fun c73 => ?_)
                · rw [if_neg c73] at hf
                  refine v_iconst X.1 (v := (0 : Int32)) d_M_passes_112 (by decide) ?_
                  cases hf
                  exact v_iret X.1 X.2.2.1 rfl d_M_passes_113 X.2.2.2.1 (by decide) (by decide)
                · rw [if_pos c73] at hf
                  refine v_iconst X.1 (v := (1 : Int32)) d_M_passes_108 (by decide) ?_
                  refine v_goto X.1 (tgt := 113) d_M_passes_109 (by decide) ?_
                  cases hf
                  exact v_iret X.1 X.2.2.1 rfl d_M_passes_113 X.2.2.2.1 (by decide) (by decide)
            · rw [if_neg c69] at hf
              refine v_iconst X.1 (v := (0 : Int32)) d_M_passes_87 (by decide) ?_
              cases hf
              exact v_iret X.1 X.2.2.1 rfl d_M_passes_88 X.2.2.2.1 (by decide) (by decide)
        · rw [if_neg c62] at hf
          refine v_aload_n X.1 d_M_passes_48 rfl 0 rfl ?_
          refine v_get X.1 (ci := 5) ⟨in_M, rfl⟩ 36 rfl 13 (by decide) (X.t tw_641 rfl) rfl d_M_passes_49 ?_
          refine v_iload_n X.1 d_M_passes_52 rfl 2 rfl ?_
          obtain ⟨hb74, hf⟩ := oi_none hf
          refine v_iald X.1 47 0 rfl rfl hb74 d_M_passes_53 ?_
          refine v_aload_n X.1 d_M_passes_54 rfl 0 rfl ?_
          refine v_get X.1 (ci := 5) ⟨in_M, rfl⟩ 36 rfl 3 (by decide) (X.t tw_631 rfl) rfl d_M_passes_55 ?_
          refine v_iload_n X.1 d_M_passes_58 rfl 1 rfl ?_
          obtain ⟨hb75, hf⟩ := oi_none hf
          refine v_iald X.1 38 0 rfl rfl hb75 d_M_passes_59 ?_
          refine v_ishr X.1 d_M_passes_60 ?_
          refine v_iconst X.1 (v := (1 : Int32)) d_M_passes_61 (by decide) ?_
          refine v_iand X.1 d_M_passes_62 ?_
          refine v_if_ne X.1 (tgt := 68) d_M_passes_63 (by decide) (fun c76 => ?_) (fun c76 => ?_)
          · rw [if_neg c76] at hf
            refine v_iload_n X.1 d_M_passes_68 rfl 3 rfl ?_
            refine v_iconst X.1 (v := (3 : Int32)) d_M_passes_69 (by decide) ?_
            refine v_icmp_le X.1 (tgt := 89) d_M_passes_70 (by decide) (fun c77 => ?_) (fun c77 => ?_)
            · rw [if_pos c77] at hf
              refine v_iload_n X.1 d_M_passes_89 rfl 3 rfl ?_
              refine v_iconst X.1 (v := (5 : Int32)) d_M_passes_90 (by decide) ?_
              refine v_icmp_lt X.1 (tgt := 108) d_M_passes_91 (by decide) (fun c78 => ?_) (fun c78 => ?_)
              · rw [if_pos c78] at hf
                refine v_iconst X.1 (v := (1 : Int32)) d_M_passes_108 (by decide) ?_
                refine v_goto X.1 (tgt := 113) d_M_passes_109 (by decide) ?_
                cases hf
                exact v_iret X.1 X.2.2.1 rfl d_M_passes_113 X.2.2.2.1 (by decide) (by decide)
              · rw [if_neg c78] at hf
                refine v_aload_n X.1 d_M_passes_94 rfl 0 rfl ?_
                refine v_get X.1 (ci := 5) ⟨in_M, rfl⟩ 36 rfl 15 (by decide) (X.t tw_643 rfl) rfl d_M_passes_95 ?_
                refine v_aload_n X.1 d_M_passes_98 rfl 0 rfl ?_
                refine v_get X.1 (ci := 5) ⟨in_M, rfl⟩ 36 rfl 11 (by decide) (X.t tw_639 rfl) rfl d_M_passes_99 ?_
                refine v_iload_n X.1 d_M_passes_102 rfl 2 rfl ?_
                obtain ⟨hb79, hf⟩ := oi_none hf
                refine v_iald X.1 45 0 rfl rfl hb79 d_M_passes_103 ?_
                obtain ⟨hb80, hf⟩ := oi_none hf
                refine v_zald X.1 49 1 rfl rfl hb80 d_M_passes_104 ?_
                refine v_if_ne X.1 (tgt := 112) d_M_passes_105 (by decide) (fun c81 => ?_) (fun c81 => ?_)
                · rw [if_neg c81] at hf
                  refine v_iconst X.1 (v := (0 : Int32)) d_M_passes_112 (by decide) ?_
                  cases hf
                  exact v_iret X.1 X.2.2.1 rfl d_M_passes_113 X.2.2.2.1 (by decide) (by decide)
                · rw [if_pos c81] at hf
                  refine v_iconst X.1 (v := (1 : Int32)) d_M_passes_108 (by decide) ?_
                  refine v_goto X.1 (tgt := 113) d_M_passes_109 (by decide) ?_
                  cases hf
                  exact v_iret X.1 X.2.2.1 rfl d_M_passes_113 X.2.2.2.1 (by decide) (by decide)
            · rw [if_neg c77] at hf
              refine v_aload_n X.1 d_M_passes_73 rfl 0 rfl ?_
              refine v_get X.1 (ci := 5) ⟨in_M, rfl⟩ 36 rfl 14 (by decide) (X.t tw_642 rfl) rfl d_M_passes_74 ?_
              refine v_bipush X.1 (v := (8 : Int32)) d_M_passes_77 (by decide) ?_
              refine v_iload_n X.1 d_M_passes_79 rfl 1 rfl ?_
              refine v_imul X.1 d_M_passes_80 ?_
              refine v_iload_n X.1 d_M_passes_81 rfl 2 rfl ?_
              refine v_iadd X.1 d_M_passes_82 ?_
              obtain ⟨hb82, hf⟩ := oi_none hf
              refine v_zald X.1 48 1 rfl rfl hb82 d_M_passes_83 ?_
              refine v_if_eq X.1 (tgt := 89) d_M_passes_84 (by decide) (fun c83 => ?_) (fun c83 => ?_)
              · rw [if_pos c83] at hf
                refine v_iload_n X.1 d_M_passes_89 rfl 3 rfl ?_
                refine v_iconst X.1 (v := (5 : Int32)) d_M_passes_90 (by decide) ?_
                refine v_icmp_lt X.1 (tgt := 108) d_M_passes_91 (by decide) (fun c84 => ?_) (fun c84 => ?_)
                · rw [if_pos c84] at hf
                  refine v_iconst X.1 (v := (1 : Int32)) d_M_passes_108 (by decide) ?_
                  refine v_goto X.1 (tgt := 113) d_M_passes_109 (by decide) ?_
                  cases hf
                  exact v_iret X.1 X.2.2.1 rfl d_M_passes_113 X.2.2.2.1 (by decide) (by decide)
                · rw [if_neg c84] at hf
                  refine v_aload_n X.1 d_M_passes_94 rfl 0 rfl ?_
                  refine v_get X.1 (ci := 5) ⟨in_M, rfl⟩ 36 rfl 15 (by decide) (X.t tw_643 rfl) rfl d_M_passes_95 ?_
                  refine v_aload_n X.1 d_M_passes_98 rfl 0 rfl ?_
                  refine v_get X.1 (ci := 5) ⟨in_M, rfl⟩ 36 rfl 11 (by decide) (X.t tw_639 rfl) rfl d_M_passes_99 ?_
                  refine v_iload_n X.1 d_M_passes_102 rfl 2 rfl ?_
                  obtain ⟨hb85, hf⟩ := oi_none hf
                  refine v_iald X.1 45 0 rfl rfl hb85 d_M_passes_103 ?_
                  obtain ⟨hb86, hf⟩ := oi_none hf
                  refine v_zald X.1 49 1 rfl rfl hb86 d_M_passes_104 ?_
                  refine v_if_ne X.1 (tgt := 112) d_M_passes_105 (by decide) (fun c87 => ?_) (fun c87 => ?_)
                  · rw [if_neg c87] at hf
                    refine v_iconst X.1 (v := (0 : Int32)) d_M_passes_112 (by decide) ?_
                    cases hf
                    exact v_iret X.1 X.2.2.1 rfl d_M_passes_113 X.2.2.2.1 (by decide) (by decide)
                  · rw [if_pos c87] at hf
                    refine v_iconst X.1 (v := (1 : Int32)) d_M_passes_108 (by decide) ?_
                    refine v_goto X.1 (tgt := 113) d_M_passes_109 (by decide) ?_
                    cases hf
                    exact v_iret X.1 X.2.2.1 rfl d_M_passes_113 X.2.2.2.1 (by decide) (by decide)
              · rw [if_neg c83] at hf
                refine v_iconst X.1 (v := (0 : Int32)) d_M_passes_87 (by decide) ?_
                cases hf
                exact v_iret X.1 X.2.2.1 rfl d_M_passes_88 X.2.2.2.1 (by decide) (by decide)
          · rw [if_pos c76] at hf
            refine v_iconst X.1 (v := (0 : Int32)) d_M_passes_66 (by decide) ?_
            cases hf
            exact v_iret X.1 X.2.2.1 rfl d_M_passes_67 X.2.2.2.1 (by decide) (by decide)
      · rw [if_neg c61] at hf
        refine v_aload_n X.1 d_M_passes_26 rfl 0 rfl ?_
        refine v_get X.1 (ci := 5) ⟨in_M, rfl⟩ 36 rfl 4 (by decide) (X.t tw_632 rfl) rfl d_M_passes_27 ?_
        refine v_iload_n X.1 d_M_passes_30 rfl 1 rfl ?_
        obtain ⟨hb88, hf⟩ := oi_none hf
        refine v_iald X.1 39 0 rfl rfl hb88 d_M_passes_31 ?_
        refine v_aload_n X.1 d_M_passes_32 rfl 0 rfl ?_
        refine v_get X.1 (ci := 5) ⟨in_M, rfl⟩ 36 rfl 12 (by decide) (X.t tw_640 rfl) rfl d_M_passes_33 ?_
        refine v_iload_n X.1 d_M_passes_36 rfl 2 rfl ?_
        obtain ⟨hb89, hf⟩ := oi_none hf
        refine v_iald X.1 46 0 rfl rfl hb89 d_M_passes_37 ?_
        refine v_icmp_le X.1 (tgt := 43) d_M_passes_38 (by decide) (fun c90 => ?_) (fun c90 => ?_)
        · rw [if_pos c90] at hf
          refine v_iload_n X.1 d_M_passes_43 rfl 3 rfl ?_
          refine v_iconst X.1 (v := (2 : Int32)) d_M_passes_44 (by decide) ?_
          refine v_icmp_le X.1 (tgt := 68) d_M_passes_45 (by decide) (fun c91 => ?_) (fun c91 => ?_)
          · rw [if_pos c91] at hf
            refine v_iload_n X.1 d_M_passes_68 rfl 3 rfl ?_
            refine v_iconst X.1 (v := (3 : Int32)) d_M_passes_69 (by decide) ?_
            refine v_icmp_le X.1 (tgt := 89) d_M_passes_70 (by decide) (fun c92 => ?_) (fun c92 => ?_)
            · rw [if_pos c92] at hf
              refine v_iload_n X.1 d_M_passes_89 rfl 3 rfl ?_
              refine v_iconst X.1 (v := (5 : Int32)) d_M_passes_90 (by decide) ?_
              refine v_icmp_lt X.1 (tgt := 108) d_M_passes_91 (by decide) (fun c93 => ?_) (fun c93 => ?_)
              · rw [if_pos c93] at hf
                refine v_iconst X.1 (v := (1 : Int32)) d_M_passes_108 (by decide) ?_
                refine v_goto X.1 (tgt := 113) d_M_passes_109 (by decide) ?_
                cases hf
                exact v_iret X.1 X.2.2.1 rfl d_M_passes_113 X.2.2.2.1 (by decide) (by decide)
              · rw [if_neg c93] at hf
                refine v_aload_n X.1 d_M_passes_94 rfl 0 rfl ?_
                refine v_get X.1 (ci := 5) ⟨in_M, rfl⟩ 36 rfl 15 (by decide) (X.t tw_643 rfl) rfl d_M_passes_95 ?_
                refine v_aload_n X.1 d_M_passes_98 rfl 0 rfl ?_
                refine v_get X.1 (ci := 5) ⟨in_M, rfl⟩ 36 rfl 11 (by decide) (X.t tw_639 rfl) rfl d_M_passes_99 ?_
                refine v_iload_n X.1 d_M_passes_102 rfl 2 rfl ?_
                obtain ⟨hb94, hf⟩ := oi_none hf
                refine v_iald X.1 45 0 rfl rfl hb94 d_M_passes_103 ?_
                obtain ⟨hb95, hf⟩ := oi_none hf
                refine v_zald X.1 49 1 rfl rfl hb95 d_M_passes_104 ?_
                refine v_if_ne X.1 (tgt := 112) d_M_passes_105 (by decide) (fun c96 => ?_) (fun c96 => ?_)
                · rw [if_neg c96] at hf
                  refine v_iconst X.1 (v := (0 : Int32)) d_M_passes_112 (by decide) ?_
                  cases hf
                  exact v_iret X.1 X.2.2.1 rfl d_M_passes_113 X.2.2.2.1 (by decide) (by decide)
                · rw [if_pos c96] at hf
                  refine v_iconst X.1 (v := (1 : Int32)) d_M_passes_108 (by decide) ?_
                  refine v_goto X.1 (tgt := 113) d_M_passes_109 (by decide) ?_
                  cases hf
                  exact v_iret X.1 X.2.2.1 rfl d_M_passes_113 X.2.2.2.1 (by decide) (by decide)
            · rw [if_neg c92] at hf
              refine v_aload_n X.1 d_M_passes_73 rfl 0 rfl ?_
              refine v_get X.1 (ci := 5) ⟨in_M, rfl⟩ 36 rfl 14 (by decide) (X.t tw_642 rfl) rfl d_M_passes_74 ?_
              refine v_bipush X.1 (v := (8 : Int32)) d_M_passes_77 (by decide) ?_
              refine v_iload_n X.1 d_M_passes_79 rfl 1 rfl ?_
              refine v_imul X.1 d_M_passes_80 ?_
              refine v_iload_n X.1 d_M_passes_81 rfl 2 rfl ?_
              refine v_iadd X.1 d_M_passes_82 ?_
              obtain ⟨hb97, hf⟩ := oi_none hf
              refine v_zald X.1 48 1 rfl rfl hb97 d_M_passes_83 ?_
              refine v_if_eq X.1 (tgt := 89) d_M_passes_84 (by decide) (fun c98 => ?_) (fun c98 => ?_)
              · rw [if_pos c98] at hf
                refine v_iload_n X.1 d_M_passes_89 rfl 3 rfl ?_
                refine v_iconst X.1 (v := (5 : Int32)) d_M_passes_90 (by decide) ?_
                refine v_icmp_lt X.1 (tgt := 108) d_M_passes_91 (by decide) (fun c99 => ?_) (fun c99 => ?_)
                · rw [if_pos c99] at hf
                  refine v_iconst X.1 (v := (1 : Int32)) d_M_passes_108 (by decide) ?_
                  refine v_goto X.1 (tgt := 113) d_M_passes_109 (by decide) ?_
                  cases hf
                  exact v_iret X.1 X.2.2.1 rfl d_M_passes_113 X.2.2.2.1 (by decide) (by decide)
                · rw [if_neg c99] at hf
                  refine v_aload_n X.1 d_M_passes_94 rfl 0 rfl ?_
                  refine v_get X.1 (ci := 5) ⟨in_M, rfl⟩ 36 rfl 15 (by decide) (X.t tw_643 rfl) rfl d_M_passes_95 ?_
                  refine v_aload_n X.1 d_M_passes_98 rfl 0 rfl ?_
                  refine v_get X.1 (ci := 5) ⟨in_M, rfl⟩ 36 rfl 11 (by decide) (X.t tw_639 rfl) rfl d_M_passes_99 ?_
                  refine v_iload_n X.1 d_M_passes_102 rfl 2 rfl ?_
                  obtain ⟨hb100, hf⟩ := oi_none hf
                  refine v_iald X.1 45 0 rfl rfl hb100 d_M_passes_103 ?_
                  obtain ⟨hb101, hf⟩ := oi_none hf
                  refine v_zald X.1 49 1 rfl rfl hb101 d_M_passes_104 ?_
                  refine v_if_ne X.1 (tgt := 112) d_M_passes_105 (by decide) (fun c102 => ?_) (fun c102 => ?_)
                  · rw [if_neg c102] at hf
                    refine v_iconst X.1 (v := (0 : Int32)) d_M_passes_112 (by decide) ?_
                    cases hf
                    exact v_iret X.1 X.2.2.1 rfl d_M_passes_113 X.2.2.2.1 (by decide) (by decide)
                  · rw [if_pos c102] at hf
                    refine v_iconst X.1 (v := (1 : Int32)) d_M_passes_108 (by decide) ?_
                    refine v_goto X.1 (tgt := 113) d_M_passes_109 (by decide) ?_
                    cases hf
                    exact v_iret X.1 X.2.2.1 rfl d_M_passes_113 X.2.2.2.1 (by decide) (by decide)
              · rw [if_neg c98] at hf
                refine v_iconst X.1 (v := (0 : Int32)) d_M_passes_87 (by decide) ?_
                cases hf
                exact v_iret X.1 X.2.2.1 rfl d_M_passes_88 X.2.2.2.1 (by decide) (by decide)
          · rw [if_neg c91] at hf
            refine v_aload_n X.1 d_M_passes_48 rfl 0 rfl ?_
            refine v_get X.1 (ci := 5) ⟨in_M, rfl⟩ 36 rfl 13 (by decide) (X.t tw_641 rfl) rfl d_M_passes_49 ?_
            refine v_iload_n X.1 d_M_passes_52 rfl 2 rfl ?_
            obtain ⟨hb103, hf⟩ := oi_none hf
            refine v_iald X.1 47 0 rfl rfl hb103 d_M_passes_53 ?_
            refine v_aload_n X.1 d_M_passes_54 rfl 0 rfl ?_
            refine v_get X.1 (ci := 5) ⟨in_M, rfl⟩ 36 rfl 3 (by decide) (X.t tw_631 rfl) rfl d_M_passes_55 ?_
            refine v_iload_n X.1 d_M_passes_58 rfl 1 rfl ?_
            obtain ⟨hb104, hf⟩ := oi_none hf
            refine v_iald X.1 38 0 rfl rfl hb104 d_M_passes_59 ?_
            refine v_ishr X.1 d_M_passes_60 ?_
            refine v_iconst X.1 (v := (1 : Int32)) d_M_passes_61 (by decide) ?_
            refine v_iand X.1 d_M_passes_62 ?_
            refine v_if_ne X.1 (tgt := 68) d_M_passes_63 (by decide) (fun c105 => ?_) (fun c105 => ?_)
            · rw [if_neg c105] at hf
              refine v_iload_n X.1 d_M_passes_68 rfl 3 rfl ?_
              refine v_iconst X.1 (v := (3 : Int32)) d_M_passes_69 (by decide) ?_
              refine v_icmp_le X.1 (tgt := 89) d_M_passes_70 (by decide) (fun c106 => ?_) (fun c106 => ?_)
              · rw [if_pos c106] at hf
                refine v_iload_n X.1 d_M_passes_89 rfl 3 rfl ?_
                refine v_iconst X.1 (v := (5 : Int32)) d_M_passes_90 (by decide) ?_
                refine v_icmp_lt X.1 (tgt := 108) d_M_passes_91 (by decide) (fun c107 => ?_) (fun c107 => ?_)
                · rw [if_pos c107] at hf
                  refine v_iconst X.1 (v := (1 : Int32)) d_M_passes_108 (by decide) ?_
                  refine v_goto X.1 (tgt := 113) d_M_passes_109 (by decide) ?_
                  cases hf
                  exact v_iret X.1 X.2.2.1 rfl d_M_passes_113 X.2.2.2.1 (by decide) (by decide)
                · rw [if_neg c107] at hf
                  refine v_aload_n X.1 d_M_passes_94 rfl 0 rfl ?_
                  refine v_get X.1 (ci := 5) ⟨in_M, rfl⟩ 36 rfl 15 (by decide) (X.t tw_643 rfl) rfl d_M_passes_95 ?_
                  refine v_aload_n X.1 d_M_passes_98 rfl 0 rfl ?_
                  refine v_get X.1 (ci := 5) ⟨in_M, rfl⟩ 36 rfl 11 (by decide) (X.t tw_639 rfl) rfl d_M_passes_99 ?_
                  refine v_iload_n X.1 d_M_passes_102 rfl 2 rfl ?_
                  obtain ⟨hb108, hf⟩ := oi_none hf
                  refine v_iald X.1 45 0 rfl rfl hb108 d_M_passes_103 ?_
                  obtain ⟨hb109, hf⟩ := oi_none hf
                  refine v_zald X.1 49 1 rfl rfl hb109 d_M_passes_104 ?_
                  refine v_if_ne X.1 (tgt := 112) d_M_passes_105 (by decide) (fun c110 => ?_) (fun c110 => ?_)
                  · rw [if_neg c110] at hf
                    refine v_iconst X.1 (v := (0 : Int32)) d_M_passes_112 (by decide) ?_
                    cases hf
                    exact v_iret X.1 X.2.2.1 rfl d_M_passes_113 X.2.2.2.1 (by decide) (by decide)
                  · rw [if_pos c110] at hf
                    refine v_iconst X.1 (v := (1 : Int32)) d_M_passes_108 (by decide) ?_
                    refine v_goto X.1 (tgt := 113) d_M_passes_109 (by decide) ?_
                    cases hf
                    exact v_iret X.1 X.2.2.1 rfl d_M_passes_113 X.2.2.2.1 (by decide) (by decide)
              · rw [if_neg c106] at hf
                refine v_aload_n X.1 d_M_passes_73 rfl 0 rfl ?_
                refine v_get X.1 (ci := 5) ⟨in_M, rfl⟩ 36 rfl 14 (by decide) (X.t tw_642 rfl) rfl d_M_passes_74 ?_
                refine v_bipush X.1 (v := (8 : Int32)) d_M_passes_77 (by decide) ?_
                refine v_iload_n X.1 d_M_passes_79 rfl 1 rfl ?_
                refine v_imul X.1 d_M_passes_80 ?_
                refine v_iload_n X.1 d_M_passes_81 rfl 2 rfl ?_
                refine v_iadd X.1 d_M_passes_82 ?_
                obtain ⟨hb111, hf⟩ := oi_none hf
                refine v_zald X.1 48 1 rfl rfl hb111 d_M_passes_83 ?_
                refine v_if_eq X.1 (tgt := 89) d_M_passes_84 (by decide) (fun c112 => ?_) (fun c112 => ?_)
                · rw [if_pos c112] at hf
                  refine v_iload_n X.1 d_M_passes_89 rfl 3 rfl ?_
                  refine v_iconst X.1 (v := (5 : Int32)) d_M_passes_90 (by decide) ?_
                  refine v_icmp_lt X.1 (tgt := 108) d_M_passes_91 (by decide) (fun c113 => ?_) (fun c113 => ?_)
                  · rw [if_pos c113] at hf
                    refine v_iconst X.1 (v := (1 : Int32)) d_M_passes_108 (by decide) ?_
                    refine v_goto X.1 (tgt := 113) d_M_passes_109 (by decide) ?_
                    cases hf
                    exact v_iret X.1 X.2.2.1 rfl d_M_passes_113 X.2.2.2.1 (by decide) (by decide)
                  · rw [if_neg c113] at hf
                    refine v_aload_n X.1 d_M_passes_94 rfl 0 rfl ?_
                    refine v_get X.1 (ci := 5) ⟨in_M, rfl⟩ 36 rfl 15 (by decide) (X.t tw_643 rfl) rfl d_M_passes_95 ?_
                    refine v_aload_n X.1 d_M_passes_98 rfl 0 rfl ?_
                    refine v_get X.1 (ci := 5) ⟨in_M, rfl⟩ 36 rfl 11 (by decide) (X.t tw_639 rfl) rfl d_M_passes_99 ?_
                    refine v_iload_n X.1 d_M_passes_102 rfl 2 rfl ?_
                    obtain ⟨hb114, hf⟩ := oi_none hf
                    refine v_iald X.1 45 0 rfl rfl hb114 d_M_passes_103 ?_
                    obtain ⟨hb115, hf⟩ := oi_none hf
                    refine v_zald X.1 49 1 rfl rfl hb115 d_M_passes_104 ?_
                    refine v_if_ne X.1 (tgt := 112) d_M_passes_105 (by decide) (fun c116 => ?_) (fun c116 => ?_)
                    · rw [if_neg c116] at hf
                      refine v_iconst X.1 (v := (0 : Int32)) d_M_passes_112 (by decide) ?_
                      cases hf
                      exact v_iret X.1 X.2.2.1 rfl d_M_passes_113 X.2.2.2.1 (by decide) (by decide)
                    · rw [if_pos c116] at hf
                      refine v_iconst X.1 (v := (1 : Int32)) d_M_passes_108 (by decide) ?_
                      refine v_goto X.1 (tgt := 113) d_M_passes_109 (by decide) ?_
                      cases hf
                      exact v_iret X.1 X.2.2.1 rfl d_M_passes_113 X.2.2.2.1 (by decide) (by decide)
                · rw [if_neg c112] at hf
                  refine v_iconst X.1 (v := (0 : Int32)) d_M_passes_87 (by decide) ?_
                  cases hf
                  exact v_iret X.1 X.2.2.1 rfl d_M_passes_88 X.2.2.2.1 (by decide) (by decide)
            · rw [if_pos c105] at hf
              refine v_iconst X.1 (v := (0 : Int32)) d_M_passes_66 (by decide) ?_
              cases hf
              exact v_iret X.1 X.2.2.1 rfl d_M_passes_67 X.2.2.2.1 (by decide) (by decide)
        · rw [if_neg c90] at hf
          refine v_iconst X.1 (v := (0 : Int32)) d_M_passes_41 (by decide) ?_
          cases hf
          exact v_iret X.1 X.2.2.1 rfl d_M_passes_42 X.2.2.2.1 (by decide) (by decide)
    · rw [if_neg c60] at hf
      refine v_iconst X.1 (v := (0 : Int32)) d_M_passes_19 (by decide) ?_
      cases hf
      exact v_iret X.1 X.2.2.1 rfl d_M_passes_20 X.2.2.2.1 (by decide) (by decide)

def f_M_mayServe (p1 : Int32) (p2 : Int32) (g : xSt) : Option (Int32 × xSt) := (ob2 (f_M_passes p1 p2 ((5 : Int32)) g) (fun r2 g3 => (if ¬ (r2 = 0 ∨ r2 = 1) then none else some (r2, g3))))

set_option maxRecDepth 100000 in
set_option maxHeartbeats 4000000 in
theorem c_M_mayServe (l : Launch) (p1 : Int32) (p2 : Int32) (g : xSt) (r : Int32) (g' : xSt) (hf : f_M_mayServe p1 p2 g = some (r, g')) : xM l y_M_mayServe (.code y_M_mayServe b_M_mayServe 3 (some .boolean)) ({ frames := 1, cells := 0, slots := 0, locals := 23 } : Room) (fun ad => [.ref (ad 36), .int p1, .int p2]) g (.inl (some (.int r))) g' 0 0 := by
  refine x_contract (by decide) (fun _ => Nat.le_of_ble_eq_true rfl) ?_
  intro p e s m below meth c D ad ca X hno
  unfold f_M_mayServe at hf
  refine v_aload_n X.1 d_M_mayServe_0 rfl 0 rfl ?_
  refine v_iload_n X.1 d_M_mayServe_1 rfl 1 rfl ?_
  refine v_iload_n X.1 d_M_mayServe_2 rfl 2 rfl ?_
  refine v_iconst X.1 (v := (5 : Int32)) d_M_mayServe_3 (by decide) ?_
  obtain ⟨r2, g3, hc1, hf⟩ := ob2_some hf
  refine v_backI X.1 (x_runV X (c_M_passes l p1 p2 ((5 : Int32)) _ _ _ hc1) rfl tw_759 tw_57 tw_756 tw_758 tw_36 36 5 rfl rfl rfl ⟨rfl, rfl, by decide, by decide⟩ ⟨by decide, by show _ = some 3; decide⟩ (rest := []) rfl (Nat.le_of_ble_eq_true rfl) d_M_mayServe_4 (by decide) (by decide)) ?_
  obtain ⟨hz4, hf⟩ := oi_none hf
  cases hf
  exact v_iret X.1 X.2.2.1 (oz_nar hz4).1 d_M_mayServe_7 X.2.2.2.1 (by decide) (by decide)

def f_M_has (p1 : Int32) (g : xSt) : Option (Int32 × xSt) := (if p1 < 0 ∨ 8 ≤ p1.toNatClampNeg then none else (if p1 < 0 ∨ 8 ≤ p1.toNatClampNeg then none else some ((g 50 p1.toNatClampNeg) - (g 51 p1.toNatClampNeg), g)))

set_option maxRecDepth 100000 in
set_option maxHeartbeats 4000000 in
theorem c_M_has (l : Launch) (p1 : Int32) (g : xSt) (r : Int32) (g' : xSt) (hf : f_M_has p1 g = some (r, g')) : xM l y_M_has (.code y_M_has b_M_has 2 (some .int)) ({ frames := 0, cells := 0, slots := 0, locals := 0 } : Room) (fun ad => [.ref (ad 36), .int p1]) g (.inl (some (.int r))) g' 0 0 := by
  refine x_contract (by decide) (fun _ => Nat.le_of_ble_eq_true rfl) ?_
  intro p e s m below meth c D ad ca X hno
  unfold f_M_has at hf
  refine v_aload_n X.1 d_M_has_0 rfl 0 rfl ?_
  refine v_get X.1 (ci := 5) ⟨in_M, rfl⟩ 36 rfl 5 (by decide) (X.t tw_633 rfl) rfl d_M_has_1 ?_
  refine v_iload_n X.1 d_M_has_4 rfl 1 rfl ?_
  obtain ⟨hb1, hf⟩ := oi_none hf
  refine v_iald X.1 40 0 rfl rfl hb1 d_M_has_5 ?_
  refine v_aload_n X.1 d_M_has_6 rfl 0 rfl ?_
  refine v_get X.1 (ci := 5) ⟨in_M, rfl⟩ 36 rfl 6 (by decide) (X.t tw_634 rfl) rfl d_M_has_7 ?_
  refine v_iload_n X.1 d_M_has_10 rfl 1 rfl ?_
  obtain ⟨hb2, hf⟩ := oi_none hf
  refine v_iald X.1 41 0 rfl rfl hb2 d_M_has_11 ?_
  refine v_isub X.1 d_M_has_12 ?_
  cases hf
  exact v_iret X.1 X.2.2.1 rfl d_M_has_13 X.2.2.2.1 (by decide) (by decide)

def f_M_isOrderBefore (p1 : Int32) (p2 : Int32) (g : xSt) : Option (Int32 × xSt) := (if p1 < 0 ∨ 8 ≤ p1.toNatClampNeg then none else (if p2 < 0 ∨ 8 ≤ p2.toNatClampNeg then none else (if (g 54 p1.toNatClampNeg) = (g 54 p2.toNatClampNeg) then (if p2 ≤ p1 then some ((0 : Int32), g) else some ((1 : Int32), g)) else (if p1 < 0 ∨ 8 ≤ p1.toNatClampNeg then none else (if p2 < 0 ∨ 8 ≤ p2.toNatClampNeg then none else (if (g 54 p2.toNatClampNeg) ≤ (g 54 p1.toNatClampNeg) then some ((0 : Int32), g) else some ((1 : Int32), g)))))))

set_option maxRecDepth 100000 in
set_option maxHeartbeats 4000000 in
theorem c_M_isOrderBefore (l : Launch) (p1 : Int32) (p2 : Int32) (g : xSt) (r : Int32) (g' : xSt) (hf : f_M_isOrderBefore p1 p2 g = some (r, g')) : xM l y_M_isOrderBefore (.code y_M_isOrderBefore b_M_isOrderBefore 3 (some .boolean)) ({ frames := 0, cells := 0, slots := 0, locals := 0 } : Room) (fun ad => [.ref (ad 36), .int p1, .int p2]) g (.inl (some (.int r))) g' 0 0 := by
  refine x_contract (by decide) (fun _ => Nat.le_of_ble_eq_true rfl) ?_
  intro p e s m below meth c D ad ca X hno
  unfold f_M_isOrderBefore at hf
  refine v_aload_n X.1 d_M_isOrderBefore_0 rfl 0 rfl ?_
  refine v_get X.1 (ci := 5) ⟨in_M, rfl⟩ 36 rfl 10 (by decide) (X.t tw_638 rfl) rfl d_M_isOrderBefore_1 ?_
  refine v_iload_n X.1 d_M_isOrderBefore_4 rfl 1 rfl ?_
  obtain ⟨hb1, hf⟩ := oi_none hf
  refine v_iald X.1 44 0 rfl rfl hb1 d_M_isOrderBefore_5 ?_
  refine v_aload_n X.1 d_M_isOrderBefore_6 rfl 0 rfl ?_
  refine v_get X.1 (ci := 5) ⟨in_M, rfl⟩ 36 rfl 10 (by decide) (X.t tw_638 rfl) rfl d_M_isOrderBefore_7 ?_
  refine v_iload_n X.1 d_M_isOrderBefore_10 rfl 2 rfl ?_
  obtain ⟨hb2, hf⟩ := oi_none hf
  refine v_iald X.1 44 0 rfl rfl hb2 d_M_isOrderBefore_11 ?_
  refine v_icmp_eq X.1 (tgt := 38) d_M_isOrderBefore_12 (by decide) (fun c3 => ?_) (fun c3 => ?_)
  · rw [if_pos c3] at hf
    refine v_iload_n X.1 d_M_isOrderBefore_38 rfl 1 rfl ?_
    refine v_iload_n X.1 d_M_isOrderBefore_39 rfl 2 rfl ?_
    refine v_icmp_ge X.1 (tgt := 47) d_M_isOrderBefore_40 (by decide) (fun c4 => ?_) (fun c4 => ?_)
    · rw [if_pos c4] at hf
      refine v_iconst X.1 (v := (0 : Int32)) d_M_isOrderBefore_47 (by decide) ?_
      cases hf
      exact v_iret X.1 X.2.2.1 rfl d_M_isOrderBefore_48 X.2.2.2.1 (by decide) (by decide)
    · rw [if_neg c4] at hf
      refine v_iconst X.1 (v := (1 : Int32)) d_M_isOrderBefore_43 (by decide) ?_
      refine v_goto X.1 (tgt := 48) d_M_isOrderBefore_44 (by decide) ?_
      cases hf
      exact v_iret X.1 X.2.2.1 rfl d_M_isOrderBefore_48 X.2.2.2.1 (by decide) (by decide)
  · rw [if_neg c3] at hf
    refine v_aload_n X.1 d_M_isOrderBefore_15 rfl 0 rfl ?_
    refine v_get X.1 (ci := 5) ⟨in_M, rfl⟩ 36 rfl 10 (by decide) (X.t tw_638 rfl) rfl d_M_isOrderBefore_16 ?_
    refine v_iload_n X.1 d_M_isOrderBefore_19 rfl 1 rfl ?_
    obtain ⟨hb5, hf⟩ := oi_none hf
    refine v_iald X.1 44 0 rfl rfl hb5 d_M_isOrderBefore_20 ?_
    refine v_aload_n X.1 d_M_isOrderBefore_21 rfl 0 rfl ?_
    refine v_get X.1 (ci := 5) ⟨in_M, rfl⟩ 36 rfl 10 (by decide) (X.t tw_638 rfl) rfl d_M_isOrderBefore_22 ?_
    refine v_iload_n X.1 d_M_isOrderBefore_25 rfl 2 rfl ?_
    obtain ⟨hb6, hf⟩ := oi_none hf
    refine v_iald X.1 44 0 rfl rfl hb6 d_M_isOrderBefore_26 ?_
    refine v_icmp_ge X.1 (tgt := 34) d_M_isOrderBefore_27 (by decide) (fun c7 => ?_) (fun c7 => ?_)
    · rw [if_pos c7] at hf
      refine v_iconst X.1 (v := (0 : Int32)) d_M_isOrderBefore_34 (by decide) ?_
      refine v_goto X.1 (tgt := 48) d_M_isOrderBefore_35 (by decide) ?_
      cases hf
      exact v_iret X.1 X.2.2.1 rfl d_M_isOrderBefore_48 X.2.2.2.1 (by decide) (by decide)
    · rw [if_neg c7] at hf
      refine v_iconst X.1 (v := (1 : Int32)) d_M_isOrderBefore_30 (by decide) ?_
      refine v_goto X.1 (tgt := 48) d_M_isOrderBefore_31 (by decide) ?_
      cases hf
      exact v_iret X.1 X.2.2.1 rfl d_M_isOrderBefore_48 X.2.2.2.1 (by decide) (by decide)

def f_M_isArrivalBefore (p1 : Int32) (p2 : Int32) (g : xSt) : Option (Int32 × xSt) := (if p1 < 0 ∨ 8 ≤ p1.toNatClampNeg then none else (if p2 < 0 ∨ 8 ≤ p2.toNatClampNeg then none else (if (g 49 p1.toNatClampNeg) = (g 49 p2.toNatClampNeg) then (if p2 ≤ p1 then some ((0 : Int32), g) else some ((1 : Int32), g)) else (if p1 < 0 ∨ 8 ≤ p1.toNatClampNeg then none else (if p2 < 0 ∨ 8 ≤ p2.toNatClampNeg then none else (if (g 49 p2.toNatClampNeg) ≤ (g 49 p1.toNatClampNeg) then some ((0 : Int32), g) else some ((1 : Int32), g)))))))

set_option maxRecDepth 100000 in
set_option maxHeartbeats 4000000 in
theorem c_M_isArrivalBefore (l : Launch) (p1 : Int32) (p2 : Int32) (g : xSt) (r : Int32) (g' : xSt) (hf : f_M_isArrivalBefore p1 p2 g = some (r, g')) : xM l y_M_isArrivalBefore (.code y_M_isArrivalBefore b_M_isArrivalBefore 3 (some .boolean)) ({ frames := 0, cells := 0, slots := 0, locals := 0 } : Room) (fun ad => [.ref (ad 36), .int p1, .int p2]) g (.inl (some (.int r))) g' 0 0 := by
  refine x_contract (by decide) (fun _ => Nat.le_of_ble_eq_true rfl) ?_
  intro p e s m below meth c D ad ca X hno
  unfold f_M_isArrivalBefore at hf
  refine v_aload_n X.1 d_M_isArrivalBefore_0 rfl 0 rfl ?_
  refine v_get X.1 (ci := 5) ⟨in_M, rfl⟩ 36 rfl 4 (by decide) (X.t tw_632 rfl) rfl d_M_isArrivalBefore_1 ?_
  refine v_iload_n X.1 d_M_isArrivalBefore_4 rfl 1 rfl ?_
  obtain ⟨hb1, hf⟩ := oi_none hf
  refine v_iald X.1 39 0 rfl rfl hb1 d_M_isArrivalBefore_5 ?_
  refine v_aload_n X.1 d_M_isArrivalBefore_6 rfl 0 rfl ?_
  refine v_get X.1 (ci := 5) ⟨in_M, rfl⟩ 36 rfl 4 (by decide) (X.t tw_632 rfl) rfl d_M_isArrivalBefore_7 ?_
  refine v_iload_n X.1 d_M_isArrivalBefore_10 rfl 2 rfl ?_
  obtain ⟨hb2, hf⟩ := oi_none hf
  refine v_iald X.1 39 0 rfl rfl hb2 d_M_isArrivalBefore_11 ?_
  refine v_icmp_eq X.1 (tgt := 38) d_M_isArrivalBefore_12 (by decide) (fun c3 => ?_) (fun c3 => ?_)
  · rw [if_pos c3] at hf
    refine v_iload_n X.1 d_M_isArrivalBefore_38 rfl 1 rfl ?_
    refine v_iload_n X.1 d_M_isArrivalBefore_39 rfl 2 rfl ?_
    refine v_icmp_ge X.1 (tgt := 47) d_M_isArrivalBefore_40 (by decide) (fun c4 => ?_) (fun c4 => ?_)
    · rw [if_pos c4] at hf
      refine v_iconst X.1 (v := (0 : Int32)) d_M_isArrivalBefore_47 (by decide) ?_
      cases hf
      exact v_iret X.1 X.2.2.1 rfl d_M_isArrivalBefore_48 X.2.2.2.1 (by decide) (by decide)
    · rw [if_neg c4] at hf
      refine v_iconst X.1 (v := (1 : Int32)) d_M_isArrivalBefore_43 (by decide) ?_
      refine v_goto X.1 (tgt := 48) d_M_isArrivalBefore_44 (by decide) ?_
      cases hf
      exact v_iret X.1 X.2.2.1 rfl d_M_isArrivalBefore_48 X.2.2.2.1 (by decide) (by decide)
  · rw [if_neg c3] at hf
    refine v_aload_n X.1 d_M_isArrivalBefore_15 rfl 0 rfl ?_
    refine v_get X.1 (ci := 5) ⟨in_M, rfl⟩ 36 rfl 4 (by decide) (X.t tw_632 rfl) rfl d_M_isArrivalBefore_16 ?_
    refine v_iload_n X.1 d_M_isArrivalBefore_19 rfl 1 rfl ?_
    obtain ⟨hb5, hf⟩ := oi_none hf
    refine v_iald X.1 39 0 rfl rfl hb5 d_M_isArrivalBefore_20 ?_
    refine v_aload_n X.1 d_M_isArrivalBefore_21 rfl 0 rfl ?_
    refine v_get X.1 (ci := 5) ⟨in_M, rfl⟩ 36 rfl 4 (by decide) (X.t tw_632 rfl) rfl d_M_isArrivalBefore_22 ?_
    refine v_iload_n X.1 d_M_isArrivalBefore_25 rfl 2 rfl ?_
    obtain ⟨hb6, hf⟩ := oi_none hf
    refine v_iald X.1 39 0 rfl rfl hb6 d_M_isArrivalBefore_26 ?_
    refine v_icmp_ge X.1 (tgt := 34) d_M_isArrivalBefore_27 (by decide) (fun c7 => ?_) (fun c7 => ?_)
    · rw [if_pos c7] at hf
      refine v_iconst X.1 (v := (0 : Int32)) d_M_isArrivalBefore_34 (by decide) ?_
      refine v_goto X.1 (tgt := 48) d_M_isArrivalBefore_35 (by decide) ?_
      cases hf
      exact v_iret X.1 X.2.2.1 rfl d_M_isArrivalBefore_48 X.2.2.2.1 (by decide) (by decide)
    · rw [if_neg c7] at hf
      refine v_iconst X.1 (v := (1 : Int32)) d_M_isArrivalBefore_30 (by decide) ?_
      refine v_goto X.1 (tgt := 48) d_M_isArrivalBefore_31 (by decide) ?_
      cases hf
      exact v_iret X.1 X.2.2.1 rfl d_M_isArrivalBefore_48 X.2.2.2.1 (by decide) (by decide)

def f_M_orderAt_L15 (fu : Nat) (p1 : Int32) (b2 : Int32) : Nat → Int32 → Int32 → xSt → Option (Int32 × Int32 × xSt)
  | 0, _, _, _ => none
  | n + 1, a3, a4, g => (if (g 42 0) ≤ a4 then some (a3, a4, g) else (ob2 (f_M_isOrderBefore a4 b2 g) (fun r4 g5 => (if r4 = 0 then f_M_orderAt_L15 fu p1 b2 n (a3 + ((0 : Int32))) (a4 + (1 : Int32)) g5 else f_M_orderAt_L15 fu p1 b2 n (a3 + ((1 : Int32))) (a4 + (1 : Int32)) g5))))

def f_M_orderAt_L2 (fu : Nat) (p1 : Int32) : Nat → Int32 → xSt → Option (Int32 × xSt)
  | 0, _, _ => none
  | n + 1, a2, g => (if (g 42 0) ≤ a2 then some ((-1 : Int32), g) else (ob3 (f_M_orderAt_L15 fu p1 a2 fu ((0 : Int32)) ((0 : Int32)) g) (fun x7 x8 g9 => (if x7 = p1 then some (a2, g9) else f_M_orderAt_L2 fu p1 n (a2 + (1 : Int32)) g9))))

def f_M_orderAt (fu : Nat) (p1 : Int32) (g : xSt) : Option (Int32 × xSt) := f_M_orderAt_L2 fu p1 fu ((0 : Int32)) g

set_option maxRecDepth 100000 in
set_option maxHeartbeats 4000000 in
theorem l_M_orderAt_L15 {p : Program} {e : Env} {s : State} {m : MethodId} {below : List Frame} {meth : Method} {c : Code} {D : va_G} {ad : Nat → Nat} {ca : Nat → ClassId} (l : Launch) (fu : Nat) (p1 : Int32) (b2 : Int32) (X : xX p s m ([.ref (ad 36), .int p1] : List Value).toArray meth c b_M_orderAt "CrossDockModel" 5 (some .int) D ad ca) (hno : c.exceptionTable.toList = []) {Q : State → Prop} : ∀ (n : Nat) (a3 : Int32) (a4 : Int32) (g : xSt) (a3' : Int32) (a4' : Int32) (g' : xSt), f_M_orderAt_L15 fu p1 b2 n a3 a4 g = some (a3', a4', g') → xV p l e ({ frames := 1, cells := 0, slots := 0, locals := 22 } : Room) s m ([.ref (ad 36), .int p1] : List Value).toArray below meth c D xcl (wX ad ca) (xA (wX ad ca) s.heap.size) 5 0 0 Q g' 48 [(4, .int a4'), (3, .int a3'), (2, .int b2), (0, .ref (ad 36)), (1, .int p1)] [] → xV p l e ({ frames := 1, cells := 0, slots := 0, locals := 22 } : Room) s m ([.ref (ad 36), .int p1] : List Value).toArray below meth c D xcl (wX ad ca) (xA (wX ad ca) s.heap.size) 5 0 0 Q g 15 [(4, .int a4), (3, .int a3), (2, .int b2), (0, .ref (ad 36)), (1, .int p1)] [] := by
  intro n
  induction n with
  | zero =>
    intro a3 a4 g a3' a4' g' hf
    rw [f_M_orderAt_L15] at hf
    cases hf
  | succ n ih =>
    intro a3 a4 g a3' a4' g' hf hk
    rw [f_M_orderAt_L15] at hf
    refine v_iload X.1 d_M_orderAt_15 0 rfl ?_
    refine v_aload_n X.1 d_M_orderAt_17 rfl 3 rfl ?_
    refine v_get X.1 (ci := 5) ⟨in_M, rfl⟩ 36 rfl 7 (by decide) (X.t tw_635 rfl) rfl d_M_orderAt_18 ?_
    refine v_icmp_ge X.1 (tgt := 48) d_M_orderAt_21 (by decide) (fun c2 => ?_) (fun c2 => ?_)
    · rw [if_pos c2] at hf
      cases hf
      refine v_sub [0, 1, 2, 3, 4] rfl ?_
      exact hk
    · rw [if_neg c2] at hf
      refine v_iload_n X.1 d_M_orderAt_24 rfl 1 rfl ?_
      refine v_aload_n X.1 d_M_orderAt_25 rfl 3 rfl ?_
      refine v_iload X.1 d_M_orderAt_26 0 rfl ?_
      refine v_iload_n X.1 d_M_orderAt_28 rfl 2 rfl ?_
      obtain ⟨r4, g5, hc3, hf⟩ := ob2_some hf
      refine v_backI X.1 (x_runV X (c_M_isOrderBefore l a4 b2 _ _ _ hc3) rfl tw_779 tw_57 tw_776 tw_778 tw_39 36 5 rfl rfl rfl ⟨rfl, rfl, by decide, by decide⟩ ⟨by decide, by show _ = some 2; decide⟩ (rest := [.int a3]) rfl (Nat.le_of_ble_eq_true rfl) d_M_orderAt_29 (by decide) (by decide)) ?_
      refine v_if_eq X.1 (tgt := 39) d_M_orderAt_32 (by decide) (fun c6 => ?_) (fun c6 => ?_)
      · rw [if_pos c6] at hf
        refine v_iconst X.1 (v := (0 : Int32)) d_M_orderAt_39 (by decide) ?_
        refine v_iadd X.1 d_M_orderAt_40 ?_
        refine v_istore_n X.1 (lv' := [(3, .int (a3 + ((0 : Int32)))), (4, .int a4), (2, .int b2), (0, .ref (ad 36)), (1, .int p1)]) d_M_orderAt_41 rfl (by decide) rfl ?_
        refine v_iinc X.1 (k0 := 1) (v := a4 + (1 : Int32)) (lv' := [(4, .int (a4 + (1 : Int32))), (3, .int (a3 + ((0 : Int32)))), (2, .int b2), (0, .ref (ad 36)), (1, .int p1)]) d_M_orderAt_42 rfl rfl (by decide) rfl ?_
        refine v_goto X.1 (tgt := 15) d_M_orderAt_45 (by decide) ?_
        refine v_sub [0, 1, 2, 3, 4] rfl ?_
        exact ih _ _ _ _ _ _ hf hk
      · rw [if_neg c6] at hf
        refine v_iconst X.1 (v := (1 : Int32)) d_M_orderAt_35 (by decide) ?_
        refine v_goto X.1 (tgt := 40) d_M_orderAt_36 (by decide) ?_
        refine v_iadd X.1 d_M_orderAt_40 ?_
        refine v_istore_n X.1 (lv' := [(3, .int (a3 + ((1 : Int32)))), (4, .int a4), (2, .int b2), (0, .ref (ad 36)), (1, .int p1)]) d_M_orderAt_41 rfl (by decide) rfl ?_
        refine v_iinc X.1 (k0 := 1) (v := a4 + (1 : Int32)) (lv' := [(4, .int (a4 + (1 : Int32))), (3, .int (a3 + ((1 : Int32)))), (2, .int b2), (0, .ref (ad 36)), (1, .int p1)]) d_M_orderAt_42 rfl rfl (by decide) rfl ?_
        refine v_goto X.1 (tgt := 15) d_M_orderAt_45 (by decide) ?_
        refine v_sub [0, 1, 2, 3, 4] rfl ?_
        exact ih _ _ _ _ _ _ hf hk

set_option maxRecDepth 100000 in
set_option maxHeartbeats 4000000 in
theorem l_M_orderAt_L2 {p : Program} {e : Env} {s : State} {m : MethodId} {below : List Frame} {meth : Method} {c : Code} {D : va_G} {ad : Nat → Nat} {ca : Nat → ClassId} (l : Launch) (fu : Nat) (p1 : Int32) (X : xX p s m ([.ref (ad 36), .int p1] : List Value).toArray meth c b_M_orderAt "CrossDockModel" 5 (some .int) D ad ca) (hno : c.exceptionTable.toList = []) : ∀ (n : Nat) (a2 : Int32) (g : xSt) (r : Int32) (g' : xSt), f_M_orderAt_L2 fu p1 n a2 g = some (r, g') → xV p l e ({ frames := 1, cells := 0, slots := 0, locals := 22 } : Room) s m ([.ref (ad 36), .int p1] : List Value).toArray below meth c D xcl (wX ad ca) (xA (wX ad ca) s.heap.size) 5 0 0 (xMQ below (xQ D xcl (wX ad ca) (xA (wX ad ca) s.heap.size) (.inl (some (.int r))) g') ([.ref (ad 36), .int p1] : List Value).toArray s 0 0 (xA (wX ad ca) s.heap.size)) g 2 [(2, .int a2), (0, .ref (ad 36)), (1, .int p1)] [] := by
  intro n
  induction n with
  | zero =>
    intro a2 g r g' hf
    rw [f_M_orderAt_L2] at hf
    cases hf
  | succ n ih =>
    intro a2 g r g' hf
    rw [f_M_orderAt_L2] at hf
    refine v_iload_n X.1 d_M_orderAt_2 rfl 0 rfl ?_
    refine v_aload_n X.1 d_M_orderAt_3 rfl 1 rfl ?_
    refine v_get X.1 (ci := 5) ⟨in_M, rfl⟩ 36 rfl 7 (by decide) (X.t tw_635 rfl) rfl d_M_orderAt_4 ?_
    refine v_icmp_ge X.1 (tgt := 61) d_M_orderAt_7 (by decide) (fun c1 => ?_) (fun c1 => ?_)
    · rw [if_pos c1] at hf
      refine v_iconst X.1 (v := (-1 : Int32)) d_M_orderAt_61 (by decide) ?_
      cases hf
      exact v_iret X.1 X.2.2.1 rfl d_M_orderAt_62 X.2.2.2.1 (by decide) (by decide)
    · rw [if_neg c1] at hf
      refine v_iconst X.1 (v := (0 : Int32)) d_M_orderAt_10 (by decide) ?_
      refine v_istore_n X.1 (lv' := [(3, .int ((0 : Int32))), (2, .int a2), (0, .ref (ad 36)), (1, .int p1)]) d_M_orderAt_11 rfl (by decide) rfl ?_
      refine v_iconst X.1 (v := (0 : Int32)) d_M_orderAt_12 (by decide) ?_
      refine v_istore X.1 (lv' := [(4, .int ((0 : Int32))), (3, .int ((0 : Int32))), (2, .int a2), (0, .ref (ad 36)), (1, .int p1)]) d_M_orderAt_13 (by decide) rfl ?_
      obtain ⟨x7, x8, g9, hL10, hf⟩ := ob3_some hf
      refine l_M_orderAt_L15 l fu p1 a2 X hno fu _ _ _ _ _ _ hL10 ?_
      refine v_iload_n X.1 d_M_orderAt_48 rfl 1 rfl ?_
      refine v_iload_n X.1 d_M_orderAt_49 rfl 4 rfl ?_
      refine v_icmp_ne X.1 (tgt := 55) d_M_orderAt_50 (by decide) (fun c11 => ?_) (fun c11 => ?_)
      · rw [if_neg c11] at hf
        refine v_iinc X.1 (k0 := 2) (v := a2 + (1 : Int32)) (lv' := [(2, .int (a2 + (1 : Int32))), (4, .int x8), (3, .int x7), (0, .ref (ad 36)), (1, .int p1)]) d_M_orderAt_55 rfl rfl (by decide) rfl ?_
        refine v_goto X.1 (tgt := 2) d_M_orderAt_58 (by decide) ?_
        refine v_sub [0, 3, 4] rfl ?_
        exact ih _ _ _ _ hf
      · rw [if_pos c11] at hf
        refine v_iload_n X.1 d_M_orderAt_53 rfl 2 rfl ?_
        cases hf
        exact v_iret X.1 X.2.2.1 rfl d_M_orderAt_54 X.2.2.2.1 (by decide) (by decide)

set_option maxRecDepth 100000 in
set_option maxHeartbeats 4000000 in
theorem c_M_orderAt (l : Launch) (fu : Nat) (p1 : Int32) (g : xSt) (r : Int32) (g' : xSt) (hf : f_M_orderAt fu p1 g = some (r, g')) : xM l y_M_orderAt (.code y_M_orderAt b_M_orderAt 5 (some .int)) ({ frames := 1, cells := 0, slots := 0, locals := 22 } : Room) (fun ad => [.ref (ad 36), .int p1]) g (.inl (some (.int r))) g' 0 0 := by
  refine x_contract (by decide) (fun _ => Nat.le_of_ble_eq_true rfl) ?_
  intro p e s m below meth c D ad ca X hno
  unfold f_M_orderAt at hf
  refine v_iconst X.1 (v := (0 : Int32)) d_M_orderAt_0 (by decide) ?_
  refine v_istore_n X.1 (lv' := [(2, .int ((0 : Int32))), (0, .ref (ad 36)), (1, .int p1)]) d_M_orderAt_1 rfl (by decide) rfl ?_
  exact l_M_orderAt_L2 l fu p1 X hno fu _ _ _ _ hf

def f_M_arrivalAt_L15 (fu : Nat) (p1 : Int32) (b2 : Int32) : Nat → Int32 → Int32 → xSt → Option (Int32 × Int32 × xSt)
  | 0, _, _, _ => none
  | n + 1, a3, a4, g => (if (g 41 0) ≤ a4 then some (a3, a4, g) else (ob2 (f_M_isArrivalBefore a4 b2 g) (fun r4 g5 => (if r4 = 0 then f_M_arrivalAt_L15 fu p1 b2 n (a3 + ((0 : Int32))) (a4 + (1 : Int32)) g5 else f_M_arrivalAt_L15 fu p1 b2 n (a3 + ((1 : Int32))) (a4 + (1 : Int32)) g5))))

def f_M_arrivalAt_L2 (fu : Nat) (p1 : Int32) : Nat → Int32 → xSt → Option (Int32 × xSt)
  | 0, _, _ => none
  | n + 1, a2, g => (if (g 41 0) ≤ a2 then some ((-1 : Int32), g) else (ob3 (f_M_arrivalAt_L15 fu p1 a2 fu ((0 : Int32)) ((0 : Int32)) g) (fun x7 x8 g9 => (if x7 = p1 then some (a2, g9) else f_M_arrivalAt_L2 fu p1 n (a2 + (1 : Int32)) g9))))

def f_M_arrivalAt (fu : Nat) (p1 : Int32) (g : xSt) : Option (Int32 × xSt) := f_M_arrivalAt_L2 fu p1 fu ((0 : Int32)) g

set_option maxRecDepth 100000 in
set_option maxHeartbeats 4000000 in
theorem l_M_arrivalAt_L15 {p : Program} {e : Env} {s : State} {m : MethodId} {below : List Frame} {meth : Method} {c : Code} {D : va_G} {ad : Nat → Nat} {ca : Nat → ClassId} (l : Launch) (fu : Nat) (p1 : Int32) (b2 : Int32) (X : xX p s m ([.ref (ad 36), .int p1] : List Value).toArray meth c b_M_arrivalAt "CrossDockModel" 5 (some .int) D ad ca) (hno : c.exceptionTable.toList = []) {Q : State → Prop} : ∀ (n : Nat) (a3 : Int32) (a4 : Int32) (g : xSt) (a3' : Int32) (a4' : Int32) (g' : xSt), f_M_arrivalAt_L15 fu p1 b2 n a3 a4 g = some (a3', a4', g') → xV p l e ({ frames := 1, cells := 0, slots := 0, locals := 22 } : Room) s m ([.ref (ad 36), .int p1] : List Value).toArray below meth c D xcl (wX ad ca) (xA (wX ad ca) s.heap.size) 5 0 0 Q g' 48 [(4, .int a4'), (3, .int a3'), (2, .int b2), (0, .ref (ad 36)), (1, .int p1)] [] → xV p l e ({ frames := 1, cells := 0, slots := 0, locals := 22 } : Room) s m ([.ref (ad 36), .int p1] : List Value).toArray below meth c D xcl (wX ad ca) (xA (wX ad ca) s.heap.size) 5 0 0 Q g 15 [(4, .int a4), (3, .int a3), (2, .int b2), (0, .ref (ad 36)), (1, .int p1)] [] := by
  intro n
  induction n with
  | zero =>
    intro a3 a4 g a3' a4' g' hf
    rw [f_M_arrivalAt_L15] at hf
    cases hf
  | succ n ih =>
    intro a3 a4 g a3' a4' g' hf hk
    rw [f_M_arrivalAt_L15] at hf
    refine v_iload X.1 d_M_arrivalAt_15 0 rfl ?_
    refine v_aload_n X.1 d_M_arrivalAt_17 rfl 3 rfl ?_
    refine v_get X.1 (ci := 5) ⟨in_M, rfl⟩ 36 rfl 1 (by decide) (X.t tw_629 rfl) rfl d_M_arrivalAt_18 ?_
    refine v_icmp_ge X.1 (tgt := 48) d_M_arrivalAt_21 (by decide) (fun c2 => ?_) (fun c2 => ?_)
    · rw [if_pos c2] at hf
      cases hf
      refine v_sub [0, 1, 2, 3, 4] rfl ?_
      exact hk
    · rw [if_neg c2] at hf
      refine v_iload_n X.1 d_M_arrivalAt_24 rfl 1 rfl ?_
      refine v_aload_n X.1 d_M_arrivalAt_25 rfl 3 rfl ?_
      refine v_iload X.1 d_M_arrivalAt_26 0 rfl ?_
      refine v_iload_n X.1 d_M_arrivalAt_28 rfl 2 rfl ?_
      obtain ⟨r4, g5, hc3, hf⟩ := ob2_some hf
      refine v_backI X.1 (x_runV X (c_M_isArrivalBefore l a4 b2 _ _ _ hc3) rfl tw_787 tw_57 tw_784 tw_786 tw_41 36 5 rfl rfl rfl ⟨rfl, rfl, by decide, by decide⟩ ⟨by decide, by show _ = some 2; decide⟩ (rest := [.int a3]) rfl (Nat.le_of_ble_eq_true rfl) d_M_arrivalAt_29 (by decide) (by decide)) ?_
      refine v_if_eq X.1 (tgt := 39) d_M_arrivalAt_32 (by decide) (fun c6 => ?_) (fun c6 => ?_)
      · rw [if_pos c6] at hf
        refine v_iconst X.1 (v := (0 : Int32)) d_M_arrivalAt_39 (by decide) ?_
        refine v_iadd X.1 d_M_arrivalAt_40 ?_
        refine v_istore_n X.1 (lv' := [(3, .int (a3 + ((0 : Int32)))), (4, .int a4), (2, .int b2), (0, .ref (ad 36)), (1, .int p1)]) d_M_arrivalAt_41 rfl (by decide) rfl ?_
        refine v_iinc X.1 (k0 := 1) (v := a4 + (1 : Int32)) (lv' := [(4, .int (a4 + (1 : Int32))), (3, .int (a3 + ((0 : Int32)))), (2, .int b2), (0, .ref (ad 36)), (1, .int p1)]) d_M_arrivalAt_42 rfl rfl (by decide) rfl ?_
        refine v_goto X.1 (tgt := 15) d_M_arrivalAt_45 (by decide) ?_
        refine v_sub [0, 1, 2, 3, 4] rfl ?_
        exact ih _ _ _ _ _ _ hf hk
      · rw [if_neg c6] at hf
        refine v_iconst X.1 (v := (1 : Int32)) d_M_arrivalAt_35 (by decide) ?_
        refine v_goto X.1 (tgt := 40) d_M_arrivalAt_36 (by decide) ?_
        refine v_iadd X.1 d_M_arrivalAt_40 ?_
        refine v_istore_n X.1 (lv' := [(3, .int (a3 + ((1 : Int32)))), (4, .int a4), (2, .int b2), (0, .ref (ad 36)), (1, .int p1)]) d_M_arrivalAt_41 rfl (by decide) rfl ?_
        refine v_iinc X.1 (k0 := 1) (v := a4 + (1 : Int32)) (lv' := [(4, .int (a4 + (1 : Int32))), (3, .int (a3 + ((1 : Int32)))), (2, .int b2), (0, .ref (ad 36)), (1, .int p1)]) d_M_arrivalAt_42 rfl rfl (by decide) rfl ?_
        refine v_goto X.1 (tgt := 15) d_M_arrivalAt_45 (by decide) ?_
        refine v_sub [0, 1, 2, 3, 4] rfl ?_
        exact ih _ _ _ _ _ _ hf hk

set_option maxRecDepth 100000 in
set_option maxHeartbeats 4000000 in
theorem l_M_arrivalAt_L2 {p : Program} {e : Env} {s : State} {m : MethodId} {below : List Frame} {meth : Method} {c : Code} {D : va_G} {ad : Nat → Nat} {ca : Nat → ClassId} (l : Launch) (fu : Nat) (p1 : Int32) (X : xX p s m ([.ref (ad 36), .int p1] : List Value).toArray meth c b_M_arrivalAt "CrossDockModel" 5 (some .int) D ad ca) (hno : c.exceptionTable.toList = []) : ∀ (n : Nat) (a2 : Int32) (g : xSt) (r : Int32) (g' : xSt), f_M_arrivalAt_L2 fu p1 n a2 g = some (r, g') → xV p l e ({ frames := 1, cells := 0, slots := 0, locals := 22 } : Room) s m ([.ref (ad 36), .int p1] : List Value).toArray below meth c D xcl (wX ad ca) (xA (wX ad ca) s.heap.size) 5 0 0 (xMQ below (xQ D xcl (wX ad ca) (xA (wX ad ca) s.heap.size) (.inl (some (.int r))) g') ([.ref (ad 36), .int p1] : List Value).toArray s 0 0 (xA (wX ad ca) s.heap.size)) g 2 [(2, .int a2), (0, .ref (ad 36)), (1, .int p1)] [] := by
  intro n
  induction n with
  | zero =>
    intro a2 g r g' hf
    rw [f_M_arrivalAt_L2] at hf
    cases hf
  | succ n ih =>
    intro a2 g r g' hf
    rw [f_M_arrivalAt_L2] at hf
    refine v_iload_n X.1 d_M_arrivalAt_2 rfl 0 rfl ?_
    refine v_aload_n X.1 d_M_arrivalAt_3 rfl 1 rfl ?_
    refine v_get X.1 (ci := 5) ⟨in_M, rfl⟩ 36 rfl 1 (by decide) (X.t tw_629 rfl) rfl d_M_arrivalAt_4 ?_
    refine v_icmp_ge X.1 (tgt := 61) d_M_arrivalAt_7 (by decide) (fun c1 => ?_) (fun c1 => ?_)
    · rw [if_pos c1] at hf
      refine v_iconst X.1 (v := (-1 : Int32)) d_M_arrivalAt_61 (by decide) ?_
      cases hf
      exact v_iret X.1 X.2.2.1 rfl d_M_arrivalAt_62 X.2.2.2.1 (by decide) (by decide)
    · rw [if_neg c1] at hf
      refine v_iconst X.1 (v := (0 : Int32)) d_M_arrivalAt_10 (by decide) ?_
      refine v_istore_n X.1 (lv' := [(3, .int ((0 : Int32))), (2, .int a2), (0, .ref (ad 36)), (1, .int p1)]) d_M_arrivalAt_11 rfl (by decide) rfl ?_
      refine v_iconst X.1 (v := (0 : Int32)) d_M_arrivalAt_12 (by decide) ?_
      refine v_istore X.1 (lv' := [(4, .int ((0 : Int32))), (3, .int ((0 : Int32))), (2, .int a2), (0, .ref (ad 36)), (1, .int p1)]) d_M_arrivalAt_13 (by decide) rfl ?_
      obtain ⟨x7, x8, g9, hL10, hf⟩ := ob3_some hf
      refine l_M_arrivalAt_L15 l fu p1 a2 X hno fu _ _ _ _ _ _ hL10 ?_
      refine v_iload_n X.1 d_M_arrivalAt_48 rfl 1 rfl ?_
      refine v_iload_n X.1 d_M_arrivalAt_49 rfl 4 rfl ?_
      refine v_icmp_ne X.1 (tgt := 55) d_M_arrivalAt_50 (by decide) (fun c11 => ?_) (fun c11 => ?_)
      · rw [if_neg c11] at hf
        refine v_iinc X.1 (k0 := 2) (v := a2 + (1 : Int32)) (lv' := [(2, .int (a2 + (1 : Int32))), (4, .int x8), (3, .int x7), (0, .ref (ad 36)), (1, .int p1)]) d_M_arrivalAt_55 rfl rfl (by decide) rfl ?_
        refine v_goto X.1 (tgt := 2) d_M_arrivalAt_58 (by decide) ?_
        refine v_sub [0, 3, 4] rfl ?_
        exact ih _ _ _ _ hf
      · rw [if_pos c11] at hf
        refine v_iload_n X.1 d_M_arrivalAt_53 rfl 2 rfl ?_
        cases hf
        exact v_iret X.1 X.2.2.1 rfl d_M_arrivalAt_54 X.2.2.2.1 (by decide) (by decide)

set_option maxRecDepth 100000 in
set_option maxHeartbeats 4000000 in
theorem c_M_arrivalAt (l : Launch) (fu : Nat) (p1 : Int32) (g : xSt) (r : Int32) (g' : xSt) (hf : f_M_arrivalAt fu p1 g = some (r, g')) : xM l y_M_arrivalAt (.code y_M_arrivalAt b_M_arrivalAt 5 (some .int)) ({ frames := 1, cells := 0, slots := 0, locals := 22 } : Room) (fun ad => [.ref (ad 36), .int p1]) g (.inl (some (.int r))) g' 0 0 := by
  refine x_contract (by decide) (fun _ => Nat.le_of_ble_eq_true rfl) ?_
  intro p e s m below meth c D ad ca X hno
  unfold f_M_arrivalAt at hf
  refine v_iconst X.1 (v := (0 : Int32)) d_M_arrivalAt_0 (by decide) ?_
  refine v_istore_n X.1 (lv' := [(2, .int ((0 : Int32))), (0, .ref (ad 36)), (1, .int p1)]) d_M_arrivalAt_1 rfl (by decide) rfl ?_
  exact l_M_arrivalAt_L2 l fu p1 X hno fu _ _ _ _ hf

def f_M_layOut_L23 (fu : Nat) (b2 : Int32) (b1 : Int32) : Nat → Int32 → xSt → Option (Int32 × xSt)
  | 0, _, _ => none
  | n + 1, a3, g => (if (g 41 0) ≤ a3 then some (a3, g) else (ob2 (f_M_arrivalAt fu a3 g) (fun r9 g10 => (ob2 (f_M_mayServe r9 b2 g10) (fun r12 g13 => (if r12 = 0 then f_M_layOut_L23 fu b2 b1 n (a3 + (1 : Int32)) g13 else (if (g13 46 0) < 0 ∨ 64 ≤ (g13 46 0).toNatClampNeg then none else (Option.bind (some (xw g13 63 (g13 46 0).toNatClampNeg r9)) (fun g16 => (if (g16 46 0) < 0 ∨ 64 ≤ (g16 46 0).toNatClampNeg then none else (Option.bind (some (xw g16 64 (g16 46 0).toNatClampNeg b2)) (fun g19 => (Option.bind (some (xw g19 46 0 ((g19 46 0) + ((1 : Int32))))) (fun g21 => f_M_layOut_L23 fu b2 b1 n (a3 + (1 : Int32)) g21))))))))))))))

def f_M_layOut_L7 (fu : Nat) : Nat → Int32 → xSt → Option (Int32 × xSt)
  | 0, _, _ => none
  | n + 1, a1, g => (if (g 42 0) ≤ a1 then some (a1, g) else (ob2 (f_M_orderAt fu a1 g) (fun r5 g6 => (ob2 (f_M_layOut_L23 fu r5 a1 fu ((0 : Int32)) g6) (fun x23 g24 => f_M_layOut_L7 fu n (a1 + (1 : Int32)) g24)))))

def f_M_layOut (fu : Nat) (g : xSt) : Option (xSt) := (Option.bind (some (xw g 46 0 ((0 : Int32)))) (fun g1 => (ob2 (f_M_layOut_L7 fu fu ((0 : Int32)) g1) (fun x26 g27 => some g27))))

set_option maxRecDepth 100000 in
set_option maxHeartbeats 4000000 in
theorem l_M_layOut_L23 {p : Program} {e : Env} {s : State} {m : MethodId} {below : List Frame} {meth : Method} {c : Code} {D : va_G} {ad : Nat → Nat} {ca : Nat → ClassId} (l : Launch) (fu : Nat) (b2 : Int32) (b1 : Int32) (X : xX p s m ([.ref (ad 36)] : List Value).toArray meth c b_M_layOut "CrossDockModel" 5 none D ad ca) (hno : c.exceptionTable.toList = []) {Q : State → Prop} : ∀ (n : Nat) (a3 : Int32) (g : xSt) (a3' : Int32) (g' : xSt), f_M_layOut_L23 fu b2 b1 n a3 g = some (a3', g') → xV p l e ({ frames := 2, cells := 0, slots := 0, locals := 46 } : Room) s m ([.ref (ad 36)] : List Value).toArray below meth c D xcl (wX ad ca) (xA (wX ad ca) s.heap.size) 5 0 0 Q g' 88 [(3, .int a3'), (2, .int b2), (1, .int b1), (0, .ref (ad 36))] [] → xV p l e ({ frames := 2, cells := 0, slots := 0, locals := 46 } : Room) s m ([.ref (ad 36)] : List Value).toArray below meth c D xcl (wX ad ca) (xA (wX ad ca) s.heap.size) 5 0 0 Q g 23 [(3, .int a3), (2, .int b2), (1, .int b1), (0, .ref (ad 36))] [] := by
  intro n
  induction n with
  | zero =>
    intro a3 g a3' g' hf
    rw [f_M_layOut_L23] at hf
    cases hf
  | succ n ih =>
    intro a3 g a3' g' hf hk
    rw [f_M_layOut_L23] at hf
    refine v_iload_n X.1 d_M_layOut_23 rfl 0 rfl ?_
    refine v_aload_n X.1 d_M_layOut_24 rfl 3 rfl ?_
    refine v_get X.1 (ci := 5) ⟨in_M, rfl⟩ 36 rfl 1 (by decide) (X.t tw_629 rfl) rfl d_M_layOut_25 ?_
    refine v_icmp_ge X.1 (tgt := 88) d_M_layOut_28 (by decide) (fun c7 => ?_) (fun c7 => ?_)
    · rw [if_pos c7] at hf
      cases hf
      refine v_sub [0, 1, 2, 3] rfl ?_
      exact hk
    · rw [if_neg c7] at hf
      refine v_aload_n X.1 d_M_layOut_31 rfl 3 rfl ?_
      refine v_iload_n X.1 d_M_layOut_32 rfl 0 rfl ?_
      obtain ⟨r9, g10, hc8, hf⟩ := ob2_some hf
      refine v_backI X.1 (x_runV X (c_M_arrivalAt l fu a3 _ _ _ hc8) rfl tw_783 tw_57 tw_780 tw_782 tw_40 36 5 rfl rfl rfl ⟨rfl, rfl, by decide, by decide⟩ ⟨by decide, by show _ = some 1; decide⟩ (rest := []) rfl (Nat.le_of_ble_eq_true rfl) d_M_layOut_33 (by decide) (by decide)) ?_
      refine v_istore X.1 (lv' := [(4, .int r9), (3, .int a3), (2, .int b2), (1, .int b1), (0, .ref (ad 36))]) d_M_layOut_36 (by decide) rfl ?_
      refine v_aload_n X.1 d_M_layOut_38 rfl 4 rfl ?_
      refine v_iload X.1 d_M_layOut_39 0 rfl ?_
      refine v_iload_n X.1 d_M_layOut_41 rfl 2 rfl ?_
      obtain ⟨r12, g13, hc11, hf⟩ := ob2_some hf
      refine v_backI X.1 (x_runV X (c_M_mayServe l r9 b2 _ _ _ hc11) rfl tw_755 tw_57 tw_752 tw_754 tw_35 36 5 rfl rfl rfl ⟨rfl, rfl, by decide, by decide⟩ ⟨by decide, by show _ = some 2; decide⟩ (rest := []) rfl (Nat.le_of_ble_eq_true rfl) d_M_layOut_42 (by decide) (by decide)) ?_
      refine v_if_ne X.1 (tgt := 51) d_M_layOut_45 (by decide) (fun c14 => ?_) (fun c14 => ?_)
      · rw [if_neg c14] at hf
        refine v_aload_n X.1 d_M_layOut_51 rfl 4 rfl ?_
        refine v_get X.1 (ci := 5) ⟨in_M, rfl⟩ 36 rfl 23 (by decide) (X.t tw_651 rfl) rfl d_M_layOut_52 ?_
        refine v_aload_n X.1 d_M_layOut_55 rfl 4 rfl ?_
        refine v_get X.1 (ci := 5) ⟨in_M, rfl⟩ 36 rfl 22 (by decide) (X.t tw_650 rfl) rfl d_M_layOut_56 ?_
        refine v_iload X.1 d_M_layOut_59 0 rfl ?_
        obtain ⟨hb15, hf⟩ := oi_none hf
        obtain ⟨g16, eg17, hf⟩ := ob_some hf
        refine v_iast X.1 53 0 rfl rfl hb15 ((sa_63 ad ca _ _ _).trans (congrArg (wX ad ca) (Option.some.inj eg17))) d_M_layOut_61 ?_
        refine v_aload_n X.1 d_M_layOut_62 rfl 4 rfl ?_
        refine v_get X.1 (ci := 5) ⟨in_M, rfl⟩ 36 rfl 24 (by decide) (X.t tw_652 rfl) rfl d_M_layOut_63 ?_
        refine v_aload_n X.1 d_M_layOut_66 rfl 4 rfl ?_
        refine v_get X.1 (ci := 5) ⟨in_M, rfl⟩ 36 rfl 22 (by decide) (X.t tw_650 rfl) rfl d_M_layOut_67 ?_
        refine v_iload_n X.1 d_M_layOut_70 rfl 2 rfl ?_
        obtain ⟨hb18, hf⟩ := oi_none hf
        obtain ⟨g19, eg20, hf⟩ := ob_some hf
        refine v_iast X.1 54 0 rfl rfl hb18 ((sa_64 ad ca _ _ _).trans (congrArg (wX ad ca) (Option.some.inj eg20))) d_M_layOut_71 ?_
        refine v_aload_n X.1 d_M_layOut_72 rfl 4 rfl ?_
        refine v_dup X.1 d_M_layOut_73 rfl ?_
        refine v_get X.1 (ci := 5) ⟨in_M, rfl⟩ 36 rfl 22 (by decide) (X.t tw_650 rfl) rfl d_M_layOut_74 ?_
        refine v_iconst X.1 (v := (1 : Int32)) d_M_layOut_77 (by decide) ?_
        refine v_iadd X.1 d_M_layOut_78 ?_
        obtain ⟨g21, eg22, hf⟩ := ob_some hf
        refine v_put X.1 (ci := 5) ⟨in_M, rfl⟩ 36 rfl 22 (by decide) ⟨ty_M_ok, nm_M⟩ (X.t tw_650 rfl) rfl (ty := .int) (by decide +kernel) rfl rfl (Nat.le_of_ble_eq_true rfl) ((sw_46 ad ca _ _).trans (congrArg (wX ad ca) (Option.some.inj eg22))) d_M_layOut_79 ?_
        refine v_iinc X.1 (k0 := 1) (v := a3 + (1 : Int32)) (lv' := [(3, .int (a3 + (1 : Int32))), (4, .int r9), (2, .int b2), (1, .int b1), (0, .ref (ad 36))]) d_M_layOut_82 rfl rfl (by decide) rfl ?_
        refine v_goto X.1 (tgt := 23) d_M_layOut_85 (by decide) ?_
        refine v_sub [0, 2, 3, 4] rfl ?_
        exact ih _ _ _ _ hf hk
      · rw [if_pos c14] at hf
        refine v_goto X.1 (tgt := 82) d_M_layOut_48 (by decide) ?_
        refine v_iinc X.1 (k0 := 1) (v := a3 + (1 : Int32)) (lv' := [(3, .int (a3 + (1 : Int32))), (4, .int r9), (2, .int b2), (1, .int b1), (0, .ref (ad 36))]) d_M_layOut_82 rfl rfl (by decide) rfl ?_
        refine v_goto X.1 (tgt := 23) d_M_layOut_85 (by decide) ?_
        refine v_sub [0, 2, 3, 4] rfl ?_
        exact ih _ _ _ _ hf hk

set_option maxRecDepth 100000 in
set_option maxHeartbeats 4000000 in
theorem l_M_layOut_L7 {p : Program} {e : Env} {s : State} {m : MethodId} {below : List Frame} {meth : Method} {c : Code} {D : va_G} {ad : Nat → Nat} {ca : Nat → ClassId} (l : Launch) (fu : Nat) (X : xX p s m ([.ref (ad 36)] : List Value).toArray meth c b_M_layOut "CrossDockModel" 5 none D ad ca) (hno : c.exceptionTable.toList = []) {Q : State → Prop} : ∀ (n : Nat) (a1 : Int32) (g : xSt) (a1' : Int32) (g' : xSt), f_M_layOut_L7 fu n a1 g = some (a1', g') → xV p l e ({ frames := 2, cells := 0, slots := 0, locals := 46 } : Room) s m ([.ref (ad 36)] : List Value).toArray below meth c D xcl (wX ad ca) (xA (wX ad ca) s.heap.size) 5 0 0 Q g' 94 [(1, .int a1'), (0, .ref (ad 36))] [] → xV p l e ({ frames := 2, cells := 0, slots := 0, locals := 46 } : Room) s m ([.ref (ad 36)] : List Value).toArray below meth c D xcl (wX ad ca) (xA (wX ad ca) s.heap.size) 5 0 0 Q g 7 [(1, .int a1), (0, .ref (ad 36))] [] := by
  intro n
  induction n with
  | zero =>
    intro a1 g a1' g' hf
    rw [f_M_layOut_L7] at hf
    cases hf
  | succ n ih =>
    intro a1 g a1' g' hf hk
    rw [f_M_layOut_L7] at hf
    refine v_iload_n X.1 d_M_layOut_7 rfl 0 rfl ?_
    refine v_aload_n X.1 d_M_layOut_8 rfl 1 rfl ?_
    refine v_get X.1 (ci := 5) ⟨in_M, rfl⟩ 36 rfl 7 (by decide) (X.t tw_635 rfl) rfl d_M_layOut_9 ?_
    refine v_icmp_ge X.1 (tgt := 94) d_M_layOut_12 (by decide) (fun c3 => ?_) (fun c3 => ?_)
    · rw [if_pos c3] at hf
      cases hf
      refine v_sub [0, 1] rfl ?_
      exact hk
    · rw [if_neg c3] at hf
      refine v_aload_n X.1 d_M_layOut_15 rfl 1 rfl ?_
      refine v_iload_n X.1 d_M_layOut_16 rfl 0 rfl ?_
      obtain ⟨r5, g6, hc4, hf⟩ := ob2_some hf
      refine v_backI X.1 (x_runV X (c_M_orderAt l fu a1 _ _ _ hc4) rfl tw_775 tw_57 tw_772 tw_774 tw_38 36 5 rfl rfl rfl ⟨rfl, rfl, by decide, by decide⟩ ⟨by decide, by show _ = some 1; decide⟩ (rest := []) rfl (Nat.le_of_ble_eq_true rfl) d_M_layOut_17 (by decide) (by decide)) ?_
      refine v_istore_n X.1 (lv' := [(2, .int r5), (1, .int a1), (0, .ref (ad 36))]) d_M_layOut_20 rfl (by decide) rfl ?_
      refine v_iconst X.1 (v := (0 : Int32)) d_M_layOut_21 (by decide) ?_
      refine v_istore_n X.1 (lv' := [(3, .int ((0 : Int32))), (2, .int r5), (1, .int a1), (0, .ref (ad 36))]) d_M_layOut_22 rfl (by decide) rfl ?_
      obtain ⟨x23, g24, hL25, hf⟩ := ob2_some hf
      refine l_M_layOut_L23 l fu r5 a1 X hno fu _ _ _ _ hL25 ?_
      refine v_iinc X.1 (k0 := 2) (v := a1 + (1 : Int32)) (lv' := [(1, .int (a1 + (1 : Int32))), (3, .int x23), (2, .int r5), (0, .ref (ad 36))]) d_M_layOut_88 rfl rfl (by decide) rfl ?_
      refine v_goto X.1 (tgt := 7) d_M_layOut_91 (by decide) ?_
      refine v_sub [0, 3] rfl ?_
      exact ih _ _ _ _ hf hk

set_option maxRecDepth 100000 in
set_option maxHeartbeats 4000000 in
theorem c_M_layOut (l : Launch) (fu : Nat) (g : xSt) (g' : xSt) (hf : f_M_layOut fu g = some g') : xM l y_M_layOut (.code y_M_layOut b_M_layOut 5 none) ({ frames := 2, cells := 0, slots := 0, locals := 46 } : Room) (fun ad => [.ref (ad 36)]) g (.inl none) g' 0 0 := by
  refine x_contract (by decide) (fun _ => Nat.le_of_ble_eq_true rfl) ?_
  intro p e s m below meth c D ad ca X hno
  unfold f_M_layOut at hf
  refine v_aload_n X.1 d_M_layOut_0 rfl 0 rfl ?_
  refine v_iconst X.1 (v := (0 : Int32)) d_M_layOut_1 (by decide) ?_
  obtain ⟨g1, eg2, hf⟩ := ob_some hf
  refine v_put X.1 (ci := 5) ⟨in_M, rfl⟩ 36 rfl 22 (by decide) ⟨ty_M_ok, nm_M⟩ (X.t tw_650 rfl) rfl (ty := .int) (by decide +kernel) rfl rfl (Nat.le_of_ble_eq_true rfl) ((sw_46 ad ca _ _).trans (congrArg (wX ad ca) (Option.some.inj eg2))) d_M_layOut_2 ?_
  refine v_iconst X.1 (v := (0 : Int32)) d_M_layOut_5 (by decide) ?_
  refine v_istore_n X.1 (lv' := [(1, .int ((0 : Int32))), (0, .ref (ad 36))]) d_M_layOut_6 rfl (by decide) rfl ?_
  obtain ⟨x26, g27, hL28, hf⟩ := ob2_some hf
  refine l_M_layOut_L7 l fu X hno fu _ _ _ _ hL28 ?_
  cases hf
  exact v_vret X.1 X.2.2.1 d_M_layOut_94 X.2.2.2.1 (by decide) (by decide)

def f_M_greatest_L26 (fu : Nat) (p1 : Int32) : Nat → Int32 → Int32 → Int32 → xSt → Option (Int32 × Int32 × Int32 × xSt)
  | 0, _, _, _, _ => none
  | n + 1, a2, a3, a4, g => (if p1 ≤ a4 then some (a2, a3, a4, g) else (if a4 < 0 ∨ 64 ≤ a4.toNatClampNeg then none else (if p1 < 0 ∨ 64 ≤ p1.toNatClampNeg then none else (if (g 63 a4.toNatClampNeg) = (g 63 p1.toNatClampNeg) then (if a4 < 0 ∨ 65 ≤ a4.toNatClampNeg then none else (if a4 < 0 ∨ 64 ≤ a4.toNatClampNeg then none else (if p1 < 0 ∨ 64 ≤ p1.toNatClampNeg then none else (if (g 64 a4.toNatClampNeg) = (g 64 p1.toNatClampNeg) then (if a4 < 0 ∨ 65 ≤ a4.toNatClampNeg then none else f_M_greatest_L26 fu p1 n (a2 - (g 65 a4.toNatClampNeg)) (a3 - (g 65 a4.toNatClampNeg)) (a4 + (1 : Int32)) g) else f_M_greatest_L26 fu p1 n (a2 - (g 65 a4.toNatClampNeg)) (a3 - ((0 : Int32))) (a4 + (1 : Int32)) g)))) else (if a4 < 0 ∨ 64 ≤ a4.toNatClampNeg then none else (if p1 < 0 ∨ 64 ≤ p1.toNatClampNeg then none else (if (g 64 a4.toNatClampNeg) = (g 64 p1.toNatClampNeg) then (if a4 < 0 ∨ 65 ≤ a4.toNatClampNeg then none else f_M_greatest_L26 fu p1 n (a2 - ((0 : Int32))) (a3 - (g 65 a4.toNatClampNeg)) (a4 + (1 : Int32)) g) else f_M_greatest_L26 fu p1 n (a2 - ((0 : Int32))) (a3 - ((0 : Int32))) (a4 + (1 : Int32)) g)))))))

def f_M_greatest (fu : Nat) (p1 : Int32) (g : xSt) : Option (Int32 × xSt) := (if p1 < 0 ∨ 64 ≤ p1.toNatClampNeg then none else (ob2 (f_M_has (g 63 p1.toNatClampNeg) g) (fun r3 g4 => (if p1 < 0 ∨ 64 ≤ p1.toNatClampNeg then none else (if (g4 64 p1.toNatClampNeg) < 0 ∨ 8 ≤ (g4 64 p1.toNatClampNeg).toNatClampNeg then none else (ob4 (f_M_greatest_L26 fu p1 fu r3 (g4 53 (g4 64 p1.toNatClampNeg).toNatClampNeg) ((0 : Int32)) g4) (fun x20 x21 x22 g23 => (if x21 ≤ x20 then some (x21, g23) else some (x20, g23)))))))))

set_option maxRecDepth 100000 in
set_option maxHeartbeats 4000000 in
theorem l_M_greatest_L26 {p : Program} {e : Env} {s : State} {m : MethodId} {below : List Frame} {meth : Method} {c : Code} {D : va_G} {ad : Nat → Nat} {ca : Nat → ClassId} (l : Launch) (fu : Nat) (p1 : Int32) (X : xX p s m ([.ref (ad 36), .int p1] : List Value).toArray meth c b_M_greatest "CrossDockModel" 5 (some .int) D ad ca) (hno : c.exceptionTable.toList = []) {Q : State → Prop} : ∀ (n : Nat) (a2 : Int32) (a3 : Int32) (a4 : Int32) (g : xSt) (a2' : Int32) (a3' : Int32) (a4' : Int32) (g' : xSt), f_M_greatest_L26 fu p1 n a2 a3 a4 g = some (a2', a3', a4', g') → xV p l e ({ frames := 1, cells := 0, slots := 0, locals := 21 } : Room) s m ([.ref (ad 36), .int p1] : List Value).toArray below meth c D xcl (wX ad ca) (xA (wX ad ca) s.heap.size) 5 0 0 Q g' 98 [(4, .int a4'), (3, .int a3'), (2, .int a2'), (0, .ref (ad 36)), (1, .int p1)] [] → xV p l e ({ frames := 1, cells := 0, slots := 0, locals := 21 } : Room) s m ([.ref (ad 36), .int p1] : List Value).toArray below meth c D xcl (wX ad ca) (xA (wX ad ca) s.heap.size) 5 0 0 Q g 26 [(4, .int a4), (3, .int a3), (2, .int a2), (0, .ref (ad 36)), (1, .int p1)] [] := by
  intro n
  induction n with
  | zero =>
    intro a2 a3 a4 g a2' a3' a4' g' hf
    rw [f_M_greatest_L26] at hf
    cases hf
  | succ n ih =>
    intro a2 a3 a4 g a2' a3' a4' g' hf hk
    rw [f_M_greatest_L26] at hf
    refine v_iload X.1 d_M_greatest_26 0 rfl ?_
    refine v_iload_n X.1 d_M_greatest_28 rfl 4 rfl ?_
    refine v_icmp_ge X.1 (tgt := 98) d_M_greatest_29 (by decide) (fun c7 => ?_) (fun c7 => ?_)
    · rw [if_pos c7] at hf
      cases hf
      refine v_sub [0, 1, 2, 3, 4] rfl ?_
      exact hk
    · rw [if_neg c7] at hf
      refine v_iload_n X.1 d_M_greatest_32 rfl 2 rfl ?_
      refine v_aload_n X.1 d_M_greatest_33 rfl 3 rfl ?_
      refine v_get X.1 (ci := 5) ⟨in_M, rfl⟩ 36 rfl 23 (by decide) (X.t tw_651 rfl) rfl d_M_greatest_34 ?_
      refine v_iload X.1 d_M_greatest_37 0 rfl ?_
      obtain ⟨hb8, hf⟩ := oi_none hf
      refine v_iald X.1 53 0 rfl rfl hb8 d_M_greatest_39 ?_
      refine v_aload_n X.1 d_M_greatest_40 rfl 3 rfl ?_
      refine v_get X.1 (ci := 5) ⟨in_M, rfl⟩ 36 rfl 23 (by decide) (X.t tw_651 rfl) rfl d_M_greatest_41 ?_
      refine v_iload_n X.1 d_M_greatest_44 rfl 4 rfl ?_
      obtain ⟨hb9, hf⟩ := oi_none hf
      refine v_iald X.1 53 0 rfl rfl hb9 d_M_greatest_45 ?_
      refine v_icmp_ne X.1 (tgt := 59) d_M_greatest_46 (by decide) (fun c10 => ?_) (fun c10 => ?_)
      · rw [if_neg c10] at hf
        refine v_iconst X.1 (v := (0 : Int32)) d_M_greatest_59 (by decide) ?_
        refine v_isub X.1 d_M_greatest_60 ?_
        refine v_istore_n X.1 (lv' := [(2, .int (a2 - ((0 : Int32)))), (4, .int a4), (3, .int a3), (0, .ref (ad 36)), (1, .int p1)]) d_M_greatest_61 rfl (by decide) rfl ?_
        refine v_iload_n X.1 d_M_greatest_62 rfl 2 rfl ?_
        refine v_aload_n X.1 d_M_greatest_63 rfl 3 rfl ?_
        refine v_get X.1 (ci := 5) ⟨in_M, rfl⟩ 36 rfl 24 (by decide) (X.t tw_652 rfl) rfl d_M_greatest_64 ?_
        refine v_iload X.1 d_M_greatest_67 1 rfl ?_
        obtain ⟨hb11, hf⟩ := oi_none hf
        refine v_iald X.1 54 0 rfl rfl hb11 d_M_greatest_69 ?_
        refine v_aload_n X.1 d_M_greatest_70 rfl 3 rfl ?_
        refine v_get X.1 (ci := 5) ⟨in_M, rfl⟩ 36 rfl 24 (by decide) (X.t tw_652 rfl) rfl d_M_greatest_71 ?_
        refine v_iload_n X.1 d_M_greatest_74 rfl 4 rfl ?_
        obtain ⟨hb12, hf⟩ := oi_none hf
        refine v_iald X.1 54 0 rfl rfl hb12 d_M_greatest_75 ?_
        refine v_icmp_ne X.1 (tgt := 89) d_M_greatest_76 (by decide) (fun c13 => ?_) (fun c13 => ?_)
        · rw [if_neg c13] at hf
          refine v_iconst X.1 (v := (0 : Int32)) d_M_greatest_89 (by decide) ?_
          refine v_isub X.1 d_M_greatest_90 ?_
          refine v_istore_n X.1 (lv' := [(3, .int (a3 - ((0 : Int32)))), (2, .int (a2 - ((0 : Int32)))), (4, .int a4), (0, .ref (ad 36)), (1, .int p1)]) d_M_greatest_91 rfl (by decide) rfl ?_
          refine v_iinc X.1 (k0 := 2) (v := a4 + (1 : Int32)) (lv' := [(4, .int (a4 + (1 : Int32))), (3, .int (a3 - ((0 : Int32)))), (2, .int (a2 - ((0 : Int32)))), (0, .ref (ad 36)), (1, .int p1)]) d_M_greatest_92 rfl rfl (by decide) rfl ?_
          refine v_goto X.1 (tgt := 26) d_M_greatest_95 (by decide) ?_
          refine v_sub [0, 1, 2, 3, 4] rfl ?_
          exact ih _ _ _ _ _ _ _ _ hf hk
        · rw [if_pos c13] at hf
          refine v_aload_n X.1 d_M_greatest_79 rfl 3 rfl ?_
          refine v_get X.1 (ci := 5) ⟨in_M, rfl⟩ 36 rfl 25 (by decide) (X.t tw_653 rfl) rfl d_M_greatest_80 ?_
          refine v_iload X.1 d_M_greatest_83 1 rfl ?_
          obtain ⟨hb14, hf⟩ := oi_none hf
          refine v_iald X.1 55 0 rfl rfl hb14 d_M_greatest_85 ?_
          refine v_goto X.1 (tgt := 90) d_M_greatest_86 (by decide) ?_
          refine v_isub X.1 d_M_greatest_90 ?_
          refine v_istore_n X.1 (lv' := [(3, .int (a3 - (g 65 a4.toNatClampNeg))), (2, .int (a2 - ((0 : Int32)))), (4, .int a4), (0, .ref (ad 36)), (1, .int p1)]) d_M_greatest_91 rfl (by decide) rfl ?_
          refine v_iinc X.1 (k0 := 2) (v := a4 + (1 : Int32)) (lv' := [(4, .int (a4 + (1 : Int32))), (3, .int (a3 - (g 65 a4.toNatClampNeg))), (2, .int (a2 - ((0 : Int32)))), (0, .ref (ad 36)), (1, .int p1)]) d_M_greatest_92 rfl rfl (by decide) rfl ?_
          refine v_goto X.1 (tgt := 26) d_M_greatest_95 (by decide) ?_
          refine v_sub [0, 1, 2, 3, 4] rfl ?_
          exact ih _ _ _ _ _ _ _ _ hf hk
      · rw [if_pos c10] at hf
        refine v_aload_n X.1 d_M_greatest_49 rfl 3 rfl ?_
        refine v_get X.1 (ci := 5) ⟨in_M, rfl⟩ 36 rfl 25 (by decide) (X.t tw_653 rfl) rfl d_M_greatest_50 ?_
        refine v_iload X.1 d_M_greatest_53 0 rfl ?_
        obtain ⟨hb15, hf⟩ := oi_none hf
        refine v_iald X.1 55 0 rfl rfl hb15 d_M_greatest_55 ?_
        refine v_goto X.1 (tgt := 60) d_M_greatest_56 (by decide) ?_
        refine v_isub X.1 d_M_greatest_60 ?_
        refine v_istore_n X.1 (lv' := [(2, .int (a2 - (g 65 a4.toNatClampNeg))), (4, .int a4), (3, .int a3), (0, .ref (ad 36)), (1, .int p1)]) d_M_greatest_61 rfl (by decide) rfl ?_
        refine v_iload_n X.1 d_M_greatest_62 rfl 2 rfl ?_
        refine v_aload_n X.1 d_M_greatest_63 rfl 3 rfl ?_
        refine v_get X.1 (ci := 5) ⟨in_M, rfl⟩ 36 rfl 24 (by decide) (X.t tw_652 rfl) rfl d_M_greatest_64 ?_
        refine v_iload X.1 d_M_greatest_67 1 rfl ?_
        obtain ⟨hb16, hf⟩ := oi_none hf
        refine v_iald X.1 54 0 rfl rfl hb16 d_M_greatest_69 ?_
        refine v_aload_n X.1 d_M_greatest_70 rfl 3 rfl ?_
        refine v_get X.1 (ci := 5) ⟨in_M, rfl⟩ 36 rfl 24 (by decide) (X.t tw_652 rfl) rfl d_M_greatest_71 ?_
        refine v_iload_n X.1 d_M_greatest_74 rfl 4 rfl ?_
        obtain ⟨hb17, hf⟩ := oi_none hf
        refine v_iald X.1 54 0 rfl rfl hb17 d_M_greatest_75 ?_
        refine v_icmp_ne X.1 (tgt := 89) d_M_greatest_76 (by decide) (fun c18 => ?_) (fun c18 => ?_)
        · rw [if_neg c18] at hf
          refine v_iconst X.1 (v := (0 : Int32)) d_M_greatest_89 (by decide) ?_
          refine v_isub X.1 d_M_greatest_90 ?_
          refine v_istore_n X.1 (lv' := [(3, .int (a3 - ((0 : Int32)))), (2, .int (a2 - (g 65 a4.toNatClampNeg))), (4, .int a4), (0, .ref (ad 36)), (1, .int p1)]) d_M_greatest_91 rfl (by decide) rfl ?_
          refine v_iinc X.1 (k0 := 2) (v := a4 + (1 : Int32)) (lv' := [(4, .int (a4 + (1 : Int32))), (3, .int (a3 - ((0 : Int32)))), (2, .int (a2 - (g 65 a4.toNatClampNeg))), (0, .ref (ad 36)), (1, .int p1)]) d_M_greatest_92 rfl rfl (by decide) rfl ?_
          refine v_goto X.1 (tgt := 26) d_M_greatest_95 (by decide) ?_
          refine v_sub [0, 1, 2, 3, 4] rfl ?_
          exact ih _ _ _ _ _ _ _ _ hf hk
        · rw [if_pos c18] at hf
          refine v_aload_n X.1 d_M_greatest_79 rfl 3 rfl ?_
          refine v_get X.1 (ci := 5) ⟨in_M, rfl⟩ 36 rfl 25 (by decide) (X.t tw_653 rfl) rfl d_M_greatest_80 ?_
          refine v_iload X.1 d_M_greatest_83 1 rfl ?_
          obtain ⟨hb19, hf⟩ := oi_none hf
          refine v_iald X.1 55 0 rfl rfl hb19 d_M_greatest_85 ?_
          refine v_goto X.1 (tgt := 90) d_M_greatest_86 (by decide) ?_
          refine v_isub X.1 d_M_greatest_90 ?_
          refine v_istore_n X.1 (lv' := [(3, .int (a3 - (g 65 a4.toNatClampNeg))), (2, .int (a2 - (g 65 a4.toNatClampNeg))), (4, .int a4), (0, .ref (ad 36)), (1, .int p1)]) d_M_greatest_91 rfl (by decide) rfl ?_
          refine v_iinc X.1 (k0 := 2) (v := a4 + (1 : Int32)) (lv' := [(4, .int (a4 + (1 : Int32))), (3, .int (a3 - (g 65 a4.toNatClampNeg))), (2, .int (a2 - (g 65 a4.toNatClampNeg))), (0, .ref (ad 36)), (1, .int p1)]) d_M_greatest_92 rfl rfl (by decide) rfl ?_
          refine v_goto X.1 (tgt := 26) d_M_greatest_95 (by decide) ?_
          refine v_sub [0, 1, 2, 3, 4] rfl ?_
          exact ih _ _ _ _ _ _ _ _ hf hk

set_option maxRecDepth 100000 in
set_option maxHeartbeats 4000000 in
theorem c_M_greatest (l : Launch) (fu : Nat) (p1 : Int32) (g : xSt) (r : Int32) (g' : xSt) (hf : f_M_greatest fu p1 g = some (r, g')) : xM l y_M_greatest (.code y_M_greatest b_M_greatest 5 (some .int)) ({ frames := 1, cells := 0, slots := 0, locals := 21 } : Room) (fun ad => [.ref (ad 36), .int p1]) g (.inl (some (.int r))) g' 0 0 := by
  refine x_contract (by decide) (fun _ => Nat.le_of_ble_eq_true rfl) ?_
  intro p e s m below meth c D ad ca X hno
  unfold f_M_greatest at hf
  refine v_aload_n X.1 d_M_greatest_0 rfl 0 rfl ?_
  refine v_aload_n X.1 d_M_greatest_1 rfl 0 rfl ?_
  refine v_get X.1 (ci := 5) ⟨in_M, rfl⟩ 36 rfl 23 (by decide) (X.t tw_651 rfl) rfl d_M_greatest_2 ?_
  refine v_iload_n X.1 d_M_greatest_5 rfl 1 rfl ?_
  obtain ⟨hb1, hf⟩ := oi_none hf
  refine v_iald X.1 53 0 rfl rfl hb1 d_M_greatest_6 ?_
  obtain ⟨r3, g4, hc2, hf⟩ := ob2_some hf
  refine v_backI X.1 (x_runV X (c_M_has l (g 63 p1.toNatClampNeg) _ _ _ hc2) rfl tw_799 tw_57 tw_796 tw_798 tw_44 36 5 rfl rfl rfl ⟨rfl, rfl, by decide, by decide⟩ ⟨by decide, by show _ = some 1; decide⟩ (rest := []) rfl (Nat.le_of_ble_eq_true rfl) d_M_greatest_7 (by decide) (by decide)) ?_
  refine v_istore_n X.1 (lv' := [(2, .int r3), (0, .ref (ad 36)), (1, .int p1)]) d_M_greatest_10 rfl (by decide) rfl ?_
  refine v_aload_n X.1 d_M_greatest_11 rfl 1 rfl ?_
  refine v_get X.1 (ci := 5) ⟨in_M, rfl⟩ 36 rfl 9 (by decide) (X.t tw_637 rfl) rfl d_M_greatest_12 ?_
  refine v_aload_n X.1 d_M_greatest_15 rfl 1 rfl ?_
  refine v_get X.1 (ci := 5) ⟨in_M, rfl⟩ 36 rfl 24 (by decide) (X.t tw_652 rfl) rfl d_M_greatest_16 ?_
  refine v_iload_n X.1 d_M_greatest_19 rfl 2 rfl ?_
  obtain ⟨hb5, hf⟩ := oi_none hf
  refine v_iald X.1 54 0 rfl rfl hb5 d_M_greatest_20 ?_
  obtain ⟨hb6, hf⟩ := oi_none hf
  refine v_iald X.1 43 0 rfl rfl hb6 d_M_greatest_21 ?_
  refine v_istore_n X.1 (lv' := [(3, .int (g4 53 (g4 64 p1.toNatClampNeg).toNatClampNeg)), (2, .int r3), (0, .ref (ad 36)), (1, .int p1)]) d_M_greatest_22 rfl (by decide) rfl ?_
  refine v_iconst X.1 (v := (0 : Int32)) d_M_greatest_23 (by decide) ?_
  refine v_istore X.1 (lv' := [(4, .int ((0 : Int32))), (3, .int (g4 53 (g4 64 p1.toNatClampNeg).toNatClampNeg)), (2, .int r3), (0, .ref (ad 36)), (1, .int p1)]) d_M_greatest_24 (by decide) rfl ?_
  obtain ⟨x20, x21, x22, g23, hL24, hf⟩ := ob4_some hf
  refine l_M_greatest_L26 l fu p1 X hno fu _ _ _ _ _ _ _ _ hL24 ?_
  refine v_iload_n X.1 d_M_greatest_98 rfl 2 rfl ?_
  refine v_iload_n X.1 d_M_greatest_99 rfl 1 rfl ?_
  refine v_icmp_ge X.1 (tgt := 107) d_M_greatest_100 (by decide) (fun c25 => ?_) (fun c25 => ?_)
  · rw [if_pos c25] at hf
    refine v_iload_n X.1 d_M_greatest_107 rfl 1 rfl ?_
    cases hf
    exact v_iret X.1 X.2.2.1 rfl d_M_greatest_108 X.2.2.2.1 (by decide) (by decide)
  · rw [if_neg c25] at hf
    refine v_iload_n X.1 d_M_greatest_103 rfl 2 rfl ?_
    refine v_goto X.1 (tgt := 108) d_M_greatest_104 (by decide) ?_
    cases hf
    exact v_iret X.1 X.2.2.1 rfl d_M_greatest_108 X.2.2.2.1 (by decide) (by decide)

def f_M_worth_L2 (fu : Nat) : Nat → Int32 → xSt → Option (Int32 × xSt)
  | 0, _, _ => none
  | n + 1, a1, g => (if ((8 : Int32)) ≤ a1 then some (a1, g) else (if a1 < 0 ∨ 8 ≤ a1.toNatClampNeg then none else (Option.bind (some (xw g 67 a1.toNatClampNeg ((0 : Int32)))) (fun g3 => f_M_worth_L2 fu n (a1 + (1 : Int32)) g3))))

def f_M_worth_L25 (fu : Nat) : Nat → Int32 → Int32 → xSt → Option (Int32 × Int32 × xSt)
  | 0, _, _, _ => none
  | n + 1, a1, a2, g => (if (g 46 0) ≤ a2 then some (a1, a2, g) else (if a2 < 0 ∨ 64 ≤ a2.toNatClampNeg then none else (if (g 64 a2.toNatClampNeg) < 0 ∨ 8 ≤ (g 64 a2.toNatClampNeg).toNatClampNeg then none else (if a2 < 0 ∨ 65 ≤ a2.toNatClampNeg then none else (if (g 64 a2.toNatClampNeg) < 0 ∨ 8 ≤ (g 64 a2.toNatClampNeg).toNatClampNeg then none else (Option.bind (some (xw g 67 (g 64 a2.toNatClampNeg).toNatClampNeg ((g 67 (g 64 a2.toNatClampNeg).toNatClampNeg) + (g 65 a2.toNatClampNeg)))) (fun g13 => (if a2 < 0 ∨ 65 ≤ a2.toNatClampNeg then none else (if a2 < 0 ∨ 65 ≤ a2.toNatClampNeg then none else (if (g13 65 a2.toNatClampNeg) ≤ 0 then f_M_worth_L25 fu n (a1 + ((((2 : Int32)) * (g13 65 a2.toNatClampNeg)) + ((0 : Int32)))) (a2 + (1 : Int32)) g13 else (if a2 < 0 ∨ 65 ≤ a2.toNatClampNeg then none else (if a2 < 0 ∨ 64 ≤ a2.toNatClampNeg then none else (ob2 (f_M_has (g13 63 a2.toNatClampNeg) g13) (fun r21 g22 => (if (g13 65 a2.toNatClampNeg) = r21 then f_M_worth_L25 fu n (a1 + ((((2 : Int32)) * (g13 65 a2.toNatClampNeg)) + ((1 : Int32)))) (a2 + (1 : Int32)) g22 else f_M_worth_L25 fu n (a1 + ((((2 : Int32)) * (g13 65 a2.toNatClampNeg)) + ((0 : Int32)))) (a2 + (1 : Int32)) g22)))))))))))))))

def f_M_worth_L106 (fu : Nat) : Nat → Int32 → Int32 → xSt → Option (Int32 × Int32 × xSt)
  | 0, _, _, _ => none
  | n + 1, a1, a2, g => (if (g 42 0) ≤ a2 then some (a1, a2, g) else (if a2 < 0 ∨ 8 ≤ a2.toNatClampNeg then none else (if a2 < 0 ∨ 8 ≤ a2.toNatClampNeg then none else (if (g 67 a2.toNatClampNeg) = (g 53 a2.toNatClampNeg) then f_M_worth_L106 fu n (a1 + ((3 : Int32))) (a2 + (1 : Int32)) g else f_M_worth_L106 fu n (a1 + ((0 : Int32))) (a2 + (1 : Int32)) g))))

def f_M_worth (fu : Nat) (g : xSt) : Option (Int32 × xSt) := (ob2 (f_M_worth_L2 fu fu ((0 : Int32)) g) (fun x5 g6 => (ob3 (f_M_worth_L25 fu fu ((0 : Int32)) ((0 : Int32)) g6) (fun x24 x25 g26 => (ob3 (f_M_worth_L106 fu fu x24 ((0 : Int32)) g26) (fun x32 x33 g34 => some (x32, g34)))))))

set_option maxRecDepth 100000 in
set_option maxHeartbeats 4000000 in
theorem l_M_worth_L2 {p : Program} {e : Env} {s : State} {m : MethodId} {below : List Frame} {meth : Method} {c : Code} {D : va_G} {ad : Nat → Nat} {ca : Nat → ClassId} (l : Launch) (fu : Nat) (X : xX p s m ([.ref (ad 36)] : List Value).toArray meth c b_M_worth "CrossDockModel" 3 (some .int) D ad ca) (hno : c.exceptionTable.toList = []) {Q : State → Prop} : ∀ (n : Nat) (a1 : Int32) (g : xSt) (a1' : Int32) (g' : xSt), f_M_worth_L2 fu n a1 g = some (a1', g') → xV p l e ({ frames := 1, cells := 0, slots := 0, locals := 21 } : Room) s m ([.ref (ad 36)] : List Value).toArray below meth c D xcl (wX ad ca) (xA (wX ad ca) s.heap.size) 3 0 0 Q g' 21 [(1, .int a1'), (0, .ref (ad 36))] [] → xV p l e ({ frames := 1, cells := 0, slots := 0, locals := 21 } : Room) s m ([.ref (ad 36)] : List Value).toArray below meth c D xcl (wX ad ca) (xA (wX ad ca) s.heap.size) 3 0 0 Q g 2 [(1, .int a1), (0, .ref (ad 36))] [] := by
  intro n
  induction n with
  | zero =>
    intro a1 g a1' g' hf
    rw [f_M_worth_L2] at hf
    cases hf
  | succ n ih =>
    intro a1 g a1' g' hf hk
    rw [f_M_worth_L2] at hf
    refine v_iload_n X.1 d_M_worth_2 rfl 0 rfl ?_
    refine v_bipush X.1 (v := (8 : Int32)) d_M_worth_3 (by decide) ?_
    refine v_icmp_ge X.1 (tgt := 21) d_M_worth_5 (by decide) (fun c1 => ?_) (fun c1 => ?_)
    · rw [if_pos c1] at hf
      cases hf
      refine v_sub [0, 1] rfl ?_
      exact hk
    · rw [if_neg c1] at hf
      refine v_aload_n X.1 d_M_worth_8 rfl 1 rfl ?_
      refine v_get X.1 (ci := 5) ⟨in_M, rfl⟩ 36 rfl 27 (by decide) (X.t tw_655 rfl) rfl d_M_worth_9 ?_
      refine v_iload_n X.1 d_M_worth_12 rfl 0 rfl ?_
      refine v_iconst X.1 (v := (0 : Int32)) d_M_worth_13 (by decide) ?_
      obtain ⟨hb2, hf⟩ := oi_none hf
      obtain ⟨g3, eg4, hf⟩ := ob_some hf
      refine v_iast X.1 57 0 rfl rfl hb2 ((sa_67 ad ca _ _ _).trans (congrArg (wX ad ca) (Option.some.inj eg4))) d_M_worth_14 ?_
      refine v_iinc X.1 (k0 := 0) (v := a1 + (1 : Int32)) (lv' := [(1, .int (a1 + (1 : Int32))), (0, .ref (ad 36))]) d_M_worth_15 rfl rfl (by decide) rfl ?_
      refine v_goto X.1 (tgt := 2) d_M_worth_18 (by decide) ?_
      refine v_sub [0, 1] rfl ?_
      exact ih _ _ _ _ hf hk

set_option maxRecDepth 100000 in
set_option maxHeartbeats 4000000 in
theorem l_M_worth_L25 {p : Program} {e : Env} {s : State} {m : MethodId} {below : List Frame} {meth : Method} {c : Code} {D : va_G} {ad : Nat → Nat} {ca : Nat → ClassId} (l : Launch) (fu : Nat) (X : xX p s m ([.ref (ad 36)] : List Value).toArray meth c b_M_worth "CrossDockModel" 3 (some .int) D ad ca) (hno : c.exceptionTable.toList = []) {Q : State → Prop} : ∀ (n : Nat) (a1 : Int32) (a2 : Int32) (g : xSt) (a1' : Int32) (a2' : Int32) (g' : xSt), f_M_worth_L25 fu n a1 a2 g = some (a1', a2', g') → xV p l e ({ frames := 1, cells := 0, slots := 0, locals := 21 } : Room) s m ([.ref (ad 36)] : List Value).toArray below meth c D xcl (wX ad ca) (xA (wX ad ca) s.heap.size) 3 0 0 Q g' 104 [(2, .int a2'), (1, .int a1'), (0, .ref (ad 36))] [] → xV p l e ({ frames := 1, cells := 0, slots := 0, locals := 21 } : Room) s m ([.ref (ad 36)] : List Value).toArray below meth c D xcl (wX ad ca) (xA (wX ad ca) s.heap.size) 3 0 0 Q g 25 [(2, .int a2), (1, .int a1), (0, .ref (ad 36))] [] := by
  intro n
  induction n with
  | zero =>
    intro a1 a2 g a1' a2' g' hf
    rw [f_M_worth_L25] at hf
    cases hf
  | succ n ih =>
    intro a1 a2 g a1' a2' g' hf hk
    rw [f_M_worth_L25] at hf
    refine v_iload_n X.1 d_M_worth_25 rfl 0 rfl ?_
    refine v_aload_n X.1 d_M_worth_26 rfl 2 rfl ?_
    refine v_get X.1 (ci := 5) ⟨in_M, rfl⟩ 36 rfl 22 (by decide) (X.t tw_650 rfl) rfl d_M_worth_27 ?_
    refine v_icmp_ge X.1 (tgt := 104) d_M_worth_30 (by decide) (fun c8 => ?_) (fun c8 => ?_)
    · rw [if_pos c8] at hf
      cases hf
      refine v_sub [0, 1, 2] rfl ?_
      exact hk
    · rw [if_neg c8] at hf
      refine v_aload_n X.1 d_M_worth_33 rfl 2 rfl ?_
      refine v_get X.1 (ci := 5) ⟨in_M, rfl⟩ 36 rfl 27 (by decide) (X.t tw_655 rfl) rfl d_M_worth_34 ?_
      refine v_aload_n X.1 d_M_worth_37 rfl 2 rfl ?_
      refine v_get X.1 (ci := 5) ⟨in_M, rfl⟩ 36 rfl 24 (by decide) (X.t tw_652 rfl) rfl d_M_worth_38 ?_
      refine v_iload_n X.1 d_M_worth_41 rfl 0 rfl ?_
      obtain ⟨hb9, hf⟩ := oi_none hf
      refine v_iald X.1 54 0 rfl rfl hb9 d_M_worth_42 ?_
      refine v_dup2 X.1 d_M_worth_43 rfl rfl ?_
      obtain ⟨hb10, hf⟩ := oi_none hf
      refine v_iald X.1 57 0 rfl rfl hb10 d_M_worth_44 ?_
      refine v_aload_n X.1 d_M_worth_45 rfl 2 rfl ?_
      refine v_get X.1 (ci := 5) ⟨in_M, rfl⟩ 36 rfl 25 (by decide) (X.t tw_653 rfl) rfl d_M_worth_46 ?_
      refine v_iload_n X.1 d_M_worth_49 rfl 0 rfl ?_
      obtain ⟨hb11, hf⟩ := oi_none hf
      refine v_iald X.1 55 0 rfl rfl hb11 d_M_worth_50 ?_
      refine v_iadd X.1 d_M_worth_51 ?_
      obtain ⟨hb12, hf⟩ := oi_none hf
      obtain ⟨g13, eg14, hf⟩ := ob_some hf
      refine v_iast X.1 57 0 rfl rfl hb12 ((sa_67 ad ca _ _ _).trans (congrArg (wX ad ca) (Option.some.inj eg14))) d_M_worth_52 ?_
      refine v_iload_n X.1 d_M_worth_53 rfl 1 rfl ?_
      refine v_iconst X.1 (v := (2 : Int32)) d_M_worth_54 (by decide) ?_
      refine v_aload_n X.1 d_M_worth_55 rfl 2 rfl ?_
      refine v_get X.1 (ci := 5) ⟨in_M, rfl⟩ 36 rfl 25 (by decide) (X.t tw_653 rfl) rfl d_M_worth_56 ?_
      refine v_iload_n X.1 d_M_worth_59 rfl 0 rfl ?_
      obtain ⟨hb15, hf⟩ := oi_none hf
      refine v_iald X.1 55 0 rfl rfl hb15 d_M_worth_60 ?_
      refine v_imul X.1 d_M_worth_61 ?_
      refine v_aload_n X.1 d_M_worth_62 rfl 2 rfl ?_
      refine v_get X.1 (ci := 5) ⟨in_M, rfl⟩ 36 rfl 25 (by decide) (X.t tw_653 rfl) rfl d_M_worth_63 ?_
      refine v_iload_n X.1 d_M_worth_66 rfl 0 rfl ?_
      obtain ⟨hb16, hf⟩ := oi_none hf
      refine v_iald X.1 55 0 rfl rfl hb16 d_M_worth_67 ?_
      refine v_if_le X.1 (tgt := 94) d_M_worth_68 (by decide) (fun c17 => ?_) (fun c17 => ?_)
      · rw [if_pos c17] at hf
        refine v_iconst X.1 (v := (0 : Int32)) d_M_worth_94 (by decide) ?_
        refine v_iadd X.1 d_M_worth_95 ?_
        refine v_iadd X.1 d_M_worth_96 ?_
        refine v_istore_n X.1 (lv' := [(1, .int (a1 + ((((2 : Int32)) * (g13 65 a2.toNatClampNeg)) + ((0 : Int32))))), (2, .int a2), (0, .ref (ad 36))]) d_M_worth_97 rfl (by decide) rfl ?_
        refine v_iinc X.1 (k0 := 1) (v := a2 + (1 : Int32)) (lv' := [(2, .int (a2 + (1 : Int32))), (1, .int (a1 + ((((2 : Int32)) * (g13 65 a2.toNatClampNeg)) + ((0 : Int32))))), (0, .ref (ad 36))]) d_M_worth_98 rfl rfl (by decide) rfl ?_
        refine v_goto X.1 (tgt := 25) d_M_worth_101 (by decide) ?_
        refine v_sub [0, 1, 2] rfl ?_
        exact ih _ _ _ _ _ _ hf hk
      · rw [if_neg c17] at hf
        refine v_aload_n X.1 d_M_worth_71 rfl 2 rfl ?_
        refine v_get X.1 (ci := 5) ⟨in_M, rfl⟩ 36 rfl 25 (by decide) (X.t tw_653 rfl) rfl d_M_worth_72 ?_
        refine v_iload_n X.1 d_M_worth_75 rfl 0 rfl ?_
        obtain ⟨hb18, hf⟩ := oi_none hf
        refine v_iald X.1 55 0 rfl rfl hb18 d_M_worth_76 ?_
        refine v_aload_n X.1 d_M_worth_77 rfl 2 rfl ?_
        refine v_aload_n X.1 d_M_worth_78 rfl 2 rfl ?_
        refine v_get X.1 (ci := 5) ⟨in_M, rfl⟩ 36 rfl 23 (by decide) (X.t tw_651 rfl) rfl d_M_worth_79 ?_
        refine v_iload_n X.1 d_M_worth_82 rfl 0 rfl ?_
        obtain ⟨hb19, hf⟩ := oi_none hf
        refine v_iald X.1 53 0 rfl rfl hb19 d_M_worth_83 ?_
        obtain ⟨r21, g22, hc20, hf⟩ := ob2_some hf
        refine v_backI X.1 (x_runV X (c_M_has l (g13 63 a2.toNatClampNeg) _ _ _ hc20) rfl tw_799 tw_57 tw_796 tw_798 tw_44 36 5 rfl rfl rfl ⟨rfl, rfl, by decide, by decide⟩ ⟨by decide, by show _ = some 1; decide⟩ (rest := [.int (g13 65 a2.toNatClampNeg), .int (((2 : Int32)) * (g13 65 a2.toNatClampNeg)), .int a1]) rfl (Nat.le_of_ble_eq_true rfl) d_M_worth_84 (by decide) (by decide)) ?_
        refine v_icmp_ne X.1 (tgt := 94) d_M_worth_87 (by decide) (fun c23 => ?_) (fun c23 => ?_)
        · rw [if_neg c23] at hf
          refine v_iconst X.1 (v := (0 : Int32)) d_M_worth_94 (by decide) ?_
          refine v_iadd X.1 d_M_worth_95 ?_
          refine v_iadd X.1 d_M_worth_96 ?_
          refine v_istore_n X.1 (lv' := [(1, .int (a1 + ((((2 : Int32)) * (g13 65 a2.toNatClampNeg)) + ((0 : Int32))))), (2, .int a2), (0, .ref (ad 36))]) d_M_worth_97 rfl (by decide) rfl ?_
          refine v_iinc X.1 (k0 := 1) (v := a2 + (1 : Int32)) (lv' := [(2, .int (a2 + (1 : Int32))), (1, .int (a1 + ((((2 : Int32)) * (g13 65 a2.toNatClampNeg)) + ((0 : Int32))))), (0, .ref (ad 36))]) d_M_worth_98 rfl rfl (by decide) rfl ?_
          refine v_goto X.1 (tgt := 25) d_M_worth_101 (by decide) ?_
          refine v_sub [0, 1, 2] rfl ?_
          exact ih _ _ _ _ _ _ hf hk
        · rw [if_pos c23] at hf
          refine v_iconst X.1 (v := (1 : Int32)) d_M_worth_90 (by decide) ?_
          refine v_goto X.1 (tgt := 95) d_M_worth_91 (by decide) ?_
          refine v_iadd X.1 d_M_worth_95 ?_
          refine v_iadd X.1 d_M_worth_96 ?_
          refine v_istore_n X.1 (lv' := [(1, .int (a1 + ((((2 : Int32)) * (g13 65 a2.toNatClampNeg)) + ((1 : Int32))))), (2, .int a2), (0, .ref (ad 36))]) d_M_worth_97 rfl (by decide) rfl ?_
          refine v_iinc X.1 (k0 := 1) (v := a2 + (1 : Int32)) (lv' := [(2, .int (a2 + (1 : Int32))), (1, .int (a1 + ((((2 : Int32)) * (g13 65 a2.toNatClampNeg)) + ((1 : Int32))))), (0, .ref (ad 36))]) d_M_worth_98 rfl rfl (by decide) rfl ?_
          refine v_goto X.1 (tgt := 25) d_M_worth_101 (by decide) ?_
          refine v_sub [0, 1, 2] rfl ?_
          exact ih _ _ _ _ _ _ hf hk

set_option maxRecDepth 100000 in
set_option maxHeartbeats 4000000 in
theorem l_M_worth_L106 {p : Program} {e : Env} {s : State} {m : MethodId} {below : List Frame} {meth : Method} {c : Code} {D : va_G} {ad : Nat → Nat} {ca : Nat → ClassId} (l : Launch) (fu : Nat) (X : xX p s m ([.ref (ad 36)] : List Value).toArray meth c b_M_worth "CrossDockModel" 3 (some .int) D ad ca) (hno : c.exceptionTable.toList = []) {Q : State → Prop} : ∀ (n : Nat) (a1 : Int32) (a2 : Int32) (g : xSt) (a1' : Int32) (a2' : Int32) (g' : xSt), f_M_worth_L106 fu n a1 a2 g = some (a1', a2', g') → xV p l e ({ frames := 1, cells := 0, slots := 0, locals := 21 } : Room) s m ([.ref (ad 36)] : List Value).toArray below meth c D xcl (wX ad ca) (xA (wX ad ca) s.heap.size) 3 0 0 Q g' 143 [(2, .int a2'), (1, .int a1'), (0, .ref (ad 36))] [] → xV p l e ({ frames := 1, cells := 0, slots := 0, locals := 21 } : Room) s m ([.ref (ad 36)] : List Value).toArray below meth c D xcl (wX ad ca) (xA (wX ad ca) s.heap.size) 3 0 0 Q g 106 [(2, .int a2), (1, .int a1), (0, .ref (ad 36))] [] := by
  intro n
  induction n with
  | zero =>
    intro a1 a2 g a1' a2' g' hf
    rw [f_M_worth_L106] at hf
    cases hf
  | succ n ih =>
    intro a1 a2 g a1' a2' g' hf hk
    rw [f_M_worth_L106] at hf
    refine v_iload_n X.1 d_M_worth_106 rfl 0 rfl ?_
    refine v_aload_n X.1 d_M_worth_107 rfl 2 rfl ?_
    refine v_get X.1 (ci := 5) ⟨in_M, rfl⟩ 36 rfl 7 (by decide) (X.t tw_635 rfl) rfl d_M_worth_108 ?_
    refine v_icmp_ge X.1 (tgt := 143) d_M_worth_111 (by decide) (fun c28 => ?_) (fun c28 => ?_)
    · rw [if_pos c28] at hf
      cases hf
      refine v_sub [0, 1, 2] rfl ?_
      exact hk
    · rw [if_neg c28] at hf
      refine v_iload_n X.1 d_M_worth_114 rfl 1 rfl ?_
      refine v_aload_n X.1 d_M_worth_115 rfl 2 rfl ?_
      refine v_get X.1 (ci := 5) ⟨in_M, rfl⟩ 36 rfl 27 (by decide) (X.t tw_655 rfl) rfl d_M_worth_116 ?_
      refine v_iload_n X.1 d_M_worth_119 rfl 0 rfl ?_
      obtain ⟨hb29, hf⟩ := oi_none hf
      refine v_iald X.1 57 0 rfl rfl hb29 d_M_worth_120 ?_
      refine v_aload_n X.1 d_M_worth_121 rfl 2 rfl ?_
      refine v_get X.1 (ci := 5) ⟨in_M, rfl⟩ 36 rfl 9 (by decide) (X.t tw_637 rfl) rfl d_M_worth_122 ?_
      refine v_iload_n X.1 d_M_worth_125 rfl 0 rfl ?_
      obtain ⟨hb30, hf⟩ := oi_none hf
      refine v_iald X.1 43 0 rfl rfl hb30 d_M_worth_126 ?_
      refine v_icmp_ne X.1 (tgt := 134) d_M_worth_127 (by decide) (fun c31 => ?_) (fun c31 => ?_)
      · rw [if_neg c31] at hf
        refine v_iconst X.1 (v := (0 : Int32)) d_M_worth_134 (by decide) ?_
        refine v_iadd X.1 d_M_worth_135 ?_
        refine v_istore_n X.1 (lv' := [(1, .int (a1 + ((0 : Int32)))), (2, .int a2), (0, .ref (ad 36))]) d_M_worth_136 rfl (by decide) rfl ?_
        refine v_iinc X.1 (k0 := 1) (v := a2 + (1 : Int32)) (lv' := [(2, .int (a2 + (1 : Int32))), (1, .int (a1 + ((0 : Int32)))), (0, .ref (ad 36))]) d_M_worth_137 rfl rfl (by decide) rfl ?_
        refine v_goto X.1 (tgt := 106) d_M_worth_140 (by decide) ?_
        refine v_sub [0, 1, 2] rfl ?_
        exact ih _ _ _ _ _ _ hf hk
      · rw [if_pos c31] at hf
        refine v_iconst X.1 (v := (3 : Int32)) d_M_worth_130 (by decide) ?_
        refine v_goto X.1 (tgt := 135) d_M_worth_131 (by decide) ?_
        refine v_iadd X.1 d_M_worth_135 ?_
        refine v_istore_n X.1 (lv' := [(1, .int (a1 + ((3 : Int32)))), (2, .int a2), (0, .ref (ad 36))]) d_M_worth_136 rfl (by decide) rfl ?_
        refine v_iinc X.1 (k0 := 1) (v := a2 + (1 : Int32)) (lv' := [(2, .int (a2 + (1 : Int32))), (1, .int (a1 + ((3 : Int32)))), (0, .ref (ad 36))]) d_M_worth_137 rfl rfl (by decide) rfl ?_
        refine v_goto X.1 (tgt := 106) d_M_worth_140 (by decide) ?_
        refine v_sub [0, 1, 2] rfl ?_
        exact ih _ _ _ _ _ _ hf hk

set_option maxRecDepth 100000 in
set_option maxHeartbeats 4000000 in
theorem c_M_worth (l : Launch) (fu : Nat) (g : xSt) (r : Int32) (g' : xSt) (hf : f_M_worth fu g = some (r, g')) : xM l y_M_worth (.code y_M_worth b_M_worth 3 (some .int)) ({ frames := 1, cells := 0, slots := 0, locals := 21 } : Room) (fun ad => [.ref (ad 36)]) g (.inl (some (.int r))) g' 0 0 := by
  refine x_contract (by decide) (fun _ => Nat.le_of_ble_eq_true rfl) ?_
  intro p e s m below meth c D ad ca X hno
  unfold f_M_worth at hf
  refine v_iconst X.1 (v := (0 : Int32)) d_M_worth_0 (by decide) ?_
  refine v_istore_n X.1 (lv' := [(1, .int ((0 : Int32))), (0, .ref (ad 36))]) d_M_worth_1 rfl (by decide) rfl ?_
  obtain ⟨x5, g6, hL7, hf⟩ := ob2_some hf
  refine l_M_worth_L2 l fu X hno fu _ _ _ _ hL7 ?_
  refine v_iconst X.1 (v := (0 : Int32)) d_M_worth_21 (by decide) ?_
  refine v_istore_n X.1 (lv' := [(1, .int ((0 : Int32))), (0, .ref (ad 36))]) d_M_worth_22 rfl (by decide) rfl ?_
  refine v_iconst X.1 (v := (0 : Int32)) d_M_worth_23 (by decide) ?_
  refine v_istore_n X.1 (lv' := [(2, .int ((0 : Int32))), (1, .int ((0 : Int32))), (0, .ref (ad 36))]) d_M_worth_24 rfl (by decide) rfl ?_
  obtain ⟨x24, x25, g26, hL27, hf⟩ := ob3_some hf
  refine l_M_worth_L25 l fu X hno fu _ _ _ _ _ _ hL27 ?_
  refine v_iconst X.1 (v := (0 : Int32)) d_M_worth_104 (by decide) ?_
  refine v_istore_n X.1 (lv' := [(2, .int ((0 : Int32))), (1, .int x24), (0, .ref (ad 36))]) d_M_worth_105 rfl (by decide) rfl ?_
  obtain ⟨x32, x33, g34, hL35, hf⟩ := ob3_some hf
  refine l_M_worth_L106 l fu X hno fu _ _ _ _ _ _ hL35 ?_
  refine v_iload_n X.1 d_M_worth_143 rfl 1 rfl ?_
  cases hf
  exact v_iret X.1 X.2.2.1 rfl d_M_worth_144 X.2.2.2.1 (by decide) (by decide)

def f_M_lookAtAll_L59 (fu : Nat) (p1 : Int32) (b2 : Int32) (b4 : Int32) (b3 : Int32) : Nat → Int32 → xSt → Option (Int32 × xSt)
  | 0, _, _ => none
  | n + 1, a5, g => (if (g 46 0) ≤ a5 then some (a5, g) else (if a5 < 0 ∨ 65 ≤ a5.toNatClampNeg then none else (if a5 < 0 ∨ 64 ≤ a5.toNatClampNeg then none else (Option.bind (some (xw g 66 a5.toNatClampNeg (g 65 a5.toNatClampNeg))) (fun g29 => f_M_lookAtAll_L59 fu p1 b2 b4 b3 n (a5 + (1 : Int32)) g29)))))

def f_M_lookAtAll_L29 (fu : Nat) (p1 : Int32) : Nat → Int32 → Int32 → xSt → Option (Int32 × xSt)
  | 0, _, _, _ => none
  | n + 1, a2, a3, g => (if a3 < 0 then some ((1 : Int32), g) else (if a3 = (g 46 0) then (ob2 (f_M_worth fu g) (fun r23 g24 => (if r23 ≤ a2 then f_M_lookAtAll_L29 fu p1 n a2 (a3 + (-1 : Int32)) g24 else (ob2 (f_M_lookAtAll_L59 fu p1 r23 r23 a3 fu ((0 : Int32)) g24) (fun x31 g32 => f_M_lookAtAll_L29 fu p1 n r23 (a3 + (-1 : Int32)) g32))))) else (if a3 < 0 ∨ 65 ≤ a3.toNatClampNeg then none else (if (g 65 a3.toNatClampNeg) = 0 then f_M_lookAtAll_L29 fu p1 n a2 (a3 + (-1 : Int32)) g else (if (g 45 0) = p1 then some ((0 : Int32), g) else (Option.bind (some (xw g 45 0 ((g 45 0) + ((1 : Int32))))) (fun g9 => (if a3 < 0 ∨ 65 ≤ a3.toNatClampNeg then none else (if a3 < 0 ∨ 65 ≤ a3.toNatClampNeg then none else (Option.bind (some (xw g9 65 a3.toNatClampNeg ((g9 65 a3.toNatClampNeg) - ((1 : Int32))))) (fun g13 => (if (g13 46 0) ≤ (a3 + (1 : Int32)) then f_M_lookAtAll_L29 fu p1 n a2 (a3 + (1 : Int32)) g13 else (ob2 (f_M_greatest fu (a3 + (1 : Int32)) g13) (fun r17 g18 => (if (a3 + (1 : Int32)) < 0 ∨ 65 ≤ (a3 + (1 : Int32)).toNatClampNeg then none else (Option.bind (some (xw g18 65 (a3 + (1 : Int32)).toNatClampNeg (r17 + ((1 : Int32))))) (fun g20 => f_M_lookAtAll_L29 fu p1 n a2 (a3 + (1 : Int32)) g20)))))))))))))))))

def f_M_lookAtAll (fu : Nat) (p1 : Int32) (g : xSt) : Option (Int32 × xSt) := (Option.bind (some (xw g 45 0 ((0 : Int32)))) (fun g1 => (if (g1 46 0) ≤ 0 then f_M_lookAtAll_L29 fu p1 fu ((-1 : Int32)) ((0 : Int32)) g1 else (ob2 (f_M_greatest fu ((0 : Int32)) g1) (fun r35 g36 => (if ((0 : Int32)) < 0 ∨ 65 ≤ ((0 : Int32)).toNatClampNeg then none else (Option.bind (some (xw g36 65 ((0 : Int32)).toNatClampNeg (r35 + ((1 : Int32))))) (fun g38 => f_M_lookAtAll_L29 fu p1 fu ((-1 : Int32)) ((0 : Int32)) g38))))))))

set_option maxRecDepth 100000 in
set_option maxHeartbeats 4000000 in
theorem l_M_lookAtAll_L59 {p : Program} {e : Env} {s : State} {m : MethodId} {below : List Frame} {meth : Method} {c : Code} {D : va_G} {ad : Nat → Nat} {ca : Nat → ClassId} (l : Launch) (fu : Nat) (p1 : Int32) (b2 : Int32) (b4 : Int32) (b3 : Int32) (X : xX p s m ([.ref (ad 36), .int p1] : List Value).toArray meth c b_M_lookAtAll "CrossDockModel" 6 (some .boolean) D ad ca) (hno : c.exceptionTable.toList = []) {Q : State → Prop} : ∀ (n : Nat) (a5 : Int32) (g : xSt) (a5' : Int32) (g' : xSt), f_M_lookAtAll_L59 fu p1 b2 b4 b3 n a5 g = some (a5', g') → xV p l e ({ frames := 2, cells := 0, slots := 0, locals := 45 } : Room) s m ([.ref (ad 36), .int p1] : List Value).toArray below meth c D xcl (wX ad ca) (xA (wX ad ca) s.heap.size) 6 0 0 Q g' 88 [(5, .int a5'), (2, .int b2), (4, .int b4), (3, .int b3), (0, .ref (ad 36)), (1, .int p1)] [] → xV p l e ({ frames := 2, cells := 0, slots := 0, locals := 45 } : Room) s m ([.ref (ad 36), .int p1] : List Value).toArray below meth c D xcl (wX ad ca) (xA (wX ad ca) s.heap.size) 6 0 0 Q g 59 [(5, .int a5), (2, .int b2), (4, .int b4), (3, .int b3), (0, .ref (ad 36)), (1, .int p1)] [] := by
  intro n
  induction n with
  | zero =>
    intro a5 g a5' g' hf
    rw [f_M_lookAtAll_L59] at hf
    cases hf
  | succ n ih =>
    intro a5 g a5' g' hf hk
    rw [f_M_lookAtAll_L59] at hf
    refine v_iload X.1 d_M_lookAtAll_59 0 rfl ?_
    refine v_aload_n X.1 d_M_lookAtAll_61 rfl 4 rfl ?_
    refine v_get X.1 (ci := 5) ⟨in_M, rfl⟩ 36 rfl 22 (by decide) (X.t tw_650 rfl) rfl d_M_lookAtAll_62 ?_
    refine v_icmp_ge X.1 (tgt := 88) d_M_lookAtAll_65 (by decide) (fun c26 => ?_) (fun c26 => ?_)
    · rw [if_pos c26] at hf
      cases hf
      refine v_sub [0, 1, 2, 3, 4, 5] rfl ?_
      exact hk
    · rw [if_neg c26] at hf
      refine v_aload_n X.1 d_M_lookAtAll_68 rfl 4 rfl ?_
      refine v_get X.1 (ci := 5) ⟨in_M, rfl⟩ 36 rfl 26 (by decide) (X.t tw_654 rfl) rfl d_M_lookAtAll_69 ?_
      refine v_iload X.1 d_M_lookAtAll_72 0 rfl ?_
      refine v_aload_n X.1 d_M_lookAtAll_74 rfl 4 rfl ?_
      refine v_get X.1 (ci := 5) ⟨in_M, rfl⟩ 36 rfl 25 (by decide) (X.t tw_653 rfl) rfl d_M_lookAtAll_75 ?_
      refine v_iload X.1 d_M_lookAtAll_78 0 rfl ?_
      obtain ⟨hb27, hf⟩ := oi_none hf
      refine v_iald X.1 55 0 rfl rfl hb27 d_M_lookAtAll_80 ?_
      obtain ⟨hb28, hf⟩ := oi_none hf
      obtain ⟨g29, eg30, hf⟩ := ob_some hf
      refine v_iast X.1 56 0 rfl rfl hb28 ((sa_66 ad ca _ _ _).trans (congrArg (wX ad ca) (Option.some.inj eg30))) d_M_lookAtAll_81 ?_
      refine v_iinc X.1 (k0 := 0) (v := a5 + (1 : Int32)) (lv' := [(5, .int (a5 + (1 : Int32))), (2, .int b2), (4, .int b4), (3, .int b3), (0, .ref (ad 36)), (1, .int p1)]) d_M_lookAtAll_82 rfl rfl (by decide) rfl ?_
      refine v_goto X.1 (tgt := 59) d_M_lookAtAll_85 (by decide) ?_
      refine v_sub [0, 1, 2, 3, 4, 5] rfl ?_
      exact ih _ _ _ _ hf hk

set_option maxRecDepth 100000 in
set_option maxHeartbeats 4000000 in
theorem l_M_lookAtAll_L29 {p : Program} {e : Env} {s : State} {m : MethodId} {below : List Frame} {meth : Method} {c : Code} {D : va_G} {ad : Nat → Nat} {ca : Nat → ClassId} (l : Launch) (fu : Nat) (p1 : Int32) (X : xX p s m ([.ref (ad 36), .int p1] : List Value).toArray meth c b_M_lookAtAll "CrossDockModel" 6 (some .boolean) D ad ca) (hno : c.exceptionTable.toList = []) : ∀ (n : Nat) (a2 : Int32) (a3 : Int32) (g : xSt) (r : Int32) (g' : xSt), f_M_lookAtAll_L29 fu p1 n a2 a3 g = some (r, g') → xV p l e ({ frames := 2, cells := 0, slots := 0, locals := 45 } : Room) s m ([.ref (ad 36), .int p1] : List Value).toArray below meth c D xcl (wX ad ca) (xA (wX ad ca) s.heap.size) 6 0 0 (xMQ below (xQ D xcl (wX ad ca) (xA (wX ad ca) s.heap.size) (.inl (some (.int r))) g') ([.ref (ad 36), .int p1] : List Value).toArray s 0 0 (xA (wX ad ca) s.heap.size)) g 29 [(3, .int a3), (2, .int a2), (0, .ref (ad 36)), (1, .int p1)] [] := by
  intro n
  induction n with
  | zero =>
    intro a2 a3 g r g' hf
    rw [f_M_lookAtAll_L29] at hf
    cases hf
  | succ n ih =>
    intro a2 a3 g r g' hf
    rw [f_M_lookAtAll_L29] at hf
    refine v_iload_n X.1 d_M_lookAtAll_29 rfl 0 rfl ?_
    refine v_if_lt X.1 (tgt := 166) d_M_lookAtAll_30 (by decide) (fun c4 => ?_) (fun c4 => ?_)
    · rw [if_pos c4] at hf
      refine v_iconst X.1 (v := (1 : Int32)) d_M_lookAtAll_166 (by decide) ?_
      cases hf
      exact v_iret X.1 X.2.2.1 rfl d_M_lookAtAll_167 X.2.2.2.1 (by decide) (by decide)
    · rw [if_neg c4] at hf
      refine v_iload_n X.1 d_M_lookAtAll_33 rfl 0 rfl ?_
      refine v_aload_n X.1 d_M_lookAtAll_34 rfl 2 rfl ?_
      refine v_get X.1 (ci := 5) ⟨in_M, rfl⟩ 36 rfl 22 (by decide) (X.t tw_650 rfl) rfl d_M_lookAtAll_35 ?_
      refine v_icmp_ne X.1 (tgt := 94) d_M_lookAtAll_38 (by decide) (fun c5 => ?_) (fun c5 => ?_)
      · rw [if_neg c5] at hf
        refine v_aload_n X.1 d_M_lookAtAll_94 rfl 2 rfl ?_
        refine v_get X.1 (ci := 5) ⟨in_M, rfl⟩ 36 rfl 25 (by decide) (X.t tw_653 rfl) rfl d_M_lookAtAll_95 ?_
        refine v_iload_n X.1 d_M_lookAtAll_98 rfl 0 rfl ?_
        obtain ⟨hb6, hf⟩ := oi_none hf
        refine v_iald X.1 55 0 rfl rfl hb6 d_M_lookAtAll_99 ?_
        refine v_if_ne X.1 (tgt := 109) d_M_lookAtAll_100 (by decide) (fun c7 => ?_) (fun c7 => ?_)
        · rw [if_neg c7] at hf
          refine v_aload_n X.1 d_M_lookAtAll_109 rfl 2 rfl ?_
          refine v_get X.1 (ci := 5) ⟨in_M, rfl⟩ 36 rfl 21 (by decide) (X.t tw_649 rfl) rfl d_M_lookAtAll_110 ?_
          refine v_iload_n X.1 d_M_lookAtAll_113 rfl 3 rfl ?_
          refine v_icmp_ne X.1 (tgt := 119) d_M_lookAtAll_114 (by decide) (fun c8 => ?_) (fun c8 => ?_)
          · rw [if_neg c8] at hf
            refine v_aload_n X.1 d_M_lookAtAll_119 rfl 2 rfl ?_
            refine v_dup X.1 d_M_lookAtAll_120 rfl ?_
            refine v_get X.1 (ci := 5) ⟨in_M, rfl⟩ 36 rfl 21 (by decide) (X.t tw_649 rfl) rfl d_M_lookAtAll_121 ?_
            refine v_iconst X.1 (v := (1 : Int32)) d_M_lookAtAll_124 (by decide) ?_
            refine v_iadd X.1 d_M_lookAtAll_125 ?_
            obtain ⟨g9, eg10, hf⟩ := ob_some hf
            refine v_put X.1 (ci := 5) ⟨in_M, rfl⟩ 36 rfl 21 (by decide) ⟨ty_M_ok, nm_M⟩ (X.t tw_649 rfl) rfl (ty := .int) (by decide +kernel) rfl rfl (Nat.le_of_ble_eq_true rfl) ((sw_45 ad ca _ _).trans (congrArg (wX ad ca) (Option.some.inj eg10))) d_M_lookAtAll_126 ?_
            refine v_aload_n X.1 d_M_lookAtAll_129 rfl 2 rfl ?_
            refine v_get X.1 (ci := 5) ⟨in_M, rfl⟩ 36 rfl 25 (by decide) (X.t tw_653 rfl) rfl d_M_lookAtAll_130 ?_
            refine v_iload_n X.1 d_M_lookAtAll_133 rfl 0 rfl ?_
            refine v_dup2 X.1 d_M_lookAtAll_134 rfl rfl ?_
            obtain ⟨hb11, hf⟩ := oi_none hf
            refine v_iald X.1 55 0 rfl rfl hb11 d_M_lookAtAll_135 ?_
            refine v_iconst X.1 (v := (1 : Int32)) d_M_lookAtAll_136 (by decide) ?_
            refine v_isub X.1 d_M_lookAtAll_137 ?_
            obtain ⟨hb12, hf⟩ := oi_none hf
            obtain ⟨g13, eg14, hf⟩ := ob_some hf
            refine v_iast X.1 55 0 rfl rfl hb12 ((sa_65 ad ca _ _ _).trans (congrArg (wX ad ca) (Option.some.inj eg14))) d_M_lookAtAll_138 ?_
            refine v_iinc X.1 (k0 := 0) (v := a3 + (1 : Int32)) (lv' := [(3, .int (a3 + (1 : Int32))), (2, .int a2), (0, .ref (ad 36)), (1, .int p1)]) d_M_lookAtAll_139 rfl rfl (by decide) rfl ?_
            refine v_iload_n X.1 d_M_lookAtAll_142 rfl 0 rfl ?_
            refine v_aload_n X.1 d_M_lookAtAll_143 rfl 2 rfl ?_
            refine v_get X.1 (ci := 5) ⟨in_M, rfl⟩ 36 rfl 22 (by decide) (X.t tw_650 rfl) rfl d_M_lookAtAll_144 ?_
            refine v_icmp_ge X.1 (tgt := 29) d_M_lookAtAll_147 (by decide) (fun c15 => ?_) (fun c15 => ?_)
            · rw [if_pos c15] at hf
              refine v_sub [0, 1, 2, 3] rfl ?_
              exact ih _ _ _ _ _ hf
            · rw [if_neg c15] at hf
              refine v_aload_n X.1 d_M_lookAtAll_150 rfl 2 rfl ?_
              refine v_get X.1 (ci := 5) ⟨in_M, rfl⟩ 36 rfl 25 (by decide) (X.t tw_653 rfl) rfl d_M_lookAtAll_151 ?_
              refine v_iload_n X.1 d_M_lookAtAll_154 rfl 0 rfl ?_
              refine v_aload_n X.1 d_M_lookAtAll_155 rfl 2 rfl ?_
              refine v_iload_n X.1 d_M_lookAtAll_156 rfl 0 rfl ?_
              obtain ⟨r17, g18, hc16, hf⟩ := ob2_some hf
              refine v_backI X.1 (x_runV X (c_M_greatest l fu (a3 + (1 : Int32)) _ _ _ hc16) rfl tw_795 tw_57 tw_792 tw_794 tw_43 36 5 rfl rfl rfl ⟨rfl, rfl, by decide, by decide⟩ ⟨by decide, by show _ = some 1; decide⟩ (rest := [.int (a3 + (1 : Int32)), .ref (ad 55)]) rfl (Nat.le_of_ble_eq_true rfl) d_M_lookAtAll_157 (by decide) (by decide)) ?_
              refine v_iconst X.1 (v := (1 : Int32)) d_M_lookAtAll_160 (by decide) ?_
              refine v_iadd X.1 d_M_lookAtAll_161 ?_
              obtain ⟨hb19, hf⟩ := oi_none hf
              obtain ⟨g20, eg21, hf⟩ := ob_some hf
              refine v_iast X.1 55 0 rfl rfl hb19 ((sa_65 ad ca _ _ _).trans (congrArg (wX ad ca) (Option.some.inj eg21))) d_M_lookAtAll_162 ?_
              refine v_goto X.1 (tgt := 29) d_M_lookAtAll_163 (by decide) ?_
              refine v_sub [0, 1, 2, 3] rfl ?_
              exact ih _ _ _ _ _ hf
          · rw [if_pos c8] at hf
            refine v_iconst X.1 (v := (0 : Int32)) d_M_lookAtAll_117 (by decide) ?_
            cases hf
            exact v_iret X.1 X.2.2.1 rfl d_M_lookAtAll_118 X.2.2.2.1 (by decide) (by decide)
        · rw [if_pos c7] at hf
          refine v_iinc X.1 (k0 := 0) (v := a3 + (-1 : Int32)) (lv' := [(3, .int (a3 + (-1 : Int32))), (2, .int a2), (0, .ref (ad 36)), (1, .int p1)]) d_M_lookAtAll_103 rfl rfl (by decide) rfl ?_
          refine v_goto X.1 (tgt := 29) d_M_lookAtAll_106 (by decide) ?_
          refine v_sub [0, 1, 2, 3] rfl ?_
          exact ih _ _ _ _ _ hf
      · rw [if_pos c5] at hf
        refine v_aload_n X.1 d_M_lookAtAll_41 rfl 2 rfl ?_
        obtain ⟨r23, g24, hc22, hf⟩ := ob2_some hf
        refine v_backI X.1 (x_runV X (c_M_worth l fu _ _ _ hc22) rfl tw_803 tw_57 tw_800 tw_802 tw_45 36 5 rfl rfl rfl ⟨rfl, rfl, by decide, by decide⟩ ⟨by decide, by show _ = some 0; decide⟩ (rest := []) rfl (Nat.le_of_ble_eq_true rfl) d_M_lookAtAll_42 (by decide) (by decide)) ?_
        refine v_istore X.1 (lv' := [(4, .int r23), (3, .int a3), (2, .int a2), (0, .ref (ad 36)), (1, .int p1)]) d_M_lookAtAll_45 (by decide) rfl ?_
        refine v_iload X.1 d_M_lookAtAll_47 0 rfl ?_
        refine v_iload_n X.1 d_M_lookAtAll_49 rfl 2 rfl ?_
        refine v_icmp_le X.1 (tgt := 88) d_M_lookAtAll_50 (by decide) (fun c25 => ?_) (fun c25 => ?_)
        · rw [if_pos c25] at hf
          refine v_iinc X.1 (k0 := 1) (v := a3 + (-1 : Int32)) (lv' := [(3, .int (a3 + (-1 : Int32))), (4, .int r23), (2, .int a2), (0, .ref (ad 36)), (1, .int p1)]) d_M_lookAtAll_88 rfl rfl (by decide) rfl ?_
          refine v_goto X.1 (tgt := 29) d_M_lookAtAll_91 (by decide) ?_
          refine v_sub [0, 2, 3, 4] rfl ?_
          exact ih _ _ _ _ _ hf
        · rw [if_neg c25] at hf
          refine v_iload X.1 d_M_lookAtAll_53 0 rfl ?_
          refine v_istore_n X.1 (lv' := [(2, .int r23), (4, .int r23), (3, .int a3), (0, .ref (ad 36)), (1, .int p1)]) d_M_lookAtAll_55 rfl (by decide) rfl ?_
          refine v_iconst X.1 (v := (0 : Int32)) d_M_lookAtAll_56 (by decide) ?_
          refine v_istore X.1 (lv' := [(5, .int ((0 : Int32))), (2, .int r23), (4, .int r23), (3, .int a3), (0, .ref (ad 36)), (1, .int p1)]) d_M_lookAtAll_57 (by decide) rfl ?_
          obtain ⟨x31, g32, hL33, hf⟩ := ob2_some hf
          refine l_M_lookAtAll_L59 l fu p1 r23 r23 a3 X hno fu _ _ _ _ hL33 ?_
          refine v_iinc X.1 (k0 := 3) (v := a3 + (-1 : Int32)) (lv' := [(3, .int (a3 + (-1 : Int32))), (5, .int x31), (2, .int r23), (4, .int r23), (0, .ref (ad 36)), (1, .int p1)]) d_M_lookAtAll_88 rfl rfl (by decide) rfl ?_
          refine v_goto X.1 (tgt := 29) d_M_lookAtAll_91 (by decide) ?_
          refine v_sub [0, 2, 4, 5] rfl ?_
          exact ih _ _ _ _ _ hf

set_option maxRecDepth 100000 in
set_option maxHeartbeats 4000000 in
theorem c_M_lookAtAll (l : Launch) (fu : Nat) (p1 : Int32) (g : xSt) (r : Int32) (g' : xSt) (hf : f_M_lookAtAll fu p1 g = some (r, g')) : xM l y_M_lookAtAll (.code y_M_lookAtAll b_M_lookAtAll 6 (some .boolean)) ({ frames := 2, cells := 0, slots := 0, locals := 45 } : Room) (fun ad => [.ref (ad 36), .int p1]) g (.inl (some (.int r))) g' 0 0 := by
  refine x_contract (by decide) (fun _ => Nat.le_of_ble_eq_true rfl) ?_
  intro p e s m below meth c D ad ca X hno
  unfold f_M_lookAtAll at hf
  refine v_iconst X.1 (v := (-1 : Int32)) d_M_lookAtAll_0 (by decide) ?_
  refine v_istore_n X.1 (lv' := [(2, .int ((-1 : Int32))), (0, .ref (ad 36)), (1, .int p1)]) d_M_lookAtAll_1 rfl (by decide) rfl ?_
  refine v_aload_n X.1 d_M_lookAtAll_2 rfl 1 rfl ?_
  refine v_iconst X.1 (v := (0 : Int32)) d_M_lookAtAll_3 (by decide) ?_
  obtain ⟨g1, eg2, hf⟩ := ob_some hf
  refine v_put X.1 (ci := 5) ⟨in_M, rfl⟩ 36 rfl 21 (by decide) ⟨ty_M_ok, nm_M⟩ (X.t tw_649 rfl) rfl (ty := .int) (by decide +kernel) rfl rfl (Nat.le_of_ble_eq_true rfl) ((sw_45 ad ca _ _).trans (congrArg (wX ad ca) (Option.some.inj eg2))) d_M_lookAtAll_4 ?_
  refine v_iconst X.1 (v := (0 : Int32)) d_M_lookAtAll_7 (by decide) ?_
  refine v_istore_n X.1 (lv' := [(3, .int ((0 : Int32))), (2, .int ((-1 : Int32))), (0, .ref (ad 36)), (1, .int p1)]) d_M_lookAtAll_8 rfl (by decide) rfl ?_
  refine v_aload_n X.1 d_M_lookAtAll_9 rfl 2 rfl ?_
  refine v_get X.1 (ci := 5) ⟨in_M, rfl⟩ 36 rfl 22 (by decide) (X.t tw_650 rfl) rfl d_M_lookAtAll_10 ?_
  refine v_if_le X.1 (tgt := 29) d_M_lookAtAll_13 (by decide) (fun c3 => ?_) (fun c3 => ?_)
  · rw [if_pos c3] at hf
    exact l_M_lookAtAll_L29 l fu p1 X hno fu _ _ _ _ _ hf
  · rw [if_neg c3] at hf
    refine v_aload_n X.1 d_M_lookAtAll_16 rfl 2 rfl ?_
    refine v_get X.1 (ci := 5) ⟨in_M, rfl⟩ 36 rfl 25 (by decide) (X.t tw_653 rfl) rfl d_M_lookAtAll_17 ?_
    refine v_iconst X.1 (v := (0 : Int32)) d_M_lookAtAll_20 (by decide) ?_
    refine v_aload_n X.1 d_M_lookAtAll_21 rfl 2 rfl ?_
    refine v_iconst X.1 (v := (0 : Int32)) d_M_lookAtAll_22 (by decide) ?_
    obtain ⟨r35, g36, hc34, hf⟩ := ob2_some hf
    refine v_backI X.1 (x_runV X (c_M_greatest l fu ((0 : Int32)) _ _ _ hc34) rfl tw_795 tw_57 tw_792 tw_794 tw_43 36 5 rfl rfl rfl ⟨rfl, rfl, by decide, by decide⟩ ⟨by decide, by show _ = some 1; decide⟩ (rest := [.int ((0 : Int32)), .ref (ad 55)]) rfl (Nat.le_of_ble_eq_true rfl) d_M_lookAtAll_23 (by decide) (by decide)) ?_
    refine v_iconst X.1 (v := (1 : Int32)) d_M_lookAtAll_26 (by decide) ?_
    refine v_iadd X.1 d_M_lookAtAll_27 ?_
    obtain ⟨hb37, hf⟩ := oi_none hf
    obtain ⟨g38, eg39, hf⟩ := ob_some hf
    refine v_iast X.1 55 0 rfl rfl hb37 ((sa_65 ad ca _ _ _).trans (congrArg (wX ad ca) (Option.some.inj eg39))) d_M_lookAtAll_28 ?_
    exact l_M_lookAtAll_L29 l fu p1 X hno fu _ _ _ _ _ hf

def f_M_byRule_L2 (fu : Nat) : Nat → Int32 → xSt → Option (Int32 × xSt)
  | 0, _, _ => none
  | n + 1, a1, g => (if (g 46 0) ≤ a1 then some (a1, g) else (ob2 (f_M_greatest fu a1 g) (fun r3 g4 => (if a1 < 0 ∨ 65 ≤ a1.toNatClampNeg then none else (Option.bind (some (xw g4 65 a1.toNatClampNeg r3)) (fun g6 => (if a1 < 0 ∨ 65 ≤ a1.toNatClampNeg then none else (if a1 < 0 ∨ 64 ≤ a1.toNatClampNeg then none else (Option.bind (some (xw g6 66 a1.toNatClampNeg (g6 65 a1.toNatClampNeg))) (fun g10 => f_M_byRule_L2 fu n (a1 + (1 : Int32)) g10))))))))))

def f_M_byRule (fu : Nat) (g : xSt) : Option (xSt) := (ob2 (f_M_byRule_L2 fu fu ((0 : Int32)) g) (fun x12 g13 => some g13))

set_option maxRecDepth 100000 in
set_option maxHeartbeats 4000000 in
theorem l_M_byRule_L2 {p : Program} {e : Env} {s : State} {m : MethodId} {below : List Frame} {meth : Method} {c : Code} {D : va_G} {ad : Nat → Nat} {ca : Nat → ClassId} (l : Launch) (fu : Nat) (X : xX p s m ([.ref (ad 36)] : List Value).toArray meth c b_M_byRule "CrossDockModel" 2 none D ad ca) (hno : c.exceptionTable.toList = []) {Q : State → Prop} : ∀ (n : Nat) (a1 : Int32) (g : xSt) (a1' : Int32) (g' : xSt), f_M_byRule_L2 fu n a1 g = some (a1', g') → xV p l e ({ frames := 2, cells := 0, slots := 0, locals := 45 } : Room) s m ([.ref (ad 36)] : List Value).toArray below meth c D xcl (wX ad ca) (xA (wX ad ca) s.heap.size) 2 0 0 Q g' 39 [(1, .int a1'), (0, .ref (ad 36))] [] → xV p l e ({ frames := 2, cells := 0, slots := 0, locals := 45 } : Room) s m ([.ref (ad 36)] : List Value).toArray below meth c D xcl (wX ad ca) (xA (wX ad ca) s.heap.size) 2 0 0 Q g 2 [(1, .int a1), (0, .ref (ad 36))] [] := by
  intro n
  induction n with
  | zero =>
    intro a1 g a1' g' hf
    rw [f_M_byRule_L2] at hf
    cases hf
  | succ n ih =>
    intro a1 g a1' g' hf hk
    rw [f_M_byRule_L2] at hf
    refine v_iload_n X.1 d_M_byRule_2 rfl 0 rfl ?_
    refine v_aload_n X.1 d_M_byRule_3 rfl 1 rfl ?_
    refine v_get X.1 (ci := 5) ⟨in_M, rfl⟩ 36 rfl 22 (by decide) (X.t tw_650 rfl) rfl d_M_byRule_4 ?_
    refine v_icmp_ge X.1 (tgt := 39) d_M_byRule_7 (by decide) (fun c1 => ?_) (fun c1 => ?_)
    · rw [if_pos c1] at hf
      cases hf
      refine v_sub [0, 1] rfl ?_
      exact hk
    · rw [if_neg c1] at hf
      refine v_aload_n X.1 d_M_byRule_10 rfl 1 rfl ?_
      refine v_get X.1 (ci := 5) ⟨in_M, rfl⟩ 36 rfl 25 (by decide) (X.t tw_653 rfl) rfl d_M_byRule_11 ?_
      refine v_iload_n X.1 d_M_byRule_14 rfl 0 rfl ?_
      refine v_aload_n X.1 d_M_byRule_15 rfl 1 rfl ?_
      refine v_iload_n X.1 d_M_byRule_16 rfl 0 rfl ?_
      obtain ⟨r3, g4, hc2, hf⟩ := ob2_some hf
      refine v_backI X.1 (x_runV X (c_M_greatest l fu a1 _ _ _ hc2) rfl tw_795 tw_57 tw_792 tw_794 tw_43 36 5 rfl rfl rfl ⟨rfl, rfl, by decide, by decide⟩ ⟨by decide, by show _ = some 1; decide⟩ (rest := [.int a1, .ref (ad 55)]) rfl (Nat.le_of_ble_eq_true rfl) d_M_byRule_17 (by decide) (by decide)) ?_
      obtain ⟨hb5, hf⟩ := oi_none hf
      obtain ⟨g6, eg7, hf⟩ := ob_some hf
      refine v_iast X.1 55 0 rfl rfl hb5 ((sa_65 ad ca _ _ _).trans (congrArg (wX ad ca) (Option.some.inj eg7))) d_M_byRule_20 ?_
      refine v_aload_n X.1 d_M_byRule_21 rfl 1 rfl ?_
      refine v_get X.1 (ci := 5) ⟨in_M, rfl⟩ 36 rfl 26 (by decide) (X.t tw_654 rfl) rfl d_M_byRule_22 ?_
      refine v_iload_n X.1 d_M_byRule_25 rfl 0 rfl ?_
      refine v_aload_n X.1 d_M_byRule_26 rfl 1 rfl ?_
      refine v_get X.1 (ci := 5) ⟨in_M, rfl⟩ 36 rfl 25 (by decide) (X.t tw_653 rfl) rfl d_M_byRule_27 ?_
      refine v_iload_n X.1 d_M_byRule_30 rfl 0 rfl ?_
      obtain ⟨hb8, hf⟩ := oi_none hf
      refine v_iald X.1 55 0 rfl rfl hb8 d_M_byRule_31 ?_
      obtain ⟨hb9, hf⟩ := oi_none hf
      obtain ⟨g10, eg11, hf⟩ := ob_some hf
      refine v_iast X.1 56 0 rfl rfl hb9 ((sa_66 ad ca _ _ _).trans (congrArg (wX ad ca) (Option.some.inj eg11))) d_M_byRule_32 ?_
      refine v_iinc X.1 (k0 := 0) (v := a1 + (1 : Int32)) (lv' := [(1, .int (a1 + (1 : Int32))), (0, .ref (ad 36))]) d_M_byRule_33 rfl rfl (by decide) rfl ?_
      refine v_goto X.1 (tgt := 2) d_M_byRule_36 (by decide) ?_
      refine v_sub [0, 1] rfl ?_
      exact ih _ _ _ _ hf hk

set_option maxRecDepth 100000 in
set_option maxHeartbeats 4000000 in
theorem c_M_byRule (l : Launch) (fu : Nat) (g : xSt) (g' : xSt) (hf : f_M_byRule fu g = some g') : xM l y_M_byRule (.code y_M_byRule b_M_byRule 2 none) ({ frames := 2, cells := 0, slots := 0, locals := 45 } : Room) (fun ad => [.ref (ad 36)]) g (.inl none) g' 0 0 := by
  refine x_contract (by decide) (fun _ => Nat.le_of_ble_eq_true rfl) ?_
  intro p e s m below meth c D ad ca X hno
  unfold f_M_byRule at hf
  refine v_iconst X.1 (v := (0 : Int32)) d_M_byRule_0 (by decide) ?_
  refine v_istore_n X.1 (lv' := [(1, .int ((0 : Int32))), (0, .ref (ad 36))]) d_M_byRule_1 rfl (by decide) rfl ?_
  obtain ⟨x12, g13, hL14, hf⟩ := ob2_some hf
  refine l_M_byRule_L2 l fu X hno fu _ _ _ _ hL14 ?_
  cases hf
  exact v_vret X.1 X.2.2.1 d_M_byRule_39 X.2.2.2.1 (by decide) (by decide)

def f_M_savedNow_L4 (fu : Nat) : Nat → Int32 → Int32 → xSt → Option (Int32 × Int32 × xSt)
  | 0, _, _, _ => none
  | n + 1, a1, a2, g => (if (g 43 0) ≤ a2 then some (a1, a2, g) else (if a2 < 0 ∨ 64 ≤ a2.toNatClampNeg then none else (if a2 < 0 ∨ 64 ≤ a2.toNatClampNeg then none else (if a2 < 0 ∨ 64 ≤ a2.toNatClampNeg then none else (ob2 (f_M_has (g 60 a2.toNatClampNeg) g) (fun r6 g7 => (if (g 62 a2.toNatClampNeg) = r6 then f_M_savedNow_L4 fu n (a1 + ((((2 : Int32)) * (g 62 a2.toNatClampNeg)) + ((1 : Int32)))) (a2 + (1 : Int32)) g7 else f_M_savedNow_L4 fu n (a1 + ((((2 : Int32)) * (g 62 a2.toNatClampNeg)) + ((0 : Int32)))) (a2 + (1 : Int32)) g7)))))))

def f_M_savedNow_L56 (fu : Nat) : Nat → Int32 → Int32 → xSt → Option (Int32 × Int32 × xSt)
  | 0, _, _, _ => none
  | n + 1, a1, a2, g => (if (g 42 0) ≤ a2 then some (a1, a2, g) else (ob2 (f_M_hasGot fu a2 g) (fun r15 g16 => (if a2 < 0 ∨ 8 ≤ a2.toNatClampNeg then none else (if r15 = (g16 53 a2.toNatClampNeg) then f_M_savedNow_L56 fu n (a1 + ((3 : Int32))) (a2 + (1 : Int32)) g16 else f_M_savedNow_L56 fu n (a1 + ((0 : Int32))) (a2 + (1 : Int32)) g16)))))

def f_M_savedNow (fu : Nat) (g : xSt) : Option (Int32 × xSt) := (ob3 (f_M_savedNow_L4 fu fu ((0 : Int32)) ((0 : Int32)) g) (fun x9 x10 g11 => (ob3 (f_M_savedNow_L56 fu fu x9 ((0 : Int32)) g11) (fun x19 x20 g21 => some (x19, g21)))))

set_option maxRecDepth 100000 in
set_option maxHeartbeats 4000000 in
theorem l_M_savedNow_L4 {p : Program} {e : Env} {s : State} {m : MethodId} {below : List Frame} {meth : Method} {c : Code} {D : va_G} {ad : Nat → Nat} {ca : Nat → ClassId} (l : Launch) (fu : Nat) (X : xX p s m ([.ref (ad 36)] : List Value).toArray meth c b_M_savedNow "CrossDockModel" 3 (some .int) D ad ca) (hno : c.exceptionTable.toList = []) {Q : State → Prop} : ∀ (n : Nat) (a1 : Int32) (a2 : Int32) (g : xSt) (a1' : Int32) (a2' : Int32) (g' : xSt), f_M_savedNow_L4 fu n a1 a2 g = some (a1', a2', g') → xV p l e ({ frames := 1, cells := 0, slots := 0, locals := 23 } : Room) s m ([.ref (ad 36)] : List Value).toArray below meth c D xcl (wX ad ca) (xA (wX ad ca) s.heap.size) 3 0 0 Q g' 54 [(2, .int a2'), (1, .int a1'), (0, .ref (ad 36))] [] → xV p l e ({ frames := 1, cells := 0, slots := 0, locals := 23 } : Room) s m ([.ref (ad 36)] : List Value).toArray below meth c D xcl (wX ad ca) (xA (wX ad ca) s.heap.size) 3 0 0 Q g 4 [(2, .int a2), (1, .int a1), (0, .ref (ad 36))] [] := by
  intro n
  induction n with
  | zero =>
    intro a1 a2 g a1' a2' g' hf
    rw [f_M_savedNow_L4] at hf
    cases hf
  | succ n ih =>
    intro a1 a2 g a1' a2' g' hf hk
    rw [f_M_savedNow_L4] at hf
    refine v_iload_n X.1 d_M_savedNow_4 rfl 0 rfl ?_
    refine v_aload_n X.1 d_M_savedNow_5 rfl 2 rfl ?_
    refine v_get X.1 (ci := 5) ⟨in_M, rfl⟩ 36 rfl 16 (by decide) (X.t tw_644 rfl) rfl d_M_savedNow_6 ?_
    refine v_icmp_ge X.1 (tgt := 54) d_M_savedNow_9 (by decide) (fun c1 => ?_) (fun c1 => ?_)
    · rw [if_pos c1] at hf
      cases hf
      refine v_sub [0, 1, 2] rfl ?_
      exact hk
    · rw [if_neg c1] at hf
      refine v_iload_n X.1 d_M_savedNow_12 rfl 1 rfl ?_
      refine v_iconst X.1 (v := (2 : Int32)) d_M_savedNow_13 (by decide) ?_
      refine v_aload_n X.1 d_M_savedNow_14 rfl 2 rfl ?_
      refine v_get X.1 (ci := 5) ⟨in_M, rfl⟩ 36 rfl 19 (by decide) (X.t tw_647 rfl) rfl d_M_savedNow_15 ?_
      refine v_iload_n X.1 d_M_savedNow_18 rfl 0 rfl ?_
      obtain ⟨hb2, hf⟩ := oi_none hf
      refine v_iald X.1 52 0 rfl rfl hb2 d_M_savedNow_19 ?_
      refine v_imul X.1 d_M_savedNow_20 ?_
      refine v_aload_n X.1 d_M_savedNow_21 rfl 2 rfl ?_
      refine v_get X.1 (ci := 5) ⟨in_M, rfl⟩ 36 rfl 19 (by decide) (X.t tw_647 rfl) rfl d_M_savedNow_22 ?_
      refine v_iload_n X.1 d_M_savedNow_25 rfl 0 rfl ?_
      obtain ⟨hb3, hf⟩ := oi_none hf
      refine v_iald X.1 52 0 rfl rfl hb3 d_M_savedNow_26 ?_
      refine v_aload_n X.1 d_M_savedNow_27 rfl 2 rfl ?_
      refine v_aload_n X.1 d_M_savedNow_28 rfl 2 rfl ?_
      refine v_get X.1 (ci := 5) ⟨in_M, rfl⟩ 36 rfl 17 (by decide) (X.t tw_645 rfl) rfl d_M_savedNow_29 ?_
      refine v_iload_n X.1 d_M_savedNow_32 rfl 0 rfl ?_
      obtain ⟨hb4, hf⟩ := oi_none hf
      refine v_iald X.1 50 0 rfl rfl hb4 d_M_savedNow_33 ?_
      obtain ⟨r6, g7, hc5, hf⟩ := ob2_some hf
      refine v_backI X.1 (x_runV X (c_M_has l (g 60 a2.toNatClampNeg) _ _ _ hc5) rfl tw_799 tw_57 tw_796 tw_798 tw_44 36 5 rfl rfl rfl ⟨rfl, rfl, by decide, by decide⟩ ⟨by decide, by show _ = some 1; decide⟩ (rest := [.int (g 62 a2.toNatClampNeg), .int (((2 : Int32)) * (g 62 a2.toNatClampNeg)), .int a1]) rfl (Nat.le_of_ble_eq_true rfl) d_M_savedNow_34 (by decide) (by decide)) ?_
      refine v_icmp_ne X.1 (tgt := 44) d_M_savedNow_37 (by decide) (fun c8 => ?_) (fun c8 => ?_)
      · rw [if_neg c8] at hf
        refine v_iconst X.1 (v := (0 : Int32)) d_M_savedNow_44 (by decide) ?_
        refine v_iadd X.1 d_M_savedNow_45 ?_
        refine v_iadd X.1 d_M_savedNow_46 ?_
        refine v_istore_n X.1 (lv' := [(1, .int (a1 + ((((2 : Int32)) * (g 62 a2.toNatClampNeg)) + ((0 : Int32))))), (2, .int a2), (0, .ref (ad 36))]) d_M_savedNow_47 rfl (by decide) rfl ?_
        refine v_iinc X.1 (k0 := 1) (v := a2 + (1 : Int32)) (lv' := [(2, .int (a2 + (1 : Int32))), (1, .int (a1 + ((((2 : Int32)) * (g 62 a2.toNatClampNeg)) + ((0 : Int32))))), (0, .ref (ad 36))]) d_M_savedNow_48 rfl rfl (by decide) rfl ?_
        refine v_goto X.1 (tgt := 4) d_M_savedNow_51 (by decide) ?_
        refine v_sub [0, 1, 2] rfl ?_
        exact ih _ _ _ _ _ _ hf hk
      · rw [if_pos c8] at hf
        refine v_iconst X.1 (v := (1 : Int32)) d_M_savedNow_40 (by decide) ?_
        refine v_goto X.1 (tgt := 45) d_M_savedNow_41 (by decide) ?_
        refine v_iadd X.1 d_M_savedNow_45 ?_
        refine v_iadd X.1 d_M_savedNow_46 ?_
        refine v_istore_n X.1 (lv' := [(1, .int (a1 + ((((2 : Int32)) * (g 62 a2.toNatClampNeg)) + ((1 : Int32))))), (2, .int a2), (0, .ref (ad 36))]) d_M_savedNow_47 rfl (by decide) rfl ?_
        refine v_iinc X.1 (k0 := 1) (v := a2 + (1 : Int32)) (lv' := [(2, .int (a2 + (1 : Int32))), (1, .int (a1 + ((((2 : Int32)) * (g 62 a2.toNatClampNeg)) + ((1 : Int32))))), (0, .ref (ad 36))]) d_M_savedNow_48 rfl rfl (by decide) rfl ?_
        refine v_goto X.1 (tgt := 4) d_M_savedNow_51 (by decide) ?_
        refine v_sub [0, 1, 2] rfl ?_
        exact ih _ _ _ _ _ _ hf hk

set_option maxRecDepth 100000 in
set_option maxHeartbeats 4000000 in
theorem l_M_savedNow_L56 {p : Program} {e : Env} {s : State} {m : MethodId} {below : List Frame} {meth : Method} {c : Code} {D : va_G} {ad : Nat → Nat} {ca : Nat → ClassId} (l : Launch) (fu : Nat) (X : xX p s m ([.ref (ad 36)] : List Value).toArray meth c b_M_savedNow "CrossDockModel" 3 (some .int) D ad ca) (hno : c.exceptionTable.toList = []) {Q : State → Prop} : ∀ (n : Nat) (a1 : Int32) (a2 : Int32) (g : xSt) (a1' : Int32) (a2' : Int32) (g' : xSt), f_M_savedNow_L56 fu n a1 a2 g = some (a1', a2', g') → xV p l e ({ frames := 1, cells := 0, slots := 0, locals := 23 } : Room) s m ([.ref (ad 36)] : List Value).toArray below meth c D xcl (wX ad ca) (xA (wX ad ca) s.heap.size) 3 0 0 Q g' 92 [(2, .int a2'), (1, .int a1'), (0, .ref (ad 36))] [] → xV p l e ({ frames := 1, cells := 0, slots := 0, locals := 23 } : Room) s m ([.ref (ad 36)] : List Value).toArray below meth c D xcl (wX ad ca) (xA (wX ad ca) s.heap.size) 3 0 0 Q g 56 [(2, .int a2), (1, .int a1), (0, .ref (ad 36))] [] := by
  intro n
  induction n with
  | zero =>
    intro a1 a2 g a1' a2' g' hf
    rw [f_M_savedNow_L56] at hf
    cases hf
  | succ n ih =>
    intro a1 a2 g a1' a2' g' hf hk
    rw [f_M_savedNow_L56] at hf
    refine v_iload_n X.1 d_M_savedNow_56 rfl 0 rfl ?_
    refine v_aload_n X.1 d_M_savedNow_57 rfl 2 rfl ?_
    refine v_get X.1 (ci := 5) ⟨in_M, rfl⟩ 36 rfl 7 (by decide) (X.t tw_635 rfl) rfl d_M_savedNow_58 ?_
    refine v_icmp_ge X.1 (tgt := 92) d_M_savedNow_61 (by decide) (fun c13 => ?_) (fun c13 => ?_)
    · rw [if_pos c13] at hf
      cases hf
      refine v_sub [0, 1, 2] rfl ?_
      exact hk
    · rw [if_neg c13] at hf
      refine v_iload_n X.1 d_M_savedNow_64 rfl 1 rfl ?_
      refine v_aload_n X.1 d_M_savedNow_65 rfl 2 rfl ?_
      refine v_iload_n X.1 d_M_savedNow_66 rfl 0 rfl ?_
      obtain ⟨r15, g16, hc14, hf⟩ := ob2_some hf
      refine v_backI X.1 (x_runV X (c_M_hasGot l fu a2 _ _ _ hc14) rfl tw_815 tw_57 tw_812 tw_814 tw_48 36 5 rfl rfl rfl ⟨rfl, rfl, by decide, by decide⟩ ⟨by decide, by show _ = some 1; decide⟩ (rest := [.int a1]) rfl (Nat.le_of_ble_eq_true rfl) d_M_savedNow_67 (by decide) (by decide)) ?_
      refine v_aload_n X.1 d_M_savedNow_70 rfl 2 rfl ?_
      refine v_get X.1 (ci := 5) ⟨in_M, rfl⟩ 36 rfl 9 (by decide) (X.t tw_637 rfl) rfl d_M_savedNow_71 ?_
      refine v_iload_n X.1 d_M_savedNow_74 rfl 0 rfl ?_
      obtain ⟨hb17, hf⟩ := oi_none hf
      refine v_iald X.1 43 0 rfl rfl hb17 d_M_savedNow_75 ?_
      refine v_icmp_ne X.1 (tgt := 83) d_M_savedNow_76 (by decide) (fun c18 => ?_) (fun c18 => ?_)
      · rw [if_neg c18] at hf
        refine v_iconst X.1 (v := (0 : Int32)) d_M_savedNow_83 (by decide) ?_
        refine v_iadd X.1 d_M_savedNow_84 ?_
        refine v_istore_n X.1 (lv' := [(1, .int (a1 + ((0 : Int32)))), (2, .int a2), (0, .ref (ad 36))]) d_M_savedNow_85 rfl (by decide) rfl ?_
        refine v_iinc X.1 (k0 := 1) (v := a2 + (1 : Int32)) (lv' := [(2, .int (a2 + (1 : Int32))), (1, .int (a1 + ((0 : Int32)))), (0, .ref (ad 36))]) d_M_savedNow_86 rfl rfl (by decide) rfl ?_
        refine v_goto X.1 (tgt := 56) d_M_savedNow_89 (by decide) ?_
        refine v_sub [0, 1, 2] rfl ?_
        exact ih _ _ _ _ _ _ hf hk
      · rw [if_pos c18] at hf
        refine v_iconst X.1 (v := (3 : Int32)) d_M_savedNow_79 (by decide) ?_
        refine v_goto X.1 (tgt := 84) d_M_savedNow_80 (by decide) ?_
        refine v_iadd X.1 d_M_savedNow_84 ?_
        refine v_istore_n X.1 (lv' := [(1, .int (a1 + ((3 : Int32)))), (2, .int a2), (0, .ref (ad 36))]) d_M_savedNow_85 rfl (by decide) rfl ?_
        refine v_iinc X.1 (k0 := 1) (v := a2 + (1 : Int32)) (lv' := [(2, .int (a2 + (1 : Int32))), (1, .int (a1 + ((3 : Int32)))), (0, .ref (ad 36))]) d_M_savedNow_86 rfl rfl (by decide) rfl ?_
        refine v_goto X.1 (tgt := 56) d_M_savedNow_89 (by decide) ?_
        refine v_sub [0, 1, 2] rfl ?_
        exact ih _ _ _ _ _ _ hf hk

set_option maxRecDepth 100000 in
set_option maxHeartbeats 4000000 in
theorem c_M_savedNow (l : Launch) (fu : Nat) (g : xSt) (r : Int32) (g' : xSt) (hf : f_M_savedNow fu g = some (r, g')) : xM l y_M_savedNow (.code y_M_savedNow b_M_savedNow 3 (some .int)) ({ frames := 1, cells := 0, slots := 0, locals := 23 } : Room) (fun ad => [.ref (ad 36)]) g (.inl (some (.int r))) g' 0 0 := by
  refine x_contract (by decide) (fun _ => Nat.le_of_ble_eq_true rfl) ?_
  intro p e s m below meth c D ad ca X hno
  unfold f_M_savedNow at hf
  refine v_iconst X.1 (v := (0 : Int32)) d_M_savedNow_0 (by decide) ?_
  refine v_istore_n X.1 (lv' := [(1, .int ((0 : Int32))), (0, .ref (ad 36))]) d_M_savedNow_1 rfl (by decide) rfl ?_
  refine v_iconst X.1 (v := (0 : Int32)) d_M_savedNow_2 (by decide) ?_
  refine v_istore_n X.1 (lv' := [(2, .int ((0 : Int32))), (1, .int ((0 : Int32))), (0, .ref (ad 36))]) d_M_savedNow_3 rfl (by decide) rfl ?_
  obtain ⟨x9, x10, g11, hL12, hf⟩ := ob3_some hf
  refine l_M_savedNow_L4 l fu X hno fu _ _ _ _ _ _ hL12 ?_
  refine v_iconst X.1 (v := (0 : Int32)) d_M_savedNow_54 (by decide) ?_
  refine v_istore_n X.1 (lv' := [(2, .int ((0 : Int32))), (1, .int x9), (0, .ref (ad 36))]) d_M_savedNow_55 rfl (by decide) rfl ?_
  obtain ⟨x19, x20, g21, hL22, hf⟩ := ob3_some hf
  refine l_M_savedNow_L56 l fu X hno fu _ _ _ _ _ _ hL22 ?_
  refine v_iload_n X.1 d_M_savedNow_92 rfl 1 rfl ?_
  cases hf
  exact v_iret X.1 X.2.2.1 rfl d_M_savedNow_93 X.2.2.2.1 (by decide) (by decide)

def f_M_drop_L12 (fu : Nat) (p1 : Int32) : Nat → Int32 → xSt → Option (Int32 × xSt)
  | 0, _, _ => none
  | n + 1, a2, g => (if (g 43 0) ≤ a2 then some (a2, g) else (if (a2 + ((1 : Int32))) < 0 ∨ 64 ≤ (a2 + ((1 : Int32))).toNatClampNeg then none else (if a2 < 0 ∨ 64 ≤ a2.toNatClampNeg then none else (Option.bind (some (xw g 60 a2.toNatClampNeg (g 60 (a2 + ((1 : Int32))).toNatClampNeg))) (fun g6 => (if (a2 + ((1 : Int32))) < 0 ∨ 64 ≤ (a2 + ((1 : Int32))).toNatClampNeg then none else (if a2 < 0 ∨ 64 ≤ a2.toNatClampNeg then none else (Option.bind (some (xw g6 61 a2.toNatClampNeg (g6 61 (a2 + ((1 : Int32))).toNatClampNeg))) (fun g10 => (if (a2 + ((1 : Int32))) < 0 ∨ 64 ≤ (a2 + ((1 : Int32))).toNatClampNeg then none else (if a2 < 0 ∨ 64 ≤ a2.toNatClampNeg then none else (Option.bind (some (xw g10 62 a2.toNatClampNeg (g10 62 (a2 + ((1 : Int32))).toNatClampNeg))) (fun g14 => f_M_drop_L12 fu p1 n (a2 + (1 : Int32)) g14)))))))))))))

def f_M_drop (fu : Nat) (p1 : Int32) (g : xSt) : Option (xSt) := (Option.bind (some (xw g 43 0 ((g 43 0) - ((1 : Int32))))) (fun g1 => (ob2 (f_M_drop_L12 fu p1 fu p1 g1) (fun x16 g17 => some g17))))

set_option maxRecDepth 100000 in
set_option maxHeartbeats 4000000 in
theorem l_M_drop_L12 {p : Program} {e : Env} {s : State} {m : MethodId} {below : List Frame} {meth : Method} {c : Code} {D : va_G} {ad : Nat → Nat} {ca : Nat → ClassId} (l : Launch) (fu : Nat) (p1 : Int32) (X : xX p s m ([.ref (ad 36), .int p1] : List Value).toArray meth c b_M_drop "CrossDockModel" 3 none D ad ca) (hno : c.exceptionTable.toList = []) {Q : State → Prop} : ∀ (n : Nat) (a2 : Int32) (g : xSt) (a2' : Int32) (g' : xSt), f_M_drop_L12 fu p1 n a2 g = some (a2', g') → xV p l e ({ frames := 0, cells := 0, slots := 0, locals := 0 } : Room) s m ([.ref (ad 36), .int p1] : List Value).toArray below meth c D xcl (wX ad ca) (xA (wX ad ca) s.heap.size) 3 0 0 Q g' 68 [(2, .int a2'), (0, .ref (ad 36)), (1, .int p1)] [] → xV p l e ({ frames := 0, cells := 0, slots := 0, locals := 0 } : Room) s m ([.ref (ad 36), .int p1] : List Value).toArray below meth c D xcl (wX ad ca) (xA (wX ad ca) s.heap.size) 3 0 0 Q g 12 [(2, .int a2), (0, .ref (ad 36)), (1, .int p1)] [] := by
  intro n
  induction n with
  | zero =>
    intro a2 g a2' g' hf
    rw [f_M_drop_L12] at hf
    cases hf
  | succ n ih =>
    intro a2 g a2' g' hf hk
    rw [f_M_drop_L12] at hf
    refine v_iload_n X.1 d_M_drop_12 rfl 0 rfl ?_
    refine v_aload_n X.1 d_M_drop_13 rfl 1 rfl ?_
    refine v_get X.1 (ci := 5) ⟨in_M, rfl⟩ 36 rfl 16 (by decide) (X.t tw_644 rfl) rfl d_M_drop_14 ?_
    refine v_icmp_ge X.1 (tgt := 68) d_M_drop_17 (by decide) (fun c3 => ?_) (fun c3 => ?_)
    · rw [if_pos c3] at hf
      cases hf
      refine v_sub [0, 1, 2] rfl ?_
      exact hk
    · rw [if_neg c3] at hf
      refine v_aload_n X.1 d_M_drop_20 rfl 1 rfl ?_
      refine v_get X.1 (ci := 5) ⟨in_M, rfl⟩ 36 rfl 17 (by decide) (X.t tw_645 rfl) rfl d_M_drop_21 ?_
      refine v_iload_n X.1 d_M_drop_24 rfl 0 rfl ?_
      refine v_aload_n X.1 d_M_drop_25 rfl 1 rfl ?_
      refine v_get X.1 (ci := 5) ⟨in_M, rfl⟩ 36 rfl 17 (by decide) (X.t tw_645 rfl) rfl d_M_drop_26 ?_
      refine v_iload_n X.1 d_M_drop_29 rfl 0 rfl ?_
      refine v_iconst X.1 (v := (1 : Int32)) d_M_drop_30 (by decide) ?_
      refine v_iadd X.1 d_M_drop_31 ?_
      obtain ⟨hb4, hf⟩ := oi_none hf
      refine v_iald X.1 50 0 rfl rfl hb4 d_M_drop_32 ?_
      obtain ⟨hb5, hf⟩ := oi_none hf
      obtain ⟨g6, eg7, hf⟩ := ob_some hf
      refine v_iast X.1 50 0 rfl rfl hb5 ((sa_60 ad ca _ _ _).trans (congrArg (wX ad ca) (Option.some.inj eg7))) d_M_drop_33 ?_
      refine v_aload_n X.1 d_M_drop_34 rfl 1 rfl ?_
      refine v_get X.1 (ci := 5) ⟨in_M, rfl⟩ 36 rfl 18 (by decide) (X.t tw_646 rfl) rfl d_M_drop_35 ?_
      refine v_iload_n X.1 d_M_drop_38 rfl 0 rfl ?_
      refine v_aload_n X.1 d_M_drop_39 rfl 1 rfl ?_
      refine v_get X.1 (ci := 5) ⟨in_M, rfl⟩ 36 rfl 18 (by decide) (X.t tw_646 rfl) rfl d_M_drop_40 ?_
      refine v_iload_n X.1 d_M_drop_43 rfl 0 rfl ?_
      refine v_iconst X.1 (v := (1 : Int32)) d_M_drop_44 (by decide) ?_
      refine v_iadd X.1 d_M_drop_45 ?_
      obtain ⟨hb8, hf⟩ := oi_none hf
      refine v_iald X.1 51 0 rfl rfl hb8 d_M_drop_46 ?_
      obtain ⟨hb9, hf⟩ := oi_none hf
      obtain ⟨g10, eg11, hf⟩ := ob_some hf
      refine v_iast X.1 51 0 rfl rfl hb9 ((sa_61 ad ca _ _ _).trans (congrArg (wX ad ca) (Option.some.inj eg11))) d_M_drop_47 ?_
      refine v_aload_n X.1 d_M_drop_48 rfl 1 rfl ?_
      refine v_get X.1 (ci := 5) ⟨in_M, rfl⟩ 36 rfl 19 (by decide) (X.t tw_647 rfl) rfl d_M_drop_49 ?_
      refine v_iload_n X.1 d_M_drop_52 rfl 0 rfl ?_
      refine v_aload_n X.1 d_M_drop_53 rfl 1 rfl ?_
      refine v_get X.1 (ci := 5) ⟨in_M, rfl⟩ 36 rfl 19 (by decide) (X.t tw_647 rfl) rfl d_M_drop_54 ?_
      refine v_iload_n X.1 d_M_drop_57 rfl 0 rfl ?_
      refine v_iconst X.1 (v := (1 : Int32)) d_M_drop_58 (by decide) ?_
      refine v_iadd X.1 d_M_drop_59 ?_
      obtain ⟨hb12, hf⟩ := oi_none hf
      refine v_iald X.1 52 0 rfl rfl hb12 d_M_drop_60 ?_
      obtain ⟨hb13, hf⟩ := oi_none hf
      obtain ⟨g14, eg15, hf⟩ := ob_some hf
      refine v_iast X.1 52 0 rfl rfl hb13 ((sa_62 ad ca _ _ _).trans (congrArg (wX ad ca) (Option.some.inj eg15))) d_M_drop_61 ?_
      refine v_iinc X.1 (k0 := 0) (v := a2 + (1 : Int32)) (lv' := [(2, .int (a2 + (1 : Int32))), (0, .ref (ad 36)), (1, .int p1)]) d_M_drop_62 rfl rfl (by decide) rfl ?_
      refine v_goto X.1 (tgt := 12) d_M_drop_65 (by decide) ?_
      refine v_sub [0, 1, 2] rfl ?_
      exact ih _ _ _ _ hf hk

set_option maxRecDepth 100000 in
set_option maxHeartbeats 4000000 in
theorem c_M_drop (l : Launch) (fu : Nat) (p1 : Int32) (g : xSt) (g' : xSt) (hf : f_M_drop fu p1 g = some g') : xM l y_M_drop (.code y_M_drop b_M_drop 3 none) ({ frames := 0, cells := 0, slots := 0, locals := 0 } : Room) (fun ad => [.ref (ad 36), .int p1]) g (.inl none) g' 0 0 := by
  refine x_contract (by decide) (fun _ => Nat.le_of_ble_eq_true rfl) ?_
  intro p e s m below meth c D ad ca X hno
  unfold f_M_drop at hf
  refine v_aload_n X.1 d_M_drop_0 rfl 0 rfl ?_
  refine v_dup X.1 d_M_drop_1 rfl ?_
  refine v_get X.1 (ci := 5) ⟨in_M, rfl⟩ 36 rfl 16 (by decide) (X.t tw_644 rfl) rfl d_M_drop_2 ?_
  refine v_iconst X.1 (v := (1 : Int32)) d_M_drop_5 (by decide) ?_
  refine v_isub X.1 d_M_drop_6 ?_
  obtain ⟨g1, eg2, hf⟩ := ob_some hf
  refine v_put X.1 (ci := 5) ⟨in_M, rfl⟩ 36 rfl 16 (by decide) ⟨ty_M_ok, nm_M⟩ (X.t tw_644 rfl) rfl (ty := .int) (by decide +kernel) rfl rfl (Nat.le_of_ble_eq_true rfl) ((sw_43 ad ca _ _).trans (congrArg (wX ad ca) (Option.some.inj eg2))) d_M_drop_7 ?_
  refine v_iload_n X.1 d_M_drop_10 rfl 1 rfl ?_
  refine v_istore_n X.1 (lv' := [(2, .int p1), (0, .ref (ad 36)), (1, .int p1)]) d_M_drop_11 rfl (by decide) rfl ?_
  obtain ⟨x16, g17, hL18, hf⟩ := ob2_some hf
  refine l_M_drop_L12 l fu p1 X hno fu _ _ _ _ hL18 ?_
  cases hf
  exact v_vret X.1 X.2.2.1 d_M_drop_68 X.2.2.2.1 (by decide) (by decide)

def f_M_passing_L5 (fu : Nat) (p1 : Int32) (p2 : Int32) : Nat → Int32 → Int32 → xSt → Option (Int32 × Int32 × xSt)
  | 0, _, _, _ => none
  | n + 1, a3, a4, g => (if (g 41 0) ≤ a4 then some (a3, a4, g) else (ob2 (f_M_passes a4 p1 p2 g) (fun r3 g4 => (if r3 = 0 then f_M_passing_L5 fu p1 p2 n (a3 + ((0 : Int32))) (a4 + (1 : Int32)) g4 else f_M_passing_L5 fu p1 p2 n (a3 + ((1 : Int32))) (a4 + (1 : Int32)) g4))))

def f_M_passing (fu : Nat) (p1 : Int32) (p2 : Int32) (g : xSt) : Option (Int32 × xSt) := (ob3 (f_M_passing_L5 fu p1 p2 fu ((0 : Int32)) ((0 : Int32)) g) (fun x6 x7 g8 => some (x6, g8)))

set_option maxRecDepth 100000 in
set_option maxHeartbeats 4000000 in
theorem l_M_passing_L5 {p : Program} {e : Env} {s : State} {m : MethodId} {below : List Frame} {meth : Method} {c : Code} {D : va_G} {ad : Nat → Nat} {ca : Nat → ClassId} (l : Launch) (fu : Nat) (p1 : Int32) (p2 : Int32) (X : xX p s m ([.ref (ad 36), .int p1, .int p2] : List Value).toArray meth c b_M_passing "CrossDockModel" 5 (some .int) D ad ca) (hno : c.exceptionTable.toList = []) {Q : State → Prop} : ∀ (n : Nat) (a3 : Int32) (a4 : Int32) (g : xSt) (a3' : Int32) (a4' : Int32) (g' : xSt), f_M_passing_L5 fu p1 p2 n a3 a4 g = some (a3', a4', g') → xV p l e ({ frames := 1, cells := 0, slots := 0, locals := 23 } : Room) s m ([.ref (ad 36), .int p1, .int p2] : List Value).toArray below meth c D xcl (wX ad ca) (xA (wX ad ca) s.heap.size) 5 0 0 Q g' 39 [(4, .int a4'), (3, .int a3'), (0, .ref (ad 36)), (1, .int p1), (2, .int p2)] [] → xV p l e ({ frames := 1, cells := 0, slots := 0, locals := 23 } : Room) s m ([.ref (ad 36), .int p1, .int p2] : List Value).toArray below meth c D xcl (wX ad ca) (xA (wX ad ca) s.heap.size) 5 0 0 Q g 5 [(4, .int a4), (3, .int a3), (0, .ref (ad 36)), (1, .int p1), (2, .int p2)] [] := by
  intro n
  induction n with
  | zero =>
    intro a3 a4 g a3' a4' g' hf
    rw [f_M_passing_L5] at hf
    cases hf
  | succ n ih =>
    intro a3 a4 g a3' a4' g' hf hk
    rw [f_M_passing_L5] at hf
    refine v_iload X.1 d_M_passing_5 0 rfl ?_
    refine v_aload_n X.1 d_M_passing_7 rfl 2 rfl ?_
    refine v_get X.1 (ci := 5) ⟨in_M, rfl⟩ 36 rfl 1 (by decide) (X.t tw_629 rfl) rfl d_M_passing_8 ?_
    refine v_icmp_ge X.1 (tgt := 39) d_M_passing_11 (by decide) (fun c1 => ?_) (fun c1 => ?_)
    · rw [if_pos c1] at hf
      cases hf
      refine v_sub [0, 1, 2, 3, 4] rfl ?_
      exact hk
    · rw [if_neg c1] at hf
      refine v_iload_n X.1 d_M_passing_14 rfl 1 rfl ?_
      refine v_aload_n X.1 d_M_passing_15 rfl 2 rfl ?_
      refine v_iload X.1 d_M_passing_16 0 rfl ?_
      refine v_iload_n X.1 d_M_passing_18 rfl 3 rfl ?_
      refine v_iload_n X.1 d_M_passing_19 rfl 4 rfl ?_
      obtain ⟨r3, g4, hc2, hf⟩ := ob2_some hf
      refine v_backI X.1 (x_runV X (c_M_passes l a4 p1 p2 _ _ _ hc2) rfl tw_759 tw_57 tw_756 tw_758 tw_36 36 5 rfl rfl rfl ⟨rfl, rfl, by decide, by decide⟩ ⟨by decide, by show _ = some 3; decide⟩ (rest := [.int a3]) rfl (Nat.le_of_ble_eq_true rfl) d_M_passing_20 (by decide) (by decide)) ?_
      refine v_if_eq X.1 (tgt := 30) d_M_passing_23 (by decide) (fun c5 => ?_) (fun c5 => ?_)
      · rw [if_pos c5] at hf
        refine v_iconst X.1 (v := (0 : Int32)) d_M_passing_30 (by decide) ?_
        refine v_iadd X.1 d_M_passing_31 ?_
        refine v_istore_n X.1 (lv' := [(3, .int (a3 + ((0 : Int32)))), (4, .int a4), (0, .ref (ad 36)), (1, .int p1), (2, .int p2)]) d_M_passing_32 rfl (by decide) rfl ?_
        refine v_iinc X.1 (k0 := 1) (v := a4 + (1 : Int32)) (lv' := [(4, .int (a4 + (1 : Int32))), (3, .int (a3 + ((0 : Int32)))), (0, .ref (ad 36)), (1, .int p1), (2, .int p2)]) d_M_passing_33 rfl rfl (by decide) rfl ?_
        refine v_goto X.1 (tgt := 5) d_M_passing_36 (by decide) ?_
        refine v_sub [0, 1, 2, 3, 4] rfl ?_
        exact ih _ _ _ _ _ _ hf hk
      · rw [if_neg c5] at hf
        refine v_iconst X.1 (v := (1 : Int32)) d_M_passing_26 (by decide) ?_
        refine v_goto X.1 (tgt := 31) d_M_passing_27 (by decide) ?_
        refine v_iadd X.1 d_M_passing_31 ?_
        refine v_istore_n X.1 (lv' := [(3, .int (a3 + ((1 : Int32)))), (4, .int a4), (0, .ref (ad 36)), (1, .int p1), (2, .int p2)]) d_M_passing_32 rfl (by decide) rfl ?_
        refine v_iinc X.1 (k0 := 1) (v := a4 + (1 : Int32)) (lv' := [(4, .int (a4 + (1 : Int32))), (3, .int (a3 + ((1 : Int32)))), (0, .ref (ad 36)), (1, .int p1), (2, .int p2)]) d_M_passing_33 rfl rfl (by decide) rfl ?_
        refine v_goto X.1 (tgt := 5) d_M_passing_36 (by decide) ?_
        refine v_sub [0, 1, 2, 3, 4] rfl ?_
        exact ih _ _ _ _ _ _ hf hk

set_option maxRecDepth 100000 in
set_option maxHeartbeats 4000000 in
theorem c_M_passing (l : Launch) (fu : Nat) (p1 : Int32) (p2 : Int32) (g : xSt) (r : Int32) (g' : xSt) (hf : f_M_passing fu p1 p2 g = some (r, g')) : xM l y_M_passing (.code y_M_passing b_M_passing 5 (some .int)) ({ frames := 1, cells := 0, slots := 0, locals := 23 } : Room) (fun ad => [.ref (ad 36), .int p1, .int p2]) g (.inl (some (.int r))) g' 0 0 := by
  refine x_contract (by decide) (fun _ => Nat.le_of_ble_eq_true rfl) ?_
  intro p e s m below meth c D ad ca X hno
  unfold f_M_passing at hf
  refine v_iconst X.1 (v := (0 : Int32)) d_M_passing_0 (by decide) ?_
  refine v_istore_n X.1 (lv' := [(3, .int ((0 : Int32))), (0, .ref (ad 36)), (1, .int p1), (2, .int p2)]) d_M_passing_1 rfl (by decide) rfl ?_
  refine v_iconst X.1 (v := (0 : Int32)) d_M_passing_2 (by decide) ?_
  refine v_istore X.1 (lv' := [(4, .int ((0 : Int32))), (3, .int ((0 : Int32))), (0, .ref (ad 36)), (1, .int p1), (2, .int p2)]) d_M_passing_3 (by decide) rfl ?_
  obtain ⟨x6, x7, g8, hL9, hf⟩ := ob3_some hf
  refine l_M_passing_L5 l fu p1 p2 X hno fu _ _ _ _ _ _ hL9 ?_
  refine v_iload_n X.1 d_M_passing_39 rfl 1 rfl ?_
  cases hf
  exact v_iret X.1 X.2.2.1 rfl d_M_passing_40 X.2.2.2.1 (by decide) (by decide)

