def f_L_arrive (p2 : Int32) (p3 : Int32) (p4 : Int32) (p5 : Int32) (g : xSt) : Option (Int32 × xSt) := (obC (f_D_arrive p2 p3 p4 p5 g) (fun r2 g3 => (Option.bind (some (xw g3 68 0 r2)) (fun g9 => some ((0 : Int32), g9)))) (fun k gq => (if k = 0 then some ((1 : Int32), gq) else (if k = 1 then some ((2 : Int32), gq) else none))))

set_option maxRecDepth 100000 in
set_option maxHeartbeats 4000000 in
theorem c_L_arrive (l : Launch) (hfl : l.stackTraces = false) (p2 : Int32) (p3 : Int32) (p4 : Int32) (p5 : Int32) (g : xSt) (r : Int32) (g' : xSt) (hf : f_L_arrive p2 p3 p4 p5 g = some (r, g')) : xM l y_L_arrive (.codeWith y_L_arrive b_L_arrive 7 (some .int) [(0, 14, 17, 13), (0, 14, 21, 15)]) ({ frames := 8, cells := 5, slots := 30, locals := 129 } : Room) (fun ad => [.ref (ad 0), .int p2, .int p3, .int p4, .int p5, .ref (ad 58)]) g (.inl (some (.int r))) g' 5 30 := by
  refine x_contractH (by decide) (fun _ => Nat.le_of_ble_eq_true rfl) ?_
  intro p e s m below meth c D ad ca X htab
  unfold f_L_arrive at hf
  refine v_aload X.1 d_L_arrive_0 5 rfl ?_
  refine v_iconst X.1 (v := (0 : Int32)) d_L_arrive_2 (by decide) ?_
  refine v_aload_n X.1 d_L_arrive_3 rfl 0 rfl ?_
  refine v_iload_n X.1 d_L_arrive_4 rfl 1 rfl ?_
  refine v_iload_n X.1 d_L_arrive_5 rfl 2 rfl ?_
  refine v_iload_n X.1 d_L_arrive_6 rfl 3 rfl ?_
  refine v_iload X.1 d_L_arrive_7 4 rfl ?_
  rcases obC_some hf with ⟨r2, g3, hc1, hf⟩ | ⟨k4, r2, g3, hc1, hf⟩
  rotate_left
  · skip
    by_cases hk5 : k4 = 0
    · subst hk5
      rw [if_pos rfl] at hf
      refine v_catch X (x_runV X (c_D_arrive l hfl p2 p3 p4 p5 _ _ _ _ hc1) rfl tw_318 tw_52 tw_315 tw_316 tw_317 0 0 rfl rfl rfl ⟨rfl, rfl, by decide, by decide⟩ ⟨by decide, by show _ = some 4; decide⟩ (rest := [.int ((0 : Int32)), .ref (ad 58)]) rfl (Nat.le_of_ble_eq_true rfl) d_L_arrive_9 (by decide) (by decide)) [(⟨0, 14, 17, 13⟩, "java/lang/IllegalArgumentException"), (⟨0, 14, 21, 15⟩, "java/lang/UnsupportedOperationException")] (htab.trans rfl) (hd := 17) (by decide) (by decide) (by decide +kernel) (by decide +kernel) (fun b6 => ?_)
      refine v_astore X.1 (lv' := [(6, .ref b6), (0, .ref (ad 0)), (1, .int p2), (2, .int p3), (3, .int p4), (4, .int p5), (5, .ref (ad 58))]) d_L_arrive_17 (by decide) rfl ?_
      refine v_iconst X.1 (v := (1 : Int32)) d_L_arrive_19 (by decide) ?_
      cases hf
      exact v_iret X.1 X.2.2.1 rfl d_L_arrive_20 X.2.2.2.1 (by decide) (by decide)
    rw [if_neg hk5] at hf
    by_cases hk7 : k4 = 1
    · subst hk7
      rw [if_pos rfl] at hf
      refine v_catch X (x_runV X (c_D_arrive l hfl p2 p3 p4 p5 _ _ _ _ hc1) rfl tw_318 tw_52 tw_315 tw_316 tw_317 0 0 rfl rfl rfl ⟨rfl, rfl, by decide, by decide⟩ ⟨by decide, by show _ = some 4; decide⟩ (rest := [.int ((0 : Int32)), .ref (ad 58)]) rfl (Nat.le_of_ble_eq_true rfl) d_L_arrive_9 (by decide) (by decide)) [(⟨0, 14, 17, 13⟩, "java/lang/IllegalArgumentException"), (⟨0, 14, 21, 15⟩, "java/lang/UnsupportedOperationException")] (htab.trans rfl) (hd := 21) (by decide) (by decide) (by decide +kernel) (by decide +kernel) (fun b8 => ?_)
      refine v_astore X.1 (lv' := [(6, .ref b8), (0, .ref (ad 0)), (1, .int p2), (2, .int p3), (3, .int p4), (4, .int p5), (5, .ref (ad 58))]) d_L_arrive_21 (by decide) rfl ?_
      refine v_iconst X.1 (v := (2 : Int32)) d_L_arrive_23 (by decide) ?_
      cases hf
      exact v_iret X.1 X.2.2.1 rfl d_L_arrive_24 X.2.2.2.1 (by decide) (by decide)
    rw [if_neg hk7] at hf
    cases hf
  refine v_backI X.1 (x_runV X (c_D_arrive l hfl p2 p3 p4 p5 _ _ _ _ hc1) rfl tw_318 tw_52 tw_315 tw_316 tw_317 0 0 rfl rfl rfl ⟨rfl, rfl, by decide, by decide⟩ ⟨by decide, by show _ = some 4; decide⟩ (rest := [.int ((0 : Int32)), .ref (ad 58)]) rfl (Nat.le_of_ble_eq_true rfl) d_L_arrive_9 (by decide) (by decide)) ?_
  refine v_i2l X.1 d_L_arrive_12 rfl ?_
  obtain ⟨g9, eg10, hf⟩ := ob_some hf
  refine v_last X (x := r2) (Option.some.inj eg10) d_L_arrive_13 ?_
  refine v_goto X.1 (tgt := 25) d_L_arrive_14 (by decide) ?_
  refine v_iconst X.1 (v := (0 : Int32)) d_L_arrive_25 (by decide) ?_
  cases hf
  exact v_iret X.1 X.2.2.1 rfl d_L_arrive_26 X.2.2.2.1 (by decide) (by decide)

def f_L_order (p2 : Int32) (p3 : Int32) (p4 : Int32) (p5 : Int32) (g : xSt) : Option (Int32 × xSt) := (obC (f_D_order p2 p3 p4 p5 g) (fun r2 g3 => (Option.bind (some (xw g3 68 0 r2)) (fun g9 => some ((0 : Int32), g9)))) (fun k gq => (if k = 0 then some ((1 : Int32), gq) else (if k = 1 then some ((2 : Int32), gq) else none))))

set_option maxRecDepth 100000 in
set_option maxHeartbeats 4000000 in
theorem c_L_order (l : Launch) (hfl : l.stackTraces = false) (p2 : Int32) (p3 : Int32) (p4 : Int32) (p5 : Int32) (g : xSt) (r : Int32) (g' : xSt) (hf : f_L_order p2 p3 p4 p5 g = some (r, g')) : xM l y_L_order (.codeWith y_L_order b_L_order 7 (some .int) [(0, 14, 17, 13), (0, 14, 21, 15)]) ({ frames := 8, cells := 5, slots := 30, locals := 129 } : Room) (fun ad => [.ref (ad 0), .int p2, .int p3, .int p4, .int p5, .ref (ad 58)]) g (.inl (some (.int r))) g' 5 30 := by
  refine x_contractH (by decide) (fun _ => Nat.le_of_ble_eq_true rfl) ?_
  intro p e s m below meth c D ad ca X htab
  unfold f_L_order at hf
  refine v_aload X.1 d_L_order_0 5 rfl ?_
  refine v_iconst X.1 (v := (0 : Int32)) d_L_order_2 (by decide) ?_
  refine v_aload_n X.1 d_L_order_3 rfl 0 rfl ?_
  refine v_iload_n X.1 d_L_order_4 rfl 1 rfl ?_
  refine v_iload_n X.1 d_L_order_5 rfl 2 rfl ?_
  refine v_iload_n X.1 d_L_order_6 rfl 3 rfl ?_
  refine v_iload X.1 d_L_order_7 4 rfl ?_
  rcases obC_some hf with ⟨r2, g3, hc1, hf⟩ | ⟨k4, r2, g3, hc1, hf⟩
  rotate_left
  · skip
    by_cases hk5 : k4 = 0
    · subst hk5
      rw [if_pos rfl] at hf
      refine v_catch X (x_runV X (c_D_order l hfl p2 p3 p4 p5 _ _ _ _ hc1) rfl tw_416 tw_52 tw_413 tw_414 tw_415 0 0 rfl rfl rfl ⟨rfl, rfl, by decide, by decide⟩ ⟨by decide, by show _ = some 4; decide⟩ (rest := [.int ((0 : Int32)), .ref (ad 58)]) rfl (Nat.le_of_ble_eq_true rfl) d_L_order_9 (by decide) (by decide)) [(⟨0, 14, 17, 13⟩, "java/lang/IllegalArgumentException"), (⟨0, 14, 21, 15⟩, "java/lang/UnsupportedOperationException")] (htab.trans rfl) (hd := 17) (by decide) (by decide) (by decide +kernel) (by decide +kernel) (fun b6 => ?_)
      refine v_astore X.1 (lv' := [(6, .ref b6), (0, .ref (ad 0)), (1, .int p2), (2, .int p3), (3, .int p4), (4, .int p5), (5, .ref (ad 58))]) d_L_order_17 (by decide) rfl ?_
      refine v_iconst X.1 (v := (1 : Int32)) d_L_order_19 (by decide) ?_
      cases hf
      exact v_iret X.1 X.2.2.1 rfl d_L_order_20 X.2.2.2.1 (by decide) (by decide)
    rw [if_neg hk5] at hf
    by_cases hk7 : k4 = 1
    · subst hk7
      rw [if_pos rfl] at hf
      refine v_catch X (x_runV X (c_D_order l hfl p2 p3 p4 p5 _ _ _ _ hc1) rfl tw_416 tw_52 tw_413 tw_414 tw_415 0 0 rfl rfl rfl ⟨rfl, rfl, by decide, by decide⟩ ⟨by decide, by show _ = some 4; decide⟩ (rest := [.int ((0 : Int32)), .ref (ad 58)]) rfl (Nat.le_of_ble_eq_true rfl) d_L_order_9 (by decide) (by decide)) [(⟨0, 14, 17, 13⟩, "java/lang/IllegalArgumentException"), (⟨0, 14, 21, 15⟩, "java/lang/UnsupportedOperationException")] (htab.trans rfl) (hd := 21) (by decide) (by decide) (by decide +kernel) (by decide +kernel) (fun b8 => ?_)
      refine v_astore X.1 (lv' := [(6, .ref b8), (0, .ref (ad 0)), (1, .int p2), (2, .int p3), (3, .int p4), (4, .int p5), (5, .ref (ad 58))]) d_L_order_21 (by decide) rfl ?_
      refine v_iconst X.1 (v := (2 : Int32)) d_L_order_23 (by decide) ?_
      cases hf
      exact v_iret X.1 X.2.2.1 rfl d_L_order_24 X.2.2.2.1 (by decide) (by decide)
    rw [if_neg hk7] at hf
    cases hf
  refine v_backI X.1 (x_runV X (c_D_order l hfl p2 p3 p4 p5 _ _ _ _ hc1) rfl tw_416 tw_52 tw_413 tw_414 tw_415 0 0 rfl rfl rfl ⟨rfl, rfl, by decide, by decide⟩ ⟨by decide, by show _ = some 4; decide⟩ (rest := [.int ((0 : Int32)), .ref (ad 58)]) rfl (Nat.le_of_ble_eq_true rfl) d_L_order_9 (by decide) (by decide)) ?_
  refine v_i2l X.1 d_L_order_12 rfl ?_
  obtain ⟨g9, eg10, hf⟩ := ob_some hf
  refine v_last X (x := r2) (Option.some.inj eg10) d_L_order_13 ?_
  refine v_goto X.1 (tgt := 25) d_L_order_14 (by decide) ?_
  refine v_iconst X.1 (v := (0 : Int32)) d_L_order_25 (by decide) ?_
  cases hf
  exact v_iret X.1 X.2.2.1 rfl d_L_order_26 X.2.2.2.1 (by decide) (by decide)

def f_L_wants (p2 : Int32) (p3 : Int32) (p4 : Int32) (g : xSt) : Option (Int32 × xSt) := (obC (f_D_wants p2 p3 p4 g) (fun r2 g3 => some ((0 : Int32), g3)) (fun k gq => (if k = 2 then some ((1 : Int32), gq) else (if k = 0 then some ((2 : Int32), gq) else none))))

set_option maxRecDepth 100000 in
set_option maxHeartbeats 4000000 in
theorem c_L_wants (l : Launch) (hfl : l.stackTraces = false) (p2 : Int32) (p3 : Int32) (p4 : Int32) (g : xSt) (r : Int32) (g' : xSt) (hf : f_L_wants p2 p3 p4 g = some (r, g')) : xM l y_L_wants (.codeWith y_L_wants b_L_wants 5 (some .int) [(0, 7, 10, 24), (0, 7, 14, 13)]) ({ frames := 8, cells := 3, slots := 18, locals := 127 } : Room) (fun ad => [.ref (ad 0), .int p2, .int p3, .int p4]) g (.inl (some (.int r))) g' 3 18 := by
  refine x_contractH (by decide) (fun _ => Nat.le_of_ble_eq_true rfl) ?_
  intro p e s m below meth c D ad ca X htab
  unfold f_L_wants at hf
  refine v_aload_n X.1 d_L_wants_0 rfl 0 rfl ?_
  refine v_iload_n X.1 d_L_wants_1 rfl 1 rfl ?_
  refine v_iload_n X.1 d_L_wants_2 rfl 2 rfl ?_
  refine v_iload_n X.1 d_L_wants_3 rfl 3 rfl ?_
  rcases obC_some hf with ⟨r2, g3, hc1, hf⟩ | ⟨k4, r2, g3, hc1, hf⟩
  rotate_left
  · skip
    by_cases hk5 : k4 = 2
    · subst hk5
      rw [if_pos rfl] at hf
      refine v_catch X (x_runV X (c_D_wants l hfl p2 p3 p4 _ _ _ _ hc1) rfl tw_424 tw_52 tw_421 tw_422 tw_423 0 0 rfl rfl rfl ⟨rfl, rfl, by decide, by decide⟩ ⟨by decide, by show _ = some 3; decide⟩ (rest := []) rfl (Nat.le_of_ble_eq_true rfl) d_L_wants_4 (by decide) (by decide)) [(⟨0, 7, 10, 24⟩, "java/util/NoSuchElementException"), (⟨0, 7, 14, 13⟩, "java/lang/IllegalArgumentException")] (htab.trans rfl) (hd := 10) (by decide) (by decide) (by decide +kernel) (by decide +kernel) (fun b6 => ?_)
      refine v_astore X.1 (lv' := [(4, .ref b6), (0, .ref (ad 0)), (1, .int p2), (2, .int p3), (3, .int p4)]) d_L_wants_10 (by decide) rfl ?_
      refine v_iconst X.1 (v := (1 : Int32)) d_L_wants_12 (by decide) ?_
      cases hf
      exact v_iret X.1 X.2.2.1 rfl d_L_wants_13 X.2.2.2.1 (by decide) (by decide)
    rw [if_neg hk5] at hf
    by_cases hk7 : k4 = 0
    · subst hk7
      rw [if_pos rfl] at hf
      refine v_catch X (x_runV X (c_D_wants l hfl p2 p3 p4 _ _ _ _ hc1) rfl tw_424 tw_52 tw_421 tw_422 tw_423 0 0 rfl rfl rfl ⟨rfl, rfl, by decide, by decide⟩ ⟨by decide, by show _ = some 3; decide⟩ (rest := []) rfl (Nat.le_of_ble_eq_true rfl) d_L_wants_4 (by decide) (by decide)) [(⟨0, 7, 10, 24⟩, "java/util/NoSuchElementException"), (⟨0, 7, 14, 13⟩, "java/lang/IllegalArgumentException")] (htab.trans rfl) (hd := 14) (by decide) (by decide) (by decide +kernel) (by decide +kernel) (fun b8 => ?_)
      refine v_astore X.1 (lv' := [(4, .ref b8), (0, .ref (ad 0)), (1, .int p2), (2, .int p3), (3, .int p4)]) d_L_wants_14 (by decide) rfl ?_
      refine v_iconst X.1 (v := (2 : Int32)) d_L_wants_16 (by decide) ?_
      cases hf
      exact v_iret X.1 X.2.2.1 rfl d_L_wants_17 X.2.2.2.1 (by decide) (by decide)
    rw [if_neg hk7] at hf
    cases hf
  refine v_backV X.1 (x_runV X (c_D_wants l hfl p2 p3 p4 _ _ _ _ hc1) rfl tw_424 tw_52 tw_421 tw_422 tw_423 0 0 rfl rfl rfl ⟨rfl, rfl, by decide, by decide⟩ ⟨by decide, by show _ = some 3; decide⟩ (rest := []) rfl (Nat.le_of_ble_eq_true rfl) d_L_wants_4 (by decide) (by decide)) ?_
  refine v_goto X.1 (tgt := 18) d_L_wants_7 (by decide) ?_
  refine v_iconst X.1 (v := (0 : Int32)) d_L_wants_18 (by decide) ?_
  cases hf
  exact v_iret X.1 X.2.2.1 rfl d_L_wants_19 X.2.2.2.1 (by decide) (by decide)

def f_L_promised (fu : Nat) (p2 : Int32) (p3 : Int32) (g : xSt) : Option (Int32 × xSt) := (obC (f_D_promised fu p2 p3 g) (fun r2 g3 => some ((0 : Int32), g3)) (fun k gq => (if k = 2 then some ((1 : Int32), gq) else (if k = 0 then some ((2 : Int32), gq) else (if k = 3 then some ((3 : Int32), gq) else none)))))

set_option maxRecDepth 100000 in
set_option maxHeartbeats 4000000 in
theorem c_L_promised (l : Launch) (hfl : l.stackTraces = false) (fu : Nat) (p2 : Int32) (p3 : Int32) (g : xSt) (r : Int32) (g' : xSt) (hf : f_L_promised fu p2 p3 g = some (r, g')) : xM l y_L_promised (.codeWith y_L_promised b_L_promised 4 (some .int) [(0, 6, 9, 24), (0, 6, 12, 13), (0, 6, 15, 30)]) ({ frames := 8, cells := 3, slots := 18, locals := 127 } : Room) (fun ad => [.ref (ad 0), .int p2, .int p3]) g (.inl (some (.int r))) g' 3 18 := by
  refine x_contractH (by decide) (fun _ => Nat.le_of_ble_eq_true rfl) ?_
  intro p e s m below meth c D ad ca X htab
  unfold f_L_promised at hf
  refine v_aload_n X.1 d_L_promised_0 rfl 0 rfl ?_
  refine v_iload_n X.1 d_L_promised_1 rfl 1 rfl ?_
  refine v_iload_n X.1 d_L_promised_2 rfl 2 rfl ?_
  rcases obC_some hf with ⟨r2, g3, hc1, hf⟩ | ⟨k4, r2, g3, hc1, hf⟩
  rotate_left
  · skip
    by_cases hk5 : k4 = 2
    · subst hk5
      rw [if_pos rfl] at hf
      refine v_catch X (x_runV X (c_D_promised l hfl fu p2 p3 _ _ _ _ hc1) rfl tw_451 tw_52 tw_448 tw_449 tw_450 0 0 rfl rfl rfl ⟨rfl, rfl, by decide, by decide⟩ ⟨by decide, by show _ = some 2; decide⟩ (rest := []) rfl (Nat.le_of_ble_eq_true rfl) d_L_promised_3 (by decide) (by decide)) [(⟨0, 6, 9, 24⟩, "java/util/NoSuchElementException"), (⟨0, 6, 12, 13⟩, "java/lang/IllegalArgumentException"), (⟨0, 6, 15, 30⟩, "java/lang/IllegalStateException")] (htab.trans rfl) (hd := 9) (by decide) (by decide) (by decide +kernel) (by decide +kernel) (fun b6 => ?_)
      refine v_astore_n X.1 (lv' := [(3, .ref b6), (0, .ref (ad 0)), (1, .int p2), (2, .int p3)]) d_L_promised_9 rfl (by decide) rfl ?_
      refine v_iconst X.1 (v := (1 : Int32)) d_L_promised_10 (by decide) ?_
      cases hf
      exact v_iret X.1 X.2.2.1 rfl d_L_promised_11 X.2.2.2.1 (by decide) (by decide)
    rw [if_neg hk5] at hf
    by_cases hk7 : k4 = 0
    · subst hk7
      rw [if_pos rfl] at hf
      refine v_catch X (x_runV X (c_D_promised l hfl fu p2 p3 _ _ _ _ hc1) rfl tw_451 tw_52 tw_448 tw_449 tw_450 0 0 rfl rfl rfl ⟨rfl, rfl, by decide, by decide⟩ ⟨by decide, by show _ = some 2; decide⟩ (rest := []) rfl (Nat.le_of_ble_eq_true rfl) d_L_promised_3 (by decide) (by decide)) [(⟨0, 6, 9, 24⟩, "java/util/NoSuchElementException"), (⟨0, 6, 12, 13⟩, "java/lang/IllegalArgumentException"), (⟨0, 6, 15, 30⟩, "java/lang/IllegalStateException")] (htab.trans rfl) (hd := 12) (by decide) (by decide) (by decide +kernel) (by decide +kernel) (fun b8 => ?_)
      refine v_astore_n X.1 (lv' := [(3, .ref b8), (0, .ref (ad 0)), (1, .int p2), (2, .int p3)]) d_L_promised_12 rfl (by decide) rfl ?_
      refine v_iconst X.1 (v := (2 : Int32)) d_L_promised_13 (by decide) ?_
      cases hf
      exact v_iret X.1 X.2.2.1 rfl d_L_promised_14 X.2.2.2.1 (by decide) (by decide)
    rw [if_neg hk7] at hf
    by_cases hk9 : k4 = 3
    · subst hk9
      rw [if_pos rfl] at hf
      refine v_catch X (x_runV X (c_D_promised l hfl fu p2 p3 _ _ _ _ hc1) rfl tw_451 tw_52 tw_448 tw_449 tw_450 0 0 rfl rfl rfl ⟨rfl, rfl, by decide, by decide⟩ ⟨by decide, by show _ = some 2; decide⟩ (rest := []) rfl (Nat.le_of_ble_eq_true rfl) d_L_promised_3 (by decide) (by decide)) [(⟨0, 6, 9, 24⟩, "java/util/NoSuchElementException"), (⟨0, 6, 12, 13⟩, "java/lang/IllegalArgumentException"), (⟨0, 6, 15, 30⟩, "java/lang/IllegalStateException")] (htab.trans rfl) (hd := 15) (by decide) (by decide) (by decide +kernel) (by decide +kernel) (fun b10 => ?_)
      refine v_astore_n X.1 (lv' := [(3, .ref b10), (0, .ref (ad 0)), (1, .int p2), (2, .int p3)]) d_L_promised_15 rfl (by decide) rfl ?_
      refine v_iconst X.1 (v := (3 : Int32)) d_L_promised_16 (by decide) ?_
      cases hf
      exact v_iret X.1 X.2.2.1 rfl d_L_promised_17 X.2.2.2.1 (by decide) (by decide)
    rw [if_neg hk9] at hf
    cases hf
  refine v_backV X.1 (x_runV X (c_D_promised l hfl fu p2 p3 _ _ _ _ hc1) rfl tw_451 tw_52 tw_448 tw_449 tw_450 0 0 rfl rfl rfl ⟨rfl, rfl, by decide, by decide⟩ ⟨by decide, by show _ = some 2; decide⟩ (rest := []) rfl (Nat.le_of_ble_eq_true rfl) d_L_promised_3 (by decide) (by decide)) ?_
  refine v_goto X.1 (tgt := 18) d_L_promised_6 (by decide) ?_
  refine v_iconst X.1 (v := (0 : Int32)) d_L_promised_18 (by decide) ?_
  cases hf
  exact v_iret X.1 X.2.2.1 rfl d_L_promised_19 X.2.2.2.1 (by decide) (by decide)

def f_L_rule (p2 : Int32) (p3 : Int32) (p4 : Int32) (g : xSt) : Option (Int32 × xSt) := (obC (f_D_rule p2 p3 p4 g) (fun r2 g3 => (if r2 = 0 then (Option.bind (some (xw g3 68 0 ((0 : Int32)))) (fun g8 => some ((0 : Int32), g8))) else (Option.bind (some (xw g3 68 0 ((1 : Int32)))) (fun g10 => some ((0 : Int32), g10))))) (fun k gq => (if k = 2 then some ((1 : Int32), gq) else none)))

set_option maxRecDepth 100000 in
set_option maxHeartbeats 4000000 in
theorem c_L_rule (l : Launch) (hfl : l.stackTraces = false) (p2 : Int32) (p3 : Int32) (p4 : Int32) (g : xSt) (r : Int32) (g' : xSt) (hf : f_L_rule p2 p3 p4 g = some (r, g')) : xM l y_L_rule (.codeWith y_L_rule b_L_rule 6 (some .int) [(0, 19, 22, 24)]) ({ frames := 8, cells := 2, slots := 12, locals := 126 } : Room) (fun ad => [.ref (ad 0), .int p2, .int p3, .int p4, .ref (ad 58)]) g (.inl (some (.int r))) g' 2 12 := by
  refine x_contractH (by decide) (fun _ => Nat.le_of_ble_eq_true rfl) ?_
  intro p e s m below meth c D ad ca X htab
  unfold f_L_rule at hf
  refine v_aload X.1 d_L_rule_0 4 rfl ?_
  refine v_iconst X.1 (v := (0 : Int32)) d_L_rule_2 (by decide) ?_
  refine v_aload_n X.1 d_L_rule_3 rfl 0 rfl ?_
  refine v_iload_n X.1 d_L_rule_4 rfl 1 rfl ?_
  refine v_iload_n X.1 d_L_rule_5 rfl 2 rfl ?_
  refine v_iload_n X.1 d_L_rule_6 rfl 3 rfl ?_
  rcases obC_some hf with ⟨r2, g3, hc1, hf⟩ | ⟨k4, r2, g3, hc1, hf⟩
  rotate_left
  · skip
    by_cases hk5 : k4 = 2
    · subst hk5
      rw [if_pos rfl] at hf
      refine v_catch X (x_runV X (c_D_rule l hfl p2 p3 p4 _ _ _ _ hc1) rfl tw_478 tw_52 tw_475 tw_476 tw_477 0 0 rfl rfl rfl ⟨rfl, rfl, by decide, by decide⟩ ⟨by decide, by show _ = some 3; decide⟩ (rest := [.int ((0 : Int32)), .ref (ad 58)]) rfl (Nat.le_of_ble_eq_true rfl) d_L_rule_7 (by decide) (by decide)) [(⟨0, 19, 22, 24⟩, "java/util/NoSuchElementException")] (htab.trans rfl) (hd := 22) (by decide) (by decide) (by decide +kernel) (by decide +kernel) (fun b6 => ?_)
      refine v_astore X.1 (lv' := [(5, .ref b6), (0, .ref (ad 0)), (1, .int p2), (2, .int p3), (3, .int p4), (4, .ref (ad 58))]) d_L_rule_22 (by decide) rfl ?_
      refine v_iconst X.1 (v := (1 : Int32)) d_L_rule_24 (by decide) ?_
      cases hf
      exact v_iret X.1 X.2.2.1 rfl d_L_rule_25 X.2.2.2.1 (by decide) (by decide)
    rw [if_neg hk5] at hf
    cases hf
  refine v_backI X.1 (x_runV X (c_D_rule l hfl p2 p3 p4 _ _ _ _ hc1) rfl tw_478 tw_52 tw_475 tw_476 tw_477 0 0 rfl rfl rfl ⟨rfl, rfl, by decide, by decide⟩ ⟨by decide, by show _ = some 3; decide⟩ (rest := [.int ((0 : Int32)), .ref (ad 58)]) rfl (Nat.le_of_ble_eq_true rfl) d_L_rule_7 (by decide) (by decide)) ?_
  refine v_if_eq X.1 (tgt := 17) d_L_rule_10 (by decide) (fun c7 => ?_) (fun c7 => ?_)
  · rw [if_pos c7] at hf
    refine v_lconst X (v := (0 : Int32).toInt64) d_L_rule_17 (by decide) ?_
    obtain ⟨g8, eg9, hf⟩ := ob_some hf
    refine v_last X (x := (0 : Int32)) (Option.some.inj eg9) d_L_rule_18 ?_
    refine v_goto X.1 (tgt := 26) d_L_rule_19 (by decide) ?_
    refine v_iconst X.1 (v := (0 : Int32)) d_L_rule_26 (by decide) ?_
    cases hf
    exact v_iret X.1 X.2.2.1 rfl d_L_rule_27 X.2.2.2.1 (by decide) (by decide)
  · rw [if_neg c7] at hf
    refine v_lconst X (v := (1 : Int32).toInt64) d_L_rule_13 (by decide) ?_
    refine v_goto X.1 (tgt := 18) d_L_rule_14 (by decide) ?_
    obtain ⟨g10, eg11, hf⟩ := ob_some hf
    refine v_last X (x := (1 : Int32)) (Option.some.inj eg11) d_L_rule_18 ?_
    refine v_goto X.1 (tgt := 26) d_L_rule_19 (by decide) ?_
    refine v_iconst X.1 (v := (0 : Int32)) d_L_rule_26 (by decide) ?_
    cases hf
    exact v_iret X.1 X.2.2.1 rfl d_L_rule_27 X.2.2.2.1 (by decide) (by decide)

def f_L_full (fu : Nat) (p2 : Int32) (p3 : Int32) (g : xSt) : Option (Int32 × xSt) := (obC (f_D_full fu p2 p3 g) (fun r2 g3 => (Option.bind (some (xw g3 68 0 r2)) (fun g7 => some ((0 : Int32), g7)))) (fun k gq => (if k = 0 then some ((1 : Int32), gq) else none)))

set_option maxRecDepth 100000 in
set_option maxHeartbeats 4000000 in
theorem c_L_full (l : Launch) (hfl : l.stackTraces = false) (fu : Nat) (p2 : Int32) (p3 : Int32) (g : xSt) (r : Int32) (g' : xSt) (hf : f_L_full fu p2 p3 g = some (r, g')) : xM l y_L_full (.codeWith y_L_full b_L_full 5 (some .int) [(0, 10, 13, 13)]) ({ frames := 8, cells := 1, slots := 6, locals := 128 } : Room) (fun ad => [.ref (ad 0), .int p2, .int p3, .ref (ad 58)]) g (.inl (some (.int r))) g' 1 6 := by
  refine x_contractH (by decide) (fun _ => Nat.le_of_ble_eq_true rfl) ?_
  intro p e s m below meth c D ad ca X htab
  unfold f_L_full at hf
  refine v_aload_n X.1 d_L_full_0 rfl 3 rfl ?_
  refine v_iconst X.1 (v := (0 : Int32)) d_L_full_1 (by decide) ?_
  refine v_aload_n X.1 d_L_full_2 rfl 0 rfl ?_
  refine v_iload_n X.1 d_L_full_3 rfl 1 rfl ?_
  refine v_iload_n X.1 d_L_full_4 rfl 2 rfl ?_
  rcases obC_some hf with ⟨r2, g3, hc1, hf⟩ | ⟨k4, r2, g3, hc1, hf⟩
  rotate_left
  · skip
    by_cases hk5 : k4 = 0
    · subst hk5
      rw [if_pos rfl] at hf
      refine v_catch X (x_runV X (c_D_full l hfl fu p2 p3 _ _ _ _ hc1) rfl tw_489 tw_52 tw_486 tw_487 tw_488 0 0 rfl rfl rfl ⟨rfl, rfl, by decide, by decide⟩ ⟨by decide, by show _ = some 2; decide⟩ (rest := [.int ((0 : Int32)), .ref (ad 58)]) rfl (Nat.le_of_ble_eq_true rfl) d_L_full_5 (by decide) (by decide)) [(⟨0, 10, 13, 13⟩, "java/lang/IllegalArgumentException")] (htab.trans rfl) (hd := 13) (by decide) (by decide) (by decide +kernel) (by decide +kernel) (fun b6 => ?_)
      refine v_astore X.1 (lv' := [(4, .ref b6), (0, .ref (ad 0)), (1, .int p2), (2, .int p3), (3, .ref (ad 58))]) d_L_full_13 (by decide) rfl ?_
      refine v_iconst X.1 (v := (1 : Int32)) d_L_full_15 (by decide) ?_
      cases hf
      exact v_iret X.1 X.2.2.1 rfl d_L_full_16 X.2.2.2.1 (by decide) (by decide)
    rw [if_neg hk5] at hf
    cases hf
  refine v_backI X.1 (x_runV X (c_D_full l hfl fu p2 p3 _ _ _ _ hc1) rfl tw_489 tw_52 tw_486 tw_487 tw_488 0 0 rfl rfl rfl ⟨rfl, rfl, by decide, by decide⟩ ⟨by decide, by show _ = some 2; decide⟩ (rest := [.int ((0 : Int32)), .ref (ad 58)]) rfl (Nat.le_of_ble_eq_true rfl) d_L_full_5 (by decide) (by decide)) ?_
  refine v_i2l X.1 d_L_full_8 rfl ?_
  obtain ⟨g7, eg8, hf⟩ := ob_some hf
  refine v_last X (x := r2) (Option.some.inj eg8) d_L_full_9 ?_
  refine v_goto X.1 (tgt := 17) d_L_full_10 (by decide) ?_
  refine v_iconst X.1 (v := (0 : Int32)) d_L_full_17 (by decide) ?_
  cases hf
  exact v_iret X.1 X.2.2.1 rfl d_L_full_18 X.2.2.2.1 (by decide) (by decide)

def f_L_match (fu : Nat) (p2 : Int32) (g : xSt) : Option (Int32 × xSt) := (obC (f_D_match fu p2 g) (fun r2 g3 => (Option.bind (some (xw g3 68 0 r2)) (fun g7 => some ((0 : Int32), g7)))) (fun k gq => (if k = 0 then some ((1 : Int32), gq) else none)))

set_option maxRecDepth 100000 in
set_option maxHeartbeats 4000000 in
theorem c_L_match (l : Launch) (hfl : l.stackTraces = false) (fu : Nat) (p2 : Int32) (g : xSt) (r : Int32) (g' : xSt) (hf : f_L_match fu p2 g = some (r, g')) : xM l y_L_match (.codeWith y_L_match b_L_match 4 (some .int) [(0, 9, 12, 13)]) ({ frames := 8, cells := 1, slots := 6, locals := 125 } : Room) (fun ad => [.ref (ad 0), .int p2, .ref (ad 58)]) g (.inl (some (.int r))) g' 1 6 := by
  refine x_contractH (by decide) (fun _ => Nat.le_of_ble_eq_true rfl) ?_
  intro p e s m below meth c D ad ca X htab
  unfold f_L_match at hf
  refine v_aload_n X.1 d_L_match_0 rfl 2 rfl ?_
  refine v_iconst X.1 (v := (0 : Int32)) d_L_match_1 (by decide) ?_
  refine v_aload_n X.1 d_L_match_2 rfl 0 rfl ?_
  refine v_iload_n X.1 d_L_match_3 rfl 1 rfl ?_
  rcases obC_some hf with ⟨r2, g3, hc1, hf⟩ | ⟨k4, r2, g3, hc1, hf⟩
  rotate_left
  · skip
    by_cases hk5 : k4 = 0
    · subst hk5
      rw [if_pos rfl] at hf
      refine v_catch X (x_runV X (c_D_match l hfl fu p2 _ _ _ _ hc1) rfl tw_496 tw_52 tw_493 tw_494 tw_495 0 0 rfl rfl rfl ⟨rfl, rfl, by decide, by decide⟩ ⟨by decide, by show _ = some 1; decide⟩ (rest := [.int ((0 : Int32)), .ref (ad 58)]) rfl (Nat.le_of_ble_eq_true rfl) d_L_match_4 (by decide) (by decide)) [(⟨0, 9, 12, 13⟩, "java/lang/IllegalArgumentException")] (htab.trans rfl) (hd := 12) (by decide) (by decide) (by decide +kernel) (by decide +kernel) (fun b6 => ?_)
      refine v_astore_n X.1 (lv' := [(3, .ref b6), (0, .ref (ad 0)), (1, .int p2), (2, .ref (ad 58))]) d_L_match_12 rfl (by decide) rfl ?_
      refine v_iconst X.1 (v := (1 : Int32)) d_L_match_13 (by decide) ?_
      cases hf
      exact v_iret X.1 X.2.2.1 rfl d_L_match_14 X.2.2.2.1 (by decide) (by decide)
    rw [if_neg hk5] at hf
    cases hf
  refine v_backI X.1 (x_runV X (c_D_match l hfl fu p2 _ _ _ _ hc1) rfl tw_496 tw_52 tw_493 tw_494 tw_495 0 0 rfl rfl rfl ⟨rfl, rfl, by decide, by decide⟩ ⟨by decide, by show _ = some 1; decide⟩ (rest := [.int ((0 : Int32)), .ref (ad 58)]) rfl (Nat.le_of_ble_eq_true rfl) d_L_match_4 (by decide) (by decide)) ?_
  refine v_i2l X.1 d_L_match_7 rfl ?_
  obtain ⟨g7, eg8, hf⟩ := ob_some hf
  refine v_last X (x := r2) (Option.some.inj eg8) d_L_match_8 ?_
  refine v_goto X.1 (tgt := 15) d_L_match_9 (by decide) ?_
  refine v_iconst X.1 (v := (0 : Int32)) d_L_match_15 (by decide) ?_
  cases hf
  exact v_iret X.1 X.2.2.1 rfl d_L_match_16 X.2.2.2.1 (by decide) (by decide)

def f_L_pair (p2 : Int32) (p3 : Int32) (g : xSt) : Option (Int32 × xSt) := (obC (f_D_pair p2 p3 g) (fun r2 g3 => (Option.bind (some (xw g3 68 0 r2)) (fun g9 => some ((0 : Int32), g9)))) (fun k gq => (if k = 2 then some ((1 : Int32), gq) else (if k = 0 then some ((2 : Int32), gq) else none))))

set_option maxRecDepth 100000 in
set_option maxHeartbeats 4000000 in
theorem c_L_pair (l : Launch) (hfl : l.stackTraces = false) (p2 : Int32) (p3 : Int32) (g : xSt) (r : Int32) (g' : xSt) (hf : f_L_pair p2 p3 g = some (r, g')) : xM l y_L_pair (.codeWith y_L_pair b_L_pair 5 (some .int) [(0, 10, 13, 24), (0, 10, 17, 13)]) ({ frames := 8, cells := 2, slots := 12, locals := 126 } : Room) (fun ad => [.ref (ad 0), .int p2, .int p3, .ref (ad 58)]) g (.inl (some (.int r))) g' 2 12 := by
  refine x_contractH (by decide) (fun _ => Nat.le_of_ble_eq_true rfl) ?_
  intro p e s m below meth c D ad ca X htab
  unfold f_L_pair at hf
  refine v_aload_n X.1 d_L_pair_0 rfl 3 rfl ?_
  refine v_iconst X.1 (v := (0 : Int32)) d_L_pair_1 (by decide) ?_
  refine v_aload_n X.1 d_L_pair_2 rfl 0 rfl ?_
  refine v_iload_n X.1 d_L_pair_3 rfl 1 rfl ?_
  refine v_iload_n X.1 d_L_pair_4 rfl 2 rfl ?_
  rcases obC_some hf with ⟨r2, g3, hc1, hf⟩ | ⟨k4, r2, g3, hc1, hf⟩
  rotate_left
  · skip
    by_cases hk5 : k4 = 2
    · subst hk5
      rw [if_pos rfl] at hf
      refine v_catch X (x_runV X (c_D_pair l hfl p2 p3 _ _ _ _ hc1) rfl tw_565 tw_52 tw_562 tw_563 tw_564 0 0 rfl rfl rfl ⟨rfl, rfl, by decide, by decide⟩ ⟨by decide, by show _ = some 2; decide⟩ (rest := [.int ((0 : Int32)), .ref (ad 58)]) rfl (Nat.le_of_ble_eq_true rfl) d_L_pair_5 (by decide) (by decide)) [(⟨0, 10, 13, 24⟩, "java/util/NoSuchElementException"), (⟨0, 10, 17, 13⟩, "java/lang/IllegalArgumentException")] (htab.trans rfl) (hd := 13) (by decide) (by decide) (by decide +kernel) (by decide +kernel) (fun b6 => ?_)
      refine v_astore X.1 (lv' := [(4, .ref b6), (0, .ref (ad 0)), (1, .int p2), (2, .int p3), (3, .ref (ad 58))]) d_L_pair_13 (by decide) rfl ?_
      refine v_iconst X.1 (v := (1 : Int32)) d_L_pair_15 (by decide) ?_
      cases hf
      exact v_iret X.1 X.2.2.1 rfl d_L_pair_16 X.2.2.2.1 (by decide) (by decide)
    rw [if_neg hk5] at hf
    by_cases hk7 : k4 = 0
    · subst hk7
      rw [if_pos rfl] at hf
      refine v_catch X (x_runV X (c_D_pair l hfl p2 p3 _ _ _ _ hc1) rfl tw_565 tw_52 tw_562 tw_563 tw_564 0 0 rfl rfl rfl ⟨rfl, rfl, by decide, by decide⟩ ⟨by decide, by show _ = some 2; decide⟩ (rest := [.int ((0 : Int32)), .ref (ad 58)]) rfl (Nat.le_of_ble_eq_true rfl) d_L_pair_5 (by decide) (by decide)) [(⟨0, 10, 13, 24⟩, "java/util/NoSuchElementException"), (⟨0, 10, 17, 13⟩, "java/lang/IllegalArgumentException")] (htab.trans rfl) (hd := 17) (by decide) (by decide) (by decide +kernel) (by decide +kernel) (fun b8 => ?_)
      refine v_astore X.1 (lv' := [(4, .ref b8), (0, .ref (ad 0)), (1, .int p2), (2, .int p3), (3, .ref (ad 58))]) d_L_pair_17 (by decide) rfl ?_
      refine v_iconst X.1 (v := (2 : Int32)) d_L_pair_19 (by decide) ?_
      cases hf
      exact v_iret X.1 X.2.2.1 rfl d_L_pair_20 X.2.2.2.1 (by decide) (by decide)
    rw [if_neg hk7] at hf
    cases hf
  refine v_backI X.1 (x_runV X (c_D_pair l hfl p2 p3 _ _ _ _ hc1) rfl tw_565 tw_52 tw_562 tw_563 tw_564 0 0 rfl rfl rfl ⟨rfl, rfl, by decide, by decide⟩ ⟨by decide, by show _ = some 2; decide⟩ (rest := [.int ((0 : Int32)), .ref (ad 58)]) rfl (Nat.le_of_ble_eq_true rfl) d_L_pair_5 (by decide) (by decide)) ?_
  refine v_i2l X.1 d_L_pair_8 rfl ?_
  obtain ⟨g9, eg10, hf⟩ := ob_some hf
  refine v_last X (x := r2) (Option.some.inj eg10) d_L_pair_9 ?_
  refine v_goto X.1 (tgt := 21) d_L_pair_10 (by decide) ?_
  refine v_iconst X.1 (v := (0 : Int32)) d_L_pair_21 (by decide) ?_
  cases hf
  exact v_iret X.1 X.2.2.1 rfl d_L_pair_22 X.2.2.2.1 (by decide) (by decide)

def f_L_undo (fu : Nat) (p2 : Int32) (g : xSt) : Option (Int32 × xSt) := (obC (f_D_undo fu p2 g) (fun r2 g3 => (Option.bind (some (xw g3 68 0 r2)) (fun g7 => some ((0 : Int32), g7)))) (fun k gq => (if k = 2 then some ((1 : Int32), gq) else none)))

set_option maxRecDepth 100000 in
set_option maxHeartbeats 4000000 in
theorem c_L_undo (l : Launch) (hfl : l.stackTraces = false) (fu : Nat) (p2 : Int32) (g : xSt) (r : Int32) (g' : xSt) (hf : f_L_undo fu p2 g = some (r, g')) : xM l y_L_undo (.codeWith y_L_undo b_L_undo 4 (some .int) [(0, 9, 12, 24)]) ({ frames := 8, cells := 1, slots := 6, locals := 125 } : Room) (fun ad => [.ref (ad 0), .int p2, .ref (ad 58)]) g (.inl (some (.int r))) g' 1 6 := by
  refine x_contractH (by decide) (fun _ => Nat.le_of_ble_eq_true rfl) ?_
  intro p e s m below meth c D ad ca X htab
  unfold f_L_undo at hf
  refine v_aload_n X.1 d_L_undo_0 rfl 2 rfl ?_
  refine v_iconst X.1 (v := (0 : Int32)) d_L_undo_1 (by decide) ?_
  refine v_aload_n X.1 d_L_undo_2 rfl 0 rfl ?_
  refine v_iload_n X.1 d_L_undo_3 rfl 1 rfl ?_
  rcases obC_some hf with ⟨r2, g3, hc1, hf⟩ | ⟨k4, r2, g3, hc1, hf⟩
  rotate_left
  · skip
    by_cases hk5 : k4 = 2
    · subst hk5
      rw [if_pos rfl] at hf
      refine v_catch X (x_runV X (c_D_undo l hfl fu p2 _ _ _ _ hc1) rfl tw_572 tw_52 tw_569 tw_570 tw_571 0 0 rfl rfl rfl ⟨rfl, rfl, by decide, by decide⟩ ⟨by decide, by show _ = some 1; decide⟩ (rest := [.int ((0 : Int32)), .ref (ad 58)]) rfl (Nat.le_of_ble_eq_true rfl) d_L_undo_4 (by decide) (by decide)) [(⟨0, 9, 12, 24⟩, "java/util/NoSuchElementException")] (htab.trans rfl) (hd := 12) (by decide) (by decide) (by decide +kernel) (by decide +kernel) (fun b6 => ?_)
      refine v_astore_n X.1 (lv' := [(3, .ref b6), (0, .ref (ad 0)), (1, .int p2), (2, .ref (ad 58))]) d_L_undo_12 rfl (by decide) rfl ?_
      refine v_iconst X.1 (v := (1 : Int32)) d_L_undo_13 (by decide) ?_
      cases hf
      exact v_iret X.1 X.2.2.1 rfl d_L_undo_14 X.2.2.2.1 (by decide) (by decide)
    rw [if_neg hk5] at hf
    cases hf
  refine v_backI X.1 (x_runV X (c_D_undo l hfl fu p2 _ _ _ _ hc1) rfl tw_572 tw_52 tw_569 tw_570 tw_571 0 0 rfl rfl rfl ⟨rfl, rfl, by decide, by decide⟩ ⟨by decide, by show _ = some 1; decide⟩ (rest := [.int ((0 : Int32)), .ref (ad 58)]) rfl (Nat.le_of_ble_eq_true rfl) d_L_undo_4 (by decide) (by decide)) ?_
  refine v_i2l X.1 d_L_undo_7 rfl ?_
  obtain ⟨g7, eg8, hf⟩ := ob_some hf
  refine v_last X (x := r2) (Option.some.inj eg8) d_L_undo_8 ?_
  refine v_goto X.1 (tgt := 15) d_L_undo_9 (by decide) ?_
  refine v_iconst X.1 (v := (0 : Int32)) d_L_undo_15 (by decide) ?_
  cases hf
  exact v_iret X.1 X.2.2.1 rfl d_L_undo_16 X.2.2.2.1 (by decide) (by decide)

def f_L_split (fu : Nat) (p2 : Int32) (p3 : Int32) (g : xSt) : Option (Int32 × xSt) := (obC (f_D_split fu p2 p3 g) (fun r2 g3 => (Option.bind (some (xw g3 68 0 r2)) (fun g13 => some ((0 : Int32), g13)))) (fun k gq => (if k = 2 then some ((1 : Int32), gq) else (if k = 0 then some ((2 : Int32), gq) else (if k = 3 then some ((3 : Int32), gq) else (if k = 1 then some ((4 : Int32), gq) else none))))))

set_option maxRecDepth 100000 in
set_option maxHeartbeats 4000000 in
theorem c_L_split (l : Launch) (hfl : l.stackTraces = false) (fu : Nat) (p2 : Int32) (p3 : Int32) (g : xSt) (r : Int32) (g' : xSt) (hf : f_L_split fu p2 p3 g = some (r, g')) : xM l y_L_split (.codeWith y_L_split b_L_split 5 (some .int) [(0, 10, 13, 24), (0, 10, 17, 13), (0, 10, 21, 30), (0, 10, 25, 15)]) ({ frames := 8, cells := 3, slots := 18, locals := 127 } : Room) (fun ad => [.ref (ad 0), .int p2, .int p3, .ref (ad 58)]) g (.inl (some (.int r))) g' 3 18 := by
  refine x_contractH (by decide) (fun _ => Nat.le_of_ble_eq_true rfl) ?_
  intro p e s m below meth c D ad ca X htab
  unfold f_L_split at hf
  refine v_aload_n X.1 d_L_split_0 rfl 3 rfl ?_
  refine v_iconst X.1 (v := (0 : Int32)) d_L_split_1 (by decide) ?_
  refine v_aload_n X.1 d_L_split_2 rfl 0 rfl ?_
  refine v_iload_n X.1 d_L_split_3 rfl 1 rfl ?_
  refine v_iload_n X.1 d_L_split_4 rfl 2 rfl ?_
  rcases obC_some hf with ⟨r2, g3, hc1, hf⟩ | ⟨k4, r2, g3, hc1, hf⟩
  rotate_left
  · skip
    by_cases hk5 : k4 = 2
    · subst hk5
      rw [if_pos rfl] at hf
      refine v_catch X (x_runV X (c_D_split l hfl fu p2 p3 _ _ _ _ hc1) rfl tw_583 tw_52 tw_580 tw_581 tw_582 0 0 rfl rfl rfl ⟨rfl, rfl, by decide, by decide⟩ ⟨by decide, by show _ = some 2; decide⟩ (rest := [.int ((0 : Int32)), .ref (ad 58)]) rfl (Nat.le_of_ble_eq_true rfl) d_L_split_5 (by decide) (by decide)) [(⟨0, 10, 13, 24⟩, "java/util/NoSuchElementException"), (⟨0, 10, 17, 13⟩, "java/lang/IllegalArgumentException"), (⟨0, 10, 21, 30⟩, "java/lang/IllegalStateException"), (⟨0, 10, 25, 15⟩, "java/lang/UnsupportedOperationException")] (htab.trans rfl) (hd := 13) (by decide) (by decide) (by decide +kernel) (by decide +kernel) (fun b6 => ?_)
      refine v_astore X.1 (lv' := [(4, .ref b6), (0, .ref (ad 0)), (1, .int p2), (2, .int p3), (3, .ref (ad 58))]) d_L_split_13 (by decide) rfl ?_
      refine v_iconst X.1 (v := (1 : Int32)) d_L_split_15 (by decide) ?_
      cases hf
      exact v_iret X.1 X.2.2.1 rfl d_L_split_16 X.2.2.2.1 (by decide) (by decide)
    rw [if_neg hk5] at hf
    by_cases hk7 : k4 = 0
    · subst hk7
      rw [if_pos rfl] at hf
      refine v_catch X (x_runV X (c_D_split l hfl fu p2 p3 _ _ _ _ hc1) rfl tw_583 tw_52 tw_580 tw_581 tw_582 0 0 rfl rfl rfl ⟨rfl, rfl, by decide, by decide⟩ ⟨by decide, by show _ = some 2; decide⟩ (rest := [.int ((0 : Int32)), .ref (ad 58)]) rfl (Nat.le_of_ble_eq_true rfl) d_L_split_5 (by decide) (by decide)) [(⟨0, 10, 13, 24⟩, "java/util/NoSuchElementException"), (⟨0, 10, 17, 13⟩, "java/lang/IllegalArgumentException"), (⟨0, 10, 21, 30⟩, "java/lang/IllegalStateException"), (⟨0, 10, 25, 15⟩, "java/lang/UnsupportedOperationException")] (htab.trans rfl) (hd := 17) (by decide) (by decide) (by decide +kernel) (by decide +kernel) (fun b8 => ?_)
      refine v_astore X.1 (lv' := [(4, .ref b8), (0, .ref (ad 0)), (1, .int p2), (2, .int p3), (3, .ref (ad 58))]) d_L_split_17 (by decide) rfl ?_
      refine v_iconst X.1 (v := (2 : Int32)) d_L_split_19 (by decide) ?_
      cases hf
      exact v_iret X.1 X.2.2.1 rfl d_L_split_20 X.2.2.2.1 (by decide) (by decide)
    rw [if_neg hk7] at hf
    by_cases hk9 : k4 = 3
    · subst hk9
      rw [if_pos rfl] at hf
      refine v_catch X (x_runV X (c_D_split l hfl fu p2 p3 _ _ _ _ hc1) rfl tw_583 tw_52 tw_580 tw_581 tw_582 0 0 rfl rfl rfl ⟨rfl, rfl, by decide, by decide⟩ ⟨by decide, by show _ = some 2; decide⟩ (rest := [.int ((0 : Int32)), .ref (ad 58)]) rfl (Nat.le_of_ble_eq_true rfl) d_L_split_5 (by decide) (by decide)) [(⟨0, 10, 13, 24⟩, "java/util/NoSuchElementException"), (⟨0, 10, 17, 13⟩, "java/lang/IllegalArgumentException"), (⟨0, 10, 21, 30⟩, "java/lang/IllegalStateException"), (⟨0, 10, 25, 15⟩, "java/lang/UnsupportedOperationException")] (htab.trans rfl) (hd := 21) (by decide) (by decide) (by decide +kernel) (by decide +kernel) (fun b10 => ?_)
      refine v_astore X.1 (lv' := [(4, .ref b10), (0, .ref (ad 0)), (1, .int p2), (2, .int p3), (3, .ref (ad 58))]) d_L_split_21 (by decide) rfl ?_
      refine v_iconst X.1 (v := (3 : Int32)) d_L_split_23 (by decide) ?_
      cases hf
      exact v_iret X.1 X.2.2.1 rfl d_L_split_24 X.2.2.2.1 (by decide) (by decide)
    rw [if_neg hk9] at hf
    by_cases hk11 : k4 = 1
    · subst hk11
      rw [if_pos rfl] at hf
      refine v_catch X (x_runV X (c_D_split l hfl fu p2 p3 _ _ _ _ hc1) rfl tw_583 tw_52 tw_580 tw_581 tw_582 0 0 rfl rfl rfl ⟨rfl, rfl, by decide, by decide⟩ ⟨by decide, by show _ = some 2; decide⟩ (rest := [.int ((0 : Int32)), .ref (ad 58)]) rfl (Nat.le_of_ble_eq_true rfl) d_L_split_5 (by decide) (by decide)) [(⟨0, 10, 13, 24⟩, "java/util/NoSuchElementException"), (⟨0, 10, 17, 13⟩, "java/lang/IllegalArgumentException"), (⟨0, 10, 21, 30⟩, "java/lang/IllegalStateException"), (⟨0, 10, 25, 15⟩, "java/lang/UnsupportedOperationException")] (htab.trans rfl) (hd := 25) (by decide) (by decide) (by decide +kernel) (by decide +kernel) (fun b12 => ?_)
      refine v_astore X.1 (lv' := [(4, .ref b12), (0, .ref (ad 0)), (1, .int p2), (2, .int p3), (3, .ref (ad 58))]) d_L_split_25 (by decide) rfl ?_
      refine v_iconst X.1 (v := (4 : Int32)) d_L_split_27 (by decide) ?_
      cases hf
      exact v_iret X.1 X.2.2.1 rfl d_L_split_28 X.2.2.2.1 (by decide) (by decide)
    rw [if_neg hk11] at hf
    cases hf
  refine v_backI X.1 (x_runV X (c_D_split l hfl fu p2 p3 _ _ _ _ hc1) rfl tw_583 tw_52 tw_580 tw_581 tw_582 0 0 rfl rfl rfl ⟨rfl, rfl, by decide, by decide⟩ ⟨by decide, by show _ = some 2; decide⟩ (rest := [.int ((0 : Int32)), .ref (ad 58)]) rfl (Nat.le_of_ble_eq_true rfl) d_L_split_5 (by decide) (by decide)) ?_
  refine v_i2l X.1 d_L_split_8 rfl ?_
  obtain ⟨g13, eg14, hf⟩ := ob_some hf
  refine v_last X (x := r2) (Option.some.inj eg14) d_L_split_9 ?_
  refine v_goto X.1 (tgt := 29) d_L_split_10 (by decide) ?_
  refine v_iconst X.1 (v := (0 : Int32)) d_L_split_29 (by decide) ?_
  cases hf
  exact v_iret X.1 X.2.2.1 rfl d_L_split_30 X.2.2.2.1 (by decide) (by decide)

def f_L_late (fu : Nat) (p2 : Int32) (p3 : Int32) (g : xSt) : Option (Int32 × xSt) := (obC (f_D_late fu p2 p3 g) (fun r2 g3 => (Option.bind (some (xw g3 68 0 r2)) (fun g9 => some ((0 : Int32), g9)))) (fun k gq => (if k = 2 then some ((1 : Int32), gq) else (if k = 0 then some ((2 : Int32), gq) else none))))

set_option maxRecDepth 100000 in
set_option maxHeartbeats 4000000 in
theorem c_L_late (l : Launch) (hfl : l.stackTraces = false) (fu : Nat) (p2 : Int32) (p3 : Int32) (g : xSt) (r : Int32) (g' : xSt) (hf : f_L_late fu p2 p3 g = some (r, g')) : xM l y_L_late (.codeWith y_L_late b_L_late 5 (some .int) [(0, 10, 13, 24), (0, 10, 17, 13)]) ({ frames := 8, cells := 2, slots := 12, locals := 128 } : Room) (fun ad => [.ref (ad 0), .int p2, .int p3, .ref (ad 58)]) g (.inl (some (.int r))) g' 2 12 := by
  refine x_contractH (by decide) (fun _ => Nat.le_of_ble_eq_true rfl) ?_
  intro p e s m below meth c D ad ca X htab
  unfold f_L_late at hf
  refine v_aload_n X.1 d_L_late_0 rfl 3 rfl ?_
  refine v_iconst X.1 (v := (0 : Int32)) d_L_late_1 (by decide) ?_
  refine v_aload_n X.1 d_L_late_2 rfl 0 rfl ?_
  refine v_iload_n X.1 d_L_late_3 rfl 1 rfl ?_
  refine v_iload_n X.1 d_L_late_4 rfl 2 rfl ?_
  rcases obC_some hf with ⟨r2, g3, hc1, hf⟩ | ⟨k4, r2, g3, hc1, hf⟩
  rotate_left
  · skip
    by_cases hk5 : k4 = 2
    · subst hk5
      rw [if_pos rfl] at hf
      refine v_catch X (x_runV X (c_D_late l hfl fu p2 p3 _ _ _ _ hc1) rfl tw_596 tw_52 tw_593 tw_594 tw_595 0 0 rfl rfl rfl ⟨rfl, rfl, by decide, by decide⟩ ⟨by decide, by show _ = some 2; decide⟩ (rest := [.int ((0 : Int32)), .ref (ad 58)]) rfl (Nat.le_of_ble_eq_true rfl) d_L_late_5 (by decide) (by decide)) [(⟨0, 10, 13, 24⟩, "java/util/NoSuchElementException"), (⟨0, 10, 17, 13⟩, "java/lang/IllegalArgumentException")] (htab.trans rfl) (hd := 13) (by decide) (by decide) (by decide +kernel) (by decide +kernel) (fun b6 => ?_)
      refine v_astore X.1 (lv' := [(4, .ref b6), (0, .ref (ad 0)), (1, .int p2), (2, .int p3), (3, .ref (ad 58))]) d_L_late_13 (by decide) rfl ?_
      refine v_iconst X.1 (v := (1 : Int32)) d_L_late_15 (by decide) ?_
      cases hf
      exact v_iret X.1 X.2.2.1 rfl d_L_late_16 X.2.2.2.1 (by decide) (by decide)
    rw [if_neg hk5] at hf
    by_cases hk7 : k4 = 0
    · subst hk7
      rw [if_pos rfl] at hf
      refine v_catch X (x_runV X (c_D_late l hfl fu p2 p3 _ _ _ _ hc1) rfl tw_596 tw_52 tw_593 tw_594 tw_595 0 0 rfl rfl rfl ⟨rfl, rfl, by decide, by decide⟩ ⟨by decide, by show _ = some 2; decide⟩ (rest := [.int ((0 : Int32)), .ref (ad 58)]) rfl (Nat.le_of_ble_eq_true rfl) d_L_late_5 (by decide) (by decide)) [(⟨0, 10, 13, 24⟩, "java/util/NoSuchElementException"), (⟨0, 10, 17, 13⟩, "java/lang/IllegalArgumentException")] (htab.trans rfl) (hd := 17) (by decide) (by decide) (by decide +kernel) (by decide +kernel) (fun b8 => ?_)
      refine v_astore X.1 (lv' := [(4, .ref b8), (0, .ref (ad 0)), (1, .int p2), (2, .int p3), (3, .ref (ad 58))]) d_L_late_17 (by decide) rfl ?_
      refine v_iconst X.1 (v := (2 : Int32)) d_L_late_19 (by decide) ?_
      cases hf
      exact v_iret X.1 X.2.2.1 rfl d_L_late_20 X.2.2.2.1 (by decide) (by decide)
    rw [if_neg hk7] at hf
    cases hf
  refine v_backI X.1 (x_runV X (c_D_late l hfl fu p2 p3 _ _ _ _ hc1) rfl tw_596 tw_52 tw_593 tw_594 tw_595 0 0 rfl rfl rfl ⟨rfl, rfl, by decide, by decide⟩ ⟨by decide, by show _ = some 2; decide⟩ (rest := [.int ((0 : Int32)), .ref (ad 58)]) rfl (Nat.le_of_ble_eq_true rfl) d_L_late_5 (by decide) (by decide)) ?_
  refine v_i2l X.1 d_L_late_8 rfl ?_
  obtain ⟨g9, eg10, hf⟩ := ob_some hf
  refine v_last X (x := r2) (Option.some.inj eg10) d_L_late_9 ?_
  refine v_goto X.1 (tgt := 21) d_L_late_10 (by decide) ?_
  refine v_iconst X.1 (v := (0 : Int32)) d_L_late_21 (by decide) ?_
  cases hf
  exact v_iret X.1 X.2.2.1 rfl d_L_late_22 X.2.2.2.1 (by decide) (by decide)

def f_L_arrival (fu : Nat) (p2 : Int32) (p3 : Int32) (g : xSt) : Option (Int32 × xSt) := (obC (f_D_arrival fu p2 p3 g) (fun r2 g3 => (Option.bind (some (xw g3 68 0 r2)) (fun g9 => some ((0 : Int32), g9)))) (fun k gq => (if k = 2 then some ((1 : Int32), gq) else (if k = 0 then some ((2 : Int32), gq) else none))))

set_option maxRecDepth 100000 in
set_option maxHeartbeats 4000000 in
theorem c_L_arrival (l : Launch) (hfl : l.stackTraces = false) (fu : Nat) (p2 : Int32) (p3 : Int32) (g : xSt) (r : Int32) (g' : xSt) (hf : f_L_arrival fu p2 p3 g = some (r, g')) : xM l y_L_arrival (.codeWith y_L_arrival b_L_arrival 5 (some .int) [(0, 10, 13, 24), (0, 10, 17, 13)]) ({ frames := 8, cells := 2, slots := 12, locals := 126 } : Room) (fun ad => [.ref (ad 0), .int p2, .int p3, .ref (ad 58)]) g (.inl (some (.int r))) g' 2 12 := by
  refine x_contractH (by decide) (fun _ => Nat.le_of_ble_eq_true rfl) ?_
  intro p e s m below meth c D ad ca X htab
  unfold f_L_arrival at hf
  refine v_aload_n X.1 d_L_arrival_0 rfl 3 rfl ?_
  refine v_iconst X.1 (v := (0 : Int32)) d_L_arrival_1 (by decide) ?_
  refine v_aload_n X.1 d_L_arrival_2 rfl 0 rfl ?_
  refine v_iload_n X.1 d_L_arrival_3 rfl 1 rfl ?_
  refine v_iload_n X.1 d_L_arrival_4 rfl 2 rfl ?_
  rcases obC_some hf with ⟨r2, g3, hc1, hf⟩ | ⟨k4, r2, g3, hc1, hf⟩
  rotate_left
  · skip
    by_cases hk5 : k4 = 2
    · subst hk5
      rw [if_pos rfl] at hf
      refine v_catch X (x_runV X (c_D_arrival l hfl fu p2 p3 _ _ _ _ hc1) rfl tw_607 tw_52 tw_604 tw_605 tw_606 0 0 rfl rfl rfl ⟨rfl, rfl, by decide, by decide⟩ ⟨by decide, by show _ = some 2; decide⟩ (rest := [.int ((0 : Int32)), .ref (ad 58)]) rfl (Nat.le_of_ble_eq_true rfl) d_L_arrival_5 (by decide) (by decide)) [(⟨0, 10, 13, 24⟩, "java/util/NoSuchElementException"), (⟨0, 10, 17, 13⟩, "java/lang/IllegalArgumentException")] (htab.trans rfl) (hd := 13) (by decide) (by decide) (by decide +kernel) (by decide +kernel) (fun b6 => ?_)
      refine v_astore X.1 (lv' := [(4, .ref b6), (0, .ref (ad 0)), (1, .int p2), (2, .int p3), (3, .ref (ad 58))]) d_L_arrival_13 (by decide) rfl ?_
      refine v_iconst X.1 (v := (1 : Int32)) d_L_arrival_15 (by decide) ?_
      cases hf
      exact v_iret X.1 X.2.2.1 rfl d_L_arrival_16 X.2.2.2.1 (by decide) (by decide)
    rw [if_neg hk5] at hf
    by_cases hk7 : k4 = 0
    · subst hk7
      rw [if_pos rfl] at hf
      refine v_catch X (x_runV X (c_D_arrival l hfl fu p2 p3 _ _ _ _ hc1) rfl tw_607 tw_52 tw_604 tw_605 tw_606 0 0 rfl rfl rfl ⟨rfl, rfl, by decide, by decide⟩ ⟨by decide, by show _ = some 2; decide⟩ (rest := [.int ((0 : Int32)), .ref (ad 58)]) rfl (Nat.le_of_ble_eq_true rfl) d_L_arrival_5 (by decide) (by decide)) [(⟨0, 10, 13, 24⟩, "java/util/NoSuchElementException"), (⟨0, 10, 17, 13⟩, "java/lang/IllegalArgumentException")] (htab.trans rfl) (hd := 17) (by decide) (by decide) (by decide +kernel) (by decide +kernel) (fun b8 => ?_)
      refine v_astore X.1 (lv' := [(4, .ref b8), (0, .ref (ad 0)), (1, .int p2), (2, .int p3), (3, .ref (ad 58))]) d_L_arrival_17 (by decide) rfl ?_
      refine v_iconst X.1 (v := (2 : Int32)) d_L_arrival_19 (by decide) ?_
      cases hf
      exact v_iret X.1 X.2.2.1 rfl d_L_arrival_20 X.2.2.2.1 (by decide) (by decide)
    rw [if_neg hk7] at hf
    cases hf
  refine v_backI X.1 (x_runV X (c_D_arrival l hfl fu p2 p3 _ _ _ _ hc1) rfl tw_607 tw_52 tw_604 tw_605 tw_606 0 0 rfl rfl rfl ⟨rfl, rfl, by decide, by decide⟩ ⟨by decide, by show _ = some 2; decide⟩ (rest := [.int ((0 : Int32)), .ref (ad 58)]) rfl (Nat.le_of_ble_eq_true rfl) d_L_arrival_5 (by decide) (by decide)) ?_
  refine v_i2l X.1 d_L_arrival_8 rfl ?_
  obtain ⟨g9, eg10, hf⟩ := ob_some hf
  refine v_last X (x := r2) (Option.some.inj eg10) d_L_arrival_9 ?_
  refine v_goto X.1 (tgt := 21) d_L_arrival_10 (by decide) ?_
  refine v_iconst X.1 (v := (0 : Int32)) d_L_arrival_21 (by decide) ?_
  cases hf
  exact v_iret X.1 X.2.2.1 rfl d_L_arrival_22 X.2.2.2.1 (by decide) (by decide)

def f_L_wanted (fu : Nat) (p2 : Int32) (p3 : Int32) (g : xSt) : Option (Int32 × xSt) := (obC (f_D_wanted fu p2 p3 g) (fun r2 g3 => (Option.bind (some (xw g3 68 0 r2)) (fun g9 => some ((0 : Int32), g9)))) (fun k gq => (if k = 2 then some ((1 : Int32), gq) else (if k = 0 then some ((2 : Int32), gq) else none))))

set_option maxRecDepth 100000 in
set_option maxHeartbeats 4000000 in
theorem c_L_wanted (l : Launch) (hfl : l.stackTraces = false) (fu : Nat) (p2 : Int32) (p3 : Int32) (g : xSt) (r : Int32) (g' : xSt) (hf : f_L_wanted fu p2 p3 g = some (r, g')) : xM l y_L_wanted (.codeWith y_L_wanted b_L_wanted 5 (some .int) [(0, 10, 13, 24), (0, 10, 17, 13)]) ({ frames := 8, cells := 2, slots := 12, locals := 126 } : Room) (fun ad => [.ref (ad 0), .int p2, .int p3, .ref (ad 58)]) g (.inl (some (.int r))) g' 2 12 := by
  refine x_contractH (by decide) (fun _ => Nat.le_of_ble_eq_true rfl) ?_
  intro p e s m below meth c D ad ca X htab
  unfold f_L_wanted at hf
  refine v_aload_n X.1 d_L_wanted_0 rfl 3 rfl ?_
  refine v_iconst X.1 (v := (0 : Int32)) d_L_wanted_1 (by decide) ?_
  refine v_aload_n X.1 d_L_wanted_2 rfl 0 rfl ?_
  refine v_iload_n X.1 d_L_wanted_3 rfl 1 rfl ?_
  refine v_iload_n X.1 d_L_wanted_4 rfl 2 rfl ?_
  rcases obC_some hf with ⟨r2, g3, hc1, hf⟩ | ⟨k4, r2, g3, hc1, hf⟩
  rotate_left
  · skip
    by_cases hk5 : k4 = 2
    · subst hk5
      rw [if_pos rfl] at hf
      refine v_catch X (x_runV X (c_D_wanted l hfl fu p2 p3 _ _ _ _ hc1) rfl tw_614 tw_52 tw_611 tw_612 tw_613 0 0 rfl rfl rfl ⟨rfl, rfl, by decide, by decide⟩ ⟨by decide, by show _ = some 2; decide⟩ (rest := [.int ((0 : Int32)), .ref (ad 58)]) rfl (Nat.le_of_ble_eq_true rfl) d_L_wanted_5 (by decide) (by decide)) [(⟨0, 10, 13, 24⟩, "java/util/NoSuchElementException"), (⟨0, 10, 17, 13⟩, "java/lang/IllegalArgumentException")] (htab.trans rfl) (hd := 13) (by decide) (by decide) (by decide +kernel) (by decide +kernel) (fun b6 => ?_)
      refine v_astore X.1 (lv' := [(4, .ref b6), (0, .ref (ad 0)), (1, .int p2), (2, .int p3), (3, .ref (ad 58))]) d_L_wanted_13 (by decide) rfl ?_
      refine v_iconst X.1 (v := (1 : Int32)) d_L_wanted_15 (by decide) ?_
      cases hf
      exact v_iret X.1 X.2.2.1 rfl d_L_wanted_16 X.2.2.2.1 (by decide) (by decide)
    rw [if_neg hk5] at hf
    by_cases hk7 : k4 = 0
    · subst hk7
      rw [if_pos rfl] at hf
      refine v_catch X (x_runV X (c_D_wanted l hfl fu p2 p3 _ _ _ _ hc1) rfl tw_614 tw_52 tw_611 tw_612 tw_613 0 0 rfl rfl rfl ⟨rfl, rfl, by decide, by decide⟩ ⟨by decide, by show _ = some 2; decide⟩ (rest := [.int ((0 : Int32)), .ref (ad 58)]) rfl (Nat.le_of_ble_eq_true rfl) d_L_wanted_5 (by decide) (by decide)) [(⟨0, 10, 13, 24⟩, "java/util/NoSuchElementException"), (⟨0, 10, 17, 13⟩, "java/lang/IllegalArgumentException")] (htab.trans rfl) (hd := 17) (by decide) (by decide) (by decide +kernel) (by decide +kernel) (fun b8 => ?_)
      refine v_astore X.1 (lv' := [(4, .ref b8), (0, .ref (ad 0)), (1, .int p2), (2, .int p3), (3, .ref (ad 58))]) d_L_wanted_17 (by decide) rfl ?_
      refine v_iconst X.1 (v := (2 : Int32)) d_L_wanted_19 (by decide) ?_
      cases hf
      exact v_iret X.1 X.2.2.1 rfl d_L_wanted_20 X.2.2.2.1 (by decide) (by decide)
    rw [if_neg hk7] at hf
    cases hf
  refine v_backI X.1 (x_runV X (c_D_wanted l hfl fu p2 p3 _ _ _ _ hc1) rfl tw_614 tw_52 tw_611 tw_612 tw_613 0 0 rfl rfl rfl ⟨rfl, rfl, by decide, by decide⟩ ⟨by decide, by show _ = some 2; decide⟩ (rest := [.int ((0 : Int32)), .ref (ad 58)]) rfl (Nat.le_of_ble_eq_true rfl) d_L_wanted_5 (by decide) (by decide)) ?_
  refine v_i2l X.1 d_L_wanted_8 rfl ?_
  obtain ⟨g9, eg10, hf⟩ := ob_some hf
  refine v_last X (x := r2) (Option.some.inj eg10) d_L_wanted_9 ?_
  refine v_goto X.1 (tgt := 21) d_L_wanted_10 (by decide) ?_
  refine v_iconst X.1 (v := (0 : Int32)) d_L_wanted_21 (by decide) ?_
  cases hf
  exact v_iret X.1 X.2.2.1 rfl d_L_wanted_22 X.2.2.2.1 (by decide) (by decide)

