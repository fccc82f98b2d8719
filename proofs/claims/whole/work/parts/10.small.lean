def f_A_toGive (i0 : Nat) (g : xSt) : Option (Int32 × xSt) := some ((g 27 i0) - (g 28 i0), g)

set_option maxRecDepth 100000 in
set_option maxHeartbeats 4000000 in
theorem c_A_toGive (l : Launch) (i0 : Nat) (h0 : i0 < 8) (g : xSt) (r : Int32) (g' : xSt) (hf : f_A_toGive i0 g = some (r, g')) : xM l y_A_toGive (.code y_A_toGive b_A_toGive 1 (some .int)) ({ frames := 0, cells := 0, slots := 0, locals := 0 } : Room) (fun ad => [.ref (ad (20 + i0))]) g (.inl (some (.int r))) g' 0 0 := by
  refine x_contract (by decide) (fun _ => Nat.le_of_ble_eq_true rfl) ?_
  intro p e s m below meth c D ad ca X hno
  unfold f_A_toGive at hf
  refine v_aload_n X.1 d_A_toGive_0 rfl 0 rfl ?_
  refine v_get X.1 (ci := 1) ⟨in_A, rfl⟩ (20 + i0) (wA_at ad ca _ h0) 3 (by decide) (X.t tw_88 rfl) rfl d_A_toGive_1 ?_
  refine v_aload_n X.1 d_A_toGive_4 rfl 0 rfl ?_
  refine v_get X.1 (ci := 1) ⟨in_A, rfl⟩ (20 + i0) (wA_at ad ca _ h0) 4 (by decide) (X.t tw_90 rfl) rfl d_A_toGive_5 ?_
  refine v_isub X.1 d_A_toGive_8 ?_
  cases hf
  exact v_iret X.1 X.2.2.1 rfl d_A_toGive_9 X.2.2.2.1 (by decide) (by decide)

def f_A_isBarredFor (i0 : Nat) (p1 : Int32) (g : xSt) : Option (Int32 × xSt) := (if ((g 29 i0) &&& (((1 : Int32)) <<< (p1 &&& 31))) = 0 then some ((0 : Int32), g) else some ((1 : Int32), g))

set_option maxRecDepth 100000 in
set_option maxHeartbeats 4000000 in
theorem c_A_isBarredFor (l : Launch) (i0 : Nat) (p1 : Int32) (h0 : i0 < 8) (g : xSt) (r : Int32) (g' : xSt) (hf : f_A_isBarredFor i0 p1 g = some (r, g')) : xM l y_A_isBarredFor (.code y_A_isBarredFor b_A_isBarredFor 2 (some .boolean)) ({ frames := 0, cells := 0, slots := 0, locals := 0 } : Room) (fun ad => [.ref (ad (20 + i0)), .int p1]) g (.inl (some (.int r))) g' 0 0 := by
  refine x_contract (by decide) (fun _ => Nat.le_of_ble_eq_true rfl) ?_
  intro p e s m below meth c D ad ca X hno
  unfold f_A_isBarredFor at hf
  refine v_aload_n X.1 d_A_isBarredFor_0 rfl 0 rfl ?_
  refine v_get X.1 (ci := 1) ⟨in_A, rfl⟩ (20 + i0) (wA_at ad ca _ h0) 5 (by decide) (X.t tw_92 rfl) rfl d_A_isBarredFor_1 ?_
  refine v_iconst X.1 (v := (1 : Int32)) d_A_isBarredFor_4 (by decide) ?_
  refine v_iload_n X.1 d_A_isBarredFor_5 rfl 1 rfl ?_
  refine v_ishl X.1 d_A_isBarredFor_6 ?_
  refine v_iand X.1 d_A_isBarredFor_7 ?_
  refine v_if_eq X.1 (tgt := 15) d_A_isBarredFor_8 (by decide) (fun c1 => ?_) (fun c1 => ?_)
  · rw [if_pos c1] at hf
    refine v_iconst X.1 (v := (0 : Int32)) d_A_isBarredFor_15 (by decide) ?_
    cases hf
    exact v_iret X.1 X.2.2.1 rfl d_A_isBarredFor_16 X.2.2.2.1 (by decide) (by decide)
  · rw [if_neg c1] at hf
    refine v_iconst X.1 (v := (1 : Int32)) d_A_isBarredFor_11 (by decide) ?_
    refine v_goto X.1 (tgt := 16) d_A_isBarredFor_12 (by decide) ?_
    cases hf
    exact v_iret X.1 X.2.2.1 rfl d_A_isBarredFor_16 X.2.2.2.1 (by decide) (by decide)

def f_A_setBarred (i0 : Nat) (p1 : Int32) (p2 : Int32) (g : xSt) : Option (xSt) := (if p2 = 0 then (Option.bind (some (xw g 29 i0 ((g 29 i0) &&& ((((1 : Int32)) <<< (p1 &&& 31)) ^^^ ((-1 : Int32)))))) (fun g2 => some g2)) else (Option.bind (some (xw g 29 i0 ((g 29 i0) ||| (((1 : Int32)) <<< (p1 &&& 31))))) (fun g4 => some g4)))

set_option maxRecDepth 100000 in
set_option maxHeartbeats 4000000 in
theorem c_A_setBarred (l : Launch) (i0 : Nat) (p1 : Int32) (p2 : Int32) (h0 : i0 < 8) (g : xSt) (g' : xSt) (hf : f_A_setBarred i0 p1 p2 g = some g') : xM l y_A_setBarred (.code y_A_setBarred b_A_setBarred 3 none) ({ frames := 0, cells := 0, slots := 0, locals := 0 } : Room) (fun ad => [.ref (ad (20 + i0)), .int p1, .int p2]) g (.inl none) g' 0 0 := by
  refine x_contract (by decide) (fun _ => Nat.le_of_ble_eq_true rfl) ?_
  intro p e s m below meth c D ad ca X hno
  unfold f_A_setBarred at hf
  refine v_iload_n X.1 d_A_setBarred_0 rfl 2 rfl ?_
  refine v_if_eq X.1 (tgt := 19) d_A_setBarred_1 (by decide) (fun c1 => ?_) (fun c1 => ?_)
  · rw [if_pos c1] at hf
    refine v_aload_n X.1 d_A_setBarred_19 rfl 0 rfl ?_
    refine v_dup X.1 d_A_setBarred_20 rfl ?_
    refine v_get X.1 (ci := 1) ⟨in_A, rfl⟩ (20 + i0) (wA_at ad ca _ h0) 5 (by decide) (X.t tw_92 rfl) rfl d_A_setBarred_21 ?_
    refine v_iconst X.1 (v := (1 : Int32)) d_A_setBarred_24 (by decide) ?_
    refine v_iload_n X.1 d_A_setBarred_25 rfl 1 rfl ?_
    refine v_ishl X.1 d_A_setBarred_26 ?_
    refine v_iconst X.1 (v := (-1 : Int32)) d_A_setBarred_27 (by decide) ?_
    refine v_ixor X.1 d_A_setBarred_28 ?_
    refine v_iand X.1 d_A_setBarred_29 ?_
    obtain ⟨g2, eg3, hf⟩ := ob_some hf
    refine v_put X.1 (ci := 1) ⟨in_A, rfl⟩ (20 + i0) (wA_at ad ca _ h0) 5 (by decide) ⟨ty_A_ok, nm_A⟩ (X.t tw_92 rfl) rfl (ty := .int) (by decide +kernel) rfl rfl (Nat.le_of_ble_eq_true rfl) ((wA_set5 ad ca _ _ h0).trans (congrArg (wX ad ca) (Option.some.inj eg3))) d_A_setBarred_30 ?_
    cases hf
    exact v_vret X.1 X.2.2.1 d_A_setBarred_33 X.2.2.2.1 (by decide) (by decide)
  · rw [if_neg c1] at hf
    refine v_aload_n X.1 d_A_setBarred_4 rfl 0 rfl ?_
    refine v_dup X.1 d_A_setBarred_5 rfl ?_
    refine v_get X.1 (ci := 1) ⟨in_A, rfl⟩ (20 + i0) (wA_at ad ca _ h0) 5 (by decide) (X.t tw_92 rfl) rfl d_A_setBarred_6 ?_
    refine v_iconst X.1 (v := (1 : Int32)) d_A_setBarred_9 (by decide) ?_
    refine v_iload_n X.1 d_A_setBarred_10 rfl 1 rfl ?_
    refine v_ishl X.1 d_A_setBarred_11 ?_
    refine v_ior X.1 d_A_setBarred_12 ?_
    obtain ⟨g4, eg5, hf⟩ := ob_some hf
    refine v_put X.1 (ci := 1) ⟨in_A, rfl⟩ (20 + i0) (wA_at ad ca _ h0) 5 (by decide) ⟨ty_A_ok, nm_A⟩ (X.t tw_92 rfl) rfl (ty := .int) (by decide +kernel) rfl rfl (Nat.le_of_ble_eq_true rfl) ((wA_set5 ad ca _ _ h0).trans (congrArg (wX ad ca) (Option.some.inj eg5))) d_A_setBarred_13 ?_
    refine v_goto X.1 (tgt := 33) d_A_setBarred_16 (by decide) ?_
    cases hf
    exact v_vret X.1 X.2.2.1 d_A_setBarred_33 X.2.2.2.1 (by decide) (by decide)

def f_A_moveTo (i0 : Nat) (i1 : Nat) (p2 : Int32) (g : xSt) : Option (xSt) := (Option.bind (some (xw g 24 i1 (g 24 i0))) (fun g1 => (Option.bind (some (xw g1 25 i1 (g1 25 i0))) (fun g3 => (Option.bind (some (xw g3 26 i1 (g3 26 i0))) (fun g5 => (Option.bind (some (xw g5 27 i1 p2)) (fun g7 => (Option.bind (some (xw g7 28 i1 ((g7 28 i0) - (if ((g 27 i0) - p2) < (g 28 i0) then ((g 27 i0) - p2) else (g 28 i0))))) (fun g9 => (Option.bind (some (xw g9 29 i1 (g9 29 i0))) (fun g11 => (Option.bind (some (xw g11 27 i0 ((g11 27 i0) - p2))) (fun g13 => (Option.bind (some (xw g13 28 i0 (if ((g 27 i0) - p2) < (g 28 i0) then ((g 27 i0) - p2) else (g 28 i0)))) (fun g15 => some g15))))))))))))))))

set_option maxRecDepth 100000 in
set_option maxHeartbeats 4000000 in
theorem c_A_moveTo (l : Launch) (i0 : Nat) (i1 : Nat) (p2 : Int32) (h0 : i0 < 8) (h1 : i1 < 8) (g : xSt) (g' : xSt) (hf : f_A_moveTo i0 i1 p2 g = some g') : xM l y_A_moveTo (.code y_A_moveTo b_A_moveTo 4 none) ({ frames := 1, cells := 0, slots := 0, locals := 21 } : Room) (fun ad => [.ref (ad (20 + i0)), .ref (ad (20 + i1)), .int p2]) g (.inl none) g' 0 0 := by
  refine x_contract (by decide) (fun _ => Nat.le_of_ble_eq_true rfl) ?_
  intro p e s m below meth c D ad ca X hno
  unfold f_A_moveTo at hf
  refine v_aload_n X.1 d_A_moveTo_0 rfl 0 rfl ?_
  refine v_get X.1 (ci := 1) ⟨in_A, rfl⟩ (20 + i0) (wA_at ad ca _ h0) 4 (by decide) (X.t tw_90 rfl) rfl d_A_moveTo_1 ?_
  refine v_aload_n X.1 d_A_moveTo_4 rfl 0 rfl ?_
  refine v_get X.1 (ci := 1) ⟨in_A, rfl⟩ (20 + i0) (wA_at ad ca _ h0) 3 (by decide) (X.t tw_88 rfl) rfl d_A_moveTo_5 ?_
  refine v_iload_n X.1 d_A_moveTo_8 rfl 2 rfl ?_
  refine v_isub X.1 d_A_moveTo_9 ?_
  refine v_min X tw_589 tw_529 tw_66 twM_min ⟨by decide, Nat.le_of_ble_eq_true rfl, by decide, by decide⟩ d_A_moveTo_10 ?_
  refine v_istore_n X.1 (lv' := [(3, .int (if ((g 27 i0) - p2) < (g 28 i0) then ((g 27 i0) - p2) else (g 28 i0))), (0, .ref (ad (20 + i0))), (1, .ref (ad (20 + i1))), (2, .int p2)]) d_A_moveTo_13 rfl (by decide) rfl ?_
  refine v_aload_n X.1 d_A_moveTo_14 rfl 2 rfl ?_
  refine v_aload_n X.1 d_A_moveTo_15 rfl 1 rfl ?_
  refine v_get X.1 (ci := 1) ⟨in_A, rfl⟩ (20 + i0) (wA_at ad ca _ h0) 0 (by decide) (X.t tw_83 rfl) rfl d_A_moveTo_16 ?_
  obtain ⟨g1, eg2, hf⟩ := ob_some hf
  refine v_put X.1 (ci := 1) ⟨in_A, rfl⟩ (20 + i1) (wA_at ad ca _ h1) 0 (by decide) ⟨ty_A_ok, nm_A⟩ (X.t tw_83 rfl) rfl (ty := .int) (by decide +kernel) rfl rfl (Nat.le_of_ble_eq_true rfl) ((wA_set0 ad ca _ _ h1).trans (congrArg (wX ad ca) (Option.some.inj eg2))) d_A_moveTo_19 ?_
  refine v_aload_n X.1 d_A_moveTo_22 rfl 2 rfl ?_
  refine v_aload_n X.1 d_A_moveTo_23 rfl 1 rfl ?_
  refine v_get X.1 (ci := 1) ⟨in_A, rfl⟩ (20 + i0) (wA_at ad ca _ h0) 1 (by decide) (X.t tw_85 rfl) rfl d_A_moveTo_24 ?_
  obtain ⟨g3, eg4, hf⟩ := ob_some hf
  refine v_put X.1 (ci := 1) ⟨in_A, rfl⟩ (20 + i1) (wA_at ad ca _ h1) 1 (by decide) ⟨ty_A_ok, nm_A⟩ (X.t tw_85 rfl) rfl (ty := .int) (by decide +kernel) rfl rfl (Nat.le_of_ble_eq_true rfl) ((wA_set1 ad ca _ _ h1).trans (congrArg (wX ad ca) (Option.some.inj eg4))) d_A_moveTo_27 ?_
  refine v_aload_n X.1 d_A_moveTo_30 rfl 2 rfl ?_
  refine v_aload_n X.1 d_A_moveTo_31 rfl 1 rfl ?_
  refine v_get X.1 (ci := 1) ⟨in_A, rfl⟩ (20 + i0) (wA_at ad ca _ h0) 2 (by decide) (X.t tw_87 rfl) rfl d_A_moveTo_32 ?_
  obtain ⟨g5, eg6, hf⟩ := ob_some hf
  refine v_put X.1 (ci := 1) ⟨in_A, rfl⟩ (20 + i1) (wA_at ad ca _ h1) 2 (by decide) ⟨ty_A_ok, nm_A⟩ (X.t tw_87 rfl) rfl (ty := .int) (by decide +kernel) rfl rfl (Nat.le_of_ble_eq_true rfl) ((wA_set2 ad ca _ _ h1).trans (congrArg (wX ad ca) (Option.some.inj eg6))) d_A_moveTo_35 ?_
  refine v_aload_n X.1 d_A_moveTo_38 rfl 2 rfl ?_
  refine v_iload_n X.1 d_A_moveTo_39 rfl 3 rfl ?_
  obtain ⟨g7, eg8, hf⟩ := ob_some hf
  refine v_put X.1 (ci := 1) ⟨in_A, rfl⟩ (20 + i1) (wA_at ad ca _ h1) 3 (by decide) ⟨ty_A_ok, nm_A⟩ (X.t tw_88 rfl) rfl (ty := .int) (by decide +kernel) rfl rfl (Nat.le_of_ble_eq_true rfl) ((wA_set3 ad ca _ _ h1).trans (congrArg (wX ad ca) (Option.some.inj eg8))) d_A_moveTo_40 ?_
  refine v_aload_n X.1 d_A_moveTo_43 rfl 2 rfl ?_
  refine v_aload_n X.1 d_A_moveTo_44 rfl 1 rfl ?_
  refine v_get X.1 (ci := 1) ⟨in_A, rfl⟩ (20 + i0) (wA_at ad ca _ h0) 4 (by decide) (X.t tw_90 rfl) rfl d_A_moveTo_45 ?_
  refine v_iload_n X.1 d_A_moveTo_48 rfl 0 rfl ?_
  refine v_isub X.1 d_A_moveTo_49 ?_
  obtain ⟨g9, eg10, hf⟩ := ob_some hf
  refine v_put X.1 (ci := 1) ⟨in_A, rfl⟩ (20 + i1) (wA_at ad ca _ h1) 4 (by decide) ⟨ty_A_ok, nm_A⟩ (X.t tw_90 rfl) rfl (ty := .int) (by decide +kernel) rfl rfl (Nat.le_of_ble_eq_true rfl) ((wA_set4 ad ca _ _ h1).trans (congrArg (wX ad ca) (Option.some.inj eg10))) d_A_moveTo_50 ?_
  refine v_aload_n X.1 d_A_moveTo_53 rfl 2 rfl ?_
  refine v_aload_n X.1 d_A_moveTo_54 rfl 1 rfl ?_
  refine v_get X.1 (ci := 1) ⟨in_A, rfl⟩ (20 + i0) (wA_at ad ca _ h0) 5 (by decide) (X.t tw_92 rfl) rfl d_A_moveTo_55 ?_
  obtain ⟨g11, eg12, hf⟩ := ob_some hf
  refine v_put X.1 (ci := 1) ⟨in_A, rfl⟩ (20 + i1) (wA_at ad ca _ h1) 5 (by decide) ⟨ty_A_ok, nm_A⟩ (X.t tw_92 rfl) rfl (ty := .int) (by decide +kernel) rfl rfl (Nat.le_of_ble_eq_true rfl) ((wA_set5 ad ca _ _ h1).trans (congrArg (wX ad ca) (Option.some.inj eg12))) d_A_moveTo_58 ?_
  refine v_aload_n X.1 d_A_moveTo_61 rfl 1 rfl ?_
  refine v_dup X.1 d_A_moveTo_62 rfl ?_
  refine v_get X.1 (ci := 1) ⟨in_A, rfl⟩ (20 + i0) (wA_at ad ca _ h0) 3 (by decide) (X.t tw_88 rfl) rfl d_A_moveTo_63 ?_
  refine v_iload_n X.1 d_A_moveTo_66 rfl 3 rfl ?_
  refine v_isub X.1 d_A_moveTo_67 ?_
  obtain ⟨g13, eg14, hf⟩ := ob_some hf
  refine v_put X.1 (ci := 1) ⟨in_A, rfl⟩ (20 + i0) (wA_at ad ca _ h0) 3 (by decide) ⟨ty_A_ok, nm_A⟩ (X.t tw_88 rfl) rfl (ty := .int) (by decide +kernel) rfl rfl (Nat.le_of_ble_eq_true rfl) ((wA_set3 ad ca _ _ h0).trans (congrArg (wX ad ca) (Option.some.inj eg14))) d_A_moveTo_68 ?_
  refine v_aload_n X.1 d_A_moveTo_71 rfl 1 rfl ?_
  refine v_iload_n X.1 d_A_moveTo_72 rfl 0 rfl ?_
  obtain ⟨g15, eg16, hf⟩ := ob_some hf
  refine v_put X.1 (ci := 1) ⟨in_A, rfl⟩ (20 + i0) (wA_at ad ca _ h0) 4 (by decide) ⟨ty_A_ok, nm_A⟩ (X.t tw_90 rfl) rfl (ty := .int) (by decide +kernel) rfl rfl (Nat.le_of_ble_eq_true rfl) ((wA_set4 ad ca _ _ h0).trans (congrArg (wX ad ca) (Option.some.inj eg16))) d_A_moveTo_73 ?_
  cases hf
  exact v_vret X.1 X.2.2.1 d_A_moveTo_76 X.2.2.2.1 (by decide) (by decide)

def f_O_takesLot (i0 : Nat) (p1 : Int32) (g : xSt) : Option (Int32 × xSt) := (if ((g 35 i0) &&& (((1 : Int32)) <<< (p1 &&& 31))) = 0 then some ((0 : Int32), g) else some ((1 : Int32), g))

set_option maxRecDepth 100000 in
set_option maxHeartbeats 4000000 in
theorem c_O_takesLot (l : Launch) (i0 : Nat) (p1 : Int32) (h0 : i0 < 8) (g : xSt) (r : Int32) (g' : xSt) (hf : f_O_takesLot i0 p1 g = some (r, g')) : xM l y_O_takesLot (.code y_O_takesLot b_O_takesLot 2 (some .boolean)) ({ frames := 0, cells := 0, slots := 0, locals := 0 } : Room) (fun ad => [.ref (ad (28 + i0)), .int p1]) g (.inl (some (.int r))) g' 0 0 := by
  refine x_contract (by decide) (fun _ => Nat.le_of_ble_eq_true rfl) ?_
  intro p e s m below meth c D ad ca X hno
  unfold f_O_takesLot at hf
  refine v_aload_n X.1 d_O_takesLot_0 rfl 0 rfl ?_
  refine v_get X.1 (ci := 2) ⟨in_O, rfl⟩ (28 + i0) (wO_at ad ca _ h0) 5 (by decide) (X.t tw_118 rfl) rfl d_O_takesLot_1 ?_
  refine v_iconst X.1 (v := (1 : Int32)) d_O_takesLot_4 (by decide) ?_
  refine v_iload_n X.1 d_O_takesLot_5 rfl 1 rfl ?_
  refine v_ishl X.1 d_O_takesLot_6 ?_
  refine v_iand X.1 d_O_takesLot_7 ?_
  refine v_if_eq X.1 (tgt := 15) d_O_takesLot_8 (by decide) (fun c1 => ?_) (fun c1 => ?_)
  · rw [if_pos c1] at hf
    refine v_iconst X.1 (v := (0 : Int32)) d_O_takesLot_15 (by decide) ?_
    cases hf
    exact v_iret X.1 X.2.2.1 rfl d_O_takesLot_16 X.2.2.2.1 (by decide) (by decide)
  · rw [if_neg c1] at hf
    refine v_iconst X.1 (v := (1 : Int32)) d_O_takesLot_11 (by decide) ?_
    refine v_goto X.1 (tgt := 16) d_O_takesLot_12 (by decide) ?_
    cases hf
    exact v_iret X.1 X.2.2.1 rfl d_O_takesLot_16 X.2.2.2.1 (by decide) (by decide)

