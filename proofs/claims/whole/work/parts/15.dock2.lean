def f_D_arrive (p1 : Int32) (p2 : Int32) (p3 : Int32) (p4 : Int32) (g : xSt) : Option (Nat × Int32 × xSt) := (obT (f_D_checkRange p1 ((0 : Int32)) ((7 : Int32)) g) (fun r2 g3 => (obT (f_D_checkRange p2 ((0 : Int32)) ((9 : Int32)) g3) (fun r6 g7 => (obT (f_D_checkRange p3 ((0 : Int32)) ((1000 : Int32)) g7) (fun r10 g11 => (obT (f_D_checkRange p4 ((1 : Int32)) ((6 : Int32)) g11) (fun r14 g15 => (obT (f_D_checkRoom (g15 0 0) ((8 : Int32)) g15) (fun r18 g19 => (if (g19 0 0) < 0 ∨ 8 ≤ (g19 0 0).toNatClampNeg then none else (Option.bind (some (xw g19 24 ((g19 0 0).toNatClampNeg) p1)) (fun g23 => (Option.bind (some (xw g23 25 ((g19 0 0).toNatClampNeg) p2)) (fun g25 => (Option.bind (some (xw g25 26 ((g19 0 0).toNatClampNeg) p3)) (fun g27 => (Option.bind (some (xw g27 27 ((g19 0 0).toNatClampNeg) p4)) (fun g29 => (Option.bind (some (xw g29 0 0 ((g29 0 0) + ((1 : Int32))))) (fun g31 => some (0, (g31 0 0) - ((1 : Int32)), g31))))))))))))))))))))))

set_option maxRecDepth 100000 in
set_option maxHeartbeats 4000000 in
theorem c_D_arrive (l : Launch) (hfl : l.stackTraces = false) (p1 : Int32) (p2 : Int32) (p3 : Int32) (p4 : Int32) (g : xSt) (k : Nat) (r : Int32) (g' : xSt) (hf : f_D_arrive p1 p2 p3 p4 g = some (k, r, g')) : xM l y_D_arrive (.code y_D_arrive b_D_arrive 6 (some .int)) ({ frames := 7, cells := 5, slots := 30, locals := 104 } : Room) (fun ad => [.ref (ad 0), .int p1, .int p2, .int p3, .int p4]) g (xov k (some (.int r))) g' 5 30 := by
  refine x_contract (by decide) (fun _ => Nat.le_of_ble_eq_true rfl) ?_
  intro p e s m below meth c D ad ca X hno
  unfold f_D_arrive at hf
  refine v_iload_n X.1 d_D_arrive_0 rfl 1 rfl ?_
  refine v_iconst X.1 (v := (0 : Int32)) d_D_arrive_1 (by decide) ?_
  refine v_bipush X.1 (v := (7 : Int32)) d_D_arrive_2 (by decide) ?_
  rcases obT_some hf with ⟨r2, g3, hc1, hf⟩ | ⟨k4, r2, g3, hc1, hf⟩
  rotate_left
  · cases hf
    exact v_out X.1 (x_runS X (c_D_checkRange l hfl p1 ((0 : Int32)) ((7 : Int32)) _ _ _ _ hc1) tw_321 tw_52 tw_319 tw_320 ⟨rfl, rfl, by decide, by decide⟩ ⟨by decide, by show _ = some 3; decide⟩ (rest := []) rfl (Nat.le_of_ble_eq_true rfl) d_D_arrive_4 (by decide) (by decide)) (by rw [hno]; intro x hx; cases hx) X.2.2.2.1 (by decide) (by decide)
  refine v_backV X.1 (x_runS X (c_D_checkRange l hfl p1 ((0 : Int32)) ((7 : Int32)) _ _ _ _ hc1) tw_321 tw_52 tw_319 tw_320 ⟨rfl, rfl, by decide, by decide⟩ ⟨by decide, by show _ = some 3; decide⟩ (rest := []) rfl (Nat.le_of_ble_eq_true rfl) d_D_arrive_4 (by decide) (by decide)) ?_
  refine v_iload_n X.1 d_D_arrive_7 rfl 2 rfl ?_
  refine v_iconst X.1 (v := (0 : Int32)) d_D_arrive_8 (by decide) ?_
  refine v_bipush X.1 (v := (9 : Int32)) d_D_arrive_9 (by decide) ?_
  rcases obT_some hf with ⟨r6, g7, hc5, hf⟩ | ⟨k8, r6, g7, hc5, hf⟩
  rotate_left
  · cases hf
    exact v_out X.1 (x_runS X (c_D_checkRange l hfl p2 ((0 : Int32)) ((9 : Int32)) _ _ _ _ hc5) tw_321 tw_52 tw_319 tw_320 ⟨rfl, rfl, by decide, by decide⟩ ⟨by decide, by show _ = some 3; decide⟩ (rest := []) rfl (Nat.le_of_ble_eq_true rfl) d_D_arrive_11 (by decide) (by decide)) (by rw [hno]; intro x hx; cases hx) X.2.2.2.1 (by decide) (by decide)
  refine v_backV X.1 (x_runS X (c_D_checkRange l hfl p2 ((0 : Int32)) ((9 : Int32)) _ _ _ _ hc5) tw_321 tw_52 tw_319 tw_320 ⟨rfl, rfl, by decide, by decide⟩ ⟨by decide, by show _ = some 3; decide⟩ (rest := []) rfl (Nat.le_of_ble_eq_true rfl) d_D_arrive_11 (by decide) (by decide)) ?_
  refine v_iload_n X.1 d_D_arrive_14 rfl 3 rfl ?_
  refine v_iconst X.1 (v := (0 : Int32)) d_D_arrive_15 (by decide) ?_
  refine v_sipush X.1 (v := (1000 : Int32)) d_D_arrive_16 (by decide) ?_
  rcases obT_some hf with ⟨r10, g11, hc9, hf⟩ | ⟨k12, r10, g11, hc9, hf⟩
  rotate_left
  · cases hf
    exact v_out X.1 (x_runS X (c_D_checkRange l hfl p3 ((0 : Int32)) ((1000 : Int32)) _ _ _ _ hc9) tw_321 tw_52 tw_319 tw_320 ⟨rfl, rfl, by decide, by decide⟩ ⟨by decide, by show _ = some 3; decide⟩ (rest := []) rfl (Nat.le_of_ble_eq_true rfl) d_D_arrive_19 (by decide) (by decide)) (by rw [hno]; intro x hx; cases hx) X.2.2.2.1 (by decide) (by decide)
  refine v_backV X.1 (x_runS X (c_D_checkRange l hfl p3 ((0 : Int32)) ((1000 : Int32)) _ _ _ _ hc9) tw_321 tw_52 tw_319 tw_320 ⟨rfl, rfl, by decide, by decide⟩ ⟨by decide, by show _ = some 3; decide⟩ (rest := []) rfl (Nat.le_of_ble_eq_true rfl) d_D_arrive_19 (by decide) (by decide)) ?_
  refine v_iload X.1 d_D_arrive_22 4 rfl ?_
  refine v_iconst X.1 (v := (1 : Int32)) d_D_arrive_24 (by decide) ?_
  refine v_bipush X.1 (v := (6 : Int32)) d_D_arrive_25 (by decide) ?_
  rcases obT_some hf with ⟨r14, g15, hc13, hf⟩ | ⟨k16, r14, g15, hc13, hf⟩
  rotate_left
  · cases hf
    exact v_out X.1 (x_runS X (c_D_checkRange l hfl p4 ((1 : Int32)) ((6 : Int32)) _ _ _ _ hc13) tw_321 tw_52 tw_319 tw_320 ⟨rfl, rfl, by decide, by decide⟩ ⟨by decide, by show _ = some 3; decide⟩ (rest := []) rfl (Nat.le_of_ble_eq_true rfl) d_D_arrive_27 (by decide) (by decide)) (by rw [hno]; intro x hx; cases hx) X.2.2.2.1 (by decide) (by decide)
  refine v_backV X.1 (x_runS X (c_D_checkRange l hfl p4 ((1 : Int32)) ((6 : Int32)) _ _ _ _ hc13) tw_321 tw_52 tw_319 tw_320 ⟨rfl, rfl, by decide, by decide⟩ ⟨by decide, by show _ = some 3; decide⟩ (rest := []) rfl (Nat.le_of_ble_eq_true rfl) d_D_arrive_27 (by decide) (by decide)) ?_
  refine v_aload_n X.1 d_D_arrive_30 rfl 0 rfl ?_
  refine v_get X.1 (ci := 0) ⟨in_D, rfl⟩ 0 rfl 7 (by decide) (X.t tw_219 rfl) rfl d_D_arrive_31 ?_
  refine v_bipush X.1 (v := (8 : Int32)) d_D_arrive_34 (by decide) ?_
  rcases obT_some hf with ⟨r18, g19, hc17, hf⟩ | ⟨k20, r18, g19, hc17, hf⟩
  rotate_left
  · cases hf
    exact v_out X.1 (x_runS X (c_D_checkRoom l hfl (g15 0 0) ((8 : Int32)) _ _ _ _ hc17) tw_393 tw_52 tw_391 tw_392 ⟨rfl, rfl, by decide, by decide⟩ ⟨by decide, by show _ = some 2; decide⟩ (rest := []) rfl (Nat.le_of_ble_eq_true rfl) d_D_arrive_36 (by decide) (by decide)) (by rw [hno]; intro x hx; cases hx) X.2.2.2.1 (by decide) (by decide)
  refine v_backV X.1 (x_runS X (c_D_checkRoom l hfl (g15 0 0) ((8 : Int32)) _ _ _ _ hc17) tw_393 tw_52 tw_391 tw_392 ⟨rfl, rfl, by decide, by decide⟩ ⟨by decide, by show _ = some 2; decide⟩ (rest := []) rfl (Nat.le_of_ble_eq_true rfl) d_D_arrive_36 (by decide) (by decide)) ?_
  refine v_aload_n X.1 d_D_arrive_39 rfl 0 rfl ?_
  refine v_get X.1 (ci := 0) ⟨in_D, rfl⟩ 0 rfl 0 (by decide) (X.t tw_212 rfl) rfl d_D_arrive_40 ?_
  refine v_aload_n X.1 d_D_arrive_43 rfl 0 rfl ?_
  refine v_get X.1 (ci := 0) ⟨in_D, rfl⟩ 0 rfl 7 (by decide) (X.t tw_219 rfl) rfl d_D_arrive_44 ?_
  obtain ⟨hb21, hf⟩ := oi_none hf
  have hp22 : (g19 0 0).toNatClampNeg < 8 := Nat.not_le.mp (fun q => hb21 (Or.inr q))
  refine v_aald X.1 (b := ad (20 + (g19 0 0).toNatClampNeg)) 1 2 rfl rfl hb21 rfl d_D_arrive_47 ?_
  refine v_astore X.1 (lv' := [(5, .ref (ad (20 + (g19 0 0).toNatClampNeg))), (0, .ref (ad 0)), (1, .int p1), (2, .int p2), (3, .int p3), (4, .int p4)]) d_D_arrive_48 (by decide) rfl ?_
  refine v_aload X.1 d_D_arrive_50 0 rfl ?_
  refine v_iload_n X.1 d_D_arrive_52 rfl 2 rfl ?_
  obtain ⟨g23, eg24, hf⟩ := ob_some hf
  refine v_putN X.1 (ci := 1) ⟨in_A, rfl⟩ (20 + (g19 0 0).toNatClampNeg) (wA_at ad ca _ hp22) 0 (by decide) ⟨ty_A_ok, nm_A⟩ (X.t tw_82 rfl) rfl (ty := .int) (by decide +kernel) rfl rfl (Nat.le_of_ble_eq_true rfl) ((wA_set0 ad ca _ _ hp22).trans (congrArg (wX ad ca) (Option.some.inj eg24))) d_D_arrive_53 ?_
  refine v_aload X.1 d_D_arrive_56 0 rfl ?_
  refine v_iload_n X.1 d_D_arrive_58 rfl 3 rfl ?_
  obtain ⟨g25, eg26, hf⟩ := ob_some hf
  refine v_putN X.1 (ci := 1) ⟨in_A, rfl⟩ (20 + (g19 0 0).toNatClampNeg) (wA_at ad ca _ hp22) 1 (by decide) ⟨ty_A_ok, nm_A⟩ (X.t tw_84 rfl) rfl (ty := .int) (by decide +kernel) rfl rfl (Nat.le_of_ble_eq_true rfl) ((wA_set1 ad ca _ _ hp22).trans (congrArg (wX ad ca) (Option.some.inj eg26))) d_D_arrive_59 ?_
  refine v_aload X.1 d_D_arrive_62 0 rfl ?_
  refine v_iload_n X.1 d_D_arrive_64 rfl 4 rfl ?_
  obtain ⟨g27, eg28, hf⟩ := ob_some hf
  refine v_putN X.1 (ci := 1) ⟨in_A, rfl⟩ (20 + (g19 0 0).toNatClampNeg) (wA_at ad ca _ hp22) 2 (by decide) ⟨ty_A_ok, nm_A⟩ (X.t tw_86 rfl) rfl (ty := .int) (by decide +kernel) rfl rfl (Nat.le_of_ble_eq_true rfl) ((wA_set2 ad ca _ _ hp22).trans (congrArg (wX ad ca) (Option.some.inj eg28))) d_D_arrive_65 ?_
  refine v_aload X.1 d_D_arrive_68 0 rfl ?_
  refine v_iload X.1 d_D_arrive_70 5 rfl ?_
  obtain ⟨g29, eg30, hf⟩ := ob_some hf
  refine v_putN X.1 (ci := 1) ⟨in_A, rfl⟩ (20 + (g19 0 0).toNatClampNeg) (wA_at ad ca _ hp22) 3 (by decide) ⟨ty_A_ok, nm_A⟩ (X.t tw_89 rfl) rfl (ty := .int) (by decide +kernel) rfl rfl (Nat.le_of_ble_eq_true rfl) ((wA_set3 ad ca _ _ hp22).trans (congrArg (wX ad ca) (Option.some.inj eg30))) d_D_arrive_72 ?_
  refine v_aload_n X.1 d_D_arrive_75 rfl 1 rfl ?_
  refine v_dup X.1 d_D_arrive_76 rfl ?_
  refine v_get X.1 (ci := 0) ⟨in_D, rfl⟩ 0 rfl 7 (by decide) (X.t tw_219 rfl) rfl d_D_arrive_77 ?_
  refine v_iconst X.1 (v := (1 : Int32)) d_D_arrive_80 (by decide) ?_
  refine v_iadd X.1 d_D_arrive_81 ?_
  obtain ⟨g31, eg32, hf⟩ := ob_some hf
  refine v_put X.1 (ci := 0) ⟨in_D, rfl⟩ 0 rfl 7 (by decide) ⟨ty_D_ok, nm_D⟩ (X.t tw_219 rfl) rfl (ty := .int) (by decide +kernel) rfl rfl (Nat.le_of_ble_eq_true rfl) ((sw_0 ad ca _ _).trans (congrArg (wX ad ca) (Option.some.inj eg32))) d_D_arrive_82 ?_
  refine v_aload_n X.1 d_D_arrive_85 rfl 1 rfl ?_
  refine v_get X.1 (ci := 0) ⟨in_D, rfl⟩ 0 rfl 7 (by decide) (X.t tw_219 rfl) rfl d_D_arrive_86 ?_
  refine v_iconst X.1 (v := (1 : Int32)) d_D_arrive_89 (by decide) ?_
  refine v_isub X.1 d_D_arrive_90 ?_
  cases hf
  exact v_iret X.1 X.2.2.1 rfl d_D_arrive_91 X.2.2.2.1 (by decide) (by decide)

def f_D_order (p1 : Int32) (p2 : Int32) (p3 : Int32) (p4 : Int32) (g : xSt) : Option (Nat × Int32 × xSt) := (obT (f_D_checkRange p1 ((0 : Int32)) ((7 : Int32)) g) (fun r2 g3 => (obT (f_D_checkRange p2 ((1 : Int32)) ((6 : Int32)) g3) (fun r6 g7 => (obT (f_D_checkRange p3 ((1 : Int32)) ((9 : Int32)) g7) (fun r10 g11 => (obT (f_D_checkRange p4 ((0 : Int32)) ((3 : Int32)) g11) (fun r14 g15 => (obT (f_D_checkRoom (g15 1 0) ((8 : Int32)) g15) (fun r18 g19 => (if (g19 1 0) < 0 ∨ 8 ≤ (g19 1 0).toNatClampNeg then none else (Option.bind (some (xw g19 30 ((g19 1 0).toNatClampNeg) p1)) (fun g23 => (Option.bind (some (xw g23 31 ((g19 1 0).toNatClampNeg) p2)) (fun g25 => (Option.bind (some (xw g25 32 ((g19 1 0).toNatClampNeg) p3)) (fun g27 => (Option.bind (some (xw g27 33 ((g19 1 0).toNatClampNeg) p4)) (fun g29 => (Option.bind (some (xw g29 34 ((g19 1 0).toNatClampNeg) ((1000 : Int32)))) (fun g31 => (Option.bind (some (xw g31 35 ((g19 1 0).toNatClampNeg) ((1023 : Int32)))) (fun g33 => (Option.bind (some (xw g33 1 0 ((g33 1 0) + ((1 : Int32))))) (fun g35 => some (0, (g35 1 0) - ((1 : Int32)), g35))))))))))))))))))))))))))

set_option maxRecDepth 100000 in
set_option maxHeartbeats 4000000 in
theorem c_D_order (l : Launch) (hfl : l.stackTraces = false) (p1 : Int32) (p2 : Int32) (p3 : Int32) (p4 : Int32) (g : xSt) (k : Nat) (r : Int32) (g' : xSt) (hf : f_D_order p1 p2 p3 p4 g = some (k, r, g')) : xM l y_D_order (.code y_D_order b_D_order 6 (some .int)) ({ frames := 7, cells := 5, slots := 30, locals := 104 } : Room) (fun ad => [.ref (ad 0), .int p1, .int p2, .int p3, .int p4]) g (xov k (some (.int r))) g' 5 30 := by
  refine x_contract (by decide) (fun _ => Nat.le_of_ble_eq_true rfl) ?_
  intro p e s m below meth c D ad ca X hno
  unfold f_D_order at hf
  refine v_iload_n X.1 d_D_order_0 rfl 1 rfl ?_
  refine v_iconst X.1 (v := (0 : Int32)) d_D_order_1 (by decide) ?_
  refine v_bipush X.1 (v := (7 : Int32)) d_D_order_2 (by decide) ?_
  rcases obT_some hf with ⟨r2, g3, hc1, hf⟩ | ⟨k4, r2, g3, hc1, hf⟩
  rotate_left
  · cases hf
    exact v_out X.1 (x_runS X (c_D_checkRange l hfl p1 ((0 : Int32)) ((7 : Int32)) _ _ _ _ hc1) tw_321 tw_52 tw_319 tw_320 ⟨rfl, rfl, by decide, by decide⟩ ⟨by decide, by show _ = some 3; decide⟩ (rest := []) rfl (Nat.le_of_ble_eq_true rfl) d_D_order_4 (by decide) (by decide)) (by rw [hno]; intro x hx; cases hx) X.2.2.2.1 (by decide) (by decide)
  refine v_backV X.1 (x_runS X (c_D_checkRange l hfl p1 ((0 : Int32)) ((7 : Int32)) _ _ _ _ hc1) tw_321 tw_52 tw_319 tw_320 ⟨rfl, rfl, by decide, by decide⟩ ⟨by decide, by show _ = some 3; decide⟩ (rest := []) rfl (Nat.le_of_ble_eq_true rfl) d_D_order_4 (by decide) (by decide)) ?_
  refine v_iload_n X.1 d_D_order_7 rfl 2 rfl ?_
  refine v_iconst X.1 (v := (1 : Int32)) d_D_order_8 (by decide) ?_
  refine v_bipush X.1 (v := (6 : Int32)) d_D_order_9 (by decide) ?_
  rcases obT_some hf with ⟨r6, g7, hc5, hf⟩ | ⟨k8, r6, g7, hc5, hf⟩
  rotate_left
  · cases hf
    exact v_out X.1 (x_runS X (c_D_checkRange l hfl p2 ((1 : Int32)) ((6 : Int32)) _ _ _ _ hc5) tw_321 tw_52 tw_319 tw_320 ⟨rfl, rfl, by decide, by decide⟩ ⟨by decide, by show _ = some 3; decide⟩ (rest := []) rfl (Nat.le_of_ble_eq_true rfl) d_D_order_11 (by decide) (by decide)) (by rw [hno]; intro x hx; cases hx) X.2.2.2.1 (by decide) (by decide)
  refine v_backV X.1 (x_runS X (c_D_checkRange l hfl p2 ((1 : Int32)) ((6 : Int32)) _ _ _ _ hc5) tw_321 tw_52 tw_319 tw_320 ⟨rfl, rfl, by decide, by decide⟩ ⟨by decide, by show _ = some 3; decide⟩ (rest := []) rfl (Nat.le_of_ble_eq_true rfl) d_D_order_11 (by decide) (by decide)) ?_
  refine v_iload_n X.1 d_D_order_14 rfl 3 rfl ?_
  refine v_iconst X.1 (v := (1 : Int32)) d_D_order_15 (by decide) ?_
  refine v_bipush X.1 (v := (9 : Int32)) d_D_order_16 (by decide) ?_
  rcases obT_some hf with ⟨r10, g11, hc9, hf⟩ | ⟨k12, r10, g11, hc9, hf⟩
  rotate_left
  · cases hf
    exact v_out X.1 (x_runS X (c_D_checkRange l hfl p3 ((1 : Int32)) ((9 : Int32)) _ _ _ _ hc9) tw_321 tw_52 tw_319 tw_320 ⟨rfl, rfl, by decide, by decide⟩ ⟨by decide, by show _ = some 3; decide⟩ (rest := []) rfl (Nat.le_of_ble_eq_true rfl) d_D_order_18 (by decide) (by decide)) (by rw [hno]; intro x hx; cases hx) X.2.2.2.1 (by decide) (by decide)
  refine v_backV X.1 (x_runS X (c_D_checkRange l hfl p3 ((1 : Int32)) ((9 : Int32)) _ _ _ _ hc9) tw_321 tw_52 tw_319 tw_320 ⟨rfl, rfl, by decide, by decide⟩ ⟨by decide, by show _ = some 3; decide⟩ (rest := []) rfl (Nat.le_of_ble_eq_true rfl) d_D_order_18 (by decide) (by decide)) ?_
  refine v_iload X.1 d_D_order_21 4 rfl ?_
  refine v_iconst X.1 (v := (0 : Int32)) d_D_order_23 (by decide) ?_
  refine v_iconst X.1 (v := (3 : Int32)) d_D_order_24 (by decide) ?_
  rcases obT_some hf with ⟨r14, g15, hc13, hf⟩ | ⟨k16, r14, g15, hc13, hf⟩
  rotate_left
  · cases hf
    exact v_out X.1 (x_runS X (c_D_checkRange l hfl p4 ((0 : Int32)) ((3 : Int32)) _ _ _ _ hc13) tw_321 tw_52 tw_319 tw_320 ⟨rfl, rfl, by decide, by decide⟩ ⟨by decide, by show _ = some 3; decide⟩ (rest := []) rfl (Nat.le_of_ble_eq_true rfl) d_D_order_25 (by decide) (by decide)) (by rw [hno]; intro x hx; cases hx) X.2.2.2.1 (by decide) (by decide)
  refine v_backV X.1 (x_runS X (c_D_checkRange l hfl p4 ((0 : Int32)) ((3 : Int32)) _ _ _ _ hc13) tw_321 tw_52 tw_319 tw_320 ⟨rfl, rfl, by decide, by decide⟩ ⟨by decide, by show _ = some 3; decide⟩ (rest := []) rfl (Nat.le_of_ble_eq_true rfl) d_D_order_25 (by decide) (by decide)) ?_
  refine v_aload_n X.1 d_D_order_28 rfl 0 rfl ?_
  refine v_get X.1 (ci := 0) ⟨in_D, rfl⟩ 0 rfl 8 (by decide) (X.t tw_220 rfl) rfl d_D_order_29 ?_
  refine v_bipush X.1 (v := (8 : Int32)) d_D_order_32 (by decide) ?_
  rcases obT_some hf with ⟨r18, g19, hc17, hf⟩ | ⟨k20, r18, g19, hc17, hf⟩
  rotate_left
  · cases hf
    exact v_out X.1 (x_runS X (c_D_checkRoom l hfl (g15 1 0) ((8 : Int32)) _ _ _ _ hc17) tw_393 tw_52 tw_391 tw_392 ⟨rfl, rfl, by decide, by decide⟩ ⟨by decide, by show _ = some 2; decide⟩ (rest := []) rfl (Nat.le_of_ble_eq_true rfl) d_D_order_34 (by decide) (by decide)) (by rw [hno]; intro x hx; cases hx) X.2.2.2.1 (by decide) (by decide)
  refine v_backV X.1 (x_runS X (c_D_checkRoom l hfl (g15 1 0) ((8 : Int32)) _ _ _ _ hc17) tw_393 tw_52 tw_391 tw_392 ⟨rfl, rfl, by decide, by decide⟩ ⟨by decide, by show _ = some 2; decide⟩ (rest := []) rfl (Nat.le_of_ble_eq_true rfl) d_D_order_34 (by decide) (by decide)) ?_
  refine v_aload_n X.1 d_D_order_37 rfl 0 rfl ?_
  refine v_get X.1 (ci := 0) ⟨in_D, rfl⟩ 0 rfl 1 (by decide) (X.t tw_213 rfl) rfl d_D_order_38 ?_
  refine v_aload_n X.1 d_D_order_41 rfl 0 rfl ?_
  refine v_get X.1 (ci := 0) ⟨in_D, rfl⟩ 0 rfl 8 (by decide) (X.t tw_220 rfl) rfl d_D_order_42 ?_
  obtain ⟨hb21, hf⟩ := oi_none hf
  have hp22 : (g19 1 0).toNatClampNeg < 8 := Nat.not_le.mp (fun q => hb21 (Or.inr q))
  refine v_aald X.1 (b := ad (28 + (g19 1 0).toNatClampNeg)) 2 3 rfl rfl hb21 rfl d_D_order_45 ?_
  refine v_astore X.1 (lv' := [(5, .ref (ad (28 + (g19 1 0).toNatClampNeg))), (0, .ref (ad 0)), (1, .int p1), (2, .int p2), (3, .int p3), (4, .int p4)]) d_D_order_46 (by decide) rfl ?_
  refine v_aload X.1 d_D_order_48 0 rfl ?_
  refine v_iload_n X.1 d_D_order_50 rfl 2 rfl ?_
  obtain ⟨g23, eg24, hf⟩ := ob_some hf
  refine v_putN X.1 (ci := 2) ⟨in_O, rfl⟩ (28 + (g19 1 0).toNatClampNeg) (wO_at ad ca _ hp22) 0 (by decide) ⟨ty_O_ok, nm_O⟩ (X.t tw_113 rfl) rfl (ty := .int) (by decide +kernel) rfl rfl (Nat.le_of_ble_eq_true rfl) ((wO_set0 ad ca _ _ hp22).trans (congrArg (wX ad ca) (Option.some.inj eg24))) d_D_order_51 ?_
  refine v_aload X.1 d_D_order_54 0 rfl ?_
  refine v_iload_n X.1 d_D_order_56 rfl 3 rfl ?_
  obtain ⟨g25, eg26, hf⟩ := ob_some hf
  refine v_putN X.1 (ci := 2) ⟨in_O, rfl⟩ (28 + (g19 1 0).toNatClampNeg) (wO_at ad ca _ hp22) 1 (by decide) ⟨ty_O_ok, nm_O⟩ (X.t tw_114 rfl) rfl (ty := .int) (by decide +kernel) rfl rfl (Nat.le_of_ble_eq_true rfl) ((wO_set1 ad ca _ _ hp22).trans (congrArg (wX ad ca) (Option.some.inj eg26))) d_D_order_57 ?_
  refine v_aload X.1 d_D_order_60 0 rfl ?_
  refine v_iload_n X.1 d_D_order_62 rfl 4 rfl ?_
  obtain ⟨g27, eg28, hf⟩ := ob_some hf
  refine v_putN X.1 (ci := 2) ⟨in_O, rfl⟩ (28 + (g19 1 0).toNatClampNeg) (wO_at ad ca _ hp22) 2 (by decide) ⟨ty_O_ok, nm_O⟩ (X.t tw_115 rfl) rfl (ty := .int) (by decide +kernel) rfl rfl (Nat.le_of_ble_eq_true rfl) ((wO_set2 ad ca _ _ hp22).trans (congrArg (wX ad ca) (Option.some.inj eg28))) d_D_order_63 ?_
  refine v_aload X.1 d_D_order_66 0 rfl ?_
  refine v_iload X.1 d_D_order_68 5 rfl ?_
  obtain ⟨g29, eg30, hf⟩ := ob_some hf
  refine v_putN X.1 (ci := 2) ⟨in_O, rfl⟩ (28 + (g19 1 0).toNatClampNeg) (wO_at ad ca _ hp22) 3 (by decide) ⟨ty_O_ok, nm_O⟩ (X.t tw_116 rfl) rfl (ty := .int) (by decide +kernel) rfl rfl (Nat.le_of_ble_eq_true rfl) ((wO_set3 ad ca _ _ hp22).trans (congrArg (wX ad ca) (Option.some.inj eg30))) d_D_order_70 ?_
  refine v_aload X.1 d_D_order_73 0 rfl ?_
  refine v_sipush X.1 (v := (1000 : Int32)) d_D_order_75 (by decide) ?_
  obtain ⟨g31, eg32, hf⟩ := ob_some hf
  refine v_putN X.1 (ci := 2) ⟨in_O, rfl⟩ (28 + (g19 1 0).toNatClampNeg) (wO_at ad ca _ hp22) 4 (by decide) ⟨ty_O_ok, nm_O⟩ (X.t tw_117 rfl) rfl (ty := .int) (by decide +kernel) rfl rfl (Nat.le_of_ble_eq_true rfl) ((wO_set4 ad ca _ _ hp22).trans (congrArg (wX ad ca) (Option.some.inj eg32))) d_D_order_78 ?_
  refine v_aload X.1 d_D_order_81 0 rfl ?_
  refine v_sipush X.1 (v := (1023 : Int32)) d_D_order_83 (by decide) ?_
  obtain ⟨g33, eg34, hf⟩ := ob_some hf
  refine v_putN X.1 (ci := 2) ⟨in_O, rfl⟩ (28 + (g19 1 0).toNatClampNeg) (wO_at ad ca _ hp22) 5 (by decide) ⟨ty_O_ok, nm_O⟩ (X.t tw_119 rfl) rfl (ty := .int) (by decide +kernel) rfl rfl (Nat.le_of_ble_eq_true rfl) ((wO_set5 ad ca _ _ hp22).trans (congrArg (wX ad ca) (Option.some.inj eg34))) d_D_order_86 ?_
  refine v_aload_n X.1 d_D_order_89 rfl 1 rfl ?_
  refine v_dup X.1 d_D_order_90 rfl ?_
  refine v_get X.1 (ci := 0) ⟨in_D, rfl⟩ 0 rfl 8 (by decide) (X.t tw_220 rfl) rfl d_D_order_91 ?_
  refine v_iconst X.1 (v := (1 : Int32)) d_D_order_94 (by decide) ?_
  refine v_iadd X.1 d_D_order_95 ?_
  obtain ⟨g35, eg36, hf⟩ := ob_some hf
  refine v_put X.1 (ci := 0) ⟨in_D, rfl⟩ 0 rfl 8 (by decide) ⟨ty_D_ok, nm_D⟩ (X.t tw_220 rfl) rfl (ty := .int) (by decide +kernel) rfl rfl (Nat.le_of_ble_eq_true rfl) ((sw_1 ad ca _ _).trans (congrArg (wX ad ca) (Option.some.inj eg36))) d_D_order_96 ?_
  refine v_aload_n X.1 d_D_order_99 rfl 1 rfl ?_
  refine v_get X.1 (ci := 0) ⟨in_D, rfl⟩ 0 rfl 8 (by decide) (X.t tw_220 rfl) rfl d_D_order_100 ?_
  refine v_iconst X.1 (v := (1 : Int32)) d_D_order_103 (by decide) ?_
  refine v_isub X.1 d_D_order_104 ?_
  cases hf
  exact v_iret X.1 X.2.2.1 rfl d_D_order_105 X.2.2.2.1 (by decide) (by decide)

def f_D_wants (p1 : Int32) (p2 : Int32) (p3 : Int32) (g : xSt) : Option (Nat × Int32 × xSt) := (obT (f_D_checkThere p1 (g 1 0) g) (fun r2 g3 => (obT (f_D_checkRange p2 ((0 : Int32)) ((1000 : Int32)) g3) (fun r6 g7 => (obT (f_D_checkRange p3 ((0 : Int32)) ((1023 : Int32)) g7) (fun r10 g11 => (if p1 < 0 ∨ 8 ≤ p1.toNatClampNeg then none else (Option.bind (some (xw g11 34 p1.toNatClampNeg p2)) (fun g15 => (if p1 < 0 ∨ 8 ≤ p1.toNatClampNeg then none else (Option.bind (some (xw g15 35 p1.toNatClampNeg p3)) (fun g19 => some (0, 0, g19)))))))))))))

set_option maxRecDepth 100000 in
set_option maxHeartbeats 4000000 in
theorem c_D_wants (l : Launch) (hfl : l.stackTraces = false) (p1 : Int32) (p2 : Int32) (p3 : Int32) (g : xSt) (k : Nat) (r : Int32) (g' : xSt) (hf : f_D_wants p1 p2 p3 g = some (k, r, g')) : xM l y_D_wants (.code y_D_wants b_D_wants 4 none) ({ frames := 7, cells := 3, slots := 18, locals := 104 } : Room) (fun ad => [.ref (ad 0), .int p1, .int p2, .int p3]) g (xov k none) g' 3 18 := by
  refine x_contract (by decide) (fun _ => Nat.le_of_ble_eq_true rfl) ?_
  intro p e s m below meth c D ad ca X hno
  unfold f_D_wants at hf
  refine v_iload_n X.1 d_D_wants_0 rfl 1 rfl ?_
  refine v_aload_n X.1 d_D_wants_1 rfl 0 rfl ?_
  refine v_get X.1 (ci := 0) ⟨in_D, rfl⟩ 0 rfl 8 (by decide) (X.t tw_220 rfl) rfl d_D_wants_2 ?_
  rcases obT_some hf with ⟨r2, g3, hc1, hf⟩ | ⟨k4, r2, g3, hc1, hf⟩
  rotate_left
  · cases hf
    exact v_out X.1 (x_runS X (c_D_checkThere l hfl p1 (g 1 0) _ _ _ _ hc1) tw_427 tw_52 tw_425 tw_426 ⟨rfl, rfl, by decide, by decide⟩ ⟨by decide, by show _ = some 2; decide⟩ (rest := []) rfl (Nat.le_of_ble_eq_true rfl) d_D_wants_5 (by decide) (by decide)) (by rw [hno]; intro x hx; cases hx) X.2.2.2.1 (by decide) (by decide)
  refine v_backV X.1 (x_runS X (c_D_checkThere l hfl p1 (g 1 0) _ _ _ _ hc1) tw_427 tw_52 tw_425 tw_426 ⟨rfl, rfl, by decide, by decide⟩ ⟨by decide, by show _ = some 2; decide⟩ (rest := []) rfl (Nat.le_of_ble_eq_true rfl) d_D_wants_5 (by decide) (by decide)) ?_
  refine v_iload_n X.1 d_D_wants_8 rfl 2 rfl ?_
  refine v_iconst X.1 (v := (0 : Int32)) d_D_wants_9 (by decide) ?_
  refine v_sipush X.1 (v := (1000 : Int32)) d_D_wants_10 (by decide) ?_
  rcases obT_some hf with ⟨r6, g7, hc5, hf⟩ | ⟨k8, r6, g7, hc5, hf⟩
  rotate_left
  · cases hf
    exact v_out X.1 (x_runS X (c_D_checkRange l hfl p2 ((0 : Int32)) ((1000 : Int32)) _ _ _ _ hc5) tw_321 tw_52 tw_319 tw_320 ⟨rfl, rfl, by decide, by decide⟩ ⟨by decide, by show _ = some 3; decide⟩ (rest := []) rfl (Nat.le_of_ble_eq_true rfl) d_D_wants_13 (by decide) (by decide)) (by rw [hno]; intro x hx; cases hx) X.2.2.2.1 (by decide) (by decide)
  refine v_backV X.1 (x_runS X (c_D_checkRange l hfl p2 ((0 : Int32)) ((1000 : Int32)) _ _ _ _ hc5) tw_321 tw_52 tw_319 tw_320 ⟨rfl, rfl, by decide, by decide⟩ ⟨by decide, by show _ = some 3; decide⟩ (rest := []) rfl (Nat.le_of_ble_eq_true rfl) d_D_wants_13 (by decide) (by decide)) ?_
  refine v_iload_n X.1 d_D_wants_16 rfl 3 rfl ?_
  refine v_iconst X.1 (v := (0 : Int32)) d_D_wants_17 (by decide) ?_
  refine v_sipush X.1 (v := (1023 : Int32)) d_D_wants_18 (by decide) ?_
  rcases obT_some hf with ⟨r10, g11, hc9, hf⟩ | ⟨k12, r10, g11, hc9, hf⟩
  rotate_left
  · cases hf
    exact v_out X.1 (x_runS X (c_D_checkRange l hfl p3 ((0 : Int32)) ((1023 : Int32)) _ _ _ _ hc9) tw_321 tw_52 tw_319 tw_320 ⟨rfl, rfl, by decide, by decide⟩ ⟨by decide, by show _ = some 3; decide⟩ (rest := []) rfl (Nat.le_of_ble_eq_true rfl) d_D_wants_21 (by decide) (by decide)) (by rw [hno]; intro x hx; cases hx) X.2.2.2.1 (by decide) (by decide)
  refine v_backV X.1 (x_runS X (c_D_checkRange l hfl p3 ((0 : Int32)) ((1023 : Int32)) _ _ _ _ hc9) tw_321 tw_52 tw_319 tw_320 ⟨rfl, rfl, by decide, by decide⟩ ⟨by decide, by show _ = some 3; decide⟩ (rest := []) rfl (Nat.le_of_ble_eq_true rfl) d_D_wants_21 (by decide) (by decide)) ?_
  refine v_aload_n X.1 d_D_wants_24 rfl 0 rfl ?_
  refine v_get X.1 (ci := 0) ⟨in_D, rfl⟩ 0 rfl 1 (by decide) (X.t tw_213 rfl) rfl d_D_wants_25 ?_
  refine v_iload_n X.1 d_D_wants_28 rfl 1 rfl ?_
  obtain ⟨hb13, hf⟩ := oi_none hf
  have hp14 : p1.toNatClampNeg < 8 := Nat.not_le.mp (fun q => hb13 (Or.inr q))
  refine v_aald X.1 (b := ad (28 + p1.toNatClampNeg)) 2 3 rfl rfl hb13 rfl d_D_wants_29 ?_
  refine v_iload_n X.1 d_D_wants_30 rfl 2 rfl ?_
  obtain ⟨g15, eg16, hf⟩ := ob_some hf
  refine v_putN X.1 (ci := 2) ⟨in_O, rfl⟩ (28 + p1.toNatClampNeg) (wO_at ad ca _ hp14) 4 (by decide) ⟨ty_O_ok, nm_O⟩ (X.t tw_117 rfl) rfl (ty := .int) (by decide +kernel) rfl rfl (Nat.le_of_ble_eq_true rfl) ((wO_set4 ad ca _ _ hp14).trans (congrArg (wX ad ca) (Option.some.inj eg16))) d_D_wants_31 ?_
  refine v_aload_n X.1 d_D_wants_34 rfl 0 rfl ?_
  refine v_get X.1 (ci := 0) ⟨in_D, rfl⟩ 0 rfl 1 (by decide) (X.t tw_213 rfl) rfl d_D_wants_35 ?_
  refine v_iload_n X.1 d_D_wants_38 rfl 1 rfl ?_
  obtain ⟨hb17, hf⟩ := oi_none hf
  have hp18 : p1.toNatClampNeg < 8 := Nat.not_le.mp (fun q => hb17 (Or.inr q))
  refine v_aald X.1 (b := ad (28 + p1.toNatClampNeg)) 2 3 rfl rfl hb17 rfl d_D_wants_39 ?_
  refine v_iload_n X.1 d_D_wants_40 rfl 3 rfl ?_
  obtain ⟨g19, eg20, hf⟩ := ob_some hf
  refine v_putN X.1 (ci := 2) ⟨in_O, rfl⟩ (28 + p1.toNatClampNeg) (wO_at ad ca _ hp18) 5 (by decide) ⟨ty_O_ok, nm_O⟩ (X.t tw_119 rfl) rfl (ty := .int) (by decide +kernel) rfl rfl (Nat.le_of_ble_eq_true rfl) ((wO_set5 ad ca _ _ hp18).trans (congrArg (wX ad ca) (Option.some.inj eg20))) d_D_wants_41 ?_
  cases hf
  exact v_vret X.1 X.2.2.1 d_D_wants_44 X.2.2.2.1 (by decide) (by decide)

def f_D_promised (fu : Nat) (p1 : Int32) (p2 : Int32) (g : xSt) : Option (Nat × Int32 × xSt) := (obT (f_D_checkThere p1 (g 0 0) g) (fun r2 g3 => (if p1 < 0 ∨ 8 ≤ p1.toNatClampNeg then none else (obT (f_D_checkRange p2 ((0 : Int32)) (g3 27 p1.toNatClampNeg) g3) (fun r8 g9 => (ob2 (f_P_palletsOf fu p1 g9) (fun r12 g13 => (if (p2 + r12) ≤ (g13 27 p1.toNatClampNeg) then (Option.bind (some (xw g13 28 p1.toNatClampNeg p2)) (fun g15 => some (0, 0, g15))) else some (4, 0, g13)))))))))

set_option maxRecDepth 100000 in
set_option maxHeartbeats 4000000 in
theorem c_D_promised (l : Launch) (hfl : l.stackTraces = false) (fu : Nat) (p1 : Int32) (p2 : Int32) (g : xSt) (k : Nat) (r : Int32) (g' : xSt) (hf : f_D_promised fu p1 p2 g = some (k, r, g')) : xM l y_D_promised (.code y_D_promised b_D_promised 4 none) ({ frames := 7, cells := 3, slots := 18, locals := 104 } : Room) (fun ad => [.ref (ad 0), .int p1, .int p2]) g (xov k none) g' 3 18 := by
  refine x_contract (by decide) (fun _ => Nat.le_of_ble_eq_true rfl) ?_
  intro p e s m below meth c D ad ca X hno
  unfold f_D_promised at hf
  refine v_iload_n X.1 d_D_promised_0 rfl 1 rfl ?_
  refine v_aload_n X.1 d_D_promised_1 rfl 0 rfl ?_
  refine v_get X.1 (ci := 0) ⟨in_D, rfl⟩ 0 rfl 7 (by decide) (X.t tw_219 rfl) rfl d_D_promised_2 ?_
  rcases obT_some hf with ⟨r2, g3, hc1, hf⟩ | ⟨k4, r2, g3, hc1, hf⟩
  rotate_left
  · cases hf
    exact v_out X.1 (x_runS X (c_D_checkThere l hfl p1 (g 0 0) _ _ _ _ hc1) tw_427 tw_52 tw_425 tw_426 ⟨rfl, rfl, by decide, by decide⟩ ⟨by decide, by show _ = some 2; decide⟩ (rest := []) rfl (Nat.le_of_ble_eq_true rfl) d_D_promised_5 (by decide) (by decide)) (by rw [hno]; intro x hx; cases hx) X.2.2.2.1 (by decide) (by decide)
  refine v_backV X.1 (x_runS X (c_D_checkThere l hfl p1 (g 0 0) _ _ _ _ hc1) tw_427 tw_52 tw_425 tw_426 ⟨rfl, rfl, by decide, by decide⟩ ⟨by decide, by show _ = some 2; decide⟩ (rest := []) rfl (Nat.le_of_ble_eq_true rfl) d_D_promised_5 (by decide) (by decide)) ?_
  refine v_aload_n X.1 d_D_promised_8 rfl 0 rfl ?_
  refine v_get X.1 (ci := 0) ⟨in_D, rfl⟩ 0 rfl 0 (by decide) (X.t tw_212 rfl) rfl d_D_promised_9 ?_
  refine v_iload_n X.1 d_D_promised_12 rfl 1 rfl ?_
  obtain ⟨hb5, hf⟩ := oi_none hf
  have hp6 : p1.toNatClampNeg < 8 := Nat.not_le.mp (fun q => hb5 (Or.inr q))
  refine v_aald X.1 (b := ad (20 + p1.toNatClampNeg)) 1 2 rfl rfl hb5 rfl d_D_promised_13 ?_
  refine v_astore_n X.1 (lv' := [(3, .ref (ad (20 + p1.toNatClampNeg))), (0, .ref (ad 0)), (1, .int p1), (2, .int p2)]) d_D_promised_14 rfl (by decide) rfl ?_
  refine v_iload_n X.1 d_D_promised_15 rfl 3 rfl ?_
  refine v_iconst X.1 (v := (0 : Int32)) d_D_promised_16 (by decide) ?_
  refine v_aload_n X.1 d_D_promised_17 rfl 0 rfl ?_
  refine v_getN X.1 (ci := 1) ⟨in_A, rfl⟩ (20 + p1.toNatClampNeg) (wA_at ad ca _ hp6) 3 (by decide) (X.t tw_89 rfl) rfl d_D_promised_18 ?_
  rcases obT_some hf with ⟨r8, g9, hc7, hf⟩ | ⟨k10, r8, g9, hc7, hf⟩
  rotate_left
  · cases hf
    exact v_out X.1 (x_runS X (c_D_checkRange l hfl p2 ((0 : Int32)) (g3 27 p1.toNatClampNeg) _ _ _ _ hc7) tw_321 tw_52 tw_319 tw_320 ⟨rfl, rfl, by decide, by decide⟩ ⟨by decide, by show _ = some 3; decide⟩ (rest := []) rfl (Nat.le_of_ble_eq_true rfl) d_D_promised_21 (by decide) (by decide)) (by rw [hno]; intro x hx; cases hx) X.2.2.2.1 (by decide) (by decide)
  refine v_backV X.1 (x_runS X (c_D_checkRange l hfl p2 ((0 : Int32)) (g3 27 p1.toNatClampNeg) _ _ _ _ hc7) tw_321 tw_52 tw_319 tw_320 ⟨rfl, rfl, by decide, by decide⟩ ⟨by decide, by show _ = some 3; decide⟩ (rest := []) rfl (Nat.le_of_ble_eq_true rfl) d_D_promised_21 (by decide) (by decide)) ?_
  refine v_iload_n X.1 d_D_promised_24 rfl 3 rfl ?_
  refine v_aload_n X.1 d_D_promised_25 rfl 1 rfl ?_
  refine v_get X.1 (ci := 0) ⟨in_D, rfl⟩ 0 rfl 6 (by decide) (X.t tw_218 rfl) rfl d_D_promised_26 ?_
  refine v_iload_n X.1 d_D_promised_29 rfl 2 rfl ?_
  obtain ⟨r12, g13, hc11, hf⟩ := ob2_some hf
  refine v_backI X.1 (x_runN X (c_P_palletsOf l fu p1 _ _ _ hc11) rfl tw_455 tw_56 tw_452 tw_454 tw_12 7 3 rfl rfl rfl ⟨rfl, rfl, by decide, by decide⟩ ⟨by decide, by show _ = some 1; decide⟩ (rest := [.int p2]) rfl (Nat.le_of_ble_eq_true rfl) d_D_promised_30 (by decide) (by decide)) ?_
  refine v_iadd X.1 d_D_promised_33 ?_
  refine v_aload_n X.1 d_D_promised_34 rfl 0 rfl ?_
  refine v_getN X.1 (ci := 1) ⟨in_A, rfl⟩ (20 + p1.toNatClampNeg) (wA_at ad ca _ hp6) 3 (by decide) (X.t tw_89 rfl) rfl d_D_promised_35 ?_
  refine v_icmp_le X.1 (tgt := 51) d_D_promised_38 (by decide) (fun c14 => ?_) (fun c14 => ?_)
  · rw [if_pos c14] at hf
    refine v_aload_n X.1 d_D_promised_51 rfl 0 rfl ?_
    refine v_iload_n X.1 d_D_promised_52 rfl 3 rfl ?_
    obtain ⟨g15, eg16, hf⟩ := ob_some hf
    refine v_putN X.1 (ci := 1) ⟨in_A, rfl⟩ (20 + p1.toNatClampNeg) (wA_at ad ca _ hp6) 4 (by decide) ⟨ty_A_ok, nm_A⟩ (X.t tw_91 rfl) rfl (ty := .int) (by decide +kernel) rfl rfl (Nat.le_of_ble_eq_true rfl) ((wA_set4 ad ca _ _ hp6).trans (congrArg (wX ad ca) (Option.some.inj eg16))) d_D_promised_53 ?_
    cases hf
    exact v_vret X.1 X.2.2.1 d_D_promised_56 X.2.2.2.1 (by decide) (by decide)
  · rw [if_neg c14] at hf
    cases hf
    exact v_throw X hfl hno (cls := "java/lang/IllegalStateException") (text := "matches that stand hold too many pallets") (i1 := 7) rfl tw_456 tw_457 tw_64 tw_466 (by decide) (by decide +kernel) thb_IllegalStateException thw_IllegalStateException d_D_promised_41 d_D_promised_44 d_D_promised_45 d_D_promised_47 d_D_promised_50 ⟨by decide, by decide, by decide, by decide⟩ (by decide) (by decide)

def f_D_rule (p1 : Int32) (p2 : Int32) (p3 : Int32) (g : xSt) : Option (Nat × Int32 × xSt) := (obT (f_D_checkThere p1 (g 0 0) g) (fun r2 g3 => (obT (f_D_checkThere p2 (g3 1 0) g3) (fun r6 g7 => (if p1 < 0 ∨ 8 ≤ p1.toNatClampNeg then none else (Option.bind (f_A_setBarred p1.toNatClampNeg p2 p3 g7) (fun g13 => (ob2 (f_D_mayServe p1 p2 g13) (fun r15 g16 => (if ¬ (r15 = 0 ∨ r15 = 1) then none else some (0, r15, g16)))))))))))

set_option maxRecDepth 100000 in
set_option maxHeartbeats 4000000 in
theorem c_D_rule (l : Launch) (hfl : l.stackTraces = false) (p1 : Int32) (p2 : Int32) (p3 : Int32) (g : xSt) (k : Nat) (r : Int32) (g' : xSt) (hf : f_D_rule p1 p2 p3 g = some (k, r, g')) : xM l y_D_rule (.code y_D_rule b_D_rule 4 (some .boolean)) ({ frames := 7, cells := 2, slots := 12, locals := 103 } : Room) (fun ad => [.ref (ad 0), .int p1, .int p2, .int p3]) g (xov k (some (.int r))) g' 2 12 := by
  refine x_contract (by decide) (fun _ => Nat.le_of_ble_eq_true rfl) ?_
  intro p e s m below meth c D ad ca X hno
  unfold f_D_rule at hf
  refine v_iload_n X.1 d_D_rule_0 rfl 1 rfl ?_
  refine v_aload_n X.1 d_D_rule_1 rfl 0 rfl ?_
  refine v_get X.1 (ci := 0) ⟨in_D, rfl⟩ 0 rfl 7 (by decide) (X.t tw_219 rfl) rfl d_D_rule_2 ?_
  rcases obT_some hf with ⟨r2, g3, hc1, hf⟩ | ⟨k4, r2, g3, hc1, hf⟩
  rotate_left
  · cases hf
    exact v_out X.1 (x_runS X (c_D_checkThere l hfl p1 (g 0 0) _ _ _ _ hc1) tw_427 tw_52 tw_425 tw_426 ⟨rfl, rfl, by decide, by decide⟩ ⟨by decide, by show _ = some 2; decide⟩ (rest := []) rfl (Nat.le_of_ble_eq_true rfl) d_D_rule_5 (by decide) (by decide)) (by rw [hno]; intro x hx; cases hx) X.2.2.2.1 (by decide) (by decide)
  refine v_backV X.1 (x_runS X (c_D_checkThere l hfl p1 (g 0 0) _ _ _ _ hc1) tw_427 tw_52 tw_425 tw_426 ⟨rfl, rfl, by decide, by decide⟩ ⟨by decide, by show _ = some 2; decide⟩ (rest := []) rfl (Nat.le_of_ble_eq_true rfl) d_D_rule_5 (by decide) (by decide)) ?_
  refine v_iload_n X.1 d_D_rule_8 rfl 2 rfl ?_
  refine v_aload_n X.1 d_D_rule_9 rfl 0 rfl ?_
  refine v_get X.1 (ci := 0) ⟨in_D, rfl⟩ 0 rfl 8 (by decide) (X.t tw_220 rfl) rfl d_D_rule_10 ?_
  rcases obT_some hf with ⟨r6, g7, hc5, hf⟩ | ⟨k8, r6, g7, hc5, hf⟩
  rotate_left
  · cases hf
    exact v_out X.1 (x_runS X (c_D_checkThere l hfl p2 (g3 1 0) _ _ _ _ hc5) tw_427 tw_52 tw_425 tw_426 ⟨rfl, rfl, by decide, by decide⟩ ⟨by decide, by show _ = some 2; decide⟩ (rest := []) rfl (Nat.le_of_ble_eq_true rfl) d_D_rule_13 (by decide) (by decide)) (by rw [hno]; intro x hx; cases hx) X.2.2.2.1 (by decide) (by decide)
  refine v_backV X.1 (x_runS X (c_D_checkThere l hfl p2 (g3 1 0) _ _ _ _ hc5) tw_427 tw_52 tw_425 tw_426 ⟨rfl, rfl, by decide, by decide⟩ ⟨by decide, by show _ = some 2; decide⟩ (rest := []) rfl (Nat.le_of_ble_eq_true rfl) d_D_rule_13 (by decide) (by decide)) ?_
  refine v_aload_n X.1 d_D_rule_16 rfl 0 rfl ?_
  refine v_get X.1 (ci := 0) ⟨in_D, rfl⟩ 0 rfl 0 (by decide) (X.t tw_212 rfl) rfl d_D_rule_17 ?_
  refine v_iload_n X.1 d_D_rule_20 rfl 1 rfl ?_
  obtain ⟨hb9, hf⟩ := oi_none hf
  have hp10 : p1.toNatClampNeg < 8 := Nat.not_le.mp (fun q => hb9 (Or.inr q))
  refine v_aald X.1 (b := ad (20 + p1.toNatClampNeg)) 1 2 rfl rfl hb9 rfl d_D_rule_21 ?_
  refine v_iload_n X.1 d_D_rule_22 rfl 2 rfl ?_
  refine v_iload_n X.1 d_D_rule_23 rfl 3 rfl ?_
  obtain ⟨g13, hc11, hf⟩ := ob_some hf
  refine v_backV X.1 (x_runN X (c_A_setBarred l p1.toNatClampNeg p2 p3 hp10 _ _ hc11) rfl tw_482 tw_53 tw_479 tw_481 tw_13 (20 + p1.toNatClampNeg) 1 (wA_at ad ca _ hp10) rfl rfl ⟨rfl, rfl, by decide, by decide⟩ ⟨by decide, by show _ = some 2; decide⟩ (rest := []) rfl (Nat.le_of_ble_eq_true rfl) d_D_rule_24 (by decide) (by decide)) ?_
  refine v_aload_n X.1 d_D_rule_27 rfl 0 rfl ?_
  refine v_iload_n X.1 d_D_rule_28 rfl 1 rfl ?_
  refine v_iload_n X.1 d_D_rule_29 rfl 2 rfl ?_
  obtain ⟨r15, g16, hc14, hf⟩ := ob2_some hf
  refine v_backI X.1 (x_runV X (c_D_mayServe l p1 p2 _ _ _ hc14) rfl tw_261 tw_52 tw_258 tw_260 tw_1 0 0 rfl rfl rfl ⟨rfl, rfl, by decide, by decide⟩ ⟨by decide, by show _ = some 2; decide⟩ (rest := []) rfl (Nat.le_of_ble_eq_true rfl) d_D_rule_30 (by decide) (by decide)) ?_
  obtain ⟨hz17, hf⟩ := oi_none hf
  cases hf
  exact v_iret X.1 X.2.2.1 (oz_nar hz17).1 d_D_rule_33 X.2.2.2.1 (by decide) (by decide)

def f_D_full_L18 (fu : Nat) (p1 : Int32) (p2 : Int32) : Nat → Int32 → Int32 → xSt → Option (Int32 × Int32 × xSt)
  | 0, _, _, _ => none
  | n + 1, a3, a4, g => (if (g 1 0) ≤ a4 then some (a3, a4, g) else (if a4 < 0 ∨ 8 ≤ a4.toNatClampNeg then none else (if (g 33 a4.toNatClampNeg) = p1 then f_D_full_L18 fu p1 p2 n (a3 + (1 : Int32)) (a4 + (1 : Int32)) g else f_D_full_L18 fu p1 p2 n a3 (a4 + (1 : Int32)) g)))

def f_D_full (fu : Nat) (p1 : Int32) (p2 : Int32) (g : xSt) : Option (Nat × Int32 × xSt) := (obT (f_D_checkRange p1 ((0 : Int32)) ((3 : Int32)) g) (fun r2 g3 => (if p1 < 0 ∨ 4 ≤ p1.toNatClampNeg then none else (Option.bind (some (xw g3 4 p1.toNatClampNeg (vp_nar .boolean p2))) (fun g6 => (ob3 (f_D_full_L18 fu p1 p2 fu ((0 : Int32)) ((0 : Int32)) g6) (fun x12 x13 g14 => some (0, x12, g14))))))))

set_option maxRecDepth 100000 in
set_option maxHeartbeats 4000000 in
theorem l_D_full_L18 {p : Program} {e : Env} {s : State} {m : MethodId} {below : List Frame} {meth : Method} {c : Code} {D : va_G} {ad : Nat → Nat} {ca : Nat → ClassId} (l : Launch) (hfl : l.stackTraces = false) (fu : Nat) (p1 : Int32) (p2 : Int32) (X : xX p s m ([.ref (ad 0), .int p1, .int p2] : List Value).toArray meth c b_D_full "CrossDock" 5 (some .int) D ad ca) (hno : c.exceptionTable.toList = []) {Q : State → Prop} : ∀ (n : Nat) (a3 : Int32) (a4 : Int32) (g : xSt) (a3' : Int32) (a4' : Int32) (g' : xSt), f_D_full_L18 fu p1 p2 n a3 a4 g = some (a3', a4', g') → xV p l e ({ frames := 7, cells := 1, slots := 6, locals := 104 } : Room) s m ([.ref (ad 0), .int p1, .int p2] : List Value).toArray below meth c D xcl (wX ad ca) (xA (wX ad ca) s.heap.size) 5 1 6 Q g' 50 [(4, .int a4'), (3, .int a3'), (0, .ref (ad 0)), (1, .int p1), (2, .int p2)] [] → xV p l e ({ frames := 7, cells := 1, slots := 6, locals := 104 } : Room) s m ([.ref (ad 0), .int p1, .int p2] : List Value).toArray below meth c D xcl (wX ad ca) (xA (wX ad ca) s.heap.size) 5 1 6 Q g 18 [(4, .int a4), (3, .int a3), (0, .ref (ad 0)), (1, .int p1), (2, .int p2)] [] := by
  intro n
  induction n with
  | zero =>
    intro a3 a4 g a3' a4' g' hf
    rw [f_D_full_L18] at hf
    cases hf
  | succ n ih =>
    intro a3 a4 g a3' a4' g' hf hk
    rw [f_D_full_L18] at hf
    refine v_iload X.1 d_D_full_18 0 rfl ?_
    refine v_aload_n X.1 d_D_full_20 rfl 2 rfl ?_
    refine v_get X.1 (ci := 0) ⟨in_D, rfl⟩ 0 rfl 8 (by decide) (X.t tw_220 rfl) rfl d_D_full_21 ?_
    refine v_icmp_ge X.1 (tgt := 50) d_D_full_24 (by decide) (fun c8 => ?_) (fun c8 => ?_)
    · rw [if_pos c8] at hf
      cases hf
      refine v_sub [0, 1, 2, 3, 4] rfl ?_
      exact hk
    · rw [if_neg c8] at hf
      refine v_aload_n X.1 d_D_full_27 rfl 2 rfl ?_
      refine v_get X.1 (ci := 0) ⟨in_D, rfl⟩ 0 rfl 1 (by decide) (X.t tw_213 rfl) rfl d_D_full_28 ?_
      refine v_iload X.1 d_D_full_31 0 rfl ?_
      obtain ⟨hb9, hf⟩ := oi_none hf
      have hp10 : a4.toNatClampNeg < 8 := Nat.not_le.mp (fun q => hb9 (Or.inr q))
      refine v_aald X.1 (b := ad (28 + a4.toNatClampNeg)) 2 3 rfl rfl hb9 rfl d_D_full_33 ?_
      refine v_getN X.1 (ci := 2) ⟨in_O, rfl⟩ (28 + a4.toNatClampNeg) (wO_at ad ca _ hp10) 3 (by decide) (X.t tw_116 rfl) rfl d_D_full_34 ?_
      refine v_iload_n X.1 d_D_full_37 rfl 3 rfl ?_
      refine v_icmp_ne X.1 (tgt := 44) d_D_full_38 (by decide) (fun c11 => ?_) (fun c11 => ?_)
      · rw [if_neg c11] at hf
        refine v_iinc X.1 (k0 := 0) (v := a4 + (1 : Int32)) (lv' := [(4, .int (a4 + (1 : Int32))), (3, .int a3), (0, .ref (ad 0)), (1, .int p1), (2, .int p2)]) d_D_full_44 rfl rfl (by decide) rfl ?_
        refine v_goto X.1 (tgt := 18) d_D_full_47 (by decide) ?_
        refine v_sub [0, 1, 2, 3, 4] rfl ?_
        exact ih _ _ _ _ _ _ hf hk
      · rw [if_pos c11] at hf
        refine v_iinc X.1 (k0 := 1) (v := a3 + (1 : Int32)) (lv' := [(3, .int (a3 + (1 : Int32))), (4, .int a4), (0, .ref (ad 0)), (1, .int p1), (2, .int p2)]) d_D_full_41 rfl rfl (by decide) rfl ?_
        refine v_iinc X.1 (k0 := 1) (v := a4 + (1 : Int32)) (lv' := [(4, .int (a4 + (1 : Int32))), (3, .int (a3 + (1 : Int32))), (0, .ref (ad 0)), (1, .int p1), (2, .int p2)]) d_D_full_44 rfl rfl (by decide) rfl ?_
        refine v_goto X.1 (tgt := 18) d_D_full_47 (by decide) ?_
        refine v_sub [0, 1, 2, 3, 4] rfl ?_
        exact ih _ _ _ _ _ _ hf hk

set_option maxRecDepth 100000 in
set_option maxHeartbeats 4000000 in
theorem c_D_full (l : Launch) (hfl : l.stackTraces = false) (fu : Nat) (p1 : Int32) (p2 : Int32) (g : xSt) (k : Nat) (r : Int32) (g' : xSt) (hf : f_D_full fu p1 p2 g = some (k, r, g')) : xM l y_D_full (.code y_D_full b_D_full 5 (some .int)) ({ frames := 7, cells := 1, slots := 6, locals := 104 } : Room) (fun ad => [.ref (ad 0), .int p1, .int p2]) g (xov k (some (.int r))) g' 1 6 := by
  refine x_contract (by decide) (fun _ => Nat.le_of_ble_eq_true rfl) ?_
  intro p e s m below meth c D ad ca X hno
  unfold f_D_full at hf
  refine v_iload_n X.1 d_D_full_0 rfl 1 rfl ?_
  refine v_iconst X.1 (v := (0 : Int32)) d_D_full_1 (by decide) ?_
  refine v_iconst X.1 (v := (3 : Int32)) d_D_full_2 (by decide) ?_
  rcases obT_some hf with ⟨r2, g3, hc1, hf⟩ | ⟨k4, r2, g3, hc1, hf⟩
  rotate_left
  · cases hf
    exact v_out X.1 (x_runS X (c_D_checkRange l hfl p1 ((0 : Int32)) ((3 : Int32)) _ _ _ _ hc1) tw_321 tw_52 tw_319 tw_320 ⟨rfl, rfl, by decide, by decide⟩ ⟨by decide, by show _ = some 3; decide⟩ (rest := []) rfl (Nat.le_of_ble_eq_true rfl) d_D_full_3 (by decide) (by decide)) (by rw [hno]; intro x hx; cases hx) X.2.2.2.1 (by decide) (by decide)
  refine v_backV X.1 (x_runS X (c_D_checkRange l hfl p1 ((0 : Int32)) ((3 : Int32)) _ _ _ _ hc1) tw_321 tw_52 tw_319 tw_320 ⟨rfl, rfl, by decide, by decide⟩ ⟨by decide, by show _ = some 3; decide⟩ (rest := []) rfl (Nat.le_of_ble_eq_true rfl) d_D_full_3 (by decide) (by decide)) ?_
  refine v_aload_n X.1 d_D_full_6 rfl 0 rfl ?_
  refine v_get X.1 (ci := 0) ⟨in_D, rfl⟩ 0 rfl 2 (by decide) (X.t tw_214 rfl) rfl d_D_full_7 ?_
  refine v_iload_n X.1 d_D_full_10 rfl 1 rfl ?_
  refine v_iload_n X.1 d_D_full_11 rfl 2 rfl ?_
  obtain ⟨hb5, hf⟩ := oi_none hf
  obtain ⟨g6, eg7, hf⟩ := ob_some hf
  refine v_zast X.1 3 1 rfl rfl hb5 ((sa_4 ad ca _ _ _).trans (congrArg (wX ad ca) (Option.some.inj eg7))) d_D_full_12 ?_
  refine v_iconst X.1 (v := (0 : Int32)) d_D_full_13 (by decide) ?_
  refine v_istore_n X.1 (lv' := [(3, .int ((0 : Int32))), (0, .ref (ad 0)), (1, .int p1), (2, .int p2)]) d_D_full_14 rfl (by decide) rfl ?_
  refine v_iconst X.1 (v := (0 : Int32)) d_D_full_15 (by decide) ?_
  refine v_istore X.1 (lv' := [(4, .int ((0 : Int32))), (3, .int ((0 : Int32))), (0, .ref (ad 0)), (1, .int p1), (2, .int p2)]) d_D_full_16 (by decide) rfl ?_
  obtain ⟨x12, x13, g14, hL15, hf⟩ := ob3_some hf
  refine l_D_full_L18 l hfl fu p1 p2 X hno fu _ _ _ _ _ _ hL15 ?_
  refine v_iload_n X.1 d_D_full_50 rfl 1 rfl ?_
  cases hf
  exact v_iret X.1 X.2.2.1 rfl d_D_full_51 X.2.2.2.1 (by decide) (by decide)

def f_D_match (fu : Nat) (p1 : Int32) (g : xSt) : Option (Nat × Int32 × xSt) := (obT (f_D_checkRange p1 ((0 : Int32)) ((20000 : Int32)) g) (fun r2 g3 => (Option.bind (f_D_layOutPairs fu g3) (fun g7 => (ob2 (f_S_lookAtAll fu p1 g7) (fun r9 g10 => (if ¬ (r9 = 0 ∨ r9 = 1) then none else (Option.bind (some (xw g10 2 0 r9)) (fun g11 => (Option.bind (some (xw g11 3 0 (g11 19 0))) (fun g14 => (if (g14 2 0) = 0 then (Option.bind (f_S_chooseByRule fu g14) (fun g25 => (Option.bind (f_P_replaceBy fu g25) (fun g28 => (ob2 (f_D_touchesSaved fu g28) (fun r30 g31 => some (0, r30, g31))))))) else (Option.bind (f_P_replaceBy fu g14) (fun g19 => (ob2 (f_D_touchesSaved fu g19) (fun r21 g22 => some (0, r21, g22)))))))))))))))))

set_option maxRecDepth 100000 in
set_option maxHeartbeats 4000000 in
theorem c_D_match (l : Launch) (hfl : l.stackTraces = false) (fu : Nat) (p1 : Int32) (g : xSt) (k : Nat) (r : Int32) (g' : xSt) (hf : f_D_match fu p1 g = some (k, r, g')) : xM l y_D_match (.code y_D_match b_D_match 2 (some .int)) ({ frames := 7, cells := 1, slots := 6, locals := 104 } : Room) (fun ad => [.ref (ad 0), .int p1]) g (xov k (some (.int r))) g' 1 6 := by
  refine x_contract (by decide) (fun _ => Nat.le_of_ble_eq_true rfl) ?_
  intro p e s m below meth c D ad ca X hno
  unfold f_D_match at hf
  refine v_iload_n X.1 d_D_match_0 rfl 1 rfl ?_
  refine v_iconst X.1 (v := (0 : Int32)) d_D_match_1 (by decide) ?_
  refine v_sipush X.1 (v := (20000 : Int32)) d_D_match_2 (by decide) ?_
  rcases obT_some hf with ⟨r2, g3, hc1, hf⟩ | ⟨k4, r2, g3, hc1, hf⟩
  rotate_left
  · cases hf
    exact v_out X.1 (x_runS X (c_D_checkRange l hfl p1 ((0 : Int32)) ((20000 : Int32)) _ _ _ _ hc1) tw_321 tw_52 tw_319 tw_320 ⟨rfl, rfl, by decide, by decide⟩ ⟨by decide, by show _ = some 3; decide⟩ (rest := []) rfl (Nat.le_of_ble_eq_true rfl) d_D_match_5 (by decide) (by decide)) (by rw [hno]; intro x hx; cases hx) X.2.2.2.1 (by decide) (by decide)
  refine v_backV X.1 (x_runS X (c_D_checkRange l hfl p1 ((0 : Int32)) ((20000 : Int32)) _ _ _ _ hc1) tw_321 tw_52 tw_319 tw_320 ⟨rfl, rfl, by decide, by decide⟩ ⟨by decide, by show _ = some 3; decide⟩ (rest := []) rfl (Nat.le_of_ble_eq_true rfl) d_D_match_5 (by decide) (by decide)) ?_
  refine v_aload_n X.1 d_D_match_8 rfl 0 rfl ?_
  obtain ⟨g7, hc5, hf⟩ := ob_some hf
  refine v_backV X.1 (x_runV X (c_D_layOutPairs l fu _ _ hc5) rfl tw_500 tw_52 tw_497 tw_499 tw_14 0 0 rfl rfl rfl ⟨rfl, rfl, by decide, by decide⟩ ⟨by decide, by show _ = some 0; decide⟩ (rest := []) rfl (Nat.le_of_ble_eq_true rfl) d_D_match_9 (by decide) (by decide)) ?_
  refine v_aload_n X.1 d_D_match_12 rfl 0 rfl ?_
  refine v_aload_n X.1 d_D_match_13 rfl 0 rfl ?_
  refine v_get X.1 (ci := 0) ⟨in_D, rfl⟩ 0 rfl 5 (by decide) (X.t tw_217 rfl) rfl d_D_match_14 ?_
  refine v_iload_n X.1 d_D_match_17 rfl 1 rfl ?_
  obtain ⟨r9, g10, hc8, hf⟩ := ob2_some hf
  refine v_backI X.1 (x_runN X (c_S_lookAtAll l fu p1 _ _ _ hc8) rfl tw_516 tw_55 tw_513 tw_515 tw_18 6 4 rfl rfl rfl ⟨rfl, rfl, by decide, by decide⟩ ⟨by decide, by show _ = some 1; decide⟩ (rest := [.ref (ad 0)]) rfl (Nat.le_of_ble_eq_true rfl) d_D_match_18 (by decide) (by decide)) ?_
  obtain ⟨hz13, hf⟩ := oi_none hf
  obtain ⟨g11, eg12, hf⟩ := ob_some hf
  refine v_put X.1 (ci := 0) ⟨in_D, rfl⟩ 0 rfl 9 (by decide) ⟨ty_D_ok, nm_D⟩ (X.t tw_221 rfl) rfl (ty := .boolean) (by decide +kernel) (oz_nar hz13).1 (oz_nar hz13).2 (Nat.le_of_ble_eq_true rfl) ((sw_2 ad ca _ _).trans (congrArg (wX ad ca) (Option.some.inj eg12))) d_D_match_21 ?_
  refine v_aload_n X.1 d_D_match_24 rfl 0 rfl ?_
  refine v_aload_n X.1 d_D_match_25 rfl 0 rfl ?_
  refine v_get X.1 (ci := 0) ⟨in_D, rfl⟩ 0 rfl 5 (by decide) (X.t tw_217 rfl) rfl d_D_match_26 ?_
  refine v_getN X.1 (ci := 4) ⟨in_S, rfl⟩ 6 rfl 12 (by decide) (X.t tw_159 rfl) rfl d_D_match_29 ?_
  obtain ⟨g14, eg15, hf⟩ := ob_some hf
  refine v_put X.1 (ci := 0) ⟨in_D, rfl⟩ 0 rfl 10 (by decide) ⟨ty_D_ok, nm_D⟩ (X.t tw_222 rfl) rfl (ty := .int) (by decide +kernel) rfl rfl (Nat.le_of_ble_eq_true rfl) ((sw_3 ad ca _ _).trans (congrArg (wX ad ca) (Option.some.inj eg15))) d_D_match_32 ?_
  refine v_aload_n X.1 d_D_match_35 rfl 0 rfl ?_
  refine v_get X.1 (ci := 0) ⟨in_D, rfl⟩ 0 rfl 9 (by decide) (X.t tw_221 rfl) rfl d_D_match_36 ?_
  refine v_if_ne X.1 (tgt := 49) d_D_match_39 (by decide) (fun c16 => ?_) (fun c16 => ?_)
  · rw [if_neg c16] at hf
    refine v_aload_n X.1 d_D_match_49 rfl 0 rfl ?_
    refine v_get X.1 (ci := 0) ⟨in_D, rfl⟩ 0 rfl 6 (by decide) (X.t tw_218 rfl) rfl d_D_match_50 ?_
    refine v_aload_n X.1 d_D_match_53 rfl 0 rfl ?_
    refine v_get X.1 (ci := 0) ⟨in_D, rfl⟩ 0 rfl 5 (by decide) (X.t tw_217 rfl) rfl d_D_match_54 ?_
    obtain ⟨g19, hc17, hf⟩ := ob_some hf
    refine v_backV X.1 (x_runN X (c_P_replaceBy l fu _ _ hc17) rfl tw_558 tw_56 tw_555 tw_557 tw_27 7 3 rfl rfl rfl ⟨rfl, rfl, by decide, by decide⟩ ⟨by decide, by show _ = some 1; decide⟩ (rest := []) rfl (Nat.le_of_ble_eq_true rfl) d_D_match_57 (by decide) (by decide)) ?_
    refine v_aload_n X.1 d_D_match_60 rfl 0 rfl ?_
    obtain ⟨r21, g22, hc20, hf⟩ := ob2_some hf
    refine v_backI X.1 (x_runV X (c_D_touchesSaved l fu _ _ _ hc20) rfl tw_289 tw_52 tw_286 tw_288 tw_6 0 0 rfl rfl rfl ⟨rfl, rfl, by decide, by decide⟩ ⟨by decide, by show _ = some 0; decide⟩ (rest := []) rfl (Nat.le_of_ble_eq_true rfl) d_D_match_61 (by decide) (by decide)) ?_
    cases hf
    exact v_iret X.1 X.2.2.1 rfl d_D_match_64 X.2.2.2.1 (by decide) (by decide)
  · rw [if_pos c16] at hf
    refine v_aload_n X.1 d_D_match_42 rfl 0 rfl ?_
    refine v_get X.1 (ci := 0) ⟨in_D, rfl⟩ 0 rfl 5 (by decide) (X.t tw_217 rfl) rfl d_D_match_43 ?_
    obtain ⟨g25, hc23, hf⟩ := ob_some hf
    refine v_backV X.1 (x_runN X (c_S_chooseByRule l fu _ _ hc23) rfl tw_554 tw_55 tw_551 tw_553 tw_26 6 4 rfl rfl rfl ⟨rfl, rfl, by decide, by decide⟩ ⟨by decide, by show _ = some 0; decide⟩ (rest := []) rfl (Nat.le_of_ble_eq_true rfl) d_D_match_46 (by decide) (by decide)) ?_
    refine v_aload_n X.1 d_D_match_49 rfl 0 rfl ?_
    refine v_get X.1 (ci := 0) ⟨in_D, rfl⟩ 0 rfl 6 (by decide) (X.t tw_218 rfl) rfl d_D_match_50 ?_
    refine v_aload_n X.1 d_D_match_53 rfl 0 rfl ?_
    refine v_get X.1 (ci := 0) ⟨in_D, rfl⟩ 0 rfl 5 (by decide) (X.t tw_217 rfl) rfl d_D_match_54 ?_
    obtain ⟨g28, hc26, hf⟩ := ob_some hf
    refine v_backV X.1 (x_runN X (c_P_replaceBy l fu _ _ hc26) rfl tw_558 tw_56 tw_555 tw_557 tw_27 7 3 rfl rfl rfl ⟨rfl, rfl, by decide, by decide⟩ ⟨by decide, by show _ = some 1; decide⟩ (rest := []) rfl (Nat.le_of_ble_eq_true rfl) d_D_match_57 (by decide) (by decide)) ?_
    refine v_aload_n X.1 d_D_match_60 rfl 0 rfl ?_
    obtain ⟨r30, g31, hc29, hf⟩ := ob2_some hf
    refine v_backI X.1 (x_runV X (c_D_touchesSaved l fu _ _ _ hc29) rfl tw_289 tw_52 tw_286 tw_288 tw_6 0 0 rfl rfl rfl ⟨rfl, rfl, by decide, by decide⟩ ⟨by decide, by show _ = some 0; decide⟩ (rest := []) rfl (Nat.le_of_ble_eq_true rfl) d_D_match_61 (by decide) (by decide)) ?_
    cases hf
    exact v_iret X.1 X.2.2.1 rfl d_D_match_64 X.2.2.2.1 (by decide) (by decide)

def f_D_exact (g : xSt) : Option (Int32 × xSt) := (if ¬ ((g 2 0) = 0 ∨ (g 2 0) = 1) then none else some (g 2 0, g))

set_option maxRecDepth 100000 in
set_option maxHeartbeats 4000000 in
theorem c_D_exact (l : Launch) (g : xSt) (r : Int32) (g' : xSt) (hf : f_D_exact g = some (r, g')) : xM l y_D_exact (.code y_D_exact b_D_exact 1 (some .boolean)) ({ frames := 0, cells := 0, slots := 0, locals := 0 } : Room) (fun ad => [.ref (ad 0)]) g (.inl (some (.int r))) g' 0 0 := by
  refine x_contract (by decide) (fun _ => Nat.le_of_ble_eq_true rfl) ?_
  intro p e s m below meth c D ad ca X hno
  unfold f_D_exact at hf
  refine v_aload_n X.1 d_D_exact_0 rfl 0 rfl ?_
  refine v_get X.1 (ci := 0) ⟨in_D, rfl⟩ 0 rfl 9 (by decide) (X.t tw_221 rfl) rfl d_D_exact_1 ?_
  obtain ⟨hz1, hf⟩ := oi_none hf
  cases hf
  exact v_iret X.1 X.2.2.1 (oz_nar hz1).1 d_D_exact_4 X.2.2.2.1 (by decide) (by decide)

def f_D_bound_L4 (fu : Nat) : Nat → Int32 → Int32 → xSt → Option (Int32 × Int32 × xSt)
  | 0, _, _, _ => none
  | n + 1, a1, a2, g => (if (g 1 0) ≤ a2 then some (a1, a2, g) else (ob2 (f_D_arrivalsFor fu a2 g) (fun r3 g4 => (if r3 ≤ 0 then f_D_bound_L4 fu n a1 (a2 + (1 : Int32)) g4 else (if a2 < 0 ∨ 8 ≤ a2.toNatClampNeg then none else f_D_bound_L4 fu n (a1 + ((((2 : Int32)) * (g4 31 a2.toNatClampNeg)) + ((3 : Int32)))) (a2 + (1 : Int32)) g4)))))

def f_D_bound_L44 (fu : Nat) : Nat → Int32 → Int32 → xSt → Option (Int32 × Int32 × xSt)
  | 0, _, _, _ => none
  | n + 1, a1, a2, g => (if (g 0 0) ≤ a2 then some (a1, a2, g) else (ob2 (f_D_ordersFor fu a2 g) (fun r14 g15 => (if r14 ≤ 0 then f_D_bound_L44 fu n a1 (a2 + (1 : Int32)) g15 else f_D_bound_L44 fu n (a1 + (1 : Int32)) (a2 + (1 : Int32)) g15))))

def f_D_bound (fu : Nat) (g : xSt) : Option (Int32 × xSt) := (ob3 (f_D_bound_L4 fu fu ((0 : Int32)) ((0 : Int32)) g) (fun x8 x9 g10 => (ob3 (f_D_bound_L44 fu fu x8 ((0 : Int32)) g10) (fun x17 x18 g19 => some (x17, g19)))))

set_option maxRecDepth 100000 in
set_option maxHeartbeats 4000000 in
theorem l_D_bound_L4 {p : Program} {e : Env} {s : State} {m : MethodId} {below : List Frame} {meth : Method} {c : Code} {D : va_G} {ad : Nat → Nat} {ca : Nat → ClassId} (l : Launch) (fu : Nat) (X : xX p s m ([.ref (ad 0)] : List Value).toArray meth c b_D_bound "CrossDock" 3 (some .int) D ad ca) (hno : c.exceptionTable.toList = []) {Q : State → Prop} : ∀ (n : Nat) (a1 : Int32) (a2 : Int32) (g : xSt) (a1' : Int32) (a2' : Int32) (g' : xSt), f_D_bound_L4 fu n a1 a2 g = some (a1', a2', g') → xV p l e ({ frames := 4, cells := 0, slots := 0, locals := 90 } : Room) s m ([.ref (ad 0)] : List Value).toArray below meth c D xcl (wX ad ca) (xA (wX ad ca) s.heap.size) 3 0 0 Q g' 42 [(2, .int a2'), (1, .int a1'), (0, .ref (ad 0))] [] → xV p l e ({ frames := 4, cells := 0, slots := 0, locals := 90 } : Room) s m ([.ref (ad 0)] : List Value).toArray below meth c D xcl (wX ad ca) (xA (wX ad ca) s.heap.size) 3 0 0 Q g 4 [(2, .int a2), (1, .int a1), (0, .ref (ad 0))] [] := by
  intro n
  induction n with
  | zero =>
    intro a1 a2 g a1' a2' g' hf
    rw [f_D_bound_L4] at hf
    cases hf
  | succ n ih =>
    intro a1 a2 g a1' a2' g' hf hk
    rw [f_D_bound_L4] at hf
    refine v_iload_n X.1 d_D_bound_4 rfl 0 rfl ?_
    refine v_aload_n X.1 d_D_bound_5 rfl 2 rfl ?_
    refine v_get X.1 (ci := 0) ⟨in_D, rfl⟩ 0 rfl 8 (by decide) (X.t tw_220 rfl) rfl d_D_bound_6 ?_
    refine v_icmp_ge X.1 (tgt := 42) d_D_bound_9 (by decide) (fun c1 => ?_) (fun c1 => ?_)
    · rw [if_pos c1] at hf
      cases hf
      refine v_sub [0, 1, 2] rfl ?_
      exact hk
    · rw [if_neg c1] at hf
      refine v_aload_n X.1 d_D_bound_12 rfl 2 rfl ?_
      refine v_iload_n X.1 d_D_bound_13 rfl 0 rfl ?_
      obtain ⟨r3, g4, hc2, hf⟩ := ob2_some hf
      refine v_backI X.1 (x_runV X (c_D_arrivalsFor l fu a2 _ _ _ hc2) rfl tw_257 tw_52 tw_254 tw_256 tw_0 0 0 rfl rfl rfl ⟨rfl, rfl, by decide, by decide⟩ ⟨by decide, by show _ = some 1; decide⟩ (rest := []) rfl (Nat.le_of_ble_eq_true rfl) d_D_bound_14 (by decide) (by decide)) ?_
      refine v_if_le X.1 (tgt := 36) d_D_bound_17 (by decide) (fun c5 => ?_) (fun c5 => ?_)
      · rw [if_pos c5] at hf
        refine v_iinc X.1 (k0 := 0) (v := a2 + (1 : Int32)) (lv' := [(2, .int (a2 + (1 : Int32))), (1, .int a1), (0, .ref (ad 0))]) d_D_bound_36 rfl rfl (by decide) rfl ?_
        refine v_goto X.1 (tgt := 4) d_D_bound_39 (by decide) ?_
        refine v_sub [0, 1, 2] rfl ?_
        exact ih _ _ _ _ _ _ hf hk
      · rw [if_neg c5] at hf
        refine v_iload_n X.1 d_D_bound_20 rfl 1 rfl ?_
        refine v_iconst X.1 (v := (2 : Int32)) d_D_bound_21 (by decide) ?_
        refine v_aload_n X.1 d_D_bound_22 rfl 2 rfl ?_
        refine v_get X.1 (ci := 0) ⟨in_D, rfl⟩ 0 rfl 1 (by decide) (X.t tw_213 rfl) rfl d_D_bound_23 ?_
        refine v_iload_n X.1 d_D_bound_26 rfl 0 rfl ?_
        obtain ⟨hb6, hf⟩ := oi_none hf
        have hp7 : a2.toNatClampNeg < 8 := Nat.not_le.mp (fun q => hb6 (Or.inr q))
        refine v_aald X.1 (b := ad (28 + a2.toNatClampNeg)) 2 3 rfl rfl hb6 rfl d_D_bound_27 ?_
        refine v_getN X.1 (ci := 2) ⟨in_O, rfl⟩ (28 + a2.toNatClampNeg) (wO_at ad ca _ hp7) 1 (by decide) (X.t tw_114 rfl) rfl d_D_bound_28 ?_
        refine v_imul X.1 d_D_bound_31 ?_
        refine v_iconst X.1 (v := (3 : Int32)) d_D_bound_32 (by decide) ?_
        refine v_iadd X.1 d_D_bound_33 ?_
        refine v_iadd X.1 d_D_bound_34 ?_
        refine v_istore_n X.1 (lv' := [(1, .int (a1 + ((((2 : Int32)) * (g4 31 a2.toNatClampNeg)) + ((3 : Int32))))), (2, .int a2), (0, .ref (ad 0))]) d_D_bound_35 rfl (by decide) rfl ?_
        refine v_iinc X.1 (k0 := 1) (v := a2 + (1 : Int32)) (lv' := [(2, .int (a2 + (1 : Int32))), (1, .int (a1 + ((((2 : Int32)) * (g4 31 a2.toNatClampNeg)) + ((3 : Int32))))), (0, .ref (ad 0))]) d_D_bound_36 rfl rfl (by decide) rfl ?_
        refine v_goto X.1 (tgt := 4) d_D_bound_39 (by decide) ?_
        refine v_sub [0, 1, 2] rfl ?_
        exact ih _ _ _ _ _ _ hf hk

set_option maxRecDepth 100000 in
set_option maxHeartbeats 4000000 in
theorem l_D_bound_L44 {p : Program} {e : Env} {s : State} {m : MethodId} {below : List Frame} {meth : Method} {c : Code} {D : va_G} {ad : Nat → Nat} {ca : Nat → ClassId} (l : Launch) (fu : Nat) (X : xX p s m ([.ref (ad 0)] : List Value).toArray meth c b_D_bound "CrossDock" 3 (some .int) D ad ca) (hno : c.exceptionTable.toList = []) {Q : State → Prop} : ∀ (n : Nat) (a1 : Int32) (a2 : Int32) (g : xSt) (a1' : Int32) (a2' : Int32) (g' : xSt), f_D_bound_L44 fu n a1 a2 g = some (a1', a2', g') → xV p l e ({ frames := 4, cells := 0, slots := 0, locals := 90 } : Room) s m ([.ref (ad 0)] : List Value).toArray below meth c D xcl (wX ad ca) (xA (wX ad ca) s.heap.size) 3 0 0 Q g' 69 [(2, .int a2'), (1, .int a1'), (0, .ref (ad 0))] [] → xV p l e ({ frames := 4, cells := 0, slots := 0, locals := 90 } : Room) s m ([.ref (ad 0)] : List Value).toArray below meth c D xcl (wX ad ca) (xA (wX ad ca) s.heap.size) 3 0 0 Q g 44 [(2, .int a2), (1, .int a1), (0, .ref (ad 0))] [] := by
  intro n
  induction n with
  | zero =>
    intro a1 a2 g a1' a2' g' hf
    rw [f_D_bound_L44] at hf
    cases hf
  | succ n ih =>
    intro a1 a2 g a1' a2' g' hf hk
    rw [f_D_bound_L44] at hf
    refine v_iload_n X.1 d_D_bound_44 rfl 0 rfl ?_
    refine v_aload_n X.1 d_D_bound_45 rfl 2 rfl ?_
    refine v_get X.1 (ci := 0) ⟨in_D, rfl⟩ 0 rfl 7 (by decide) (X.t tw_219 rfl) rfl d_D_bound_46 ?_
    refine v_icmp_ge X.1 (tgt := 69) d_D_bound_49 (by decide) (fun c12 => ?_) (fun c12 => ?_)
    · rw [if_pos c12] at hf
      cases hf
      refine v_sub [0, 1, 2] rfl ?_
      exact hk
    · rw [if_neg c12] at hf
      refine v_aload_n X.1 d_D_bound_52 rfl 2 rfl ?_
      refine v_iload_n X.1 d_D_bound_53 rfl 0 rfl ?_
      obtain ⟨r14, g15, hc13, hf⟩ := ob2_some hf
      refine v_backI X.1 (x_runV X (c_D_ordersFor l fu a2 _ _ _ hc13) rfl tw_277 tw_52 tw_274 tw_276 tw_5 0 0 rfl rfl rfl ⟨rfl, rfl, by decide, by decide⟩ ⟨by decide, by show _ = some 1; decide⟩ (rest := []) rfl (Nat.le_of_ble_eq_true rfl) d_D_bound_54 (by decide) (by decide)) ?_
      refine v_if_le X.1 (tgt := 63) d_D_bound_57 (by decide) (fun c16 => ?_) (fun c16 => ?_)
      · rw [if_pos c16] at hf
        refine v_iinc X.1 (k0 := 0) (v := a2 + (1 : Int32)) (lv' := [(2, .int (a2 + (1 : Int32))), (1, .int a1), (0, .ref (ad 0))]) d_D_bound_63 rfl rfl (by decide) rfl ?_
        refine v_goto X.1 (tgt := 44) d_D_bound_66 (by decide) ?_
        refine v_sub [0, 1, 2] rfl ?_
        exact ih _ _ _ _ _ _ hf hk
      · rw [if_neg c16] at hf
        refine v_iinc X.1 (k0 := 1) (v := a1 + (1 : Int32)) (lv' := [(1, .int (a1 + (1 : Int32))), (2, .int a2), (0, .ref (ad 0))]) d_D_bound_60 rfl rfl (by decide) rfl ?_
        refine v_iinc X.1 (k0 := 1) (v := a2 + (1 : Int32)) (lv' := [(2, .int (a2 + (1 : Int32))), (1, .int (a1 + (1 : Int32))), (0, .ref (ad 0))]) d_D_bound_63 rfl rfl (by decide) rfl ?_
        refine v_goto X.1 (tgt := 44) d_D_bound_66 (by decide) ?_
        refine v_sub [0, 1, 2] rfl ?_
        exact ih _ _ _ _ _ _ hf hk

set_option maxRecDepth 100000 in
set_option maxHeartbeats 4000000 in
theorem c_D_bound (l : Launch) (fu : Nat) (g : xSt) (r : Int32) (g' : xSt) (hf : f_D_bound fu g = some (r, g')) : xM l y_D_bound (.code y_D_bound b_D_bound 3 (some .int)) ({ frames := 4, cells := 0, slots := 0, locals := 90 } : Room) (fun ad => [.ref (ad 0)]) g (.inl (some (.int r))) g' 0 0 := by
  refine x_contract (by decide) (fun _ => Nat.le_of_ble_eq_true rfl) ?_
  intro p e s m below meth c D ad ca X hno
  unfold f_D_bound at hf
  refine v_iconst X.1 (v := (0 : Int32)) d_D_bound_0 (by decide) ?_
  refine v_istore_n X.1 (lv' := [(1, .int ((0 : Int32))), (0, .ref (ad 0))]) d_D_bound_1 rfl (by decide) rfl ?_
  refine v_iconst X.1 (v := (0 : Int32)) d_D_bound_2 (by decide) ?_
  refine v_istore_n X.1 (lv' := [(2, .int ((0 : Int32))), (1, .int ((0 : Int32))), (0, .ref (ad 0))]) d_D_bound_3 rfl (by decide) rfl ?_
  obtain ⟨x8, x9, g10, hL11, hf⟩ := ob3_some hf
  refine l_D_bound_L4 l fu X hno fu _ _ _ _ _ _ hL11 ?_
  refine v_iconst X.1 (v := (0 : Int32)) d_D_bound_42 (by decide) ?_
  refine v_istore_n X.1 (lv' := [(2, .int ((0 : Int32))), (1, .int x8), (0, .ref (ad 0))]) d_D_bound_43 rfl (by decide) rfl ?_
  obtain ⟨x17, x18, g19, hL20, hf⟩ := ob3_some hf
  refine l_D_bound_L44 l fu X hno fu _ _ _ _ _ _ hL20 ?_
  refine v_iload_n X.1 d_D_bound_69 rfl 1 rfl ?_
  cases hf
  exact v_iret X.1 X.2.2.1 rfl d_D_bound_70 X.2.2.2.1 (by decide) (by decide)

def f_D_steps (g : xSt) : Option (Int32 × xSt) := some (g 3 0, g)

set_option maxRecDepth 100000 in
set_option maxHeartbeats 4000000 in
theorem c_D_steps (l : Launch) (g : xSt) (r : Int32) (g' : xSt) (hf : f_D_steps g = some (r, g')) : xM l y_D_steps (.code y_D_steps b_D_steps 1 (some .int)) ({ frames := 0, cells := 0, slots := 0, locals := 0 } : Room) (fun ad => [.ref (ad 0)]) g (.inl (some (.int r))) g' 0 0 := by
  refine x_contract (by decide) (fun _ => Nat.le_of_ble_eq_true rfl) ?_
  intro p e s m below meth c D ad ca X hno
  unfold f_D_steps at hf
  refine v_aload_n X.1 d_D_steps_0 rfl 0 rfl ?_
  refine v_get X.1 (ci := 0) ⟨in_D, rfl⟩ 0 rfl 10 (by decide) (X.t tw_222 rfl) rfl d_D_steps_1 ?_
  cases hf
  exact v_iret X.1 X.2.2.1 rfl d_D_steps_4 X.2.2.2.1 (by decide) (by decide)

def f_D_pair (p1 : Int32) (p2 : Int32) (g : xSt) : Option (Nat × Int32 × xSt) := (obT (f_D_checkThere p1 (g 23 0) g) (fun r2 g3 => (obT (f_D_checkRange p2 ((0 : Int32)) ((2 : Int32)) g3) (fun r6 g7 => (if p2 = 0 then (if p1 < 0 ∨ 64 ≤ p1.toNatClampNeg then none else some (0, g7 20 p1.toNatClampNeg, g7)) else (if p2 = ((1 : Int32)) then (if p1 < 0 ∨ 64 ≤ p1.toNatClampNeg then none else some (0, g7 21 p1.toNatClampNeg, g7)) else (if p1 < 0 ∨ 64 ≤ p1.toNatClampNeg then none else some (0, g7 22 p1.toNatClampNeg, g7))))))))

set_option maxRecDepth 100000 in
set_option maxHeartbeats 4000000 in
theorem c_D_pair (l : Launch) (hfl : l.stackTraces = false) (p1 : Int32) (p2 : Int32) (g : xSt) (k : Nat) (r : Int32) (g' : xSt) (hf : f_D_pair p1 p2 g = some (k, r, g')) : xM l y_D_pair (.code y_D_pair b_D_pair 3 (some .int)) ({ frames := 7, cells := 2, slots := 12, locals := 104 } : Room) (fun ad => [.ref (ad 0), .int p1, .int p2]) g (xov k (some (.int r))) g' 2 12 := by
  refine x_contract (by decide) (fun _ => Nat.le_of_ble_eq_true rfl) ?_
  intro p e s m below meth c D ad ca X hno
  unfold f_D_pair at hf
  refine v_iload_n X.1 d_D_pair_0 rfl 1 rfl ?_
  refine v_aload_n X.1 d_D_pair_1 rfl 0 rfl ?_
  refine v_get X.1 (ci := 0) ⟨in_D, rfl⟩ 0 rfl 6 (by decide) (X.t tw_218 rfl) rfl d_D_pair_2 ?_
  refine v_getN X.1 (ci := 3) ⟨in_P, rfl⟩ 7 rfl 3 (by decide) (X.t tw_202 rfl) rfl d_D_pair_5 ?_
  rcases obT_some hf with ⟨r2, g3, hc1, hf⟩ | ⟨k4, r2, g3, hc1, hf⟩
  rotate_left
  · cases hf
    exact v_out X.1 (x_runS X (c_D_checkThere l hfl p1 (g 23 0) _ _ _ _ hc1) tw_427 tw_52 tw_425 tw_426 ⟨rfl, rfl, by decide, by decide⟩ ⟨by decide, by show _ = some 2; decide⟩ (rest := []) rfl (Nat.le_of_ble_eq_true rfl) d_D_pair_8 (by decide) (by decide)) (by rw [hno]; intro x hx; cases hx) X.2.2.2.1 (by decide) (by decide)
  refine v_backV X.1 (x_runS X (c_D_checkThere l hfl p1 (g 23 0) _ _ _ _ hc1) tw_427 tw_52 tw_425 tw_426 ⟨rfl, rfl, by decide, by decide⟩ ⟨by decide, by show _ = some 2; decide⟩ (rest := []) rfl (Nat.le_of_ble_eq_true rfl) d_D_pair_8 (by decide) (by decide)) ?_
  refine v_iload_n X.1 d_D_pair_11 rfl 2 rfl ?_
  refine v_iconst X.1 (v := (0 : Int32)) d_D_pair_12 (by decide) ?_
  refine v_iconst X.1 (v := (2 : Int32)) d_D_pair_13 (by decide) ?_
  rcases obT_some hf with ⟨r6, g7, hc5, hf⟩ | ⟨k8, r6, g7, hc5, hf⟩
  rotate_left
  · cases hf
    exact v_out X.1 (x_runS X (c_D_checkRange l hfl p2 ((0 : Int32)) ((2 : Int32)) _ _ _ _ hc5) tw_321 tw_52 tw_319 tw_320 ⟨rfl, rfl, by decide, by decide⟩ ⟨by decide, by show _ = some 3; decide⟩ (rest := []) rfl (Nat.le_of_ble_eq_true rfl) d_D_pair_14 (by decide) (by decide)) (by rw [hno]; intro x hx; cases hx) X.2.2.2.1 (by decide) (by decide)
  refine v_backV X.1 (x_runS X (c_D_checkRange l hfl p2 ((0 : Int32)) ((2 : Int32)) _ _ _ _ hc5) tw_321 tw_52 tw_319 tw_320 ⟨rfl, rfl, by decide, by decide⟩ ⟨by decide, by show _ = some 3; decide⟩ (rest := []) rfl (Nat.le_of_ble_eq_true rfl) d_D_pair_14 (by decide) (by decide)) ?_
  refine v_iload_n X.1 d_D_pair_17 rfl 2 rfl ?_
  refine v_if_ne X.1 (tgt := 31) d_D_pair_18 (by decide) (fun c9 => ?_) (fun c9 => ?_)
  · rw [if_neg c9] at hf
    refine v_iload_n X.1 d_D_pair_31 rfl 2 rfl ?_
    refine v_iconst X.1 (v := (1 : Int32)) d_D_pair_32 (by decide) ?_
    refine v_icmp_ne X.1 (tgt := 48) d_D_pair_33 (by decide) (fun c10 => ?_) (fun c10 => ?_)
    · rw [if_neg c10] at hf
      refine v_aload_n X.1 d_D_pair_48 rfl 0 rfl ?_
      refine v_get X.1 (ci := 0) ⟨in_D, rfl⟩ 0 rfl 6 (by decide) (X.t tw_218 rfl) rfl d_D_pair_49 ?_
      refine v_getN X.1 (ci := 3) ⟨in_P, rfl⟩ 7 rfl 2 (by decide) (X.t tw_200 rfl) rfl d_D_pair_52 ?_
      refine v_iload_n X.1 d_D_pair_55 rfl 1 rfl ?_
      obtain ⟨hb11, hf⟩ := oi_none hf
      refine v_iald X.1 19 0 rfl rfl hb11 d_D_pair_56 ?_
      cases hf
      exact v_iret X.1 X.2.2.1 rfl d_D_pair_57 X.2.2.2.1 (by decide) (by decide)
    · rw [if_pos c10] at hf
      refine v_aload_n X.1 d_D_pair_36 rfl 0 rfl ?_
      refine v_get X.1 (ci := 0) ⟨in_D, rfl⟩ 0 rfl 6 (by decide) (X.t tw_218 rfl) rfl d_D_pair_37 ?_
      refine v_getN X.1 (ci := 3) ⟨in_P, rfl⟩ 7 rfl 1 (by decide) (X.t tw_198 rfl) rfl d_D_pair_40 ?_
      refine v_iload_n X.1 d_D_pair_43 rfl 1 rfl ?_
      obtain ⟨hb12, hf⟩ := oi_none hf
      refine v_iald X.1 18 0 rfl rfl hb12 d_D_pair_44 ?_
      refine v_goto X.1 (tgt := 57) d_D_pair_45 (by decide) ?_
      cases hf
      exact v_iret X.1 X.2.2.1 rfl d_D_pair_57 X.2.2.2.1 (by decide) (by decide)
  · rw [if_pos c9] at hf
    refine v_aload_n X.1 d_D_pair_21 rfl 0 rfl ?_
    refine v_get X.1 (ci := 0) ⟨in_D, rfl⟩ 0 rfl 6 (by decide) (X.t tw_218 rfl) rfl d_D_pair_22 ?_
    refine v_getN X.1 (ci := 3) ⟨in_P, rfl⟩ 7 rfl 0 (by decide) (X.t tw_196 rfl) rfl d_D_pair_25 ?_
    refine v_iload_n X.1 d_D_pair_28 rfl 1 rfl ?_
    obtain ⟨hb13, hf⟩ := oi_none hf
    refine v_iald X.1 17 0 rfl rfl hb13 d_D_pair_29 ?_
    cases hf
    exact v_iret X.1 X.2.2.1 rfl d_D_pair_30 X.2.2.2.1 (by decide) (by decide)

def f_D_undo (fu : Nat) (p1 : Int32) (g : xSt) : Option (Nat × Int32 × xSt) := (obT (f_D_checkThere p1 (g 23 0) g) (fun r2 g3 => (if p1 < 0 ∨ 64 ≤ p1.toNatClampNeg then none else (Option.bind (f_P_removeAt fu p1 g3) (fun g8 => some (0, g3 22 p1.toNatClampNeg, g8))))))

set_option maxRecDepth 100000 in
set_option maxHeartbeats 4000000 in
theorem c_D_undo (l : Launch) (hfl : l.stackTraces = false) (fu : Nat) (p1 : Int32) (g : xSt) (k : Nat) (r : Int32) (g' : xSt) (hf : f_D_undo fu p1 g = some (k, r, g')) : xM l y_D_undo (.code y_D_undo b_D_undo 3 (some .int)) ({ frames := 7, cells := 1, slots := 6, locals := 103 } : Room) (fun ad => [.ref (ad 0), .int p1]) g (xov k (some (.int r))) g' 1 6 := by
  refine x_contract (by decide) (fun _ => Nat.le_of_ble_eq_true rfl) ?_
  intro p e s m below meth c D ad ca X hno
  unfold f_D_undo at hf
  refine v_iload_n X.1 d_D_undo_0 rfl 1 rfl ?_
  refine v_aload_n X.1 d_D_undo_1 rfl 0 rfl ?_
  refine v_get X.1 (ci := 0) ⟨in_D, rfl⟩ 0 rfl 6 (by decide) (X.t tw_218 rfl) rfl d_D_undo_2 ?_
  refine v_getN X.1 (ci := 3) ⟨in_P, rfl⟩ 7 rfl 3 (by decide) (X.t tw_202 rfl) rfl d_D_undo_5 ?_
  rcases obT_some hf with ⟨r2, g3, hc1, hf⟩ | ⟨k4, r2, g3, hc1, hf⟩
  rotate_left
  · cases hf
    exact v_out X.1 (x_runS X (c_D_checkThere l hfl p1 (g 23 0) _ _ _ _ hc1) tw_427 tw_52 tw_425 tw_426 ⟨rfl, rfl, by decide, by decide⟩ ⟨by decide, by show _ = some 2; decide⟩ (rest := []) rfl (Nat.le_of_ble_eq_true rfl) d_D_undo_8 (by decide) (by decide)) (by rw [hno]; intro x hx; cases hx) X.2.2.2.1 (by decide) (by decide)
  refine v_backV X.1 (x_runS X (c_D_checkThere l hfl p1 (g 23 0) _ _ _ _ hc1) tw_427 tw_52 tw_425 tw_426 ⟨rfl, rfl, by decide, by decide⟩ ⟨by decide, by show _ = some 2; decide⟩ (rest := []) rfl (Nat.le_of_ble_eq_true rfl) d_D_undo_8 (by decide) (by decide)) ?_
  refine v_aload_n X.1 d_D_undo_11 rfl 0 rfl ?_
  refine v_get X.1 (ci := 0) ⟨in_D, rfl⟩ 0 rfl 6 (by decide) (X.t tw_218 rfl) rfl d_D_undo_12 ?_
  refine v_getN X.1 (ci := 3) ⟨in_P, rfl⟩ 7 rfl 2 (by decide) (X.t tw_200 rfl) rfl d_D_undo_15 ?_
  refine v_iload_n X.1 d_D_undo_18 rfl 1 rfl ?_
  obtain ⟨hb5, hf⟩ := oi_none hf
  refine v_iald X.1 19 0 rfl rfl hb5 d_D_undo_19 ?_
  refine v_istore_n X.1 (lv' := [(2, .int (g3 22 p1.toNatClampNeg)), (0, .ref (ad 0)), (1, .int p1)]) d_D_undo_20 rfl (by decide) rfl ?_
  refine v_aload_n X.1 d_D_undo_21 rfl 1 rfl ?_
  refine v_get X.1 (ci := 0) ⟨in_D, rfl⟩ 0 rfl 6 (by decide) (X.t tw_218 rfl) rfl d_D_undo_22 ?_
  refine v_iload_n X.1 d_D_undo_25 rfl 2 rfl ?_
  obtain ⟨g8, hc6, hf⟩ := ob_some hf
  refine v_backV X.1 (x_runN X (c_P_removeAt l fu p1 _ _ hc6) rfl tw_576 tw_56 tw_573 tw_575 tw_28 7 3 rfl rfl rfl ⟨rfl, rfl, by decide, by decide⟩ ⟨by decide, by show _ = some 1; decide⟩ (rest := []) rfl (Nat.le_of_ble_eq_true rfl) d_D_undo_26 (by decide) (by decide)) ?_
  refine v_iload_n X.1 d_D_undo_29 rfl 0 rfl ?_
  cases hf
  exact v_iret X.1 X.2.2.1 rfl d_D_undo_30 X.2.2.2.1 (by decide) (by decide)

def f_D_split (fu : Nat) (p1 : Int32) (p2 : Int32) (g : xSt) : Option (Nat × Int32 × xSt) := (obT (f_D_checkThere p1 (g 0 0) g) (fun r2 g3 => (if p1 < 0 ∨ 8 ≤ p1.toNatClampNeg then none else (obT (f_D_checkRange p2 ((1 : Int32)) ((g3 27 p1.toNatClampNeg) - ((1 : Int32))) g3) (fun r8 g9 => (ob2 (f_P_palletsOf fu p1 g9) (fun r12 g13 => (if r12 ≤ 0 then (obT (f_D_checkRoom (g13 0 0) ((8 : Int32)) g13) (fun r16 g17 => (if (g17 0 0) < 0 ∨ 8 ≤ (g17 0 0).toNatClampNeg then none else (Option.bind (f_A_moveTo p1.toNatClampNeg ((g17 0 0).toNatClampNeg) p2 g17) (fun g23 => (Option.bind (some (xw g23 0 0 ((g23 0 0) + ((1 : Int32))))) (fun g24 => some (0, (g24 0 0) - ((1 : Int32)), g24)))))))) else some (4, 0, g13)))))))))

set_option maxRecDepth 100000 in
set_option maxHeartbeats 4000000 in
theorem c_D_split (l : Launch) (hfl : l.stackTraces = false) (fu : Nat) (p1 : Int32) (p2 : Int32) (g : xSt) (k : Nat) (r : Int32) (g' : xSt) (hf : f_D_split fu p1 p2 g = some (k, r, g')) : xM l y_D_split (.code y_D_split b_D_split 4 (some .int)) ({ frames := 7, cells := 3, slots := 18, locals := 104 } : Room) (fun ad => [.ref (ad 0), .int p1, .int p2]) g (xov k (some (.int r))) g' 3 18 := by
  refine x_contract (by decide) (fun _ => Nat.le_of_ble_eq_true rfl) ?_
  intro p e s m below meth c D ad ca X hno
  unfold f_D_split at hf
  refine v_iload_n X.1 d_D_split_0 rfl 1 rfl ?_
  refine v_aload_n X.1 d_D_split_1 rfl 0 rfl ?_
  refine v_get X.1 (ci := 0) ⟨in_D, rfl⟩ 0 rfl 7 (by decide) (X.t tw_219 rfl) rfl d_D_split_2 ?_
  rcases obT_some hf with ⟨r2, g3, hc1, hf⟩ | ⟨k4, r2, g3, hc1, hf⟩
  rotate_left
  · cases hf
    exact v_out X.1 (x_runS X (c_D_checkThere l hfl p1 (g 0 0) _ _ _ _ hc1) tw_427 tw_52 tw_425 tw_426 ⟨rfl, rfl, by decide, by decide⟩ ⟨by decide, by show _ = some 2; decide⟩ (rest := []) rfl (Nat.le_of_ble_eq_true rfl) d_D_split_5 (by decide) (by decide)) (by rw [hno]; intro x hx; cases hx) X.2.2.2.1 (by decide) (by decide)
  refine v_backV X.1 (x_runS X (c_D_checkThere l hfl p1 (g 0 0) _ _ _ _ hc1) tw_427 tw_52 tw_425 tw_426 ⟨rfl, rfl, by decide, by decide⟩ ⟨by decide, by show _ = some 2; decide⟩ (rest := []) rfl (Nat.le_of_ble_eq_true rfl) d_D_split_5 (by decide) (by decide)) ?_
  refine v_aload_n X.1 d_D_split_8 rfl 0 rfl ?_
  refine v_get X.1 (ci := 0) ⟨in_D, rfl⟩ 0 rfl 0 (by decide) (X.t tw_212 rfl) rfl d_D_split_9 ?_
  refine v_iload_n X.1 d_D_split_12 rfl 1 rfl ?_
  obtain ⟨hb5, hf⟩ := oi_none hf
  have hp6 : p1.toNatClampNeg < 8 := Nat.not_le.mp (fun q => hb5 (Or.inr q))
  refine v_aald X.1 (b := ad (20 + p1.toNatClampNeg)) 1 2 rfl rfl hb5 rfl d_D_split_13 ?_
  refine v_astore_n X.1 (lv' := [(3, .ref (ad (20 + p1.toNatClampNeg))), (0, .ref (ad 0)), (1, .int p1), (2, .int p2)]) d_D_split_14 rfl (by decide) rfl ?_
  refine v_iload_n X.1 d_D_split_15 rfl 3 rfl ?_
  refine v_iconst X.1 (v := (1 : Int32)) d_D_split_16 (by decide) ?_
  refine v_aload_n X.1 d_D_split_17 rfl 0 rfl ?_
  refine v_getN X.1 (ci := 1) ⟨in_A, rfl⟩ (20 + p1.toNatClampNeg) (wA_at ad ca _ hp6) 3 (by decide) (X.t tw_89 rfl) rfl d_D_split_18 ?_
  refine v_iconst X.1 (v := (1 : Int32)) d_D_split_21 (by decide) ?_
  refine v_isub X.1 d_D_split_22 ?_
  rcases obT_some hf with ⟨r8, g9, hc7, hf⟩ | ⟨k10, r8, g9, hc7, hf⟩
  rotate_left
  · cases hf
    exact v_out X.1 (x_runS X (c_D_checkRange l hfl p2 ((1 : Int32)) ((g3 27 p1.toNatClampNeg) - ((1 : Int32))) _ _ _ _ hc7) tw_321 tw_52 tw_319 tw_320 ⟨rfl, rfl, by decide, by decide⟩ ⟨by decide, by show _ = some 3; decide⟩ (rest := []) rfl (Nat.le_of_ble_eq_true rfl) d_D_split_23 (by decide) (by decide)) (by rw [hno]; intro x hx; cases hx) X.2.2.2.1 (by decide) (by decide)
  refine v_backV X.1 (x_runS X (c_D_checkRange l hfl p2 ((1 : Int32)) ((g3 27 p1.toNatClampNeg) - ((1 : Int32))) _ _ _ _ hc7) tw_321 tw_52 tw_319 tw_320 ⟨rfl, rfl, by decide, by decide⟩ ⟨by decide, by show _ = some 3; decide⟩ (rest := []) rfl (Nat.le_of_ble_eq_true rfl) d_D_split_23 (by decide) (by decide)) ?_
  refine v_aload_n X.1 d_D_split_26 rfl 1 rfl ?_
  refine v_get X.1 (ci := 0) ⟨in_D, rfl⟩ 0 rfl 6 (by decide) (X.t tw_218 rfl) rfl d_D_split_27 ?_
  refine v_iload_n X.1 d_D_split_30 rfl 2 rfl ?_
  obtain ⟨r12, g13, hc11, hf⟩ := ob2_some hf
  refine v_backI X.1 (x_runN X (c_P_palletsOf l fu p1 _ _ _ hc11) rfl tw_455 tw_56 tw_452 tw_454 tw_12 7 3 rfl rfl rfl ⟨rfl, rfl, by decide, by decide⟩ ⟨by decide, by show _ = some 1; decide⟩ (rest := []) rfl (Nat.le_of_ble_eq_true rfl) d_D_split_31 (by decide) (by decide)) ?_
  refine v_if_le X.1 (tgt := 47) d_D_split_34 (by decide) (fun c14 => ?_) (fun c14 => ?_)
  · rw [if_pos c14] at hf
    refine v_aload_n X.1 d_D_split_47 rfl 1 rfl ?_
    refine v_get X.1 (ci := 0) ⟨in_D, rfl⟩ 0 rfl 7 (by decide) (X.t tw_219 rfl) rfl d_D_split_48 ?_
    refine v_bipush X.1 (v := (8 : Int32)) d_D_split_51 (by decide) ?_
    rcases obT_some hf with ⟨r16, g17, hc15, hf⟩ | ⟨k18, r16, g17, hc15, hf⟩
    rotate_left
    · cases hf
      exact v_out X.1 (x_runS X (c_D_checkRoom l hfl (g13 0 0) ((8 : Int32)) _ _ _ _ hc15) tw_393 tw_52 tw_391 tw_392 ⟨rfl, rfl, by decide, by decide⟩ ⟨by decide, by show _ = some 2; decide⟩ (rest := []) rfl (Nat.le_of_ble_eq_true rfl) d_D_split_53 (by decide) (by decide)) (by rw [hno]; intro x hx; cases hx) X.2.2.2.1 (by decide) (by decide)
    refine v_backV X.1 (x_runS X (c_D_checkRoom l hfl (g13 0 0) ((8 : Int32)) _ _ _ _ hc15) tw_393 tw_52 tw_391 tw_392 ⟨rfl, rfl, by decide, by decide⟩ ⟨by decide, by show _ = some 2; decide⟩ (rest := []) rfl (Nat.le_of_ble_eq_true rfl) d_D_split_53 (by decide) (by decide)) ?_
    refine v_aload_n X.1 d_D_split_56 rfl 0 rfl ?_
    refine v_aload_n X.1 d_D_split_57 rfl 1 rfl ?_
    refine v_get X.1 (ci := 0) ⟨in_D, rfl⟩ 0 rfl 0 (by decide) (X.t tw_212 rfl) rfl d_D_split_58 ?_
    refine v_aload_n X.1 d_D_split_61 rfl 1 rfl ?_
    refine v_get X.1 (ci := 0) ⟨in_D, rfl⟩ 0 rfl 7 (by decide) (X.t tw_219 rfl) rfl d_D_split_62 ?_
    obtain ⟨hb19, hf⟩ := oi_none hf
    have hp20 : (g17 0 0).toNatClampNeg < 8 := Nat.not_le.mp (fun q => hb19 (Or.inr q))
    refine v_aald X.1 (b := ad (20 + (g17 0 0).toNatClampNeg)) 1 2 rfl rfl hb19 rfl d_D_split_65 ?_
    refine v_iload_n X.1 d_D_split_66 rfl 3 rfl ?_
    obtain ⟨g23, hc21, hf⟩ := ob_some hf
    refine v_backV X.1 (x_runN X (c_A_moveTo l p1.toNatClampNeg ((g17 0 0).toNatClampNeg) p2 hp6 hp20 _ _ hc21) rfl tw_588 tw_53 tw_585 tw_587 tw_29 (20 + p1.toNatClampNeg) 1 (wA_at ad ca _ hp6) rfl rfl ⟨rfl, rfl, by decide, by decide⟩ ⟨by decide, by show _ = some 2; decide⟩ (rest := []) rfl (Nat.le_of_ble_eq_true rfl) d_D_split_67 (by decide) (by decide)) ?_
    refine v_aload_n X.1 d_D_split_70 rfl 1 rfl ?_
    refine v_dup X.1 d_D_split_71 rfl ?_
    refine v_get X.1 (ci := 0) ⟨in_D, rfl⟩ 0 rfl 7 (by decide) (X.t tw_219 rfl) rfl d_D_split_72 ?_
    refine v_iconst X.1 (v := (1 : Int32)) d_D_split_75 (by decide) ?_
    refine v_iadd X.1 d_D_split_76 ?_
    obtain ⟨g24, eg25, hf⟩ := ob_some hf
    refine v_put X.1 (ci := 0) ⟨in_D, rfl⟩ 0 rfl 7 (by decide) ⟨ty_D_ok, nm_D⟩ (X.t tw_219 rfl) rfl (ty := .int) (by decide +kernel) rfl rfl (Nat.le_of_ble_eq_true rfl) ((sw_0 ad ca _ _).trans (congrArg (wX ad ca) (Option.some.inj eg25))) d_D_split_77 ?_
    refine v_aload_n X.1 d_D_split_80 rfl 1 rfl ?_
    refine v_get X.1 (ci := 0) ⟨in_D, rfl⟩ 0 rfl 7 (by decide) (X.t tw_219 rfl) rfl d_D_split_81 ?_
    refine v_iconst X.1 (v := (1 : Int32)) d_D_split_84 (by decide) ?_
    refine v_isub X.1 d_D_split_85 ?_
    cases hf
    exact v_iret X.1 X.2.2.1 rfl d_D_split_86 X.2.2.2.1 (by decide) (by decide)
  · rw [if_neg c14] at hf
    cases hf
    exact v_throw X hfl hno (cls := "java/lang/IllegalStateException") (text := "the arrival is in a pair") (i1 := 7) rfl tw_456 tw_457 tw_64 tw_466 (by decide) (by decide +kernel) thb_IllegalStateException thw_IllegalStateException d_D_split_37 d_D_split_40 d_D_split_41 d_D_split_43 d_D_split_46 ⟨by decide, by decide, by decide, by decide⟩ (by decide) (by decide)

def f_D_late_L39 (fu : Nat) (p1 : Int32) (p2 : Int32) : Nat → Int32 → Int32 → xSt → Option (Int32 × Int32 × xSt)
  | 0, _, _, _ => none
  | n + 1, a3, a4, g => (if a4 < 0 then some (a3, a4, g) else (if a4 < 0 ∨ 64 ≤ a4.toNatClampNeg then none else (if (g 20 a4.toNatClampNeg) = p1 then (if a4 < 0 ∨ 64 ≤ a4.toNatClampNeg then none else (ob2 (f_D_isUnfit p1 (g 21 a4.toNatClampNeg) g) (fun r18 g19 => (if r18 = 0 then f_D_late_L39 fu p1 p2 n a3 (a4 + (-1 : Int32)) g19 else (Option.bind (f_P_removeAt fu a4 g19) (fun g23 => f_D_late_L39 fu p1 p2 n (a3 + (1 : Int32)) (a4 + (-1 : Int32)) g23)))))) else f_D_late_L39 fu p1 p2 n a3 (a4 + (-1 : Int32)) g)))

def f_D_late (fu : Nat) (p1 : Int32) (p2 : Int32) (g : xSt) : Option (Nat × Int32 × xSt) := (obT (f_D_checkThere p1 (g 0 0) g) (fun r2 g3 => (obT (f_D_checkRange p2 ((0 : Int32)) ((1000 : Int32)) g3) (fun r6 g7 => (if p1 < 0 ∨ 8 ≤ p1.toNatClampNeg then none else (Option.bind (some (xw g7 26 p1.toNatClampNeg p2)) (fun g11 => (ob3 (f_D_late_L39 fu p1 p2 fu ((0 : Int32)) ((g11 23 0) - ((1 : Int32))) g11) (fun x24 x25 g26 => some (0, x24, g26))))))))))

set_option maxRecDepth 100000 in
set_option maxHeartbeats 4000000 in
theorem l_D_late_L39 {p : Program} {e : Env} {s : State} {m : MethodId} {below : List Frame} {meth : Method} {c : Code} {D : va_G} {ad : Nat → Nat} {ca : Nat → ClassId} (l : Launch) (hfl : l.stackTraces = false) (fu : Nat) (p1 : Int32) (p2 : Int32) (X : xX p s m ([.ref (ad 0), .int p1, .int p2] : List Value).toArray meth c b_D_late "CrossDock" 5 (some .int) D ad ca) (hno : c.exceptionTable.toList = []) {Q : State → Prop} : ∀ (n : Nat) (a3 : Int32) (a4 : Int32) (g : xSt) (a3' : Int32) (a4' : Int32) (g' : xSt), f_D_late_L39 fu p1 p2 n a3 a4 g = some (a3', a4', g') → xV p l e ({ frames := 7, cells := 2, slots := 12, locals := 104 } : Room) s m ([.ref (ad 0), .int p1, .int p2] : List Value).toArray below meth c D xcl (wX ad ca) (xA (wX ad ca) s.heap.size) 5 2 12 Q g' 94 [(4, .int a4'), (3, .int a3'), (0, .ref (ad 0)), (1, .int p1), (2, .int p2)] [] → xV p l e ({ frames := 7, cells := 2, slots := 12, locals := 104 } : Room) s m ([.ref (ad 0), .int p1, .int p2] : List Value).toArray below meth c D xcl (wX ad ca) (xA (wX ad ca) s.heap.size) 5 2 12 Q g 39 [(4, .int a4), (3, .int a3), (0, .ref (ad 0)), (1, .int p1), (2, .int p2)] [] := by
  intro n
  induction n with
  | zero =>
    intro a3 a4 g a3' a4' g' hf
    rw [f_D_late_L39] at hf
    cases hf
  | succ n ih =>
    intro a3 a4 g a3' a4' g' hf hk
    rw [f_D_late_L39] at hf
    refine v_iload X.1 d_D_late_39 0 rfl ?_
    refine v_if_lt X.1 (tgt := 94) d_D_late_41 (by decide) (fun c13 => ?_) (fun c13 => ?_)
    · rw [if_pos c13] at hf
      cases hf
      refine v_sub [0, 1, 2, 3, 4] rfl ?_
      exact hk
    · rw [if_neg c13] at hf
      refine v_aload_n X.1 d_D_late_44 rfl 2 rfl ?_
      refine v_get X.1 (ci := 0) ⟨in_D, rfl⟩ 0 rfl 6 (by decide) (X.t tw_218 rfl) rfl d_D_late_45 ?_
      refine v_getN X.1 (ci := 3) ⟨in_P, rfl⟩ 7 rfl 0 (by decide) (X.t tw_196 rfl) rfl d_D_late_48 ?_
      refine v_iload X.1 d_D_late_51 0 rfl ?_
      obtain ⟨hb14, hf⟩ := oi_none hf
      refine v_iald X.1 17 0 rfl rfl hb14 d_D_late_53 ?_
      refine v_iload_n X.1 d_D_late_54 rfl 3 rfl ?_
      refine v_icmp_ne X.1 (tgt := 88) d_D_late_55 (by decide) (fun c15 => ?_) (fun c15 => ?_)
      · rw [if_neg c15] at hf
        refine v_iinc X.1 (k0 := 0) (v := a4 + (-1 : Int32)) (lv' := [(4, .int (a4 + (-1 : Int32))), (3, .int a3), (0, .ref (ad 0)), (1, .int p1), (2, .int p2)]) d_D_late_88 rfl rfl (by decide) rfl ?_
        refine v_goto X.1 (tgt := 39) d_D_late_91 (by decide) ?_
        refine v_sub [0, 1, 2, 3, 4] rfl ?_
        exact ih _ _ _ _ _ _ hf hk
      · rw [if_pos c15] at hf
        refine v_aload_n X.1 d_D_late_58 rfl 2 rfl ?_
        refine v_iload_n X.1 d_D_late_59 rfl 3 rfl ?_
        refine v_aload_n X.1 d_D_late_60 rfl 2 rfl ?_
        refine v_get X.1 (ci := 0) ⟨in_D, rfl⟩ 0 rfl 6 (by decide) (X.t tw_218 rfl) rfl d_D_late_61 ?_
        refine v_getN X.1 (ci := 3) ⟨in_P, rfl⟩ 7 rfl 1 (by decide) (X.t tw_198 rfl) rfl d_D_late_64 ?_
        refine v_iload X.1 d_D_late_67 0 rfl ?_
        obtain ⟨hb16, hf⟩ := oi_none hf
        refine v_iald X.1 18 0 rfl rfl hb16 d_D_late_69 ?_
        obtain ⟨r18, g19, hc17, hf⟩ := ob2_some hf
        refine v_backI X.1 (x_runV X (c_D_isUnfit l p1 (g 21 a4.toNatClampNeg) _ _ _ hc17) rfl tw_600 tw_52 tw_597 tw_599 tw_30 0 0 rfl rfl rfl ⟨rfl, rfl, by decide, by decide⟩ ⟨by decide, by show _ = some 2; decide⟩ (rest := []) rfl (Nat.le_of_ble_eq_true rfl) d_D_late_70 (by decide) (by decide)) ?_
        refine v_if_eq X.1 (tgt := 88) d_D_late_73 (by decide) (fun c20 => ?_) (fun c20 => ?_)
        · rw [if_pos c20] at hf
          refine v_iinc X.1 (k0 := 0) (v := a4 + (-1 : Int32)) (lv' := [(4, .int (a4 + (-1 : Int32))), (3, .int a3), (0, .ref (ad 0)), (1, .int p1), (2, .int p2)]) d_D_late_88 rfl rfl (by decide) rfl ?_
          refine v_goto X.1 (tgt := 39) d_D_late_91 (by decide) ?_
          refine v_sub [0, 1, 2, 3, 4] rfl ?_
          exact ih _ _ _ _ _ _ hf hk
        · rw [if_neg c20] at hf
          refine v_aload_n X.1 d_D_late_76 rfl 2 rfl ?_
          refine v_get X.1 (ci := 0) ⟨in_D, rfl⟩ 0 rfl 6 (by decide) (X.t tw_218 rfl) rfl d_D_late_77 ?_
          refine v_iload X.1 d_D_late_80 0 rfl ?_
          obtain ⟨g23, hc21, hf⟩ := ob_some hf
          refine v_backV X.1 (x_runN X (c_P_removeAt l fu a4 _ _ hc21) rfl tw_576 tw_56 tw_573 tw_575 tw_28 7 3 rfl rfl rfl ⟨rfl, rfl, by decide, by decide⟩ ⟨by decide, by show _ = some 1; decide⟩ (rest := []) rfl (Nat.le_of_ble_eq_true rfl) d_D_late_82 (by decide) (by decide)) ?_
          refine v_iinc X.1 (k0 := 1) (v := a3 + (1 : Int32)) (lv' := [(3, .int (a3 + (1 : Int32))), (4, .int a4), (0, .ref (ad 0)), (1, .int p1), (2, .int p2)]) d_D_late_85 rfl rfl (by decide) rfl ?_
          refine v_iinc X.1 (k0 := 1) (v := a4 + (-1 : Int32)) (lv' := [(4, .int (a4 + (-1 : Int32))), (3, .int (a3 + (1 : Int32))), (0, .ref (ad 0)), (1, .int p1), (2, .int p2)]) d_D_late_88 rfl rfl (by decide) rfl ?_
          refine v_goto X.1 (tgt := 39) d_D_late_91 (by decide) ?_
          refine v_sub [0, 1, 2, 3, 4] rfl ?_
          exact ih _ _ _ _ _ _ hf hk

set_option maxRecDepth 100000 in
set_option maxHeartbeats 4000000 in
theorem c_D_late (l : Launch) (hfl : l.stackTraces = false) (fu : Nat) (p1 : Int32) (p2 : Int32) (g : xSt) (k : Nat) (r : Int32) (g' : xSt) (hf : f_D_late fu p1 p2 g = some (k, r, g')) : xM l y_D_late (.code y_D_late b_D_late 5 (some .int)) ({ frames := 7, cells := 2, slots := 12, locals := 104 } : Room) (fun ad => [.ref (ad 0), .int p1, .int p2]) g (xov k (some (.int r))) g' 2 12 := by
  refine x_contract (by decide) (fun _ => Nat.le_of_ble_eq_true rfl) ?_
  intro p e s m below meth c D ad ca X hno
  unfold f_D_late at hf
  refine v_iload_n X.1 d_D_late_0 rfl 1 rfl ?_
  refine v_aload_n X.1 d_D_late_1 rfl 0 rfl ?_
  refine v_get X.1 (ci := 0) ⟨in_D, rfl⟩ 0 rfl 7 (by decide) (X.t tw_219 rfl) rfl d_D_late_2 ?_
  rcases obT_some hf with ⟨r2, g3, hc1, hf⟩ | ⟨k4, r2, g3, hc1, hf⟩
  rotate_left
  · cases hf
    exact v_out X.1 (x_runS X (c_D_checkThere l hfl p1 (g 0 0) _ _ _ _ hc1) tw_427 tw_52 tw_425 tw_426 ⟨rfl, rfl, by decide, by decide⟩ ⟨by decide, by show _ = some 2; decide⟩ (rest := []) rfl (Nat.le_of_ble_eq_true rfl) d_D_late_5 (by decide) (by decide)) (by rw [hno]; intro x hx; cases hx) X.2.2.2.1 (by decide) (by decide)
  refine v_backV X.1 (x_runS X (c_D_checkThere l hfl p1 (g 0 0) _ _ _ _ hc1) tw_427 tw_52 tw_425 tw_426 ⟨rfl, rfl, by decide, by decide⟩ ⟨by decide, by show _ = some 2; decide⟩ (rest := []) rfl (Nat.le_of_ble_eq_true rfl) d_D_late_5 (by decide) (by decide)) ?_
  refine v_iload_n X.1 d_D_late_8 rfl 2 rfl ?_
  refine v_iconst X.1 (v := (0 : Int32)) d_D_late_9 (by decide) ?_
  refine v_sipush X.1 (v := (1000 : Int32)) d_D_late_10 (by decide) ?_
  rcases obT_some hf with ⟨r6, g7, hc5, hf⟩ | ⟨k8, r6, g7, hc5, hf⟩
  rotate_left
  · cases hf
    exact v_out X.1 (x_runS X (c_D_checkRange l hfl p2 ((0 : Int32)) ((1000 : Int32)) _ _ _ _ hc5) tw_321 tw_52 tw_319 tw_320 ⟨rfl, rfl, by decide, by decide⟩ ⟨by decide, by show _ = some 3; decide⟩ (rest := []) rfl (Nat.le_of_ble_eq_true rfl) d_D_late_13 (by decide) (by decide)) (by rw [hno]; intro x hx; cases hx) X.2.2.2.1 (by decide) (by decide)
  refine v_backV X.1 (x_runS X (c_D_checkRange l hfl p2 ((0 : Int32)) ((1000 : Int32)) _ _ _ _ hc5) tw_321 tw_52 tw_319 tw_320 ⟨rfl, rfl, by decide, by decide⟩ ⟨by decide, by show _ = some 3; decide⟩ (rest := []) rfl (Nat.le_of_ble_eq_true rfl) d_D_late_13 (by decide) (by decide)) ?_
  refine v_aload_n X.1 d_D_late_16 rfl 0 rfl ?_
  refine v_get X.1 (ci := 0) ⟨in_D, rfl⟩ 0 rfl 0 (by decide) (X.t tw_212 rfl) rfl d_D_late_17 ?_
  refine v_iload_n X.1 d_D_late_20 rfl 1 rfl ?_
  obtain ⟨hb9, hf⟩ := oi_none hf
  have hp10 : p1.toNatClampNeg < 8 := Nat.not_le.mp (fun q => hb9 (Or.inr q))
  refine v_aald X.1 (b := ad (20 + p1.toNatClampNeg)) 1 2 rfl rfl hb9 rfl d_D_late_21 ?_
  refine v_iload_n X.1 d_D_late_22 rfl 2 rfl ?_
  obtain ⟨g11, eg12, hf⟩ := ob_some hf
  refine v_putN X.1 (ci := 1) ⟨in_A, rfl⟩ (20 + p1.toNatClampNeg) (wA_at ad ca _ hp10) 2 (by decide) ⟨ty_A_ok, nm_A⟩ (X.t tw_86 rfl) rfl (ty := .int) (by decide +kernel) rfl rfl (Nat.le_of_ble_eq_true rfl) ((wA_set2 ad ca _ _ hp10).trans (congrArg (wX ad ca) (Option.some.inj eg12))) d_D_late_23 ?_
  refine v_iconst X.1 (v := (0 : Int32)) d_D_late_26 (by decide) ?_
  refine v_istore_n X.1 (lv' := [(3, .int ((0 : Int32))), (0, .ref (ad 0)), (1, .int p1), (2, .int p2)]) d_D_late_27 rfl (by decide) rfl ?_
  refine v_aload_n X.1 d_D_late_28 rfl 1 rfl ?_
  refine v_get X.1 (ci := 0) ⟨in_D, rfl⟩ 0 rfl 6 (by decide) (X.t tw_218 rfl) rfl d_D_late_29 ?_
  refine v_getN X.1 (ci := 3) ⟨in_P, rfl⟩ 7 rfl 3 (by decide) (X.t tw_202 rfl) rfl d_D_late_32 ?_
  refine v_iconst X.1 (v := (1 : Int32)) d_D_late_35 (by decide) ?_
  refine v_isub X.1 d_D_late_36 ?_
  refine v_istore X.1 (lv' := [(4, .int ((g11 23 0) - ((1 : Int32)))), (3, .int ((0 : Int32))), (0, .ref (ad 0)), (1, .int p1), (2, .int p2)]) d_D_late_37 (by decide) rfl ?_
  obtain ⟨x24, x25, g26, hL27, hf⟩ := ob3_some hf
  refine l_D_late_L39 l hfl fu p1 p2 X hno fu _ _ _ _ _ _ hL27 ?_
  refine v_iload_n X.1 d_D_late_94 rfl 1 rfl ?_
  cases hf
  exact v_iret X.1 X.2.2.1 rfl d_D_late_95 X.2.2.2.1 (by decide) (by decide)

def f_D_arrival (fu : Nat) (p1 : Int32) (p2 : Int32) (g : xSt) : Option (Nat × Int32 × xSt) := (obT (f_D_checkThere p1 (g 0 0) g) (fun r2 g3 => (obT (f_D_checkRange p2 ((0 : Int32)) ((3 : Int32)) g3) (fun r6 g7 => (if p2 = (0 : Int32) then (if p1 < 0 ∨ 8 ≤ p1.toNatClampNeg then none else (ob2 (f_A_toGive p1.toNatClampNeg g7) (fun r13 g14 => (ob2 (f_P_palletsOf fu p1 g14) (fun r16 g17 => some (0, r13 - r16, g17)))))) else (if p2 = (1 : Int32) then (if p1 < 0 ∨ 8 ≤ p1.toNatClampNeg then none else some (0, g7 26 p1.toNatClampNeg, g7)) else (if p2 = (2 : Int32) then (if p1 < 0 ∨ 8 ≤ p1.toNatClampNeg then none else some (0, g7 27 p1.toNatClampNeg, g7)) else (ob2 (f_D_ordersFor fu p1 g7) (fun r25 g26 => some (0, r25, g26))))))))))

set_option maxRecDepth 100000 in
set_option maxHeartbeats 4000000 in
theorem c_D_arrival (l : Launch) (hfl : l.stackTraces = false) (fu : Nat) (p1 : Int32) (p2 : Int32) (g : xSt) (k : Nat) (r : Int32) (g' : xSt) (hf : f_D_arrival fu p1 p2 g = some (k, r, g')) : xM l y_D_arrival (.code y_D_arrival b_D_arrival 3 (some .int)) ({ frames := 7, cells := 2, slots := 12, locals := 104 } : Room) (fun ad => [.ref (ad 0), .int p1, .int p2]) g (xov k (some (.int r))) g' 2 12 := by
  refine x_contract (by decide) (fun _ => Nat.le_of_ble_eq_true rfl) ?_
  intro p e s m below meth c D ad ca X hno
  unfold f_D_arrival at hf
  refine v_iload_n X.1 d_D_arrival_0 rfl 1 rfl ?_
  refine v_aload_n X.1 d_D_arrival_1 rfl 0 rfl ?_
  refine v_get X.1 (ci := 0) ⟨in_D, rfl⟩ 0 rfl 7 (by decide) (X.t tw_219 rfl) rfl d_D_arrival_2 ?_
  rcases obT_some hf with ⟨r2, g3, hc1, hf⟩ | ⟨k4, r2, g3, hc1, hf⟩
  rotate_left
  · cases hf
    exact v_out X.1 (x_runS X (c_D_checkThere l hfl p1 (g 0 0) _ _ _ _ hc1) tw_427 tw_52 tw_425 tw_426 ⟨rfl, rfl, by decide, by decide⟩ ⟨by decide, by show _ = some 2; decide⟩ (rest := []) rfl (Nat.le_of_ble_eq_true rfl) d_D_arrival_5 (by decide) (by decide)) (by rw [hno]; intro x hx; cases hx) X.2.2.2.1 (by decide) (by decide)
  refine v_backV X.1 (x_runS X (c_D_checkThere l hfl p1 (g 0 0) _ _ _ _ hc1) tw_427 tw_52 tw_425 tw_426 ⟨rfl, rfl, by decide, by decide⟩ ⟨by decide, by show _ = some 2; decide⟩ (rest := []) rfl (Nat.le_of_ble_eq_true rfl) d_D_arrival_5 (by decide) (by decide)) ?_
  refine v_iload_n X.1 d_D_arrival_8 rfl 2 rfl ?_
  refine v_iconst X.1 (v := (0 : Int32)) d_D_arrival_9 (by decide) ?_
  refine v_iconst X.1 (v := (3 : Int32)) d_D_arrival_10 (by decide) ?_
  rcases obT_some hf with ⟨r6, g7, hc5, hf⟩ | ⟨k8, r6, g7, hc5, hf⟩
  rotate_left
  · cases hf
    exact v_out X.1 (x_runS X (c_D_checkRange l hfl p2 ((0 : Int32)) ((3 : Int32)) _ _ _ _ hc5) tw_321 tw_52 tw_319 tw_320 ⟨rfl, rfl, by decide, by decide⟩ ⟨by decide, by show _ = some 3; decide⟩ (rest := []) rfl (Nat.le_of_ble_eq_true rfl) d_D_arrival_11 (by decide) (by decide)) (by rw [hno]; intro x hx; cases hx) X.2.2.2.1 (by decide) (by decide)
  refine v_backV X.1 (x_runS X (c_D_checkRange l hfl p2 ((0 : Int32)) ((3 : Int32)) _ _ _ _ hc5) tw_321 tw_52 tw_319 tw_320 ⟨rfl, rfl, by decide, by decide⟩ ⟨by decide, by show _ = some 3; decide⟩ (rest := []) rfl (Nat.le_of_ble_eq_true rfl) d_D_arrival_11 (by decide) (by decide)) ?_
  refine v_iload_n X.1 d_D_arrival_14 rfl 2 rfl ?_
  by_cases c9 : p2 = (0 : Int32)
  · rw [if_pos c9] at hf
    refine v_tin X (tgt := 40) d_D_arrival_15 (by rw [c9]; decide) (by rw [c9]; decide) (by rw [c9]; rfl) (by decide) ?_
    refine v_aload_n X.1 d_D_arrival_40 rfl 0 rfl ?_
    refine v_get X.1 (ci := 0) ⟨in_D, rfl⟩ 0 rfl 0 (by decide) (X.t tw_212 rfl) rfl d_D_arrival_41 ?_
    refine v_iload_n X.1 d_D_arrival_44 rfl 1 rfl ?_
    obtain ⟨hb10, hf⟩ := oi_none hf
    have hp11 : p1.toNatClampNeg < 8 := Nat.not_le.mp (fun q => hb10 (Or.inr q))
    refine v_aald X.1 (b := ad (20 + p1.toNatClampNeg)) 1 2 rfl rfl hb10 rfl d_D_arrival_45 ?_
    obtain ⟨r13, g14, hc12, hf⟩ := ob2_some hf
    refine v_backI X.1 (x_runN X (c_A_toGive l p1.toNatClampNeg hp11 _ _ _ hc12) rfl tw_301 tw_53 tw_298 tw_300 tw_9 (20 + p1.toNatClampNeg) 1 (wA_at ad ca _ hp11) rfl rfl ⟨rfl, rfl, by decide, by decide⟩ ⟨by decide, by show _ = some 0; decide⟩ (rest := []) rfl (Nat.le_of_ble_eq_true rfl) d_D_arrival_46 (by decide) (by decide)) ?_
    refine v_aload_n X.1 d_D_arrival_49 rfl 0 rfl ?_
    refine v_get X.1 (ci := 0) ⟨in_D, rfl⟩ 0 rfl 6 (by decide) (X.t tw_218 rfl) rfl d_D_arrival_50 ?_
    refine v_iload_n X.1 d_D_arrival_53 rfl 1 rfl ?_
    obtain ⟨r16, g17, hc15, hf⟩ := ob2_some hf
    refine v_backI X.1 (x_runN X (c_P_palletsOf l fu p1 _ _ _ hc15) rfl tw_455 tw_56 tw_452 tw_454 tw_12 7 3 rfl rfl rfl ⟨rfl, rfl, by decide, by decide⟩ ⟨by decide, by show _ = some 1; decide⟩ (rest := [.int r13]) rfl (Nat.le_of_ble_eq_true rfl) d_D_arrival_54 (by decide) (by decide)) ?_
    refine v_isub X.1 d_D_arrival_57 ?_
    cases hf
    exact v_iret X.1 X.2.2.1 rfl d_D_arrival_58 X.2.2.2.1 (by decide) (by decide)
  rw [if_neg c9] at hf
  by_cases c18 : p2 = (1 : Int32)
  · rw [if_pos c18] at hf
    refine v_tin X (tgt := 59) d_D_arrival_15 (by rw [c18]; decide) (by rw [c18]; decide) (by rw [c18]; rfl) (by decide) ?_
    refine v_aload_n X.1 d_D_arrival_59 rfl 0 rfl ?_
    refine v_get X.1 (ci := 0) ⟨in_D, rfl⟩ 0 rfl 0 (by decide) (X.t tw_212 rfl) rfl d_D_arrival_60 ?_
    refine v_iload_n X.1 d_D_arrival_63 rfl 1 rfl ?_
    obtain ⟨hb19, hf⟩ := oi_none hf
    have hp20 : p1.toNatClampNeg < 8 := Nat.not_le.mp (fun q => hb19 (Or.inr q))
    refine v_aald X.1 (b := ad (20 + p1.toNatClampNeg)) 1 2 rfl rfl hb19 rfl d_D_arrival_64 ?_
    refine v_getN X.1 (ci := 1) ⟨in_A, rfl⟩ (20 + p1.toNatClampNeg) (wA_at ad ca _ hp20) 2 (by decide) (X.t tw_86 rfl) rfl d_D_arrival_65 ?_
    cases hf
    exact v_iret X.1 X.2.2.1 rfl d_D_arrival_68 X.2.2.2.1 (by decide) (by decide)
  rw [if_neg c18] at hf
  by_cases c21 : p2 = (2 : Int32)
  · rw [if_pos c21] at hf
    refine v_tin X (tgt := 69) d_D_arrival_15 (by rw [c21]; decide) (by rw [c21]; decide) (by rw [c21]; rfl) (by decide) ?_
    refine v_aload_n X.1 d_D_arrival_69 rfl 0 rfl ?_
    refine v_get X.1 (ci := 0) ⟨in_D, rfl⟩ 0 rfl 0 (by decide) (X.t tw_212 rfl) rfl d_D_arrival_70 ?_
    refine v_iload_n X.1 d_D_arrival_73 rfl 1 rfl ?_
    obtain ⟨hb22, hf⟩ := oi_none hf
    have hp23 : p1.toNatClampNeg < 8 := Nat.not_le.mp (fun q => hb22 (Or.inr q))
    refine v_aald X.1 (b := ad (20 + p1.toNatClampNeg)) 1 2 rfl rfl hb22 rfl d_D_arrival_74 ?_
    refine v_getN X.1 (ci := 1) ⟨in_A, rfl⟩ (20 + p1.toNatClampNeg) (wA_at ad ca _ hp23) 3 (by decide) (X.t tw_89 rfl) rfl d_D_arrival_75 ?_
    cases hf
    exact v_iret X.1 X.2.2.1 rfl d_D_arrival_78 X.2.2.2.1 (by decide) (by decide)
  rw [if_neg c21] at hf
  refine v_tout X (tgt := 79) d_D_arrival_15 (by have := lv_neT (a := 0) c9 rfl; have := lv_neT (a := 1) c18 rfl; have := lv_neT (a := 2) c21 rfl; omega) (by decide) ?_
  refine v_aload_n X.1 d_D_arrival_79 rfl 0 rfl ?_
  refine v_iload_n X.1 d_D_arrival_80 rfl 1 rfl ?_
  obtain ⟨r25, g26, hc24, hf⟩ := ob2_some hf
  refine v_backI X.1 (x_runV X (c_D_ordersFor l fu p1 _ _ _ hc24) rfl tw_277 tw_52 tw_274 tw_276 tw_5 0 0 rfl rfl rfl ⟨rfl, rfl, by decide, by decide⟩ ⟨by decide, by show _ = some 1; decide⟩ (rest := []) rfl (Nat.le_of_ble_eq_true rfl) d_D_arrival_81 (by decide) (by decide)) ?_
  cases hf
  exact v_iret X.1 X.2.2.1 rfl d_D_arrival_84 X.2.2.2.1 (by decide) (by decide)

def f_D_wanted (fu : Nat) (p1 : Int32) (p2 : Int32) (g : xSt) : Option (Nat × Int32 × xSt) := (obT (f_D_checkThere p1 (g 1 0) g) (fun r2 g3 => (obT (f_D_checkRange p2 ((0 : Int32)) ((3 : Int32)) g3) (fun r6 g7 => (if p2 = (0 : Int32) then (if p1 < 0 ∨ 8 ≤ p1.toNatClampNeg then none else (ob2 (f_P_palletsFor fu p1 g7) (fun r13 g14 => some (0, (g7 31 p1.toNatClampNeg) - r13, g14)))) else (if p2 = (1 : Int32) then (if p1 < 0 ∨ 8 ≤ p1.toNatClampNeg then none else some (0, g7 34 p1.toNatClampNeg, g7)) else (if p2 = (2 : Int32) then (ob2 (f_D_arrivalsFor fu p1 g7) (fun r20 g21 => some (0, r20, g21))) else (ob2 (f_D_whatBarsAll fu p1 g7) (fun r23 g24 => some (0, r23, g24))))))))))

set_option maxRecDepth 100000 in
set_option maxHeartbeats 4000000 in
theorem c_D_wanted (l : Launch) (hfl : l.stackTraces = false) (fu : Nat) (p1 : Int32) (p2 : Int32) (g : xSt) (k : Nat) (r : Int32) (g' : xSt) (hf : f_D_wanted fu p1 p2 g = some (k, r, g')) : xM l y_D_wanted (.code y_D_wanted b_D_wanted 3 (some .int)) ({ frames := 7, cells := 2, slots := 12, locals := 104 } : Room) (fun ad => [.ref (ad 0), .int p1, .int p2]) g (xov k (some (.int r))) g' 2 12 := by
  refine x_contract (by decide) (fun _ => Nat.le_of_ble_eq_true rfl) ?_
  intro p e s m below meth c D ad ca X hno
  unfold f_D_wanted at hf
  refine v_iload_n X.1 d_D_wanted_0 rfl 1 rfl ?_
  refine v_aload_n X.1 d_D_wanted_1 rfl 0 rfl ?_
  refine v_get X.1 (ci := 0) ⟨in_D, rfl⟩ 0 rfl 8 (by decide) (X.t tw_220 rfl) rfl d_D_wanted_2 ?_
  rcases obT_some hf with ⟨r2, g3, hc1, hf⟩ | ⟨k4, r2, g3, hc1, hf⟩
  rotate_left
  · cases hf
    exact v_out X.1 (x_runS X (c_D_checkThere l hfl p1 (g 1 0) _ _ _ _ hc1) tw_427 tw_52 tw_425 tw_426 ⟨rfl, rfl, by decide, by decide⟩ ⟨by decide, by show _ = some 2; decide⟩ (rest := []) rfl (Nat.le_of_ble_eq_true rfl) d_D_wanted_5 (by decide) (by decide)) (by rw [hno]; intro x hx; cases hx) X.2.2.2.1 (by decide) (by decide)
  refine v_backV X.1 (x_runS X (c_D_checkThere l hfl p1 (g 1 0) _ _ _ _ hc1) tw_427 tw_52 tw_425 tw_426 ⟨rfl, rfl, by decide, by decide⟩ ⟨by decide, by show _ = some 2; decide⟩ (rest := []) rfl (Nat.le_of_ble_eq_true rfl) d_D_wanted_5 (by decide) (by decide)) ?_
  refine v_iload_n X.1 d_D_wanted_8 rfl 2 rfl ?_
  refine v_iconst X.1 (v := (0 : Int32)) d_D_wanted_9 (by decide) ?_
  refine v_iconst X.1 (v := (3 : Int32)) d_D_wanted_10 (by decide) ?_
  rcases obT_some hf with ⟨r6, g7, hc5, hf⟩ | ⟨k8, r6, g7, hc5, hf⟩
  rotate_left
  · cases hf
    exact v_out X.1 (x_runS X (c_D_checkRange l hfl p2 ((0 : Int32)) ((3 : Int32)) _ _ _ _ hc5) tw_321 tw_52 tw_319 tw_320 ⟨rfl, rfl, by decide, by decide⟩ ⟨by decide, by show _ = some 3; decide⟩ (rest := []) rfl (Nat.le_of_ble_eq_true rfl) d_D_wanted_11 (by decide) (by decide)) (by rw [hno]; intro x hx; cases hx) X.2.2.2.1 (by decide) (by decide)
  refine v_backV X.1 (x_runS X (c_D_checkRange l hfl p2 ((0 : Int32)) ((3 : Int32)) _ _ _ _ hc5) tw_321 tw_52 tw_319 tw_320 ⟨rfl, rfl, by decide, by decide⟩ ⟨by decide, by show _ = some 3; decide⟩ (rest := []) rfl (Nat.le_of_ble_eq_true rfl) d_D_wanted_11 (by decide) (by decide)) ?_
  refine v_iload_n X.1 d_D_wanted_14 rfl 2 rfl ?_
  by_cases c9 : p2 = (0 : Int32)
  · rw [if_pos c9] at hf
    refine v_tin X (tgt := 40) d_D_wanted_15 (by rw [c9]; decide) (by rw [c9]; decide) (by rw [c9]; rfl) (by decide) ?_
    refine v_aload_n X.1 d_D_wanted_40 rfl 0 rfl ?_
    refine v_get X.1 (ci := 0) ⟨in_D, rfl⟩ 0 rfl 1 (by decide) (X.t tw_213 rfl) rfl d_D_wanted_41 ?_
    refine v_iload_n X.1 d_D_wanted_44 rfl 1 rfl ?_
    obtain ⟨hb10, hf⟩ := oi_none hf
    have hp11 : p1.toNatClampNeg < 8 := Nat.not_le.mp (fun q => hb10 (Or.inr q))
    refine v_aald X.1 (b := ad (28 + p1.toNatClampNeg)) 2 3 rfl rfl hb10 rfl d_D_wanted_45 ?_
    refine v_getN X.1 (ci := 2) ⟨in_O, rfl⟩ (28 + p1.toNatClampNeg) (wO_at ad ca _ hp11) 1 (by decide) (X.t tw_114 rfl) rfl d_D_wanted_46 ?_
    refine v_aload_n X.1 d_D_wanted_49 rfl 0 rfl ?_
    refine v_get X.1 (ci := 0) ⟨in_D, rfl⟩ 0 rfl 6 (by decide) (X.t tw_218 rfl) rfl d_D_wanted_50 ?_
    refine v_iload_n X.1 d_D_wanted_53 rfl 1 rfl ?_
    obtain ⟨r13, g14, hc12, hf⟩ := ob2_some hf
    refine v_backI X.1 (x_runN X (c_P_palletsFor l fu p1 _ _ _ hc12) rfl tw_297 tw_56 tw_294 tw_296 tw_8 7 3 rfl rfl rfl ⟨rfl, rfl, by decide, by decide⟩ ⟨by decide, by show _ = some 1; decide⟩ (rest := [.int (g7 31 p1.toNatClampNeg)]) rfl (Nat.le_of_ble_eq_true rfl) d_D_wanted_54 (by decide) (by decide)) ?_
    refine v_isub X.1 d_D_wanted_57 ?_
    cases hf
    exact v_iret X.1 X.2.2.1 rfl d_D_wanted_58 X.2.2.2.1 (by decide) (by decide)
  rw [if_neg c9] at hf
  by_cases c15 : p2 = (1 : Int32)
  · rw [if_pos c15] at hf
    refine v_tin X (tgt := 59) d_D_wanted_15 (by rw [c15]; decide) (by rw [c15]; decide) (by rw [c15]; rfl) (by decide) ?_
    refine v_aload_n X.1 d_D_wanted_59 rfl 0 rfl ?_
    refine v_get X.1 (ci := 0) ⟨in_D, rfl⟩ 0 rfl 1 (by decide) (X.t tw_213 rfl) rfl d_D_wanted_60 ?_
    refine v_iload_n X.1 d_D_wanted_63 rfl 1 rfl ?_
    obtain ⟨hb16, hf⟩ := oi_none hf
    have hp17 : p1.toNatClampNeg < 8 := Nat.not_le.mp (fun q => hb16 (Or.inr q))
    refine v_aald X.1 (b := ad (28 + p1.toNatClampNeg)) 2 3 rfl rfl hb16 rfl d_D_wanted_64 ?_
    refine v_getN X.1 (ci := 2) ⟨in_O, rfl⟩ (28 + p1.toNatClampNeg) (wO_at ad ca _ hp17) 4 (by decide) (X.t tw_117 rfl) rfl d_D_wanted_65 ?_
    cases hf
    exact v_iret X.1 X.2.2.1 rfl d_D_wanted_68 X.2.2.2.1 (by decide) (by decide)
  rw [if_neg c15] at hf
  by_cases c18 : p2 = (2 : Int32)
  · rw [if_pos c18] at hf
    refine v_tin X (tgt := 69) d_D_wanted_15 (by rw [c18]; decide) (by rw [c18]; decide) (by rw [c18]; rfl) (by decide) ?_
    refine v_aload_n X.1 d_D_wanted_69 rfl 0 rfl ?_
    refine v_iload_n X.1 d_D_wanted_70 rfl 1 rfl ?_
    obtain ⟨r20, g21, hc19, hf⟩ := ob2_some hf
    refine v_backI X.1 (x_runV X (c_D_arrivalsFor l fu p1 _ _ _ hc19) rfl tw_257 tw_52 tw_254 tw_256 tw_0 0 0 rfl rfl rfl ⟨rfl, rfl, by decide, by decide⟩ ⟨by decide, by show _ = some 1; decide⟩ (rest := []) rfl (Nat.le_of_ble_eq_true rfl) d_D_wanted_71 (by decide) (by decide)) ?_
    cases hf
    exact v_iret X.1 X.2.2.1 rfl d_D_wanted_74 X.2.2.2.1 (by decide) (by decide)
  rw [if_neg c18] at hf
  refine v_tout X (tgt := 75) d_D_wanted_15 (by have := lv_neT (a := 0) c9 rfl; have := lv_neT (a := 1) c15 rfl; have := lv_neT (a := 2) c18 rfl; omega) (by decide) ?_
  refine v_aload_n X.1 d_D_wanted_75 rfl 0 rfl ?_
  refine v_iload_n X.1 d_D_wanted_76 rfl 1 rfl ?_
  obtain ⟨r23, g24, hc22, hf⟩ := ob2_some hf
  refine v_backI X.1 (x_runV X (c_D_whatBarsAll l fu p1 _ _ _ hc22) rfl tw_618 tw_52 tw_615 tw_617 tw_31 0 0 rfl rfl rfl ⟨rfl, rfl, by decide, by decide⟩ ⟨by decide, by show _ = some 1; decide⟩ (rest := []) rfl (Nat.le_of_ble_eq_true rfl) d_D_wanted_77 (by decide) (by decide)) ?_
  cases hf
  exact v_iret X.1 X.2.2.1 rfl d_D_wanted_80 X.2.2.2.1 (by decide) (by decide)

def f_D_saved (fu : Nat) (g : xSt) : Option (Int32 × xSt) := (ob2 (f_D_touchesSaved fu g) (fun r2 g3 => some (r2, g3)))

set_option maxRecDepth 100000 in
set_option maxHeartbeats 4000000 in
theorem c_D_saved (l : Launch) (fu : Nat) (g : xSt) (r : Int32) (g' : xSt) (hf : f_D_saved fu g = some (r, g')) : xM l y_D_saved (.code y_D_saved b_D_saved 1 (some .int)) ({ frames := 2, cells := 0, slots := 0, locals := 45 } : Room) (fun ad => [.ref (ad 0)]) g (.inl (some (.int r))) g' 0 0 := by
  refine x_contract (by decide) (fun _ => Nat.le_of_ble_eq_true rfl) ?_
  intro p e s m below meth c D ad ca X hno
  unfold f_D_saved at hf
  refine v_aload_n X.1 d_D_saved_0 rfl 0 rfl ?_
  obtain ⟨r2, g3, hc1, hf⟩ := ob2_some hf
  refine v_backI X.1 (x_runV X (c_D_touchesSaved l fu _ _ _ hc1) rfl tw_289 tw_52 tw_286 tw_288 tw_6 0 0 rfl rfl rfl ⟨rfl, rfl, by decide, by decide⟩ ⟨by decide, by show _ = some 0; decide⟩ (rest := []) rfl (Nat.le_of_ble_eq_true rfl) d_D_saved_1 (by decide) (by decide)) ?_
  cases hf
  exact v_iret X.1 X.2.2.1 rfl d_D_saved_4 X.2.2.2.1 (by decide) (by decide)

def f_D_count (fu : Nat) (p1 : Int32) (g : xSt) : Option (Int32 × xSt) := (if p1 = (0 : Int32) then some (g 0 0, g) else (if p1 = (1 : Int32) then some (g 1 0, g) else (if p1 = (2 : Int32) then some (g 23 0, g) else (if p1 = (3 : Int32) then (ob2 (f_P_palletsInAll fu g) (fun r6 g7 => some (r6, g7))) else (if p1 = (4 : Int32) then (ob2 (f_D_fullLanes fu g) (fun r10 g11 => some (r10, g11))) else some ((-1 : Int32), g))))))

set_option maxRecDepth 100000 in
set_option maxHeartbeats 4000000 in
theorem c_D_count (l : Launch) (fu : Nat) (p1 : Int32) (g : xSt) (r : Int32) (g' : xSt) (hf : f_D_count fu p1 g = some (r, g')) : xM l y_D_count (.code y_D_count b_D_count 2 (some .int)) ({ frames := 1, cells := 0, slots := 0, locals := 22 } : Room) (fun ad => [.ref (ad 0), .int p1]) g (.inl (some (.int r))) g' 0 0 := by
  refine x_contract (by decide) (fun _ => Nat.le_of_ble_eq_true rfl) ?_
  intro p e s m below meth c D ad ca X hno
  unfold f_D_count at hf
  refine v_iload_n X.1 d_D_count_0 rfl 1 rfl ?_
  by_cases c1 : p1 = (0 : Int32)
  · rw [if_pos c1] at hf
    refine v_tin X (tgt := 36) d_D_count_1 (by rw [c1]; decide) (by rw [c1]; decide) (by rw [c1]; rfl) (by decide) ?_
    refine v_aload_n X.1 d_D_count_36 rfl 0 rfl ?_
    refine v_get X.1 (ci := 0) ⟨in_D, rfl⟩ 0 rfl 7 (by decide) (X.t tw_219 rfl) rfl d_D_count_37 ?_
    cases hf
    exact v_iret X.1 X.2.2.1 rfl d_D_count_40 X.2.2.2.1 (by decide) (by decide)
  rw [if_neg c1] at hf
  by_cases c2 : p1 = (1 : Int32)
  · rw [if_pos c2] at hf
    refine v_tin X (tgt := 41) d_D_count_1 (by rw [c2]; decide) (by rw [c2]; decide) (by rw [c2]; rfl) (by decide) ?_
    refine v_aload_n X.1 d_D_count_41 rfl 0 rfl ?_
    refine v_get X.1 (ci := 0) ⟨in_D, rfl⟩ 0 rfl 8 (by decide) (X.t tw_220 rfl) rfl d_D_count_42 ?_
    cases hf
    exact v_iret X.1 X.2.2.1 rfl d_D_count_45 X.2.2.2.1 (by decide) (by decide)
  rw [if_neg c2] at hf
  by_cases c3 : p1 = (2 : Int32)
  · rw [if_pos c3] at hf
    refine v_tin X (tgt := 46) d_D_count_1 (by rw [c3]; decide) (by rw [c3]; decide) (by rw [c3]; rfl) (by decide) ?_
    refine v_aload_n X.1 d_D_count_46 rfl 0 rfl ?_
    refine v_get X.1 (ci := 0) ⟨in_D, rfl⟩ 0 rfl 6 (by decide) (X.t tw_218 rfl) rfl d_D_count_47 ?_
    refine v_getN X.1 (ci := 3) ⟨in_P, rfl⟩ 7 rfl 3 (by decide) (X.t tw_202 rfl) rfl d_D_count_50 ?_
    cases hf
    exact v_iret X.1 X.2.2.1 rfl d_D_count_53 X.2.2.2.1 (by decide) (by decide)
  rw [if_neg c3] at hf
  by_cases c4 : p1 = (3 : Int32)
  · rw [if_pos c4] at hf
    refine v_tin X (tgt := 54) d_D_count_1 (by rw [c4]; decide) (by rw [c4]; decide) (by rw [c4]; rfl) (by decide) ?_
    refine v_aload_n X.1 d_D_count_54 rfl 0 rfl ?_
    refine v_get X.1 (ci := 0) ⟨in_D, rfl⟩ 0 rfl 6 (by decide) (X.t tw_218 rfl) rfl d_D_count_55 ?_
    obtain ⟨r6, g7, hc5, hf⟩ := ob2_some hf
    refine v_backI X.1 (x_runN X (c_P_palletsInAll l fu _ _ _ hc5) rfl tw_293 tw_56 tw_290 tw_292 tw_7 7 3 rfl rfl rfl ⟨rfl, rfl, by decide, by decide⟩ ⟨by decide, by show _ = some 0; decide⟩ (rest := []) rfl (Nat.le_of_ble_eq_true rfl) d_D_count_58 (by decide) (by decide)) ?_
    cases hf
    exact v_iret X.1 X.2.2.1 rfl d_D_count_61 X.2.2.2.1 (by decide) (by decide)
  rw [if_neg c4] at hf
  by_cases c8 : p1 = (4 : Int32)
  · rw [if_pos c8] at hf
    refine v_tin X (tgt := 62) d_D_count_1 (by rw [c8]; decide) (by rw [c8]; decide) (by rw [c8]; rfl) (by decide) ?_
    refine v_aload_n X.1 d_D_count_62 rfl 0 rfl ?_
    obtain ⟨r10, g11, hc9, hf⟩ := ob2_some hf
    refine v_backI X.1 (x_runV X (c_D_fullLanes l fu _ _ _ hc9) rfl tw_309 tw_52 tw_306 tw_308 tw_10 0 0 rfl rfl rfl ⟨rfl, rfl, by decide, by decide⟩ ⟨by decide, by show _ = some 0; decide⟩ (rest := []) rfl (Nat.le_of_ble_eq_true rfl) d_D_count_63 (by decide) (by decide)) ?_
    cases hf
    exact v_iret X.1 X.2.2.1 rfl d_D_count_66 X.2.2.2.1 (by decide) (by decide)
  rw [if_neg c8] at hf
  refine v_tout X (tgt := 67) d_D_count_1 (by have := lv_neT (a := 0) c1 rfl; have := lv_neT (a := 1) c2 rfl; have := lv_neT (a := 2) c3 rfl; have := lv_neT (a := 3) c4 rfl; have := lv_neT (a := 4) c8 rfl; omega) (by decide) ?_
  refine v_iconst X.1 (v := (-1 : Int32)) d_D_count_67 (by decide) ?_
  cases hf
  exact v_iret X.1 X.2.2.1 rfl d_D_count_68 X.2.2.2.1 (by decide) (by decide)

