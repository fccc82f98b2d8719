def f_S_touchesBy (p1 : Int32) (g : xSt) : Option (Int32 × xSt) := (if p1 < 0 ∨ 64 ≤ p1.toNatClampNeg then none else (if (g 13 p1.toNatClampNeg) = 0 then some ((0 : Int32), g) else (if p1 < 0 ∨ 64 ≤ p1.toNatClampNeg then none else (if (g 8 p1.toNatClampNeg) < 0 ∨ 8 ≤ (g 8 p1.toNatClampNeg).toNatClampNeg then none else (if (g 12 (g 8 p1.toNatClampNeg).toNatClampNeg) = 0 then (if p1 < 0 ∨ 64 ≤ p1.toNatClampNeg then none else (if (g 7 p1.toNatClampNeg) < 0 ∨ 8 ≤ (g 7 p1.toNatClampNeg).toNatClampNeg then none else (if (g 13 p1.toNatClampNeg) = (g 9 (g 7 p1.toNatClampNeg).toNatClampNeg) then some (((((2 : Int32)) * (g 13 p1.toNatClampNeg)) + (3 : Int32)) + (1 : Int32), g) else some ((((2 : Int32)) * (g 13 p1.toNatClampNeg)) + (3 : Int32), g)))) else (if p1 < 0 ∨ 64 ≤ p1.toNatClampNeg then none else (if (g 7 p1.toNatClampNeg) < 0 ∨ 8 ≤ (g 7 p1.toNatClampNeg).toNatClampNeg then none else (if (g 13 p1.toNatClampNeg) = (g 9 (g 7 p1.toNatClampNeg).toNatClampNeg) then some ((((2 : Int32)) * (g 13 p1.toNatClampNeg)) + (1 : Int32), g) else some (((2 : Int32)) * (g 13 p1.toNatClampNeg), g)))))))))

set_option maxRecDepth 100000 in
set_option maxHeartbeats 4000000 in
theorem c_S_touchesBy (l : Launch) (p1 : Int32) (g : xSt) (r : Int32) (g' : xSt) (hf : f_S_touchesBy p1 g = some (r, g')) : xM l y_S_touchesBy (.code y_S_touchesBy b_S_touchesBy 4 (some .int)) ({ frames := 0, cells := 0, slots := 0, locals := 0 } : Room) (fun ad => [.ref (ad 6), .int p1]) g (.inl (some (.int r))) g' 0 0 := by
  refine x_contract (by decide) (fun _ => Nat.le_of_ble_eq_true rfl) ?_
  intro p e s m below meth c D ad ca X hno
  unfold f_S_touchesBy at hf
  refine v_aload_n X.1 d_S_touchesBy_0 rfl 0 rfl ?_
  refine v_get X.1 (ci := 4) ⟨in_S, rfl⟩ 6 rfl 6 (by decide) (X.t tw_149 rfl) rfl d_S_touchesBy_1 ?_
  refine v_iload_n X.1 d_S_touchesBy_4 rfl 1 rfl ?_
  obtain ⟨hb1, hf⟩ := oi_none hf
  refine v_iald X.1 14 0 rfl rfl hb1 d_S_touchesBy_5 ?_
  refine v_istore_n X.1 (lv' := [(2, .int (g 13 p1.toNatClampNeg)), (0, .ref (ad 6)), (1, .int p1)]) d_S_touchesBy_6 rfl (by decide) rfl ?_
  refine v_iload_n X.1 d_S_touchesBy_7 rfl 0 rfl ?_
  refine v_if_ne X.1 (tgt := 13) d_S_touchesBy_8 (by decide) (fun c2 => ?_) (fun c2 => ?_)
  · rw [if_neg c2] at hf
    refine v_iconst X.1 (v := (2 : Int32)) d_S_touchesBy_13 (by decide) ?_
    refine v_iload_n X.1 d_S_touchesBy_14 rfl 0 rfl ?_
    refine v_imul X.1 d_S_touchesBy_15 ?_
    refine v_istore_n X.1 (lv' := [(3, .int (((2 : Int32)) * (g 13 p1.toNatClampNeg))), (2, .int (g 13 p1.toNatClampNeg)), (0, .ref (ad 6)), (1, .int p1)]) d_S_touchesBy_16 rfl (by decide) rfl ?_
    refine v_aload_n X.1 d_S_touchesBy_17 rfl 2 rfl ?_
    refine v_get X.1 (ci := 4) ⟨in_S, rfl⟩ 6 rfl 5 (by decide) (X.t tw_148 rfl) rfl d_S_touchesBy_18 ?_
    refine v_aload_n X.1 d_S_touchesBy_21 rfl 2 rfl ?_
    refine v_get X.1 (ci := 4) ⟨in_S, rfl⟩ 6 rfl 1 (by decide) (X.t tw_141 rfl) rfl d_S_touchesBy_22 ?_
    refine v_iload_n X.1 d_S_touchesBy_25 rfl 3 rfl ?_
    obtain ⟨hb3, hf⟩ := oi_none hf
    refine v_iald X.1 9 0 rfl rfl hb3 d_S_touchesBy_26 ?_
    obtain ⟨hb4, hf⟩ := oi_none hf
    refine v_iald X.1 13 0 rfl rfl hb4 d_S_touchesBy_27 ?_
    refine v_if_ne X.1 (tgt := 34) d_S_touchesBy_28 (by decide) (fun c5 => ?_) (fun c5 => ?_)
    · rw [if_neg c5] at hf
      refine v_iload_n X.1 d_S_touchesBy_34 rfl 1 rfl ?_
      refine v_aload_n X.1 d_S_touchesBy_35 rfl 2 rfl ?_
      refine v_get X.1 (ci := 4) ⟨in_S, rfl⟩ 6 rfl 2 (by decide) (X.t tw_143 rfl) rfl d_S_touchesBy_36 ?_
      refine v_aload_n X.1 d_S_touchesBy_39 rfl 2 rfl ?_
      refine v_get X.1 (ci := 4) ⟨in_S, rfl⟩ 6 rfl 0 (by decide) (X.t tw_139 rfl) rfl d_S_touchesBy_40 ?_
      refine v_iload_n X.1 d_S_touchesBy_43 rfl 3 rfl ?_
      obtain ⟨hb6, hf⟩ := oi_none hf
      refine v_iald X.1 8 0 rfl rfl hb6 d_S_touchesBy_44 ?_
      obtain ⟨hb7, hf⟩ := oi_none hf
      refine v_iald X.1 10 0 rfl rfl hb7 d_S_touchesBy_45 ?_
      refine v_icmp_ne X.1 (tgt := 52) d_S_touchesBy_46 (by decide) (fun c8 => ?_) (fun c8 => ?_)
      · rw [if_neg c8] at hf
        refine v_iload_n X.1 d_S_touchesBy_52 rfl 0 rfl ?_
        cases hf
        exact v_iret X.1 X.2.2.1 rfl d_S_touchesBy_53 X.2.2.2.1 (by decide) (by decide)
      · rw [if_pos c8] at hf
        refine v_iinc X.1 (k0 := 0) (v := (((2 : Int32)) * (g 13 p1.toNatClampNeg)) + (1 : Int32)) (lv' := [(3, .int ((((2 : Int32)) * (g 13 p1.toNatClampNeg)) + (1 : Int32))), (2, .int (g 13 p1.toNatClampNeg)), (0, .ref (ad 6)), (1, .int p1)]) d_S_touchesBy_49 rfl rfl (by decide) rfl ?_
        refine v_iload_n X.1 d_S_touchesBy_52 rfl 0 rfl ?_
        cases hf
        exact v_iret X.1 X.2.2.1 rfl d_S_touchesBy_53 X.2.2.2.1 (by decide) (by decide)
    · rw [if_pos c5] at hf
      refine v_iinc X.1 (k0 := 0) (v := (((2 : Int32)) * (g 13 p1.toNatClampNeg)) + (3 : Int32)) (lv' := [(3, .int ((((2 : Int32)) * (g 13 p1.toNatClampNeg)) + (3 : Int32))), (2, .int (g 13 p1.toNatClampNeg)), (0, .ref (ad 6)), (1, .int p1)]) d_S_touchesBy_31 rfl rfl (by decide) rfl ?_
      refine v_iload_n X.1 d_S_touchesBy_34 rfl 1 rfl ?_
      refine v_aload_n X.1 d_S_touchesBy_35 rfl 2 rfl ?_
      refine v_get X.1 (ci := 4) ⟨in_S, rfl⟩ 6 rfl 2 (by decide) (X.t tw_143 rfl) rfl d_S_touchesBy_36 ?_
      refine v_aload_n X.1 d_S_touchesBy_39 rfl 2 rfl ?_
      refine v_get X.1 (ci := 4) ⟨in_S, rfl⟩ 6 rfl 0 (by decide) (X.t tw_139 rfl) rfl d_S_touchesBy_40 ?_
      refine v_iload_n X.1 d_S_touchesBy_43 rfl 3 rfl ?_
      obtain ⟨hb9, hf⟩ := oi_none hf
      refine v_iald X.1 8 0 rfl rfl hb9 d_S_touchesBy_44 ?_
      obtain ⟨hb10, hf⟩ := oi_none hf
      refine v_iald X.1 10 0 rfl rfl hb10 d_S_touchesBy_45 ?_
      refine v_icmp_ne X.1 (tgt := 52) d_S_touchesBy_46 (by decide) (fun c11 => ?_) (fun c11 => ?_)
      · rw [if_neg c11] at hf
        refine v_iload_n X.1 d_S_touchesBy_52 rfl 0 rfl ?_
        cases hf
        exact v_iret X.1 X.2.2.1 rfl d_S_touchesBy_53 X.2.2.2.1 (by decide) (by decide)
      · rw [if_pos c11] at hf
        refine v_iinc X.1 (k0 := 0) (v := ((((2 : Int32)) * (g 13 p1.toNatClampNeg)) + (3 : Int32)) + (1 : Int32)) (lv' := [(3, .int (((((2 : Int32)) * (g 13 p1.toNatClampNeg)) + (3 : Int32)) + (1 : Int32))), (2, .int (g 13 p1.toNatClampNeg)), (0, .ref (ad 6)), (1, .int p1)]) d_S_touchesBy_49 rfl rfl (by decide) rfl ?_
        refine v_iload_n X.1 d_S_touchesBy_52 rfl 0 rfl ?_
        cases hf
        exact v_iret X.1 X.2.2.1 rfl d_S_touchesBy_53 X.2.2.2.1 (by decide) (by decide)
  · rw [if_pos c2] at hf
    refine v_iconst X.1 (v := (0 : Int32)) d_S_touchesBy_11 (by decide) ?_
    cases hf
    exact v_iret X.1 X.2.2.1 rfl d_S_touchesBy_12 X.2.2.2.1 (by decide) (by decide)

def f_S_greatest (p1 : Int32) (g : xSt) : Option (Int32 × xSt) := (if p1 < 0 ∨ 64 ≤ p1.toNatClampNeg then none else (if (g 7 p1.toNatClampNeg) < 0 ∨ 8 ≤ (g 7 p1.toNatClampNeg).toNatClampNeg then none else (if p1 < 0 ∨ 64 ≤ p1.toNatClampNeg then none else (if (g 8 p1.toNatClampNeg) < 0 ∨ 8 ≤ (g 8 p1.toNatClampNeg).toNatClampNeg then none else some (if (g 12 (g 8 p1.toNatClampNeg).toNatClampNeg) < (g 11 (g 7 p1.toNatClampNeg).toNatClampNeg) then (g 12 (g 8 p1.toNatClampNeg).toNatClampNeg) else (g 11 (g 7 p1.toNatClampNeg).toNatClampNeg), g)))))

set_option maxRecDepth 100000 in
set_option maxHeartbeats 4000000 in
theorem c_S_greatest (l : Launch) (p1 : Int32) (g : xSt) (r : Int32) (g' : xSt) (hf : f_S_greatest p1 g = some (r, g')) : xM l y_S_greatest (.code y_S_greatest b_S_greatest 2 (some .int)) ({ frames := 1, cells := 0, slots := 0, locals := 21 } : Room) (fun ad => [.ref (ad 6), .int p1]) g (.inl (some (.int r))) g' 0 0 := by
  refine x_contract (by decide) (fun _ => Nat.le_of_ble_eq_true rfl) ?_
  intro p e s m below meth c D ad ca X hno
  unfold f_S_greatest at hf
  refine v_aload_n X.1 d_S_greatest_0 rfl 0 rfl ?_
  refine v_get X.1 (ci := 4) ⟨in_S, rfl⟩ 6 rfl 4 (by decide) (X.t tw_147 rfl) rfl d_S_greatest_1 ?_
  refine v_aload_n X.1 d_S_greatest_4 rfl 0 rfl ?_
  refine v_get X.1 (ci := 4) ⟨in_S, rfl⟩ 6 rfl 0 (by decide) (X.t tw_139 rfl) rfl d_S_greatest_5 ?_
  refine v_iload_n X.1 d_S_greatest_8 rfl 1 rfl ?_
  obtain ⟨hb1, hf⟩ := oi_none hf
  refine v_iald X.1 8 0 rfl rfl hb1 d_S_greatest_9 ?_
  obtain ⟨hb2, hf⟩ := oi_none hf
  refine v_iald X.1 12 0 rfl rfl hb2 d_S_greatest_10 ?_
  refine v_aload_n X.1 d_S_greatest_11 rfl 0 rfl ?_
  refine v_get X.1 (ci := 4) ⟨in_S, rfl⟩ 6 rfl 5 (by decide) (X.t tw_148 rfl) rfl d_S_greatest_12 ?_
  refine v_aload_n X.1 d_S_greatest_15 rfl 0 rfl ?_
  refine v_get X.1 (ci := 4) ⟨in_S, rfl⟩ 6 rfl 1 (by decide) (X.t tw_141 rfl) rfl d_S_greatest_16 ?_
  refine v_iload_n X.1 d_S_greatest_19 rfl 1 rfl ?_
  obtain ⟨hb3, hf⟩ := oi_none hf
  refine v_iald X.1 9 0 rfl rfl hb3 d_S_greatest_20 ?_
  obtain ⟨hb4, hf⟩ := oi_none hf
  refine v_iald X.1 13 0 rfl rfl hb4 d_S_greatest_21 ?_
  refine v_min X tw_528 tw_529 tw_66 twM_min ⟨by decide, Nat.le_of_ble_eq_true rfl, by decide, by decide⟩ d_S_greatest_22 ?_
  cases hf
  exact v_iret X.1 X.2.2.1 rfl d_S_greatest_25 X.2.2.2.1 (by decide) (by decide)

def f_S_take (p1 : Int32) (p2 : Int32) (g : xSt) : Option (xSt) := (if p1 < 0 ∨ 64 ≤ p1.toNatClampNeg then none else (if (g 7 p1.toNatClampNeg) < 0 ∨ 8 ≤ (g 7 p1.toNatClampNeg).toNatClampNeg then none else (if (g 7 p1.toNatClampNeg) < 0 ∨ 8 ≤ (g 7 p1.toNatClampNeg).toNatClampNeg then none else (Option.bind (some (xw g 11 (g 7 p1.toNatClampNeg).toNatClampNeg ((g 11 (g 7 p1.toNatClampNeg).toNatClampNeg) - p2))) (fun g4 => (if p1 < 0 ∨ 64 ≤ p1.toNatClampNeg then none else (if (g4 8 p1.toNatClampNeg) < 0 ∨ 8 ≤ (g4 8 p1.toNatClampNeg).toNatClampNeg then none else (if (g4 8 p1.toNatClampNeg) < 0 ∨ 8 ≤ (g4 8 p1.toNatClampNeg).toNatClampNeg then none else (Option.bind (some (xw g4 12 (g4 8 p1.toNatClampNeg).toNatClampNeg ((g4 12 (g4 8 p1.toNatClampNeg).toNatClampNeg) - p2))) (fun g9 => (if p1 < 0 ∨ 64 ≤ p1.toNatClampNeg then none else (Option.bind (some (xw g9 13 p1.toNatClampNeg p2)) (fun g12 => (ob2 (f_S_touchesBy p1 g12) (fun r15 g16 => (Option.bind (some (xw g16 17 0 ((g12 17 0) + r15))) (fun g17 => some g17)))))))))))))))))

set_option maxRecDepth 100000 in
set_option maxHeartbeats 4000000 in
theorem c_S_take (l : Launch) (p1 : Int32) (p2 : Int32) (g : xSt) (g' : xSt) (hf : f_S_take p1 p2 g = some g') : xM l y_S_take (.code y_S_take b_S_take 3 none) ({ frames := 1, cells := 0, slots := 0, locals := 23 } : Room) (fun ad => [.ref (ad 6), .int p1, .int p2]) g (.inl none) g' 0 0 := by
  refine x_contract (by decide) (fun _ => Nat.le_of_ble_eq_true rfl) ?_
  intro p e s m below meth c D ad ca X hno
  unfold f_S_take at hf
  refine v_aload_n X.1 d_S_take_0 rfl 0 rfl ?_
  refine v_get X.1 (ci := 4) ⟨in_S, rfl⟩ 6 rfl 4 (by decide) (X.t tw_147 rfl) rfl d_S_take_1 ?_
  refine v_aload_n X.1 d_S_take_4 rfl 0 rfl ?_
  refine v_get X.1 (ci := 4) ⟨in_S, rfl⟩ 6 rfl 0 (by decide) (X.t tw_139 rfl) rfl d_S_take_5 ?_
  refine v_iload_n X.1 d_S_take_8 rfl 1 rfl ?_
  obtain ⟨hb1, hf⟩ := oi_none hf
  refine v_iald X.1 8 0 rfl rfl hb1 d_S_take_9 ?_
  refine v_dup2 X.1 d_S_take_10 rfl rfl ?_
  obtain ⟨hb2, hf⟩ := oi_none hf
  refine v_iald X.1 12 0 rfl rfl hb2 d_S_take_11 ?_
  refine v_iload_n X.1 d_S_take_12 rfl 2 rfl ?_
  refine v_isub X.1 d_S_take_13 ?_
  obtain ⟨hb3, hf⟩ := oi_none hf
  obtain ⟨g4, eg5, hf⟩ := ob_some hf
  refine v_iast X.1 12 0 rfl rfl hb3 ((sa_11 ad ca _ _ _).trans (congrArg (wX ad ca) (Option.some.inj eg5))) d_S_take_14 ?_
  refine v_aload_n X.1 d_S_take_15 rfl 0 rfl ?_
  refine v_get X.1 (ci := 4) ⟨in_S, rfl⟩ 6 rfl 5 (by decide) (X.t tw_148 rfl) rfl d_S_take_16 ?_
  refine v_aload_n X.1 d_S_take_19 rfl 0 rfl ?_
  refine v_get X.1 (ci := 4) ⟨in_S, rfl⟩ 6 rfl 1 (by decide) (X.t tw_141 rfl) rfl d_S_take_20 ?_
  refine v_iload_n X.1 d_S_take_23 rfl 1 rfl ?_
  obtain ⟨hb6, hf⟩ := oi_none hf
  refine v_iald X.1 9 0 rfl rfl hb6 d_S_take_24 ?_
  refine v_dup2 X.1 d_S_take_25 rfl rfl ?_
  obtain ⟨hb7, hf⟩ := oi_none hf
  refine v_iald X.1 13 0 rfl rfl hb7 d_S_take_26 ?_
  refine v_iload_n X.1 d_S_take_27 rfl 2 rfl ?_
  refine v_isub X.1 d_S_take_28 ?_
  obtain ⟨hb8, hf⟩ := oi_none hf
  obtain ⟨g9, eg10, hf⟩ := ob_some hf
  refine v_iast X.1 13 0 rfl rfl hb8 ((sa_12 ad ca _ _ _).trans (congrArg (wX ad ca) (Option.some.inj eg10))) d_S_take_29 ?_
  refine v_aload_n X.1 d_S_take_30 rfl 0 rfl ?_
  refine v_get X.1 (ci := 4) ⟨in_S, rfl⟩ 6 rfl 6 (by decide) (X.t tw_149 rfl) rfl d_S_take_31 ?_
  refine v_iload_n X.1 d_S_take_34 rfl 1 rfl ?_
  refine v_iload_n X.1 d_S_take_35 rfl 2 rfl ?_
  obtain ⟨hb11, hf⟩ := oi_none hf
  obtain ⟨g12, eg13, hf⟩ := ob_some hf
  refine v_iast X.1 14 0 rfl rfl hb11 ((sa_13 ad ca _ _ _).trans (congrArg (wX ad ca) (Option.some.inj eg13))) d_S_take_36 ?_
  refine v_aload_n X.1 d_S_take_37 rfl 0 rfl ?_
  refine v_dup X.1 d_S_take_38 rfl ?_
  refine v_get X.1 (ci := 4) ⟨in_S, rfl⟩ 6 rfl 10 (by decide) (X.t tw_156 rfl) rfl d_S_take_39 ?_
  refine v_aload_n X.1 d_S_take_42 rfl 0 rfl ?_
  refine v_iload_n X.1 d_S_take_43 rfl 1 rfl ?_
  obtain ⟨r15, g16, hc14, hf⟩ := ob2_some hf
  refine v_backI X.1 (x_runV X (c_S_touchesBy l p1 _ _ _ hc14) rfl tw_542 tw_55 tw_539 tw_541 tw_23 6 4 rfl rfl rfl ⟨rfl, rfl, by decide, by decide⟩ ⟨by decide, by show _ = some 1; decide⟩ (rest := [.int (g12 17 0), .ref (ad 6)]) rfl (Nat.le_of_ble_eq_true rfl) d_S_take_44 (by decide) (by decide)) ?_
  refine v_iadd X.1 d_S_take_47 ?_
  obtain ⟨g17, eg18, hf⟩ := ob_some hf
  refine v_put X.1 (ci := 4) ⟨in_S, rfl⟩ 6 rfl 10 (by decide) ⟨ty_S_ok, nm_S⟩ (X.t tw_156 rfl) rfl (ty := .int) (by decide +kernel) rfl rfl (Nat.le_of_ble_eq_true rfl) ((sw_17 ad ca _ _).trans (congrArg (wX ad ca) (Option.some.inj eg18))) d_S_take_48 ?_
  cases hf
  exact v_vret X.1 X.2.2.1 d_S_take_51 X.2.2.2.1 (by decide) (by decide)

def f_S_putBack (p1 : Int32) (g : xSt) : Option (xSt) := (ob2 (f_S_touchesBy p1 g) (fun r2 g3 => (Option.bind (some (xw g3 17 0 ((g 17 0) - r2))) (fun g4 => (if p1 < 0 ∨ 64 ≤ p1.toNatClampNeg then none else (if (g4 7 p1.toNatClampNeg) < 0 ∨ 8 ≤ (g4 7 p1.toNatClampNeg).toNatClampNeg then none else (if p1 < 0 ∨ 64 ≤ p1.toNatClampNeg then none else (if (g4 7 p1.toNatClampNeg) < 0 ∨ 8 ≤ (g4 7 p1.toNatClampNeg).toNatClampNeg then none else (Option.bind (some (xw g4 11 (g4 7 p1.toNatClampNeg).toNatClampNeg ((g4 11 (g4 7 p1.toNatClampNeg).toNatClampNeg) + (g4 13 p1.toNatClampNeg)))) (fun g10 => (if p1 < 0 ∨ 64 ≤ p1.toNatClampNeg then none else (if (g10 8 p1.toNatClampNeg) < 0 ∨ 8 ≤ (g10 8 p1.toNatClampNeg).toNatClampNeg then none else (if p1 < 0 ∨ 64 ≤ p1.toNatClampNeg then none else (if (g10 8 p1.toNatClampNeg) < 0 ∨ 8 ≤ (g10 8 p1.toNatClampNeg).toNatClampNeg then none else (Option.bind (some (xw g10 12 (g10 8 p1.toNatClampNeg).toNatClampNeg ((g10 12 (g10 8 p1.toNatClampNeg).toNatClampNeg) + (g10 13 p1.toNatClampNeg)))) (fun g16 => (if p1 < 0 ∨ 64 ≤ p1.toNatClampNeg then none else (Option.bind (some (xw g16 13 p1.toNatClampNeg ((0 : Int32)))) (fun g19 => some g19)))))))))))))))))))

set_option maxRecDepth 100000 in
set_option maxHeartbeats 4000000 in
theorem c_S_putBack (l : Launch) (p1 : Int32) (g : xSt) (g' : xSt) (hf : f_S_putBack p1 g = some g') : xM l y_S_putBack (.code y_S_putBack b_S_putBack 2 none) ({ frames := 1, cells := 0, slots := 0, locals := 23 } : Room) (fun ad => [.ref (ad 6), .int p1]) g (.inl none) g' 0 0 := by
  refine x_contract (by decide) (fun _ => Nat.le_of_ble_eq_true rfl) ?_
  intro p e s m below meth c D ad ca X hno
  unfold f_S_putBack at hf
  refine v_aload_n X.1 d_S_putBack_0 rfl 0 rfl ?_
  refine v_dup X.1 d_S_putBack_1 rfl ?_
  refine v_get X.1 (ci := 4) ⟨in_S, rfl⟩ 6 rfl 10 (by decide) (X.t tw_156 rfl) rfl d_S_putBack_2 ?_
  refine v_aload_n X.1 d_S_putBack_5 rfl 0 rfl ?_
  refine v_iload_n X.1 d_S_putBack_6 rfl 1 rfl ?_
  obtain ⟨r2, g3, hc1, hf⟩ := ob2_some hf
  refine v_backI X.1 (x_runV X (c_S_touchesBy l p1 _ _ _ hc1) rfl tw_542 tw_55 tw_539 tw_541 tw_23 6 4 rfl rfl rfl ⟨rfl, rfl, by decide, by decide⟩ ⟨by decide, by show _ = some 1; decide⟩ (rest := [.int (g 17 0), .ref (ad 6)]) rfl (Nat.le_of_ble_eq_true rfl) d_S_putBack_7 (by decide) (by decide)) ?_
  refine v_isub X.1 d_S_putBack_10 ?_
  obtain ⟨g4, eg5, hf⟩ := ob_some hf
  refine v_put X.1 (ci := 4) ⟨in_S, rfl⟩ 6 rfl 10 (by decide) ⟨ty_S_ok, nm_S⟩ (X.t tw_156 rfl) rfl (ty := .int) (by decide +kernel) rfl rfl (Nat.le_of_ble_eq_true rfl) ((sw_17 ad ca _ _).trans (congrArg (wX ad ca) (Option.some.inj eg5))) d_S_putBack_11 ?_
  refine v_aload_n X.1 d_S_putBack_14 rfl 0 rfl ?_
  refine v_get X.1 (ci := 4) ⟨in_S, rfl⟩ 6 rfl 4 (by decide) (X.t tw_147 rfl) rfl d_S_putBack_15 ?_
  refine v_aload_n X.1 d_S_putBack_18 rfl 0 rfl ?_
  refine v_get X.1 (ci := 4) ⟨in_S, rfl⟩ 6 rfl 0 (by decide) (X.t tw_139 rfl) rfl d_S_putBack_19 ?_
  refine v_iload_n X.1 d_S_putBack_22 rfl 1 rfl ?_
  obtain ⟨hb6, hf⟩ := oi_none hf
  refine v_iald X.1 8 0 rfl rfl hb6 d_S_putBack_23 ?_
  refine v_dup2 X.1 d_S_putBack_24 rfl rfl ?_
  obtain ⟨hb7, hf⟩ := oi_none hf
  refine v_iald X.1 12 0 rfl rfl hb7 d_S_putBack_25 ?_
  refine v_aload_n X.1 d_S_putBack_26 rfl 0 rfl ?_
  refine v_get X.1 (ci := 4) ⟨in_S, rfl⟩ 6 rfl 6 (by decide) (X.t tw_149 rfl) rfl d_S_putBack_27 ?_
  refine v_iload_n X.1 d_S_putBack_30 rfl 1 rfl ?_
  obtain ⟨hb8, hf⟩ := oi_none hf
  refine v_iald X.1 14 0 rfl rfl hb8 d_S_putBack_31 ?_
  refine v_iadd X.1 d_S_putBack_32 ?_
  obtain ⟨hb9, hf⟩ := oi_none hf
  obtain ⟨g10, eg11, hf⟩ := ob_some hf
  refine v_iast X.1 12 0 rfl rfl hb9 ((sa_11 ad ca _ _ _).trans (congrArg (wX ad ca) (Option.some.inj eg11))) d_S_putBack_33 ?_
  refine v_aload_n X.1 d_S_putBack_34 rfl 0 rfl ?_
  refine v_get X.1 (ci := 4) ⟨in_S, rfl⟩ 6 rfl 5 (by decide) (X.t tw_148 rfl) rfl d_S_putBack_35 ?_
  refine v_aload_n X.1 d_S_putBack_38 rfl 0 rfl ?_
  refine v_get X.1 (ci := 4) ⟨in_S, rfl⟩ 6 rfl 1 (by decide) (X.t tw_141 rfl) rfl d_S_putBack_39 ?_
  refine v_iload_n X.1 d_S_putBack_42 rfl 1 rfl ?_
  obtain ⟨hb12, hf⟩ := oi_none hf
  refine v_iald X.1 9 0 rfl rfl hb12 d_S_putBack_43 ?_
  refine v_dup2 X.1 d_S_putBack_44 rfl rfl ?_
  obtain ⟨hb13, hf⟩ := oi_none hf
  refine v_iald X.1 13 0 rfl rfl hb13 d_S_putBack_45 ?_
  refine v_aload_n X.1 d_S_putBack_46 rfl 0 rfl ?_
  refine v_get X.1 (ci := 4) ⟨in_S, rfl⟩ 6 rfl 6 (by decide) (X.t tw_149 rfl) rfl d_S_putBack_47 ?_
  refine v_iload_n X.1 d_S_putBack_50 rfl 1 rfl ?_
  obtain ⟨hb14, hf⟩ := oi_none hf
  refine v_iald X.1 14 0 rfl rfl hb14 d_S_putBack_51 ?_
  refine v_iadd X.1 d_S_putBack_52 ?_
  obtain ⟨hb15, hf⟩ := oi_none hf
  obtain ⟨g16, eg17, hf⟩ := ob_some hf
  refine v_iast X.1 13 0 rfl rfl hb15 ((sa_12 ad ca _ _ _).trans (congrArg (wX ad ca) (Option.some.inj eg17))) d_S_putBack_53 ?_
  refine v_aload_n X.1 d_S_putBack_54 rfl 0 rfl ?_
  refine v_get X.1 (ci := 4) ⟨in_S, rfl⟩ 6 rfl 6 (by decide) (X.t tw_149 rfl) rfl d_S_putBack_55 ?_
  refine v_iload_n X.1 d_S_putBack_58 rfl 1 rfl ?_
  refine v_iconst X.1 (v := (0 : Int32)) d_S_putBack_59 (by decide) ?_
  obtain ⟨hb18, hf⟩ := oi_none hf
  obtain ⟨g19, eg20, hf⟩ := ob_some hf
  refine v_iast X.1 14 0 rfl rfl hb18 ((sa_13 ad ca _ _ _).trans (congrArg (wX ad ca) (Option.some.inj eg20))) d_S_putBack_60 ?_
  cases hf
  exact v_vret X.1 X.2.2.1 d_S_putBack_61 X.2.2.2.1 (by decide) (by decide)

def f_S_backToUntried_L2 (fu : Nat) (p1 : Int32) : Nat → Int32 → xSt → Option (Int32 × xSt)
  | 0, _, _ => none
  | n + 1, a2, g => (if a2 < 0 then some ((-1 : Int32), g) else (Option.bind (f_S_putBack a2 g) (fun g4 => (if a2 < 0 ∨ 64 ≤ a2.toNatClampNeg then none else (if (g4 14 a2.toNatClampNeg) < 0 then f_S_backToUntried_L2 fu p1 n (a2 + (-1 : Int32)) g4 else some (a2, g4))))))

def f_S_backToUntried (fu : Nat) (p1 : Int32) (g : xSt) : Option (Int32 × xSt) := f_S_backToUntried_L2 fu p1 fu p1 g

set_option maxRecDepth 100000 in
set_option maxHeartbeats 4000000 in
theorem l_S_backToUntried_L2 {p : Program} {e : Env} {s : State} {m : MethodId} {below : List Frame} {meth : Method} {c : Code} {D : va_G} {ad : Nat → Nat} {ca : Nat → ClassId} (l : Launch) (fu : Nat) (p1 : Int32) (X : xX p s m ([.ref (ad 6), .int p1] : List Value).toArray meth c b_S_backToUntried "CrossDock$Search" 3 (some .int) D ad ca) (hno : c.exceptionTable.toList = []) : ∀ (n : Nat) (a2 : Int32) (g : xSt) (r : Int32) (g' : xSt), f_S_backToUntried_L2 fu p1 n a2 g = some (r, g') → xV p l e ({ frames := 2, cells := 0, slots := 0, locals := 44 } : Room) s m ([.ref (ad 6), .int p1] : List Value).toArray below meth c D xcl (wX ad ca) (xA (wX ad ca) s.heap.size) 3 0 0 (xMQ below (xQ D xcl (wX ad ca) (xA (wX ad ca) s.heap.size) (.inl (some (.int r))) g') ([.ref (ad 6), .int p1] : List Value).toArray s 0 0 (xA (wX ad ca) s.heap.size)) g 2 [(2, .int a2), (0, .ref (ad 6)), (1, .int p1)] [] := by
  intro n
  induction n with
  | zero =>
    intro a2 g r g' hf
    rw [f_S_backToUntried_L2] at hf
    cases hf
  | succ n ih =>
    intro a2 g r g' hf
    rw [f_S_backToUntried_L2] at hf
    refine v_iload_n X.1 d_S_backToUntried_2 rfl 0 rfl ?_
    refine v_if_lt X.1 (tgt := 28) d_S_backToUntried_3 (by decide) (fun c1 => ?_) (fun c1 => ?_)
    · rw [if_pos c1] at hf
      refine v_iconst X.1 (v := (-1 : Int32)) d_S_backToUntried_28 (by decide) ?_
      cases hf
      exact v_iret X.1 X.2.2.1 rfl d_S_backToUntried_29 X.2.2.2.1 (by decide) (by decide)
    · rw [if_neg c1] at hf
      refine v_aload_n X.1 d_S_backToUntried_6 rfl 1 rfl ?_
      refine v_iload_n X.1 d_S_backToUntried_7 rfl 0 rfl ?_
      obtain ⟨g4, hc2, hf⟩ := ob_some hf
      refine v_backV X.1 (x_runV X (c_S_putBack l a2 _ _ hc2) rfl tw_538 tw_55 tw_535 tw_537 tw_22 6 4 rfl rfl rfl ⟨rfl, rfl, by decide, by decide⟩ ⟨by decide, by show _ = some 1; decide⟩ (rest := []) rfl (Nat.le_of_ble_eq_true rfl) d_S_backToUntried_8 (by decide) (by decide)) ?_
      refine v_aload_n X.1 d_S_backToUntried_11 rfl 1 rfl ?_
      refine v_get X.1 (ci := 4) ⟨in_S, rfl⟩ 6 rfl 7 (by decide) (X.t tw_150 rfl) rfl d_S_backToUntried_12 ?_
      refine v_iload_n X.1 d_S_backToUntried_15 rfl 0 rfl ?_
      obtain ⟨hb5, hf⟩ := oi_none hf
      refine v_iald X.1 15 0 rfl rfl hb5 d_S_backToUntried_16 ?_
      refine v_if_lt X.1 (tgt := 22) d_S_backToUntried_17 (by decide) (fun c6 => ?_) (fun c6 => ?_)
      · rw [if_pos c6] at hf
        refine v_iinc X.1 (k0 := 0) (v := a2 + (-1 : Int32)) (lv' := [(2, .int (a2 + (-1 : Int32))), (0, .ref (ad 6)), (1, .int p1)]) d_S_backToUntried_22 rfl rfl (by decide) rfl ?_
        refine v_goto X.1 (tgt := 2) d_S_backToUntried_25 (by decide) ?_
        refine v_sub [0, 1, 2] rfl ?_
        exact ih _ _ _ _ hf
      · rw [if_neg c6] at hf
        refine v_iload_n X.1 d_S_backToUntried_20 rfl 0 rfl ?_
        cases hf
        exact v_iret X.1 X.2.2.1 rfl d_S_backToUntried_21 X.2.2.2.1 (by decide) (by decide)

set_option maxRecDepth 100000 in
set_option maxHeartbeats 4000000 in
theorem c_S_backToUntried (l : Launch) (fu : Nat) (p1 : Int32) (g : xSt) (r : Int32) (g' : xSt) (hf : f_S_backToUntried fu p1 g = some (r, g')) : xM l y_S_backToUntried (.code y_S_backToUntried b_S_backToUntried 3 (some .int)) ({ frames := 2, cells := 0, slots := 0, locals := 44 } : Room) (fun ad => [.ref (ad 6), .int p1]) g (.inl (some (.int r))) g' 0 0 := by
  refine x_contract (by decide) (fun _ => Nat.le_of_ble_eq_true rfl) ?_
  intro p e s m below meth c D ad ca X hno
  unfold f_S_backToUntried at hf
  refine v_iload_n X.1 d_S_backToUntried_0 rfl 1 rfl ?_
  refine v_istore_n X.1 (lv' := [(2, .int p1), (0, .ref (ad 6)), (1, .int p1)]) d_S_backToUntried_1 rfl (by decide) rfl ?_
  exact l_S_backToUntried_L2 l fu p1 X hno fu _ _ _ _ hf

def f_S_putAllBack_L32 (fu : Nat) : Nat → Int32 → xSt → Option (Int32 × xSt)
  | 0, _, _ => none
  | n + 1, a1, g => (if (g 16 0) ≤ a1 then some (a1, g) else (if a1 < 0 ∨ 64 ≤ a1.toNatClampNeg then none else (Option.bind (some (xw g 13 a1.toNatClampNeg ((0 : Int32)))) (fun g9 => f_S_putAllBack_L32 fu n (a1 + (1 : Int32)) g9))))

def f_S_putAllBack (fu : Nat) (g : xSt) : Option (xSt) := (if ((8 : Int32)) < 0 ∨ 8 < ((8 : Int32)).toNatClampNeg ∨ 8 < ((8 : Int32)).toNatClampNeg then none else (Option.bind (some (va_up g 11 (va_cpy (g 9) (g 11) 0 0 ((8 : Int32)).toNatClampNeg))) (fun g2 => (if ((8 : Int32)) < 0 ∨ 8 < ((8 : Int32)).toNatClampNeg ∨ 8 < ((8 : Int32)).toNatClampNeg then none else (Option.bind (some (va_up g2 12 (va_cpy (g2 10) (g2 12) 0 0 ((8 : Int32)).toNatClampNeg))) (fun g5 => (ob2 (f_S_putAllBack_L32 fu fu ((0 : Int32)) g5) (fun x11 g12 => (Option.bind (some (xw g12 17 0 ((0 : Int32)))) (fun g14 => some g14))))))))))

set_option maxRecDepth 100000 in
set_option maxHeartbeats 4000000 in
theorem l_S_putAllBack_L32 {p : Program} {e : Env} {s : State} {m : MethodId} {below : List Frame} {meth : Method} {c : Code} {D : va_G} {ad : Nat → Nat} {ca : Nat → ClassId} (l : Launch) (fu : Nat) (X : xX p s m ([.ref (ad 6)] : List Value).toArray meth c b_S_putAllBack "CrossDock$Search" 2 none D ad ca) (hno : c.exceptionTable.toList = []) {Q : State → Prop} : ∀ (n : Nat) (a1 : Int32) (g : xSt) (a1' : Int32) (g' : xSt), f_S_putAllBack_L32 fu n a1 g = some (a1', g') → xV p l e ({ frames := 1, cells := 0, slots := 0, locals := 38 } : Room) s m ([.ref (ad 6)] : List Value).toArray below meth c D xcl (wX ad ca) (xA (wX ad ca) s.heap.size) 2 0 0 Q g' 53 [(1, .int a1'), (0, .ref (ad 6))] [] → xV p l e ({ frames := 1, cells := 0, slots := 0, locals := 38 } : Room) s m ([.ref (ad 6)] : List Value).toArray below meth c D xcl (wX ad ca) (xA (wX ad ca) s.heap.size) 2 0 0 Q g 32 [(1, .int a1), (0, .ref (ad 6))] [] := by
  intro n
  induction n with
  | zero =>
    intro a1 g a1' g' hf
    rw [f_S_putAllBack_L32] at hf
    cases hf
  | succ n ih =>
    intro a1 g a1' g' hf hk
    rw [f_S_putAllBack_L32] at hf
    refine v_iload_n X.1 d_S_putAllBack_32 rfl 0 rfl ?_
    refine v_aload_n X.1 d_S_putAllBack_33 rfl 1 rfl ?_
    refine v_get X.1 (ci := 4) ⟨in_S, rfl⟩ 6 rfl 9 (by decide) (X.t tw_153 rfl) rfl d_S_putAllBack_34 ?_
    refine v_icmp_ge X.1 (tgt := 53) d_S_putAllBack_37 (by decide) (fun c7 => ?_) (fun c7 => ?_)
    · rw [if_pos c7] at hf
      cases hf
      refine v_sub [0, 1] rfl ?_
      exact hk
    · rw [if_neg c7] at hf
      refine v_aload_n X.1 d_S_putAllBack_40 rfl 1 rfl ?_
      refine v_get X.1 (ci := 4) ⟨in_S, rfl⟩ 6 rfl 6 (by decide) (X.t tw_149 rfl) rfl d_S_putAllBack_41 ?_
      refine v_iload_n X.1 d_S_putAllBack_44 rfl 0 rfl ?_
      refine v_iconst X.1 (v := (0 : Int32)) d_S_putAllBack_45 (by decide) ?_
      obtain ⟨hb8, hf⟩ := oi_none hf
      obtain ⟨g9, eg10, hf⟩ := ob_some hf
      refine v_iast X.1 14 0 rfl rfl hb8 ((sa_13 ad ca _ _ _).trans (congrArg (wX ad ca) (Option.some.inj eg10))) d_S_putAllBack_46 ?_
      refine v_iinc X.1 (k0 := 0) (v := a1 + (1 : Int32)) (lv' := [(1, .int (a1 + (1 : Int32))), (0, .ref (ad 6))]) d_S_putAllBack_47 rfl rfl (by decide) rfl ?_
      refine v_goto X.1 (tgt := 32) d_S_putAllBack_50 (by decide) ?_
      refine v_sub [0, 1] rfl ?_
      exact ih _ _ _ _ hf hk

set_option maxRecDepth 100000 in
set_option maxHeartbeats 4000000 in
theorem c_S_putAllBack (l : Launch) (fu : Nat) (g : xSt) (g' : xSt) (hf : f_S_putAllBack fu g = some g') : xM l y_S_putAllBack (.code y_S_putAllBack b_S_putAllBack 2 none) ({ frames := 1, cells := 0, slots := 0, locals := 38 } : Room) (fun ad => [.ref (ad 6)]) g (.inl none) g' 0 0 := by
  refine x_contract (by decide) (fun _ => Nat.le_of_ble_eq_true rfl) ?_
  intro p e s m below meth c D ad ca X hno
  unfold f_S_putAllBack at hf
  refine v_aload_n X.1 d_S_putAllBack_0 rfl 0 rfl ?_
  refine v_get X.1 (ci := 4) ⟨in_S, rfl⟩ 6 rfl 2 (by decide) (X.t tw_143 rfl) rfl d_S_putAllBack_1 ?_
  refine v_iconst X.1 (v := (0 : Int32)) d_S_putAllBack_4 (by decide) ?_
  refine v_aload_n X.1 d_S_putAllBack_5 rfl 0 rfl ?_
  refine v_get X.1 (ci := 4) ⟨in_S, rfl⟩ 6 rfl 4 (by decide) (X.t tw_147 rfl) rfl d_S_putAllBack_6 ?_
  refine v_iconst X.1 (v := (0 : Int32)) d_S_putAllBack_9 (by decide) ?_
  refine v_bipush X.1 (v := (8 : Int32)) d_S_putAllBack_10 (by decide) ?_
  obtain ⟨hb1, hf⟩ := oi_none hf
  obtain ⟨g2, eg3, hf⟩ := ob_some hf
  refine v_copy X tw_521 tw_523 tw_522 tw_65 10 12 rfl rfl hb1 ((sf_11 ad ca _ _).trans (congrArg (wX ad ca) (Option.some.inj eg3))) ⟨by decide, Nat.le_of_ble_eq_true rfl⟩ d_S_putAllBack_12 ?_
  refine v_aload_n X.1 d_S_putAllBack_15 rfl 0 rfl ?_
  refine v_get X.1 (ci := 4) ⟨in_S, rfl⟩ 6 rfl 3 (by decide) (X.t tw_145 rfl) rfl d_S_putAllBack_16 ?_
  refine v_iconst X.1 (v := (0 : Int32)) d_S_putAllBack_19 (by decide) ?_
  refine v_aload_n X.1 d_S_putAllBack_20 rfl 0 rfl ?_
  refine v_get X.1 (ci := 4) ⟨in_S, rfl⟩ 6 rfl 5 (by decide) (X.t tw_148 rfl) rfl d_S_putAllBack_21 ?_
  refine v_iconst X.1 (v := (0 : Int32)) d_S_putAllBack_24 (by decide) ?_
  refine v_bipush X.1 (v := (8 : Int32)) d_S_putAllBack_25 (by decide) ?_
  obtain ⟨hb4, hf⟩ := oi_none hf
  obtain ⟨g5, eg6, hf⟩ := ob_some hf
  refine v_copy X tw_521 tw_523 tw_522 tw_65 11 13 rfl rfl hb4 ((sf_12 ad ca _ _).trans (congrArg (wX ad ca) (Option.some.inj eg6))) ⟨by decide, Nat.le_of_ble_eq_true rfl⟩ d_S_putAllBack_27 ?_
  refine v_iconst X.1 (v := (0 : Int32)) d_S_putAllBack_30 (by decide) ?_
  refine v_istore_n X.1 (lv' := [(1, .int ((0 : Int32))), (0, .ref (ad 6))]) d_S_putAllBack_31 rfl (by decide) rfl ?_
  obtain ⟨x11, g12, hL13, hf⟩ := ob2_some hf
  refine l_S_putAllBack_L32 l fu X hno fu _ _ _ _ hL13 ?_
  refine v_aload_n X.1 d_S_putAllBack_53 rfl 1 rfl ?_
  refine v_iconst X.1 (v := (0 : Int32)) d_S_putAllBack_54 (by decide) ?_
  obtain ⟨g14, eg15, hf⟩ := ob_some hf
  refine v_put X.1 (ci := 4) ⟨in_S, rfl⟩ 6 rfl 10 (by decide) ⟨ty_S_ok, nm_S⟩ (X.t tw_156 rfl) rfl (ty := .int) (by decide +kernel) rfl rfl (Nat.le_of_ble_eq_true rfl) ((sw_17 ad ca _ _).trans (congrArg (wX ad ca) (Option.some.inj eg15))) d_S_putAllBack_55 ?_
  cases hf
  exact v_vret X.1 X.2.2.1 d_S_putAllBack_58 X.2.2.2.1 (by decide) (by decide)

def f_S_chooseIfBetter (g : xSt) : Option (xSt) := (if (g 17 0) ≤ (g 18 0) then some g else (Option.bind (some (xw g 18 0 (g 17 0))) (fun g2 => (if (g2 16 0) < 0 ∨ 64 < (g2 16 0).toNatClampNeg ∨ 64 < (g2 16 0).toNatClampNeg then none else (Option.bind (some (va_up g2 15 (va_cpy (g2 13) (g2 15) 0 0 (g2 16 0).toNatClampNeg))) (fun g5 => some g5))))))

set_option maxRecDepth 100000 in
set_option maxHeartbeats 4000000 in
theorem c_S_chooseIfBetter (l : Launch) (g : xSt) (g' : xSt) (hf : f_S_chooseIfBetter g = some g') : xM l y_S_chooseIfBetter (.code y_S_chooseIfBetter b_S_chooseIfBetter 1 none) ({ frames := 1, cells := 0, slots := 0, locals := 38 } : Room) (fun ad => [.ref (ad 6)]) g (.inl none) g' 0 0 := by
  refine x_contract (by decide) (fun _ => Nat.le_of_ble_eq_true rfl) ?_
  intro p e s m below meth c D ad ca X hno
  unfold f_S_chooseIfBetter at hf
  refine v_aload_n X.1 d_S_chooseIfBetter_0 rfl 0 rfl ?_
  refine v_get X.1 (ci := 4) ⟨in_S, rfl⟩ 6 rfl 10 (by decide) (X.t tw_156 rfl) rfl d_S_chooseIfBetter_1 ?_
  refine v_aload_n X.1 d_S_chooseIfBetter_4 rfl 0 rfl ?_
  refine v_get X.1 (ci := 4) ⟨in_S, rfl⟩ 6 rfl 11 (by decide) (X.t tw_157 rfl) rfl d_S_chooseIfBetter_5 ?_
  refine v_icmp_le X.1 (tgt := 36) d_S_chooseIfBetter_8 (by decide) (fun c1 => ?_) (fun c1 => ?_)
  · rw [if_pos c1] at hf
    cases hf
    exact v_vret X.1 X.2.2.1 d_S_chooseIfBetter_36 X.2.2.2.1 (by decide) (by decide)
  · rw [if_neg c1] at hf
    refine v_aload_n X.1 d_S_chooseIfBetter_11 rfl 0 rfl ?_
    refine v_aload_n X.1 d_S_chooseIfBetter_12 rfl 0 rfl ?_
    refine v_get X.1 (ci := 4) ⟨in_S, rfl⟩ 6 rfl 10 (by decide) (X.t tw_156 rfl) rfl d_S_chooseIfBetter_13 ?_
    obtain ⟨g2, eg3, hf⟩ := ob_some hf
    refine v_put X.1 (ci := 4) ⟨in_S, rfl⟩ 6 rfl 11 (by decide) ⟨ty_S_ok, nm_S⟩ (X.t tw_157 rfl) rfl (ty := .int) (by decide +kernel) rfl rfl (Nat.le_of_ble_eq_true rfl) ((sw_18 ad ca _ _).trans (congrArg (wX ad ca) (Option.some.inj eg3))) d_S_chooseIfBetter_16 ?_
    refine v_aload_n X.1 d_S_chooseIfBetter_19 rfl 0 rfl ?_
    refine v_get X.1 (ci := 4) ⟨in_S, rfl⟩ 6 rfl 6 (by decide) (X.t tw_149 rfl) rfl d_S_chooseIfBetter_20 ?_
    refine v_iconst X.1 (v := (0 : Int32)) d_S_chooseIfBetter_23 (by decide) ?_
    refine v_aload_n X.1 d_S_chooseIfBetter_24 rfl 0 rfl ?_
    refine v_get X.1 (ci := 4) ⟨in_S, rfl⟩ 6 rfl 8 (by decide) (X.t tw_151 rfl) rfl d_S_chooseIfBetter_25 ?_
    refine v_iconst X.1 (v := (0 : Int32)) d_S_chooseIfBetter_28 (by decide) ?_
    refine v_aload_n X.1 d_S_chooseIfBetter_29 rfl 0 rfl ?_
    refine v_get X.1 (ci := 4) ⟨in_S, rfl⟩ 6 rfl 9 (by decide) (X.t tw_153 rfl) rfl d_S_chooseIfBetter_30 ?_
    obtain ⟨hb4, hf⟩ := oi_none hf
    obtain ⟨g5, eg6, hf⟩ := ob_some hf
    refine v_copy X tw_521 tw_523 tw_522 tw_65 14 16 rfl rfl hb4 ((sf_15 ad ca _ _).trans (congrArg (wX ad ca) (Option.some.inj eg6))) ⟨by decide, Nat.le_of_ble_eq_true rfl⟩ d_S_chooseIfBetter_33 ?_
    cases hf
    exact v_vret X.1 X.2.2.1 d_S_chooseIfBetter_36 X.2.2.2.1 (by decide) (by decide)

def f_S_addPair (p1 : Int32) (p2 : Int32) (g : xSt) : Option (xSt) := (if ((64 : Int32)) ≤ (g 16 0) then some g else (if (g 16 0) < 0 ∨ 64 ≤ (g 16 0).toNatClampNeg then none else (Option.bind (some (xw g 7 (g 16 0).toNatClampNeg p1)) (fun g3 => (if (g3 16 0) < 0 ∨ 64 ≤ (g3 16 0).toNatClampNeg then none else (Option.bind (some (xw g3 8 (g3 16 0).toNatClampNeg p2)) (fun g6 => (Option.bind (some (xw g6 16 0 ((g6 16 0) + ((1 : Int32))))) (fun g8 => some g8)))))))))

set_option maxRecDepth 100000 in
set_option maxHeartbeats 4000000 in
theorem c_S_addPair (l : Launch) (p1 : Int32) (p2 : Int32) (g : xSt) (g' : xSt) (hf : f_S_addPair p1 p2 g = some g') : xM l y_S_addPair (.code y_S_addPair b_S_addPair 3 none) ({ frames := 0, cells := 0, slots := 0, locals := 0 } : Room) (fun ad => [.ref (ad 6), .int p1, .int p2]) g (.inl none) g' 0 0 := by
  refine x_contract (by decide) (fun _ => Nat.le_of_ble_eq_true rfl) ?_
  intro p e s m below meth c D ad ca X hno
  unfold f_S_addPair at hf
  refine v_aload_n X.1 d_S_addPair_0 rfl 0 rfl ?_
  refine v_get X.1 (ci := 4) ⟨in_S, rfl⟩ 6 rfl 9 (by decide) (X.t tw_153 rfl) rfl d_S_addPair_1 ?_
  refine v_bipush X.1 (v := (64 : Int32)) d_S_addPair_4 (by decide) ?_
  refine v_icmp_ge X.1 (tgt := 39) d_S_addPair_6 (by decide) (fun c1 => ?_) (fun c1 => ?_)
  · rw [if_pos c1] at hf
    cases hf
    exact v_vret X.1 X.2.2.1 d_S_addPair_39 X.2.2.2.1 (by decide) (by decide)
  · rw [if_neg c1] at hf
    refine v_aload_n X.1 d_S_addPair_9 rfl 0 rfl ?_
    refine v_get X.1 (ci := 4) ⟨in_S, rfl⟩ 6 rfl 0 (by decide) (X.t tw_139 rfl) rfl d_S_addPair_10 ?_
    refine v_aload_n X.1 d_S_addPair_13 rfl 0 rfl ?_
    refine v_get X.1 (ci := 4) ⟨in_S, rfl⟩ 6 rfl 9 (by decide) (X.t tw_153 rfl) rfl d_S_addPair_14 ?_
    refine v_iload_n X.1 d_S_addPair_17 rfl 1 rfl ?_
    obtain ⟨hb2, hf⟩ := oi_none hf
    obtain ⟨g3, eg4, hf⟩ := ob_some hf
    refine v_iast X.1 8 0 rfl rfl hb2 ((sa_7 ad ca _ _ _).trans (congrArg (wX ad ca) (Option.some.inj eg4))) d_S_addPair_18 ?_
    refine v_aload_n X.1 d_S_addPair_19 rfl 0 rfl ?_
    refine v_get X.1 (ci := 4) ⟨in_S, rfl⟩ 6 rfl 1 (by decide) (X.t tw_141 rfl) rfl d_S_addPair_20 ?_
    refine v_aload_n X.1 d_S_addPair_23 rfl 0 rfl ?_
    refine v_get X.1 (ci := 4) ⟨in_S, rfl⟩ 6 rfl 9 (by decide) (X.t tw_153 rfl) rfl d_S_addPair_24 ?_
    refine v_iload_n X.1 d_S_addPair_27 rfl 2 rfl ?_
    obtain ⟨hb5, hf⟩ := oi_none hf
    obtain ⟨g6, eg7, hf⟩ := ob_some hf
    refine v_iast X.1 9 0 rfl rfl hb5 ((sa_8 ad ca _ _ _).trans (congrArg (wX ad ca) (Option.some.inj eg7))) d_S_addPair_28 ?_
    refine v_aload_n X.1 d_S_addPair_29 rfl 0 rfl ?_
    refine v_dup X.1 d_S_addPair_30 rfl ?_
    refine v_get X.1 (ci := 4) ⟨in_S, rfl⟩ 6 rfl 9 (by decide) (X.t tw_153 rfl) rfl d_S_addPair_31 ?_
    refine v_iconst X.1 (v := (1 : Int32)) d_S_addPair_34 (by decide) ?_
    refine v_iadd X.1 d_S_addPair_35 ?_
    obtain ⟨g8, eg9, hf⟩ := ob_some hf
    refine v_put X.1 (ci := 4) ⟨in_S, rfl⟩ 6 rfl 9 (by decide) ⟨ty_S_ok, nm_S⟩ (X.t tw_153 rfl) rfl (ty := .int) (by decide +kernel) rfl rfl (Nat.le_of_ble_eq_true rfl) ((sw_16 ad ca _ _).trans (congrArg (wX ad ca) (Option.some.inj eg9))) d_S_addPair_36 ?_
    cases hf
    exact v_vret X.1 X.2.2.1 d_S_addPair_39 X.2.2.2.1 (by decide) (by decide)

def f_S_chooseByRule_L6 (fu : Nat) : Nat → Int32 → xSt → Option (Int32 × xSt)
  | 0, _, _ => none
  | n + 1, a1, g => (if (g 16 0) ≤ a1 then some (a1, g) else (ob2 (f_S_greatest a1 g) (fun r6 g7 => (Option.bind (f_S_take a1 r6 g7) (fun g10 => (if a1 < 0 ∨ 64 ≤ a1.toNatClampNeg then none else (if a1 < 0 ∨ 64 ≤ a1.toNatClampNeg then none else (Option.bind (some (xw g10 15 a1.toNatClampNeg (g10 13 a1.toNatClampNeg))) (fun g13 => f_S_chooseByRule_L6 fu n (a1 + (1 : Int32)) g13)))))))))

def f_S_chooseByRule (fu : Nat) (g : xSt) : Option (xSt) := (Option.bind (f_S_putAllBack fu g) (fun g3 => (ob2 (f_S_chooseByRule_L6 fu fu ((0 : Int32)) g3) (fun x15 g16 => some g16))))

set_option maxRecDepth 100000 in
set_option maxHeartbeats 4000000 in
theorem l_S_chooseByRule_L6 {p : Program} {e : Env} {s : State} {m : MethodId} {below : List Frame} {meth : Method} {c : Code} {D : va_G} {ad : Nat → Nat} {ca : Nat → ClassId} (l : Launch) (fu : Nat) (X : xX p s m ([.ref (ad 6)] : List Value).toArray meth c b_S_chooseByRule "CrossDock$Search" 2 none D ad ca) (hno : c.exceptionTable.toList = []) {Q : State → Prop} : ∀ (n : Nat) (a1 : Int32) (g : xSt) (a1' : Int32) (g' : xSt), f_S_chooseByRule_L6 fu n a1 g = some (a1', g') → xV p l e ({ frames := 2, cells := 0, slots := 0, locals := 59 } : Room) s m ([.ref (ad 6)] : List Value).toArray below meth c D xcl (wX ad ca) (xA (wX ad ca) s.heap.size) 2 0 0 Q g' 42 [(1, .int a1'), (0, .ref (ad 6))] [] → xV p l e ({ frames := 2, cells := 0, slots := 0, locals := 59 } : Room) s m ([.ref (ad 6)] : List Value).toArray below meth c D xcl (wX ad ca) (xA (wX ad ca) s.heap.size) 2 0 0 Q g 6 [(1, .int a1), (0, .ref (ad 6))] [] := by
  intro n
  induction n with
  | zero =>
    intro a1 g a1' g' hf
    rw [f_S_chooseByRule_L6] at hf
    cases hf
  | succ n ih =>
    intro a1 g a1' g' hf hk
    rw [f_S_chooseByRule_L6] at hf
    refine v_iload_n X.1 d_S_chooseByRule_6 rfl 0 rfl ?_
    refine v_aload_n X.1 d_S_chooseByRule_7 rfl 1 rfl ?_
    refine v_get X.1 (ci := 4) ⟨in_S, rfl⟩ 6 rfl 9 (by decide) (X.t tw_153 rfl) rfl d_S_chooseByRule_8 ?_
    refine v_icmp_ge X.1 (tgt := 42) d_S_chooseByRule_11 (by decide) (fun c4 => ?_) (fun c4 => ?_)
    · rw [if_pos c4] at hf
      cases hf
      refine v_sub [0, 1] rfl ?_
      exact hk
    · rw [if_neg c4] at hf
      refine v_aload_n X.1 d_S_chooseByRule_14 rfl 1 rfl ?_
      refine v_iload_n X.1 d_S_chooseByRule_15 rfl 0 rfl ?_
      refine v_aload_n X.1 d_S_chooseByRule_16 rfl 1 rfl ?_
      refine v_iload_n X.1 d_S_chooseByRule_17 rfl 0 rfl ?_
      obtain ⟨r6, g7, hc5, hf⟩ := ob2_some hf
      refine v_backI X.1 (x_runV X (c_S_greatest l a1 _ _ _ hc5) rfl tw_527 tw_55 tw_524 tw_526 tw_20 6 4 rfl rfl rfl ⟨rfl, rfl, by decide, by decide⟩ ⟨by decide, by show _ = some 1; decide⟩ (rest := [.int a1, .ref (ad 6)]) rfl (Nat.le_of_ble_eq_true rfl) d_S_chooseByRule_18 (by decide) (by decide)) ?_
      obtain ⟨g10, hc8, hf⟩ := ob_some hf
      refine v_backV X.1 (x_runV X (c_S_take l a1 r6 _ _ hc8) rfl tw_546 tw_55 tw_543 tw_545 tw_24 6 4 rfl rfl rfl ⟨rfl, rfl, by decide, by decide⟩ ⟨by decide, by show _ = some 2; decide⟩ (rest := []) rfl (Nat.le_of_ble_eq_true rfl) d_S_chooseByRule_21 (by decide) (by decide)) ?_
      refine v_aload_n X.1 d_S_chooseByRule_24 rfl 1 rfl ?_
      refine v_get X.1 (ci := 4) ⟨in_S, rfl⟩ 6 rfl 8 (by decide) (X.t tw_151 rfl) rfl d_S_chooseByRule_25 ?_
      refine v_iload_n X.1 d_S_chooseByRule_28 rfl 0 rfl ?_
      refine v_aload_n X.1 d_S_chooseByRule_29 rfl 1 rfl ?_
      refine v_get X.1 (ci := 4) ⟨in_S, rfl⟩ 6 rfl 6 (by decide) (X.t tw_149 rfl) rfl d_S_chooseByRule_30 ?_
      refine v_iload_n X.1 d_S_chooseByRule_33 rfl 0 rfl ?_
      obtain ⟨hb11, hf⟩ := oi_none hf
      refine v_iald X.1 14 0 rfl rfl hb11 d_S_chooseByRule_34 ?_
      obtain ⟨hb12, hf⟩ := oi_none hf
      obtain ⟨g13, eg14, hf⟩ := ob_some hf
      refine v_iast X.1 16 0 rfl rfl hb12 ((sa_15 ad ca _ _ _).trans (congrArg (wX ad ca) (Option.some.inj eg14))) d_S_chooseByRule_35 ?_
      refine v_iinc X.1 (k0 := 0) (v := a1 + (1 : Int32)) (lv' := [(1, .int (a1 + (1 : Int32))), (0, .ref (ad 6))]) d_S_chooseByRule_36 rfl rfl (by decide) rfl ?_
      refine v_goto X.1 (tgt := 6) d_S_chooseByRule_39 (by decide) ?_
      refine v_sub [0, 1] rfl ?_
      exact ih _ _ _ _ hf hk

set_option maxRecDepth 100000 in
set_option maxHeartbeats 4000000 in
theorem c_S_chooseByRule (l : Launch) (fu : Nat) (g : xSt) (g' : xSt) (hf : f_S_chooseByRule fu g = some g') : xM l y_S_chooseByRule (.code y_S_chooseByRule b_S_chooseByRule 2 none) ({ frames := 2, cells := 0, slots := 0, locals := 59 } : Room) (fun ad => [.ref (ad 6)]) g (.inl none) g' 0 0 := by
  refine x_contract (by decide) (fun _ => Nat.le_of_ble_eq_true rfl) ?_
  intro p e s m below meth c D ad ca X hno
  unfold f_S_chooseByRule at hf
  refine v_aload_n X.1 d_S_chooseByRule_0 rfl 0 rfl ?_
  obtain ⟨g3, hc1, hf⟩ := ob_some hf
  refine v_backV X.1 (x_runV X (c_S_putAllBack l fu _ _ hc1) rfl tw_520 tw_55 tw_517 tw_519 tw_19 6 4 rfl rfl rfl ⟨rfl, rfl, by decide, by decide⟩ ⟨by decide, by show _ = some 0; decide⟩ (rest := []) rfl (Nat.le_of_ble_eq_true rfl) d_S_chooseByRule_1 (by decide) (by decide)) ?_
  refine v_iconst X.1 (v := (0 : Int32)) d_S_chooseByRule_4 (by decide) ?_
  refine v_istore_n X.1 (lv' := [(1, .int ((0 : Int32))), (0, .ref (ad 6))]) d_S_chooseByRule_5 rfl (by decide) rfl ?_
  obtain ⟨x15, g16, hL17, hf⟩ := ob2_some hf
  refine l_S_chooseByRule_L6 l fu X hno fu _ _ _ _ hL17 ?_
  cases hf
  exact v_vret X.1 X.2.2.1 d_S_chooseByRule_42 X.2.2.2.1 (by decide) (by decide)

def f_S_lookAtAll_L36 (fu : Nat) (p1 : Int32) : Nat → Int32 → xSt → Option (Int32 × xSt)
  | 0, _, _ => none
  | n + 1, a2, g => (if p1 ≤ (g 19 0) then (ob2 (f_S_backToUntried fu a2 g) (fun r11 g12 => (if 0 ≤ r11 then some ((0 : Int32), g12) else some ((1 : Int32), g12)))) else (ob2 (f_S_backToUntried fu a2 g) (fun r15 g16 => (if 0 ≤ r15 then (if r15 < 0 ∨ 64 ≤ r15.toNatClampNeg then none else (Option.bind (f_S_take r15 (g16 14 r15.toNatClampNeg) g16) (fun g21 => (if r15 < 0 ∨ 64 ≤ r15.toNatClampNeg then none else (if r15 < 0 ∨ 64 ≤ r15.toNatClampNeg then none else (Option.bind (some (xw g21 14 r15.toNatClampNeg ((g21 14 r15.toNatClampNeg) - ((1 : Int32))))) (fun g24 => (if (g24 16 0) ≤ (r15 + ((1 : Int32))) then (Option.bind (f_S_chooseIfBetter g24) (fun g29 => (Option.bind (some (xw g29 19 0 ((g29 19 0) + ((1 : Int32))))) (fun g30 => f_S_lookAtAll_L36 fu p1 n r15 g30)))) else (ob2 (f_S_greatest (r15 + (1 : Int32)) g24) (fun r33 g34 => (if (r15 + (1 : Int32)) < 0 ∨ 64 ≤ (r15 + (1 : Int32)).toNatClampNeg then none else (Option.bind (some (xw g34 14 (r15 + (1 : Int32)).toNatClampNeg r33)) (fun g36 => (Option.bind (some (xw g36 19 0 ((g36 19 0) + ((1 : Int32))))) (fun g38 => f_S_lookAtAll_L36 fu p1 n (r15 + (1 : Int32)) g38))))))))))))))) else some ((1 : Int32), g16)))))

def f_S_lookAtAll (fu : Nat) (p1 : Int32) (g : xSt) : Option (Int32 × xSt) := (Option.bind (f_S_putAllBack fu g) (fun g3 => (Option.bind (some (xw g3 18 0 ((-1 : Int32)))) (fun g4 => (if (g4 16 0) ≤ 0 then (Option.bind (some (xw g4 19 0 ((0 : Int32)))) (fun g7 => f_S_lookAtAll_L36 fu p1 fu ((-1 : Int32)) g7)) else (ob2 (f_S_greatest ((0 : Int32)) g4) (fun r41 g42 => (if ((0 : Int32)) < 0 ∨ 64 ≤ ((0 : Int32)).toNatClampNeg then none else (Option.bind (some (xw g42 14 ((0 : Int32)).toNatClampNeg r41)) (fun g44 => (Option.bind (some (xw g44 19 0 ((0 : Int32)))) (fun g46 => f_S_lookAtAll_L36 fu p1 fu ((0 : Int32)) g46))))))))))))

set_option maxRecDepth 100000 in
set_option maxHeartbeats 4000000 in
theorem l_S_lookAtAll_L36 {p : Program} {e : Env} {s : State} {m : MethodId} {below : List Frame} {meth : Method} {c : Code} {D : va_G} {ad : Nat → Nat} {ca : Nat → ClassId} (l : Launch) (fu : Nat) (p1 : Int32) (X : xX p s m ([.ref (ad 6), .int p1] : List Value).toArray meth c b_S_lookAtAll "CrossDock$Search" 3 (some .boolean) D ad ca) (hno : c.exceptionTable.toList = []) : ∀ (n : Nat) (a2 : Int32) (g : xSt) (r : Int32) (g' : xSt), f_S_lookAtAll_L36 fu p1 n a2 g = some (r, g') → xV p l e ({ frames := 3, cells := 0, slots := 0, locals := 66 } : Room) s m ([.ref (ad 6), .int p1] : List Value).toArray below meth c D xcl (wX ad ca) (xA (wX ad ca) s.heap.size) 3 0 0 (xMQ below (xQ D xcl (wX ad ca) (xA (wX ad ca) s.heap.size) (.inl (some (.int r))) g') ([.ref (ad 6), .int p1] : List Value).toArray s 0 0 (xA (wX ad ca) s.heap.size)) g 36 [(2, .int a2), (0, .ref (ad 6)), (1, .int p1)] [] := by
  intro n
  induction n with
  | zero =>
    intro a2 g r g' hf
    rw [f_S_lookAtAll_L36] at hf
    cases hf
  | succ n ih =>
    intro a2 g r g' hf
    rw [f_S_lookAtAll_L36] at hf
    refine v_aload_n X.1 d_S_lookAtAll_36 rfl 1 rfl ?_
    refine v_get X.1 (ci := 4) ⟨in_S, rfl⟩ 6 rfl 12 (by decide) (X.t tw_158 rfl) rfl d_S_lookAtAll_37 ?_
    refine v_iload_n X.1 d_S_lookAtAll_40 rfl 2 rfl ?_
    refine v_icmp_ge X.1 (tgt := 121) d_S_lookAtAll_41 (by decide) (fun c9 => ?_) (fun c9 => ?_)
    · rw [if_pos c9] at hf
      refine v_aload_n X.1 d_S_lookAtAll_121 rfl 1 rfl ?_
      refine v_iload_n X.1 d_S_lookAtAll_122 rfl 0 rfl ?_
      obtain ⟨r11, g12, hc10, hf⟩ := ob2_some hf
      refine v_backI X.1 (x_runV X (c_S_backToUntried l fu a2 _ _ _ hc10) rfl tw_534 tw_55 tw_531 tw_533 tw_21 6 4 rfl rfl rfl ⟨rfl, rfl, by decide, by decide⟩ ⟨by decide, by show _ = some 1; decide⟩ (rest := []) rfl (Nat.le_of_ble_eq_true rfl) d_S_lookAtAll_123 (by decide) (by decide)) ?_
      refine v_if_ge X.1 (tgt := 133) d_S_lookAtAll_126 (by decide) (fun c13 => ?_) (fun c13 => ?_)
      · rw [if_pos c13] at hf
        refine v_iconst X.1 (v := (0 : Int32)) d_S_lookAtAll_133 (by decide) ?_
        cases hf
        exact v_iret X.1 X.2.2.1 rfl d_S_lookAtAll_134 X.2.2.2.1 (by decide) (by decide)
      · rw [if_neg c13] at hf
        refine v_iconst X.1 (v := (1 : Int32)) d_S_lookAtAll_129 (by decide) ?_
        refine v_goto X.1 (tgt := 134) d_S_lookAtAll_130 (by decide) ?_
        cases hf
        exact v_iret X.1 X.2.2.1 rfl d_S_lookAtAll_134 X.2.2.2.1 (by decide) (by decide)
    · rw [if_neg c9] at hf
      refine v_aload_n X.1 d_S_lookAtAll_44 rfl 1 rfl ?_
      refine v_iload_n X.1 d_S_lookAtAll_45 rfl 0 rfl ?_
      obtain ⟨r15, g16, hc14, hf⟩ := ob2_some hf
      refine v_backI X.1 (x_runV X (c_S_backToUntried l fu a2 _ _ _ hc14) rfl tw_534 tw_55 tw_531 tw_533 tw_21 6 4 rfl rfl rfl ⟨rfl, rfl, by decide, by decide⟩ ⟨by decide, by show _ = some 1; decide⟩ (rest := []) rfl (Nat.le_of_ble_eq_true rfl) d_S_lookAtAll_46 (by decide) (by decide)) ?_
      refine v_istore_n X.1 (lv' := [(2, .int r15), (0, .ref (ad 6)), (1, .int p1)]) d_S_lookAtAll_49 rfl (by decide) rfl ?_
      refine v_iload_n X.1 d_S_lookAtAll_50 rfl 0 rfl ?_
      refine v_if_ge X.1 (tgt := 56) d_S_lookAtAll_51 (by decide) (fun c17 => ?_) (fun c17 => ?_)
      · rw [if_pos c17] at hf
        refine v_aload_n X.1 d_S_lookAtAll_56 rfl 1 rfl ?_
        refine v_iload_n X.1 d_S_lookAtAll_57 rfl 0 rfl ?_
        refine v_aload_n X.1 d_S_lookAtAll_58 rfl 1 rfl ?_
        refine v_get X.1 (ci := 4) ⟨in_S, rfl⟩ 6 rfl 7 (by decide) (X.t tw_150 rfl) rfl d_S_lookAtAll_59 ?_
        refine v_iload_n X.1 d_S_lookAtAll_62 rfl 0 rfl ?_
        obtain ⟨hb18, hf⟩ := oi_none hf
        refine v_iald X.1 15 0 rfl rfl hb18 d_S_lookAtAll_63 ?_
        obtain ⟨g21, hc19, hf⟩ := ob_some hf
        refine v_backV X.1 (x_runV X (c_S_take l r15 (g16 14 r15.toNatClampNeg) _ _ hc19) rfl tw_546 tw_55 tw_543 tw_545 tw_24 6 4 rfl rfl rfl ⟨rfl, rfl, by decide, by decide⟩ ⟨by decide, by show _ = some 2; decide⟩ (rest := []) rfl (Nat.le_of_ble_eq_true rfl) d_S_lookAtAll_64 (by decide) (by decide)) ?_
        refine v_aload_n X.1 d_S_lookAtAll_67 rfl 1 rfl ?_
        refine v_get X.1 (ci := 4) ⟨in_S, rfl⟩ 6 rfl 7 (by decide) (X.t tw_150 rfl) rfl d_S_lookAtAll_68 ?_
        refine v_iload_n X.1 d_S_lookAtAll_71 rfl 0 rfl ?_
        refine v_dup2 X.1 d_S_lookAtAll_72 rfl rfl ?_
        obtain ⟨hb22, hf⟩ := oi_none hf
        refine v_iald X.1 15 0 rfl rfl hb22 d_S_lookAtAll_73 ?_
        refine v_iconst X.1 (v := (1 : Int32)) d_S_lookAtAll_74 (by decide) ?_
        refine v_isub X.1 d_S_lookAtAll_75 ?_
        obtain ⟨hb23, hf⟩ := oi_none hf
        obtain ⟨g24, eg25, hf⟩ := ob_some hf
        refine v_iast X.1 15 0 rfl rfl hb23 ((sa_14 ad ca _ _ _).trans (congrArg (wX ad ca) (Option.some.inj eg25))) d_S_lookAtAll_76 ?_
        refine v_iload_n X.1 d_S_lookAtAll_77 rfl 0 rfl ?_
        refine v_iconst X.1 (v := (1 : Int32)) d_S_lookAtAll_78 (by decide) ?_
        refine v_iadd X.1 d_S_lookAtAll_79 ?_
        refine v_aload_n X.1 d_S_lookAtAll_80 rfl 1 rfl ?_
        refine v_get X.1 (ci := 4) ⟨in_S, rfl⟩ 6 rfl 9 (by decide) (X.t tw_153 rfl) rfl d_S_lookAtAll_81 ?_
        refine v_icmp_ge X.1 (tgt := 104) d_S_lookAtAll_84 (by decide) (fun c26 => ?_) (fun c26 => ?_)
        · rw [if_pos c26] at hf
          refine v_aload_n X.1 d_S_lookAtAll_104 rfl 1 rfl ?_
          obtain ⟨g29, hc27, hf⟩ := ob_some hf
          refine v_backV X.1 (x_runV X (c_S_chooseIfBetter l _ _ hc27) rfl tw_550 tw_55 tw_547 tw_549 tw_25 6 4 rfl rfl rfl ⟨rfl, rfl, by decide, by decide⟩ ⟨by decide, by show _ = some 0; decide⟩ (rest := []) rfl (Nat.le_of_ble_eq_true rfl) d_S_lookAtAll_105 (by decide) (by decide)) ?_
          refine v_aload_n X.1 d_S_lookAtAll_108 rfl 1 rfl ?_
          refine v_dup X.1 d_S_lookAtAll_109 rfl ?_
          refine v_get X.1 (ci := 4) ⟨in_S, rfl⟩ 6 rfl 12 (by decide) (X.t tw_158 rfl) rfl d_S_lookAtAll_110 ?_
          refine v_iconst X.1 (v := (1 : Int32)) d_S_lookAtAll_113 (by decide) ?_
          refine v_iadd X.1 d_S_lookAtAll_114 ?_
          obtain ⟨g30, eg31, hf⟩ := ob_some hf
          refine v_put X.1 (ci := 4) ⟨in_S, rfl⟩ 6 rfl 12 (by decide) ⟨ty_S_ok, nm_S⟩ (X.t tw_158 rfl) rfl (ty := .int) (by decide +kernel) rfl rfl (Nat.le_of_ble_eq_true rfl) ((sw_19 ad ca _ _).trans (congrArg (wX ad ca) (Option.some.inj eg31))) d_S_lookAtAll_115 ?_
          refine v_goto X.1 (tgt := 36) d_S_lookAtAll_118 (by decide) ?_
          refine v_sub [0, 1, 2] rfl ?_
          exact ih _ _ _ _ hf
        · rw [if_neg c26] at hf
          refine v_iinc X.1 (k0 := 0) (v := r15 + (1 : Int32)) (lv' := [(2, .int (r15 + (1 : Int32))), (0, .ref (ad 6)), (1, .int p1)]) d_S_lookAtAll_87 rfl rfl (by decide) rfl ?_
          refine v_aload_n X.1 d_S_lookAtAll_90 rfl 1 rfl ?_
          refine v_get X.1 (ci := 4) ⟨in_S, rfl⟩ 6 rfl 7 (by decide) (X.t tw_150 rfl) rfl d_S_lookAtAll_91 ?_
          refine v_iload_n X.1 d_S_lookAtAll_94 rfl 0 rfl ?_
          refine v_aload_n X.1 d_S_lookAtAll_95 rfl 1 rfl ?_
          refine v_iload_n X.1 d_S_lookAtAll_96 rfl 0 rfl ?_
          obtain ⟨r33, g34, hc32, hf⟩ := ob2_some hf
          refine v_backI X.1 (x_runV X (c_S_greatest l (r15 + (1 : Int32)) _ _ _ hc32) rfl tw_527 tw_55 tw_524 tw_526 tw_20 6 4 rfl rfl rfl ⟨rfl, rfl, by decide, by decide⟩ ⟨by decide, by show _ = some 1; decide⟩ (rest := [.int (r15 + (1 : Int32)), .ref (ad 15)]) rfl (Nat.le_of_ble_eq_true rfl) d_S_lookAtAll_97 (by decide) (by decide)) ?_
          obtain ⟨hb35, hf⟩ := oi_none hf
          obtain ⟨g36, eg37, hf⟩ := ob_some hf
          refine v_iast X.1 15 0 rfl rfl hb35 ((sa_14 ad ca _ _ _).trans (congrArg (wX ad ca) (Option.some.inj eg37))) d_S_lookAtAll_100 ?_
          refine v_goto X.1 (tgt := 108) d_S_lookAtAll_101 (by decide) ?_
          refine v_aload_n X.1 d_S_lookAtAll_108 rfl 1 rfl ?_
          refine v_dup X.1 d_S_lookAtAll_109 rfl ?_
          refine v_get X.1 (ci := 4) ⟨in_S, rfl⟩ 6 rfl 12 (by decide) (X.t tw_158 rfl) rfl d_S_lookAtAll_110 ?_
          refine v_iconst X.1 (v := (1 : Int32)) d_S_lookAtAll_113 (by decide) ?_
          refine v_iadd X.1 d_S_lookAtAll_114 ?_
          obtain ⟨g38, eg39, hf⟩ := ob_some hf
          refine v_put X.1 (ci := 4) ⟨in_S, rfl⟩ 6 rfl 12 (by decide) ⟨ty_S_ok, nm_S⟩ (X.t tw_158 rfl) rfl (ty := .int) (by decide +kernel) rfl rfl (Nat.le_of_ble_eq_true rfl) ((sw_19 ad ca _ _).trans (congrArg (wX ad ca) (Option.some.inj eg39))) d_S_lookAtAll_115 ?_
          refine v_goto X.1 (tgt := 36) d_S_lookAtAll_118 (by decide) ?_
          refine v_sub [0, 1, 2] rfl ?_
          exact ih _ _ _ _ hf
      · rw [if_neg c17] at hf
        refine v_iconst X.1 (v := (1 : Int32)) d_S_lookAtAll_54 (by decide) ?_
        cases hf
        exact v_iret X.1 X.2.2.1 rfl d_S_lookAtAll_55 X.2.2.2.1 (by decide) (by decide)

set_option maxRecDepth 100000 in
set_option maxHeartbeats 4000000 in
theorem c_S_lookAtAll (l : Launch) (fu : Nat) (p1 : Int32) (g : xSt) (r : Int32) (g' : xSt) (hf : f_S_lookAtAll fu p1 g = some (r, g')) : xM l y_S_lookAtAll (.code y_S_lookAtAll b_S_lookAtAll 3 (some .boolean)) ({ frames := 3, cells := 0, slots := 0, locals := 66 } : Room) (fun ad => [.ref (ad 6), .int p1]) g (.inl (some (.int r))) g' 0 0 := by
  refine x_contract (by decide) (fun _ => Nat.le_of_ble_eq_true rfl) ?_
  intro p e s m below meth c D ad ca X hno
  unfold f_S_lookAtAll at hf
  refine v_aload_n X.1 d_S_lookAtAll_0 rfl 0 rfl ?_
  obtain ⟨g3, hc1, hf⟩ := ob_some hf
  refine v_backV X.1 (x_runV X (c_S_putAllBack l fu _ _ hc1) rfl tw_520 tw_55 tw_517 tw_519 tw_19 6 4 rfl rfl rfl ⟨rfl, rfl, by decide, by decide⟩ ⟨by decide, by show _ = some 0; decide⟩ (rest := []) rfl (Nat.le_of_ble_eq_true rfl) d_S_lookAtAll_1 (by decide) (by decide)) ?_
  refine v_aload_n X.1 d_S_lookAtAll_4 rfl 0 rfl ?_
  refine v_iconst X.1 (v := (-1 : Int32)) d_S_lookAtAll_5 (by decide) ?_
  obtain ⟨g4, eg5, hf⟩ := ob_some hf
  refine v_put X.1 (ci := 4) ⟨in_S, rfl⟩ 6 rfl 11 (by decide) ⟨ty_S_ok, nm_S⟩ (X.t tw_157 rfl) rfl (ty := .int) (by decide +kernel) rfl rfl (Nat.le_of_ble_eq_true rfl) ((sw_18 ad ca _ _).trans (congrArg (wX ad ca) (Option.some.inj eg5))) d_S_lookAtAll_6 ?_
  refine v_iconst X.1 (v := (-1 : Int32)) d_S_lookAtAll_9 (by decide) ?_
  refine v_istore_n X.1 (lv' := [(2, .int ((-1 : Int32))), (0, .ref (ad 6)), (1, .int p1)]) d_S_lookAtAll_10 rfl (by decide) rfl ?_
  refine v_aload_n X.1 d_S_lookAtAll_11 rfl 1 rfl ?_
  refine v_get X.1 (ci := 4) ⟨in_S, rfl⟩ 6 rfl 9 (by decide) (X.t tw_153 rfl) rfl d_S_lookAtAll_12 ?_
  refine v_if_le X.1 (tgt := 31) d_S_lookAtAll_15 (by decide) (fun c6 => ?_) (fun c6 => ?_)
  · rw [if_pos c6] at hf
    refine v_aload_n X.1 d_S_lookAtAll_31 rfl 1 rfl ?_
    refine v_iconst X.1 (v := (0 : Int32)) d_S_lookAtAll_32 (by decide) ?_
    obtain ⟨g7, eg8, hf⟩ := ob_some hf
    refine v_put X.1 (ci := 4) ⟨in_S, rfl⟩ 6 rfl 12 (by decide) ⟨ty_S_ok, nm_S⟩ (X.t tw_158 rfl) rfl (ty := .int) (by decide +kernel) rfl rfl (Nat.le_of_ble_eq_true rfl) ((sw_19 ad ca _ _).trans (congrArg (wX ad ca) (Option.some.inj eg8))) d_S_lookAtAll_33 ?_
    exact l_S_lookAtAll_L36 l fu p1 X hno fu _ _ _ _ hf
  · rw [if_neg c6] at hf
    refine v_iconst X.1 (v := (0 : Int32)) d_S_lookAtAll_18 (by decide) ?_
    refine v_istore_n X.1 (lv' := [(2, .int ((0 : Int32))), (0, .ref (ad 6)), (1, .int p1)]) d_S_lookAtAll_19 rfl (by decide) rfl ?_
    refine v_aload_n X.1 d_S_lookAtAll_20 rfl 1 rfl ?_
    refine v_get X.1 (ci := 4) ⟨in_S, rfl⟩ 6 rfl 7 (by decide) (X.t tw_150 rfl) rfl d_S_lookAtAll_21 ?_
    refine v_iconst X.1 (v := (0 : Int32)) d_S_lookAtAll_24 (by decide) ?_
    refine v_aload_n X.1 d_S_lookAtAll_25 rfl 1 rfl ?_
    refine v_iconst X.1 (v := (0 : Int32)) d_S_lookAtAll_26 (by decide) ?_
    obtain ⟨r41, g42, hc40, hf⟩ := ob2_some hf
    refine v_backI X.1 (x_runV X (c_S_greatest l ((0 : Int32)) _ _ _ hc40) rfl tw_527 tw_55 tw_524 tw_526 tw_20 6 4 rfl rfl rfl ⟨rfl, rfl, by decide, by decide⟩ ⟨by decide, by show _ = some 1; decide⟩ (rest := [.int ((0 : Int32)), .ref (ad 15)]) rfl (Nat.le_of_ble_eq_true rfl) d_S_lookAtAll_27 (by decide) (by decide)) ?_
    obtain ⟨hb43, hf⟩ := oi_none hf
    obtain ⟨g44, eg45, hf⟩ := ob_some hf
    refine v_iast X.1 15 0 rfl rfl hb43 ((sa_14 ad ca _ _ _).trans (congrArg (wX ad ca) (Option.some.inj eg45))) d_S_lookAtAll_30 ?_
    refine v_aload_n X.1 d_S_lookAtAll_31 rfl 1 rfl ?_
    refine v_iconst X.1 (v := (0 : Int32)) d_S_lookAtAll_32 (by decide) ?_
    obtain ⟨g46, eg47, hf⟩ := ob_some hf
    refine v_put X.1 (ci := 4) ⟨in_S, rfl⟩ 6 rfl 12 (by decide) ⟨ty_S_ok, nm_S⟩ (X.t tw_158 rfl) rfl (ty := .int) (by decide +kernel) rfl rfl (Nat.le_of_ble_eq_true rfl) ((sw_19 ad ca _ _).trans (congrArg (wX ad ca) (Option.some.inj eg47))) d_S_lookAtAll_33 ?_
    exact l_S_lookAtAll_L36 l fu p1 X hno fu _ _ _ _ hf

