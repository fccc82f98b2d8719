/-! the constructors, walked (printed by wip/whole/ctor.py) -/
set_option maxRecDepth 100000 in
theorem twO : lw_tbl[74]? = some (Cond.code Lib.objectInit ⟨#[0xb1]⟩ 1 none) := by decide +kernel
theorem yup0 (v : Nat) : va_up (fun _ => (none : Option Nat)) (0 : Int32).toNatClampNeg (some v) = fun j => ([v] : List Nat)[j]? := by
  funext j
  have hz : (0 : Int32).toNatClampNeg = 0 := rfl
  cases j <;> simp [va_up, hz]
theorem yup_n (L : List Nat) (v : Nat) : va_up (fun j => L[j]?) L.length (some v) = fun j => (L ++ [v])[j]? := by
  funext j
  by_cases h : j = L.length
  · subst h; simp [va_up]
  · rw [va_up_ne _ _ h]
    rcases Nat.lt_or_gt_of_ne h with h1 | h1
    · rw [List.getElem?_append_left h1]
    · rw [List.getElem?_eq_none (by omega), List.getElem?_eq_none (by rw [List.length_append]; simp; omega)]
theorem yup (L : List Nat) (v : Nat) {i : Int32} (hi : i.toNatClampNeg = L.length := by rfl) : va_up (fun j => L[j]?) i.toNatClampNeg (some v) = fun j => (L ++ [v])[j]? := by
  rw [hi]; exact yup_n L v
set_option maxRecDepth 100000 in
set_option maxHeartbeats 8000000 in
theorem c_A_init (l : Launch) (D : va_G) (ca : Nat → ClassId) (h0 : Nat) : yM l y_A_init b_A_init 1 ({ frames := 1, cells := 0, slots := 0, locals := 12 } : Room) h0 D ca [(h0, .inr (1, [.int 0, .int 0, .int 0, .int 0, .int 0, .int 0]))] (fun u => u = [(h0, .inr (1, [.int 0, .int 0, .int 0, .int 0, .int 0, .int 0]))]) 0 0 := by
  refine y_contract (by decide) (by decide) ?_
  intro p e s m below meth c C hT hO hin hr hlk
  refine v_aload_n C d_A_init_0 rfl 0 rfl ?_
  refine y_obj C tw_81 tw_73 twO d_A_init_1 (by decide) (Nat.le_of_ble_eq_true rfl) ?_
  exact y_vret C rfl hr hlk rfl d_A_init_4 (by decide) (by decide)
set_option maxRecDepth 100000 in
set_option maxHeartbeats 8000000 in
theorem c_O_init (l : Launch) (D : va_G) (ca : Nat → ClassId) (h0 : Nat) : yM l y_O_init b_O_init 1 ({ frames := 1, cells := 0, slots := 0, locals := 12 } : Room) h0 D ca [(h0, .inr (2, [.int 0, .int 0, .int 0, .int 0, .int 0, .int 0]))] (fun u => u = [(h0, .inr (2, [.int 0, .int 0, .int 0, .int 0, .int 0, .int 0]))]) 0 0 := by
  refine y_contract (by decide) (by decide) ?_
  intro p e s m below meth c C hT hO hin hr hlk
  refine v_aload_n C d_O_init_0 rfl 0 rfl ?_
  refine y_obj C tw_112 tw_73 twO d_O_init_1 (by decide) (Nat.le_of_ble_eq_true rfl) ?_
  exact y_vret C rfl hr hlk rfl d_O_init_4 (by decide) (by decide)
set_option maxRecDepth 100000 in
set_option maxHeartbeats 8000000 in
theorem c_P_init (l : Launch) (D : va_G) (ca : Nat → ClassId) (h0 : Nat) : yM l y_P_init b_P_init 1 ({ frames := 1, cells := 3, slots := 192, locals := 12 } : Room) h0 D ca [(h0, .inr (3, [.null, .null, .null, .int 0]))] (fun u => ∃ q1 q2 q3 : Nat, u = [(h0, .inr (3, [.ref q1, .ref q2, .ref q3, .int 0])), (q1, .inl (ca 0, 64, .inl (fun _ => 0))), (q2, .inl (ca 0, 64, .inl (fun _ => 0))), (q3, .inl (ca 0, 64, .inl (fun _ => 0)))]) 3 192 := by
  refine y_contract (by decide) (by decide) ?_
  intro p e s m below meth c C hT hO hin hr hlk
  refine v_aload_n C d_P_init_0 rfl 0 rfl ?_
  refine y_obj C tw_194 tw_73 twO d_P_init_1 (by decide) (Nat.le_of_ble_eq_true rfl) ?_
  refine v_aload_n C d_P_init_4 rfl 0 rfl ?_
  refine v_bipush C (v := (64 : Int32)) d_P_init_5 (by decide) ?_
  refine y_newa C (t0 := 0) (ty := .int) rfl (fun _ h => by cases h) tw_188 rfl (N' := 64) (a0 := (64, .inl (fun _ => 0))) (fun _ => rfl) (by decide) (by decide) (by decide) (by decide) (by decide) d_P_init_7 (fun q1 C => ?_)
  refine y_putF C hin (ci := 3) ⟨in_P, rfl⟩ ⟨ty_P_ok, nm_P⟩ 0 rfl 0 (by decide) tw_195 rfl rfl (ty := .array .int) (by decide +kernel) rfl rfl (Nat.le_of_ble_eq_true rfl) (ws' := [(h0, .inr (3, [.ref q1, .null, .null, .int 0])), (q1, .inl (ca 0, 64, .inl (fun _ => 0)))]) rfl d_P_init_9 (fun C => ?_)
  refine v_aload_n C d_P_init_12 rfl 0 rfl ?_
  refine v_bipush C (v := (64 : Int32)) d_P_init_13 (by decide) ?_
  refine y_newa C (t0 := 0) (ty := .int) rfl (fun _ h => by cases h) tw_188 rfl (N' := 64) (a0 := (64, .inl (fun _ => 0))) (fun _ => rfl) (by decide) (by decide) (by decide) (by decide) (by decide) d_P_init_15 (fun q2 C => ?_)
  refine y_putF C hin (ci := 3) ⟨in_P, rfl⟩ ⟨ty_P_ok, nm_P⟩ 0 rfl 1 (by decide) tw_197 rfl rfl (ty := .array .int) (by decide +kernel) rfl rfl (Nat.le_of_ble_eq_true rfl) (ws' := [(h0, .inr (3, [.ref q1, .ref q2, .null, .int 0])), (q1, .inl (ca 0, 64, .inl (fun _ => 0))), (q2, .inl (ca 0, 64, .inl (fun _ => 0)))]) rfl d_P_init_17 (fun C => ?_)
  refine v_aload_n C d_P_init_20 rfl 0 rfl ?_
  refine v_bipush C (v := (64 : Int32)) d_P_init_21 (by decide) ?_
  refine y_newa C (t0 := 0) (ty := .int) rfl (fun _ h => by cases h) tw_188 rfl (N' := 64) (a0 := (64, .inl (fun _ => 0))) (fun _ => rfl) (by decide) (by decide) (by decide) (by decide) (by decide) d_P_init_23 (fun q3 C => ?_)
  refine y_putF C hin (ci := 3) ⟨in_P, rfl⟩ ⟨ty_P_ok, nm_P⟩ 0 rfl 2 (by decide) tw_199 rfl rfl (ty := .array .int) (by decide +kernel) rfl rfl (Nat.le_of_ble_eq_true rfl) (ws' := [(h0, .inr (3, [.ref q1, .ref q2, .ref q3, .int 0])), (q1, .inl (ca 0, 64, .inl (fun _ => 0))), (q2, .inl (ca 0, 64, .inl (fun _ => 0))), (q3, .inl (ca 0, 64, .inl (fun _ => 0)))]) rfl d_P_init_25 (fun C => ?_)
  exact y_vret C rfl hr hlk ⟨q1, q2, q3, rfl⟩ d_P_init_28 (by decide) (by decide)
set_option maxRecDepth 100000 in
set_option maxHeartbeats 8000000 in
theorem c_S_init (l : Launch) (D : va_G) (ca : Nat → ClassId) (h0 : Nat) : yM l y_S_init b_S_init 1 ({ frames := 1, cells := 9, slots := 352, locals := 12 } : Room) h0 D ca [(h0, .inr (4, [.null, .null, .null, .null, .null, .null, .null, .null, .null, .int 0, .int 0, .int 0, .int 0]))] (fun u => ∃ q1 q2 q3 q4 q5 q6 q7 q8 q9 : Nat, u = [(h0, .inr (4, [.ref q1, .ref q2, .ref q3, .ref q4, .ref q5, .ref q6, .ref q7, .ref q8, .ref q9, .int 0, .int 0, .int 0, .int 0])), (q1, .inl (ca 0, 64, .inl (fun _ => 0))), (q2, .inl (ca 0, 64, .inl (fun _ => 0))), (q3, .inl (ca 0, 8, .inl (fun _ => 0))), (q4, .inl (ca 0, 8, .inl (fun _ => 0))), (q5, .inl (ca 0, 8, .inl (fun _ => 0))), (q6, .inl (ca 0, 8, .inl (fun _ => 0))), (q7, .inl (ca 0, 64, .inl (fun _ => 0))), (q8, .inl (ca 0, 64, .inl (fun _ => 0))), (q9, .inl (ca 0, 64, .inl (fun _ => 0)))]) 9 352 := by
  refine y_contract (by decide) (by decide) ?_
  intro p e s m below meth c C hT hO hin hr hlk
  refine v_aload_n C d_S_init_0 rfl 0 rfl ?_
  refine y_obj C tw_138 tw_73 twO d_S_init_1 (by decide) (Nat.le_of_ble_eq_true rfl) ?_
  refine v_aload_n C d_S_init_4 rfl 0 rfl ?_
  refine v_bipush C (v := (64 : Int32)) d_S_init_5 (by decide) ?_
  refine y_newa C (t0 := 0) (ty := .int) rfl (fun _ h => by cases h) tw_188 rfl (N' := 64) (a0 := (64, .inl (fun _ => 0))) (fun _ => rfl) (by decide) (by decide) (by decide) (by decide) (by decide) d_S_init_7 (fun q1 C => ?_)
  refine y_putF C hin (ci := 4) ⟨in_S, rfl⟩ ⟨ty_S_ok, nm_S⟩ 0 rfl 0 (by decide) tw_139 rfl rfl (ty := .array .int) (by decide +kernel) rfl rfl (Nat.le_of_ble_eq_true rfl) (ws' := [(h0, .inr (4, [.ref q1, .null, .null, .null, .null, .null, .null, .null, .null, .int 0, .int 0, .int 0, .int 0])), (q1, .inl (ca 0, 64, .inl (fun _ => 0)))]) rfl d_S_init_9 (fun C => ?_)
  refine v_aload_n C d_S_init_12 rfl 0 rfl ?_
  refine v_bipush C (v := (64 : Int32)) d_S_init_13 (by decide) ?_
  refine y_newa C (t0 := 0) (ty := .int) rfl (fun _ h => by cases h) tw_188 rfl (N' := 64) (a0 := (64, .inl (fun _ => 0))) (fun _ => rfl) (by decide) (by decide) (by decide) (by decide) (by decide) d_S_init_15 (fun q2 C => ?_)
  refine y_putF C hin (ci := 4) ⟨in_S, rfl⟩ ⟨ty_S_ok, nm_S⟩ 0 rfl 1 (by decide) tw_141 rfl rfl (ty := .array .int) (by decide +kernel) rfl rfl (Nat.le_of_ble_eq_true rfl) (ws' := [(h0, .inr (4, [.ref q1, .ref q2, .null, .null, .null, .null, .null, .null, .null, .int 0, .int 0, .int 0, .int 0])), (q1, .inl (ca 0, 64, .inl (fun _ => 0))), (q2, .inl (ca 0, 64, .inl (fun _ => 0)))]) rfl d_S_init_17 (fun C => ?_)
  refine v_aload_n C d_S_init_20 rfl 0 rfl ?_
  refine v_bipush C (v := (8 : Int32)) d_S_init_21 (by decide) ?_
  refine y_newa C (t0 := 0) (ty := .int) rfl (fun _ h => by cases h) tw_188 rfl (N' := 8) (a0 := (8, .inl (fun _ => 0))) (fun _ => rfl) (by decide) (by decide) (by decide) (by decide) (by decide) d_S_init_23 (fun q3 C => ?_)
  refine y_putF C hin (ci := 4) ⟨in_S, rfl⟩ ⟨ty_S_ok, nm_S⟩ 0 rfl 2 (by decide) tw_143 rfl rfl (ty := .array .int) (by decide +kernel) rfl rfl (Nat.le_of_ble_eq_true rfl) (ws' := [(h0, .inr (4, [.ref q1, .ref q2, .ref q3, .null, .null, .null, .null, .null, .null, .int 0, .int 0, .int 0, .int 0])), (q1, .inl (ca 0, 64, .inl (fun _ => 0))), (q2, .inl (ca 0, 64, .inl (fun _ => 0))), (q3, .inl (ca 0, 8, .inl (fun _ => 0)))]) rfl d_S_init_25 (fun C => ?_)
  refine v_aload_n C d_S_init_28 rfl 0 rfl ?_
  refine v_bipush C (v := (8 : Int32)) d_S_init_29 (by decide) ?_
  refine y_newa C (t0 := 0) (ty := .int) rfl (fun _ h => by cases h) tw_188 rfl (N' := 8) (a0 := (8, .inl (fun _ => 0))) (fun _ => rfl) (by decide) (by decide) (by decide) (by decide) (by decide) d_S_init_31 (fun q4 C => ?_)
  refine y_putF C hin (ci := 4) ⟨in_S, rfl⟩ ⟨ty_S_ok, nm_S⟩ 0 rfl 3 (by decide) tw_145 rfl rfl (ty := .array .int) (by decide +kernel) rfl rfl (Nat.le_of_ble_eq_true rfl) (ws' := [(h0, .inr (4, [.ref q1, .ref q2, .ref q3, .ref q4, .null, .null, .null, .null, .null, .int 0, .int 0, .int 0, .int 0])), (q1, .inl (ca 0, 64, .inl (fun _ => 0))), (q2, .inl (ca 0, 64, .inl (fun _ => 0))), (q3, .inl (ca 0, 8, .inl (fun _ => 0))), (q4, .inl (ca 0, 8, .inl (fun _ => 0)))]) rfl d_S_init_33 (fun C => ?_)
  refine v_aload_n C d_S_init_36 rfl 0 rfl ?_
  refine v_bipush C (v := (8 : Int32)) d_S_init_37 (by decide) ?_
  refine y_newa C (t0 := 0) (ty := .int) rfl (fun _ h => by cases h) tw_188 rfl (N' := 8) (a0 := (8, .inl (fun _ => 0))) (fun _ => rfl) (by decide) (by decide) (by decide) (by decide) (by decide) d_S_init_39 (fun q5 C => ?_)
  refine y_putF C hin (ci := 4) ⟨in_S, rfl⟩ ⟨ty_S_ok, nm_S⟩ 0 rfl 4 (by decide) tw_147 rfl rfl (ty := .array .int) (by decide +kernel) rfl rfl (Nat.le_of_ble_eq_true rfl) (ws' := [(h0, .inr (4, [.ref q1, .ref q2, .ref q3, .ref q4, .ref q5, .null, .null, .null, .null, .int 0, .int 0, .int 0, .int 0])), (q1, .inl (ca 0, 64, .inl (fun _ => 0))), (q2, .inl (ca 0, 64, .inl (fun _ => 0))), (q3, .inl (ca 0, 8, .inl (fun _ => 0))), (q4, .inl (ca 0, 8, .inl (fun _ => 0))), (q5, .inl (ca 0, 8, .inl (fun _ => 0)))]) rfl d_S_init_41 (fun C => ?_)
  refine v_aload_n C d_S_init_44 rfl 0 rfl ?_
  refine v_bipush C (v := (8 : Int32)) d_S_init_45 (by decide) ?_
  refine y_newa C (t0 := 0) (ty := .int) rfl (fun _ h => by cases h) tw_188 rfl (N' := 8) (a0 := (8, .inl (fun _ => 0))) (fun _ => rfl) (by decide) (by decide) (by decide) (by decide) (by decide) d_S_init_47 (fun q6 C => ?_)
  refine y_putF C hin (ci := 4) ⟨in_S, rfl⟩ ⟨ty_S_ok, nm_S⟩ 0 rfl 5 (by decide) tw_148 rfl rfl (ty := .array .int) (by decide +kernel) rfl rfl (Nat.le_of_ble_eq_true rfl) (ws' := [(h0, .inr (4, [.ref q1, .ref q2, .ref q3, .ref q4, .ref q5, .ref q6, .null, .null, .null, .int 0, .int 0, .int 0, .int 0])), (q1, .inl (ca 0, 64, .inl (fun _ => 0))), (q2, .inl (ca 0, 64, .inl (fun _ => 0))), (q3, .inl (ca 0, 8, .inl (fun _ => 0))), (q4, .inl (ca 0, 8, .inl (fun _ => 0))), (q5, .inl (ca 0, 8, .inl (fun _ => 0))), (q6, .inl (ca 0, 8, .inl (fun _ => 0)))]) rfl d_S_init_49 (fun C => ?_)
  refine v_aload_n C d_S_init_52 rfl 0 rfl ?_
  refine v_bipush C (v := (64 : Int32)) d_S_init_53 (by decide) ?_
  refine y_newa C (t0 := 0) (ty := .int) rfl (fun _ h => by cases h) tw_188 rfl (N' := 64) (a0 := (64, .inl (fun _ => 0))) (fun _ => rfl) (by decide) (by decide) (by decide) (by decide) (by decide) d_S_init_55 (fun q7 C => ?_)
  refine y_putF C hin (ci := 4) ⟨in_S, rfl⟩ ⟨ty_S_ok, nm_S⟩ 0 rfl 6 (by decide) tw_149 rfl rfl (ty := .array .int) (by decide +kernel) rfl rfl (Nat.le_of_ble_eq_true rfl) (ws' := [(h0, .inr (4, [.ref q1, .ref q2, .ref q3, .ref q4, .ref q5, .ref q6, .ref q7, .null, .null, .int 0, .int 0, .int 0, .int 0])), (q1, .inl (ca 0, 64, .inl (fun _ => 0))), (q2, .inl (ca 0, 64, .inl (fun _ => 0))), (q3, .inl (ca 0, 8, .inl (fun _ => 0))), (q4, .inl (ca 0, 8, .inl (fun _ => 0))), (q5, .inl (ca 0, 8, .inl (fun _ => 0))), (q6, .inl (ca 0, 8, .inl (fun _ => 0))), (q7, .inl (ca 0, 64, .inl (fun _ => 0)))]) rfl d_S_init_57 (fun C => ?_)
  refine v_aload_n C d_S_init_60 rfl 0 rfl ?_
  refine v_bipush C (v := (64 : Int32)) d_S_init_61 (by decide) ?_
  refine y_newa C (t0 := 0) (ty := .int) rfl (fun _ h => by cases h) tw_188 rfl (N' := 64) (a0 := (64, .inl (fun _ => 0))) (fun _ => rfl) (by decide) (by decide) (by decide) (by decide) (by decide) d_S_init_63 (fun q8 C => ?_)
  refine y_putF C hin (ci := 4) ⟨in_S, rfl⟩ ⟨ty_S_ok, nm_S⟩ 0 rfl 7 (by decide) tw_150 rfl rfl (ty := .array .int) (by decide +kernel) rfl rfl (Nat.le_of_ble_eq_true rfl) (ws' := [(h0, .inr (4, [.ref q1, .ref q2, .ref q3, .ref q4, .ref q5, .ref q6, .ref q7, .ref q8, .null, .int 0, .int 0, .int 0, .int 0])), (q1, .inl (ca 0, 64, .inl (fun _ => 0))), (q2, .inl (ca 0, 64, .inl (fun _ => 0))), (q3, .inl (ca 0, 8, .inl (fun _ => 0))), (q4, .inl (ca 0, 8, .inl (fun _ => 0))), (q5, .inl (ca 0, 8, .inl (fun _ => 0))), (q6, .inl (ca 0, 8, .inl (fun _ => 0))), (q7, .inl (ca 0, 64, .inl (fun _ => 0))), (q8, .inl (ca 0, 64, .inl (fun _ => 0)))]) rfl d_S_init_65 (fun C => ?_)
  refine v_aload_n C d_S_init_68 rfl 0 rfl ?_
  refine v_bipush C (v := (64 : Int32)) d_S_init_69 (by decide) ?_
  refine y_newa C (t0 := 0) (ty := .int) rfl (fun _ h => by cases h) tw_188 rfl (N' := 64) (a0 := (64, .inl (fun _ => 0))) (fun _ => rfl) (by decide) (by decide) (by decide) (by decide) (by decide) d_S_init_71 (fun q9 C => ?_)
  refine y_putF C hin (ci := 4) ⟨in_S, rfl⟩ ⟨ty_S_ok, nm_S⟩ 0 rfl 8 (by decide) tw_151 rfl rfl (ty := .array .int) (by decide +kernel) rfl rfl (Nat.le_of_ble_eq_true rfl) (ws' := [(h0, .inr (4, [.ref q1, .ref q2, .ref q3, .ref q4, .ref q5, .ref q6, .ref q7, .ref q8, .ref q9, .int 0, .int 0, .int 0, .int 0])), (q1, .inl (ca 0, 64, .inl (fun _ => 0))), (q2, .inl (ca 0, 64, .inl (fun _ => 0))), (q3, .inl (ca 0, 8, .inl (fun _ => 0))), (q4, .inl (ca 0, 8, .inl (fun _ => 0))), (q5, .inl (ca 0, 8, .inl (fun _ => 0))), (q6, .inl (ca 0, 8, .inl (fun _ => 0))), (q7, .inl (ca 0, 64, .inl (fun _ => 0))), (q8, .inl (ca 0, 64, .inl (fun _ => 0))), (q9, .inl (ca 0, 64, .inl (fun _ => 0)))]) rfl d_S_init_73 (fun C => ?_)
  exact y_vret C rfl hr hlk ⟨q1, q2, q3, q4, q5, q6, q7, q8, q9, rfl⟩ d_S_init_76 (by decide) (by decide)
