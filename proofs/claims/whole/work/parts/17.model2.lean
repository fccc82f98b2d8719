def f_M_arrive (p1 : Int32) (p2 : Int32) (p3 : Int32) (p4 : Int32) (g : xSt) : Option (Int32 × xSt) := (ob2 (f_M_in p1 ((0 : Int32)) ((7 : Int32)) g) (fun r2 g3 => (if r2 = 0 then (Option.bind (some (xw g3 40 0 ((1 : Int32)))) (fun g5 => (if (g5 40 0) ≤ 0 then (if (g5 41 0) < 0 ∨ 8 ≤ (g5 41 0).toNatClampNeg then none else (Option.bind (some (xw g5 47 (g5 41 0).toNatClampNeg p1)) (fun g9 => (if (g9 41 0) < 0 ∨ 8 ≤ (g9 41 0).toNatClampNeg then none else (Option.bind (some (xw g9 48 (g9 41 0).toNatClampNeg p2)) (fun g12 => (if (g12 41 0) < 0 ∨ 8 ≤ (g12 41 0).toNatClampNeg then none else (Option.bind (some (xw g12 49 (g12 41 0).toNatClampNeg p3)) (fun g15 => (if (g15 41 0) < 0 ∨ 8 ≤ (g15 41 0).toNatClampNeg then none else (Option.bind (some (xw g15 50 (g15 41 0).toNatClampNeg p4)) (fun g18 => (Option.bind (some (xw g18 41 0 ((g18 41 0) + ((1 : Int32))))) (fun g20 => some ((g20 41 0) - ((1 : Int32)), g20))))))))))))))) else some ((0 : Int32), g5)))) else (ob2 (f_M_in p2 ((0 : Int32)) ((9 : Int32)) g3) (fun r23 g24 => (if r23 = 0 then (Option.bind (some (xw g24 40 0 ((1 : Int32)))) (fun g26 => (if (g26 40 0) ≤ 0 then (if (g26 41 0) < 0 ∨ 8 ≤ (g26 41 0).toNatClampNeg then none else (Option.bind (some (xw g26 47 (g26 41 0).toNatClampNeg p1)) (fun g30 => (if (g30 41 0) < 0 ∨ 8 ≤ (g30 41 0).toNatClampNeg then none else (Option.bind (some (xw g30 48 (g30 41 0).toNatClampNeg p2)) (fun g33 => (if (g33 41 0) < 0 ∨ 8 ≤ (g33 41 0).toNatClampNeg then none else (Option.bind (some (xw g33 49 (g33 41 0).toNatClampNeg p3)) (fun g36 => (if (g36 41 0) < 0 ∨ 8 ≤ (g36 41 0).toNatClampNeg then none else (Option.bind (some (xw g36 50 (g36 41 0).toNatClampNeg p4)) (fun g39 => (Option.bind (some (xw g39 41 0 ((g39 41 0) + ((1 : Int32))))) (fun g41 => some ((g41 41 0) - ((1 : Int32)), g41))))))))))))))) else some ((0 : Int32), g26)))) else (ob2 (f_M_in p3 ((0 : Int32)) ((1000 : Int32)) g24) (fun r44 g45 => (if r44 = 0 then (Option.bind (some (xw g45 40 0 ((1 : Int32)))) (fun g47 => (if (g47 40 0) ≤ 0 then (if (g47 41 0) < 0 ∨ 8 ≤ (g47 41 0).toNatClampNeg then none else (Option.bind (some (xw g47 47 (g47 41 0).toNatClampNeg p1)) (fun g51 => (if (g51 41 0) < 0 ∨ 8 ≤ (g51 41 0).toNatClampNeg then none else (Option.bind (some (xw g51 48 (g51 41 0).toNatClampNeg p2)) (fun g54 => (if (g54 41 0) < 0 ∨ 8 ≤ (g54 41 0).toNatClampNeg then none else (Option.bind (some (xw g54 49 (g54 41 0).toNatClampNeg p3)) (fun g57 => (if (g57 41 0) < 0 ∨ 8 ≤ (g57 41 0).toNatClampNeg then none else (Option.bind (some (xw g57 50 (g57 41 0).toNatClampNeg p4)) (fun g60 => (Option.bind (some (xw g60 41 0 ((g60 41 0) + ((1 : Int32))))) (fun g62 => some ((g62 41 0) - ((1 : Int32)), g62))))))))))))))) else some ((0 : Int32), g47)))) else (ob2 (f_M_in p4 ((1 : Int32)) ((6 : Int32)) g45) (fun r65 g66 => (if r65 = 0 then (Option.bind (some (xw g66 40 0 ((1 : Int32)))) (fun g103 => (if (g103 40 0) ≤ 0 then (if (g103 41 0) < 0 ∨ 8 ≤ (g103 41 0).toNatClampNeg then none else (Option.bind (some (xw g103 47 (g103 41 0).toNatClampNeg p1)) (fun g107 => (if (g107 41 0) < 0 ∨ 8 ≤ (g107 41 0).toNatClampNeg then none else (Option.bind (some (xw g107 48 (g107 41 0).toNatClampNeg p2)) (fun g110 => (if (g110 41 0) < 0 ∨ 8 ≤ (g110 41 0).toNatClampNeg then none else (Option.bind (some (xw g110 49 (g110 41 0).toNatClampNeg p3)) (fun g113 => (if (g113 41 0) < 0 ∨ 8 ≤ (g113 41 0).toNatClampNeg then none else (Option.bind (some (xw g113 50 (g113 41 0).toNatClampNeg p4)) (fun g116 => (Option.bind (some (xw g116 41 0 ((g116 41 0) + ((1 : Int32))))) (fun g118 => some ((g118 41 0) - ((1 : Int32)), g118))))))))))))))) else some ((0 : Int32), g103)))) else (if (g66 41 0) = ((8 : Int32)) then (Option.bind (some (xw g66 40 0 ((2 : Int32)))) (fun g86 => (if (g86 40 0) ≤ 0 then (if (g86 41 0) < 0 ∨ 8 ≤ (g86 41 0).toNatClampNeg then none else (Option.bind (some (xw g86 47 (g86 41 0).toNatClampNeg p1)) (fun g90 => (if (g90 41 0) < 0 ∨ 8 ≤ (g90 41 0).toNatClampNeg then none else (Option.bind (some (xw g90 48 (g90 41 0).toNatClampNeg p2)) (fun g93 => (if (g93 41 0) < 0 ∨ 8 ≤ (g93 41 0).toNatClampNeg then none else (Option.bind (some (xw g93 49 (g93 41 0).toNatClampNeg p3)) (fun g96 => (if (g96 41 0) < 0 ∨ 8 ≤ (g96 41 0).toNatClampNeg then none else (Option.bind (some (xw g96 50 (g96 41 0).toNatClampNeg p4)) (fun g99 => (Option.bind (some (xw g99 41 0 ((g99 41 0) + ((1 : Int32))))) (fun g101 => some ((g101 41 0) - ((1 : Int32)), g101))))))))))))))) else some ((0 : Int32), g86)))) else (Option.bind (some (xw g66 40 0 ((0 : Int32)))) (fun g69 => (if (g69 40 0) ≤ 0 then (if (g69 41 0) < 0 ∨ 8 ≤ (g69 41 0).toNatClampNeg then none else (Option.bind (some (xw g69 47 (g69 41 0).toNatClampNeg p1)) (fun g73 => (if (g73 41 0) < 0 ∨ 8 ≤ (g73 41 0).toNatClampNeg then none else (Option.bind (some (xw g73 48 (g73 41 0).toNatClampNeg p2)) (fun g76 => (if (g76 41 0) < 0 ∨ 8 ≤ (g76 41 0).toNatClampNeg then none else (Option.bind (some (xw g76 49 (g76 41 0).toNatClampNeg p3)) (fun g79 => (if (g79 41 0) < 0 ∨ 8 ≤ (g79 41 0).toNatClampNeg then none else (Option.bind (some (xw g79 50 (g79 41 0).toNatClampNeg p4)) (fun g82 => (Option.bind (some (xw g82 41 0 ((g82 41 0) + ((1 : Int32))))) (fun g84 => some ((g84 41 0) - ((1 : Int32)), g84))))))))))))))) else some ((0 : Int32), g69)))))))))))))))))

set_option maxRecDepth 100000 in
set_option maxHeartbeats 4000000 in
theorem c_M_arrive (l : Launch) (p1 : Int32) (p2 : Int32) (p3 : Int32) (p4 : Int32) (g : xSt) (r : Int32) (g' : xSt) (hf : f_M_arrive p1 p2 p3 p4 g = some (r, g')) : xM l y_M_arrive (.code y_M_arrive b_M_arrive 5 (some .int)) ({ frames := 1, cells := 0, slots := 0, locals := 22 } : Room) (fun ad => [.ref (ad 36), .int p1, .int p2, .int p3, .int p4]) g (.inl (some (.int r))) g' 0 0 := by
  refine x_contract (by decide) (fun _ => Nat.le_of_ble_eq_true rfl) ?_
  intro p e s m below meth c D ad ca X hno
  unfold f_M_arrive at hf
  refine v_aload_n X.1 d_M_arrive_0 rfl 0 rfl ?_
  refine v_iload_n X.1 d_M_arrive_1 rfl 1 rfl ?_
  refine v_iconst X.1 (v := (0 : Int32)) d_M_arrive_2 (by decide) ?_
  refine v_bipush X.1 (v := (7 : Int32)) d_M_arrive_3 (by decide) ?_
  obtain ⟨r2, g3, hc1, hf⟩ := ob2_some hf
  refine v_backI X.1 (x_runS X (c_M_in l p1 ((0 : Int32)) ((7 : Int32)) _ _ _ hc1) tw_723 tw_57 tw_721 tw_722 ⟨rfl, rfl, by decide, by decide⟩ ⟨by decide, by show _ = some 3; decide⟩ (rest := [.ref (ad 36)]) rfl (Nat.le_of_ble_eq_true rfl) d_M_arrive_5 (by decide) (by decide)) ?_
  refine v_if_eq X.1 (tgt := 43) d_M_arrive_8 (by decide) (fun c4 => ?_) (fun c4 => ?_)
  · rw [if_pos c4] at hf
    refine v_iconst X.1 (v := (1 : Int32)) d_M_arrive_43 (by decide) ?_
    refine v_goto X.1 (tgt := 61) d_M_arrive_44 (by decide) ?_
    obtain ⟨g5, eg6, hf⟩ := ob_some hf
    refine v_put X.1 (ci := 5) ⟨in_M, rfl⟩ 36 rfl 0 (by decide) ⟨ty_M_ok, nm_M⟩ (X.t tw_628 rfl) rfl (ty := .int) (by decide +kernel) rfl rfl (Nat.le_of_ble_eq_true rfl) ((sw_40 ad ca _ _).trans (congrArg (wX ad ca) (Option.some.inj eg6))) d_M_arrive_61 ?_
    refine v_aload_n X.1 d_M_arrive_64 rfl 0 rfl ?_
    refine v_get X.1 (ci := 5) ⟨in_M, rfl⟩ 36 rfl 0 (by decide) (X.t tw_628 rfl) rfl d_M_arrive_65 ?_
    refine v_if_le X.1 (tgt := 73) d_M_arrive_68 (by decide) (fun c7 => ?_) (fun c7 => ?_)
    · rw [if_pos c7] at hf
      refine v_aload_n X.1 d_M_arrive_73 rfl 0 rfl ?_
      refine v_get X.1 (ci := 5) ⟨in_M, rfl⟩ 36 rfl 2 (by decide) (X.t tw_630 rfl) rfl d_M_arrive_74 ?_
      refine v_aload_n X.1 d_M_arrive_77 rfl 0 rfl ?_
      refine v_get X.1 (ci := 5) ⟨in_M, rfl⟩ 36 rfl 1 (by decide) (X.t tw_629 rfl) rfl d_M_arrive_78 ?_
      refine v_iload_n X.1 d_M_arrive_81 rfl 1 rfl ?_
      obtain ⟨hb8, hf⟩ := oi_none hf
      obtain ⟨g9, eg10, hf⟩ := ob_some hf
      refine v_iast X.1 37 0 rfl rfl hb8 ((sa_47 ad ca _ _ _).trans (congrArg (wX ad ca) (Option.some.inj eg10))) d_M_arrive_82 ?_
      refine v_aload_n X.1 d_M_arrive_83 rfl 0 rfl ?_
      refine v_get X.1 (ci := 5) ⟨in_M, rfl⟩ 36 rfl 3 (by decide) (X.t tw_631 rfl) rfl d_M_arrive_84 ?_
      refine v_aload_n X.1 d_M_arrive_87 rfl 0 rfl ?_
      refine v_get X.1 (ci := 5) ⟨in_M, rfl⟩ 36 rfl 1 (by decide) (X.t tw_629 rfl) rfl d_M_arrive_88 ?_
      refine v_iload_n X.1 d_M_arrive_91 rfl 2 rfl ?_
      obtain ⟨hb11, hf⟩ := oi_none hf
      obtain ⟨g12, eg13, hf⟩ := ob_some hf
      refine v_iast X.1 38 0 rfl rfl hb11 ((sa_48 ad ca _ _ _).trans (congrArg (wX ad ca) (Option.some.inj eg13))) d_M_arrive_92 ?_
      refine v_aload_n X.1 d_M_arrive_93 rfl 0 rfl ?_
      refine v_get X.1 (ci := 5) ⟨in_M, rfl⟩ 36 rfl 4 (by decide) (X.t tw_632 rfl) rfl d_M_arrive_94 ?_
      refine v_aload_n X.1 d_M_arrive_97 rfl 0 rfl ?_
      refine v_get X.1 (ci := 5) ⟨in_M, rfl⟩ 36 rfl 1 (by decide) (X.t tw_629 rfl) rfl d_M_arrive_98 ?_
      refine v_iload_n X.1 d_M_arrive_101 rfl 3 rfl ?_
      obtain ⟨hb14, hf⟩ := oi_none hf
      obtain ⟨g15, eg16, hf⟩ := ob_some hf
      refine v_iast X.1 39 0 rfl rfl hb14 ((sa_49 ad ca _ _ _).trans (congrArg (wX ad ca) (Option.some.inj eg16))) d_M_arrive_102 ?_
      refine v_aload_n X.1 d_M_arrive_103 rfl 0 rfl ?_
      refine v_get X.1 (ci := 5) ⟨in_M, rfl⟩ 36 rfl 5 (by decide) (X.t tw_633 rfl) rfl d_M_arrive_104 ?_
      refine v_aload_n X.1 d_M_arrive_107 rfl 0 rfl ?_
      refine v_get X.1 (ci := 5) ⟨in_M, rfl⟩ 36 rfl 1 (by decide) (X.t tw_629 rfl) rfl d_M_arrive_108 ?_
      refine v_iload X.1 d_M_arrive_111 4 rfl ?_
      obtain ⟨hb17, hf⟩ := oi_none hf
      obtain ⟨g18, eg19, hf⟩ := ob_some hf
      refine v_iast X.1 40 0 rfl rfl hb17 ((sa_50 ad ca _ _ _).trans (congrArg (wX ad ca) (Option.some.inj eg19))) d_M_arrive_113 ?_
      refine v_aload_n X.1 d_M_arrive_114 rfl 0 rfl ?_
      refine v_dup X.1 d_M_arrive_115 rfl ?_
      refine v_get X.1 (ci := 5) ⟨in_M, rfl⟩ 36 rfl 1 (by decide) (X.t tw_629 rfl) rfl d_M_arrive_116 ?_
      refine v_iconst X.1 (v := (1 : Int32)) d_M_arrive_119 (by decide) ?_
      refine v_iadd X.1 d_M_arrive_120 ?_
      obtain ⟨g20, eg21, hf⟩ := ob_some hf
      refine v_put X.1 (ci := 5) ⟨in_M, rfl⟩ 36 rfl 1 (by decide) ⟨ty_M_ok, nm_M⟩ (X.t tw_629 rfl) rfl (ty := .int) (by decide +kernel) rfl rfl (Nat.le_of_ble_eq_true rfl) ((sw_41 ad ca _ _).trans (congrArg (wX ad ca) (Option.some.inj eg21))) d_M_arrive_121 ?_
      refine v_aload_n X.1 d_M_arrive_124 rfl 0 rfl ?_
      refine v_get X.1 (ci := 5) ⟨in_M, rfl⟩ 36 rfl 1 (by decide) (X.t tw_629 rfl) rfl d_M_arrive_125 ?_
      refine v_iconst X.1 (v := (1 : Int32)) d_M_arrive_128 (by decide) ?_
      refine v_isub X.1 d_M_arrive_129 ?_
      cases hf
      exact v_iret X.1 X.2.2.1 rfl d_M_arrive_130 X.2.2.2.1 (by decide) (by decide)
    · rw [if_neg c7] at hf
      refine v_iconst X.1 (v := (0 : Int32)) d_M_arrive_71 (by decide) ?_
      cases hf
      exact v_iret X.1 X.2.2.1 rfl d_M_arrive_72 X.2.2.2.1 (by decide) (by decide)
  · rw [if_neg c4] at hf
    refine v_iload_n X.1 d_M_arrive_11 rfl 2 rfl ?_
    refine v_iconst X.1 (v := (0 : Int32)) d_M_arrive_12 (by decide) ?_
    refine v_bipush X.1 (v := (9 : Int32)) d_M_arrive_13 (by decide) ?_
    obtain ⟨r23, g24, hc22, hf⟩ := ob2_some hf
    refine v_backI X.1 (x_runS X (c_M_in l p2 ((0 : Int32)) ((9 : Int32)) _ _ _ hc22) tw_723 tw_57 tw_721 tw_722 ⟨rfl, rfl, by decide, by decide⟩ ⟨by decide, by show _ = some 3; decide⟩ (rest := [.ref (ad 36)]) rfl (Nat.le_of_ble_eq_true rfl) d_M_arrive_15 (by decide) (by decide)) ?_
    refine v_if_eq X.1 (tgt := 43) d_M_arrive_18 (by decide) (fun c25 => ?_) (fun c25 => ?_)
    · rw [if_pos c25] at hf
      refine v_iconst X.1 (v := (1 : Int32)) d_M_arrive_43 (by decide) ?_
      refine v_goto X.1 (tgt := 61) d_M_arrive_44 (by decide) ?_
      obtain ⟨g26, eg27, hf⟩ := ob_some hf
      refine v_put X.1 (ci := 5) ⟨in_M, rfl⟩ 36 rfl 0 (by decide) ⟨ty_M_ok, nm_M⟩ (X.t tw_628 rfl) rfl (ty := .int) (by decide +kernel) rfl rfl (Nat.le_of_ble_eq_true rfl) ((sw_40 ad ca _ _).trans (congrArg (wX ad ca) (Option.some.inj eg27))) d_M_arrive_61 ?_
      refine v_aload_n X.1 d_M_arrive_64 rfl 0 rfl ?_
      refine v_get X.1 (ci := 5) ⟨in_M, rfl⟩ 36 rfl 0 (by decide) (X.t tw_628 rfl) rfl d_M_arrive_65 ?_
      refine v_if_le X.1 (tgt := 73) d_M_arrive_68 (by decide) (fun c28 => ?_) (fun c28 => ?_)
      · rw [if_pos c28] at hf
        refine v_aload_n X.1 d_M_arrive_73 rfl 0 rfl ?_
        refine v_get X.1 (ci := 5) ⟨in_M, rfl⟩ 36 rfl 2 (by decide) (X.t tw_630 rfl) rfl d_M_arrive_74 ?_
        refine v_aload_n X.1 d_M_arrive_77 rfl 0 rfl ?_
        refine v_get X.1 (ci := 5) ⟨in_M, rfl⟩ 36 rfl 1 (by decide) (X.t tw_629 rfl) rfl d_M_arrive_78 ?_
        refine v_iload_n X.1 d_M_arrive_81 rfl 1 rfl ?_
        obtain ⟨hb29, hf⟩ := oi_none hf
        obtain ⟨g30, eg31, hf⟩ := ob_some hf
        refine v_iast X.1 37 0 rfl rfl hb29 ((sa_47 ad ca _ _ _).trans (congrArg (wX ad ca) (Option.some.inj eg31))) d_M_arrive_82 ?_
        refine v_aload_n X.1 d_M_arrive_83 rfl 0 rfl ?_
        refine v_get X.1 (ci := 5) ⟨in_M, rfl⟩ 36 rfl 3 (by decide) (X.t tw_631 rfl) rfl d_M_arrive_84 ?_
        refine v_aload_n X.1 d_M_arrive_87 rfl 0 rfl ?_
        refine v_get X.1 (ci := 5) ⟨in_M, rfl⟩ 36 rfl 1 (by decide) (X.t tw_629 rfl) rfl d_M_arrive_88 ?_
        refine v_iload_n X.1 d_M_arrive_91 rfl 2 rfl ?_
        obtain ⟨hb32, hf⟩ := oi_none hf
        obtain ⟨g33, eg34, hf⟩ := ob_some hf
        refine v_iast X.1 38 0 rfl rfl hb32 ((sa_48 ad ca _ _ _).trans (congrArg (wX ad ca) (Option.some.inj eg34))) d_M_arrive_92 ?_
        refine v_aload_n X.1 d_M_arrive_93 rfl 0 rfl ?_
        refine v_get X.1 (ci := 5) ⟨in_M, rfl⟩ 36 rfl 4 (by decide) (X.t tw_632 rfl) rfl d_M_arrive_94 ?_
        refine v_aload_n X.1 d_M_arrive_97 rfl 0 rfl ?_
        refine v_get X.1 (ci := 5) ⟨in_M, rfl⟩ 36 rfl 1 (by decide) (X.t tw_629 rfl) rfl d_M_arrive_98 ?_
        refine v_iload_n X.1 d_M_arrive_101 rfl 3 rfl ?_
        obtain ⟨hb35, hf⟩ := oi_none hf
        obtain ⟨g36, eg37, hf⟩ := ob_some hf
        refine v_iast X.1 39 0 rfl rfl hb35 ((sa_49 ad ca _ _ _).trans (congrArg (wX ad ca) (Option.some.inj eg37))) d_M_arrive_102 ?_
        refine v_aload_n X.1 d_M_arrive_103 rfl 0 rfl ?_
        refine v_get X.1 (ci := 5) ⟨in_M, rfl⟩ 36 rfl 5 (by decide) (X.t tw_633 rfl) rfl d_M_arrive_104 ?_
        refine v_aload_n X.1 d_M_arrive_107 rfl 0 rfl ?_
        refine v_get X.1 (ci := 5) ⟨in_M, rfl⟩ 36 rfl 1 (by decide) (X.t tw_629 rfl) rfl d_M_arrive_108 ?_
        refine v_iload X.1 d_M_arrive_111 4 rfl ?_
        obtain ⟨hb38, hf⟩ := oi_none hf
        obtain ⟨g39, eg40, hf⟩ := ob_some hf
        refine v_iast X.1 40 0 rfl rfl hb38 ((sa_50 ad ca _ _ _).trans (congrArg (wX ad ca) (Option.some.inj eg40))) d_M_arrive_113 ?_
        refine v_aload_n X.1 d_M_arrive_114 rfl 0 rfl ?_
        refine v_dup X.1 d_M_arrive_115 rfl ?_
        refine v_get X.1 (ci := 5) ⟨in_M, rfl⟩ 36 rfl 1 (by decide) (X.t tw_629 rfl) rfl d_M_arrive_116 ?_
        refine v_iconst X.1 (v := (1 : Int32)) d_M_arrive_119 (by decide) ?_
        refine v_iadd X.1 d_M_arrive_120 ?_
        obtain ⟨g41, eg42, hf⟩ := ob_some hf
        refine v_put X.1 (ci := 5) ⟨in_M, rfl⟩ 36 rfl 1 (by decide) ⟨ty_M_ok, nm_M⟩ (X.t tw_629 rfl) rfl (ty := .int) (by decide +kernel) rfl rfl (Nat.le_of_ble_eq_true rfl) ((sw_41 ad ca _ _).trans (congrArg (wX ad ca) (Option.some.inj eg42))) d_M_arrive_121 ?_
        refine v_aload_n X.1 d_M_arrive_124 rfl 0 rfl ?_
        refine v_get X.1 (ci := 5) ⟨in_M, rfl⟩ 36 rfl 1 (by decide) (X.t tw_629 rfl) rfl d_M_arrive_125 ?_
        refine v_iconst X.1 (v := (1 : Int32)) d_M_arrive_128 (by decide) ?_
        refine v_isub X.1 d_M_arrive_129 ?_
        cases hf
        exact v_iret X.1 X.2.2.1 rfl d_M_arrive_130 X.2.2.2.1 (by decide) (by decide)
      · rw [if_neg c28] at hf
        refine v_iconst X.1 (v := (0 : Int32)) d_M_arrive_71 (by decide) ?_
        cases hf
        exact v_iret X.1 X.2.2.1 rfl d_M_arrive_72 X.2.2.2.1 (by decide) (by decide)
    · rw [if_neg c25] at hf
      refine v_iload_n X.1 d_M_arrive_21 rfl 3 rfl ?_
      refine v_iconst X.1 (v := (0 : Int32)) d_M_arrive_22 (by decide) ?_
      refine v_sipush X.1 (v := (1000 : Int32)) d_M_arrive_23 (by decide) ?_
      obtain ⟨r44, g45, hc43, hf⟩ := ob2_some hf
      refine v_backI X.1 (x_runS X (c_M_in l p3 ((0 : Int32)) ((1000 : Int32)) _ _ _ hc43) tw_723 tw_57 tw_721 tw_722 ⟨rfl, rfl, by decide, by decide⟩ ⟨by decide, by show _ = some 3; decide⟩ (rest := [.ref (ad 36)]) rfl (Nat.le_of_ble_eq_true rfl) d_M_arrive_26 (by decide) (by decide)) ?_
      refine v_if_eq X.1 (tgt := 43) d_M_arrive_29 (by decide) (fun c46 => ?_) (fun c46 => ?_)
      · rw [if_pos c46] at hf
        refine v_iconst X.1 (v := (1 : Int32)) d_M_arrive_43 (by decide) ?_
        refine v_goto X.1 (tgt := 61) d_M_arrive_44 (by decide) ?_
        obtain ⟨g47, eg48, hf⟩ := ob_some hf
        refine v_put X.1 (ci := 5) ⟨in_M, rfl⟩ 36 rfl 0 (by decide) ⟨ty_M_ok, nm_M⟩ (X.t tw_628 rfl) rfl (ty := .int) (by decide +kernel) rfl rfl (Nat.le_of_ble_eq_true rfl) ((sw_40 ad ca _ _).trans (congrArg (wX ad ca) (Option.some.inj eg48))) d_M_arrive_61 ?_
        refine v_aload_n X.1 d_M_arrive_64 rfl 0 rfl ?_
        refine v_get X.1 (ci := 5) ⟨in_M, rfl⟩ 36 rfl 0 (by decide) (X.t tw_628 rfl) rfl d_M_arrive_65 ?_
        refine v_if_le X.1 (tgt := 73) d_M_arrive_68 (by decide) (fun c49 => ?_) (fun c49 => ?_)
        · rw [if_pos c49] at hf
          refine v_aload_n X.1 d_M_arrive_73 rfl 0 rfl ?_
          refine v_get X.1 (ci := 5) ⟨in_M, rfl⟩ 36 rfl 2 (by decide) (X.t tw_630 rfl) rfl d_M_arrive_74 ?_
          refine v_aload_n X.1 d_M_arrive_77 rfl 0 rfl ?_
          refine v_get X.1 (ci := 5) ⟨in_M, rfl⟩ 36 rfl 1 (by decide) (X.t tw_629 rfl) rfl d_M_arrive_78 ?_
          refine v_iload_n X.1 d_M_arrive_81 rfl 1 rfl ?_
          obtain ⟨hb50, hf⟩ := oi_none hf
          obtain ⟨g51, eg52, hf⟩ := ob_some hf
          refine v_iast X.1 37 0 rfl rfl hb50 ((sa_47 ad ca _ _ _).trans (congrArg (wX ad ca) (Option.some.inj eg52))) d_M_arrive_82 ?_
          refine v_aload_n X.1 d_M_arrive_83 rfl 0 rfl ?_
          refine v_get X.1 (ci := 5) ⟨in_M, rfl⟩ 36 rfl 3 (by decide) (X.t tw_631 rfl) rfl d_M_arrive_84 ?_
          refine v_aload_n X.1 d_M_arrive_87 rfl 0 rfl ?_
          refine v_get X.1 (ci := 5) ⟨in_M, rfl⟩ 36 rfl 1 (by decide) (X.t tw_629 rfl) rfl d_M_arrive_88 ?_
          refine v_iload_n X.1 d_M_arrive_91 rfl 2 rfl ?_
          obtain ⟨hb53, hf⟩ := oi_none hf
          obtain ⟨g54, eg55, hf⟩ := ob_some hf
          refine v_iast X.1 38 0 rfl rfl hb53 ((sa_48 ad ca _ _ _).trans (congrArg (wX ad ca) (Option.some.inj eg55))) d_M_arrive_92 ?_
          refine v_aload_n X.1 d_M_arrive_93 rfl 0 rfl ?_
          refine v_get X.1 (ci := 5) ⟨in_M, rfl⟩ 36 rfl 4 (by decide) (X.t tw_632 rfl) rfl d_M_arrive_94 ?_
          refine v_aload_n X.1 d_M_arrive_97 rfl 0 rfl ?_
          refine v_get X.1 (ci := 5) ⟨in_M, rfl⟩ 36 rfl 1 (by decide) (X.t tw_629 rfl) rfl d_M_arrive_98 ?_
          refine v_iload_n X.1 d_M_arrive_101 rfl 3 rfl ?_
          obtain ⟨hb56, hf⟩ := oi_none hf
          obtain ⟨g57, eg58, hf⟩ := ob_some hf
          refine v_iast X.1 39 0 rfl rfl hb56 ((sa_49 ad ca _ _ _).trans (congrArg (wX ad ca) (Option.some.inj eg58))) d_M_arrive_102 ?_
          refine v_aload_n X.1 d_M_arrive_103 rfl 0 rfl ?_
          refine v_get X.1 (ci := 5) ⟨in_M, rfl⟩ 36 rfl 5 (by decide) (X.t tw_633 rfl) rfl d_M_arrive_104 ?_
          refine v_aload_n X.1 d_M_arrive_107 rfl 0 rfl ?_
          refine v_get X.1 (ci := 5) ⟨in_M, rfl⟩ 36 rfl 1 (by decide) (X.t tw_629 rfl) rfl d_M_arrive_108 ?_
          refine v_iload X.1 d_M_arrive_111 4 rfl ?_
          obtain ⟨hb59, hf⟩ := oi_none hf
          obtain ⟨g60, eg61, hf⟩ := ob_some hf
          refine v_iast X.1 40 0 rfl rfl hb59 ((sa_50 ad ca _ _ _).trans (congrArg (wX ad ca) (Option.some.inj eg61))) d_M_arrive_113 ?_
          refine v_aload_n X.1 d_M_arrive_114 rfl 0 rfl ?_
          refine v_dup X.1 d_M_arrive_115 rfl ?_
          refine v_get X.1 (ci := 5) ⟨in_M, rfl⟩ 36 rfl 1 (by decide) (X.t tw_629 rfl) rfl d_M_arrive_116 ?_
          refine v_iconst X.1 (v := (1 : Int32)) d_M_arrive_119 (by decide) ?_
          refine v_iadd X.1 d_M_arrive_120 ?_
          obtain ⟨g62, eg63, hf⟩ := ob_some hf
          refine v_put X.1 (ci := 5) ⟨in_M, rfl⟩ 36 rfl 1 (by decide) ⟨ty_M_ok, nm_M⟩ (X.t tw_629 rfl) rfl (ty := .int) (by decide +kernel) rfl rfl (Nat.le_of_ble_eq_true rfl) ((sw_41 ad ca _ _).trans (congrArg (wX ad ca) (Option.some.inj eg63))) d_M_arrive_121 ?_
          refine v_aload_n X.1 d_M_arrive_124 rfl 0 rfl ?_
          refine v_get X.1 (ci := 5) ⟨in_M, rfl⟩ 36 rfl 1 (by decide) (X.t tw_629 rfl) rfl d_M_arrive_125 ?_
          refine v_iconst X.1 (v := (1 : Int32)) d_M_arrive_128 (by decide) ?_
          refine v_isub X.1 d_M_arrive_129 ?_
          cases hf
          exact v_iret X.1 X.2.2.1 rfl d_M_arrive_130 X.2.2.2.1 (by decide) (by decide)
        · rw [if_neg c49] at hf
          refine v_iconst X.1 (v := (0 : Int32)) d_M_arrive_71 (by decide) ?_
          cases hf
          exact v_iret X.1 X.2.2.1 rfl d_M_arrive_72 X.2.2.2.1 (by decide) (by decide)
      · rw [if_neg c46] at hf
        refine v_iload X.1 d_M_arrive_32 4 rfl ?_
        refine v_iconst X.1 (v := (1 : Int32)) d_M_arrive_34 (by decide) ?_
        refine v_bipush X.1 (v := (6 : Int32)) d_M_arrive_35 (by decide) ?_
        obtain ⟨r65, g66, hc64, hf⟩ := ob2_some hf
        refine v_backI X.1 (x_runS X (c_M_in l p4 ((1 : Int32)) ((6 : Int32)) _ _ _ hc64) tw_723 tw_57 tw_721 tw_722 ⟨rfl, rfl, by decide, by decide⟩ ⟨by decide, by show _ = some 3; decide⟩ (rest := [.ref (ad 36)]) rfl (Nat.le_of_ble_eq_true rfl) d_M_arrive_37 (by decide) (by decide)) ?_
        refine v_if_ne X.1 (tgt := 47) d_M_arrive_40 (by decide) (fun c67 => ?_) (fun c67 => ?_)
        · rw [if_neg c67] at hf
          refine v_aload_n X.1 d_M_arrive_47 rfl 0 rfl ?_
          refine v_get X.1 (ci := 5) ⟨in_M, rfl⟩ 36 rfl 1 (by decide) (X.t tw_629 rfl) rfl d_M_arrive_48 ?_
          refine v_bipush X.1 (v := (8 : Int32)) d_M_arrive_51 (by decide) ?_
          refine v_icmp_ne X.1 (tgt := 60) d_M_arrive_53 (by decide) (fun c68 => ?_) (fun c68 => ?_)
          · rw [if_neg c68] at hf
            refine v_iconst X.1 (v := (0 : Int32)) d_M_arrive_60 (by decide) ?_
            obtain ⟨g69, eg70, hf⟩ := ob_some hf
            refine v_put X.1 (ci := 5) ⟨in_M, rfl⟩ 36 rfl 0 (by decide) ⟨ty_M_ok, nm_M⟩ (X.t tw_628 rfl) rfl (ty := .int) (by decide +kernel) rfl rfl (Nat.le_of_ble_eq_true rfl) ((sw_40 ad ca _ _).trans (congrArg (wX ad ca) (Option.some.inj eg70))) d_M_arrive_61 ?_
            refine v_aload_n X.1 d_M_arrive_64 rfl 0 rfl ?_
            refine v_get X.1 (ci := 5) ⟨in_M, rfl⟩ 36 rfl 0 (by decide) (X.t tw_628 rfl) rfl d_M_arrive_65 ?_
            refine v_if_le X.1 (tgt := 73) d_M_arrive_68 (by decide) (fun c71 => ?_) (fun c71 => ?_)
            · rw [if_pos c71] at hf
              refine v_aload_n X.1 d_M_arrive_73 rfl 0 rfl ?_
              refine v_get X.1 (ci := 5) ⟨in_M, rfl⟩ 36 rfl 2 (by decide) (X.t tw_630 rfl) rfl d_M_arrive_74 ?_
              refine v_aload_n X.1 d_M_arrive_77 rfl 0 rfl ?_
              refine v_get X.1 (ci := 5) ⟨in_M, rfl⟩ 36 rfl 1 (by decide) (X.t tw_629 rfl) rfl d_M_arrive_78 ?_
              refine v_iload_n X.1 d_M_arrive_81 rfl 1 rfl ?_
              obtain ⟨hb72, hf⟩ := oi_none hf
              obtain ⟨g73, eg74, hf⟩ := ob_some hf
              refine v_iast X.1 37 0 rfl rfl hb72 ((sa_47 ad ca _ _ _).trans (congrArg (wX ad ca) (Option.some.inj eg74))) d_M_arrive_82 ?_
              refine v_aload_n X.1 d_M_arrive_83 rfl 0 rfl ?_
              refine v_get X.1 (ci := 5) ⟨in_M, rfl⟩ 36 rfl 3 (by decide) (X.t tw_631 rfl) rfl d_M_arrive_84 ?_
              refine v_aload_n X.1 d_M_arrive_87 rfl 0 rfl ?_
              refine v_get X.1 (ci := 5) ⟨in_M, rfl⟩ 36 rfl 1 (by decide) (X.t tw_629 rfl) rfl d_M_arrive_88 ?_
              refine v_iload_n X.1 d_M_arrive_91 rfl 2 rfl ?_
              obtain ⟨hb75, hf⟩ := oi_none hf
              obtain ⟨g76, eg77, hf⟩ := ob_some hf
              refine v_iast X.1 38 0 rfl rfl hb75 ((sa_48 ad ca _ _ _).trans (congrArg (wX ad ca) (Option.some.inj eg77))) d_M_arrive_92 ?_
              refine v_aload_n X.1 d_M_arrive_93 rfl 0 rfl ?_
              refine v_get X.1 (ci := 5) ⟨in_M, rfl⟩ 36 rfl 4 (by decide) (X.t tw_632 rfl) rfl d_M_arrive_94 ?_
              refine v_aload_n X.1 d_M_arrive_97 rfl 0 rfl ?_
              refine v_get X.1 (ci := 5) ⟨in_M, rfl⟩ 36 rfl 1 (by decide) (X.t tw_629 rfl) rfl d_M_arrive_98 ?_
              refine v_iload_n X.1 d_M_arrive_101 rfl 3 rfl ?_
              obtain ⟨hb78, hf⟩ := oi_none hf
              obtain ⟨g79, eg80, hf⟩ := ob_some hf
              refine v_iast X.1 39 0 rfl rfl hb78 ((sa_49 ad ca _ _ _).trans (congrArg (wX ad ca) (Option.some.inj eg80))) d_M_arrive_102 ?_
              refine v_aload_n X.1 d_M_arrive_103 rfl 0 rfl ?_
              refine v_get X.1 (ci := 5) ⟨in_M, rfl⟩ 36 rfl 5 (by decide) (X.t tw_633 rfl) rfl d_M_arrive_104 ?_
              refine v_aload_n X.1 d_M_arrive_107 rfl 0 rfl ?_
              refine v_get X.1 (ci := 5) ⟨in_M, rfl⟩ 36 rfl 1 (by decide) (X.t tw_629 rfl) rfl d_M_arrive_108 ?_
              refine v_iload X.1 d_M_arrive_111 4 rfl ?_
              obtain ⟨hb81, hf⟩ := oi_none hf
              obtain ⟨g82, eg83, hf⟩ := ob_some hf
              refine v_iast X.1 40 0 rfl rfl hb81 ((sa_50 ad ca _ _ _).trans (congrArg (wX ad ca) (Option.some.inj eg83))) d_M_arrive_113 ?_
              refine v_aload_n X.1 d_M_arrive_114 rfl 0 rfl ?_
              refine v_dup X.1 d_M_arrive_115 rfl ?_
              refine v_get X.1 (ci := 5) ⟨in_M, rfl⟩ 36 rfl 1 (by decide) (X.t tw_629 rfl) rfl d_M_arrive_116 ?_
              refine v_iconst X.1 (v := (1 : Int32)) d_M_arrive_119 (by decide) ?_
              refine v_iadd X.1 d_M_arrive_120 ?_
              obtain ⟨g84, eg85, hf⟩ := ob_some hf
              refine v_put X.1 (ci := 5) ⟨in_M, rfl⟩ 36 rfl 1 (by decide) ⟨ty_M_ok, nm_M⟩ (X.t tw_629 rfl) rfl (ty := .int) (by decide +kernel) rfl rfl (Nat.le_of_ble_eq_true rfl) ((sw_41 ad ca _ _).trans (congrArg (wX ad ca) (Option.some.inj eg85))) d_M_arrive_121 ?_
              refine v_aload_n X.1 d_M_arrive_124 rfl 0 rfl ?_
              refine v_get X.1 (ci := 5) ⟨in_M, rfl⟩ 36 rfl 1 (by decide) (X.t tw_629 rfl) rfl d_M_arrive_125 ?_
              refine v_iconst X.1 (v := (1 : Int32)) d_M_arrive_128 (by decide) ?_
              refine v_isub X.1 d_M_arrive_129 ?_
              cases hf
              exact v_iret X.1 X.2.2.1 rfl d_M_arrive_130 X.2.2.2.1 (by decide) (by decide)
            · rw [if_neg c71] at hf
              refine v_iconst X.1 (v := (0 : Int32)) d_M_arrive_71 (by decide) ?_
              cases hf
              exact v_iret X.1 X.2.2.1 rfl d_M_arrive_72 X.2.2.2.1 (by decide) (by decide)
          · rw [if_pos c68] at hf
            refine v_iconst X.1 (v := (2 : Int32)) d_M_arrive_56 (by decide) ?_
            refine v_goto X.1 (tgt := 61) d_M_arrive_57 (by decide) ?_
            obtain ⟨g86, eg87, hf⟩ := ob_some hf
            refine v_put X.1 (ci := 5) ⟨in_M, rfl⟩ 36 rfl 0 (by decide) ⟨ty_M_ok, nm_M⟩ (X.t tw_628 rfl) rfl (ty := .int) (by decide +kernel) rfl rfl (Nat.le_of_ble_eq_true rfl) ((sw_40 ad ca _ _).trans (congrArg (wX ad ca) (Option.some.inj eg87))) d_M_arrive_61 ?_
            refine v_aload_n X.1 d_M_arrive_64 rfl 0 rfl ?_
            refine v_get X.1 (ci := 5) ⟨in_M, rfl⟩ 36 rfl 0 (by decide) (X.t tw_628 rfl) rfl d_M_arrive_65 ?_
            refine v_if_le X.1 (tgt := 73) d_M_arrive_68 (by decide) (fun c88 => ?_) (fun c88 => ?_)
            · rw [if_pos c88] at hf
              refine v_aload_n X.1 d_M_arrive_73 rfl 0 rfl ?_
              refine v_get X.1 (ci := 5) ⟨in_M, rfl⟩ 36 rfl 2 (by decide) (X.t tw_630 rfl) rfl d_M_arrive_74 ?_
              refine v_aload_n X.1 d_M_arrive_77 rfl 0 rfl ?_
              refine v_get X.1 (ci := 5) ⟨in_M, rfl⟩ 36 rfl 1 (by decide) (X.t tw_629 rfl) rfl d_M_arrive_78 ?_
              refine v_iload_n X.1 d_M_arrive_81 rfl 1 rfl ?_
              obtain ⟨hb89, hf⟩ := oi_none hf
              obtain ⟨g90, eg91, hf⟩ := ob_some hf
              refine v_iast X.1 37 0 rfl rfl hb89 ((sa_47 ad ca _ _ _).trans (congrArg (wX ad ca) (Option.some.inj eg91))) d_M_arrive_82 ?_
              refine v_aload_n X.1 d_M_arrive_83 rfl 0 rfl ?_
              refine v_get X.1 (ci := 5) ⟨in_M, rfl⟩ 36 rfl 3 (by decide) (X.t tw_631 rfl) rfl d_M_arrive_84 ?_
              refine v_aload_n X.1 d_M_arrive_87 rfl 0 rfl ?_
              refine v_get X.1 (ci := 5) ⟨in_M, rfl⟩ 36 rfl 1 (by decide) (X.t tw_629 rfl) rfl d_M_arrive_88 ?_
              refine v_iload_n X.1 d_M_arrive_91 rfl 2 rfl ?_
              obtain ⟨hb92, hf⟩ := oi_none hf
              obtain ⟨g93, eg94, hf⟩ := ob_some hf
              refine v_iast X.1 38 0 rfl rfl hb92 ((sa_48 ad ca _ _ _).trans (congrArg (wX ad ca) (Option.some.inj eg94))) d_M_arrive_92 ?_
              refine v_aload_n X.1 d_M_arrive_93 rfl 0 rfl ?_
              refine v_get X.1 (ci := 5) ⟨in_M, rfl⟩ 36 rfl 4 (by decide) (X.t tw_632 rfl) rfl d_M_arrive_94 ?_
              refine v_aload_n X.1 d_M_arrive_97 rfl 0 rfl ?_
              refine v_get X.1 (ci := 5) ⟨in_M, rfl⟩ 36 rfl 1 (by decide) (X.t tw_629 rfl) rfl d_M_arrive_98 ?_
              refine v_iload_n X.1 d_M_arrive_101 rfl 3 rfl ?_
              obtain ⟨hb95, hf⟩ := oi_none hf
              obtain ⟨g96, eg97, hf⟩ := ob_some hf
              refine v_iast X.1 39 0 rfl rfl hb95 ((sa_49 ad ca _ _ _).trans (congrArg (wX ad ca) (Option.some.inj eg97))) d_M_arrive_102 ?_
              refine v_aload_n X.1 d_M_arrive_103 rfl 0 rfl ?_
              refine v_get X.1 (ci := 5) ⟨in_M, rfl⟩ 36 rfl 5 (by decide) (X.t tw_633 rfl) rfl d_M_arrive_104 ?_
              refine v_aload_n X.1 d_M_arrive_107 rfl 0 rfl ?_
              refine v_get X.1 (ci := 5) ⟨in_M, rfl⟩ 36 rfl 1 (by decide) (X.t tw_629 rfl) rfl d_M_arrive_108 ?_
              refine v_iload X.1 d_M_arrive_111 4 rfl ?_
              obtain ⟨hb98, hf⟩ := oi_none hf
              obtain ⟨g99, eg100, hf⟩ := ob_some hf
              refine v_iast X.1 40 0 rfl rfl hb98 ((sa_50 ad ca _ _ _).trans (congrArg (wX ad ca) (Option.some.inj eg100))) d_M_arrive_113 ?_
              refine v_aload_n X.1 d_M_arrive_114 rfl 0 rfl ?_
              refine v_dup X.1 d_M_arrive_115 rfl ?_
              refine v_get X.1 (ci := 5) ⟨in_M, rfl⟩ 36 rfl 1 (by decide) (X.t tw_629 rfl) rfl d_M_arrive_116 ?_
              refine v_iconst X.1 (v := (1 : Int32)) d_M_arrive_119 (by decide) ?_
              refine v_iadd X.1 d_M_arrive_120 ?_
              obtain ⟨g101, eg102, hf⟩ := ob_some hf
              refine v_put X.1 (ci := 5) ⟨in_M, rfl⟩ 36 rfl 1 (by decide) ⟨ty_M_ok, nm_M⟩ (X.t tw_629 rfl) rfl (ty := .int) (by decide +kernel) rfl rfl (Nat.le_of_ble_eq_true rfl) ((sw_41 ad ca _ _).trans (congrArg (wX ad ca) (Option.some.inj eg102))) d_M_arrive_121 ?_
              refine v_aload_n X.1 d_M_arrive_124 rfl 0 rfl ?_
              refine v_get X.1 (ci := 5) ⟨in_M, rfl⟩ 36 rfl 1 (by decide) (X.t tw_629 rfl) rfl d_M_arrive_125 ?_
              refine v_iconst X.1 (v := (1 : Int32)) d_M_arrive_128 (by decide) ?_
              refine v_isub X.1 d_M_arrive_129 ?_
              cases hf
              exact v_iret X.1 X.2.2.1 rfl d_M_arrive_130 X.2.2.2.1 (by decide) (by decide)
            · rw [if_neg c88] at hf
              refine v_iconst X.1 (v := (0 : Int32)) d_M_arrive_71 (by decide) ?_
              cases hf
              exact v_iret X.1 X.2.2.1 rfl d_M_arrive_72 X.2.2.2.1 (by decide) (by decide)
        · rw [if_pos c67] at hf
          refine v_iconst X.1 (v := (1 : Int32)) d_M_arrive_43 (by decide) ?_
          refine v_goto X.1 (tgt := 61) d_M_arrive_44 (by decide) ?_
          obtain ⟨g103, eg104, hf⟩ := ob_some hf
          refine v_put X.1 (ci := 5) ⟨in_M, rfl⟩ 36 rfl 0 (by decide) ⟨ty_M_ok, nm_M⟩ (X.t tw_628 rfl) rfl (ty := .int) (by decide +kernel) rfl rfl (Nat.le_of_ble_eq_true rfl) ((sw_40 ad ca _ _).trans (congrArg (wX ad ca) (Option.some.inj eg104))) d_M_arrive_61 ?_
          refine v_aload_n X.1 d_M_arrive_64 rfl 0 rfl ?_
          refine v_get X.1 (ci := 5) ⟨in_M, rfl⟩ 36 rfl 0 (by decide) (X.t tw_628 rfl) rfl d_M_arrive_65 ?_
          refine v_if_le X.1 (tgt := 73) d_M_arrive_68 (by decide) (fun c105 => ?_) (fun c105 => ?_)
          · rw [if_pos c105] at hf
            refine v_aload_n X.1 d_M_arrive_73 rfl 0 rfl ?_
            refine v_get X.1 (ci := 5) ⟨in_M, rfl⟩ 36 rfl 2 (by decide) (X.t tw_630 rfl) rfl d_M_arrive_74 ?_
            refine v_aload_n X.1 d_M_arrive_77 rfl 0 rfl ?_
            refine v_get X.1 (ci := 5) ⟨in_M, rfl⟩ 36 rfl 1 (by decide) (X.t tw_629 rfl) rfl d_M_arrive_78 ?_
            refine v_iload_n X.1 d_M_arrive_81 rfl 1 rfl ?_
            obtain ⟨hb106, hf⟩ := oi_none hf
            obtain ⟨g107, eg108, hf⟩ := ob_some hf
            refine v_iast X.1 37 0 rfl rfl hb106 ((sa_47 ad ca _ _ _).trans (congrArg (wX ad ca) (Option.some.inj eg108))) d_M_arrive_82 ?_
            refine v_aload_n X.1 d_M_arrive_83 rfl 0 rfl ?_
            refine v_get X.1 (ci := 5) ⟨in_M, rfl⟩ 36 rfl 3 (by decide) (X.t tw_631 rfl) rfl d_M_arrive_84 ?_
            refine v_aload_n X.1 d_M_arrive_87 rfl 0 rfl ?_
            refine v_get X.1 (ci := 5) ⟨in_M, rfl⟩ 36 rfl 1 (by decide) (X.t tw_629 rfl) rfl d_M_arrive_88 ?_
            refine v_iload_n X.1 d_M_arrive_91 rfl 2 rfl ?_
            obtain ⟨hb109, hf⟩ := oi_none hf
            obtain ⟨g110, eg111, hf⟩ := ob_some hf
            refine v_iast X.1 38 0 rfl rfl hb109 ((sa_48 ad ca _ _ _).trans (congrArg (wX ad ca) (Option.some.inj eg111))) d_M_arrive_92 ?_
            refine v_aload_n X.1 d_M_arrive_93 rfl 0 rfl ?_
            refine v_get X.1 (ci := 5) ⟨in_M, rfl⟩ 36 rfl 4 (by decide) (X.t tw_632 rfl) rfl d_M_arrive_94 ?_
            refine v_aload_n X.1 d_M_arrive_97 rfl 0 rfl ?_
            refine v_get X.1 (ci := 5) ⟨in_M, rfl⟩ 36 rfl 1 (by decide) (X.t tw_629 rfl) rfl d_M_arrive_98 ?_
            refine v_iload_n X.1 d_M_arrive_101 rfl 3 rfl ?_
            obtain ⟨hb112, hf⟩ := oi_none hf
            obtain ⟨g113, eg114, hf⟩ := ob_some hf
            refine v_iast X.1 39 0 rfl rfl hb112 ((sa_49 ad ca _ _ _).trans (congrArg (wX ad ca) (Option.some.inj eg114))) d_M_arrive_102 ?_
            refine v_aload_n X.1 d_M_arrive_103 rfl 0 rfl ?_
            refine v_get X.1 (ci := 5) ⟨in_M, rfl⟩ 36 rfl 5 (by decide) (X.t tw_633 rfl) rfl d_M_arrive_104 ?_
            refine v_aload_n X.1 d_M_arrive_107 rfl 0 rfl ?_
            refine v_get X.1 (ci := 5) ⟨in_M, rfl⟩ 36 rfl 1 (by decide) (X.t tw_629 rfl) rfl d_M_arrive_108 ?_
            refine v_iload X.1 d_M_arrive_111 4 rfl ?_
            obtain ⟨hb115, hf⟩ := oi_none hf
            obtain ⟨g116, eg117, hf⟩ := ob_some hf
            refine v_iast X.1 40 0 rfl rfl hb115 ((sa_50 ad ca _ _ _).trans (congrArg (wX ad ca) (Option.some.inj eg117))) d_M_arrive_113 ?_
            refine v_aload_n X.1 d_M_arrive_114 rfl 0 rfl ?_
            refine v_dup X.1 d_M_arrive_115 rfl ?_
            refine v_get X.1 (ci := 5) ⟨in_M, rfl⟩ 36 rfl 1 (by decide) (X.t tw_629 rfl) rfl d_M_arrive_116 ?_
            refine v_iconst X.1 (v := (1 : Int32)) d_M_arrive_119 (by decide) ?_
            refine v_iadd X.1 d_M_arrive_120 ?_
            obtain ⟨g118, eg119, hf⟩ := ob_some hf
            refine v_put X.1 (ci := 5) ⟨in_M, rfl⟩ 36 rfl 1 (by decide) ⟨ty_M_ok, nm_M⟩ (X.t tw_629 rfl) rfl (ty := .int) (by decide +kernel) rfl rfl (Nat.le_of_ble_eq_true rfl) ((sw_41 ad ca _ _).trans (congrArg (wX ad ca) (Option.some.inj eg119))) d_M_arrive_121 ?_
            refine v_aload_n X.1 d_M_arrive_124 rfl 0 rfl ?_
            refine v_get X.1 (ci := 5) ⟨in_M, rfl⟩ 36 rfl 1 (by decide) (X.t tw_629 rfl) rfl d_M_arrive_125 ?_
            refine v_iconst X.1 (v := (1 : Int32)) d_M_arrive_128 (by decide) ?_
            refine v_isub X.1 d_M_arrive_129 ?_
            cases hf
            exact v_iret X.1 X.2.2.1 rfl d_M_arrive_130 X.2.2.2.1 (by decide) (by decide)
          · rw [if_neg c105] at hf
            refine v_iconst X.1 (v := (0 : Int32)) d_M_arrive_71 (by decide) ?_
            cases hf
            exact v_iret X.1 X.2.2.1 rfl d_M_arrive_72 X.2.2.2.1 (by decide) (by decide)

def f_M_order (p1 : Int32) (p2 : Int32) (p3 : Int32) (p4 : Int32) (g : xSt) : Option (Int32 × xSt) := (ob2 (f_M_in p1 ((0 : Int32)) ((7 : Int32)) g) (fun r2 g3 => (if r2 = 0 then (Option.bind (some (xw g3 40 0 ((1 : Int32)))) (fun g5 => (if (g5 40 0) ≤ 0 then (if (g5 42 0) < 0 ∨ 8 ≤ (g5 42 0).toNatClampNeg then none else (Option.bind (some (xw g5 52 (g5 42 0).toNatClampNeg p1)) (fun g9 => (if (g9 42 0) < 0 ∨ 8 ≤ (g9 42 0).toNatClampNeg then none else (Option.bind (some (xw g9 53 (g9 42 0).toNatClampNeg p2)) (fun g12 => (if (g12 42 0) < 0 ∨ 8 ≤ (g12 42 0).toNatClampNeg then none else (Option.bind (some (xw g12 54 (g12 42 0).toNatClampNeg p3)) (fun g15 => (if (g15 42 0) < 0 ∨ 8 ≤ (g15 42 0).toNatClampNeg then none else (Option.bind (some (xw g15 55 (g15 42 0).toNatClampNeg p4)) (fun g18 => (if (g18 42 0) < 0 ∨ 8 ≤ (g18 42 0).toNatClampNeg then none else (Option.bind (some (xw g18 56 (g18 42 0).toNatClampNeg ((1000 : Int32)))) (fun g21 => (if (g21 42 0) < 0 ∨ 8 ≤ (g21 42 0).toNatClampNeg then none else (Option.bind (some (xw g21 57 (g21 42 0).toNatClampNeg ((1023 : Int32)))) (fun g24 => (Option.bind (some (xw g24 42 0 ((g24 42 0) + ((1 : Int32))))) (fun g26 => some ((g26 42 0) - ((1 : Int32)), g26))))))))))))))))))))) else some ((0 : Int32), g5)))) else (ob2 (f_M_in p2 ((1 : Int32)) ((6 : Int32)) g3) (fun r29 g30 => (if r29 = 0 then (Option.bind (some (xw g30 40 0 ((1 : Int32)))) (fun g32 => (if (g32 40 0) ≤ 0 then (if (g32 42 0) < 0 ∨ 8 ≤ (g32 42 0).toNatClampNeg then none else (Option.bind (some (xw g32 52 (g32 42 0).toNatClampNeg p1)) (fun g36 => (if (g36 42 0) < 0 ∨ 8 ≤ (g36 42 0).toNatClampNeg then none else (Option.bind (some (xw g36 53 (g36 42 0).toNatClampNeg p2)) (fun g39 => (if (g39 42 0) < 0 ∨ 8 ≤ (g39 42 0).toNatClampNeg then none else (Option.bind (some (xw g39 54 (g39 42 0).toNatClampNeg p3)) (fun g42 => (if (g42 42 0) < 0 ∨ 8 ≤ (g42 42 0).toNatClampNeg then none else (Option.bind (some (xw g42 55 (g42 42 0).toNatClampNeg p4)) (fun g45 => (if (g45 42 0) < 0 ∨ 8 ≤ (g45 42 0).toNatClampNeg then none else (Option.bind (some (xw g45 56 (g45 42 0).toNatClampNeg ((1000 : Int32)))) (fun g48 => (if (g48 42 0) < 0 ∨ 8 ≤ (g48 42 0).toNatClampNeg then none else (Option.bind (some (xw g48 57 (g48 42 0).toNatClampNeg ((1023 : Int32)))) (fun g51 => (Option.bind (some (xw g51 42 0 ((g51 42 0) + ((1 : Int32))))) (fun g53 => some ((g53 42 0) - ((1 : Int32)), g53))))))))))))))))))))) else some ((0 : Int32), g32)))) else (ob2 (f_M_in p3 ((1 : Int32)) ((9 : Int32)) g30) (fun r56 g57 => (if r56 = 0 then (Option.bind (some (xw g57 40 0 ((1 : Int32)))) (fun g59 => (if (g59 40 0) ≤ 0 then (if (g59 42 0) < 0 ∨ 8 ≤ (g59 42 0).toNatClampNeg then none else (Option.bind (some (xw g59 52 (g59 42 0).toNatClampNeg p1)) (fun g63 => (if (g63 42 0) < 0 ∨ 8 ≤ (g63 42 0).toNatClampNeg then none else (Option.bind (some (xw g63 53 (g63 42 0).toNatClampNeg p2)) (fun g66 => (if (g66 42 0) < 0 ∨ 8 ≤ (g66 42 0).toNatClampNeg then none else (Option.bind (some (xw g66 54 (g66 42 0).toNatClampNeg p3)) (fun g69 => (if (g69 42 0) < 0 ∨ 8 ≤ (g69 42 0).toNatClampNeg then none else (Option.bind (some (xw g69 55 (g69 42 0).toNatClampNeg p4)) (fun g72 => (if (g72 42 0) < 0 ∨ 8 ≤ (g72 42 0).toNatClampNeg then none else (Option.bind (some (xw g72 56 (g72 42 0).toNatClampNeg ((1000 : Int32)))) (fun g75 => (if (g75 42 0) < 0 ∨ 8 ≤ (g75 42 0).toNatClampNeg then none else (Option.bind (some (xw g75 57 (g75 42 0).toNatClampNeg ((1023 : Int32)))) (fun g78 => (Option.bind (some (xw g78 42 0 ((g78 42 0) + ((1 : Int32))))) (fun g80 => some ((g80 42 0) - ((1 : Int32)), g80))))))))))))))))))))) else some ((0 : Int32), g59)))) else (ob2 (f_M_in p4 ((0 : Int32)) ((3 : Int32)) g57) (fun r83 g84 => (if r83 = 0 then (Option.bind (some (xw g84 40 0 ((1 : Int32)))) (fun g133 => (if (g133 40 0) ≤ 0 then (if (g133 42 0) < 0 ∨ 8 ≤ (g133 42 0).toNatClampNeg then none else (Option.bind (some (xw g133 52 (g133 42 0).toNatClampNeg p1)) (fun g137 => (if (g137 42 0) < 0 ∨ 8 ≤ (g137 42 0).toNatClampNeg then none else (Option.bind (some (xw g137 53 (g137 42 0).toNatClampNeg p2)) (fun g140 => (if (g140 42 0) < 0 ∨ 8 ≤ (g140 42 0).toNatClampNeg then none else (Option.bind (some (xw g140 54 (g140 42 0).toNatClampNeg p3)) (fun g143 => (if (g143 42 0) < 0 ∨ 8 ≤ (g143 42 0).toNatClampNeg then none else (Option.bind (some (xw g143 55 (g143 42 0).toNatClampNeg p4)) (fun g146 => (if (g146 42 0) < 0 ∨ 8 ≤ (g146 42 0).toNatClampNeg then none else (Option.bind (some (xw g146 56 (g146 42 0).toNatClampNeg ((1000 : Int32)))) (fun g149 => (if (g149 42 0) < 0 ∨ 8 ≤ (g149 42 0).toNatClampNeg then none else (Option.bind (some (xw g149 57 (g149 42 0).toNatClampNeg ((1023 : Int32)))) (fun g152 => (Option.bind (some (xw g152 42 0 ((g152 42 0) + ((1 : Int32))))) (fun g154 => some ((g154 42 0) - ((1 : Int32)), g154))))))))))))))))))))) else some ((0 : Int32), g133)))) else (if (g84 42 0) = ((8 : Int32)) then (Option.bind (some (xw g84 40 0 ((2 : Int32)))) (fun g110 => (if (g110 40 0) ≤ 0 then (if (g110 42 0) < 0 ∨ 8 ≤ (g110 42 0).toNatClampNeg then none else (Option.bind (some (xw g110 52 (g110 42 0).toNatClampNeg p1)) (fun g114 => (if (g114 42 0) < 0 ∨ 8 ≤ (g114 42 0).toNatClampNeg then none else (Option.bind (some (xw g114 53 (g114 42 0).toNatClampNeg p2)) (fun g117 => (if (g117 42 0) < 0 ∨ 8 ≤ (g117 42 0).toNatClampNeg then none else (Option.bind (some (xw g117 54 (g117 42 0).toNatClampNeg p3)) (fun g120 => (if (g120 42 0) < 0 ∨ 8 ≤ (g120 42 0).toNatClampNeg then none else (Option.bind (some (xw g120 55 (g120 42 0).toNatClampNeg p4)) (fun g123 => (if (g123 42 0) < 0 ∨ 8 ≤ (g123 42 0).toNatClampNeg then none else (Option.bind (some (xw g123 56 (g123 42 0).toNatClampNeg ((1000 : Int32)))) (fun g126 => (if (g126 42 0) < 0 ∨ 8 ≤ (g126 42 0).toNatClampNeg then none else (Option.bind (some (xw g126 57 (g126 42 0).toNatClampNeg ((1023 : Int32)))) (fun g129 => (Option.bind (some (xw g129 42 0 ((g129 42 0) + ((1 : Int32))))) (fun g131 => some ((g131 42 0) - ((1 : Int32)), g131))))))))))))))))))))) else some ((0 : Int32), g110)))) else (Option.bind (some (xw g84 40 0 ((0 : Int32)))) (fun g87 => (if (g87 40 0) ≤ 0 then (if (g87 42 0) < 0 ∨ 8 ≤ (g87 42 0).toNatClampNeg then none else (Option.bind (some (xw g87 52 (g87 42 0).toNatClampNeg p1)) (fun g91 => (if (g91 42 0) < 0 ∨ 8 ≤ (g91 42 0).toNatClampNeg then none else (Option.bind (some (xw g91 53 (g91 42 0).toNatClampNeg p2)) (fun g94 => (if (g94 42 0) < 0 ∨ 8 ≤ (g94 42 0).toNatClampNeg then none else (Option.bind (some (xw g94 54 (g94 42 0).toNatClampNeg p3)) (fun g97 => (if (g97 42 0) < 0 ∨ 8 ≤ (g97 42 0).toNatClampNeg then none else (Option.bind (some (xw g97 55 (g97 42 0).toNatClampNeg p4)) (fun g100 => (if (g100 42 0) < 0 ∨ 8 ≤ (g100 42 0).toNatClampNeg then none else (Option.bind (some (xw g100 56 (g100 42 0).toNatClampNeg ((1000 : Int32)))) (fun g103 => (if (g103 42 0) < 0 ∨ 8 ≤ (g103 42 0).toNatClampNeg then none else (Option.bind (some (xw g103 57 (g103 42 0).toNatClampNeg ((1023 : Int32)))) (fun g106 => (Option.bind (some (xw g106 42 0 ((g106 42 0) + ((1 : Int32))))) (fun g108 => some ((g108 42 0) - ((1 : Int32)), g108))))))))))))))))))))) else some ((0 : Int32), g87)))))))))))))))))

set_option maxRecDepth 100000 in
set_option maxHeartbeats 4000000 in
theorem c_M_order (l : Launch) (p1 : Int32) (p2 : Int32) (p3 : Int32) (p4 : Int32) (g : xSt) (r : Int32) (g' : xSt) (hf : f_M_order p1 p2 p3 p4 g = some (r, g')) : xM l y_M_order (.code y_M_order b_M_order 5 (some .int)) ({ frames := 1, cells := 0, slots := 0, locals := 22 } : Room) (fun ad => [.ref (ad 36), .int p1, .int p2, .int p3, .int p4]) g (.inl (some (.int r))) g' 0 0 := by
  refine x_contract (by decide) (fun _ => Nat.le_of_ble_eq_true rfl) ?_
  intro p e s m below meth c D ad ca X hno
  unfold f_M_order at hf
  refine v_aload_n X.1 d_M_order_0 rfl 0 rfl ?_
  refine v_iload_n X.1 d_M_order_1 rfl 1 rfl ?_
  refine v_iconst X.1 (v := (0 : Int32)) d_M_order_2 (by decide) ?_
  refine v_bipush X.1 (v := (7 : Int32)) d_M_order_3 (by decide) ?_
  obtain ⟨r2, g3, hc1, hf⟩ := ob2_some hf
  refine v_backI X.1 (x_runS X (c_M_in l p1 ((0 : Int32)) ((7 : Int32)) _ _ _ hc1) tw_723 tw_57 tw_721 tw_722 ⟨rfl, rfl, by decide, by decide⟩ ⟨by decide, by show _ = some 3; decide⟩ (rest := [.ref (ad 36)]) rfl (Nat.le_of_ble_eq_true rfl) d_M_order_5 (by decide) (by decide)) ?_
  refine v_if_eq X.1 (tgt := 41) d_M_order_8 (by decide) (fun c4 => ?_) (fun c4 => ?_)
  · rw [if_pos c4] at hf
    refine v_iconst X.1 (v := (1 : Int32)) d_M_order_41 (by decide) ?_
    refine v_goto X.1 (tgt := 59) d_M_order_42 (by decide) ?_
    obtain ⟨g5, eg6, hf⟩ := ob_some hf
    refine v_put X.1 (ci := 5) ⟨in_M, rfl⟩ 36 rfl 0 (by decide) ⟨ty_M_ok, nm_M⟩ (X.t tw_628 rfl) rfl (ty := .int) (by decide +kernel) rfl rfl (Nat.le_of_ble_eq_true rfl) ((sw_40 ad ca _ _).trans (congrArg (wX ad ca) (Option.some.inj eg6))) d_M_order_59 ?_
    refine v_aload_n X.1 d_M_order_62 rfl 0 rfl ?_
    refine v_get X.1 (ci := 5) ⟨in_M, rfl⟩ 36 rfl 0 (by decide) (X.t tw_628 rfl) rfl d_M_order_63 ?_
    refine v_if_le X.1 (tgt := 71) d_M_order_66 (by decide) (fun c7 => ?_) (fun c7 => ?_)
    · rw [if_pos c7] at hf
      refine v_aload_n X.1 d_M_order_71 rfl 0 rfl ?_
      refine v_get X.1 (ci := 5) ⟨in_M, rfl⟩ 36 rfl 8 (by decide) (X.t tw_636 rfl) rfl d_M_order_72 ?_
      refine v_aload_n X.1 d_M_order_75 rfl 0 rfl ?_
      refine v_get X.1 (ci := 5) ⟨in_M, rfl⟩ 36 rfl 7 (by decide) (X.t tw_635 rfl) rfl d_M_order_76 ?_
      refine v_iload_n X.1 d_M_order_79 rfl 1 rfl ?_
      obtain ⟨hb8, hf⟩ := oi_none hf
      obtain ⟨g9, eg10, hf⟩ := ob_some hf
      refine v_iast X.1 42 0 rfl rfl hb8 ((sa_52 ad ca _ _ _).trans (congrArg (wX ad ca) (Option.some.inj eg10))) d_M_order_80 ?_
      refine v_aload_n X.1 d_M_order_81 rfl 0 rfl ?_
      refine v_get X.1 (ci := 5) ⟨in_M, rfl⟩ 36 rfl 9 (by decide) (X.t tw_637 rfl) rfl d_M_order_82 ?_
      refine v_aload_n X.1 d_M_order_85 rfl 0 rfl ?_
      refine v_get X.1 (ci := 5) ⟨in_M, rfl⟩ 36 rfl 7 (by decide) (X.t tw_635 rfl) rfl d_M_order_86 ?_
      refine v_iload_n X.1 d_M_order_89 rfl 2 rfl ?_
      obtain ⟨hb11, hf⟩ := oi_none hf
      obtain ⟨g12, eg13, hf⟩ := ob_some hf
      refine v_iast X.1 43 0 rfl rfl hb11 ((sa_53 ad ca _ _ _).trans (congrArg (wX ad ca) (Option.some.inj eg13))) d_M_order_90 ?_
      refine v_aload_n X.1 d_M_order_91 rfl 0 rfl ?_
      refine v_get X.1 (ci := 5) ⟨in_M, rfl⟩ 36 rfl 10 (by decide) (X.t tw_638 rfl) rfl d_M_order_92 ?_
      refine v_aload_n X.1 d_M_order_95 rfl 0 rfl ?_
      refine v_get X.1 (ci := 5) ⟨in_M, rfl⟩ 36 rfl 7 (by decide) (X.t tw_635 rfl) rfl d_M_order_96 ?_
      refine v_iload_n X.1 d_M_order_99 rfl 3 rfl ?_
      obtain ⟨hb14, hf⟩ := oi_none hf
      obtain ⟨g15, eg16, hf⟩ := ob_some hf
      refine v_iast X.1 44 0 rfl rfl hb14 ((sa_54 ad ca _ _ _).trans (congrArg (wX ad ca) (Option.some.inj eg16))) d_M_order_100 ?_
      refine v_aload_n X.1 d_M_order_101 rfl 0 rfl ?_
      refine v_get X.1 (ci := 5) ⟨in_M, rfl⟩ 36 rfl 11 (by decide) (X.t tw_639 rfl) rfl d_M_order_102 ?_
      refine v_aload_n X.1 d_M_order_105 rfl 0 rfl ?_
      refine v_get X.1 (ci := 5) ⟨in_M, rfl⟩ 36 rfl 7 (by decide) (X.t tw_635 rfl) rfl d_M_order_106 ?_
      refine v_iload X.1 d_M_order_109 4 rfl ?_
      obtain ⟨hb17, hf⟩ := oi_none hf
      obtain ⟨g18, eg19, hf⟩ := ob_some hf
      refine v_iast X.1 45 0 rfl rfl hb17 ((sa_55 ad ca _ _ _).trans (congrArg (wX ad ca) (Option.some.inj eg19))) d_M_order_111 ?_
      refine v_aload_n X.1 d_M_order_112 rfl 0 rfl ?_
      refine v_get X.1 (ci := 5) ⟨in_M, rfl⟩ 36 rfl 12 (by decide) (X.t tw_640 rfl) rfl d_M_order_113 ?_
      refine v_aload_n X.1 d_M_order_116 rfl 0 rfl ?_
      refine v_get X.1 (ci := 5) ⟨in_M, rfl⟩ 36 rfl 7 (by decide) (X.t tw_635 rfl) rfl d_M_order_117 ?_
      refine v_sipush X.1 (v := (1000 : Int32)) d_M_order_120 (by decide) ?_
      obtain ⟨hb20, hf⟩ := oi_none hf
      obtain ⟨g21, eg22, hf⟩ := ob_some hf
      refine v_iast X.1 46 0 rfl rfl hb20 ((sa_56 ad ca _ _ _).trans (congrArg (wX ad ca) (Option.some.inj eg22))) d_M_order_123 ?_
      refine v_aload_n X.1 d_M_order_124 rfl 0 rfl ?_
      refine v_get X.1 (ci := 5) ⟨in_M, rfl⟩ 36 rfl 13 (by decide) (X.t tw_641 rfl) rfl d_M_order_125 ?_
      refine v_aload_n X.1 d_M_order_128 rfl 0 rfl ?_
      refine v_get X.1 (ci := 5) ⟨in_M, rfl⟩ 36 rfl 7 (by decide) (X.t tw_635 rfl) rfl d_M_order_129 ?_
      refine v_sipush X.1 (v := (1023 : Int32)) d_M_order_132 (by decide) ?_
      obtain ⟨hb23, hf⟩ := oi_none hf
      obtain ⟨g24, eg25, hf⟩ := ob_some hf
      refine v_iast X.1 47 0 rfl rfl hb23 ((sa_57 ad ca _ _ _).trans (congrArg (wX ad ca) (Option.some.inj eg25))) d_M_order_135 ?_
      refine v_aload_n X.1 d_M_order_136 rfl 0 rfl ?_
      refine v_dup X.1 d_M_order_137 rfl ?_
      refine v_get X.1 (ci := 5) ⟨in_M, rfl⟩ 36 rfl 7 (by decide) (X.t tw_635 rfl) rfl d_M_order_138 ?_
      refine v_iconst X.1 (v := (1 : Int32)) d_M_order_141 (by decide) ?_
      refine v_iadd X.1 d_M_order_142 ?_
      obtain ⟨g26, eg27, hf⟩ := ob_some hf
      refine v_put X.1 (ci := 5) ⟨in_M, rfl⟩ 36 rfl 7 (by decide) ⟨ty_M_ok, nm_M⟩ (X.t tw_635 rfl) rfl (ty := .int) (by decide +kernel) rfl rfl (Nat.le_of_ble_eq_true rfl) ((sw_42 ad ca _ _).trans (congrArg (wX ad ca) (Option.some.inj eg27))) d_M_order_143 ?_
      refine v_aload_n X.1 d_M_order_146 rfl 0 rfl ?_
      refine v_get X.1 (ci := 5) ⟨in_M, rfl⟩ 36 rfl 7 (by decide) (X.t tw_635 rfl) rfl d_M_order_147 ?_
      refine v_iconst X.1 (v := (1 : Int32)) d_M_order_150 (by decide) ?_
      refine v_isub X.1 d_M_order_151 ?_
      cases hf
      exact v_iret X.1 X.2.2.1 rfl d_M_order_152 X.2.2.2.1 (by decide) (by decide)
    · rw [if_neg c7] at hf
      refine v_iconst X.1 (v := (0 : Int32)) d_M_order_69 (by decide) ?_
      cases hf
      exact v_iret X.1 X.2.2.1 rfl d_M_order_70 X.2.2.2.1 (by decide) (by decide)
  · rw [if_neg c4] at hf
    refine v_iload_n X.1 d_M_order_11 rfl 2 rfl ?_
    refine v_iconst X.1 (v := (1 : Int32)) d_M_order_12 (by decide) ?_
    refine v_bipush X.1 (v := (6 : Int32)) d_M_order_13 (by decide) ?_
    obtain ⟨r29, g30, hc28, hf⟩ := ob2_some hf
    refine v_backI X.1 (x_runS X (c_M_in l p2 ((1 : Int32)) ((6 : Int32)) _ _ _ hc28) tw_723 tw_57 tw_721 tw_722 ⟨rfl, rfl, by decide, by decide⟩ ⟨by decide, by show _ = some 3; decide⟩ (rest := [.ref (ad 36)]) rfl (Nat.le_of_ble_eq_true rfl) d_M_order_15 (by decide) (by decide)) ?_
    refine v_if_eq X.1 (tgt := 41) d_M_order_18 (by decide) (fun c31 => ?_) (fun c31 => ?_)
    · rw [if_pos c31] at hf
      refine v_iconst X.1 (v := (1 : Int32)) d_M_order_41 (by decide) ?_
      refine v_goto X.1 (tgt := 59) d_M_order_42 (by decide) ?_
      obtain ⟨g32, eg33, hf⟩ := ob_some hf
      refine v_put X.1 (ci := 5) ⟨in_M, rfl⟩ 36 rfl 0 (by decide) ⟨ty_M_ok, nm_M⟩ (X.t tw_628 rfl) rfl (ty := .int) (by decide +kernel) rfl rfl (Nat.le_of_ble_eq_true rfl) ((sw_40 ad ca _ _).trans (congrArg (wX ad ca) (Option.some.inj eg33))) d_M_order_59 ?_
      refine v_aload_n X.1 d_M_order_62 rfl 0 rfl ?_
      refine v_get X.1 (ci := 5) ⟨in_M, rfl⟩ 36 rfl 0 (by decide) (X.t tw_628 rfl) rfl d_M_order_63 ?_
      refine v_if_le X.1 (tgt := 71) d_M_order_66 (by decide) (fun c34 => ?_) (fun c34 => ?_)
      · rw [if_pos c34] at hf
        refine v_aload_n X.1 d_M_order_71 rfl 0 rfl ?_
        refine v_get X.1 (ci := 5) ⟨in_M, rfl⟩ 36 rfl 8 (by decide) (X.t tw_636 rfl) rfl d_M_order_72 ?_
        refine v_aload_n X.1 d_M_order_75 rfl 0 rfl ?_
        refine v_get X.1 (ci := 5) ⟨in_M, rfl⟩ 36 rfl 7 (by decide) (X.t tw_635 rfl) rfl d_M_order_76 ?_
        refine v_iload_n X.1 d_M_order_79 rfl 1 rfl ?_
        obtain ⟨hb35, hf⟩ := oi_none hf
        obtain ⟨g36, eg37, hf⟩ := ob_some hf
        refine v_iast X.1 42 0 rfl rfl hb35 ((sa_52 ad ca _ _ _).trans (congrArg (wX ad ca) (Option.some.inj eg37))) d_M_order_80 ?_
        refine v_aload_n X.1 d_M_order_81 rfl 0 rfl ?_
        refine v_get X.1 (ci := 5) ⟨in_M, rfl⟩ 36 rfl 9 (by decide) (X.t tw_637 rfl) rfl d_M_order_82 ?_
        refine v_aload_n X.1 d_M_order_85 rfl 0 rfl ?_
        refine v_get X.1 (ci := 5) ⟨in_M, rfl⟩ 36 rfl 7 (by decide) (X.t tw_635 rfl) rfl d_M_order_86 ?_
        refine v_iload_n X.1 d_M_order_89 rfl 2 rfl ?_
        obtain ⟨hb38, hf⟩ := oi_none hf
        obtain ⟨g39, eg40, hf⟩ := ob_some hf
        refine v_iast X.1 43 0 rfl rfl hb38 ((sa_53 ad ca _ _ _).trans (congrArg (wX ad ca) (Option.some.inj eg40))) d_M_order_90 ?_
        refine v_aload_n X.1 d_M_order_91 rfl 0 rfl ?_
        refine v_get X.1 (ci := 5) ⟨in_M, rfl⟩ 36 rfl 10 (by decide) (X.t tw_638 rfl) rfl d_M_order_92 ?_
        refine v_aload_n X.1 d_M_order_95 rfl 0 rfl ?_
        refine v_get X.1 (ci := 5) ⟨in_M, rfl⟩ 36 rfl 7 (by decide) (X.t tw_635 rfl) rfl d_M_order_96 ?_
        refine v_iload_n X.1 d_M_order_99 rfl 3 rfl ?_
        obtain ⟨hb41, hf⟩ := oi_none hf
        obtain ⟨g42, eg43, hf⟩ := ob_some hf
        refine v_iast X.1 44 0 rfl rfl hb41 ((sa_54 ad ca _ _ _).trans (congrArg (wX ad ca) (Option.some.inj eg43))) d_M_order_100 ?_
        refine v_aload_n X.1 d_M_order_101 rfl 0 rfl ?_
        refine v_get X.1 (ci := 5) ⟨in_M, rfl⟩ 36 rfl 11 (by decide) (X.t tw_639 rfl) rfl d_M_order_102 ?_
        refine v_aload_n X.1 d_M_order_105 rfl 0 rfl ?_
        refine v_get X.1 (ci := 5) ⟨in_M, rfl⟩ 36 rfl 7 (by decide) (X.t tw_635 rfl) rfl d_M_order_106 ?_
        refine v_iload X.1 d_M_order_109 4 rfl ?_
        obtain ⟨hb44, hf⟩ := oi_none hf
        obtain ⟨g45, eg46, hf⟩ := ob_some hf
        refine v_iast X.1 45 0 rfl rfl hb44 ((sa_55 ad ca _ _ _).trans (congrArg (wX ad ca) (Option.some.inj eg46))) d_M_order_111 ?_
        refine v_aload_n X.1 d_M_order_112 rfl 0 rfl ?_
        refine v_get X.1 (ci := 5) ⟨in_M, rfl⟩ 36 rfl 12 (by decide) (X.t tw_640 rfl) rfl d_M_order_113 ?_
        refine v_aload_n X.1 d_M_order_116 rfl 0 rfl ?_
        refine v_get X.1 (ci := 5) ⟨in_M, rfl⟩ 36 rfl 7 (by decide) (X.t tw_635 rfl) rfl d_M_order_117 ?_
        refine v_sipush X.1 (v := (1000 : Int32)) d_M_order_120 (by decide) ?_
        obtain ⟨hb47, hf⟩ := oi_none hf
        obtain ⟨g48, eg49, hf⟩ := ob_some hf
        refine v_iast X.1 46 0 rfl rfl hb47 ((sa_56 ad ca _ _ _).trans (congrArg (wX ad ca) (Option.some.inj eg49))) d_M_order_123 ?_
        refine v_aload_n X.1 d_M_order_124 rfl 0 rfl ?_
        refine v_get X.1 (ci := 5) ⟨in_M, rfl⟩ 36 rfl 13 (by decide) (X.t tw_641 rfl) rfl d_M_order_125 ?_
        refine v_aload_n X.1 d_M_order_128 rfl 0 rfl ?_
        refine v_get X.1 (ci := 5) ⟨in_M, rfl⟩ 36 rfl 7 (by decide) (X.t tw_635 rfl) rfl d_M_order_129 ?_
        refine v_sipush X.1 (v := (1023 : Int32)) d_M_order_132 (by decide) ?_
        obtain ⟨hb50, hf⟩ := oi_none hf
        obtain ⟨g51, eg52, hf⟩ := ob_some hf
        refine v_iast X.1 47 0 rfl rfl hb50 ((sa_57 ad ca _ _ _).trans (congrArg (wX ad ca) (Option.some.inj eg52))) d_M_order_135 ?_
        refine v_aload_n X.1 d_M_order_136 rfl 0 rfl ?_
        refine v_dup X.1 d_M_order_137 rfl ?_
        refine v_get X.1 (ci := 5) ⟨in_M, rfl⟩ 36 rfl 7 (by decide) (X.t tw_635 rfl) rfl d_M_order_138 ?_
        refine v_iconst X.1 (v := (1 : Int32)) d_M_order_141 (by decide) ?_
        refine v_iadd X.1 d_M_order_142 ?_
        obtain ⟨g53, eg54, hf⟩ := ob_some hf
        refine v_put X.1 (ci := 5) ⟨in_M, rfl⟩ 36 rfl 7 (by decide) ⟨ty_M_ok, nm_M⟩ (X.t tw_635 rfl) rfl (ty := .int) (by decide +kernel) rfl rfl (Nat.le_of_ble_eq_true rfl) ((sw_42 ad ca _ _).trans (congrArg (wX ad ca) (Option.some.inj eg54))) d_M_order_143 ?_
        refine v_aload_n X.1 d_M_order_146 rfl 0 rfl ?_
        refine v_get X.1 (ci := 5) ⟨in_M, rfl⟩ 36 rfl 7 (by decide) (X.t tw_635 rfl) rfl d_M_order_147 ?_
        refine v_iconst X.1 (v := (1 : Int32)) d_M_order_150 (by decide) ?_
        refine v_isub X.1 d_M_order_151 ?_
        cases hf
        exact v_iret X.1 X.2.2.1 rfl d_M_order_152 X.2.2.2.1 (by decide) (by decide)
      · rw [if_neg c34] at hf
        refine v_iconst X.1 (v := (0 : Int32)) d_M_order_69 (by decide) ?_
        cases hf
        exact v_iret X.1 X.2.2.1 rfl d_M_order_70 X.2.2.2.1 (by decide) (by decide)
    · rw [if_neg c31] at hf
      refine v_iload_n X.1 d_M_order_21 rfl 3 rfl ?_
      refine v_iconst X.1 (v := (1 : Int32)) d_M_order_22 (by decide) ?_
      refine v_bipush X.1 (v := (9 : Int32)) d_M_order_23 (by decide) ?_
      obtain ⟨r56, g57, hc55, hf⟩ := ob2_some hf
      refine v_backI X.1 (x_runS X (c_M_in l p3 ((1 : Int32)) ((9 : Int32)) _ _ _ hc55) tw_723 tw_57 tw_721 tw_722 ⟨rfl, rfl, by decide, by decide⟩ ⟨by decide, by show _ = some 3; decide⟩ (rest := [.ref (ad 36)]) rfl (Nat.le_of_ble_eq_true rfl) d_M_order_25 (by decide) (by decide)) ?_
      refine v_if_eq X.1 (tgt := 41) d_M_order_28 (by decide) (fun c58 => ?_) (fun c58 => ?_)
      · rw [if_pos c58] at hf
        refine v_iconst X.1 (v := (1 : Int32)) d_M_order_41 (by decide) ?_
        refine v_goto X.1 (tgt := 59) d_M_order_42 (by decide) ?_
        obtain ⟨g59, eg60, hf⟩ := ob_some hf
        refine v_put X.1 (ci := 5) ⟨in_M, rfl⟩ 36 rfl 0 (by decide) ⟨ty_M_ok, nm_M⟩ (X.t tw_628 rfl) rfl (ty := .int) (by decide +kernel) rfl rfl (Nat.le_of_ble_eq_true rfl) ((sw_40 ad ca _ _).trans (congrArg (wX ad ca) (Option.some.inj eg60))) d_M_order_59 ?_
        refine v_aload_n X.1 d_M_order_62 rfl 0 rfl ?_
        refine v_get X.1 (ci := 5) ⟨in_M, rfl⟩ 36 rfl 0 (by decide) (X.t tw_628 rfl) rfl d_M_order_63 ?_
        refine v_if_le X.1 (tgt := 71) d_M_order_66 (by decide) (fun c61 => ?_) (fun c61 => ?_)
        · rw [if_pos c61] at hf
          refine v_aload_n X.1 d_M_order_71 rfl 0 rfl ?_
          refine v_get X.1 (ci := 5) ⟨in_M, rfl⟩ 36 rfl 8 (by decide) (X.t tw_636 rfl) rfl d_M_order_72 ?_
          refine v_aload_n X.1 d_M_order_75 rfl 0 rfl ?_
          refine v_get X.1 (ci := 5) ⟨in_M, rfl⟩ 36 rfl 7 (by decide) (X.t tw_635 rfl) rfl d_M_order_76 ?_
          refine v_iload_n X.1 d_M_order_79 rfl 1 rfl ?_
          obtain ⟨hb62, hf⟩ := oi_none hf
          obtain ⟨g63, eg64, hf⟩ := ob_some hf
          refine v_iast X.1 42 0 rfl rfl hb62 ((sa_52 ad ca _ _ _).trans (congrArg (wX ad ca) (Option.some.inj eg64))) d_M_order_80 ?_
          refine v_aload_n X.1 d_M_order_81 rfl 0 rfl ?_
          refine v_get X.1 (ci := 5) ⟨in_M, rfl⟩ 36 rfl 9 (by decide) (X.t tw_637 rfl) rfl d_M_order_82 ?_
          refine v_aload_n X.1 d_M_order_85 rfl 0 rfl ?_
          refine v_get X.1 (ci := 5) ⟨in_M, rfl⟩ 36 rfl 7 (by decide) (X.t tw_635 rfl) rfl d_M_order_86 ?_
          refine v_iload_n X.1 d_M_order_89 rfl 2 rfl ?_
          obtain ⟨hb65, hf⟩ := oi_none hf
          obtain ⟨g66, eg67, hf⟩ := ob_some hf
          refine v_iast X.1 43 0 rfl rfl hb65 ((sa_53 ad ca _ _ _).trans (congrArg (wX ad ca) (Option.some.inj eg67))) d_M_order_90 ?_
          refine v_aload_n X.1 d_M_order_91 rfl 0 rfl ?_
          refine v_get X.1 (ci := 5) ⟨in_M, rfl⟩ 36 rfl 10 (by decide) (X.t tw_638 rfl) rfl d_M_order_92 ?_
          refine v_aload_n X.1 d_M_order_95 rfl 0 rfl ?_
          refine v_get X.1 (ci := 5) ⟨in_M, rfl⟩ 36 rfl 7 (by decide) (X.t tw_635 rfl) rfl d_M_order_96 ?_
          refine v_iload_n X.1 d_M_order_99 rfl 3 rfl ?_
          obtain ⟨hb68, hf⟩ := oi_none hf
          obtain ⟨g69, eg70, hf⟩ := ob_some hf
          refine v_iast X.1 44 0 rfl rfl hb68 ((sa_54 ad ca _ _ _).trans (congrArg (wX ad ca) (Option.some.inj eg70))) d_M_order_100 ?_
          refine v_aload_n X.1 d_M_order_101 rfl 0 rfl ?_
          refine v_get X.1 (ci := 5) ⟨in_M, rfl⟩ 36 rfl 11 (by decide) (X.t tw_639 rfl) rfl d_M_order_102 ?_
          refine v_aload_n X.1 d_M_order_105 rfl 0 rfl ?_
          refine v_get X.1 (ci := 5) ⟨in_M, rfl⟩ 36 rfl 7 (by decide) (X.t tw_635 rfl) rfl d_M_order_106 ?_
          refine v_iload X.1 d_M_order_109 4 rfl ?_
          obtain ⟨hb71, hf⟩ := oi_none hf
          obtain ⟨g72, eg73, hf⟩ := ob_some hf
          refine v_iast X.1 45 0 rfl rfl hb71 ((sa_55 ad ca _ _ _).trans (congrArg (wX ad ca) (Option.some.inj eg73))) d_M_order_111 ?_
          refine v_aload_n X.1 d_M_order_112 rfl 0 rfl ?_
          refine v_get X.1 (ci := 5) ⟨in_M, rfl⟩ 36 rfl 12 (by decide) (X.t tw_640 rfl) rfl d_M_order_113 ?_
          refine v_aload_n X.1 d_M_order_116 rfl 0 rfl ?_
          refine v_get X.1 (ci := 5) ⟨in_M, rfl⟩ 36 rfl 7 (by decide) (X.t tw_635 rfl) rfl d_M_order_117 ?_
          refine v_sipush X.1 (v := (1000 : Int32)) d_M_order_120 (by decide) ?_
          obtain ⟨hb74, hf⟩ := oi_none hf
          obtain ⟨g75, eg76, hf⟩ := ob_some hf
          refine v_iast X.1 46 0 rfl rfl hb74 ((sa_56 ad ca _ _ _).trans (congrArg (wX ad ca) (Option.some.inj eg76))) d_M_order_123 ?_
          refine v_aload_n X.1 d_M_order_124 rfl 0 rfl ?_
          refine v_get X.1 (ci := 5) ⟨in_M, rfl⟩ 36 rfl 13 (by decide) (X.t tw_641 rfl) rfl d_M_order_125 ?_
          refine v_aload_n X.1 d_M_order_128 rfl 0 rfl ?_
          refine v_get X.1 (ci := 5) ⟨in_M, rfl⟩ 36 rfl 7 (by decide) (X.t tw_635 rfl) rfl d_M_order_129 ?_
          refine v_sipush X.1 (v := (1023 : Int32)) d_M_order_132 (by decide) ?_
          obtain ⟨hb77, hf⟩ := oi_none hf
          obtain ⟨g78, eg79, hf⟩ := ob_some hf
          refine v_iast X.1 47 0 rfl rfl hb77 ((sa_57 ad ca _ _ _).trans (congrArg (wX ad ca) (Option.some.inj eg79))) d_M_order_135 ?_
          refine v_aload_n X.1 d_M_order_136 rfl 0 rfl ?_
          refine v_dup X.1 d_M_order_137 rfl ?_
          refine v_get X.1 (ci := 5) ⟨in_M, rfl⟩ 36 rfl 7 (by decide) (X.t tw_635 rfl) rfl d_M_order_138 ?_
          refine v_iconst X.1 (v := (1 : Int32)) d_M_order_141 (by decide) ?_
          refine v_iadd X.1 d_M_order_142 ?_
          obtain ⟨g80, eg81, hf⟩ := ob_some hf
          refine v_put X.1 (ci := 5) ⟨in_M, rfl⟩ 36 rfl 7 (by decide) ⟨ty_M_ok, nm_M⟩ (X.t tw_635 rfl) rfl (ty := .int) (by decide +kernel) rfl rfl (Nat.le_of_ble_eq_true rfl) ((sw_42 ad ca _ _).trans (congrArg (wX ad ca) (Option.some.inj eg81))) d_M_order_143 ?_
          refine v_aload_n X.1 d_M_order_146 rfl 0 rfl ?_
          refine v_get X.1 (ci := 5) ⟨in_M, rfl⟩ 36 rfl 7 (by decide) (X.t tw_635 rfl) rfl d_M_order_147 ?_
          refine v_iconst X.1 (v := (1 : Int32)) d_M_order_150 (by decide) ?_
          refine v_isub X.1 d_M_order_151 ?_
          cases hf
          exact v_iret X.1 X.2.2.1 rfl d_M_order_152 X.2.2.2.1 (by decide) (by decide)
        · rw [if_neg c61] at hf
          refine v_iconst X.1 (v := (0 : Int32)) d_M_order_69 (by decide) ?_
          cases hf
          exact v_iret X.1 X.2.2.1 rfl d_M_order_70 X.2.2.2.1 (by decide) (by decide)
      · rw [if_neg c58] at hf
        refine v_iload X.1 d_M_order_31 4 rfl ?_
        refine v_iconst X.1 (v := (0 : Int32)) d_M_order_33 (by decide) ?_
        refine v_iconst X.1 (v := (3 : Int32)) d_M_order_34 (by decide) ?_
        obtain ⟨r83, g84, hc82, hf⟩ := ob2_some hf
        refine v_backI X.1 (x_runS X (c_M_in l p4 ((0 : Int32)) ((3 : Int32)) _ _ _ hc82) tw_723 tw_57 tw_721 tw_722 ⟨rfl, rfl, by decide, by decide⟩ ⟨by decide, by show _ = some 3; decide⟩ (rest := [.ref (ad 36)]) rfl (Nat.le_of_ble_eq_true rfl) d_M_order_35 (by decide) (by decide)) ?_
        refine v_if_ne X.1 (tgt := 45) d_M_order_38 (by decide) (fun c85 => ?_) (fun c85 => ?_)
        · rw [if_neg c85] at hf
          refine v_aload_n X.1 d_M_order_45 rfl 0 rfl ?_
          refine v_get X.1 (ci := 5) ⟨in_M, rfl⟩ 36 rfl 7 (by decide) (X.t tw_635 rfl) rfl d_M_order_46 ?_
          refine v_bipush X.1 (v := (8 : Int32)) d_M_order_49 (by decide) ?_
          refine v_icmp_ne X.1 (tgt := 58) d_M_order_51 (by decide) (fun c86 => ?_) (fun c86 => ?_)
          · rw [if_neg c86] at hf
            refine v_iconst X.1 (v := (0 : Int32)) d_M_order_58 (by decide) ?_
            obtain ⟨g87, eg88, hf⟩ := ob_some hf
            refine v_put X.1 (ci := 5) ⟨in_M, rfl⟩ 36 rfl 0 (by decide) ⟨ty_M_ok, nm_M⟩ (X.t tw_628 rfl) rfl (ty := .int) (by decide +kernel) rfl rfl (Nat.le_of_ble_eq_true rfl) ((sw_40 ad ca _ _).trans (congrArg (wX ad ca) (Option.some.inj eg88))) d_M_order_59 ?_
            refine v_aload_n X.1 d_M_order_62 rfl 0 rfl ?_
            refine v_get X.1 (ci := 5) ⟨in_M, rfl⟩ 36 rfl 0 (by decide) (X.t tw_628 rfl) rfl d_M_order_63 ?_
            refine v_if_le X.1 (tgt := 71) d_M_order_66 (by decide) (fun c89 => ?_) (fun c89 => ?_)
            · rw [if_pos c89] at hf
              refine v_aload_n X.1 d_M_order_71 rfl 0 rfl ?_
              refine v_get X.1 (ci := 5) ⟨in_M, rfl⟩ 36 rfl 8 (by decide) (X.t tw_636 rfl) rfl d_M_order_72 ?_
              refine v_aload_n X.1 d_M_order_75 rfl 0 rfl ?_
              refine v_get X.1 (ci := 5) ⟨in_M, rfl⟩ 36 rfl 7 (by decide) (X.t tw_635 rfl) rfl d_M_order_76 ?_
              refine v_iload_n X.1 d_M_order_79 rfl 1 rfl ?_
              obtain ⟨hb90, hf⟩ := oi_none hf
              obtain ⟨g91, eg92, hf⟩ := ob_some hf
              refine v_iast X.1 42 0 rfl rfl hb90 ((sa_52 ad ca _ _ _).trans (congrArg (wX ad ca) (Option.some.inj eg92))) d_M_order_80 ?_
              refine v_aload_n X.1 d_M_order_81 rfl 0 rfl ?_
              refine v_get X.1 (ci := 5) ⟨in_M, rfl⟩ 36 rfl 9 (by decide) (X.t tw_637 rfl) rfl d_M_order_82 ?_
              refine v_aload_n X.1 d_M_order_85 rfl 0 rfl ?_
              refine v_get X.1 (ci := 5) ⟨in_M, rfl⟩ 36 rfl 7 (by decide) (X.t tw_635 rfl) rfl d_M_order_86 ?_
              refine v_iload_n X.1 d_M_order_89 rfl 2 rfl ?_
              obtain ⟨hb93, hf⟩ := oi_none hf
              obtain ⟨g94, eg95, hf⟩ := ob_some hf
              refine v_iast X.1 43 0 rfl rfl hb93 ((sa_53 ad ca _ _ _).trans (congrArg (wX ad ca) (Option.some.inj eg95))) d_M_order_90 ?_
              refine v_aload_n X.1 d_M_order_91 rfl 0 rfl ?_
              refine v_get X.1 (ci := 5) ⟨in_M, rfl⟩ 36 rfl 10 (by decide) (X.t tw_638 rfl) rfl d_M_order_92 ?_
              refine v_aload_n X.1 d_M_order_95 rfl 0 rfl ?_
              refine v_get X.1 (ci := 5) ⟨in_M, rfl⟩ 36 rfl 7 (by decide) (X.t tw_635 rfl) rfl d_M_order_96 ?_
              refine v_iload_n X.1 d_M_order_99 rfl 3 rfl ?_
              obtain ⟨hb96, hf⟩ := oi_none hf
              obtain ⟨g97, eg98, hf⟩ := ob_some hf
              refine v_iast X.1 44 0 rfl rfl hb96 ((sa_54 ad ca _ _ _).trans (congrArg (wX ad ca) (Option.some.inj eg98))) d_M_order_100 ?_
              refine v_aload_n X.1 d_M_order_101 rfl 0 rfl ?_
              refine v_get X.1 (ci := 5) ⟨in_M, rfl⟩ 36 rfl 11 (by decide) (X.t tw_639 rfl) rfl d_M_order_102 ?_
              refine v_aload_n X.1 d_M_order_105 rfl 0 rfl ?_
              refine v_get X.1 (ci := 5) ⟨in_M, rfl⟩ 36 rfl 7 (by decide) (X.t tw_635 rfl) rfl d_M_order_106 ?_
              refine v_iload X.1 d_M_order_109 4 rfl ?_
              obtain ⟨hb99, hf⟩ := oi_none hf
              obtain ⟨g100, eg101, hf⟩ := ob_some hf
              refine v_iast X.1 45 0 rfl rfl hb99 ((sa_55 ad ca _ _ _).trans (congrArg (wX ad ca) (Option.some.inj eg101))) d_M_order_111 ?_
              refine v_aload_n X.1 d_M_order_112 rfl 0 rfl ?_
              refine v_get X.1 (ci := 5) ⟨in_M, rfl⟩ 36 rfl 12 (by decide) (X.t tw_640 rfl) rfl d_M_order_113 ?_
              refine v_aload_n X.1 d_M_order_116 rfl 0 rfl ?_
              refine v_get X.1 (ci := 5) ⟨in_M, rfl⟩ 36 rfl 7 (by decide) (X.t tw_635 rfl) rfl d_M_order_117 ?_
              refine v_sipush X.1 (v := (1000 : Int32)) d_M_order_120 (by decide) ?_
              obtain ⟨hb102, hf⟩ := oi_none hf
              obtain ⟨g103, eg104, hf⟩ := ob_some hf
              refine v_iast X.1 46 0 rfl rfl hb102 ((sa_56 ad ca _ _ _).trans (congrArg (wX ad ca) (Option.some.inj eg104))) d_M_order_123 ?_
              refine v_aload_n X.1 d_M_order_124 rfl 0 rfl ?_
              refine v_get X.1 (ci := 5) ⟨in_M, rfl⟩ 36 rfl 13 (by decide) (X.t tw_641 rfl) rfl d_M_order_125 ?_
              refine v_aload_n X.1 d_M_order_128 rfl 0 rfl ?_
              refine v_get X.1 (ci := 5) ⟨in_M, rfl⟩ 36 rfl 7 (by decide) (X.t tw_635 rfl) rfl d_M_order_129 ?_
              refine v_sipush X.1 (v := (1023 : Int32)) d_M_order_132 (by decide) ?_
              obtain ⟨hb105, hf⟩ := oi_none hf
              obtain ⟨g106, eg107, hf⟩ := ob_some hf
              refine v_iast X.1 47 0 rfl rfl hb105 ((sa_57 ad ca _ _ _).trans (congrArg (wX ad ca) (Option.some.inj eg107))) d_M_order_135 ?_
              refine v_aload_n X.1 d_M_order_136 rfl 0 rfl ?_
              refine v_dup X.1 d_M_order_137 rfl ?_
              refine v_get X.1 (ci := 5) ⟨in_M, rfl⟩ 36 rfl 7 (by decide) (X.t tw_635 rfl) rfl d_M_order_138 ?_
              refine v_iconst X.1 (v := (1 : Int32)) d_M_order_141 (by decide) ?_
              refine v_iadd X.1 d_M_order_142 ?_
              obtain ⟨g108, eg109, hf⟩ := ob_some hf
              refine v_put X.1 (ci := 5) ⟨in_M, rfl⟩ 36 rfl 7 (by decide) ⟨ty_M_ok, nm_M⟩ (X.t tw_635 rfl) rfl (ty := .int) (by decide +kernel) rfl rfl (Nat.le_of_ble_eq_true rfl) ((sw_42 ad ca _ _).trans (congrArg (wX ad ca) (Option.some.inj eg109))) d_M_order_143 ?_
              refine v_aload_n X.1 d_M_order_146 rfl 0 rfl ?_
              refine v_get X.1 (ci := 5) ⟨in_M, rfl⟩ 36 rfl 7 (by decide) (X.t tw_635 rfl) rfl d_M_order_147 ?_
              refine v_iconst X.1 (v := (1 : Int32)) d_M_order_150 (by decide) ?_
              refine v_isub X.1 d_M_order_151 ?_
              cases hf
              exact v_iret X.1 X.2.2.1 rfl d_M_order_152 X.2.2.2.1 (by decide) (by decide)
            · rw [if_neg c89] at hf
              refine v_iconst X.1 (v := (0 : Int32)) d_M_order_69 (by decide) ?_
              cases hf
              exact v_iret X.1 X.2.2.1 rfl d_M_order_70 X.2.2.2.1 (by decide) (by decide)
          · rw [if_pos c86] at hf
            refine v_iconst X.1 (v := (2 : Int32)) d_M_order_54 (by decide) ?_
            refine v_goto X.1 (tgt := 59) d_M_order_55 (by decide) ?_
            obtain ⟨g110, eg111, hf⟩ := ob_some hf
            refine v_put X.1 (ci := 5) ⟨in_M, rfl⟩ 36 rfl 0 (by decide) ⟨ty_M_ok, nm_M⟩ (X.t tw_628 rfl) rfl (ty := .int) (by decide +kernel) rfl rfl (Nat.le_of_ble_eq_true rfl) ((sw_40 ad ca _ _).trans (congrArg (wX ad ca) (Option.some.inj eg111))) d_M_order_59 ?_
            refine v_aload_n X.1 d_M_order_62 rfl 0 rfl ?_
            refine v_get X.1 (ci := 5) ⟨in_M, rfl⟩ 36 rfl 0 (by decide) (X.t tw_628 rfl) rfl d_M_order_63 ?_
            refine v_if_le X.1 (tgt := 71) d_M_order_66 (by decide) (fun c112 => ?_) (fun c112 => ?_)
            · rw [if_pos c112] at hf
              refine v_aload_n X.1 d_M_order_71 rfl 0 rfl ?_
              refine v_get X.1 (ci := 5) ⟨in_M, rfl⟩ 36 rfl 8 (by decide) (X.t tw_636 rfl) rfl d_M_order_72 ?_
              refine v_aload_n X.1 d_M_order_75 rfl 0 rfl ?_
              refine v_get X.1 (ci := 5) ⟨in_M, rfl⟩ 36 rfl 7 (by decide) (X.t tw_635 rfl) rfl d_M_order_76 ?_
              refine v_iload_n X.1 d_M_order_79 rfl 1 rfl ?_
              obtain ⟨hb113, hf⟩ := oi_none hf
              obtain ⟨g114, eg115, hf⟩ := ob_some hf
              refine v_iast X.1 42 0 rfl rfl hb113 ((sa_52 ad ca _ _ _).trans (congrArg (wX ad ca) (Option.some.inj eg115))) d_M_order_80 ?_
              refine v_aload_n X.1 d_M_order_81 rfl 0 rfl ?_
              refine v_get X.1 (ci := 5) ⟨in_M, rfl⟩ 36 rfl 9 (by decide) (X.t tw_637 rfl) rfl d_M_order_82 ?_
              refine v_aload_n X.1 d_M_order_85 rfl 0 rfl ?_
              refine v_get X.1 (ci := 5) ⟨in_M, rfl⟩ 36 rfl 7 (by decide) (X.t tw_635 rfl) rfl d_M_order_86 ?_
              refine v_iload_n X.1 d_M_order_89 rfl 2 rfl ?_
              obtain ⟨hb116, hf⟩ := oi_none hf
              obtain ⟨g117, eg118, hf⟩ := ob_some hf
              refine v_iast X.1 43 0 rfl rfl hb116 ((sa_53 ad ca _ _ _).trans (congrArg (wX ad ca) (Option.some.inj eg118))) d_M_order_90 ?_
              refine v_aload_n X.1 d_M_order_91 rfl 0 rfl ?_
              refine v_get X.1 (ci := 5) ⟨in_M, rfl⟩ 36 rfl 10 (by decide) (X.t tw_638 rfl) rfl d_M_order_92 ?_
              refine v_aload_n X.1 d_M_order_95 rfl 0 rfl ?_
              refine v_get X.1 (ci := 5) ⟨in_M, rfl⟩ 36 rfl 7 (by decide) (X.t tw_635 rfl) rfl d_M_order_96 ?_
              refine v_iload_n X.1 d_M_order_99 rfl 3 rfl ?_
              obtain ⟨hb119, hf⟩ := oi_none hf
              obtain ⟨g120, eg121, hf⟩ := ob_some hf
              refine v_iast X.1 44 0 rfl rfl hb119 ((sa_54 ad ca _ _ _).trans (congrArg (wX ad ca) (Option.some.inj eg121))) d_M_order_100 ?_
              refine v_aload_n X.1 d_M_order_101 rfl 0 rfl ?_
              refine v_get X.1 (ci := 5) ⟨in_M, rfl⟩ 36 rfl 11 (by decide) (X.t tw_639 rfl) rfl d_M_order_102 ?_
              refine v_aload_n X.1 d_M_order_105 rfl 0 rfl ?_
              refine v_get X.1 (ci := 5) ⟨in_M, rfl⟩ 36 rfl 7 (by decide) (X.t tw_635 rfl) rfl d_M_order_106 ?_
              refine v_iload X.1 d_M_order_109 4 rfl ?_
              obtain ⟨hb122, hf⟩ := oi_none hf
              obtain ⟨g123, eg124, hf⟩ := ob_some hf
              refine v_iast X.1 45 0 rfl rfl hb122 ((sa_55 ad ca _ _ _).trans (congrArg (wX ad ca) (Option.some.inj eg124))) d_M_order_111 ?_
              refine v_aload_n X.1 d_M_order_112 rfl 0 rfl ?_
              refine v_get X.1 (ci := 5) ⟨in_M, rfl⟩ 36 rfl 12 (by decide) (X.t tw_640 rfl) rfl d_M_order_113 ?_
              refine v_aload_n X.1 d_M_order_116 rfl 0 rfl ?_
              refine v_get X.1 (ci := 5) ⟨in_M, rfl⟩ 36 rfl 7 (by decide) (X.t tw_635 rfl) rfl d_M_order_117 ?_
              refine v_sipush X.1 (v := (1000 : Int32)) d_M_order_120 (by decide) ?_
              obtain ⟨hb125, hf⟩ := oi_none hf
              obtain ⟨g126, eg127, hf⟩ := ob_some hf
              refine v_iast X.1 46 0 rfl rfl hb125 ((sa_56 ad ca _ _ _).trans (congrArg (wX ad ca) (Option.some.inj eg127))) d_M_order_123 ?_
              refine v_aload_n X.1 d_M_order_124 rfl 0 rfl ?_
              refine v_get X.1 (ci := 5) ⟨in_M, rfl⟩ 36 rfl 13 (by decide) (X.t tw_641 rfl) rfl d_M_order_125 ?_
              refine v_aload_n X.1 d_M_order_128 rfl 0 rfl ?_
              refine v_get X.1 (ci := 5) ⟨in_M, rfl⟩ 36 rfl 7 (by decide) (X.t tw_635 rfl) rfl d_M_order_129 ?_
              refine v_sipush X.1 (v := (1023 : Int32)) d_M_order_132 (by decide) ?_
              obtain ⟨hb128, hf⟩ := oi_none hf
              obtain ⟨g129, eg130, hf⟩ := ob_some hf
              refine v_iast X.1 47 0 rfl rfl hb128 ((sa_57 ad ca _ _ _).trans (congrArg (wX ad ca) (Option.some.inj eg130))) d_M_order_135 ?_
              refine v_aload_n X.1 d_M_order_136 rfl 0 rfl ?_
              refine v_dup X.1 d_M_order_137 rfl ?_
              refine v_get X.1 (ci := 5) ⟨in_M, rfl⟩ 36 rfl 7 (by decide) (X.t tw_635 rfl) rfl d_M_order_138 ?_
              refine v_iconst X.1 (v := (1 : Int32)) d_M_order_141 (by decide) ?_
              refine v_iadd X.1 d_M_order_142 ?_
              obtain ⟨g131, eg132, hf⟩ := ob_some hf
              refine v_put X.1 (ci := 5) ⟨in_M, rfl⟩ 36 rfl 7 (by decide) ⟨ty_M_ok, nm_M⟩ (X.t tw_635 rfl) rfl (ty := .int) (by decide +kernel) rfl rfl (Nat.le_of_ble_eq_true rfl) ((sw_42 ad ca _ _).trans (congrArg (wX ad ca) (Option.some.inj eg132))) d_M_order_143 ?_
              refine v_aload_n X.1 d_M_order_146 rfl 0 rfl ?_
              refine v_get X.1 (ci := 5) ⟨in_M, rfl⟩ 36 rfl 7 (by decide) (X.t tw_635 rfl) rfl d_M_order_147 ?_
              refine v_iconst X.1 (v := (1 : Int32)) d_M_order_150 (by decide) ?_
              refine v_isub X.1 d_M_order_151 ?_
              cases hf
              exact v_iret X.1 X.2.2.1 rfl d_M_order_152 X.2.2.2.1 (by decide) (by decide)
            · rw [if_neg c112] at hf
              refine v_iconst X.1 (v := (0 : Int32)) d_M_order_69 (by decide) ?_
              cases hf
              exact v_iret X.1 X.2.2.1 rfl d_M_order_70 X.2.2.2.1 (by decide) (by decide)
        · rw [if_pos c85] at hf
          refine v_iconst X.1 (v := (1 : Int32)) d_M_order_41 (by decide) ?_
          refine v_goto X.1 (tgt := 59) d_M_order_42 (by decide) ?_
          obtain ⟨g133, eg134, hf⟩ := ob_some hf
          refine v_put X.1 (ci := 5) ⟨in_M, rfl⟩ 36 rfl 0 (by decide) ⟨ty_M_ok, nm_M⟩ (X.t tw_628 rfl) rfl (ty := .int) (by decide +kernel) rfl rfl (Nat.le_of_ble_eq_true rfl) ((sw_40 ad ca _ _).trans (congrArg (wX ad ca) (Option.some.inj eg134))) d_M_order_59 ?_
          refine v_aload_n X.1 d_M_order_62 rfl 0 rfl ?_
          refine v_get X.1 (ci := 5) ⟨in_M, rfl⟩ 36 rfl 0 (by decide) (X.t tw_628 rfl) rfl d_M_order_63 ?_
          refine v_if_le X.1 (tgt := 71) d_M_order_66 (by decide) (fun c135 => ?_) (fun c135 => ?_)
          · rw [if_pos c135] at hf
            refine v_aload_n X.1 d_M_order_71 rfl 0 rfl ?_
            refine v_get X.1 (ci := 5) ⟨in_M, rfl⟩ 36 rfl 8 (by decide) (X.t tw_636 rfl) rfl d_M_order_72 ?_
            refine v_aload_n X.1 d_M_order_75 rfl 0 rfl ?_
            refine v_get X.1 (ci := 5) ⟨in_M, rfl⟩ 36 rfl 7 (by decide) (X.t tw_635 rfl) rfl d_M_order_76 ?_
            refine v_iload_n X.1 d_M_order_79 rfl 1 rfl ?_
            obtain ⟨hb136, hf⟩ := oi_none hf
            obtain ⟨g137, eg138, hf⟩ := ob_some hf
            refine v_iast X.1 42 0 rfl rfl hb136 ((sa_52 ad ca _ _ _).trans (congrArg (wX ad ca) (Option.some.inj eg138))) d_M_order_80 ?_
            refine v_aload_n X.1 d_M_order_81 rfl 0 rfl ?_
            refine v_get X.1 (ci := 5) ⟨in_M, rfl⟩ 36 rfl 9 (by decide) (X.t tw_637 rfl) rfl d_M_order_82 ?_
            refine v_aload_n X.1 d_M_order_85 rfl 0 rfl ?_
            refine v_get X.1 (ci := 5) ⟨in_M, rfl⟩ 36 rfl 7 (by decide) (X.t tw_635 rfl) rfl d_M_order_86 ?_
            refine v_iload_n X.1 d_M_order_89 rfl 2 rfl ?_
            obtain ⟨hb139, hf⟩ := oi_none hf
            obtain ⟨g140, eg141, hf⟩ := ob_some hf
            refine v_iast X.1 43 0 rfl rfl hb139 ((sa_53 ad ca _ _ _).trans (congrArg (wX ad ca) (Option.some.inj eg141))) d_M_order_90 ?_
            refine v_aload_n X.1 d_M_order_91 rfl 0 rfl ?_
            refine v_get X.1 (ci := 5) ⟨in_M, rfl⟩ 36 rfl 10 (by decide) (X.t tw_638 rfl) rfl d_M_order_92 ?_
            refine v_aload_n X.1 d_M_order_95 rfl 0 rfl ?_
            refine v_get X.1 (ci := 5) ⟨in_M, rfl⟩ 36 rfl 7 (by decide) (X.t tw_635 rfl) rfl d_M_order_96 ?_
            refine v_iload_n X.1 d_M_order_99 rfl 3 rfl ?_
            obtain ⟨hb142, hf⟩ := oi_none hf
            obtain ⟨g143, eg144, hf⟩ := ob_some hf
            refine v_iast X.1 44 0 rfl rfl hb142 ((sa_54 ad ca _ _ _).trans (congrArg (wX ad ca) (Option.some.inj eg144))) d_M_order_100 ?_
            refine v_aload_n X.1 d_M_order_101 rfl 0 rfl ?_
            refine v_get X.1 (ci := 5) ⟨in_M, rfl⟩ 36 rfl 11 (by decide) (X.t tw_639 rfl) rfl d_M_order_102 ?_
            refine v_aload_n X.1 d_M_order_105 rfl 0 rfl ?_
            refine v_get X.1 (ci := 5) ⟨in_M, rfl⟩ 36 rfl 7 (by decide) (X.t tw_635 rfl) rfl d_M_order_106 ?_
            refine v_iload X.1 d_M_order_109 4 rfl ?_
            obtain ⟨hb145, hf⟩ := oi_none hf
            obtain ⟨g146, eg147, hf⟩ := ob_some hf
            refine v_iast X.1 45 0 rfl rfl hb145 ((sa_55 ad ca _ _ _).trans (congrArg (wX ad ca) (Option.some.inj eg147))) d_M_order_111 ?_
            refine v_aload_n X.1 d_M_order_112 rfl 0 rfl ?_
            refine v_get X.1 (ci := 5) ⟨in_M, rfl⟩ 36 rfl 12 (by decide) (X.t tw_640 rfl) rfl d_M_order_113 ?_
            refine v_aload_n X.1 d_M_order_116 rfl 0 rfl ?_
            refine v_get X.1 (ci := 5) ⟨in_M, rfl⟩ 36 rfl 7 (by decide) (X.t tw_635 rfl) rfl d_M_order_117 ?_
            refine v_sipush X.1 (v := (1000 : Int32)) d_M_order_120 (by decide) ?_
            obtain ⟨hb148, hf⟩ := oi_none hf
            obtain ⟨g149, eg150, hf⟩ := ob_some hf
            refine v_iast X.1 46 0 rfl rfl hb148 ((sa_56 ad ca _ _ _).trans (congrArg (wX ad ca) (Option.some.inj eg150))) d_M_order_123 ?_
            refine v_aload_n X.1 d_M_order_124 rfl 0 rfl ?_
            refine v_get X.1 (ci := 5) ⟨in_M, rfl⟩ 36 rfl 13 (by decide) (X.t tw_641 rfl) rfl d_M_order_125 ?_
            refine v_aload_n X.1 d_M_order_128 rfl 0 rfl ?_
            refine v_get X.1 (ci := 5) ⟨in_M, rfl⟩ 36 rfl 7 (by decide) (X.t tw_635 rfl) rfl d_M_order_129 ?_
            refine v_sipush X.1 (v := (1023 : Int32)) d_M_order_132 (by decide) ?_
            obtain ⟨hb151, hf⟩ := oi_none hf
            obtain ⟨g152, eg153, hf⟩ := ob_some hf
            refine v_iast X.1 47 0 rfl rfl hb151 ((sa_57 ad ca _ _ _).trans (congrArg (wX ad ca) (Option.some.inj eg153))) d_M_order_135 ?_
            refine v_aload_n X.1 d_M_order_136 rfl 0 rfl ?_
            refine v_dup X.1 d_M_order_137 rfl ?_
            refine v_get X.1 (ci := 5) ⟨in_M, rfl⟩ 36 rfl 7 (by decide) (X.t tw_635 rfl) rfl d_M_order_138 ?_
            refine v_iconst X.1 (v := (1 : Int32)) d_M_order_141 (by decide) ?_
            refine v_iadd X.1 d_M_order_142 ?_
            obtain ⟨g154, eg155, hf⟩ := ob_some hf
            refine v_put X.1 (ci := 5) ⟨in_M, rfl⟩ 36 rfl 7 (by decide) ⟨ty_M_ok, nm_M⟩ (X.t tw_635 rfl) rfl (ty := .int) (by decide +kernel) rfl rfl (Nat.le_of_ble_eq_true rfl) ((sw_42 ad ca _ _).trans (congrArg (wX ad ca) (Option.some.inj eg155))) d_M_order_143 ?_
            refine v_aload_n X.1 d_M_order_146 rfl 0 rfl ?_
            refine v_get X.1 (ci := 5) ⟨in_M, rfl⟩ 36 rfl 7 (by decide) (X.t tw_635 rfl) rfl d_M_order_147 ?_
            refine v_iconst X.1 (v := (1 : Int32)) d_M_order_150 (by decide) ?_
            refine v_isub X.1 d_M_order_151 ?_
            cases hf
            exact v_iret X.1 X.2.2.1 rfl d_M_order_152 X.2.2.2.1 (by decide) (by decide)
          · rw [if_neg c135] at hf
            refine v_iconst X.1 (v := (0 : Int32)) d_M_order_69 (by decide) ?_
            cases hf
            exact v_iret X.1 X.2.2.1 rfl d_M_order_70 X.2.2.2.1 (by decide) (by decide)

def f_M_wants (p1 : Int32) (p2 : Int32) (p3 : Int32) (g : xSt) : Option (xSt) := (ob2 (f_M_isOrder p1 g) (fun r2 g3 => (if r2 = 0 then (Option.bind (some (xw g3 40 0 ((1 : Int32)))) (fun g40 => (if (g40 40 0) ≤ 0 then (if p1 < 0 ∨ 8 ≤ p1.toNatClampNeg then none else (Option.bind (some (xw g40 56 p1.toNatClampNeg p2)) (fun g44 => (if p1 < 0 ∨ 8 ≤ p1.toNatClampNeg then none else (Option.bind (some (xw g44 57 p1.toNatClampNeg p3)) (fun g47 => some g47)))))) else some g40))) else (ob2 (f_M_in p2 ((0 : Int32)) ((1000 : Int32)) g3) (fun r6 g7 => (if r6 = 0 then (Option.bind (some (xw g7 40 0 ((2 : Int32)))) (fun g9 => (if (g9 40 0) ≤ 0 then (if p1 < 0 ∨ 8 ≤ p1.toNatClampNeg then none else (Option.bind (some (xw g9 56 p1.toNatClampNeg p2)) (fun g13 => (if p1 < 0 ∨ 8 ≤ p1.toNatClampNeg then none else (Option.bind (some (xw g13 57 p1.toNatClampNeg p3)) (fun g16 => some g16)))))) else some g9))) else (ob2 (f_M_in p3 ((0 : Int32)) ((1023 : Int32)) g7) (fun r19 g20 => (if r19 = 0 then (Option.bind (some (xw g20 40 0 ((2 : Int32)))) (fun g31 => (if (g31 40 0) ≤ 0 then (if p1 < 0 ∨ 8 ≤ p1.toNatClampNeg then none else (Option.bind (some (xw g31 56 p1.toNatClampNeg p2)) (fun g35 => (if p1 < 0 ∨ 8 ≤ p1.toNatClampNeg then none else (Option.bind (some (xw g35 57 p1.toNatClampNeg p3)) (fun g38 => some g38)))))) else some g31))) else (Option.bind (some (xw g20 40 0 ((0 : Int32)))) (fun g22 => (if (g22 40 0) ≤ 0 then (if p1 < 0 ∨ 8 ≤ p1.toNatClampNeg then none else (Option.bind (some (xw g22 56 p1.toNatClampNeg p2)) (fun g26 => (if p1 < 0 ∨ 8 ≤ p1.toNatClampNeg then none else (Option.bind (some (xw g26 57 p1.toNatClampNeg p3)) (fun g29 => some g29)))))) else some g22))))))))))))

set_option maxRecDepth 100000 in
set_option maxHeartbeats 4000000 in
theorem c_M_wants (l : Launch) (p1 : Int32) (p2 : Int32) (p3 : Int32) (g : xSt) (g' : xSt) (hf : f_M_wants p1 p2 p3 g = some g') : xM l y_M_wants (.code y_M_wants b_M_wants 4 none) ({ frames := 2, cells := 0, slots := 0, locals := 43 } : Room) (fun ad => [.ref (ad 36), .int p1, .int p2, .int p3]) g (.inl none) g' 0 0 := by
  refine x_contract (by decide) (fun _ => Nat.le_of_ble_eq_true rfl) ?_
  intro p e s m below meth c D ad ca X hno
  unfold f_M_wants at hf
  refine v_aload_n X.1 d_M_wants_0 rfl 0 rfl ?_
  refine v_aload_n X.1 d_M_wants_1 rfl 0 rfl ?_
  refine v_iload_n X.1 d_M_wants_2 rfl 1 rfl ?_
  obtain ⟨r2, g3, hc1, hf⟩ := ob2_some hf
  refine v_backI X.1 (x_runV X (c_M_isOrder l p1 _ _ _ hc1) rfl tw_735 tw_57 tw_732 tw_734 tw_32 36 5 rfl rfl rfl ⟨rfl, rfl, by decide, by decide⟩ ⟨by decide, by show _ = some 1; decide⟩ (rest := [.ref (ad 36)]) rfl (Nat.le_of_ble_eq_true rfl) d_M_wants_3 (by decide) (by decide)) ?_
  refine v_if_ne X.1 (tgt := 13) d_M_wants_6 (by decide) (fun c4 => ?_) (fun c4 => ?_)
  · rw [if_neg c4] at hf
    refine v_iload_n X.1 d_M_wants_13 rfl 2 rfl ?_
    refine v_iconst X.1 (v := (0 : Int32)) d_M_wants_14 (by decide) ?_
    refine v_sipush X.1 (v := (1000 : Int32)) d_M_wants_15 (by decide) ?_
    obtain ⟨r6, g7, hc5, hf⟩ := ob2_some hf
    refine v_backI X.1 (x_runS X (c_M_in l p2 ((0 : Int32)) ((1000 : Int32)) _ _ _ hc5) tw_723 tw_57 tw_721 tw_722 ⟨rfl, rfl, by decide, by decide⟩ ⟨by decide, by show _ = some 3; decide⟩ (rest := [.ref (ad 36)]) rfl (Nat.le_of_ble_eq_true rfl) d_M_wants_18 (by decide) (by decide)) ?_
    refine v_if_eq X.1 (tgt := 35) d_M_wants_21 (by decide) (fun c8 => ?_) (fun c8 => ?_)
    · rw [if_pos c8] at hf
      refine v_iconst X.1 (v := (2 : Int32)) d_M_wants_35 (by decide) ?_
      refine v_goto X.1 (tgt := 40) d_M_wants_36 (by decide) ?_
      obtain ⟨g9, eg10, hf⟩ := ob_some hf
      refine v_put X.1 (ci := 5) ⟨in_M, rfl⟩ 36 rfl 0 (by decide) ⟨ty_M_ok, nm_M⟩ (X.t tw_628 rfl) rfl (ty := .int) (by decide +kernel) rfl rfl (Nat.le_of_ble_eq_true rfl) ((sw_40 ad ca _ _).trans (congrArg (wX ad ca) (Option.some.inj eg10))) d_M_wants_40 ?_
      refine v_aload_n X.1 d_M_wants_43 rfl 0 rfl ?_
      refine v_get X.1 (ci := 5) ⟨in_M, rfl⟩ 36 rfl 0 (by decide) (X.t tw_628 rfl) rfl d_M_wants_44 ?_
      refine v_if_le X.1 (tgt := 51) d_M_wants_47 (by decide) (fun c11 => ?_) (fun c11 => ?_)
      · rw [if_pos c11] at hf
        refine v_aload_n X.1 d_M_wants_51 rfl 0 rfl ?_
        refine v_get X.1 (ci := 5) ⟨in_M, rfl⟩ 36 rfl 12 (by decide) (X.t tw_640 rfl) rfl d_M_wants_52 ?_
        refine v_iload_n X.1 d_M_wants_55 rfl 1 rfl ?_
        refine v_iload_n X.1 d_M_wants_56 rfl 2 rfl ?_
        obtain ⟨hb12, hf⟩ := oi_none hf
        obtain ⟨g13, eg14, hf⟩ := ob_some hf
        refine v_iast X.1 46 0 rfl rfl hb12 ((sa_56 ad ca _ _ _).trans (congrArg (wX ad ca) (Option.some.inj eg14))) d_M_wants_57 ?_
        refine v_aload_n X.1 d_M_wants_58 rfl 0 rfl ?_
        refine v_get X.1 (ci := 5) ⟨in_M, rfl⟩ 36 rfl 13 (by decide) (X.t tw_641 rfl) rfl d_M_wants_59 ?_
        refine v_iload_n X.1 d_M_wants_62 rfl 1 rfl ?_
        refine v_iload_n X.1 d_M_wants_63 rfl 3 rfl ?_
        obtain ⟨hb15, hf⟩ := oi_none hf
        obtain ⟨g16, eg17, hf⟩ := ob_some hf
        refine v_iast X.1 47 0 rfl rfl hb15 ((sa_57 ad ca _ _ _).trans (congrArg (wX ad ca) (Option.some.inj eg17))) d_M_wants_64 ?_
        cases hf
        exact v_vret X.1 X.2.2.1 d_M_wants_65 X.2.2.2.1 (by decide) (by decide)
      · rw [if_neg c11] at hf
        cases hf
        exact v_vret X.1 X.2.2.1 d_M_wants_50 X.2.2.2.1 (by decide) (by decide)
    · rw [if_neg c8] at hf
      refine v_iload_n X.1 d_M_wants_24 rfl 3 rfl ?_
      refine v_iconst X.1 (v := (0 : Int32)) d_M_wants_25 (by decide) ?_
      refine v_sipush X.1 (v := (1023 : Int32)) d_M_wants_26 (by decide) ?_
      obtain ⟨r19, g20, hc18, hf⟩ := ob2_some hf
      refine v_backI X.1 (x_runS X (c_M_in l p3 ((0 : Int32)) ((1023 : Int32)) _ _ _ hc18) tw_723 tw_57 tw_721 tw_722 ⟨rfl, rfl, by decide, by decide⟩ ⟨by decide, by show _ = some 3; decide⟩ (rest := [.ref (ad 36)]) rfl (Nat.le_of_ble_eq_true rfl) d_M_wants_29 (by decide) (by decide)) ?_
      refine v_if_ne X.1 (tgt := 39) d_M_wants_32 (by decide) (fun c21 => ?_) (fun c21 => ?_)
      · rw [if_neg c21] at hf
        refine v_iconst X.1 (v := (0 : Int32)) d_M_wants_39 (by decide) ?_
        obtain ⟨g22, eg23, hf⟩ := ob_some hf
        refine v_put X.1 (ci := 5) ⟨in_M, rfl⟩ 36 rfl 0 (by decide) ⟨ty_M_ok, nm_M⟩ (X.t tw_628 rfl) rfl (ty := .int) (by decide +kernel) rfl rfl (Nat.le_of_ble_eq_true rfl) ((sw_40 ad ca _ _).trans (congrArg (wX ad ca) (Option.some.inj eg23))) d_M_wants_40 ?_
        refine v_aload_n X.1 d_M_wants_43 rfl 0 rfl ?_
        refine v_get X.1 (ci := 5) ⟨in_M, rfl⟩ 36 rfl 0 (by decide) (X.t tw_628 rfl) rfl d_M_wants_44 ?_
        refine v_if_le X.1 (tgt := 51) d_M_wants_47 (by decide) (fun c24 => ?_) (fun c24 => ?_)
        · rw [if_pos c24] at hf
          refine v_aload_n X.1 d_M_wants_51 rfl 0 rfl ?_
          refine v_get X.1 (ci := 5) ⟨in_M, rfl⟩ 36 rfl 12 (by decide) (X.t tw_640 rfl) rfl d_M_wants_52 ?_
          refine v_iload_n X.1 d_M_wants_55 rfl 1 rfl ?_
          refine v_iload_n X.1 d_M_wants_56 rfl 2 rfl ?_
          obtain ⟨hb25, hf⟩ := oi_none hf
          obtain ⟨g26, eg27, hf⟩ := ob_some hf
          refine v_iast X.1 46 0 rfl rfl hb25 ((sa_56 ad ca _ _ _).trans (congrArg (wX ad ca) (Option.some.inj eg27))) d_M_wants_57 ?_
          refine v_aload_n X.1 d_M_wants_58 rfl 0 rfl ?_
          refine v_get X.1 (ci := 5) ⟨in_M, rfl⟩ 36 rfl 13 (by decide) (X.t tw_641 rfl) rfl d_M_wants_59 ?_
          refine v_iload_n X.1 d_M_wants_62 rfl 1 rfl ?_
          refine v_iload_n X.1 d_M_wants_63 rfl 3 rfl ?_
          obtain ⟨hb28, hf⟩ := oi_none hf
          obtain ⟨g29, eg30, hf⟩ := ob_some hf
          refine v_iast X.1 47 0 rfl rfl hb28 ((sa_57 ad ca _ _ _).trans (congrArg (wX ad ca) (Option.some.inj eg30))) d_M_wants_64 ?_
          cases hf
          exact v_vret X.1 X.2.2.1 d_M_wants_65 X.2.2.2.1 (by decide) (by decide)
        · rw [if_neg c24] at hf
          cases hf
          exact v_vret X.1 X.2.2.1 d_M_wants_50 X.2.2.2.1 (by decide) (by decide)
      · rw [if_pos c21] at hf
        refine v_iconst X.1 (v := (2 : Int32)) d_M_wants_35 (by decide) ?_
        refine v_goto X.1 (tgt := 40) d_M_wants_36 (by decide) ?_
        obtain ⟨g31, eg32, hf⟩ := ob_some hf
        refine v_put X.1 (ci := 5) ⟨in_M, rfl⟩ 36 rfl 0 (by decide) ⟨ty_M_ok, nm_M⟩ (X.t tw_628 rfl) rfl (ty := .int) (by decide +kernel) rfl rfl (Nat.le_of_ble_eq_true rfl) ((sw_40 ad ca _ _).trans (congrArg (wX ad ca) (Option.some.inj eg32))) d_M_wants_40 ?_
        refine v_aload_n X.1 d_M_wants_43 rfl 0 rfl ?_
        refine v_get X.1 (ci := 5) ⟨in_M, rfl⟩ 36 rfl 0 (by decide) (X.t tw_628 rfl) rfl d_M_wants_44 ?_
        refine v_if_le X.1 (tgt := 51) d_M_wants_47 (by decide) (fun c33 => ?_) (fun c33 => ?_)
        · rw [if_pos c33] at hf
          refine v_aload_n X.1 d_M_wants_51 rfl 0 rfl ?_
          refine v_get X.1 (ci := 5) ⟨in_M, rfl⟩ 36 rfl 12 (by decide) (X.t tw_640 rfl) rfl d_M_wants_52 ?_
          refine v_iload_n X.1 d_M_wants_55 rfl 1 rfl ?_
          refine v_iload_n X.1 d_M_wants_56 rfl 2 rfl ?_
          obtain ⟨hb34, hf⟩ := oi_none hf
          obtain ⟨g35, eg36, hf⟩ := ob_some hf
          refine v_iast X.1 46 0 rfl rfl hb34 ((sa_56 ad ca _ _ _).trans (congrArg (wX ad ca) (Option.some.inj eg36))) d_M_wants_57 ?_
          refine v_aload_n X.1 d_M_wants_58 rfl 0 rfl ?_
          refine v_get X.1 (ci := 5) ⟨in_M, rfl⟩ 36 rfl 13 (by decide) (X.t tw_641 rfl) rfl d_M_wants_59 ?_
          refine v_iload_n X.1 d_M_wants_62 rfl 1 rfl ?_
          refine v_iload_n X.1 d_M_wants_63 rfl 3 rfl ?_
          obtain ⟨hb37, hf⟩ := oi_none hf
          obtain ⟨g38, eg39, hf⟩ := ob_some hf
          refine v_iast X.1 47 0 rfl rfl hb37 ((sa_57 ad ca _ _ _).trans (congrArg (wX ad ca) (Option.some.inj eg39))) d_M_wants_64 ?_
          cases hf
          exact v_vret X.1 X.2.2.1 d_M_wants_65 X.2.2.2.1 (by decide) (by decide)
        · rw [if_neg c33] at hf
          cases hf
          exact v_vret X.1 X.2.2.1 d_M_wants_50 X.2.2.2.1 (by decide) (by decide)
  · rw [if_pos c4] at hf
    refine v_iconst X.1 (v := (1 : Int32)) d_M_wants_9 (by decide) ?_
    refine v_goto X.1 (tgt := 40) d_M_wants_10 (by decide) ?_
    obtain ⟨g40, eg41, hf⟩ := ob_some hf
    refine v_put X.1 (ci := 5) ⟨in_M, rfl⟩ 36 rfl 0 (by decide) ⟨ty_M_ok, nm_M⟩ (X.t tw_628 rfl) rfl (ty := .int) (by decide +kernel) rfl rfl (Nat.le_of_ble_eq_true rfl) ((sw_40 ad ca _ _).trans (congrArg (wX ad ca) (Option.some.inj eg41))) d_M_wants_40 ?_
    refine v_aload_n X.1 d_M_wants_43 rfl 0 rfl ?_
    refine v_get X.1 (ci := 5) ⟨in_M, rfl⟩ 36 rfl 0 (by decide) (X.t tw_628 rfl) rfl d_M_wants_44 ?_
    refine v_if_le X.1 (tgt := 51) d_M_wants_47 (by decide) (fun c42 => ?_) (fun c42 => ?_)
    · rw [if_pos c42] at hf
      refine v_aload_n X.1 d_M_wants_51 rfl 0 rfl ?_
      refine v_get X.1 (ci := 5) ⟨in_M, rfl⟩ 36 rfl 12 (by decide) (X.t tw_640 rfl) rfl d_M_wants_52 ?_
      refine v_iload_n X.1 d_M_wants_55 rfl 1 rfl ?_
      refine v_iload_n X.1 d_M_wants_56 rfl 2 rfl ?_
      obtain ⟨hb43, hf⟩ := oi_none hf
      obtain ⟨g44, eg45, hf⟩ := ob_some hf
      refine v_iast X.1 46 0 rfl rfl hb43 ((sa_56 ad ca _ _ _).trans (congrArg (wX ad ca) (Option.some.inj eg45))) d_M_wants_57 ?_
      refine v_aload_n X.1 d_M_wants_58 rfl 0 rfl ?_
      refine v_get X.1 (ci := 5) ⟨in_M, rfl⟩ 36 rfl 13 (by decide) (X.t tw_641 rfl) rfl d_M_wants_59 ?_
      refine v_iload_n X.1 d_M_wants_62 rfl 1 rfl ?_
      refine v_iload_n X.1 d_M_wants_63 rfl 3 rfl ?_
      obtain ⟨hb46, hf⟩ := oi_none hf
      obtain ⟨g47, eg48, hf⟩ := ob_some hf
      refine v_iast X.1 47 0 rfl rfl hb46 ((sa_57 ad ca _ _ _).trans (congrArg (wX ad ca) (Option.some.inj eg48))) d_M_wants_64 ?_
      cases hf
      exact v_vret X.1 X.2.2.1 d_M_wants_65 X.2.2.2.1 (by decide) (by decide)
    · rw [if_neg c42] at hf
      cases hf
      exact v_vret X.1 X.2.2.1 d_M_wants_50 X.2.2.2.1 (by decide) (by decide)

def f_M_promised (fu : Nat) (p1 : Int32) (p2 : Int32) (g : xSt) : Option (xSt) := (ob2 (f_M_isArrival p1 g) (fun r2 g3 => (if r2 = 0 then (Option.bind (some (xw g3 40 0 ((1 : Int32)))) (fun g33 => (if (g33 40 0) = 0 then (if p1 < 0 ∨ 8 ≤ p1.toNatClampNeg then none else (Option.bind (some (xw g33 51 p1.toNatClampNeg p2)) (fun g37 => some g37))) else some g33))) else (if p1 < 0 ∨ 8 ≤ p1.toNatClampNeg then none else (ob2 (f_M_in p2 ((0 : Int32)) (g3 50 p1.toNatClampNeg) g3) (fun r7 g8 => (if r7 = 0 then (Option.bind (some (xw g8 40 0 ((2 : Int32)))) (fun g27 => (if (g27 40 0) = 0 then (if p1 < 0 ∨ 8 ≤ p1.toNatClampNeg then none else (Option.bind (some (xw g27 51 p1.toNatClampNeg p2)) (fun g31 => some g31))) else some g27))) else (ob2 (f_M_held fu p1 g8) (fun r11 g12 => (if p1 < 0 ∨ 8 ≤ p1.toNatClampNeg then none else (if (p2 + r11) ≤ (g12 50 p1.toNatClampNeg) then (Option.bind (some (xw g12 40 0 ((0 : Int32)))) (fun g15 => (if (g15 40 0) = 0 then (if p1 < 0 ∨ 8 ≤ p1.toNatClampNeg then none else (Option.bind (some (xw g15 51 p1.toNatClampNeg p2)) (fun g19 => some g19))) else some g15))) else (Option.bind (some (xw g12 40 0 ((3 : Int32)))) (fun g21 => (if (g21 40 0) = 0 then (if p1 < 0 ∨ 8 ≤ p1.toNatClampNeg then none else (Option.bind (some (xw g21 51 p1.toNatClampNeg p2)) (fun g25 => some g25))) else some g21))))))))))))))

set_option maxRecDepth 100000 in
set_option maxHeartbeats 4000000 in
theorem c_M_promised (l : Launch) (fu : Nat) (p1 : Int32) (p2 : Int32) (g : xSt) (g' : xSt) (hf : f_M_promised fu p1 p2 g = some g') : xM l y_M_promised (.code y_M_promised b_M_promised 3 none) ({ frames := 2, cells := 0, slots := 0, locals := 43 } : Room) (fun ad => [.ref (ad 36), .int p1, .int p2]) g (.inl none) g' 0 0 := by
  refine x_contract (by decide) (fun _ => Nat.le_of_ble_eq_true rfl) ?_
  intro p e s m below meth c D ad ca X hno
  unfold f_M_promised at hf
  refine v_aload_n X.1 d_M_promised_0 rfl 0 rfl ?_
  refine v_aload_n X.1 d_M_promised_1 rfl 0 rfl ?_
  refine v_iload_n X.1 d_M_promised_2 rfl 1 rfl ?_
  obtain ⟨r2, g3, hc1, hf⟩ := ob2_some hf
  refine v_backI X.1 (x_runV X (c_M_isArrival l p1 _ _ _ hc1) rfl tw_743 tw_57 tw_740 tw_742 tw_33 36 5 rfl rfl rfl ⟨rfl, rfl, by decide, by decide⟩ ⟨by decide, by show _ = some 1; decide⟩ (rest := [.ref (ad 36)]) rfl (Nat.le_of_ble_eq_true rfl) d_M_promised_3 (by decide) (by decide)) ?_
  refine v_if_ne X.1 (tgt := 13) d_M_promised_6 (by decide) (fun c4 => ?_) (fun c4 => ?_)
  · rw [if_neg c4] at hf
    refine v_iload_n X.1 d_M_promised_13 rfl 2 rfl ?_
    refine v_iconst X.1 (v := (0 : Int32)) d_M_promised_14 (by decide) ?_
    refine v_aload_n X.1 d_M_promised_15 rfl 0 rfl ?_
    refine v_get X.1 (ci := 5) ⟨in_M, rfl⟩ 36 rfl 5 (by decide) (X.t tw_633 rfl) rfl d_M_promised_16 ?_
    refine v_iload_n X.1 d_M_promised_19 rfl 1 rfl ?_
    obtain ⟨hb5, hf⟩ := oi_none hf
    refine v_iald X.1 40 0 rfl rfl hb5 d_M_promised_20 ?_
    obtain ⟨r7, g8, hc6, hf⟩ := ob2_some hf
    refine v_backI X.1 (x_runS X (c_M_in l p2 ((0 : Int32)) (g3 50 p1.toNatClampNeg) _ _ _ hc6) tw_723 tw_57 tw_721 tw_722 ⟨rfl, rfl, by decide, by decide⟩ ⟨by decide, by show _ = some 3; decide⟩ (rest := [.ref (ad 36)]) rfl (Nat.le_of_ble_eq_true rfl) d_M_promised_21 (by decide) (by decide)) ?_
    refine v_if_ne X.1 (tgt := 31) d_M_promised_24 (by decide) (fun c9 => ?_) (fun c9 => ?_)
    · rw [if_neg c9] at hf
      refine v_iload_n X.1 d_M_promised_31 rfl 2 rfl ?_
      refine v_aload_n X.1 d_M_promised_32 rfl 0 rfl ?_
      refine v_iload_n X.1 d_M_promised_33 rfl 1 rfl ?_
      obtain ⟨r11, g12, hc10, hf⟩ := ob2_some hf
      refine v_backI X.1 (x_runV X (c_M_held l fu p1 _ _ _ hc10) rfl tw_747 tw_57 tw_744 tw_746 tw_34 36 5 rfl rfl rfl ⟨rfl, rfl, by decide, by decide⟩ ⟨by decide, by show _ = some 1; decide⟩ (rest := [.int p2, .ref (ad 36)]) rfl (Nat.le_of_ble_eq_true rfl) d_M_promised_34 (by decide) (by decide)) ?_
      refine v_iadd X.1 d_M_promised_37 ?_
      refine v_aload_n X.1 d_M_promised_38 rfl 0 rfl ?_
      refine v_get X.1 (ci := 5) ⟨in_M, rfl⟩ 36 rfl 5 (by decide) (X.t tw_633 rfl) rfl d_M_promised_39 ?_
      refine v_iload_n X.1 d_M_promised_42 rfl 1 rfl ?_
      obtain ⟨hb13, hf⟩ := oi_none hf
      refine v_iald X.1 40 0 rfl rfl hb13 d_M_promised_43 ?_
      refine v_icmp_le X.1 (tgt := 51) d_M_promised_44 (by decide) (fun c14 => ?_) (fun c14 => ?_)
      · rw [if_pos c14] at hf
        refine v_iconst X.1 (v := (0 : Int32)) d_M_promised_51 (by decide) ?_
        obtain ⟨g15, eg16, hf⟩ := ob_some hf
        refine v_put X.1 (ci := 5) ⟨in_M, rfl⟩ 36 rfl 0 (by decide) ⟨ty_M_ok, nm_M⟩ (X.t tw_628 rfl) rfl (ty := .int) (by decide +kernel) rfl rfl (Nat.le_of_ble_eq_true rfl) ((sw_40 ad ca _ _).trans (congrArg (wX ad ca) (Option.some.inj eg16))) d_M_promised_52 ?_
        refine v_aload_n X.1 d_M_promised_55 rfl 0 rfl ?_
        refine v_get X.1 (ci := 5) ⟨in_M, rfl⟩ 36 rfl 0 (by decide) (X.t tw_628 rfl) rfl d_M_promised_56 ?_
        refine v_if_ne X.1 (tgt := 69) d_M_promised_59 (by decide) (fun c17 => ?_) (fun c17 => ?_)
        · rw [if_neg c17] at hf
          cases hf
          exact v_vret X.1 X.2.2.1 d_M_promised_69 X.2.2.2.1 (by decide) (by decide)
        · rw [if_pos c17] at hf
          refine v_aload_n X.1 d_M_promised_62 rfl 0 rfl ?_
          refine v_get X.1 (ci := 5) ⟨in_M, rfl⟩ 36 rfl 6 (by decide) (X.t tw_634 rfl) rfl d_M_promised_63 ?_
          refine v_iload_n X.1 d_M_promised_66 rfl 1 rfl ?_
          refine v_iload_n X.1 d_M_promised_67 rfl 2 rfl ?_
          obtain ⟨hb18, hf⟩ := oi_none hf
          obtain ⟨g19, eg20, hf⟩ := ob_some hf
          refine v_iast X.1 41 0 rfl rfl hb18 ((sa_51 ad ca _ _ _).trans (congrArg (wX ad ca) (Option.some.inj eg20))) d_M_promised_68 ?_
          cases hf
          exact v_vret X.1 X.2.2.1 d_M_promised_69 X.2.2.2.1 (by decide) (by decide)
      · rw [if_neg c14] at hf
        refine v_iconst X.1 (v := (3 : Int32)) d_M_promised_47 (by decide) ?_
        refine v_goto X.1 (tgt := 52) d_M_promised_48 (by decide) ?_
        obtain ⟨g21, eg22, hf⟩ := ob_some hf
        refine v_put X.1 (ci := 5) ⟨in_M, rfl⟩ 36 rfl 0 (by decide) ⟨ty_M_ok, nm_M⟩ (X.t tw_628 rfl) rfl (ty := .int) (by decide +kernel) rfl rfl (Nat.le_of_ble_eq_true rfl) ((sw_40 ad ca _ _).trans (congrArg (wX ad ca) (Option.some.inj eg22))) d_M_promised_52 ?_
        refine v_aload_n X.1 d_M_promised_55 rfl 0 rfl ?_
        refine v_get X.1 (ci := 5) ⟨in_M, rfl⟩ 36 rfl 0 (by decide) (X.t tw_628 rfl) rfl d_M_promised_56 ?_
        refine v_if_ne X.1 (tgt := 69) d_M_promised_59 (by decide) (fun c23 => ?_) (fun c23 => ?_)
        · rw [if_neg c23] at hf
          cases hf
          exact v_vret X.1 X.2.2.1 d_M_promised_69 X.2.2.2.1 (by decide) (by decide)
        · rw [if_pos c23] at hf
          refine v_aload_n X.1 d_M_promised_62 rfl 0 rfl ?_
          refine v_get X.1 (ci := 5) ⟨in_M, rfl⟩ 36 rfl 6 (by decide) (X.t tw_634 rfl) rfl d_M_promised_63 ?_
          refine v_iload_n X.1 d_M_promised_66 rfl 1 rfl ?_
          refine v_iload_n X.1 d_M_promised_67 rfl 2 rfl ?_
          obtain ⟨hb24, hf⟩ := oi_none hf
          obtain ⟨g25, eg26, hf⟩ := ob_some hf
          refine v_iast X.1 41 0 rfl rfl hb24 ((sa_51 ad ca _ _ _).trans (congrArg (wX ad ca) (Option.some.inj eg26))) d_M_promised_68 ?_
          cases hf
          exact v_vret X.1 X.2.2.1 d_M_promised_69 X.2.2.2.1 (by decide) (by decide)
    · rw [if_pos c9] at hf
      refine v_iconst X.1 (v := (2 : Int32)) d_M_promised_27 (by decide) ?_
      refine v_goto X.1 (tgt := 52) d_M_promised_28 (by decide) ?_
      obtain ⟨g27, eg28, hf⟩ := ob_some hf
      refine v_put X.1 (ci := 5) ⟨in_M, rfl⟩ 36 rfl 0 (by decide) ⟨ty_M_ok, nm_M⟩ (X.t tw_628 rfl) rfl (ty := .int) (by decide +kernel) rfl rfl (Nat.le_of_ble_eq_true rfl) ((sw_40 ad ca _ _).trans (congrArg (wX ad ca) (Option.some.inj eg28))) d_M_promised_52 ?_
      refine v_aload_n X.1 d_M_promised_55 rfl 0 rfl ?_
      refine v_get X.1 (ci := 5) ⟨in_M, rfl⟩ 36 rfl 0 (by decide) (X.t tw_628 rfl) rfl d_M_promised_56 ?_
      refine v_if_ne X.1 (tgt := 69) d_M_promised_59 (by decide) (fun c29 => ?_) (fun c29 => ?_)
      · rw [if_neg c29] at hf
        cases hf
        exact v_vret X.1 X.2.2.1 d_M_promised_69 X.2.2.2.1 (by decide) (by decide)
      · rw [if_pos c29] at hf
        refine v_aload_n X.1 d_M_promised_62 rfl 0 rfl ?_
        refine v_get X.1 (ci := 5) ⟨in_M, rfl⟩ 36 rfl 6 (by decide) (X.t tw_634 rfl) rfl d_M_promised_63 ?_
        refine v_iload_n X.1 d_M_promised_66 rfl 1 rfl ?_
        refine v_iload_n X.1 d_M_promised_67 rfl 2 rfl ?_
        obtain ⟨hb30, hf⟩ := oi_none hf
        obtain ⟨g31, eg32, hf⟩ := ob_some hf
        refine v_iast X.1 41 0 rfl rfl hb30 ((sa_51 ad ca _ _ _).trans (congrArg (wX ad ca) (Option.some.inj eg32))) d_M_promised_68 ?_
        cases hf
        exact v_vret X.1 X.2.2.1 d_M_promised_69 X.2.2.2.1 (by decide) (by decide)
  · rw [if_pos c4] at hf
    refine v_iconst X.1 (v := (1 : Int32)) d_M_promised_9 (by decide) ?_
    refine v_goto X.1 (tgt := 52) d_M_promised_10 (by decide) ?_
    obtain ⟨g33, eg34, hf⟩ := ob_some hf
    refine v_put X.1 (ci := 5) ⟨in_M, rfl⟩ 36 rfl 0 (by decide) ⟨ty_M_ok, nm_M⟩ (X.t tw_628 rfl) rfl (ty := .int) (by decide +kernel) rfl rfl (Nat.le_of_ble_eq_true rfl) ((sw_40 ad ca _ _).trans (congrArg (wX ad ca) (Option.some.inj eg34))) d_M_promised_52 ?_
    refine v_aload_n X.1 d_M_promised_55 rfl 0 rfl ?_
    refine v_get X.1 (ci := 5) ⟨in_M, rfl⟩ 36 rfl 0 (by decide) (X.t tw_628 rfl) rfl d_M_promised_56 ?_
    refine v_if_ne X.1 (tgt := 69) d_M_promised_59 (by decide) (fun c35 => ?_) (fun c35 => ?_)
    · rw [if_neg c35] at hf
      cases hf
      exact v_vret X.1 X.2.2.1 d_M_promised_69 X.2.2.2.1 (by decide) (by decide)
    · rw [if_pos c35] at hf
      refine v_aload_n X.1 d_M_promised_62 rfl 0 rfl ?_
      refine v_get X.1 (ci := 5) ⟨in_M, rfl⟩ 36 rfl 6 (by decide) (X.t tw_634 rfl) rfl d_M_promised_63 ?_
      refine v_iload_n X.1 d_M_promised_66 rfl 1 rfl ?_
      refine v_iload_n X.1 d_M_promised_67 rfl 2 rfl ?_
      obtain ⟨hb36, hf⟩ := oi_none hf
      obtain ⟨g37, eg38, hf⟩ := ob_some hf
      refine v_iast X.1 41 0 rfl rfl hb36 ((sa_51 ad ca _ _ _).trans (congrArg (wX ad ca) (Option.some.inj eg38))) d_M_promised_68 ?_
      cases hf
      exact v_vret X.1 X.2.2.1 d_M_promised_69 X.2.2.2.1 (by decide) (by decide)

def f_M_rule (p1 : Int32) (p2 : Int32) (p3 : Int32) (g : xSt) : Option (Int32 × xSt) := (ob2 (f_M_isArrival p1 g) (fun r2 g3 => (if r2 = 0 then (Option.bind (some (xw g3 40 0 ((1 : Int32)))) (fun g5 => (if (g5 40 0) ≤ 0 then (if ((((8 : Int32)) * p1) + p2) < 0 ∨ 64 ≤ ((((8 : Int32)) * p1) + p2).toNatClampNeg then none else (Option.bind (some (xw g5 58 ((((8 : Int32)) * p1) + p2).toNatClampNeg (vp_nar .boolean p3))) (fun g9 => (ob2 (f_M_mayServe p1 p2 g9) (fun r12 g13 => (if ¬ (r12 = 0 ∨ r12 = 1) then none else some (r12, g13))))))) else some ((0 : Int32), g5)))) else (ob2 (f_M_isOrder p2 g3) (fun r16 g17 => (if r16 = 0 then (Option.bind (some (xw g17 40 0 ((1 : Int32)))) (fun g29 => (if (g29 40 0) ≤ 0 then (if ((((8 : Int32)) * p1) + p2) < 0 ∨ 64 ≤ ((((8 : Int32)) * p1) + p2).toNatClampNeg then none else (Option.bind (some (xw g29 58 ((((8 : Int32)) * p1) + p2).toNatClampNeg (vp_nar .boolean p3))) (fun g33 => (ob2 (f_M_mayServe p1 p2 g33) (fun r36 g37 => (if ¬ (r36 = 0 ∨ r36 = 1) then none else some (r36, g37))))))) else some ((0 : Int32), g29)))) else (Option.bind (some (xw g17 40 0 ((0 : Int32)))) (fun g19 => (if (g19 40 0) ≤ 0 then (if ((((8 : Int32)) * p1) + p2) < 0 ∨ 64 ≤ ((((8 : Int32)) * p1) + p2).toNatClampNeg then none else (Option.bind (some (xw g19 58 ((((8 : Int32)) * p1) + p2).toNatClampNeg (vp_nar .boolean p3))) (fun g23 => (ob2 (f_M_mayServe p1 p2 g23) (fun r26 g27 => (if ¬ (r26 = 0 ∨ r26 = 1) then none else some (r26, g27))))))) else some ((0 : Int32), g19))))))))))

set_option maxRecDepth 100000 in
set_option maxHeartbeats 4000000 in
theorem c_M_rule (l : Launch) (p1 : Int32) (p2 : Int32) (p3 : Int32) (g : xSt) (r : Int32) (g' : xSt) (hf : f_M_rule p1 p2 p3 g = some (r, g')) : xM l y_M_rule (.code y_M_rule b_M_rule 4 (some .boolean)) ({ frames := 2, cells := 0, slots := 0, locals := 45 } : Room) (fun ad => [.ref (ad 36), .int p1, .int p2, .int p3]) g (.inl (some (.int r))) g' 0 0 := by
  refine x_contract (by decide) (fun _ => Nat.le_of_ble_eq_true rfl) ?_
  intro p e s m below meth c D ad ca X hno
  unfold f_M_rule at hf
  refine v_aload_n X.1 d_M_rule_0 rfl 0 rfl ?_
  refine v_aload_n X.1 d_M_rule_1 rfl 0 rfl ?_
  refine v_iload_n X.1 d_M_rule_2 rfl 1 rfl ?_
  obtain ⟨r2, g3, hc1, hf⟩ := ob2_some hf
  refine v_backI X.1 (x_runV X (c_M_isArrival l p1 _ _ _ hc1) rfl tw_743 tw_57 tw_740 tw_742 tw_33 36 5 rfl rfl rfl ⟨rfl, rfl, by decide, by decide⟩ ⟨by decide, by show _ = some 1; decide⟩ (rest := [.ref (ad 36)]) rfl (Nat.le_of_ble_eq_true rfl) d_M_rule_3 (by decide) (by decide)) ?_
  refine v_if_eq X.1 (tgt := 17) d_M_rule_6 (by decide) (fun c4 => ?_) (fun c4 => ?_)
  · rw [if_pos c4] at hf
    refine v_iconst X.1 (v := (1 : Int32)) d_M_rule_17 (by decide) ?_
    refine v_goto X.1 (tgt := 22) d_M_rule_18 (by decide) ?_
    obtain ⟨g5, eg6, hf⟩ := ob_some hf
    refine v_put X.1 (ci := 5) ⟨in_M, rfl⟩ 36 rfl 0 (by decide) ⟨ty_M_ok, nm_M⟩ (X.t tw_628 rfl) rfl (ty := .int) (by decide +kernel) rfl rfl (Nat.le_of_ble_eq_true rfl) ((sw_40 ad ca _ _).trans (congrArg (wX ad ca) (Option.some.inj eg6))) d_M_rule_22 ?_
    refine v_aload_n X.1 d_M_rule_25 rfl 0 rfl ?_
    refine v_get X.1 (ci := 5) ⟨in_M, rfl⟩ 36 rfl 0 (by decide) (X.t tw_628 rfl) rfl d_M_rule_26 ?_
    refine v_if_le X.1 (tgt := 34) d_M_rule_29 (by decide) (fun c7 => ?_) (fun c7 => ?_)
    · rw [if_pos c7] at hf
      refine v_aload_n X.1 d_M_rule_34 rfl 0 rfl ?_
      refine v_get X.1 (ci := 5) ⟨in_M, rfl⟩ 36 rfl 14 (by decide) (X.t tw_642 rfl) rfl d_M_rule_35 ?_
      refine v_bipush X.1 (v := (8 : Int32)) d_M_rule_38 (by decide) ?_
      refine v_iload_n X.1 d_M_rule_40 rfl 1 rfl ?_
      refine v_imul X.1 d_M_rule_41 ?_
      refine v_iload_n X.1 d_M_rule_42 rfl 2 rfl ?_
      refine v_iadd X.1 d_M_rule_43 ?_
      refine v_iload_n X.1 d_M_rule_44 rfl 3 rfl ?_
      obtain ⟨hb8, hf⟩ := oi_none hf
      obtain ⟨g9, eg10, hf⟩ := ob_some hf
      refine v_zast X.1 48 1 rfl rfl hb8 ((sa_58 ad ca _ _ _).trans (congrArg (wX ad ca) (Option.some.inj eg10))) d_M_rule_45 ?_
      refine v_aload_n X.1 d_M_rule_46 rfl 0 rfl ?_
      refine v_iload_n X.1 d_M_rule_47 rfl 1 rfl ?_
      refine v_iload_n X.1 d_M_rule_48 rfl 2 rfl ?_
      obtain ⟨r12, g13, hc11, hf⟩ := ob2_some hf
      refine v_backI X.1 (x_runV X (c_M_mayServe l p1 p2 _ _ _ hc11) rfl tw_755 tw_57 tw_752 tw_754 tw_35 36 5 rfl rfl rfl ⟨rfl, rfl, by decide, by decide⟩ ⟨by decide, by show _ = some 2; decide⟩ (rest := []) rfl (Nat.le_of_ble_eq_true rfl) d_M_rule_49 (by decide) (by decide)) ?_
      obtain ⟨hz14, hf⟩ := oi_none hf
      cases hf
      exact v_iret X.1 X.2.2.1 (oz_nar hz14).1 d_M_rule_52 X.2.2.2.1 (by decide) (by decide)
    · rw [if_neg c7] at hf
      refine v_iconst X.1 (v := (0 : Int32)) d_M_rule_32 (by decide) ?_
      cases hf
      exact v_iret X.1 X.2.2.1 rfl d_M_rule_33 X.2.2.2.1 (by decide) (by decide)
  · rw [if_neg c4] at hf
    refine v_aload_n X.1 d_M_rule_9 rfl 0 rfl ?_
    refine v_iload_n X.1 d_M_rule_10 rfl 2 rfl ?_
    obtain ⟨r16, g17, hc15, hf⟩ := ob2_some hf
    refine v_backI X.1 (x_runV X (c_M_isOrder l p2 _ _ _ hc15) rfl tw_735 tw_57 tw_732 tw_734 tw_32 36 5 rfl rfl rfl ⟨rfl, rfl, by decide, by decide⟩ ⟨by decide, by show _ = some 1; decide⟩ (rest := [.ref (ad 36)]) rfl (Nat.le_of_ble_eq_true rfl) d_M_rule_11 (by decide) (by decide)) ?_
    refine v_if_ne X.1 (tgt := 21) d_M_rule_14 (by decide) (fun c18 => ?_) (fun c18 => ?_)
    · rw [if_neg c18] at hf
      refine v_iconst X.1 (v := (0 : Int32)) d_M_rule_21 (by decide) ?_
      obtain ⟨g19, eg20, hf⟩ := ob_some hf
      refine v_put X.1 (ci := 5) ⟨in_M, rfl⟩ 36 rfl 0 (by decide) ⟨ty_M_ok, nm_M⟩ (X.t tw_628 rfl) rfl (ty := .int) (by decide +kernel) rfl rfl (Nat.le_of_ble_eq_true rfl) ((sw_40 ad ca _ _).trans (congrArg (wX ad ca) (Option.some.inj eg20))) d_M_rule_22 ?_
      refine v_aload_n X.1 d_M_rule_25 rfl 0 rfl ?_
      refine v_get X.1 (ci := 5) ⟨in_M, rfl⟩ 36 rfl 0 (by decide) (X.t tw_628 rfl) rfl d_M_rule_26 ?_
      refine v_if_le X.1 (tgt := 34) d_M_rule_29 (by decide) (fun c21 => ?_) (fun c21 => ?_)
      · rw [if_pos c21] at hf
        refine v_aload_n X.1 d_M_rule_34 rfl 0 rfl ?_
        refine v_get X.1 (ci := 5) ⟨in_M, rfl⟩ 36 rfl 14 (by decide) (X.t tw_642 rfl) rfl d_M_rule_35 ?_
        refine v_bipush X.1 (v := (8 : Int32)) d_M_rule_38 (by decide) ?_
        refine v_iload_n X.1 d_M_rule_40 rfl 1 rfl ?_
        refine v_imul X.1 d_M_rule_41 ?_
        refine v_iload_n X.1 d_M_rule_42 rfl 2 rfl ?_
        refine v_iadd X.1 d_M_rule_43 ?_
        refine v_iload_n X.1 d_M_rule_44 rfl 3 rfl ?_
        obtain ⟨hb22, hf⟩ := oi_none hf
        obtain ⟨g23, eg24, hf⟩ := ob_some hf
        refine v_zast X.1 48 1 rfl rfl hb22 ((sa_58 ad ca _ _ _).trans (congrArg (wX ad ca) (Option.some.inj eg24))) d_M_rule_45 ?_
        refine v_aload_n X.1 d_M_rule_46 rfl 0 rfl ?_
        refine v_iload_n X.1 d_M_rule_47 rfl 1 rfl ?_
        refine v_iload_n X.1 d_M_rule_48 rfl 2 rfl ?_
        obtain ⟨r26, g27, hc25, hf⟩ := ob2_some hf
        refine v_backI X.1 (x_runV X (c_M_mayServe l p1 p2 _ _ _ hc25) rfl tw_755 tw_57 tw_752 tw_754 tw_35 36 5 rfl rfl rfl ⟨rfl, rfl, by decide, by decide⟩ ⟨by decide, by show _ = some 2; decide⟩ (rest := []) rfl (Nat.le_of_ble_eq_true rfl) d_M_rule_49 (by decide) (by decide)) ?_
        obtain ⟨hz28, hf⟩ := oi_none hf
        cases hf
        exact v_iret X.1 X.2.2.1 (oz_nar hz28).1 d_M_rule_52 X.2.2.2.1 (by decide) (by decide)
      · rw [if_neg c21] at hf
        refine v_iconst X.1 (v := (0 : Int32)) d_M_rule_32 (by decide) ?_
        cases hf
        exact v_iret X.1 X.2.2.1 rfl d_M_rule_33 X.2.2.2.1 (by decide) (by decide)
    · rw [if_pos c18] at hf
      refine v_iconst X.1 (v := (1 : Int32)) d_M_rule_17 (by decide) ?_
      refine v_goto X.1 (tgt := 22) d_M_rule_18 (by decide) ?_
      obtain ⟨g29, eg30, hf⟩ := ob_some hf
      refine v_put X.1 (ci := 5) ⟨in_M, rfl⟩ 36 rfl 0 (by decide) ⟨ty_M_ok, nm_M⟩ (X.t tw_628 rfl) rfl (ty := .int) (by decide +kernel) rfl rfl (Nat.le_of_ble_eq_true rfl) ((sw_40 ad ca _ _).trans (congrArg (wX ad ca) (Option.some.inj eg30))) d_M_rule_22 ?_
      refine v_aload_n X.1 d_M_rule_25 rfl 0 rfl ?_
      refine v_get X.1 (ci := 5) ⟨in_M, rfl⟩ 36 rfl 0 (by decide) (X.t tw_628 rfl) rfl d_M_rule_26 ?_
      refine v_if_le X.1 (tgt := 34) d_M_rule_29 (by decide) (fun c31 => ?_) (fun c31 => ?_)
      · rw [if_pos c31] at hf
        refine v_aload_n X.1 d_M_rule_34 rfl 0 rfl ?_
        refine v_get X.1 (ci := 5) ⟨in_M, rfl⟩ 36 rfl 14 (by decide) (X.t tw_642 rfl) rfl d_M_rule_35 ?_
        refine v_bipush X.1 (v := (8 : Int32)) d_M_rule_38 (by decide) ?_
        refine v_iload_n X.1 d_M_rule_40 rfl 1 rfl ?_
        refine v_imul X.1 d_M_rule_41 ?_
        refine v_iload_n X.1 d_M_rule_42 rfl 2 rfl ?_
        refine v_iadd X.1 d_M_rule_43 ?_
        refine v_iload_n X.1 d_M_rule_44 rfl 3 rfl ?_
        obtain ⟨hb32, hf⟩ := oi_none hf
        obtain ⟨g33, eg34, hf⟩ := ob_some hf
        refine v_zast X.1 48 1 rfl rfl hb32 ((sa_58 ad ca _ _ _).trans (congrArg (wX ad ca) (Option.some.inj eg34))) d_M_rule_45 ?_
        refine v_aload_n X.1 d_M_rule_46 rfl 0 rfl ?_
        refine v_iload_n X.1 d_M_rule_47 rfl 1 rfl ?_
        refine v_iload_n X.1 d_M_rule_48 rfl 2 rfl ?_
        obtain ⟨r36, g37, hc35, hf⟩ := ob2_some hf
        refine v_backI X.1 (x_runV X (c_M_mayServe l p1 p2 _ _ _ hc35) rfl tw_755 tw_57 tw_752 tw_754 tw_35 36 5 rfl rfl rfl ⟨rfl, rfl, by decide, by decide⟩ ⟨by decide, by show _ = some 2; decide⟩ (rest := []) rfl (Nat.le_of_ble_eq_true rfl) d_M_rule_49 (by decide) (by decide)) ?_
        obtain ⟨hz38, hf⟩ := oi_none hf
        cases hf
        exact v_iret X.1 X.2.2.1 (oz_nar hz38).1 d_M_rule_52 X.2.2.2.1 (by decide) (by decide)
      · rw [if_neg c31] at hf
        refine v_iconst X.1 (v := (0 : Int32)) d_M_rule_32 (by decide) ?_
        cases hf
        exact v_iret X.1 X.2.2.1 rfl d_M_rule_33 X.2.2.2.1 (by decide) (by decide)

def f_M_full_L39 (fu : Nat) (p1 : Int32) (p2 : Int32) : Nat → Int32 → Int32 → xSt → Option (Int32 × Int32 × xSt)
  | 0, _, _, _ => none
  | n + 1, a3, a4, g => (if (g 42 0) ≤ a4 then some (a3, a4, g) else (if a4 < 0 ∨ 8 ≤ a4.toNatClampNeg then none else (if (g 55 a4.toNatClampNeg) = p1 then f_M_full_L39 fu p1 p2 n (a3 + ((1 : Int32))) (a4 + (1 : Int32)) g else f_M_full_L39 fu p1 p2 n (a3 + ((0 : Int32))) (a4 + (1 : Int32)) g)))

def f_M_full (fu : Nat) (p1 : Int32) (p2 : Int32) (g : xSt) : Option (Int32 × xSt) := (ob2 (f_M_in p1 ((0 : Int32)) ((3 : Int32)) g) (fun r2 g3 => (if r2 = 0 then (Option.bind (some (xw g3 40 0 ((1 : Int32)))) (fun g5 => (if (g5 40 0) ≤ 0 then (if p1 < 0 ∨ 4 ≤ p1.toNatClampNeg then none else (Option.bind (some (xw g5 59 p1.toNatClampNeg (vp_nar .boolean p2))) (fun g9 => (ob3 (f_M_full_L39 fu p1 p2 fu ((0 : Int32)) ((0 : Int32)) g9) (fun x14 x15 g16 => some (x14, g16)))))) else some ((0 : Int32), g5)))) else (Option.bind (some (xw g3 40 0 ((0 : Int32)))) (fun g18 => (if (g18 40 0) ≤ 0 then (if p1 < 0 ∨ 4 ≤ p1.toNatClampNeg then none else (Option.bind (some (xw g18 59 p1.toNatClampNeg (vp_nar .boolean p2))) (fun g22 => (ob3 (f_M_full_L39 fu p1 p2 fu ((0 : Int32)) ((0 : Int32)) g22) (fun x24 x25 g26 => some (x24, g26)))))) else some ((0 : Int32), g18)))))))

set_option maxRecDepth 100000 in
set_option maxHeartbeats 4000000 in
theorem l_M_full_L39 {p : Program} {e : Env} {s : State} {m : MethodId} {below : List Frame} {meth : Method} {c : Code} {D : va_G} {ad : Nat → Nat} {ca : Nat → ClassId} (l : Launch) (fu : Nat) (p1 : Int32) (p2 : Int32) (X : xX p s m ([.ref (ad 36), .int p1, .int p2] : List Value).toArray meth c b_M_full "CrossDockModel" 5 (some .int) D ad ca) (hno : c.exceptionTable.toList = []) {Q : State → Prop} : ∀ (n : Nat) (a3 : Int32) (a4 : Int32) (g : xSt) (a3' : Int32) (a4' : Int32) (g' : xSt), f_M_full_L39 fu p1 p2 n a3 a4 g = some (a3', a4', g') → xV p l e ({ frames := 1, cells := 0, slots := 0, locals := 22 } : Room) s m ([.ref (ad 36), .int p1, .int p2] : List Value).toArray below meth c D xcl (wX ad ca) (xA (wX ad ca) s.heap.size) 5 0 0 Q g' 73 [(4, .int a4'), (3, .int a3'), (0, .ref (ad 36)), (1, .int p1), (2, .int p2)] [] → xV p l e ({ frames := 1, cells := 0, slots := 0, locals := 22 } : Room) s m ([.ref (ad 36), .int p1, .int p2] : List Value).toArray below meth c D xcl (wX ad ca) (xA (wX ad ca) s.heap.size) 5 0 0 Q g 39 [(4, .int a4), (3, .int a3), (0, .ref (ad 36)), (1, .int p1), (2, .int p2)] [] := by
  intro n
  induction n with
  | zero =>
    intro a3 a4 g a3' a4' g' hf
    rw [f_M_full_L39] at hf
    cases hf
  | succ n ih =>
    intro a3 a4 g a3' a4' g' hf hk
    rw [f_M_full_L39] at hf
    refine v_iload X.1 d_M_full_39 0 rfl ?_
    refine v_aload_n X.1 d_M_full_41 rfl 2 rfl ?_
    refine v_get X.1 (ci := 5) ⟨in_M, rfl⟩ 36 rfl 7 (by decide) (X.t tw_635 rfl) rfl d_M_full_42 ?_
    refine v_icmp_ge X.1 (tgt := 73) d_M_full_45 (by decide) (fun c11 => ?_) (fun c11 => ?_)
    · rw [if_pos c11] at hf
      cases hf
      refine v_sub [0, 1, 2, 3, 4] rfl ?_
      exact hk
    · rw [if_neg c11] at hf
      refine v_iload_n X.1 d_M_full_48 rfl 1 rfl ?_
      refine v_aload_n X.1 d_M_full_49 rfl 2 rfl ?_
      refine v_get X.1 (ci := 5) ⟨in_M, rfl⟩ 36 rfl 11 (by decide) (X.t tw_639 rfl) rfl d_M_full_50 ?_
      refine v_iload X.1 d_M_full_53 0 rfl ?_
      obtain ⟨hb12, hf⟩ := oi_none hf
      refine v_iald X.1 45 0 rfl rfl hb12 d_M_full_55 ?_
      refine v_iload_n X.1 d_M_full_56 rfl 3 rfl ?_
      refine v_icmp_ne X.1 (tgt := 64) d_M_full_57 (by decide) (fun c13 => ?_) (fun c13 => ?_)
      · rw [if_neg c13] at hf
        refine v_iconst X.1 (v := (0 : Int32)) d_M_full_64 (by decide) ?_
        refine v_iadd X.1 d_M_full_65 ?_
        refine v_istore_n X.1 (lv' := [(3, .int (a3 + ((0 : Int32)))), (4, .int a4), (0, .ref (ad 36)), (1, .int p1), (2, .int p2)]) d_M_full_66 rfl (by decide) rfl ?_
        refine v_iinc X.1 (k0 := 1) (v := a4 + (1 : Int32)) (lv' := [(4, .int (a4 + (1 : Int32))), (3, .int (a3 + ((0 : Int32)))), (0, .ref (ad 36)), (1, .int p1), (2, .int p2)]) d_M_full_67 rfl rfl (by decide) rfl ?_
        refine v_goto X.1 (tgt := 39) d_M_full_70 (by decide) ?_
        refine v_sub [0, 1, 2, 3, 4] rfl ?_
        exact ih _ _ _ _ _ _ hf hk
      · rw [if_pos c13] at hf
        refine v_iconst X.1 (v := (1 : Int32)) d_M_full_60 (by decide) ?_
        refine v_goto X.1 (tgt := 65) d_M_full_61 (by decide) ?_
        refine v_iadd X.1 d_M_full_65 ?_
        refine v_istore_n X.1 (lv' := [(3, .int (a3 + ((1 : Int32)))), (4, .int a4), (0, .ref (ad 36)), (1, .int p1), (2, .int p2)]) d_M_full_66 rfl (by decide) rfl ?_
        refine v_iinc X.1 (k0 := 1) (v := a4 + (1 : Int32)) (lv' := [(4, .int (a4 + (1 : Int32))), (3, .int (a3 + ((1 : Int32)))), (0, .ref (ad 36)), (1, .int p1), (2, .int p2)]) d_M_full_67 rfl rfl (by decide) rfl ?_
        refine v_goto X.1 (tgt := 39) d_M_full_70 (by decide) ?_
        refine v_sub [0, 1, 2, 3, 4] rfl ?_
        exact ih _ _ _ _ _ _ hf hk

set_option maxRecDepth 100000 in
set_option maxHeartbeats 4000000 in
theorem c_M_full (l : Launch) (fu : Nat) (p1 : Int32) (p2 : Int32) (g : xSt) (r : Int32) (g' : xSt) (hf : f_M_full fu p1 p2 g = some (r, g')) : xM l y_M_full (.code y_M_full b_M_full 5 (some .int)) ({ frames := 1, cells := 0, slots := 0, locals := 22 } : Room) (fun ad => [.ref (ad 36), .int p1, .int p2]) g (.inl (some (.int r))) g' 0 0 := by
  refine x_contract (by decide) (fun _ => Nat.le_of_ble_eq_true rfl) ?_
  intro p e s m below meth c D ad ca X hno
  unfold f_M_full at hf
  refine v_aload_n X.1 d_M_full_0 rfl 0 rfl ?_
  refine v_iload_n X.1 d_M_full_1 rfl 1 rfl ?_
  refine v_iconst X.1 (v := (0 : Int32)) d_M_full_2 (by decide) ?_
  refine v_iconst X.1 (v := (3 : Int32)) d_M_full_3 (by decide) ?_
  obtain ⟨r2, g3, hc1, hf⟩ := ob2_some hf
  refine v_backI X.1 (x_runS X (c_M_in l p1 ((0 : Int32)) ((3 : Int32)) _ _ _ hc1) tw_723 tw_57 tw_721 tw_722 ⟨rfl, rfl, by decide, by decide⟩ ⟨by decide, by show _ = some 3; decide⟩ (rest := [.ref (ad 36)]) rfl (Nat.le_of_ble_eq_true rfl) d_M_full_4 (by decide) (by decide)) ?_
  refine v_if_eq X.1 (tgt := 14) d_M_full_7 (by decide) (fun c4 => ?_) (fun c4 => ?_)
  · rw [if_pos c4] at hf
    refine v_iconst X.1 (v := (1 : Int32)) d_M_full_14 (by decide) ?_
    obtain ⟨g5, eg6, hf⟩ := ob_some hf
    refine v_put X.1 (ci := 5) ⟨in_M, rfl⟩ 36 rfl 0 (by decide) ⟨ty_M_ok, nm_M⟩ (X.t tw_628 rfl) rfl (ty := .int) (by decide +kernel) rfl rfl (Nat.le_of_ble_eq_true rfl) ((sw_40 ad ca _ _).trans (congrArg (wX ad ca) (Option.some.inj eg6))) d_M_full_15 ?_
    refine v_aload_n X.1 d_M_full_18 rfl 0 rfl ?_
    refine v_get X.1 (ci := 5) ⟨in_M, rfl⟩ 36 rfl 0 (by decide) (X.t tw_628 rfl) rfl d_M_full_19 ?_
    refine v_if_le X.1 (tgt := 27) d_M_full_22 (by decide) (fun c7 => ?_) (fun c7 => ?_)
    · rw [if_pos c7] at hf
      refine v_aload_n X.1 d_M_full_27 rfl 0 rfl ?_
      refine v_get X.1 (ci := 5) ⟨in_M, rfl⟩ 36 rfl 15 (by decide) (X.t tw_643 rfl) rfl d_M_full_28 ?_
      refine v_iload_n X.1 d_M_full_31 rfl 1 rfl ?_
      refine v_iload_n X.1 d_M_full_32 rfl 2 rfl ?_
      obtain ⟨hb8, hf⟩ := oi_none hf
      obtain ⟨g9, eg10, hf⟩ := ob_some hf
      refine v_zast X.1 49 1 rfl rfl hb8 ((sa_59 ad ca _ _ _).trans (congrArg (wX ad ca) (Option.some.inj eg10))) d_M_full_33 ?_
      refine v_iconst X.1 (v := (0 : Int32)) d_M_full_34 (by decide) ?_
      refine v_istore_n X.1 (lv' := [(3, .int ((0 : Int32))), (0, .ref (ad 36)), (1, .int p1), (2, .int p2)]) d_M_full_35 rfl (by decide) rfl ?_
      refine v_iconst X.1 (v := (0 : Int32)) d_M_full_36 (by decide) ?_
      refine v_istore X.1 (lv' := [(4, .int ((0 : Int32))), (3, .int ((0 : Int32))), (0, .ref (ad 36)), (1, .int p1), (2, .int p2)]) d_M_full_37 (by decide) rfl ?_
      obtain ⟨x14, x15, g16, hL17, hf⟩ := ob3_some hf
      refine l_M_full_L39 l fu p1 p2 X hno fu _ _ _ _ _ _ hL17 ?_
      refine v_iload_n X.1 d_M_full_73 rfl 1 rfl ?_
      cases hf
      exact v_iret X.1 X.2.2.1 rfl d_M_full_74 X.2.2.2.1 (by decide) (by decide)
    · rw [if_neg c7] at hf
      refine v_iconst X.1 (v := (0 : Int32)) d_M_full_25 (by decide) ?_
      cases hf
      exact v_iret X.1 X.2.2.1 rfl d_M_full_26 X.2.2.2.1 (by decide) (by decide)
  · rw [if_neg c4] at hf
    refine v_iconst X.1 (v := (0 : Int32)) d_M_full_10 (by decide) ?_
    refine v_goto X.1 (tgt := 15) d_M_full_11 (by decide) ?_
    obtain ⟨g18, eg19, hf⟩ := ob_some hf
    refine v_put X.1 (ci := 5) ⟨in_M, rfl⟩ 36 rfl 0 (by decide) ⟨ty_M_ok, nm_M⟩ (X.t tw_628 rfl) rfl (ty := .int) (by decide +kernel) rfl rfl (Nat.le_of_ble_eq_true rfl) ((sw_40 ad ca _ _).trans (congrArg (wX ad ca) (Option.some.inj eg19))) d_M_full_15 ?_
    refine v_aload_n X.1 d_M_full_18 rfl 0 rfl ?_
    refine v_get X.1 (ci := 5) ⟨in_M, rfl⟩ 36 rfl 0 (by decide) (X.t tw_628 rfl) rfl d_M_full_19 ?_
    refine v_if_le X.1 (tgt := 27) d_M_full_22 (by decide) (fun c20 => ?_) (fun c20 => ?_)
    · rw [if_pos c20] at hf
      refine v_aload_n X.1 d_M_full_27 rfl 0 rfl ?_
      refine v_get X.1 (ci := 5) ⟨in_M, rfl⟩ 36 rfl 15 (by decide) (X.t tw_643 rfl) rfl d_M_full_28 ?_
      refine v_iload_n X.1 d_M_full_31 rfl 1 rfl ?_
      refine v_iload_n X.1 d_M_full_32 rfl 2 rfl ?_
      obtain ⟨hb21, hf⟩ := oi_none hf
      obtain ⟨g22, eg23, hf⟩ := ob_some hf
      refine v_zast X.1 49 1 rfl rfl hb21 ((sa_59 ad ca _ _ _).trans (congrArg (wX ad ca) (Option.some.inj eg23))) d_M_full_33 ?_
      refine v_iconst X.1 (v := (0 : Int32)) d_M_full_34 (by decide) ?_
      refine v_istore_n X.1 (lv' := [(3, .int ((0 : Int32))), (0, .ref (ad 36)), (1, .int p1), (2, .int p2)]) d_M_full_35 rfl (by decide) rfl ?_
      refine v_iconst X.1 (v := (0 : Int32)) d_M_full_36 (by decide) ?_
      refine v_istore X.1 (lv' := [(4, .int ((0 : Int32))), (3, .int ((0 : Int32))), (0, .ref (ad 36)), (1, .int p1), (2, .int p2)]) d_M_full_37 (by decide) rfl ?_
      obtain ⟨x24, x25, g26, hL27, hf⟩ := ob3_some hf
      refine l_M_full_L39 l fu p1 p2 X hno fu _ _ _ _ _ _ hL27 ?_
      refine v_iload_n X.1 d_M_full_73 rfl 1 rfl ?_
      cases hf
      exact v_iret X.1 X.2.2.1 rfl d_M_full_74 X.2.2.2.1 (by decide) (by decide)
    · rw [if_neg c20] at hf
      refine v_iconst X.1 (v := (0 : Int32)) d_M_full_25 (by decide) ?_
      cases hf
      exact v_iret X.1 X.2.2.1 rfl d_M_full_26 X.2.2.2.1 (by decide) (by decide)

def f_M_match_L60 (fu : Nat) (p1 : Int32) : Nat → Int32 → xSt → Option (Int32 × xSt)
  | 0, _, _ => none
  | n + 1, a2, g => (if (g 46 0) ≤ a2 then some (a2, g) else (if a2 < 0 ∨ 64 ≤ a2.toNatClampNeg then none else (if (g 66 a2.toNatClampNeg) = 0 then f_M_match_L60 fu p1 n (a2 + (1 : Int32)) g else (if a2 < 0 ∨ 64 ≤ a2.toNatClampNeg then none else (if (g 43 0) < 0 ∨ 64 ≤ (g 43 0).toNatClampNeg then none else (Option.bind (some (xw g 60 (g 43 0).toNatClampNeg (g 63 a2.toNatClampNeg))) (fun g25 => (if a2 < 0 ∨ 64 ≤ a2.toNatClampNeg then none else (if (g25 43 0) < 0 ∨ 64 ≤ (g25 43 0).toNatClampNeg then none else (Option.bind (some (xw g25 61 (g25 43 0).toNatClampNeg (g25 64 a2.toNatClampNeg))) (fun g29 => (if a2 < 0 ∨ 64 ≤ a2.toNatClampNeg then none else (if (g29 43 0) < 0 ∨ 64 ≤ (g29 43 0).toNatClampNeg then none else (Option.bind (some (xw g29 62 (g29 43 0).toNatClampNeg (g29 66 a2.toNatClampNeg))) (fun g33 => (Option.bind (some (xw g33 43 0 ((g33 43 0) + ((1 : Int32))))) (fun g35 => f_M_match_L60 fu p1 n (a2 + (1 : Int32)) g35)))))))))))))))))

def f_M_match (fu : Nat) (p1 : Int32) (g : xSt) : Option (Int32 × xSt) := (ob2 (f_M_in p1 ((0 : Int32)) ((20000 : Int32)) g) (fun r2 g3 => (if r2 = 0 then (Option.bind (some (xw g3 40 0 ((1 : Int32)))) (fun g5 => (if (g5 40 0) ≤ 0 then (Option.bind (f_M_layOut fu g5) (fun g10 => (ob2 (f_M_lookAtAll fu p1 g10) (fun r12 g13 => (if ¬ (r12 = 0 ∨ r12 = 1) then none else (Option.bind (some (xw g13 44 0 r12)) (fun g14 => (if (g14 44 0) = 0 then (Option.bind (f_M_byRule fu g14) (fun g45 => (Option.bind (some (xw g45 43 0 ((0 : Int32)))) (fun g46 => (ob2 (f_M_match_L60 fu p1 fu ((0 : Int32)) g46) (fun x48 g49 => (ob2 (f_M_savedNow fu g49) (fun r52 g53 => some (r52, g53))))))))) else (Option.bind (some (xw g14 43 0 ((0 : Int32)))) (fun g18 => (ob2 (f_M_match_L60 fu p1 fu ((0 : Int32)) g18) (fun x37 g38 => (ob2 (f_M_savedNow fu g38) (fun r41 g42 => some (r41, g42))))))))))))))) else some ((0 : Int32), g5)))) else (Option.bind (some (xw g3 40 0 ((0 : Int32)))) (fun g54 => (if (g54 40 0) ≤ 0 then (Option.bind (f_M_layOut fu g54) (fun g59 => (ob2 (f_M_lookAtAll fu p1 g59) (fun r61 g62 => (if ¬ (r61 = 0 ∨ r61 = 1) then none else (Option.bind (some (xw g62 44 0 r61)) (fun g63 => (if (g63 44 0) = 0 then (Option.bind (f_M_byRule fu g63) (fun g77 => (Option.bind (some (xw g77 43 0 ((0 : Int32)))) (fun g78 => (ob2 (f_M_match_L60 fu p1 fu ((0 : Int32)) g78) (fun x80 g81 => (ob2 (f_M_savedNow fu g81) (fun r84 g85 => some (r84, g85))))))))) else (Option.bind (some (xw g63 43 0 ((0 : Int32)))) (fun g67 => (ob2 (f_M_match_L60 fu p1 fu ((0 : Int32)) g67) (fun x69 g70 => (ob2 (f_M_savedNow fu g70) (fun r73 g74 => some (r73, g74))))))))))))))) else some ((0 : Int32), g54)))))))

set_option maxRecDepth 100000 in
set_option maxHeartbeats 4000000 in
theorem l_M_match_L60 {p : Program} {e : Env} {s : State} {m : MethodId} {below : List Frame} {meth : Method} {c : Code} {D : va_G} {ad : Nat → Nat} {ca : Nat → ClassId} (l : Launch) (fu : Nat) (p1 : Int32) (X : xX p s m ([.ref (ad 36), .int p1] : List Value).toArray meth c b_M_match "CrossDockModel" 3 (some .int) D ad ca) (hno : c.exceptionTable.toList = []) {Q : State → Prop} : ∀ (n : Nat) (a2 : Int32) (g : xSt) (a2' : Int32) (g' : xSt), f_M_match_L60 fu p1 n a2 g = some (a2', g') → xV p l e ({ frames := 3, cells := 0, slots := 0, locals := 70 } : Room) s m ([.ref (ad 36), .int p1] : List Value).toArray below meth c D xcl (wX ad ca) (xA (wX ad ca) s.heap.size) 3 0 0 Q g' 141 [(2, .int a2'), (0, .ref (ad 36)), (1, .int p1)] [] → xV p l e ({ frames := 3, cells := 0, slots := 0, locals := 70 } : Room) s m ([.ref (ad 36), .int p1] : List Value).toArray below meth c D xcl (wX ad ca) (xA (wX ad ca) s.heap.size) 3 0 0 Q g 60 [(2, .int a2), (0, .ref (ad 36)), (1, .int p1)] [] := by
  intro n
  induction n with
  | zero =>
    intro a2 g a2' g' hf
    rw [f_M_match_L60] at hf
    cases hf
  | succ n ih =>
    intro a2 g a2' g' hf hk
    rw [f_M_match_L60] at hf
    refine v_iload_n X.1 d_M_match_60 rfl 0 rfl ?_
    refine v_aload_n X.1 d_M_match_61 rfl 1 rfl ?_
    refine v_get X.1 (ci := 5) ⟨in_M, rfl⟩ 36 rfl 22 (by decide) (X.t tw_650 rfl) rfl d_M_match_62 ?_
    refine v_icmp_ge X.1 (tgt := 141) d_M_match_65 (by decide) (fun c20 => ?_) (fun c20 => ?_)
    · rw [if_pos c20] at hf
      cases hf
      refine v_sub [0, 1, 2] rfl ?_
      exact hk
    · rw [if_neg c20] at hf
      refine v_aload_n X.1 d_M_match_68 rfl 1 rfl ?_
      refine v_get X.1 (ci := 5) ⟨in_M, rfl⟩ 36 rfl 26 (by decide) (X.t tw_654 rfl) rfl d_M_match_69 ?_
      refine v_iload_n X.1 d_M_match_72 rfl 0 rfl ?_
      obtain ⟨hb21, hf⟩ := oi_none hf
      refine v_iald X.1 56 0 rfl rfl hb21 d_M_match_73 ?_
      refine v_if_ne X.1 (tgt := 80) d_M_match_74 (by decide) (fun c22 => ?_) (fun c22 => ?_)
      · rw [if_neg c22] at hf
        refine v_aload_n X.1 d_M_match_80 rfl 1 rfl ?_
        refine v_get X.1 (ci := 5) ⟨in_M, rfl⟩ 36 rfl 17 (by decide) (X.t tw_645 rfl) rfl d_M_match_81 ?_
        refine v_aload_n X.1 d_M_match_84 rfl 1 rfl ?_
        refine v_get X.1 (ci := 5) ⟨in_M, rfl⟩ 36 rfl 16 (by decide) (X.t tw_644 rfl) rfl d_M_match_85 ?_
        refine v_aload_n X.1 d_M_match_88 rfl 1 rfl ?_
        refine v_get X.1 (ci := 5) ⟨in_M, rfl⟩ 36 rfl 23 (by decide) (X.t tw_651 rfl) rfl d_M_match_89 ?_
        refine v_iload_n X.1 d_M_match_92 rfl 0 rfl ?_
        obtain ⟨hb23, hf⟩ := oi_none hf
        refine v_iald X.1 53 0 rfl rfl hb23 d_M_match_93 ?_
        obtain ⟨hb24, hf⟩ := oi_none hf
        obtain ⟨g25, eg26, hf⟩ := ob_some hf
        refine v_iast X.1 50 0 rfl rfl hb24 ((sa_60 ad ca _ _ _).trans (congrArg (wX ad ca) (Option.some.inj eg26))) d_M_match_94 ?_
        refine v_aload_n X.1 d_M_match_95 rfl 1 rfl ?_
        refine v_get X.1 (ci := 5) ⟨in_M, rfl⟩ 36 rfl 18 (by decide) (X.t tw_646 rfl) rfl d_M_match_96 ?_
        refine v_aload_n X.1 d_M_match_99 rfl 1 rfl ?_
        refine v_get X.1 (ci := 5) ⟨in_M, rfl⟩ 36 rfl 16 (by decide) (X.t tw_644 rfl) rfl d_M_match_100 ?_
        refine v_aload_n X.1 d_M_match_103 rfl 1 rfl ?_
        refine v_get X.1 (ci := 5) ⟨in_M, rfl⟩ 36 rfl 24 (by decide) (X.t tw_652 rfl) rfl d_M_match_104 ?_
        refine v_iload_n X.1 d_M_match_107 rfl 0 rfl ?_
        obtain ⟨hb27, hf⟩ := oi_none hf
        refine v_iald X.1 54 0 rfl rfl hb27 d_M_match_108 ?_
        obtain ⟨hb28, hf⟩ := oi_none hf
        obtain ⟨g29, eg30, hf⟩ := ob_some hf
        refine v_iast X.1 51 0 rfl rfl hb28 ((sa_61 ad ca _ _ _).trans (congrArg (wX ad ca) (Option.some.inj eg30))) d_M_match_109 ?_
        refine v_aload_n X.1 d_M_match_110 rfl 1 rfl ?_
        refine v_get X.1 (ci := 5) ⟨in_M, rfl⟩ 36 rfl 19 (by decide) (X.t tw_647 rfl) rfl d_M_match_111 ?_
        refine v_aload_n X.1 d_M_match_114 rfl 1 rfl ?_
        refine v_get X.1 (ci := 5) ⟨in_M, rfl⟩ 36 rfl 16 (by decide) (X.t tw_644 rfl) rfl d_M_match_115 ?_
        refine v_aload_n X.1 d_M_match_118 rfl 1 rfl ?_
        refine v_get X.1 (ci := 5) ⟨in_M, rfl⟩ 36 rfl 26 (by decide) (X.t tw_654 rfl) rfl d_M_match_119 ?_
        refine v_iload_n X.1 d_M_match_122 rfl 0 rfl ?_
        obtain ⟨hb31, hf⟩ := oi_none hf
        refine v_iald X.1 56 0 rfl rfl hb31 d_M_match_123 ?_
        obtain ⟨hb32, hf⟩ := oi_none hf
        obtain ⟨g33, eg34, hf⟩ := ob_some hf
        refine v_iast X.1 52 0 rfl rfl hb32 ((sa_62 ad ca _ _ _).trans (congrArg (wX ad ca) (Option.some.inj eg34))) d_M_match_124 ?_
        refine v_aload_n X.1 d_M_match_125 rfl 1 rfl ?_
        refine v_dup X.1 d_M_match_126 rfl ?_
        refine v_get X.1 (ci := 5) ⟨in_M, rfl⟩ 36 rfl 16 (by decide) (X.t tw_644 rfl) rfl d_M_match_127 ?_
        refine v_iconst X.1 (v := (1 : Int32)) d_M_match_130 (by decide) ?_
        refine v_iadd X.1 d_M_match_131 ?_
        obtain ⟨g35, eg36, hf⟩ := ob_some hf
        refine v_put X.1 (ci := 5) ⟨in_M, rfl⟩ 36 rfl 16 (by decide) ⟨ty_M_ok, nm_M⟩ (X.t tw_644 rfl) rfl (ty := .int) (by decide +kernel) rfl rfl (Nat.le_of_ble_eq_true rfl) ((sw_43 ad ca _ _).trans (congrArg (wX ad ca) (Option.some.inj eg36))) d_M_match_132 ?_
        refine v_iinc X.1 (k0 := 0) (v := a2 + (1 : Int32)) (lv' := [(2, .int (a2 + (1 : Int32))), (0, .ref (ad 36)), (1, .int p1)]) d_M_match_135 rfl rfl (by decide) rfl ?_
        refine v_goto X.1 (tgt := 60) d_M_match_138 (by decide) ?_
        refine v_sub [0, 1, 2] rfl ?_
        exact ih _ _ _ _ hf hk
      · rw [if_pos c22] at hf
        refine v_goto X.1 (tgt := 135) d_M_match_77 (by decide) ?_
        refine v_iinc X.1 (k0 := 0) (v := a2 + (1 : Int32)) (lv' := [(2, .int (a2 + (1 : Int32))), (0, .ref (ad 36)), (1, .int p1)]) d_M_match_135 rfl rfl (by decide) rfl ?_
        refine v_goto X.1 (tgt := 60) d_M_match_138 (by decide) ?_
        refine v_sub [0, 1, 2] rfl ?_
        exact ih _ _ _ _ hf hk

set_option maxRecDepth 100000 in
set_option maxHeartbeats 4000000 in
theorem c_M_match (l : Launch) (fu : Nat) (p1 : Int32) (g : xSt) (r : Int32) (g' : xSt) (hf : f_M_match fu p1 g = some (r, g')) : xM l y_M_match (.code y_M_match b_M_match 3 (some .int)) ({ frames := 3, cells := 0, slots := 0, locals := 70 } : Room) (fun ad => [.ref (ad 36), .int p1]) g (.inl (some (.int r))) g' 0 0 := by
  refine x_contract (by decide) (fun _ => Nat.le_of_ble_eq_true rfl) ?_
  intro p e s m below meth c D ad ca X hno
  unfold f_M_match at hf
  refine v_aload_n X.1 d_M_match_0 rfl 0 rfl ?_
  refine v_iload_n X.1 d_M_match_1 rfl 1 rfl ?_
  refine v_iconst X.1 (v := (0 : Int32)) d_M_match_2 (by decide) ?_
  refine v_sipush X.1 (v := (20000 : Int32)) d_M_match_3 (by decide) ?_
  obtain ⟨r2, g3, hc1, hf⟩ := ob2_some hf
  refine v_backI X.1 (x_runS X (c_M_in l p1 ((0 : Int32)) ((20000 : Int32)) _ _ _ hc1) tw_723 tw_57 tw_721 tw_722 ⟨rfl, rfl, by decide, by decide⟩ ⟨by decide, by show _ = some 3; decide⟩ (rest := [.ref (ad 36)]) rfl (Nat.le_of_ble_eq_true rfl) d_M_match_6 (by decide) (by decide)) ?_
  refine v_if_eq X.1 (tgt := 16) d_M_match_9 (by decide) (fun c4 => ?_) (fun c4 => ?_)
  · rw [if_pos c4] at hf
    refine v_iconst X.1 (v := (1 : Int32)) d_M_match_16 (by decide) ?_
    obtain ⟨g5, eg6, hf⟩ := ob_some hf
    refine v_put X.1 (ci := 5) ⟨in_M, rfl⟩ 36 rfl 0 (by decide) ⟨ty_M_ok, nm_M⟩ (X.t tw_628 rfl) rfl (ty := .int) (by decide +kernel) rfl rfl (Nat.le_of_ble_eq_true rfl) ((sw_40 ad ca _ _).trans (congrArg (wX ad ca) (Option.some.inj eg6))) d_M_match_17 ?_
    refine v_aload_n X.1 d_M_match_20 rfl 0 rfl ?_
    refine v_get X.1 (ci := 5) ⟨in_M, rfl⟩ 36 rfl 0 (by decide) (X.t tw_628 rfl) rfl d_M_match_21 ?_
    refine v_if_le X.1 (tgt := 29) d_M_match_24 (by decide) (fun c7 => ?_) (fun c7 => ?_)
    · rw [if_pos c7] at hf
      refine v_aload_n X.1 d_M_match_29 rfl 0 rfl ?_
      obtain ⟨g10, hc8, hf⟩ := ob_some hf
      refine v_backV X.1 (x_runV X (c_M_layOut l fu _ _ hc8) rfl tw_771 tw_57 tw_768 tw_770 tw_37 36 5 rfl rfl rfl ⟨rfl, rfl, by decide, by decide⟩ ⟨by decide, by show _ = some 0; decide⟩ (rest := []) rfl (Nat.le_of_ble_eq_true rfl) d_M_match_30 (by decide) (by decide)) ?_
      refine v_aload_n X.1 d_M_match_33 rfl 0 rfl ?_
      refine v_aload_n X.1 d_M_match_34 rfl 0 rfl ?_
      refine v_iload_n X.1 d_M_match_35 rfl 1 rfl ?_
      obtain ⟨r12, g13, hc11, hf⟩ := ob2_some hf
      refine v_backI X.1 (x_runV X (c_M_lookAtAll l fu p1 _ _ _ hc11) rfl tw_791 tw_57 tw_788 tw_790 tw_42 36 5 rfl rfl rfl ⟨rfl, rfl, by decide, by decide⟩ ⟨by decide, by show _ = some 1; decide⟩ (rest := [.ref (ad 36)]) rfl (Nat.le_of_ble_eq_true rfl) d_M_match_36 (by decide) (by decide)) ?_
      obtain ⟨hz16, hf⟩ := oi_none hf
      obtain ⟨g14, eg15, hf⟩ := ob_some hf
      refine v_put X.1 (ci := 5) ⟨in_M, rfl⟩ 36 rfl 20 (by decide) ⟨ty_M_ok, nm_M⟩ (X.t tw_648 rfl) rfl (ty := .boolean) (by decide +kernel) (oz_nar hz16).1 (oz_nar hz16).2 (Nat.le_of_ble_eq_true rfl) ((sw_44 ad ca _ _).trans (congrArg (wX ad ca) (Option.some.inj eg15))) d_M_match_39 ?_
      refine v_aload_n X.1 d_M_match_42 rfl 0 rfl ?_
      refine v_get X.1 (ci := 5) ⟨in_M, rfl⟩ 36 rfl 20 (by decide) (X.t tw_648 rfl) rfl d_M_match_43 ?_
      refine v_if_ne X.1 (tgt := 53) d_M_match_46 (by decide) (fun c17 => ?_) (fun c17 => ?_)
      · rw [if_neg c17] at hf
        refine v_aload_n X.1 d_M_match_53 rfl 0 rfl ?_
        refine v_iconst X.1 (v := (0 : Int32)) d_M_match_54 (by decide) ?_
        obtain ⟨g18, eg19, hf⟩ := ob_some hf
        refine v_put X.1 (ci := 5) ⟨in_M, rfl⟩ 36 rfl 16 (by decide) ⟨ty_M_ok, nm_M⟩ (X.t tw_644 rfl) rfl (ty := .int) (by decide +kernel) rfl rfl (Nat.le_of_ble_eq_true rfl) ((sw_43 ad ca _ _).trans (congrArg (wX ad ca) (Option.some.inj eg19))) d_M_match_55 ?_
        refine v_iconst X.1 (v := (0 : Int32)) d_M_match_58 (by decide) ?_
        refine v_istore_n X.1 (lv' := [(2, .int ((0 : Int32))), (0, .ref (ad 36)), (1, .int p1)]) d_M_match_59 rfl (by decide) rfl ?_
        obtain ⟨x37, g38, hL39, hf⟩ := ob2_some hf
        refine l_M_match_L60 l fu p1 X hno fu _ _ _ _ hL39 ?_
        refine v_aload_n X.1 d_M_match_141 rfl 1 rfl ?_
        obtain ⟨r41, g42, hc40, hf⟩ := ob2_some hf
        refine v_backI X.1 (x_runV X (c_M_savedNow l fu _ _ _ hc40) rfl tw_811 tw_57 tw_808 tw_810 tw_47 36 5 rfl rfl rfl ⟨rfl, rfl, by decide, by decide⟩ ⟨by decide, by show _ = some 0; decide⟩ (rest := []) rfl (Nat.le_of_ble_eq_true rfl) d_M_match_142 (by decide) (by decide)) ?_
        cases hf
        exact v_iret X.1 X.2.2.1 rfl d_M_match_145 X.2.2.2.1 (by decide) (by decide)
      · rw [if_pos c17] at hf
        refine v_aload_n X.1 d_M_match_49 rfl 0 rfl ?_
        obtain ⟨g45, hc43, hf⟩ := ob_some hf
        refine v_backV X.1 (x_runV X (c_M_byRule l fu _ _ hc43) rfl tw_807 tw_57 tw_804 tw_806 tw_46 36 5 rfl rfl rfl ⟨rfl, rfl, by decide, by decide⟩ ⟨by decide, by show _ = some 0; decide⟩ (rest := []) rfl (Nat.le_of_ble_eq_true rfl) d_M_match_50 (by decide) (by decide)) ?_
        refine v_aload_n X.1 d_M_match_53 rfl 0 rfl ?_
        refine v_iconst X.1 (v := (0 : Int32)) d_M_match_54 (by decide) ?_
        obtain ⟨g46, eg47, hf⟩ := ob_some hf
        refine v_put X.1 (ci := 5) ⟨in_M, rfl⟩ 36 rfl 16 (by decide) ⟨ty_M_ok, nm_M⟩ (X.t tw_644 rfl) rfl (ty := .int) (by decide +kernel) rfl rfl (Nat.le_of_ble_eq_true rfl) ((sw_43 ad ca _ _).trans (congrArg (wX ad ca) (Option.some.inj eg47))) d_M_match_55 ?_
        refine v_iconst X.1 (v := (0 : Int32)) d_M_match_58 (by decide) ?_
        refine v_istore_n X.1 (lv' := [(2, .int ((0 : Int32))), (0, .ref (ad 36)), (1, .int p1)]) d_M_match_59 rfl (by decide) rfl ?_
        obtain ⟨x48, g49, hL50, hf⟩ := ob2_some hf
        refine l_M_match_L60 l fu p1 X hno fu _ _ _ _ hL50 ?_
        refine v_aload_n X.1 d_M_match_141 rfl 1 rfl ?_
        obtain ⟨r52, g53, hc51, hf⟩ := ob2_some hf
        refine v_backI X.1 (x_runV X (c_M_savedNow l fu _ _ _ hc51) rfl tw_811 tw_57 tw_808 tw_810 tw_47 36 5 rfl rfl rfl ⟨rfl, rfl, by decide, by decide⟩ ⟨by decide, by show _ = some 0; decide⟩ (rest := []) rfl (Nat.le_of_ble_eq_true rfl) d_M_match_142 (by decide) (by decide)) ?_
        cases hf
        exact v_iret X.1 X.2.2.1 rfl d_M_match_145 X.2.2.2.1 (by decide) (by decide)
    · rw [if_neg c7] at hf
      refine v_iconst X.1 (v := (0 : Int32)) d_M_match_27 (by decide) ?_
      cases hf
      exact v_iret X.1 X.2.2.1 rfl d_M_match_28 X.2.2.2.1 (by decide) (by decide)
  · rw [if_neg c4] at hf
    refine v_iconst X.1 (v := (0 : Int32)) d_M_match_12 (by decide) ?_
    refine v_goto X.1 (tgt := 17) d_M_match_13 (by decide) ?_
    obtain ⟨g54, eg55, hf⟩ := ob_some hf
    refine v_put X.1 (ci := 5) ⟨in_M, rfl⟩ 36 rfl 0 (by decide) ⟨ty_M_ok, nm_M⟩ (X.t tw_628 rfl) rfl (ty := .int) (by decide +kernel) rfl rfl (Nat.le_of_ble_eq_true rfl) ((sw_40 ad ca _ _).trans (congrArg (wX ad ca) (Option.some.inj eg55))) d_M_match_17 ?_
    refine v_aload_n X.1 d_M_match_20 rfl 0 rfl ?_
    refine v_get X.1 (ci := 5) ⟨in_M, rfl⟩ 36 rfl 0 (by decide) (X.t tw_628 rfl) rfl d_M_match_21 ?_
    refine v_if_le X.1 (tgt := 29) d_M_match_24 (by decide) (fun c56 => ?_) (fun c56 => ?_)
    · rw [if_pos c56] at hf
      refine v_aload_n X.1 d_M_match_29 rfl 0 rfl ?_
      obtain ⟨g59, hc57, hf⟩ := ob_some hf
      refine v_backV X.1 (x_runV X (c_M_layOut l fu _ _ hc57) rfl tw_771 tw_57 tw_768 tw_770 tw_37 36 5 rfl rfl rfl ⟨rfl, rfl, by decide, by decide⟩ ⟨by decide, by show _ = some 0; decide⟩ (rest := []) rfl (Nat.le_of_ble_eq_true rfl) d_M_match_30 (by decide) (by decide)) ?_
      refine v_aload_n X.1 d_M_match_33 rfl 0 rfl ?_
      refine v_aload_n X.1 d_M_match_34 rfl 0 rfl ?_
      refine v_iload_n X.1 d_M_match_35 rfl 1 rfl ?_
      obtain ⟨r61, g62, hc60, hf⟩ := ob2_some hf
      refine v_backI X.1 (x_runV X (c_M_lookAtAll l fu p1 _ _ _ hc60) rfl tw_791 tw_57 tw_788 tw_790 tw_42 36 5 rfl rfl rfl ⟨rfl, rfl, by decide, by decide⟩ ⟨by decide, by show _ = some 1; decide⟩ (rest := [.ref (ad 36)]) rfl (Nat.le_of_ble_eq_true rfl) d_M_match_36 (by decide) (by decide)) ?_
      obtain ⟨hz65, hf⟩ := oi_none hf
      obtain ⟨g63, eg64, hf⟩ := ob_some hf
      refine v_put X.1 (ci := 5) ⟨in_M, rfl⟩ 36 rfl 20 (by decide) ⟨ty_M_ok, nm_M⟩ (X.t tw_648 rfl) rfl (ty := .boolean) (by decide +kernel) (oz_nar hz65).1 (oz_nar hz65).2 (Nat.le_of_ble_eq_true rfl) ((sw_44 ad ca _ _).trans (congrArg (wX ad ca) (Option.some.inj eg64))) d_M_match_39 ?_
      refine v_aload_n X.1 d_M_match_42 rfl 0 rfl ?_
      refine v_get X.1 (ci := 5) ⟨in_M, rfl⟩ 36 rfl 20 (by decide) (X.t tw_648 rfl) rfl d_M_match_43 ?_
      refine v_if_ne X.1 (tgt := 53) d_M_match_46 (by decide) (fun c66 => ?_) (fun c66 => ?_)
      · rw [if_neg c66] at hf
        refine v_aload_n X.1 d_M_match_53 rfl 0 rfl ?_
        refine v_iconst X.1 (v := (0 : Int32)) d_M_match_54 (by decide) ?_
        obtain ⟨g67, eg68, hf⟩ := ob_some hf
        refine v_put X.1 (ci := 5) ⟨in_M, rfl⟩ 36 rfl 16 (by decide) ⟨ty_M_ok, nm_M⟩ (X.t tw_644 rfl) rfl (ty := .int) (by decide +kernel) rfl rfl (Nat.le_of_ble_eq_true rfl) ((sw_43 ad ca _ _).trans (congrArg (wX ad ca) (Option.some.inj eg68))) d_M_match_55 ?_
        refine v_iconst X.1 (v := (0 : Int32)) d_M_match_58 (by decide) ?_
        refine v_istore_n X.1 (lv' := [(2, .int ((0 : Int32))), (0, .ref (ad 36)), (1, .int p1)]) d_M_match_59 rfl (by decide) rfl ?_
        obtain ⟨x69, g70, hL71, hf⟩ := ob2_some hf
        refine l_M_match_L60 l fu p1 X hno fu _ _ _ _ hL71 ?_
        refine v_aload_n X.1 d_M_match_141 rfl 1 rfl ?_
        obtain ⟨r73, g74, hc72, hf⟩ := ob2_some hf
        refine v_backI X.1 (x_runV X (c_M_savedNow l fu _ _ _ hc72) rfl tw_811 tw_57 tw_808 tw_810 tw_47 36 5 rfl rfl rfl ⟨rfl, rfl, by decide, by decide⟩ ⟨by decide, by show _ = some 0; decide⟩ (rest := []) rfl (Nat.le_of_ble_eq_true rfl) d_M_match_142 (by decide) (by decide)) ?_
        cases hf
        exact v_iret X.1 X.2.2.1 rfl d_M_match_145 X.2.2.2.1 (by decide) (by decide)
      · rw [if_pos c66] at hf
        refine v_aload_n X.1 d_M_match_49 rfl 0 rfl ?_
        obtain ⟨g77, hc75, hf⟩ := ob_some hf
        refine v_backV X.1 (x_runV X (c_M_byRule l fu _ _ hc75) rfl tw_807 tw_57 tw_804 tw_806 tw_46 36 5 rfl rfl rfl ⟨rfl, rfl, by decide, by decide⟩ ⟨by decide, by show _ = some 0; decide⟩ (rest := []) rfl (Nat.le_of_ble_eq_true rfl) d_M_match_50 (by decide) (by decide)) ?_
        refine v_aload_n X.1 d_M_match_53 rfl 0 rfl ?_
        refine v_iconst X.1 (v := (0 : Int32)) d_M_match_54 (by decide) ?_
        obtain ⟨g78, eg79, hf⟩ := ob_some hf
        refine v_put X.1 (ci := 5) ⟨in_M, rfl⟩ 36 rfl 16 (by decide) ⟨ty_M_ok, nm_M⟩ (X.t tw_644 rfl) rfl (ty := .int) (by decide +kernel) rfl rfl (Nat.le_of_ble_eq_true rfl) ((sw_43 ad ca _ _).trans (congrArg (wX ad ca) (Option.some.inj eg79))) d_M_match_55 ?_
        refine v_iconst X.1 (v := (0 : Int32)) d_M_match_58 (by decide) ?_
        refine v_istore_n X.1 (lv' := [(2, .int ((0 : Int32))), (0, .ref (ad 36)), (1, .int p1)]) d_M_match_59 rfl (by decide) rfl ?_
        obtain ⟨x80, g81, hL82, hf⟩ := ob2_some hf
        refine l_M_match_L60 l fu p1 X hno fu _ _ _ _ hL82 ?_
        refine v_aload_n X.1 d_M_match_141 rfl 1 rfl ?_
        obtain ⟨r84, g85, hc83, hf⟩ := ob2_some hf
        refine v_backI X.1 (x_runV X (c_M_savedNow l fu _ _ _ hc83) rfl tw_811 tw_57 tw_808 tw_810 tw_47 36 5 rfl rfl rfl ⟨rfl, rfl, by decide, by decide⟩ ⟨by decide, by show _ = some 0; decide⟩ (rest := []) rfl (Nat.le_of_ble_eq_true rfl) d_M_match_142 (by decide) (by decide)) ?_
        cases hf
        exact v_iret X.1 X.2.2.1 rfl d_M_match_145 X.2.2.2.1 (by decide) (by decide)
    · rw [if_neg c56] at hf
      refine v_iconst X.1 (v := (0 : Int32)) d_M_match_27 (by decide) ?_
      cases hf
      exact v_iret X.1 X.2.2.1 rfl d_M_match_28 X.2.2.2.1 (by decide) (by decide)

def f_M_exact (g : xSt) : Option (Int32 × xSt) := (Option.bind (some (xw g 40 0 ((0 : Int32)))) (fun g1 => (if ¬ ((g1 44 0) = 0 ∨ (g1 44 0) = 1) then none else some (g1 44 0, g1))))

set_option maxRecDepth 100000 in
set_option maxHeartbeats 4000000 in
theorem c_M_exact (l : Launch) (g : xSt) (r : Int32) (g' : xSt) (hf : f_M_exact g = some (r, g')) : xM l y_M_exact (.code y_M_exact b_M_exact 1 (some .boolean)) ({ frames := 0, cells := 0, slots := 0, locals := 0 } : Room) (fun ad => [.ref (ad 36)]) g (.inl (some (.int r))) g' 0 0 := by
  refine x_contract (by decide) (fun _ => Nat.le_of_ble_eq_true rfl) ?_
  intro p e s m below meth c D ad ca X hno
  unfold f_M_exact at hf
  refine v_aload_n X.1 d_M_exact_0 rfl 0 rfl ?_
  refine v_iconst X.1 (v := (0 : Int32)) d_M_exact_1 (by decide) ?_
  obtain ⟨g1, eg2, hf⟩ := ob_some hf
  refine v_put X.1 (ci := 5) ⟨in_M, rfl⟩ 36 rfl 0 (by decide) ⟨ty_M_ok, nm_M⟩ (X.t tw_628 rfl) rfl (ty := .int) (by decide +kernel) rfl rfl (Nat.le_of_ble_eq_true rfl) ((sw_40 ad ca _ _).trans (congrArg (wX ad ca) (Option.some.inj eg2))) d_M_exact_2 ?_
  refine v_aload_n X.1 d_M_exact_5 rfl 0 rfl ?_
  refine v_get X.1 (ci := 5) ⟨in_M, rfl⟩ 36 rfl 20 (by decide) (X.t tw_648 rfl) rfl d_M_exact_6 ?_
  obtain ⟨hz3, hf⟩ := oi_none hf
  cases hf
  exact v_iret X.1 X.2.2.1 (oz_nar hz3).1 d_M_exact_9 X.2.2.2.1 (by decide) (by decide)

def f_M_bound_L22 (fu : Nat) (b2 : Int32) (b1 : Int32) : Nat → Int32 → Int32 → xSt → Option (Int32 × Int32 × xSt)
  | 0, _, _, _ => none
  | n + 1, a3, a4, g => (if (g 41 0) ≤ a4 then some (a3, a4, g) else (if a3 = 0 then (ob2 (f_M_mayServe a4 b2 g) (fun r7 g8 => (if r7 = 0 then f_M_bound_L22 fu b2 b1 n ((0 : Int32)) (a4 + (1 : Int32)) g8 else f_M_bound_L22 fu b2 b1 n ((1 : Int32)) (a4 + (1 : Int32)) g8))) else f_M_bound_L22 fu b2 b1 n ((1 : Int32)) (a4 + (1 : Int32)) g))

def f_M_bound_L9 (fu : Nat) : Nat → Int32 → Int32 → xSt → Option (Int32 × Int32 × xSt)
  | 0, _, _, _ => none
  | n + 1, a1, a2, g => (if (g 42 0) ≤ a2 then some (a1, a2, g) else (ob3 (f_M_bound_L22 fu a2 a1 fu ((0 : Int32)) ((0 : Int32)) g) (fun x10 x11 g12 => (if x10 = 0 then f_M_bound_L9 fu n (a1 + ((0 : Int32))) (a2 + (1 : Int32)) g12 else (if a2 < 0 ∨ 8 ≤ a2.toNatClampNeg then none else f_M_bound_L9 fu n (a1 + ((((2 : Int32)) * (g12 53 a2.toNatClampNeg)) + ((3 : Int32)))) (a2 + (1 : Int32)) g12)))))

def f_M_bound_L99 (fu : Nat) (b2 : Int32) (b1 : Int32) : Nat → Int32 → Int32 → xSt → Option (Int32 × Int32 × xSt)
  | 0, _, _, _ => none
  | n + 1, a3, a4, g => (if (g 42 0) ≤ a4 then some (a3, a4, g) else (if a3 = 0 then (ob2 (f_M_mayServe b2 a4 g) (fun r24 g25 => (if r24 = 0 then f_M_bound_L99 fu b2 b1 n ((0 : Int32)) (a4 + (1 : Int32)) g25 else f_M_bound_L99 fu b2 b1 n ((1 : Int32)) (a4 + (1 : Int32)) g25))) else f_M_bound_L99 fu b2 b1 n ((1 : Int32)) (a4 + (1 : Int32)) g))

def f_M_bound_L86 (fu : Nat) : Nat → Int32 → Int32 → xSt → Option (Int32 × Int32 × xSt)
  | 0, _, _, _ => none
  | n + 1, a1, a2, g => (if (g 41 0) ≤ a2 then some (a1, a2, g) else (ob3 (f_M_bound_L99 fu a2 a1 fu ((0 : Int32)) ((0 : Int32)) g) (fun x27 x28 g29 => (if x27 = 0 then f_M_bound_L86 fu n (a1 + ((0 : Int32))) (a2 + (1 : Int32)) g29 else f_M_bound_L86 fu n (a1 + ((1 : Int32))) (a2 + (1 : Int32)) g29))))

def f_M_bound (fu : Nat) (g : xSt) : Option (Int32 × xSt) := (Option.bind (some (xw g 40 0 ((0 : Int32)))) (fun g1 => (ob3 (f_M_bound_L9 fu fu ((0 : Int32)) ((0 : Int32)) g1) (fun x16 x17 g18 => (ob3 (f_M_bound_L86 fu fu x16 ((0 : Int32)) g18) (fun x32 x33 g34 => some (x32, g34)))))))

set_option maxRecDepth 100000 in
set_option maxHeartbeats 4000000 in
theorem l_M_bound_L22 {p : Program} {e : Env} {s : State} {m : MethodId} {below : List Frame} {meth : Method} {c : Code} {D : va_G} {ad : Nat → Nat} {ca : Nat → ClassId} (l : Launch) (fu : Nat) (b2 : Int32) (b1 : Int32) (X : xX p s m ([.ref (ad 36)] : List Value).toArray meth c b_M_bound "CrossDockModel" 5 (some .int) D ad ca) (hno : c.exceptionTable.toList = []) {Q : State → Prop} : ∀ (n : Nat) (a3 : Int32) (a4 : Int32) (g : xSt) (a3' : Int32) (a4' : Int32) (g' : xSt), f_M_bound_L22 fu b2 b1 n a3 a4 g = some (a3', a4', g') → xV p l e ({ frames := 2, cells := 0, slots := 0, locals := 45 } : Room) s m ([.ref (ad 36)] : List Value).toArray below meth c D xcl (wX ad ca) (xA (wX ad ca) s.heap.size) 5 0 0 Q g' 57 [(4, .int a4'), (3, .int a3'), (2, .int b2), (1, .int b1), (0, .ref (ad 36))] [] → xV p l e ({ frames := 2, cells := 0, slots := 0, locals := 45 } : Room) s m ([.ref (ad 36)] : List Value).toArray below meth c D xcl (wX ad ca) (xA (wX ad ca) s.heap.size) 5 0 0 Q g 22 [(4, .int a4), (3, .int a3), (2, .int b2), (1, .int b1), (0, .ref (ad 36))] [] := by
  intro n
  induction n with
  | zero =>
    intro a3 a4 g a3' a4' g' hf
    rw [f_M_bound_L22] at hf
    cases hf
  | succ n ih =>
    intro a3 a4 g a3' a4' g' hf hk
    rw [f_M_bound_L22] at hf
    refine v_iload X.1 d_M_bound_22 0 rfl ?_
    refine v_aload_n X.1 d_M_bound_24 rfl 4 rfl ?_
    refine v_get X.1 (ci := 5) ⟨in_M, rfl⟩ 36 rfl 1 (by decide) (X.t tw_629 rfl) rfl d_M_bound_25 ?_
    refine v_icmp_ge X.1 (tgt := 57) d_M_bound_28 (by decide) (fun c4 => ?_) (fun c4 => ?_)
    · rw [if_pos c4] at hf
      cases hf
      refine v_sub [0, 1, 2, 3, 4] rfl ?_
      exact hk
    · rw [if_neg c4] at hf
      refine v_iload_n X.1 d_M_bound_31 rfl 1 rfl ?_
      refine v_if_ne X.1 (tgt := 45) d_M_bound_32 (by decide) (fun c5 => ?_) (fun c5 => ?_)
      · rw [if_neg c5] at hf
        refine v_iconst X.1 (v := (1 : Int32)) d_M_bound_45 (by decide) ?_
        refine v_goto X.1 (tgt := 50) d_M_bound_46 (by decide) ?_
        refine v_istore_n X.1 (lv' := [(3, .int ((1 : Int32))), (4, .int a4), (2, .int b2), (1, .int b1), (0, .ref (ad 36))]) d_M_bound_50 rfl (by decide) rfl ?_
        refine v_iinc X.1 (k0 := 1) (v := a4 + (1 : Int32)) (lv' := [(4, .int (a4 + (1 : Int32))), (3, .int ((1 : Int32))), (2, .int b2), (1, .int b1), (0, .ref (ad 36))]) d_M_bound_51 rfl rfl (by decide) rfl ?_
        refine v_goto X.1 (tgt := 22) d_M_bound_54 (by decide) ?_
        refine v_sub [0, 1, 2, 3, 4] rfl ?_
        exact ih _ _ _ _ _ _ hf hk
      · rw [if_pos c5] at hf
        refine v_aload_n X.1 d_M_bound_35 rfl 4 rfl ?_
        refine v_iload X.1 d_M_bound_36 0 rfl ?_
        refine v_iload_n X.1 d_M_bound_38 rfl 2 rfl ?_
        obtain ⟨r7, g8, hc6, hf⟩ := ob2_some hf
        refine v_backI X.1 (x_runV X (c_M_mayServe l a4 b2 _ _ _ hc6) rfl tw_755 tw_57 tw_752 tw_754 tw_35 36 5 rfl rfl rfl ⟨rfl, rfl, by decide, by decide⟩ ⟨by decide, by show _ = some 2; decide⟩ (rest := []) rfl (Nat.le_of_ble_eq_true rfl) d_M_bound_39 (by decide) (by decide)) ?_
        refine v_if_eq X.1 (tgt := 49) d_M_bound_42 (by decide) (fun c9 => ?_) (fun c9 => ?_)
        · rw [if_pos c9] at hf
          refine v_iconst X.1 (v := (0 : Int32)) d_M_bound_49 (by decide) ?_
          refine v_istore_n X.1 (lv' := [(3, .int ((0 : Int32))), (4, .int a4), (2, .int b2), (1, .int b1), (0, .ref (ad 36))]) d_M_bound_50 rfl (by decide) rfl ?_
          refine v_iinc X.1 (k0 := 1) (v := a4 + (1 : Int32)) (lv' := [(4, .int (a4 + (1 : Int32))), (3, .int ((0 : Int32))), (2, .int b2), (1, .int b1), (0, .ref (ad 36))]) d_M_bound_51 rfl rfl (by decide) rfl ?_
          refine v_goto X.1 (tgt := 22) d_M_bound_54 (by decide) ?_
          refine v_sub [0, 1, 2, 3, 4] rfl ?_
          exact ih _ _ _ _ _ _ hf hk
        · rw [if_neg c9] at hf
          refine v_iconst X.1 (v := (1 : Int32)) d_M_bound_45 (by decide) ?_
          refine v_goto X.1 (tgt := 50) d_M_bound_46 (by decide) ?_
          refine v_istore_n X.1 (lv' := [(3, .int ((1 : Int32))), (4, .int a4), (2, .int b2), (1, .int b1), (0, .ref (ad 36))]) d_M_bound_50 rfl (by decide) rfl ?_
          refine v_iinc X.1 (k0 := 1) (v := a4 + (1 : Int32)) (lv' := [(4, .int (a4 + (1 : Int32))), (3, .int ((1 : Int32))), (2, .int b2), (1, .int b1), (0, .ref (ad 36))]) d_M_bound_51 rfl rfl (by decide) rfl ?_
          refine v_goto X.1 (tgt := 22) d_M_bound_54 (by decide) ?_
          refine v_sub [0, 1, 2, 3, 4] rfl ?_
          exact ih _ _ _ _ _ _ hf hk

set_option maxRecDepth 100000 in
set_option maxHeartbeats 4000000 in
theorem l_M_bound_L9 {p : Program} {e : Env} {s : State} {m : MethodId} {below : List Frame} {meth : Method} {c : Code} {D : va_G} {ad : Nat → Nat} {ca : Nat → ClassId} (l : Launch) (fu : Nat) (X : xX p s m ([.ref (ad 36)] : List Value).toArray meth c b_M_bound "CrossDockModel" 5 (some .int) D ad ca) (hno : c.exceptionTable.toList = []) {Q : State → Prop} : ∀ (n : Nat) (a1 : Int32) (a2 : Int32) (g : xSt) (a1' : Int32) (a2' : Int32) (g' : xSt), f_M_bound_L9 fu n a1 a2 g = some (a1', a2', g') → xV p l e ({ frames := 2, cells := 0, slots := 0, locals := 45 } : Room) s m ([.ref (ad 36)] : List Value).toArray below meth c D xcl (wX ad ca) (xA (wX ad ca) s.heap.size) 5 0 0 Q g' 84 [(2, .int a2'), (1, .int a1'), (0, .ref (ad 36))] [] → xV p l e ({ frames := 2, cells := 0, slots := 0, locals := 45 } : Room) s m ([.ref (ad 36)] : List Value).toArray below meth c D xcl (wX ad ca) (xA (wX ad ca) s.heap.size) 5 0 0 Q g 9 [(2, .int a2), (1, .int a1), (0, .ref (ad 36))] [] := by
  intro n
  induction n with
  | zero =>
    intro a1 a2 g a1' a2' g' hf
    rw [f_M_bound_L9] at hf
    cases hf
  | succ n ih =>
    intro a1 a2 g a1' a2' g' hf hk
    rw [f_M_bound_L9] at hf
    refine v_iload_n X.1 d_M_bound_9 rfl 0 rfl ?_
    refine v_aload_n X.1 d_M_bound_10 rfl 2 rfl ?_
    refine v_get X.1 (ci := 5) ⟨in_M, rfl⟩ 36 rfl 7 (by decide) (X.t tw_635 rfl) rfl d_M_bound_11 ?_
    refine v_icmp_ge X.1 (tgt := 84) d_M_bound_14 (by decide) (fun c3 => ?_) (fun c3 => ?_)
    · rw [if_pos c3] at hf
      cases hf
      refine v_sub [0, 1, 2] rfl ?_
      exact hk
    · rw [if_neg c3] at hf
      refine v_iconst X.1 (v := (0 : Int32)) d_M_bound_17 (by decide) ?_
      refine v_istore_n X.1 (lv' := [(3, .int ((0 : Int32))), (2, .int a2), (1, .int a1), (0, .ref (ad 36))]) d_M_bound_18 rfl (by decide) rfl ?_
      refine v_iconst X.1 (v := (0 : Int32)) d_M_bound_19 (by decide) ?_
      refine v_istore X.1 (lv' := [(4, .int ((0 : Int32))), (3, .int ((0 : Int32))), (2, .int a2), (1, .int a1), (0, .ref (ad 36))]) d_M_bound_20 (by decide) rfl ?_
      obtain ⟨x10, x11, g12, hL13, hf⟩ := ob3_some hf
      refine l_M_bound_L22 l fu a2 a1 X hno fu _ _ _ _ _ _ hL13 ?_
      refine v_iload_n X.1 d_M_bound_57 rfl 3 rfl ?_
      refine v_iload_n X.1 d_M_bound_58 rfl 1 rfl ?_
      refine v_if_eq X.1 (tgt := 75) d_M_bound_59 (by decide) (fun c14 => ?_) (fun c14 => ?_)
      · rw [if_pos c14] at hf
        refine v_iconst X.1 (v := (0 : Int32)) d_M_bound_75 (by decide) ?_
        refine v_iadd X.1 d_M_bound_76 ?_
        refine v_istore_n X.1 (lv' := [(1, .int (a1 + ((0 : Int32)))), (4, .int x11), (3, .int x10), (2, .int a2), (0, .ref (ad 36))]) d_M_bound_77 rfl (by decide) rfl ?_
        refine v_iinc X.1 (k0 := 3) (v := a2 + (1 : Int32)) (lv' := [(2, .int (a2 + (1 : Int32))), (1, .int (a1 + ((0 : Int32)))), (4, .int x11), (3, .int x10), (0, .ref (ad 36))]) d_M_bound_78 rfl rfl (by decide) rfl ?_
        refine v_goto X.1 (tgt := 9) d_M_bound_81 (by decide) ?_
        refine v_sub [0, 1, 4] rfl ?_
        exact ih _ _ _ _ _ _ hf hk
      · rw [if_neg c14] at hf
        refine v_iconst X.1 (v := (2 : Int32)) d_M_bound_62 (by decide) ?_
        refine v_aload_n X.1 d_M_bound_63 rfl 4 rfl ?_
        refine v_get X.1 (ci := 5) ⟨in_M, rfl⟩ 36 rfl 9 (by decide) (X.t tw_637 rfl) rfl d_M_bound_64 ?_
        refine v_iload_n X.1 d_M_bound_67 rfl 2 rfl ?_
        obtain ⟨hb15, hf⟩ := oi_none hf
        refine v_iald X.1 43 0 rfl rfl hb15 d_M_bound_68 ?_
        refine v_imul X.1 d_M_bound_69 ?_
        refine v_iconst X.1 (v := (3 : Int32)) d_M_bound_70 (by decide) ?_
        refine v_iadd X.1 d_M_bound_71 ?_
        refine v_goto X.1 (tgt := 76) d_M_bound_72 (by decide) ?_
        refine v_iadd X.1 d_M_bound_76 ?_
        refine v_istore_n X.1 (lv' := [(1, .int (a1 + ((((2 : Int32)) * (g12 53 a2.toNatClampNeg)) + ((3 : Int32))))), (4, .int x11), (3, .int x10), (2, .int a2), (0, .ref (ad 36))]) d_M_bound_77 rfl (by decide) rfl ?_
        refine v_iinc X.1 (k0 := 3) (v := a2 + (1 : Int32)) (lv' := [(2, .int (a2 + (1 : Int32))), (1, .int (a1 + ((((2 : Int32)) * (g12 53 a2.toNatClampNeg)) + ((3 : Int32))))), (4, .int x11), (3, .int x10), (0, .ref (ad 36))]) d_M_bound_78 rfl rfl (by decide) rfl ?_
        refine v_goto X.1 (tgt := 9) d_M_bound_81 (by decide) ?_
        refine v_sub [0, 1, 4] rfl ?_
        exact ih _ _ _ _ _ _ hf hk

set_option maxRecDepth 100000 in
set_option maxHeartbeats 4000000 in
theorem l_M_bound_L99 {p : Program} {e : Env} {s : State} {m : MethodId} {below : List Frame} {meth : Method} {c : Code} {D : va_G} {ad : Nat → Nat} {ca : Nat → ClassId} (l : Launch) (fu : Nat) (b2 : Int32) (b1 : Int32) (X : xX p s m ([.ref (ad 36)] : List Value).toArray meth c b_M_bound "CrossDockModel" 5 (some .int) D ad ca) (hno : c.exceptionTable.toList = []) {Q : State → Prop} : ∀ (n : Nat) (a3 : Int32) (a4 : Int32) (g : xSt) (a3' : Int32) (a4' : Int32) (g' : xSt), f_M_bound_L99 fu b2 b1 n a3 a4 g = some (a3', a4', g') → xV p l e ({ frames := 2, cells := 0, slots := 0, locals := 45 } : Room) s m ([.ref (ad 36)] : List Value).toArray below meth c D xcl (wX ad ca) (xA (wX ad ca) s.heap.size) 5 0 0 Q g' 134 [(4, .int a4'), (3, .int a3'), (2, .int b2), (1, .int b1), (0, .ref (ad 36))] [] → xV p l e ({ frames := 2, cells := 0, slots := 0, locals := 45 } : Room) s m ([.ref (ad 36)] : List Value).toArray below meth c D xcl (wX ad ca) (xA (wX ad ca) s.heap.size) 5 0 0 Q g 99 [(4, .int a4), (3, .int a3), (2, .int b2), (1, .int b1), (0, .ref (ad 36))] [] := by
  intro n
  induction n with
  | zero =>
    intro a3 a4 g a3' a4' g' hf
    rw [f_M_bound_L99] at hf
    cases hf
  | succ n ih =>
    intro a3 a4 g a3' a4' g' hf hk
    rw [f_M_bound_L99] at hf
    refine v_iload X.1 d_M_bound_99 0 rfl ?_
    refine v_aload_n X.1 d_M_bound_101 rfl 4 rfl ?_
    refine v_get X.1 (ci := 5) ⟨in_M, rfl⟩ 36 rfl 7 (by decide) (X.t tw_635 rfl) rfl d_M_bound_102 ?_
    refine v_icmp_ge X.1 (tgt := 134) d_M_bound_105 (by decide) (fun c21 => ?_) (fun c21 => ?_)
    · rw [if_pos c21] at hf
      cases hf
      refine v_sub [0, 1, 2, 3, 4] rfl ?_
      exact hk
    · rw [if_neg c21] at hf
      refine v_iload_n X.1 d_M_bound_108 rfl 1 rfl ?_
      refine v_if_ne X.1 (tgt := 122) d_M_bound_109 (by decide) (fun c22 => ?_) (fun c22 => ?_)
      · rw [if_neg c22] at hf
        refine v_iconst X.1 (v := (1 : Int32)) d_M_bound_122 (by decide) ?_
        refine v_goto X.1 (tgt := 127) d_M_bound_123 (by decide) ?_
        refine v_istore_n X.1 (lv' := [(3, .int ((1 : Int32))), (4, .int a4), (2, .int b2), (1, .int b1), (0, .ref (ad 36))]) d_M_bound_127 rfl (by decide) rfl ?_
        refine v_iinc X.1 (k0 := 1) (v := a4 + (1 : Int32)) (lv' := [(4, .int (a4 + (1 : Int32))), (3, .int ((1 : Int32))), (2, .int b2), (1, .int b1), (0, .ref (ad 36))]) d_M_bound_128 rfl rfl (by decide) rfl ?_
        refine v_goto X.1 (tgt := 99) d_M_bound_131 (by decide) ?_
        refine v_sub [0, 1, 2, 3, 4] rfl ?_
        exact ih _ _ _ _ _ _ hf hk
      · rw [if_pos c22] at hf
        refine v_aload_n X.1 d_M_bound_112 rfl 4 rfl ?_
        refine v_iload_n X.1 d_M_bound_113 rfl 2 rfl ?_
        refine v_iload X.1 d_M_bound_114 0 rfl ?_
        obtain ⟨r24, g25, hc23, hf⟩ := ob2_some hf
        refine v_backI X.1 (x_runV X (c_M_mayServe l b2 a4 _ _ _ hc23) rfl tw_755 tw_57 tw_752 tw_754 tw_35 36 5 rfl rfl rfl ⟨rfl, rfl, by decide, by decide⟩ ⟨by decide, by show _ = some 2; decide⟩ (rest := []) rfl (Nat.le_of_ble_eq_true rfl) d_M_bound_116 (by decide) (by decide)) ?_
        refine v_if_eq X.1 (tgt := 126) d_M_bound_119 (by decide) (fun c26 => ?_) (fun c26 => ?_)
        · rw [if_pos c26] at hf
          refine v_iconst X.1 (v := (0 : Int32)) d_M_bound_126 (by decide) ?_
          refine v_istore_n X.1 (lv' := [(3, .int ((0 : Int32))), (4, .int a4), (2, .int b2), (1, .int b1), (0, .ref (ad 36))]) d_M_bound_127 rfl (by decide) rfl ?_
          refine v_iinc X.1 (k0 := 1) (v := a4 + (1 : Int32)) (lv' := [(4, .int (a4 + (1 : Int32))), (3, .int ((0 : Int32))), (2, .int b2), (1, .int b1), (0, .ref (ad 36))]) d_M_bound_128 rfl rfl (by decide) rfl ?_
          refine v_goto X.1 (tgt := 99) d_M_bound_131 (by decide) ?_
          refine v_sub [0, 1, 2, 3, 4] rfl ?_
          exact ih _ _ _ _ _ _ hf hk
        · rw [if_neg c26] at hf
          refine v_iconst X.1 (v := (1 : Int32)) d_M_bound_122 (by decide) ?_
          refine v_goto X.1 (tgt := 127) d_M_bound_123 (by decide) ?_
          refine v_istore_n X.1 (lv' := [(3, .int ((1 : Int32))), (4, .int a4), (2, .int b2), (1, .int b1), (0, .ref (ad 36))]) d_M_bound_127 rfl (by decide) rfl ?_
          refine v_iinc X.1 (k0 := 1) (v := a4 + (1 : Int32)) (lv' := [(4, .int (a4 + (1 : Int32))), (3, .int ((1 : Int32))), (2, .int b2), (1, .int b1), (0, .ref (ad 36))]) d_M_bound_128 rfl rfl (by decide) rfl ?_
          refine v_goto X.1 (tgt := 99) d_M_bound_131 (by decide) ?_
          refine v_sub [0, 1, 2, 3, 4] rfl ?_
          exact ih _ _ _ _ _ _ hf hk

set_option maxRecDepth 100000 in
set_option maxHeartbeats 4000000 in
theorem l_M_bound_L86 {p : Program} {e : Env} {s : State} {m : MethodId} {below : List Frame} {meth : Method} {c : Code} {D : va_G} {ad : Nat → Nat} {ca : Nat → ClassId} (l : Launch) (fu : Nat) (X : xX p s m ([.ref (ad 36)] : List Value).toArray meth c b_M_bound "CrossDockModel" 5 (some .int) D ad ca) (hno : c.exceptionTable.toList = []) {Q : State → Prop} : ∀ (n : Nat) (a1 : Int32) (a2 : Int32) (g : xSt) (a1' : Int32) (a2' : Int32) (g' : xSt), f_M_bound_L86 fu n a1 a2 g = some (a1', a2', g') → xV p l e ({ frames := 2, cells := 0, slots := 0, locals := 45 } : Room) s m ([.ref (ad 36)] : List Value).toArray below meth c D xcl (wX ad ca) (xA (wX ad ca) s.heap.size) 5 0 0 Q g' 152 [(2, .int a2'), (1, .int a1'), (0, .ref (ad 36))] [] → xV p l e ({ frames := 2, cells := 0, slots := 0, locals := 45 } : Room) s m ([.ref (ad 36)] : List Value).toArray below meth c D xcl (wX ad ca) (xA (wX ad ca) s.heap.size) 5 0 0 Q g 86 [(2, .int a2), (1, .int a1), (0, .ref (ad 36))] [] := by
  intro n
  induction n with
  | zero =>
    intro a1 a2 g a1' a2' g' hf
    rw [f_M_bound_L86] at hf
    cases hf
  | succ n ih =>
    intro a1 a2 g a1' a2' g' hf hk
    rw [f_M_bound_L86] at hf
    refine v_iload_n X.1 d_M_bound_86 rfl 0 rfl ?_
    refine v_aload_n X.1 d_M_bound_87 rfl 2 rfl ?_
    refine v_get X.1 (ci := 5) ⟨in_M, rfl⟩ 36 rfl 1 (by decide) (X.t tw_629 rfl) rfl d_M_bound_88 ?_
    refine v_icmp_ge X.1 (tgt := 152) d_M_bound_91 (by decide) (fun c20 => ?_) (fun c20 => ?_)
    · rw [if_pos c20] at hf
      cases hf
      refine v_sub [0, 1, 2] rfl ?_
      exact hk
    · rw [if_neg c20] at hf
      refine v_iconst X.1 (v := (0 : Int32)) d_M_bound_94 (by decide) ?_
      refine v_istore_n X.1 (lv' := [(3, .int ((0 : Int32))), (2, .int a2), (1, .int a1), (0, .ref (ad 36))]) d_M_bound_95 rfl (by decide) rfl ?_
      refine v_iconst X.1 (v := (0 : Int32)) d_M_bound_96 (by decide) ?_
      refine v_istore X.1 (lv' := [(4, .int ((0 : Int32))), (3, .int ((0 : Int32))), (2, .int a2), (1, .int a1), (0, .ref (ad 36))]) d_M_bound_97 (by decide) rfl ?_
      obtain ⟨x27, x28, g29, hL30, hf⟩ := ob3_some hf
      refine l_M_bound_L99 l fu a2 a1 X hno fu _ _ _ _ _ _ hL30 ?_
      refine v_iload_n X.1 d_M_bound_134 rfl 3 rfl ?_
      refine v_iload_n X.1 d_M_bound_135 rfl 1 rfl ?_
      refine v_if_eq X.1 (tgt := 143) d_M_bound_136 (by decide) (fun c31 => ?_) (fun c31 => ?_)
      · rw [if_pos c31] at hf
        refine v_iconst X.1 (v := (0 : Int32)) d_M_bound_143 (by decide) ?_
        refine v_iadd X.1 d_M_bound_144 ?_
        refine v_istore_n X.1 (lv' := [(1, .int (a1 + ((0 : Int32)))), (4, .int x28), (3, .int x27), (2, .int a2), (0, .ref (ad 36))]) d_M_bound_145 rfl (by decide) rfl ?_
        refine v_iinc X.1 (k0 := 3) (v := a2 + (1 : Int32)) (lv' := [(2, .int (a2 + (1 : Int32))), (1, .int (a1 + ((0 : Int32)))), (4, .int x28), (3, .int x27), (0, .ref (ad 36))]) d_M_bound_146 rfl rfl (by decide) rfl ?_
        refine v_goto X.1 (tgt := 86) d_M_bound_149 (by decide) ?_
        refine v_sub [0, 1, 4] rfl ?_
        exact ih _ _ _ _ _ _ hf hk
      · rw [if_neg c31] at hf
        refine v_iconst X.1 (v := (1 : Int32)) d_M_bound_139 (by decide) ?_
        refine v_goto X.1 (tgt := 144) d_M_bound_140 (by decide) ?_
        refine v_iadd X.1 d_M_bound_144 ?_
        refine v_istore_n X.1 (lv' := [(1, .int (a1 + ((1 : Int32)))), (4, .int x28), (3, .int x27), (2, .int a2), (0, .ref (ad 36))]) d_M_bound_145 rfl (by decide) rfl ?_
        refine v_iinc X.1 (k0 := 3) (v := a2 + (1 : Int32)) (lv' := [(2, .int (a2 + (1 : Int32))), (1, .int (a1 + ((1 : Int32)))), (4, .int x28), (3, .int x27), (0, .ref (ad 36))]) d_M_bound_146 rfl rfl (by decide) rfl ?_
        refine v_goto X.1 (tgt := 86) d_M_bound_149 (by decide) ?_
        refine v_sub [0, 1, 4] rfl ?_
        exact ih _ _ _ _ _ _ hf hk

set_option maxRecDepth 100000 in
set_option maxHeartbeats 4000000 in
theorem c_M_bound (l : Launch) (fu : Nat) (g : xSt) (r : Int32) (g' : xSt) (hf : f_M_bound fu g = some (r, g')) : xM l y_M_bound (.code y_M_bound b_M_bound 5 (some .int)) ({ frames := 2, cells := 0, slots := 0, locals := 45 } : Room) (fun ad => [.ref (ad 36)]) g (.inl (some (.int r))) g' 0 0 := by
  refine x_contract (by decide) (fun _ => Nat.le_of_ble_eq_true rfl) ?_
  intro p e s m below meth c D ad ca X hno
  unfold f_M_bound at hf
  refine v_aload_n X.1 d_M_bound_0 rfl 0 rfl ?_
  refine v_iconst X.1 (v := (0 : Int32)) d_M_bound_1 (by decide) ?_
  obtain ⟨g1, eg2, hf⟩ := ob_some hf
  refine v_put X.1 (ci := 5) ⟨in_M, rfl⟩ 36 rfl 0 (by decide) ⟨ty_M_ok, nm_M⟩ (X.t tw_628 rfl) rfl (ty := .int) (by decide +kernel) rfl rfl (Nat.le_of_ble_eq_true rfl) ((sw_40 ad ca _ _).trans (congrArg (wX ad ca) (Option.some.inj eg2))) d_M_bound_2 ?_
  refine v_iconst X.1 (v := (0 : Int32)) d_M_bound_5 (by decide) ?_
  refine v_istore_n X.1 (lv' := [(1, .int ((0 : Int32))), (0, .ref (ad 36))]) d_M_bound_6 rfl (by decide) rfl ?_
  refine v_iconst X.1 (v := (0 : Int32)) d_M_bound_7 (by decide) ?_
  refine v_istore_n X.1 (lv' := [(2, .int ((0 : Int32))), (1, .int ((0 : Int32))), (0, .ref (ad 36))]) d_M_bound_8 rfl (by decide) rfl ?_
  obtain ⟨x16, x17, g18, hL19, hf⟩ := ob3_some hf
  refine l_M_bound_L9 l fu X hno fu _ _ _ _ _ _ hL19 ?_
  refine v_iconst X.1 (v := (0 : Int32)) d_M_bound_84 (by decide) ?_
  refine v_istore_n X.1 (lv' := [(2, .int ((0 : Int32))), (1, .int x16), (0, .ref (ad 36))]) d_M_bound_85 rfl (by decide) rfl ?_
  obtain ⟨x32, x33, g34, hL35, hf⟩ := ob3_some hf
  refine l_M_bound_L86 l fu X hno fu _ _ _ _ _ _ hL35 ?_
  refine v_iload_n X.1 d_M_bound_152 rfl 1 rfl ?_
  cases hf
  exact v_iret X.1 X.2.2.1 rfl d_M_bound_153 X.2.2.2.1 (by decide) (by decide)

def f_M_steps (g : xSt) : Option (Int32 × xSt) := (Option.bind (some (xw g 40 0 ((0 : Int32)))) (fun g1 => some (g1 45 0, g1)))

set_option maxRecDepth 100000 in
set_option maxHeartbeats 4000000 in
theorem c_M_steps (l : Launch) (g : xSt) (r : Int32) (g' : xSt) (hf : f_M_steps g = some (r, g')) : xM l y_M_steps (.code y_M_steps b_M_steps 1 (some .int)) ({ frames := 0, cells := 0, slots := 0, locals := 0 } : Room) (fun ad => [.ref (ad 36)]) g (.inl (some (.int r))) g' 0 0 := by
  refine x_contract (by decide) (fun _ => Nat.le_of_ble_eq_true rfl) ?_
  intro p e s m below meth c D ad ca X hno
  unfold f_M_steps at hf
  refine v_aload_n X.1 d_M_steps_0 rfl 0 rfl ?_
  refine v_iconst X.1 (v := (0 : Int32)) d_M_steps_1 (by decide) ?_
  obtain ⟨g1, eg2, hf⟩ := ob_some hf
  refine v_put X.1 (ci := 5) ⟨in_M, rfl⟩ 36 rfl 0 (by decide) ⟨ty_M_ok, nm_M⟩ (X.t tw_628 rfl) rfl (ty := .int) (by decide +kernel) rfl rfl (Nat.le_of_ble_eq_true rfl) ((sw_40 ad ca _ _).trans (congrArg (wX ad ca) (Option.some.inj eg2))) d_M_steps_2 ?_
  refine v_aload_n X.1 d_M_steps_5 rfl 0 rfl ?_
  refine v_get X.1 (ci := 5) ⟨in_M, rfl⟩ 36 rfl 21 (by decide) (X.t tw_649 rfl) rfl d_M_steps_6 ?_
  cases hf
  exact v_iret X.1 X.2.2.1 rfl d_M_steps_9 X.2.2.2.1 (by decide) (by decide)

def f_M_pair (p1 : Int32) (p2 : Int32) (g : xSt) : Option (Int32 × xSt) := (ob2 (f_M_in p1 ((0 : Int32)) ((g 43 0) - ((1 : Int32))) g) (fun r2 g3 => (if r2 = 0 then (Option.bind (some (xw g3 40 0 ((1 : Int32)))) (fun g25 => (if (g25 40 0) ≤ 0 then (if p2 = 0 then (if p1 < 0 ∨ 64 ≤ p1.toNatClampNeg then none else some (g25 60 p1.toNatClampNeg, g25)) else (if p2 = ((1 : Int32)) then (if p1 < 0 ∨ 64 ≤ p1.toNatClampNeg then none else some (g25 61 p1.toNatClampNeg, g25)) else (if p1 < 0 ∨ 64 ≤ p1.toNatClampNeg then none else some (g25 62 p1.toNatClampNeg, g25)))) else some ((0 : Int32), g25)))) else (ob2 (f_M_in p2 ((0 : Int32)) ((2 : Int32)) g3) (fun r6 g7 => (if r6 = 0 then (Option.bind (some (xw g7 40 0 ((2 : Int32)))) (fun g17 => (if (g17 40 0) ≤ 0 then (if p2 = 0 then (if p1 < 0 ∨ 64 ≤ p1.toNatClampNeg then none else some (g17 60 p1.toNatClampNeg, g17)) else (if p2 = ((1 : Int32)) then (if p1 < 0 ∨ 64 ≤ p1.toNatClampNeg then none else some (g17 61 p1.toNatClampNeg, g17)) else (if p1 < 0 ∨ 64 ≤ p1.toNatClampNeg then none else some (g17 62 p1.toNatClampNeg, g17)))) else some ((0 : Int32), g17)))) else (Option.bind (some (xw g7 40 0 ((0 : Int32)))) (fun g9 => (if (g9 40 0) ≤ 0 then (if p2 = 0 then (if p1 < 0 ∨ 64 ≤ p1.toNatClampNeg then none else some (g9 60 p1.toNatClampNeg, g9)) else (if p2 = ((1 : Int32)) then (if p1 < 0 ∨ 64 ≤ p1.toNatClampNeg then none else some (g9 61 p1.toNatClampNeg, g9)) else (if p1 < 0 ∨ 64 ≤ p1.toNatClampNeg then none else some (g9 62 p1.toNatClampNeg, g9)))) else some ((0 : Int32), g9))))))))))

set_option maxRecDepth 100000 in
set_option maxHeartbeats 4000000 in
theorem c_M_pair (l : Launch) (p1 : Int32) (p2 : Int32) (g : xSt) (r : Int32) (g' : xSt) (hf : f_M_pair p1 p2 g = some (r, g')) : xM l y_M_pair (.code y_M_pair b_M_pair 3 (some .int)) ({ frames := 1, cells := 0, slots := 0, locals := 22 } : Room) (fun ad => [.ref (ad 36), .int p1, .int p2]) g (.inl (some (.int r))) g' 0 0 := by
  refine x_contract (by decide) (fun _ => Nat.le_of_ble_eq_true rfl) ?_
  intro p e s m below meth c D ad ca X hno
  unfold f_M_pair at hf
  refine v_aload_n X.1 d_M_pair_0 rfl 0 rfl ?_
  refine v_iload_n X.1 d_M_pair_1 rfl 1 rfl ?_
  refine v_iconst X.1 (v := (0 : Int32)) d_M_pair_2 (by decide) ?_
  refine v_aload_n X.1 d_M_pair_3 rfl 0 rfl ?_
  refine v_get X.1 (ci := 5) ⟨in_M, rfl⟩ 36 rfl 16 (by decide) (X.t tw_644 rfl) rfl d_M_pair_4 ?_
  refine v_iconst X.1 (v := (1 : Int32)) d_M_pair_7 (by decide) ?_
  refine v_isub X.1 d_M_pair_8 ?_
  obtain ⟨r2, g3, hc1, hf⟩ := ob2_some hf
  refine v_backI X.1 (x_runS X (c_M_in l p1 ((0 : Int32)) ((g 43 0) - ((1 : Int32))) _ _ _ hc1) tw_723 tw_57 tw_721 tw_722 ⟨rfl, rfl, by decide, by decide⟩ ⟨by decide, by show _ = some 3; decide⟩ (rest := [.ref (ad 36)]) rfl (Nat.le_of_ble_eq_true rfl) d_M_pair_9 (by decide) (by decide)) ?_
  refine v_if_ne X.1 (tgt := 19) d_M_pair_12 (by decide) (fun c4 => ?_) (fun c4 => ?_)
  · rw [if_neg c4] at hf
    refine v_iload_n X.1 d_M_pair_19 rfl 2 rfl ?_
    refine v_iconst X.1 (v := (0 : Int32)) d_M_pair_20 (by decide) ?_
    refine v_iconst X.1 (v := (2 : Int32)) d_M_pair_21 (by decide) ?_
    obtain ⟨r6, g7, hc5, hf⟩ := ob2_some hf
    refine v_backI X.1 (x_runS X (c_M_in l p2 ((0 : Int32)) ((2 : Int32)) _ _ _ hc5) tw_723 tw_57 tw_721 tw_722 ⟨rfl, rfl, by decide, by decide⟩ ⟨by decide, by show _ = some 3; decide⟩ (rest := [.ref (ad 36)]) rfl (Nat.le_of_ble_eq_true rfl) d_M_pair_22 (by decide) (by decide)) ?_
    refine v_if_ne X.1 (tgt := 32) d_M_pair_25 (by decide) (fun c8 => ?_) (fun c8 => ?_)
    · rw [if_neg c8] at hf
      refine v_iconst X.1 (v := (0 : Int32)) d_M_pair_32 (by decide) ?_
      obtain ⟨g9, eg10, hf⟩ := ob_some hf
      refine v_put X.1 (ci := 5) ⟨in_M, rfl⟩ 36 rfl 0 (by decide) ⟨ty_M_ok, nm_M⟩ (X.t tw_628 rfl) rfl (ty := .int) (by decide +kernel) rfl rfl (Nat.le_of_ble_eq_true rfl) ((sw_40 ad ca _ _).trans (congrArg (wX ad ca) (Option.some.inj eg10))) d_M_pair_33 ?_
      refine v_aload_n X.1 d_M_pair_36 rfl 0 rfl ?_
      refine v_get X.1 (ci := 5) ⟨in_M, rfl⟩ 36 rfl 0 (by decide) (X.t tw_628 rfl) rfl d_M_pair_37 ?_
      refine v_if_le X.1 (tgt := 45) d_M_pair_40 (by decide) (fun c11 => ?_) (fun c11 => ?_)
      · rw [if_pos c11] at hf
        refine v_iload_n X.1 d_M_pair_45 rfl 2 rfl ?_
        refine v_if_ne X.1 (tgt := 58) d_M_pair_46 (by decide) (fun c12 => ?_) (fun c12 => ?_)
        · rw [if_neg c12] at hf
          refine v_iload_n X.1 d_M_pair_58 rfl 2 rfl ?_
          refine v_iconst X.1 (v := (1 : Int32)) d_M_pair_59 (by decide) ?_
          refine v_icmp_ne X.1 (tgt := 72) d_M_pair_60 (by decide) (fun c13 => ?_) (fun c13 => ?_)
          · rw [if_neg c13] at hf
            refine v_aload_n X.1 d_M_pair_72 rfl 0 rfl ?_
            refine v_get X.1 (ci := 5) ⟨in_M, rfl⟩ 36 rfl 19 (by decide) (X.t tw_647 rfl) rfl d_M_pair_73 ?_
            refine v_iload_n X.1 d_M_pair_76 rfl 1 rfl ?_
            obtain ⟨hb14, hf⟩ := oi_none hf
            refine v_iald X.1 52 0 rfl rfl hb14 d_M_pair_77 ?_
            cases hf
            exact v_iret X.1 X.2.2.1 rfl d_M_pair_78 X.2.2.2.1 (by decide) (by decide)
          · rw [if_pos c13] at hf
            refine v_aload_n X.1 d_M_pair_63 rfl 0 rfl ?_
            refine v_get X.1 (ci := 5) ⟨in_M, rfl⟩ 36 rfl 18 (by decide) (X.t tw_646 rfl) rfl d_M_pair_64 ?_
            refine v_iload_n X.1 d_M_pair_67 rfl 1 rfl ?_
            obtain ⟨hb15, hf⟩ := oi_none hf
            refine v_iald X.1 51 0 rfl rfl hb15 d_M_pair_68 ?_
            refine v_goto X.1 (tgt := 78) d_M_pair_69 (by decide) ?_
            cases hf
            exact v_iret X.1 X.2.2.1 rfl d_M_pair_78 X.2.2.2.1 (by decide) (by decide)
        · rw [if_pos c12] at hf
          refine v_aload_n X.1 d_M_pair_49 rfl 0 rfl ?_
          refine v_get X.1 (ci := 5) ⟨in_M, rfl⟩ 36 rfl 17 (by decide) (X.t tw_645 rfl) rfl d_M_pair_50 ?_
          refine v_iload_n X.1 d_M_pair_53 rfl 1 rfl ?_
          obtain ⟨hb16, hf⟩ := oi_none hf
          refine v_iald X.1 50 0 rfl rfl hb16 d_M_pair_54 ?_
          refine v_goto X.1 (tgt := 78) d_M_pair_55 (by decide) ?_
          cases hf
          exact v_iret X.1 X.2.2.1 rfl d_M_pair_78 X.2.2.2.1 (by decide) (by decide)
      · rw [if_neg c11] at hf
        refine v_iconst X.1 (v := (0 : Int32)) d_M_pair_43 (by decide) ?_
        cases hf
        exact v_iret X.1 X.2.2.1 rfl d_M_pair_44 X.2.2.2.1 (by decide) (by decide)
    · rw [if_pos c8] at hf
      refine v_iconst X.1 (v := (2 : Int32)) d_M_pair_28 (by decide) ?_
      refine v_goto X.1 (tgt := 33) d_M_pair_29 (by decide) ?_
      obtain ⟨g17, eg18, hf⟩ := ob_some hf
      refine v_put X.1 (ci := 5) ⟨in_M, rfl⟩ 36 rfl 0 (by decide) ⟨ty_M_ok, nm_M⟩ (X.t tw_628 rfl) rfl (ty := .int) (by decide +kernel) rfl rfl (Nat.le_of_ble_eq_true rfl) ((sw_40 ad ca _ _).trans (congrArg (wX ad ca) (Option.some.inj eg18))) d_M_pair_33 ?_
      refine v_aload_n X.1 d_M_pair_36 rfl 0 rfl ?_
      refine v_get X.1 (ci := 5) ⟨in_M, rfl⟩ 36 rfl 0 (by decide) (X.t tw_628 rfl) rfl d_M_pair_37 ?_
      refine v_if_le X.1 (tgt := 45) d_M_pair_40 (by decide) (fun c19 => ?_) (fun c19 => ?_)
      · rw [if_pos c19] at hf
        refine v_iload_n X.1 d_M_pair_45 rfl 2 rfl ?_
        refine v_if_ne X.1 (tgt := 58) d_M_pair_46 (by decide) (fun c20 => ?_) (fun c20 => ?_)
        · rw [if_neg c20] at hf
          refine v_iload_n X.1 d_M_pair_58 rfl 2 rfl ?_
          refine v_iconst X.1 (v := (1 : Int32)) d_M_pair_59 (by decide) ?_
          refine v_icmp_ne X.1 (tgt := 72) d_M_pair_60 (by decide) (fun c21 => ?_) (fun c21 => ?_)
          · rw [if_neg c21] at hf
            refine v_aload_n X.1 d_M_pair_72 rfl 0 rfl ?_
            refine v_get X.1 (ci := 5) ⟨in_M, rfl⟩ 36 rfl 19 (by decide) (X.t tw_647 rfl) rfl d_M_pair_73 ?_
            refine v_iload_n X.1 d_M_pair_76 rfl 1 rfl ?_
            obtain ⟨hb22, hf⟩ := oi_none hf
            refine v_iald X.1 52 0 rfl rfl hb22 d_M_pair_77 ?_
            cases hf
            exact v_iret X.1 X.2.2.1 rfl d_M_pair_78 X.2.2.2.1 (by decide) (by decide)
          · rw [if_pos c21] at hf
            refine v_aload_n X.1 d_M_pair_63 rfl 0 rfl ?_
            refine v_get X.1 (ci := 5) ⟨in_M, rfl⟩ 36 rfl 18 (by decide) (X.t tw_646 rfl) rfl d_M_pair_64 ?_
            refine v_iload_n X.1 d_M_pair_67 rfl 1 rfl ?_
            obtain ⟨hb23, hf⟩ := oi_none hf
            refine v_iald X.1 51 0 rfl rfl hb23 d_M_pair_68 ?_
            refine v_goto X.1 (tgt := 78) d_M_pair_69 (by decide) ?_
            cases hf
            exact v_iret X.1 X.2.2.1 rfl d_M_pair_78 X.2.2.2.1 (by decide) (by decide)
        · rw [if_pos c20] at hf
          refine v_aload_n X.1 d_M_pair_49 rfl 0 rfl ?_
          refine v_get X.1 (ci := 5) ⟨in_M, rfl⟩ 36 rfl 17 (by decide) (X.t tw_645 rfl) rfl d_M_pair_50 ?_
          refine v_iload_n X.1 d_M_pair_53 rfl 1 rfl ?_
          obtain ⟨hb24, hf⟩ := oi_none hf
          refine v_iald X.1 50 0 rfl rfl hb24 d_M_pair_54 ?_
          refine v_goto X.1 (tgt := 78) d_M_pair_55 (by decide) ?_
          cases hf
          exact v_iret X.1 X.2.2.1 rfl d_M_pair_78 X.2.2.2.1 (by decide) (by decide)
      · rw [if_neg c19] at hf
        refine v_iconst X.1 (v := (0 : Int32)) d_M_pair_43 (by decide) ?_
        cases hf
        exact v_iret X.1 X.2.2.1 rfl d_M_pair_44 X.2.2.2.1 (by decide) (by decide)
  · rw [if_pos c4] at hf
    refine v_iconst X.1 (v := (1 : Int32)) d_M_pair_15 (by decide) ?_
    refine v_goto X.1 (tgt := 33) d_M_pair_16 (by decide) ?_
    obtain ⟨g25, eg26, hf⟩ := ob_some hf
    refine v_put X.1 (ci := 5) ⟨in_M, rfl⟩ 36 rfl 0 (by decide) ⟨ty_M_ok, nm_M⟩ (X.t tw_628 rfl) rfl (ty := .int) (by decide +kernel) rfl rfl (Nat.le_of_ble_eq_true rfl) ((sw_40 ad ca _ _).trans (congrArg (wX ad ca) (Option.some.inj eg26))) d_M_pair_33 ?_
    refine v_aload_n X.1 d_M_pair_36 rfl 0 rfl ?_
    refine v_get X.1 (ci := 5) ⟨in_M, rfl⟩ 36 rfl 0 (by decide) (X.t tw_628 rfl) rfl d_M_pair_37 ?_
    refine v_if_le X.1 (tgt := 45) d_M_pair_40 (by decide) (fun c27 => ?_) (fun c27 => ?_)
    · rw [if_pos c27] at hf
      refine v_iload_n X.1 d_M_pair_45 rfl 2 rfl ?_
      refine v_if_ne X.1 (tgt := 58) d_M_pair_46 (by decide) (fun c28 => ?_) (fun c28 => ?_)
      · rw [if_neg c28] at hf
        refine v_iload_n X.1 d_M_pair_58 rfl 2 rfl ?_
        refine v_iconst X.1 (v := (1 : Int32)) d_M_pair_59 (by decide) ?_
        refine v_icmp_ne X.1 (tgt := 72) d_M_pair_60 (by decide) (fun c29 => ?_) (fun c29 => ?_)
        · rw [if_neg c29] at hf
          refine v_aload_n X.1 d_M_pair_72 rfl 0 rfl ?_
          refine v_get X.1 (ci := 5) ⟨in_M, rfl⟩ 36 rfl 19 (by decide) (X.t tw_647 rfl) rfl d_M_pair_73 ?_
          refine v_iload_n X.1 d_M_pair_76 rfl 1 rfl ?_
          obtain ⟨hb30, hf⟩ := oi_none hf
          refine v_iald X.1 52 0 rfl rfl hb30 d_M_pair_77 ?_
          cases hf
          exact v_iret X.1 X.2.2.1 rfl d_M_pair_78 X.2.2.2.1 (by decide) (by decide)
        · rw [if_pos c29] at hf
          refine v_aload_n X.1 d_M_pair_63 rfl 0 rfl ?_
          refine v_get X.1 (ci := 5) ⟨in_M, rfl⟩ 36 rfl 18 (by decide) (X.t tw_646 rfl) rfl d_M_pair_64 ?_
          refine v_iload_n X.1 d_M_pair_67 rfl 1 rfl ?_
          obtain ⟨hb31, hf⟩ := oi_none hf
          refine v_iald X.1 51 0 rfl rfl hb31 d_M_pair_68 ?_
          refine v_goto X.1 (tgt := 78) d_M_pair_69 (by decide) ?_
          cases hf
          exact v_iret X.1 X.2.2.1 rfl d_M_pair_78 X.2.2.2.1 (by decide) (by decide)
      · rw [if_pos c28] at hf
        refine v_aload_n X.1 d_M_pair_49 rfl 0 rfl ?_
        refine v_get X.1 (ci := 5) ⟨in_M, rfl⟩ 36 rfl 17 (by decide) (X.t tw_645 rfl) rfl d_M_pair_50 ?_
        refine v_iload_n X.1 d_M_pair_53 rfl 1 rfl ?_
        obtain ⟨hb32, hf⟩ := oi_none hf
        refine v_iald X.1 50 0 rfl rfl hb32 d_M_pair_54 ?_
        refine v_goto X.1 (tgt := 78) d_M_pair_55 (by decide) ?_
        cases hf
        exact v_iret X.1 X.2.2.1 rfl d_M_pair_78 X.2.2.2.1 (by decide) (by decide)
    · rw [if_neg c27] at hf
      refine v_iconst X.1 (v := (0 : Int32)) d_M_pair_43 (by decide) ?_
      cases hf
      exact v_iret X.1 X.2.2.1 rfl d_M_pair_44 X.2.2.2.1 (by decide) (by decide)

def f_M_undo (fu : Nat) (p1 : Int32) (g : xSt) : Option (Int32 × xSt) := (ob2 (f_M_in p1 ((0 : Int32)) ((g 43 0) - ((1 : Int32))) g) (fun r2 g3 => (if r2 = 0 then (Option.bind (some (xw g3 40 0 ((1 : Int32)))) (fun g5 => (if (g5 40 0) ≤ 0 then (if p1 < 0 ∨ 64 ≤ p1.toNatClampNeg then none else (Option.bind (f_M_drop fu p1 g5) (fun g11 => some (g5 62 p1.toNatClampNeg, g11)))) else some ((0 : Int32), g5)))) else (Option.bind (some (xw g3 40 0 ((0 : Int32)))) (fun g12 => (if (g12 40 0) ≤ 0 then (if p1 < 0 ∨ 64 ≤ p1.toNatClampNeg then none else (Option.bind (f_M_drop fu p1 g12) (fun g18 => some (g12 62 p1.toNatClampNeg, g18)))) else some ((0 : Int32), g12)))))))

set_option maxRecDepth 100000 in
set_option maxHeartbeats 4000000 in
theorem c_M_undo (l : Launch) (fu : Nat) (p1 : Int32) (g : xSt) (r : Int32) (g' : xSt) (hf : f_M_undo fu p1 g = some (r, g')) : xM l y_M_undo (.code y_M_undo b_M_undo 3 (some .int)) ({ frames := 1, cells := 0, slots := 0, locals := 22 } : Room) (fun ad => [.ref (ad 36), .int p1]) g (.inl (some (.int r))) g' 0 0 := by
  refine x_contract (by decide) (fun _ => Nat.le_of_ble_eq_true rfl) ?_
  intro p e s m below meth c D ad ca X hno
  unfold f_M_undo at hf
  refine v_aload_n X.1 d_M_undo_0 rfl 0 rfl ?_
  refine v_iload_n X.1 d_M_undo_1 rfl 1 rfl ?_
  refine v_iconst X.1 (v := (0 : Int32)) d_M_undo_2 (by decide) ?_
  refine v_aload_n X.1 d_M_undo_3 rfl 0 rfl ?_
  refine v_get X.1 (ci := 5) ⟨in_M, rfl⟩ 36 rfl 16 (by decide) (X.t tw_644 rfl) rfl d_M_undo_4 ?_
  refine v_iconst X.1 (v := (1 : Int32)) d_M_undo_7 (by decide) ?_
  refine v_isub X.1 d_M_undo_8 ?_
  obtain ⟨r2, g3, hc1, hf⟩ := ob2_some hf
  refine v_backI X.1 (x_runS X (c_M_in l p1 ((0 : Int32)) ((g 43 0) - ((1 : Int32))) _ _ _ hc1) tw_723 tw_57 tw_721 tw_722 ⟨rfl, rfl, by decide, by decide⟩ ⟨by decide, by show _ = some 3; decide⟩ (rest := [.ref (ad 36)]) rfl (Nat.le_of_ble_eq_true rfl) d_M_undo_9 (by decide) (by decide)) ?_
  refine v_if_eq X.1 (tgt := 19) d_M_undo_12 (by decide) (fun c4 => ?_) (fun c4 => ?_)
  · rw [if_pos c4] at hf
    refine v_iconst X.1 (v := (1 : Int32)) d_M_undo_19 (by decide) ?_
    obtain ⟨g5, eg6, hf⟩ := ob_some hf
    refine v_put X.1 (ci := 5) ⟨in_M, rfl⟩ 36 rfl 0 (by decide) ⟨ty_M_ok, nm_M⟩ (X.t tw_628 rfl) rfl (ty := .int) (by decide +kernel) rfl rfl (Nat.le_of_ble_eq_true rfl) ((sw_40 ad ca _ _).trans (congrArg (wX ad ca) (Option.some.inj eg6))) d_M_undo_20 ?_
    refine v_aload_n X.1 d_M_undo_23 rfl 0 rfl ?_
    refine v_get X.1 (ci := 5) ⟨in_M, rfl⟩ 36 rfl 0 (by decide) (X.t tw_628 rfl) rfl d_M_undo_24 ?_
    refine v_if_le X.1 (tgt := 32) d_M_undo_27 (by decide) (fun c7 => ?_) (fun c7 => ?_)
    · rw [if_pos c7] at hf
      refine v_aload_n X.1 d_M_undo_32 rfl 0 rfl ?_
      refine v_get X.1 (ci := 5) ⟨in_M, rfl⟩ 36 rfl 19 (by decide) (X.t tw_647 rfl) rfl d_M_undo_33 ?_
      refine v_iload_n X.1 d_M_undo_36 rfl 1 rfl ?_
      obtain ⟨hb8, hf⟩ := oi_none hf
      refine v_iald X.1 52 0 rfl rfl hb8 d_M_undo_37 ?_
      refine v_istore_n X.1 (lv' := [(2, .int (g5 62 p1.toNatClampNeg)), (0, .ref (ad 36)), (1, .int p1)]) d_M_undo_38 rfl (by decide) rfl ?_
      refine v_aload_n X.1 d_M_undo_39 rfl 1 rfl ?_
      refine v_iload_n X.1 d_M_undo_40 rfl 2 rfl ?_
      obtain ⟨g11, hc9, hf⟩ := ob_some hf
      refine v_backV X.1 (x_runV X (c_M_drop l fu p1 _ _ hc9) rfl tw_839 tw_57 tw_836 tw_838 tw_49 36 5 rfl rfl rfl ⟨rfl, rfl, by decide, by decide⟩ ⟨by decide, by show _ = some 1; decide⟩ (rest := []) rfl (Nat.le_of_ble_eq_true rfl) d_M_undo_41 (by decide) (by decide)) ?_
      refine v_iload_n X.1 d_M_undo_44 rfl 0 rfl ?_
      cases hf
      exact v_iret X.1 X.2.2.1 rfl d_M_undo_45 X.2.2.2.1 (by decide) (by decide)
    · rw [if_neg c7] at hf
      refine v_iconst X.1 (v := (0 : Int32)) d_M_undo_30 (by decide) ?_
      cases hf
      exact v_iret X.1 X.2.2.1 rfl d_M_undo_31 X.2.2.2.1 (by decide) (by decide)
  · rw [if_neg c4] at hf
    refine v_iconst X.1 (v := (0 : Int32)) d_M_undo_15 (by decide) ?_
    refine v_goto X.1 (tgt := 20) d_M_undo_16 (by decide) ?_
    obtain ⟨g12, eg13, hf⟩ := ob_some hf
    refine v_put X.1 (ci := 5) ⟨in_M, rfl⟩ 36 rfl 0 (by decide) ⟨ty_M_ok, nm_M⟩ (X.t tw_628 rfl) rfl (ty := .int) (by decide +kernel) rfl rfl (Nat.le_of_ble_eq_true rfl) ((sw_40 ad ca _ _).trans (congrArg (wX ad ca) (Option.some.inj eg13))) d_M_undo_20 ?_
    refine v_aload_n X.1 d_M_undo_23 rfl 0 rfl ?_
    refine v_get X.1 (ci := 5) ⟨in_M, rfl⟩ 36 rfl 0 (by decide) (X.t tw_628 rfl) rfl d_M_undo_24 ?_
    refine v_if_le X.1 (tgt := 32) d_M_undo_27 (by decide) (fun c14 => ?_) (fun c14 => ?_)
    · rw [if_pos c14] at hf
      refine v_aload_n X.1 d_M_undo_32 rfl 0 rfl ?_
      refine v_get X.1 (ci := 5) ⟨in_M, rfl⟩ 36 rfl 19 (by decide) (X.t tw_647 rfl) rfl d_M_undo_33 ?_
      refine v_iload_n X.1 d_M_undo_36 rfl 1 rfl ?_
      obtain ⟨hb15, hf⟩ := oi_none hf
      refine v_iald X.1 52 0 rfl rfl hb15 d_M_undo_37 ?_
      refine v_istore_n X.1 (lv' := [(2, .int (g12 62 p1.toNatClampNeg)), (0, .ref (ad 36)), (1, .int p1)]) d_M_undo_38 rfl (by decide) rfl ?_
      refine v_aload_n X.1 d_M_undo_39 rfl 1 rfl ?_
      refine v_iload_n X.1 d_M_undo_40 rfl 2 rfl ?_
      obtain ⟨g18, hc16, hf⟩ := ob_some hf
      refine v_backV X.1 (x_runV X (c_M_drop l fu p1 _ _ hc16) rfl tw_839 tw_57 tw_836 tw_838 tw_49 36 5 rfl rfl rfl ⟨rfl, rfl, by decide, by decide⟩ ⟨by decide, by show _ = some 1; decide⟩ (rest := []) rfl (Nat.le_of_ble_eq_true rfl) d_M_undo_41 (by decide) (by decide)) ?_
      refine v_iload_n X.1 d_M_undo_44 rfl 0 rfl ?_
      cases hf
      exact v_iret X.1 X.2.2.1 rfl d_M_undo_45 X.2.2.2.1 (by decide) (by decide)
    · rw [if_neg c14] at hf
      refine v_iconst X.1 (v := (0 : Int32)) d_M_undo_30 (by decide) ?_
      cases hf
      exact v_iret X.1 X.2.2.1 rfl d_M_undo_31 X.2.2.2.1 (by decide) (by decide)

def f_M_split_L197 (fu : Nat) (p1 : Int32) (p2 : Int32) (b4 : Int32) (b3 : Int32) : Nat → Int32 → xSt → Option (Int32 × xSt)
  | 0, _, _ => none
  | n + 1, a5, g => (if ((8 : Int32)) ≤ a5 then some (a5, g) else (if ((((8 : Int32)) * p1) + a5) < 0 ∨ 64 ≤ ((((8 : Int32)) * p1) + a5).toNatClampNeg then none else (if ((((8 : Int32)) * b3) + a5) < 0 ∨ 64 ≤ ((((8 : Int32)) * b3) + a5).toNatClampNeg then none else (Option.bind (some (xw g 58 ((((8 : Int32)) * b3) + a5).toNatClampNeg (vp_nar .boolean (g 58 ((((8 : Int32)) * p1) + a5).toNatClampNeg)))) (fun g53 => f_M_split_L197 fu p1 p2 b4 b3 n (a5 + (1 : Int32)) g53)))))

def f_M_split (fu : Nat) (p1 : Int32) (p2 : Int32) (g : xSt) : Option (Int32 × xSt) := (ob2 (f_M_isArrival p1 g) (fun r2 g3 => (if r2 = 0 then (Option.bind (some (xw g3 40 0 ((1 : Int32)))) (fun g216 => (if (g216 40 0) ≤ 0 then (Option.bind (some (xw g216 41 0 ((g216 41 0) + ((1 : Int32))))) (fun g219 => (if p1 < 0 ∨ 8 ≤ p1.toNatClampNeg then none else (if (g216 41 0) < 0 ∨ 8 ≤ (g216 41 0).toNatClampNeg then none else (Option.bind (some (xw g219 47 (g216 41 0).toNatClampNeg (g219 47 p1.toNatClampNeg))) (fun g223 => (if p1 < 0 ∨ 8 ≤ p1.toNatClampNeg then none else (if (g216 41 0) < 0 ∨ 8 ≤ (g216 41 0).toNatClampNeg then none else (Option.bind (some (xw g223 48 (g216 41 0).toNatClampNeg (g223 48 p1.toNatClampNeg))) (fun g227 => (if p1 < 0 ∨ 8 ≤ p1.toNatClampNeg then none else (if (g216 41 0) < 0 ∨ 8 ≤ (g216 41 0).toNatClampNeg then none else (Option.bind (some (xw g227 49 (g216 41 0).toNatClampNeg (g227 49 p1.toNatClampNeg))) (fun g231 => (if (g216 41 0) < 0 ∨ 8 ≤ (g216 41 0).toNatClampNeg then none else (Option.bind (some (xw g231 50 (g216 41 0).toNatClampNeg p2)) (fun g234 => (if p1 < 0 ∨ 8 ≤ p1.toNatClampNeg then none else (if p1 < 0 ∨ 8 ≤ p1.toNatClampNeg then none else (Option.bind (some (xw g234 50 p1.toNatClampNeg ((g234 50 p1.toNatClampNeg) - p2))) (fun g238 => (if p1 < 0 ∨ 8 ≤ p1.toNatClampNeg then none else (if p1 < 0 ∨ 8 ≤ p1.toNatClampNeg then none else (if (g238 50 p1.toNatClampNeg) ≤ (g238 51 p1.toNatClampNeg) then (if p1 < 0 ∨ 8 ≤ p1.toNatClampNeg then none else (if p1 < 0 ∨ 8 ≤ p1.toNatClampNeg then none else (if (g216 41 0) < 0 ∨ 8 ≤ (g216 41 0).toNatClampNeg then none else (Option.bind (some (xw g238 51 (g216 41 0).toNatClampNeg ((g238 51 p1.toNatClampNeg) - (g238 50 p1.toNatClampNeg)))) (fun g246 => (if p1 < 0 ∨ 8 ≤ p1.toNatClampNeg then none else (Option.bind (some (xw g246 51 p1.toNatClampNeg (g238 50 p1.toNatClampNeg))) (fun g249 => (ob2 (f_M_split_L197 fu p1 p2 (g238 50 p1.toNatClampNeg) (g216 41 0) fu ((0 : Int32)) g249) (fun x251 g252 => some (g216 41 0, g252))))))))))) else (if p1 < 0 ∨ 8 ≤ p1.toNatClampNeg then none else (if p1 < 0 ∨ 8 ≤ p1.toNatClampNeg then none else (if (g216 41 0) < 0 ∨ 8 ≤ (g216 41 0).toNatClampNeg then none else (Option.bind (some (xw g238 51 (g216 41 0).toNatClampNeg ((g238 51 p1.toNatClampNeg) - (g238 51 p1.toNatClampNeg)))) (fun g257 => (if p1 < 0 ∨ 8 ≤ p1.toNatClampNeg then none else (Option.bind (some (xw g257 51 p1.toNatClampNeg (g238 51 p1.toNatClampNeg))) (fun g260 => (ob2 (f_M_split_L197 fu p1 p2 (g238 51 p1.toNatClampNeg) (g216 41 0) fu ((0 : Int32)) g260) (fun x262 g263 => some (g216 41 0, g263))))))))))))))))))))))))))))))))))) else some ((0 : Int32), g216)))) else (if p1 < 0 ∨ 8 ≤ p1.toNatClampNeg then none else (ob2 (f_M_in p2 ((1 : Int32)) ((g3 50 p1.toNatClampNeg) - ((1 : Int32))) g3) (fun r7 g8 => (if r7 = 0 then (Option.bind (some (xw g8 40 0 ((2 : Int32)))) (fun g167 => (if (g167 40 0) ≤ 0 then (Option.bind (some (xw g167 41 0 ((g167 41 0) + ((1 : Int32))))) (fun g170 => (if p1 < 0 ∨ 8 ≤ p1.toNatClampNeg then none else (if (g167 41 0) < 0 ∨ 8 ≤ (g167 41 0).toNatClampNeg then none else (Option.bind (some (xw g170 47 (g167 41 0).toNatClampNeg (g170 47 p1.toNatClampNeg))) (fun g174 => (if p1 < 0 ∨ 8 ≤ p1.toNatClampNeg then none else (if (g167 41 0) < 0 ∨ 8 ≤ (g167 41 0).toNatClampNeg then none else (Option.bind (some (xw g174 48 (g167 41 0).toNatClampNeg (g174 48 p1.toNatClampNeg))) (fun g178 => (if p1 < 0 ∨ 8 ≤ p1.toNatClampNeg then none else (if (g167 41 0) < 0 ∨ 8 ≤ (g167 41 0).toNatClampNeg then none else (Option.bind (some (xw g178 49 (g167 41 0).toNatClampNeg (g178 49 p1.toNatClampNeg))) (fun g182 => (if (g167 41 0) < 0 ∨ 8 ≤ (g167 41 0).toNatClampNeg then none else (Option.bind (some (xw g182 50 (g167 41 0).toNatClampNeg p2)) (fun g185 => (if p1 < 0 ∨ 8 ≤ p1.toNatClampNeg then none else (if p1 < 0 ∨ 8 ≤ p1.toNatClampNeg then none else (Option.bind (some (xw g185 50 p1.toNatClampNeg ((g185 50 p1.toNatClampNeg) - p2))) (fun g189 => (if p1 < 0 ∨ 8 ≤ p1.toNatClampNeg then none else (if p1 < 0 ∨ 8 ≤ p1.toNatClampNeg then none else (if (g189 50 p1.toNatClampNeg) ≤ (g189 51 p1.toNatClampNeg) then (if p1 < 0 ∨ 8 ≤ p1.toNatClampNeg then none else (if p1 < 0 ∨ 8 ≤ p1.toNatClampNeg then none else (if (g167 41 0) < 0 ∨ 8 ≤ (g167 41 0).toNatClampNeg then none else (Option.bind (some (xw g189 51 (g167 41 0).toNatClampNeg ((g189 51 p1.toNatClampNeg) - (g189 50 p1.toNatClampNeg)))) (fun g197 => (if p1 < 0 ∨ 8 ≤ p1.toNatClampNeg then none else (Option.bind (some (xw g197 51 p1.toNatClampNeg (g189 50 p1.toNatClampNeg))) (fun g200 => (ob2 (f_M_split_L197 fu p1 p2 (g189 50 p1.toNatClampNeg) (g167 41 0) fu ((0 : Int32)) g200) (fun x202 g203 => some (g167 41 0, g203))))))))))) else (if p1 < 0 ∨ 8 ≤ p1.toNatClampNeg then none else (if p1 < 0 ∨ 8 ≤ p1.toNatClampNeg then none else (if (g167 41 0) < 0 ∨ 8 ≤ (g167 41 0).toNatClampNeg then none else (Option.bind (some (xw g189 51 (g167 41 0).toNatClampNeg ((g189 51 p1.toNatClampNeg) - (g189 51 p1.toNatClampNeg)))) (fun g208 => (if p1 < 0 ∨ 8 ≤ p1.toNatClampNeg then none else (Option.bind (some (xw g208 51 p1.toNatClampNeg (g189 51 p1.toNatClampNeg))) (fun g211 => (ob2 (f_M_split_L197 fu p1 p2 (g189 51 p1.toNatClampNeg) (g167 41 0) fu ((0 : Int32)) g211) (fun x213 g214 => some (g167 41 0, g214))))))))))))))))))))))))))))))))))) else some ((0 : Int32), g167)))) else (ob2 (f_M_held fu p1 g8) (fun r11 g12 => (if r11 ≤ 0 then (if (g12 41 0) = ((8 : Int32)) then (Option.bind (some (xw g12 40 0 ((4 : Int32)))) (fun g69 => (if (g69 40 0) ≤ 0 then (Option.bind (some (xw g69 41 0 ((g69 41 0) + ((1 : Int32))))) (fun g72 => (if p1 < 0 ∨ 8 ≤ p1.toNatClampNeg then none else (if (g69 41 0) < 0 ∨ 8 ≤ (g69 41 0).toNatClampNeg then none else (Option.bind (some (xw g72 47 (g69 41 0).toNatClampNeg (g72 47 p1.toNatClampNeg))) (fun g76 => (if p1 < 0 ∨ 8 ≤ p1.toNatClampNeg then none else (if (g69 41 0) < 0 ∨ 8 ≤ (g69 41 0).toNatClampNeg then none else (Option.bind (some (xw g76 48 (g69 41 0).toNatClampNeg (g76 48 p1.toNatClampNeg))) (fun g80 => (if p1 < 0 ∨ 8 ≤ p1.toNatClampNeg then none else (if (g69 41 0) < 0 ∨ 8 ≤ (g69 41 0).toNatClampNeg then none else (Option.bind (some (xw g80 49 (g69 41 0).toNatClampNeg (g80 49 p1.toNatClampNeg))) (fun g84 => (if (g69 41 0) < 0 ∨ 8 ≤ (g69 41 0).toNatClampNeg then none else (Option.bind (some (xw g84 50 (g69 41 0).toNatClampNeg p2)) (fun g87 => (if p1 < 0 ∨ 8 ≤ p1.toNatClampNeg then none else (if p1 < 0 ∨ 8 ≤ p1.toNatClampNeg then none else (Option.bind (some (xw g87 50 p1.toNatClampNeg ((g87 50 p1.toNatClampNeg) - p2))) (fun g91 => (if p1 < 0 ∨ 8 ≤ p1.toNatClampNeg then none else (if p1 < 0 ∨ 8 ≤ p1.toNatClampNeg then none else (if (g91 50 p1.toNatClampNeg) ≤ (g91 51 p1.toNatClampNeg) then (if p1 < 0 ∨ 8 ≤ p1.toNatClampNeg then none else (if p1 < 0 ∨ 8 ≤ p1.toNatClampNeg then none else (if (g69 41 0) < 0 ∨ 8 ≤ (g69 41 0).toNatClampNeg then none else (Option.bind (some (xw g91 51 (g69 41 0).toNatClampNeg ((g91 51 p1.toNatClampNeg) - (g91 50 p1.toNatClampNeg)))) (fun g99 => (if p1 < 0 ∨ 8 ≤ p1.toNatClampNeg then none else (Option.bind (some (xw g99 51 p1.toNatClampNeg (g91 50 p1.toNatClampNeg))) (fun g102 => (ob2 (f_M_split_L197 fu p1 p2 (g91 50 p1.toNatClampNeg) (g69 41 0) fu ((0 : Int32)) g102) (fun x104 g105 => some (g69 41 0, g105))))))))))) else (if p1 < 0 ∨ 8 ≤ p1.toNatClampNeg then none else (if p1 < 0 ∨ 8 ≤ p1.toNatClampNeg then none else (if (g69 41 0) < 0 ∨ 8 ≤ (g69 41 0).toNatClampNeg then none else (Option.bind (some (xw g91 51 (g69 41 0).toNatClampNeg ((g91 51 p1.toNatClampNeg) - (g91 51 p1.toNatClampNeg)))) (fun g110 => (if p1 < 0 ∨ 8 ≤ p1.toNatClampNeg then none else (Option.bind (some (xw g110 51 p1.toNatClampNeg (g91 51 p1.toNatClampNeg))) (fun g113 => (ob2 (f_M_split_L197 fu p1 p2 (g91 51 p1.toNatClampNeg) (g69 41 0) fu ((0 : Int32)) g113) (fun x115 g116 => some (g69 41 0, g116))))))))))))))))))))))))))))))))))) else some ((0 : Int32), g69)))) else (Option.bind (some (xw g12 40 0 ((0 : Int32)))) (fun g15 => (if (g15 40 0) ≤ 0 then (Option.bind (some (xw g15 41 0 ((g15 41 0) + ((1 : Int32))))) (fun g18 => (if p1 < 0 ∨ 8 ≤ p1.toNatClampNeg then none else (if (g15 41 0) < 0 ∨ 8 ≤ (g15 41 0).toNatClampNeg then none else (Option.bind (some (xw g18 47 (g15 41 0).toNatClampNeg (g18 47 p1.toNatClampNeg))) (fun g22 => (if p1 < 0 ∨ 8 ≤ p1.toNatClampNeg then none else (if (g15 41 0) < 0 ∨ 8 ≤ (g15 41 0).toNatClampNeg then none else (Option.bind (some (xw g22 48 (g15 41 0).toNatClampNeg (g22 48 p1.toNatClampNeg))) (fun g26 => (if p1 < 0 ∨ 8 ≤ p1.toNatClampNeg then none else (if (g15 41 0) < 0 ∨ 8 ≤ (g15 41 0).toNatClampNeg then none else (Option.bind (some (xw g26 49 (g15 41 0).toNatClampNeg (g26 49 p1.toNatClampNeg))) (fun g30 => (if (g15 41 0) < 0 ∨ 8 ≤ (g15 41 0).toNatClampNeg then none else (Option.bind (some (xw g30 50 (g15 41 0).toNatClampNeg p2)) (fun g33 => (if p1 < 0 ∨ 8 ≤ p1.toNatClampNeg then none else (if p1 < 0 ∨ 8 ≤ p1.toNatClampNeg then none else (Option.bind (some (xw g33 50 p1.toNatClampNeg ((g33 50 p1.toNatClampNeg) - p2))) (fun g37 => (if p1 < 0 ∨ 8 ≤ p1.toNatClampNeg then none else (if p1 < 0 ∨ 8 ≤ p1.toNatClampNeg then none else (if (g37 50 p1.toNatClampNeg) ≤ (g37 51 p1.toNatClampNeg) then (if p1 < 0 ∨ 8 ≤ p1.toNatClampNeg then none else (if p1 < 0 ∨ 8 ≤ p1.toNatClampNeg then none else (if (g15 41 0) < 0 ∨ 8 ≤ (g15 41 0).toNatClampNeg then none else (Option.bind (some (xw g37 51 (g15 41 0).toNatClampNeg ((g37 51 p1.toNatClampNeg) - (g37 50 p1.toNatClampNeg)))) (fun g45 => (if p1 < 0 ∨ 8 ≤ p1.toNatClampNeg then none else (Option.bind (some (xw g45 51 p1.toNatClampNeg (g37 50 p1.toNatClampNeg))) (fun g48 => (ob2 (f_M_split_L197 fu p1 p2 (g37 50 p1.toNatClampNeg) (g15 41 0) fu ((0 : Int32)) g48) (fun x55 g56 => some (g15 41 0, g56))))))))))) else (if p1 < 0 ∨ 8 ≤ p1.toNatClampNeg then none else (if p1 < 0 ∨ 8 ≤ p1.toNatClampNeg then none else (if (g15 41 0) < 0 ∨ 8 ≤ (g15 41 0).toNatClampNeg then none else (Option.bind (some (xw g37 51 (g15 41 0).toNatClampNeg ((g37 51 p1.toNatClampNeg) - (g37 51 p1.toNatClampNeg)))) (fun g61 => (if p1 < 0 ∨ 8 ≤ p1.toNatClampNeg then none else (Option.bind (some (xw g61 51 p1.toNatClampNeg (g37 51 p1.toNatClampNeg))) (fun g64 => (ob2 (f_M_split_L197 fu p1 p2 (g37 51 p1.toNatClampNeg) (g15 41 0) fu ((0 : Int32)) g64) (fun x66 g67 => some (g15 41 0, g67))))))))))))))))))))))))))))))))))) else some ((0 : Int32), g15))))) else (Option.bind (some (xw g12 40 0 ((3 : Int32)))) (fun g118 => (if (g118 40 0) ≤ 0 then (Option.bind (some (xw g118 41 0 ((g118 41 0) + ((1 : Int32))))) (fun g121 => (if p1 < 0 ∨ 8 ≤ p1.toNatClampNeg then none else (if (g118 41 0) < 0 ∨ 8 ≤ (g118 41 0).toNatClampNeg then none else (Option.bind (some (xw g121 47 (g118 41 0).toNatClampNeg (g121 47 p1.toNatClampNeg))) (fun g125 => (if p1 < 0 ∨ 8 ≤ p1.toNatClampNeg then none else (if (g118 41 0) < 0 ∨ 8 ≤ (g118 41 0).toNatClampNeg then none else (Option.bind (some (xw g125 48 (g118 41 0).toNatClampNeg (g125 48 p1.toNatClampNeg))) (fun g129 => (if p1 < 0 ∨ 8 ≤ p1.toNatClampNeg then none else (if (g118 41 0) < 0 ∨ 8 ≤ (g118 41 0).toNatClampNeg then none else (Option.bind (some (xw g129 49 (g118 41 0).toNatClampNeg (g129 49 p1.toNatClampNeg))) (fun g133 => (if (g118 41 0) < 0 ∨ 8 ≤ (g118 41 0).toNatClampNeg then none else (Option.bind (some (xw g133 50 (g118 41 0).toNatClampNeg p2)) (fun g136 => (if p1 < 0 ∨ 8 ≤ p1.toNatClampNeg then none else (if p1 < 0 ∨ 8 ≤ p1.toNatClampNeg then none else (Option.bind (some (xw g136 50 p1.toNatClampNeg ((g136 50 p1.toNatClampNeg) - p2))) (fun g140 => (if p1 < 0 ∨ 8 ≤ p1.toNatClampNeg then none else (if p1 < 0 ∨ 8 ≤ p1.toNatClampNeg then none else (if (g140 50 p1.toNatClampNeg) ≤ (g140 51 p1.toNatClampNeg) then (if p1 < 0 ∨ 8 ≤ p1.toNatClampNeg then none else (if p1 < 0 ∨ 8 ≤ p1.toNatClampNeg then none else (if (g118 41 0) < 0 ∨ 8 ≤ (g118 41 0).toNatClampNeg then none else (Option.bind (some (xw g140 51 (g118 41 0).toNatClampNeg ((g140 51 p1.toNatClampNeg) - (g140 50 p1.toNatClampNeg)))) (fun g148 => (if p1 < 0 ∨ 8 ≤ p1.toNatClampNeg then none else (Option.bind (some (xw g148 51 p1.toNatClampNeg (g140 50 p1.toNatClampNeg))) (fun g151 => (ob2 (f_M_split_L197 fu p1 p2 (g140 50 p1.toNatClampNeg) (g118 41 0) fu ((0 : Int32)) g151) (fun x153 g154 => some (g118 41 0, g154))))))))))) else (if p1 < 0 ∨ 8 ≤ p1.toNatClampNeg then none else (if p1 < 0 ∨ 8 ≤ p1.toNatClampNeg then none else (if (g118 41 0) < 0 ∨ 8 ≤ (g118 41 0).toNatClampNeg then none else (Option.bind (some (xw g140 51 (g118 41 0).toNatClampNeg ((g140 51 p1.toNatClampNeg) - (g140 51 p1.toNatClampNeg)))) (fun g159 => (if p1 < 0 ∨ 8 ≤ p1.toNatClampNeg then none else (Option.bind (some (xw g159 51 p1.toNatClampNeg (g140 51 p1.toNatClampNeg))) (fun g162 => (ob2 (f_M_split_L197 fu p1 p2 (g140 51 p1.toNatClampNeg) (g118 41 0) fu ((0 : Int32)) g162) (fun x164 g165 => some (g118 41 0, g165))))))))))))))))))))))))))))))))))) else some ((0 : Int32), g118))))))))))))))

set_option maxRecDepth 100000 in
set_option maxHeartbeats 4000000 in
theorem l_M_split_L197 {p : Program} {e : Env} {s : State} {m : MethodId} {below : List Frame} {meth : Method} {c : Code} {D : va_G} {ad : Nat → Nat} {ca : Nat → ClassId} (l : Launch) (fu : Nat) (p1 : Int32) (p2 : Int32) (b4 : Int32) (b3 : Int32) (X : xX p s m ([.ref (ad 36), .int p1, .int p2] : List Value).toArray meth c b_M_split "CrossDockModel" 6 (some .int) D ad ca) (hno : c.exceptionTable.toList = []) {Q : State → Prop} : ∀ (n : Nat) (a5 : Int32) (g : xSt) (a5' : Int32) (g' : xSt), f_M_split_L197 fu p1 p2 b4 b3 n a5 g = some (a5', g') → xV p l e ({ frames := 2, cells := 0, slots := 0, locals := 43 } : Room) s m ([.ref (ad 36), .int p1, .int p2] : List Value).toArray below meth c D xcl (wX ad ca) (xA (wX ad ca) s.heap.size) 6 0 0 Q g' 234 [(5, .int a5'), (4, .int b4), (3, .int b3), (0, .ref (ad 36)), (1, .int p1), (2, .int p2)] [] → xV p l e ({ frames := 2, cells := 0, slots := 0, locals := 43 } : Room) s m ([.ref (ad 36), .int p1, .int p2] : List Value).toArray below meth c D xcl (wX ad ca) (xA (wX ad ca) s.heap.size) 6 0 0 Q g 197 [(5, .int a5), (4, .int b4), (3, .int b3), (0, .ref (ad 36)), (1, .int p1), (2, .int p2)] [] := by
  intro n
  induction n with
  | zero =>
    intro a5 g a5' g' hf
    rw [f_M_split_L197] at hf
    cases hf
  | succ n ih =>
    intro a5 g a5' g' hf hk
    rw [f_M_split_L197] at hf
    refine v_iload X.1 d_M_split_197 0 rfl ?_
    refine v_bipush X.1 (v := (8 : Int32)) d_M_split_199 (by decide) ?_
    refine v_icmp_ge X.1 (tgt := 234) d_M_split_201 (by decide) (fun c50 => ?_) (fun c50 => ?_)
    · rw [if_pos c50] at hf
      cases hf
      refine v_sub [0, 1, 2, 3, 4, 5] rfl ?_
      exact hk
    · rw [if_neg c50] at hf
      refine v_aload_n X.1 d_M_split_204 rfl 3 rfl ?_
      refine v_get X.1 (ci := 5) ⟨in_M, rfl⟩ 36 rfl 14 (by decide) (X.t tw_642 rfl) rfl d_M_split_205 ?_
      refine v_bipush X.1 (v := (8 : Int32)) d_M_split_208 (by decide) ?_
      refine v_iload_n X.1 d_M_split_210 rfl 2 rfl ?_
      refine v_imul X.1 d_M_split_211 ?_
      refine v_iload X.1 d_M_split_212 0 rfl ?_
      refine v_iadd X.1 d_M_split_214 ?_
      refine v_aload_n X.1 d_M_split_215 rfl 3 rfl ?_
      refine v_get X.1 (ci := 5) ⟨in_M, rfl⟩ 36 rfl 14 (by decide) (X.t tw_642 rfl) rfl d_M_split_216 ?_
      refine v_bipush X.1 (v := (8 : Int32)) d_M_split_219 (by decide) ?_
      refine v_iload_n X.1 d_M_split_221 rfl 4 rfl ?_
      refine v_imul X.1 d_M_split_222 ?_
      refine v_iload X.1 d_M_split_223 0 rfl ?_
      refine v_iadd X.1 d_M_split_225 ?_
      obtain ⟨hb51, hf⟩ := oi_none hf
      refine v_zald X.1 48 1 rfl rfl hb51 d_M_split_226 ?_
      obtain ⟨hb52, hf⟩ := oi_none hf
      obtain ⟨g53, eg54, hf⟩ := ob_some hf
      refine v_zast X.1 48 1 rfl rfl hb52 ((sa_58 ad ca _ _ _).trans (congrArg (wX ad ca) (Option.some.inj eg54))) d_M_split_227 ?_
      refine v_iinc X.1 (k0 := 0) (v := a5 + (1 : Int32)) (lv' := [(5, .int (a5 + (1 : Int32))), (4, .int b4), (3, .int b3), (0, .ref (ad 36)), (1, .int p1), (2, .int p2)]) d_M_split_228 rfl rfl (by decide) rfl ?_
      refine v_goto X.1 (tgt := 197) d_M_split_231 (by decide) ?_
      refine v_sub [0, 1, 2, 3, 4, 5] rfl ?_
      exact ih _ _ _ _ hf hk

set_option maxRecDepth 100000 in
set_option maxHeartbeats 4000000 in
theorem c_M_split (l : Launch) (fu : Nat) (p1 : Int32) (p2 : Int32) (g : xSt) (r : Int32) (g' : xSt) (hf : f_M_split fu p1 p2 g = some (r, g')) : xM l y_M_split (.code y_M_split b_M_split 6 (some .int)) ({ frames := 2, cells := 0, slots := 0, locals := 43 } : Room) (fun ad => [.ref (ad 36), .int p1, .int p2]) g (.inl (some (.int r))) g' 0 0 := by
  refine x_contract (by decide) (fun _ => Nat.le_of_ble_eq_true rfl) ?_
  intro p e s m below meth c D ad ca X hno
  unfold f_M_split at hf
  refine v_aload_n X.1 d_M_split_0 rfl 0 rfl ?_
  refine v_aload_n X.1 d_M_split_1 rfl 0 rfl ?_
  refine v_iload_n X.1 d_M_split_2 rfl 1 rfl ?_
  obtain ⟨r2, g3, hc1, hf⟩ := ob2_some hf
  refine v_backI X.1 (x_runV X (c_M_isArrival l p1 _ _ _ hc1) rfl tw_743 tw_57 tw_740 tw_742 tw_33 36 5 rfl rfl rfl ⟨rfl, rfl, by decide, by decide⟩ ⟨by decide, by show _ = some 1; decide⟩ (rest := [.ref (ad 36)]) rfl (Nat.le_of_ble_eq_true rfl) d_M_split_3 (by decide) (by decide)) ?_
  refine v_if_ne X.1 (tgt := 13) d_M_split_6 (by decide) (fun c4 => ?_) (fun c4 => ?_)
  · rw [if_neg c4] at hf
    refine v_iload_n X.1 d_M_split_13 rfl 2 rfl ?_
    refine v_iconst X.1 (v := (1 : Int32)) d_M_split_14 (by decide) ?_
    refine v_aload_n X.1 d_M_split_15 rfl 0 rfl ?_
    refine v_get X.1 (ci := 5) ⟨in_M, rfl⟩ 36 rfl 5 (by decide) (X.t tw_633 rfl) rfl d_M_split_16 ?_
    refine v_iload_n X.1 d_M_split_19 rfl 1 rfl ?_
    obtain ⟨hb5, hf⟩ := oi_none hf
    refine v_iald X.1 40 0 rfl rfl hb5 d_M_split_20 ?_
    refine v_iconst X.1 (v := (1 : Int32)) d_M_split_21 (by decide) ?_
    refine v_isub X.1 d_M_split_22 ?_
    obtain ⟨r7, g8, hc6, hf⟩ := ob2_some hf
    refine v_backI X.1 (x_runS X (c_M_in l p2 ((1 : Int32)) ((g3 50 p1.toNatClampNeg) - ((1 : Int32))) _ _ _ hc6) tw_723 tw_57 tw_721 tw_722 ⟨rfl, rfl, by decide, by decide⟩ ⟨by decide, by show _ = some 3; decide⟩ (rest := [.ref (ad 36)]) rfl (Nat.le_of_ble_eq_true rfl) d_M_split_23 (by decide) (by decide)) ?_
    refine v_if_ne X.1 (tgt := 33) d_M_split_26 (by decide) (fun c9 => ?_) (fun c9 => ?_)
    · rw [if_neg c9] at hf
      refine v_aload_n X.1 d_M_split_33 rfl 0 rfl ?_
      refine v_iload_n X.1 d_M_split_34 rfl 1 rfl ?_
      obtain ⟨r11, g12, hc10, hf⟩ := ob2_some hf
      refine v_backI X.1 (x_runV X (c_M_held l fu p1 _ _ _ hc10) rfl tw_747 tw_57 tw_744 tw_746 tw_34 36 5 rfl rfl rfl ⟨rfl, rfl, by decide, by decide⟩ ⟨by decide, by show _ = some 1; decide⟩ (rest := [.ref (ad 36)]) rfl (Nat.le_of_ble_eq_true rfl) d_M_split_35 (by decide) (by decide)) ?_
      refine v_if_le X.1 (tgt := 45) d_M_split_38 (by decide) (fun c13 => ?_) (fun c13 => ?_)
      · rw [if_pos c13] at hf
        refine v_aload_n X.1 d_M_split_45 rfl 0 rfl ?_
        refine v_get X.1 (ci := 5) ⟨in_M, rfl⟩ 36 rfl 1 (by decide) (X.t tw_629 rfl) rfl d_M_split_46 ?_
        refine v_bipush X.1 (v := (8 : Int32)) d_M_split_49 (by decide) ?_
        refine v_icmp_ne X.1 (tgt := 58) d_M_split_51 (by decide) (fun c14 => ?_) (fun c14 => ?_)
        · rw [if_neg c14] at hf
          refine v_iconst X.1 (v := (0 : Int32)) d_M_split_58 (by decide) ?_
          obtain ⟨g15, eg16, hf⟩ := ob_some hf
          refine v_put X.1 (ci := 5) ⟨in_M, rfl⟩ 36 rfl 0 (by decide) ⟨ty_M_ok, nm_M⟩ (X.t tw_628 rfl) rfl (ty := .int) (by decide +kernel) rfl rfl (Nat.le_of_ble_eq_true rfl) ((sw_40 ad ca _ _).trans (congrArg (wX ad ca) (Option.some.inj eg16))) d_M_split_59 ?_
          refine v_aload_n X.1 d_M_split_62 rfl 0 rfl ?_
          refine v_get X.1 (ci := 5) ⟨in_M, rfl⟩ 36 rfl 0 (by decide) (X.t tw_628 rfl) rfl d_M_split_63 ?_
          refine v_if_le X.1 (tgt := 71) d_M_split_66 (by decide) (fun c17 => ?_) (fun c17 => ?_)
          · rw [if_pos c17] at hf
            refine v_aload_n X.1 d_M_split_71 rfl 0 rfl ?_
            refine v_get X.1 (ci := 5) ⟨in_M, rfl⟩ 36 rfl 1 (by decide) (X.t tw_629 rfl) rfl d_M_split_72 ?_
            refine v_istore_n X.1 (lv' := [(3, .int (g15 41 0)), (0, .ref (ad 36)), (1, .int p1), (2, .int p2)]) d_M_split_75 rfl (by decide) rfl ?_
            refine v_aload_n X.1 d_M_split_76 rfl 1 rfl ?_
            refine v_dup X.1 d_M_split_77 rfl ?_
            refine v_get X.1 (ci := 5) ⟨in_M, rfl⟩ 36 rfl 1 (by decide) (X.t tw_629 rfl) rfl d_M_split_78 ?_
            refine v_iconst X.1 (v := (1 : Int32)) d_M_split_81 (by decide) ?_
            refine v_iadd X.1 d_M_split_82 ?_
            obtain ⟨g18, eg19, hf⟩ := ob_some hf
            refine v_put X.1 (ci := 5) ⟨in_M, rfl⟩ 36 rfl 1 (by decide) ⟨ty_M_ok, nm_M⟩ (X.t tw_629 rfl) rfl (ty := .int) (by decide +kernel) rfl rfl (Nat.le_of_ble_eq_true rfl) ((sw_41 ad ca _ _).trans (congrArg (wX ad ca) (Option.some.inj eg19))) d_M_split_83 ?_
            refine v_aload_n X.1 d_M_split_86 rfl 1 rfl ?_
            refine v_get X.1 (ci := 5) ⟨in_M, rfl⟩ 36 rfl 2 (by decide) (X.t tw_630 rfl) rfl d_M_split_87 ?_
            refine v_iload_n X.1 d_M_split_90 rfl 0 rfl ?_
            refine v_aload_n X.1 d_M_split_91 rfl 1 rfl ?_
            refine v_get X.1 (ci := 5) ⟨in_M, rfl⟩ 36 rfl 2 (by decide) (X.t tw_630 rfl) rfl d_M_split_92 ?_
            refine v_iload_n X.1 d_M_split_95 rfl 2 rfl ?_
            obtain ⟨hb20, hf⟩ := oi_none hf
            refine v_iald X.1 37 0 rfl rfl hb20 d_M_split_96 ?_
            obtain ⟨hb21, hf⟩ := oi_none hf
            obtain ⟨g22, eg23, hf⟩ := ob_some hf
            refine v_iast X.1 37 0 rfl rfl hb21 ((sa_47 ad ca _ _ _).trans (congrArg (wX ad ca) (Option.some.inj eg23))) d_M_split_97 ?_
            refine v_aload_n X.1 d_M_split_98 rfl 1 rfl ?_
            refine v_get X.1 (ci := 5) ⟨in_M, rfl⟩ 36 rfl 3 (by decide) (X.t tw_631 rfl) rfl d_M_split_99 ?_
            refine v_iload_n X.1 d_M_split_102 rfl 0 rfl ?_
            refine v_aload_n X.1 d_M_split_103 rfl 1 rfl ?_
            refine v_get X.1 (ci := 5) ⟨in_M, rfl⟩ 36 rfl 3 (by decide) (X.t tw_631 rfl) rfl d_M_split_104 ?_
            refine v_iload_n X.1 d_M_split_107 rfl 2 rfl ?_
            obtain ⟨hb24, hf⟩ := oi_none hf
            refine v_iald X.1 38 0 rfl rfl hb24 d_M_split_108 ?_
            obtain ⟨hb25, hf⟩ := oi_none hf
            obtain ⟨g26, eg27, hf⟩ := ob_some hf
            refine v_iast X.1 38 0 rfl rfl hb25 ((sa_48 ad ca _ _ _).trans (congrArg (wX ad ca) (Option.some.inj eg27))) d_M_split_109 ?_
            refine v_aload_n X.1 d_M_split_110 rfl 1 rfl ?_
            refine v_get X.1 (ci := 5) ⟨in_M, rfl⟩ 36 rfl 4 (by decide) (X.t tw_632 rfl) rfl d_M_split_111 ?_
            refine v_iload_n X.1 d_M_split_114 rfl 0 rfl ?_
            refine v_aload_n X.1 d_M_split_115 rfl 1 rfl ?_
            refine v_get X.1 (ci := 5) ⟨in_M, rfl⟩ 36 rfl 4 (by decide) (X.t tw_632 rfl) rfl d_M_split_116 ?_
            refine v_iload_n X.1 d_M_split_119 rfl 2 rfl ?_
            obtain ⟨hb28, hf⟩ := oi_none hf
            refine v_iald X.1 39 0 rfl rfl hb28 d_M_split_120 ?_
            obtain ⟨hb29, hf⟩ := oi_none hf
            obtain ⟨g30, eg31, hf⟩ := ob_some hf
            refine v_iast X.1 39 0 rfl rfl hb29 ((sa_49 ad ca _ _ _).trans (congrArg (wX ad ca) (Option.some.inj eg31))) d_M_split_121 ?_
            refine v_aload_n X.1 d_M_split_122 rfl 1 rfl ?_
            refine v_get X.1 (ci := 5) ⟨in_M, rfl⟩ 36 rfl 5 (by decide) (X.t tw_633 rfl) rfl d_M_split_123 ?_
            refine v_iload_n X.1 d_M_split_126 rfl 0 rfl ?_
            refine v_iload_n X.1 d_M_split_127 rfl 3 rfl ?_
            obtain ⟨hb32, hf⟩ := oi_none hf
            obtain ⟨g33, eg34, hf⟩ := ob_some hf
            refine v_iast X.1 40 0 rfl rfl hb32 ((sa_50 ad ca _ _ _).trans (congrArg (wX ad ca) (Option.some.inj eg34))) d_M_split_128 ?_
            refine v_aload_n X.1 d_M_split_129 rfl 1 rfl ?_
            refine v_get X.1 (ci := 5) ⟨in_M, rfl⟩ 36 rfl 5 (by decide) (X.t tw_633 rfl) rfl d_M_split_130 ?_
            refine v_iload_n X.1 d_M_split_133 rfl 2 rfl ?_
            refine v_dup2 X.1 d_M_split_134 rfl rfl ?_
            obtain ⟨hb35, hf⟩ := oi_none hf
            refine v_iald X.1 40 0 rfl rfl hb35 d_M_split_135 ?_
            refine v_iload_n X.1 d_M_split_136 rfl 3 rfl ?_
            refine v_isub X.1 d_M_split_137 ?_
            obtain ⟨hb36, hf⟩ := oi_none hf
            obtain ⟨g37, eg38, hf⟩ := ob_some hf
            refine v_iast X.1 40 0 rfl rfl hb36 ((sa_50 ad ca _ _ _).trans (congrArg (wX ad ca) (Option.some.inj eg38))) d_M_split_138 ?_
            refine v_aload_n X.1 d_M_split_139 rfl 1 rfl ?_
            refine v_get X.1 (ci := 5) ⟨in_M, rfl⟩ 36 rfl 6 (by decide) (X.t tw_634 rfl) rfl d_M_split_140 ?_
            refine v_iload_n X.1 d_M_split_143 rfl 2 rfl ?_
            obtain ⟨hb39, hf⟩ := oi_none hf
            refine v_iald X.1 41 0 rfl rfl hb39 d_M_split_144 ?_
            refine v_aload_n X.1 d_M_split_145 rfl 1 rfl ?_
            refine v_get X.1 (ci := 5) ⟨in_M, rfl⟩ 36 rfl 5 (by decide) (X.t tw_633 rfl) rfl d_M_split_146 ?_
            refine v_iload_n X.1 d_M_split_149 rfl 2 rfl ?_
            obtain ⟨hb40, hf⟩ := oi_none hf
            refine v_iald X.1 40 0 rfl rfl hb40 d_M_split_150 ?_
            refine v_icmp_ge X.1 (tgt := 163) d_M_split_151 (by decide) (fun c41 => ?_) (fun c41 => ?_)
            · rw [if_pos c41] at hf
              refine v_aload_n X.1 d_M_split_163 rfl 1 rfl ?_
              refine v_get X.1 (ci := 5) ⟨in_M, rfl⟩ 36 rfl 5 (by decide) (X.t tw_633 rfl) rfl d_M_split_164 ?_
              refine v_iload_n X.1 d_M_split_167 rfl 2 rfl ?_
              obtain ⟨hb42, hf⟩ := oi_none hf
              refine v_iald X.1 40 0 rfl rfl hb42 d_M_split_168 ?_
              refine v_istore X.1 (lv' := [(4, .int (g37 50 p1.toNatClampNeg)), (3, .int (g15 41 0)), (0, .ref (ad 36)), (1, .int p1), (2, .int p2)]) d_M_split_169 (by decide) rfl ?_
              refine v_aload_n X.1 d_M_split_171 rfl 2 rfl ?_
              refine v_get X.1 (ci := 5) ⟨in_M, rfl⟩ 36 rfl 6 (by decide) (X.t tw_634 rfl) rfl d_M_split_172 ?_
              refine v_iload_n X.1 d_M_split_175 rfl 1 rfl ?_
              refine v_aload_n X.1 d_M_split_176 rfl 2 rfl ?_
              refine v_get X.1 (ci := 5) ⟨in_M, rfl⟩ 36 rfl 6 (by decide) (X.t tw_634 rfl) rfl d_M_split_177 ?_
              refine v_iload_n X.1 d_M_split_180 rfl 3 rfl ?_
              obtain ⟨hb43, hf⟩ := oi_none hf
              refine v_iald X.1 41 0 rfl rfl hb43 d_M_split_181 ?_
              refine v_iload X.1 d_M_split_182 0 rfl ?_
              refine v_isub X.1 d_M_split_184 ?_
              obtain ⟨hb44, hf⟩ := oi_none hf
              obtain ⟨g45, eg46, hf⟩ := ob_some hf
              refine v_iast X.1 41 0 rfl rfl hb44 ((sa_51 ad ca _ _ _).trans (congrArg (wX ad ca) (Option.some.inj eg46))) d_M_split_185 ?_
              refine v_aload_n X.1 d_M_split_186 rfl 2 rfl ?_
              refine v_get X.1 (ci := 5) ⟨in_M, rfl⟩ 36 rfl 6 (by decide) (X.t tw_634 rfl) rfl d_M_split_187 ?_
              refine v_iload_n X.1 d_M_split_190 rfl 3 rfl ?_
              refine v_iload X.1 d_M_split_191 0 rfl ?_
              obtain ⟨hb47, hf⟩ := oi_none hf
              obtain ⟨g48, eg49, hf⟩ := ob_some hf
              refine v_iast X.1 41 0 rfl rfl hb47 ((sa_51 ad ca _ _ _).trans (congrArg (wX ad ca) (Option.some.inj eg49))) d_M_split_193 ?_
              refine v_iconst X.1 (v := (0 : Int32)) d_M_split_194 (by decide) ?_
              refine v_istore X.1 (lv' := [(5, .int ((0 : Int32))), (4, .int (g37 50 p1.toNatClampNeg)), (3, .int (g15 41 0)), (0, .ref (ad 36)), (1, .int p1), (2, .int p2)]) d_M_split_195 (by decide) rfl ?_
              obtain ⟨x55, g56, hL57, hf⟩ := ob2_some hf
              refine l_M_split_L197 l fu p1 p2 (g37 50 p1.toNatClampNeg) (g15 41 0) X hno fu _ _ _ _ hL57 ?_
              refine v_iload_n X.1 d_M_split_234 rfl 2 rfl ?_
              cases hf
              exact v_iret X.1 X.2.2.1 rfl d_M_split_235 X.2.2.2.1 (by decide) (by decide)
            · rw [if_neg c41] at hf
              refine v_aload_n X.1 d_M_split_154 rfl 1 rfl ?_
              refine v_get X.1 (ci := 5) ⟨in_M, rfl⟩ 36 rfl 6 (by decide) (X.t tw_634 rfl) rfl d_M_split_155 ?_
              refine v_iload_n X.1 d_M_split_158 rfl 2 rfl ?_
              obtain ⟨hb58, hf⟩ := oi_none hf
              refine v_iald X.1 41 0 rfl rfl hb58 d_M_split_159 ?_
              refine v_goto X.1 (tgt := 169) d_M_split_160 (by decide) ?_
              refine v_istore X.1 (lv' := [(4, .int (g37 51 p1.toNatClampNeg)), (3, .int (g15 41 0)), (0, .ref (ad 36)), (1, .int p1), (2, .int p2)]) d_M_split_169 (by decide) rfl ?_
              refine v_aload_n X.1 d_M_split_171 rfl 2 rfl ?_
              refine v_get X.1 (ci := 5) ⟨in_M, rfl⟩ 36 rfl 6 (by decide) (X.t tw_634 rfl) rfl d_M_split_172 ?_
              refine v_iload_n X.1 d_M_split_175 rfl 1 rfl ?_
              refine v_aload_n X.1 d_M_split_176 rfl 2 rfl ?_
              refine v_get X.1 (ci := 5) ⟨in_M, rfl⟩ 36 rfl 6 (by decide) (X.t tw_634 rfl) rfl d_M_split_177 ?_
              refine v_iload_n X.1 d_M_split_180 rfl 3 rfl ?_
              obtain ⟨hb59, hf⟩ := oi_none hf
              refine v_iald X.1 41 0 rfl rfl hb59 d_M_split_181 ?_
              refine v_iload X.1 d_M_split_182 0 rfl ?_
              refine v_isub X.1 d_M_split_184 ?_
              obtain ⟨hb60, hf⟩ := oi_none hf
              obtain ⟨g61, eg62, hf⟩ := ob_some hf
              refine v_iast X.1 41 0 rfl rfl hb60 ((sa_51 ad ca _ _ _).trans (congrArg (wX ad ca) (Option.some.inj eg62))) d_M_split_185 ?_
              refine v_aload_n X.1 d_M_split_186 rfl 2 rfl ?_
              refine v_get X.1 (ci := 5) ⟨in_M, rfl⟩ 36 rfl 6 (by decide) (X.t tw_634 rfl) rfl d_M_split_187 ?_
              refine v_iload_n X.1 d_M_split_190 rfl 3 rfl ?_
              refine v_iload X.1 d_M_split_191 0 rfl ?_
              obtain ⟨hb63, hf⟩ := oi_none hf
              obtain ⟨g64, eg65, hf⟩ := ob_some hf
              refine v_iast X.1 41 0 rfl rfl hb63 ((sa_51 ad ca _ _ _).trans (congrArg (wX ad ca) (Option.some.inj eg65))) d_M_split_193 ?_
              refine v_iconst X.1 (v := (0 : Int32)) d_M_split_194 (by decide) ?_
              refine v_istore X.1 (lv' := [(5, .int ((0 : Int32))), (4, .int (g37 51 p1.toNatClampNeg)), (3, .int (g15 41 0)), (0, .ref (ad 36)), (1, .int p1), (2, .int p2)]) d_M_split_195 (by decide) rfl ?_
              obtain ⟨x66, g67, hL68, hf⟩ := ob2_some hf
              refine l_M_split_L197 l fu p1 p2 (g37 51 p1.toNatClampNeg) (g15 41 0) X hno fu _ _ _ _ hL68 ?_
              refine v_iload_n X.1 d_M_split_234 rfl 2 rfl ?_
              cases hf
              exact v_iret X.1 X.2.2.1 rfl d_M_split_235 X.2.2.2.1 (by decide) (by decide)
          · rw [if_neg c17] at hf
            refine v_iconst X.1 (v := (0 : Int32)) d_M_split_69 (by decide) ?_
            cases hf
            exact v_iret X.1 X.2.2.1 rfl d_M_split_70 X.2.2.2.1 (by decide) (by decide)
        · rw [if_pos c14] at hf
          refine v_iconst X.1 (v := (4 : Int32)) d_M_split_54 (by decide) ?_
          refine v_goto X.1 (tgt := 59) d_M_split_55 (by decide) ?_
          obtain ⟨g69, eg70, hf⟩ := ob_some hf
          refine v_put X.1 (ci := 5) ⟨in_M, rfl⟩ 36 rfl 0 (by decide) ⟨ty_M_ok, nm_M⟩ (X.t tw_628 rfl) rfl (ty := .int) (by decide +kernel) rfl rfl (Nat.le_of_ble_eq_true rfl) ((sw_40 ad ca _ _).trans (congrArg (wX ad ca) (Option.some.inj eg70))) d_M_split_59 ?_
          refine v_aload_n X.1 d_M_split_62 rfl 0 rfl ?_
          refine v_get X.1 (ci := 5) ⟨in_M, rfl⟩ 36 rfl 0 (by decide) (X.t tw_628 rfl) rfl d_M_split_63 ?_
          refine v_if_le X.1 (tgt := 71) d_M_split_66 (by decide) (fun c71 => ?_) (fun c71 => ?_)
          · rw [if_pos c71] at hf
            refine v_aload_n X.1 d_M_split_71 rfl 0 rfl ?_
            refine v_get X.1 (ci := 5) ⟨in_M, rfl⟩ 36 rfl 1 (by decide) (X.t tw_629 rfl) rfl d_M_split_72 ?_
            refine v_istore_n X.1 (lv' := [(3, .int (g69 41 0)), (0, .ref (ad 36)), (1, .int p1), (2, .int p2)]) d_M_split_75 rfl (by decide) rfl ?_
            refine v_aload_n X.1 d_M_split_76 rfl 1 rfl ?_
            refine v_dup X.1 d_M_split_77 rfl ?_
            refine v_get X.1 (ci := 5) ⟨in_M, rfl⟩ 36 rfl 1 (by decide) (X.t tw_629 rfl) rfl d_M_split_78 ?_
            refine v_iconst X.1 (v := (1 : Int32)) d_M_split_81 (by decide) ?_
            refine v_iadd X.1 d_M_split_82 ?_
            obtain ⟨g72, eg73, hf⟩ := ob_some hf
            refine v_put X.1 (ci := 5) ⟨in_M, rfl⟩ 36 rfl 1 (by decide) ⟨ty_M_ok, nm_M⟩ (X.t tw_629 rfl) rfl (ty := .int) (by decide +kernel) rfl rfl (Nat.le_of_ble_eq_true rfl) ((sw_41 ad ca _ _).trans (congrArg (wX ad ca) (Option.some.inj eg73))) d_M_split_83 ?_
            refine v_aload_n X.1 d_M_split_86 rfl 1 rfl ?_
            refine v_get X.1 (ci := 5) ⟨in_M, rfl⟩ 36 rfl 2 (by decide) (X.t tw_630 rfl) rfl d_M_split_87 ?_
            refine v_iload_n X.1 d_M_split_90 rfl 0 rfl ?_
            refine v_aload_n X.1 d_M_split_91 rfl 1 rfl ?_
            refine v_get X.1 (ci := 5) ⟨in_M, rfl⟩ 36 rfl 2 (by decide) (X.t tw_630 rfl) rfl d_M_split_92 ?_
            refine v_iload_n X.1 d_M_split_95 rfl 2 rfl ?_
            obtain ⟨hb74, hf⟩ := oi_none hf
            refine v_iald X.1 37 0 rfl rfl hb74 d_M_split_96 ?_
            obtain ⟨hb75, hf⟩ := oi_none hf
            obtain ⟨g76, eg77, hf⟩ := ob_some hf
            refine v_iast X.1 37 0 rfl rfl hb75 ((sa_47 ad ca _ _ _).trans (congrArg (wX ad ca) (Option.some.inj eg77))) d_M_split_97 ?_
            refine v_aload_n X.1 d_M_split_98 rfl 1 rfl ?_
            refine v_get X.1 (ci := 5) ⟨in_M, rfl⟩ 36 rfl 3 (by decide) (X.t tw_631 rfl) rfl d_M_split_99 ?_
            refine v_iload_n X.1 d_M_split_102 rfl 0 rfl ?_
            refine v_aload_n X.1 d_M_split_103 rfl 1 rfl ?_
            refine v_get X.1 (ci := 5) ⟨in_M, rfl⟩ 36 rfl 3 (by decide) (X.t tw_631 rfl) rfl d_M_split_104 ?_
            refine v_iload_n X.1 d_M_split_107 rfl 2 rfl ?_
            obtain ⟨hb78, hf⟩ := oi_none hf
            refine v_iald X.1 38 0 rfl rfl hb78 d_M_split_108 ?_
            obtain ⟨hb79, hf⟩ := oi_none hf
            obtain ⟨g80, eg81, hf⟩ := ob_some hf
            refine v_iast X.1 38 0 rfl rfl hb79 ((sa_48 ad ca _ _ _).trans (congrArg (wX ad ca) (Option.some.inj eg81))) d_M_split_109 ?_
            refine v_aload_n X.1 d_M_split_110 rfl 1 rfl ?_
            refine v_get X.1 (ci := 5) ⟨in_M, rfl⟩ 36 rfl 4 (by decide) (X.t tw_632 rfl) rfl d_M_split_111 ?_
            refine v_iload_n X.1 d_M_split_114 rfl 0 rfl ?_
            refine v_aload_n X.1 d_M_split_115 rfl 1 rfl ?_
            refine v_get X.1 (ci := 5) ⟨in_M, rfl⟩ 36 rfl 4 (by decide) (X.t tw_632 rfl) rfl d_M_split_116 ?_
            refine v_iload_n X.1 d_M_split_119 rfl 2 rfl ?_
            obtain ⟨hb82, hf⟩ := oi_none hf
            refine v_iald X.1 39 0 rfl rfl hb82 d_M_split_120 ?_
            obtain ⟨hb83, hf⟩ := oi_none hf
            obtain ⟨g84, eg85, hf⟩ := ob_some hf
            refine v_iast X.1 39 0 rfl rfl hb83 ((sa_49 ad ca _ _ _).trans (congrArg (wX ad ca) (Option.some.inj eg85))) d_M_split_121 ?_
            refine v_aload_n X.1 d_M_split_122 rfl 1 rfl ?_
            refine v_get X.1 (ci := 5) ⟨in_M, rfl⟩ 36 rfl 5 (by decide) (X.t tw_633 rfl) rfl d_M_split_123 ?_
            refine v_iload_n X.1 d_M_split_126 rfl 0 rfl ?_
            refine v_iload_n X.1 d_M_split_127 rfl 3 rfl ?_
            obtain ⟨hb86, hf⟩ := oi_none hf
            obtain ⟨g87, eg88, hf⟩ := ob_some hf
            refine v_iast X.1 40 0 rfl rfl hb86 ((sa_50 ad ca _ _ _).trans (congrArg (wX ad ca) (Option.some.inj eg88))) d_M_split_128 ?_
            refine v_aload_n X.1 d_M_split_129 rfl 1 rfl ?_
            refine v_get X.1 (ci := 5) ⟨in_M, rfl⟩ 36 rfl 5 (by decide) (X.t tw_633 rfl) rfl d_M_split_130 ?_
            refine v_iload_n X.1 d_M_split_133 rfl 2 rfl ?_
            refine v_dup2 X.1 d_M_split_134 rfl rfl ?_
            obtain ⟨hb89, hf⟩ := oi_none hf
            refine v_iald X.1 40 0 rfl rfl hb89 d_M_split_135 ?_
            refine v_iload_n X.1 d_M_split_136 rfl 3 rfl ?_
            refine v_isub X.1 d_M_split_137 ?_
            obtain ⟨hb90, hf⟩ := oi_none hf
            obtain ⟨g91, eg92, hf⟩ := ob_some hf
            refine v_iast X.1 40 0 rfl rfl hb90 ((sa_50 ad ca _ _ _).trans (congrArg (wX ad ca) (Option.some.inj eg92))) d_M_split_138 ?_
            refine v_aload_n X.1 d_M_split_139 rfl 1 rfl ?_
            refine v_get X.1 (ci := 5) ⟨in_M, rfl⟩ 36 rfl 6 (by decide) (X.t tw_634 rfl) rfl d_M_split_140 ?_
            refine v_iload_n X.1 d_M_split_143 rfl 2 rfl ?_
            obtain ⟨hb93, hf⟩ := oi_none hf
            refine v_iald X.1 41 0 rfl rfl hb93 d_M_split_144 ?_
            refine v_aload_n X.1 d_M_split_145 rfl 1 rfl ?_
            refine v_get X.1 (ci := 5) ⟨in_M, rfl⟩ 36 rfl 5 (by decide) (X.t tw_633 rfl) rfl d_M_split_146 ?_
            refine v_iload_n X.1 d_M_split_149 rfl 2 rfl ?_
            obtain ⟨hb94, hf⟩ := oi_none hf
            refine v_iald X.1 40 0 rfl rfl hb94 d_M_split_150 ?_
            refine v_icmp_ge X.1 (tgt := 163) d_M_split_151 (by decide) (fun c95 => ?_) (fun c95 => ?_)
            · rw [if_pos c95] at hf
              refine v_aload_n X.1 d_M_split_163 rfl 1 rfl ?_
              refine v_get X.1 (ci := 5) ⟨in_M, rfl⟩ 36 rfl 5 (by decide) (X.t tw_633 rfl) rfl d_M_split_164 ?_
              refine v_iload_n X.1 d_M_split_167 rfl 2 rfl ?_
              obtain ⟨hb96, hf⟩ := oi_none hf
              refine v_iald X.1 40 0 rfl rfl hb96 d_M_split_168 ?_
              refine v_istore X.1 (lv' := [(4, .int (g91 50 p1.toNatClampNeg)), (3, .int (g69 41 0)), (0, .ref (ad 36)), (1, .int p1), (2, .int p2)]) d_M_split_169 (by decide) rfl ?_
              refine v_aload_n X.1 d_M_split_171 rfl 2 rfl ?_
              refine v_get X.1 (ci := 5) ⟨in_M, rfl⟩ 36 rfl 6 (by decide) (X.t tw_634 rfl) rfl d_M_split_172 ?_
              refine v_iload_n X.1 d_M_split_175 rfl 1 rfl ?_
              refine v_aload_n X.1 d_M_split_176 rfl 2 rfl ?_
              refine v_get X.1 (ci := 5) ⟨in_M, rfl⟩ 36 rfl 6 (by decide) (X.t tw_634 rfl) rfl d_M_split_177 ?_
              refine v_iload_n X.1 d_M_split_180 rfl 3 rfl ?_
              obtain ⟨hb97, hf⟩ := oi_none hf
              refine v_iald X.1 41 0 rfl rfl hb97 d_M_split_181 ?_
              refine v_iload X.1 d_M_split_182 0 rfl ?_
              refine v_isub X.1 d_M_split_184 ?_
              obtain ⟨hb98, hf⟩ := oi_none hf
              obtain ⟨g99, eg100, hf⟩ := ob_some hf
              refine v_iast X.1 41 0 rfl rfl hb98 ((sa_51 ad ca _ _ _).trans (congrArg (wX ad ca) (Option.some.inj eg100))) d_M_split_185 ?_
              refine v_aload_n X.1 d_M_split_186 rfl 2 rfl ?_
              refine v_get X.1 (ci := 5) ⟨in_M, rfl⟩ 36 rfl 6 (by decide) (X.t tw_634 rfl) rfl d_M_split_187 ?_
              refine v_iload_n X.1 d_M_split_190 rfl 3 rfl ?_
              refine v_iload X.1 d_M_split_191 0 rfl ?_
              obtain ⟨hb101, hf⟩ := oi_none hf
              obtain ⟨g102, eg103, hf⟩ := ob_some hf
              refine v_iast X.1 41 0 rfl rfl hb101 ((sa_51 ad ca _ _ _).trans (congrArg (wX ad ca) (Option.some.inj eg103))) d_M_split_193 ?_
              refine v_iconst X.1 (v := (0 : Int32)) d_M_split_194 (by decide) ?_
              refine v_istore X.1 (lv' := [(5, .int ((0 : Int32))), (4, .int (g91 50 p1.toNatClampNeg)), (3, .int (g69 41 0)), (0, .ref (ad 36)), (1, .int p1), (2, .int p2)]) d_M_split_195 (by decide) rfl ?_
              obtain ⟨x104, g105, hL106, hf⟩ := ob2_some hf
              refine l_M_split_L197 l fu p1 p2 (g91 50 p1.toNatClampNeg) (g69 41 0) X hno fu _ _ _ _ hL106 ?_
              refine v_iload_n X.1 d_M_split_234 rfl 2 rfl ?_
              cases hf
              exact v_iret X.1 X.2.2.1 rfl d_M_split_235 X.2.2.2.1 (by decide) (by decide)
            · rw [if_neg c95] at hf
              refine v_aload_n X.1 d_M_split_154 rfl 1 rfl ?_
              refine v_get X.1 (ci := 5) ⟨in_M, rfl⟩ 36 rfl 6 (by decide) (X.t tw_634 rfl) rfl d_M_split_155 ?_
              refine v_iload_n X.1 d_M_split_158 rfl 2 rfl ?_
              obtain ⟨hb107, hf⟩ := oi_none hf
              refine v_iald X.1 41 0 rfl rfl hb107 d_M_split_159 ?_
              refine v_goto X.1 (tgt := 169) d_M_split_160 (by decide) ?_
              refine v_istore X.1 (lv' := [(4, .int (g91 51 p1.toNatClampNeg)), (3, .int (g69 41 0)), (0, .ref (ad 36)), (1, .int p1), (2, .int p2)]) d_M_split_169 (by decide) rfl ?_
              refine v_aload_n X.1 d_M_split_171 rfl 2 rfl ?_
              refine v_get X.1 (ci := 5) ⟨in_M, rfl⟩ 36 rfl 6 (by decide) (X.t tw_634 rfl) rfl d_M_split_172 ?_
              refine v_iload_n X.1 d_M_split_175 rfl 1 rfl ?_
              refine v_aload_n X.1 d_M_split_176 rfl 2 rfl ?_
              refine v_get X.1 (ci := 5) ⟨in_M, rfl⟩ 36 rfl 6 (by decide) (X.t tw_634 rfl) rfl d_M_split_177 ?_
              refine v_iload_n X.1 d_M_split_180 rfl 3 rfl ?_
              obtain ⟨hb108, hf⟩ := oi_none hf
              refine v_iald X.1 41 0 rfl rfl hb108 d_M_split_181 ?_
              refine v_iload X.1 d_M_split_182 0 rfl ?_
              refine v_isub X.1 d_M_split_184 ?_
              obtain ⟨hb109, hf⟩ := oi_none hf
              obtain ⟨g110, eg111, hf⟩ := ob_some hf
              refine v_iast X.1 41 0 rfl rfl hb109 ((sa_51 ad ca _ _ _).trans (congrArg (wX ad ca) (Option.some.inj eg111))) d_M_split_185 ?_
              refine v_aload_n X.1 d_M_split_186 rfl 2 rfl ?_
              refine v_get X.1 (ci := 5) ⟨in_M, rfl⟩ 36 rfl 6 (by decide) (X.t tw_634 rfl) rfl d_M_split_187 ?_
              refine v_iload_n X.1 d_M_split_190 rfl 3 rfl ?_
              refine v_iload X.1 d_M_split_191 0 rfl ?_
              obtain ⟨hb112, hf⟩ := oi_none hf
              obtain ⟨g113, eg114, hf⟩ := ob_some hf
              refine v_iast X.1 41 0 rfl rfl hb112 ((sa_51 ad ca _ _ _).trans (congrArg (wX ad ca) (Option.some.inj eg114))) d_M_split_193 ?_
              refine v_iconst X.1 (v := (0 : Int32)) d_M_split_194 (by decide) ?_
              refine v_istore X.1 (lv' := [(5, .int ((0 : Int32))), (4, .int (g91 51 p1.toNatClampNeg)), (3, .int (g69 41 0)), (0, .ref (ad 36)), (1, .int p1), (2, .int p2)]) d_M_split_195 (by decide) rfl ?_
              obtain ⟨x115, g116, hL117, hf⟩ := ob2_some hf
              refine l_M_split_L197 l fu p1 p2 (g91 51 p1.toNatClampNeg) (g69 41 0) X hno fu _ _ _ _ hL117 ?_
              refine v_iload_n X.1 d_M_split_234 rfl 2 rfl ?_
              cases hf
              exact v_iret X.1 X.2.2.1 rfl d_M_split_235 X.2.2.2.1 (by decide) (by decide)
          · rw [if_neg c71] at hf
            refine v_iconst X.1 (v := (0 : Int32)) d_M_split_69 (by decide) ?_
            cases hf
            exact v_iret X.1 X.2.2.1 rfl d_M_split_70 X.2.2.2.1 (by decide) (by decide)
      · rw [if_neg c13] at hf
        refine v_iconst X.1 (v := (3 : Int32)) d_M_split_41 (by decide) ?_
        refine v_goto X.1 (tgt := 59) d_M_split_42 (by decide) ?_
        obtain ⟨g118, eg119, hf⟩ := ob_some hf
        refine v_put X.1 (ci := 5) ⟨in_M, rfl⟩ 36 rfl 0 (by decide) ⟨ty_M_ok, nm_M⟩ (X.t tw_628 rfl) rfl (ty := .int) (by decide +kernel) rfl rfl (Nat.le_of_ble_eq_true rfl) ((sw_40 ad ca _ _).trans (congrArg (wX ad ca) (Option.some.inj eg119))) d_M_split_59 ?_
        refine v_aload_n X.1 d_M_split_62 rfl 0 rfl ?_
        refine v_get X.1 (ci := 5) ⟨in_M, rfl⟩ 36 rfl 0 (by decide) (X.t tw_628 rfl) rfl d_M_split_63 ?_
        refine v_if_le X.1 (tgt := 71) d_M_split_66 (by decide) (fun c120 => ?_) (fun c120 => ?_)
        · rw [if_pos c120] at hf
          refine v_aload_n X.1 d_M_split_71 rfl 0 rfl ?_
          refine v_get X.1 (ci := 5) ⟨in_M, rfl⟩ 36 rfl 1 (by decide) (X.t tw_629 rfl) rfl d_M_split_72 ?_
          refine v_istore_n X.1 (lv' := [(3, .int (g118 41 0)), (0, .ref (ad 36)), (1, .int p1), (2, .int p2)]) d_M_split_75 rfl (by decide) rfl ?_
          refine v_aload_n X.1 d_M_split_76 rfl 1 rfl ?_
          refine v_dup X.1 d_M_split_77 rfl ?_
          refine v_get X.1 (ci := 5) ⟨in_M, rfl⟩ 36 rfl 1 (by decide) (X.t tw_629 rfl) rfl d_M_split_78 ?_
          refine v_iconst X.1 (v := (1 : Int32)) d_M_split_81 (by decide) ?_
          refine v_iadd X.1 d_M_split_82 ?_
          obtain ⟨g121, eg122, hf⟩ := ob_some hf
          refine v_put X.1 (ci := 5) ⟨in_M, rfl⟩ 36 rfl 1 (by decide) ⟨ty_M_ok, nm_M⟩ (X.t tw_629 rfl) rfl (ty := .int) (by decide +kernel) rfl rfl (Nat.le_of_ble_eq_true rfl) ((sw_41 ad ca _ _).trans (congrArg (wX ad ca) (Option.some.inj eg122))) d_M_split_83 ?_
          refine v_aload_n X.1 d_M_split_86 rfl 1 rfl ?_
          refine v_get X.1 (ci := 5) ⟨in_M, rfl⟩ 36 rfl 2 (by decide) (X.t tw_630 rfl) rfl d_M_split_87 ?_
          refine v_iload_n X.1 d_M_split_90 rfl 0 rfl ?_
          refine v_aload_n X.1 d_M_split_91 rfl 1 rfl ?_
          refine v_get X.1 (ci := 5) ⟨in_M, rfl⟩ 36 rfl 2 (by decide) (X.t tw_630 rfl) rfl d_M_split_92 ?_
          refine v_iload_n X.1 d_M_split_95 rfl 2 rfl ?_
          obtain ⟨hb123, hf⟩ := oi_none hf
          refine v_iald X.1 37 0 rfl rfl hb123 d_M_split_96 ?_
          obtain ⟨hb124, hf⟩ := oi_none hf
          obtain ⟨g125, eg126, hf⟩ := ob_some hf
          refine v_iast X.1 37 0 rfl rfl hb124 ((sa_47 ad ca _ _ _).trans (congrArg (wX ad ca) (Option.some.inj eg126))) d_M_split_97 ?_
          refine v_aload_n X.1 d_M_split_98 rfl 1 rfl ?_
          refine v_get X.1 (ci := 5) ⟨in_M, rfl⟩ 36 rfl 3 (by decide) (X.t tw_631 rfl) rfl d_M_split_99 ?_
          refine v_iload_n X.1 d_M_split_102 rfl 0 rfl ?_
          refine v_aload_n X.1 d_M_split_103 rfl 1 rfl ?_
          refine v_get X.1 (ci := 5) ⟨in_M, rfl⟩ 36 rfl 3 (by decide) (X.t tw_631 rfl) rfl d_M_split_104 ?_
          refine v_iload_n X.1 d_M_split_107 rfl 2 rfl ?_
          obtain ⟨hb127, hf⟩ := oi_none hf
          refine v_iald X.1 38 0 rfl rfl hb127 d_M_split_108 ?_
          obtain ⟨hb128, hf⟩ := oi_none hf
          obtain ⟨g129, eg130, hf⟩ := ob_some hf
          refine v_iast X.1 38 0 rfl rfl hb128 ((sa_48 ad ca _ _ _).trans (congrArg (wX ad ca) (Option.some.inj eg130))) d_M_split_109 ?_
          refine v_aload_n X.1 d_M_split_110 rfl 1 rfl ?_
          refine v_get X.1 (ci := 5) ⟨in_M, rfl⟩ 36 rfl 4 (by decide) (X.t tw_632 rfl) rfl d_M_split_111 ?_
          refine v_iload_n X.1 d_M_split_114 rfl 0 rfl ?_
          refine v_aload_n X.1 d_M_split_115 rfl 1 rfl ?_
          refine v_get X.1 (ci := 5) ⟨in_M, rfl⟩ 36 rfl 4 (by decide) (X.t tw_632 rfl) rfl d_M_split_116 ?_
          refine v_iload_n X.1 d_M_split_119 rfl 2 rfl ?_
          obtain ⟨hb131, hf⟩ := oi_none hf
          refine v_iald X.1 39 0 rfl rfl hb131 d_M_split_120 ?_
          obtain ⟨hb132, hf⟩ := oi_none hf
          obtain ⟨g133, eg134, hf⟩ := ob_some hf
          refine v_iast X.1 39 0 rfl rfl hb132 ((sa_49 ad ca _ _ _).trans (congrArg (wX ad ca) (Option.some.inj eg134))) d_M_split_121 ?_
          refine v_aload_n X.1 d_M_split_122 rfl 1 rfl ?_
          refine v_get X.1 (ci := 5) ⟨in_M, rfl⟩ 36 rfl 5 (by decide) (X.t tw_633 rfl) rfl d_M_split_123 ?_
          refine v_iload_n X.1 d_M_split_126 rfl 0 rfl ?_
          refine v_iload_n X.1 d_M_split_127 rfl 3 rfl ?_
          obtain ⟨hb135, hf⟩ := oi_none hf
          obtain ⟨g136, eg137, hf⟩ := ob_some hf
          refine v_iast X.1 40 0 rfl rfl hb135 ((sa_50 ad ca _ _ _).trans (congrArg (wX ad ca) (Option.some.inj eg137))) d_M_split_128 ?_
          refine v_aload_n X.1 d_M_split_129 rfl 1 rfl ?_
          refine v_get X.1 (ci := 5) ⟨in_M, rfl⟩ 36 rfl 5 (by decide) (X.t tw_633 rfl) rfl d_M_split_130 ?_
          refine v_iload_n X.1 d_M_split_133 rfl 2 rfl ?_
          refine v_dup2 X.1 d_M_split_134 rfl rfl ?_
          obtain ⟨hb138, hf⟩ := oi_none hf
          refine v_iald X.1 40 0 rfl rfl hb138 d_M_split_135 ?_
          refine v_iload_n X.1 d_M_split_136 rfl 3 rfl ?_
          refine v_isub X.1 d_M_split_137 ?_
          obtain ⟨hb139, hf⟩ := oi_none hf
          obtain ⟨g140, eg141, hf⟩ := ob_some hf
          refine v_iast X.1 40 0 rfl rfl hb139 ((sa_50 ad ca _ _ _).trans (congrArg (wX ad ca) (Option.some.inj eg141))) d_M_split_138 ?_
          refine v_aload_n X.1 d_M_split_139 rfl 1 rfl ?_
          refine v_get X.1 (ci := 5) ⟨in_M, rfl⟩ 36 rfl 6 (by decide) (X.t tw_634 rfl) rfl d_M_split_140 ?_
          refine v_iload_n X.1 d_M_split_143 rfl 2 rfl ?_
          obtain ⟨hb142, hf⟩ := oi_none hf
          refine v_iald X.1 41 0 rfl rfl hb142 d_M_split_144 ?_
          refine v_aload_n X.1 d_M_split_145 rfl 1 rfl ?_
          refine v_get X.1 (ci := 5) ⟨in_M, rfl⟩ 36 rfl 5 (by decide) (X.t tw_633 rfl) rfl d_M_split_146 ?_
          refine v_iload_n X.1 d_M_split_149 rfl 2 rfl ?_
          obtain ⟨hb143, hf⟩ := oi_none hf
          refine v_iald X.1 40 0 rfl rfl hb143 d_M_split_150 ?_
          refine v_icmp_ge X.1 (tgt := 163) d_M_split_151 (by decide) (fun c144 => ?_) (fun c144 => ?_)
          · rw [if_pos c144] at hf
            refine v_aload_n X.1 d_M_split_163 rfl 1 rfl ?_
            refine v_get X.1 (ci := 5) ⟨in_M, rfl⟩ 36 rfl 5 (by decide) (X.t tw_633 rfl) rfl d_M_split_164 ?_
            refine v_iload_n X.1 d_M_split_167 rfl 2 rfl ?_
            obtain ⟨hb145, hf⟩ := oi_none hf
            refine v_iald X.1 40 0 rfl rfl hb145 d_M_split_168 ?_
            refine v_istore X.1 (lv' := [(4, .int (g140 50 p1.toNatClampNeg)), (3, .int (g118 41 0)), (0, .ref (ad 36)), (1, .int p1), (2, .int p2)]) d_M_split_169 (by decide) rfl ?_
            refine v_aload_n X.1 d_M_split_171 rfl 2 rfl ?_
            refine v_get X.1 (ci := 5) ⟨in_M, rfl⟩ 36 rfl 6 (by decide) (X.t tw_634 rfl) rfl d_M_split_172 ?_
            refine v_iload_n X.1 d_M_split_175 rfl 1 rfl ?_
            refine v_aload_n X.1 d_M_split_176 rfl 2 rfl ?_
            refine v_get X.1 (ci := 5) ⟨in_M, rfl⟩ 36 rfl 6 (by decide) (X.t tw_634 rfl) rfl d_M_split_177 ?_
            refine v_iload_n X.1 d_M_split_180 rfl 3 rfl ?_
            obtain ⟨hb146, hf⟩ := oi_none hf
            refine v_iald X.1 41 0 rfl rfl hb146 d_M_split_181 ?_
            refine v_iload X.1 d_M_split_182 0 rfl ?_
            refine v_isub X.1 d_M_split_184 ?_
            obtain ⟨hb147, hf⟩ := oi_none hf
            obtain ⟨g148, eg149, hf⟩ := ob_some hf
            refine v_iast X.1 41 0 rfl rfl hb147 ((sa_51 ad ca _ _ _).trans (congrArg (wX ad ca) (Option.some.inj eg149))) d_M_split_185 ?_
            refine v_aload_n X.1 d_M_split_186 rfl 2 rfl ?_
            refine v_get X.1 (ci := 5) ⟨in_M, rfl⟩ 36 rfl 6 (by decide) (X.t tw_634 rfl) rfl d_M_split_187 ?_
            refine v_iload_n X.1 d_M_split_190 rfl 3 rfl ?_
            refine v_iload X.1 d_M_split_191 0 rfl ?_
            obtain ⟨hb150, hf⟩ := oi_none hf
            obtain ⟨g151, eg152, hf⟩ := ob_some hf
            refine v_iast X.1 41 0 rfl rfl hb150 ((sa_51 ad ca _ _ _).trans (congrArg (wX ad ca) (Option.some.inj eg152))) d_M_split_193 ?_
            refine v_iconst X.1 (v := (0 : Int32)) d_M_split_194 (by decide) ?_
            refine v_istore X.1 (lv' := [(5, .int ((0 : Int32))), (4, .int (g140 50 p1.toNatClampNeg)), (3, .int (g118 41 0)), (0, .ref (ad 36)), (1, .int p1), (2, .int p2)]) d_M_split_195 (by decide) rfl ?_
            obtain ⟨x153, g154, hL155, hf⟩ := ob2_some hf
            refine l_M_split_L197 l fu p1 p2 (g140 50 p1.toNatClampNeg) (g118 41 0) X hno fu _ _ _ _ hL155 ?_
            refine v_iload_n X.1 d_M_split_234 rfl 2 rfl ?_
            cases hf
            exact v_iret X.1 X.2.2.1 rfl d_M_split_235 X.2.2.2.1 (by decide) (by decide)
          · rw [if_neg c144] at hf
            refine v_aload_n X.1 d_M_split_154 rfl 1 rfl ?_
            refine v_get X.1 (ci := 5) ⟨in_M, rfl⟩ 36 rfl 6 (by decide) (X.t tw_634 rfl) rfl d_M_split_155 ?_
            refine v_iload_n X.1 d_M_split_158 rfl 2 rfl ?_
            obtain ⟨hb156, hf⟩ := oi_none hf
            refine v_iald X.1 41 0 rfl rfl hb156 d_M_split_159 ?_
            refine v_goto X.1 (tgt := 169) d_M_split_160 (by decide) ?_
            refine v_istore X.1 (lv' := [(4, .int (g140 51 p1.toNatClampNeg)), (3, .int (g118 41 0)), (0, .ref (ad 36)), (1, .int p1), (2, .int p2)]) d_M_split_169 (by decide) rfl ?_
            refine v_aload_n X.1 d_M_split_171 rfl 2 rfl ?_
            refine v_get X.1 (ci := 5) ⟨in_M, rfl⟩ 36 rfl 6 (by decide) (X.t tw_634 rfl) rfl d_M_split_172 ?_
            refine v_iload_n X.1 d_M_split_175 rfl 1 rfl ?_
            refine v_aload_n X.1 d_M_split_176 rfl 2 rfl ?_
            refine v_get X.1 (ci := 5) ⟨in_M, rfl⟩ 36 rfl 6 (by decide) (X.t tw_634 rfl) rfl d_M_split_177 ?_
            refine v_iload_n X.1 d_M_split_180 rfl 3 rfl ?_
            obtain ⟨hb157, hf⟩ := oi_none hf
            refine v_iald X.1 41 0 rfl rfl hb157 d_M_split_181 ?_
            refine v_iload X.1 d_M_split_182 0 rfl ?_
            refine v_isub X.1 d_M_split_184 ?_
            obtain ⟨hb158, hf⟩ := oi_none hf
            obtain ⟨g159, eg160, hf⟩ := ob_some hf
            refine v_iast X.1 41 0 rfl rfl hb158 ((sa_51 ad ca _ _ _).trans (congrArg (wX ad ca) (Option.some.inj eg160))) d_M_split_185 ?_
            refine v_aload_n X.1 d_M_split_186 rfl 2 rfl ?_
            refine v_get X.1 (ci := 5) ⟨in_M, rfl⟩ 36 rfl 6 (by decide) (X.t tw_634 rfl) rfl d_M_split_187 ?_
            refine v_iload_n X.1 d_M_split_190 rfl 3 rfl ?_
            refine v_iload X.1 d_M_split_191 0 rfl ?_
            obtain ⟨hb161, hf⟩ := oi_none hf
            obtain ⟨g162, eg163, hf⟩ := ob_some hf
            refine v_iast X.1 41 0 rfl rfl hb161 ((sa_51 ad ca _ _ _).trans (congrArg (wX ad ca) (Option.some.inj eg163))) d_M_split_193 ?_
            refine v_iconst X.1 (v := (0 : Int32)) d_M_split_194 (by decide) ?_
            refine v_istore X.1 (lv' := [(5, .int ((0 : Int32))), (4, .int (g140 51 p1.toNatClampNeg)), (3, .int (g118 41 0)), (0, .ref (ad 36)), (1, .int p1), (2, .int p2)]) d_M_split_195 (by decide) rfl ?_
            obtain ⟨x164, g165, hL166, hf⟩ := ob2_some hf
            refine l_M_split_L197 l fu p1 p2 (g140 51 p1.toNatClampNeg) (g118 41 0) X hno fu _ _ _ _ hL166 ?_
            refine v_iload_n X.1 d_M_split_234 rfl 2 rfl ?_
            cases hf
            exact v_iret X.1 X.2.2.1 rfl d_M_split_235 X.2.2.2.1 (by decide) (by decide)
        · rw [if_neg c120] at hf
          refine v_iconst X.1 (v := (0 : Int32)) d_M_split_69 (by decide) ?_
          cases hf
          exact v_iret X.1 X.2.2.1 rfl d_M_split_70 X.2.2.2.1 (by decide) (by decide)
    · rw [if_pos c9] at hf
      refine v_iconst X.1 (v := (2 : Int32)) d_M_split_29 (by decide) ?_
      refine v_goto X.1 (tgt := 59) d_M_split_30 (by decide) ?_
      obtain ⟨g167, eg168, hf⟩ := ob_some hf
      refine v_put X.1 (ci := 5) ⟨in_M, rfl⟩ 36 rfl 0 (by decide) ⟨ty_M_ok, nm_M⟩ (X.t tw_628 rfl) rfl (ty := .int) (by decide +kernel) rfl rfl (Nat.le_of_ble_eq_true rfl) ((sw_40 ad ca _ _).trans (congrArg (wX ad ca) (Option.some.inj eg168))) d_M_split_59 ?_
      refine v_aload_n X.1 d_M_split_62 rfl 0 rfl ?_
      refine v_get X.1 (ci := 5) ⟨in_M, rfl⟩ 36 rfl 0 (by decide) (X.t tw_628 rfl) rfl d_M_split_63 ?_
      refine v_if_le X.1 (tgt := 71) d_M_split_66 (by decide) (fun c169 => ?_) (fun c169 => ?_)
      · rw [if_pos c169] at hf
        refine v_aload_n X.1 d_M_split_71 rfl 0 rfl ?_
        refine v_get X.1 (ci := 5) ⟨in_M, rfl⟩ 36 rfl 1 (by decide) (X.t tw_629 rfl) rfl d_M_split_72 ?_
        refine v_istore_n X.1 (lv' := [(3, .int (g167 41 0)), (0, .ref (ad 36)), (1, .int p1), (2, .int p2)]) d_M_split_75 rfl (by decide) rfl ?_
        refine v_aload_n X.1 d_M_split_76 rfl 1 rfl ?_
        refine v_dup X.1 d_M_split_77 rfl ?_
        refine v_get X.1 (ci := 5) ⟨in_M, rfl⟩ 36 rfl 1 (by decide) (X.t tw_629 rfl) rfl d_M_split_78 ?_
        refine v_iconst X.1 (v := (1 : Int32)) d_M_split_81 (by decide) ?_
        refine v_iadd X.1 d_M_split_82 ?_
        obtain ⟨g170, eg171, hf⟩ := ob_some hf
        refine v_put X.1 (ci := 5) ⟨in_M, rfl⟩ 36 rfl 1 (by decide) ⟨ty_M_ok, nm_M⟩ (X.t tw_629 rfl) rfl (ty := .int) (by decide +kernel) rfl rfl (Nat.le_of_ble_eq_true rfl) ((sw_41 ad ca _ _).trans (congrArg (wX ad ca) (Option.some.inj eg171))) d_M_split_83 ?_
        refine v_aload_n X.1 d_M_split_86 rfl 1 rfl ?_
        refine v_get X.1 (ci := 5) ⟨in_M, rfl⟩ 36 rfl 2 (by decide) (X.t tw_630 rfl) rfl d_M_split_87 ?_
        refine v_iload_n X.1 d_M_split_90 rfl 0 rfl ?_
        refine v_aload_n X.1 d_M_split_91 rfl 1 rfl ?_
        refine v_get X.1 (ci := 5) ⟨in_M, rfl⟩ 36 rfl 2 (by decide) (X.t tw_630 rfl) rfl d_M_split_92 ?_
        refine v_iload_n X.1 d_M_split_95 rfl 2 rfl ?_
        obtain ⟨hb172, hf⟩ := oi_none hf
        refine v_iald X.1 37 0 rfl rfl hb172 d_M_split_96 ?_
        obtain ⟨hb173, hf⟩ := oi_none hf
        obtain ⟨g174, eg175, hf⟩ := ob_some hf
        refine v_iast X.1 37 0 rfl rfl hb173 ((sa_47 ad ca _ _ _).trans (congrArg (wX ad ca) (Option.some.inj eg175))) d_M_split_97 ?_
        refine v_aload_n X.1 d_M_split_98 rfl 1 rfl ?_
        refine v_get X.1 (ci := 5) ⟨in_M, rfl⟩ 36 rfl 3 (by decide) (X.t tw_631 rfl) rfl d_M_split_99 ?_
        refine v_iload_n X.1 d_M_split_102 rfl 0 rfl ?_
        refine v_aload_n X.1 d_M_split_103 rfl 1 rfl ?_
        refine v_get X.1 (ci := 5) ⟨in_M, rfl⟩ 36 rfl 3 (by decide) (X.t tw_631 rfl) rfl d_M_split_104 ?_
        refine v_iload_n X.1 d_M_split_107 rfl 2 rfl ?_
        obtain ⟨hb176, hf⟩ := oi_none hf
        refine v_iald X.1 38 0 rfl rfl hb176 d_M_split_108 ?_
        obtain ⟨hb177, hf⟩ := oi_none hf
        obtain ⟨g178, eg179, hf⟩ := ob_some hf
        refine v_iast X.1 38 0 rfl rfl hb177 ((sa_48 ad ca _ _ _).trans (congrArg (wX ad ca) (Option.some.inj eg179))) d_M_split_109 ?_
        refine v_aload_n X.1 d_M_split_110 rfl 1 rfl ?_
        refine v_get X.1 (ci := 5) ⟨in_M, rfl⟩ 36 rfl 4 (by decide) (X.t tw_632 rfl) rfl d_M_split_111 ?_
        refine v_iload_n X.1 d_M_split_114 rfl 0 rfl ?_
        refine v_aload_n X.1 d_M_split_115 rfl 1 rfl ?_
        refine v_get X.1 (ci := 5) ⟨in_M, rfl⟩ 36 rfl 4 (by decide) (X.t tw_632 rfl) rfl d_M_split_116 ?_
        refine v_iload_n X.1 d_M_split_119 rfl 2 rfl ?_
        obtain ⟨hb180, hf⟩ := oi_none hf
        refine v_iald X.1 39 0 rfl rfl hb180 d_M_split_120 ?_
        obtain ⟨hb181, hf⟩ := oi_none hf
        obtain ⟨g182, eg183, hf⟩ := ob_some hf
        refine v_iast X.1 39 0 rfl rfl hb181 ((sa_49 ad ca _ _ _).trans (congrArg (wX ad ca) (Option.some.inj eg183))) d_M_split_121 ?_
        refine v_aload_n X.1 d_M_split_122 rfl 1 rfl ?_
        refine v_get X.1 (ci := 5) ⟨in_M, rfl⟩ 36 rfl 5 (by decide) (X.t tw_633 rfl) rfl d_M_split_123 ?_
        refine v_iload_n X.1 d_M_split_126 rfl 0 rfl ?_
        refine v_iload_n X.1 d_M_split_127 rfl 3 rfl ?_
        obtain ⟨hb184, hf⟩ := oi_none hf
        obtain ⟨g185, eg186, hf⟩ := ob_some hf
        refine v_iast X.1 40 0 rfl rfl hb184 ((sa_50 ad ca _ _ _).trans (congrArg (wX ad ca) (Option.some.inj eg186))) d_M_split_128 ?_
        refine v_aload_n X.1 d_M_split_129 rfl 1 rfl ?_
        refine v_get X.1 (ci := 5) ⟨in_M, rfl⟩ 36 rfl 5 (by decide) (X.t tw_633 rfl) rfl d_M_split_130 ?_
        refine v_iload_n X.1 d_M_split_133 rfl 2 rfl ?_
        refine v_dup2 X.1 d_M_split_134 rfl rfl ?_
        obtain ⟨hb187, hf⟩ := oi_none hf
        refine v_iald X.1 40 0 rfl rfl hb187 d_M_split_135 ?_
        refine v_iload_n X.1 d_M_split_136 rfl 3 rfl ?_
        refine v_isub X.1 d_M_split_137 ?_
        obtain ⟨hb188, hf⟩ := oi_none hf
        obtain ⟨g189, eg190, hf⟩ := ob_some hf
        refine v_iast X.1 40 0 rfl rfl hb188 ((sa_50 ad ca _ _ _).trans (congrArg (wX ad ca) (Option.some.inj eg190))) d_M_split_138 ?_
        refine v_aload_n X.1 d_M_split_139 rfl 1 rfl ?_
        refine v_get X.1 (ci := 5) ⟨in_M, rfl⟩ 36 rfl 6 (by decide) (X.t tw_634 rfl) rfl d_M_split_140 ?_
        refine v_iload_n X.1 d_M_split_143 rfl 2 rfl ?_
        obtain ⟨hb191, hf⟩ := oi_none hf
        refine v_iald X.1 41 0 rfl rfl hb191 d_M_split_144 ?_
        refine v_aload_n X.1 d_M_split_145 rfl 1 rfl ?_
        refine v_get X.1 (ci := 5) ⟨in_M, rfl⟩ 36 rfl 5 (by decide) (X.t tw_633 rfl) rfl d_M_split_146 ?_
        refine v_iload_n X.1 d_M_split_149 rfl 2 rfl ?_
        obtain ⟨hb192, hf⟩ := oi_none hf
        refine v_iald X.1 40 0 rfl rfl hb192 d_M_split_150 ?_
        refine v_icmp_ge X.1 (tgt := 163) d_M_split_151 (by decide) (fun c193 => ?_) (fun c193 => ?_)
        · rw [if_pos c193] at hf
          refine v_aload_n X.1 d_M_split_163 rfl 1 rfl ?_
          refine v_get X.1 (ci := 5) ⟨in_M, rfl⟩ 36 rfl 5 (by decide) (X.t tw_633 rfl) rfl d_M_split_164 ?_
          refine v_iload_n X.1 d_M_split_167 rfl 2 rfl ?_
          obtain ⟨hb194, hf⟩ := oi_none hf
          refine v_iald X.1 40 0 rfl rfl hb194 d_M_split_168 ?_
          refine v_istore X.1 (lv' := [(4, .int (g189 50 p1.toNatClampNeg)), (3, .int (g167 41 0)), (0, .ref (ad 36)), (1, .int p1), (2, .int p2)]) d_M_split_169 (by decide) rfl ?_
          refine v_aload_n X.1 d_M_split_171 rfl 2 rfl ?_
          refine v_get X.1 (ci := 5) ⟨in_M, rfl⟩ 36 rfl 6 (by decide) (X.t tw_634 rfl) rfl d_M_split_172 ?_
          refine v_iload_n X.1 d_M_split_175 rfl 1 rfl ?_
          refine v_aload_n X.1 d_M_split_176 rfl 2 rfl ?_
          refine v_get X.1 (ci := 5) ⟨in_M, rfl⟩ 36 rfl 6 (by decide) (X.t tw_634 rfl) rfl d_M_split_177 ?_
          refine v_iload_n X.1 d_M_split_180 rfl 3 rfl ?_
          obtain ⟨hb195, hf⟩ := oi_none hf
          refine v_iald X.1 41 0 rfl rfl hb195 d_M_split_181 ?_
          refine v_iload X.1 d_M_split_182 0 rfl ?_
          refine v_isub X.1 d_M_split_184 ?_
          obtain ⟨hb196, hf⟩ := oi_none hf
          obtain ⟨g197, eg198, hf⟩ := ob_some hf
          refine v_iast X.1 41 0 rfl rfl hb196 ((sa_51 ad ca _ _ _).trans (congrArg (wX ad ca) (Option.some.inj eg198))) d_M_split_185 ?_
          refine v_aload_n X.1 d_M_split_186 rfl 2 rfl ?_
          refine v_get X.1 (ci := 5) ⟨in_M, rfl⟩ 36 rfl 6 (by decide) (X.t tw_634 rfl) rfl d_M_split_187 ?_
          refine v_iload_n X.1 d_M_split_190 rfl 3 rfl ?_
          refine v_iload X.1 d_M_split_191 0 rfl ?_
          obtain ⟨hb199, hf⟩ := oi_none hf
          obtain ⟨g200, eg201, hf⟩ := ob_some hf
          refine v_iast X.1 41 0 rfl rfl hb199 ((sa_51 ad ca _ _ _).trans (congrArg (wX ad ca) (Option.some.inj eg201))) d_M_split_193 ?_
          refine v_iconst X.1 (v := (0 : Int32)) d_M_split_194 (by decide) ?_
          refine v_istore X.1 (lv' := [(5, .int ((0 : Int32))), (4, .int (g189 50 p1.toNatClampNeg)), (3, .int (g167 41 0)), (0, .ref (ad 36)), (1, .int p1), (2, .int p2)]) d_M_split_195 (by decide) rfl ?_
          obtain ⟨x202, g203, hL204, hf⟩ := ob2_some hf
          refine l_M_split_L197 l fu p1 p2 (g189 50 p1.toNatClampNeg) (g167 41 0) X hno fu _ _ _ _ hL204 ?_
          refine v_iload_n X.1 d_M_split_234 rfl 2 rfl ?_
          cases hf
          exact v_iret X.1 X.2.2.1 rfl d_M_split_235 X.2.2.2.1 (by decide) (by decide)
        · rw [if_neg c193] at hf
          refine v_aload_n X.1 d_M_split_154 rfl 1 rfl ?_
          refine v_get X.1 (ci := 5) ⟨in_M, rfl⟩ 36 rfl 6 (by decide) (X.t tw_634 rfl) rfl d_M_split_155 ?_
          refine v_iload_n X.1 d_M_split_158 rfl 2 rfl ?_
          obtain ⟨hb205, hf⟩ := oi_none hf
          refine v_iald X.1 41 0 rfl rfl hb205 d_M_split_159 ?_
          refine v_goto X.1 (tgt := 169) d_M_split_160 (by decide) ?_
          refine v_istore X.1 (lv' := [(4, .int (g189 51 p1.toNatClampNeg)), (3, .int (g167 41 0)), (0, .ref (ad 36)), (1, .int p1), (2, .int p2)]) d_M_split_169 (by decide) rfl ?_
          refine v_aload_n X.1 d_M_split_171 rfl 2 rfl ?_
          refine v_get X.1 (ci := 5) ⟨in_M, rfl⟩ 36 rfl 6 (by decide) (X.t tw_634 rfl) rfl d_M_split_172 ?_
          refine v_iload_n X.1 d_M_split_175 rfl 1 rfl ?_
          refine v_aload_n X.1 d_M_split_176 rfl 2 rfl ?_
          refine v_get X.1 (ci := 5) ⟨in_M, rfl⟩ 36 rfl 6 (by decide) (X.t tw_634 rfl) rfl d_M_split_177 ?_
          refine v_iload_n X.1 d_M_split_180 rfl 3 rfl ?_
          obtain ⟨hb206, hf⟩ := oi_none hf
          refine v_iald X.1 41 0 rfl rfl hb206 d_M_split_181 ?_
          refine v_iload X.1 d_M_split_182 0 rfl ?_
          refine v_isub X.1 d_M_split_184 ?_
          obtain ⟨hb207, hf⟩ := oi_none hf
          obtain ⟨g208, eg209, hf⟩ := ob_some hf
          refine v_iast X.1 41 0 rfl rfl hb207 ((sa_51 ad ca _ _ _).trans (congrArg (wX ad ca) (Option.some.inj eg209))) d_M_split_185 ?_
          refine v_aload_n X.1 d_M_split_186 rfl 2 rfl ?_
          refine v_get X.1 (ci := 5) ⟨in_M, rfl⟩ 36 rfl 6 (by decide) (X.t tw_634 rfl) rfl d_M_split_187 ?_
          refine v_iload_n X.1 d_M_split_190 rfl 3 rfl ?_
          refine v_iload X.1 d_M_split_191 0 rfl ?_
          obtain ⟨hb210, hf⟩ := oi_none hf
          obtain ⟨g211, eg212, hf⟩ := ob_some hf
          refine v_iast X.1 41 0 rfl rfl hb210 ((sa_51 ad ca _ _ _).trans (congrArg (wX ad ca) (Option.some.inj eg212))) d_M_split_193 ?_
          refine v_iconst X.1 (v := (0 : Int32)) d_M_split_194 (by decide) ?_
          refine v_istore X.1 (lv' := [(5, .int ((0 : Int32))), (4, .int (g189 51 p1.toNatClampNeg)), (3, .int (g167 41 0)), (0, .ref (ad 36)), (1, .int p1), (2, .int p2)]) d_M_split_195 (by decide) rfl ?_
          obtain ⟨x213, g214, hL215, hf⟩ := ob2_some hf
          refine l_M_split_L197 l fu p1 p2 (g189 51 p1.toNatClampNeg) (g167 41 0) X hno fu _ _ _ _ hL215 ?_
          refine v_iload_n X.1 d_M_split_234 rfl 2 rfl ?_
          cases hf
          exact v_iret X.1 X.2.2.1 rfl d_M_split_235 X.2.2.2.1 (by decide) (by decide)
      · rw [if_neg c169] at hf
        refine v_iconst X.1 (v := (0 : Int32)) d_M_split_69 (by decide) ?_
        cases hf
        exact v_iret X.1 X.2.2.1 rfl d_M_split_70 X.2.2.2.1 (by decide) (by decide)
  · rw [if_pos c4] at hf
    refine v_iconst X.1 (v := (1 : Int32)) d_M_split_9 (by decide) ?_
    refine v_goto X.1 (tgt := 59) d_M_split_10 (by decide) ?_
    obtain ⟨g216, eg217, hf⟩ := ob_some hf
    refine v_put X.1 (ci := 5) ⟨in_M, rfl⟩ 36 rfl 0 (by decide) ⟨ty_M_ok, nm_M⟩ (X.t tw_628 rfl) rfl (ty := .int) (by decide +kernel) rfl rfl (Nat.le_of_ble_eq_true rfl) ((sw_40 ad ca _ _).trans (congrArg (wX ad ca) (Option.some.inj eg217))) d_M_split_59 ?_
    refine v_aload_n X.1 d_M_split_62 rfl 0 rfl ?_
    refine v_get X.1 (ci := 5) ⟨in_M, rfl⟩ 36 rfl 0 (by decide) (X.t tw_628 rfl) rfl d_M_split_63 ?_
    refine v_if_le X.1 (tgt := 71) d_M_split_66 (by decide) (fun c218 => ?_) (fun c218 => ?_)
    · rw [if_pos c218] at hf
      refine v_aload_n X.1 d_M_split_71 rfl 0 rfl ?_
      refine v_get X.1 (ci := 5) ⟨in_M, rfl⟩ 36 rfl 1 (by decide) (X.t tw_629 rfl) rfl d_M_split_72 ?_
      refine v_istore_n X.1 (lv' := [(3, .int (g216 41 0)), (0, .ref (ad 36)), (1, .int p1), (2, .int p2)]) d_M_split_75 rfl (by decide) rfl ?_
      refine v_aload_n X.1 d_M_split_76 rfl 1 rfl ?_
      refine v_dup X.1 d_M_split_77 rfl ?_
      refine v_get X.1 (ci := 5) ⟨in_M, rfl⟩ 36 rfl 1 (by decide) (X.t tw_629 rfl) rfl d_M_split_78 ?_
      refine v_iconst X.1 (v := (1 : Int32)) d_M_split_81 (by decide) ?_
      refine v_iadd X.1 d_M_split_82 ?_
      obtain ⟨g219, eg220, hf⟩ := ob_some hf
      refine v_put X.1 (ci := 5) ⟨in_M, rfl⟩ 36 rfl 1 (by decide) ⟨ty_M_ok, nm_M⟩ (X.t tw_629 rfl) rfl (ty := .int) (by decide +kernel) rfl rfl (Nat.le_of_ble_eq_true rfl) ((sw_41 ad ca _ _).trans (congrArg (wX ad ca) (Option.some.inj eg220))) d_M_split_83 ?_
      refine v_aload_n X.1 d_M_split_86 rfl 1 rfl ?_
      refine v_get X.1 (ci := 5) ⟨in_M, rfl⟩ 36 rfl 2 (by decide) (X.t tw_630 rfl) rfl d_M_split_87 ?_
      refine v_iload_n X.1 d_M_split_90 rfl 0 rfl ?_
      refine v_aload_n X.1 d_M_split_91 rfl 1 rfl ?_
      refine v_get X.1 (ci := 5) ⟨in_M, rfl⟩ 36 rfl 2 (by decide) (X.t tw_630 rfl) rfl d_M_split_92 ?_
      refine v_iload_n X.1 d_M_split_95 rfl 2 rfl ?_
      obtain ⟨hb221, hf⟩ := oi_none hf
      refine v_iald X.1 37 0 rfl rfl hb221 d_M_split_96 ?_
      obtain ⟨hb222, hf⟩ := oi_none hf
      obtain ⟨g223, eg224, hf⟩ := ob_some hf
      refine v_iast X.1 37 0 rfl rfl hb222 ((sa_47 ad ca _ _ _).trans (congrArg (wX ad ca) (Option.some.inj eg224))) d_M_split_97 ?_
      refine v_aload_n X.1 d_M_split_98 rfl 1 rfl ?_
      refine v_get X.1 (ci := 5) ⟨in_M, rfl⟩ 36 rfl 3 (by decide) (X.t tw_631 rfl) rfl d_M_split_99 ?_
      refine v_iload_n X.1 d_M_split_102 rfl 0 rfl ?_
      refine v_aload_n X.1 d_M_split_103 rfl 1 rfl ?_
      refine v_get X.1 (ci := 5) ⟨in_M, rfl⟩ 36 rfl 3 (by decide) (X.t tw_631 rfl) rfl d_M_split_104 ?_
      refine v_iload_n X.1 d_M_split_107 rfl 2 rfl ?_
      obtain ⟨hb225, hf⟩ := oi_none hf
      refine v_iald X.1 38 0 rfl rfl hb225 d_M_split_108 ?_
      obtain ⟨hb226, hf⟩ := oi_none hf
      obtain ⟨g227, eg228, hf⟩ := ob_some hf
      refine v_iast X.1 38 0 rfl rfl hb226 ((sa_48 ad ca _ _ _).trans (congrArg (wX ad ca) (Option.some.inj eg228))) d_M_split_109 ?_
      refine v_aload_n X.1 d_M_split_110 rfl 1 rfl ?_
      refine v_get X.1 (ci := 5) ⟨in_M, rfl⟩ 36 rfl 4 (by decide) (X.t tw_632 rfl) rfl d_M_split_111 ?_
      refine v_iload_n X.1 d_M_split_114 rfl 0 rfl ?_
      refine v_aload_n X.1 d_M_split_115 rfl 1 rfl ?_
      refine v_get X.1 (ci := 5) ⟨in_M, rfl⟩ 36 rfl 4 (by decide) (X.t tw_632 rfl) rfl d_M_split_116 ?_
      refine v_iload_n X.1 d_M_split_119 rfl 2 rfl ?_
      obtain ⟨hb229, hf⟩ := oi_none hf
      refine v_iald X.1 39 0 rfl rfl hb229 d_M_split_120 ?_
      obtain ⟨hb230, hf⟩ := oi_none hf
      obtain ⟨g231, eg232, hf⟩ := ob_some hf
      refine v_iast X.1 39 0 rfl rfl hb230 ((sa_49 ad ca _ _ _).trans (congrArg (wX ad ca) (Option.some.inj eg232))) d_M_split_121 ?_
      refine v_aload_n X.1 d_M_split_122 rfl 1 rfl ?_
      refine v_get X.1 (ci := 5) ⟨in_M, rfl⟩ 36 rfl 5 (by decide) (X.t tw_633 rfl) rfl d_M_split_123 ?_
      refine v_iload_n X.1 d_M_split_126 rfl 0 rfl ?_
      refine v_iload_n X.1 d_M_split_127 rfl 3 rfl ?_
      obtain ⟨hb233, hf⟩ := oi_none hf
      obtain ⟨g234, eg235, hf⟩ := ob_some hf
      refine v_iast X.1 40 0 rfl rfl hb233 ((sa_50 ad ca _ _ _).trans (congrArg (wX ad ca) (Option.some.inj eg235))) d_M_split_128 ?_
      refine v_aload_n X.1 d_M_split_129 rfl 1 rfl ?_
      refine v_get X.1 (ci := 5) ⟨in_M, rfl⟩ 36 rfl 5 (by decide) (X.t tw_633 rfl) rfl d_M_split_130 ?_
      refine v_iload_n X.1 d_M_split_133 rfl 2 rfl ?_
      refine v_dup2 X.1 d_M_split_134 rfl rfl ?_
      obtain ⟨hb236, hf⟩ := oi_none hf
      refine v_iald X.1 40 0 rfl rfl hb236 d_M_split_135 ?_
      refine v_iload_n X.1 d_M_split_136 rfl 3 rfl ?_
      refine v_isub X.1 d_M_split_137 ?_
      obtain ⟨hb237, hf⟩ := oi_none hf
      obtain ⟨g238, eg239, hf⟩ := ob_some hf
      refine v_iast X.1 40 0 rfl rfl hb237 ((sa_50 ad ca _ _ _).trans (congrArg (wX ad ca) (Option.some.inj eg239))) d_M_split_138 ?_
      refine v_aload_n X.1 d_M_split_139 rfl 1 rfl ?_
      refine v_get X.1 (ci := 5) ⟨in_M, rfl⟩ 36 rfl 6 (by decide) (X.t tw_634 rfl) rfl d_M_split_140 ?_
      refine v_iload_n X.1 d_M_split_143 rfl 2 rfl ?_
      obtain ⟨hb240, hf⟩ := oi_none hf
      refine v_iald X.1 41 0 rfl rfl hb240 d_M_split_144 ?_
      refine v_aload_n X.1 d_M_split_145 rfl 1 rfl ?_
      refine v_get X.1 (ci := 5) ⟨in_M, rfl⟩ 36 rfl 5 (by decide) (X.t tw_633 rfl) rfl d_M_split_146 ?_
      refine v_iload_n X.1 d_M_split_149 rfl 2 rfl ?_
      obtain ⟨hb241, hf⟩ := oi_none hf
      refine v_iald X.1 40 0 rfl rfl hb241 d_M_split_150 ?_
      refine v_icmp_ge X.1 (tgt := 163) d_M_split_151 (by decide) (fun c242 => ?_) (fun c242 => ?_)
      · rw [if_pos c242] at hf
        refine v_aload_n X.1 d_M_split_163 rfl 1 rfl ?_
        refine v_get X.1 (ci := 5) ⟨in_M, rfl⟩ 36 rfl 5 (by decide) (X.t tw_633 rfl) rfl d_M_split_164 ?_
        refine v_iload_n X.1 d_M_split_167 rfl 2 rfl ?_
        obtain ⟨hb243, hf⟩ := oi_none hf
        refine v_iald X.1 40 0 rfl rfl hb243 d_M_split_168 ?_
        refine v_istore X.1 (lv' := [(4, .int (g238 50 p1.toNatClampNeg)), (3, .int (g216 41 0)), (0, .ref (ad 36)), (1, .int p1), (2, .int p2)]) d_M_split_169 (by decide) rfl ?_
        refine v_aload_n X.1 d_M_split_171 rfl 2 rfl ?_
        refine v_get X.1 (ci := 5) ⟨in_M, rfl⟩ 36 rfl 6 (by decide) (X.t tw_634 rfl) rfl d_M_split_172 ?_
        refine v_iload_n X.1 d_M_split_175 rfl 1 rfl ?_
        refine v_aload_n X.1 d_M_split_176 rfl 2 rfl ?_
        refine v_get X.1 (ci := 5) ⟨in_M, rfl⟩ 36 rfl 6 (by decide) (X.t tw_634 rfl) rfl d_M_split_177 ?_
        refine v_iload_n X.1 d_M_split_180 rfl 3 rfl ?_
        obtain ⟨hb244, hf⟩ := oi_none hf
        refine v_iald X.1 41 0 rfl rfl hb244 d_M_split_181 ?_
        refine v_iload X.1 d_M_split_182 0 rfl ?_
        refine v_isub X.1 d_M_split_184 ?_
        obtain ⟨hb245, hf⟩ := oi_none hf
        obtain ⟨g246, eg247, hf⟩ := ob_some hf
        refine v_iast X.1 41 0 rfl rfl hb245 ((sa_51 ad ca _ _ _).trans (congrArg (wX ad ca) (Option.some.inj eg247))) d_M_split_185 ?_
        refine v_aload_n X.1 d_M_split_186 rfl 2 rfl ?_
        refine v_get X.1 (ci := 5) ⟨in_M, rfl⟩ 36 rfl 6 (by decide) (X.t tw_634 rfl) rfl d_M_split_187 ?_
        refine v_iload_n X.1 d_M_split_190 rfl 3 rfl ?_
        refine v_iload X.1 d_M_split_191 0 rfl ?_
        obtain ⟨hb248, hf⟩ := oi_none hf
        obtain ⟨g249, eg250, hf⟩ := ob_some hf
        refine v_iast X.1 41 0 rfl rfl hb248 ((sa_51 ad ca _ _ _).trans (congrArg (wX ad ca) (Option.some.inj eg250))) d_M_split_193 ?_
        refine v_iconst X.1 (v := (0 : Int32)) d_M_split_194 (by decide) ?_
        refine v_istore X.1 (lv' := [(5, .int ((0 : Int32))), (4, .int (g238 50 p1.toNatClampNeg)), (3, .int (g216 41 0)), (0, .ref (ad 36)), (1, .int p1), (2, .int p2)]) d_M_split_195 (by decide) rfl ?_
        obtain ⟨x251, g252, hL253, hf⟩ := ob2_some hf
        refine l_M_split_L197 l fu p1 p2 (g238 50 p1.toNatClampNeg) (g216 41 0) X hno fu _ _ _ _ hL253 ?_
        refine v_iload_n X.1 d_M_split_234 rfl 2 rfl ?_
        cases hf
        exact v_iret X.1 X.2.2.1 rfl d_M_split_235 X.2.2.2.1 (by decide) (by decide)
      · rw [if_neg c242] at hf
        refine v_aload_n X.1 d_M_split_154 rfl 1 rfl ?_
        refine v_get X.1 (ci := 5) ⟨in_M, rfl⟩ 36 rfl 6 (by decide) (X.t tw_634 rfl) rfl d_M_split_155 ?_
        refine v_iload_n X.1 d_M_split_158 rfl 2 rfl ?_
        obtain ⟨hb254, hf⟩ := oi_none hf
        refine v_iald X.1 41 0 rfl rfl hb254 d_M_split_159 ?_
        refine v_goto X.1 (tgt := 169) d_M_split_160 (by decide) ?_
        refine v_istore X.1 (lv' := [(4, .int (g238 51 p1.toNatClampNeg)), (3, .int (g216 41 0)), (0, .ref (ad 36)), (1, .int p1), (2, .int p2)]) d_M_split_169 (by decide) rfl ?_
        refine v_aload_n X.1 d_M_split_171 rfl 2 rfl ?_
        refine v_get X.1 (ci := 5) ⟨in_M, rfl⟩ 36 rfl 6 (by decide) (X.t tw_634 rfl) rfl d_M_split_172 ?_
        refine v_iload_n X.1 d_M_split_175 rfl 1 rfl ?_
        refine v_aload_n X.1 d_M_split_176 rfl 2 rfl ?_
        refine v_get X.1 (ci := 5) ⟨in_M, rfl⟩ 36 rfl 6 (by decide) (X.t tw_634 rfl) rfl d_M_split_177 ?_
        refine v_iload_n X.1 d_M_split_180 rfl 3 rfl ?_
        obtain ⟨hb255, hf⟩ := oi_none hf
        refine v_iald X.1 41 0 rfl rfl hb255 d_M_split_181 ?_
        refine v_iload X.1 d_M_split_182 0 rfl ?_
        refine v_isub X.1 d_M_split_184 ?_
        obtain ⟨hb256, hf⟩ := oi_none hf
        obtain ⟨g257, eg258, hf⟩ := ob_some hf
        refine v_iast X.1 41 0 rfl rfl hb256 ((sa_51 ad ca _ _ _).trans (congrArg (wX ad ca) (Option.some.inj eg258))) d_M_split_185 ?_
        refine v_aload_n X.1 d_M_split_186 rfl 2 rfl ?_
        refine v_get X.1 (ci := 5) ⟨in_M, rfl⟩ 36 rfl 6 (by decide) (X.t tw_634 rfl) rfl d_M_split_187 ?_
        refine v_iload_n X.1 d_M_split_190 rfl 3 rfl ?_
        refine v_iload X.1 d_M_split_191 0 rfl ?_
        obtain ⟨hb259, hf⟩ := oi_none hf
        obtain ⟨g260, eg261, hf⟩ := ob_some hf
        refine v_iast X.1 41 0 rfl rfl hb259 ((sa_51 ad ca _ _ _).trans (congrArg (wX ad ca) (Option.some.inj eg261))) d_M_split_193 ?_
        refine v_iconst X.1 (v := (0 : Int32)) d_M_split_194 (by decide) ?_
        refine v_istore X.1 (lv' := [(5, .int ((0 : Int32))), (4, .int (g238 51 p1.toNatClampNeg)), (3, .int (g216 41 0)), (0, .ref (ad 36)), (1, .int p1), (2, .int p2)]) d_M_split_195 (by decide) rfl ?_
        obtain ⟨x262, g263, hL264, hf⟩ := ob2_some hf
        refine l_M_split_L197 l fu p1 p2 (g238 51 p1.toNatClampNeg) (g216 41 0) X hno fu _ _ _ _ hL264 ?_
        refine v_iload_n X.1 d_M_split_234 rfl 2 rfl ?_
        cases hf
        exact v_iret X.1 X.2.2.1 rfl d_M_split_235 X.2.2.2.1 (by decide) (by decide)
    · rw [if_neg c218] at hf
      refine v_iconst X.1 (v := (0 : Int32)) d_M_split_69 (by decide) ?_
      cases hf
      exact v_iret X.1 X.2.2.1 rfl d_M_split_70 X.2.2.2.1 (by decide) (by decide)

def f_M_late_L58 (fu : Nat) (p1 : Int32) (p2 : Int32) : Nat → Int32 → Int32 → xSt → Option (Int32 × Int32 × xSt)
  | 0, _, _, _ => none
  | n + 1, a3, a4, g => (if a4 < 0 then some (a3, a4, g) else (if a4 < 0 ∨ 64 ≤ a4.toNatClampNeg then none else (if (g 60 a4.toNatClampNeg) = p1 then (if a4 < 0 ∨ 64 ≤ a4.toNatClampNeg then none else (ob2 (f_M_passes p1 (g 61 a4.toNatClampNeg) ((4 : Int32)) g) (fun r20 g21 => (if r20 = 0 then (Option.bind (f_M_drop fu a4 g21) (fun g25 => f_M_late_L58 fu p1 p2 n (a3 + (1 : Int32)) (a4 + (-1 : Int32)) g25)) else f_M_late_L58 fu p1 p2 n a3 (a4 + (-1 : Int32)) g21)))) else f_M_late_L58 fu p1 p2 n a3 (a4 + (-1 : Int32)) g)))

def f_M_late (fu : Nat) (p1 : Int32) (p2 : Int32) (g : xSt) : Option (Int32 × xSt) := (ob2 (f_M_isArrival p1 g) (fun r2 g3 => (if r2 = 0 then (Option.bind (some (xw g3 40 0 ((1 : Int32)))) (fun g40 => (if (g40 40 0) ≤ 0 then (if p1 < 0 ∨ 8 ≤ p1.toNatClampNeg then none else (Option.bind (some (xw g40 49 p1.toNatClampNeg p2)) (fun g44 => (ob3 (f_M_late_L58 fu p1 p2 fu ((0 : Int32)) ((g44 43 0) - ((1 : Int32))) g44) (fun x46 x47 g48 => some (x46, g48)))))) else some ((0 : Int32), g40)))) else (ob2 (f_M_in p2 ((0 : Int32)) ((1000 : Int32)) g3) (fun r6 g7 => (if r6 = 0 then (Option.bind (some (xw g7 40 0 ((2 : Int32)))) (fun g30 => (if (g30 40 0) ≤ 0 then (if p1 < 0 ∨ 8 ≤ p1.toNatClampNeg then none else (Option.bind (some (xw g30 49 p1.toNatClampNeg p2)) (fun g34 => (ob3 (f_M_late_L58 fu p1 p2 fu ((0 : Int32)) ((g34 43 0) - ((1 : Int32))) g34) (fun x36 x37 g38 => some (x36, g38)))))) else some ((0 : Int32), g30)))) else (Option.bind (some (xw g7 40 0 ((0 : Int32)))) (fun g9 => (if (g9 40 0) ≤ 0 then (if p1 < 0 ∨ 8 ≤ p1.toNatClampNeg then none else (Option.bind (some (xw g9 49 p1.toNatClampNeg p2)) (fun g13 => (ob3 (f_M_late_L58 fu p1 p2 fu ((0 : Int32)) ((g13 43 0) - ((1 : Int32))) g13) (fun x26 x27 g28 => some (x26, g28)))))) else some ((0 : Int32), g9))))))))))

set_option maxRecDepth 100000 in
set_option maxHeartbeats 4000000 in
theorem l_M_late_L58 {p : Program} {e : Env} {s : State} {m : MethodId} {below : List Frame} {meth : Method} {c : Code} {D : va_G} {ad : Nat → Nat} {ca : Nat → ClassId} (l : Launch) (fu : Nat) (p1 : Int32) (p2 : Int32) (X : xX p s m ([.ref (ad 36), .int p1, .int p2] : List Value).toArray meth c b_M_late "CrossDockModel" 5 (some .int) D ad ca) (hno : c.exceptionTable.toList = []) {Q : State → Prop} : ∀ (n : Nat) (a3 : Int32) (a4 : Int32) (g : xSt) (a3' : Int32) (a4' : Int32) (g' : xSt), f_M_late_L58 fu p1 p2 n a3 a4 g = some (a3', a4', g') → xV p l e ({ frames := 2, cells := 0, slots := 0, locals := 43 } : Room) s m ([.ref (ad 36), .int p1, .int p2] : List Value).toArray below meth c D xcl (wX ad ca) (xA (wX ad ca) s.heap.size) 5 0 0 Q g' 108 [(4, .int a4'), (3, .int a3'), (0, .ref (ad 36)), (1, .int p1), (2, .int p2)] [] → xV p l e ({ frames := 2, cells := 0, slots := 0, locals := 43 } : Room) s m ([.ref (ad 36), .int p1, .int p2] : List Value).toArray below meth c D xcl (wX ad ca) (xA (wX ad ca) s.heap.size) 5 0 0 Q g 58 [(4, .int a4), (3, .int a3), (0, .ref (ad 36)), (1, .int p1), (2, .int p2)] [] := by
  intro n
  induction n with
  | zero =>
    intro a3 a4 g a3' a4' g' hf
    rw [f_M_late_L58] at hf
    cases hf
  | succ n ih =>
    intro a3 a4 g a3' a4' g' hf hk
    rw [f_M_late_L58] at hf
    refine v_iload X.1 d_M_late_58 0 rfl ?_
    refine v_if_lt X.1 (tgt := 108) d_M_late_60 (by decide) (fun c15 => ?_) (fun c15 => ?_)
    · rw [if_pos c15] at hf
      cases hf
      refine v_sub [0, 1, 2, 3, 4] rfl ?_
      exact hk
    · rw [if_neg c15] at hf
      refine v_aload_n X.1 d_M_late_63 rfl 2 rfl ?_
      refine v_get X.1 (ci := 5) ⟨in_M, rfl⟩ 36 rfl 17 (by decide) (X.t tw_645 rfl) rfl d_M_late_64 ?_
      refine v_iload X.1 d_M_late_67 0 rfl ?_
      obtain ⟨hb16, hf⟩ := oi_none hf
      refine v_iald X.1 50 0 rfl rfl hb16 d_M_late_69 ?_
      refine v_iload_n X.1 d_M_late_70 rfl 3 rfl ?_
      refine v_icmp_ne X.1 (tgt := 102) d_M_late_71 (by decide) (fun c17 => ?_) (fun c17 => ?_)
      · rw [if_neg c17] at hf
        refine v_iinc X.1 (k0 := 0) (v := a4 + (-1 : Int32)) (lv' := [(4, .int (a4 + (-1 : Int32))), (3, .int a3), (0, .ref (ad 36)), (1, .int p1), (2, .int p2)]) d_M_late_102 rfl rfl (by decide) rfl ?_
        refine v_goto X.1 (tgt := 58) d_M_late_105 (by decide) ?_
        refine v_sub [0, 1, 2, 3, 4] rfl ?_
        exact ih _ _ _ _ _ _ hf hk
      · rw [if_pos c17] at hf
        refine v_aload_n X.1 d_M_late_74 rfl 2 rfl ?_
        refine v_iload_n X.1 d_M_late_75 rfl 3 rfl ?_
        refine v_aload_n X.1 d_M_late_76 rfl 2 rfl ?_
        refine v_get X.1 (ci := 5) ⟨in_M, rfl⟩ 36 rfl 18 (by decide) (X.t tw_646 rfl) rfl d_M_late_77 ?_
        refine v_iload X.1 d_M_late_80 0 rfl ?_
        obtain ⟨hb18, hf⟩ := oi_none hf
        refine v_iald X.1 51 0 rfl rfl hb18 d_M_late_82 ?_
        refine v_iconst X.1 (v := (4 : Int32)) d_M_late_83 (by decide) ?_
        obtain ⟨r20, g21, hc19, hf⟩ := ob2_some hf
        refine v_backI X.1 (x_runV X (c_M_passes l p1 (g 61 a4.toNatClampNeg) ((4 : Int32)) _ _ _ hc19) rfl tw_759 tw_57 tw_756 tw_758 tw_36 36 5 rfl rfl rfl ⟨rfl, rfl, by decide, by decide⟩ ⟨by decide, by show _ = some 3; decide⟩ (rest := []) rfl (Nat.le_of_ble_eq_true rfl) d_M_late_84 (by decide) (by decide)) ?_
        refine v_if_eq X.1 (tgt := 93) d_M_late_87 (by decide) (fun c22 => ?_) (fun c22 => ?_)
        · rw [if_pos c22] at hf
          refine v_aload_n X.1 d_M_late_93 rfl 2 rfl ?_
          refine v_iload X.1 d_M_late_94 0 rfl ?_
          obtain ⟨g25, hc23, hf⟩ := ob_some hf
          refine v_backV X.1 (x_runV X (c_M_drop l fu a4 _ _ hc23) rfl tw_839 tw_57 tw_836 tw_838 tw_49 36 5 rfl rfl rfl ⟨rfl, rfl, by decide, by decide⟩ ⟨by decide, by show _ = some 1; decide⟩ (rest := []) rfl (Nat.le_of_ble_eq_true rfl) d_M_late_96 (by decide) (by decide)) ?_
          refine v_iinc X.1 (k0 := 1) (v := a3 + (1 : Int32)) (lv' := [(3, .int (a3 + (1 : Int32))), (4, .int a4), (0, .ref (ad 36)), (1, .int p1), (2, .int p2)]) d_M_late_99 rfl rfl (by decide) rfl ?_
          refine v_iinc X.1 (k0 := 1) (v := a4 + (-1 : Int32)) (lv' := [(4, .int (a4 + (-1 : Int32))), (3, .int (a3 + (1 : Int32))), (0, .ref (ad 36)), (1, .int p1), (2, .int p2)]) d_M_late_102 rfl rfl (by decide) rfl ?_
          refine v_goto X.1 (tgt := 58) d_M_late_105 (by decide) ?_
          refine v_sub [0, 1, 2, 3, 4] rfl ?_
          exact ih _ _ _ _ _ _ hf hk
        · rw [if_neg c22] at hf
          refine v_goto X.1 (tgt := 102) d_M_late_90 (by decide) ?_
          refine v_iinc X.1 (k0 := 0) (v := a4 + (-1 : Int32)) (lv' := [(4, .int (a4 + (-1 : Int32))), (3, .int a3), (0, .ref (ad 36)), (1, .int p1), (2, .int p2)]) d_M_late_102 rfl rfl (by decide) rfl ?_
          refine v_goto X.1 (tgt := 58) d_M_late_105 (by decide) ?_
          refine v_sub [0, 1, 2, 3, 4] rfl ?_
          exact ih _ _ _ _ _ _ hf hk

set_option maxRecDepth 100000 in
set_option maxHeartbeats 4000000 in
theorem c_M_late (l : Launch) (fu : Nat) (p1 : Int32) (p2 : Int32) (g : xSt) (r : Int32) (g' : xSt) (hf : f_M_late fu p1 p2 g = some (r, g')) : xM l y_M_late (.code y_M_late b_M_late 5 (some .int)) ({ frames := 2, cells := 0, slots := 0, locals := 43 } : Room) (fun ad => [.ref (ad 36), .int p1, .int p2]) g (.inl (some (.int r))) g' 0 0 := by
  refine x_contract (by decide) (fun _ => Nat.le_of_ble_eq_true rfl) ?_
  intro p e s m below meth c D ad ca X hno
  unfold f_M_late at hf
  refine v_aload_n X.1 d_M_late_0 rfl 0 rfl ?_
  refine v_aload_n X.1 d_M_late_1 rfl 0 rfl ?_
  refine v_iload_n X.1 d_M_late_2 rfl 1 rfl ?_
  obtain ⟨r2, g3, hc1, hf⟩ := ob2_some hf
  refine v_backI X.1 (x_runV X (c_M_isArrival l p1 _ _ _ hc1) rfl tw_743 tw_57 tw_740 tw_742 tw_33 36 5 rfl rfl rfl ⟨rfl, rfl, by decide, by decide⟩ ⟨by decide, by show _ = some 1; decide⟩ (rest := [.ref (ad 36)]) rfl (Nat.le_of_ble_eq_true rfl) d_M_late_3 (by decide) (by decide)) ?_
  refine v_if_ne X.1 (tgt := 13) d_M_late_6 (by decide) (fun c4 => ?_) (fun c4 => ?_)
  · rw [if_neg c4] at hf
    refine v_iload_n X.1 d_M_late_13 rfl 2 rfl ?_
    refine v_iconst X.1 (v := (0 : Int32)) d_M_late_14 (by decide) ?_
    refine v_sipush X.1 (v := (1000 : Int32)) d_M_late_15 (by decide) ?_
    obtain ⟨r6, g7, hc5, hf⟩ := ob2_some hf
    refine v_backI X.1 (x_runS X (c_M_in l p2 ((0 : Int32)) ((1000 : Int32)) _ _ _ hc5) tw_723 tw_57 tw_721 tw_722 ⟨rfl, rfl, by decide, by decide⟩ ⟨by decide, by show _ = some 3; decide⟩ (rest := [.ref (ad 36)]) rfl (Nat.le_of_ble_eq_true rfl) d_M_late_18 (by decide) (by decide)) ?_
    refine v_if_ne X.1 (tgt := 28) d_M_late_21 (by decide) (fun c8 => ?_) (fun c8 => ?_)
    · rw [if_neg c8] at hf
      refine v_iconst X.1 (v := (0 : Int32)) d_M_late_28 (by decide) ?_
      obtain ⟨g9, eg10, hf⟩ := ob_some hf
      refine v_put X.1 (ci := 5) ⟨in_M, rfl⟩ 36 rfl 0 (by decide) ⟨ty_M_ok, nm_M⟩ (X.t tw_628 rfl) rfl (ty := .int) (by decide +kernel) rfl rfl (Nat.le_of_ble_eq_true rfl) ((sw_40 ad ca _ _).trans (congrArg (wX ad ca) (Option.some.inj eg10))) d_M_late_29 ?_
      refine v_aload_n X.1 d_M_late_32 rfl 0 rfl ?_
      refine v_get X.1 (ci := 5) ⟨in_M, rfl⟩ 36 rfl 0 (by decide) (X.t tw_628 rfl) rfl d_M_late_33 ?_
      refine v_if_le X.1 (tgt := 41) d_M_late_36 (by decide) (fun c11 => ?_) (fun c11 => ?_)
      · rw [if_pos c11] at hf
        refine v_aload_n X.1 d_M_late_41 rfl 0 rfl ?_
        refine v_get X.1 (ci := 5) ⟨in_M, rfl⟩ 36 rfl 4 (by decide) (X.t tw_632 rfl) rfl d_M_late_42 ?_
        refine v_iload_n X.1 d_M_late_45 rfl 1 rfl ?_
        refine v_iload_n X.1 d_M_late_46 rfl 2 rfl ?_
        obtain ⟨hb12, hf⟩ := oi_none hf
        obtain ⟨g13, eg14, hf⟩ := ob_some hf
        refine v_iast X.1 39 0 rfl rfl hb12 ((sa_49 ad ca _ _ _).trans (congrArg (wX ad ca) (Option.some.inj eg14))) d_M_late_47 ?_
        refine v_iconst X.1 (v := (0 : Int32)) d_M_late_48 (by decide) ?_
        refine v_istore_n X.1 (lv' := [(3, .int ((0 : Int32))), (0, .ref (ad 36)), (1, .int p1), (2, .int p2)]) d_M_late_49 rfl (by decide) rfl ?_
        refine v_aload_n X.1 d_M_late_50 rfl 1 rfl ?_
        refine v_get X.1 (ci := 5) ⟨in_M, rfl⟩ 36 rfl 16 (by decide) (X.t tw_644 rfl) rfl d_M_late_51 ?_
        refine v_iconst X.1 (v := (1 : Int32)) d_M_late_54 (by decide) ?_
        refine v_isub X.1 d_M_late_55 ?_
        refine v_istore X.1 (lv' := [(4, .int ((g13 43 0) - ((1 : Int32)))), (3, .int ((0 : Int32))), (0, .ref (ad 36)), (1, .int p1), (2, .int p2)]) d_M_late_56 (by decide) rfl ?_
        obtain ⟨x26, x27, g28, hL29, hf⟩ := ob3_some hf
        refine l_M_late_L58 l fu p1 p2 X hno fu _ _ _ _ _ _ hL29 ?_
        refine v_iload_n X.1 d_M_late_108 rfl 1 rfl ?_
        cases hf
        exact v_iret X.1 X.2.2.1 rfl d_M_late_109 X.2.2.2.1 (by decide) (by decide)
      · rw [if_neg c11] at hf
        refine v_iconst X.1 (v := (0 : Int32)) d_M_late_39 (by decide) ?_
        cases hf
        exact v_iret X.1 X.2.2.1 rfl d_M_late_40 X.2.2.2.1 (by decide) (by decide)
    · rw [if_pos c8] at hf
      refine v_iconst X.1 (v := (2 : Int32)) d_M_late_24 (by decide) ?_
      refine v_goto X.1 (tgt := 29) d_M_late_25 (by decide) ?_
      obtain ⟨g30, eg31, hf⟩ := ob_some hf
      refine v_put X.1 (ci := 5) ⟨in_M, rfl⟩ 36 rfl 0 (by decide) ⟨ty_M_ok, nm_M⟩ (X.t tw_628 rfl) rfl (ty := .int) (by decide +kernel) rfl rfl (Nat.le_of_ble_eq_true rfl) ((sw_40 ad ca _ _).trans (congrArg (wX ad ca) (Option.some.inj eg31))) d_M_late_29 ?_
      refine v_aload_n X.1 d_M_late_32 rfl 0 rfl ?_
      refine v_get X.1 (ci := 5) ⟨in_M, rfl⟩ 36 rfl 0 (by decide) (X.t tw_628 rfl) rfl d_M_late_33 ?_
      refine v_if_le X.1 (tgt := 41) d_M_late_36 (by decide) (fun c32 => ?_) (fun c32 => ?_)
      · rw [if_pos c32] at hf
        refine v_aload_n X.1 d_M_late_41 rfl 0 rfl ?_
        refine v_get X.1 (ci := 5) ⟨in_M, rfl⟩ 36 rfl 4 (by decide) (X.t tw_632 rfl) rfl d_M_late_42 ?_
        refine v_iload_n X.1 d_M_late_45 rfl 1 rfl ?_
        refine v_iload_n X.1 d_M_late_46 rfl 2 rfl ?_
        obtain ⟨hb33, hf⟩ := oi_none hf
        obtain ⟨g34, eg35, hf⟩ := ob_some hf
        refine v_iast X.1 39 0 rfl rfl hb33 ((sa_49 ad ca _ _ _).trans (congrArg (wX ad ca) (Option.some.inj eg35))) d_M_late_47 ?_
        refine v_iconst X.1 (v := (0 : Int32)) d_M_late_48 (by decide) ?_
        refine v_istore_n X.1 (lv' := [(3, .int ((0 : Int32))), (0, .ref (ad 36)), (1, .int p1), (2, .int p2)]) d_M_late_49 rfl (by decide) rfl ?_
        refine v_aload_n X.1 d_M_late_50 rfl 1 rfl ?_
        refine v_get X.1 (ci := 5) ⟨in_M, rfl⟩ 36 rfl 16 (by decide) (X.t tw_644 rfl) rfl d_M_late_51 ?_
        refine v_iconst X.1 (v := (1 : Int32)) d_M_late_54 (by decide) ?_
        refine v_isub X.1 d_M_late_55 ?_
        refine v_istore X.1 (lv' := [(4, .int ((g34 43 0) - ((1 : Int32)))), (3, .int ((0 : Int32))), (0, .ref (ad 36)), (1, .int p1), (2, .int p2)]) d_M_late_56 (by decide) rfl ?_
        obtain ⟨x36, x37, g38, hL39, hf⟩ := ob3_some hf
        refine l_M_late_L58 l fu p1 p2 X hno fu _ _ _ _ _ _ hL39 ?_
        refine v_iload_n X.1 d_M_late_108 rfl 1 rfl ?_
        cases hf
        exact v_iret X.1 X.2.2.1 rfl d_M_late_109 X.2.2.2.1 (by decide) (by decide)
      · rw [if_neg c32] at hf
        refine v_iconst X.1 (v := (0 : Int32)) d_M_late_39 (by decide) ?_
        cases hf
        exact v_iret X.1 X.2.2.1 rfl d_M_late_40 X.2.2.2.1 (by decide) (by decide)
  · rw [if_pos c4] at hf
    refine v_iconst X.1 (v := (1 : Int32)) d_M_late_9 (by decide) ?_
    refine v_goto X.1 (tgt := 29) d_M_late_10 (by decide) ?_
    obtain ⟨g40, eg41, hf⟩ := ob_some hf
    refine v_put X.1 (ci := 5) ⟨in_M, rfl⟩ 36 rfl 0 (by decide) ⟨ty_M_ok, nm_M⟩ (X.t tw_628 rfl) rfl (ty := .int) (by decide +kernel) rfl rfl (Nat.le_of_ble_eq_true rfl) ((sw_40 ad ca _ _).trans (congrArg (wX ad ca) (Option.some.inj eg41))) d_M_late_29 ?_
    refine v_aload_n X.1 d_M_late_32 rfl 0 rfl ?_
    refine v_get X.1 (ci := 5) ⟨in_M, rfl⟩ 36 rfl 0 (by decide) (X.t tw_628 rfl) rfl d_M_late_33 ?_
    refine v_if_le X.1 (tgt := 41) d_M_late_36 (by decide) (fun c42 => ?_) (fun c42 => ?_)
    · rw [if_pos c42] at hf
      refine v_aload_n X.1 d_M_late_41 rfl 0 rfl ?_
      refine v_get X.1 (ci := 5) ⟨in_M, rfl⟩ 36 rfl 4 (by decide) (X.t tw_632 rfl) rfl d_M_late_42 ?_
      refine v_iload_n X.1 d_M_late_45 rfl 1 rfl ?_
      refine v_iload_n X.1 d_M_late_46 rfl 2 rfl ?_
      obtain ⟨hb43, hf⟩ := oi_none hf
      obtain ⟨g44, eg45, hf⟩ := ob_some hf
      refine v_iast X.1 39 0 rfl rfl hb43 ((sa_49 ad ca _ _ _).trans (congrArg (wX ad ca) (Option.some.inj eg45))) d_M_late_47 ?_
      refine v_iconst X.1 (v := (0 : Int32)) d_M_late_48 (by decide) ?_
      refine v_istore_n X.1 (lv' := [(3, .int ((0 : Int32))), (0, .ref (ad 36)), (1, .int p1), (2, .int p2)]) d_M_late_49 rfl (by decide) rfl ?_
      refine v_aload_n X.1 d_M_late_50 rfl 1 rfl ?_
      refine v_get X.1 (ci := 5) ⟨in_M, rfl⟩ 36 rfl 16 (by decide) (X.t tw_644 rfl) rfl d_M_late_51 ?_
      refine v_iconst X.1 (v := (1 : Int32)) d_M_late_54 (by decide) ?_
      refine v_isub X.1 d_M_late_55 ?_
      refine v_istore X.1 (lv' := [(4, .int ((g44 43 0) - ((1 : Int32)))), (3, .int ((0 : Int32))), (0, .ref (ad 36)), (1, .int p1), (2, .int p2)]) d_M_late_56 (by decide) rfl ?_
      obtain ⟨x46, x47, g48, hL49, hf⟩ := ob3_some hf
      refine l_M_late_L58 l fu p1 p2 X hno fu _ _ _ _ _ _ hL49 ?_
      refine v_iload_n X.1 d_M_late_108 rfl 1 rfl ?_
      cases hf
      exact v_iret X.1 X.2.2.1 rfl d_M_late_109 X.2.2.2.1 (by decide) (by decide)
    · rw [if_neg c42] at hf
      refine v_iconst X.1 (v := (0 : Int32)) d_M_late_39 (by decide) ?_
      cases hf
      exact v_iret X.1 X.2.2.1 rfl d_M_late_40 X.2.2.2.1 (by decide) (by decide)

def f_M_arrival_L84 (fu : Nat) (p1 : Int32) (p2 : Int32) : Nat → Int32 → Int32 → xSt → Option (Int32 × Int32 × xSt)
  | 0, _, _, _ => none
  | n + 1, a3, a4, g => (if (g 42 0) ≤ a4 then some (a3, a4, g) else (ob2 (f_M_mayServe p1 a4 g) (fun r17 g18 => (if r17 = 0 then f_M_arrival_L84 fu p1 p2 n (a3 + ((0 : Int32))) (a4 + (1 : Int32)) g18 else f_M_arrival_L84 fu p1 p2 n (a3 + ((1 : Int32))) (a4 + (1 : Int32)) g18))))

def f_M_arrival (fu : Nat) (p1 : Int32) (p2 : Int32) (g : xSt) : Option (Int32 × xSt) := (ob2 (f_M_isArrival p1 g) (fun r2 g3 => (if r2 = 0 then (Option.bind (some (xw g3 40 0 ((1 : Int32)))) (fun g50 => (if (g50 40 0) ≤ 0 then (if p2 = 0 then (ob2 (f_M_has p1 g50) (fun r63 g64 => (ob2 (f_M_held fu p1 g64) (fun r66 g67 => some (r63 - r66, g67))))) else (if p2 = ((1 : Int32)) then (if p1 < 0 ∨ 8 ≤ p1.toNatClampNeg then none else some (g50 49 p1.toNatClampNeg, g50)) else (if p2 = ((2 : Int32)) then (if p1 < 0 ∨ 8 ≤ p1.toNatClampNeg then none else some (g50 50 p1.toNatClampNeg, g50)) else (ob3 (f_M_arrival_L84 fu p1 p2 fu ((0 : Int32)) ((0 : Int32)) g50) (fun x56 x57 g58 => some (x56, g58)))))) else some ((0 : Int32), g50)))) else (ob2 (f_M_in p2 ((0 : Int32)) ((3 : Int32)) g3) (fun r6 g7 => (if r6 = 0 then (Option.bind (some (xw g7 40 0 ((2 : Int32)))) (fun g32 => (if (g32 40 0) ≤ 0 then (if p2 = 0 then (ob2 (f_M_has p1 g32) (fun r45 g46 => (ob2 (f_M_held fu p1 g46) (fun r48 g49 => some (r45 - r48, g49))))) else (if p2 = ((1 : Int32)) then (if p1 < 0 ∨ 8 ≤ p1.toNatClampNeg then none else some (g32 49 p1.toNatClampNeg, g32)) else (if p2 = ((2 : Int32)) then (if p1 < 0 ∨ 8 ≤ p1.toNatClampNeg then none else some (g32 50 p1.toNatClampNeg, g32)) else (ob3 (f_M_arrival_L84 fu p1 p2 fu ((0 : Int32)) ((0 : Int32)) g32) (fun x38 x39 g40 => some (x38, g40)))))) else some ((0 : Int32), g32)))) else (Option.bind (some (xw g7 40 0 ((0 : Int32)))) (fun g9 => (if (g9 40 0) ≤ 0 then (if p2 = 0 then (ob2 (f_M_has p1 g9) (fun r27 g28 => (ob2 (f_M_held fu p1 g28) (fun r30 g31 => some (r27 - r30, g31))))) else (if p2 = ((1 : Int32)) then (if p1 < 0 ∨ 8 ≤ p1.toNatClampNeg then none else some (g9 49 p1.toNatClampNeg, g9)) else (if p2 = ((2 : Int32)) then (if p1 < 0 ∨ 8 ≤ p1.toNatClampNeg then none else some (g9 50 p1.toNatClampNeg, g9)) else (ob3 (f_M_arrival_L84 fu p1 p2 fu ((0 : Int32)) ((0 : Int32)) g9) (fun x20 x21 g22 => some (x20, g22)))))) else some ((0 : Int32), g9))))))))))

set_option maxRecDepth 100000 in
set_option maxHeartbeats 4000000 in
theorem l_M_arrival_L84 {p : Program} {e : Env} {s : State} {m : MethodId} {below : List Frame} {meth : Method} {c : Code} {D : va_G} {ad : Nat → Nat} {ca : Nat → ClassId} (l : Launch) (fu : Nat) (p1 : Int32) (p2 : Int32) (X : xX p s m ([.ref (ad 36), .int p1, .int p2] : List Value).toArray meth c b_M_arrival "CrossDockModel" 5 (some .int) D ad ca) (hno : c.exceptionTable.toList = []) {Q : State → Prop} : ∀ (n : Nat) (a3 : Int32) (a4 : Int32) (g : xSt) (a3' : Int32) (a4' : Int32) (g' : xSt), f_M_arrival_L84 fu p1 p2 n a3 a4 g = some (a3', a4', g') → xV p l e ({ frames := 2, cells := 0, slots := 0, locals := 45 } : Room) s m ([.ref (ad 36), .int p1, .int p2] : List Value).toArray below meth c D xcl (wX ad ca) (xA (wX ad ca) s.heap.size) 5 0 0 Q g' 117 [(4, .int a4'), (3, .int a3'), (0, .ref (ad 36)), (1, .int p1), (2, .int p2)] [] → xV p l e ({ frames := 2, cells := 0, slots := 0, locals := 45 } : Room) s m ([.ref (ad 36), .int p1, .int p2] : List Value).toArray below meth c D xcl (wX ad ca) (xA (wX ad ca) s.heap.size) 5 0 0 Q g 84 [(4, .int a4), (3, .int a3), (0, .ref (ad 36)), (1, .int p1), (2, .int p2)] [] := by
  intro n
  induction n with
  | zero =>
    intro a3 a4 g a3' a4' g' hf
    rw [f_M_arrival_L84] at hf
    cases hf
  | succ n ih =>
    intro a3 a4 g a3' a4' g' hf hk
    rw [f_M_arrival_L84] at hf
    refine v_iload X.1 d_M_arrival_84 0 rfl ?_
    refine v_aload_n X.1 d_M_arrival_86 rfl 2 rfl ?_
    refine v_get X.1 (ci := 5) ⟨in_M, rfl⟩ 36 rfl 7 (by decide) (X.t tw_635 rfl) rfl d_M_arrival_87 ?_
    refine v_icmp_ge X.1 (tgt := 117) d_M_arrival_90 (by decide) (fun c15 => ?_) (fun c15 => ?_)
    · rw [if_pos c15] at hf
      cases hf
      refine v_sub [0, 1, 2, 3, 4] rfl ?_
      exact hk
    · rw [if_neg c15] at hf
      refine v_iload_n X.1 d_M_arrival_93 rfl 1 rfl ?_
      refine v_aload_n X.1 d_M_arrival_94 rfl 2 rfl ?_
      refine v_iload_n X.1 d_M_arrival_95 rfl 3 rfl ?_
      refine v_iload X.1 d_M_arrival_96 0 rfl ?_
      obtain ⟨r17, g18, hc16, hf⟩ := ob2_some hf
      refine v_backI X.1 (x_runV X (c_M_mayServe l p1 a4 _ _ _ hc16) rfl tw_755 tw_57 tw_752 tw_754 tw_35 36 5 rfl rfl rfl ⟨rfl, rfl, by decide, by decide⟩ ⟨by decide, by show _ = some 2; decide⟩ (rest := [.int a3]) rfl (Nat.le_of_ble_eq_true rfl) d_M_arrival_98 (by decide) (by decide)) ?_
      refine v_if_eq X.1 (tgt := 108) d_M_arrival_101 (by decide) (fun c19 => ?_) (fun c19 => ?_)
      · rw [if_pos c19] at hf
        refine v_iconst X.1 (v := (0 : Int32)) d_M_arrival_108 (by decide) ?_
        refine v_iadd X.1 d_M_arrival_109 ?_
        refine v_istore_n X.1 (lv' := [(3, .int (a3 + ((0 : Int32)))), (4, .int a4), (0, .ref (ad 36)), (1, .int p1), (2, .int p2)]) d_M_arrival_110 rfl (by decide) rfl ?_
        refine v_iinc X.1 (k0 := 1) (v := a4 + (1 : Int32)) (lv' := [(4, .int (a4 + (1 : Int32))), (3, .int (a3 + ((0 : Int32)))), (0, .ref (ad 36)), (1, .int p1), (2, .int p2)]) d_M_arrival_111 rfl rfl (by decide) rfl ?_
        refine v_goto X.1 (tgt := 84) d_M_arrival_114 (by decide) ?_
        refine v_sub [0, 1, 2, 3, 4] rfl ?_
        exact ih _ _ _ _ _ _ hf hk
      · rw [if_neg c19] at hf
        refine v_iconst X.1 (v := (1 : Int32)) d_M_arrival_104 (by decide) ?_
        refine v_goto X.1 (tgt := 109) d_M_arrival_105 (by decide) ?_
        refine v_iadd X.1 d_M_arrival_109 ?_
        refine v_istore_n X.1 (lv' := [(3, .int (a3 + ((1 : Int32)))), (4, .int a4), (0, .ref (ad 36)), (1, .int p1), (2, .int p2)]) d_M_arrival_110 rfl (by decide) rfl ?_
        refine v_iinc X.1 (k0 := 1) (v := a4 + (1 : Int32)) (lv' := [(4, .int (a4 + (1 : Int32))), (3, .int (a3 + ((1 : Int32)))), (0, .ref (ad 36)), (1, .int p1), (2, .int p2)]) d_M_arrival_111 rfl rfl (by decide) rfl ?_
        refine v_goto X.1 (tgt := 84) d_M_arrival_114 (by decide) ?_
        refine v_sub [0, 1, 2, 3, 4] rfl ?_
        exact ih _ _ _ _ _ _ hf hk

set_option maxRecDepth 100000 in
set_option maxHeartbeats 4000000 in
theorem c_M_arrival (l : Launch) (fu : Nat) (p1 : Int32) (p2 : Int32) (g : xSt) (r : Int32) (g' : xSt) (hf : f_M_arrival fu p1 p2 g = some (r, g')) : xM l y_M_arrival (.code y_M_arrival b_M_arrival 5 (some .int)) ({ frames := 2, cells := 0, slots := 0, locals := 45 } : Room) (fun ad => [.ref (ad 36), .int p1, .int p2]) g (.inl (some (.int r))) g' 0 0 := by
  refine x_contract (by decide) (fun _ => Nat.le_of_ble_eq_true rfl) ?_
  intro p e s m below meth c D ad ca X hno
  unfold f_M_arrival at hf
  refine v_aload_n X.1 d_M_arrival_0 rfl 0 rfl ?_
  refine v_aload_n X.1 d_M_arrival_1 rfl 0 rfl ?_
  refine v_iload_n X.1 d_M_arrival_2 rfl 1 rfl ?_
  obtain ⟨r2, g3, hc1, hf⟩ := ob2_some hf
  refine v_backI X.1 (x_runV X (c_M_isArrival l p1 _ _ _ hc1) rfl tw_743 tw_57 tw_740 tw_742 tw_33 36 5 rfl rfl rfl ⟨rfl, rfl, by decide, by decide⟩ ⟨by decide, by show _ = some 1; decide⟩ (rest := [.ref (ad 36)]) rfl (Nat.le_of_ble_eq_true rfl) d_M_arrival_3 (by decide) (by decide)) ?_
  refine v_if_ne X.1 (tgt := 13) d_M_arrival_6 (by decide) (fun c4 => ?_) (fun c4 => ?_)
  · rw [if_neg c4] at hf
    refine v_iload_n X.1 d_M_arrival_13 rfl 2 rfl ?_
    refine v_iconst X.1 (v := (0 : Int32)) d_M_arrival_14 (by decide) ?_
    refine v_iconst X.1 (v := (3 : Int32)) d_M_arrival_15 (by decide) ?_
    obtain ⟨r6, g7, hc5, hf⟩ := ob2_some hf
    refine v_backI X.1 (x_runS X (c_M_in l p2 ((0 : Int32)) ((3 : Int32)) _ _ _ hc5) tw_723 tw_57 tw_721 tw_722 ⟨rfl, rfl, by decide, by decide⟩ ⟨by decide, by show _ = some 3; decide⟩ (rest := [.ref (ad 36)]) rfl (Nat.le_of_ble_eq_true rfl) d_M_arrival_16 (by decide) (by decide)) ?_
    refine v_if_ne X.1 (tgt := 26) d_M_arrival_19 (by decide) (fun c8 => ?_) (fun c8 => ?_)
    · rw [if_neg c8] at hf
      refine v_iconst X.1 (v := (0 : Int32)) d_M_arrival_26 (by decide) ?_
      obtain ⟨g9, eg10, hf⟩ := ob_some hf
      refine v_put X.1 (ci := 5) ⟨in_M, rfl⟩ 36 rfl 0 (by decide) ⟨ty_M_ok, nm_M⟩ (X.t tw_628 rfl) rfl (ty := .int) (by decide +kernel) rfl rfl (Nat.le_of_ble_eq_true rfl) ((sw_40 ad ca _ _).trans (congrArg (wX ad ca) (Option.some.inj eg10))) d_M_arrival_27 ?_
      refine v_aload_n X.1 d_M_arrival_30 rfl 0 rfl ?_
      refine v_get X.1 (ci := 5) ⟨in_M, rfl⟩ 36 rfl 0 (by decide) (X.t tw_628 rfl) rfl d_M_arrival_31 ?_
      refine v_if_le X.1 (tgt := 39) d_M_arrival_34 (by decide) (fun c11 => ?_) (fun c11 => ?_)
      · rw [if_pos c11] at hf
        refine v_iload_n X.1 d_M_arrival_39 rfl 2 rfl ?_
        refine v_if_ne X.1 (tgt := 55) d_M_arrival_40 (by decide) (fun c12 => ?_) (fun c12 => ?_)
        · rw [if_neg c12] at hf
          refine v_iload_n X.1 d_M_arrival_55 rfl 2 rfl ?_
          refine v_iconst X.1 (v := (1 : Int32)) d_M_arrival_56 (by decide) ?_
          refine v_icmp_ne X.1 (tgt := 67) d_M_arrival_57 (by decide) (fun c13 => ?_) (fun c13 => ?_)
          · rw [if_neg c13] at hf
            refine v_iload_n X.1 d_M_arrival_67 rfl 2 rfl ?_
            refine v_iconst X.1 (v := (2 : Int32)) d_M_arrival_68 (by decide) ?_
            refine v_icmp_ne X.1 (tgt := 79) d_M_arrival_69 (by decide) (fun c14 => ?_) (fun c14 => ?_)
            · rw [if_neg c14] at hf
              refine v_iconst X.1 (v := (0 : Int32)) d_M_arrival_79 (by decide) ?_
              refine v_istore_n X.1 (lv' := [(3, .int ((0 : Int32))), (0, .ref (ad 36)), (1, .int p1), (2, .int p2)]) d_M_arrival_80 rfl (by decide) rfl ?_
              refine v_iconst X.1 (v := (0 : Int32)) d_M_arrival_81 (by decide) ?_
              refine v_istore X.1 (lv' := [(4, .int ((0 : Int32))), (3, .int ((0 : Int32))), (0, .ref (ad 36)), (1, .int p1), (2, .int p2)]) d_M_arrival_82 (by decide) rfl ?_
              obtain ⟨x20, x21, g22, hL23, hf⟩ := ob3_some hf
              refine l_M_arrival_L84 l fu p1 p2 X hno fu _ _ _ _ _ _ hL23 ?_
              refine v_iload_n X.1 d_M_arrival_117 rfl 1 rfl ?_
              cases hf
              exact v_iret X.1 X.2.2.1 rfl d_M_arrival_118 X.2.2.2.1 (by decide) (by decide)
            · rw [if_pos c14] at hf
              refine v_aload_n X.1 d_M_arrival_72 rfl 0 rfl ?_
              refine v_get X.1 (ci := 5) ⟨in_M, rfl⟩ 36 rfl 5 (by decide) (X.t tw_633 rfl) rfl d_M_arrival_73 ?_
              refine v_iload_n X.1 d_M_arrival_76 rfl 1 rfl ?_
              obtain ⟨hb24, hf⟩ := oi_none hf
              refine v_iald X.1 40 0 rfl rfl hb24 d_M_arrival_77 ?_
              cases hf
              exact v_iret X.1 X.2.2.1 rfl d_M_arrival_78 X.2.2.2.1 (by decide) (by decide)
          · rw [if_pos c13] at hf
            refine v_aload_n X.1 d_M_arrival_60 rfl 0 rfl ?_
            refine v_get X.1 (ci := 5) ⟨in_M, rfl⟩ 36 rfl 4 (by decide) (X.t tw_632 rfl) rfl d_M_arrival_61 ?_
            refine v_iload_n X.1 d_M_arrival_64 rfl 1 rfl ?_
            obtain ⟨hb25, hf⟩ := oi_none hf
            refine v_iald X.1 39 0 rfl rfl hb25 d_M_arrival_65 ?_
            cases hf
            exact v_iret X.1 X.2.2.1 rfl d_M_arrival_66 X.2.2.2.1 (by decide) (by decide)
        · rw [if_pos c12] at hf
          refine v_aload_n X.1 d_M_arrival_43 rfl 0 rfl ?_
          refine v_iload_n X.1 d_M_arrival_44 rfl 1 rfl ?_
          obtain ⟨r27, g28, hc26, hf⟩ := ob2_some hf
          refine v_backI X.1 (x_runV X (c_M_has l p1 _ _ _ hc26) rfl tw_799 tw_57 tw_796 tw_798 tw_44 36 5 rfl rfl rfl ⟨rfl, rfl, by decide, by decide⟩ ⟨by decide, by show _ = some 1; decide⟩ (rest := []) rfl (Nat.le_of_ble_eq_true rfl) d_M_arrival_45 (by decide) (by decide)) ?_
          refine v_aload_n X.1 d_M_arrival_48 rfl 0 rfl ?_
          refine v_iload_n X.1 d_M_arrival_49 rfl 1 rfl ?_
          obtain ⟨r30, g31, hc29, hf⟩ := ob2_some hf
          refine v_backI X.1 (x_runV X (c_M_held l fu p1 _ _ _ hc29) rfl tw_747 tw_57 tw_744 tw_746 tw_34 36 5 rfl rfl rfl ⟨rfl, rfl, by decide, by decide⟩ ⟨by decide, by show _ = some 1; decide⟩ (rest := [.int r27]) rfl (Nat.le_of_ble_eq_true rfl) d_M_arrival_50 (by decide) (by decide)) ?_
          refine v_isub X.1 d_M_arrival_53 ?_
          cases hf
          exact v_iret X.1 X.2.2.1 rfl d_M_arrival_54 X.2.2.2.1 (by decide) (by decide)
      · rw [if_neg c11] at hf
        refine v_iconst X.1 (v := (0 : Int32)) d_M_arrival_37 (by decide) ?_
        cases hf
        exact v_iret X.1 X.2.2.1 rfl d_M_arrival_38 X.2.2.2.1 (by decide) (by decide)
    · rw [if_pos c8] at hf
      refine v_iconst X.1 (v := (2 : Int32)) d_M_arrival_22 (by decide) ?_
      refine v_goto X.1 (tgt := 27) d_M_arrival_23 (by decide) ?_
      obtain ⟨g32, eg33, hf⟩ := ob_some hf
      refine v_put X.1 (ci := 5) ⟨in_M, rfl⟩ 36 rfl 0 (by decide) ⟨ty_M_ok, nm_M⟩ (X.t tw_628 rfl) rfl (ty := .int) (by decide +kernel) rfl rfl (Nat.le_of_ble_eq_true rfl) ((sw_40 ad ca _ _).trans (congrArg (wX ad ca) (Option.some.inj eg33))) d_M_arrival_27 ?_
      refine v_aload_n X.1 d_M_arrival_30 rfl 0 rfl ?_
      refine v_get X.1 (ci := 5) ⟨in_M, rfl⟩ 36 rfl 0 (by decide) (X.t tw_628 rfl) rfl d_M_arrival_31 ?_
      refine v_if_le X.1 (tgt := 39) d_M_arrival_34 (by decide) (fun c34 => ?_) (fun c34 => ?_)
      · rw [if_pos c34] at hf
        refine v_iload_n X.1 d_M_arrival_39 rfl 2 rfl ?_
        refine v_if_ne X.1 (tgt := 55) d_M_arrival_40 (by decide) (fun c35 => ?_) (fun c35 => ?_)
        · rw [if_neg c35] at hf
          refine v_iload_n X.1 d_M_arrival_55 rfl 2 rfl ?_
          refine v_iconst X.1 (v := (1 : Int32)) d_M_arrival_56 (by decide) ?_
          refine v_icmp_ne X.1 (tgt := 67) d_M_arrival_57 (by decide) (fun c36 => ?_) (fun c36 => ?_)
          · rw [if_neg c36] at hf
            refine v_iload_n X.1 d_M_arrival_67 rfl 2 rfl ?_
            refine v_iconst X.1 (v := (2 : Int32)) d_M_arrival_68 (by decide) ?_
            refine v_icmp_ne X.1 (tgt := 79) d_M_arrival_69 (by decide) (fun c37 => ?_) (fun c37 => ?_)
            · rw [if_neg c37] at hf
              refine v_iconst X.1 (v := (0 : Int32)) d_M_arrival_79 (by decide) ?_
              refine v_istore_n X.1 (lv' := [(3, .int ((0 : Int32))), (0, .ref (ad 36)), (1, .int p1), (2, .int p2)]) d_M_arrival_80 rfl (by decide) rfl ?_
              refine v_iconst X.1 (v := (0 : Int32)) d_M_arrival_81 (by decide) ?_
              refine v_istore X.1 (lv' := [(4, .int ((0 : Int32))), (3, .int ((0 : Int32))), (0, .ref (ad 36)), (1, .int p1), (2, .int p2)]) d_M_arrival_82 (by decide) rfl ?_
              obtain ⟨x38, x39, g40, hL41, hf⟩ := ob3_some hf
              refine l_M_arrival_L84 l fu p1 p2 X hno fu _ _ _ _ _ _ hL41 ?_
              refine v_iload_n X.1 d_M_arrival_117 rfl 1 rfl ?_
              cases hf
              exact v_iret X.1 X.2.2.1 rfl d_M_arrival_118 X.2.2.2.1 (by decide) (by decide)
            · rw [if_pos c37] at hf
              refine v_aload_n X.1 d_M_arrival_72 rfl 0 rfl ?_
              refine v_get X.1 (ci := 5) ⟨in_M, rfl⟩ 36 rfl 5 (by decide) (X.t tw_633 rfl) rfl d_M_arrival_73 ?_
              refine v_iload_n X.1 d_M_arrival_76 rfl 1 rfl ?_
              obtain ⟨hb42, hf⟩ := oi_none hf
              refine v_iald X.1 40 0 rfl rfl hb42 d_M_arrival_77 ?_
              cases hf
              exact v_iret X.1 X.2.2.1 rfl d_M_arrival_78 X.2.2.2.1 (by decide) (by decide)
          · rw [if_pos c36] at hf
            refine v_aload_n X.1 d_M_arrival_60 rfl 0 rfl ?_
            refine v_get X.1 (ci := 5) ⟨in_M, rfl⟩ 36 rfl 4 (by decide) (X.t tw_632 rfl) rfl d_M_arrival_61 ?_
            refine v_iload_n X.1 d_M_arrival_64 rfl 1 rfl ?_
            obtain ⟨hb43, hf⟩ := oi_none hf
            refine v_iald X.1 39 0 rfl rfl hb43 d_M_arrival_65 ?_
            cases hf
            exact v_iret X.1 X.2.2.1 rfl d_M_arrival_66 X.2.2.2.1 (by decide) (by decide)
        · rw [if_pos c35] at hf
          refine v_aload_n X.1 d_M_arrival_43 rfl 0 rfl ?_
          refine v_iload_n X.1 d_M_arrival_44 rfl 1 rfl ?_
          obtain ⟨r45, g46, hc44, hf⟩ := ob2_some hf
          refine v_backI X.1 (x_runV X (c_M_has l p1 _ _ _ hc44) rfl tw_799 tw_57 tw_796 tw_798 tw_44 36 5 rfl rfl rfl ⟨rfl, rfl, by decide, by decide⟩ ⟨by decide, by show _ = some 1; decide⟩ (rest := []) rfl (Nat.le_of_ble_eq_true rfl) d_M_arrival_45 (by decide) (by decide)) ?_
          refine v_aload_n X.1 d_M_arrival_48 rfl 0 rfl ?_
          refine v_iload_n X.1 d_M_arrival_49 rfl 1 rfl ?_
          obtain ⟨r48, g49, hc47, hf⟩ := ob2_some hf
          refine v_backI X.1 (x_runV X (c_M_held l fu p1 _ _ _ hc47) rfl tw_747 tw_57 tw_744 tw_746 tw_34 36 5 rfl rfl rfl ⟨rfl, rfl, by decide, by decide⟩ ⟨by decide, by show _ = some 1; decide⟩ (rest := [.int r45]) rfl (Nat.le_of_ble_eq_true rfl) d_M_arrival_50 (by decide) (by decide)) ?_
          refine v_isub X.1 d_M_arrival_53 ?_
          cases hf
          exact v_iret X.1 X.2.2.1 rfl d_M_arrival_54 X.2.2.2.1 (by decide) (by decide)
      · rw [if_neg c34] at hf
        refine v_iconst X.1 (v := (0 : Int32)) d_M_arrival_37 (by decide) ?_
        cases hf
        exact v_iret X.1 X.2.2.1 rfl d_M_arrival_38 X.2.2.2.1 (by decide) (by decide)
  · rw [if_pos c4] at hf
    refine v_iconst X.1 (v := (1 : Int32)) d_M_arrival_9 (by decide) ?_
    refine v_goto X.1 (tgt := 27) d_M_arrival_10 (by decide) ?_
    obtain ⟨g50, eg51, hf⟩ := ob_some hf
    refine v_put X.1 (ci := 5) ⟨in_M, rfl⟩ 36 rfl 0 (by decide) ⟨ty_M_ok, nm_M⟩ (X.t tw_628 rfl) rfl (ty := .int) (by decide +kernel) rfl rfl (Nat.le_of_ble_eq_true rfl) ((sw_40 ad ca _ _).trans (congrArg (wX ad ca) (Option.some.inj eg51))) d_M_arrival_27 ?_
    refine v_aload_n X.1 d_M_arrival_30 rfl 0 rfl ?_
    refine v_get X.1 (ci := 5) ⟨in_M, rfl⟩ 36 rfl 0 (by decide) (X.t tw_628 rfl) rfl d_M_arrival_31 ?_
    refine v_if_le X.1 (tgt := 39) d_M_arrival_34 (by decide) (fun c52 => ?_) (fun c52 => ?_)
    · rw [if_pos c52] at hf
      refine v_iload_n X.1 d_M_arrival_39 rfl 2 rfl ?_
      refine v_if_ne X.1 (tgt := 55) d_M_arrival_40 (by decide) (fun c53 => ?_) (fun c53 => ?_)
      · rw [if_neg c53] at hf
        refine v_iload_n X.1 d_M_arrival_55 rfl 2 rfl ?_
        refine v_iconst X.1 (v := (1 : Int32)) d_M_arrival_56 (by decide) ?_
        refine v_icmp_ne X.1 (tgt := 67) d_M_arrival_57 (by decide) (fun c54 => ?_) (fun c54 => ?_)
        · rw [if_neg c54] at hf
          refine v_iload_n X.1 d_M_arrival_67 rfl 2 rfl ?_
          refine v_iconst X.1 (v := (2 : Int32)) d_M_arrival_68 (by decide) ?_
          refine v_icmp_ne X.1 (tgt := 79) d_M_arrival_69 (by decide) (fun c55 => ?_) (fun c55 => ?_)
          · rw [if_neg c55] at hf
            refine v_iconst X.1 (v := (0 : Int32)) d_M_arrival_79 (by decide) ?_
            refine v_istore_n X.1 (lv' := [(3, .int ((0 : Int32))), (0, .ref (ad 36)), (1, .int p1), (2, .int p2)]) d_M_arrival_80 rfl (by decide) rfl ?_
            refine v_iconst X.1 (v := (0 : Int32)) d_M_arrival_81 (by decide) ?_
            refine v_istore X.1 (lv' := [(4, .int ((0 : Int32))), (3, .int ((0 : Int32))), (0, .ref (ad 36)), (1, .int p1), (2, .int p2)]) d_M_arrival_82 (by decide) rfl ?_
            obtain ⟨x56, x57, g58, hL59, hf⟩ := ob3_some hf
            refine l_M_arrival_L84 l fu p1 p2 X hno fu _ _ _ _ _ _ hL59 ?_
            refine v_iload_n X.1 d_M_arrival_117 rfl 1 rfl ?_
            cases hf
            exact v_iret X.1 X.2.2.1 rfl d_M_arrival_118 X.2.2.2.1 (by decide) (by decide)
          · rw [if_pos c55] at hf
            refine v_aload_n X.1 d_M_arrival_72 rfl 0 rfl ?_
            refine v_get X.1 (ci := 5) ⟨in_M, rfl⟩ 36 rfl 5 (by decide) (X.t tw_633 rfl) rfl d_M_arrival_73 ?_
            refine v_iload_n X.1 d_M_arrival_76 rfl 1 rfl ?_
            obtain ⟨hb60, hf⟩ := oi_none hf
            refine v_iald X.1 40 0 rfl rfl hb60 d_M_arrival_77 ?_
            cases hf
            exact v_iret X.1 X.2.2.1 rfl d_M_arrival_78 X.2.2.2.1 (by decide) (by decide)
        · rw [if_pos c54] at hf
          refine v_aload_n X.1 d_M_arrival_60 rfl 0 rfl ?_
          refine v_get X.1 (ci := 5) ⟨in_M, rfl⟩ 36 rfl 4 (by decide) (X.t tw_632 rfl) rfl d_M_arrival_61 ?_
          refine v_iload_n X.1 d_M_arrival_64 rfl 1 rfl ?_
          obtain ⟨hb61, hf⟩ := oi_none hf
          refine v_iald X.1 39 0 rfl rfl hb61 d_M_arrival_65 ?_
          cases hf
          exact v_iret X.1 X.2.2.1 rfl d_M_arrival_66 X.2.2.2.1 (by decide) (by decide)
      · rw [if_pos c53] at hf
        refine v_aload_n X.1 d_M_arrival_43 rfl 0 rfl ?_
        refine v_iload_n X.1 d_M_arrival_44 rfl 1 rfl ?_
        obtain ⟨r63, g64, hc62, hf⟩ := ob2_some hf
        refine v_backI X.1 (x_runV X (c_M_has l p1 _ _ _ hc62) rfl tw_799 tw_57 tw_796 tw_798 tw_44 36 5 rfl rfl rfl ⟨rfl, rfl, by decide, by decide⟩ ⟨by decide, by show _ = some 1; decide⟩ (rest := []) rfl (Nat.le_of_ble_eq_true rfl) d_M_arrival_45 (by decide) (by decide)) ?_
        refine v_aload_n X.1 d_M_arrival_48 rfl 0 rfl ?_
        refine v_iload_n X.1 d_M_arrival_49 rfl 1 rfl ?_
        obtain ⟨r66, g67, hc65, hf⟩ := ob2_some hf
        refine v_backI X.1 (x_runV X (c_M_held l fu p1 _ _ _ hc65) rfl tw_747 tw_57 tw_744 tw_746 tw_34 36 5 rfl rfl rfl ⟨rfl, rfl, by decide, by decide⟩ ⟨by decide, by show _ = some 1; decide⟩ (rest := [.int r63]) rfl (Nat.le_of_ble_eq_true rfl) d_M_arrival_50 (by decide) (by decide)) ?_
        refine v_isub X.1 d_M_arrival_53 ?_
        cases hf
        exact v_iret X.1 X.2.2.1 rfl d_M_arrival_54 X.2.2.2.1 (by decide) (by decide)
    · rw [if_neg c52] at hf
      refine v_iconst X.1 (v := (0 : Int32)) d_M_arrival_37 (by decide) ?_
      cases hf
      exact v_iret X.1 X.2.2.1 rfl d_M_arrival_38 X.2.2.2.1 (by decide) (by decide)

def f_M_wanted_L82 (fu : Nat) (p1 : Int32) (p2 : Int32) : Nat → Int32 → xSt → Option (Int32 × xSt)
  | 0, _, _ => none
  | n + 1, a3, g => (if ((6 : Int32)) ≤ a3 then some ((0 : Int32), g) else (ob2 (f_M_passing fu p1 a3 g) (fun r17 g18 => (if r17 = 0 then some (a3, g18) else f_M_wanted_L82 fu p1 p2 n (a3 + (1 : Int32)) g18))))

def f_M_wanted (fu : Nat) (p1 : Int32) (p2 : Int32) (g : xSt) : Option (Int32 × xSt) := (ob2 (f_M_isOrder p1 g) (fun r2 g3 => (if r2 = 0 then (Option.bind (some (xw g3 40 0 ((1 : Int32)))) (fun g42 => (if (g42 40 0) ≤ 0 then (if p2 = 0 then (if p1 < 0 ∨ 8 ≤ p1.toNatClampNeg then none else (ob2 (f_M_hasGot fu p1 g42) (fun r54 g55 => some ((g42 53 p1.toNatClampNeg) - r54, g55)))) else (if p2 = ((1 : Int32)) then (if p1 < 0 ∨ 8 ≤ p1.toNatClampNeg then none else some (g42 56 p1.toNatClampNeg, g42)) else (if p2 = ((2 : Int32)) then (ob2 (f_M_passing fu p1 ((5 : Int32)) g42) (fun r49 g50 => some (r49, g50))) else f_M_wanted_L82 fu p1 p2 fu ((1 : Int32)) g42))) else some ((0 : Int32), g42)))) else (ob2 (f_M_in p2 ((0 : Int32)) ((3 : Int32)) g3) (fun r6 g7 => (if r6 = 0 then (Option.bind (some (xw g7 40 0 ((2 : Int32)))) (fun g28 => (if (g28 40 0) ≤ 0 then (if p2 = 0 then (if p1 < 0 ∨ 8 ≤ p1.toNatClampNeg then none else (ob2 (f_M_hasGot fu p1 g28) (fun r40 g41 => some ((g28 53 p1.toNatClampNeg) - r40, g41)))) else (if p2 = ((1 : Int32)) then (if p1 < 0 ∨ 8 ≤ p1.toNatClampNeg then none else some (g28 56 p1.toNatClampNeg, g28)) else (if p2 = ((2 : Int32)) then (ob2 (f_M_passing fu p1 ((5 : Int32)) g28) (fun r35 g36 => some (r35, g36))) else f_M_wanted_L82 fu p1 p2 fu ((1 : Int32)) g28))) else some ((0 : Int32), g28)))) else (Option.bind (some (xw g7 40 0 ((0 : Int32)))) (fun g9 => (if (g9 40 0) ≤ 0 then (if p2 = 0 then (if p1 < 0 ∨ 8 ≤ p1.toNatClampNeg then none else (ob2 (f_M_hasGot fu p1 g9) (fun r26 g27 => some ((g9 53 p1.toNatClampNeg) - r26, g27)))) else (if p2 = ((1 : Int32)) then (if p1 < 0 ∨ 8 ≤ p1.toNatClampNeg then none else some (g9 56 p1.toNatClampNeg, g9)) else (if p2 = ((2 : Int32)) then (ob2 (f_M_passing fu p1 ((5 : Int32)) g9) (fun r21 g22 => some (r21, g22))) else f_M_wanted_L82 fu p1 p2 fu ((1 : Int32)) g9))) else some ((0 : Int32), g9))))))))))

set_option maxRecDepth 100000 in
set_option maxHeartbeats 4000000 in
theorem l_M_wanted_L82 {p : Program} {e : Env} {s : State} {m : MethodId} {below : List Frame} {meth : Method} {c : Code} {D : va_G} {ad : Nat → Nat} {ca : Nat → ClassId} (l : Launch) (fu : Nat) (p1 : Int32) (p2 : Int32) (X : xX p s m ([.ref (ad 36), .int p1, .int p2] : List Value).toArray meth c b_M_wanted "CrossDockModel" 4 (some .int) D ad ca) (hno : c.exceptionTable.toList = []) : ∀ (n : Nat) (a3 : Int32) (g : xSt) (r : Int32) (g' : xSt), f_M_wanted_L82 fu p1 p2 n a3 g = some (r, g') → xV p l e ({ frames := 2, cells := 0, slots := 0, locals := 47 } : Room) s m ([.ref (ad 36), .int p1, .int p2] : List Value).toArray below meth c D xcl (wX ad ca) (xA (wX ad ca) s.heap.size) 4 0 0 (xMQ below (xQ D xcl (wX ad ca) (xA (wX ad ca) s.heap.size) (.inl (some (.int r))) g') ([.ref (ad 36), .int p1, .int p2] : List Value).toArray s 0 0 (xA (wX ad ca) s.heap.size)) g 82 [(3, .int a3), (0, .ref (ad 36)), (1, .int p1), (2, .int p2)] [] := by
  intro n
  induction n with
  | zero =>
    intro a3 g r g' hf
    rw [f_M_wanted_L82] at hf
    cases hf
  | succ n ih =>
    intro a3 g r g' hf
    rw [f_M_wanted_L82] at hf
    refine v_iload_n X.1 d_M_wanted_82 rfl 0 rfl ?_
    refine v_bipush X.1 (v := (6 : Int32)) d_M_wanted_83 (by decide) ?_
    refine v_icmp_ge X.1 (tgt := 105) d_M_wanted_85 (by decide) (fun c15 => ?_) (fun c15 => ?_)
    · rw [if_pos c15] at hf
      refine v_iconst X.1 (v := (0 : Int32)) d_M_wanted_105 (by decide) ?_
      cases hf
      exact v_iret X.1 X.2.2.1 rfl d_M_wanted_106 X.2.2.2.1 (by decide) (by decide)
    · rw [if_neg c15] at hf
      refine v_aload_n X.1 d_M_wanted_88 rfl 1 rfl ?_
      refine v_iload_n X.1 d_M_wanted_89 rfl 2 rfl ?_
      refine v_iload_n X.1 d_M_wanted_90 rfl 0 rfl ?_
      obtain ⟨r17, g18, hc16, hf⟩ := ob2_some hf
      refine v_backI X.1 (x_runV X (c_M_passing l fu p1 a3 _ _ _ hc16) rfl tw_859 tw_57 tw_856 tw_858 tw_50 36 5 rfl rfl rfl ⟨rfl, rfl, by decide, by decide⟩ ⟨by decide, by show _ = some 2; decide⟩ (rest := []) rfl (Nat.le_of_ble_eq_true rfl) d_M_wanted_91 (by decide) (by decide)) ?_
      refine v_if_ne X.1 (tgt := 99) d_M_wanted_94 (by decide) (fun c19 => ?_) (fun c19 => ?_)
      · rw [if_neg c19] at hf
        refine v_iinc X.1 (k0 := 0) (v := a3 + (1 : Int32)) (lv' := [(3, .int (a3 + (1 : Int32))), (0, .ref (ad 36)), (1, .int p1), (2, .int p2)]) d_M_wanted_99 rfl rfl (by decide) rfl ?_
        refine v_goto X.1 (tgt := 82) d_M_wanted_102 (by decide) ?_
        refine v_sub [0, 1, 2, 3] rfl ?_
        exact ih _ _ _ _ hf
      · rw [if_pos c19] at hf
        refine v_iload_n X.1 d_M_wanted_97 rfl 0 rfl ?_
        cases hf
        exact v_iret X.1 X.2.2.1 rfl d_M_wanted_98 X.2.2.2.1 (by decide) (by decide)

set_option maxRecDepth 100000 in
set_option maxHeartbeats 4000000 in
theorem c_M_wanted (l : Launch) (fu : Nat) (p1 : Int32) (p2 : Int32) (g : xSt) (r : Int32) (g' : xSt) (hf : f_M_wanted fu p1 p2 g = some (r, g')) : xM l y_M_wanted (.code y_M_wanted b_M_wanted 4 (some .int)) ({ frames := 2, cells := 0, slots := 0, locals := 47 } : Room) (fun ad => [.ref (ad 36), .int p1, .int p2]) g (.inl (some (.int r))) g' 0 0 := by
  refine x_contract (by decide) (fun _ => Nat.le_of_ble_eq_true rfl) ?_
  intro p e s m below meth c D ad ca X hno
  unfold f_M_wanted at hf
  refine v_aload_n X.1 d_M_wanted_0 rfl 0 rfl ?_
  refine v_aload_n X.1 d_M_wanted_1 rfl 0 rfl ?_
  refine v_iload_n X.1 d_M_wanted_2 rfl 1 rfl ?_
  obtain ⟨r2, g3, hc1, hf⟩ := ob2_some hf
  refine v_backI X.1 (x_runV X (c_M_isOrder l p1 _ _ _ hc1) rfl tw_735 tw_57 tw_732 tw_734 tw_32 36 5 rfl rfl rfl ⟨rfl, rfl, by decide, by decide⟩ ⟨by decide, by show _ = some 1; decide⟩ (rest := [.ref (ad 36)]) rfl (Nat.le_of_ble_eq_true rfl) d_M_wanted_3 (by decide) (by decide)) ?_
  refine v_if_ne X.1 (tgt := 13) d_M_wanted_6 (by decide) (fun c4 => ?_) (fun c4 => ?_)
  · rw [if_neg c4] at hf
    refine v_iload_n X.1 d_M_wanted_13 rfl 2 rfl ?_
    refine v_iconst X.1 (v := (0 : Int32)) d_M_wanted_14 (by decide) ?_
    refine v_iconst X.1 (v := (3 : Int32)) d_M_wanted_15 (by decide) ?_
    obtain ⟨r6, g7, hc5, hf⟩ := ob2_some hf
    refine v_backI X.1 (x_runS X (c_M_in l p2 ((0 : Int32)) ((3 : Int32)) _ _ _ hc5) tw_723 tw_57 tw_721 tw_722 ⟨rfl, rfl, by decide, by decide⟩ ⟨by decide, by show _ = some 3; decide⟩ (rest := [.ref (ad 36)]) rfl (Nat.le_of_ble_eq_true rfl) d_M_wanted_16 (by decide) (by decide)) ?_
    refine v_if_ne X.1 (tgt := 26) d_M_wanted_19 (by decide) (fun c8 => ?_) (fun c8 => ?_)
    · rw [if_neg c8] at hf
      refine v_iconst X.1 (v := (0 : Int32)) d_M_wanted_26 (by decide) ?_
      obtain ⟨g9, eg10, hf⟩ := ob_some hf
      refine v_put X.1 (ci := 5) ⟨in_M, rfl⟩ 36 rfl 0 (by decide) ⟨ty_M_ok, nm_M⟩ (X.t tw_628 rfl) rfl (ty := .int) (by decide +kernel) rfl rfl (Nat.le_of_ble_eq_true rfl) ((sw_40 ad ca _ _).trans (congrArg (wX ad ca) (Option.some.inj eg10))) d_M_wanted_27 ?_
      refine v_aload_n X.1 d_M_wanted_30 rfl 0 rfl ?_
      refine v_get X.1 (ci := 5) ⟨in_M, rfl⟩ 36 rfl 0 (by decide) (X.t tw_628 rfl) rfl d_M_wanted_31 ?_
      refine v_if_le X.1 (tgt := 39) d_M_wanted_34 (by decide) (fun c11 => ?_) (fun c11 => ?_)
      · rw [if_pos c11] at hf
        refine v_iload_n X.1 d_M_wanted_39 rfl 2 rfl ?_
        refine v_if_ne X.1 (tgt := 56) d_M_wanted_40 (by decide) (fun c12 => ?_) (fun c12 => ?_)
        · rw [if_neg c12] at hf
          refine v_iload_n X.1 d_M_wanted_56 rfl 2 rfl ?_
          refine v_iconst X.1 (v := (1 : Int32)) d_M_wanted_57 (by decide) ?_
          refine v_icmp_ne X.1 (tgt := 68) d_M_wanted_58 (by decide) (fun c13 => ?_) (fun c13 => ?_)
          · rw [if_neg c13] at hf
            refine v_iload_n X.1 d_M_wanted_68 rfl 2 rfl ?_
            refine v_iconst X.1 (v := (2 : Int32)) d_M_wanted_69 (by decide) ?_
            refine v_icmp_ne X.1 (tgt := 80) d_M_wanted_70 (by decide) (fun c14 => ?_) (fun c14 => ?_)
            · rw [if_neg c14] at hf
              refine v_iconst X.1 (v := (1 : Int32)) d_M_wanted_80 (by decide) ?_
              refine v_istore_n X.1 (lv' := [(3, .int ((1 : Int32))), (0, .ref (ad 36)), (1, .int p1), (2, .int p2)]) d_M_wanted_81 rfl (by decide) rfl ?_
              exact l_M_wanted_L82 l fu p1 p2 X hno fu _ _ _ _ hf
            · rw [if_pos c14] at hf
              refine v_aload_n X.1 d_M_wanted_73 rfl 0 rfl ?_
              refine v_iload_n X.1 d_M_wanted_74 rfl 1 rfl ?_
              refine v_iconst X.1 (v := (5 : Int32)) d_M_wanted_75 (by decide) ?_
              obtain ⟨r21, g22, hc20, hf⟩ := ob2_some hf
              refine v_backI X.1 (x_runV X (c_M_passing l fu p1 ((5 : Int32)) _ _ _ hc20) rfl tw_859 tw_57 tw_856 tw_858 tw_50 36 5 rfl rfl rfl ⟨rfl, rfl, by decide, by decide⟩ ⟨by decide, by show _ = some 2; decide⟩ (rest := []) rfl (Nat.le_of_ble_eq_true rfl) d_M_wanted_76 (by decide) (by decide)) ?_
              cases hf
              exact v_iret X.1 X.2.2.1 rfl d_M_wanted_79 X.2.2.2.1 (by decide) (by decide)
          · rw [if_pos c13] at hf
            refine v_aload_n X.1 d_M_wanted_61 rfl 0 rfl ?_
            refine v_get X.1 (ci := 5) ⟨in_M, rfl⟩ 36 rfl 12 (by decide) (X.t tw_640 rfl) rfl d_M_wanted_62 ?_
            refine v_iload_n X.1 d_M_wanted_65 rfl 1 rfl ?_
            obtain ⟨hb23, hf⟩ := oi_none hf
            refine v_iald X.1 46 0 rfl rfl hb23 d_M_wanted_66 ?_
            cases hf
            exact v_iret X.1 X.2.2.1 rfl d_M_wanted_67 X.2.2.2.1 (by decide) (by decide)
        · rw [if_pos c12] at hf
          refine v_aload_n X.1 d_M_wanted_43 rfl 0 rfl ?_
          refine v_get X.1 (ci := 5) ⟨in_M, rfl⟩ 36 rfl 9 (by decide) (X.t tw_637 rfl) rfl d_M_wanted_44 ?_
          refine v_iload_n X.1 d_M_wanted_47 rfl 1 rfl ?_
          obtain ⟨hb24, hf⟩ := oi_none hf
          refine v_iald X.1 43 0 rfl rfl hb24 d_M_wanted_48 ?_
          refine v_aload_n X.1 d_M_wanted_49 rfl 0 rfl ?_
          refine v_iload_n X.1 d_M_wanted_50 rfl 1 rfl ?_
          obtain ⟨r26, g27, hc25, hf⟩ := ob2_some hf
          refine v_backI X.1 (x_runV X (c_M_hasGot l fu p1 _ _ _ hc25) rfl tw_815 tw_57 tw_812 tw_814 tw_48 36 5 rfl rfl rfl ⟨rfl, rfl, by decide, by decide⟩ ⟨by decide, by show _ = some 1; decide⟩ (rest := [.int (g9 53 p1.toNatClampNeg)]) rfl (Nat.le_of_ble_eq_true rfl) d_M_wanted_51 (by decide) (by decide)) ?_
          refine v_isub X.1 d_M_wanted_54 ?_
          cases hf
          exact v_iret X.1 X.2.2.1 rfl d_M_wanted_55 X.2.2.2.1 (by decide) (by decide)
      · rw [if_neg c11] at hf
        refine v_iconst X.1 (v := (0 : Int32)) d_M_wanted_37 (by decide) ?_
        cases hf
        exact v_iret X.1 X.2.2.1 rfl d_M_wanted_38 X.2.2.2.1 (by decide) (by decide)
    · rw [if_pos c8] at hf
      refine v_iconst X.1 (v := (2 : Int32)) d_M_wanted_22 (by decide) ?_
      refine v_goto X.1 (tgt := 27) d_M_wanted_23 (by decide) ?_
      obtain ⟨g28, eg29, hf⟩ := ob_some hf
      refine v_put X.1 (ci := 5) ⟨in_M, rfl⟩ 36 rfl 0 (by decide) ⟨ty_M_ok, nm_M⟩ (X.t tw_628 rfl) rfl (ty := .int) (by decide +kernel) rfl rfl (Nat.le_of_ble_eq_true rfl) ((sw_40 ad ca _ _).trans (congrArg (wX ad ca) (Option.some.inj eg29))) d_M_wanted_27 ?_
      refine v_aload_n X.1 d_M_wanted_30 rfl 0 rfl ?_
      refine v_get X.1 (ci := 5) ⟨in_M, rfl⟩ 36 rfl 0 (by decide) (X.t tw_628 rfl) rfl d_M_wanted_31 ?_
      refine v_if_le X.1 (tgt := 39) d_M_wanted_34 (by decide) (fun c30 => ?_) (fun c30 => ?_)
      · rw [if_pos c30] at hf
        refine v_iload_n X.1 d_M_wanted_39 rfl 2 rfl ?_
        refine v_if_ne X.1 (tgt := 56) d_M_wanted_40 (by decide) (fun c31 => ?_) (fun c31 => ?_)
        · rw [if_neg c31] at hf
          refine v_iload_n X.1 d_M_wanted_56 rfl 2 rfl ?_
          refine v_iconst X.1 (v := (1 : Int32)) d_M_wanted_57 (by decide) ?_
          refine v_icmp_ne X.1 (tgt := 68) d_M_wanted_58 (by decide) (fun c32 => ?_) (fun c32 => ?_)
          · rw [if_neg c32] at hf
            refine v_iload_n X.1 d_M_wanted_68 rfl 2 rfl ?_
            refine v_iconst X.1 (v := (2 : Int32)) d_M_wanted_69 (by decide) ?_
            refine v_icmp_ne X.1 (tgt := 80) d_M_wanted_70 (by decide) (fun c33 => ?_) (fun c33 => ?_)
            · rw [if_neg c33] at hf
              refine v_iconst X.1 (v := (1 : Int32)) d_M_wanted_80 (by decide) ?_
              refine v_istore_n X.1 (lv' := [(3, .int ((1 : Int32))), (0, .ref (ad 36)), (1, .int p1), (2, .int p2)]) d_M_wanted_81 rfl (by decide) rfl ?_
              exact l_M_wanted_L82 l fu p1 p2 X hno fu _ _ _ _ hf
            · rw [if_pos c33] at hf
              refine v_aload_n X.1 d_M_wanted_73 rfl 0 rfl ?_
              refine v_iload_n X.1 d_M_wanted_74 rfl 1 rfl ?_
              refine v_iconst X.1 (v := (5 : Int32)) d_M_wanted_75 (by decide) ?_
              obtain ⟨r35, g36, hc34, hf⟩ := ob2_some hf
              refine v_backI X.1 (x_runV X (c_M_passing l fu p1 ((5 : Int32)) _ _ _ hc34) rfl tw_859 tw_57 tw_856 tw_858 tw_50 36 5 rfl rfl rfl ⟨rfl, rfl, by decide, by decide⟩ ⟨by decide, by show _ = some 2; decide⟩ (rest := []) rfl (Nat.le_of_ble_eq_true rfl) d_M_wanted_76 (by decide) (by decide)) ?_
              cases hf
              exact v_iret X.1 X.2.2.1 rfl d_M_wanted_79 X.2.2.2.1 (by decide) (by decide)
          · rw [if_pos c32] at hf
            refine v_aload_n X.1 d_M_wanted_61 rfl 0 rfl ?_
            refine v_get X.1 (ci := 5) ⟨in_M, rfl⟩ 36 rfl 12 (by decide) (X.t tw_640 rfl) rfl d_M_wanted_62 ?_
            refine v_iload_n X.1 d_M_wanted_65 rfl 1 rfl ?_
            obtain ⟨hb37, hf⟩ := oi_none hf
            refine v_iald X.1 46 0 rfl rfl hb37 d_M_wanted_66 ?_
            cases hf
            exact v_iret X.1 X.2.2.1 rfl d_M_wanted_67 X.2.2.2.1 (by decide) (by decide)
        · rw [if_pos c31] at hf
          refine v_aload_n X.1 d_M_wanted_43 rfl 0 rfl ?_
          refine v_get X.1 (ci := 5) ⟨in_M, rfl⟩ 36 rfl 9 (by decide) (X.t tw_637 rfl) rfl d_M_wanted_44 ?_
          refine v_iload_n X.1 d_M_wanted_47 rfl 1 rfl ?_
          obtain ⟨hb38, hf⟩ := oi_none hf
          refine v_iald X.1 43 0 rfl rfl hb38 d_M_wanted_48 ?_
          refine v_aload_n X.1 d_M_wanted_49 rfl 0 rfl ?_
          refine v_iload_n X.1 d_M_wanted_50 rfl 1 rfl ?_
          obtain ⟨r40, g41, hc39, hf⟩ := ob2_some hf
          refine v_backI X.1 (x_runV X (c_M_hasGot l fu p1 _ _ _ hc39) rfl tw_815 tw_57 tw_812 tw_814 tw_48 36 5 rfl rfl rfl ⟨rfl, rfl, by decide, by decide⟩ ⟨by decide, by show _ = some 1; decide⟩ (rest := [.int (g28 53 p1.toNatClampNeg)]) rfl (Nat.le_of_ble_eq_true rfl) d_M_wanted_51 (by decide) (by decide)) ?_
          refine v_isub X.1 d_M_wanted_54 ?_
          cases hf
          exact v_iret X.1 X.2.2.1 rfl d_M_wanted_55 X.2.2.2.1 (by decide) (by decide)
      · rw [if_neg c30] at hf
        refine v_iconst X.1 (v := (0 : Int32)) d_M_wanted_37 (by decide) ?_
        cases hf
        exact v_iret X.1 X.2.2.1 rfl d_M_wanted_38 X.2.2.2.1 (by decide) (by decide)
  · rw [if_pos c4] at hf
    refine v_iconst X.1 (v := (1 : Int32)) d_M_wanted_9 (by decide) ?_
    refine v_goto X.1 (tgt := 27) d_M_wanted_10 (by decide) ?_
    obtain ⟨g42, eg43, hf⟩ := ob_some hf
    refine v_put X.1 (ci := 5) ⟨in_M, rfl⟩ 36 rfl 0 (by decide) ⟨ty_M_ok, nm_M⟩ (X.t tw_628 rfl) rfl (ty := .int) (by decide +kernel) rfl rfl (Nat.le_of_ble_eq_true rfl) ((sw_40 ad ca _ _).trans (congrArg (wX ad ca) (Option.some.inj eg43))) d_M_wanted_27 ?_
    refine v_aload_n X.1 d_M_wanted_30 rfl 0 rfl ?_
    refine v_get X.1 (ci := 5) ⟨in_M, rfl⟩ 36 rfl 0 (by decide) (X.t tw_628 rfl) rfl d_M_wanted_31 ?_
    refine v_if_le X.1 (tgt := 39) d_M_wanted_34 (by decide) (fun c44 => ?_) (fun c44 => ?_)
    · rw [if_pos c44] at hf
      refine v_iload_n X.1 d_M_wanted_39 rfl 2 rfl ?_
      refine v_if_ne X.1 (tgt := 56) d_M_wanted_40 (by decide) (fun c45 => ?_) (fun c45 => ?_)
      · rw [if_neg c45] at hf
        refine v_iload_n X.1 d_M_wanted_56 rfl 2 rfl ?_
        refine v_iconst X.1 (v := (1 : Int32)) d_M_wanted_57 (by decide) ?_
        refine v_icmp_ne X.1 (tgt := 68) d_M_wanted_58 (by decide) (fun c46 => ?_) (fun c46 => ?_)
        · rw [if_neg c46] at hf
          refine v_iload_n X.1 d_M_wanted_68 rfl 2 rfl ?_
          refine v_iconst X.1 (v := (2 : Int32)) d_M_wanted_69 (by decide) ?_
          refine v_icmp_ne X.1 (tgt := 80) d_M_wanted_70 (by decide) (fun c47 => ?_) (fun c47 => ?_)
          · rw [if_neg c47] at hf
            refine v_iconst X.1 (v := (1 : Int32)) d_M_wanted_80 (by decide) ?_
            refine v_istore_n X.1 (lv' := [(3, .int ((1 : Int32))), (0, .ref (ad 36)), (1, .int p1), (2, .int p2)]) d_M_wanted_81 rfl (by decide) rfl ?_
            exact l_M_wanted_L82 l fu p1 p2 X hno fu _ _ _ _ hf
          · rw [if_pos c47] at hf
            refine v_aload_n X.1 d_M_wanted_73 rfl 0 rfl ?_
            refine v_iload_n X.1 d_M_wanted_74 rfl 1 rfl ?_
            refine v_iconst X.1 (v := (5 : Int32)) d_M_wanted_75 (by decide) ?_
            obtain ⟨r49, g50, hc48, hf⟩ := ob2_some hf
            refine v_backI X.1 (x_runV X (c_M_passing l fu p1 ((5 : Int32)) _ _ _ hc48) rfl tw_859 tw_57 tw_856 tw_858 tw_50 36 5 rfl rfl rfl ⟨rfl, rfl, by decide, by decide⟩ ⟨by decide, by show _ = some 2; decide⟩ (rest := []) rfl (Nat.le_of_ble_eq_true rfl) d_M_wanted_76 (by decide) (by decide)) ?_
            cases hf
            exact v_iret X.1 X.2.2.1 rfl d_M_wanted_79 X.2.2.2.1 (by decide) (by decide)
        · rw [if_pos c46] at hf
          refine v_aload_n X.1 d_M_wanted_61 rfl 0 rfl ?_
          refine v_get X.1 (ci := 5) ⟨in_M, rfl⟩ 36 rfl 12 (by decide) (X.t tw_640 rfl) rfl d_M_wanted_62 ?_
          refine v_iload_n X.1 d_M_wanted_65 rfl 1 rfl ?_
          obtain ⟨hb51, hf⟩ := oi_none hf
          refine v_iald X.1 46 0 rfl rfl hb51 d_M_wanted_66 ?_
          cases hf
          exact v_iret X.1 X.2.2.1 rfl d_M_wanted_67 X.2.2.2.1 (by decide) (by decide)
      · rw [if_pos c45] at hf
        refine v_aload_n X.1 d_M_wanted_43 rfl 0 rfl ?_
        refine v_get X.1 (ci := 5) ⟨in_M, rfl⟩ 36 rfl 9 (by decide) (X.t tw_637 rfl) rfl d_M_wanted_44 ?_
        refine v_iload_n X.1 d_M_wanted_47 rfl 1 rfl ?_
        obtain ⟨hb52, hf⟩ := oi_none hf
        refine v_iald X.1 43 0 rfl rfl hb52 d_M_wanted_48 ?_
        refine v_aload_n X.1 d_M_wanted_49 rfl 0 rfl ?_
        refine v_iload_n X.1 d_M_wanted_50 rfl 1 rfl ?_
        obtain ⟨r54, g55, hc53, hf⟩ := ob2_some hf
        refine v_backI X.1 (x_runV X (c_M_hasGot l fu p1 _ _ _ hc53) rfl tw_815 tw_57 tw_812 tw_814 tw_48 36 5 rfl rfl rfl ⟨rfl, rfl, by decide, by decide⟩ ⟨by decide, by show _ = some 1; decide⟩ (rest := [.int (g42 53 p1.toNatClampNeg)]) rfl (Nat.le_of_ble_eq_true rfl) d_M_wanted_51 (by decide) (by decide)) ?_
        refine v_isub X.1 d_M_wanted_54 ?_
        cases hf
        exact v_iret X.1 X.2.2.1 rfl d_M_wanted_55 X.2.2.2.1 (by decide) (by decide)
    · rw [if_neg c44] at hf
      refine v_iconst X.1 (v := (0 : Int32)) d_M_wanted_37 (by decide) ?_
      cases hf
      exact v_iret X.1 X.2.2.1 rfl d_M_wanted_38 X.2.2.2.1 (by decide) (by decide)

def f_M_saved (fu : Nat) (g : xSt) : Option (Int32 × xSt) := (Option.bind (some (xw g 40 0 ((0 : Int32)))) (fun g1 => (ob2 (f_M_savedNow fu g1) (fun r4 g5 => some (r4, g5)))))

set_option maxRecDepth 100000 in
set_option maxHeartbeats 4000000 in
theorem c_M_saved (l : Launch) (fu : Nat) (g : xSt) (r : Int32) (g' : xSt) (hf : f_M_saved fu g = some (r, g')) : xM l y_M_saved (.code y_M_saved b_M_saved 1 (some .int)) ({ frames := 2, cells := 0, slots := 0, locals := 45 } : Room) (fun ad => [.ref (ad 36)]) g (.inl (some (.int r))) g' 0 0 := by
  refine x_contract (by decide) (fun _ => Nat.le_of_ble_eq_true rfl) ?_
  intro p e s m below meth c D ad ca X hno
  unfold f_M_saved at hf
  refine v_aload_n X.1 d_M_saved_0 rfl 0 rfl ?_
  refine v_iconst X.1 (v := (0 : Int32)) d_M_saved_1 (by decide) ?_
  obtain ⟨g1, eg2, hf⟩ := ob_some hf
  refine v_put X.1 (ci := 5) ⟨in_M, rfl⟩ 36 rfl 0 (by decide) ⟨ty_M_ok, nm_M⟩ (X.t tw_628 rfl) rfl (ty := .int) (by decide +kernel) rfl rfl (Nat.le_of_ble_eq_true rfl) ((sw_40 ad ca _ _).trans (congrArg (wX ad ca) (Option.some.inj eg2))) d_M_saved_2 ?_
  refine v_aload_n X.1 d_M_saved_5 rfl 0 rfl ?_
  obtain ⟨r4, g5, hc3, hf⟩ := ob2_some hf
  refine v_backI X.1 (x_runV X (c_M_savedNow l fu _ _ _ hc3) rfl tw_811 tw_57 tw_808 tw_810 tw_47 36 5 rfl rfl rfl ⟨rfl, rfl, by decide, by decide⟩ ⟨by decide, by show _ = some 0; decide⟩ (rest := []) rfl (Nat.le_of_ble_eq_true rfl) d_M_saved_6 (by decide) (by decide)) ?_
  cases hf
  exact v_iret X.1 X.2.2.1 rfl d_M_saved_9 X.2.2.2.1 (by decide) (by decide)

def f_M_count_L38 (fu : Nat) (p1 : Int32) : Nat → Int32 → Int32 → xSt → Option (Int32 × Int32 × xSt)
  | 0, _, _, _ => none
  | n + 1, a2, a3, g => (if (g 43 0) ≤ a3 then some (a2, a3, g) else (if p1 = ((3 : Int32)) then (if a3 < 0 ∨ 64 ≤ a3.toNatClampNeg then none else f_M_count_L38 fu p1 n (a2 + (g 62 a3.toNatClampNeg)) (a3 + (1 : Int32)) g) else some (a2, a3, g)))

def f_M_count_L68 (fu : Nat) (p1 : Int32) : Nat → Int32 → Int32 → xSt → Option (Int32 × Int32 × xSt)
  | 0, _, _, _ => none
  | n + 1, a2, a3, g => (if ((4 : Int32)) ≤ a3 then some (a2, a3, g) else (if p1 = ((4 : Int32)) then (if a3 < 0 ∨ 4 ≤ a3.toNatClampNeg then none else (if (g 59 a3.toNatClampNeg) = 0 then f_M_count_L68 fu p1 n (a2 + ((0 : Int32))) (a3 + (1 : Int32)) g else f_M_count_L68 fu p1 n (a2 + ((1 : Int32))) (a3 + (1 : Int32)) g)) else some (a2, a3, g)))

def f_M_count (fu : Nat) (p1 : Int32) (g : xSt) : Option (Int32 × xSt) := (Option.bind (some (xw g 40 0 ((0 : Int32)))) (fun g1 => (if p1 = 0 then some (g1 41 0, g1) else (if p1 = ((1 : Int32)) then some (g1 42 0, g1) else (if p1 = ((2 : Int32)) then some (g1 43 0, g1) else (ob3 (f_M_count_L38 fu p1 fu ((0 : Int32)) ((0 : Int32)) g1) (fun x9 x10 g11 => (ob3 (f_M_count_L68 fu p1 fu x9 ((0 : Int32)) g11) (fun x17 x18 g19 => (if p1 = ((3 : Int32)) then some (x17, g19) else (if p1 = ((4 : Int32)) then some (x17, g19) else some ((-1 : Int32), g19))))))))))))

set_option maxRecDepth 100000 in
set_option maxHeartbeats 4000000 in
theorem l_M_count_L38 {p : Program} {e : Env} {s : State} {m : MethodId} {below : List Frame} {meth : Method} {c : Code} {D : va_G} {ad : Nat → Nat} {ca : Nat → ClassId} (l : Launch) (fu : Nat) (p1 : Int32) (X : xX p s m ([.ref (ad 36), .int p1] : List Value).toArray meth c b_M_count "CrossDockModel" 4 (some .int) D ad ca) (hno : c.exceptionTable.toList = []) {Q : State → Prop} : ∀ (n : Nat) (a2 : Int32) (a3 : Int32) (g : xSt) (a2' : Int32) (a3' : Int32) (g' : xSt), f_M_count_L38 fu p1 n a2 a3 g = some (a2', a3', g') → xV p l e ({ frames := 0, cells := 0, slots := 0, locals := 0 } : Room) s m ([.ref (ad 36), .int p1] : List Value).toArray below meth c D xcl (wX ad ca) (xA (wX ad ca) s.heap.size) 4 0 0 Q g' 66 [(3, .int a3'), (2, .int a2'), (0, .ref (ad 36)), (1, .int p1)] [] → xV p l e ({ frames := 0, cells := 0, slots := 0, locals := 0 } : Room) s m ([.ref (ad 36), .int p1] : List Value).toArray below meth c D xcl (wX ad ca) (xA (wX ad ca) s.heap.size) 4 0 0 Q g 38 [(3, .int a3), (2, .int a2), (0, .ref (ad 36)), (1, .int p1)] [] := by
  intro n
  induction n with
  | zero =>
    intro a2 a3 g a2' a3' g' hf
    rw [f_M_count_L38] at hf
    cases hf
  | succ n ih =>
    intro a2 a3 g a2' a3' g' hf hk
    rw [f_M_count_L38] at hf
    refine v_iload_n X.1 d_M_count_38 rfl 0 rfl ?_
    refine v_aload_n X.1 d_M_count_39 rfl 2 rfl ?_
    refine v_get X.1 (ci := 5) ⟨in_M, rfl⟩ 36 rfl 16 (by decide) (X.t tw_644 rfl) rfl d_M_count_40 ?_
    refine v_icmp_ge X.1 (tgt := 66) d_M_count_43 (by decide) (fun c6 => ?_) (fun c6 => ?_)
    · rw [if_pos c6] at hf
      cases hf
      refine v_sub [0, 1, 2, 3] rfl ?_
      exact hk
    · rw [if_neg c6] at hf
      refine v_iload_n X.1 d_M_count_46 rfl 3 rfl ?_
      refine v_iconst X.1 (v := (3 : Int32)) d_M_count_47 (by decide) ?_
      refine v_icmp_ne X.1 (tgt := 66) d_M_count_48 (by decide) (fun c7 => ?_) (fun c7 => ?_)
      · rw [if_neg c7] at hf
        cases hf
        refine v_sub [0, 1, 2, 3] rfl ?_
        exact hk
      · rw [if_pos c7] at hf
        refine v_iload_n X.1 d_M_count_51 rfl 1 rfl ?_
        refine v_aload_n X.1 d_M_count_52 rfl 2 rfl ?_
        refine v_get X.1 (ci := 5) ⟨in_M, rfl⟩ 36 rfl 19 (by decide) (X.t tw_647 rfl) rfl d_M_count_53 ?_
        refine v_iload_n X.1 d_M_count_56 rfl 0 rfl ?_
        obtain ⟨hb8, hf⟩ := oi_none hf
        refine v_iald X.1 52 0 rfl rfl hb8 d_M_count_57 ?_
        refine v_iadd X.1 d_M_count_58 ?_
        refine v_istore_n X.1 (lv' := [(2, .int (a2 + (g 62 a3.toNatClampNeg))), (3, .int a3), (0, .ref (ad 36)), (1, .int p1)]) d_M_count_59 rfl (by decide) rfl ?_
        refine v_iinc X.1 (k0 := 1) (v := a3 + (1 : Int32)) (lv' := [(3, .int (a3 + (1 : Int32))), (2, .int (a2 + (g 62 a3.toNatClampNeg))), (0, .ref (ad 36)), (1, .int p1)]) d_M_count_60 rfl rfl (by decide) rfl ?_
        refine v_goto X.1 (tgt := 38) d_M_count_63 (by decide) ?_
        refine v_sub [0, 1, 2, 3] rfl ?_
        exact ih _ _ _ _ _ _ hf hk

set_option maxRecDepth 100000 in
set_option maxHeartbeats 4000000 in
theorem l_M_count_L68 {p : Program} {e : Env} {s : State} {m : MethodId} {below : List Frame} {meth : Method} {c : Code} {D : va_G} {ad : Nat → Nat} {ca : Nat → ClassId} (l : Launch) (fu : Nat) (p1 : Int32) (X : xX p s m ([.ref (ad 36), .int p1] : List Value).toArray meth c b_M_count "CrossDockModel" 4 (some .int) D ad ca) (hno : c.exceptionTable.toList = []) {Q : State → Prop} : ∀ (n : Nat) (a2 : Int32) (a3 : Int32) (g : xSt) (a2' : Int32) (a3' : Int32) (g' : xSt), f_M_count_L68 fu p1 n a2 a3 g = some (a2', a3', g') → xV p l e ({ frames := 0, cells := 0, slots := 0, locals := 0 } : Room) s m ([.ref (ad 36), .int p1] : List Value).toArray below meth c D xcl (wX ad ca) (xA (wX ad ca) s.heap.size) 4 0 0 Q g' 101 [(3, .int a3'), (2, .int a2'), (0, .ref (ad 36)), (1, .int p1)] [] → xV p l e ({ frames := 0, cells := 0, slots := 0, locals := 0 } : Room) s m ([.ref (ad 36), .int p1] : List Value).toArray below meth c D xcl (wX ad ca) (xA (wX ad ca) s.heap.size) 4 0 0 Q g 68 [(3, .int a3), (2, .int a2), (0, .ref (ad 36)), (1, .int p1)] [] := by
  intro n
  induction n with
  | zero =>
    intro a2 a3 g a2' a3' g' hf
    rw [f_M_count_L68] at hf
    cases hf
  | succ n ih =>
    intro a2 a3 g a2' a3' g' hf hk
    rw [f_M_count_L68] at hf
    refine v_iload_n X.1 d_M_count_68 rfl 0 rfl ?_
    refine v_iconst X.1 (v := (4 : Int32)) d_M_count_69 (by decide) ?_
    refine v_icmp_ge X.1 (tgt := 101) d_M_count_70 (by decide) (fun c13 => ?_) (fun c13 => ?_)
    · rw [if_pos c13] at hf
      cases hf
      refine v_sub [0, 1, 2, 3] rfl ?_
      exact hk
    · rw [if_neg c13] at hf
      refine v_iload_n X.1 d_M_count_73 rfl 3 rfl ?_
      refine v_iconst X.1 (v := (4 : Int32)) d_M_count_74 (by decide) ?_
      refine v_icmp_ne X.1 (tgt := 101) d_M_count_75 (by decide) (fun c14 => ?_) (fun c14 => ?_)
      · rw [if_neg c14] at hf
        cases hf
        refine v_sub [0, 1, 2, 3] rfl ?_
        exact hk
      · rw [if_pos c14] at hf
        refine v_iload_n X.1 d_M_count_78 rfl 1 rfl ?_
        refine v_aload_n X.1 d_M_count_79 rfl 2 rfl ?_
        refine v_get X.1 (ci := 5) ⟨in_M, rfl⟩ 36 rfl 15 (by decide) (X.t tw_643 rfl) rfl d_M_count_80 ?_
        refine v_iload_n X.1 d_M_count_83 rfl 0 rfl ?_
        obtain ⟨hb15, hf⟩ := oi_none hf
        refine v_zald X.1 49 1 rfl rfl hb15 d_M_count_84 ?_
        refine v_if_eq X.1 (tgt := 92) d_M_count_85 (by decide) (fun c16 => ?_) (fun c16 => ?_)
        · rw [if_pos c16] at hf
          refine v_iconst X.1 (v := (0 : Int32)) d_M_count_92 (by decide) ?_
          refine v_iadd X.1 d_M_count_93 ?_
          refine v_istore_n X.1 (lv' := [(2, .int (a2 + ((0 : Int32)))), (3, .int a3), (0, .ref (ad 36)), (1, .int p1)]) d_M_count_94 rfl (by decide) rfl ?_
          refine v_iinc X.1 (k0 := 1) (v := a3 + (1 : Int32)) (lv' := [(3, .int (a3 + (1 : Int32))), (2, .int (a2 + ((0 : Int32)))), (0, .ref (ad 36)), (1, .int p1)]) d_M_count_95 rfl rfl (by decide) rfl ?_
          refine v_goto X.1 (tgt := 68) d_M_count_98 (by decide) ?_
          refine v_sub [0, 1, 2, 3] rfl ?_
          exact ih _ _ _ _ _ _ hf hk
        · rw [if_neg c16] at hf
          refine v_iconst X.1 (v := (1 : Int32)) d_M_count_88 (by decide) ?_
          refine v_goto X.1 (tgt := 93) d_M_count_89 (by decide) ?_
          refine v_iadd X.1 d_M_count_93 ?_
          refine v_istore_n X.1 (lv' := [(2, .int (a2 + ((1 : Int32)))), (3, .int a3), (0, .ref (ad 36)), (1, .int p1)]) d_M_count_94 rfl (by decide) rfl ?_
          refine v_iinc X.1 (k0 := 1) (v := a3 + (1 : Int32)) (lv' := [(3, .int (a3 + (1 : Int32))), (2, .int (a2 + ((1 : Int32)))), (0, .ref (ad 36)), (1, .int p1)]) d_M_count_95 rfl rfl (by decide) rfl ?_
          refine v_goto X.1 (tgt := 68) d_M_count_98 (by decide) ?_
          refine v_sub [0, 1, 2, 3] rfl ?_
          exact ih _ _ _ _ _ _ hf hk

set_option maxRecDepth 100000 in
set_option maxHeartbeats 4000000 in
theorem c_M_count (l : Launch) (fu : Nat) (p1 : Int32) (g : xSt) (r : Int32) (g' : xSt) (hf : f_M_count fu p1 g = some (r, g')) : xM l y_M_count (.code y_M_count b_M_count 4 (some .int)) ({ frames := 0, cells := 0, slots := 0, locals := 0 } : Room) (fun ad => [.ref (ad 36), .int p1]) g (.inl (some (.int r))) g' 0 0 := by
  refine x_contract (by decide) (fun _ => Nat.le_of_ble_eq_true rfl) ?_
  intro p e s m below meth c D ad ca X hno
  unfold f_M_count at hf
  refine v_aload_n X.1 d_M_count_0 rfl 0 rfl ?_
  refine v_iconst X.1 (v := (0 : Int32)) d_M_count_1 (by decide) ?_
  obtain ⟨g1, eg2, hf⟩ := ob_some hf
  refine v_put X.1 (ci := 5) ⟨in_M, rfl⟩ 36 rfl 0 (by decide) ⟨ty_M_ok, nm_M⟩ (X.t tw_628 rfl) rfl (ty := .int) (by decide +kernel) rfl rfl (Nat.le_of_ble_eq_true rfl) ((sw_40 ad ca _ _).trans (congrArg (wX ad ca) (Option.some.inj eg2))) d_M_count_2 ?_
  refine v_iload_n X.1 d_M_count_5 rfl 1 rfl ?_
  refine v_if_ne X.1 (tgt := 14) d_M_count_6 (by decide) (fun c3 => ?_) (fun c3 => ?_)
  · rw [if_neg c3] at hf
    refine v_iload_n X.1 d_M_count_14 rfl 1 rfl ?_
    refine v_iconst X.1 (v := (1 : Int32)) d_M_count_15 (by decide) ?_
    refine v_icmp_ne X.1 (tgt := 24) d_M_count_16 (by decide) (fun c4 => ?_) (fun c4 => ?_)
    · rw [if_neg c4] at hf
      refine v_iload_n X.1 d_M_count_24 rfl 1 rfl ?_
      refine v_iconst X.1 (v := (2 : Int32)) d_M_count_25 (by decide) ?_
      refine v_icmp_ne X.1 (tgt := 34) d_M_count_26 (by decide) (fun c5 => ?_) (fun c5 => ?_)
      · rw [if_neg c5] at hf
        refine v_iconst X.1 (v := (0 : Int32)) d_M_count_34 (by decide) ?_
        refine v_istore_n X.1 (lv' := [(2, .int ((0 : Int32))), (0, .ref (ad 36)), (1, .int p1)]) d_M_count_35 rfl (by decide) rfl ?_
        refine v_iconst X.1 (v := (0 : Int32)) d_M_count_36 (by decide) ?_
        refine v_istore_n X.1 (lv' := [(3, .int ((0 : Int32))), (2, .int ((0 : Int32))), (0, .ref (ad 36)), (1, .int p1)]) d_M_count_37 rfl (by decide) rfl ?_
        obtain ⟨x9, x10, g11, hL12, hf⟩ := ob3_some hf
        refine l_M_count_L38 l fu p1 X hno fu _ _ _ _ _ _ hL12 ?_
        refine v_iconst X.1 (v := (0 : Int32)) d_M_count_66 (by decide) ?_
        refine v_istore_n X.1 (lv' := [(3, .int ((0 : Int32))), (2, .int x9), (0, .ref (ad 36)), (1, .int p1)]) d_M_count_67 rfl (by decide) rfl ?_
        obtain ⟨x17, x18, g19, hL20, hf⟩ := ob3_some hf
        refine l_M_count_L68 l fu p1 X hno fu _ _ _ _ _ _ hL20 ?_
        refine v_iload_n X.1 d_M_count_101 rfl 3 rfl ?_
        refine v_iconst X.1 (v := (3 : Int32)) d_M_count_102 (by decide) ?_
        refine v_icmp_eq X.1 (tgt := 111) d_M_count_103 (by decide) (fun c21 => ?_) (fun c21 => ?_)
        · rw [if_pos c21] at hf
          refine v_iload_n X.1 d_M_count_111 rfl 1 rfl ?_
          refine v_goto X.1 (tgt := 116) d_M_count_112 (by decide) ?_
          cases hf
          exact v_iret X.1 X.2.2.1 rfl d_M_count_116 X.2.2.2.1 (by decide) (by decide)
        · rw [if_neg c21] at hf
          refine v_iload_n X.1 d_M_count_106 rfl 3 rfl ?_
          refine v_iconst X.1 (v := (4 : Int32)) d_M_count_107 (by decide) ?_
          refine v_icmp_ne X.1 (tgt := 115) d_M_count_108 (by decide) (fun c22 => ?_) (fun c22 => ?_)
          · rw [if_neg c22] at hf
            refine v_iconst X.1 (v := (-1 : Int32)) d_M_count_115 (by decide) ?_
            cases hf
            exact v_iret X.1 X.2.2.1 rfl d_M_count_116 X.2.2.2.1 (by decide) (by decide)
          · rw [if_pos c22] at hf
            refine v_iload_n X.1 d_M_count_111 rfl 1 rfl ?_
            refine v_goto X.1 (tgt := 116) d_M_count_112 (by decide) ?_
            cases hf
            exact v_iret X.1 X.2.2.1 rfl d_M_count_116 X.2.2.2.1 (by decide) (by decide)
      · rw [if_pos c5] at hf
        refine v_aload_n X.1 d_M_count_29 rfl 0 rfl ?_
        refine v_get X.1 (ci := 5) ⟨in_M, rfl⟩ 36 rfl 16 (by decide) (X.t tw_644 rfl) rfl d_M_count_30 ?_
        cases hf
        exact v_iret X.1 X.2.2.1 rfl d_M_count_33 X.2.2.2.1 (by decide) (by decide)
    · rw [if_pos c4] at hf
      refine v_aload_n X.1 d_M_count_19 rfl 0 rfl ?_
      refine v_get X.1 (ci := 5) ⟨in_M, rfl⟩ 36 rfl 7 (by decide) (X.t tw_635 rfl) rfl d_M_count_20 ?_
      cases hf
      exact v_iret X.1 X.2.2.1 rfl d_M_count_23 X.2.2.2.1 (by decide) (by decide)
  · rw [if_pos c3] at hf
    refine v_aload_n X.1 d_M_count_9 rfl 0 rfl ?_
    refine v_get X.1 (ci := 5) ⟨in_M, rfl⟩ 36 rfl 1 (by decide) (X.t tw_629 rfl) rfl d_M_count_10 ?_
    cases hf
    exact v_iret X.1 X.2.2.1 rfl d_M_count_13 X.2.2.2.1 (by decide) (by decide)

