def f_D_obstacle (p1 : Int32) (p2 : Int32) (g : xSt) : Option (Int32 × xSt) := (if p1 < 0 ∨ 8 ≤ p1.toNatClampNeg then none else (if p2 < 0 ∨ 8 ≤ p2.toNatClampNeg then none else (if (g 24 p1.toNatClampNeg) = (g 30 p2.toNatClampNeg) then (if (g 26 p1.toNatClampNeg) ≤ (g 34 p2.toNatClampNeg) then (ob2 (f_O_takesLot p2.toNatClampNeg (g 25 p1.toNatClampNeg) g) (fun r8 g9 => (if r8 = 0 then some ((3 : Int32), g9) else (ob2 (f_A_isBarredFor p1.toNatClampNeg p2 g9) (fun r12 g13 => (if r12 = 0 then (if (g13 33 p2.toNatClampNeg) < 0 ∨ 4 ≤ (g13 33 p2.toNatClampNeg).toNatClampNeg then none else (if (g13 4 (g13 33 p2.toNatClampNeg).toNatClampNeg) = 0 then some ((0 : Int32), g13) else some ((5 : Int32), g13))) else some ((4 : Int32), g13))))))) else some ((2 : Int32), g)) else some ((1 : Int32), g))))

set_option maxRecDepth 100000 in
set_option maxHeartbeats 4000000 in
theorem c_D_obstacle (l : Launch) (p1 : Int32) (p2 : Int32) (g : xSt) (r : Int32) (g' : xSt) (hf : f_D_obstacle p1 p2 g = some (r, g')) : xM l y_D_obstacle (.code y_D_obstacle b_D_obstacle 5 (some .int)) ({ frames := 1, cells := 0, slots := 0, locals := 21 } : Room) (fun ad => [.ref (ad 0), .int p1, .int p2]) g (.inl (some (.int r))) g' 0 0 := by
  refine x_contract (by decide) (fun _ => Nat.le_of_ble_eq_true rfl) ?_
  intro p e s m below meth c D ad ca X hno
  unfold f_D_obstacle at hf
  refine v_aload_n X.1 d_D_obstacle_0 rfl 0 rfl ?_
  refine v_get X.1 (ci := 0) ⟨in_D, rfl⟩ 0 rfl 0 (by decide) (X.t tw_212 rfl) rfl d_D_obstacle_1 ?_
  refine v_iload_n X.1 d_D_obstacle_4 rfl 1 rfl ?_
  obtain ⟨hb1, hf⟩ := oi_none hf
  have hp2 : p1.toNatClampNeg < 8 := Nat.not_le.mp (fun q => hb1 (Or.inr q))
  refine v_aald X.1 (b := ad (20 + p1.toNatClampNeg)) 1 2 rfl rfl hb1 rfl d_D_obstacle_5 ?_
  refine v_astore_n X.1 (lv' := [(3, .ref (ad (20 + p1.toNatClampNeg))), (0, .ref (ad 0)), (1, .int p1), (2, .int p2)]) d_D_obstacle_6 rfl (by decide) rfl ?_
  refine v_aload_n X.1 d_D_obstacle_7 rfl 1 rfl ?_
  refine v_get X.1 (ci := 0) ⟨in_D, rfl⟩ 0 rfl 1 (by decide) (X.t tw_213 rfl) rfl d_D_obstacle_8 ?_
  refine v_iload_n X.1 d_D_obstacle_11 rfl 3 rfl ?_
  obtain ⟨hb3, hf⟩ := oi_none hf
  have hp4 : p2.toNatClampNeg < 8 := Nat.not_le.mp (fun q => hb3 (Or.inr q))
  refine v_aald X.1 (b := ad (28 + p2.toNatClampNeg)) 2 3 rfl rfl hb3 rfl d_D_obstacle_12 ?_
  refine v_astore X.1 (lv' := [(4, .ref (ad (28 + p2.toNatClampNeg))), (3, .ref (ad (20 + p1.toNatClampNeg))), (0, .ref (ad 0)), (1, .int p1), (2, .int p2)]) d_D_obstacle_13 (by decide) rfl ?_
  refine v_aload_n X.1 d_D_obstacle_15 rfl 1 rfl ?_
  refine v_getN X.1 (ci := 1) ⟨in_A, rfl⟩ (20 + p1.toNatClampNeg) (wA_at ad ca _ hp2) 0 (by decide) (X.t tw_82 rfl) rfl d_D_obstacle_16 ?_
  refine v_aload X.1 d_D_obstacle_19 0 rfl ?_
  refine v_getN X.1 (ci := 2) ⟨in_O, rfl⟩ (28 + p2.toNatClampNeg) (wO_at ad ca _ hp4) 0 (by decide) (X.t tw_113 rfl) rfl d_D_obstacle_21 ?_
  refine v_icmp_eq X.1 (tgt := 29) d_D_obstacle_24 (by decide) (fun c5 => ?_) (fun c5 => ?_)
  · rw [if_pos c5] at hf
    refine v_aload_n X.1 d_D_obstacle_29 rfl 1 rfl ?_
    refine v_getN X.1 (ci := 1) ⟨in_A, rfl⟩ (20 + p1.toNatClampNeg) (wA_at ad ca _ hp2) 2 (by decide) (X.t tw_86 rfl) rfl d_D_obstacle_30 ?_
    refine v_aload X.1 d_D_obstacle_33 0 rfl ?_
    refine v_getN X.1 (ci := 2) ⟨in_O, rfl⟩ (28 + p2.toNatClampNeg) (wO_at ad ca _ hp4) 4 (by decide) (X.t tw_117 rfl) rfl d_D_obstacle_35 ?_
    refine v_icmp_le X.1 (tgt := 43) d_D_obstacle_38 (by decide) (fun c6 => ?_) (fun c6 => ?_)
    · rw [if_pos c6] at hf
      refine v_aload X.1 d_D_obstacle_43 0 rfl ?_
      refine v_aload_n X.1 d_D_obstacle_45 rfl 1 rfl ?_
      refine v_getN X.1 (ci := 1) ⟨in_A, rfl⟩ (20 + p1.toNatClampNeg) (wA_at ad ca _ hp2) 1 (by decide) (X.t tw_84 rfl) rfl d_D_obstacle_46 ?_
      obtain ⟨r8, g9, hc7, hf⟩ := ob2_some hf
      refine v_backI X.1 (x_runN X (c_O_takesLot l p2.toNatClampNeg (g 25 p1.toNatClampNeg) hp4 _ _ _ hc7) rfl tw_269 tw_54 tw_266 tw_268 tw_3 (28 + p2.toNatClampNeg) 2 (wO_at ad ca _ hp4) rfl rfl ⟨rfl, rfl, by decide, by decide⟩ ⟨by decide, by show _ = some 1; decide⟩ (rest := []) rfl (Nat.le_of_ble_eq_true rfl) d_D_obstacle_49 (by decide) (by decide)) ?_
      refine v_if_ne X.1 (tgt := 57) d_D_obstacle_52 (by decide) (fun c10 => ?_) (fun c10 => ?_)
      · rw [if_neg c10] at hf
        refine v_aload_n X.1 d_D_obstacle_57 rfl 1 rfl ?_
        refine v_iload_n X.1 d_D_obstacle_58 rfl 4 rfl ?_
        obtain ⟨r12, g13, hc11, hf⟩ := ob2_some hf
        refine v_backI X.1 (x_runN X (c_A_isBarredFor l p1.toNatClampNeg p2 hp2 _ _ _ hc11) rfl tw_273 tw_53 tw_270 tw_272 tw_4 (20 + p1.toNatClampNeg) 1 (wA_at ad ca _ hp2) rfl rfl ⟨rfl, rfl, by decide, by decide⟩ ⟨by decide, by show _ = some 1; decide⟩ (rest := []) rfl (Nat.le_of_ble_eq_true rfl) d_D_obstacle_59 (by decide) (by decide)) ?_
        refine v_if_eq X.1 (tgt := 67) d_D_obstacle_62 (by decide) (fun c14 => ?_) (fun c14 => ?_)
        · rw [if_pos c14] at hf
          refine v_aload_n X.1 d_D_obstacle_67 rfl 2 rfl ?_
          refine v_get X.1 (ci := 0) ⟨in_D, rfl⟩ 0 rfl 2 (by decide) (X.t tw_214 rfl) rfl d_D_obstacle_68 ?_
          refine v_aload X.1 d_D_obstacle_71 0 rfl ?_
          refine v_getN X.1 (ci := 2) ⟨in_O, rfl⟩ (28 + p2.toNatClampNeg) (wO_at ad ca _ hp4) 3 (by decide) (X.t tw_116 rfl) rfl d_D_obstacle_73 ?_
          obtain ⟨hb15, hf⟩ := oi_none hf
          refine v_zald X.1 3 1 rfl rfl hb15 d_D_obstacle_76 ?_
          refine v_if_eq X.1 (tgt := 84) d_D_obstacle_77 (by decide) (fun c16 => ?_) (fun c16 => ?_)
          · rw [if_pos c16] at hf
            refine v_iconst X.1 (v := (0 : Int32)) d_D_obstacle_84 (by decide) ?_
            cases hf
            exact v_iret X.1 X.2.2.1 rfl d_D_obstacle_85 X.2.2.2.1 (by decide) (by decide)
          · rw [if_neg c16] at hf
            refine v_iconst X.1 (v := (5 : Int32)) d_D_obstacle_80 (by decide) ?_
            refine v_goto X.1 (tgt := 85) d_D_obstacle_81 (by decide) ?_
            cases hf
            exact v_iret X.1 X.2.2.1 rfl d_D_obstacle_85 X.2.2.2.1 (by decide) (by decide)
        · rw [if_neg c14] at hf
          refine v_iconst X.1 (v := (4 : Int32)) d_D_obstacle_65 (by decide) ?_
          cases hf
          exact v_iret X.1 X.2.2.1 rfl d_D_obstacle_66 X.2.2.2.1 (by decide) (by decide)
      · rw [if_pos c10] at hf
        refine v_iconst X.1 (v := (3 : Int32)) d_D_obstacle_55 (by decide) ?_
        cases hf
        exact v_iret X.1 X.2.2.1 rfl d_D_obstacle_56 X.2.2.2.1 (by decide) (by decide)
    · rw [if_neg c6] at hf
      refine v_iconst X.1 (v := (2 : Int32)) d_D_obstacle_41 (by decide) ?_
      cases hf
      exact v_iret X.1 X.2.2.1 rfl d_D_obstacle_42 X.2.2.2.1 (by decide) (by decide)
  · rw [if_neg c5] at hf
    refine v_iconst X.1 (v := (1 : Int32)) d_D_obstacle_27 (by decide) ?_
    cases hf
    exact v_iret X.1 X.2.2.1 rfl d_D_obstacle_28 X.2.2.2.1 (by decide) (by decide)

def f_D_mayServe (p1 : Int32) (p2 : Int32) (g : xSt) : Option (Int32 × xSt) := (ob2 (f_D_obstacle p1 p2 g) (fun r2 g3 => (if r2 = 0 then some ((1 : Int32), g3) else some ((0 : Int32), g3))))

set_option maxRecDepth 100000 in
set_option maxHeartbeats 4000000 in
theorem c_D_mayServe (l : Launch) (p1 : Int32) (p2 : Int32) (g : xSt) (r : Int32) (g' : xSt) (hf : f_D_mayServe p1 p2 g = some (r, g')) : xM l y_D_mayServe (.code y_D_mayServe b_D_mayServe 3 (some .boolean)) ({ frames := 2, cells := 0, slots := 0, locals := 45 } : Room) (fun ad => [.ref (ad 0), .int p1, .int p2]) g (.inl (some (.int r))) g' 0 0 := by
  refine x_contract (by decide) (fun _ => Nat.le_of_ble_eq_true rfl) ?_
  intro p e s m below meth c D ad ca X hno
  unfold f_D_mayServe at hf
  refine v_aload_n X.1 d_D_mayServe_0 rfl 0 rfl ?_
  refine v_iload_n X.1 d_D_mayServe_1 rfl 1 rfl ?_
  refine v_iload_n X.1 d_D_mayServe_2 rfl 2 rfl ?_
  obtain ⟨r2, g3, hc1, hf⟩ := ob2_some hf
  refine v_backI X.1 (x_runV X (c_D_obstacle l p1 p2 _ _ _ hc1) rfl tw_265 tw_52 tw_262 tw_264 tw_2 0 0 rfl rfl rfl ⟨rfl, rfl, by decide, by decide⟩ ⟨by decide, by show _ = some 2; decide⟩ (rest := []) rfl (Nat.le_of_ble_eq_true rfl) d_D_mayServe_3 (by decide) (by decide)) ?_
  refine v_if_ne X.1 (tgt := 13) d_D_mayServe_6 (by decide) (fun c4 => ?_) (fun c4 => ?_)
  · rw [if_neg c4] at hf
    refine v_iconst X.1 (v := (0 : Int32)) d_D_mayServe_13 (by decide) ?_
    cases hf
    exact v_iret X.1 X.2.2.1 rfl d_D_mayServe_14 X.2.2.2.1 (by decide) (by decide)
  · rw [if_pos c4] at hf
    refine v_iconst X.1 (v := (1 : Int32)) d_D_mayServe_9 (by decide) ?_
    refine v_goto X.1 (tgt := 14) d_D_mayServe_10 (by decide) ?_
    cases hf
    exact v_iret X.1 X.2.2.1 rfl d_D_mayServe_14 X.2.2.2.1 (by decide) (by decide)

def f_D_isUnfit (p1 : Int32) (p2 : Int32) (g : xSt) : Option (Int32 × xSt) := (ob2 (f_D_obstacle p1 p2 g) (fun r2 g3 => (if r2 = 0 then some ((0 : Int32), g3) else (if r2 = ((5 : Int32)) then some ((0 : Int32), g3) else some ((1 : Int32), g3)))))

set_option maxRecDepth 100000 in
set_option maxHeartbeats 4000000 in
theorem c_D_isUnfit (l : Launch) (p1 : Int32) (p2 : Int32) (g : xSt) (r : Int32) (g' : xSt) (hf : f_D_isUnfit p1 p2 g = some (r, g')) : xM l y_D_isUnfit (.code y_D_isUnfit b_D_isUnfit 4 (some .boolean)) ({ frames := 2, cells := 0, slots := 0, locals := 45 } : Room) (fun ad => [.ref (ad 0), .int p1, .int p2]) g (.inl (some (.int r))) g' 0 0 := by
  refine x_contract (by decide) (fun _ => Nat.le_of_ble_eq_true rfl) ?_
  intro p e s m below meth c D ad ca X hno
  unfold f_D_isUnfit at hf
  refine v_aload_n X.1 d_D_isUnfit_0 rfl 0 rfl ?_
  refine v_iload_n X.1 d_D_isUnfit_1 rfl 1 rfl ?_
  refine v_iload_n X.1 d_D_isUnfit_2 rfl 2 rfl ?_
  obtain ⟨r2, g3, hc1, hf⟩ := ob2_some hf
  refine v_backI X.1 (x_runV X (c_D_obstacle l p1 p2 _ _ _ hc1) rfl tw_265 tw_52 tw_262 tw_264 tw_2 0 0 rfl rfl rfl ⟨rfl, rfl, by decide, by decide⟩ ⟨by decide, by show _ = some 2; decide⟩ (rest := []) rfl (Nat.le_of_ble_eq_true rfl) d_D_isUnfit_3 (by decide) (by decide)) ?_
  refine v_istore_n X.1 (lv' := [(3, .int r2), (0, .ref (ad 0)), (1, .int p1), (2, .int p2)]) d_D_isUnfit_6 rfl (by decide) rfl ?_
  refine v_iload_n X.1 d_D_isUnfit_7 rfl 0 rfl ?_
  refine v_if_eq X.1 (tgt := 20) d_D_isUnfit_8 (by decide) (fun c4 => ?_) (fun c4 => ?_)
  · rw [if_pos c4] at hf
    refine v_iconst X.1 (v := (0 : Int32)) d_D_isUnfit_20 (by decide) ?_
    cases hf
    exact v_iret X.1 X.2.2.1 rfl d_D_isUnfit_21 X.2.2.2.1 (by decide) (by decide)
  · rw [if_neg c4] at hf
    refine v_iload_n X.1 d_D_isUnfit_11 rfl 0 rfl ?_
    refine v_iconst X.1 (v := (5 : Int32)) d_D_isUnfit_12 (by decide) ?_
    refine v_icmp_eq X.1 (tgt := 20) d_D_isUnfit_13 (by decide) (fun c5 => ?_) (fun c5 => ?_)
    · rw [if_pos c5] at hf
      refine v_iconst X.1 (v := (0 : Int32)) d_D_isUnfit_20 (by decide) ?_
      cases hf
      exact v_iret X.1 X.2.2.1 rfl d_D_isUnfit_21 X.2.2.2.1 (by decide) (by decide)
    · rw [if_neg c5] at hf
      refine v_iconst X.1 (v := (1 : Int32)) d_D_isUnfit_16 (by decide) ?_
      refine v_goto X.1 (tgt := 21) d_D_isUnfit_17 (by decide) ?_
      cases hf
      exact v_iret X.1 X.2.2.1 rfl d_D_isUnfit_21 X.2.2.2.1 (by decide) (by decide)

def f_D_whatBarsAll_L4 (fu : Nat) (p1 : Int32) : Nat → Int32 → Int32 → xSt → Option (Int32 × xSt)
  | 0, _, _, _ => none
  | n + 1, a2, a3, g => (if (g 0 0) ≤ a3 then some (a2, g) else (ob2 (f_D_obstacle a3 p1 g) (fun r3 g4 => (if r3 = 0 then some ((0 : Int32), g4) else f_D_whatBarsAll_L4 fu p1 n (if a2 < r3 then r3 else a2) (a3 + (1 : Int32)) g4))))

def f_D_whatBarsAll (fu : Nat) (p1 : Int32) (g : xSt) : Option (Int32 × xSt) := f_D_whatBarsAll_L4 fu p1 fu ((1 : Int32)) ((0 : Int32)) g

set_option maxRecDepth 100000 in
set_option maxHeartbeats 4000000 in
theorem l_D_whatBarsAll_L4 {p : Program} {e : Env} {s : State} {m : MethodId} {below : List Frame} {meth : Method} {c : Code} {D : va_G} {ad : Nat → Nat} {ca : Nat → ClassId} (l : Launch) (fu : Nat) (p1 : Int32) (X : xX p s m ([.ref (ad 0), .int p1] : List Value).toArray meth c b_D_whatBarsAll "CrossDock" 5 (some .int) D ad ca) (hno : c.exceptionTable.toList = []) : ∀ (n : Nat) (a2 : Int32) (a3 : Int32) (g : xSt) (r : Int32) (g' : xSt), f_D_whatBarsAll_L4 fu p1 n a2 a3 g = some (r, g') → xV p l e ({ frames := 2, cells := 0, slots := 0, locals := 45 } : Room) s m ([.ref (ad 0), .int p1] : List Value).toArray below meth c D xcl (wX ad ca) (xA (wX ad ca) s.heap.size) 5 0 0 (xMQ below (xQ D xcl (wX ad ca) (xA (wX ad ca) s.heap.size) (.inl (some (.int r))) g') ([.ref (ad 0), .int p1] : List Value).toArray s 0 0 (xA (wX ad ca) s.heap.size)) g 4 [(3, .int a3), (2, .int a2), (0, .ref (ad 0)), (1, .int p1)] [] := by
  intro n
  induction n with
  | zero =>
    intro a2 a3 g r g' hf
    rw [f_D_whatBarsAll_L4] at hf
    cases hf
  | succ n ih =>
    intro a2 a3 g r g' hf
    rw [f_D_whatBarsAll_L4] at hf
    refine v_iload_n X.1 d_D_whatBarsAll_4 rfl 0 rfl ?_
    refine v_aload_n X.1 d_D_whatBarsAll_5 rfl 2 rfl ?_
    refine v_get X.1 (ci := 0) ⟨in_D, rfl⟩ 0 rfl 7 (by decide) (X.t tw_219 rfl) rfl d_D_whatBarsAll_6 ?_
    refine v_icmp_ge X.1 (tgt := 40) d_D_whatBarsAll_9 (by decide) (fun c1 => ?_) (fun c1 => ?_)
    · rw [if_pos c1] at hf
      refine v_iload_n X.1 d_D_whatBarsAll_40 rfl 1 rfl ?_
      cases hf
      exact v_iret X.1 X.2.2.1 rfl d_D_whatBarsAll_41 X.2.2.2.1 (by decide) (by decide)
    · rw [if_neg c1] at hf
      refine v_aload_n X.1 d_D_whatBarsAll_12 rfl 2 rfl ?_
      refine v_iload_n X.1 d_D_whatBarsAll_13 rfl 0 rfl ?_
      refine v_iload_n X.1 d_D_whatBarsAll_14 rfl 3 rfl ?_
      obtain ⟨r3, g4, hc2, hf⟩ := ob2_some hf
      refine v_backI X.1 (x_runV X (c_D_obstacle l a3 p1 _ _ _ hc2) rfl tw_265 tw_52 tw_262 tw_264 tw_2 0 0 rfl rfl rfl ⟨rfl, rfl, by decide, by decide⟩ ⟨by decide, by show _ = some 2; decide⟩ (rest := []) rfl (Nat.le_of_ble_eq_true rfl) d_D_whatBarsAll_15 (by decide) (by decide)) ?_
      refine v_istore X.1 (lv' := [(4, .int r3), (3, .int a3), (2, .int a2), (0, .ref (ad 0)), (1, .int p1)]) d_D_whatBarsAll_18 (by decide) rfl ?_
      refine v_iload X.1 d_D_whatBarsAll_20 0 rfl ?_
      refine v_if_ne X.1 (tgt := 27) d_D_whatBarsAll_22 (by decide) (fun c5 => ?_) (fun c5 => ?_)
      · rw [if_neg c5] at hf
        refine v_iload_n X.1 d_D_whatBarsAll_27 rfl 2 rfl ?_
        refine v_iload X.1 d_D_whatBarsAll_28 0 rfl ?_
        refine v_max X tw_619 tw_620 tw_66 twM_max ⟨by decide, Nat.le_of_ble_eq_true rfl, by decide, by decide⟩ d_D_whatBarsAll_30 ?_
        refine v_istore_n X.1 (lv' := [(2, .int (if a2 < r3 then r3 else a2)), (4, .int r3), (3, .int a3), (0, .ref (ad 0)), (1, .int p1)]) d_D_whatBarsAll_33 rfl (by decide) rfl ?_
        refine v_iinc X.1 (k0 := 2) (v := a3 + (1 : Int32)) (lv' := [(3, .int (a3 + (1 : Int32))), (2, .int (if a2 < r3 then r3 else a2)), (4, .int r3), (0, .ref (ad 0)), (1, .int p1)]) d_D_whatBarsAll_34 rfl rfl (by decide) rfl ?_
        refine v_goto X.1 (tgt := 4) d_D_whatBarsAll_37 (by decide) ?_
        refine v_sub [0, 1, 3, 4] rfl ?_
        exact ih _ _ _ _ _ hf
      · rw [if_pos c5] at hf
        refine v_iconst X.1 (v := (0 : Int32)) d_D_whatBarsAll_25 (by decide) ?_
        cases hf
        exact v_iret X.1 X.2.2.1 rfl d_D_whatBarsAll_26 X.2.2.2.1 (by decide) (by decide)

set_option maxRecDepth 100000 in
set_option maxHeartbeats 4000000 in
theorem c_D_whatBarsAll (l : Launch) (fu : Nat) (p1 : Int32) (g : xSt) (r : Int32) (g' : xSt) (hf : f_D_whatBarsAll fu p1 g = some (r, g')) : xM l y_D_whatBarsAll (.code y_D_whatBarsAll b_D_whatBarsAll 5 (some .int)) ({ frames := 2, cells := 0, slots := 0, locals := 45 } : Room) (fun ad => [.ref (ad 0), .int p1]) g (.inl (some (.int r))) g' 0 0 := by
  refine x_contract (by decide) (fun _ => Nat.le_of_ble_eq_true rfl) ?_
  intro p e s m below meth c D ad ca X hno
  unfold f_D_whatBarsAll at hf
  refine v_iconst X.1 (v := (1 : Int32)) d_D_whatBarsAll_0 (by decide) ?_
  refine v_istore_n X.1 (lv' := [(2, .int ((1 : Int32))), (0, .ref (ad 0)), (1, .int p1)]) d_D_whatBarsAll_1 rfl (by decide) rfl ?_
  refine v_iconst X.1 (v := (0 : Int32)) d_D_whatBarsAll_2 (by decide) ?_
  refine v_istore_n X.1 (lv' := [(3, .int ((0 : Int32))), (2, .int ((1 : Int32))), (0, .ref (ad 0)), (1, .int p1)]) d_D_whatBarsAll_3 rfl (by decide) rfl ?_
  exact l_D_whatBarsAll_L4 l fu p1 X hno fu _ _ _ _ _ hf

def f_D_ordersFor_L4 (fu : Nat) (p1 : Int32) : Nat → Int32 → Int32 → xSt → Option (Int32 × Int32 × xSt)
  | 0, _, _, _ => none
  | n + 1, a2, a3, g => (if (g 1 0) ≤ a3 then some (a2, a3, g) else (ob2 (f_D_mayServe p1 a3 g) (fun r3 g4 => (if r3 = 0 then f_D_ordersFor_L4 fu p1 n a2 (a3 + (1 : Int32)) g4 else f_D_ordersFor_L4 fu p1 n (a2 + (1 : Int32)) (a3 + (1 : Int32)) g4))))

def f_D_ordersFor (fu : Nat) (p1 : Int32) (g : xSt) : Option (Int32 × xSt) := (ob3 (f_D_ordersFor_L4 fu p1 fu ((0 : Int32)) ((0 : Int32)) g) (fun x6 x7 g8 => some (x6, g8)))

set_option maxRecDepth 100000 in
set_option maxHeartbeats 4000000 in
theorem l_D_ordersFor_L4 {p : Program} {e : Env} {s : State} {m : MethodId} {below : List Frame} {meth : Method} {c : Code} {D : va_G} {ad : Nat → Nat} {ca : Nat → ClassId} (l : Launch) (fu : Nat) (p1 : Int32) (X : xX p s m ([.ref (ad 0), .int p1] : List Value).toArray meth c b_D_ordersFor "CrossDock" 4 (some .int) D ad ca) (hno : c.exceptionTable.toList = []) {Q : State → Prop} : ∀ (n : Nat) (a2 : Int32) (a3 : Int32) (g : xSt) (a2' : Int32) (a3' : Int32) (g' : xSt), f_D_ordersFor_L4 fu p1 n a2 a3 g = some (a2', a3', g') → xV p l e ({ frames := 3, cells := 0, slots := 0, locals := 67 } : Room) s m ([.ref (ad 0), .int p1] : List Value).toArray below meth c D xcl (wX ad ca) (xA (wX ad ca) s.heap.size) 4 0 0 Q g' 30 [(3, .int a3'), (2, .int a2'), (0, .ref (ad 0)), (1, .int p1)] [] → xV p l e ({ frames := 3, cells := 0, slots := 0, locals := 67 } : Room) s m ([.ref (ad 0), .int p1] : List Value).toArray below meth c D xcl (wX ad ca) (xA (wX ad ca) s.heap.size) 4 0 0 Q g 4 [(3, .int a3), (2, .int a2), (0, .ref (ad 0)), (1, .int p1)] [] := by
  intro n
  induction n with
  | zero =>
    intro a2 a3 g a2' a3' g' hf
    rw [f_D_ordersFor_L4] at hf
    cases hf
  | succ n ih =>
    intro a2 a3 g a2' a3' g' hf hk
    rw [f_D_ordersFor_L4] at hf
    refine v_iload_n X.1 d_D_ordersFor_4 rfl 0 rfl ?_
    refine v_aload_n X.1 d_D_ordersFor_5 rfl 2 rfl ?_
    refine v_get X.1 (ci := 0) ⟨in_D, rfl⟩ 0 rfl 8 (by decide) (X.t tw_220 rfl) rfl d_D_ordersFor_6 ?_
    refine v_icmp_ge X.1 (tgt := 30) d_D_ordersFor_9 (by decide) (fun c1 => ?_) (fun c1 => ?_)
    · rw [if_pos c1] at hf
      cases hf
      refine v_sub [0, 1, 2, 3] rfl ?_
      exact hk
    · rw [if_neg c1] at hf
      refine v_aload_n X.1 d_D_ordersFor_12 rfl 2 rfl ?_
      refine v_iload_n X.1 d_D_ordersFor_13 rfl 3 rfl ?_
      refine v_iload_n X.1 d_D_ordersFor_14 rfl 0 rfl ?_
      obtain ⟨r3, g4, hc2, hf⟩ := ob2_some hf
      refine v_backI X.1 (x_runV X (c_D_mayServe l p1 a3 _ _ _ hc2) rfl tw_261 tw_52 tw_258 tw_260 tw_1 0 0 rfl rfl rfl ⟨rfl, rfl, by decide, by decide⟩ ⟨by decide, by show _ = some 2; decide⟩ (rest := []) rfl (Nat.le_of_ble_eq_true rfl) d_D_ordersFor_15 (by decide) (by decide)) ?_
      refine v_if_eq X.1 (tgt := 24) d_D_ordersFor_18 (by decide) (fun c5 => ?_) (fun c5 => ?_)
      · rw [if_pos c5] at hf
        refine v_iinc X.1 (k0 := 0) (v := a3 + (1 : Int32)) (lv' := [(3, .int (a3 + (1 : Int32))), (2, .int a2), (0, .ref (ad 0)), (1, .int p1)]) d_D_ordersFor_24 rfl rfl (by decide) rfl ?_
        refine v_goto X.1 (tgt := 4) d_D_ordersFor_27 (by decide) ?_
        refine v_sub [0, 1, 2, 3] rfl ?_
        exact ih _ _ _ _ _ _ hf hk
      · rw [if_neg c5] at hf
        refine v_iinc X.1 (k0 := 1) (v := a2 + (1 : Int32)) (lv' := [(2, .int (a2 + (1 : Int32))), (3, .int a3), (0, .ref (ad 0)), (1, .int p1)]) d_D_ordersFor_21 rfl rfl (by decide) rfl ?_
        refine v_iinc X.1 (k0 := 1) (v := a3 + (1 : Int32)) (lv' := [(3, .int (a3 + (1 : Int32))), (2, .int (a2 + (1 : Int32))), (0, .ref (ad 0)), (1, .int p1)]) d_D_ordersFor_24 rfl rfl (by decide) rfl ?_
        refine v_goto X.1 (tgt := 4) d_D_ordersFor_27 (by decide) ?_
        refine v_sub [0, 1, 2, 3] rfl ?_
        exact ih _ _ _ _ _ _ hf hk

set_option maxRecDepth 100000 in
set_option maxHeartbeats 4000000 in
theorem c_D_ordersFor (l : Launch) (fu : Nat) (p1 : Int32) (g : xSt) (r : Int32) (g' : xSt) (hf : f_D_ordersFor fu p1 g = some (r, g')) : xM l y_D_ordersFor (.code y_D_ordersFor b_D_ordersFor 4 (some .int)) ({ frames := 3, cells := 0, slots := 0, locals := 67 } : Room) (fun ad => [.ref (ad 0), .int p1]) g (.inl (some (.int r))) g' 0 0 := by
  refine x_contract (by decide) (fun _ => Nat.le_of_ble_eq_true rfl) ?_
  intro p e s m below meth c D ad ca X hno
  unfold f_D_ordersFor at hf
  refine v_iconst X.1 (v := (0 : Int32)) d_D_ordersFor_0 (by decide) ?_
  refine v_istore_n X.1 (lv' := [(2, .int ((0 : Int32))), (0, .ref (ad 0)), (1, .int p1)]) d_D_ordersFor_1 rfl (by decide) rfl ?_
  refine v_iconst X.1 (v := (0 : Int32)) d_D_ordersFor_2 (by decide) ?_
  refine v_istore_n X.1 (lv' := [(3, .int ((0 : Int32))), (2, .int ((0 : Int32))), (0, .ref (ad 0)), (1, .int p1)]) d_D_ordersFor_3 rfl (by decide) rfl ?_
  obtain ⟨x6, x7, g8, hL9, hf⟩ := ob3_some hf
  refine l_D_ordersFor_L4 l fu p1 X hno fu _ _ _ _ _ _ hL9 ?_
  refine v_iload_n X.1 d_D_ordersFor_30 rfl 1 rfl ?_
  cases hf
  exact v_iret X.1 X.2.2.1 rfl d_D_ordersFor_31 X.2.2.2.1 (by decide) (by decide)

def f_D_arrivalsFor_L4 (fu : Nat) (p1 : Int32) : Nat → Int32 → Int32 → xSt → Option (Int32 × Int32 × xSt)
  | 0, _, _, _ => none
  | n + 1, a2, a3, g => (if (g 0 0) ≤ a3 then some (a2, a3, g) else (ob2 (f_D_mayServe a3 p1 g) (fun r3 g4 => (if r3 = 0 then f_D_arrivalsFor_L4 fu p1 n a2 (a3 + (1 : Int32)) g4 else f_D_arrivalsFor_L4 fu p1 n (a2 + (1 : Int32)) (a3 + (1 : Int32)) g4))))

def f_D_arrivalsFor (fu : Nat) (p1 : Int32) (g : xSt) : Option (Int32 × xSt) := (ob3 (f_D_arrivalsFor_L4 fu p1 fu ((0 : Int32)) ((0 : Int32)) g) (fun x6 x7 g8 => some (x6, g8)))

set_option maxRecDepth 100000 in
set_option maxHeartbeats 4000000 in
theorem l_D_arrivalsFor_L4 {p : Program} {e : Env} {s : State} {m : MethodId} {below : List Frame} {meth : Method} {c : Code} {D : va_G} {ad : Nat → Nat} {ca : Nat → ClassId} (l : Launch) (fu : Nat) (p1 : Int32) (X : xX p s m ([.ref (ad 0), .int p1] : List Value).toArray meth c b_D_arrivalsFor "CrossDock" 4 (some .int) D ad ca) (hno : c.exceptionTable.toList = []) {Q : State → Prop} : ∀ (n : Nat) (a2 : Int32) (a3 : Int32) (g : xSt) (a2' : Int32) (a3' : Int32) (g' : xSt), f_D_arrivalsFor_L4 fu p1 n a2 a3 g = some (a2', a3', g') → xV p l e ({ frames := 3, cells := 0, slots := 0, locals := 67 } : Room) s m ([.ref (ad 0), .int p1] : List Value).toArray below meth c D xcl (wX ad ca) (xA (wX ad ca) s.heap.size) 4 0 0 Q g' 30 [(3, .int a3'), (2, .int a2'), (0, .ref (ad 0)), (1, .int p1)] [] → xV p l e ({ frames := 3, cells := 0, slots := 0, locals := 67 } : Room) s m ([.ref (ad 0), .int p1] : List Value).toArray below meth c D xcl (wX ad ca) (xA (wX ad ca) s.heap.size) 4 0 0 Q g 4 [(3, .int a3), (2, .int a2), (0, .ref (ad 0)), (1, .int p1)] [] := by
  intro n
  induction n with
  | zero =>
    intro a2 a3 g a2' a3' g' hf
    rw [f_D_arrivalsFor_L4] at hf
    cases hf
  | succ n ih =>
    intro a2 a3 g a2' a3' g' hf hk
    rw [f_D_arrivalsFor_L4] at hf
    refine v_iload_n X.1 d_D_arrivalsFor_4 rfl 0 rfl ?_
    refine v_aload_n X.1 d_D_arrivalsFor_5 rfl 2 rfl ?_
    refine v_get X.1 (ci := 0) ⟨in_D, rfl⟩ 0 rfl 7 (by decide) (X.t tw_219 rfl) rfl d_D_arrivalsFor_6 ?_
    refine v_icmp_ge X.1 (tgt := 30) d_D_arrivalsFor_9 (by decide) (fun c1 => ?_) (fun c1 => ?_)
    · rw [if_pos c1] at hf
      cases hf
      refine v_sub [0, 1, 2, 3] rfl ?_
      exact hk
    · rw [if_neg c1] at hf
      refine v_aload_n X.1 d_D_arrivalsFor_12 rfl 2 rfl ?_
      refine v_iload_n X.1 d_D_arrivalsFor_13 rfl 0 rfl ?_
      refine v_iload_n X.1 d_D_arrivalsFor_14 rfl 3 rfl ?_
      obtain ⟨r3, g4, hc2, hf⟩ := ob2_some hf
      refine v_backI X.1 (x_runV X (c_D_mayServe l a3 p1 _ _ _ hc2) rfl tw_261 tw_52 tw_258 tw_260 tw_1 0 0 rfl rfl rfl ⟨rfl, rfl, by decide, by decide⟩ ⟨by decide, by show _ = some 2; decide⟩ (rest := []) rfl (Nat.le_of_ble_eq_true rfl) d_D_arrivalsFor_15 (by decide) (by decide)) ?_
      refine v_if_eq X.1 (tgt := 24) d_D_arrivalsFor_18 (by decide) (fun c5 => ?_) (fun c5 => ?_)
      · rw [if_pos c5] at hf
        refine v_iinc X.1 (k0 := 0) (v := a3 + (1 : Int32)) (lv' := [(3, .int (a3 + (1 : Int32))), (2, .int a2), (0, .ref (ad 0)), (1, .int p1)]) d_D_arrivalsFor_24 rfl rfl (by decide) rfl ?_
        refine v_goto X.1 (tgt := 4) d_D_arrivalsFor_27 (by decide) ?_
        refine v_sub [0, 1, 2, 3] rfl ?_
        exact ih _ _ _ _ _ _ hf hk
      · rw [if_neg c5] at hf
        refine v_iinc X.1 (k0 := 1) (v := a2 + (1 : Int32)) (lv' := [(2, .int (a2 + (1 : Int32))), (3, .int a3), (0, .ref (ad 0)), (1, .int p1)]) d_D_arrivalsFor_21 rfl rfl (by decide) rfl ?_
        refine v_iinc X.1 (k0 := 1) (v := a3 + (1 : Int32)) (lv' := [(3, .int (a3 + (1 : Int32))), (2, .int (a2 + (1 : Int32))), (0, .ref (ad 0)), (1, .int p1)]) d_D_arrivalsFor_24 rfl rfl (by decide) rfl ?_
        refine v_goto X.1 (tgt := 4) d_D_arrivalsFor_27 (by decide) ?_
        refine v_sub [0, 1, 2, 3] rfl ?_
        exact ih _ _ _ _ _ _ hf hk

set_option maxRecDepth 100000 in
set_option maxHeartbeats 4000000 in
theorem c_D_arrivalsFor (l : Launch) (fu : Nat) (p1 : Int32) (g : xSt) (r : Int32) (g' : xSt) (hf : f_D_arrivalsFor fu p1 g = some (r, g')) : xM l y_D_arrivalsFor (.code y_D_arrivalsFor b_D_arrivalsFor 4 (some .int)) ({ frames := 3, cells := 0, slots := 0, locals := 67 } : Room) (fun ad => [.ref (ad 0), .int p1]) g (.inl (some (.int r))) g' 0 0 := by
  refine x_contract (by decide) (fun _ => Nat.le_of_ble_eq_true rfl) ?_
  intro p e s m below meth c D ad ca X hno
  unfold f_D_arrivalsFor at hf
  refine v_iconst X.1 (v := (0 : Int32)) d_D_arrivalsFor_0 (by decide) ?_
  refine v_istore_n X.1 (lv' := [(2, .int ((0 : Int32))), (0, .ref (ad 0)), (1, .int p1)]) d_D_arrivalsFor_1 rfl (by decide) rfl ?_
  refine v_iconst X.1 (v := (0 : Int32)) d_D_arrivalsFor_2 (by decide) ?_
  refine v_istore_n X.1 (lv' := [(3, .int ((0 : Int32))), (2, .int ((0 : Int32))), (0, .ref (ad 0)), (1, .int p1)]) d_D_arrivalsFor_3 rfl (by decide) rfl ?_
  obtain ⟨x6, x7, g8, hL9, hf⟩ := ob3_some hf
  refine l_D_arrivalsFor_L4 l fu p1 X hno fu _ _ _ _ _ _ hL9 ?_
  refine v_iload_n X.1 d_D_arrivalsFor_30 rfl 1 rfl ?_
  cases hf
  exact v_iret X.1 X.2.2.1 rfl d_D_arrivalsFor_31 X.2.2.2.1 (by decide) (by decide)

def f_D_fullLanes_L4 (fu : Nat) : Nat → Int32 → Int32 → xSt → Option (Int32 × Int32 × xSt)
  | 0, _, _, _ => none
  | n + 1, a1, a2, g => (if ((4 : Int32)) ≤ a2 then some (a1, a2, g) else (if a2 < 0 ∨ 4 ≤ a2.toNatClampNeg then none else (if (g 4 a2.toNatClampNeg) = 0 then f_D_fullLanes_L4 fu n a1 (a2 + (1 : Int32)) g else f_D_fullLanes_L4 fu n (a1 + (1 : Int32)) (a2 + (1 : Int32)) g)))

def f_D_fullLanes (fu : Nat) (g : xSt) : Option (Int32 × xSt) := (ob3 (f_D_fullLanes_L4 fu fu ((0 : Int32)) ((0 : Int32)) g) (fun x4 x5 g6 => some (x4, g6)))

set_option maxRecDepth 100000 in
set_option maxHeartbeats 4000000 in
theorem l_D_fullLanes_L4 {p : Program} {e : Env} {s : State} {m : MethodId} {below : List Frame} {meth : Method} {c : Code} {D : va_G} {ad : Nat → Nat} {ca : Nat → ClassId} (l : Launch) (fu : Nat) (X : xX p s m ([.ref (ad 0)] : List Value).toArray meth c b_D_fullLanes "CrossDock" 3 (some .int) D ad ca) (hno : c.exceptionTable.toList = []) {Q : State → Prop} : ∀ (n : Nat) (a1 : Int32) (a2 : Int32) (g : xSt) (a1' : Int32) (a2' : Int32) (g' : xSt), f_D_fullLanes_L4 fu n a1 a2 g = some (a1', a2', g') → xV p l e ({ frames := 0, cells := 0, slots := 0, locals := 0 } : Room) s m ([.ref (ad 0)] : List Value).toArray below meth c D xcl (wX ad ca) (xA (wX ad ca) s.heap.size) 3 0 0 Q g' 27 [(2, .int a2'), (1, .int a1'), (0, .ref (ad 0))] [] → xV p l e ({ frames := 0, cells := 0, slots := 0, locals := 0 } : Room) s m ([.ref (ad 0)] : List Value).toArray below meth c D xcl (wX ad ca) (xA (wX ad ca) s.heap.size) 3 0 0 Q g 4 [(2, .int a2), (1, .int a1), (0, .ref (ad 0))] [] := by
  intro n
  induction n with
  | zero =>
    intro a1 a2 g a1' a2' g' hf
    rw [f_D_fullLanes_L4] at hf
    cases hf
  | succ n ih =>
    intro a1 a2 g a1' a2' g' hf hk
    rw [f_D_fullLanes_L4] at hf
    refine v_iload_n X.1 d_D_fullLanes_4 rfl 0 rfl ?_
    refine v_iconst X.1 (v := (4 : Int32)) d_D_fullLanes_5 (by decide) ?_
    refine v_icmp_ge X.1 (tgt := 27) d_D_fullLanes_6 (by decide) (fun c1 => ?_) (fun c1 => ?_)
    · rw [if_pos c1] at hf
      cases hf
      refine v_sub [0, 1, 2] rfl ?_
      exact hk
    · rw [if_neg c1] at hf
      refine v_aload_n X.1 d_D_fullLanes_9 rfl 2 rfl ?_
      refine v_get X.1 (ci := 0) ⟨in_D, rfl⟩ 0 rfl 2 (by decide) (X.t tw_214 rfl) rfl d_D_fullLanes_10 ?_
      refine v_iload_n X.1 d_D_fullLanes_13 rfl 0 rfl ?_
      obtain ⟨hb2, hf⟩ := oi_none hf
      refine v_zald X.1 3 1 rfl rfl hb2 d_D_fullLanes_14 ?_
      refine v_if_eq X.1 (tgt := 21) d_D_fullLanes_15 (by decide) (fun c3 => ?_) (fun c3 => ?_)
      · rw [if_pos c3] at hf
        refine v_iinc X.1 (k0 := 0) (v := a2 + (1 : Int32)) (lv' := [(2, .int (a2 + (1 : Int32))), (1, .int a1), (0, .ref (ad 0))]) d_D_fullLanes_21 rfl rfl (by decide) rfl ?_
        refine v_goto X.1 (tgt := 4) d_D_fullLanes_24 (by decide) ?_
        refine v_sub [0, 1, 2] rfl ?_
        exact ih _ _ _ _ _ _ hf hk
      · rw [if_neg c3] at hf
        refine v_iinc X.1 (k0 := 1) (v := a1 + (1 : Int32)) (lv' := [(1, .int (a1 + (1 : Int32))), (2, .int a2), (0, .ref (ad 0))]) d_D_fullLanes_18 rfl rfl (by decide) rfl ?_
        refine v_iinc X.1 (k0 := 1) (v := a2 + (1 : Int32)) (lv' := [(2, .int (a2 + (1 : Int32))), (1, .int (a1 + (1 : Int32))), (0, .ref (ad 0))]) d_D_fullLanes_21 rfl rfl (by decide) rfl ?_
        refine v_goto X.1 (tgt := 4) d_D_fullLanes_24 (by decide) ?_
        refine v_sub [0, 1, 2] rfl ?_
        exact ih _ _ _ _ _ _ hf hk

set_option maxRecDepth 100000 in
set_option maxHeartbeats 4000000 in
theorem c_D_fullLanes (l : Launch) (fu : Nat) (g : xSt) (r : Int32) (g' : xSt) (hf : f_D_fullLanes fu g = some (r, g')) : xM l y_D_fullLanes (.code y_D_fullLanes b_D_fullLanes 3 (some .int)) ({ frames := 0, cells := 0, slots := 0, locals := 0 } : Room) (fun ad => [.ref (ad 0)]) g (.inl (some (.int r))) g' 0 0 := by
  refine x_contract (by decide) (fun _ => Nat.le_of_ble_eq_true rfl) ?_
  intro p e s m below meth c D ad ca X hno
  unfold f_D_fullLanes at hf
  refine v_iconst X.1 (v := (0 : Int32)) d_D_fullLanes_0 (by decide) ?_
  refine v_istore_n X.1 (lv' := [(1, .int ((0 : Int32))), (0, .ref (ad 0))]) d_D_fullLanes_1 rfl (by decide) rfl ?_
  refine v_iconst X.1 (v := (0 : Int32)) d_D_fullLanes_2 (by decide) ?_
  refine v_istore_n X.1 (lv' := [(2, .int ((0 : Int32))), (1, .int ((0 : Int32))), (0, .ref (ad 0))]) d_D_fullLanes_3 rfl (by decide) rfl ?_
  obtain ⟨x4, x5, g6, hL7, hf⟩ := ob3_some hf
  refine l_D_fullLanes_L4 l fu X hno fu _ _ _ _ _ _ hL7 ?_
  refine v_iload_n X.1 d_D_fullLanes_27 rfl 1 rfl ?_
  cases hf
  exact v_iret X.1 X.2.2.1 rfl d_D_fullLanes_28 X.2.2.2.1 (by decide) (by decide)

def f_D_touchesSaved_L12 (fu : Nat) : Nat → Int32 → Int32 → xSt → Option (Int32 × Int32 × xSt)
  | 0, _, _, _ => none
  | n + 1, a1, a2, g => (if (g 1 0) ≤ a2 then some (a1, a2, g) else (ob2 (f_P_palletsFor fu a2 g) (fun r6 g7 => (if a2 < 0 ∨ 8 ≤ a2.toNatClampNeg then none else (if r6 = (g7 31 a2.toNatClampNeg) then f_D_touchesSaved_L12 fu n (a1 + (3 : Int32)) (a2 + (1 : Int32)) g7 else f_D_touchesSaved_L12 fu n a1 (a2 + (1 : Int32)) g7)))))

def f_D_touchesSaved_L51 (fu : Nat) : Nat → Int32 → Int32 → xSt → Option (Int32 × Int32 × xSt)
  | 0, _, _, _ => none
  | n + 1, a1, a2, g => (if (g 23 0) ≤ a2 then some (a1, a2, g) else (if a2 < 0 ∨ 64 ≤ a2.toNatClampNeg then none else (if a2 < 0 ∨ 64 ≤ a2.toNatClampNeg then none else (if (g 20 a2.toNatClampNeg) < 0 ∨ 8 ≤ (g 20 a2.toNatClampNeg).toNatClampNeg then none else (ob2 (f_A_toGive ((g 20 a2.toNatClampNeg).toNatClampNeg) g) (fun r21 g22 => (if (g 22 a2.toNatClampNeg) = r21 then f_D_touchesSaved_L51 fu n (a1 + (1 : Int32)) (a2 + (1 : Int32)) g22 else f_D_touchesSaved_L51 fu n a1 (a2 + (1 : Int32)) g22)))))))

def f_D_touchesSaved (fu : Nat) (g : xSt) : Option (Int32 × xSt) := (ob2 (f_P_palletsInAll fu g) (fun r2 g3 => (ob3 (f_D_touchesSaved_L12 fu fu (((2 : Int32)) * r2) ((0 : Int32)) g3) (fun x11 x12 g13 => (ob3 (f_D_touchesSaved_L51 fu fu x11 ((0 : Int32)) g13) (fun x24 x25 g26 => some (x24, g26)))))))

set_option maxRecDepth 100000 in
set_option maxHeartbeats 4000000 in
theorem l_D_touchesSaved_L12 {p : Program} {e : Env} {s : State} {m : MethodId} {below : List Frame} {meth : Method} {c : Code} {D : va_G} {ad : Nat → Nat} {ca : Nat → ClassId} (l : Launch) (fu : Nat) (X : xX p s m ([.ref (ad 0)] : List Value).toArray meth c b_D_touchesSaved "CrossDock" 3 (some .int) D ad ca) (hno : c.exceptionTable.toList = []) {Q : State → Prop} : ∀ (n : Nat) (a1 : Int32) (a2 : Int32) (g : xSt) (a1' : Int32) (a2' : Int32) (g' : xSt), f_D_touchesSaved_L12 fu n a1 a2 g = some (a1', a2', g') → xV p l e ({ frames := 1, cells := 0, slots := 0, locals := 23 } : Room) s m ([.ref (ad 0)] : List Value).toArray below meth c D xcl (wX ad ca) (xA (wX ad ca) s.heap.size) 3 0 0 Q g' 49 [(2, .int a2'), (1, .int a1'), (0, .ref (ad 0))] [] → xV p l e ({ frames := 1, cells := 0, slots := 0, locals := 23 } : Room) s m ([.ref (ad 0)] : List Value).toArray below meth c D xcl (wX ad ca) (xA (wX ad ca) s.heap.size) 3 0 0 Q g 12 [(2, .int a2), (1, .int a1), (0, .ref (ad 0))] [] := by
  intro n
  induction n with
  | zero =>
    intro a1 a2 g a1' a2' g' hf
    rw [f_D_touchesSaved_L12] at hf
    cases hf
  | succ n ih =>
    intro a1 a2 g a1' a2' g' hf hk
    rw [f_D_touchesSaved_L12] at hf
    refine v_iload_n X.1 d_D_touchesSaved_12 rfl 0 rfl ?_
    refine v_aload_n X.1 d_D_touchesSaved_13 rfl 2 rfl ?_
    refine v_get X.1 (ci := 0) ⟨in_D, rfl⟩ 0 rfl 8 (by decide) (X.t tw_220 rfl) rfl d_D_touchesSaved_14 ?_
    refine v_icmp_ge X.1 (tgt := 49) d_D_touchesSaved_17 (by decide) (fun c4 => ?_) (fun c4 => ?_)
    · rw [if_pos c4] at hf
      cases hf
      refine v_sub [0, 1, 2] rfl ?_
      exact hk
    · rw [if_neg c4] at hf
      refine v_aload_n X.1 d_D_touchesSaved_20 rfl 2 rfl ?_
      refine v_get X.1 (ci := 0) ⟨in_D, rfl⟩ 0 rfl 6 (by decide) (X.t tw_218 rfl) rfl d_D_touchesSaved_21 ?_
      refine v_iload_n X.1 d_D_touchesSaved_24 rfl 0 rfl ?_
      obtain ⟨r6, g7, hc5, hf⟩ := ob2_some hf
      refine v_backI X.1 (x_runN X (c_P_palletsFor l fu a2 _ _ _ hc5) rfl tw_297 tw_56 tw_294 tw_296 tw_8 7 3 rfl rfl rfl ⟨rfl, rfl, by decide, by decide⟩ ⟨by decide, by show _ = some 1; decide⟩ (rest := []) rfl (Nat.le_of_ble_eq_true rfl) d_D_touchesSaved_25 (by decide) (by decide)) ?_
      refine v_aload_n X.1 d_D_touchesSaved_28 rfl 2 rfl ?_
      refine v_get X.1 (ci := 0) ⟨in_D, rfl⟩ 0 rfl 1 (by decide) (X.t tw_213 rfl) rfl d_D_touchesSaved_29 ?_
      refine v_iload_n X.1 d_D_touchesSaved_32 rfl 0 rfl ?_
      obtain ⟨hb8, hf⟩ := oi_none hf
      have hp9 : a2.toNatClampNeg < 8 := Nat.not_le.mp (fun q => hb8 (Or.inr q))
      refine v_aald X.1 (b := ad (28 + a2.toNatClampNeg)) 2 3 rfl rfl hb8 rfl d_D_touchesSaved_33 ?_
      refine v_getN X.1 (ci := 2) ⟨in_O, rfl⟩ (28 + a2.toNatClampNeg) (wO_at ad ca _ hp9) 1 (by decide) (X.t tw_114 rfl) rfl d_D_touchesSaved_34 ?_
      refine v_icmp_ne X.1 (tgt := 43) d_D_touchesSaved_37 (by decide) (fun c10 => ?_) (fun c10 => ?_)
      · rw [if_neg c10] at hf
        refine v_iinc X.1 (k0 := 0) (v := a2 + (1 : Int32)) (lv' := [(2, .int (a2 + (1 : Int32))), (1, .int a1), (0, .ref (ad 0))]) d_D_touchesSaved_43 rfl rfl (by decide) rfl ?_
        refine v_goto X.1 (tgt := 12) d_D_touchesSaved_46 (by decide) ?_
        refine v_sub [0, 1, 2] rfl ?_
        exact ih _ _ _ _ _ _ hf hk
      · rw [if_pos c10] at hf
        refine v_iinc X.1 (k0 := 1) (v := a1 + (3 : Int32)) (lv' := [(1, .int (a1 + (3 : Int32))), (2, .int a2), (0, .ref (ad 0))]) d_D_touchesSaved_40 rfl rfl (by decide) rfl ?_
        refine v_iinc X.1 (k0 := 1) (v := a2 + (1 : Int32)) (lv' := [(2, .int (a2 + (1 : Int32))), (1, .int (a1 + (3 : Int32))), (0, .ref (ad 0))]) d_D_touchesSaved_43 rfl rfl (by decide) rfl ?_
        refine v_goto X.1 (tgt := 12) d_D_touchesSaved_46 (by decide) ?_
        refine v_sub [0, 1, 2] rfl ?_
        exact ih _ _ _ _ _ _ hf hk

set_option maxRecDepth 100000 in
set_option maxHeartbeats 4000000 in
theorem l_D_touchesSaved_L51 {p : Program} {e : Env} {s : State} {m : MethodId} {below : List Frame} {meth : Method} {c : Code} {D : va_G} {ad : Nat → Nat} {ca : Nat → ClassId} (l : Launch) (fu : Nat) (X : xX p s m ([.ref (ad 0)] : List Value).toArray meth c b_D_touchesSaved "CrossDock" 3 (some .int) D ad ca) (hno : c.exceptionTable.toList = []) {Q : State → Prop} : ∀ (n : Nat) (a1 : Int32) (a2 : Int32) (g : xSt) (a1' : Int32) (a2' : Int32) (g' : xSt), f_D_touchesSaved_L51 fu n a1 a2 g = some (a1', a2', g') → xV p l e ({ frames := 1, cells := 0, slots := 0, locals := 23 } : Room) s m ([.ref (ad 0)] : List Value).toArray below meth c D xcl (wX ad ca) (xA (wX ad ca) s.heap.size) 3 0 0 Q g' 100 [(2, .int a2'), (1, .int a1'), (0, .ref (ad 0))] [] → xV p l e ({ frames := 1, cells := 0, slots := 0, locals := 23 } : Room) s m ([.ref (ad 0)] : List Value).toArray below meth c D xcl (wX ad ca) (xA (wX ad ca) s.heap.size) 3 0 0 Q g 51 [(2, .int a2), (1, .int a1), (0, .ref (ad 0))] [] := by
  intro n
  induction n with
  | zero =>
    intro a1 a2 g a1' a2' g' hf
    rw [f_D_touchesSaved_L51] at hf
    cases hf
  | succ n ih =>
    intro a1 a2 g a1' a2' g' hf hk
    rw [f_D_touchesSaved_L51] at hf
    refine v_iload_n X.1 d_D_touchesSaved_51 rfl 0 rfl ?_
    refine v_aload_n X.1 d_D_touchesSaved_52 rfl 2 rfl ?_
    refine v_get X.1 (ci := 0) ⟨in_D, rfl⟩ 0 rfl 6 (by decide) (X.t tw_218 rfl) rfl d_D_touchesSaved_53 ?_
    refine v_getN X.1 (ci := 3) ⟨in_P, rfl⟩ 7 rfl 3 (by decide) (X.t tw_202 rfl) rfl d_D_touchesSaved_56 ?_
    refine v_icmp_ge X.1 (tgt := 100) d_D_touchesSaved_59 (by decide) (fun c15 => ?_) (fun c15 => ?_)
    · rw [if_pos c15] at hf
      cases hf
      refine v_sub [0, 1, 2] rfl ?_
      exact hk
    · rw [if_neg c15] at hf
      refine v_aload_n X.1 d_D_touchesSaved_62 rfl 2 rfl ?_
      refine v_get X.1 (ci := 0) ⟨in_D, rfl⟩ 0 rfl 6 (by decide) (X.t tw_218 rfl) rfl d_D_touchesSaved_63 ?_
      refine v_getN X.1 (ci := 3) ⟨in_P, rfl⟩ 7 rfl 2 (by decide) (X.t tw_200 rfl) rfl d_D_touchesSaved_66 ?_
      refine v_iload_n X.1 d_D_touchesSaved_69 rfl 0 rfl ?_
      obtain ⟨hb16, hf⟩ := oi_none hf
      refine v_iald X.1 19 0 rfl rfl hb16 d_D_touchesSaved_70 ?_
      refine v_aload_n X.1 d_D_touchesSaved_71 rfl 2 rfl ?_
      refine v_get X.1 (ci := 0) ⟨in_D, rfl⟩ 0 rfl 0 (by decide) (X.t tw_212 rfl) rfl d_D_touchesSaved_72 ?_
      refine v_aload_n X.1 d_D_touchesSaved_75 rfl 2 rfl ?_
      refine v_get X.1 (ci := 0) ⟨in_D, rfl⟩ 0 rfl 6 (by decide) (X.t tw_218 rfl) rfl d_D_touchesSaved_76 ?_
      refine v_getN X.1 (ci := 3) ⟨in_P, rfl⟩ 7 rfl 0 (by decide) (X.t tw_196 rfl) rfl d_D_touchesSaved_79 ?_
      refine v_iload_n X.1 d_D_touchesSaved_82 rfl 0 rfl ?_
      obtain ⟨hb17, hf⟩ := oi_none hf
      refine v_iald X.1 17 0 rfl rfl hb17 d_D_touchesSaved_83 ?_
      obtain ⟨hb18, hf⟩ := oi_none hf
      have hp19 : (g 20 a2.toNatClampNeg).toNatClampNeg < 8 := Nat.not_le.mp (fun q => hb18 (Or.inr q))
      refine v_aald X.1 (b := ad (20 + (g 20 a2.toNatClampNeg).toNatClampNeg)) 1 2 rfl rfl hb18 rfl d_D_touchesSaved_84 ?_
      obtain ⟨r21, g22, hc20, hf⟩ := ob2_some hf
      refine v_backI X.1 (x_runN X (c_A_toGive l ((g 20 a2.toNatClampNeg).toNatClampNeg) hp19 _ _ _ hc20) rfl tw_301 tw_53 tw_298 tw_300 tw_9 (20 + (g 20 a2.toNatClampNeg).toNatClampNeg) 1 (wA_at ad ca _ hp19) rfl rfl ⟨rfl, rfl, by decide, by decide⟩ ⟨by decide, by show _ = some 0; decide⟩ (rest := [.int (g 22 a2.toNatClampNeg)]) rfl (Nat.le_of_ble_eq_true rfl) d_D_touchesSaved_85 (by decide) (by decide)) ?_
      refine v_icmp_ne X.1 (tgt := 94) d_D_touchesSaved_88 (by decide) (fun c23 => ?_) (fun c23 => ?_)
      · rw [if_neg c23] at hf
        refine v_iinc X.1 (k0 := 0) (v := a2 + (1 : Int32)) (lv' := [(2, .int (a2 + (1 : Int32))), (1, .int a1), (0, .ref (ad 0))]) d_D_touchesSaved_94 rfl rfl (by decide) rfl ?_
        refine v_goto X.1 (tgt := 51) d_D_touchesSaved_97 (by decide) ?_
        refine v_sub [0, 1, 2] rfl ?_
        exact ih _ _ _ _ _ _ hf hk
      · rw [if_pos c23] at hf
        refine v_iinc X.1 (k0 := 1) (v := a1 + (1 : Int32)) (lv' := [(1, .int (a1 + (1 : Int32))), (2, .int a2), (0, .ref (ad 0))]) d_D_touchesSaved_91 rfl rfl (by decide) rfl ?_
        refine v_iinc X.1 (k0 := 1) (v := a2 + (1 : Int32)) (lv' := [(2, .int (a2 + (1 : Int32))), (1, .int (a1 + (1 : Int32))), (0, .ref (ad 0))]) d_D_touchesSaved_94 rfl rfl (by decide) rfl ?_
        refine v_goto X.1 (tgt := 51) d_D_touchesSaved_97 (by decide) ?_
        refine v_sub [0, 1, 2] rfl ?_
        exact ih _ _ _ _ _ _ hf hk

set_option maxRecDepth 100000 in
set_option maxHeartbeats 4000000 in
theorem c_D_touchesSaved (l : Launch) (fu : Nat) (g : xSt) (r : Int32) (g' : xSt) (hf : f_D_touchesSaved fu g = some (r, g')) : xM l y_D_touchesSaved (.code y_D_touchesSaved b_D_touchesSaved 3 (some .int)) ({ frames := 1, cells := 0, slots := 0, locals := 23 } : Room) (fun ad => [.ref (ad 0)]) g (.inl (some (.int r))) g' 0 0 := by
  refine x_contract (by decide) (fun _ => Nat.le_of_ble_eq_true rfl) ?_
  intro p e s m below meth c D ad ca X hno
  unfold f_D_touchesSaved at hf
  refine v_iconst X.1 (v := (2 : Int32)) d_D_touchesSaved_0 (by decide) ?_
  refine v_aload_n X.1 d_D_touchesSaved_1 rfl 0 rfl ?_
  refine v_get X.1 (ci := 0) ⟨in_D, rfl⟩ 0 rfl 6 (by decide) (X.t tw_218 rfl) rfl d_D_touchesSaved_2 ?_
  obtain ⟨r2, g3, hc1, hf⟩ := ob2_some hf
  refine v_backI X.1 (x_runN X (c_P_palletsInAll l fu _ _ _ hc1) rfl tw_293 tw_56 tw_290 tw_292 tw_7 7 3 rfl rfl rfl ⟨rfl, rfl, by decide, by decide⟩ ⟨by decide, by show _ = some 0; decide⟩ (rest := [.int ((2 : Int32))]) rfl (Nat.le_of_ble_eq_true rfl) d_D_touchesSaved_5 (by decide) (by decide)) ?_
  refine v_imul X.1 d_D_touchesSaved_8 ?_
  refine v_istore_n X.1 (lv' := [(1, .int (((2 : Int32)) * r2)), (0, .ref (ad 0))]) d_D_touchesSaved_9 rfl (by decide) rfl ?_
  refine v_iconst X.1 (v := (0 : Int32)) d_D_touchesSaved_10 (by decide) ?_
  refine v_istore_n X.1 (lv' := [(2, .int ((0 : Int32))), (1, .int (((2 : Int32)) * r2)), (0, .ref (ad 0))]) d_D_touchesSaved_11 rfl (by decide) rfl ?_
  obtain ⟨x11, x12, g13, hL14, hf⟩ := ob3_some hf
  refine l_D_touchesSaved_L12 l fu X hno fu _ _ _ _ _ _ hL14 ?_
  refine v_iconst X.1 (v := (0 : Int32)) d_D_touchesSaved_49 (by decide) ?_
  refine v_istore_n X.1 (lv' := [(2, .int ((0 : Int32))), (1, .int x11), (0, .ref (ad 0))]) d_D_touchesSaved_50 rfl (by decide) rfl ?_
  obtain ⟨x24, x25, g26, hL27, hf⟩ := ob3_some hf
  refine l_D_touchesSaved_L51 l fu X hno fu _ _ _ _ _ _ hL27 ?_
  refine v_iload_n X.1 d_D_touchesSaved_100 rfl 1 rfl ?_
  cases hf
  exact v_iret X.1 X.2.2.1 rfl d_D_touchesSaved_101 X.2.2.2.1 (by decide) (by decide)

def f_D_sortOrders_L12 (fu : Nat) (b1 : Int32) : Nat → Int32 → xSt → Option (Int32 × xSt)
  | 0, _, _ => none
  | n + 1, a2, g => (if a2 ≤ 0 then some (a2, g) else (if (a2 - ((1 : Int32))) < 0 ∨ 8 ≤ (a2 - ((1 : Int32))).toNatClampNeg then none else (if (g 5 (a2 - ((1 : Int32))).toNatClampNeg) < 0 ∨ 8 ≤ (g 5 (a2 - ((1 : Int32))).toNatClampNeg).toNatClampNeg then none else (if b1 < 0 ∨ 8 ≤ b1.toNatClampNeg then none else (if (g 32 ((g 5 (a2 - ((1 : Int32))).toNatClampNeg).toNatClampNeg)) ≤ (g 32 b1.toNatClampNeg) then some (a2, g) else (if (a2 - ((1 : Int32))) < 0 ∨ 8 ≤ (a2 - ((1 : Int32))).toNatClampNeg then none else (if a2 < 0 ∨ 8 ≤ a2.toNatClampNeg then none else (Option.bind (some (xw g 5 a2.toNatClampNeg (g 5 (a2 - ((1 : Int32))).toNatClampNeg))) (fun g11 => f_D_sortOrders_L12 fu b1 n (a2 + (-1 : Int32)) g11)))))))))

def f_D_sortOrders_L2 (fu : Nat) : Nat → Int32 → xSt → Option (Int32 × xSt)
  | 0, _, _ => none
  | n + 1, a1, g => (if (g 1 0) ≤ a1 then some (a1, g) else (ob2 (f_D_sortOrders_L12 fu a1 fu a1 g) (fun x13 g14 => (if x13 < 0 ∨ 8 ≤ x13.toNatClampNeg then none else (Option.bind (some (xw g14 5 x13.toNatClampNeg a1)) (fun g17 => f_D_sortOrders_L2 fu n (a1 + (1 : Int32)) g17))))))

def f_D_sortOrders (fu : Nat) (g : xSt) : Option (xSt) := (ob2 (f_D_sortOrders_L2 fu fu ((0 : Int32)) g) (fun x19 g20 => some g20))

set_option maxRecDepth 100000 in
set_option maxHeartbeats 4000000 in
theorem l_D_sortOrders_L12 {p : Program} {e : Env} {s : State} {m : MethodId} {below : List Frame} {meth : Method} {c : Code} {D : va_G} {ad : Nat → Nat} {ca : Nat → ClassId} (l : Launch) (fu : Nat) (b1 : Int32) (X : xX p s m ([.ref (ad 0)] : List Value).toArray meth c b_D_sortOrders "CrossDock" 3 none D ad ca) (hno : c.exceptionTable.toList = []) {Q : State → Prop} : ∀ (n : Nat) (a2 : Int32) (g : xSt) (a2' : Int32) (g' : xSt), f_D_sortOrders_L12 fu b1 n a2 g = some (a2', g') → xV p l e ({ frames := 0, cells := 0, slots := 0, locals := 0 } : Room) s m ([.ref (ad 0)] : List Value).toArray below meth c D xcl (wX ad ca) (xA (wX ad ca) s.heap.size) 3 0 0 Q g' 64 [(2, .int a2'), (1, .int b1), (0, .ref (ad 0))] [] → xV p l e ({ frames := 0, cells := 0, slots := 0, locals := 0 } : Room) s m ([.ref (ad 0)] : List Value).toArray below meth c D xcl (wX ad ca) (xA (wX ad ca) s.heap.size) 3 0 0 Q g 12 [(2, .int a2), (1, .int b1), (0, .ref (ad 0))] [] := by
  intro n
  induction n with
  | zero =>
    intro a2 g a2' g' hf
    rw [f_D_sortOrders_L12] at hf
    cases hf
  | succ n ih =>
    intro a2 g a2' g' hf hk
    rw [f_D_sortOrders_L12] at hf
    refine v_iload_n X.1 d_D_sortOrders_12 rfl 0 rfl ?_
    refine v_if_le X.1 (tgt := 64) d_D_sortOrders_13 (by decide) (fun c2 => ?_) (fun c2 => ?_)
    · rw [if_pos c2] at hf
      cases hf
      refine v_sub [0, 1, 2] rfl ?_
      exact hk
    · rw [if_neg c2] at hf
      refine v_aload_n X.1 d_D_sortOrders_16 rfl 2 rfl ?_
      refine v_get X.1 (ci := 0) ⟨in_D, rfl⟩ 0 rfl 1 (by decide) (X.t tw_213 rfl) rfl d_D_sortOrders_17 ?_
      refine v_aload_n X.1 d_D_sortOrders_20 rfl 2 rfl ?_
      refine v_get X.1 (ci := 0) ⟨in_D, rfl⟩ 0 rfl 3 (by decide) (X.t tw_215 rfl) rfl d_D_sortOrders_21 ?_
      refine v_iload_n X.1 d_D_sortOrders_24 rfl 0 rfl ?_
      refine v_iconst X.1 (v := (1 : Int32)) d_D_sortOrders_25 (by decide) ?_
      refine v_isub X.1 d_D_sortOrders_26 ?_
      obtain ⟨hb3, hf⟩ := oi_none hf
      refine v_iald X.1 4 0 rfl rfl hb3 d_D_sortOrders_27 ?_
      obtain ⟨hb4, hf⟩ := oi_none hf
      have hp5 : (g 5 (a2 - ((1 : Int32))).toNatClampNeg).toNatClampNeg < 8 := Nat.not_le.mp (fun q => hb4 (Or.inr q))
      refine v_aald X.1 (b := ad (28 + (g 5 (a2 - ((1 : Int32))).toNatClampNeg).toNatClampNeg)) 2 3 rfl rfl hb4 rfl d_D_sortOrders_28 ?_
      refine v_getN X.1 (ci := 2) ⟨in_O, rfl⟩ (28 + (g 5 (a2 - ((1 : Int32))).toNatClampNeg).toNatClampNeg) (wO_at ad ca _ hp5) 2 (by decide) (X.t tw_115 rfl) rfl d_D_sortOrders_29 ?_
      refine v_aload_n X.1 d_D_sortOrders_32 rfl 2 rfl ?_
      refine v_get X.1 (ci := 0) ⟨in_D, rfl⟩ 0 rfl 1 (by decide) (X.t tw_213 rfl) rfl d_D_sortOrders_33 ?_
      refine v_iload_n X.1 d_D_sortOrders_36 rfl 1 rfl ?_
      obtain ⟨hb6, hf⟩ := oi_none hf
      have hp7 : b1.toNatClampNeg < 8 := Nat.not_le.mp (fun q => hb6 (Or.inr q))
      refine v_aald X.1 (b := ad (28 + b1.toNatClampNeg)) 2 3 rfl rfl hb6 rfl d_D_sortOrders_37 ?_
      refine v_getN X.1 (ci := 2) ⟨in_O, rfl⟩ (28 + b1.toNatClampNeg) (wO_at ad ca _ hp7) 2 (by decide) (X.t tw_115 rfl) rfl d_D_sortOrders_38 ?_
      refine v_icmp_le X.1 (tgt := 64) d_D_sortOrders_41 (by decide) (fun c8 => ?_) (fun c8 => ?_)
      · rw [if_pos c8] at hf
        cases hf
        refine v_sub [0, 1, 2] rfl ?_
        exact hk
      · rw [if_neg c8] at hf
        refine v_aload_n X.1 d_D_sortOrders_44 rfl 2 rfl ?_
        refine v_get X.1 (ci := 0) ⟨in_D, rfl⟩ 0 rfl 3 (by decide) (X.t tw_215 rfl) rfl d_D_sortOrders_45 ?_
        refine v_iload_n X.1 d_D_sortOrders_48 rfl 0 rfl ?_
        refine v_aload_n X.1 d_D_sortOrders_49 rfl 2 rfl ?_
        refine v_get X.1 (ci := 0) ⟨in_D, rfl⟩ 0 rfl 3 (by decide) (X.t tw_215 rfl) rfl d_D_sortOrders_50 ?_
        refine v_iload_n X.1 d_D_sortOrders_53 rfl 0 rfl ?_
        refine v_iconst X.1 (v := (1 : Int32)) d_D_sortOrders_54 (by decide) ?_
        refine v_isub X.1 d_D_sortOrders_55 ?_
        obtain ⟨hb9, hf⟩ := oi_none hf
        refine v_iald X.1 4 0 rfl rfl hb9 d_D_sortOrders_56 ?_
        obtain ⟨hb10, hf⟩ := oi_none hf
        obtain ⟨g11, eg12, hf⟩ := ob_some hf
        refine v_iast X.1 4 0 rfl rfl hb10 ((sa_5 ad ca _ _ _).trans (congrArg (wX ad ca) (Option.some.inj eg12))) d_D_sortOrders_57 ?_
        refine v_iinc X.1 (k0 := 0) (v := a2 + (-1 : Int32)) (lv' := [(2, .int (a2 + (-1 : Int32))), (1, .int b1), (0, .ref (ad 0))]) d_D_sortOrders_58 rfl rfl (by decide) rfl ?_
        refine v_goto X.1 (tgt := 12) d_D_sortOrders_61 (by decide) ?_
        refine v_sub [0, 1, 2] rfl ?_
        exact ih _ _ _ _ hf hk

set_option maxRecDepth 100000 in
set_option maxHeartbeats 4000000 in
theorem l_D_sortOrders_L2 {p : Program} {e : Env} {s : State} {m : MethodId} {below : List Frame} {meth : Method} {c : Code} {D : va_G} {ad : Nat → Nat} {ca : Nat → ClassId} (l : Launch) (fu : Nat) (X : xX p s m ([.ref (ad 0)] : List Value).toArray meth c b_D_sortOrders "CrossDock" 3 none D ad ca) (hno : c.exceptionTable.toList = []) {Q : State → Prop} : ∀ (n : Nat) (a1 : Int32) (g : xSt) (a1' : Int32) (g' : xSt), f_D_sortOrders_L2 fu n a1 g = some (a1', g') → xV p l e ({ frames := 0, cells := 0, slots := 0, locals := 0 } : Room) s m ([.ref (ad 0)] : List Value).toArray below meth c D xcl (wX ad ca) (xA (wX ad ca) s.heap.size) 3 0 0 Q g' 77 [(1, .int a1'), (0, .ref (ad 0))] [] → xV p l e ({ frames := 0, cells := 0, slots := 0, locals := 0 } : Room) s m ([.ref (ad 0)] : List Value).toArray below meth c D xcl (wX ad ca) (xA (wX ad ca) s.heap.size) 3 0 0 Q g 2 [(1, .int a1), (0, .ref (ad 0))] [] := by
  intro n
  induction n with
  | zero =>
    intro a1 g a1' g' hf
    rw [f_D_sortOrders_L2] at hf
    cases hf
  | succ n ih =>
    intro a1 g a1' g' hf hk
    rw [f_D_sortOrders_L2] at hf
    refine v_iload_n X.1 d_D_sortOrders_2 rfl 0 rfl ?_
    refine v_aload_n X.1 d_D_sortOrders_3 rfl 1 rfl ?_
    refine v_get X.1 (ci := 0) ⟨in_D, rfl⟩ 0 rfl 8 (by decide) (X.t tw_220 rfl) rfl d_D_sortOrders_4 ?_
    refine v_icmp_ge X.1 (tgt := 77) d_D_sortOrders_7 (by decide) (fun c1 => ?_) (fun c1 => ?_)
    · rw [if_pos c1] at hf
      cases hf
      refine v_sub [0, 1] rfl ?_
      exact hk
    · rw [if_neg c1] at hf
      refine v_iload_n X.1 d_D_sortOrders_10 rfl 0 rfl ?_
      refine v_istore_n X.1 (lv' := [(2, .int a1), (1, .int a1), (0, .ref (ad 0))]) d_D_sortOrders_11 rfl (by decide) rfl ?_
      obtain ⟨x13, g14, hL15, hf⟩ := ob2_some hf
      refine l_D_sortOrders_L12 l fu a1 X hno fu _ _ _ _ hL15 ?_
      refine v_aload_n X.1 d_D_sortOrders_64 rfl 2 rfl ?_
      refine v_get X.1 (ci := 0) ⟨in_D, rfl⟩ 0 rfl 3 (by decide) (X.t tw_215 rfl) rfl d_D_sortOrders_65 ?_
      refine v_iload_n X.1 d_D_sortOrders_68 rfl 0 rfl ?_
      refine v_iload_n X.1 d_D_sortOrders_69 rfl 1 rfl ?_
      obtain ⟨hb16, hf⟩ := oi_none hf
      obtain ⟨g17, eg18, hf⟩ := ob_some hf
      refine v_iast X.1 4 0 rfl rfl hb16 ((sa_5 ad ca _ _ _).trans (congrArg (wX ad ca) (Option.some.inj eg18))) d_D_sortOrders_70 ?_
      refine v_iinc X.1 (k0 := 1) (v := a1 + (1 : Int32)) (lv' := [(1, .int (a1 + (1 : Int32))), (2, .int x13), (0, .ref (ad 0))]) d_D_sortOrders_71 rfl rfl (by decide) rfl ?_
      refine v_goto X.1 (tgt := 2) d_D_sortOrders_74 (by decide) ?_
      refine v_sub [0, 2] rfl ?_
      exact ih _ _ _ _ hf hk

set_option maxRecDepth 100000 in
set_option maxHeartbeats 4000000 in
theorem c_D_sortOrders (l : Launch) (fu : Nat) (g : xSt) (g' : xSt) (hf : f_D_sortOrders fu g = some g') : xM l y_D_sortOrders (.code y_D_sortOrders b_D_sortOrders 3 none) ({ frames := 0, cells := 0, slots := 0, locals := 0 } : Room) (fun ad => [.ref (ad 0)]) g (.inl none) g' 0 0 := by
  refine x_contract (by decide) (fun _ => Nat.le_of_ble_eq_true rfl) ?_
  intro p e s m below meth c D ad ca X hno
  unfold f_D_sortOrders at hf
  refine v_iconst X.1 (v := (0 : Int32)) d_D_sortOrders_0 (by decide) ?_
  refine v_istore_n X.1 (lv' := [(1, .int ((0 : Int32))), (0, .ref (ad 0))]) d_D_sortOrders_1 rfl (by decide) rfl ?_
  obtain ⟨x19, g20, hL21, hf⟩ := ob2_some hf
  refine l_D_sortOrders_L2 l fu X hno fu _ _ _ _ hL21 ?_
  cases hf
  exact v_vret X.1 X.2.2.1 d_D_sortOrders_77 X.2.2.2.1 (by decide) (by decide)

def f_D_sortArrivals_L12 (fu : Nat) (b1 : Int32) : Nat → Int32 → xSt → Option (Int32 × xSt)
  | 0, _, _ => none
  | n + 1, a2, g => (if a2 ≤ 0 then some (a2, g) else (if (a2 - ((1 : Int32))) < 0 ∨ 8 ≤ (a2 - ((1 : Int32))).toNatClampNeg then none else (if (g 6 (a2 - ((1 : Int32))).toNatClampNeg) < 0 ∨ 8 ≤ (g 6 (a2 - ((1 : Int32))).toNatClampNeg).toNatClampNeg then none else (if b1 < 0 ∨ 8 ≤ b1.toNatClampNeg then none else (if (g 26 ((g 6 (a2 - ((1 : Int32))).toNatClampNeg).toNatClampNeg)) ≤ (g 26 b1.toNatClampNeg) then some (a2, g) else (if (a2 - ((1 : Int32))) < 0 ∨ 8 ≤ (a2 - ((1 : Int32))).toNatClampNeg then none else (if a2 < 0 ∨ 8 ≤ a2.toNatClampNeg then none else (Option.bind (some (xw g 6 a2.toNatClampNeg (g 6 (a2 - ((1 : Int32))).toNatClampNeg))) (fun g11 => f_D_sortArrivals_L12 fu b1 n (a2 + (-1 : Int32)) g11)))))))))

def f_D_sortArrivals_L2 (fu : Nat) : Nat → Int32 → xSt → Option (Int32 × xSt)
  | 0, _, _ => none
  | n + 1, a1, g => (if (g 0 0) ≤ a1 then some (a1, g) else (ob2 (f_D_sortArrivals_L12 fu a1 fu a1 g) (fun x13 g14 => (if x13 < 0 ∨ 8 ≤ x13.toNatClampNeg then none else (Option.bind (some (xw g14 6 x13.toNatClampNeg a1)) (fun g17 => f_D_sortArrivals_L2 fu n (a1 + (1 : Int32)) g17))))))

def f_D_sortArrivals (fu : Nat) (g : xSt) : Option (xSt) := (ob2 (f_D_sortArrivals_L2 fu fu ((0 : Int32)) g) (fun x19 g20 => some g20))

set_option maxRecDepth 100000 in
set_option maxHeartbeats 4000000 in
theorem l_D_sortArrivals_L12 {p : Program} {e : Env} {s : State} {m : MethodId} {below : List Frame} {meth : Method} {c : Code} {D : va_G} {ad : Nat → Nat} {ca : Nat → ClassId} (l : Launch) (fu : Nat) (b1 : Int32) (X : xX p s m ([.ref (ad 0)] : List Value).toArray meth c b_D_sortArrivals "CrossDock" 3 none D ad ca) (hno : c.exceptionTable.toList = []) {Q : State → Prop} : ∀ (n : Nat) (a2 : Int32) (g : xSt) (a2' : Int32) (g' : xSt), f_D_sortArrivals_L12 fu b1 n a2 g = some (a2', g') → xV p l e ({ frames := 0, cells := 0, slots := 0, locals := 0 } : Room) s m ([.ref (ad 0)] : List Value).toArray below meth c D xcl (wX ad ca) (xA (wX ad ca) s.heap.size) 3 0 0 Q g' 64 [(2, .int a2'), (1, .int b1), (0, .ref (ad 0))] [] → xV p l e ({ frames := 0, cells := 0, slots := 0, locals := 0 } : Room) s m ([.ref (ad 0)] : List Value).toArray below meth c D xcl (wX ad ca) (xA (wX ad ca) s.heap.size) 3 0 0 Q g 12 [(2, .int a2), (1, .int b1), (0, .ref (ad 0))] [] := by
  intro n
  induction n with
  | zero =>
    intro a2 g a2' g' hf
    rw [f_D_sortArrivals_L12] at hf
    cases hf
  | succ n ih =>
    intro a2 g a2' g' hf hk
    rw [f_D_sortArrivals_L12] at hf
    refine v_iload_n X.1 d_D_sortArrivals_12 rfl 0 rfl ?_
    refine v_if_le X.1 (tgt := 64) d_D_sortArrivals_13 (by decide) (fun c2 => ?_) (fun c2 => ?_)
    · rw [if_pos c2] at hf
      cases hf
      refine v_sub [0, 1, 2] rfl ?_
      exact hk
    · rw [if_neg c2] at hf
      refine v_aload_n X.1 d_D_sortArrivals_16 rfl 2 rfl ?_
      refine v_get X.1 (ci := 0) ⟨in_D, rfl⟩ 0 rfl 0 (by decide) (X.t tw_212 rfl) rfl d_D_sortArrivals_17 ?_
      refine v_aload_n X.1 d_D_sortArrivals_20 rfl 2 rfl ?_
      refine v_get X.1 (ci := 0) ⟨in_D, rfl⟩ 0 rfl 4 (by decide) (X.t tw_216 rfl) rfl d_D_sortArrivals_21 ?_
      refine v_iload_n X.1 d_D_sortArrivals_24 rfl 0 rfl ?_
      refine v_iconst X.1 (v := (1 : Int32)) d_D_sortArrivals_25 (by decide) ?_
      refine v_isub X.1 d_D_sortArrivals_26 ?_
      obtain ⟨hb3, hf⟩ := oi_none hf
      refine v_iald X.1 5 0 rfl rfl hb3 d_D_sortArrivals_27 ?_
      obtain ⟨hb4, hf⟩ := oi_none hf
      have hp5 : (g 6 (a2 - ((1 : Int32))).toNatClampNeg).toNatClampNeg < 8 := Nat.not_le.mp (fun q => hb4 (Or.inr q))
      refine v_aald X.1 (b := ad (20 + (g 6 (a2 - ((1 : Int32))).toNatClampNeg).toNatClampNeg)) 1 2 rfl rfl hb4 rfl d_D_sortArrivals_28 ?_
      refine v_getN X.1 (ci := 1) ⟨in_A, rfl⟩ (20 + (g 6 (a2 - ((1 : Int32))).toNatClampNeg).toNatClampNeg) (wA_at ad ca _ hp5) 2 (by decide) (X.t tw_86 rfl) rfl d_D_sortArrivals_29 ?_
      refine v_aload_n X.1 d_D_sortArrivals_32 rfl 2 rfl ?_
      refine v_get X.1 (ci := 0) ⟨in_D, rfl⟩ 0 rfl 0 (by decide) (X.t tw_212 rfl) rfl d_D_sortArrivals_33 ?_
      refine v_iload_n X.1 d_D_sortArrivals_36 rfl 1 rfl ?_
      obtain ⟨hb6, hf⟩ := oi_none hf
      have hp7 : b1.toNatClampNeg < 8 := Nat.not_le.mp (fun q => hb6 (Or.inr q))
      refine v_aald X.1 (b := ad (20 + b1.toNatClampNeg)) 1 2 rfl rfl hb6 rfl d_D_sortArrivals_37 ?_
      refine v_getN X.1 (ci := 1) ⟨in_A, rfl⟩ (20 + b1.toNatClampNeg) (wA_at ad ca _ hp7) 2 (by decide) (X.t tw_86 rfl) rfl d_D_sortArrivals_38 ?_
      refine v_icmp_le X.1 (tgt := 64) d_D_sortArrivals_41 (by decide) (fun c8 => ?_) (fun c8 => ?_)
      · rw [if_pos c8] at hf
        cases hf
        refine v_sub [0, 1, 2] rfl ?_
        exact hk
      · rw [if_neg c8] at hf
        refine v_aload_n X.1 d_D_sortArrivals_44 rfl 2 rfl ?_
        refine v_get X.1 (ci := 0) ⟨in_D, rfl⟩ 0 rfl 4 (by decide) (X.t tw_216 rfl) rfl d_D_sortArrivals_45 ?_
        refine v_iload_n X.1 d_D_sortArrivals_48 rfl 0 rfl ?_
        refine v_aload_n X.1 d_D_sortArrivals_49 rfl 2 rfl ?_
        refine v_get X.1 (ci := 0) ⟨in_D, rfl⟩ 0 rfl 4 (by decide) (X.t tw_216 rfl) rfl d_D_sortArrivals_50 ?_
        refine v_iload_n X.1 d_D_sortArrivals_53 rfl 0 rfl ?_
        refine v_iconst X.1 (v := (1 : Int32)) d_D_sortArrivals_54 (by decide) ?_
        refine v_isub X.1 d_D_sortArrivals_55 ?_
        obtain ⟨hb9, hf⟩ := oi_none hf
        refine v_iald X.1 5 0 rfl rfl hb9 d_D_sortArrivals_56 ?_
        obtain ⟨hb10, hf⟩ := oi_none hf
        obtain ⟨g11, eg12, hf⟩ := ob_some hf
        refine v_iast X.1 5 0 rfl rfl hb10 ((sa_6 ad ca _ _ _).trans (congrArg (wX ad ca) (Option.some.inj eg12))) d_D_sortArrivals_57 ?_
        refine v_iinc X.1 (k0 := 0) (v := a2 + (-1 : Int32)) (lv' := [(2, .int (a2 + (-1 : Int32))), (1, .int b1), (0, .ref (ad 0))]) d_D_sortArrivals_58 rfl rfl (by decide) rfl ?_
        refine v_goto X.1 (tgt := 12) d_D_sortArrivals_61 (by decide) ?_
        refine v_sub [0, 1, 2] rfl ?_
        exact ih _ _ _ _ hf hk

set_option maxRecDepth 100000 in
set_option maxHeartbeats 4000000 in
theorem l_D_sortArrivals_L2 {p : Program} {e : Env} {s : State} {m : MethodId} {below : List Frame} {meth : Method} {c : Code} {D : va_G} {ad : Nat → Nat} {ca : Nat → ClassId} (l : Launch) (fu : Nat) (X : xX p s m ([.ref (ad 0)] : List Value).toArray meth c b_D_sortArrivals "CrossDock" 3 none D ad ca) (hno : c.exceptionTable.toList = []) {Q : State → Prop} : ∀ (n : Nat) (a1 : Int32) (g : xSt) (a1' : Int32) (g' : xSt), f_D_sortArrivals_L2 fu n a1 g = some (a1', g') → xV p l e ({ frames := 0, cells := 0, slots := 0, locals := 0 } : Room) s m ([.ref (ad 0)] : List Value).toArray below meth c D xcl (wX ad ca) (xA (wX ad ca) s.heap.size) 3 0 0 Q g' 77 [(1, .int a1'), (0, .ref (ad 0))] [] → xV p l e ({ frames := 0, cells := 0, slots := 0, locals := 0 } : Room) s m ([.ref (ad 0)] : List Value).toArray below meth c D xcl (wX ad ca) (xA (wX ad ca) s.heap.size) 3 0 0 Q g 2 [(1, .int a1), (0, .ref (ad 0))] [] := by
  intro n
  induction n with
  | zero =>
    intro a1 g a1' g' hf
    rw [f_D_sortArrivals_L2] at hf
    cases hf
  | succ n ih =>
    intro a1 g a1' g' hf hk
    rw [f_D_sortArrivals_L2] at hf
    refine v_iload_n X.1 d_D_sortArrivals_2 rfl 0 rfl ?_
    refine v_aload_n X.1 d_D_sortArrivals_3 rfl 1 rfl ?_
    refine v_get X.1 (ci := 0) ⟨in_D, rfl⟩ 0 rfl 7 (by decide) (X.t tw_219 rfl) rfl d_D_sortArrivals_4 ?_
    refine v_icmp_ge X.1 (tgt := 77) d_D_sortArrivals_7 (by decide) (fun c1 => ?_) (fun c1 => ?_)
    · rw [if_pos c1] at hf
      cases hf
      refine v_sub [0, 1] rfl ?_
      exact hk
    · rw [if_neg c1] at hf
      refine v_iload_n X.1 d_D_sortArrivals_10 rfl 0 rfl ?_
      refine v_istore_n X.1 (lv' := [(2, .int a1), (1, .int a1), (0, .ref (ad 0))]) d_D_sortArrivals_11 rfl (by decide) rfl ?_
      obtain ⟨x13, g14, hL15, hf⟩ := ob2_some hf
      refine l_D_sortArrivals_L12 l fu a1 X hno fu _ _ _ _ hL15 ?_
      refine v_aload_n X.1 d_D_sortArrivals_64 rfl 2 rfl ?_
      refine v_get X.1 (ci := 0) ⟨in_D, rfl⟩ 0 rfl 4 (by decide) (X.t tw_216 rfl) rfl d_D_sortArrivals_65 ?_
      refine v_iload_n X.1 d_D_sortArrivals_68 rfl 0 rfl ?_
      refine v_iload_n X.1 d_D_sortArrivals_69 rfl 1 rfl ?_
      obtain ⟨hb16, hf⟩ := oi_none hf
      obtain ⟨g17, eg18, hf⟩ := ob_some hf
      refine v_iast X.1 5 0 rfl rfl hb16 ((sa_6 ad ca _ _ _).trans (congrArg (wX ad ca) (Option.some.inj eg18))) d_D_sortArrivals_70 ?_
      refine v_iinc X.1 (k0 := 1) (v := a1 + (1 : Int32)) (lv' := [(1, .int (a1 + (1 : Int32))), (2, .int x13), (0, .ref (ad 0))]) d_D_sortArrivals_71 rfl rfl (by decide) rfl ?_
      refine v_goto X.1 (tgt := 2) d_D_sortArrivals_74 (by decide) ?_
      refine v_sub [0, 2] rfl ?_
      exact ih _ _ _ _ hf hk

set_option maxRecDepth 100000 in
set_option maxHeartbeats 4000000 in
theorem c_D_sortArrivals (l : Launch) (fu : Nat) (g : xSt) (g' : xSt) (hf : f_D_sortArrivals fu g = some g') : xM l y_D_sortArrivals (.code y_D_sortArrivals b_D_sortArrivals 3 none) ({ frames := 0, cells := 0, slots := 0, locals := 0 } : Room) (fun ad => [.ref (ad 0)]) g (.inl none) g' 0 0 := by
  refine x_contract (by decide) (fun _ => Nat.le_of_ble_eq_true rfl) ?_
  intro p e s m below meth c D ad ca X hno
  unfold f_D_sortArrivals at hf
  refine v_iconst X.1 (v := (0 : Int32)) d_D_sortArrivals_0 (by decide) ?_
  refine v_istore_n X.1 (lv' := [(1, .int ((0 : Int32))), (0, .ref (ad 0))]) d_D_sortArrivals_1 rfl (by decide) rfl ?_
  obtain ⟨x19, g20, hL21, hf⟩ := ob2_some hf
  refine l_D_sortArrivals_L2 l fu X hno fu _ _ _ _ hL21 ?_
  cases hf
  exact v_vret X.1 X.2.2.1 d_D_sortArrivals_77 X.2.2.2.1 (by decide) (by decide)

def f_D_layOutPairs_L18 (fu : Nat) : Nat → Int32 → xSt → Option (Int32 × xSt)
  | 0, _, _ => none
  | n + 1, a1, g => (if (g 0 0) ≤ a1 then some (a1, g) else (if a1 < 0 ∨ 8 ≤ a1.toNatClampNeg then none else (ob2 (f_A_toGive a1.toNatClampNeg g) (fun r13 g14 => (if a1 < 0 ∨ 8 ≤ a1.toNatClampNeg then none else (Option.bind (some (xw g14 9 a1.toNatClampNeg r13)) (fun g16 => f_D_layOutPairs_L18 fu n (a1 + (1 : Int32)) g16)))))))

def f_D_layOutPairs_L87 (fu : Nat) (b2 : Int32) (b1 : Int32) : Nat → Int32 → xSt → Option (Int32 × xSt)
  | 0, _, _ => none
  | n + 1, a3, g => (if (g 0 0) ≤ a3 then some (a3, g) else (if a3 < 0 ∨ 8 ≤ a3.toNatClampNeg then none else (ob2 (f_D_mayServe (g 6 a3.toNatClampNeg) b2 g) (fun r31 g32 => (if r31 = 0 then f_D_layOutPairs_L87 fu b2 b1 n (a3 + (1 : Int32)) g32 else (if a3 < 0 ∨ 8 ≤ a3.toNatClampNeg then none else (Option.bind (f_S_addPair (g32 6 a3.toNatClampNeg) b2 g32) (fun g37 => f_D_layOutPairs_L87 fu b2 b1 n (a3 + (1 : Int32)) g37))))))))

def f_D_layOutPairs_L52 (fu : Nat) : Nat → Int32 → xSt → Option (Int32 × xSt)
  | 0, _, _ => none
  | n + 1, a1, g => (if (g 1 0) ≤ a1 then some (a1, g) else (if a1 < 0 ∨ 8 ≤ a1.toNatClampNeg then none else (if (g 5 a1.toNatClampNeg) < 0 ∨ 8 ≤ (g 5 a1.toNatClampNeg).toNatClampNeg then none else (if (g 5 a1.toNatClampNeg) < 0 ∨ 8 ≤ (g 5 a1.toNatClampNeg).toNatClampNeg then none else (Option.bind (some (xw g 10 (g 5 a1.toNatClampNeg).toNatClampNeg (g 31 ((g 5 a1.toNatClampNeg).toNatClampNeg)))) (fun g26 => (ob2 (f_D_layOutPairs_L87 fu (g 5 a1.toNatClampNeg) a1 fu ((0 : Int32)) g26) (fun x38 g39 => f_D_layOutPairs_L52 fu n (a1 + (1 : Int32)) g39))))))))

def f_D_layOutPairs (fu : Nat) (g : xSt) : Option (xSt) := (Option.bind (f_D_sortOrders fu g) (fun g3 => (Option.bind (f_D_sortArrivals fu g3) (fun g6 => (Option.bind (some (xw g6 16 0 ((0 : Int32)))) (fun g7 => (ob2 (f_D_layOutPairs_L18 fu fu ((0 : Int32)) g7) (fun x18 g19 => (ob2 (f_D_layOutPairs_L52 fu fu ((0 : Int32)) g19) (fun x41 g42 => some g42))))))))))

set_option maxRecDepth 100000 in
set_option maxHeartbeats 4000000 in
theorem l_D_layOutPairs_L18 {p : Program} {e : Env} {s : State} {m : MethodId} {below : List Frame} {meth : Method} {c : Code} {D : va_G} {ad : Nat → Nat} {ca : Nat → ClassId} (l : Launch) (fu : Nat) (X : xX p s m ([.ref (ad 0)] : List Value).toArray meth c b_D_layOutPairs "CrossDock" 4 none D ad ca) (hno : c.exceptionTable.toList = []) {Q : State → Prop} : ∀ (n : Nat) (a1 : Int32) (g : xSt) (a1' : Int32) (g' : xSt), f_D_layOutPairs_L18 fu n a1 g = some (a1', g') → xV p l e ({ frames := 3, cells := 0, slots := 0, locals := 67 } : Room) s m ([.ref (ad 0)] : List Value).toArray below meth c D xcl (wX ad ca) (xA (wX ad ca) s.heap.size) 4 0 0 Q g' 50 [(1, .int a1'), (0, .ref (ad 0))] [] → xV p l e ({ frames := 3, cells := 0, slots := 0, locals := 67 } : Room) s m ([.ref (ad 0)] : List Value).toArray below meth c D xcl (wX ad ca) (xA (wX ad ca) s.heap.size) 4 0 0 Q g 18 [(1, .int a1), (0, .ref (ad 0))] [] := by
  intro n
  induction n with
  | zero =>
    intro a1 g a1' g' hf
    rw [f_D_layOutPairs_L18] at hf
    cases hf
  | succ n ih =>
    intro a1 g a1' g' hf hk
    rw [f_D_layOutPairs_L18] at hf
    refine v_iload_n X.1 d_D_layOutPairs_18 rfl 0 rfl ?_
    refine v_aload_n X.1 d_D_layOutPairs_19 rfl 1 rfl ?_
    refine v_get X.1 (ci := 0) ⟨in_D, rfl⟩ 0 rfl 7 (by decide) (X.t tw_219 rfl) rfl d_D_layOutPairs_20 ?_
    refine v_icmp_ge X.1 (tgt := 50) d_D_layOutPairs_23 (by decide) (fun c9 => ?_) (fun c9 => ?_)
    · rw [if_pos c9] at hf
      cases hf
      refine v_sub [0, 1] rfl ?_
      exact hk
    · rw [if_neg c9] at hf
      refine v_aload_n X.1 d_D_layOutPairs_26 rfl 1 rfl ?_
      refine v_get X.1 (ci := 0) ⟨in_D, rfl⟩ 0 rfl 5 (by decide) (X.t tw_217 rfl) rfl d_D_layOutPairs_27 ?_
      refine v_getN X.1 (ci := 4) ⟨in_S, rfl⟩ 6 rfl 2 (by decide) (X.t tw_144 rfl) rfl d_D_layOutPairs_30 ?_
      refine v_iload_n X.1 d_D_layOutPairs_33 rfl 0 rfl ?_
      refine v_aload_n X.1 d_D_layOutPairs_34 rfl 1 rfl ?_
      refine v_get X.1 (ci := 0) ⟨in_D, rfl⟩ 0 rfl 0 (by decide) (X.t tw_212 rfl) rfl d_D_layOutPairs_35 ?_
      refine v_iload_n X.1 d_D_layOutPairs_38 rfl 0 rfl ?_
      obtain ⟨hb10, hf⟩ := oi_none hf
      have hp11 : a1.toNatClampNeg < 8 := Nat.not_le.mp (fun q => hb10 (Or.inr q))
      refine v_aald X.1 (b := ad (20 + a1.toNatClampNeg)) 1 2 rfl rfl hb10 rfl d_D_layOutPairs_39 ?_
      obtain ⟨r13, g14, hc12, hf⟩ := ob2_some hf
      refine v_backI X.1 (x_runN X (c_A_toGive l a1.toNatClampNeg hp11 _ _ _ hc12) rfl tw_301 tw_53 tw_298 tw_300 tw_9 (20 + a1.toNatClampNeg) 1 (wA_at ad ca _ hp11) rfl rfl ⟨rfl, rfl, by decide, by decide⟩ ⟨by decide, by show _ = some 0; decide⟩ (rest := [.int a1, .ref (ad 10)]) rfl (Nat.le_of_ble_eq_true rfl) d_D_layOutPairs_40 (by decide) (by decide)) ?_
      obtain ⟨hb15, hf⟩ := oi_none hf
      obtain ⟨g16, eg17, hf⟩ := ob_some hf
      refine v_iast X.1 10 0 rfl rfl hb15 ((sa_9 ad ca _ _ _).trans (congrArg (wX ad ca) (Option.some.inj eg17))) d_D_layOutPairs_43 ?_
      refine v_iinc X.1 (k0 := 0) (v := a1 + (1 : Int32)) (lv' := [(1, .int (a1 + (1 : Int32))), (0, .ref (ad 0))]) d_D_layOutPairs_44 rfl rfl (by decide) rfl ?_
      refine v_goto X.1 (tgt := 18) d_D_layOutPairs_47 (by decide) ?_
      refine v_sub [0, 1] rfl ?_
      exact ih _ _ _ _ hf hk

set_option maxRecDepth 100000 in
set_option maxHeartbeats 4000000 in
theorem l_D_layOutPairs_L87 {p : Program} {e : Env} {s : State} {m : MethodId} {below : List Frame} {meth : Method} {c : Code} {D : va_G} {ad : Nat → Nat} {ca : Nat → ClassId} (l : Launch) (fu : Nat) (b2 : Int32) (b1 : Int32) (X : xX p s m ([.ref (ad 0)] : List Value).toArray meth c b_D_layOutPairs "CrossDock" 4 none D ad ca) (hno : c.exceptionTable.toList = []) {Q : State → Prop} : ∀ (n : Nat) (a3 : Int32) (g : xSt) (a3' : Int32) (g' : xSt), f_D_layOutPairs_L87 fu b2 b1 n a3 g = some (a3', g') → xV p l e ({ frames := 3, cells := 0, slots := 0, locals := 67 } : Room) s m ([.ref (ad 0)] : List Value).toArray below meth c D xcl (wX ad ca) (xA (wX ad ca) s.heap.size) 4 0 0 Q g' 129 [(3, .int a3'), (2, .int b2), (1, .int b1), (0, .ref (ad 0))] [] → xV p l e ({ frames := 3, cells := 0, slots := 0, locals := 67 } : Room) s m ([.ref (ad 0)] : List Value).toArray below meth c D xcl (wX ad ca) (xA (wX ad ca) s.heap.size) 4 0 0 Q g 87 [(3, .int a3), (2, .int b2), (1, .int b1), (0, .ref (ad 0))] [] := by
  intro n
  induction n with
  | zero =>
    intro a3 g a3' g' hf
    rw [f_D_layOutPairs_L87] at hf
    cases hf
  | succ n ih =>
    intro a3 g a3' g' hf hk
    rw [f_D_layOutPairs_L87] at hf
    refine v_iload_n X.1 d_D_layOutPairs_87 rfl 0 rfl ?_
    refine v_aload_n X.1 d_D_layOutPairs_88 rfl 3 rfl ?_
    refine v_get X.1 (ci := 0) ⟨in_D, rfl⟩ 0 rfl 7 (by decide) (X.t tw_219 rfl) rfl d_D_layOutPairs_89 ?_
    refine v_icmp_ge X.1 (tgt := 129) d_D_layOutPairs_92 (by decide) (fun c28 => ?_) (fun c28 => ?_)
    · rw [if_pos c28] at hf
      cases hf
      refine v_sub [0, 1, 2, 3] rfl ?_
      exact hk
    · rw [if_neg c28] at hf
      refine v_aload_n X.1 d_D_layOutPairs_95 rfl 3 rfl ?_
      refine v_aload_n X.1 d_D_layOutPairs_96 rfl 3 rfl ?_
      refine v_get X.1 (ci := 0) ⟨in_D, rfl⟩ 0 rfl 4 (by decide) (X.t tw_216 rfl) rfl d_D_layOutPairs_97 ?_
      refine v_iload_n X.1 d_D_layOutPairs_100 rfl 0 rfl ?_
      obtain ⟨hb29, hf⟩ := oi_none hf
      refine v_iald X.1 5 0 rfl rfl hb29 d_D_layOutPairs_101 ?_
      refine v_iload_n X.1 d_D_layOutPairs_102 rfl 1 rfl ?_
      obtain ⟨r31, g32, hc30, hf⟩ := ob2_some hf
      refine v_backI X.1 (x_runV X (c_D_mayServe l (g 6 a3.toNatClampNeg) b2 _ _ _ hc30) rfl tw_261 tw_52 tw_258 tw_260 tw_1 0 0 rfl rfl rfl ⟨rfl, rfl, by decide, by decide⟩ ⟨by decide, by show _ = some 2; decide⟩ (rest := []) rfl (Nat.le_of_ble_eq_true rfl) d_D_layOutPairs_103 (by decide) (by decide)) ?_
      refine v_if_eq X.1 (tgt := 123) d_D_layOutPairs_106 (by decide) (fun c33 => ?_) (fun c33 => ?_)
      · rw [if_pos c33] at hf
        refine v_iinc X.1 (k0 := 0) (v := a3 + (1 : Int32)) (lv' := [(3, .int (a3 + (1 : Int32))), (2, .int b2), (1, .int b1), (0, .ref (ad 0))]) d_D_layOutPairs_123 rfl rfl (by decide) rfl ?_
        refine v_goto X.1 (tgt := 87) d_D_layOutPairs_126 (by decide) ?_
        refine v_sub [0, 1, 2, 3] rfl ?_
        exact ih _ _ _ _ hf hk
      · rw [if_neg c33] at hf
        refine v_aload_n X.1 d_D_layOutPairs_109 rfl 3 rfl ?_
        refine v_get X.1 (ci := 0) ⟨in_D, rfl⟩ 0 rfl 5 (by decide) (X.t tw_217 rfl) rfl d_D_layOutPairs_110 ?_
        refine v_aload_n X.1 d_D_layOutPairs_113 rfl 3 rfl ?_
        refine v_get X.1 (ci := 0) ⟨in_D, rfl⟩ 0 rfl 4 (by decide) (X.t tw_216 rfl) rfl d_D_layOutPairs_114 ?_
        refine v_iload_n X.1 d_D_layOutPairs_117 rfl 0 rfl ?_
        obtain ⟨hb34, hf⟩ := oi_none hf
        refine v_iald X.1 5 0 rfl rfl hb34 d_D_layOutPairs_118 ?_
        refine v_iload_n X.1 d_D_layOutPairs_119 rfl 1 rfl ?_
        obtain ⟨g37, hc35, hf⟩ := ob_some hf
        refine v_backV X.1 (x_runN X (c_S_addPair l (g32 6 a3.toNatClampNeg) b2 _ _ hc35) rfl tw_512 tw_55 tw_509 tw_511 tw_17 6 4 rfl rfl rfl ⟨rfl, rfl, by decide, by decide⟩ ⟨by decide, by show _ = some 2; decide⟩ (rest := []) rfl (Nat.le_of_ble_eq_true rfl) d_D_layOutPairs_120 (by decide) (by decide)) ?_
        refine v_iinc X.1 (k0 := 0) (v := a3 + (1 : Int32)) (lv' := [(3, .int (a3 + (1 : Int32))), (2, .int b2), (1, .int b1), (0, .ref (ad 0))]) d_D_layOutPairs_123 rfl rfl (by decide) rfl ?_
        refine v_goto X.1 (tgt := 87) d_D_layOutPairs_126 (by decide) ?_
        refine v_sub [0, 1, 2, 3] rfl ?_
        exact ih _ _ _ _ hf hk

set_option maxRecDepth 100000 in
set_option maxHeartbeats 4000000 in
theorem l_D_layOutPairs_L52 {p : Program} {e : Env} {s : State} {m : MethodId} {below : List Frame} {meth : Method} {c : Code} {D : va_G} {ad : Nat → Nat} {ca : Nat → ClassId} (l : Launch) (fu : Nat) (X : xX p s m ([.ref (ad 0)] : List Value).toArray meth c b_D_layOutPairs "CrossDock" 4 none D ad ca) (hno : c.exceptionTable.toList = []) {Q : State → Prop} : ∀ (n : Nat) (a1 : Int32) (g : xSt) (a1' : Int32) (g' : xSt), f_D_layOutPairs_L52 fu n a1 g = some (a1', g') → xV p l e ({ frames := 3, cells := 0, slots := 0, locals := 67 } : Room) s m ([.ref (ad 0)] : List Value).toArray below meth c D xcl (wX ad ca) (xA (wX ad ca) s.heap.size) 4 0 0 Q g' 135 [(1, .int a1'), (0, .ref (ad 0))] [] → xV p l e ({ frames := 3, cells := 0, slots := 0, locals := 67 } : Room) s m ([.ref (ad 0)] : List Value).toArray below meth c D xcl (wX ad ca) (xA (wX ad ca) s.heap.size) 4 0 0 Q g 52 [(1, .int a1), (0, .ref (ad 0))] [] := by
  intro n
  induction n with
  | zero =>
    intro a1 g a1' g' hf
    rw [f_D_layOutPairs_L52] at hf
    cases hf
  | succ n ih =>
    intro a1 g a1' g' hf hk
    rw [f_D_layOutPairs_L52] at hf
    refine v_iload_n X.1 d_D_layOutPairs_52 rfl 0 rfl ?_
    refine v_aload_n X.1 d_D_layOutPairs_53 rfl 1 rfl ?_
    refine v_get X.1 (ci := 0) ⟨in_D, rfl⟩ 0 rfl 8 (by decide) (X.t tw_220 rfl) rfl d_D_layOutPairs_54 ?_
    refine v_icmp_ge X.1 (tgt := 135) d_D_layOutPairs_57 (by decide) (fun c21 => ?_) (fun c21 => ?_)
    · rw [if_pos c21] at hf
      cases hf
      refine v_sub [0, 1] rfl ?_
      exact hk
    · rw [if_neg c21] at hf
      refine v_aload_n X.1 d_D_layOutPairs_60 rfl 1 rfl ?_
      refine v_get X.1 (ci := 0) ⟨in_D, rfl⟩ 0 rfl 3 (by decide) (X.t tw_215 rfl) rfl d_D_layOutPairs_61 ?_
      refine v_iload_n X.1 d_D_layOutPairs_64 rfl 0 rfl ?_
      obtain ⟨hb22, hf⟩ := oi_none hf
      refine v_iald X.1 4 0 rfl rfl hb22 d_D_layOutPairs_65 ?_
      refine v_istore_n X.1 (lv' := [(2, .int (g 5 a1.toNatClampNeg)), (1, .int a1), (0, .ref (ad 0))]) d_D_layOutPairs_66 rfl (by decide) rfl ?_
      refine v_aload_n X.1 d_D_layOutPairs_67 rfl 2 rfl ?_
      refine v_get X.1 (ci := 0) ⟨in_D, rfl⟩ 0 rfl 5 (by decide) (X.t tw_217 rfl) rfl d_D_layOutPairs_68 ?_
      refine v_getN X.1 (ci := 4) ⟨in_S, rfl⟩ 6 rfl 3 (by decide) (X.t tw_146 rfl) rfl d_D_layOutPairs_71 ?_
      refine v_iload_n X.1 d_D_layOutPairs_74 rfl 0 rfl ?_
      refine v_aload_n X.1 d_D_layOutPairs_75 rfl 2 rfl ?_
      refine v_get X.1 (ci := 0) ⟨in_D, rfl⟩ 0 rfl 1 (by decide) (X.t tw_213 rfl) rfl d_D_layOutPairs_76 ?_
      refine v_iload_n X.1 d_D_layOutPairs_79 rfl 0 rfl ?_
      obtain ⟨hb23, hf⟩ := oi_none hf
      have hp24 : (g 5 a1.toNatClampNeg).toNatClampNeg < 8 := Nat.not_le.mp (fun q => hb23 (Or.inr q))
      refine v_aald X.1 (b := ad (28 + (g 5 a1.toNatClampNeg).toNatClampNeg)) 2 3 rfl rfl hb23 rfl d_D_layOutPairs_80 ?_
      refine v_getN X.1 (ci := 2) ⟨in_O, rfl⟩ (28 + (g 5 a1.toNatClampNeg).toNatClampNeg) (wO_at ad ca _ hp24) 1 (by decide) (X.t tw_114 rfl) rfl d_D_layOutPairs_81 ?_
      obtain ⟨hb25, hf⟩ := oi_none hf
      obtain ⟨g26, eg27, hf⟩ := ob_some hf
      refine v_iast X.1 11 0 rfl rfl hb25 ((sa_10 ad ca _ _ _).trans (congrArg (wX ad ca) (Option.some.inj eg27))) d_D_layOutPairs_84 ?_
      refine v_iconst X.1 (v := (0 : Int32)) d_D_layOutPairs_85 (by decide) ?_
      refine v_istore_n X.1 (lv' := [(3, .int ((0 : Int32))), (2, .int (g 5 a1.toNatClampNeg)), (1, .int a1), (0, .ref (ad 0))]) d_D_layOutPairs_86 rfl (by decide) rfl ?_
      obtain ⟨x38, g39, hL40, hf⟩ := ob2_some hf
      refine l_D_layOutPairs_L87 l fu (g 5 a1.toNatClampNeg) a1 X hno fu _ _ _ _ hL40 ?_
      refine v_iinc X.1 (k0 := 2) (v := a1 + (1 : Int32)) (lv' := [(1, .int (a1 + (1 : Int32))), (3, .int x38), (2, .int (g 5 a1.toNatClampNeg)), (0, .ref (ad 0))]) d_D_layOutPairs_129 rfl rfl (by decide) rfl ?_
      refine v_goto X.1 (tgt := 52) d_D_layOutPairs_132 (by decide) ?_
      refine v_sub [0, 3] rfl ?_
      exact ih _ _ _ _ hf hk

set_option maxRecDepth 100000 in
set_option maxHeartbeats 4000000 in
theorem c_D_layOutPairs (l : Launch) (fu : Nat) (g : xSt) (g' : xSt) (hf : f_D_layOutPairs fu g = some g') : xM l y_D_layOutPairs (.code y_D_layOutPairs b_D_layOutPairs 4 none) ({ frames := 3, cells := 0, slots := 0, locals := 67 } : Room) (fun ad => [.ref (ad 0)]) g (.inl none) g' 0 0 := by
  refine x_contract (by decide) (fun _ => Nat.le_of_ble_eq_true rfl) ?_
  intro p e s m below meth c D ad ca X hno
  unfold f_D_layOutPairs at hf
  refine v_aload_n X.1 d_D_layOutPairs_0 rfl 0 rfl ?_
  obtain ⟨g3, hc1, hf⟩ := ob_some hf
  refine v_backV X.1 (x_runV X (c_D_sortOrders l fu _ _ hc1) rfl tw_504 tw_52 tw_501 tw_503 tw_15 0 0 rfl rfl rfl ⟨rfl, rfl, by decide, by decide⟩ ⟨by decide, by show _ = some 0; decide⟩ (rest := []) rfl (Nat.le_of_ble_eq_true rfl) d_D_layOutPairs_1 (by decide) (by decide)) ?_
  refine v_aload_n X.1 d_D_layOutPairs_4 rfl 0 rfl ?_
  obtain ⟨g6, hc4, hf⟩ := ob_some hf
  refine v_backV X.1 (x_runV X (c_D_sortArrivals l fu _ _ hc4) rfl tw_508 tw_52 tw_505 tw_507 tw_16 0 0 rfl rfl rfl ⟨rfl, rfl, by decide, by decide⟩ ⟨by decide, by show _ = some 0; decide⟩ (rest := []) rfl (Nat.le_of_ble_eq_true rfl) d_D_layOutPairs_5 (by decide) (by decide)) ?_
  refine v_aload_n X.1 d_D_layOutPairs_8 rfl 0 rfl ?_
  refine v_get X.1 (ci := 0) ⟨in_D, rfl⟩ 0 rfl 5 (by decide) (X.t tw_217 rfl) rfl d_D_layOutPairs_9 ?_
  refine v_iconst X.1 (v := (0 : Int32)) d_D_layOutPairs_12 (by decide) ?_
  obtain ⟨g7, eg8, hf⟩ := ob_some hf
  refine v_putN X.1 (ci := 4) ⟨in_S, rfl⟩ 6 rfl 9 (by decide) ⟨ty_S_ok, nm_S⟩ (X.t tw_155 rfl) rfl (ty := .int) (by decide +kernel) rfl rfl (Nat.le_of_ble_eq_true rfl) ((sw_16 ad ca _ _).trans (congrArg (wX ad ca) (Option.some.inj eg8))) d_D_layOutPairs_13 ?_
  refine v_iconst X.1 (v := (0 : Int32)) d_D_layOutPairs_16 (by decide) ?_
  refine v_istore_n X.1 (lv' := [(1, .int ((0 : Int32))), (0, .ref (ad 0))]) d_D_layOutPairs_17 rfl (by decide) rfl ?_
  obtain ⟨x18, g19, hL20, hf⟩ := ob2_some hf
  refine l_D_layOutPairs_L18 l fu X hno fu _ _ _ _ hL20 ?_
  refine v_iconst X.1 (v := (0 : Int32)) d_D_layOutPairs_50 (by decide) ?_
  refine v_istore_n X.1 (lv' := [(1, .int ((0 : Int32))), (0, .ref (ad 0))]) d_D_layOutPairs_51 rfl (by decide) rfl ?_
  obtain ⟨x41, g42, hL43, hf⟩ := ob2_some hf
  refine l_D_layOutPairs_L52 l fu X hno fu _ _ _ _ hL43 ?_
  cases hf
  exact v_vret X.1 X.2.2.1 d_D_layOutPairs_135 X.2.2.2.1 (by decide) (by decide)

