/-! the law's loop -/
def Inv (g : xSt) : Prop := ∃ a o p, Sim a o p g g
theorem fin_val {nA nO nP : Nat} {g : xSt} (S : Sim nA nO nP g g) {cd : Nat → Int32} {D : Option (Nat × Int32 × xSt)} {Mo : xSt → Option (Int32 × xSt)} (H : ∀ h, Sim nA nO nP g h → Res cd g h D (Mo h)) (w : Int32 → Int32) : ∃ k v g', D = some (k, v, g') ∧ k ≤ 4 ∧ cd k ≠ -1 ∧ ∃ b g2, Mo (if k = 0 then xw g' 68 0 (w v) else g') = some (b, g2) ∧ g2 40 0 = cd k ∧ (k = 0 → g2 68 0 = w b) ∧ Inv g2 := by
  obtain ⟨k, v, g', -, -, -, -, -, d1, -, d3, d4, d5, -⟩ := H g S
  have f0 : ∀ m, m ≠ 68 → (if k = 0 then xw g' 68 0 (w v) else g') m = g' m := fun m hm => by
    split
    · exact xw_reg _ _ _ hm
    · rfl
  have S1 : Sim nA nO nP g (if k = 0 then xw g' 68 0 (w v) else g') := S.same2 fun m h1 h2 => by rw [f0 m (by omega)]; exact d5 m (by omega)
  obtain ⟨k2, v2, g2', b, h', a, o, p, e1, e2, e3, e4, e5, e6, e7, e8, e9⟩ := H _ S1
  rw [d1] at e1
  simp only [Option.some.injEq, Prod.mk.injEq] at e1
  obtain ⟨rfl, rfl, rfl⟩ := e1
  refine ⟨k, v, g', d1, d3, d4, b, h', e2, e8, fun k0 => ?_, a, o, p, e7.same fun m hm => ?_⟩
  · rw [e6.2, if_pos k0, xw_self, e9 k0]
  · rw [e6.1 m hm, f0 m (by omega)]
theorem fin_void {nA nO nP : Nat} {g : xSt} (S : Sim nA nO nP g g) {cd : Nat → Int32} {D : Option (Nat × Int32 × xSt)} {Mo : xSt → Option (Int32 × xSt)} (H : ∀ h, Sim nA nO nP g h → Res cd g h D (Mo h)) : ∃ k v g', D = some (k, v, g') ∧ k ≤ 4 ∧ cd k ≠ -1 ∧ ∃ b g2, Mo g' = some (b, g2) ∧ g2 40 0 = cd k ∧ Inv g2 := by
  obtain ⟨k, v, g', -, -, -, -, -, d1, -, d3, d4, d5, -⟩ := H g S
  obtain ⟨k2, v2, g2', b, h', a, o, p, e1, e2, e3, e4, e5, e6, e7, e8, e9⟩ := H g' (S.frC d5)
  rw [d1] at e1
  simp only [Option.some.injEq, Prod.mk.injEq] at e1
  obtain ⟨rfl, rfl, rfl⟩ := e1
  exact ⟨k, v, g', d1, d3, d4, b, h', e2, e8, a, o, p, e7.same fun m hm => e6.1 m hm⟩
def St (L : Option (Int32 × xSt)) (Mo : xSt → Option (Int32 × xSt)) (w : Int32 → Int32) : Prop := ∃ r g1 b g2, L = some (r, g1) ∧ Mo g1 = some (b, g2) ∧ g2 40 0 = r ∧ (r = 0 → g2 68 0 = w b) ∧ Inv g2
theorem k4 {k : Nat} (h : k ≤ 4) : k = 0 ∨ k = 1 ∨ k = 2 ∨ k = 3 ∨ k = 4 := by omega
theorem st_arrive {g : xSt} (I : Inv g) (p1 p2 p3 p4 : Int32) : St (f_L_arrive p1 p2 p3 p4 g) (f_M_arrive p1 p2 p3 p4) id := by
  obtain ⟨a, o, p, S⟩ := I
  obtain ⟨k, v, g', d1, d2, d3, b, g2, d4, d5, d6, d7⟩ := fin_val S (fun h S => op_arrive S p1 p2 p3 p4) id
  rw [f_L_arrive, d1]
  rcases k4 d2 with rfl | rfl | rfl | rfl | rfl
  · rw [obC_0, ob_b]; exact ⟨0, _, b, g2, rfl, d4, d5, fun _ => d6 rfl, d7⟩
  · rw [obC_1]; exact ⟨1, _, b, g2, rfl, d4, d5, fun q => absurd q (by decide), d7⟩
  · rw [obC_2]; exact ⟨2, _, b, g2, rfl, d4, d5, fun q => absurd q (by decide), d7⟩
  · exact absurd rfl d3
  · exact absurd rfl d3
theorem st_order {g : xSt} (I : Inv g) (p1 p2 p3 p4 : Int32) : St (f_L_order p1 p2 p3 p4 g) (f_M_order p1 p2 p3 p4) id := by
  obtain ⟨a, o, p, S⟩ := I
  obtain ⟨k, v, g', d1, d2, d3, b, g2, d4, d5, d6, d7⟩ := fin_val S (fun h S => op_order S p1 p2 p3 p4) id
  rw [f_L_order, d1]
  rcases k4 d2 with rfl | rfl | rfl | rfl | rfl
  · rw [obC_0, ob_b]; exact ⟨0, _, b, g2, rfl, d4, d5, fun _ => d6 rfl, d7⟩
  · rw [obC_1]; exact ⟨1, _, b, g2, rfl, d4, d5, fun q => absurd q (by decide), d7⟩
  · rw [obC_2]; exact ⟨2, _, b, g2, rfl, d4, d5, fun q => absurd q (by decide), d7⟩
  · exact absurd rfl d3
  · exact absurd rfl d3
theorem st_full {g : xSt} (I : Inv g) (fu : Nat) (hf : 65 < fu) (p1 p2 : Int32) : St (f_L_full fu p1 p2 g) (f_M_full fu p1 p2) id := by
  obtain ⟨a, o, p, S⟩ := I
  obtain ⟨k, v, g', d1, d2, d3, b, g2, d4, d5, d6, d7⟩ := fin_val S (fun h S => op_full S fu hf p1 p2) id
  rw [f_L_full, d1]
  rcases k4 d2 with rfl | rfl | rfl | rfl | rfl
  · rw [obC_0, ob_b]; exact ⟨0, _, b, g2, rfl, d4, d5, fun _ => d6 rfl, d7⟩
  · rw [obC_1]; exact ⟨1, _, b, g2, rfl, d4, d5, fun q => absurd q (by decide), d7⟩
  · exact absurd rfl d3
  · exact absurd rfl d3
  · exact absurd rfl d3
theorem st_match {g : xSt} (I : Inv g) (fu : Nat) (hf : 70 * 20000 + 80 ≤ fu) (p1 : Int32) : St (f_L_match fu p1 g) (f_M_match fu p1) id := by
  obtain ⟨a, o, p, S⟩ := I
  obtain ⟨k, v, g', d1, d2, d3, b, g2, d4, d5, d6, d7⟩ := fin_val S (fun h S => op_match S fu hf p1) id
  rw [f_L_match, d1]
  rcases k4 d2 with rfl | rfl | rfl | rfl | rfl
  · rw [obC_0, ob_b]; exact ⟨0, _, b, g2, rfl, d4, d5, fun _ => d6 rfl, d7⟩
  · rw [obC_1]; exact ⟨1, _, b, g2, rfl, d4, d5, fun q => absurd q (by decide), d7⟩
  · exact absurd rfl d3
  · exact absurd rfl d3
  · exact absurd rfl d3
theorem st_pair {g : xSt} (I : Inv g) (p1 p2 : Int32) : St (f_L_pair p1 p2 g) (f_M_pair p1 p2) id := by
  obtain ⟨a, o, p, S⟩ := I
  obtain ⟨k, v, g', d1, d2, d3, b, g2, d4, d5, d6, d7⟩ := fin_val S (fun h S => op_pair S p1 p2) id
  rw [f_L_pair, d1]
  rcases k4 d2 with rfl | rfl | rfl | rfl | rfl
  · rw [obC_0, ob_b]; exact ⟨0, _, b, g2, rfl, d4, d5, fun _ => d6 rfl, d7⟩
  · rw [obC_1]; exact ⟨2, _, b, g2, rfl, d4, d5, fun q => absurd q (by decide), d7⟩
  · exact absurd rfl d3
  · rw [obC_3]; exact ⟨1, _, b, g2, rfl, d4, d5, fun q => absurd q (by decide), d7⟩
  · exact absurd rfl d3
theorem st_late {g : xSt} (I : Inv g) (fu : Nat) (hf : 65 < fu) (p1 p2 : Int32) : St (f_L_late fu p1 p2 g) (f_M_late fu p1 p2) id := by
  obtain ⟨a, o, p, S⟩ := I
  obtain ⟨k, v, g', d1, d2, d3, b, g2, d4, d5, d6, d7⟩ := fin_val S (fun h S => op_late S fu hf p1 p2) id
  rw [f_L_late, d1]
  rcases k4 d2 with rfl | rfl | rfl | rfl | rfl
  · rw [obC_0, ob_b]; exact ⟨0, _, b, g2, rfl, d4, d5, fun _ => d6 rfl, d7⟩
  · rw [obC_1]; exact ⟨2, _, b, g2, rfl, d4, d5, fun q => absurd q (by decide), d7⟩
  · exact absurd rfl d3
  · rw [obC_3]; exact ⟨1, _, b, g2, rfl, d4, d5, fun q => absurd q (by decide), d7⟩
  · exact absurd rfl d3
theorem st_arrival {g : xSt} (I : Inv g) (fu : Nat) (hf : 65 < fu) (p1 p2 : Int32) : St (f_L_arrival fu p1 p2 g) (f_M_arrival fu p1 p2) id := by
  obtain ⟨a, o, p, S⟩ := I
  obtain ⟨k, v, g', d1, d2, d3, b, g2, d4, d5, d6, d7⟩ := fin_val S (fun h S => op_arrival S fu hf p1 p2) id
  rw [f_L_arrival, d1]
  rcases k4 d2 with rfl | rfl | rfl | rfl | rfl
  · rw [obC_0, ob_b]; exact ⟨0, _, b, g2, rfl, d4, d5, fun _ => d6 rfl, d7⟩
  · rw [obC_1]; exact ⟨2, _, b, g2, rfl, d4, d5, fun q => absurd q (by decide), d7⟩
  · exact absurd rfl d3
  · rw [obC_3]; exact ⟨1, _, b, g2, rfl, d4, d5, fun q => absurd q (by decide), d7⟩
  · exact absurd rfl d3
theorem st_wanted {g : xSt} (I : Inv g) (fu : Nat) (hf : 65 < fu) (p1 p2 : Int32) : St (f_L_wanted fu p1 p2 g) (f_M_wanted fu p1 p2) id := by
  obtain ⟨a, o, p, S⟩ := I
  obtain ⟨k, v, g', d1, d2, d3, b, g2, d4, d5, d6, d7⟩ := fin_val S (fun h S => op_wanted S fu hf p1 p2) id
  rw [f_L_wanted, d1]
  rcases k4 d2 with rfl | rfl | rfl | rfl | rfl
  · rw [obC_0, ob_b]; exact ⟨0, _, b, g2, rfl, d4, d5, fun _ => d6 rfl, d7⟩
  · rw [obC_1]; exact ⟨2, _, b, g2, rfl, d4, d5, fun q => absurd q (by decide), d7⟩
  · exact absurd rfl d3
  · rw [obC_3]; exact ⟨1, _, b, g2, rfl, d4, d5, fun q => absurd q (by decide), d7⟩
  · exact absurd rfl d3
theorem st_undo {g : xSt} (I : Inv g) (fu : Nat) (hf : 65 < fu) (p1 : Int32) : St (f_L_undo fu p1 g) (f_M_undo fu p1) id := by
  obtain ⟨a, o, p, S⟩ := I
  obtain ⟨k, v, g', d1, d2, d3, b, g2, d4, d5, d6, d7⟩ := fin_val S (fun h S => op_undo S fu hf p1) id
  rw [f_L_undo, d1]
  rcases k4 d2 with rfl | rfl | rfl | rfl | rfl
  · rw [obC_0, ob_b]; exact ⟨0, _, b, g2, rfl, d4, d5, fun _ => d6 rfl, d7⟩
  · exact absurd rfl d3
  · exact absurd rfl d3
  · rw [obC_3]; exact ⟨1, _, b, g2, rfl, d4, d5, fun q => absurd q (by decide), d7⟩
  · exact absurd rfl d3
theorem st_split {g : xSt} (I : Inv g) (fu : Nat) (hf : 65 < fu) (p1 p2 : Int32) : St (f_L_split fu p1 p2 g) (f_M_split fu p1 p2) id := by
  obtain ⟨a, o, p, S⟩ := I
  obtain ⟨k, v, g', d1, d2, d3, b, g2, d4, d5, d6, d7⟩ := fin_val S (fun h S => op_split S fu hf p1 p2) id
  rw [f_L_split, d1]
  rcases k4 d2 with rfl | rfl | rfl | rfl | rfl
  · rw [obC_0, ob_b]; exact ⟨0, _, b, g2, rfl, d4, d5, fun _ => d6 rfl, d7⟩
  · rw [obC_1]; exact ⟨2, _, b, g2, rfl, d4, d5, fun q => absurd q (by decide), d7⟩
  · rw [obC_2]; exact ⟨4, _, b, g2, rfl, d4, d5, fun q => absurd q (by decide), d7⟩
  · rw [obC_3]; exact ⟨1, _, b, g2, rfl, d4, d5, fun q => absurd q (by decide), d7⟩
  · rw [obC_4]; exact ⟨3, _, b, g2, rfl, d4, d5, fun q => absurd q (by decide), d7⟩
theorem st_rule {g : xSt} (I : Inv g) (p1 p2 p3 : Int32) (h3 : p3 = 0 ∨ p3 = 1) : St (f_L_rule p1 p2 p3 g) (f_M_rule p1 p2 p3) (fun v => if v = 0 then 0 else 1) := by
  obtain ⟨a, o, p, S⟩ := I
  obtain ⟨k, v, g', d1, d2, d3, b, g2, d4, d5, d6, d7⟩ := fin_val S (fun h S => op_rule S p1 p2 p3 h3) (fun v => if v = 0 then 0 else 1)
  rw [f_L_rule, d1]
  rcases k4 d2 with rfl | rfl | rfl | rfl | rfl
  · rw [obC_0]
    refine ⟨0, xw g' 68 0 (if v = 0 then 0 else 1), b, g2, ?_, d4, d5, fun _ => d6 rfl, d7⟩
    by_cases v0 : v = 0
    · simp only [if_pos v0, ob_b]
    · simp only [if_neg v0, ob_b]
  · exact absurd rfl d3
  · exact absurd rfl d3
  · rw [obC_3]; exact ⟨1, _, b, g2, rfl, d4, d5, fun q => absurd q (by decide), d7⟩
  · exact absurd rfl d3
def StV (L : Option (Int32 × xSt)) (Mo : xSt → Option xSt) : Prop := ∃ r g1 g2, L = some (r, g1) ∧ Mo g1 = some g2 ∧ g2 40 0 = r ∧ Inv g2
theorem map_some {o : Option xSt} {b : Int32} {g : xSt} (h : (o.map fun h' => ((0 : Int32), h')) = some (b, g)) : o = some g := by
  cases o with
  | none => simp at h
  | some x => simp only [Option.map_some, Option.some.injEq, Prod.mk.injEq] at h; rw [h.2]
theorem st_wants {g : xSt} (I : Inv g) (p1 p2 p3 : Int32) : StV (f_L_wants p1 p2 p3 g) (f_M_wants p1 p2 p3) := by
  obtain ⟨a, o, p, S⟩ := I
  obtain ⟨k, v, g', d1, d2, d3, b, g2, d4, d5, d7⟩ := fin_void S (Mo := fun h => (f_M_wants p1 p2 p3 h).map fun h' => (0, h')) (fun h S => op_wants S p1 p2 p3)
  have d4 := map_some d4
  rw [f_L_wants, d1]
  rcases k4 d2 with rfl | rfl | rfl | rfl | rfl
  · rw [obC_0]; exact ⟨0, _, g2, rfl, d4, d5, d7⟩
  · rw [obC_1]; exact ⟨2, _, g2, rfl, d4, d5, d7⟩
  · exact absurd rfl d3
  · rw [obC_3]; exact ⟨1, _, g2, rfl, d4, d5, d7⟩
  · exact absurd rfl d3
theorem st_promised {g : xSt} (I : Inv g) (fu : Nat) (hf : 65 < fu) (p1 p2 : Int32) : StV (f_L_promised fu p1 p2 g) (f_M_promised fu p1 p2) := by
  obtain ⟨a, o, p, S⟩ := I
  obtain ⟨k, v, g', d1, d2, d3, b, g2, d4, d5, d7⟩ := fin_void S (Mo := fun h => (f_M_promised fu p1 p2 h).map fun h' => (0, h')) (fun h S => op_promised S fu hf p1 p2)
  have d4 := map_some d4
  rw [f_L_promised, d1]
  rcases k4 d2 with rfl | rfl | rfl | rfl | rfl
  · rw [obC_0]; exact ⟨0, _, g2, rfl, d4, d5, d7⟩
  · rw [obC_1]; exact ⟨2, _, g2, rfl, d4, d5, d7⟩
  · exact absurd rfl d3
  · rw [obC_3]; exact ⟨1, _, g2, rfl, d4, d5, d7⟩
  · rw [obC_4]; exact ⟨3, _, g2, rfl, d4, d5, d7⟩
def St0 (D : Option (Int32 × xSt)) (Mo : xSt → Option (Int32 × xSt)) : Prop := ∃ v g1 g2, D = some (v, g1) ∧ Mo g1 = some (v, g2) ∧ Inv g2
theorem st0_of {g : xSt} (I : Inv g) {D : Option (Int32 × xSt)} {Mo : xSt → Option (Int32 × xSt)} (H : ∀ a o p, Sim a o p g g → Res0 g g D (Mo g)) : St0 D Mo := by
  obtain ⟨a, o, p, S⟩ := I
  obtain ⟨v, h', a', o', p', d1, d2, d3, d4⟩ := H a o p S
  exact ⟨v, g, h', d1, d2, a', o', p', d4.same fun m hm => d3.1 m hm⟩
theorem lgz (x : Int64) : lg_cmp x x = 0 := by
  unfold lg_cmp
  rw [if_neg (by simp), if_pos rfl]
