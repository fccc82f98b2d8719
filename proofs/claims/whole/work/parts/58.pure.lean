/-! the law, whole -/
theorem nin' {c N : Nat} (h : c < N) (hN : N ≤ 2560) : ¬ (nI c < 0 ∨ N ≤ c) := fun e => by
  rcases e with e | e
  · exact nI_nneg c (by omega) e
  · omega
theorem bool_s {R : Prop} {x : Int32} (h0 : x = 0 → R) (h1 : ¬ x = 0 → R) : R := by
  by_cases e : x = 0
  · exact h0 e
  · exact h1 e
set_option maxHeartbeats 4000000 in
theorem pl_step (fu L : Nat) (xs : Nat → Int32) (hfu : 70 * 20000 + 80 ≤ fu) (hL : L ≤ 2560) {i n : Nat} (hi : i + 5 ≤ L) {g : xSt} (I : Inv g) : ∃ g2, Inv g2 ∧ f_L_law fu L xs (n + 1) (nI i) g = f_L_law fu L xs n (nI (i + 5)) g2 := by
  have hf : 65 < fu := by omega
  have c0 : ¬ (Int32.ofNat L - 5 < nI i) := by
    show ¬ (nI L - nI 5 < nI i)
    rw [pk_sub (by omega)]
    exact nI_nlt (by omega) (by omega)
  have k1 := nI_clamp (n := i) (by omega)
  have a1 : nI i + (1 : Int32) = nI (i + 1) := nI_1 i
  have a2 : nI i + (2 : Int32) = nI (i + 2) := nI_add i 2
  have a3 : nI i + (3 : Int32) = nI (i + 3) := nI_add i 3
  have a4 : nI i + (4 : Int32) = nI (i + 4) := nI_add i 4
  have a5 : nI i + (5 : Int32) = nI (i + 5) := nI_add i 5
  rw [f_L_law, if_neg c0]
  simp only [a1, a2, a3, a4, a5, k1, nI_clamp (n := i + 1) (show i + 1 < 2 ^ 31 by omega), nI_clamp (n := i + 2) (show i + 2 < 2 ^ 31 by omega), nI_clamp (n := i + 3) (show i + 3 < 2 ^ 31 by omega), nI_clamp (n := i + 4) (show i + 4 < 2 ^ 31 by omega), if_neg (nin' (show i < L by omega) hL), if_neg (nin' (show i + 1 < L by omega) hL), if_neg (nin' (show i + 2 < L by omega) hL), if_neg (nin' (show i + 3 < L by omega) hL), if_neg (nin' (show i + 4 < L by omega) hL), f_M_thrown, ob2_mk]
  generalize xs i &&& 31 = w
  by_cases w0 : w = 0
  · rw [if_pos w0]
    obtain ⟨r, g1, b, g2, h1, h2, h3, h4, h5⟩ := st_arrive I (xs (i + 1)) (xs (i + 2)) (xs (i + 3)) (xs (i + 4))
    refine ⟨g2, h5, ?_⟩
    rw [h1, ob2_mk, h2, ob2_mk, if_pos h3]
    by_cases r0 : r = 0
    · rw [if_pos r0, h4 r0, id, lgz, if_pos rfl]
    · rw [if_neg r0]
  rw [if_neg w0]
  by_cases w1 : w = 1
  · rw [if_pos w1]
    obtain ⟨r, g1, b, g2, h1, h2, h3, h4, h5⟩ := st_order I (xs (i + 1)) (xs (i + 2)) (xs (i + 3)) (xs (i + 4))
    refine ⟨g2, h5, ?_⟩
    rw [h1, ob2_mk, h2, ob2_mk, if_pos h3]
    by_cases r0 : r = 0
    · rw [if_pos r0, h4 r0, id, lgz, if_pos rfl]
    · rw [if_neg r0]
  rw [if_neg w1]
  by_cases w2 : w = 2
  · rw [if_pos w2]
    obtain ⟨r, g1, g2, h1, h2, h3, h5⟩ := st_wants I (xs (i + 1)) (xs (i + 2)) (xs (i + 3))
    refine ⟨g2, h5, ?_⟩
    rw [h1, ob2_mk, h2, ob_b, if_pos h3]
  rw [if_neg w2]
  by_cases w3 : w = 3
  · rw [if_pos w3]
    obtain ⟨r, g1, g2, h1, h2, h3, h5⟩ := st_promised I fu hf (xs (i + 1)) (xs (i + 2))
    refine ⟨g2, h5, ?_⟩
    rw [h1, ob2_mk, h2, ob_b, if_pos h3]
  rw [if_neg w3]
  by_cases w4 : w = 4
  · rw [if_pos w4]
    by_cases b0 : xs (i + 3) = 0
    · simp only [if_pos b0]
      obtain ⟨r, g1, b, g2, h1, h2, h3, h4, h5⟩ := st_rule I (xs (i + 1)) (xs (i + 2)) 0 (Or.inl rfl)
      refine ⟨g2, h5, ?_⟩
      rw [h1, ob2_mk, h2, ob2_mk, if_pos h3]
      by_cases r0 : r = 0
      · have h4' : g2 68 0 = if b = 0 then 0 else 1 := h4 r0
        rw [if_pos r0, h4']
        by_cases v0 : b = 0
        · rw [if_pos v0, if_pos v0, lgz, if_pos rfl]
        · rw [if_neg v0, if_neg v0, lgz, if_pos rfl]
      · rw [if_neg r0]
    · simp only [if_neg b0]
      obtain ⟨r, g1, b, g2, h1, h2, h3, h4, h5⟩ := st_rule I (xs (i + 1)) (xs (i + 2)) 1 (Or.inr rfl)
      refine ⟨g2, h5, ?_⟩
      rw [h1, ob2_mk, h2, ob2_mk, if_pos h3]
      by_cases r0 : r = 0
      · have h4' : g2 68 0 = if b = 0 then 0 else 1 := h4 r0
        rw [if_pos r0, h4']
        by_cases v0 : b = 0
        · rw [if_pos v0, if_pos v0, lgz, if_pos rfl]
        · rw [if_neg v0, if_neg v0, lgz, if_pos rfl]
      · rw [if_neg r0]
  rw [if_neg w4]
  by_cases w5 : w = 5
  · rw [if_pos w5]
    by_cases b0 : xs (i + 2) = 0
    · simp only [if_pos b0]
      obtain ⟨r, g1, b, g2, h1, h2, h3, h4, h5⟩ := st_full I fu hf (xs (i + 1)) 0
      refine ⟨g2, h5, ?_⟩
      rw [h1, ob2_mk, h2, ob2_mk, if_pos h3]
      by_cases r0 : r = 0
      · rw [if_pos r0, h4 r0, id, lgz, if_pos rfl]
      · rw [if_neg r0]
    · simp only [if_neg b0]
      obtain ⟨r, g1, b, g2, h1, h2, h3, h4, h5⟩ := st_full I fu hf (xs (i + 1)) 1
      refine ⟨g2, h5, ?_⟩
      rw [h1, ob2_mk, h2, ob2_mk, if_pos h3]
      by_cases r0 : r = 0
      · rw [if_pos r0, h4 r0, id, lgz, if_pos rfl]
      · rw [if_neg r0]
  rw [if_neg w5]
  by_cases w6 : w = 6
  · rw [if_pos w6]
    obtain ⟨r, g1, b, g2, h1, h2, h3, h4, h5⟩ := st_match I fu hfu (xs (i + 1))
    refine ⟨g2, h5, ?_⟩
    rw [h1, ob2_mk, h2, ob2_mk, if_pos h3]
    by_cases r0 : r = 0
    · rw [if_pos r0, h4 r0, id, lgz, if_pos rfl]
    · rw [if_neg r0]
  rw [if_neg w6]
  by_cases w7 : w = 7
  · rw [if_pos w7]
    obtain ⟨v, g1, g2, h1, h2, h5⟩ := st0_of I (Mo := f_M_exact) fun a o p S => op_exact S
    refine ⟨g2, h5, ?_⟩
    rw [h1, ob2_mk, h2, ob2_mk, if_pos rfl]
  rw [if_neg w7]
  by_cases w8 : w = 8
  · rw [if_pos w8]
    obtain ⟨v, g1, g2, h1, h2, h5⟩ := st0_of I (Mo := f_M_bound fu) fun a o p S => op_bound S fu hf
    refine ⟨g2, h5, ?_⟩
    rw [h1, ob2_mk, h2, ob2_mk, if_pos rfl]
  rw [if_neg w8]
  by_cases w9 : w = 9
  · rw [if_pos w9]
    obtain ⟨v, g1, g2, h1, h2, h5⟩ := st0_of I (Mo := f_M_steps) fun a o p S => op_steps S
    refine ⟨g2, h5, ?_⟩
    rw [h1, ob2_mk, h2, ob2_mk, if_pos rfl]
  rw [if_neg w9]
  by_cases w10 : w = 10
  · rw [if_pos w10]
    obtain ⟨r, g1, b, g2, h1, h2, h3, h4, h5⟩ := st_pair I (xs (i + 1)) (xs (i + 2))
    refine ⟨g2, h5, ?_⟩
    rw [h1, ob2_mk, h2, ob2_mk, if_pos h3]
    by_cases r0 : r = 0
    · rw [if_pos r0, h4 r0, id, lgz, if_pos rfl]
    · rw [if_neg r0]
  rw [if_neg w10]
  by_cases w11 : w = 11
  · rw [if_pos w11]
    obtain ⟨r, g1, b, g2, h1, h2, h3, h4, h5⟩ := st_undo I fu hf (xs (i + 1))
    refine ⟨g2, h5, ?_⟩
    rw [h1, ob2_mk, h2, ob2_mk, if_pos h3]
    by_cases r0 : r = 0
    · rw [if_pos r0, h4 r0, id, lgz, if_pos rfl]
    · rw [if_neg r0]
  rw [if_neg w11]
  by_cases w12 : w = 12
  · rw [if_pos w12]
    obtain ⟨r, g1, b, g2, h1, h2, h3, h4, h5⟩ := st_split I fu hf (xs (i + 1)) (xs (i + 2))
    refine ⟨g2, h5, ?_⟩
    rw [h1, ob2_mk, h2, ob2_mk, if_pos h3]
    by_cases r0 : r = 0
    · rw [if_pos r0, h4 r0, id, lgz, if_pos rfl]
    · rw [if_neg r0]
  rw [if_neg w12]
  by_cases w13 : w = 13
  · rw [if_pos w13]
    obtain ⟨r, g1, b, g2, h1, h2, h3, h4, h5⟩ := st_late I fu hf (xs (i + 1)) (xs (i + 2))
    refine ⟨g2, h5, ?_⟩
    rw [h1, ob2_mk, h2, ob2_mk, if_pos h3]
    by_cases r0 : r = 0
    · rw [if_pos r0, h4 r0, id, lgz, if_pos rfl]
    · rw [if_neg r0]
  rw [if_neg w13]
  by_cases w14 : w = 14
  · rw [if_pos w14]
    obtain ⟨r, g1, b, g2, h1, h2, h3, h4, h5⟩ := st_arrival I fu hf (xs (i + 1)) (xs (i + 2))
    refine ⟨g2, h5, ?_⟩
    rw [h1, ob2_mk, h2, ob2_mk, if_pos h3]
    by_cases r0 : r = 0
    · rw [if_pos r0, h4 r0, id, lgz, if_pos rfl]
    · rw [if_neg r0]
  rw [if_neg w14]
  by_cases w15 : w = 15
  · rw [if_pos w15]
    obtain ⟨r, g1, b, g2, h1, h2, h3, h4, h5⟩ := st_wanted I fu hf (xs (i + 1)) (xs (i + 2))
    refine ⟨g2, h5, ?_⟩
    rw [h1, ob2_mk, h2, ob2_mk, if_pos h3]
    by_cases r0 : r = 0
    · rw [if_pos r0, h4 r0, id, lgz, if_pos rfl]
    · rw [if_neg r0]
  rw [if_neg w15]
  by_cases w16 : w = 16
  · rw [if_pos w16]
    obtain ⟨v, g1, g2, h1, h2, h5⟩ := st0_of I (Mo := f_M_saved fu) fun a o p S => op_saved S fu hf
    refine ⟨g2, h5, ?_⟩
    rw [h1, ob2_mk, h2, ob2_mk, if_pos rfl]
  rw [if_neg w16]
  by_cases w17 : w = 17
  · rw [if_pos w17]
    obtain ⟨v, g1, g2, h1, h2, h5⟩ := st0_of I (Mo := f_M_count fu (xs (i + 1))) fun a o p S => op_count S fu hf (xs (i + 1))
    refine ⟨g2, h5, ?_⟩
    rw [h1, ob2_mk, h2, ob2_mk, if_pos rfl]
  rw [if_neg w17]
  exact ⟨g, I, rfl⟩
theorem pl_end (fu L : Nat) (xs : Nat → Int32) (hL : L ≤ 2560) {i n : Nat} (hi : L < i + 5) (hi2 : i ≤ 2560) (g : xSt) : f_L_law fu L xs (n + 1) (nI i) g = some g := by
  have c0 : Int32.ofNat L - 5 < nI i := by
    show nI L - nI 5 < nI i
    by_cases q : 5 ≤ L
    · rw [pk_sub q]; exact nI_lt (by omega) (by omega)
    · have h0 : nI L - nI 5 < 0 := by
        have : L = 0 ∨ L = 1 ∨ L = 2 ∨ L = 3 ∨ L = 4 := by omega
        rcases this with rfl | rfl | rfl | rfl | rfl <;> decide
      have := nI_nneg i (by omega)
      grind
  rw [f_L_law, if_pos c0]
theorem pl_loop (fu L : Nat) (xs : Nat → Int32) (hfu : 70 * 20000 + 80 ≤ fu) (hL : L ≤ 2560) : ∀ n i g, Inv g → i ≤ L → L < i + 5 * n → ∃ g', f_L_law fu L xs n (nI i) g = some g'
  | 0, i, g, _, _, hn => by omega
  | n + 1, i, g, I, hi, hn => by
    by_cases q : i + 5 ≤ L
    · obtain ⟨g2, I2, e⟩ := pl_step (n := n) fu L xs hfu hL q I
      obtain ⟨g', e'⟩ := pl_loop fu L xs hfu hL n (i + 5) g2 I2 q (by omega)
      exact ⟨g', by rw [e, e']⟩
    · exact ⟨g, pl_end fu L xs hL (by omega) (by omega) g⟩
theorem inv_0 : Inv (fun _ _ => 0) := by
  refine ⟨0, 0, 0, ⟨⟨by omega, by omega, by omega⟩, ⟨rfl, rfl, rfl⟩, Or.inl rfl, fun i => ⟨0, 0, by omega, by omega, rfl, rfl⟩, fun _ _ => rfl, fun _ => ⟨0, by omega, rfl⟩, fun o ho => by omega, fun _ => ⟨0, by omega, rfl⟩, fun _ => ⟨0, by omega, rfl⟩, fun _ => ⟨0, by omega, rfl⟩⟩, ?_, ?_, fun _ => Or.inl rfl⟩
  · unfold Eqs; simp
  · intro i o _ _; simp
theorem law_pure0 (L : Nat) (xs : Nat → Int32) (hL : L ≤ 2560) : ∃ (fu n : Nat) (g' : xSt), n ≤ 10000 ∧ f_L_law fu L xs n 0 (fun _ _ => 0) = some g' := by
  obtain ⟨g', e⟩ := pl_loop (70 * 20000 + 80) L xs (Nat.le_refl _) hL 600 0 _ inv_0 (by omega) (by omega)
  exact ⟨_, 600, g', by omega, e⟩
