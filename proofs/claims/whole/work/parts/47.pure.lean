/-! rule, pair, arrival, wanted, saved, exact, bound, steps, count -/
theorem nar_b (p : Int32) (h : p = 0 ∨ p = 1) : vp_nar .boolean p = p := by
  rcases h with rfl | rfl <;> decide
theorem op_rule {nA nO nP : Nat} {g h : xSt} (S : Sim nA nO nP g h) (p1 p2 p3 : Int32) (h3 : p3 = 0 ∨ p3 = 1) : Res (cdn (-1) (-1) 1 (-1)) g h (f_D_rule p1 p2 p3 g) (f_M_rule p1 p2 p3 h) := by
  have S' := S
  obtain ⟨⟨⟨hA, hO, hP⟩, ⟨eA, eO, eP⟩, hx, hpk, hk0, hl, hm, hpa, hpo, hch⟩, E, B, B2⟩ := S
  unfold Eqs at E
  obtain ⟨e41, e42, e43, e44, e45, e47, e48, e49, e50, e51, e52, e53, e54, e55, e56, e57, e59, e60, e61, e62, e66⟩ := E
  have eA' : h 41 0 = nI nA := by rw [e41, eA]
  have eO' : h 42 0 = nI nO := by rw [e42, eO]
  by_cases r1 : ∃ j, j < nA ∧ p1 = nI j
  case neg =>
    have q := th_bad r1 (show nA ≤ 64 by omega)
    refine Res.thr S' (k := 3) (v := 0) (b := 0) (by decide) (by decide) (by decide) ?_ ?_
    · rw [f_D_rule, eA, q.1, obT_3]
    · rw [f_M_rule, M_isArrival eA' q.2 (Or.inl rfl), ob2_mk, if_pos rfl, ob_b, if_neg (by rw [xw_self]; decide)]; rfl
  obtain ⟨j, hj, rfl⟩ := r1
  have q1 := th_ok hj (show nA ≤ 64 by omega)
  have m1 := M_isArrival eA' q1.2 (Or.inr rfl)
  by_cases r2 : ∃ k, k < nO ∧ p2 = nI k
  case neg =>
    have q := th_bad r2 (show nO ≤ 64 by omega)
    refine Res.thr S' (k := 3) (v := 0) (b := 0) (by decide) (by decide) (by decide) ?_ ?_
    · rw [f_D_rule, eA, q1.1, obT_0, eO, q.1, obT_3]
    · rw [f_M_rule, m1, ob2_mk, if_neg (by decide), M_isOrder eO' q.2 (Or.inl rfl), ob2_mk, if_pos rfl, ob_b, if_neg (by rw [xw_self]; decide)]; rfl
  obtain ⟨k, hk, rfl⟩ := r2
  have q2 := th_ok hk (show nO ≤ 64 by omega)
  have m2 := M_isOrder eO' q2.2 (Or.inr rfl)
  have c := nI_clamp (n := j) (by omega)
  have gd := nin (show j < 8 by omega) (show 8 ≤ 65 by decide)
  have c8 := nI_clamp (n := 8 * j + k) (by omega)
  have gd8 := nin (show 8 * j + k < 64 by omega) (show 64 ≤ 65 by decide)
  let w : Int32 := if p3 = 0 then (g 29 j) &&& (((1 : Int32) <<< (nI k &&& 31)) ^^^ (-1 : Int32)) else (g 29 j) ||| ((1 : Int32) <<< (nI k &&& 31))
  have SS : Sim nA nO nP (xw g 29 j w) (xw (xw h 40 0 0) 58 (8 * j + k) p3) := by
    refine ⟨?_, ?_, ?_, ?_⟩
    · have W := S'.1
      unfold WF at *; simpa [xwE] using W
    · unfold Eqs; simp [xwR, e41, e42, e43, e44, e45, e47, e48, e49, e50, e51, e52, e53, e54, e55, e56, e57, e59, e60, e61, e62, e66]
    · intro i o hi ho
      have Bi := B i o hi ho
      rw [u_and1 _ o (by omega)] at Bi ⊢
      by_cases ei : i = j
      · subst ei
        rw [xw_self]
        by_cases eo : o = k
        · subst eo
          rw [xw_self]
          rcases h3 with rfl | rfl
          · simp only [w, if_true]; rw [u_an _ o o (by omega) (by omega)]; simp
          · simp only [w, show ¬ (1 : Int32) = 0 by decide, if_false]; rw [u_or _ o o (by omega) (by omega)]; simp
        · have hne : 8 * i + o ≠ 8 * i + k := by omega
          have e3 : (xw (xw h 40 0 0) 58 (8 * i + k) p3) 58 (8 * i + o) = h 58 (8 * i + o) := by simp [xwE, hne, eo]
          rw [e3, ← Bi]
          rcases h3 with rfl | rfl
          · simp only [w, if_true]; rw [u_an _ k o (by omega) (by omega)]; simp [eo]
          · simp only [w, show ¬ (1 : Int32) = 0 by decide, if_false]; rw [u_or _ k o (by omega) (by omega)]; simp [eo]
      · have hne : 8 * i + o ≠ 8 * j + k := by omega
        have e3 : (xw (xw h 40 0 0) 58 (8 * j + k) p3) 58 (8 * i + o) = h 58 (8 * i + o) := by simp [xwE, hne]
        rw [e3, ← Bi, xw_ix g 29 w ei]
    · intro i
      by_cases ei : i = 8 * j + k
      · subst ei; rw [xw_self]; exact h3
      · simpa [xwE, ei] using B2 i
  have hd : f_A_setBarred j (nI k) p3 g = some (xw g 29 j w) := by
    rw [f_A_setBarred]
    by_cases e0 : p3 = 0
    · rw [if_pos e0, ob_b]; simp only [w, if_pos e0]
    · rw [if_neg e0, ob_b]; simp only [w, if_neg e0]
  have ob := obs_v (xw g 29 j w) j k
  refine Res.ret (v := if obs (xw g 29 j w) j k = 0 then 1 else 0) (g' := xw g 29 j w) (h' := xw (xw h 40 0 0) 58 (8 * j + k) p3) (nA := nA) (nO := nO) (nP := nP) ?_ ?_ ?_ ?_ SS ?_
  · rw [f_D_rule, eA, q1.1, obT_0, eO, q2.1, obT_0, c, if_neg gd, hd, ob_b, D_mayServe (by omega) (by omega) (SS.1.2.2.2.2.2.1 k), ob2_mk, if_neg (not_not_intro (by split <;> simp))]
  · rw [f_M_rule, m1, ob2_mk, if_neg (by decide), m2, ob2_mk, if_neg (by decide), ob_b, if_pos (by rw [xw_self]; decide), ix8, c8, if_neg gd8, ob_b, nar_b p3 h3, M_mayServe SS (by omega) (by omega), ob2_mk, if_neg (not_not_intro (by split <;> simp))]
  · exact ((FrC.refl g).xw (by decide))
  · exact (((FrM.refl h).xw (by decide) (by decide)).xw (by decide) (by decide))
  · simp [xwE]
theorem op_pair {nA nO nP : Nat} {g h : xSt} (S : Sim nA nO nP g h) (p1 p2 : Int32) : Res (cdn 2 (-1) 1 (-1)) g h (f_D_pair p1 p2 g) (f_M_pair p1 p2 h) := by
  have S' := S
  obtain ⟨⟨⟨hA, hO, hP⟩, ⟨eA, eO, eP⟩, -⟩, E, -⟩ := S
  unfold Eqs at E
  obtain ⟨e41, e42, e43, e44, e45, e47, e48, e49, e50, e51, e52, e53, e54, e55, e56, e57, e59, e60, e61, e62, e66⟩ := E
  have eP' : h 43 0 = nI nP := by rw [e43, eP]
  by_cases r1 : ∃ j, j < nP ∧ p1 = nI j
  case neg =>
    have q := th_bad r1 hP
    refine Res.thr S' (k := 3) (v := 0) (b := 0) (by decide) (by decide) (by decide) ?_ ?_
    · rw [f_D_pair, eP, q.1, obT_3]
    · rw [f_M_pair, eP', q.2, ob2_mk, if_pos rfl, ob_b, if_neg (by rw [xw_self]; decide)]; rfl
  obtain ⟨j, hj, rfl⟩ := r1
  have q1 := th_ok hj hP
  by_cases r2 : ¬ p2 < 0 ∧ p2 ≤ 2
  case neg =>
    refine Res.thr S' (k := 1) (v := 0) (b := 0) (by decide) (by decide) (by decide) ?_ ?_
    · rw [f_D_pair, eP, q1.1, obT_0, (rg_bad r2).1, obT_1]
    · rw [f_M_pair, eP', q1.2, ob2_mk, if_neg (by decide), (rg_bad r2).2, ob2_mk, if_pos rfl, ob_b, if_neg (by rw [xw_self]; decide)]; rfl
  have q2 := rg_ok r2.1 r2.2
  have c := nI_clamp (n := j) (by omega)
  have gd := nin (show j < 64 by omega) (show 64 ≤ 65 by decide)
  refine Res.ret (v := if p2 = 0 then g 20 j else if p2 = 1 then g 21 j else g 22 j) (g' := g) (h' := xw h 40 0 0) (nA := nA) (nO := nO) (nP := nP) ?_ ?_ (FrC.refl g) ((FrM.refl h).xw (by decide) (by decide)) (S'.code 0) (xw_self _ _ _ _)
  · rw [f_D_pair, eP, q1.1, obT_0, q2.1, obT_0]
    simp only [c, if_neg gd]; repeat' split
    all_goals rfl
  · rw [f_M_pair, eP', q1.2, ob2_mk, if_neg (by decide), q2.2, ob2_mk, if_neg (by decide), ob_b, if_pos (by rw [xw_self]; decide)]
    simp only [c, if_neg gd, xw_reg h 0 (0 : Int32) (show 60 ≠ 40 by decide), xw_reg h 0 (0 : Int32) (show 61 ≠ 40 by decide), xw_reg h 0 (0 : Int32) (show 62 ≠ 40 by decide), e60, e61, e62]; repeat' split
    all_goals rfl
theorem op_arrival {nA nO nP : Nat} {g h : xSt} (S : Sim nA nO nP g h) (fu : Nat) (hf : 65 < fu) (p1 p2 : Int32) : Res (cdn 2 (-1) 1 (-1)) g h (f_D_arrival fu p1 p2 g) (f_M_arrival fu p1 p2 h) := by
  have S' := S
  have S0 := S.code 0
  obtain ⟨⟨⟨hA, hO, hP⟩, ⟨eA, eO, eP⟩, -, -, -, hl, -⟩, E, -⟩ := S
  unfold Eqs at E
  obtain ⟨e41, e42, e43, e44, e45, e47, e48, e49, e50, e51, e52, e53, e54, e55, e56, e57, e59, e60, e61, e62, e66⟩ := E
  have eA' : h 41 0 = nI nA := by rw [e41, eA]
  by_cases r1 : ∃ j, j < nA ∧ p1 = nI j
  case neg =>
    have q := th_bad r1 (show nA ≤ 64 by omega)
    refine Res.thr S' (k := 3) (v := 0) (b := 0) (by decide) (by decide) (by decide) ?_ ?_
    · rw [f_D_arrival, eA, q.1, obT_3]
    · rw [f_M_arrival, M_isArrival eA' q.2 (Or.inl rfl), ob2_mk, if_pos rfl, ob_b, if_neg (by rw [xw_self]; decide)]; rfl
  obtain ⟨j, hj, rfl⟩ := r1
  have q1 := th_ok hj (show nA ≤ 64 by omega)
  have m1 := M_isArrival eA' q1.2 (Or.inr rfl)
  by_cases r2 : ¬ p2 < 0 ∧ p2 ≤ 3
  case neg =>
    refine Res.thr S' (k := 1) (v := 0) (b := 0) (by decide) (by decide) (by decide) ?_ ?_
    · rw [f_D_arrival, eA, q1.1, obT_0, (rg_bad r2).1, obT_1]
    · rw [f_M_arrival, m1, ob2_mk, if_neg (by decide), (rg_bad r2).2, ob2_mk, if_pos rfl, ob_b, if_neg (by rw [xw_self]; decide)]; rfl
  have q2 := rg_ok r2.1 r2.2
  have c := nI_clamp (n := j) (by omega)
  have gd := nin (show j < 8 by omega) (show 8 ≤ 65 by decide)
  have P1 := P_palletsOf hP eP fu hf (nI j)
  have M1 := M_held (h := xw h 40 0 0) hP (by simp [xwE, e43, eP]) fu hf (nI j)
  have D1 := D_ordersFor hO eO hl fu hf (show j < 8 by omega)
  have M2 := M_arrivalL S0 fu hf (show j < 8 by omega) p2
  refine Res.ret (v := if p2 = 0 then g 27 j - g 28 j - psum (fun i => if g 20 i = nI j then g 22 i else 0) nP else if p2 = 1 then g 26 j else if p2 = 2 then g 27 j else psum (fun o => if obs g j o = 0 then 1 else 0) nO) (g' := g) (h' := xw h 40 0 0) (nA := nA) (nO := nO) (nP := nP) ?_ ?_ (FrC.refl g) ((FrM.refl h).xw (by decide) (by decide)) S0 (xw_self _ _ _ _)
  · rw [f_D_arrival, eA, q1.1, obT_0, q2.1, obT_0]
    simp only [c, if_neg gd, f_A_toGive, ob2_mk, P1, D1]; repeat' split
    all_goals rfl
  · rw [f_M_arrival, m1, ob2_mk, if_neg (by decide), q2.2, ob2_mk, if_neg (by decide), ob_b, if_pos (by rw [xw_self]; decide)]
    simp only [f_M_has, c, if_neg gd, ob2_mk, ob3_mk, M1, M2]
    simp only [xw_reg h 0 (0 : Int32) (show 60 ≠ 40 by decide), xw_reg h 0 (0 : Int32) (show 62 ≠ 40 by decide), xw_reg h 0 (0 : Int32) (show 49 ≠ 40 by decide), xw_reg h 0 (0 : Int32) (show 50 ≠ 40 by decide), xw_reg h 0 (0 : Int32) (show 51 ≠ 40 by decide), e60, e62, e49, e50, e51]; repeat' split
    all_goals rfl
theorem op_wanted {nA nO nP : Nat} {g h : xSt} (S : Sim nA nO nP g h) (fu : Nat) (hf : 65 < fu) (p1 p2 : Int32) : Res (cdn 2 (-1) 1 (-1)) g h (f_D_wanted fu p1 p2 g) (f_M_wanted fu p1 p2 h) := by
  have S' := S
  have S0 := S.code 0
  obtain ⟨⟨⟨hA, hO, hP⟩, ⟨eA, eO, eP⟩, -, -, -, hl, -⟩, E, -⟩ := S
  unfold Eqs at E
  obtain ⟨e41, e42, e43, e44, e45, e47, e48, e49, e50, e51, e52, e53, e54, e55, e56, e57, e59, e60, e61, e62, e66⟩ := E
  have eO' : h 42 0 = nI nO := by rw [e42, eO]
  by_cases r1 : ∃ j, j < nO ∧ p1 = nI j
  case neg =>
    have q := th_bad r1 (show nO ≤ 64 by omega)
    refine Res.thr S' (k := 3) (v := 0) (b := 0) (by decide) (by decide) (by decide) ?_ ?_
    · rw [f_D_wanted, eO, q.1, obT_3]
    · rw [f_M_wanted, M_isOrder eO' q.2 (Or.inl rfl), ob2_mk, if_pos rfl, ob_b, if_neg (by rw [xw_self]; decide)]; rfl
  obtain ⟨j, hj, rfl⟩ := r1
  have q1 := th_ok hj (show nO ≤ 64 by omega)
  have m1 := M_isOrder eO' q1.2 (Or.inr rfl)
  by_cases r2 : ¬ p2 < 0 ∧ p2 ≤ 3
  case neg =>
    refine Res.thr S' (k := 1) (v := 0) (b := 0) (by decide) (by decide) (by decide) ?_ ?_
    · rw [f_D_wanted, eO, q1.1, obT_0, (rg_bad r2).1, obT_1]
    · rw [f_M_wanted, m1, ob2_mk, if_neg (by decide), (rg_bad r2).2, ob2_mk, if_pos rfl, ob_b, if_neg (by rw [xw_self]; decide)]; rfl
  have q2 := rg_ok r2.1 r2.2
  have c := nI_clamp (n := j) (by omega)
  have gd := nin (show j < 8 by omega) (show 8 ≤ 65 by decide)
  have P1 := P_palletsFor hP eP fu hf (nI j)
  have M1 := M_hasGot (h := xw h 40 0 0) hP (by simp [xwE, e43, eP]) fu hf (nI j)
  have D1 := D_arrivalsFor hA eA hl fu hf (show j < 8 by omega)
  have M2 := M_passing S0 fu hf (show j < 8 by omega) (show 1 ≤ 5 by decide) (show 5 ≤ 5 by decide)
  rw [← nI5] at M2
  have h5 : (fun a => if obs g a j = 0 ∨ (5 : Int32) < obs g a j then (1 : Int32) else 0) = fun a => if obs g a j = 0 then 1 else 0 := by
    funext a
    have : ¬ (5 : Int32) < obs g a j := by rcases obs_v g a j with e | e | e | e | e | e <;> rw [e] <;> decide
    simp [this]
  rw [h5] at M2
  obtain ⟨r, D3, M3⟩ := what_alike S0 fu hf (show j < 8 by omega) p2
  refine Res.ret (v := if p2 = 0 then g 31 j - psum (fun i => if g 21 i = nI j then g 22 i else 0) nP else if p2 = 1 then g 34 j else if p2 = 2 then psum (fun a => if obs g a j = 0 then 1 else 0) nA else r) (g' := g) (h' := xw h 40 0 0) (nA := nA) (nO := nO) (nP := nP) ?_ ?_ (FrC.refl g) ((FrM.refl h).xw (by decide) (by decide)) S0 (xw_self _ _ _ _)
  · rw [f_D_wanted, eO, q1.1, obT_0, q2.1, obT_0]
    simp only [c, if_neg gd, ob2_mk, P1, D1, D3]; repeat' split
    all_goals rfl
  · rw [f_M_wanted, m1, ob2_mk, if_neg (by decide), q2.2, ob2_mk, if_neg (by decide), ob_b, if_pos (by rw [xw_self]; decide)]
    simp only [c, if_neg gd, ob2_mk, ob3_mk, M1, M2, M3]
    simp only [xw_reg h 0 (0 : Int32) (show 61 ≠ 40 by decide), xw_reg h 0 (0 : Int32) (show 62 ≠ 40 by decide), xw_reg h 0 (0 : Int32) (show 53 ≠ 40 by decide), xw_reg h 0 (0 : Int32) (show 56 ≠ 40 by decide), e61, e62, e53, e56]; repeat' split
    all_goals rfl
/-- the calls that refuse nothing -/
def Res0 (g h : xSt) (D M : Option (Int32 × xSt)) : Prop := ∃ v h' a o p, D = some (v, g) ∧ M = some (v, h') ∧ FrM h h' ∧ Sim a o p g h'
theorem op_exact {nA nO nP : Nat} {g h : xSt} (S : Sim nA nO nP g h) : Res0 g h (f_D_exact g) (f_M_exact h) := by
  have S0 := S.code 0
  have hx := S.1.2.2.1
  have e44 : (xw h 40 0 0) 44 0 = g 2 0 := by rw [xw_reg h 0 (0 : Int32) (show 44 ≠ 40 by decide), S.2.1.2.2.2.1]
  refine ⟨g 2 0, xw h 40 0 0, _, _, _, ?_, ?_, (FrM.refl h).xw (by decide) (by decide), S0⟩
  · rw [f_D_exact, if_neg (not_not_intro hx)]
  · rw [f_M_exact, ob_b, e44, if_neg (not_not_intro hx)]
theorem op_steps {nA nO nP : Nat} {g h : xSt} (S : Sim nA nO nP g h) : Res0 g h (f_D_steps g) (f_M_steps h) := by
  have e45 : (xw h 40 0 0) 45 0 = g 3 0 := by rw [xw_reg h 0 (0 : Int32) (show 45 ≠ 40 by decide), S.2.1.2.2.2.2.1]
  exact ⟨g 3 0, xw h 40 0 0, _, _, _, rfl, by rw [f_M_steps, ob_b, e45], (FrM.refl h).xw (by decide) (by decide), S.code 0⟩
theorem op_bound {nA nO nP : Nat} {g h : xSt} (S : Sim nA nO nP g h) (fu : Nat) (hf : 65 < fu) : Res0 g h (f_D_bound fu g) (f_M_bound fu h) :=
  ⟨_, _, _, _, _, D_bound S.1 fu hf, M_bound S fu hf, (FrM.refl h).xw (by decide) (by decide), S.code 0⟩
theorem op_saved {nA nO nP : Nat} {g h : xSt} (S : Sim nA nO nP g h) (fu : Nat) (hf : 65 < fu) : Res0 g h (f_D_saved fu g) (f_M_saved fu h) :=
  ⟨_, xw h 40 0 0, _, _, _, by rw [f_D_saved, D_touchesSaved S.1 fu hf, ob2_mk], by rw [f_M_saved, ob_b, M_savedNow (S.code 0) fu hf, ob2_mk], (FrM.refl h).xw (by decide) (by decide), S.code 0⟩
theorem M_count38 {nP : Nat} {h : xSt} (hn : nP ≤ 64) (hP : h 43 0 = nI nP) (fu : Nat) (hf : 65 < fu) (p acc : Int32) : f_M_count_L38 fu p fu acc 0 h = some (acc + (if p = 3 then psum (fun i => h 62 i) nP else 0), if p = 3 then nI nP else 0, h) := by
  by_cases e : p = 3
  · subst e
    rw [loop_sum0 (f_M_count_L38 fu 3) (fun i => h 62 i) nP h ?_ ?_ fu _ (by omega)]
    · simp
    · intro n acc; rw [f_M_count_L38, hP, if_pos (nI_le (Nat.le_refl _) (by omega))]
    · intro n acc i hi
      rw [f_M_count_L38, hP, if_neg (nI_ge hi (by omega)), if_pos rfl, nI_clamp (n := i) (by omega), if_neg (nin (show i < 64 by omega) (by decide)), nI_1]
  · obtain ⟨f', rfl⟩ : ∃ f', fu = f' + 1 := ⟨fu - 1, by omega⟩
    rw [f_M_count_L38]; split <;> simp [e]
theorem M_count68 {h : xSt} (fu : Nat) (hf : 65 < fu) (p acc : Int32) : f_M_count_L68 fu p fu acc 0 h = some (acc + (if p = 4 then psum (fun i => if h 59 i = 0 then 0 else 1) 4 else 0), if p = 4 then 4 else 0, h) := by
  by_cases e : p = 4
  · subst e
    rw [loop_sum0 (f_M_count_L68 fu 4) (fun i => if h 59 i = 0 then 0 else 1) 4 h ?_ ?_ fu _ (by omega)]
    · simp; rfl
    · intro n acc; rw [f_M_count_L68, if_pos (by decide)]
    · intro n acc i hi
      rw [f_M_count_L68, show (4 : Int32) = nI 4 from rfl, if_neg (nI_ge hi (by omega)), if_pos rfl, nI_clamp (n := i) (by omega), if_neg (nin (show i < 4 by omega) (by decide)), nI_1]
      split <;> simp
  · obtain ⟨f', rfl⟩ : ∃ f', fu = f' + 1 := ⟨fu - 1, by omega⟩
    rw [f_M_count_L68]; split <;> simp [e]
theorem op_count {nA nO nP : Nat} {g h : xSt} (S : Sim nA nO nP g h) (fu : Nat) (hf : 65 < fu) (p1 : Int32) : Res0 g h (f_D_count fu p1 g) (f_M_count fu p1 h) := by
  have S0 := S.code 0
  have S1 := S0
  obtain ⟨⟨⟨hA, hO, hP⟩, ⟨eA, eO, eP⟩, -⟩, E, -⟩ := S1
  unfold Eqs at E
  obtain ⟨e41, e42, e43, -, -, -, -, -, -, -, -, -, -, -, -, -, e59, -, -, e62, -⟩ := E
  refine ⟨if p1 = 0 then g 0 0 else if p1 = 1 then g 1 0 else if p1 = 2 then g 23 0 else if p1 = 3 then psum (fun i => g 22 i) nP else if p1 = 4 then psum (fun i => if g 4 i = 0 then 0 else 1) 4 else -1, xw h 40 0 0, _, _, _, ?_, ?_, (FrM.refl h).xw (by decide) (by decide), S0⟩
  · rw [f_D_count, P_palletsInAll hP eP fu hf, D_fullLanes fu hf]
    simp only [ob2_mk]; repeat' split
    all_goals rfl
  · rw [f_M_count, ob_b, M_count38 hP (by rw [e43, eP]) fu hf, ob3_mk, M_count68 fu hf, ob3_mk, e41, e42, e43, e59, e62]
    by_cases q0 : p1 = 0
    · simp [q0]
    by_cases q1 : p1 = 1
    · simp [q1]
    by_cases q2 : p1 = 2
    · simp [q2]
    by_cases q3 : p1 = 3
    · simp [q3]
    by_cases q4 : p1 = 4
    · simp [q4]
    simp [q0, q1, q2, q3, q4]
