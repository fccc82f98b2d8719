/-! arrive, order, wants, promised, full -/
theorem r16 {p : Int32} (h1 : ¬ p < 1) (h6 : p ≤ 6) : ∃ k, 1 ≤ k ∧ k ≤ 6 ∧ p = nI k := by
  have h2 : (0 : Int32) < 1 := by decide
  have h3 : ¬ p < 0 := by grind
  obtain ⟨j, hj, e⟩ := nI_of2 (x := p) (M := 6) (n := 6) (by decide) h3 h6
  subst e
  rw [show (1 : Int32) = nI 1 from rfl, nI_ltI (by omega) (by omega)] at h1
  exact ⟨j, by omega, hj, rfl⟩
theorem room_ok {n : Nat} (h : n < 8) (g : xSt) : f_D_checkRoom (nI n) 8 g = some (0, 0, g) := by
  rw [f_D_checkRoom, show (8 : Int32) = nI 8 from rfl, if_pos (nI_lt h (by decide))]
theorem ne8 {n : Nat} (h : n < 8) : ¬ nI n = 8 := nI_ne (b := 8) (by omega) (by omega) (by decide)
theorem op_arrive {nA nO nP : Nat} {g h : xSt} (S : Sim nA nO nP g h) (p1 p2 p3 p4 : Int32) : Res (cdn 1 2 (-1) (-1)) g h (f_D_arrive p1 p2 p3 p4 g) (f_M_arrive p1 p2 p3 p4 h) := by
  have S' := S
  obtain ⟨⟨⟨hA, hO, hP⟩, ⟨eA, eO, eP⟩, hx, hpk, hk0, hl, hm, hpa, hpo, hch⟩, E, B⟩ := S
  unfold Eqs at E
  obtain ⟨e41, e42, e43, e44, e45, e47, e48, e49, e50, e51, e52, e53, e54, e55, e56, e57, e59, e60, e61, e62, e66⟩ := E
  by_cases r1 : ¬ p1 < 0 ∧ p1 ≤ 7
  case neg =>
    refine Res.thr S' (k := 1) (v := 0) (b := 0) (by decide) (by decide) (by decide) ?_ ?_
    · rw [f_D_arrive, (rg_bad r1).1, obT_1]
    · rw [f_M_arrive, (rg_bad r1).2, ob2_mk, if_pos rfl, ob_b, if_neg (by rw [xw_self]; decide)]; rfl
  have q1 := rg_ok r1.1 r1.2
  by_cases r2 : ¬ p2 < 0 ∧ p2 ≤ 9
  case neg =>
    refine Res.thr S' (k := 1) (v := 0) (b := 0) (by decide) (by decide) (by decide) ?_ ?_
    · rw [f_D_arrive, q1.1, obT_0, (rg_bad r2).1, obT_1]
    · rw [f_M_arrive, q1.2, ob2_mk, if_neg (by decide), (rg_bad r2).2, ob2_mk, if_pos rfl, ob_b, if_neg (by rw [xw_self]; decide)]; rfl
  have q2 := rg_ok r2.1 r2.2
  by_cases r3 : ¬ p3 < 0 ∧ p3 ≤ 1000
  case neg =>
    refine Res.thr S' (k := 1) (v := 0) (b := 0) (by decide) (by decide) (by decide) ?_ ?_
    · rw [f_D_arrive, q1.1, obT_0, q2.1, obT_0, (rg_bad r3).1, obT_1]
    · rw [f_M_arrive, q1.2, ob2_mk, if_neg (by decide), q2.2, ob2_mk, if_neg (by decide), (rg_bad r3).2, ob2_mk, if_pos rfl, ob_b, if_neg (by rw [xw_self]; decide)]; rfl
  have q3 := rg_ok r3.1 r3.2
  by_cases r4 : ¬ p4 < 1 ∧ p4 ≤ 6
  case neg =>
    refine Res.thr S' (k := 1) (v := 0) (b := 0) (by decide) (by decide) (by decide) ?_ ?_
    · rw [f_D_arrive, q1.1, obT_0, q2.1, obT_0, q3.1, obT_0, (rg_bad r4).1, obT_1]
    · rw [f_M_arrive, q1.2, ob2_mk, if_neg (by decide), q2.2, ob2_mk, if_neg (by decide), q3.2, ob2_mk, if_neg (by decide), (rg_bad r4).2, ob2_mk, if_pos rfl, ob_b, if_neg (by rw [xw_self]; decide)]; rfl
  have q4 := rg_ok r4.1 r4.2
  by_cases r5 : nA = 8
  · subst r5
    refine Res.thr S' (k := 2) (v := 0) (b := 0) (by decide) (by decide) (by decide) ?_ ?_
    · rw [f_D_arrive, q1.1, obT_0, q2.1, obT_0, q3.1, obT_0, q4.1, obT_0, f_D_checkRoom, eA, if_neg (by decide), obT_2]
    · rw [f_M_arrive, q1.2, ob2_mk, if_neg (by decide), q2.2, ob2_mk, if_neg (by decide), q3.2, ob2_mk, if_neg (by decide), q4.2, ob2_mk, if_neg (by decide), e41, eA, if_pos (by decide), ob_b, if_neg (by rw [xw_self]; decide)]; rfl
  have hA7 : nA < 8 := by omega
  obtain ⟨pp, -, hpp6, epp⟩ := r16 r4.1 r4.2
  have c := nI_clamp (n := nA) (by omega)
  have gd := nin hA7 (show 8 ≤ 65 by decide)
  refine Res.ret (v := nI nA) (g' := xw (xw (xw (xw (xw g 24 nA p1) 25 nA p2) 26 nA p3) 27 nA p4) 0 0 (nI (nA + 1))) (h' := xw (xw (xw (xw (xw (xw h 40 0 0) 47 nA p1) 48 nA p2) 49 nA p3) 50 nA p4) 41 0 (nI (nA + 1))) (nA := nA + 1) (nO := nO) (nP := nP) ?_ ?_ ?_ ?_ ⟨?_, ?_, ?_⟩ ?_
  · rw [f_D_arrive, q1.1, obT_0, q2.1, obT_0, q3.1, obT_0, q4.1, obT_0, eA, room_ok hA7, obT_0, eA, c, if_neg gd]
    simp [ob_b, xwE, eA, nI_1, nI_m1]
  · rw [f_M_arrive, q1.2, ob2_mk, if_neg (by decide), q2.2, ob2_mk, if_neg (by decide), q3.2, ob2_mk, if_neg (by decide), q4.2, ob2_mk, if_neg (by decide), e41, eA, if_neg (ne8 hA7), ob_b]
    simp only [xwE, e41, eA, c, ob_b]
    simp [gd, nI_1, nI_m1, eA, nI_nneg nA (by omega), hA7, c]
  · exact ((((((FrC.refl g).xw (by decide)).xw (by decide)).xw (by decide)).xw (by decide)).xw (by decide))
  · exact (((((((FrM.refl h).xw (by decide) (by decide)).xw (by decide) (by decide)).xw (by decide) (by decide)).xw (by decide) (by decide)).xw (by decide) (by decide)).xw (by decide) (by decide))
  · refine ⟨⟨by omega, hO, hP⟩, ⟨by simp [xwE], by simp [xwE, eO], by simp [xwE, eP]⟩, by simp [xwE, hx], fun i => ?_, fun i hi => ?_, ?_, ?_, ?_, ?_, ?_⟩
    · by_cases ei : i = nA
      · subst ei; exact ⟨pp, 0, by omega, hpp6, by simp [xwE, epp], by simp [xwE, hk0 i (Nat.le_refl _)]; rfl⟩
      · simpa [xwE, ei] using hpk i
    · simpa [xwE] using hk0 i (by omega)
    · simpa [xwE] using hl
    · simpa [xwE] using hm
    · simpa [xwE] using hpa
    · simpa [xwE] using hpo
    · simpa [xwE] using hch
  · unfold Eqs; simp [xwR, e41, e42, e43, e44, e45, e47, e48, e49, e50, e51, e52, e53, e54, e55, e56, e57, e59, e60, e61, e62, e66]
  · unfold Bits at *; simpa [xwE] using B
  · simp [xwE]
