theorem op_order {nA nO nP : Nat} {g h : xSt} (S : Sim nA nO nP g h) (p1 p2 p3 p4 : Int32) : Res (cdn 1 2 (-1) (-1)) g h (f_D_order p1 p2 p3 p4 g) (f_M_order p1 p2 p3 p4 h) := by
  have S' := S
  obtain ⟨⟨⟨hA, hO, hP⟩, ⟨eA, eO, eP⟩, hx, hpk, hk0, hl, hm, hpa, hpo, hch⟩, E, B⟩ := S
  unfold Eqs at E
  obtain ⟨e41, e42, e43, e44, e45, e47, e48, e49, e50, e51, e52, e53, e54, e55, e56, e57, e59, e60, e61, e62, e66⟩ := E
  by_cases r1 : ¬ p1 < 0 ∧ p1 ≤ 7
  case neg =>
    refine Res.thr S' (k := 1) (v := 0) (b := 0) (by decide) (by decide) (by decide) ?_ ?_
    · rw [f_D_order, (rg_bad r1).1, obT_1]
    · rw [f_M_order, (rg_bad r1).2, ob2_mk, if_pos rfl, ob_b, if_neg (by rw [xw_self]; decide)]; rfl
  have q1 := rg_ok r1.1 r1.2
  by_cases r2 : ¬ p2 < 1 ∧ p2 ≤ 6
  case neg =>
    refine Res.thr S' (k := 1) (v := 0) (b := 0) (by decide) (by decide) (by decide) ?_ ?_
    · rw [f_D_order, q1.1, obT_0, (rg_bad r2).1, obT_1]
    · rw [f_M_order, q1.2, ob2_mk, if_neg (by decide), (rg_bad r2).2, ob2_mk, if_pos rfl, ob_b, if_neg (by rw [xw_self]; decide)]; rfl
  have q2 := rg_ok r2.1 r2.2
  by_cases r3 : ¬ p3 < 1 ∧ p3 ≤ 9
  case neg =>
    refine Res.thr S' (k := 1) (v := 0) (b := 0) (by decide) (by decide) (by decide) ?_ ?_
    · rw [f_D_order, q1.1, obT_0, q2.1, obT_0, (rg_bad r3).1, obT_1]
    · rw [f_M_order, q1.2, ob2_mk, if_neg (by decide), q2.2, ob2_mk, if_neg (by decide), (rg_bad r3).2, ob2_mk, if_pos rfl, ob_b, if_neg (by rw [xw_self]; decide)]; rfl
  have q3 := rg_ok r3.1 r3.2
  by_cases r4 : ¬ p4 < 0 ∧ p4 ≤ 3
  case neg =>
    refine Res.thr S' (k := 1) (v := 0) (b := 0) (by decide) (by decide) (by decide) ?_ ?_
    · rw [f_D_order, q1.1, obT_0, q2.1, obT_0, q3.1, obT_0, (rg_bad r4).1, obT_1]
    · rw [f_M_order, q1.2, ob2_mk, if_neg (by decide), q2.2, ob2_mk, if_neg (by decide), q3.2, ob2_mk, if_neg (by decide), (rg_bad r4).2, ob2_mk, if_pos rfl, ob_b, if_neg (by rw [xw_self]; decide)]; rfl
  have q4 := rg_ok r4.1 r4.2
  by_cases r5 : nO = 8
  · subst r5
    refine Res.thr S' (k := 2) (v := 0) (b := 0) (by decide) (by decide) (by decide) ?_ ?_
    · rw [f_D_order, q1.1, obT_0, q2.1, obT_0, q3.1, obT_0, q4.1, obT_0, f_D_checkRoom, eO, if_neg (by decide), obT_2]
    · rw [f_M_order, q1.2, ob2_mk, if_neg (by decide), q2.2, ob2_mk, if_neg (by decide), q3.2, ob2_mk, if_neg (by decide), q4.2, ob2_mk, if_neg (by decide), e42, eO, if_pos (by decide), ob_b, if_neg (by rw [xw_self]; decide)]; rfl
  have hA7 : nO < 8 := by omega
  obtain ⟨pp, hpp1, hpp6, epp⟩ := r16 r2.1 r2.2
  obtain ⟨ll, hll, ell⟩ := nI_of2 (x := p4) (M := 3) (n := 3) (by decide) r4.1 r4.2
  have c := nI_clamp (n := nO) (by omega)
  have gd := nin hA7 (show 8 ≤ 65 by decide)
  refine Res.ret (v := nI nO) (g' := xw (xw (xw (xw (xw (xw (xw g 30 nO p1) 31 nO p2) 32 nO p3) 33 nO p4) 34 nO 1000) 35 nO 1023) 1 0 (nI (nO + 1))) (h' := xw (xw (xw (xw (xw (xw (xw (xw h 40 0 0) 52 nO p1) 53 nO p2) 54 nO p3) 55 nO p4) 56 nO 1000) 57 nO 1023) 42 0 (nI (nO + 1))) (nA := nA) (nO := nO + 1) (nP := nP) ?_ ?_ ?_ ?_ ⟨?_, ?_, ?_⟩ ?_
  · rw [f_D_order, q1.1, obT_0, q2.1, obT_0, q3.1, obT_0, q4.1, obT_0, eO, room_ok hA7, obT_0, eO, c, if_neg gd]
    simp [ob_b, xwE, eO, nI_1, nI_m1]
  · rw [f_M_order, q1.2, ob2_mk, if_neg (by decide), q2.2, ob2_mk, if_neg (by decide), q3.2, ob2_mk, if_neg (by decide), q4.2, ob2_mk, if_neg (by decide), e42, eO, if_neg (ne8 hA7), ob_b]
    simp only [xwE, e42, eO, c, ob_b]
    simp [gd, nI_1, nI_m1, eO, nI_nneg nO (by omega), hA7, c]
  · exact ((((((((FrC.refl g).xw (by decide)).xw (by decide)).xw (by decide)).xw (by decide)).xw (by decide)).xw (by decide)).xw (by decide))
  · exact (((((((((FrM.refl h).xw (by decide) (by decide)).xw (by decide) (by decide)).xw (by decide) (by decide)).xw (by decide) (by decide)).xw (by decide) (by decide)).xw (by decide) (by decide)).xw (by decide) (by decide)).xw (by decide) (by decide))
  · refine ⟨⟨hA, by omega, hP⟩, ⟨by simp [xwE, eA], by simp [xwE], by simp [xwE, eP]⟩, by simp [xwE, hx], ?_, fun i hi => ?_, fun o => ?_, fun o ho => ?_, ?_, ?_, ?_⟩
    · simpa [xwE] using hpk
    · simpa [xwE] using hk0 i (by omega)
    · by_cases ei : o = nO
      · subst ei; exact ⟨ll, by omega, by simp [xwE, ell]⟩
      · simpa [xwE, ei] using hl o
    · by_cases ei : o = nO
      · subst ei; exact ⟨pp, by omega, hpp6, by simp [xwE, epp]⟩
      · simpa [xwE, ei] using hm o (by omega)
    · simpa [xwE] using hpa
    · simpa [xwE] using hpo
    · simpa [xwE] using hch
  · unfold Eqs; simp [xwR, e41, e42, e43, e44, e45, e47, e48, e49, e50, e51, e52, e53, e54, e55, e56, e57, e59, e60, e61, e62, e66]
  · unfold Bits at *; simpa [xwE] using B
  · simp [xwE]
theorem M_isOrder {n : Nat} {h : xSt} {p r : Int32} (e : h 42 0 = nI n) (hi : ∀ g, f_M_in p 0 (nI n - 1) g = some (r, g)) (hr : r = 0 ∨ r = 1) : f_M_isOrder p h = some (r, h) := by
  rw [f_M_isOrder, e, hi, ob2_mk, if_neg (not_not_intro hr)]
theorem M_isArrival {n : Nat} {h : xSt} {p r : Int32} (e : h 41 0 = nI n) (hi : ∀ g, f_M_in p 0 (nI n - 1) g = some (r, g)) (hr : r = 0 ∨ r = 1) : f_M_isArrival p h = some (r, h) := by
  rw [f_M_isArrival, e, hi, ob2_mk, if_neg (not_not_intro hr)]
theorem op_wants {nA nO nP : Nat} {g h : xSt} (S : Sim nA nO nP g h) (p1 p2 p3 : Int32) : Res (cdn 2 (-1) 1 (-1)) g h (f_D_wants p1 p2 p3 g) ((f_M_wants p1 p2 p3 h).map fun h' => (0, h')) := by
  have S' := S
  obtain ⟨⟨⟨hA, hO, hP⟩, ⟨eA, eO, eP⟩, hx, hpk, hk0, hl, hm, hpa, hpo, hch⟩, E, B⟩ := S
  unfold Eqs at E
  obtain ⟨e41, e42, e43, e44, e45, e47, e48, e49, e50, e51, e52, e53, e54, e55, e56, e57, e59, e60, e61, e62, e66⟩ := E
  have eO' : h 42 0 = nI nO := by rw [e42, eO]
  by_cases r1 : ∃ j, j < nO ∧ p1 = nI j
  case neg =>
    have q := th_bad r1 (show nO ≤ 64 by omega)
    refine Res.thr S' (k := 3) (v := 0) (b := 0) (by decide) (by decide) (by decide) ?_ ?_
    · rw [f_D_wants, eO, q.1, obT_3]
    · rw [f_M_wants, M_isOrder eO' q.2 (Or.inl rfl), ob2_mk, if_pos rfl, ob_b, if_neg (by rw [xw_self]; decide)]; rfl
  obtain ⟨j, hj, rfl⟩ := r1
  have q1 := th_ok hj (show nO ≤ 64 by omega)
  have m1 := M_isOrder eO' q1.2 (Or.inr rfl)
  by_cases r2 : ¬ p2 < 0 ∧ p2 ≤ 1000
  case neg =>
    refine Res.thr S' (k := 1) (v := 0) (b := 0) (by decide) (by decide) (by decide) ?_ ?_
    · rw [f_D_wants, eO, q1.1, obT_0, (rg_bad r2).1, obT_1]
    · rw [f_M_wants, m1, ob2_mk, if_neg (by decide), (rg_bad r2).2, ob2_mk, if_pos rfl, ob_b, if_neg (by rw [xw_self]; decide)]; rfl
  have q2 := rg_ok r2.1 r2.2
  by_cases r3 : ¬ p3 < 0 ∧ p3 ≤ 1023
  case neg =>
    refine Res.thr S' (k := 1) (v := 0) (b := 0) (by decide) (by decide) (by decide) ?_ ?_
    · rw [f_D_wants, eO, q1.1, obT_0, q2.1, obT_0, (rg_bad r3).1, obT_1]
    · rw [f_M_wants, m1, ob2_mk, if_neg (by decide), q2.2, ob2_mk, if_neg (by decide), (rg_bad r3).2, ob2_mk, if_pos rfl, ob_b, if_neg (by rw [xw_self]; decide)]; rfl
  have q3 := rg_ok r3.1 r3.2
  have c := nI_clamp (n := j) (by omega)
  have gd := nin (show j < 8 by omega) (show 8 ≤ 65 by decide)
  refine Res.ret (v := 0) (g' := xw (xw g 34 j p2) 35 j p3) (h' := xw (xw (xw h 40 0 0) 56 j p2) 57 j p3) (nA := nA) (nO := nO) (nP := nP) ?_ ?_ ?_ ?_ ⟨?_, ?_, ?_⟩ ?_
  · rw [f_D_wants, eO, q1.1, obT_0, q2.1, obT_0, q3.1, obT_0]
    simp only [c, if_neg gd, ob_b]
  · rw [f_M_wants, m1, ob2_mk, if_neg (by decide), q2.2, ob2_mk, if_neg (by decide), q3.2, ob2_mk, if_neg (by decide), ob_b, if_pos (by rw [xw_self]; decide)]
    simp only [c, if_neg gd, ob_b]; rfl
  · exact (((FrC.refl g).xw (by decide)).xw (by decide))
  · exact ((((FrM.refl h).xw (by decide) (by decide)).xw (by decide) (by decide)).xw (by decide) (by decide))
  · have W := S'.1
    unfold WF at *; simpa [xwE] using W
  · unfold Eqs; simp [xwR, e41, e42, e43, e44, e45, e47, e48, e49, e50, e51, e52, e53, e54, e55, e56, e57, e59, e60, e61, e62, e66]
  · unfold Bits at *; simpa [xwE] using B
  · simp [xwE]
theorem op_promised {nA nO nP : Nat} {g h : xSt} (S : Sim nA nO nP g h) (fu : Nat) (hf : 65 < fu) (p1 p2 : Int32) : Res (cdn 2 (-1) 1 3) g h (f_D_promised fu p1 p2 g) ((f_M_promised fu p1 p2 h).map fun h' => (0, h')) := by
  have S' := S
  obtain ⟨⟨⟨hA, hO, hP⟩, ⟨eA, eO, eP⟩, hx, hpk, hk0, hl, hm, hpa, hpo, hch⟩, E, B⟩ := S
  unfold Eqs at E
  obtain ⟨e41, e42, e43, e44, e45, e47, e48, e49, e50, e51, e52, e53, e54, e55, e56, e57, e59, e60, e61, e62, e66⟩ := E
  have eA' : h 41 0 = nI nA := by rw [e41, eA]
  have eP' : h 43 0 = nI nP := by rw [e43, eP]
  by_cases r1 : ∃ j, j < nA ∧ p1 = nI j
  case neg =>
    have q := th_bad r1 (show nA ≤ 64 by omega)
    refine Res.thr S' (k := 3) (v := 0) (b := 0) (by decide) (by decide) (by decide) ?_ ?_
    · rw [f_D_promised, eA, q.1, obT_3]
    · rw [f_M_promised, M_isArrival eA' q.2 (Or.inl rfl), ob2_mk, if_pos rfl, ob_b, if_neg (by rw [xw_self]; decide)]; rfl
  obtain ⟨j, hj, rfl⟩ := r1
  have q1 := th_ok hj (show nA ≤ 64 by omega)
  have m1 := M_isArrival eA' q1.2 (Or.inr rfl)
  have c := nI_clamp (n := j) (by omega)
  have gd := nin (show j < 8 by omega) (show 8 ≤ 65 by decide)
  by_cases r2 : ¬ p2 < 0 ∧ p2 ≤ g 27 j
  case neg =>
    refine Res.thr S' (k := 1) (v := 0) (b := 0) (by decide) (by decide) (by decide) ?_ ?_
    · rw [f_D_promised, eA, q1.1, obT_0, c, if_neg gd, (rg_bad r2).1, obT_1]
    · rw [f_M_promised, m1, ob2_mk, if_neg (by decide), c, if_neg gd, e50, (rg_bad r2).2, ob2_mk, if_pos rfl, ob_b, if_neg (by rw [xw_self]; decide)]; rfl
  have q2 := rg_ok r2.1 r2.2
  have P1 := P_palletsOf hP eP fu hf (nI j)
  have M1 := M_held hP eP' fu hf (nI j)
  rw [e60, e62] at M1
  by_cases r3 : p2 + psum (fun i => if g 20 i = nI j then g 22 i else 0) nP ≤ g 27 j
  case neg =>
    refine Res.thr S' (k := 4) (v := 0) (b := 0) (by decide) (by decide) (by decide) ?_ ?_
    · rw [f_D_promised, eA, q1.1, obT_0, c, if_neg gd, q2.1, obT_0, P1, ob2_mk, if_neg r3]
    · rw [f_M_promised, m1, ob2_mk, if_neg (by decide), c, if_neg gd, e50, q2.2, ob2_mk, if_neg (by decide), M1, ob2_mk, if_neg gd, e50, if_neg r3, ob_b, if_neg (by rw [xw_self]; decide)]; rfl
  obtain ⟨p, k, hkp, hp6, ep, ek⟩ := hpk j
  obtain ⟨k', hk', ek'⟩ : ∃ k', k' ≤ p ∧ p2 = nI k' := by
    obtain ⟨x, hx, e⟩ := nI_of r2.1
    have h2 := r2.2
    rw [e, ep, nI_leI hx (by omega)] at h2
    exact ⟨x, h2, e⟩
  refine Res.ret (v := 0) (g' := xw g 28 j p2) (h' := xw (xw h 40 0 0) 51 j p2) (nA := nA) (nO := nO) (nP := nP) ?_ ?_ ?_ ?_ ⟨?_, ?_, ?_⟩ ?_
  · rw [f_D_promised, eA, q1.1, obT_0, c, if_neg gd, q2.1, obT_0, P1, ob2_mk, if_pos r3, ob_b]
  · rw [f_M_promised, m1, ob2_mk, if_neg (by decide), c, if_neg gd, e50, q2.2, ob2_mk, if_neg (by decide), M1, ob2_mk, if_neg gd, e50, if_pos r3, ob_b, if_pos (by rw [xw_self]), if_neg gd]; rfl
  · exact ((FrC.refl g).xw (by decide))
  · exact (((FrM.refl h).xw (by decide) (by decide)).xw (by decide) (by decide))
  · refine ⟨⟨hA, hO, hP⟩, ⟨by simp [xwE, eA], by simp [xwE, eO], by simp [xwE, eP]⟩, by simp [xwE, hx], fun i => ?_, fun i hi => ?_, ?_, ?_, ?_, ?_, ?_⟩
    · by_cases ei : i = j
      · subst ei; exact ⟨p, k', hk', hp6, by simp [xwE, ep], by simp [xwE, ek']⟩
      · simpa [xwE, ei] using hpk i
    · simpa [xwE, show i ≠ j by omega] using hk0 i (by omega)
    · simpa [xwE] using hl
    · simpa [xwE] using hm
    · simpa [xwE] using hpa
    · simpa [xwE] using hpo
    · simpa [xwE] using hch
  · unfold Eqs; simp [xwR, e41, e42, e43, e44, e45, e47, e48, e49, e50, e51, e52, e53, e54, e55, e56, e57, e59, e60, e61, e62, e66]
  · unfold Bits at *; simpa [xwE] using B
  · simp [xwE]
theorem op_full {nA nO nP : Nat} {g h : xSt} (S : Sim nA nO nP g h) (fu : Nat) (hf : 65 < fu) (p1 p2 : Int32) : Res (cdn 1 (-1) (-1) (-1)) g h (f_D_full fu p1 p2 g) (f_M_full fu p1 p2 h) := by
  have S' := S
  obtain ⟨⟨⟨hA, hO, hP⟩, ⟨eA, eO, eP⟩, hx, hpk, hk0, hl, hm, hpa, hpo, hch⟩, E, B⟩ := S
  unfold Eqs at E
  obtain ⟨e41, e42, e43, e44, e45, e47, e48, e49, e50, e51, e52, e53, e54, e55, e56, e57, e59, e60, e61, e62, e66⟩ := E
  by_cases r1 : ¬ p1 < 0 ∧ p1 ≤ 3
  case neg =>
    refine Res.thr S' (k := 1) (v := 0) (b := 0) (by decide) (by decide) (by decide) ?_ ?_
    · rw [f_D_full, (rg_bad r1).1, obT_1]
    · rw [f_M_full, (rg_bad r1).2, ob2_mk, if_pos rfl, ob_b, if_neg (by rw [xw_self]; decide)]; rfl
  have q1 := rg_ok r1.1 r1.2
  obtain ⟨j, hj, rfl⟩ := nI_of2 (x := p1) (M := 3) (n := 3) (by decide) r1.1 r1.2
  have c := nI_clamp (n := j) (by omega)
  have gd := nin (show j < 4 by omega) (show 4 ≤ 65 by decide)
  refine Res.ret (v := psum (fun i => if g 33 i = nI j then 1 else 0) nO) (g' := xw g 4 j (vp_nar .boolean p2)) (h' := xw (xw h 40 0 0) 59 j (vp_nar .boolean p2)) (nA := nA) (nO := nO) (nP := nP) ?_ ?_ ?_ ?_ ⟨?_, ?_, ?_⟩ ?_
  · rw [f_D_full, q1.1, obT_0, c, if_neg gd, ob_b, D_fullL hO (by simp [xwE, eO]) fu hf, ob3_mk]
    simp [xwE]
  · rw [f_M_full, q1.2, ob2_mk, if_neg (by decide), ob_b, if_pos (by rw [xw_self]; decide), c, if_neg gd, ob_b, M_fullL hO (by simp [xwE, e42, eO]) fu hf, ob3_mk]
    simp [xwE, e55]
  · exact ((FrC.refl g).xw (by decide))
  · exact (((FrM.refl h).xw (by decide) (by decide)).xw (by decide) (by decide))
  · have W := S'.1
    unfold WF at *; simpa [xwE] using W
  · unfold Eqs; simp [xwR, e41, e42, e43, e44, e45, e47, e48, e49, e50, e51, e52, e53, e54, e55, e56, e57, e59, e60, e61, e62, e66]
  · unfold Bits at *; simpa [xwE] using B
  · simp [xwE]
