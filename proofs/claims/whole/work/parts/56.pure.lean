/-! the call match -/
theorem mkS5 {nA nO nP : Nat} {g h g5 h5 : xSt} {r v : Int32} (S : Sim nA nO nP g h) (hr : r = 0 ∨ r = 1) (F : ∀ m, (m = 0 ∨ m = 1 ∨ m = 4 ∨ 20 ≤ m) → g5 m = g m) (f2 : g5 2 = upd (g 2) 0 r) (f3 : g5 3 = upd (g 3) 0 v) (H : ∀ m, (m = 41 ∨ m = 42 ∨ m = 43 ∨ (47 ≤ m ∧ m ≤ 62)) → h5 m = h m) (h44 : h5 44 = upd (h 44) 0 r) (h45 : h5 45 = upd (h 45) 0 v) (h66 : h5 66 = g5 15) (rg : Rg g5) : Sim nA nO nP g5 h5 := by
  obtain ⟨⟨⟨hA, hO, hP⟩, ⟨eA, eO, eP⟩, hx, hpk, hk0, hl, hm, hpa, hpo, hch⟩, E, B⟩ := S
  unfold Eqs at E
  obtain ⟨e41, e42, e43, e44, e45, e47, e48, e49, e50, e51, e52, e53, e54, e55, e56, e57, e59, e60, e61, e62, e66⟩ := E
  refine ⟨⟨⟨hA, hO, hP⟩, ⟨?_, ?_, ?_⟩, ?_, ?_, ?_, ?_, ?_, ?_, ?_, rg⟩, ?_, ?_⟩
  · rw [F 0 (by decide)]; exact eA
  · rw [F 1 (by decide)]; exact eO
  · rw [F 23 (by decide)]; exact eP
  · rw [f2]; simpa [upd] using hr
  · rw [F 27 (by decide), F 28 (by decide)]; exact hpk
  · rw [F 28 (by decide)]; exact hk0
  · rw [F 33 (by decide)]; exact hl
  · rw [F 31 (by decide)]; exact hm
  · rw [F 20 (by decide)]; exact hpa
  · rw [F 21 (by decide)]; exact hpo
  · unfold Eqs
    refine ⟨?_, ?_, ?_, ?_, ?_, ?_, ?_, ?_, ?_, ?_, ?_, ?_, ?_, ?_, ?_, ?_, ?_, ?_, ?_, ?_, h66⟩
    · rw [H 41 (by decide), F 0 (by decide), e41]
    · rw [H 42 (by decide), F 1 (by decide), e42]
    · rw [H 43 (by decide), F 23 (by decide), e43]
    · rw [h44, f2, e44]
    · rw [h45, f3, e45]
    · rw [H 47 (by decide), F 24 (by decide), e47]
    · rw [H 48 (by decide), F 25 (by decide), e48]
    · rw [H 49 (by decide), F 26 (by decide), e49]
    · rw [H 50 (by decide), F 27 (by decide), e50]
    · rw [H 51 (by decide), F 28 (by decide), e51]
    · rw [H 52 (by decide), F 30 (by decide), e52]
    · rw [H 53 (by decide), F 31 (by decide), e53]
    · rw [H 54 (by decide), F 32 (by decide), e54]
    · rw [H 55 (by decide), F 33 (by decide), e55]
    · rw [H 56 (by decide), F 34 (by decide), e56]
    · rw [H 57 (by decide), F 35 (by decide), e57]
    · rw [H 59 (by decide), F 4 (by decide), e59]
    · rw [H 60 (by decide), F 20 (by decide), e60]
    · rw [H 61 (by decide), F 21 (by decide), e61]
    · rw [H 62 (by decide), F 22 (by decide), e62]
  · unfold Bits at *; rw [H 58 (by decide), F 29 (by decide)]; exact B
theorem tail_alike {nA nO nP N : Nat} {g h : xSt} (S : Sim nA nO nP g h) (fu : Nat) (hf : 65 < fu) (hN : N ≤ 64) (p : Int32) (e16 : g 16 0 = nI N) (e46 : h 46 0 = nI N) (hj : ∀ j, j < N → (∃ a, a < 8 ∧ g 7 j = nI a ∧ h 63 j = nI a) ∧ ∃ o, o < 8 ∧ g 8 j = nI o ∧ h 64 j = nI o) : ∃ q v g' h', f_P_replaceBy fu g = some g' ∧ f_M_match_L60 fu p fu 0 (xw h 43 0 0) = some (nI N, h') ∧ f_D_touchesSaved fu g' = some (v, g') ∧ f_M_savedNow fu h' = some (v, h') ∧ Sim nA nO q g' h' ∧ FP g g' ∧ FQ h h' := by
  have S' := S
  obtain ⟨⟨⟨hA, hO, hP⟩, ⟨eA, eO, eP⟩, hx, hpk, hk0, hl, hm, hpa, hpo, hch⟩, E, B⟩ := S
  unfold Eqs at E
  obtain ⟨e41, e42, e43, e44, e45, e47, e48, e49, e50, e51, e52, e53, e54, e55, e56, e57, e59, e60, e61, e62, e66⟩ := E
  obtain ⟨q, g', h', d1, d2, d3, d4, d5, d6, d7, d8, d9, d10, d11, d12⟩ := rep_loop fu hN p fu 0 0 (xw g 23 0 0) (xw h 43 0 0) (by simp [xwE, e16]) (by simp [xwE, e46]) (by simpa [xwE] using hj) (by simp [xwR, e66]) (fun j => by simpa [xwE] using hch j) (by rw [xw_self]; rfl) (by omega) (by simp [xwR, e43]) (by simp [xwR, e60]) (by simp [xwR, e61]) (by simp [xwR, e62]) (by simpa [xwE] using hpa) (by simpa [xwE] using hpo) (by omega) (by omega)
  have P : FP g g' := fun m h1 h2 h3 h4 => by rw [d11 m h1 h2 h3 h4, xw_reg _ _ _ h4]
  have Q : FQ h h' := fun m h1 h2 h3 h4 => by rw [d12 m h1 h2 h3 h4, xw_reg _ _ _ h1]
  have S2 : Sim nA nO q g' h' := by
    refine ⟨⟨⟨hA, hO, d3⟩, ⟨by rw [P 0 (by decide) (by decide) (by decide) (by decide)]; exact eA, by rw [P 1 (by decide) (by decide) (by decide) (by decide)]; exact eO, d4⟩, by rw [P 2 (by decide) (by decide) (by decide) (by decide)]; exact hx, by rw [P 27 (by decide) (by decide) (by decide) (by decide), P 28 (by decide) (by decide) (by decide) (by decide)]; exact hpk, by rw [P 28 (by decide) (by decide) (by decide) (by decide)]; exact hk0, by rw [P 33 (by decide) (by decide) (by decide) (by decide)]; exact hl, by rw [P 31 (by decide) (by decide) (by decide) (by decide)]; exact hm, d9, d10, by rw [P 15 (by decide) (by decide) (by decide) (by decide)]; exact hch⟩, ?_, ?_⟩
    · unfold Eqs
      refine ⟨?_, ?_, d5, ?_, ?_, ?_, ?_, ?_, ?_, ?_, ?_, ?_, ?_, ?_, ?_, ?_, ?_, d6, d7, d8, ?_⟩
      · rw [Q 41 (by decide) (by decide) (by decide) (by decide), P 0 (by decide) (by decide) (by decide) (by decide), e41]
      · rw [Q 42 (by decide) (by decide) (by decide) (by decide), P 1 (by decide) (by decide) (by decide) (by decide), e42]
      · rw [Q 44 (by decide) (by decide) (by decide) (by decide), P 2 (by decide) (by decide) (by decide) (by decide), e44]
      · rw [Q 45 (by decide) (by decide) (by decide) (by decide), P 3 (by decide) (by decide) (by decide) (by decide), e45]
      · rw [Q 47 (by decide) (by decide) (by decide) (by decide), P 24 (by decide) (by decide) (by decide) (by decide), e47]
      · rw [Q 48 (by decide) (by decide) (by decide) (by decide), P 25 (by decide) (by decide) (by decide) (by decide), e48]
      · rw [Q 49 (by decide) (by decide) (by decide) (by decide), P 26 (by decide) (by decide) (by decide) (by decide), e49]
      · rw [Q 50 (by decide) (by decide) (by decide) (by decide), P 27 (by decide) (by decide) (by decide) (by decide), e50]
      · rw [Q 51 (by decide) (by decide) (by decide) (by decide), P 28 (by decide) (by decide) (by decide) (by decide), e51]
      · rw [Q 52 (by decide) (by decide) (by decide) (by decide), P 30 (by decide) (by decide) (by decide) (by decide), e52]
      · rw [Q 53 (by decide) (by decide) (by decide) (by decide), P 31 (by decide) (by decide) (by decide) (by decide), e53]
      · rw [Q 54 (by decide) (by decide) (by decide) (by decide), P 32 (by decide) (by decide) (by decide) (by decide), e54]
      · rw [Q 55 (by decide) (by decide) (by decide) (by decide), P 33 (by decide) (by decide) (by decide) (by decide), e55]
      · rw [Q 56 (by decide) (by decide) (by decide) (by decide), P 34 (by decide) (by decide) (by decide) (by decide), e56]
      · rw [Q 57 (by decide) (by decide) (by decide) (by decide), P 35 (by decide) (by decide) (by decide) (by decide), e57]
      · rw [Q 59 (by decide) (by decide) (by decide) (by decide), P 4 (by decide) (by decide) (by decide) (by decide), e59]
      · rw [Q 66 (by decide) (by decide) (by decide) (by decide), P 15 (by decide) (by decide) (by decide) (by decide), e66]
    · unfold Bits at *; rw [Q 58 (by decide) (by decide) (by decide) (by decide), P 29 (by decide) (by decide) (by decide) (by decide)]; exact B
  rw [show nI 0 = (0 : Int32) from rfl] at d1 d2
  exact ⟨q, _, g', h', by rw [f_P_replaceBy, ob_b, d1, ob2_mk], d2, D_touchesSaved S2.1 fu hf, M_savedNow S2 fu hf, S2, P, Q⟩
theorem CC.reg {N nA nO : Nat} {A O gv wv : Nat → Nat} {g g' : xSt} (C : CC N nA nO A O gv wv g) (h1 : g' 16 = g 16) (h2 : g' 7 = g 7) (h3 : g' 8 = g 8) (h4 : g' 9 = g 9) (h5 : g' 10 = g 10) : CC N nA nO A O gv wv g' := by
  unfold CC at *; rw [h1, h2, h3, h4, h5]; exact C
theorem MC.reg {N nA nO : Nat} {A O gv wv : Nat → Nat} {h h' : xSt} (C : MC N nA nO A O gv wv h) (F : ∀ m, m ≠ 44 → h' m = h m) : MC N nA nO A O gv wv h' := by
  unfold MC at *; rw [F 46 (by decide), F 63 (by decide), F 64 (by decide), F 50 (by decide), F 51 (by decide), F 53 (by decide), F 42 (by decide)]; exact C
theorem op_match {nA nO nP : Nat} {g h : xSt} (S : Sim nA nO nP g h) (fu : Nat) (hfu : 70 * 20000 + 80 ≤ fu) (p1 : Int32) : Res (cdn 1 (-1) (-1) (-1)) g h (f_D_match fu p1 g) (f_M_match fu p1 h) := by
  have hf : 65 < fu := by omega
  by_cases r1 : ¬ p1 < 0 ∧ p1 ≤ 20000
  case neg =>
    refine Res.thr S (k := 1) (v := 0) (b := 0) (by decide) (by decide) (by decide) ?_ ?_
    · rw [f_D_match, (rg_bad r1).1, obT_1]
    · rw [f_M_match, (rg_bad r1).2, ob2_mk, if_pos rfl, ob_b, if_neg (by rw [xw_self]; decide)]; rfl
  have q1 := rg_ok r1.1 r1.2
  obtain ⟨lim, hl, rfl⟩ := nI_of2 (x := p1) (M := 20000) (n := 20000) (by decide) r1.1 r1.2
  have S0 := S.code 0
  obtain ⟨N, g1, h1, l1, l2, hN, PRr, sc, sm, gve, wve⟩ := layOut_alike S0 fu hf
  have c40 : (xw h 40 0 0) 40 0 = 0 := xw_self _ _ _ _
  have hh0 : ∀ m, m ≠ 40 → (xw h 40 0 0) m = h m := fun m hm => xw_reg _ _ _ hm
  generalize eh0 : xw h 40 0 0 = h0 at *
  have S0' := S0
  obtain ⟨⟨⟨hA, hO, hP⟩, ⟨eA, eO, eP⟩, hx, hpk, hk0, hl4, hm, hpa, hpo, hch⟩, E, B⟩ := S0
  unfold Eqs at E
  obtain ⟨e41, e42, e43, e44, e45, e47, e48, e49, e50, e51, e52, e53, e54, e55, e56, e57, e59, e60, e61, e62, e66⟩ := E
  obtain ⟨P1, P2, P3⟩ := PRr
  have gvx : ∀ a, (g 27 a - g 28 a).toNatClampNeg ≤ 6 ∧ g 27 a - g 28 a = nI (g 27 a - g 28 a).toNatClampNeg := fun a => by
    obtain ⟨p, k, k1, k2, k3, k4⟩ := hpk a
    rw [k3, k4, pk_sub k1, nI_clamp (by omega)]; exact ⟨by omega, rfl⟩
  have wvx : ∀ o, o < nO → (1 ≤ (g 31 o).toNatClampNeg ∧ (g 31 o).toNatClampNeg ≤ 6) ∧ g 31 o = nI (g 31 o).toNatClampNeg := fun o ho => by
    obtain ⟨p, k1, k2, k3⟩ := hm o ho
    rw [k3, nI_clamp (by omega)]; exact ⟨⟨k1, k2⟩, rfl⟩
  have pjx : ∀ j, j < N → ((g1 7 j).toNatClampNeg < nA ∧ (g1 8 j).toNatClampNeg < nO) ∧ (g1 7 j = nI (g1 7 j).toNatClampNeg ∧ g1 8 j = nI (g1 8 j).toNatClampNeg) ∧ (h1 63 j = nI (g1 7 j).toNatClampNeg ∧ h1 64 j = nI (g1 8 j).toNatClampNeg) := fun j hj => by
    obtain ⟨a, o, a1, a2, a3, a4, a5, a6⟩ := P3 j hj
    rw [a3, a5, a4, a6, nI_clamp (by omega), nI_clamp (by omega)]; exact ⟨⟨a1, a2⟩, ⟨rfl, rfl⟩, rfl, rfl⟩
  have T : Stt N nA nO (fun j => (g1 7 j).toNatClampNeg) (fun j => (g1 8 j).toNatClampNeg) (fun a => (g 27 a - g 28 a).toNatClampNeg) (fun o => (g 31 o).toNatClampNeg) :=
    ⟨hN, hA, hO, fun j hj => (pjx j hj).1, fun a ha => (gvx a).1, fun o ho => (wvx o ho).1⟩
  have C1 : CC N nA nO (fun j => (g1 7 j).toNatClampNeg) (fun j => (g1 8 j).toNatClampNeg) (fun a => (g 27 a - g 28 a).toNatClampNeg) (fun o => (g 31 o).toNatClampNeg) g1 :=
    ⟨P1, fun j hj => (pjx j hj).2.1, fun a ha => by rw [gve a ha]; exact (gvx a).2, fun o ho => by rw [wve o ho]; exact (wvx o ho).2⟩
  have M1 : MC N nA nO (fun j => (g1 7 j).toNatClampNeg) (fun j => (g1 8 j).toNatClampNeg) (fun a => (g 27 a - g 28 a).toNatClampNeg) (fun o => (g 31 o).toNatClampNeg) h1 :=
    ⟨P2, fun j hj => (pjx j hj).2.2, fun a ha => by rw [sm 50 (by decide) (by decide) (by decide), sm 51 (by decide) (by decide) (by decide), e50, e51]; exact (gvx a).2, fun o ho => by rw [sm 53 (by decide) (by decide) (by decide), e53]; exact (wvx o ho).2, by rw [sm 42 (by decide) (by decide) (by decide), e42]; exact eO⟩
  have e66' : h1 66 = g1 15 := by rw [sm 66 (by decide) (by decide) (by decide), e66, sc 15 (by decide)]
  have rg1 : Rg g1 := fun j => by rw [sc 15 (by decide)]; exact hch j
  obtain ⟨r, g2, h2, k1, k2, k3, k4, k5, k6, k7, k8⟩ := look_top fu hf T lim hl (by omega) C1 M1 e66' rg1
  generalize (fun j => (g1 7 j).toNatClampNeg) = A at *
  generalize (fun j => (g1 8 j).toNatClampNeg) = O at *
  generalize (fun a => (g 27 a - g 28 a).toNatClampNeg) = gv at *
  generalize (fun o => (g 31 o).toNatClampNeg) = wv at *
  -- after the search
  let g4 : xSt := xw (xw g2 2 0 r) 3 0 (g2 19 0)
  let h3 : xSt := xw h2 44 0 r
  have z2 : ∀ m, (m = 0 ∨ m = 1 ∨ m = 4 ∨ 20 ≤ m ∨ m = 2 ∨ m = 3) → g2 m = g m := fun m hm => by
    rw [k7 m (by omega) (by omega) (by omega) (by omega) (by omega) (by omega) (by omega) (by omega), sc m (by omega)]
  have y2 : ∀ m, m ≠ 45 → m ≠ 46 → ¬ (63 ≤ m ∧ m ≤ 67) → h2 m = h0 m := fun m a1 a2 a3 => by
    rw [k8 m a1 (by omega) (by omega) (by omega), sm m a2 (by omega) (by omega)]
  have C4 : CC N nA nO A O gv wv g4 := (C1.sf2 k7).reg (by simp [g4, xwR]) (by simp [g4, xwR]) (by simp [g4, xwR]) (by simp [g4, xwR]) (by simp [g4, xwR])
  have M3 : MC N nA nO A O gv wv h3 := (M1.sms k8).reg fun m hm => xw_reg _ _ _ hm
  have r3 : h3 66 = g4 15 := by simp only [g4, h3]; rw [xw_reg _ _ _ (by decide), xw_reg _ _ _ (by decide), xw_reg _ _ _ (by decide), k4]
  have rg4 : Rg g4 := fun j => by simp only [g4]; rw [xw_reg _ _ _ (by decide), xw_reg _ _ _ (by decide)]; exact k5 j
  -- the plan
  have plan : ∃ g5 h5, ((r = 0 ∧ f_S_chooseByRule fu g4 = some g5 ∧ f_M_byRule fu h3 = some h5) ∨ (¬ r = 0 ∧ g5 = g4 ∧ h5 = h3)) ∧ h5 66 = g5 15 ∧ Rg g5 ∧ SF2 g4 g5 ∧ SMs h3 h5 ∧ h5 45 = h3 45 := by
    by_cases r0 : r = 0
    · obtain ⟨g5, h5, a1, a2, a3, a4, a5, a6, a7⟩ := rule_alike fu hf T C4 M3 r3 rg4
      exact ⟨g5, h5, Or.inl ⟨r0, a1, a2⟩, a3, a4, a5, a6, a7⟩
    · exact ⟨g4, h3, Or.inr ⟨r0, rfl, rfl⟩, r3, rg4, SF2.refl g4, SMs.refl h3, rfl⟩
  obtain ⟨g5, h5, pl, b1, b2, b3, b4, b5⟩ := plan
  have x5 : ∀ m, (m = 0 ∨ m = 1 ∨ m = 4 ∨ 20 ≤ m) → g5 m = g m := fun m hm => by
    rw [b3 m (by omega) (by omega) (by omega) (by omega) (by omega) (by omega) (by omega) (by omega)]
    simp only [g4]; rw [xw_reg _ _ _ (by omega), xw_reg _ _ _ (by omega)]; exact z2 m (by omega)
  have x52 : g5 2 = upd (g 2) 0 r := by
    rw [b3 2 (by decide) (by decide) (by decide) (by decide) (by decide) (by decide) (by decide) (by decide)]
    simp only [g4]; rw [xw_reg _ _ _ (by decide), xwR, if_pos rfl, z2 2 (by decide)]
  have x53 : g5 3 = upd (g 3) 0 (g2 19 0) := by
    rw [b3 3 (by decide) (by decide) (by decide) (by decide) (by decide) (by decide) (by decide) (by decide)]
    simp only [g4]; rw [xwR, if_pos rfl, xw_reg _ _ _ (by decide), z2 3 (by decide)]
  have w5 : ∀ m, m ≠ 44 → m ≠ 45 → m ≠ 46 → ¬ (63 ≤ m ∧ m ≤ 67) → h5 m = h0 m := fun m a0 a1 a2 a3 => by
    rw [b4 m a1 (by omega) (by omega) (by omega)]
    simp only [h3]; rw [xw_reg _ _ _ a0]; exact y2 m a1 a2 a3
  have w44 : h5 44 = upd (h0 44) 0 r := by
    rw [b4 44 (by decide) (by decide) (by decide) (by decide)]
    simp only [h3]; rw [xwR, if_pos rfl, y2 44 (by decide) (by decide) (by decide)]
  have w45 : h5 45 = upd (h0 45) 0 (g2 19 0) := by
    rw [b5]; simp only [h3]; rw [xw_reg _ _ _ (by decide), k6, sm 45 (by decide) (by decide) (by decide)]
  have S5 : Sim nA nO nP g5 h5 := mkS5 S0' k3 x5 x52 x53 (fun m hm => w5 m (by omega) (by omega) (by omega) (by omega)) w44 w45 b1 b2
  have u16 : g5 16 0 = nI N := by
    rw [b3 16 (by decide) (by decide) (by decide) (by decide) (by decide) (by decide) (by decide) (by decide)]; exact C4.1
  have u46 : h5 46 0 = nI N := by rw [b4 46 (by decide) (by decide) (by decide) (by decide)]; exact M3.1
  obtain ⟨q, v, g', h', t1, t2, t3, t4, t5, t6, t7⟩ := tail_alike S5 fu hf hN (nI lim) u16 u46 (fun j hj => by
    have c := C4.2.1 j hj
    have d := M3.2.1 j hj
    have a := T.2.2.2.1 j hj
    rw [b3 7 (by decide) (by decide) (by decide) (by decide) (by decide) (by decide) (by decide) (by decide), b3 8 (by decide) (by decide) (by decide) (by decide) (by decide) (by decide) (by decide) (by decide), b4 63 (by decide) (by decide) (by decide) (by decide), b4 64 (by decide) (by decide) (by decide) (by decide)]
    exact ⟨⟨A j, by omega, c.1, d.1⟩, O j, by omega, c.2, d.2⟩)
  refine Res.ret (v := v) (g' := g') (h' := h') (nA := nA) (nO := nO) (nP := q) ?_ ?_ ?_ ?_ t5 ?_
  · rw [f_D_match, q1.1, obT_0, l1, ob_b, k1, ob2_mk, if_neg (not_not_intro k3), ob_b, xw_reg g2 0 r (show 19 ≠ 2 by decide), ob_b]
    show (if g4 2 0 = 0 then _ else _) = _
    rw [show g4 2 0 = r by simp [g4, xwE]]
    rcases pl with ⟨r0, a1, a2⟩ | ⟨r0, a1, a2⟩
    · rw [if_pos r0]
      show Option.bind (f_S_chooseByRule fu g4) _ = _
      rw [a1, ob_b, t1, ob_b, t3, ob2_mk]
    · rw [if_neg r0]
      show Option.bind (f_P_replaceBy fu g4) _ = _
      rw [← a1, t1, ob_b, t3, ob2_mk]
  · rw [f_M_match, q1.2, ob2_mk, if_neg (by decide), ob_b, eh0, c40, if_pos (by decide), l2, ob_b, k2, ob2_mk, if_neg (not_not_intro k3), ob_b]
    show (if h3 44 0 = 0 then _ else _) = _
    rw [show h3 44 0 = r by simp [h3, xwE]]
    rcases pl with ⟨r0, a1, a2⟩ | ⟨r0, a1, a2⟩
    · rw [if_pos r0]
      show Option.bind (f_M_byRule fu h3) _ = _
      rw [a2, ob_b, ob_b, t2, ob2_mk, t4, ob2_mk]
    · rw [if_neg r0, ob_b]
      show ob2 (f_M_match_L60 fu (nI lim) fu 0 (xw h3 43 0 0)) _ = _
      rw [← a2, t2, ob2_mk, t4, ob2_mk]
  · refine fun m hm => ?_
    rw [t6 m (by omega) (by omega) (by omega) (by omega), x5 m (by omega)]
  · refine ⟨fun m hm => ?_, ?_⟩
    · rw [t7 m (by omega) (by omega) (by omega) (by omega), w5 m (by omega) (by omega) (by omega) (by omega), hh0 m (by omega)]
    · rw [t7 68 (by decide) (by decide) (by decide) (by decide), w5 68 (by decide) (by decide) (by decide) (by decide), hh0 68 (by decide)]
  · rw [t7 40 (by decide) (by decide) (by decide) (by decide), w5 40 (by decide) (by decide) (by decide) (by decide), c40]
