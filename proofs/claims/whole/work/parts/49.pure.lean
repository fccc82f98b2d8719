/-! split -/
def cp58 (h : xSt) (j n k : Nat) : xSt := va_up h 58 (fun i => if 8 * n ≤ i ∧ i < 8 * n + k then h 58 (8 * j + (i - 8 * n)) else h 58 i)
theorem M_splitL {h : xSt} (hb : ∀ i, h 58 i = 0 ∨ h 58 i = 1) (fu : Nat) {j m : Nat} (hj : j < 8) (hm : m < 8) (hjm : j ≠ m) (q b4 : Int32) : ∀ n k, k ≤ 8 → 8 - k < n → f_M_split_L197 fu (nI j) q b4 (nI m) n (nI k) (cp58 h j m k) = some (8, cp58 h j m 8)
  | 0, k, _, hh => absurd hh (by omega)
  | n + 1, k, hk, hh => by
    rw [f_M_split_L197]
    by_cases e : k = 8
    · subst e; rw [if_pos (by decide)]; rfl
    · rw [show (8 : Int32) = nI 8 from rfl, if_neg (nI_ge (show k < 8 by omega) (by omega)), ← show (8 : Int32) = nI 8 from rfl, ix8, ix8, nI_clamp (n := 8 * j + k) (by omega), nI_clamp (n := 8 * m + k) (by omega), if_neg (nin (show 8 * j + k < 64 by omega) (by decide)), if_neg (nin (show 8 * m + k < 64 by omega) (by decide)), ob_b, nI_1]
      have e1 : cp58 h j m k 58 (8 * j + k) = h 58 (8 * j + k) := by
        simp only [cp58, upE, if_true]; rw [if_neg (by omega)]
      rw [e1, nar_b _ (hb _), show xw (cp58 h j m k) 58 (8 * m + k) (h 58 (8 * j + k)) = cp58 h j m (k + 1) from ?_]
      · exact M_splitL hb fu hj hm hjm q b4 n (k + 1) (by omega) (by omega)
      · funext r
        by_cases er : r = 58
        · subst er
          funext i
          rw [xwE]
          simp only [cp58, upE, if_true, true_and]
          by_cases ei : i = 8 * m + k
          · subst ei; rw [if_pos rfl, if_pos (by omega), show 8 * m + k - 8 * m = k by omega]
          · rw [if_neg ei]
            by_cases e2 : 8 * m ≤ i ∧ i < 8 * m + k
            · rw [if_pos e2, if_pos (by omega)]
            · rw [if_neg e2, if_neg (by omega)]
        · simp [xwR, cp58, upE, er]
theorem cp58_0 (h : xSt) (j n : Nat) : cp58 h j n 0 = h := by
  funext r
  by_cases er : r = 58
  · subst er; funext i; simp only [cp58, upE, if_true]; rw [if_neg (by omega)]
  · simp [cp58, upE, er]
theorem op_split {nA nO nP : Nat} {g h : xSt} (S : Sim nA nO nP g h) (fu : Nat) (hf : 65 < fu) (p1 p2 : Int32) : Res (cdn 2 4 1 3) g h (f_D_split fu p1 p2 g) (f_M_split fu p1 p2 h) := by
  have S' := S
  obtain ⟨⟨⟨hA, hO, hP⟩, ⟨eA, eO, eP⟩, hx, hpk, hk0, hl, hm, hpa, hpo, hch⟩, E, B, B2⟩ := S
  unfold Eqs at E
  obtain ⟨e41, e42, e43, e44, e45, e47, e48, e49, e50, e51, e52, e53, e54, e55, e56, e57, e59, e60, e61, e62, e66⟩ := E
  have eA' : h 41 0 = nI nA := by rw [e41, eA]
  have eP' : h 43 0 = nI nP := by rw [e43, eP]
  by_cases r1 : ∃ j, j < nA ∧ p1 = nI j
  case neg =>
    have q := th_bad r1 (show nA ≤ 64 by omega)
    refine Res.thr S' (k := 3) (v := 0) (b := 0) (by decide) (by decide) (by decide) ?_ ?_
    · rw [f_D_split, eA, q.1, obT_3]
    · rw [f_M_split, M_isArrival eA' q.2 (Or.inl rfl), ob2_mk, if_pos rfl, ob_b, if_neg (by rw [xw_self]; decide)]; rfl
  obtain ⟨j, hj, rfl⟩ := r1
  have q1 := th_ok hj (show nA ≤ 64 by omega)
  have m1 := M_isArrival eA' q1.2 (Or.inr rfl)
  have c := nI_clamp (n := j) (by omega)
  have gd := nin (show j < 8 by omega) (show 8 ≤ 65 by decide)
  by_cases r2 : ¬ p2 < 1 ∧ p2 ≤ g 27 j - 1
  case neg =>
    refine Res.thr S' (k := 1) (v := 0) (b := 0) (by decide) (by decide) (by decide) ?_ ?_
    · rw [f_D_split, eA, q1.1, obT_0, c, if_neg gd, (rg_bad r2).1, obT_1]
    · rw [f_M_split, m1, ob2_mk, if_neg (by decide), c, if_neg gd, e50, (rg_bad r2).2, ob2_mk, if_pos rfl, ob_b, if_neg (by rw [xw_self]; decide)]; rfl
  have q2 := rg_ok r2.1 r2.2
  have P1 := P_palletsOf hP eP fu hf (nI j)
  have M1 := M_held hP eP' fu hf (nI j)
  rw [e60, e62] at M1
  by_cases r3 : psum (fun i => if g 20 i = nI j then g 22 i else 0) nP ≤ 0
  case neg =>
    refine Res.thr S' (k := 4) (v := 0) (b := 0) (by decide) (by decide) (by decide) ?_ ?_
    · rw [f_D_split, eA, q1.1, obT_0, c, if_neg gd, q2.1, obT_0, P1, ob2_mk, if_neg r3]
    · rw [f_M_split, m1, ob2_mk, if_neg (by decide), c, if_neg gd, e50, q2.2, ob2_mk, if_neg (by decide), M1, ob2_mk, if_neg r3, ob_b, if_neg (by rw [xw_self]; decide)]; rfl
  by_cases r5 : nA = 8
  · subst r5
    refine Res.thr S' (k := 2) (v := 0) (b := 0) (by decide) (by decide) (by decide) ?_ ?_
    · rw [f_D_split, eA, q1.1, obT_0, c, if_neg gd, q2.1, obT_0, P1, ob2_mk, if_pos r3, f_D_checkRoom, eA, if_neg (by decide), obT_2]
    · rw [f_M_split, m1, ob2_mk, if_neg (by decide), c, if_neg gd, e50, q2.2, ob2_mk, if_neg (by decide), M1, ob2_mk, if_pos r3, e41, eA, if_pos (by decide), ob_b, if_neg (by rw [xw_self]; decide)]; rfl
  have hA7 : nA < 8 := by omega
  have hjn : j ≠ nA := by omega
  have hnj : nA ≠ j := by omega
  have cn := nI_clamp (n := nA) (by omega)
  have gn := nin hA7 (show 8 ≤ 65 by decide)
  obtain ⟨p, k, hkp, hp6, ep, ek⟩ := hpk j
  obtain ⟨q, hq1, hqp, rfl⟩ : ∃ q, 1 ≤ q ∧ q + 1 ≤ p ∧ p2 = nI q := by
    obtain ⟨a1, a2⟩ := r2
    have h2 : (0 : Int32) < 1 := by decide
    have h3 : ¬ p2 < 0 := by grind
    obtain ⟨x, hx, rfl⟩ := nI_of h3
    rw [show (1 : Int32) = nI 1 from rfl, nI_ltI hx (by omega)] at a1
    rw [ep] at a2
    match p with
    | 0 =>
      have : (nI 0 - 1 : Int32) < 0 := by decide
      have : ¬ nI x < 0 := h3
      grind
    | p + 1 => rw [nI_m1, nI_leI hx (by omega)] at a2; exact ⟨x, by omega, by omega, rfl⟩
  have e27 : g 27 j - nI q = nI (p - q) := by rw [ep, pk_sub (by omega)]
  let kh : Nat := if p - q < k then p - q else k
  have hkh1 : kh ≤ k := by simp only [kh]; split <;> omega
  have hkh2 : kh ≤ p - q := by simp only [kh]; split <;> omega
  have hkh3 : k - kh ≤ q := by simp only [kh]; split <;> omega
  have ekh : (if g 27 j - nI q < g 28 j then g 27 j - nI q else g 28 j) = nI kh := by
    rw [e27, ek]; simp only [kh, nI_ltI (show p - q < 2 ^ 31 by omega) (show k < 2 ^ 31 by omega)]; split <;> rfl
  let G : xSt := xw (xw (xw (xw (xw (xw (xw (xw (xw g 24 nA (g 24 j)) 25 nA (g 25 j)) 26 nA (g 26 j)) 27 nA (nI q)) 28 nA (nI (k - kh))) 29 nA (g 29 j)) 27 j (nI (p - q))) 28 j (nI kh)) 0 0 (nI (nA + 1))
  let H0 : xSt := xw (xw (xw (xw (xw (xw (xw (xw (xw h 40 0 0) 41 0 (nI (nA + 1))) 47 nA (g 24 j)) 48 nA (g 25 j)) 49 nA (g 26 j)) 50 nA (nI q)) 50 j (nI (p - q))) 51 nA (nI (k - kh))) 51 j (nI kh)
  have hmv : f_A_moveTo j nA (nI q) g = some (xw (xw (xw (xw (xw (xw (xw (xw g 24 nA (g 24 j)) 25 nA (g 25 j)) 26 nA (g 26 j)) 27 nA (nI q)) 28 nA (nI (k - kh))) 29 nA (g 29 j)) 27 j (nI (p - q))) 28 j (nI kh)) := by
    rw [f_A_moveTo, ekh]
    simp only [ob_b, xwE]
    simp [hjn, ek, pk_sub hkh1, e27]
  have hb0 : ∀ i, H0 58 i = 0 ∨ H0 58 i = 1 := by
    intro i; have := B2 i; simpa [H0, xwE] using this
  have hL := fun b4 => M_splitL hb0 fu (show j < 8 by omega) hA7 hjn (nI q) b4 fu 0 (by omega) (by omega)
  simp only [cp58_0] at hL
  refine Res.ret (v := nI nA) (g' := G) (h' := cp58 H0 j nA 8) (nA := nA + 1) (nO := nO) (nP := nP) ?_ ?_ ?_ ?_ ⟨?_, ?_, ?_, ?_⟩ ?_
  · rw [f_D_split, eA, q1.1, obT_0, c, if_neg gd, q2.1, obT_0, P1, ob2_mk, if_pos r3, eA, room_ok hA7, obT_0, eA, cn, if_neg gn, hmv, ob_b, ob_b]
    simp [xwE, eA, nI_1, nI_m1, G]
  · rw [f_M_split, m1, ob2_mk, if_neg (by decide), c, if_neg gd, e50, q2.2, ob2_mk, if_neg (by decide), M1, ob2_mk, if_pos r3, e41, eA, if_neg (ne8 hA7), ob_b, if_pos (by rw [xw_self]; decide)]
    have a41 : (xw h 40 0 0) 41 0 = nI nA := by simp [xwE, e41, eA]
    simp only [a41, cn, if_neg gn, if_neg gd, ob_b, nI_1]
    simp only [xwE]
    simp only [e47, e48, e49, e50, e51, hjn, hnj, and_false, false_and, and_true, true_and, if_false, if_true, e27, ek, show (47 : Nat) ≠ 41 by decide, show (47 : Nat) ≠ 40 by decide, show (48 : Nat) ≠ 41 by decide, show (48 : Nat) ≠ 40 by decide, show (48 : Nat) ≠ 47 by decide, show (49 : Nat) ≠ 41 by decide, show (49 : Nat) ≠ 40 by decide, show (49 : Nat) ≠ 47 by decide, show (49 : Nat) ≠ 48 by decide, show (50 : Nat) ≠ 41 by decide, show (50 : Nat) ≠ 40 by decide, show (50 : Nat) ≠ 47 by decide, show (50 : Nat) ≠ 48 by decide, show (50 : Nat) ≠ 49 by decide, show (51 : Nat) ≠ 41 by decide, show (51 : Nat) ≠ 40 by decide, show (51 : Nat) ≠ 47 by decide, show (51 : Nat) ≠ 48 by decide, show (51 : Nat) ≠ 49 by decide, show (51 : Nat) ≠ 50 by decide]
    by_cases kk : p - q ≤ k
    · have ekk : kh = p - q := by simp only [kh]; split <;> omega
      rw [if_pos (nI_le kk (by omega)), pk_sub kk]
      have hL2 := hL (nI (p - q))
      simp only [H0, ekk] at hL2 ⊢
      rw [show nI 0 = (0 : Int32) from rfl] at hL2
      rw [hL2, ob2_mk]
    · have ekk : kh = k := by simp only [kh]; split <;> omega
      rw [if_neg (nI_ge (show k < p - q by omega) (by omega)), pk_sub (Nat.le_refl k)]
      have hL2 := hL (nI k)
      simp only [H0, ekk] at hL2 ⊢
      rw [show nI 0 = (0 : Int32) from rfl] at hL2
      rw [hL2, ob2_mk]
  · exact (((((((((FrC.refl g).xw (by decide)).xw (by decide)).xw (by decide)).xw (by decide)).xw (by decide)).xw (by decide)).xw (by decide)).xw (by decide)).xw (by decide)
  · have F0 : FrM h H0 := (((((((((FrM.refl h).xw (by decide) (by decide)).xw (by decide) (by decide)).xw (by decide) (by decide)).xw (by decide) (by decide)).xw (by decide) (by decide)).xw (by decide) (by decide)).xw (by decide) (by decide)).xw (by decide) (by decide)).xw (by decide) (by decide)
    refine F0.trans ⟨fun m hm => ?_, ?_⟩
    · simp only [cp58, upE]; rw [if_neg (by omega)]
    · simp [cp58, upE]
  · refine ⟨⟨by omega, hO, hP⟩, ⟨by simp [G, xwE], by simp [G, xwE, eO], by simp [G, xwE, eP]⟩, by simp [G, xwE, hx], fun i => ?_, fun i hi => ?_, by simpa [G, xwE] using hl, by simpa [G, xwE] using hm, by simpa [G, xwE] using hpa, by simpa [G, xwE] using hpo, by simpa [G, xwE] using hch⟩
    · by_cases ei : i = nA
      · subst ei; exact ⟨q, k - kh, hkh3, by omega, by simp [G, xwE, hnj], by simp [G, xwE, hnj]⟩
      · by_cases ej : i = j
        · subst ej; exact ⟨p - q, kh, hkh2, by omega, by simp [G, xwE], by simp [G, xwE]⟩
        · simpa [G, xwE, ei, ej] using hpk i
    · simpa [G, xwE, show i ≠ nA by omega, show i ≠ j by omega] using hk0 i (by omega)
  · unfold Eqs; simp [G, H0, cp58, xwR, upE, e41, e42, e43, e44, e45, e47, e48, e49, e50, e51, e52, e53, e54, e55, e56, e57, e59, e60, e61, e62, e66]
  · intro i o hi ho
    by_cases ei : i = nA
    · subst ei
      have e1 : G 29 i = g 29 j := by simp [G, xwE]
      have e2 : cp58 H0 j i 8 58 (8 * i + o) = h 58 (8 * j + o) := by
        simp only [cp58, upE, if_true]; rw [if_pos (by omega), show 8 * i + o - 8 * i = o by omega]; simp [H0, xwE]
      rw [e1, e2]; exact B j o (by omega) ho
    · have e1 : G 29 i = g 29 i := by simp [G, xwE, ei]
      have e2 : cp58 H0 j nA 8 58 (8 * i + o) = h 58 (8 * i + o) := by
        simp only [cp58, upE, if_true]; rw [if_neg (by omega)]; simp [H0, xwE]
      rw [e1, e2]; exact B i o hi ho
  · intro i
    simp only [cp58, upE, if_true]; split <;> exact hb0 _
  · simp [cp58, upE, H0, xwE]
