/-! the pairs laid out -/
def SC (g g' : xSt) : Prop := ∀ m, (m < 5 ∨ m = 15 ∨ 20 ≤ m) → g' m = g m
def SMl (h h' : xSt) : Prop := ∀ m, m ≠ 46 → m ≠ 63 → m ≠ 64 → h' m = h m
theorem SC.refl (g : xSt) : SC g g := fun _ _ => rfl
theorem SC.trans {a b c : xSt} (h : SC a b) (k : SC b c) : SC a c := fun m hm => (k m hm).trans (h m hm)
theorem SMl.refl (g : xSt) : SMl g g := fun _ _ _ _ => rfl
theorem SMl.trans {a b c : xSt} (h : SMl a b) (k : SMl b c) : SMl a c := fun m h1 h2 h3 => (k m h1 h2 h3).trans (h m h1 h2 h3)
theorem SC.xw {g g' : xSt} (h : SC g g') {a i : Nat} {v : Int32} (ha : 5 ≤ a) (hb : a < 20) (hc : a ≠ 15) : SC g (xw g' a i v) := fun m hm => by
  rw [xw_reg g' i v (by omega)]; exact h m hm
theorem SC.up {g g' : xSt} (h : SC g g') {a : Nat} {f : Nat → Int32} (ha : 5 ≤ a) (hb : a < 20) (hc : a ≠ 15) : SC g (va_up g' a f) := fun m hm => by
  rw [upE, if_neg (by omega)]; exact h m hm
theorem SMl.xw {g g' : xSt} (h : SMl g g') {a i : Nat} {v : Int32} (ha : a = 46 ∨ a = 63 ∨ a = 64) : SMl g (xw g' a i v) := fun m h1 h2 h3 => by
  rw [xw_reg g' i v (by omega)]; exact h m h1 h2 h3
theorem Sim.sc {nA nO nP : Nat} {g g' h h' : xSt} (S : Sim nA nO nP g h) (F : SC g g') (G : SMl h h') : Sim nA nO nP g' h' := by
  obtain ⟨W, E, B⟩ := S
  refine ⟨?_, ?_, ?_⟩
  · unfold WF at *
    rw [F 0 (by decide), F 1 (by decide), F 23 (by decide), F 2 (by decide), F 27 (by decide), F 28 (by decide), F 33 (by decide), F 31 (by decide), F 20 (by decide), F 21 (by decide), F 15 (by decide)]
    exact W
  · unfold Eqs at *
    rw [F 0 (by decide), F 1 (by decide), F 23 (by decide), F 2 (by decide), F 3 (by decide), F 24 (by decide), F 25 (by decide), F 26 (by decide), F 27 (by decide), F 28 (by decide), F 30 (by decide), F 31 (by decide), F 32 (by decide), F 33 (by decide), F 34 (by decide), F 35 (by decide), F 4 (by decide), F 20 (by decide), F 21 (by decide), F 22 (by decide), F 15 (by decide)]
    rw [G 41 (by decide) (by decide) (by decide), G 42 (by decide) (by decide) (by decide), G 43 (by decide) (by decide) (by decide), G 44 (by decide) (by decide) (by decide), G 45 (by decide) (by decide) (by decide), G 47 (by decide) (by decide) (by decide), G 48 (by decide) (by decide) (by decide), G 49 (by decide) (by decide) (by decide), G 50 (by decide) (by decide) (by decide), G 51 (by decide) (by decide) (by decide), G 52 (by decide) (by decide) (by decide), G 53 (by decide) (by decide) (by decide), G 54 (by decide) (by decide) (by decide), G 55 (by decide) (by decide) (by decide), G 56 (by decide) (by decide) (by decide), G 57 (by decide) (by decide) (by decide), G 59 (by decide) (by decide) (by decide), G 60 (by decide) (by decide) (by decide), G 61 (by decide) (by decide) (by decide), G 62 (by decide) (by decide) (by decide), G 66 (by decide) (by decide) (by decide)]
    exact E
  · unfold Bits at *
    rw [F 29 (by decide), G 58 (by decide) (by decide) (by decide)]
    exact B
theorem obs_sc {g g' : xSt} (F : SC g g') (a o : Nat) : obs g' a o = obs g a o := by
  unfold obs
  rw [F 24 (by decide), F 30 (by decide), F 26 (by decide), F 34 (by decide), F 35 (by decide), F 25 (by decide), F 29 (by decide), F 4 (by decide), F 33 (by decide)]
def PR (N nA nO : Nat) (g h : xSt) : Prop := g 16 0 = nI N ∧ h 46 0 = nI N ∧ ∀ j, j < N → ∃ a o, a < nA ∧ o < nO ∧ g 7 j = nI a ∧ h 63 j = nI a ∧ g 8 j = nI o ∧ h 64 j = nI o
def IC (g g' : xSt) : Prop := ∀ m, m ≠ 7 → m ≠ 8 → m ≠ 16 → g' m = g m
theorem IC.sc {g g' : xSt} (h : IC g g') : SC g g' := fun m hm => h m (by omega) (by omega) (by omega)
theorem IC.trans {a b c : xSt} (h : IC a b) (k : IC b c) : IC a c := fun m h1 h2 h3 => (k m h1 h2 h3).trans (h m h1 h2 h3)
theorem inner_alike {nA nO nP : Nat} (fu : Nat) (hf : 65 < fu) {o B : Nat} (hB : B + 8 ≤ 64) (ho : o < nO) (b b' : Int32) : ∀ n k N g h, Sim nA nO nP g h → SI (g 6) (g 26) nA → PR N nA nO g h → N ≤ B + k → k ≤ nA → nA - k < n →
    ∃ N' g' h', f_D_layOutPairs_L87 fu (nI o) b n (nI k) g = some (nI nA, g') ∧ f_M_layOut_L23 fu (nI o) b' n (nI k) h = some (nI nA, h') ∧ PR N' nA nO g' h' ∧ N' ≤ B + nA ∧ IC g g' ∧ SMl h h'
  | 0, k, N, g, h, _, _, _, _, _, hn => absurd hn (by omega)
  | n + 1, k, N, g, h, S, hs, P, hN, hk, hn => by
    have S' := S
    obtain ⟨⟨⟨hA, hO, hP⟩, ⟨eA, eO, eP⟩, hx, hpk, hk0, hl, -⟩, E, -⟩ := S
    have eA' : h 41 0 = nI nA := by rw [E.1, eA]
    have e49 : h 49 = g 26 := E.2.2.2.2.2.2.2.1
    rw [f_D_layOutPairs_L87, f_M_layOut_L23, eA, eA']
    by_cases e : k = nA
    · subst e
      rw [if_pos (nI_le (Nat.le_refl _) (by omega)), if_pos (nI_le (Nat.le_refl _) (by omega))]
      exact ⟨N, g, h, rfl, rfl, P, hN, fun _ _ _ _ => rfl, SMl.refl h⟩
    · obtain ⟨s, s1, s2, s3⟩ := hs k (by omega)
      have at1 : f_M_arrivalAt fu (nI k) h = some (nI s, h) := by
        rw [f_M_arrivalAt]; exact M_arrivalAt hA eA' fu hf s1 (by rw [e49]; exact s3) fu 0 (by omega) (by omega)
      rw [if_neg (nI_ge (show k < nA by omega) (by omega)), if_neg (nI_ge (show k < nA by omega) (by omega)), nI_clamp (n := k) (by omega), if_neg (nin (show k < 8 by omega) (by decide)), at1, ob2_mk, s2, D_mayServe (by omega) (by omega) (hl o), ob2_mk, M_mayServe S' (by omega) (by omega), ob2_mk, nI_1]
      by_cases q : obs g s o = 0
      · simp only [if_pos q, if_neg (show ¬ (1 : Int32) = 0 by decide), if_neg (nin (show k < 8 by omega) (show 8 ≤ 65 by decide)), s2]
        obtain ⟨p1, p2, p3⟩ := P
        have hN64 : N < 64 := by omega
        have cN := nI_clamp (n := N) (by omega)
        have gN := nin hN64 (show 64 ≤ 65 by decide)
        have ad : f_S_addPair (nI s) (nI o) g = some (xw (xw (xw g 7 N (nI s)) 8 N (nI o)) 16 0 (nI (N + 1))) := by
          rw [f_S_addPair, p1, if_neg (show ¬ (64 : Int32) ≤ nI N from nI_ge (b := 64) hN64 (by decide)), cN, if_neg gN, ob_b, show (xw g 7 N (nI s)) 16 0 = nI N by simp [xwE, p1], cN, if_neg gN, ob_b, show (xw (xw g 7 N (nI s)) 8 N (nI o)) 16 0 = nI N by simp [xwE, p1], nI_1, ob_b]
        rw [ad, ob_b, p2, cN, if_neg gN, ob_b]
        have r1 : (xw h 63 N (nI s)) 46 0 = nI N := by simp [xwE, p2]
        rw [r1, cN, if_neg gN, ob_b]
        have r2 : (xw (xw h 63 N (nI s)) 64 N (nI o)) 46 0 = nI N := by simp [xwE, p2]
        rw [r2, nI_1, ob_b]
        have ic : IC g (xw (xw (xw g 7 N (nI s)) 8 N (nI o)) 16 0 (nI (N + 1))) := fun m h1 h2 h3 => by simp [xwR, h1, h2, h3]
        have sm : SMl h (xw (xw (xw h 63 N (nI s)) 64 N (nI o)) 46 0 (nI (N + 1))) := fun m h1 h2 h3 => by simp [xwR, h1, h2, h3]
        obtain ⟨N', g', h', d1, d2, d3, d4, d5, d6⟩ := inner_alike (nP := nP) fu hf hB ho b b' n (k + 1) (N + 1) _ _ (S'.sc ic.sc sm) (by rw [ic 6 (by decide) (by decide) (by decide), ic 26 (by decide) (by decide) (by decide)]; exact hs) (by
          refine ⟨by simp [xwE], by simp [xwE], fun j hj => ?_⟩
          by_cases ej : j = N
          · subst ej; exact ⟨s, o, s1, ho, by simp [xwE], by simp [xwE], by simp [xwE], by simp [xwE]⟩
          · obtain ⟨a, o', a1, a2, a3, a4, a5, a6⟩ := p3 j (by omega)
            exact ⟨a, o', a1, a2, by simp [xwE, ej, a3], by simp [xwE, ej, a4], by simp [xwE, ej, a5], by simp [xwE, ej, a6]⟩) (by omega) (by omega) (by omega)
        exact ⟨N', g', h', d1, d2, d3, d4, ic.trans d5, sm.trans d6⟩
      · rw [if_neg q, if_pos rfl, if_pos rfl]
        exact inner_alike fu hf hB ho b b' n (k + 1) N g h S' hs P (by omega) (by omega) (by omega)
theorem cnt_lt (key : Nat → Int32) (y : Nat) : ∀ k, y < k → cnt key y k + 1 ≤ k
  | 0, h => absurd h (by omega)
  | k + 1, h => by
    rw [cnt]
    by_cases e : y = k
    · subst e
      rw [if_neg (fun q => bef_ir (befb_iff.1 q))]
      have := cnt_le key y y; omega
    · have := cnt_lt key y k (by omega)
      split <;> omega
theorem outer_alike {nA nO nP : Nat} (fu : Nat) (hf : 65 < fu) : ∀ n i N g h, Sim nA nO nP g h → SI (g 6) (g 26) nA → SI (g 5) (g 32) nO → PR N nA nO g h → N ≤ 8 * i → (∀ o, o < nO → cnt (g 32) o nO < i → g 10 o = g 31 o) → i ≤ nO → nO - i < n →
    ∃ N' g' h', f_D_layOutPairs_L52 fu n (nI i) g = some (nI nO, g') ∧ f_M_layOut_L7 fu n (nI i) h = some (nI nO, h') ∧ PR N' nA nO g' h' ∧ N' ≤ 64 ∧ SC g g' ∧ g' 9 = g 9 ∧ SMl h h' ∧ ∀ o, o < nO → g' 10 o = g 31 o
  | 0, i, N, g, h, _, _, _, _, _, _, _, hn => absurd hn (by omega)
  | n + 1, i, N, g, h, S, hs6, hs5, P, hN, hw, hi, hn => by
    have S' := S
    obtain ⟨⟨⟨hA, hO, hP⟩, ⟨eA, eO, eP⟩, -⟩, E, -⟩ := S
    have eO' : h 42 0 = nI nO := by rw [E.2.1, eO]
    have e54 : h 54 = g 32 := E.2.2.2.2.2.2.2.2.2.2.2.2.1
    rw [f_D_layOutPairs_L52, f_M_layOut_L7, eO, eO']
    by_cases e : i = nO
    · subst e
      rw [if_pos (nI_le (Nat.le_refl _) (by omega)), if_pos (nI_le (Nat.le_refl _) (by omega))]
      exact ⟨N, g, h, rfl, rfl, P, by omega, SC.refl g, rfl, SMl.refl h, fun o ho => hw o ho (by have := cnt_lt (g 32) o i ho; omega)⟩
    · obtain ⟨s, s1, s2, s3⟩ := hs5 i (by omega)
      have at1 : f_M_orderAt fu (nI i) h = some (nI s, h) := by
        rw [f_M_orderAt]; exact M_orderAt hO eO' fu hf s1 (by rw [e54]; exact s3) fu 0 (by omega) (by omega)
      rw [if_neg (nI_ge (show i < nO by omega) (by omega)), if_neg (nI_ge (show i < nO by omega) (by omega)), nI_clamp (n := i) (by omega), s2, nI_clamp (n := s) (by omega), at1, ob2_mk]
      simp only [if_neg (nin (show i < 8 by omega) (show 8 ≤ 65 by decide)), if_neg (nin (show s < 8 by omega) (show 8 ≤ 65 by decide)), ob_b]
      have ic : SC g (xw g 10 s (g 31 s)) := (SC.refl g).xw (by decide) (by decide) (by decide)
      have S1 := S'.sc ic (SMl.refl h)
      obtain ⟨N', g', h', d1, d2, d3, d4, d5, d6⟩ := inner_alike (nP := nP) fu hf (B := 8 * i) (by omega) s1 (nI i) (nI i) fu 0 N _ _ S1 (by simpa [xwR] using hs6) (by
          obtain ⟨p1, p2, p3⟩ := P
          refine ⟨by simp [xwE, p1], p2, fun j hj => ?_⟩
          obtain ⟨a, o', a1, a2, a3, a4, a5, a6⟩ := p3 j hj
          exact ⟨a, o', a1, a2, by simp [xwE, a3], a4, by simp [xwE, a5], a6⟩) (by omega) (by omega) (by omega)
      rw [show (0 : Int32) = nI 0 from rfl, d1, d2, ob2_mk, ob2_mk, nI_1]
      have q5 : g' 5 = g 5 := by rw [d5 5 (by decide) (by decide) (by decide)]; simp [xwR]
      have q6 : g' 6 = g 6 := by rw [d5 6 (by decide) (by decide) (by decide)]; simp [xwR]
      have q26 : g' 26 = g 26 := by rw [d5 26 (by decide) (by decide) (by decide)]; simp [xwR]
      have q32 : g' 32 = g 32 := by rw [d5 32 (by decide) (by decide) (by decide)]; simp [xwR]
      have q31 : g' 31 = g 31 := by rw [d5 31 (by decide) (by decide) (by decide)]; simp [xwR]
      have q9 : g' 9 = g 9 := by rw [d5 9 (by decide) (by decide) (by decide)]; simp [xwR]
      have q10 : g' 10 = upd (g 10) s (g 31 s) := by rw [d5 10 (by decide) (by decide) (by decide)]; simp [xwR]
      obtain ⟨N2, g2, h2, k1, k2, k3, k4, k5, k6, k7, k8⟩ := outer_alike (nP := nP) fu hf n (i + 1) N' g' h' (S1.sc d5.sc d6) (by rw [q6, q26]; exact hs6) (by rw [q5, q32]; exact hs5) d3 (by omega) (fun o ho hc => by
        rw [q32] at hc
        rw [q10, q31]; unfold upd
        by_cases eo : o = s
        · rw [if_pos eo, eo]
        · rw [if_neg eo]
          refine hw o ho ?_
          have : cnt (g 32) o nO ≠ i := fun q => eo (cnt_inj ho s1 (q.trans s3.symm))
          omega) (by omega) (by omega)
      exact ⟨N2, g2, h2, k1, k2, k3, k4, (ic.trans d5.sc).trans k5, k6.trans q9, d6.trans k7, fun o ho => by rw [k8 o ho, q31]⟩
theorem give_loop {nA : Nat} (hA : nA ≤ 8) (fu : Nat) : ∀ n k g, g 0 0 = nI nA → k ≤ nA → nA - k < n → (∀ a, a < k → g 9 a = g 27 a - g 28 a) → ∃ g', f_D_layOutPairs_L18 fu n (nI k) g = some (nI nA, g') ∧ (∀ m, m ≠ 9 → g' m = g m) ∧ ∀ a, a < nA → g' 9 a = g 27 a - g 28 a
  | 0, k, g, _, _, hn, _ => absurd hn (by omega)
  | n + 1, k, g, eA, hk, hn, hd => by
    rw [f_D_layOutPairs_L18, eA]
    by_cases e : k = nA
    · subst e; rw [if_pos (nI_le (Nat.le_refl _) (by omega))]; exact ⟨g, rfl, fun _ _ => rfl, hd⟩
    · rw [if_neg (nI_ge (show k < nA by omega) (by omega)), nI_clamp (n := k) (by omega), if_neg (nin (show k < 8 by omega) (by decide)), f_A_toGive, ob2_mk, if_neg (nin (show k < 8 by omega) (by decide)), ob_b, nI_1]
      obtain ⟨g', d1, d2, d3⟩ := give_loop hA fu n (k + 1) (xw g 9 k (g 27 k - g 28 k)) (by simp [xwE, eA]) (by omega) (by omega) (fun a ha => by
        by_cases ea : a = k
        · subst ea; simp [xwE]
        · have := hd a (by omega)
          simp [xwE, ea, this])
      exact ⟨g', d1, fun m hm => by rw [d2 m hm, xw_reg g k _ hm], fun a ha => by rw [d3 a ha]; simp [xwE]⟩
theorem layOut_alike {nA nO nP : Nat} {g h : xSt} (S : Sim nA nO nP g h) (fu : Nat) (hf : 65 < fu) : ∃ N g' h', f_D_layOutPairs fu g = some g' ∧ f_M_layOut fu h = some h' ∧ N ≤ 64 ∧ PR N nA nO g' h' ∧ SC g g' ∧ SMl h h' ∧ (∀ a, a < nA → g' 9 a = g 27 a - g 28 a) ∧ ∀ o, o < nO → g' 10 o = g 31 o := by
  have S' := S
  obtain ⟨⟨⟨hA, hO, hP⟩, ⟨eA, eO, eP⟩, -⟩, E, -⟩ := S
  obtain ⟨f5, a1, a2⟩ := D_sortOrders hO eO fu hf
  obtain ⟨f6, b1, b2⟩ := D_sortArrivals (g := va_up g 5 f5) hA (by rw [upE, if_neg (by decide)]; exact eA) fu hf
  obtain ⟨g1, c1, c2, c3⟩ := give_loop hA fu fu 0 (xw (va_up (va_up g 5 f5) 6 f6) 16 0 0) (by simp [xwE, upE, eA]) (by omega) (by omega) (fun a ha => by omega)
  have sc0 : SC g (xw (va_up (va_up g 5 f5) 6 f6) 16 0 0) := ((((SC.refl g).up (by decide) (by decide) (by decide)).up (by decide) (by decide) (by decide)).xw (by decide) (by decide) (by decide))
  have sc1 : SC g g1 := sc0.trans fun m hm => c2 m (by omega)
  have sm0 : SMl h (xw h 46 0 0) := (SMl.refl h).xw (by decide)
  obtain ⟨N, g', h', d1, d2, d3, d4, d5, d6, d7, d8⟩ := outer_alike (nP := nP) fu hf fu 0 0 g1 (xw h 46 0 0) (S'.sc sc1 sm0) (by
      rw [c2 6 (by decide), sc1 26 (by decide)]; simpa [xwR, upE] using b2) (by
      rw [c2 5 (by decide), sc1 32 (by decide)]; simpa [xwR, upE] using a2) ⟨by rw [c2 16 (by decide)]; simp [xwE]; rfl, by simp [xwE]; rfl, fun j hj => by omega⟩ (by omega) (fun o ho hc => by omega) (by omega) (by omega)
  refine ⟨N, g', h', ?_, ?_, d4, d3, sc1.trans d5, sm0.trans d7, fun a ha => ?_, fun o ho => ?_⟩
  · rw [f_D_layOutPairs, a1, ob_b, b1, ob_b, ob_b, show (0 : Int32) = nI 0 from rfl]
    rw [show (0 : Int32) = nI 0 from rfl] at c1
    rw [c1, ob2_mk, d1, ob2_mk]
  · rw [f_M_layOut, ob_b]
    rw [show (0 : Int32) = nI 0 from rfl] at d2 ⊢
    rw [d2, ob2_mk]
  · rw [d6, c3 a ha]; simp [xwE, upE]
  · rw [d8 o ho, sc1 31 (by decide)]
