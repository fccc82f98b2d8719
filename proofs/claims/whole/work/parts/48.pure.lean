/-! undo, late: taking a pair out; split -/
def shf (f : Nat → Int32) (i e : Nat) : Nat → Int32 := fun k => if i ≤ k ∧ k < e then f (k + 1) else f k
def sh3 (g : xSt) (A B C i e : Nat) : xSt := va_up (va_up (va_up g A (shf (g A) i e)) B (shf (g B) i e)) C (shf (g C) i e)
theorem sh3_0 (g : xSt) {A B C : Nat} (h1 : A ≠ B) (h2 : A ≠ C) (h3 : B ≠ C) (i : Nat) : sh3 g A B C i i = g := by
  have hs : ∀ f, shf f i i = f := fun f => by funext k; unfold shf; rw [if_neg (by omega)]
  funext m
  simp only [sh3, hs, upE]
  split
  · rename_i e; rw [e]
  · split
    · rename_i e; rw [e]
    · split
      · rename_i e; rw [e]
      · rfl
theorem shf_k (f : Nat → Int32) (i k : Nat) : shf f i k (k + 1) = f (k + 1) := by unfold shf; rw [if_neg (by omega)]
theorem shf_s (f : Nat → Int32) {i k : Nat} (h : i ≤ k) : upd (shf f i k) k (f (k + 1)) = shf f i (k + 1) := by
  funext j; unfold upd shf
  by_cases e : j = k
  · subst e; rw [if_pos rfl, if_pos (by omega)]
  · rw [if_neg e]
    by_cases e2 : i ≤ j ∧ j < k
    · rw [if_pos e2, if_pos (by omega)]
    · rw [if_neg e2, if_neg (by omega)]
theorem P_removeL {nP : Nat} {g : xSt} (hn : nP ≤ 64) (hP : g 23 0 = nI nP) (fu : Nat) (p : Int32) (i : Nat) : ∀ n k, i ≤ k → k + 1 ≤ nP → nP - (k + 1) < n → f_P_removeAt_L4 fu p n (nI (k + 1)) (sh3 g 20 21 22 i k) = some (nI nP, sh3 g 20 21 22 i (nP - 1))
  | 0, k, _, _, h => absurd h (by omega)
  | n + 1, k, hi, hk, h => by
    have eP : (sh3 g 20 21 22 i k) 23 0 = nI nP := by simp [sh3, upE, hP]
    rw [f_P_removeAt_L4, eP]
    by_cases e : k + 1 = nP
    · rw [e, if_pos (nI_le (Nat.le_refl _) (by omega)), show k = nP - 1 by omega]
    · rw [if_neg (nI_ge (show k + 1 < nP by omega) (by omega)), nI_m1, nI_clamp (n := k + 1) (by omega), nI_clamp (n := k) (by omega), nI_1]
      simp only [if_neg (nin (show k + 1 < 64 by omega) (show 64 ≤ 65 by decide)), if_neg (nin (show k < 64 by omega) (show 64 ≤ 65 by decide)), ob_b]
      rw [show xw (xw (xw (sh3 g 20 21 22 i k) 20 k (sh3 g 20 21 22 i k 20 (k + 1))) 21 k (xw (sh3 g 20 21 22 i k) 20 k (sh3 g 20 21 22 i k 20 (k + 1)) 21 (k + 1))) 22 k (xw (xw (sh3 g 20 21 22 i k) 20 k (sh3 g 20 21 22 i k 20 (k + 1))) 21 k (xw (sh3 g 20 21 22 i k) 20 k (sh3 g 20 21 22 i k 20 (k + 1)) 21 (k + 1)) 22 (k + 1)) = sh3 g 20 21 22 i (k + 1) from ?_]
      · exact P_removeL hn hP fu p i n (k + 1) (by omega) (by omega) (by omega)
      · funext m
        by_cases m20 : m = 20
        · subst m20; simp [xwR, sh3, upE, shf_k, shf_s, hi]
        by_cases m21 : m = 21
        · subst m21; simp [xwR, sh3, upE, shf_k, shf_s, hi]
        by_cases m22 : m = 22
        · subst m22; simp [xwR, sh3, upE, shf_k, shf_s, hi]
        simp [xwR, sh3, upE, m20, m21, m22]
theorem M_dropL {nQ : Nat} {g : xSt} (hn : nQ < 64) (hP : g 43 0 = nI nQ) (fu : Nat) (p : Int32) (i : Nat) : ∀ n k, i ≤ k → k ≤ nQ → nQ - k < n → f_M_drop_L12 fu p n (nI k) (sh3 g 60 61 62 i k) = some (nI nQ, sh3 g 60 61 62 i nQ)
  | 0, k, _, _, h => absurd h (by omega)
  | n + 1, k, hi, hk, h => by
    have eP : (sh3 g 60 61 62 i k) 43 0 = nI nQ := by simp [sh3, upE, hP]
    rw [f_M_drop_L12, eP]
    by_cases e : k = nQ
    · rw [e, if_pos (nI_le (Nat.le_refl _) (by omega))]
    · rw [if_neg (nI_ge (show k < nQ by omega) (by omega)), nI_1, nI_clamp (n := k + 1) (by omega), nI_clamp (n := k) (by omega)]
      simp only [if_neg (nin (show k + 1 < 64 by omega) (show 64 ≤ 65 by decide)), if_neg (nin (show k < 64 by omega) (show 64 ≤ 65 by decide)), ob_b]
      rw [show xw (xw (xw (sh3 g 60 61 62 i k) 60 k (sh3 g 60 61 62 i k 60 (k + 1))) 61 k (xw (sh3 g 60 61 62 i k) 60 k (sh3 g 60 61 62 i k 60 (k + 1)) 61 (k + 1))) 62 k (xw (xw (sh3 g 60 61 62 i k) 60 k (sh3 g 60 61 62 i k 60 (k + 1))) 61 k (xw (sh3 g 60 61 62 i k) 60 k (sh3 g 60 61 62 i k 60 (k + 1)) 61 (k + 1)) 62 (k + 1)) = sh3 g 60 61 62 i (k + 1) from ?_]
      · exact M_dropL hn hP fu p i n (k + 1) (by omega) (by omega) (by omega)
      · funext m
        by_cases m20 : m = 60
        · subst m20; simp [xwR, sh3, upE, shf_k, shf_s, hi]
        by_cases m21 : m = 61
        · subst m21; simp [xwR, sh3, upE, shf_k, shf_s, hi]
        by_cases m22 : m = 62
        · subst m22; simp [xwR, sh3, upE, shf_k, shf_s, hi]
        simp [xwR, sh3, upE, m20, m21, m22]
theorem drop_alike {nA nO nP : Nat} {g h : xSt} (S : Sim nA nO nP g h) (fu : Nat) (hf : 65 < fu) {i : Nat} (hi : i < nP) : ∃ g' h', f_P_removeAt fu (nI i) g = some g' ∧ f_M_drop fu (nI i) h = some h' ∧ FrC g g' ∧ FrM h h' ∧ Sim nA nO (nP - 1) g' h' ∧ h' 40 0 = h 40 0 := by
  obtain ⟨⟨⟨hA, hO, hP⟩, ⟨eA, eO, eP⟩, hx, hpk, hk0, hl, hm, hpa, hpo, hch⟩, E, B⟩ := S
  unfold Eqs at E
  obtain ⟨e41, e42, e43, e44, e45, e47, e48, e49, e50, e51, e52, e53, e54, e55, e56, e57, e59, e60, e61, e62, e66⟩ := E
  obtain ⟨m, rfl⟩ : ∃ m, nP = m + 1 := ⟨nP - 1, by omega⟩
  refine ⟨xw (sh3 g 20 21 22 i m) 23 0 (nI m), sh3 (xw h 43 0 (nI m)) 60 61 62 i m, ?_, ?_, ?_, ?_, ⟨?_, ?_, ?_⟩, ?_⟩
  · have := P_removeL hP eP fu (nI i) i fu i (Nat.le_refl _) (by omega) (by omega)
    rw [sh3_0 g (by decide) (by decide) (by decide)] at this
    rw [f_P_removeAt, nI_1, this, ob2_mk, ob_b, show m + 1 - 1 = m by omega]
    simp [sh3, upE, eP, nI_m1]
  · have := M_dropL (g := xw h 43 0 (nI m)) (nQ := m) (by omega) (xw_self _ _ _ _) fu (nI i) i fu i (Nat.le_refl _) (by omega) (by omega)
    rw [sh3_0 _ (by decide) (by decide) (by decide)] at this
    rw [f_M_drop, e43, eP, nI_m1, ob_b, this, ob2_mk]
  · exact (((((FrC.refl g).up (by decide)).up (by decide)).up (by decide)).xw (by decide))
  · refine ⟨fun q hq => ?_, ?_⟩
    · simp only [sh3, upE]; rw [if_neg (by omega), if_neg (by omega), if_neg (by omega), xw_reg h 0 _ (by omega)]
    · simp [sh3, upE, xwR]
  · refine ⟨⟨hA, hO, by omega⟩, ⟨by simp [xwE, sh3, upE, eA], by simp [xwE, sh3, upE, eO], by simp [xwE]⟩, by simp [xwE, sh3, upE, hx], by simpa [xwE, sh3, upE] using hpk, by simpa [xwE, sh3, upE] using hk0, by simpa [xwE, sh3, upE] using hl, by simpa [xwE, sh3, upE] using hm, fun j => ?_, fun j => ?_, by simpa [xwE, sh3, upE] using hch⟩
    · have : (xw (sh3 g 20 21 22 i m) 23 0 (nI m)) 20 j = shf (g 20) i m j := by simp [xwE, sh3, upE]
      rw [this]; unfold shf; split <;> exact hpa _
    · have : (xw (sh3 g 20 21 22 i m) 23 0 (nI m)) 21 j = shf (g 21) i m j := by simp [xwE, sh3, upE]
      rw [this]; unfold shf; split <;> exact hpo _
  · unfold Eqs; simp [xwR, sh3, upE, e41, e42, e43, e44, e45, e47, e48, e49, e50, e51, e52, e53, e54, e55, e56, e57, e59, e60, e61, e62, e66]
  · unfold Bits at *; simpa [xwE, sh3, upE] using B
  · simp [sh3, upE, xwE]
theorem op_undo {nA nO nP : Nat} {g h : xSt} (S : Sim nA nO nP g h) (fu : Nat) (hf : 65 < fu) (p1 : Int32) : Res (cdn (-1) (-1) 1 (-1)) g h (f_D_undo fu p1 g) (f_M_undo fu p1 h) := by
  have S' := S
  obtain ⟨⟨⟨hA, hO, hP⟩, ⟨eA, eO, eP⟩, -⟩, E, -⟩ := S
  have eP' : h 43 0 = nI nP := by rw [E.2.2.1, eP]
  have e62 : h 62 = g 22 := E.2.2.2.2.2.2.2.2.2.2.2.2.2.2.2.2.2.2.2.1
  by_cases r1 : ∃ j, j < nP ∧ p1 = nI j
  case neg =>
    have q := th_bad r1 hP
    refine Res.thr S' (k := 3) (v := 0) (b := 0) (by decide) (by decide) (by decide) ?_ ?_
    · rw [f_D_undo, eP, q.1, obT_3]
    · rw [f_M_undo, eP', q.2, ob2_mk, if_pos rfl, ob_b, if_neg (by rw [xw_self]; decide)]; rfl
  obtain ⟨j, hj, rfl⟩ := r1
  have q1 := th_ok hj hP
  have c := nI_clamp (n := j) (by omega)
  have gd := nin (show j < 64 by omega) (show 64 ≤ 65 by decide)
  obtain ⟨g', h', d1, d2, F1, F2, S2, hc⟩ := drop_alike (S'.code 0) fu hf hj
  refine Res.ret (v := g 22 j) (g' := g') (h' := h') (nA := nA) (nO := nO) (nP := nP - 1) ?_ ?_ F1 (((FrM.refl h).xw (by decide) (by decide)).trans F2) S2 (by rw [hc, xw_self])
  · rw [f_D_undo, eP, q1.1, obT_0, c, if_neg gd, d1, ob_b]
  · rw [f_M_undo, eP', q1.2, ob2_mk, if_neg (by decide), ob_b, if_pos (by rw [xw_self]; decide), c, if_neg gd, d2, ob_b, xw_reg h 0 (0 : Int32) (show 62 ≠ 40 by decide), e62]
theorem nI_0m (k : Nat) : nI k + (-1 : Int32) = nI k - 1 := by grind
theorem late_alike {nA nO : Nat} (fu : Nat) (hf : 65 < fu) {a : Nat} (ha : a < 8) (q : Int32) : ∀ i n nP acc g h, Sim nA nO nP g h → i ≤ nP → i < n → ∃ r x g' h' nP', f_D_late_L39 fu (nI a) q n acc (nI i - 1) g = some (r, x, g') ∧ f_M_late_L58 fu (nI a) q n acc (nI i - 1) h = some (r, x, h') ∧ FrC g g' ∧ FrM h h' ∧ Sim nA nO nP' g' h' ∧ h' 40 0 = h 40 0
  | _, 0, _, _, _, _, _, _, hn => absurd hn (by omega)
  | 0, n + 1, nP, acc, g, h, S, hi, hn => by
    have e : (nI 0 - 1 : Int32) < 0 := by decide
    exact ⟨acc, nI 0 - 1, g, h, nP, by rw [f_D_late_L39, if_pos e], by rw [f_M_late_L58, if_pos e], FrC.refl g, FrM.refl h, S, rfl⟩
  | i + 1, n + 1, nP, acc, g, h, S, hi, hn => by
    have S' := S
    obtain ⟨⟨⟨hA, hO, hP⟩, ⟨eA, eO, eP⟩, hx, hpk, hk0, hl, hm, hpa, hpo, hch⟩, E, B⟩ := S
    have e60 : h 60 = g 20 := E.2.2.2.2.2.2.2.2.2.2.2.2.2.2.2.2.2.1
    have e61 : h 61 = g 21 := E.2.2.2.2.2.2.2.2.2.2.2.2.2.2.2.2.2.2.1
    obtain ⟨o, ho, eo⟩ := hpo i
    have c := nI_clamp (n := i) (by omega)
    have gd := nin (show i < 64 by omega) (show 64 ≤ 65 by decide)
    rw [f_D_late_L39, f_M_late_L58, nI_m1, if_neg (nI_nneg i (by omega)), if_neg (nI_nneg i (by omega)), c, e60, e61, eo, D_isUnfit ha ho (hl o), show (4 : Int32) = nI 4 from rfl, M_passes S' ha ho (by decide) (by decide), nI_0m]
    simp only [if_neg gd, ob2_mk]
    by_cases q1 : g 20 i = nI a
    · rw [if_pos q1, if_pos q1]
      by_cases q2 : obs g a o = 0 ∨ obs g a o = 5
      · have q3 : obs g a o = 0 ∨ nI 4 < obs g a o := by
          rcases q2 with e | e
          · exact Or.inl e
          · rw [e]; exact Or.inr (by decide)
        rw [if_pos q2, if_pos rfl, if_pos q3, if_neg (by decide)]
        exact late_alike fu hf ha q i n nP acc g h S' (by omega) (by omega)
      · have q3 : ¬ (obs g a o = 0 ∨ nI 4 < obs g a o) := by
          rcases obs_v g a o with e | e | e | e | e | e <;> rw [e] at q2 ⊢ <;> first | decide | exact absurd (Or.inl rfl) q2 | exact absurd (Or.inr rfl) q2
        rw [if_neg q2, if_neg (by decide), if_neg q3, if_pos rfl]
        obtain ⟨g1, h1, d1, d2, F1, F2, S2, hc⟩ := drop_alike S' fu hf (show i < nP by omega)
        obtain ⟨r, x, g', h', nP', k1, k2, F3, F4, S3, hc2⟩ := late_alike fu hf ha q i n (nP - 1) (acc + 1) g1 h1 S2 (by omega) (by omega)
        rw [d1, d2, ob_b, ob_b]
        exact ⟨r, x, g', h', nP', k1, k2, F1.trans F3, F2.trans F4, S3, by rw [hc2, hc]⟩
    · rw [if_neg q1, if_neg q1]
      exact late_alike fu hf ha q i n nP acc g h S' (by omega) (by omega)
theorem op_late {nA nO nP : Nat} {g h : xSt} (S : Sim nA nO nP g h) (fu : Nat) (hf : 65 < fu) (p1 p2 : Int32) : Res (cdn 2 (-1) 1 (-1)) g h (f_D_late fu p1 p2 g) (f_M_late fu p1 p2 h) := by
  have S' := S
  obtain ⟨⟨⟨hA, hO, hP⟩, ⟨eA, eO, eP⟩, hx, hpk, hk0, hl, hm, hpa, hpo, hch⟩, E, B⟩ := S
  unfold Eqs at E
  obtain ⟨e41, e42, e43, e44, e45, e47, e48, e49, e50, e51, e52, e53, e54, e55, e56, e57, e59, e60, e61, e62, e66⟩ := E
  have eA' : h 41 0 = nI nA := by rw [e41, eA]
  by_cases r1 : ∃ j, j < nA ∧ p1 = nI j
  case neg =>
    have q := th_bad r1 (show nA ≤ 64 by omega)
    refine Res.thr S' (k := 3) (v := 0) (b := 0) (by decide) (by decide) (by decide) ?_ ?_
    · rw [f_D_late, eA, q.1, obT_3]
    · rw [f_M_late, M_isArrival eA' q.2 (Or.inl rfl), ob2_mk, if_pos rfl, ob_b, if_neg (by rw [xw_self]; decide)]; rfl
  obtain ⟨j, hj, rfl⟩ := r1
  have q1 := th_ok hj (show nA ≤ 64 by omega)
  have m1 := M_isArrival eA' q1.2 (Or.inr rfl)
  by_cases r2 : ¬ p2 < 0 ∧ p2 ≤ 1000
  case neg =>
    refine Res.thr S' (k := 1) (v := 0) (b := 0) (by decide) (by decide) (by decide) ?_ ?_
    · rw [f_D_late, eA, q1.1, obT_0, (rg_bad r2).1, obT_1]
    · rw [f_M_late, m1, ob2_mk, if_neg (by decide), (rg_bad r2).2, ob2_mk, if_pos rfl, ob_b, if_neg (by rw [xw_self]; decide)]; rfl
  have q2 := rg_ok r2.1 r2.2
  have c := nI_clamp (n := j) (by omega)
  have gd := nin (show j < 8 by omega) (show 8 ≤ 65 by decide)
  have S1 : Sim nA nO nP (xw g 26 j p2) (xw (xw h 40 0 0) 49 j p2) := by
    refine ⟨?_, ?_, ?_⟩
    · have W := S'.1
      unfold WF at *; simpa [xwE] using W
    · unfold Eqs; simp [xwR, e41, e42, e43, e44, e45, e47, e48, e49, e50, e51, e52, e53, e54, e55, e56, e57, e59, e60, e61, e62, e66]
    · unfold Bits at *; simpa [xwE] using B
  obtain ⟨r, x, g', h', nP', k1, k2, F1, F2, S2, hc⟩ := late_alike fu hf (show j < 8 by omega) p2 nP fu nP 0 _ _ S1 (Nat.le_refl _) (by omega)
  refine Res.ret (v := r) (g' := g') (h' := h') (nA := nA) (nO := nO) (nP := nP') ?_ ?_ (((FrC.refl g).xw (by decide)).trans F1) ((((FrM.refl h).xw (by decide) (by decide)).xw (by decide) (by decide)).trans F2) S2 (by rw [hc]; simp [xwE])
  · rw [f_D_late, eA, q1.1, obT_0, q2.1, obT_0, c, if_neg gd, ob_b, show (xw g 26 j p2) 23 0 = nI nP by simp [xwE, eP], k1, ob3_mk]
  · rw [f_M_late, m1, ob2_mk, if_neg (by decide), q2.2, ob2_mk, if_neg (by decide), ob_b, if_pos (by rw [xw_self]; decide), c, if_neg gd, ob_b, show (xw (xw h 40 0 0) 49 j p2) 43 0 = nI nP by simp [xwE, e43, eP], k2, ob3_mk]
