/-! the search: two walks in step -/
section
variable {N nA nO : Nat} {A O gv wv : Nat → Nat}
def Rel (N nA nO : Nat) (A O gv wv : Nat → Nat) (g h : xSt) (c : Nat) (t x : Nat → Nat) : Prop :=
  CC N nA nO A O gv wv g ∧ MC N nA nO A O gv wv h ∧ CR N nA nO A O gv wv g t ∧ c ≤ N ∧ (∀ j, j < c → h 65 j = nI (x j) ∧ g 14 j = nI (x j) - 1 ∧ x j ≤ 7) ∧ (∀ j, c ≤ j → j < N → t j = 0) ∧ (∀ j, j + 1 < c → t j = x j) ∧ (∀ j, j < c → x j + us A t (A j) j ≤ gv (A j) + 1 ∧ x j + us O t (O j) j ≤ wv (O j) + 1)
theorem nI_p1 {x : Nat} (h : x ≤ 7) : nI x - 1 < 0 ↔ x = 0 := by
  match x, h with
  | 0, _ => exact ⟨fun _ => rfl, fun _ => by decide⟩
  | y + 1, h => rw [nI_m1]; exact ⟨fun q => absurd q (nI_nneg y (by omega)), fun q => by omega⟩
theorem back_alike (fu : Nat) (T : Stt N nA nO A O gv wv) (p lim : Int32) {h : xSt} {x : Nat → Nat} : ∀ c n g t, Rel N nA nO A O gv wv g h c t x → c < n → ∃ c' g' t', c' ≤ c ∧ f_S_backToUntried_L2 fu p n (nI c - 1) g = some (nI c' - 1, g') ∧ Rel N nA nO A O gv wv g' h c' t' x ∧ SF g g' ∧ (c' = 0 ∨ (1 ≤ c' ∧ 1 ≤ x (c' - 1) ∧ t' (c' - 1) = 0)) ∧ ∀ best m, f_M_lookAtAll_L29 fu lim (m + (c - c')) best (nI c - 1) h = f_M_lookAtAll_L29 fu lim m best (nI c' - 1) h
  | _, 0, _, _, _, hn => absurd hn (by omega)
  | 0, n + 1, g, t, R, hn => by
    refine ⟨0, g, t, Nat.le_refl _, ?_, R, SF.refl g, Or.inl rfl, fun best m => rfl⟩
    rw [f_S_backToUntried_L2, if_pos (by decide)]; rfl
  | k + 1, n + 1, g, t, R, hn => by
    obtain ⟨C, M, CRg, hc, hx, hz, ht, hcap⟩ := R
    have hk : k < N := by omega
    have tN := T.1
    obtain ⟨g1, p1, p2, p3⟩ := S_putBack T C CRg hk
    obtain ⟨x1, x2, x3⟩ := hx k (by omega)
    have e14 : g1 14 = g 14 := p3 14 (by decide) (by decide) (by decide) (by decide)
    have uo : ∀ B b j, j ≤ k → us B (upN t k 0) b j = us B t b j := fun B b j hj => us_congr B b fun i hi => upN_n t 0 (by omega)
    rw [f_S_backToUntried_L2, nI_m1, if_neg (nI_nneg k (by omega)), p1, ob_b, nI_clamp (n := k) (by omega), if_neg (nin (show k < 64 by omega) (by decide)), e14, x2, nI_0m]
    by_cases e0 : x k = 0
    · rw [if_pos ((nI_p1 x3).2 e0)]
      obtain ⟨c', g', t', d1, d2, d3, d4, d5, d6⟩ := back_alike fu T p lim k n g1 (upN t k 0) ⟨C.sf p3, M, p2, by omega, fun j hj => by rw [e14]; exact hx j (by omega), fun j h1 h2 => by
          by_cases ej : j = k
          · subst ej; exact upN_s _ _ _
          · rw [upN_n t 0 ej]; exact hz j (by omega) h2, fun j hj => by rw [upN_n t 0 (by omega)]; exact ht j (by omega), fun j hj => by rw [uo A _ j (by omega), uo O _ j (by omega)]; exact hcap j (by omega)⟩ (by omega)
      refine ⟨c', g', t', by omega, d2, d3, p3.trans d4, d5, fun best m => ?_⟩
      rw [show m + (k + 1 - c') = (m + (k - c')) + 1 by omega, f_M_lookAtAll_L29, if_neg (nI_nneg k (by omega)), M.1, if_neg (nI_ne (show k ≠ N by omega) (by omega) (by omega)), nI_clamp (n := k) (by omega), if_neg (nin (show k < 65 by omega) (by decide)), x1, e0, if_pos (show nI 0 = (0 : Int32) from rfl), nI_0m]
      exact d6 best m
    · rw [if_neg (fun q => e0 ((nI_p1 x3).1 q))]
      refine ⟨k + 1, g1, upN t k 0, Nat.le_refl _, by rw [nI_m1], ⟨C.sf p3, M, p2, hc, fun j hj => by rw [e14]; exact hx j hj, fun j h1 h2 => by rw [upN_n t 0 (by omega)]; exact hz j h1 h2, fun j hj => by rw [upN_n t 0 (by omega)]; exact ht j hj, fun j hj => by rw [uo A _ j (by omega), uo O _ j (by omega)]; exact hcap j hj⟩, p3, Or.inr ⟨by omega, by simp only [Nat.add_sub_cancel]; omega, by simp only [Nat.add_sub_cancel]; exact upN_s _ _ _⟩, fun best m => by rw [Nat.sub_self, Nat.add_zero, nI_m1]⟩
def SF2 (g g' : xSt) : Prop := ∀ m, m ≠ 11 → m ≠ 12 → m ≠ 13 → m ≠ 14 → m ≠ 15 → m ≠ 17 → m ≠ 18 → m ≠ 19 → g' m = g m
theorem SF2.refl (g : xSt) : SF2 g g := fun _ _ _ _ _ _ _ _ _ => rfl
theorem SF2.trans {a b c : xSt} (h : SF2 a b) (k : SF2 b c) : SF2 a c := fun m h1 h2 h3 h4 h5 h6 h7 h8 => (k m h1 h2 h3 h4 h5 h6 h7 h8).trans (h m h1 h2 h3 h4 h5 h6 h7 h8)
theorem SF.sf2 {g g' : xSt} (f : SF g g') : SF2 g g' := fun m h1 h2 h3 h4 h5 h6 h7 h8 => f m h1 h2 h3 h6
theorem SF2.xw {g g' : xSt} (h : SF2 g g') {a i : Nat} {v : Int32} (ha : a = 14 ∨ a = 15 ∨ a = 17 ∨ a = 18 ∨ a = 19) : SF2 g (xw g' a i v) := fun m h1 h2 h3 h4 h5 h6 h7 h8 => by
  rw [xw_reg g' i v (by omega)]; exact h m h1 h2 h3 h4 h5 h6 h7 h8
theorem SF2.up {g g' : xSt} (h : SF2 g g') {f : Nat → Int32} : SF2 g (va_up g' 15 f) := fun m h1 h2 h3 h4 h5 h6 h7 h8 => by
  rw [upE, if_neg (by omega)]; exact h m h1 h2 h3 h4 h5 h6 h7 h8
theorem CC.sf2 {g g' : xSt} (C : CC N nA nO A O gv wv g) (F : SF2 g g') : CC N nA nO A O gv wv g' := by
  unfold CC at *
  rw [F 16 (by decide) (by decide) (by decide) (by decide) (by decide) (by decide) (by decide) (by decide), F 7 (by decide) (by decide) (by decide) (by decide) (by decide) (by decide) (by decide) (by decide), F 8 (by decide) (by decide) (by decide) (by decide) (by decide) (by decide) (by decide) (by decide), F 9 (by decide) (by decide) (by decide) (by decide) (by decide) (by decide) (by decide) (by decide), F 10 (by decide) (by decide) (by decide) (by decide) (by decide) (by decide) (by decide) (by decide)]
  exact C
theorem CR.same {g g' : xSt} {t : Nat → Nat} (R : CR N nA nO A O gv wv g t) (h1 : g' 11 = g 11) (h2 : g' 12 = g 12) (h3 : g' 13 = g 13) (h4 : g' 17 = g 17) : CR N nA nO A O gv wv g' t := by
  unfold CR at *; rw [h1, h2, h3, h4]; exact R
theorem wt_congr {t t' : Nat → Nat} (h : ∀ j, j < N → t j = t' j) : wt N nO A O gv wv t = wt N nO A O gv wv t' := by
  unfold wt
  rw [nsum_congr (f := fun j => 2 * t j + (if t j ≠ 0 ∧ t j = gv (A j) then 1 else 0)) (f' := fun j => 2 * t' j + (if t' j ≠ 0 ∧ t' j = gv (A j) then 1 else 0)) fun i hi => by simp only [h i hi], nsum_congr (f := fun o => if us O t o N = wv o then 3 else 0) (f' := fun o => if us O t' o N = wv o then 3 else 0) fun o ho => by rw [us_congr O o h]]
def Rg (g : xSt) : Prop := ∀ j, ∃ v, v ≤ 6 ∧ g 15 j = nI v
def LookOut (g h : xSt) (D M : Option (Int32 × xSt)) : Prop := ∃ r g' h', D = some (r, g') ∧ M = some (r, h') ∧ (r = 0 ∨ r = 1) ∧ h' 66 = g' 15 ∧ Rg g' ∧ h' 45 = upd (h 45) 0 (g' 19 0) ∧ SF2 g g' ∧ SMs h h'
theorem upd_upd (f : Nat → Int32) (i : Nat) (u v : Int32) : upd (upd f i u) i v = upd f i v := by
  funext j; unfold upd; split <;> rfl
theorem upd_id (f : Nat → Int32) (i : Nat) : upd f i (f i) = f := by
  funext j; unfold upd; split <;> simp_all
theorem LookOut.pre {g h g1 h1 : xSt} {D M : Option (Int32 × xSt)} (L : LookOut g1 h1 D M) (F : SF2 g g1) (G : SMs h h1) (v : Int32) (e : h1 45 = upd (h 45) 0 v) : LookOut g h D M := by
  obtain ⟨r, g', h', a1, a2, a3, a4, a5, a6, a7, a8⟩ := L
  exact ⟨r, g', h', a1, a2, a3, a4, a5, by rw [a6, e, upd_upd], F.trans a7, G.trans a8⟩
theorem fuel_a {K m c k N : Nat} (h : 70 * (K + 1) + 70 ≤ m + 1 + 1 + (c - (k + 1))) (h2 : c ≤ N) (h3 : N ≤ 64) : 70 * K + 70 ≤ m := by omega
theorem fuel_b {K m c k N : Nat} (h : 70 * (K + 1) + 70 ≤ m + 1 + (c - (k + 1))) (h2 : c ≤ N) (h3 : N ≤ 64) : 70 * K + 70 ≤ m := by omega
theorem look_alike (fu : Nat) (hf : 65 < fu) (T : Stt N nA nO A O gv wv) (lim : Nat) (hl : lim ≤ 20000) : ∀ K n m g h c t x, Rel N nA nO A O gv wv g h c t x → h 66 = g 15 → Rg g → K ≤ lim → g 19 0 = nI (lim - K) → h 45 0 = nI (lim - K) → K < n → 70 * K + 70 ≤ m →
    LookOut g h (f_S_lookAtAll_L36 fu (nI lim) n (nI c - 1) g) (f_M_lookAtAll_L29 fu (nI lim) m (g 18 0) (nI c - 1) h)
  | _, 0, _, _, _, _, _, _, _, _, _, _, _, _, hn, _ => absurd hn (by omega)
  | K, n + 1, m, g, h, c, t, x, R, e66, rg, hK, e19, e45, hn, hm => by
    have tN := T.1
    have hcN : c ≤ N := R.2.2.2.1
    obtain ⟨c', g1, t1, b1, b2, b3, b4, b5, b6⟩ := back_alike fu T (nI c - 1) (nI lim) c fu g t R (by omega)
    obtain ⟨m', rfl⟩ : ∃ m', m = m' + 1 + (c - c') := ⟨m - 1 - (c - c'), by omega⟩
    rw [b6, f_S_lookAtAll_L36, e19, f_S_backToUntried, b2, ob2_mk, ob2_mk]
    have s15 : g1 15 = g 15 := b4 15 (by decide) (by decide) (by decide) (by decide)
    have s18 : g1 18 = g 18 := b4 18 (by decide) (by decide) (by decide) (by decide)
    have s19 : g1 19 = g 19 := b4 19 (by decide) (by decide) (by decide) (by decide)
    have rg1 : Rg g1 := fun j => by rw [s15]; exact rg j
    have u45 : h 45 = upd (h 45) 0 (g1 19 0) := by rw [s19, e19, ← e45, upd_id]
    rcases b5 with hc0 | ⟨hc1, hx1, ht1⟩
    · subst hc0
      have w1 : ¬ (0 : Int32) ≤ nI 0 - 1 := by decide
      have w2 : (nI 0 - 1 : Int32) < 0 := by decide
      rw [if_neg w1, if_neg w1, ite_self, f_M_lookAtAll_L29, if_pos w2]
      exact ⟨1, g1, h, rfl, rfl, Or.inr rfl, by rw [s15]; exact e66, rg1, u45, b4.sf2, SMs.refl h⟩
    · obtain ⟨k, rfl⟩ : ∃ k, c' = k + 1 := ⟨c' - 1, by omega⟩
      simp only [Nat.add_sub_cancel] at hx1 ht1
      obtain ⟨C, M, CRg, hc, hx, hz, ht, hcap⟩ := b3
      have hk : k < N := by omega
      obtain ⟨x1, x2, x3⟩ := hx k (by omega)
      obtain ⟨u, eu⟩ : ∃ u, x k = u + 1 := ⟨x k - 1, by omega⟩
      have w1 : (0 : Int32) ≤ nI k := nI_le (a := 0) (by omega) (by omega)
      have w3 : ¬ nI (u + 1) = 0 := fun q => by rw [nI_z (by omega)] at q; omega
      have gk64 := nin (show k < 64 by omega) (show 64 ≤ 65 by decide)
      have gk65 := nin (show k < 65 by omega) (show 65 ≤ 65 by decide)
      rw [nI_m1, if_pos w1, if_pos w1, f_M_lookAtAll_L29, if_neg (nI_nneg k (by omega)), M.1, if_neg (nI_ne (show k ≠ N by omega) (by omega) (by omega)), nI_clamp (n := k) (by omega), if_neg gk65, x1, eu, if_neg w3, e45]
      by_cases eK : K = 0
      · subst eK
        rw [Nat.sub_zero, if_pos (nI_le (Nat.le_refl _) (by omega)), if_pos rfl]
        exact ⟨0, g1, h, rfl, rfl, Or.inl rfl, by rw [s15]; exact e66, rg1, u45, b4.sf2, SMs.refl h⟩
      · obtain ⟨K, rfl⟩ : ∃ K', K = K' + 1 := ⟨K - 1, by omega⟩
        rw [if_neg (nI_ge (show lim - (K + 1) < lim by omega) (by omega)), if_neg (nI_ne (show lim - (K + 1) ≠ lim by omega) (by omega) (by omega)), nI_1 (lim - (K + 1)), show lim - (K + 1) + 1 = lim - K by omega]
        have zz : ∀ j, k ≤ j → j < N → t1 j = 0 := fun j h1 h2 => by
          by_cases ej : j = k
          · rw [ej]; exact ht1
          · exact hz j (by omega) h2
        obtain ⟨cA, cO⟩ := hcap k (by omega)
        rw [eu] at cA cO
        have lA := us_tail A t1 (A k) (show k ≤ N by omega) zz
        have lO := us_tail O t1 (O k) (show k ≤ N by omega) zz
        obtain ⟨g2, q1, q2, q3⟩ := S_take T C CRg hk ht1 (u := u) (by omega) (by omega)
        have e14 : g2 14 = g1 14 := q3 14 (by decide) (by decide) (by decide) (by decide)
        have e14k : g1 14 k = nI u := by rw [x2, eu, nI_m1]
        rw [if_neg gk64, e14k, q1, ob_b, if_neg gk64, if_neg gk64, e14, e14k, ob_b]
        have F3 : SF2 g (xw g2 14 k (nI u - 1)) := (b4.sf2.trans q3.sf2).xw (by decide)
        have CR3 : CR N nA nO A O gv wv (xw g2 14 k (nI u - 1)) (upN t1 k u) := q2.same (by simp [xwR]) (by simp [xwR]) (by simp [xwR]) (by simp [xwR])
        have CC3 : CC N nA nO A O gv wv (xw g2 14 k (nI u - 1)) := (C.sf q3).sf2 ((SF2.refl g2).xw (by decide))
        have h14 : ∀ j, (xw g2 14 k (nI u - 1)) 14 j = if j = k then nI u - 1 else g1 14 j := fun j => by simp [xwE, e14]
        have h15 : (xw g2 14 k (nI u - 1)) 15 = g 15 := by rw [xw_reg _ _ _ (by decide), q3 15 (by decide) (by decide) (by decide) (by decide), s15]
        have h18 : (xw g2 14 k (nI u - 1)) 18 = g 18 := by rw [xw_reg _ _ _ (by decide), q3 18 (by decide) (by decide) (by decide) (by decide), s18]
        have h19 : (xw g2 14 k (nI u - 1)) 19 0 = nI (lim - (K + 1)) := by rw [xw_reg _ _ _ (by decide), q3 19 (by decide) (by decide) (by decide) (by decide), s19, e19]
        generalize xw g2 14 k (nI u - 1) = g3 at *
        rw [ob_b, show (xw h 45 0 (nI (lim - K))) 65 k = nI (u + 1) by rw [xw_reg _ _ _ (by decide), x1, eu], nI_m1, if_neg gk65, if_neg gk65, ob_b]
        have G2 : SMs h (xw (xw h 45 0 (nI (lim - K))) 65 k (nI u)) := ((SMs.refl h).xw (by decide)).xw (by decide)
        have MC2 := M.sms G2
        have p65 : ∀ j, (xw (xw h 45 0 (nI (lim - K))) 65 k (nI u)) 65 j = if j = k then nI u else h 65 j := fun j => by simp [xwE]
        have p45 : (xw (xw h 45 0 (nI (lim - K))) 65 k (nI u)) 45 = upd (h 45) 0 (nI (lim - K)) := by simp [xwR]
        have p66 : (xw (xw h 45 0 (nI (lim - K))) 65 k (nI u)) 66 = g 15 := by simp [xwR, e66]
        generalize xw (xw h 45 0 (nI (lim - K))) 65 k (nI u) = h2 at *
        have q65 : ∀ j, j < k + 1 → h2 65 j = nI (upN t1 k u j) := fun j hj => by
          rw [p65]
          by_cases ej : j = k
          · subst ej; rw [if_pos rfl, upN_s]
          · rw [if_neg ej, upN_n t1 u ej, (hx j (by omega)).1, ht j (by omega)]
        have t2z : ∀ j, k + 1 ≤ j → j < N → upN t1 k u j = 0 := fun j h1 h2 => by rw [upN_n t1 u (by omega)]; exact hz j h1 h2
        have ub : ∀ B b j, j ≤ k → us B (upN t1 k u) b j = us B t1 b j := fun B b j hj => us_congr B b fun i hi => upN_n t1 u (by omega)
        simp only [CC3.1, MC2.1, nI_1 k]
        have X14 : ∀ j, j < k + 1 → g3 14 j = nI (upN t1 k u j) - 1 := fun j hj => by
          rw [h14]
          by_cases ej : j = k
          · subst ej; rw [if_pos rfl, upN_s]
          · rw [if_neg ej, upN_n t1 u ej, (hx j (by omega)).2.1, ht j (by omega)]
        have X7 : ∀ j, j < k + 1 → upN t1 k u j ≤ 7 := fun j hj => by
          by_cases ej : j = k
          · subst ej; rw [upN_s]; omega
          · rw [upN_n t1 u ej, ht j (by omega)]; exact (hx j (by omega)).2.2
        have Xcap : ∀ j, j < k + 1 → upN t1 k u j + us A (upN t1 k u) (A j) j ≤ gv (A j) + 1 ∧ upN t1 k u j + us O (upN t1 k u) (O j) j ≤ wv (O j) + 1 := fun j hj => by
          rw [ub A _ j (by omega), ub O _ j (by omega)]
          by_cases ej : j = k
          · subst ej; rw [upN_s]; omega
          · rw [upN_n t1 u ej, ht j (by omega)]; exact hcap j (by omega)
        by_cases eN : k + 1 = N
        · rw [if_pos (nI_le (show N ≤ k + 1 by omega) (by omega)), if_pos (nI_le (show N ≤ k + 1 by omega) (by omega))]
          obtain ⟨m2, rfl⟩ : ∃ m2, m' = m2 + 1 := ⟨m' - 1, by omega⟩
          have hm2 : 70 * K + 70 ≤ m2 := fuel_a hm hcN tN
          have hn2 : K < n := by omega
          have hK2 : K ≤ lim := by omega
          obtain ⟨h3, v1, v2⟩ := M_worth fu hf T (x := upN t1 k u) (fun j hj => X7 j (by omega)) MC2 (fun j hj => q65 j (by omega)) (fun o ho => (CR3.2.1 o ho).1)
          have MC3 := MC2.sms v2.sms
          have G3 : SMs h h3 := G2.trans v2.sms
          have r65 : h3 65 = h2 65 := v2 65 (by decide)
          have r66 : h3 66 = g 15 := by rw [v2 66 (by decide), p66]
          have r45 : h3 45 = upd (h 45) 0 (nI (lim - K)) := by rw [v2 45 (by decide), p45]
          have hw17 : g3 17 0 = nI (wt N nO A O gv wv (upN t1 k u)) := CR3.2.2.2
          rw [f_M_lookAtAll_L29, if_neg (nI_nneg (k + 1) (by omega)), MC2.1, if_pos (by rw [eN]), v1, ob2_mk, f_S_chooseIfBetter, hw17, h18, pk_m1]
          by_cases bt : nI (wt N nO A O gv wv (upN t1 k u)) ≤ g 18 0
          · rw [if_pos bt, if_pos bt, ob_b, h19, nI_1 (lim - (K + 1)), show lim - (K + 1) + 1 = lim - K by omega, ob_b]
            have L := look_alike fu hf T lim hl K n m2 (xw g3 19 0 (nI (lim - K))) h3 (k + 1) (upN t1 k u) (upN t1 k u) ⟨CC3.sf2 ((SF2.refl g3).xw (by decide)), MC3, CR3.same (xw_reg _ _ _ (by decide)) (xw_reg _ _ _ (by decide)) (xw_reg _ _ _ (by decide)) (xw_reg _ _ _ (by decide)), by omega, fun j hj => ⟨by rw [r65]; exact q65 j hj, by rw [xw_reg _ _ _ (by decide)]; exact X14 j hj, X7 j hj⟩, t2z, fun j hj => rfl, Xcap⟩ (by rw [r66, xw_reg _ _ _ (by decide), h15]) (fun j => by rw [xw_reg _ _ _ (by decide), h15]; exact rg j) hK2 (xw_self _ _ _ _) (by rw [r45]; simp [upd]) hn2 hm2
            rw [nI_m1, xw_reg g3 0 _ (show 18 ≠ 19 by decide), h18] at L
            exact L.pre (F3.xw (by decide)) G3 _ r45
          · have cN : ¬ (nI N < 0 ∨ 64 < (nI N).toNatClampNeg ∨ 64 < (nI N).toNatClampNeg) := by
              rw [nI_clamp (n := N) (by omega)]
              intro q
              rcases q with q | q | q
              · exact nI_nneg N (by omega) q
              · omega
              · omega
            have cp := M_copy fu tN (nI lim) (nI (wt N nO A O gv wv (upN t1 k u))) (nI (wt N nO A O gv wv (upN t1 k u))) (nI (k + 1)) MC3.1 fu 0 (by omega) (by omega)
            rw [show (fun j => if j < 0 then h3 65 j else h3 66 j) = h3 66 by funext j; simp, up_id, show nI 0 = (0 : Int32) from rfl] at cp
            rw [if_neg bt, if_neg bt, ob_b, cp, ob2_mk, xw_reg g3 0 _ (show 16 ≠ 18 by decide), CC3.1, if_neg cN, nI_clamp (n := N) (by omega), ob_b, ob_b, xw_reg g3 0 _ (show 13 ≠ 18 by decide), xw_reg g3 0 _ (show 15 ≠ 18 by decide)]
            have z19 : (va_up (xw g3 18 0 (nI (wt N nO A O gv wv (upN t1 k u)))) 15 (va_cpy (g3 13) (g3 15) 0 0 N)) 19 0 = nI (lim - (K + 1)) := by rw [upE, if_neg (by decide), xw_reg _ _ _ (by decide), h19]
            rw [z19, nI_1 (lim - (K + 1)), show lim - (K + 1) + 1 = lim - K by omega, ob_b]
            have F5 : SF2 g3 (xw (va_up (xw g3 18 0 (nI (wt N nO A O gv wv (upN t1 k u)))) 15 (va_cpy (g3 13) (g3 15) 0 0 N)) 19 0 (nI (lim - K))) := (((SF2.refl g3).xw (by decide)).up).xw (by decide)
            have y15 : (xw (va_up (xw g3 18 0 (nI (wt N nO A O gv wv (upN t1 k u)))) 15 (va_cpy (g3 13) (g3 15) 0 0 N)) 19 0 (nI (lim - K))) 15 = fun j => if j < N then nI (upN t1 k u j) else g 15 j := by
              rw [xw_reg _ _ _ (by decide), upE, if_pos rfl]
              funext j
              unfold va_cpy
              by_cases ej : j < N
              · rw [if_pos (by omega), if_pos ej, Nat.zero_add, Nat.sub_zero]; exact CR3.2.2.1 j ej
              · rw [if_neg (by omega), if_neg ej, h15]
            have y18 : (xw (va_up (xw g3 18 0 (nI (wt N nO A O gv wv (upN t1 k u)))) 15 (va_cpy (g3 13) (g3 15) 0 0 N)) 19 0 (nI (lim - K))) 18 0 = nI (wt N nO A O gv wv (upN t1 k u)) := by
              rw [xw_reg _ _ _ (by decide), upE, if_neg (by decide), xw_self]
            have yy : ∀ m, m ≠ 15 → m ≠ 18 → m ≠ 19 → (xw (va_up (xw g3 18 0 (nI (wt N nO A O gv wv (upN t1 k u)))) 15 (va_cpy (g3 13) (g3 15) 0 0 N)) 19 0 (nI (lim - K))) m = g3 m := fun m a1 a2 a3 => by
              rw [xw_reg _ _ _ a3, upE, if_neg a1, xw_reg _ _ _ a2]
            have y19 : (xw (va_up (xw g3 18 0 (nI (wt N nO A O gv wv (upN t1 k u)))) 15 (va_cpy (g3 13) (g3 15) 0 0 N)) 19 0 (nI (lim - K))) 19 0 = nI (lim - K) := xw_self _ _ _ _
            generalize xw (va_up (xw g3 18 0 (nI (wt N nO A O gv wv (upN t1 k u)))) 15 (va_cpy (g3 13) (g3 15) 0 0 N)) 19 0 (nI (lim - K)) = g5 at *
            have G5 : SMs h3 (va_up h3 66 (fun j => if j < N then h3 65 j else h3 66 j)) := fun m a1 a2 a3 a4 => by rw [upE, if_neg a3]
            have L := look_alike fu hf T lim hl K n m2 g5 (va_up h3 66 (fun j => if j < N then h3 65 j else h3 66 j)) (k + 1) (upN t1 k u) (upN t1 k u) ⟨CC3.sf2 F5, MC3.sms G5, CR3.same (yy 11 (by decide) (by decide) (by decide)) (yy 12 (by decide) (by decide) (by decide)) (yy 13 (by decide) (by decide) (by decide)) (yy 17 (by decide) (by decide) (by decide)), by omega, fun j hj => ⟨by rw [upE, if_neg (by decide), r65]; exact q65 j hj, by rw [yy 14 (by decide) (by decide) (by decide)]; exact X14 j hj, X7 j hj⟩, t2z, fun j hj => rfl, Xcap⟩ (by
              rw [upE, if_pos rfl, y15]
              funext j
              by_cases ej : j < N
              · rw [if_pos ej, if_pos ej, r65]; exact q65 j (by omega)
              · rw [if_neg ej, if_neg ej, r66]) (fun j => by
              rw [y15]
              by_cases ej : j < N
              · exact ⟨upN t1 k u j, CR_t6 T CR3 ej, by simp [ej]⟩
              · obtain ⟨v, v1, v2⟩ := rg j
                exact ⟨v, v1, by simp [ej, v2]⟩) hK2 y19 (by rw [upE, if_neg (by decide), r45]; simp [upd]) hn2 hm2
            rw [nI_m1, y18] at L
            exact L.pre (F3.trans F5) (G3.trans G5) (nI (lim - K)) (by rw [upE, if_neg (by decide), r45])
        · have hk1 : k + 1 < N := by omega
          have hm2 : 70 * K + 70 ≤ m' := fuel_b hm hcN tN
          have hn2 : K < n := by omega
          have hK2 : K ≤ lim := by omega
          have gr1 := S_greatest T CC3 CR3 hk1
          obtain ⟨a1, a2⟩ := T.2.2.2.1 (k + 1) hk1
          have l1 := CR3.1 _ a1
          have l2 := CR3.2.1 _ a2
          have gr2 := M_greatest fu hf T MC2 hk1 q65 t2z l1.1 l2.1
          have tA := us_tail A (upN t1 k u) (A (k + 1)) (show k + 1 ≤ N by omega) t2z
          have tO := us_tail O (upN t1 k u) (O (k + 1)) (show k + 1 ≤ N by omega) t2z
          have g6 := T.2.2.2.2.1 _ a1
          have cle : capm N A O gv wv (upN t1 k u) (k + 1) ≤ gv (A (k + 1)) - us A (upN t1 k u) (A (k + 1)) N ∧ capm N A O gv wv (upN t1 k u) (k + 1) ≤ wv (O (k + 1)) - us O (upN t1 k u) (O (k + 1)) N := by
            unfold capm; split <;> omega
          rw [if_neg (nI_ge hk1 (by omega)), if_neg (nI_ge hk1 (by omega)), gr1, ob2_mk, gr2, ob2_mk, nI_clamp (n := k + 1) (by omega), if_neg (nin (show k + 1 < 64 by omega) (by decide)), if_neg (nin (show k + 1 < 65 by omega) (by decide)), ob_b, ob_b, xw_reg g3 _ _ (show 19 ≠ 14 by decide), h19, nI_1 (lim - (K + 1)), show lim - (K + 1) + 1 = lim - K by omega, ob_b, nI_1 (capm N A O gv wv (upN t1 k u) (k + 1))]
          generalize capm N A O gv wv (upN t1 k u) (k + 1) = cap at *
          have L := look_alike fu hf T lim hl K n m' (xw (xw g3 14 (k + 1) (nI cap)) 19 0 (nI (lim - K))) (xw h2 65 (k + 1) (nI (cap + 1))) (k + 1 + 1) (upN t1 k u) (upN (upN t1 k u) (k + 1) (cap + 1)) ⟨CC3.sf2 (((SF2.refl g3).xw (by decide)).xw (by decide)), MC2.sms ((SMs.refl h2).xw (by decide)), CR3.same (by simp [xwR]) (by simp [xwR]) (by simp [xwR]) (by simp [xwR]), by omega, fun j hj => by
              by_cases ej : j = k + 1
              · subst ej
                exact ⟨by rw [xw_self, upN_s], by rw [xw_reg _ _ _ (by decide), xw_self, upN_s, nI_m1], by rw [upN_s]; omega⟩
              · exact ⟨by rw [xw_ix _ _ _ ej, upN_n _ _ ej]; exact q65 j (by omega), by rw [xw_reg _ _ _ (by decide), xw_ix _ _ _ ej, upN_n _ _ ej]; exact X14 j (by omega), by rw [upN_n _ _ ej]; exact X7 j (by omega)⟩, fun j h1 h2 => t2z j (by omega) h2, fun j hj => by rw [upN_n (upN t1 k u) _ (by omega)], fun j hj => by
              by_cases ej : j = k + 1
              · subst ej; rw [upN_s]; omega
              · rw [upN_n (upN t1 k u) _ ej]; exact Xcap j (by omega)⟩ (by rw [xw_reg _ _ _ (by decide), p66, xw_reg _ _ _ (by decide), xw_reg _ _ _ (by decide), h15]) (fun j => by rw [xw_reg _ _ _ (by decide), xw_reg _ _ _ (by decide), h15]; exact rg j) hK2 (xw_self _ _ _ _) (by rw [xw_reg _ _ _ (by decide), p45]; simp [upd]) hn2 hm2
          rw [nI_m1, xw_reg _ 0 _ (show 18 ≠ 19 by decide), xw_reg g3 _ _ (show 18 ≠ 14 by decide), h18] at L
          exact L.pre ((F3.xw (by decide)).xw (by decide)) (G2.xw (by decide)) (nI (lim - K)) (by rw [xw_reg _ _ _ (by decide), p45])
end
