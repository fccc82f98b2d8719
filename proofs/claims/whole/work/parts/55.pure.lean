/-! match, whole -/
section
variable {N nA nO : Nat} {A O gv wv : Nat → Nat}
theorem us_z (B : Nat → Nat) (b k : Nat) : us B (fun _ => 0) b k = 0 := nsum_zero fun i hi => by simp
theorem look_top (fu : Nat) (hf : 65 < fu) (T : Stt N nA nO A O gv wv) (lim : Nat) (hl : lim ≤ 20000) (hfu : 70 * lim + 80 ≤ fu) {g h : xSt} (C : CC N nA nO A O gv wv g) (M : MC N nA nO A O gv wv h) (e66 : h 66 = g 15) (rg : Rg g) : LookOut g h (f_S_lookAtAll fu (nI lim) g) (f_M_lookAtAll fu (nI lim) h) := by
  have tN := T.1
  obtain ⟨g1, p1, p2, p3⟩ := S_putAllBack fu hf T C
  have C1 : CC N nA nO A O gv wv (xw g1 18 0 (-1)) := (C.sf p3).sf2 ((SF2.refl g1).xw (by decide))
  have R1 : CR N nA nO A O gv wv (xw g1 18 0 (-1)) (fun _ => 0) := p2.same (xw_reg _ _ _ (by decide)) (xw_reg _ _ _ (by decide)) (xw_reg _ _ _ (by decide)) (xw_reg _ _ _ (by decide))
  have F1 : SF2 g (xw g1 18 0 (-1)) := p3.sf2.xw (by decide)
  have s15 : (xw g1 18 0 (-1)) 15 = g 15 := by rw [xw_reg _ _ _ (by decide), p3 15 (by decide) (by decide) (by decide) (by decide)]
  have M1 : MC N nA nO A O gv wv (xw h 45 0 0) := M.sms ((SMs.refl h).xw (by decide))
  have s66 : (xw h 45 0 0) 66 = g 15 := by rw [xw_reg _ _ _ (by decide), e66]
  have s18 : (xw g1 18 0 (-1)) 18 0 = -1 := xw_self _ _ _ _
  simp only [f_S_lookAtAll, p1, ob_b, f_M_lookAtAll, C1.1, M1.1]
  generalize xw g1 18 0 (-1) = g2 at *
  have t45 : (xw h 45 0 0) 45 = upd (h 45) 0 0 := by simp [xwR]
  have G1 : SMs h (xw h 45 0 0) := (SMs.refl h).xw (by decide)
  generalize xw h 45 0 0 = h1 at *
  by_cases e0 : N = 0
  · subst e0
    rw [if_pos (by decide), if_pos (by decide)]
    obtain ⟨f1, rfl⟩ : ∃ f1, fu = f1 + 1 + 1 := ⟨fu - 2, by omega⟩
    have tw := T.2.2.2.2.2
    obtain ⟨h2, v1, v2⟩ := M_worth (f1 + 1 + 1) hf T (x := fun _ => 0) (fun j hj => by omega) M1 (fun i hi => by omega) (fun o ho => by rw [us_z]; omega)
    have w0 : wt 0 nO A O gv wv (fun _ => 0) = 0 := by
      unfold wt
      rw [nsum_zero fun i hi => by simp, nsum_zero fun o ho => by rw [us_z, if_neg (by have := tw o ho; omega)]]
    rw [w0] at v1
    have cp := M_copy (N := 0) (f1 + 1 + 1) (by omega) (nI lim) (nI 0) (nI 0) 0 (h := h2) (by rw [v2 46 (by decide)]; exact M1.1) (f1 + 1 + 1) 0 (by omega) (by omega)
    rw [show (fun j => if j < 0 then h2 65 j else h2 66 j) = h2 66 by funext j; simp, up_id, show nI 0 = (0 : Int32) from rfl] at cp
    have bk : ∀ g, f_S_backToUntried (f1 + 1 + 1) (-1) g = some (-1, g) := fun g => by rw [f_S_backToUntried, f_S_backToUntried_L2, if_pos (by decide)]
    rw [f_S_lookAtAll_L36, bk, ob2_mk, ob2_mk, if_neg (show ¬ (0 : Int32) ≤ -1 by decide), if_neg (show ¬ (0 : Int32) ≤ -1 by decide), ite_self]
    rw [f_M_lookAtAll_L29, if_neg (by decide), M1.1, if_pos (by decide), v1, ob2_mk, if_neg (by decide), show nI 0 = (0 : Int32) from rfl, cp, ob2_mk, f_M_lookAtAll_L29, if_pos (by decide)]
    exact ⟨1, _, h2, rfl, rfl, Or.inr rfl, by rw [v2 66 (by decide), s66, xw_reg _ _ _ (by decide), s15], fun j => by rw [xw_reg _ _ _ (by decide), s15]; exact rg j, by rw [v2 45 (by decide), t45, xw_self], F1.xw (by decide), G1.trans v2.sms⟩
  · have hN0 : 0 < N := by omega
    have gr1 := S_greatest T C1 R1 hN0
    obtain ⟨a1, a2⟩ := T.2.2.2.1 0 hN0
    have gr2 := M_greatest (t := fun _ => 0) fu hf T M1 hN0 (fun j hj => by omega) (fun j _ _ => rfl) (by rw [us_z]; omega) (by rw [us_z]; omega)
    have g6 := T.2.2.2.2.1 _ a1
    have cle : capm N A O gv wv (fun _ => 0) 0 ≤ gv (A 0) ∧ capm N A O gv wv (fun _ => 0) 0 ≤ wv (O 0) := by
      unfold capm; rw [us_z, us_z]; split <;> omega
    have gd1 : ¬ (((0 : Int32)) < 0 ∨ 64 ≤ ((0 : Int32)).toNatClampNeg) := by decide
    have gd2 : ¬ (((0 : Int32)) < 0 ∨ 65 ≤ ((0 : Int32)).toNatClampNeg) := by decide
    have n1 : ¬ nI N ≤ (0 : Int32) := nI_ge (a := 0) hN0 (by omega)
    rw [show nI 0 = (0 : Int32) from rfl] at gr1 gr2
    rw [if_neg n1, if_neg n1, gr1, ob2_mk, gr2, ob2_mk, if_neg gd1, if_neg gd2, show ((0 : Int32)).toNatClampNeg = 0 by decide, nI_1]
    generalize capm N A O gv wv (fun _ => 0) 0 = cap at *
    have L := look_alike fu hf T lim hl lim fu fu (xw (xw g2 14 0 (nI cap)) 19 0 0) (xw h1 65 0 (nI (cap + 1))) 1 (fun _ => 0) (fun _ => cap + 1) ⟨C1.sf2 (((SF2.refl g2).xw (by decide)).xw (by decide)), M1.sms ((SMs.refl h1).xw (by decide)), R1.same (by simp [xwR]) (by simp [xwR]) (by simp [xwR]) (by simp [xwR]), by omega, fun j hj => by
        have : j = 0 := by omega
        subst this
        exact ⟨xw_self _ _ _ _, by rw [xw_reg _ _ _ (by decide), xw_self, nI_m1], by show cap + 1 ≤ 7; omega⟩, fun j _ _ => rfl, fun j hj => by omega, fun j hj => by
        have : j = 0 := by omega
        subst this
        rw [us_z, us_z]; show cap + 1 + 0 ≤ _ ∧ cap + 1 + 0 ≤ _; omega⟩ (by rw [xw_reg _ _ _ (by decide), s66, xw_reg _ _ _ (by decide), xw_reg _ _ _ (by decide), s15]) (fun j => by rw [xw_reg _ _ _ (by decide), xw_reg _ _ _ (by decide), s15]; exact rg j) (by omega) (by rw [xw_self, Nat.sub_self]; rfl) (by rw [xw_reg _ _ _ (by decide), t45, Nat.sub_self]; rfl) (by omega) (by omega)
    rw [show nI 1 - 1 = (0 : Int32) by decide, xw_reg _ 0 _ (show 18 ≠ 19 by decide), xw_reg g2 _ _ (show 18 ≠ 14 by decide), s18] at L
    exact L.pre ((F1.xw (by decide)).xw (by decide)) (G1.xw (by decide)) 0 (by rw [xw_reg _ _ _ (by decide), t45])
theorem rule_loop (fu : Nat) (hf : 65 < fu) (T : Stt N nA nO A O gv wv) : ∀ n k g h t, CC N nA nO A O gv wv g → MC N nA nO A O gv wv h → CR N nA nO A O gv wv g t → (∀ j, j < k → h 65 j = nI (t j)) → (∀ j, k ≤ j → j < N → t j = 0) → h 66 = g 15 → Rg g → k ≤ N → N - k < n →
    ∃ g' h', f_S_chooseByRule_L6 fu n (nI k) g = some (nI N, g') ∧ f_M_byRule_L2 fu n (nI k) h = some (nI N, h') ∧ h' 66 = g' 15 ∧ Rg g' ∧ SF2 g g' ∧ SMs h h' ∧ h' 45 = h 45
  | 0, _, _, _, _, _, _, _, _, _, _, _, _, hn => absurd hn (by omega)
  | n + 1, k, g, h, t, C, M, R, hp, hz, e66, rg, hk, hn => by
    have tN := T.1
    rw [f_S_chooseByRule_L6, f_M_byRule_L2, C.1, M.1]
    by_cases e : k = N
    · subst e; rw [if_pos (nI_le (Nat.le_refl _) (by omega)), if_pos (nI_le (Nat.le_refl _) (by omega))]
      exact ⟨g, h, rfl, rfl, e66, rg, SF2.refl g, SMs.refl h, rfl⟩
    · have hkN : k < N := by omega
      obtain ⟨a1, a2⟩ := T.2.2.2.1 k hkN
      have l1 := (R.1 _ a1).1
      have l2 := (R.2.1 _ a2).1
      have gr1 := S_greatest T C R hkN
      have gr2 := M_greatest fu hf T M hkN hp hz l1 l2
      have cle : capm N A O gv wv t k ≤ gv (A k) - us A t (A k) N ∧ capm N A O gv wv t k ≤ wv (O k) - us O t (O k) N := by
        unfold capm; split <;> omega
      have gk64 := nin (show k < 64 by omega) (show 64 ≤ 65 by decide)
      have gk65 := nin (show k < 65 by omega) (show 65 ≤ 65 by decide)
      generalize capm N A O gv wv t k = cap at *
      obtain ⟨g2, q1, q2, q3⟩ := S_take T C R hkN (hz k (Nat.le_refl _) hkN) (u := cap) (by omega) (by omega)
      rw [if_neg (nI_ge hkN (by omega)), if_neg (nI_ge hkN (by omega)), gr1, ob2_mk, gr2, ob2_mk, q1, ob_b, nI_clamp (n := k) (by omega), if_neg gk64, if_neg gk64, if_neg gk65, ob_b, ob_b, if_neg gk65, if_neg gk64, ob_b, xw_self, q2.2.2.1 k hkN, upN_s, nI_1]
      have s15 : g2 15 = g 15 := q3 15 (by decide) (by decide) (by decide) (by decide)
      have c6 : cap ≤ 6 := by have := T.2.2.2.2.1 _ a1; omega
      obtain ⟨g', h', d1, d2, d3, d4, d5, d6, d7⟩ := rule_loop fu hf T n (k + 1) (xw g2 15 k (nI cap)) (xw (xw h 65 k (nI cap)) 66 k (nI cap)) (upN t k cap) ((C.sf q3).sf2 ((SF2.refl g2).xw (by decide))) (M.sms (((SMs.refl h).xw (by decide)).xw (by decide))) (q2.same (xw_reg _ _ _ (by decide)) (xw_reg _ _ _ (by decide)) (xw_reg _ _ _ (by decide)) (xw_reg _ _ _ (by decide))) (fun j hj => by
          rw [xw_reg _ _ _ (by decide)]
          by_cases ej : j = k
          · subst ej; rw [xw_self, upN_s]
          · rw [xw_ix _ _ _ ej, upN_n _ _ ej]; exact hp j (by omega)) (fun j h1 h2 => by rw [upN_n _ _ (by omega)]; exact hz j (by omega) h2) (by simp [xwR, e66, s15]) (fun j => by
          by_cases ej : j = k
          · subst ej; exact ⟨cap, c6, xw_self _ _ _ _⟩
          · rw [xw_ix _ _ _ ej, s15]; exact rg j) (by omega) (by omega)
      exact ⟨g', h', d1, d2, d3, d4, (q3.sf2.xw (by decide)).trans d5, (((SMs.refl h).xw (by decide)).xw (by decide)).trans d6, by rw [d7]; simp [xwR]⟩
theorem rule_alike (fu : Nat) (hf : 65 < fu) (T : Stt N nA nO A O gv wv) {g h : xSt} (C : CC N nA nO A O gv wv g) (M : MC N nA nO A O gv wv h) (e66 : h 66 = g 15) (rg : Rg g) : ∃ g' h', f_S_chooseByRule fu g = some g' ∧ f_M_byRule fu h = some h' ∧ h' 66 = g' 15 ∧ Rg g' ∧ SF2 g g' ∧ SMs h h' ∧ h' 45 = h 45 := by
  have tN := T.1
  obtain ⟨g1, p1, p2, p3⟩ := S_putAllBack fu hf T C
  have s15 : g1 15 = g 15 := p3 15 (by decide) (by decide) (by decide) (by decide)
  obtain ⟨g', h', d1, d2, d3, d4, d5, d6, d7⟩ := rule_loop fu hf T fu 0 g1 h (fun _ => 0) (C.sf p3) M p2 (fun j hj => by omega) (fun j _ _ => rfl) (by rw [e66, s15]) (fun j => by rw [s15]; exact rg j) (by omega) (by omega)
  rw [show nI 0 = (0 : Int32) from rfl] at d1 d2
  exact ⟨g', h', by rw [f_S_chooseByRule, p1, ob_b, d1, ob2_mk], by rw [f_M_byRule, d2, ob2_mk], d3, d4, p3.sf2.trans d5, d6, d7⟩
def FP (g g' : xSt) : Prop := ∀ m, m ≠ 20 → m ≠ 21 → m ≠ 22 → m ≠ 23 → g' m = g m
def FQ (h h' : xSt) : Prop := ∀ m, m ≠ 43 → m ≠ 60 → m ≠ 61 → m ≠ 62 → h' m = h m
theorem FP.trans {a b c : xSt} (h : FP a b) (k : FP b c) : FP a c := fun m h1 h2 h3 h4 => (k m h1 h2 h3 h4).trans (h m h1 h2 h3 h4)
theorem FQ.trans {a b c : xSt} (h : FQ a b) (k : FQ b c) : FQ a c := fun m h1 h2 h3 h4 => (k m h1 h2 h3 h4).trans (h m h1 h2 h3 h4)
theorem rep_loop (fu : Nat) (hN : N ≤ 64) (p : Int32) : ∀ n k q g h, g 16 0 = nI N → h 46 0 = nI N → (∀ j, j < N → (∃ a, a < 8 ∧ g 7 j = nI a ∧ h 63 j = nI a) ∧ ∃ o, o < 8 ∧ g 8 j = nI o ∧ h 64 j = nI o) → h 66 = g 15 → Rg g → g 23 0 = nI q → q ≤ k → h 43 = g 23 → h 60 = g 20 → h 61 = g 21 → h 62 = g 22 → (∀ j, ∃ a, a < 8 ∧ g 20 j = nI a) → (∀ j, ∃ o, o < 8 ∧ g 21 j = nI o) → k ≤ N → N - k < n →
    ∃ q' g' h', f_P_replaceBy_L7 fu n (nI k) g = some (nI N, g') ∧ f_M_match_L60 fu p n (nI k) h = some (nI N, h') ∧ q' ≤ 64 ∧ g' 23 0 = nI q' ∧ h' 43 = g' 23 ∧ h' 60 = g' 20 ∧ h' 61 = g' 21 ∧ h' 62 = g' 22 ∧ (∀ j, ∃ a, a < 8 ∧ g' 20 j = nI a) ∧ (∀ j, ∃ o, o < 8 ∧ g' 21 j = nI o) ∧ FP g g' ∧ FQ h h'
  | 0, _, _, _, _, _, _, _, _, _, _, _, _, _, _, _, _, _, _, hn => absurd hn (by omega)
  | n + 1, k, q, g, h, e16, e46, hj, e66, rg, e23, hq, e43, e60, e61, e62, r20, r21, hk, hn => by
    rw [f_P_replaceBy_L7, f_M_match_L60, e16, e46]
    by_cases e : k = N
    · subst e; rw [if_pos (nI_le (Nat.le_refl _) (by omega)), if_pos (nI_le (Nat.le_refl _) (by omega))]
      exact ⟨q, g, h, rfl, rfl, by omega, e23, e43, e60, e61, e62, r20, r21, fun _ _ _ _ _ => rfl, fun _ _ _ _ _ => rfl⟩
    · have hkN : k < N := by omega
      obtain ⟨v, v6, ev⟩ := rg k
      obtain ⟨⟨a, a8, ea, ea'⟩, o, o8, eo, eo'⟩ := hj k hkN
      have gk64 := nin (show k < 64 by omega) (show 64 ≤ 65 by decide)
      have gq64 := nin (show q < 64 by omega) (show 64 ≤ 65 by decide)
      have cq := nI_clamp (n := q) (by omega)
      have e43' : h 43 0 = nI q := by rw [e43, e23]
      have ev' : h 66 k = nI v := by rw [e66, ev]
      rw [if_neg (nI_ge hkN (by omega)), if_neg (nI_ge hkN (by omega)), nI_clamp (n := k) (by omega)]
      simp only [if_neg gk64, ev, ev']
      by_cases v0 : v = 0
      · subst v0
        rw [if_pos (show nI 0 ≤ (0 : Int32) by decide), if_pos (show nI 0 = (0 : Int32) from rfl), nI_1]
        exact rep_loop fu hN p n (k + 1) q g h e16 e46 hj e66 rg e23 (by omega) e43 e60 e61 e62 r20 r21 (by omega) (by omega)
      · rw [if_neg (fun z => v0 ((nI_le0 (by omega)).1 z)), if_neg (fun z => v0 ((nI_z (by omega)).1 z))]
        simp only [ob_b, xw_reg, ne_eq, Nat.reduceEqDiff, not_false_eq_true, e23, e43', cq, if_neg gq64, if_neg gk64, ea, ea', eo, eo', ev, ev', nI_1]
        have P : FP g (xw (xw (xw (xw g 20 q (nI a)) 21 q (nI o)) 22 q (nI v)) 23 0 (nI (q + 1))) := fun m h1 h2 h3 h4 => by simp [xwR, h1, h2, h3, h4]
        have Q : FQ h (xw (xw (xw (xw h 60 q (nI a)) 61 q (nI o)) 62 q (nI v)) 43 0 (nI (q + 1))) := fun m h1 h2 h3 h4 => by simp [xwR, h1, h2, h3, h4]
        obtain ⟨q', g', h', d1, d2, d3, d4, d5, d6, d7, d8, d9, d10, d11, d12⟩ := rep_loop fu hN p n (k + 1) (q + 1) (xw (xw (xw (xw g 20 q (nI a)) 21 q (nI o)) 22 q (nI v)) 23 0 (nI (q + 1))) (xw (xw (xw (xw h 60 q (nI a)) 61 q (nI o)) 62 q (nI v)) 43 0 (nI (q + 1))) (by rw [P 16 (by decide) (by decide) (by decide) (by decide)]; exact e16) (by rw [Q 46 (by decide) (by decide) (by decide) (by decide)]; exact e46) (by rw [P 7 (by decide) (by decide) (by decide) (by decide), P 8 (by decide) (by decide) (by decide) (by decide), Q 63 (by decide) (by decide) (by decide) (by decide), Q 64 (by decide) (by decide) (by decide) (by decide)]; exact hj) (by rw [P 15 (by decide) (by decide) (by decide) (by decide), Q 66 (by decide) (by decide) (by decide) (by decide)]; exact e66) (fun j => by rw [P 15 (by decide) (by decide) (by decide) (by decide)]; exact rg j) (xw_self _ _ _ _) (by omega) (by simp [xwR, e43]) (by simp [xwR, e60]) (by simp [xwR, e61]) (by simp [xwR, e62]) (fun j => by
          by_cases ej : j = q
          · subst ej; exact ⟨a, a8, by simp [xwE]⟩
          · simpa [xwE, ej] using r20 j) (fun j => by
          by_cases ej : j = q
          · subst ej; exact ⟨o, o8, by simp [xwE]⟩
          · simpa [xwE, ej] using r21 j) (by omega) (by omega)
        exact ⟨q', g', h', d1, d2, d3, d4, d5, d6, d7, d8, d9, d10, P.trans d11, Q.trans d12⟩
end
