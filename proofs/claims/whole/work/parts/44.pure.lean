/-! what bars all; the results of a call -/
theorem I32le {a b : Int32} : a ≤ b ∨ b < a := by grind
theorem D_whatL {nA : Nat} {g : xSt} (hA : nA ≤ 8) (eA : g 0 0 = nI nA) (hl : ∀ o, ∃ l, l < 4 ∧ g 33 o = nI l) (fu : Nat) {o : Nat} (ho : o < 8) : ∀ n i (m : Int32), i ≤ nA → nA - i < n → 1 ≤ m → m ≤ 5 →
    ∃ r, f_D_whatBarsAll_L4 fu (nI o) n m (nI i) g = some (r, g) ∧ ((r = 0 ∧ ∃ a, i ≤ a ∧ a < nA ∧ obs g a o = 0) ∨ ((∀ a, i ≤ a → a < nA → obs g a o ≠ 0 ∧ obs g a o ≤ r) ∧ m ≤ r ∧ r ≤ 5 ∧ (r = m ∨ ∃ a, i ≤ a ∧ a < nA ∧ obs g a o = r)))
  | 0, i, m, _, h, _, _ => absurd h (by omega)
  | n + 1, i, m, hi, h, h1, h5 => by
    by_cases e : i = nA
    · subst e
      exact ⟨m, by rw [f_D_whatBarsAll_L4, eA, if_pos (nI_le (Nat.le_refl _) (by omega))], Or.inr ⟨fun a h1 h2 => by omega, by grind, h5, Or.inl rfl⟩⟩
    · rw [f_D_whatBarsAll_L4, eA, if_neg (nI_ge (show i < nA by omega) (by omega)), D_obstacle (by omega) ho (hl o), ob2_mk, nI_1]
      by_cases e0 : obs g i o = 0
      · rw [if_pos e0]; exact ⟨0, rfl, Or.inl ⟨rfl, i, Nat.le_refl _, by omega, e0⟩⟩
      · rw [if_neg e0]
        have hv := obs_v g i o
        have hm5 : 1 ≤ (if m < obs g i o then obs g i o else m) ∧ (if m < obs g i o then obs g i o else m) ≤ 5 := by
          split
          · rcases hv with q | q | q | q | q | q <;> rw [q] <;> first | exact absurd q e0 | decide
          · exact ⟨h1, h5⟩
        obtain ⟨r, er, hr⟩ := D_whatL hA eA hl fu ho n (i + 1) (if m < obs g i o then obs g i o else m) (by omega) (by omega) hm5.1 hm5.2
        refine ⟨r, er, ?_⟩
        rcases hr with ⟨r0, a, a1, a2, a3⟩ | ⟨ha, hmr, hr5, hx⟩
        · exact Or.inl ⟨r0, a, by omega, a2, a3⟩
        · refine Or.inr ⟨fun a q1 q2 => ?_, ?_, hr5, ?_⟩
          · by_cases ea : a = i
            · subst ea; refine ⟨e0, ?_⟩; split at hmr <;> grind
            · exact ha a (by omega) q2
          · split at hmr <;> grind
          · rcases hx with hx | ⟨a, a1, a2, a3⟩
            · split at hx
              · exact Or.inr ⟨i, Nat.le_refl _, by omega, hx.symm⟩
              · exact Or.inl hx
            · exact Or.inr ⟨a, by omega, a2, a3⟩
theorem nI_1to5 {r : Int32} (h1 : 1 ≤ r) (h5 : r ≤ 5) : ∃ t, 1 ≤ t ∧ t ≤ 5 ∧ r = nI t := by
  obtain ⟨j, hj, e⟩ := nI_of2 (x := r) (M := 5) (n := 5) (by decide) (by have : (0 : Int32) < 1 := by decide
                                                                         grind) h5
  subst e
  rw [show (1 : Int32) = nI 1 from rfl, nI_leI (by omega) (by omega)] at h1
  exact ⟨j, h1, hj, rfl⟩
theorem M_wantedL {nA nO nP : Nat} {g h : xSt} (S : Sim nA nO nP g h) (fu : Nat) (hf : 65 < fu) {o : Nat} (ho : o < 8) (q : Int32) (t : Nat) (ht : t ≤ 5) (hP : ∀ k, 1 ≤ k → k ≤ 5 → ((∀ a, a < nA → ¬ (obs g a o = 0 ∨ nI k < obs g a o)) ↔ t ≤ k ∧ 1 ≤ t)) : ∀ n k, 1 ≤ k → k ≤ 6 → (1 ≤ t → k ≤ t) → 6 - k < n → f_M_wanted_L82 fu (nI o) q n (nI k) h = some (nI t, h)
  | 0, k, _, _, _, hh => absurd hh (by omega)
  | n + 1, k, h1, h6, hk, hh => by
    have hn : nA ≤ 8 := S.1.1.1
    rw [f_M_wanted_L82]
    by_cases e6 : k = 6
    · have : t = 0 := by omega
      subst this; subst e6
      rw [if_pos (by decide)]; rfl
    · rw [show (6 : Int32) = nI 6 from rfl, if_neg (nI_ge (show k < 6 by omega) (by omega)), M_passing S fu hf ho h1 (by omega), ob2_mk, nI_1]
      have hz := psum01_eq (fun a => obs g a o = 0 ∨ nI k < obs g a o) nA hn
      have hk2 := hP k h1 (by omega)
      by_cases z : psum (fun a => if obs g a o = 0 ∨ nI k < obs g a o then 1 else 0) nA = 0
      · rw [if_pos z]
        have := hk2.1 (hz.1 z)
        rw [show t = k by omega]
      · rw [if_neg z]
        have hne : ¬ (t ≤ k ∧ 1 ≤ t) := fun hx => z (hz.2 (hk2.2 hx))
        exact M_wantedL S fu hf ho q t ht hP n (k + 1) (by omega) (by omega) (by omega) (by omega)
theorem what_alike {nA nO nP : Nat} {g h : xSt} (S : Sim nA nO nP g h) (fu : Nat) (hf : 65 < fu) {o : Nat} (ho : o < 8) (q : Int32) : ∃ r, f_D_whatBarsAll fu (nI o) g = some (r, g) ∧ f_M_wanted_L82 fu (nI o) q fu 1 h = some (r, h) := by
  have W := S.1
  obtain ⟨⟨hA, hO, hP⟩, ⟨eA, eO, eP⟩, -, -, -, hl, -⟩ := W
  obtain ⟨r, er, hr⟩ := D_whatL hA eA hl fu ho fu 0 1 (by omega) (by omega) (by decide) (by decide)
  refine ⟨r, er, ?_⟩
  rcases hr with ⟨r0, a, -, a2, a3⟩ | ⟨ha, hmr, hr5, hx⟩
  · rw [r0]
    refine M_wantedL S fu hf ho q 0 (by omega) (fun k h1 h5 => ?_) fu 1 (by omega) (by omega) (by omega) (by omega)
    constructor
    · intro hh; exact absurd (Or.inl a3) (hh a a2)
    · omega
  · obtain ⟨t, t1, t5, rfl⟩ := nI_1to5 hmr hr5
    refine M_wantedL S fu hf ho q t t5 (fun k h1 h5 => ?_) fu 1 (by omega) (by omega) (by omega) (by omega)
    constructor
    · intro hh
      refine ⟨?_, t1⟩
      rcases hx with hx | ⟨a, -, a2, a3⟩
      · rw [show (1 : Int32) = nI 1 from rfl, nI_eq (by omega) (by omega)] at hx; omega
      · have := hh a a2
        rw [a3] at this
        have h2 : ¬ nI k < nI t := fun hh => this (Or.inr hh)
        rw [nI_ltI (by omega) (by omega)] at h2; omega
    · rintro ⟨htk, -⟩ a a2 hh
      obtain ⟨b1, b2⟩ := ha a (by omega) a2
      have h3 : nI t ≤ nI k := nI_le htk (by omega)
      rcases hh with hh | hh
      · exact b1 hh
      · grind
/-! calls -/
def cdn (a b c d : Int32) (k : Nat) : Int32 := match k with | 0 => 0 | 1 => a | 2 => b | 3 => c | 4 => d | _ => -1
def Res (cd : Nat → Int32) (g h : xSt) (D : Option (Nat × Int32 × xSt)) (M : Option (Int32 × xSt)) : Prop :=
  ∃ k v g' b h' a o p, D = some (k, v, g') ∧ M = some (b, h') ∧ k ≤ 4 ∧ cd k ≠ -1 ∧ FrC g g' ∧ FrM h h' ∧ Sim a o p g' h' ∧ h' 40 0 = cd k ∧ (k = 0 → b = v)
theorem Res.ret {a b c d : Int32} {g h g' h' : xSt} {v : Int32} {nA nO nP : Nat} {D : Option (Nat × Int32 × xSt)} {M : Option (Int32 × xSt)} (hD : D = some (0, v, g')) (hM : M = some (v, h')) (F1 : FrC g g') (F2 : FrM h h') (S : Sim nA nO nP g' h') (h0 : h' 40 0 = 0) : Res (cdn a b c d) g h D M :=
  ⟨0, v, g', v, h', nA, nO, nP, hD, hM, by omega, by show (0 : Int32) ≠ -1; decide, F1, F2, S, h0, fun _ => rfl⟩
theorem Res.thr {cd : Nat → Int32} {g h : xSt} {v b : Int32} {k nA nO nP : Nat} {D : Option (Nat × Int32 × xSt)} {M : Option (Int32 × xSt)} (S : Sim nA nO nP g h) (hk : k ≤ 4) (hk0 : k ≠ 0) (hc : cd k ≠ -1) (hD : D = some (k, v, g)) (hM : M = some (b, xw h 40 0 (cd k))) : Res cd g h D M :=
  ⟨k, v, g, b, _, nA, nO, nP, hD, hM, hk, hc, FrC.refl g, (FrM.refl h).xw (by decide) (by decide), S.code _, xw_self _ _ _ _, fun e => absurd e hk0⟩
