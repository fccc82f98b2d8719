/-! touches, bound, what bars, counts -/
theorem D_touchesSaved {nA nO nP : Nat} {g : xSt} (W : WF nA nO nP g) (fu : Nat) (hf : 65 < fu) : f_D_touchesSaved fu g = some (2 * psum (fun i => g 22 i) nP + psum (fun o => if psum (fun i => if g 21 i = nI o then g 22 i else 0) nP = g 31 o then 3 else 0) nO + psum (fun i => if g 22 i = g 27 (g 20 i).toNatClampNeg - g 28 (g 20 i).toNatClampNeg then 1 else 0) nP, g) := by
  obtain ⟨⟨hA, hO, hP⟩, ⟨-, eO, eP⟩, -, -, -, -, -, hp, -⟩ := W
  rw [f_D_touchesSaved, P_palletsInAll hP eP fu hf, ob2_mk]
  rw [loop_sum0 (f_D_touchesSaved_L12 fu) (fun o => if psum (fun i => if g 21 i = nI o then g 22 i else 0) nP = g 31 o then 3 else 0) nO g ?_ ?_ fu _ (by omega), ob3_mk]
  · rw [loop_sum0 (f_D_touchesSaved_L51 fu) (fun i => if g 22 i = g 27 (g 20 i).toNatClampNeg - g 28 (g 20 i).toNatClampNeg then 1 else 0) nP g ?_ ?_ fu _ (by omega), ob3_mk]
    · intro n acc; rw [f_D_touchesSaved_L51, eP, if_pos (nI_le (Nat.le_refl _) (by omega))]
    · intro n acc i hi
      obtain ⟨a, ha, ea⟩ := hp i
      rw [f_D_touchesSaved_L51, eP, if_neg (nI_ge hi (by omega)), nI_clamp (n := i) (by omega), nI_1, ea, nI_clamp (n := a) (by omega)]
      simp only [if_neg (nin (show i < 64 by omega) (show 64 ≤ 65 by decide)), if_neg (nin ha (show 8 ≤ 65 by decide)), f_A_toGive, ob2_mk]
      split <;> simp
  · intro n acc; rw [f_D_touchesSaved_L12, eO, if_pos (nI_le (Nat.le_refl _) (by omega))]
  · intro n acc i hi
    rw [f_D_touchesSaved_L12, eO, if_neg (nI_ge hi (by omega)), P_palletsFor hP eP fu hf, ob2_mk, nI_clamp (n := i) (by omega), nI_1]
    simp only [if_neg (nin (show i < 8 by omega) (show 8 ≤ 65 by decide))]
    split <;> simp
theorem M_savedNow {nA nO nP : Nat} {g h : xSt} (S : Sim nA nO nP g h) (fu : Nat) (hf : 65 < fu) : f_M_savedNow fu h = some (2 * psum (fun i => g 22 i) nP + psum (fun o => if psum (fun i => if g 21 i = nI o then g 22 i else 0) nP = g 31 o then 3 else 0) nO + psum (fun i => if g 22 i = g 27 (g 20 i).toNatClampNeg - g 28 (g 20 i).toNatClampNeg then 1 else 0) nP, h) := by
  obtain ⟨⟨⟨hA, hO, hP⟩, ⟨-, eO, eP⟩, -, -, -, -, -, hp, -⟩, E, -⟩ := S
  unfold Eqs at E
  obtain ⟨-, e42, e43, -, -, -, -, -, e50, e51, -, e53, -, -, -, -, -, e60, e61, e62, -⟩ := E
  rw [← e42] at eO; rw [← e43] at eP
  rw [f_M_savedNow]
  rw [loop_sum0 (f_M_savedNow_L4 fu) (fun i => 2 * g 22 i + if g 22 i = g 27 (g 20 i).toNatClampNeg - g 28 (g 20 i).toNatClampNeg then 1 else 0) nP h ?_ ?_ fu _ (by omega), ob3_mk]
  · rw [loop_sum0 (f_M_savedNow_L56 fu) (fun o => if psum (fun i => if g 21 i = nI o then g 22 i else 0) nP = g 31 o then 3 else 0) nO h ?_ ?_ fu _ (by omega), ob3_mk]
    · rw [psum_add (fun i => 2 * g 22 i), psum_mul]
      simp only [Option.some.injEq, Prod.mk.injEq, and_true]; grind
    · intro n acc; rw [f_M_savedNow_L56, eO, if_pos (nI_le (Nat.le_refl _) (by omega))]
    · intro n acc i hi
      rw [f_M_savedNow_L56, eO, if_neg (nI_ge hi (by omega)), M_hasGot hP eP fu hf, ob2_mk, nI_clamp (n := i) (by omega), nI_1, e61, e62, e53]
      simp only [if_neg (nin (show i < 8 by omega) (show 8 ≤ 65 by decide))]
      split <;> simp
  · intro n acc; rw [f_M_savedNow_L4, eP, if_pos (nI_le (Nat.le_refl _) (by omega))]
  · intro n acc i hi
    obtain ⟨a, ha, ea⟩ := hp i
    rw [f_M_savedNow_L4, eP, if_neg (nI_ge hi (by omega)), nI_clamp (n := i) (by omega), nI_1, e60, e62, ea, f_M_has, nI_clamp (n := a) (by omega), e50, e51]
    simp only [if_neg (nin (show i < 64 by omega) (show 64 ≤ 65 by decide)), if_neg (nin ha (show 8 ≤ 65 by decide)), ob2_mk]
    split <;> simp
theorem psum01 (b : Nat → Prop) [DecidablePred b] : ∀ n, n ≤ 8 → ∃ c, c ≤ n ∧ psum (fun i => if b i then 1 else 0) n = nI c ∧ (c = 0 ↔ ∀ i, i < n → ¬ b i)
  | 0, _ => ⟨0, by omega, rfl, by simp⟩
  | n + 1, h => by
    obtain ⟨c, hc, e, hz⟩ := psum01 b n (by omega)
    by_cases hb : b n
    · refine ⟨c + 1, by omega, ?_, ?_⟩
      · rw [psum, e, if_pos hb, nI_1]
      · constructor
        · omega
        · intro hh; exact absurd hb (hh n (by omega))
    · refine ⟨c, by omega, ?_, ?_⟩
      · rw [psum, e, if_neg hb]; simp
      · rw [hz]; constructor
        · intro hh i hi
          by_cases e2 : i = n
          · rw [e2]; exact hb
          · exact hh i (by omega)
        · intro hh i hi; exact hh i (by omega)
theorem psum01_le (b : Nat → Prop) [DecidablePred b] (n : Nat) (h : n ≤ 8) : psum (fun i => if b i then 1 else 0) n ≤ 0 ↔ ∀ i, i < n → ¬ b i := by
  obtain ⟨c, hc, e, hz⟩ := psum01 b n h
  rw [e, ← hz, show (0 : Int32) = nI 0 from rfl, nI_leI (by omega) (by omega)]; omega
theorem psum01_eq (b : Nat → Prop) [DecidablePred b] (n : Nat) (h : n ≤ 8) : psum (fun i => if b i then 1 else 0) n = 0 ↔ ∀ i, i < n → ¬ b i := by
  obtain ⟨c, hc, e, hz⟩ := psum01 b n h
  rw [e, ← hz, show (0 : Int32) = nI 0 from rfl, nI_eq (by omega) (by omega)]
theorem loop_any (F : Nat → Int32 → Int32 → xSt → Option (Int32 × Int32 × xSt)) (b : Nat → Prop) [DecidablePred b] (N : Nat) (g : xSt)
    (h0 : ∀ n acc, F (n + 1) acc (nI N) g = some (acc, nI N, g))
    (h1 : ∀ n acc i, i < N → F (n + 1) acc (nI i) g = F n (if acc = 0 then (if b i then 1 else 0) else 1) (nI (i + 1)) g) :
    ∀ n i acc, i ≤ N → N - i < n → ∃ r, F n acc (nI i) g = some (r, nI N, g) ∧ (r = 0 ↔ acc = 0 ∧ ∀ j, i ≤ j → j < N → ¬ b j)
  | 0, i, acc, _, h => absurd h (by omega)
  | n + 1, i, acc, hi, h => by
    by_cases e : i = N
    · subst e; exact ⟨acc, h0 n acc, ⟨fun h => ⟨h, fun j h1 h2 => by omega⟩, fun h => h.1⟩⟩
    · obtain ⟨r, e1, e2⟩ := loop_any F b N g h0 h1 n (i + 1) (if acc = 0 then (if b i then 1 else 0) else 1) (by omega) (by omega)
      refine ⟨r, by rw [h1 n acc i (by omega)]; exact e1, ?_⟩
      rw [e2]
      by_cases ha : acc = 0
      · by_cases hb : b i
        · simp only [ha, hb, if_true]
          constructor
          · intro hh; exact absurd hh.1 (by decide)
          · intro hh; exact absurd hb (hh.2 i (by omega) (by omega))
        · simp only [ha, hb, if_true, if_false, true_and]
          constructor
          · intro hh j h1 h2
            by_cases ej : j = i
            · rw [ej]; exact hb
            · exact hh j (by omega) h2
          · intro hh j h1 h2; exact hh j (by omega) h2
      · simp only [ha, if_false, false_and, iff_false]; intro hh; exact absurd hh.1 (by decide)
def bsum (nA nO : Nat) (g : xSt) : Int32 := psum (fun o => if psum (fun a => if obs g a o = 0 then 1 else 0) nA ≤ 0 then 0 else 2 * g 31 o + 3) nO + psum (fun a => if psum (fun o => if obs g a o = 0 then 1 else 0) nO ≤ 0 then 0 else 1) nA
theorem D_bound {nA nO nP : Nat} {g : xSt} (W : WF nA nO nP g) (fu : Nat) (hf : 65 < fu) : f_D_bound fu g = some (bsum nA nO g, g) := by
  obtain ⟨⟨hA, hO, hP⟩, ⟨eA, eO, eP⟩, -, -, -, hl, -⟩ := W
  rw [f_D_bound, loop_sum0 (f_D_bound_L4 fu) (fun o => if psum (fun a => if obs g a o = 0 then 1 else 0) nA ≤ 0 then 0 else 2 * g 31 o + 3) nO g ?_ ?_ fu 0 (by omega), ob3_mk, loop_sum0 (f_D_bound_L44 fu) (fun a => if psum (fun o => if obs g a o = 0 then 1 else 0) nO ≤ 0 then 0 else 1) nA g ?_ ?_ fu _ (by omega), ob3_mk, bsum]
  · simp
  · intro n acc; rw [f_D_bound_L44, eA, if_pos (nI_le (Nat.le_refl _) (by omega))]
  · intro n acc i hi
    rw [f_D_bound_L44, eA, if_neg (nI_ge hi (by omega)), D_ordersFor hO eO hl fu hf (by omega), ob2_mk, nI_1]
    split <;> simp_all
  · intro n acc; rw [f_D_bound_L4, eO, if_pos (nI_le (Nat.le_refl _) (by omega))]
  · intro n acc i hi
    rw [f_D_bound_L4, eO, if_neg (nI_ge hi (by omega)), D_arrivalsFor hA eA hl fu hf (by omega), ob2_mk, nI_1, nI_clamp (n := i) (by omega), if_neg (nin (show i < 8 by omega) (by decide))]
    split <;> simp_all
theorem M_bound {nA nO nP : Nat} {g h : xSt} (S : Sim nA nO nP g h) (fu : Nat) (hf : 65 < fu) : f_M_bound fu h = some (bsum nA nO g, xw h 40 0 0) := by
  have S2 := S.code 0
  rw [f_M_bound, ob_b]
  generalize xw h 40 0 0 = h at S2
  have S3 := S2
  obtain ⟨⟨⟨hA, hO, hP⟩, ⟨eA, eO, eP⟩, -⟩, E, -⟩ := S2
  unfold Eqs at E
  obtain ⟨e41, e42, e43, -, -, -, -, -, e50, e51, -, e53, -⟩ := E
  rw [← e42] at eO; rw [← e41] at eA
  rw [loop_sum0 (f_M_bound_L9 fu) (fun o => if psum (fun a => if obs g a o = 0 then 1 else 0) nA ≤ 0 then 0 else 2 * g 31 o + 3) nO h ?_ ?_ fu 0 (by omega), ob3_mk, loop_sum0 (f_M_bound_L86 fu) (fun a => if psum (fun o => if obs g a o = 0 then 1 else 0) nO ≤ 0 then 0 else 1) nA h ?_ ?_ fu _ (by omega), ob3_mk, bsum]
  · simp
  · intro n acc; rw [f_M_bound_L86, eA, if_pos (nI_le (Nat.le_refl _) (by omega))]
  · intro n acc i hi
    obtain ⟨r, e1, e2⟩ := loop_any (f_M_bound_L99 fu (nI i) acc) (fun o => obs g i o = 0) nO h (fun n acc => by rw [f_M_bound_L99, eO, if_pos (nI_le (Nat.le_refl _) (by omega))]) (fun n acc j hj => by
      rw [f_M_bound_L99, eO, if_neg (nI_ge hj (by omega)), M_mayServe S3 (by omega) (by omega), ob2_mk, nI_1]
      by_cases q : acc = 0
      · by_cases q2 : obs g i j = 0 <;> simp [q, q2]
      · simp [q]) fu 0 0 (by omega) (by omega)
    rw [f_M_bound_L86, eA, if_neg (nI_ge hi (by omega)), show f_M_bound_L99 fu (nI i) acc fu 0 0 h = _ from e1, ob3_mk, nI_1]
    have : r = 0 ↔ psum (fun o => if obs g i o = 0 then 1 else 0) nO ≤ 0 := by
      rw [e2, psum01_le _ nO hO]; simp
    by_cases q : r = 0
    · rw [if_pos q, if_pos (this.1 q)]
    · rw [if_neg q, if_neg (fun hh => q (this.2 hh))]
  · intro n acc; rw [f_M_bound_L9, eO, if_pos (nI_le (Nat.le_refl _) (by omega))]
  · intro n acc i hi
    obtain ⟨r, e1, e2⟩ := loop_any (f_M_bound_L22 fu (nI i) acc) (fun a => obs g a i = 0) nA h (fun n acc => by rw [f_M_bound_L22, eA, if_pos (nI_le (Nat.le_refl _) (by omega))]) (fun n acc j hj => by
      rw [f_M_bound_L22, eA, if_neg (nI_ge hj (by omega)), M_mayServe S3 (by omega) (by omega), ob2_mk, nI_1]
      by_cases q : acc = 0
      · by_cases q2 : obs g j i = 0 <;> simp [q, q2]
      · simp [q]) fu 0 0 (by omega) (by omega)
    rw [f_M_bound_L9, eO, if_neg (nI_ge hi (by omega)), show f_M_bound_L22 fu (nI i) acc fu 0 0 h = _ from e1, ob3_mk, nI_1, nI_clamp (n := i) (by omega), if_neg (nin (show i < 8 by omega) (by decide)), e53]
    have : r = 0 ↔ psum (fun a => if obs g a i = 0 then 1 else 0) nA ≤ 0 := by
      rw [e2, psum01_le _ nA hA]; simp
    by_cases q : r = 0
    · rw [if_pos q, if_pos (this.1 q)]
    · rw [if_neg q, if_neg (fun hh => q (this.2 hh))]
