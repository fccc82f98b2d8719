/-! pure side: state, frames, binds -/
theorem xwE (g : xSt) (a i : Nat) (v : Int32) (b j : Nat) : xw g a i v b j = if b = a ∧ j = i then v else g b j := by
  by_cases h : b = a
  · subst h; by_cases h2 : j = i
    · subst h2; simp [xw_self]
    · simp [xw_ix g b v h2, h2]
  · simp [xw_reg g i v h, h]
theorem xwR (g : xSt) (a i : Nat) (v : Int32) (b : Nat) : xw g a i v b = if b = a then upd (g a) i v else g b := by
  simp only [xw, va_up]
theorem upE (g : xSt) (a : Nat) (f : Nat → Int32) (b : Nat) : va_up g a f b = if b = a then f else g b := rfl
theorem ob2_mk {β : Type} (a : Int32) (g : xSt) (f : Int32 → xSt → Option β) : ob2 (some (a, g)) f = f a g := rfl
theorem ob3_mk {β : Type} (a b : Int32) (g : xSt) (f : Int32 → Int32 → xSt → Option β) : ob3 (some (a, b, g)) f = f a b g := rfl
theorem ob4_mk {β : Type} (a b c : Int32) (g : xSt) (f : Int32 → Int32 → Int32 → xSt → Option β) : ob4 (some (a, b, c, g)) f = f a b c g := rfl
theorem obT_0 (r : Int32) (g : xSt) (f : Int32 → xSt → Option (Nat × Int32 × xSt)) : obT (some (0, r, g)) f = f r g := rfl
theorem obT_1 (r : Int32) (g : xSt) (f : Int32 → xSt → Option (Nat × Int32 × xSt)) : obT (some (1, r, g)) f = some (1, 0, g) := rfl
theorem obT_2 (r : Int32) (g : xSt) (f : Int32 → xSt → Option (Nat × Int32 × xSt)) : obT (some (2, r, g)) f = some (2, 0, g) := rfl
theorem obT_3 (r : Int32) (g : xSt) (f : Int32 → xSt → Option (Nat × Int32 × xSt)) : obT (some (3, r, g)) f = some (3, 0, g) := rfl
theorem obT_4 (r : Int32) (g : xSt) (f : Int32 → xSt → Option (Nat × Int32 × xSt)) : obT (some (4, r, g)) f = some (4, 0, g) := rfl
theorem obC_0 {β : Type} (r : Int32) (g : xSt) (f : Int32 → xSt → Option β) (h : Nat → xSt → Option β) : obC (some (0, r, g)) f h = f r g := rfl
theorem obC_1 {β : Type} (r : Int32) (g : xSt) (f : Int32 → xSt → Option β) (h : Nat → xSt → Option β) : obC (some (1, r, g)) f h = h 0 g := rfl
theorem obC_2 {β : Type} (r : Int32) (g : xSt) (f : Int32 → xSt → Option β) (h : Nat → xSt → Option β) : obC (some (2, r, g)) f h = h 1 g := rfl
theorem obC_3 {β : Type} (r : Int32) (g : xSt) (f : Int32 → xSt → Option β) (h : Nat → xSt → Option β) : obC (some (3, r, g)) f h = h 2 g := rfl
theorem obC_4 {β : Type} (r : Int32) (g : xSt) (f : Int32 → xSt → Option β) (h : Nat → xSt → Option β) : obC (some (4, r, g)) f h = h 3 g := rfl
theorem ob_b {α β : Type} (a : α) (f : α → Option β) : Option.bind (some a) f = f a := rfl
def FrC (g g' : xSt) : Prop := ∀ m, 40 ≤ m → g' m = g m
def FrM (h h' : xSt) : Prop := (∀ m, m < 40 → h' m = h m) ∧ h' 68 = h 68
theorem FrC.refl (g : xSt) : FrC g g := fun _ _ => rfl
theorem FrM.refl (g : xSt) : FrM g g := ⟨fun _ _ => rfl, rfl⟩
theorem FrC.trans {a b c : xSt} (h : FrC a b) (k : FrC b c) : FrC a c := fun m hm => (k m hm).trans (h m hm)
theorem FrM.trans {a b c : xSt} (h : FrM a b) (k : FrM b c) : FrM a c := ⟨fun m hm => (k.1 m hm).trans (h.1 m hm), k.2.trans h.2⟩
theorem FrC.xw {g g' : xSt} (h : FrC g g') {a i : Nat} {v : Int32} (ha : a < 40) : FrC g (xw g' a i v) := fun m hm => by
  rw [xw_reg g' i v (by omega)]; exact h m hm
theorem FrC.up {g g' : xSt} (h : FrC g g') {a : Nat} {f : Nat → Int32} (ha : a < 40) : FrC g (va_up g' a f) := fun m hm => by
  rw [upE, if_neg (by omega)]; exact h m hm
theorem FrM.xw {g g' : xSt} (h : FrM g g') {a i : Nat} {v : Int32} (ha : 40 ≤ a) (hb : a < 68) : FrM g (xw g' a i v) := ⟨fun m hm => by
  rw [xw_reg g' i v (by omega)]; exact h.1 m hm, by rw [xw_reg g' i v (by omega)]; exact h.2⟩
def Eqs (g h : xSt) : Prop := h 41 = g 0 ∧ h 42 = g 1 ∧ h 43 = g 23 ∧ h 44 = g 2 ∧ h 45 = g 3 ∧ h 47 = g 24 ∧ h 48 = g 25 ∧ h 49 = g 26 ∧ h 50 = g 27 ∧ h 51 = g 28 ∧ h 52 = g 30 ∧ h 53 = g 31 ∧ h 54 = g 32 ∧ h 55 = g 33 ∧ h 56 = g 34 ∧ h 57 = g 35 ∧ h 59 = g 4 ∧ h 60 = g 20 ∧ h 61 = g 21 ∧ h 62 = g 22 ∧ h 66 = g 15
def Bits (g h : xSt) : Prop := (∀ i o, i < 8 → o < 8 → ((g 29 i &&& ((1 : Int32) <<< (nI o &&& 31))) = 0 ↔ h 58 (8 * i + o) = 0)) ∧ ∀ j, h 58 j = 0 ∨ h 58 j = 1
def WF (nA nO nP : Nat) (g : xSt) : Prop :=
  (nA ≤ 8 ∧ nO ≤ 8 ∧ nP ≤ 64) ∧ (g 0 0 = nI nA ∧ g 1 0 = nI nO ∧ g 23 0 = nI nP) ∧ (g 2 0 = 0 ∨ g 2 0 = 1) ∧
  (∀ i, ∃ p k, k ≤ p ∧ p ≤ 6 ∧ g 27 i = nI p ∧ g 28 i = nI k) ∧ (∀ i, nA ≤ i → g 28 i = 0) ∧
  (∀ o, ∃ l, l < 4 ∧ g 33 o = nI l) ∧ (∀ o, o < nO → ∃ m, 1 ≤ m ∧ m ≤ 6 ∧ g 31 o = nI m) ∧
  (∀ j, ∃ a, a < 8 ∧ g 20 j = nI a) ∧ (∀ j, ∃ o, o < 8 ∧ g 21 j = nI o) ∧ (∀ j, ∃ c, c ≤ 6 ∧ g 15 j = nI c)
def Sim (nA nO nP : Nat) (g h : xSt) : Prop := WF nA nO nP g ∧ Eqs g h ∧ Bits g h
theorem Sim.frC {nA nO nP : Nat} {g h h' : xSt} (S : Sim nA nO nP g h) (F : FrC h h') : Sim nA nO nP g h' := by
  obtain ⟨W, E, B⟩ := S
  refine ⟨W, ?_, ?_⟩
  · unfold Eqs at *
    simp only [F _ (show 40 ≤ 41 by decide), F _ (show 40 ≤ 42 by decide), F _ (show 40 ≤ 43 by decide), F _ (show 40 ≤ 44 by decide), F _ (show 40 ≤ 45 by decide), F _ (show 40 ≤ 47 by decide), F _ (show 40 ≤ 48 by decide), F _ (show 40 ≤ 49 by decide), F _ (show 40 ≤ 50 by decide), F _ (show 40 ≤ 51 by decide), F _ (show 40 ≤ 52 by decide), F _ (show 40 ≤ 53 by decide), F _ (show 40 ≤ 54 by decide), F _ (show 40 ≤ 55 by decide), F _ (show 40 ≤ 56 by decide), F _ (show 40 ≤ 57 by decide), F _ (show 40 ≤ 59 by decide), F _ (show 40 ≤ 60 by decide), F _ (show 40 ≤ 61 by decide), F _ (show 40 ≤ 62 by decide), F _ (show 40 ≤ 66 by decide)]
    exact E
  · unfold Bits at *
    simp only [F _ (show 40 ≤ 58 by decide)]
    exact B
/-- class registers alike -/
theorem Sim.same {nA nO nP : Nat} {g g' h : xSt} (S : Sim nA nO nP g h) (F : ∀ m, m < 40 → g' m = g m) : Sim nA nO nP g' h := by
  obtain ⟨W, E, B⟩ := S
  refine ⟨?_, ?_, ?_⟩
  · unfold WF at *
    simp only [F 0 (by decide), F 1 (by decide), F 23 (by decide), F 2 (by decide), F 27 (by decide), F 28 (by decide), F 33 (by decide), F 31 (by decide), F 20 (by decide), F 21 (by decide), F 15 (by decide)]
    exact W
  · unfold Eqs at *
    simp only [F 0 (by decide), F 1 (by decide), F 23 (by decide), F 2 (by decide), F 3 (by decide), F 24 (by decide), F 25 (by decide), F 26 (by decide), F 27 (by decide), F 28 (by decide), F 30 (by decide), F 31 (by decide), F 32 (by decide), F 33 (by decide), F 34 (by decide), F 35 (by decide), F 4 (by decide), F 20 (by decide), F 21 (by decide), F 22 (by decide), F 15 (by decide)]
    exact E
  · unfold Bits at *
    simp only [F 29 (by decide)]
    exact B
theorem Sim.same2 {nA nO nP : Nat} {g h h' : xSt} (S : Sim nA nO nP g h) (F : ∀ m, 41 ≤ m → m ≤ 66 → h' m = h m) : Sim nA nO nP g h' := by
  obtain ⟨W, E, B⟩ := S
  refine ⟨W, ?_, ?_⟩
  · unfold Eqs at *
    simp only [F 41 (by decide) (by decide), F 42 (by decide) (by decide), F 43 (by decide) (by decide), F 44 (by decide) (by decide), F 45 (by decide) (by decide), F 47 (by decide) (by decide), F 48 (by decide) (by decide), F 49 (by decide) (by decide), F 50 (by decide) (by decide), F 51 (by decide) (by decide), F 52 (by decide) (by decide), F 53 (by decide) (by decide), F 54 (by decide) (by decide), F 55 (by decide) (by decide), F 56 (by decide) (by decide), F 57 (by decide) (by decide), F 59 (by decide) (by decide), F 60 (by decide) (by decide), F 61 (by decide) (by decide), F 62 (by decide) (by decide), F 66 (by decide) (by decide)]
    exact E
  · unfold Bits at *
    simp only [F 58 (by decide) (by decide)]
    exact B
theorem Sim.code {nA nO nP : Nat} {g h : xSt} (S : Sim nA nO nP g h) (v : Int32) : Sim nA nO nP g (xw h 40 0 v) :=
  S.same2 fun m h1 h2 => xw_reg h 0 v (by omega)
/-! the checks -/
theorem nI_m1 (n : Nat) : nI (n + 1) - 1 = nI n := by rw [nI_succ]; grind
theorem nI_ne {a b : Nat} (h : a ≠ b) (ha : a < 2 ^ 31) (hb : b < 2 ^ 31) : nI a ≠ nI b := fun e => h ((nI_eq ha hb).1 e)
theorem nI_nneg (a : Nat) (ha : a < 2 ^ 31) : ¬ nI a < 0 := nI_nlt (b := 0) (Nat.zero_le _) ha
theorem th_ok {j n : Nat} (h : j < n) (hn : n ≤ 64) : (∀ g, f_D_checkThere (nI j) (nI n) g = some (0, 0, g)) ∧ ∀ g, f_M_in (nI j) 0 (nI n - 1) g = some (1, g) := by
  obtain ⟨m, rfl⟩ : ∃ m, n = m + 1 := ⟨n - 1, by omega⟩
  refine ⟨fun g => ?_, fun g => ?_⟩
  · rw [f_D_checkThere, if_neg (nI_nneg j (by omega)), if_pos (nI_lt h (by omega))]
  · rw [f_M_in, nI_m1, if_neg (nI_nneg j (by omega)), if_neg (nI_nlt (by omega) (by omega))]
theorem th_bad {p : Int32} {n : Nat} (h : ¬ ∃ j, j < n ∧ p = nI j) (hn : n ≤ 64) : (∀ g, f_D_checkThere p (nI n) g = some (3, 0, g)) ∧ ∀ g, f_M_in p 0 (nI n - 1) g = some (0, g) := by
  by_cases hp : p < 0
  · exact ⟨fun g => by rw [f_D_checkThere, if_pos hp], fun g => by rw [f_M_in, if_pos hp]⟩
  · obtain ⟨j, hj, rfl⟩ := nI_of hp
    have hjn : n ≤ j := Nat.le_of_not_lt fun hl => h ⟨j, hl, rfl⟩
    refine ⟨fun g => by rw [f_D_checkThere, if_neg hp, if_neg (nI_nlt hjn hj)], fun g => ?_⟩
    rw [f_M_in, if_neg hp, if_pos]
    match n, hjn with
    | 0, _ => 
      have h1 : (nI 0 - 1 : Int32) = -1 := by decide
      rw [h1]
      have h2 : ¬ nI j < 0 := hp
      have h3 : (-1 : Int32) < 0 := by decide
      grind
    | m + 1, hm => rw [nI_m1]; exact nI_lt (by omega) hj
theorem rg_ok {p lo hi : Int32} (h1 : ¬ p < lo) (h2 : p ≤ hi) : (∀ g, f_D_checkRange p lo hi g = some (0, 0, g)) ∧ ∀ g, f_M_in p lo hi g = some (1, g) := by
  refine ⟨fun g => by rw [f_D_checkRange, if_neg h1, if_pos h2], fun g => by rw [f_M_in, if_neg h1, if_neg (by grind)]⟩
theorem rg_bad {p lo hi : Int32} (h : ¬ (¬ p < lo ∧ p ≤ hi)) : (∀ g, f_D_checkRange p lo hi g = some (1, 0, g)) ∧ ∀ g, f_M_in p lo hi g = some (0, g) := by
  by_cases h1 : p < lo
  · exact ⟨fun g => by rw [f_D_checkRange, if_pos h1], fun g => by rw [f_M_in, if_pos h1]⟩
  · exact ⟨fun g => by rw [f_D_checkRange, if_neg h1, if_neg (by grind)], fun g => by rw [f_M_in, if_neg h1, if_pos (by grind)]⟩
/-! sums -/
def psum (f : Nat → Int32) : Nat → Int32
  | 0 => 0
  | n + 1 => psum f n + f n
theorem psum_congr {f f' : Nat → Int32} : ∀ {n : Nat}, (∀ i, i < n → f i = f' i) → psum f n = psum f' n
  | 0, _ => rfl
  | n + 1, h => by rw [psum, psum, psum_congr fun i hi => h i (by omega), h n (by omega)]
theorem psum_add (f f' : Nat → Int32) : ∀ n, psum (fun i => f i + f' i) n = psum f n + psum f' n
  | 0 => by simp [psum]
  | n + 1 => by rw [psum, psum, psum, psum_add f f' n]; grind
theorem psum_mul (c : Int32) (f : Nat → Int32) : ∀ n, psum (fun i => c * f i) n = c * psum f n
  | 0 => by simp [psum]
  | n + 1 => by rw [psum, psum, psum_mul c f n]; grind
theorem psum_zero : ∀ n, psum (fun _ => 0) n = 0
  | 0 => rfl
  | n + 1 => by rw [psum, psum_zero n]; rfl
theorem psum_out {f f' : Nat → Int32} {k : Nat} (h : ∀ i, i ≠ k → f' i = f i) {n : Nat} (hn : n ≤ k) : psum f' n = psum f n :=
  psum_congr fun i hi => h i (by omega)
theorem psum_one {f f' : Nat → Int32} {k : Nat} (h : ∀ i, i ≠ k → f' i = f i) : ∀ {n : Nat}, k < n → psum f' n = psum f n - f k + f' k
  | 0, hk => absurd hk (by omega)
  | n + 1, hk => by
    rw [psum, psum]
    by_cases e : k = n
    · subst e; rw [psum_out h (Nat.le_refl _)]; grind
    · rw [psum_one h (show k < n by omega), h n (by omega)]; grind
theorem loop_sum (F : Nat → Int32 → Int32 → xSt → Option (Int32 × Int32 × xSt)) (f : Nat → Int32) (N : Nat) (g : xSt)
    (h0 : ∀ n acc, F (n + 1) acc (nI N) g = some (acc, nI N, g))
    (h1 : ∀ n acc i, i < N → F (n + 1) acc (nI i) g = F n (acc + f i) (nI (i + 1)) g) :
    ∀ n i acc, i ≤ N → N - i < n → F n acc (nI i) g = some (acc + (psum f N - psum f i), nI N, g)
  | 0, i, acc, _, h => absurd h (by omega)
  | n + 1, i, acc, hi, h => by
    by_cases e : i = N
    · subst e; rw [h0]; simp only [Option.some.injEq, Prod.mk.injEq, and_true]; grind
    · rw [h1 n acc i (by omega), loop_sum F f N g h0 h1 n (i + 1) _ (by omega) (by omega), psum]; simp only [Option.some.injEq, Prod.mk.injEq, and_true]; grind
theorem loop_sum0 (F : Nat → Int32 → Int32 → xSt → Option (Int32 × Int32 × xSt)) (f : Nat → Int32) (N : Nat) (g : xSt)
    (h0 : ∀ n acc, F (n + 1) acc (nI N) g = some (acc, nI N, g))
    (h1 : ∀ n acc i, i < N → F (n + 1) acc (nI i) g = F n (acc + f i) (nI (i + 1)) g) (n : Nat) (acc : Int32) (h : N < n) : F n acc 0 g = some (acc + psum f N, nI N, g) := by
  have := loop_sum F f N g h0 h1 n 0 acc (by omega) (by omega)
  rw [show (0 : Int32) = nI 0 from rfl, this, psum]; simp
