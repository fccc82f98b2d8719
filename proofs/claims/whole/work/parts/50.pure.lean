/-! the two sorts against the two counts -/
def gs12 (A K : Nat) (b1 : Int32) : Nat → Int32 → xSt → Option (Int32 × xSt)
  | 0, _, _ => none
  | n + 1, a2, g => (if a2 ≤ 0 then some (a2, g) else (if (a2 - ((1 : Int32))) < 0 ∨ 8 ≤ (a2 - ((1 : Int32))).toNatClampNeg then none else (if (g A (a2 - ((1 : Int32))).toNatClampNeg) < 0 ∨ 8 ≤ (g A (a2 - ((1 : Int32))).toNatClampNeg).toNatClampNeg then none else (if b1 < 0 ∨ 8 ≤ b1.toNatClampNeg then none else (if (g K ((g A (a2 - ((1 : Int32))).toNatClampNeg).toNatClampNeg)) ≤ (g K b1.toNatClampNeg) then some (a2, g) else (if (a2 - ((1 : Int32))) < 0 ∨ 8 ≤ (a2 - ((1 : Int32))).toNatClampNeg then none else (if a2 < 0 ∨ 8 ≤ a2.toNatClampNeg then none else (Option.bind (some (xw g A a2.toNatClampNeg (g A (a2 - ((1 : Int32))).toNatClampNeg))) (fun g11 => gs12 A K b1 n (a2 + (-1 : Int32)) g11)))))))))
def gs2 (A K C fu : Nat) : Nat → Int32 → xSt → Option (Int32 × xSt)
  | 0, _, _ => none
  | n + 1, a1, g => (if (g C 0) ≤ a1 then some (a1, g) else (ob2 (gs12 A K a1 fu a1 g) (fun x13 g14 => (if x13 < 0 ∨ 8 ≤ x13.toNatClampNeg then none else (Option.bind (some (xw g14 A x13.toNatClampNeg a1)) (fun g17 => gs2 A K C fu n (a1 + (1 : Int32)) g17))))))
theorem so12 (fu : Nat) (b1 : Int32) : ∀ n a g, f_D_sortOrders_L12 fu b1 n a g = gs12 5 32 b1 n a g
  | 0, a, g => rfl
  | n + 1, a, g => by rw [f_D_sortOrders_L12, gs12]; simp only [so12 fu b1 n]
theorem sa12 (fu : Nat) (b1 : Int32) : ∀ n a g, f_D_sortArrivals_L12 fu b1 n a g = gs12 6 26 b1 n a g
  | 0, a, g => rfl
  | n + 1, a, g => by rw [f_D_sortArrivals_L12, gs12]; simp only [sa12 fu b1 n]
theorem so2 (fu : Nat) : ∀ n a g, f_D_sortOrders_L2 fu n a g = gs2 5 32 1 fu n a g
  | 0, a, g => rfl
  | n + 1, a, g => by rw [f_D_sortOrders_L2, gs2]; simp only [so2 fu n, so12]
theorem sa2 (fu : Nat) : ∀ n a g, f_D_sortArrivals_L2 fu n a g = gs2 6 26 0 fu n a g
  | 0, a, g => rfl
  | n + 1, a, g => by rw [f_D_sortArrivals_L2, gs2]; simp only [sa2 fu n, sa12]
def bef (key : Nat → Int32) (x y : Nat) : Prop := key x < key y ∨ (key x = key y ∧ x < y)
theorem bef_tr {key : Nat → Int32} {x y z : Nat} (h : bef key x y) (k : bef key y z) : bef key x z := by
  unfold bef at *
  rcases h with h | ⟨h, h'⟩ <;> rcases k with k | ⟨k, k'⟩
  · left; grind
  · left; grind
  · left; grind
  · right; exact ⟨h.trans k, by omega⟩
theorem bef_ir {key : Nat → Int32} {x : Nat} : ¬ bef key x x := by
  unfold bef; intro h
  rcases h with h | ⟨_, h⟩
  · grind
  · omega
theorem bef_tri {key : Nat → Int32} {x y : Nat} (h : x ≠ y) : bef key x y ∨ bef key y x := by
  unfold bef
  by_cases a : key x < key y
  · exact Or.inl (Or.inl a)
  · by_cases b : key y < key x
    · exact Or.inr (Or.inl b)
    · have e : key x = key y := by grind
      by_cases c : x < y
      · exact Or.inl (Or.inr ⟨e, c⟩)
      · exact Or.inr (Or.inr ⟨e.symm, by omega⟩)
def befb (key : Nat → Int32) (x y : Nat) : Bool := if key x < key y then true else if key x = key y then decide (x < y) else false
theorem befb_iff {key : Nat → Int32} {x y : Nat} : befb key x y = true ↔ bef key x y := by
  unfold befb bef
  by_cases a : key x < key y
  · simp [a]
  · by_cases b : key x = key y <;> simp [a, b]
def cnt (key : Nat → Int32) (y : Nat) : Nat → Nat
  | 0 => 0
  | k + 1 => cnt key y k + (if befb key k y then 1 else 0)
theorem cnt_le (key : Nat → Int32) (y : Nat) : ∀ k, cnt key y k ≤ k
  | 0 => Nat.le_refl _
  | k + 1 => by have := cnt_le key y k; rw [cnt]; split <;> omega
theorem cnt_mono {key : Nat → Int32} {x y : Nat} (h : bef key x y) : ∀ k, cnt key x k ≤ cnt key y k
  | 0 => Nat.le_refl _
  | k + 1 => by
    have := cnt_mono h k
    rw [cnt, cnt]
    by_cases q : befb key k x
    · have : befb key k y = true := befb_iff.2 (bef_tr (befb_iff.1 q) h)
      rw [if_pos q, if_pos this]; omega
    · rw [if_neg q]; split <;> omega
theorem cnt_smono {key : Nat → Int32} {x y : Nat} (h : bef key x y) : ∀ k, x < k → cnt key x k + 1 ≤ cnt key y k
  | 0, hk => absurd hk (by omega)
  | k + 1, hk => by
    rw [cnt, cnt]
    by_cases e : x = k
    · subst e
      have h1 := cnt_mono h x
      have h2 : ¬ befb key x x = true := fun q => bef_ir (befb_iff.1 q)
      have h3 : befb key x y = true := befb_iff.2 h
      rw [if_neg h2, if_pos h3]; omega
    · have h1 := cnt_smono h k (by omega)
      by_cases q : befb key k x
      · have : befb key k y = true := befb_iff.2 (bef_tr (befb_iff.1 q) h)
        rw [if_pos q, if_pos this]; omega
      · rw [if_neg q]; split <;> omega
def SI (f : Nat → Int32) (key : Nat → Int32) (k : Nat) : Prop := ∀ i, i < k → ∃ s, s < k ∧ f i = nI s ∧ cnt key s k = i
def hole (f : Nat → Int32) (a k : Nat) : Nat → Int32 := fun i => if a < i ∧ i ≤ k then f (i - 1) else f i
theorem hole_k (f : Nat → Int32) (k : Nat) : hole f k k = f := by funext i; unfold hole; rw [if_neg (by omega)]
theorem hole_s (f : Nat → Int32) {a k : Nat} (h : a + 1 ≤ k) : upd (hole f (a + 1) k) (a + 1) (f a) = hole f a k := by
  funext j; unfold upd hole
  by_cases e : j = a + 1
  · subst e; rw [if_pos rfl, if_pos (by omega)]; rfl
  · rw [if_neg e]
    by_cases e2 : a + 1 < j ∧ j ≤ k
    · rw [if_pos e2, if_pos (by omega)]
    · rw [if_neg e2, if_neg (by omega)]
theorem xw_up (g : xSt) (A : Nat) (f : Nat → Int32) (i : Nat) (v : Int32) : xw (va_up g A f) A i v = va_up g A (upd f i v) := by
  funext m; rw [xwR, upE, upE, upE]; split <;> simp_all
theorem up_up (g : xSt) (A : Nat) (f f' : Nat → Int32) : va_up (va_up g A f) A f' = va_up g A f' := by
  funext m; rw [upE, upE, upE]; split <;> rfl
theorem up_id (g : xSt) (A : Nat) : va_up g A (g A) = g := by
  funext m; rw [upE]; split
  · rename_i e; rw [e]
  · rfl
theorem ins_loop {A K : Nat} (hAK : K ≠ A) {g : xSt} {f : Nat → Int32} {k : Nat} (hk : k < 8) (hs : SI f (g K) k) : ∀ a n, a ≤ k → a < n → (∀ i, a ≤ i → i < k → ∀ s, f i = nI s → s < k → g K k < g K s) →
    ∃ b, b ≤ a ∧ gs12 A K (nI k) n (nI a) (va_up g A (hole f a k)) = some (nI b, va_up g A (hole f b k)) ∧ (∀ i, b ≤ i → i < k → ∀ s, f i = nI s → s < k → g K k < g K s) ∧ (∀ m s, m + 1 = b → f m = nI s → s < k → g K s ≤ g K k)
  | _, 0, _, hn, _ => absurd hn (by omega)
  | 0, n + 1, _, _, hb => ⟨0, Nat.le_refl _, by rw [gs12, if_pos (by decide)], hb, fun m s h => by omega⟩
  | a + 1, n + 1, ha, hn, hb => by
    obtain ⟨s, s1, s2, s3⟩ := hs a (by omega)
    have r1 : (va_up g A (hole f (a + 1) k)) A a = nI s := by rw [upE, if_pos rfl]; unfold hole; rw [if_neg (by omega), s2]
    have r2 : (va_up g A (hole f (a + 1) k)) K = g K := by rw [upE, if_neg hAK]
    rw [gs12, if_neg (show ¬ nI (a + 1) ≤ (0 : Int32) from nI_ge (a := 0) (show 0 < a + 1 by omega) (by omega)), nI_m1, nI_clamp (n := a) (by omega), r1, nI_clamp (n := s) (by omega), nI_clamp (n := k) (by omega), r2, nI_clamp (n := a + 1) (by omega)]
    simp only [if_neg (nin (show a < 8 by omega) (show 8 ≤ 65 by decide)), if_neg (nin (show s < 8 by omega) (show 8 ≤ 65 by decide)), if_neg (nin hk (show 8 ≤ 65 by decide)), if_neg (nin (show a + 1 < 8 by omega) (show 8 ≤ 65 by decide)), ob_b]
    by_cases q : g K s ≤ g K k
    · rw [if_pos q]
      refine ⟨a + 1, Nat.le_refl _, rfl, hb, fun m s' hm e hs' => ?_⟩
      have : m = a := by omega
      subst this
      rw [s2, nI_eq (by omega) (by omega)] at e
      subst e; exact q
    · rw [if_neg q, pk_m1, xw_up, ← s2, hole_s f ha]
      obtain ⟨b, b1, b2, b3, b4⟩ := ins_loop hAK hk hs a n (by omega) (by omega) (fun i i1 i2 s' e hs' => by
        by_cases ei : i = a
        · subst ei
          rw [s2, nI_eq (by omega) (by omega)] at e
          subst e; grind
        · exact hb i (by omega) i2 s' e hs')
      exact ⟨b, by omega, b2, b3, b4⟩
theorem ins_si {f : Nat → Int32} {key : Nat → Int32} {k b : Nat} (hk : k < 8) (hs : SI f key k) (hb : b ≤ k) (h1 : ∀ i, b ≤ i → i < k → ∀ s, f i = nI s → s < k → key k < key s) (h2 : ∀ m s, m + 1 = b → f m = nI s → s < k → key s ≤ key k) : SI (upd (hole f b k) b (nI k)) key (k + 1) := by
  intro i hi
  by_cases e1 : i = b
  · subst e1
    refine ⟨k, by omega, by simp [upd], ?_⟩
    have z : ¬ befb key k k = true := fun q => bef_ir (befb_iff.1 q)
    rw [cnt, if_neg z]
    have lo : i ≤ cnt key k k := by
      match i, hb, h2 with
      | 0, _, _ => omega
      | m + 1, hb, h2 =>
        obtain ⟨s, s1, s2, s3⟩ := hs m (by omega)
        have hle := h2 m s rfl s2 s1
        have : bef key s k := by
          by_cases q : key s < key k
          · exact Or.inl q
          · exact Or.inr ⟨by grind, s1⟩
        have := cnt_smono this k s1
        omega
    have hi2 : cnt key k k ≤ i := by
      by_cases e : i = k
      · rw [e]; exact cnt_le key k k
      · obtain ⟨s, s1, s2, s3⟩ := hs i (by omega)
        have := h1 i (Nat.le_refl _) (by omega) s s2 s1
        have := cnt_mono (show bef key k s from Or.inl this) k
        omega
    omega
  · by_cases e2 : i < b
    · obtain ⟨s, s1, s2, s3⟩ := hs i (by omega)
      refine ⟨s, by omega, by simp only [upd, hole, if_neg e1]; rw [if_neg (by omega), s2], ?_⟩
      have : ¬ befb key k s = true := by
        intro q
        have q := befb_iff.1 q
        obtain ⟨m, rfl⟩ : ∃ m, b = m + 1 := ⟨b - 1, by omega⟩
        obtain ⟨s', t1, t2, t3⟩ := hs m (by omega)
        have hle := h2 m s' rfl t2 t1
        have lt : key k < key s := by
          rcases q with q | ⟨_, q⟩
          · exact q
          · omega
        have : bef key s' s := Or.inl (by grind)
        have := cnt_smono this k t1
        omega
      rw [cnt, if_neg this]; omega
    · obtain ⟨s, s1, s2, s3⟩ := hs (i - 1) (by omega)
      refine ⟨s, by omega, by simp only [upd, hole, if_neg e1]; rw [if_pos (by omega), s2], ?_⟩
      have := h1 (i - 1) (by omega) (by omega) s s2 s1
      have : befb key k s = true := befb_iff.2 (Or.inl this)
      rw [cnt, if_pos this]; omega
theorem sort_loop {A K C : Nat} (hAK : K ≠ A) (hAC : C ≠ A) {g : xSt} {N : Nat} (hN : N ≤ 8) (hC : g C 0 = nI N) (fu : Nat) (hf : 65 < fu) : ∀ n k f, SI f (g K) k → k ≤ N → N - k < n → ∃ f', gs2 A K C fu n (nI k) (va_up g A f) = some (nI N, va_up g A f') ∧ SI f' (g K) N
  | 0, k, f, _, _, hn => absurd hn (by omega)
  | n + 1, k, f, hs, hk, hn => by
    rw [gs2, show (va_up g A f) C = g C by rw [upE, if_neg hAC], hC]
    by_cases e : k = N
    · subst e; rw [if_pos (nI_le (Nat.le_refl _) (by omega))]; exact ⟨f, rfl, hs⟩
    · rw [if_neg (nI_ge (show k < N by omega) (by omega))]
      obtain ⟨b, b1, b2, b3, b4⟩ := ins_loop (K := K) hAK (show k < 8 by omega) hs k fu (Nat.le_refl _) (by omega) (fun i h1 h2 => by omega)
      rw [hole_k] at b2
      rw [b2, ob2_mk, nI_clamp (n := b) (by omega), if_neg (nin (show b < 8 by omega) (by decide)), ob_b, xw_up, nI_1]
      exact sort_loop hAK hAC hN hC fu hf n (k + 1) _ (ins_si (by omega) hs b1 b3 b4) (by omega) (by omega)
theorem D_sortOrders {g : xSt} {N : Nat} (hN : N ≤ 8) (hC : g 1 0 = nI N) (fu : Nat) (hf : 65 < fu) : ∃ f', f_D_sortOrders fu g = some (va_up g 5 f') ∧ SI f' (g 32) N := by
  obtain ⟨f', e, h⟩ := sort_loop (A := 5) (K := 32) (C := 1) (by decide) (by decide) hN hC fu hf fu 0 (g 5) (fun i hi => by omega) (by omega) (by omega)
  rw [up_id] at e
  exact ⟨f', by rw [f_D_sortOrders, so2, show (0 : Int32) = nI 0 from rfl, e, ob2_mk], h⟩
theorem D_sortArrivals {g : xSt} {N : Nat} (hN : N ≤ 8) (hC : g 0 0 = nI N) (fu : Nat) (hf : 65 < fu) : ∃ f', f_D_sortArrivals fu g = some (va_up g 6 f') ∧ SI f' (g 26) N := by
  obtain ⟨f', e, h⟩ := sort_loop (A := 6) (K := 26) (C := 0) (by decide) (by decide) hN hC fu hf fu 0 (g 6) (fun i hi => by omega) (by omega) (by omega)
  rw [up_id] at e
  exact ⟨f', by rw [f_D_sortArrivals, sa2, show (0 : Int32) = nI 0 from rfl, e, ob2_mk], h⟩
/-! the model's side -/
theorem M_oBefore {h : xSt} {x y : Nat} (hx : x < 8) (hy : y < 8) : f_M_isOrderBefore (nI x) (nI y) h = some (if befb (h 54) x y then 1 else 0, h) := by
  rw [f_M_isOrderBefore, nI_clamp (n := x) (by omega), nI_clamp (n := y) (by omega)]
  simp only [if_neg (nin hx (show 8 ≤ 65 by decide)), if_neg (nin hy (show 8 ≤ 65 by decide)), befb, nI_leI (show y < 2 ^ 31 by omega) (show x < 2 ^ 31 by omega)]
  by_cases a : h 54 x = h 54 y
  · have b : ¬ h 54 x < h 54 y := by grind
    by_cases c : x < y
    · simp [a, c, show ¬ y ≤ x by omega]
    · simp [a, c, show y ≤ x by omega]
  · by_cases b : h 54 x < h 54 y
    · simp [a, b, show ¬ h 54 y ≤ h 54 x by grind]
    · simp [a, b, show h 54 y ≤ h 54 x by grind]
theorem M_aBefore {h : xSt} {x y : Nat} (hx : x < 8) (hy : y < 8) : f_M_isArrivalBefore (nI x) (nI y) h = some (if befb (h 49) x y then 1 else 0, h) := by
  rw [f_M_isArrivalBefore, nI_clamp (n := x) (by omega), nI_clamp (n := y) (by omega)]
  simp only [if_neg (nin hx (show 8 ≤ 65 by decide)), if_neg (nin hy (show 8 ≤ 65 by decide)), befb, nI_leI (show y < 2 ^ 31 by omega) (show x < 2 ^ 31 by omega)]
  by_cases a : h 49 x = h 49 y
  · have b : ¬ h 49 x < h 49 y := by grind
    by_cases c : x < y
    · simp [a, c, show ¬ y ≤ x by omega]
    · simp [a, c, show y ≤ x by omega]
  · by_cases b : h 49 x < h 49 y
    · simp [a, b, show ¬ h 49 y ≤ h 49 x by grind]
    · simp [a, b, show h 49 y ≤ h 49 x by grind]
theorem psum_cnt (key : Nat → Int32) (y : Nat) : ∀ k, psum (fun x => if befb key x y then 1 else 0) k = nI (cnt key y k)
  | 0 => rfl
  | k + 1 => by rw [psum, cnt, psum_cnt key y k]; split <;> simp [nI_1]
theorem M_oCnt {h : xSt} {N : Nat} (hN : N ≤ 8) (hC : h 42 0 = nI N) (fu : Nat) (hf : 65 < fu) (p : Int32) {y : Nat} (hy : y < 8) : f_M_orderAt_L15 fu p (nI y) fu 0 0 h = some (nI (cnt (h 54) y N), nI N, h) := by
  rw [loop_sum0 (f_M_orderAt_L15 fu p (nI y)) (fun x => if befb (h 54) x y then 1 else 0) N h ?_ ?_ fu 0 (by omega), psum_cnt]
  · simp
  · intro n acc; rw [f_M_orderAt_L15, hC, if_pos (nI_le (Nat.le_refl _) (by omega))]
  · intro n acc i hi
    rw [f_M_orderAt_L15, hC, if_neg (nI_ge hi (by omega)), M_oBefore (by omega) hy, ob2_mk, nI_1]
    by_cases q : befb (h 54) i y <;> simp [q]
theorem M_aCnt {h : xSt} {N : Nat} (hN : N ≤ 8) (hC : h 41 0 = nI N) (fu : Nat) (hf : 65 < fu) (p : Int32) {y : Nat} (hy : y < 8) : f_M_arrivalAt_L15 fu p (nI y) fu 0 0 h = some (nI (cnt (h 49) y N), nI N, h) := by
  rw [loop_sum0 (f_M_arrivalAt_L15 fu p (nI y)) (fun x => if befb (h 49) x y then 1 else 0) N h ?_ ?_ fu 0 (by omega), psum_cnt]
  · simp
  · intro n acc; rw [f_M_arrivalAt_L15, hC, if_pos (nI_le (Nat.le_refl _) (by omega))]
  · intro n acc i hi
    rw [f_M_arrivalAt_L15, hC, if_neg (nI_ge hi (by omega)), M_aBefore (by omega) hy, ob2_mk, nI_1]
    by_cases q : befb (h 49) i y <;> simp [q]
theorem cnt_inj {key : Nat → Int32} {x y N : Nat} (hx : x < N) (hy : y < N) (e : cnt key x N = cnt key y N) : x = y := by
  by_cases q : x = y
  · exact q
  · rcases bef_tri (key := key) q with b | b
    · have := cnt_smono b N hx; omega
    · have := cnt_smono b N hy; omega
theorem M_orderAt {h : xSt} {N : Nat} (hN : N ≤ 8) (hC : h 42 0 = nI N) (fu : Nat) (hf : 65 < fu) {s i : Nat} (hs : s < N) (hi : cnt (h 54) s N = i) : ∀ n x, x ≤ s → s - x < n → f_M_orderAt_L2 fu (nI i) n (nI x) h = some (nI s, h)
  | 0, x, _, hn => absurd hn (by omega)
  | n + 1, x, hx, hn => by
    rw [f_M_orderAt_L2, hC, if_neg (nI_ge (show x < N by omega) (by omega)), M_oCnt hN hC fu hf _ (by omega), ob3_mk, nI_1]
    have c1 := cnt_le (h 54) x N
    have c2 := cnt_le (h 54) s N
    by_cases e : x = s
    · subst e; rw [if_pos (by rw [hi])]
    · rw [if_neg (nI_ne (fun q => e (cnt_inj (by omega) hs (q.trans hi.symm))) (by omega) (by omega))]
      exact M_orderAt hN hC fu hf hs hi n (x + 1) (by omega) (by omega)
theorem M_arrivalAt {h : xSt} {N : Nat} (hN : N ≤ 8) (hC : h 41 0 = nI N) (fu : Nat) (hf : 65 < fu) {s i : Nat} (hs : s < N) (hi : cnt (h 49) s N = i) : ∀ n x, x ≤ s → s - x < n → f_M_arrivalAt_L2 fu (nI i) n (nI x) h = some (nI s, h)
  | 0, x, _, hn => absurd hn (by omega)
  | n + 1, x, hx, hn => by
    rw [f_M_arrivalAt_L2, hC, if_neg (nI_ge (show x < N by omega) (by omega)), M_aCnt hN hC fu hf _ (by omega), ob3_mk, nI_1]
    have c1 := cnt_le (h 49) x N
    have c2 := cnt_le (h 49) s N
    by_cases e : x = s
    · subst e; rw [if_pos (by rw [hi])]
    · rw [if_neg (nI_ne (fun q => e (cnt_inj (by omega) hs (q.trans hi.symm))) (by omega) (by omega))]
      exact M_arrivalAt hN hC fu hf hs hi n (x + 1) (by omega) (by omega)
