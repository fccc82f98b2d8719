/-! the search: numbers -/
def nsum (f : Nat → Nat) : Nat → Nat
  | 0 => 0
  | n + 1 => nsum f n + f n
theorem nsum_congr {f f' : Nat → Nat} : ∀ {n : Nat}, (∀ i, i < n → f i = f' i) → nsum f n = nsum f' n
  | 0, _ => rfl
  | n + 1, h => by rw [nsum, nsum, nsum_congr fun i hi => h i (by omega), h n (by omega)]
theorem nsum_one {f f' : Nat → Nat} {k : Nat} (h : ∀ i, i ≠ k → f' i = f i) : ∀ {n : Nat}, k < n → nsum f' n + f k = nsum f n + f' k
  | 0, hk => absurd hk (by omega)
  | n + 1, hk => by
    rw [nsum, nsum]
    by_cases e : k = n
    · subst e; rw [nsum_congr (f := f') (f' := f) fun i hi => h i (by omega)]; omega
    · have := nsum_one h (show k < n by omega)
      rw [h n (by omega)]; omega
theorem nsum_ge {f : Nat → Nat} {k : Nat} : ∀ {n : Nat}, k < n → f k ≤ nsum f n
  | 0, hk => absurd hk (by omega)
  | n + 1, hk => by
    rw [nsum]
    by_cases e : k = n
    · subst e; omega
    · have := nsum_ge (f := f) (show k < n by omega); omega
theorem nsum_mono {f : Nat → Nat} {k : Nat} : ∀ {n : Nat}, k ≤ n → nsum f k ≤ nsum f n
  | 0, hk => by rw [show k = 0 by omega]; exact Nat.le_refl _
  | n + 1, hk => by
    by_cases e : k = n + 1
    · subst e; exact Nat.le_refl _
    · have := nsum_mono (f := f) (show k ≤ n by omega); rw [nsum]; omega
theorem nsum_zero {f : Nat → Nat} : ∀ {n : Nat}, (∀ i, i < n → f i = 0) → nsum f n = 0
  | 0, _ => rfl
  | n + 1, h => by rw [nsum, nsum_zero fun i hi => h i (by omega), h n (by omega)]
def us (B t : Nat → Nat) (b k : Nat) : Nat := nsum (fun j => if B j = b then t j else 0) k
def upN (t : Nat → Nat) (k v : Nat) : Nat → Nat := fun j => if j = k then v else t j
theorem upN_s (t : Nat → Nat) (k v : Nat) : upN t k v k = v := by simp [upN]
theorem upN_n (t : Nat → Nat) {k j : Nat} (v : Nat) (h : j ≠ k) : upN t k v j = t j := by simp [upN, h]
theorem upN_id (t : Nat → Nat) (k : Nat) : upN t k (t k) = t := by funext j; unfold upN; split <;> simp_all
theorem upN_up (t : Nat → Nat) (k u v : Nat) : upN (upN t k u) k v = upN t k v := by funext j; unfold upN; split <;> rfl
theorem us_up (B t : Nat → Nat) {k n : Nat} (u b : Nat) (h : k < n) : us B (upN t k u) b n + (if B k = b then t k else 0) = us B t b n + (if B k = b then u else 0) := by
  have := nsum_one (f := fun j => if B j = b then t j else 0) (f' := fun j => if B j = b then upN t k u j else 0) (k := k) (fun i hi => by simp only [upN_n t u hi]) h
  simp only [upN_s] at this
  unfold us; exact this
theorem us_ge (B t : Nat → Nat) {k n : Nat} (h : k < n) : t k ≤ us B t (B k) n := by
  have := nsum_ge (f := fun j => if B j = B k then t j else 0) h
  unfold us; simpa using this
theorem us_mono (B t : Nat → Nat) (b : Nat) {k n : Nat} (h : k ≤ n) : us B t b k ≤ us B t b n := nsum_mono h
theorem us_tail (B t : Nat → Nat) (b : Nat) {k : Nat} : ∀ {n : Nat}, k ≤ n → (∀ j, k ≤ j → j < n → t j = 0) → us B t b n = us B t b k
  | 0, hk, _ => by rw [show k = 0 by omega]
  | n + 1, hk, hz => by
    by_cases e : k = n + 1
    · rw [e]
    · have := us_tail B t b (show k ≤ n by omega) (fun j h1 h2 => hz j h1 (by omega))
      unfold us at *; rw [nsum, this, hz n (by omega) (by omega)]; simp
theorem us_congr (B : Nat → Nat) {t t' : Nat → Nat} (b : Nat) {k : Nat} (h : ∀ j, j < k → t j = t' j) : us B t b k = us B t' b k :=
  nsum_congr fun i hi => by rw [h i hi]
theorem us_succ (B t : Nat → Nat) (b k : Nat) : us B t b (k + 1) = us B t b k + (if B k = b then t k else 0) := rfl
def wt (N nO : Nat) (A O gv wv t : Nat → Nat) : Nat := nsum (fun j => 2 * t j + (if t j ≠ 0 ∧ t j = gv (A j) then 1 else 0)) N + nsum (fun o => if us O t o N = wv o then 3 else 0) nO
def tb (N : Nat) (A O gv wv t : Nat → Nat) (k : Nat) : Nat := if t k = 0 then 0 else 2 * t k + (if us O t (O k) N = wv (O k) then 3 else 0) + (if t k = gv (A k) then 1 else 0)
theorem wt_take {N nO : Nat} {A O gv wv t : Nat → Nat} {k u : Nat} (hk : k < N) (ho : O k < nO) (h0 : t k = 0) (hu : us O t (O k) N + u ≤ wv (O k)) : wt N nO A O gv wv (upN t k u) = wt N nO A O gv wv t + tb N A O gv wv (upN t k u) k := by
  by_cases e : u = 0
  · subst e
    have : upN t k 0 = t := by rw [← h0]; exact upN_id t k
    rw [this]; simp [tb, h0]
  · have a1 := nsum_one (f := fun j => 2 * t j + (if t j ≠ 0 ∧ t j = gv (A j) then 1 else 0)) (f' := fun j => 2 * upN t k u j + (if upN t k u j ≠ 0 ∧ upN t k u j = gv (A j) then 1 else 0)) (k := k) (fun i hi => by simp only [upN_n t u hi]) hk
    have a2 := nsum_one (f := fun o => if us O t o N = wv o then 3 else 0) (f' := fun o => if us O (upN t k u) o N = wv o then 3 else 0) (k := O k) (fun i hi => by
      have := us_up O t (k := k) (n := N) u i hk
      rw [if_neg (fun q => hi q.symm), if_neg (fun q => hi q.symm)] at this
      simp only [Nat.add_zero] at this
      rw [this]) ho
    have a3 := us_up O t (k := k) (n := N) u (O k) hk
    rw [if_pos rfl, if_pos rfl, h0, Nat.add_zero] at a3
    simp only [upN_s, h0] at a1
    simp only [a3] at a2
    rw [if_neg (show ¬ us O t (O k) N = wv (O k) by omega)] at a2
    simp only [wt, tb, upN_s, a3, if_neg e, ne_eq]
    simp only [e, ne_eq, not_false_eq_true, true_and, not_true_eq_false, false_and, if_false, Nat.mul_zero, Nat.add_zero] at a1
    omega
section
variable {N nA nO : Nat} {A O gv wv : Nat → Nat}
def Stt (N nA nO : Nat) (A O gv wv : Nat → Nat) : Prop := N ≤ 64 ∧ nA ≤ 8 ∧ nO ≤ 8 ∧ (∀ j, j < N → A j < nA ∧ O j < nO) ∧ (∀ a, a < nA → gv a ≤ 6) ∧ (∀ o, o < nO → 1 ≤ wv o ∧ wv o ≤ 6)
def CC (N nA nO : Nat) (A O gv wv : Nat → Nat) (g : xSt) : Prop := g 16 0 = nI N ∧ (∀ j, j < N → g 7 j = nI (A j) ∧ g 8 j = nI (O j)) ∧ (∀ a, a < nA → g 9 a = nI (gv a)) ∧ (∀ o, o < nO → g 10 o = nI (wv o))
def MC (N nA nO : Nat) (A O gv wv : Nat → Nat) (h : xSt) : Prop := h 46 0 = nI N ∧ (∀ j, j < N → h 63 j = nI (A j) ∧ h 64 j = nI (O j)) ∧ (∀ a, a < nA → h 50 a - h 51 a = nI (gv a)) ∧ (∀ o, o < nO → h 53 o = nI (wv o)) ∧ h 42 0 = nI nO
def CR (N nA nO : Nat) (A O gv wv : Nat → Nat) (g : xSt) (t : Nat → Nat) : Prop := (∀ a, a < nA → us A t a N ≤ gv a ∧ g 11 a = nI (gv a - us A t a N)) ∧ (∀ o, o < nO → us O t o N ≤ wv o ∧ g 12 o = nI (wv o - us O t o N)) ∧ (∀ j, j < N → g 13 j = nI (t j)) ∧ g 17 0 = nI (wt N nO A O gv wv t)
def SF (g g' : xSt) : Prop := ∀ m, m ≠ 11 → m ≠ 12 → m ≠ 13 → m ≠ 17 → g' m = g m
theorem SF.refl (g : xSt) : SF g g := fun _ _ _ _ _ => rfl
theorem SF.trans {a b c : xSt} (h : SF a b) (k : SF b c) : SF a c := fun m h1 h2 h3 h4 => (k m h1 h2 h3 h4).trans (h m h1 h2 h3 h4)
theorem CC.sf {g g' : xSt} (C : CC N nA nO A O gv wv g) (F : SF g g') : CC N nA nO A O gv wv g' := by
  unfold CC at *
  rw [F 16 (by decide) (by decide) (by decide) (by decide), F 7 (by decide) (by decide) (by decide) (by decide), F 8 (by decide) (by decide) (by decide) (by decide), F 9 (by decide) (by decide) (by decide) (by decide), F 10 (by decide) (by decide) (by decide) (by decide)]
  exact C
theorem nI_2 (x : Nat) : (2 : Int32) * nI x = nI (2 * x) := by
  unfold nI; rw [show (2 : Int32) = Int32.ofNat 2 from rfl, ← Int32.ofNat_mul]
theorem nI_z {x : Nat} (h : x < 2 ^ 31) : nI x = 0 ↔ x = 0 := nI_eq (b := 0) h (by decide)
theorem S_touchesBy {g : xSt} {t : Nat → Nat} (T : Stt N nA nO A O gv wv) (C : CC N nA nO A O gv wv g) {k : Nat} (hk : k < N) (h13 : g 13 k = nI (t k)) (htk : t k ≤ 6) (hle : us O t (O k) N ≤ wv (O k)) (h12 : g 12 (O k) = nI (wv (O k) - us O t (O k) N)) : f_S_touchesBy (nI k) g = some (nI (tb N A O gv wv t k), g) := by
  obtain ⟨tN, tA, tO, tAO, tg, tw⟩ := T
  obtain ⟨c1, c2, c3, c4⟩ := C
  obtain ⟨q1, q2⟩ := c2 k hk
  obtain ⟨q3, q4⟩ := tAO k hk
  have q5 := tg _ q3
  have q6 := tw _ q4
  rw [f_S_touchesBy, nI_clamp (n := k) (by omega), h13, q1, q2, nI_clamp (n := O k) (by omega), nI_clamp (n := A k) (by omega), h12, c3 _ q3, nI_2]
  simp only [if_neg (nin (show k < 64 by omega) (show 64 ≤ 65 by decide)), if_neg (nin (show O k < 8 by omega) (show 8 ≤ 65 by decide)), if_neg (nin (show A k < 8 by omega) (show 8 ≤ 65 by decide)), nI_z (show t k < 2 ^ 31 by omega), nI_z (show wv (O k) - us O t (O k) N < 2 ^ 31 by omega), nI_eq (show t k < 2 ^ 31 by omega) (show gv (A k) < 2 ^ 31 by omega), tb, show (3 : Int32) = nI 3 from rfl, nI_add, nI_1]
  by_cases e0 : t k = 0
  · rw [if_pos e0, if_pos e0]; rfl
  · rw [if_neg e0, if_neg e0]
    by_cases e1 : us O t (O k) N = wv (O k)
    · rw [if_pos (show wv (O k) - us O t (O k) N = 0 by omega), if_pos e1]
      by_cases e2 : t k = gv (A k)
      · rw [if_pos e2, if_pos e2]
      · rw [if_neg e2, if_neg e2] <;> simp
    · rw [if_neg (show ¬ wv (O k) - us O t (O k) N = 0 by omega), if_neg e1]
      by_cases e2 : t k = gv (A k)
      · rw [if_pos e2, if_pos e2] <;> simp
      · rw [if_neg e2, if_neg e2] <;> simp
theorem CR_t6 {g : xSt} {t : Nat → Nat} (T : Stt N nA nO A O gv wv) (R : CR N nA nO A O gv wv g t) {k : Nat} (hk : k < N) : t k ≤ 6 := by
  obtain ⟨tN, tA, tO, tAO, tg, tw⟩ := T
  have := us_ge A t hk
  have := (R.1 _ (tAO k hk).1).1
  have := tg _ (tAO k hk).1
  omega
theorem S_take {g : xSt} {t : Nat → Nat} (T : Stt N nA nO A O gv wv) (C : CC N nA nO A O gv wv g) (R : CR N nA nO A O gv wv g t) {k u : Nat} (hk : k < N) (h0 : t k = 0) (hg : us A t (A k) N + u ≤ gv (A k)) (hw : us O t (O k) N + u ≤ wv (O k)) : ∃ g', f_S_take (nI k) (nI u) g = some g' ∧ CR N nA nO A O gv wv g' (upN t k u) ∧ SF g g' := by
  have T' := T
  have C' := C
  obtain ⟨tN, tA, tO, tAO, tg, tw⟩ := T
  obtain ⟨c1, c2, c3, c4⟩ := C
  obtain ⟨q1, q2⟩ := c2 k hk
  obtain ⟨q3, q4⟩ := tAO k hk
  have q5 := tg _ q3
  have q6 := tw _ q4
  obtain ⟨R1, R2, R3, R4⟩ := R
  have uA : ∀ b, us A (upN t k u) b N = us A t b N + (if A k = b then u else 0) := fun b => by have := us_up A t (k := k) (n := N) u b hk; rw [h0] at this; simpa using this
  have uO : ∀ b, us O (upN t k u) b N = us O t b N + (if O k = b then u else 0) := fun b => by have := us_up O t (k := k) (n := N) u b hk; rw [h0] at this; simpa using this
  let g3 : xSt := xw (xw (xw g 11 (A k) (nI (gv (A k) - us A t (A k) N - u))) 12 (O k) (nI (wv (O k) - us O t (O k) N - u))) 13 k (nI u)
  have F3 : SF g g3 := fun m h1 h2 h3 h4 => by simp [g3, xwR, h1, h2, h3]
  have tbv := S_touchesBy (t := upN t k u) T' (C'.sf F3) hk (by simp [g3, xwE, upN_s]) (by rw [upN_s]; omega) (by rw [uO, if_pos rfl]; omega) (by rw [uO, if_pos rfl]; simp [g3, xwE]; congr 1; omega)
  refine ⟨xw g3 17 0 (nI (wt N nO A O gv wv (upN t k u))), ?_, ⟨fun a ha => ?_, fun o ho => ?_, fun j hj => ?_, xw_self _ _ _ _⟩, F3.trans fun m h1 h2 h3 h4 => by rw [xw_reg _ _ _ h4]⟩
  · have s1 : (xw g 11 (A k) (nI (gv (A k) - us A t (A k) N - u))) 8 k = nI (O k) := by simp [xwE, q2]
    have s2 : (xw g 11 (A k) (nI (gv (A k) - us A t (A k) N - u))) 12 (O k) = nI (wv (O k) - us O t (O k) N) := by simp [xwE, (R2 _ q4).2]
    rw [f_S_take, nI_clamp (n := k) (by omega), q1, nI_clamp (n := A k) (by omega), (R1 _ q3).2, pk_sub (show u ≤ gv (A k) - us A t (A k) N by omega)]
    simp only [if_neg (nin (show k < 64 by omega) (show 64 ≤ 65 by decide)), if_neg (nin (show A k < 8 by omega) (show 8 ≤ 65 by decide)), ob_b, s1]
    rw [nI_clamp (n := O k) (by omega), s2, pk_sub (show u ≤ wv (O k) - us O t (O k) N by omega)]
    simp only [if_neg (nin (show O k < 8 by omega) (show 8 ≤ 65 by decide))]
    show ob2 (f_S_touchesBy (nI k) g3) _ = _
    rw [tbv, ob2_mk, wt_take hk q4 h0 hw, ← nI_add]
    show some (xw g3 17 0 (g3 17 0 + _)) = _
    rw [show g3 17 0 = nI (wt N nO A O gv wv t) by simp [g3, xwE, R4]]
  · rw [uA]
    by_cases e : A k = a
    · subst e; rw [if_pos rfl]; exact ⟨hg, by simp [g3, xwE]; congr 1; omega⟩
    · rw [if_neg e]; have := R1 a ha
      exact ⟨this.1, by simp [g3, xwE, this.2, show ¬ a = A k from fun q => e q.symm]⟩
  · rw [uO]
    by_cases e : O k = o
    · subst e; rw [if_pos rfl]; exact ⟨hw, by simp [g3, xwE]; congr 1; omega⟩
    · rw [if_neg e]; have := R2 o ho
      exact ⟨this.1, by simp [g3, xwE, this.2, show ¬ o = O k from fun q => e q.symm]⟩
  · by_cases e : j = k
    · subst e; simp [g3, xwE, upN_s]
    · rw [upN_n t u e]; simp [g3, xwE, e, R3 j hj]
theorem S_putBack {g : xSt} {t : Nat → Nat} (T : Stt N nA nO A O gv wv) (C : CC N nA nO A O gv wv g) (R : CR N nA nO A O gv wv g t) {k : Nat} (hk : k < N) : ∃ g', f_S_putBack (nI k) g = some g' ∧ CR N nA nO A O gv wv g' (upN t k 0) ∧ SF g g' := by
  have T' := T
  have C' := C
  have R' := R
  obtain ⟨tN, tA, tO, tAO, tg, tw⟩ := T
  obtain ⟨c1, c2, c3, c4⟩ := C
  obtain ⟨q1, q2⟩ := c2 k hk
  obtain ⟨q3, q4⟩ := tAO k hk
  have q5 := tg _ q3
  have q6 := tw _ q4
  have ht := CR_t6 T' R' hk
  obtain ⟨R1, R2, R3, R4⟩ := R
  have uA : ∀ b, us A t b N = us A (upN t k 0) b N + (if A k = b then t k else 0) := fun b => by have := us_up A t (k := k) (n := N) 0 b hk; simpa using this.symm
  have uO : ∀ b, us O t b N = us O (upN t k 0) b N + (if O k = b then t k else 0) := fun b => by have := us_up O t (k := k) (n := N) 0 b hk; simpa using this.symm
  have tbv := S_touchesBy (t := t) T' C' hk (R3 k hk) ht (R2 _ q4).1 (R2 _ q4).2
  have wtt := wt_take (N := N) (nO := nO) (A := A) (O := O) (gv := gv) (wv := wv) (t := upN t k 0) (k := k) (u := t k) hk q4 (upN_s _ _ _) (by have := uO (O k); rw [if_pos rfl] at this; have := (R2 _ q4).1; omega)
  rw [upN_up, upN_id] at wtt
  have k1 := uA (A k)
  have k2 := uO (O k)
  rw [if_pos rfl] at k1 k2
  have l1 := (R1 _ q3).1
  have l2 := (R2 _ q4).1
  let g3 : xSt := xw (xw (xw (xw g 17 0 (nI (wt N nO A O gv wv (upN t k 0)))) 11 (A k) (nI (gv (A k) - us A (upN t k 0) (A k) N))) 12 (O k) (nI (wv (O k) - us O (upN t k 0) (O k) N))) 13 k 0
  refine ⟨g3, ?_, ⟨fun a ha => ?_, fun o ho => ?_, fun j hj => ?_, by simp [g3, xwE]⟩, fun m h1 h2 h3 h4 => by simp [g3, xwR, h1, h2, h3, h4]⟩
  · have a1 : gv (A k) - us A t (A k) N + t k = gv (A k) - us A (upN t k 0) (A k) N := by omega
    have a2 : wv (O k) - us O t (O k) N + t k = wv (O k) - us O (upN t k 0) (O k) N := by omega
    rw [f_S_putBack, tbv, ob2_mk, ob_b, R4, pk_sub (by omega), show wt N nO A O gv wv t - tb N A O gv wv t k = wt N nO A O gv wv (upN t k 0) by omega]
    simp only [xwE, nI_clamp (n := k) (show k < 2 ^ 31 by omega)]
    simp only [xwE, nI_clamp (n := k) (show k < 2 ^ 31 by omega), q1, q2, R3 k hk, show (7 : Nat) ≠ 17 by decide, show (8 : Nat) ≠ 17 by decide, show (8 : Nat) ≠ 11 by decide, show (11 : Nat) ≠ 17 by decide, show (13 : Nat) ≠ 17 by decide, show (13 : Nat) ≠ 11 by decide, show (13 : Nat) ≠ 12 by decide, show (12 : Nat) ≠ 17 by decide, show (12 : Nat) ≠ 11 by decide, false_and, if_false, nI_clamp (n := A k) (show A k < 2 ^ 31 by omega), nI_clamp (n := O k) (show O k < 2 ^ 31 by omega), (R1 _ q3).2, (R2 _ q4).2, nI_add, a1, a2, ob_b, if_neg (nin (show k < 64 by omega) (show 64 ≤ 65 by decide)), if_neg (nin (show A k < 8 by omega) (show 8 ≤ 65 by decide)), if_neg (nin (show O k < 8 by omega) (show 8 ≤ 65 by decide))]
    rfl
  · have := R1 a ha
    have k3 := uA a
    by_cases e : A k = a
    · subst e; exact ⟨by omega, by simp [g3, xwE]⟩
    · rw [if_neg e, Nat.add_zero] at k3
      rw [← k3]
      exact ⟨this.1, by simp [g3, xwE, this.2, show ¬ a = A k from fun q => e q.symm]⟩
  · have := R2 o ho
    have k3 := uO o
    by_cases e : O k = o
    · subst e; exact ⟨by omega, by simp [g3, xwE]⟩
    · rw [if_neg e, Nat.add_zero] at k3
      rw [← k3]
      exact ⟨this.1, by simp [g3, xwE, this.2, show ¬ o = O k from fun q => e q.symm]⟩
  · by_cases e : j = k
    · subst e; rw [upN_s]; simp [g3, xwE]; rfl
    · rw [upN_n t 0 e]; simp [g3, xwE, e, R3 j hj]
def capm (N : Nat) (A O gv wv t : Nat → Nat) (k : Nat) : Nat := if wv (O k) - us O t (O k) N < gv (A k) - us A t (A k) N then wv (O k) - us O t (O k) N else gv (A k) - us A t (A k) N
theorem S_greatest {g : xSt} {t : Nat → Nat} (T : Stt N nA nO A O gv wv) (C : CC N nA nO A O gv wv g) (R : CR N nA nO A O gv wv g t) {k : Nat} (hk : k < N) : f_S_greatest (nI k) g = some (nI (capm N A O gv wv t k), g) := by
  obtain ⟨tN, tA, tO, tAO, tg, tw⟩ := T
  obtain ⟨c1, c2, c3, c4⟩ := C
  obtain ⟨q1, q2⟩ := c2 k hk
  obtain ⟨q3, q4⟩ := tAO k hk
  have q5 := tg _ q3
  have q6 := tw _ q4
  obtain ⟨R1, R2, R3, R4⟩ := R
  rw [f_S_greatest, nI_clamp (n := k) (by omega), q1, q2, nI_clamp (n := A k) (by omega), nI_clamp (n := O k) (by omega), (R1 _ q3).2, (R2 _ q4).2]
  simp only [if_neg (nin (show k < 64 by omega) (show 64 ≤ 65 by decide)), if_neg (nin (show A k < 8 by omega) (show 8 ≤ 65 by decide)), if_neg (nin (show O k < 8 by omega) (show 8 ≤ 65 by decide)), nI_ltI (show wv (O k) - us O t (O k) N < 2 ^ 31 by omega) (show gv (A k) - us A t (A k) N < 2 ^ 31 by omega), capm]
  split <;> rfl
theorem M_greatL {h : xSt} {t : Nat → Nat} (fu : Nat) (T : Stt N nA nO A O gv wv) (M : MC N nA nO A O gv wv h) {k : Nat} (hk : k < N) (hp : ∀ j, j < k → h 65 j = nI (t j)) (h1 : us A t (A k) k ≤ gv (A k)) (h2 : us O t (O k) k ≤ wv (O k)) : ∀ n i, i ≤ k → k - i < n → f_M_greatest_L26 fu (nI k) n (nI (gv (A k) - us A t (A k) i)) (nI (wv (O k) - us O t (O k) i)) (nI i) h = some (nI (gv (A k) - us A t (A k) k), nI (wv (O k) - us O t (O k) k), nI k, h)
  | 0, i, _, hn => absurd hn (by omega)
  | n + 1, i, hi, hn => by
    have T' := T
    obtain ⟨tN, tA, tO, tAO, tg, tw⟩ := T
    rw [f_M_greatest_L26]
    by_cases e : i = k
    · subst e; rw [if_pos (nI_le (Nat.le_refl _) (by omega))]
    · have ih := M_greatL fu T' M hk hp h1 h2 n (i + 1) (by omega) (by omega)
      rw [us_succ, us_succ] at ih
      obtain ⟨q1, q2⟩ := M.2.1 i (by omega)
      obtain ⟨q3, q4⟩ := M.2.1 k hk
      have m1 := us_mono A t (A k) (show i + 1 ≤ k by omega)
      have m2 := us_mono O t (O k) (show i + 1 ≤ k by omega)
      rw [us_succ] at m1 m2
      have b1 := tAO i (by omega); have b2 := tAO k hk
      rw [if_neg (nI_ge (show i < k by omega) (by omega)), nI_clamp (n := i) (by omega), nI_clamp (n := k) (by omega), q1, q2, q3, q4, hp i (by omega), nI_1]
      simp only [if_neg (nin (show i < 64 by omega) (show 64 ≤ 65 by decide)), if_neg (nin (show i < 65 by omega) (show 65 ≤ 65 by decide)), if_neg (nin (show k < 64 by omega) (show 64 ≤ 65 by decide)), nI_eq (show A i < 2 ^ 31 by omega) (show A k < 2 ^ 31 by omega), nI_eq (show O i < 2 ^ 31 by omega) (show O k < 2 ^ 31 by omega)]
      by_cases eA : A i = A k <;> by_cases eO : O i = O k
      · rw [if_pos eA] at m1 ih; rw [if_pos eO] at m2 ih
        rw [if_pos eA, if_pos eO, pk_sub (by omega), pk_sub (by omega), Nat.sub_sub, Nat.sub_sub]; exact ih
      · rw [if_pos eA] at m1 ih; rw [if_neg eO] at m2 ih
        rw [if_pos eA, if_neg eO, pk_sub (by omega), Nat.sub_sub]; simpa using ih
      · rw [if_neg eA] at m1 ih; rw [if_pos eO] at m2 ih
        rw [if_neg eA, if_pos eO, pk_sub (show t i ≤ wv (O k) - us O t (O k) i by omega), Nat.sub_sub]; simpa using ih
      · rw [if_neg eA] at m1 ih; rw [if_neg eO] at m2 ih
        rw [if_neg eA, if_neg eO]; simpa using ih
theorem M_greatest {h : xSt} {t : Nat → Nat} (fu : Nat) (hf : 65 < fu) (T : Stt N nA nO A O gv wv) (M : MC N nA nO A O gv wv h) {k : Nat} (hk : k < N) (hp : ∀ j, j < k → h 65 j = nI (t j)) (hz : ∀ j, k ≤ j → j < N → t j = 0) (h1 : us A t (A k) N ≤ gv (A k)) (h2 : us O t (O k) N ≤ wv (O k)) : f_M_greatest fu (nI k) h = some (nI (capm N A O gv wv t k), h) := by
  have e1 := us_tail A t (A k) (show k ≤ N by omega) hz
  have e2 := us_tail O t (O k) (show k ≤ N by omega) hz
  have L := M_greatL fu T M hk hp (by rw [← e1]; exact h1) (by rw [← e2]; exact h2) fu 0 (by omega) (by have := T.1; omega)
  obtain ⟨tN, tA, tO, tAO, tg, tw⟩ := T
  obtain ⟨b1, b2⟩ := tAO k hk
  have q5 := tg _ b1
  have q6 := tw _ b2
  obtain ⟨q3, q4⟩ := M.2.1 k hk
  simp only [f_M_greatest, f_M_has, nI_clamp (n := k) (show k < 2 ^ 31 by omega), q3, q4, nI_clamp (n := A k) (show A k < 2 ^ 31 by omega), nI_clamp (n := O k) (show O k < 2 ^ 31 by omega), M.2.2.1 _ b1, M.2.2.2.1 _ b2, if_neg (nin (show k < 64 by omega) (show 64 ≤ 65 by decide)), if_neg (nin (show A k < 8 by omega) (show 8 ≤ 65 by decide)), if_neg (nin (show O k < 8 by omega) (show 8 ≤ 65 by decide)), ob2_mk]
  rw [show (0 : Int32) = nI 0 from rfl, show nI (gv (A k)) = nI (gv (A k) - us A t (A k) 0) from rfl, show nI (wv (O k)) = nI (wv (O k) - us O t (O k) 0) from rfl, L, ob4_mk]
  simp only [nI_leI (show wv (O k) - us O t (O k) k < 2 ^ 31 by omega) (show gv (A k) - us A t (A k) k < 2 ^ 31 by omega), capm, e1, e2]
  by_cases q : wv (O k) - us O t (O k) k < gv (A k) - us A t (A k) k
  · rw [if_pos q, if_pos (by omega)]
  · rw [if_neg q]
    by_cases q2 : wv (O k) - us O t (O k) k ≤ gv (A k) - us A t (A k) k
    · rw [if_pos q2]; congr 3; omega
    · rw [if_neg q2]
end
