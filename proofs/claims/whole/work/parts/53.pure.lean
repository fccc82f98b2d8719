/-! the search: worth, copies, putting all back -/
section
variable {N nA nO : Nat} {A O gv wv : Nat → Nat}
theorem psum_nI (f : Nat → Nat) : ∀ n, psum (fun i => nI (f i)) n = nI (nsum f n)
  | 0 => rfl
  | n + 1 => by rw [psum, nsum, psum_nI f n, nI_add]
def F67 (h h' : xSt) : Prop := ∀ m, m ≠ 67 → h' m = h m
def SMs (h h' : xSt) : Prop := ∀ m, m ≠ 45 → m ≠ 65 → m ≠ 66 → m ≠ 67 → h' m = h m
theorem SMs.refl (h : xSt) : SMs h h := fun _ _ _ _ _ => rfl
theorem SMs.trans {a b c : xSt} (h : SMs a b) (k : SMs b c) : SMs a c := fun m h1 h2 h3 h4 => (k m h1 h2 h3 h4).trans (h m h1 h2 h3 h4)
theorem F67.sms {h h' : xSt} (f : F67 h h') : SMs h h' := fun m _ _ _ h4 => f m h4
theorem F67.trans {a b c : xSt} (h : F67 a b) (k : F67 b c) : F67 a c := fun m h1 => (k m h1).trans (h m h1)
theorem SMs.xw {g g' : xSt} (h : SMs g g') {a i : Nat} {v : Int32} (ha : a = 45 ∨ a = 65 ∨ a = 66 ∨ a = 67) : SMs g (xw g' a i v) := fun m h1 h2 h3 h4 => by
  rw [xw_reg g' i v (by omega)]; exact h m h1 h2 h3 h4
theorem MC.sms {h h' : xSt} (M : MC N nA nO A O gv wv h) (F : SMs h h') : MC N nA nO A O gv wv h' := by
  unfold MC at *
  rw [F 46 (by decide) (by decide) (by decide) (by decide), F 63 (by decide) (by decide) (by decide) (by decide), F 64 (by decide) (by decide) (by decide) (by decide), F 50 (by decide) (by decide) (by decide) (by decide), F 51 (by decide) (by decide) (by decide) (by decide), F 53 (by decide) (by decide) (by decide) (by decide), F 42 (by decide) (by decide) (by decide) (by decide)]
  exact M
theorem worth2 (fu : Nat) : ∀ n k h, k ≤ 8 → 8 - k < n → (∀ a, a < k → h 67 a = 0) → ∃ h', f_M_worth_L2 fu n (nI k) h = some (8, h') ∧ F67 h h' ∧ ∀ a, a < 8 → h' 67 a = 0
  | 0, k, h, _, hn, _ => absurd hn (by omega)
  | n + 1, k, h, hk, hn, hz => by
    rw [f_M_worth_L2]
    by_cases e : k = 8
    · subst e; rw [if_pos (by decide)]; exact ⟨h, rfl, fun _ _ => rfl, hz⟩
    · rw [show (8 : Int32) = nI 8 from rfl, if_neg (nI_ge (show k < 8 by omega) (by omega)), nI_clamp (n := k) (by omega), if_neg (nin (show k < 8 by omega) (by decide)), ob_b, nI_1]
      obtain ⟨h', d1, d2, d3⟩ := worth2 fu n (k + 1) (xw h 67 k 0) (by omega) (by omega) (fun a ha => by
        by_cases ea : a = k
        · subst ea; simp [xwE]
        · simp [xwE, ea, hz a (by omega)])
      exact ⟨h', d1, fun m hm => by rw [d2 m hm, xw_reg h k _ hm], d3⟩
theorem nI_le0 {x : Nat} (h : x < 2 ^ 31) : nI x ≤ 0 ↔ x = 0 := by
  rw [show (0 : Int32) = nI 0 from rfl, nI_leI h (by decide)]; omega
theorem worth25 (fu : Nat) (T : Stt N nA nO A O gv wv) {x : Nat → Nat} (hx : ∀ j, j < N → x j ≤ 7) : ∀ n j h acc, MC N nA nO A O gv wv h → (∀ i, i < N → h 65 i = nI (x i)) → j ≤ N → N - j < n → (∀ o, o < 8 → h 67 o = nI (us O x o j)) → acc = nI (nsum (fun j => 2 * x j + (if x j ≠ 0 ∧ x j = gv (A j) then 1 else 0)) j) →
    ∃ h', f_M_worth_L25 fu n acc (nI j) h = some (nI (nsum (fun j => 2 * x j + (if x j ≠ 0 ∧ x j = gv (A j) then 1 else 0)) N), nI N, h') ∧ F67 h h' ∧ ∀ o, o < 8 → h' 67 o = nI (us O x o N)
  | 0, j, h, acc, _, _, _, hn, _, _ => absurd hn (by omega)
  | n + 1, j, h, acc, M, hp, hj, hn, hz, ha => by
    have T' := T
    obtain ⟨tN, tA, tO, tAO, tg, tw⟩ := T
    rw [f_M_worth_L25, M.1]
    by_cases e : j = N
    · subst e; rw [if_pos (nI_le (Nat.le_refl _) (by omega)), ha]; exact ⟨h, rfl, fun _ _ => rfl, hz⟩
    · obtain ⟨b1, b2⟩ := tAO j (by omega)
      have q5 := tg _ b1
      obtain ⟨m1, m2⟩ := M.2.1 j (by omega)
      have hxj := hx j (by omega)
      have F : F67 h (xw h 67 (O j) (h 67 (O j) + nI (x j))) := fun m hm => xw_reg h _ _ hm
      have M2 := M.sms F.sms
      rw [if_neg (nI_ge (show j < N by omega) (by omega)), nI_clamp (n := j) (by omega), m2, nI_clamp (n := O j) (by omega)]
      simp only [if_neg (nin (show j < 64 by omega) (show 64 ≤ 65 by decide)), if_neg (nin (show j < 65 by omega) (show 65 ≤ 65 by decide)), if_neg (nin (show O j < 8 by omega) (show 8 ≤ 65 by decide)), ob_b, F 65 (by decide), F 63 (by decide), hp j (by omega), m1, nI_2, f_M_has, F 50 (by decide), F 51 (by decide), nI_clamp (n := A j) (show A j < 2 ^ 31 by omega), if_neg (nin (show A j < 8 by omega) (show 8 ≤ 65 by decide)), ob2_mk, M.2.2.1 _ b1, nI_le0 (show x j < 2 ^ 31 by omega), nI_eq (show x j < 2 ^ 31 by omega) (show gv (A j) < 2 ^ 31 by omega)]
      have go := fun acc' ha' => worth25 fu T' hx n (j + 1) (xw h 67 (O j) (h 67 (O j) + nI (x j))) acc' M2 (fun i hi => by rw [xw_reg h _ _ (by decide)]; exact hp i hi) (by omega) (by omega) (fun o ho => by
        rw [us_succ]
        by_cases eo : O j = o
        · subst eo; rw [xw_self, hz _ ho, nI_add, if_pos rfl]
        · rw [if_neg eo, Nat.add_zero, xw_ix h 67 _ (fun q => eo q.symm)]; exact hz o ho) ha'
      have fin : ∀ h', F67 (xw h 67 (O j) (h 67 (O j) + nI (x j))) h' → F67 h h' := fun h' f m hm => by rw [f m hm, xw_reg h _ _ hm]
      simp only [nsum] at go
      by_cases e0 : x j = 0
      · rw [if_pos e0, nI_1 j]
        obtain ⟨h', d1, d2, d3⟩ := go (acc + (nI (2 * x j) + 0)) (by rw [ha, e0]; simp [nI_add])
        exact ⟨h', d1, fin h' d2, d3⟩
      · rw [if_neg e0, nI_1 j]
        by_cases e1 : x j = gv (A j)
        · rw [if_pos e1]
          obtain ⟨h', d1, d2, d3⟩ := go (acc + (nI (2 * x j) + 1)) (by rw [ha, nI_1, nI_add, if_pos ⟨e0, e1⟩])
          exact ⟨h', d1, fin h' d2, d3⟩
        · rw [if_neg e1]
          obtain ⟨h', d1, d2, d3⟩ := go (acc + (nI (2 * x j) + 0)) (by rw [ha, if_neg (fun q => e1 q.2)]; simp [nI_add])
          exact ⟨h', d1, fin h' d2, d3⟩
theorem M_worth (fu : Nat) (hf : 65 < fu) (T : Stt N nA nO A O gv wv) {x : Nat → Nat} (hx : ∀ j, j < N → x j ≤ 7) {h : xSt} (M : MC N nA nO A O gv wv h) (hp : ∀ i, i < N → h 65 i = nI (x i)) (hw : ∀ o, o < nO → us O x o N ≤ wv o) : ∃ h', f_M_worth fu h = some (nI (wt N nO A O gv wv x), h') ∧ F67 h h' := by
  have T' := T
  obtain ⟨tN, tA, tO, tAO, tg, tw⟩ := T
  obtain ⟨h1, a1, a2, a3⟩ := worth2 fu fu 0 h (by omega) (by omega) (fun a ha => by omega)
  obtain ⟨h2, b1, b2, b3⟩ := worth25 fu T' hx fu 0 h1 0 (M.sms a2.sms) (fun i hi => by rw [a2 65 (by decide)]; exact hp i hi) (by omega) (by omega) (fun o ho => a3 o ho) rfl
  have M2 := (M.sms a2.sms).sms b2.sms
  refine ⟨h2, ?_, a2.trans b2⟩
  rw [show nI 0 = (0 : Int32) from rfl] at a1 b1
  rw [f_M_worth, a1, ob2_mk, b1, ob3_mk, loop_sum0 (f_M_worth_L106 fu) (fun o => if h2 67 o = h2 53 o then 3 else 0) nO h2 ?_ ?_ fu _ (by omega), ob3_mk]
  · have : psum (fun o => if h2 67 o = h2 53 o then (3 : Int32) else 0) nO = nI (nsum (fun o => if us O x o N = wv o then 3 else 0) nO) := by
      rw [← psum_nI]
      refine psum_congr fun o ho => ?_
      have w1 := hw o ho
      have w2 := tw o ho
      rw [b3 o (by omega), M2.2.2.2.1 o ho]
      simp only [nI_eq (show us O x o N < 2 ^ 31 by omega) (show wv o < 2 ^ 31 by omega)]
      split <;> rfl
    rw [this, nI_add]; rfl
  · intro n acc; rw [f_M_worth_L106, M2.2.2.2.2, if_pos (nI_le (Nat.le_refl _) (by omega))]
  · intro n acc i hi
    rw [f_M_worth_L106, M2.2.2.2.2, if_neg (nI_ge hi (by omega)), nI_clamp (n := i) (by omega), nI_1]
    simp only [if_neg (nin (show i < 8 by omega) (show 8 ≤ 65 by decide))]
    split <;> simp
theorem M_copy (fu : Nat) (hN : N ≤ 64) (p b2 b4 b3 : Int32) {h : xSt} (e46 : h 46 0 = nI N) : ∀ n k, k ≤ N → N - k < n → f_M_lookAtAll_L59 fu p b2 b4 b3 n (nI k) (va_up h 66 (fun j => if j < k then h 65 j else h 66 j)) = some (nI N, va_up h 66 (fun j => if j < N then h 65 j else h 66 j))
  | 0, k, _, hn => absurd hn (by omega)
  | n + 1, k, hk, hn => by
    rw [f_M_lookAtAll_L59, show (va_up h 66 (fun j => if j < k then h 65 j else h 66 j)) 46 0 = nI N by rw [upE, if_neg (by decide)]; exact e46]
    by_cases e : k = N
    · subst e; rw [if_pos (nI_le (Nat.le_refl _) (by omega))]
    · rw [if_neg (nI_ge (show k < N by omega) (by omega)), nI_clamp (n := k) (by omega), if_neg (nin (show k < 65 by omega) (by decide)), if_neg (nin (show k < 64 by omega) (by decide)), ob_b, xw_up, nI_1, show (va_up h 66 (fun j => if j < k then h 65 j else h 66 j)) 65 k = h 65 k by rw [upE, if_neg (by decide)]]
      rw [show upd (fun j => if j < k then h 65 j else h 66 j) k (h 65 k) = (fun j => if j < k + 1 then h 65 j else h 66 j) from ?_]
      · exact M_copy fu hN p b2 b4 b3 e46 n (k + 1) (by omega) (by omega)
      · funext j; unfold upd
        by_cases ej : j = k
        · subst ej; rw [if_pos rfl, if_pos (by omega)]
        · rw [if_neg ej]
          dsimp only
          by_cases q : j < k
          · rw [if_pos q, if_pos (by omega)]
          · rw [if_neg q, if_neg (by omega)]
theorem back_loop (fu : Nat) (hN : N ≤ 64) : ∀ n k g, g 16 0 = nI N → k ≤ N → N - k < n → (∀ j, j < k → g 13 j = 0) → ∃ g', f_S_putAllBack_L32 fu n (nI k) g = some (nI N, g') ∧ (∀ m, m ≠ 13 → g' m = g m) ∧ ∀ j, j < N → g' 13 j = 0
  | 0, k, g, _, _, hn, _ => absurd hn (by omega)
  | n + 1, k, g, e16, hk, hn, hz => by
    rw [f_S_putAllBack_L32, e16]
    by_cases e : k = N
    · subst e; rw [if_pos (nI_le (Nat.le_refl _) (by omega))]; exact ⟨g, rfl, fun _ _ => rfl, hz⟩
    · rw [if_neg (nI_ge (show k < N by omega) (by omega)), nI_clamp (n := k) (by omega), if_neg (nin (show k < 64 by omega) (by decide)), ob_b, nI_1]
      obtain ⟨g', d1, d2, d3⟩ := back_loop fu hN n (k + 1) (xw g 13 k 0) (by simp [xwE, e16]) (by omega) (by omega) (fun j hj => by
        by_cases ej : j = k
        · subst ej; simp [xwE]
        · simp [xwE, ej, hz j (by omega)])
      exact ⟨g', d1, fun m hm => by rw [d2 m hm, xw_reg g k _ hm], d3⟩
theorem S_putAllBack (fu : Nat) (hf : 65 < fu) (T : Stt N nA nO A O gv wv) {g : xSt} (C : CC N nA nO A O gv wv g) : ∃ g', f_S_putAllBack fu g = some g' ∧ CR N nA nO A O gv wv g' (fun _ => 0) ∧ SF g g' := by
  obtain ⟨tN, tA, tO, tAO, tg, tw⟩ := T
  obtain ⟨c1, c2, c3, c4⟩ := C
  let g1 : xSt := va_up g 11 (va_cpy (g 9) (g 11) 0 0 8)
  let g2 : xSt := va_up g1 12 (va_cpy (g1 10) (g1 12) 0 0 8)
  obtain ⟨g3, d1, d2, d3⟩ := back_loop fu tN fu 0 g2 (by simp [g2, g1, upE, c1]) (by omega) (by omega) (fun j hj => by omega)
  have usz : ∀ B b k, us B (fun _ => 0) b k = 0 := fun B b k => nsum_zero fun i hi => by simp
  have F : SF g g2 := fun m h1 h2 h3 h4 => by simp [g2, g1, upE, h1, h2]
  have wz : wt N nO A O gv wv (fun _ => 0) = 0 := by
    unfold wt
    rw [nsum_zero fun i hi => by simp, nsum_zero fun o ho => by rw [usz, if_neg (by have := tw o ho; omega)]]
  refine ⟨xw g3 17 0 0, ?_, ⟨fun a ha => ?_, fun o ho => ?_, fun j hj => ?_, by rw [wz, xw_self]; rfl⟩, fun m h1 h2 h3 h4 => by rw [xw_reg g3 _ _ h4, d2 m h3, F m h1 h2 h3 h4]⟩
  · have e8 : ¬ (((8 : Int32)) < 0 ∨ 8 < ((8 : Int32)).toNatClampNeg ∨ 8 < ((8 : Int32)).toNatClampNeg) := by decide
    rw [f_S_putAllBack, if_neg e8, ob_b, if_neg e8, ob_b, show ((8 : Int32)).toNatClampNeg = 8 by decide]
    rw [show nI 0 = (0 : Int32) from rfl] at d1
    show ob2 (f_S_putAllBack_L32 fu fu 0 g2) _ = _
    rw [d1, ob2_mk, ob_b]
  · rw [usz, xw_reg g3 _ _ (by decide), d2 11 (by decide)]
    refine ⟨by omega, ?_⟩
    have : g2 11 a = g 9 a := by
      show (if 0 ≤ a ∧ a < 0 + 8 then g 9 (0 + (a - 0)) else g 11 a) = g 9 a
      rw [if_pos (by omega)]; congr 1; omega
    rw [this, c3 a ha]; rfl
  · rw [usz, xw_reg g3 _ _ (by decide), d2 12 (by decide)]
    refine ⟨by omega, ?_⟩
    have : g2 12 o = g 10 o := by
      show (if 0 ≤ o ∧ o < 0 + 8 then g 10 (0 + (o - 0)) else g 12 o) = g 10 o
      rw [if_pos (by omega)]; congr 1; omega
    rw [this, c4 o ho]; rfl
  · rw [xw_reg g3 _ _ (by decide), d3 j hj]; rfl
end
