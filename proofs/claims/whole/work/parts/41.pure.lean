/-! obstacle against passes -/
theorem nin {c N : Nat} (h : c < N) (hN : N ≤ 65) : ¬ (nI c < 0 ∨ N ≤ c) := fun e => by
  rcases e with e | e
  · exact nI_nneg c (by omega) e
  · omega
theorem u_sl : ∀ n, n < 32 → ((nI n &&& 31).toBitVec.smod 32).toNat = n := by decide +kernel
theorem u_1 : ∀ i, i < 32 → (1 : Int32).toBitVec.getLsbD i = decide (i = 0) := by decide +kernel
theorem u_tp : ∀ k, k < 32 → ∀ i, i < 32 → ((1 : Int32) <<< (nI k &&& 31)).toBitVec.getLsbD i = decide (i = k) := by decide +kernel
theorem u_m1 : ∀ i, i < 32 → (-1 : Int32).toBitVec.getLsbD i = true := by decide +kernel
theorem u_0 (x : Int32) : x = 0 ↔ ∀ i, i < 32 → x.toBitVec.getLsbD i = false := by
  constructor
  · rintro rfl i hi; exact BitVec.getLsbD_zero
  · intro h
    refine Int32.toBitVec_inj.mp (BitVec.eq_of_getLsbD_eq fun i hi => ?_)
    rw [h i hi]; exact (BitVec.getLsbD_zero).symm
theorem u_and1 (x : Int32) (k : Nat) (hk : k < 32) : (x &&& ((1 : Int32) <<< (nI k &&& 31))) = 0 ↔ x.toBitVec.getLsbD k = false := by
  rw [u_0]
  constructor
  · intro h
    have := h k hk
    rw [Int32.toBitVec_and, BitVec.getLsbD_and, u_tp k hk k hk] at this
    simpa using this
  · intro h i hi
    rw [Int32.toBitVec_and, BitVec.getLsbD_and, u_tp k hk i hi]
    by_cases e : i = k
    · subst e; simp [h]
    · simp [e]
theorem u_sh1 (x : Int32) (k : Nat) (hk : k < 32) : ((x >>> (nI k &&& 31)) &&& 1) = 0 ↔ x.toBitVec.getLsbD k = false := by
  have hs : (x >>> (nI k &&& 31)).toBitVec.getLsbD 0 = x.toBitVec.getLsbD k := by
    rw [Int32.toBitVec_shiftRight]
    show (x.toBitVec.sshiftRight ((nI k &&& 31).toBitVec.smod 32).toNat).getLsbD 0 = _
    rw [u_sl k hk, BitVec.getLsbD_sshiftRight]
    simp [hk]
  rw [u_0]
  constructor
  · intro h
    have := h 0 (by decide)
    rw [Int32.toBitVec_and, BitVec.getLsbD_and, u_1 0 (by decide), hs] at this
    simpa using this
  · intro h i hi
    rw [Int32.toBitVec_and, BitVec.getLsbD_and, u_1 i hi]
    by_cases e : i = 0
    · subst e; rw [hs, h, Bool.false_and]
    · simp [e]
theorem u_n31 : ∀ k, k < 32 → (nI k &&& 31) = nI k := by decide +kernel
theorem u_31 (n : Int32) : ∃ k, k < 32 ∧ (n &&& 31) = (nI k &&& 31) := by
  refine ⟨(n &&& 31).toBitVec.toNat, ?_, ?_⟩
  · rw [Int32.toBitVec_and, BitVec.toNat_and]
    exact Nat.lt_of_le_of_lt Nat.and_le_right (by decide)
  · have hk : (n &&& 31).toBitVec.toNat < 32 := by
      rw [Int32.toBitVec_and, BitVec.toNat_and]
      exact Nat.lt_of_le_of_lt Nat.and_le_right (by decide)
    rw [u_n31 _ hk]
    refine Int32.toBitVec_inj.mp ?_
    show _ = BitVec.ofNat 32 _
    rw [BitVec.ofNat_toNat, BitVec.setWidth_eq]
theorem bit_sh (x n : Int32) : (x &&& ((1 : Int32) <<< (n &&& 31))) = 0 ↔ ((x >>> (n &&& 31)) &&& 1) = 0 := by
  obtain ⟨k, hk, e⟩ := u_31 n
  rw [e, u_and1 x k hk, u_sh1 x k hk]
theorem u_or (x : Int32) (k i : Nat) (hk : k < 32) (hi : i < 32) : (x ||| ((1 : Int32) <<< (nI k &&& 31))).toBitVec.getLsbD i = (x.toBitVec.getLsbD i || decide (i = k)) := by
  rw [Int32.toBitVec_or, BitVec.getLsbD_or, u_tp k hk i hi]
theorem u_an (x : Int32) (k i : Nat) (hk : k < 32) (hi : i < 32) : (x &&& (((1 : Int32) <<< (nI k &&& 31)) ^^^ (-1 : Int32))).toBitVec.getLsbD i = (x.toBitVec.getLsbD i && !decide (i = k)) := by
  rw [Int32.toBitVec_and, BitVec.getLsbD_and, Int32.toBitVec_xor, BitVec.getLsbD_xor, u_tp k hk i hi, u_m1 i hi]
  simp
def obs (g : xSt) (a o : Nat) : Int32 :=
  if g 24 a = g 30 o then (if g 26 a ≤ g 34 o then (if (g 35 o &&& ((1 : Int32) <<< (g 25 a &&& 31))) = 0 then 3 else (if (g 29 a &&& ((1 : Int32) <<< (nI o &&& 31))) = 0 then (if g 4 (g 33 o).toNatClampNeg = 0 then 0 else 5) else 4)) else 2) else 1
theorem obs_v (g : xSt) (a o : Nat) : obs g a o = 0 ∨ obs g a o = 1 ∨ obs g a o = 2 ∨ obs g a o = 3 ∨ obs g a o = 4 ∨ obs g a o = 5 := by
  unfold obs; repeat' split
  all_goals simp
theorem D_obstacle {g : xSt} {a o : Nat} (ha : a < 8) (ho : o < 8) (hl : ∃ l, l < 4 ∧ g 33 o = nI l) : f_D_obstacle (nI a) (nI o) g = some (obs g a o, g) := by
  obtain ⟨l, hl, el⟩ := hl
  have c3 := nI_clamp (n := l) (by omega); have z3 : 0 ≤ nI l := nI_le (a := 0) (by omega) (by omega)
  have c1 := nI_clamp (n := a) (by omega); have c2 := nI_clamp (n := o) (by omega)
  simp only [f_D_obstacle, c1, c2, obs, f_O_takesLot, f_A_isBarredFor, if_neg (nin ha (by decide)), if_neg (nin ho (by decide)), el, if_neg (nin hl (by decide)), nI_clamp (n := l) (by omega)]
  repeat' split
  all_goals simp_all [ob2_mk]
theorem D_mayServe {g : xSt} {a o : Nat} (ha : a < 8) (ho : o < 8) (hl : ∃ l, l < 4 ∧ g 33 o = nI l) : f_D_mayServe (nI a) (nI o) g = some (if obs g a o = 0 then 1 else 0, g) := by
  rw [f_D_mayServe, D_obstacle ha ho hl, ob2_mk]; split <;> rfl
theorem D_isUnfit {g : xSt} {a o : Nat} (ha : a < 8) (ho : o < 8) (hl : ∃ l, l < 4 ∧ g 33 o = nI l) : f_D_isUnfit (nI a) (nI o) g = some (if obs g a o = 0 ∨ obs g a o = 5 then 0 else 1, g) := by
  rw [f_D_isUnfit, D_obstacle ha ho hl, ob2_mk]
  by_cases h : obs g a o = 0
  · simp [h]
  · by_cases h5 : obs g a o = 5 <;> simp [h, h5]
theorem ix8 {a o : Nat} : ((8 : Int32) * nI a) + nI o = nI (8 * a + o) := by
  have : (8 : Int32) * nI a = nI (8 * a) := by
    unfold nI; rw [show (8 : Int32) = Int32.ofNat 8 from rfl, ← Int32.ofNat_mul]
  rw [this, nI_add]
theorem M_passes {nA nO nP : Nat} {g h : xSt} (S : Sim nA nO nP g h) {a o k : Nat} (ha : a < 8) (ho : o < 8) (hk : 1 ≤ k) (hk5 : k ≤ 5) : f_M_passes (nI a) (nI o) (nI k) h = some (if obs g a o = 0 ∨ nI k < obs g a o then 1 else 0, h) := by
  obtain ⟨W, E, B, -⟩ := S
  obtain ⟨l, hl, el⟩ := W.2.2.2.2.2.1 o
  have h1 := nI_in ha (by decide); have h2 := nI_in ho (by decide); have h3 := nI_in hl (by decide)
  have c1 := nI_clamp (n := a) (by omega); have c2 := nI_clamp (n := o) (by omega)
  have h4 := nI_in (c := 8 * a + o) (N := 64) (by omega) (by decide)
  have c4 := nI_clamp (n := 8 * a + o) (by omega)
  have c5 := nI_clamp (n := l) (by omega)
  have B' := B a o ha ho
  unfold Eqs at E
  obtain ⟨-, -, -, -, -, e47, e48, e49, -, -, e52, -, -, e55, e56, e57, e59, -⟩ := E
  have L := bit_sh (g 35 o) (g 25 a)
  have hk' : k = 1 ∨ k = 2 ∨ k = 3 ∨ k = 4 ∨ k = 5 := by omega
  unfold f_M_passes obs
  rcases hk' with rfl | rfl | rfl | rfl | rfl
  all_goals
    simp only [show nI 1 = 1 from rfl, show nI 2 = 2 from rfl, show nI 3 = 3 from rfl, show nI 4 = 4 from rfl, show nI 5 = 5 from rfl, ix8, if_neg (nin ha (show 8 ≤ 65 by decide)), if_neg (nin ho (show 8 ≤ 65 by decide)), c1, c2, if_neg (nin (show 8 * a + o < 64 by omega) (show 64 ≤ 65 by decide)), c4, e47, e48, e49, e52, e55, e56, e57, e59, el, if_neg (nin hl (show 4 ≤ 65 by decide)), c5, ← L, ← B']
    by_cases q1 : g 24 a = g 30 o <;> by_cases q2 : g 26 a ≤ g 34 o <;> by_cases q3 : (g 35 o &&& ((1 : Int32) <<< (g 25 a &&& 31))) = 0 <;> by_cases q4 : (g 29 a &&& ((1 : Int32) <<< (nI o &&& 31))) = 0 <;> by_cases q5 : g 4 l = 0 <;> simp [q1, q2, q3, q4, q5] <;> decide
