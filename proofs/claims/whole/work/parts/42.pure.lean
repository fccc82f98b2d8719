/-! the read-only loops, each with its closed form -/
theorem P_palletsOf {nP : Nat} {g : xSt} (hn : nP ≤ 64) (hP : g 23 0 = nI nP) (fu : Nat) (hf : 65 < fu) (p : Int32) : f_P_palletsOf fu p g = some (psum (fun i => if g 20 i = p then g 22 i else 0) nP, g) := by
  rw [f_P_palletsOf, loop_sum0 (f_P_palletsOf_L4 fu p) (fun i => if g 20 i = p then g 22 i else 0) nP g ?_ ?_ fu 0 (by omega), ob3_mk]
  · simp
  · intro n acc; rw [f_P_palletsOf_L4, hP, if_pos (nI_le (Nat.le_refl _) (by omega))]
  · intro n acc i hi
    rw [f_P_palletsOf_L4, hP, if_neg (nI_ge hi (by omega)), nI_clamp (n := i) (by omega), nI_1]
    simp only [if_neg (nin (show i < 64 by omega) (show 64 ≤ 65 by decide))]
    split <;> simp
theorem M_held {nP : Nat} {h : xSt} (hn : nP ≤ 64) (hP : h 43 0 = nI nP) (fu : Nat) (hf : 65 < fu) (p : Int32) : f_M_held fu p h = some (psum (fun i => if h 60 i = p then h 62 i else 0) nP, h) := by
  rw [f_M_held, loop_sum0 (f_M_held_L4 fu p) (fun i => if h 60 i = p then h 62 i else 0) nP h ?_ ?_ fu 0 (by omega), ob3_mk]
  · simp
  · intro n acc; rw [f_M_held_L4, hP, if_pos (nI_le (Nat.le_refl _) (by omega))]
  · intro n acc i hi
    rw [f_M_held_L4, hP, if_neg (nI_ge hi (by omega)), nI_clamp (n := i) (by omega), nI_1]
    simp only [if_neg (nin (show i < 64 by omega) (show 64 ≤ 65 by decide))]
    split <;> simp
theorem P_palletsFor {nP : Nat} {g : xSt} (hn : nP ≤ 64) (hP : g 23 0 = nI nP) (fu : Nat) (hf : 65 < fu) (p : Int32) : f_P_palletsFor fu p g = some (psum (fun i => if g 21 i = p then g 22 i else 0) nP, g) := by
  rw [f_P_palletsFor, loop_sum0 (f_P_palletsFor_L4 fu p) (fun i => if g 21 i = p then g 22 i else 0) nP g ?_ ?_ fu 0 (by omega), ob3_mk]
  · simp
  · intro n acc; rw [f_P_palletsFor_L4, hP, if_pos (nI_le (Nat.le_refl _) (by omega))]
  · intro n acc i hi
    rw [f_P_palletsFor_L4, hP, if_neg (nI_ge hi (by omega)), nI_clamp (n := i) (by omega), nI_1]
    simp only [if_neg (nin (show i < 64 by omega) (show 64 ≤ 65 by decide))]
    split <;> simp
theorem M_hasGot {nP : Nat} {h : xSt} (hn : nP ≤ 64) (hP : h 43 0 = nI nP) (fu : Nat) (hf : 65 < fu) (p : Int32) : f_M_hasGot fu p h = some (psum (fun i => if h 61 i = p then h 62 i else 0) nP, h) := by
  rw [f_M_hasGot, loop_sum0 (f_M_hasGot_L4 fu p) (fun i => if h 61 i = p then h 62 i else 0) nP h ?_ ?_ fu 0 (by omega), ob3_mk]
  · simp
  · intro n acc; rw [f_M_hasGot_L4, hP, if_pos (nI_le (Nat.le_refl _) (by omega))]
  · intro n acc i hi
    rw [f_M_hasGot_L4, hP, if_neg (nI_ge hi (by omega)), nI_clamp (n := i) (by omega), nI_1]
    simp only [if_neg (nin (show i < 64 by omega) (show 64 ≤ 65 by decide))]
    split <;> simp
theorem P_palletsInAll {nP : Nat} {g : xSt} (hn : nP ≤ 64) (hP : g 23 0 = nI nP) (fu : Nat) (hf : 65 < fu) : f_P_palletsInAll fu g = some (psum (fun i => g 22 i) nP, g) := by
  rw [f_P_palletsInAll, loop_sum0 (f_P_palletsInAll_L4 fu) (fun i => g 22 i) nP g ?_ ?_ fu 0 (by omega), ob3_mk]
  · simp
  · intro n acc; rw [f_P_palletsInAll_L4, hP, if_pos (nI_le (Nat.le_refl _) (by omega))]
  · intro n acc i hi
    rw [f_P_palletsInAll_L4, hP, if_neg (nI_ge hi (by omega)), nI_clamp (n := i) (by omega), if_neg (nin (show i < 64 by omega) (by decide)), nI_1]
theorem D_fullLanes {g : xSt} (fu : Nat) (hf : 65 < fu) : f_D_fullLanes fu g = some (psum (fun i => if g 4 i = 0 then 0 else 1) 4, g) := by
  rw [f_D_fullLanes, loop_sum0 (f_D_fullLanes_L4 fu) (fun i => if g 4 i = 0 then 0 else 1) 4 g ?_ ?_ fu 0 (by omega), ob3_mk]
  · simp
  · intro n acc; rw [f_D_fullLanes_L4, if_pos (by decide)]
  · intro n acc i hi
    rw [f_D_fullLanes_L4, show (4 : Int32) = nI 4 from rfl, if_neg (nI_ge hi (by omega)), nI_clamp (n := i) (by omega), if_neg (nin (show i < 4 by omega) (by decide)), nI_1]
    split <;> simp
theorem D_ordersFor {nO : Nat} {g : xSt} (hn : nO ≤ 8) (hO : g 1 0 = nI nO) (hl : ∀ o, ∃ l, l < 4 ∧ g 33 o = nI l) (fu : Nat) (hf : 65 < fu) {a : Nat} (ha : a < 8) : f_D_ordersFor fu (nI a) g = some (psum (fun o => if obs g a o = 0 then 1 else 0) nO, g) := by
  rw [f_D_ordersFor, loop_sum0 (f_D_ordersFor_L4 fu (nI a)) (fun o => if obs g a o = 0 then 1 else 0) nO g ?_ ?_ fu 0 (by omega), ob3_mk]
  · simp
  · intro n acc; rw [f_D_ordersFor_L4, hO, if_pos (nI_le (Nat.le_refl _) (by omega))]
  · intro n acc i hi
    rw [f_D_ordersFor_L4, hO, if_neg (nI_ge hi (by omega)), D_mayServe ha (by omega) (hl i), ob2_mk, nI_1]
    split <;> simp_all
theorem D_arrivalsFor {nA : Nat} {g : xSt} (hn : nA ≤ 8) (hA : g 0 0 = nI nA) (hl : ∀ o, ∃ l, l < 4 ∧ g 33 o = nI l) (fu : Nat) (hf : 65 < fu) {o : Nat} (ho : o < 8) : f_D_arrivalsFor fu (nI o) g = some (psum (fun a => if obs g a o = 0 then 1 else 0) nA, g) := by
  rw [f_D_arrivalsFor, loop_sum0 (f_D_arrivalsFor_L4 fu (nI o)) (fun a => if obs g a o = 0 then 1 else 0) nA g ?_ ?_ fu 0 (by omega), ob3_mk]
  · simp
  · intro n acc; rw [f_D_arrivalsFor_L4, hA, if_pos (nI_le (Nat.le_refl _) (by omega))]
  · intro n acc i hi
    rw [f_D_arrivalsFor_L4, hA, if_neg (nI_ge hi (by omega)), D_mayServe (by omega) ho (hl o), ob2_mk, nI_1]
    split <;> simp_all
theorem D_fullL {nO : Nat} {g : xSt} (hn : nO ≤ 8) (hO : g 1 0 = nI nO) (fu : Nat) (hf : 65 < fu) (p q : Int32) : f_D_full_L18 fu p q fu 0 0 g = some (psum (fun i => if g 33 i = p then 1 else 0) nO, nI nO, g) := by
  rw [loop_sum0 (f_D_full_L18 fu p q) (fun i => if g 33 i = p then 1 else 0) nO g ?_ ?_ fu 0 (by omega)]
  · simp
  · intro n acc; rw [f_D_full_L18, hO, if_pos (nI_le (Nat.le_refl _) (by omega))]
  · intro n acc i hi
    rw [f_D_full_L18, hO, if_neg (nI_ge hi (by omega)), nI_clamp (n := i) (by omega), if_neg (nin (show i < 8 by omega) (by decide)), nI_1]
    split <;> simp
theorem M_fullL {nO : Nat} {h : xSt} (hn : nO ≤ 8) (hO : h 42 0 = nI nO) (fu : Nat) (hf : 65 < fu) (p q : Int32) : f_M_full_L39 fu p q fu 0 0 h = some (psum (fun i => if h 55 i = p then 1 else 0) nO, nI nO, h) := by
  rw [loop_sum0 (f_M_full_L39 fu p q) (fun i => if h 55 i = p then 1 else 0) nO h ?_ ?_ fu 0 (by omega)]
  · simp
  · intro n acc; rw [f_M_full_L39, hO, if_pos (nI_le (Nat.le_refl _) (by omega))]
  · intro n acc i hi
    rw [f_M_full_L39, hO, if_neg (nI_ge hi (by omega)), nI_clamp (n := i) (by omega), if_neg (nin (show i < 8 by omega) (by decide)), nI_1]
    split <;> simp
theorem nI5 : (5 : Int32) = nI 5 := rfl
theorem M_mayServe {nA nO nP : Nat} {g h : xSt} (S : Sim nA nO nP g h) {a o : Nat} (ha : a < 8) (ho : o < 8) : f_M_mayServe (nI a) (nI o) h = some (if obs g a o = 0 then 1 else 0, h) := by
  have h5 : ¬ nI 5 < obs g a o := by rcases obs_v g a o with e | e | e | e | e | e <;> rw [e] <;> decide
  rw [f_M_mayServe, nI5, M_passes S ha ho (by decide) (by decide), ob2_mk]
  by_cases e : obs g a o = 0 <;> simp [e, h5]
theorem M_passing {nA nO nP : Nat} {g h : xSt} (S : Sim nA nO nP g h) (fu : Nat) (hf : 65 < fu) {o k : Nat} (ho : o < 8) (hk : 1 ≤ k) (hk5 : k ≤ 5) : f_M_passing fu (nI o) (nI k) h = some (psum (fun a => if obs g a o = 0 ∨ nI k < obs g a o then 1 else 0) nA, h) := by
  have hn : nA ≤ 8 := S.1.1.1
  have hA : h 41 0 = nI nA := by rw [S.2.1.1]; exact S.1.2.1.1
  rw [f_M_passing, loop_sum0 (f_M_passing_L5 fu (nI o) (nI k)) (fun a => if obs g a o = 0 ∨ nI k < obs g a o then 1 else 0) nA h ?_ ?_ fu 0 (by omega), ob3_mk]
  · simp
  · intro n acc; rw [f_M_passing_L5, hA, if_pos (nI_le (Nat.le_refl _) (by omega))]
  · intro n acc i hi
    rw [f_M_passing_L5, hA, if_neg (nI_ge hi (by omega)), M_passes S (by omega) ho hk hk5, ob2_mk, nI_1]
    split <;> simp_all
theorem M_arrivalL {nA nO nP : Nat} {g h : xSt} (S : Sim nA nO nP g h) (fu : Nat) (hf : 65 < fu) {a : Nat} (ha : a < 8) (q : Int32) : f_M_arrival_L84 fu (nI a) q fu 0 0 h = some (psum (fun o => if obs g a o = 0 then 1 else 0) nO, nI nO, h) := by
  have hn : nO ≤ 8 := S.1.1.2.1
  have hO : h 42 0 = nI nO := by rw [S.2.1.2.1]; exact S.1.2.1.2.1
  rw [loop_sum0 (f_M_arrival_L84 fu (nI a) q) (fun o => if obs g a o = 0 then 1 else 0) nO h ?_ ?_ fu 0 (by omega)]
  · simp
  · intro n acc; rw [f_M_arrival_L84, hO, if_pos (nI_le (Nat.le_refl _) (by omega))]
  · intro n acc i hi
    rw [f_M_arrival_L84, hO, if_neg (nI_ge hi (by omega)), M_mayServe S ha (by omega), ob2_mk, nI_1]
    split <;> simp_all
