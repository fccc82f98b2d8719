/-! the one world: class, reference and out array; registers g (printed by wip/whole/world.py) -/
def wX (ad : Nat → Nat) (ca : Nat → ClassId) (g : xSt) : va_W := [(ad 0, .inr (0, [.ref (ad 1), .ref (ad 2), .ref (ad 3), .ref (ad 4), .ref (ad 5), .ref (ad 6), .ref (ad 7), .int (g 0 0), .int (g 1 0), .int (g 2 0), .int (g 3 0)])), (ad 1, .inl (ca 2, 8, .inr (.inr (.inr (.inr (fun j => some (ad (20 + j)))))))), (ad 2, .inl (ca 3, 8, .inr (.inr (.inr (.inr (fun j => some (ad (28 + j)))))))), (ad 3, .inl (ca 1, 4, .inl (g 4))), (ad 4, .inl (ca 0, 8, .inl (g 5))), (ad 5, .inl (ca 0, 8, .inl (g 6))), (ad 6, .inr (4, [.ref (ad 8), .ref (ad 9), .ref (ad 10), .ref (ad 11), .ref (ad 12), .ref (ad 13), .ref (ad 14), .ref (ad 15), .ref (ad 16), .int (g 16 0), .int (g 17 0), .int (g 18 0), .int (g 19 0)])), (ad 7, .inr (3, [.ref (ad 17), .ref (ad 18), .ref (ad 19), .int (g 23 0)])), (ad 8, .inl (ca 0, 64, .inl (g 7))), (ad 9, .inl (ca 0, 64, .inl (g 8))), (ad 10, .inl (ca 0, 8, .inl (g 9))), (ad 11, .inl (ca 0, 8, .inl (g 10))), (ad 12, .inl (ca 0, 8, .inl (g 11))), (ad 13, .inl (ca 0, 8, .inl (g 12))), (ad 14, .inl (ca 0, 64, .inl (g 13))), (ad 15, .inl (ca 0, 64, .inl (g 14))), (ad 16, .inl (ca 0, 64, .inl (g 15))), (ad 17, .inl (ca 0, 64, .inl (g 20))), (ad 18, .inl (ca 0, 64, .inl (g 21))), (ad 19, .inl (ca 0, 64, .inl (g 22))), (ad 20, .inr (1, [.int (g 24 0), .int (g 25 0), .int (g 26 0), .int (g 27 0), .int (g 28 0), .int (g 29 0)])), (ad 21, .inr (1, [.int (g 24 1), .int (g 25 1), .int (g 26 1), .int (g 27 1), .int (g 28 1), .int (g 29 1)])), (ad 22, .inr (1, [.int (g 24 2), .int (g 25 2), .int (g 26 2), .int (g 27 2), .int (g 28 2), .int (g 29 2)])), (ad 23, .inr (1, [.int (g 24 3), .int (g 25 3), .int (g 26 3), .int (g 27 3), .int (g 28 3), .int (g 29 3)])), (ad 24, .inr (1, [.int (g 24 4), .int (g 25 4), .int (g 26 4), .int (g 27 4), .int (g 28 4), .int (g 29 4)])), (ad 25, .inr (1, [.int (g 24 5), .int (g 25 5), .int (g 26 5), .int (g 27 5), .int (g 28 5), .int (g 29 5)])), (ad 26, .inr (1, [.int (g 24 6), .int (g 25 6), .int (g 26 6), .int (g 27 6), .int (g 28 6), .int (g 29 6)])), (ad 27, .inr (1, [.int (g 24 7), .int (g 25 7), .int (g 26 7), .int (g 27 7), .int (g 28 7), .int (g 29 7)])), (ad 28, .inr (2, [.int (g 30 0), .int (g 31 0), .int (g 32 0), .int (g 33 0), .int (g 34 0), .int (g 35 0)])), (ad 29, .inr (2, [.int (g 30 1), .int (g 31 1), .int (g 32 1), .int (g 33 1), .int (g 34 1), .int (g 35 1)])), (ad 30, .inr (2, [.int (g 30 2), .int (g 31 2), .int (g 32 2), .int (g 33 2), .int (g 34 2), .int (g 35 2)])), (ad 31, .inr (2, [.int (g 30 3), .int (g 31 3), .int (g 32 3), .int (g 33 3), .int (g 34 3), .int (g 35 3)])), (ad 32, .inr (2, [.int (g 30 4), .int (g 31 4), .int (g 32 4), .int (g 33 4), .int (g 34 4), .int (g 35 4)])), (ad 33, .inr (2, [.int (g 30 5), .int (g 31 5), .int (g 32 5), .int (g 33 5), .int (g 34 5), .int (g 35 5)])), (ad 34, .inr (2, [.int (g 30 6), .int (g 31 6), .int (g 32 6), .int (g 33 6), .int (g 34 6), .int (g 35 6)])), (ad 35, .inr (2, [.int (g 30 7), .int (g 31 7), .int (g 32 7), .int (g 33 7), .int (g 34 7), .int (g 35 7)])), (ad 36, .inr (5, [.int (g 40 0), .int (g 41 0), .ref (ad 37), .ref (ad 38), .ref (ad 39), .ref (ad 40), .ref (ad 41), .int (g 42 0), .ref (ad 42), .ref (ad 43), .ref (ad 44), .ref (ad 45), .ref (ad 46), .ref (ad 47), .ref (ad 48), .ref (ad 49), .int (g 43 0), .ref (ad 50), .ref (ad 51), .ref (ad 52), .int (g 44 0), .int (g 45 0), .int (g 46 0), .ref (ad 53), .ref (ad 54), .ref (ad 55), .ref (ad 56), .ref (ad 57)])), (ad 37, .inl (ca 0, 8, .inl (g 47))), (ad 38, .inl (ca 0, 8, .inl (g 48))), (ad 39, .inl (ca 0, 8, .inl (g 49))), (ad 40, .inl (ca 0, 8, .inl (g 50))), (ad 41, .inl (ca 0, 8, .inl (g 51))), (ad 42, .inl (ca 0, 8, .inl (g 52))), (ad 43, .inl (ca 0, 8, .inl (g 53))), (ad 44, .inl (ca 0, 8, .inl (g 54))), (ad 45, .inl (ca 0, 8, .inl (g 55))), (ad 46, .inl (ca 0, 8, .inl (g 56))), (ad 47, .inl (ca 0, 8, .inl (g 57))), (ad 48, .inl (ca 1, 64, .inl (g 58))), (ad 49, .inl (ca 1, 4, .inl (g 59))), (ad 50, .inl (ca 0, 64, .inl (g 60))), (ad 51, .inl (ca 0, 64, .inl (g 61))), (ad 52, .inl (ca 0, 64, .inl (g 62))), (ad 53, .inl (ca 0, 64, .inl (g 63))), (ad 54, .inl (ca 0, 64, .inl (g 64))), (ad 55, .inl (ca 0, 65, .inl (g 65))), (ad 56, .inl (ca 0, 64, .inl (g 66))), (ad 57, .inl (ca 0, 8, .inl (g 67))), (ad 58, .inl (ca 4, 1, .inr (.inl (fun j => (g 68 j).toInt64))))]
def tyX (ca : Nat → ClassId) : List (ClassId × FieldType) := [(ca 0, .int), (ca 1, .boolean), (ca 2, .object "CrossDock$Arrival"), (ca 3, .object "CrossDock$Order"), (ca 4, .long)]
theorem wX_fst (ad : Nat → Nat) (ca : Nat → ClassId) (g g' : xSt) : (wX ad ca g).map (·.1) = (wX ad ca g').map (·.1) := rfl
theorem va_D.of_fst {A : Nat → Prop} {ws ws' : va_W} (h : ws.map (·.1) = ws'.map (·.1)) (hD : va_D A ws) : va_D A ws' := by
  have k : ∀ (i : Nat) (q : Nat × va_E), ws'[i]? = some q → ∃ q', ws[i]? = some q' ∧ q'.1 = q.1 := by
    intro i q hq
    have h1 : (ws'.map (·.1))[i]? = some q.1 := by rw [List.getElem?_map, hq]; rfl
    rw [← h, List.getElem?_map] at h1
    cases hw : ws[i]? with
    | none => rw [hw] at h1; cases h1
    | some q' => rw [hw] at h1; exact ⟨q', rfl, Option.some.inj h1⟩
  refine ⟨fun i j p q hp hq e => ?_, fun i q hq => ?_⟩
  · obtain ⟨p', hp', e1⟩ := k i p hp
    obtain ⟨q', hq', e2⟩ := k j q hq
    exact hD.1 i j p' q' hp' hq' (by rw [e1, e2]; exact e)
  · obtain ⟨q', hq', e2⟩ := k i q hq
    rw [← e2]; exact hD.2 i q' hq'
theorem wA_at (ad : Nat → Nat) (ca : Nat → ClassId) (g : xSt) {i : Nat} (h : i < 8) : (wX ad ca g)[20 + i]? = some (ad (20 + i), .inr (1, [.int (g 24 i), .int (g 25 i), .int (g 26 i), .int (g 27 i), .int (g 28 i), .int (g 29 i)])) := by
  match i, h with
  | 0, _ => rfl
  | 1, _ => rfl
  | 2, _ => rfl
  | 3, _ => rfl
  | 4, _ => rfl
  | 5, _ => rfl
  | 6, _ => rfl
  | 7, _ => rfl
set_option maxRecDepth 100000 in
theorem wA_set0 (ad : Nat → Nat) (ca : Nat → ClassId) (g : xSt) (v : Int32) {i : Nat} (h : i < 8) : (wX ad ca g).set (20 + i) (ad (20 + i), .inr (1, [.int v, .int (g 25 i), .int (g 26 i), .int (g 27 i), .int (g 28 i), .int (g 29 i)])) = wX ad ca (xw g 24 i v) := by
  match i, h with
  | 0, _ => rfl
  | 1, _ => rfl
  | 2, _ => rfl
  | 3, _ => rfl
  | 4, _ => rfl
  | 5, _ => rfl
  | 6, _ => rfl
  | 7, _ => rfl
set_option maxRecDepth 100000 in
theorem wA_set1 (ad : Nat → Nat) (ca : Nat → ClassId) (g : xSt) (v : Int32) {i : Nat} (h : i < 8) : (wX ad ca g).set (20 + i) (ad (20 + i), .inr (1, [.int (g 24 i), .int v, .int (g 26 i), .int (g 27 i), .int (g 28 i), .int (g 29 i)])) = wX ad ca (xw g 25 i v) := by
  match i, h with
  | 0, _ => rfl
  | 1, _ => rfl
  | 2, _ => rfl
  | 3, _ => rfl
  | 4, _ => rfl
  | 5, _ => rfl
  | 6, _ => rfl
  | 7, _ => rfl
set_option maxRecDepth 100000 in
theorem wA_set2 (ad : Nat → Nat) (ca : Nat → ClassId) (g : xSt) (v : Int32) {i : Nat} (h : i < 8) : (wX ad ca g).set (20 + i) (ad (20 + i), .inr (1, [.int (g 24 i), .int (g 25 i), .int v, .int (g 27 i), .int (g 28 i), .int (g 29 i)])) = wX ad ca (xw g 26 i v) := by
  match i, h with
  | 0, _ => rfl
  | 1, _ => rfl
  | 2, _ => rfl
  | 3, _ => rfl
  | 4, _ => rfl
  | 5, _ => rfl
  | 6, _ => rfl
  | 7, _ => rfl
set_option maxRecDepth 100000 in
theorem wA_set3 (ad : Nat → Nat) (ca : Nat → ClassId) (g : xSt) (v : Int32) {i : Nat} (h : i < 8) : (wX ad ca g).set (20 + i) (ad (20 + i), .inr (1, [.int (g 24 i), .int (g 25 i), .int (g 26 i), .int v, .int (g 28 i), .int (g 29 i)])) = wX ad ca (xw g 27 i v) := by
  match i, h with
  | 0, _ => rfl
  | 1, _ => rfl
  | 2, _ => rfl
  | 3, _ => rfl
  | 4, _ => rfl
  | 5, _ => rfl
  | 6, _ => rfl
  | 7, _ => rfl
set_option maxRecDepth 100000 in
theorem wA_set4 (ad : Nat → Nat) (ca : Nat → ClassId) (g : xSt) (v : Int32) {i : Nat} (h : i < 8) : (wX ad ca g).set (20 + i) (ad (20 + i), .inr (1, [.int (g 24 i), .int (g 25 i), .int (g 26 i), .int (g 27 i), .int v, .int (g 29 i)])) = wX ad ca (xw g 28 i v) := by
  match i, h with
  | 0, _ => rfl
  | 1, _ => rfl
  | 2, _ => rfl
  | 3, _ => rfl
  | 4, _ => rfl
  | 5, _ => rfl
  | 6, _ => rfl
  | 7, _ => rfl
set_option maxRecDepth 100000 in
theorem wA_set5 (ad : Nat → Nat) (ca : Nat → ClassId) (g : xSt) (v : Int32) {i : Nat} (h : i < 8) : (wX ad ca g).set (20 + i) (ad (20 + i), .inr (1, [.int (g 24 i), .int (g 25 i), .int (g 26 i), .int (g 27 i), .int (g 28 i), .int v])) = wX ad ca (xw g 29 i v) := by
  match i, h with
  | 0, _ => rfl
  | 1, _ => rfl
  | 2, _ => rfl
  | 3, _ => rfl
  | 4, _ => rfl
  | 5, _ => rfl
  | 6, _ => rfl
  | 7, _ => rfl
theorem wO_at (ad : Nat → Nat) (ca : Nat → ClassId) (g : xSt) {i : Nat} (h : i < 8) : (wX ad ca g)[28 + i]? = some (ad (28 + i), .inr (2, [.int (g 30 i), .int (g 31 i), .int (g 32 i), .int (g 33 i), .int (g 34 i), .int (g 35 i)])) := by
  match i, h with
  | 0, _ => rfl
  | 1, _ => rfl
  | 2, _ => rfl
  | 3, _ => rfl
  | 4, _ => rfl
  | 5, _ => rfl
  | 6, _ => rfl
  | 7, _ => rfl
set_option maxRecDepth 100000 in
theorem wO_set0 (ad : Nat → Nat) (ca : Nat → ClassId) (g : xSt) (v : Int32) {i : Nat} (h : i < 8) : (wX ad ca g).set (28 + i) (ad (28 + i), .inr (2, [.int v, .int (g 31 i), .int (g 32 i), .int (g 33 i), .int (g 34 i), .int (g 35 i)])) = wX ad ca (xw g 30 i v) := by
  match i, h with
  | 0, _ => rfl
  | 1, _ => rfl
  | 2, _ => rfl
  | 3, _ => rfl
  | 4, _ => rfl
  | 5, _ => rfl
  | 6, _ => rfl
  | 7, _ => rfl
set_option maxRecDepth 100000 in
theorem wO_set1 (ad : Nat → Nat) (ca : Nat → ClassId) (g : xSt) (v : Int32) {i : Nat} (h : i < 8) : (wX ad ca g).set (28 + i) (ad (28 + i), .inr (2, [.int (g 30 i), .int v, .int (g 32 i), .int (g 33 i), .int (g 34 i), .int (g 35 i)])) = wX ad ca (xw g 31 i v) := by
  match i, h with
  | 0, _ => rfl
  | 1, _ => rfl
  | 2, _ => rfl
  | 3, _ => rfl
  | 4, _ => rfl
  | 5, _ => rfl
  | 6, _ => rfl
  | 7, _ => rfl
set_option maxRecDepth 100000 in
theorem wO_set2 (ad : Nat → Nat) (ca : Nat → ClassId) (g : xSt) (v : Int32) {i : Nat} (h : i < 8) : (wX ad ca g).set (28 + i) (ad (28 + i), .inr (2, [.int (g 30 i), .int (g 31 i), .int v, .int (g 33 i), .int (g 34 i), .int (g 35 i)])) = wX ad ca (xw g 32 i v) := by
  match i, h with
  | 0, _ => rfl
  | 1, _ => rfl
  | 2, _ => rfl
  | 3, _ => rfl
  | 4, _ => rfl
  | 5, _ => rfl
  | 6, _ => rfl
  | 7, _ => rfl
set_option maxRecDepth 100000 in
theorem wO_set3 (ad : Nat → Nat) (ca : Nat → ClassId) (g : xSt) (v : Int32) {i : Nat} (h : i < 8) : (wX ad ca g).set (28 + i) (ad (28 + i), .inr (2, [.int (g 30 i), .int (g 31 i), .int (g 32 i), .int v, .int (g 34 i), .int (g 35 i)])) = wX ad ca (xw g 33 i v) := by
  match i, h with
  | 0, _ => rfl
  | 1, _ => rfl
  | 2, _ => rfl
  | 3, _ => rfl
  | 4, _ => rfl
  | 5, _ => rfl
  | 6, _ => rfl
  | 7, _ => rfl
set_option maxRecDepth 100000 in
theorem wO_set4 (ad : Nat → Nat) (ca : Nat → ClassId) (g : xSt) (v : Int32) {i : Nat} (h : i < 8) : (wX ad ca g).set (28 + i) (ad (28 + i), .inr (2, [.int (g 30 i), .int (g 31 i), .int (g 32 i), .int (g 33 i), .int v, .int (g 35 i)])) = wX ad ca (xw g 34 i v) := by
  match i, h with
  | 0, _ => rfl
  | 1, _ => rfl
  | 2, _ => rfl
  | 3, _ => rfl
  | 4, _ => rfl
  | 5, _ => rfl
  | 6, _ => rfl
  | 7, _ => rfl
set_option maxRecDepth 100000 in
theorem wO_set5 (ad : Nat → Nat) (ca : Nat → ClassId) (g : xSt) (v : Int32) {i : Nat} (h : i < 8) : (wX ad ca g).set (28 + i) (ad (28 + i), .inr (2, [.int (g 30 i), .int (g 31 i), .int (g 32 i), .int (g 33 i), .int (g 34 i), .int v])) = wX ad ca (xw g 35 i v) := by
  match i, h with
  | 0, _ => rfl
  | 1, _ => rfl
  | 2, _ => rfl
  | 3, _ => rfl
  | 4, _ => rfl
  | 5, _ => rfl
  | 6, _ => rfl
  | 7, _ => rfl
set_option maxRecDepth 100000 in
theorem sw_0 (ad : Nat → Nat) (ca : Nat → ClassId) (g : xSt) (v : Int32) : (wX ad ca g).set 0 (ad 0, .inr (0, [.ref (ad 1), .ref (ad 2), .ref (ad 3), .ref (ad 4), .ref (ad 5), .ref (ad 6), .ref (ad 7), .int v, .int (g 1 0), .int (g 2 0), .int (g 3 0)])) = wX ad ca (xw g 0 0 v) := rfl
set_option maxRecDepth 100000 in
theorem sw_1 (ad : Nat → Nat) (ca : Nat → ClassId) (g : xSt) (v : Int32) : (wX ad ca g).set 0 (ad 0, .inr (0, [.ref (ad 1), .ref (ad 2), .ref (ad 3), .ref (ad 4), .ref (ad 5), .ref (ad 6), .ref (ad 7), .int (g 0 0), .int v, .int (g 2 0), .int (g 3 0)])) = wX ad ca (xw g 1 0 v) := rfl
set_option maxRecDepth 100000 in
theorem sw_2 (ad : Nat → Nat) (ca : Nat → ClassId) (g : xSt) (v : Int32) : (wX ad ca g).set 0 (ad 0, .inr (0, [.ref (ad 1), .ref (ad 2), .ref (ad 3), .ref (ad 4), .ref (ad 5), .ref (ad 6), .ref (ad 7), .int (g 0 0), .int (g 1 0), .int v, .int (g 3 0)])) = wX ad ca (xw g 2 0 v) := rfl
set_option maxRecDepth 100000 in
theorem sw_3 (ad : Nat → Nat) (ca : Nat → ClassId) (g : xSt) (v : Int32) : (wX ad ca g).set 0 (ad 0, .inr (0, [.ref (ad 1), .ref (ad 2), .ref (ad 3), .ref (ad 4), .ref (ad 5), .ref (ad 6), .ref (ad 7), .int (g 0 0), .int (g 1 0), .int (g 2 0), .int v])) = wX ad ca (xw g 3 0 v) := rfl
set_option maxRecDepth 100000 in
theorem sw_16 (ad : Nat → Nat) (ca : Nat → ClassId) (g : xSt) (v : Int32) : (wX ad ca g).set 6 (ad 6, .inr (4, [.ref (ad 8), .ref (ad 9), .ref (ad 10), .ref (ad 11), .ref (ad 12), .ref (ad 13), .ref (ad 14), .ref (ad 15), .ref (ad 16), .int v, .int (g 17 0), .int (g 18 0), .int (g 19 0)])) = wX ad ca (xw g 16 0 v) := rfl
set_option maxRecDepth 100000 in
theorem sw_17 (ad : Nat → Nat) (ca : Nat → ClassId) (g : xSt) (v : Int32) : (wX ad ca g).set 6 (ad 6, .inr (4, [.ref (ad 8), .ref (ad 9), .ref (ad 10), .ref (ad 11), .ref (ad 12), .ref (ad 13), .ref (ad 14), .ref (ad 15), .ref (ad 16), .int (g 16 0), .int v, .int (g 18 0), .int (g 19 0)])) = wX ad ca (xw g 17 0 v) := rfl
set_option maxRecDepth 100000 in
theorem sw_18 (ad : Nat → Nat) (ca : Nat → ClassId) (g : xSt) (v : Int32) : (wX ad ca g).set 6 (ad 6, .inr (4, [.ref (ad 8), .ref (ad 9), .ref (ad 10), .ref (ad 11), .ref (ad 12), .ref (ad 13), .ref (ad 14), .ref (ad 15), .ref (ad 16), .int (g 16 0), .int (g 17 0), .int v, .int (g 19 0)])) = wX ad ca (xw g 18 0 v) := rfl
set_option maxRecDepth 100000 in
theorem sw_19 (ad : Nat → Nat) (ca : Nat → ClassId) (g : xSt) (v : Int32) : (wX ad ca g).set 6 (ad 6, .inr (4, [.ref (ad 8), .ref (ad 9), .ref (ad 10), .ref (ad 11), .ref (ad 12), .ref (ad 13), .ref (ad 14), .ref (ad 15), .ref (ad 16), .int (g 16 0), .int (g 17 0), .int (g 18 0), .int v])) = wX ad ca (xw g 19 0 v) := rfl
set_option maxRecDepth 100000 in
theorem sw_23 (ad : Nat → Nat) (ca : Nat → ClassId) (g : xSt) (v : Int32) : (wX ad ca g).set 7 (ad 7, .inr (3, [.ref (ad 17), .ref (ad 18), .ref (ad 19), .int v])) = wX ad ca (xw g 23 0 v) := rfl
set_option maxRecDepth 100000 in
theorem sw_40 (ad : Nat → Nat) (ca : Nat → ClassId) (g : xSt) (v : Int32) : (wX ad ca g).set 36 (ad 36, .inr (5, [.int v, .int (g 41 0), .ref (ad 37), .ref (ad 38), .ref (ad 39), .ref (ad 40), .ref (ad 41), .int (g 42 0), .ref (ad 42), .ref (ad 43), .ref (ad 44), .ref (ad 45), .ref (ad 46), .ref (ad 47), .ref (ad 48), .ref (ad 49), .int (g 43 0), .ref (ad 50), .ref (ad 51), .ref (ad 52), .int (g 44 0), .int (g 45 0), .int (g 46 0), .ref (ad 53), .ref (ad 54), .ref (ad 55), .ref (ad 56), .ref (ad 57)])) = wX ad ca (xw g 40 0 v) := rfl
set_option maxRecDepth 100000 in
theorem sw_41 (ad : Nat → Nat) (ca : Nat → ClassId) (g : xSt) (v : Int32) : (wX ad ca g).set 36 (ad 36, .inr (5, [.int (g 40 0), .int v, .ref (ad 37), .ref (ad 38), .ref (ad 39), .ref (ad 40), .ref (ad 41), .int (g 42 0), .ref (ad 42), .ref (ad 43), .ref (ad 44), .ref (ad 45), .ref (ad 46), .ref (ad 47), .ref (ad 48), .ref (ad 49), .int (g 43 0), .ref (ad 50), .ref (ad 51), .ref (ad 52), .int (g 44 0), .int (g 45 0), .int (g 46 0), .ref (ad 53), .ref (ad 54), .ref (ad 55), .ref (ad 56), .ref (ad 57)])) = wX ad ca (xw g 41 0 v) := rfl
set_option maxRecDepth 100000 in
theorem sw_42 (ad : Nat → Nat) (ca : Nat → ClassId) (g : xSt) (v : Int32) : (wX ad ca g).set 36 (ad 36, .inr (5, [.int (g 40 0), .int (g 41 0), .ref (ad 37), .ref (ad 38), .ref (ad 39), .ref (ad 40), .ref (ad 41), .int v, .ref (ad 42), .ref (ad 43), .ref (ad 44), .ref (ad 45), .ref (ad 46), .ref (ad 47), .ref (ad 48), .ref (ad 49), .int (g 43 0), .ref (ad 50), .ref (ad 51), .ref (ad 52), .int (g 44 0), .int (g 45 0), .int (g 46 0), .ref (ad 53), .ref (ad 54), .ref (ad 55), .ref (ad 56), .ref (ad 57)])) = wX ad ca (xw g 42 0 v) := rfl
set_option maxRecDepth 100000 in
theorem sw_43 (ad : Nat → Nat) (ca : Nat → ClassId) (g : xSt) (v : Int32) : (wX ad ca g).set 36 (ad 36, .inr (5, [.int (g 40 0), .int (g 41 0), .ref (ad 37), .ref (ad 38), .ref (ad 39), .ref (ad 40), .ref (ad 41), .int (g 42 0), .ref (ad 42), .ref (ad 43), .ref (ad 44), .ref (ad 45), .ref (ad 46), .ref (ad 47), .ref (ad 48), .ref (ad 49), .int v, .ref (ad 50), .ref (ad 51), .ref (ad 52), .int (g 44 0), .int (g 45 0), .int (g 46 0), .ref (ad 53), .ref (ad 54), .ref (ad 55), .ref (ad 56), .ref (ad 57)])) = wX ad ca (xw g 43 0 v) := rfl
set_option maxRecDepth 100000 in
theorem sw_44 (ad : Nat → Nat) (ca : Nat → ClassId) (g : xSt) (v : Int32) : (wX ad ca g).set 36 (ad 36, .inr (5, [.int (g 40 0), .int (g 41 0), .ref (ad 37), .ref (ad 38), .ref (ad 39), .ref (ad 40), .ref (ad 41), .int (g 42 0), .ref (ad 42), .ref (ad 43), .ref (ad 44), .ref (ad 45), .ref (ad 46), .ref (ad 47), .ref (ad 48), .ref (ad 49), .int (g 43 0), .ref (ad 50), .ref (ad 51), .ref (ad 52), .int v, .int (g 45 0), .int (g 46 0), .ref (ad 53), .ref (ad 54), .ref (ad 55), .ref (ad 56), .ref (ad 57)])) = wX ad ca (xw g 44 0 v) := rfl
set_option maxRecDepth 100000 in
theorem sw_45 (ad : Nat → Nat) (ca : Nat → ClassId) (g : xSt) (v : Int32) : (wX ad ca g).set 36 (ad 36, .inr (5, [.int (g 40 0), .int (g 41 0), .ref (ad 37), .ref (ad 38), .ref (ad 39), .ref (ad 40), .ref (ad 41), .int (g 42 0), .ref (ad 42), .ref (ad 43), .ref (ad 44), .ref (ad 45), .ref (ad 46), .ref (ad 47), .ref (ad 48), .ref (ad 49), .int (g 43 0), .ref (ad 50), .ref (ad 51), .ref (ad 52), .int (g 44 0), .int v, .int (g 46 0), .ref (ad 53), .ref (ad 54), .ref (ad 55), .ref (ad 56), .ref (ad 57)])) = wX ad ca (xw g 45 0 v) := rfl
set_option maxRecDepth 100000 in
theorem sw_46 (ad : Nat → Nat) (ca : Nat → ClassId) (g : xSt) (v : Int32) : (wX ad ca g).set 36 (ad 36, .inr (5, [.int (g 40 0), .int (g 41 0), .ref (ad 37), .ref (ad 38), .ref (ad 39), .ref (ad 40), .ref (ad 41), .int (g 42 0), .ref (ad 42), .ref (ad 43), .ref (ad 44), .ref (ad 45), .ref (ad 46), .ref (ad 47), .ref (ad 48), .ref (ad 49), .int (g 43 0), .ref (ad 50), .ref (ad 51), .ref (ad 52), .int (g 44 0), .int (g 45 0), .int v, .ref (ad 53), .ref (ad 54), .ref (ad 55), .ref (ad 56), .ref (ad 57)])) = wX ad ca (xw g 46 0 v) := rfl
set_option maxRecDepth 100000 in
theorem sa_4 (ad : Nat → Nat) (ca : Nat → ClassId) (g : xSt) (i : Nat) (v : Int32) : (wX ad ca g).set 3 (ad 3, .inl (ca 1, 4, .inl (upd (g 4) i v))) = wX ad ca (xw g 4 i v) := rfl
set_option maxRecDepth 100000 in
theorem sf_4 (ad : Nat → Nat) (ca : Nat → ClassId) (g : xSt) (f : Nat → Int32) : (wX ad ca g).set 3 (ad 3, .inl (ca 1, 4, .inl f)) = wX ad ca (va_up g 4 f) := rfl
set_option maxRecDepth 100000 in
theorem sa_5 (ad : Nat → Nat) (ca : Nat → ClassId) (g : xSt) (i : Nat) (v : Int32) : (wX ad ca g).set 4 (ad 4, .inl (ca 0, 8, .inl (upd (g 5) i v))) = wX ad ca (xw g 5 i v) := rfl
set_option maxRecDepth 100000 in
theorem sf_5 (ad : Nat → Nat) (ca : Nat → ClassId) (g : xSt) (f : Nat → Int32) : (wX ad ca g).set 4 (ad 4, .inl (ca 0, 8, .inl f)) = wX ad ca (va_up g 5 f) := rfl
set_option maxRecDepth 100000 in
theorem sa_6 (ad : Nat → Nat) (ca : Nat → ClassId) (g : xSt) (i : Nat) (v : Int32) : (wX ad ca g).set 5 (ad 5, .inl (ca 0, 8, .inl (upd (g 6) i v))) = wX ad ca (xw g 6 i v) := rfl
set_option maxRecDepth 100000 in
theorem sf_6 (ad : Nat → Nat) (ca : Nat → ClassId) (g : xSt) (f : Nat → Int32) : (wX ad ca g).set 5 (ad 5, .inl (ca 0, 8, .inl f)) = wX ad ca (va_up g 6 f) := rfl
set_option maxRecDepth 100000 in
theorem sa_7 (ad : Nat → Nat) (ca : Nat → ClassId) (g : xSt) (i : Nat) (v : Int32) : (wX ad ca g).set 8 (ad 8, .inl (ca 0, 64, .inl (upd (g 7) i v))) = wX ad ca (xw g 7 i v) := rfl
set_option maxRecDepth 100000 in
theorem sf_7 (ad : Nat → Nat) (ca : Nat → ClassId) (g : xSt) (f : Nat → Int32) : (wX ad ca g).set 8 (ad 8, .inl (ca 0, 64, .inl f)) = wX ad ca (va_up g 7 f) := rfl
set_option maxRecDepth 100000 in
theorem sa_8 (ad : Nat → Nat) (ca : Nat → ClassId) (g : xSt) (i : Nat) (v : Int32) : (wX ad ca g).set 9 (ad 9, .inl (ca 0, 64, .inl (upd (g 8) i v))) = wX ad ca (xw g 8 i v) := rfl
set_option maxRecDepth 100000 in
theorem sf_8 (ad : Nat → Nat) (ca : Nat → ClassId) (g : xSt) (f : Nat → Int32) : (wX ad ca g).set 9 (ad 9, .inl (ca 0, 64, .inl f)) = wX ad ca (va_up g 8 f) := rfl
set_option maxRecDepth 100000 in
theorem sa_9 (ad : Nat → Nat) (ca : Nat → ClassId) (g : xSt) (i : Nat) (v : Int32) : (wX ad ca g).set 10 (ad 10, .inl (ca 0, 8, .inl (upd (g 9) i v))) = wX ad ca (xw g 9 i v) := rfl
set_option maxRecDepth 100000 in
theorem sf_9 (ad : Nat → Nat) (ca : Nat → ClassId) (g : xSt) (f : Nat → Int32) : (wX ad ca g).set 10 (ad 10, .inl (ca 0, 8, .inl f)) = wX ad ca (va_up g 9 f) := rfl
set_option maxRecDepth 100000 in
theorem sa_10 (ad : Nat → Nat) (ca : Nat → ClassId) (g : xSt) (i : Nat) (v : Int32) : (wX ad ca g).set 11 (ad 11, .inl (ca 0, 8, .inl (upd (g 10) i v))) = wX ad ca (xw g 10 i v) := rfl
set_option maxRecDepth 100000 in
theorem sf_10 (ad : Nat → Nat) (ca : Nat → ClassId) (g : xSt) (f : Nat → Int32) : (wX ad ca g).set 11 (ad 11, .inl (ca 0, 8, .inl f)) = wX ad ca (va_up g 10 f) := rfl
set_option maxRecDepth 100000 in
theorem sa_11 (ad : Nat → Nat) (ca : Nat → ClassId) (g : xSt) (i : Nat) (v : Int32) : (wX ad ca g).set 12 (ad 12, .inl (ca 0, 8, .inl (upd (g 11) i v))) = wX ad ca (xw g 11 i v) := rfl
set_option maxRecDepth 100000 in
theorem sf_11 (ad : Nat → Nat) (ca : Nat → ClassId) (g : xSt) (f : Nat → Int32) : (wX ad ca g).set 12 (ad 12, .inl (ca 0, 8, .inl f)) = wX ad ca (va_up g 11 f) := rfl
set_option maxRecDepth 100000 in
theorem sa_12 (ad : Nat → Nat) (ca : Nat → ClassId) (g : xSt) (i : Nat) (v : Int32) : (wX ad ca g).set 13 (ad 13, .inl (ca 0, 8, .inl (upd (g 12) i v))) = wX ad ca (xw g 12 i v) := rfl
set_option maxRecDepth 100000 in
theorem sf_12 (ad : Nat → Nat) (ca : Nat → ClassId) (g : xSt) (f : Nat → Int32) : (wX ad ca g).set 13 (ad 13, .inl (ca 0, 8, .inl f)) = wX ad ca (va_up g 12 f) := rfl
set_option maxRecDepth 100000 in
theorem sa_13 (ad : Nat → Nat) (ca : Nat → ClassId) (g : xSt) (i : Nat) (v : Int32) : (wX ad ca g).set 14 (ad 14, .inl (ca 0, 64, .inl (upd (g 13) i v))) = wX ad ca (xw g 13 i v) := rfl
set_option maxRecDepth 100000 in
theorem sf_13 (ad : Nat → Nat) (ca : Nat → ClassId) (g : xSt) (f : Nat → Int32) : (wX ad ca g).set 14 (ad 14, .inl (ca 0, 64, .inl f)) = wX ad ca (va_up g 13 f) := rfl
set_option maxRecDepth 100000 in
theorem sa_14 (ad : Nat → Nat) (ca : Nat → ClassId) (g : xSt) (i : Nat) (v : Int32) : (wX ad ca g).set 15 (ad 15, .inl (ca 0, 64, .inl (upd (g 14) i v))) = wX ad ca (xw g 14 i v) := rfl
set_option maxRecDepth 100000 in
theorem sf_14 (ad : Nat → Nat) (ca : Nat → ClassId) (g : xSt) (f : Nat → Int32) : (wX ad ca g).set 15 (ad 15, .inl (ca 0, 64, .inl f)) = wX ad ca (va_up g 14 f) := rfl
set_option maxRecDepth 100000 in
theorem sa_15 (ad : Nat → Nat) (ca : Nat → ClassId) (g : xSt) (i : Nat) (v : Int32) : (wX ad ca g).set 16 (ad 16, .inl (ca 0, 64, .inl (upd (g 15) i v))) = wX ad ca (xw g 15 i v) := rfl
set_option maxRecDepth 100000 in
theorem sf_15 (ad : Nat → Nat) (ca : Nat → ClassId) (g : xSt) (f : Nat → Int32) : (wX ad ca g).set 16 (ad 16, .inl (ca 0, 64, .inl f)) = wX ad ca (va_up g 15 f) := rfl
set_option maxRecDepth 100000 in
theorem sa_20 (ad : Nat → Nat) (ca : Nat → ClassId) (g : xSt) (i : Nat) (v : Int32) : (wX ad ca g).set 17 (ad 17, .inl (ca 0, 64, .inl (upd (g 20) i v))) = wX ad ca (xw g 20 i v) := rfl
set_option maxRecDepth 100000 in
theorem sf_20 (ad : Nat → Nat) (ca : Nat → ClassId) (g : xSt) (f : Nat → Int32) : (wX ad ca g).set 17 (ad 17, .inl (ca 0, 64, .inl f)) = wX ad ca (va_up g 20 f) := rfl
set_option maxRecDepth 100000 in
theorem sa_21 (ad : Nat → Nat) (ca : Nat → ClassId) (g : xSt) (i : Nat) (v : Int32) : (wX ad ca g).set 18 (ad 18, .inl (ca 0, 64, .inl (upd (g 21) i v))) = wX ad ca (xw g 21 i v) := rfl
set_option maxRecDepth 100000 in
theorem sf_21 (ad : Nat → Nat) (ca : Nat → ClassId) (g : xSt) (f : Nat → Int32) : (wX ad ca g).set 18 (ad 18, .inl (ca 0, 64, .inl f)) = wX ad ca (va_up g 21 f) := rfl
set_option maxRecDepth 100000 in
theorem sa_22 (ad : Nat → Nat) (ca : Nat → ClassId) (g : xSt) (i : Nat) (v : Int32) : (wX ad ca g).set 19 (ad 19, .inl (ca 0, 64, .inl (upd (g 22) i v))) = wX ad ca (xw g 22 i v) := rfl
set_option maxRecDepth 100000 in
theorem sf_22 (ad : Nat → Nat) (ca : Nat → ClassId) (g : xSt) (f : Nat → Int32) : (wX ad ca g).set 19 (ad 19, .inl (ca 0, 64, .inl f)) = wX ad ca (va_up g 22 f) := rfl
set_option maxRecDepth 100000 in
theorem sa_47 (ad : Nat → Nat) (ca : Nat → ClassId) (g : xSt) (i : Nat) (v : Int32) : (wX ad ca g).set 37 (ad 37, .inl (ca 0, 8, .inl (upd (g 47) i v))) = wX ad ca (xw g 47 i v) := rfl
set_option maxRecDepth 100000 in
theorem sf_47 (ad : Nat → Nat) (ca : Nat → ClassId) (g : xSt) (f : Nat → Int32) : (wX ad ca g).set 37 (ad 37, .inl (ca 0, 8, .inl f)) = wX ad ca (va_up g 47 f) := rfl
set_option maxRecDepth 100000 in
theorem sa_48 (ad : Nat → Nat) (ca : Nat → ClassId) (g : xSt) (i : Nat) (v : Int32) : (wX ad ca g).set 38 (ad 38, .inl (ca 0, 8, .inl (upd (g 48) i v))) = wX ad ca (xw g 48 i v) := rfl
set_option maxRecDepth 100000 in
theorem sf_48 (ad : Nat → Nat) (ca : Nat → ClassId) (g : xSt) (f : Nat → Int32) : (wX ad ca g).set 38 (ad 38, .inl (ca 0, 8, .inl f)) = wX ad ca (va_up g 48 f) := rfl
set_option maxRecDepth 100000 in
theorem sa_49 (ad : Nat → Nat) (ca : Nat → ClassId) (g : xSt) (i : Nat) (v : Int32) : (wX ad ca g).set 39 (ad 39, .inl (ca 0, 8, .inl (upd (g 49) i v))) = wX ad ca (xw g 49 i v) := rfl
set_option maxRecDepth 100000 in
theorem sf_49 (ad : Nat → Nat) (ca : Nat → ClassId) (g : xSt) (f : Nat → Int32) : (wX ad ca g).set 39 (ad 39, .inl (ca 0, 8, .inl f)) = wX ad ca (va_up g 49 f) := rfl
set_option maxRecDepth 100000 in
theorem sa_50 (ad : Nat → Nat) (ca : Nat → ClassId) (g : xSt) (i : Nat) (v : Int32) : (wX ad ca g).set 40 (ad 40, .inl (ca 0, 8, .inl (upd (g 50) i v))) = wX ad ca (xw g 50 i v) := rfl
set_option maxRecDepth 100000 in
theorem sf_50 (ad : Nat → Nat) (ca : Nat → ClassId) (g : xSt) (f : Nat → Int32) : (wX ad ca g).set 40 (ad 40, .inl (ca 0, 8, .inl f)) = wX ad ca (va_up g 50 f) := rfl
set_option maxRecDepth 100000 in
theorem sa_51 (ad : Nat → Nat) (ca : Nat → ClassId) (g : xSt) (i : Nat) (v : Int32) : (wX ad ca g).set 41 (ad 41, .inl (ca 0, 8, .inl (upd (g 51) i v))) = wX ad ca (xw g 51 i v) := rfl
set_option maxRecDepth 100000 in
theorem sf_51 (ad : Nat → Nat) (ca : Nat → ClassId) (g : xSt) (f : Nat → Int32) : (wX ad ca g).set 41 (ad 41, .inl (ca 0, 8, .inl f)) = wX ad ca (va_up g 51 f) := rfl
set_option maxRecDepth 100000 in
theorem sa_52 (ad : Nat → Nat) (ca : Nat → ClassId) (g : xSt) (i : Nat) (v : Int32) : (wX ad ca g).set 42 (ad 42, .inl (ca 0, 8, .inl (upd (g 52) i v))) = wX ad ca (xw g 52 i v) := rfl
set_option maxRecDepth 100000 in
theorem sf_52 (ad : Nat → Nat) (ca : Nat → ClassId) (g : xSt) (f : Nat → Int32) : (wX ad ca g).set 42 (ad 42, .inl (ca 0, 8, .inl f)) = wX ad ca (va_up g 52 f) := rfl
set_option maxRecDepth 100000 in
theorem sa_53 (ad : Nat → Nat) (ca : Nat → ClassId) (g : xSt) (i : Nat) (v : Int32) : (wX ad ca g).set 43 (ad 43, .inl (ca 0, 8, .inl (upd (g 53) i v))) = wX ad ca (xw g 53 i v) := rfl
set_option maxRecDepth 100000 in
theorem sf_53 (ad : Nat → Nat) (ca : Nat → ClassId) (g : xSt) (f : Nat → Int32) : (wX ad ca g).set 43 (ad 43, .inl (ca 0, 8, .inl f)) = wX ad ca (va_up g 53 f) := rfl
set_option maxRecDepth 100000 in
theorem sa_54 (ad : Nat → Nat) (ca : Nat → ClassId) (g : xSt) (i : Nat) (v : Int32) : (wX ad ca g).set 44 (ad 44, .inl (ca 0, 8, .inl (upd (g 54) i v))) = wX ad ca (xw g 54 i v) := rfl
set_option maxRecDepth 100000 in
theorem sf_54 (ad : Nat → Nat) (ca : Nat → ClassId) (g : xSt) (f : Nat → Int32) : (wX ad ca g).set 44 (ad 44, .inl (ca 0, 8, .inl f)) = wX ad ca (va_up g 54 f) := rfl
set_option maxRecDepth 100000 in
theorem sa_55 (ad : Nat → Nat) (ca : Nat → ClassId) (g : xSt) (i : Nat) (v : Int32) : (wX ad ca g).set 45 (ad 45, .inl (ca 0, 8, .inl (upd (g 55) i v))) = wX ad ca (xw g 55 i v) := rfl
set_option maxRecDepth 100000 in
theorem sf_55 (ad : Nat → Nat) (ca : Nat → ClassId) (g : xSt) (f : Nat → Int32) : (wX ad ca g).set 45 (ad 45, .inl (ca 0, 8, .inl f)) = wX ad ca (va_up g 55 f) := rfl
set_option maxRecDepth 100000 in
theorem sa_56 (ad : Nat → Nat) (ca : Nat → ClassId) (g : xSt) (i : Nat) (v : Int32) : (wX ad ca g).set 46 (ad 46, .inl (ca 0, 8, .inl (upd (g 56) i v))) = wX ad ca (xw g 56 i v) := rfl
set_option maxRecDepth 100000 in
theorem sf_56 (ad : Nat → Nat) (ca : Nat → ClassId) (g : xSt) (f : Nat → Int32) : (wX ad ca g).set 46 (ad 46, .inl (ca 0, 8, .inl f)) = wX ad ca (va_up g 56 f) := rfl
set_option maxRecDepth 100000 in
theorem sa_57 (ad : Nat → Nat) (ca : Nat → ClassId) (g : xSt) (i : Nat) (v : Int32) : (wX ad ca g).set 47 (ad 47, .inl (ca 0, 8, .inl (upd (g 57) i v))) = wX ad ca (xw g 57 i v) := rfl
set_option maxRecDepth 100000 in
theorem sf_57 (ad : Nat → Nat) (ca : Nat → ClassId) (g : xSt) (f : Nat → Int32) : (wX ad ca g).set 47 (ad 47, .inl (ca 0, 8, .inl f)) = wX ad ca (va_up g 57 f) := rfl
set_option maxRecDepth 100000 in
theorem sa_58 (ad : Nat → Nat) (ca : Nat → ClassId) (g : xSt) (i : Nat) (v : Int32) : (wX ad ca g).set 48 (ad 48, .inl (ca 1, 64, .inl (upd (g 58) i v))) = wX ad ca (xw g 58 i v) := rfl
set_option maxRecDepth 100000 in
theorem sf_58 (ad : Nat → Nat) (ca : Nat → ClassId) (g : xSt) (f : Nat → Int32) : (wX ad ca g).set 48 (ad 48, .inl (ca 1, 64, .inl f)) = wX ad ca (va_up g 58 f) := rfl
set_option maxRecDepth 100000 in
theorem sa_59 (ad : Nat → Nat) (ca : Nat → ClassId) (g : xSt) (i : Nat) (v : Int32) : (wX ad ca g).set 49 (ad 49, .inl (ca 1, 4, .inl (upd (g 59) i v))) = wX ad ca (xw g 59 i v) := rfl
set_option maxRecDepth 100000 in
theorem sf_59 (ad : Nat → Nat) (ca : Nat → ClassId) (g : xSt) (f : Nat → Int32) : (wX ad ca g).set 49 (ad 49, .inl (ca 1, 4, .inl f)) = wX ad ca (va_up g 59 f) := rfl
set_option maxRecDepth 100000 in
theorem sa_60 (ad : Nat → Nat) (ca : Nat → ClassId) (g : xSt) (i : Nat) (v : Int32) : (wX ad ca g).set 50 (ad 50, .inl (ca 0, 64, .inl (upd (g 60) i v))) = wX ad ca (xw g 60 i v) := rfl
set_option maxRecDepth 100000 in
theorem sf_60 (ad : Nat → Nat) (ca : Nat → ClassId) (g : xSt) (f : Nat → Int32) : (wX ad ca g).set 50 (ad 50, .inl (ca 0, 64, .inl f)) = wX ad ca (va_up g 60 f) := rfl
set_option maxRecDepth 100000 in
theorem sa_61 (ad : Nat → Nat) (ca : Nat → ClassId) (g : xSt) (i : Nat) (v : Int32) : (wX ad ca g).set 51 (ad 51, .inl (ca 0, 64, .inl (upd (g 61) i v))) = wX ad ca (xw g 61 i v) := rfl
set_option maxRecDepth 100000 in
theorem sf_61 (ad : Nat → Nat) (ca : Nat → ClassId) (g : xSt) (f : Nat → Int32) : (wX ad ca g).set 51 (ad 51, .inl (ca 0, 64, .inl f)) = wX ad ca (va_up g 61 f) := rfl
set_option maxRecDepth 100000 in
theorem sa_62 (ad : Nat → Nat) (ca : Nat → ClassId) (g : xSt) (i : Nat) (v : Int32) : (wX ad ca g).set 52 (ad 52, .inl (ca 0, 64, .inl (upd (g 62) i v))) = wX ad ca (xw g 62 i v) := rfl
set_option maxRecDepth 100000 in
theorem sf_62 (ad : Nat → Nat) (ca : Nat → ClassId) (g : xSt) (f : Nat → Int32) : (wX ad ca g).set 52 (ad 52, .inl (ca 0, 64, .inl f)) = wX ad ca (va_up g 62 f) := rfl
set_option maxRecDepth 100000 in
theorem sa_63 (ad : Nat → Nat) (ca : Nat → ClassId) (g : xSt) (i : Nat) (v : Int32) : (wX ad ca g).set 53 (ad 53, .inl (ca 0, 64, .inl (upd (g 63) i v))) = wX ad ca (xw g 63 i v) := rfl
set_option maxRecDepth 100000 in
theorem sf_63 (ad : Nat → Nat) (ca : Nat → ClassId) (g : xSt) (f : Nat → Int32) : (wX ad ca g).set 53 (ad 53, .inl (ca 0, 64, .inl f)) = wX ad ca (va_up g 63 f) := rfl
set_option maxRecDepth 100000 in
theorem sa_64 (ad : Nat → Nat) (ca : Nat → ClassId) (g : xSt) (i : Nat) (v : Int32) : (wX ad ca g).set 54 (ad 54, .inl (ca 0, 64, .inl (upd (g 64) i v))) = wX ad ca (xw g 64 i v) := rfl
set_option maxRecDepth 100000 in
theorem sf_64 (ad : Nat → Nat) (ca : Nat → ClassId) (g : xSt) (f : Nat → Int32) : (wX ad ca g).set 54 (ad 54, .inl (ca 0, 64, .inl f)) = wX ad ca (va_up g 64 f) := rfl
set_option maxRecDepth 100000 in
theorem sa_65 (ad : Nat → Nat) (ca : Nat → ClassId) (g : xSt) (i : Nat) (v : Int32) : (wX ad ca g).set 55 (ad 55, .inl (ca 0, 65, .inl (upd (g 65) i v))) = wX ad ca (xw g 65 i v) := rfl
set_option maxRecDepth 100000 in
theorem sf_65 (ad : Nat → Nat) (ca : Nat → ClassId) (g : xSt) (f : Nat → Int32) : (wX ad ca g).set 55 (ad 55, .inl (ca 0, 65, .inl f)) = wX ad ca (va_up g 65 f) := rfl
set_option maxRecDepth 100000 in
theorem sa_66 (ad : Nat → Nat) (ca : Nat → ClassId) (g : xSt) (i : Nat) (v : Int32) : (wX ad ca g).set 56 (ad 56, .inl (ca 0, 64, .inl (upd (g 66) i v))) = wX ad ca (xw g 66 i v) := rfl
set_option maxRecDepth 100000 in
theorem sf_66 (ad : Nat → Nat) (ca : Nat → ClassId) (g : xSt) (f : Nat → Int32) : (wX ad ca g).set 56 (ad 56, .inl (ca 0, 64, .inl f)) = wX ad ca (va_up g 66 f) := rfl
set_option maxRecDepth 100000 in
theorem sa_67 (ad : Nat → Nat) (ca : Nat → ClassId) (g : xSt) (i : Nat) (v : Int32) : (wX ad ca g).set 57 (ad 57, .inl (ca 0, 8, .inl (upd (g 67) i v))) = wX ad ca (xw g 67 i v) := rfl
set_option maxRecDepth 100000 in
theorem sf_67 (ad : Nat → Nat) (ca : Nat → ClassId) (g : xSt) (f : Nat → Int32) : (wX ad ca g).set 57 (ad 57, .inl (ca 0, 8, .inl f)) = wX ad ca (va_up g 67 f) := rfl
