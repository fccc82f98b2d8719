def f_D_checkThere (p1 : Int32) (p2 : Int32) (g : xSt) : Option (Nat × Int32 × xSt) := (if p1 < 0 then some (3, 0, g) else (if p1 < p2 then some (0, 0, g) else some (3, 0, g)))

set_option maxRecDepth 100000 in
set_option maxHeartbeats 4000000 in
theorem c_D_checkThere (l : Launch) (hfl : l.stackTraces = false) (p1 : Int32) (p2 : Int32) (g : xSt) (k : Nat) (r : Int32) (g' : xSt) (hf : f_D_checkThere p1 p2 g = some (k, r, g')) : xM l y_D_checkThere (.code y_D_checkThere b_D_checkThere 2 none) ({ frames := 6, cells := 1, slots := 6, locals := 82 } : Room) (fun ad => [.int p1, .int p2]) g (xov k none) g' 1 6 := by
  refine x_contract (by decide) (fun _ => Nat.le_of_ble_eq_true rfl) ?_
  intro p e s m below meth c D ad ca X hno
  unfold f_D_checkThere at hf
  refine v_iload_n X.1 d_D_checkThere_0 rfl 0 rfl ?_
  refine v_if_lt X.1 (tgt := 9) d_D_checkThere_1 (by decide) (fun c1 => ?_) (fun c1 => ?_)
  · rw [if_pos c1] at hf
    cases hf
    exact v_throw X hfl hno (cls := "java/util/NoSuchElementException") (text := "there is none of this number") (i1 := 13) rfl tw_428 tw_429 tw_63 tw_438 (by decide) (by decide +kernel) thb_NoSuchElementException thw_NoSuchElementException d_D_checkThere_9 d_D_checkThere_12 d_D_checkThere_13 d_D_checkThere_15 d_D_checkThere_18 ⟨by decide, by decide, by decide, by decide⟩ (by decide) (by decide)
  · rw [if_neg c1] at hf
    refine v_iload_n X.1 d_D_checkThere_4 rfl 0 rfl ?_
    refine v_iload_n X.1 d_D_checkThere_5 rfl 1 rfl ?_
    refine v_icmp_lt X.1 (tgt := 19) d_D_checkThere_6 (by decide) (fun c2 => ?_) (fun c2 => ?_)
    · rw [if_pos c2] at hf
      cases hf
      exact v_vret X.1 X.2.2.1 d_D_checkThere_19 X.2.2.2.1 (by decide) (by decide)
    · rw [if_neg c2] at hf
      cases hf
      exact v_throw X hfl hno (cls := "java/util/NoSuchElementException") (text := "there is none of this number") (i1 := 13) rfl tw_428 tw_429 tw_63 tw_438 (by decide) (by decide +kernel) thb_NoSuchElementException thw_NoSuchElementException d_D_checkThere_9 d_D_checkThere_12 d_D_checkThere_13 d_D_checkThere_15 d_D_checkThere_18 ⟨by decide, by decide, by decide, by decide⟩ (by decide) (by decide)

def f_D_checkRange (p1 : Int32) (p2 : Int32) (p3 : Int32) (g : xSt) : Option (Nat × Int32 × xSt) := (if p1 < p2 then some (1, 0, g) else (if p1 ≤ p3 then some (0, 0, g) else some (1, 0, g)))

set_option maxRecDepth 100000 in
set_option maxHeartbeats 4000000 in
theorem c_D_checkRange (l : Launch) (hfl : l.stackTraces = false) (p1 : Int32) (p2 : Int32) (p3 : Int32) (g : xSt) (k : Nat) (r : Int32) (g' : xSt) (hf : f_D_checkRange p1 p2 p3 g = some (k, r, g')) : xM l y_D_checkRange (.code y_D_checkRange b_D_checkRange 3 none) ({ frames := 6, cells := 1, slots := 6, locals := 82 } : Room) (fun ad => [.int p1, .int p2, .int p3]) g (xov k none) g' 1 6 := by
  refine x_contract (by decide) (fun _ => Nat.le_of_ble_eq_true rfl) ?_
  intro p e s m below meth c D ad ca X hno
  unfold f_D_checkRange at hf
  refine v_iload_n X.1 d_D_checkRange_0 rfl 0 rfl ?_
  refine v_iload_n X.1 d_D_checkRange_1 rfl 1 rfl ?_
  refine v_icmp_lt X.1 (tgt := 10) d_D_checkRange_2 (by decide) (fun c1 => ?_) (fun c1 => ?_)
  · rw [if_pos c1] at hf
    cases hf
    exact v_throw X hfl hno (cls := "java/lang/IllegalArgumentException") (text := "a number is outside its range") (i1 := 7) rfl tw_322 tw_323 tw_61 tw_365 (by decide) (by decide +kernel) thb_IllegalArgumentException thw_IllegalArgumentException d_D_checkRange_10 d_D_checkRange_13 d_D_checkRange_14 d_D_checkRange_16 d_D_checkRange_19 ⟨by decide, by decide, by decide, by decide⟩ (by decide) (by decide)
  · rw [if_neg c1] at hf
    refine v_iload_n X.1 d_D_checkRange_5 rfl 0 rfl ?_
    refine v_iload_n X.1 d_D_checkRange_6 rfl 2 rfl ?_
    refine v_icmp_le X.1 (tgt := 20) d_D_checkRange_7 (by decide) (fun c2 => ?_) (fun c2 => ?_)
    · rw [if_pos c2] at hf
      cases hf
      exact v_vret X.1 X.2.2.1 d_D_checkRange_20 X.2.2.2.1 (by decide) (by decide)
    · rw [if_neg c2] at hf
      cases hf
      exact v_throw X hfl hno (cls := "java/lang/IllegalArgumentException") (text := "a number is outside its range") (i1 := 7) rfl tw_322 tw_323 tw_61 tw_365 (by decide) (by decide +kernel) thb_IllegalArgumentException thw_IllegalArgumentException d_D_checkRange_10 d_D_checkRange_13 d_D_checkRange_14 d_D_checkRange_16 d_D_checkRange_19 ⟨by decide, by decide, by decide, by decide⟩ (by decide) (by decide)

def f_D_checkRoom (p1 : Int32) (p2 : Int32) (g : xSt) : Option (Nat × Int32 × xSt) := (if p1 < p2 then some (0, 0, g) else some (2, 0, g))

set_option maxRecDepth 100000 in
set_option maxHeartbeats 4000000 in
theorem c_D_checkRoom (l : Launch) (hfl : l.stackTraces = false) (p1 : Int32) (p2 : Int32) (g : xSt) (k : Nat) (r : Int32) (g' : xSt) (hf : f_D_checkRoom p1 p2 g = some (k, r, g')) : xM l y_D_checkRoom (.code y_D_checkRoom b_D_checkRoom 2 none) ({ frames := 6, cells := 1, slots := 6, locals := 82 } : Room) (fun ad => [.int p1, .int p2]) g (xov k none) g' 1 6 := by
  refine x_contract (by decide) (fun _ => Nat.le_of_ble_eq_true rfl) ?_
  intro p e s m below meth c D ad ca X hno
  unfold f_D_checkRoom at hf
  refine v_iload_n X.1 d_D_checkRoom_0 rfl 0 rfl ?_
  refine v_iload_n X.1 d_D_checkRoom_1 rfl 1 rfl ?_
  refine v_icmp_lt X.1 (tgt := 15) d_D_checkRoom_2 (by decide) (fun c1 => ?_) (fun c1 => ?_)
  · rw [if_pos c1] at hf
    cases hf
    exact v_vret X.1 X.2.2.1 d_D_checkRoom_15 X.2.2.2.1 (by decide) (by decide)
  · rw [if_neg c1] at hf
    cases hf
    exact v_throw X hfl hno (cls := "java/lang/UnsupportedOperationException") (text := "there is no room") (i1 := 7) rfl tw_394 tw_395 tw_62 tw_404 (by decide) (by decide +kernel) thb_UnsupportedOperationException thw_UnsupportedOperationException d_D_checkRoom_5 d_D_checkRoom_8 d_D_checkRoom_9 d_D_checkRoom_11 d_D_checkRoom_14 ⟨by decide, by decide, by decide, by decide⟩ (by decide) (by decide)

