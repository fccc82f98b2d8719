/-! binds of the mirrors; the exceptions' words; Math's code -/
def ob2 {β : Type} (o : Option (Int32 × xSt)) (f : Int32 → xSt → Option β) : Option β := match o with
  | none => none
  | some q => f q.1 q.2
theorem ob2_some {β : Type} {o : Option (Int32 × xSt)} {f : Int32 → xSt → Option β} {r : β} (h : ob2 o f = some r) : ∃ a g, o = some (a, g) ∧ f a g = some r := by
  match o, h with
  | some (a, g), h => exact ⟨a, g, rfl, h⟩
def ob3 {β : Type} (o : Option (Int32 × Int32 × xSt)) (f : Int32 → Int32 → xSt → Option β) : Option β := match o with
  | none => none
  | some q => f q.1 q.2.1 q.2.2
theorem ob3_some {β : Type} {o : Option (Int32 × Int32 × xSt)} {f : Int32 → Int32 → xSt → Option β} {r : β} (h : ob3 o f = some r) : ∃ a b g, o = some (a, b, g) ∧ f a b g = some r := by
  match o, h with
  | some (a, b, g), h => exact ⟨a, b, g, rfl, h⟩
def ob4 {β : Type} (o : Option (Int32 × Int32 × Int32 × xSt)) (f : Int32 → Int32 → Int32 → xSt → Option β) : Option β := match o with
  | none => none
  | some q => f q.1 q.2.1 q.2.2.1 q.2.2.2
theorem ob4_some {β : Type} {o : Option (Int32 × Int32 × Int32 × xSt)} {f : Int32 → Int32 → Int32 → xSt → Option β} {r : β} (h : ob4 o f = some r) : ∃ a b c g, o = some (a, b, c, g) ∧ f a b c g = some r := by
  match o, h with
  | some (a, b, c, g), h => exact ⟨a, b, c, g, rfl, h⟩
theorem thb_IllegalArgumentException : decode prog_9_method_2_code 0 = .ok (.aload_n 0, 1) ∧ decode prog_9_method_2_code 1 = .ok (.aload_n 1, 1) ∧ decode prog_9_method_2_code 2 = .ok (.invokespecial 7, 3) ∧ decode prog_9_method_2_code 5 = .ok (.return_, 1) := ⟨by decide +kernel, by decide +kernel, by decide +kernel, by decide +kernel⟩
theorem thb_IllegalStateException : decode prog_10_method_2_code 0 = .ok (.aload_n 0, 1) ∧ decode prog_10_method_2_code 1 = .ok (.aload_n 1, 1) ∧ decode prog_10_method_2_code 2 = .ok (.invokespecial 7, 3) ∧ decode prog_10_method_2_code 5 = .ok (.return_, 1) := ⟨by decide +kernel, by decide +kernel, by decide +kernel, by decide +kernel⟩
theorem thb_UnsupportedOperationException : decode prog_16_method_2_code 0 = .ok (.aload_n 0, 1) ∧ decode prog_16_method_2_code 1 = .ok (.aload_n 1, 1) ∧ decode prog_16_method_2_code 2 = .ok (.invokespecial 7, 3) ∧ decode prog_16_method_2_code 5 = .ok (.return_, 1) := ⟨by decide +kernel, by decide +kernel, by decide +kernel, by decide +kernel⟩
theorem thb_NoSuchElementException : decode prog_17_method_4_code 0 = .ok (.aload_n 0, 1) ∧ decode prog_17_method_4_code 1 = .ok (.aload_n 1, 1) ∧ decode prog_17_method_4_code 2 = .ok (.invokespecial 13, 3) ∧ decode prog_17_method_4_code 5 = .ok (.return_, 1) := ⟨by decide +kernel, by decide +kernel, by decide +kernel, by decide +kernel⟩
theorem thw_IllegalArgumentException : ∀ q ∈ thW "java/lang/IllegalArgumentException" 7 prog_9_method_2_code, q ∈ xT := by decide +kernel
theorem thw_IllegalStateException : ∀ q ∈ thW "java/lang/IllegalStateException" 7 prog_10_method_2_code, q ∈ xT := by decide +kernel
theorem thw_UnsupportedOperationException : ∀ q ∈ thW "java/lang/UnsupportedOperationException" 7 prog_16_method_2_code, q ∈ xT := by decide +kernel
theorem thw_NoSuchElementException : ∀ q ∈ thW "java/util/NoSuchElementException" 13 prog_17_method_4_code, q ∈ xT := by decide +kernel
set_option maxRecDepth 100000 in
theorem twM_min : lw_tbl[530]? = some (Cond.code Lib.Math.min.name Lib.Math.min.code 2 (some .int)) := by decide +kernel
set_option maxRecDepth 100000 in
theorem twM_max : lw_tbl[621]? = some (Cond.code Lib.Math.max.name Lib.Math.max.code 2 (some .int)) := by decide +kernel
