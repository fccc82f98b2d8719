theorem law_pure (L : Nat) (xs : Nat → Int32) (hL : L ≤ 2560) : ∃ (fu n : Nat) (g' : xSt), n ≤ 10000 ∧ f_L_law fu L xs n 0 z0 = some g' := law_pure0 L xs hL
