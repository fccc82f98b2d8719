/-! the law from its entry: what the Statement gives, the two constructors, the first state (printed in part by wip/whole/start.py) -/
theorem va_P.re {D : va_G} {cl : List vw_C} {ws : va_W} {H : Heap} (hP : va_P D cl ws H) (k0 : Nat) {e e' : Nat × va_E} (h : ws[k0]? = some e) (he : va_at D cl e H → va_at D cl e' H) : va_P D cl (ws.set k0 e') H := by
  intro k q hq
  by_cases hk : k = k0
  · subst hk
    rw [List.getElem?_set_self (List.getElem?_eq_some_iff.mp h).1] at hq
    rw [← Option.some.inj hq]; exact he (hP k _ h)
  · rw [List.getElem?_set_ne (Ne.symm hk)] at hq
    exact hP k q hq
theorem arr_re {cA : ClassId} {n : Nat} {f f' : Nat → Option Nat} (h : ∀ j, j < n → f j = f' j) : vp_cell cA (n, .inr (.inr (.inr (.inr f)))) = vp_cell cA (n, .inr (.inr (.inr (.inr f')))) := by
  rw [vp_cell_q, vp_cell_q]
  unfold arrV
  congr 1
  congr 1
  funext j
  show va_rf (f j.val) = va_rf (f' j.val)
  rw [h j.val j.isLt]
theorem st_at {s V : State} {o n d : String} {a0 : Array Value} (hl : (Cond.laysStatic o n d).before a0 s = true) (hr : (Cond.isRef (.static o n d)).before a0 s = true) : ∃ (c : ClassId) (a : Nat), s.vm.findClass o = some c ∧ a < s.heap.size ∧ (∃ k : Class, s.vm.classes[c]? = some k ∧ k.statics = some a) ∧ ∀ V : State, s.vm.Alike V.vm → V.heap[a]? = s.heap[a]? → ∀ a' : Array Value, (Cond.laysStatic o n d).before a' V = true ∧ (Cond.isRef (.static o n d)).before a' V = true := by
  obtain ⟨c, k, i, f, a, cell, hc, hi, hst, ha, hcell, hs, hcls, hlt, hty⟩ := Cond.laysStatic_spec hl
  refine ⟨c, a, hc, (Array.getElem?_eq_some_iff.mp hcell).1, ⟨k, (State.fieldFound?_spec hi).1, ha⟩, fun V hv hh a' => ?_⟩
  obtain ⟨k', hi', he⟩ := State.fieldFound?_setVm hv hi
  have hi' : V.fieldFound? o n d = some (c, k', i, f) := hi'
  have hc' : V.vm.findClass o = some c := by rw [hv.findClass]; exact hc
  have ha' : k'.statics = some a := by rw [he]; exact ha
  have hcell' : V.heap[a]? = some cell := hh.trans hcell
  have hty' : k'.staticTypes[f.slot]? = some f.type := by rw [he]; exact hty
  refine ⟨?_, ?_⟩
  · simp only [Cond.before, Cond.holds, Cond.value, hc', hi', ha', Option.bind_some, hcell', Option.map_some]
    simp [hst, hs, hcls, hlt, hty']
  · cases hv2 : (Term.static o n d).eval a0 s none [] s with
    | none => simp [Cond.before, Cond.holds, Cond.value, hv2] at hr
    | some w =>
      have hsl : cell.slots[f.slot]? = some w := by
        obtain ⟨-, a2, cell2, h1, h2, -, h3⟩ := Term.static_spec hi hv2
        cases ha.symm.trans h1
        cases hcell.symm.trans h2
        exact h3
      have hev : (Term.static o n d).eval a' V none [] V = some w := by
        simp [Term.eval, State.fieldNamed?, hi', hst, ha', hcell', hs, hsl]
      simp only [Cond.before, Cond.holds, Cond.value, hv2] at hr
      simp only [Cond.before, Cond.holds, Cond.value, hev]
      exact hr
theorem st_xST {s : State} {a0 : Array Value} {w : xSt → va_W} (h : ∀ q ∈ xsts, q.before a0 s = true) (hw : ∀ (k : Nat) (q : Nat) (e : va_E), (w (fun _ _ => 0))[k]? = some (q, e) → s.heap.size ≤ q) : xST w s := by
  obtain ⟨c1, a1, f1, g1, ⟨k1, e1, e2⟩, h1⟩ := st_at (V := s) (h (.laysStatic "java/lang/Throwable" "UNASSIGNED_STACK" "[Ljava/lang/StackTraceElement;") (by simp [xsts])) (h (.isRef (.static "java/lang/Throwable" "UNASSIGNED_STACK" "[Ljava/lang/StackTraceElement;")) (by simp [xsts]))
  obtain ⟨c2, a2, f2, g2, ⟨k2, e3, e4⟩, h2⟩ := st_at (V := s) (h (.laysStatic "java/lang/Throwable" "SUPPRESSED_SENTINEL" "Ljava/util/List;") (by simp [xsts])) (h (.isRef (.static "java/lang/Throwable" "SUPPRESSED_SENTINEL" "Ljava/util/List;")) (by simp [xsts]))
  cases f1.symm.trans f2
  cases e1.symm.trans e3
  cases e2.symm.trans e4
  refine ⟨a1, g1, fun k e hk => ?_, fun V hv hh a' q hq => ?_⟩
  · have := hw k a1 e hk
    omega
  · have p1 := h1 V hv hh a'
    have p2 := h2 V hv hh a'
    simp only [xsts, List.mem_cons, List.not_mem_nil, or_false] at hq
    rcases hq with rfl | rfl | rfl | rfl
    · exact p1.1
    · exact p2.1
    · exact p1.2
    · exact p2.2
theorem st_TB {s : State} {a0 : Array Value} (hts : ∀ w ∈ lw_tbl, w.before a0 s = true) : xTB s := fun a q hq => xok_warm (State.WarmedH.refl s) (List.mem_filter.mp hq).2 (hts q (List.mem_filter.mp hq).1)
theorem st_ty {s : State} {a0 : Array Value} {ty : FieldType} (hp : ∀ n : String, ty ≠ .object n) (h : (Cond.arrayClass ty).before a0 s = true) : ∃ c : ClassId, ArrOfT s c ty ∧ va_RA s c ty := by
  obtain ⟨c, k, comp, h1, h2, h3⟩ := Cond.arrayClass_spec h
  refine ⟨c, fun N z => ⟨(fun k h => by cases h), k, h2, comp, h3⟩, ?_⟩
  unfold va_RA
  split
  · rename_i C' ; exact absurd rfl (hp _)
  · exact h1
theorem st_tyO {s : State} {cn : String} (h : va_AO cn s) : ∃ c : ClassId, ArrOfT s c (.object cn) ∧ va_RA s c (.object cn) := by
  obtain ⟨comp, c, k, h1, -, h3, h4, h5⟩ := Cond.arrayOver_spec h
  exact ⟨c, fun N z => ⟨(fun k h => by cases h), k, h3, comp, h4⟩, k, comp, h3, h4, h1, h5⟩
theorem st_K {s : State} {a0 : Array Value} (hts : ∀ w ∈ lw_tbl, w.before a0 s = true) (hO : xAOs s) : ∃ (D : va_G) (ca : Nat → ClassId), va_K D xcl (tyX ca) s := by
  obtain ⟨cD, iD, kD⟩ := u_known (C := "CrossDock") (T := T_D) (N := 11) (n := 11) hts (fun w h => (List.mem_filter.mp (in_D w h)).1) (hts _ (List.mem_of_getElem? tw_68))
  obtain ⟨cA, iA, kA⟩ := u_known (C := "CrossDock$Arrival") (T := T_A) (N := 6) (n := 6) hts (fun w h => (List.mem_filter.mp (in_A w h)).1) (hts _ (List.mem_of_getElem? tw_77))
  obtain ⟨cO, iO, kO⟩ := u_known (C := "CrossDock$Order") (T := T_O) (N := 6) (n := 6) hts (fun w h => (List.mem_filter.mp (in_O w h)).1) (hts _ (List.mem_of_getElem? tw_108))
  obtain ⟨cP, iP, kP⟩ := u_known (C := "CrossDock$Pairs") (T := T_P) (N := 4) (n := 4) hts (fun w h => (List.mem_filter.mp (in_P w h)).1) (hts _ (List.mem_of_getElem? tw_190))
  obtain ⟨cS, iS, kS⟩ := u_known (C := "CrossDock$Search") (T := T_S) (N := 13) (n := 13) hts (fun w h => (List.mem_filter.mp (in_S w h)).1) (hts _ (List.mem_of_getElem? tw_134))
  obtain ⟨cM, iM, kM⟩ := u_known (C := "CrossDockModel") (T := T_M) (N := 28) (n := 28) hts (fun w h => (List.mem_filter.mp (in_M w h)).1) (hts _ (List.mem_of_getElem? tw_623))
  obtain ⟨t0, a0', r0⟩ := st_ty (ty := .int) (fun _ h => by cases h) (hts _ (List.mem_of_getElem? tw_188))
  obtain ⟨t1, a1', r1⟩ := st_ty (ty := .boolean) (fun _ h => by cases h) (hts _ (List.mem_of_getElem? tw_187))
  obtain ⟨t2, a2', r2⟩ := st_tyO hO.1
  obtain ⟨t3, a3', r3⟩ := st_tyO hO.2
  obtain ⟨t4, a4', r4⟩ := st_ty (ty := .long) (fun _ h => by cases h) (hts _ (List.mem_of_getElem? tw_868))
  refine ⟨(fun k => match k with | 0 => cD | 1 => cA | 2 => cO | 3 => cP | 4 => cS | _ => cM, fun k => match k with | 0 => iD | 1 => iA | 2 => iO | 3 => iP | 4 => iS | _ => iM), fun k => match k with | 0 => t0 | 1 => t1 | 2 => t2 | 3 => t3 | _ => t4, ?_, ?_⟩
  · intro k q hq
    match k, hq with
    | 0, hq => cases hq; exact kD
    | 1, hq => cases hq; exact kA
    | 2, hq => cases hq; exact kO
    | 3, hq => cases hq; exact kP
    | 4, hq => cases hq; exact kS
    | 5, hq => cases hq; exact kM
    | k + 6, hq => simp [xcl] at hq
  · intro k q hq
    match k, hq with
    | 0, hq => cases hq; exact ⟨a0', r0⟩
    | 1, hq => cases hq; exact ⟨a1', r1⟩
    | 2, hq => cases hq; exact ⟨a2', r2⟩
    | 3, hq => cases hq; exact ⟨a3', r3⟩
    | 4, hq => cases hq; exact ⟨a4', r4⟩
    | k + 5, hq => simp [tyX] at hq
theorem st_SR1 {s : State} {a0 : Array Value} {i : Nat} {tx : String} (h1 : (Cond.stringRef "CrossDock" i tx).before a0 s = true) (h2 : (Cond.exactly (Term.string "CrossDock" i) "java/lang/String").before a0 s = true) : ∃ a : Nat, vk_R "CrossDock" i tx a s := by
  obtain ⟨a, c, cA, kA, q1, -⟩ := Cond.exactly_spec (args := a0) (first := s) (o := none) (s := s) (idx := []) h2
  exact ⟨a, vk_R.of h1 q1⟩
theorem st_NC1 {s : State} {a0 : Array Value} {x y : String} (h : (Cond.not (.castable x y)).before a0 s = true) : (Cond.castable x y).before #[] s = false := by
  have h1 := Cond.holds_not_iff.mp h
  simp only [Cond.before, Cond.holds]
  rw [show (Cond.castable x y).value #[] s none s [] = (Cond.castable x y).value a0 s none s [] from rfl, h1]
  rfl
set_option maxRecDepth 100000 in
theorem st_E {s : State} {b : Nat} {w : xSt → va_W} (hts : ∀ w ∈ lw_tbl, w.before #[Value.ref b] s = true) (hgv : (Jvm.Cond.and given_1 narrow_1).before #[Value.ref b] s = true) (hw : ∀ (k : Nat) (q : Nat) (e : va_E), (w (fun _ _ => 0))[k]? = some (q, e) → s.heap.size ≤ q) : xE w s := by
  have hs := flat_of_before _ hgv
  refine ⟨st_TB hts, ?_, ?_, st_xST (a0 := #[Value.ref b]) ?_ hw⟩
  · intro q hq
    simp only [xtx, List.mem_cons, List.not_mem_nil, or_false] at hq
    rcases hq with rfl | rfl | rfl | rfl | rfl
    · exact st_SR1 (hts _ (List.mem_of_getElem? tw_364)) (hs _ (by decide +kernel))
    · exact st_SR1 (hts _ (List.mem_of_getElem? tw_403)) (hs _ (by decide +kernel))
    · exact st_SR1 (hts _ (List.mem_of_getElem? tw_437)) (hs _ (by decide +kernel))
    · exact st_SR1 (hts _ (List.mem_of_getElem? tw_465)) (hs _ (by decide +kernel))
    · exact st_SR1 (hts _ (List.mem_of_getElem? tw_584)) (hs _ (by decide +kernel))
  · intro x hx y hy hne
    simp only [xex, List.mem_cons, List.not_mem_nil, or_false] at hx hy
    rcases hx with rfl | rfl | rfl | rfl <;> rcases hy with rfl | rfl | rfl | rfl <;> first | exact absurd rfl hne | exact st_NC1 (hs _ (by decide +kernel))
  · intro q hq
    simp only [xsts, List.mem_cons, List.not_mem_nil, or_false] at hq
    rcases hq with rfl | rfl | rfl | rfl
    · exact hts _ (List.mem_of_getElem? tw_349)
    · exact hts _ (List.mem_of_getElem? tw_351)
    · exact hs _ (by decide +kernel)
    · exact hs _ (by decide +kernel)
