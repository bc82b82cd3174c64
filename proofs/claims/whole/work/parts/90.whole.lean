/-! THE WHOLE: printed by wip/whole/t90.py -/
theorem tb_mem (k : Nat) {x : Cond} (h : tables_1[k]? = some x) : x ∈ lw_tbl := List.mem_append_right _ (List.mem_of_getElem? h)
set_option maxRecDepth 100000 in
set_option maxHeartbeats 4000000 in
theorem st_0 {args : Array Value} {s : State} (hgv : (Jvm.Cond.and given_1 narrow_1).before args s = true) (hts : ∀ w ∈ lw_tbl, w.before args s = true) (hini : (Cond.initialized "DotOutlines$Borders").before args s = true) : ∃ t : Nat, va_Z "DotOutlines$Borders" "STEP_X" "[I" (.ref t) (fun q : Nat => s.heap.size ≤ q) s s.heap ∧ va_T .int t 4 (fun j => .int (([1, 0, -1, 0] : List Int32).getD j 0)) (fun q : Nat => s.heap.size ≤ q) s s.heap := by
  have hs := flat_of_before _ hgv
  have hA : ∀ a : Nat, a < s.heap.size → ¬ (fun q : Nat => s.heap.size ≤ q) a := fun a h q => Nat.not_le.mpr h q
  obtain ⟨t, h1, h2⟩ := va_Tof (args := args) (s := s) (tm := (Term.static "DotOutlines$Borders" "STEP_X" "[I")) (ty := .int) (N := 4) (f := fun j => .int (([1, 0, -1, 0] : List Int32).getD j 0)) (A := fun q : Nat => s.heap.size ≤ q) (by decide) (hs (Cond.arrayOf (Term.static "DotOutlines$Borders" "STEP_X" "[I") .int) (by decide +kernel)) (va_eqt (z := 4) (hs (Cond.eq (.length (Term.static "DotOutlines$Borders" "STEP_X" "[I")) (.int 4)) (by decide +kernel))) (by
    intro j hj
    rcases (show j = 0 ∨ j = 1 ∨ j = 2 ∨ j = 3 by omega) with rfl | rfl | rfl | rfl
    · exact va_eqt (z := 1) (hs (Cond.eq (.elem (Term.static "DotOutlines$Borders" "STEP_X" "[I") (.int 0)) (.int 1)) (by decide +kernel))
    · exact va_eqt (z := 0) (hs (Cond.eq (.elem (Term.static "DotOutlines$Borders" "STEP_X" "[I") (.int 1)) (.int 0)) (by decide +kernel))
    · exact va_eqt (z := (-1)) (hs (Cond.eq (.elem (Term.static "DotOutlines$Borders" "STEP_X" "[I") (.int 2)) (.int (-1))) (by decide +kernel))
    · exact va_eqt (z := 0) (hs (Cond.eq (.elem (Term.static "DotOutlines$Borders" "STEP_X" "[I") (.int 3)) (.int 0)) (by decide +kernel))) hA
  exact ⟨t, va_Zof (hts _ (tb_mem 449 (by decide +kernel))) hini h1 hA, h2⟩
set_option maxRecDepth 100000 in
set_option maxHeartbeats 4000000 in
theorem st_1 {args : Array Value} {s : State} (hgv : (Jvm.Cond.and given_1 narrow_1).before args s = true) (hts : ∀ w ∈ lw_tbl, w.before args s = true) (hini : (Cond.initialized "DotOutlines$Borders").before args s = true) : ∃ t : Nat, va_Z "DotOutlines$Borders" "STEP_Y" "[I" (.ref t) (fun q : Nat => s.heap.size ≤ q) s s.heap ∧ va_T .int t 4 (fun j => .int (([0, 1, 0, -1] : List Int32).getD j 0)) (fun q : Nat => s.heap.size ≤ q) s s.heap := by
  have hs := flat_of_before _ hgv
  have hA : ∀ a : Nat, a < s.heap.size → ¬ (fun q : Nat => s.heap.size ≤ q) a := fun a h q => Nat.not_le.mpr h q
  obtain ⟨t, h1, h2⟩ := va_Tof (args := args) (s := s) (tm := (Term.static "DotOutlines$Borders" "STEP_Y" "[I")) (ty := .int) (N := 4) (f := fun j => .int (([0, 1, 0, -1] : List Int32).getD j 0)) (A := fun q : Nat => s.heap.size ≤ q) (by decide) (hs (Cond.arrayOf (Term.static "DotOutlines$Borders" "STEP_Y" "[I") .int) (by decide +kernel)) (va_eqt (z := 4) (hs (Cond.eq (.length (Term.static "DotOutlines$Borders" "STEP_Y" "[I")) (.int 4)) (by decide +kernel))) (by
    intro j hj
    rcases (show j = 0 ∨ j = 1 ∨ j = 2 ∨ j = 3 by omega) with rfl | rfl | rfl | rfl
    · exact va_eqt (z := 0) (hs (Cond.eq (.elem (Term.static "DotOutlines$Borders" "STEP_Y" "[I") (.int 0)) (.int 0)) (by decide +kernel))
    · exact va_eqt (z := 1) (hs (Cond.eq (.elem (Term.static "DotOutlines$Borders" "STEP_Y" "[I") (.int 1)) (.int 1)) (by decide +kernel))
    · exact va_eqt (z := 0) (hs (Cond.eq (.elem (Term.static "DotOutlines$Borders" "STEP_Y" "[I") (.int 2)) (.int 0)) (by decide +kernel))
    · exact va_eqt (z := (-1)) (hs (Cond.eq (.elem (Term.static "DotOutlines$Borders" "STEP_Y" "[I") (.int 3)) (.int (-1))) (by decide +kernel))) hA
  exact ⟨t, va_Zof (hts _ (tb_mem 451 (by decide +kernel))) hini h1 hA, h2⟩
set_option maxRecDepth 100000 in
set_option maxHeartbeats 4000000 in
theorem st_2 {args : Array Value} {s : State} (hgv : (Jvm.Cond.and given_1 narrow_1).before args s = true) (hts : ∀ w ∈ lw_tbl, w.before args s = true) (hini : (Cond.initialized "DotOutlines$Borders").before args s = true) : ∃ t : Nat, va_Z "DotOutlines$Borders" "AHEAD_X" "[I" (.ref t) (fun q : Nat => s.heap.size ≤ q) s s.heap ∧ va_T .int t 4 (fun j => .int (([0, 0, -1, -1] : List Int32).getD j 0)) (fun q : Nat => s.heap.size ≤ q) s s.heap := by
  have hs := flat_of_before _ hgv
  have hA : ∀ a : Nat, a < s.heap.size → ¬ (fun q : Nat => s.heap.size ≤ q) a := fun a h q => Nat.not_le.mpr h q
  obtain ⟨t, h1, h2⟩ := va_Tof (args := args) (s := s) (tm := (Term.static "DotOutlines$Borders" "AHEAD_X" "[I")) (ty := .int) (N := 4) (f := fun j => .int (([0, 0, -1, -1] : List Int32).getD j 0)) (A := fun q : Nat => s.heap.size ≤ q) (by decide) (hs (Cond.arrayOf (Term.static "DotOutlines$Borders" "AHEAD_X" "[I") .int) (by decide +kernel)) (va_eqt (z := 4) (hs (Cond.eq (.length (Term.static "DotOutlines$Borders" "AHEAD_X" "[I")) (.int 4)) (by decide +kernel))) (by
    intro j hj
    rcases (show j = 0 ∨ j = 1 ∨ j = 2 ∨ j = 3 by omega) with rfl | rfl | rfl | rfl
    · exact va_eqt (z := 0) (hs (Cond.eq (.elem (Term.static "DotOutlines$Borders" "AHEAD_X" "[I") (.int 0)) (.int 0)) (by decide +kernel))
    · exact va_eqt (z := 0) (hs (Cond.eq (.elem (Term.static "DotOutlines$Borders" "AHEAD_X" "[I") (.int 1)) (.int 0)) (by decide +kernel))
    · exact va_eqt (z := (-1)) (hs (Cond.eq (.elem (Term.static "DotOutlines$Borders" "AHEAD_X" "[I") (.int 2)) (.int (-1))) (by decide +kernel))
    · exact va_eqt (z := (-1)) (hs (Cond.eq (.elem (Term.static "DotOutlines$Borders" "AHEAD_X" "[I") (.int 3)) (.int (-1))) (by decide +kernel))) hA
  exact ⟨t, va_Zof (hts _ (tb_mem 456 (by decide +kernel))) hini h1 hA, h2⟩
set_option maxRecDepth 100000 in
set_option maxHeartbeats 4000000 in
theorem st_3 {args : Array Value} {s : State} (hgv : (Jvm.Cond.and given_1 narrow_1).before args s = true) (hts : ∀ w ∈ lw_tbl, w.before args s = true) (hini : (Cond.initialized "DotOutlines$Borders").before args s = true) : ∃ t : Nat, va_Z "DotOutlines$Borders" "AHEAD_Y" "[I" (.ref t) (fun q : Nat => s.heap.size ≤ q) s s.heap ∧ va_T .int t 4 (fun j => .int (([-1, 0, 0, -1] : List Int32).getD j 0)) (fun q : Nat => s.heap.size ≤ q) s s.heap := by
  have hs := flat_of_before _ hgv
  have hA : ∀ a : Nat, a < s.heap.size → ¬ (fun q : Nat => s.heap.size ≤ q) a := fun a h q => Nat.not_le.mpr h q
  obtain ⟨t, h1, h2⟩ := va_Tof (args := args) (s := s) (tm := (Term.static "DotOutlines$Borders" "AHEAD_Y" "[I")) (ty := .int) (N := 4) (f := fun j => .int (([-1, 0, 0, -1] : List Int32).getD j 0)) (A := fun q : Nat => s.heap.size ≤ q) (by decide) (hs (Cond.arrayOf (Term.static "DotOutlines$Borders" "AHEAD_Y" "[I") .int) (by decide +kernel)) (va_eqt (z := 4) (hs (Cond.eq (.length (Term.static "DotOutlines$Borders" "AHEAD_Y" "[I")) (.int 4)) (by decide +kernel))) (by
    intro j hj
    rcases (show j = 0 ∨ j = 1 ∨ j = 2 ∨ j = 3 by omega) with rfl | rfl | rfl | rfl
    · exact va_eqt (z := (-1)) (hs (Cond.eq (.elem (Term.static "DotOutlines$Borders" "AHEAD_Y" "[I") (.int 0)) (.int (-1))) (by decide +kernel))
    · exact va_eqt (z := 0) (hs (Cond.eq (.elem (Term.static "DotOutlines$Borders" "AHEAD_Y" "[I") (.int 1)) (.int 0)) (by decide +kernel))
    · exact va_eqt (z := 0) (hs (Cond.eq (.elem (Term.static "DotOutlines$Borders" "AHEAD_Y" "[I") (.int 2)) (.int 0)) (by decide +kernel))
    · exact va_eqt (z := (-1)) (hs (Cond.eq (.elem (Term.static "DotOutlines$Borders" "AHEAD_Y" "[I") (.int 3)) (.int (-1))) (by decide +kernel))) hA
  exact ⟨t, va_Zof (hts _ (tb_mem 458 (by decide +kernel))) hini h1 hA, h2⟩
set_option maxRecDepth 100000 in
set_option maxHeartbeats 4000000 in
theorem st_4 {args : Array Value} {s : State} (hgv : (Jvm.Cond.and given_1 narrow_1).before args s = true) (hts : ∀ w ∈ lw_tbl, w.before args s = true) (hini : (Cond.initialized "DotOutlines$Bend").before args s = true) : ∃ t : Nat, va_Z "DotOutlines$Bend" "PART_BEFORE" "[I" (.ref t) (fun q : Nat => s.heap.size ≤ q) s s.heap ∧ va_T .int t 5 (fun j => .int (([16, 9, 4, 1, 0] : List Int32).getD j 0)) (fun q : Nat => s.heap.size ≤ q) s s.heap := by
  have hs := flat_of_before _ hgv
  have hA : ∀ a : Nat, a < s.heap.size → ¬ (fun q : Nat => s.heap.size ≤ q) a := fun a h q => Nat.not_le.mpr h q
  obtain ⟨t, h1, h2⟩ := va_Tof (args := args) (s := s) (tm := (Term.static "DotOutlines$Bend" "PART_BEFORE" "[I")) (ty := .int) (N := 5) (f := fun j => .int (([16, 9, 4, 1, 0] : List Int32).getD j 0)) (A := fun q : Nat => s.heap.size ≤ q) (by decide) (hs (Cond.arrayOf (Term.static "DotOutlines$Bend" "PART_BEFORE" "[I") .int) (by decide +kernel)) (va_eqt (z := 5) (hs (Cond.eq (.length (Term.static "DotOutlines$Bend" "PART_BEFORE" "[I")) (.int 5)) (by decide +kernel))) (by
    intro j hj
    rcases (show j = 0 ∨ j = 1 ∨ j = 2 ∨ j = 3 ∨ j = 4 by omega) with rfl | rfl | rfl | rfl | rfl
    · exact va_eqt (z := 16) (hs (Cond.eq (.elem (Term.static "DotOutlines$Bend" "PART_BEFORE" "[I") (.int 0)) (.int 16)) (by decide +kernel))
    · exact va_eqt (z := 9) (hs (Cond.eq (.elem (Term.static "DotOutlines$Bend" "PART_BEFORE" "[I") (.int 1)) (.int 9)) (by decide +kernel))
    · exact va_eqt (z := 4) (hs (Cond.eq (.elem (Term.static "DotOutlines$Bend" "PART_BEFORE" "[I") (.int 2)) (.int 4)) (by decide +kernel))
    · exact va_eqt (z := 1) (hs (Cond.eq (.elem (Term.static "DotOutlines$Bend" "PART_BEFORE" "[I") (.int 3)) (.int 1)) (by decide +kernel))
    · exact va_eqt (z := 0) (hs (Cond.eq (.elem (Term.static "DotOutlines$Bend" "PART_BEFORE" "[I") (.int 4)) (.int 0)) (by decide +kernel))) hA
  exact ⟨t, va_Zof (hts _ (tb_mem 666 (by decide +kernel))) hini h1 hA, h2⟩
set_option maxRecDepth 100000 in
set_option maxHeartbeats 4000000 in
theorem st_5 {args : Array Value} {s : State} (hgv : (Jvm.Cond.and given_1 narrow_1).before args s = true) (hts : ∀ w ∈ lw_tbl, w.before args s = true) (hini : (Cond.initialized "DotOutlines$Bend").before args s = true) : ∃ t : Nat, va_Z "DotOutlines$Bend" "PART_OWN" "[I" (.ref t) (fun q : Nat => s.heap.size ≤ q) s s.heap ∧ va_T .int t 5 (fun j => .int (([0, 6, 8, 6, 0] : List Int32).getD j 0)) (fun q : Nat => s.heap.size ≤ q) s s.heap := by
  have hs := flat_of_before _ hgv
  have hA : ∀ a : Nat, a < s.heap.size → ¬ (fun q : Nat => s.heap.size ≤ q) a := fun a h q => Nat.not_le.mpr h q
  obtain ⟨t, h1, h2⟩ := va_Tof (args := args) (s := s) (tm := (Term.static "DotOutlines$Bend" "PART_OWN" "[I")) (ty := .int) (N := 5) (f := fun j => .int (([0, 6, 8, 6, 0] : List Int32).getD j 0)) (A := fun q : Nat => s.heap.size ≤ q) (by decide) (hs (Cond.arrayOf (Term.static "DotOutlines$Bend" "PART_OWN" "[I") .int) (by decide +kernel)) (va_eqt (z := 5) (hs (Cond.eq (.length (Term.static "DotOutlines$Bend" "PART_OWN" "[I")) (.int 5)) (by decide +kernel))) (by
    intro j hj
    rcases (show j = 0 ∨ j = 1 ∨ j = 2 ∨ j = 3 ∨ j = 4 by omega) with rfl | rfl | rfl | rfl | rfl
    · exact va_eqt (z := 0) (hs (Cond.eq (.elem (Term.static "DotOutlines$Bend" "PART_OWN" "[I") (.int 0)) (.int 0)) (by decide +kernel))
    · exact va_eqt (z := 6) (hs (Cond.eq (.elem (Term.static "DotOutlines$Bend" "PART_OWN" "[I") (.int 1)) (.int 6)) (by decide +kernel))
    · exact va_eqt (z := 8) (hs (Cond.eq (.elem (Term.static "DotOutlines$Bend" "PART_OWN" "[I") (.int 2)) (.int 8)) (by decide +kernel))
    · exact va_eqt (z := 6) (hs (Cond.eq (.elem (Term.static "DotOutlines$Bend" "PART_OWN" "[I") (.int 3)) (.int 6)) (by decide +kernel))
    · exact va_eqt (z := 0) (hs (Cond.eq (.elem (Term.static "DotOutlines$Bend" "PART_OWN" "[I") (.int 4)) (.int 0)) (by decide +kernel))) hA
  exact ⟨t, va_Zof (hts _ (tb_mem 668 (by decide +kernel))) hini h1 hA, h2⟩
set_option maxRecDepth 100000 in
set_option maxHeartbeats 4000000 in
theorem st_6 {args : Array Value} {s : State} (hgv : (Jvm.Cond.and given_1 narrow_1).before args s = true) (hts : ∀ w ∈ lw_tbl, w.before args s = true) (hini : (Cond.initialized "DotOutlines$Bend").before args s = true) : ∃ t : Nat, va_Z "DotOutlines$Bend" "PART_BEHIND" "[I" (.ref t) (fun q : Nat => s.heap.size ≤ q) s s.heap ∧ va_T .int t 5 (fun j => .int (([0, 1, 4, 9, 16] : List Int32).getD j 0)) (fun q : Nat => s.heap.size ≤ q) s s.heap := by
  have hs := flat_of_before _ hgv
  have hA : ∀ a : Nat, a < s.heap.size → ¬ (fun q : Nat => s.heap.size ≤ q) a := fun a h q => Nat.not_le.mpr h q
  obtain ⟨t, h1, h2⟩ := va_Tof (args := args) (s := s) (tm := (Term.static "DotOutlines$Bend" "PART_BEHIND" "[I")) (ty := .int) (N := 5) (f := fun j => .int (([0, 1, 4, 9, 16] : List Int32).getD j 0)) (A := fun q : Nat => s.heap.size ≤ q) (by decide) (hs (Cond.arrayOf (Term.static "DotOutlines$Bend" "PART_BEHIND" "[I") .int) (by decide +kernel)) (va_eqt (z := 5) (hs (Cond.eq (.length (Term.static "DotOutlines$Bend" "PART_BEHIND" "[I")) (.int 5)) (by decide +kernel))) (by
    intro j hj
    rcases (show j = 0 ∨ j = 1 ∨ j = 2 ∨ j = 3 ∨ j = 4 by omega) with rfl | rfl | rfl | rfl | rfl
    · exact va_eqt (z := 0) (hs (Cond.eq (.elem (Term.static "DotOutlines$Bend" "PART_BEHIND" "[I") (.int 0)) (.int 0)) (by decide +kernel))
    · exact va_eqt (z := 1) (hs (Cond.eq (.elem (Term.static "DotOutlines$Bend" "PART_BEHIND" "[I") (.int 1)) (.int 1)) (by decide +kernel))
    · exact va_eqt (z := 4) (hs (Cond.eq (.elem (Term.static "DotOutlines$Bend" "PART_BEHIND" "[I") (.int 2)) (.int 4)) (by decide +kernel))
    · exact va_eqt (z := 9) (hs (Cond.eq (.elem (Term.static "DotOutlines$Bend" "PART_BEHIND" "[I") (.int 3)) (.int 9)) (by decide +kernel))
    · exact va_eqt (z := 16) (hs (Cond.eq (.elem (Term.static "DotOutlines$Bend" "PART_BEHIND" "[I") (.int 4)) (.int 16)) (by decide +kernel))) hA
  exact ⟨t, va_Zof (hts _ (tb_mem 670 (by decide +kernel))) hini h1 hA, h2⟩
set_option maxRecDepth 100000 in
set_option maxHeartbeats 4000000 in
theorem whole_start {p : Program} {e : Env} {s : State} {m : MethodId} {below : List Frame} {meth : Method} {c : Code} (l : Launch) (hflags : l.flags = flags0) {b L : Nat} {xs : Nat → Int32} (hL : L ≤ 3072) (C0 : lw_At p s m meth c b L xs) : W p l e room_1 s m #[Value.ref b] below meth c s.heap [] 0 0 (lw_Z below #[Value.ref b] s) (entryFrame m ([Value.ref b] : List Value).toArray 4) := by
  obtain ⟨hx, hb, hr, hml, hown, hts, hX, hbl, hlocks, hgv, hname⟩ := C0
  have hWT : ∀ w ∈ WT, w.before #[Value.ref b] s = true := fun w hw => hts w (wt_tbl hw)
  obtain ⟨c0, i0, k0⟩ := u_known hWT ci_Acts.2.1 (hWT _ n_Acts)
  obtain ⟨c1, i1, k1⟩ := u_known hWT ci_Bend.2.1 (hWT _ n_Bend)
  obtain ⟨c2, i2, k2⟩ := u_known hWT ci_Brd.2.1 (hWT _ n_Brd)
  obtain ⟨c3, i3, k3⟩ := u_known hWT ci_Brs.2.1 (hWT _ n_Brs)
  obtain ⟨c4, i4, k4⟩ := u_known hWT ci_Fil.2.1 (hWT _ n_Fil)
  obtain ⟨c5, i5, k5⟩ := u_known hWT ci_Pic.2.1 (hWT _ n_Pic)
  obtain ⟨c6, i6, k6⟩ := u_known hWT ci_Pol.2.1 (hWT _ n_Pol)
  obtain ⟨c7, i7, k7⟩ := u_known hWT ci_Rdg.2.1 (hWT _ n_Rdg)
  obtain ⟨c8, i8, k8⟩ := u_known hWT ci_Str.2.1 (hWT _ n_Str)
  obtain ⟨c9, i9, k9⟩ := u_known hWT ci_Tap.2.1 (hWT _ n_Tap)
  obtain ⟨c10, i10, k10⟩ := u_known hWT ci_Dot.2.1 (hWT _ n_Dot)
  obtain ⟨c11, i11, k11⟩ := u_known hWT ci_Mod.2.1 (hWT _ n_Mod)
  obtain ⟨cI, kI, compI, f1, f2, f3⟩ := Cond.arrayClass_spec (hWT _ w_arrI)
  obtain ⟨cL, kL, compL, g1, g2, g3⟩ := Cond.arrayClass_spec (hWT _ w_arrL)
  have hAO : (Cond.arrayOver (.object "DotOutlines$Border")).before #[Value.ref b] s = true := hts _ (tb_mem 121 (by decide +kernel))
  obtain ⟨comp, cQ, kQ, o1, o2, o3, o4, o5⟩ := Cond.arrayOver_spec hAO
  obtain ⟨t0, z0, y0⟩ := st_0 hgv hts (hWT _ z_Brs)
  obtain ⟨t1, z1, y1⟩ := st_1 hgv hts (hWT _ z_Brs)
  obtain ⟨t2, z2, y2⟩ := st_2 hgv hts (hWT _ z_Brs)
  obtain ⟨t3, z3, y3⟩ := st_3 hgv hts (hWT _ z_Brs)
  obtain ⟨t4, z4, y4⟩ := st_4 hgv hts (hWT _ z_Bend)
  obtain ⟨t5, z5, y5⟩ := st_5 hgv hts (hWT _ z_Bend)
  obtain ⟨t6, z6, y6⟩ := st_6 hgv hts (hWT _ z_Bend)
  obtain ⟨D, hD⟩ : ∃ D : va_G, ∀ (c : Nat) (q : vw_C), vwCl[c]? = some q → u_Kn s q.1 q.2.1 q.2.2 (D.1 c) (D.2 c) := by
    refine ⟨(fun k => ([c0, c1, c2, c3, c4, c5, c6, c7, c8, c9, c10, c11] : List ClassId).getD k c0, fun k => ([i0, i1, i2, i3, i4, i5, i6, i7, i8, i9, i10, i11] : List (Nat → Nat)).getD k i0), ?_⟩
    intro c q hq
    match c, hq with
    | 0, hq => cases hq; exact k0
    | 1, hq => cases hq; exact k1
    | 2, hq => cases hq; exact k2
    | 3, hq => cases hq; exact k3
    | 4, hq => cases hq; exact k4
    | 5, hq => cases hq; exact k5
    | 6, hq => cases hq; exact k6
    | 7, hq => cases hq; exact k7
    | 8, hq => cases hq; exact k8
    | 9, hq => cases hq; exact k9
    | 10, hq => cases hq; exact k10
    | 11, hq => cases hq; exact k11
    | c + 12, hq => simp [vwCl] at hq
  obtain ⟨V, eV⟩ : ∃ V : VV, V = (D, (cI, cL, cQ), s.heap.size, (fun k => ([t0, t1, t2, t3, t4, t5, t6, b] : List Nat).getD k 0), L, xs) := ⟨_, rfl⟩
  have hK : va_K V.1 vwCl (tys3 V) s := by
    subst eV
    refine ⟨hD, fun k q hq => ?_⟩
    match k, hq with
    | 0, hq => cases hq; exact ⟨fun n z => ⟨fun k h => (by cases h), kI, f2, compI, f3⟩, f1⟩
    | 1, hq => cases hq; exact ⟨fun n z => ⟨fun k h => (by cases h), kL, g2, compL, g3⟩, g1⟩
    | 2, hq => cases hq; exact ⟨fun n z => ⟨fun k h => (by cases h), kQ, o3, comp, o4⟩, kQ, comp, o3, o4, o1, o5⟩
    | k + 3, hq => simp [tys3] at hq
  have hSta : Sta V s s.heap := by
    subst eV
    refine ⟨fun k hk => ?_, fun k hk => ?_, hAO⟩
    · rcases (show k = 0 ∨ k = 1 ∨ k = 2 ∨ k = 3 ∨ k = 4 ∨ k = 5 ∨ k = 6 by omega) with rfl | rfl | rfl | rfl | rfl | rfl | rfl
      · exact z0
      · exact z1
      · exact z2
      · exact z3
      · exact z4
      · exact z5
      · exact z6
    · rcases (show k = 0 ∨ k = 1 ∨ k = 2 ∨ k = 3 ∨ k = 4 ∨ k = 5 ∨ k = 6 ∨ k = 7 by omega) with rfl | rfl | rfl | rfl | rfl | rfl | rfl | rfl
      · exact y0
      · exact y1
      · exact y2
      · exact y3
      · exact y4
      · exact y5
      · exact y6
      · obtain ⟨scr, x1, x2, x3, x4, x5⟩ := hX
        exact ⟨scr, x1, x2, x3, Nat.le_of_eq x4.symm, by rw [x4]; rfl, x5, fun q => Nat.not_le.mpr hbl q⟩
  have eb : vb V = s.heap.size := by rw [eV]; rfl
  have e7 : ad V 7 = b := by rw [eV]; rfl
  have eL : tL V 7 = L := by rw [eV]; rfl
  have X : Cx V i_Law_law p s m #[Value.ref b] meth c := ⟨hx, hb, hml, hown, hWT, hr, hlocks, hname, hK, hSta, by rw [eb]; exact Nat.le_refl _⟩
  have hP : Pos V (fun _ => jk) 8 s.heap := ⟨Nat.le_refl _, by rw [eb], fun i _ => rfl, fun k q hq => by simp [wsA] at hq⟩
  have hLo := Lo.entry V [.ref 7] (nL := 4) (by decide)
  have ev : ([Value.ref 7].map (coV V)) = [Value.ref b] := by
    show [Value.ref (ad V 7)] = _
    rw [e7]
  rw [ev] at hLo
  rw [lg_entry_eq]
  have K := W_start (V := V) (b := b) (by rw [eL]; exact hL) p l e s m #[Value.ref b] below meth c s.heap [] _ X va_S.rf hP hLo (Nat.le_refl _) (Nat.le_add_right _ _) (Nat.le_refl _) (Nat.le_add_right _ _)
  intro T hT XX
  obtain ⟨t, a1, a2⟩ := K T hT XX
  exact ⟨t, a1, a2 rfl (by rw [eb]; exact Nat.le_refl _)⟩
-- ===== YOUR PART ENDS =====
set_option maxHeartbeats 4000000 in
theorem lw_walk (l : Launch) (hflags : l.flags = flags0) (b : Addr) (xs : List Int32) : MetFree l x (headSpec (Jvm.Cond.code x code maxLocals ret :: tables_1) room_1) (lw_P b xs) (fun _ _ _ _ _ => True) lw_Q := by
  refine MetFree.of_bodyS (code := code) (maxLocals := maxLocals) (ret := ret) (by decide) ?_ ?_
  · intro args s m h hn
    obtain ⟨meth, c, h1, h2, h3, h4, h5, h6, -, -⟩ := Cond.code_spec hn (atoms_spec (ws := Jvm.Cond.code x code maxLocals ret :: tables_1) h _ List.mem_cons_self)
    exact ⟨meth, c, h1, h2, h3, h4, h5, h6⟩
  · intro p e s m args below meth c s₁ B hml0 hP _
    obtain ⟨rfl, hx, hbd, hgv⟩ := hP
    obtain ⟨scr, harrAt, hlist, hof, hsmall⟩ := hx
    obtain ⟨hcb, hkn, -, -⟩ := State.arrayAt?_spec harrAt
    have hown : s.vm.findClass R_law = some m.cls := findClass_of_methodNamed B.named
    have hts0 : ∀ c ∈ (Jvm.Cond.code x code maxLocals ret :: tables_1), c.before #[Value.ref b] s = true := atoms_spec (ws := Jvm.Cond.code x code maxLocals ret :: tables_1) B.pre
    have hts : ∀ w ∈ lw_tbl, w.before #[Value.ref b] s = true := k2_hts_sels lw_privs (fun w hw => hts0 w (List.mem_cons_of_mem _ hw)) lw_privs_ok
    have hml : c.maxLocals = 4 := B.maxLocals_eq (hts0 _ List.mem_cons_self)
    have X₀ : Stand p l e room_1 s m #[Value.ref b] below meth c s₁ [] 0 0 := Stand.of_body B
    have hh0 : s₁.heap = s.heap := by rw [B.state]; rfl
    have hsz : scr.slots.size = xs.length := by rw [← Array.length_toList, hlist, List.length_map]
    have hval : ∀ j : Nat, j < xs.length → scr.slots[j]? = some (.int (xs.getD j 0)) := fun j hj => by
      rw [← Array.getElem?_toList, hlist]
      simp [hj]
    have hbl : b < s.heap.size := (Array.getElem?_eq_some_iff.mp hcb).1
    have hX : va_X b xs.length (fun j => xs.getD j 0) s s.heap := ⟨scr, hcb, hof, hkn, hsz, hval⟩
    have K : W p l e room_1 s m #[Value.ref b] below meth c s₁.heap [] 0 0 (lw_Z below #[Value.ref b] s) (entryFrame m ([Value.ref b] : List Value).toArray 4) := by
      rw [hh0]
      exact whole_start l hflags hbd ⟨B.exec, B.bytes, B.returns, hml, hown, hts, hX, hbl, B.notSynchronized, hgv, (name_of_methodNamed B.named B.method).1⟩
    obtain ⟨t, a1, o, b1, b2, b3⟩ := K s₁ rfl X₀
    exact ⟨t, o, a1, b1, b2, b3⟩
theorem lw_pre_spec {args : Array Value} {s : State} (h : (Jvm.Cond.and given_1 narrow_1).before args s = true) (hr : rest_1_c.before args s = true) : ∃ (b : Addr) (xs : List Int32), lw_P b xs args s := by
  have hs := flat_of_before _ h
  have hq := flat_of_before _ hr
  have hc : (Cond.count 1).before args s = true := hs _ (by decide +kernel)
  have harr : (Cond.arrayOf (.arg 0) .int).before args s = true := hs _ (by decide +kernel)
  have hle : (Cond.le (.length (.arg 0)) (.int 3072)).before args s = true := hs _ (by decide +kernel)
  have hlen : (Cond.isInt (.length (.arg 0))).before args s = true := hq _ (by decide +kernel)
  have hall : (Cond.all (.arg 0) (.isInt (.elem (.arg 0) (.index 0)))).before args s = true := hq _ (by decide +kernel)
  obtain ⟨b, xs, hb, hx⟩ := State.ints_of_pre rfl harr hlen hall
  have hsm : xs.length < 2 ^ 31 := hx.choose_spec.2.2.2
  have hev : (Term.length (.arg 0)).eval args s none [] s = some (.int xs.length.toInt32) := hx.length_eval hb
  have hv := Cond.le_ints hev (show (Term.int 3072).eval args s none [] s = some (.int 3072) from rfl)
  have hd : xs.length.toInt32 ≤ 3072 := by
    simpa [Cond.before, Cond.holds, hv] using hle
  have hN : xs.length ≤ 3072 := (Int32.ofNat_le_ofNat hsm (by decide)).mp (show Int32.ofNat xs.length ≤ Int32.ofNat 3072 from hd)
  exact ⟨b, xs, Cond.one_arg hc (show args[0]? = some (.ref b) from hb), hx, hN, h⟩
theorem lw_comes (l : Launch) (hflags : l.flags = flags0) : Comes l x (Jvm.Cond.code x code maxLocals ret :: tables_1) room_1 (fun tb e args s => Calls_1 tb e args s ∧ rest_1 tb e args s ∧ Pre_1 tb e args s)
    (fun _ _ args s o t => lw_Q args s o t) := by
  intro p e ha hc hk s m args below hf hfit hheap happ hpre
  obtain ⟨b, xs, hP⟩ := lw_pre_spec hpre.2.2 hpre.2.1
  obtain ⟨k, o, h1, h2, h3, hQ⟩ := lw_walk l hflags b xs p e ha hc hk s m args below hf ((Spec.applies_iff_loose hf).mp happ).1 hP trivial
  exact ⟨k, o, h1, h2, h3, hQ⟩
theorem lw_frame {s t : State} {o : Outcome} {args : Array Value} (h : Framed s o t [] 600000 7302250) :
    Framed s o t (fieldLocs frame_1_writes args s ++ arrayLocs frame_1_arrays args s ++ staticLocs frame_1_statics s) 600000 7302250 := h
theorem lw_limb (L : Cond) (hL : ∀ (args : Array Value) (s t : State), L.after args s (.returned (some (.int 1))) t = true) :
    ArmFor flags0 classFile x code maxLocals ret World_1 tables_1 room_1 Calls_1 rest_1 Pre_1
      (fun tb e a s o t => postC L tb e a s o t ∧ Framed s o t (fieldLocs frame_1_writes a s ++ arrayLocs frame_1_arrays a s ++ staticLocs frame_1_statics s) 600000 7302250) := by
  intro l hflags _ _ p e ha hc hk s m args below hf hfit hheap happ hpre
  obtain ⟨k, o, h1, h2, h3, rfl, hF⟩ := lw_comes l hflags p e ha hc hk s m args below hf hfit hheap happ hpre
  exact ⟨k, _, h1, h2, h3, hL args s _, lw_frame hF⟩
theorem i_vc : Claimed_1_1 ∧ Claimed_1_2 := ⟨lw_limb limb_1_1 (fun args s t => by simp [limb_1_1, Cond.after, Cond.holds, Cond.value]), lw_limb limb_1_2 (fun args s t => Cond.after_iff.mpr (by
  first | (rw [show limb_1_2 = Cond.eq .result (.int 1) from rfl, Cond.eq_ints (x := 1) (y := 1) rfl rfl]; simp; done) | (simp [limb_1_2, Cond.value, Term.eval]; done)))⟩

