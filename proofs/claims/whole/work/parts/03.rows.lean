/-! ROWS: one for each instruction, over AW -/
section AWRows
variable {V : VV} {I : MI} {R : Room} {Qf : QF} {n0 z0 pc : Nat} {lv : List (Option Value)} {st : List Value} {h : AH} {n z : Nat}
theorem a_iconst {c : Int} {v : Int32} (dg : decode I.2.1 pc = .ok (.iconst c, 1)) (hv : Int32.ofInt c = v) (k : AW V I R Qf n0 z0 (pc + 1) lv (.int v :: st) h n z) : AW V I R Qf n0 z0 pc lv st h n z := by
  intro p l e s m args below meth c H locs ls X hS hP hL h1 h2 h3 h4
  exact lv_iconst X.1 X.2.1 dg hv (k p l e s m args below meth c H locs ls X hS hP hL h1 h2 h3 h4)
theorem a_bipush {c : Int} {v : Int32} (dg : decode I.2.1 pc = .ok (.bipush c, 2)) (hv : (Int8.ofInt c).toInt32 = v) (k : AW V I R Qf n0 z0 (pc + 2) lv (.int v :: st) h n z) : AW V I R Qf n0 z0 pc lv st h n z := by
  intro p l e s m args below meth c H locs ls X hS hP hL h1 h2 h3 h4
  exact lv_bipush X.1 X.2.1 dg hv (k p l e s m args below meth c H locs ls X hS hP hL h1 h2 h3 h4)
theorem a_sipush {c : Int} {v : Int32} (dg : decode I.2.1 pc = .ok (.sipush c, 3)) (hv : (Int16.ofInt c).toInt32 = v) (k : AW V I R Qf n0 z0 (pc + 3) lv (.int v :: st) h n z) : AW V I R Qf n0 z0 pc lv st h n z := by
  intro p l e s m args below meth c H locs ls X hS hP hL h1 h2 h3 h4
  exact lv_sipush X.1 X.2.1 dg hv (k p l e s m args below meth c H locs ls X hS hP hL h1 h2 h3 h4)
theorem a_lconst {c : Fin 2} {v : Int64} (dg : decode I.2.1 pc = .ok (.lconst c, 1)) (hv : Int64.ofNat (c : Nat) = v) (k : AW V I R Qf n0 z0 (pc + 1) lv (.long v :: st) h n z) : AW V I R Qf n0 z0 pc lv st h n z := by
  intro p l e s m args below meth c H locs ls X hS hP hL h1 h2 h3 h4
  exact lv_lconst X.1 X.2.1 dg hv (k p l e s m args below meth c H locs ls X hS hP hL h1 h2 h3 h4)
theorem a_iload_n {k : Fin 4} {x : Int32} (dg : decode I.2.1 pc = .ok (.iload_n k, 1)) (hl : lv[(k : Nat)]? = some (some (.int x))) (k : AW V I R Qf n0 z0 (pc + 1) lv (.int x :: st) h n z) : AW V I R Qf n0 z0 pc lv st h n z := by
  intro p l e s m args below meth c H locs ls X hS hP hL h1 h2 h3 h4
  exact lv_iload_n X.1 X.2.1 dg rfl (hL.2.2 _ _ hl) (k p l e s m args below meth c H locs ls X hS hP hL h1 h2 h3 h4)
theorem a_iload {i : Nat} {x : Int32} (dg : decode I.2.1 pc = .ok (.iload i, 2)) (hl : lv[i]? = some (some (.int x))) (k : AW V I R Qf n0 z0 (pc + 2) lv (.int x :: st) h n z) : AW V I R Qf n0 z0 pc lv st h n z := by
  intro p l e s m args below meth c H locs ls X hS hP hL h1 h2 h3 h4
  exact lv_iload X.1 X.2.1 dg (hL.2.2 _ _ hl) (k p l e s m args below meth c H locs ls X hS hP hL h1 h2 h3 h4)
theorem a_lload_n {k : Fin 4} {x : Int64} (dg : decode I.2.1 pc = .ok (.lload_n k, 1)) (hl : lv[(k : Nat)]? = some (some (.long x))) (k : AW V I R Qf n0 z0 (pc + 1) lv (.long x :: st) h n z) : AW V I R Qf n0 z0 pc lv st h n z := by
  intro p l e s m args below meth c H locs ls X hS hP hL h1 h2 h3 h4
  exact lv_lload_n X.1 X.2.1 dg rfl (hL.2.2 _ _ hl) (k p l e s m args below meth c H locs ls X hS hP hL h1 h2 h3 h4)
theorem a_lload {i : Nat} {x : Int64} (dg : decode I.2.1 pc = .ok (.lload i, 2)) (hl : lv[i]? = some (some (.long x))) (k : AW V I R Qf n0 z0 (pc + 2) lv (.long x :: st) h n z) : AW V I R Qf n0 z0 pc lv st h n z := by
  intro p l e s m args below meth c H locs ls X hS hP hL h1 h2 h3 h4
  exact lv_lload X.1 X.2.1 dg (hL.2.2 _ _ hl) (k p l e s m args below meth c H locs ls X hS hP hL h1 h2 h3 h4)
theorem a_aload_n {k : Fin 4} {x : Nat} (dg : decode I.2.1 pc = .ok (.aload_n k, 1)) (hl : lv[(k : Nat)]? = some (some (.ref x))) (k : AW V I R Qf n0 z0 (pc + 1) lv (.ref x :: st) h n z) : AW V I R Qf n0 z0 pc lv st h n z := by
  intro p l e s m args below meth c H locs ls X hS hP hL h1 h2 h3 h4
  exact lv_aload_n X.1 X.2.1 dg rfl (hL.2.2 _ _ hl) (k p l e s m args below meth c H locs ls X hS hP hL h1 h2 h3 h4)
theorem a_aload {i x : Nat} (dg : decode I.2.1 pc = .ok (.aload i, 2)) (hl : lv[i]? = some (some (.ref x))) (k : AW V I R Qf n0 z0 (pc + 2) lv (.ref x :: st) h n z) : AW V I R Qf n0 z0 pc lv st h n z := by
  intro p l e s m args below meth c H locs ls X hS hP hL h1 h2 h3 h4
  exact lv_aload X.1 X.2.1 dg (hL.2.2 _ _ hl) (k p l e s m args below meth c H locs ls X hS hP hL h1 h2 h3 h4)
theorem a_aload_nN {k : Fin 4} (dg : decode I.2.1 pc = .ok (.aload_n k, 1)) (hl : lv[(k : Nat)]? = some (some .null)) (k : AW V I R Qf n0 z0 (pc + 1) lv (.null :: st) h n z) : AW V I R Qf n0 z0 pc lv st h n z := by
  intro p l e s m args below meth c H locs ls X hS hP hL h1 h2 h3 h4
  exact lv_aload_nN X.1 X.2.1 dg rfl (hL.2.2 _ _ hl) (k p l e s m args below meth c H locs ls X hS hP hL h1 h2 h3 h4)
theorem a_aloadN {i : Nat} (dg : decode I.2.1 pc = .ok (.aload i, 2)) (hl : lv[i]? = some (some .null)) (k : AW V I R Qf n0 z0 (pc + 2) lv (.null :: st) h n z) : AW V I R Qf n0 z0 pc lv st h n z := by
  intro p l e s m args below meth c H locs ls X hS hP hL h1 h2 h3 h4
  exact lv_aloadN X.1 X.2.1 dg (hL.2.2 _ _ hl) (k p l e s m args below meth c H locs ls X hS hP hL h1 h2 h3 h4)
/-- a live value of two words stands just below the place -/
def c2 (lv : List (Option Value)) : Nat → Bool
  | 0 => false
  | i + 1 => match lv[i]? with
    | some (some (.long _)) => true
    | some (some (.double _)) => true
    | _ => false
theorem c2_no {lv : List (Option Value)} {i j : Nat} {v : Value} (hc : c2 lv i = false) (hj : lv[j]? = some (some v)) (e : j + 1 = i) : v.category = 1 := by
  subst e
  simp only [c2, hj] at hc
  cases v <;> simp_all [Value.category]
def lvl (V : VV) (lv : List (Option Value)) : List (Nat × Value) := (List.range lv.length).filterMap (fun i => match lv[i]? with
  | some (some v) => some (i, coV V v)
  | _ => none)
theorem lvl_mem {V : VV} {lv : List (Option Value)} {i : Nat} {v : Value} (hi : lv[i]? = some (some v)) : (i, coV V v) ∈ lvl V lv := by
  have hlt : i < lv.length := (List.getElem?_eq_some_iff.mp hi).1
  refine List.mem_filterMap.mpr ⟨i, List.mem_range.mpr hlt, ?_⟩
  rw [hi]
theorem lvl_of {V : VV} {lv : List (Option Value)} {q : Nat × Value} (h : q ∈ lvl V lv) : ∃ v, lv[q.1]? = some (some v) ∧ q.2 = coV V v := by
  obtain ⟨i, -, hi⟩ := List.mem_filterMap.mp h
  split at hi
  · rename_i v hv
    cases hi
    exact ⟨v, hv, rfl⟩
  · cases hi
theorem Lo.has {V : VV} {nL : Nat} {ls : Array Slot} {lv : List (Option Value)} (h : Lo V nL ls lv) : lv_has ls nL (lvl V lv) := by
  refine ⟨h.1, h.2.1, fun q hq => ?_⟩
  obtain ⟨v, h1, h2⟩ := lvl_of hq
  rw [h2]
  exact h.2.2 _ _ h1
theorem Lo.st1 {V : VV} {nL i : Nat} {ls : Array Slot} {lv : List (Option Value)} {v : Value} (hc : c2 lv i = false) (hi : i < lv.length) (h : lv_has ls nL ((i, coV V v) :: (lvl V lv).filter (fun q => !(q.1 == i) && !(q.1 + 1 == i && q.2.category == 2)))) : Lo V nL ls (lv.set i (some v)) := by
  refine ⟨h.1, h.2.1, fun j w hj => ?_⟩
  by_cases e : j = i
  · subst e
    rw [List.getElem?_set_self hi] at hj
    cases hj
    exact h.2.2 _ List.mem_cons_self
  · rw [List.getElem?_set_ne (Ne.symm e)] at hj
    refine h.2.2 (j, coV V w) (List.mem_cons_of_mem _ (List.mem_filter.mpr ⟨lvl_mem hj, ?_⟩))
    by_cases e2 : j + 1 = i
    · have := c2_no hc hj e2
      simp [e, coV_cat, this]
    · simp [e, e2]
theorem Lo.st2 {V : VV} {nL i : Nat} {ls : Array Slot} {lv : List (Option Value)} {v : Value} (hc : c2 lv i = false) (hi : i + 1 < lv.length) (h : lv_has ls nL ((i, coV V v) :: (lvl V lv).filter (fun q => !(q.1 == i) && (!(q.1 == i + 1) && !(q.1 + 1 == i && q.2.category == 2))))) : Lo V nL ls ((lv.set i (some v)).set (i + 1) none) := by
  refine ⟨h.1, h.2.1, fun j w hj => ?_⟩
  by_cases e1 : j = i + 1
  · subst e1
    rw [List.getElem?_set_self (by simpa using hi)] at hj
    cases hj
  · rw [List.getElem?_set_ne (Ne.symm e1)] at hj
    by_cases e : j = i
    · subst e
      rw [List.getElem?_set_self (by omega)] at hj
      cases hj
      exact h.2.2 _ List.mem_cons_self
    · rw [List.getElem?_set_ne (Ne.symm e)] at hj
      refine h.2.2 (j, coV V w) (List.mem_cons_of_mem _ (List.mem_filter.mpr ⟨lvl_mem hj, ?_⟩))
      by_cases e2 : j + 1 = i
      · have := c2_no hc hj e2
        simp [e, e1, coV_cat, this]
      · simp [e, e1, e2]
theorem a_drop (i : Nat) (k : AW V I R Qf n0 z0 pc (lv.set i none) st h n z) : AW V I R Qf n0 z0 pc lv st h n z := by
  intro p l e s m args below meth c H locs ls X hS hP hL h1 h2 h3 h4
  refine k p l e s m args below meth c H locs ls X hS hP ⟨hL.1, hL.2.1, fun j v hj => ?_⟩ h1 h2 h3 h4
  by_cases q : j = i
  · subst q
    by_cases hlt : j < lv.length
    · rw [List.getElem?_set_self hlt] at hj
      cases hj
    · rw [List.getElem?_eq_none (by simp; omega)] at hj
      cases hj
  · rw [List.getElem?_set_ne (Ne.symm q)] at hj
    exact hL.2.2 j v hj
theorem a_eq {pc' : Nat} {lv' : List (Option Value)} {st' : List Value} {h' : AH} {n' z' : Nat} (e1 : pc = pc') (e2 : lv = lv') (e3 : st = st') (e4 : h = h') (e5 : n = n') (e6 : z = z') (k : AW V I R Qf n0 z0 pc' lv' st' h' n' z') : AW V I R Qf n0 z0 pc lv st h n z := by
  subst e1; subst e2; subst e3; subst e4; subst e5; subst e6; exact k
theorem a_istore_n {k : Fin 4} {x : Int32} (dg : decode I.2.1 pc = .ok (.istore_n k, 1)) (hi : (k : Nat) < lv.length) (hi2 : (k : Nat) < I.2.2.1) (hc : c2 lv (k : Nat) = false) (k : AW V I R Qf n0 z0 (pc + 1) (lv.set (k : Nat) (some (.int x))) st h n z) : AW V I R Qf n0 z0 pc lv (.int x :: st) h n z := by
  intro p l e s m args below meth c H locs ls X hS hP hL h1 h2 h3 h4
  exact lv_istore_n X.1 X.2.1 dg rfl hL.has hi2 rfl (fun ls' hl' => k p l e s m args below meth c H locs ls' X hS hP (Lo.st1 (v := .int x) hc hi hl') h1 h2 h3 h4)
theorem a_istore {i : Nat} {x : Int32} (dg : decode I.2.1 pc = .ok (.istore i, 2)) (hi : i < lv.length) (hi2 : i < I.2.2.1) (hc : c2 lv i = false) (k : AW V I R Qf n0 z0 (pc + 2) (lv.set i (some (.int x))) st h n z) : AW V I R Qf n0 z0 pc lv (.int x :: st) h n z := by
  intro p l e s m args below meth c H locs ls X hS hP hL h1 h2 h3 h4
  exact lv_istore X.1 X.2.1 dg hL.has hi2 rfl (fun ls' hl' => k p l e s m args below meth c H locs ls' X hS hP (Lo.st1 (v := .int x) hc hi hl') h1 h2 h3 h4)
theorem a_lstore_n {k : Fin 4} {x : Int64} (dg : decode I.2.1 pc = .ok (.lstore_n k, 1)) (hi : (k : Nat) + 1 < lv.length) (hi2 : (k : Nat) + 1 < I.2.2.1) (hc : c2 lv (k : Nat) = false) (k : AW V I R Qf n0 z0 (pc + 1) ((lv.set (k : Nat) (some (.long x))).set ((k : Nat) + 1) none) st h n z) : AW V I R Qf n0 z0 pc lv (.long x :: st) h n z := by
  intro p l e s m args below meth c H locs ls X hS hP hL h1 h2 h3 h4
  exact lv_lstore_n X.1 X.2.1 dg rfl hL.has hi2 rfl (fun ls' hl' => k p l e s m args below meth c H locs ls' X hS hP (Lo.st2 (v := .long x) hc hi hl') h1 h2 h3 h4)
theorem a_lstore {i : Nat} {x : Int64} (dg : decode I.2.1 pc = .ok (.lstore i, 2)) (hi : i + 1 < lv.length) (hi2 : i + 1 < I.2.2.1) (hc : c2 lv i = false) (k : AW V I R Qf n0 z0 (pc + 2) ((lv.set i (some (.long x))).set (i + 1) none) st h n z) : AW V I R Qf n0 z0 pc lv (.long x :: st) h n z := by
  intro p l e s m args below meth c H locs ls X hS hP hL h1 h2 h3 h4
  exact lv_lstore X.1 X.2.1 dg hL.has hi2 rfl (fun ls' hl' => k p l e s m args below meth c H locs ls' X hS hP (Lo.st2 (v := .long x) hc hi hl') h1 h2 h3 h4)
theorem a_astore_n {k : Fin 4} {x : Nat} (dg : decode I.2.1 pc = .ok (.astore_n k, 1)) (hi : (k : Nat) < lv.length) (hi2 : (k : Nat) < I.2.2.1) (hc : c2 lv (k : Nat) = false) (k : AW V I R Qf n0 z0 (pc + 1) (lv.set (k : Nat) (some (.ref x))) st h n z) : AW V I R Qf n0 z0 pc lv (.ref x :: st) h n z := by
  intro p l e s m args below meth c H locs ls X hS hP hL h1 h2 h3 h4
  exact lv_astore_n X.1 X.2.1 dg rfl hL.has hi2 rfl (fun ls' hl' => k p l e s m args below meth c H locs ls' X hS hP (Lo.st1 (v := .ref x) hc hi hl') h1 h2 h3 h4)
theorem a_astore_nN {k : Fin 4} (dg : decode I.2.1 pc = .ok (.astore_n k, 1)) (hi : (k : Nat) < lv.length) (hi2 : (k : Nat) < I.2.2.1) (hc : c2 lv (k : Nat) = false) (k : AW V I R Qf n0 z0 (pc + 1) (lv.set (k : Nat) (some .null)) st h n z) : AW V I R Qf n0 z0 pc lv (.null :: st) h n z := by
  intro p l e s m args below meth c H locs ls X hS hP hL h1 h2 h3 h4
  exact lv_astore_nN X.1 X.2.1 dg rfl hL.has hi2 rfl (fun ls' hl' => k p l e s m args below meth c H locs ls' X hS hP (Lo.st1 (v := .null) hc hi hl') h1 h2 h3 h4)
theorem a_astore {i : Nat} {x : Nat} (dg : decode I.2.1 pc = .ok (.astore i, 2)) (hi : i < lv.length) (hi2 : i < I.2.2.1) (hc : c2 lv i = false) (k : AW V I R Qf n0 z0 (pc + 2) (lv.set i (some (.ref x))) st h n z) : AW V I R Qf n0 z0 pc lv (.ref x :: st) h n z := by
  intro p l e s m args below meth c H locs ls X hS hP hL h1 h2 h3 h4
  exact lv_astore X.1 X.2.1 dg hL.has hi2 rfl (fun ls' hl' => k p l e s m args below meth c H locs ls' X hS hP (Lo.st1 (v := .ref x) hc hi hl') h1 h2 h3 h4)
theorem a_astoreN {i : Nat} (dg : decode I.2.1 pc = .ok (.astore i, 2)) (hi : i < lv.length) (hi2 : i < I.2.2.1) (hc : c2 lv i = false) (k : AW V I R Qf n0 z0 (pc + 2) (lv.set i (some .null)) st h n z) : AW V I R Qf n0 z0 pc lv (.null :: st) h n z := by
  intro p l e s m args below meth c H locs ls X hS hP hL h1 h2 h3 h4
  exact lv_astoreN X.1 X.2.1 dg hL.has hi2 rfl (fun ls' hl' => k p l e s m args below meth c H locs ls' X hS hP (Lo.st1 (v := .null) hc hi hl') h1 h2 h3 h4)
theorem a_iinc {i : Nat} {c : Int} {x v : Int32} (dg : decode I.2.1 pc = .ok (.iinc i c, 3)) (hl : lv[i]? = some (some (.int x))) (hv : x + Int32.ofInt c = v) (hi2 : i < I.2.2.1) (hc : c2 lv i = false) (k : AW V I R Qf n0 z0 (pc + 3) (lv.set i (some (.int v))) st h n z) : AW V I R Qf n0 z0 pc lv st h n z := by
  intro p l e s m args below meth c' H locs ls X hS hP hL h1 h2 h3 h4
  obtain ⟨k0, hk0⟩ := List.getElem?_of_mem (lvl_mem (V := V) hl)
  exact lv_iinc X.1 X.2.1 dg hL.has hk0 hv hi2 rfl (fun ls' hl' => k p l e s m args below meth c' H locs ls' X hS hP (Lo.st1 (v := .int v) hc (List.getElem?_eq_some_iff.mp hl).1 hl') h1 h2 h3 h4)
theorem a_iadd {x y : Int32} (dg : decode I.2.1 pc = .ok (.iadd, 1))  (k : AW V I R Qf n0 z0 (pc + 1) lv (.int (x + y) :: st) h n z) : AW V I R Qf n0 z0 pc lv (.int y :: .int x :: st) h n z := by
  intro p l e s m args below meth c H locs ls X hS hP hL h1 h2 h3 h4
  exact lv_iadd X.1 X.2.1 dg (k p l e s m args below meth c H locs ls X hS hP hL h1 h2 h3 h4)
theorem a_isub {x y : Int32} (dg : decode I.2.1 pc = .ok (.isub, 1))  (k : AW V I R Qf n0 z0 (pc + 1) lv (.int (x - y) :: st) h n z) : AW V I R Qf n0 z0 pc lv (.int y :: .int x :: st) h n z := by
  intro p l e s m args below meth c H locs ls X hS hP hL h1 h2 h3 h4
  exact lv_isub X.1 X.2.1 dg (k p l e s m args below meth c H locs ls X hS hP hL h1 h2 h3 h4)
theorem a_imul {x y : Int32} (dg : decode I.2.1 pc = .ok (.imul, 1))  (k : AW V I R Qf n0 z0 (pc + 1) lv (.int (x * y) :: st) h n z) : AW V I R Qf n0 z0 pc lv (.int y :: .int x :: st) h n z := by
  intro p l e s m args below meth c H locs ls X hS hP hL h1 h2 h3 h4
  exact lv_imul X.1 X.2.1 dg (k p l e s m args below meth c H locs ls X hS hP hL h1 h2 h3 h4)
theorem a_iand {x y : Int32} (dg : decode I.2.1 pc = .ok (.iand, 1))  (k : AW V I R Qf n0 z0 (pc + 1) lv (.int (x &&& y) :: st) h n z) : AW V I R Qf n0 z0 pc lv (.int y :: .int x :: st) h n z := by
  intro p l e s m args below meth c H locs ls X hS hP hL h1 h2 h3 h4
  exact lv_iand X.1 X.2.1 dg (k p l e s m args below meth c H locs ls X hS hP hL h1 h2 h3 h4)
theorem a_ladd {x y : Int64} (dg : decode I.2.1 pc = .ok (.ladd, 1))  (k : AW V I R Qf n0 z0 (pc + 1) lv (.long (x + y) :: st) h n z) : AW V I R Qf n0 z0 pc lv (.long y :: .long x :: st) h n z := by
  intro p l e s m args below meth c H locs ls X hS hP hL h1 h2 h3 h4
  exact lv_ladd X.1 X.2.1 dg (k p l e s m args below meth c H locs ls X hS hP hL h1 h2 h3 h4)
theorem a_lsub {x y : Int64} (dg : decode I.2.1 pc = .ok (.lsub, 1))  (k : AW V I R Qf n0 z0 (pc + 1) lv (.long (x - y) :: st) h n z) : AW V I R Qf n0 z0 pc lv (.long y :: .long x :: st) h n z := by
  intro p l e s m args below meth c H locs ls X hS hP hL h1 h2 h3 h4
  exact lv_lsub X.1 X.2.1 dg (k p l e s m args below meth c H locs ls X hS hP hL h1 h2 h3 h4)
theorem a_land {x y : Int64} (dg : decode I.2.1 pc = .ok (.land, 1))  (k : AW V I R Qf n0 z0 (pc + 1) lv (.long (x &&& y) :: st) h n z) : AW V I R Qf n0 z0 pc lv (.long y :: .long x :: st) h n z := by
  intro p l e s m args below meth c H locs ls X hS hP hL h1 h2 h3 h4
  exact lv_land X.1 X.2.1 dg (k p l e s m args below meth c H locs ls X hS hP hL h1 h2 h3 h4)
theorem a_lor {x y : Int64} (dg : decode I.2.1 pc = .ok (.lor, 1))  (k : AW V I R Qf n0 z0 (pc + 1) lv (.long (x ||| y) :: st) h n z) : AW V I R Qf n0 z0 pc lv (.long y :: .long x :: st) h n z := by
  intro p l e s m args below meth c H locs ls X hS hP hL h1 h2 h3 h4
  exact lv_lor X.1 X.2.1 dg (k p l e s m args below meth c H locs ls X hS hP hL h1 h2 h3 h4)
theorem a_lxor {x y : Int64} (dg : decode I.2.1 pc = .ok (.lxor, 1))  (k : AW V I R Qf n0 z0 (pc + 1) lv (.long (x ^^^ y) :: st) h n z) : AW V I R Qf n0 z0 pc lv (.long y :: .long x :: st) h n z := by
  intro p l e s m args below meth c H locs ls X hS hP hL h1 h2 h3 h4
  exact lv_lxor X.1 X.2.1 dg (k p l e s m args below meth c H locs ls X hS hP hL h1 h2 h3 h4)
theorem a_idiv {x y : Int32} (dg : decode I.2.1 pc = .ok (.idiv, 1)) (hne : ¬ y = 0) (k : AW V I R Qf n0 z0 (pc + 1) lv (.int (x / y) :: st) h n z) : AW V I R Qf n0 z0 pc lv (.int y :: .int x :: st) h n z := by
  intro p l e s m args below meth c H locs ls X hS hP hL h1 h2 h3 h4
  exact lv_idiv X.1 X.2.1 dg hne (k p l e s m args below meth c H locs ls X hS hP hL h1 h2 h3 h4)
theorem a_irem {x y : Int32} (dg : decode I.2.1 pc = .ok (.irem, 1)) (hne : ¬ y = 0) (k : AW V I R Qf n0 z0 (pc + 1) lv (.int (x - x / y * y) :: st) h n z) : AW V I R Qf n0 z0 pc lv (.int y :: .int x :: st) h n z := by
  intro p l e s m args below meth c H locs ls X hS hP hL h1 h2 h3 h4
  exact lv_irem X.1 X.2.1 dg hne (k p l e s m args below meth c H locs ls X hS hP hL h1 h2 h3 h4)
theorem a_ineg {x : Int32} (dg : decode I.2.1 pc = .ok (.ineg, 1))  (k : AW V I R Qf n0 z0 (pc + 1) lv (.int (-x) :: st) h n z) : AW V I R Qf n0 z0 pc lv (.int x :: st) h n z := by
  intro p l e s m args below meth c H locs ls X hS hP hL h1 h2 h3 h4
  exact lv_ineg X.1 X.2.1 dg (k p l e s m args below meth c H locs ls X hS hP hL h1 h2 h3 h4)
theorem a_i2l {x : Int32} (dg : decode I.2.1 pc = .ok (.i2l, 1))  (k : AW V I R Qf n0 z0 (pc + 1) lv (.long x.toInt64 :: st) h n z) : AW V I R Qf n0 z0 pc lv (.int x :: st) h n z := by
  intro p l e s m args below meth c H locs ls X hS hP hL h1 h2 h3 h4
  exact lv_i2l X.1 X.2.1 dg rfl (k p l e s m args below meth c H locs ls X hS hP hL h1 h2 h3 h4)
theorem a_l2i {x : Int64} (dg : decode I.2.1 pc = .ok (.l2i, 1))  (k : AW V I R Qf n0 z0 (pc + 1) lv (.int x.toInt32 :: st) h n z) : AW V I R Qf n0 z0 pc lv (.long x :: st) h n z := by
  intro p l e s m args below meth c H locs ls X hS hP hL h1 h2 h3 h4
  exact lv_l2i X.1 X.2.1 dg rfl (k p l e s m args below meth c H locs ls X hS hP hL h1 h2 h3 h4)
theorem a_ishr {x y : Int32} (dg : decode I.2.1 pc = .ok (.ishr, 1))  (k : AW V I R Qf n0 z0 (pc + 1) lv (.int (x >>> (y &&& 31)) :: st) h n z) : AW V I R Qf n0 z0 pc lv (.int y :: .int x :: st) h n z := by
  intro p l e s m args below meth c H locs ls X hS hP hL h1 h2 h3 h4
  exact lv_ishr X.1 X.2.1 dg (k p l e s m args below meth c H locs ls X hS hP hL h1 h2 h3 h4)
theorem a_lushr {x : Int64} {y : Int32} (dg : decode I.2.1 pc = .ok (.lushr, 1))  (k : AW V I R Qf n0 z0 (pc + 1) lv (.long (x.toUInt64 >>> (y.toInt64.toUInt64 &&& Int64.toUInt64 63)).toInt64 :: st) h n z) : AW V I R Qf n0 z0 pc lv (.int y :: .long x :: st) h n z := by
  intro p l e s m args below meth c H locs ls X hS hP hL h1 h2 h3 h4
  exact lv_lushr X.1 X.2.1 dg rfl (k p l e s m args below meth c H locs ls X hS hP hL h1 h2 h3 h4)
theorem a_lshl {x : Int64} {y : Int32} (dg : decode I.2.1 pc = .ok (.lshl, 1))  (k : AW V I R Qf n0 z0 (pc + 1) lv (.long (x <<< (y.toInt64 &&& 63)) :: st) h n z) : AW V I R Qf n0 z0 pc lv (.int y :: .long x :: st) h n z := by
  intro p l e s m args below meth c H locs ls X hS hP hL h1 h2 h3 h4
  exact lv_lshl X.1 X.2.1 dg rfl (k p l e s m args below meth c H locs ls X hS hP hL h1 h2 h3 h4)
theorem a_lshr {x : Int64} {y : Int32} (dg : decode I.2.1 pc = .ok (.lshr, 1))  (k : AW V I R Qf n0 z0 (pc + 1) lv (.long (x >>> (y.toInt64 &&& 63)) :: st) h n z) : AW V I R Qf n0 z0 pc lv (.int y :: .long x :: st) h n z := by
  intro p l e s m args below meth c H locs ls X hS hP hL h1 h2 h3 h4
  exact lv_lshr X.1 X.2.1 dg rfl (k p l e s m args below meth c H locs ls X hS hP hL h1 h2 h3 h4)
theorem a_lcmp {x y : Int64} (dg : decode I.2.1 pc = .ok (.lcmp, 1))  (k : AW V I R Qf n0 z0 (pc + 1) lv (.int (lg_cmp x y) :: st) h n z) : AW V I R Qf n0 z0 pc lv (.long y :: .long x :: st) h n z := by
  intro p l e s m args below meth c H locs ls X hS hP hL h1 h2 h3 h4
  exact W.lcmp X.1 X.2.1 dg (k p l e s m args below meth c H locs ls X hS hP hL h1 h2 h3 h4)
theorem a_null  (dg : decode I.2.1 pc = .ok (.aconst_null, 1))  (k : AW V I R Qf n0 z0 (pc + 1) lv (.null :: st) h n z) : AW V I R Qf n0 z0 pc lv st h n z := by
  intro p l e s m args below meth c H locs ls X hS hP hL h1 h2 h3 h4
  exact lv_null X.1 X.2.1 dg (k p l e s m args below meth c H locs ls X hS hP hL h1 h2 h3 h4)
theorem a_dup {v : Value} (dg : decode I.2.1 pc = .ok (.dup, 1)) (hv : v.category = 1) (k : AW V I R Qf n0 z0 (pc + 1) lv (v :: v :: st) h n z) : AW V I R Qf n0 z0 pc lv (v :: st) h n z := by
  intro p l e s m args below meth c H locs ls X hS hP hL h1 h2 h3 h4
  exact lv_dup X.1 X.2.1 dg (by rw [coV_cat]; exact hv) (k p l e s m args below meth c H locs ls X hS hP hL h1 h2 h3 h4)
theorem a_pop {v : Value} (dg : decode I.2.1 pc = .ok (.pop, 1)) (hv : v.category = 1) (k : AW V I R Qf n0 z0 (pc + 1) lv st h n z) : AW V I R Qf n0 z0 pc lv (v :: st) h n z := by
  intro p l e s m args below meth c H locs ls X hS hP hL h1 h2 h3 h4
  exact lv_pop X.1 X.2.1 dg (by rw [coV_cat]; exact hv) (k p l e s m args below meth c H locs ls X hS hP hL h1 h2 h3 h4)
theorem a_dup2 {v u : Value} (dg : decode I.2.1 pc = .ok (.dup2, 1)) (hv : v.category = 1) (hu : u.category = 1) (k : AW V I R Qf n0 z0 (pc + 1) lv (v :: u :: v :: u :: st) h n z) : AW V I R Qf n0 z0 pc lv (v :: u :: st) h n z := by
  intro p l e s m args below meth c H locs ls X hS hP hL h1 h2 h3 h4
  exact lv_dup2_11 X.1 X.2.1 dg (by rw [coV_cat]; exact hv) (by rw [coV_cat]; exact hu) (k p l e s m args below meth c H locs ls X hS hP hL h1 h2 h3 h4)
theorem a_if_eq {x : Int32} {off : Int} (tgt : Nat) (dg : decode I.2.1 pc = .ok (.ifCond .eq off, 3)) (ht : (pc : Int) + off = (tgt : Int)) (kt : x = 0 → AW V I R Qf n0 z0 tgt lv st h n z) (kf : ¬ x = 0 → AW V I R Qf n0 z0 (pc + 3) lv st h n z) : AW V I R Qf n0 z0 pc lv (.int x :: st) h n z := by
  intro p l e s m args below meth c H locs ls X hS hP hL h1 h2 h3 h4
  exact lv_if_eq X.1 X.2.1 dg ht (fun q => kt q p l e s m args below meth c H locs ls X hS hP hL h1 h2 h3 h4) (fun q => kf q p l e s m args below meth c H locs ls X hS hP hL h1 h2 h3 h4)
theorem a_icmp_eq {x y : Int32} {off : Int} (tgt : Nat) (dg : decode I.2.1 pc = .ok (.if_icmp .eq off, 3)) (ht : (pc : Int) + off = (tgt : Int)) (kt : x = y → AW V I R Qf n0 z0 tgt lv st h n z) (kf : ¬ x = y → AW V I R Qf n0 z0 (pc + 3) lv st h n z) : AW V I R Qf n0 z0 pc lv (.int y :: .int x :: st) h n z := by
  intro p l e s m args below meth c H locs ls X hS hP hL h1 h2 h3 h4
  exact lv_icmp_eq X.1 X.2.1 dg ht (fun q => kt q p l e s m args below meth c H locs ls X hS hP hL h1 h2 h3 h4) (fun q => kf q p l e s m args below meth c H locs ls X hS hP hL h1 h2 h3 h4)
theorem a_if_ne {x : Int32} {off : Int} (tgt : Nat) (dg : decode I.2.1 pc = .ok (.ifCond .ne off, 3)) (ht : (pc : Int) + off = (tgt : Int)) (kt : ¬ x = 0 → AW V I R Qf n0 z0 tgt lv st h n z) (kf : x = 0 → AW V I R Qf n0 z0 (pc + 3) lv st h n z) : AW V I R Qf n0 z0 pc lv (.int x :: st) h n z := by
  intro p l e s m args below meth c H locs ls X hS hP hL h1 h2 h3 h4
  exact lv_if_ne X.1 X.2.1 dg ht (fun q => kt q p l e s m args below meth c H locs ls X hS hP hL h1 h2 h3 h4) (fun q => kf q p l e s m args below meth c H locs ls X hS hP hL h1 h2 h3 h4)
theorem a_icmp_ne {x y : Int32} {off : Int} (tgt : Nat) (dg : decode I.2.1 pc = .ok (.if_icmp .ne off, 3)) (ht : (pc : Int) + off = (tgt : Int)) (kt : ¬ x = y → AW V I R Qf n0 z0 tgt lv st h n z) (kf : x = y → AW V I R Qf n0 z0 (pc + 3) lv st h n z) : AW V I R Qf n0 z0 pc lv (.int y :: .int x :: st) h n z := by
  intro p l e s m args below meth c H locs ls X hS hP hL h1 h2 h3 h4
  exact lv_icmp_ne X.1 X.2.1 dg ht (fun q => kt q p l e s m args below meth c H locs ls X hS hP hL h1 h2 h3 h4) (fun q => kf q p l e s m args below meth c H locs ls X hS hP hL h1 h2 h3 h4)
theorem a_if_lt {x : Int32} {off : Int} (tgt : Nat) (dg : decode I.2.1 pc = .ok (.ifCond .lt off, 3)) (ht : (pc : Int) + off = (tgt : Int)) (kt : x < 0 → AW V I R Qf n0 z0 tgt lv st h n z) (kf : ¬ x < 0 → AW V I R Qf n0 z0 (pc + 3) lv st h n z) : AW V I R Qf n0 z0 pc lv (.int x :: st) h n z := by
  intro p l e s m args below meth c H locs ls X hS hP hL h1 h2 h3 h4
  exact lv_if_lt X.1 X.2.1 dg ht (fun q => kt q p l e s m args below meth c H locs ls X hS hP hL h1 h2 h3 h4) (fun q => kf q p l e s m args below meth c H locs ls X hS hP hL h1 h2 h3 h4)
theorem a_icmp_lt {x y : Int32} {off : Int} (tgt : Nat) (dg : decode I.2.1 pc = .ok (.if_icmp .lt off, 3)) (ht : (pc : Int) + off = (tgt : Int)) (kt : x < y → AW V I R Qf n0 z0 tgt lv st h n z) (kf : ¬ x < y → AW V I R Qf n0 z0 (pc + 3) lv st h n z) : AW V I R Qf n0 z0 pc lv (.int y :: .int x :: st) h n z := by
  intro p l e s m args below meth c H locs ls X hS hP hL h1 h2 h3 h4
  exact lv_icmp_lt X.1 X.2.1 dg ht (fun q => kt q p l e s m args below meth c H locs ls X hS hP hL h1 h2 h3 h4) (fun q => kf q p l e s m args below meth c H locs ls X hS hP hL h1 h2 h3 h4)
theorem a_if_ge {x : Int32} {off : Int} (tgt : Nat) (dg : decode I.2.1 pc = .ok (.ifCond .ge off, 3)) (ht : (pc : Int) + off = (tgt : Int)) (kt : 0 ≤ x → AW V I R Qf n0 z0 tgt lv st h n z) (kf : ¬ 0 ≤ x → AW V I R Qf n0 z0 (pc + 3) lv st h n z) : AW V I R Qf n0 z0 pc lv (.int x :: st) h n z := by
  intro p l e s m args below meth c H locs ls X hS hP hL h1 h2 h3 h4
  exact lv_if_ge X.1 X.2.1 dg ht (fun q => kt q p l e s m args below meth c H locs ls X hS hP hL h1 h2 h3 h4) (fun q => kf q p l e s m args below meth c H locs ls X hS hP hL h1 h2 h3 h4)
theorem a_icmp_ge {x y : Int32} {off : Int} (tgt : Nat) (dg : decode I.2.1 pc = .ok (.if_icmp .ge off, 3)) (ht : (pc : Int) + off = (tgt : Int)) (kt : y ≤ x → AW V I R Qf n0 z0 tgt lv st h n z) (kf : ¬ y ≤ x → AW V I R Qf n0 z0 (pc + 3) lv st h n z) : AW V I R Qf n0 z0 pc lv (.int y :: .int x :: st) h n z := by
  intro p l e s m args below meth c H locs ls X hS hP hL h1 h2 h3 h4
  exact lv_icmp_ge X.1 X.2.1 dg ht (fun q => kt q p l e s m args below meth c H locs ls X hS hP hL h1 h2 h3 h4) (fun q => kf q p l e s m args below meth c H locs ls X hS hP hL h1 h2 h3 h4)
theorem a_if_gt {x : Int32} {off : Int} (tgt : Nat) (dg : decode I.2.1 pc = .ok (.ifCond .gt off, 3)) (ht : (pc : Int) + off = (tgt : Int)) (kt : 0 < x → AW V I R Qf n0 z0 tgt lv st h n z) (kf : ¬ 0 < x → AW V I R Qf n0 z0 (pc + 3) lv st h n z) : AW V I R Qf n0 z0 pc lv (.int x :: st) h n z := by
  intro p l e s m args below meth c H locs ls X hS hP hL h1 h2 h3 h4
  exact lv_if_gt X.1 X.2.1 dg ht (fun q => kt q p l e s m args below meth c H locs ls X hS hP hL h1 h2 h3 h4) (fun q => kf q p l e s m args below meth c H locs ls X hS hP hL h1 h2 h3 h4)
theorem a_icmp_gt {x y : Int32} {off : Int} (tgt : Nat) (dg : decode I.2.1 pc = .ok (.if_icmp .gt off, 3)) (ht : (pc : Int) + off = (tgt : Int)) (kt : y < x → AW V I R Qf n0 z0 tgt lv st h n z) (kf : ¬ y < x → AW V I R Qf n0 z0 (pc + 3) lv st h n z) : AW V I R Qf n0 z0 pc lv (.int y :: .int x :: st) h n z := by
  intro p l e s m args below meth c H locs ls X hS hP hL h1 h2 h3 h4
  exact lv_icmp_gt X.1 X.2.1 dg ht (fun q => kt q p l e s m args below meth c H locs ls X hS hP hL h1 h2 h3 h4) (fun q => kf q p l e s m args below meth c H locs ls X hS hP hL h1 h2 h3 h4)
theorem a_if_le {x : Int32} {off : Int} (tgt : Nat) (dg : decode I.2.1 pc = .ok (.ifCond .le off, 3)) (ht : (pc : Int) + off = (tgt : Int)) (kt : x ≤ 0 → AW V I R Qf n0 z0 tgt lv st h n z) (kf : ¬ x ≤ 0 → AW V I R Qf n0 z0 (pc + 3) lv st h n z) : AW V I R Qf n0 z0 pc lv (.int x :: st) h n z := by
  intro p l e s m args below meth c H locs ls X hS hP hL h1 h2 h3 h4
  exact lv_if_le X.1 X.2.1 dg ht (fun q => kt q p l e s m args below meth c H locs ls X hS hP hL h1 h2 h3 h4) (fun q => kf q p l e s m args below meth c H locs ls X hS hP hL h1 h2 h3 h4)
theorem a_icmp_le {x y : Int32} {off : Int} (tgt : Nat) (dg : decode I.2.1 pc = .ok (.if_icmp .le off, 3)) (ht : (pc : Int) + off = (tgt : Int)) (kt : x ≤ y → AW V I R Qf n0 z0 tgt lv st h n z) (kf : ¬ x ≤ y → AW V I R Qf n0 z0 (pc + 3) lv st h n z) : AW V I R Qf n0 z0 pc lv (.int y :: .int x :: st) h n z := by
  intro p l e s m args below meth c H locs ls X hS hP hL h1 h2 h3 h4
  exact lv_icmp_le X.1 X.2.1 dg ht (fun q => kt q p l e s m args below meth c H locs ls X hS hP hL h1 h2 h3 h4) (fun q => kf q p l e s m args below meth c H locs ls X hS hP hL h1 h2 h3 h4)
theorem a_goto {off : Int} (tgt : Nat) (dg : decode I.2.1 pc = .ok (.goto off, 3)) (ht : (pc : Int) + off = (tgt : Int)) (k : AW V I R Qf n0 z0 tgt lv st h n z) : AW V I R Qf n0 z0 pc lv st h n z := by
  intro p l e s m args below meth c H locs ls X hS hP hL h1 h2 h3 h4
  exact lv_goto X.1 X.2.1 dg ht (k p l e s m args below meth c H locs ls X hS hP hL h1 h2 h3 h4)
theorem a_ifnull {x : Nat} {off : Int} (dg : decode I.2.1 pc = .ok (.ifnull off, 3)) (k : AW V I R Qf n0 z0 (pc + 3) lv st h n z) : AW V I R Qf n0 z0 pc lv (.ref x :: st) h n z := by
  intro p l e s m args below meth c H locs ls X hS hP hL h1 h2 h3 h4
  exact lv_ifnull X.1 X.2.1 dg (k p l e s m args below meth c H locs ls X hS hP hL h1 h2 h3 h4)
theorem a_ifnullN {off : Int} (tgt : Nat) (dg : decode I.2.1 pc = .ok (.ifnull off, 3)) (ht : (pc : Int) + off = (tgt : Int)) (k : AW V I R Qf n0 z0 tgt lv st h n z) : AW V I R Qf n0 z0 pc lv (.null :: st) h n z := by
  intro p l e s m args below meth c H locs ls X hS hP hL h1 h2 h3 h4
  exact lv_ifnullN X.1 X.2.1 dg ht (k p l e s m args below meth c H locs ls X hS hP hL h1 h2 h3 h4)
theorem a_ifnonnull {x : Nat} {off : Int} (tgt : Nat) (dg : decode I.2.1 pc = .ok (.ifnonnull off, 3)) (ht : (pc : Int) + off = (tgt : Int)) (k : AW V I R Qf n0 z0 tgt lv st h n z) : AW V I R Qf n0 z0 pc lv (.ref x :: st) h n z := by
  intro p l e s m args below meth c H locs ls X hS hP hL h1 h2 h3 h4
  exact lv_ifnonnull X.1 X.2.1 dg ht (k p l e s m args below meth c H locs ls X hS hP hL h1 h2 h3 h4)
theorem a_ifnonnullN {off : Int} (dg : decode I.2.1 pc = .ok (.ifnonnull off, 3)) (k : AW V I R Qf n0 z0 (pc + 3) lv st h n z) : AW V I R Qf n0 z0 pc lv (.null :: st) h n z := by
  intro p l e s m args below meth c H locs ls X hS hP hL h1 h2 h3 h4
  exact lv_ifnonnullN X.1 X.2.1 dg (k p l e s m args below meth c H locs ls X hS hP hL h1 h2 h3 h4)
theorem a_tabOut {dflt lo hi : Int} {offs : Array Int} {len : Nat} {x : Int32} (tgt : Nat) (dg : decode I.2.1 pc = .ok (.tableswitch dflt lo hi offs, len)) (hx : x.toInt < lo ∨ hi < x.toInt) (ht : (pc : Int) + dflt = (tgt : Int)) (k : AW V I R Qf n0 z0 tgt lv st h n z) : AW V I R Qf n0 z0 pc lv (.int x :: st) h n z := by
  intro p l e s m args below meth c H locs ls X hS hP hL h1 h2 h3 h4
  exact lv_tableOut X.1 X.2.1 dg hx ht (k p l e s m args below meth c H locs ls X hS hP hL h1 h2 h3 h4)
theorem a_tabIn {dflt lo hi off : Int} {offs : Array Int} {len : Nat} {x : Int32} (tgt : Nat) (dg : decode I.2.1 pc = .ok (.tableswitch dflt lo hi offs, len)) (hx1 : ¬ x.toInt < lo) (hx2 : ¬ hi < x.toInt) (ho : offs[(x.toInt - lo).toNat]? = some off) (ht : (pc : Int) + off = (tgt : Int)) (k : AW V I R Qf n0 z0 tgt lv st h n z) : AW V I R Qf n0 z0 pc lv (.int x :: st) h n z := by
  intro p l e s m args below meth c H locs ls X hS hP hL h1 h2 h3 h4
  exact lv_tableIn X.1 X.2.1 dg hx1 hx2 ho ht (k p l e s m args below meth c H locs ls X hS hP hL h1 h2 h3 h4)
theorem a_ldc {i : Nat} {v : Int32} (dg : decode I.2.1 pc = .ok (.ldc i, 2)) (hw : Cond.constant I.1.cls i v ∈ WT) (k : AW V I R Qf n0 z0 (pc + 2) lv (.int v :: st) h n z) : AW V I R Qf n0 z0 pc lv st h n z := by
  intro p l e s m args below meth c H locs ls X hS hP hL h1 h2 h3 h4
  exact lv_ldc X.1 X.2.1 X.2.2.2.1 (X.2.2.2.2.1 _ hw) dg (k p l e s m args below meth c H locs ls X hS hP hL h1 h2 h3 h4)
theorem a_ldc2 {i : Nat} {v : Int64} (dg : decode I.2.1 pc = .ok (.ldc2_w i, 3)) (hw : Cond.constantLong I.1.cls i v ∈ WT) (k : AW V I R Qf n0 z0 (pc + 3) lv (.long v :: st) h n z) : AW V I R Qf n0 z0 pc lv st h n z := by
  intro p l e s m args below meth c H locs ls X hS hP hL h1 h2 h3 h4
  exact lv_ldc2 X.1 X.2.1 X.2.2.2.1 (X.2.2.2.2.1 _ hw) dg (k p l e s m args below meth c H locs ls X hS hP hL h1 h2 h3 h4)
end AWRows
