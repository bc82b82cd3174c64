def fAbs (x : Int32) : Int32 := if 0 ≤ x then x else -x
def fMax (x y : Int32) : Int32 := if x < y then y else x
def fMin (x y : Int32) : Int32 := if y < x then y else x
/-! Math.max, min, abs: rows of the kit -/
section AWMath
variable {V : VV} {I : MI} {R : Room} {Qf : QF} {n0 z0 pc : Nat} {lv : List (Option Value)} {st : List Value} {h : AH} {n z : Nat}
theorem w_max1 : Cond.static Lib.Math.max.name ∈ WT := wt_t 342 (by decide +kernel) (by decide +kernel)
theorem w_max2 : Cond.code Lib.Math.max.name Lib.Math.max.code 2 (some .int) ∈ WT := wt_t 343 (by decide +kernel) (by decide +kernel)
theorem a_max {idx : Nat} {x y : Int32} (dg : decode I.2.1 pc = .ok (.invokestatic idx, 3)) (ml : Cond.methodLink I.1.cls idx Lib.Math.max.name ∈ WT) (hf : 1 ≤ R.frames) (hl : 21 ≤ R.locals) (h8 : (st.map fun v => v.category).sum ≤ 8) (k : AW V I R Qf n0 z0 (pc + 3) lv (.int (fMax x y) :: st) h n z) : AW V I R Qf n0 z0 pc lv (.int y :: .int x :: st) h n z := by
  intro p l e s m args below meth c H locs ls X hS hP hL h1 h2 h3 h4
  have hts := X.2.2.2.2.1
  have e8 : ((st.map (coV V)).map (fun v => v.category)) = st.map (fun v => v.category) := by
    rw [List.map_map]
    exact List.map_congr_left (fun v _ => coV_cat V v)
  have K := k p l e s m args below meth c H locs ls X hS hP hL h1 h2 h3 h4
  refine va_mmax X.1 X.2.1 (X.2.2.1.trans hL.1.symm) X.2.2.2.1 (hts _ ml) (hts _ w_max1) (hts _ z_Mth) (hts _ w_max2) hf (by rw [e8]; omega) (by omega) (by omega) dg ?_
  exact K
theorem w_min1 : Cond.static Lib.Math.min.name ∈ WT := wt_t 545 (by decide +kernel) (by decide +kernel)
theorem w_min2 : Cond.code Lib.Math.min.name Lib.Math.min.code 2 (some .int) ∈ WT := wt_t 546 (by decide +kernel) (by decide +kernel)
theorem a_min {idx : Nat} {x y : Int32} (dg : decode I.2.1 pc = .ok (.invokestatic idx, 3)) (ml : Cond.methodLink I.1.cls idx Lib.Math.min.name ∈ WT) (hf : 1 ≤ R.frames) (hl : 21 ≤ R.locals) (h8 : (st.map fun v => v.category).sum ≤ 8) (k : AW V I R Qf n0 z0 (pc + 3) lv (.int (fMin x y) :: st) h n z) : AW V I R Qf n0 z0 pc lv (.int y :: .int x :: st) h n z := by
  intro p l e s m args below meth c H locs ls X hS hP hL h1 h2 h3 h4
  have hts := X.2.2.2.2.1
  have e8 : ((st.map (coV V)).map (fun v => v.category)) = st.map (fun v => v.category) := by
    rw [List.map_map]
    exact List.map_congr_left (fun v _ => coV_cat V v)
  have K := k p l e s m args below meth c H locs ls X hS hP hL h1 h2 h3 h4
  refine va_mmin X.1 X.2.1 (X.2.2.1.trans hL.1.symm) X.2.2.2.1 (hts _ ml) (hts _ w_min1) (hts _ z_Mth) (hts _ w_min2) hf (by rw [e8]; omega) (by omega) (by omega) dg ?_
  exact K
theorem w_abs1 : Cond.static Lib.Math.abs.name ∈ WT := wt_t 527 (by decide +kernel) (by decide +kernel)
theorem w_abs2 : Cond.code Lib.Math.abs.name Lib.Math.abs.code 1 (some .int) ∈ WT := wt_t 528 (by decide +kernel) (by decide +kernel)
theorem a_abs {idx : Nat} {x : Int32} (dg : decode I.2.1 pc = .ok (.invokestatic idx, 3)) (ml : Cond.methodLink I.1.cls idx Lib.Math.abs.name ∈ WT) (hf : 1 ≤ R.frames) (hl : 21 ≤ R.locals) (h8 : (st.map fun v => v.category).sum ≤ 8) (k : AW V I R Qf n0 z0 (pc + 3) lv (.int (fAbs x) :: st) h n z) : AW V I R Qf n0 z0 pc lv (.int x :: st) h n z := by
  intro p l e s m args below meth c H locs ls X hS hP hL h1 h2 h3 h4
  have hts := X.2.2.2.2.1
  have e8 : ((st.map (coV V)).map (fun v => v.category)) = st.map (fun v => v.category) := by
    rw [List.map_map]
    exact List.map_congr_left (fun v _ => coV_cat V v)
  have K := k p l e s m args below meth c H locs ls X hS hP hL h1 h2 h3 h4
  refine va_mabs X.1 X.2.1 (X.2.2.1.trans hL.1.symm) X.2.2.2.1 (hts _ ml) (hts _ w_abs1) (hts _ z_Mth) (hts _ w_abs2) hf (by rw [e8]; omega) (by omega) (by omega) dg ?_
  have e0 : (if 0 ≤ x then x else 0 - x) = fAbs x := by unfold fAbs; rw [Int32.zero_sub]
  rw [e0]
  exact K
end AWMath
