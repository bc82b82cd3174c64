/-! WHAT A SIDE FILLS, dot by dot -/
/-- whether the side from (x1, y1) to (x2, y2) passes left of (cx, cy), in its row -/
def crZ (x1 y1 x2 y2 cx cy : Int) : Bool :=
  if y1 < cy ∧ cy ≤ y2 then decide ((cy - y1) * (x2 - x1) < (cx - x1) * (y2 - y1))
  else if y2 < cy ∧ cy ≤ y1 then decide ((cy - y2) * (x1 - x2) < (cx - x2) * (y1 - y2)) else false
def Sm (a : Int) : Prop := -1000 ≤ a ∧ a ≤ 1000
theorem prod_b {a b : Int} (ha : -2000 ≤ a ∧ a ≤ 2000) (hb : -2000 ≤ b ∧ b ≤ 2000) : -4000000 ≤ a * b ∧ a * b ≤ 4000000 := mul_b (m := 2000) ha hb (by omega)
theorem colP_i {x y x2 y2 mid : Int} (h1 : Sm x) (h2 : Sm y) (h3 : Sm x2) (h4 : Sm y2) (h5 : Sm mid) {c : Nat} (hc : c < 20) : colP (iI x) (iI y) (iI x2) (iI y2) (iI mid) c = decide ((mid - y) * (x2 - x) < (32 * (c : Int) + 16 - x) * (y2 - y)) := by
  unfold Sm at *
  have p1 := prod_b (a := mid - y) (b := x2 - x) (by omega) (by omega)
  have p2 := prod_b (a := 32 * (c : Int) + 16 - x) (b := y2 - y) (by omega) (by omega)
  unfold colP
  rw [iI_nat, show (32 : Int32) = iI 32 from by decide, show (16 : Int32) = iI 16 from by decide, iI_mul, iI_add, iI_sub, iI_sub, iI_sub, iI_sub, iI_mul, iI_mul]
  exact decide_eq_decide.mpr (iI_lt (by omega) (by omega) (by omega) (by omega))
theorem fFall_i {x y x2 y2 : Int} (h1 : Sm x) (h2 : Sm y) (h3 : Sm x2) (h4 : Sm y2) {X Y : Nat} (hX : X < 8) (hY : Y < 8) : ∀ r, r ≤ 8 → lb (fFall (iI x) (iI y) (iI x2) (iI y2) r) (8 * Y + X) = (decide (Y < r) && (decide (y < 32 * (Y : Int) + 16 ∧ 32 * (Y : Int) + 16 ≤ y2) && decide ((32 * (Y : Int) + 16 - y) * (x2 - x) < (32 * (X : Int) + 16 - x) * (y2 - y))))
  | 0, _ => by
    rw [show fFall (iI x) (iI y) (iI x2) (iI y2) 0 = 0 from rfl, lb_0]
    simp
  | r + 1, hr => by
    have ih := fFall_i h1 h2 h3 h4 hX hY r (by omega)
    have em : (32 : Int32) * nI r + 16 = iI (32 * (r : Int) + 16) := by
      rw [iI_nat, show (32 : Int32) = iI 32 from by decide, show (16 : Int32) = iI 16 from by decide, iI_mul, iI_add]
    have e : fFall (iI x) (iI y) (iI x2) (iI y2) (r + 1) = if iI y < iI (32 * (r : Int) + 16) then (if iI y2 < iI (32 * (r : Int) + 16) then fFall (iI x) (iI y) (iI x2) (iI y2) r else fFall (iI x) (iI y) (iI x2) (iI y2) r ||| gRow (nI (fCol (iI x) (iI y) (iI x2) (iI y2) (iI (32 * (r : Int) + 16)))) (nI r)) else fFall (iI x) (iI y) (iI x2) (iI y2) r := by
      rw [← em]; rfl
    unfold Sm at *
    have c1 : iI y < iI (32 * (r : Int) + 16) ↔ y < 32 * (r : Int) + 16 := iI_lt (by omega) (by omega) (by omega) (by omega)
    have c2 : iI y2 < iI (32 * (r : Int) + 16) ↔ y2 < 32 * (r : Int) + 16 := iI_lt (by omega) (by omega) (by omega) (by omega)
    have skip : Y ≠ r → (decide (Y < r) && (decide (y < 32 * (Y : Int) + 16 ∧ 32 * (Y : Int) + 16 ≤ y2) && decide ((32 * (Y : Int) + 16 - y) * (x2 - x) < (32 * (X : Int) + 16 - x) * (y2 - y)))) = (decide (Y < r + 1) && (decide (y < 32 * (Y : Int) + 16 ∧ 32 * (Y : Int) + 16 ≤ y2) && decide ((32 * (Y : Int) + 16 - y) * (x2 - x) < (32 * (X : Int) + 16 - x) * (y2 - y)))) := fun q => by
      congr 1
      exact decide_eq_decide.mpr (by omega)
    rw [e]
    by_cases a1 : y < 32 * (r : Int) + 16
    · rw [if_pos (c1.mpr a1)]
      by_cases a2 : y2 < 32 * (r : Int) + 16
      · rw [if_pos (c2.mpr a2), ih]
        by_cases q : Y = r
        · subst q
          rw [decide_eq_false (show ¬ Y < Y by omega), decide_eq_false (show ¬ (y < 32 * (Y : Int) + 16 ∧ 32 * (Y : Int) + 16 ≤ y2) by omega)]
          simp
        · exact skip q
      · rw [if_neg (fun q => a2 (c2.mp q)), lb_or, ih]
        obtain ⟨fc, efc⟩ : ∃ fc, fc = fCol (iI x) (iI y) (iI x2) (iI y2) (iI (32 * (r : Int) + 16)) := ⟨_, rfl⟩
        have hfc : fc ≤ 8 := by rw [efc]; exact fst1_le _ _
        rw [← efc]
        have eg : lb (gRow (nI fc) (nI r)) (8 * Y + X) = decide (Y = r ∧ fc ≤ X) := by
          rcases Nat.lt_or_ge fc 8 with q | q
          · rw [iI_nat, iI_nat r, gRow_in q (by omega)]
            exact decide_eq_decide.mpr (by omega)
          · rw [iI_nat, iI_nat r, gRow_out (by omega) (by omega) (by omega), lb_0]
            exact (decide_eq_false (by omega)).symm
        rw [eg]
        by_cases q : Y = r
        · subst q
          rw [decide_eq_false (show ¬ Y < Y by omega), decide_eq_true (show Y < Y + 1 by omega), decide_eq_true (show y < 32 * (Y : Int) + 16 ∧ 32 * (Y : Int) + 16 ≤ y2 by omega)]
          simp only [Bool.false_and, Bool.false_or, Bool.true_and]
          refine decide_eq_decide.mpr ⟨fun k => ?_, fun k => ⟨trivial, ?_⟩⟩
          · have hlt : fc < 8 := by omega
            have hy := fst1_yes (colP (iI x) (iI y) (iI x2) (iI y2) (iI (32 * (Y : Int) + 16))) 8 (by rw [efc] at hlt; exact hlt)
            have hy' : colP (iI x) (iI y) (iI x2) (iI y2) (iI (32 * (Y : Int) + 16)) fc = true := by rw [efc]; exact hy
            rw [colP_i (by unfold Sm; omega) (by unfold Sm; omega) (by unfold Sm; omega) (by unfold Sm; omega) (by unfold Sm; omega) (by omega)] at hy'
            have hy2 := of_decide_eq_true hy'
            have mono := Int.mul_le_mul_of_nonneg_right (show 32 * (fc : Int) + 16 - x ≤ 32 * (X : Int) + 16 - x by omega) (show 0 ≤ y2 - y by omega)
            omega
          · rw [efc]
            refine fst1_ex (colP (iI x) (iI y) (iI x2) (iI y2) (iI (32 * (Y : Int) + 16))) hX ?_
            rw [colP_i (by unfold Sm; omega) (by unfold Sm; omega) (by unfold Sm; omega) (by unfold Sm; omega) (by unfold Sm; omega) (by omega)]
            exact decide_eq_true k
        · rw [decide_eq_false (show ¬ (Y = r ∧ fc ≤ X) from fun k => q k.1), Bool.or_false]
          exact skip q
    · rw [if_neg (fun q => a1 (c1.mp q)), ih]
      by_cases q : Y = r
      · subst q
        rw [decide_eq_false (show ¬ Y < Y by omega), decide_eq_false (show ¬ (y < 32 * (Y : Int) + 16 ∧ 32 * (Y : Int) + 16 ≤ y2) by omega)]
        simp
      · exact skip q
theorem fRO_cr {x1 y1 x2 y2 : Int} (h1 : Sm x1) (h2 : Sm y1) (h3 : Sm x2) (h4 : Sm y2) {X Y : Nat} (hX : X < 8) (hY : Y < 8) : lb (fRO (iI x1) (iI y1) (iI x2) (iI y2)) (8 * Y + X) = crZ x1 y1 x2 y2 (32 * (X : Int) + 16) (32 * (Y : Int) + 16) := by
  have a := h2
  have b := h4
  unfold Sm at a b
  have c : iI y1 ≤ iI y2 ↔ y1 ≤ y2 := iI_le (by omega) (by omega) (by omega) (by omega)
  unfold fRO crZ
  by_cases q : y1 ≤ y2
  · rw [if_pos (c.mpr q), fFall_i h1 h2 h3 h4 hX hY 8 (Nat.le_refl _), decide_eq_true hY, Bool.true_and]
    by_cases d : y1 < 32 * (Y : Int) + 16 ∧ 32 * (Y : Int) + 16 ≤ y2
    · rw [if_pos d, decide_eq_true d, Bool.true_and]
    · rw [if_neg d, decide_eq_false d, Bool.false_and, if_neg (by omega)]
  · rw [if_neg (fun k => q (c.mp k)), fFall_i h3 h4 h1 h2 hX hY 8 (Nat.le_refl _), decide_eq_true hY, Bool.true_and]
    by_cases d : y2 < 32 * (Y : Int) + 16 ∧ 32 * (Y : Int) + 16 ≤ y1
    · rw [if_pos d, decide_eq_true d, Bool.true_and, if_neg (by omega)]
    · rw [if_neg d, decide_eq_false d, Bool.false_and, if_neg (by omega)]
/-- the same, as the model reckons it -/
def mcr (x1 y1 x2 y2 cx cy : Int32) : Int32 :=
  if (if cy ≤ y1 then (0 : Int32) else 1) = (if cy ≤ y2 then 0 else 1) then 0
  else if y2 - y1 ≤ 0 then (if (x1 - cx) * (y2 - y1) + (cy - y1) * (x2 - x1) ≤ 0 then 0 else 1)
  else if 0 ≤ (x1 - cx) * (y2 - y1) + (cy - y1) * (x2 - x1) then 0 else 1
theorem cross_id (x1 y1 x2 y2 cx cy : Int) : (x1 - cx) * (y2 - y1) + (cy - y1) * (x2 - x1) = (cx - x2) * (y1 - y2) - (cy - y2) * (x1 - x2) := by
  simp only [Int.mul_sub, Int.sub_mul]
  rw [Int.mul_comm y1 x2, Int.mul_comm y1 x1, Int.mul_comm y2 x1, Int.mul_comm y2 x2]
  omega
theorem mcr_i {x1 y1 x2 y2 cx cy : Int} (h1 : Sm x1) (h2 : Sm y1) (h3 : Sm x2) (h4 : Sm y2) (h5 : Sm cx) (h6 : Sm cy) : mcr (iI x1) (iI y1) (iI x2) (iI y2) (iI cx) (iI cy) = if crZ x1 y1 x2 y2 cx cy then 1 else 0 := by
  unfold Sm at *
  have p1 := prod_b (a := x1 - cx) (b := y2 - y1) (by omega) (by omega)
  have p2 := prod_b (a := cy - y1) (b := x2 - x1) (by omega) (by omega)
  have p3 : (x1 - cx) * (y2 - y1) = -((cx - x1) * (y2 - y1)) := by rw [← Int.neg_mul]; congr 1; omega
  have ci := cross_id x1 y1 x2 y2 cx cy
  have c1 : iI cy ≤ iI y1 ↔ cy ≤ y1 := iI_le (by omega) (by omega) (by omega) (by omega)
  have c2 : iI cy ≤ iI y2 ↔ cy ≤ y2 := iI_le (by omega) (by omega) (by omega) (by omega)
  unfold mcr
  rw [iI_sub, iI_sub, iI_mul, iI_sub, iI_sub, iI_mul, iI_add, iI_0]
  have c3 : iI (y2 - y1) ≤ iI 0 ↔ y2 - y1 ≤ 0 := iI_le (by omega) (by omega) (by omega) (by omega)
  have c4 : iI ((x1 - cx) * (y2 - y1) + (cy - y1) * (x2 - x1)) ≤ iI 0 ↔ (x1 - cx) * (y2 - y1) + (cy - y1) * (x2 - x1) ≤ 0 := iI_le (by omega) (by omega) (by omega) (by omega)
  have c5 : iI 0 ≤ iI ((x1 - cx) * (y2 - y1) + (cy - y1) * (x2 - x1)) ↔ 0 ≤ (x1 - cx) * (y2 - y1) + (cy - y1) * (x2 - x1) := iI_le (by omega) (by omega) (by omega) (by omega)
  unfold crZ
  by_cases a1 : cy ≤ y1
  · by_cases a2 : cy ≤ y2
    · rw [if_pos (c1.mpr a1), if_pos (c2.mpr a2), if_pos rfl, if_neg (show ¬ (y1 < cy ∧ cy ≤ y2) by omega), if_neg (show ¬ (y2 < cy ∧ cy ≤ y1) by omega)]; rfl
    · rw [if_pos (c1.mpr a1), if_neg (fun q => a2 (c2.mp q)), if_neg (by decide), if_pos (c3.mpr (by omega)), if_neg (show ¬ (y1 < cy ∧ cy ≤ y2) by omega), if_pos (show y2 < cy ∧ cy ≤ y1 by omega)]
      by_cases d : (cy - y2) * (x1 - x2) < (cx - x2) * (y1 - y2)
      · rw [decide_eq_true d, if_neg (fun q => by have := c4.mp q; omega)]; rfl
      · rw [decide_eq_false d, if_pos (c4.mpr (by omega))]; rfl
  · by_cases a2 : cy ≤ y2
    · rw [if_neg (fun q => a1 (c1.mp q)), if_pos (c2.mpr a2), if_neg (by decide), if_neg (fun q => by have := c3.mp q; omega), if_pos (show y1 < cy ∧ cy ≤ y2 by omega)]
      by_cases d : (cy - y1) * (x2 - x1) < (cx - x1) * (y2 - y1)
      · rw [decide_eq_true d, if_neg (fun q => by have := c5.mp q; omega)]; rfl
      · rw [decide_eq_false d, if_pos (c5.mpr (by omega))]; rfl
    · rw [if_neg (fun q => a1 (c1.mp q)), if_neg (fun q => a2 (c2.mp q)), if_pos rfl, if_neg (show ¬ (y1 < cy ∧ cy ≤ y2) by omega), if_neg (show ¬ (y2 < cy ∧ cy ≤ y1) by omega)]; rfl
/-- right of a polygon a side only tells that it passes the row -/
theorem crZ_far {x1 y1 x2 y2 cx cy : Int} (h1 : x1 < cx) (h2 : x2 < cx) : crZ x1 y1 x2 y2 cx cy = (decide (y1 < cy) ^^ decide (y2 < cy)) := by
  unfold crZ
  by_cases a : y1 < cy ∧ cy ≤ y2
  · rw [if_pos a, decide_eq_true a.1, decide_eq_false (show ¬ y2 < cy by omega)]
    refine decide_eq_true ?_
    rcases (show x2 - x1 ≤ 0 ∨ 0 < x2 - x1 by omega) with q | q
    · have m1 := Int.mul_nonneg (show 0 ≤ cy - y1 by omega) (show 0 ≤ x1 - x2 by omega)
      have m2 := Int.mul_pos (show 0 < cx - x1 by omega) (show 0 < y2 - y1 by omega)
      have e : (cy - y1) * (x2 - x1) = -((cy - y1) * (x1 - x2)) := by rw [← Int.mul_neg]; congr 1; omega
      omega
    · have m1 := Int.mul_le_mul_of_nonneg_right (show cy - y1 ≤ y2 - y1 by omega) (show 0 ≤ x2 - x1 by omega)
      have m2 := Int.mul_lt_mul_of_pos_right (show x2 - x1 < cx - x1 by omega) (show 0 < y2 - y1 by omega)
      rw [Int.mul_comm (y2 - y1) (x2 - x1)] at m1
      omega
  · rw [if_neg a]
    by_cases b : y2 < cy ∧ cy ≤ y1
    · rw [if_pos b, decide_eq_true b.1, decide_eq_false (show ¬ y1 < cy by omega)]
      refine decide_eq_true ?_
      rcases (show x1 - x2 ≤ 0 ∨ 0 < x1 - x2 by omega) with q | q
      · have m1 := Int.mul_nonneg (show 0 ≤ cy - y2 by omega) (show 0 ≤ x2 - x1 by omega)
        have m2 := Int.mul_pos (show 0 < cx - x2 by omega) (show 0 < y1 - y2 by omega)
        have e : (cy - y2) * (x1 - x2) = -((cy - y2) * (x2 - x1)) := by rw [← Int.mul_neg]; congr 1; omega
        omega
      · have m1 := Int.mul_le_mul_of_nonneg_right (show cy - y2 ≤ y1 - y2 by omega) (show 0 ≤ x1 - x2 by omega)
        have m2 := Int.mul_lt_mul_of_pos_right (show x1 - x2 < cx - x2 by omega) (show 0 < y1 - y2 by omega)
        rw [Int.mul_comm (y1 - y2) (x1 - x2)] at m1
        omega
    · rw [if_neg b]
      rcases (show y1 < cy ∨ cy ≤ y1 by omega) with q1 | q1 <;> rcases (show y2 < cy ∨ cy ≤ y2 by omega) with q2 | q2
      · rw [decide_eq_true q1, decide_eq_true q2]; rfl
      · omega
      · omega
      · rw [decide_eq_false (show ¬ y1 < cy by omega), decide_eq_false (show ¬ y2 < cy by omega)]; rfl
/-- below a polygon nothing is passed -/
theorem crZ_low {x1 y1 x2 y2 cx cy : Int} (h1 : y1 < cy) (h2 : y2 < cy) : crZ x1 y1 x2 y2 cx cy = false := by
  unfold crZ
  rw [if_neg (by omega), if_neg (by omega)]
