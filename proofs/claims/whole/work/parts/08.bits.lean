/-! longs by their bits -/
def lb (x : Int64) (k : Nat) : Bool := x.toBitVec.getLsbD k
theorem lb_ext {x y : Int64} (h : ∀ k, k < 64 → lb x k = lb y k) : x = y := Int64.toBitVec_inj.mp (BitVec.eq_of_getLsbD_eq (fun i hi => h i hi))
theorem lb_xor (x y : Int64) (k : Nat) : lb (x ^^^ y) k = (lb x k ^^ lb y k) := by unfold lb; rw [Int64.toBitVec_xor, BitVec.getLsbD_xor]
theorem lb_and (x y : Int64) (k : Nat) : lb (x &&& y) k = (lb x k && lb y k) := by unfold lb; rw [Int64.toBitVec_and, BitVec.getLsbD_and]
theorem lb_or (x y : Int64) (k : Nat) : lb (x ||| y) k = (lb x k || lb y k) := by unfold lb; rw [Int64.toBitVec_or, BitVec.getLsbD_or]
theorem lb_big {x : Int64} {k : Nat} (h : 64 ≤ k) : lb x k = false := BitVec.getLsbD_of_ge _ _ h
theorem lb_0 (k : Nat) : lb 0 k = false := BitVec.getLsbD_zero
theorem lb_1 (k : Nat) : lb 1 k = decide (k = 0) := by
  rcases Nat.lt_or_ge k 64 with h | h
  · exact (by decide +kernel : ∀ i, i < 64 → lb 1 i = decide (i = 0)) k h
  · rw [lb_big h, decide_eq_false (by omega)]
theorem lb_255 (k : Nat) : lb 255 k = decide (k < 8) := by
  rcases Nat.lt_or_ge k 64 with h | h
  · exact (by decide +kernel : ∀ i, i < 64 → lb 255 i = decide (i < 8)) k h
  · rw [lb_big h, decide_eq_false (by omega)]
theorem lb_m1 {k : Nat} (h : k < 64) : lb (-1) k = true := (by decide +kernel : ∀ k, k < 64 → lb (-1) k = true) k h
theorem lb_not (x : Int64) {k : Nat} (h : k < 64) : lb (x ^^^ (-1)) k = !lb x k := by rw [lb_xor, lb_m1 h, Bool.xor_true]
theorem ls_l : ∀ n, n < 64 → (((nI n).toInt64 &&& 63).toBitVec.smod 64).toNat = n := by decide +kernel
theorem ls_u : ∀ n, n < 64 → (((nI n).toInt64.toUInt64 &&& Int64.toUInt64 63).toBitVec % 64).toNat = n := by decide +kernel
theorem lb_shl (n : Nat) (hn : n < 64) (x : Int64) {k : Nat} (hk : k < 64) : lb (x <<< ((nI n).toInt64 &&& 63)) k = (decide (n ≤ k) && lb x (k - n)) := by
  unfold lb
  rw [Int64.toBitVec_shiftLeft]
  show (x.toBitVec <<< (((nI n).toInt64 &&& 63).toBitVec.smod 64).toNat).getLsbD k = _
  rw [ls_l n hn, BitVec.getLsbD_shiftLeft]
  rcases Nat.lt_or_ge k n with h | h
  · simp [h, Nat.not_le.mpr h]
  · simp [hk, h, Nat.not_lt.mpr h]
theorem lb_ushr (n : Nat) (hn : n < 64) (x : Int64) (k : Nat) : lb ((x.toUInt64 >>> ((nI n).toInt64.toUInt64 &&& Int64.toUInt64 63)).toInt64) k = lb x (n + k) := by
  show (x.toUInt64 >>> ((nI n).toInt64.toUInt64 &&& Int64.toUInt64 63)).toBitVec.getLsbD k = x.toUInt64.toBitVec.getLsbD (n + k)
  rw [UInt64.toBitVec_shiftRight]
  show (x.toUInt64.toBitVec >>> (((nI n).toInt64.toUInt64 &&& Int64.toUInt64 63).toBitVec % 64).toNat).getLsbD k = _
  rw [ls_u n hn, BitVec.getLsbD_ushiftRight]
theorem lb_shr (n : Nat) (hn : n < 64) (x : Int64) {k : Nat} (hk : k < 64) : lb (x >>> ((nI n).toInt64 &&& 63)) k = if n + k < 64 then lb x (n + k) else lb x 63 := by
  unfold lb
  rw [Int64.toBitVec_shiftRight]
  show (x.toBitVec.sshiftRight (((nI n).toInt64 &&& 63).toBitVec.smod 64).toNat).getLsbD k = _
  rw [ls_l n hn, BitVec.getLsbD_sshiftRight, BitVec.msb_eq_getLsbD_last]
  simp [hk]
theorem lb_eq0 {x : Int64} : x = 0 ↔ ∀ k, k < 64 → lb x k = false := by
  constructor
  · intro h k _; rw [h]; exact lb_0 k
  · intro h; exact lb_ext fun k hk => by rw [h k hk, lb_0]
/-- one bit by >>> and 1 -/
theorem lb_pickU (n : Nat) (hn : n < 64) (x : Int64) : (x.toUInt64 >>> ((nI n).toInt64.toUInt64 &&& Int64.toUInt64 63)).toInt64 &&& 1 = if lb x n then 1 else 0 := by
  apply lb_ext
  intro k hk
  rw [lb_and, lb_ushr n hn, lb_1]
  by_cases h0 : k = 0
  · subst h0
    cases hx : lb x n <;> simp [hx, lb_0, lb_1]
  · cases hx : lb x n <;> simp [h0, lb_0, lb_1]
theorem lb_pickS (n : Nat) (hn : n < 64) (x : Int64) : (x >>> ((nI n).toInt64 &&& 63)) &&& 1 = if lb x n then 1 else 0 := by
  apply lb_ext
  intro k hk
  rw [lb_and, lb_shr n hn x hk, lb_1]
  by_cases h0 : k = 0
  · subst h0
    cases hx : lb x n <;> simp [hx, lb_0, lb_1, hn]
  · cases hx : lb x n <;> simp [h0, lb_0, lb_1]
theorem lb_one_shl (n : Nat) (hn : n < 64) (k : Nat) : lb ((1 : Int64) <<< ((nI n).toInt64 &&& 63)) k = decide (k = n) := by
  rcases Nat.lt_or_ge k 64 with hk | hk
  · rw [lb_shl n hn 1 hk, lb_1]
    rcases Nat.lt_trichotomy k n with q | q | q
    · simp [show ¬ n ≤ k by omega, show k ≠ n by omega]
    · simp [q]
    · simp [show ¬ k - n = 0 by omega, show k ≠ n by omega]
  · rw [lb_big hk, decide_eq_false (by omega)]
theorem cmp0 {x y : Int64} : lg_cmp x y = 0 ↔ x = y := by
  unfold lg_cmp
  by_cases h1 : y < x
  · simp [h1]
    rintro rfl
    exact Int64.lt_irrefl h1
  · by_cases h2 : x = y
    · subst h2; simp
    · simp [h1, h2]
theorem cmpN {x y : Int64} : ¬ lg_cmp x y = 0 ↔ ¬ x = y := not_congr cmp0
/-! a dot's bit, a row's bits -/
def gBit (x y : Int32) : Int64 := if x < 0 then 0 else if 8 ≤ x then 0 else if y < 0 then 0 else if y < 8 then 1 <<< ((8 * y + x).toInt64 &&& 63) else 0
def gRow (x y : Int32) : Int64 := if x < 0 then 0 else if 8 ≤ x then 0 else if y < 0 then 0 else if y < 8 then (((255 : Int64) <<< (x.toInt64 &&& 63)) &&& 255) <<< ((8 * y).toInt64 &&& 63) else 0
theorem gBit_out {x y : Int} (hx : -2147483648 ≤ x ∧ x < 2147483648) (hy : -2147483648 ≤ y ∧ y < 2147483648) (h : x < 0 ∨ 8 ≤ x ∨ y < 0 ∨ 8 ≤ y) : gBit (iI x) (iI y) = 0 := by
  unfold gBit
  split
  · rfl
  · rename_i c1
    split
    · rfl
    · rename_i c2
      split
      · rfl
      · rename_i c3
        split
        · rename_i c4
          exfalso
          rw [iI_0, iI_lt hx.1 hx.2 (by omega) (by omega)] at c1
          rw [iI_lit 8, iI_le (by omega) (by omega) hx.1 hx.2] at c2
          rw [iI_0, iI_lt hy.1 hy.2 (by omega) (by omega)] at c3
          rw [iI_lit 8, iI_lt hy.1 hy.2 (by omega) (by omega)] at c4
          omega
        · rfl
theorem gRow_out {x y : Int} (hx : -2147483648 ≤ x ∧ x < 2147483648) (hy : -2147483648 ≤ y ∧ y < 2147483648) (h : x < 0 ∨ 8 ≤ x ∨ y < 0 ∨ 8 ≤ y) : gRow (iI x) (iI y) = 0 := by
  unfold gRow
  split
  · rfl
  · rename_i c1
    split
    · rfl
    · rename_i c2
      split
      · rfl
      · rename_i c3
        split
        · rename_i c4
          exfalso
          rw [iI_0, iI_lt hx.1 hx.2 (by omega) (by omega)] at c1
          rw [iI_lit 8, iI_le (by omega) (by omega) hx.1 hx.2] at c2
          rw [iI_0, iI_lt hy.1 hy.2 (by omega) (by omega)] at c3
          rw [iI_lit 8, iI_lt hy.1 hy.2 (by omega) (by omega)] at c4
          omega
        · rfl
theorem gBit_in {x y : Nat} (hx : x < 8) (hy : y < 8) (k : Nat) : lb (gBit (iI x) (iI y)) k = decide (k = 8 * y + x) := by
  unfold gBit
  rw [iI_0, iI_lit 8, if_neg (by rw [iI_lt (by omega) (by omega) (by omega) (by omega)]; omega), if_neg (by rw [iI_le (by omega) (by omega) (by omega) (by omega)]; omega), if_neg (by rw [iI_lt (by omega) (by omega) (by omega) (by omega)]; omega), if_pos (by rw [iI_lt (by omega) (by omega) (by omega) (by omega)]; omega)]
  rw [iI_mul, iI_add, show ((8 : Nat) : Int) * (y : Int) + (x : Int) = ((8 * y + x : Nat) : Int) by omega, ← iI_nat]
  exact lb_one_shl _ (by omega) k
theorem gRow_in {x y : Nat} (hx : x < 8) (hy : y < 8) (k : Nat) : lb (gRow (iI x) (iI y)) k = decide (k / 8 = y ∧ x ≤ k % 8) := by
  unfold gRow
  rw [iI_0, iI_lit 8, if_neg (by rw [iI_lt (by omega) (by omega) (by omega) (by omega)]; omega), if_neg (by rw [iI_le (by omega) (by omega) (by omega) (by omega)]; omega), if_neg (by rw [iI_lt (by omega) (by omega) (by omega) (by omega)]; omega), if_pos (by rw [iI_lt (by omega) (by omega) (by omega) (by omega)]; omega)]
  rw [iI_mul, show ((8 : Nat) : Int) * (y : Int) = ((8 * y : Nat) : Int) by omega, ← iI_nat, ← iI_nat]
  rcases Nat.lt_or_ge k 64 with hk | hk
  · rw [lb_shl _ (by omega) _ hk, lb_and, lb_255]
    by_cases h1 : 8 * y ≤ k
    · by_cases h2 : k - 8 * y < 64
      · rw [lb_shl _ (by omega) _ h2, lb_255]
        by_cases h3 : k / 8 = y ∧ x ≤ k % 8
        · rw [decide_eq_true h3, decide_eq_true h1, decide_eq_true (show x ≤ k - 8 * y by omega), decide_eq_true (show k - 8 * y - x < 8 by omega), decide_eq_true (show k - 8 * y < 8 by omega)]
          rfl
        · rw [decide_eq_false h3]
          by_cases h4 : k - 8 * y < 8
          · have : ¬ x ≤ k - 8 * y := by omega
            simp [this]
          · simp [h4]
      · omega
    · have h3 : ¬ (k / 8 = y ∧ x ≤ k % 8) := by omega
      rw [decide_eq_false h3]
      simp [h1]
  · have h3 : ¬ (k / 8 = y ∧ x ≤ k % 8) := by omega
    rw [lb_big hk, decide_eq_false h3]
