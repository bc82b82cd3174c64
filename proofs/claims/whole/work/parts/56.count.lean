/-! HOW MANY BITS: the class's way of counting them counts them -/
def Sd (B : Nat) : Nat → (Nat → Nat) → Nat
  | 0, _ => 0
  | n + 1, g => g 0 + B * Sd B n (fun k => g (k + 1))
theorem Sd_add (B : Nat) : ∀ n f g, Sd B n f + Sd B n g = Sd B n (fun k => f k + g k)
  | 0, _, _ => rfl
  | n + 1, f, g => by
    simp only [Sd]
    rw [← Sd_add B n (fun k => f (k + 1)) (fun k => g (k + 1)), Nat.mul_add]
    omega
theorem Sd_cg (B : Nat) : ∀ {n f g}, (∀ k, k < n → f k = g k) → Sd B n f = Sd B n g
  | 0, _, _, _ => rfl
  | n + 1, f, g, h => by
    simp only [Sd]
    rw [h 0 (by omega), Sd_cg B (n := n) (f := fun k => f (k + 1)) (g := fun k => g (k + 1)) (fun k hk => h (k + 1) (by omega))]
theorem Sd_0 (B : Nat) : ∀ n, Sd B n (fun _ => 0) = 0
  | 0 => rfl
  | n + 1 => by simp only [Sd]; rw [Sd_0 B n]; simp
theorem Sd_pair (B : Nat) : ∀ n g, Sd B (2 * n) g = Sd (B * B) n (fun k => g (2 * k) + B * g (2 * k + 1))
  | 0, _ => rfl
  | n + 1, g => by
    have ih := Sd_pair B n (fun k => g (k + 1 + 1))
    show Sd B (2 * n + 1 + 1) g = _
    simp only [Sd]
    rw [ih]
    have e : Sd (B * B) n (fun k => g (2 * k + 1 + 1) + B * g (2 * k + 1 + 1 + 1)) = Sd (B * B) n (fun k => g (2 * (k + 1)) + B * g (2 * (k + 1) + 1)) := Sd_cg _ (fun k _ => by rw [show 2 * (k + 1) = 2 * k + 1 + 1 by omega])
    rw [e, Nat.mul_add, ← Nat.mul_assoc]
    show g 0 + (B * g (0 + 1) + _) = g (2 * 0) + B * g (2 * 0 + 1) + _
    rw [show 2 * 0 = 0 from rfl, Nat.add_assoc]
theorem Sd_lt {B : Nat} (hB : 0 < B) : ∀ {n g}, (∀ k, g k < B) → Sd B n g < B ^ n
  | 0, _, _ => by simp [Sd]
  | n + 1, g, h => by
    have ih := Sd_lt hB (n := n) (g := fun k => g (k + 1)) (fun k => h (k + 1))
    have h0 := h 0
    simp only [Sd]
    rw [Nat.pow_succ, Nat.mul_comm (B ^ n) B]
    have := Nat.mul_le_mul_left B (Nat.succ_le_of_lt ih)
    rw [Nat.mul_succ] at this
    omega
/-- the digits, one place on -/
def sfd (n : Nat) (g : Nat → Nat) (k : Nat) : Nat := if k + 1 < n then g (k + 1) else 0
theorem sfd_le {g : Nat → Nat} {c : Nat} (h : ∀ k, g k ≤ c) (n k : Nat) : sfd n g k ≤ c := by
  unfold sfd
  split
  · exact h _
  · exact Nat.zero_le _
theorem Sd_top (B : Nat) : ∀ n g, Sd B (n + 1) (sfd (n + 1) g) = Sd B n (fun k => g (k + 1))
  | 0, g => by simp [Sd, sfd]
  | n + 1, g => by
    have ih := Sd_top B n (fun k => g (k + 1))
    rw [show Sd B (n + 1 + 1) (sfd (n + 1 + 1) g) = sfd (n + 1 + 1) g 0 + B * Sd B (n + 1) (fun k => sfd (n + 1 + 1) g (k + 1)) from rfl]
    have e : Sd B (n + 1) (fun k => sfd (n + 1 + 1) g (k + 1)) = Sd B (n + 1) (sfd (n + 1) (fun k => g (k + 1))) := Sd_cg _ (fun k _ => by
      unfold sfd
      by_cases c : k + 1 < n + 1
      · rw [if_pos c, if_pos (by omega)]
      · rw [if_neg c, if_neg (by omega)])
    rw [e, ih]
    rw [show sfd (n + 1 + 1) g 0 = g (0 + 1) from by unfold sfd; rw [if_pos (by omega)]]
    rfl
theorem Sd_div {B : Nat} (hB : 0 < B) {n : Nat} {g : Nat → Nat} (h : g 0 < B) : Sd B (n + 1) g / B = Sd B (n + 1) (sfd (n + 1) g) := by
  rw [Sd_top]
  show (g 0 + B * Sd B n (fun k => g (k + 1))) / B = _
  rw [Nat.add_mul_div_left _ _ hB, Nat.div_eq_of_lt h, Nat.zero_add]
theorem and_split {i a m A M : Nat} (ha : a < 2 ^ i) (hm : m < 2 ^ i) : (a + 2 ^ i * A) &&& (m + 2 ^ i * M) = (a &&& m) + 2 ^ i * (A &&& M) := by
  apply Nat.eq_of_testBit_eq
  intro j
  have hl : a &&& m < 2 ^ i := Nat.lt_of_le_of_lt Nat.and_le_left ha
  rw [Nat.testBit_and, Nat.add_comm a, Nat.add_comm m, Nat.add_comm (a &&& m), Nat.testBit_two_pow_mul_add _ ha, Nat.testBit_two_pow_mul_add _ hm, Nat.testBit_two_pow_mul_add _ hl]
  split
  · rw [Nat.testBit_and]
  · rw [Nat.testBit_and]
/-- every other digit -/
def Mk (w n : Nat) : Nat := Sd (2 ^ w * 2 ^ w) n (fun _ => 2 ^ w - 1)
theorem Sd_mask (w : Nat) : ∀ n g, (∀ k, g k < 2 ^ w) → Sd (2 ^ w) (2 * n) g &&& Mk w n = Sd (2 ^ w * 2 ^ w) n (fun k => g (2 * k))
  | 0, _, _ => by simp [Sd, Mk]
  | n + 1, g, h => by
    have ih := Sd_mask w n (fun k => g (k + 1 + 1)) (fun k => h _)
    have hp : 0 < 2 ^ w := Nat.two_pow_pos w
    have e1 : Sd (2 ^ w) (2 * (n + 1)) g = (g 0 + 2 ^ w * g 1) + 2 ^ (w + w) * Sd (2 ^ w) (2 * n) (fun k => g (k + 1 + 1)) := by
      show g 0 + 2 ^ w * (g 1 + 2 ^ w * Sd (2 ^ w) (2 * n) (fun k => g (k + 1 + 1))) = _
      rw [Nat.mul_add, ← Nat.mul_assoc, ← Nat.pow_add]
      omega
    have e2 : Mk w (n + 1) = (2 ^ w - 1) + 2 ^ (w + w) * Mk w n := by
      show (2 ^ w - 1) + 2 ^ w * 2 ^ w * Mk w n = _
      rw [← Nat.pow_add]
    have l1 : g 0 + 2 ^ w * g 1 < 2 ^ (w + w) := by
      have h0 := h 0
      have := Nat.mul_le_mul_left (2 ^ w) (Nat.succ_le_of_lt (h 1))
      rw [Nat.mul_succ, ← Nat.pow_add] at this
      omega
    have l2 : 2 ^ w - 1 < 2 ^ (w + w) := Nat.lt_of_lt_of_le (by omega) (Nat.pow_le_pow_right (by decide) (by omega : w ≤ w + w))
    rw [e1, e2, and_split l1 l2, ih, Nat.and_two_pow_sub_one_eq_mod, Nat.add_mul_mod_self_left, Nat.mod_eq_of_lt (h 0)]
    show _ = g (2 * 0) + 2 ^ w * 2 ^ w * Sd (2 ^ w * 2 ^ w) n (fun k => g (2 * (k + 1)))
    rw [← Nat.pow_add]
    rfl
def tn (x : Int64) : Nat := x.toBitVec.toNat
theorem tn_lt (x : Int64) : tn x < 2 ^ 64 := x.toBitVec.isLt
theorem tn_bit (x : Int64) (k : Nat) : (tn x).testBit k = lb x k := BitVec.testBit_toNat x.toBitVec
theorem Sd_bits : ∀ n N, Sd 2 n (fun k => (N.testBit k).toNat) = N % 2 ^ n
  | 0, N => by rw [Nat.pow_zero, Nat.mod_one]; rfl
  | n + 1, N => by
    have ih := Sd_bits n (N / 2)
    show (N.testBit 0).toNat + 2 * Sd 2 n (fun k => (N.testBit (k + 1)).toNat) = _
    have e : Sd 2 n (fun k => (N.testBit (k + 1)).toNat) = Sd 2 n (fun k => ((N / 2).testBit k).toNat) := Sd_cg _ (fun k _ => by rw [Nat.testBit_succ])
    rw [e, ih, Nat.testBit_zero]
    have e2 : (decide (N % 2 = 1)).toNat = N % 2 := by
      by_cases c : N % 2 = 1
      · rw [decide_eq_true c, c]; rfl
      · rw [decide_eq_false c, show N % 2 = 0 by omega]; rfl
    rw [e2, Nat.pow_succ, Nat.mul_comm (2 ^ n) 2, Nat.mod_mul]
theorem tn_ush (x : Int64) {k : Nat} (hk : k < 64) : tn (ush x (nI k)) = tn x / 2 ^ k := by
  apply Nat.eq_of_testBit_eq
  intro j
  rw [tn_bit, Nat.testBit_div_two_pow, tn_bit]
  unfold ush
  rw [lb_ushr k hk, Nat.add_comm]
theorem tn_and (x y : Int64) : tn (x &&& y) = tn x &&& tn y := by unfold tn; rw [Int64.toBitVec_and, BitVec.toNat_and]
theorem tn_add {x y : Int64} (h : tn x + tn y < 2 ^ 64) : tn (x + y) = tn x + tn y := by
  unfold tn at *
  rw [Int64.toBitVec_add, BitVec.toNat_add, Nat.mod_eq_of_lt h]
theorem tn_sub {x y : Int64} (h : tn y ≤ tn x) : tn (x - y) = tn x - tn y := by
  have l1 := x.toBitVec.isLt
  have l2 := y.toBitVec.isLt
  unfold tn at *
  rw [Int64.toBitVec_sub, BitVec.toNat_sub]
  omega
def bg (x : Int64) (k : Nat) : Nat := (lb x k).toNat
theorem tn_Sd (x : Int64) : tn x = Sd 2 64 (bg x) := by
  have := Sd_bits 64 (tn x)
  rw [Nat.mod_eq_of_lt (tn_lt x)] at this
  rw [← this]
  exact Sd_cg _ (fun k _ => by unfold bg; rw [tn_bit])
theorem bg_1 (x : Int64) (k : Nat) : bg x k ≤ 1 := by unfold bg; cases lb x k <;> decide
theorem bc1_tn (x : Int64) : tn (bc1 x) = Sd 4 32 (fun k => bg x (2 * k) + bg x (2 * k + 1)) := by
  have e0 : tn x = Sd 4 32 (fun k => bg x (2 * k) + 2 * bg x (2 * k + 1)) := by rw [tn_Sd]; exact Sd_pair 2 32 (bg x)
  have e1 : tn (ush x 1) = Sd 2 64 (sfd 64 (bg x)) := by
    rw [show ush x 1 = ush x (nI 1) from rfl, tn_ush x (by decide), tn_Sd]
    exact Sd_div (n := 63) (by decide) (by have := bg_1 x 0; omega)
  have em : tn (6148914691236517205 : Int64) = Mk 1 32 := by decide
  have e2 : tn (ush x 1 &&& 6148914691236517205) = Sd 4 32 (fun k => bg x (2 * k + 1)) := by
    rw [tn_and, e1, em]
    have := Sd_mask 1 32 (sfd 64 (bg x)) (fun k => by have := sfd_le (bg_1 x) 64 k; omega)
    refine this.trans (Sd_cg _ (fun k hk => ?_))
    unfold sfd
    rw [if_pos (by omega)]
  have e3 : tn x = Sd 4 32 (fun k => bg x (2 * k) + bg x (2 * k + 1)) + Sd 4 32 (fun k => bg x (2 * k + 1)) := by
    rw [Sd_add, e0]
    exact Sd_cg _ (fun k _ => by omega)
  unfold bc1
  rw [tn_sub (by rw [e2, e3]; omega), e2, e3]
  omega
theorem bc2_tn {x : Int64} {g : Nat → Nat} (h : tn x = Sd 4 32 g) (hg : ∀ k, g k ≤ 2) : tn (bc2 x) = Sd 16 16 (fun k => g (2 * k) + g (2 * k + 1)) := by
  have em : tn (3689348814741910323 : Int64) = Mk 2 16 := by decide
  have e1 : tn (x &&& 3689348814741910323) = Sd 16 16 (fun k => g (2 * k)) := by
    rw [tn_and, em, h]
    exact Sd_mask 2 16 g (fun k => by have := hg k; omega)
  have e2 : tn (ush x 2 &&& 3689348814741910323) = Sd 16 16 (fun k => g (2 * k + 1)) := by
    rw [tn_and, em, show ush x 2 = ush x (nI 2) from rfl, tn_ush x (by decide), h, show (2 ^ 2 : Nat) = 4 from rfl, Sd_div (n := 31) (by decide) (by have := hg 0; omega)]
    have := Sd_mask 2 16 (sfd 32 g) (fun k => by have := sfd_le hg 32 k; omega)
    refine this.trans (Sd_cg _ (fun k hk => ?_))
    unfold sfd
    rw [if_pos (by omega)]
  have l : Sd 16 16 (fun k => g (2 * k) + g (2 * k + 1)) < 16 ^ 16 := Sd_lt (by decide) (fun k => by have := hg (2 * k); have := hg (2 * k + 1); omega)
  have ea := Sd_add 16 16 (fun k => g (2 * k)) (fun k => g (2 * k + 1))
  unfold bc2
  rw [tn_add (by rw [e1, e2, ea]; exact l), e1, e2, ea]
theorem bc3_tn {x : Int64} {g : Nat → Nat} (h : tn x = Sd 16 16 g) (hg : ∀ k, g k ≤ 4) : tn (bc3 x) = Sd 256 8 (fun k => g (2 * k) + g (2 * k + 1)) := by
  have em : tn (1085102592571150095 : Int64) = Mk 4 8 := by decide
  have e1 : tn (ush x 4) = Sd 16 16 (sfd 16 g) := by
    rw [show ush x 4 = ush x (nI 4) from rfl, tn_ush x (by decide), h]
    exact Sd_div (n := 15) (by decide) (by have := hg 0; omega)
  have hs : ∀ k, sfd 16 g k ≤ 4 := sfd_le hg 16
  have ea := Sd_add 16 16 g (sfd 16 g)
  have l : Sd 16 16 (fun k => g k + sfd 16 g k) < 16 ^ 16 := Sd_lt (by decide) (fun k => by have := hg k; have := hs k; omega)
  unfold bc3
  rw [tn_and, tn_add (by rw [e1, h, ea]; exact l), e1, h, ea, em]
  have := Sd_mask 4 8 (fun k => g k + sfd 16 g k) (fun k => by have := hg k; have := hs k; omega)
  refine this.trans (Sd_cg _ (fun k hk => ?_))
  unfold sfd
  rw [if_pos (by omega)]
theorem Sd_div2 {g : Nat → Nat} (hg : ∀ k, g k < 256) : ∀ m, Sd 256 8 g / 256 ^ m = Sd 256 8 (fun k => if k + m < 8 then g (k + m) else 0)
  | 0 => by
    rw [Nat.pow_zero, Nat.div_one]
    exact Sd_cg _ (fun k hk => by rw [Nat.add_zero, if_pos hk])
  | m + 1 => by
    have h0 : (if 0 + m < 8 then g (0 + m) else 0) < 256 := by
      split
      · exact hg _
      · decide
    rw [Nat.pow_succ, ← Nat.div_div_eq_div_mul, Sd_div2 hg m, Sd_div (n := 7) (g := fun k => if k + m < 8 then g (k + m) else 0) (by decide) h0]
    refine Sd_cg _ (fun k hk => ?_)
    unfold sfd
    simp only
    by_cases c : k + (m + 1) < 8
    · rw [if_pos c, if_pos (by omega), if_pos (by omega), show k + 1 + m = k + (m + 1) by omega]
    · rw [if_neg c]
      split
      · rw [if_neg (by omega)]
      · rfl
theorem bc4_tn {x : Int64} {g : Nat → Nat} {m c : Nat} (h : tn x = Sd 256 8 g) (hg : ∀ k, g k ≤ c) (hc : 2 * c < 256) (hm : m < 8) : tn (bc4 x (nI (8 * m))) = Sd 256 8 (fun k => g k + if k + m < 8 then g (k + m) else 0) := by
  have e1 : tn (ush x (nI (8 * m))) = Sd 256 8 (fun k => if k + m < 8 then g (k + m) else 0) := by
    rw [tn_ush x (by omega), h, Nat.pow_mul, show (2 ^ 8 : Nat) = 256 from rfl]
    exact Sd_div2 (fun k => by have := hg k; omega) m
  have ea := Sd_add 256 8 g (fun k => if k + m < 8 then g (k + m) else 0)
  have l : Sd 256 8 (fun k => g k + if k + m < 8 then g (k + m) else 0) < 256 ^ 8 := Sd_lt (by decide) (fun k => by
    have := hg k
    have := hg (k + m)
    split <;> omega)
  unfold bc4
  rw [tn_add (by rw [e1, h, ea]; exact l), e1, h, ea]
theorem pcn_bg (x : Int64) : ∀ n, pcn x (n + 1) = pcn x n + bg x n := by
  intro n
  show pcn x n + _ = _
  unfold bg
  cases lb x n <;> rfl
/-- THE CLASS COUNTS BITS -/
theorem fBC_ok (x : Int64) : fBC x = nI (pcn x 64) := by
  have b := bg_1 x
  have h1 := bc1_tn x
  have h2 := bc2_tn h1 (fun k => by have := b (2 * k); have := b (2 * k + 1); omega)
  have h3 := bc3_tn h2 (fun k => by have := b (2 * (2 * k)); have := b (2 * (2 * k) + 1); have := b (2 * (2 * k + 1)); have := b (2 * (2 * k + 1) + 1); omega)
  obtain ⟨g, eg⟩ : ∃ g : Nat → Nat, g = fun k => bg x (8 * k) + bg x (8 * k + 1) + bg x (8 * k + 2) + bg x (8 * k + 3) + bg x (8 * k + 4) + bg x (8 * k + 5) + bg x (8 * k + 6) + bg x (8 * k + 7) := ⟨_, rfl⟩
  have h3' : tn (bc3 (bc2 (bc1 x))) = Sd 256 8 g := by
    rw [h3, eg]
    refine Sd_cg _ (fun k _ => ?_)
    rw [show 2 * (2 * (2 * k)) = 8 * k by omega, show 2 * (2 * (2 * k) + 1) = 8 * k + 2 by omega, show 2 * (2 * (2 * k + 1)) = 8 * k + 4 by omega, show 2 * (2 * (2 * k + 1) + 1) = 8 * k + 6 by omega, show 8 * k + 2 + 1 = 8 * k + 3 from rfl, show 8 * k + 4 + 1 = 8 * k + 5 from rfl, show 8 * k + 6 + 1 = 8 * k + 7 from rfl]
    omega
  have hg : ∀ k, g k ≤ 8 := by
    intro k
    have := b (8 * k); have := b (8 * k + 1); have := b (8 * k + 2); have := b (8 * k + 3); have := b (8 * k + 4); have := b (8 * k + 5); have := b (8 * k + 6); have := b (8 * k + 7)
    rw [eg]
    simp only
    omega
  have h4 := bc4_tn (m := 1) (c := 8) h3' hg (by decide) (by decide)
  obtain ⟨g4, e4⟩ : ∃ g4 : Nat → Nat, g4 = fun k => g k + if k + 1 < 8 then g (k + 1) else 0 := ⟨_, rfl⟩
  rw [← e4] at h4
  have hg4 : ∀ k, g4 k ≤ 16 := by
    intro k
    rw [e4]
    have := hg k
    have := hg (k + 1)
    simp only
    split <;> omega
  have h5 := bc4_tn (m := 2) (c := 16) h4 hg4 (by decide) (by decide)
  obtain ⟨g5, e5⟩ : ∃ g5 : Nat → Nat, g5 = fun k => g4 k + if k + 2 < 8 then g4 (k + 2) else 0 := ⟨_, rfl⟩
  rw [← e5] at h5
  have hg5 : ∀ k, g5 k ≤ 32 := by
    intro k
    rw [e5]
    have := hg4 k
    have := hg4 (k + 2)
    simp only
    split <;> omega
  have h6 := bc4_tn (m := 4) (c := 32) h5 hg5 (by decide) (by decide)
  have hd : tn (bc4 (bc4 (bc4 (bc3 (bc2 (bc1 x))) 8) 16) 32) % 128 = pcn x 64 := by
    refine (congrArg (· % 128) h6).trans ?_
    show ((g5 0 + if 0 + 4 < 8 then g5 (0 + 4) else 0) + 256 * _) % 128 = _
    have q : g5 0 + g5 4 = pcn x 64 := by
      have p : ∀ k, pcn x (8 * (k + 1)) = pcn x (8 * k) + g k := by
        intro k
        rw [eg]
        simp only
        rw [show 8 * (k + 1) = 8 * k + 7 + 1 by omega, pcn_bg, show 8 * k + 7 = 8 * k + 6 + 1 by omega, pcn_bg, show 8 * k + 6 = 8 * k + 5 + 1 by omega, pcn_bg, show 8 * k + 5 = 8 * k + 4 + 1 by omega, pcn_bg, show 8 * k + 4 = 8 * k + 3 + 1 by omega, pcn_bg, show 8 * k + 3 = 8 * k + 2 + 1 by omega, pcn_bg, show 8 * k + 2 = 8 * k + 1 + 1 by omega, pcn_bg, pcn_bg]
        omega
      have p0 := p 0; have p1 := p 1; have p2 := p 2; have p3 := p 3; have p4 := p 4; have p5 := p 5; have p6 := p 6; have p7 := p 7
      have z0 : pcn x (8 * 0) = 0 := rfl
      rw [e5, e4]
      simp only
      simp at p0 p1 p2 p3 p4 p5 p6 p7 z0 ⊢
      omega
    have l : pcn x 64 ≤ 64 := by
      have a := hg5 0
      have c := hg5 4
      omega
    rw [if_pos (by decide), show 0 + 4 = 4 from rfl, q]
    omega
  unfold fBC
  rw [pk_and _ 7 (by decide)]
  congr 1
  rw [show (2 ^ 7 : Nat) = 128 from rfl, ← hd]
  unfold tn
  rw [Int64.toBitVec_toInt32]
  generalize (bc4 (bc4 (bc4 (bc3 (bc2 (bc1 x))) 8) 16) 32).toBitVec = v
  rw [BitVec.signExtend_eq_setWidth_of_le _ (by decide), BitVec.toNat_setWidth]
  omega
