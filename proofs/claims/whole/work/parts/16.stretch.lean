/-! STRETCHES: what they are; Stretches.offOf, longestFrom: printed by wip/whole/t16.py -/
theorem fAbs_i {a : Int} (h1 : -2147483648 < a) (h2 : a < 2147483648) : fAbs (iI a) = nI a.natAbs := by
  have e : (0 : Int32) ≤ iI a ↔ 0 ≤ a := by rw [iI_0]; exact iI_le (by omega) (by omega) (by omega) h2
  unfold fAbs
  rw [iI_nat]
  by_cases h : 0 ≤ a
  · rw [if_pos (e.mpr h)]; congr 1; omega
  · rw [if_neg (fun q => h (e.mp q)), iI_neg]; congr 1; omega
theorem fMax_n {a b : Nat} (ha : a < 2 ^ 31) (hb : b < 2 ^ 31) : fMax (nI a) (nI b) = nI (max a b) := by
  unfold fMax
  by_cases h : a < b
  · rw [if_pos ((nI_ltI ha hb).mpr h), Nat.max_eq_right (by omega)]
  · rw [if_neg (fun q => h ((nI_ltI ha hb).mp q)), Nat.max_eq_left (by omega)]
theorem fMin_n {a b : Nat} (ha : a < 2 ^ 31) (hb : b < 2 ^ 31) : fMin (nI a) (nI b) = nI (min a b) := by
  unfold fMin
  by_cases h : b < a
  · rw [if_pos ((nI_ltI hb ha).mpr h), Nat.min_eq_right (by omega)]
  · rw [if_neg (fun q => h ((nI_ltI hb ha).mp q)), Nat.min_eq_left (by omega)]
/-- squares added up, as long as none is too far off -/
def sq (c : Nat → Nat) (g : Nat) : Nat → Option Nat
  | 0 => some 0
  | k + 1 => if k = 0 then some 0 else (sq c g k).bind (fun a => if g < 2 * c k then none else some (a + c k * c k))
theorem sq_1 (c : Nat → Nat) (g : Nat) : sq c g 1 = some 0 := rfl
theorem sq_s {c : Nat → Nat} {g k a : Nat} (hk : 1 ≤ k) (h : sq c g k = some a) (hc : ¬ g < 2 * c k) : sq c g (k + 1) = some (a + c k * c k) := by
  show (if k = 0 then some 0 else _) = _
  rw [if_neg (by omega), h, Option.bind_some, if_neg hc]
theorem sq_n {c : Nat → Nat} {g k : Nat} (hk : 1 ≤ k) (hc : g < 2 * c k) : sq c g (k + 1) = none := by
  show (if k = 0 then some 0 else _) = _
  rw [if_neg (by omega)]
  cases sq c g k with
  | none => rfl
  | some a => rw [Option.bind_some, if_pos hc]
theorem sq_nn {c : Nat → Nat} {g k : Nat} (hk : 1 ≤ k) (h : sq c g k = none) : ∀ m, sq c g (k + m) = none
  | 0 => h
  | m + 1 => by
    have e : sq c g (k + (m + 1)) = (if k + m = 0 then some 0 else (sq c g (k + m)).bind (fun a => if g < 2 * c (k + m) then none else some (a + c (k + m) * c (k + m)))) := rfl
    rw [e, if_neg (by omega), sq_nn hk h m]
    rfl
theorem sq_b {c : Nat → Nat} {g B : Nat} (hB : ∀ k, c k ≤ B) : ∀ {k a : Nat}, sq c g k = some a → a ≤ k * (B * B)
  | 0, a, h => by cases h; exact Nat.zero_le _
  | k + 1, a, h => by
    have h' : (if k = 0 then some 0 else (sq c g k).bind (fun a => if g < 2 * c k then none else some (a + c k * c k))) = some a := h
    by_cases e : k = 0
    · rw [if_pos e] at h'; cases h'; exact Nat.zero_le _
    · rw [if_neg e] at h'
      cases hs : sq c g k with
      | none => rw [hs] at h'; cases h'
      | some b =>
        rw [hs, Option.bind_some] at h'
        by_cases hc : g < 2 * c k
        · rw [if_pos hc] at h'; cases h'
        · rw [if_neg hc] at h'
          cases h'
          have ih := sq_b hB hs
          have := Nat.mul_le_mul (hB k) (hB k)
          rw [Nat.succ_mul]
          omega
def dxA (X : Nat → Int) (P i s : Nat) : Int := X ((i + s) % P) - X (i % P)
def gA (X Y : Nat → Int) (P i s : Nat) : Nat := max (dxA X P i s).natAbs (dxA Y P i s).natAbs
def cA (X Y : Nat → Int) (P i s k : Nat) : Nat := (dxA X P i s * dxA Y P i k - dxA Y P i s * dxA X P i k).natAbs
/-- OFF of a stretch; none: it isn't straight -/
def off (X Y : Nat → Int) (P i s : Nat) : Option Nat := if gA X Y P i s = 0 then none else sq (cA X Y P i s) (gA X Y P i s) s
def oI : Option Nat → Int32
  | none => -1
  | some a => nI a
/-- corners that lie on the sheet -/
def Sh (X Y : Nat → Int) : Prop := ∀ k, 0 ≤ X k ∧ X k ≤ 8 ∧ 0 ≤ Y k ∧ Y k ≤ 8
theorem dx_b {X Y : Nat → Int} (S : Sh X Y) (P i s : Nat) : -8 ≤ dxA X P i s ∧ dxA X P i s ≤ 8 ∧ -8 ≤ dxA Y P i s ∧ dxA Y P i s ≤ 8 := by
  have a := S ((i + s) % P)
  have b := S (i % P)
  unfold dxA
  omega
theorem mul_b {a b : Int} {m : Int} (h1 : -m ≤ a ∧ a ≤ m) (h2 : -m ≤ b ∧ b ≤ m) (hm : 0 ≤ m) : -(m * m) ≤ a * b ∧ a * b ≤ m * m := by
  have q : (a * b).natAbs ≤ (m * m).natAbs := by
    rw [Int.natAbs_mul, Int.natAbs_mul]
    exact Nat.mul_le_mul (by omega) (by omega)
  have : 0 ≤ m * m := Int.mul_nonneg hm hm
  omega
theorem cA_b {X Y : Nat → Int} (S : Sh X Y) (P i s k : Nat) : cA X Y P i s k ≤ 128 := by
  have a := dx_b S P i s
  have b := dx_b S P i k
  have m1 := mul_b (a := dxA X P i s) (b := dxA Y P i k) (m := 8) (by omega) (by omega) (by omega)
  have m2 := mul_b (a := dxA Y P i s) (b := dxA X P i k) (m := 8) (by omega) (by omega) (by omega)
  unfold cA
  omega
theorem gA_b {X Y : Nat → Int} (S : Sh X Y) (P i s : Nat) : gA X Y P i s ≤ 8 := by
  have a := dx_b S P i s
  unfold gA
  omega
/-- a border's corners in the rows -/
def Row (xs ys : Nat → Int32) (s P : Nat) (X Y : Nat → Int) : Prop := ∀ k, k < P → xs (s + k) = iI (X k) ∧ ys (s + k) = iI (Y k)
section
variable {V : VV} {h : AH} {n z : Nat}

theorem s_xA {s0 P b : Nat} {fi : Int32} {wi : Int64} {me ve bo wk jn sz : Int32} {dt : Int64} {xs ys : Nat → Int32} {X Y : Nat → Int} (g19 : h 19 = oBrs wk dt jn sz) (g20 : h 20 = aI 144 xs) (gb : h b = oBrd (nI s0) (nI P) fi wi me ve bo) (hP : 0 < P) (hs : s0 + P ≤ 144) (Rw : Row xs ys s0 P X Y) (K : Nat) (hK : K < 2 ^ 31) : AMet V i_Brs_xAt 1 [.ref 19, .ref b, .int (nI K)] h n z (some (.int (iI (X (K % P))))) h n z := by
  have := s_Brs_xAt (V := V) (n := n) (z := z) g20 g19 gb hP hs hK
  rw [(Rw (K % P) (Nat.mod_lt K hP)).1] at this
  exact this
theorem s_yA {s0 P b : Nat} {fi : Int32} {wi : Int64} {me ve bo wk jn sz : Int32} {dt : Int64} {xs ys : Nat → Int32} {X Y : Nat → Int} (g19 : h 19 = oBrs wk dt jn sz) (g21 : h 21 = aI 144 ys) (gb : h b = oBrd (nI s0) (nI P) fi wi me ve bo) (hP : 0 < P) (hs : s0 + P ≤ 144) (Rw : Row xs ys s0 P X Y) (K : Nat) (hK : K < 2 ^ 31) : AMet V i_Brs_yAt 1 [.ref 19, .ref b, .int (nI K)] h n z (some (.int (iI (Y (K % P))))) h n z := by
  have := s_Brs_yAt (V := V) (n := n) (z := z) g21 g19 gb hP hs hK
  rw [(Rw (K % P) (Nat.mod_lt K hP)).2] at this
  exact this
set_option maxRecDepth 20000 in
set_option maxHeartbeats 4000000 in
theorem L_offOf {s0 P b : Nat} {fi : Int32} {wi : Int64} {me ve bo wk jn sz : Int32} {dt : Int64} {xs ys : Nat → Int32} {X Y : Nat → Int} (g19 : h 19 = oBrs wk dt jn sz) (g20 : h 20 = aI 144 xs) (g21 : h 21 = aI 144 ys) (g24 : h 24 = oStr) (gb : h b = oBrd (nI s0) (nI P) fi wi me ve bo) (hP : 0 < P) (hs : s0 + P ≤ 144) (Rw : Row xs ys s0 P X Y) (S : Sh X Y) {i s : Nat} (hi : i < 1000) (hs1 : 1 ≤ s) (hs2 : s < 1000) (hg : ¬ gA X Y P i s = 0) : ∀ (m k : Nat), k + m = s → 1 ≤ k → ∀ a, sq (cA X Y P i s) (gA X Y P i s) k = some a → AM V i_Str_offOf 2 n z (some (.int (oI (off X Y P i s)))) h n z 82 [some (.ref 24), some (.ref b), some (.int (nI i)), some (.int (nI s)), some (.int (iI (X (i % P)))), some (.int (iI (Y (i % P)))), some (.int (iI (dxA X P i s))), some (.int (iI (dxA Y P i s))), some (.int (nI (gA X Y P i s))), some (.int (nI a)), some (.int (nI k)), none] [] h n z := by
  intro m
  induction m with
  | zero =>
    intro k hk hk1 a ha
    have e : k = s := by omega
    subst e
    have eo : off X Y P i k = some a := by unfold off; rw [if_neg hg]; exact ha
    rw [eo]
    refine a_iload d_Str_offOf_82 rfl ?_
    refine a_iload_n d_Str_offOf_84 rfl ?_
    refine a_icmp_ge 157 d_Str_offOf_85 (by decide) (fun c85 => ?_) (fun c85 => absurd (nI_le (Nat.le_refl k) (by omega)) c85)
    refine a_iload d_Str_offOf_157 rfl ?_
    exact a_iret d_Str_offOf_159 rfl rfl rfl rfl
  | succ m ih =>
    intro k hk hk1 a ha
    have hab := sq_b (cA_b S P i s) ha
    have hgb := gA_b S P i s
    have hcb := cA_b S P i s k
    have d1 := dx_b S P i s
    have d2 := dx_b S P i k
    have m1 := mul_b (a := dxA X P i s) (b := dxA Y P i k) (m := 8) (by omega) (by omega) (by omega)
    have m2 := mul_b (a := dxA Y P i s) (b := dxA X P i k) (m := 8) (by omega) (by omega) (by omega)
    have ec : fAbs (iI (dxA X P i s) * (iI (Y ((i + k) % P)) - iI (Y (i % P))) - iI (dxA Y P i s) * (iI (X ((i + k) % P)) - iI (X (i % P)))) = nI (cA X Y P i s k) := by
      rw [iI_sub, iI_sub, iI_mul, iI_mul, iI_sub]
      exact fAbs_i (by unfold dxA at *; omega) (by unfold dxA at *; omega)
    have sqN : gA X Y P i s < 2 * cA X Y P i s k → off X Y P i s = none := by
      intro q
      unfold off
      rw [if_neg hg]
      have := sq_nn (m := s - (k + 1)) (show 1 ≤ k + 1 by omega) (sq_n hk1 q)
      rwa [show k + 1 + (s - (k + 1)) = s by omega] at this
    refine a_iload d_Str_offOf_82 rfl ?_
    refine a_iload_n d_Str_offOf_84 rfl ?_
    refine a_icmp_ge 157 d_Str_offOf_85 (by decide) (fun c85 => absurd c85 (nI_ge (show k < s by omega) (by omega))) (fun c85 => ?_)
    refine a_iload d_Str_offOf_88 rfl ?_
    refine a_aload_n d_Str_offOf_90 rfl ?_
    refine a_getf d_Str_offOf_91 f_Str_18 g24 rfl ?_
    refine a_aload_n d_Str_offOf_94 rfl ?_
    refine a_iload_n d_Str_offOf_95 rfl ?_
    refine a_iload d_Str_offOf_96 rfl ?_
    refine a_iadd d_Str_offOf_98 ?_
    rw [nI_add]
    refine a_cv0 d_Str_offOf_99 m_Brs_yAt t_Brs_yAt l_Str_26 g19 rfl rfl (s_yA g19 g21 gb hP hs Rw (i + k) (by omega)) rfl rfl ⟨Nat.le_of_ble_eq_true rfl, Nat.le_of_ble_eq_true rfl⟩ (Nat.le_of_ble_eq_true rfl)  ?_
    refine a_iload d_Str_offOf_102 rfl ?_
    refine a_isub d_Str_offOf_104 ?_
    refine a_imul d_Str_offOf_105 ?_
    refine a_iload d_Str_offOf_106 rfl ?_
    refine a_aload_n d_Str_offOf_108 rfl ?_
    refine a_getf d_Str_offOf_109 f_Str_18 g24 rfl ?_
    refine a_aload_n d_Str_offOf_112 rfl ?_
    refine a_iload_n d_Str_offOf_113 rfl ?_
    refine a_iload d_Str_offOf_114 rfl ?_
    refine a_iadd d_Str_offOf_116 ?_
    rw [nI_add]
    refine a_cv0 d_Str_offOf_117 m_Brs_xAt t_Brs_xAt l_Str_22 g19 rfl rfl (s_xA g19 g20 gb hP hs Rw (i + k) (by omega)) rfl rfl ⟨Nat.le_of_ble_eq_true rfl, Nat.le_of_ble_eq_true rfl⟩ (Nat.le_of_ble_eq_true rfl)  ?_
    refine a_iload d_Str_offOf_120 rfl ?_
    refine a_isub d_Str_offOf_122 ?_
    refine a_imul d_Str_offOf_123 ?_
    refine a_isub d_Str_offOf_124 ?_
    refine a_abs d_Str_offOf_125 l_Str_29 (Nat.le_of_ble_eq_true rfl) (Nat.le_of_ble_eq_true rfl) (Nat.le_of_ble_eq_true rfl) ?_
    refine a_istore d_Str_offOf_128 (Nat.le_of_ble_eq_true rfl) (Nat.le_of_ble_eq_true rfl) rfl ?_
    refine a_iconst (v := 2) d_Str_offOf_130 (by decide) ?_
    refine a_iload d_Str_offOf_131 rfl ?_
    refine a_imul d_Str_offOf_133 ?_
    refine a_iload d_Str_offOf_134 rfl ?_
    rw [ec, show (2 : Int32) = nI 2 from rfl, pk_mul]
    refine a_icmp_le 141 d_Str_offOf_136 (by decide) (fun c136 => ?_) (fun c136 => ?_)
    · skip
      refine a_iload d_Str_offOf_141 rfl ?_
      refine a_iload d_Str_offOf_143 rfl ?_
      refine a_iload d_Str_offOf_145 rfl ?_
      refine a_imul d_Str_offOf_147 ?_
      refine a_iadd d_Str_offOf_148 ?_
      refine a_istore d_Str_offOf_149 (Nat.le_of_ble_eq_true rfl) (Nat.le_of_ble_eq_true rfl) rfl ?_
      refine a_iinc d_Str_offOf_151 rfl (nI_1 k) (Nat.le_of_ble_eq_true rfl) rfl ?_
      refine a_goto 82 d_Str_offOf_154 (by decide) ?_
      rw [nI_leI (by omega) (by omega)] at c136
      refine a_drop 11 ?_
      refine a_eq rfl ?_ rfl rfl rfl rfl (ih (k + 1) (by omega) (by omega) (a + cA X Y P i s k * cA X Y P i s k) (sq_s hk1 ha (by omega)))
      rw [pk_mul, nI_add]
      rfl
    · skip
      refine a_iconst (v := -1) d_Str_offOf_139 (by decide) ?_
      exact a_iret d_Str_offOf_140 rfl (by rw [nI_leI (by omega) (by omega)] at c136; rw [sqN (by omega)]; rfl) rfl rfl
set_option maxRecDepth 20000 in
set_option maxHeartbeats 4000000 in
theorem s_Str_offOf {s0 P b : Nat} {fi : Int32} {wi : Int64} {me ve bo wk jn sz : Int32} {dt : Int64} {xs ys : Nat → Int32} {X Y : Nat → Int} (g19 : h 19 = oBrs wk dt jn sz) (g20 : h 20 = aI 144 xs) (g21 : h 21 = aI 144 ys) (g24 : h 24 = oStr) (gb : h b = oBrd (nI s0) (nI P) fi wi me ve bo) (hP : 0 < P) (hs : s0 + P ≤ 144) (Rw : Row xs ys s0 P X Y) (S : Sh X Y) {i s : Nat} (hi : i < 1000) (hs1 : 1 ≤ s) (hs2 : s < 1000) : AMet V i_Str_offOf 2 [.ref 24, .ref b, .int (nI i), .int (nI s)] h n z (some (.int (oI (off X Y P i s)))) h n z := by
  have hgb := gA_b S P i s
  have d1 := dx_b S P i s
  have e1 : fAbs (iI (X ((i + s) % P) - X (i % P))) = nI (dxA X P i s).natAbs := fAbs_i (by unfold dxA at *; omega) (by unfold dxA at *; omega)
  have e2 : fAbs (iI (Y ((i + s) % P) - Y (i % P))) = nI (dxA Y P i s).natAbs := fAbs_i (by unfold dxA at *; omega) (by unfold dxA at *; omega)
  have e3 : fMax (nI (dxA X P i s).natAbs) (nI (dxA Y P i s).natAbs) = nI (gA X Y P i s) := fMax_n (by omega) (by omega)
  have eo : gA X Y P i s = 0 → off X Y P i s = none := fun q => by unfold off; rw [if_pos q]
  refine AMet.intro (Nat.le_refl _) (Nat.le_refl _) (by decide) (Nat.le_of_ble_eq_true rfl) rfl ?_
  refine a_aload_n d_Str_offOf_0 rfl ?_
  refine a_getf d_Str_offOf_1 f_Str_18 g24 rfl ?_
  refine a_aload_n d_Str_offOf_4 rfl ?_
  refine a_iload_n d_Str_offOf_5 rfl ?_
  refine a_cv0 d_Str_offOf_6 m_Brs_xAt t_Brs_xAt l_Str_22 g19 rfl rfl (s_xA g19 g20 gb hP hs Rw (i) (by omega)) rfl rfl ⟨Nat.le_of_ble_eq_true rfl, Nat.le_of_ble_eq_true rfl⟩ (Nat.le_of_ble_eq_true rfl)  ?_
  refine a_istore d_Str_offOf_9 (Nat.le_of_ble_eq_true rfl) (Nat.le_of_ble_eq_true rfl) rfl ?_
  refine a_aload_n d_Str_offOf_11 rfl ?_
  refine a_getf d_Str_offOf_12 f_Str_18 g24 rfl ?_
  refine a_aload_n d_Str_offOf_15 rfl ?_
  refine a_iload_n d_Str_offOf_16 rfl ?_
  refine a_cv0 d_Str_offOf_17 m_Brs_yAt t_Brs_yAt l_Str_26 g19 rfl rfl (s_yA g19 g21 gb hP hs Rw (i) (by omega)) rfl rfl ⟨Nat.le_of_ble_eq_true rfl, Nat.le_of_ble_eq_true rfl⟩ (Nat.le_of_ble_eq_true rfl)  ?_
  refine a_istore d_Str_offOf_20 (Nat.le_of_ble_eq_true rfl) (Nat.le_of_ble_eq_true rfl) rfl ?_
  refine a_aload_n d_Str_offOf_22 rfl ?_
  refine a_getf d_Str_offOf_23 f_Str_18 g24 rfl ?_
  refine a_aload_n d_Str_offOf_26 rfl ?_
  refine a_iload_n d_Str_offOf_27 rfl ?_
  refine a_iload_n d_Str_offOf_28 rfl ?_
  refine a_iadd d_Str_offOf_29 ?_
  rw [nI_add]
  refine a_cv0 d_Str_offOf_30 m_Brs_xAt t_Brs_xAt l_Str_22 g19 rfl rfl (s_xA g19 g20 gb hP hs Rw (i + s) (by omega)) rfl rfl ⟨Nat.le_of_ble_eq_true rfl, Nat.le_of_ble_eq_true rfl⟩ (Nat.le_of_ble_eq_true rfl)  ?_
  refine a_iload d_Str_offOf_33 rfl ?_
  refine a_isub d_Str_offOf_35 ?_
  rw [iI_sub]
  refine a_istore d_Str_offOf_36 (Nat.le_of_ble_eq_true rfl) (Nat.le_of_ble_eq_true rfl) rfl ?_
  refine a_aload_n d_Str_offOf_38 rfl ?_
  refine a_getf d_Str_offOf_39 f_Str_18 g24 rfl ?_
  refine a_aload_n d_Str_offOf_42 rfl ?_
  refine a_iload_n d_Str_offOf_43 rfl ?_
  refine a_iload_n d_Str_offOf_44 rfl ?_
  refine a_iadd d_Str_offOf_45 ?_
  rw [nI_add]
  refine a_cv0 d_Str_offOf_46 m_Brs_yAt t_Brs_yAt l_Str_26 g19 rfl rfl (s_yA g19 g21 gb hP hs Rw (i + s) (by omega)) rfl rfl ⟨Nat.le_of_ble_eq_true rfl, Nat.le_of_ble_eq_true rfl⟩ (Nat.le_of_ble_eq_true rfl)  ?_
  refine a_iload d_Str_offOf_49 rfl ?_
  refine a_isub d_Str_offOf_51 ?_
  rw [iI_sub]
  refine a_istore d_Str_offOf_52 (Nat.le_of_ble_eq_true rfl) (Nat.le_of_ble_eq_true rfl) rfl ?_
  refine a_iload d_Str_offOf_54 rfl ?_
  refine a_abs d_Str_offOf_56 l_Str_29 (Nat.le_of_ble_eq_true rfl) (Nat.le_of_ble_eq_true rfl) (Nat.le_of_ble_eq_true rfl) ?_
  refine a_iload d_Str_offOf_59 rfl ?_
  refine a_abs d_Str_offOf_61 l_Str_29 (Nat.le_of_ble_eq_true rfl) (Nat.le_of_ble_eq_true rfl) (Nat.le_of_ble_eq_true rfl) ?_
  refine a_max d_Str_offOf_64 l_Str_35 (Nat.le_of_ble_eq_true rfl) (Nat.le_of_ble_eq_true rfl) (Nat.le_of_ble_eq_true rfl) ?_
  rw [e1, e2, e3]
  refine a_istore d_Str_offOf_67 (Nat.le_of_ble_eq_true rfl) (Nat.le_of_ble_eq_true rfl) rfl ?_
  refine a_iload d_Str_offOf_69 rfl ?_
  refine a_if_ne 76 d_Str_offOf_71 (by decide) (fun c71 => ?_) (fun c71 => ?_)
  · skip
    refine a_iconst (v := 0) d_Str_offOf_76 (by decide) ?_
    refine a_istore d_Str_offOf_77 (Nat.le_of_ble_eq_true rfl) (Nat.le_of_ble_eq_true rfl) rfl ?_
    refine a_iconst (v := 1) d_Str_offOf_79 (by decide) ?_
    refine a_istore d_Str_offOf_80 (Nat.le_of_ble_eq_true rfl) (Nat.le_of_ble_eq_true rfl) rfl ?_
    exact L_offOf g19 g20 g21 g24 gb hP hs Rw S hi hs1 hs2 (fun q => c71 (by rw [q]; rfl)) (s - 1) 1 (by omega) (Nat.le_refl 1) 0 (sq_1 _ _)
  · skip
    refine a_iconst (v := -1) d_Str_offOf_74 (by decide) ?_
    exact a_iret d_Str_offOf_75 rfl (by rw [show gA X Y P i s = 0 from (nI_eq (by omega) (by omega)).mp c71] at eo; rw [eo rfl]; rfl) rfl rfl
end
