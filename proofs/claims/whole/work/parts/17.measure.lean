/-! Stretches.longestFrom, measure: printed by wip/whole/t17.py -/
/-- the greatest of 2 to n that has p; else 1 -/
def lgD (p : Nat → Bool) : Nat → Nat
  | 0 => 1
  | n + 1 => if n = 0 then 1 else if p (n + 1) then n + 1 else lgD p n
theorem lgD_s (p : Nat → Bool) {s : Nat} (hs : 1 ≤ s) : (if p s then s else lgD p (s - 1)) = lgD p s := by
  cases s with
  | zero => omega
  | succ n =>
    show _ = if n = 0 then 1 else if p (n + 1) then n + 1 else lgD p n
    by_cases e : n = 0
    · subst e
      rw [if_pos rfl]
      split <;> rfl
    · rw [if_neg e, Nat.add_sub_cancel]
theorem lgD_b (p : Nat → Bool) : ∀ n, 1 ≤ lgD p n ∧ (lgD p n ≤ n ∨ lgD p n = 1)
  | 0 => ⟨Nat.le_refl 1, Or.inr rfl⟩
  | n + 1 => by
    have ih := lgD_b p n
    have e : lgD p (n + 1) = if n = 0 then 1 else if p (n + 1) then n + 1 else lgD p n := rfl
    rw [e]
    split
    · omega
    · split <;> omega
def stq (X Y : Nat → Int) (P i : Nat) (s : Nat) : Bool := (off X Y P i s).isSome
def lgst (X Y : Nat → Int) (P i : Nat) : Nat := lgD (stq X Y P i) (min (P - 1) 12)
theorem oI_m1 {o : Option Nat} (hb : ∀ a, o = some a → a < 2 ^ 31) : oI o = -1 ↔ o.isSome = false := by
  cases o with
  | none => simp [oI]
  | some a =>
    simp only [oI, Option.isSome_some]
    constructor
    · intro q
      have := hb a rfl
      have h0 : ¬ nI a < 0 := nI_pos this
      rw [q] at h0
      exact absurd (by decide : (-1 : Int32) < 0) h0
    · intro q; cases q
theorem off_b {X Y : Nat → Int} (S : Sh X Y) {P i s a : Nat} (h : off X Y P i s = some a) : a ≤ s * 16384 := by
  unfold off at h
  split at h
  · cases h
  · have := sq_b (cA_b S P i s) h
    omega
theorem off_lt {X Y : Nat → Int} (S : Sh X Y) {P i s : Nat} (hs : s < 1000) : ∀ a, off X Y P i s = some a → a < 2 ^ 31 := by
  intro a h
  have := off_b S h
  omega
section
variable {V : VV} {h : AH} {n z : Nat}

set_option maxRecDepth 20000 in
set_option maxHeartbeats 4000000 in
theorem L_longest {s0 P b : Nat} {fi : Int32} {wi : Int64} {me ve bo wk jn sz : Int32} {dt : Int64} {xs ys : Nat → Int32} {X Y : Nat → Int} (g19 : h 19 = oBrs wk dt jn sz) (g20 : h 20 = aI 144 xs) (g21 : h 21 = aI 144 ys) (g24 : h 24 = oStr) (gb : h b = oBrd (nI s0) (nI P) fi wi me ve bo) (hP : 0 < P) (hs : s0 + P ≤ 144) (Rw : Row xs ys s0 P X Y) (S : Sh X Y) {i : Nat} (hi : i < 1000) : ∀ (s : Nat), s < 1000 → AM V i_Str_longestFrom 3 n z (some (.int (nI (lgD (stq X Y P i) s)))) h n z 12 [some (.ref 24), some (.ref b), some (.int (nI i)), some (.int (nI s))] [] h n z := by
  intro s
  induction s with
  | zero =>
    intro hs9
    refine a_iload_n d_Str_longestFrom_12 rfl ?_
    refine a_iconst (v := 1) d_Str_longestFrom_13 (by decide) ?_
    refine a_icmp_le 36 d_Str_longestFrom_14 (by decide) (fun c14 => ?_) (fun c14 => absurd (nI_le (b := 1) (show 0 ≤ 1 by omega) (by omega)) c14)
    refine a_iconst (v := 1) d_Str_longestFrom_36 (by decide) ?_
    exact a_iret d_Str_longestFrom_37 rfl rfl rfl rfl
  | succ s ih =>
    intro hs9
    by_cases e0 : s = 0
    · subst e0
      refine a_iload_n d_Str_longestFrom_12 rfl ?_
      refine a_iconst (v := 1) d_Str_longestFrom_13 (by decide) ?_
      refine a_icmp_le 36 d_Str_longestFrom_14 (by decide) (fun c14 => ?_) (fun c14 => absurd (nI_le (b := 1) (Nat.le_refl 1) (by omega)) c14)
      refine a_iconst (v := 1) d_Str_longestFrom_36 (by decide) ?_
      exact a_iret d_Str_longestFrom_37 rfl rfl rfl rfl
    · have el := lgD_s (stq X Y P i) (s := s + 1) (by omega)
      have eo := oI_m1 (off_lt S (P := P) (i := i) (s := s + 1) hs9)
      refine a_iload_n d_Str_longestFrom_12 rfl ?_
      refine a_iconst (v := 1) d_Str_longestFrom_13 (by decide) ?_
      refine a_icmp_le 36 d_Str_longestFrom_14 (by decide) (fun c14 => absurd c14 (fun q => absurd ((nI_leI (b := 1) (by omega) (by omega)).mp q) (by omega))) (fun c14 => ?_)
      refine a_aload_n d_Str_longestFrom_17 rfl ?_
      refine a_aload_n d_Str_longestFrom_18 rfl ?_
      refine a_iload_n d_Str_longestFrom_19 rfl ?_
      refine a_iload_n d_Str_longestFrom_20 rfl ?_
      refine a_cv0 d_Str_longestFrom_21 m_Str_offOf t_Str_offOf l_Str_48 g24 rfl rfl (s_Str_offOf g19 g20 g21 g24 gb hP hs Rw S (by omega) (by omega) (by omega)) rfl rfl ⟨Nat.le_of_ble_eq_true rfl, Nat.le_of_ble_eq_true rfl⟩ (Nat.le_of_ble_eq_true rfl)  ?_
      refine a_iconst (v := -1) d_Str_longestFrom_24 (by decide) ?_
      refine a_icmp_eq 30 d_Str_longestFrom_25 (by decide) (fun c25 => ?_) (fun c25 => ?_)
      · skip
        refine a_iinc d_Str_longestFrom_30 rfl (show nI (s + 1) + Int32.ofInt (-1) = nI s from pk_m1 s) (Nat.le_of_ble_eq_true rfl) rfl ?_
        refine a_goto 12 d_Str_longestFrom_33 (by decide) ?_
        have q := eo.mp c25
        rw [show (off X Y P i (s + 1)).isSome = stq X Y P i (s + 1) from rfl] at q
        rw [q] at el
        rw [← el, if_neg (by decide)]
        exact ih (by omega)
      · skip
        refine a_iload_n d_Str_longestFrom_28 rfl ?_
        exact a_iret d_Str_longestFrom_29 rfl (by rw [← el, if_pos (by cases q : stq X Y P i (s + 1) with | true => rfl | false => exact absurd (eo.mpr q) c25)]) rfl rfl
set_option maxRecDepth 20000 in
set_option maxHeartbeats 4000000 in
theorem s_Str_longestFrom {s0 P b : Nat} {fi : Int32} {wi : Int64} {me ve bo wk jn sz : Int32} {dt : Int64} {xs ys : Nat → Int32} {X Y : Nat → Int} (g19 : h 19 = oBrs wk dt jn sz) (g20 : h 20 = aI 144 xs) (g21 : h 21 = aI 144 ys) (g24 : h 24 = oStr) (gb : h b = oBrd (nI s0) (nI P) fi wi me ve bo) (hP : 0 < P) (hs : s0 + P ≤ 144) (Rw : Row xs ys s0 P X Y) (S : Sh X Y) {i : Nat} (hi : i < 1000) : AMet V i_Str_longestFrom 3 [.ref 24, .ref b, .int (nI i)] h n z (some (.int (nI (lgst X Y P i)))) h n z := by
  have e1 : fMin (nI P - 1) 12 = nI (min (P - 1) 12) := by
    rw [show (1 : Int32) = nI 1 from rfl, pk_sub (show 1 ≤ P by omega)]
    exact fMin_n (b := 12) (by omega) (by omega)
  refine AMet.intro (Nat.le_refl _) (Nat.le_refl _) (by decide) (Nat.le_of_ble_eq_true rfl) rfl ?_
  refine a_aload_n d_Str_longestFrom_0 rfl ?_
  refine a_getf d_Str_longestFrom_1 f_Str_39 gb rfl ?_
  refine a_iconst (v := 1) d_Str_longestFrom_4 (by decide) ?_
  refine a_isub d_Str_longestFrom_5 ?_
  refine a_bipush (v := 12) d_Str_longestFrom_6 (by decide) ?_
  refine a_min d_Str_longestFrom_8 l_Str_45 (Nat.le_of_ble_eq_true rfl) (Nat.le_of_ble_eq_true rfl) (Nat.le_of_ble_eq_true rfl) ?_
  refine a_istore_n d_Str_longestFrom_11 (Nat.le_of_ble_eq_true rfl) (Nat.le_of_ble_eq_true rfl) rfl ?_
  rw [e1]
  exact L_longest g19 g20 g21 g24 gb hP hs Rw S hi (min (P - 1) 12) (by omega)
theorem hu2 (h : AH) {a b : Nat} (e : a ≠ b) (x y x' y' : AC) : hu (hu (hu (hu h a x) b y) b y') a x' = hu (hu h a x') b y' := by
  rw [hu_hu, hu_comm _ e, hu_hu, hu_comm _ (Ne.symm e)]
theorem upd_self (f : Nat → Int32) (k : Nat) (x : Int32) : upd f k x k = x := by simp [upd]
theorem upd_upd (f : Nat → Int32) (k : Nat) (x y : Int32) : upd (upd f k x) k y = upd f k y := by
  funext j
  by_cases e : j = k <;> simp [upd, e]
/-- the row of a corner's stretches, when those of fewer than s steps are written -/
def ofR (of : Nat → Int32) (p m : Nat) (X Y : Nat → Int) (P i : Nat) : Nat → Int32 := pt of (p * 13 + 1) m (fun k => oI (off X Y P i (k + 1)))
def ofN (of : Nat → Int32) (s0 m : Nat) (X Y : Nat → Int) (P : Nat) : Nat → Nat → Int32
  | 0 => of
  | i + 1 => ofR (ofN of s0 m X Y P i) (s0 + i) m X Y P i
def reN (re : Nat → Int32) (s0 : Nat) (X Y : Nat → Int) (P i : Nat) : Nat → Int32 := pt re s0 i (fun k => nI (lgst X Y P k))
theorem ofN_out (of : Nat → Int32) (s0 m : Nat) (hm : m ≤ 12) (X Y : Nat → Int) (P : Nat) {j : Nat} : ∀ i, (j < s0 * 13 ∨ (s0 + i) * 13 ≤ j) → ofN of s0 m X Y P i j = of j
  | 0, _ => rfl
  | i + 1, h => by
    have e : ofN of s0 m X Y P (i + 1) = pt (ofN of s0 m X Y P i) ((s0 + i) * 13 + 1) m (fun k => oI (off X Y P i (k + 1))) := rfl
    rw [e, pt_out (by omega)]
    exact ofN_out of s0 m hm X Y P i (by omega)
theorem ofN_in (of : Nat → Int32) (s0 m : Nat) (hm : m ≤ 12) (X Y : Nat → Int) (P : Nat) : ∀ i k s, k < i → 1 ≤ s → s ≤ m → ofN of s0 m X Y P i ((s0 + k) * 13 + s) = oI (off X Y P k s)
  | 0, k, s, h, _, _ => absurd h (Nat.not_lt_zero k)
  | i + 1, k, s, h, h1, h2 => by
    have e : ofN of s0 m X Y P (i + 1) = pt (ofN of s0 m X Y P i) ((s0 + i) * 13 + 1) m (fun k => oI (off X Y P i (k + 1))) := rfl
    rw [e]
    rcases Nat.lt_or_ge k i with q | q
    · rw [pt_out (by omega)]
      exact ofN_in of s0 m hm X Y P i k s q h1 h2
    · have e : k = i := by omega
      subst e
      rw [show (s0 + k) * 13 + s = (s0 + k) * 13 + 1 + (s - 1) by omega, pt_in (by omega), show s - 1 + 1 = s by omega]
set_option maxRecDepth 20000 in
set_option maxHeartbeats 4000000 in
theorem L_measI {s0 P b : Nat} {fi : Int32} {wi : Int64} {me ve bo wk jn sz : Int32} {dt : Int64} {xs ys : Nat → Int32} {X Y : Nat → Int} (g19 : h 19 = oBrs wk dt jn sz) (g20 : h 20 = aI 144 xs) (g21 : h 21 = aI 144 ys) (g24 : h 24 = oStr) (gb : h b = oBrd (nI s0) (nI P) fi wi me ve bo) (hP : 0 < P) (hs : s0 + P ≤ 144) (Rw : Row xs ys s0 P X Y) (S : Sh X Y) (hb : 53 ≤ b) {re of : Nat → Int32} {i p M : Nat} (hi : i < 1000) (hp : p < 144) (hM : M ≤ 12) : ∀ (m s : Nat), s + m = M + 1 → 1 ≤ s → Rc V i_Str_measure 3 67 [some (.ref 24), some (.ref b), some (.int (nI M)), some (.int (nI i)), some (.int (nI p)), some (.int (nI s)), none] [] (hu (hu h 26 (aI 144 (upd re p (nI (lgD (stq X Y P i) (s - 1)))))) 25 (aI 1872 (ofR of p (s - 1) X Y P i))) n z 129 [some (.ref 24), some (.ref b), some (.int (nI M)), some (.int (nI i)), some (.int (nI p)), some (.int (nI (M + 1))), none] [] (hu (hu h 26 (aI 144 (upd re p (nI (lgD (stq X Y P i) M))))) 25 (aI 1872 (ofR of p M X Y P i))) n z := by
  intro m
  induction m with
  | zero =>
    intro s hsm hs1 mc ms Qf n0 z0 q1 q2 K
    have e : s = M + 1 := by omega
    subst e
    rw [Nat.add_sub_cancel]
    refine a_iload d_Str_measure_67 rfl ?_
    refine a_iload_n d_Str_measure_69 rfl ?_
    refine a_icmp_gt 129 d_Str_measure_70 (by decide) (fun c70 => ?_) (fun c70 => absurd (nI_lt (Nat.lt_succ_self M) (by omega)) c70)
    exact K
  | succ m ih =>
    intro s hsm hs1 mc ms Qf n0 z0 q1 q2 K
    have ih := fun s a b => ih s a b mc ms Qf n0 z0 q1 q2 K
    have el := lgD_s (stq X Y P i) hs1
    have eo := oI_m1 (off_lt S (P := P) (i := i) (s := s) (by omega))
    rw [show (off X Y P i s).isSome = stq X Y P i s from rfl] at eo
    have ep : nI p * 13 + nI s = nI (p * 13 + s) := by rw [show (13 : Int32) = nI 13 from rfl, pk_mul, nI_add]
    have k19 : (hu (hu h 26 (aI 144 (upd re p (nI (lgD (stq X Y P i) (s - 1)))))) 25 (aI 1872 (ofR of p (s - 1) X Y P i))) 19 = oBrs wk dt jn sz := g19
    have k20 : (hu (hu h 26 (aI 144 (upd re p (nI (lgD (stq X Y P i) (s - 1)))))) 25 (aI 1872 (ofR of p (s - 1) X Y P i))) 20 = aI 144 xs := g20
    have k21 : (hu (hu h 26 (aI 144 (upd re p (nI (lgD (stq X Y P i) (s - 1)))))) 25 (aI 1872 (ofR of p (s - 1) X Y P i))) 21 = aI 144 ys := g21
    have k24 : (hu (hu h 26 (aI 144 (upd re p (nI (lgD (stq X Y P i) (s - 1)))))) 25 (aI 1872 (ofR of p (s - 1) X Y P i))) 24 = oStr := g24
    have kb : (hu (hu h 26 (aI 144 (upd re p (nI (lgD (stq X Y P i) (s - 1)))))) 25 (aI 1872 (ofR of p (s - 1) X Y P i))) b = oBrd (nI s0) (nI P) fi wi me ve bo := by rw [hu_n (by omega), hu_n (by omega)]; exact gb
    cases hq : stq X Y P i s with
    | true =>
      refine a_iload d_Str_measure_67 rfl ?_
      refine a_iload_n d_Str_measure_69 rfl ?_
      refine a_icmp_gt 129 d_Str_measure_70 (by decide) (fun c70 => absurd c70 (nI_nlt (show s ≤ M by omega) (by omega))) (fun c70 => ?_)
      refine a_aload_n d_Str_measure_73 rfl ?_
      refine a_aload_n d_Str_measure_74 rfl ?_
      refine a_iload_n d_Str_measure_75 rfl ?_
      refine a_iload d_Str_measure_76 rfl ?_
      refine a_cv0 d_Str_measure_78 m_Str_offOf t_Str_offOf l_Str_48 k24 rfl rfl (s_Str_offOf k19 k20 k21 k24 kb hP hs Rw S (by omega) hs1 (by omega)) rfl rfl ⟨Nat.le_of_ble_eq_true rfl, Nat.le_of_ble_eq_true rfl⟩ (Nat.le_of_ble_eq_true rfl)  ?_
      refine a_istore d_Str_measure_81 (Nat.le_of_ble_eq_true rfl) (Nat.le_of_ble_eq_true rfl) rfl ?_
      refine a_aload_n d_Str_measure_83 rfl ?_
      refine a_getf d_Str_measure_84 f_Str_11 k24 rfl ?_
      refine a_iload d_Str_measure_87 rfl ?_
      refine a_bipush (v := 13) d_Str_measure_89 (by decide) ?_
      refine a_imul d_Str_measure_91 ?_
      refine a_iload d_Str_measure_92 rfl ?_
      refine a_iadd d_Str_measure_94 ?_
      refine a_iload d_Str_measure_95 rfl ?_
      refine a_iast d_Str_measure_97 rfl (by rw [ep]; exact vp_in_nI (by omega) (by omega)) ?_
      refine a_aload_n d_Str_measure_98 rfl ?_
      refine a_getf d_Str_measure_99 f_Str_15 k24 rfl ?_
      refine a_iload d_Str_measure_102 rfl ?_
      refine a_iload d_Str_measure_104 rfl ?_
      refine a_iconst (v := -1) d_Str_measure_106 (by decide) ?_
      refine a_icmp_ne 120 d_Str_measure_107 (by decide) (fun c107 => ?_) (fun c107 => absurd c107 (fun q => by rw [eo.mp q] at hq; cases hq))
      refine a_iload d_Str_measure_120 rfl ?_
      refine a_iast d_Str_measure_122 rfl (vp_in_nI hp (by omega)) ?_
      refine a_iinc d_Str_measure_123 rfl (nI_1 s) (Nat.le_of_ble_eq_true rfl) rfl ?_
      refine a_goto 67 d_Str_measure_126 (by decide) ?_
      refine a_drop 6 ?_
      refine a_eq rfl rfl rfl ?_ rfl rfl (ih (s + 1) (by omega) (by omega))
      rw [ep, nI_clamp (show p < 2 ^ 31 by omega), nI_clamp (show p * 13 + s < 2 ^ 31 by omega), hu2 _ (by decide), Nat.add_sub_cancel]
      congr 1
      · congr 3
        rw [upd_upd]
        rw [← el, if_pos hq]
      · congr 3
        unfold ofR
        have := pt_s of (p * 13 + 1) (s - 1) (fun k => oI (off X Y P i (k + 1)))
        rw [show p * 13 + 1 + (s - 1) = p * 13 + s by omega, show s - 1 + 1 = s by omega] at this
        exact this
    | false =>
      refine a_iload d_Str_measure_67 rfl ?_
      refine a_iload_n d_Str_measure_69 rfl ?_
      refine a_icmp_gt 129 d_Str_measure_70 (by decide) (fun c70 => absurd c70 (nI_nlt (show s ≤ M by omega) (by omega))) (fun c70 => ?_)
      refine a_aload_n d_Str_measure_73 rfl ?_
      refine a_aload_n d_Str_measure_74 rfl ?_
      refine a_iload_n d_Str_measure_75 rfl ?_
      refine a_iload d_Str_measure_76 rfl ?_
      refine a_cv0 d_Str_measure_78 m_Str_offOf t_Str_offOf l_Str_48 k24 rfl rfl (s_Str_offOf k19 k20 k21 k24 kb hP hs Rw S (by omega) hs1 (by omega)) rfl rfl ⟨Nat.le_of_ble_eq_true rfl, Nat.le_of_ble_eq_true rfl⟩ (Nat.le_of_ble_eq_true rfl)  ?_
      refine a_istore d_Str_measure_81 (Nat.le_of_ble_eq_true rfl) (Nat.le_of_ble_eq_true rfl) rfl ?_
      refine a_aload_n d_Str_measure_83 rfl ?_
      refine a_getf d_Str_measure_84 f_Str_11 k24 rfl ?_
      refine a_iload d_Str_measure_87 rfl ?_
      refine a_bipush (v := 13) d_Str_measure_89 (by decide) ?_
      refine a_imul d_Str_measure_91 ?_
      refine a_iload d_Str_measure_92 rfl ?_
      refine a_iadd d_Str_measure_94 ?_
      refine a_iload d_Str_measure_95 rfl ?_
      refine a_iast d_Str_measure_97 rfl (by rw [ep]; exact vp_in_nI (by omega) (by omega)) ?_
      refine a_aload_n d_Str_measure_98 rfl ?_
      refine a_getf d_Str_measure_99 f_Str_15 k24 rfl ?_
      refine a_iload d_Str_measure_102 rfl ?_
      refine a_iload d_Str_measure_104 rfl ?_
      refine a_iconst (v := -1) d_Str_measure_106 (by decide) ?_
      refine a_icmp_ne 120 d_Str_measure_107 (by decide) (fun c107 => absurd c107 (fun q => q (eo.mpr hq))) (fun c107 => ?_)
      refine a_aload_n d_Str_measure_110 rfl ?_
      refine a_getf d_Str_measure_111 f_Str_15 k24 rfl ?_
      refine a_iload d_Str_measure_114 rfl ?_
      refine a_iald d_Str_measure_116 rfl (vp_in_nI hp (by omega)) ?_
      refine a_goto 122 d_Str_measure_117 (by decide) ?_
      refine a_iast d_Str_measure_122 rfl (vp_in_nI hp (by omega)) ?_
      refine a_iinc d_Str_measure_123 rfl (nI_1 s) (Nat.le_of_ble_eq_true rfl) rfl ?_
      refine a_goto 67 d_Str_measure_126 (by decide) ?_
      refine a_drop 6 ?_
      refine a_eq rfl rfl rfl ?_ rfl rfl (ih (s + 1) (by omega) (by omega))
      rw [ep, nI_clamp (show p < 2 ^ 31 by omega), nI_clamp (show p * 13 + s < 2 ^ 31 by omega), hu2 _ (by decide), Nat.add_sub_cancel]
      congr 1
      · congr 3
        rw [upd_upd]
        rw [upd_self, ← el, if_neg (by rw [hq]; decide)]
      · congr 3
        unfold ofR
        have := pt_s of (p * 13 + 1) (s - 1) (fun k => oI (off X Y P i (k + 1)))
        rw [show p * 13 + 1 + (s - 1) = p * 13 + s by omega, show s - 1 + 1 = s by omega] at this
        exact this
set_option maxRecDepth 20000 in
set_option maxHeartbeats 4000000 in
theorem L_measO {s0 P b : Nat} {fi : Int32} {wi : Int64} {me ve bo wk jn sz : Int32} {dt : Int64} {xs ys : Nat → Int32} {X Y : Nat → Int} (g19 : h 19 = oBrs wk dt jn sz) (g20 : h 20 = aI 144 xs) (g21 : h 21 = aI 144 ys) (g24 : h 24 = oStr) (gb : h b = oBrd (nI s0) (nI P) fi wi me ve bo) (hP : 0 < P) (hs : s0 + P ≤ 144) (Rw : Row xs ys s0 P X Y) (S : Sh X Y) (hb : 53 ≤ b) {re of : Nat → Int32} (g25 : h 25 = aI 1872 of) (g26 : h 26 = aI 144 re) {M : Nat} (hM : M = min (P - 1) 12) : ∀ (m i : Nat), i + m = P → Rc V i_Str_measure 3 27 [some (.ref 24), some (.ref b), some (.int (nI M)), some (.int (nI i)), none, none, none] [] (hu (hu h 26 (aI 144 (reN re s0 X Y P i))) 25 (aI 1872 (ofN of s0 M X Y P i))) n z 135 [some (.ref 24), some (.ref b), some (.int (nI M)), some (.int (nI P)), none, none, none] [] (hu (hu h 26 (aI 144 (reN re s0 X Y P P))) 25 (aI 1872 (ofN of s0 M X Y P P))) n z := by
  have hM12 : M ≤ 12 := by omega
  intro m
  induction m with
  | zero =>
    intro i him mc ms Qf n0 z0 q1 q2 K
    have e : P = i := by omega
    subst e
    have kb : (hu (hu h 26 (aI 144 (reN re s0 X Y P P))) 25 (aI 1872 (ofN of s0 M X Y P P))) b = oBrd (nI s0) (nI P) fi wi me ve bo := by rw [hu_n (by omega), hu_n (by omega)]; exact gb
    refine a_iload_n d_Str_measure_27 rfl ?_
    refine a_aload_n d_Str_measure_28 rfl ?_
    refine a_getf d_Str_measure_29 f_Str_39 kb rfl ?_
    refine a_icmp_ge 135 d_Str_measure_32 (by decide) (fun c32 => ?_) (fun c32 => absurd (nI_le (Nat.le_refl P) (by omega)) c32)
    exact K
  | succ m ih =>
    intro i him mc ms Qf n0 z0 q1 q2 K
    have k19 : (hu (hu h 26 (aI 144 (reN re s0 X Y P i))) 25 (aI 1872 (ofN of s0 M X Y P i))) 19 = oBrs wk dt jn sz := g19
    have k20 : (hu (hu h 26 (aI 144 (reN re s0 X Y P i))) 25 (aI 1872 (ofN of s0 M X Y P i))) 20 = aI 144 xs := g20
    have k21 : (hu (hu h 26 (aI 144 (reN re s0 X Y P i))) 25 (aI 1872 (ofN of s0 M X Y P i))) 21 = aI 144 ys := g21
    have k24 : (hu (hu h 26 (aI 144 (reN re s0 X Y P i))) 25 (aI 1872 (ofN of s0 M X Y P i))) 24 = oStr := g24
    have kb : (hu (hu h 26 (aI 144 (reN re s0 X Y P i))) 25 (aI 1872 (ofN of s0 M X Y P i))) b = oBrd (nI s0) (nI P) fi wi me ve bo := by rw [hu_n (by omega), hu_n (by omega)]; exact gb
    have ep := s_Brd_placeN (V := V) (n := n) (z := z) kb hP hs (K := i) (by omega)
    rw [Nat.mod_eq_of_lt (show i < P by omega)] at ep
    have hin : hu (hu (hu h 26 (aI 144 (reN re s0 X Y P i))) 25 (aI 1872 (ofN of s0 M X Y P i))) 26 (aI 144 (upd (reN re s0 X Y P i) (s0 + i) 1)) = hu (hu h 26 (aI 144 (upd (reN re s0 X Y P i) (s0 + i) (nI (lgD (stq X Y P i) (1 - 1)))))) 25 (aI 1872 (ofR (ofN of s0 M X Y P i) (s0 + i) (1 - 1) X Y P i)) := by
      rw [hu_comm _ (by decide), hu_hu, show ofR (ofN of s0 M X Y P i) (s0 + i) (1 - 1) X Y P i = ofN of s0 M X Y P i from pt_0 _ _ _]
      rfl
    have hout : hu (hu h 26 (aI 144 (upd (reN re s0 X Y P i) (s0 + i) (nI (lgD (stq X Y P i) M))))) 25 (aI 1872 (ofR (ofN of s0 M X Y P i) (s0 + i) M X Y P i)) = hu (hu h 26 (aI 144 (reN re s0 X Y P (i + 1)))) 25 (aI 1872 (ofN of s0 M X Y P (i + 1))) := by
      have e := pt_s re s0 i (fun k => nI (lgst X Y P k))
      have e2 : nI (lgst X Y P i) = nI (lgD (stq X Y P i) M) := by rw [hM]; rfl
      have e3 : reN re s0 X Y P (i + 1) = upd (reN re s0 X Y P i) (s0 + i) (nI (lgD (stq X Y P i) M)) := by rw [← e2]; exact e.symm
      rw [e3]
      rfl
    have K1 := L_measI (V := V) (n := n) (z := z) g19 g20 g21 g24 gb hP hs Rw S hb (re := reN re s0 X Y P i) (of := ofN of s0 M X Y P i) (i := i) (p := s0 + i) (M := M) (by omega) (by omega) hM12 M 1 (by omega) (Nat.le_refl 1) mc ms Qf n0 z0 q1 q2
    rw [hout] at K1
    refine a_iload_n d_Str_measure_27 rfl ?_
    refine a_aload_n d_Str_measure_28 rfl ?_
    refine a_getf d_Str_measure_29 f_Str_39 kb rfl ?_
    refine a_icmp_ge 135 d_Str_measure_32 (by decide) (fun c32 => absurd c32 (nI_ge (show i < P by omega) (by omega))) (fun c32 => ?_)
    refine a_aload_n d_Str_measure_35 rfl ?_
    refine a_iload_n d_Str_measure_36 rfl ?_
    refine a_cv0 d_Str_measure_37 m_Brd_place t_Brd_place l_Str_56 kb rfl rfl ep rfl rfl ⟨Nat.le_of_ble_eq_true rfl, Nat.le_of_ble_eq_true rfl⟩ (Nat.le_of_ble_eq_true rfl)  ?_
    refine a_istore d_Str_measure_40 (Nat.le_of_ble_eq_true rfl) (Nat.le_of_ble_eq_true rfl) rfl ?_
    refine a_iload d_Str_measure_42 rfl ?_
    refine a_if_lt 55 d_Str_measure_44 (by decide) (fun c44 => absurd c44 (nI_pos (by omega))) (fun c44 => ?_)
    refine a_iload d_Str_measure_47 rfl ?_
    refine a_sipush (v := 144) d_Str_measure_49 (by decide) ?_
    refine a_icmp_lt 56 d_Str_measure_52 (by decide) (fun c52 => ?_) (fun c52 => absurd (nI_lt (b := 144) (show s0 + i < 144 by omega) (by omega)) c52)
    refine a_aload_n d_Str_measure_56 rfl ?_
    refine a_getf d_Str_measure_57 f_Str_15 k24 rfl ?_
    refine a_iload d_Str_measure_60 rfl ?_
    refine a_iconst (v := 1) d_Str_measure_62 (by decide) ?_
    refine a_iast d_Str_measure_63 (show _ = aI 144 (reN re s0 X Y P i) from rfl) (vp_in_nI (by omega) (by omega)) ?_
    refine a_iconst (v := 1) d_Str_measure_64 (by decide) ?_
    refine a_istore d_Str_measure_65 (Nat.le_of_ble_eq_true rfl) (Nat.le_of_ble_eq_true rfl) rfl ?_
    rw [nI_clamp (show s0 + i < 2 ^ 31 by omega)]
    refine a_eq rfl rfl rfl hin rfl rfl (K1 ?_)
    refine a_iinc d_Str_measure_129 rfl (nI_1 i) (Nat.le_of_ble_eq_true rfl) rfl ?_
    refine a_goto 27 d_Str_measure_132 (by decide) ?_
    refine a_drop 4 ?_
    refine a_drop 5 ?_
    exact ih (i + 1) (by omega) mc ms Qf n0 z0 q1 q2 K
set_option maxRecDepth 20000 in
set_option maxHeartbeats 4000000 in
theorem s_Str_measure {s0 P b : Nat} {fi : Int32} {wi : Int64} {ve bo wk jn sz : Int32} {dt : Int64} {xs ys : Nat → Int32} {X Y : Nat → Int} (g19 : h 19 = oBrs wk dt jn sz) (g20 : h 20 = aI 144 xs) (g21 : h 21 = aI 144 ys) (g24 : h 24 = oStr) (gb : h b = oBrd (nI s0) (nI P) fi wi 0 ve bo) (hP : 0 < P) (hs : s0 + P ≤ 144) (Rw : Row xs ys s0 P X Y) (S : Sh X Y) (hb : 53 ≤ b) {re of : Nat → Int32} (g25 : h 25 = aI 1872 of) (g26 : h 26 = aI 144 re) : AMet V i_Str_measure 3 [.ref 24, .ref b] h n z none (hu (hu (hu h b (oBrd (nI s0) (nI P) fi wi 1 ve bo)) 26 (aI 144 (reN re s0 X Y P P))) 25 (aI 1872 (ofN of s0 (min (P - 1) 12) X Y P P))) n z := by
  have e1 : fMin (nI P - 1) 12 = nI (min (P - 1) 12) := by
    rw [show (1 : Int32) = nI 1 from rfl, pk_sub (show 1 ≤ P by omega)]
    exact fMin_n (b := 12) (by omega) (by omega)
  have k19 : (hu h b (oBrd (nI s0) (nI P) fi wi 1 ve bo)) 19 = oBrs wk dt jn sz := by rw [hu_n (by omega)]; exact g19
  have k20 : (hu h b (oBrd (nI s0) (nI P) fi wi 1 ve bo)) 20 = aI 144 xs := by rw [hu_n (by omega)]; exact g20
  have k21 : (hu h b (oBrd (nI s0) (nI P) fi wi 1 ve bo)) 21 = aI 144 ys := by rw [hu_n (by omega)]; exact g21
  have k24 : (hu h b (oBrd (nI s0) (nI P) fi wi 1 ve bo)) 24 = oStr := by rw [hu_n (by omega)]; exact g24
  have k25 : (hu h b (oBrd (nI s0) (nI P) fi wi 1 ve bo)) 25 = aI 1872 of := by rw [hu_n (by omega)]; exact g25
  have k26 : (hu h b (oBrd (nI s0) (nI P) fi wi 1 ve bo)) 26 = aI 144 re := by rw [hu_n (by omega)]; exact g26
  have h0 : hu (hu (hu h b (oBrd (nI s0) (nI P) fi wi 1 ve bo)) 26 (aI 144 (reN re s0 X Y P 0))) 25 (aI 1872 (ofN of s0 (min (P - 1) 12) X Y P 0)) = hu h b (oBrd (nI s0) (nI P) fi wi 1 ve bo) := by
    rw [show reN re s0 X Y P 0 = re from pt_0 _ _ _, hu_same k26]
    exact hu_same k25
  refine AMet.intro (Nat.le_refl _) (Nat.le_refl _) (by decide) (Nat.le_of_ble_eq_true rfl) rfl ?_
  refine a_aload_n d_Str_measure_0 rfl ?_
  refine a_getf d_Str_measure_1 f_Str_52 gb rfl ?_
  refine a_if_eq 8 d_Str_measure_4 (by decide) (fun c4 => ?_) (fun c4 => absurd rfl c4)
  refine a_aload_n d_Str_measure_8 rfl ?_
  refine a_iconst (v := 1) d_Str_measure_9 (by decide) ?_
  refine a_putf d_Str_measure_10 f_Str_52 rfl gb (Nat.le_of_ble_eq_true rfl) rfl rfl ?_
  refine a_aload_n d_Str_measure_13 rfl ?_
  refine a_getf d_Str_measure_14 f_Str_39 (hu_s _ _ _) rfl ?_
  refine a_iconst (v := 1) d_Str_measure_17 (by decide) ?_
  refine a_isub d_Str_measure_18 ?_
  refine a_bipush (v := 12) d_Str_measure_19 (by decide) ?_
  refine a_min d_Str_measure_21 l_Str_45 (Nat.le_of_ble_eq_true rfl) (Nat.le_of_ble_eq_true rfl) (Nat.le_of_ble_eq_true rfl) ?_
  refine a_istore_n d_Str_measure_24 (Nat.le_of_ble_eq_true rfl) (Nat.le_of_ble_eq_true rfl) rfl ?_
  refine a_iconst (v := 0) d_Str_measure_25 (by decide) ?_
  refine a_istore_n d_Str_measure_26 (Nat.le_of_ble_eq_true rfl) (Nat.le_of_ble_eq_true rfl) rfl ?_
  rw [e1]
  refine (L_measO k19 k20 k21 k24 (hu_s _ _ _) hP hs Rw S hb k25 k26 rfl P 0 (by omega)).use' ?_ ?_
  · rw [h0]
    rfl
  · exact a_vret d_Str_measure_135 rfl rfl rfl rfl
set_option maxRecDepth 20000 in
set_option maxHeartbeats 4000000 in
theorem s_Str_measured {b : Nat} {a1 a2 a3 a6 a7 : Int32} {a4 : Int64} (gb : h b = oBrd a1 a2 a3 a4 1 a6 a7) : AMet V i_Str_measure 3 [.ref 24, .ref b] h n z (none) (h) n z := by
  refine AMet.intro (Nat.le_refl _) (Nat.le_refl _) (by decide) (Nat.le_of_ble_eq_true rfl) rfl ?_
  refine a_aload_n d_Str_measure_0 rfl ?_
  refine a_getf d_Str_measure_1 f_Str_52 gb rfl ?_
  refine a_if_eq 8 d_Str_measure_4 (by decide) (fun c4 => absurd c4 (by decide)) (fun c4 => ?_)
  exact a_vret d_Str_measure_7 rfl rfl rfl rfl
end
