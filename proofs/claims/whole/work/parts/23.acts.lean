/-! fewestThrough, turningSteps, block, Acts: printed by wip/whole/t23.py -/
section
variable {V : VV} {h : AH} {n z : Nat}

set_option maxRecDepth 20000 in
set_option maxHeartbeats 4000000 in
theorem s_Pol_fewestThrough {s0 P b : Nat} {fi : Int32} {wi : Int64} {me ve bo wk jn sz : Int32} {dt : Int64} {xs ys : Nat → Int32} {X Y : Nat → Int} {re of cs : Nat → Int32} (hb : 53 ≤ b) (g19 : h 19 = oBrs wk dt jn sz) (g20 : h 20 = aI 144 xs) (g21 : h 21 = aI 144 ys) (g24 : h 24 = oStr) (g25 : h 25 = aI 1872 of) (g26 : h 26 = aI 144 re) (g27 : h 27 = oPol) (g30 : h 30 = aI 145 cs) (gb : h b = oBrd (nI s0) (nI P) fi wi me ve bo) (hP : 2 ≤ P) (hs : s0 + P ≤ 144) (S : Sh X Y) (U : Un X Y P) (Rw : Row xs ys s0 P X Y) (hme : me = 0 ∨ (me = 1 ∧ Me re of s0 P X Y)) {i : Nat} (hi : i < 1000) : ∃ h2 : AH, AMet V i_Pol_fewestThrough 4 [.ref 27, .ref b, .int (nI i)] h n z (some (.int (nI (cK X Y P i P / 100000)))) h2 n z ∧ (h2 b = oBrd (nI s0) (nI P) fi wi 1 ve bo) ∧ (∃ re2 of2, h2 25 = aI 1872 of2 ∧ h2 26 = aI 144 re2 ∧ Me re2 of2 s0 P X Y ∧ ∀ p, p < s0 ∨ s0 + P ≤ p → re2 p = re p ∧ ∀ s, s < 13 → of2 (p * 13 + s) = of (p * 13 + s)) ∧ (∃ cs2, h2 30 = aI 145 cs2) ∧ ∀ i, i ≠ b → i ≠ 25 → i ≠ 26 → i ≠ 30 → h2 i = h i := by
  have ok := Ex_ok (by omega) U
  have hc := gc_b (K := 100000) ok i P P
  have hc9 : cK X Y P i P ≤ 14400000 := Nat.le_trans hc (Nat.le_trans (Nat.mul_le_mul_right 100000 (show P ≤ 144 by omega)) (by decide))
  have ed : nI (cK X Y P i P) / 100000 = nI (cK X Y P i P / 100000) := pk_div (d := 100000) (by omega) (by omega) (by omega)
  rcases hme with rfl | ⟨rfl, M⟩
  · obtain ⟨h1, e1⟩ : ∃ h1, h1 = hu (hu (hu h b (oBrd (nI s0) (nI P) fi wi 1 ve bo)) 26 (aI 144 (reN re s0 X Y P P))) 25 (aI 1872 (ofN of s0 (min (P - 1) 12) X Y P P)) := ⟨_, rfl⟩
    have far : ∀ i, i ≠ b → i ≠ 25 → i ≠ 26 → h1 i = h i := fun i q1 q2 q3 => by rw [e1]; simp [hu, q1, q2, q3]
    have k24 : h1 24 = oStr := by rw [far _ (by omega) (by omega) (by omega)]; exact g24
    have k27 : h1 27 = oPol := by rw [far _ (by omega) (by omega) (by omega)]; exact g27
    have k30 : h1 30 = aI 145 cs := by rw [far _ (by omega) (by omega) (by omega)]; exact g30
    have k25 : h1 25 = aI 1872 (ofN of s0 (min (P - 1) 12) X Y P P) := by rw [e1]; exact hu_s _ _ _
    have k26 : h1 26 = aI 144 (reN re s0 X Y P P) := by rw [e1, hu_n (by omega)]; exact hu_s _ _ _
    have kb : h1 b = oBrd (nI s0) (nI P) fi wi 1 ve bo := by rw [e1, hu_n (by omega), hu_n (by omega)]; exact hu_s _ _ _
    refine ⟨hu h1 30 (aI 145 (csR cs X Y P i P)), ?_, by rw [hu_n (by omega)]; exact kb, ⟨_, _, k25, k26, Me.made re of, fun p hp => ⟨pt_out hp, fun s hs2 => ofN_out of s0 _ (by omega) X Y P P (by omega)⟩⟩, ⟨_, hu_s _ _ _⟩, fun i q1 q2 q3 q4 => by rw [hu_n q4]; exact far i q1 q2 q3⟩
    refine AMet.intro (Nat.le_refl _) (Nat.le_refl _) (by decide) (Nat.le_of_ble_eq_true rfl) rfl ?_
    refine a_aload_n d_Pol_fewestThrough_0 rfl ?_
    refine a_getf d_Pol_fewestThrough_1 f_Pol_29 g27 rfl ?_
    refine a_aload_n d_Pol_fewestThrough_4 rfl ?_
    refine a_cv0 (a := 24) d_Pol_fewestThrough_5 m_Str_measure t_Str_measure l_Pol_33 g24 rfl rfl (s_Str_measure g19 g20 g21 g24 gb (by omega) hs Rw S hb g25 g26) rfl rfl ⟨Nat.le_of_ble_eq_true rfl, Nat.le_of_ble_eq_true rfl⟩ (Nat.le_of_ble_eq_true rfl)  ?_
    rw [← e1]
    refine a_aload_n d_Pol_fewestThrough_8 rfl ?_
    refine a_aload_n d_Pol_fewestThrough_9 rfl ?_
    refine a_iload_n d_Pol_fewestThrough_10 rfl ?_
    refine a_cv0 (a := 27) d_Pol_fewestThrough_11 m_Pol_costOfRound t_Pol_costOfRound l_Pol_39 k27 rfl rfl (s_Pol_costOfRound (cs := cs) hb k24 k25 k26 k27 kb hP hs S U (Me.made re of) k30 (i := i) (by omega)) rfl rfl ⟨Nat.le_of_ble_eq_true rfl, Nat.le_of_ble_eq_true rfl⟩ (Nat.le_of_ble_eq_true rfl)  ?_
    refine a_ldc d_Pol_fewestThrough_14 k_Pol_43 ?_
    refine a_idiv d_Pol_fewestThrough_16 (by decide) ?_
    exact a_iret d_Pol_fewestThrough_17 rfl (by rw [ed]) rfl rfl
  · refine ⟨hu h 30 (aI 145 (csR cs X Y P i P)), ?_, by rw [hu_n (by omega)]; exact gb, ⟨_, _, g25, g26, M, fun p _ => ⟨rfl, fun _ _ => rfl⟩⟩, ⟨_, hu_s _ _ _⟩, fun i q1 q2 q3 q4 => by rw [hu_n q4]⟩
    refine AMet.intro (Nat.le_refl _) (Nat.le_refl _) (by decide) (Nat.le_of_ble_eq_true rfl) rfl ?_
    refine a_aload_n d_Pol_fewestThrough_0 rfl ?_
    refine a_getf d_Pol_fewestThrough_1 f_Pol_29 g27 rfl ?_
    refine a_aload_n d_Pol_fewestThrough_4 rfl ?_
    refine a_cv0 (a := 24) d_Pol_fewestThrough_5 m_Str_measure t_Str_measure l_Pol_33 g24 rfl rfl (s_Str_measured gb) rfl rfl ⟨Nat.le_of_ble_eq_true rfl, Nat.le_of_ble_eq_true rfl⟩ (Nat.le_of_ble_eq_true rfl)  ?_
    refine a_aload_n d_Pol_fewestThrough_8 rfl ?_
    refine a_aload_n d_Pol_fewestThrough_9 rfl ?_
    refine a_iload_n d_Pol_fewestThrough_10 rfl ?_
    refine a_cv0 (a := 27) d_Pol_fewestThrough_11 m_Pol_costOfRound t_Pol_costOfRound l_Pol_39 g27 rfl rfl (s_Pol_costOfRound (cs := cs) hb g24 g25 g26 g27 gb hP hs S U M g30 (i := i) (by omega)) rfl rfl ⟨Nat.le_of_ble_eq_true rfl, Nat.le_of_ble_eq_true rfl⟩ (Nat.le_of_ble_eq_true rfl)  ?_
    refine a_ldc d_Pol_fewestThrough_14 k_Pol_43 ?_
    refine a_idiv d_Pol_fewestThrough_16 (by decide) ?_
    exact a_iret d_Pol_fewestThrough_17 rfl (by rw [ed]) rfl rfl
def tuC (ws : Nat → Int32) (s P : Nat) : Nat → Nat
  | 0 => 0
  | k + 1 => if ws (s + k % P) = ws (s + (k + 1) % P) then tuC ws s P k else tuC ws s P k + 1
theorem tuC_le (ws : Nat → Int32) (s P : Nat) : ∀ k, tuC ws s P k ≤ k
  | 0 => Nat.le_refl 0
  | k + 1 => by
    have ih := tuC_le ws s P k
    unfold tuC
    split <;> omega
set_option maxRecDepth 20000 in
set_option maxHeartbeats 4000000 in
theorem L_turnS {s P b : Nat} {fi : Int32} {wi : Int64} {me ve bo wk jn sz : Int32} {dt : Int64} {ws : Nat → Int32} (g22 : h 22 = aI 144 ws) (g19 : h 19 = oBrs wk dt jn sz) (gb : h b = oBrd (nI s) (nI P) fi wi me ve bo) (hP : 0 < P) (hs : s + P ≤ 144) : ∀ (m k : Nat), k + m = P → AM V i_Brs_turningSteps 2 n z (some (.int (nI (tuC ws s P P)))) h n z 4 [some (.ref 19), some (.ref b), some (.int (nI (tuC ws s P k))), some (.int (nI k))] [] h n z := by
  intro m
  induction m with
  | zero =>
    intro k hk
    have e : P = k := by omega
    subst e
    refine a_iload_n d_Brs_turningSteps_4 rfl ?_
    refine a_aload_n d_Brs_turningSteps_5 rfl ?_
    refine a_getf d_Brs_turningSteps_6 f_Brs_35 gb rfl ?_
    refine a_icmp_ge 38 d_Brs_turningSteps_9 (by decide) (fun c9 => ?_) (fun c9 => absurd (Int32.le_refl _) c9)
    refine a_iload_n d_Brs_turningSteps_38 rfl ?_
    exact a_iret d_Brs_turningSteps_39 rfl rfl rfl rfl
  | succ m ih =>
    intro k hk
    by_cases hq : ws (s + k % P) = ws (s + (k + 1) % P)
    · have e1 : tuC ws s P (k + 1) = tuC ws s P k := by
        show (if _ then _ else _) = _
        rw [if_pos hq]
      refine a_iload_n d_Brs_turningSteps_4 rfl ?_
      refine a_aload_n d_Brs_turningSteps_5 rfl ?_
      refine a_getf d_Brs_turningSteps_6 f_Brs_35 gb rfl ?_
      refine a_icmp_ge 38 d_Brs_turningSteps_9 (by decide) (fun c9 => absurd c9 (nI_ge (show k < P by omega) (by omega))) (fun c9 => ?_)
      refine a_aload_n d_Brs_turningSteps_12 rfl ?_
      refine a_aload_n d_Brs_turningSteps_13 rfl ?_
      refine a_iload_n d_Brs_turningSteps_14 rfl ?_
      refine a_cv0 (a := 19) d_Brs_turningSteps_15 m_Brs_wayAt t_Brs_wayAt l_Brs_38 g19 rfl rfl (s_Brs_wayAt g22 g19 gb hP hs (K := k) (by omega)) rfl rfl ⟨Nat.le_of_ble_eq_true rfl, Nat.le_of_ble_eq_true rfl⟩ (Nat.le_of_ble_eq_true rfl)  ?_
      refine a_aload_n d_Brs_turningSteps_18 rfl ?_
      refine a_aload_n d_Brs_turningSteps_19 rfl ?_
      refine a_iload_n d_Brs_turningSteps_20 rfl ?_
      refine a_iconst (v := 1) d_Brs_turningSteps_21 (by decide) ?_
      refine a_iadd d_Brs_turningSteps_22 ?_
      rw [nI_1]
      refine a_cv0 (a := 19) d_Brs_turningSteps_23 m_Brs_wayAt t_Brs_wayAt l_Brs_38 g19 rfl rfl (s_Brs_wayAt g22 g19 gb hP hs (K := k + 1) (by omega)) rfl rfl ⟨Nat.le_of_ble_eq_true rfl, Nat.le_of_ble_eq_true rfl⟩ (Nat.le_of_ble_eq_true rfl)  ?_
      refine a_icmp_eq 32 d_Brs_turningSteps_26 (by decide) (fun c26 => ?_) (fun c26 => absurd hq c26)
      refine a_iinc d_Brs_turningSteps_32 rfl (nI_1 k) (Nat.le_of_ble_eq_true rfl) rfl ?_
      refine a_goto 4 d_Brs_turningSteps_35 (by decide) ?_
      refine a_eq rfl ?_ rfl rfl rfl rfl (ih (k + 1) (by omega))
      rw [e1]
      rfl
    · have e1 : tuC ws s P (k + 1) = tuC ws s P k + 1 := by
        show (if _ then _ else _) = _
        rw [if_neg hq]
      refine a_iload_n d_Brs_turningSteps_4 rfl ?_
      refine a_aload_n d_Brs_turningSteps_5 rfl ?_
      refine a_getf d_Brs_turningSteps_6 f_Brs_35 gb rfl ?_
      refine a_icmp_ge 38 d_Brs_turningSteps_9 (by decide) (fun c9 => absurd c9 (nI_ge (show k < P by omega) (by omega))) (fun c9 => ?_)
      refine a_aload_n d_Brs_turningSteps_12 rfl ?_
      refine a_aload_n d_Brs_turningSteps_13 rfl ?_
      refine a_iload_n d_Brs_turningSteps_14 rfl ?_
      refine a_cv0 (a := 19) d_Brs_turningSteps_15 m_Brs_wayAt t_Brs_wayAt l_Brs_38 g19 rfl rfl (s_Brs_wayAt g22 g19 gb hP hs (K := k) (by omega)) rfl rfl ⟨Nat.le_of_ble_eq_true rfl, Nat.le_of_ble_eq_true rfl⟩ (Nat.le_of_ble_eq_true rfl)  ?_
      refine a_aload_n d_Brs_turningSteps_18 rfl ?_
      refine a_aload_n d_Brs_turningSteps_19 rfl ?_
      refine a_iload_n d_Brs_turningSteps_20 rfl ?_
      refine a_iconst (v := 1) d_Brs_turningSteps_21 (by decide) ?_
      refine a_iadd d_Brs_turningSteps_22 ?_
      rw [nI_1]
      refine a_cv0 (a := 19) d_Brs_turningSteps_23 m_Brs_wayAt t_Brs_wayAt l_Brs_38 g19 rfl rfl (s_Brs_wayAt g22 g19 gb hP hs (K := k + 1) (by omega)) rfl rfl ⟨Nat.le_of_ble_eq_true rfl, Nat.le_of_ble_eq_true rfl⟩ (Nat.le_of_ble_eq_true rfl)  ?_
      refine a_icmp_eq 32 d_Brs_turningSteps_26 (by decide) (fun c26 => absurd c26 hq) (fun c26 => ?_)
      refine a_iinc d_Brs_turningSteps_29 rfl (nI_1 _) (Nat.le_of_ble_eq_true rfl) rfl ?_
      refine a_iinc d_Brs_turningSteps_32 rfl (nI_1 k) (Nat.le_of_ble_eq_true rfl) rfl ?_
      refine a_goto 4 d_Brs_turningSteps_35 (by decide) ?_
      refine a_eq rfl ?_ rfl rfl rfl rfl (ih (k + 1) (by omega))
      rw [e1]
      rfl
set_option maxRecDepth 20000 in
set_option maxHeartbeats 4000000 in
theorem s_Brs_turningSteps {s P b : Nat} {fi : Int32} {wi : Int64} {me ve bo wk jn sz : Int32} {dt : Int64} {ws : Nat → Int32} (g22 : h 22 = aI 144 ws) (g19 : h 19 = oBrs wk dt jn sz) (gb : h b = oBrd (nI s) (nI P) fi wi me ve bo) (hP : 0 < P) (hs : s + P ≤ 144) : AMet V i_Brs_turningSteps 2 [.ref 19, .ref b] h n z (some (.int (nI (tuC ws s P P)))) h n z := by
  refine AMet.intro (Nat.le_refl _) (Nat.le_refl _) (by decide) (Nat.le_of_ble_eq_true rfl) rfl ?_
  refine a_iconst (v := 0) d_Brs_turningSteps_0 (by decide) ?_
  refine a_istore_n d_Brs_turningSteps_1 (Nat.le_of_ble_eq_true rfl) (Nat.le_of_ble_eq_true rfl) rfl ?_
  refine a_iconst (v := 0) d_Brs_turningSteps_2 (by decide) ?_
  refine a_istore_n d_Brs_turningSteps_3 (Nat.le_of_ble_eq_true rfl) (Nat.le_of_ble_eq_true rfl) rfl ?_
  exact L_turnS g22 g19 gb hP hs P 0 (by omega)
def bkL (x x2 : Int32) (y : Nat) : Nat → Int64
  | 0 => 0
  | m + 1 => bkL x x2 y m ||| (gRow x (nI (y + m)) &&& (gRow (x2 + 1) (nI (y + m)) ^^^ (-1)))
set_option maxRecDepth 20000 in
set_option maxHeartbeats 4000000 in
theorem L_block (x x2 : Int32) {y y2 : Nat} (hy : y ≤ y2) (hy2 : y2 < 8) : ∀ (m k : Nat), y + k + m = y2 + 1 → AM V i_Grid_block 1 n z (some (.long (bkL x x2 y (y2 + 1 - y)))) h n z 10 [some (.int x), some (.int (nI y)), some (.int x2), some (.int (nI y2)), some (.long (bkL x x2 y k)), none, some (.int (nI (y + k)))] [] h n z := by
  intro m
  induction m with
  | zero =>
    intro k hk
    have e : k = y2 + 1 - y := by omega
    subst e
    refine a_iload d_Grid_block_10 rfl ?_
    refine a_iload_n d_Grid_block_12 rfl ?_
    refine a_icmp_gt 53 d_Grid_block_13 (by decide) (fun c13 => ?_) (fun c13 => absurd (nI_lt (show y2 < y + (y2 + 1 - y) by omega) (by omega)) c13)
    refine a_lload d_Grid_block_53 rfl ?_
    exact a_lret d_Grid_block_55 rfl rfl rfl rfl
  | succ m ih =>
    intro k hk
    refine a_iload d_Grid_block_10 rfl ?_
    refine a_iload_n d_Grid_block_12 rfl ?_
    refine a_icmp_gt 53 d_Grid_block_13 (by decide) (fun c13 => absurd c13 (nI_nlt (show y + k ≤ y2 by omega) (by omega))) (fun c13 => ?_)
    refine a_iload d_Grid_block_16 rfl ?_
    refine a_bipush (v := 8) d_Grid_block_18 (by decide) ?_
    refine a_icmp_ge 53 d_Grid_block_20 (by decide) (fun c20 => absurd c20 (nI_ge (b := 8) (show y + k < 8 by omega) (by omega))) (fun c20 => ?_)
    refine a_lload d_Grid_block_23 rfl ?_
    refine a_iload_n d_Grid_block_25 rfl ?_
    refine a_iload d_Grid_block_26 rfl ?_
    refine a_cs0 d_Grid_block_28 m_Grid_rowFrom t_Grid_rowFrom l_Grid_17 (s_Grid_rowFrom _ _) rfl rfl ⟨Nat.le_of_ble_eq_true rfl, Nat.le_of_ble_eq_true rfl⟩ (Nat.le_of_ble_eq_true rfl)  ?_
    refine a_iload_n d_Grid_block_31 rfl ?_
    refine a_iconst (v := 1) d_Grid_block_32 (by decide) ?_
    refine a_iadd d_Grid_block_33 ?_
    refine a_iload d_Grid_block_34 rfl ?_
    refine a_cs0 d_Grid_block_36 m_Grid_rowFrom t_Grid_rowFrom l_Grid_17 (s_Grid_rowFrom _ _) rfl rfl ⟨Nat.le_of_ble_eq_true rfl, Nat.le_of_ble_eq_true rfl⟩ (Nat.le_of_ble_eq_true rfl)  ?_
    refine a_ldc2 d_Grid_block_39 k_Grid_21 ?_
    refine a_lxor d_Grid_block_42 ?_
    refine a_land d_Grid_block_43 ?_
    refine a_lor d_Grid_block_44 ?_
    refine a_lstore d_Grid_block_45 (Nat.le_of_ble_eq_true rfl) (Nat.le_of_ble_eq_true rfl) rfl ?_
    refine a_iinc d_Grid_block_47 rfl (nI_1 (y + k)) (Nat.le_of_ble_eq_true rfl) rfl ?_
    refine a_goto 10 d_Grid_block_50 (by decide) ?_
    exact ih (k + 1) (by omega)
set_option maxRecDepth 20000 in
set_option maxHeartbeats 4000000 in
theorem s_Grid_block (x x2 : Int32) {y y2 : Nat} (hy : y ≤ y2) (hy2 : y2 < 8) : AMet V i_Grid_block 1 [.int x, .int (nI y), .int x2, .int (nI y2)] h n z (some (.long (bkL x x2 y (y2 + 1 - y)))) h n z := by
  have hm : fMax (nI y) 0 = nI (y + 0) := by
    unfold fMax
    rw [if_neg (nI_pos (by omega))]
    rfl
  refine AMet.intro (Nat.le_refl _) (Nat.le_refl _) (by decide) (Nat.le_of_ble_eq_true rfl) rfl ?_
  refine a_lconst (v := 0) d_Grid_block_0 rfl ?_
  refine a_lstore d_Grid_block_1 (Nat.le_of_ble_eq_true rfl) (Nat.le_of_ble_eq_true rfl) rfl ?_
  refine a_iload_n d_Grid_block_3 rfl ?_
  refine a_iconst (v := 0) d_Grid_block_4 (by decide) ?_
  refine a_max d_Grid_block_5 l_Grid_11 (Nat.le_of_ble_eq_true rfl) (Nat.le_of_ble_eq_true rfl) (Nat.le_of_ble_eq_true rfl) ?_
  rw [hm]
  refine a_istore d_Grid_block_8 (Nat.le_of_ble_eq_true rfl) (Nat.le_of_ble_eq_true rfl) rfl ?_
  exact L_block x x2 hy hy2 (y2 + 1 - y) 0 (by omega)
def shL {α : Type} (f : Nat → α) (k : Nat) : Nat → α := fun j => if j + 1 < k then f (j + 1) else f j
theorem shL_1 {α : Type} (f : Nat → α) : shL f 1 = f := by
  funext j
  simp [shL]
theorem shL_s (f : Nat → Int32) {k : Nat} (hk : 1 ≤ k) : upd (shL f k) (k - 1) (shL f k k) = shL f (k + 1) := by
  funext j
  by_cases e : j = k - 1
  · subst e
    simp only [upd, shL]
    rw [if_pos trivial, if_neg (by omega), if_pos (by omega), show k - 1 + 1 = k by omega]
  · simp only [upd, if_neg e, shL]
    by_cases q : j + 1 < k
    · rw [if_pos q, if_pos (by omega)]
    · rw [if_neg q, if_neg (by omega)]
theorem shL_sl (f : Nat → Int64) {k : Nat} (hk : 1 ≤ k) : vp_updL (shL f k) (k - 1) (shL f k k) = shL f (k + 1) := by
  funext j
  by_cases e : j = k - 1
  · subst e
    simp only [vp_updL, shL]
    rw [if_pos trivial, if_neg (by omega), if_pos (by omega), show k - 1 + 1 = k by omega]
  · simp only [vp_updL, if_neg e, shL]
    by_cases q : j + 1 < k
    · rw [if_pos q, if_pos (by omega)]
    · rw [if_neg q, if_neg (by omega)]
theorem hu3 (h : AH) {a b c : Nat} (e1 : a ≠ b) (e2 : a ≠ c) (e4 : b ≠ c) (x y z x' y' z' : AC) : hu (hu (hu (hu (hu (hu h a x) b y) c z) a x') b y') c z' = hu (hu (hu h a x') b y') c z' := by
  funext q
  by_cases q2 : q = c
  · simp [hu, q2]
  · by_cases q3 : q = b
    · simp [hu, q2, q3, e4]
    · by_cases q4 : q = a
      · simp [hu, q4, e1, e2]
      · simp [hu, q2, q3, q4]
set_option maxRecDepth 20000 in
set_option maxHeartbeats 4000000 in
theorem L_forget {ad : Nat → Int64} {aj ash : Nat → Int32} (g16 : h 16 = aL 8 ad) (g17 : h 17 = aI 8 aj) (g18 : h 18 = aI 8 ash) {c : Int32} (g15 : h 15 = oAct c) : ∀ (m k : Nat), k + m = 8 → 1 ≤ k → AM V i_Acts_forgetOldest 0 n z none (hu (hu (hu (hu h 16 (aL 8 (shL ad 8))) 17 (aI 8 (shL aj 8))) 18 (aI 8 (shL ash 8))) 15 (oAct 7)) n z 2 [some (.ref 15), some (.int (nI k))] [] (hu (hu (hu h 16 (aL 8 (shL ad k))) 17 (aI 8 (shL aj k))) 18 (aI 8 (shL ash k))) n z := by
  intro m
  induction m with
  | zero =>
    intro k hk hk1
    have e : k = 8 := by omega
    subst e
    refine a_iload_n d_Acts_forgetOldest_2 rfl ?_
    refine a_bipush (v := 8) d_Acts_forgetOldest_3 (by decide) ?_
    refine a_icmp_ge 56 d_Acts_forgetOldest_5 (by decide) (fun c5 => ?_) (fun c5 => absurd (Int32.le_refl _) c5)
    refine a_aload_n d_Acts_forgetOldest_56 rfl ?_
    refine a_bipush (v := 7) d_Acts_forgetOldest_57 (by decide) ?_
    refine a_putf d_Acts_forgetOldest_59 f_Acts_20 rfl g15 (Nat.le_of_ble_eq_true rfl) rfl rfl ?_
    exact a_vret d_Acts_forgetOldest_62 rfl rfl rfl rfl
  | succ m ih =>
    intro k hk hk1
    have ek : nI k - 1 = nI (k - 1) := by rw [show (1 : Int32) = nI 1 from rfl, pk_sub hk1]
    refine a_iload_n d_Acts_forgetOldest_2 rfl ?_
    refine a_bipush (v := 8) d_Acts_forgetOldest_3 (by decide) ?_
    refine a_icmp_ge 56 d_Acts_forgetOldest_5 (by decide) (fun c5 => absurd c5 (nI_ge (b := 8) (show k < 8 by omega) (by omega))) (fun c5 => ?_)
    refine a_aload_n d_Acts_forgetOldest_8 rfl ?_
    refine a_getf d_Acts_forgetOldest_9 f_Acts_9 g15 rfl ?_
    refine a_iload_n d_Acts_forgetOldest_12 rfl ?_
    refine a_iconst (v := 1) d_Acts_forgetOldest_13 (by decide) ?_
    refine a_isub d_Acts_forgetOldest_14 ?_
    refine a_aload_n d_Acts_forgetOldest_15 rfl ?_
    refine a_getf d_Acts_forgetOldest_16 f_Acts_9 g15 rfl ?_
    refine a_iload_n d_Acts_forgetOldest_19 rfl ?_
    refine a_lald d_Acts_forgetOldest_20 rfl (vp_in_nI (by omega) (by omega)) ?_
    refine a_last d_Acts_forgetOldest_21 rfl (by rw [ek]; exact vp_in_nI (by omega) (by omega)) ?_
    refine a_aload_n d_Acts_forgetOldest_22 rfl ?_
    refine a_getf d_Acts_forgetOldest_23 f_Acts_13 g15 rfl ?_
    refine a_iload_n d_Acts_forgetOldest_26 rfl ?_
    refine a_iconst (v := 1) d_Acts_forgetOldest_27 (by decide) ?_
    refine a_isub d_Acts_forgetOldest_28 ?_
    refine a_aload_n d_Acts_forgetOldest_29 rfl ?_
    refine a_getf d_Acts_forgetOldest_30 f_Acts_13 g15 rfl ?_
    refine a_iload_n d_Acts_forgetOldest_33 rfl ?_
    refine a_iald d_Acts_forgetOldest_34 rfl (vp_in_nI (by omega) (by omega)) ?_
    refine a_iast d_Acts_forgetOldest_35 rfl (by rw [ek]; exact vp_in_nI (by omega) (by omega)) ?_
    refine a_aload_n d_Acts_forgetOldest_36 rfl ?_
    refine a_getf d_Acts_forgetOldest_37 f_Acts_17 g15 rfl ?_
    refine a_iload_n d_Acts_forgetOldest_40 rfl ?_
    refine a_iconst (v := 1) d_Acts_forgetOldest_41 (by decide) ?_
    refine a_isub d_Acts_forgetOldest_42 ?_
    refine a_aload_n d_Acts_forgetOldest_43 rfl ?_
    refine a_getf d_Acts_forgetOldest_44 f_Acts_17 g15 rfl ?_
    refine a_iload_n d_Acts_forgetOldest_47 rfl ?_
    refine a_iald d_Acts_forgetOldest_48 rfl (vp_in_nI (by omega) (by omega)) ?_
    refine a_iast d_Acts_forgetOldest_49 rfl (by rw [ek]; exact vp_in_nI (by omega) (by omega)) ?_
    refine a_iinc d_Acts_forgetOldest_50 rfl (nI_1 k) (Nat.le_of_ble_eq_true rfl) rfl ?_
    refine a_goto 2 d_Acts_forgetOldest_53 (by decide) ?_
    refine a_eq rfl rfl rfl ?_ rfl rfl (ih (k + 1) (by omega) (by omega))
    rw [ek, nI_clamp (show k - 1 < 2 ^ 31 by omega), nI_clamp (show k < 2 ^ 31 by omega), shL_s _ hk1, shL_s _ hk1, shL_sl _ hk1]
    exact hu3 h (by decide) (by decide) (by decide) _ _ _ _ _ _
set_option maxRecDepth 20000 in
set_option maxHeartbeats 4000000 in
theorem s_Acts_forgetOldest {ad : Nat → Int64} {aj ash : Nat → Int32} (g16 : h 16 = aL 8 ad) (g17 : h 17 = aI 8 aj) (g18 : h 18 = aI 8 ash) {c : Int32} (g15 : h 15 = oAct c) : AMet V i_Acts_forgetOldest 0 [.ref 15] h n z none (hu (hu (hu (hu h 16 (aL 8 (shL ad 8))) 17 (aI 8 (shL aj 8))) 18 (aI 8 (shL ash 8))) 15 (oAct 7)) n z := by
  have e0 : h = hu (hu (hu h 16 (aL 8 (shL ad 1))) 17 (aI 8 (shL aj 1))) 18 (aI 8 (shL ash 1)) := by
    rw [shL_1, shL_1, shL_1, hu_same g16, hu_same g17, hu_same g18]
  refine AMet.intro (Nat.le_refl _) (Nat.le_refl _) (by decide) (Nat.le_of_ble_eq_true rfl) rfl ?_
  refine a_iconst (v := 1) d_Acts_forgetOldest_0 (by decide) ?_
  refine a_istore_n d_Acts_forgetOldest_1 (Nat.le_of_ble_eq_true rfl) (Nat.le_of_ble_eq_true rfl) rfl ?_
  exact a_eq rfl rfl rfl e0 rfl rfl (L_forget g16 g17 g18 g15 7 1 rfl (Nat.le_refl 1))
set_option maxRecDepth 20000 in
set_option maxHeartbeats 4000000 in
theorem s_Acts_remember {ad : Nat → Int64} {aj ash : Nat → Int32} (g16 : h 16 = aL 8 ad) (g17 : h 17 = aI 8 aj) (g18 : h 18 = aI 8 ash) {k : Nat} (hk : k < 8) (g15 : h 15 = oAct (nI k)) {pw ph : Int32} {pd : Int64} {pj ps : Int32} (g12 : h 12 = oPic pw ph pd pj ps) : AMet V i_Acts_remember 1 [.ref 15, .ref 12] h n z (none) (hu (hu (hu (hu h 16 (aL 8 (vp_updL ad k pd))) 17 (aI 8 (upd aj k pj))) 18 (aI 8 (upd ash k ps))) 15 (oAct (nI (k + 1)))) n z := by
  refine AMet.intro (Nat.le_refl _) (Nat.le_refl _) (by decide) (Nat.le_of_ble_eq_true rfl) rfl ?_
  refine a_aload_n d_Acts_remember_0 rfl ?_
  refine a_getf d_Acts_remember_1 f_Acts_20 g15 rfl ?_
  refine a_bipush (v := 8) d_Acts_remember_4 (by decide) ?_
  refine a_icmp_lt 13 d_Acts_remember_6 (by decide) (fun c6 => ?_) (fun c6 => absurd (nI_lt (b := 8) hk (by omega)) c6)
  refine a_aload_n d_Acts_remember_13 rfl ?_
  refine a_getf d_Acts_remember_14 f_Acts_20 g15 rfl ?_
  refine a_if_lt 29 d_Acts_remember_17 (by decide) (fun c17 => absurd c17 (nI_pos (by omega))) (fun c17 => ?_)
  refine a_aload_n d_Acts_remember_20 rfl ?_
  refine a_getf d_Acts_remember_21 f_Acts_20 g15 rfl ?_
  refine a_bipush (v := 8) d_Acts_remember_24 (by decide) ?_
  refine a_icmp_lt 30 d_Acts_remember_26 (by decide) (fun c26 => ?_) (fun c26 => absurd (nI_lt (b := 8) hk (by omega)) c26)
  refine a_aload_n d_Acts_remember_30 rfl ?_
  refine a_getf d_Acts_remember_31 f_Acts_9 g15 rfl ?_
  refine a_aload_n d_Acts_remember_34 rfl ?_
  refine a_getf d_Acts_remember_35 f_Acts_20 g15 rfl ?_
  refine a_aload_n d_Acts_remember_38 rfl ?_
  refine a_getf d_Acts_remember_39 f_Acts_27 g12 rfl ?_
  refine a_last d_Acts_remember_42 g16 (vp_in_nI hk (by omega)) ?_
  refine a_aload_n d_Acts_remember_43 rfl ?_
  refine a_getf d_Acts_remember_44 f_Acts_13 g15 rfl ?_
  refine a_aload_n d_Acts_remember_47 rfl ?_
  refine a_getf d_Acts_remember_48 f_Acts_20 g15 rfl ?_
  refine a_aload_n d_Acts_remember_51 rfl ?_
  refine a_getf d_Acts_remember_52 f_Acts_32 g12 rfl ?_
  refine a_iast d_Acts_remember_55 g17 (vp_in_nI hk (by omega)) ?_
  refine a_aload_n d_Acts_remember_56 rfl ?_
  refine a_getf d_Acts_remember_57 f_Acts_17 g15 rfl ?_
  refine a_aload_n d_Acts_remember_60 rfl ?_
  refine a_getf d_Acts_remember_61 f_Acts_20 g15 rfl ?_
  refine a_aload_n d_Acts_remember_64 rfl ?_
  refine a_getf d_Acts_remember_65 f_Acts_35 g12 rfl ?_
  refine a_iast d_Acts_remember_68 g18 (vp_in_nI hk (by omega)) ?_
  refine a_aload_n d_Acts_remember_69 rfl ?_
  refine a_dup d_Acts_remember_70 rfl ?_
  refine a_getf d_Acts_remember_71 f_Acts_20 g15 rfl ?_
  refine a_iconst (v := 1) d_Acts_remember_74 (by decide) ?_
  refine a_iadd d_Acts_remember_75 ?_
  refine a_putf d_Acts_remember_76 f_Acts_20 rfl g15 (Nat.le_of_ble_eq_true rfl) rfl rfl ?_
  exact a_vret d_Acts_remember_79 rfl rfl (by rw [nI_clamp (by omega), nI_1]; rfl) rfl
set_option maxRecDepth 20000 in
set_option maxHeartbeats 4000000 in
theorem s_Acts_rememberF {ad : Nat → Int64} {aj ash : Nat → Int32} (g16 : h 16 = aL 8 ad) (g17 : h 17 = aI 8 aj) (g18 : h 18 = aI 8 ash) (g15 : h 15 = oAct 8) {pw ph : Int32} {pd : Int64} {pj ps : Int32} (g12 : h 12 = oPic pw ph pd pj ps) : AMet V i_Acts_remember 1 [.ref 15, .ref 12] h n z (none) (hu (hu (hu (hu (hu (hu (hu (hu h 16 (aL 8 (shL ad 8))) 17 (aI 8 (shL aj 8))) 18 (aI 8 (shL ash 8))) 15 (oAct 7)) 16 (aL 8 (vp_updL (shL ad 8) 7 pd))) 17 (aI 8 (upd (shL aj 8) 7 pj))) 18 (aI 8 (upd (shL ash 8) 7 ps))) 15 (oAct 8)) n z := by
  refine AMet.intro (Nat.le_refl _) (Nat.le_refl _) (by decide) (Nat.le_of_ble_eq_true rfl) rfl ?_
  refine a_aload_n d_Acts_remember_0 rfl ?_
  refine a_getf d_Acts_remember_1 f_Acts_20 g15 rfl ?_
  refine a_bipush (v := 8) d_Acts_remember_4 (by decide) ?_
  refine a_icmp_lt 13 d_Acts_remember_6 (by decide) (fun c6 => absurd c6 (by decide)) (fun c6 => ?_)
  refine a_aload_n d_Acts_remember_9 rfl ?_
  refine a_cv0 (a := 15) d_Acts_remember_10 m_Acts_forgetOldest t_Acts_forgetOldest l_Acts_24 g15 rfl rfl (s_Acts_forgetOldest g16 g17 g18 g15) rfl rfl ⟨Nat.le_of_ble_eq_true rfl, Nat.le_of_ble_eq_true rfl⟩ (Nat.le_of_ble_eq_true rfl)  ?_
  refine a_aload_n d_Acts_remember_13 rfl ?_
  refine a_getf d_Acts_remember_14 f_Acts_20 rfl rfl ?_
  refine a_if_lt 29 d_Acts_remember_17 (by decide) (fun c17 => absurd c17 (by decide)) (fun c17 => ?_)
  refine a_aload_n d_Acts_remember_20 rfl ?_
  refine a_getf d_Acts_remember_21 f_Acts_20 rfl rfl ?_
  refine a_bipush (v := 8) d_Acts_remember_24 (by decide) ?_
  refine a_icmp_lt 30 d_Acts_remember_26 (by decide) (fun c26 => ?_) (fun c26 => absurd (by decide) c26)
  refine a_aload_n d_Acts_remember_30 rfl ?_
  refine a_getf d_Acts_remember_31 f_Acts_9 rfl rfl ?_
  refine a_aload_n d_Acts_remember_34 rfl ?_
  refine a_getf d_Acts_remember_35 f_Acts_20 rfl rfl ?_
  refine a_aload_n d_Acts_remember_38 rfl ?_
  refine a_getf d_Acts_remember_39 f_Acts_27 g12 rfl ?_
  refine a_last d_Acts_remember_42 rfl (vp_in_nI (n := 7) (N := 8) (by omega) (by omega)) ?_
  refine a_aload_n d_Acts_remember_43 rfl ?_
  refine a_getf d_Acts_remember_44 f_Acts_13 rfl rfl ?_
  refine a_aload_n d_Acts_remember_47 rfl ?_
  refine a_getf d_Acts_remember_48 f_Acts_20 rfl rfl ?_
  refine a_aload_n d_Acts_remember_51 rfl ?_
  refine a_getf d_Acts_remember_52 f_Acts_32 g12 rfl ?_
  refine a_iast d_Acts_remember_55 rfl (vp_in_nI (n := 7) (N := 8) (by omega) (by omega)) ?_
  refine a_aload_n d_Acts_remember_56 rfl ?_
  refine a_getf d_Acts_remember_57 f_Acts_17 rfl rfl ?_
  refine a_aload_n d_Acts_remember_60 rfl ?_
  refine a_getf d_Acts_remember_61 f_Acts_20 rfl rfl ?_
  refine a_aload_n d_Acts_remember_64 rfl ?_
  refine a_getf d_Acts_remember_65 f_Acts_35 g12 rfl ?_
  refine a_iast d_Acts_remember_68 rfl (vp_in_nI (n := 7) (N := 8) (by omega) (by omega)) ?_
  refine a_aload_n d_Acts_remember_69 rfl ?_
  refine a_dup d_Acts_remember_70 rfl ?_
  refine a_getf d_Acts_remember_71 f_Acts_20 rfl rfl ?_
  refine a_iconst (v := 1) d_Acts_remember_74 (by decide) ?_
  refine a_iadd d_Acts_remember_75 ?_
  refine a_putf d_Acts_remember_76 f_Acts_20 rfl rfl (Nat.le_of_ble_eq_true rfl) rfl rfl ?_
  exact a_vret d_Acts_remember_79 rfl rfl rfl rfl
set_option maxRecDepth 20000 in
set_option maxHeartbeats 4000000 in
theorem s_Acts_takeBack0 (g15 : h 15 = oAct 0) : AMet V i_Acts_takeBack 0 [.ref 15, .ref 12] h n z (some (.int 0)) (h) n z := by
  refine AMet.intro (Nat.le_refl _) (Nat.le_refl _) (by decide) (Nat.le_of_ble_eq_true rfl) rfl ?_
  refine a_aload_n d_Acts_takeBack_0 rfl ?_
  refine a_getf d_Acts_takeBack_1 f_Acts_20 g15 rfl ?_
  refine a_if_le 16 d_Acts_takeBack_4 (by decide) (fun c4 => ?_) (fun c4 => absurd (Int32.le_refl _) c4)
  refine a_iconst (v := 0) d_Acts_takeBack_16 (by decide) ?_
  exact a_zret d_Acts_takeBack_17 rfl (by decide) rfl rfl rfl
set_option maxRecDepth 20000 in
set_option maxHeartbeats 4000000 in
theorem s_Acts_takeBack {ad : Nat → Int64} {aj ash : Nat → Int32} (g16 : h 16 = aL 8 ad) (g17 : h 17 = aI 8 aj) (g18 : h 18 = aI 8 ash) {k : Nat} (hk : k < 8) (g15 : h 15 = oAct (nI (k + 1))) {pw ph : Int32} {pd : Int64} {pj ps : Int32} (g12 : h 12 = oPic pw ph pd pj ps) : AMet V i_Acts_takeBack 0 [.ref 15, .ref 12] h n z (some (.int 1)) (hu (hu h 15 (oAct (nI k))) 12 (oPic pw ph (ad k) (aj k) (ash k))) n z := by
  have ek : nI (k + 1) - 1 = nI k := nI_pred k
  refine AMet.intro (Nat.le_refl _) (Nat.le_refl _) (by decide) (Nat.le_of_ble_eq_true rfl) rfl ?_
  refine a_aload_n d_Acts_takeBack_0 rfl ?_
  refine a_getf d_Acts_takeBack_1 f_Acts_20 g15 rfl ?_
  refine a_if_le 16 d_Acts_takeBack_4 (by decide) (fun c4 => absurd c4 (nI_nle (by omega) (by omega))) (fun c4 => ?_)
  refine a_aload_n d_Acts_takeBack_7 rfl ?_
  refine a_getf d_Acts_takeBack_8 f_Acts_20 g15 rfl ?_
  refine a_bipush (v := 8) d_Acts_takeBack_11 (by decide) ?_
  refine a_icmp_le 18 d_Acts_takeBack_13 (by decide) (fun c13 => ?_) (fun c13 => absurd (nI_le (b := 8) (show k + 1 ≤ 8 by omega) (by omega)) c13)
  refine a_aload_n d_Acts_takeBack_18 rfl ?_
  refine a_dup d_Acts_takeBack_19 rfl ?_
  refine a_getf d_Acts_takeBack_20 f_Acts_20 g15 rfl ?_
  refine a_iconst (v := 1) d_Acts_takeBack_23 (by decide) ?_
  refine a_isub d_Acts_takeBack_24 ?_
  refine a_putf d_Acts_takeBack_25 f_Acts_20 rfl g15 (Nat.le_of_ble_eq_true rfl) rfl rfl ?_
  refine a_aload_n d_Acts_takeBack_28 rfl ?_
  refine a_aload_n d_Acts_takeBack_29 rfl ?_
  refine a_getf d_Acts_takeBack_30 f_Acts_9 rfl rfl ?_
  refine a_aload_n d_Acts_takeBack_33 rfl ?_
  refine a_getf d_Acts_takeBack_34 f_Acts_20 rfl rfl ?_
  refine a_lald d_Acts_takeBack_37 g16 (by rw [ek]; exact vp_in_nI (by omega) (by omega)) ?_
  refine a_putf d_Acts_takeBack_38 f_Acts_27 rfl g12 (Nat.le_of_ble_eq_true rfl) rfl rfl ?_
  refine a_aload_n d_Acts_takeBack_41 rfl ?_
  refine a_aload_n d_Acts_takeBack_42 rfl ?_
  refine a_getf d_Acts_takeBack_43 f_Acts_13 rfl rfl ?_
  refine a_aload_n d_Acts_takeBack_46 rfl ?_
  refine a_getf d_Acts_takeBack_47 f_Acts_20 rfl rfl ?_
  refine a_iald d_Acts_takeBack_50 g17 (by rw [ek]; exact vp_in_nI (by omega) (by omega)) ?_
  refine a_putf d_Acts_takeBack_51 f_Acts_32 rfl rfl (Nat.le_of_ble_eq_true rfl) rfl rfl ?_
  refine a_aload_n d_Acts_takeBack_54 rfl ?_
  refine a_aload_n d_Acts_takeBack_55 rfl ?_
  refine a_getf d_Acts_takeBack_56 f_Acts_17 rfl rfl ?_
  refine a_aload_n d_Acts_takeBack_59 rfl ?_
  refine a_getf d_Acts_takeBack_60 f_Acts_20 rfl rfl ?_
  refine a_iald d_Acts_takeBack_63 g18 (by rw [ek]; exact vp_in_nI (by omega) (by omega)) ?_
  refine a_putf d_Acts_takeBack_64 f_Acts_35 rfl rfl (Nat.le_of_ble_eq_true rfl) rfl rfl ?_
  refine a_iconst (v := 1) d_Acts_takeBack_67 (by decide) ?_
  exact a_zret d_Acts_takeBack_68 rfl (by decide) rfl (by rw [ek, nI_clamp (by omega), hu_hu, hu_hu]; rfl) rfl
end
