/-! THE CLASS'S FACE, all borders together: printed by wip/whole/t28.py -/
def byT (V : VV) (D : Int64) (j s kind : Int32) (t : Nat) : Int64 := byC V (bX (decide (j = 1)) D t) (bY (decide (j = 1)) D t) (sP (decide (j = 1)) D t) (zN (decide (j = 1)) D t) (zC (decide (j = 1)) D t) kind s (zN (decide (j = 1)) D t)
def szB (D : Int64) (j s what : Int32) (t : Nat) : Int32 := if what = 0 then nI (sP (decide (j = 1)) D t) else if what = 1 then nI (zN (decide (j = 1)) D t) else nI (cnt1 (shC (bX (decide (j = 1)) D t) (bY (decide (j = 1)) D t) (sP (decide (j = 1)) D t) (zN (decide (j = 1)) D t) (zC (decide (j = 1)) D t) s) (zN (decide (j = 1)) D t))
def wrL (V : VV) (D : Int64) (j s kind : Int32) : Nat → Int64
  | 0 => D
  | i + 1 => wrL V D j s kind i ^^^ byT V D j s kind (tOf (decide (j = 1)) D i)
def alL (D : Int64) (j s what : Int32) : Nat → Int32
  | 0 => 0
  | i + 1 => alL D j s what i + szB D j s what (tOf (decide (j = 1)) D i)
section
variable {V : VV} {h : AH} {n z : Nat}
set_option maxRecDepth 20000 in
set_option maxHeartbeats 4000000 in
theorem s_Dot_walked {lf : Int32} {W H : Nat} {D : Int64} {j s : Int32} (g8 : h 8 = oDot lf) (g12 : h 12 = oPic (nI W) (nI H) D j s) (hW : W ≤ 8) {z0 : Nat} (G : Gd (decide (j = 1)) D) (K : CK z0 h n z) : ∃ h1 n1 z1, n ≤ n1 ∧ z ≤ z1 ∧ CF z0 D j h1 n1 z1 ∧ (∀ i, i < 53 → i < 19 ∨ 31 < i → h1 i = h i) ∧ AMet V i_Dot_walkedBorders 4 [.ref 8] h n z (some (.int (nI (sB (decide (j = 1)) D 64)))) h1 n1 z1 := by
  obtain ⟨wk0, D0, jn0, S0, g19⟩ : ∃ a b c d, h 19 = oBrs a b c d := by
    obtain ⟨wkd, D, jn, S, xs, ys, ws, kn, kc, re, of, co, C, q⟩ := K
    exact ⟨_, _, _, _, C.1⟩
  obtain ⟨h1, n1, z1, q1, q2, M, F, far⟩ := s_follow (V := V) G K
  have k8 : h1 8 = oDot lf := by rw [far _ (by decide) (by decide) (by decide) (by decide) (by decide) (by decide)]; exact g8
  refine ⟨h1, n1, z1, q1, q2, F, fun i h1 h2 => far i h1 (by omega) (by omega) (by omega) (by omega) (by omega), ?_⟩
  obtain ⟨xs, ys, ws, kn, kc, re, of, co, ⟨k19, a2, a3, a4, a5, a6, a7, a8, a9, a10, a11, a12, a13, a14⟩, hk, B⟩ := F
  refine AMet.intro q1 q2 (by decide) (Nat.le_of_ble_eq_true rfl) rfl ?_
  refine a_aload_n d_Dot_walkedBorders_0 rfl ?_
  refine a_getf d_Dot_walkedBorders_1 f_Dot_56 g8 rfl ?_
  refine a_aload_n d_Dot_walkedBorders_4 rfl ?_
  refine a_getf d_Dot_walkedBorders_5 f_Dot_26 g8 rfl ?_
  refine a_getf d_Dot_walkedBorders_8 f_Dot_110 g12 rfl ?_
  refine a_aload_n d_Dot_walkedBorders_11 rfl ?_
  refine a_getf d_Dot_walkedBorders_12 f_Dot_26 g8 rfl ?_
  refine a_getf d_Dot_walkedBorders_15 f_Dot_111 g12 rfl ?_
  refine a_cv (a := 19) d_Dot_walkedBorders_18 m_Brs_follow t_Brs_follow l_Dot_271 g19 rfl rfl M rfl rfl ⟨Nat.le_of_ble_eq_true rfl, Nat.le_of_ble_eq_true rfl⟩ (Nat.le_of_ble_eq_true rfl) (show n1 ≤ n + (n1 - n) by omega) (show z1 ≤ z + (z1 - z) by omega) ?_
  refine a_aload_n d_Dot_walkedBorders_21 rfl ?_
  refine a_getf d_Dot_walkedBorders_22 f_Dot_56 k8 rfl ?_
  refine a_getf d_Dot_walkedBorders_25 f_Dot_274 k19 rfl ?_
  exact a_iret d_Dot_walkedBorders_28 rfl rfl rfl rfl
set_option maxRecDepth 20000 in
set_option maxHeartbeats 4000000 in
theorem s_Dot_bsF {lf : Int32} {W H : Nat} {D : Int64} {j s : Int32} (g8 : h 8 = oDot lf) (g12 : h 12 = oPic (nI W) (nI H) D j s) (hW : W ≤ 8) {z0 : Nat} (G : Gd (decide (j = 1)) D) (F : CF z0 D j h n z) (h0 : 1 ≤ W) {i : Nat} (hi : i < sB (decide (j = 1)) D 64) : ∃ h1, CF z0 D j h1 n z ∧ (∃ me, h1 (53 + i) = oBd (decide (j = 1)) D (tOf (decide (j = 1)) D i) me (nI (zN (decide (j = 1)) D (tOf (decide (j = 1)) D i))) (nI (zO (decide (j = 1)) D (tOf (decide (j = 1)) D i)))) ∧ (∀ i, i < 53 → i < 19 ∨ 31 < i → h1 i = h i) ∧ AMet V i_Dot_shapedBorder 5 [.ref 8, .int (nI i)] h n z (some (.ref (53 + i))) h1 n z := by
  obtain ⟨t1, t2, t3⟩ := tOf_ok hi
  have hS64 := sB_le (decide (j = 1)) D 64
  obtain ⟨h2, M2, F2, g2, far2⟩ := s_seek (V := V) G t1 t2 F
  obtain ⟨xs, ys, ws, kn, kc, re, of, co, ⟨a1, a2, a3, a4, a5, a6, a7, a8, a9, a10, a11, a12, a13, a14⟩, hk, B⟩ := F
  rw [t3] at g2 M2
  have M1 : AMet V i_Dot_borderNumber 4 [.ref 8, .int (nI i)] h n z (some (.ref (53 + i))) h n z := by
    refine AMet.intro (Nat.le_refl _) (Nat.le_refl _) (by decide) (Nat.le_of_ble_eq_true rfl) rfl ?_
    refine a_aload_n d_Dot_borderNumber_0 rfl ?_
    refine a_getf d_Dot_borderNumber_1 f_Dot_26 g8 rfl ?_
    refine a_cv0 (a := 12) d_Dot_borderNumber_4 m_Pic_isThere t_Pic_isThere l_Dot_154 g12 rfl rfl (s_there1 g12 h0 hW) rfl rfl ⟨Nat.le_of_ble_eq_true rfl, Nat.le_of_ble_eq_true rfl⟩ (Nat.le_of_ble_eq_true rfl)  ?_
    refine a_if_ne 12 d_Dot_borderNumber_7 (by decide) (fun c7 => ?_) (fun c7 => absurd c7 (by decide))
    refine a_aload_n d_Dot_borderNumber_12 rfl ?_
    refine a_getf d_Dot_borderNumber_13 f_Dot_56 g8 rfl ?_
    refine a_aload_n d_Dot_borderNumber_16 rfl ?_
    refine a_getf d_Dot_borderNumber_17 f_Dot_26 g8 rfl ?_
    refine a_getf d_Dot_borderNumber_20 f_Dot_110 g12 rfl ?_
    refine a_aload_n d_Dot_borderNumber_23 rfl ?_
    refine a_getf d_Dot_borderNumber_24 f_Dot_26 g8 rfl ?_
    refine a_getf d_Dot_borderNumber_27 f_Dot_111 g12 rfl ?_
    refine a_cv0 (a := 19) d_Dot_borderNumber_30 m_Brs_follow t_Brs_follow l_Dot_271 a1 rfl rfl (s_Brs_followHit a1) rfl rfl ⟨Nat.le_of_ble_eq_true rfl, Nat.le_of_ble_eq_true rfl⟩ (Nat.le_of_ble_eq_true rfl)  ?_
    refine a_aload_n d_Dot_borderNumber_33 rfl ?_
    refine a_getf d_Dot_borderNumber_34 f_Dot_56 g8 rfl ?_
    refine a_iload_n d_Dot_borderNumber_37 rfl ?_
    refine a_cv0 (a := 19) d_Dot_borderNumber_38 m_Brs_at t_Brs_at l_Dot_275 a1 rfl rfl (s_Brs_at a1 a5.1 hi hS64 (a5.2.2.2.1 i (by omega)).1) rfl rfl ⟨Nat.le_of_ble_eq_true rfl, Nat.le_of_ble_eq_true rfl⟩ (Nat.le_of_ble_eq_true rfl)  ?_
    exact a_aret d_Dot_borderNumber_41 rfl (Or.inr ⟨_, rfl⟩) rfl rfl rfl
  refine ⟨h2, F2, g2, fun i h1 h2 => far2 i h1 (by omega) (by omega) (by omega) (by omega), ?_⟩
  refine AMet.intro (Nat.le_refl _) (Nat.le_refl _) (by decide) (Nat.le_of_ble_eq_true rfl) rfl ?_
  refine a_aload_n d_Dot_shapedBorder_0 rfl ?_
  refine a_iload_n d_Dot_shapedBorder_1 rfl ?_
  refine a_cv0 (a := 8) d_Dot_shapedBorder_2 m_Dot_borderNumber t_Dot_borderNumber l_Dot_161 g8 rfl rfl M1 rfl rfl ⟨Nat.le_of_ble_eq_true rfl, Nat.le_of_ble_eq_true rfl⟩ (Nat.le_of_ble_eq_true rfl)  ?_
  refine a_astore_n d_Dot_shapedBorder_5 (Nat.le_of_ble_eq_true rfl) (Nat.le_of_ble_eq_true rfl) rfl ?_
  refine a_aload_n d_Dot_shapedBorder_6 rfl ?_
  refine a_ifnull d_Dot_shapedBorder_7 ?_
  refine a_aload_n d_Dot_shapedBorder_10 rfl ?_
  refine a_getf d_Dot_shapedBorder_11 f_Dot_64 g8 rfl ?_
  refine a_aload_n d_Dot_shapedBorder_14 rfl ?_
  refine a_cv0 (a := 27) d_Dot_shapedBorder_15 m_Pol_seek t_Pol_seek l_Dot_278 a9 rfl rfl M2 rfl rfl ⟨Nat.le_of_ble_eq_true rfl, Nat.le_of_ble_eq_true rfl⟩ (Nat.le_of_ble_eq_true rfl)  ?_
  refine a_aload_n d_Dot_shapedBorder_18 rfl ?_
  exact a_aret d_Dot_shapedBorder_19 rfl (Or.inr ⟨_, rfl⟩) rfl rfl rfl
set_option maxRecDepth 20000 in
set_option maxHeartbeats 4000000 in
theorem s_Dot_sizeOf {lf : Int32} {W H : Nat} {D : Int64} {j s : Int32} (g8 : h 8 = oDot lf) (g12 : h 12 = oPic (nI W) (nI H) D j s) (hW : W ≤ 8) {z0 : Nat} (G : Gd (decide (j = 1)) D) (F : CF z0 D j h n z) {t : Nat} (t1 : t < 64) (t2 : isB (decide (j = 1)) D t = true) {b : Nat} (t3 : b = 53 + sB (decide (j = 1)) D t) {me : Int32} (gb : h b = oBd (decide (j = 1)) D t me (nI (zN (decide (j = 1)) D t)) (nI (zO (decide (j = 1)) D t))) (what : Int32) : ∃ h1, CF z0 D j h1 n z ∧ (∀ i, i < 53 → i < 19 ∨ 31 < i → h1 i = h i) ∧ AMet V i_Dot_sizeOf 5 [.ref 8, .ref b, .int what] h n z (some (.int (szB D j s what t))) h1 n z := by
  have K0 := F
  obtain ⟨xs, ys, ws, kn, kc, re, of, co, ⟨k19, k20, k21, k22, k23, k24, k25, k26, k27, ⟨w1, w2, w3, w4, w5, w6, k28⟩, k29, ⟨cs, k30⟩, k31, kz⟩, hk, B⟩ := F
  obtain ⟨hP, S, U⟩ := G.2 _ t1 t2
  have hs := (G.1 _ t1 t2).2
  obtain ⟨me2, ve2, bo2, gb2, R, Q⟩ := B _ t1 t2
  have hN := bN_pos (X := (bX (decide (j = 1)) D t)) (Y := (bY (decide (j = 1)) D t)) (show 0 < (sP (decide (j = 1)) D t) by omega)
  have hN2 := bN_le (bX (decide (j = 1)) D t) (bY (decide (j = 1)) D t) (sP (decide (j = 1)) D t)
  have hc : ∀ k, k < (zN (decide (j = 1)) D t) → co ((sS (decide (j = 1)) D t) + k) = nI ((zC (decide (j = 1)) D t) k) ∧ (zC (decide (j = 1)) D t) k < 1000 := by
    rw [← t3, gb] at gb2
    intro k hk
    refine ⟨?_, bC_lt (by omega) k⟩
    rcases Q.2 with q | ⟨_, _, q⟩
    · exfalso
      have e5 : nI (zN (decide (j = 1)) D t) = ve2 := oBrd_ve gb2
      rw [q] at e5
      exact nI_ne0 hN (Nat.lt_of_le_of_lt hN2 (by omega)) e5
    · exact q k hk
  by_cases q0 : what = 0
  · refine ⟨h, K0, fun _ _ _ => rfl, ?_⟩
    refine AMet.intro (Nat.le_refl _) (Nat.le_refl _) (by decide) (Nat.le_of_ble_eq_true rfl) rfl ?_
    refine a_iload_n d_Dot_sizeOf_0 rfl ?_
    refine a_if_ne 9 d_Dot_sizeOf_1 (by decide) (fun c1 => absurd c1 (fun q => q q0)) (fun c1 => ?_)
    refine a_aload_n d_Dot_sizeOf_4 rfl ?_
    refine a_getf d_Dot_sizeOf_5 f_Dot_165 gb rfl ?_
    exact a_iret d_Dot_sizeOf_8 rfl (by unfold szB; rw [if_pos q0]) rfl rfl
  by_cases q1 : what = 1
  · refine ⟨h, K0, fun _ _ _ => rfl, ?_⟩
    refine AMet.intro (Nat.le_refl _) (Nat.le_refl _) (by decide) (Nat.le_of_ble_eq_true rfl) rfl ?_
    refine a_iload_n d_Dot_sizeOf_0 rfl ?_
    refine a_if_ne 9 d_Dot_sizeOf_1 (by decide) (fun c1 => ?_) (fun c1 => absurd c1 q0)
    refine a_iload_n d_Dot_sizeOf_9 rfl ?_
    refine a_iconst (v := 1) d_Dot_sizeOf_10 (by decide) ?_
    refine a_icmp_ne 21 d_Dot_sizeOf_11 (by decide) (fun c11 => absurd c11 (fun q => q q1)) (fun c11 => ?_)
    refine a_aload_n d_Dot_sizeOf_14 rfl ?_
    refine a_getf d_Dot_sizeOf_15 f_Dot_218 gb rfl ?_
    refine a_goto 36 d_Dot_sizeOf_18 (by decide) ?_
    exact a_iret d_Dot_sizeOf_36 rfl (by unfold szB; rw [if_neg q0, if_pos q1]) rfl rfl
  · refine ⟨hu h 28 (bdX (bX (decide (j = 1)) D t) (bY (decide (j = 1)) D t) (sP (decide (j = 1)) D t) (zN (decide (j = 1)) D t) (zC (decide (j = 1)) D t) (w1, w2, w3, w4, w5, w6) (zN (decide (j = 1)) D t)), K0.u28 (fun i hi => hu_n hi) (by rw [hu_s]; exact bdX_ex _ _ _ _ _ _ _), fun i i1 i2 => hu_n (by omega), ?_⟩
    refine AMet.intro (Nat.le_refl _) (Nat.le_refl _) (by decide) (Nat.le_of_ble_eq_true rfl) rfl ?_
    refine a_iload_n d_Dot_sizeOf_0 rfl ?_
    refine a_if_ne 9 d_Dot_sizeOf_1 (by decide) (fun c1 => ?_) (fun c1 => absurd c1 q0)
    refine a_iload_n d_Dot_sizeOf_9 rfl ?_
    refine a_iconst (v := 1) d_Dot_sizeOf_10 (by decide) ?_
    refine a_icmp_ne 21 d_Dot_sizeOf_11 (by decide) (fun c11 => ?_) (fun c11 => absurd c11 q1)
    refine a_aload_n d_Dot_sizeOf_21 rfl ?_
    refine a_getf d_Dot_sizeOf_22 f_Dot_64 g8 rfl ?_
    refine a_aload_n d_Dot_sizeOf_25 rfl ?_
    refine a_aload_n d_Dot_sizeOf_26 rfl ?_
    refine a_getf d_Dot_sizeOf_27 f_Dot_26 g8 rfl ?_
    refine a_getf d_Dot_sizeOf_30 f_Dot_114 g12 rfl ?_
    refine a_cv0 (a := 27) d_Dot_sizeOf_33 m_Pol_sharpVertices t_Pol_sharpVertices l_Dot_224 k27 rfl rfl (s_Pol_sharpVertices k19 k20 k21 k27 k29 gb (by omega) (by omega) hs hN hN2 (rowsB_Row R) hc (c := (w1, w2, w3, w4, w5, w6)) k28 s) rfl rfl ⟨Nat.le_of_ble_eq_true rfl, Nat.le_of_ble_eq_true rfl⟩ (Nat.le_of_ble_eq_true rfl)  ?_
    exact a_iret d_Dot_sizeOf_36 rfl (by unfold szB; rw [if_neg q0, if_neg q1]) rfl rfl
set_option maxRecDepth 20000 in
set_option maxHeartbeats 4000000 in
theorem s_Dot_by {lf : Int32} {W H : Nat} {D : Int64} {j s : Int32} (g8 : h 8 = oDot lf) (g12 : h 12 = oPic (nI W) (nI H) D j s) (hW : W ≤ 8) {z0 : Nat} (G : Gd (decide (j = 1)) D) (F : CF z0 D j h n z) {t : Nat} (t1 : t < 64) (t2 : isB (decide (j = 1)) D t = true) {b : Nat} (t3 : b = 53 + sB (decide (j = 1)) D t) {me : Int32} (gb : h b = oBd (decide (j = 1)) D t me (nI (zN (decide (j = 1)) D t)) (nI (zO (decide (j = 1)) D t))) (kind : Int32) : ∃ h1, CF z0 D j h1 n z ∧ (∀ i, i < 53 → i < 19 ∨ 31 < i → h1 i = h i) ∧ AMet V i_Fil_by 4 [.ref 31, .ref b, .int kind, .int s] h n z (some (.long (byT V D j s kind t))) h1 n z := by
  have K0 := F
  obtain ⟨xs, ys, ws, kn, kc, re, of, co, ⟨k19, k20, k21, k22, k23, k24, k25, k26, k27, ⟨w1, w2, w3, w4, w5, w6, k28⟩, k29, ⟨cs, k30⟩, k31, kz⟩, hk, B⟩ := F
  obtain ⟨hP, S, U⟩ := G.2 _ t1 t2
  have hs := (G.1 _ t1 t2).2
  obtain ⟨me2, ve2, bo2, gb2, R, Q⟩ := B _ t1 t2
  have hN := bN_pos (X := (bX (decide (j = 1)) D t)) (Y := (bY (decide (j = 1)) D t)) (show 0 < (sP (decide (j = 1)) D t) by omega)
  have hN2 := bN_le (bX (decide (j = 1)) D t) (bY (decide (j = 1)) D t) (sP (decide (j = 1)) D t)
  have hc : ∀ k, k < (zN (decide (j = 1)) D t) → co ((sS (decide (j = 1)) D t) + k) = nI ((zC (decide (j = 1)) D t) k) ∧ (zC (decide (j = 1)) D t) k < 1000 := by
    rw [← t3, gb] at gb2
    intro k hk
    refine ⟨?_, bC_lt (by omega) k⟩
    rcases Q.2 with q | ⟨_, _, q⟩
    · exfalso
      have e5 : nI (zN (decide (j = 1)) D t) = ve2 := oBrd_ve gb2
      rw [q] at e5
      exact nI_ne0 hN (Nat.lt_of_le_of_lt hN2 (by omega)) e5
    · exact q k hk
  refine ⟨hu h 28 (bdX (bX (decide (j = 1)) D t) (bY (decide (j = 1)) D t) (sP (decide (j = 1)) D t) (zN (decide (j = 1)) D t) (zC (decide (j = 1)) D t) (w1, w2, w3, w4, w5, w6) (zN (decide (j = 1)) D t)), K0.u28 (fun i hi => hu_n hi) (by rw [hu_s]; exact bdX_ex _ _ _ _ _ _ _), fun i i1 i2 => hu_n (by omega), ?_⟩
  exact s_Fil_by k19 k20 k21 k27 k31 k29 gb (by omega) (by omega) hs hN hN2 (rowsB_Row R) hc (c := (w1, w2, w3, w4, w5, w6)) k28 kind s
set_option maxRecDepth 20000 in
set_option maxHeartbeats 4000000 in
theorem L_all {lf : Int32} {W H : Nat} {D : Int64} {j s : Int32} (hW : W ≤ 8) {z0 n0 z9 : Nat} (G : Gd (decide (j = 1)) D) (h0 : 1 ≤ W) (hn0 : n0 ≤ n) (hz9 : z9 ≤ z) (what : Int32) {S : Nat} (hS : S = sB (decide (j = 1)) D 64) : ∀ (m i : Nat), i + m = S → ∀ h : AH, h 8 = oDot lf → h 12 = oPic (nI W) (nI H) D j s → CF z0 D j h n z → ∃ h1, CF z0 D j h1 n z ∧ (∀ i, i < 53 → i < 19 ∨ 31 < i → h1 i = h i) ∧ AM V i_Dot_all 6 n0 z9 (some (.int (alL D j s what S))) h1 n z 35 [some (.ref 8), some (.int what), some (.int (alL D j s what i)), some (.int (nI S)), some (.int (nI i)), none] [] h n z := by
  have hS64 := sB_le (decide (j = 1)) D 64
  intro m
  induction m with
  | zero =>
    intro i him h g8 g12 F
    have e : S = i := by omega
    subst e
    refine ⟨h, F, fun _ _ _ => rfl, ?_⟩
    refine a_iload d_Dot_all_35 rfl ?_
    refine a_iload_n d_Dot_all_37 rfl ?_
    refine a_icmp_ge 70 d_Dot_all_38 (by decide) (fun c38 => ?_) (fun c38 => absurd (Int32.le_refl _) c38)
    refine a_iload_n d_Dot_all_70 rfl ?_
    exact a_iret d_Dot_all_71 rfl rfl rfl rfl
  | succ m ih =>
    intro i him h g8 g12 F
    obtain ⟨t1, t2, t3⟩ := tOf_ok (J := (decide (j = 1))) (D := D) (j := i) (by omega)
    obtain ⟨h2, F2, ⟨me, g2⟩, far2, M2⟩ := s_Dot_bsF (V := V) g8 g12 hW G F h0 (i := i) (by omega)
    have k8 : h2 8 = oDot lf := by rw [far2 _ (by decide) (by decide)]; exact g8
    have k12 : h2 12 = oPic (nI W) (nI H) D j s := by rw [far2 _ (by decide) (by decide)]; exact g12
    obtain ⟨h3, F3, far3, M3⟩ := s_Dot_sizeOf (V := V) k8 k12 hW G F2 t1 t2 (b := 53 + i) (by rw [t3]) g2 what
    have l8 : h3 8 = oDot lf := by rw [far3 _ (by decide) (by decide)]; exact k8
    have l12 : h3 12 = oPic (nI W) (nI H) D j s := by rw [far3 _ (by decide) (by decide)]; exact k12
    obtain ⟨h4, F4, far4, M4⟩ := ih (i + 1) (by omega) h3 l8 l12 F3
    refine ⟨h4, F4, fun i i1 i2 => by rw [far4 i i1 i2, far3 i i1 i2, far2 i i1 i2], ?_⟩
    refine a_iload d_Dot_all_35 rfl ?_
    refine a_iload_n d_Dot_all_37 rfl ?_
    refine a_icmp_ge 70 d_Dot_all_38 (by decide) (fun c38 => absurd c38 (nI_ge (show i < S by omega) (by omega))) (fun c38 => ?_)
    refine a_aload_n d_Dot_all_41 rfl ?_
    refine a_iload d_Dot_all_42 rfl ?_
    refine a_cv (a := 8) d_Dot_all_44 m_Dot_shapedBorder t_Dot_shapedBorder l_Dot_215 g8 rfl rfl M2 rfl rfl ⟨Nat.le_of_ble_eq_true rfl, Nat.le_of_ble_eq_true rfl⟩ (Nat.le_of_ble_eq_true rfl) (show n ≤ n0 + (n - n0) by omega) (show z ≤ z9 + (z - z9) by omega) ?_
    refine a_astore d_Dot_all_47 (Nat.le_of_ble_eq_true rfl) (Nat.le_of_ble_eq_true rfl) rfl ?_
    refine a_aload d_Dot_all_49 rfl ?_
    refine a_ifnull d_Dot_all_51 ?_
    refine a_iload_n d_Dot_all_54 rfl ?_
    refine a_aload_n d_Dot_all_55 rfl ?_
    refine a_aload d_Dot_all_56 rfl ?_
    refine a_iload_n d_Dot_all_58 rfl ?_
    refine a_cv (a := 8) d_Dot_all_59 m_Dot_sizeOf t_Dot_sizeOf l_Dot_261 k8 rfl rfl M3 rfl rfl ⟨Nat.le_of_ble_eq_true rfl, Nat.le_of_ble_eq_true rfl⟩ (Nat.le_of_ble_eq_true rfl) (show n ≤ n0 + (n - n0) by omega) (show z ≤ z9 + (z - z9) by omega) ?_
    refine a_iadd d_Dot_all_62 ?_
    refine a_istore_n d_Dot_all_63 (Nat.le_of_ble_eq_true rfl) (Nat.le_of_ble_eq_true rfl) rfl ?_
    refine a_iinc d_Dot_all_64 rfl (nI_1 i) (Nat.le_of_ble_eq_true rfl) rfl ?_
    refine a_goto 35 d_Dot_all_67 (by decide) ?_
    refine a_drop 5 ?_
    exact M4
def q_all (V : VV) (W H : Nat) (D : Int64) (j s what : Int32) : Int32 := if W = 0 then -1000002 else if ¬ what < 0 ∧ what ≤ 2 then alL D j s what (sB (decide (j = 1)) D 64) else -1000001
set_option maxRecDepth 20000 in
set_option maxHeartbeats 4000000 in
theorem s_Dot_all {lf : Int32} {W H : Nat} {D : Int64} {j s : Int32} (g8 : h 8 = oDot lf) (g12 : h 12 = oPic (nI W) (nI H) D j s) (hW : W ≤ 8) {z0 : Nat} (G : Gd (decide (j = 1)) D) (K : CK z0 h n z) (hH : H ≤ 8) (what : Int32) : ∃ h1 n1 z1, n ≤ n1 ∧ z ≤ z1 ∧ CK z0 h1 n1 z1 ∧ (∀ i, i < 53 → i < 19 ∨ 31 < i → h1 i = h i) ∧ AMet V i_Dot_all 6 [.ref 8, .int what] h n z (some (.int (q_all V W H D j s what))) h1 n1 z1 := by
  by_cases h0 : W = 0
  · refine ⟨h, n, z, Nat.le_refl _, Nat.le_refl _, K, fun _ _ _ => rfl, ?_⟩
    refine AMet.intro (Nat.le_refl _) (Nat.le_refl _) (by decide) (Nat.le_of_ble_eq_true rfl) rfl ?_
    refine a_aload_n d_Dot_all_0 rfl ?_
    refine a_getf d_Dot_all_1 f_Dot_26 g8 rfl ?_
    refine a_cv0 (a := 12) d_Dot_all_4 m_Pic_isThere t_Pic_isThere l_Dot_154 g12 rfl rfl (s_there0 g12 h0) rfl rfl ⟨Nat.le_of_ble_eq_true rfl, Nat.le_of_ble_eq_true rfl⟩ (Nat.le_of_ble_eq_true rfl)  ?_
    refine a_if_ne 13 d_Dot_all_7 (by decide) (fun c7 => absurd c7 (fun q => q rfl)) (fun c7 => ?_)
    refine a_ldc d_Dot_all_10 k_Dot_128 ?_
    exact a_iret d_Dot_all_12 rfl (by unfold q_all; rw [if_pos h0]) rfl rfl
  by_cases hp : ¬ what < 0 ∧ what ≤ 2
  · obtain ⟨p1, p2⟩ := id hp
    obtain ⟨h1, n1, z1, q1, q2, F, far, M⟩ := s_Dot_walked (V := V) g8 g12 hW G K
    have k8 : h1 8 = oDot lf := by rw [far _ (by decide) (by decide)]; exact g8
    have k12 : h1 12 = oPic (nI W) (nI H) D j s := by rw [far _ (by decide) (by decide)]; exact g12
    obtain ⟨h4, F4, far4, M4⟩ := L_all (V := V) (n0 := n) (z9 := z) hW G (by omega) q1 q2 what rfl (sB (decide (j = 1)) D 64) 0 (by omega) h1 k8 k12 F
    refine ⟨h4, n1, z1, q1, q2, F4.ck, fun i i1 i2 => by rw [far4 i i1 i2, far i i1 i2], ?_⟩
    have ea : q_all V W H D j s what = alL D j s what (sB (decide (j = 1)) D 64) := by unfold q_all; rw [if_neg h0, if_pos hp]
    rw [ea]
    refine AMet.intro q1 q2 (by decide) (Nat.le_of_ble_eq_true rfl) rfl ?_
    refine a_aload_n d_Dot_all_0 rfl ?_
    refine a_getf d_Dot_all_1 f_Dot_26 g8 rfl ?_
    refine a_cv0 (a := 12) d_Dot_all_4 m_Pic_isThere t_Pic_isThere l_Dot_154 g12 rfl rfl (s_there1 g12 (by omega) hW) rfl rfl ⟨Nat.le_of_ble_eq_true rfl, Nat.le_of_ble_eq_true rfl⟩ (Nat.le_of_ble_eq_true rfl)  ?_
    refine a_if_ne 13 d_Dot_all_7 (by decide) (fun c7 => ?_) (fun c7 => absurd c7 (by decide))
    refine a_iload_n d_Dot_all_13 rfl ?_
    refine a_if_lt 22 d_Dot_all_14 (by decide) (fun c14 => absurd c14 p1) (fun c14 => ?_)
    refine a_iload_n d_Dot_all_17 rfl ?_
    refine a_iconst (v := 2) d_Dot_all_18 (by decide) ?_
    refine a_icmp_le 25 d_Dot_all_19 (by decide) (fun c19 => ?_) (fun c19 => absurd p2 c19)
    refine a_iconst (v := 0) d_Dot_all_25 (by decide) ?_
    refine a_istore_n d_Dot_all_26 (Nat.le_of_ble_eq_true rfl) (Nat.le_of_ble_eq_true rfl) rfl ?_
    refine a_aload_n d_Dot_all_27 rfl ?_
    refine a_cv (a := 8) d_Dot_all_28 m_Dot_walkedBorders t_Dot_walkedBorders l_Dot_158 g8 rfl rfl M rfl rfl ⟨Nat.le_of_ble_eq_true rfl, Nat.le_of_ble_eq_true rfl⟩ (Nat.le_of_ble_eq_true rfl) (show n1 ≤ n + (n1 - n) by omega) (show z1 ≤ z + (z1 - z) by omega) ?_
    refine a_istore_n d_Dot_all_31 (Nat.le_of_ble_eq_true rfl) (Nat.le_of_ble_eq_true rfl) rfl ?_
    refine a_iconst (v := 0) d_Dot_all_32 (by decide) ?_
    refine a_istore d_Dot_all_33 (Nat.le_of_ble_eq_true rfl) (Nat.le_of_ble_eq_true rfl) rfl ?_
    exact M4
  · refine ⟨h, n, z, Nat.le_refl _, Nat.le_refl _, K, fun _ _ _ => rfl, ?_⟩
    refine AMet.intro (Nat.le_refl _) (Nat.le_refl _) (by decide) (Nat.le_of_ble_eq_true rfl) rfl ?_
    refine a_aload_n d_Dot_all_0 rfl ?_
    refine a_getf d_Dot_all_1 f_Dot_26 g8 rfl ?_
    refine a_cv0 (a := 12) d_Dot_all_4 m_Pic_isThere t_Pic_isThere l_Dot_154 g12 rfl rfl (s_there1 g12 (by omega) hW) rfl rfl ⟨Nat.le_of_ble_eq_true rfl, Nat.le_of_ble_eq_true rfl⟩ (Nat.le_of_ble_eq_true rfl)  ?_
    refine a_if_ne 13 d_Dot_all_7 (by decide) (fun c7 => ?_) (fun c7 => absurd c7 (by decide))
    refine a_iload_n d_Dot_all_13 rfl ?_
    refine a_if_lt 22 d_Dot_all_14 (by decide) (fun c14 => ?_) (fun c14 => ?_)
    · skip
      refine a_ldc d_Dot_all_22 k_Dot_77 ?_
      exact a_iret d_Dot_all_24 rfl (by unfold q_all; rw [if_neg h0, if_neg hp]) rfl rfl
    · skip
      refine a_iload_n d_Dot_all_17 rfl ?_
      refine a_iconst (v := 2) d_Dot_all_18 (by decide) ?_
      refine a_icmp_le 25 d_Dot_all_19 (by decide) (fun c19 => ?_) (fun c19 => ?_)
      · skip
        exact absurd ⟨c14, c19⟩ hp
      · skip
        refine a_ldc d_Dot_all_22 k_Dot_77 ?_
        exact a_iret d_Dot_all_24 rfl (by unfold q_all; rw [if_neg h0, if_neg hp]) rfl rfl
set_option maxRecDepth 20000 in
set_option maxHeartbeats 4000000 in
theorem L_wrong {lf : Int32} {W H : Nat} {D : Int64} {j s : Int32} (hW : W ≤ 8) {z0 n0 z9 : Nat} (G : Gd (decide (j = 1)) D) (h0 : 1 ≤ W) (hn0 : n0 ≤ n) (hz9 : z9 ≤ z) (kind : Int32) {S : Nat} (hS : S = sB (decide (j = 1)) D 64) : ∀ (m i : Nat), i + m = S → ∀ h : AH, h 8 = oDot lf → h 12 = oPic (nI W) (nI H) D j s → CF z0 D j h n z → ∃ h1, CF z0 D j h1 n z ∧ (∀ i, i < 53 → i < 19 ∨ 31 < i → h1 i = h i) ∧ AM V i_Dot_wrong 6 n0 z9 (some (.int (fBC (wrL V D j s kind S)))) h1 n z 42 [some (.ref 8), some (.int kind), some (.long (wrL V D j s kind i)), none, some (.int (nI S)), some (.int (nI i)), none] [] h n z := by
  have hS64 := sB_le (decide (j = 1)) D 64
  intro m
  induction m with
  | zero =>
    intro i him h g8 g12 F
    have e : S = i := by omega
    subst e
    refine ⟨h, F, fun _ _ _ => rfl, ?_⟩
    refine a_iload d_Dot_wrong_42 rfl ?_
    refine a_iload d_Dot_wrong_44 rfl ?_
    refine a_icmp_ge 88 d_Dot_wrong_46 (by decide) (fun c46 => ?_) (fun c46 => absurd (Int32.le_refl _) c46)
    refine a_lload_n d_Dot_wrong_88 rfl ?_
    refine a_cs0 d_Dot_wrong_89 m_Lng_bitCount t_Lng_bitCount l_Dot_174 (s_Lng_bitCount _) rfl rfl ⟨Nat.le_of_ble_eq_true rfl, Nat.le_of_ble_eq_true rfl⟩ (Nat.le_of_ble_eq_true rfl)  ?_
    exact a_iret d_Dot_wrong_92 rfl rfl rfl rfl
  | succ m ih =>
    intro i him h g8 g12 F
    obtain ⟨t1, t2, t3⟩ := tOf_ok (J := (decide (j = 1))) (D := D) (j := i) (by omega)
    obtain ⟨h2, F2, ⟨me, g2⟩, far2, M2⟩ := s_Dot_bsF (V := V) g8 g12 hW G F h0 (i := i) (by omega)
    have k8 : h2 8 = oDot lf := by rw [far2 _ (by decide) (by decide)]; exact g8
    have k12 : h2 12 = oPic (nI W) (nI H) D j s := by rw [far2 _ (by decide) (by decide)]; exact g12
    have k31 : h2 31 = oFil := by
      obtain ⟨xs, ys, ws, kn, kc, re, of, co, C, hk, B⟩ := F2
      exact C.2.2.2.2.2.2.2.2.2.2.2.2.1
    obtain ⟨h3, F3, far3, M3⟩ := s_Dot_by (V := V) k8 k12 hW G F2 t1 t2 (b := 53 + i) (by rw [t3]) g2 kind
    have l8 : h3 8 = oDot lf := by rw [far3 _ (by decide) (by decide)]; exact k8
    have l12 : h3 12 = oPic (nI W) (nI H) D j s := by rw [far3 _ (by decide) (by decide)]; exact k12
    obtain ⟨h4, F4, far4, M4⟩ := ih (i + 1) (by omega) h3 l8 l12 F3
    refine ⟨h4, F4, fun i i1 i2 => by rw [far4 i i1 i2, far3 i i1 i2, far2 i i1 i2], ?_⟩
    refine a_iload d_Dot_wrong_42 rfl ?_
    refine a_iload d_Dot_wrong_44 rfl ?_
    refine a_icmp_ge 88 d_Dot_wrong_46 (by decide) (fun c46 => absurd c46 (nI_ge (show i < S by omega) (by omega))) (fun c46 => ?_)
    refine a_aload_n d_Dot_wrong_49 rfl ?_
    refine a_iload d_Dot_wrong_50 rfl ?_
    refine a_cv (a := 8) d_Dot_wrong_52 m_Dot_shapedBorder t_Dot_shapedBorder l_Dot_215 g8 rfl rfl M2 rfl rfl ⟨Nat.le_of_ble_eq_true rfl, Nat.le_of_ble_eq_true rfl⟩ (Nat.le_of_ble_eq_true rfl) (show n ≤ n0 + (n - n0) by omega) (show z ≤ z9 + (z - z9) by omega) ?_
    refine a_astore d_Dot_wrong_55 (Nat.le_of_ble_eq_true rfl) (Nat.le_of_ble_eq_true rfl) rfl ?_
    refine a_aload d_Dot_wrong_57 rfl ?_
    refine a_ifnull d_Dot_wrong_59 ?_
    refine a_lload_n d_Dot_wrong_62 rfl ?_
    refine a_aload_n d_Dot_wrong_63 rfl ?_
    refine a_getf d_Dot_wrong_64 f_Dot_73 k8 rfl ?_
    refine a_aload d_Dot_wrong_67 rfl ?_
    refine a_iload_n d_Dot_wrong_69 rfl ?_
    refine a_aload_n d_Dot_wrong_70 rfl ?_
    refine a_getf d_Dot_wrong_71 f_Dot_26 k8 rfl ?_
    refine a_getf d_Dot_wrong_74 f_Dot_114 k12 rfl ?_
    refine a_cv (a := 31) d_Dot_wrong_77 m_Fil_by t_Fil_by l_Dot_257 k31 rfl rfl M3 rfl rfl ⟨Nat.le_of_ble_eq_true rfl, Nat.le_of_ble_eq_true rfl⟩ (Nat.le_of_ble_eq_true rfl) (show n ≤ n0 + (n - n0) by omega) (show z ≤ z9 + (z - z9) by omega) ?_
    refine a_lxor d_Dot_wrong_80 ?_
    refine a_lstore_n d_Dot_wrong_81 (Nat.le_of_ble_eq_true rfl) (Nat.le_of_ble_eq_true rfl) rfl ?_
    refine a_iinc d_Dot_wrong_82 rfl (nI_1 i) (Nat.le_of_ble_eq_true rfl) rfl ?_
    refine a_goto 42 d_Dot_wrong_85 (by decide) ?_
    refine a_drop 6 ?_
    exact M4
def q_wrong (V : VV) (W H : Nat) (D : Int64) (j s kind : Int32) : Int32 := if W = 0 then -1000002 else if ¬ kind < 0 ∧ kind ≤ 1 then fBC (wrL V D j s kind (sB (decide (j = 1)) D 64)) else -1000001
set_option maxRecDepth 20000 in
set_option maxHeartbeats 4000000 in
theorem s_Dot_wrong {lf : Int32} {W H : Nat} {D : Int64} {j s : Int32} (g8 : h 8 = oDot lf) (g12 : h 12 = oPic (nI W) (nI H) D j s) (hW : W ≤ 8) {z0 : Nat} (G : Gd (decide (j = 1)) D) (K : CK z0 h n z) (hH : H ≤ 8) (kind : Int32) : ∃ h1 n1 z1, n ≤ n1 ∧ z ≤ z1 ∧ CK z0 h1 n1 z1 ∧ (∀ i, i < 53 → i < 19 ∨ 31 < i → h1 i = h i) ∧ AMet V i_Dot_wrong 6 [.ref 8, .int kind] h n z (some (.int (q_wrong V W H D j s kind))) h1 n1 z1 := by
  by_cases h0 : W = 0
  · refine ⟨h, n, z, Nat.le_refl _, Nat.le_refl _, K, fun _ _ _ => rfl, ?_⟩
    refine AMet.intro (Nat.le_refl _) (Nat.le_refl _) (by decide) (Nat.le_of_ble_eq_true rfl) rfl ?_
    refine a_aload_n d_Dot_wrong_0 rfl ?_
    refine a_getf d_Dot_wrong_1 f_Dot_26 g8 rfl ?_
    refine a_cv0 (a := 12) d_Dot_wrong_4 m_Pic_isThere t_Pic_isThere l_Dot_154 g12 rfl rfl (s_there0 g12 h0) rfl rfl ⟨Nat.le_of_ble_eq_true rfl, Nat.le_of_ble_eq_true rfl⟩ (Nat.le_of_ble_eq_true rfl)  ?_
    refine a_if_ne 13 d_Dot_wrong_7 (by decide) (fun c7 => absurd c7 (fun q => q rfl)) (fun c7 => ?_)
    refine a_ldc d_Dot_wrong_10 k_Dot_128 ?_
    exact a_iret d_Dot_wrong_12 rfl (by unfold q_wrong; rw [if_pos h0]) rfl rfl
  by_cases hp : ¬ kind < 0 ∧ kind ≤ 1
  · obtain ⟨p1, p2⟩ := id hp
    obtain ⟨h1, n1, z1, q1, q2, F, far, M⟩ := s_Dot_walked (V := V) g8 g12 hW G K
    have k8 : h1 8 = oDot lf := by rw [far _ (by decide) (by decide)]; exact g8
    have k12 : h1 12 = oPic (nI W) (nI H) D j s := by rw [far _ (by decide) (by decide)]; exact g12
    obtain ⟨h4, F4, far4, M4⟩ := L_wrong (V := V) (n0 := n) (z9 := z) hW G (by omega) q1 q2 kind rfl (sB (decide (j = 1)) D 64) 0 (by omega) h1 k8 k12 F
    refine ⟨h4, n1, z1, q1, q2, F4.ck, fun i i1 i2 => by rw [far4 i i1 i2, far i i1 i2], ?_⟩
    have ea : q_wrong V W H D j s kind = fBC (wrL V D j s kind (sB (decide (j = 1)) D 64)) := by unfold q_wrong; rw [if_neg h0, if_pos hp]
    rw [ea]
    refine AMet.intro q1 q2 (by decide) (Nat.le_of_ble_eq_true rfl) rfl ?_
    refine a_aload_n d_Dot_wrong_0 rfl ?_
    refine a_getf d_Dot_wrong_1 f_Dot_26 g8 rfl ?_
    refine a_cv0 (a := 12) d_Dot_wrong_4 m_Pic_isThere t_Pic_isThere l_Dot_154 g12 rfl rfl (s_there1 g12 (by omega) hW) rfl rfl ⟨Nat.le_of_ble_eq_true rfl, Nat.le_of_ble_eq_true rfl⟩ (Nat.le_of_ble_eq_true rfl)  ?_
    refine a_if_ne 13 d_Dot_wrong_7 (by decide) (fun c7 => ?_) (fun c7 => absurd c7 (by decide))
    refine a_iload_n d_Dot_wrong_13 rfl ?_
    refine a_if_lt 22 d_Dot_wrong_14 (by decide) (fun c14 => absurd c14 p1) (fun c14 => ?_)
    refine a_iload_n d_Dot_wrong_17 rfl ?_
    refine a_iconst (v := 1) d_Dot_wrong_18 (by decide) ?_
    refine a_icmp_le 25 d_Dot_wrong_19 (by decide) (fun c19 => ?_) (fun c19 => absurd p2 c19)
    refine a_aload_n d_Dot_wrong_25 rfl ?_
    refine a_getf d_Dot_wrong_26 f_Dot_26 g8 rfl ?_
    refine a_getf d_Dot_wrong_29 f_Dot_110 g12 rfl ?_
    refine a_lstore_n d_Dot_wrong_32 (Nat.le_of_ble_eq_true rfl) (Nat.le_of_ble_eq_true rfl) rfl ?_
    refine a_aload_n d_Dot_wrong_33 rfl ?_
    refine a_cv (a := 8) d_Dot_wrong_34 m_Dot_walkedBorders t_Dot_walkedBorders l_Dot_158 g8 rfl rfl M rfl rfl ⟨Nat.le_of_ble_eq_true rfl, Nat.le_of_ble_eq_true rfl⟩ (Nat.le_of_ble_eq_true rfl) (show n1 ≤ n + (n1 - n) by omega) (show z1 ≤ z + (z1 - z) by omega) ?_
    refine a_istore d_Dot_wrong_37 (Nat.le_of_ble_eq_true rfl) (Nat.le_of_ble_eq_true rfl) rfl ?_
    refine a_iconst (v := 0) d_Dot_wrong_39 (by decide) ?_
    refine a_istore d_Dot_wrong_40 (Nat.le_of_ble_eq_true rfl) (Nat.le_of_ble_eq_true rfl) rfl ?_
    exact M4
  · refine ⟨h, n, z, Nat.le_refl _, Nat.le_refl _, K, fun _ _ _ => rfl, ?_⟩
    refine AMet.intro (Nat.le_refl _) (Nat.le_refl _) (by decide) (Nat.le_of_ble_eq_true rfl) rfl ?_
    refine a_aload_n d_Dot_wrong_0 rfl ?_
    refine a_getf d_Dot_wrong_1 f_Dot_26 g8 rfl ?_
    refine a_cv0 (a := 12) d_Dot_wrong_4 m_Pic_isThere t_Pic_isThere l_Dot_154 g12 rfl rfl (s_there1 g12 (by omega) hW) rfl rfl ⟨Nat.le_of_ble_eq_true rfl, Nat.le_of_ble_eq_true rfl⟩ (Nat.le_of_ble_eq_true rfl)  ?_
    refine a_if_ne 13 d_Dot_wrong_7 (by decide) (fun c7 => ?_) (fun c7 => absurd c7 (by decide))
    refine a_iload_n d_Dot_wrong_13 rfl ?_
    refine a_if_lt 22 d_Dot_wrong_14 (by decide) (fun c14 => ?_) (fun c14 => ?_)
    · skip
      refine a_ldc d_Dot_wrong_22 k_Dot_77 ?_
      exact a_iret d_Dot_wrong_24 rfl (by unfold q_wrong; rw [if_neg h0, if_neg hp]) rfl rfl
    · skip
      refine a_iload_n d_Dot_wrong_17 rfl ?_
      refine a_iconst (v := 1) d_Dot_wrong_18 (by decide) ?_
      refine a_icmp_le 25 d_Dot_wrong_19 (by decide) (fun c19 => ?_) (fun c19 => ?_)
      · skip
        exact absurd ⟨c14, c19⟩ hp
      · skip
        refine a_ldc d_Dot_wrong_22 k_Dot_77 ?_
        exact a_iret d_Dot_wrong_24 rfl (by unfold q_wrong; rw [if_neg h0, if_neg hp]) rfl rfl
def q_borders (W : Nat) (D : Int64) (j : Int32) : Int32 := if W = 0 then -1000002 else nI (sB (decide (j = 1)) D 64)
set_option maxRecDepth 20000 in
set_option maxHeartbeats 4000000 in
theorem s_Dot_borders {lf : Int32} {W H : Nat} {D : Int64} {j s : Int32} (g8 : h 8 = oDot lf) (g12 : h 12 = oPic (nI W) (nI H) D j s) (hW : W ≤ 8) {z0 : Nat} (G : Gd (decide (j = 1)) D) (K : CK z0 h n z) (hH : H ≤ 8) : ∃ h1 n1 z1, n ≤ n1 ∧ z ≤ z1 ∧ CK z0 h1 n1 z1 ∧ (∀ i, i < 53 → i < 19 ∨ 31 < i → h1 i = h i) ∧ AMet V i_Dot_borders 6 [.ref 8] h n z (some (.int (q_borders W D j))) h1 n1 z1 := by
  by_cases h0 : W = 0
  · refine ⟨h, n, z, Nat.le_refl _, Nat.le_refl _, K, fun _ _ _ => rfl, ?_⟩
    refine AMet.intro (Nat.le_refl _) (Nat.le_refl _) (by decide) (Nat.le_of_ble_eq_true rfl) rfl ?_
    refine a_aload_n d_Dot_borders_0 rfl ?_
    refine a_getf d_Dot_borders_1 f_Dot_26 g8 rfl ?_
    refine a_cv0 (a := 12) d_Dot_borders_4 m_Pic_isThere t_Pic_isThere l_Dot_154 g12 rfl rfl (s_there0 g12 h0) rfl rfl ⟨Nat.le_of_ble_eq_true rfl, Nat.le_of_ble_eq_true rfl⟩ (Nat.le_of_ble_eq_true rfl)  ?_
    refine a_if_eq 17 d_Dot_borders_7 (by decide) (fun c7 => ?_) (fun c7 => absurd rfl c7)
    refine a_ldc d_Dot_borders_17 k_Dot_128 ?_
    exact a_iret d_Dot_borders_19 rfl (by unfold q_borders; rw [if_pos h0]) rfl rfl
  · obtain ⟨h1, n1, z1, q1, q2, F, far, M⟩ := s_Dot_walked (V := V) g8 g12 hW G K
    refine ⟨h1, n1, z1, q1, q2, F.ck, far, ?_⟩
    refine AMet.intro q1 q2 (by decide) (Nat.le_of_ble_eq_true rfl) rfl ?_
    refine a_aload_n d_Dot_borders_0 rfl ?_
    refine a_getf d_Dot_borders_1 f_Dot_26 g8 rfl ?_
    refine a_cv0 (a := 12) d_Dot_borders_4 m_Pic_isThere t_Pic_isThere l_Dot_154 g12 rfl rfl (s_there1 g12 (by omega) hW) rfl rfl ⟨Nat.le_of_ble_eq_true rfl, Nat.le_of_ble_eq_true rfl⟩ (Nat.le_of_ble_eq_true rfl)  ?_
    refine a_if_eq 17 d_Dot_borders_7 (by decide) (fun c7 => absurd c7 (by decide)) (fun c7 => ?_)
    refine a_aload_n d_Dot_borders_10 rfl ?_
    refine a_cv (a := 8) d_Dot_borders_11 m_Dot_walkedBorders t_Dot_walkedBorders l_Dot_158 g8 rfl rfl M rfl rfl ⟨Nat.le_of_ble_eq_true rfl, Nat.le_of_ble_eq_true rfl⟩ (Nat.le_of_ble_eq_true rfl) (show n1 ≤ n + (n1 - n) by omega) (show z1 ≤ z + (z1 - z) by omega) ?_
    refine a_goto 19 d_Dot_borders_14 (by decide) ?_
    exact a_iret d_Dot_borders_19 rfl (by unfold q_borders; rw [if_neg h0]) rfl rfl
end
