/-! THE CLASS'S FACE, what is asked of polygons: printed by wip/whole/t27.py -/
theorem bdX_ex (X Y : Nat → Int) (P nv : Nat) (cn : Nat → Nat) (c : Int32 × Int32 × Int32 × Int32 × Int32 × Int32) (m : Nat) : ∃ c1 c2 c3 c4 c5 c6, bdX X Y P nv cn c m = oBend c1 c2 c3 c4 c5 c6 := by
  cases m with
  | zero => exact ⟨_, _, _, _, _, _, rfl⟩
  | succ m => exact ⟨_, _, _, _, _, _, rfl⟩
def veV : AC → Int32
  | .inr (_, [_, _, _, _, _, .int v, _]) => v
  | _ => 0
theorem oBrd_ve {a1 a2 a3 a5 a6 a7 b1 b2 b3 b5 b6 b7 : Int32} {a4 b4 : Int64} (h : oBrd a1 a2 a3 a4 a5 a6 a7 = oBrd b1 b2 b3 b4 b5 b6 b7) : a6 = b6 := congrArg veV h
section
variable {V : VV} {h : AH} {n z : Nat}
theorem s_sharpC {X Y : Nat → Int} {P nv : Nat} {cn : Nat → Nat} {k : Nat} (g : h 28 = bdC X Y P nv cn k) (s : Int32) : AMet V i_Bend_isSharp 3 [.ref 28, .int s] h n z (some (.int (shC X Y P nv cn s k))) h n z := s_Bend_isSharp g s
theorem s_turnC {X Y : Nat → Int} {P nv : Nat} {cn : Nat → Nat} {k : Nat} (g : h 28 = bdC X Y P nv cn k) : AMet V i_Bend_turn 2 [.ref 28] h n z (some (.int (tnC X Y P nv cn k))) h n z := s_Bend_turn g
/-- 32 times a point of the rounded outline, x or y -/
def rnC (V : VV) (X : Nat → Int) (P nv : Nat) (cn : Nat → Nat) (i k : Nat) : Int32 := rdX V i (iI (vx X P nv cn (k + nv - 1))) (iI (vx X P nv cn k)) (iI (vx X P nv cn (k + 1)))
theorem s_xRndC {X Y : Nat → Int} {P nv : Nat} {cn : Nat → Nat} {k : Nat} (g : h 28 = bdC X Y P nv cn k) {i : Nat} (hi : i ≤ 4) : AMet V i_Bend_xOnRound 1 [.ref 28, .int (nI i)] h n z (some (.int (rnC V X P nv cn i k))) h n z := s_Bend_xOnRound g hi
theorem s_yRndC {X Y : Nat → Int} {P nv : Nat} {cn : Nat → Nat} {k : Nat} (g : h 28 = bdC X Y P nv cn k) {i : Nat} (hi : i ≤ 4) : AMet V i_Bend_yOnRound 1 [.ref 28, .int (nI i)] h n z (some (.int (rnC V Y P nv cn i k))) h n z := s_Bend_yOnRound g hi

def q_past (V : VV) (W H : Nat) (D : Int64) (j s : Int32) (b i : Int32) : Int32 := match bq W D j b with
  | none => -1000001
  | some t => if fIn2 i (nI (sP (decide (j = 1)) D t)) = 0 then -1000001 else nI (cK (bX (decide (j = 1)) D t) (bY (decide (j = 1)) D t) (sP (decide (j = 1)) D t) i.toNatClampNeg (sP (decide (j = 1)) D t) / 100000)
set_option maxRecDepth 20000 in
set_option maxHeartbeats 4000000 in
theorem s_Dot_past {lf : Int32} {W H : Nat} {D : Int64} {j s : Int32} (g8 : h 8 = oDot lf) (g12 : h 12 = oPic (nI W) (nI H) D j s) (hW : W ≤ 8) {z0 : Nat} (G : Gd (decide (j = 1)) D) (K : CK z0 h n z) (hH : H ≤ 8) (b i : Int32) : ∃ h1 n1 z1, n ≤ n1 ∧ z ≤ z1 ∧ CK z0 h1 n1 z1 ∧ (∀ i, i < 53 → i < 19 ∨ 31 < i → h1 i = h i) ∧ AMet V i_Dot_past 5 [.ref 8, .int b, .int i] h n z (some (.int (q_past V W H D j s b i))) h1 n1 z1 := by
  obtain ⟨h1, n1, z1, q1, q2, K1, far, ⟨e, M⟩ | ⟨t, e, ht, hb, F, M⟩⟩ := s_Dot_bn (V := V) g8 g12 hW G K b
  · refine ⟨h1, n1, z1, q1, q2, K1, far, ?_⟩
    refine AMet.intro q1 q2 (by decide) (Nat.le_of_ble_eq_true rfl) rfl ?_
    refine a_aload_n d_Dot_past_0 rfl ?_
    refine a_iload_n d_Dot_past_1 rfl ?_
    refine a_cv (a := 8) d_Dot_past_2 m_Dot_borderNumber t_Dot_borderNumber l_Dot_161 g8 rfl rfl M rfl rfl ⟨Nat.le_of_ble_eq_true rfl, Nat.le_of_ble_eq_true rfl⟩ (Nat.le_of_ble_eq_true rfl) (show n1 ≤ n + (n1 - n) by omega) (show z1 ≤ z + (z1 - z) by omega) ?_
    refine a_astore_nN d_Dot_past_5 (Nat.le_of_ble_eq_true rfl) (Nat.le_of_ble_eq_true rfl) rfl ?_
    refine a_aload_nN d_Dot_past_6 rfl ?_
    refine a_ifnullN 18 d_Dot_past_7 (by decide) ?_
    refine a_ldc d_Dot_past_18 k_Dot_77 ?_
    exact a_iret d_Dot_past_20 rfl (by unfold q_past; rw [e]; try rfl) rfl rfl
  · skip
    have K0 := F
    obtain ⟨xs, ys, ws, kn, kc, re, of, co, ⟨k19, k20, k21, k22, k23, k24, k25, k26, k27, ⟨c1, c2, c3, c4, c5, c6, k28⟩, k29, ⟨cs, k30⟩, k31, kz⟩, hk, B⟩ := F
    obtain ⟨hP, S, U⟩ := G.2 t ht hb
    have hs := (G.1 t ht hb).2
    have k8 : h1 8 = oDot lf := by rw [far _ (by decide) (by decide)]; exact g8
    have k12 : h1 12 = oPic (nI W) (nI H) D j s := by rw [far _ (by decide) (by decide)]; exact g12
    obtain ⟨b', hb'⟩ : ∃ b', b' = 53 + sB (decide (j = 1)) D t := ⟨_, rfl⟩
    rw [← hb'] at M
    have hb53 : 53 ≤ b' := by omega
    obtain ⟨me2, ve2, bo2, gb2, R, Q⟩ := B t ht hb
    rw [← hb'] at gb2
    by_cases c : fIn2 i (nI (sP (decide (j = 1)) D t)) = 0
    · refine ⟨h1, n1, z1, q1, q2, K0.ck, far, ?_⟩
      refine AMet.intro q1 q2 (by decide) (Nat.le_of_ble_eq_true rfl) rfl ?_
      refine a_aload_n d_Dot_past_0 rfl ?_
      refine a_iload_n d_Dot_past_1 rfl ?_
      refine a_cv (a := 8) d_Dot_past_2 m_Dot_borderNumber t_Dot_borderNumber l_Dot_161 g8 rfl rfl M rfl rfl ⟨Nat.le_of_ble_eq_true rfl, Nat.le_of_ble_eq_true rfl⟩ (Nat.le_of_ble_eq_true rfl) (show n1 ≤ n + (n1 - n) by omega) (show z1 ≤ z + (z1 - z) by omega) ?_
      refine a_astore_n d_Dot_past_5 (Nat.le_of_ble_eq_true rfl) (Nat.le_of_ble_eq_true rfl) rfl ?_
      refine a_aload_n d_Dot_past_6 rfl ?_
      refine a_ifnull d_Dot_past_7 ?_
      refine a_aload_n d_Dot_past_10 rfl ?_
      refine a_iload_n d_Dot_past_11 rfl ?_
      refine a_cv0 d_Dot_past_12 m_Brd_hasCorner t_Brd_hasCorner l_Dot_209 gb2 rfl rfl (s_Brd_hasCorner gb2 i) rfl rfl ⟨Nat.le_of_ble_eq_true rfl, Nat.le_of_ble_eq_true rfl⟩ (Nat.le_of_ble_eq_true rfl)  ?_
      refine a_if_ne 21 d_Dot_past_15 (by decide) (fun c15 => absurd c15 (fun q => q c)) (fun c15 => ?_)
      refine a_ldc d_Dot_past_18 k_Dot_77 ?_
      exact a_iret d_Dot_past_20 rfl (by unfold q_past; rw [e]; dsimp only; rw [if_pos c]) rfl rfl
    · obtain ⟨I, hI, rfl⟩ := fIn2_ok (by omega) c
      obtain ⟨h2, M2, F2, far2⟩ := s_fewest (V := V) G ht hb K0 (i := I) (by omega)
      rw [← hb'] at M2
      refine ⟨h2, n1, z1, q1, q2, F2.ck, fun i i1 i2 => by rw [far2 i i1 (by omega) (by omega) (by omega) (by omega), far i i1 i2], ?_⟩
      refine AMet.intro q1 q2 (by decide) (Nat.le_of_ble_eq_true rfl) rfl ?_
      refine a_aload_n d_Dot_past_0 rfl ?_
      refine a_iload_n d_Dot_past_1 rfl ?_
      refine a_cv (a := 8) d_Dot_past_2 m_Dot_borderNumber t_Dot_borderNumber l_Dot_161 g8 rfl rfl M rfl rfl ⟨Nat.le_of_ble_eq_true rfl, Nat.le_of_ble_eq_true rfl⟩ (Nat.le_of_ble_eq_true rfl) (show n1 ≤ n + (n1 - n) by omega) (show z1 ≤ z + (z1 - z) by omega) ?_
      refine a_astore_n d_Dot_past_5 (Nat.le_of_ble_eq_true rfl) (Nat.le_of_ble_eq_true rfl) rfl ?_
      refine a_aload_n d_Dot_past_6 rfl ?_
      refine a_ifnull d_Dot_past_7 ?_
      refine a_aload_n d_Dot_past_10 rfl ?_
      refine a_iload_n d_Dot_past_11 rfl ?_
      refine a_cv0 d_Dot_past_12 m_Brd_hasCorner t_Brd_hasCorner l_Dot_209 gb2 rfl rfl (s_Brd_hasCorner gb2 _) rfl rfl ⟨Nat.le_of_ble_eq_true rfl, Nat.le_of_ble_eq_true rfl⟩ (Nat.le_of_ble_eq_true rfl)  ?_
      refine a_if_ne 21 d_Dot_past_15 (by decide) (fun c15 => ?_) (fun c15 => absurd c15 c)
      refine a_aload_n d_Dot_past_21 rfl ?_
      refine a_getf d_Dot_past_22 f_Dot_64 k8 rfl ?_
      refine a_aload_n d_Dot_past_25 rfl ?_
      refine a_iload_n d_Dot_past_26 rfl ?_
      refine a_cv0 (a := 27) d_Dot_past_27 m_Pol_fewestThrough t_Pol_fewestThrough l_Dot_248 k27 rfl rfl M2 rfl rfl ⟨Nat.le_of_ble_eq_true rfl, Nat.le_of_ble_eq_true rfl⟩ (Nat.le_of_ble_eq_true rfl)  ?_
      exact a_iret d_Dot_past_30 rfl (by unfold q_past; rw [e]; dsimp only; rw [if_neg c, nI_clamp (by omega)]) rfl rfl
def q_best (V : VV) (W H : Nat) (D : Int64) (j s : Int32) (b what : Int32) : Int32 := match bq W D j b with
  | none => -1000001
  | some t => match swI what 3 with
    | some 0 => nI (zN (decide (j = 1)) D t)
    | some 1 => nI (zO (decide (j = 1)) D t)
    | some 2 => nI (cnt1 (shC (bX (decide (j = 1)) D t) (bY (decide (j = 1)) D t) (sP (decide (j = 1)) D t) (zN (decide (j = 1)) D t) (zC (decide (j = 1)) D t) s) (zN (decide (j = 1)) D t))
    | some 3 => fAbs (iI (ar2 (bX (decide (j = 1)) D t) (bY (decide (j = 1)) D t) (sP (decide (j = 1)) D t) (zN (decide (j = 1)) D t) (zC (decide (j = 1)) D t) (zN (decide (j = 1)) D t)))
    | _ => -1000001
set_option maxRecDepth 20000 in
set_option maxHeartbeats 4000000 in
theorem s_Dot_best {lf : Int32} {W H : Nat} {D : Int64} {j s : Int32} (g8 : h 8 = oDot lf) (g12 : h 12 = oPic (nI W) (nI H) D j s) (hW : W ≤ 8) {z0 : Nat} (G : Gd (decide (j = 1)) D) (K : CK z0 h n z) (hH : H ≤ 8) (b what : Int32) : ∃ h1 n1 z1, n ≤ n1 ∧ z ≤ z1 ∧ CK z0 h1 n1 z1 ∧ (∀ i, i < 53 → i < 19 ∨ 31 < i → h1 i = h i) ∧ AMet V i_Dot_best 6 [.ref 8, .int b, .int what] h n z (some (.int (q_best V W H D j s b what))) h1 n1 z1 := by
  obtain ⟨h1, n1, z1, q1, q2, K1, far, ⟨e, M⟩ | ⟨t, e, ht, hb, F, ⟨me, gb⟩, M⟩⟩ := s_Dot_bs (V := V) g8 g12 hW G K b
  · refine ⟨h1, n1, z1, q1, q2, K1, far, ?_⟩
    refine AMet.intro q1 q2 (by decide) (Nat.le_of_ble_eq_true rfl) rfl ?_
    refine a_aload_n d_Dot_best_0 rfl ?_
    refine a_iload_n d_Dot_best_1 rfl ?_
    refine a_cv (a := 8) d_Dot_best_2 m_Dot_shapedBorder t_Dot_shapedBorder l_Dot_215 g8 rfl rfl M rfl rfl ⟨Nat.le_of_ble_eq_true rfl, Nat.le_of_ble_eq_true rfl⟩ (Nat.le_of_ble_eq_true rfl) (show n1 ≤ n + (n1 - n) by omega) (show z1 ≤ z + (z1 - z) by omega) ?_
    refine a_astore_nN d_Dot_best_5 (Nat.le_of_ble_eq_true rfl) (Nat.le_of_ble_eq_true rfl) rfl ?_
    refine a_aload_nN d_Dot_best_6 rfl ?_
    refine a_ifnonnullN d_Dot_best_7 ?_
    refine a_ldc d_Dot_best_10 k_Dot_77 ?_
    exact a_iret d_Dot_best_12 rfl (by unfold q_best; rw [e]; try rfl) rfl rfl
  · skip
    have K0 := F
    obtain ⟨xs, ys, ws, kn, kc, re, of, co, ⟨k19, k20, k21, k22, k23, k24, k25, k26, k27, ⟨c1, c2, c3, c4, c5, c6, k28⟩, k29, ⟨cs, k30⟩, k31, kz⟩, hk, B⟩ := F
    obtain ⟨hP, S, U⟩ := G.2 t ht hb
    have hs := (G.1 t ht hb).2
    have k8 : h1 8 = oDot lf := by rw [far _ (by decide) (by decide)]; exact g8
    have k12 : h1 12 = oPic (nI W) (nI H) D j s := by rw [far _ (by decide) (by decide)]; exact g12
    obtain ⟨b', hb'⟩ : ∃ b', b' = 53 + sB (decide (j = 1)) D t := ⟨_, rfl⟩
    rw [← hb'] at M
    have hb53 : 53 ≤ b' := by omega
    obtain ⟨me2, ve2, bo2, gb2, R, Q⟩ := B t ht hb
    have hN := bN_pos (X := (bX (decide (j = 1)) D t)) (Y := (bY (decide (j = 1)) D t)) (show 0 < (sP (decide (j = 1)) D t) by omega)
    have hN2 := bN_le (bX (decide (j = 1)) D t) (bY (decide (j = 1)) D t) (sP (decide (j = 1)) D t)
    have hc : ∀ k, k < (zN (decide (j = 1)) D t) → co ((sS (decide (j = 1)) D t) + k) = nI ((zC (decide (j = 1)) D t) k) ∧ (zC (decide (j = 1)) D t) k < 1000 := by
      rw [gb] at gb2
      intro k hk
      refine ⟨?_, bC_lt (by omega) k⟩
      rcases Q.2 with q | ⟨_, _, q⟩
      · exfalso
        have e5 : nI (zN (decide (j = 1)) D t) = ve2 := oBrd_ve gb2
        rw [q] at e5
        exact nI_ne0 hN (Nat.lt_of_le_of_lt hN2 (by omega)) e5
      · exact q k hk
    rw [← hb'] at gb
    rcases sw_cases what 3 (by decide) with c14 | ⟨q, hq, c14⟩
    · skip
      refine ⟨h1, n1, z1, q1, q2, K0.ck, far, ?_⟩
      refine AMet.intro q1 q2 (by decide) (Nat.le_of_ble_eq_true rfl) rfl ?_
      refine a_aload_n d_Dot_best_0 rfl ?_
      refine a_iload_n d_Dot_best_1 rfl ?_
      refine a_cv (a := 8) d_Dot_best_2 m_Dot_shapedBorder t_Dot_shapedBorder l_Dot_215 g8 rfl rfl M rfl rfl ⟨Nat.le_of_ble_eq_true rfl, Nat.le_of_ble_eq_true rfl⟩ (Nat.le_of_ble_eq_true rfl) (show n1 ≤ n + (n1 - n) by omega) (show z1 ≤ z + (z1 - z) by omega) ?_
      refine a_astore_n d_Dot_best_5 (Nat.le_of_ble_eq_true rfl) (Nat.le_of_ble_eq_true rfl) rfl ?_
      refine a_aload_n d_Dot_best_6 rfl ?_
      refine a_ifnonnull 13 d_Dot_best_7 (by decide) ?_
      refine a_iload_n d_Dot_best_13 rfl ?_
      refine a_tabOut 79 d_Dot_best_14 c14 (by decide) ?_
      refine a_ldc d_Dot_best_79 k_Dot_77 ?_
      exact a_iret d_Dot_best_81 rfl (by unfold q_best; rw [e]; dsimp only; rw [swI_out c14]; try rfl) rfl rfl
    rcases (show q = 0 ∨ q = 1 ∨ q = 2 ∨ q = 3 by omega) with rfl | rfl | rfl | rfl
    · skip
      refine ⟨h1, n1, z1, q1, q2, K0.ck, far, ?_⟩
      refine AMet.intro q1 q2 (by decide) (Nat.le_of_ble_eq_true rfl) rfl ?_
      refine a_aload_n d_Dot_best_0 rfl ?_
      refine a_iload_n d_Dot_best_1 rfl ?_
      refine a_cv (a := 8) d_Dot_best_2 m_Dot_shapedBorder t_Dot_shapedBorder l_Dot_215 g8 rfl rfl M rfl rfl ⟨Nat.le_of_ble_eq_true rfl, Nat.le_of_ble_eq_true rfl⟩ (Nat.le_of_ble_eq_true rfl) (show n1 ≤ n + (n1 - n) by omega) (show z1 ≤ z + (z1 - z) by omega) ?_
      refine a_astore_n d_Dot_best_5 (Nat.le_of_ble_eq_true rfl) (Nat.le_of_ble_eq_true rfl) rfl ?_
      refine a_aload_n d_Dot_best_6 rfl ?_
      refine a_ifnonnull 13 d_Dot_best_7 (by decide) ?_
      refine a_iload_n d_Dot_best_13 rfl ?_
      refine a_tabIn (off := 30) 44 d_Dot_best_14 (by rw [c14]; decide) (by rw [c14]; decide) (by rw [c14]; rfl) (by decide) ?_
      refine a_aload_n d_Dot_best_44 rfl ?_
      refine a_getf d_Dot_best_45 f_Dot_218 gb rfl ?_
      exact a_iret d_Dot_best_48 rfl (by unfold q_best; rw [e]; dsimp only; rw [c14, swI_in 0 3 (by decide) (by decide)]; try rfl) rfl rfl
    · skip
      refine ⟨h1, n1, z1, q1, q2, K0.ck, far, ?_⟩
      refine AMet.intro q1 q2 (by decide) (Nat.le_of_ble_eq_true rfl) rfl ?_
      refine a_aload_n d_Dot_best_0 rfl ?_
      refine a_iload_n d_Dot_best_1 rfl ?_
      refine a_cv (a := 8) d_Dot_best_2 m_Dot_shapedBorder t_Dot_shapedBorder l_Dot_215 g8 rfl rfl M rfl rfl ⟨Nat.le_of_ble_eq_true rfl, Nat.le_of_ble_eq_true rfl⟩ (Nat.le_of_ble_eq_true rfl) (show n1 ≤ n + (n1 - n) by omega) (show z1 ≤ z + (z1 - z) by omega) ?_
      refine a_astore_n d_Dot_best_5 (Nat.le_of_ble_eq_true rfl) (Nat.le_of_ble_eq_true rfl) rfl ?_
      refine a_aload_n d_Dot_best_6 rfl ?_
      refine a_ifnonnull 13 d_Dot_best_7 (by decide) ?_
      refine a_iload_n d_Dot_best_13 rfl ?_
      refine a_tabIn (off := 35) 49 d_Dot_best_14 (by rw [c14]; decide) (by rw [c14]; decide) (by rw [c14]; rfl) (by decide) ?_
      refine a_aload_n d_Dot_best_49 rfl ?_
      refine a_getf d_Dot_best_50 f_Dot_221 gb rfl ?_
      exact a_iret d_Dot_best_53 rfl (by unfold q_best; rw [e]; dsimp only; rw [c14, swI_in 1 3 (by decide) (by decide)]; try rfl) rfl rfl
    · skip
      refine ⟨hu h1 28 (bdX (bX (decide (j = 1)) D t) (bY (decide (j = 1)) D t) (sP (decide (j = 1)) D t) (zN (decide (j = 1)) D t) (zC (decide (j = 1)) D t) (c1, c2, c3, c4, c5, c6) (zN (decide (j = 1)) D t)), n1, z1, q1, q2, (K0.u28 (fun i hi => hu_n hi) (by rw [hu_s]; exact bdX_ex _ _ _ _ _ _ _)).ck, fun i i1 i2 => (hu_n (by omega)).trans (far i i1 i2), ?_⟩
      refine AMet.intro q1 q2 (by decide) (Nat.le_of_ble_eq_true rfl) rfl ?_
      refine a_aload_n d_Dot_best_0 rfl ?_
      refine a_iload_n d_Dot_best_1 rfl ?_
      refine a_cv (a := 8) d_Dot_best_2 m_Dot_shapedBorder t_Dot_shapedBorder l_Dot_215 g8 rfl rfl M rfl rfl ⟨Nat.le_of_ble_eq_true rfl, Nat.le_of_ble_eq_true rfl⟩ (Nat.le_of_ble_eq_true rfl) (show n1 ≤ n + (n1 - n) by omega) (show z1 ≤ z + (z1 - z) by omega) ?_
      refine a_astore_n d_Dot_best_5 (Nat.le_of_ble_eq_true rfl) (Nat.le_of_ble_eq_true rfl) rfl ?_
      refine a_aload_n d_Dot_best_6 rfl ?_
      refine a_ifnonnull 13 d_Dot_best_7 (by decide) ?_
      refine a_iload_n d_Dot_best_13 rfl ?_
      refine a_tabIn (off := 40) 54 d_Dot_best_14 (by rw [c14]; decide) (by rw [c14]; decide) (by rw [c14]; rfl) (by decide) ?_
      refine a_aload_n d_Dot_best_54 rfl ?_
      refine a_getf d_Dot_best_55 f_Dot_64 k8 rfl ?_
      refine a_aload_n d_Dot_best_58 rfl ?_
      refine a_aload_n d_Dot_best_59 rfl ?_
      refine a_getf d_Dot_best_60 f_Dot_26 k8 rfl ?_
      refine a_getf d_Dot_best_63 f_Dot_114 k12 rfl ?_
      refine a_cv0 (a := 27) d_Dot_best_66 m_Pol_sharpVertices t_Pol_sharpVertices l_Dot_224 k27 rfl rfl (s_Pol_sharpVertices k19 k20 k21 k27 k29 gb hb53 (by omega) hs hN hN2 (rowsB_Row R) hc (c := (c1, c2, c3, c4, c5, c6)) k28 s) rfl rfl ⟨Nat.le_of_ble_eq_true rfl, Nat.le_of_ble_eq_true rfl⟩ (Nat.le_of_ble_eq_true rfl)  ?_
      exact a_iret d_Dot_best_69 rfl (by unfold q_best; rw [e]; dsimp only; rw [c14, swI_in 2 3 (by decide) (by decide)]; try rfl) rfl rfl
    · skip
      refine ⟨h1, n1, z1, q1, q2, K0.ck, far, ?_⟩
      refine AMet.intro q1 q2 (by decide) (Nat.le_of_ble_eq_true rfl) rfl ?_
      refine a_aload_n d_Dot_best_0 rfl ?_
      refine a_iload_n d_Dot_best_1 rfl ?_
      refine a_cv (a := 8) d_Dot_best_2 m_Dot_shapedBorder t_Dot_shapedBorder l_Dot_215 g8 rfl rfl M rfl rfl ⟨Nat.le_of_ble_eq_true rfl, Nat.le_of_ble_eq_true rfl⟩ (Nat.le_of_ble_eq_true rfl) (show n1 ≤ n + (n1 - n) by omega) (show z1 ≤ z + (z1 - z) by omega) ?_
      refine a_astore_n d_Dot_best_5 (Nat.le_of_ble_eq_true rfl) (Nat.le_of_ble_eq_true rfl) rfl ?_
      refine a_aload_n d_Dot_best_6 rfl ?_
      refine a_ifnonnull 13 d_Dot_best_7 (by decide) ?_
      refine a_iload_n d_Dot_best_13 rfl ?_
      refine a_tabIn (off := 56) 70 d_Dot_best_14 (by rw [c14]; decide) (by rw [c14]; decide) (by rw [c14]; rfl) (by decide) ?_
      refine a_aload_n d_Dot_best_70 rfl ?_
      refine a_getf d_Dot_best_71 f_Dot_64 k8 rfl ?_
      refine a_aload_n d_Dot_best_74 rfl ?_
      refine a_cv0 (a := 27) d_Dot_best_75 m_Pol_twiceTheArea t_Pol_twiceTheArea l_Dot_227 k27 rfl rfl (s_Pol_twiceTheArea k19 k20 k21 k27 k29 gb hb53 (by omega) hs hN hN2 (rowsB_Row R) hc) rfl rfl ⟨Nat.le_of_ble_eq_true rfl, Nat.le_of_ble_eq_true rfl⟩ (Nat.le_of_ble_eq_true rfl)  ?_
      exact a_iret d_Dot_best_78 rfl (by unfold q_best; rw [e]; dsimp only; rw [c14, swI_in 3 3 (by decide) (by decide)]; try rfl) rfl rfl
def q_vertex (V : VV) (W H : Nat) (D : Int64) (j s : Int32) (b k what : Int32) : Int32 := match bq W D j b with
  | none => -1000001
  | some t => if fIn2 k (nI (zN (decide (j = 1)) D t)) = 0 then -1000001 else match swI what 2 with
    | some 0 => nI ((zC (decide (j = 1)) D t) (k.toNatClampNeg % (zN (decide (j = 1)) D t)))
    | some 1 => tnC (bX (decide (j = 1)) D t) (bY (decide (j = 1)) D t) (sP (decide (j = 1)) D t) (zN (decide (j = 1)) D t) (zC (decide (j = 1)) D t) k.toNatClampNeg
    | some 2 => if shC (bX (decide (j = 1)) D t) (bY (decide (j = 1)) D t) (sP (decide (j = 1)) D t) (zN (decide (j = 1)) D t) (zC (decide (j = 1)) D t) s k.toNatClampNeg = 0 then 0 else 1
    | _ => -1000001
set_option maxRecDepth 20000 in
set_option maxHeartbeats 4000000 in
theorem s_Dot_vertex {lf : Int32} {W H : Nat} {D : Int64} {j s : Int32} (g8 : h 8 = oDot lf) (g12 : h 12 = oPic (nI W) (nI H) D j s) (hW : W ≤ 8) {z0 : Nat} (G : Gd (decide (j = 1)) D) (K : CK z0 h n z) (hH : H ≤ 8) (b k what : Int32) : ∃ h1 n1 z1, n ≤ n1 ∧ z ≤ z1 ∧ CK z0 h1 n1 z1 ∧ (∀ i, i < 53 → i < 19 ∨ 31 < i → h1 i = h i) ∧ AMet V i_Dot_vertex 6 [.ref 8, .int b, .int k, .int what] h n z (some (.int (q_vertex V W H D j s b k what))) h1 n1 z1 := by
  obtain ⟨h1, n1, z1, q1, q2, K1, far, ⟨e, M⟩ | ⟨t, e, ht, hb, F, ⟨me, gb⟩, M⟩⟩ := s_Dot_bs (V := V) g8 g12 hW G K b
  · refine ⟨h1, n1, z1, q1, q2, K1, far, ?_⟩
    refine AMet.intro q1 q2 (by decide) (Nat.le_of_ble_eq_true rfl) rfl ?_
    refine a_aload_n d_Dot_vertex_0 rfl ?_
    refine a_iload_n d_Dot_vertex_1 rfl ?_
    refine a_cv (a := 8) d_Dot_vertex_2 m_Dot_shapedBorder t_Dot_shapedBorder l_Dot_215 g8 rfl rfl M rfl rfl ⟨Nat.le_of_ble_eq_true rfl, Nat.le_of_ble_eq_true rfl⟩ (Nat.le_of_ble_eq_true rfl) (show n1 ≤ n + (n1 - n) by omega) (show z1 ≤ z + (z1 - z) by omega) ?_
    refine a_astoreN d_Dot_vertex_5 (Nat.le_of_ble_eq_true rfl) (Nat.le_of_ble_eq_true rfl) rfl ?_
    refine a_aloadN d_Dot_vertex_7 rfl ?_
    refine a_ifnullN 21 d_Dot_vertex_9 (by decide) ?_
    refine a_ldc d_Dot_vertex_21 k_Dot_77 ?_
    exact a_iret d_Dot_vertex_23 rfl (by unfold q_vertex; rw [e]; try rfl) rfl rfl
  · skip
    have K0 := F
    obtain ⟨xs, ys, ws, kn, kc, re, of, co, ⟨k19, k20, k21, k22, k23, k24, k25, k26, k27, ⟨c1, c2, c3, c4, c5, c6, k28⟩, k29, ⟨cs, k30⟩, k31, kz⟩, hk, B⟩ := F
    obtain ⟨hP, S, U⟩ := G.2 t ht hb
    have hs := (G.1 t ht hb).2
    have k8 : h1 8 = oDot lf := by rw [far _ (by decide) (by decide)]; exact g8
    have k12 : h1 12 = oPic (nI W) (nI H) D j s := by rw [far _ (by decide) (by decide)]; exact g12
    obtain ⟨b', hb'⟩ : ∃ b', b' = 53 + sB (decide (j = 1)) D t := ⟨_, rfl⟩
    rw [← hb'] at M
    have hb53 : 53 ≤ b' := by omega
    obtain ⟨me2, ve2, bo2, gb2, R, Q⟩ := B t ht hb
    have hN := bN_pos (X := (bX (decide (j = 1)) D t)) (Y := (bY (decide (j = 1)) D t)) (show 0 < (sP (decide (j = 1)) D t) by omega)
    have hN2 := bN_le (bX (decide (j = 1)) D t) (bY (decide (j = 1)) D t) (sP (decide (j = 1)) D t)
    have hc : ∀ k, k < (zN (decide (j = 1)) D t) → co ((sS (decide (j = 1)) D t) + k) = nI ((zC (decide (j = 1)) D t) k) ∧ (zC (decide (j = 1)) D t) k < 1000 := by
      rw [gb] at gb2
      intro k hk
      refine ⟨?_, bC_lt (by omega) k⟩
      rcases Q.2 with q | ⟨_, _, q⟩
      · exfalso
        have e5 : nI (zN (decide (j = 1)) D t) = ve2 := oBrd_ve gb2
        rw [q] at e5
        exact nI_ne0 hN (Nat.lt_of_le_of_lt hN2 (by omega)) e5
      · exact q k hk
    rw [← hb'] at gb
    by_cases c : fIn2 k (nI (zN (decide (j = 1)) D t)) = 0
    · refine ⟨h1, n1, z1, q1, q2, K0.ck, far, ?_⟩
      refine AMet.intro q1 q2 (by decide) (Nat.le_of_ble_eq_true rfl) rfl ?_
      refine a_aload_n d_Dot_vertex_0 rfl ?_
      refine a_iload_n d_Dot_vertex_1 rfl ?_
      refine a_cv (a := 8) d_Dot_vertex_2 m_Dot_shapedBorder t_Dot_shapedBorder l_Dot_215 g8 rfl rfl M rfl rfl ⟨Nat.le_of_ble_eq_true rfl, Nat.le_of_ble_eq_true rfl⟩ (Nat.le_of_ble_eq_true rfl) (show n1 ≤ n + (n1 - n) by omega) (show z1 ≤ z + (z1 - z) by omega) ?_
      refine a_astore d_Dot_vertex_5 (Nat.le_of_ble_eq_true rfl) (Nat.le_of_ble_eq_true rfl) rfl ?_
      refine a_aload d_Dot_vertex_7 rfl ?_
      refine a_ifnull d_Dot_vertex_9 ?_
      refine a_aload d_Dot_vertex_12 rfl ?_
      refine a_iload_n d_Dot_vertex_14 rfl ?_
      refine a_cv0 d_Dot_vertex_15 m_Brd_hasVertex t_Brd_hasVertex l_Dot_230 gb rfl rfl (s_Brd_hasVertex gb k) rfl rfl ⟨Nat.le_of_ble_eq_true rfl, Nat.le_of_ble_eq_true rfl⟩ (Nat.le_of_ble_eq_true rfl)  ?_
      refine a_if_ne 24 d_Dot_vertex_18 (by decide) (fun c18 => absurd c18 (fun q => q c)) (fun c18 => ?_)
      refine a_ldc d_Dot_vertex_21 k_Dot_77 ?_
      exact a_iret d_Dot_vertex_23 rfl (by unfold q_vertex; rw [e]; dsimp only; rw [if_pos c]) rfl rfl
    · have hN9 : (zN (decide (j = 1)) D t) < 1000 := Nat.lt_of_le_of_lt hN2 (by omega)
      obtain ⟨KK, hKK, rfl⟩ := fIn2_ok (by omega) c
      rcases sw_cases what 2 (by decide) with c25 | ⟨q, hq, c25⟩
      · skip
        refine ⟨h1, n1, z1, q1, q2, K0.ck, far, ?_⟩
        refine AMet.intro q1 q2 (by decide) (Nat.le_of_ble_eq_true rfl) rfl ?_
        refine a_aload_n d_Dot_vertex_0 rfl ?_
        refine a_iload_n d_Dot_vertex_1 rfl ?_
        refine a_cv (a := 8) d_Dot_vertex_2 m_Dot_shapedBorder t_Dot_shapedBorder l_Dot_215 g8 rfl rfl M rfl rfl ⟨Nat.le_of_ble_eq_true rfl, Nat.le_of_ble_eq_true rfl⟩ (Nat.le_of_ble_eq_true rfl) (show n1 ≤ n + (n1 - n) by omega) (show z1 ≤ z + (z1 - z) by omega) ?_
        refine a_astore d_Dot_vertex_5 (Nat.le_of_ble_eq_true rfl) (Nat.le_of_ble_eq_true rfl) rfl ?_
        refine a_aload d_Dot_vertex_7 rfl ?_
        refine a_ifnull d_Dot_vertex_9 ?_
        refine a_aload d_Dot_vertex_12 rfl ?_
        refine a_iload_n d_Dot_vertex_14 rfl ?_
        refine a_cv0 d_Dot_vertex_15 m_Brd_hasVertex t_Brd_hasVertex l_Dot_230 gb rfl rfl (s_Brd_hasVertex gb _) rfl rfl ⟨Nat.le_of_ble_eq_true rfl, Nat.le_of_ble_eq_true rfl⟩ (Nat.le_of_ble_eq_true rfl)  ?_
        refine a_if_ne 24 d_Dot_vertex_18 (by decide) (fun c18 => ?_) (fun c18 => absurd c18 c)
        refine a_iload_n d_Dot_vertex_24 rfl ?_
        refine a_tabOut 106 d_Dot_vertex_25 c25 (by decide) ?_
        refine a_ldc d_Dot_vertex_106 k_Dot_77 ?_
        exact a_iret d_Dot_vertex_108 rfl (by unfold q_vertex; rw [e]; dsimp only; rw [if_neg c, swI_out c25]; try rw [nI_clamp (by omega)]; try rfl) rfl rfl
      rcases (show q = 0 ∨ q = 1 ∨ q = 2 by omega) with rfl | rfl | rfl
      · skip
        refine ⟨h1, n1, z1, q1, q2, K0.ck, far, ?_⟩
        refine AMet.intro q1 q2 (by decide) (Nat.le_of_ble_eq_true rfl) rfl ?_
        refine a_aload_n d_Dot_vertex_0 rfl ?_
        refine a_iload_n d_Dot_vertex_1 rfl ?_
        refine a_cv (a := 8) d_Dot_vertex_2 m_Dot_shapedBorder t_Dot_shapedBorder l_Dot_215 g8 rfl rfl M rfl rfl ⟨Nat.le_of_ble_eq_true rfl, Nat.le_of_ble_eq_true rfl⟩ (Nat.le_of_ble_eq_true rfl) (show n1 ≤ n + (n1 - n) by omega) (show z1 ≤ z + (z1 - z) by omega) ?_
        refine a_astore d_Dot_vertex_5 (Nat.le_of_ble_eq_true rfl) (Nat.le_of_ble_eq_true rfl) rfl ?_
        refine a_aload d_Dot_vertex_7 rfl ?_
        refine a_ifnull d_Dot_vertex_9 ?_
        refine a_aload d_Dot_vertex_12 rfl ?_
        refine a_iload_n d_Dot_vertex_14 rfl ?_
        refine a_cv0 d_Dot_vertex_15 m_Brd_hasVertex t_Brd_hasVertex l_Dot_230 gb rfl rfl (s_Brd_hasVertex gb _) rfl rfl ⟨Nat.le_of_ble_eq_true rfl, Nat.le_of_ble_eq_true rfl⟩ (Nat.le_of_ble_eq_true rfl)  ?_
        refine a_if_ne 24 d_Dot_vertex_18 (by decide) (fun c18 => ?_) (fun c18 => absurd c18 c)
        refine a_iload_n d_Dot_vertex_24 rfl ?_
        refine a_tabIn (off := 27) 52 d_Dot_vertex_25 (by rw [c25]; decide) (by rw [c25]; decide) (by rw [c25]; rfl) (by decide) ?_
        refine a_aload_n d_Dot_vertex_52 rfl ?_
        refine a_getf d_Dot_vertex_53 f_Dot_64 k8 rfl ?_
        refine a_aload d_Dot_vertex_56 rfl ?_
        refine a_iload_n d_Dot_vertex_58 rfl ?_
        refine a_cv0 (a := 27) d_Dot_vertex_59 m_Pol_cornerOfVertex t_Pol_cornerOfVertex l_Dot_233 k27 rfl rfl (s_Pol_cornerOfVertex k19 k20 k21 k27 k29 gb hb53 (by omega) hs hN hN2 (rowsB_Row R) hc (K := KK) (by omega)) rfl rfl ⟨Nat.le_of_ble_eq_true rfl, Nat.le_of_ble_eq_true rfl⟩ (Nat.le_of_ble_eq_true rfl)  ?_
        exact a_iret d_Dot_vertex_62 rfl (by unfold q_vertex; rw [e]; dsimp only; rw [if_neg c, c25, swI_in 0 2 (by decide) (by decide)]; try rw [nI_clamp (by omega)]; try rfl) rfl rfl
      · skip
        refine ⟨hu h1 28 (bdC (bX (decide (j = 1)) D t) (bY (decide (j = 1)) D t) (sP (decide (j = 1)) D t) (zN (decide (j = 1)) D t) (zC (decide (j = 1)) D t) KK), n1, z1, q1, q2, (K0.u28 (fun i hi => hu_n hi) ⟨_, _, _, _, _, _, hu_s _ _ _⟩).ck, fun i i1 i2 => (hu_n (by omega)).trans (far i i1 i2), ?_⟩
        refine AMet.intro q1 q2 (by decide) (Nat.le_of_ble_eq_true rfl) rfl ?_
        refine a_aload_n d_Dot_vertex_0 rfl ?_
        refine a_iload_n d_Dot_vertex_1 rfl ?_
        refine a_cv (a := 8) d_Dot_vertex_2 m_Dot_shapedBorder t_Dot_shapedBorder l_Dot_215 g8 rfl rfl M rfl rfl ⟨Nat.le_of_ble_eq_true rfl, Nat.le_of_ble_eq_true rfl⟩ (Nat.le_of_ble_eq_true rfl) (show n1 ≤ n + (n1 - n) by omega) (show z1 ≤ z + (z1 - z) by omega) ?_
        refine a_astore d_Dot_vertex_5 (Nat.le_of_ble_eq_true rfl) (Nat.le_of_ble_eq_true rfl) rfl ?_
        refine a_aload d_Dot_vertex_7 rfl ?_
        refine a_ifnull d_Dot_vertex_9 ?_
        refine a_aload d_Dot_vertex_12 rfl ?_
        refine a_iload_n d_Dot_vertex_14 rfl ?_
        refine a_cv0 d_Dot_vertex_15 m_Brd_hasVertex t_Brd_hasVertex l_Dot_230 gb rfl rfl (s_Brd_hasVertex gb _) rfl rfl ⟨Nat.le_of_ble_eq_true rfl, Nat.le_of_ble_eq_true rfl⟩ (Nat.le_of_ble_eq_true rfl)  ?_
        refine a_if_ne 24 d_Dot_vertex_18 (by decide) (fun c18 => ?_) (fun c18 => absurd c18 c)
        refine a_iload_n d_Dot_vertex_24 rfl ?_
        refine a_tabIn (off := 38) 63 d_Dot_vertex_25 (by rw [c25]; decide) (by rw [c25]; decide) (by rw [c25]; rfl) (by decide) ?_
        refine a_aload_n d_Dot_vertex_63 rfl ?_
        refine a_getf d_Dot_vertex_64 f_Dot_64 k8 rfl ?_
        refine a_aload d_Dot_vertex_67 rfl ?_
        refine a_iload_n d_Dot_vertex_69 rfl ?_
        refine a_cv0 (a := 27) d_Dot_vertex_70 m_Pol_bendAt t_Pol_bendAt l_Dot_236 k27 rfl rfl (s_Pol_bendAt k19 k20 k21 k27 k29 gb hb53 (by omega) hs hN hN2 (rowsB_Row R) hc k28 (k := KK) (by omega)) rfl rfl ⟨Nat.le_of_ble_eq_true rfl, Nat.le_of_ble_eq_true rfl⟩ (Nat.le_of_ble_eq_true rfl)  ?_
        refine a_cv0 (a := 28) d_Dot_vertex_73 m_Bend_turn t_Bend_turn l_Dot_240 (hu_s _ _ _) rfl rfl (s_turnC (hu_s _ _ _)) rfl rfl ⟨Nat.le_of_ble_eq_true rfl, Nat.le_of_ble_eq_true rfl⟩ (Nat.le_of_ble_eq_true rfl)  ?_
        exact a_iret d_Dot_vertex_76 rfl (by unfold q_vertex; rw [e]; dsimp only; rw [if_neg c, c25, swI_in 1 2 (by decide) (by decide)]; try rw [nI_clamp (by omega)]; try rfl) rfl rfl
      · skip
        refine ⟨hu h1 28 (bdC (bX (decide (j = 1)) D t) (bY (decide (j = 1)) D t) (sP (decide (j = 1)) D t) (zN (decide (j = 1)) D t) (zC (decide (j = 1)) D t) KK), n1, z1, q1, q2, (K0.u28 (fun i hi => hu_n hi) ⟨_, _, _, _, _, _, hu_s _ _ _⟩).ck, fun i i1 i2 => (hu_n (by omega)).trans (far i i1 i2), ?_⟩
        refine AMet.intro q1 q2 (by decide) (Nat.le_of_ble_eq_true rfl) rfl ?_
        refine a_aload_n d_Dot_vertex_0 rfl ?_
        refine a_iload_n d_Dot_vertex_1 rfl ?_
        refine a_cv (a := 8) d_Dot_vertex_2 m_Dot_shapedBorder t_Dot_shapedBorder l_Dot_215 g8 rfl rfl M rfl rfl ⟨Nat.le_of_ble_eq_true rfl, Nat.le_of_ble_eq_true rfl⟩ (Nat.le_of_ble_eq_true rfl) (show n1 ≤ n + (n1 - n) by omega) (show z1 ≤ z + (z1 - z) by omega) ?_
        refine a_astore d_Dot_vertex_5 (Nat.le_of_ble_eq_true rfl) (Nat.le_of_ble_eq_true rfl) rfl ?_
        refine a_aload d_Dot_vertex_7 rfl ?_
        refine a_ifnull d_Dot_vertex_9 ?_
        refine a_aload d_Dot_vertex_12 rfl ?_
        refine a_iload_n d_Dot_vertex_14 rfl ?_
        refine a_cv0 d_Dot_vertex_15 m_Brd_hasVertex t_Brd_hasVertex l_Dot_230 gb rfl rfl (s_Brd_hasVertex gb _) rfl rfl ⟨Nat.le_of_ble_eq_true rfl, Nat.le_of_ble_eq_true rfl⟩ (Nat.le_of_ble_eq_true rfl)  ?_
        refine a_if_ne 24 d_Dot_vertex_18 (by decide) (fun c18 => ?_) (fun c18 => absurd c18 c)
        refine a_iload_n d_Dot_vertex_24 rfl ?_
        refine a_tabIn (off := 52) 77 d_Dot_vertex_25 (by rw [c25]; decide) (by rw [c25]; decide) (by rw [c25]; rfl) (by decide) ?_
        refine a_aload_n d_Dot_vertex_77 rfl ?_
        refine a_getf d_Dot_vertex_78 f_Dot_64 k8 rfl ?_
        refine a_aload d_Dot_vertex_81 rfl ?_
        refine a_iload_n d_Dot_vertex_83 rfl ?_
        refine a_cv0 (a := 27) d_Dot_vertex_84 m_Pol_bendAt t_Pol_bendAt l_Dot_236 k27 rfl rfl (s_Pol_bendAt k19 k20 k21 k27 k29 gb hb53 (by omega) hs hN hN2 (rowsB_Row R) hc k28 (k := KK) (by omega)) rfl rfl ⟨Nat.le_of_ble_eq_true rfl, Nat.le_of_ble_eq_true rfl⟩ (Nat.le_of_ble_eq_true rfl)  ?_
        refine a_aload_n d_Dot_vertex_87 rfl ?_
        refine a_getf d_Dot_vertex_88 f_Dot_26 (show _ = oDot lf from by rw [hu_n (by decide)]; exact k8) rfl ?_
        refine a_getf d_Dot_vertex_91 f_Dot_114 (show _ = oPic (nI W) (nI H) D j s from by rw [hu_n (by decide)]; exact k12) rfl ?_
        refine a_cv0 (a := 28) d_Dot_vertex_94 m_Bend_isSharp t_Bend_isSharp l_Dot_245 (hu_s _ _ _) rfl rfl (s_sharpC (hu_s _ _ _) s) rfl rfl ⟨Nat.le_of_ble_eq_true rfl, Nat.le_of_ble_eq_true rfl⟩ (Nat.le_of_ble_eq_true rfl)  ?_
        refine a_if_eq 104 d_Dot_vertex_97 (by decide) (fun c97 => ?_) (fun c97 => ?_)
        · skip
          refine a_iconst (v := 0) d_Dot_vertex_104 (by decide) ?_
          exact a_iret d_Dot_vertex_105 rfl (by unfold q_vertex; rw [e]; dsimp only; rw [if_neg c, c25, swI_in 2 2 (by decide) (by decide), nI_clamp (by omega)]; first | (show some (Value.int (if _ = 0 then 0 else 1)) = _; rw [if_pos c97]) | (show some (Value.int (if _ = 0 then 0 else 1)) = _; rw [if_neg c97])) rfl rfl
        · skip
          refine a_iconst (v := 1) d_Dot_vertex_100 (by decide) ?_
          refine a_goto 105 d_Dot_vertex_101 (by decide) ?_
          exact a_iret d_Dot_vertex_105 rfl (by unfold q_vertex; rw [e]; dsimp only; rw [if_neg c, c25, swI_in 2 2 (by decide) (by decide), nI_clamp (by omega)]; first | (show some (Value.int (if _ = 0 then 0 else 1)) = _; rw [if_pos c97]) | (show some (Value.int (if _ = 0 then 0 else 1)) = _; rw [if_neg c97])) rfl rfl
def q_point (V : VV) (W H : Nat) (D : Int64) (j s : Int32) (b k i what : Int32) : Int32 := match bq W D j b with
  | none => -1000001
  | some t => if ¬ fIn2 k (nI (zN (decide (j = 1)) D t)) = 0 ∧ ¬ i < 1 ∧ ¬ 3 < i ∧ ¬ what < 0 ∧ what ≤ 1 then (if shC (bX (decide (j = 1)) D t) (bY (decide (j = 1)) D t) (sP (decide (j = 1)) D t) (zN (decide (j = 1)) D t) (zC (decide (j = 1)) D t) s k.toNatClampNeg = 0 then (if what = 0 then rnC V (bX (decide (j = 1)) D t) (sP (decide (j = 1)) D t) (zN (decide (j = 1)) D t) (zC (decide (j = 1)) D t) i.toNatClampNeg k.toNatClampNeg else rnC V (bY (decide (j = 1)) D t) (sP (decide (j = 1)) D t) (zN (decide (j = 1)) D t) (zC (decide (j = 1)) D t) i.toNatClampNeg k.toNatClampNeg) else -1000000) else -1000001
set_option maxRecDepth 20000 in
set_option maxHeartbeats 4000000 in
theorem s_Dot_point {lf : Int32} {W H : Nat} {D : Int64} {j s : Int32} (g8 : h 8 = oDot lf) (g12 : h 12 = oPic (nI W) (nI H) D j s) (hW : W ≤ 8) {z0 : Nat} (G : Gd (decide (j = 1)) D) (K : CK z0 h n z) (hH : H ≤ 8) (b k i what : Int32) : ∃ h1 n1 z1, n ≤ n1 ∧ z ≤ z1 ∧ CK z0 h1 n1 z1 ∧ (∀ i, i < 53 → i < 19 ∨ 31 < i → h1 i = h i) ∧ AMet V i_Dot_point 6 [.ref 8, .int b, .int k, .int i, .int what] h n z (some (.int (q_point V W H D j s b k i what))) h1 n1 z1 := by
  obtain ⟨h1, n1, z1, q1, q2, K1, far, ⟨e, M⟩ | ⟨t, e, ht, hb, F, ⟨me, gb⟩, M⟩⟩ := s_Dot_bs (V := V) g8 g12 hW G K b
  · refine ⟨h1, n1, z1, q1, q2, K1, far, ?_⟩
    refine AMet.intro q1 q2 (by decide) (Nat.le_of_ble_eq_true rfl) rfl ?_
    refine a_aload_n d_Dot_point_0 rfl ?_
    refine a_iload_n d_Dot_point_1 rfl ?_
    refine a_cv (a := 8) d_Dot_point_2 m_Dot_shapedBorder t_Dot_shapedBorder l_Dot_215 g8 rfl rfl M rfl rfl ⟨Nat.le_of_ble_eq_true rfl, Nat.le_of_ble_eq_true rfl⟩ (Nat.le_of_ble_eq_true rfl) (show n1 ≤ n + (n1 - n) by omega) (show z1 ≤ z + (z1 - z) by omega) ?_
    refine a_astoreN d_Dot_point_5 (Nat.le_of_ble_eq_true rfl) (Nat.le_of_ble_eq_true rfl) rfl ?_
    refine a_aloadN d_Dot_point_7 rfl ?_
    refine a_ifnullN 42 d_Dot_point_9 (by decide) ?_
    refine a_ldc d_Dot_point_42 k_Dot_77 ?_
    exact a_iret d_Dot_point_44 rfl (by unfold q_point; rw [e]; try rfl) rfl rfl
  · skip
    have K0 := F
    obtain ⟨xs, ys, ws, kn, kc, re, of, co, ⟨k19, k20, k21, k22, k23, k24, k25, k26, k27, ⟨c1, c2, c3, c4, c5, c6, k28⟩, k29, ⟨cs, k30⟩, k31, kz⟩, hk, B⟩ := F
    obtain ⟨hP, S, U⟩ := G.2 t ht hb
    have hs := (G.1 t ht hb).2
    have k8 : h1 8 = oDot lf := by rw [far _ (by decide) (by decide)]; exact g8
    have k12 : h1 12 = oPic (nI W) (nI H) D j s := by rw [far _ (by decide) (by decide)]; exact g12
    obtain ⟨b', hb'⟩ : ∃ b', b' = 53 + sB (decide (j = 1)) D t := ⟨_, rfl⟩
    rw [← hb'] at M
    have hb53 : 53 ≤ b' := by omega
    obtain ⟨me2, ve2, bo2, gb2, R, Q⟩ := B t ht hb
    have hN := bN_pos (X := (bX (decide (j = 1)) D t)) (Y := (bY (decide (j = 1)) D t)) (show 0 < (sP (decide (j = 1)) D t) by omega)
    have hN2 := bN_le (bX (decide (j = 1)) D t) (bY (decide (j = 1)) D t) (sP (decide (j = 1)) D t)
    have hc : ∀ k, k < (zN (decide (j = 1)) D t) → co ((sS (decide (j = 1)) D t) + k) = nI ((zC (decide (j = 1)) D t) k) ∧ (zC (decide (j = 1)) D t) k < 1000 := by
      rw [gb] at gb2
      intro k hk
      refine ⟨?_, bC_lt (by omega) k⟩
      rcases Q.2 with q | ⟨_, _, q⟩
      · exfalso
        have e5 : nI (zN (decide (j = 1)) D t) = ve2 := oBrd_ve gb2
        rw [q] at e5
        exact nI_ne0 hN (Nat.lt_of_le_of_lt hN2 (by omega)) e5
      · exact q k hk
    rw [← hb'] at gb
    by_cases hp : ¬ fIn2 k (nI (zN (decide (j = 1)) D t)) = 0 ∧ ¬ i < 1 ∧ ¬ 3 < i ∧ ¬ what < 0 ∧ what ≤ 1
    · have hN9 : (zN (decide (j = 1)) D t) < 1000 := Nat.lt_of_le_of_lt hN2 (by omega)
      obtain ⟨p1, p2, p3, p4, p5⟩ := id hp
      obtain ⟨KK, hKK, rfl⟩ := fIn2_ok (by omega) p1
      obtain ⟨I, hI, rfl⟩ := nI_of2 (x := i) (M := 3) (n := 3) (by decide) (fun q => p2 (by
        have := Int32.lt_iff_toInt_lt.mp q
        apply Int32.lt_iff_toInt_lt.mpr
        have e1 : (1 : Int32).toInt = 1 := by decide
        have e0 : (0 : Int32).toInt = 0 := by decide
        omega)) (Int32.not_lt.mp p3)
      refine ⟨hu h1 28 (bdC (bX (decide (j = 1)) D t) (bY (decide (j = 1)) D t) (sP (decide (j = 1)) D t) (zN (decide (j = 1)) D t) (zC (decide (j = 1)) D t) KK), n1, z1, q1, q2, (K0.u28 (fun i hi => hu_n hi) ⟨_, _, _, _, _, _, hu_s _ _ _⟩).ck, fun i i1 i2 => (hu_n (by omega)).trans (far i i1 i2), ?_⟩
      refine AMet.intro q1 q2 (by decide) (Nat.le_of_ble_eq_true rfl) rfl ?_
      refine a_aload_n d_Dot_point_0 rfl ?_
      refine a_iload_n d_Dot_point_1 rfl ?_
      refine a_cv (a := 8) d_Dot_point_2 m_Dot_shapedBorder t_Dot_shapedBorder l_Dot_215 g8 rfl rfl M rfl rfl ⟨Nat.le_of_ble_eq_true rfl, Nat.le_of_ble_eq_true rfl⟩ (Nat.le_of_ble_eq_true rfl) (show n1 ≤ n + (n1 - n) by omega) (show z1 ≤ z + (z1 - z) by omega) ?_
      refine a_astore d_Dot_point_5 (Nat.le_of_ble_eq_true rfl) (Nat.le_of_ble_eq_true rfl) rfl ?_
      refine a_aload d_Dot_point_7 rfl ?_
      refine a_ifnull d_Dot_point_9 ?_
      refine a_aload d_Dot_point_12 rfl ?_
      refine a_iload_n d_Dot_point_14 rfl ?_
      refine a_cv0 d_Dot_point_15 m_Brd_hasVertex t_Brd_hasVertex l_Dot_230 gb rfl rfl (s_Brd_hasVertex gb _) rfl rfl ⟨Nat.le_of_ble_eq_true rfl, Nat.le_of_ble_eq_true rfl⟩ (Nat.le_of_ble_eq_true rfl)  ?_
      refine a_if_eq 42 d_Dot_point_18 (by decide) (fun c18 => absurd c18 p1) (fun c18 => ?_)
      refine a_iload_n d_Dot_point_21 rfl ?_
      refine a_iconst (v := 1) d_Dot_point_22 (by decide) ?_
      refine a_icmp_lt 42 d_Dot_point_23 (by decide) (fun c23 => absurd c23 p2) (fun c23 => ?_)
      refine a_iload_n d_Dot_point_26 rfl ?_
      refine a_iconst (v := 3) d_Dot_point_27 (by decide) ?_
      refine a_icmp_gt 42 d_Dot_point_28 (by decide) (fun c28 => absurd c28 p3) (fun c28 => ?_)
      refine a_iload d_Dot_point_31 rfl ?_
      refine a_if_lt 42 d_Dot_point_33 (by decide) (fun c33 => absurd c33 p4) (fun c33 => ?_)
      refine a_iload d_Dot_point_36 rfl ?_
      refine a_iconst (v := 1) d_Dot_point_38 (by decide) ?_
      refine a_icmp_le 45 d_Dot_point_39 (by decide) (fun c39 => ?_) (fun c39 => absurd p5 c39)
      refine a_aload_n d_Dot_point_45 rfl ?_
      refine a_getf d_Dot_point_46 f_Dot_64 k8 rfl ?_
      refine a_aload d_Dot_point_49 rfl ?_
      refine a_iload_n d_Dot_point_51 rfl ?_
      refine a_cv0 (a := 27) d_Dot_point_52 m_Pol_bendAt t_Pol_bendAt l_Dot_236 k27 rfl rfl (s_Pol_bendAt k19 k20 k21 k27 k29 gb hb53 (by omega) hs hN hN2 (rowsB_Row R) hc k28 (k := KK) (by omega)) rfl rfl ⟨Nat.le_of_ble_eq_true rfl, Nat.le_of_ble_eq_true rfl⟩ (Nat.le_of_ble_eq_true rfl)  ?_
      refine a_astore d_Dot_point_55 (Nat.le_of_ble_eq_true rfl) (Nat.le_of_ble_eq_true rfl) rfl ?_
      refine a_aload d_Dot_point_57 rfl ?_
      refine a_aload_n d_Dot_point_59 rfl ?_
      refine a_getf d_Dot_point_60 f_Dot_26 (show _ = oDot lf from by rw [hu_n (by decide)]; exact k8) rfl ?_
      refine a_getf d_Dot_point_63 f_Dot_114 (show _ = oPic (nI W) (nI H) D j s from by rw [hu_n (by decide)]; exact k12) rfl ?_
      refine a_cv0 (a := 28) d_Dot_point_66 m_Bend_isSharp t_Bend_isSharp l_Dot_245 (hu_s _ _ _) rfl rfl (s_sharpC (hu_s _ _ _) s) rfl rfl ⟨Nat.le_of_ble_eq_true rfl, Nat.le_of_ble_eq_true rfl⟩ (Nat.le_of_ble_eq_true rfl)  ?_
      refine a_if_eq 75 d_Dot_point_69 (by decide) (fun c69 => ?_) (fun c69 => ?_)
      · skip
        refine a_iload d_Dot_point_75 rfl ?_
        refine a_if_ne 89 d_Dot_point_77 (by decide) (fun c77 => ?_) (fun c77 => ?_)
        · skip
          refine a_aload d_Dot_point_89 rfl ?_
          refine a_iload_n d_Dot_point_91 rfl ?_
          refine a_cv0 (a := 28) d_Dot_point_92 m_Bend_yOnRound t_Bend_yOnRound l_Dot_254 (hu_s _ _ _) rfl rfl (s_yRndC (hu_s _ _ _) (by omega)) rfl rfl ⟨Nat.le_of_ble_eq_true rfl, Nat.le_of_ble_eq_true rfl⟩ (Nat.le_of_ble_eq_true rfl)  ?_
          exact a_iret d_Dot_point_95 rfl (by unfold q_point; rw [e]; dsimp only; rw [if_pos hp, nI_clamp (by omega), nI_clamp (by omega)]; first | rw [if_neg c69] | (rw [if_pos c69]; first | rw [if_pos c77] | rw [if_neg c77])) rfl rfl
        · skip
          refine a_aload d_Dot_point_80 rfl ?_
          refine a_iload_n d_Dot_point_82 rfl ?_
          refine a_cv0 (a := 28) d_Dot_point_83 m_Bend_xOnRound t_Bend_xOnRound l_Dot_251 (hu_s _ _ _) rfl rfl (s_xRndC (hu_s _ _ _) (by omega)) rfl rfl ⟨Nat.le_of_ble_eq_true rfl, Nat.le_of_ble_eq_true rfl⟩ (Nat.le_of_ble_eq_true rfl)  ?_
          refine a_goto 95 d_Dot_point_86 (by decide) ?_
          exact a_iret d_Dot_point_95 rfl (by unfold q_point; rw [e]; dsimp only; rw [if_pos hp, nI_clamp (by omega), nI_clamp (by omega)]; first | rw [if_neg c69] | (rw [if_pos c69]; first | rw [if_pos c77] | rw [if_neg c77])) rfl rfl
      · skip
        refine a_ldc d_Dot_point_72 k_Dot_208 ?_
        exact a_iret d_Dot_point_74 rfl (by unfold q_point; rw [e]; dsimp only; rw [if_pos hp, nI_clamp (by omega), nI_clamp (by omega)]; first | rw [if_neg c69] | (rw [if_pos c69]; first | rw [if_pos c77] | rw [if_neg c77])) rfl rfl
    · refine ⟨h1, n1, z1, q1, q2, K0.ck, far, ?_⟩
      refine AMet.intro q1 q2 (by decide) (Nat.le_of_ble_eq_true rfl) rfl ?_
      refine a_aload_n d_Dot_point_0 rfl ?_
      refine a_iload_n d_Dot_point_1 rfl ?_
      refine a_cv (a := 8) d_Dot_point_2 m_Dot_shapedBorder t_Dot_shapedBorder l_Dot_215 g8 rfl rfl M rfl rfl ⟨Nat.le_of_ble_eq_true rfl, Nat.le_of_ble_eq_true rfl⟩ (Nat.le_of_ble_eq_true rfl) (show n1 ≤ n + (n1 - n) by omega) (show z1 ≤ z + (z1 - z) by omega) ?_
      refine a_astore d_Dot_point_5 (Nat.le_of_ble_eq_true rfl) (Nat.le_of_ble_eq_true rfl) rfl ?_
      refine a_aload d_Dot_point_7 rfl ?_
      refine a_ifnull d_Dot_point_9 ?_
      refine a_aload d_Dot_point_12 rfl ?_
      refine a_iload_n d_Dot_point_14 rfl ?_
      refine a_cv0 d_Dot_point_15 m_Brd_hasVertex t_Brd_hasVertex l_Dot_230 gb rfl rfl (s_Brd_hasVertex gb k) rfl rfl ⟨Nat.le_of_ble_eq_true rfl, Nat.le_of_ble_eq_true rfl⟩ (Nat.le_of_ble_eq_true rfl)  ?_
      refine a_if_eq 42 d_Dot_point_18 (by decide) (fun c18 => ?_) (fun c18 => ?_)
      · skip
        refine a_ldc d_Dot_point_42 k_Dot_77 ?_
        exact a_iret d_Dot_point_44 rfl (by unfold q_point; rw [e]; dsimp only; rw [if_neg hp]) rfl rfl
      · skip
        refine a_iload_n d_Dot_point_21 rfl ?_
        refine a_iconst (v := 1) d_Dot_point_22 (by decide) ?_
        refine a_icmp_lt 42 d_Dot_point_23 (by decide) (fun c23 => ?_) (fun c23 => ?_)
        · skip
          refine a_ldc d_Dot_point_42 k_Dot_77 ?_
          exact a_iret d_Dot_point_44 rfl (by unfold q_point; rw [e]; dsimp only; rw [if_neg hp]) rfl rfl
        · skip
          refine a_iload_n d_Dot_point_26 rfl ?_
          refine a_iconst (v := 3) d_Dot_point_27 (by decide) ?_
          refine a_icmp_gt 42 d_Dot_point_28 (by decide) (fun c28 => ?_) (fun c28 => ?_)
          · skip
            refine a_ldc d_Dot_point_42 k_Dot_77 ?_
            exact a_iret d_Dot_point_44 rfl (by unfold q_point; rw [e]; dsimp only; rw [if_neg hp]) rfl rfl
          · skip
            refine a_iload d_Dot_point_31 rfl ?_
            refine a_if_lt 42 d_Dot_point_33 (by decide) (fun c33 => ?_) (fun c33 => ?_)
            · skip
              refine a_ldc d_Dot_point_42 k_Dot_77 ?_
              exact a_iret d_Dot_point_44 rfl (by unfold q_point; rw [e]; dsimp only; rw [if_neg hp]) rfl rfl
            · skip
              refine a_iload d_Dot_point_36 rfl ?_
              refine a_iconst (v := 1) d_Dot_point_38 (by decide) ?_
              refine a_icmp_le 45 d_Dot_point_39 (by decide) (fun c39 => ?_) (fun c39 => ?_)
              · skip
                exact absurd ⟨c18, c23, c28, c33, c39⟩ hp
              · skip
                refine a_ldc d_Dot_point_42 k_Dot_77 ?_
                exact a_iret d_Dot_point_44 rfl (by unfold q_point; rw [e]; dsimp only; rw [if_neg hp]) rfl rfl
def q_filled (V : VV) (W H : Nat) (D : Int64) (j s : Int32) (b kind x y : Int32) : Int32 := match bq W D j b with
  | none => -1000001
  | some t => if ¬ kind < 0 ∧ ¬ 1 < kind ∧ ¬ fHas (nI W) (nI H) x y = 0 then (if byC V (bX (decide (j = 1)) D t) (bY (decide (j = 1)) D t) (sP (decide (j = 1)) D t) (zN (decide (j = 1)) D t) (zC (decide (j = 1)) D t) kind s (zN (decide (j = 1)) D t) &&& gBit x y = 0 then 0 else 1) else -1000001
set_option maxRecDepth 20000 in
set_option maxHeartbeats 4000000 in
theorem s_Dot_filled {lf : Int32} {W H : Nat} {D : Int64} {j s : Int32} (g8 : h 8 = oDot lf) (g12 : h 12 = oPic (nI W) (nI H) D j s) (hW : W ≤ 8) {z0 : Nat} (G : Gd (decide (j = 1)) D) (K : CK z0 h n z) (hH : H ≤ 8) (b kind x y : Int32) : ∃ h1 n1 z1, n ≤ n1 ∧ z ≤ z1 ∧ CK z0 h1 n1 z1 ∧ (∀ i, i < 53 → i < 19 ∨ 31 < i → h1 i = h i) ∧ AMet V i_Dot_filled 6 [.ref 8, .int b, .int kind, .int x, .int y] h n z (some (.int (q_filled V W H D j s b kind x y))) h1 n1 z1 := by
  obtain ⟨h1, n1, z1, q1, q2, K1, far, ⟨e, M⟩ | ⟨t, e, ht, hb, F, ⟨me, gb⟩, M⟩⟩ := s_Dot_bs (V := V) g8 g12 hW G K b
  · refine ⟨h1, n1, z1, q1, q2, K1, far, ?_⟩
    refine AMet.intro q1 q2 (by decide) (Nat.le_of_ble_eq_true rfl) rfl ?_
    refine a_aload_n d_Dot_filled_0 rfl ?_
    refine a_iload_n d_Dot_filled_1 rfl ?_
    refine a_cv (a := 8) d_Dot_filled_2 m_Dot_shapedBorder t_Dot_shapedBorder l_Dot_215 g8 rfl rfl M rfl rfl ⟨Nat.le_of_ble_eq_true rfl, Nat.le_of_ble_eq_true rfl⟩ (Nat.le_of_ble_eq_true rfl) (show n1 ≤ n + (n1 - n) by omega) (show z1 ≤ z + (z1 - z) by omega) ?_
    refine a_astoreN d_Dot_filled_5 (Nat.le_of_ble_eq_true rfl) (Nat.le_of_ble_eq_true rfl) rfl ?_
    refine a_aloadN d_Dot_filled_7 rfl ?_
    refine a_ifnullN 34 d_Dot_filled_9 (by decide) ?_
    refine a_ldc d_Dot_filled_34 k_Dot_77 ?_
    exact a_iret d_Dot_filled_36 rfl (by unfold q_filled; rw [e]; try rfl) rfl rfl
  · skip
    have K0 := F
    obtain ⟨xs, ys, ws, kn, kc, re, of, co, ⟨k19, k20, k21, k22, k23, k24, k25, k26, k27, ⟨c1, c2, c3, c4, c5, c6, k28⟩, k29, ⟨cs, k30⟩, k31, kz⟩, hk, B⟩ := F
    obtain ⟨hP, S, U⟩ := G.2 t ht hb
    have hs := (G.1 t ht hb).2
    have k8 : h1 8 = oDot lf := by rw [far _ (by decide) (by decide)]; exact g8
    have k12 : h1 12 = oPic (nI W) (nI H) D j s := by rw [far _ (by decide) (by decide)]; exact g12
    obtain ⟨b', hb'⟩ : ∃ b', b' = 53 + sB (decide (j = 1)) D t := ⟨_, rfl⟩
    rw [← hb'] at M
    have hb53 : 53 ≤ b' := by omega
    obtain ⟨me2, ve2, bo2, gb2, R, Q⟩ := B t ht hb
    have hN := bN_pos (X := (bX (decide (j = 1)) D t)) (Y := (bY (decide (j = 1)) D t)) (show 0 < (sP (decide (j = 1)) D t) by omega)
    have hN2 := bN_le (bX (decide (j = 1)) D t) (bY (decide (j = 1)) D t) (sP (decide (j = 1)) D t)
    have hc : ∀ k, k < (zN (decide (j = 1)) D t) → co ((sS (decide (j = 1)) D t) + k) = nI ((zC (decide (j = 1)) D t) k) ∧ (zC (decide (j = 1)) D t) k < 1000 := by
      rw [gb] at gb2
      intro k hk
      refine ⟨?_, bC_lt (by omega) k⟩
      rcases Q.2 with q | ⟨_, _, q⟩
      · exfalso
        have e5 : nI (zN (decide (j = 1)) D t) = ve2 := oBrd_ve gb2
        rw [q] at e5
        exact nI_ne0 hN (Nat.lt_of_le_of_lt hN2 (by omega)) e5
      · exact q k hk
    rw [← hb'] at gb
    by_cases hp : ¬ kind < 0 ∧ ¬ 1 < kind ∧ ¬ fHas (nI W) (nI H) x y = 0
    · obtain ⟨p1, p2, p3⟩ := id hp
      refine ⟨hu h1 28 (bdX (bX (decide (j = 1)) D t) (bY (decide (j = 1)) D t) (sP (decide (j = 1)) D t) (zN (decide (j = 1)) D t) (zC (decide (j = 1)) D t) (c1, c2, c3, c4, c5, c6) (zN (decide (j = 1)) D t)), n1, z1, q1, q2, (K0.u28 (fun i hi => hu_n hi) (by rw [hu_s]; exact bdX_ex _ _ _ _ _ _ _)).ck, fun i i1 i2 => (hu_n (by omega)).trans (far i i1 i2), ?_⟩
      refine AMet.intro q1 q2 (by decide) (Nat.le_of_ble_eq_true rfl) rfl ?_
      refine a_aload_n d_Dot_filled_0 rfl ?_
      refine a_iload_n d_Dot_filled_1 rfl ?_
      refine a_cv (a := 8) d_Dot_filled_2 m_Dot_shapedBorder t_Dot_shapedBorder l_Dot_215 g8 rfl rfl M rfl rfl ⟨Nat.le_of_ble_eq_true rfl, Nat.le_of_ble_eq_true rfl⟩ (Nat.le_of_ble_eq_true rfl) (show n1 ≤ n + (n1 - n) by omega) (show z1 ≤ z + (z1 - z) by omega) ?_
      refine a_astore d_Dot_filled_5 (Nat.le_of_ble_eq_true rfl) (Nat.le_of_ble_eq_true rfl) rfl ?_
      refine a_aload d_Dot_filled_7 rfl ?_
      refine a_ifnull d_Dot_filled_9 ?_
      refine a_iload_n d_Dot_filled_12 rfl ?_
      refine a_if_lt 34 d_Dot_filled_13 (by decide) (fun c13 => absurd c13 p1) (fun c13 => ?_)
      refine a_iload_n d_Dot_filled_16 rfl ?_
      refine a_iconst (v := 1) d_Dot_filled_17 (by decide) ?_
      refine a_icmp_gt 34 d_Dot_filled_18 (by decide) (fun c18 => absurd c18 p2) (fun c18 => ?_)
      refine a_aload_n d_Dot_filled_21 rfl ?_
      refine a_getf d_Dot_filled_22 f_Dot_26 k8 rfl ?_
      refine a_iload_n d_Dot_filled_25 rfl ?_
      refine a_iload d_Dot_filled_26 rfl ?_
      refine a_cv0 (a := 12) d_Dot_filled_28 m_Pic_has t_Pic_has l_Dot_129 k12 rfl rfl (s_Pic_has k12 x y) rfl rfl ⟨Nat.le_of_ble_eq_true rfl, Nat.le_of_ble_eq_true rfl⟩ (Nat.le_of_ble_eq_true rfl)  ?_
      refine a_if_ne 37 d_Dot_filled_31 (by decide) (fun c31 => ?_) (fun c31 => absurd c31 p3)
      refine a_aload_n d_Dot_filled_37 rfl ?_
      refine a_getf d_Dot_filled_38 f_Dot_73 k8 rfl ?_
      refine a_aload d_Dot_filled_41 rfl ?_
      refine a_iload_n d_Dot_filled_43 rfl ?_
      refine a_aload_n d_Dot_filled_44 rfl ?_
      refine a_getf d_Dot_filled_45 f_Dot_26 k8 rfl ?_
      refine a_getf d_Dot_filled_48 f_Dot_114 k12 rfl ?_
      refine a_cv0 (a := 31) d_Dot_filled_51 m_Fil_by t_Fil_by l_Dot_257 k31 rfl rfl (s_Fil_by k19 k20 k21 k27 k31 k29 gb hb53 (by omega) hs hN hN2 (rowsB_Row R) hc (c := (c1, c2, c3, c4, c5, c6)) k28 kind s) rfl rfl ⟨Nat.le_of_ble_eq_true rfl, Nat.le_of_ble_eq_true rfl⟩ (Nat.le_of_ble_eq_true rfl)  ?_
      refine a_iload_n d_Dot_filled_54 rfl ?_
      refine a_iload d_Dot_filled_55 rfl ?_
      refine a_cs0 d_Dot_filled_57 m_Grid_bit t_Grid_bit l_Dot_137 (s_Grid_bit x y) rfl rfl ⟨Nat.le_of_ble_eq_true rfl, Nat.le_of_ble_eq_true rfl⟩ (Nat.le_of_ble_eq_true rfl)  ?_
      refine a_land d_Dot_filled_60 ?_
      refine a_lconst (v := 0) d_Dot_filled_61 rfl ?_
      refine a_lcmp d_Dot_filled_62 ?_
      refine a_if_eq 70 d_Dot_filled_63 (by decide) (fun c63 => ?_) (fun c63 => ?_)
      · skip
        refine a_iconst (v := 0) d_Dot_filled_70 (by decide) ?_
        exact a_iret d_Dot_filled_71 rfl (by unfold q_filled; rw [e]; dsimp only; rw [if_pos hp]; rw [cmp0] at c63; first | rw [if_pos c63] | rw [if_neg c63]) rfl rfl
      · skip
        refine a_iconst (v := 1) d_Dot_filled_66 (by decide) ?_
        refine a_goto 71 d_Dot_filled_67 (by decide) ?_
        exact a_iret d_Dot_filled_71 rfl (by unfold q_filled; rw [e]; dsimp only; rw [if_pos hp]; rw [cmp0] at c63; first | rw [if_pos c63] | rw [if_neg c63]) rfl rfl
    · refine ⟨h1, n1, z1, q1, q2, K0.ck, far, ?_⟩
      refine AMet.intro q1 q2 (by decide) (Nat.le_of_ble_eq_true rfl) rfl ?_
      refine a_aload_n d_Dot_filled_0 rfl ?_
      refine a_iload_n d_Dot_filled_1 rfl ?_
      refine a_cv (a := 8) d_Dot_filled_2 m_Dot_shapedBorder t_Dot_shapedBorder l_Dot_215 g8 rfl rfl M rfl rfl ⟨Nat.le_of_ble_eq_true rfl, Nat.le_of_ble_eq_true rfl⟩ (Nat.le_of_ble_eq_true rfl) (show n1 ≤ n + (n1 - n) by omega) (show z1 ≤ z + (z1 - z) by omega) ?_
      refine a_astore d_Dot_filled_5 (Nat.le_of_ble_eq_true rfl) (Nat.le_of_ble_eq_true rfl) rfl ?_
      refine a_aload d_Dot_filled_7 rfl ?_
      refine a_ifnull d_Dot_filled_9 ?_
      refine a_iload_n d_Dot_filled_12 rfl ?_
      refine a_if_lt 34 d_Dot_filled_13 (by decide) (fun c13 => ?_) (fun c13 => ?_)
      · skip
        refine a_ldc d_Dot_filled_34 k_Dot_77 ?_
        exact a_iret d_Dot_filled_36 rfl (by unfold q_filled; rw [e]; dsimp only; rw [if_neg hp]) rfl rfl
      · skip
        refine a_iload_n d_Dot_filled_16 rfl ?_
        refine a_iconst (v := 1) d_Dot_filled_17 (by decide) ?_
        refine a_icmp_gt 34 d_Dot_filled_18 (by decide) (fun c18 => ?_) (fun c18 => ?_)
        · skip
          refine a_ldc d_Dot_filled_34 k_Dot_77 ?_
          exact a_iret d_Dot_filled_36 rfl (by unfold q_filled; rw [e]; dsimp only; rw [if_neg hp]) rfl rfl
        · skip
          refine a_aload_n d_Dot_filled_21 rfl ?_
          refine a_getf d_Dot_filled_22 f_Dot_26 k8 rfl ?_
          refine a_iload_n d_Dot_filled_25 rfl ?_
          refine a_iload d_Dot_filled_26 rfl ?_
          refine a_cv0 (a := 12) d_Dot_filled_28 m_Pic_has t_Pic_has l_Dot_129 k12 rfl rfl (s_Pic_has k12 x y) rfl rfl ⟨Nat.le_of_ble_eq_true rfl, Nat.le_of_ble_eq_true rfl⟩ (Nat.le_of_ble_eq_true rfl)  ?_
          refine a_if_ne 37 d_Dot_filled_31 (by decide) (fun c31 => ?_) (fun c31 => ?_)
          · skip
            exact absurd ⟨c13, c18, c31⟩ hp
          · skip
            refine a_ldc d_Dot_filled_34 k_Dot_77 ?_
            exact a_iret d_Dot_filled_36 rfl (by unfold q_filled; rw [e]; dsimp only; rw [if_neg hp]) rfl rfl
def q_differ (V : VV) (W H : Nat) (D : Int64) (j s : Int32) (b kind : Int32) : Int32 := match bq W D j b with
  | none => -1000001
  | some t => if ¬ kind < 0 ∧ kind ≤ 1 then fBC (byC V (bX (decide (j = 1)) D t) (bY (decide (j = 1)) D t) (sP (decide (j = 1)) D t) (zN (decide (j = 1)) D t) (zC (decide (j = 1)) D t) kind s (zN (decide (j = 1)) D t) ^^^ wi (decide (j = 1)) (sR (decide (j = 1)) D t) t (sP (decide (j = 1)) D t)) else -1000001
set_option maxRecDepth 20000 in
set_option maxHeartbeats 4000000 in
theorem s_Dot_differ {lf : Int32} {W H : Nat} {D : Int64} {j s : Int32} (g8 : h 8 = oDot lf) (g12 : h 12 = oPic (nI W) (nI H) D j s) (hW : W ≤ 8) {z0 : Nat} (G : Gd (decide (j = 1)) D) (K : CK z0 h n z) (hH : H ≤ 8) (b kind : Int32) : ∃ h1 n1 z1, n ≤ n1 ∧ z ≤ z1 ∧ CK z0 h1 n1 z1 ∧ (∀ i, i < 53 → i < 19 ∨ 31 < i → h1 i = h i) ∧ AMet V i_Dot_differ 6 [.ref 8, .int b, .int kind] h n z (some (.int (q_differ V W H D j s b kind))) h1 n1 z1 := by
  obtain ⟨h1, n1, z1, q1, q2, K1, far, ⟨e, M⟩ | ⟨t, e, ht, hb, F, ⟨me, gb⟩, M⟩⟩ := s_Dot_bs (V := V) g8 g12 hW G K b
  · refine ⟨h1, n1, z1, q1, q2, K1, far, ?_⟩
    refine AMet.intro q1 q2 (by decide) (Nat.le_of_ble_eq_true rfl) rfl ?_
    refine a_aload_n d_Dot_differ_0 rfl ?_
    refine a_iload_n d_Dot_differ_1 rfl ?_
    refine a_cv (a := 8) d_Dot_differ_2 m_Dot_shapedBorder t_Dot_shapedBorder l_Dot_215 g8 rfl rfl M rfl rfl ⟨Nat.le_of_ble_eq_true rfl, Nat.le_of_ble_eq_true rfl⟩ (Nat.le_of_ble_eq_true rfl) (show n1 ≤ n + (n1 - n) by omega) (show z1 ≤ z + (z1 - z) by omega) ?_
    refine a_astore_nN d_Dot_differ_5 (Nat.le_of_ble_eq_true rfl) (Nat.le_of_ble_eq_true rfl) rfl ?_
    refine a_aload_nN d_Dot_differ_6 rfl ?_
    refine a_ifnullN 19 d_Dot_differ_7 (by decide) ?_
    refine a_ldc d_Dot_differ_19 k_Dot_77 ?_
    exact a_iret d_Dot_differ_21 rfl (by unfold q_differ; rw [e]; try rfl) rfl rfl
  · skip
    have K0 := F
    obtain ⟨xs, ys, ws, kn, kc, re, of, co, ⟨k19, k20, k21, k22, k23, k24, k25, k26, k27, ⟨c1, c2, c3, c4, c5, c6, k28⟩, k29, ⟨cs, k30⟩, k31, kz⟩, hk, B⟩ := F
    obtain ⟨hP, S, U⟩ := G.2 t ht hb
    have hs := (G.1 t ht hb).2
    have k8 : h1 8 = oDot lf := by rw [far _ (by decide) (by decide)]; exact g8
    have k12 : h1 12 = oPic (nI W) (nI H) D j s := by rw [far _ (by decide) (by decide)]; exact g12
    obtain ⟨b', hb'⟩ : ∃ b', b' = 53 + sB (decide (j = 1)) D t := ⟨_, rfl⟩
    rw [← hb'] at M
    have hb53 : 53 ≤ b' := by omega
    obtain ⟨me2, ve2, bo2, gb2, R, Q⟩ := B t ht hb
    have hN := bN_pos (X := (bX (decide (j = 1)) D t)) (Y := (bY (decide (j = 1)) D t)) (show 0 < (sP (decide (j = 1)) D t) by omega)
    have hN2 := bN_le (bX (decide (j = 1)) D t) (bY (decide (j = 1)) D t) (sP (decide (j = 1)) D t)
    have hc : ∀ k, k < (zN (decide (j = 1)) D t) → co ((sS (decide (j = 1)) D t) + k) = nI ((zC (decide (j = 1)) D t) k) ∧ (zC (decide (j = 1)) D t) k < 1000 := by
      rw [gb] at gb2
      intro k hk
      refine ⟨?_, bC_lt (by omega) k⟩
      rcases Q.2 with q | ⟨_, _, q⟩
      · exfalso
        have e5 : nI (zN (decide (j = 1)) D t) = ve2 := oBrd_ve gb2
        rw [q] at e5
        exact nI_ne0 hN (Nat.lt_of_le_of_lt hN2 (by omega)) e5
      · exact q k hk
    rw [← hb'] at gb
    by_cases hp : ¬ kind < 0 ∧ kind ≤ 1
    · obtain ⟨p1, p2⟩ := id hp
      refine ⟨hu h1 28 (bdX (bX (decide (j = 1)) D t) (bY (decide (j = 1)) D t) (sP (decide (j = 1)) D t) (zN (decide (j = 1)) D t) (zC (decide (j = 1)) D t) (c1, c2, c3, c4, c5, c6) (zN (decide (j = 1)) D t)), n1, z1, q1, q2, (K0.u28 (fun i hi => hu_n hi) (by rw [hu_s]; exact bdX_ex _ _ _ _ _ _ _)).ck, fun i i1 i2 => (hu_n (by omega)).trans (far i i1 i2), ?_⟩
      refine AMet.intro q1 q2 (by decide) (Nat.le_of_ble_eq_true rfl) rfl ?_
      refine a_aload_n d_Dot_differ_0 rfl ?_
      refine a_iload_n d_Dot_differ_1 rfl ?_
      refine a_cv (a := 8) d_Dot_differ_2 m_Dot_shapedBorder t_Dot_shapedBorder l_Dot_215 g8 rfl rfl M rfl rfl ⟨Nat.le_of_ble_eq_true rfl, Nat.le_of_ble_eq_true rfl⟩ (Nat.le_of_ble_eq_true rfl) (show n1 ≤ n + (n1 - n) by omega) (show z1 ≤ z + (z1 - z) by omega) ?_
      refine a_astore_n d_Dot_differ_5 (Nat.le_of_ble_eq_true rfl) (Nat.le_of_ble_eq_true rfl) rfl ?_
      refine a_aload_n d_Dot_differ_6 rfl ?_
      refine a_ifnull d_Dot_differ_7 ?_
      refine a_iload_n d_Dot_differ_10 rfl ?_
      refine a_if_lt 19 d_Dot_differ_11 (by decide) (fun c11 => absurd c11 p1) (fun c11 => ?_)
      refine a_iload_n d_Dot_differ_14 rfl ?_
      refine a_iconst (v := 1) d_Dot_differ_15 (by decide) ?_
      refine a_icmp_le 22 d_Dot_differ_16 (by decide) (fun c16 => ?_) (fun c16 => absurd p2 c16)
      refine a_aload_n d_Dot_differ_22 rfl ?_
      refine a_getf d_Dot_differ_23 f_Dot_73 k8 rfl ?_
      refine a_aload_n d_Dot_differ_26 rfl ?_
      refine a_iload_n d_Dot_differ_27 rfl ?_
      refine a_aload_n d_Dot_differ_28 rfl ?_
      refine a_getf d_Dot_differ_29 f_Dot_26 k8 rfl ?_
      refine a_getf d_Dot_differ_32 f_Dot_114 k12 rfl ?_
      refine a_cv0 (a := 31) d_Dot_differ_35 m_Fil_by t_Fil_by l_Dot_257 k31 rfl rfl (s_Fil_by k19 k20 k21 k27 k31 k29 gb hb53 (by omega) hs hN hN2 (rowsB_Row R) hc (c := (c1, c2, c3, c4, c5, c6)) k28 kind s) rfl rfl ⟨Nat.le_of_ble_eq_true rfl, Nat.le_of_ble_eq_true rfl⟩ (Nat.le_of_ble_eq_true rfl)  ?_
      refine a_aload_n d_Dot_differ_38 rfl ?_
      refine a_getf d_Dot_differ_39 f_Dot_171 (show _ = oBd (decide (j = 1)) D t me (nI (zN (decide (j = 1)) D t)) (nI (zO (decide (j = 1)) D t)) from by rw [hu_n (by omega)]; exact gb) rfl ?_
      refine a_lxor d_Dot_differ_42 ?_
      refine a_cs0 d_Dot_differ_43 m_Lng_bitCount t_Lng_bitCount l_Dot_174 (s_Lng_bitCount _) rfl rfl ⟨Nat.le_of_ble_eq_true rfl, Nat.le_of_ble_eq_true rfl⟩ (Nat.le_of_ble_eq_true rfl)  ?_
      exact a_iret d_Dot_differ_46 rfl (by unfold q_differ; rw [e]; dsimp only; rw [if_pos hp]) rfl rfl
    · refine ⟨h1, n1, z1, q1, q2, K0.ck, far, ?_⟩
      refine AMet.intro q1 q2 (by decide) (Nat.le_of_ble_eq_true rfl) rfl ?_
      refine a_aload_n d_Dot_differ_0 rfl ?_
      refine a_iload_n d_Dot_differ_1 rfl ?_
      refine a_cv (a := 8) d_Dot_differ_2 m_Dot_shapedBorder t_Dot_shapedBorder l_Dot_215 g8 rfl rfl M rfl rfl ⟨Nat.le_of_ble_eq_true rfl, Nat.le_of_ble_eq_true rfl⟩ (Nat.le_of_ble_eq_true rfl) (show n1 ≤ n + (n1 - n) by omega) (show z1 ≤ z + (z1 - z) by omega) ?_
      refine a_astore_n d_Dot_differ_5 (Nat.le_of_ble_eq_true rfl) (Nat.le_of_ble_eq_true rfl) rfl ?_
      refine a_aload_n d_Dot_differ_6 rfl ?_
      refine a_ifnull d_Dot_differ_7 ?_
      refine a_iload_n d_Dot_differ_10 rfl ?_
      refine a_if_lt 19 d_Dot_differ_11 (by decide) (fun c11 => ?_) (fun c11 => ?_)
      · skip
        refine a_ldc d_Dot_differ_19 k_Dot_77 ?_
        exact a_iret d_Dot_differ_21 rfl (by unfold q_differ; rw [e]; dsimp only; rw [if_neg hp]) rfl rfl
      · skip
        refine a_iload_n d_Dot_differ_14 rfl ?_
        refine a_iconst (v := 1) d_Dot_differ_15 (by decide) ?_
        refine a_icmp_le 22 d_Dot_differ_16 (by decide) (fun c16 => ?_) (fun c16 => ?_)
        · skip
          exact absurd ⟨c11, c16⟩ hp
        · skip
          refine a_ldc d_Dot_differ_19 k_Dot_77 ?_
          exact a_iret d_Dot_differ_21 rfl (by unfold q_differ; rw [e]; dsimp only; rw [if_neg hp]) rfl rfl
end
