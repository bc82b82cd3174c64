/-! THE MODEL is asked of borders: printed by wip/whole/t63.py -/
theorem fRg_out {x : Int32} {hi : Nat} (h : hi < 1000) (c : x.toInt < 0 ∨ (hi : Int) < x.toInt) : fRg x 0 (nI hi) = 0 := by
  have e0 : (0 : Int32).toInt = 0 := by decide
  unfold fRg
  by_cases d : x < 0
  · rw [if_pos d]
  · rw [if_neg d]
    rw [Int32.lt_iff_toInt_lt, e0] at d
    rw [if_pos (by rw [Int32.lt_iff_toInt_lt, nI_toInt (by omega)]; omega)]
theorem fRg_in {q hi : Nat} (h : hi < 1000) (c : q ≤ hi) : fRg (nI q) 0 (nI hi) = 1 := by
  unfold fRg
  rw [if_neg (nI_pos (by omega)), if_neg (nI_nlt c (by omega))]
section
variable {V : VV} {h : AH} {n z : Nat}

theorem MQs.cls {W H : Nat} {D : Int64} {j s ac by_ la ra : Int32} {h : AH} (Q : MQs W H D j s ac by_ la ra h) : ∃ c, h 32 = .inr (11, c) := by
  rcases Q with ⟨mn, rs, tb, ve, oa, lm, g32, B, M⟩ | ⟨tb, ve, oa, lm, g32, r⟩
  · exact ⟨_, g32⟩
  · exact ⟨_, g32⟩
set_option maxRecDepth 20000 in
set_option maxHeartbeats 4000000 in
theorem s_Mod_isIn {c : List Value} (g32 : h 32 = .inr (11, c)) {ac by_ la ra il mn : Int32} {rs : Int64} {tb ve oa lm : Int32} (k32 : h 32 = oMod ac by_ la ra il mn rs tb ve oa lm) {wn : Nat → Int64} (k43 : h 43 = aL 40 wn) {B X Y : Nat} (hB : B < 40) (hX : X < 8) (hY : Y < 8) : AMet V i_Mod_isIn 0 [.ref 32, .int (nI B), .int (nI X), .int (nI Y)] h n z (some (.int (if lb (wn B) (8 * Y + X) then 1 else 0))) (h) n z := by
  refine AMet.intro (Nat.le_refl _) (Nat.le_refl _) (by decide) (Nat.le_of_ble_eq_true rfl) rfl ?_
  refine a_aload_n d_Mod_isIn_0 rfl ?_
  refine a_getf d_Mod_isIn_1 f_Mod_40 k32 rfl ?_
  refine a_iload_n d_Mod_isIn_4 rfl ?_
  refine a_lald d_Mod_isIn_5 k43 (nI_in hB (by decide)) ?_
  rw [nI_clamp (by omega)]
  refine a_bipush (v := 8) d_Mod_isIn_6 (by decide) ?_
  refine a_iload_n d_Mod_isIn_8 rfl ?_
  refine a_imul d_Mod_isIn_9 ?_
  refine a_iload_n d_Mod_isIn_10 rfl ?_
  refine a_iadd d_Mod_isIn_11 ?_
  rw [show (8 : Int32) = nI 8 from rfl, pk_mul, nI_add]
  refine a_lshr d_Mod_isIn_12 ?_
  refine a_lconst (v := 1) d_Mod_isIn_13 rfl ?_
  refine a_land d_Mod_isIn_14 ?_
  refine a_lconst (v := 1) d_Mod_isIn_15 rfl ?_
  refine a_lcmp d_Mod_isIn_16 ?_
  refine a_if_ne 24 d_Mod_isIn_17 (by decide) (fun c17 => ?_) (fun c17 => ?_)
  · skip
    refine a_iconst (v := 0) d_Mod_isIn_24 (by decide) ?_
    exact a_zret d_Mod_isIn_25 rfl (by decide) (by rw [pickI _ (by omega)] at c17; first | rw [if_pos c17] | rw [if_neg c17]) rfl rfl
  · skip
    refine a_iconst (v := 1) d_Mod_isIn_20 (by decide) ?_
    refine a_goto 25 d_Mod_isIn_21 (by decide) ?_
    exact a_zret d_Mod_isIn_25 rfl (by decide) (by rw [pickI _ (by omega)] at c17; first | rw [if_pos c17] | rw [if_neg c17]) rfl rfl
set_option maxRecDepth 20000 in
set_option maxHeartbeats 4000000 in
theorem m_corner {W H : Nat} {D : Int64} {j s ac by_ la ra : Int32} (p : PcOk W H D j) (Q : MQs W H D j s ac by_ la ra h) (b k what : Int32) : ∃ h1, MQs W H D j s ac by_ la ra h1 ∧ FQ h1 h ∧ AMet V i_Mod_corner 8 [.ref 32, .int b, .int k, .int what] h n z (some (.int (q_corner V W H D j s b k what))) h1 n z := by
  obtain ⟨c, g32⟩ := Q.cls
  obtain ⟨h1, L, F, M⟩ := m_isBorder (V := V) (n := n) (z := z) p Q b
  refine ⟨h1, L.q, F, ?_⟩
  cases hq : bq W D j b with
  | none =>
    rw [hq] at M
    have qn : q_corner V W H D j s b k what = -1000001 := by unfold q_corner; rw [hq]
    rw [qn]
    refine AMet.intro (Nat.le_refl _) (Nat.le_refl _) (by decide) (Nat.le_of_ble_eq_true rfl) rfl ?_
    refine a_aload_n d_Mod_corner_0 rfl ?_
    refine a_iload_n d_Mod_corner_1 rfl ?_
    refine a_cv0 (a := 32) d_Mod_corner_2 m_Mod_isBorder t_Mod_isBorder l_Mod_169 g32 rfl rfl M rfl rfl ⟨Nat.le_of_ble_eq_true rfl, Nat.le_of_ble_eq_true rfl⟩ (Nat.le_of_ble_eq_true rfl)  ?_
    refine a_if_eq 21 d_Mod_corner_5 (by decide) (fun c5 => ?_) (fun c5 => absurd rfl c5)
    refine a_ldc d_Mod_corner_21 k_Mod_75 ?_
    exact a_iret d_Mod_corner_23 rfl rfl rfl rfl
  | some t =>
    rw [hq, if_pos (show (some t).isSome = true from rfl)] at M
    obtain ⟨w0, ht, hb, eb, hlt⟩ := bq_some hq
    obtain ⟨tb, ve, oa, lm, k32, ⟨st, of, le, vxx, tu, lx, ly, k33, es, k47, k48, k49, k50, k51, k52⟩, ⟨fr, sz, fx, fy, wn, cx, cy, go, k39, k40, k41, k42, k43, k44, k45, k46, ml⟩, TB⟩ := id L
    obtain ⟨⟨m1, m2, m3, m4, m5⟩, m6⟩ := ml t ht hb
    obtain ⟨s0, s1, s2, s3, s4⟩ := MB.st0 es
    have P4 := bd_P ht hb
    have B36 := sB_36 (decide (j = 1)) D 64 (Nat.le_refl _)
    subst eb
    by_cases ck : k < 0
    · have qn : q_corner V W H D j s (nI (sB (decide (j = 1)) D t)) k what = -1000001 := by unfold q_corner; rw [hq]; simp only; rw [if_neg (fun q => absurd ck (Int32.not_lt.mpr q))]
      rw [qn]
      refine AMet.intro (Nat.le_refl _) (Nat.le_refl _) (by decide) (Nat.le_of_ble_eq_true rfl) rfl ?_
      refine a_aload_n d_Mod_corner_0 rfl ?_
      refine a_iload_n d_Mod_corner_1 rfl ?_
      refine a_cv0 (a := 32) d_Mod_corner_2 m_Mod_isBorder t_Mod_isBorder l_Mod_169 g32 rfl rfl M rfl rfl ⟨Nat.le_of_ble_eq_true rfl, Nat.le_of_ble_eq_true rfl⟩ (Nat.le_of_ble_eq_true rfl)  ?_
      refine a_if_eq 21 d_Mod_corner_5 (by decide) (fun c5 => absurd c5 (by decide)) (fun c5 => ?_)
      refine a_iload_n d_Mod_corner_8 rfl ?_
      refine a_if_lt 21 d_Mod_corner_9 (by decide) (fun c9 => ?_) (fun c9 => absurd ck c9)
      refine a_ldc d_Mod_corner_21 k_Mod_75 ?_
      exact a_iret d_Mod_corner_23 rfl rfl rfl rfl
    · obtain ⟨K, hK, ek⟩ := nn_nI ck
      subst ek
      have hmod := Nat.mod_lt K (show 0 < sP (decide (j = 1)) D t by omega)
      have rm : nI K - nI K / nI (sP (decide (j = 1)) D t) * nI (sP (decide (j = 1)) D t) = nI (K % sP (decide (j = 1)) D t) := pk_rem hK (by omega) (by omega)
      obtain ⟨r1, r2, r3⟩ := m6 (K % sP (decide (j = 1)) D t) hmod
      rcases sw_cases what 2 (by decide) with cw | ⟨w, hw, cw⟩
      · have qn : q_corner V W H D j s (nI (sB (decide (j = 1)) D t)) (nI K) what = -1000001 := by unfold q_corner; rw [hq]; simp only; rw [if_pos (nI_pos' hK), swI_out cw]
        rw [qn]
        have fw : fRg what 0 2 = 0 := fRg_out (hi := 2) (by decide) cw
        refine AMet.intro (Nat.le_refl _) (Nat.le_refl _) (by decide) (Nat.le_of_ble_eq_true rfl) rfl ?_
        refine a_aload_n d_Mod_corner_0 rfl ?_
        refine a_iload_n d_Mod_corner_1 rfl ?_
        refine a_cv0 (a := 32) d_Mod_corner_2 m_Mod_isBorder t_Mod_isBorder l_Mod_169 g32 rfl rfl M rfl rfl ⟨Nat.le_of_ble_eq_true rfl, Nat.le_of_ble_eq_true rfl⟩ (Nat.le_of_ble_eq_true rfl)  ?_
        refine a_if_eq 21 d_Mod_corner_5 (by decide) (fun c5 => absurd c5 (by decide)) (fun c5 => ?_)
        refine a_iload_n d_Mod_corner_8 rfl ?_
        refine a_if_lt 21 d_Mod_corner_9 (by decide) (fun c9 => absurd c9 ck) (fun c9 => ?_)
        refine a_iload_n d_Mod_corner_12 rfl ?_
        refine a_iconst (v := 0) d_Mod_corner_13 (by decide) ?_
        refine a_iconst (v := 2) d_Mod_corner_14 (by decide) ?_
        refine a_cs0 d_Mod_corner_15 m_Mod_in t_Mod_in l_Mod_71 (s_Mod_in _ _ _) rfl rfl ⟨Nat.le_of_ble_eq_true rfl, Nat.le_of_ble_eq_true rfl⟩ (Nat.le_of_ble_eq_true rfl)  ?_
        refine a_if_ne 24 d_Mod_corner_18 (by decide) (fun c18 => absurd c18 (fun q => q fw)) (fun c18 => ?_)
        refine a_ldc d_Mod_corner_21 k_Mod_75 ?_
        exact a_iret d_Mod_corner_23 rfl rfl rfl rfl
      · subst cw
        have fw : ¬ fRg (nI w) 0 2 = 0 := by rw [show fRg (nI w) 0 2 = 1 from fRg_in (hi := 2) (by decide) hw]; decide
        rcases (show w = 0 ∨ w = 1 ∨ w = 2 by omega) with rfl | rfl | rfl
        · have qn : q_corner V W H D j s (nI (sB (decide (j = 1)) D t)) (nI K) (nI 0) = iI (bX (decide (j = 1)) D t (K % sP (decide (j = 1)) D t)) := by unfold q_corner; rw [hq]; simp only; rw [if_pos (nI_pos' hK), swI_in 0 2 (by decide) (by decide)]; simp only; rw [nI_clamp hK]
          rw [qn]
          refine AMet.intro (Nat.le_refl _) (Nat.le_refl _) (by decide) (Nat.le_of_ble_eq_true rfl) rfl ?_
          refine a_aload_n d_Mod_corner_0 rfl ?_
          refine a_iload_n d_Mod_corner_1 rfl ?_
          refine a_cv0 (a := 32) d_Mod_corner_2 m_Mod_isBorder t_Mod_isBorder l_Mod_169 g32 rfl rfl M rfl rfl ⟨Nat.le_of_ble_eq_true rfl, Nat.le_of_ble_eq_true rfl⟩ (Nat.le_of_ble_eq_true rfl)  ?_
          refine a_if_eq 21 d_Mod_corner_5 (by decide) (fun c5 => absurd c5 (by decide)) (fun c5 => ?_)
          refine a_iload_n d_Mod_corner_8 rfl ?_
          refine a_if_lt 21 d_Mod_corner_9 (by decide) (fun c9 => absurd c9 ck) (fun c9 => ?_)
          refine a_iload_n d_Mod_corner_12 rfl ?_
          refine a_iconst (v := 0) d_Mod_corner_13 (by decide) ?_
          refine a_iconst (v := 2) d_Mod_corner_14 (by decide) ?_
          refine a_cs0 d_Mod_corner_15 m_Mod_in t_Mod_in l_Mod_71 (s_Mod_in _ _ _) rfl rfl ⟨Nat.le_of_ble_eq_true rfl, Nat.le_of_ble_eq_true rfl⟩ (Nat.le_of_ble_eq_true rfl)  ?_
          refine a_if_ne 24 d_Mod_corner_18 (by decide) (fun c18 => ?_) (fun c18 => absurd c18 fw)
          refine a_aload_n d_Mod_corner_24 rfl ?_
          refine a_getf d_Mod_corner_25 f_Mod_28 k32 rfl ?_
          refine a_iload_n d_Mod_corner_28 rfl ?_
          refine a_iald d_Mod_corner_29 k39 (nI_in (show sB (decide (j = 1)) D t < 40 by omega) (by decide)) ?_
          rw [nI_clamp (by omega), m1]
          refine a_iload_n d_Mod_corner_30 rfl ?_
          refine a_aload_n d_Mod_corner_31 rfl ?_
          refine a_getf d_Mod_corner_32 f_Mod_31 k32 rfl ?_
          refine a_iload_n d_Mod_corner_35 rfl ?_
          refine a_iald d_Mod_corner_36 k40 (nI_in (show sB (decide (j = 1)) D t < 40 by omega) (by decide)) ?_
          rw [nI_clamp (by omega), m2]
          refine a_irem d_Mod_corner_37 (nI_ne0 (by omega) (by omega)) ?_
          rw [rm]
          refine a_iadd d_Mod_corner_38 ?_
          rw [nI_add]
          refine a_istore d_Mod_corner_39 (Nat.le_of_ble_eq_true rfl) (Nat.le_of_ble_eq_true rfl) rfl ?_
          refine a_iload_n d_Mod_corner_41 rfl ?_
          refine a_if_ne 55 d_Mod_corner_42 (by decide) (fun c42 => absurd c42 (by decide)) (fun c42 => ?_)
          refine a_aload_n d_Mod_corner_45 rfl ?_
          refine a_getf d_Mod_corner_46 f_Mod_44 k32 rfl ?_
          refine a_iload d_Mod_corner_49 rfl ?_
          refine a_iald d_Mod_corner_51 k44 (nI_in (show sS (decide (j = 1)) D t + K % sP (decide (j = 1)) D t < 160 by omega) (by decide)) ?_
          rw [nI_clamp (by omega), r1]
          refine a_goto 77 d_Mod_corner_52 (by decide) ?_
          exact a_iret d_Mod_corner_77 rfl rfl rfl rfl
        · have qn : q_corner V W H D j s (nI (sB (decide (j = 1)) D t)) (nI K) (nI 1) = iI (bY (decide (j = 1)) D t (K % sP (decide (j = 1)) D t)) := by unfold q_corner; rw [hq]; simp only; rw [if_pos (nI_pos' hK), swI_in 1 2 (by decide) (by decide)]; simp only; rw [nI_clamp hK]
          rw [qn]
          refine AMet.intro (Nat.le_refl _) (Nat.le_refl _) (by decide) (Nat.le_of_ble_eq_true rfl) rfl ?_
          refine a_aload_n d_Mod_corner_0 rfl ?_
          refine a_iload_n d_Mod_corner_1 rfl ?_
          refine a_cv0 (a := 32) d_Mod_corner_2 m_Mod_isBorder t_Mod_isBorder l_Mod_169 g32 rfl rfl M rfl rfl ⟨Nat.le_of_ble_eq_true rfl, Nat.le_of_ble_eq_true rfl⟩ (Nat.le_of_ble_eq_true rfl)  ?_
          refine a_if_eq 21 d_Mod_corner_5 (by decide) (fun c5 => absurd c5 (by decide)) (fun c5 => ?_)
          refine a_iload_n d_Mod_corner_8 rfl ?_
          refine a_if_lt 21 d_Mod_corner_9 (by decide) (fun c9 => absurd c9 ck) (fun c9 => ?_)
          refine a_iload_n d_Mod_corner_12 rfl ?_
          refine a_iconst (v := 0) d_Mod_corner_13 (by decide) ?_
          refine a_iconst (v := 2) d_Mod_corner_14 (by decide) ?_
          refine a_cs0 d_Mod_corner_15 m_Mod_in t_Mod_in l_Mod_71 (s_Mod_in _ _ _) rfl rfl ⟨Nat.le_of_ble_eq_true rfl, Nat.le_of_ble_eq_true rfl⟩ (Nat.le_of_ble_eq_true rfl)  ?_
          refine a_if_ne 24 d_Mod_corner_18 (by decide) (fun c18 => ?_) (fun c18 => absurd c18 fw)
          refine a_aload_n d_Mod_corner_24 rfl ?_
          refine a_getf d_Mod_corner_25 f_Mod_28 k32 rfl ?_
          refine a_iload_n d_Mod_corner_28 rfl ?_
          refine a_iald d_Mod_corner_29 k39 (nI_in (show sB (decide (j = 1)) D t < 40 by omega) (by decide)) ?_
          rw [nI_clamp (by omega), m1]
          refine a_iload_n d_Mod_corner_30 rfl ?_
          refine a_aload_n d_Mod_corner_31 rfl ?_
          refine a_getf d_Mod_corner_32 f_Mod_31 k32 rfl ?_
          refine a_iload_n d_Mod_corner_35 rfl ?_
          refine a_iald d_Mod_corner_36 k40 (nI_in (show sB (decide (j = 1)) D t < 40 by omega) (by decide)) ?_
          rw [nI_clamp (by omega), m2]
          refine a_irem d_Mod_corner_37 (nI_ne0 (by omega) (by omega)) ?_
          rw [rm]
          refine a_iadd d_Mod_corner_38 ?_
          rw [nI_add]
          refine a_istore d_Mod_corner_39 (Nat.le_of_ble_eq_true rfl) (Nat.le_of_ble_eq_true rfl) rfl ?_
          refine a_iload_n d_Mod_corner_41 rfl ?_
          refine a_if_ne 55 d_Mod_corner_42 (by decide) (fun c42 => ?_) (fun c42 => absurd c42 (by decide))
          refine a_iload_n d_Mod_corner_55 rfl ?_
          refine a_iconst (v := 1) d_Mod_corner_56 (by decide) ?_
          refine a_icmp_ne 70 d_Mod_corner_57 (by decide) (fun c57 => absurd c57 (by decide)) (fun c57 => ?_)
          refine a_aload_n d_Mod_corner_60 rfl ?_
          refine a_getf d_Mod_corner_61 f_Mod_47 k32 rfl ?_
          refine a_iload d_Mod_corner_64 rfl ?_
          refine a_iald d_Mod_corner_66 k45 (nI_in (show sS (decide (j = 1)) D t + K % sP (decide (j = 1)) D t < 160 by omega) (by decide)) ?_
          rw [nI_clamp (by omega), r2]
          refine a_goto 77 d_Mod_corner_67 (by decide) ?_
          exact a_iret d_Mod_corner_77 rfl rfl rfl rfl
        · have qn : q_corner V W H D j s (nI (sB (decide (j = 1)) D t)) (nI K) (nI 2) = wW (decide (j = 1)) (sR (decide (j = 1)) D t) t (K % sP (decide (j = 1)) D t) := by unfold q_corner; rw [hq]; simp only; rw [if_pos (nI_pos' hK), swI_in 2 2 (by decide) (by decide)]; simp only; rw [nI_clamp hK]
          rw [qn]
          refine AMet.intro (Nat.le_refl _) (Nat.le_refl _) (by decide) (Nat.le_of_ble_eq_true rfl) rfl ?_
          refine a_aload_n d_Mod_corner_0 rfl ?_
          refine a_iload_n d_Mod_corner_1 rfl ?_
          refine a_cv0 (a := 32) d_Mod_corner_2 m_Mod_isBorder t_Mod_isBorder l_Mod_169 g32 rfl rfl M rfl rfl ⟨Nat.le_of_ble_eq_true rfl, Nat.le_of_ble_eq_true rfl⟩ (Nat.le_of_ble_eq_true rfl)  ?_
          refine a_if_eq 21 d_Mod_corner_5 (by decide) (fun c5 => absurd c5 (by decide)) (fun c5 => ?_)
          refine a_iload_n d_Mod_corner_8 rfl ?_
          refine a_if_lt 21 d_Mod_corner_9 (by decide) (fun c9 => absurd c9 ck) (fun c9 => ?_)
          refine a_iload_n d_Mod_corner_12 rfl ?_
          refine a_iconst (v := 0) d_Mod_corner_13 (by decide) ?_
          refine a_iconst (v := 2) d_Mod_corner_14 (by decide) ?_
          refine a_cs0 d_Mod_corner_15 m_Mod_in t_Mod_in l_Mod_71 (s_Mod_in _ _ _) rfl rfl ⟨Nat.le_of_ble_eq_true rfl, Nat.le_of_ble_eq_true rfl⟩ (Nat.le_of_ble_eq_true rfl)  ?_
          refine a_if_ne 24 d_Mod_corner_18 (by decide) (fun c18 => ?_) (fun c18 => absurd c18 fw)
          refine a_aload_n d_Mod_corner_24 rfl ?_
          refine a_getf d_Mod_corner_25 f_Mod_28 k32 rfl ?_
          refine a_iload_n d_Mod_corner_28 rfl ?_
          refine a_iald d_Mod_corner_29 k39 (nI_in (show sB (decide (j = 1)) D t < 40 by omega) (by decide)) ?_
          rw [nI_clamp (by omega), m1]
          refine a_iload_n d_Mod_corner_30 rfl ?_
          refine a_aload_n d_Mod_corner_31 rfl ?_
          refine a_getf d_Mod_corner_32 f_Mod_31 k32 rfl ?_
          refine a_iload_n d_Mod_corner_35 rfl ?_
          refine a_iald d_Mod_corner_36 k40 (nI_in (show sB (decide (j = 1)) D t < 40 by omega) (by decide)) ?_
          rw [nI_clamp (by omega), m2]
          refine a_irem d_Mod_corner_37 (nI_ne0 (by omega) (by omega)) ?_
          rw [rm]
          refine a_iadd d_Mod_corner_38 ?_
          rw [nI_add]
          refine a_istore d_Mod_corner_39 (Nat.le_of_ble_eq_true rfl) (Nat.le_of_ble_eq_true rfl) rfl ?_
          refine a_iload_n d_Mod_corner_41 rfl ?_
          refine a_if_ne 55 d_Mod_corner_42 (by decide) (fun c42 => ?_) (fun c42 => absurd c42 (by decide))
          refine a_iload_n d_Mod_corner_55 rfl ?_
          refine a_iconst (v := 1) d_Mod_corner_56 (by decide) ?_
          refine a_icmp_ne 70 d_Mod_corner_57 (by decide) (fun c57 => ?_) (fun c57 => absurd c57 (by decide))
          refine a_aload_n d_Mod_corner_70 rfl ?_
          refine a_getf d_Mod_corner_71 f_Mod_50 k32 rfl ?_
          refine a_iload d_Mod_corner_74 rfl ?_
          refine a_iald d_Mod_corner_76 k46 (nI_in (show sS (decide (j = 1)) D t + K % sP (decide (j = 1)) D t < 160 by omega) (by decide)) ?_
          rw [nI_clamp (by omega), r3]
          exact a_iret d_Mod_corner_77 rfl rfl rfl rfl
set_option maxRecDepth 20000 in
set_option maxHeartbeats 4000000 in
theorem m_inside {W H : Nat} {D : Int64} {j s ac by_ la ra : Int32} (p : PcOk W H D j) (Q : MQs W H D j s ac by_ la ra h) (b x y : Int32) : ∃ h1, MQs W H D j s ac by_ la ra h1 ∧ FQ h1 h ∧ AMet V i_Mod_inside 8 [.ref 32, .int b, .int x, .int y] h n z (some (.int (q_inside V W H D j s b x y))) h1 n z := by
  obtain ⟨c, g32⟩ := Q.cls
  obtain ⟨h1, L, F, M⟩ := m_isBorder (V := V) (n := n) (z := z) p Q b
  refine ⟨h1, L.q, F, ?_⟩
  cases hq : bq W D j b with
  | none =>
    rw [hq] at M
    have qn : q_inside V W H D j s b x y = -1000001 := by unfold q_inside; rw [hq]
    rw [qn]
    refine AMet.intro (Nat.le_refl _) (Nat.le_refl _) (by decide) (Nat.le_of_ble_eq_true rfl) rfl ?_
    refine a_aload_n d_Mod_inside_0 rfl ?_
    refine a_iload_n d_Mod_inside_1 rfl ?_
    refine a_cv0 (a := 32) d_Mod_inside_2 m_Mod_isBorder t_Mod_isBorder l_Mod_169 g32 rfl rfl M rfl rfl ⟨Nat.le_of_ble_eq_true rfl, Nat.le_of_ble_eq_true rfl⟩ (Nat.le_of_ble_eq_true rfl)  ?_
    refine a_if_eq 35 d_Mod_inside_5 (by decide) (fun c5 => ?_) (fun c5 => absurd rfl c5)
    refine a_ldc d_Mod_inside_35 k_Mod_75 ?_
    exact a_iret d_Mod_inside_37 rfl rfl rfl rfl
  | some t =>
    rw [hq, if_pos (show (some t).isSome = true from rfl)] at M
    obtain ⟨w0, ht, hb, eb, hlt⟩ := bq_some hq
    obtain ⟨tb, ve, oa, lm, k32, ⟨st, of, le, vxx, tu, lx, ly, k33, es, k47, k48, k49, k50, k51, k52⟩, ⟨fr, sz, fx, fy, wn, cx, cy, go, k39, k40, k41, k42, k43, k44, k45, k46, ml⟩, TB⟩ := id L
    obtain ⟨⟨m1, m2, m3, m4, m5⟩, m6⟩ := ml t ht hb
    obtain ⟨s0, s1, s2, s3, s4⟩ := MB.st0 es
    have P4 := bd_P ht hb
    have B36 := sB_36 (decide (j = 1)) D 64 (Nat.le_refl _)
    subst eb
    have ed : mDot (st 0) (st 1) x y = fHas (nI W) (nI H) x y := by rw [s0, s1]; exact mDot_fHas (by have := p.1; omega) (by have := p.2.1; omega) x y
    by_cases cf : fHas (nI W) (nI H) x y = 0
    · have qn : q_inside V W H D j s (nI (sB (decide (j = 1)) D t)) x y = -1000001 := by unfold q_inside; rw [hq]; simp only; rw [if_pos cf]
      rw [qn]
      refine AMet.intro (Nat.le_refl _) (Nat.le_refl _) (by decide) (Nat.le_of_ble_eq_true rfl) rfl ?_
      refine a_aload_n d_Mod_inside_0 rfl ?_
      refine a_iload_n d_Mod_inside_1 rfl ?_
      refine a_cv0 (a := 32) d_Mod_inside_2 m_Mod_isBorder t_Mod_isBorder l_Mod_169 g32 rfl rfl M rfl rfl ⟨Nat.le_of_ble_eq_true rfl, Nat.le_of_ble_eq_true rfl⟩ (Nat.le_of_ble_eq_true rfl)  ?_
      refine a_if_eq 35 d_Mod_inside_5 (by decide) (fun c5 => absurd c5 (by decide)) (fun c5 => ?_)
      refine a_aload_n d_Mod_inside_8 rfl ?_
      refine a_iload_n d_Mod_inside_9 rfl ?_
      refine a_iload_n d_Mod_inside_10 rfl ?_
      refine a_cv0 (a := 32) d_Mod_inside_11 m_Mod_isDot t_Mod_isDot l_Mod_118 k32 rfl rfl (s_Mod_isDot k32 k33 _ _) rfl rfl ⟨Nat.le_of_ble_eq_true rfl, Nat.le_of_ble_eq_true rfl⟩ (Nat.le_of_ble_eq_true rfl)  ?_
      refine a_if_eq 35 d_Mod_inside_14 (by decide) (fun c14 => ?_) (fun c14 => absurd (ed.trans cf) c14)
      refine a_ldc d_Mod_inside_35 k_Mod_75 ?_
      exact a_iret d_Mod_inside_37 rfl rfl rfl rfl
    · obtain ⟨X, Y, hX, hY, eX_, eY_⟩ := fHas_ok (by have := p.1; omega) (by have := p.2.1; omega) cf
      subst eX_ eY_
      have hW := p.1
      have hH := p.2.1
      have qn : q_inside V W H D j s (nI (sB (decide (j = 1)) D t)) (nI X) (nI Y) = if lb (wn (sB (decide (j = 1)) D t)) (8 * Y + X) then 1 else 0 := by
        unfold q_inside; rw [hq]; simp only; rw [if_neg cf, m5]
        have := inD_bit (wi (decide (j = 1)) (sR (decide (j = 1)) D t) t (sP (decide (j = 1)) D t)) (x := (X : Int)) (y := (Y : Int)) (by omega) (by omega)
        rw [← iI_nat, ← iI_nat] at this
        have e2 : inD (wi (decide (j = 1)) (sR (decide (j = 1)) D t) t (sP (decide (j = 1)) D t)) (X : Int) (Y : Int) = lb (wi (decide (j = 1)) (sR (decide (j = 1)) D t) t (sP (decide (j = 1)) D t)) (8 * Y + X) := by
          unfold inD
          rw [decide_eq_true (by omega), Bool.true_and, show (8 * (Y : Int) + (X : Int)).toNat = 8 * Y + X by omega]
        rw [e2] at this
        by_cases c : lb (wi (decide (j = 1)) (sR (decide (j = 1)) D t) t (sP (decide (j = 1)) D t)) (8 * Y + X) = true
        · rw [if_neg (fun q => by rw [this.mp q] at c; cases c), if_pos c]
        · rw [if_pos (this.mpr (by simpa using c)), if_neg c]
      rw [qn]
      refine AMet.intro (Nat.le_refl _) (Nat.le_refl _) (by decide) (Nat.le_of_ble_eq_true rfl) rfl ?_
      refine a_aload_n d_Mod_inside_0 rfl ?_
      refine a_iload_n d_Mod_inside_1 rfl ?_
      refine a_cv0 (a := 32) d_Mod_inside_2 m_Mod_isBorder t_Mod_isBorder l_Mod_169 g32 rfl rfl M rfl rfl ⟨Nat.le_of_ble_eq_true rfl, Nat.le_of_ble_eq_true rfl⟩ (Nat.le_of_ble_eq_true rfl)  ?_
      refine a_if_eq 35 d_Mod_inside_5 (by decide) (fun c5 => absurd c5 (by decide)) (fun c5 => ?_)
      refine a_aload_n d_Mod_inside_8 rfl ?_
      refine a_iload_n d_Mod_inside_9 rfl ?_
      refine a_iload_n d_Mod_inside_10 rfl ?_
      refine a_cv0 (a := 32) d_Mod_inside_11 m_Mod_isDot t_Mod_isDot l_Mod_118 k32 rfl rfl (s_Mod_isDot k32 k33 _ _) rfl rfl ⟨Nat.le_of_ble_eq_true rfl, Nat.le_of_ble_eq_true rfl⟩ (Nat.le_of_ble_eq_true rfl)  ?_
      refine a_if_eq 35 d_Mod_inside_14 (by decide) (fun c14 => absurd c14 (fun q => cf (ed.symm.trans q))) (fun c14 => ?_)
      refine a_aload_n d_Mod_inside_17 rfl ?_
      refine a_iload_n d_Mod_inside_18 rfl ?_
      refine a_iload_n d_Mod_inside_19 rfl ?_
      refine a_iload_n d_Mod_inside_20 rfl ?_
      refine a_cv0 (a := 32) d_Mod_inside_21 m_Mod_isIn t_Mod_isIn l_Mod_180 k32 rfl rfl (s_Mod_isIn k32 k32 k43 (by omega) (by omega) (by omega)) rfl rfl ⟨Nat.le_of_ble_eq_true rfl, Nat.le_of_ble_eq_true rfl⟩ (Nat.le_of_ble_eq_true rfl)  ?_
      refine a_if_eq 31 d_Mod_inside_24 (by decide) (fun c24 => ?_) (fun c24 => ?_)
      · skip
        refine a_iconst (v := 0) d_Mod_inside_31 (by decide) ?_
        refine a_goto 37 d_Mod_inside_32 (by decide) ?_
        exact a_iret d_Mod_inside_37 rfl (by split at c24 <;> simp_all) rfl rfl
      · skip
        refine a_iconst (v := 1) d_Mod_inside_27 (by decide) ?_
        refine a_goto 37 d_Mod_inside_28 (by decide) ?_
        exact a_iret d_Mod_inside_37 rfl (by split at c24 <;> simp_all) rfl rfl
end
