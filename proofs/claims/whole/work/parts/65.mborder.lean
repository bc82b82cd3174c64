/-! THE MODEL is asked of a border: printed by wip/whole/t65.py -/
def mbC (ws : Nat → Int32) (P : Nat) : Nat → Nat
  | 0 => 0
  | k + 1 => mbC ws P k + if ws k = ws ((k + P - 1) % P) then 0 else 1
theorem mbC_le (ws : Nat → Int32) (P : Nat) : ∀ k, mbC ws P k ≤ k
  | 0 => Nat.le_refl 0
  | k + 1 => by
    have := mbC_le ws P k
    simp only [mbC]
    split <;> omega
theorem mbC_tu (ws : Nat → Int32) {P : Nat} (hP : 0 < P) : ∀ k, k < P → mbC ws P (k + 1) = tuC ws 0 P k + if ws 0 = ws (P - 1) then 0 else 1
  | 0, _ => by
    simp only [mbC, tuC]
    rw [show 0 + P - 1 = P - 1 by omega, Nat.mod_eq_of_lt (by omega)]
  | k + 1, h => by
    have ih := mbC_tu ws hP k (by omega)
    have e : mbC ws P (k + 1 + 1) = mbC ws P (k + 1) + if ws (k + 1) = ws ((k + 1 + P - 1) % P) then 0 else 1 := rfl
    have e2 : tuC ws 0 P (k + 1) = if ws (0 + k % P) = ws (0 + (k + 1) % P) then tuC ws 0 P k else tuC ws 0 P k + 1 := rfl
    rw [e, e2, ih, show k + 1 + P - 1 = k + P by omega, Nat.add_mod_right, Nat.mod_eq_of_lt (show k < P by omega), Nat.mod_eq_of_lt h, Nat.zero_add, Nat.zero_add]
    clear e e2 ih
    generalize (if ws 0 = ws (P - 1) then (0 : Nat) else 1) = A
    by_cases c : ws k = ws (k + 1)
    · rw [if_pos c, if_pos c.symm]; omega
    · rw [if_neg c, if_neg (fun q => c q.symm)]; omega
theorem mbC_end (ws : Nat → Int32) {P : Nat} (hP : 0 < P) : mbC ws P P = tuC ws 0 P P := by
  obtain ⟨k, rfl⟩ : ∃ k, P = k + 1 := ⟨P - 1, by omega⟩
  rw [mbC_tu ws hP k (by omega)]
  show _ = if ws (0 + k % (k + 1)) = ws (0 + (k + 1) % (k + 1)) then tuC ws 0 (k + 1) k else tuC ws 0 (k + 1) k + 1
  rw [Nat.mod_self, Nat.mod_eq_of_lt (by omega), Nat.zero_add, Nat.zero_add, Nat.add_sub_cancel]
  by_cases c : ws k = ws 0
  · rw [if_pos c, if_pos c.symm]; omega
  · rw [if_neg c, if_neg (fun q => c q.symm)]
section
variable {V : VV} {h : AH} {n z : Nat}

set_option maxRecDepth 20000 in
set_option maxHeartbeats 4000000 in
theorem L_bends {ac by_ la ra il mn : Int32} {rs : Int64} {tb ve oa lm : Int32} {fr sz go : Nat → Int32} (k32 : h 32 = oMod ac by_ la ra il mn rs tb ve oa lm) (k39 : h 39 = aI 40 fr) (k40 : h 40 = aI 40 sz) (k46 : h 46 = aI 160 go) {B S0 P : Nat} {ws : Nat → Int32} (hB : B < 40) (hP : 0 < P) (hs : S0 + P ≤ 144) (m1 : fr B = nI S0) (m2 : sz B = nI P) (m6 : ∀ k, k < P → go (S0 + k) = ws k) : ∀ (m k : Nat), k + m = P → AM V i_Mod_bends 0 n z (some (.int (nI (mbC ws P P)))) h n z 4 [some (.ref 32), some (.int (nI B)), some (.int (nI (mbC ws P k))), some (.int (nI k))] [] h n z := by
  intro m
  induction m with
  | zero =>
    intro k hk
    have e : k = P := by omega
    subst e
    refine a_iload_n d_Mod_bends_4 rfl ?_
    refine a_aload_n d_Mod_bends_5 rfl ?_
    refine a_getf d_Mod_bends_6 f_Mod_31 k32 rfl ?_
    refine a_iload_n d_Mod_bends_9 rfl ?_
    refine a_iald d_Mod_bends_10 k40 (nI_in (show B < 40 by omega) (by decide)) ?_
    rw [nI_clamp (by omega), m2]
    refine a_icmp_ge 73 d_Mod_bends_11 (by decide) (fun c11 => ?_) (fun c11 => absurd (Int32.le_refl _) c11)
    refine a_iload_n d_Mod_bends_73 rfl ?_
    exact a_iret d_Mod_bends_74 rfl rfl rfl rfl
  | succ m ih =>
    intro k hk
    have hm := Nat.mod_lt (k + P - 1) hP
    have r1 : nI (k + P) - 1 = nI (k + P - 1) := pk_sub (b := 1) (by omega)
    have r2 : nI (k + P - 1) - nI (k + P - 1) / nI P * nI P = nI ((k + P - 1) % P) := pk_rem (by omega) hP (by omega)
    refine a_iload_n d_Mod_bends_4 rfl ?_
    refine a_aload_n d_Mod_bends_5 rfl ?_
    refine a_getf d_Mod_bends_6 f_Mod_31 k32 rfl ?_
    refine a_iload_n d_Mod_bends_9 rfl ?_
    refine a_iald d_Mod_bends_10 k40 (nI_in (show B < 40 by omega) (by decide)) ?_
    rw [nI_clamp (by omega), m2]
    refine a_icmp_ge 73 d_Mod_bends_11 (by decide) (fun c11 => absurd c11 (nI_ge (show k < P by omega) (by omega))) (fun c11 => ?_)
    refine a_iload_n d_Mod_bends_14 rfl ?_
    refine a_aload_n d_Mod_bends_15 rfl ?_
    refine a_getf d_Mod_bends_16 f_Mod_50 k32 rfl ?_
    refine a_aload_n d_Mod_bends_19 rfl ?_
    refine a_getf d_Mod_bends_20 f_Mod_28 k32 rfl ?_
    refine a_iload_n d_Mod_bends_23 rfl ?_
    refine a_iald d_Mod_bends_24 k39 (nI_in (show B < 40 by omega) (by decide)) ?_
    rw [nI_clamp (by omega), m1]
    refine a_iload_n d_Mod_bends_25 rfl ?_
    refine a_iadd d_Mod_bends_26 ?_
    rw [nI_add]
    refine a_iald d_Mod_bends_27 k46 (nI_in (show S0 + k < 160 by omega) (by decide)) ?_
    rw [nI_clamp (by omega), m6 k (by omega)]
    refine a_aload_n d_Mod_bends_28 rfl ?_
    refine a_getf d_Mod_bends_29 f_Mod_50 k32 rfl ?_
    refine a_aload_n d_Mod_bends_32 rfl ?_
    refine a_getf d_Mod_bends_33 f_Mod_28 k32 rfl ?_
    refine a_iload_n d_Mod_bends_36 rfl ?_
    refine a_iald d_Mod_bends_37 k39 (nI_in (show B < 40 by omega) (by decide)) ?_
    rw [nI_clamp (by omega), m1]
    refine a_iload_n d_Mod_bends_38 rfl ?_
    refine a_aload_n d_Mod_bends_39 rfl ?_
    refine a_getf d_Mod_bends_40 f_Mod_31 k32 rfl ?_
    refine a_iload_n d_Mod_bends_43 rfl ?_
    refine a_iald d_Mod_bends_44 k40 (nI_in (show B < 40 by omega) (by decide)) ?_
    rw [nI_clamp (by omega), m2]
    refine a_iadd d_Mod_bends_45 ?_
    rw [nI_add]
    refine a_iconst (v := 1) d_Mod_bends_46 (by decide) ?_
    refine a_isub d_Mod_bends_47 ?_
    rw [r1]
    refine a_aload_n d_Mod_bends_48 rfl ?_
    refine a_getf d_Mod_bends_49 f_Mod_31 k32 rfl ?_
    refine a_iload_n d_Mod_bends_52 rfl ?_
    refine a_iald d_Mod_bends_53 k40 (nI_in (show B < 40 by omega) (by decide)) ?_
    rw [nI_clamp (by omega), m2]
    refine a_irem d_Mod_bends_54 (nI_ne0 hP (by omega)) ?_
    rw [r2]
    refine a_iadd d_Mod_bends_55 ?_
    rw [nI_add]
    refine a_iald d_Mod_bends_56 k46 (nI_in (show S0 + (k + P - 1) % P < 160 by omega) (by decide)) ?_
    rw [nI_clamp (by omega), m6 _ hm]
    refine a_icmp_eq 64 d_Mod_bends_57 (by decide) (fun c57 => ?_) (fun c57 => ?_)
    · skip
      refine a_iconst (v := 0) d_Mod_bends_64 (by decide) ?_
      refine a_iadd d_Mod_bends_65 ?_
      refine a_istore_n d_Mod_bends_66 (Nat.le_of_ble_eq_true rfl) (Nat.le_of_ble_eq_true rfl) rfl ?_
      refine a_iinc d_Mod_bends_67 rfl (nI_1 k) (Nat.le_of_ble_eq_true rfl) rfl ?_
      refine a_goto 4 d_Mod_bends_70 (by decide) ?_
      have ec : nI (mbC ws P k) + 0 = nI (mbC ws P (k + 1)) := by
        show _ = nI (mbC ws P k + if ws k = ws ((k + P - 1) % P) then 0 else 1)
        rw [if_pos c57, Nat.add_zero, Int32.add_zero]
      rw [ec]
      exact ih (k + 1) (by omega)
    · skip
      refine a_iconst (v := 1) d_Mod_bends_60 (by decide) ?_
      refine a_goto 65 d_Mod_bends_61 (by decide) ?_
      refine a_iadd d_Mod_bends_65 ?_
      refine a_istore_n d_Mod_bends_66 (Nat.le_of_ble_eq_true rfl) (Nat.le_of_ble_eq_true rfl) rfl ?_
      refine a_iinc d_Mod_bends_67 rfl (nI_1 k) (Nat.le_of_ble_eq_true rfl) rfl ?_
      refine a_goto 4 d_Mod_bends_70 (by decide) ?_
      have ec : nI (mbC ws P k) + 1 = nI (mbC ws P (k + 1)) := by
        show _ = nI (mbC ws P k + if ws k = ws ((k + P - 1) % P) then 0 else 1)
        rw [if_neg c57, nI_1]
      rw [ec]
      exact ih (k + 1) (by omega)
set_option maxRecDepth 20000 in
set_option maxHeartbeats 4000000 in
theorem s_Mod_bends {ac by_ la ra il mn : Int32} {rs : Int64} {tb ve oa lm : Int32} {fr sz go : Nat → Int32} (k32 : h 32 = oMod ac by_ la ra il mn rs tb ve oa lm) (k39 : h 39 = aI 40 fr) (k40 : h 40 = aI 40 sz) (k46 : h 46 = aI 160 go) {B S0 P : Nat} {ws : Nat → Int32} (hB : B < 40) (hP : 0 < P) (hs : S0 + P ≤ 144) (m1 : fr B = nI S0) (m2 : sz B = nI P) (m6 : ∀ k, k < P → go (S0 + k) = ws k) : AMet V i_Mod_bends 0 [.ref 32, .int (nI B)] h n z (some (.int (nI (tuC ws 0 P P)))) h n z := by
  rw [← mbC_end ws hP]
  refine AMet.intro (Nat.le_refl _) (Nat.le_refl _) (by decide) (Nat.le_of_ble_eq_true rfl) rfl ?_
  refine a_iconst (v := 0) d_Mod_bends_0 (by decide) ?_
  refine a_istore_n d_Mod_bends_1 (Nat.le_of_ble_eq_true rfl) (Nat.le_of_ble_eq_true rfl) rfl ?_
  refine a_iconst (v := 0) d_Mod_bends_2 (by decide) ?_
  refine a_istore_n d_Mod_bends_3 (Nat.le_of_ble_eq_true rfl) (Nat.le_of_ble_eq_true rfl) rfl ?_
  exact L_bends k32 k39 k40 k46 hB hP hs m1 m2 m6 P 0 (by omega)
set_option maxRecDepth 20000 in
set_option maxHeartbeats 4000000 in
theorem m_border {W H : Nat} {D : Int64} {j s ac by_ la ra : Int32} (p : PcOk W H D j) (Q : MQs W H D j s ac by_ la ra h) (b what : Int32) : ∃ h1, MQs W H D j s ac by_ la ra h1 ∧ FQ h1 h ∧ AMet V i_Mod_border 8 [.ref 32, .int b, .int what] h n z (some (.int (q_border V W H D j s b what))) h1 n z := by
  obtain ⟨c, g32⟩ := Q.cls
  obtain ⟨h1, L, F, M⟩ := m_isBorder (V := V) (n := n) (z := z) p Q b
  refine ⟨h1, L.q, F, ?_⟩
  cases hq : bq W D j b with
  | none =>
    rw [hq] at M
    have qn : q_border V W H D j s b what = -1000001 := by unfold q_border; rw [hq]
    rw [qn]
    refine AMet.intro (Nat.le_refl _) (Nat.le_refl _) (by decide) (Nat.le_of_ble_eq_true rfl) rfl ?_
    refine a_aload_n d_Mod_border_0 rfl ?_
    refine a_iload_n d_Mod_border_1 rfl ?_
    refine a_cv0 (a := 32) d_Mod_border_2 m_Mod_isBorder t_Mod_isBorder l_Mod_169 g32 rfl rfl M rfl rfl ⟨Nat.le_of_ble_eq_true rfl, Nat.le_of_ble_eq_true rfl⟩ (Nat.le_of_ble_eq_true rfl)  ?_
    refine a_if_ne 11 d_Mod_border_5 (by decide) (fun c5 => absurd c5 (fun q => q rfl)) (fun c5 => ?_)
    refine a_ldc d_Mod_border_8 k_Mod_75 ?_
    exact a_iret d_Mod_border_10 rfl rfl rfl rfl
  | some t =>
    rw [hq, if_pos (show (some t).isSome = true from rfl)] at M
    obtain ⟨w0, ht, hb, eb, hlt⟩ := bq_some hq
    obtain ⟨tb, ve, oa, lm, k32, ⟨st, of, le, vxx, tu, lx, ly, k33, es, k47, k48, k49, k50, k51, k52⟩, ⟨fr, sz, fx, fy, wn, cx, cy, go, k39, k40, k41, k42, k43, k44, k45, k46, ml⟩, TB⟩ := id L
    obtain ⟨⟨m1, m2, m3, m4, m5⟩, m6⟩ := ml t ht hb
    obtain ⟨s0, s1, s2, s3, s4⟩ := MB.st0 es
    have P4 := bd_P ht hb
    have B36 := sB_36 (decide (j = 1)) D 64 (Nat.le_refl _)
    subst eb
    have ey : 4 + 8 * nI (t / 8) + nI (t % 8) = nI (4 + t) := by rw [ixE, show 4 + 8 * (t / 8) + t % 8 = 4 + t by omega]
    have hc : nI t &&& 7 = nI (t % 8) := pk_andN (by omega) 3 (by decide)
    have hr : nI t >>> ((3 : Int32) &&& 31) &&& 7 = nI (t / 8) := by
      rw [show ((3 : Int32) &&& 31) = 3 from by decide, pk_shrN (n := t) (by omega) 3 3 (by decide), pk_andN (by omega) 3 (by decide), Nat.mod_eq_of_lt (by omega)]
    rw [← iI_nat] at m3 m4
    refine AMet.intro (Nat.le_refl _) (Nat.le_refl _) (by decide) (Nat.le_of_ble_eq_true rfl) rfl ?_
    refine a_aload_n d_Mod_border_0 rfl ?_
    refine a_iload_n d_Mod_border_1 rfl ?_
    refine a_cv0 (a := 32) d_Mod_border_2 m_Mod_isBorder t_Mod_isBorder l_Mod_169 g32 rfl rfl M rfl rfl ⟨Nat.le_of_ble_eq_true rfl, Nat.le_of_ble_eq_true rfl⟩ (Nat.le_of_ble_eq_true rfl)  ?_
    refine a_if_ne 11 d_Mod_border_5 (by decide) (fun c5 => ?_) (fun c5 => absurd c5 (by decide))
    refine a_iload_n d_Mod_border_11 rfl ?_
    rcases sw_cases what 5 (by decide) with c12 | c12
    · skip
      refine a_tabOut 113 d_Mod_border_12 c12 (by decide) ?_
      refine a_ldc d_Mod_border_113 k_Mod_75 ?_
      exact a_iret d_Mod_border_115 rfl (by unfold q_border; rw [hq]; simp only; rw [swI_out c12]; try rfl) rfl rfl
    · skip
      rcases c12 with ⟨j, hj, c12⟩
      rcases (show j = 0 ∨ j = 1 ∨ j = 2 ∨ j = 3 ∨ j = 4 ∨ j = 5 by omega) with rfl | rfl | rfl | rfl | rfl | rfl
      · skip
        refine a_tabIn (off := 40) 52 d_Mod_border_12 (by rw [c12]; decide) (by rw [c12]; decide) (by rw [c12]; rfl) (by decide) ?_
        refine a_aload_n d_Mod_border_52 rfl ?_
        refine a_getf d_Mod_border_53 f_Mod_31 k32 rfl ?_
        refine a_iload_n d_Mod_border_56 rfl ?_
        refine a_iald d_Mod_border_57 k40 (nI_in (show sB (decide (j = 1)) D t < 40 by omega) (by decide)) ?_
        rw [nI_clamp (by omega), m2]
        exact a_iret d_Mod_border_58 rfl (by unfold q_border; rw [hq]; simp only; rw [c12, swI_in 0 5 (by decide) (by decide)]; try rfl) rfl rfl
      · skip
        refine a_tabIn (off := 47) 59 d_Mod_border_12 (by rw [c12]; decide) (by rw [c12]; decide) (by rw [c12]; rfl) (by decide) ?_
        refine a_aload_n d_Mod_border_59 rfl ?_
        refine a_getf d_Mod_border_60 f_Mod_7 k32 rfl ?_
        refine a_iconst (v := 4) d_Mod_border_63 (by decide) ?_
        refine a_bipush (v := 8) d_Mod_border_64 (by decide) ?_
        refine a_aload_n d_Mod_border_66 rfl ?_
        refine a_getf d_Mod_border_67 f_Mod_37 k32 rfl ?_
        refine a_iload_n d_Mod_border_70 rfl ?_
        refine a_iald d_Mod_border_71 k42 (nI_in (show sB (decide (j = 1)) D t < 40 by omega) (by decide)) ?_
        rw [nI_clamp (by omega), m4]
        refine a_imul d_Mod_border_72 ?_
        refine a_iadd d_Mod_border_73 ?_
        refine a_aload_n d_Mod_border_74 rfl ?_
        refine a_getf d_Mod_border_75 f_Mod_34 k32 rfl ?_
        refine a_iload_n d_Mod_border_78 rfl ?_
        refine a_iald d_Mod_border_79 k41 (nI_in (show sB (decide (j = 1)) D t < 40 by omega) (by decide)) ?_
        rw [nI_clamp (by omega), m3]
        refine a_iadd d_Mod_border_80 ?_
        rw [ey]
        refine a_iald d_Mod_border_81 k33 (nI_in (show 4 + t < 68 by omega) (by decide)) ?_
        rw [nI_clamp (by omega), s4 t ht]
        exact a_iret d_Mod_border_82 rfl (by unfold q_border; rw [hq]; simp only; rw [c12, swI_in 1 5 (by decide) (by decide)]; try rfl) rfl rfl
      · skip
        refine a_tabIn (off := 71) 83 d_Mod_border_12 (by rw [c12]; decide) (by rw [c12]; decide) (by rw [c12]; rfl) (by decide) ?_
        refine a_aload_n d_Mod_border_83 rfl ?_
        refine a_getf d_Mod_border_84 f_Mod_40 k32 rfl ?_
        refine a_iload_n d_Mod_border_87 rfl ?_
        refine a_lald d_Mod_border_88 k43 (nI_in (show sB (decide (j = 1)) D t < 40 by omega) (by decide)) ?_
        rw [nI_clamp (by omega), m5]
        refine a_cs0 d_Mod_border_89 m_Mod_ones t_Mod_ones l_Mod_173 (s_Mod_ones _) rfl rfl ⟨Nat.le_of_ble_eq_true rfl, Nat.le_of_ble_eq_true rfl⟩ (Nat.le_of_ble_eq_true rfl)  ?_
        exact a_iret d_Mod_border_92 rfl (by unfold q_border; rw [hq]; simp only; rw [c12, swI_in 2 5 (by decide) (by decide)]; simp only; rw [fBC_ok]) rfl rfl
      · skip
        refine a_tabIn (off := 81) 93 d_Mod_border_12 (by rw [c12]; decide) (by rw [c12]; decide) (by rw [c12]; rfl) (by decide) ?_
        refine a_aload_n d_Mod_border_93 rfl ?_
        refine a_getf d_Mod_border_94 f_Mod_34 k32 rfl ?_
        refine a_iload_n d_Mod_border_97 rfl ?_
        refine a_iald d_Mod_border_98 k41 (nI_in (show sB (decide (j = 1)) D t < 40 by omega) (by decide)) ?_
        rw [nI_clamp (by omega), m3]
        exact a_iret d_Mod_border_99 rfl (by unfold q_border; rw [hq]; simp only; rw [c12, swI_in 3 5 (by decide) (by decide)]; simp only; rw [hc]) rfl rfl
      · skip
        refine a_tabIn (off := 88) 100 d_Mod_border_12 (by rw [c12]; decide) (by rw [c12]; decide) (by rw [c12]; rfl) (by decide) ?_
        refine a_aload_n d_Mod_border_100 rfl ?_
        refine a_getf d_Mod_border_101 f_Mod_37 k32 rfl ?_
        refine a_iload_n d_Mod_border_104 rfl ?_
        refine a_iald d_Mod_border_105 k42 (nI_in (show sB (decide (j = 1)) D t < 40 by omega) (by decide)) ?_
        rw [nI_clamp (by omega), m4]
        exact a_iret d_Mod_border_106 rfl (by unfold q_border; rw [hq]; simp only; rw [c12, swI_in 4 5 (by decide) (by decide)]; simp only; rw [hr]) rfl rfl
      · skip
        refine a_tabIn (off := 95) 107 d_Mod_border_12 (by rw [c12]; decide) (by rw [c12]; decide) (by rw [c12]; rfl) (by decide) ?_
        refine a_aload_n d_Mod_border_107 rfl ?_
        refine a_iload_n d_Mod_border_108 rfl ?_
        refine a_cv0 (a := 32) d_Mod_border_109 m_Mod_bends t_Mod_bends l_Mod_177 k32 rfl rfl (s_Mod_bends (ws := fun k => wW (decide (j = 1)) (sR (decide (j = 1)) D t) t k) k32 k39 k40 k46 (by omega) (by omega) P4.2.2 m1 m2 (fun k hk => (m6 k hk).2.2)) rfl rfl ⟨Nat.le_of_ble_eq_true rfl, Nat.le_of_ble_eq_true rfl⟩ (Nat.le_of_ble_eq_true rfl)  ?_
        exact a_iret d_Mod_border_112 rfl (by unfold q_border; rw [hq]; simp only; rw [c12, swI_in 5 5 (by decide) (by decide)]; try rfl) rfl rfl
end
