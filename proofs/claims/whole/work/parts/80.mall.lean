/-! THE MODEL is asked of all borders: printed by wip/whole/t80.py -/
theorem mkb_xt {A E : Int64} {i : Nat} (hi : i < 64) (h : lb E i = true) : (A ^^^ mkb E i) ^^^ ((1 : Int64) <<< ((nI i).toInt64 &&& 63)) = A ^^^ mkb E (i + 1) := by
  refine lb_ext (fun k hk => ?_)
  rw [lb_xor, lb_xor, lb_xor, mkb_lb E i (by omega), mkb_lb E (i + 1) (by omega), lb_one_shl i hi]
  by_cases e : k = i
  · subst e
    rw [decide_eq_false (show ¬ k < k by omega), decide_eq_true (show k < k + 1 by omega), h, decide_eq_true rfl]
    cases lb A k <;> rfl
  · rw [decide_eq_false e, Bool.xor_false, show decide (k < i + 1) = decide (k < i) from decide_eq_decide.mpr (by omega)]
theorem mkb_xf {A E : Int64} {i : Nat} (hi : i < 64) (h : lb E i = false) : (A ^^^ mkb E i) ^^^ 0 = A ^^^ mkb E (i + 1) := by
  refine lb_ext (fun k hk => ?_)
  rw [lb_xor, lb_xor, lb_xor, mkb_lb E i (by omega), mkb_lb E (i + 1) (by omega), lb_0, Bool.xor_false]
  by_cases e : k = i
  · subst e
    rw [h, Bool.and_false, Bool.and_false]
  · rw [show decide (k < i + 1) = decide (k < i) from decide_eq_decide.mpr (by omega)]
theorem mkb_xs {A E : Int64} {i : Nat} (hi : i < 64) : (A ^^^ mkb E i) ^^^ ((if lb E i then (1 : Int32) else 0).toInt64 <<< ((nI i).toInt64 &&& 63)) = A ^^^ mkb E (i + 1) := by
  cases c : lb E i
  · rw [if_neg (by decide)]
    have e : (0 : Int32).toInt64 <<< ((nI i).toInt64 &&& 63) = 0 := by
      refine lb_ext (fun k hk => ?_)
      rw [show (0 : Int32).toInt64 = 0 from by decide, lb_shl i hi 0 hk, lb_0, lb_0, Bool.and_false]
    rw [e]
    exact mkb_xf hi c
  · rw [if_pos rfl, show (1 : Int32).toInt64 = 1 from by decide]
    exact mkb_xt hi c
def wrX (V : VV) (D : Int64) (j s kind : Int32) : Nat → Int64
  | 0 => 0
  | i + 1 => wrX V D j s kind i ^^^ byT V D j s kind (tOf (decide (j = 1)) D i)
theorem wrX_L (V : VV) (D : Int64) (j s kind : Int32) : ∀ i, wrX V D j s kind i ^^^ D = wrL V D j s kind i
  | 0 => by
    refine lb_ext (fun k hk => ?_)
    show lb (0 ^^^ D) k = lb D k
    rw [lb_xor, lb_0, Bool.false_xor]
  | i + 1 => by
    have ih := wrX_L V D j s kind i
    refine lb_ext (fun k hk => ?_)
    show lb ((wrX V D j s kind i ^^^ byT V D j s kind (tOf (decide (j = 1)) D i)) ^^^ D) k = lb (wrL V D j s kind i ^^^ byT V D j s kind (tOf (decide (j = 1)) D i)) k
    rw [← ih]
    simp only [lb_xor]
    generalize lb (wrX V D j s kind i) k = a
    generalize lb (byT V D j s kind (tOf (decide (j = 1)) D i)) k = b
    generalize lb D k = c
    cases a <;> cases b <;> cases c <;> rfl
theorem isPic_W {W H : Nat} {D : Int64} {j : Int32} (p : PcOk W H D j) {st : Nat → Int32} (s0 : st 0 = nI W) : (if st 0 ≤ 0 then (0 : Int32) else 1) = if W = 0 then 0 else 1 := by
  rw [s0]
  have hW := p.1
  by_cases c : W = 0
  · rw [if_pos c, if_pos (by rw [c]; decide)]
  · rw [if_neg c, if_neg (nI_nle (by omega) (by omega))]
theorem MQs.dat {W H : Nat} {D : Int64} {j s ac by_ la ra : Int32} {h : AH} (Q : MQs W H D j s ac by_ la ra h) : ∃ il mn rs tb ve oa lm st, h 32 = oMod ac by_ la ra il mn rs tb ve oa lm ∧ h 33 = aI 68 st ∧ ∀ i, i < 68 → st i = stF (W, H, D, j, s) i := by
  rcases Q with ⟨mn, rs, tb, ve, oa, lm, g32, ⟨st, of, le, vx, tu, lx, ly, g33, es, r⟩, M⟩ | ⟨tb, ve, oa, lm, g32, ⟨st, of, le, vx, tu, lx, ly, g33, es, r⟩, r2⟩
  · exact ⟨_, _, _, _, _, _, _, st, g32, g33, es⟩
  · exact ⟨_, _, _, _, _, _, _, st, g32, g33, es⟩
section
variable {V : VV} {h : AH} {n z : Nat}

set_option maxRecDepth 20000 in
set_option maxHeartbeats 4000000 in
theorem m_borders {W H : Nat} {D : Int64} {j s ac by_ la ra : Int32} (p : PcOk W H D j) (Q : MQs W H D j s ac by_ la ra h) : ∃ h1, MQs W H D j s ac by_ la ra h1 ∧ FQ h1 h ∧ AMet V i_Mod_borders 7 [.ref 32] h n z (some (.int (q_borders W D j))) h1 n z := by
  obtain ⟨il, mn, rs, tb, ve, oa, lm, st, g32, g33, es⟩ := Q.dat
  obtain ⟨s0, s1, s2, s3, s4⟩ := MB.st0 es
  have ep := isPic_W p s0
  by_cases hw : W = 0
  · rw [if_pos hw] at ep
    refine ⟨h, Q, FQ.rfl, ?_⟩
    have qn : q_borders W D j = -1000002 := if_pos hw
    rw [qn]
    refine AMet.intro (Nat.le_refl _) (Nat.le_refl _) (by decide) (Nat.le_of_ble_eq_true rfl) rfl ?_
    refine a_aload_n d_Mod_borders_0 rfl ?_
    refine a_cv0 (a := 32) d_Mod_borders_1 m_Mod_isPicture t_Mod_isPicture l_Mod_125 g32 rfl rfl (s_Mod_isPicture g32 g33) rfl rfl ⟨Nat.le_of_ble_eq_true rfl, Nat.le_of_ble_eq_true rfl⟩ (Nat.le_of_ble_eq_true rfl)  ?_
    rw [ep]
    refine a_if_ne 10 d_Mod_borders_4 (by decide) (fun c4 => absurd c4 (fun q => q rfl)) (fun c4 => ?_)
    refine a_ldc d_Mod_borders_7 k_Mod_117 ?_
    exact a_iret d_Mod_borders_9 rfl rfl rfl rfl
  · rw [if_neg hw] at ep
    obtain ⟨h1, L, F, M⟩ := m_lays (V := V) (n := n) (z := z) p Q
    refine ⟨h1, L.q, F, ?_⟩
    have qn : q_borders W D j = nI (sB (decide (j = 1)) D 64) := if_neg hw
    obtain ⟨tb', ve', oa', lm', k32, r⟩ := L
    rw [qn]
    refine AMet.intro (Nat.le_refl _) (Nat.le_refl _) (by decide) (Nat.le_of_ble_eq_true rfl) rfl ?_
    refine a_aload_n d_Mod_borders_0 rfl ?_
    refine a_cv0 (a := 32) d_Mod_borders_1 m_Mod_isPicture t_Mod_isPicture l_Mod_125 g32 rfl rfl (s_Mod_isPicture g32 g33) rfl rfl ⟨Nat.le_of_ble_eq_true rfl, Nat.le_of_ble_eq_true rfl⟩ (Nat.le_of_ble_eq_true rfl)  ?_
    rw [ep]
    refine a_if_ne 10 d_Mod_borders_4 (by decide) (fun c4 => ?_) (fun c4 => absurd c4 (by decide))
    refine a_aload_n d_Mod_borders_10 rfl ?_
    refine a_cv0 (a := 32) d_Mod_borders_11 m_Mod_lays t_Mod_lays l_Mod_166 g32 rfl rfl M rfl rfl ⟨Nat.le_of_ble_eq_true rfl, Nat.le_of_ble_eq_true rfl⟩ (Nat.le_of_ble_eq_true rfl)  ?_
    refine a_aload_n d_Mod_borders_14 rfl ?_
    refine a_getf d_Mod_borders_15 f_Mod_156 k32 rfl ?_
    exact a_iret d_Mod_borders_18 rfl rfl rfl rfl
set_option maxRecDepth 20000 in
set_option maxHeartbeats 4000000 in
theorem L_mall {W H : Nat} {D : Int64} {j s ac by_ la ra what : Int32} (p : PcOk W H D j) : ∀ (m b : Nat), b + m = sB (decide (j = 1)) D 64 → ∀ (h : AH), MLd W H D j s ac by_ la ra h → ∃ h', MLd W H D j s ac by_ la ra h' ∧ FQ h' h ∧ AM V i_Mod_all 7 n z (some (.int (alL D j s what (sB (decide (j = 1)) D 64)))) h' n z 30 [some (.ref 32), some (.int what), some (.int (alL D j s what b)), some (.int (nI b))] [] h n z := by
  intro m
  induction m with
  | zero =>
    intro b hbm h L
    have e : b = sB (decide (j = 1)) D 64 := by omega
    subst e
    refine ⟨h, L, FQ.rfl, ?_⟩
    obtain ⟨tb, ve, oa, lm, k32, r⟩ := L
    refine a_iload_n d_Mod_all_30 rfl ?_
    refine a_aload_n d_Mod_all_31 rfl ?_
    refine a_getf d_Mod_all_32 f_Mod_156 k32 rfl ?_
    refine a_icmp_ge 85 d_Mod_all_35 (by decide) (fun c35 => ?_) (fun c35 => absurd (Int32.le_refl _) c35)
    refine a_iload_n d_Mod_all_85 rfl ?_
    exact a_iret d_Mod_all_86 rfl rfl rfl rfl
  | succ m ih =>
    intro b hbm h L
    have hbl : b < sB (decide (j = 1)) D 64 := by omega
    have hb36 := sB_36 (decide (j = 1)) D 64 (Nat.le_refl _)
    obtain ⟨ht, hb, et⟩ := tOf_ok (J := (decide (j = 1))) (D := D) (j := b) hbl
    obtain ⟨t, tt⟩ : ∃ t, t = tOf (decide (j = 1)) D b := ⟨_, rfl⟩
    rw [← tt] at ht hb et
    have P4 := bd_P ht hb
    have eal : alL D j s what (b + 1) = alL D j s what b + szB D j s what t := by rw [tt]; rfl
    by_cases w0 : what = 0
    · obtain ⟨h', L', F', M⟩ := ih (b + 1) (by omega) h L
      refine ⟨h', L', F', ?_⟩
      obtain ⟨tb, ve, oa, lm, k32, B_, ⟨fr, sz, fx, fy, wn, cx, cy, go, k39, k40, k41, k42, k43, k44, k45, k46, ml⟩, TB⟩ := id L
      obtain ⟨⟨m1, m2, m3, m4, m5⟩, m6⟩ := ml t ht hb
      rw [et] at m2
      have ev : szB D j s what t = nI (sP (decide (j = 1)) D t) := if_pos w0
      rw [ev] at eal
      rw [eal] at M
      refine a_iload_n d_Mod_all_30 rfl ?_
      refine a_aload_n d_Mod_all_31 rfl ?_
      refine a_getf d_Mod_all_32 f_Mod_156 k32 rfl ?_
      refine a_icmp_ge 85 d_Mod_all_35 (by decide) (fun c35 => absurd c35 (nI_ge hbl (by omega))) (fun c35 => ?_)
      refine a_iload_n d_Mod_all_38 rfl ?_
      refine a_if_ne 54 d_Mod_all_39 (by decide) (fun c39 => absurd c39 (fun q => q w0)) (fun c39 => ?_)
      refine a_iload_n d_Mod_all_42 rfl ?_
      refine a_aload_n d_Mod_all_43 rfl ?_
      refine a_getf d_Mod_all_44 f_Mod_31 k32 rfl ?_
      refine a_iload_n d_Mod_all_47 rfl ?_
      refine a_iald d_Mod_all_48 k40 (nI_in (show b < 40 by omega) (by decide)) ?_
      rw [nI_clamp (by omega), m2]
      refine a_iadd d_Mod_all_49 ?_
      refine a_istore_n d_Mod_all_50 (Nat.le_of_ble_eq_true rfl) (Nat.le_of_ble_eq_true rfl) rfl ?_
      refine a_goto 79 d_Mod_all_51 (by decide) ?_
      refine a_iinc d_Mod_all_79 rfl (nI_1 b) (Nat.le_of_ble_eq_true rfl) rfl ?_
      refine a_goto 30 d_Mod_all_82 (by decide) ?_
      exact M
    · obtain ⟨h2, T, F2, M2⟩ := m_laysTable (V := V) (h := h) (n := n) (z := z) ht hb L
      rw [et] at M2
      obtain ⟨h', L', F', M⟩ := ih (b + 1) (by omega) h2 (MLt.d ht hb T)
      refine ⟨h', L', FQ.tr F' F2, ?_⟩
      obtain ⟨tb, ve, oa, lm, k32, -⟩ := id L
      obtain ⟨lm2, n32, ⟨st2, of2, le2, vx2, tu2, lx2, ly2, n33, es2, n47, n48, n49, n50, n51, n52⟩, ⟨fr2, sz2, fx2, fy2, wn2, cx2, cy2, go2, n39, n40, n41, n42, n43, n44, n45, n46, ml2⟩, ⟨-, -, of3, vx3, o47, o49, tof, tvx⟩⟩ := id T
      have eof : of3 = of2 := by have := o47.symm.trans n47; injection this with this; injection this with _ this; injection this
      have evx : vx3 = vx2 := by have := o49.symm.trans n49; injection this with this; injection this with _ this; injection this
      subst eof evx
      obtain ⟨⟨p1, p2, p3, p4, p5⟩, p6⟩ := ml2 t ht hb
      obtain ⟨s20, s21, s22, s23, s24⟩ := MB.st0 es2
      obtain ⟨z1, z2, z3⟩ := bd_zC ht hb
      have Sx := ((Gd_all (decide (j = 1)) D).2 t ht hb).2.1
      have Bx := bd_Bnd ht hb
      by_cases w1 : what = 1
      · have ev : szB D j s what t = nI (zN (decide (j = 1)) D t) := by unfold szB; rw [if_neg w0, if_pos w1]
        rw [ev] at eal
        rw [eal] at M
        refine a_iload_n d_Mod_all_30 rfl ?_
        refine a_aload_n d_Mod_all_31 rfl ?_
        refine a_getf d_Mod_all_32 f_Mod_156 k32 rfl ?_
        refine a_icmp_ge 85 d_Mod_all_35 (by decide) (fun c35 => absurd c35 (nI_ge hbl (by omega))) (fun c35 => ?_)
        refine a_iload_n d_Mod_all_38 rfl ?_
        refine a_if_ne 54 d_Mod_all_39 (by decide) (fun c39 => ?_) (fun c39 => absurd c39 w0)
        refine a_aload_n d_Mod_all_54 rfl ?_
        refine a_iload_n d_Mod_all_55 rfl ?_
        refine a_cv0 (a := 32) d_Mod_all_56 m_Mod_laysTable t_Mod_laysTable l_Mod_226 k32 rfl rfl M2 rfl rfl ⟨Nat.le_of_ble_eq_true rfl, Nat.le_of_ble_eq_true rfl⟩ (Nat.le_of_ble_eq_true rfl)  ?_
        refine a_iload_n d_Mod_all_59 rfl ?_
        refine a_iload_n d_Mod_all_60 rfl ?_
        refine a_iconst (v := 1) d_Mod_all_61 (by decide) ?_
        refine a_icmp_ne 72 d_Mod_all_62 (by decide) (fun c62 => absurd c62 (fun q => q w1)) (fun c62 => ?_)
        refine a_aload_n d_Mod_all_65 rfl ?_
        refine a_getf d_Mod_all_66 f_Mod_205 n32 rfl ?_
        refine a_goto 77 d_Mod_all_69 (by decide) ?_
        refine a_iadd d_Mod_all_77 ?_
        refine a_istore_n d_Mod_all_78 (Nat.le_of_ble_eq_true rfl) (Nat.le_of_ble_eq_true rfl) rfl ?_
        refine a_iinc d_Mod_all_79 rfl (nI_1 b) (Nat.le_of_ble_eq_true rfl) rfl ?_
        refine a_goto 30 d_Mod_all_82 (by decide) ?_
        exact M
      · have ev : szB D j s what t = nI (cnt1 (shC (bX (decide (j = 1)) D t) (bY (decide (j = 1)) D t) (sP (decide (j = 1)) D t) (zN (decide (j = 1)) D t) (zC (decide (j = 1)) D t) s) (zN (decide (j = 1)) D t)) := by unfold szB; rw [if_neg w0, if_neg w1]
        have MS := s_Mod_sharpMany (V := V) (h := h2) (n := n) (z := z) n32 n39 n44 n45 n49 (show (sB (decide (j = 1)) D t) < 40 by omega) p1 P4.2.2 z1 z2 (fun k hk => ⟨(p6 k hk).1, (p6 k hk).2.1⟩) tvx z3 n33 s23 Sx Bx (by omega)
        rw [et] at MS
        rw [ev] at eal
        rw [eal] at M
        refine a_iload_n d_Mod_all_30 rfl ?_
        refine a_aload_n d_Mod_all_31 rfl ?_
        refine a_getf d_Mod_all_32 f_Mod_156 k32 rfl ?_
        refine a_icmp_ge 85 d_Mod_all_35 (by decide) (fun c35 => absurd c35 (nI_ge hbl (by omega))) (fun c35 => ?_)
        refine a_iload_n d_Mod_all_38 rfl ?_
        refine a_if_ne 54 d_Mod_all_39 (by decide) (fun c39 => ?_) (fun c39 => absurd c39 w0)
        refine a_aload_n d_Mod_all_54 rfl ?_
        refine a_iload_n d_Mod_all_55 rfl ?_
        refine a_cv0 (a := 32) d_Mod_all_56 m_Mod_laysTable t_Mod_laysTable l_Mod_226 k32 rfl rfl M2 rfl rfl ⟨Nat.le_of_ble_eq_true rfl, Nat.le_of_ble_eq_true rfl⟩ (Nat.le_of_ble_eq_true rfl)  ?_
        refine a_iload_n d_Mod_all_59 rfl ?_
        refine a_iload_n d_Mod_all_60 rfl ?_
        refine a_iconst (v := 1) d_Mod_all_61 (by decide) ?_
        refine a_icmp_ne 72 d_Mod_all_62 (by decide) (fun c62 => ?_) (fun c62 => absurd c62 w1)
        refine a_aload_n d_Mod_all_72 rfl ?_
        refine a_iload_n d_Mod_all_73 rfl ?_
        refine a_cv0 (a := 32) d_Mod_all_74 m_Mod_sharpMany t_Mod_sharpMany l_Mod_229 n32 rfl rfl MS rfl rfl ⟨Nat.le_of_ble_eq_true rfl, Nat.le_of_ble_eq_true rfl⟩ (Nat.le_of_ble_eq_true rfl)  ?_
        refine a_iadd d_Mod_all_77 ?_
        refine a_istore_n d_Mod_all_78 (Nat.le_of_ble_eq_true rfl) (Nat.le_of_ble_eq_true rfl) rfl ?_
        refine a_iinc d_Mod_all_79 rfl (nI_1 b) (Nat.le_of_ble_eq_true rfl) rfl ?_
        refine a_goto 30 d_Mod_all_82 (by decide) ?_
        exact M
set_option maxRecDepth 20000 in
set_option maxHeartbeats 4000000 in
theorem m_all {W H : Nat} {D : Int64} {j s ac by_ la ra : Int32} (p : PcOk W H D j) (Q : MQs W H D j s ac by_ la ra h) (what : Int32) : ∃ h1, MQs W H D j s ac by_ la ra h1 ∧ FQ h1 h ∧ AMet V i_Mod_all 7 [.ref 32, .int what] h n z (some (.int (q_all V W H D j s what))) h1 n z := by
  obtain ⟨il, mn, rs, tb, ve, oa, lm, st, g32, g33, es⟩ := Q.dat
  obtain ⟨s0, s1, s2, s3, s4⟩ := MB.st0 es
  have ep := isPic_W p s0
  by_cases hw : W = 0
  · rw [if_pos hw] at ep
    refine ⟨h, Q, FQ.rfl, ?_⟩
    have qn : q_all V W H D j s what = -1000002 := if_pos hw
    rw [qn]
    refine AMet.intro (Nat.le_refl _) (Nat.le_refl _) (by decide) (Nat.le_of_ble_eq_true rfl) rfl ?_
    refine a_aload_n d_Mod_all_0 rfl ?_
    refine a_cv0 (a := 32) d_Mod_all_1 m_Mod_isPicture t_Mod_isPicture l_Mod_125 g32 rfl rfl (s_Mod_isPicture g32 g33) rfl rfl ⟨Nat.le_of_ble_eq_true rfl, Nat.le_of_ble_eq_true rfl⟩ (Nat.le_of_ble_eq_true rfl)  ?_
    rw [ep]
    refine a_if_ne 10 d_Mod_all_4 (by decide) (fun c4 => absurd c4 (fun q => q rfl)) (fun c4 => ?_)
    refine a_ldc d_Mod_all_7 k_Mod_117 ?_
    exact a_iret d_Mod_all_9 rfl rfl rfl rfl
  · rw [if_neg hw] at ep
    have fw : fRg what 0 2 = 0 ↔ ¬ (¬ what < 0 ∧ what ≤ 2) := by
      unfold fRg
      by_cases a : what < 0
      · rw [if_pos a]; simp [a]
      · rw [if_neg a]
        by_cases b : 2 < what
        · rw [if_pos b]; simp; intro _; exact b
        · rw [if_neg b]; simp; exact ⟨Int32.not_lt.mp a, Int32.not_lt.mp b⟩
    by_cases cw : ¬ what < 0 ∧ what ≤ 2
    · obtain ⟨h1, L, F, M⟩ := m_lays (V := V) (n := n) (z := z) p Q
      obtain ⟨h', L', F', M'⟩ := L_mall (V := V) (n := n) (z := z) (what := what) p (sB (decide (j = 1)) D 64) 0 (by omega) h1 L
      refine ⟨h', L'.q, FQ.tr F' F, ?_⟩
      have qn : q_all V W H D j s what = alL D j s what (sB (decide (j = 1)) D 64) := by unfold q_all; rw [if_neg hw, if_pos cw]
      rw [qn]
      refine AMet.intro (Nat.le_refl _) (Nat.le_refl _) (by decide) (Nat.le_of_ble_eq_true rfl) rfl ?_
      refine a_aload_n d_Mod_all_0 rfl ?_
      refine a_cv0 (a := 32) d_Mod_all_1 m_Mod_isPicture t_Mod_isPicture l_Mod_125 g32 rfl rfl (s_Mod_isPicture g32 g33) rfl rfl ⟨Nat.le_of_ble_eq_true rfl, Nat.le_of_ble_eq_true rfl⟩ (Nat.le_of_ble_eq_true rfl)  ?_
      rw [ep]
      refine a_if_ne 10 d_Mod_all_4 (by decide) (fun c4 => ?_) (fun c4 => absurd c4 (by decide))
      refine a_iload_n d_Mod_all_10 rfl ?_
      refine a_iconst (v := 0) d_Mod_all_11 (by decide) ?_
      refine a_iconst (v := 2) d_Mod_all_12 (by decide) ?_
      refine a_cs0 d_Mod_all_13 m_Mod_in t_Mod_in l_Mod_71 (s_Mod_in _ _ _) rfl rfl ⟨Nat.le_of_ble_eq_true rfl, Nat.le_of_ble_eq_true rfl⟩ (Nat.le_of_ble_eq_true rfl)  ?_
      refine a_if_ne 22 d_Mod_all_16 (by decide) (fun c16 => ?_) (fun c16 => absurd c16 (fun q => fw.mp q cw))
      refine a_aload_n d_Mod_all_22 rfl ?_
      refine a_cv0 (a := 32) d_Mod_all_23 m_Mod_lays t_Mod_lays l_Mod_166 g32 rfl rfl M rfl rfl ⟨Nat.le_of_ble_eq_true rfl, Nat.le_of_ble_eq_true rfl⟩ (Nat.le_of_ble_eq_true rfl)  ?_
      refine a_iconst (v := 0) d_Mod_all_26 (by decide) ?_
      refine a_istore_n d_Mod_all_27 (Nat.le_of_ble_eq_true rfl) (Nat.le_of_ble_eq_true rfl) rfl ?_
      refine a_iconst (v := 0) d_Mod_all_28 (by decide) ?_
      refine a_istore_n d_Mod_all_29 (Nat.le_of_ble_eq_true rfl) (Nat.le_of_ble_eq_true rfl) rfl ?_
      exact M'
    · refine ⟨h, Q, FQ.rfl, ?_⟩
      have qn : q_all V W H D j s what = -1000001 := by unfold q_all; rw [if_neg hw, if_neg cw]
      rw [qn]
      refine AMet.intro (Nat.le_refl _) (Nat.le_refl _) (by decide) (Nat.le_of_ble_eq_true rfl) rfl ?_
      refine a_aload_n d_Mod_all_0 rfl ?_
      refine a_cv0 (a := 32) d_Mod_all_1 m_Mod_isPicture t_Mod_isPicture l_Mod_125 g32 rfl rfl (s_Mod_isPicture g32 g33) rfl rfl ⟨Nat.le_of_ble_eq_true rfl, Nat.le_of_ble_eq_true rfl⟩ (Nat.le_of_ble_eq_true rfl)  ?_
      rw [ep]
      refine a_if_ne 10 d_Mod_all_4 (by decide) (fun c4 => ?_) (fun c4 => absurd c4 (by decide))
      refine a_iload_n d_Mod_all_10 rfl ?_
      refine a_iconst (v := 0) d_Mod_all_11 (by decide) ?_
      refine a_iconst (v := 2) d_Mod_all_12 (by decide) ?_
      refine a_cs0 d_Mod_all_13 m_Mod_in t_Mod_in l_Mod_71 (s_Mod_in _ _ _) rfl rfl ⟨Nat.le_of_ble_eq_true rfl, Nat.le_of_ble_eq_true rfl⟩ (Nat.le_of_ble_eq_true rfl)  ?_
      refine a_if_ne 22 d_Mod_all_16 (by decide) (fun c16 => absurd c16 (fun q => q (fw.mpr cw))) (fun c16 => ?_)
      refine a_ldc d_Mod_all_19 k_Mod_75 ?_
      exact a_iret d_Mod_all_21 rfl rfl rfl rfl
set_option maxRecDepth 20000 in
set_option maxHeartbeats 4000000 in
theorem L_wrI0 {W H : Nat} {D : Int64} {j s : Int32} {t : Nat} (p : PcOk W H D j) (ht : t < 64) (hb : isB (decide (j = 1)) D t = true) {a1 a2 a3 a4 a5 a6 : Int32} {a7 : Int64} {a8 a9 a10 : Int32} {N : Nat} {lx ly : Nat → Int32} {fx fy : Nat → Int} (n32 : h 32 = oMod a1 a2 a3 a4 a5 a6 a7 a8 a9 a10 (nI N)) (n51 : h 51 = aI 600 lx) (n52 : h 52 = aI 600 ly) (LL : LnP V (bX (decide (j = 1)) D t) (bY (decide (j = 1)) D t) (sP (decide (j = 1)) D t) (zN (decide (j = 1)) D t) (zC (decide (j = 1)) D t) 0 s (zN (decide (j = 1)) D t) N lx ly fx fy) {st : Nat → Int32} (n33 : h 33 = aI 68 st) (s0 : st 0 = nI W) (s1 : st 1 = nI H) (A : Int64) (b4 : Int32) : ∀ (m i : Nat), i + m = 64 → Rc V i_Mod_wrong 7 50 [some (.ref 32), some (.int 0), some (.long (A ^^^ mkb (byC V (bX (decide (j = 1)) D t) (bY (decide (j = 1)) D t) (sP (decide (j = 1)) D t) (zN (decide (j = 1)) D t) (zC (decide (j = 1)) D t) 0 s (zN (decide (j = 1)) D t)) i)), none, some (.int b4), some (.int (nI i))] [] h n z 108 [some (.ref 32), some (.int 0), some (.long (A ^^^ mkb (byC V (bX (decide (j = 1)) D t) (bY (decide (j = 1)) D t) (sP (decide (j = 1)) D t) (zN (decide (j = 1)) D t) (zC (decide (j = 1)) D t) 0 s (zN (decide (j = 1)) D t)) 64)), none, some (.int b4), some (.int (nI 64))] [] h n z := by
  have hW := p.1
  have hH := p.2.1
  intro m
  induction m with
  | zero =>
    intro i hi mc ms Qf n0 z0 q1 q2 K
    have e : i = 64 := by omega
    subst e
    refine a_iload d_Mod_wrong_50 rfl ?_
    refine a_bipush (v := 64) d_Mod_wrong_52 (by decide) ?_
    refine a_icmp_ge 108 d_Mod_wrong_54 (by decide) (fun c54 => ?_) (fun c54 => absurd (Int32.le_refl _) c54)
    exact K
  | succ m ih =>
    intro i hi mc ms Qf n0 z0 q1 q2 K
    have r8 : nI i - nI i / 8 * 8 = nI (i % 8) := pk_rem (d := 8) (by omega) (by omega) (by omega)
    have d8 : nI i / 8 = nI (i / 8) := pk_div (d := 8) (by omega) (by omega) (by omega)
    have hdot := mDot_i hW hH s0 s1 (show i < 64 by omega)
    have MF := s_isF0 (V := V) (n := n) (z := z) p ht hb n32 n51 n52 LL (show i < 64 by omega)
    by_cases hd : mDot (st 0) (st 1) (nI (i % 8)) (nI (i / 8)) = 0
    · have ho := hdot.mp hd
      have e1 := by_out (V := V) ht hb p.2.2.2 (kind := 0) (sh := s) (by decide) (x := i % 8) (y := i / 8) (by omega) (by omega) ho
      rw [show 8 * (i / 8) + i % 8 = i by omega] at e1
      refine a_iload d_Mod_wrong_50 rfl ?_
      refine a_bipush (v := 64) d_Mod_wrong_52 (by decide) ?_
      refine a_icmp_ge 108 d_Mod_wrong_54 (by decide) (fun c54 => absurd c54 (nI_ge (b := 64) (show i < 64 by omega) (by omega))) (fun c54 => ?_)
      refine a_lload_n d_Mod_wrong_57 rfl ?_
      refine a_aload_n d_Mod_wrong_58 rfl ?_
      refine a_iload d_Mod_wrong_59 rfl ?_
      refine a_bipush (v := 8) d_Mod_wrong_61 (by decide) ?_
      refine a_irem d_Mod_wrong_63 (by decide) ?_
      rw [r8]
      refine a_iload d_Mod_wrong_64 rfl ?_
      refine a_bipush (v := 8) d_Mod_wrong_66 (by decide) ?_
      refine a_idiv d_Mod_wrong_68 (by decide) ?_
      rw [d8]
      refine a_cv0 (a := 32) d_Mod_wrong_69 m_Mod_isDot t_Mod_isDot l_Mod_118 n32 rfl rfl (s_Mod_isDot n32 n33 _ _) rfl rfl ⟨Nat.le_of_ble_eq_true rfl, Nat.le_of_ble_eq_true rfl⟩ (Nat.le_of_ble_eq_true rfl)  ?_
      refine a_if_eq 99 d_Mod_wrong_72 (by decide) (fun c72 => ?_) (fun c72 => absurd hd c72)
      refine a_lconst (v := 0) d_Mod_wrong_99 rfl ?_
      refine a_lxor d_Mod_wrong_100 ?_
      refine a_lstore_n d_Mod_wrong_101 (Nat.le_of_ble_eq_true rfl) (Nat.le_of_ble_eq_true rfl) rfl ?_
      refine a_iinc d_Mod_wrong_102 rfl (nI_1 i) (Nat.le_of_ble_eq_true rfl) rfl ?_
      refine a_goto 50 d_Mod_wrong_105 (by decide) ?_
      rw [mkb_xf (by omega) e1]
      exact ih (i + 1) (by omega) mc ms Qf n0 z0 q1 q2 K
    · cases e1 : lb (byC V (bX (decide (j = 1)) D t) (bY (decide (j = 1)) D t) (sP (decide (j = 1)) D t) (zN (decide (j = 1)) D t) (zC (decide (j = 1)) D t) 0 s (zN (decide (j = 1)) D t)) i with
      | false =>
        rw [e1, if_neg (by decide)] at MF
        refine a_iload d_Mod_wrong_50 rfl ?_
        refine a_bipush (v := 64) d_Mod_wrong_52 (by decide) ?_
        refine a_icmp_ge 108 d_Mod_wrong_54 (by decide) (fun c54 => absurd c54 (nI_ge (b := 64) (show i < 64 by omega) (by omega))) (fun c54 => ?_)
        refine a_lload_n d_Mod_wrong_57 rfl ?_
        refine a_aload_n d_Mod_wrong_58 rfl ?_
        refine a_iload d_Mod_wrong_59 rfl ?_
        refine a_bipush (v := 8) d_Mod_wrong_61 (by decide) ?_
        refine a_irem d_Mod_wrong_63 (by decide) ?_
        rw [r8]
        refine a_iload d_Mod_wrong_64 rfl ?_
        refine a_bipush (v := 8) d_Mod_wrong_66 (by decide) ?_
        refine a_idiv d_Mod_wrong_68 (by decide) ?_
        rw [d8]
        refine a_cv0 (a := 32) d_Mod_wrong_69 m_Mod_isDot t_Mod_isDot l_Mod_118 n32 rfl rfl (s_Mod_isDot n32 n33 _ _) rfl rfl ⟨Nat.le_of_ble_eq_true rfl, Nat.le_of_ble_eq_true rfl⟩ (Nat.le_of_ble_eq_true rfl)  ?_
        refine a_if_eq 99 d_Mod_wrong_72 (by decide) (fun c72 => absurd c72 hd) (fun c72 => ?_)
        refine a_aload_n d_Mod_wrong_75 rfl ?_
        refine a_iload d_Mod_wrong_76 rfl ?_
        refine a_bipush (v := 8) d_Mod_wrong_78 (by decide) ?_
        refine a_irem d_Mod_wrong_80 (by decide) ?_
        rw [r8]
        refine a_iload d_Mod_wrong_81 rfl ?_
        refine a_bipush (v := 8) d_Mod_wrong_83 (by decide) ?_
        refine a_idiv d_Mod_wrong_85 (by decide) ?_
        rw [d8]
        refine a_cv0 (a := 32) d_Mod_wrong_86 m_Mod_isFilled t_Mod_isFilled l_Mod_250 n32 rfl rfl MF rfl rfl ⟨Nat.le_of_ble_eq_true rfl, Nat.le_of_ble_eq_true rfl⟩ (Nat.le_of_ble_eq_true rfl)  ?_
        refine a_if_eq 99 d_Mod_wrong_89 (by decide) (fun c89 => ?_) (fun c89 => absurd rfl c89)
        refine a_lconst (v := 0) d_Mod_wrong_99 rfl ?_
        refine a_lxor d_Mod_wrong_100 ?_
        refine a_lstore_n d_Mod_wrong_101 (Nat.le_of_ble_eq_true rfl) (Nat.le_of_ble_eq_true rfl) rfl ?_
        refine a_iinc d_Mod_wrong_102 rfl (nI_1 i) (Nat.le_of_ble_eq_true rfl) rfl ?_
        refine a_goto 50 d_Mod_wrong_105 (by decide) ?_
        rw [mkb_xf (by omega) e1]
        exact ih (i + 1) (by omega) mc ms Qf n0 z0 q1 q2 K
      | true =>
        rw [e1, if_pos rfl] at MF
        refine a_iload d_Mod_wrong_50 rfl ?_
        refine a_bipush (v := 64) d_Mod_wrong_52 (by decide) ?_
        refine a_icmp_ge 108 d_Mod_wrong_54 (by decide) (fun c54 => absurd c54 (nI_ge (b := 64) (show i < 64 by omega) (by omega))) (fun c54 => ?_)
        refine a_lload_n d_Mod_wrong_57 rfl ?_
        refine a_aload_n d_Mod_wrong_58 rfl ?_
        refine a_iload d_Mod_wrong_59 rfl ?_
        refine a_bipush (v := 8) d_Mod_wrong_61 (by decide) ?_
        refine a_irem d_Mod_wrong_63 (by decide) ?_
        rw [r8]
        refine a_iload d_Mod_wrong_64 rfl ?_
        refine a_bipush (v := 8) d_Mod_wrong_66 (by decide) ?_
        refine a_idiv d_Mod_wrong_68 (by decide) ?_
        rw [d8]
        refine a_cv0 (a := 32) d_Mod_wrong_69 m_Mod_isDot t_Mod_isDot l_Mod_118 n32 rfl rfl (s_Mod_isDot n32 n33 _ _) rfl rfl ⟨Nat.le_of_ble_eq_true rfl, Nat.le_of_ble_eq_true rfl⟩ (Nat.le_of_ble_eq_true rfl)  ?_
        refine a_if_eq 99 d_Mod_wrong_72 (by decide) (fun c72 => absurd c72 hd) (fun c72 => ?_)
        refine a_aload_n d_Mod_wrong_75 rfl ?_
        refine a_iload d_Mod_wrong_76 rfl ?_
        refine a_bipush (v := 8) d_Mod_wrong_78 (by decide) ?_
        refine a_irem d_Mod_wrong_80 (by decide) ?_
        rw [r8]
        refine a_iload d_Mod_wrong_81 rfl ?_
        refine a_bipush (v := 8) d_Mod_wrong_83 (by decide) ?_
        refine a_idiv d_Mod_wrong_85 (by decide) ?_
        rw [d8]
        refine a_cv0 (a := 32) d_Mod_wrong_86 m_Mod_isFilled t_Mod_isFilled l_Mod_250 n32 rfl rfl MF rfl rfl ⟨Nat.le_of_ble_eq_true rfl, Nat.le_of_ble_eq_true rfl⟩ (Nat.le_of_ble_eq_true rfl)  ?_
        refine a_if_eq 99 d_Mod_wrong_89 (by decide) (fun c89 => absurd c89 (by decide)) (fun c89 => ?_)
        refine a_lconst (v := 1) d_Mod_wrong_92 rfl ?_
        refine a_iload d_Mod_wrong_93 rfl ?_
        refine a_lshl d_Mod_wrong_95 ?_
        refine a_goto 100 d_Mod_wrong_96 (by decide) ?_
        refine a_lxor d_Mod_wrong_100 ?_
        refine a_lstore_n d_Mod_wrong_101 (Nat.le_of_ble_eq_true rfl) (Nat.le_of_ble_eq_true rfl) rfl ?_
        refine a_iinc d_Mod_wrong_102 rfl (nI_1 i) (Nat.le_of_ble_eq_true rfl) rfl ?_
        refine a_goto 50 d_Mod_wrong_105 (by decide) ?_
        rw [mkb_xt (by omega) e1]
        exact ih (i + 1) (by omega) mc ms Qf n0 z0 q1 q2 K
set_option maxRecDepth 20000 in
set_option maxHeartbeats 4000000 in
theorem L_wrB0 {W H : Nat} {D : Int64} {j s ac by_ la ra : Int32} (p : PcOk W H D j) : ∀ (m b : Nat), b + m = sB (decide (j = 1)) D 64 → ∀ (h : AH), MLd W H D j s ac by_ la ra h → ∃ h', MLd W H D j s ac by_ la ra h' ∧ FQ h' h ∧ Rc V i_Mod_wrong 7 31 [some (.ref 32), some (.int 0), some (.long (wrX V D j s 0 b)), none, some (.int (nI b)), none] [] h n z 114 [some (.ref 32), some (.int 0), some (.long (wrX V D j s 0 (sB (decide (j = 1)) D 64))), none, some (.int (nI (sB (decide (j = 1)) D 64))), none] [] h' n z := by
  intro m
  induction m with
  | zero =>
    intro b hbm h L
    have e : b = sB (decide (j = 1)) D 64 := by omega
    subst e
    refine ⟨h, L, FQ.rfl, fun mc ms Qf n0 z0 q1 q2 K => ?_⟩
    obtain ⟨tb, ve, oa, lm, k32, r⟩ := L
    refine a_iload d_Mod_wrong_31 rfl ?_
    refine a_aload_n d_Mod_wrong_33 rfl ?_
    refine a_getf d_Mod_wrong_34 f_Mod_156 k32 rfl ?_
    refine a_icmp_ge 114 d_Mod_wrong_37 (by decide) (fun c37 => ?_) (fun c37 => absurd (Int32.le_refl _) c37)
    exact K
  | succ m ih =>
    intro b hbm h L
    have hbl : b < sB (decide (j = 1)) D 64 := by omega
    have hb36 := sB_36 (decide (j = 1)) D 64 (Nat.le_refl _)
    obtain ⟨ht, hb, et⟩ := tOf_ok (J := (decide (j = 1))) (D := D) (j := b) hbl
    obtain ⟨t, tt⟩ : ∃ t, t = tOf (decide (j = 1)) D b := ⟨_, rfl⟩
    rw [← tt] at ht hb et
    have P4 := bd_P ht hb
    obtain ⟨h2, N, lx, ly, fx, fy, T, ⟨a1, a2, a3, a4, a5, a6, a7, a8, a9, a10, n32⟩, n51, n52, LL, F2, M2⟩ := m_laysLine0 (V := V) (h := h) (n := n) (z := z) ht hb L
    rw [et] at M2
    obtain ⟨h', L', F', R⟩ := ih (b + 1) (by omega) h2 (MLt.d ht hb T)
    refine ⟨h', L', FQ.tr F' F2, fun mc ms Qf n0 z0 q1 q2 K => ?_⟩
    obtain ⟨tb, ve, oa, lm, k32, -⟩ := id L
    obtain ⟨lm2, -, ⟨st2, of2, le2, vx2, tu2, lx2, ly2, n33, es2, -⟩, -, -⟩ := id T
    obtain ⟨s20, s21, s22, s23, s24⟩ := MB.st0 es2
    have ew : wrX V D j s 0 (b + 1) = wrX V D j s 0 b ^^^ (byC V (bX (decide (j = 1)) D t) (bY (decide (j = 1)) D t) (sP (decide (j = 1)) D t) (zN (decide (j = 1)) D t) (zC (decide (j = 1)) D t) 0 s (zN (decide (j = 1)) D t)) := by rw [tt]; rfl
    have e0 : wrX V D j s 0 b = wrX V D j s 0 b ^^^ mkb (byC V (bX (decide (j = 1)) D t) (bY (decide (j = 1)) D t) (sP (decide (j = 1)) D t) (zN (decide (j = 1)) D t) (zC (decide (j = 1)) D t) 0 s (zN (decide (j = 1)) D t)) 0 := by
      refine lb_ext (fun k hk => ?_)
      rw [lb_xor, show mkb (byC V (bX (decide (j = 1)) D t) (bY (decide (j = 1)) D t) (sP (decide (j = 1)) D t) (zN (decide (j = 1)) D t) (zC (decide (j = 1)) D t) 0 s (zN (decide (j = 1)) D t)) 0 = 0 from rfl, lb_0, Bool.xor_false]
    refine a_iload d_Mod_wrong_31 rfl ?_
    refine a_aload_n d_Mod_wrong_33 rfl ?_
    refine a_getf d_Mod_wrong_34 f_Mod_156 k32 rfl ?_
    refine a_icmp_ge 114 d_Mod_wrong_37 (by decide) (fun c37 => absurd c37 (nI_ge hbl (by omega))) (fun c37 => ?_)
    refine a_aload_n d_Mod_wrong_40 rfl ?_
    refine a_iload d_Mod_wrong_41 rfl ?_
    refine a_iload_n d_Mod_wrong_43 rfl ?_
    refine a_cv0 (a := 32) d_Mod_wrong_44 m_Mod_laysLine t_Mod_laysLine l_Mod_247 k32 rfl rfl M2 rfl rfl ⟨Nat.le_of_ble_eq_true rfl, Nat.le_of_ble_eq_true rfl⟩ (Nat.le_of_ble_eq_true rfl)  ?_
    refine a_iconst (v := 0) d_Mod_wrong_47 (by decide) ?_
    refine a_istore d_Mod_wrong_48 (Nat.le_of_ble_eq_true rfl) (Nat.le_of_ble_eq_true rfl) rfl ?_
    rw [e0]
    refine L_wrI0 p ht hb n32 n51 n52 LL n33 s20 s21 (wrX V D j s 0 b) (nI b) 64 0 (by omega) mc ms Qf n0 z0 q1 q2 ?_
    rw [mkb_64, ← ew]
    refine a_iinc d_Mod_wrong_108 rfl (nI_1 b) (Nat.le_of_ble_eq_true rfl) rfl ?_
    refine a_goto 31 d_Mod_wrong_111 (by decide) ?_
    refine a_drop 5 ?_
    exact R mc ms Qf n0 z0 q1 q2 K
set_option maxRecDepth 20000 in
set_option maxHeartbeats 4000000 in
theorem L_wrI1 {W H : Nat} {D : Int64} {j s : Int32} {t : Nat} (p : PcOk W H D j) (ht : t < 64) (hb : isB (decide (j = 1)) D t = true) {a1 a2 a3 a4 a5 a6 : Int32} {a7 : Int64} {a8 a9 a10 : Int32} {N : Nat} {lx ly : Nat → Int32} {fx fy : Nat → Int} (n32 : h 32 = oMod a1 a2 a3 a4 a5 a6 a7 a8 a9 a10 (nI N)) (n51 : h 51 = aI 600 lx) (n52 : h 52 = aI 600 ly) (LL : LnP V (bX (decide (j = 1)) D t) (bY (decide (j = 1)) D t) (sP (decide (j = 1)) D t) (zN (decide (j = 1)) D t) (zC (decide (j = 1)) D t) 1 s (zN (decide (j = 1)) D t) N lx ly fx fy) {st : Nat → Int32} (n33 : h 33 = aI 68 st) (s0 : st 0 = nI W) (s1 : st 1 = nI H) (A : Int64) (b4 : Int32) : ∀ (m i : Nat), i + m = 64 → Rc V i_Mod_wrong 7 50 [some (.ref 32), some (.int 1), some (.long (A ^^^ mkb (byC V (bX (decide (j = 1)) D t) (bY (decide (j = 1)) D t) (sP (decide (j = 1)) D t) (zN (decide (j = 1)) D t) (zC (decide (j = 1)) D t) 1 s (zN (decide (j = 1)) D t)) i)), none, some (.int b4), some (.int (nI i))] [] h n z 108 [some (.ref 32), some (.int 1), some (.long (A ^^^ mkb (byC V (bX (decide (j = 1)) D t) (bY (decide (j = 1)) D t) (sP (decide (j = 1)) D t) (zN (decide (j = 1)) D t) (zC (decide (j = 1)) D t) 1 s (zN (decide (j = 1)) D t)) 64)), none, some (.int b4), some (.int (nI 64))] [] h n z := by
  have hW := p.1
  have hH := p.2.1
  intro m
  induction m with
  | zero =>
    intro i hi mc ms Qf n0 z0 q1 q2 K
    have e : i = 64 := by omega
    subst e
    refine a_iload d_Mod_wrong_50 rfl ?_
    refine a_bipush (v := 64) d_Mod_wrong_52 (by decide) ?_
    refine a_icmp_ge 108 d_Mod_wrong_54 (by decide) (fun c54 => ?_) (fun c54 => absurd (Int32.le_refl _) c54)
    exact K
  | succ m ih =>
    intro i hi mc ms Qf n0 z0 q1 q2 K
    have r8 : nI i - nI i / 8 * 8 = nI (i % 8) := pk_rem (d := 8) (by omega) (by omega) (by omega)
    have d8 : nI i / 8 = nI (i / 8) := pk_div (d := 8) (by omega) (by omega) (by omega)
    have hdot := mDot_i hW hH s0 s1 (show i < 64 by omega)
    have MF := s_isF1 (V := V) (n := n) (z := z) p ht hb n32 n51 n52 LL (show i < 64 by omega)
    by_cases hd : mDot (st 0) (st 1) (nI (i % 8)) (nI (i / 8)) = 0
    · have ho := hdot.mp hd
      have e1 := by_out (V := V) ht hb p.2.2.2 (kind := 1) (sh := s) (by decide) (x := i % 8) (y := i / 8) (by omega) (by omega) ho
      rw [show 8 * (i / 8) + i % 8 = i by omega] at e1
      refine a_iload d_Mod_wrong_50 rfl ?_
      refine a_bipush (v := 64) d_Mod_wrong_52 (by decide) ?_
      refine a_icmp_ge 108 d_Mod_wrong_54 (by decide) (fun c54 => absurd c54 (nI_ge (b := 64) (show i < 64 by omega) (by omega))) (fun c54 => ?_)
      refine a_lload_n d_Mod_wrong_57 rfl ?_
      refine a_aload_n d_Mod_wrong_58 rfl ?_
      refine a_iload d_Mod_wrong_59 rfl ?_
      refine a_bipush (v := 8) d_Mod_wrong_61 (by decide) ?_
      refine a_irem d_Mod_wrong_63 (by decide) ?_
      rw [r8]
      refine a_iload d_Mod_wrong_64 rfl ?_
      refine a_bipush (v := 8) d_Mod_wrong_66 (by decide) ?_
      refine a_idiv d_Mod_wrong_68 (by decide) ?_
      rw [d8]
      refine a_cv0 (a := 32) d_Mod_wrong_69 m_Mod_isDot t_Mod_isDot l_Mod_118 n32 rfl rfl (s_Mod_isDot n32 n33 _ _) rfl rfl ⟨Nat.le_of_ble_eq_true rfl, Nat.le_of_ble_eq_true rfl⟩ (Nat.le_of_ble_eq_true rfl)  ?_
      refine a_if_eq 99 d_Mod_wrong_72 (by decide) (fun c72 => ?_) (fun c72 => absurd hd c72)
      refine a_lconst (v := 0) d_Mod_wrong_99 rfl ?_
      refine a_lxor d_Mod_wrong_100 ?_
      refine a_lstore_n d_Mod_wrong_101 (Nat.le_of_ble_eq_true rfl) (Nat.le_of_ble_eq_true rfl) rfl ?_
      refine a_iinc d_Mod_wrong_102 rfl (nI_1 i) (Nat.le_of_ble_eq_true rfl) rfl ?_
      refine a_goto 50 d_Mod_wrong_105 (by decide) ?_
      rw [mkb_xf (by omega) e1]
      exact ih (i + 1) (by omega) mc ms Qf n0 z0 q1 q2 K
    · cases e1 : lb (byC V (bX (decide (j = 1)) D t) (bY (decide (j = 1)) D t) (sP (decide (j = 1)) D t) (zN (decide (j = 1)) D t) (zC (decide (j = 1)) D t) 1 s (zN (decide (j = 1)) D t)) i with
      | false =>
        rw [e1, if_neg (by decide)] at MF
        refine a_iload d_Mod_wrong_50 rfl ?_
        refine a_bipush (v := 64) d_Mod_wrong_52 (by decide) ?_
        refine a_icmp_ge 108 d_Mod_wrong_54 (by decide) (fun c54 => absurd c54 (nI_ge (b := 64) (show i < 64 by omega) (by omega))) (fun c54 => ?_)
        refine a_lload_n d_Mod_wrong_57 rfl ?_
        refine a_aload_n d_Mod_wrong_58 rfl ?_
        refine a_iload d_Mod_wrong_59 rfl ?_
        refine a_bipush (v := 8) d_Mod_wrong_61 (by decide) ?_
        refine a_irem d_Mod_wrong_63 (by decide) ?_
        rw [r8]
        refine a_iload d_Mod_wrong_64 rfl ?_
        refine a_bipush (v := 8) d_Mod_wrong_66 (by decide) ?_
        refine a_idiv d_Mod_wrong_68 (by decide) ?_
        rw [d8]
        refine a_cv0 (a := 32) d_Mod_wrong_69 m_Mod_isDot t_Mod_isDot l_Mod_118 n32 rfl rfl (s_Mod_isDot n32 n33 _ _) rfl rfl ⟨Nat.le_of_ble_eq_true rfl, Nat.le_of_ble_eq_true rfl⟩ (Nat.le_of_ble_eq_true rfl)  ?_
        refine a_if_eq 99 d_Mod_wrong_72 (by decide) (fun c72 => absurd c72 hd) (fun c72 => ?_)
        refine a_aload_n d_Mod_wrong_75 rfl ?_
        refine a_iload d_Mod_wrong_76 rfl ?_
        refine a_bipush (v := 8) d_Mod_wrong_78 (by decide) ?_
        refine a_irem d_Mod_wrong_80 (by decide) ?_
        rw [r8]
        refine a_iload d_Mod_wrong_81 rfl ?_
        refine a_bipush (v := 8) d_Mod_wrong_83 (by decide) ?_
        refine a_idiv d_Mod_wrong_85 (by decide) ?_
        rw [d8]
        refine a_cv0 (a := 32) d_Mod_wrong_86 m_Mod_isFilled t_Mod_isFilled l_Mod_250 n32 rfl rfl MF rfl rfl ⟨Nat.le_of_ble_eq_true rfl, Nat.le_of_ble_eq_true rfl⟩ (Nat.le_of_ble_eq_true rfl)  ?_
        refine a_if_eq 99 d_Mod_wrong_89 (by decide) (fun c89 => ?_) (fun c89 => absurd rfl c89)
        refine a_lconst (v := 0) d_Mod_wrong_99 rfl ?_
        refine a_lxor d_Mod_wrong_100 ?_
        refine a_lstore_n d_Mod_wrong_101 (Nat.le_of_ble_eq_true rfl) (Nat.le_of_ble_eq_true rfl) rfl ?_
        refine a_iinc d_Mod_wrong_102 rfl (nI_1 i) (Nat.le_of_ble_eq_true rfl) rfl ?_
        refine a_goto 50 d_Mod_wrong_105 (by decide) ?_
        rw [mkb_xf (by omega) e1]
        exact ih (i + 1) (by omega) mc ms Qf n0 z0 q1 q2 K
      | true =>
        rw [e1, if_pos rfl] at MF
        refine a_iload d_Mod_wrong_50 rfl ?_
        refine a_bipush (v := 64) d_Mod_wrong_52 (by decide) ?_
        refine a_icmp_ge 108 d_Mod_wrong_54 (by decide) (fun c54 => absurd c54 (nI_ge (b := 64) (show i < 64 by omega) (by omega))) (fun c54 => ?_)
        refine a_lload_n d_Mod_wrong_57 rfl ?_
        refine a_aload_n d_Mod_wrong_58 rfl ?_
        refine a_iload d_Mod_wrong_59 rfl ?_
        refine a_bipush (v := 8) d_Mod_wrong_61 (by decide) ?_
        refine a_irem d_Mod_wrong_63 (by decide) ?_
        rw [r8]
        refine a_iload d_Mod_wrong_64 rfl ?_
        refine a_bipush (v := 8) d_Mod_wrong_66 (by decide) ?_
        refine a_idiv d_Mod_wrong_68 (by decide) ?_
        rw [d8]
        refine a_cv0 (a := 32) d_Mod_wrong_69 m_Mod_isDot t_Mod_isDot l_Mod_118 n32 rfl rfl (s_Mod_isDot n32 n33 _ _) rfl rfl ⟨Nat.le_of_ble_eq_true rfl, Nat.le_of_ble_eq_true rfl⟩ (Nat.le_of_ble_eq_true rfl)  ?_
        refine a_if_eq 99 d_Mod_wrong_72 (by decide) (fun c72 => absurd c72 hd) (fun c72 => ?_)
        refine a_aload_n d_Mod_wrong_75 rfl ?_
        refine a_iload d_Mod_wrong_76 rfl ?_
        refine a_bipush (v := 8) d_Mod_wrong_78 (by decide) ?_
        refine a_irem d_Mod_wrong_80 (by decide) ?_
        rw [r8]
        refine a_iload d_Mod_wrong_81 rfl ?_
        refine a_bipush (v := 8) d_Mod_wrong_83 (by decide) ?_
        refine a_idiv d_Mod_wrong_85 (by decide) ?_
        rw [d8]
        refine a_cv0 (a := 32) d_Mod_wrong_86 m_Mod_isFilled t_Mod_isFilled l_Mod_250 n32 rfl rfl MF rfl rfl ⟨Nat.le_of_ble_eq_true rfl, Nat.le_of_ble_eq_true rfl⟩ (Nat.le_of_ble_eq_true rfl)  ?_
        refine a_if_eq 99 d_Mod_wrong_89 (by decide) (fun c89 => absurd c89 (by decide)) (fun c89 => ?_)
        refine a_lconst (v := 1) d_Mod_wrong_92 rfl ?_
        refine a_iload d_Mod_wrong_93 rfl ?_
        refine a_lshl d_Mod_wrong_95 ?_
        refine a_goto 100 d_Mod_wrong_96 (by decide) ?_
        refine a_lxor d_Mod_wrong_100 ?_
        refine a_lstore_n d_Mod_wrong_101 (Nat.le_of_ble_eq_true rfl) (Nat.le_of_ble_eq_true rfl) rfl ?_
        refine a_iinc d_Mod_wrong_102 rfl (nI_1 i) (Nat.le_of_ble_eq_true rfl) rfl ?_
        refine a_goto 50 d_Mod_wrong_105 (by decide) ?_
        rw [mkb_xt (by omega) e1]
        exact ih (i + 1) (by omega) mc ms Qf n0 z0 q1 q2 K
set_option maxRecDepth 20000 in
set_option maxHeartbeats 4000000 in
theorem L_wrB1 {W H : Nat} {D : Int64} {j s ac by_ la ra : Int32} (p : PcOk W H D j) : ∀ (m b : Nat), b + m = sB (decide (j = 1)) D 64 → ∀ (h : AH), MLd W H D j s ac by_ la ra h → ∃ h', MLd W H D j s ac by_ la ra h' ∧ FQ h' h ∧ Rc V i_Mod_wrong 7 31 [some (.ref 32), some (.int 1), some (.long (wrX V D j s 1 b)), none, some (.int (nI b)), none] [] h n z 114 [some (.ref 32), some (.int 1), some (.long (wrX V D j s 1 (sB (decide (j = 1)) D 64))), none, some (.int (nI (sB (decide (j = 1)) D 64))), none] [] h' n z := by
  intro m
  induction m with
  | zero =>
    intro b hbm h L
    have e : b = sB (decide (j = 1)) D 64 := by omega
    subst e
    refine ⟨h, L, FQ.rfl, fun mc ms Qf n0 z0 q1 q2 K => ?_⟩
    obtain ⟨tb, ve, oa, lm, k32, r⟩ := L
    refine a_iload d_Mod_wrong_31 rfl ?_
    refine a_aload_n d_Mod_wrong_33 rfl ?_
    refine a_getf d_Mod_wrong_34 f_Mod_156 k32 rfl ?_
    refine a_icmp_ge 114 d_Mod_wrong_37 (by decide) (fun c37 => ?_) (fun c37 => absurd (Int32.le_refl _) c37)
    exact K
  | succ m ih =>
    intro b hbm h L
    have hbl : b < sB (decide (j = 1)) D 64 := by omega
    have hb36 := sB_36 (decide (j = 1)) D 64 (Nat.le_refl _)
    obtain ⟨ht, hb, et⟩ := tOf_ok (J := (decide (j = 1))) (D := D) (j := b) hbl
    obtain ⟨t, tt⟩ : ∃ t, t = tOf (decide (j = 1)) D b := ⟨_, rfl⟩
    rw [← tt] at ht hb et
    have P4 := bd_P ht hb
    obtain ⟨h2, N, lx, ly, fx, fy, T, ⟨a1, a2, a3, a4, a5, a6, a7, a8, a9, a10, n32⟩, n51, n52, LL, F2, M2⟩ := m_laysLine1 (V := V) (h := h) (n := n) (z := z) ht hb L
    rw [et] at M2
    obtain ⟨h', L', F', R⟩ := ih (b + 1) (by omega) h2 (MLt.d ht hb T)
    refine ⟨h', L', FQ.tr F' F2, fun mc ms Qf n0 z0 q1 q2 K => ?_⟩
    obtain ⟨tb, ve, oa, lm, k32, -⟩ := id L
    obtain ⟨lm2, -, ⟨st2, of2, le2, vx2, tu2, lx2, ly2, n33, es2, -⟩, -, -⟩ := id T
    obtain ⟨s20, s21, s22, s23, s24⟩ := MB.st0 es2
    have ew : wrX V D j s 1 (b + 1) = wrX V D j s 1 b ^^^ (byC V (bX (decide (j = 1)) D t) (bY (decide (j = 1)) D t) (sP (decide (j = 1)) D t) (zN (decide (j = 1)) D t) (zC (decide (j = 1)) D t) 1 s (zN (decide (j = 1)) D t)) := by rw [tt]; rfl
    have e0 : wrX V D j s 1 b = wrX V D j s 1 b ^^^ mkb (byC V (bX (decide (j = 1)) D t) (bY (decide (j = 1)) D t) (sP (decide (j = 1)) D t) (zN (decide (j = 1)) D t) (zC (decide (j = 1)) D t) 1 s (zN (decide (j = 1)) D t)) 0 := by
      refine lb_ext (fun k hk => ?_)
      rw [lb_xor, show mkb (byC V (bX (decide (j = 1)) D t) (bY (decide (j = 1)) D t) (sP (decide (j = 1)) D t) (zN (decide (j = 1)) D t) (zC (decide (j = 1)) D t) 1 s (zN (decide (j = 1)) D t)) 0 = 0 from rfl, lb_0, Bool.xor_false]
    refine a_iload d_Mod_wrong_31 rfl ?_
    refine a_aload_n d_Mod_wrong_33 rfl ?_
    refine a_getf d_Mod_wrong_34 f_Mod_156 k32 rfl ?_
    refine a_icmp_ge 114 d_Mod_wrong_37 (by decide) (fun c37 => absurd c37 (nI_ge hbl (by omega))) (fun c37 => ?_)
    refine a_aload_n d_Mod_wrong_40 rfl ?_
    refine a_iload d_Mod_wrong_41 rfl ?_
    refine a_iload_n d_Mod_wrong_43 rfl ?_
    refine a_cv0 (a := 32) d_Mod_wrong_44 m_Mod_laysLine t_Mod_laysLine l_Mod_247 k32 rfl rfl M2 rfl rfl ⟨Nat.le_of_ble_eq_true rfl, Nat.le_of_ble_eq_true rfl⟩ (Nat.le_of_ble_eq_true rfl)  ?_
    refine a_iconst (v := 0) d_Mod_wrong_47 (by decide) ?_
    refine a_istore d_Mod_wrong_48 (Nat.le_of_ble_eq_true rfl) (Nat.le_of_ble_eq_true rfl) rfl ?_
    rw [e0]
    refine L_wrI1 p ht hb n32 n51 n52 LL n33 s20 s21 (wrX V D j s 1 b) (nI b) 64 0 (by omega) mc ms Qf n0 z0 q1 q2 ?_
    rw [mkb_64, ← ew]
    refine a_iinc d_Mod_wrong_108 rfl (nI_1 b) (Nat.le_of_ble_eq_true rfl) rfl ?_
    refine a_goto 31 d_Mod_wrong_111 (by decide) ?_
    refine a_drop 5 ?_
    exact R mc ms Qf n0 z0 q1 q2 K
set_option maxRecDepth 20000 in
set_option maxHeartbeats 4000000 in
theorem L_wrD {kd : Int32} {D : Int64} {st : Nat → Int32} {cc : List Value} {ac by_ la ra il mn : Int32} {rs : Int64} {tb ve oa lm : Int32} (n32 : h 32 = oMod ac by_ la ra il mn rs tb ve oa lm) (n33 : h 33 = aI 68 st) (s4 : ∀ k, k < 64 → st (4 + k) = if lb D k then 1 else 0) (A : Int64) : ∀ (m i : Nat), i + m = 64 → AM V i_Mod_wrong 7 n z (some (.int (nI (pcn (A ^^^ D) 64)))) h n z 117 [some (.ref 32), some (.int kd), some (.long (A ^^^ mkb D i)), none, some (.int (nI i)), none] [] h n z := by
  intro m
  induction m with
  | zero =>
    intro i hi
    have e : i = 64 := by omega
    subst e
    rw [mkb_64]
    refine a_iload d_Mod_wrong_117 rfl ?_
    refine a_bipush (v := 64) d_Mod_wrong_119 (by decide) ?_
    refine a_icmp_ge 146 d_Mod_wrong_121 (by decide) (fun c121 => ?_) (fun c121 => absurd (Int32.le_refl _) c121)
    refine a_lload_n d_Mod_wrong_146 rfl ?_
    refine a_cs0 d_Mod_wrong_147 m_Mod_ones t_Mod_ones l_Mod_173 (s_Mod_ones _) rfl rfl ⟨Nat.le_of_ble_eq_true rfl, Nat.le_of_ble_eq_true rfl⟩ (Nat.le_of_ble_eq_true rfl)  ?_
    exact a_iret d_Mod_wrong_150 rfl rfl rfl rfl
  | succ m ih =>
    intro i hi
    have e4 : (4 : Int32) + nI i = nI (4 + i) := nI_add 4 i
    refine a_iload d_Mod_wrong_117 rfl ?_
    refine a_bipush (v := 64) d_Mod_wrong_119 (by decide) ?_
    refine a_icmp_ge 146 d_Mod_wrong_121 (by decide) (fun c121 => absurd c121 (nI_ge (b := 64) (show i < 64 by omega) (by omega))) (fun c121 => ?_)
    refine a_lload_n d_Mod_wrong_124 rfl ?_
    refine a_aload_n d_Mod_wrong_125 rfl ?_
    refine a_getf d_Mod_wrong_126 f_Mod_7 n32 rfl ?_
    refine a_iconst (v := 4) d_Mod_wrong_129 (by decide) ?_
    refine a_iload d_Mod_wrong_130 rfl ?_
    refine a_iadd d_Mod_wrong_132 ?_
    rw [e4]
    refine a_iald d_Mod_wrong_133 n33 (nI_in (show 4 + i < 68 by omega) (by decide)) ?_
    rw [nI_clamp (by omega), s4 i (by omega)]
    refine a_i2l d_Mod_wrong_134 ?_
    refine a_iload d_Mod_wrong_135 rfl ?_
    refine a_lshl d_Mod_wrong_137 ?_
    refine a_lxor d_Mod_wrong_138 ?_
    refine a_lstore_n d_Mod_wrong_139 (Nat.le_of_ble_eq_true rfl) (Nat.le_of_ble_eq_true rfl) rfl ?_
    refine a_iinc d_Mod_wrong_140 rfl (nI_1 i) (Nat.le_of_ble_eq_true rfl) rfl ?_
    refine a_goto 117 d_Mod_wrong_143 (by decide) ?_
    rw [mkb_xs (by omega)]
    exact ih (i + 1) (by omega)
set_option maxRecDepth 20000 in
set_option maxHeartbeats 4000000 in
theorem m_wrong {W H : Nat} {D : Int64} {j s ac by_ la ra : Int32} (p : PcOk W H D j) (Q : MQs W H D j s ac by_ la ra h) (kind : Int32) : ∃ h1, MQs W H D j s ac by_ la ra h1 ∧ FQ h1 h ∧ AMet V i_Mod_wrong 7 [.ref 32, .int kind] h n z (some (.int (q_wrong V W H D j s kind))) h1 n z := by
  obtain ⟨il, mn, rs, tb, ve, oa, lm, st, g32, g33, es⟩ := Q.dat
  obtain ⟨s0, s1, s2, s3, s4⟩ := MB.st0 es
  have ep := isPic_W p s0
  by_cases hw : W = 0
  · rw [if_pos hw] at ep
    refine ⟨h, Q, FQ.rfl, ?_⟩
    have qn : q_wrong V W H D j s kind = -1000002 := if_pos hw
    rw [qn]
    refine AMet.intro (Nat.le_refl _) (Nat.le_refl _) (by decide) (Nat.le_of_ble_eq_true rfl) rfl ?_
    refine a_aload_n d_Mod_wrong_0 rfl ?_
    refine a_cv0 (a := 32) d_Mod_wrong_1 m_Mod_isPicture t_Mod_isPicture l_Mod_125 g32 rfl rfl (s_Mod_isPicture g32 g33) rfl rfl ⟨Nat.le_of_ble_eq_true rfl, Nat.le_of_ble_eq_true rfl⟩ (Nat.le_of_ble_eq_true rfl)  ?_
    rw [ep]
    refine a_if_ne 10 d_Mod_wrong_4 (by decide) (fun c4 => absurd c4 (fun q => q rfl)) (fun c4 => ?_)
    refine a_ldc d_Mod_wrong_7 k_Mod_117 ?_
    exact a_iret d_Mod_wrong_9 rfl rfl rfl rfl
  · rw [if_neg hw] at ep
    by_cases ck : fRg kind 0 1 = 0
    · refine ⟨h, Q, FQ.rfl, ?_⟩
      have qn : q_wrong V W H D j s kind = -1000001 := by unfold q_wrong; rw [if_neg hw, if_neg (fRg_01b.mp ck)]
      rw [qn]
      refine AMet.intro (Nat.le_refl _) (Nat.le_refl _) (by decide) (Nat.le_of_ble_eq_true rfl) rfl ?_
      refine a_aload_n d_Mod_wrong_0 rfl ?_
      refine a_cv0 (a := 32) d_Mod_wrong_1 m_Mod_isPicture t_Mod_isPicture l_Mod_125 g32 rfl rfl (s_Mod_isPicture g32 g33) rfl rfl ⟨Nat.le_of_ble_eq_true rfl, Nat.le_of_ble_eq_true rfl⟩ (Nat.le_of_ble_eq_true rfl)  ?_
      rw [ep]
      refine a_if_ne 10 d_Mod_wrong_4 (by decide) (fun c4 => ?_) (fun c4 => absurd c4 (by decide))
      refine a_iload_n d_Mod_wrong_10 rfl ?_
      refine a_iconst (v := 0) d_Mod_wrong_11 (by decide) ?_
      refine a_iconst (v := 1) d_Mod_wrong_12 (by decide) ?_
      refine a_cs0 d_Mod_wrong_13 m_Mod_in t_Mod_in l_Mod_71 (s_Mod_in _ _ _) rfl rfl ⟨Nat.le_of_ble_eq_true rfl, Nat.le_of_ble_eq_true rfl⟩ (Nat.le_of_ble_eq_true rfl)  ?_
      refine a_if_ne 22 d_Mod_wrong_16 (by decide) (fun c16 => absurd c16 (fun q => q ck)) (fun c16 => ?_)
      refine a_ldc d_Mod_wrong_19 k_Mod_75 ?_
      exact a_iret d_Mod_wrong_21 rfl rfl rfl rfl
    · obtain ⟨h1, L, F, M⟩ := m_lays (V := V) (n := n) (z := z) p Q
      rcases fRg_01c ck with rfl | rfl
      · obtain ⟨h2, L2, F2, R⟩ := L_wrB0 (V := V) (n := n) (z := z) p (sB (decide (j = 1)) D 64) 0 (by omega) h1 L
        refine ⟨h2, L2.q, FQ.tr F2 F, ?_⟩
        obtain ⟨tb2, ve2, oa2, lm2, n32, ⟨st2, of2, le2, vx2, tu2, lx2, ly2, n33, es2, -⟩, -⟩ := id L2
        obtain ⟨s20, s21, s22, s23, s24⟩ := MB.st0 es2
        have qn : q_wrong V W H D j s 0 = nI (pcn (wrX V D j s 0 (sB (decide (j = 1)) D 64) ^^^ D) 64) := by unfold q_wrong; rw [if_neg hw, if_pos ⟨by decide, by decide⟩, fBC_ok, wrX_L]
        have e0 : wrX V D j s 0 (sB (decide (j = 1)) D 64) = wrX V D j s 0 (sB (decide (j = 1)) D 64) ^^^ mkb D 0 := by
          refine lb_ext (fun k hk => ?_)
          rw [lb_xor, show mkb D 0 = 0 from rfl, lb_0, Bool.xor_false]
        rw [qn]
        refine AMet.intro (Nat.le_refl _) (Nat.le_refl _) (by decide) (Nat.le_of_ble_eq_true rfl) rfl ?_
        refine a_aload_n d_Mod_wrong_0 rfl ?_
        refine a_cv0 (a := 32) d_Mod_wrong_1 m_Mod_isPicture t_Mod_isPicture l_Mod_125 g32 rfl rfl (s_Mod_isPicture g32 g33) rfl rfl ⟨Nat.le_of_ble_eq_true rfl, Nat.le_of_ble_eq_true rfl⟩ (Nat.le_of_ble_eq_true rfl)  ?_
        rw [ep]
        refine a_if_ne 10 d_Mod_wrong_4 (by decide) (fun c4 => ?_) (fun c4 => absurd c4 (by decide))
        refine a_iload_n d_Mod_wrong_10 rfl ?_
        refine a_iconst (v := 0) d_Mod_wrong_11 (by decide) ?_
        refine a_iconst (v := 1) d_Mod_wrong_12 (by decide) ?_
        refine a_cs0 d_Mod_wrong_13 m_Mod_in t_Mod_in l_Mod_71 (s_Mod_in _ _ _) rfl rfl ⟨Nat.le_of_ble_eq_true rfl, Nat.le_of_ble_eq_true rfl⟩ (Nat.le_of_ble_eq_true rfl)  ?_
        refine a_if_ne 22 d_Mod_wrong_16 (by decide) (fun c16 => ?_) (fun c16 => absurd c16 ck)
        refine a_aload_n d_Mod_wrong_22 rfl ?_
        refine a_cv0 (a := 32) d_Mod_wrong_23 m_Mod_lays t_Mod_lays l_Mod_166 g32 rfl rfl M rfl rfl ⟨Nat.le_of_ble_eq_true rfl, Nat.le_of_ble_eq_true rfl⟩ (Nat.le_of_ble_eq_true rfl)  ?_
        refine a_lconst (v := 0) d_Mod_wrong_26 rfl ?_
        refine a_lstore_n d_Mod_wrong_27 (Nat.le_of_ble_eq_true rfl) (Nat.le_of_ble_eq_true rfl) rfl ?_
        refine a_iconst (v := 0) d_Mod_wrong_28 (by decide) ?_
        refine a_istore d_Mod_wrong_29 (Nat.le_of_ble_eq_true rfl) (Nat.le_of_ble_eq_true rfl) rfl ?_
        refine R.use ?_
        refine a_iconst (v := 0) d_Mod_wrong_114 (by decide) ?_
        refine a_istore d_Mod_wrong_115 (Nat.le_of_ble_eq_true rfl) (Nat.le_of_ble_eq_true rfl) rfl ?_
        refine a_eq rfl ?_ rfl rfl rfl rfl (L_wrD (kd := 0) (cc := []) n32 n33 s24 (wrX V D j s 0 (sB (decide (j = 1)) D 64)) 64 0 (by omega))
        rw [← e0]
        rfl
      · obtain ⟨h2, L2, F2, R⟩ := L_wrB1 (V := V) (n := n) (z := z) p (sB (decide (j = 1)) D 64) 0 (by omega) h1 L
        refine ⟨h2, L2.q, FQ.tr F2 F, ?_⟩
        obtain ⟨tb2, ve2, oa2, lm2, n32, ⟨st2, of2, le2, vx2, tu2, lx2, ly2, n33, es2, -⟩, -⟩ := id L2
        obtain ⟨s20, s21, s22, s23, s24⟩ := MB.st0 es2
        have qn : q_wrong V W H D j s 1 = nI (pcn (wrX V D j s 1 (sB (decide (j = 1)) D 64) ^^^ D) 64) := by unfold q_wrong; rw [if_neg hw, if_pos ⟨by decide, by decide⟩, fBC_ok, wrX_L]
        have e0 : wrX V D j s 1 (sB (decide (j = 1)) D 64) = wrX V D j s 1 (sB (decide (j = 1)) D 64) ^^^ mkb D 0 := by
          refine lb_ext (fun k hk => ?_)
          rw [lb_xor, show mkb D 0 = 0 from rfl, lb_0, Bool.xor_false]
        rw [qn]
        refine AMet.intro (Nat.le_refl _) (Nat.le_refl _) (by decide) (Nat.le_of_ble_eq_true rfl) rfl ?_
        refine a_aload_n d_Mod_wrong_0 rfl ?_
        refine a_cv0 (a := 32) d_Mod_wrong_1 m_Mod_isPicture t_Mod_isPicture l_Mod_125 g32 rfl rfl (s_Mod_isPicture g32 g33) rfl rfl ⟨Nat.le_of_ble_eq_true rfl, Nat.le_of_ble_eq_true rfl⟩ (Nat.le_of_ble_eq_true rfl)  ?_
        rw [ep]
        refine a_if_ne 10 d_Mod_wrong_4 (by decide) (fun c4 => ?_) (fun c4 => absurd c4 (by decide))
        refine a_iload_n d_Mod_wrong_10 rfl ?_
        refine a_iconst (v := 0) d_Mod_wrong_11 (by decide) ?_
        refine a_iconst (v := 1) d_Mod_wrong_12 (by decide) ?_
        refine a_cs0 d_Mod_wrong_13 m_Mod_in t_Mod_in l_Mod_71 (s_Mod_in _ _ _) rfl rfl ⟨Nat.le_of_ble_eq_true rfl, Nat.le_of_ble_eq_true rfl⟩ (Nat.le_of_ble_eq_true rfl)  ?_
        refine a_if_ne 22 d_Mod_wrong_16 (by decide) (fun c16 => ?_) (fun c16 => absurd c16 ck)
        refine a_aload_n d_Mod_wrong_22 rfl ?_
        refine a_cv0 (a := 32) d_Mod_wrong_23 m_Mod_lays t_Mod_lays l_Mod_166 g32 rfl rfl M rfl rfl ⟨Nat.le_of_ble_eq_true rfl, Nat.le_of_ble_eq_true rfl⟩ (Nat.le_of_ble_eq_true rfl)  ?_
        refine a_lconst (v := 0) d_Mod_wrong_26 rfl ?_
        refine a_lstore_n d_Mod_wrong_27 (Nat.le_of_ble_eq_true rfl) (Nat.le_of_ble_eq_true rfl) rfl ?_
        refine a_iconst (v := 0) d_Mod_wrong_28 (by decide) ?_
        refine a_istore d_Mod_wrong_29 (Nat.le_of_ble_eq_true rfl) (Nat.le_of_ble_eq_true rfl) rfl ?_
        refine R.use ?_
        refine a_iconst (v := 0) d_Mod_wrong_114 (by decide) ?_
        refine a_istore d_Mod_wrong_115 (Nat.le_of_ble_eq_true rfl) (Nat.le_of_ble_eq_true rfl) rfl ?_
        refine a_eq rfl ?_ rfl rfl rfl rfl (L_wrD (kd := 1) (cc := []) n32 n33 s24 (wrX V D j s 1 (sB (decide (j = 1)) D 64)) 64 0 (by omega))
        rw [← e0]
        rfl
end
