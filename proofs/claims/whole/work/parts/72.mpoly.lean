/-! THE MODEL is asked of polygons: printed by wip/whole/t72.py -/
section
variable {V : VV} {h : AH} {n z : Nat}

set_option maxRecDepth 20000 in
set_option maxHeartbeats 4000000 in
theorem m_best {W H : Nat} {D : Int64} {j s ac by_ la ra : Int32} (p : PcOk W H D j) (Q : MQs W H D j s ac by_ la ra h) (b what : Int32) : ∃ h1, MQs W H D j s ac by_ la ra h1 ∧ FQ h1 h ∧ AMet V i_Mod_best 8 [.ref 32, .int b, .int what] h n z (some (.int (q_best V W H D j s b what))) h1 n z := by
  obtain ⟨c, g32⟩ := Q.cls
  obtain ⟨h1, L, F, M⟩ := m_isBorder (V := V) (n := n) (z := z) p Q b
  cases hq : bq W D j b with
  | none =>
    refine ⟨h1, L.q, F, ?_⟩
    rw [hq] at M
    have qn : q_best V W H D j s b what = -1000001 := by unfold q_best; rw [hq]
    rw [qn]
    refine AMet.intro (Nat.le_refl _) (Nat.le_refl _) (by decide) (Nat.le_of_ble_eq_true rfl) rfl ?_
    refine a_aload_n d_Mod_best_0 rfl ?_
    refine a_iload_n d_Mod_best_1 rfl ?_
    refine a_cv0 (a := 32) d_Mod_best_2 m_Mod_isBorder t_Mod_isBorder l_Mod_169 g32 rfl rfl M rfl rfl ⟨Nat.le_of_ble_eq_true rfl, Nat.le_of_ble_eq_true rfl⟩ (Nat.le_of_ble_eq_true rfl)  ?_
    refine a_if_eq 17 d_Mod_best_5 (by decide) (fun c5 => ?_) (fun c5 => absurd rfl c5)
    refine a_ldc d_Mod_best_17 k_Mod_75 ?_
    exact a_iret d_Mod_best_19 rfl rfl rfl rfl
  | some t =>
    rw [hq, if_pos (show (some t).isSome = true from rfl)] at M
    obtain ⟨w0, ht, hb, eb, hlt⟩ := bq_some hq
    obtain ⟨tb, ve, oa, lm, k32, ⟨st, of, le, vxx, tu, lx, ly, k33, es, k47, k48, k49, k50, k51, k52⟩, ⟨fr, sz, fx, fy, wn, cx, cy, go, k39, k40, k41, k42, k43, k44, k45, k46, ml⟩, TB⟩ := id L
    obtain ⟨⟨m1, m2, m3, m4, m5⟩, m6⟩ := ml t ht hb
    obtain ⟨s0, s1, s2, s3, s4⟩ := MB.st0 es
    have P4 := bd_P ht hb
    have B36 := sB_36 (decide (j = 1)) D 64 (Nat.le_refl _)
    subst eb
    rcases sw_cases what 3 (by decide) with cw | ⟨w, hw, cw⟩
    · refine ⟨h1, L.q, F, ?_⟩
      have qn : q_best V W H D j s (nI (sB (decide (j = 1)) D t)) what = -1000001 := by unfold q_best; rw [hq]; simp only; rw [swI_out cw]
      rw [qn]
      have fw : fRg what 0 3 = 0 := fRg_out (hi := 3) (by decide) cw
      refine AMet.intro (Nat.le_refl _) (Nat.le_refl _) (by decide) (Nat.le_of_ble_eq_true rfl) rfl ?_
      refine a_aload_n d_Mod_best_0 rfl ?_
      refine a_iload_n d_Mod_best_1 rfl ?_
      refine a_cv0 (a := 32) d_Mod_best_2 m_Mod_isBorder t_Mod_isBorder l_Mod_169 g32 rfl rfl M rfl rfl ⟨Nat.le_of_ble_eq_true rfl, Nat.le_of_ble_eq_true rfl⟩ (Nat.le_of_ble_eq_true rfl)  ?_
      refine a_if_eq 17 d_Mod_best_5 (by decide) (fun c5 => absurd c5 (by decide)) (fun c5 => ?_)
      refine a_iload_n d_Mod_best_8 rfl ?_
      refine a_iconst (v := 0) d_Mod_best_9 (by decide) ?_
      refine a_iconst (v := 3) d_Mod_best_10 (by decide) ?_
      refine a_cs0 d_Mod_best_11 m_Mod_in t_Mod_in l_Mod_71 (s_Mod_in _ _ _) rfl rfl ⟨Nat.le_of_ble_eq_true rfl, Nat.le_of_ble_eq_true rfl⟩ (Nat.le_of_ble_eq_true rfl)  ?_
      refine a_if_ne 20 d_Mod_best_14 (by decide) (fun c14 => absurd c14 (fun q => q fw)) (fun c14 => ?_)
      refine a_ldc d_Mod_best_17 k_Mod_75 ?_
      exact a_iret d_Mod_best_19 rfl rfl rfl rfl
    · subst cw
      obtain ⟨h2, T, F2, M2⟩ := m_laysTable (V := V) (n := n) (z := z) ht hb L
      obtain ⟨lm2, n32, ⟨st2, of2, le2, vx2, tu2, lx2, ly2, n33, es2, n47, n48, n49, n50, n51, n52⟩, ⟨fr2, sz2, fx2, fy2, wn2, cx2, cy2, go2, n39, n40, n41, n42, n43, n44, n45, n46, ml2⟩, ⟨-, -, of3, vx3, o47, o49, tof, tvx⟩⟩ := id T
      have eof : of3 = of2 := by have := o47.symm.trans n47; injection this with this; injection this with _ this; injection this
      have evx : vx3 = vx2 := by have := o49.symm.trans n49; injection this with this; injection this with _ this; injection this
      subst eof evx
      obtain ⟨⟨p1, p2, p3, p4, p5⟩, p6⟩ := ml2 t ht hb
      obtain ⟨s20, s21, s22, s23, s24⟩ := MB.st0 es2
      obtain ⟨z1, z2, z3⟩ := bd_zC ht hb
      have Sx := ((Gd_all (decide (j = 1)) D).2 t ht hb).2.1
      have Bx := bd_Bnd ht hb
      have FT := FQ.tr F2 F
      have QT := (MLt.d ht hb T).q
      refine ⟨h2, QT, FT, ?_⟩
      have fw : ¬ fRg (nI w) 0 3 = 0 := by rw [show fRg (nI w) 0 3 = 1 from fRg_in (hi := 3) (by decide) hw]; decide
      rcases (show w = 0 ∨ w = 1 ∨ w = 2 ∨ w = 3 by omega) with rfl | rfl | rfl | rfl
      · refine AMet.intro (Nat.le_refl _) (Nat.le_refl _) (by decide) (Nat.le_of_ble_eq_true rfl) rfl ?_
        refine a_aload_n d_Mod_best_0 rfl ?_
        refine a_iload_n d_Mod_best_1 rfl ?_
        refine a_cv0 (a := 32) d_Mod_best_2 m_Mod_isBorder t_Mod_isBorder l_Mod_169 g32 rfl rfl M rfl rfl ⟨Nat.le_of_ble_eq_true rfl, Nat.le_of_ble_eq_true rfl⟩ (Nat.le_of_ble_eq_true rfl)  ?_
        refine a_if_eq 17 d_Mod_best_5 (by decide) (fun c5 => absurd c5 (by decide)) (fun c5 => ?_)
        refine a_iload_n d_Mod_best_8 rfl ?_
        refine a_iconst (v := 0) d_Mod_best_9 (by decide) ?_
        refine a_iconst (v := 3) d_Mod_best_10 (by decide) ?_
        refine a_cs0 d_Mod_best_11 m_Mod_in t_Mod_in l_Mod_71 (s_Mod_in _ _ _) rfl rfl ⟨Nat.le_of_ble_eq_true rfl, Nat.le_of_ble_eq_true rfl⟩ (Nat.le_of_ble_eq_true rfl)  ?_
        refine a_if_ne 20 d_Mod_best_14 (by decide) (fun c14 => ?_) (fun c14 => absurd c14 fw)
        refine a_aload_n d_Mod_best_20 rfl ?_
        refine a_iload_n d_Mod_best_21 rfl ?_
        refine a_cv0 (a := 32) d_Mod_best_22 m_Mod_laysTable t_Mod_laysTable l_Mod_226 k32 rfl rfl M2 rfl rfl ⟨Nat.le_of_ble_eq_true rfl, Nat.le_of_ble_eq_true rfl⟩ (Nat.le_of_ble_eq_true rfl)  ?_
        refine a_iload_n d_Mod_best_25 rfl ?_
        refine a_if_ne 36 d_Mod_best_26 (by decide) (fun c26 => absurd c26 (fun q => q rfl)) (fun c26 => ?_)
        refine a_aload_n d_Mod_best_29 rfl ?_
        refine a_getf d_Mod_best_30 f_Mod_205 n32 rfl ?_
        refine a_goto 66 d_Mod_best_33 (by decide) ?_
        exact a_iret d_Mod_best_66 rfl (by unfold q_best; rw [hq]; simp only; rw [swI_in 0 3 (by decide) (by decide)]; try rfl) rfl rfl
      · refine AMet.intro (Nat.le_refl _) (Nat.le_refl _) (by decide) (Nat.le_of_ble_eq_true rfl) rfl ?_
        refine a_aload_n d_Mod_best_0 rfl ?_
        refine a_iload_n d_Mod_best_1 rfl ?_
        refine a_cv0 (a := 32) d_Mod_best_2 m_Mod_isBorder t_Mod_isBorder l_Mod_169 g32 rfl rfl M rfl rfl ⟨Nat.le_of_ble_eq_true rfl, Nat.le_of_ble_eq_true rfl⟩ (Nat.le_of_ble_eq_true rfl)  ?_
        refine a_if_eq 17 d_Mod_best_5 (by decide) (fun c5 => absurd c5 (by decide)) (fun c5 => ?_)
        refine a_iload_n d_Mod_best_8 rfl ?_
        refine a_iconst (v := 0) d_Mod_best_9 (by decide) ?_
        refine a_iconst (v := 3) d_Mod_best_10 (by decide) ?_
        refine a_cs0 d_Mod_best_11 m_Mod_in t_Mod_in l_Mod_71 (s_Mod_in _ _ _) rfl rfl ⟨Nat.le_of_ble_eq_true rfl, Nat.le_of_ble_eq_true rfl⟩ (Nat.le_of_ble_eq_true rfl)  ?_
        refine a_if_ne 20 d_Mod_best_14 (by decide) (fun c14 => ?_) (fun c14 => absurd c14 fw)
        refine a_aload_n d_Mod_best_20 rfl ?_
        refine a_iload_n d_Mod_best_21 rfl ?_
        refine a_cv0 (a := 32) d_Mod_best_22 m_Mod_laysTable t_Mod_laysTable l_Mod_226 k32 rfl rfl M2 rfl rfl ⟨Nat.le_of_ble_eq_true rfl, Nat.le_of_ble_eq_true rfl⟩ (Nat.le_of_ble_eq_true rfl)  ?_
        refine a_iload_n d_Mod_best_25 rfl ?_
        refine a_if_ne 36 d_Mod_best_26 (by decide) (fun c26 => ?_) (fun c26 => absurd c26 (by decide))
        refine a_iload_n d_Mod_best_36 rfl ?_
        refine a_iconst (v := 1) d_Mod_best_37 (by decide) ?_
        refine a_icmp_ne 48 d_Mod_best_38 (by decide) (fun c38 => absurd c38 (fun q => q rfl)) (fun c38 => ?_)
        refine a_aload_n d_Mod_best_41 rfl ?_
        refine a_getf d_Mod_best_42 f_Mod_208 n32 rfl ?_
        refine a_goto 66 d_Mod_best_45 (by decide) ?_
        exact a_iret d_Mod_best_66 rfl (by unfold q_best; rw [hq]; simp only; rw [swI_in 1 3 (by decide) (by decide)]; try rfl) rfl rfl
      · refine AMet.intro (Nat.le_refl _) (Nat.le_refl _) (by decide) (Nat.le_of_ble_eq_true rfl) rfl ?_
        refine a_aload_n d_Mod_best_0 rfl ?_
        refine a_iload_n d_Mod_best_1 rfl ?_
        refine a_cv0 (a := 32) d_Mod_best_2 m_Mod_isBorder t_Mod_isBorder l_Mod_169 g32 rfl rfl M rfl rfl ⟨Nat.le_of_ble_eq_true rfl, Nat.le_of_ble_eq_true rfl⟩ (Nat.le_of_ble_eq_true rfl)  ?_
        refine a_if_eq 17 d_Mod_best_5 (by decide) (fun c5 => absurd c5 (by decide)) (fun c5 => ?_)
        refine a_iload_n d_Mod_best_8 rfl ?_
        refine a_iconst (v := 0) d_Mod_best_9 (by decide) ?_
        refine a_iconst (v := 3) d_Mod_best_10 (by decide) ?_
        refine a_cs0 d_Mod_best_11 m_Mod_in t_Mod_in l_Mod_71 (s_Mod_in _ _ _) rfl rfl ⟨Nat.le_of_ble_eq_true rfl, Nat.le_of_ble_eq_true rfl⟩ (Nat.le_of_ble_eq_true rfl)  ?_
        refine a_if_ne 20 d_Mod_best_14 (by decide) (fun c14 => ?_) (fun c14 => absurd c14 fw)
        refine a_aload_n d_Mod_best_20 rfl ?_
        refine a_iload_n d_Mod_best_21 rfl ?_
        refine a_cv0 (a := 32) d_Mod_best_22 m_Mod_laysTable t_Mod_laysTable l_Mod_226 k32 rfl rfl M2 rfl rfl ⟨Nat.le_of_ble_eq_true rfl, Nat.le_of_ble_eq_true rfl⟩ (Nat.le_of_ble_eq_true rfl)  ?_
        refine a_iload_n d_Mod_best_25 rfl ?_
        refine a_if_ne 36 d_Mod_best_26 (by decide) (fun c26 => ?_) (fun c26 => absurd c26 (by decide))
        refine a_iload_n d_Mod_best_36 rfl ?_
        refine a_iconst (v := 1) d_Mod_best_37 (by decide) ?_
        refine a_icmp_ne 48 d_Mod_best_38 (by decide) (fun c38 => ?_) (fun c38 => absurd c38 (by decide))
        refine a_iload_n d_Mod_best_48 rfl ?_
        refine a_iconst (v := 2) d_Mod_best_49 (by decide) ?_
        refine a_icmp_ne 61 d_Mod_best_50 (by decide) (fun c50 => absurd c50 (fun q => q rfl)) (fun c50 => ?_)
        refine a_aload_n d_Mod_best_53 rfl ?_
        refine a_iload_n d_Mod_best_54 rfl ?_
        refine a_cv0 (a := 32) d_Mod_best_55 m_Mod_sharpMany t_Mod_sharpMany l_Mod_229 n32 rfl rfl (s_Mod_sharpMany n32 n39 n44 n45 n49 (show (sB (decide (j = 1)) D t) < 40 by omega) p1 P4.2.2 z1 z2 (fun k hk => ⟨(p6 k hk).1, (p6 k hk).2.1⟩) tvx z3 n33 s23 Sx Bx (by omega)) rfl rfl ⟨Nat.le_of_ble_eq_true rfl, Nat.le_of_ble_eq_true rfl⟩ (Nat.le_of_ble_eq_true rfl)  ?_
        refine a_goto 66 d_Mod_best_58 (by decide) ?_
        exact a_iret d_Mod_best_66 rfl (by unfold q_best; rw [hq]; simp only; rw [swI_in 2 3 (by decide) (by decide)]; try rfl) rfl rfl
      · refine AMet.intro (Nat.le_refl _) (Nat.le_refl _) (by decide) (Nat.le_of_ble_eq_true rfl) rfl ?_
        refine a_aload_n d_Mod_best_0 rfl ?_
        refine a_iload_n d_Mod_best_1 rfl ?_
        refine a_cv0 (a := 32) d_Mod_best_2 m_Mod_isBorder t_Mod_isBorder l_Mod_169 g32 rfl rfl M rfl rfl ⟨Nat.le_of_ble_eq_true rfl, Nat.le_of_ble_eq_true rfl⟩ (Nat.le_of_ble_eq_true rfl)  ?_
        refine a_if_eq 17 d_Mod_best_5 (by decide) (fun c5 => absurd c5 (by decide)) (fun c5 => ?_)
        refine a_iload_n d_Mod_best_8 rfl ?_
        refine a_iconst (v := 0) d_Mod_best_9 (by decide) ?_
        refine a_iconst (v := 3) d_Mod_best_10 (by decide) ?_
        refine a_cs0 d_Mod_best_11 m_Mod_in t_Mod_in l_Mod_71 (s_Mod_in _ _ _) rfl rfl ⟨Nat.le_of_ble_eq_true rfl, Nat.le_of_ble_eq_true rfl⟩ (Nat.le_of_ble_eq_true rfl)  ?_
        refine a_if_ne 20 d_Mod_best_14 (by decide) (fun c14 => ?_) (fun c14 => absurd c14 fw)
        refine a_aload_n d_Mod_best_20 rfl ?_
        refine a_iload_n d_Mod_best_21 rfl ?_
        refine a_cv0 (a := 32) d_Mod_best_22 m_Mod_laysTable t_Mod_laysTable l_Mod_226 k32 rfl rfl M2 rfl rfl ⟨Nat.le_of_ble_eq_true rfl, Nat.le_of_ble_eq_true rfl⟩ (Nat.le_of_ble_eq_true rfl)  ?_
        refine a_iload_n d_Mod_best_25 rfl ?_
        refine a_if_ne 36 d_Mod_best_26 (by decide) (fun c26 => ?_) (fun c26 => absurd c26 (by decide))
        refine a_iload_n d_Mod_best_36 rfl ?_
        refine a_iconst (v := 1) d_Mod_best_37 (by decide) ?_
        refine a_icmp_ne 48 d_Mod_best_38 (by decide) (fun c38 => ?_) (fun c38 => absurd c38 (by decide))
        refine a_iload_n d_Mod_best_48 rfl ?_
        refine a_iconst (v := 2) d_Mod_best_49 (by decide) ?_
        refine a_icmp_ne 61 d_Mod_best_50 (by decide) (fun c50 => ?_) (fun c50 => absurd c50 (by decide))
        refine a_aload_n d_Mod_best_61 rfl ?_
        refine a_iload_n d_Mod_best_62 rfl ?_
        refine a_cv0 (a := 32) d_Mod_best_63 m_Mod_twice t_Mod_twice l_Mod_232 n32 rfl rfl (s_Mod_twice n32 n39 n44 n45 n49 (show (sB (decide (j = 1)) D t) < 40 by omega) p1 P4.2.2 z1 z2 (fun k hk => ⟨(p6 k hk).1, (p6 k hk).2.1⟩) tvx z3 (by omega)) rfl rfl ⟨Nat.le_of_ble_eq_true rfl, Nat.le_of_ble_eq_true rfl⟩ (Nat.le_of_ble_eq_true rfl)  ?_
        exact a_iret d_Mod_best_66 rfl (by unfold q_best; rw [hq]; simp only; rw [swI_in 3 3 (by decide) (by decide)]; try rfl) rfl rfl
set_option maxRecDepth 20000 in
set_option maxHeartbeats 4000000 in
theorem m_vertex {W H : Nat} {D : Int64} {j s ac by_ la ra : Int32} (p : PcOk W H D j) (Q : MQs W H D j s ac by_ la ra h) (b k what : Int32) : ∃ h1, MQs W H D j s ac by_ la ra h1 ∧ FQ h1 h ∧ AMet V i_Mod_vertex 8 [.ref 32, .int b, .int k, .int what] h n z (some (.int (q_vertex V W H D j s b k what))) h1 n z := by
  obtain ⟨c, g32⟩ := Q.cls
  obtain ⟨h1, L, F, M⟩ := m_isBorder (V := V) (n := n) (z := z) p Q b
  cases hq : bq W D j b with
  | none =>
    refine ⟨h1, L.q, F, ?_⟩
    rw [hq] at M
    have qn : q_vertex V W H D j s b k what = -1000001 := by unfold q_vertex; rw [hq]
    rw [qn]
    refine AMet.intro (Nat.le_refl _) (Nat.le_refl _) (by decide) (Nat.le_of_ble_eq_true rfl) rfl ?_
    refine a_aload_n d_Mod_vertex_0 rfl ?_
    refine a_iload_n d_Mod_vertex_1 rfl ?_
    refine a_cv0 (a := 32) d_Mod_vertex_2 m_Mod_isBorder t_Mod_isBorder l_Mod_169 g32 rfl rfl M rfl rfl ⟨Nat.le_of_ble_eq_true rfl, Nat.le_of_ble_eq_true rfl⟩ (Nat.le_of_ble_eq_true rfl)  ?_
    refine a_if_eq 17 d_Mod_vertex_5 (by decide) (fun c5 => ?_) (fun c5 => absurd rfl c5)
    refine a_ldc d_Mod_vertex_17 k_Mod_75 ?_
    exact a_iret d_Mod_vertex_19 rfl rfl rfl rfl
  | some t =>
    rw [hq, if_pos (show (some t).isSome = true from rfl)] at M
    obtain ⟨w0, ht, hb, eb, hlt⟩ := bq_some hq
    obtain ⟨tb, ve, oa, lm, k32, ⟨st, of, le, vxx, tu, lx, ly, k33, es, k47, k48, k49, k50, k51, k52⟩, ⟨fr, sz, fx, fy, wn, cx, cy, go, k39, k40, k41, k42, k43, k44, k45, k46, ml⟩, TB⟩ := id L
    obtain ⟨⟨m1, m2, m3, m4, m5⟩, m6⟩ := ml t ht hb
    obtain ⟨s0, s1, s2, s3, s4⟩ := MB.st0 es
    have P4 := bd_P ht hb
    have B36 := sB_36 (decide (j = 1)) D 64 (Nat.le_refl _)
    subst eb
    rcases sw_cases what 2 (by decide) with cw | ⟨w, hw, cw⟩
    · refine ⟨h1, L.q, F, ?_⟩
      have qn : q_vertex V W H D j s (nI (sB (decide (j = 1)) D t)) k what = -1000001 := by
        unfold q_vertex; rw [hq]; simp only; rw [swI_out cw]
        split <;> rfl
      rw [qn]
      have fw : fRg what 0 2 = 0 := fRg_out (hi := 2) (by decide) cw
      refine AMet.intro (Nat.le_refl _) (Nat.le_refl _) (by decide) (Nat.le_of_ble_eq_true rfl) rfl ?_
      refine a_aload_n d_Mod_vertex_0 rfl ?_
      refine a_iload_n d_Mod_vertex_1 rfl ?_
      refine a_cv0 (a := 32) d_Mod_vertex_2 m_Mod_isBorder t_Mod_isBorder l_Mod_169 g32 rfl rfl M rfl rfl ⟨Nat.le_of_ble_eq_true rfl, Nat.le_of_ble_eq_true rfl⟩ (Nat.le_of_ble_eq_true rfl)  ?_
      refine a_if_eq 17 d_Mod_vertex_5 (by decide) (fun c5 => absurd c5 (by decide)) (fun c5 => ?_)
      refine a_iload_n d_Mod_vertex_8 rfl ?_
      refine a_iconst (v := 0) d_Mod_vertex_9 (by decide) ?_
      refine a_iconst (v := 2) d_Mod_vertex_10 (by decide) ?_
      refine a_cs0 d_Mod_vertex_11 m_Mod_in t_Mod_in l_Mod_71 (s_Mod_in _ _ _) rfl rfl ⟨Nat.le_of_ble_eq_true rfl, Nat.le_of_ble_eq_true rfl⟩ (Nat.le_of_ble_eq_true rfl)  ?_
      refine a_if_ne 20 d_Mod_vertex_14 (by decide) (fun c14 => absurd c14 (fun q => q fw)) (fun c14 => ?_)
      refine a_ldc d_Mod_vertex_17 k_Mod_75 ?_
      exact a_iret d_Mod_vertex_19 rfl rfl rfl rfl
    · subst cw
      obtain ⟨h2, T, F2, M2⟩ := m_laysTable (V := V) (n := n) (z := z) ht hb L
      obtain ⟨lm2, n32, ⟨st2, of2, le2, vx2, tu2, lx2, ly2, n33, es2, n47, n48, n49, n50, n51, n52⟩, ⟨fr2, sz2, fx2, fy2, wn2, cx2, cy2, go2, n39, n40, n41, n42, n43, n44, n45, n46, ml2⟩, ⟨-, -, of3, vx3, o47, o49, tof, tvx⟩⟩ := id T
      have eof : of3 = of2 := by have := o47.symm.trans n47; injection this with this; injection this with _ this; injection this
      have evx : vx3 = vx2 := by have := o49.symm.trans n49; injection this with this; injection this with _ this; injection this
      subst eof evx
      obtain ⟨⟨p1, p2, p3, p4, p5⟩, p6⟩ := ml2 t ht hb
      obtain ⟨s20, s21, s22, s23, s24⟩ := MB.st0 es2
      obtain ⟨z1, z2, z3⟩ := bd_zC ht hb
      have Sx := ((Gd_all (decide (j = 1)) D).2 t ht hb).2.1
      have Bx := bd_Bnd ht hb
      have FT := FQ.tr F2 F
      have QT := (MLt.d ht hb T).q
      refine ⟨h2, QT, FT, ?_⟩
      have fw : ¬ fRg (nI w) 0 2 = 0 := by rw [show fRg (nI w) 0 2 = 1 from fRg_in (hi := 2) (by decide) hw]; decide
      have ei : fRg k 0 (nI (zN (decide (j = 1)) D t) - 1) = fIn2 k (nI (zN (decide (j = 1)) D t)) := fRg_P (by omega)
      by_cases cf : fIn2 k (nI (zN (decide (j = 1)) D t)) = 0
      · have qn : q_vertex V W H D j s (nI (sB (decide (j = 1)) D t)) k (nI w) = -1000001 := by unfold q_vertex; rw [hq]; simp only; rw [if_pos cf]
        rw [qn]
        refine AMet.intro (Nat.le_refl _) (Nat.le_refl _) (by decide) (Nat.le_of_ble_eq_true rfl) rfl ?_
        refine a_aload_n d_Mod_vertex_0 rfl ?_
        refine a_iload_n d_Mod_vertex_1 rfl ?_
        refine a_cv0 (a := 32) d_Mod_vertex_2 m_Mod_isBorder t_Mod_isBorder l_Mod_169 g32 rfl rfl M rfl rfl ⟨Nat.le_of_ble_eq_true rfl, Nat.le_of_ble_eq_true rfl⟩ (Nat.le_of_ble_eq_true rfl)  ?_
        refine a_if_eq 17 d_Mod_vertex_5 (by decide) (fun c5 => absurd c5 (by decide)) (fun c5 => ?_)
        refine a_iload_n d_Mod_vertex_8 rfl ?_
        refine a_iconst (v := 0) d_Mod_vertex_9 (by decide) ?_
        refine a_iconst (v := 2) d_Mod_vertex_10 (by decide) ?_
        refine a_cs0 d_Mod_vertex_11 m_Mod_in t_Mod_in l_Mod_71 (s_Mod_in _ _ _) rfl rfl ⟨Nat.le_of_ble_eq_true rfl, Nat.le_of_ble_eq_true rfl⟩ (Nat.le_of_ble_eq_true rfl)  ?_
        refine a_if_ne 20 d_Mod_vertex_14 (by decide) (fun c14 => ?_) (fun c14 => absurd c14 fw)
        refine a_aload_n d_Mod_vertex_20 rfl ?_
        refine a_iload_n d_Mod_vertex_21 rfl ?_
        refine a_cv0 (a := 32) d_Mod_vertex_22 m_Mod_laysTable t_Mod_laysTable l_Mod_226 k32 rfl rfl M2 rfl rfl ⟨Nat.le_of_ble_eq_true rfl, Nat.le_of_ble_eq_true rfl⟩ (Nat.le_of_ble_eq_true rfl)  ?_
        refine a_iload_n d_Mod_vertex_25 rfl ?_
        refine a_iconst (v := 0) d_Mod_vertex_26 (by decide) ?_
        refine a_aload_n d_Mod_vertex_27 rfl ?_
        refine a_getf d_Mod_vertex_28 f_Mod_205 n32 rfl ?_
        refine a_iconst (v := 1) d_Mod_vertex_31 (by decide) ?_
        refine a_isub d_Mod_vertex_32 ?_
        refine a_cs0 d_Mod_vertex_33 m_Mod_in t_Mod_in l_Mod_71 (s_Mod_in _ _ _) rfl rfl ⟨Nat.le_of_ble_eq_true rfl, Nat.le_of_ble_eq_true rfl⟩ (Nat.le_of_ble_eq_true rfl)  ?_
        refine a_if_ne 42 d_Mod_vertex_36 (by decide) (fun c36 => absurd c36 (fun q => q (ei.trans cf))) (fun c36 => ?_)
        refine a_ldc d_Mod_vertex_39 k_Mod_75 ?_
        exact a_iret d_Mod_vertex_41 rfl rfl rfl rfl
      · obtain ⟨K, hK, eK⟩ := fIn2_ok (by omega) cf
        subst eK
        have em : K % (zN (decide (j = 1)) D t) = K := Nat.mod_eq_of_lt hK
        rcases (show w = 0 ∨ w = 1 ∨ w = 2 by omega) with rfl | rfl | rfl
        · refine AMet.intro (Nat.le_refl _) (Nat.le_refl _) (by decide) (Nat.le_of_ble_eq_true rfl) rfl ?_
          refine a_aload_n d_Mod_vertex_0 rfl ?_
          refine a_iload_n d_Mod_vertex_1 rfl ?_
          refine a_cv0 (a := 32) d_Mod_vertex_2 m_Mod_isBorder t_Mod_isBorder l_Mod_169 g32 rfl rfl M rfl rfl ⟨Nat.le_of_ble_eq_true rfl, Nat.le_of_ble_eq_true rfl⟩ (Nat.le_of_ble_eq_true rfl)  ?_
          refine a_if_eq 17 d_Mod_vertex_5 (by decide) (fun c5 => absurd c5 (by decide)) (fun c5 => ?_)
          refine a_iload_n d_Mod_vertex_8 rfl ?_
          refine a_iconst (v := 0) d_Mod_vertex_9 (by decide) ?_
          refine a_iconst (v := 2) d_Mod_vertex_10 (by decide) ?_
          refine a_cs0 d_Mod_vertex_11 m_Mod_in t_Mod_in l_Mod_71 (s_Mod_in _ _ _) rfl rfl ⟨Nat.le_of_ble_eq_true rfl, Nat.le_of_ble_eq_true rfl⟩ (Nat.le_of_ble_eq_true rfl)  ?_
          refine a_if_ne 20 d_Mod_vertex_14 (by decide) (fun c14 => ?_) (fun c14 => absurd c14 fw)
          refine a_aload_n d_Mod_vertex_20 rfl ?_
          refine a_iload_n d_Mod_vertex_21 rfl ?_
          refine a_cv0 (a := 32) d_Mod_vertex_22 m_Mod_laysTable t_Mod_laysTable l_Mod_226 k32 rfl rfl M2 rfl rfl ⟨Nat.le_of_ble_eq_true rfl, Nat.le_of_ble_eq_true rfl⟩ (Nat.le_of_ble_eq_true rfl)  ?_
          refine a_iload_n d_Mod_vertex_25 rfl ?_
          refine a_iconst (v := 0) d_Mod_vertex_26 (by decide) ?_
          refine a_aload_n d_Mod_vertex_27 rfl ?_
          refine a_getf d_Mod_vertex_28 f_Mod_205 n32 rfl ?_
          refine a_iconst (v := 1) d_Mod_vertex_31 (by decide) ?_
          refine a_isub d_Mod_vertex_32 ?_
          refine a_cs0 d_Mod_vertex_33 m_Mod_in t_Mod_in l_Mod_71 (s_Mod_in _ _ _) rfl rfl ⟨Nat.le_of_ble_eq_true rfl, Nat.le_of_ble_eq_true rfl⟩ (Nat.le_of_ble_eq_true rfl)  ?_
          refine a_if_ne 42 d_Mod_vertex_36 (by decide) (fun c36 => ?_) (fun c36 => absurd c36 (fun q => cf (ei.symm.trans q)))
          refine a_iload_n d_Mod_vertex_42 rfl ?_
          refine a_if_ne 55 d_Mod_vertex_43 (by decide) (fun c43 => absurd c43 (fun q => q rfl)) (fun c43 => ?_)
          refine a_aload_n d_Mod_vertex_46 rfl ?_
          refine a_getf d_Mod_vertex_47 f_Mod_59 n32 rfl ?_
          refine a_iload_n d_Mod_vertex_50 rfl ?_
          refine a_iald d_Mod_vertex_51 n49 (nI_in (show K < 144 by omega) (by decide)) ?_
          rw [nI_clamp (by omega), tvx _ hK]
          refine a_goto 83 d_Mod_vertex_52 (by decide) ?_
          exact a_iret d_Mod_vertex_83 rfl (by unfold q_vertex; rw [hq]; simp only; rw [if_neg cf, swI_in 0 2 (by decide) (by decide)]; simp only; rw [nI_clamp (by omega), em]) rfl rfl
        · refine AMet.intro (Nat.le_refl _) (Nat.le_refl _) (by decide) (Nat.le_of_ble_eq_true rfl) rfl ?_
          refine a_aload_n d_Mod_vertex_0 rfl ?_
          refine a_iload_n d_Mod_vertex_1 rfl ?_
          refine a_cv0 (a := 32) d_Mod_vertex_2 m_Mod_isBorder t_Mod_isBorder l_Mod_169 g32 rfl rfl M rfl rfl ⟨Nat.le_of_ble_eq_true rfl, Nat.le_of_ble_eq_true rfl⟩ (Nat.le_of_ble_eq_true rfl)  ?_
          refine a_if_eq 17 d_Mod_vertex_5 (by decide) (fun c5 => absurd c5 (by decide)) (fun c5 => ?_)
          refine a_iload_n d_Mod_vertex_8 rfl ?_
          refine a_iconst (v := 0) d_Mod_vertex_9 (by decide) ?_
          refine a_iconst (v := 2) d_Mod_vertex_10 (by decide) ?_
          refine a_cs0 d_Mod_vertex_11 m_Mod_in t_Mod_in l_Mod_71 (s_Mod_in _ _ _) rfl rfl ⟨Nat.le_of_ble_eq_true rfl, Nat.le_of_ble_eq_true rfl⟩ (Nat.le_of_ble_eq_true rfl)  ?_
          refine a_if_ne 20 d_Mod_vertex_14 (by decide) (fun c14 => ?_) (fun c14 => absurd c14 fw)
          refine a_aload_n d_Mod_vertex_20 rfl ?_
          refine a_iload_n d_Mod_vertex_21 rfl ?_
          refine a_cv0 (a := 32) d_Mod_vertex_22 m_Mod_laysTable t_Mod_laysTable l_Mod_226 k32 rfl rfl M2 rfl rfl ⟨Nat.le_of_ble_eq_true rfl, Nat.le_of_ble_eq_true rfl⟩ (Nat.le_of_ble_eq_true rfl)  ?_
          refine a_iload_n d_Mod_vertex_25 rfl ?_
          refine a_iconst (v := 0) d_Mod_vertex_26 (by decide) ?_
          refine a_aload_n d_Mod_vertex_27 rfl ?_
          refine a_getf d_Mod_vertex_28 f_Mod_205 n32 rfl ?_
          refine a_iconst (v := 1) d_Mod_vertex_31 (by decide) ?_
          refine a_isub d_Mod_vertex_32 ?_
          refine a_cs0 d_Mod_vertex_33 m_Mod_in t_Mod_in l_Mod_71 (s_Mod_in _ _ _) rfl rfl ⟨Nat.le_of_ble_eq_true rfl, Nat.le_of_ble_eq_true rfl⟩ (Nat.le_of_ble_eq_true rfl)  ?_
          refine a_if_ne 42 d_Mod_vertex_36 (by decide) (fun c36 => ?_) (fun c36 => absurd c36 (fun q => cf (ei.symm.trans q)))
          refine a_iload_n d_Mod_vertex_42 rfl ?_
          refine a_if_ne 55 d_Mod_vertex_43 (by decide) (fun c43 => ?_) (fun c43 => absurd c43 (by decide))
          refine a_iload_n d_Mod_vertex_55 rfl ?_
          refine a_iconst (v := 1) d_Mod_vertex_56 (by decide) ?_
          refine a_icmp_ne 69 d_Mod_vertex_57 (by decide) (fun c57 => absurd c57 (fun q => q rfl)) (fun c57 => ?_)
          refine a_aload_n d_Mod_vertex_60 rfl ?_
          refine a_iload_n d_Mod_vertex_61 rfl ?_
          refine a_iload_n d_Mod_vertex_62 rfl ?_
          refine a_cv0 (a := 32) d_Mod_vertex_63 m_Mod_turnOf t_Mod_turnOf l_Mod_220 n32 rfl rfl (s_Mod_turnOf n32 n39 n44 n45 n49 (show (sB (decide (j = 1)) D t) < 40 by omega) p1 P4.2.2 z1 z2 (fun k hk => ⟨(p6 k hk).1, (p6 k hk).2.1⟩) tvx z3 (by omega) Sx Bx) rfl rfl ⟨Nat.le_of_ble_eq_true rfl, Nat.le_of_ble_eq_true rfl⟩ (Nat.le_of_ble_eq_true rfl)  ?_
          refine a_goto 83 d_Mod_vertex_66 (by decide) ?_
          exact a_iret d_Mod_vertex_83 rfl (by unfold q_vertex; rw [hq]; simp only; rw [if_neg cf, swI_in 1 2 (by decide) (by decide)]; simp only; rw [nI_clamp (by omega)]) rfl rfl
        · refine AMet.intro (Nat.le_refl _) (Nat.le_refl _) (by decide) (Nat.le_of_ble_eq_true rfl) rfl ?_
          refine a_aload_n d_Mod_vertex_0 rfl ?_
          refine a_iload_n d_Mod_vertex_1 rfl ?_
          refine a_cv0 (a := 32) d_Mod_vertex_2 m_Mod_isBorder t_Mod_isBorder l_Mod_169 g32 rfl rfl M rfl rfl ⟨Nat.le_of_ble_eq_true rfl, Nat.le_of_ble_eq_true rfl⟩ (Nat.le_of_ble_eq_true rfl)  ?_
          refine a_if_eq 17 d_Mod_vertex_5 (by decide) (fun c5 => absurd c5 (by decide)) (fun c5 => ?_)
          refine a_iload_n d_Mod_vertex_8 rfl ?_
          refine a_iconst (v := 0) d_Mod_vertex_9 (by decide) ?_
          refine a_iconst (v := 2) d_Mod_vertex_10 (by decide) ?_
          refine a_cs0 d_Mod_vertex_11 m_Mod_in t_Mod_in l_Mod_71 (s_Mod_in _ _ _) rfl rfl ⟨Nat.le_of_ble_eq_true rfl, Nat.le_of_ble_eq_true rfl⟩ (Nat.le_of_ble_eq_true rfl)  ?_
          refine a_if_ne 20 d_Mod_vertex_14 (by decide) (fun c14 => ?_) (fun c14 => absurd c14 fw)
          refine a_aload_n d_Mod_vertex_20 rfl ?_
          refine a_iload_n d_Mod_vertex_21 rfl ?_
          refine a_cv0 (a := 32) d_Mod_vertex_22 m_Mod_laysTable t_Mod_laysTable l_Mod_226 k32 rfl rfl M2 rfl rfl ⟨Nat.le_of_ble_eq_true rfl, Nat.le_of_ble_eq_true rfl⟩ (Nat.le_of_ble_eq_true rfl)  ?_
          refine a_iload_n d_Mod_vertex_25 rfl ?_
          refine a_iconst (v := 0) d_Mod_vertex_26 (by decide) ?_
          refine a_aload_n d_Mod_vertex_27 rfl ?_
          refine a_getf d_Mod_vertex_28 f_Mod_205 n32 rfl ?_
          refine a_iconst (v := 1) d_Mod_vertex_31 (by decide) ?_
          refine a_isub d_Mod_vertex_32 ?_
          refine a_cs0 d_Mod_vertex_33 m_Mod_in t_Mod_in l_Mod_71 (s_Mod_in _ _ _) rfl rfl ⟨Nat.le_of_ble_eq_true rfl, Nat.le_of_ble_eq_true rfl⟩ (Nat.le_of_ble_eq_true rfl)  ?_
          refine a_if_ne 42 d_Mod_vertex_36 (by decide) (fun c36 => ?_) (fun c36 => absurd c36 (fun q => cf (ei.symm.trans q)))
          refine a_iload_n d_Mod_vertex_42 rfl ?_
          refine a_if_ne 55 d_Mod_vertex_43 (by decide) (fun c43 => ?_) (fun c43 => absurd c43 (by decide))
          refine a_iload_n d_Mod_vertex_55 rfl ?_
          refine a_iconst (v := 1) d_Mod_vertex_56 (by decide) ?_
          refine a_icmp_ne 69 d_Mod_vertex_57 (by decide) (fun c57 => ?_) (fun c57 => absurd c57 (by decide))
          refine a_aload_n d_Mod_vertex_69 rfl ?_
          refine a_iload_n d_Mod_vertex_70 rfl ?_
          refine a_iload_n d_Mod_vertex_71 rfl ?_
          refine a_cv0 (a := 32) d_Mod_vertex_72 m_Mod_isSharp t_Mod_isSharp l_Mod_223 n32 rfl rfl (s_Mod_isSharp n32 n39 n44 n45 n49 (show (sB (decide (j = 1)) D t) < 40 by omega) p1 P4.2.2 z1 z2 (fun k hk => ⟨(p6 k hk).1, (p6 k hk).2.1⟩) tvx z3 n33 s23 (by omega) Sx Bx) rfl rfl ⟨Nat.le_of_ble_eq_true rfl, Nat.le_of_ble_eq_true rfl⟩ (Nat.le_of_ble_eq_true rfl)  ?_
          refine a_if_eq 82 d_Mod_vertex_75 (by decide) (fun c75 => ?_) (fun c75 => ?_)
          · skip
            refine a_iconst (v := 0) d_Mod_vertex_82 (by decide) ?_
            exact a_iret d_Mod_vertex_83 rfl (by unfold q_vertex; rw [hq]; simp only; rw [if_neg cf, swI_in 2 2 (by decide) (by decide)]; simp only; rw [nI_clamp (by omega), if_pos c75]) rfl rfl
          · skip
            refine a_iconst (v := 1) d_Mod_vertex_78 (by decide) ?_
            refine a_goto 83 d_Mod_vertex_79 (by decide) ?_
            exact a_iret d_Mod_vertex_83 rfl (by unfold q_vertex; rw [hq]; simp only; rw [if_neg cf, swI_in 2 2 (by decide) (by decide)]; simp only; rw [nI_clamp (by omega), if_neg c75]) rfl rfl
set_option maxRecDepth 20000 in
set_option maxHeartbeats 4000000 in
theorem m_point {W H : Nat} {D : Int64} {j s ac by_ la ra : Int32} (p : PcOk W H D j) (Q : MQs W H D j s ac by_ la ra h) (b k i what : Int32) : ∃ h1, MQs W H D j s ac by_ la ra h1 ∧ FQ h1 h ∧ AMet V i_Mod_point 8 [.ref 32, .int b, .int k, .int i, .int what] h n z (some (.int (q_point V W H D j s b k i what))) h1 n z := by
  obtain ⟨c, g32⟩ := Q.cls
  obtain ⟨h1, L, F, M⟩ := m_isBorder (V := V) (n := n) (z := z) p Q b
  cases hq : bq W D j b with
  | none =>
    refine ⟨h1, L.q, F, ?_⟩
    rw [hq] at M
    have qn : q_point V W H D j s b k i what = -1000001 := by unfold q_point; rw [hq]
    rw [qn]
    refine AMet.intro (Nat.le_refl _) (Nat.le_refl _) (by decide) (Nat.le_of_ble_eq_true rfl) rfl ?_
    refine a_aload_n d_Mod_point_0 rfl ?_
    refine a_iload_n d_Mod_point_1 rfl ?_
    refine a_cv0 (a := 32) d_Mod_point_2 m_Mod_isBorder t_Mod_isBorder l_Mod_169 g32 rfl rfl M rfl rfl ⟨Nat.le_of_ble_eq_true rfl, Nat.le_of_ble_eq_true rfl⟩ (Nat.le_of_ble_eq_true rfl)  ?_
    refine a_if_eq 27 d_Mod_point_5 (by decide) (fun c5 => ?_) (fun c5 => absurd rfl c5)
    refine a_ldc d_Mod_point_27 k_Mod_75 ?_
    exact a_iret d_Mod_point_29 rfl rfl rfl rfl
  | some t =>
    rw [hq, if_pos (show (some t).isSome = true from rfl)] at M
    obtain ⟨w0, ht, hb, eb, hlt⟩ := bq_some hq
    obtain ⟨tb, ve, oa, lm, k32, ⟨st, of, le, vxx, tu, lx, ly, k33, es, k47, k48, k49, k50, k51, k52⟩, ⟨fr, sz, fx, fy, wn, cx, cy, go, k39, k40, k41, k42, k43, k44, k45, k46, ml⟩, TB⟩ := id L
    obtain ⟨⟨m1, m2, m3, m4, m5⟩, m6⟩ := ml t ht hb
    obtain ⟨s0, s1, s2, s3, s4⟩ := MB.st0 es
    have P4 := bd_P ht hb
    have B36 := sB_36 (decide (j = 1)) D 64 (Nat.le_refl _)
    subst eb
    by_cases c1 : ¬ i < 1 ∧ ¬ 3 < i
    · by_cases c2 : ¬ what < 0 ∧ what ≤ 1
      · have f1 : ¬ fRg i 1 3 = 0 := fun q => fRg_13.mp q c1
        have f2 : ¬ fRg what 0 1 = 0 := fun q => fRg_01b.mp q c2
        obtain ⟨h2, T, F2, M2⟩ := m_laysTable (V := V) (n := n) (z := z) ht hb L
        obtain ⟨lm2, n32, ⟨st2, of2, le2, vx2, tu2, lx2, ly2, n33, es2, n47, n48, n49, n50, n51, n52⟩, ⟨fr2, sz2, fx2, fy2, wn2, cx2, cy2, go2, n39, n40, n41, n42, n43, n44, n45, n46, ml2⟩, ⟨-, -, of3, vx3, o47, o49, tof, tvx⟩⟩ := id T
        have eof : of3 = of2 := by have := o47.symm.trans n47; injection this with this; injection this with _ this; injection this
        have evx : vx3 = vx2 := by have := o49.symm.trans n49; injection this with this; injection this with _ this; injection this
        subst eof evx
        obtain ⟨⟨p1, p2, p3, p4, p5⟩, p6⟩ := ml2 t ht hb
        obtain ⟨s20, s21, s22, s23, s24⟩ := MB.st0 es2
        obtain ⟨z1, z2, z3⟩ := bd_zC ht hb
        have Sx := ((Gd_all (decide (j = 1)) D).2 t ht hb).2.1
        have Bx := bd_Bnd ht hb
        have FT := FQ.tr F2 F
        have QT := (MLt.d ht hb T).q
        refine ⟨h2, QT, FT, ?_⟩
        have ei : fRg k 0 (nI (zN (decide (j = 1)) D t) - 1) = fIn2 k (nI (zN (decide (j = 1)) D t)) := fRg_P (by omega)
        by_cases cf : fIn2 k (nI (zN (decide (j = 1)) D t)) = 0
        · have qn : q_point V W H D j s (nI (sB (decide (j = 1)) D t)) k i what = -1000001 := by unfold q_point; rw [hq]; simp only; rw [if_neg (fun q => q.1 cf)]
          rw [qn]
          refine AMet.intro (Nat.le_refl _) (Nat.le_refl _) (by decide) (Nat.le_of_ble_eq_true rfl) rfl ?_
          refine a_aload_n d_Mod_point_0 rfl ?_
          refine a_iload_n d_Mod_point_1 rfl ?_
          refine a_cv0 (a := 32) d_Mod_point_2 m_Mod_isBorder t_Mod_isBorder l_Mod_169 g32 rfl rfl M rfl rfl ⟨Nat.le_of_ble_eq_true rfl, Nat.le_of_ble_eq_true rfl⟩ (Nat.le_of_ble_eq_true rfl)  ?_
          refine a_if_eq 27 d_Mod_point_5 (by decide) (fun c5 => absurd c5 (by decide)) (fun c5 => ?_)
          refine a_iload_n d_Mod_point_8 rfl ?_
          refine a_iconst (v := 1) d_Mod_point_9 (by decide) ?_
          refine a_iconst (v := 3) d_Mod_point_10 (by decide) ?_
          refine a_cs0 d_Mod_point_11 m_Mod_in t_Mod_in l_Mod_71 (s_Mod_in _ _ _) rfl rfl ⟨Nat.le_of_ble_eq_true rfl, Nat.le_of_ble_eq_true rfl⟩ (Nat.le_of_ble_eq_true rfl)  ?_
          refine a_if_eq 27 d_Mod_point_14 (by decide) (fun c14 => absurd c14 f1) (fun c14 => ?_)
          refine a_iload d_Mod_point_17 rfl ?_
          refine a_iconst (v := 0) d_Mod_point_19 (by decide) ?_
          refine a_iconst (v := 1) d_Mod_point_20 (by decide) ?_
          refine a_cs0 d_Mod_point_21 m_Mod_in t_Mod_in l_Mod_71 (s_Mod_in _ _ _) rfl rfl ⟨Nat.le_of_ble_eq_true rfl, Nat.le_of_ble_eq_true rfl⟩ (Nat.le_of_ble_eq_true rfl)  ?_
          refine a_if_ne 30 d_Mod_point_24 (by decide) (fun c24 => ?_) (fun c24 => absurd c24 f2)
          refine a_aload_n d_Mod_point_30 rfl ?_
          refine a_iload_n d_Mod_point_31 rfl ?_
          refine a_cv0 (a := 32) d_Mod_point_32 m_Mod_laysTable t_Mod_laysTable l_Mod_226 k32 rfl rfl M2 rfl rfl ⟨Nat.le_of_ble_eq_true rfl, Nat.le_of_ble_eq_true rfl⟩ (Nat.le_of_ble_eq_true rfl)  ?_
          refine a_iload_n d_Mod_point_35 rfl ?_
          refine a_iconst (v := 0) d_Mod_point_36 (by decide) ?_
          refine a_aload_n d_Mod_point_37 rfl ?_
          refine a_getf d_Mod_point_38 f_Mod_205 n32 rfl ?_
          refine a_iconst (v := 1) d_Mod_point_41 (by decide) ?_
          refine a_isub d_Mod_point_42 ?_
          refine a_cs0 d_Mod_point_43 m_Mod_in t_Mod_in l_Mod_71 (s_Mod_in _ _ _) rfl rfl ⟨Nat.le_of_ble_eq_true rfl, Nat.le_of_ble_eq_true rfl⟩ (Nat.le_of_ble_eq_true rfl)  ?_
          refine a_if_ne 52 d_Mod_point_46 (by decide) (fun c46 => absurd c46 (fun q => q (ei.trans cf))) (fun c46 => ?_)
          refine a_ldc d_Mod_point_49 k_Mod_75 ?_
          exact a_iret d_Mod_point_51 rfl rfl rfl rfl
        · obtain ⟨K, hK, eK⟩ := fIn2_ok (by omega) cf
          subst eK
          by_cases cs : shC (bX (decide (j = 1)) D t) (bY (decide (j = 1)) D t) (sP (decide (j = 1)) D t) (zN (decide (j = 1)) D t) (zC (decide (j = 1)) D t) s K = 0
          · obtain ⟨I, hI, eI⟩ := nI_of2 (x := i) (M := 3) (n := 3) (by decide) (fun q => c1.1 (Int32.lt_trans q (by decide))) (Int32.not_lt.mp c1.2)
            subst eI
            obtain ⟨Wh, hWh, eW⟩ := nI_of2 (x := what) (M := 1) (n := 1) (by decide) c2.1 c2.2
            subst eW
            rcases (show I = 0 ∨ I = 1 ∨ I = 2 ∨ I = 3 by omega) with rfl | rfl | rfl | rfl
            · exact absurd (by decide) c1.1
            · rcases (show Wh = 0 ∨ Wh = 1 by omega) with rfl | rfl
              · have qn : q_point V W H D j s (nI (sB (decide (j = 1)) D t)) (nI K) (nI 1) (nI 0) = rnC V (bX (decide (j = 1)) D t) (sP (decide (j = 1)) D t) (zN (decide (j = 1)) D t) (zC (decide (j = 1)) D t) 1 K := by
                  unfold q_point; rw [hq]; simp only; rw [if_pos ⟨cf, c1.1, c1.2, c2.1, c2.2⟩, nI_clamp (by omega), nI_clamp (by omega), if_pos cs]
                  first | rw [if_pos (by decide)] | rw [if_neg (by decide)]
                rw [qn]
                refine AMet.intro (Nat.le_refl _) (Nat.le_refl _) (by decide) (Nat.le_of_ble_eq_true rfl) rfl ?_
                refine a_aload_n d_Mod_point_0 rfl ?_
                refine a_iload_n d_Mod_point_1 rfl ?_
                refine a_cv0 (a := 32) d_Mod_point_2 m_Mod_isBorder t_Mod_isBorder l_Mod_169 g32 rfl rfl M rfl rfl ⟨Nat.le_of_ble_eq_true rfl, Nat.le_of_ble_eq_true rfl⟩ (Nat.le_of_ble_eq_true rfl)  ?_
                refine a_if_eq 27 d_Mod_point_5 (by decide) (fun c5 => absurd c5 (by decide)) (fun c5 => ?_)
                refine a_iload_n d_Mod_point_8 rfl ?_
                refine a_iconst (v := 1) d_Mod_point_9 (by decide) ?_
                refine a_iconst (v := 3) d_Mod_point_10 (by decide) ?_
                refine a_cs0 d_Mod_point_11 m_Mod_in t_Mod_in l_Mod_71 (s_Mod_in _ _ _) rfl rfl ⟨Nat.le_of_ble_eq_true rfl, Nat.le_of_ble_eq_true rfl⟩ (Nat.le_of_ble_eq_true rfl)  ?_
                refine a_if_eq 27 d_Mod_point_14 (by decide) (fun c14 => absurd c14 f1) (fun c14 => ?_)
                refine a_iload d_Mod_point_17 rfl ?_
                refine a_iconst (v := 0) d_Mod_point_19 (by decide) ?_
                refine a_iconst (v := 1) d_Mod_point_20 (by decide) ?_
                refine a_cs0 d_Mod_point_21 m_Mod_in t_Mod_in l_Mod_71 (s_Mod_in _ _ _) rfl rfl ⟨Nat.le_of_ble_eq_true rfl, Nat.le_of_ble_eq_true rfl⟩ (Nat.le_of_ble_eq_true rfl)  ?_
                refine a_if_ne 30 d_Mod_point_24 (by decide) (fun c24 => ?_) (fun c24 => absurd c24 f2)
                refine a_aload_n d_Mod_point_30 rfl ?_
                refine a_iload_n d_Mod_point_31 rfl ?_
                refine a_cv0 (a := 32) d_Mod_point_32 m_Mod_laysTable t_Mod_laysTable l_Mod_226 k32 rfl rfl M2 rfl rfl ⟨Nat.le_of_ble_eq_true rfl, Nat.le_of_ble_eq_true rfl⟩ (Nat.le_of_ble_eq_true rfl)  ?_
                refine a_iload_n d_Mod_point_35 rfl ?_
                refine a_iconst (v := 0) d_Mod_point_36 (by decide) ?_
                refine a_aload_n d_Mod_point_37 rfl ?_
                refine a_getf d_Mod_point_38 f_Mod_205 n32 rfl ?_
                refine a_iconst (v := 1) d_Mod_point_41 (by decide) ?_
                refine a_isub d_Mod_point_42 ?_
                refine a_cs0 d_Mod_point_43 m_Mod_in t_Mod_in l_Mod_71 (s_Mod_in _ _ _) rfl rfl ⟨Nat.le_of_ble_eq_true rfl, Nat.le_of_ble_eq_true rfl⟩ (Nat.le_of_ble_eq_true rfl)  ?_
                refine a_if_ne 52 d_Mod_point_46 (by decide) (fun c46 => ?_) (fun c46 => absurd c46 (fun q => cf (ei.symm.trans q)))
                refine a_aload_n d_Mod_point_52 rfl ?_
                refine a_iload_n d_Mod_point_53 rfl ?_
                refine a_iload_n d_Mod_point_54 rfl ?_
                refine a_cv0 (a := 32) d_Mod_point_55 m_Mod_isSharp t_Mod_isSharp l_Mod_223 n32 rfl rfl (s_Mod_isSharp n32 n39 n44 n45 n49 (show (sB (decide (j = 1)) D t) < 40 by omega) p1 P4.2.2 z1 z2 (fun k hk => ⟨(p6 k hk).1, (p6 k hk).2.1⟩) tvx z3 n33 s23 (by omega) Sx Bx) rfl rfl ⟨Nat.le_of_ble_eq_true rfl, Nat.le_of_ble_eq_true rfl⟩ (Nat.le_of_ble_eq_true rfl)  ?_
                refine a_if_eq 66 d_Mod_point_58 (by decide) (fun c58 => ?_) (fun c58 => absurd cs c58)
                refine a_aload_n d_Mod_point_66 rfl ?_
                refine a_iload_n d_Mod_point_67 rfl ?_
                refine a_iload_n d_Mod_point_68 rfl ?_
                refine a_iload_n d_Mod_point_69 rfl ?_
                refine a_iload d_Mod_point_70 rfl ?_
                refine a_cv0 (a := 32) d_Mod_point_72 m_Mod_pointOf t_Mod_pointOf l_Mod_238 n32 rfl rfl (s_Mod_point01 n32 n39 n44 n45 n49 (show (sB (decide (j = 1)) D t) < 40 by omega) p1 P4.2.2 z1 z2 (fun k hk => ⟨(p6 k hk).1, (p6 k hk).2.1⟩) tvx z3 (by omega)) rfl rfl ⟨Nat.le_of_ble_eq_true rfl, Nat.le_of_ble_eq_true rfl⟩ (Nat.le_of_ble_eq_true rfl)  ?_
                exact a_iret d_Mod_point_75 rfl rfl rfl rfl
              · have qn : q_point V W H D j s (nI (sB (decide (j = 1)) D t)) (nI K) (nI 1) (nI 1) = rnC V (bY (decide (j = 1)) D t) (sP (decide (j = 1)) D t) (zN (decide (j = 1)) D t) (zC (decide (j = 1)) D t) 1 K := by
                  unfold q_point; rw [hq]; simp only; rw [if_pos ⟨cf, c1.1, c1.2, c2.1, c2.2⟩, nI_clamp (by omega), nI_clamp (by omega), if_pos cs]
                  first | rw [if_pos (by decide)] | rw [if_neg (by decide)]
                rw [qn]
                refine AMet.intro (Nat.le_refl _) (Nat.le_refl _) (by decide) (Nat.le_of_ble_eq_true rfl) rfl ?_
                refine a_aload_n d_Mod_point_0 rfl ?_
                refine a_iload_n d_Mod_point_1 rfl ?_
                refine a_cv0 (a := 32) d_Mod_point_2 m_Mod_isBorder t_Mod_isBorder l_Mod_169 g32 rfl rfl M rfl rfl ⟨Nat.le_of_ble_eq_true rfl, Nat.le_of_ble_eq_true rfl⟩ (Nat.le_of_ble_eq_true rfl)  ?_
                refine a_if_eq 27 d_Mod_point_5 (by decide) (fun c5 => absurd c5 (by decide)) (fun c5 => ?_)
                refine a_iload_n d_Mod_point_8 rfl ?_
                refine a_iconst (v := 1) d_Mod_point_9 (by decide) ?_
                refine a_iconst (v := 3) d_Mod_point_10 (by decide) ?_
                refine a_cs0 d_Mod_point_11 m_Mod_in t_Mod_in l_Mod_71 (s_Mod_in _ _ _) rfl rfl ⟨Nat.le_of_ble_eq_true rfl, Nat.le_of_ble_eq_true rfl⟩ (Nat.le_of_ble_eq_true rfl)  ?_
                refine a_if_eq 27 d_Mod_point_14 (by decide) (fun c14 => absurd c14 f1) (fun c14 => ?_)
                refine a_iload d_Mod_point_17 rfl ?_
                refine a_iconst (v := 0) d_Mod_point_19 (by decide) ?_
                refine a_iconst (v := 1) d_Mod_point_20 (by decide) ?_
                refine a_cs0 d_Mod_point_21 m_Mod_in t_Mod_in l_Mod_71 (s_Mod_in _ _ _) rfl rfl ⟨Nat.le_of_ble_eq_true rfl, Nat.le_of_ble_eq_true rfl⟩ (Nat.le_of_ble_eq_true rfl)  ?_
                refine a_if_ne 30 d_Mod_point_24 (by decide) (fun c24 => ?_) (fun c24 => absurd c24 f2)
                refine a_aload_n d_Mod_point_30 rfl ?_
                refine a_iload_n d_Mod_point_31 rfl ?_
                refine a_cv0 (a := 32) d_Mod_point_32 m_Mod_laysTable t_Mod_laysTable l_Mod_226 k32 rfl rfl M2 rfl rfl ⟨Nat.le_of_ble_eq_true rfl, Nat.le_of_ble_eq_true rfl⟩ (Nat.le_of_ble_eq_true rfl)  ?_
                refine a_iload_n d_Mod_point_35 rfl ?_
                refine a_iconst (v := 0) d_Mod_point_36 (by decide) ?_
                refine a_aload_n d_Mod_point_37 rfl ?_
                refine a_getf d_Mod_point_38 f_Mod_205 n32 rfl ?_
                refine a_iconst (v := 1) d_Mod_point_41 (by decide) ?_
                refine a_isub d_Mod_point_42 ?_
                refine a_cs0 d_Mod_point_43 m_Mod_in t_Mod_in l_Mod_71 (s_Mod_in _ _ _) rfl rfl ⟨Nat.le_of_ble_eq_true rfl, Nat.le_of_ble_eq_true rfl⟩ (Nat.le_of_ble_eq_true rfl)  ?_
                refine a_if_ne 52 d_Mod_point_46 (by decide) (fun c46 => ?_) (fun c46 => absurd c46 (fun q => cf (ei.symm.trans q)))
                refine a_aload_n d_Mod_point_52 rfl ?_
                refine a_iload_n d_Mod_point_53 rfl ?_
                refine a_iload_n d_Mod_point_54 rfl ?_
                refine a_cv0 (a := 32) d_Mod_point_55 m_Mod_isSharp t_Mod_isSharp l_Mod_223 n32 rfl rfl (s_Mod_isSharp n32 n39 n44 n45 n49 (show (sB (decide (j = 1)) D t) < 40 by omega) p1 P4.2.2 z1 z2 (fun k hk => ⟨(p6 k hk).1, (p6 k hk).2.1⟩) tvx z3 n33 s23 (by omega) Sx Bx) rfl rfl ⟨Nat.le_of_ble_eq_true rfl, Nat.le_of_ble_eq_true rfl⟩ (Nat.le_of_ble_eq_true rfl)  ?_
                refine a_if_eq 66 d_Mod_point_58 (by decide) (fun c58 => ?_) (fun c58 => absurd cs c58)
                refine a_aload_n d_Mod_point_66 rfl ?_
                refine a_iload_n d_Mod_point_67 rfl ?_
                refine a_iload_n d_Mod_point_68 rfl ?_
                refine a_iload_n d_Mod_point_69 rfl ?_
                refine a_iload d_Mod_point_70 rfl ?_
                refine a_cv0 (a := 32) d_Mod_point_72 m_Mod_pointOf t_Mod_pointOf l_Mod_238 n32 rfl rfl (s_Mod_point11 n32 n39 n44 n45 n49 (show (sB (decide (j = 1)) D t) < 40 by omega) p1 P4.2.2 z1 z2 (fun k hk => ⟨(p6 k hk).1, (p6 k hk).2.1⟩) tvx z3 (by omega)) rfl rfl ⟨Nat.le_of_ble_eq_true rfl, Nat.le_of_ble_eq_true rfl⟩ (Nat.le_of_ble_eq_true rfl)  ?_
                exact a_iret d_Mod_point_75 rfl rfl rfl rfl
            · rcases (show Wh = 0 ∨ Wh = 1 by omega) with rfl | rfl
              · have qn : q_point V W H D j s (nI (sB (decide (j = 1)) D t)) (nI K) (nI 2) (nI 0) = rnC V (bX (decide (j = 1)) D t) (sP (decide (j = 1)) D t) (zN (decide (j = 1)) D t) (zC (decide (j = 1)) D t) 2 K := by
                  unfold q_point; rw [hq]; simp only; rw [if_pos ⟨cf, c1.1, c1.2, c2.1, c2.2⟩, nI_clamp (by omega), nI_clamp (by omega), if_pos cs]
                  first | rw [if_pos (by decide)] | rw [if_neg (by decide)]
                rw [qn]
                refine AMet.intro (Nat.le_refl _) (Nat.le_refl _) (by decide) (Nat.le_of_ble_eq_true rfl) rfl ?_
                refine a_aload_n d_Mod_point_0 rfl ?_
                refine a_iload_n d_Mod_point_1 rfl ?_
                refine a_cv0 (a := 32) d_Mod_point_2 m_Mod_isBorder t_Mod_isBorder l_Mod_169 g32 rfl rfl M rfl rfl ⟨Nat.le_of_ble_eq_true rfl, Nat.le_of_ble_eq_true rfl⟩ (Nat.le_of_ble_eq_true rfl)  ?_
                refine a_if_eq 27 d_Mod_point_5 (by decide) (fun c5 => absurd c5 (by decide)) (fun c5 => ?_)
                refine a_iload_n d_Mod_point_8 rfl ?_
                refine a_iconst (v := 1) d_Mod_point_9 (by decide) ?_
                refine a_iconst (v := 3) d_Mod_point_10 (by decide) ?_
                refine a_cs0 d_Mod_point_11 m_Mod_in t_Mod_in l_Mod_71 (s_Mod_in _ _ _) rfl rfl ⟨Nat.le_of_ble_eq_true rfl, Nat.le_of_ble_eq_true rfl⟩ (Nat.le_of_ble_eq_true rfl)  ?_
                refine a_if_eq 27 d_Mod_point_14 (by decide) (fun c14 => absurd c14 f1) (fun c14 => ?_)
                refine a_iload d_Mod_point_17 rfl ?_
                refine a_iconst (v := 0) d_Mod_point_19 (by decide) ?_
                refine a_iconst (v := 1) d_Mod_point_20 (by decide) ?_
                refine a_cs0 d_Mod_point_21 m_Mod_in t_Mod_in l_Mod_71 (s_Mod_in _ _ _) rfl rfl ⟨Nat.le_of_ble_eq_true rfl, Nat.le_of_ble_eq_true rfl⟩ (Nat.le_of_ble_eq_true rfl)  ?_
                refine a_if_ne 30 d_Mod_point_24 (by decide) (fun c24 => ?_) (fun c24 => absurd c24 f2)
                refine a_aload_n d_Mod_point_30 rfl ?_
                refine a_iload_n d_Mod_point_31 rfl ?_
                refine a_cv0 (a := 32) d_Mod_point_32 m_Mod_laysTable t_Mod_laysTable l_Mod_226 k32 rfl rfl M2 rfl rfl ⟨Nat.le_of_ble_eq_true rfl, Nat.le_of_ble_eq_true rfl⟩ (Nat.le_of_ble_eq_true rfl)  ?_
                refine a_iload_n d_Mod_point_35 rfl ?_
                refine a_iconst (v := 0) d_Mod_point_36 (by decide) ?_
                refine a_aload_n d_Mod_point_37 rfl ?_
                refine a_getf d_Mod_point_38 f_Mod_205 n32 rfl ?_
                refine a_iconst (v := 1) d_Mod_point_41 (by decide) ?_
                refine a_isub d_Mod_point_42 ?_
                refine a_cs0 d_Mod_point_43 m_Mod_in t_Mod_in l_Mod_71 (s_Mod_in _ _ _) rfl rfl ⟨Nat.le_of_ble_eq_true rfl, Nat.le_of_ble_eq_true rfl⟩ (Nat.le_of_ble_eq_true rfl)  ?_
                refine a_if_ne 52 d_Mod_point_46 (by decide) (fun c46 => ?_) (fun c46 => absurd c46 (fun q => cf (ei.symm.trans q)))
                refine a_aload_n d_Mod_point_52 rfl ?_
                refine a_iload_n d_Mod_point_53 rfl ?_
                refine a_iload_n d_Mod_point_54 rfl ?_
                refine a_cv0 (a := 32) d_Mod_point_55 m_Mod_isSharp t_Mod_isSharp l_Mod_223 n32 rfl rfl (s_Mod_isSharp n32 n39 n44 n45 n49 (show (sB (decide (j = 1)) D t) < 40 by omega) p1 P4.2.2 z1 z2 (fun k hk => ⟨(p6 k hk).1, (p6 k hk).2.1⟩) tvx z3 n33 s23 (by omega) Sx Bx) rfl rfl ⟨Nat.le_of_ble_eq_true rfl, Nat.le_of_ble_eq_true rfl⟩ (Nat.le_of_ble_eq_true rfl)  ?_
                refine a_if_eq 66 d_Mod_point_58 (by decide) (fun c58 => ?_) (fun c58 => absurd cs c58)
                refine a_aload_n d_Mod_point_66 rfl ?_
                refine a_iload_n d_Mod_point_67 rfl ?_
                refine a_iload_n d_Mod_point_68 rfl ?_
                refine a_iload_n d_Mod_point_69 rfl ?_
                refine a_iload d_Mod_point_70 rfl ?_
                refine a_cv0 (a := 32) d_Mod_point_72 m_Mod_pointOf t_Mod_pointOf l_Mod_238 n32 rfl rfl (s_Mod_point02 n32 n39 n44 n45 n49 (show (sB (decide (j = 1)) D t) < 40 by omega) p1 P4.2.2 z1 z2 (fun k hk => ⟨(p6 k hk).1, (p6 k hk).2.1⟩) tvx z3 (by omega)) rfl rfl ⟨Nat.le_of_ble_eq_true rfl, Nat.le_of_ble_eq_true rfl⟩ (Nat.le_of_ble_eq_true rfl)  ?_
                exact a_iret d_Mod_point_75 rfl rfl rfl rfl
              · have qn : q_point V W H D j s (nI (sB (decide (j = 1)) D t)) (nI K) (nI 2) (nI 1) = rnC V (bY (decide (j = 1)) D t) (sP (decide (j = 1)) D t) (zN (decide (j = 1)) D t) (zC (decide (j = 1)) D t) 2 K := by
                  unfold q_point; rw [hq]; simp only; rw [if_pos ⟨cf, c1.1, c1.2, c2.1, c2.2⟩, nI_clamp (by omega), nI_clamp (by omega), if_pos cs]
                  first | rw [if_pos (by decide)] | rw [if_neg (by decide)]
                rw [qn]
                refine AMet.intro (Nat.le_refl _) (Nat.le_refl _) (by decide) (Nat.le_of_ble_eq_true rfl) rfl ?_
                refine a_aload_n d_Mod_point_0 rfl ?_
                refine a_iload_n d_Mod_point_1 rfl ?_
                refine a_cv0 (a := 32) d_Mod_point_2 m_Mod_isBorder t_Mod_isBorder l_Mod_169 g32 rfl rfl M rfl rfl ⟨Nat.le_of_ble_eq_true rfl, Nat.le_of_ble_eq_true rfl⟩ (Nat.le_of_ble_eq_true rfl)  ?_
                refine a_if_eq 27 d_Mod_point_5 (by decide) (fun c5 => absurd c5 (by decide)) (fun c5 => ?_)
                refine a_iload_n d_Mod_point_8 rfl ?_
                refine a_iconst (v := 1) d_Mod_point_9 (by decide) ?_
                refine a_iconst (v := 3) d_Mod_point_10 (by decide) ?_
                refine a_cs0 d_Mod_point_11 m_Mod_in t_Mod_in l_Mod_71 (s_Mod_in _ _ _) rfl rfl ⟨Nat.le_of_ble_eq_true rfl, Nat.le_of_ble_eq_true rfl⟩ (Nat.le_of_ble_eq_true rfl)  ?_
                refine a_if_eq 27 d_Mod_point_14 (by decide) (fun c14 => absurd c14 f1) (fun c14 => ?_)
                refine a_iload d_Mod_point_17 rfl ?_
                refine a_iconst (v := 0) d_Mod_point_19 (by decide) ?_
                refine a_iconst (v := 1) d_Mod_point_20 (by decide) ?_
                refine a_cs0 d_Mod_point_21 m_Mod_in t_Mod_in l_Mod_71 (s_Mod_in _ _ _) rfl rfl ⟨Nat.le_of_ble_eq_true rfl, Nat.le_of_ble_eq_true rfl⟩ (Nat.le_of_ble_eq_true rfl)  ?_
                refine a_if_ne 30 d_Mod_point_24 (by decide) (fun c24 => ?_) (fun c24 => absurd c24 f2)
                refine a_aload_n d_Mod_point_30 rfl ?_
                refine a_iload_n d_Mod_point_31 rfl ?_
                refine a_cv0 (a := 32) d_Mod_point_32 m_Mod_laysTable t_Mod_laysTable l_Mod_226 k32 rfl rfl M2 rfl rfl ⟨Nat.le_of_ble_eq_true rfl, Nat.le_of_ble_eq_true rfl⟩ (Nat.le_of_ble_eq_true rfl)  ?_
                refine a_iload_n d_Mod_point_35 rfl ?_
                refine a_iconst (v := 0) d_Mod_point_36 (by decide) ?_
                refine a_aload_n d_Mod_point_37 rfl ?_
                refine a_getf d_Mod_point_38 f_Mod_205 n32 rfl ?_
                refine a_iconst (v := 1) d_Mod_point_41 (by decide) ?_
                refine a_isub d_Mod_point_42 ?_
                refine a_cs0 d_Mod_point_43 m_Mod_in t_Mod_in l_Mod_71 (s_Mod_in _ _ _) rfl rfl ⟨Nat.le_of_ble_eq_true rfl, Nat.le_of_ble_eq_true rfl⟩ (Nat.le_of_ble_eq_true rfl)  ?_
                refine a_if_ne 52 d_Mod_point_46 (by decide) (fun c46 => ?_) (fun c46 => absurd c46 (fun q => cf (ei.symm.trans q)))
                refine a_aload_n d_Mod_point_52 rfl ?_
                refine a_iload_n d_Mod_point_53 rfl ?_
                refine a_iload_n d_Mod_point_54 rfl ?_
                refine a_cv0 (a := 32) d_Mod_point_55 m_Mod_isSharp t_Mod_isSharp l_Mod_223 n32 rfl rfl (s_Mod_isSharp n32 n39 n44 n45 n49 (show (sB (decide (j = 1)) D t) < 40 by omega) p1 P4.2.2 z1 z2 (fun k hk => ⟨(p6 k hk).1, (p6 k hk).2.1⟩) tvx z3 n33 s23 (by omega) Sx Bx) rfl rfl ⟨Nat.le_of_ble_eq_true rfl, Nat.le_of_ble_eq_true rfl⟩ (Nat.le_of_ble_eq_true rfl)  ?_
                refine a_if_eq 66 d_Mod_point_58 (by decide) (fun c58 => ?_) (fun c58 => absurd cs c58)
                refine a_aload_n d_Mod_point_66 rfl ?_
                refine a_iload_n d_Mod_point_67 rfl ?_
                refine a_iload_n d_Mod_point_68 rfl ?_
                refine a_iload_n d_Mod_point_69 rfl ?_
                refine a_iload d_Mod_point_70 rfl ?_
                refine a_cv0 (a := 32) d_Mod_point_72 m_Mod_pointOf t_Mod_pointOf l_Mod_238 n32 rfl rfl (s_Mod_point12 n32 n39 n44 n45 n49 (show (sB (decide (j = 1)) D t) < 40 by omega) p1 P4.2.2 z1 z2 (fun k hk => ⟨(p6 k hk).1, (p6 k hk).2.1⟩) tvx z3 (by omega)) rfl rfl ⟨Nat.le_of_ble_eq_true rfl, Nat.le_of_ble_eq_true rfl⟩ (Nat.le_of_ble_eq_true rfl)  ?_
                exact a_iret d_Mod_point_75 rfl rfl rfl rfl
            · rcases (show Wh = 0 ∨ Wh = 1 by omega) with rfl | rfl
              · have qn : q_point V W H D j s (nI (sB (decide (j = 1)) D t)) (nI K) (nI 3) (nI 0) = rnC V (bX (decide (j = 1)) D t) (sP (decide (j = 1)) D t) (zN (decide (j = 1)) D t) (zC (decide (j = 1)) D t) 3 K := by
                  unfold q_point; rw [hq]; simp only; rw [if_pos ⟨cf, c1.1, c1.2, c2.1, c2.2⟩, nI_clamp (by omega), nI_clamp (by omega), if_pos cs]
                  first | rw [if_pos (by decide)] | rw [if_neg (by decide)]
                rw [qn]
                refine AMet.intro (Nat.le_refl _) (Nat.le_refl _) (by decide) (Nat.le_of_ble_eq_true rfl) rfl ?_
                refine a_aload_n d_Mod_point_0 rfl ?_
                refine a_iload_n d_Mod_point_1 rfl ?_
                refine a_cv0 (a := 32) d_Mod_point_2 m_Mod_isBorder t_Mod_isBorder l_Mod_169 g32 rfl rfl M rfl rfl ⟨Nat.le_of_ble_eq_true rfl, Nat.le_of_ble_eq_true rfl⟩ (Nat.le_of_ble_eq_true rfl)  ?_
                refine a_if_eq 27 d_Mod_point_5 (by decide) (fun c5 => absurd c5 (by decide)) (fun c5 => ?_)
                refine a_iload_n d_Mod_point_8 rfl ?_
                refine a_iconst (v := 1) d_Mod_point_9 (by decide) ?_
                refine a_iconst (v := 3) d_Mod_point_10 (by decide) ?_
                refine a_cs0 d_Mod_point_11 m_Mod_in t_Mod_in l_Mod_71 (s_Mod_in _ _ _) rfl rfl ⟨Nat.le_of_ble_eq_true rfl, Nat.le_of_ble_eq_true rfl⟩ (Nat.le_of_ble_eq_true rfl)  ?_
                refine a_if_eq 27 d_Mod_point_14 (by decide) (fun c14 => absurd c14 f1) (fun c14 => ?_)
                refine a_iload d_Mod_point_17 rfl ?_
                refine a_iconst (v := 0) d_Mod_point_19 (by decide) ?_
                refine a_iconst (v := 1) d_Mod_point_20 (by decide) ?_
                refine a_cs0 d_Mod_point_21 m_Mod_in t_Mod_in l_Mod_71 (s_Mod_in _ _ _) rfl rfl ⟨Nat.le_of_ble_eq_true rfl, Nat.le_of_ble_eq_true rfl⟩ (Nat.le_of_ble_eq_true rfl)  ?_
                refine a_if_ne 30 d_Mod_point_24 (by decide) (fun c24 => ?_) (fun c24 => absurd c24 f2)
                refine a_aload_n d_Mod_point_30 rfl ?_
                refine a_iload_n d_Mod_point_31 rfl ?_
                refine a_cv0 (a := 32) d_Mod_point_32 m_Mod_laysTable t_Mod_laysTable l_Mod_226 k32 rfl rfl M2 rfl rfl ⟨Nat.le_of_ble_eq_true rfl, Nat.le_of_ble_eq_true rfl⟩ (Nat.le_of_ble_eq_true rfl)  ?_
                refine a_iload_n d_Mod_point_35 rfl ?_
                refine a_iconst (v := 0) d_Mod_point_36 (by decide) ?_
                refine a_aload_n d_Mod_point_37 rfl ?_
                refine a_getf d_Mod_point_38 f_Mod_205 n32 rfl ?_
                refine a_iconst (v := 1) d_Mod_point_41 (by decide) ?_
                refine a_isub d_Mod_point_42 ?_
                refine a_cs0 d_Mod_point_43 m_Mod_in t_Mod_in l_Mod_71 (s_Mod_in _ _ _) rfl rfl ⟨Nat.le_of_ble_eq_true rfl, Nat.le_of_ble_eq_true rfl⟩ (Nat.le_of_ble_eq_true rfl)  ?_
                refine a_if_ne 52 d_Mod_point_46 (by decide) (fun c46 => ?_) (fun c46 => absurd c46 (fun q => cf (ei.symm.trans q)))
                refine a_aload_n d_Mod_point_52 rfl ?_
                refine a_iload_n d_Mod_point_53 rfl ?_
                refine a_iload_n d_Mod_point_54 rfl ?_
                refine a_cv0 (a := 32) d_Mod_point_55 m_Mod_isSharp t_Mod_isSharp l_Mod_223 n32 rfl rfl (s_Mod_isSharp n32 n39 n44 n45 n49 (show (sB (decide (j = 1)) D t) < 40 by omega) p1 P4.2.2 z1 z2 (fun k hk => ⟨(p6 k hk).1, (p6 k hk).2.1⟩) tvx z3 n33 s23 (by omega) Sx Bx) rfl rfl ⟨Nat.le_of_ble_eq_true rfl, Nat.le_of_ble_eq_true rfl⟩ (Nat.le_of_ble_eq_true rfl)  ?_
                refine a_if_eq 66 d_Mod_point_58 (by decide) (fun c58 => ?_) (fun c58 => absurd cs c58)
                refine a_aload_n d_Mod_point_66 rfl ?_
                refine a_iload_n d_Mod_point_67 rfl ?_
                refine a_iload_n d_Mod_point_68 rfl ?_
                refine a_iload_n d_Mod_point_69 rfl ?_
                refine a_iload d_Mod_point_70 rfl ?_
                refine a_cv0 (a := 32) d_Mod_point_72 m_Mod_pointOf t_Mod_pointOf l_Mod_238 n32 rfl rfl (s_Mod_point03 n32 n39 n44 n45 n49 (show (sB (decide (j = 1)) D t) < 40 by omega) p1 P4.2.2 z1 z2 (fun k hk => ⟨(p6 k hk).1, (p6 k hk).2.1⟩) tvx z3 (by omega)) rfl rfl ⟨Nat.le_of_ble_eq_true rfl, Nat.le_of_ble_eq_true rfl⟩ (Nat.le_of_ble_eq_true rfl)  ?_
                exact a_iret d_Mod_point_75 rfl rfl rfl rfl
              · have qn : q_point V W H D j s (nI (sB (decide (j = 1)) D t)) (nI K) (nI 3) (nI 1) = rnC V (bY (decide (j = 1)) D t) (sP (decide (j = 1)) D t) (zN (decide (j = 1)) D t) (zC (decide (j = 1)) D t) 3 K := by
                  unfold q_point; rw [hq]; simp only; rw [if_pos ⟨cf, c1.1, c1.2, c2.1, c2.2⟩, nI_clamp (by omega), nI_clamp (by omega), if_pos cs]
                  first | rw [if_pos (by decide)] | rw [if_neg (by decide)]
                rw [qn]
                refine AMet.intro (Nat.le_refl _) (Nat.le_refl _) (by decide) (Nat.le_of_ble_eq_true rfl) rfl ?_
                refine a_aload_n d_Mod_point_0 rfl ?_
                refine a_iload_n d_Mod_point_1 rfl ?_
                refine a_cv0 (a := 32) d_Mod_point_2 m_Mod_isBorder t_Mod_isBorder l_Mod_169 g32 rfl rfl M rfl rfl ⟨Nat.le_of_ble_eq_true rfl, Nat.le_of_ble_eq_true rfl⟩ (Nat.le_of_ble_eq_true rfl)  ?_
                refine a_if_eq 27 d_Mod_point_5 (by decide) (fun c5 => absurd c5 (by decide)) (fun c5 => ?_)
                refine a_iload_n d_Mod_point_8 rfl ?_
                refine a_iconst (v := 1) d_Mod_point_9 (by decide) ?_
                refine a_iconst (v := 3) d_Mod_point_10 (by decide) ?_
                refine a_cs0 d_Mod_point_11 m_Mod_in t_Mod_in l_Mod_71 (s_Mod_in _ _ _) rfl rfl ⟨Nat.le_of_ble_eq_true rfl, Nat.le_of_ble_eq_true rfl⟩ (Nat.le_of_ble_eq_true rfl)  ?_
                refine a_if_eq 27 d_Mod_point_14 (by decide) (fun c14 => absurd c14 f1) (fun c14 => ?_)
                refine a_iload d_Mod_point_17 rfl ?_
                refine a_iconst (v := 0) d_Mod_point_19 (by decide) ?_
                refine a_iconst (v := 1) d_Mod_point_20 (by decide) ?_
                refine a_cs0 d_Mod_point_21 m_Mod_in t_Mod_in l_Mod_71 (s_Mod_in _ _ _) rfl rfl ⟨Nat.le_of_ble_eq_true rfl, Nat.le_of_ble_eq_true rfl⟩ (Nat.le_of_ble_eq_true rfl)  ?_
                refine a_if_ne 30 d_Mod_point_24 (by decide) (fun c24 => ?_) (fun c24 => absurd c24 f2)
                refine a_aload_n d_Mod_point_30 rfl ?_
                refine a_iload_n d_Mod_point_31 rfl ?_
                refine a_cv0 (a := 32) d_Mod_point_32 m_Mod_laysTable t_Mod_laysTable l_Mod_226 k32 rfl rfl M2 rfl rfl ⟨Nat.le_of_ble_eq_true rfl, Nat.le_of_ble_eq_true rfl⟩ (Nat.le_of_ble_eq_true rfl)  ?_
                refine a_iload_n d_Mod_point_35 rfl ?_
                refine a_iconst (v := 0) d_Mod_point_36 (by decide) ?_
                refine a_aload_n d_Mod_point_37 rfl ?_
                refine a_getf d_Mod_point_38 f_Mod_205 n32 rfl ?_
                refine a_iconst (v := 1) d_Mod_point_41 (by decide) ?_
                refine a_isub d_Mod_point_42 ?_
                refine a_cs0 d_Mod_point_43 m_Mod_in t_Mod_in l_Mod_71 (s_Mod_in _ _ _) rfl rfl ⟨Nat.le_of_ble_eq_true rfl, Nat.le_of_ble_eq_true rfl⟩ (Nat.le_of_ble_eq_true rfl)  ?_
                refine a_if_ne 52 d_Mod_point_46 (by decide) (fun c46 => ?_) (fun c46 => absurd c46 (fun q => cf (ei.symm.trans q)))
                refine a_aload_n d_Mod_point_52 rfl ?_
                refine a_iload_n d_Mod_point_53 rfl ?_
                refine a_iload_n d_Mod_point_54 rfl ?_
                refine a_cv0 (a := 32) d_Mod_point_55 m_Mod_isSharp t_Mod_isSharp l_Mod_223 n32 rfl rfl (s_Mod_isSharp n32 n39 n44 n45 n49 (show (sB (decide (j = 1)) D t) < 40 by omega) p1 P4.2.2 z1 z2 (fun k hk => ⟨(p6 k hk).1, (p6 k hk).2.1⟩) tvx z3 n33 s23 (by omega) Sx Bx) rfl rfl ⟨Nat.le_of_ble_eq_true rfl, Nat.le_of_ble_eq_true rfl⟩ (Nat.le_of_ble_eq_true rfl)  ?_
                refine a_if_eq 66 d_Mod_point_58 (by decide) (fun c58 => ?_) (fun c58 => absurd cs c58)
                refine a_aload_n d_Mod_point_66 rfl ?_
                refine a_iload_n d_Mod_point_67 rfl ?_
                refine a_iload_n d_Mod_point_68 rfl ?_
                refine a_iload_n d_Mod_point_69 rfl ?_
                refine a_iload d_Mod_point_70 rfl ?_
                refine a_cv0 (a := 32) d_Mod_point_72 m_Mod_pointOf t_Mod_pointOf l_Mod_238 n32 rfl rfl (s_Mod_point13 n32 n39 n44 n45 n49 (show (sB (decide (j = 1)) D t) < 40 by omega) p1 P4.2.2 z1 z2 (fun k hk => ⟨(p6 k hk).1, (p6 k hk).2.1⟩) tvx z3 (by omega)) rfl rfl ⟨Nat.le_of_ble_eq_true rfl, Nat.le_of_ble_eq_true rfl⟩ (Nat.le_of_ble_eq_true rfl)  ?_
                exact a_iret d_Mod_point_75 rfl rfl rfl rfl
          · have qn : q_point V W H D j s (nI (sB (decide (j = 1)) D t)) (nI K) i what = -1000000 := by
              unfold q_point; rw [hq]; simp only; rw [if_pos ⟨cf, c1.1, c1.2, c2.1, c2.2⟩, nI_clamp (by omega), if_neg cs]
            rw [qn]
            refine AMet.intro (Nat.le_refl _) (Nat.le_refl _) (by decide) (Nat.le_of_ble_eq_true rfl) rfl ?_
            refine a_aload_n d_Mod_point_0 rfl ?_
            refine a_iload_n d_Mod_point_1 rfl ?_
            refine a_cv0 (a := 32) d_Mod_point_2 m_Mod_isBorder t_Mod_isBorder l_Mod_169 g32 rfl rfl M rfl rfl ⟨Nat.le_of_ble_eq_true rfl, Nat.le_of_ble_eq_true rfl⟩ (Nat.le_of_ble_eq_true rfl)  ?_
            refine a_if_eq 27 d_Mod_point_5 (by decide) (fun c5 => absurd c5 (by decide)) (fun c5 => ?_)
            refine a_iload_n d_Mod_point_8 rfl ?_
            refine a_iconst (v := 1) d_Mod_point_9 (by decide) ?_
            refine a_iconst (v := 3) d_Mod_point_10 (by decide) ?_
            refine a_cs0 d_Mod_point_11 m_Mod_in t_Mod_in l_Mod_71 (s_Mod_in _ _ _) rfl rfl ⟨Nat.le_of_ble_eq_true rfl, Nat.le_of_ble_eq_true rfl⟩ (Nat.le_of_ble_eq_true rfl)  ?_
            refine a_if_eq 27 d_Mod_point_14 (by decide) (fun c14 => absurd c14 f1) (fun c14 => ?_)
            refine a_iload d_Mod_point_17 rfl ?_
            refine a_iconst (v := 0) d_Mod_point_19 (by decide) ?_
            refine a_iconst (v := 1) d_Mod_point_20 (by decide) ?_
            refine a_cs0 d_Mod_point_21 m_Mod_in t_Mod_in l_Mod_71 (s_Mod_in _ _ _) rfl rfl ⟨Nat.le_of_ble_eq_true rfl, Nat.le_of_ble_eq_true rfl⟩ (Nat.le_of_ble_eq_true rfl)  ?_
            refine a_if_ne 30 d_Mod_point_24 (by decide) (fun c24 => ?_) (fun c24 => absurd c24 f2)
            refine a_aload_n d_Mod_point_30 rfl ?_
            refine a_iload_n d_Mod_point_31 rfl ?_
            refine a_cv0 (a := 32) d_Mod_point_32 m_Mod_laysTable t_Mod_laysTable l_Mod_226 k32 rfl rfl M2 rfl rfl ⟨Nat.le_of_ble_eq_true rfl, Nat.le_of_ble_eq_true rfl⟩ (Nat.le_of_ble_eq_true rfl)  ?_
            refine a_iload_n d_Mod_point_35 rfl ?_
            refine a_iconst (v := 0) d_Mod_point_36 (by decide) ?_
            refine a_aload_n d_Mod_point_37 rfl ?_
            refine a_getf d_Mod_point_38 f_Mod_205 n32 rfl ?_
            refine a_iconst (v := 1) d_Mod_point_41 (by decide) ?_
            refine a_isub d_Mod_point_42 ?_
            refine a_cs0 d_Mod_point_43 m_Mod_in t_Mod_in l_Mod_71 (s_Mod_in _ _ _) rfl rfl ⟨Nat.le_of_ble_eq_true rfl, Nat.le_of_ble_eq_true rfl⟩ (Nat.le_of_ble_eq_true rfl)  ?_
            refine a_if_ne 52 d_Mod_point_46 (by decide) (fun c46 => ?_) (fun c46 => absurd c46 (fun q => cf (ei.symm.trans q)))
            refine a_aload_n d_Mod_point_52 rfl ?_
            refine a_iload_n d_Mod_point_53 rfl ?_
            refine a_iload_n d_Mod_point_54 rfl ?_
            refine a_cv0 (a := 32) d_Mod_point_55 m_Mod_isSharp t_Mod_isSharp l_Mod_223 n32 rfl rfl (s_Mod_isSharp n32 n39 n44 n45 n49 (show (sB (decide (j = 1)) D t) < 40 by omega) p1 P4.2.2 z1 z2 (fun k hk => ⟨(p6 k hk).1, (p6 k hk).2.1⟩) tvx z3 n33 s23 (by omega) Sx Bx) rfl rfl ⟨Nat.le_of_ble_eq_true rfl, Nat.le_of_ble_eq_true rfl⟩ (Nat.le_of_ble_eq_true rfl)  ?_
            refine a_if_eq 66 d_Mod_point_58 (by decide) (fun c58 => absurd c58 cs) (fun c58 => ?_)
            refine a_ldc d_Mod_point_61 k_Mod_185 ?_
            refine a_goto 75 d_Mod_point_63 (by decide) ?_
            exact a_iret d_Mod_point_75 rfl rfl rfl rfl
      · refine ⟨h1, L.q, F, ?_⟩
        have qn : q_point V W H D j s (nI (sB (decide (j = 1)) D t)) k i what = -1000001 := by unfold q_point; rw [hq]; simp only; rw [if_neg (fun q => c2 ⟨q.2.2.2.1, q.2.2.2.2⟩)]
        rw [qn]
        refine AMet.intro (Nat.le_refl _) (Nat.le_refl _) (by decide) (Nat.le_of_ble_eq_true rfl) rfl ?_
        refine a_aload_n d_Mod_point_0 rfl ?_
        refine a_iload_n d_Mod_point_1 rfl ?_
        refine a_cv0 (a := 32) d_Mod_point_2 m_Mod_isBorder t_Mod_isBorder l_Mod_169 g32 rfl rfl M rfl rfl ⟨Nat.le_of_ble_eq_true rfl, Nat.le_of_ble_eq_true rfl⟩ (Nat.le_of_ble_eq_true rfl)  ?_
        refine a_if_eq 27 d_Mod_point_5 (by decide) (fun c5 => absurd c5 (by decide)) (fun c5 => ?_)
        refine a_iload_n d_Mod_point_8 rfl ?_
        refine a_iconst (v := 1) d_Mod_point_9 (by decide) ?_
        refine a_iconst (v := 3) d_Mod_point_10 (by decide) ?_
        refine a_cs0 d_Mod_point_11 m_Mod_in t_Mod_in l_Mod_71 (s_Mod_in _ _ _) rfl rfl ⟨Nat.le_of_ble_eq_true rfl, Nat.le_of_ble_eq_true rfl⟩ (Nat.le_of_ble_eq_true rfl)  ?_
        refine a_if_eq 27 d_Mod_point_14 (by decide) (fun c14 => absurd c14 (fun q => fRg_13.mp q c1)) (fun c14 => ?_)
        refine a_iload d_Mod_point_17 rfl ?_
        refine a_iconst (v := 0) d_Mod_point_19 (by decide) ?_
        refine a_iconst (v := 1) d_Mod_point_20 (by decide) ?_
        refine a_cs0 d_Mod_point_21 m_Mod_in t_Mod_in l_Mod_71 (s_Mod_in _ _ _) rfl rfl ⟨Nat.le_of_ble_eq_true rfl, Nat.le_of_ble_eq_true rfl⟩ (Nat.le_of_ble_eq_true rfl)  ?_
        refine a_if_ne 30 d_Mod_point_24 (by decide) (fun c24 => absurd c24 (fun q => q (fRg_01b.mpr c2))) (fun c24 => ?_)
        refine a_ldc d_Mod_point_27 k_Mod_75 ?_
        exact a_iret d_Mod_point_29 rfl rfl rfl rfl
    · refine ⟨h1, L.q, F, ?_⟩
      have qn : q_point V W H D j s (nI (sB (decide (j = 1)) D t)) k i what = -1000001 := by unfold q_point; rw [hq]; simp only; rw [if_neg (fun q => c1 ⟨q.2.1, q.2.2.1⟩)]
      rw [qn]
      refine AMet.intro (Nat.le_refl _) (Nat.le_refl _) (by decide) (Nat.le_of_ble_eq_true rfl) rfl ?_
      refine a_aload_n d_Mod_point_0 rfl ?_
      refine a_iload_n d_Mod_point_1 rfl ?_
      refine a_cv0 (a := 32) d_Mod_point_2 m_Mod_isBorder t_Mod_isBorder l_Mod_169 g32 rfl rfl M rfl rfl ⟨Nat.le_of_ble_eq_true rfl, Nat.le_of_ble_eq_true rfl⟩ (Nat.le_of_ble_eq_true rfl)  ?_
      refine a_if_eq 27 d_Mod_point_5 (by decide) (fun c5 => absurd c5 (by decide)) (fun c5 => ?_)
      refine a_iload_n d_Mod_point_8 rfl ?_
      refine a_iconst (v := 1) d_Mod_point_9 (by decide) ?_
      refine a_iconst (v := 3) d_Mod_point_10 (by decide) ?_
      refine a_cs0 d_Mod_point_11 m_Mod_in t_Mod_in l_Mod_71 (s_Mod_in _ _ _) rfl rfl ⟨Nat.le_of_ble_eq_true rfl, Nat.le_of_ble_eq_true rfl⟩ (Nat.le_of_ble_eq_true rfl)  ?_
      refine a_if_eq 27 d_Mod_point_14 (by decide) (fun c14 => ?_) (fun c14 => absurd (fRg_13.mpr c1) c14)
      refine a_ldc d_Mod_point_27 k_Mod_75 ?_
      exact a_iret d_Mod_point_29 rfl rfl rfl rfl
end
