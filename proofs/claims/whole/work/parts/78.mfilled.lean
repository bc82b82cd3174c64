/-! THE MODEL is asked what is filled: printed by wip/whole/t78.py -/
theorem gBit_lb (E : Int64) {X Y : Nat} (hX : X < 8) (hY : Y < 8) : (E &&& gBit (nI X) (nI Y) = 0) ↔ lb E (8 * Y + X) = false := by
  have := inD_bit E (x := (X : Int)) (y := (Y : Int)) (by omega) (by omega)
  rw [← iI_nat, ← iI_nat] at this
  rw [this]
  unfold inD
  rw [decide_eq_true (by omega), Bool.true_and, show (8 * (Y : Int) + (X : Int)).toNat = 8 * Y + X by omega]
theorem fRg_01c {i : Int32} : ¬ fRg i 0 1 = 0 → i = 0 ∨ i = 1 := by
  intro h
  have h2 : ¬ i < 0 ∧ i ≤ 1 := Classical.byContradiction (fun q => h (fRg_01b.mpr q))
  obtain ⟨k, hk, e⟩ := nI_of2 (x := i) (M := 1) (n := 1) (by decide) h2.1 h2.2
  subst e
  rcases (show k = 0 ∨ k = 1 by omega) with rfl | rfl
  · exact Or.inl rfl
  · exact Or.inr rfl
section
variable {V : VV} {h : AH} {n z : Nat}

set_option maxRecDepth 20000 in
set_option maxHeartbeats 4000000 in
theorem m_filled {W H : Nat} {D : Int64} {j s ac by_ la ra : Int32} (p : PcOk W H D j) (Q : MQs W H D j s ac by_ la ra h) (b kind x y : Int32) : ∃ h1, MQs W H D j s ac by_ la ra h1 ∧ FQ h1 h ∧ AMet V i_Mod_filled 8 [.ref 32, .int b, .int kind, .int x, .int y] h n z (some (.int (q_filled V W H D j s b kind x y))) h1 n z := by
  obtain ⟨c, g32⟩ := Q.cls
  obtain ⟨h1, L, F, M⟩ := m_isBorder (V := V) (n := n) (z := z) p Q b
  cases hq : bq W D j b with
  | none =>
    refine ⟨h1, L.q, F, ?_⟩
    rw [hq] at M
    have qn : q_filled V W H D j s b kind x y = -1000001 := by unfold q_filled; rw [hq]
    rw [qn]
    refine AMet.intro (Nat.le_refl _) (Nat.le_refl _) (by decide) (Nat.le_of_ble_eq_true rfl) rfl ?_
    refine a_aload_n d_Mod_filled_0 rfl ?_
    refine a_iload_n d_Mod_filled_1 rfl ?_
    refine a_cv0 (a := 32) d_Mod_filled_2 m_Mod_isBorder t_Mod_isBorder l_Mod_169 g32 rfl rfl M rfl rfl ⟨Nat.le_of_ble_eq_true rfl, Nat.le_of_ble_eq_true rfl⟩ (Nat.le_of_ble_eq_true rfl)  ?_
    refine a_if_eq 27 d_Mod_filled_5 (by decide) (fun c5 => ?_) (fun c5 => absurd rfl c5)
    refine a_ldc d_Mod_filled_27 k_Mod_75 ?_
    exact a_iret d_Mod_filled_29 rfl rfl rfl rfl
  | some t =>
    rw [hq, if_pos (show (some t).isSome = true from rfl)] at M
    obtain ⟨w0, ht, hb, eb, hlt⟩ := bq_some hq
    obtain ⟨tb, ve, oa, lm, k32, ⟨st, of, le, vxx, tu, lx, ly, k33, es, k47, k48, k49, k50, k51, k52⟩, ⟨fr, sz, fx, fy, wn, cx, cy, go, k39, k40, k41, k42, k43, k44, k45, k46, ml⟩, TB⟩ := id L
    obtain ⟨⟨m1, m2, m3, m4, m5⟩, m6⟩ := ml t ht hb
    obtain ⟨s0, s1, s2, s3, s4⟩ := MB.st0 es
    have P4 := bd_P ht hb
    have B36 := sB_36 (decide (j = 1)) D 64 (Nat.le_refl _)
    subst eb
    have ed : mDot (st 0) (st 1) x y = fHas (nI W) (nI H) x y := by rw [s0, s1]; exact mDot_fHas (by have := p.1; omega) (by have := p.2.1; omega) x y
    by_cases ck : fRg kind 0 1 = 0
    · refine ⟨h1, L.q, F, ?_⟩
      have qn : q_filled V W H D j s (nI (sB (decide (j = 1)) D t)) kind x y = -1000001 := by
        unfold q_filled; rw [hq]; simp only; rw [if_neg (fun q => fRg_01b.mp ck ⟨q.1, Int32.not_lt.mp q.2.1⟩)]
      rw [qn]
      refine AMet.intro (Nat.le_refl _) (Nat.le_refl _) (by decide) (Nat.le_of_ble_eq_true rfl) rfl ?_
      refine a_aload_n d_Mod_filled_0 rfl ?_
      refine a_iload_n d_Mod_filled_1 rfl ?_
      refine a_cv0 (a := 32) d_Mod_filled_2 m_Mod_isBorder t_Mod_isBorder l_Mod_169 g32 rfl rfl M rfl rfl ⟨Nat.le_of_ble_eq_true rfl, Nat.le_of_ble_eq_true rfl⟩ (Nat.le_of_ble_eq_true rfl)  ?_
      refine a_if_eq 27 d_Mod_filled_5 (by decide) (fun c5 => absurd c5 (by decide)) (fun c5 => ?_)
      refine a_iload_n d_Mod_filled_8 rfl ?_
      refine a_iconst (v := 0) d_Mod_filled_9 (by decide) ?_
      refine a_iconst (v := 1) d_Mod_filled_10 (by decide) ?_
      refine a_cs0 d_Mod_filled_11 m_Mod_in t_Mod_in l_Mod_71 (s_Mod_in _ _ _) rfl rfl ⟨Nat.le_of_ble_eq_true rfl, Nat.le_of_ble_eq_true rfl⟩ (Nat.le_of_ble_eq_true rfl)  ?_
      refine a_if_eq 27 d_Mod_filled_14 (by decide) (fun c14 => ?_) (fun c14 => absurd ck c14)
      refine a_ldc d_Mod_filled_27 k_Mod_75 ?_
      exact a_iret d_Mod_filled_29 rfl rfl rfl rfl
    · by_cases cf : fHas (nI W) (nI H) x y = 0
      · refine ⟨h1, L.q, F, ?_⟩
        have qn : q_filled V W H D j s (nI (sB (decide (j = 1)) D t)) kind x y = -1000001 := by unfold q_filled; rw [hq]; simp only; rw [if_neg (fun q => q.2.2 cf)]
        rw [qn]
        refine AMet.intro (Nat.le_refl _) (Nat.le_refl _) (by decide) (Nat.le_of_ble_eq_true rfl) rfl ?_
        refine a_aload_n d_Mod_filled_0 rfl ?_
        refine a_iload_n d_Mod_filled_1 rfl ?_
        refine a_cv0 (a := 32) d_Mod_filled_2 m_Mod_isBorder t_Mod_isBorder l_Mod_169 g32 rfl rfl M rfl rfl ⟨Nat.le_of_ble_eq_true rfl, Nat.le_of_ble_eq_true rfl⟩ (Nat.le_of_ble_eq_true rfl)  ?_
        refine a_if_eq 27 d_Mod_filled_5 (by decide) (fun c5 => absurd c5 (by decide)) (fun c5 => ?_)
        refine a_iload_n d_Mod_filled_8 rfl ?_
        refine a_iconst (v := 0) d_Mod_filled_9 (by decide) ?_
        refine a_iconst (v := 1) d_Mod_filled_10 (by decide) ?_
        refine a_cs0 d_Mod_filled_11 m_Mod_in t_Mod_in l_Mod_71 (s_Mod_in _ _ _) rfl rfl ⟨Nat.le_of_ble_eq_true rfl, Nat.le_of_ble_eq_true rfl⟩ (Nat.le_of_ble_eq_true rfl)  ?_
        refine a_if_eq 27 d_Mod_filled_14 (by decide) (fun c14 => absurd c14 ck) (fun c14 => ?_)
        refine a_aload_n d_Mod_filled_17 rfl ?_
        refine a_iload_n d_Mod_filled_18 rfl ?_
        refine a_iload d_Mod_filled_19 rfl ?_
        refine a_cv0 (a := 32) d_Mod_filled_21 m_Mod_isDot t_Mod_isDot l_Mod_118 k32 rfl rfl (s_Mod_isDot k32 k33 _ _) rfl rfl ⟨Nat.le_of_ble_eq_true rfl, Nat.le_of_ble_eq_true rfl⟩ (Nat.le_of_ble_eq_true rfl)  ?_
        refine a_if_ne 30 d_Mod_filled_24 (by decide) (fun c24 => absurd c24 (fun q => q (ed.trans cf))) (fun c24 => ?_)
        refine a_ldc d_Mod_filled_27 k_Mod_75 ?_
        exact a_iret d_Mod_filled_29 rfl rfl rfl rfl
      · obtain ⟨X', Y', hX, hY, eX_, eY_⟩ := fHas_ok (by have := p.1; omega) (by have := p.2.1; omega) cf
        subst eX_ eY_
        have hW := p.1
        have hH := p.2.1
        rcases fRg_01c ck with rfl | rfl
        · skip
          obtain ⟨h2, N, lx, ly, fx, fy, T, ⟨a1, a2, a3, a4, a5, a6, a7, a8, a9, a10, n32⟩, n51, n52, LL, F2, M2⟩ := m_laysLine0 (V := V) (n := n) (z := z) ht hb L
          obtain ⟨z1, z2, z3⟩ := bd_zC ht hb
          have QT := (MLt.d ht hb T).q
          obtain ⟨⟨t1, t2, t3⟩, ⟨c1_, c2_⟩, ⟨c3_, c4_⟩, hN4⟩ := LL
          have clo : fx N = fx 0 ∧ fy N = fy 0 := ⟨by rw [c1_, c3_, qP_nv z1], by rw [c2_, c4_, qP_nv z1]⟩
          refine ⟨h2, QT, FQ.tr F2 F, ?_⟩
          have xb : xr (crF fx fy X' Y') N = lb (byC V (bX (decide (j = 1)) D t) (bY (decide (j = 1)) D t) (sP (decide (j = 1)) D t) (zN (decide (j = 1)) D t) (zC (decide (j = 1)) D t) 0 s (zN (decide (j = 1)) D t)) (8 * Y' + X') := t3 X' Y' (by omega) (by omega)
          have qn : q_filled V W H D j s (nI (sB (decide (j = 1)) D t)) 0 (nI X') (nI Y') = if lb (byC V (bX (decide (j = 1)) D t) (bY (decide (j = 1)) D t) (sP (decide (j = 1)) D t) (zN (decide (j = 1)) D t) (zC (decide (j = 1)) D t) 0 s (zN (decide (j = 1)) D t)) (8 * Y' + X') then 1 else 0 := by
            unfold q_filled; rw [hq]; simp only; rw [if_pos ⟨by decide, by decide, cf⟩]
            have := gBit_lb (byC V (bX (decide (j = 1)) D t) (bY (decide (j = 1)) D t) (sP (decide (j = 1)) D t) (zN (decide (j = 1)) D t) (zC (decide (j = 1)) D t) 0 s (zN (decide (j = 1)) D t)) (X := X') (Y := Y') (by omega) (by omega)
            by_cases c : lb (byC V (bX (decide (j = 1)) D t) (bY (decide (j = 1)) D t) (sP (decide (j = 1)) D t) (zN (decide (j = 1)) D t) (zC (decide (j = 1)) D t) 0 s (zN (decide (j = 1)) D t)) (8 * Y' + X') = true
            · rw [if_neg (fun q => by rw [this.mp q] at c; cases c), if_pos c]
            · rw [if_pos (this.mpr (by simpa using c)), if_neg c]
          rw [qn, ← xb]
          refine AMet.intro (Nat.le_refl _) (Nat.le_refl _) (by decide) (Nat.le_of_ble_eq_true rfl) rfl ?_
          refine a_aload_n d_Mod_filled_0 rfl ?_
          refine a_iload_n d_Mod_filled_1 rfl ?_
          refine a_cv0 (a := 32) d_Mod_filled_2 m_Mod_isBorder t_Mod_isBorder l_Mod_169 g32 rfl rfl M rfl rfl ⟨Nat.le_of_ble_eq_true rfl, Nat.le_of_ble_eq_true rfl⟩ (Nat.le_of_ble_eq_true rfl)  ?_
          refine a_if_eq 27 d_Mod_filled_5 (by decide) (fun c5 => absurd c5 (by decide)) (fun c5 => ?_)
          refine a_iload_n d_Mod_filled_8 rfl ?_
          refine a_iconst (v := 0) d_Mod_filled_9 (by decide) ?_
          refine a_iconst (v := 1) d_Mod_filled_10 (by decide) ?_
          refine a_cs0 d_Mod_filled_11 m_Mod_in t_Mod_in l_Mod_71 (s_Mod_in _ _ _) rfl rfl ⟨Nat.le_of_ble_eq_true rfl, Nat.le_of_ble_eq_true rfl⟩ (Nat.le_of_ble_eq_true rfl)  ?_
          refine a_if_eq 27 d_Mod_filled_14 (by decide) (fun c14 => absurd c14 ck) (fun c14 => ?_)
          refine a_aload_n d_Mod_filled_17 rfl ?_
          refine a_iload_n d_Mod_filled_18 rfl ?_
          refine a_iload d_Mod_filled_19 rfl ?_
          refine a_cv0 (a := 32) d_Mod_filled_21 m_Mod_isDot t_Mod_isDot l_Mod_118 k32 rfl rfl (s_Mod_isDot k32 k33 _ _) rfl rfl ⟨Nat.le_of_ble_eq_true rfl, Nat.le_of_ble_eq_true rfl⟩ (Nat.le_of_ble_eq_true rfl)  ?_
          refine a_if_ne 30 d_Mod_filled_24 (by decide) (fun c24 => ?_) (fun c24 => absurd c24 (fun q => cf (ed.symm.trans q)))
          refine a_aload_n d_Mod_filled_30 rfl ?_
          refine a_iload_n d_Mod_filled_31 rfl ?_
          refine a_iload_n d_Mod_filled_32 rfl ?_
          refine a_cv0 (a := 32) d_Mod_filled_33 m_Mod_laysLine t_Mod_laysLine l_Mod_247 k32 rfl rfl M2 rfl rfl ⟨Nat.le_of_ble_eq_true rfl, Nat.le_of_ble_eq_true rfl⟩ (Nat.le_of_ble_eq_true rfl)  ?_
          refine a_aload_n d_Mod_filled_36 rfl ?_
          refine a_iload_n d_Mod_filled_37 rfl ?_
          refine a_iload d_Mod_filled_38 rfl ?_
          refine a_cv0 (a := 32) d_Mod_filled_40 m_Mod_isFilled t_Mod_isFilled l_Mod_250 n32 rfl rfl (s_Mod_isFilled (h := h2) (X := X') (Y := Y') n32 n51 n52 (by omega) t1 clo t2 (by omega) (by omega)) rfl rfl ⟨Nat.le_of_ble_eq_true rfl, Nat.le_of_ble_eq_true rfl⟩ (Nat.le_of_ble_eq_true rfl)  ?_
          refine a_if_eq 50 d_Mod_filled_43 (by decide) (fun c43 => ?_) (fun c43 => ?_)
          · skip
            refine a_iconst (v := 0) d_Mod_filled_50 (by decide) ?_
            exact a_iret d_Mod_filled_51 rfl (by cases hx : xr (crF fx fy X' Y') N; all_goals first | rfl | (exfalso; revert c43; rw [show xr (fun i => crZ (fx i) (fy i) (fx (i + 1)) (fy (i + 1)) (32 * (X' : Int) + 16) (32 * (Y' : Int) + 16)) N = _ from hx]; decide)) rfl rfl
          · skip
            refine a_iconst (v := 1) d_Mod_filled_46 (by decide) ?_
            refine a_goto 51 d_Mod_filled_47 (by decide) ?_
            exact a_iret d_Mod_filled_51 rfl (by cases hx : xr (crF fx fy X' Y') N; all_goals first | rfl | (exfalso; revert c43; rw [show xr (fun i => crZ (fx i) (fy i) (fx (i + 1)) (fy (i + 1)) (32 * (X' : Int) + 16) (32 * (Y' : Int) + 16)) N = _ from hx]; decide)) rfl rfl
        · skip
          obtain ⟨h2, N, lx, ly, fx, fy, T, ⟨a1, a2, a3, a4, a5, a6, a7, a8, a9, a10, n32⟩, n51, n52, LL, F2, M2⟩ := m_laysLine1 (V := V) (n := n) (z := z) ht hb L
          obtain ⟨z1, z2, z3⟩ := bd_zC ht hb
          have QT := (MLt.d ht hb T).q
          obtain ⟨⟨t1, t2, t3⟩, ⟨c1_, c2_⟩, ⟨c3_, c4_⟩, hN4⟩ := LL
          have clo : fx N = fx 0 ∧ fy N = fy 0 := ⟨by rw [c1_, c3_, qP_nv z1], by rw [c2_, c4_, qP_nv z1]⟩
          refine ⟨h2, QT, FQ.tr F2 F, ?_⟩
          have xb : xr (crF fx fy X' Y') N = lb (byC V (bX (decide (j = 1)) D t) (bY (decide (j = 1)) D t) (sP (decide (j = 1)) D t) (zN (decide (j = 1)) D t) (zC (decide (j = 1)) D t) 1 s (zN (decide (j = 1)) D t)) (8 * Y' + X') := t3 X' Y' (by omega) (by omega)
          have qn : q_filled V W H D j s (nI (sB (decide (j = 1)) D t)) 1 (nI X') (nI Y') = if lb (byC V (bX (decide (j = 1)) D t) (bY (decide (j = 1)) D t) (sP (decide (j = 1)) D t) (zN (decide (j = 1)) D t) (zC (decide (j = 1)) D t) 1 s (zN (decide (j = 1)) D t)) (8 * Y' + X') then 1 else 0 := by
            unfold q_filled; rw [hq]; simp only; rw [if_pos ⟨by decide, by decide, cf⟩]
            have := gBit_lb (byC V (bX (decide (j = 1)) D t) (bY (decide (j = 1)) D t) (sP (decide (j = 1)) D t) (zN (decide (j = 1)) D t) (zC (decide (j = 1)) D t) 1 s (zN (decide (j = 1)) D t)) (X := X') (Y := Y') (by omega) (by omega)
            by_cases c : lb (byC V (bX (decide (j = 1)) D t) (bY (decide (j = 1)) D t) (sP (decide (j = 1)) D t) (zN (decide (j = 1)) D t) (zC (decide (j = 1)) D t) 1 s (zN (decide (j = 1)) D t)) (8 * Y' + X') = true
            · rw [if_neg (fun q => by rw [this.mp q] at c; cases c), if_pos c]
            · rw [if_pos (this.mpr (by simpa using c)), if_neg c]
          rw [qn, ← xb]
          refine AMet.intro (Nat.le_refl _) (Nat.le_refl _) (by decide) (Nat.le_of_ble_eq_true rfl) rfl ?_
          refine a_aload_n d_Mod_filled_0 rfl ?_
          refine a_iload_n d_Mod_filled_1 rfl ?_
          refine a_cv0 (a := 32) d_Mod_filled_2 m_Mod_isBorder t_Mod_isBorder l_Mod_169 g32 rfl rfl M rfl rfl ⟨Nat.le_of_ble_eq_true rfl, Nat.le_of_ble_eq_true rfl⟩ (Nat.le_of_ble_eq_true rfl)  ?_
          refine a_if_eq 27 d_Mod_filled_5 (by decide) (fun c5 => absurd c5 (by decide)) (fun c5 => ?_)
          refine a_iload_n d_Mod_filled_8 rfl ?_
          refine a_iconst (v := 0) d_Mod_filled_9 (by decide) ?_
          refine a_iconst (v := 1) d_Mod_filled_10 (by decide) ?_
          refine a_cs0 d_Mod_filled_11 m_Mod_in t_Mod_in l_Mod_71 (s_Mod_in _ _ _) rfl rfl ⟨Nat.le_of_ble_eq_true rfl, Nat.le_of_ble_eq_true rfl⟩ (Nat.le_of_ble_eq_true rfl)  ?_
          refine a_if_eq 27 d_Mod_filled_14 (by decide) (fun c14 => absurd c14 ck) (fun c14 => ?_)
          refine a_aload_n d_Mod_filled_17 rfl ?_
          refine a_iload_n d_Mod_filled_18 rfl ?_
          refine a_iload d_Mod_filled_19 rfl ?_
          refine a_cv0 (a := 32) d_Mod_filled_21 m_Mod_isDot t_Mod_isDot l_Mod_118 k32 rfl rfl (s_Mod_isDot k32 k33 _ _) rfl rfl ⟨Nat.le_of_ble_eq_true rfl, Nat.le_of_ble_eq_true rfl⟩ (Nat.le_of_ble_eq_true rfl)  ?_
          refine a_if_ne 30 d_Mod_filled_24 (by decide) (fun c24 => ?_) (fun c24 => absurd c24 (fun q => cf (ed.symm.trans q)))
          refine a_aload_n d_Mod_filled_30 rfl ?_
          refine a_iload_n d_Mod_filled_31 rfl ?_
          refine a_iload_n d_Mod_filled_32 rfl ?_
          refine a_cv0 (a := 32) d_Mod_filled_33 m_Mod_laysLine t_Mod_laysLine l_Mod_247 k32 rfl rfl M2 rfl rfl ⟨Nat.le_of_ble_eq_true rfl, Nat.le_of_ble_eq_true rfl⟩ (Nat.le_of_ble_eq_true rfl)  ?_
          refine a_aload_n d_Mod_filled_36 rfl ?_
          refine a_iload_n d_Mod_filled_37 rfl ?_
          refine a_iload d_Mod_filled_38 rfl ?_
          refine a_cv0 (a := 32) d_Mod_filled_40 m_Mod_isFilled t_Mod_isFilled l_Mod_250 n32 rfl rfl (s_Mod_isFilled (h := h2) (X := X') (Y := Y') n32 n51 n52 (by omega) t1 clo t2 (by omega) (by omega)) rfl rfl ⟨Nat.le_of_ble_eq_true rfl, Nat.le_of_ble_eq_true rfl⟩ (Nat.le_of_ble_eq_true rfl)  ?_
          refine a_if_eq 50 d_Mod_filled_43 (by decide) (fun c43 => ?_) (fun c43 => ?_)
          · skip
            refine a_iconst (v := 0) d_Mod_filled_50 (by decide) ?_
            exact a_iret d_Mod_filled_51 rfl (by cases hx : xr (crF fx fy X' Y') N; all_goals first | rfl | (exfalso; revert c43; rw [show xr (fun i => crZ (fx i) (fy i) (fx (i + 1)) (fy (i + 1)) (32 * (X' : Int) + 16) (32 * (Y' : Int) + 16)) N = _ from hx]; decide)) rfl rfl
          · skip
            refine a_iconst (v := 1) d_Mod_filled_46 (by decide) ?_
            refine a_goto 51 d_Mod_filled_47 (by decide) ?_
            exact a_iret d_Mod_filled_51 rfl (by cases hx : xr (crF fx fy X' Y') N; all_goals first | rfl | (exfalso; revert c43; rw [show xr (fun i => crZ (fx i) (fy i) (fx (i + 1)) (fy (i + 1)) (32 * (X' : Int) + 16) (32 * (Y' : Int) + 16)) N = _ from hx]; decide)) rfl rfl
end
