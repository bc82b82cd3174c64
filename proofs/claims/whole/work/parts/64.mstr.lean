/-! THE MODEL is asked of stretches: printed by wip/whole/t64.py -/
theorem oI_oS {o : Option Nat} (hb : ∀ a, o = some a → a < 1000000000) : (oI o = -1 ↔ o = none) ∧ (oS o = -1000000 ↔ o = none) := by
  cases o with
  | none => simp [oI, oS]
  | some a =>
    have ha := hb a rfl
    refine ⟨⟨fun q => ?_, fun q => by cases q⟩, ⟨fun q => absurd q (oS_ne rfl ha), fun q => by cases q⟩⟩
    have := congrArg Int32.toInt q
    simp only [oI] at this
    rw [nI_toInt (by omega)] at this
    have e : ((-1 : Int32)).toInt = -1 := by decide
    omega
theorem off_big {X Y : Nat → Int} (S : Sh X Y) {P i s : Nat} (hs : s < 10000000) : ∀ a, off X Y P i s = some a → a < 1000000000 := by
  intro a h
  have := off_16 S h
  omega
def stA (W : Nat) (D : Int64) (j b i st : Int32) : Int32 := match bq W D j b with
  | none => 0
  | some t => fStr (nI (sP (decide (j = 1)) D t)) i st
theorem fStr_01 (a i s : Int32) : fStr a i s = 0 ∨ fStr a i s = 1 := by
  unfold fStr
  repeat' split
  all_goals simp
section
variable {V : VV} {h : AH} {n z : Nat}

set_option maxRecDepth 20000 in
set_option maxHeartbeats 4000000 in
theorem m_isStretch {W H : Nat} {D : Int64} {j s ac by_ la ra : Int32} (p : PcOk W H D j) (Q : MQs W H D j s ac by_ la ra h) (b i st_ : Int32) : ∃ h1, MLd W H D j s ac by_ la ra h1 ∧ FQ h1 h ∧ AMet V i_Mod_isStretch 8 [.ref 32, .int b, .int i, .int st_] h n z (some (.int (stA W D j b i st_))) h1 n z := by
  obtain ⟨c, g32⟩ := Q.cls
  obtain ⟨h1, L, F, M⟩ := m_isBorder (V := V) (n := n) (z := z) p Q b
  refine ⟨h1, L, F, ?_⟩
  unfold stA
  cases hq : bq W D j b with
  | none =>
    rw [hq] at M
    refine AMet.intro (Nat.le_refl _) (Nat.le_refl _) (by decide) (Nat.le_of_ble_eq_true rfl) rfl ?_
    refine a_aload_n d_Mod_isStretch_0 rfl ?_
    refine a_iload_n d_Mod_isStretch_1 rfl ?_
    refine a_cv0 (a := 32) d_Mod_isStretch_2 m_Mod_isBorder t_Mod_isBorder l_Mod_169 g32 rfl rfl M rfl rfl ⟨Nat.le_of_ble_eq_true rfl, Nat.le_of_ble_eq_true rfl⟩ (Nat.le_of_ble_eq_true rfl)  ?_
    refine a_if_eq 44 d_Mod_isStretch_5 (by decide) (fun c5 => ?_) (fun c5 => absurd rfl c5)
    refine a_iconst (v := 0) d_Mod_isStretch_44 (by decide) ?_
    exact a_zret d_Mod_isStretch_45 rfl (by decide) rfl rfl rfl
  | some t =>
    rw [hq, if_pos (show (some t).isSome = true from rfl)] at M
    obtain ⟨w0, ht, hb, eb, hlt⟩ := bq_some hq
    obtain ⟨tb, ve, oa, lm, k32, ⟨st, of, le, vxx, tu, lx, ly, k33, es, k47, k48, k49, k50, k51, k52⟩, ⟨fr, sz, fx, fy, wn, cx, cy, go, k39, k40, k41, k42, k43, k44, k45, k46, ml⟩, TB⟩ := id L
    obtain ⟨⟨m1, m2, m3, m4, m5⟩, m6⟩ := ml t ht hb
    obtain ⟨s0, s1, s2, s3, s4⟩ := MB.st0 es
    have P4 := bd_P ht hb
    have B36 := sB_36 (decide (j = 1)) D 64 (Nat.le_refl _)
    subst eb
    have ei : fRg i 0 (nI (sP (decide (j = 1)) D t) - 1) = fIn2 i (nI (sP (decide (j = 1)) D t)) := fRg_P (by omega)
    have e2 : fRg st_ 1 (nI (sP (decide (j = 1)) D t) - 1) = if st_ < 1 then 0 else if nI (sP (decide (j = 1)) D t) ≤ st_ then 0 else 1 := fRg_S (by omega)
    have ef : fStr (nI (sP (decide (j = 1)) D t)) i st_ = if fRg i 0 (nI (sP (decide (j = 1)) D t) - 1) = 0 then 0 else if fRg st_ 1 (nI (sP (decide (j = 1)) D t) - 1) = 0 then 0 else 1 := by
      rw [ei, e2]
      unfold fStr
      split
      · rfl
      · split
        · rfl
        · split <;> rfl
    simp only
    rw [ef]
    refine AMet.intro (Nat.le_refl _) (Nat.le_refl _) (by decide) (Nat.le_of_ble_eq_true rfl) rfl ?_
    refine a_aload_n d_Mod_isStretch_0 rfl ?_
    refine a_iload_n d_Mod_isStretch_1 rfl ?_
    refine a_cv0 (a := 32) d_Mod_isStretch_2 m_Mod_isBorder t_Mod_isBorder l_Mod_169 g32 rfl rfl M rfl rfl ⟨Nat.le_of_ble_eq_true rfl, Nat.le_of_ble_eq_true rfl⟩ (Nat.le_of_ble_eq_true rfl)  ?_
    refine a_if_eq 44 d_Mod_isStretch_5 (by decide) (fun c5 => absurd c5 (by decide)) (fun c5 => ?_)
    refine a_iload_n d_Mod_isStretch_8 rfl ?_
    refine a_iconst (v := 0) d_Mod_isStretch_9 (by decide) ?_
    refine a_aload_n d_Mod_isStretch_10 rfl ?_
    refine a_getf d_Mod_isStretch_11 f_Mod_31 k32 rfl ?_
    refine a_iload_n d_Mod_isStretch_14 rfl ?_
    refine a_iald d_Mod_isStretch_15 k40 (nI_in (show sB (decide (j = 1)) D t < 40 by omega) (by decide)) ?_
    rw [nI_clamp (by omega), m2]
    refine a_iconst (v := 1) d_Mod_isStretch_16 (by decide) ?_
    refine a_isub d_Mod_isStretch_17 ?_
    refine a_cs0 d_Mod_isStretch_18 m_Mod_in t_Mod_in l_Mod_71 (s_Mod_in _ _ _) rfl rfl ⟨Nat.le_of_ble_eq_true rfl, Nat.le_of_ble_eq_true rfl⟩ (Nat.le_of_ble_eq_true rfl)  ?_
    refine a_if_eq 44 d_Mod_isStretch_21 (by decide) (fun c21 => ?_) (fun c21 => ?_)
    · skip
      refine a_iconst (v := 0) d_Mod_isStretch_44 (by decide) ?_
      exact a_zret d_Mod_isStretch_45 rfl (by decide) (by rw [if_pos c21]) rfl rfl
    · skip
      refine a_iload_n d_Mod_isStretch_24 rfl ?_
      refine a_iconst (v := 1) d_Mod_isStretch_25 (by decide) ?_
      refine a_aload_n d_Mod_isStretch_26 rfl ?_
      refine a_getf d_Mod_isStretch_27 f_Mod_31 k32 rfl ?_
      refine a_iload_n d_Mod_isStretch_30 rfl ?_
      refine a_iald d_Mod_isStretch_31 k40 (nI_in (show sB (decide (j = 1)) D t < 40 by omega) (by decide)) ?_
      rw [nI_clamp (by omega), m2]
      refine a_iconst (v := 1) d_Mod_isStretch_32 (by decide) ?_
      refine a_isub d_Mod_isStretch_33 ?_
      refine a_cs0 d_Mod_isStretch_34 m_Mod_in t_Mod_in l_Mod_71 (s_Mod_in _ _ _) rfl rfl ⟨Nat.le_of_ble_eq_true rfl, Nat.le_of_ble_eq_true rfl⟩ (Nat.le_of_ble_eq_true rfl)  ?_
      refine a_if_eq 44 d_Mod_isStretch_37 (by decide) (fun c37 => ?_) (fun c37 => ?_)
      · skip
        refine a_iconst (v := 0) d_Mod_isStretch_44 (by decide) ?_
        exact a_zret d_Mod_isStretch_45 rfl (by decide) (by rw [if_neg c21, if_pos c37]) rfl rfl
      · skip
        refine a_iconst (v := 1) d_Mod_isStretch_40 (by decide) ?_
        refine a_goto 45 d_Mod_isStretch_41 (by decide) ?_
        exact a_zret d_Mod_isStretch_45 rfl (by decide) (by rw [if_neg c21, if_neg c37]) rfl rfl
theorem stA_some {W : Nat} {D : Int64} {j b i st_ : Int32} {t : Nat} (hq : bq W D j b = some t) : stA W D j b i st_ = fStr (nI (sP (decide (j = 1)) D t)) i st_ := by unfold stA; rw [hq]
theorem stA_none {W : Nat} {D : Int64} {j b i st_ : Int32} (hq : bq W D j b = none) : stA W D j b i st_ = 0 := by unfold stA; rw [hq]
set_option maxRecDepth 20000 in
set_option maxHeartbeats 4000000 in
theorem m_straight {W H : Nat} {D : Int64} {j s ac by_ la ra : Int32} (p : PcOk W H D j) (Q : MQs W H D j s ac by_ la ra h) (b i st_ : Int32) : ∃ h1, MQs W H D j s ac by_ la ra h1 ∧ FQ h1 h ∧ AMet V i_Mod_straight 9 [.ref 32, .int b, .int i, .int st_] h n z (some (.int (q_straight V W H D j s b i st_))) h1 n z := by
  obtain ⟨c, g32⟩ := Q.cls
  obtain ⟨h1, L, F, M⟩ := m_isStretch (V := V) (n := n) (z := z) p Q b i st_
  refine ⟨h1, L.q, F, ?_⟩
  cases hq : bq W D j b with
  | none =>
    rw [stA_none hq] at M
    have qn : q_straight V W H D j s b i st_ = -1000001 := by unfold q_straight; rw [hq]
    rw [qn]
    refine AMet.intro (Nat.le_refl _) (Nat.le_refl _) (by decide) (Nat.le_of_ble_eq_true rfl) rfl ?_
    refine a_aload_n d_Mod_straight_0 rfl ?_
    refine a_iload_n d_Mod_straight_1 rfl ?_
    refine a_iload_n d_Mod_straight_2 rfl ?_
    refine a_iload_n d_Mod_straight_3 rfl ?_
    refine a_cv0 (a := 32) d_Mod_straight_4 m_Mod_isStretch t_Mod_isStretch l_Mod_193 g32 rfl rfl M rfl rfl ⟨Nat.le_of_ble_eq_true rfl, Nat.le_of_ble_eq_true rfl⟩ (Nat.le_of_ble_eq_true rfl)  ?_
    refine a_if_eq 30 d_Mod_straight_7 (by decide) (fun c7 => ?_) (fun c7 => absurd rfl c7)
    refine a_ldc d_Mod_straight_30 k_Mod_75 ?_
    exact a_iret d_Mod_straight_32 rfl rfl rfl rfl
  | some t =>
    rw [stA_some hq] at M
    by_cases cf : fStr (nI (sP (decide (j = 1)) D t)) i st_ = 0
    · have qn : q_straight V W H D j s b i st_ = -1000001 := by unfold q_straight; rw [hq]; simp only; rw [if_pos cf]
      rw [qn]
      refine AMet.intro (Nat.le_refl _) (Nat.le_refl _) (by decide) (Nat.le_of_ble_eq_true rfl) rfl ?_
      refine a_aload_n d_Mod_straight_0 rfl ?_
      refine a_iload_n d_Mod_straight_1 rfl ?_
      refine a_iload_n d_Mod_straight_2 rfl ?_
      refine a_iload_n d_Mod_straight_3 rfl ?_
      refine a_cv0 (a := 32) d_Mod_straight_4 m_Mod_isStretch t_Mod_isStretch l_Mod_193 g32 rfl rfl M rfl rfl ⟨Nat.le_of_ble_eq_true rfl, Nat.le_of_ble_eq_true rfl⟩ (Nat.le_of_ble_eq_true rfl)  ?_
      refine a_if_eq 30 d_Mod_straight_7 (by decide) (fun c7 => ?_) (fun c7 => absurd cf c7)
      refine a_ldc d_Mod_straight_30 k_Mod_75 ?_
      exact a_iret d_Mod_straight_32 rfl rfl rfl rfl
    · have hPb := bd_P (bq_some hq).2.1 (bq_some hq).2.2.1
      obtain ⟨I, S', hI, hS1, hS2, eI, eS⟩ := fStr_ok (by omega) cf
      subst eI eS
      obtain ⟨w0, ht, hb, eb, hlt⟩ := bq_some hq
      obtain ⟨tb, ve, oa, lm, k32, ⟨st, of, le, vxx, tu, lx, ly, k33, es, k47, k48, k49, k50, k51, k52⟩, ⟨fr, sz, fx, fy, wn, cx, cy, go, k39, k40, k41, k42, k43, k44, k45, k46, ml⟩, TB⟩ := id L
      obtain ⟨⟨m1, m2, m3, m4, m5⟩, m6⟩ := ml t ht hb
      obtain ⟨s0, s1, s2, s3, s4⟩ := MB.st0 es
      have P4 := bd_P ht hb
      have B36 := sB_36 (decide (j = 1)) D 64 (Nat.le_refl _)
      subst eb
      have Sx := ((Gd_all (decide (j = 1)) D).2 t ht hb).2.1
      obtain ⟨x1, x2⟩ := oI_oS (off_big (P := (sP (decide (j = 1)) D t)) (i := I) (s := S') Sx (by omega))
      have qn : q_straight V W H D j s (nI (sB (decide (j = 1)) D t)) (nI I) (nI S') = if oS (off (bX (decide (j = 1)) D t) (bY (decide (j = 1)) D t) (sP (decide (j = 1)) D t) I S') = -1000000 then 0 else 1 := by
        unfold q_straight; rw [hq]; simp only; rw [if_neg cf, nI_clamp (by omega), nI_clamp (by omega)]
        by_cases q : off (bX (decide (j = 1)) D t) (bY (decide (j = 1)) D t) (sP (decide (j = 1)) D t) I S' = none
        · rw [if_pos (x1.mpr q), if_pos (x2.mpr q)]
        · rw [if_neg (fun y => q (x1.mp y)), if_neg (fun y => q (x2.mp y))]
      rw [qn]
      refine AMet.intro (Nat.le_refl _) (Nat.le_refl _) (by decide) (Nat.le_of_ble_eq_true rfl) rfl ?_
      refine a_aload_n d_Mod_straight_0 rfl ?_
      refine a_iload_n d_Mod_straight_1 rfl ?_
      refine a_iload_n d_Mod_straight_2 rfl ?_
      refine a_iload_n d_Mod_straight_3 rfl ?_
      refine a_cv0 (a := 32) d_Mod_straight_4 m_Mod_isStretch t_Mod_isStretch l_Mod_193 g32 rfl rfl M rfl rfl ⟨Nat.le_of_ble_eq_true rfl, Nat.le_of_ble_eq_true rfl⟩ (Nat.le_of_ble_eq_true rfl)  ?_
      refine a_if_eq 30 d_Mod_straight_7 (by decide) (fun c7 => absurd c7 cf) (fun c7 => ?_)
      refine a_aload_n d_Mod_straight_10 rfl ?_
      refine a_iload_n d_Mod_straight_11 rfl ?_
      refine a_iload_n d_Mod_straight_12 rfl ?_
      refine a_iload_n d_Mod_straight_13 rfl ?_
      refine a_cv0 (a := 32) d_Mod_straight_14 m_Mod_offOf t_Mod_offOf l_Mod_186 k32 rfl rfl (s_Mod_offOf (X := (bX (decide (j = 1)) D t)) (Y := (bY (decide (j = 1)) D t)) k32 k39 k40 k44 k45 (by omega) m1 m2 (by omega) P4.2.2 (fun k hk => ⟨(m6 k hk).1, (m6 k hk).2.1⟩) Sx hI hS1 (by omega)) rfl rfl ⟨Nat.le_of_ble_eq_true rfl, Nat.le_of_ble_eq_true rfl⟩ (Nat.le_of_ble_eq_true rfl)  ?_
      refine a_ldc d_Mod_straight_17 k_Mod_185 ?_
      refine a_icmp_ne 26 d_Mod_straight_19 (by decide) (fun c19 => ?_) (fun c19 => ?_)
      · skip
        refine a_iconst (v := 1) d_Mod_straight_26 (by decide) ?_
        refine a_goto 32 d_Mod_straight_27 (by decide) ?_
        exact a_iret d_Mod_straight_32 rfl (by rw [if_neg c19]) rfl rfl
      · skip
        refine a_iconst (v := 0) d_Mod_straight_22 (by decide) ?_
        refine a_goto 32 d_Mod_straight_23 (by decide) ?_
        exact a_iret d_Mod_straight_32 rfl (by rw [if_pos c19]) rfl rfl
set_option maxRecDepth 20000 in
set_option maxHeartbeats 4000000 in
theorem m_off {W H : Nat} {D : Int64} {j s ac by_ la ra : Int32} (p : PcOk W H D j) (Q : MQs W H D j s ac by_ la ra h) (b i st_ : Int32) : ∃ h1, MQs W H D j s ac by_ la ra h1 ∧ FQ h1 h ∧ AMet V i_Mod_off 9 [.ref 32, .int b, .int i, .int st_] h n z (some (.int (q_off V W H D j s b i st_))) h1 n z := by
  obtain ⟨c, g32⟩ := Q.cls
  obtain ⟨h1, L, F, M⟩ := m_isStretch (V := V) (n := n) (z := z) p Q b i st_
  refine ⟨h1, L.q, F, ?_⟩
  cases hq : bq W D j b with
  | none =>
    rw [stA_none hq] at M
    have qn : q_off V W H D j s b i st_ = -1000001 := by unfold q_off; rw [hq]
    rw [qn]
    refine AMet.intro (Nat.le_refl _) (Nat.le_refl _) (by decide) (Nat.le_of_ble_eq_true rfl) rfl ?_
    refine a_aload_n d_Mod_off_0 rfl ?_
    refine a_iload_n d_Mod_off_1 rfl ?_
    refine a_iload_n d_Mod_off_2 rfl ?_
    refine a_iload_n d_Mod_off_3 rfl ?_
    refine a_cv0 (a := 32) d_Mod_off_4 m_Mod_isStretch t_Mod_isStretch l_Mod_193 g32 rfl rfl M rfl rfl ⟨Nat.le_of_ble_eq_true rfl, Nat.le_of_ble_eq_true rfl⟩ (Nat.le_of_ble_eq_true rfl)  ?_
    refine a_if_eq 20 d_Mod_off_7 (by decide) (fun c7 => ?_) (fun c7 => absurd rfl c7)
    refine a_ldc d_Mod_off_20 k_Mod_75 ?_
    exact a_iret d_Mod_off_22 rfl rfl rfl rfl
  | some t =>
    rw [stA_some hq] at M
    by_cases cf : fStr (nI (sP (decide (j = 1)) D t)) i st_ = 0
    · have qn : q_off V W H D j s b i st_ = -1000001 := by unfold q_off; rw [hq]; simp only; rw [if_pos cf]
      rw [qn]
      refine AMet.intro (Nat.le_refl _) (Nat.le_refl _) (by decide) (Nat.le_of_ble_eq_true rfl) rfl ?_
      refine a_aload_n d_Mod_off_0 rfl ?_
      refine a_iload_n d_Mod_off_1 rfl ?_
      refine a_iload_n d_Mod_off_2 rfl ?_
      refine a_iload_n d_Mod_off_3 rfl ?_
      refine a_cv0 (a := 32) d_Mod_off_4 m_Mod_isStretch t_Mod_isStretch l_Mod_193 g32 rfl rfl M rfl rfl ⟨Nat.le_of_ble_eq_true rfl, Nat.le_of_ble_eq_true rfl⟩ (Nat.le_of_ble_eq_true rfl)  ?_
      refine a_if_eq 20 d_Mod_off_7 (by decide) (fun c7 => ?_) (fun c7 => absurd cf c7)
      refine a_ldc d_Mod_off_20 k_Mod_75 ?_
      exact a_iret d_Mod_off_22 rfl rfl rfl rfl
    · have hPb := bd_P (bq_some hq).2.1 (bq_some hq).2.2.1
      obtain ⟨I, S', hI, hS1, hS2, eI, eS⟩ := fStr_ok (by omega) cf
      subst eI eS
      obtain ⟨w0, ht, hb, eb, hlt⟩ := bq_some hq
      obtain ⟨tb, ve, oa, lm, k32, ⟨st, of, le, vxx, tu, lx, ly, k33, es, k47, k48, k49, k50, k51, k52⟩, ⟨fr, sz, fx, fy, wn, cx, cy, go, k39, k40, k41, k42, k43, k44, k45, k46, ml⟩, TB⟩ := id L
      obtain ⟨⟨m1, m2, m3, m4, m5⟩, m6⟩ := ml t ht hb
      obtain ⟨s0, s1, s2, s3, s4⟩ := MB.st0 es
      have P4 := bd_P ht hb
      have B36 := sB_36 (decide (j = 1)) D 64 (Nat.le_refl _)
      subst eb
      have Sx := ((Gd_all (decide (j = 1)) D).2 t ht hb).2.1
      obtain ⟨x1, x2⟩ := oI_oS (off_big (P := (sP (decide (j = 1)) D t)) (i := I) (s := S') Sx (by omega))
      have qn : q_off V W H D j s (nI (sB (decide (j = 1)) D t)) (nI I) (nI S') = oS (off (bX (decide (j = 1)) D t) (bY (decide (j = 1)) D t) (sP (decide (j = 1)) D t) I S') := by
        unfold q_off; rw [hq]; simp only; rw [if_neg cf, nI_clamp (by omega), nI_clamp (by omega)]
        by_cases q : off (bX (decide (j = 1)) D t) (bY (decide (j = 1)) D t) (sP (decide (j = 1)) D t) I S' = none
        · rw [if_pos (x1.mpr q), q]; rfl
        · rw [if_neg (fun y => q (x1.mp y))]
          cases q2 : off (bX (decide (j = 1)) D t) (bY (decide (j = 1)) D t) (sP (decide (j = 1)) D t) I S' with
          | none => exact absurd q2 q
          | some a => rfl
      rw [qn]
      refine AMet.intro (Nat.le_refl _) (Nat.le_refl _) (by decide) (Nat.le_of_ble_eq_true rfl) rfl ?_
      refine a_aload_n d_Mod_off_0 rfl ?_
      refine a_iload_n d_Mod_off_1 rfl ?_
      refine a_iload_n d_Mod_off_2 rfl ?_
      refine a_iload_n d_Mod_off_3 rfl ?_
      refine a_cv0 (a := 32) d_Mod_off_4 m_Mod_isStretch t_Mod_isStretch l_Mod_193 g32 rfl rfl M rfl rfl ⟨Nat.le_of_ble_eq_true rfl, Nat.le_of_ble_eq_true rfl⟩ (Nat.le_of_ble_eq_true rfl)  ?_
      refine a_if_eq 20 d_Mod_off_7 (by decide) (fun c7 => absurd c7 cf) (fun c7 => ?_)
      refine a_aload_n d_Mod_off_10 rfl ?_
      refine a_iload_n d_Mod_off_11 rfl ?_
      refine a_iload_n d_Mod_off_12 rfl ?_
      refine a_iload_n d_Mod_off_13 rfl ?_
      refine a_cv0 (a := 32) d_Mod_off_14 m_Mod_offOf t_Mod_offOf l_Mod_186 k32 rfl rfl (s_Mod_offOf (X := (bX (decide (j = 1)) D t)) (Y := (bY (decide (j = 1)) D t)) k32 k39 k40 k44 k45 (by omega) m1 m2 (by omega) P4.2.2 (fun k hk => ⟨(m6 k hk).1, (m6 k hk).2.1⟩) Sx hI hS1 (by omega)) rfl rfl ⟨Nat.le_of_ble_eq_true rfl, Nat.le_of_ble_eq_true rfl⟩ (Nat.le_of_ble_eq_true rfl)  ?_
      refine a_goto 22 d_Mod_off_17 (by decide) ?_
      exact a_iret d_Mod_off_22 rfl rfl rfl rfl
set_option maxRecDepth 20000 in
set_option maxHeartbeats 4000000 in
theorem L_mlong {D : Int64} {j : Int32} {t : Nat} (ht : t < 64) (hb : isB (decide (j = 1)) D t = true) {ac by_ la ra il mn : Int32} {rs : Int64} {tb ve oa lm : Int32} {fr sz cx cy go : Nat → Int32} (k32 : h 32 = oMod ac by_ la ra il mn rs tb ve oa lm) (k39 : h 39 = aI 40 fr) (k40 : h 40 = aI 40 sz) (k44 : h 44 = aI 160 cx) (k45 : h 45 = aI 160 cy) (m1 : fr (sB (decide (j = 1)) D t) = nI (sS (decide (j = 1)) D t)) (m2 : sz (sB (decide (j = 1)) D t) = nI (sP (decide (j = 1)) D t)) (m6 : rowsB (decide (j = 1)) D cx cy go t) {I : Nat} (hI : I < (sP (decide (j = 1)) D t)) : ∀ (m S' : Nat), S' = lgst (bX (decide (j = 1)) D t) (bY (decide (j = 1)) D t) (sP (decide (j = 1)) D t) I + m → S' < (sP (decide (j = 1)) D t) → AM V i_Mod_longest 9 n z (some (.int (nI (lgst (bX (decide (j = 1)) D t) (bY (decide (j = 1)) D t) (sP (decide (j = 1)) D t) I)))) h n z 22 [some (.ref 32), some (.int (nI (sB (decide (j = 1)) D t))), some (.int (nI I)), some (.int (nI S'))] [] h n z := by
  have P4 := bd_P ht hb
  have B36 := sB_36 (decide (j = 1)) D t (by omega)
  have Sx := ((Gd_all (decide (j = 1)) D).2 t ht hb).2.1
  obtain ⟨y1, y2⟩ := bd_lgst ht hb hI
  have y3 := bd_lg ht hb I
  intro m
  induction m with
  | zero =>
    intro S' e hS
    have hS1 : 1 ≤ S' := by omega
    obtain ⟨x1, x2⟩ := oI_oS (off_big (P := (sP (decide (j = 1)) D t)) (i := I) (s := S') Sx (by omega))
    have hn : ¬ oS (off (bX (decide (j = 1)) D t) (bY (decide (j = 1)) D t) (sP (decide (j = 1)) D t) I S') = -1000000 := by
      intro q
      rw [← Nat.add_zero (lgst _ _ _ _), ← e, x2.mp q] at y1
      cases y1
    refine a_aload_n d_Mod_longest_22 rfl ?_
    refine a_iload_n d_Mod_longest_23 rfl ?_
    refine a_iload_n d_Mod_longest_24 rfl ?_
    refine a_iload_n d_Mod_longest_25 rfl ?_
    refine a_cv0 (a := 32) d_Mod_longest_26 m_Mod_offOf t_Mod_offOf l_Mod_186 k32 rfl rfl (s_Mod_offOf (X := (bX (decide (j = 1)) D t)) (Y := (bY (decide (j = 1)) D t)) k32 k39 k40 k44 k45 (by omega) m1 m2 (by omega) P4.2.2 (fun k hk => ⟨(m6 k hk).1, (m6 k hk).2.1⟩) Sx hI hS1 (by omega)) rfl rfl ⟨Nat.le_of_ble_eq_true rfl, Nat.le_of_ble_eq_true rfl⟩ (Nat.le_of_ble_eq_true rfl)  ?_
    refine a_ldc d_Mod_longest_29 k_Mod_185 ?_
    refine a_icmp_ne 40 d_Mod_longest_31 (by decide) (fun c31 => ?_) (fun c31 => absurd c31 hn)
    refine a_iload_n d_Mod_longest_40 rfl ?_
    exact a_iret d_Mod_longest_41 rfl (by rw [e, Nat.add_zero]) rfl rfl
  | succ m ih =>
    intro S' e hS
    have hS1 : 1 ≤ S' := by omega
    obtain ⟨x1, x2⟩ := oI_oS (off_big (P := (sP (decide (j = 1)) D t)) (i := I) (s := S') Sx (by omega))
    have hn : oS (off (bX (decide (j = 1)) D t) (bY (decide (j = 1)) D t) (sP (decide (j = 1)) D t) I S') = -1000000 := x2.mpr (y2 S' (by omega) hS)
    have ep : nI S' + (-1) = nI (S' - 1) := by
      have := pk_m1 (S' - 1)
      rw [show S' - 1 + 1 = S' by omega] at this
      exact this
    refine a_aload_n d_Mod_longest_22 rfl ?_
    refine a_iload_n d_Mod_longest_23 rfl ?_
    refine a_iload_n d_Mod_longest_24 rfl ?_
    refine a_iload_n d_Mod_longest_25 rfl ?_
    refine a_cv0 (a := 32) d_Mod_longest_26 m_Mod_offOf t_Mod_offOf l_Mod_186 k32 rfl rfl (s_Mod_offOf (X := (bX (decide (j = 1)) D t)) (Y := (bY (decide (j = 1)) D t)) k32 k39 k40 k44 k45 (by omega) m1 m2 (by omega) P4.2.2 (fun k hk => ⟨(m6 k hk).1, (m6 k hk).2.1⟩) Sx hI hS1 (by omega)) rfl rfl ⟨Nat.le_of_ble_eq_true rfl, Nat.le_of_ble_eq_true rfl⟩ (Nat.le_of_ble_eq_true rfl)  ?_
    refine a_ldc d_Mod_longest_29 k_Mod_185 ?_
    refine a_icmp_ne 40 d_Mod_longest_31 (by decide) (fun c31 => absurd c31 (fun q => q hn)) (fun c31 => ?_)
    refine a_iinc d_Mod_longest_34 rfl ep (Nat.le_of_ble_eq_true rfl) rfl ?_
    refine a_goto 22 d_Mod_longest_37 (by decide) ?_
    exact ih (S' - 1) (by omega) (by omega)
set_option maxRecDepth 20000 in
set_option maxHeartbeats 4000000 in
theorem m_longest {W H : Nat} {D : Int64} {j s ac by_ la ra : Int32} (p : PcOk W H D j) (Q : MQs W H D j s ac by_ la ra h) (b i : Int32) : ∃ h1, MQs W H D j s ac by_ la ra h1 ∧ FQ h1 h ∧ AMet V i_Mod_longest 9 [.ref 32, .int b, .int i] h n z (some (.int (q_longest V W H D j s b i))) h1 n z := by
  obtain ⟨c, g32⟩ := Q.cls
  obtain ⟨h1, L, F, M⟩ := m_isStretch (V := V) (n := n) (z := z) p Q b i 1
  refine ⟨h1, L.q, F, ?_⟩
  cases hq : bq W D j b with
  | none =>
    rw [stA_none hq] at M
    have qn : q_longest V W H D j s b i = -1000001 := by unfold q_longest; rw [hq]
    rw [qn]
    refine AMet.intro (Nat.le_refl _) (Nat.le_refl _) (by decide) (Nat.le_of_ble_eq_true rfl) rfl ?_
    refine a_aload_n d_Mod_longest_0 rfl ?_
    refine a_iload_n d_Mod_longest_1 rfl ?_
    refine a_iload_n d_Mod_longest_2 rfl ?_
    refine a_iconst (v := 1) d_Mod_longest_3 (by decide) ?_
    refine a_cv0 (a := 32) d_Mod_longest_4 m_Mod_isStretch t_Mod_isStretch l_Mod_193 g32 rfl rfl M rfl rfl ⟨Nat.le_of_ble_eq_true rfl, Nat.le_of_ble_eq_true rfl⟩ (Nat.le_of_ble_eq_true rfl)  ?_
    refine a_if_ne 13 d_Mod_longest_7 (by decide) (fun c7 => absurd c7 (fun q => q rfl)) (fun c7 => ?_)
    refine a_ldc d_Mod_longest_10 k_Mod_75 ?_
    exact a_iret d_Mod_longest_12 rfl rfl rfl rfl
  | some t =>
    rw [stA_some hq] at M
    have hPb := bd_P (bq_some hq).2.1 (bq_some hq).2.2.1
    have e1 : fStr (nI (sP (decide (j = 1)) D t)) i 1 = 0 ↔ fIn2 i (nI (sP (decide (j = 1)) D t)) = 0 := by
      unfold fStr
      by_cases q : fIn2 i (nI (sP (decide (j = 1)) D t)) = 0
      · rw [if_pos q]; simp [q]
      · rw [if_neg q, if_neg (by decide), if_neg (show ¬ nI (sP (decide (j = 1)) D t) ≤ 1 from nI_ge (a := 1) (by omega) (by omega))]; simp [q]
    by_cases cf : fIn2 i (nI (sP (decide (j = 1)) D t)) = 0
    · have qn : q_longest V W H D j s b i = -1000001 := by unfold q_longest; rw [hq]; simp only; rw [if_pos cf]
      rw [qn]
      refine AMet.intro (Nat.le_refl _) (Nat.le_refl _) (by decide) (Nat.le_of_ble_eq_true rfl) rfl ?_
      refine a_aload_n d_Mod_longest_0 rfl ?_
      refine a_iload_n d_Mod_longest_1 rfl ?_
      refine a_iload_n d_Mod_longest_2 rfl ?_
      refine a_iconst (v := 1) d_Mod_longest_3 (by decide) ?_
      refine a_cv0 (a := 32) d_Mod_longest_4 m_Mod_isStretch t_Mod_isStretch l_Mod_193 g32 rfl rfl M rfl rfl ⟨Nat.le_of_ble_eq_true rfl, Nat.le_of_ble_eq_true rfl⟩ (Nat.le_of_ble_eq_true rfl)  ?_
      refine a_if_ne 13 d_Mod_longest_7 (by decide) (fun c7 => absurd c7 (fun q => q (e1.mpr cf))) (fun c7 => ?_)
      refine a_ldc d_Mod_longest_10 k_Mod_75 ?_
      exact a_iret d_Mod_longest_12 rfl rfl rfl rfl
    · obtain ⟨I, hI, eI⟩ := fIn2_ok (by omega) cf
      subst eI
      obtain ⟨w0, ht, hb, eb, hlt⟩ := bq_some hq
      obtain ⟨tb, ve, oa, lm, k32, ⟨st, of, le, vxx, tu, lx, ly, k33, es, k47, k48, k49, k50, k51, k52⟩, ⟨fr, sz, fx, fy, wn, cx, cy, go, k39, k40, k41, k42, k43, k44, k45, k46, ml⟩, TB⟩ := id L
      obtain ⟨⟨m1, m2, m3, m4, m5⟩, m6⟩ := ml t ht hb
      obtain ⟨s0, s1, s2, s3, s4⟩ := MB.st0 es
      have P4 := bd_P ht hb
      have B36 := sB_36 (decide (j = 1)) D 64 (Nat.le_refl _)
      subst eb
      have qn : q_longest V W H D j s (nI (sB (decide (j = 1)) D t)) (nI I) = nI (lgst (bX (decide (j = 1)) D t) (bY (decide (j = 1)) D t) (sP (decide (j = 1)) D t) I) := by unfold q_longest; rw [hq]; simp only; rw [if_neg cf, nI_clamp (by omega)]
      have y3 := bd_lg ht hb I
      have ep : nI (sP (decide (j = 1)) D t) - 1 = nI ((sP (decide (j = 1)) D t) - 1) := pk_sub (b := 1) (by omega)
      rw [qn]
      refine AMet.intro (Nat.le_refl _) (Nat.le_refl _) (by decide) (Nat.le_of_ble_eq_true rfl) rfl ?_
      refine a_aload_n d_Mod_longest_0 rfl ?_
      refine a_iload_n d_Mod_longest_1 rfl ?_
      refine a_iload_n d_Mod_longest_2 rfl ?_
      refine a_iconst (v := 1) d_Mod_longest_3 (by decide) ?_
      refine a_cv0 (a := 32) d_Mod_longest_4 m_Mod_isStretch t_Mod_isStretch l_Mod_193 g32 rfl rfl M rfl rfl ⟨Nat.le_of_ble_eq_true rfl, Nat.le_of_ble_eq_true rfl⟩ (Nat.le_of_ble_eq_true rfl)  ?_
      refine a_if_ne 13 d_Mod_longest_7 (by decide) (fun c7 => ?_) (fun c7 => absurd c7 (fun q => cf (e1.mp q)))
      refine a_aload_n d_Mod_longest_13 rfl ?_
      refine a_getf d_Mod_longest_14 f_Mod_31 k32 rfl ?_
      refine a_iload_n d_Mod_longest_17 rfl ?_
      refine a_iald d_Mod_longest_18 k40 (nI_in (show sB (decide (j = 1)) D t < 40 by omega) (by decide)) ?_
      rw [nI_clamp (by omega), m2]
      refine a_iconst (v := 1) d_Mod_longest_19 (by decide) ?_
      refine a_isub d_Mod_longest_20 ?_
      rw [ep]
      refine a_istore_n d_Mod_longest_21 (Nat.le_of_ble_eq_true rfl) (Nat.le_of_ble_eq_true rfl) rfl ?_
      exact L_mlong ht hb k32 k39 k40 k44 k45 m1 m2 m6 hI ((sP (decide (j = 1)) D t) - 1 - lgst (bX (decide (j = 1)) D t) (bY (decide (j = 1)) D t) (sP (decide (j = 1)) D t) I) ((sP (decide (j = 1)) D t) - 1) (by omega) (by omega)
end
