/-! THE MODEL's table of a border: printed by wip/whole/t68.py -/
def OfA (X Y : Nat → Int) (P i s : Nat) (of : Nat → Int32) : Prop := ∀ a q, a < P → 1 ≤ q → q < P → (a < i ∨ (a = i ∧ q < s)) → of (144 * a + q) = oS (off X Y P a q)
section
variable {V : VV} {h : AH} {n z : Nat}

set_option maxRecDepth 20000 in
set_option maxHeartbeats 4000000 in
theorem L_tbI {ac by_ la ra il mn : Int32} {rs : Int64} {tb ve oa lm : Int32} {fr sz cx cy : Nat → Int32} {B S0 P : Nat} {X Y : Nat → Int} (g32 : h 32 = oMod ac by_ la ra il mn rs tb ve oa lm) (g39 : h 39 = aI 40 fr) (g40 : h 40 = aI 40 sz) (g44 : h 44 = aI 160 cx) (g45 : h 45 = aI 160 cy) (hB : B < 40) (efr : fr B = nI S0) (esz : sz B = nI P) (hP : 0 < P) (hs : S0 + P ≤ 144) (Rw : Row cx cy S0 P X Y) (S : Sh X Y) {i : Nat} (hi : i < P) : ∀ (m s : Nat), s + m = P → 1 ≤ s → ∀ (of : Nat → Int32), OfA X Y P i s of → ∃ of', OfA X Y P (i + 1) 1 of' ∧ Rc V i_Mod_laysTable 3 28 [some (.ref 32), some (.int (nI B)), some (.int (nI i)), some (.int (nI s))] [] (hu h 47 (aI 20736 of)) n z 63 [some (.ref 32), some (.int (nI B)), some (.int (nI i)), some (.int (nI P))] [] (hu h 47 (aI 20736 of')) n z := by
  intro m
  induction m with
  | zero =>
    intro s hs' hs1 of ok
    have e : s = P := by omega
    subst e
    refine ⟨of, fun a q h1 h2 h3 h4 => ok a q h1 h2 h3 (by omega), fun mc ms Qf n0 z0 q1 q2 K => ?_⟩
    refine a_iload_n d_Mod_laysTable_28 rfl ?_
    refine a_aload_n d_Mod_laysTable_29 rfl ?_
    refine a_getf d_Mod_laysTable_30 f_Mod_31 (show _ = oMod ac by_ la ra il mn rs tb ve oa lm from g32) rfl ?_
    refine a_iload_n d_Mod_laysTable_33 rfl ?_
    refine a_iald d_Mod_laysTable_34 (show _ = aI 40 sz from g40) (nI_in hB (by decide)) ?_
    rw [nI_clamp (by omega), esz]
    refine a_icmp_ge 63 d_Mod_laysTable_35 (by decide) (fun c35 => ?_) (fun c35 => absurd (Int32.le_refl _) c35)
    exact K
  | succ m ih =>
    intro s hs' hs1 of ok
    obtain ⟨of', ok', R⟩ := ih (s + 1) (by omega) (by omega) (upd of (144 * i + s) (oS (off X Y P i s))) (fun a q h1 h2 h3 h4 => by
      by_cases c : 144 * a + q = 144 * i + s
      · have e1 : a = i := by omega
        have e2 : q = s := by omega
        rw [e1, e2, pk_us]
      · rw [pk_un c]
        exact ok a q h1 h2 h3 (by omega))
    refine ⟨of', ok', fun mc ms Qf n0 z0 q1 q2 K => ?_⟩
    have ea : (144 : Int32) * nI i + nI s = nI (144 * i + s) := by rw [show (144 : Int32) = nI 144 from rfl, pk_mul, nI_add]
    refine a_iload_n d_Mod_laysTable_28 rfl ?_
    refine a_aload_n d_Mod_laysTable_29 rfl ?_
    refine a_getf d_Mod_laysTable_30 f_Mod_31 (show _ = oMod ac by_ la ra il mn rs tb ve oa lm from g32) rfl ?_
    refine a_iload_n d_Mod_laysTable_33 rfl ?_
    refine a_iald d_Mod_laysTable_34 (show _ = aI 40 sz from g40) (nI_in hB (by decide)) ?_
    rw [nI_clamp (by omega), esz]
    refine a_icmp_ge 63 d_Mod_laysTable_35 (by decide) (fun c35 => absurd c35 (nI_ge (show s < P by omega) (by omega))) (fun c35 => ?_)
    refine a_aload_n d_Mod_laysTable_38 rfl ?_
    refine a_getf d_Mod_laysTable_39 f_Mod_53 (show _ = oMod ac by_ la ra il mn rs tb ve oa lm from g32) rfl ?_
    refine a_sipush (v := 144) d_Mod_laysTable_42 (by decide) ?_
    refine a_iload_n d_Mod_laysTable_45 rfl ?_
    refine a_imul d_Mod_laysTable_46 ?_
    refine a_iload_n d_Mod_laysTable_47 rfl ?_
    refine a_iadd d_Mod_laysTable_48 ?_
    rw [ea]
    refine a_aload_n d_Mod_laysTable_49 rfl ?_
    refine a_iload_n d_Mod_laysTable_50 rfl ?_
    refine a_iload_n d_Mod_laysTable_51 rfl ?_
    refine a_iload_n d_Mod_laysTable_52 rfl ?_
    refine a_cv0 (a := 32) d_Mod_laysTable_53 m_Mod_offOf t_Mod_offOf l_Mod_186 (show _ = oMod ac by_ la ra il mn rs tb ve oa lm from g32) rfl rfl (s_Mod_offOf (h := (hu h 47 (aI 20736 of))) (X := X) (Y := Y) (show _ = oMod ac by_ la ra il mn rs tb ve oa lm from g32) (show _ = aI 40 fr from g39) (show _ = aI 40 sz from g40) (show _ = aI 160 cx from g44) (show _ = aI 160 cy from g45) hB efr esz hP hs Rw S (show i < P by omega) hs1 (by omega)) rfl rfl ⟨Nat.le_of_ble_eq_true rfl, Nat.le_of_ble_eq_true rfl⟩ (Nat.le_of_ble_eq_true rfl)  ?_
    refine a_iast d_Mod_laysTable_56 (hu_s _ _ _) (nI_in (show 144 * i + s < 20736 by omega) (by decide)) ?_
    refine a_iinc d_Mod_laysTable_57 rfl (nI_1 s) (Nat.le_of_ble_eq_true rfl) rfl ?_
    refine a_goto 28 d_Mod_laysTable_60 (by decide) ?_
    rw [hu_hu, nI_clamp (by omega)]
    exact R mc ms Qf n0 z0 q1 q2 K
set_option maxRecDepth 20000 in
set_option maxHeartbeats 4000000 in
theorem L_tbO {ac by_ la ra il mn : Int32} {rs : Int64} {tb ve oa lm : Int32} {fr sz cx cy : Nat → Int32} {B S0 P : Nat} {X Y : Nat → Int} (g32 : h 32 = oMod ac by_ la ra il mn rs tb ve oa lm) (g39 : h 39 = aI 40 fr) (g40 : h 40 = aI 40 sz) (g44 : h 44 = aI 160 cx) (g45 : h 45 = aI 160 cy) (hB : B < 40) (efr : fr B = nI S0) (esz : sz B = nI P) (hP : 0 < P) (hs : S0 + P ≤ 144) (Rw : Row cx cy S0 P X Y) (S : Sh X Y) : ∀ (m i : Nat), i + m = P → ∀ (of : Nat → Int32), OfA X Y P i 1 of → ∃ of', OfA X Y P P 1 of' ∧ Rc V i_Mod_laysTable 3 16 [some (.ref 32), some (.int (nI B)), some (.int (nI i)), none] [] (hu h 47 (aI 20736 of)) n z 69 [some (.ref 32), some (.int (nI B)), some (.int (nI P)), none] [] (hu h 47 (aI 20736 of')) n z := by
  intro m
  induction m with
  | zero =>
    intro i hi of ok
    have e : i = P := by omega
    subst e
    refine ⟨of, ok, fun mc ms Qf n0 z0 q1 q2 K => ?_⟩
    refine a_iload_n d_Mod_laysTable_16 rfl ?_
    refine a_aload_n d_Mod_laysTable_17 rfl ?_
    refine a_getf d_Mod_laysTable_18 f_Mod_31 (show _ = oMod ac by_ la ra il mn rs tb ve oa lm from g32) rfl ?_
    refine a_iload_n d_Mod_laysTable_21 rfl ?_
    refine a_iald d_Mod_laysTable_22 (show _ = aI 40 sz from g40) (nI_in hB (by decide)) ?_
    rw [nI_clamp (by omega), esz]
    refine a_icmp_ge 69 d_Mod_laysTable_23 (by decide) (fun c23 => ?_) (fun c23 => absurd (Int32.le_refl _) c23)
    exact K
  | succ m ih =>
    intro i hi of ok
    obtain ⟨of1, ok1, R1⟩ := L_tbI (V := V) (h := h) (n := n) (z := z) g32 g39 g40 g44 g45 hB efr esz hP hs Rw S (show i < P by omega) (P - 1) 1 (by omega) (Nat.le_refl 1) of ok
    obtain ⟨of2, ok2, R2⟩ := ih (i + 1) (by omega) of1 ok1
    refine ⟨of2, ok2, fun mc ms Qf n0 z0 q1 q2 K => ?_⟩
    refine a_iload_n d_Mod_laysTable_16 rfl ?_
    refine a_aload_n d_Mod_laysTable_17 rfl ?_
    refine a_getf d_Mod_laysTable_18 f_Mod_31 (show _ = oMod ac by_ la ra il mn rs tb ve oa lm from g32) rfl ?_
    refine a_iload_n d_Mod_laysTable_21 rfl ?_
    refine a_iald d_Mod_laysTable_22 (show _ = aI 40 sz from g40) (nI_in hB (by decide)) ?_
    rw [nI_clamp (by omega), esz]
    refine a_icmp_ge 69 d_Mod_laysTable_23 (by decide) (fun c23 => absurd c23 (nI_ge (show i < P by omega) (by omega))) (fun c23 => ?_)
    refine a_iconst (v := 1) d_Mod_laysTable_26 (by decide) ?_
    refine a_istore_n d_Mod_laysTable_27 (Nat.le_of_ble_eq_true rfl) (Nat.le_of_ble_eq_true rfl) rfl ?_
    refine R1 mc ms Qf n0 z0 q1 q2 ?_
    refine a_iinc d_Mod_laysTable_63 rfl (nI_1 i) (Nat.le_of_ble_eq_true rfl) rfl ?_
    refine a_goto 16 d_Mod_laysTable_66 (by decide) ?_
    refine a_drop 3 ?_
    exact R2 mc ms Qf n0 z0 q1 q2 K
def MLt (W H : Nat) (D : Int64) (j s ac by_ la ra : Int32) (t : Nat) (h : AH) : Prop := ∃ lm, h 32 = oMod ac by_ la ra 1 (nI (sB (decide (j = 1)) D 64)) 0 (nI (sB (decide (j = 1)) D t)) (nI (zN (decide (j = 1)) D t)) (nI (zO (decide (j = 1)) D t)) lm ∧ MB W H D j s h ∧ MLh (decide (j = 1)) D 64 h ∧ TBh (decide (j = 1)) D t (nI (zN (decide (j = 1)) D t)) (nI (zO (decide (j = 1)) D t)) h
theorem MLt.d {W H : Nat} {D : Int64} {j s ac by_ la ra : Int32} {t : Nat} {h : AH} (ht : t < 64) (hb : isB (decide (j = 1)) D t = true) (T : MLt W H D j s ac by_ la ra t h) : MLd W H D j s ac by_ la ra h := by
  obtain ⟨lm, a, b, c, d⟩ := T
  exact ⟨_, _, _, lm, a, b, c, Or.inr ⟨t, ht, hb, rfl, d⟩⟩
theorem Ex_1e6 {J : Bool} {D : Int64} {t : Nat} (ht : t < 64) (hb : isB J D t = true) : ∀ a s e, Ex (bX J D t) (bY J D t) (sP J D t) a s = some e → e < 1000000 := by
  intro a s e q
  unfold Ex at q
  rcases Nat.lt_or_ge 12 s with c | c
  · rw [off_12 ht hb c] at q; cases q
  · have := off_16 ((Gd_all J D).2 t ht hb).2.1 q
    omega
set_option maxRecDepth 20000 in
set_option maxHeartbeats 4000000 in
theorem m_laysTable {W H : Nat} {D : Int64} {j s ac by_ la ra : Int32} {t : Nat} (ht : t < 64) (hb : isB (decide (j = 1)) D t = true) (L : MLd W H D j s ac by_ la ra h) : ∃ h1, MLt W H D j s ac by_ la ra t h1 ∧ FQ h1 h ∧ AMet V i_Mod_laysTable 3 [.ref 32, .int (nI (sB (decide (j = 1)) D t))] h n z none h1 n z := by
  obtain ⟨tb, ve, oa, lm, g32, ⟨st, of, le, vxx, tu, lx, ly, g33, es, g47, g48, g49, g50, g51, g52⟩, ⟨fr, sz, fx, fy, wn, cx, cy, go, g39, g40, g41, g42, g43, g44, g45, g46, ml⟩, TB⟩ := id L
  have P4 := bd_P ht hb
  have B36 := sB_36 (decide (j = 1)) D t (by omega)
  by_cases ct : tb = nI (sB (decide (j = 1)) D t)
  · refine ⟨h, ?_, FQ.rfl, ?_⟩
    · rcases TB with q | ⟨t', ht', hb', e1, e2⟩
      · rw [q] at ct
        have := congrArg Int32.toInt ct
        rw [nI_toInt (by omega), show ((-1 : Int32)).toInt = -1 from by decide] at this
        omega
      · have B36' := sB_36 (decide (j = 1)) D t' (by omega)
        rw [ct] at e1
        have et : t' = t := sB_inj hb' hb ((nI_eq (by omega) (by omega)).mp e1).symm
        subst et
        obtain ⟨v1, v2, v3⟩ := id e2
        subst v1 v2
        refine ⟨lm, by rw [g32, ct], ⟨st, of, le, vxx, tu, lx, ly, g33, es, g47, g48, g49, g50, g51, g52⟩, ⟨fr, sz, fx, fy, wn, cx, cy, go, g39, g40, g41, g42, g43, g44, g45, g46, ml⟩, e2⟩
    · refine AMet.intro (Nat.le_refl _) (Nat.le_refl _) (by decide) (Nat.le_of_ble_eq_true rfl) rfl ?_
      refine a_aload_n d_Mod_laysTable_0 rfl ?_
      refine a_getf d_Mod_laysTable_1 f_Mod_153 g32 rfl ?_
      refine a_iload_n d_Mod_laysTable_4 rfl ?_
      refine a_icmp_ne 9 d_Mod_laysTable_5 (by decide) (fun c5 => absurd c5 (fun q => q ct)) (fun c5 => ?_)
      exact a_vret d_Mod_laysTable_8 rfl rfl rfl rfl
  · obtain ⟨⟨m1, m2, m3, m4, m5⟩, m6⟩ := ml t ht hb
    have Sx := ((Gd_all (decide (j = 1)) D).2 t ht hb).2.1
    have hR : Row cx cy (sS (decide (j = 1)) D t) (sP (decide (j = 1)) D t) (bX (decide (j = 1)) D t) (bY (decide (j = 1)) D t) := fun k hk => ⟨(m6 k hk).1, (m6 k hk).2.1⟩
    obtain ⟨of1, ok1, R1⟩ := L_tbO (V := V) (h := hu h 32 (oMod ac by_ la ra 1 (nI (sB (decide (j = 1)) D 64)) 0 (nI (sB (decide (j = 1)) D t)) ve oa lm)) (n := n) (z := z) (hu_s _ _ _) (show _ = aI 40 fr from g39) (show _ = aI 40 sz from g40) (show _ = aI 160 cx from g44) (show _ = aI 160 cy from g45) (show (sB (decide (j = 1)) D t) < 40 by omega) m1 m2 (show 0 < (sP (decide (j = 1)) D t) by omega) P4.2.2 hR Sx (sP (decide (j = 1)) D t) 0 (by omega) of (fun a q h1 h2 h3 h4 => by omega)
    have hof : ∀ a s, a < (sP (decide (j = 1)) D t) → 1 ≤ s → s < (sP (decide (j = 1)) D t) → of1 (144 * a + s) = oS (Ex (bX (decide (j = 1)) D t) (bY (decide (j = 1)) D t) (sP (decide (j = 1)) D t) a s) := fun a s h1 h2 h3 => by
      unfold Ex
      rw [Nat.mod_eq_of_lt h1]
      exact ok1 a s h1 h2 h3 (Or.inl h1)
    obtain ⟨h1, b1, b2, ⟨vx', b3, b4⟩, b5, b6⟩ := s_Mod_laysBest (V := V) (h := hu (hu h 32 (oMod ac by_ la ra 1 (nI (sB (decide (j = 1)) D 64)) 0 (nI (sB (decide (j = 1)) D t)) ve oa lm)) 47 (aI 20736 of1)) (n := n) (z := z) (of := of1) (B := (sB (decide (j = 1)) D t)) (show _ = oMod ac by_ la ra 1 (nI (sB (decide (j = 1)) D 64)) 0 (nI (sB (decide (j = 1)) D t)) ve oa lm from rfl) (show _ = aI 20736 of1 from rfl) (show _ = aI 40 sz from g40) (show _ = aI 160 le from g48) (show _ = aI 144 vxx from g49) (by omega) m2 (bd_CO ht hb) (Ex_1e6 ht hb) hof
    obtain ⟨le', b2⟩ := b2
    have far : ∀ i, i ≠ 32 → i ≠ 47 → i ≠ 48 → i ≠ 49 → h1 i = h i := fun i q1 q2 q3 q4 => by rw [b5 i q1 q3 q4, hu_n q2, hu_n q1]
    have k47 : h1 47 = aI 20736 of1 := by rw [b5 47 (by decide) (by decide) (by decide)]; exact hu_s _ _ _
    refine ⟨h1, ⟨lm, b1, ⟨st, of1, le', vx', tu, lx, ly, ?_, es, k47, b2, b3, ?_, ?_, ?_⟩, ⟨fr, sz, fx, fy, wn, cx, cy, go, ?_, ?_, ?_, ?_, ?_, ?_, ?_, ?_, ml⟩, ⟨rfl, rfl, of1, vx', k47, b3, fun a q h1 h2 h3 => ok1 a q h1 h2 h3 (Or.inl h1), b4⟩⟩, fun i q => far i (by omega) (by omega) (by omega) (by omega), ?_⟩
    all_goals first
      | (rw [far _ (by decide) (by decide) (by decide) (by decide)]; assumption)
      | skip
    have e0 : hu h 32 (oMod ac by_ la ra 1 (nI (sB (decide (j = 1)) D 64)) 0 (nI (sB (decide (j = 1)) D t)) ve oa lm) = hu (hu h 32 (oMod ac by_ la ra 1 (nI (sB (decide (j = 1)) D 64)) 0 (nI (sB (decide (j = 1)) D t)) ve oa lm)) 47 (aI 20736 of) := (hu_same (show (hu h 32 _) 47 = aI 20736 of from g47)).symm
    refine AMet.intro (Nat.le_refl _) (Nat.le_refl _) (by decide) (Nat.le_of_ble_eq_true rfl) rfl ?_
    refine a_aload_n d_Mod_laysTable_0 rfl ?_
    refine a_getf d_Mod_laysTable_1 f_Mod_153 g32 rfl ?_
    refine a_iload_n d_Mod_laysTable_4 rfl ?_
    refine a_icmp_ne 9 d_Mod_laysTable_5 (by decide) (fun c5 => ?_) (fun c5 => absurd c5 ct)
    refine a_aload_n d_Mod_laysTable_9 rfl ?_
    refine a_iload_n d_Mod_laysTable_10 rfl ?_
    refine a_putf d_Mod_laysTable_11 f_Mod_153 rfl g32 (Nat.le_of_ble_eq_true rfl) rfl rfl ?_
    refine a_iconst (v := 0) d_Mod_laysTable_14 (by decide) ?_
    refine a_istore_n d_Mod_laysTable_15 (Nat.le_of_ble_eq_true rfl) (Nat.le_of_ble_eq_true rfl) rfl ?_
    refine a_eq rfl rfl rfl e0 rfl rfl (R1.use ?_)
    refine a_aload_n d_Mod_laysTable_69 rfl ?_
    refine a_iload_n d_Mod_laysTable_70 rfl ?_
    refine a_cv0 (a := 32) d_Mod_laysTable_71 m_Mod_laysBest t_Mod_laysBest l_Mod_189 (show _ = oMod ac by_ la ra 1 (nI (sB (decide (j = 1)) D 64)) 0 (nI (sB (decide (j = 1)) D t)) ve oa lm from rfl) rfl rfl b6 rfl rfl ⟨Nat.le_of_ble_eq_true rfl, Nat.le_of_ble_eq_true rfl⟩ (Nat.le_of_ble_eq_true rfl)  ?_
    exact a_vret d_Mod_laysTable_74 rfl rfl rfl rfl
end
