/-! THE MODEL, frame: printed by wip/whole/t49.py -/
/-- what the model holds when the dots of P are laid -/
def frG (st : Nat → Int32) (v : Int32) (P : Nat → Nat → Bool) (i : Nat) : Int32 := if 4 ≤ i ∧ i < 68 ∧ P ((i - 4) % 8) ((i - 4) / 8) = true then (if 2 ≤ v then 1 - st i else v) else st i
def fP (X1 Y1 Y2 X Y : Nat) (x y : Nat) : Bool := decide (Y1 ≤ y ∧ y ≤ Y2 ∧ X1 ≤ x ∧ (x < X ∨ (x = X ∧ y < Y)))
theorem frG_no {st : Nat → Int32} {v : Int32} {P : Nat → Nat → Bool} {X Y : Nat} (hX : X < 8) (hY : Y < 8) (hP : P X Y = false) : frG st v P (4 + 8 * Y + X) = st (4 + 8 * Y + X) := by
  unfold frG
  rw [show (4 + 8 * Y + X - 4) % 8 = X by omega, show (4 + 8 * Y + X - 4) / 8 = Y by omega, hP, if_neg (by simp)]
theorem frG_step {st : Nat → Int32} {v : Int32} {P P2 : Nat → Nat → Bool} {X Y : Nat} (hX : X < 8) (hY : Y < 8) (hP : P2 X Y = true) (h2 : ∀ x y, x < 8 → y < 8 → (x ≠ X ∨ y ≠ Y) → P2 x y = P x y) : upd (frG st v P) (4 + 8 * Y + X) (if 2 ≤ v then 1 - st (4 + 8 * Y + X) else v) = frG st v P2 := by
  funext i
  by_cases e : i = 4 + 8 * Y + X
  · subst e
    simp only [upd, frG]
    rw [show (4 + 8 * Y + X - 4) % 8 = X by omega, show (4 + 8 * Y + X - 4) / 8 = Y by omega, hP]
    rw [if_pos trivial, if_pos (show 4 ≤ 4 + 8 * Y + X ∧ 4 + 8 * Y + X < 68 ∧ true = true from ⟨by omega, by omega, rfl⟩)]
  · simp only [upd, if_neg e, frG]
    by_cases q : 4 ≤ i ∧ i < 68
    · rw [h2 ((i - 4) % 8) ((i - 4) / 8) (by omega) (by omega) (by omega)]
    · rw [if_neg (fun c => q ⟨c.1, c.2.1⟩), if_neg (fun c => q ⟨c.1, c.2.1⟩)]
theorem frG_eq {st : Nat → Int32} {v : Int32} {P P2 : Nat → Nat → Bool} (h2 : ∀ x y, x < 8 → y < 8 → P2 x y = P x y) : frG st v P = frG st v P2 := by
  funext i
  unfold frG
  by_cases q : 4 ≤ i ∧ i < 68
  · rw [h2 ((i - 4) % 8) ((i - 4) / 8) (by omega) (by omega)]
  · rw [if_neg (fun c => q ⟨c.1, c.2.1⟩), if_neg (fun c => q ⟨c.1, c.2.1⟩)]
theorem frG_0 {st : Nat → Int32} {v : Int32} {P : Nat → Nat → Bool} (h2 : ∀ x y, x < 8 → y < 8 → P x y = false) : frG st v P = st := by
  funext i
  unfold frG
  by_cases q : 4 ≤ i ∧ i < 68
  · rw [h2 ((i - 4) % 8) ((i - 4) / 8) (by omega) (by omega), if_neg (by simp)]
  · rw [if_neg (fun c => q ⟨c.1, c.2.1⟩)]
section
variable {V : VV} {h : AH} {n z : Nat}

set_option maxRecDepth 20000 in
set_option maxHeartbeats 4000000 in
theorem s_Mod_frameB {ac by_ la ra il mn : Int32} {rs : Int64} {tb ve oa lm : Int32} {st : Nat → Int32} (g32 : h 32 = oMod ac by_ la ra il mn rs tb ve oa lm) (g33 : h 33 = aI 68 st) {x y x2 y2 v : Int32} (hp : ¬ (¬ mDot (st 0) (st 1) x y = 0 ∧ ¬ mDot (st 0) (st 1) x2 y2 = 0 ∧ ¬ x2 < x ∧ ¬ y2 < y ∧ ¬ fRg v 0 2 = 0)) : AMet V i_Mod_frame 2 [.ref 32, .int x, .int y, .int x2, .int y2, .int v] h n z (some (.int (-1000001))) (h) n z := by
  refine AMet.intro (Nat.le_refl _) (Nat.le_refl _) (by decide) (Nat.le_of_ble_eq_true rfl) rfl ?_
  refine a_aload_n d_Mod_frame_0 rfl ?_
  refine a_iload_n d_Mod_frame_1 rfl ?_
  refine a_iload_n d_Mod_frame_2 rfl ?_
  refine a_cv0 (a := 32) d_Mod_frame_3 m_Mod_isDot t_Mod_isDot l_Mod_118 g32 rfl rfl (s_Mod_isDot g32 g33 x y) rfl rfl ⟨Nat.le_of_ble_eq_true rfl, Nat.le_of_ble_eq_true rfl⟩ (Nat.le_of_ble_eq_true rfl)  ?_
  refine a_if_eq 40 d_Mod_frame_6 (by decide) (fun c6 => ?_) (fun c6 => ?_)
  · skip
    refine a_ldc d_Mod_frame_40 k_Mod_75 ?_
    exact a_iret d_Mod_frame_42 rfl rfl rfl rfl
  · skip
    refine a_aload_n d_Mod_frame_9 rfl ?_
    refine a_iload_n d_Mod_frame_10 rfl ?_
    refine a_iload d_Mod_frame_11 rfl ?_
    refine a_cv0 (a := 32) d_Mod_frame_13 m_Mod_isDot t_Mod_isDot l_Mod_118 g32 rfl rfl (s_Mod_isDot g32 g33 x2 y2) rfl rfl ⟨Nat.le_of_ble_eq_true rfl, Nat.le_of_ble_eq_true rfl⟩ (Nat.le_of_ble_eq_true rfl)  ?_
    refine a_if_eq 40 d_Mod_frame_16 (by decide) (fun c16 => ?_) (fun c16 => ?_)
    · skip
      refine a_ldc d_Mod_frame_40 k_Mod_75 ?_
      exact a_iret d_Mod_frame_42 rfl rfl rfl rfl
    · skip
      refine a_iload_n d_Mod_frame_19 rfl ?_
      refine a_iload_n d_Mod_frame_20 rfl ?_
      refine a_icmp_lt 40 d_Mod_frame_21 (by decide) (fun c21 => ?_) (fun c21 => ?_)
      · skip
        refine a_ldc d_Mod_frame_40 k_Mod_75 ?_
        exact a_iret d_Mod_frame_42 rfl rfl rfl rfl
      · skip
        refine a_iload d_Mod_frame_24 rfl ?_
        refine a_iload_n d_Mod_frame_26 rfl ?_
        refine a_icmp_lt 40 d_Mod_frame_27 (by decide) (fun c27 => ?_) (fun c27 => ?_)
        · skip
          refine a_ldc d_Mod_frame_40 k_Mod_75 ?_
          exact a_iret d_Mod_frame_42 rfl rfl rfl rfl
        · skip
          refine a_iload d_Mod_frame_30 rfl ?_
          refine a_iconst (v := 0) d_Mod_frame_32 (by decide) ?_
          refine a_iconst (v := 2) d_Mod_frame_33 (by decide) ?_
          refine a_cs0 d_Mod_frame_34 m_Mod_in t_Mod_in l_Mod_71 (s_Mod_in v 0 2) rfl rfl ⟨Nat.le_of_ble_eq_true rfl, Nat.le_of_ble_eq_true rfl⟩ (Nat.le_of_ble_eq_true rfl)  ?_
          refine a_if_ne 43 d_Mod_frame_37 (by decide) (fun c37 => ?_) (fun c37 => ?_)
          · skip
            exact absurd ⟨c6, c16, c21, c27, c37⟩ hp
          · skip
            refine a_ldc d_Mod_frame_40 k_Mod_75 ?_
            exact a_iret d_Mod_frame_42 rfl rfl rfl rfl
set_option maxRecDepth 20000 in
set_option maxHeartbeats 4000000 in
theorem L_frY {ac by_ la ra il mn : Int32} {rs : Int64} {tb ve oa lm : Int32} {st : Nat → Int32} (g32 : h 32 = oMod ac by_ la ra il mn rs tb ve oa lm) (g33 : h 33 = aI 68 st)  {X1 X2 Y1 Y2 : Nat} {v : Int32} (hX2 : X2 < 8) (hY2 : Y2 < 8) {X : Nat} (hX : X < 8) (hX1 : X1 ≤ X) : ∀ (m Y : Nat), Y + m = Y2 + 1 → Y1 ≤ Y → Rc V i_Mod_frame 2 59 [some (.ref 32), some (.int (nI X1)), some (.int (nI Y1)), some (.int (nI X2)), some (.int (nI Y2)), some (.int v), some (.int (nI X)), some (.int (nI Y)), none] [] (hu h 33 (aI 68 (frG st v (fP X1 Y1 Y2 X Y)))) n z 111 [some (.ref 32), some (.int (nI X1)), some (.int (nI Y1)), some (.int (nI X2)), some (.int (nI Y2)), some (.int v), some (.int (nI X)), some (.int (nI (Y2 + 1))), none] [] (hu h 33 (aI 68 (frG st v (fP X1 Y1 Y2 X (Y2 + 1))))) n z := by
  intro m
  induction m with
  | zero =>
    intro Y hY hY1 mc ms Qf n0 z0 q1 q2 K
    have e : Y = Y2 + 1 := by omega
    subst e
    refine a_iload d_Mod_frame_59 rfl ?_
    refine a_iload d_Mod_frame_61 rfl ?_
    refine a_icmp_gt 111 d_Mod_frame_63 (by decide) (fun c63 => ?_) (fun c63 => absurd (nI_lt (show Y2 < Y2 + 1 by omega) (by omega)) c63)
    exact K
  | succ m ih =>
    intro Y hY hY1 mc ms Qf n0 z0 q1 q2 K
    have e0 : frG st v (fP X1 Y1 Y2 X Y) (4 + 8 * Y + X) = st (4 + 8 * Y + X) := frG_no hX (by omega) (by unfold fP; exact decide_eq_false (by omega))
    refine a_iload d_Mod_frame_59 rfl ?_
    refine a_iload d_Mod_frame_61 rfl ?_
    refine a_icmp_gt 111 d_Mod_frame_63 (by decide) (fun c63 => absurd c63 (nI_nlt (show Y ≤ Y2 by omega) (by omega))) (fun c63 => ?_)
    refine a_iconst (v := 4) d_Mod_frame_66 (by decide) ?_
    refine a_bipush (v := 8) d_Mod_frame_67 (by decide) ?_
    refine a_iload d_Mod_frame_69 rfl ?_
    refine a_imul d_Mod_frame_71 ?_
    refine a_iadd d_Mod_frame_72 ?_
    refine a_iload d_Mod_frame_73 rfl ?_
    refine a_iadd d_Mod_frame_75 ?_
    rw [ixE]
    refine a_istore d_Mod_frame_76 (Nat.le_of_ble_eq_true rfl) (Nat.le_of_ble_eq_true rfl) rfl ?_
    refine a_aload_n d_Mod_frame_78 rfl ?_
    refine a_getf d_Mod_frame_79 f_Mod_7 (show _ = oMod ac by_ la ra il mn rs tb ve oa lm from g32) rfl ?_
    refine a_iload d_Mod_frame_82 rfl ?_
    refine a_iload d_Mod_frame_84 rfl ?_
    refine a_iconst (v := 2) d_Mod_frame_86 (by decide) ?_
    refine a_icmp_ge 95 d_Mod_frame_87 (by decide) (fun c87 => ?_) (fun c87 => ?_)
    · skip
      refine a_iconst (v := 1) d_Mod_frame_95 (by decide) ?_
      refine a_aload_n d_Mod_frame_96 rfl ?_
      refine a_getf d_Mod_frame_97 f_Mod_7 (show _ = oMod ac by_ la ra il mn rs tb ve oa lm from g32) rfl ?_
      refine a_iload d_Mod_frame_100 rfl ?_
      refine a_iald d_Mod_frame_102 (hu_s _ _ _) (nI_in (show 4 + 8 * Y + X < 68 by omega) (by decide)) ?_
      rw [nI_clamp (by omega), e0]
      refine a_isub d_Mod_frame_103 ?_
      refine a_iast d_Mod_frame_104 (hu_s _ _ _) (nI_in (show 4 + 8 * Y + X < 68 by omega) (by decide)) ?_
      refine a_iinc d_Mod_frame_105 rfl (nI_1 Y) (Nat.le_of_ble_eq_true rfl) rfl ?_
      refine a_goto 59 d_Mod_frame_108 (by decide) ?_
      rw [nI_clamp (by omega)]
      refine a_drop 8 ?_
      refine a_eq rfl rfl rfl ?_ rfl rfl (ih (Y + 1) (by omega) (by omega) mc ms Qf n0 z0 q1 q2 K)
      rw [hu_hu, ← frG_step (show X < 8 by omega) (show Y < 8 by omega) (show fP X1 Y1 Y2 X (Y + 1) X Y = true by unfold fP; exact decide_eq_true (by omega)) (P := fP X1 Y1 Y2 X Y) (fun x y _ _ _ => by unfold fP; exact decide_eq_decide.mpr (by omega))]
      rw [if_pos c87]
    · skip
      refine a_iload d_Mod_frame_90 rfl ?_
      refine a_goto 104 d_Mod_frame_92 (by decide) ?_
      refine a_iast d_Mod_frame_104 (hu_s _ _ _) (nI_in (show 4 + 8 * Y + X < 68 by omega) (by decide)) ?_
      refine a_iinc d_Mod_frame_105 rfl (nI_1 Y) (Nat.le_of_ble_eq_true rfl) rfl ?_
      refine a_goto 59 d_Mod_frame_108 (by decide) ?_
      rw [nI_clamp (by omega)]
      refine a_drop 8 ?_
      refine a_eq rfl rfl rfl ?_ rfl rfl (ih (Y + 1) (by omega) (by omega) mc ms Qf n0 z0 q1 q2 K)
      rw [hu_hu, ← frG_step (show X < 8 by omega) (show Y < 8 by omega) (show fP X1 Y1 Y2 X (Y + 1) X Y = true by unfold fP; exact decide_eq_true (by omega)) (P := fP X1 Y1 Y2 X Y) (fun x y _ _ _ => by unfold fP; exact decide_eq_decide.mpr (by omega))]
      rw [if_neg c87]
set_option maxRecDepth 20000 in
set_option maxHeartbeats 4000000 in
theorem L_frX {ac by_ la ra il mn : Int32} {rs : Int64} {tb ve oa lm : Int32} {st : Nat → Int32} (g32 : h 32 = oMod ac by_ la ra il mn rs tb ve oa lm) (g33 : h 33 = aI 68 st)  {X1 X2 Y1 Y2 : Nat} {v : Int32} (hX2 : X2 < 8) (hY2 : Y2 < 8) (hYY : Y1 ≤ Y2) : ∀ (m X : Nat), X + m = X2 + 1 → X1 ≤ X → Rc V i_Mod_frame 2 50 [some (.ref 32), some (.int (nI X1)), some (.int (nI Y1)), some (.int (nI X2)), some (.int (nI Y2)), some (.int v), some (.int (nI X)), none, none] [] (hu h 33 (aI 68 (frG st v (fP X1 Y1 Y2 X Y1)))) n z 117 [some (.ref 32), some (.int (nI X1)), some (.int (nI Y1)), some (.int (nI X2)), some (.int (nI Y2)), some (.int v), some (.int (nI (X2 + 1))), none, none] [] (hu h 33 (aI 68 (frG st v (fP X1 Y1 Y2 (X2 + 1) Y1)))) n z := by
  intro m
  induction m with
  | zero =>
    intro X hX hX1 mc ms Qf n0 z0 q1 q2 K
    have e : X = X2 + 1 := by omega
    subst e
    refine a_iload d_Mod_frame_50 rfl ?_
    refine a_iload_n d_Mod_frame_52 rfl ?_
    refine a_icmp_gt 117 d_Mod_frame_53 (by decide) (fun c53 => ?_) (fun c53 => absurd (nI_lt (show X2 < X2 + 1 by omega) (by omega)) c53)
    exact K
  | succ m ih =>
    intro X hX hX1 mc ms Qf n0 z0 q1 q2 K
    refine a_iload d_Mod_frame_50 rfl ?_
    refine a_iload_n d_Mod_frame_52 rfl ?_
    refine a_icmp_gt 117 d_Mod_frame_53 (by decide) (fun c53 => absurd c53 (nI_nlt (show X ≤ X2 by omega) (by omega))) (fun c53 => ?_)
    refine a_iload_n d_Mod_frame_56 rfl ?_
    refine a_istore d_Mod_frame_57 (Nat.le_of_ble_eq_true rfl) (Nat.le_of_ble_eq_true rfl) rfl ?_
    refine L_frY (v := v) (X2 := X2) g32 g33 hX2 hY2 (show X < 8 by omega) hX1 (Y2 + 1 - Y1) Y1 (by omega) (by omega) mc ms Qf n0 z0 q1 q2 ?_
    refine a_iinc d_Mod_frame_111 rfl (nI_1 X) (Nat.le_of_ble_eq_true rfl) rfl ?_
    refine a_goto 50 d_Mod_frame_114 (by decide) ?_
    have e1 : frG st v (fP X1 Y1 Y2 X (Y2 + 1)) = frG st v (fP X1 Y1 Y2 (X + 1) Y1) := frG_eq (fun x y _ _ => by unfold fP; exact decide_eq_decide.mpr (by omega))
    rw [e1]
    refine a_drop 7 ?_
    exact ih (X + 1) (by omega) (by omega) mc ms Qf n0 z0 q1 q2 K
set_option maxRecDepth 20000 in
set_option maxHeartbeats 4000000 in
theorem s_Mod_frame {by_ la ra il mn : Int32} {rs : Int64} {tb ve oa lm : Int32} {k : Nat} {st pa : Nat → Int32} (g32 : h 32 = oMod (nI k) by_ la ra il mn rs tb ve oa lm) (g33 : h 33 = aI 68 st) (g34 : h 34 = aI 544 pa) (hk : k ≤ 8) {X1 X2 Y1 Y2 : Nat} {v : Int32} (hX2 : X2 < 8) (hY2 : Y2 < 8) (hXX : X1 ≤ X2) (hYY : Y1 ≤ Y2) (hp : ¬ mDot (st 0) (st 1) (nI X1) (nI Y1) = 0 ∧ ¬ mDot (st 0) (st 1) (nI X2) (nI Y2) = 0 ∧ ¬ nI X2 < nI X1 ∧ ¬ nI Y2 < nI Y1 ∧ ¬ fRg v 0 2 = 0) {D2 : Int64} (hst : ∀ i, i < 64 → (frG st v (fun x y => decide (X1 ≤ x ∧ x ≤ X2 ∧ Y1 ≤ y ∧ y ≤ Y2))) (4 + i) = if lb D2 i then 1 else 0) : ∃ h1, AMet V i_Mod_frame 2 [.ref 32, .int (nI X1), .int (nI Y1), .int (nI X2), .int (nI Y2), .int v] h n z (some (.int (nI (pcn D2 64)))) h1 n z ∧ h1 32 = oMod (nI (rmK k)) by_ la ra 0 mn rs tb ve oa lm ∧ h1 33 = aI 68 (frG st v (fun x y => decide (X1 ≤ x ∧ x ≤ X2 ∧ Y1 ≤ y ∧ y ≤ Y2))) ∧ h1 34 = aI 544 (rmP pa k st) ∧ ∀ i, i ≠ 32 → i ≠ 33 → i ≠ 34 → h1 i = h i := by
  obtain ⟨h2, M, k32, k33, k34, far⟩ := s_notes (V := V) (n := n) (z := z) g32 g33 g34 hk
  refine ⟨hu h2 33 (aI 68 (frG st v (fun x y => decide (X1 ≤ x ∧ x ≤ X2 ∧ Y1 ≤ y ∧ y ≤ Y2)))), ?_, k32, hu_s _ _ _, k34, fun i q1 q2 q3 => by rw [hu_n q2, far i q1 q3]⟩
  have e0 : h2 = hu h2 33 (aI 68 (frG st v (fP X1 Y1 Y2 X1 Y1))) := by
    rw [frG_0 (fun x y _ _ => by unfold fP; exact decide_eq_false (by omega))]
    exact (hu_same k33).symm
  have e1 : frG st v (fP X1 Y1 Y2 (X2 + 1) Y1) = (frG st v (fun x y => decide (X1 ≤ x ∧ x ≤ X2 ∧ Y1 ≤ y ∧ y ≤ Y2))) := frG_eq (fun x y _ _ => by unfold fP; exact decide_eq_decide.mpr (by omega))
  refine AMet.intro (Nat.le_refl _) (Nat.le_refl _) (by decide) (Nat.le_of_ble_eq_true rfl) rfl ?_
  refine a_aload_n d_Mod_frame_0 rfl ?_
  refine a_iload_n d_Mod_frame_1 rfl ?_
  refine a_iload_n d_Mod_frame_2 rfl ?_
  refine a_cv0 (a := 32) d_Mod_frame_3 m_Mod_isDot t_Mod_isDot l_Mod_118 g32 rfl rfl (s_Mod_isDot g32 g33 _ _) rfl rfl ⟨Nat.le_of_ble_eq_true rfl, Nat.le_of_ble_eq_true rfl⟩ (Nat.le_of_ble_eq_true rfl)  ?_
  refine a_if_eq 40 d_Mod_frame_6 (by decide) (fun c6 => absurd c6 hp.1) (fun c6 => ?_)
  refine a_aload_n d_Mod_frame_9 rfl ?_
  refine a_iload_n d_Mod_frame_10 rfl ?_
  refine a_iload d_Mod_frame_11 rfl ?_
  refine a_cv0 (a := 32) d_Mod_frame_13 m_Mod_isDot t_Mod_isDot l_Mod_118 g32 rfl rfl (s_Mod_isDot g32 g33 _ _) rfl rfl ⟨Nat.le_of_ble_eq_true rfl, Nat.le_of_ble_eq_true rfl⟩ (Nat.le_of_ble_eq_true rfl)  ?_
  refine a_if_eq 40 d_Mod_frame_16 (by decide) (fun c16 => absurd c16 hp.2.1) (fun c16 => ?_)
  refine a_iload_n d_Mod_frame_19 rfl ?_
  refine a_iload_n d_Mod_frame_20 rfl ?_
  refine a_icmp_lt 40 d_Mod_frame_21 (by decide) (fun c21 => absurd c21 hp.2.2.1) (fun c21 => ?_)
  refine a_iload d_Mod_frame_24 rfl ?_
  refine a_iload_n d_Mod_frame_26 rfl ?_
  refine a_icmp_lt 40 d_Mod_frame_27 (by decide) (fun c27 => absurd c27 hp.2.2.2.1) (fun c27 => ?_)
  refine a_iload d_Mod_frame_30 rfl ?_
  refine a_iconst (v := 0) d_Mod_frame_32 (by decide) ?_
  refine a_iconst (v := 2) d_Mod_frame_33 (by decide) ?_
  refine a_cs0 d_Mod_frame_34 m_Mod_in t_Mod_in l_Mod_71 (s_Mod_in v 0 2) rfl rfl ⟨Nat.le_of_ble_eq_true rfl, Nat.le_of_ble_eq_true rfl⟩ (Nat.le_of_ble_eq_true rfl)  ?_
  refine a_if_ne 43 d_Mod_frame_37 (by decide) (fun c37 => ?_) (fun c37 => absurd c37 hp.2.2.2.2)
  refine a_aload_n d_Mod_frame_43 rfl ?_
  refine a_cv0 (a := 32) d_Mod_frame_44 m_Mod_notes t_Mod_notes l_Mod_122 g32 rfl rfl M rfl rfl ⟨Nat.le_of_ble_eq_true rfl, Nat.le_of_ble_eq_true rfl⟩ (Nat.le_of_ble_eq_true rfl)  ?_
  refine a_iload_n d_Mod_frame_47 rfl ?_
  refine a_istore d_Mod_frame_48 (Nat.le_of_ble_eq_true rfl) (Nat.le_of_ble_eq_true rfl) rfl ?_
  refine a_eq rfl rfl rfl e0 rfl rfl ?_
  refine (L_frX (v := v) (X2 := X2) k32 k33 hX2 hY2 hYY (X2 + 1 - X1) X1 (by omega) (by omega)).use ?_
  rw [e1]
  refine a_aload_n d_Mod_frame_117 rfl ?_
  refine a_cv0 (a := 32) d_Mod_frame_118 m_Mod_dark t_Mod_dark l_Mod_114 (show _ = oMod (nI (rmK k)) by_ la ra 0 mn rs tb ve oa lm from k32) rfl rfl (s_Mod_dark (h := hu h2 33 (aI 68 (frG st v (fun x y => decide (X1 ≤ x ∧ x ≤ X2 ∧ Y1 ≤ y ∧ y ≤ Y2))))) (show _ = oMod (nI (rmK k)) by_ la ra 0 mn rs tb ve oa lm from k32) (hu_s _ _ _) hst) rfl rfl ⟨Nat.le_of_ble_eq_true rfl, Nat.le_of_ble_eq_true rfl⟩ (Nat.le_of_ble_eq_true rfl)  ?_
  exact a_iret d_Mod_frame_121 rfl rfl rfl rfl
end
