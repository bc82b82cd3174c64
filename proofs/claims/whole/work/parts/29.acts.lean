/-! THE CLASS'S FACE, what is told and done: printed by wip/whole/t29.py -/
abbrev Pc : Type := Nat × Nat × Int64 × Int32 × Int32
abbrev oPc (p : Pc) : AC := oPic (nI p.1) (nI p.2.1) p.2.2.1 p.2.2.2.1 p.2.2.2.2
/-- the cells of the class's own state -/
def CA (L : Nat) (f : Nat → Int32) (lf : Int32) (p : Pc) (k : Nat) (ad : Nat → Int64) (aj ash : Nat → Int32) (i0 i1 : Pc) (h : AH) : Prop :=
  h 8 = oDot lf ∧ h 9 = oTap (nI L) ∧ h 10 = aI 90 f ∧ (∃ r1 r2 r3 r4, h 11 = oRdg r1 r2 r3 r4) ∧ h 12 = oPc p ∧ h 13 = oPc i0 ∧ h 14 = oPc i1 ∧ h 15 = oAct (nI k) ∧ h 16 = aL 8 ad ∧ h 17 = aI 8 aj ∧ h 18 = aI 8 ash
theorem CA.of {L : Nat} {f : Nat → Int32} {lf : Int32} {p : Pc} {k : Nat} {ad : Nat → Int64} {aj ash : Nat → Int32} {i0 i1 : Pc} {h h' : AH} (A : CA L f lf p k ad aj ash i0 i1 h) (far : ∀ i, 8 ≤ i → i < 19 → h' i = h i) : CA L f lf p k ad aj ash i0 i1 h' := by
  obtain ⟨a1, a2, a3, a4, a5, a6, a7, a8, a9, a10, a11⟩ := A
  refine ⟨?_, ?_, ?_, ?_, ?_, ?_, ?_, ?_, ?_, ?_, ?_⟩ <;> (rw [far _ (by decide) (by decide)]; assumption)
/-- the acts, when one more is remembered -/
def rmK (k : Nat) : Nat := if k < 8 then k + 1 else 8
def rmL (ad : Nat → Int64) (k : Nat) (v : Int64) : Nat → Int64 := if k < 8 then vp_updL ad k v else vp_updL (shL ad 8) 7 v
def rmI (aj : Nat → Int32) (k : Nat) (v : Int32) : Nat → Int32 := if k < 8 then upd aj k v else upd (shL aj 8) 7 v
section
variable {V : VV} {h : AH} {n z : Nat} {L : Nat} {f : Nat → Int32} {lf : Int32} {W H : Nat} {D : Int64} {j s : Int32} {k : Nat} {ad : Nat → Int64} {aj ash : Nat → Int32} {i0 i1 : Pc}

theorem s_rem (A : CA L f lf (W, H, D, j, s) k ad aj ash i0 i1 h) (hk : k ≤ 8) : ∃ h1, AMet V i_Acts_remember 1 [.ref 15, .ref 12] h n z none h1 n z ∧ CA L f lf (W, H, D, j, s) (rmK k) (rmL ad k D) (rmI aj k j) (rmI ash k s) i0 i1 h1 ∧ (∀ i, i < 15 ∨ 19 ≤ i → h1 i = h i) := by
  obtain ⟨g8, g9, g10, ⟨r1, r2, r3, r4, g11⟩, g12, g13, g14, g15, g16, g17, g18⟩ := A
  rcases Nat.lt_or_ge k 8 with q | q
  · refine ⟨_, s_Acts_remember g16 g17 g18 q g15 g12, ?_, fun i hi => by rw [hu_n (by omega), hu_n (by omega), hu_n (by omega), hu_n (by omega)]⟩
    unfold rmK rmL rmI
    rw [if_pos q, if_pos q, if_pos q, if_pos q]
    refine ⟨g8, g9, g10, ⟨_, _, _, _, g11⟩, g12, g13, g14, hu_s _ _ _, ?_, ?_, ?_⟩
    · rfl
    · rfl
    · rfl
  · have e : k = 8 := by omega
    subst e
    refine ⟨_, s_Acts_rememberF g16 g17 g18 g15 g12, ?_, fun i hi => by rw [hu_n (by omega), hu_n (by omega), hu_n (by omega), hu_n (by omega), hu_n (by omega), hu_n (by omega), hu_n (by omega), hu_n (by omega)]⟩
    unfold rmK rmL rmI
    rw [if_neg (by omega), if_neg (by omega), if_neg (by omega), if_neg (by omega)]
    refine ⟨g8, g9, g10, ⟨_, _, _, _, g11⟩, g12, g13, g14, hu_s _ _ _, ?_, ?_, ?_⟩
    · rfl
    · rfl
    · rfl
set_option maxRecDepth 20000 in
set_option maxHeartbeats 4000000 in
theorem s_Dot_feedB (A : CA L f lf (W, H, D, j, s) k ad aj ash i0 i1 h) {x : Int32} (hx : ¬ (¬ x < 0 ∧ x ≤ 255)) : AMet V i_Dot_feed 1 [.ref 8, .int x] h n z (some (.int (-1000001))) h n z := by
  obtain ⟨g8, g9, g10, ⟨r1, r2, r3, r4, g11⟩, g12, g13, g14, g15, g16, g17, g18⟩ := A
  refine AMet.intro (Nat.le_refl _) (Nat.le_refl _) (by decide) (Nat.le_of_ble_eq_true rfl) rfl ?_
  refine a_iload_n d_Dot_feed_0 rfl ?_
  refine a_if_lt 11 d_Dot_feed_1 (by decide) (fun c1 => ?_) (fun c1 => ?_)
  · skip
    refine a_ldc d_Dot_feed_11 k_Dot_77 ?_
    exact a_iret d_Dot_feed_13 rfl rfl rfl rfl
  · skip
    refine a_iload_n d_Dot_feed_4 rfl ?_
    refine a_sipush (v := 255) d_Dot_feed_5 (by decide) ?_
    refine a_icmp_le 14 d_Dot_feed_8 (by decide) (fun c8 => ?_) (fun c8 => ?_)
    · skip
      exact absurd ⟨c1, c8⟩ hx
    · skip
      refine a_ldc d_Dot_feed_11 k_Dot_77 ?_
      exact a_iret d_Dot_feed_13 rfl rfl rfl rfl
set_option maxRecDepth 20000 in
set_option maxHeartbeats 4000000 in
theorem s_Dot_feedF (A : CA L f lf (W, H, D, j, s) k ad aj ash i0 i1 h) {x : Int32} (hx : ¬ x < 0 ∧ x ≤ 255) (hL : L = 90) : AMet V i_Dot_feed 1 [.ref 8, .int x] h n z (some (.int (-1000003))) h n z := by
  obtain ⟨g8, g9, g10, ⟨r1, r2, r3, r4, g11⟩, g12, g13, g14, g15, g16, g17, g18⟩ := A
  refine AMet.intro (Nat.le_refl _) (Nat.le_refl _) (by decide) (Nat.le_of_ble_eq_true rfl) rfl ?_
  refine a_iload_n d_Dot_feed_0 rfl ?_
  refine a_if_lt 11 d_Dot_feed_1 (by decide) (fun c1 => absurd c1 hx.1) (fun c1 => ?_)
  refine a_iload_n d_Dot_feed_4 rfl ?_
  refine a_sipush (v := 255) d_Dot_feed_5 (by decide) ?_
  refine a_icmp_le 14 d_Dot_feed_8 (by decide) (fun c8 => ?_) (fun c8 => absurd hx.2 c8)
  refine a_aload_n d_Dot_feed_14 rfl ?_
  refine a_getf d_Dot_feed_15 f_Dot_10 g8 rfl ?_
  refine a_iload_n d_Dot_feed_18 rfl ?_
  refine a_cv0 (a := 9) d_Dot_feed_19 m_Tap_add t_Tap_add l_Dot_78 g9 rfl rfl (s_Tap_addF g9 g10 hL x) rfl rfl ⟨Nat.le_of_ble_eq_true rfl, Nat.le_of_ble_eq_true rfl⟩ (Nat.le_of_ble_eq_true rfl)  ?_
  refine a_if_eq 35 d_Dot_feed_22 (by decide) (fun c22 => ?_) (fun c22 => absurd rfl c22)
  refine a_ldc d_Dot_feed_35 k_Dot_86 ?_
  exact a_iret d_Dot_feed_37 rfl rfl rfl rfl
set_option maxRecDepth 20000 in
set_option maxHeartbeats 4000000 in
theorem s_Dot_feedO (A : CA L f lf (W, H, D, j, s) k ad aj ash i0 i1 h) {x : Int32} (hx : ¬ x < 0 ∧ x ≤ 255) (hL : L < 90) : ∃ h1, AMet V i_Dot_feed 1 [.ref 8, .int x] h n z (some (.int (nI (L + 1)))) h1 n z ∧ CA (L + 1) (upd f L x) lf (W, H, D, j, s) k ad aj ash i0 i1 h1 ∧ (∀ i, i < 8 ∨ 19 ≤ i → h1 i = h i) := by
  obtain ⟨g8, g9, g10, ⟨r1, r2, r3, r4, g11⟩, g12, g13, g14, g15, g16, g17, g18⟩ := A
  refine ⟨hu (hu h 10 (aI 90 (upd f L x))) 9 (oTap (nI (L + 1))), ?_, ⟨g8, hu_s _ _ _, rfl, ⟨_, _, _, _, g11⟩, g12, g13, g14, g15, g16, g17, g18⟩, fun i hi => by rw [hu_n (by omega), hu_n (by omega)]⟩
  refine AMet.intro (Nat.le_refl _) (Nat.le_refl _) (by decide) (Nat.le_of_ble_eq_true rfl) rfl ?_
  refine a_iload_n d_Dot_feed_0 rfl ?_
  refine a_if_lt 11 d_Dot_feed_1 (by decide) (fun c1 => absurd c1 hx.1) (fun c1 => ?_)
  refine a_iload_n d_Dot_feed_4 rfl ?_
  refine a_sipush (v := 255) d_Dot_feed_5 (by decide) ?_
  refine a_icmp_le 14 d_Dot_feed_8 (by decide) (fun c8 => ?_) (fun c8 => absurd hx.2 c8)
  refine a_aload_n d_Dot_feed_14 rfl ?_
  refine a_getf d_Dot_feed_15 f_Dot_10 g8 rfl ?_
  refine a_iload_n d_Dot_feed_18 rfl ?_
  refine a_cv0 (a := 9) d_Dot_feed_19 m_Tap_add t_Tap_add l_Dot_78 g9 rfl rfl (s_Tap_add g9 g10 hL x) rfl rfl ⟨Nat.le_of_ble_eq_true rfl, Nat.le_of_ble_eq_true rfl⟩ (Nat.le_of_ble_eq_true rfl)  ?_
  refine a_if_eq 35 d_Dot_feed_22 (by decide) (fun c22 => absurd c22 (by decide)) (fun c22 => ?_)
  refine a_aload_n d_Dot_feed_25 rfl ?_
  refine a_getf d_Dot_feed_26 f_Dot_10 g8 rfl ?_
  refine a_getf d_Dot_feed_29 f_Dot_82 (hu_s _ _ _) rfl ?_
  refine a_goto 37 d_Dot_feed_32 (by decide) ?_
  exact a_iret d_Dot_feed_37 rfl rfl rfl rfl
set_option maxRecDepth 20000 in
set_option maxHeartbeats 4000000 in
theorem s_Dot_fault (A : CA L f lf (W, H, D, j, s) k ad aj ash i0 i1 h)  : AMet V i_Dot_fault 1 [.ref 8] h n z (some (.int (lf))) h n z := by
  obtain ⟨g8, g9, g10, ⟨r1, r2, r3, r4, g11⟩, g12, g13, g14, g15, g16, g17, g18⟩ := A
  refine AMet.intro (Nat.le_refl _) (Nat.le_refl _) (by decide) (Nat.le_of_ble_eq_true rfl) rfl ?_
  refine a_aload_n d_Dot_fault_0 rfl ?_
  refine a_getf d_Dot_fault_1 f_Dot_91 g8 rfl ?_
  exact a_iret d_Dot_fault_4 rfl rfl rfl rfl
set_option maxRecDepth 20000 in
set_option maxHeartbeats 4000000 in
theorem s_Dot_dotN (A : CA L f lf (W, H, D, j, s) k ad aj ash i0 i1 h) (x y : Int32) : AMet V i_Dot_dot 2 [.ref 8, .int x, .int y] h n z (some (.int (if fHas (nI W) (nI H) x y = 0 then -1000001 else if fDark D x y = 0 then 0 else 1))) h n z := by
  obtain ⟨g8, g9, g10, ⟨r1, r2, r3, r4, g11⟩, g12, g13, g14, g15, g16, g17, g18⟩ := A
  refine AMet.intro (Nat.le_refl _) (Nat.le_refl _) (by decide) (Nat.le_of_ble_eq_true rfl) rfl ?_
  refine a_aload_n d_Dot_dot_0 rfl ?_
  refine a_getf d_Dot_dot_1 f_Dot_26 g8 rfl ?_
  refine a_iload_n d_Dot_dot_4 rfl ?_
  refine a_iload_n d_Dot_dot_5 rfl ?_
  refine a_cv0 (a := 12) d_Dot_dot_6 m_Pic_has t_Pic_has l_Dot_129 g12 rfl rfl (s_Pic_has g12 x y) rfl rfl ⟨Nat.le_of_ble_eq_true rfl, Nat.le_of_ble_eq_true rfl⟩ (Nat.le_of_ble_eq_true rfl)  ?_
  refine a_if_ne 15 d_Dot_dot_9 (by decide) (fun c9 => ?_) (fun c9 => ?_)
  · skip
    refine a_aload_n d_Dot_dot_15 rfl ?_
    refine a_getf d_Dot_dot_16 f_Dot_26 g8 rfl ?_
    refine a_iload_n d_Dot_dot_19 rfl ?_
    refine a_iload_n d_Dot_dot_20 rfl ?_
    refine a_cv0 (a := 12) d_Dot_dot_21 m_Pic_isDark t_Pic_isDark l_Dot_143 g12 rfl rfl (s_Pic_isDark g12 x y) rfl rfl ⟨Nat.le_of_ble_eq_true rfl, Nat.le_of_ble_eq_true rfl⟩ (Nat.le_of_ble_eq_true rfl)  ?_
    refine a_if_eq 31 d_Dot_dot_24 (by decide) (fun c24 => ?_) (fun c24 => ?_)
    · skip
      refine a_iconst (v := 0) d_Dot_dot_31 (by decide) ?_
      exact a_iret d_Dot_dot_32 rfl (by rw [if_neg c9]; first | rw [if_pos c24] | rw [if_neg c24]) rfl rfl
    · skip
      refine a_iconst (v := 1) d_Dot_dot_27 (by decide) ?_
      refine a_goto 32 d_Dot_dot_28 (by decide) ?_
      exact a_iret d_Dot_dot_32 rfl (by rw [if_neg c9]; first | rw [if_pos c24] | rw [if_neg c24]) rfl rfl
  · skip
    refine a_ldc d_Dot_dot_12 k_Dot_77 ?_
    exact a_iret d_Dot_dot_14 rfl (by rw [if_pos c9]) rfl rfl
def q_count (W H : Nat) (D : Int64) (j s : Int32) (k L : Nat) (what : Int32) : Int32 := match swI what 5 with
  | some 0 => nI W * nI H
  | some 1 => fBC D
  | some 2 => j
  | some 3 => s
  | some 4 => nI k
  | some 5 => nI L
  | _ => -1000001
set_option maxRecDepth 20000 in
set_option maxHeartbeats 4000000 in
theorem s_Dot_count (A : CA L f lf (W, H, D, j, s) k ad aj ash i0 i1 h) (what : Int32) : AMet V i_Dot_count 2 [.ref 8, .int what] h n z (some (.int (q_count W H D j s k L what))) h n z := by
  obtain ⟨g8, g9, g10, ⟨r1, r2, r3, r4, g11⟩, g12, g13, g14, g15, g16, g17, g18⟩ := A
  refine AMet.intro (Nat.le_refl _) (Nat.le_refl _) (by decide) (Nat.le_of_ble_eq_true rfl) rfl ?_
  refine a_iload_n d_Dot_count_0 rfl ?_
  rcases sw_cases what 5 (by decide) with c1 | c1
  · skip
    refine a_tabOut 96 d_Dot_count_1 c1 (by decide) ?_
    refine a_ldc d_Dot_count_96 k_Dot_77 ?_
    exact a_iret d_Dot_count_98 rfl (by unfold q_count; rw [swI_out c1]; try rfl) rfl rfl
  · skip
    rcases c1 with ⟨j, hj, c1⟩
    rcases (show j = 0 ∨ j = 1 ∨ j = 2 ∨ j = 3 ∨ j = 4 ∨ j = 5 by omega) with rfl | rfl | rfl | rfl | rfl | rfl
    · skip
      refine a_tabIn (off := 39) 40 d_Dot_count_1 (by rw [c1]; decide) (by rw [c1]; decide) (by rw [c1]; rfl) (by decide) ?_
      refine a_aload_n d_Dot_count_40 rfl ?_
      refine a_getf d_Dot_count_41 f_Dot_26 g8 rfl ?_
      refine a_getf d_Dot_count_44 f_Dot_101 g12 rfl ?_
      refine a_aload_n d_Dot_count_47 rfl ?_
      refine a_getf d_Dot_count_48 f_Dot_26 g8 rfl ?_
      refine a_getf d_Dot_count_51 f_Dot_105 g12 rfl ?_
      refine a_imul d_Dot_count_54 ?_
      exact a_iret d_Dot_count_55 rfl (by unfold q_count; rw [c1, swI_in 0 5 (by decide) (by decide)]; try rfl) rfl rfl
    · skip
      refine a_tabIn (off := 55) 56 d_Dot_count_1 (by rw [c1]; decide) (by rw [c1]; decide) (by rw [c1]; rfl) (by decide) ?_
      refine a_aload_n d_Dot_count_56 rfl ?_
      refine a_getf d_Dot_count_57 f_Dot_26 g8 rfl ?_
      refine a_cv0 (a := 12) d_Dot_count_60 m_Pic_darkDots t_Pic_darkDots l_Dot_120 g12 rfl rfl (s_Pic_darkDots g12) rfl rfl ⟨Nat.le_of_ble_eq_true rfl, Nat.le_of_ble_eq_true rfl⟩ (Nat.le_of_ble_eq_true rfl)  ?_
      exact a_iret d_Dot_count_63 rfl (by unfold q_count; rw [c1, swI_in 1 5 (by decide) (by decide)]; try rfl) rfl rfl
    · skip
      refine a_tabIn (off := 63) 64 d_Dot_count_1 (by rw [c1]; decide) (by rw [c1]; decide) (by rw [c1]; rfl) (by decide) ?_
      refine a_aload_n d_Dot_count_64 rfl ?_
      refine a_getf d_Dot_count_65 f_Dot_26 g8 rfl ?_
      refine a_getf d_Dot_count_68 f_Dot_111 g12 rfl ?_
      exact a_iret d_Dot_count_71 rfl (by unfold q_count; rw [c1, swI_in 2 5 (by decide) (by decide)]; try rfl) rfl rfl
    · skip
      refine a_tabIn (off := 71) 72 d_Dot_count_1 (by rw [c1]; decide) (by rw [c1]; decide) (by rw [c1]; rfl) (by decide) ?_
      refine a_aload_n d_Dot_count_72 rfl ?_
      refine a_getf d_Dot_count_73 f_Dot_26 g8 rfl ?_
      refine a_getf d_Dot_count_76 f_Dot_114 g12 rfl ?_
      exact a_iret d_Dot_count_79 rfl (by unfold q_count; rw [c1, swI_in 3 5 (by decide) (by decide)]; try rfl) rfl rfl
    · skip
      refine a_tabIn (off := 79) 80 d_Dot_count_1 (by rw [c1]; decide) (by rw [c1]; decide) (by rw [c1]; rfl) (by decide) ?_
      refine a_aload_n d_Dot_count_80 rfl ?_
      refine a_getf d_Dot_count_81 f_Dot_39 g8 rfl ?_
      refine a_getf d_Dot_count_84 f_Dot_117 g15 rfl ?_
      exact a_iret d_Dot_count_87 rfl (by unfold q_count; rw [c1, swI_in 4 5 (by decide) (by decide)]; try rfl) rfl rfl
    · skip
      refine a_tabIn (off := 87) 88 d_Dot_count_1 (by rw [c1]; decide) (by rw [c1]; decide) (by rw [c1]; rfl) (by decide) ?_
      refine a_aload_n d_Dot_count_88 rfl ?_
      refine a_getf d_Dot_count_89 f_Dot_10 g8 rfl ?_
      refine a_getf d_Dot_count_92 f_Dot_82 g9 rfl ?_
      exact a_iret d_Dot_count_95 rfl (by unfold q_count; rw [c1, swI_in 5 5 (by decide) (by decide)]; try rfl) rfl rfl
set_option maxRecDepth 20000 in
set_option maxHeartbeats 4000000 in
theorem s_Dot_undo0 (A : CA L f lf (W, H, D, j, s) k ad aj ash i0 i1 h) (hk : k = 0) : AMet V i_Dot_undo 1 [.ref 8] h n z (some (.int (-1000002))) h n z := by
  obtain ⟨g8, g9, g10, ⟨r1, r2, r3, r4, g11⟩, g12, g13, g14, g15, g16, g17, g18⟩ := A
  subst hk
  refine AMet.intro (Nat.le_refl _) (Nat.le_refl _) (by decide) (Nat.le_of_ble_eq_true rfl) rfl ?_
  refine a_aload_n d_Dot_undo_0 rfl ?_
  refine a_getf d_Dot_undo_1 f_Dot_39 g8 rfl ?_
  refine a_aload_n d_Dot_undo_4 rfl ?_
  refine a_getf d_Dot_undo_5 f_Dot_26 g8 rfl ?_
  refine a_cv0 (a := 15) d_Dot_undo_8 m_Acts_takeBack t_Acts_takeBack l_Dot_124 g15 rfl rfl (s_Acts_takeBack0 g15) rfl rfl ⟨Nat.le_of_ble_eq_true rfl, Nat.le_of_ble_eq_true rfl⟩ (Nat.le_of_ble_eq_true rfl)  ?_
  refine a_if_eq 24 d_Dot_undo_11 (by decide) (fun c11 => ?_) (fun c11 => absurd rfl c11)
  refine a_ldc d_Dot_undo_24 k_Dot_128 ?_
  exact a_iret d_Dot_undo_26 rfl rfl rfl rfl
set_option maxRecDepth 20000 in
set_option maxHeartbeats 4000000 in
theorem s_Dot_undo (A : CA L f lf (W, H, D, j, s) k ad aj ash i0 i1 h) {m : Nat} (hk : k = m + 1) (hm : m < 8) : ∃ h1, AMet V i_Dot_undo 1 [.ref 8] h n z (some (.int (nI m))) h1 n z ∧ CA L f lf (W, H, ad m, aj m, ash m) m ad aj ash i0 i1 h1 ∧ (∀ i, i < 8 ∨ 19 ≤ i → h1 i = h i) := by
  obtain ⟨g8, g9, g10, ⟨r1, r2, r3, r4, g11⟩, g12, g13, g14, g15, g16, g17, g18⟩ := A
  subst hk
  refine ⟨hu (hu h 15 (oAct (nI m))) 12 (oPic (nI W) (nI H) (ad m) (aj m) (ash m)), ?_, ⟨g8, g9, g10, ⟨_, _, _, _, g11⟩, hu_s _ _ _, g13, g14, rfl, g16, g17, g18⟩, fun i hi => by rw [hu_n (by omega), hu_n (by omega)]⟩
  refine AMet.intro (Nat.le_refl _) (Nat.le_refl _) (by decide) (Nat.le_of_ble_eq_true rfl) rfl ?_
  refine a_aload_n d_Dot_undo_0 rfl ?_
  refine a_getf d_Dot_undo_1 f_Dot_39 g8 rfl ?_
  refine a_aload_n d_Dot_undo_4 rfl ?_
  refine a_getf d_Dot_undo_5 f_Dot_26 g8 rfl ?_
  refine a_cv0 (a := 15) d_Dot_undo_8 m_Acts_takeBack t_Acts_takeBack l_Dot_124 g15 rfl rfl (s_Acts_takeBack g16 g17 g18 hm g15 g12) rfl rfl ⟨Nat.le_of_ble_eq_true rfl, Nat.le_of_ble_eq_true rfl⟩ (Nat.le_of_ble_eq_true rfl)  ?_
  refine a_if_eq 24 d_Dot_undo_11 (by decide) (fun c11 => absurd c11 (by decide)) (fun c11 => ?_)
  refine a_aload_n d_Dot_undo_14 rfl ?_
  refine a_getf d_Dot_undo_15 f_Dot_39 g8 rfl ?_
  refine a_getf d_Dot_undo_18 f_Dot_117 (show _ = oAct (nI m) from rfl) rfl ?_
  refine a_goto 26 d_Dot_undo_21 (by decide) ?_
  exact a_iret d_Dot_undo_26 rfl rfl rfl rfl
set_option maxRecDepth 20000 in
set_option maxHeartbeats 4000000 in
theorem s_Dot_flipB (A : CA L f lf (W, H, D, j, s) k ad aj ash i0 i1 h) {x y : Int32} (hx : fHas (nI W) (nI H) x y = 0) : AMet V i_Dot_flip 2 [.ref 8, .int x, .int y] h n z (some (.int (-1000001))) h n z := by
  obtain ⟨g8, g9, g10, ⟨r1, r2, r3, r4, g11⟩, g12, g13, g14, g15, g16, g17, g18⟩ := A
  refine AMet.intro (Nat.le_refl _) (Nat.le_refl _) (by decide) (Nat.le_of_ble_eq_true rfl) rfl ?_
  refine a_aload_n d_Dot_flip_0 rfl ?_
  refine a_getf d_Dot_flip_1 f_Dot_26 g8 rfl ?_
  refine a_iload_n d_Dot_flip_4 rfl ?_
  refine a_iload_n d_Dot_flip_5 rfl ?_
  refine a_cv0 (a := 12) d_Dot_flip_6 m_Pic_has t_Pic_has l_Dot_129 g12 rfl rfl (s_Pic_has g12 x y) rfl rfl ⟨Nat.le_of_ble_eq_true rfl, Nat.le_of_ble_eq_true rfl⟩ (Nat.le_of_ble_eq_true rfl)  ?_
  refine a_if_ne 15 d_Dot_flip_9 (by decide) (fun c9 => absurd c9 (fun q => q hx)) (fun c9 => ?_)
  refine a_ldc d_Dot_flip_12 k_Dot_77 ?_
  exact a_iret d_Dot_flip_14 rfl rfl rfl rfl
set_option maxRecDepth 20000 in
set_option maxHeartbeats 4000000 in
theorem s_Dot_flip (A : CA L f lf (W, H, D, j, s) k ad aj ash i0 i1 h) (hk : k ≤ 8) {x y : Int32} (hx : ¬ fHas (nI W) (nI H) x y = 0) : ∃ h1, AMet V i_Dot_flip 2 [.ref 8, .int x, .int y] h n z (some (.int (if fDark (D ^^^ gBit x y) x y = 0 then 0 else 1))) h1 n z ∧ CA L f lf (W, H, D ^^^ gBit x y, j, s) (rmK k) (rmL ad k D) (rmI aj k j) (rmI ash k s) i0 i1 h1 ∧ (∀ i, i < 8 ∨ 19 ≤ i → h1 i = h i) := by
  obtain ⟨h2, M, A2, far⟩ := s_rem (V := V) (n := n) (z := z) A hk
  obtain ⟨g8, g9, g10, ⟨r1, r2, r3, r4, g11⟩, g12, g13, g14, g15, g16, g17, g18⟩ := A
  obtain ⟨k8, k9, k10, ⟨r1, r2, r3, r4, k11⟩, k12, k13, k14, k15, k16, k17, k18⟩ := A2
  refine ⟨hu h2 12 (oPic (nI W) (nI H) (D ^^^ gBit x y) j s), ?_, ⟨k8, k9, k10, ⟨_, _, _, _, k11⟩, hu_s _ _ _, k13, k14, k15, k16, k17, k18⟩, fun i hi => by rw [hu_n (by omega), far i (by omega)]⟩
  refine AMet.intro (Nat.le_refl _) (Nat.le_refl _) (by decide) (Nat.le_of_ble_eq_true rfl) rfl ?_
  refine a_aload_n d_Dot_flip_0 rfl ?_
  refine a_getf d_Dot_flip_1 f_Dot_26 g8 rfl ?_
  refine a_iload_n d_Dot_flip_4 rfl ?_
  refine a_iload_n d_Dot_flip_5 rfl ?_
  refine a_cv0 (a := 12) d_Dot_flip_6 m_Pic_has t_Pic_has l_Dot_129 g12 rfl rfl (s_Pic_has g12 x y) rfl rfl ⟨Nat.le_of_ble_eq_true rfl, Nat.le_of_ble_eq_true rfl⟩ (Nat.le_of_ble_eq_true rfl)  ?_
  refine a_if_ne 15 d_Dot_flip_9 (by decide) (fun c9 => ?_) (fun c9 => absurd c9 hx)
  refine a_aload_n d_Dot_flip_15 rfl ?_
  refine a_getf d_Dot_flip_16 f_Dot_39 g8 rfl ?_
  refine a_aload_n d_Dot_flip_19 rfl ?_
  refine a_getf d_Dot_flip_20 f_Dot_26 g8 rfl ?_
  refine a_cv0 (a := 15) d_Dot_flip_23 m_Acts_remember t_Acts_remember l_Dot_133 g15 rfl rfl M rfl rfl ⟨Nat.le_of_ble_eq_true rfl, Nat.le_of_ble_eq_true rfl⟩ (Nat.le_of_ble_eq_true rfl)  ?_
  refine a_aload_n d_Dot_flip_26 rfl ?_
  refine a_getf d_Dot_flip_27 f_Dot_26 k8 rfl ?_
  refine a_dup d_Dot_flip_30 rfl ?_
  refine a_getf d_Dot_flip_31 f_Dot_110 k12 rfl ?_
  refine a_iload_n d_Dot_flip_34 rfl ?_
  refine a_iload_n d_Dot_flip_35 rfl ?_
  refine a_cs0 d_Dot_flip_36 m_Grid_bit t_Grid_bit l_Dot_137 (s_Grid_bit x y) rfl rfl ⟨Nat.le_of_ble_eq_true rfl, Nat.le_of_ble_eq_true rfl⟩ (Nat.le_of_ble_eq_true rfl)  ?_
  refine a_lxor d_Dot_flip_39 ?_
  refine a_putf d_Dot_flip_40 f_Dot_110 rfl k12 (Nat.le_of_ble_eq_true rfl) rfl rfl ?_
  refine a_aload_n d_Dot_flip_43 rfl ?_
  refine a_getf d_Dot_flip_44 f_Dot_26 k8 rfl ?_
  refine a_iload_n d_Dot_flip_47 rfl ?_
  refine a_iload_n d_Dot_flip_48 rfl ?_
  refine a_cv0 (a := 12) d_Dot_flip_49 m_Pic_isDark t_Pic_isDark l_Dot_143 (hu_s _ _ _) rfl rfl (s_Pic_isDark (hu_s _ _ _) x y) rfl rfl ⟨Nat.le_of_ble_eq_true rfl, Nat.le_of_ble_eq_true rfl⟩ (Nat.le_of_ble_eq_true rfl)  ?_
  refine a_if_eq 59 d_Dot_flip_52 (by decide) (fun c52 => ?_) (fun c52 => ?_)
  · skip
    refine a_iconst (v := 0) d_Dot_flip_59 (by decide) ?_
    exact a_iret d_Dot_flip_60 rfl (by first | rw [if_pos c52] | rw [if_neg c52]) rfl rfl
  · skip
    refine a_iconst (v := 1) d_Dot_flip_55 (by decide) ?_
    refine a_goto 60 d_Dot_flip_56 (by decide) ?_
    exact a_iret d_Dot_flip_60 rfl (by first | rw [if_pos c52] | rw [if_neg c52]) rfl rfl
set_option maxRecDepth 20000 in
set_option maxHeartbeats 4000000 in
theorem s_Dot_frameB (A : CA L f lf (W, H, D, j, s) k ad aj ash i0 i1 h) {x y x2 y2 v : Int32} (hp : ¬ (¬ fHas (nI W) (nI H) x y = 0 ∧ ¬ fHas (nI W) (nI H) x2 y2 = 0 ∧ ¬ x2 < x ∧ ¬ y2 < y ∧ ¬ v < 0 ∧ v ≤ 2)) : AMet V i_Dot_frame 2 [.ref 8, .int x, .int y, .int x2, .int y2, .int v] h n z (some (.int (-1000001))) h n z := by
  obtain ⟨g8, g9, g10, ⟨r1, r2, r3, r4, g11⟩, g12, g13, g14, g15, g16, g17, g18⟩ := A
  refine AMet.intro (Nat.le_refl _) (Nat.le_refl _) (by decide) (Nat.le_of_ble_eq_true rfl) rfl ?_
  refine a_aload_n d_Dot_frame_0 rfl ?_
  refine a_getf d_Dot_frame_1 f_Dot_26 g8 rfl ?_
  refine a_iload_n d_Dot_frame_4 rfl ?_
  refine a_iload_n d_Dot_frame_5 rfl ?_
  refine a_cv0 (a := 12) d_Dot_frame_6 m_Pic_has t_Pic_has l_Dot_129 g12 rfl rfl (s_Pic_has g12 x y) rfl rfl ⟨Nat.le_of_ble_eq_true rfl, Nat.le_of_ble_eq_true rfl⟩ (Nat.le_of_ble_eq_true rfl)  ?_
  refine a_if_eq 47 d_Dot_frame_9 (by decide) (fun c9 => ?_) (fun c9 => ?_)
  · skip
    refine a_ldc d_Dot_frame_47 k_Dot_77 ?_
    exact a_iret d_Dot_frame_49 rfl rfl rfl rfl
  · skip
    refine a_aload_n d_Dot_frame_12 rfl ?_
    refine a_getf d_Dot_frame_13 f_Dot_26 g8 rfl ?_
    refine a_iload_n d_Dot_frame_16 rfl ?_
    refine a_iload d_Dot_frame_17 rfl ?_
    refine a_cv0 (a := 12) d_Dot_frame_19 m_Pic_has t_Pic_has l_Dot_129 g12 rfl rfl (s_Pic_has g12 x2 y2) rfl rfl ⟨Nat.le_of_ble_eq_true rfl, Nat.le_of_ble_eq_true rfl⟩ (Nat.le_of_ble_eq_true rfl)  ?_
    refine a_if_eq 47 d_Dot_frame_22 (by decide) (fun c22 => ?_) (fun c22 => ?_)
    · skip
      refine a_ldc d_Dot_frame_47 k_Dot_77 ?_
      exact a_iret d_Dot_frame_49 rfl rfl rfl rfl
    · skip
      refine a_iload_n d_Dot_frame_25 rfl ?_
      refine a_iload_n d_Dot_frame_26 rfl ?_
      refine a_icmp_lt 47 d_Dot_frame_27 (by decide) (fun c27 => ?_) (fun c27 => ?_)
      · skip
        refine a_ldc d_Dot_frame_47 k_Dot_77 ?_
        exact a_iret d_Dot_frame_49 rfl rfl rfl rfl
      · skip
        refine a_iload d_Dot_frame_30 rfl ?_
        refine a_iload_n d_Dot_frame_32 rfl ?_
        refine a_icmp_lt 47 d_Dot_frame_33 (by decide) (fun c33 => ?_) (fun c33 => ?_)
        · skip
          refine a_ldc d_Dot_frame_47 k_Dot_77 ?_
          exact a_iret d_Dot_frame_49 rfl rfl rfl rfl
        · skip
          refine a_iload d_Dot_frame_36 rfl ?_
          refine a_if_lt 47 d_Dot_frame_38 (by decide) (fun c38 => ?_) (fun c38 => ?_)
          · skip
            refine a_ldc d_Dot_frame_47 k_Dot_77 ?_
            exact a_iret d_Dot_frame_49 rfl rfl rfl rfl
          · skip
            refine a_iload d_Dot_frame_41 rfl ?_
            refine a_iconst (v := 2) d_Dot_frame_43 (by decide) ?_
            refine a_icmp_le 50 d_Dot_frame_44 (by decide) (fun c44 => ?_) (fun c44 => ?_)
            · skip
              exact absurd ⟨c9, c22, c27, c33, c38, c44⟩ hp
            · skip
              refine a_ldc d_Dot_frame_47 k_Dot_77 ?_
              exact a_iret d_Dot_frame_49 rfl rfl rfl rfl
set_option maxRecDepth 20000 in
set_option maxHeartbeats 4000000 in
theorem s_Dot_frame (A : CA L f lf (W, H, D, j, s) k ad aj ash i0 i1 h) (hk : k ≤ 8) {x x2 v : Int32} {Y Y2 : Nat} (hY : Y ≤ Y2) (hY2 : Y2 < 8) (hp : ¬ fHas (nI W) (nI H) x (nI Y) = 0 ∧ ¬ fHas (nI W) (nI H) x2 (nI Y2) = 0 ∧ ¬ x2 < x ∧ ¬ nI Y2 < nI Y ∧ ¬ v < 0 ∧ v ≤ 2) : ∃ h1, AMet V i_Dot_frame 2 [.ref 8, .int x, .int (nI Y), .int x2, .int (nI Y2), .int v] h n z (some (.int (fBC (fLay D (bkL x x2 Y (Y2 + 1 - Y)) v)))) h1 n z ∧ CA L f lf (W, H, (fLay D (bkL x x2 Y (Y2 + 1 - Y)) v), j, s) (rmK k) (rmL ad k D) (rmI aj k j) (rmI ash k s) i0 i1 h1 ∧ (∀ i, i < 8 ∨ 19 ≤ i → h1 i = h i) := by
  obtain ⟨h2, M, A2, far⟩ := s_rem (V := V) (n := n) (z := z) A hk
  obtain ⟨g8, g9, g10, ⟨r1, r2, r3, r4, g11⟩, g12, g13, g14, g15, g16, g17, g18⟩ := A
  obtain ⟨k8, k9, k10, ⟨r1, r2, r3, r4, k11⟩, k12, k13, k14, k15, k16, k17, k18⟩ := A2
  refine ⟨hu h2 12 (oPic (nI W) (nI H) (fLay D (bkL x x2 Y (Y2 + 1 - Y)) v) j s), ?_, ⟨k8, k9, k10, ⟨_, _, _, _, k11⟩, hu_s _ _ _, k13, k14, k15, k16, k17, k18⟩, fun i hi => by rw [hu_n (by omega), far i (by omega)]⟩
  refine AMet.intro (Nat.le_refl _) (Nat.le_refl _) (by decide) (Nat.le_of_ble_eq_true rfl) rfl ?_
  refine a_aload_n d_Dot_frame_0 rfl ?_
  refine a_getf d_Dot_frame_1 f_Dot_26 g8 rfl ?_
  refine a_iload_n d_Dot_frame_4 rfl ?_
  refine a_iload_n d_Dot_frame_5 rfl ?_
  refine a_cv0 (a := 12) d_Dot_frame_6 m_Pic_has t_Pic_has l_Dot_129 g12 rfl rfl (s_Pic_has g12 _ _) rfl rfl ⟨Nat.le_of_ble_eq_true rfl, Nat.le_of_ble_eq_true rfl⟩ (Nat.le_of_ble_eq_true rfl)  ?_
  refine a_if_eq 47 d_Dot_frame_9 (by decide) (fun c9 => absurd c9 hp.1) (fun c9 => ?_)
  refine a_aload_n d_Dot_frame_12 rfl ?_
  refine a_getf d_Dot_frame_13 f_Dot_26 g8 rfl ?_
  refine a_iload_n d_Dot_frame_16 rfl ?_
  refine a_iload d_Dot_frame_17 rfl ?_
  refine a_cv0 (a := 12) d_Dot_frame_19 m_Pic_has t_Pic_has l_Dot_129 g12 rfl rfl (s_Pic_has g12 _ _) rfl rfl ⟨Nat.le_of_ble_eq_true rfl, Nat.le_of_ble_eq_true rfl⟩ (Nat.le_of_ble_eq_true rfl)  ?_
  refine a_if_eq 47 d_Dot_frame_22 (by decide) (fun c22 => absurd c22 hp.2.1) (fun c22 => ?_)
  refine a_iload_n d_Dot_frame_25 rfl ?_
  refine a_iload_n d_Dot_frame_26 rfl ?_
  refine a_icmp_lt 47 d_Dot_frame_27 (by decide) (fun c27 => absurd c27 hp.2.2.1) (fun c27 => ?_)
  refine a_iload d_Dot_frame_30 rfl ?_
  refine a_iload_n d_Dot_frame_32 rfl ?_
  refine a_icmp_lt 47 d_Dot_frame_33 (by decide) (fun c33 => absurd c33 hp.2.2.2.1) (fun c33 => ?_)
  refine a_iload d_Dot_frame_36 rfl ?_
  refine a_if_lt 47 d_Dot_frame_38 (by decide) (fun c38 => absurd c38 hp.2.2.2.2.1) (fun c38 => ?_)
  refine a_iload d_Dot_frame_41 rfl ?_
  refine a_iconst (v := 2) d_Dot_frame_43 (by decide) ?_
  refine a_icmp_le 50 d_Dot_frame_44 (by decide) (fun c44 => ?_) (fun c44 => absurd hp.2.2.2.2.2 c44)
  refine a_aload_n d_Dot_frame_50 rfl ?_
  refine a_getf d_Dot_frame_51 f_Dot_39 g8 rfl ?_
  refine a_aload_n d_Dot_frame_54 rfl ?_
  refine a_getf d_Dot_frame_55 f_Dot_26 g8 rfl ?_
  refine a_cv0 (a := 15) d_Dot_frame_58 m_Acts_remember t_Acts_remember l_Dot_133 g15 rfl rfl M rfl rfl ⟨Nat.le_of_ble_eq_true rfl, Nat.le_of_ble_eq_true rfl⟩ (Nat.le_of_ble_eq_true rfl)  ?_
  refine a_aload_n d_Dot_frame_61 rfl ?_
  refine a_getf d_Dot_frame_62 f_Dot_26 k8 rfl ?_
  refine a_iload_n d_Dot_frame_65 rfl ?_
  refine a_iload_n d_Dot_frame_66 rfl ?_
  refine a_iload_n d_Dot_frame_67 rfl ?_
  refine a_iload d_Dot_frame_68 rfl ?_
  refine a_cs0 d_Dot_frame_70 m_Grid_block t_Grid_block l_Dot_146 (s_Grid_block x x2 hY hY2) rfl rfl ⟨Nat.le_of_ble_eq_true rfl, Nat.le_of_ble_eq_true rfl⟩ (Nat.le_of_ble_eq_true rfl)  ?_
  refine a_iload d_Dot_frame_73 rfl ?_
  refine a_cv0 (a := 12) d_Dot_frame_75 m_Pic_lay t_Pic_lay l_Dot_150 k12 rfl rfl (s_Pic_lay k12 _ v) rfl rfl ⟨Nat.le_of_ble_eq_true rfl, Nat.le_of_ble_eq_true rfl⟩ (Nat.le_of_ble_eq_true rfl)  ?_
  refine a_aload_n d_Dot_frame_78 rfl ?_
  refine a_getf d_Dot_frame_79 f_Dot_26 k8 rfl ?_
  refine a_cv0 (a := 12) d_Dot_frame_82 m_Pic_darkDots t_Pic_darkDots l_Dot_120 (hu_s _ _ _) rfl rfl (s_Pic_darkDots (hu_s _ _ _)) rfl rfl ⟨Nat.le_of_ble_eq_true rfl, Nat.le_of_ble_eq_true rfl⟩ (Nat.le_of_ble_eq_true rfl)  ?_
  exact a_iret d_Dot_frame_85 rfl rfl rfl rfl
set_option maxRecDepth 20000 in
set_option maxHeartbeats 4000000 in
theorem s_Dot_joinedS (A : CA L f lf (W, H, D, j, s) k ad aj ash i0 i1 h) (hW : W = 0) (v : Int32) : AMet V i_Dot_joined 2 [.ref 8, .int v] h n z (some (.int (-1000002))) h n z := by
  obtain ⟨g8, g9, g10, ⟨r1, r2, r3, r4, g11⟩, g12, g13, g14, g15, g16, g17, g18⟩ := A
  refine AMet.intro (Nat.le_refl _) (Nat.le_refl _) (by decide) (Nat.le_of_ble_eq_true rfl) rfl ?_
  refine a_aload_n d_Dot_joined_0 rfl ?_
  refine a_getf d_Dot_joined_1 f_Dot_26 g8 rfl ?_
  refine a_cv0 (a := 12) d_Dot_joined_4 m_Pic_isThere t_Pic_isThere l_Dot_154 g12 rfl rfl (s_there0 g12 hW) rfl rfl ⟨Nat.le_of_ble_eq_true rfl, Nat.le_of_ble_eq_true rfl⟩ (Nat.le_of_ble_eq_true rfl)  ?_
  refine a_if_ne 13 d_Dot_joined_7 (by decide) (fun c7 => absurd c7 (fun q => q rfl)) (fun c7 => ?_)
  refine a_ldc d_Dot_joined_10 k_Dot_128 ?_
  exact a_iret d_Dot_joined_12 rfl rfl rfl rfl
set_option maxRecDepth 20000 in
set_option maxHeartbeats 4000000 in
theorem s_Dot_joinedB (A : CA L f lf (W, H, D, j, s) k ad aj ash i0 i1 h) (hW : 1 ≤ W) (hW8 : W ≤ 8) {v : Int32} (hp : ¬ (¬ v < 0 ∧ v ≤ 1)) : AMet V i_Dot_joined 2 [.ref 8, .int v] h n z (some (.int (-1000001))) h n z := by
  obtain ⟨g8, g9, g10, ⟨r1, r2, r3, r4, g11⟩, g12, g13, g14, g15, g16, g17, g18⟩ := A
  refine AMet.intro (Nat.le_refl _) (Nat.le_refl _) (by decide) (Nat.le_of_ble_eq_true rfl) rfl ?_
  refine a_aload_n d_Dot_joined_0 rfl ?_
  refine a_getf d_Dot_joined_1 f_Dot_26 g8 rfl ?_
  refine a_cv0 (a := 12) d_Dot_joined_4 m_Pic_isThere t_Pic_isThere l_Dot_154 g12 rfl rfl (s_there1 g12 hW hW8) rfl rfl ⟨Nat.le_of_ble_eq_true rfl, Nat.le_of_ble_eq_true rfl⟩ (Nat.le_of_ble_eq_true rfl)  ?_
  refine a_if_ne 13 d_Dot_joined_7 (by decide) (fun c7 => ?_) (fun c7 => absurd c7 (by decide))
  refine a_iload_n d_Dot_joined_13 rfl ?_
  refine a_if_lt 22 d_Dot_joined_14 (by decide) (fun c14 => ?_) (fun c14 => ?_)
  · skip
    refine a_ldc d_Dot_joined_22 k_Dot_77 ?_
    exact a_iret d_Dot_joined_24 rfl rfl rfl rfl
  · skip
    refine a_iload_n d_Dot_joined_17 rfl ?_
    refine a_iconst (v := 1) d_Dot_joined_18 (by decide) ?_
    refine a_icmp_le 25 d_Dot_joined_19 (by decide) (fun c19 => ?_) (fun c19 => ?_)
    · skip
      exact absurd ⟨c14, c19⟩ hp
    · skip
      refine a_ldc d_Dot_joined_22 k_Dot_77 ?_
      exact a_iret d_Dot_joined_24 rfl rfl rfl rfl
set_option maxRecDepth 20000 in
set_option maxHeartbeats 4000000 in
theorem s_Dot_joined (A : CA L f lf (W, H, D, j, s) k ad aj ash i0 i1 h) (hk : k ≤ 8) (hW : 1 ≤ W) (hW8 : W ≤ 8) {v : Int32} (hp : ¬ v < 0 ∧ v ≤ 1) : ∃ h1, AMet V i_Dot_joined 2 [.ref 8, .int v] h n z (some (.int (j))) h1 n z ∧ CA L f lf (W, H, D, v, s) (rmK k) (rmL ad k D) (rmI aj k j) (rmI ash k s) i0 i1 h1 ∧ (∀ i, i < 8 ∨ 19 ≤ i → h1 i = h i) := by
  obtain ⟨h2, M, A2, far⟩ := s_rem (V := V) (n := n) (z := z) A hk
  obtain ⟨g8, g9, g10, ⟨r1, r2, r3, r4, g11⟩, g12, g13, g14, g15, g16, g17, g18⟩ := A
  obtain ⟨k8, k9, k10, ⟨r1, r2, r3, r4, k11⟩, k12, k13, k14, k15, k16, k17, k18⟩ := A2
  refine ⟨hu h2 12 (oPic (nI W) (nI H) D v s), ?_, ⟨k8, k9, k10, ⟨_, _, _, _, k11⟩, hu_s _ _ _, k13, k14, k15, k16, k17, k18⟩, fun i hi => by rw [hu_n (by omega), far i (by omega)]⟩
  refine AMet.intro (Nat.le_refl _) (Nat.le_refl _) (by decide) (Nat.le_of_ble_eq_true rfl) rfl ?_
  refine a_aload_n d_Dot_joined_0 rfl ?_
  refine a_getf d_Dot_joined_1 f_Dot_26 g8 rfl ?_
  refine a_cv0 (a := 12) d_Dot_joined_4 m_Pic_isThere t_Pic_isThere l_Dot_154 g12 rfl rfl (s_there1 g12 hW hW8) rfl rfl ⟨Nat.le_of_ble_eq_true rfl, Nat.le_of_ble_eq_true rfl⟩ (Nat.le_of_ble_eq_true rfl)  ?_
  refine a_if_ne 13 d_Dot_joined_7 (by decide) (fun c7 => ?_) (fun c7 => absurd c7 (by decide))
  refine a_iload_n d_Dot_joined_13 rfl ?_
  refine a_if_lt 22 d_Dot_joined_14 (by decide) (fun c14 => absurd c14 hp.1) (fun c14 => ?_)
  refine a_iload_n d_Dot_joined_17 rfl ?_
  refine a_iconst (v := 1) d_Dot_joined_18 (by decide) ?_
  refine a_icmp_le 25 d_Dot_joined_19 (by decide) (fun c19 => ?_) (fun c19 => absurd hp.2 c19)
  refine a_aload_n d_Dot_joined_25 rfl ?_
  refine a_getf d_Dot_joined_26 f_Dot_39 g8 rfl ?_
  refine a_aload_n d_Dot_joined_29 rfl ?_
  refine a_getf d_Dot_joined_30 f_Dot_26 g8 rfl ?_
  refine a_cv0 (a := 15) d_Dot_joined_33 m_Acts_remember t_Acts_remember l_Dot_133 g15 rfl rfl M rfl rfl ⟨Nat.le_of_ble_eq_true rfl, Nat.le_of_ble_eq_true rfl⟩ (Nat.le_of_ble_eq_true rfl)  ?_
  refine a_aload_n d_Dot_joined_36 rfl ?_
  refine a_getf d_Dot_joined_37 f_Dot_26 k8 rfl ?_
  refine a_getf d_Dot_joined_40 f_Dot_111 k12 rfl ?_
  refine a_istore_n d_Dot_joined_43 (Nat.le_of_ble_eq_true rfl) (Nat.le_of_ble_eq_true rfl) rfl ?_
  refine a_aload_n d_Dot_joined_44 rfl ?_
  refine a_getf d_Dot_joined_45 f_Dot_26 k8 rfl ?_
  refine a_iload_n d_Dot_joined_48 rfl ?_
  refine a_putf d_Dot_joined_49 f_Dot_111 rfl k12 (Nat.le_of_ble_eq_true rfl) rfl rfl ?_
  refine a_iload_n d_Dot_joined_52 rfl ?_
  exact a_iret d_Dot_joined_53 rfl rfl rfl rfl
set_option maxRecDepth 20000 in
set_option maxHeartbeats 4000000 in
theorem s_Dot_sharpS (A : CA L f lf (W, H, D, j, s) k ad aj ash i0 i1 h) (hW : W = 0) (v : Int32) : AMet V i_Dot_sharp 2 [.ref 8, .int v] h n z (some (.int (-1000002))) h n z := by
  obtain ⟨g8, g9, g10, ⟨r1, r2, r3, r4, g11⟩, g12, g13, g14, g15, g16, g17, g18⟩ := A
  refine AMet.intro (Nat.le_refl _) (Nat.le_refl _) (by decide) (Nat.le_of_ble_eq_true rfl) rfl ?_
  refine a_aload_n d_Dot_sharp_0 rfl ?_
  refine a_getf d_Dot_sharp_1 f_Dot_26 g8 rfl ?_
  refine a_cv0 (a := 12) d_Dot_sharp_4 m_Pic_isThere t_Pic_isThere l_Dot_154 g12 rfl rfl (s_there0 g12 hW) rfl rfl ⟨Nat.le_of_ble_eq_true rfl, Nat.le_of_ble_eq_true rfl⟩ (Nat.le_of_ble_eq_true rfl)  ?_
  refine a_if_ne 13 d_Dot_sharp_7 (by decide) (fun c7 => absurd c7 (fun q => q rfl)) (fun c7 => ?_)
  refine a_ldc d_Dot_sharp_10 k_Dot_128 ?_
  exact a_iret d_Dot_sharp_12 rfl rfl rfl rfl
set_option maxRecDepth 20000 in
set_option maxHeartbeats 4000000 in
theorem s_Dot_sharpB (A : CA L f lf (W, H, D, j, s) k ad aj ash i0 i1 h) (hW : 1 ≤ W) (hW8 : W ≤ 8) {v : Int32} (hp : ¬ (¬ v < 1 ∧ v ≤ 32)) : AMet V i_Dot_sharp 2 [.ref 8, .int v] h n z (some (.int (-1000001))) h n z := by
  obtain ⟨g8, g9, g10, ⟨r1, r2, r3, r4, g11⟩, g12, g13, g14, g15, g16, g17, g18⟩ := A
  refine AMet.intro (Nat.le_refl _) (Nat.le_refl _) (by decide) (Nat.le_of_ble_eq_true rfl) rfl ?_
  refine a_aload_n d_Dot_sharp_0 rfl ?_
  refine a_getf d_Dot_sharp_1 f_Dot_26 g8 rfl ?_
  refine a_cv0 (a := 12) d_Dot_sharp_4 m_Pic_isThere t_Pic_isThere l_Dot_154 g12 rfl rfl (s_there1 g12 hW hW8) rfl rfl ⟨Nat.le_of_ble_eq_true rfl, Nat.le_of_ble_eq_true rfl⟩ (Nat.le_of_ble_eq_true rfl)  ?_
  refine a_if_ne 13 d_Dot_sharp_7 (by decide) (fun c7 => ?_) (fun c7 => absurd c7 (by decide))
  refine a_iload_n d_Dot_sharp_13 rfl ?_
  refine a_iconst (v := 1) d_Dot_sharp_14 (by decide) ?_
  refine a_icmp_lt 24 d_Dot_sharp_15 (by decide) (fun c15 => ?_) (fun c15 => ?_)
  · skip
    refine a_ldc d_Dot_sharp_24 k_Dot_77 ?_
    exact a_iret d_Dot_sharp_26 rfl rfl rfl rfl
  · skip
    refine a_iload_n d_Dot_sharp_18 rfl ?_
    refine a_bipush (v := 32) d_Dot_sharp_19 (by decide) ?_
    refine a_icmp_le 27 d_Dot_sharp_21 (by decide) (fun c21 => ?_) (fun c21 => ?_)
    · skip
      exact absurd ⟨c15, c21⟩ hp
    · skip
      refine a_ldc d_Dot_sharp_24 k_Dot_77 ?_
      exact a_iret d_Dot_sharp_26 rfl rfl rfl rfl
set_option maxRecDepth 20000 in
set_option maxHeartbeats 4000000 in
theorem s_Dot_sharp (A : CA L f lf (W, H, D, j, s) k ad aj ash i0 i1 h) (hk : k ≤ 8) (hW : 1 ≤ W) (hW8 : W ≤ 8) {v : Int32} (hp : ¬ v < 1 ∧ v ≤ 32) : ∃ h1, AMet V i_Dot_sharp 2 [.ref 8, .int v] h n z (some (.int (s))) h1 n z ∧ CA L f lf (W, H, D, j, v) (rmK k) (rmL ad k D) (rmI aj k j) (rmI ash k s) i0 i1 h1 ∧ (∀ i, i < 8 ∨ 19 ≤ i → h1 i = h i) := by
  obtain ⟨h2, M, A2, far⟩ := s_rem (V := V) (n := n) (z := z) A hk
  obtain ⟨g8, g9, g10, ⟨r1, r2, r3, r4, g11⟩, g12, g13, g14, g15, g16, g17, g18⟩ := A
  obtain ⟨k8, k9, k10, ⟨r1, r2, r3, r4, k11⟩, k12, k13, k14, k15, k16, k17, k18⟩ := A2
  refine ⟨hu h2 12 (oPic (nI W) (nI H) D j v), ?_, ⟨k8, k9, k10, ⟨_, _, _, _, k11⟩, hu_s _ _ _, k13, k14, k15, k16, k17, k18⟩, fun i hi => by rw [hu_n (by omega), far i (by omega)]⟩
  refine AMet.intro (Nat.le_refl _) (Nat.le_refl _) (by decide) (Nat.le_of_ble_eq_true rfl) rfl ?_
  refine a_aload_n d_Dot_sharp_0 rfl ?_
  refine a_getf d_Dot_sharp_1 f_Dot_26 g8 rfl ?_
  refine a_cv0 (a := 12) d_Dot_sharp_4 m_Pic_isThere t_Pic_isThere l_Dot_154 g12 rfl rfl (s_there1 g12 hW hW8) rfl rfl ⟨Nat.le_of_ble_eq_true rfl, Nat.le_of_ble_eq_true rfl⟩ (Nat.le_of_ble_eq_true rfl)  ?_
  refine a_if_ne 13 d_Dot_sharp_7 (by decide) (fun c7 => ?_) (fun c7 => absurd c7 (by decide))
  refine a_iload_n d_Dot_sharp_13 rfl ?_
  refine a_iconst (v := 1) d_Dot_sharp_14 (by decide) ?_
  refine a_icmp_lt 24 d_Dot_sharp_15 (by decide) (fun c15 => absurd c15 hp.1) (fun c15 => ?_)
  refine a_iload_n d_Dot_sharp_18 rfl ?_
  refine a_bipush (v := 32) d_Dot_sharp_19 (by decide) ?_
  refine a_icmp_le 27 d_Dot_sharp_21 (by decide) (fun c21 => ?_) (fun c21 => absurd hp.2 c21)
  refine a_aload_n d_Dot_sharp_27 rfl ?_
  refine a_getf d_Dot_sharp_28 f_Dot_39 g8 rfl ?_
  refine a_aload_n d_Dot_sharp_31 rfl ?_
  refine a_getf d_Dot_sharp_32 f_Dot_26 g8 rfl ?_
  refine a_cv0 (a := 15) d_Dot_sharp_35 m_Acts_remember t_Acts_remember l_Dot_133 g15 rfl rfl M rfl rfl ⟨Nat.le_of_ble_eq_true rfl, Nat.le_of_ble_eq_true rfl⟩ (Nat.le_of_ble_eq_true rfl)  ?_
  refine a_aload_n d_Dot_sharp_38 rfl ?_
  refine a_getf d_Dot_sharp_39 f_Dot_26 k8 rfl ?_
  refine a_getf d_Dot_sharp_42 f_Dot_114 k12 rfl ?_
  refine a_istore_n d_Dot_sharp_45 (Nat.le_of_ble_eq_true rfl) (Nat.le_of_ble_eq_true rfl) rfl ?_
  refine a_aload_n d_Dot_sharp_46 rfl ?_
  refine a_getf d_Dot_sharp_47 f_Dot_26 k8 rfl ?_
  refine a_iload_n d_Dot_sharp_50 rfl ?_
  refine a_putf d_Dot_sharp_51 f_Dot_114 rfl k12 (Nat.le_of_ble_eq_true rfl) rfl rfl ?_
  refine a_iload_n d_Dot_sharp_54 rfl ?_
  exact a_iret d_Dot_sharp_55 rfl rfl rfl rfl
set_option maxRecDepth 20000 in
set_option maxHeartbeats 4000000 in
theorem s_Dot_pictureF (A : CA L f lf (W, H, D, j, s) k ad aj ash i0 i1 h) (hL : L ≤ 90) (hN : rdN f L ≠ 0) (hN2 : rdN f L < 1000) : ∃ h1, AMet V i_Dot_picture 3 [.ref 8] h n z (some (.int (-1000100 - nI (rdP f L)))) h1 n z ∧ CA 0 f (nI (rdN f L)) (W, H, D, j, s) k ad aj ash i0 i1 h1 ∧ (∀ i, i < 8 ∨ 19 ≤ i → h1 i = h i) := by
  obtain ⟨g8, g9, g10, ⟨r1, r2, r3, r4, g11⟩, g12, g13, g14, g15, g16, g17, g18⟩ := A
  obtain ⟨w2, h2, d2, M, E⟩ := s_Rdg_read (V := V) (n := n) (z := z) g9 g10 hL g11
  have hne : nI (rdN f L) ≠ 0 := nI_ne0 (by omega) (by omega)
  refine ⟨hu (hu (hu h 11 (oRdg w2 h2 d2 (nI (rdP f L)))) 9 (oTap 0)) 8 (oDot (nI (rdN f L))), ?_, ⟨hu_s _ _ _, rfl, g10, ⟨_, _, _, _, rfl⟩, g12, g13, g14, g15, g16, g17, g18⟩, fun i hi => by rw [hu_n (by omega), hu_n (by omega), hu_n (by omega)]⟩
  refine AMet.intro (Nat.le_refl _) (Nat.le_refl _) (by decide) (Nat.le_of_ble_eq_true rfl) rfl ?_
  refine a_aload_n d_Dot_picture_0 rfl ?_
  refine a_getf d_Dot_picture_1 f_Dot_19 g8 rfl ?_
  refine a_aload_n d_Dot_picture_4 rfl ?_
  refine a_getf d_Dot_picture_5 f_Dot_10 g8 rfl ?_
  refine a_cv0 (a := 11) d_Dot_picture_8 m_Rdg_read t_Rdg_read l_Dot_87 g11 rfl rfl M rfl rfl ⟨Nat.le_of_ble_eq_true rfl, Nat.le_of_ble_eq_true rfl⟩ (Nat.le_of_ble_eq_true rfl)  ?_
  refine a_istore_n d_Dot_picture_11 (Nat.le_of_ble_eq_true rfl) (Nat.le_of_ble_eq_true rfl) rfl ?_
  refine a_aload_n d_Dot_picture_12 rfl ?_
  refine a_getf d_Dot_picture_13 f_Dot_10 (show _ = oDot lf from g8) rfl ?_
  refine a_iconst (v := 0) d_Dot_picture_16 (by decide) ?_
  refine a_putf d_Dot_picture_17 f_Dot_82 rfl (show _ = oTap (nI L) from g9) (Nat.le_of_ble_eq_true rfl) rfl rfl ?_
  refine a_iload_n d_Dot_picture_20 rfl ?_
  refine a_if_eq 40 d_Dot_picture_21 (by decide) (fun c21 => absurd c21 hne) (fun c21 => ?_)
  refine a_aload_n d_Dot_picture_24 rfl ?_
  refine a_iload_n d_Dot_picture_25 rfl ?_
  refine a_putf d_Dot_picture_26 f_Dot_91 rfl (show _ = oDot lf from g8) (Nat.le_of_ble_eq_true rfl) rfl rfl ?_
  refine a_ldc d_Dot_picture_29 k_Dot_94 ?_
  refine a_aload_n d_Dot_picture_31 rfl ?_
  refine a_getf d_Dot_picture_32 f_Dot_19 (show _ = oDot (nI (rdN f L)) from rfl) rfl ?_
  refine a_getf d_Dot_picture_35 f_Dot_95 (show _ = oRdg w2 h2 d2 (nI (rdP f L)) from rfl) rfl ?_
  refine a_isub d_Dot_picture_38 ?_
  exact a_iret d_Dot_picture_39 rfl rfl rfl rfl
theorem rdN_0 {f : Nat → Int32} {L : Nat} (h : rdN f L = 0) : rdP f L = L ∧ 4 ≤ L ∧ L = 4 + (rdQ f L).2.1 * ((rdQ f L).1 + 1) ∧ ∀ a, a < L → rdF f a = 0 := by
  unfold rdN at h
  by_cases c : rdP f L < L
  · rw [if_pos c] at h
    have h3 := fst1_yes (fun a => decide (rdF f a ≠ 0)) L c
    exact absurd h (of_decide_eq_true h3)
  · rw [if_neg c] at h
    have h2 : rdP f L ≤ L := fst1_le _ _
    by_cases c2 : 4 ≤ L ∧ L = 4 + (rdQ f L).2.1 * ((rdQ f L).1 + 1)
    · refine ⟨by omega, c2.1, c2.2, fun a ha => ?_⟩
      have h4 := fst1_no (fun a => decide (rdF f a ≠ 0)) L a (show a < rdP f L by omega)
      have h5 := of_decide_eq_false h4
      exact Decidable.not_not.mp h5
    · rw [if_neg c2] at h; cases h
set_option maxRecDepth 20000 in
set_option maxHeartbeats 4000000 in
theorem s_Dot_picture (A : CA L f lf (W, H, D, j, s) k ad aj ash i0 i1 h) (hL : L ≤ 90) (hN : rdN f L = 0) : ∃ h1, AMet V i_Dot_picture 3 [.ref 8] h n z (some (.int (fBC (rdQ f L).2.2))) h1 n z ∧ CA 0 f lf ((rdQ f L).1, (rdQ f L).2.1, (rdQ f L).2.2, 0, 8) 0 ad aj ash i0 i1 h1 ∧ (∀ i, i < 8 ∨ 19 ≤ i → h1 i = h i) := by
  obtain ⟨g8, g9, g10, ⟨r1, r2, r3, r4, g11⟩, g12, g13, g14, g15, g16, g17, g18⟩ := A
  obtain ⟨w2, h2, d2, M, E⟩ := s_Rdg_read (V := V) (n := n) (z := z) g9 g10 hL g11
  obtain ⟨ew, eh, ed⟩ := E (rdN_0 hN).1
  subst ew; subst eh; subst ed
  rw [hN] at M
  obtain ⟨h9, e9⟩ : ∃ h9 : AH, h9 = hu (hu h 11 (oRdg (nI (rdQ f L).1) (nI (rdQ f L).2.1) (rdQ f L).2.2 (nI (rdP f L)))) 9 (oTap 0) := ⟨_, rfl⟩
  have far9 : ∀ i, i ≠ 9 → i ≠ 11 → h9 i = h i := fun i q1 q2 => by rw [e9, hu_n q1, hu_n q2]
  have k8 : h9 8 = oDot lf := by rw [far9 _ (by decide) (by decide)]; exact g8
  have k9 : h9 9 = oTap 0 := by rw [e9]; exact hu_s _ _ _
  have k10 : h9 10 = aI 90 f := by rw [far9 _ (by decide) (by decide)]; exact g10
  have k11 : h9 11 = oRdg (nI (rdQ f L).1) (nI (rdQ f L).2.1) (rdQ f L).2.2 (nI (rdP f L)) := by rw [e9, hu_n (by decide)]; exact hu_s _ _ _
  have k12 : h9 12 = oPic (nI W) (nI H) D j s := by rw [far9 _ (by decide) (by decide)]; exact g12
  have k13 : h9 13 = oPc i0 := by rw [far9 _ (by decide) (by decide)]; exact g13
  have k14 : h9 14 = oPc i1 := by rw [far9 _ (by decide) (by decide)]; exact g14
  have k15 : h9 15 = oAct (nI k) := by rw [far9 _ (by decide) (by decide)]; exact g15
  have k16 : h9 16 = aL 8 ad := by rw [far9 _ (by decide) (by decide)]; exact g16
  have k17 : h9 17 = aI 8 aj := by rw [far9 _ (by decide) (by decide)]; exact g17
  have k18 : h9 18 = aI 8 ash := by rw [far9 _ (by decide) (by decide)]; exact g18
  refine ⟨hu (hu h9 12 (oPic (nI (rdQ f L).1) (nI (rdQ f L).2.1) (rdQ f L).2.2 0 8)) 15 (oAct 0), ?_, ⟨k8, k9, k10, ⟨_, _, _, _, k11⟩, rfl, k13, k14, rfl, k16, k17, k18⟩, fun i hi => by rw [hu_n (by omega), hu_n (by omega), far9 _ (by omega) (by omega)]⟩
  refine AMet.intro (Nat.le_refl _) (Nat.le_refl _) (by decide) (Nat.le_of_ble_eq_true rfl) rfl ?_
  refine a_aload_n d_Dot_picture_0 rfl ?_
  refine a_getf d_Dot_picture_1 f_Dot_19 g8 rfl ?_
  refine a_aload_n d_Dot_picture_4 rfl ?_
  refine a_getf d_Dot_picture_5 f_Dot_10 g8 rfl ?_
  refine a_cv0 (a := 11) d_Dot_picture_8 m_Rdg_read t_Rdg_read l_Dot_87 g11 rfl rfl M rfl rfl ⟨Nat.le_of_ble_eq_true rfl, Nat.le_of_ble_eq_true rfl⟩ (Nat.le_of_ble_eq_true rfl)  ?_
  refine a_istore_n d_Dot_picture_11 (Nat.le_of_ble_eq_true rfl) (Nat.le_of_ble_eq_true rfl) rfl ?_
  refine a_aload_n d_Dot_picture_12 rfl ?_
  refine a_getf d_Dot_picture_13 f_Dot_10 (show _ = oDot lf from g8) rfl ?_
  refine a_iconst (v := 0) d_Dot_picture_16 (by decide) ?_
  refine a_putf d_Dot_picture_17 f_Dot_82 rfl (show _ = oTap (nI L) from g9) (Nat.le_of_ble_eq_true rfl) rfl rfl ?_
  refine a_iload_n d_Dot_picture_20 rfl ?_
  refine a_if_eq 40 d_Dot_picture_21 (by decide) (fun c21 => ?_) (fun c21 => absurd rfl c21)
  refine a_eq (h' := h9) rfl rfl rfl e9.symm rfl rfl ?_
  refine a_aload_n d_Dot_picture_40 rfl ?_
  refine a_getf d_Dot_picture_41 f_Dot_26 k8 rfl ?_
  refine a_aload_n d_Dot_picture_44 rfl ?_
  refine a_getf d_Dot_picture_45 f_Dot_19 k8 rfl ?_
  refine a_getf d_Dot_picture_48 f_Dot_98 k11 rfl ?_
  refine a_putf d_Dot_picture_51 f_Dot_101 rfl k12 (Nat.le_of_ble_eq_true rfl) rfl rfl ?_
  refine a_aload_n d_Dot_picture_54 rfl ?_
  refine a_getf d_Dot_picture_55 f_Dot_26 k8 rfl ?_
  refine a_aload_n d_Dot_picture_58 rfl ?_
  refine a_getf d_Dot_picture_59 f_Dot_19 k8 rfl ?_
  refine a_getf d_Dot_picture_62 f_Dot_102 k11 rfl ?_
  refine a_putf d_Dot_picture_65 f_Dot_105 rfl (show _ = oPic (nI (rdQ f L).1) (nI H) D j s from rfl) (Nat.le_of_ble_eq_true rfl) rfl rfl ?_
  refine a_aload_n d_Dot_picture_68 rfl ?_
  refine a_getf d_Dot_picture_69 f_Dot_26 k8 rfl ?_
  refine a_aload_n d_Dot_picture_72 rfl ?_
  refine a_getf d_Dot_picture_73 f_Dot_19 k8 rfl ?_
  refine a_getf d_Dot_picture_76 f_Dot_106 k11 rfl ?_
  refine a_putf d_Dot_picture_79 f_Dot_110 rfl (show _ = oPic (nI (rdQ f L).1) (nI (rdQ f L).2.1) D j s from rfl) (Nat.le_of_ble_eq_true rfl) rfl rfl ?_
  refine a_aload_n d_Dot_picture_82 rfl ?_
  refine a_getf d_Dot_picture_83 f_Dot_26 k8 rfl ?_
  refine a_iconst (v := 0) d_Dot_picture_86 (by decide) ?_
  refine a_putf d_Dot_picture_87 f_Dot_111 rfl (show _ = oPic (nI (rdQ f L).1) (nI (rdQ f L).2.1) (rdQ f L).2.2 j s from rfl) (Nat.le_of_ble_eq_true rfl) rfl rfl ?_
  refine a_aload_n d_Dot_picture_90 rfl ?_
  refine a_getf d_Dot_picture_91 f_Dot_26 k8 rfl ?_
  refine a_bipush (v := 8) d_Dot_picture_94 (by decide) ?_
  refine a_putf d_Dot_picture_96 f_Dot_114 rfl (show _ = oPic (nI (rdQ f L).1) (nI (rdQ f L).2.1) (rdQ f L).2.2 0 s from rfl) (Nat.le_of_ble_eq_true rfl) rfl rfl ?_
  refine a_aload_n d_Dot_picture_99 rfl ?_
  refine a_getf d_Dot_picture_100 f_Dot_39 k8 rfl ?_
  refine a_iconst (v := 0) d_Dot_picture_103 (by decide) ?_
  refine a_putf d_Dot_picture_104 f_Dot_117 rfl (show _ = oAct (nI k) from k15) (Nat.le_of_ble_eq_true rfl) rfl rfl ?_
  refine a_aload_n d_Dot_picture_107 rfl ?_
  refine a_getf d_Dot_picture_108 f_Dot_26 k8 rfl ?_
  refine a_cv0 (a := 12) d_Dot_picture_111 m_Pic_darkDots t_Pic_darkDots l_Dot_120 (show _ = oPic (nI (rdQ f L).1) (nI (rdQ f L).2.1) (rdQ f L).2.2 0 8 from rfl) rfl rfl (s_Pic_darkDots (show _ = oPic (nI (rdQ f L).1) (nI (rdQ f L).2.1) (rdQ f L).2.2 0 8 from rfl)) rfl rfl ⟨Nat.le_of_ble_eq_true rfl, Nat.le_of_ble_eq_true rfl⟩ (Nat.le_of_ble_eq_true rfl)  ?_
  exact a_iret d_Dot_picture_114 rfl rfl (by rw [hu_hu, hu_hu, hu_hu, hu_hu]; rfl) rfl
set_option maxRecDepth 20000 in
set_option maxHeartbeats 4000000 in
theorem s_Dot_imgN (g8 : h 8 = oDot lf) {x : Int32} (hx : ¬ (¬ x < 0 ∧ x < 2)) : AMet V i_Dot_imageNumber 0 [.ref 8, .int x] h n z (some .null) (h) n z := by
  refine AMet.intro (Nat.le_refl _) (Nat.le_refl _) (by decide) (Nat.le_of_ble_eq_true rfl) rfl ?_
  refine a_iload_n d_Dot_imageNumber_0 rfl ?_
  refine a_if_lt 9 d_Dot_imageNumber_1 (by decide) (fun c1 => ?_) (fun c1 => ?_)
  · skip
    refine a_null d_Dot_imageNumber_9 ?_
    exact a_aret d_Dot_imageNumber_10 rfl (Or.inl rfl) rfl rfl rfl
  · skip
    refine a_iload_n d_Dot_imageNumber_4 rfl ?_
    refine a_iconst (v := 2) d_Dot_imageNumber_5 (by decide) ?_
    refine a_icmp_lt 11 d_Dot_imageNumber_6 (by decide) (fun c6 => ?_) (fun c6 => ?_)
    · skip
      exact absurd ⟨c1, c6⟩ hx
    · skip
      refine a_null d_Dot_imageNumber_9 ?_
      exact a_aret d_Dot_imageNumber_10 rfl (Or.inl rfl) rfl rfl rfl
set_option maxRecDepth 20000 in
set_option maxHeartbeats 4000000 in
theorem s_Dot_img0 (g8 : h 8 = oDot lf) : AMet V i_Dot_imageNumber 0 [.ref 8, .int 0] h n z (some (.ref 13)) (h) n z := by
  refine AMet.intro (Nat.le_refl _) (Nat.le_refl _) (by decide) (Nat.le_of_ble_eq_true rfl) rfl ?_
  refine a_iload_n d_Dot_imageNumber_0 rfl ?_
  refine a_if_lt 9 d_Dot_imageNumber_1 (by decide) (fun c1 => absurd c1 (by decide)) (fun c1 => ?_)
  refine a_iload_n d_Dot_imageNumber_4 rfl ?_
  refine a_iconst (v := 2) d_Dot_imageNumber_5 (by decide) ?_
  refine a_icmp_lt 11 d_Dot_imageNumber_6 (by decide) (fun c6 => ?_) (fun c6 => absurd (by decide) c6)
  refine a_iload_n d_Dot_imageNumber_11 rfl ?_
  refine a_if_ne 22 d_Dot_imageNumber_12 (by decide) (fun c12 => absurd c12 (fun q => q rfl)) (fun c12 => ?_)
  refine a_aload_n d_Dot_imageNumber_15 rfl ?_
  refine a_getf d_Dot_imageNumber_16 f_Dot_30 g8 rfl ?_
  refine a_goto 26 d_Dot_imageNumber_19 (by decide) ?_
  exact a_aret d_Dot_imageNumber_26 rfl (Or.inr ⟨_, rfl⟩) rfl rfl rfl
set_option maxRecDepth 20000 in
set_option maxHeartbeats 4000000 in
theorem s_Dot_img1 (g8 : h 8 = oDot lf) : AMet V i_Dot_imageNumber 0 [.ref 8, .int 1] h n z (some (.ref 14)) (h) n z := by
  refine AMet.intro (Nat.le_refl _) (Nat.le_refl _) (by decide) (Nat.le_of_ble_eq_true rfl) rfl ?_
  refine a_iload_n d_Dot_imageNumber_0 rfl ?_
  refine a_if_lt 9 d_Dot_imageNumber_1 (by decide) (fun c1 => absurd c1 (by decide)) (fun c1 => ?_)
  refine a_iload_n d_Dot_imageNumber_4 rfl ?_
  refine a_iconst (v := 2) d_Dot_imageNumber_5 (by decide) ?_
  refine a_icmp_lt 11 d_Dot_imageNumber_6 (by decide) (fun c6 => ?_) (fun c6 => absurd (by decide) c6)
  refine a_iload_n d_Dot_imageNumber_11 rfl ?_
  refine a_if_ne 22 d_Dot_imageNumber_12 (by decide) (fun c12 => ?_) (fun c12 => absurd c12 (by decide))
  refine a_aload_n d_Dot_imageNumber_22 rfl ?_
  refine a_getf d_Dot_imageNumber_23 f_Dot_33 g8 rfl ?_
  exact a_aret d_Dot_imageNumber_26 rfl (Or.inr ⟨_, rfl⟩) rfl rfl rfl
set_option maxRecDepth 20000 in
set_option maxHeartbeats 4000000 in
theorem s_Dot_imageB (A : CA L f lf (W, H, D, j, s) k ad aj ash i0 i1 h) {x : Int32} (hx : ¬ (¬ x < 0 ∧ x < 2)) : AMet V i_Dot_image 1 [.ref 8, .int x] h n z (some (.int (-1000001))) h n z := by
  obtain ⟨g8, g9, g10, ⟨r1, r2, r3, r4, g11⟩, g12, g13, g14, g15, g16, g17, g18⟩ := A
  refine AMet.intro (Nat.le_refl _) (Nat.le_refl _) (by decide) (Nat.le_of_ble_eq_true rfl) rfl ?_
  refine a_aload_n d_Dot_image_0 rfl ?_
  refine a_iload_n d_Dot_image_1 rfl ?_
  refine a_cv0 (a := 8) d_Dot_image_2 m_Dot_imageNumber t_Dot_imageNumber l_Dot_264 g8 rfl rfl (s_Dot_imgN g8 hx) rfl rfl ⟨Nat.le_of_ble_eq_true rfl, Nat.le_of_ble_eq_true rfl⟩ (Nat.le_of_ble_eq_true rfl)  ?_
  refine a_astore_nN d_Dot_image_5 (Nat.le_of_ble_eq_true rfl) (Nat.le_of_ble_eq_true rfl) rfl ?_
  refine a_aload_nN d_Dot_image_6 rfl ?_
  refine a_ifnonnullN d_Dot_image_7 ?_
  refine a_ldc d_Dot_image_10 k_Dot_77 ?_
  exact a_iret d_Dot_image_12 rfl rfl rfl rfl
set_option maxRecDepth 20000 in
set_option maxHeartbeats 4000000 in
theorem s_Dot_restoreB (A : CA L f lf (W, H, D, j, s) k ad aj ash i0 i1 h) {x : Int32} (hx : ¬ (¬ x < 0 ∧ x < 2)) : AMet V i_Dot_restore 1 [.ref 8, .int x] h n z (some (.int (-1000001))) h n z := by
  obtain ⟨g8, g9, g10, ⟨r1, r2, r3, r4, g11⟩, g12, g13, g14, g15, g16, g17, g18⟩ := A
  refine AMet.intro (Nat.le_refl _) (Nat.le_refl _) (by decide) (Nat.le_of_ble_eq_true rfl) rfl ?_
  refine a_aload_n d_Dot_restore_0 rfl ?_
  refine a_iload_n d_Dot_restore_1 rfl ?_
  refine a_cv0 (a := 8) d_Dot_restore_2 m_Dot_imageNumber t_Dot_imageNumber l_Dot_264 g8 rfl rfl (s_Dot_imgN g8 hx) rfl rfl ⟨Nat.le_of_ble_eq_true rfl, Nat.le_of_ble_eq_true rfl⟩ (Nat.le_of_ble_eq_true rfl)  ?_
  refine a_astore_nN d_Dot_restore_5 (Nat.le_of_ble_eq_true rfl) (Nat.le_of_ble_eq_true rfl) rfl ?_
  refine a_aload_nN d_Dot_restore_6 rfl ?_
  refine a_ifnonnullN d_Dot_restore_7 ?_
  refine a_ldc d_Dot_restore_10 k_Dot_77 ?_
  exact a_iret d_Dot_restore_12 rfl rfl rfl rfl
set_option maxRecDepth 20000 in
set_option maxHeartbeats 4000000 in
theorem s_Dot_image0S (A : CA L f lf (W, H, D, j, s) k ad aj ash i0 i1 h) (hW : W = 0) : AMet V i_Dot_image 1 [.ref 8, .int 0] h n z (some (.int (-1000002))) h n z := by
  obtain ⟨g8, g9, g10, ⟨r1, r2, r3, r4, g11⟩, g12, g13, g14, g15, g16, g17, g18⟩ := A
  refine AMet.intro (Nat.le_refl _) (Nat.le_refl _) (by decide) (Nat.le_of_ble_eq_true rfl) rfl ?_
  refine a_aload_n d_Dot_image_0 rfl ?_
  refine a_iload_n d_Dot_image_1 rfl ?_
  refine a_cv0 (a := 8) d_Dot_image_2 m_Dot_imageNumber t_Dot_imageNumber l_Dot_264 g8 rfl rfl (s_Dot_img0 g8) rfl rfl ⟨Nat.le_of_ble_eq_true rfl, Nat.le_of_ble_eq_true rfl⟩ (Nat.le_of_ble_eq_true rfl)  ?_
  refine a_astore_n d_Dot_image_5 (Nat.le_of_ble_eq_true rfl) (Nat.le_of_ble_eq_true rfl) rfl ?_
  refine a_aload_n d_Dot_image_6 rfl ?_
  refine a_ifnonnull 13 d_Dot_image_7 (by decide) ?_
  refine a_aload_n d_Dot_image_13 rfl ?_
  refine a_getf d_Dot_image_14 f_Dot_26 g8 rfl ?_
  refine a_cv0 (a := 12) d_Dot_image_17 m_Pic_isThere t_Pic_isThere l_Dot_154 g12 rfl rfl (s_there0 g12 hW) rfl rfl ⟨Nat.le_of_ble_eq_true rfl, Nat.le_of_ble_eq_true rfl⟩ (Nat.le_of_ble_eq_true rfl)  ?_
  refine a_if_ne 26 d_Dot_image_20 (by decide) (fun c20 => absurd c20 (fun q => q rfl)) (fun c20 => ?_)
  refine a_ldc d_Dot_image_23 k_Dot_128 ?_
  exact a_iret d_Dot_image_25 rfl rfl rfl rfl
set_option maxRecDepth 20000 in
set_option maxHeartbeats 4000000 in
theorem s_Dot_image0 (A : CA L f lf (W, H, D, j, s) k ad aj ash i0 i1 h) (hW : 1 ≤ W) (hW8 : W ≤ 8) : ∃ h1, AMet V i_Dot_image 1 [.ref 8, .int 0] h n z (some (.int 1)) h1 n z ∧ CA L f lf (W, H, D, j, s) k ad aj ash (W, H, D, j, s) i1 h1 ∧ (∀ i, i < 8 ∨ 19 ≤ i → h1 i = h i) := by
  obtain ⟨g8, g9, g10, ⟨r1, r2, r3, r4, g11⟩, g12, g13, g14, g15, g16, g17, g18⟩ := A
  refine ⟨hu h 13 (oPic (nI W) (nI H) D j s), ?_, ⟨g8, g9, g10, ⟨_, _, _, _, g11⟩, g12, hu_s _ _ _, g14, g15, g16, g17, g18⟩, fun i hi => by rw [hu_n (by omega)]⟩
  refine AMet.intro (Nat.le_refl _) (Nat.le_refl _) (by decide) (Nat.le_of_ble_eq_true rfl) rfl ?_
  refine a_aload_n d_Dot_image_0 rfl ?_
  refine a_iload_n d_Dot_image_1 rfl ?_
  refine a_cv0 (a := 8) d_Dot_image_2 m_Dot_imageNumber t_Dot_imageNumber l_Dot_264 g8 rfl rfl (s_Dot_img0 g8) rfl rfl ⟨Nat.le_of_ble_eq_true rfl, Nat.le_of_ble_eq_true rfl⟩ (Nat.le_of_ble_eq_true rfl)  ?_
  refine a_astore_n d_Dot_image_5 (Nat.le_of_ble_eq_true rfl) (Nat.le_of_ble_eq_true rfl) rfl ?_
  refine a_aload_n d_Dot_image_6 rfl ?_
  refine a_ifnonnull 13 d_Dot_image_7 (by decide) ?_
  refine a_aload_n d_Dot_image_13 rfl ?_
  refine a_getf d_Dot_image_14 f_Dot_26 g8 rfl ?_
  refine a_cv0 (a := 12) d_Dot_image_17 m_Pic_isThere t_Pic_isThere l_Dot_154 g12 rfl rfl (s_there1 g12 hW hW8) rfl rfl ⟨Nat.le_of_ble_eq_true rfl, Nat.le_of_ble_eq_true rfl⟩ (Nat.le_of_ble_eq_true rfl)  ?_
  refine a_if_ne 26 d_Dot_image_20 (by decide) (fun c20 => ?_) (fun c20 => absurd c20 (by decide))
  refine a_aload_n d_Dot_image_26 rfl ?_
  refine a_aload_n d_Dot_image_27 rfl ?_
  refine a_getf d_Dot_image_28 f_Dot_26 g8 rfl ?_
  refine a_cv0 (a := 13) d_Dot_image_31 m_Pic_becomeLike t_Pic_becomeLike l_Dot_268 g13 rfl rfl (s_Pic_becomeLike_13_12 g13 g12) rfl rfl ⟨Nat.le_of_ble_eq_true rfl, Nat.le_of_ble_eq_true rfl⟩ (Nat.le_of_ble_eq_true rfl)  ?_
  refine a_iconst (v := 1) d_Dot_image_34 (by decide) ?_
  exact a_iret d_Dot_image_35 rfl rfl rfl rfl
set_option maxRecDepth 20000 in
set_option maxHeartbeats 4000000 in
theorem s_Dot_restore0S (A : CA L f lf (W, H, D, j, s) k ad aj ash i0 i1 h) (hW : i0.1 = 0) : AMet V i_Dot_restore 1 [.ref 8, .int 0] h n z (some (.int (-1000002))) h n z := by
  obtain ⟨g8, g9, g10, ⟨r1, r2, r3, r4, g11⟩, g12, g13, g14, g15, g16, g17, g18⟩ := A
  refine AMet.intro (Nat.le_refl _) (Nat.le_refl _) (by decide) (Nat.le_of_ble_eq_true rfl) rfl ?_
  refine a_aload_n d_Dot_restore_0 rfl ?_
  refine a_iload_n d_Dot_restore_1 rfl ?_
  refine a_cv0 (a := 8) d_Dot_restore_2 m_Dot_imageNumber t_Dot_imageNumber l_Dot_264 g8 rfl rfl (s_Dot_img0 g8) rfl rfl ⟨Nat.le_of_ble_eq_true rfl, Nat.le_of_ble_eq_true rfl⟩ (Nat.le_of_ble_eq_true rfl)  ?_
  refine a_astore_n d_Dot_restore_5 (Nat.le_of_ble_eq_true rfl) (Nat.le_of_ble_eq_true rfl) rfl ?_
  refine a_aload_n d_Dot_restore_6 rfl ?_
  refine a_ifnonnull 13 d_Dot_restore_7 (by decide) ?_
  refine a_aload_n d_Dot_restore_13 rfl ?_
  refine a_cv0 (a := 13) d_Dot_restore_14 m_Pic_isThere t_Pic_isThere l_Dot_154 g13 rfl rfl (s_there0 g13 hW) rfl rfl ⟨Nat.le_of_ble_eq_true rfl, Nat.le_of_ble_eq_true rfl⟩ (Nat.le_of_ble_eq_true rfl)  ?_
  refine a_if_ne 23 d_Dot_restore_17 (by decide) (fun c17 => absurd c17 (fun q => q rfl)) (fun c17 => ?_)
  refine a_ldc d_Dot_restore_20 k_Dot_128 ?_
  exact a_iret d_Dot_restore_22 rfl rfl rfl rfl
set_option maxRecDepth 20000 in
set_option maxHeartbeats 4000000 in
theorem s_Dot_restore0 (A : CA L f lf (W, H, D, j, s) k ad aj ash i0 i1 h) (hW : 1 ≤ i0.1) (hW8 : i0.1 ≤ 8) : ∃ h1, AMet V i_Dot_restore 1 [.ref 8, .int 0] h n z (some (.int 1)) h1 n z ∧ CA L f lf i0 0 ad aj ash i0 i1 h1 ∧ (∀ i, i < 8 ∨ 19 ≤ i → h1 i = h i) := by
  obtain ⟨g8, g9, g10, ⟨r1, r2, r3, r4, g11⟩, g12, g13, g14, g15, g16, g17, g18⟩ := A
  refine ⟨hu (hu h 12 (oPc i0)) 15 (oAct 0), ?_, ⟨g8, g9, g10, ⟨_, _, _, _, g11⟩, rfl, g13, g14, hu_s _ _ _, g16, g17, g18⟩, fun i hi => by rw [hu_n (by omega), hu_n (by omega)]⟩
  refine AMet.intro (Nat.le_refl _) (Nat.le_refl _) (by decide) (Nat.le_of_ble_eq_true rfl) rfl ?_
  refine a_aload_n d_Dot_restore_0 rfl ?_
  refine a_iload_n d_Dot_restore_1 rfl ?_
  refine a_cv0 (a := 8) d_Dot_restore_2 m_Dot_imageNumber t_Dot_imageNumber l_Dot_264 g8 rfl rfl (s_Dot_img0 g8) rfl rfl ⟨Nat.le_of_ble_eq_true rfl, Nat.le_of_ble_eq_true rfl⟩ (Nat.le_of_ble_eq_true rfl)  ?_
  refine a_astore_n d_Dot_restore_5 (Nat.le_of_ble_eq_true rfl) (Nat.le_of_ble_eq_true rfl) rfl ?_
  refine a_aload_n d_Dot_restore_6 rfl ?_
  refine a_ifnonnull 13 d_Dot_restore_7 (by decide) ?_
  refine a_aload_n d_Dot_restore_13 rfl ?_
  refine a_cv0 (a := 13) d_Dot_restore_14 m_Pic_isThere t_Pic_isThere l_Dot_154 g13 rfl rfl (s_there1 g13 hW hW8) rfl rfl ⟨Nat.le_of_ble_eq_true rfl, Nat.le_of_ble_eq_true rfl⟩ (Nat.le_of_ble_eq_true rfl)  ?_
  refine a_if_ne 23 d_Dot_restore_17 (by decide) (fun c17 => ?_) (fun c17 => absurd c17 (by decide))
  refine a_aload_n d_Dot_restore_23 rfl ?_
  refine a_getf d_Dot_restore_24 f_Dot_26 g8 rfl ?_
  refine a_aload_n d_Dot_restore_27 rfl ?_
  refine a_cv0 (a := 12) d_Dot_restore_28 m_Pic_becomeLike t_Pic_becomeLike l_Dot_268 g12 rfl rfl (s_Pic_becomeLike_12_13 g12 g13) rfl rfl ⟨Nat.le_of_ble_eq_true rfl, Nat.le_of_ble_eq_true rfl⟩ (Nat.le_of_ble_eq_true rfl)  ?_
  refine a_aload_n d_Dot_restore_31 rfl ?_
  refine a_getf d_Dot_restore_32 f_Dot_39 (show _ = oDot lf from g8) rfl ?_
  refine a_iconst (v := 0) d_Dot_restore_35 (by decide) ?_
  refine a_putf d_Dot_restore_36 f_Dot_117 rfl (show _ = oAct (nI k) from g15) (Nat.le_of_ble_eq_true rfl) rfl rfl ?_
  refine a_iconst (v := 1) d_Dot_restore_39 (by decide) ?_
  exact a_iret d_Dot_restore_40 rfl rfl rfl rfl
set_option maxRecDepth 20000 in
set_option maxHeartbeats 4000000 in
theorem s_Dot_image1S (A : CA L f lf (W, H, D, j, s) k ad aj ash i0 i1 h) (hW : W = 0) : AMet V i_Dot_image 1 [.ref 8, .int 1] h n z (some (.int (-1000002))) h n z := by
  obtain ⟨g8, g9, g10, ⟨r1, r2, r3, r4, g11⟩, g12, g13, g14, g15, g16, g17, g18⟩ := A
  refine AMet.intro (Nat.le_refl _) (Nat.le_refl _) (by decide) (Nat.le_of_ble_eq_true rfl) rfl ?_
  refine a_aload_n d_Dot_image_0 rfl ?_
  refine a_iload_n d_Dot_image_1 rfl ?_
  refine a_cv0 (a := 8) d_Dot_image_2 m_Dot_imageNumber t_Dot_imageNumber l_Dot_264 g8 rfl rfl (s_Dot_img1 g8) rfl rfl ⟨Nat.le_of_ble_eq_true rfl, Nat.le_of_ble_eq_true rfl⟩ (Nat.le_of_ble_eq_true rfl)  ?_
  refine a_astore_n d_Dot_image_5 (Nat.le_of_ble_eq_true rfl) (Nat.le_of_ble_eq_true rfl) rfl ?_
  refine a_aload_n d_Dot_image_6 rfl ?_
  refine a_ifnonnull 13 d_Dot_image_7 (by decide) ?_
  refine a_aload_n d_Dot_image_13 rfl ?_
  refine a_getf d_Dot_image_14 f_Dot_26 g8 rfl ?_
  refine a_cv0 (a := 12) d_Dot_image_17 m_Pic_isThere t_Pic_isThere l_Dot_154 g12 rfl rfl (s_there0 g12 hW) rfl rfl ⟨Nat.le_of_ble_eq_true rfl, Nat.le_of_ble_eq_true rfl⟩ (Nat.le_of_ble_eq_true rfl)  ?_
  refine a_if_ne 26 d_Dot_image_20 (by decide) (fun c20 => absurd c20 (fun q => q rfl)) (fun c20 => ?_)
  refine a_ldc d_Dot_image_23 k_Dot_128 ?_
  exact a_iret d_Dot_image_25 rfl rfl rfl rfl
set_option maxRecDepth 20000 in
set_option maxHeartbeats 4000000 in
theorem s_Dot_image1 (A : CA L f lf (W, H, D, j, s) k ad aj ash i0 i1 h) (hW : 1 ≤ W) (hW8 : W ≤ 8) : ∃ h1, AMet V i_Dot_image 1 [.ref 8, .int 1] h n z (some (.int 1)) h1 n z ∧ CA L f lf (W, H, D, j, s) k ad aj ash i0 (W, H, D, j, s) h1 ∧ (∀ i, i < 8 ∨ 19 ≤ i → h1 i = h i) := by
  obtain ⟨g8, g9, g10, ⟨r1, r2, r3, r4, g11⟩, g12, g13, g14, g15, g16, g17, g18⟩ := A
  refine ⟨hu h 14 (oPic (nI W) (nI H) D j s), ?_, ⟨g8, g9, g10, ⟨_, _, _, _, g11⟩, g12, g13, hu_s _ _ _, g15, g16, g17, g18⟩, fun i hi => by rw [hu_n (by omega)]⟩
  refine AMet.intro (Nat.le_refl _) (Nat.le_refl _) (by decide) (Nat.le_of_ble_eq_true rfl) rfl ?_
  refine a_aload_n d_Dot_image_0 rfl ?_
  refine a_iload_n d_Dot_image_1 rfl ?_
  refine a_cv0 (a := 8) d_Dot_image_2 m_Dot_imageNumber t_Dot_imageNumber l_Dot_264 g8 rfl rfl (s_Dot_img1 g8) rfl rfl ⟨Nat.le_of_ble_eq_true rfl, Nat.le_of_ble_eq_true rfl⟩ (Nat.le_of_ble_eq_true rfl)  ?_
  refine a_astore_n d_Dot_image_5 (Nat.le_of_ble_eq_true rfl) (Nat.le_of_ble_eq_true rfl) rfl ?_
  refine a_aload_n d_Dot_image_6 rfl ?_
  refine a_ifnonnull 13 d_Dot_image_7 (by decide) ?_
  refine a_aload_n d_Dot_image_13 rfl ?_
  refine a_getf d_Dot_image_14 f_Dot_26 g8 rfl ?_
  refine a_cv0 (a := 12) d_Dot_image_17 m_Pic_isThere t_Pic_isThere l_Dot_154 g12 rfl rfl (s_there1 g12 hW hW8) rfl rfl ⟨Nat.le_of_ble_eq_true rfl, Nat.le_of_ble_eq_true rfl⟩ (Nat.le_of_ble_eq_true rfl)  ?_
  refine a_if_ne 26 d_Dot_image_20 (by decide) (fun c20 => ?_) (fun c20 => absurd c20 (by decide))
  refine a_aload_n d_Dot_image_26 rfl ?_
  refine a_aload_n d_Dot_image_27 rfl ?_
  refine a_getf d_Dot_image_28 f_Dot_26 g8 rfl ?_
  refine a_cv0 (a := 14) d_Dot_image_31 m_Pic_becomeLike t_Pic_becomeLike l_Dot_268 g14 rfl rfl (s_Pic_becomeLike_14_12 g14 g12) rfl rfl ⟨Nat.le_of_ble_eq_true rfl, Nat.le_of_ble_eq_true rfl⟩ (Nat.le_of_ble_eq_true rfl)  ?_
  refine a_iconst (v := 1) d_Dot_image_34 (by decide) ?_
  exact a_iret d_Dot_image_35 rfl rfl rfl rfl
set_option maxRecDepth 20000 in
set_option maxHeartbeats 4000000 in
theorem s_Dot_restore1S (A : CA L f lf (W, H, D, j, s) k ad aj ash i0 i1 h) (hW : i1.1 = 0) : AMet V i_Dot_restore 1 [.ref 8, .int 1] h n z (some (.int (-1000002))) h n z := by
  obtain ⟨g8, g9, g10, ⟨r1, r2, r3, r4, g11⟩, g12, g13, g14, g15, g16, g17, g18⟩ := A
  refine AMet.intro (Nat.le_refl _) (Nat.le_refl _) (by decide) (Nat.le_of_ble_eq_true rfl) rfl ?_
  refine a_aload_n d_Dot_restore_0 rfl ?_
  refine a_iload_n d_Dot_restore_1 rfl ?_
  refine a_cv0 (a := 8) d_Dot_restore_2 m_Dot_imageNumber t_Dot_imageNumber l_Dot_264 g8 rfl rfl (s_Dot_img1 g8) rfl rfl ⟨Nat.le_of_ble_eq_true rfl, Nat.le_of_ble_eq_true rfl⟩ (Nat.le_of_ble_eq_true rfl)  ?_
  refine a_astore_n d_Dot_restore_5 (Nat.le_of_ble_eq_true rfl) (Nat.le_of_ble_eq_true rfl) rfl ?_
  refine a_aload_n d_Dot_restore_6 rfl ?_
  refine a_ifnonnull 13 d_Dot_restore_7 (by decide) ?_
  refine a_aload_n d_Dot_restore_13 rfl ?_
  refine a_cv0 (a := 14) d_Dot_restore_14 m_Pic_isThere t_Pic_isThere l_Dot_154 g14 rfl rfl (s_there0 g14 hW) rfl rfl ⟨Nat.le_of_ble_eq_true rfl, Nat.le_of_ble_eq_true rfl⟩ (Nat.le_of_ble_eq_true rfl)  ?_
  refine a_if_ne 23 d_Dot_restore_17 (by decide) (fun c17 => absurd c17 (fun q => q rfl)) (fun c17 => ?_)
  refine a_ldc d_Dot_restore_20 k_Dot_128 ?_
  exact a_iret d_Dot_restore_22 rfl rfl rfl rfl
set_option maxRecDepth 20000 in
set_option maxHeartbeats 4000000 in
theorem s_Dot_restore1 (A : CA L f lf (W, H, D, j, s) k ad aj ash i0 i1 h) (hW : 1 ≤ i1.1) (hW8 : i1.1 ≤ 8) : ∃ h1, AMet V i_Dot_restore 1 [.ref 8, .int 1] h n z (some (.int 1)) h1 n z ∧ CA L f lf i1 0 ad aj ash i0 i1 h1 ∧ (∀ i, i < 8 ∨ 19 ≤ i → h1 i = h i) := by
  obtain ⟨g8, g9, g10, ⟨r1, r2, r3, r4, g11⟩, g12, g13, g14, g15, g16, g17, g18⟩ := A
  refine ⟨hu (hu h 12 (oPc i1)) 15 (oAct 0), ?_, ⟨g8, g9, g10, ⟨_, _, _, _, g11⟩, rfl, g13, g14, hu_s _ _ _, g16, g17, g18⟩, fun i hi => by rw [hu_n (by omega), hu_n (by omega)]⟩
  refine AMet.intro (Nat.le_refl _) (Nat.le_refl _) (by decide) (Nat.le_of_ble_eq_true rfl) rfl ?_
  refine a_aload_n d_Dot_restore_0 rfl ?_
  refine a_iload_n d_Dot_restore_1 rfl ?_
  refine a_cv0 (a := 8) d_Dot_restore_2 m_Dot_imageNumber t_Dot_imageNumber l_Dot_264 g8 rfl rfl (s_Dot_img1 g8) rfl rfl ⟨Nat.le_of_ble_eq_true rfl, Nat.le_of_ble_eq_true rfl⟩ (Nat.le_of_ble_eq_true rfl)  ?_
  refine a_astore_n d_Dot_restore_5 (Nat.le_of_ble_eq_true rfl) (Nat.le_of_ble_eq_true rfl) rfl ?_
  refine a_aload_n d_Dot_restore_6 rfl ?_
  refine a_ifnonnull 13 d_Dot_restore_7 (by decide) ?_
  refine a_aload_n d_Dot_restore_13 rfl ?_
  refine a_cv0 (a := 14) d_Dot_restore_14 m_Pic_isThere t_Pic_isThere l_Dot_154 g14 rfl rfl (s_there1 g14 hW hW8) rfl rfl ⟨Nat.le_of_ble_eq_true rfl, Nat.le_of_ble_eq_true rfl⟩ (Nat.le_of_ble_eq_true rfl)  ?_
  refine a_if_ne 23 d_Dot_restore_17 (by decide) (fun c17 => ?_) (fun c17 => absurd c17 (by decide))
  refine a_aload_n d_Dot_restore_23 rfl ?_
  refine a_getf d_Dot_restore_24 f_Dot_26 g8 rfl ?_
  refine a_aload_n d_Dot_restore_27 rfl ?_
  refine a_cv0 (a := 12) d_Dot_restore_28 m_Pic_becomeLike t_Pic_becomeLike l_Dot_268 g12 rfl rfl (s_Pic_becomeLike_12_14 g12 g14) rfl rfl ⟨Nat.le_of_ble_eq_true rfl, Nat.le_of_ble_eq_true rfl⟩ (Nat.le_of_ble_eq_true rfl)  ?_
  refine a_aload_n d_Dot_restore_31 rfl ?_
  refine a_getf d_Dot_restore_32 f_Dot_39 (show _ = oDot lf from g8) rfl ?_
  refine a_iconst (v := 0) d_Dot_restore_35 (by decide) ?_
  refine a_putf d_Dot_restore_36 f_Dot_117 rfl (show _ = oAct (nI k) from g15) (Nat.le_of_ble_eq_true rfl) rfl rfl ?_
  refine a_iconst (v := 1) d_Dot_restore_39 (by decide) ?_
  exact a_iret d_Dot_restore_40 rfl rfl rfl rfl
end
