/-! THE MODEL, flip, dot, count: printed by wip/whole/t45.py -/
theorem ixE (X Y : Nat) : (4 : Int32) + 8 * nI Y + nI X = nI (4 + 8 * Y + X) := by
  rw [show (4 : Int32) = nI 4 from rfl, show (8 : Int32) = nI 8 from rfl, pk_mul, nI_add, nI_add]
section
variable {V : VV} {h : AH} {n z : Nat}

set_option maxRecDepth 20000 in
set_option maxHeartbeats 4000000 in
theorem s_Mod_dotB {ac by_ la ra il mn : Int32} {rs : Int64} {tb ve oa lm : Int32} {st : Nat → Int32} (g32 : h 32 = oMod ac by_ la ra il mn rs tb ve oa lm) (g33 : h 33 = aI 68 st) {x y : Int32} (hd : mDot (st 0) (st 1) x y = 0) : AMet V i_Mod_dot 2 [.ref 32, .int x, .int y] h n z (some (.int (-1000001))) (h) n z := by
  refine AMet.intro (Nat.le_refl _) (Nat.le_refl _) (by decide) (Nat.le_of_ble_eq_true rfl) rfl ?_
  refine a_aload_n d_Mod_dot_0 rfl ?_
  refine a_iload_n d_Mod_dot_1 rfl ?_
  refine a_iload_n d_Mod_dot_2 rfl ?_
  refine a_cv0 (a := 32) d_Mod_dot_3 m_Mod_isDot t_Mod_isDot l_Mod_118 g32 rfl rfl (s_Mod_isDot g32 g33 x y) rfl rfl ⟨Nat.le_of_ble_eq_true rfl, Nat.le_of_ble_eq_true rfl⟩ (Nat.le_of_ble_eq_true rfl)  ?_
  refine a_if_eq 25 d_Mod_dot_6 (by decide) (fun c6 => ?_) (fun c6 => absurd hd c6)
  refine a_ldc d_Mod_dot_25 k_Mod_75 ?_
  exact a_iret d_Mod_dot_27 rfl rfl rfl rfl
set_option maxRecDepth 20000 in
set_option maxHeartbeats 4000000 in
theorem s_Mod_dot {ac by_ la ra il mn : Int32} {rs : Int64} {tb ve oa lm : Int32} {st : Nat → Int32} (g32 : h 32 = oMod ac by_ la ra il mn rs tb ve oa lm) (g33 : h 33 = aI 68 st) {X Y : Nat} (hX : X < 8) (hY : Y < 8) (hd : ¬ mDot (st 0) (st 1) (nI X) (nI Y) = 0) : AMet V i_Mod_dot 2 [.ref 32, .int (nI X), .int (nI Y)] h n z (some (.int (st (4 + 8 * Y + X)))) (h) n z := by
  refine AMet.intro (Nat.le_refl _) (Nat.le_refl _) (by decide) (Nat.le_of_ble_eq_true rfl) rfl ?_
  refine a_aload_n d_Mod_dot_0 rfl ?_
  refine a_iload_n d_Mod_dot_1 rfl ?_
  refine a_iload_n d_Mod_dot_2 rfl ?_
  refine a_cv0 (a := 32) d_Mod_dot_3 m_Mod_isDot t_Mod_isDot l_Mod_118 g32 rfl rfl (s_Mod_isDot g32 g33 _ _) rfl rfl ⟨Nat.le_of_ble_eq_true rfl, Nat.le_of_ble_eq_true rfl⟩ (Nat.le_of_ble_eq_true rfl)  ?_
  refine a_if_eq 25 d_Mod_dot_6 (by decide) (fun c6 => absurd c6 hd) (fun c6 => ?_)
  refine a_aload_n d_Mod_dot_9 rfl ?_
  refine a_getf d_Mod_dot_10 f_Mod_7 g32 rfl ?_
  refine a_iconst (v := 4) d_Mod_dot_13 (by decide) ?_
  refine a_bipush (v := 8) d_Mod_dot_14 (by decide) ?_
  refine a_iload_n d_Mod_dot_16 rfl ?_
  refine a_imul d_Mod_dot_17 ?_
  refine a_iadd d_Mod_dot_18 ?_
  refine a_iload_n d_Mod_dot_19 rfl ?_
  refine a_iadd d_Mod_dot_20 ?_
  rw [ixE]
  refine a_iald d_Mod_dot_21 g33 (nI_in (show 4 + 8 * Y + X < 68 by omega) (by decide)) ?_
  rw [nI_clamp (by omega)]
  refine a_goto 27 d_Mod_dot_22 (by decide) ?_
  exact a_iret d_Mod_dot_27 rfl rfl rfl rfl
set_option maxRecDepth 20000 in
set_option maxHeartbeats 4000000 in
theorem s_Mod_flipB {ac by_ la ra il mn : Int32} {rs : Int64} {tb ve oa lm : Int32} {st : Nat → Int32} (g32 : h 32 = oMod ac by_ la ra il mn rs tb ve oa lm) (g33 : h 33 = aI 68 st) {x y : Int32} (hd : mDot (st 0) (st 1) x y = 0) : AMet V i_Mod_flip 2 [.ref 32, .int x, .int y] h n z (some (.int (-1000001))) (h) n z := by
  refine AMet.intro (Nat.le_refl _) (Nat.le_refl _) (by decide) (Nat.le_of_ble_eq_true rfl) rfl ?_
  refine a_aload_n d_Mod_flip_0 rfl ?_
  refine a_iload_n d_Mod_flip_1 rfl ?_
  refine a_iload_n d_Mod_flip_2 rfl ?_
  refine a_cv0 (a := 32) d_Mod_flip_3 m_Mod_isDot t_Mod_isDot l_Mod_118 g32 rfl rfl (s_Mod_isDot g32 g33 x y) rfl rfl ⟨Nat.le_of_ble_eq_true rfl, Nat.le_of_ble_eq_true rfl⟩ (Nat.le_of_ble_eq_true rfl)  ?_
  refine a_if_ne 12 d_Mod_flip_6 (by decide) (fun c6 => absurd c6 (fun q => q hd)) (fun c6 => ?_)
  refine a_ldc d_Mod_flip_9 k_Mod_75 ?_
  exact a_iret d_Mod_flip_11 rfl rfl rfl rfl
set_option maxRecDepth 20000 in
set_option maxHeartbeats 4000000 in
theorem s_Mod_flip {by_ la ra il mn : Int32} {rs : Int64} {tb ve oa lm : Int32} {k : Nat} {st pa : Nat → Int32} (g32 : h 32 = oMod (nI k) by_ la ra il mn rs tb ve oa lm) (g33 : h 33 = aI 68 st) (g34 : h 34 = aI 544 pa) (hk : k ≤ 8) {X Y : Nat} (hX : X < 8) (hY : Y < 8) (hd : ¬ mDot (st 0) (st 1) (nI X) (nI Y) = 0) : ∃ h1, AMet V i_Mod_flip 2 [.ref 32, .int (nI X), .int (nI Y)] h n z (some (.int (1 - st (4 + 8 * Y + X)))) h1 n z ∧ h1 32 = oMod (nI (rmK k)) by_ la ra 0 mn rs tb ve oa lm ∧ h1 33 = aI 68 (upd st (4 + 8 * Y + X) (1 - st (4 + 8 * Y + X))) ∧ h1 34 = aI 544 (rmP pa k st) ∧ ∀ i, i ≠ 32 → i ≠ 33 → i ≠ 34 → h1 i = h i := by
  obtain ⟨h2, M, k32, k33, k34, far⟩ := s_notes (V := V) (n := n) (z := z) g32 g33 g34 hk
  refine ⟨hu h2 33 (aI 68 (upd st (4 + 8 * Y + X) (1 - st (4 + 8 * Y + X)))), ?_, k32, hu_s _ _ _, k34, fun i q1 q2 q3 => by rw [hu_n q2, far i q1 q3]⟩
  refine AMet.intro (Nat.le_refl _) (Nat.le_refl _) (by decide) (Nat.le_of_ble_eq_true rfl) rfl ?_
  refine a_aload_n d_Mod_flip_0 rfl ?_
  refine a_iload_n d_Mod_flip_1 rfl ?_
  refine a_iload_n d_Mod_flip_2 rfl ?_
  refine a_cv0 (a := 32) d_Mod_flip_3 m_Mod_isDot t_Mod_isDot l_Mod_118 g32 rfl rfl (s_Mod_isDot g32 g33 _ _) rfl rfl ⟨Nat.le_of_ble_eq_true rfl, Nat.le_of_ble_eq_true rfl⟩ (Nat.le_of_ble_eq_true rfl)  ?_
  refine a_if_ne 12 d_Mod_flip_6 (by decide) (fun c6 => ?_) (fun c6 => absurd c6 hd)
  refine a_aload_n d_Mod_flip_12 rfl ?_
  refine a_cv0 (a := 32) d_Mod_flip_13 m_Mod_notes t_Mod_notes l_Mod_122 g32 rfl rfl M rfl rfl ⟨Nat.le_of_ble_eq_true rfl, Nat.le_of_ble_eq_true rfl⟩ (Nat.le_of_ble_eq_true rfl)  ?_
  refine a_aload_n d_Mod_flip_16 rfl ?_
  refine a_getf d_Mod_flip_17 f_Mod_7 k32 rfl ?_
  refine a_iconst (v := 4) d_Mod_flip_20 (by decide) ?_
  refine a_bipush (v := 8) d_Mod_flip_21 (by decide) ?_
  refine a_iload_n d_Mod_flip_23 rfl ?_
  refine a_imul d_Mod_flip_24 ?_
  refine a_iadd d_Mod_flip_25 ?_
  refine a_iload_n d_Mod_flip_26 rfl ?_
  refine a_iadd d_Mod_flip_27 ?_
  rw [ixE]
  refine a_iconst (v := 1) d_Mod_flip_28 (by decide) ?_
  refine a_aload_n d_Mod_flip_29 rfl ?_
  refine a_getf d_Mod_flip_30 f_Mod_7 k32 rfl ?_
  refine a_iconst (v := 4) d_Mod_flip_33 (by decide) ?_
  refine a_bipush (v := 8) d_Mod_flip_34 (by decide) ?_
  refine a_iload_n d_Mod_flip_36 rfl ?_
  refine a_imul d_Mod_flip_37 ?_
  refine a_iadd d_Mod_flip_38 ?_
  refine a_iload_n d_Mod_flip_39 rfl ?_
  refine a_iadd d_Mod_flip_40 ?_
  rw [ixE]
  refine a_iald d_Mod_flip_41 k33 (nI_in (show 4 + 8 * Y + X < 68 by omega) (by decide)) ?_
  rw [nI_clamp (by omega)]
  refine a_isub d_Mod_flip_42 ?_
  refine a_iast d_Mod_flip_43 k33 (nI_in (show 4 + 8 * Y + X < 68 by omega) (by decide)) ?_
  refine a_aload_n d_Mod_flip_44 rfl ?_
  refine a_getf d_Mod_flip_45 f_Mod_7 (show _ = oMod (nI (rmK k)) by_ la ra 0 mn rs tb ve oa lm from k32) rfl ?_
  refine a_iconst (v := 4) d_Mod_flip_48 (by decide) ?_
  refine a_bipush (v := 8) d_Mod_flip_49 (by decide) ?_
  refine a_iload_n d_Mod_flip_51 rfl ?_
  refine a_imul d_Mod_flip_52 ?_
  refine a_iadd d_Mod_flip_53 ?_
  refine a_iload_n d_Mod_flip_54 rfl ?_
  refine a_iadd d_Mod_flip_55 ?_
  rw [ixE]
  refine a_iald d_Mod_flip_56 (hu_s _ _ _) (nI_in (show 4 + 8 * Y + X < 68 by omega) (by decide)) ?_
  rw [nI_clamp (by omega)]
  exact a_iret d_Mod_flip_57 rfl (by simp [upd]) rfl rfl
def m_count (st : Nat → Int32) (pc ac by_ what : Int32) : Int32 := match swI what 5 with
  | some 0 => st 0 * st 1
  | some 1 => pc
  | some 2 => st 2
  | some 3 => st 3
  | some 4 => ac
  | some 5 => by_
  | _ => -1000001
set_option maxRecDepth 20000 in
set_option maxHeartbeats 4000000 in
theorem s_Mod_count {ac by_ la ra il mn : Int32} {rs : Int64} {tb ve oa lm : Int32} {st : Nat → Int32} (g32 : h 32 = oMod ac by_ la ra il mn rs tb ve oa lm) (g33 : h 33 = aI 68 st) {D : Int64} (hst : ∀ k, k < 64 → st (4 + k) = if lb D k then 1 else 0) (what : Int32) : AMet V i_Mod_count 1 [.ref 32, .int what] h n z (some (.int (m_count st (nI (pcn D 64)) ac by_ what))) (h) n z := by
  refine AMet.intro (Nat.le_refl _) (Nat.le_refl _) (by decide) (Nat.le_of_ble_eq_true rfl) rfl ?_
  refine a_iload_n d_Mod_count_0 rfl ?_
  rcases sw_cases what 5 (by decide) with c1 | c1
  · skip
    refine a_tabOut 76 d_Mod_count_1 c1 (by decide) ?_
    refine a_ldc d_Mod_count_76 k_Mod_75 ?_
    exact a_iret d_Mod_count_78 rfl (by unfold m_count; rw [swI_out c1]; try rfl) rfl rfl
  · skip
    rcases c1 with ⟨j, hj, c1⟩
    rcases (show j = 0 ∨ j = 1 ∨ j = 2 ∨ j = 3 ∨ j = 4 ∨ j = 5 by omega) with rfl | rfl | rfl | rfl | rfl | rfl
    · skip
      refine a_tabIn (off := 39) 40 d_Mod_count_1 (by rw [c1]; decide) (by rw [c1]; decide) (by rw [c1]; rfl) (by decide) ?_
      refine a_aload_n d_Mod_count_40 rfl ?_
      refine a_getf d_Mod_count_41 f_Mod_7 g32 rfl ?_
      refine a_iconst (v := 0) d_Mod_count_44 (by decide) ?_
      refine a_iald d_Mod_count_45 g33 (nI_in (c := 0) (N := 68) (by decide) (by decide)) ?_
      refine a_aload_n d_Mod_count_46 rfl ?_
      refine a_getf d_Mod_count_47 f_Mod_7 g32 rfl ?_
      refine a_iconst (v := 1) d_Mod_count_50 (by decide) ?_
      refine a_iald d_Mod_count_51 g33 (nI_in (c := 1) (N := 68) (by decide) (by decide)) ?_
      refine a_imul d_Mod_count_52 ?_
      exact a_iret d_Mod_count_53 rfl (by unfold m_count; rw [c1, swI_in 0 5 (by decide) (by decide)]; rfl) rfl rfl
    · skip
      refine a_tabIn (off := 53) 54 d_Mod_count_1 (by rw [c1]; decide) (by rw [c1]; decide) (by rw [c1]; rfl) (by decide) ?_
      refine a_aload_n d_Mod_count_54 rfl ?_
      refine a_cv0 (a := 32) d_Mod_count_55 m_Mod_dark t_Mod_dark l_Mod_114 g32 rfl rfl (s_Mod_dark g32 g33 hst) rfl rfl ⟨Nat.le_of_ble_eq_true rfl, Nat.le_of_ble_eq_true rfl⟩ (Nat.le_of_ble_eq_true rfl)  ?_
      exact a_iret d_Mod_count_58 rfl (by unfold m_count; rw [c1, swI_in 1 5 (by decide) (by decide)]; try rfl) rfl rfl
    · skip
      refine a_tabIn (off := 58) 59 d_Mod_count_1 (by rw [c1]; decide) (by rw [c1]; decide) (by rw [c1]; rfl) (by decide) ?_
      refine a_aload_n d_Mod_count_59 rfl ?_
      refine a_getf d_Mod_count_60 f_Mod_7 g32 rfl ?_
      refine a_iload_n d_Mod_count_63 rfl ?_
      refine a_iald d_Mod_count_64 g33 (by rw [c1]; first | exact nI_in (c := 2) (N := 68) (by decide) (by decide) | exact nI_in (c := 3) (N := 68) (by decide) (by decide)) ?_
      exact a_iret d_Mod_count_65 rfl (by unfold m_count; rw [c1, swI_in 2 5 (by decide) (by decide)]; rfl) rfl rfl
    · skip
      refine a_tabIn (off := 58) 59 d_Mod_count_1 (by rw [c1]; decide) (by rw [c1]; decide) (by rw [c1]; rfl) (by decide) ?_
      refine a_aload_n d_Mod_count_59 rfl ?_
      refine a_getf d_Mod_count_60 f_Mod_7 g32 rfl ?_
      refine a_iload_n d_Mod_count_63 rfl ?_
      refine a_iald d_Mod_count_64 g33 (by rw [c1]; first | exact nI_in (c := 2) (N := 68) (by decide) (by decide) | exact nI_in (c := 3) (N := 68) (by decide) (by decide)) ?_
      exact a_iret d_Mod_count_65 rfl (by unfold m_count; rw [c1, swI_in 3 5 (by decide) (by decide)]; rfl) rfl rfl
    · skip
      refine a_tabIn (off := 65) 66 d_Mod_count_1 (by rw [c1]; decide) (by rw [c1]; decide) (by rw [c1]; rfl) (by decide) ?_
      refine a_aload_n d_Mod_count_66 rfl ?_
      refine a_getf d_Mod_count_67 f_Mod_107 g32 rfl ?_
      exact a_iret d_Mod_count_70 rfl (by unfold m_count; rw [c1, swI_in 4 5 (by decide) (by decide)]; try rfl) rfl rfl
    · skip
      refine a_tabIn (off := 70) 71 d_Mod_count_1 (by rw [c1]; decide) (by rw [c1]; decide) (by rw [c1]; rfl) (by decide) ?_
      refine a_aload_n d_Mod_count_71 rfl ?_
      refine a_getf d_Mod_count_72 f_Mod_76 g32 rfl ?_
      exact a_iret d_Mod_count_75 rfl (by unfold m_count; rw [c1, swI_in 5 5 (by decide) (by decide)]; try rfl) rfl rfl
end
