/-! THE CONSTRUCTORS: printed by wip/whole/t30.py -/
section
variable {V : VV} {h : AH} {z : Nat}
set_option maxRecDepth 20000 in
set_option maxHeartbeats 4000000 in
theorem s_Rdg_init_11 {n : Nat} {c : AC} (gb : h 11 = c) : AMet V i_Rdg_init 1 [.ref 11] h n z none h n z := by
  refine AMet.intro (Nat.le_refl _) (Nat.le_refl _) (by decide) (Nat.le_of_ble_eq_true rfl) rfl ?_
  refine a_aload_n d_Rdg_init_0 rfl ?_
  refine a_obj d_Rdg_init_1 l_Rdg_1 w_oi1 w_oi2 (Nat.le_of_ble_eq_true rfl) (Nat.le_of_ble_eq_true rfl) ?_
  exact a_vret d_Rdg_init_4 rfl rfl rfl rfl
set_option maxRecDepth 20000 in
set_option maxHeartbeats 4000000 in
theorem s_Bend_init_28 {n : Nat} {c : AC} (gb : h 28 = c) : AMet V i_Bend_init 1 [.ref 28] h n z none h n z := by
  refine AMet.intro (Nat.le_refl _) (Nat.le_refl _) (by decide) (Nat.le_of_ble_eq_true rfl) rfl ?_
  refine a_aload_n d_Bend_init_0 rfl ?_
  refine a_obj d_Bend_init_1 l_Bend_1 w_oi1 w_oi2 (Nat.le_of_ble_eq_true rfl) (Nat.le_of_ble_eq_true rfl) ?_
  exact a_vret d_Bend_init_4 rfl rfl rfl rfl
set_option maxRecDepth 20000 in
set_option maxHeartbeats 4000000 in
theorem s_Pic_init_12 {n : Nat} {c : AC} (gb : h 12 = c) : AMet V i_Pic_init 1 [.ref 12] h n z none h n z := by
  refine AMet.intro (Nat.le_refl _) (Nat.le_refl _) (by decide) (Nat.le_of_ble_eq_true rfl) rfl ?_
  refine a_aload_n d_Pic_init_0 rfl ?_
  refine a_obj d_Pic_init_1 l_Pic_1 w_oi1 w_oi2 (Nat.le_of_ble_eq_true rfl) (Nat.le_of_ble_eq_true rfl) ?_
  exact a_vret d_Pic_init_4 rfl rfl rfl rfl
set_option maxRecDepth 20000 in
set_option maxHeartbeats 4000000 in
theorem s_Pic_init_13 {n : Nat} {c : AC} (gb : h 13 = c) : AMet V i_Pic_init 1 [.ref 13] h n z none h n z := by
  refine AMet.intro (Nat.le_refl _) (Nat.le_refl _) (by decide) (Nat.le_of_ble_eq_true rfl) rfl ?_
  refine a_aload_n d_Pic_init_0 rfl ?_
  refine a_obj d_Pic_init_1 l_Pic_1 w_oi1 w_oi2 (Nat.le_of_ble_eq_true rfl) (Nat.le_of_ble_eq_true rfl) ?_
  exact a_vret d_Pic_init_4 rfl rfl rfl rfl
set_option maxRecDepth 20000 in
set_option maxHeartbeats 4000000 in
theorem s_Pic_init_14 {n : Nat} {c : AC} (gb : h 14 = c) : AMet V i_Pic_init 1 [.ref 14] h n z none h n z := by
  refine AMet.intro (Nat.le_refl _) (Nat.le_refl _) (by decide) (Nat.le_of_ble_eq_true rfl) rfl ?_
  refine a_aload_n d_Pic_init_0 rfl ?_
  refine a_obj d_Pic_init_1 l_Pic_1 w_oi1 w_oi2 (Nat.le_of_ble_eq_true rfl) (Nat.le_of_ble_eq_true rfl) ?_
  exact a_vret d_Pic_init_4 rfl rfl rfl rfl
set_option maxRecDepth 20000 in
set_option maxHeartbeats 4000000 in
theorem s_Tap_init (g9 : h 9 = .inr (9, [.null, .int 0])) : ∃ h1, AMet V i_Tap_init 1 [.ref 9] h 10 z none h1 11 (z + 90) ∧ h1 9 = oTap 0 ∧ h1 10 = aI 90 (fun _ => 0) ∧ ∀ i, i ≠ 9 → i ≠ 10 → h1 i = h i := by
  refine ⟨hu (hu (h) 10 (aI 90 (fun _ => 0))) 9 (.inr (9, [.ref 10, .int 0])), ?_, ?_⟩
  · refine AMet.intro (by decide) (by omega) (by decide) (Nat.le_of_ble_eq_true rfl) rfl ?_
    refine a_aload_n d_Tap_init_0 rfl ?_
    refine a_obj d_Tap_init_1 l_Tap_1 w_oi1 w_oi2 (Nat.le_of_ble_eq_true rfl) (Nat.le_of_ble_eq_true rfl) ?_
    refine a_aload_n d_Tap_init_4 rfl ?_
    refine a_bipush (v := 90) d_Tap_init_5 (by decide) ?_
    refine a_newI (N := 90) d_Tap_init_7 (by decide) (by decide) (by decide) (by show _ ≤ 10 + (11 - 10); omega) (by show _ ≤ z + (z + 90 - z); omega) w_arrI ?_
    refine a_putF d_Tap_init_9 f_Tap_9 rfl rfl rfl g9 (Nat.le_of_ble_eq_true rfl) rfl rfl ?_
    exact a_vret d_Tap_init_12 rfl rfl rfl rfl
  · refine ⟨rfl, rfl, fun i q0 q1 => ?_⟩
    simp [hu, q0, q1]
set_option maxRecDepth 20000 in
set_option maxHeartbeats 4000000 in
theorem s_Acts_init (g15 : h 15 = .inr (0, [.null, .null, .null, .int 0])) : ∃ h1, AMet V i_Acts_init 1 [.ref 15] h 16 z none h1 19 (z + 24) ∧ h1 15 = oAct 0 ∧ h1 16 = aL 8 (fun _ => 0) ∧ h1 17 = aI 8 (fun _ => 0) ∧ h1 18 = aI 8 (fun _ => 0) ∧ ∀ i, i ≠ 15 → i ≠ 16 → i ≠ 17 → i ≠ 18 → h1 i = h i := by
  refine ⟨hu (hu (hu (hu (hu (hu (h) 16 (aL 8 (fun _ => 0))) 15 (.inr (0, [.ref 16, .null, .null, .int 0]))) 17 (aI 8 (fun _ => 0))) 15 (.inr (0, [.ref 16, .ref 17, .null, .int 0]))) 18 (aI 8 (fun _ => 0))) 15 (.inr (0, [.ref 16, .ref 17, .ref 18, .int 0])), ?_, ?_⟩
  · refine AMet.intro (by decide) (by omega) (by decide) (Nat.le_of_ble_eq_true rfl) rfl ?_
    refine a_aload_n d_Acts_init_0 rfl ?_
    refine a_obj d_Acts_init_1 l_Acts_1 w_oi1 w_oi2 (Nat.le_of_ble_eq_true rfl) (Nat.le_of_ble_eq_true rfl) ?_
    refine a_aload_n d_Acts_init_4 rfl ?_
    refine a_bipush (v := 8) d_Acts_init_5 (by decide) ?_
    refine a_newL (N := 8) d_Acts_init_7 (by decide) (by decide) (by decide) (by show _ ≤ 16 + (19 - 16); omega) (by show _ ≤ z + (z + 24 - z); omega) w_arrL ?_
    refine a_putF d_Acts_init_9 f_Acts_9 rfl rfl rfl g15 (Nat.le_of_ble_eq_true rfl) rfl rfl ?_
    refine a_aload_n d_Acts_init_12 rfl ?_
    refine a_bipush (v := 8) d_Acts_init_13 (by decide) ?_
    refine a_newI (N := 8) d_Acts_init_15 (by decide) (by decide) (by decide) (by show _ ≤ 16 + (19 - 16); omega) (by show _ ≤ z + (z + 24 - z); omega) w_arrI ?_
    refine a_putF d_Acts_init_17 f_Acts_13 rfl rfl rfl rfl (Nat.le_of_ble_eq_true rfl) rfl rfl ?_
    refine a_aload_n d_Acts_init_20 rfl ?_
    refine a_bipush (v := 8) d_Acts_init_21 (by decide) ?_
    refine a_newI (N := 8) d_Acts_init_23 (by decide) (by decide) (by decide) (by show _ ≤ 16 + (19 - 16); omega) (by show _ ≤ z + (z + 24 - z); omega) w_arrI ?_
    refine a_putF d_Acts_init_25 f_Acts_17 rfl rfl rfl rfl (Nat.le_of_ble_eq_true rfl) rfl rfl ?_
    exact a_vret d_Acts_init_28 rfl rfl rfl rfl
  · refine ⟨rfl, rfl, rfl, rfl, fun i q0 q1 q2 q3 => ?_⟩
    simp [hu, q0, q1, q2, q3]
set_option maxRecDepth 20000 in
set_option maxHeartbeats 4000000 in
theorem s_Brs_init (g19 : h 19 = .inr (3, [.null, .null, .null, .null, .int 0, .long 0, .int 0, .int 0])) : ∃ h1, AMet V i_Brs_init 1 [.ref 19] h 20 z none h1 24 (z + 496) ∧ h1 19 = oBrs 0 0 0 0 ∧ h1 20 = aI 144 (fun _ => 0) ∧ h1 21 = aI 144 (fun _ => 0) ∧ h1 22 = aI 144 (fun _ => 0) ∧ h1 23 = aQ 64 (fun _ => none) ∧ ∀ i, i ≠ 19 → i ≠ 20 → i ≠ 21 → i ≠ 22 → i ≠ 23 → h1 i = h i := by
  refine ⟨hu (hu (hu (hu (hu (hu (hu (hu (h) 20 (aI 144 (fun _ => 0))) 19 (.inr (3, [.ref 20, .null, .null, .null, .int 0, .long 0, .int 0, .int 0]))) 21 (aI 144 (fun _ => 0))) 19 (.inr (3, [.ref 20, .ref 21, .null, .null, .int 0, .long 0, .int 0, .int 0]))) 22 (aI 144 (fun _ => 0))) 19 (.inr (3, [.ref 20, .ref 21, .ref 22, .null, .int 0, .long 0, .int 0, .int 0]))) 23 (aQ 64 (fun _ => none))) 19 (.inr (3, [.ref 20, .ref 21, .ref 22, .ref 23, .int 0, .long 0, .int 0, .int 0])), ?_, ?_⟩
  · refine AMet.intro (by decide) (by omega) (by decide) (Nat.le_of_ble_eq_true rfl) rfl ?_
    refine a_aload_n d_Brs_init_0 rfl ?_
    refine a_obj d_Brs_init_1 l_Brs_1 w_oi1 w_oi2 (Nat.le_of_ble_eq_true rfl) (Nat.le_of_ble_eq_true rfl) ?_
    refine a_aload_n d_Brs_init_4 rfl ?_
    refine a_sipush (v := 144) d_Brs_init_5 (by decide) ?_
    refine a_newI (N := 144) d_Brs_init_8 (by decide) (by decide) (by decide) (by show _ ≤ 20 + (24 - 20); omega) (by show _ ≤ z + (z + 496 - z); omega) w_arrI ?_
    refine a_putF d_Brs_init_10 f_Brs_9 rfl rfl rfl g19 (Nat.le_of_ble_eq_true rfl) rfl rfl ?_
    refine a_aload_n d_Brs_init_13 rfl ?_
    refine a_sipush (v := 144) d_Brs_init_14 (by decide) ?_
    refine a_newI (N := 144) d_Brs_init_17 (by decide) (by decide) (by decide) (by show _ ≤ 20 + (24 - 20); omega) (by show _ ≤ z + (z + 496 - z); omega) w_arrI ?_
    refine a_putF d_Brs_init_19 f_Brs_13 rfl rfl rfl rfl (Nat.le_of_ble_eq_true rfl) rfl rfl ?_
    refine a_aload_n d_Brs_init_22 rfl ?_
    refine a_sipush (v := 144) d_Brs_init_23 (by decide) ?_
    refine a_newI (N := 144) d_Brs_init_26 (by decide) (by decide) (by decide) (by show _ ≤ 20 + (24 - 20); omega) (by show _ ≤ z + (z + 496 - z); omega) w_arrI ?_
    refine a_putF d_Brs_init_28 f_Brs_16 rfl rfl rfl rfl (Nat.le_of_ble_eq_true rfl) rfl rfl ?_
    refine a_aload_n d_Brs_init_31 rfl ?_
    refine a_bipush (v := 64) d_Brs_init_32 (by decide) ?_
    refine a_newQ (N := 64) d_Brs_init_34 (by decide) (by decide) (by decide) (by show _ ≤ 20 + (24 - 20); omega) (by show _ ≤ z + (z + 496 - z); omega) c_Brs_21 ?_
    refine a_putF d_Brs_init_37 f_Brs_23 rfl rfl rfl rfl (Nat.le_of_ble_eq_true rfl) rfl rfl ?_
    exact a_vret d_Brs_init_40 rfl rfl rfl rfl
  · refine ⟨rfl, rfl, rfl, rfl, rfl, fun i q0 q1 q2 q3 q4 => ?_⟩
    simp [hu, q0, q1, q2, q3, q4]
set_option maxRecDepth 20000 in
set_option maxHeartbeats 4000000 in
theorem s_Str_init (g24 : h 24 = .inr (8, [.null, .null, .null])) : ∃ h1, AMet V i_Str_init 1 [.ref 24, .ref 19] h 25 z none h1 27 (z + 2016) ∧ h1 24 = oStr ∧ h1 25 = aI 1872 (fun _ => 0) ∧ h1 26 = aI 144 (fun _ => 0) ∧ ∀ i, i ≠ 24 → i ≠ 25 → i ≠ 26 → h1 i = h i := by
  refine ⟨hu (hu (hu (hu (hu (h) 25 (aI 1872 (fun _ => 0))) 24 (.inr (8, [.null, .ref 25, .null]))) 26 (aI 144 (fun _ => 0))) 24 (.inr (8, [.null, .ref 25, .ref 26]))) 24 (.inr (8, [.ref 19, .ref 25, .ref 26])), ?_, ?_⟩
  · refine AMet.intro (by decide) (by omega) (by decide) (Nat.le_of_ble_eq_true rfl) rfl ?_
    refine a_aload_n d_Str_init_0 rfl ?_
    refine a_obj d_Str_init_1 l_Str_3 w_oi1 w_oi2 (Nat.le_of_ble_eq_true rfl) (Nat.le_of_ble_eq_true rfl) ?_
    refine a_aload_n d_Str_init_4 rfl ?_
    refine a_sipush (v := 1872) d_Str_init_5 (by decide) ?_
    refine a_newI (N := 1872) d_Str_init_8 (by decide) (by decide) (by decide) (by show _ ≤ 25 + (27 - 25); omega) (by show _ ≤ z + (z + 2016 - z); omega) w_arrI ?_
    refine a_putF d_Str_init_10 f_Str_11 rfl rfl rfl g24 (Nat.le_of_ble_eq_true rfl) rfl rfl ?_
    refine a_aload_n d_Str_init_13 rfl ?_
    refine a_sipush (v := 144) d_Str_init_14 (by decide) ?_
    refine a_newI (N := 144) d_Str_init_17 (by decide) (by decide) (by decide) (by show _ ≤ 25 + (27 - 25); omega) (by show _ ≤ z + (z + 2016 - z); omega) w_arrI ?_
    refine a_putF d_Str_init_19 f_Str_15 rfl rfl rfl rfl (Nat.le_of_ble_eq_true rfl) rfl rfl ?_
    refine a_aload_n d_Str_init_22 rfl ?_
    refine a_aload_n d_Str_init_23 rfl ?_
    refine a_putF d_Str_init_24 f_Str_18 rfl rfl rfl rfl (Nat.le_of_ble_eq_true rfl) rfl rfl ?_
    exact a_vret d_Str_init_27 rfl rfl rfl rfl
  · refine ⟨rfl, rfl, rfl, fun i q0 q1 q2 => ?_⟩
    simp [hu, q0, q1, q2]
set_option maxRecDepth 20000 in
set_option maxHeartbeats 4000000 in
theorem s_Pol_init (g27 : h 27 = .inr (6, [.null, .null, .null, .null, .null])) : ∃ h1, AMet V i_Pol_init 2 [.ref 27, .ref 19, .ref 24] h 28 z none h1 31 (z + 295) ∧ h1 27 = oPol ∧ h1 28 = oBend 0 0 0 0 0 0 ∧ h1 29 = aI 144 (fun _ => 0) ∧ h1 30 = aI 145 (fun _ => 0) ∧ ∀ i, i ≠ 27 → i ≠ 28 → i ≠ 29 → i ≠ 30 → h1 i = h i := by
  refine ⟨hu (hu (hu (hu (hu (hu (hu (hu h 28 (oBend 0 0 0 0 0 0)) 27 (.inr (6, [.null, .null, .ref 28, .null, .null]))) 29 (aI 144 (fun _ => 0))) 27 (.inr (6, [.null, .null, .ref 28, .ref 29, .null]))) 30 (aI 145 (fun _ => 0))) 27 (.inr (6, [.null, .null, .ref 28, .ref 29, .ref 30]))) 27 (.inr (6, [.ref 19, .null, .ref 28, .ref 29, .ref 30]))) 27 (.inr (6, [.ref 19, .ref 24, .ref 28, .ref 29, .ref 30])), ?_, ?_⟩
  · refine AMet.intro (by decide) (by omega) (by decide) (Nat.le_of_ble_eq_true rfl) rfl ?_
    refine a_aload_n d_Pol_init_0 rfl ?_
    refine a_obj d_Pol_init_1 l_Pol_1 w_oi1 w_oi2 (Nat.le_of_ble_eq_true rfl) (Nat.le_of_ble_eq_true rfl) ?_
    refine a_aload_n d_Pol_init_4 rfl ?_
    refine a_new (fs := [.int 0, .int 0, .int 0, .int 0, .int 0, .int 0]) d_Pol_init_5 ci_Bend c_Pol_7 n_Bend z_Bend (fun i hi => (by rcases (show i = 0 ∨ i = 1 ∨ i = 2 ∨ i = 3 ∨ i = 4 ∨ i = 5 by omega) with rfl | rfl | rfl | rfl | rfl | rfl <;> rfl)) (by show _ ≤ 28 + (31 - 28); omega) (by show _ ≤ z + (z + 295 - z); omega) ?_
    refine a_dup d_Pol_init_8 rfl ?_
    refine a_ci d_Pol_init_9 m_Bend_init t_Bend_init l_Pol_9 (s_Bend_init_28 rfl) rfl rfl ⟨Nat.le_of_ble_eq_true rfl, Nat.le_of_ble_eq_true rfl⟩ (Nat.le_of_ble_eq_true rfl) (by show _ ≤ 28 + (31 - 28); omega) (by show _ ≤ z + (z + 295 - z); omega) ?_
    refine a_putF d_Pol_init_12 f_Pol_10 rfl rfl rfl g27 (Nat.le_of_ble_eq_true rfl) rfl rfl ?_
    refine a_aload_n d_Pol_init_15 rfl ?_
    refine a_sipush (v := 144) d_Pol_init_16 (by decide) ?_
    refine a_newI (N := 144) d_Pol_init_19 (by decide) (by decide) (by decide) (by show _ ≤ 28 + (31 - 28); omega) (by show _ ≤ z + (z + 295 - z); omega) w_arrI ?_
    refine a_putF d_Pol_init_21 f_Pol_18 rfl rfl rfl rfl (Nat.le_of_ble_eq_true rfl) rfl rfl ?_
    refine a_aload_n d_Pol_init_24 rfl ?_
    refine a_sipush (v := 145) d_Pol_init_25 (by decide) ?_
    refine a_newI (N := 145) d_Pol_init_28 (by decide) (by decide) (by decide) (by show _ ≤ 28 + (31 - 28); omega) (by show _ ≤ z + (z + 295 - z); omega) w_arrI ?_
    refine a_putF d_Pol_init_30 f_Pol_22 rfl rfl rfl rfl (Nat.le_of_ble_eq_true rfl) rfl rfl ?_
    refine a_aload_n d_Pol_init_33 rfl ?_
    refine a_aload_n d_Pol_init_34 rfl ?_
    refine a_putF d_Pol_init_35 f_Pol_25 rfl rfl rfl rfl (Nat.le_of_ble_eq_true rfl) rfl rfl ?_
    refine a_aload_n d_Pol_init_38 rfl ?_
    refine a_aload_n d_Pol_init_39 rfl ?_
    refine a_putF d_Pol_init_40 f_Pol_29 rfl rfl rfl rfl (Nat.le_of_ble_eq_true rfl) rfl rfl ?_
    exact a_vret d_Pol_init_43 rfl rfl rfl rfl
  · refine ⟨rfl, rfl, rfl, rfl, fun i q0 q1 q2 q3 => ?_⟩
    simp [hu, q0, q1, q2, q3]
set_option maxRecDepth 20000 in
set_option maxHeartbeats 4000000 in
theorem s_Fil_init {n : Nat} (g31 : h 31 = .inr (4, [.null])) : AMet V i_Fil_init 1 [.ref 31, .ref 27] h n z none (hu h 31 oFil) n z := by
  refine AMet.intro (Nat.le_refl _) (Nat.le_refl _) (by decide) (Nat.le_of_ble_eq_true rfl) rfl ?_
  refine a_aload_n d_Fil_init_0 rfl ?_
  refine a_obj d_Fil_init_1 l_Fil_1 w_oi1 w_oi2 (Nat.le_of_ble_eq_true rfl) (Nat.le_of_ble_eq_true rfl) ?_
  refine a_aload_n d_Fil_init_4 rfl ?_
  refine a_aload_n d_Fil_init_5 rfl ?_
  refine a_putF d_Fil_init_6 f_Fil_7 rfl rfl rfl g31 (Nat.le_of_ble_eq_true rfl) rfl rfl ?_
  exact a_vret d_Fil_init_9 rfl rfl rfl rfl
set_option maxRecDepth 20000 in
set_option maxHeartbeats 4000000 in
theorem s_Dot_init (g8 : h 8 = .inr (10, [.null, .null, .null, .null, .null, .null, .null, .null, .null, .null, .int 0])) : ∃ h1, AMet V i_Dot_init 3 [.ref 8] h 9 z none h1 32 (z + 2963) ∧ (∃ ad aj ash, CA 0 (fun _ => 0) 0 (0, 0, 0, 0, 0) 0 ad aj ash (0, 0, 0, 0, 0) (0, 0, 0, 0, 0) h1) ∧ (h1 19 = oBrs 0 0 0 0 ∧ h1 20 = aI 144 (fun _ => 0) ∧ h1 21 = aI 144 (fun _ => 0) ∧ h1 22 = aI 144 (fun _ => 0) ∧ h1 23 = aQ 64 (fun _ => none) ∧ h1 24 = oStr ∧ h1 25 = aI 1872 (fun _ => 0) ∧ h1 26 = aI 144 (fun _ => 0) ∧ h1 27 = oPol ∧ h1 28 = oBend 0 0 0 0 0 0 ∧ h1 29 = aI 144 (fun _ => 0) ∧ h1 30 = aI 145 (fun _ => 0) ∧ h1 31 = oFil) ∧ ∀ i, i < 8 → h1 i = h i := by
  obtain ⟨T1, M1, e9, e10, f1⟩ := s_Tap_init (V := V) (h := hu h 9 (.inr (9, [.null, .int 0]))) (z := z + 2) rfl
  have k1 : T1 8 = .inr (10, [.null, .null, .null, .null, .null, .null, .null, .null, .null, .null, .int 0]) := by rw [f1 _ (by decide) (by decide)]; exact g8
  obtain ⟨T2, M2, e15, e16, e17, e18, f2⟩ := s_Acts_init (V := V) (h := hu (hu (hu (hu (hu (hu (hu (hu (hu (hu T1 8 (.inr (10, [.ref 9, .null, .null, .null, .null, .null, .null, .null, .null, .null, .int 0]))) 11 (oRdg 0 0 0 0)) 8 (.inr (10, [.ref 9, .ref 11, .null, .null, .null, .null, .null, .null, .null, .null, .int 0]))) 12 (oPic 0 0 0 0 0)) 8 (.inr (10, [.ref 9, .ref 11, .ref 12, .null, .null, .null, .null, .null, .null, .null, .int 0]))) 13 (oPic 0 0 0 0 0)) 8 (.inr (10, [.ref 9, .ref 11, .ref 12, .ref 13, .null, .null, .null, .null, .null, .null, .int 0]))) 14 (oPic 0 0 0 0 0)) 8 (.inr (10, [.ref 9, .ref 11, .ref 12, .ref 13, .ref 14, .null, .null, .null, .null, .null, .int 0]))) 15 (.inr (0, [.null, .null, .null, .int 0]))) (z := z + 2 + 90 + 4 + 5 + 5 + 5 + 4) rfl
  have k2 : T2 8 = .inr (10, [.ref 9, .ref 11, .ref 12, .ref 13, .ref 14, .null, .null, .null, .null, .null, .int 0]) := by rw [f2 _ (by decide) (by decide) (by decide) (by decide)]; rfl
  obtain ⟨T3, M3, e19, e20, e21, e22, e23, f3⟩ := s_Brs_init (V := V) (h := hu (hu T2 8 (.inr (10, [.ref 9, .ref 11, .ref 12, .ref 13, .ref 14, .ref 15, .null, .null, .null, .null, .int 0]))) 19 (.inr (3, [.null, .null, .null, .null, .int 0, .long 0, .int 0, .int 0]))) (z := z + 2 + 90 + 4 + 5 + 5 + 5 + 4 + 24 + 8) rfl
  obtain ⟨T4, M4, e24, e25, e26, f4⟩ := s_Str_init (V := V) (h := hu T3 24 (.inr (8, [.null, .null, .null]))) (z := z + 2 + 90 + 4 + 5 + 5 + 5 + 4 + 24 + 8 + 496 + 3) rfl
  obtain ⟨T5, M5, e27, e28, e29, e30, f5⟩ := s_Pol_init (V := V) (h := hu T4 27 (.inr (6, [.null, .null, .null, .null, .null]))) (z := z + 2 + 90 + 4 + 5 + 5 + 5 + 4 + 24 + 8 + 496 + 3 + 2016 + 5) rfl
  have b5 : ∀ i, i < 19 → T5 i = hu T2 8 (.inr (10, [.ref 9, .ref 11, .ref 12, .ref 13, .ref 14, .ref 15, .null, .null, .null, .null, .int 0])) i := fun i hi => by
    rw [f5 _ (by omega) (by omega) (by omega) (by omega), hu_n (by omega), f4 _ (by omega) (by omega) (by omega), hu_n (by omega), f3 _ (by omega) (by omega) (by omega) (by omega) (by omega), hu_n (by omega)]
  have k5 : T5 8 = .inr (10, [.ref 9, .ref 11, .ref 12, .ref 13, .ref 14, .ref 15, .null, .null, .null, .null, .int 0]) := by rw [b5 _ (by decide)]; rfl
  refine ⟨hu (hu (hu (hu (hu (hu T5 8 (.inr (10, [.ref 9, .ref 11, .ref 12, .ref 13, .ref 14, .ref 15, .ref 19, .null, .null, .null, .int 0]))) 8 (.inr (10, [.ref 9, .ref 11, .ref 12, .ref 13, .ref 14, .ref 15, .ref 19, .ref 24, .null, .null, .int 0]))) 8 (.inr (10, [.ref 9, .ref 11, .ref 12, .ref 13, .ref 14, .ref 15, .ref 19, .ref 24, .ref 27, .null, .int 0]))) 31 (.inr (4, [.null]))) 31 oFil) 8 (.inr (10, [.ref 9, .ref 11, .ref 12, .ref 13, .ref 14, .ref 15, .ref 19, .ref 24, .ref 27, .ref 31, .int 0])), ?_, ⟨fun _ => 0, fun _ => 0, fun _ => 0, ?_⟩, ?_, fun i hi => ?_⟩
  · refine AMet.intro (by decide) (by omega) (by decide) (Nat.le_of_ble_eq_true rfl) rfl ?_
    refine a_aload_n d_Dot_init_0 rfl ?_
    refine a_obj d_Dot_init_1 l_Dot_1 w_oi1 w_oi2 (Nat.le_of_ble_eq_true rfl) (Nat.le_of_ble_eq_true rfl) ?_
    refine a_aload_n d_Dot_init_4 rfl ?_
    refine a_new (fs := [.null, .int 0]) d_Dot_init_5 ci_Tap c_Dot_7 n_Tap z_Tap (fun i hi => (by rcases (show i = 0 ∨ i = 1 by omega) with rfl | rfl <;> rfl)) (by show _ ≤ 9 + (32 - 9); omega) (by show _ ≤ z + (z + 2963 - z); omega) ?_
    refine a_dup d_Dot_init_8 rfl ?_
    refine a_ci d_Dot_init_9 m_Tap_init t_Tap_init l_Dot_9 M1 rfl rfl ⟨Nat.le_of_ble_eq_true rfl, Nat.le_of_ble_eq_true rfl⟩ (Nat.le_of_ble_eq_true rfl) (by show _ ≤ 9 + (32 - 9); omega) (by show _ ≤ z + (z + 2963 - z); omega) ?_
    refine a_putF d_Dot_init_12 f_Dot_10 rfl rfl rfl k1 (Nat.le_of_ble_eq_true rfl) rfl rfl ?_
    refine a_aload_n d_Dot_init_15 rfl ?_
    refine a_new (fs := [.int 0, .int 0, .long 0, .int 0]) d_Dot_init_16 ci_Rdg c_Dot_16 n_Rdg z_Rdg (fun i hi => (by rcases (show i = 0 ∨ i = 1 ∨ i = 2 ∨ i = 3 by omega) with rfl | rfl | rfl | rfl <;> rfl)) (by show _ ≤ 9 + (32 - 9); omega) (by show _ ≤ z + (z + 2963 - z); omega) ?_
    refine a_dup d_Dot_init_19 rfl ?_
    refine a_ci d_Dot_init_20 m_Rdg_init t_Rdg_init l_Dot_18 (s_Rdg_init_11 rfl) rfl rfl ⟨Nat.le_of_ble_eq_true rfl, Nat.le_of_ble_eq_true rfl⟩ (Nat.le_of_ble_eq_true rfl) (by show _ ≤ 9 + (32 - 9); omega) (by show _ ≤ z + (z + 2963 - z); omega) ?_
    refine a_putF d_Dot_init_23 f_Dot_19 rfl rfl rfl rfl (Nat.le_of_ble_eq_true rfl) rfl rfl ?_
    refine a_aload_n d_Dot_init_26 rfl ?_
    refine a_new (fs := [.int 0, .int 0, .long 0, .int 0, .int 0]) d_Dot_init_27 ci_Pic c_Dot_23 n_Pic z_Pic (fun i hi => (by rcases (show i = 0 ∨ i = 1 ∨ i = 2 ∨ i = 3 ∨ i = 4 by omega) with rfl | rfl | rfl | rfl | rfl <;> rfl)) (by show _ ≤ 9 + (32 - 9); omega) (by show _ ≤ z + (z + 2963 - z); omega) ?_
    refine a_dup d_Dot_init_30 rfl ?_
    refine a_ci d_Dot_init_31 m_Pic_init t_Pic_init l_Dot_25 (s_Pic_init_12 rfl) rfl rfl ⟨Nat.le_of_ble_eq_true rfl, Nat.le_of_ble_eq_true rfl⟩ (Nat.le_of_ble_eq_true rfl) (by show _ ≤ 9 + (32 - 9); omega) (by show _ ≤ z + (z + 2963 - z); omega) ?_
    refine a_putF d_Dot_init_34 f_Dot_26 rfl rfl rfl rfl (Nat.le_of_ble_eq_true rfl) rfl rfl ?_
    refine a_aload_n d_Dot_init_37 rfl ?_
    refine a_new (fs := [.int 0, .int 0, .long 0, .int 0, .int 0]) d_Dot_init_38 ci_Pic c_Dot_23 n_Pic z_Pic (fun i hi => (by rcases (show i = 0 ∨ i = 1 ∨ i = 2 ∨ i = 3 ∨ i = 4 by omega) with rfl | rfl | rfl | rfl | rfl <;> rfl)) (by show _ ≤ 9 + (32 - 9); omega) (by show _ ≤ z + (z + 2963 - z); omega) ?_
    refine a_dup d_Dot_init_41 rfl ?_
    refine a_ci d_Dot_init_42 m_Pic_init t_Pic_init l_Dot_25 (s_Pic_init_13 rfl) rfl rfl ⟨Nat.le_of_ble_eq_true rfl, Nat.le_of_ble_eq_true rfl⟩ (Nat.le_of_ble_eq_true rfl) (by show _ ≤ 9 + (32 - 9); omega) (by show _ ≤ z + (z + 2963 - z); omega) ?_
    refine a_putF d_Dot_init_45 f_Dot_30 rfl rfl rfl rfl (Nat.le_of_ble_eq_true rfl) rfl rfl ?_
    refine a_aload_n d_Dot_init_48 rfl ?_
    refine a_new (fs := [.int 0, .int 0, .long 0, .int 0, .int 0]) d_Dot_init_49 ci_Pic c_Dot_23 n_Pic z_Pic (fun i hi => (by rcases (show i = 0 ∨ i = 1 ∨ i = 2 ∨ i = 3 ∨ i = 4 by omega) with rfl | rfl | rfl | rfl | rfl <;> rfl)) (by show _ ≤ 9 + (32 - 9); omega) (by show _ ≤ z + (z + 2963 - z); omega) ?_
    refine a_dup d_Dot_init_52 rfl ?_
    refine a_ci d_Dot_init_53 m_Pic_init t_Pic_init l_Dot_25 (s_Pic_init_14 rfl) rfl rfl ⟨Nat.le_of_ble_eq_true rfl, Nat.le_of_ble_eq_true rfl⟩ (Nat.le_of_ble_eq_true rfl) (by show _ ≤ 9 + (32 - 9); omega) (by show _ ≤ z + (z + 2963 - z); omega) ?_
    refine a_putF d_Dot_init_56 f_Dot_33 rfl rfl rfl rfl (Nat.le_of_ble_eq_true rfl) rfl rfl ?_
    refine a_aload_n d_Dot_init_59 rfl ?_
    refine a_new (fs := [.null, .null, .null, .int 0]) d_Dot_init_60 ci_Acts c_Dot_36 n_Acts z_Acts (fun i hi => (by rcases (show i = 0 ∨ i = 1 ∨ i = 2 ∨ i = 3 by omega) with rfl | rfl | rfl | rfl <;> rfl)) (by show _ ≤ 9 + (32 - 9); omega) (by show _ ≤ z + (z + 2963 - z); omega) ?_
    refine a_dup d_Dot_init_63 rfl ?_
    refine a_ci d_Dot_init_64 m_Acts_init t_Acts_init l_Dot_38 M2 rfl rfl ⟨Nat.le_of_ble_eq_true rfl, Nat.le_of_ble_eq_true rfl⟩ (Nat.le_of_ble_eq_true rfl) (by show _ ≤ 9 + (32 - 9); omega) (by show _ ≤ z + (z + 2963 - z); omega) ?_
    refine a_putF d_Dot_init_67 f_Dot_39 rfl rfl rfl k2 (Nat.le_of_ble_eq_true rfl) rfl rfl ?_
    refine a_new (fs := [.null, .null, .null, .null, .int 0, .long 0, .int 0, .int 0]) d_Dot_init_70 ci_Brs c_Dot_43 n_Brs z_Brs (fun i hi => (by rcases (show i = 0 ∨ i = 1 ∨ i = 2 ∨ i = 3 ∨ i = 4 ∨ i = 5 ∨ i = 6 ∨ i = 7 by omega) with rfl | rfl | rfl | rfl | rfl | rfl | rfl | rfl <;> rfl)) (by show _ ≤ 9 + (32 - 9); omega) (by show _ ≤ z + (z + 2963 - z); omega) ?_
    refine a_dup d_Dot_init_73 rfl ?_
    refine a_ci d_Dot_init_74 m_Brs_init t_Brs_init l_Dot_45 M3 rfl rfl ⟨Nat.le_of_ble_eq_true rfl, Nat.le_of_ble_eq_true rfl⟩ (Nat.le_of_ble_eq_true rfl) (by show _ ≤ 9 + (32 - 9); omega) (by show _ ≤ z + (z + 2963 - z); omega) ?_
    refine a_astore_n d_Dot_init_77 (Nat.le_of_ble_eq_true rfl) (Nat.le_of_ble_eq_true rfl) rfl ?_
    refine a_new (fs := [.null, .null, .null]) d_Dot_init_78 ci_Str c_Dot_46 n_Str z_Str (fun i hi => (by rcases (show i = 0 ∨ i = 1 ∨ i = 2 by omega) with rfl | rfl | rfl <;> rfl)) (by show _ ≤ 9 + (32 - 9); omega) (by show _ ≤ z + (z + 2963 - z); omega) ?_
    refine a_dup d_Dot_init_81 rfl ?_
    refine a_aload_n d_Dot_init_82 rfl ?_
    refine a_ci d_Dot_init_83 m_Str_init t_Str_init l_Dot_48 M4 rfl rfl ⟨Nat.le_of_ble_eq_true rfl, Nat.le_of_ble_eq_true rfl⟩ (Nat.le_of_ble_eq_true rfl) (by show _ ≤ 9 + (32 - 9); omega) (by show _ ≤ z + (z + 2963 - z); omega) ?_
    refine a_astore_n d_Dot_init_86 (Nat.le_of_ble_eq_true rfl) (Nat.le_of_ble_eq_true rfl) rfl ?_
    refine a_new (fs := [.null, .null, .null, .null, .null]) d_Dot_init_87 ci_Pol c_Dot_51 n_Pol z_Pol (fun i hi => (by rcases (show i = 0 ∨ i = 1 ∨ i = 2 ∨ i = 3 ∨ i = 4 by omega) with rfl | rfl | rfl | rfl | rfl <;> rfl)) (by show _ ≤ 9 + (32 - 9); omega) (by show _ ≤ z + (z + 2963 - z); omega) ?_
    refine a_dup d_Dot_init_90 rfl ?_
    refine a_aload_n d_Dot_init_91 rfl ?_
    refine a_aload_n d_Dot_init_92 rfl ?_
    refine a_ci d_Dot_init_93 m_Pol_init t_Pol_init l_Dot_53 M5 rfl rfl ⟨Nat.le_of_ble_eq_true rfl, Nat.le_of_ble_eq_true rfl⟩ (Nat.le_of_ble_eq_true rfl) (by show _ ≤ 9 + (32 - 9); omega) (by show _ ≤ z + (z + 2963 - z); omega) ?_
    refine a_astore_n d_Dot_init_96 (Nat.le_of_ble_eq_true rfl) (Nat.le_of_ble_eq_true rfl) rfl ?_
    refine a_aload_n d_Dot_init_97 rfl ?_
    refine a_aload_n d_Dot_init_98 rfl ?_
    refine a_putF d_Dot_init_99 f_Dot_56 rfl rfl rfl k5 (Nat.le_of_ble_eq_true rfl) rfl rfl ?_
    refine a_aload_n d_Dot_init_102 rfl ?_
    refine a_aload_n d_Dot_init_103 rfl ?_
    refine a_putF d_Dot_init_104 f_Dot_60 rfl rfl rfl rfl (Nat.le_of_ble_eq_true rfl) rfl rfl ?_
    refine a_aload_n d_Dot_init_107 rfl ?_
    refine a_aload_n d_Dot_init_108 rfl ?_
    refine a_putF d_Dot_init_109 f_Dot_64 rfl rfl rfl rfl (Nat.le_of_ble_eq_true rfl) rfl rfl ?_
    refine a_aload_n d_Dot_init_112 rfl ?_
    refine a_new (fs := [.null]) d_Dot_init_113 ci_Fil c_Dot_68 n_Fil z_Fil (fun i hi => (by rcases (show i = 0 by omega) with rfl <;> rfl)) (by show _ ≤ 9 + (32 - 9); omega) (by show _ ≤ z + (z + 2963 - z); omega) ?_
    refine a_dup d_Dot_init_116 rfl ?_
    refine a_aload_n d_Dot_init_117 rfl ?_
    refine a_ci d_Dot_init_118 m_Fil_init t_Fil_init l_Dot_70 (s_Fil_init rfl) rfl rfl ⟨Nat.le_of_ble_eq_true rfl, Nat.le_of_ble_eq_true rfl⟩ (Nat.le_of_ble_eq_true rfl) (by show _ ≤ 9 + (32 - 9); omega) (by show _ ≤ z + (z + 2963 - z); omega) ?_
    refine a_putF d_Dot_init_121 f_Dot_73 rfl rfl rfl rfl (Nat.le_of_ble_eq_true rfl) rfl rfl ?_
    exact a_vret d_Dot_init_124 rfl rfl rfl rfl
  · have w2 : ∀ i, i < 15 → i ≠ 8 → T5 i = (hu (hu (hu (hu (hu (hu (hu (hu (hu (hu T1 8 (.inr (10, [.ref 9, .null, .null, .null, .null, .null, .null, .null, .null, .null, .int 0]))) 11 (oRdg 0 0 0 0)) 8 (.inr (10, [.ref 9, .ref 11, .null, .null, .null, .null, .null, .null, .null, .null, .int 0]))) 12 (oPic 0 0 0 0 0)) 8 (.inr (10, [.ref 9, .ref 11, .ref 12, .null, .null, .null, .null, .null, .null, .null, .int 0]))) 13 (oPic 0 0 0 0 0)) 8 (.inr (10, [.ref 9, .ref 11, .ref 12, .ref 13, .null, .null, .null, .null, .null, .null, .int 0]))) 14 (oPic 0 0 0 0 0)) 8 (.inr (10, [.ref 9, .ref 11, .ref 12, .ref 13, .ref 14, .null, .null, .null, .null, .null, .int 0]))) 15 (.inr (0, [.null, .null, .null, .int 0]))) i := fun i q1 q2 => by rw [b5 _ (by omega), hu_n q2, f2 _ (by omega) (by omega) (by omega) (by omega)]
    refine ⟨rfl, ?_, ?_, ?_, ?_, ?_, ?_, ?_, ?_, ?_, ?_⟩
    · exact (w2 9 (by decide) (by decide)).trans e9
    · exact (w2 10 (by decide) (by decide)).trans e10
    · exact ⟨0, 0, 0, 0, w2 11 (by decide) (by decide)⟩
    · exact w2 12 (by decide) (by decide)
    · exact w2 13 (by decide) (by decide)
    · exact w2 14 (by decide) (by decide)
    · exact (b5 15 (by decide)).trans e15
    · exact (b5 16 (by decide)).trans e16
    · exact (b5 17 (by decide)).trans e17
    · exact (b5 18 (by decide)).trans e18
  · have w3 : ∀ i, 19 ≤ i → i < 24 → T5 i = T3 i := fun i q1 q2 => by rw [f5 _ (by omega) (by omega) (by omega) (by omega), hu_n (by omega), f4 _ (by omega) (by omega) (by omega), hu_n (by omega)]
    have w4 : ∀ i, 24 ≤ i → i < 27 → T5 i = T4 i := fun i q1 q2 => by rw [f5 _ (by omega) (by omega) (by omega) (by omega), hu_n (by omega)]
    exact ⟨(w3 19 (by decide) (by decide)).trans e19, (w3 20 (by decide) (by decide)).trans e20, (w3 21 (by decide) (by decide)).trans e21, (w3 22 (by decide) (by decide)).trans e22, (w3 23 (by decide) (by decide)).trans e23, (w4 24 (by decide) (by decide)).trans e24, (w4 25 (by decide) (by decide)).trans e25, (w4 26 (by decide) (by decide)).trans e26, e27, e28, e29, e30, rfl⟩
  · rw [hu_n (by omega), hu_n (by omega), hu_n (by omega), hu_n (by omega), hu_n (by omega), hu_n (by omega), b5 _ (by omega), hu_n (by omega), f2 _ (by omega) (by omega) (by omega) (by omega)]
    rw [hu_n (by omega), hu_n (by omega), hu_n (by omega), hu_n (by omega), hu_n (by omega), hu_n (by omega), hu_n (by omega), hu_n (by omega), hu_n (by omega), hu_n (by omega), f1 _ (by omega) (by omega), hu_n (by omega)]
end
