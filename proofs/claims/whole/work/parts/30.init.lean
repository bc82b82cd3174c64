/-! THE CONSTRUCTORS: printed by wip/whole/t30.py -/
section
variable {V : VV} {h : AH} {z : Nat}
set_option maxRecDepth 20000 in
set_option maxHeartbeats 4000000 in
theorem s_Rdg_init_11 {n : Nat} {c : AC} (gb : h 11 = c) : AMet V i_Rdg_init 1 [.ref 11] h n z none h n z := by
  refine AMet.intro (Nat.le_refl _) (Nat.le_refl _) (by decide) (Nat.le_of_ble_eq_true rfl) rfl ?_
  refine a_aload_n d_Rdg_init_0 rfl ?_
  refine a_obj d_Rdg_init_1 l_Rdg_1 w_oi1 w_oi2 (Nat.le_of_ble_eq_true rfl) (Nat.le_of_ble_eq_true rfl) ?_
  exact a_vret d_Rdg_init_4 rfl rfl rfl rfl
set_option maxRecDepth 20000 in
set_option maxHeartbeats 4000000 in
theorem s_Bend_init_28 {n : Nat} {c : AC} (gb : h 28 = c) : AMet V i_Bend_init 1 [.ref 28] h n z none h n z := by
  refine AMet.intro (Nat.le_refl _) (Nat.le_refl _) (by decide) (Nat.le_of_ble_eq_true rfl) rfl ?_
  refine a_aload_n d_Bend_init_0 rfl ?_
  refine a_obj d_Bend_init_1 l_Bend_1 w_oi1 w_oi2 (Nat.le_of_ble_eq_true rfl) (Nat.le_of_ble_eq_true rfl) ?_
  exact a_vret d_Bend_init_4 rfl rfl rfl rfl
set_option maxRecDepth 20000 in
set_option maxHeartbeats 4000000 in
theorem s_Pic_init_12 {n : Nat} {c : AC} (gb : h 12 = c) : AMet V i_Pic_init 1 [.ref 12] h n z none h n z := by
  refine AMet.intro (Nat.le_refl _) (Nat.le_refl _) (by decide) (Nat.le_of_ble_eq_true rfl) rfl ?_
  refine a_aload_n d_Pic_init_0 rfl ?_
  refine a_obj d_Pic_init_1 l_Pic_1 w_oi1 w_oi2 (Nat.le_of_ble_eq_true rfl) (Nat.le_of_ble_eq_true rfl) ?_
  exact a_vret d_Pic_init_4 rfl rfl rfl rfl
set_option maxRecDepth 20000 in
set_option maxHeartbeats 4000000 in
theorem s_Pic_init_13 {n : Nat} {c : AC} (gb : h 13 = c) : AMet V i_Pic_init 1 [.ref 13] h n z none h n z := by
  refine AMet.intro (Nat.le_refl _) (Nat.le_refl _) (by decide) (Nat.le_of_ble_eq_true rfl) rfl ?_
  refine a_aload_n d_Pic_init_0 rfl ?_
  refine a_obj d_Pic_init_1 l_Pic_1 w_oi1 w_oi2 (Nat.le_of_ble_eq_true rfl) (Nat.le_of_ble_eq_true rfl) ?_
  exact a_vret d_Pic_init_4 rfl rfl rfl rfl
set_option maxRecDepth 20000 in
set_option maxHeartbeats 4000000 in
theorem s_Pic_init_14 {n : Nat} {c : AC} (gb : h 14 = c) : AMet V i_Pic_init 1 [.ref 14] h n z none h n z := by
  refine AMet.intro (Nat.le_refl _) (Nat.le_refl _) (by decide) (Nat.le_of_ble_eq_true rfl) rfl ?_
  refine a_aload_n d_Pic_init_0 rfl ?_
  refine a_obj d_Pic_init_1 l_Pic_1 w_oi1 w_oi2 (Nat.le_of_ble_eq_true rfl) (Nat.le_of_ble_eq_true rfl) ?_
  exact a_vret d_Pic_init_4 rfl rfl rfl rfl
set_option maxRecDepth 20000 in
set_option maxHeartbeats 4000000 in
theorem s_Tap_init (g9 : h 9 = .inr (9, [.null, .int 0])) : ∃ h1, AMet V i_Tap_init 1 [.ref 9] h 10 z none h1 11 (z + 90) ∧ h1 9 = oTap 0 ∧ h1 10 = aI 90 (fun _ => 0) ∧ ∀ i, i ≠ 9 → i ≠ 10 → h1 i = h i := by
  refine ⟨hu (hu (h) 10 (aI 90 (fun _ => 0))) 9 (.inr (9, [.ref 10, .int 0])), ?_, ?_⟩
  · refine AMet.intro (by decide) (by omega) (by decide) (Nat.le_of_ble_eq_true rfl) rfl ?_
    refine a_aload_n d_Tap_init_0 rfl ?_
    refine a_obj d_Tap_init_1 l_Tap_1 w_oi1 w_oi2 (Nat.le_of_ble_eq_true rfl) (Nat.le_of_ble_eq_true rfl) ?_
    refine a_aload_n d_Tap_init_4 rfl ?_
    refine a_bipush (v := 90) d_Tap_init_5 (by decide) ?_
    refine a_newI (N := 90) d_Tap_init_7 (by decide) (by decide) (by decide) (by show _ ≤ 10 + (11 - 10); omega) (by show _ ≤ z + (z + 90 - z); omega) w_arrI ?_
    refine a_putF d_Tap_init_9 f_Tap_9 rfl rfl rfl g9 (Nat.le_of_ble_eq_true rfl) rfl rfl ?_
    exact a_vret d_Tap_init_12 rfl rfl rfl rfl
  · refine ⟨rfl, rfl, fun i q0 q1 => ?_⟩
    simp [hu, q0, q1]
set_option maxRecDepth 20000 in
set_option maxHeartbeats 4000000 in
theorem s_Acts_init (g15 : h 15 = .inr (0, [.null, .null, .null, .int 0])) : ∃ h1, AMet V i_Acts_init 1 [.ref 15] h 16 z none h1 19 (z + 24) ∧ h1 15 = oAct 0 ∧ h1 16 = aL 8 (fun _ => 0) ∧ h1 17 = aI 8 (fun _ => 0) ∧ h1 18 = aI 8 (fun _ => 0) ∧ ∀ i, i ≠ 15 → i ≠ 16 → i ≠ 17 → i ≠ 18 → h1 i = h i := by
  refine ⟨hu (hu (hu (hu (hu (hu (h) 16 (aL 8 (fun _ => 0))) 15 (.inr (0, [.ref 16, .null, .null, .int 0]))) 17 (aI 8 (fun _ => 0))) 15 (.inr (0, [.ref 16, .ref 17, .null, .int 0]))) 18 (aI 8 (fun _ => 0))) 15 (.inr (0, [.ref 16, .ref 17, .ref 18, .int 0])), ?_, ?_⟩
  · refine AMet.intro (by decide) (by omega) (by decide) (Nat.le_of_ble_eq_true rfl) rfl ?_
    refine a_aload_n d_Acts_init_0 rfl ?_
    refine a_obj d_Acts_init_1 l_Acts_1 w_oi1 w_oi2 (Nat.le_of_ble_eq_true rfl) (Nat.le_of_ble_eq_true rfl) ?_
    refine a_aload_n d_Acts_init_4 rfl ?_
    refine a_bipush (v := 8) d_Acts_init_5 (by decide) ?_
    refine a_newL (N := 8) d_Acts_init_7 (by decide) (by decide) (by decide) (by show _ ≤ 16 + (19 - 16); omega) (by show _ ≤ z + (z + 24 - z); omega) w_arrL ?_
    refine a_putF d_Acts_init_9 f_Acts_9 rfl rfl rfl g15 (Nat.le_of_ble_eq_true rfl) rfl rfl ?_
    refine a_aload_n d_Acts_init_12 rfl ?_
    refine a_bipush (v := 8) d_Acts_init_13 (by decide) ?_
    refine a_newI (N := 8) d_Acts_init_15 (by decide) (by decide) (by decide) (by show _ ≤ 16 + (19 - 16); omega) (by show _ ≤ z + (z + 24 - z); omega) w_arrI ?_
    refine a_putF d_Acts_init_17 f_Acts_13 rfl rfl rfl rfl (Nat.le_of_ble_eq_true rfl) rfl rfl ?_
    refine a_aload_n d_Acts_init_20 rfl ?_
    refine a_bipush (v := 8) d_Acts_init_21 (by decide) ?_
    refine a_newI (N := 8) d_Acts_init_23 (by decide) (by decide) (by decide) (by show _ ≤ 16 + (19 - 16); omega) (by show _ ≤ z + (z + 24 - z); omega) w_arrI ?_
    refine a_putF d_Acts_init_25 f_Acts_17 rfl rfl rfl rfl (Nat.le_of_ble_eq_true rfl) rfl rfl ?_
    exact a_vret d_Acts_init_28 rfl rfl rfl rfl
  · refine ⟨rfl, rfl, rfl, rfl, fun i q0 q1 q2 q3 => ?_⟩
    simp [hu, q0, q1, q2, q3]
set_option maxRecDepth 20000 in
set_option maxHeartbeats 4000000 in
theorem s_Brs_init (g19 : h 19 = .inr (3, [.null, .null, .null, .null, .int 0, .long 0, .int 0, .int 0])) : ∃ h1, AMet V i_Brs_init 1 [.ref 19] h 20 z none h1 24 (z + 496) ∧ h1 19 = oBrs 0 0 0 0 ∧ h1 20 = aI 144 (fun _ => 0) ∧ h1 21 = aI 144 (fun _ => 0) ∧ h1 22 = aI 144 (fun _ => 0) ∧ h1 23 = aQ 64 (fun _ => none) ∧ ∀ i, i ≠ 19 → i ≠ 20 → i ≠ 21 → i ≠ 22 → i ≠ 23 → h1 i = h i := by
  refine ⟨hu (hu (hu (hu (hu (hu (hu (hu (h) 20 (aI 144 (fun _ => 0))) 19 (.inr (3, [.ref 20, .null, .null, .null, .int 0, .long 0, .int 0, .int 0]))) 21 (aI 144 (fun _ => 0))) 19 (.inr (3, [.ref 20, .ref 21, .null, .null, .int 0, .long 0, .int 0, .int 0]))) 22 (aI 144 (fun _ => 0))) 19 (.inr (3, [.ref 20, .ref 21, .ref 22, .null, .int 0, .long 0, .int 0, .int 0]))) 23 (aQ 64 (fun _ => none))) 19 (.inr (3, [.ref 20, .ref 21, .ref 22, .ref 23, .int 0, .long 0, .int 0, .int 0])), ?_, ?_⟩
  · refine AMet.intro (by decide) (by omega) (by decide) (Nat.le_of_ble_eq_true rfl) rfl ?_
    refine a_aload_n d_Brs_init_0 rfl ?_
    refine a_obj d_Brs_init_1 l_Brs_1 w_oi1 w_oi2 (Nat.le_of_ble_eq_true rfl) (Nat.le_of_ble_eq_true rfl) ?_
    refine a_aload_n d_Brs_init_4 rfl ?_
    refine a_sipush (v := 144) d_Brs_init_5 (by decide) ?_
    refine a_newI (N := 144) d_Brs_init_8 (by decide) (by decide) (by decide) (by show _ ≤ 20 + (24 - 20); omega) (by show _ ≤ z + (z + 496 - z); omega) w_arrI ?_
    refine a_putF d_Brs_init_10 f_Brs_9 rfl rfl rfl g19 (Nat.le_of_ble_eq_true rfl) rfl rfl ?_
    refine a_aload_n d_Brs_init_13 rfl ?_
    refine a_sipush (v := 144) d_Brs_init_14 (by decide) ?_
    refine a_newI (N := 144) d_Brs_init_17 (by decide) (by decide) (by decide) (by show _ ≤ 20 + (24 - 20); omega) (by show _ ≤ z + (z + 496 - z); omega) w_arrI ?_
    refine a_putF d_Brs_init_19 f_Brs_13 rfl rfl rfl rfl (Nat.le_of_ble_eq_true rfl) rfl rfl ?_
    refine a_aload_n d_Brs_init_22 rfl ?_
    refine a_sipush (v := 144) d_Brs_init_23 (by decide) ?_
    refine a_newI (N := 144) d_Brs_init_26 (by decide) (by decide) (by decide) (by show _ ≤ 20 + (24 - 20); omega) (by show _ ≤ z + (z + 496 - z); omega) w_arrI ?_
    refine a_putF d_Brs_init_28 f_Brs_16 rfl rfl rfl rfl (Nat.le_of_ble_eq_true rfl) rfl rfl ?_
    refine a_aload_n d_Brs_init_31 rfl ?_
    refine a_bipush (v := 64) d_Brs_init_32 (by decide) ?_
    refine a_newQ (N := 64) d_Brs_init_34 (by decide) (by decide) (by decide) (by show _ ≤ 20 + (24 - 20); omega) (by show _ ≤ z + (z + 496 - z); omega) c_Brs_21 ?_
    refine a_putF d_Brs_init_37 f_Brs_23 rfl rfl rfl rfl (Nat.le_of_ble_eq_true rfl) rfl rfl ?_
    exact a_vret d_Brs_init_40 rfl rfl rfl rfl
  · refine ⟨rfl, rfl, rfl, rfl, rfl, fun i q0 q1 q2 q3 q4 => ?_⟩
    simp [hu, q0, q1, q2, q3, q4]
set_option maxRecDepth 20000 in
set_option maxHeartbeats 4000000 in
theorem s_Str_init (g24 : h 24 = .inr (8, [.null, .null, .null])) : ∃ h1, AMet V i_Str_init 1 [.ref 24, .ref 19] h 25 z none h1 27 (z + 2016) ∧ h1 24 = oStr ∧ h1 25 = aI 1872 (fun _ => 0) ∧ h1 26 = aI 144 (fun _ => 0) ∧ ∀ i, i ≠ 24 → i ≠ 25 → i ≠ 26 → h1 i = h i := by
  refine ⟨hu (hu (hu (hu (hu (h) 25 (aI 1872 (fun _ => 0))) 24 (.inr (8, [.null, .ref 25, .null]))) 26 (aI 144 (fun _ => 0))) 24 (.inr (8, [.null, .ref 25, .ref 26]))) 24 (.inr (8, [.ref 19, .ref 25, .ref 26])), ?_, ?_⟩
  · refine AMet.intro (by decide) (by omega) (by decide) (Nat.le_of_ble_eq_true rfl) rfl ?_
    refine a_aload_n d_Str_init_0 rfl ?_
    refine a_obj d_Str_init_1 l_Str_3 w_oi1 w_oi2 (Nat.le_of_ble_eq_true rfl) (Nat.le_of_ble_eq_true rfl) ?_
    refine a_aload_n d_Str_init_4 rfl ?_
    refine a_sipush (v := 1872) d_Str_init_5 (by decide) ?_
    refine a_newI (N := 1872) d_Str_init_8 (by decide) (by decide) (by decide) (by show _ ≤ 25 + (27 - 25); omega) (by show _ ≤ z + (z + 2016 - z); omega) w_arrI ?_
    refine a_putF d_Str_init_10 f_Str_11 rfl rfl rfl g24 (Nat.le_of_ble_eq_true rfl) rfl rfl ?_
    refine a_aload_n d_Str_init_13 rfl ?_
    refine a_sipush (v := 144) d_Str_init_14 (by decide) ?_
    refine a_newI (N := 144) d_Str_init_17 (by decide) (by decide) (by decide) (by show _ ≤ 25 + (27 - 25); omega) (by show _ ≤ z + (z + 2016 - z); omega) w_arrI ?_
    refine a_putF d_Str_init_19 f_Str_15 rfl rfl rfl rfl (Nat.le_of_ble_eq_true rfl) rfl rfl ?_
    refine a_aload_n d_Str_init_22 rfl ?_
    refine a_aload_n d_Str_init_23 rfl ?_
    refine a_putF d_Str_init_24 f_Str_18 rfl rfl rfl rfl (Nat.le_of_ble_eq_true rfl) rfl rfl ?_
    exact a_vret d_Str_init_27 rfl rfl rfl rfl
  · refine ⟨rfl, rfl, rfl, fun i q0 q1 q2 => ?_⟩
    simp [hu, q0, q1, q2]
end
