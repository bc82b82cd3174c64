/-! THE MODEL, its constructor: printed by wip/whole/t46.py -/
section
variable {V : VV} {h : AH} {z : Nat}
set_option maxRecDepth 20000 in
set_option maxHeartbeats 4000000 in
theorem s_Mod_init (g32 : h 32 = .inr (11, [.null, .null, .int 0, .null, .null, .null, .int 0, .int 0, .null, .int 0, .int 0, .int 0, .null, .null, .null, .null, .null, .null, .null, .null, .long 0, .int 0, .null, .null, .int 0, .int 0, .null, .null, .null, .null, .int 0])) : ∃ h1, AMet V i_Mod_init 1 [.ref 32] h 33 z none h1 53 (z + 23988) ∧ h1 32 = oMod 0 0 0 0 0 0 0 0 0 0 0 ∧ h1 33 = aI 68 (fun _ => 0) ∧ h1 34 = aI 544 (fun _ => 0) ∧ h1 35 = aI 136 (fun _ => 0) ∧ h1 36 = aI 2 (fun _ => 0) ∧ h1 37 = aI 90 (fun _ => 0) ∧ h1 38 = aI 68 (fun _ => 0) ∧ h1 39 = aI 40 (fun _ => 0) ∧ h1 40 = aI 40 (fun _ => 0) ∧ h1 41 = aI 40 (fun _ => 0) ∧ h1 42 = aI 40 (fun _ => 0) ∧ h1 43 = aL 40 (fun _ => 0) ∧ h1 44 = aI 160 (fun _ => 0) ∧ h1 45 = aI 160 (fun _ => 0) ∧ h1 46 = aI 160 (fun _ => 0) ∧ h1 47 = aI 20736 (fun _ => 0) ∧ h1 48 = aI 160 (fun _ => 0) ∧ h1 49 = aI 144 (fun _ => 0) ∧ h1 50 = aI 160 (fun _ => 0) ∧ h1 51 = aI 600 (fun _ => 0) ∧ h1 52 = aI 600 (fun _ => 0) ∧ ∀ i, i ≠ 32 → i ≠ 33 → i ≠ 34 → i ≠ 35 → i ≠ 36 → i ≠ 37 → i ≠ 38 → i ≠ 39 → i ≠ 40 → i ≠ 41 → i ≠ 42 → i ≠ 43 → i ≠ 44 → i ≠ 45 → i ≠ 46 → i ≠ 47 → i ≠ 48 → i ≠ 49 → i ≠ 50 → i ≠ 51 → i ≠ 52 → h1 i = h i := by
  refine ⟨hu (hu (hu (hu (hu (hu (hu (hu (hu (hu (hu (hu (hu (hu (hu (hu (hu (hu (hu (hu (hu (hu (hu (hu (hu (hu (hu (hu (hu (hu (hu (hu (hu (hu (hu (hu (hu (hu (hu (hu (h) 33 (aI 68 (fun _ => 0))) 32 (.inr (11, [.ref 33, .null, .int 0, .null, .null, .null, .int 0, .int 0, .null, .int 0, .int 0, .int 0, .null, .null, .null, .null, .null, .null, .null, .null, .long 0, .int 0, .null, .null, .int 0, .int 0, .null, .null, .null, .null, .int 0]))) 34 (aI 544 (fun _ => 0))) 32 (.inr (11, [.ref 33, .ref 34, .int 0, .null, .null, .null, .int 0, .int 0, .null, .int 0, .int 0, .int 0, .null, .null, .null, .null, .null, .null, .null, .null, .long 0, .int 0, .null, .null, .int 0, .int 0, .null, .null, .null, .null, .int 0]))) 35 (aI 136 (fun _ => 0))) 32 (.inr (11, [.ref 33, .ref 34, .int 0, .ref 35, .null, .null, .int 0, .int 0, .null, .int 0, .int 0, .int 0, .null, .null, .null, .null, .null, .null, .null, .null, .long 0, .int 0, .null, .null, .int 0, .int 0, .null, .null, .null, .null, .int 0]))) 36 (aI 2 (fun _ => 0))) 32 (.inr (11, [.ref 33, .ref 34, .int 0, .ref 35, .ref 36, .null, .int 0, .int 0, .null, .int 0, .int 0, .int 0, .null, .null, .null, .null, .null, .null, .null, .null, .long 0, .int 0, .null, .null, .int 0, .int 0, .null, .null, .null, .null, .int 0]))) 37 (aI 90 (fun _ => 0))) 32 (.inr (11, [.ref 33, .ref 34, .int 0, .ref 35, .ref 36, .ref 37, .int 0, .int 0, .null, .int 0, .int 0, .int 0, .null, .null, .null, .null, .null, .null, .null, .null, .long 0, .int 0, .null, .null, .int 0, .int 0, .null, .null, .null, .null, .int 0]))) 38 (aI 68 (fun _ => 0))) 32 (.inr (11, [.ref 33, .ref 34, .int 0, .ref 35, .ref 36, .ref 37, .int 0, .int 0, .ref 38, .int 0, .int 0, .int 0, .null, .null, .null, .null, .null, .null, .null, .null, .long 0, .int 0, .null, .null, .int 0, .int 0, .null, .null, .null, .null, .int 0]))) 39 (aI 40 (fun _ => 0))) 32 (.inr (11, [.ref 33, .ref 34, .int 0, .ref 35, .ref 36, .ref 37, .int 0, .int 0, .ref 38, .int 0, .int 0, .int 0, .ref 39, .null, .null, .null, .null, .null, .null, .null, .long 0, .int 0, .null, .null, .int 0, .int 0, .null, .null, .null, .null, .int 0]))) 40 (aI 40 (fun _ => 0))) 32 (.inr (11, [.ref 33, .ref 34, .int 0, .ref 35, .ref 36, .ref 37, .int 0, .int 0, .ref 38, .int 0, .int 0, .int 0, .ref 39, .ref 40, .null, .null, .null, .null, .null, .null, .long 0, .int 0, .null, .null, .int 0, .int 0, .null, .null, .null, .null, .int 0]))) 41 (aI 40 (fun _ => 0))) 32 (.inr (11, [.ref 33, .ref 34, .int 0, .ref 35, .ref 36, .ref 37, .int 0, .int 0, .ref 38, .int 0, .int 0, .int 0, .ref 39, .ref 40, .ref 41, .null, .null, .null, .null, .null, .long 0, .int 0, .null, .null, .int 0, .int 0, .null, .null, .null, .null, .int 0]))) 42 (aI 40 (fun _ => 0))) 32 (.inr (11, [.ref 33, .ref 34, .int 0, .ref 35, .ref 36, .ref 37, .int 0, .int 0, .ref 38, .int 0, .int 0, .int 0, .ref 39, .ref 40, .ref 41, .ref 42, .null, .null, .null, .null, .long 0, .int 0, .null, .null, .int 0, .int 0, .null, .null, .null, .null, .int 0]))) 43 (aL 40 (fun _ => 0))) 32 (.inr (11, [.ref 33, .ref 34, .int 0, .ref 35, .ref 36, .ref 37, .int 0, .int 0, .ref 38, .int 0, .int 0, .int 0, .ref 39, .ref 40, .ref 41, .ref 42, .ref 43, .null, .null, .null, .long 0, .int 0, .null, .null, .int 0, .int 0, .null, .null, .null, .null, .int 0]))) 44 (aI 160 (fun _ => 0))) 32 (.inr (11, [.ref 33, .ref 34, .int 0, .ref 35, .ref 36, .ref 37, .int 0, .int 0, .ref 38, .int 0, .int 0, .int 0, .ref 39, .ref 40, .ref 41, .ref 42, .ref 43, .ref 44, .null, .null, .long 0, .int 0, .null, .null, .int 0, .int 0, .null, .null, .null, .null, .int 0]))) 45 (aI 160 (fun _ => 0))) 32 (.inr (11, [.ref 33, .ref 34, .int 0, .ref 35, .ref 36, .ref 37, .int 0, .int 0, .ref 38, .int 0, .int 0, .int 0, .ref 39, .ref 40, .ref 41, .ref 42, .ref 43, .ref 44, .ref 45, .null, .long 0, .int 0, .null, .null, .int 0, .int 0, .null, .null, .null, .null, .int 0]))) 46 (aI 160 (fun _ => 0))) 32 (.inr (11, [.ref 33, .ref 34, .int 0, .ref 35, .ref 36, .ref 37, .int 0, .int 0, .ref 38, .int 0, .int 0, .int 0, .ref 39, .ref 40, .ref 41, .ref 42, .ref 43, .ref 44, .ref 45, .ref 46, .long 0, .int 0, .null, .null, .int 0, .int 0, .null, .null, .null, .null, .int 0]))) 47 (aI 20736 (fun _ => 0))) 32 (.inr (11, [.ref 33, .ref 34, .int 0, .ref 35, .ref 36, .ref 37, .int 0, .int 0, .ref 38, .int 0, .int 0, .int 0, .ref 39, .ref 40, .ref 41, .ref 42, .ref 43, .ref 44, .ref 45, .ref 46, .long 0, .int 0, .ref 47, .null, .int 0, .int 0, .null, .null, .null, .null, .int 0]))) 48 (aI 160 (fun _ => 0))) 32 (.inr (11, [.ref 33, .ref 34, .int 0, .ref 35, .ref 36, .ref 37, .int 0, .int 0, .ref 38, .int 0, .int 0, .int 0, .ref 39, .ref 40, .ref 41, .ref 42, .ref 43, .ref 44, .ref 45, .ref 46, .long 0, .int 0, .ref 47, .ref 48, .int 0, .int 0, .null, .null, .null, .null, .int 0]))) 49 (aI 144 (fun _ => 0))) 32 (.inr (11, [.ref 33, .ref 34, .int 0, .ref 35, .ref 36, .ref 37, .int 0, .int 0, .ref 38, .int 0, .int 0, .int 0, .ref 39, .ref 40, .ref 41, .ref 42, .ref 43, .ref 44, .ref 45, .ref 46, .long 0, .int 0, .ref 47, .ref 48, .int 0, .int 0, .ref 49, .null, .null, .null, .int 0]))) 50 (aI 160 (fun _ => 0))) 32 (.inr (11, [.ref 33, .ref 34, .int 0, .ref 35, .ref 36, .ref 37, .int 0, .int 0, .ref 38, .int 0, .int 0, .int 0, .ref 39, .ref 40, .ref 41, .ref 42, .ref 43, .ref 44, .ref 45, .ref 46, .long 0, .int 0, .ref 47, .ref 48, .int 0, .int 0, .ref 49, .ref 50, .null, .null, .int 0]))) 51 (aI 600 (fun _ => 0))) 32 (.inr (11, [.ref 33, .ref 34, .int 0, .ref 35, .ref 36, .ref 37, .int 0, .int 0, .ref 38, .int 0, .int 0, .int 0, .ref 39, .ref 40, .ref 41, .ref 42, .ref 43, .ref 44, .ref 45, .ref 46, .long 0, .int 0, .ref 47, .ref 48, .int 0, .int 0, .ref 49, .ref 50, .ref 51, .null, .int 0]))) 52 (aI 600 (fun _ => 0))) 32 (.inr (11, [.ref 33, .ref 34, .int 0, .ref 35, .ref 36, .ref 37, .int 0, .int 0, .ref 38, .int 0, .int 0, .int 0, .ref 39, .ref 40, .ref 41, .ref 42, .ref 43, .ref 44, .ref 45, .ref 46, .long 0, .int 0, .ref 47, .ref 48, .int 0, .int 0, .ref 49, .ref 50, .ref 51, .ref 52, .int 0])), ?_, ?_⟩
  · refine AMet.intro (by decide) (by omega) (by decide) (Nat.le_of_ble_eq_true rfl) rfl ?_
    refine a_aload_n d_Mod_init_0 rfl ?_
    refine a_obj d_Mod_init_1 l_Mod_1 w_oi1 w_oi2 (Nat.le_of_ble_eq_true rfl) (Nat.le_of_ble_eq_true rfl) ?_
    refine a_aload_n d_Mod_init_4 rfl ?_
    refine a_bipush (v := 68) d_Mod_init_5 (by decide) ?_
    refine a_newI (N := 68) d_Mod_init_7 (by decide) (by decide) (by decide) (by show _ ≤ 33 + (53 - 33); omega) (by show _ ≤ z + (z + 23988 - z); omega) w_arrI ?_
    refine a_putF d_Mod_init_9 f_Mod_7 rfl rfl rfl g32 (Nat.le_of_ble_eq_true rfl) rfl rfl ?_
    refine a_aload_n d_Mod_init_12 rfl ?_
    refine a_sipush (v := 544) d_Mod_init_13 (by decide) ?_
    refine a_newI (N := 544) d_Mod_init_16 (by decide) (by decide) (by decide) (by show _ ≤ 33 + (53 - 33); omega) (by show _ ≤ z + (z + 23988 - z); omega) w_arrI ?_
    refine a_putF d_Mod_init_18 f_Mod_13 rfl rfl rfl rfl (Nat.le_of_ble_eq_true rfl) rfl rfl ?_
    refine a_aload_n d_Mod_init_21 rfl ?_
    refine a_sipush (v := 136) d_Mod_init_22 (by decide) ?_
    refine a_newI (N := 136) d_Mod_init_25 (by decide) (by decide) (by decide) (by show _ ≤ 33 + (53 - 33); omega) (by show _ ≤ z + (z + 23988 - z); omega) w_arrI ?_
    refine a_putF d_Mod_init_27 f_Mod_16 rfl rfl rfl rfl (Nat.le_of_ble_eq_true rfl) rfl rfl ?_
    refine a_aload_n d_Mod_init_30 rfl ?_
    refine a_iconst (v := 2) d_Mod_init_31 (by decide) ?_
    refine a_newI (N := 2) d_Mod_init_32 (by decide) (by decide) (by decide) (by show _ ≤ 33 + (53 - 33); omega) (by show _ ≤ z + (z + 23988 - z); omega) w_arrI ?_
    refine a_putF d_Mod_init_34 f_Mod_19 rfl rfl rfl rfl (Nat.le_of_ble_eq_true rfl) rfl rfl ?_
    refine a_aload_n d_Mod_init_37 rfl ?_
    refine a_bipush (v := 90) d_Mod_init_38 (by decide) ?_
    refine a_newI (N := 90) d_Mod_init_40 (by decide) (by decide) (by decide) (by show _ ≤ 33 + (53 - 33); omega) (by show _ ≤ z + (z + 23988 - z); omega) w_arrI ?_
    refine a_putF d_Mod_init_42 f_Mod_22 rfl rfl rfl rfl (Nat.le_of_ble_eq_true rfl) rfl rfl ?_
    refine a_aload_n d_Mod_init_45 rfl ?_
    refine a_bipush (v := 68) d_Mod_init_46 (by decide) ?_
    refine a_newI (N := 68) d_Mod_init_48 (by decide) (by decide) (by decide) (by show _ ≤ 33 + (53 - 33); omega) (by show _ ≤ z + (z + 23988 - z); omega) w_arrI ?_
    refine a_putF d_Mod_init_50 f_Mod_25 rfl rfl rfl rfl (Nat.le_of_ble_eq_true rfl) rfl rfl ?_
    refine a_aload_n d_Mod_init_53 rfl ?_
    refine a_bipush (v := 40) d_Mod_init_54 (by decide) ?_
    refine a_newI (N := 40) d_Mod_init_56 (by decide) (by decide) (by decide) (by show _ ≤ 33 + (53 - 33); omega) (by show _ ≤ z + (z + 23988 - z); omega) w_arrI ?_
    refine a_putF d_Mod_init_58 f_Mod_28 rfl rfl rfl rfl (Nat.le_of_ble_eq_true rfl) rfl rfl ?_
    refine a_aload_n d_Mod_init_61 rfl ?_
    refine a_bipush (v := 40) d_Mod_init_62 (by decide) ?_
    refine a_newI (N := 40) d_Mod_init_64 (by decide) (by decide) (by decide) (by show _ ≤ 33 + (53 - 33); omega) (by show _ ≤ z + (z + 23988 - z); omega) w_arrI ?_
    refine a_putF d_Mod_init_66 f_Mod_31 rfl rfl rfl rfl (Nat.le_of_ble_eq_true rfl) rfl rfl ?_
    refine a_aload_n d_Mod_init_69 rfl ?_
    refine a_bipush (v := 40) d_Mod_init_70 (by decide) ?_
    refine a_newI (N := 40) d_Mod_init_72 (by decide) (by decide) (by decide) (by show _ ≤ 33 + (53 - 33); omega) (by show _ ≤ z + (z + 23988 - z); omega) w_arrI ?_
    refine a_putF d_Mod_init_74 f_Mod_34 rfl rfl rfl rfl (Nat.le_of_ble_eq_true rfl) rfl rfl ?_
    refine a_aload_n d_Mod_init_77 rfl ?_
    refine a_bipush (v := 40) d_Mod_init_78 (by decide) ?_
    refine a_newI (N := 40) d_Mod_init_80 (by decide) (by decide) (by decide) (by show _ ≤ 33 + (53 - 33); omega) (by show _ ≤ z + (z + 23988 - z); omega) w_arrI ?_
    refine a_putF d_Mod_init_82 f_Mod_37 rfl rfl rfl rfl (Nat.le_of_ble_eq_true rfl) rfl rfl ?_
    refine a_aload_n d_Mod_init_85 rfl ?_
    refine a_bipush (v := 40) d_Mod_init_86 (by decide) ?_
    refine a_newL (N := 40) d_Mod_init_88 (by decide) (by decide) (by decide) (by show _ ≤ 33 + (53 - 33); omega) (by show _ ≤ z + (z + 23988 - z); omega) w_arrL ?_
    refine a_putF d_Mod_init_90 f_Mod_40 rfl rfl rfl rfl (Nat.le_of_ble_eq_true rfl) rfl rfl ?_
    refine a_aload_n d_Mod_init_93 rfl ?_
    refine a_sipush (v := 160) d_Mod_init_94 (by decide) ?_
    refine a_newI (N := 160) d_Mod_init_97 (by decide) (by decide) (by decide) (by show _ ≤ 33 + (53 - 33); omega) (by show _ ≤ z + (z + 23988 - z); omega) w_arrI ?_
    refine a_putF d_Mod_init_99 f_Mod_44 rfl rfl rfl rfl (Nat.le_of_ble_eq_true rfl) rfl rfl ?_
    refine a_aload_n d_Mod_init_102 rfl ?_
    refine a_sipush (v := 160) d_Mod_init_103 (by decide) ?_
    refine a_newI (N := 160) d_Mod_init_106 (by decide) (by decide) (by decide) (by show _ ≤ 33 + (53 - 33); omega) (by show _ ≤ z + (z + 23988 - z); omega) w_arrI ?_
    refine a_putF d_Mod_init_108 f_Mod_47 rfl rfl rfl rfl (Nat.le_of_ble_eq_true rfl) rfl rfl ?_
    refine a_aload_n d_Mod_init_111 rfl ?_
    refine a_sipush (v := 160) d_Mod_init_112 (by decide) ?_
    refine a_newI (N := 160) d_Mod_init_115 (by decide) (by decide) (by decide) (by show _ ≤ 33 + (53 - 33); omega) (by show _ ≤ z + (z + 23988 - z); omega) w_arrI ?_
    refine a_putF d_Mod_init_117 f_Mod_50 rfl rfl rfl rfl (Nat.le_of_ble_eq_true rfl) rfl rfl ?_
    refine a_aload_n d_Mod_init_120 rfl ?_
    refine a_sipush (v := 20736) d_Mod_init_121 (by decide) ?_
    refine a_newI (N := 20736) d_Mod_init_124 (by decide) (by decide) (by decide) (by show _ ≤ 33 + (53 - 33); omega) (by show _ ≤ z + (z + 23988 - z); omega) w_arrI ?_
    refine a_putF d_Mod_init_126 f_Mod_53 rfl rfl rfl rfl (Nat.le_of_ble_eq_true rfl) rfl rfl ?_
    refine a_aload_n d_Mod_init_129 rfl ?_
    refine a_sipush (v := 160) d_Mod_init_130 (by decide) ?_
    refine a_newI (N := 160) d_Mod_init_133 (by decide) (by decide) (by decide) (by show _ ≤ 33 + (53 - 33); omega) (by show _ ≤ z + (z + 23988 - z); omega) w_arrI ?_
    refine a_putF d_Mod_init_135 f_Mod_56 rfl rfl rfl rfl (Nat.le_of_ble_eq_true rfl) rfl rfl ?_
    refine a_aload_n d_Mod_init_138 rfl ?_
    refine a_sipush (v := 144) d_Mod_init_139 (by decide) ?_
    refine a_newI (N := 144) d_Mod_init_142 (by decide) (by decide) (by decide) (by show _ ≤ 33 + (53 - 33); omega) (by show _ ≤ z + (z + 23988 - z); omega) w_arrI ?_
    refine a_putF d_Mod_init_144 f_Mod_59 rfl rfl rfl rfl (Nat.le_of_ble_eq_true rfl) rfl rfl ?_
    refine a_aload_n d_Mod_init_147 rfl ?_
    refine a_sipush (v := 160) d_Mod_init_148 (by decide) ?_
    refine a_newI (N := 160) d_Mod_init_151 (by decide) (by decide) (by decide) (by show _ ≤ 33 + (53 - 33); omega) (by show _ ≤ z + (z + 23988 - z); omega) w_arrI ?_
    refine a_putF d_Mod_init_153 f_Mod_62 rfl rfl rfl rfl (Nat.le_of_ble_eq_true rfl) rfl rfl ?_
    refine a_aload_n d_Mod_init_156 rfl ?_
    refine a_sipush (v := 600) d_Mod_init_157 (by decide) ?_
    refine a_newI (N := 600) d_Mod_init_160 (by decide) (by decide) (by decide) (by show _ ≤ 33 + (53 - 33); omega) (by show _ ≤ z + (z + 23988 - z); omega) w_arrI ?_
    refine a_putF d_Mod_init_162 f_Mod_65 rfl rfl rfl rfl (Nat.le_of_ble_eq_true rfl) rfl rfl ?_
    refine a_aload_n d_Mod_init_165 rfl ?_
    refine a_sipush (v := 600) d_Mod_init_166 (by decide) ?_
    refine a_newI (N := 600) d_Mod_init_169 (by decide) (by decide) (by decide) (by show _ ≤ 33 + (53 - 33); omega) (by show _ ≤ z + (z + 23988 - z); omega) w_arrI ?_
    refine a_putF d_Mod_init_171 f_Mod_68 rfl rfl rfl rfl (Nat.le_of_ble_eq_true rfl) rfl rfl ?_
    exact a_vret d_Mod_init_174 rfl rfl rfl rfl
  · refine ⟨rfl, rfl, rfl, rfl, rfl, rfl, rfl, rfl, rfl, rfl, rfl, rfl, rfl, rfl, rfl, rfl, rfl, rfl, rfl, rfl, rfl, fun i q0 q1 q2 q3 q4 q5 q6 q7 q8 q9 q10 q11 q12 q13 q14 q15 q16 q17 q18 q19 q20 => ?_⟩
    simp [hu, q0, q1, q2, q3, q4, q5, q6, q7, q8, q9, q10, q11, q12, q13, q14, q15, q16, q17, q18, q19, q20]
end
