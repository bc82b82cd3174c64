/-! THE MODEL, its acts: printed by wip/whole/t42.py -/
section
variable {V : VV} {h : AH} {n z : Nat}

set_option maxRecDepth 20000 in
set_option maxHeartbeats 4000000 in
theorem L_bringS {g : Nat → Int32} : ∀ (r k : Nat), k + r = 476 → AM V i_Mod_bring 0 n z none (hu h 34 (aI 544 (pt g 0 476 (fun t => g (68 + t))))) n z 3 [some (.ref 34), some (.int (nI 68)), some (.ref 34), some (.int (nI 0)), some (.int (nI 476)), some (.int (nI k))] [] (hu h 34 (aI 544 (pt g 0 k (fun t => g (68 + t))))) n z := by
  intro r
  induction r with
  | zero =>
    intro k hk
    have e : k = 476 := by omega
    subst e
    refine a_iload d_Mod_bring_3 rfl ?_
    refine a_iload d_Mod_bring_5 rfl ?_
    refine a_icmp_ge 28 d_Mod_bring_7 (by decide) (fun c7 => ?_) (fun c7 => absurd (Int32.le_refl _) c7)
    exact a_vret d_Mod_bring_28 rfl rfl rfl rfl
  | succ r ih =>
    intro k hk
    have ea : nI 68 + nI k = nI (68 + k) := nI_add 68 k
    have eb : nI 0 + nI k = nI (0 + k) := nI_add 0 k
    refine a_iload d_Mod_bring_3 rfl ?_
    refine a_iload d_Mod_bring_5 rfl ?_
    refine a_icmp_ge 28 d_Mod_bring_7 (by decide) (fun c7 => absurd c7 (nI_ge (show k < 476 by omega) (by omega))) (fun c7 => ?_)
    refine a_aload_n d_Mod_bring_10 rfl ?_
    refine a_iload_n d_Mod_bring_11 rfl ?_
    refine a_iload d_Mod_bring_12 rfl ?_
    refine a_iadd d_Mod_bring_14 ?_
    refine a_aload_n d_Mod_bring_15 rfl ?_
    refine a_iload_n d_Mod_bring_16 rfl ?_
    refine a_iload d_Mod_bring_17 rfl ?_
    refine a_iadd d_Mod_bring_19 ?_
    rw [ea]
    refine a_iald d_Mod_bring_20 (hu_s _ _ _) (nI_in (show 68 + k < 544 by omega) (by omega)) ?_
    rw [eb]
    refine a_iast d_Mod_bring_21 (hu_s _ _ _) (nI_in (show 0 + k < 544 by omega) (by omega)) ?_
    refine a_iinc d_Mod_bring_22 rfl (nI_1 k) (Nat.le_of_ble_eq_true rfl) rfl ?_
    refine a_goto 3 d_Mod_bring_25 (by decide) ?_
    refine a_eq rfl rfl rfl ?_ rfl rfl (ih (k + 1) (by omega))
    rw [hu_hu, nI_clamp (by omega), nI_clamp (by omega), pt_out (Or.inr (by omega)), pt_step]
set_option maxRecDepth 20000 in
set_option maxHeartbeats 4000000 in
theorem s_bringS {g : Nat → Int32} (g34 : h 34 = aI 544 g) : AMet V i_Mod_bring 0 [.ref 34, .int 68, .ref 34, .int 0, .int 476] h n z none (hu h 34 (aI 544 (pt g 0 476 (fun t => g (68 + t))))) n z := by
  refine AMet.intro (Nat.le_refl _) (Nat.le_refl _) (by decide) (Nat.le_of_ble_eq_true rfl) rfl ?_
  refine a_iconst (v := 0) d_Mod_bring_0 (by decide) ?_
  refine a_istore d_Mod_bring_1 (Nat.le_of_ble_eq_true rfl) (Nat.le_of_ble_eq_true rfl) rfl ?_
  have e0 : h = hu h 34 (aI 544 (pt g 0 0 (fun t => g (68 + t)))) := by rw [pt_zero]; exact (hu_same g34).symm
  refine a_eq rfl rfl rfl e0 rfl rfl (L_bringS 476 0 (by omega))
set_option maxRecDepth 20000 in
set_option maxHeartbeats 4000000 in
theorem s_Mod_notes {by_ la ra il mn : Int32} {rs : Int64} {tb ve oa lm : Int32} {k : Nat} (g32 : h 32 = oMod (nI k) by_ la ra il mn rs tb ve oa lm) {st pa : Nat → Int32} (g33 : h 33 = aI 68 st) (g34 : h 34 = aI 544 pa) (hk : k < 8) : AMet V i_Mod_notes 1 [.ref 32] h n z (none) (hu (hu h 34 (aI 544 (pt pa (68 * k) 68 (fun t => st (0 + t))))) 32 (oMod (nI (k + 1)) by_ la ra 0 mn rs tb ve oa lm)) n z := by
  refine AMet.intro (Nat.le_refl _) (Nat.le_refl _) (by decide) (Nat.le_of_ble_eq_true rfl) rfl ?_
  refine a_aload_n d_Mod_notes_0 rfl ?_
  refine a_getf d_Mod_notes_1 f_Mod_107 g32 rfl ?_
  refine a_bipush (v := 8) d_Mod_notes_4 (by decide) ?_
  refine a_icmp_ne 36 d_Mod_notes_6 (by decide) (fun c6 => ?_) (fun c6 => absurd c6 (fun q => absurd ((nI_eq (b := 8) (by omega) (by omega)).mp q) (by omega)))
  refine a_aload_n d_Mod_notes_36 rfl ?_
  refine a_getf d_Mod_notes_37 f_Mod_7 g32 rfl ?_
  refine a_iconst (v := 0) d_Mod_notes_40 (by decide) ?_
  refine a_aload_n d_Mod_notes_41 rfl ?_
  refine a_getf d_Mod_notes_42 f_Mod_13 g32 rfl ?_
  refine a_bipush (v := 68) d_Mod_notes_45 (by decide) ?_
  refine a_aload_n d_Mod_notes_47 rfl ?_
  refine a_getf d_Mod_notes_48 f_Mod_107 g32 rfl ?_
  refine a_imul d_Mod_notes_51 ?_
  rw [show (68 : Int32) * nI k = nI (68 * k) from (show nI 68 * nI k = nI (68 * k) by rw [pk_mul])]
  refine a_bipush (v := 68) d_Mod_notes_52 (by decide) ?_
  refine a_cs0 d_Mod_notes_54 m_Mod_bring t_Mod_bring l_Mod_103 (s_bring (i := 0) (j := 68 * k) (m := 68) g33 g34 (by omega) (by omega) (by decide) (by decide) (by decide)) rfl rfl ⟨Nat.le_of_ble_eq_true rfl, Nat.le_of_ble_eq_true rfl⟩ (Nat.le_of_ble_eq_true rfl)  ?_
  refine a_aload_n d_Mod_notes_57 rfl ?_
  refine a_dup d_Mod_notes_58 rfl ?_
  refine a_getf d_Mod_notes_59 f_Mod_107 (show _ = oMod (nI k) by_ la ra il mn rs tb ve oa lm from g32) rfl ?_
  refine a_iconst (v := 1) d_Mod_notes_62 (by decide) ?_
  refine a_iadd d_Mod_notes_63 ?_
  refine a_putf d_Mod_notes_64 f_Mod_107 rfl (show _ = oMod (nI k) by_ la ra il mn rs tb ve oa lm from g32) (Nat.le_of_ble_eq_true rfl) rfl rfl ?_
  refine a_aload_n d_Mod_notes_67 rfl ?_
  refine a_iconst (v := 0) d_Mod_notes_68 (by decide) ?_
  refine a_putf d_Mod_notes_69 f_Mod_110 rfl (show _ = oMod (nI k + 1) by_ la ra il mn rs tb ve oa lm from rfl) (Nat.le_of_ble_eq_true rfl) rfl rfl ?_
  exact a_vret d_Mod_notes_72 rfl rfl (by rw [hu_hu, ← nI_1]; rfl) rfl
set_option maxRecDepth 20000 in
set_option maxHeartbeats 4000000 in
theorem s_Mod_notesF {by_ la ra il mn : Int32} {rs : Int64} {tb ve oa lm : Int32} (g32 : h 32 = oMod 8 by_ la ra il mn rs tb ve oa lm) {st pa : Nat → Int32} (g33 : h 33 = aI 68 st) (g34 : h 34 = aI 544 pa) : AMet V i_Mod_notes 1 [.ref 32] h n z (none) (hu (hu (hu (hu h 34 (aI 544 (pt pa 0 476 (fun t => pa (68 + t))))) 32 (oMod 7 by_ la ra il mn rs tb ve oa lm)) 34 (aI 544 (pt (pt pa 0 476 (fun t => pa (68 + t))) 476 68 (fun t => st (0 + t))))) 32 (oMod 8 by_ la ra 0 mn rs tb ve oa lm)) n z := by
  refine AMet.intro (Nat.le_refl _) (Nat.le_refl _) (by decide) (Nat.le_of_ble_eq_true rfl) rfl ?_
  refine a_aload_n d_Mod_notes_0 rfl ?_
  refine a_getf d_Mod_notes_1 f_Mod_107 g32 rfl ?_
  refine a_bipush (v := 8) d_Mod_notes_4 (by decide) ?_
  refine a_icmp_ne 36 d_Mod_notes_6 (by decide) (fun c6 => absurd c6 (fun q => q rfl)) (fun c6 => ?_)
  refine a_aload_n d_Mod_notes_9 rfl ?_
  refine a_getf d_Mod_notes_10 f_Mod_13 g32 rfl ?_
  refine a_bipush (v := 68) d_Mod_notes_13 (by decide) ?_
  refine a_aload_n d_Mod_notes_15 rfl ?_
  refine a_getf d_Mod_notes_16 f_Mod_13 g32 rfl ?_
  refine a_iconst (v := 0) d_Mod_notes_19 (by decide) ?_
  refine a_sipush (v := 476) d_Mod_notes_20 (by decide) ?_
  refine a_cs0 d_Mod_notes_23 m_Mod_bring t_Mod_bring l_Mod_103 (s_bringS g34) rfl rfl ⟨Nat.le_of_ble_eq_true rfl, Nat.le_of_ble_eq_true rfl⟩ (Nat.le_of_ble_eq_true rfl)  ?_
  refine a_aload_n d_Mod_notes_26 rfl ?_
  refine a_dup d_Mod_notes_27 rfl ?_
  refine a_getf d_Mod_notes_28 f_Mod_107 (show _ = oMod 8 by_ la ra il mn rs tb ve oa lm from g32) rfl ?_
  refine a_iconst (v := 1) d_Mod_notes_31 (by decide) ?_
  refine a_isub d_Mod_notes_32 ?_
  refine a_putf d_Mod_notes_33 f_Mod_107 rfl (show _ = oMod 8 by_ la ra il mn rs tb ve oa lm from g32) (Nat.le_of_ble_eq_true rfl) rfl rfl ?_
  refine a_aload_n d_Mod_notes_36 rfl ?_
  refine a_getf d_Mod_notes_37 f_Mod_7 (show _ = oMod 7 by_ la ra il mn rs tb ve oa lm from rfl) rfl ?_
  refine a_iconst (v := 0) d_Mod_notes_40 (by decide) ?_
  refine a_aload_n d_Mod_notes_41 rfl ?_
  refine a_getf d_Mod_notes_42 f_Mod_13 (show _ = oMod 7 by_ la ra il mn rs tb ve oa lm from rfl) rfl ?_
  refine a_bipush (v := 68) d_Mod_notes_45 (by decide) ?_
  refine a_aload_n d_Mod_notes_47 rfl ?_
  refine a_getf d_Mod_notes_48 f_Mod_107 (show _ = oMod 7 by_ la ra il mn rs tb ve oa lm from rfl) rfl ?_
  refine a_imul d_Mod_notes_51 ?_
  refine a_bipush (v := 68) d_Mod_notes_52 (by decide) ?_
  refine a_cs0 d_Mod_notes_54 m_Mod_bring t_Mod_bring l_Mod_103 (s_bring (h := hu (hu h 34 (aI 544 (pt pa 0 476 (fun t => pa (68 + t))))) 32 (oMod 7 by_ la ra il mn rs tb ve oa lm)) (p := 33) (q := 34) (i := 0) (j := 476) (m := 68) g33 rfl (by decide) (by decide) (by decide) (by decide) (by decide)) rfl rfl ⟨Nat.le_of_ble_eq_true rfl, Nat.le_of_ble_eq_true rfl⟩ (Nat.le_of_ble_eq_true rfl)  ?_
  refine a_aload_n d_Mod_notes_57 rfl ?_
  refine a_dup d_Mod_notes_58 rfl ?_
  refine a_getf d_Mod_notes_59 f_Mod_107 (show _ = oMod 7 by_ la ra il mn rs tb ve oa lm from rfl) rfl ?_
  refine a_iconst (v := 1) d_Mod_notes_62 (by decide) ?_
  refine a_iadd d_Mod_notes_63 ?_
  refine a_putf d_Mod_notes_64 f_Mod_107 rfl (show _ = oMod 7 by_ la ra il mn rs tb ve oa lm from rfl) (Nat.le_of_ble_eq_true rfl) rfl rfl ?_
  refine a_aload_n d_Mod_notes_67 rfl ?_
  refine a_iconst (v := 0) d_Mod_notes_68 (by decide) ?_
  refine a_putf d_Mod_notes_69 f_Mod_110 rfl (show _ = oMod 8 by_ la ra il mn rs tb ve oa lm from rfl) (Nat.le_of_ble_eq_true rfl) rfl rfl ?_
  exact a_vret d_Mod_notes_72 rfl rfl (by rw [hu_hu]; rfl) rfl
end
