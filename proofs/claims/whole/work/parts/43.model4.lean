/-! THE MODEL, what is told: printed by wip/whole/t43.py -/
section
variable {V : VV} {h : AH} {n z : Nat}

set_option maxRecDepth 20000 in
set_option maxHeartbeats 4000000 in
theorem s_Mod_undo0 {by_ la il ra mn : Int32} {rs : Int64} {tb ve oa lm : Int32} (g32 : h 32 = oMod 0 by_ la ra il mn rs tb ve oa lm) : AMet V i_Mod_undo 1 [.ref 32] h n z (some (.int (-1000002))) (h) n z := by
  refine AMet.intro (Nat.le_refl _) (Nat.le_refl _) (by decide) (Nat.le_of_ble_eq_true rfl) rfl ?_
  refine a_aload_n d_Mod_undo_0 rfl ?_
  refine a_getf d_Mod_undo_1 f_Mod_107 g32 rfl ?_
  refine a_if_ne 10 d_Mod_undo_4 (by decide) (fun c4 => absurd c4 (fun q => q rfl)) (fun c4 => ?_)
  refine a_ldc d_Mod_undo_7 k_Mod_117 ?_
  exact a_iret d_Mod_undo_9 rfl rfl rfl rfl
set_option maxRecDepth 20000 in
set_option maxHeartbeats 4000000 in
theorem s_Mod_undo {k : Nat} {by_ la il ra mn : Int32} {rs : Int64} {tb ve oa lm : Int32} (g32 : h 32 = oMod (nI (k + 1)) by_ la ra il mn rs tb ve oa lm) {st pa : Nat → Int32} (g33 : h 33 = aI 68 st) (g34 : h 34 = aI 544 pa) (hk : k < 8) : AMet V i_Mod_undo 1 [.ref 32] h n z (some (.int (nI k))) (hu (hu (hu h 32 (oMod (nI k) by_ la ra il mn rs tb ve oa lm)) 33 (aI 68 (pt st 0 68 (fun t => pa (68 * k + t))))) 32 (oMod (nI k) by_ la ra 0 mn rs tb ve oa lm)) n z := by
  refine AMet.intro (Nat.le_refl _) (Nat.le_refl _) (by decide) (Nat.le_of_ble_eq_true rfl) rfl ?_
  refine a_aload_n d_Mod_undo_0 rfl ?_
  refine a_getf d_Mod_undo_1 f_Mod_107 g32 rfl ?_
  refine a_if_ne 10 d_Mod_undo_4 (by decide) (fun c4 => ?_) (fun c4 => absurd c4 (nI_ne0 (by omega) (by omega)))
  refine a_aload_n d_Mod_undo_10 rfl ?_
  refine a_dup d_Mod_undo_11 rfl ?_
  refine a_getf d_Mod_undo_12 f_Mod_107 g32 rfl ?_
  refine a_iconst (v := 1) d_Mod_undo_15 (by decide) ?_
  refine a_isub d_Mod_undo_16 ?_
  rw [show nI (k + 1) - 1 = nI k from (show nI (k + 1) - nI 1 = nI k by rw [pk_sub (by omega)]; rfl)]
  refine a_putf d_Mod_undo_17 f_Mod_107 rfl g32 (Nat.le_of_ble_eq_true rfl) rfl rfl ?_
  refine a_aload_n d_Mod_undo_20 rfl ?_
  refine a_getf d_Mod_undo_21 f_Mod_13 (show _ = oMod (nI k) by_ la ra il mn rs tb ve oa lm from rfl) rfl ?_
  refine a_bipush (v := 68) d_Mod_undo_24 (by decide) ?_
  refine a_aload_n d_Mod_undo_26 rfl ?_
  refine a_getf d_Mod_undo_27 f_Mod_107 (show _ = oMod (nI k) by_ la ra il mn rs tb ve oa lm from rfl) rfl ?_
  refine a_imul d_Mod_undo_30 ?_
  rw [show (68 : Int32) * nI k = nI (68 * k) from (show nI 68 * nI k = nI (68 * k) by rw [pk_mul])]
  refine a_aload_n d_Mod_undo_31 rfl ?_
  refine a_getf d_Mod_undo_32 f_Mod_7 (show _ = oMod (nI k) by_ la ra il mn rs tb ve oa lm from rfl) rfl ?_
  refine a_iconst (v := 0) d_Mod_undo_35 (by decide) ?_
  refine a_bipush (v := 68) d_Mod_undo_36 (by decide) ?_
  refine a_cs0 d_Mod_undo_38 m_Mod_bring t_Mod_bring l_Mod_103 (s_bring (p := 34) (q := 33) (i := 68 * k) (j := 0) (m := 68) (show _ = aI 544 pa from g34) (show _ = aI 68 st from g33) (by omega) (by decide) (by decide) (by decide) (by decide)) rfl rfl ⟨Nat.le_of_ble_eq_true rfl, Nat.le_of_ble_eq_true rfl⟩ (Nat.le_of_ble_eq_true rfl)  ?_
  refine a_aload_n d_Mod_undo_41 rfl ?_
  refine a_iconst (v := 0) d_Mod_undo_42 (by decide) ?_
  refine a_putf d_Mod_undo_43 f_Mod_110 rfl (show _ = oMod (nI k) by_ la ra il mn rs tb ve oa lm from rfl) (Nat.le_of_ble_eq_true rfl) rfl rfl ?_
  refine a_aload_n d_Mod_undo_46 rfl ?_
  refine a_getf d_Mod_undo_47 f_Mod_107 (show _ = oMod (nI k) by_ la ra 0 mn rs tb ve oa lm from rfl) rfl ?_
  exact a_iret d_Mod_undo_50 rfl rfl rfl rfl
set_option maxRecDepth 20000 in
set_option maxHeartbeats 4000000 in
theorem s_Mod_feedB {ac by_ la il ra mn : Int32} {rs : Int64} {tb ve oa lm : Int32} (g32 : h 32 = oMod ac by_ la ra il mn rs tb ve oa lm) {x : Int32} (hx : fRg x 0 255 = 0) : AMet V i_Mod_feed 1 [.ref 32, .int x] h n z (some (.int (-1000001))) (h) n z := by
  refine AMet.intro (Nat.le_refl _) (Nat.le_refl _) (by decide) (Nat.le_of_ble_eq_true rfl) rfl ?_
  refine a_iload_n d_Mod_feed_0 rfl ?_
  refine a_iconst (v := 0) d_Mod_feed_1 (by decide) ?_
  refine a_sipush (v := 255) d_Mod_feed_2 (by decide) ?_
  refine a_cs0 d_Mod_feed_5 m_Mod_in t_Mod_in l_Mod_71 (s_Mod_in x 0 255) rfl rfl ⟨Nat.le_of_ble_eq_true rfl, Nat.le_of_ble_eq_true rfl⟩ (Nat.le_of_ble_eq_true rfl)  ?_
  refine a_if_ne 14 d_Mod_feed_8 (by decide) (fun c8 => absurd c8 (fun q => q hx)) (fun c8 => ?_)
  refine a_ldc d_Mod_feed_11 k_Mod_75 ?_
  exact a_iret d_Mod_feed_13 rfl rfl rfl rfl
set_option maxRecDepth 20000 in
set_option maxHeartbeats 4000000 in
theorem s_Mod_feedF {ac la il ra mn : Int32} {rs : Int64} {tb ve oa lm : Int32} (g32 : h 32 = oMod ac 90 la ra il mn rs tb ve oa lm) {x : Int32} (hx : ¬ fRg x 0 255 = 0) : AMet V i_Mod_feed 1 [.ref 32, .int x] h n z (some (.int (-1000003))) (h) n z := by
  refine AMet.intro (Nat.le_refl _) (Nat.le_refl _) (by decide) (Nat.le_of_ble_eq_true rfl) rfl ?_
  refine a_iload_n d_Mod_feed_0 rfl ?_
  refine a_iconst (v := 0) d_Mod_feed_1 (by decide) ?_
  refine a_sipush (v := 255) d_Mod_feed_2 (by decide) ?_
  refine a_cs0 d_Mod_feed_5 m_Mod_in t_Mod_in l_Mod_71 (s_Mod_in x 0 255) rfl rfl ⟨Nat.le_of_ble_eq_true rfl, Nat.le_of_ble_eq_true rfl⟩ (Nat.le_of_ble_eq_true rfl)  ?_
  refine a_if_ne 14 d_Mod_feed_8 (by decide) (fun c8 => ?_) (fun c8 => absurd c8 hx)
  refine a_aload_n d_Mod_feed_14 rfl ?_
  refine a_getf d_Mod_feed_15 f_Mod_76 g32 rfl ?_
  refine a_bipush (v := 90) d_Mod_feed_18 (by decide) ?_
  refine a_icmp_ne 26 d_Mod_feed_20 (by decide) (fun c20 => absurd c20 (fun q => q rfl)) (fun c20 => ?_)
  refine a_ldc d_Mod_feed_23 k_Mod_80 ?_
  exact a_iret d_Mod_feed_25 rfl rfl rfl rfl
set_option maxRecDepth 20000 in
set_option maxHeartbeats 4000000 in
theorem s_Mod_feedO {L : Nat} {ac la il ra mn : Int32} {rs : Int64} {tb ve oa lm : Int32} (g32 : h 32 = oMod ac (nI L) la ra il mn rs tb ve oa lm) {tp : Nat → Int32} (g37 : h 37 = aI 90 tp) (hL : L < 90) {x : Int32} (hx : ¬ fRg x 0 255 = 0) : AMet V i_Mod_feed 1 [.ref 32, .int x] h n z (some (.int (nI (L + 1)))) (hu (hu h 37 (aI 90 (upd tp L x))) 32 (oMod ac (nI (L + 1)) la ra il mn rs tb ve oa lm)) n z := by
  refine AMet.intro (Nat.le_refl _) (Nat.le_refl _) (by decide) (Nat.le_of_ble_eq_true rfl) rfl ?_
  refine a_iload_n d_Mod_feed_0 rfl ?_
  refine a_iconst (v := 0) d_Mod_feed_1 (by decide) ?_
  refine a_sipush (v := 255) d_Mod_feed_2 (by decide) ?_
  refine a_cs0 d_Mod_feed_5 m_Mod_in t_Mod_in l_Mod_71 (s_Mod_in x 0 255) rfl rfl ⟨Nat.le_of_ble_eq_true rfl, Nat.le_of_ble_eq_true rfl⟩ (Nat.le_of_ble_eq_true rfl)  ?_
  refine a_if_ne 14 d_Mod_feed_8 (by decide) (fun c8 => ?_) (fun c8 => absurd c8 hx)
  refine a_aload_n d_Mod_feed_14 rfl ?_
  refine a_getf d_Mod_feed_15 f_Mod_76 g32 rfl ?_
  refine a_bipush (v := 90) d_Mod_feed_18 (by decide) ?_
  refine a_icmp_ne 26 d_Mod_feed_20 (by decide) (fun c20 => ?_) (fun c20 => absurd c20 (fun q => absurd ((nI_eq (b := 90) (by omega) (by omega)).mp q) (by omega)))
  refine a_aload_n d_Mod_feed_26 rfl ?_
  refine a_getf d_Mod_feed_27 f_Mod_22 g32 rfl ?_
  refine a_aload_n d_Mod_feed_30 rfl ?_
  refine a_getf d_Mod_feed_31 f_Mod_76 g32 rfl ?_
  refine a_iload_n d_Mod_feed_34 rfl ?_
  refine a_iast d_Mod_feed_35 g37 (nI_in hL (by omega)) ?_
  refine a_aload_n d_Mod_feed_36 rfl ?_
  refine a_dup d_Mod_feed_37 rfl ?_
  refine a_getf d_Mod_feed_38 f_Mod_76 (show _ = oMod ac (nI L) la ra il mn rs tb ve oa lm from g32) rfl ?_
  refine a_iconst (v := 1) d_Mod_feed_41 (by decide) ?_
  refine a_iadd d_Mod_feed_42 ?_
  refine a_putf d_Mod_feed_43 f_Mod_76 rfl (show _ = oMod ac (nI L) la ra il mn rs tb ve oa lm from g32) (Nat.le_of_ble_eq_true rfl) rfl rfl ?_
  refine a_aload_n d_Mod_feed_46 rfl ?_
  refine a_getf d_Mod_feed_47 f_Mod_76 (show _ = oMod ac (nI L + 1) la ra il mn rs tb ve oa lm from rfl) rfl ?_
  exact a_iret d_Mod_feed_50 rfl (by rw [← nI_1]) (by rw [nI_clamp (by omega), ← nI_1]; rfl) rfl
set_option maxRecDepth 20000 in
set_option maxHeartbeats 4000000 in
theorem s_Mod_imageB {ac by_ la il ra mn : Int32} {rs : Int64} {tb ve oa lm : Int32} (g32 : h 32 = oMod ac by_ la ra il mn rs tb ve oa lm) {x : Int32} (hx : fRg x 0 1 = 0) : AMet V i_Mod_image 1 [.ref 32, .int x] h n z (some (.int (-1000001))) (h) n z := by
  refine AMet.intro (Nat.le_refl _) (Nat.le_refl _) (by decide) (Nat.le_of_ble_eq_true rfl) rfl ?_
  refine a_iload_n d_Mod_image_0 rfl ?_
  refine a_iconst (v := 0) d_Mod_image_1 (by decide) ?_
  refine a_iconst (v := 1) d_Mod_image_2 (by decide) ?_
  refine a_cs0 d_Mod_image_3 m_Mod_in t_Mod_in l_Mod_71 (s_Mod_in x 0 1) rfl rfl ⟨Nat.le_of_ble_eq_true rfl, Nat.le_of_ble_eq_true rfl⟩ (Nat.le_of_ble_eq_true rfl)  ?_
  refine a_if_ne 12 d_Mod_image_6 (by decide) (fun c6 => absurd c6 (fun q => q hx)) (fun c6 => ?_)
  refine a_ldc d_Mod_image_9 k_Mod_75 ?_
  exact a_iret d_Mod_image_11 rfl rfl rfl rfl
set_option maxRecDepth 20000 in
set_option maxHeartbeats 4000000 in
theorem s_Mod_restoreB {ac by_ la il ra mn : Int32} {rs : Int64} {tb ve oa lm : Int32} (g32 : h 32 = oMod ac by_ la ra il mn rs tb ve oa lm) {x : Int32} (hx : fRg x 0 1 = 0) : AMet V i_Mod_restore 1 [.ref 32, .int x] h n z (some (.int (-1000001))) (h) n z := by
  refine AMet.intro (Nat.le_refl _) (Nat.le_refl _) (by decide) (Nat.le_of_ble_eq_true rfl) rfl ?_
  refine a_iload_n d_Mod_restore_0 rfl ?_
  refine a_iconst (v := 0) d_Mod_restore_1 (by decide) ?_
  refine a_iconst (v := 1) d_Mod_restore_2 (by decide) ?_
  refine a_cs0 d_Mod_restore_3 m_Mod_in t_Mod_in l_Mod_71 (s_Mod_in x 0 1) rfl rfl ⟨Nat.le_of_ble_eq_true rfl, Nat.le_of_ble_eq_true rfl⟩ (Nat.le_of_ble_eq_true rfl)  ?_
  refine a_if_ne 12 d_Mod_restore_6 (by decide) (fun c6 => absurd c6 (fun q => q hx)) (fun c6 => ?_)
  refine a_ldc d_Mod_restore_9 k_Mod_75 ?_
  exact a_iret d_Mod_restore_11 rfl rfl rfl rfl
set_option maxRecDepth 20000 in
set_option maxHeartbeats 4000000 in
theorem s_Mod_imageS {ac by_ la il ra mn : Int32} {rs : Int64} {tb ve oa lm : Int32} (g32 : h 32 = oMod ac by_ la ra il mn rs tb ve oa lm) {st im ii : Nat → Int32} (g33 : h 33 = aI 68 st) (g35 : h 35 = aI 136 im) (g36 : h 36 = aI 2 ii) {q : Nat} (hq : q < 2) (hx : ¬ fRg (nI q) 0 1 = 0) (h0 : st 0 ≤ 0) : AMet V i_Mod_image 1 [.ref 32, .int (nI q)] h n z (some (.int (-1000002))) (h) n z := by
  refine AMet.intro (Nat.le_refl _) (Nat.le_refl _) (by decide) (Nat.le_of_ble_eq_true rfl) rfl ?_
  refine a_iload_n d_Mod_image_0 rfl ?_
  refine a_iconst (v := 0) d_Mod_image_1 (by decide) ?_
  refine a_iconst (v := 1) d_Mod_image_2 (by decide) ?_
  refine a_cs0 d_Mod_image_3 m_Mod_in t_Mod_in l_Mod_71 (s_Mod_in _ 0 1) rfl rfl ⟨Nat.le_of_ble_eq_true rfl, Nat.le_of_ble_eq_true rfl⟩ (Nat.le_of_ble_eq_true rfl)  ?_
  refine a_if_ne 12 d_Mod_image_6 (by decide) (fun c6 => ?_) (fun c6 => absurd c6 hx)
  refine a_aload_n d_Mod_image_12 rfl ?_
  refine a_cv0 (a := 32) d_Mod_image_13 m_Mod_isPicture t_Mod_isPicture l_Mod_125 g32 rfl rfl (s_Mod_isPicture g32 g33) rfl rfl ⟨Nat.le_of_ble_eq_true rfl, Nat.le_of_ble_eq_true rfl⟩ (Nat.le_of_ble_eq_true rfl)  ?_
  rw [if_pos h0]
  refine a_if_ne 22 d_Mod_image_16 (by decide) (fun c16 => absurd c16 (fun q => q rfl)) (fun c16 => ?_)
  refine a_ldc d_Mod_image_19 k_Mod_117 ?_
  exact a_iret d_Mod_image_21 rfl rfl rfl rfl
set_option maxRecDepth 20000 in
set_option maxHeartbeats 4000000 in
theorem s_Mod_image {ac by_ la il ra mn : Int32} {rs : Int64} {tb ve oa lm : Int32} (g32 : h 32 = oMod ac by_ la ra il mn rs tb ve oa lm) {st im ii : Nat → Int32} (g33 : h 33 = aI 68 st) (g35 : h 35 = aI 136 im) (g36 : h 36 = aI 2 ii) {q : Nat} (hq : q < 2) (hx : ¬ fRg (nI q) 0 1 = 0) (h0 : ¬ st 0 ≤ 0) : AMet V i_Mod_image 1 [.ref 32, .int (nI q)] h n z (some (.int 1)) (hu (hu h 35 (aI 136 (pt im (68 * q) 68 (fun t => st (0 + t))))) 36 (aI 2 (upd ii q 1))) n z := by
  refine AMet.intro (Nat.le_refl _) (Nat.le_refl _) (by decide) (Nat.le_of_ble_eq_true rfl) rfl ?_
  refine a_iload_n d_Mod_image_0 rfl ?_
  refine a_iconst (v := 0) d_Mod_image_1 (by decide) ?_
  refine a_iconst (v := 1) d_Mod_image_2 (by decide) ?_
  refine a_cs0 d_Mod_image_3 m_Mod_in t_Mod_in l_Mod_71 (s_Mod_in _ 0 1) rfl rfl ⟨Nat.le_of_ble_eq_true rfl, Nat.le_of_ble_eq_true rfl⟩ (Nat.le_of_ble_eq_true rfl)  ?_
  refine a_if_ne 12 d_Mod_image_6 (by decide) (fun c6 => ?_) (fun c6 => absurd c6 hx)
  refine a_aload_n d_Mod_image_12 rfl ?_
  refine a_cv0 (a := 32) d_Mod_image_13 m_Mod_isPicture t_Mod_isPicture l_Mod_125 g32 rfl rfl (s_Mod_isPicture g32 g33) rfl rfl ⟨Nat.le_of_ble_eq_true rfl, Nat.le_of_ble_eq_true rfl⟩ (Nat.le_of_ble_eq_true rfl)  ?_
  rw [if_neg h0]
  refine a_if_ne 22 d_Mod_image_16 (by decide) (fun c16 => ?_) (fun c16 => absurd c16 (by decide))
  refine a_aload_n d_Mod_image_22 rfl ?_
  refine a_getf d_Mod_image_23 f_Mod_7 g32 rfl ?_
  refine a_iconst (v := 0) d_Mod_image_26 (by decide) ?_
  refine a_aload_n d_Mod_image_27 rfl ?_
  refine a_getf d_Mod_image_28 f_Mod_16 g32 rfl ?_
  refine a_bipush (v := 68) d_Mod_image_31 (by decide) ?_
  refine a_iload_n d_Mod_image_33 rfl ?_
  refine a_imul d_Mod_image_34 ?_
  rw [show (68 : Int32) * nI q = nI (68 * q) from (show nI 68 * nI q = nI (68 * q) by rw [pk_mul])]
  refine a_bipush (v := 68) d_Mod_image_35 (by decide) ?_
  refine a_cs0 d_Mod_image_37 m_Mod_bring t_Mod_bring l_Mod_103 (s_bring (i := 0) (j := 68 * q) (m := 68) g33 g35 (by omega) (by omega) (by decide) (by decide) (by decide)) rfl rfl ⟨Nat.le_of_ble_eq_true rfl, Nat.le_of_ble_eq_true rfl⟩ (Nat.le_of_ble_eq_true rfl)  ?_
  refine a_aload_n d_Mod_image_40 rfl ?_
  refine a_getf d_Mod_image_41 f_Mod_19 (show _ = oMod ac by_ la ra il mn rs tb ve oa lm from g32) rfl ?_
  refine a_iload_n d_Mod_image_44 rfl ?_
  refine a_iconst (v := 1) d_Mod_image_45 (by decide) ?_
  refine a_iast d_Mod_image_46 (show _ = aI 2 ii from g36) (nI_in hq (by decide)) ?_
  refine a_iconst (v := 1) d_Mod_image_47 (by decide) ?_
  exact a_iret d_Mod_image_48 rfl rfl (by rw [nI_clamp (by omega)]) rfl
set_option maxRecDepth 20000 in
set_option maxHeartbeats 4000000 in
theorem s_Mod_restoreS {ac by_ la il ra mn : Int32} {rs : Int64} {tb ve oa lm : Int32} (g32 : h 32 = oMod ac by_ la ra il mn rs tb ve oa lm) {st im ii : Nat → Int32} (g33 : h 33 = aI 68 st) (g35 : h 35 = aI 136 im) (g36 : h 36 = aI 2 ii) {q : Nat} (hq : q < 2) (hx : ¬ fRg (nI q) 0 1 = 0) (h0 : ii q = 0) : AMet V i_Mod_restore 1 [.ref 32, .int (nI q)] h n z (some (.int (-1000002))) (h) n z := by
  refine AMet.intro (Nat.le_refl _) (Nat.le_refl _) (by decide) (Nat.le_of_ble_eq_true rfl) rfl ?_
  refine a_iload_n d_Mod_restore_0 rfl ?_
  refine a_iconst (v := 0) d_Mod_restore_1 (by decide) ?_
  refine a_iconst (v := 1) d_Mod_restore_2 (by decide) ?_
  refine a_cs0 d_Mod_restore_3 m_Mod_in t_Mod_in l_Mod_71 (s_Mod_in _ 0 1) rfl rfl ⟨Nat.le_of_ble_eq_true rfl, Nat.le_of_ble_eq_true rfl⟩ (Nat.le_of_ble_eq_true rfl)  ?_
  refine a_if_ne 12 d_Mod_restore_6 (by decide) (fun c6 => ?_) (fun c6 => absurd c6 hx)
  refine a_aload_n d_Mod_restore_12 rfl ?_
  refine a_getf d_Mod_restore_13 f_Mod_19 g32 rfl ?_
  refine a_iload_n d_Mod_restore_16 rfl ?_
  refine a_iald d_Mod_restore_17 g36 (nI_in hq (by decide)) ?_
  rw [nI_clamp (by omega), h0]
  refine a_if_ne 24 d_Mod_restore_18 (by decide) (fun c18 => absurd c18 (fun q => q rfl)) (fun c18 => ?_)
  refine a_ldc d_Mod_restore_21 k_Mod_117 ?_
  exact a_iret d_Mod_restore_23 rfl rfl rfl rfl
set_option maxRecDepth 20000 in
set_option maxHeartbeats 4000000 in
theorem s_Mod_restore {ac by_ la il ra mn : Int32} {rs : Int64} {tb ve oa lm : Int32} (g32 : h 32 = oMod ac by_ la ra il mn rs tb ve oa lm) {st im ii : Nat → Int32} (g33 : h 33 = aI 68 st) (g35 : h 35 = aI 136 im) (g36 : h 36 = aI 2 ii) {q : Nat} (hq : q < 2) (hx : ¬ fRg (nI q) 0 1 = 0) (h0 : ¬ ii q = 0) : AMet V i_Mod_restore 1 [.ref 32, .int (nI q)] h n z (some (.int 1)) (hu (hu (hu h 33 (aI 68 (pt st 0 68 (fun t => im (68 * q + t))))) 32 (oMod 0 by_ la ra il mn rs tb ve oa lm)) 32 (oMod 0 by_ la ra 0 mn rs tb ve oa lm)) n z := by
  refine AMet.intro (Nat.le_refl _) (Nat.le_refl _) (by decide) (Nat.le_of_ble_eq_true rfl) rfl ?_
  refine a_iload_n d_Mod_restore_0 rfl ?_
  refine a_iconst (v := 0) d_Mod_restore_1 (by decide) ?_
  refine a_iconst (v := 1) d_Mod_restore_2 (by decide) ?_
  refine a_cs0 d_Mod_restore_3 m_Mod_in t_Mod_in l_Mod_71 (s_Mod_in _ 0 1) rfl rfl ⟨Nat.le_of_ble_eq_true rfl, Nat.le_of_ble_eq_true rfl⟩ (Nat.le_of_ble_eq_true rfl)  ?_
  refine a_if_ne 12 d_Mod_restore_6 (by decide) (fun c6 => ?_) (fun c6 => absurd c6 hx)
  refine a_aload_n d_Mod_restore_12 rfl ?_
  refine a_getf d_Mod_restore_13 f_Mod_19 g32 rfl ?_
  refine a_iload_n d_Mod_restore_16 rfl ?_
  refine a_iald d_Mod_restore_17 g36 (nI_in hq (by decide)) ?_
  rw [nI_clamp (by omega)]
  refine a_if_ne 24 d_Mod_restore_18 (by decide) (fun c18 => ?_) (fun c18 => absurd c18 h0)
  refine a_aload_n d_Mod_restore_24 rfl ?_
  refine a_getf d_Mod_restore_25 f_Mod_16 g32 rfl ?_
  refine a_bipush (v := 68) d_Mod_restore_28 (by decide) ?_
  refine a_iload_n d_Mod_restore_30 rfl ?_
  refine a_imul d_Mod_restore_31 ?_
  rw [show (68 : Int32) * nI q = nI (68 * q) from (show nI 68 * nI q = nI (68 * q) by rw [pk_mul])]
  refine a_aload_n d_Mod_restore_32 rfl ?_
  refine a_getf d_Mod_restore_33 f_Mod_7 g32 rfl ?_
  refine a_iconst (v := 0) d_Mod_restore_36 (by decide) ?_
  refine a_bipush (v := 68) d_Mod_restore_37 (by decide) ?_
  refine a_cs0 d_Mod_restore_39 m_Mod_bring t_Mod_bring l_Mod_103 (s_bring (i := 68 * q) (j := 0) (m := 68) g35 g33 (by omega) (by decide) (by decide) (by decide) (by decide)) rfl rfl ⟨Nat.le_of_ble_eq_true rfl, Nat.le_of_ble_eq_true rfl⟩ (Nat.le_of_ble_eq_true rfl)  ?_
  refine a_aload_n d_Mod_restore_42 rfl ?_
  refine a_iconst (v := 0) d_Mod_restore_43 (by decide) ?_
  refine a_putf d_Mod_restore_44 f_Mod_107 rfl (show _ = oMod ac by_ la ra il mn rs tb ve oa lm from g32) (Nat.le_of_ble_eq_true rfl) rfl rfl ?_
  refine a_aload_n d_Mod_restore_47 rfl ?_
  refine a_iconst (v := 0) d_Mod_restore_48 (by decide) ?_
  refine a_putf d_Mod_restore_49 f_Mod_110 rfl (show _ = oMod 0 by_ la ra il mn rs tb ve oa lm from rfl) (Nat.le_of_ble_eq_true rfl) rfl rfl ?_
  refine a_iconst (v := 1) d_Mod_restore_52 (by decide) ?_
  exact a_iret d_Mod_restore_53 rfl rfl rfl rfl
end
