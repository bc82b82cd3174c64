/-! THE MODEL, signs: printed by wip/whole/t48.py -/
section
variable {V : VV} {h : AH} {n z : Nat}

set_option maxRecDepth 20000 in
set_option maxHeartbeats 4000000 in
theorem s_Mod_signE {ac la il mn : Int32} {rs : Int64} {tb ve oa lm : Int32} {L a : Nat} {tp : Nat → Int32}(g32 : h 32 = oMod ac (nI L) la (nI a) il mn rs tb ve oa lm) (g37 : h 37 = aI 90 tp) (hL : L ≤ 90) {c : Int32} (ha : L ≤ a) (ha2 : a < 1000) : AMet V i_Mod_sign 2 [.ref 32, .int c] h n z (some (.int 1)) (h) n z := by
  refine AMet.intro (Nat.le_refl _) (Nat.le_refl _) (by decide) (Nat.le_of_ble_eq_true rfl) rfl ?_
  refine a_aload_n d_Mod_sign_0 rfl ?_
  refine a_iload_n d_Mod_sign_1 rfl ?_
  refine a_iload_n d_Mod_sign_2 rfl ?_
  refine a_iload_n d_Mod_sign_3 rfl ?_
  refine a_iload_n d_Mod_sign_4 rfl ?_
  refine a_cv0 (a := 32) d_Mod_sign_5 m_Mod_due t_Mod_due l_Mod_84 g32 rfl rfl (s_Mod_dueE g32 g37 hL ha ha2) rfl rfl ⟨Nat.le_of_ble_eq_true rfl, Nat.le_of_ble_eq_true rfl⟩ (Nat.le_of_ble_eq_true rfl)  ?_
  exact a_iret d_Mod_sign_8 rfl rfl rfl rfl
set_option maxRecDepth 20000 in
set_option maxHeartbeats 4000000 in
theorem s_Mod_signF {ac la il mn : Int32} {rs : Int64} {tb ve oa lm : Int32} {L a : Nat} {tp : Nat → Int32}(g32 : h 32 = oMod ac (nI L) la (nI a) il mn rs tb ve oa lm) (g37 : h 37 = aI 90 tp) (hL : L ≤ 90) {c : Int32} (ha : a < L) (hd : mDue L a tp c c c c ≠ 0) : AMet V i_Mod_sign 2 [.ref 32, .int c] h n z (some (.int (nI (mDue L a tp c c c c)))) (h) n z := by
  refine AMet.intro (Nat.le_refl _) (Nat.le_refl _) (by decide) (Nat.le_of_ble_eq_true rfl) rfl ?_
  refine a_aload_n d_Mod_sign_0 rfl ?_
  refine a_iload_n d_Mod_sign_1 rfl ?_
  refine a_iload_n d_Mod_sign_2 rfl ?_
  refine a_iload_n d_Mod_sign_3 rfl ?_
  refine a_iload_n d_Mod_sign_4 rfl ?_
  refine a_cv0 (a := 32) d_Mod_sign_5 m_Mod_due t_Mod_due l_Mod_84 g32 rfl rfl (s_Mod_dueF g32 g37 hL ha hd) rfl rfl ⟨Nat.le_of_ble_eq_true rfl, Nat.le_of_ble_eq_true rfl⟩ (Nat.le_of_ble_eq_true rfl)  ?_
  exact a_iret d_Mod_sign_8 rfl rfl rfl rfl
set_option maxRecDepth 20000 in
set_option maxHeartbeats 4000000 in
theorem s_Mod_sign {ac la il mn : Int32} {rs : Int64} {tb ve oa lm : Int32} {L a : Nat} {tp : Nat → Int32}(g32 : h 32 = oMod ac (nI L) la (nI a) il mn rs tb ve oa lm) (g37 : h 37 = aI 90 tp) (hL : L ≤ 90) {c : Int32} (ha : a < L) (hd : mDue L a tp c c c c = 0) : AMet V i_Mod_sign 2 [.ref 32, .int c] h n z (some (.int 0)) (hu h 32 (oMod ac (nI L) la (nI (a + 1)) il mn rs tb ve oa lm)) n z := by
  refine AMet.intro (Nat.le_refl _) (Nat.le_refl _) (by decide) (Nat.le_of_ble_eq_true rfl) rfl ?_
  refine a_aload_n d_Mod_sign_0 rfl ?_
  refine a_iload_n d_Mod_sign_1 rfl ?_
  refine a_iload_n d_Mod_sign_2 rfl ?_
  refine a_iload_n d_Mod_sign_3 rfl ?_
  refine a_iload_n d_Mod_sign_4 rfl ?_
  refine a_cv0 (a := 32) d_Mod_sign_5 m_Mod_due t_Mod_due l_Mod_84 g32 rfl rfl (s_Mod_due g32 g37 hL ha hd) rfl rfl ⟨Nat.le_of_ble_eq_true rfl, Nat.le_of_ble_eq_true rfl⟩ (Nat.le_of_ble_eq_true rfl)  ?_
  exact a_iret d_Mod_sign_8 rfl rfl rfl rfl
end
