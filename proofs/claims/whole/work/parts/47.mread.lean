/-! THE MODEL, reading: printed by wip/whole/t47.py -/
/-- the fault of a token -/
def mDue (L a : Nat) (tp : Nat → Int32) (l m lo hi : Int32) : Nat := if a < L then (if fRg (tp a) l m = 0 then 1 else if fRg (tp a) lo hi = 0 then 2 else 0) else 1
section
variable {V : VV} {h : AH} {n z : Nat}

set_option maxRecDepth 20000 in
set_option maxHeartbeats 4000000 in
theorem s_Mod_dueE {ac la il mn : Int32} {rs : Int64} {tb ve oa lm : Int32} {L a : Nat} {tp : Nat → Int32}(g32 : h 32 = oMod ac (nI L) la (nI a) il mn rs tb ve oa lm) (g37 : h 37 = aI 90 tp) (hL : L ≤ 90){l m lo hi : Int32} (ha : L ≤ a) (ha2 : a < 1000) : AMet V i_Mod_due 1 [.ref 32, .int l, .int m, .int lo, .int hi] h n z (some (.int 1)) (h) n z := by
  refine AMet.intro (Nat.le_refl _) (Nat.le_refl _) (by decide) (Nat.le_of_ble_eq_true rfl) rfl ?_
  refine a_aload_n d_Mod_due_0 rfl ?_
  refine a_getf d_Mod_due_1 f_Mod_81 g32 rfl ?_
  refine a_aload_n d_Mod_due_4 rfl ?_
  refine a_getf d_Mod_due_5 f_Mod_76 g32 rfl ?_
  refine a_icmp_ge 28 d_Mod_due_8 (by decide) (fun c8 => ?_) (fun c8 => absurd (nI_le ha (by omega)) c8)
  refine a_iconst (v := 1) d_Mod_due_28 (by decide) ?_
  exact a_iret d_Mod_due_29 rfl rfl rfl rfl
set_option maxRecDepth 20000 in
set_option maxHeartbeats 4000000 in
theorem s_Mod_dueF {ac la il mn : Int32} {rs : Int64} {tb ve oa lm : Int32} {L a : Nat} {tp : Nat → Int32}(g32 : h 32 = oMod ac (nI L) la (nI a) il mn rs tb ve oa lm) (g37 : h 37 = aI 90 tp) (hL : L ≤ 90){l m lo hi : Int32} (ha : a < L) (hd : mDue L a tp l m lo hi ≠ 0) : AMet V i_Mod_due 1 [.ref 32, .int l, .int m, .int lo, .int hi] h n z (some (.int (nI (mDue L a tp l m lo hi)))) (h) n z := by
  refine AMet.intro (Nat.le_refl _) (Nat.le_refl _) (by decide) (Nat.le_of_ble_eq_true rfl) rfl ?_
  refine a_aload_n d_Mod_due_0 rfl ?_
  refine a_getf d_Mod_due_1 f_Mod_81 g32 rfl ?_
  refine a_aload_n d_Mod_due_4 rfl ?_
  refine a_getf d_Mod_due_5 f_Mod_76 g32 rfl ?_
  refine a_icmp_ge 28 d_Mod_due_8 (by decide) (fun c8 => absurd c8 (nI_ge ha (by omega))) (fun c8 => ?_)
  refine a_aload_n d_Mod_due_11 rfl ?_
  refine a_getf d_Mod_due_12 f_Mod_22 g32 rfl ?_
  refine a_aload_n d_Mod_due_15 rfl ?_
  refine a_getf d_Mod_due_16 f_Mod_81 g32 rfl ?_
  refine a_iald d_Mod_due_19 g37 (nI_in (show a < 90 by omega) (by decide)) ?_
  rw [nI_clamp (by omega)]
  refine a_iload_n d_Mod_due_20 rfl ?_
  refine a_iload_n d_Mod_due_21 rfl ?_
  refine a_cs0 d_Mod_due_22 m_Mod_in t_Mod_in l_Mod_71 (s_Mod_in _ _ _) rfl rfl ⟨Nat.le_of_ble_eq_true rfl, Nat.le_of_ble_eq_true rfl⟩ (Nat.le_of_ble_eq_true rfl)  ?_
  refine a_if_ne 30 d_Mod_due_25 (by decide) (fun c25 => ?_) (fun c25 => ?_)
  · skip
    refine a_aload_n d_Mod_due_30 rfl ?_
    refine a_getf d_Mod_due_31 f_Mod_22 g32 rfl ?_
    refine a_aload_n d_Mod_due_34 rfl ?_
    refine a_getf d_Mod_due_35 f_Mod_81 g32 rfl ?_
    refine a_iald d_Mod_due_38 g37 (nI_in (show a < 90 by omega) (by decide)) ?_
    rw [nI_clamp (by omega)]
    refine a_iload_n d_Mod_due_39 rfl ?_
    refine a_iload d_Mod_due_40 rfl ?_
    refine a_cs0 d_Mod_due_42 m_Mod_in t_Mod_in l_Mod_71 (s_Mod_in _ _ _) rfl rfl ⟨Nat.le_of_ble_eq_true rfl, Nat.le_of_ble_eq_true rfl⟩ (Nat.le_of_ble_eq_true rfl)  ?_
    refine a_if_ne 50 d_Mod_due_45 (by decide) (fun c45 => ?_) (fun c45 => ?_)
    · skip
      exact absurd (show mDue L a tp l m lo hi = 0 by unfold mDue; rw [if_pos ha, if_neg c25, if_neg c45]) hd
    · skip
      refine a_iconst (v := 2) d_Mod_due_48 (by decide) ?_
      exact a_iret d_Mod_due_49 rfl (by unfold mDue; rw [if_pos ha, if_neg c25, if_pos c45]; rfl) rfl rfl
  · skip
    refine a_iconst (v := 1) d_Mod_due_28 (by decide) ?_
    exact a_iret d_Mod_due_29 rfl (by unfold mDue; rw [if_pos ha, if_pos c25]; rfl) rfl rfl
set_option maxRecDepth 20000 in
set_option maxHeartbeats 4000000 in
theorem s_Mod_due {ac la il mn : Int32} {rs : Int64} {tb ve oa lm : Int32} {L a : Nat} {tp : Nat → Int32}(g32 : h 32 = oMod ac (nI L) la (nI a) il mn rs tb ve oa lm) (g37 : h 37 = aI 90 tp) (hL : L ≤ 90){l m lo hi : Int32} (ha : a < L) (hd : mDue L a tp l m lo hi = 0) : AMet V i_Mod_due 1 [.ref 32, .int l, .int m, .int lo, .int hi] h n z (some (.int 0)) (hu h 32 (oMod ac (nI L) la (nI (a + 1)) il mn rs tb ve oa lm)) n z := by
  refine AMet.intro (Nat.le_refl _) (Nat.le_refl _) (by decide) (Nat.le_of_ble_eq_true rfl) rfl ?_
  refine a_aload_n d_Mod_due_0 rfl ?_
  refine a_getf d_Mod_due_1 f_Mod_81 g32 rfl ?_
  refine a_aload_n d_Mod_due_4 rfl ?_
  refine a_getf d_Mod_due_5 f_Mod_76 g32 rfl ?_
  refine a_icmp_ge 28 d_Mod_due_8 (by decide) (fun c8 => absurd c8 (nI_ge ha (by omega))) (fun c8 => ?_)
  refine a_aload_n d_Mod_due_11 rfl ?_
  refine a_getf d_Mod_due_12 f_Mod_22 g32 rfl ?_
  refine a_aload_n d_Mod_due_15 rfl ?_
  refine a_getf d_Mod_due_16 f_Mod_81 g32 rfl ?_
  refine a_iald d_Mod_due_19 g37 (nI_in (show a < 90 by omega) (by decide)) ?_
  rw [nI_clamp (by omega)]
  refine a_iload_n d_Mod_due_20 rfl ?_
  refine a_iload_n d_Mod_due_21 rfl ?_
  refine a_cs0 d_Mod_due_22 m_Mod_in t_Mod_in l_Mod_71 (s_Mod_in _ _ _) rfl rfl ⟨Nat.le_of_ble_eq_true rfl, Nat.le_of_ble_eq_true rfl⟩ (Nat.le_of_ble_eq_true rfl)  ?_
  refine a_if_ne 30 d_Mod_due_25 (by decide) (fun c25 => ?_) (fun c25 => absurd c25 (fun q => by unfold mDue at hd; rw [if_pos ha, if_pos q] at hd; cases hd))
  refine a_aload_n d_Mod_due_30 rfl ?_
  refine a_getf d_Mod_due_31 f_Mod_22 g32 rfl ?_
  refine a_aload_n d_Mod_due_34 rfl ?_
  refine a_getf d_Mod_due_35 f_Mod_81 g32 rfl ?_
  refine a_iald d_Mod_due_38 g37 (nI_in (show a < 90 by omega) (by decide)) ?_
  rw [nI_clamp (by omega)]
  refine a_iload_n d_Mod_due_39 rfl ?_
  refine a_iload d_Mod_due_40 rfl ?_
  refine a_cs0 d_Mod_due_42 m_Mod_in t_Mod_in l_Mod_71 (s_Mod_in _ _ _) rfl rfl ⟨Nat.le_of_ble_eq_true rfl, Nat.le_of_ble_eq_true rfl⟩ (Nat.le_of_ble_eq_true rfl)  ?_
  refine a_if_ne 50 d_Mod_due_45 (by decide) (fun c45 => ?_) (fun c45 => absurd c45 (fun q => by unfold mDue at hd; rw [if_pos ha, if_neg c25, if_pos q] at hd; cases hd))
  refine a_aload_n d_Mod_due_50 rfl ?_
  refine a_dup d_Mod_due_51 rfl ?_
  refine a_getf d_Mod_due_52 f_Mod_81 g32 rfl ?_
  refine a_iconst (v := 1) d_Mod_due_55 (by decide) ?_
  refine a_iadd d_Mod_due_56 ?_
  refine a_putf d_Mod_due_57 f_Mod_81 rfl g32 (Nat.le_of_ble_eq_true rfl) rfl rfl ?_
  refine a_iconst (v := 0) d_Mod_due_60 (by decide) ?_
  exact a_iret d_Mod_due_61 rfl rfl (by rw [← nI_1]; rfl) rfl
end
