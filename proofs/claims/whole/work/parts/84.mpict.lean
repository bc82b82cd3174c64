/-! THE MODEL's picture: printed by wip/whole/t84.py -/
section
variable {V : VV} {h : AH} {n z : Nat}

set_option maxRecDepth 20000 in
set_option maxHeartbeats 4000000 in
theorem s_Mod_pictureF {ac la ra il mn : Int32} {rs : Int64} {tb ve oa lm : Int32} {L : Nat} {f rd st : Nat → Int32} (g32 : h 32 = oMod ac (nI L) la ra il mn rs tb ve oa lm) (g33 : h 33 = aI 68 st) (g37 : h 37 = aI 90 f) (g38 : h 38 = aI 68 rd) (hL : L ≤ 90) (hN : rdN f L ≠ 0) (hN2 : rdN f L < 1000) : ∃ h1 rd', AMet V i_Mod_picture 5 [.ref 32] h n z (some (.int (-1000100 - nI (rdP f L)))) h1 n z ∧ h1 32 = oMod ac 0 (nI (rdN f L)) (nI (rdP f L)) il mn rs tb ve oa lm ∧ h1 38 = aI 68 rd' ∧ ∀ i, i ≠ 32 → i ≠ 38 → h1 i = h i := by
  obtain ⟨rd', fin, M⟩ := s_Mod_reads (V := V) (h := h) (n := n) (z := z) g37 hL g32 g38
  refine ⟨hu (hu h 38 (aI 68 rd')) 32 (oMod ac 0 (nI (rdN f L)) (nI (rdP f L)) il mn rs tb ve oa lm), rd', ?_, hu_s _ _ _, rfl, fun i q1 q2 => by rw [hu_n q1, hu_n q2]⟩
  have hne : ¬ nI (rdN f L) = 0 := nI_ne0 (by omega) (by omega)
  refine AMet.intro (Nat.le_refl _) (Nat.le_refl _) (by decide) (Nat.le_of_ble_eq_true rfl) rfl ?_
  refine a_aload_n d_Mod_picture_0 rfl ?_
  refine a_cv0 (a := 32) d_Mod_picture_1 m_Mod_reads t_Mod_reads l_Mod_95 g32 rfl rfl M rfl rfl ⟨Nat.le_of_ble_eq_true rfl, Nat.le_of_ble_eq_true rfl⟩ (Nat.le_of_ble_eq_true rfl)  ?_
  refine a_istore_n d_Mod_picture_4 (Nat.le_of_ble_eq_true rfl) (Nat.le_of_ble_eq_true rfl) rfl ?_
  refine a_aload_n d_Mod_picture_5 rfl ?_
  refine a_iconst (v := 0) d_Mod_picture_6 (by decide) ?_
  refine a_putf d_Mod_picture_7 f_Mod_76 rfl (show _ = oMod ac (nI L) la (nI (rdP f L)) il mn rs tb ve oa lm from hu_s _ _ _) (Nat.le_of_ble_eq_true rfl) rfl rfl ?_
  refine a_iload_n d_Mod_picture_10 rfl ?_
  refine a_if_eq 27 d_Mod_picture_11 (by decide) (fun c11 => absurd c11 hne) (fun c11 => ?_)
  refine a_aload_n d_Mod_picture_14 rfl ?_
  refine a_iload_n d_Mod_picture_15 rfl ?_
  refine a_putf d_Mod_picture_16 f_Mod_99 rfl (hu_s _ _ _) (Nat.le_of_ble_eq_true rfl) rfl rfl ?_
  refine a_ldc d_Mod_picture_19 k_Mod_102 ?_
  refine a_aload_n d_Mod_picture_21 rfl ?_
  refine a_getf d_Mod_picture_22 f_Mod_81 (hu_s _ _ _) rfl ?_
  refine a_isub d_Mod_picture_25 ?_
  exact a_iret d_Mod_picture_26 rfl rfl (by rw [hu_hu, hu_hu]; rfl) rfl
set_option maxRecDepth 20000 in
set_option maxHeartbeats 4000000 in
theorem s_Mod_picture {ac la ra il mn : Int32} {rs : Int64} {tb ve oa lm : Int32} {L : Nat} {f rd st : Nat → Int32} (g32 : h 32 = oMod ac (nI L) la ra il mn rs tb ve oa lm) (g33 : h 33 = aI 68 st) (g37 : h 37 = aI 90 f) (g38 : h 38 = aI 68 rd) (hL : L ≤ 90) (hN : rdN f L = 0) : ∃ h1 rd2 st2, AMet V i_Mod_picture 5 [.ref 32] h n z (some (.int (nI (pcn (rdQ f L).2.2 64)))) h1 n z ∧ h1 32 = oMod 0 0 la (nI (rdP f L)) 0 mn rs tb ve oa lm ∧ h1 33 = aI 68 st2 ∧ (∀ i, i < 68 → st2 i = stF ((rdQ f L).1, (rdQ f L).2.1, (rdQ f L).2.2, 0, 8) i) ∧ h1 38 = aI 68 rd2 ∧ ∀ i, i ≠ 32 → i ≠ 33 → i ≠ 38 → h1 i = h i := by
  obtain ⟨rd', fin, M⟩ := s_Mod_reads (V := V) (h := h) (n := n) (z := z) g37 hL g32 g38
  have R := fin hN
  have e68 : ∀ i, i < 68 → (pt st 0 68 (fun t => upd rd' 3 8 (0 + t))) i = stF ((rdQ f L).1, (rdQ f L).2.1, (rdQ f L).2.2, 0, 8) i := by
    intro i hi
    have := pt_in (f := st) (s := 0) (m := 68) (g := fun t => upd rd' 3 8 (0 + t)) hi
    rw [Nat.zero_add] at this
    rw [this]
    by_cases e : i = 3
    · subst e; rw [pk_us]; rfl
    · rw [pk_un e, R i hi]
      unfold stF
      simp only
      rw [if_neg e, if_neg e]
  obtain ⟨s0, s1, s2, s3, s4⟩ := MB.st0 e68
  refine ⟨(hu (hu (hu h 38 (aI 68 (upd rd' 3 8))) 33 (aI 68 (pt st 0 68 (fun t => upd rd' 3 8 (0 + t))))) 32 (oMod 0 0 la (nI (rdP f L)) 0 mn rs tb ve oa lm)), _, (pt st 0 68 (fun t => upd rd' 3 8 (0 + t))), ?_, hu_s _ _ _, rfl, e68, rfl, fun i q1 q2 q3 => by rw [hu_n q1, hu_n q2, hu_n q3]⟩
  have e0 : hu (hu (hu (hu h 38 (aI 68 (upd rd' 3 8))) 32 (oMod ac 0 la (nI (rdP f L)) il mn rs tb ve oa lm)) 33 (aI 68 (pt st 0 68 (fun t => upd rd' 3 8 (0 + t))))) 32 (oMod 0 0 la (nI (rdP f L)) 0 mn rs tb ve oa lm) = (hu (hu (hu h 38 (aI 68 (upd rd' 3 8))) 33 (aI 68 (pt st 0 68 (fun t => upd rd' 3 8 (0 + t))))) 32 (oMod 0 0 la (nI (rdP f L)) 0 mn rs tb ve oa lm)) := by
    rw [hu_comm _ (show (32 : Nat) ≠ 33 by decide), hu_hu]
  refine AMet.intro (Nat.le_refl _) (Nat.le_refl _) (by decide) (Nat.le_of_ble_eq_true rfl) rfl ?_
  refine a_aload_n d_Mod_picture_0 rfl ?_
  refine a_cv0 (a := 32) d_Mod_picture_1 m_Mod_reads t_Mod_reads l_Mod_95 g32 rfl rfl M rfl rfl ⟨Nat.le_of_ble_eq_true rfl, Nat.le_of_ble_eq_true rfl⟩ (Nat.le_of_ble_eq_true rfl)  ?_
  refine a_istore_n d_Mod_picture_4 (Nat.le_of_ble_eq_true rfl) (Nat.le_of_ble_eq_true rfl) rfl ?_
  refine a_aload_n d_Mod_picture_5 rfl ?_
  refine a_iconst (v := 0) d_Mod_picture_6 (by decide) ?_
  refine a_putf d_Mod_picture_7 f_Mod_76 rfl (show _ = oMod ac (nI L) la (nI (rdP f L)) il mn rs tb ve oa lm from hu_s _ _ _) (Nat.le_of_ble_eq_true rfl) rfl rfl ?_
  rw [hu_hu]
  refine a_iload_n d_Mod_picture_10 rfl ?_
  refine a_if_eq 27 d_Mod_picture_11 (by decide) (fun c11 => ?_) (fun c11 => absurd (by rw [hN]; rfl) c11)
  refine a_aload_n d_Mod_picture_27 rfl ?_
  refine a_getf d_Mod_picture_28 f_Mod_25 (show _ = oMod ac 0 la (nI (rdP f L)) il mn rs tb ve oa lm from hu_s _ _ _) rfl ?_
  refine a_iconst (v := 3) d_Mod_picture_31 (by decide) ?_
  refine a_bipush (v := 8) d_Mod_picture_32 (by decide) ?_
  refine a_iast d_Mod_picture_34 (show _ = aI 68 rd' from rfl) (nI_in (c := 3) (N := 68) (by decide) (by decide)) ?_
  rw [show (3 : Int32).toNatClampNeg = 3 from by decide]
  refine a_eq rfl rfl rfl (show hu (hu (hu h 38 (aI 68 rd')) 32 (oMod ac 0 la (nI (rdP f L)) il mn rs tb ve oa lm)) 38 (aI 68 (upd rd' 3 8)) = (hu (hu h 38 (aI 68 (upd rd' 3 8))) 32 (oMod ac 0 la (nI (rdP f L)) il mn rs tb ve oa lm)) from hR38 _ _ _ _) rfl rfl ?_
  refine a_aload_n d_Mod_picture_35 rfl ?_
  refine a_getf d_Mod_picture_36 f_Mod_25 (show _ = oMod ac 0 la (nI (rdP f L)) il mn rs tb ve oa lm from rfl) rfl ?_
  refine a_iconst (v := 0) d_Mod_picture_39 (by decide) ?_
  refine a_aload_n d_Mod_picture_40 rfl ?_
  refine a_getf d_Mod_picture_41 f_Mod_7 (show _ = oMod ac 0 la (nI (rdP f L)) il mn rs tb ve oa lm from rfl) rfl ?_
  refine a_iconst (v := 0) d_Mod_picture_44 (by decide) ?_
  refine a_bipush (v := 68) d_Mod_picture_45 (by decide) ?_
  refine a_cs0 d_Mod_picture_47 m_Mod_bring t_Mod_bring l_Mod_103 (s_bring (h := (hu (hu h 38 (aI 68 (upd rd' 3 8))) 32 (oMod ac 0 la (nI (rdP f L)) il mn rs tb ve oa lm))) (p := 38) (q := 33) (i := 0) (j := 0) (m := 68) (show _ = aI 68 (upd rd' 3 8) from rfl) (show _ = aI 68 st from g33) (by decide) (by decide) (by decide) (by decide) (by decide)) rfl rfl ⟨Nat.le_of_ble_eq_true rfl, Nat.le_of_ble_eq_true rfl⟩ (Nat.le_of_ble_eq_true rfl)  ?_
  refine a_aload_n d_Mod_picture_50 rfl ?_
  refine a_iconst (v := 0) d_Mod_picture_51 (by decide) ?_
  refine a_putf d_Mod_picture_52 f_Mod_107 rfl (show _ = oMod ac 0 la (nI (rdP f L)) il mn rs tb ve oa lm from rfl) (Nat.le_of_ble_eq_true rfl) rfl rfl ?_
  refine a_aload_n d_Mod_picture_55 rfl ?_
  refine a_iconst (v := 0) d_Mod_picture_56 (by decide) ?_
  refine a_putf d_Mod_picture_57 f_Mod_110 rfl (hu_s _ _ _) (Nat.le_of_ble_eq_true rfl) rfl rfl ?_
  rw [hu_hu]
  refine a_eq rfl rfl rfl e0 rfl rfl ?_
  refine a_aload_n d_Mod_picture_60 rfl ?_
  refine a_cv0 (a := 32) d_Mod_picture_61 m_Mod_dark t_Mod_dark l_Mod_114 (show _ = oMod 0 0 la (nI (rdP f L)) 0 mn rs tb ve oa lm from hu_s _ _ _) rfl rfl (s_Mod_dark (h := (hu (hu (hu h 38 (aI 68 (upd rd' 3 8))) 33 (aI 68 (pt st 0 68 (fun t => upd rd' 3 8 (0 + t))))) 32 (oMod 0 0 la (nI (rdP f L)) 0 mn rs tb ve oa lm))) (show _ = oMod 0 0 la (nI (rdP f L)) 0 mn rs tb ve oa lm from hu_s _ _ _) (show _ = aI 68 (pt st 0 68 (fun t => upd rd' 3 8 (0 + t))) from rfl) s4) rfl rfl ⟨Nat.le_of_ble_eq_true rfl, Nat.le_of_ble_eq_true rfl⟩ (Nat.le_of_ble_eq_true rfl)  ?_
  exact a_iret d_Mod_picture_64 rfl rfl rfl rfl
end
