/-! THE MODEL reads rows and all: printed by wip/whole/t82.py -/
section
variable {V : VV} {h : AH} {n z : Nat}

set_option maxRecDepth 20000 in
set_option maxHeartbeats 4000000 in
theorem L_row {ac la il mn : Int32} {rs : Int64} {tb ve oa lm : Int32} {L : Nat} {f : Nat → Int32} (g37 : h 37 = aI 90 f) (hL : L ≤ 90) {W H y : Nat} (hW1 : 1 ≤ W) (hW : W ≤ 8) (hH : H ≤ 8) (hy : y < H) : ∀ (m x : Nat), x + m = W → ∀ (rd : Nat → Int32), Pre f (4 + y * (W + 1) + x) → (4 + y * (W + 1) + x) ≤ L → (rdQ f (4 + y * (W + 1) + x)).1 = W → (rdQ f (4 + y * (W + 1) + x)).2.1 = H → Rd f (4 + y * (W + 1) + x) rd → ∃ r' a' rd', ((r' = 0 ∧ a' = (4 + (y + 1) * (W + 1)) ∧ a' ≤ L ∧ Pre f a' ∧ (rdQ f a').1 = W ∧ (rdQ f a').2.1 = H ∧ Rd f a' rd') ∨ (r' ≠ 0 ∧ r' = rdN f L ∧ a' = rdP f L)) ∧ AM V i_Mod_readsRow 3 n z (some (.int (nI r'))) (hu (hu h 38 (aI 68 rd')) 32 (oMod ac (nI L) la (nI a') il mn rs tb ve oa lm)) n z 4 [some (.ref 32), some (.int (nI y)), some (.int 0), some (.int (nI x)), none] [] (hu (hu h 38 (aI 68 rd)) 32 (oMod ac (nI L) la (nI (4 + y * (W + 1) + x)) il mn rs tb ve oa lm)) n z := by
  intro m
  induction m with
  | zero =>
    intro x hx rd pr hA eW eH R
    have e : x = W := by omega
    obtain ⟨x1, x2⟩ := row_ix (W := W) (y := y) (show x ≤ W by omega)
    have e0 : rd 0 = nI W := by rw [R 0 (by omega), eW]; rfl
    have tok : mDue L (4 + y * (W + 1) + x) f 59 59 59 59 = tF_ f L (4 + y * (W + 1) + x) := by
      rw [mDue_sign]
      unfold tF_
      by_cases c : (4 + y * (W + 1) + x) < L
      · rw [if_pos c, if_pos c, (rdQ_s (by omega)).2, eW, eH]
        unfold rwF
        rw [x1, x2, if_pos hy, if_pos e]
      · rw [if_neg c, if_neg c]
    have due := row_due (show x ≤ W by omega) hy eW eH
    by_cases hf : tF_ f L (4 + y * (W + 1) + x) = 0
    · obtain ⟨cl, cf, pr1⟩ := tF_ok pr hf
      obtain ⟨q1, -⟩ := rdQ_s (f := f) (a := (4 + y * (W + 1) + x)) (by omega)
      have ea : (4 + y * (W + 1) + x) + 1 = 4 + (y + 1) * (W + 1) := by rw [Nat.succ_mul]; omega
      have hc59 : ¬ f (4 + y * (W + 1) + x) = 120 := by
        intro q
        rw [← tok, mDue_sign, if_pos cl, q] at hf
        exact absurd hf (by decide)
      refine ⟨0, (4 + y * (W + 1) + x) + 1, rd, Or.inl ⟨rfl, ea, by omega, pr1, by rw [q1]; exact eW, by rw [q1]; exact eH, ?_⟩, ?_⟩
      · intro i hi
        rw [R i hi, q1]
        unfold rwD
        rw [if_neg hc59]
      · have em : (if mDue L (4 + y * (W + 1) + x) f 59 59 59 59 = 0 then (4 + y * (W + 1) + x) + 1 else (4 + y * (W + 1) + x)) = (4 + y * (W + 1) + x) + 1 := if_pos (tok.trans hf)
        refine a_iload_n d_Mod_readsRow_4 rfl ?_
        refine a_aload_n d_Mod_readsRow_5 rfl ?_
        refine a_getf d_Mod_readsRow_6 f_Mod_25 (show _ = oMod ac (nI L) la (nI (4 + y * (W + 1) + x)) il mn rs tb ve oa lm from hu_s _ _ _) rfl ?_
        refine a_iconst (v := 0) d_Mod_readsRow_9 (by decide) ?_
        refine a_iald d_Mod_readsRow_10 (show _ = aI 68 rd from rfl) (nI_in (c := 0) (N := 68) (by decide) (by decide)) ?_
        rw [show (0 : Int32).toNatClampNeg = 0 from by decide, e0]
        refine a_icmp_ge 112 d_Mod_readsRow_11 (by decide) (fun c11 => ?_) (fun c11 => absurd (nI_le (by omega) (by omega)) c11)
        refine a_iload_n d_Mod_readsRow_112 rfl ?_
        refine a_if_eq 120 d_Mod_readsRow_113 (by decide) (fun c113 => ?_) (fun c113 => absurd rfl c113)
        refine a_aload_n d_Mod_readsRow_120 rfl ?_
        refine a_bipush (v := 59) d_Mod_readsRow_121 (by decide) ?_
        refine a_cv0 (a := 32) d_Mod_readsRow_123 m_Mod_sign t_Mod_sign l_Mod_88 (show _ = oMod ac (nI L) la (nI (4 + y * (W + 1) + x)) il mn rs tb ve oa lm from hu_s _ _ _) rfl rfl (s_signX (h := (hu (hu h 38 (aI 68 rd)) 32 (oMod ac (nI L) la (nI (4 + y * (W + 1) + x)) il mn rs tb ve oa lm))) (L := L) (a := (4 + y * (W + 1) + x)) (tp := f) (show _ = oMod ac (nI L) la (nI (4 + y * (W + 1) + x)) il mn rs tb ve oa lm from hu_s _ _ _) (show _ = aI 90 f from g37) hL hA (c := 59)) rfl rfl ⟨Nat.le_of_ble_eq_true rfl, Nat.le_of_ble_eq_true rfl⟩ (Nat.le_of_ble_eq_true rfl)  ?_
        rw [hu_hu, em]
        exact a_iret d_Mod_readsRow_126 rfl (by rw [tok, hf]) rfl rfl
    · obtain ⟨f1, f2⟩ := tF_bad pr hA due hf
      refine ⟨tF_ f L (4 + y * (W + 1) + x), (4 + y * (W + 1) + x), rd, Or.inr ⟨hf, f2.symm, f1.symm⟩, ?_⟩
      have em : (if mDue L (4 + y * (W + 1) + x) f 59 59 59 59 = 0 then (4 + y * (W + 1) + x) + 1 else (4 + y * (W + 1) + x)) = (4 + y * (W + 1) + x) := if_neg (fun q => hf (tok.symm.trans q))
      refine a_iload_n d_Mod_readsRow_4 rfl ?_
      refine a_aload_n d_Mod_readsRow_5 rfl ?_
      refine a_getf d_Mod_readsRow_6 f_Mod_25 (show _ = oMod ac (nI L) la (nI (4 + y * (W + 1) + x)) il mn rs tb ve oa lm from hu_s _ _ _) rfl ?_
      refine a_iconst (v := 0) d_Mod_readsRow_9 (by decide) ?_
      refine a_iald d_Mod_readsRow_10 (show _ = aI 68 rd from rfl) (nI_in (c := 0) (N := 68) (by decide) (by decide)) ?_
      rw [show (0 : Int32).toNatClampNeg = 0 from by decide, e0]
      refine a_icmp_ge 112 d_Mod_readsRow_11 (by decide) (fun c11 => ?_) (fun c11 => absurd (nI_le (by omega) (by omega)) c11)
      refine a_iload_n d_Mod_readsRow_112 rfl ?_
      refine a_if_eq 120 d_Mod_readsRow_113 (by decide) (fun c113 => ?_) (fun c113 => absurd rfl c113)
      refine a_aload_n d_Mod_readsRow_120 rfl ?_
      refine a_bipush (v := 59) d_Mod_readsRow_121 (by decide) ?_
      refine a_cv0 (a := 32) d_Mod_readsRow_123 m_Mod_sign t_Mod_sign l_Mod_88 (show _ = oMod ac (nI L) la (nI (4 + y * (W + 1) + x)) il mn rs tb ve oa lm from hu_s _ _ _) rfl rfl (s_signX (h := (hu (hu h 38 (aI 68 rd)) 32 (oMod ac (nI L) la (nI (4 + y * (W + 1) + x)) il mn rs tb ve oa lm))) (L := L) (a := (4 + y * (W + 1) + x)) (tp := f) (show _ = oMod ac (nI L) la (nI (4 + y * (W + 1) + x)) il mn rs tb ve oa lm from hu_s _ _ _) (show _ = aI 90 f from g37) hL hA (c := 59)) rfl rfl ⟨Nat.le_of_ble_eq_true rfl, Nat.le_of_ble_eq_true rfl⟩ (Nat.le_of_ble_eq_true rfl)  ?_
      rw [hu_hu, em]
      exact a_iret d_Mod_readsRow_126 rfl (by rw [tok]) rfl rfl
  | succ m ih =>
    intro x hx rd pr hA eW eH R
    obtain ⟨x1, x2⟩ := row_ix (W := W) (y := y) (show x ≤ W by omega)
    have e0 : rd 0 = nI W := by rw [R 0 (by omega), eW]; rfl
    have due := row_due (show x ≤ W by omega) hy eW eH
    obtain ⟨q1, q2⟩ := rdQ_s (f := f) (a := (4 + y * (W + 1) + x)) (by omega)
    have lo := rdQ_lo hW1 hW (show 4 ≤ (4 + y * (W + 1) + x) by omega) pr eW eH (8 * y + x) (by omega) (by rw [show (8 * y + x) / 8 = y by omega, show (8 * y + x) % 8 = x by omega]; omega)
    have Rx := Rd_x hW hH (show x < W by omega) hy eW eH R lo
    by_cases cA : (4 + y * (W + 1) + x) < L ∧ f (4 + y * (W + 1) + x) = 120
    · have hF : rdF f (4 + y * (W + 1) + x) = 0 := by
        rw [q2, eW, eH]
        unfold rwF
        rw [x1, x2, if_pos hy, if_neg (show ¬ x = W by omega), cA.2]
        decide
      obtain ⟨r', a', rd', O, M⟩ := ih (x + 1) (by omega) _ (pr.s hF) (by omega) (by rw [← Nat.add_assoc, q1]; exact eW) (by rw [← Nat.add_assoc, q1]; exact eH) Rx
      refine ⟨r', a', rd', O, ?_⟩
      have em : (if mDue L (4 + y * (W + 1) + x) f 97 122 120 120 = 0 then (4 + y * (W + 1) + x) + 1 else (4 + y * (W + 1) + x)) = (4 + y * (W + 1) + x) + 1 := if_pos (mDue_x cA.2 cA.1)
      have ev : nI (mDue L (4 + y * (W + 1) + x) f 97 122 120 120) = 0 := by rw [mDue_x cA.2 cA.1]; rfl
      rw [if_pos cA.2] at M
      refine a_iload_n d_Mod_readsRow_4 rfl ?_
      refine a_aload_n d_Mod_readsRow_5 rfl ?_
      refine a_getf d_Mod_readsRow_6 f_Mod_25 (show _ = oMod ac (nI L) la (nI (4 + y * (W + 1) + x)) il mn rs tb ve oa lm from hu_s _ _ _) rfl ?_
      refine a_iconst (v := 0) d_Mod_readsRow_9 (by decide) ?_
      refine a_iald d_Mod_readsRow_10 (show _ = aI 68 rd from rfl) (nI_in (c := 0) (N := 68) (by decide) (by decide)) ?_
      rw [show (0 : Int32).toNatClampNeg = 0 from by decide, e0]
      refine a_icmp_ge 112 d_Mod_readsRow_11 (by decide) (fun c11 => absurd c11 (nI_ge (show x < W by omega) (by omega))) (fun c11 => ?_)
      refine a_iload_n d_Mod_readsRow_14 rfl ?_
      refine a_if_ne 112 d_Mod_readsRow_15 (by decide) (fun c15 => absurd c15 (fun q => q rfl)) (fun c15 => ?_)
      refine a_aload_n d_Mod_readsRow_18 rfl ?_
      refine a_getf d_Mod_readsRow_19 f_Mod_81 (show _ = oMod ac (nI L) la (nI (4 + y * (W + 1) + x)) il mn rs tb ve oa lm from hu_s _ _ _) rfl ?_
      refine a_aload_n d_Mod_readsRow_22 rfl ?_
      refine a_getf d_Mod_readsRow_23 f_Mod_76 (show _ = oMod ac (nI L) la (nI (4 + y * (W + 1) + x)) il mn rs tb ve oa lm from hu_s _ _ _) rfl ?_
      refine a_icmp_ge 47 d_Mod_readsRow_26 (by decide) (fun c26 => absurd c26 (nI_ge cA.1 (by omega))) (fun c26 => ?_)
      refine a_aload_n d_Mod_readsRow_29 rfl ?_
      refine a_getf d_Mod_readsRow_30 f_Mod_22 (show _ = oMod ac (nI L) la (nI (4 + y * (W + 1) + x)) il mn rs tb ve oa lm from hu_s _ _ _) rfl ?_
      refine a_aload_n d_Mod_readsRow_33 rfl ?_
      refine a_getf d_Mod_readsRow_34 f_Mod_81 (show _ = oMod ac (nI L) la (nI (4 + y * (W + 1) + x)) il mn rs tb ve oa lm from hu_s _ _ _) rfl ?_
      refine a_iald d_Mod_readsRow_37 (show _ = aI 90 f from g37) (nI_in (show (4 + y * (W + 1) + x) < 90 by omega) (by decide)) ?_
      rw [nI_clamp (by omega)]
      refine a_bipush (v := 120) d_Mod_readsRow_38 (by decide) ?_
      refine a_icmp_ne 47 d_Mod_readsRow_40 (by decide) (fun c40 => absurd c40 (fun q => q cA.2)) (fun c40 => ?_)
      refine a_iconst (v := 1) d_Mod_readsRow_43 (by decide) ?_
      refine a_goto 48 d_Mod_readsRow_44 (by decide) ?_
      refine a_istore d_Mod_readsRow_48 (Nat.le_of_ble_eq_true rfl) (Nat.le_of_ble_eq_true rfl) rfl ?_
      refine a_aload_n d_Mod_readsRow_50 rfl ?_
      refine a_bipush (v := 97) d_Mod_readsRow_51 (by decide) ?_
      refine a_bipush (v := 122) d_Mod_readsRow_53 (by decide) ?_
      refine a_iload d_Mod_readsRow_55 rfl ?_
      refine a_if_eq 65 d_Mod_readsRow_57 (by decide) (fun c57 => absurd c57 (by decide)) (fun c57 => ?_)
      refine a_bipush (v := 120) d_Mod_readsRow_60 (by decide) ?_
      refine a_goto 67 d_Mod_readsRow_62 (by decide) ?_
      refine a_iload d_Mod_readsRow_67 rfl ?_
      refine a_if_eq 77 d_Mod_readsRow_69 (by decide) (fun c69 => absurd c69 (by decide)) (fun c69 => ?_)
      refine a_bipush (v := 120) d_Mod_readsRow_72 (by decide) ?_
      refine a_goto 79 d_Mod_readsRow_74 (by decide) ?_
      refine a_cv0 (a := 32) d_Mod_readsRow_79 m_Mod_due t_Mod_due l_Mod_84 (show _ = oMod ac (nI L) la (nI (4 + y * (W + 1) + x)) il mn rs tb ve oa lm from hu_s _ _ _) rfl rfl (s_dueX (h := (hu (hu h 38 (aI 68 rd)) 32 (oMod ac (nI L) la (nI (4 + y * (W + 1) + x)) il mn rs tb ve oa lm))) (L := L) (a := (4 + y * (W + 1) + x)) (tp := f) (show _ = oMod ac (nI L) la (nI (4 + y * (W + 1) + x)) il mn rs tb ve oa lm from hu_s _ _ _) (show _ = aI 90 f from g37) hL hA (l := 97) (m := 122) (lo := 120) (hi := 120)) rfl rfl ⟨Nat.le_of_ble_eq_true rfl, Nat.le_of_ble_eq_true rfl⟩ (Nat.le_of_ble_eq_true rfl)  ?_
      rw [hu_hu, em]
      refine a_istore_n d_Mod_readsRow_82 (Nat.le_of_ble_eq_true rfl) (Nat.le_of_ble_eq_true rfl) rfl ?_
      refine a_aload_n d_Mod_readsRow_83 rfl ?_
      refine a_getf d_Mod_readsRow_84 f_Mod_25 (show _ = oMod ac (nI L) la (nI ((4 + y * (W + 1) + x) + 1)) il mn rs tb ve oa lm from hu_s _ _ _) rfl ?_
      refine a_iconst (v := 4) d_Mod_readsRow_87 (by decide) ?_
      refine a_bipush (v := 8) d_Mod_readsRow_88 (by decide) ?_
      refine a_iload_n d_Mod_readsRow_90 rfl ?_
      refine a_imul d_Mod_readsRow_91 ?_
      refine a_iadd d_Mod_readsRow_92 ?_
      refine a_iload_n d_Mod_readsRow_93 rfl ?_
      refine a_iadd d_Mod_readsRow_94 ?_
      refine a_iload d_Mod_readsRow_95 rfl ?_
      refine a_if_eq 104 d_Mod_readsRow_97 (by decide) (fun c97 => absurd c97 (by decide)) (fun c97 => ?_)
      refine a_iconst (v := 1) d_Mod_readsRow_100 (by decide) ?_
      refine a_goto 105 d_Mod_readsRow_101 (by decide) ?_
      rw [ixE]
      refine a_iast d_Mod_readsRow_105 (show _ = aI 68 rd from rfl) (nI_in (show 4 + 8 * y + x < 68 by omega) (by decide)) ?_
      refine a_iinc d_Mod_readsRow_106 rfl (nI_1 x) (Nat.le_of_ble_eq_true rfl) rfl ?_
      refine a_goto 4 d_Mod_readsRow_109 (by decide) ?_
      refine a_drop 4 ?_
      rw [hR38, nI_clamp (by omega)]
      rw [ev]
      exact M
    · have tok := mDue_o (L := L) (show 4 ≤ (4 + y * (W + 1) + x) by omega) eW eH x1 x2 (show x < W by omega) hy cA
      by_cases hf : tF_ f L (4 + y * (W + 1) + x) = 0
      · obtain ⟨cl, cf, pr1⟩ := tF_ok pr hf
        have cB : ¬ f (4 + y * (W + 1) + x) = 120 := fun q => cA ⟨cl, q⟩
        obtain ⟨r', a', rd', O, M⟩ := ih (x + 1) (by omega) _ pr1 (by omega) (by rw [← Nat.add_assoc, q1]; exact eW) (by rw [← Nat.add_assoc, q1]; exact eH) Rx
        refine ⟨r', a', rd', O, ?_⟩
        have em : (if mDue L (4 + y * (W + 1) + x) f 97 122 111 111 = 0 then (4 + y * (W + 1) + x) + 1 else (4 + y * (W + 1) + x)) = (4 + y * (W + 1) + x) + 1 := if_pos (tok.trans hf)
        have ev : nI (mDue L (4 + y * (W + 1) + x) f 97 122 111 111) = 0 := by rw [tok, hf]; rfl
        have cL := cl
        rw [if_neg cB] at M
        refine a_iload_n d_Mod_readsRow_4 rfl ?_
        refine a_aload_n d_Mod_readsRow_5 rfl ?_
        refine a_getf d_Mod_readsRow_6 f_Mod_25 (show _ = oMod ac (nI L) la (nI (4 + y * (W + 1) + x)) il mn rs tb ve oa lm from hu_s _ _ _) rfl ?_
        refine a_iconst (v := 0) d_Mod_readsRow_9 (by decide) ?_
        refine a_iald d_Mod_readsRow_10 (show _ = aI 68 rd from rfl) (nI_in (c := 0) (N := 68) (by decide) (by decide)) ?_
        rw [show (0 : Int32).toNatClampNeg = 0 from by decide, e0]
        refine a_icmp_ge 112 d_Mod_readsRow_11 (by decide) (fun c11 => absurd c11 (nI_ge (show x < W by omega) (by omega))) (fun c11 => ?_)
        refine a_iload_n d_Mod_readsRow_14 rfl ?_
        refine a_if_ne 112 d_Mod_readsRow_15 (by decide) (fun c15 => absurd c15 (fun q => q rfl)) (fun c15 => ?_)
        refine a_aload_n d_Mod_readsRow_18 rfl ?_
        refine a_getf d_Mod_readsRow_19 f_Mod_81 (show _ = oMod ac (nI L) la (nI (4 + y * (W + 1) + x)) il mn rs tb ve oa lm from hu_s _ _ _) rfl ?_
        refine a_aload_n d_Mod_readsRow_22 rfl ?_
        refine a_getf d_Mod_readsRow_23 f_Mod_76 (show _ = oMod ac (nI L) la (nI (4 + y * (W + 1) + x)) il mn rs tb ve oa lm from hu_s _ _ _) rfl ?_
        refine a_icmp_ge 47 d_Mod_readsRow_26 (by decide) (fun c26 => absurd c26 (nI_ge cL (by omega))) (fun c26 => ?_)
        refine a_aload_n d_Mod_readsRow_29 rfl ?_
        refine a_getf d_Mod_readsRow_30 f_Mod_22 (show _ = oMod ac (nI L) la (nI (4 + y * (W + 1) + x)) il mn rs tb ve oa lm from hu_s _ _ _) rfl ?_
        refine a_aload_n d_Mod_readsRow_33 rfl ?_
        refine a_getf d_Mod_readsRow_34 f_Mod_81 (show _ = oMod ac (nI L) la (nI (4 + y * (W + 1) + x)) il mn rs tb ve oa lm from hu_s _ _ _) rfl ?_
        refine a_iald d_Mod_readsRow_37 (show _ = aI 90 f from g37) (nI_in (show (4 + y * (W + 1) + x) < 90 by omega) (by decide)) ?_
        rw [nI_clamp (by omega)]
        refine a_bipush (v := 120) d_Mod_readsRow_38 (by decide) ?_
        refine a_icmp_ne 47 d_Mod_readsRow_40 (by decide) (fun c40 => ?_) (fun c40 => absurd c40 cB)
        refine a_iconst (v := 0) d_Mod_readsRow_47 (by decide) ?_
        refine a_istore d_Mod_readsRow_48 (Nat.le_of_ble_eq_true rfl) (Nat.le_of_ble_eq_true rfl) rfl ?_
        refine a_aload_n d_Mod_readsRow_50 rfl ?_
        refine a_bipush (v := 97) d_Mod_readsRow_51 (by decide) ?_
        refine a_bipush (v := 122) d_Mod_readsRow_53 (by decide) ?_
        refine a_iload d_Mod_readsRow_55 rfl ?_
        refine a_if_eq 65 d_Mod_readsRow_57 (by decide) (fun c57 => ?_) (fun c57 => absurd rfl c57)
        refine a_bipush (v := 111) d_Mod_readsRow_65 (by decide) ?_
        refine a_iload d_Mod_readsRow_67 rfl ?_
        refine a_if_eq 77 d_Mod_readsRow_69 (by decide) (fun c69 => ?_) (fun c69 => absurd rfl c69)
        refine a_bipush (v := 111) d_Mod_readsRow_77 (by decide) ?_
        refine a_cv0 (a := 32) d_Mod_readsRow_79 m_Mod_due t_Mod_due l_Mod_84 (show _ = oMod ac (nI L) la (nI (4 + y * (W + 1) + x)) il mn rs tb ve oa lm from hu_s _ _ _) rfl rfl (s_dueX (h := (hu (hu h 38 (aI 68 rd)) 32 (oMod ac (nI L) la (nI (4 + y * (W + 1) + x)) il mn rs tb ve oa lm))) (L := L) (a := (4 + y * (W + 1) + x)) (tp := f) (show _ = oMod ac (nI L) la (nI (4 + y * (W + 1) + x)) il mn rs tb ve oa lm from hu_s _ _ _) (show _ = aI 90 f from g37) hL hA (l := 97) (m := 122) (lo := 111) (hi := 111)) rfl rfl ⟨Nat.le_of_ble_eq_true rfl, Nat.le_of_ble_eq_true rfl⟩ (Nat.le_of_ble_eq_true rfl)  ?_
        rw [hu_hu, em]
        refine a_istore_n d_Mod_readsRow_82 (Nat.le_of_ble_eq_true rfl) (Nat.le_of_ble_eq_true rfl) rfl ?_
        refine a_aload_n d_Mod_readsRow_83 rfl ?_
        refine a_getf d_Mod_readsRow_84 f_Mod_25 (show _ = oMod ac (nI L) la (nI ((4 + y * (W + 1) + x) + 1)) il mn rs tb ve oa lm from hu_s _ _ _) rfl ?_
        refine a_iconst (v := 4) d_Mod_readsRow_87 (by decide) ?_
        refine a_bipush (v := 8) d_Mod_readsRow_88 (by decide) ?_
        refine a_iload_n d_Mod_readsRow_90 rfl ?_
        refine a_imul d_Mod_readsRow_91 ?_
        refine a_iadd d_Mod_readsRow_92 ?_
        refine a_iload_n d_Mod_readsRow_93 rfl ?_
        refine a_iadd d_Mod_readsRow_94 ?_
        refine a_iload d_Mod_readsRow_95 rfl ?_
        refine a_if_eq 104 d_Mod_readsRow_97 (by decide) (fun c97 => ?_) (fun c97 => absurd rfl c97)
        refine a_iconst (v := 0) d_Mod_readsRow_104 (by decide) ?_
        rw [ixE]
        refine a_iast d_Mod_readsRow_105 (show _ = aI 68 rd from rfl) (nI_in (show 4 + 8 * y + x < 68 by omega) (by decide)) ?_
        refine a_iinc d_Mod_readsRow_106 rfl (nI_1 x) (Nat.le_of_ble_eq_true rfl) rfl ?_
        refine a_goto 4 d_Mod_readsRow_109 (by decide) ?_
        refine a_drop 4 ?_
        rw [hR38, nI_clamp (by omega)]
        rw [ev]
        exact M

      · obtain ⟨f1, f2⟩ := tF_bad pr hA due hf
        have hb2 : tF_ f L (4 + y * (W + 1) + x) < 1000 := by
          rw [← tok]
          unfold mDue
          repeat' split
          all_goals omega
        refine ⟨tF_ f L (4 + y * (W + 1) + x), (4 + y * (W + 1) + x), upd rd (4 + 8 * y + x) 0, Or.inr ⟨hf, f2.symm, f1.symm⟩, ?_⟩
        have em : (if mDue L (4 + y * (W + 1) + x) f 97 122 111 111 = 0 then (4 + y * (W + 1) + x) + 1 else (4 + y * (W + 1) + x)) = (4 + y * (W + 1) + x) := if_neg (fun q => hf (tok.symm.trans q))
        rcases Nat.lt_or_ge (4 + y * (W + 1) + x) L with cL | cL
        · have cB : ¬ f (4 + y * (W + 1) + x) = 120 := fun q => cA ⟨cL, q⟩
          refine a_iload_n d_Mod_readsRow_4 rfl ?_
          refine a_aload_n d_Mod_readsRow_5 rfl ?_
          refine a_getf d_Mod_readsRow_6 f_Mod_25 (show _ = oMod ac (nI L) la (nI (4 + y * (W + 1) + x)) il mn rs tb ve oa lm from hu_s _ _ _) rfl ?_
          refine a_iconst (v := 0) d_Mod_readsRow_9 (by decide) ?_
          refine a_iald d_Mod_readsRow_10 (show _ = aI 68 rd from rfl) (nI_in (c := 0) (N := 68) (by decide) (by decide)) ?_
          rw [show (0 : Int32).toNatClampNeg = 0 from by decide, e0]
          refine a_icmp_ge 112 d_Mod_readsRow_11 (by decide) (fun c11 => absurd c11 (nI_ge (show x < W by omega) (by omega))) (fun c11 => ?_)
          refine a_iload_n d_Mod_readsRow_14 rfl ?_
          refine a_if_ne 112 d_Mod_readsRow_15 (by decide) (fun c15 => absurd c15 (fun q => q rfl)) (fun c15 => ?_)
          refine a_aload_n d_Mod_readsRow_18 rfl ?_
          refine a_getf d_Mod_readsRow_19 f_Mod_81 (show _ = oMod ac (nI L) la (nI (4 + y * (W + 1) + x)) il mn rs tb ve oa lm from hu_s _ _ _) rfl ?_
          refine a_aload_n d_Mod_readsRow_22 rfl ?_
          refine a_getf d_Mod_readsRow_23 f_Mod_76 (show _ = oMod ac (nI L) la (nI (4 + y * (W + 1) + x)) il mn rs tb ve oa lm from hu_s _ _ _) rfl ?_
          refine a_icmp_ge 47 d_Mod_readsRow_26 (by decide) (fun c26 => absurd c26 (nI_ge cL (by omega))) (fun c26 => ?_)
          refine a_aload_n d_Mod_readsRow_29 rfl ?_
          refine a_getf d_Mod_readsRow_30 f_Mod_22 (show _ = oMod ac (nI L) la (nI (4 + y * (W + 1) + x)) il mn rs tb ve oa lm from hu_s _ _ _) rfl ?_
          refine a_aload_n d_Mod_readsRow_33 rfl ?_
          refine a_getf d_Mod_readsRow_34 f_Mod_81 (show _ = oMod ac (nI L) la (nI (4 + y * (W + 1) + x)) il mn rs tb ve oa lm from hu_s _ _ _) rfl ?_
          refine a_iald d_Mod_readsRow_37 (show _ = aI 90 f from g37) (nI_in (show (4 + y * (W + 1) + x) < 90 by omega) (by decide)) ?_
          rw [nI_clamp (by omega)]
          refine a_bipush (v := 120) d_Mod_readsRow_38 (by decide) ?_
          refine a_icmp_ne 47 d_Mod_readsRow_40 (by decide) (fun c40 => ?_) (fun c40 => absurd c40 cB)
          refine a_iconst (v := 0) d_Mod_readsRow_47 (by decide) ?_
          refine a_istore d_Mod_readsRow_48 (Nat.le_of_ble_eq_true rfl) (Nat.le_of_ble_eq_true rfl) rfl ?_
          refine a_aload_n d_Mod_readsRow_50 rfl ?_
          refine a_bipush (v := 97) d_Mod_readsRow_51 (by decide) ?_
          refine a_bipush (v := 122) d_Mod_readsRow_53 (by decide) ?_
          refine a_iload d_Mod_readsRow_55 rfl ?_
          refine a_if_eq 65 d_Mod_readsRow_57 (by decide) (fun c57 => ?_) (fun c57 => absurd rfl c57)
          refine a_bipush (v := 111) d_Mod_readsRow_65 (by decide) ?_
          refine a_iload d_Mod_readsRow_67 rfl ?_
          refine a_if_eq 77 d_Mod_readsRow_69 (by decide) (fun c69 => ?_) (fun c69 => absurd rfl c69)
          refine a_bipush (v := 111) d_Mod_readsRow_77 (by decide) ?_
          refine a_cv0 (a := 32) d_Mod_readsRow_79 m_Mod_due t_Mod_due l_Mod_84 (show _ = oMod ac (nI L) la (nI (4 + y * (W + 1) + x)) il mn rs tb ve oa lm from hu_s _ _ _) rfl rfl (s_dueX (h := (hu (hu h 38 (aI 68 rd)) 32 (oMod ac (nI L) la (nI (4 + y * (W + 1) + x)) il mn rs tb ve oa lm))) (L := L) (a := (4 + y * (W + 1) + x)) (tp := f) (show _ = oMod ac (nI L) la (nI (4 + y * (W + 1) + x)) il mn rs tb ve oa lm from hu_s _ _ _) (show _ = aI 90 f from g37) hL hA (l := 97) (m := 122) (lo := 111) (hi := 111)) rfl rfl ⟨Nat.le_of_ble_eq_true rfl, Nat.le_of_ble_eq_true rfl⟩ (Nat.le_of_ble_eq_true rfl)  ?_
          rw [hu_hu, em]
          refine a_istore_n d_Mod_readsRow_82 (Nat.le_of_ble_eq_true rfl) (Nat.le_of_ble_eq_true rfl) rfl ?_
          refine a_aload_n d_Mod_readsRow_83 rfl ?_
          refine a_getf d_Mod_readsRow_84 f_Mod_25 (show _ = oMod ac (nI L) la (nI (4 + y * (W + 1) + x)) il mn rs tb ve oa lm from hu_s _ _ _) rfl ?_
          refine a_iconst (v := 4) d_Mod_readsRow_87 (by decide) ?_
          refine a_bipush (v := 8) d_Mod_readsRow_88 (by decide) ?_
          refine a_iload_n d_Mod_readsRow_90 rfl ?_
          refine a_imul d_Mod_readsRow_91 ?_
          refine a_iadd d_Mod_readsRow_92 ?_
          refine a_iload_n d_Mod_readsRow_93 rfl ?_
          refine a_iadd d_Mod_readsRow_94 ?_
          refine a_iload d_Mod_readsRow_95 rfl ?_
          refine a_if_eq 104 d_Mod_readsRow_97 (by decide) (fun c97 => ?_) (fun c97 => absurd rfl c97)
          refine a_iconst (v := 0) d_Mod_readsRow_104 (by decide) ?_
          rw [ixE]
          refine a_iast d_Mod_readsRow_105 (show _ = aI 68 rd from rfl) (nI_in (show 4 + 8 * y + x < 68 by omega) (by decide)) ?_
          refine a_iinc d_Mod_readsRow_106 rfl (nI_1 x) (Nat.le_of_ble_eq_true rfl) rfl ?_
          refine a_goto 4 d_Mod_readsRow_109 (by decide) ?_
          refine a_drop 4 ?_
          rw [hR38, nI_clamp (by omega)]
          rw [tok]
          exact E_row (x4 := none) g37 hL hf hb2
        · skip
          refine a_iload_n d_Mod_readsRow_4 rfl ?_
          refine a_aload_n d_Mod_readsRow_5 rfl ?_
          refine a_getf d_Mod_readsRow_6 f_Mod_25 (show _ = oMod ac (nI L) la (nI (4 + y * (W + 1) + x)) il mn rs tb ve oa lm from hu_s _ _ _) rfl ?_
          refine a_iconst (v := 0) d_Mod_readsRow_9 (by decide) ?_
          refine a_iald d_Mod_readsRow_10 (show _ = aI 68 rd from rfl) (nI_in (c := 0) (N := 68) (by decide) (by decide)) ?_
          rw [show (0 : Int32).toNatClampNeg = 0 from by decide, e0]
          refine a_icmp_ge 112 d_Mod_readsRow_11 (by decide) (fun c11 => absurd c11 (nI_ge (show x < W by omega) (by omega))) (fun c11 => ?_)
          refine a_iload_n d_Mod_readsRow_14 rfl ?_
          refine a_if_ne 112 d_Mod_readsRow_15 (by decide) (fun c15 => absurd c15 (fun q => q rfl)) (fun c15 => ?_)
          refine a_aload_n d_Mod_readsRow_18 rfl ?_
          refine a_getf d_Mod_readsRow_19 f_Mod_81 (show _ = oMod ac (nI L) la (nI (4 + y * (W + 1) + x)) il mn rs tb ve oa lm from hu_s _ _ _) rfl ?_
          refine a_aload_n d_Mod_readsRow_22 rfl ?_
          refine a_getf d_Mod_readsRow_23 f_Mod_76 (show _ = oMod ac (nI L) la (nI (4 + y * (W + 1) + x)) il mn rs tb ve oa lm from hu_s _ _ _) rfl ?_
          refine a_icmp_ge 47 d_Mod_readsRow_26 (by decide) (fun c26 => ?_) (fun c26 => absurd (nI_le (by omega) (by omega)) c26)
          refine a_iconst (v := 0) d_Mod_readsRow_47 (by decide) ?_
          refine a_istore d_Mod_readsRow_48 (Nat.le_of_ble_eq_true rfl) (Nat.le_of_ble_eq_true rfl) rfl ?_
          refine a_aload_n d_Mod_readsRow_50 rfl ?_
          refine a_bipush (v := 97) d_Mod_readsRow_51 (by decide) ?_
          refine a_bipush (v := 122) d_Mod_readsRow_53 (by decide) ?_
          refine a_iload d_Mod_readsRow_55 rfl ?_
          refine a_if_eq 65 d_Mod_readsRow_57 (by decide) (fun c57 => ?_) (fun c57 => absurd rfl c57)
          refine a_bipush (v := 111) d_Mod_readsRow_65 (by decide) ?_
          refine a_iload d_Mod_readsRow_67 rfl ?_
          refine a_if_eq 77 d_Mod_readsRow_69 (by decide) (fun c69 => ?_) (fun c69 => absurd rfl c69)
          refine a_bipush (v := 111) d_Mod_readsRow_77 (by decide) ?_
          refine a_cv0 (a := 32) d_Mod_readsRow_79 m_Mod_due t_Mod_due l_Mod_84 (show _ = oMod ac (nI L) la (nI (4 + y * (W + 1) + x)) il mn rs tb ve oa lm from hu_s _ _ _) rfl rfl (s_dueX (h := (hu (hu h 38 (aI 68 rd)) 32 (oMod ac (nI L) la (nI (4 + y * (W + 1) + x)) il mn rs tb ve oa lm))) (L := L) (a := (4 + y * (W + 1) + x)) (tp := f) (show _ = oMod ac (nI L) la (nI (4 + y * (W + 1) + x)) il mn rs tb ve oa lm from hu_s _ _ _) (show _ = aI 90 f from g37) hL hA (l := 97) (m := 122) (lo := 111) (hi := 111)) rfl rfl ⟨Nat.le_of_ble_eq_true rfl, Nat.le_of_ble_eq_true rfl⟩ (Nat.le_of_ble_eq_true rfl)  ?_
          rw [hu_hu, em]
          refine a_istore_n d_Mod_readsRow_82 (Nat.le_of_ble_eq_true rfl) (Nat.le_of_ble_eq_true rfl) rfl ?_
          refine a_aload_n d_Mod_readsRow_83 rfl ?_
          refine a_getf d_Mod_readsRow_84 f_Mod_25 (show _ = oMod ac (nI L) la (nI (4 + y * (W + 1) + x)) il mn rs tb ve oa lm from hu_s _ _ _) rfl ?_
          refine a_iconst (v := 4) d_Mod_readsRow_87 (by decide) ?_
          refine a_bipush (v := 8) d_Mod_readsRow_88 (by decide) ?_
          refine a_iload_n d_Mod_readsRow_90 rfl ?_
          refine a_imul d_Mod_readsRow_91 ?_
          refine a_iadd d_Mod_readsRow_92 ?_
          refine a_iload_n d_Mod_readsRow_93 rfl ?_
          refine a_iadd d_Mod_readsRow_94 ?_
          refine a_iload d_Mod_readsRow_95 rfl ?_
          refine a_if_eq 104 d_Mod_readsRow_97 (by decide) (fun c97 => ?_) (fun c97 => absurd rfl c97)
          refine a_iconst (v := 0) d_Mod_readsRow_104 (by decide) ?_
          rw [ixE]
          refine a_iast d_Mod_readsRow_105 (show _ = aI 68 rd from rfl) (nI_in (show 4 + 8 * y + x < 68 by omega) (by decide)) ?_
          refine a_iinc d_Mod_readsRow_106 rfl (nI_1 x) (Nat.le_of_ble_eq_true rfl) rfl ?_
          refine a_goto 4 d_Mod_readsRow_109 (by decide) ?_
          refine a_drop 4 ?_
          rw [hR38, nI_clamp (by omega)]
          rw [tok]
          exact E_row (x4 := none) g37 hL hf hb2
set_option maxRecDepth 20000 in
set_option maxHeartbeats 4000000 in
theorem s_readsRow {ac la il mn : Int32} {rs : Int64} {tb ve oa lm : Int32} {L : Nat} {f : Nat → Int32} (g37 : h 37 = aI 90 f) (hL : L ≤ 90) {W H y : Nat} (hW1 : 1 ≤ W) (hW : W ≤ 8) (hH : H ≤ 8) (hy : y < H) {rd : Nat → Int32} (pr : Pre f (4 + y * (W + 1))) (hA : (4 + y * (W + 1)) ≤ L) (eW : (rdQ f (4 + y * (W + 1))).1 = W) (eH : (rdQ f (4 + y * (W + 1))).2.1 = H) (R : Rd f (4 + y * (W + 1)) rd) : ∃ r' a' rd', ((r' = 0 ∧ a' = (4 + (y + 1) * (W + 1)) ∧ a' ≤ L ∧ Pre f a' ∧ (rdQ f a').1 = W ∧ (rdQ f a').2.1 = H ∧ Rd f a' rd') ∨ (r' ≠ 0 ∧ r' = rdN f L ∧ a' = rdP f L)) ∧ AMet V i_Mod_readsRow 3 [.ref 32, .int (nI y)] (hu (hu h 38 (aI 68 rd)) 32 (oMod ac (nI L) la (nI (4 + y * (W + 1))) il mn rs tb ve oa lm)) n z (some (.int (nI r'))) (hu (hu h 38 (aI 68 rd')) 32 (oMod ac (nI L) la (nI a') il mn rs tb ve oa lm)) n z := by
  obtain ⟨r', a', rd', O, M⟩ := L_row (V := V) (h := h) (n := n) (z := z) (ac := ac) (la := la) (il := il) (mn := mn) (rs := rs) (tb := tb) (ve := ve) (oa := oa) (lm := lm) g37 hL hW1 hW hH hy W 0 (by omega) rd pr hA eW eH R
  refine ⟨r', a', rd', O, ?_⟩
  refine AMet.intro (Nat.le_refl _) (Nat.le_refl _) (by decide) (Nat.le_of_ble_eq_true rfl) rfl ?_
  refine a_iconst (v := 0) d_Mod_readsRow_0 (by decide) ?_
  refine a_istore_n d_Mod_readsRow_1 (Nat.le_of_ble_eq_true rfl) (Nat.le_of_ble_eq_true rfl) rfl ?_
  refine a_iconst (v := 0) d_Mod_readsRow_2 (by decide) ?_
  refine a_istore_n d_Mod_readsRow_3 (Nat.le_of_ble_eq_true rfl) (Nat.le_of_ble_eq_true rfl) rfl ?_
  exact M
end
