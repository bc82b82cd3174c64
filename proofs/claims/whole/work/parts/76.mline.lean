/-! THE MODEL lays a line: printed by wip/whole/t76.py -/
section
variable {V : VV} {h : AH} {n z : Nat}

set_option maxRecDepth 20000 in
set_option maxHeartbeats 4000000 in
theorem L_line0 {ac by_ la ra il mn : Int32} {rs : Int64} {tb oa : Int32} {fr cx cy vv : Nat → Int32} {B S0 P nv : Nat} {X Y : Nat → Int} {cn : Nat → Nat} (k39 : h 39 = aI 40 fr) (k44 : h 44 = aI 160 cx) (k45 : h 45 = aI 160 cy) (k49 : h 49 = aI 144 vv) (hB : B < 40) (m1 : fr B = nI S0) (hs : S0 + P ≤ 144) (hnv : 0 < nv) (hnP : nv ≤ P) (Rw : Row cx cy S0 P X Y) (tvx : ∀ k, k < nv → vv k = nI (cn k)) (hcn : ∀ k, k < nv → cn k < P) {st : Nat → Int32} (k33 : h 33 = aI 68 st) {sh : Int32} (s3 : st 3 = sh) (S : Sh X Y) (bn : Bnd X Y P nv cn) (hP : P ≤ 144) : ∀ (m k : Nat), k + m = nv → ∀ (n1 : Nat) (lx ly : Nat → Int32) (fx fy : Nat → Int), LnP V X Y P nv cn 0 sh k n1 lx ly fx fy → ∃ N lx' ly' fx' fy', LnP V X Y P nv cn 0 sh nv N lx' ly' fx' fy' ∧ AM V i_Mod_laysLine 4 n z none (hu (hu (hu h 51 (aI 600 lx')) 52 (aI 600 ly')) 32 (oMod ac by_ la ra il mn rs tb (nI nv) oa (nI N))) n z 12 [some (.ref 32), some (.int (nI B)), some (.int 0), some (.int (nI k)), none] [] (hu (hu (hu h 51 (aI 600 lx)) 52 (aI 600 ly)) 32 (oMod ac by_ la ra il mn rs tb (nI nv) oa (nI n1))) n z := by
  intro m
  induction m with
  | zero =>
    intro k hk n1 lx ly fx fy L
    have e : k = nv := by omega
    subst e
    refine ⟨n1, lx, ly, fx, fy, L, ?_⟩
    refine a_iload_n d_Mod_laysLine_12 rfl ?_
    refine a_aload_n d_Mod_laysLine_13 rfl ?_
    refine a_getf d_Mod_laysLine_14 f_Mod_205 (show _ = oMod ac by_ la ra il mn rs tb (nI k) oa (nI n1) from hu_s _ _ _) rfl ?_
    refine a_icmp_ge 146 d_Mod_laysLine_17 (by decide) (fun c17 => ?_) (fun c17 => absurd (Int32.le_refl _) c17)
    exact a_vret d_Mod_laysLine_146 rfl rfl rfl rfl
  | succ m ih =>
    intro k hk n1 lx ly fx fy L
    have hn1 := L.2.2.2
    have ex := L.2.1.1
    have ey := L.2.1.2
    have hx0 : (32 : Int32) * iI (vx X P nv cn k) = iI (fx n1) := by rw [i32, ex]; rfl
    have hy0 : (32 : Int32) * iI (vx Y P nv cn k) = iI (fy n1) := by rw [i32, ey]; rfl
    obtain ⟨N, lx', ly', fx', fy', L', M⟩ := ih (k + 1) (by omega) _ _ _ _ _ (L.s0 S)
    refine ⟨N, lx', ly', fx', fy', L', ?_⟩
    refine a_iload_n d_Mod_laysLine_12 rfl ?_
    refine a_aload_n d_Mod_laysLine_13 rfl ?_
    refine a_getf d_Mod_laysLine_14 f_Mod_205 (show _ = oMod ac by_ la ra il mn rs tb (nI nv) oa (nI n1) from hu_s _ _ _) rfl ?_
    refine a_icmp_ge 146 d_Mod_laysLine_17 (by decide) (fun c17 => absurd c17 (nI_ge (show k < nv by omega) (by omega))) (fun c17 => ?_)
    refine a_iload_n d_Mod_laysLine_20 rfl ?_
    refine a_iconst (v := 1) d_Mod_laysLine_21 (by decide) ?_
    refine a_icmp_ne 65 d_Mod_laysLine_22 (by decide) (fun c22 => ?_) (fun c22 => absurd c22 (by decide))
    refine a_iload_n d_Mod_laysLine_65 rfl ?_
    refine a_if_eq 78 d_Mod_laysLine_66 (by decide) (fun c66 => ?_) (fun c66 => absurd rfl c66)
    refine a_aload_n d_Mod_laysLine_78 rfl ?_
    refine a_bipush (v := 32) d_Mod_laysLine_79 (by decide) ?_
    refine a_aload_n d_Mod_laysLine_81 rfl ?_
    refine a_iload_n d_Mod_laysLine_82 rfl ?_
    refine a_iload_n d_Mod_laysLine_83 rfl ?_
    refine a_cv0 (a := 32) d_Mod_laysLine_84 m_Mod_vx t_Mod_vx l_Mod_211 (show _ = oMod ac by_ la ra il mn rs tb (nI nv) oa (nI n1) from hu_s _ _ _) rfl rfl (s_Mod_vx (K := k + nv) (h := (hu (hu (hu h 51 (aI 600 lx)) 52 (aI 600 ly)) 32 (oMod ac by_ la ra il mn rs tb (nI nv) oa (nI n1)))) (show _ = oMod ac by_ la ra il mn rs tb (nI nv) oa (nI n1) from hu_s _ _ _) (show _ = aI 40 fr from k39) (show _ = aI 160 cx from k44) (show _ = aI 160 cy from k45) (show _ = aI 144 vv from k49) hB m1 hs hnv hnP Rw tvx hcn (nI_add k nv) (by omega)) rfl rfl ⟨Nat.le_of_ble_eq_true rfl, Nat.le_of_ble_eq_true rfl⟩ (Nat.le_of_ble_eq_true rfl)  ?_
    rw [vx_add]
    refine a_imul d_Mod_laysLine_87 ?_
    rw [hx0]
    refine a_bipush (v := 32) d_Mod_laysLine_88 (by decide) ?_
    refine a_aload_n d_Mod_laysLine_90 rfl ?_
    refine a_iload_n d_Mod_laysLine_91 rfl ?_
    refine a_iload_n d_Mod_laysLine_92 rfl ?_
    refine a_cv0 (a := 32) d_Mod_laysLine_93 m_Mod_vy t_Mod_vy l_Mod_214 (show _ = oMod ac by_ la ra il mn rs tb (nI nv) oa (nI n1) from hu_s _ _ _) rfl rfl (s_Mod_vy (K := k + nv) (h := (hu (hu (hu h 51 (aI 600 lx)) 52 (aI 600 ly)) 32 (oMod ac by_ la ra il mn rs tb (nI nv) oa (nI n1)))) (show _ = oMod ac by_ la ra il mn rs tb (nI nv) oa (nI n1) from hu_s _ _ _) (show _ = aI 40 fr from k39) (show _ = aI 160 cx from k44) (show _ = aI 160 cy from k45) (show _ = aI 144 vv from k49) hB m1 hs hnv hnP Rw tvx hcn (nI_add k nv) (by omega)) rfl rfl ⟨Nat.le_of_ble_eq_true rfl, Nat.le_of_ble_eq_true rfl⟩ (Nat.le_of_ble_eq_true rfl)  ?_
    rw [vx_add]
    refine a_imul d_Mod_laysLine_96 ?_
    rw [hy0]
    refine a_cv0 (a := 32) d_Mod_laysLine_97 m_Mod_adds t_Mod_adds l_Mod_244 (show _ = oMod ac by_ la ra il mn rs tb (nI nv) oa (nI n1) from hu_s _ _ _) rfl rfl (s_Mod_adds (h := (hu (hu (hu h 51 (aI 600 lx)) 52 (aI 600 ly)) 32 (oMod ac by_ la ra il mn rs tb (nI nv) oa (nI n1)))) (k := n1) (lx := lx) (ly := ly) (show _ = oMod ac by_ la ra il mn rs tb (nI nv) oa (nI n1) from hu_s _ _ _) (show _ = aI 600 lx from rfl) (show _ = aI 600 ly from rfl) (by omega) _ _) rfl rfl ⟨Nat.le_of_ble_eq_true rfl, Nat.le_of_ble_eq_true rfl⟩ (Nat.le_of_ble_eq_true rfl)  ?_
    rw [hu3 h (by decide) (by decide) (by decide)]
    refine a_goto 140 d_Mod_laysLine_100 (by decide) ?_
    refine a_iinc d_Mod_laysLine_140 rfl (nI_1 k) (Nat.le_of_ble_eq_true rfl) rfl ?_
    refine a_goto 12 d_Mod_laysLine_143 (by decide) ?_
    exact M
set_option maxRecDepth 20000 in
set_option maxHeartbeats 4000000 in
theorem L_line1 {ac by_ la ra il mn : Int32} {rs : Int64} {tb oa : Int32} {fr cx cy vv : Nat → Int32} {B S0 P nv : Nat} {X Y : Nat → Int} {cn : Nat → Nat} (k39 : h 39 = aI 40 fr) (k44 : h 44 = aI 160 cx) (k45 : h 45 = aI 160 cy) (k49 : h 49 = aI 144 vv) (hB : B < 40) (m1 : fr B = nI S0) (hs : S0 + P ≤ 144) (hnv : 0 < nv) (hnP : nv ≤ P) (Rw : Row cx cy S0 P X Y) (tvx : ∀ k, k < nv → vv k = nI (cn k)) (hcn : ∀ k, k < nv → cn k < P) {st : Nat → Int32} (k33 : h 33 = aI 68 st) {sh : Int32} (s3 : st 3 = sh) (S : Sh X Y) (bn : Bnd X Y P nv cn) (hP : P ≤ 144) : ∀ (m k : Nat), k + m = nv → ∀ (n1 : Nat) (lx ly : Nat → Int32) (fx fy : Nat → Int), LnP V X Y P nv cn 1 sh k n1 lx ly fx fy → ∃ N lx' ly' fx' fy', LnP V X Y P nv cn 1 sh nv N lx' ly' fx' fy' ∧ AM V i_Mod_laysLine 4 n z none (hu (hu (hu h 51 (aI 600 lx')) 52 (aI 600 ly')) 32 (oMod ac by_ la ra il mn rs tb (nI nv) oa (nI N))) n z 12 [some (.ref 32), some (.int (nI B)), some (.int 1), some (.int (nI k)), none] [] (hu (hu (hu h 51 (aI 600 lx)) 52 (aI 600 ly)) 32 (oMod ac by_ la ra il mn rs tb (nI nv) oa (nI n1))) n z := by
  intro m
  induction m with
  | zero =>
    intro k hk n1 lx ly fx fy L
    have e : k = nv := by omega
    subst e
    refine ⟨n1, lx, ly, fx, fy, L, ?_⟩
    refine a_iload_n d_Mod_laysLine_12 rfl ?_
    refine a_aload_n d_Mod_laysLine_13 rfl ?_
    refine a_getf d_Mod_laysLine_14 f_Mod_205 (show _ = oMod ac by_ la ra il mn rs tb (nI k) oa (nI n1) from hu_s _ _ _) rfl ?_
    refine a_icmp_ge 146 d_Mod_laysLine_17 (by decide) (fun c17 => ?_) (fun c17 => absurd (Int32.le_refl _) c17)
    exact a_vret d_Mod_laysLine_146 rfl rfl rfl rfl
  | succ m ih =>
    intro k hk n1 lx ly fx fy L
    have hn1 := L.2.2.2
    have ex := L.2.1.1
    have ey := L.2.1.2
    have hx0 : (16 : Int32) * (iI (vx X P nv cn (k + nv - 1)) + iI (vx X P nv cn k)) = iI (fx n1) := by rw [ex, show (16 : Int32) = iI 16 from by decide, iI_add, iI_mul]; rfl
    have hy0 : (16 : Int32) * (iI (vx Y P nv cn (k + nv - 1)) + iI (vx Y P nv cn k)) = iI (fy n1) := by rw [ey, show (16 : Int32) = iI 16 from by decide, iI_add, iI_mul]; rfl
    by_cases hsh : shC X Y P nv cn sh k = 0
    · obtain ⟨N, lx', ly', fx', fy', L', M⟩ := ih (k + 1) (by omega) _ _ _ _ _ (L.s3 S hsh)
      refine ⟨N, lx', ly', fx', fy', L', ?_⟩
      refine a_iload_n d_Mod_laysLine_12 rfl ?_
      refine a_aload_n d_Mod_laysLine_13 rfl ?_
      refine a_getf d_Mod_laysLine_14 f_Mod_205 (show _ = oMod ac by_ la ra il mn rs tb (nI nv) oa (nI n1) from hu_s _ _ _) rfl ?_
      refine a_icmp_ge 146 d_Mod_laysLine_17 (by decide) (fun c17 => absurd c17 (nI_ge (show k < nv by omega) (by omega))) (fun c17 => ?_)
      refine a_iload_n d_Mod_laysLine_20 rfl ?_
      refine a_iconst (v := 1) d_Mod_laysLine_21 (by decide) ?_
      refine a_icmp_ne 65 d_Mod_laysLine_22 (by decide) (fun c22 => absurd c22 (fun q => q rfl)) (fun c22 => ?_)
      refine a_aload_n d_Mod_laysLine_25 rfl ?_
      refine a_bipush (v := 16) d_Mod_laysLine_26 (by decide) ?_
      refine a_aload_n d_Mod_laysLine_28 rfl ?_
      refine a_iload_n d_Mod_laysLine_29 rfl ?_
      refine a_iload_n d_Mod_laysLine_30 rfl ?_
      refine a_iconst (v := 1) d_Mod_laysLine_31 (by decide) ?_
      refine a_isub d_Mod_laysLine_32 ?_
      refine a_cv0 (a := 32) d_Mod_laysLine_33 m_Mod_vx t_Mod_vx l_Mod_211 (show _ = oMod ac by_ la ra il mn rs tb (nI nv) oa (nI n1) from hu_s _ _ _) rfl rfl (s_Mod_vx (K := k + nv - 1) (h := (hu (hu (hu h 51 (aI 600 lx)) 52 (aI 600 ly)) 32 (oMod ac by_ la ra il mn rs tb (nI nv) oa (nI n1)))) (show _ = oMod ac by_ la ra il mn rs tb (nI nv) oa (nI n1) from hu_s _ _ _) (show _ = aI 40 fr from k39) (show _ = aI 160 cx from k44) (show _ = aI 160 cy from k45) (show _ = aI 144 vv from k49) hB m1 hs hnv hnP Rw tvx hcn (show nI k - 1 + nI nv = nI (k + nv - 1) by rw [iI_nat, iI_1, iI_sub, iI_nat nv, iI_add, iI_nat]; congr 1; omega) (by omega)) rfl rfl ⟨Nat.le_of_ble_eq_true rfl, Nat.le_of_ble_eq_true rfl⟩ (Nat.le_of_ble_eq_true rfl)  ?_
      refine a_aload_n d_Mod_laysLine_36 rfl ?_
      refine a_iload_n d_Mod_laysLine_37 rfl ?_
      refine a_iload_n d_Mod_laysLine_38 rfl ?_
      refine a_cv0 (a := 32) d_Mod_laysLine_39 m_Mod_vx t_Mod_vx l_Mod_211 (show _ = oMod ac by_ la ra il mn rs tb (nI nv) oa (nI n1) from hu_s _ _ _) rfl rfl (s_Mod_vx (K := k + nv) (h := (hu (hu (hu h 51 (aI 600 lx)) 52 (aI 600 ly)) 32 (oMod ac by_ la ra il mn rs tb (nI nv) oa (nI n1)))) (show _ = oMod ac by_ la ra il mn rs tb (nI nv) oa (nI n1) from hu_s _ _ _) (show _ = aI 40 fr from k39) (show _ = aI 160 cx from k44) (show _ = aI 160 cy from k45) (show _ = aI 144 vv from k49) hB m1 hs hnv hnP Rw tvx hcn (nI_add k nv) (by omega)) rfl rfl ⟨Nat.le_of_ble_eq_true rfl, Nat.le_of_ble_eq_true rfl⟩ (Nat.le_of_ble_eq_true rfl)  ?_
      rw [vx_add]
      refine a_iadd d_Mod_laysLine_42 ?_
      refine a_imul d_Mod_laysLine_43 ?_
      rw [hx0]
      refine a_bipush (v := 16) d_Mod_laysLine_44 (by decide) ?_
      refine a_aload_n d_Mod_laysLine_46 rfl ?_
      refine a_iload_n d_Mod_laysLine_47 rfl ?_
      refine a_iload_n d_Mod_laysLine_48 rfl ?_
      refine a_iconst (v := 1) d_Mod_laysLine_49 (by decide) ?_
      refine a_isub d_Mod_laysLine_50 ?_
      refine a_cv0 (a := 32) d_Mod_laysLine_51 m_Mod_vy t_Mod_vy l_Mod_214 (show _ = oMod ac by_ la ra il mn rs tb (nI nv) oa (nI n1) from hu_s _ _ _) rfl rfl (s_Mod_vy (K := k + nv - 1) (h := (hu (hu (hu h 51 (aI 600 lx)) 52 (aI 600 ly)) 32 (oMod ac by_ la ra il mn rs tb (nI nv) oa (nI n1)))) (show _ = oMod ac by_ la ra il mn rs tb (nI nv) oa (nI n1) from hu_s _ _ _) (show _ = aI 40 fr from k39) (show _ = aI 160 cx from k44) (show _ = aI 160 cy from k45) (show _ = aI 144 vv from k49) hB m1 hs hnv hnP Rw tvx hcn (show nI k - 1 + nI nv = nI (k + nv - 1) by rw [iI_nat, iI_1, iI_sub, iI_nat nv, iI_add, iI_nat]; congr 1; omega) (by omega)) rfl rfl ⟨Nat.le_of_ble_eq_true rfl, Nat.le_of_ble_eq_true rfl⟩ (Nat.le_of_ble_eq_true rfl)  ?_
      refine a_aload_n d_Mod_laysLine_54 rfl ?_
      refine a_iload_n d_Mod_laysLine_55 rfl ?_
      refine a_iload_n d_Mod_laysLine_56 rfl ?_
      refine a_cv0 (a := 32) d_Mod_laysLine_57 m_Mod_vy t_Mod_vy l_Mod_214 (show _ = oMod ac by_ la ra il mn rs tb (nI nv) oa (nI n1) from hu_s _ _ _) rfl rfl (s_Mod_vy (K := k + nv) (h := (hu (hu (hu h 51 (aI 600 lx)) 52 (aI 600 ly)) 32 (oMod ac by_ la ra il mn rs tb (nI nv) oa (nI n1)))) (show _ = oMod ac by_ la ra il mn rs tb (nI nv) oa (nI n1) from hu_s _ _ _) (show _ = aI 40 fr from k39) (show _ = aI 160 cx from k44) (show _ = aI 160 cy from k45) (show _ = aI 144 vv from k49) hB m1 hs hnv hnP Rw tvx hcn (nI_add k nv) (by omega)) rfl rfl ⟨Nat.le_of_ble_eq_true rfl, Nat.le_of_ble_eq_true rfl⟩ (Nat.le_of_ble_eq_true rfl)  ?_
      rw [vx_add]
      refine a_iadd d_Mod_laysLine_60 ?_
      refine a_imul d_Mod_laysLine_61 ?_
      rw [hy0]
      refine a_cv0 (a := 32) d_Mod_laysLine_62 m_Mod_adds t_Mod_adds l_Mod_244 (show _ = oMod ac by_ la ra il mn rs tb (nI nv) oa (nI n1) from hu_s _ _ _) rfl rfl (s_Mod_adds (h := (hu (hu (hu h 51 (aI 600 lx)) 52 (aI 600 ly)) 32 (oMod ac by_ la ra il mn rs tb (nI nv) oa (nI n1)))) (k := n1) (lx := lx) (ly := ly) (show _ = oMod ac by_ la ra il mn rs tb (nI nv) oa (nI n1) from hu_s _ _ _) (show _ = aI 600 lx from rfl) (show _ = aI 600 ly from rfl) (by omega) _ _) rfl rfl ⟨Nat.le_of_ble_eq_true rfl, Nat.le_of_ble_eq_true rfl⟩ (Nat.le_of_ble_eq_true rfl)  ?_
      rw [hu3 h (by decide) (by decide) (by decide)]
      skip
      refine a_iload_n d_Mod_laysLine_65 rfl ?_
      refine a_if_eq 78 d_Mod_laysLine_66 (by decide) (fun c66 => absurd c66 (by decide)) (fun c66 => ?_)
      refine a_aload_n d_Mod_laysLine_69 rfl ?_
      refine a_iload_n d_Mod_laysLine_70 rfl ?_
      refine a_iload_n d_Mod_laysLine_71 rfl ?_
      refine a_cv0 (a := 32) d_Mod_laysLine_72 m_Mod_isSharp t_Mod_isSharp l_Mod_223 (show _ = oMod ac by_ la ra il mn rs tb (nI nv) oa (nI (n1 + 1)) from hu_s _ _ _) rfl rfl (s_Mod_isSharp (h := (hu (hu (hu h 51 (aI 600 (upd lx n1 (iI (fx n1))))) 52 (aI 600 (upd ly n1 (iI (fy n1))))) 32 (oMod ac by_ la ra il mn rs tb (nI nv) oa (nI (n1 + 1))))) (show _ = oMod ac by_ la ra il mn rs tb (nI nv) oa (nI (n1 + 1)) from hu_s _ _ _) (show _ = aI 40 fr from k39) (show _ = aI 160 cx from k44) (show _ = aI 160 cy from k45) (show _ = aI 144 vv from k49) hB m1 hs hnv hnP Rw tvx hcn (show _ = aI 68 st from k33) s3 (by omega) S bn) rfl rfl ⟨Nat.le_of_ble_eq_true rfl, Nat.le_of_ble_eq_true rfl⟩ (Nat.le_of_ble_eq_true rfl)  ?_
      refine a_if_eq 103 d_Mod_laysLine_75 (by decide) (fun c75 => ?_) (fun c75 => absurd hsh c75)
      refine a_iconst (v := 1) d_Mod_laysLine_103 (by decide) ?_
      refine a_istore d_Mod_laysLine_104 (Nat.le_of_ble_eq_true rfl) (Nat.le_of_ble_eq_true rfl) rfl ?_
      skip
      refine a_iload d_Mod_laysLine_106 rfl ?_
      refine a_iconst (v := 4) d_Mod_laysLine_108 (by decide) ?_
      refine a_icmp_ge 140 d_Mod_laysLine_109 (by decide) (fun c109 => absurd c109 (by decide)) (fun c109 => ?_)
      refine a_aload_n d_Mod_laysLine_112 rfl ?_
      refine a_aload_n d_Mod_laysLine_113 rfl ?_
      refine a_iload_n d_Mod_laysLine_114 rfl ?_
      refine a_iload_n d_Mod_laysLine_115 rfl ?_
      refine a_iload d_Mod_laysLine_116 rfl ?_
      refine a_iconst (v := 0) d_Mod_laysLine_118 (by decide) ?_
      refine a_cv0 (a := 32) d_Mod_laysLine_119 m_Mod_pointOf t_Mod_pointOf l_Mod_238 (show _ = oMod ac by_ la ra il mn rs tb (nI nv) oa (nI (n1 + 1)) from hu_s _ _ _) rfl rfl (s_Mod_point01 (h := (hu (hu (hu h 51 (aI 600 (upd lx n1 (iI (fx n1))))) 52 (aI 600 (upd ly n1 (iI (fy n1))))) 32 (oMod ac by_ la ra il mn rs tb (nI nv) oa (nI (n1 + 1))))) (show _ = oMod ac by_ la ra il mn rs tb (nI nv) oa (nI (n1 + 1)) from hu_s _ _ _) (show _ = aI 40 fr from k39) (show _ = aI 160 cx from k44) (show _ = aI 160 cy from k45) (show _ = aI 144 vv from k49) hB m1 hs hnv hnP Rw tvx hcn (by omega)) rfl rfl ⟨Nat.le_of_ble_eq_true rfl, Nat.le_of_ble_eq_true rfl⟩ (Nat.le_of_ble_eq_true rfl)  ?_
      refine a_aload_n d_Mod_laysLine_122 rfl ?_
      refine a_iload_n d_Mod_laysLine_123 rfl ?_
      refine a_iload_n d_Mod_laysLine_124 rfl ?_
      refine a_iload d_Mod_laysLine_125 rfl ?_
      refine a_iconst (v := 1) d_Mod_laysLine_127 (by decide) ?_
      refine a_cv0 (a := 32) d_Mod_laysLine_128 m_Mod_pointOf t_Mod_pointOf l_Mod_238 (show _ = oMod ac by_ la ra il mn rs tb (nI nv) oa (nI (n1 + 1)) from hu_s _ _ _) rfl rfl (s_Mod_point11 (h := (hu (hu (hu h 51 (aI 600 (upd lx n1 (iI (fx n1))))) 52 (aI 600 (upd ly n1 (iI (fy n1))))) 32 (oMod ac by_ la ra il mn rs tb (nI nv) oa (nI (n1 + 1))))) (show _ = oMod ac by_ la ra il mn rs tb (nI nv) oa (nI (n1 + 1)) from hu_s _ _ _) (show _ = aI 40 fr from k39) (show _ = aI 160 cx from k44) (show _ = aI 160 cy from k45) (show _ = aI 144 vv from k49) hB m1 hs hnv hnP Rw tvx hcn (by omega)) rfl rfl ⟨Nat.le_of_ble_eq_true rfl, Nat.le_of_ble_eq_true rfl⟩ (Nat.le_of_ble_eq_true rfl)  ?_
      refine a_cv0 (a := 32) d_Mod_laysLine_131 m_Mod_adds t_Mod_adds l_Mod_244 (show _ = oMod ac by_ la ra il mn rs tb (nI nv) oa (nI (n1 + 1)) from hu_s _ _ _) rfl rfl (s_Mod_adds (h := (hu (hu (hu h 51 (aI 600 (upd lx n1 (iI (fx n1))))) 52 (aI 600 (upd ly n1 (iI (fy n1))))) 32 (oMod ac by_ la ra il mn rs tb (nI nv) oa (nI (n1 + 1))))) (k := (n1 + 1)) (lx := (upd lx n1 (iI (fx n1)))) (ly := (upd ly n1 (iI (fy n1)))) (show _ = oMod ac by_ la ra il mn rs tb (nI nv) oa (nI (n1 + 1)) from hu_s _ _ _) (show _ = aI 600 (upd lx n1 (iI (fx n1))) from rfl) (show _ = aI 600 (upd ly n1 (iI (fy n1))) from rfl) (by omega) _ _) rfl rfl ⟨Nat.le_of_ble_eq_true rfl, Nat.le_of_ble_eq_true rfl⟩ (Nat.le_of_ble_eq_true rfl)  ?_
      rw [hu3 h (by decide) (by decide) (by decide)]
      refine a_iinc d_Mod_laysLine_134 rfl (by decide : (1 : Int32) + 1 = 2) (Nat.le_of_ble_eq_true rfl) rfl ?_
      refine a_goto 106 d_Mod_laysLine_137 (by decide) ?_
      skip
      refine a_iload d_Mod_laysLine_106 rfl ?_
      refine a_iconst (v := 4) d_Mod_laysLine_108 (by decide) ?_
      refine a_icmp_ge 140 d_Mod_laysLine_109 (by decide) (fun c109 => absurd c109 (by decide)) (fun c109 => ?_)
      refine a_aload_n d_Mod_laysLine_112 rfl ?_
      refine a_aload_n d_Mod_laysLine_113 rfl ?_
      refine a_iload_n d_Mod_laysLine_114 rfl ?_
      refine a_iload_n d_Mod_laysLine_115 rfl ?_
      refine a_iload d_Mod_laysLine_116 rfl ?_
      refine a_iconst (v := 0) d_Mod_laysLine_118 (by decide) ?_
      refine a_cv0 (a := 32) d_Mod_laysLine_119 m_Mod_pointOf t_Mod_pointOf l_Mod_238 (show _ = oMod ac by_ la ra il mn rs tb (nI nv) oa (nI (n1 + 2)) from hu_s _ _ _) rfl rfl (s_Mod_point02 (h := (hu (hu (hu h 51 (aI 600 (upd (upd lx n1 (iI (fx n1))) (n1 + 1) (rnC V X P nv cn 1 k)))) 52 (aI 600 (upd (upd ly n1 (iI (fy n1))) (n1 + 1) (rnC V Y P nv cn 1 k)))) 32 (oMod ac by_ la ra il mn rs tb (nI nv) oa (nI (n1 + 2))))) (show _ = oMod ac by_ la ra il mn rs tb (nI nv) oa (nI (n1 + 2)) from hu_s _ _ _) (show _ = aI 40 fr from k39) (show _ = aI 160 cx from k44) (show _ = aI 160 cy from k45) (show _ = aI 144 vv from k49) hB m1 hs hnv hnP Rw tvx hcn (by omega)) rfl rfl ⟨Nat.le_of_ble_eq_true rfl, Nat.le_of_ble_eq_true rfl⟩ (Nat.le_of_ble_eq_true rfl)  ?_
      refine a_aload_n d_Mod_laysLine_122 rfl ?_
      refine a_iload_n d_Mod_laysLine_123 rfl ?_
      refine a_iload_n d_Mod_laysLine_124 rfl ?_
      refine a_iload d_Mod_laysLine_125 rfl ?_
      refine a_iconst (v := 1) d_Mod_laysLine_127 (by decide) ?_
      refine a_cv0 (a := 32) d_Mod_laysLine_128 m_Mod_pointOf t_Mod_pointOf l_Mod_238 (show _ = oMod ac by_ la ra il mn rs tb (nI nv) oa (nI (n1 + 2)) from hu_s _ _ _) rfl rfl (s_Mod_point12 (h := (hu (hu (hu h 51 (aI 600 (upd (upd lx n1 (iI (fx n1))) (n1 + 1) (rnC V X P nv cn 1 k)))) 52 (aI 600 (upd (upd ly n1 (iI (fy n1))) (n1 + 1) (rnC V Y P nv cn 1 k)))) 32 (oMod ac by_ la ra il mn rs tb (nI nv) oa (nI (n1 + 2))))) (show _ = oMod ac by_ la ra il mn rs tb (nI nv) oa (nI (n1 + 2)) from hu_s _ _ _) (show _ = aI 40 fr from k39) (show _ = aI 160 cx from k44) (show _ = aI 160 cy from k45) (show _ = aI 144 vv from k49) hB m1 hs hnv hnP Rw tvx hcn (by omega)) rfl rfl ⟨Nat.le_of_ble_eq_true rfl, Nat.le_of_ble_eq_true rfl⟩ (Nat.le_of_ble_eq_true rfl)  ?_
      refine a_cv0 (a := 32) d_Mod_laysLine_131 m_Mod_adds t_Mod_adds l_Mod_244 (show _ = oMod ac by_ la ra il mn rs tb (nI nv) oa (nI (n1 + 2)) from hu_s _ _ _) rfl rfl (s_Mod_adds (h := (hu (hu (hu h 51 (aI 600 (upd (upd lx n1 (iI (fx n1))) (n1 + 1) (rnC V X P nv cn 1 k)))) 52 (aI 600 (upd (upd ly n1 (iI (fy n1))) (n1 + 1) (rnC V Y P nv cn 1 k)))) 32 (oMod ac by_ la ra il mn rs tb (nI nv) oa (nI (n1 + 2))))) (k := (n1 + 2)) (lx := (upd (upd lx n1 (iI (fx n1))) (n1 + 1) (rnC V X P nv cn 1 k))) (ly := (upd (upd ly n1 (iI (fy n1))) (n1 + 1) (rnC V Y P nv cn 1 k))) (show _ = oMod ac by_ la ra il mn rs tb (nI nv) oa (nI (n1 + 2)) from hu_s _ _ _) (show _ = aI 600 (upd (upd lx n1 (iI (fx n1))) (n1 + 1) (rnC V X P nv cn 1 k)) from rfl) (show _ = aI 600 (upd (upd ly n1 (iI (fy n1))) (n1 + 1) (rnC V Y P nv cn 1 k)) from rfl) (by omega) _ _) rfl rfl ⟨Nat.le_of_ble_eq_true rfl, Nat.le_of_ble_eq_true rfl⟩ (Nat.le_of_ble_eq_true rfl)  ?_
      rw [hu3 h (by decide) (by decide) (by decide)]
      refine a_iinc d_Mod_laysLine_134 rfl (by decide : (2 : Int32) + 1 = 3) (Nat.le_of_ble_eq_true rfl) rfl ?_
      refine a_goto 106 d_Mod_laysLine_137 (by decide) ?_
      skip
      refine a_iload d_Mod_laysLine_106 rfl ?_
      refine a_iconst (v := 4) d_Mod_laysLine_108 (by decide) ?_
      refine a_icmp_ge 140 d_Mod_laysLine_109 (by decide) (fun c109 => absurd c109 (by decide)) (fun c109 => ?_)
      refine a_aload_n d_Mod_laysLine_112 rfl ?_
      refine a_aload_n d_Mod_laysLine_113 rfl ?_
      refine a_iload_n d_Mod_laysLine_114 rfl ?_
      refine a_iload_n d_Mod_laysLine_115 rfl ?_
      refine a_iload d_Mod_laysLine_116 rfl ?_
      refine a_iconst (v := 0) d_Mod_laysLine_118 (by decide) ?_
      refine a_cv0 (a := 32) d_Mod_laysLine_119 m_Mod_pointOf t_Mod_pointOf l_Mod_238 (show _ = oMod ac by_ la ra il mn rs tb (nI nv) oa (nI (n1 + 3)) from hu_s _ _ _) rfl rfl (s_Mod_point03 (h := (hu (hu (hu h 51 (aI 600 (upd (upd (upd lx n1 (iI (fx n1))) (n1 + 1) (rnC V X P nv cn 1 k)) (n1 + 2) (rnC V X P nv cn 2 k)))) 52 (aI 600 (upd (upd (upd ly n1 (iI (fy n1))) (n1 + 1) (rnC V Y P nv cn 1 k)) (n1 + 2) (rnC V Y P nv cn 2 k)))) 32 (oMod ac by_ la ra il mn rs tb (nI nv) oa (nI (n1 + 3))))) (show _ = oMod ac by_ la ra il mn rs tb (nI nv) oa (nI (n1 + 3)) from hu_s _ _ _) (show _ = aI 40 fr from k39) (show _ = aI 160 cx from k44) (show _ = aI 160 cy from k45) (show _ = aI 144 vv from k49) hB m1 hs hnv hnP Rw tvx hcn (by omega)) rfl rfl ⟨Nat.le_of_ble_eq_true rfl, Nat.le_of_ble_eq_true rfl⟩ (Nat.le_of_ble_eq_true rfl)  ?_
      refine a_aload_n d_Mod_laysLine_122 rfl ?_
      refine a_iload_n d_Mod_laysLine_123 rfl ?_
      refine a_iload_n d_Mod_laysLine_124 rfl ?_
      refine a_iload d_Mod_laysLine_125 rfl ?_
      refine a_iconst (v := 1) d_Mod_laysLine_127 (by decide) ?_
      refine a_cv0 (a := 32) d_Mod_laysLine_128 m_Mod_pointOf t_Mod_pointOf l_Mod_238 (show _ = oMod ac by_ la ra il mn rs tb (nI nv) oa (nI (n1 + 3)) from hu_s _ _ _) rfl rfl (s_Mod_point13 (h := (hu (hu (hu h 51 (aI 600 (upd (upd (upd lx n1 (iI (fx n1))) (n1 + 1) (rnC V X P nv cn 1 k)) (n1 + 2) (rnC V X P nv cn 2 k)))) 52 (aI 600 (upd (upd (upd ly n1 (iI (fy n1))) (n1 + 1) (rnC V Y P nv cn 1 k)) (n1 + 2) (rnC V Y P nv cn 2 k)))) 32 (oMod ac by_ la ra il mn rs tb (nI nv) oa (nI (n1 + 3))))) (show _ = oMod ac by_ la ra il mn rs tb (nI nv) oa (nI (n1 + 3)) from hu_s _ _ _) (show _ = aI 40 fr from k39) (show _ = aI 160 cx from k44) (show _ = aI 160 cy from k45) (show _ = aI 144 vv from k49) hB m1 hs hnv hnP Rw tvx hcn (by omega)) rfl rfl ⟨Nat.le_of_ble_eq_true rfl, Nat.le_of_ble_eq_true rfl⟩ (Nat.le_of_ble_eq_true rfl)  ?_
      refine a_cv0 (a := 32) d_Mod_laysLine_131 m_Mod_adds t_Mod_adds l_Mod_244 (show _ = oMod ac by_ la ra il mn rs tb (nI nv) oa (nI (n1 + 3)) from hu_s _ _ _) rfl rfl (s_Mod_adds (h := (hu (hu (hu h 51 (aI 600 (upd (upd (upd lx n1 (iI (fx n1))) (n1 + 1) (rnC V X P nv cn 1 k)) (n1 + 2) (rnC V X P nv cn 2 k)))) 52 (aI 600 (upd (upd (upd ly n1 (iI (fy n1))) (n1 + 1) (rnC V Y P nv cn 1 k)) (n1 + 2) (rnC V Y P nv cn 2 k)))) 32 (oMod ac by_ la ra il mn rs tb (nI nv) oa (nI (n1 + 3))))) (k := (n1 + 3)) (lx := (upd (upd (upd lx n1 (iI (fx n1))) (n1 + 1) (rnC V X P nv cn 1 k)) (n1 + 2) (rnC V X P nv cn 2 k))) (ly := (upd (upd (upd ly n1 (iI (fy n1))) (n1 + 1) (rnC V Y P nv cn 1 k)) (n1 + 2) (rnC V Y P nv cn 2 k))) (show _ = oMod ac by_ la ra il mn rs tb (nI nv) oa (nI (n1 + 3)) from hu_s _ _ _) (show _ = aI 600 (upd (upd (upd lx n1 (iI (fx n1))) (n1 + 1) (rnC V X P nv cn 1 k)) (n1 + 2) (rnC V X P nv cn 2 k)) from rfl) (show _ = aI 600 (upd (upd (upd ly n1 (iI (fy n1))) (n1 + 1) (rnC V Y P nv cn 1 k)) (n1 + 2) (rnC V Y P nv cn 2 k)) from rfl) (by omega) _ _) rfl rfl ⟨Nat.le_of_ble_eq_true rfl, Nat.le_of_ble_eq_true rfl⟩ (Nat.le_of_ble_eq_true rfl)  ?_
      rw [hu3 h (by decide) (by decide) (by decide)]
      refine a_iinc d_Mod_laysLine_134 rfl (by decide : (3 : Int32) + 1 = 4) (Nat.le_of_ble_eq_true rfl) rfl ?_
      refine a_goto 106 d_Mod_laysLine_137 (by decide) ?_
      skip
      refine a_iload d_Mod_laysLine_106 rfl ?_
      refine a_iconst (v := 4) d_Mod_laysLine_108 (by decide) ?_
      refine a_icmp_ge 140 d_Mod_laysLine_109 (by decide) (fun c109 => ?_) (fun c109 => absurd (by decide) c109)
      refine a_iinc d_Mod_laysLine_140 rfl (nI_1 k) (Nat.le_of_ble_eq_true rfl) rfl ?_
      refine a_goto 12 d_Mod_laysLine_143 (by decide) ?_
      refine a_drop 4 ?_
      exact M
    · obtain ⟨N, lx', ly', fx', fy', L', M⟩ := ih (k + 1) (by omega) _ _ _ _ _ (L.s1 S hsh)
      refine ⟨N, lx', ly', fx', fy', L', ?_⟩
      refine a_iload_n d_Mod_laysLine_12 rfl ?_
      refine a_aload_n d_Mod_laysLine_13 rfl ?_
      refine a_getf d_Mod_laysLine_14 f_Mod_205 (show _ = oMod ac by_ la ra il mn rs tb (nI nv) oa (nI n1) from hu_s _ _ _) rfl ?_
      refine a_icmp_ge 146 d_Mod_laysLine_17 (by decide) (fun c17 => absurd c17 (nI_ge (show k < nv by omega) (by omega))) (fun c17 => ?_)
      refine a_iload_n d_Mod_laysLine_20 rfl ?_
      refine a_iconst (v := 1) d_Mod_laysLine_21 (by decide) ?_
      refine a_icmp_ne 65 d_Mod_laysLine_22 (by decide) (fun c22 => absurd c22 (fun q => q rfl)) (fun c22 => ?_)
      refine a_aload_n d_Mod_laysLine_25 rfl ?_
      refine a_bipush (v := 16) d_Mod_laysLine_26 (by decide) ?_
      refine a_aload_n d_Mod_laysLine_28 rfl ?_
      refine a_iload_n d_Mod_laysLine_29 rfl ?_
      refine a_iload_n d_Mod_laysLine_30 rfl ?_
      refine a_iconst (v := 1) d_Mod_laysLine_31 (by decide) ?_
      refine a_isub d_Mod_laysLine_32 ?_
      refine a_cv0 (a := 32) d_Mod_laysLine_33 m_Mod_vx t_Mod_vx l_Mod_211 (show _ = oMod ac by_ la ra il mn rs tb (nI nv) oa (nI n1) from hu_s _ _ _) rfl rfl (s_Mod_vx (K := k + nv - 1) (h := (hu (hu (hu h 51 (aI 600 lx)) 52 (aI 600 ly)) 32 (oMod ac by_ la ra il mn rs tb (nI nv) oa (nI n1)))) (show _ = oMod ac by_ la ra il mn rs tb (nI nv) oa (nI n1) from hu_s _ _ _) (show _ = aI 40 fr from k39) (show _ = aI 160 cx from k44) (show _ = aI 160 cy from k45) (show _ = aI 144 vv from k49) hB m1 hs hnv hnP Rw tvx hcn (show nI k - 1 + nI nv = nI (k + nv - 1) by rw [iI_nat, iI_1, iI_sub, iI_nat nv, iI_add, iI_nat]; congr 1; omega) (by omega)) rfl rfl ⟨Nat.le_of_ble_eq_true rfl, Nat.le_of_ble_eq_true rfl⟩ (Nat.le_of_ble_eq_true rfl)  ?_
      refine a_aload_n d_Mod_laysLine_36 rfl ?_
      refine a_iload_n d_Mod_laysLine_37 rfl ?_
      refine a_iload_n d_Mod_laysLine_38 rfl ?_
      refine a_cv0 (a := 32) d_Mod_laysLine_39 m_Mod_vx t_Mod_vx l_Mod_211 (show _ = oMod ac by_ la ra il mn rs tb (nI nv) oa (nI n1) from hu_s _ _ _) rfl rfl (s_Mod_vx (K := k + nv) (h := (hu (hu (hu h 51 (aI 600 lx)) 52 (aI 600 ly)) 32 (oMod ac by_ la ra il mn rs tb (nI nv) oa (nI n1)))) (show _ = oMod ac by_ la ra il mn rs tb (nI nv) oa (nI n1) from hu_s _ _ _) (show _ = aI 40 fr from k39) (show _ = aI 160 cx from k44) (show _ = aI 160 cy from k45) (show _ = aI 144 vv from k49) hB m1 hs hnv hnP Rw tvx hcn (nI_add k nv) (by omega)) rfl rfl ⟨Nat.le_of_ble_eq_true rfl, Nat.le_of_ble_eq_true rfl⟩ (Nat.le_of_ble_eq_true rfl)  ?_
      rw [vx_add]
      refine a_iadd d_Mod_laysLine_42 ?_
      refine a_imul d_Mod_laysLine_43 ?_
      rw [hx0]
      refine a_bipush (v := 16) d_Mod_laysLine_44 (by decide) ?_
      refine a_aload_n d_Mod_laysLine_46 rfl ?_
      refine a_iload_n d_Mod_laysLine_47 rfl ?_
      refine a_iload_n d_Mod_laysLine_48 rfl ?_
      refine a_iconst (v := 1) d_Mod_laysLine_49 (by decide) ?_
      refine a_isub d_Mod_laysLine_50 ?_
      refine a_cv0 (a := 32) d_Mod_laysLine_51 m_Mod_vy t_Mod_vy l_Mod_214 (show _ = oMod ac by_ la ra il mn rs tb (nI nv) oa (nI n1) from hu_s _ _ _) rfl rfl (s_Mod_vy (K := k + nv - 1) (h := (hu (hu (hu h 51 (aI 600 lx)) 52 (aI 600 ly)) 32 (oMod ac by_ la ra il mn rs tb (nI nv) oa (nI n1)))) (show _ = oMod ac by_ la ra il mn rs tb (nI nv) oa (nI n1) from hu_s _ _ _) (show _ = aI 40 fr from k39) (show _ = aI 160 cx from k44) (show _ = aI 160 cy from k45) (show _ = aI 144 vv from k49) hB m1 hs hnv hnP Rw tvx hcn (show nI k - 1 + nI nv = nI (k + nv - 1) by rw [iI_nat, iI_1, iI_sub, iI_nat nv, iI_add, iI_nat]; congr 1; omega) (by omega)) rfl rfl ⟨Nat.le_of_ble_eq_true rfl, Nat.le_of_ble_eq_true rfl⟩ (Nat.le_of_ble_eq_true rfl)  ?_
      refine a_aload_n d_Mod_laysLine_54 rfl ?_
      refine a_iload_n d_Mod_laysLine_55 rfl ?_
      refine a_iload_n d_Mod_laysLine_56 rfl ?_
      refine a_cv0 (a := 32) d_Mod_laysLine_57 m_Mod_vy t_Mod_vy l_Mod_214 (show _ = oMod ac by_ la ra il mn rs tb (nI nv) oa (nI n1) from hu_s _ _ _) rfl rfl (s_Mod_vy (K := k + nv) (h := (hu (hu (hu h 51 (aI 600 lx)) 52 (aI 600 ly)) 32 (oMod ac by_ la ra il mn rs tb (nI nv) oa (nI n1)))) (show _ = oMod ac by_ la ra il mn rs tb (nI nv) oa (nI n1) from hu_s _ _ _) (show _ = aI 40 fr from k39) (show _ = aI 160 cx from k44) (show _ = aI 160 cy from k45) (show _ = aI 144 vv from k49) hB m1 hs hnv hnP Rw tvx hcn (nI_add k nv) (by omega)) rfl rfl ⟨Nat.le_of_ble_eq_true rfl, Nat.le_of_ble_eq_true rfl⟩ (Nat.le_of_ble_eq_true rfl)  ?_
      rw [vx_add]
      refine a_iadd d_Mod_laysLine_60 ?_
      refine a_imul d_Mod_laysLine_61 ?_
      rw [hy0]
      refine a_cv0 (a := 32) d_Mod_laysLine_62 m_Mod_adds t_Mod_adds l_Mod_244 (show _ = oMod ac by_ la ra il mn rs tb (nI nv) oa (nI n1) from hu_s _ _ _) rfl rfl (s_Mod_adds (h := (hu (hu (hu h 51 (aI 600 lx)) 52 (aI 600 ly)) 32 (oMod ac by_ la ra il mn rs tb (nI nv) oa (nI n1)))) (k := n1) (lx := lx) (ly := ly) (show _ = oMod ac by_ la ra il mn rs tb (nI nv) oa (nI n1) from hu_s _ _ _) (show _ = aI 600 lx from rfl) (show _ = aI 600 ly from rfl) (by omega) _ _) rfl rfl ⟨Nat.le_of_ble_eq_true rfl, Nat.le_of_ble_eq_true rfl⟩ (Nat.le_of_ble_eq_true rfl)  ?_
      rw [hu3 h (by decide) (by decide) (by decide)]
      skip
      refine a_iload_n d_Mod_laysLine_65 rfl ?_
      refine a_if_eq 78 d_Mod_laysLine_66 (by decide) (fun c66 => absurd c66 (by decide)) (fun c66 => ?_)
      refine a_aload_n d_Mod_laysLine_69 rfl ?_
      refine a_iload_n d_Mod_laysLine_70 rfl ?_
      refine a_iload_n d_Mod_laysLine_71 rfl ?_
      refine a_cv0 (a := 32) d_Mod_laysLine_72 m_Mod_isSharp t_Mod_isSharp l_Mod_223 (show _ = oMod ac by_ la ra il mn rs tb (nI nv) oa (nI (n1 + 1)) from hu_s _ _ _) rfl rfl (s_Mod_isSharp (h := (hu (hu (hu h 51 (aI 600 (upd lx n1 (iI (fx n1))))) 52 (aI 600 (upd ly n1 (iI (fy n1))))) 32 (oMod ac by_ la ra il mn rs tb (nI nv) oa (nI (n1 + 1))))) (show _ = oMod ac by_ la ra il mn rs tb (nI nv) oa (nI (n1 + 1)) from hu_s _ _ _) (show _ = aI 40 fr from k39) (show _ = aI 160 cx from k44) (show _ = aI 160 cy from k45) (show _ = aI 144 vv from k49) hB m1 hs hnv hnP Rw tvx hcn (show _ = aI 68 st from k33) s3 (by omega) S bn) rfl rfl ⟨Nat.le_of_ble_eq_true rfl, Nat.le_of_ble_eq_true rfl⟩ (Nat.le_of_ble_eq_true rfl)  ?_
      refine a_if_eq 103 d_Mod_laysLine_75 (by decide) (fun c75 => absurd c75 hsh) (fun c75 => ?_)
      refine a_aload_n d_Mod_laysLine_78 rfl ?_
      refine a_bipush (v := 32) d_Mod_laysLine_79 (by decide) ?_
      refine a_aload_n d_Mod_laysLine_81 rfl ?_
      refine a_iload_n d_Mod_laysLine_82 rfl ?_
      refine a_iload_n d_Mod_laysLine_83 rfl ?_
      refine a_cv0 (a := 32) d_Mod_laysLine_84 m_Mod_vx t_Mod_vx l_Mod_211 (show _ = oMod ac by_ la ra il mn rs tb (nI nv) oa (nI (n1 + 1)) from hu_s _ _ _) rfl rfl (s_Mod_vx (K := k + nv) (h := (hu (hu (hu h 51 (aI 600 (upd lx n1 (iI (fx n1))))) 52 (aI 600 (upd ly n1 (iI (fy n1))))) 32 (oMod ac by_ la ra il mn rs tb (nI nv) oa (nI (n1 + 1))))) (show _ = oMod ac by_ la ra il mn rs tb (nI nv) oa (nI (n1 + 1)) from hu_s _ _ _) (show _ = aI 40 fr from k39) (show _ = aI 160 cx from k44) (show _ = aI 160 cy from k45) (show _ = aI 144 vv from k49) hB m1 hs hnv hnP Rw tvx hcn (nI_add k nv) (by omega)) rfl rfl ⟨Nat.le_of_ble_eq_true rfl, Nat.le_of_ble_eq_true rfl⟩ (Nat.le_of_ble_eq_true rfl)  ?_
      rw [vx_add]
      refine a_imul d_Mod_laysLine_87 ?_
      rw [i32]
      refine a_bipush (v := 32) d_Mod_laysLine_88 (by decide) ?_
      refine a_aload_n d_Mod_laysLine_90 rfl ?_
      refine a_iload_n d_Mod_laysLine_91 rfl ?_
      refine a_iload_n d_Mod_laysLine_92 rfl ?_
      refine a_cv0 (a := 32) d_Mod_laysLine_93 m_Mod_vy t_Mod_vy l_Mod_214 (show _ = oMod ac by_ la ra il mn rs tb (nI nv) oa (nI (n1 + 1)) from hu_s _ _ _) rfl rfl (s_Mod_vy (K := k + nv) (h := (hu (hu (hu h 51 (aI 600 (upd lx n1 (iI (fx n1))))) 52 (aI 600 (upd ly n1 (iI (fy n1))))) 32 (oMod ac by_ la ra il mn rs tb (nI nv) oa (nI (n1 + 1))))) (show _ = oMod ac by_ la ra il mn rs tb (nI nv) oa (nI (n1 + 1)) from hu_s _ _ _) (show _ = aI 40 fr from k39) (show _ = aI 160 cx from k44) (show _ = aI 160 cy from k45) (show _ = aI 144 vv from k49) hB m1 hs hnv hnP Rw tvx hcn (nI_add k nv) (by omega)) rfl rfl ⟨Nat.le_of_ble_eq_true rfl, Nat.le_of_ble_eq_true rfl⟩ (Nat.le_of_ble_eq_true rfl)  ?_
      rw [vx_add]
      refine a_imul d_Mod_laysLine_96 ?_
      rw [i32]
      refine a_cv0 (a := 32) d_Mod_laysLine_97 m_Mod_adds t_Mod_adds l_Mod_244 (show _ = oMod ac by_ la ra il mn rs tb (nI nv) oa (nI (n1 + 1)) from hu_s _ _ _) rfl rfl (s_Mod_adds (h := (hu (hu (hu h 51 (aI 600 (upd lx n1 (iI (fx n1))))) 52 (aI 600 (upd ly n1 (iI (fy n1))))) 32 (oMod ac by_ la ra il mn rs tb (nI nv) oa (nI (n1 + 1))))) (k := (n1 + 1)) (lx := (upd lx n1 (iI (fx n1)))) (ly := (upd ly n1 (iI (fy n1)))) (show _ = oMod ac by_ la ra il mn rs tb (nI nv) oa (nI (n1 + 1)) from hu_s _ _ _) (show _ = aI 600 (upd lx n1 (iI (fx n1))) from rfl) (show _ = aI 600 (upd ly n1 (iI (fy n1))) from rfl) (by omega) _ _) rfl rfl ⟨Nat.le_of_ble_eq_true rfl, Nat.le_of_ble_eq_true rfl⟩ (Nat.le_of_ble_eq_true rfl)  ?_
      rw [hu3 h (by decide) (by decide) (by decide)]
      refine a_goto 140 d_Mod_laysLine_100 (by decide) ?_
      refine a_iinc d_Mod_laysLine_140 rfl (nI_1 k) (Nat.le_of_ble_eq_true rfl) rfl ?_
      refine a_goto 12 d_Mod_laysLine_143 (by decide) ?_
      exact M
set_option maxRecDepth 20000 in
set_option maxHeartbeats 4000000 in
theorem m_laysLine0 {W H : Nat} {D : Int64} {j s ac by_ la ra : Int32} {t : Nat} (ht : t < 64) (hb : isB (decide (j = 1)) D t = true) (L : MLd W H D j s ac by_ la ra h) : ∃ h1 N lx ly fx fy, MLt W H D j s ac by_ la ra t h1 ∧ (∃ a b c d e f g i jj k, h1 32 = oMod a b c d e f g i jj k (nI N)) ∧ h1 51 = aI 600 lx ∧ h1 52 = aI 600 ly ∧ LnP V (bX (decide (j = 1)) D t) (bY (decide (j = 1)) D t) (sP (decide (j = 1)) D t) (zN (decide (j = 1)) D t) (zC (decide (j = 1)) D t) 0 s (zN (decide (j = 1)) D t) N lx ly fx fy ∧ FQ h1 h ∧ AMet V i_Mod_laysLine 4 [.ref 32, .int (nI (sB (decide (j = 1)) D t)), .int 0] h n z none h1 n z := by
  obtain ⟨tb0, ve0, oa0, lm0, g32, rest⟩ := id L
  obtain ⟨h2, T, F2, M2⟩ := m_laysTable (V := V) (n := n) (z := z) ht hb L
  obtain ⟨lm2, n32, ⟨st2, of2, le2, vx2, tu2, lx2, ly2, n33, es2, n47, n48, n49, n50, n51, n52⟩, ⟨fr2, sz2, fx2, fy2, wn2, cx2, cy2, go2, n39, n40, n41, n42, n43, n44, n45, n46, ml2⟩, ⟨-, -, of3, vx3, o47, o49, tof, tvx⟩⟩ := id T
  have eof : of3 = of2 := by have := o47.symm.trans n47; injection this with this; injection this with _ this; injection this
  have evx : vx3 = vx2 := by have := o49.symm.trans n49; injection this with this; injection this with _ this; injection this
  subst eof evx
  obtain ⟨⟨p1, p2, p3, p4, p5⟩, p6⟩ := ml2 t ht hb
  obtain ⟨s20, s21, s22, s23, s24⟩ := MB.st0 es2
  obtain ⟨z1, z2, z3⟩ := bd_zC ht hb
  have P4 := bd_P ht hb
  have B36 := sB_36 (decide (j = 1)) D t (by omega)
  have Sx := ((Gd_all (decide (j = 1)) D).2 t ht hb).2.1
  have Bx := bd_Bnd ht hb
  have Z := LnP.zero V (P := (sP (decide (j = 1)) D t)) (nv := (zN (decide (j = 1)) D t)) (cn := (zC (decide (j = 1)) D t)) (kind := 0) (sh := s) Sx lx2 ly2
  obtain ⟨N, lx, ly, fx, fy, LL, M⟩ := L_line0 (V := V) (h := h2) (n := n) (z := z) (ac := ac) (by_ := by_) (la := la) (ra := ra) (il := 1) (mn := nI (sB (decide (j = 1)) D 64)) (rs := 0) (tb := nI (sB (decide (j = 1)) D t)) (oa := nI (zO (decide (j = 1)) D t)) n39 n44 n45 n49 (show (sB (decide (j = 1)) D t) < 40 by omega) p1 P4.2.2 z1 z2 (fun k hk => ⟨(p6 k hk).1, (p6 k hk).2.1⟩) tvx z3 n33 s23 Sx Bx (by omega) (zN (decide (j = 1)) D t) 0 (by omega) 0 lx2 ly2 _ _ Z
  refine ⟨hu (hu (hu h2 51 (aI 600 lx)) 52 (aI 600 ly)) 32 (oMod ac by_ la ra 1 (nI (sB (decide (j = 1)) D 64)) 0 (nI (sB (decide (j = 1)) D t)) (nI (zN (decide (j = 1)) D t)) (nI (zO (decide (j = 1)) D t)) (nI N)), N, lx, ly, fx, fy, ⟨nI N, hu_s _ _ _, ⟨st2, of3, le2, vx3, tu2, lx, ly, n33, es2, n47, n48, n49, n50, rfl, rfl⟩, ⟨fr2, sz2, fx2, fy2, wn2, cx2, cy2, go2, n39, n40, n41, n42, n43, n44, n45, n46, ml2⟩, ⟨rfl, rfl, of3, vx3, n47, n49, tof, tvx⟩⟩, ⟨_, _, _, _, _, _, _, _, _, _, hu_s _ _ _⟩, rfl, rfl, LL, FQ.tr (fun i q => by rw [hu_n (by omega), hu_n (by omega), hu_n (by omega)]; exact F2 i q) FQ.rfl, ?_⟩
  · have e0 : hu h2 32 (oMod ac by_ la ra 1 (nI (sB (decide (j = 1)) D 64)) 0 (nI (sB (decide (j = 1)) D t)) (nI (zN (decide (j = 1)) D t)) (nI (zO (decide (j = 1)) D t)) 0) = hu (hu (hu h2 51 (aI 600 lx2)) 52 (aI 600 ly2)) 32 (oMod ac by_ la ra 1 (nI (sB (decide (j = 1)) D 64)) 0 (nI (sB (decide (j = 1)) D t)) (nI (zN (decide (j = 1)) D t)) (nI (zO (decide (j = 1)) D t)) (nI 0)) := by
      rw [hu_same n51, hu_same n52]; rfl
    refine AMet.intro (Nat.le_refl _) (Nat.le_refl _) (by decide) (Nat.le_of_ble_eq_true rfl) rfl ?_
    refine a_aload_n d_Mod_laysLine_0 rfl ?_
    refine a_iload_n d_Mod_laysLine_1 rfl ?_
    refine a_cv0 (a := 32) d_Mod_laysLine_2 m_Mod_laysTable t_Mod_laysTable l_Mod_226 g32 rfl rfl M2 rfl rfl ⟨Nat.le_of_ble_eq_true rfl, Nat.le_of_ble_eq_true rfl⟩ (Nat.le_of_ble_eq_true rfl)  ?_
    refine a_aload_n d_Mod_laysLine_5 rfl ?_
    refine a_iconst (v := 0) d_Mod_laysLine_6 (by decide) ?_
    refine a_putf d_Mod_laysLine_7 f_Mod_241 rfl n32 (Nat.le_of_ble_eq_true rfl) rfl rfl ?_
    refine a_iconst (v := 0) d_Mod_laysLine_10 (by decide) ?_
    refine a_istore_n d_Mod_laysLine_11 (Nat.le_of_ble_eq_true rfl) (Nat.le_of_ble_eq_true rfl) rfl ?_
    refine a_eq rfl rfl rfl e0 rfl rfl M
set_option maxRecDepth 20000 in
set_option maxHeartbeats 4000000 in
theorem m_laysLine1 {W H : Nat} {D : Int64} {j s ac by_ la ra : Int32} {t : Nat} (ht : t < 64) (hb : isB (decide (j = 1)) D t = true) (L : MLd W H D j s ac by_ la ra h) : ∃ h1 N lx ly fx fy, MLt W H D j s ac by_ la ra t h1 ∧ (∃ a b c d e f g i jj k, h1 32 = oMod a b c d e f g i jj k (nI N)) ∧ h1 51 = aI 600 lx ∧ h1 52 = aI 600 ly ∧ LnP V (bX (decide (j = 1)) D t) (bY (decide (j = 1)) D t) (sP (decide (j = 1)) D t) (zN (decide (j = 1)) D t) (zC (decide (j = 1)) D t) 1 s (zN (decide (j = 1)) D t) N lx ly fx fy ∧ FQ h1 h ∧ AMet V i_Mod_laysLine 4 [.ref 32, .int (nI (sB (decide (j = 1)) D t)), .int 1] h n z none h1 n z := by
  obtain ⟨tb0, ve0, oa0, lm0, g32, rest⟩ := id L
  obtain ⟨h2, T, F2, M2⟩ := m_laysTable (V := V) (n := n) (z := z) ht hb L
  obtain ⟨lm2, n32, ⟨st2, of2, le2, vx2, tu2, lx2, ly2, n33, es2, n47, n48, n49, n50, n51, n52⟩, ⟨fr2, sz2, fx2, fy2, wn2, cx2, cy2, go2, n39, n40, n41, n42, n43, n44, n45, n46, ml2⟩, ⟨-, -, of3, vx3, o47, o49, tof, tvx⟩⟩ := id T
  have eof : of3 = of2 := by have := o47.symm.trans n47; injection this with this; injection this with _ this; injection this
  have evx : vx3 = vx2 := by have := o49.symm.trans n49; injection this with this; injection this with _ this; injection this
  subst eof evx
  obtain ⟨⟨p1, p2, p3, p4, p5⟩, p6⟩ := ml2 t ht hb
  obtain ⟨s20, s21, s22, s23, s24⟩ := MB.st0 es2
  obtain ⟨z1, z2, z3⟩ := bd_zC ht hb
  have P4 := bd_P ht hb
  have B36 := sB_36 (decide (j = 1)) D t (by omega)
  have Sx := ((Gd_all (decide (j = 1)) D).2 t ht hb).2.1
  have Bx := bd_Bnd ht hb
  have Z := LnP.zero V (P := (sP (decide (j = 1)) D t)) (nv := (zN (decide (j = 1)) D t)) (cn := (zC (decide (j = 1)) D t)) (kind := 1) (sh := s) Sx lx2 ly2
  obtain ⟨N, lx, ly, fx, fy, LL, M⟩ := L_line1 (V := V) (h := h2) (n := n) (z := z) (ac := ac) (by_ := by_) (la := la) (ra := ra) (il := 1) (mn := nI (sB (decide (j = 1)) D 64)) (rs := 0) (tb := nI (sB (decide (j = 1)) D t)) (oa := nI (zO (decide (j = 1)) D t)) n39 n44 n45 n49 (show (sB (decide (j = 1)) D t) < 40 by omega) p1 P4.2.2 z1 z2 (fun k hk => ⟨(p6 k hk).1, (p6 k hk).2.1⟩) tvx z3 n33 s23 Sx Bx (by omega) (zN (decide (j = 1)) D t) 0 (by omega) 0 lx2 ly2 _ _ Z
  refine ⟨hu (hu (hu h2 51 (aI 600 lx)) 52 (aI 600 ly)) 32 (oMod ac by_ la ra 1 (nI (sB (decide (j = 1)) D 64)) 0 (nI (sB (decide (j = 1)) D t)) (nI (zN (decide (j = 1)) D t)) (nI (zO (decide (j = 1)) D t)) (nI N)), N, lx, ly, fx, fy, ⟨nI N, hu_s _ _ _, ⟨st2, of3, le2, vx3, tu2, lx, ly, n33, es2, n47, n48, n49, n50, rfl, rfl⟩, ⟨fr2, sz2, fx2, fy2, wn2, cx2, cy2, go2, n39, n40, n41, n42, n43, n44, n45, n46, ml2⟩, ⟨rfl, rfl, of3, vx3, n47, n49, tof, tvx⟩⟩, ⟨_, _, _, _, _, _, _, _, _, _, hu_s _ _ _⟩, rfl, rfl, LL, FQ.tr (fun i q => by rw [hu_n (by omega), hu_n (by omega), hu_n (by omega)]; exact F2 i q) FQ.rfl, ?_⟩
  · have e0 : hu h2 32 (oMod ac by_ la ra 1 (nI (sB (decide (j = 1)) D 64)) 0 (nI (sB (decide (j = 1)) D t)) (nI (zN (decide (j = 1)) D t)) (nI (zO (decide (j = 1)) D t)) 0) = hu (hu (hu h2 51 (aI 600 lx2)) 52 (aI 600 ly2)) 32 (oMod ac by_ la ra 1 (nI (sB (decide (j = 1)) D 64)) 0 (nI (sB (decide (j = 1)) D t)) (nI (zN (decide (j = 1)) D t)) (nI (zO (decide (j = 1)) D t)) (nI 0)) := by
      rw [hu_same n51, hu_same n52]; rfl
    refine AMet.intro (Nat.le_refl _) (Nat.le_refl _) (by decide) (Nat.le_of_ble_eq_true rfl) rfl ?_
    refine a_aload_n d_Mod_laysLine_0 rfl ?_
    refine a_iload_n d_Mod_laysLine_1 rfl ?_
    refine a_cv0 (a := 32) d_Mod_laysLine_2 m_Mod_laysTable t_Mod_laysTable l_Mod_226 g32 rfl rfl M2 rfl rfl ⟨Nat.le_of_ble_eq_true rfl, Nat.le_of_ble_eq_true rfl⟩ (Nat.le_of_ble_eq_true rfl)  ?_
    refine a_aload_n d_Mod_laysLine_5 rfl ?_
    refine a_iconst (v := 0) d_Mod_laysLine_6 (by decide) ?_
    refine a_putf d_Mod_laysLine_7 f_Mod_241 rfl n32 (Nat.le_of_ble_eq_true rfl) rfl rfl ?_
    refine a_iconst (v := 0) d_Mod_laysLine_10 (by decide) ?_
    refine a_istore_n d_Mod_laysLine_11 (Nat.le_of_ble_eq_true rfl) (Nat.le_of_ble_eq_true rfl) rfl ?_
    refine a_eq rfl rfl rfl e0 rfl rfl M
end
