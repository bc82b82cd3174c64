/-! THE MODEL fills: printed by wip/whole/t74.py -/
section
variable {V : VV} {h : AH} {n z : Nat}

set_option maxRecDepth 20000 in
set_option maxHeartbeats 4000000 in
theorem L_fill {ac by_ la ra il mn : Int32} {rs : Int64} {tb ve oa : Int32} {N : Nat} {lx ly : Nat → Int32} {fx fy : Nat → Int} (k32 : h 32 = oMod ac by_ la ra il mn rs tb ve oa (nI N)) (k51 : h 51 = aI 600 lx) (k52 : h 52 = aI 600 ly) (hN : N < 600) (hl : ∀ i, i < N → lx i = iI (fx i) ∧ ly i = iI (fy i)) (cl : fx N = fx 0 ∧ fy N = fy 0) (sm : ∀ i, i ≤ N → Sm (fx i) ∧ Sm (fy i)) {X Y : Nat} (hX : X < 8) (hY : Y < 8) : ∀ (m i : Nat), i + m = N → AM V i_Mod_isFilled 0 n z (some (.int (if xr (fun i => crZ (fx i) (fy i) (fx (i + 1)) (fy (i + 1)) (32 * (X : Int) + 16) (32 * (Y : Int) + 16)) N then 1 else 0))) h n z 23 [some (.ref 32), some (.int (nI X)), some (.int (nI Y)), some (.int (iI (32 * (X : Int) + 16))), some (.int (iI (32 * (Y : Int) + 16))), some (.int (nI (cnt (fun i => crZ (fx i) (fy i) (fx (i + 1)) (fy (i + 1)) (32 * (X : Int) + 16) (32 * (Y : Int) + 16)) i))), some (.int (nI i)), none, none, none, none] [] h n z := by
  intro m
  induction m with
  | zero =>
    intro i hi
    have e : i = N := by omega
    subst e
    have er : xr (fun i => crZ (fx i) (fy i) (fx (i + 1)) (fy (i + 1)) (32 * (X : Int) + 16) (32 * (Y : Int) + 16)) i = decide (cnt (fun i => crZ (fx i) (fy i) (fx (i + 1)) (fy (i + 1)) (32 * (X : Int) + 16) (32 * (Y : Int) + 16)) i % 2 = 1) := xr_cnt _ _
    have hc := cnt_le (fun i => crZ (fx i) (fy i) (fx (i + 1)) (fy (i + 1)) (32 * (X : Int) + 16) (32 * (Y : Int) + 16)) i
    have e2 : nI (cnt (fun i => crZ (fx i) (fy i) (fx (i + 1)) (fy (i + 1)) (32 * (X : Int) + 16) (32 * (Y : Int) + 16)) i) - nI (cnt (fun i => crZ (fx i) (fy i) (fx (i + 1)) (fy (i + 1)) (32 * (X : Int) + 16) (32 * (Y : Int) + 16)) i) / 2 * 2 = nI (cnt (fun i => crZ (fx i) (fy i) (fx (i + 1)) (fy (i + 1)) (32 * (X : Int) + 16) (32 * (Y : Int) + 16)) i % 2) := by
      rw [show (2 : Int32) = nI 2 from rfl]
      exact pk_rem (by omega) (by omega) (by omega)
    refine a_iload d_Mod_isFilled_23 rfl ?_
    refine a_aload_n d_Mod_isFilled_25 rfl ?_
    refine a_getf d_Mod_isFilled_26 f_Mod_241 k32 rfl ?_
    refine a_icmp_ge 181 d_Mod_isFilled_29 (by decide) (fun c29 => ?_) (fun c29 => absurd (Int32.le_refl _) c29)
    refine a_iload d_Mod_isFilled_181 rfl ?_
    refine a_iconst (v := 2) d_Mod_isFilled_183 (by decide) ?_
    refine a_irem d_Mod_isFilled_184 (by decide) ?_
    rw [e2]
    refine a_iconst (v := 1) d_Mod_isFilled_185 (by decide) ?_
    refine a_icmp_ne 193 d_Mod_isFilled_186 (by decide) (fun c186 => ?_) (fun c186 => ?_)
    · skip
      refine a_iconst (v := 0) d_Mod_isFilled_193 (by decide) ?_
      exact a_zret d_Mod_isFilled_194 rfl (by decide) (by first | (rw [er, decide_eq_true ((nI_eq (b := 1) (by omega) (by omega)).mp c186)]; rfl) | (rw [er, decide_eq_false (fun q => c186 (by rw [q]; rfl))]; rfl)) rfl rfl
    · skip
      refine a_iconst (v := 1) d_Mod_isFilled_189 (by decide) ?_
      refine a_goto 194 d_Mod_isFilled_190 (by decide) ?_
      exact a_zret d_Mod_isFilled_194 rfl (by decide) (by first | (rw [er, decide_eq_true ((nI_eq (b := 1) (by omega) (by omega)).mp c186)]; rfl) | (rw [er, decide_eq_false (fun q => c186 (by rw [q]; rfl))]; rfl)) rfl rfl
  | succ m ih =>
    intro i hi
    have hmod := Nat.mod_lt (i + 1) (show 0 < N by omega)
    have rm : nI (i + 1) - nI (i + 1) / nI N * nI N = nI ((i + 1) % N) := pk_rem (by omega) (by omega) (by omega)
    obtain ⟨l1, l2⟩ := hl i (by omega)
    have jj : lx ((i + 1) % N) = iI (fx (i + 1)) ∧ ly ((i + 1) % N) = iI (fy (i + 1)) := by
      rcases Nat.lt_or_ge (i + 1) N with c | c
      · rw [Nat.mod_eq_of_lt c]; exact hl _ c
      · rw [show i + 1 = N by omega, Nat.mod_self, cl.1, cl.2]; exact hl 0 (by omega)
    obtain ⟨j1, j2⟩ := jj
    have q1 := sm i (by omega)
    have q2 := sm (i + 1) (by omega)
    have hm := mcr_i q1.1 q1.2 q2.1 q2.2 (cx := 32 * (X : Int) + 16) (cy := 32 * (Y : Int) + 16) (by unfold Sm; omega) (by unfold Sm; omega)
    have u1 := q1.2
    have u2 := q2.2
    unfold Sm at u1 u2
    have c3 : iI (fy (i + 1)) - iI (fy i) ≤ 0 ↔ fy (i + 1) - fy i ≤ 0 := by rw [iI_sub, iI_0]; exact iI_le (by omega) (by omega) (by omega) (by omega)
    have d1 : (iI (32 * (Y : Int) + 16)) ≤ iI (fy i) ↔ 32 * (Y : Int) + 16 ≤ fy i := iI_le (by omega) (by omega) (by omega) (by omega)
    have d2 : (iI (32 * (Y : Int) + 16)) ≤ iI (fy (i + 1)) ↔ 32 * (Y : Int) + 16 ≤ fy (i + 1) := iI_le (by omega) (by omega) (by omega) (by omega)
    by_cases a1 : (iI (32 * (Y : Int) + 16)) ≤ iI (fy i)
    · by_cases a2 : (iI (32 * (Y : Int) + 16)) ≤ iI (fy (i + 1))
      · have hm0 : mcr (iI (fx i)) (iI (fy i)) (iI (fx (i + 1))) (iI (fy (i + 1))) (iI (32 * (X : Int) + 16)) (iI (32 * (Y : Int) + 16)) = 0 := by
          unfold mcr
          rw [if_pos a1, if_pos a2, if_pos rfl]
        refine a_iload d_Mod_isFilled_23 rfl ?_
        refine a_aload_n d_Mod_isFilled_25 rfl ?_
        refine a_getf d_Mod_isFilled_26 f_Mod_241 k32 rfl ?_
        refine a_icmp_ge 181 d_Mod_isFilled_29 (by decide) (fun c29 => absurd c29 (nI_ge (show i < N by omega) (by omega))) (fun c29 => ?_)
        refine a_iload d_Mod_isFilled_32 rfl ?_
        refine a_iconst (v := 1) d_Mod_isFilled_34 (by decide) ?_
        refine a_iadd d_Mod_isFilled_35 ?_
        rw [nI_1]
        refine a_aload_n d_Mod_isFilled_36 rfl ?_
        refine a_getf d_Mod_isFilled_37 f_Mod_241 k32 rfl ?_
        refine a_irem d_Mod_isFilled_40 (nI_ne0 (by omega) (by omega)) ?_
        rw [rm]
        refine a_istore d_Mod_isFilled_41 (Nat.le_of_ble_eq_true rfl) (Nat.le_of_ble_eq_true rfl) rfl ?_
        refine a_aload_n d_Mod_isFilled_43 rfl ?_
        refine a_getf d_Mod_isFilled_44 f_Mod_68 k32 rfl ?_
        refine a_iload d_Mod_isFilled_47 rfl ?_
        refine a_iald d_Mod_isFilled_49 k52 (nI_in (show i < 600 by omega) (by decide)) ?_
        rw [nI_clamp (by omega), l2]
        refine a_iload d_Mod_isFilled_50 rfl ?_
        refine a_icmp_ge 59 d_Mod_isFilled_52 (by decide) (fun c52 => ?_) (fun c52 => absurd a1 c52)
        refine a_iconst (v := 0) d_Mod_isFilled_59 (by decide) ?_
        refine a_istore d_Mod_isFilled_60 (Nat.le_of_ble_eq_true rfl) (Nat.le_of_ble_eq_true rfl) rfl ?_
        refine a_iload d_Mod_isFilled_62 rfl ?_
        refine a_aload_n d_Mod_isFilled_64 rfl ?_
        refine a_getf d_Mod_isFilled_65 f_Mod_68 k32 rfl ?_
        refine a_iload d_Mod_isFilled_68 rfl ?_
        refine a_iald d_Mod_isFilled_70 k52 (nI_in (show (i + 1) % N < 600 by omega) (by decide)) ?_
        rw [nI_clamp (by omega), j2]
        refine a_iload d_Mod_isFilled_71 rfl ?_
        refine a_icmp_ge 80 d_Mod_isFilled_73 (by decide) (fun c73 => ?_) (fun c73 => absurd a2 c73)
        refine a_iconst (v := 0) d_Mod_isFilled_80 (by decide) ?_
        refine a_icmp_eq 175 d_Mod_isFilled_81 (by decide) (fun c81 => ?_) (fun c81 => absurd rfl c81)
        refine a_iinc d_Mod_isFilled_175 rfl (nI_1 i) (Nat.le_of_ble_eq_true rfl) rfl ?_
        refine a_goto 23 d_Mod_isFilled_178 (by decide) ?_
        refine a_drop 7 ?_
        refine a_drop 8 ?_
        refine a_drop 9 ?_
        refine a_drop 10 ?_
        have ev : crZ (fx i) (fy i) (fx (i + 1)) (fy (i + 1)) (32 * (X : Int) + 16) (32 * (Y : Int) + 16) = false := by
          rw [hm0] at hm
          cases q : crZ (fx i) (fy i) (fx (i + 1)) (fy (i + 1)) (32 * (X : Int) + 16) (32 * (Y : Int) + 16)
          · rfl
          · rw [q] at hm; exact absurd hm (by decide)
        refine a_eq rfl ?_ rfl rfl rfl rfl (ih (i + 1) (by omega))
        rw [← cnt_bf (f := (fun i => crZ (fx i) (fy i) (fx (i + 1)) (fy (i + 1)) (32 * (X : Int) + 16) (32 * (Y : Int) + 16))) ev, Int32.add_zero]
        rfl
      · skip
        refine a_iload d_Mod_isFilled_23 rfl ?_
        refine a_aload_n d_Mod_isFilled_25 rfl ?_
        refine a_getf d_Mod_isFilled_26 f_Mod_241 k32 rfl ?_
        refine a_icmp_ge 181 d_Mod_isFilled_29 (by decide) (fun c29 => absurd c29 (nI_ge (show i < N by omega) (by omega))) (fun c29 => ?_)
        refine a_iload d_Mod_isFilled_32 rfl ?_
        refine a_iconst (v := 1) d_Mod_isFilled_34 (by decide) ?_
        refine a_iadd d_Mod_isFilled_35 ?_
        rw [nI_1]
        refine a_aload_n d_Mod_isFilled_36 rfl ?_
        refine a_getf d_Mod_isFilled_37 f_Mod_241 k32 rfl ?_
        refine a_irem d_Mod_isFilled_40 (nI_ne0 (by omega) (by omega)) ?_
        rw [rm]
        refine a_istore d_Mod_isFilled_41 (Nat.le_of_ble_eq_true rfl) (Nat.le_of_ble_eq_true rfl) rfl ?_
        refine a_aload_n d_Mod_isFilled_43 rfl ?_
        refine a_getf d_Mod_isFilled_44 f_Mod_68 k32 rfl ?_
        refine a_iload d_Mod_isFilled_47 rfl ?_
        refine a_iald d_Mod_isFilled_49 k52 (nI_in (show i < 600 by omega) (by decide)) ?_
        rw [nI_clamp (by omega), l2]
        refine a_iload d_Mod_isFilled_50 rfl ?_
        refine a_icmp_ge 59 d_Mod_isFilled_52 (by decide) (fun c52 => ?_) (fun c52 => absurd a1 c52)
        refine a_iconst (v := 0) d_Mod_isFilled_59 (by decide) ?_
        refine a_istore d_Mod_isFilled_60 (Nat.le_of_ble_eq_true rfl) (Nat.le_of_ble_eq_true rfl) rfl ?_
        refine a_iload d_Mod_isFilled_62 rfl ?_
        refine a_aload_n d_Mod_isFilled_64 rfl ?_
        refine a_getf d_Mod_isFilled_65 f_Mod_68 k32 rfl ?_
        refine a_iload d_Mod_isFilled_68 rfl ?_
        refine a_iald d_Mod_isFilled_70 k52 (nI_in (show (i + 1) % N < 600 by omega) (by decide)) ?_
        rw [nI_clamp (by omega), j2]
        refine a_iload d_Mod_isFilled_71 rfl ?_
        refine a_icmp_ge 80 d_Mod_isFilled_73 (by decide) (fun c73 => absurd c73 a2) (fun c73 => ?_)
        refine a_iconst (v := 1) d_Mod_isFilled_76 (by decide) ?_
        refine a_goto 81 d_Mod_isFilled_77 (by decide) ?_
        refine a_icmp_eq 175 d_Mod_isFilled_81 (by decide) (fun c81 => absurd c81 (by decide)) (fun c81 => ?_)
        refine a_aload_n d_Mod_isFilled_84 rfl ?_
        refine a_getf d_Mod_isFilled_85 f_Mod_68 k32 rfl ?_
        refine a_iload d_Mod_isFilled_88 rfl ?_
        refine a_iald d_Mod_isFilled_90 k52 (nI_in (show (i + 1) % N < 600 by omega) (by decide)) ?_
        rw [nI_clamp (by omega), j2]
        refine a_aload_n d_Mod_isFilled_91 rfl ?_
        refine a_getf d_Mod_isFilled_92 f_Mod_68 k32 rfl ?_
        refine a_iload d_Mod_isFilled_95 rfl ?_
        refine a_iald d_Mod_isFilled_97 k52 (nI_in (show i < 600 by omega) (by decide)) ?_
        rw [nI_clamp (by omega), l2]
        refine a_isub d_Mod_isFilled_98 ?_
        refine a_istore d_Mod_isFilled_99 (Nat.le_of_ble_eq_true rfl) (Nat.le_of_ble_eq_true rfl) rfl ?_
        refine a_aload_n d_Mod_isFilled_101 rfl ?_
        refine a_getf d_Mod_isFilled_102 f_Mod_65 k32 rfl ?_
        refine a_iload d_Mod_isFilled_105 rfl ?_
        refine a_iald d_Mod_isFilled_107 k51 (nI_in (show i < 600 by omega) (by decide)) ?_
        rw [nI_clamp (by omega), l1]
        refine a_iload_n d_Mod_isFilled_108 rfl ?_
        refine a_isub d_Mod_isFilled_109 ?_
        refine a_iload d_Mod_isFilled_110 rfl ?_
        refine a_imul d_Mod_isFilled_112 ?_
        refine a_iload d_Mod_isFilled_113 rfl ?_
        refine a_aload_n d_Mod_isFilled_115 rfl ?_
        refine a_getf d_Mod_isFilled_116 f_Mod_68 k32 rfl ?_
        refine a_iload d_Mod_isFilled_119 rfl ?_
        refine a_iald d_Mod_isFilled_121 k52 (nI_in (show i < 600 by omega) (by decide)) ?_
        rw [nI_clamp (by omega), l2]
        refine a_isub d_Mod_isFilled_122 ?_
        refine a_aload_n d_Mod_isFilled_123 rfl ?_
        refine a_getf d_Mod_isFilled_124 f_Mod_65 k32 rfl ?_
        refine a_iload d_Mod_isFilled_127 rfl ?_
        refine a_iald d_Mod_isFilled_129 k51 (nI_in (show (i + 1) % N < 600 by omega) (by decide)) ?_
        rw [nI_clamp (by omega), j1]
        refine a_aload_n d_Mod_isFilled_130 rfl ?_
        refine a_getf d_Mod_isFilled_131 f_Mod_65 k32 rfl ?_
        refine a_iload d_Mod_isFilled_134 rfl ?_
        refine a_iald d_Mod_isFilled_136 k51 (nI_in (show i < 600 by omega) (by decide)) ?_
        rw [nI_clamp (by omega), l1]
        refine a_isub d_Mod_isFilled_137 ?_
        refine a_imul d_Mod_isFilled_138 ?_
        refine a_iadd d_Mod_isFilled_139 ?_
        refine a_istore d_Mod_isFilled_140 (Nat.le_of_ble_eq_true rfl) (Nat.le_of_ble_eq_true rfl) rfl ?_
        refine a_iload d_Mod_isFilled_142 rfl ?_
        refine a_iload d_Mod_isFilled_144 rfl ?_
        refine a_if_le 162 d_Mod_isFilled_146 (by decide) (fun c146 => ?_) (fun c146 => absurd (c3.mpr (by rw [d1] at a1; rw [d2] at a2; omega)) c146)
        refine a_iload d_Mod_isFilled_162 rfl ?_
        refine a_if_le 171 d_Mod_isFilled_164 (by decide) (fun c164 => ?_) (fun c164 => ?_)
        · skip
          refine a_iconst (v := 0) d_Mod_isFilled_171 (by decide) ?_
          refine a_iadd d_Mod_isFilled_172 ?_
          refine a_istore d_Mod_isFilled_173 (Nat.le_of_ble_eq_true rfl) (Nat.le_of_ble_eq_true rfl) rfl ?_
          refine a_iinc d_Mod_isFilled_175 rfl (nI_1 i) (Nat.le_of_ble_eq_true rfl) rfl ?_
          refine a_goto 23 d_Mod_isFilled_178 (by decide) ?_
          refine a_drop 7 ?_
          refine a_drop 8 ?_
          refine a_drop 9 ?_
          refine a_drop 10 ?_
          have hm1 : mcr (iI (fx i)) (iI (fy i)) (iI (fx (i + 1))) (iI (fy (i + 1))) (iI (32 * (X : Int) + 16)) (iI (32 * (Y : Int) + 16)) = 0 := by
            unfold mcr
            rw [if_pos a1, if_neg a2, if_neg (by decide), if_pos c146, if_pos c164]
          have ev : crZ (fx i) (fy i) (fx (i + 1)) (fy (i + 1)) (32 * (X : Int) + 16) (32 * (Y : Int) + 16) = false := by
            rw [hm1] at hm
            cases q : crZ (fx i) (fy i) (fx (i + 1)) (fy (i + 1)) (32 * (X : Int) + 16) (32 * (Y : Int) + 16)
            · rfl
            · rw [q] at hm; exact absurd hm (by decide)
          rw [cnt_bf (f := (fun i => crZ (fx i) (fy i) (fx (i + 1)) (fy (i + 1)) (32 * (X : Int) + 16) (32 * (Y : Int) + 16))) ev]
          exact ih (i + 1) (by omega)
        · skip
          refine a_iconst (v := 1) d_Mod_isFilled_167 (by decide) ?_
          refine a_goto 172 d_Mod_isFilled_168 (by decide) ?_
          refine a_iadd d_Mod_isFilled_172 ?_
          refine a_istore d_Mod_isFilled_173 (Nat.le_of_ble_eq_true rfl) (Nat.le_of_ble_eq_true rfl) rfl ?_
          refine a_iinc d_Mod_isFilled_175 rfl (nI_1 i) (Nat.le_of_ble_eq_true rfl) rfl ?_
          refine a_goto 23 d_Mod_isFilled_178 (by decide) ?_
          refine a_drop 7 ?_
          refine a_drop 8 ?_
          refine a_drop 9 ?_
          refine a_drop 10 ?_
          have hm1 : mcr (iI (fx i)) (iI (fy i)) (iI (fx (i + 1))) (iI (fy (i + 1))) (iI (32 * (X : Int) + 16)) (iI (32 * (Y : Int) + 16)) = 1 := by
            unfold mcr
            rw [if_pos a1, if_neg a2, if_neg (by decide), if_pos c146, if_neg c164]
          have ev : crZ (fx i) (fy i) (fx (i + 1)) (fy (i + 1)) (32 * (X : Int) + 16) (32 * (Y : Int) + 16) = true := by
            rw [hm1] at hm
            cases q : crZ (fx i) (fy i) (fx (i + 1)) (fy (i + 1)) (32 * (X : Int) + 16) (32 * (Y : Int) + 16)
            · rw [q] at hm; exact absurd hm (by decide)
            · rfl
          rw [cnt_bt (f := (fun i => crZ (fx i) (fy i) (fx (i + 1)) (fy (i + 1)) (32 * (X : Int) + 16) (32 * (Y : Int) + 16))) ev]
          exact ih (i + 1) (by omega)
    · by_cases a2 : (iI (32 * (Y : Int) + 16)) ≤ iI (fy (i + 1))
      · skip
        refine a_iload d_Mod_isFilled_23 rfl ?_
        refine a_aload_n d_Mod_isFilled_25 rfl ?_
        refine a_getf d_Mod_isFilled_26 f_Mod_241 k32 rfl ?_
        refine a_icmp_ge 181 d_Mod_isFilled_29 (by decide) (fun c29 => absurd c29 (nI_ge (show i < N by omega) (by omega))) (fun c29 => ?_)
        refine a_iload d_Mod_isFilled_32 rfl ?_
        refine a_iconst (v := 1) d_Mod_isFilled_34 (by decide) ?_
        refine a_iadd d_Mod_isFilled_35 ?_
        rw [nI_1]
        refine a_aload_n d_Mod_isFilled_36 rfl ?_
        refine a_getf d_Mod_isFilled_37 f_Mod_241 k32 rfl ?_
        refine a_irem d_Mod_isFilled_40 (nI_ne0 (by omega) (by omega)) ?_
        rw [rm]
        refine a_istore d_Mod_isFilled_41 (Nat.le_of_ble_eq_true rfl) (Nat.le_of_ble_eq_true rfl) rfl ?_
        refine a_aload_n d_Mod_isFilled_43 rfl ?_
        refine a_getf d_Mod_isFilled_44 f_Mod_68 k32 rfl ?_
        refine a_iload d_Mod_isFilled_47 rfl ?_
        refine a_iald d_Mod_isFilled_49 k52 (nI_in (show i < 600 by omega) (by decide)) ?_
        rw [nI_clamp (by omega), l2]
        refine a_iload d_Mod_isFilled_50 rfl ?_
        refine a_icmp_ge 59 d_Mod_isFilled_52 (by decide) (fun c52 => absurd c52 a1) (fun c52 => ?_)
        refine a_iconst (v := 1) d_Mod_isFilled_55 (by decide) ?_
        refine a_goto 60 d_Mod_isFilled_56 (by decide) ?_
        refine a_istore d_Mod_isFilled_60 (Nat.le_of_ble_eq_true rfl) (Nat.le_of_ble_eq_true rfl) rfl ?_
        refine a_iload d_Mod_isFilled_62 rfl ?_
        refine a_aload_n d_Mod_isFilled_64 rfl ?_
        refine a_getf d_Mod_isFilled_65 f_Mod_68 k32 rfl ?_
        refine a_iload d_Mod_isFilled_68 rfl ?_
        refine a_iald d_Mod_isFilled_70 k52 (nI_in (show (i + 1) % N < 600 by omega) (by decide)) ?_
        rw [nI_clamp (by omega), j2]
        refine a_iload d_Mod_isFilled_71 rfl ?_
        refine a_icmp_ge 80 d_Mod_isFilled_73 (by decide) (fun c73 => ?_) (fun c73 => absurd a2 c73)
        refine a_iconst (v := 0) d_Mod_isFilled_80 (by decide) ?_
        refine a_icmp_eq 175 d_Mod_isFilled_81 (by decide) (fun c81 => absurd c81 (by decide)) (fun c81 => ?_)
        refine a_aload_n d_Mod_isFilled_84 rfl ?_
        refine a_getf d_Mod_isFilled_85 f_Mod_68 k32 rfl ?_
        refine a_iload d_Mod_isFilled_88 rfl ?_
        refine a_iald d_Mod_isFilled_90 k52 (nI_in (show (i + 1) % N < 600 by omega) (by decide)) ?_
        rw [nI_clamp (by omega), j2]
        refine a_aload_n d_Mod_isFilled_91 rfl ?_
        refine a_getf d_Mod_isFilled_92 f_Mod_68 k32 rfl ?_
        refine a_iload d_Mod_isFilled_95 rfl ?_
        refine a_iald d_Mod_isFilled_97 k52 (nI_in (show i < 600 by omega) (by decide)) ?_
        rw [nI_clamp (by omega), l2]
        refine a_isub d_Mod_isFilled_98 ?_
        refine a_istore d_Mod_isFilled_99 (Nat.le_of_ble_eq_true rfl) (Nat.le_of_ble_eq_true rfl) rfl ?_
        refine a_aload_n d_Mod_isFilled_101 rfl ?_
        refine a_getf d_Mod_isFilled_102 f_Mod_65 k32 rfl ?_
        refine a_iload d_Mod_isFilled_105 rfl ?_
        refine a_iald d_Mod_isFilled_107 k51 (nI_in (show i < 600 by omega) (by decide)) ?_
        rw [nI_clamp (by omega), l1]
        refine a_iload_n d_Mod_isFilled_108 rfl ?_
        refine a_isub d_Mod_isFilled_109 ?_
        refine a_iload d_Mod_isFilled_110 rfl ?_
        refine a_imul d_Mod_isFilled_112 ?_
        refine a_iload d_Mod_isFilled_113 rfl ?_
        refine a_aload_n d_Mod_isFilled_115 rfl ?_
        refine a_getf d_Mod_isFilled_116 f_Mod_68 k32 rfl ?_
        refine a_iload d_Mod_isFilled_119 rfl ?_
        refine a_iald d_Mod_isFilled_121 k52 (nI_in (show i < 600 by omega) (by decide)) ?_
        rw [nI_clamp (by omega), l2]
        refine a_isub d_Mod_isFilled_122 ?_
        refine a_aload_n d_Mod_isFilled_123 rfl ?_
        refine a_getf d_Mod_isFilled_124 f_Mod_65 k32 rfl ?_
        refine a_iload d_Mod_isFilled_127 rfl ?_
        refine a_iald d_Mod_isFilled_129 k51 (nI_in (show (i + 1) % N < 600 by omega) (by decide)) ?_
        rw [nI_clamp (by omega), j1]
        refine a_aload_n d_Mod_isFilled_130 rfl ?_
        refine a_getf d_Mod_isFilled_131 f_Mod_65 k32 rfl ?_
        refine a_iload d_Mod_isFilled_134 rfl ?_
        refine a_iald d_Mod_isFilled_136 k51 (nI_in (show i < 600 by omega) (by decide)) ?_
        rw [nI_clamp (by omega), l1]
        refine a_isub d_Mod_isFilled_137 ?_
        refine a_imul d_Mod_isFilled_138 ?_
        refine a_iadd d_Mod_isFilled_139 ?_
        refine a_istore d_Mod_isFilled_140 (Nat.le_of_ble_eq_true rfl) (Nat.le_of_ble_eq_true rfl) rfl ?_
        refine a_iload d_Mod_isFilled_142 rfl ?_
        refine a_iload d_Mod_isFilled_144 rfl ?_
        refine a_if_le 162 d_Mod_isFilled_146 (by decide) (fun c146 => absurd c146 (fun q => by have := c3.mp q; rw [d1] at a1; rw [d2] at a2; omega)) (fun c146 => ?_)
        refine a_iload d_Mod_isFilled_149 rfl ?_
        refine a_if_ge 158 d_Mod_isFilled_151 (by decide) (fun c151 => ?_) (fun c151 => ?_)
        · skip
          refine a_iconst (v := 0) d_Mod_isFilled_158 (by decide) ?_
          refine a_goto 172 d_Mod_isFilled_159 (by decide) ?_
          refine a_iadd d_Mod_isFilled_172 ?_
          refine a_istore d_Mod_isFilled_173 (Nat.le_of_ble_eq_true rfl) (Nat.le_of_ble_eq_true rfl) rfl ?_
          refine a_iinc d_Mod_isFilled_175 rfl (nI_1 i) (Nat.le_of_ble_eq_true rfl) rfl ?_
          refine a_goto 23 d_Mod_isFilled_178 (by decide) ?_
          refine a_drop 7 ?_
          refine a_drop 8 ?_
          refine a_drop 9 ?_
          refine a_drop 10 ?_
          have hm1 : mcr (iI (fx i)) (iI (fy i)) (iI (fx (i + 1))) (iI (fy (i + 1))) (iI (32 * (X : Int) + 16)) (iI (32 * (Y : Int) + 16)) = 0 := by
            unfold mcr
            rw [if_neg a1, if_pos a2, if_neg (by decide), if_neg c146, if_pos c151]
          have ev : crZ (fx i) (fy i) (fx (i + 1)) (fy (i + 1)) (32 * (X : Int) + 16) (32 * (Y : Int) + 16) = false := by
            rw [hm1] at hm
            cases q : crZ (fx i) (fy i) (fx (i + 1)) (fy (i + 1)) (32 * (X : Int) + 16) (32 * (Y : Int) + 16)
            · rfl
            · rw [q] at hm; exact absurd hm (by decide)
          rw [cnt_bf (f := (fun i => crZ (fx i) (fy i) (fx (i + 1)) (fy (i + 1)) (32 * (X : Int) + 16) (32 * (Y : Int) + 16))) ev]
          exact ih (i + 1) (by omega)
        · skip
          refine a_iconst (v := 1) d_Mod_isFilled_154 (by decide) ?_
          refine a_goto 172 d_Mod_isFilled_155 (by decide) ?_
          refine a_iadd d_Mod_isFilled_172 ?_
          refine a_istore d_Mod_isFilled_173 (Nat.le_of_ble_eq_true rfl) (Nat.le_of_ble_eq_true rfl) rfl ?_
          refine a_iinc d_Mod_isFilled_175 rfl (nI_1 i) (Nat.le_of_ble_eq_true rfl) rfl ?_
          refine a_goto 23 d_Mod_isFilled_178 (by decide) ?_
          refine a_drop 7 ?_
          refine a_drop 8 ?_
          refine a_drop 9 ?_
          refine a_drop 10 ?_
          have hm1 : mcr (iI (fx i)) (iI (fy i)) (iI (fx (i + 1))) (iI (fy (i + 1))) (iI (32 * (X : Int) + 16)) (iI (32 * (Y : Int) + 16)) = 1 := by
            unfold mcr
            rw [if_neg a1, if_pos a2, if_neg (by decide), if_neg c146, if_neg c151]
          have ev : crZ (fx i) (fy i) (fx (i + 1)) (fy (i + 1)) (32 * (X : Int) + 16) (32 * (Y : Int) + 16) = true := by
            rw [hm1] at hm
            cases q : crZ (fx i) (fy i) (fx (i + 1)) (fy (i + 1)) (32 * (X : Int) + 16) (32 * (Y : Int) + 16)
            · rw [q] at hm; exact absurd hm (by decide)
            · rfl
          rw [cnt_bt (f := (fun i => crZ (fx i) (fy i) (fx (i + 1)) (fy (i + 1)) (32 * (X : Int) + 16) (32 * (Y : Int) + 16))) ev]
          exact ih (i + 1) (by omega)
      · have hm0 : mcr (iI (fx i)) (iI (fy i)) (iI (fx (i + 1))) (iI (fy (i + 1))) (iI (32 * (X : Int) + 16)) (iI (32 * (Y : Int) + 16)) = 0 := by
          unfold mcr
          rw [if_neg a1, if_neg a2, if_pos rfl]
        refine a_iload d_Mod_isFilled_23 rfl ?_
        refine a_aload_n d_Mod_isFilled_25 rfl ?_
        refine a_getf d_Mod_isFilled_26 f_Mod_241 k32 rfl ?_
        refine a_icmp_ge 181 d_Mod_isFilled_29 (by decide) (fun c29 => absurd c29 (nI_ge (show i < N by omega) (by omega))) (fun c29 => ?_)
        refine a_iload d_Mod_isFilled_32 rfl ?_
        refine a_iconst (v := 1) d_Mod_isFilled_34 (by decide) ?_
        refine a_iadd d_Mod_isFilled_35 ?_
        rw [nI_1]
        refine a_aload_n d_Mod_isFilled_36 rfl ?_
        refine a_getf d_Mod_isFilled_37 f_Mod_241 k32 rfl ?_
        refine a_irem d_Mod_isFilled_40 (nI_ne0 (by omega) (by omega)) ?_
        rw [rm]
        refine a_istore d_Mod_isFilled_41 (Nat.le_of_ble_eq_true rfl) (Nat.le_of_ble_eq_true rfl) rfl ?_
        refine a_aload_n d_Mod_isFilled_43 rfl ?_
        refine a_getf d_Mod_isFilled_44 f_Mod_68 k32 rfl ?_
        refine a_iload d_Mod_isFilled_47 rfl ?_
        refine a_iald d_Mod_isFilled_49 k52 (nI_in (show i < 600 by omega) (by decide)) ?_
        rw [nI_clamp (by omega), l2]
        refine a_iload d_Mod_isFilled_50 rfl ?_
        refine a_icmp_ge 59 d_Mod_isFilled_52 (by decide) (fun c52 => absurd c52 a1) (fun c52 => ?_)
        refine a_iconst (v := 1) d_Mod_isFilled_55 (by decide) ?_
        refine a_goto 60 d_Mod_isFilled_56 (by decide) ?_
        refine a_istore d_Mod_isFilled_60 (Nat.le_of_ble_eq_true rfl) (Nat.le_of_ble_eq_true rfl) rfl ?_
        refine a_iload d_Mod_isFilled_62 rfl ?_
        refine a_aload_n d_Mod_isFilled_64 rfl ?_
        refine a_getf d_Mod_isFilled_65 f_Mod_68 k32 rfl ?_
        refine a_iload d_Mod_isFilled_68 rfl ?_
        refine a_iald d_Mod_isFilled_70 k52 (nI_in (show (i + 1) % N < 600 by omega) (by decide)) ?_
        rw [nI_clamp (by omega), j2]
        refine a_iload d_Mod_isFilled_71 rfl ?_
        refine a_icmp_ge 80 d_Mod_isFilled_73 (by decide) (fun c73 => absurd c73 a2) (fun c73 => ?_)
        refine a_iconst (v := 1) d_Mod_isFilled_76 (by decide) ?_
        refine a_goto 81 d_Mod_isFilled_77 (by decide) ?_
        refine a_icmp_eq 175 d_Mod_isFilled_81 (by decide) (fun c81 => ?_) (fun c81 => absurd rfl c81)
        refine a_iinc d_Mod_isFilled_175 rfl (nI_1 i) (Nat.le_of_ble_eq_true rfl) rfl ?_
        refine a_goto 23 d_Mod_isFilled_178 (by decide) ?_
        refine a_drop 7 ?_
        refine a_drop 8 ?_
        refine a_drop 9 ?_
        refine a_drop 10 ?_
        have ev : crZ (fx i) (fy i) (fx (i + 1)) (fy (i + 1)) (32 * (X : Int) + 16) (32 * (Y : Int) + 16) = false := by
          rw [hm0] at hm
          cases q : crZ (fx i) (fy i) (fx (i + 1)) (fy (i + 1)) (32 * (X : Int) + 16) (32 * (Y : Int) + 16)
          · rfl
          · rw [q] at hm; exact absurd hm (by decide)
        refine a_eq rfl ?_ rfl rfl rfl rfl (ih (i + 1) (by omega))
        rw [← cnt_bf (f := (fun i => crZ (fx i) (fy i) (fx (i + 1)) (fy (i + 1)) (32 * (X : Int) + 16) (32 * (Y : Int) + 16))) ev, Int32.add_zero]
        rfl
set_option maxRecDepth 20000 in
set_option maxHeartbeats 4000000 in
theorem s_Mod_isFilled {ac by_ la ra il mn : Int32} {rs : Int64} {tb ve oa : Int32} {N : Nat} {lx ly : Nat → Int32} {fx fy : Nat → Int} (k32 : h 32 = oMod ac by_ la ra il mn rs tb ve oa (nI N)) (k51 : h 51 = aI 600 lx) (k52 : h 52 = aI 600 ly) (hN : N < 600) (hl : ∀ i, i < N → lx i = iI (fx i) ∧ ly i = iI (fy i)) (cl : fx N = fx 0 ∧ fy N = fy 0) (sm : ∀ i, i ≤ N → Sm (fx i) ∧ Sm (fy i)) {X Y : Nat} (hX : X < 8) (hY : Y < 8) : AMet V i_Mod_isFilled 0 [.ref 32, .int (nI X), .int (nI Y)] h n z (some (.int (if xr (fun i => crZ (fx i) (fy i) (fx (i + 1)) (fy (i + 1)) (32 * (X : Int) + 16) (32 * (Y : Int) + 16)) N then 1 else 0))) h n z := by
  have ex : (32 : Int32) * nI X + 16 = (iI (32 * (X : Int) + 16)) := by rw [iI_nat, show (32 : Int32) = iI 32 from by decide, show (16 : Int32) = iI 16 from by decide, iI_mul, iI_add]
  have ey : (32 : Int32) * nI Y + 16 = (iI (32 * (Y : Int) + 16)) := by rw [iI_nat, show (32 : Int32) = iI 32 from by decide, show (16 : Int32) = iI 16 from by decide, iI_mul, iI_add]
  refine AMet.intro (Nat.le_refl _) (Nat.le_refl _) (by decide) (Nat.le_of_ble_eq_true rfl) rfl ?_
  refine a_bipush (v := 32) d_Mod_isFilled_0 (by decide) ?_
  refine a_iload_n d_Mod_isFilled_2 rfl ?_
  refine a_imul d_Mod_isFilled_3 ?_
  refine a_bipush (v := 16) d_Mod_isFilled_4 (by decide) ?_
  refine a_iadd d_Mod_isFilled_6 ?_
  rw [ex]
  refine a_istore_n d_Mod_isFilled_7 (Nat.le_of_ble_eq_true rfl) (Nat.le_of_ble_eq_true rfl) rfl ?_
  refine a_bipush (v := 32) d_Mod_isFilled_8 (by decide) ?_
  refine a_iload_n d_Mod_isFilled_10 rfl ?_
  refine a_imul d_Mod_isFilled_11 ?_
  refine a_bipush (v := 16) d_Mod_isFilled_12 (by decide) ?_
  refine a_iadd d_Mod_isFilled_14 ?_
  rw [ey]
  refine a_istore d_Mod_isFilled_15 (Nat.le_of_ble_eq_true rfl) (Nat.le_of_ble_eq_true rfl) rfl ?_
  refine a_iconst (v := 0) d_Mod_isFilled_17 (by decide) ?_
  refine a_istore d_Mod_isFilled_18 (Nat.le_of_ble_eq_true rfl) (Nat.le_of_ble_eq_true rfl) rfl ?_
  refine a_iconst (v := 0) d_Mod_isFilled_20 (by decide) ?_
  refine a_istore d_Mod_isFilled_21 (Nat.le_of_ble_eq_true rfl) (Nat.le_of_ble_eq_true rfl) rfl ?_
  exact L_fill k32 k51 k52 hN hl cl sm hX hY N 0 (by omega)
end
