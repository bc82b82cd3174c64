/-! THE MODEL, OFF of a stretch: printed by wip/whole/t62.py -/
theorem fSz_i {a : Int} (h1 : -2147483648 < a) (h2 : a < 2147483648) : fSz (iI a) = nI a.natAbs := by
  unfold fSz
  by_cases c : 0 ≤ a
  · rw [if_pos (by rw [iI_0, iI_le (by omega) (by omega) (by omega) (by omega)]; exact c), iI_nat]
    congr 1
    omega
  · rw [if_neg (by rw [iI_0, iI_le (by omega) (by omega) (by omega) (by omega)]; exact c), iI_neg, iI_nat]
    congr 1
    omega
theorem oS_ne {o : Option Nat} {a : Nat} (h : o = some a) (ha : a < 1000000000) : ¬ oS o = -1000000 := by
  rw [h]
  intro q
  have := congrArg Int32.toInt q
  simp only [oS] at this
  rw [nI_toInt (by omega)] at this
  have e : ((-1000000 : Int32)).toInt = -1000000 := by decide
  omega
section
variable {V : VV} {h : AH} {n z : Nat}

set_option maxRecDepth 20000 in
set_option maxHeartbeats 4000000 in
theorem E_moff {ac by_ la ra il mn : Int32} {rs : Int64} {tb ve oa lm : Int32} {fr sz cx cy : Nat → Int32} {B S0 P : Nat} {X Y : Nat → Int} (g32 : h 32 = oMod ac by_ la ra il mn rs tb ve oa lm) (g39 : h 39 = aI 40 fr) (g40 : h 40 = aI 40 sz) (g44 : h 44 = aI 160 cx) (g45 : h 45 = aI 160 cy) (hB : B < 40) (efr : fr B = nI S0) (esz : sz B = nI P) (hP : 0 < P) (hs : S0 + P ≤ 144) (Rw : Row cx cy S0 P X Y) (S : Sh X Y) {i s : Nat} (k : Int32) : AM V i_Mod_offOf 1 n z (some (.int (-1000000))) h n z 128 [some (.ref 32), some (.int (nI B)), some (.int (nI i)), some (.int (nI s)), some (.int (nI P)), some (.int (iI (X (i % P)))), some (.int (iI (Y (i % P)))), some (.int (iI (dxA X P i s))), some (.int (iI (dxA Y P i s))), some (.int (nI (gA X Y P i s))), some (.int (-1000000)), some (.int k), none, none] [] h n z := by
  refine a_iload d_Mod_offOf_128 rfl ?_
  refine a_iload_n d_Mod_offOf_130 rfl ?_
  refine a_icmp_ge 219 d_Mod_offOf_131 (by decide) (fun c131 => ?_) (fun c131 => ?_)
  · skip
    refine a_iload d_Mod_offOf_219 rfl ?_
    exact a_iret d_Mod_offOf_221 rfl rfl rfl rfl
  · skip
    refine a_iload d_Mod_offOf_134 rfl ?_
    refine a_ldc d_Mod_offOf_136 k_Mod_185 ?_
    refine a_icmp_eq 219 d_Mod_offOf_138 (by decide) (fun c138 => ?_) (fun c138 => absurd rfl c138)
    refine a_iload d_Mod_offOf_219 rfl ?_
    exact a_iret d_Mod_offOf_221 rfl rfl rfl rfl
set_option maxRecDepth 20000 in
set_option maxHeartbeats 4000000 in
theorem L_moff {ac by_ la ra il mn : Int32} {rs : Int64} {tb ve oa lm : Int32} {fr sz cx cy : Nat → Int32} {B S0 P : Nat} {X Y : Nat → Int} (g32 : h 32 = oMod ac by_ la ra il mn rs tb ve oa lm) (g39 : h 39 = aI 40 fr) (g40 : h 40 = aI 40 sz) (g44 : h 44 = aI 160 cx) (g45 : h 45 = aI 160 cy) (hB : B < 40) (efr : fr B = nI S0) (esz : sz B = nI P) (hP : 0 < P) (hs : S0 + P ≤ 144) (Rw : Row cx cy S0 P X Y) (S : Sh X Y) {i s : Nat} (hi : i < P) (hs1 : 1 ≤ s) (hs2 : s < 1000) (hg : ¬ gA X Y P i s = 0) : ∀ (m k : Nat), k + m = s → 1 ≤ k → ∀ a, sq (cA X Y P i s) (gA X Y P i s) k = some a → AM V i_Mod_offOf 1 n z (some (.int (oS (off X Y P i s)))) h n z 128 [some (.ref 32), some (.int (nI B)), some (.int (nI i)), some (.int (nI s)), some (.int (nI P)), some (.int (iI (X (i % P)))), some (.int (iI (Y (i % P)))), some (.int (iI (dxA X P i s))), some (.int (iI (dxA Y P i s))), some (.int (nI (gA X Y P i s))), some (.int (nI a)), some (.int (nI k)), none, none] [] h n z := by
  intro m
  induction m with
  | zero =>
    intro k hk hk1 a ha
    have e : k = s := by omega
    subst e
    have eo : off X Y P i k = some a := by unfold off; rw [if_neg hg]; exact ha
    rw [eo]
    refine a_iload d_Mod_offOf_128 rfl ?_
    refine a_iload_n d_Mod_offOf_130 rfl ?_
    refine a_icmp_ge 219 d_Mod_offOf_131 (by decide) (fun c131 => ?_) (fun c131 => absurd (nI_le (Nat.le_refl k) (by omega)) c131)
    refine a_iload d_Mod_offOf_219 rfl ?_
    exact a_iret d_Mod_offOf_221 rfl rfl rfl rfl
  | succ m ih =>
    intro k hk hk1 a ha
    have hab := sq_b (cA_b S P i s) ha
    have hka : k * (128 * 128) ≤ 1000 * (128 * 128) := Nat.mul_le_mul (by omega) (Nat.le_refl _)
    have hgb := gA_b S P i s
    have hcb := cA_b S P i s k
    have d1 := dx_b S P i s
    have d2 := dx_b S P i k
    have hmod := Nat.mod_lt (i + k) hP
    have rm : nI (i + k) - nI (i + k) / nI P * nI P = nI ((i + k) % P) := pk_rem (by omega) hP (by omega)
    have nres : ¬ nI a = -1000000 := oS_ne (o := some a) rfl (by omega)
    have m1 := mul_b (a := dxA X P i s) (b := dxA Y P i k) (m := 8) (by omega) (by omega) (by omega)
    have m2 := mul_b (a := dxA Y P i s) (b := dxA X P i k) (m := 8) (by omega) (by omega) (by omega)
    have ec : fSz (iI (dxA X P i s) * (iI (Y ((i + k) % P)) - iI (Y (i % P))) - iI (dxA Y P i s) * (iI (X ((i + k) % P)) - iI (X (i % P)))) = nI (cA X Y P i s k) := by
      rw [iI_sub, iI_sub, iI_mul, iI_mul, iI_sub]
      exact fSz_i (by unfold dxA at *; omega) (by unfold dxA at *; omega)
    have sqN : gA X Y P i s < 2 * cA X Y P i s k → off X Y P i s = none := by
      intro q
      unfold off
      rw [if_neg hg]
      have := sq_nn (m := s - (k + 1)) (show 1 ≤ k + 1 by omega) (sq_n hk1 q)
      rwa [show k + 1 + (s - (k + 1)) = s by omega] at this
    refine a_iload d_Mod_offOf_128 rfl ?_
    refine a_iload_n d_Mod_offOf_130 rfl ?_
    refine a_icmp_ge 219 d_Mod_offOf_131 (by decide) (fun c131 => absurd c131 (nI_ge (show k < s by omega) (by omega))) (fun c131 => ?_)
    refine a_iload d_Mod_offOf_134 rfl ?_
    refine a_ldc d_Mod_offOf_136 k_Mod_185 ?_
    refine a_icmp_eq 219 d_Mod_offOf_138 (by decide) (fun c138 => absurd c138 nres) (fun c138 => ?_)
    refine a_aload_n d_Mod_offOf_141 rfl ?_
    refine a_getf d_Mod_offOf_142 f_Mod_28 g32 rfl ?_
    refine a_iload_n d_Mod_offOf_145 rfl ?_
    refine a_iald d_Mod_offOf_146 g39 (nI_in (show B < 40 by omega) (by decide)) ?_
    rw [nI_clamp (by omega), efr]
    refine a_iload_n d_Mod_offOf_147 rfl ?_
    refine a_iload d_Mod_offOf_148 rfl ?_
    refine a_iadd d_Mod_offOf_150 ?_
    refine a_iload d_Mod_offOf_151 rfl ?_
    rw [nI_add]
    refine a_irem d_Mod_offOf_153 (nI_ne0 hP (by omega)) ?_
    rw [rm]
    refine a_iadd d_Mod_offOf_154 ?_
    rw [nI_add]
    refine a_istore d_Mod_offOf_155 (Nat.le_of_ble_eq_true rfl) (Nat.le_of_ble_eq_true rfl) rfl ?_
    refine a_iload d_Mod_offOf_157 rfl ?_
    refine a_aload_n d_Mod_offOf_159 rfl ?_
    refine a_getf d_Mod_offOf_160 f_Mod_47 g32 rfl ?_
    refine a_iload d_Mod_offOf_163 rfl ?_
    refine a_iald d_Mod_offOf_165 g45 (nI_in (show S0 + (i + k) % P < 160 by have := Nat.mod_lt (i + k) hP; omega) (by decide)) ?_
    rw [nI_clamp (by omega), (Rw _ hmod).2]
    refine a_iload d_Mod_offOf_166 rfl ?_
    refine a_isub d_Mod_offOf_168 ?_
    refine a_imul d_Mod_offOf_169 ?_
    refine a_iload d_Mod_offOf_170 rfl ?_
    refine a_aload_n d_Mod_offOf_172 rfl ?_
    refine a_getf d_Mod_offOf_173 f_Mod_44 g32 rfl ?_
    refine a_iload d_Mod_offOf_176 rfl ?_
    refine a_iald d_Mod_offOf_178 g44 (nI_in (show S0 + (i + k) % P < 160 by have := Nat.mod_lt (i + k) hP; omega) (by decide)) ?_
    rw [nI_clamp (by omega), (Rw _ hmod).1]
    refine a_iload d_Mod_offOf_179 rfl ?_
    refine a_isub d_Mod_offOf_181 ?_
    refine a_imul d_Mod_offOf_182 ?_
    refine a_isub d_Mod_offOf_183 ?_
    refine a_cs0 d_Mod_offOf_184 m_Mod_size t_Mod_size l_Mod_183 (s_Mod_size _) rfl rfl ⟨Nat.le_of_ble_eq_true rfl, Nat.le_of_ble_eq_true rfl⟩ (Nat.le_of_ble_eq_true rfl)  ?_
    rw [ec]
    refine a_istore d_Mod_offOf_187 (Nat.le_of_ble_eq_true rfl) (Nat.le_of_ble_eq_true rfl) rfl ?_
    refine a_iconst (v := 2) d_Mod_offOf_189 (by decide) ?_
    refine a_iload d_Mod_offOf_190 rfl ?_
    refine a_imul d_Mod_offOf_192 ?_
    refine a_iload d_Mod_offOf_193 rfl ?_
    rw [show (2 : Int32) = nI 2 from rfl, pk_mul]
    refine a_icmp_le 203 d_Mod_offOf_195 (by decide) (fun c195 => ?_) (fun c195 => ?_)
    · skip
      refine a_iload d_Mod_offOf_203 rfl ?_
      refine a_iload d_Mod_offOf_205 rfl ?_
      refine a_iload d_Mod_offOf_207 rfl ?_
      refine a_imul d_Mod_offOf_209 ?_
      refine a_iadd d_Mod_offOf_210 ?_
      refine a_istore d_Mod_offOf_211 (Nat.le_of_ble_eq_true rfl) (Nat.le_of_ble_eq_true rfl) rfl ?_
      refine a_iinc d_Mod_offOf_213 rfl (nI_1 k) (Nat.le_of_ble_eq_true rfl) rfl ?_
      refine a_goto 128 d_Mod_offOf_216 (by decide) ?_
      rw [nI_leI (by omega) (by omega)] at c195
      refine a_drop 12 ?_
      refine a_drop 13 ?_
      refine a_eq rfl ?_ rfl rfl rfl rfl (ih (k + 1) (by omega) (by omega) (a + cA X Y P i s k * cA X Y P i s k) (sq_s hk1 ha (by omega)))
      rw [pk_mul, nI_add]
      rfl
    · skip
      refine a_ldc d_Mod_offOf_198 k_Mod_185 ?_
      refine a_goto 211 d_Mod_offOf_200 (by decide) ?_
      refine a_istore d_Mod_offOf_211 (Nat.le_of_ble_eq_true rfl) (Nat.le_of_ble_eq_true rfl) rfl ?_
      refine a_iinc d_Mod_offOf_213 rfl (nI_1 k) (Nat.le_of_ble_eq_true rfl) rfl ?_
      refine a_goto 128 d_Mod_offOf_216 (by decide) ?_
      rw [nI_leI (by omega) (by omega)] at c195
      refine a_drop 12 ?_
      refine a_drop 13 ?_
      rw [sqN (by omega)]
      exact E_moff g32 g39 g40 g44 g45 hB efr esz hP hs Rw S _
set_option maxRecDepth 20000 in
set_option maxHeartbeats 4000000 in
theorem s_Mod_offOf {ac by_ la ra il mn : Int32} {rs : Int64} {tb ve oa lm : Int32} {fr sz cx cy : Nat → Int32} {B S0 P : Nat} {X Y : Nat → Int} (g32 : h 32 = oMod ac by_ la ra il mn rs tb ve oa lm) (g39 : h 39 = aI 40 fr) (g40 : h 40 = aI 40 sz) (g44 : h 44 = aI 160 cx) (g45 : h 45 = aI 160 cy) (hB : B < 40) (efr : fr B = nI S0) (esz : sz B = nI P) (hP : 0 < P) (hs : S0 + P ≤ 144) (Rw : Row cx cy S0 P X Y) (S : Sh X Y) {i s : Nat} (hi : i < P) (hs1 : 1 ≤ s) (hs2 : s < 1000) : AMet V i_Mod_offOf 1 [.ref 32, .int (nI B), .int (nI i), .int (nI s)] h n z (some (.int (oS (off X Y P i s)))) h n z := by
  have hgb := gA_b S P i s
  have d1 := dx_b S P i s
  have hmod := Nat.mod_lt (i + s) hP
  have em : i % P = i := Nat.mod_eq_of_lt hi
  have rm : nI (i + s) - nI (i + s) / nI P * nI P = nI ((i + s) % P) := pk_rem (by omega) hP (by omega)
  have e1 : fSz (iI (X ((i + s) % P) - X (i % P))) = nI (dxA X P i s).natAbs := fSz_i (by unfold dxA at *; omega) (by unfold dxA at *; omega)
  have e2 : fSz (iI (Y ((i + s) % P) - Y (i % P))) = nI (dxA Y P i s).natAbs := fSz_i (by unfold dxA at *; omega) (by unfold dxA at *; omega)
  have eo : gA X Y P i s = 0 → off X Y P i s = none := fun q => by unfold off; rw [if_pos q]
  have eg : gA X Y P i s = max (dxA X P i s).natAbs (dxA Y P i s).natAbs := rfl
  refine AMet.intro (Nat.le_refl _) (Nat.le_refl _) (by decide) (Nat.le_of_ble_eq_true rfl) rfl ?_
  refine a_aload_n d_Mod_offOf_0 rfl ?_
  refine a_getf d_Mod_offOf_1 f_Mod_31 g32 rfl ?_
  refine a_iload_n d_Mod_offOf_4 rfl ?_
  refine a_iald d_Mod_offOf_5 g40 (nI_in (show B < 40 by omega) (by decide)) ?_
  rw [nI_clamp (by omega), esz]
  refine a_istore d_Mod_offOf_6 (Nat.le_of_ble_eq_true rfl) (Nat.le_of_ble_eq_true rfl) rfl ?_
  refine a_aload_n d_Mod_offOf_8 rfl ?_
  refine a_getf d_Mod_offOf_9 f_Mod_44 g32 rfl ?_
  refine a_aload_n d_Mod_offOf_12 rfl ?_
  refine a_getf d_Mod_offOf_13 f_Mod_28 g32 rfl ?_
  refine a_iload_n d_Mod_offOf_16 rfl ?_
  refine a_iald d_Mod_offOf_17 g39 (nI_in (show B < 40 by omega) (by decide)) ?_
  rw [nI_clamp (by omega), efr]
  refine a_iload_n d_Mod_offOf_18 rfl ?_
  refine a_iadd d_Mod_offOf_19 ?_
  rw [nI_add]
  refine a_iald d_Mod_offOf_20 g44 (nI_in (show S0 + i < 160 by omega) (by decide)) ?_
  rw [nI_clamp (by omega), (Rw _ hi).1, show X i = X (i % P) by rw [em]]
  refine a_istore d_Mod_offOf_21 (Nat.le_of_ble_eq_true rfl) (Nat.le_of_ble_eq_true rfl) rfl ?_
  refine a_aload_n d_Mod_offOf_23 rfl ?_
  refine a_getf d_Mod_offOf_24 f_Mod_47 g32 rfl ?_
  refine a_aload_n d_Mod_offOf_27 rfl ?_
  refine a_getf d_Mod_offOf_28 f_Mod_28 g32 rfl ?_
  refine a_iload_n d_Mod_offOf_31 rfl ?_
  refine a_iald d_Mod_offOf_32 g39 (nI_in (show B < 40 by omega) (by decide)) ?_
  rw [nI_clamp (by omega), efr]
  refine a_iload_n d_Mod_offOf_33 rfl ?_
  refine a_iadd d_Mod_offOf_34 ?_
  rw [nI_add]
  refine a_iald d_Mod_offOf_35 g45 (nI_in (show S0 + i < 160 by omega) (by decide)) ?_
  rw [nI_clamp (by omega), (Rw _ hi).2, show Y i = Y (i % P) by rw [em]]
  refine a_istore d_Mod_offOf_36 (Nat.le_of_ble_eq_true rfl) (Nat.le_of_ble_eq_true rfl) rfl ?_
  refine a_aload_n d_Mod_offOf_38 rfl ?_
  refine a_getf d_Mod_offOf_39 f_Mod_44 g32 rfl ?_
  refine a_aload_n d_Mod_offOf_42 rfl ?_
  refine a_getf d_Mod_offOf_43 f_Mod_28 g32 rfl ?_
  refine a_iload_n d_Mod_offOf_46 rfl ?_
  refine a_iald d_Mod_offOf_47 g39 (nI_in (show B < 40 by omega) (by decide)) ?_
  rw [nI_clamp (by omega), efr]
  refine a_iload_n d_Mod_offOf_48 rfl ?_
  refine a_iload_n d_Mod_offOf_49 rfl ?_
  refine a_iadd d_Mod_offOf_50 ?_
  rw [nI_add]
  refine a_iload d_Mod_offOf_51 rfl ?_
  refine a_irem d_Mod_offOf_53 (nI_ne0 hP (by omega)) ?_
  rw [rm]
  refine a_iadd d_Mod_offOf_54 ?_
  rw [nI_add]
  refine a_iald d_Mod_offOf_55 g44 (nI_in (show S0 + (i + s) % P < 160 by omega) (by decide)) ?_
  rw [nI_clamp (by omega), (Rw _ hmod).1]
  refine a_iload d_Mod_offOf_56 rfl ?_
  refine a_isub d_Mod_offOf_58 ?_
  rw [iI_sub]
  refine a_istore d_Mod_offOf_59 (Nat.le_of_ble_eq_true rfl) (Nat.le_of_ble_eq_true rfl) rfl ?_
  refine a_aload_n d_Mod_offOf_61 rfl ?_
  refine a_getf d_Mod_offOf_62 f_Mod_47 g32 rfl ?_
  refine a_aload_n d_Mod_offOf_65 rfl ?_
  refine a_getf d_Mod_offOf_66 f_Mod_28 g32 rfl ?_
  refine a_iload_n d_Mod_offOf_69 rfl ?_
  refine a_iald d_Mod_offOf_70 g39 (nI_in (show B < 40 by omega) (by decide)) ?_
  rw [nI_clamp (by omega), efr]
  refine a_iload_n d_Mod_offOf_71 rfl ?_
  refine a_iload_n d_Mod_offOf_72 rfl ?_
  refine a_iadd d_Mod_offOf_73 ?_
  rw [nI_add]
  refine a_iload d_Mod_offOf_74 rfl ?_
  refine a_irem d_Mod_offOf_76 (nI_ne0 hP (by omega)) ?_
  rw [rm]
  refine a_iadd d_Mod_offOf_77 ?_
  rw [nI_add]
  refine a_iald d_Mod_offOf_78 g45 (nI_in (show S0 + (i + s) % P < 160 by omega) (by decide)) ?_
  rw [nI_clamp (by omega), (Rw _ hmod).2]
  refine a_iload d_Mod_offOf_79 rfl ?_
  refine a_isub d_Mod_offOf_81 ?_
  rw [iI_sub]
  refine a_istore d_Mod_offOf_82 (Nat.le_of_ble_eq_true rfl) (Nat.le_of_ble_eq_true rfl) rfl ?_
  refine a_iload d_Mod_offOf_84 rfl ?_
  refine a_cs0 d_Mod_offOf_86 m_Mod_size t_Mod_size l_Mod_183 (s_Mod_size _) rfl rfl ⟨Nat.le_of_ble_eq_true rfl, Nat.le_of_ble_eq_true rfl⟩ (Nat.le_of_ble_eq_true rfl)  ?_
  rw [e1]
  refine a_iload d_Mod_offOf_89 rfl ?_
  refine a_cs0 d_Mod_offOf_91 m_Mod_size t_Mod_size l_Mod_183 (s_Mod_size _) rfl rfl ⟨Nat.le_of_ble_eq_true rfl, Nat.le_of_ble_eq_true rfl⟩ (Nat.le_of_ble_eq_true rfl)  ?_
  rw [e2]
  refine a_icmp_le 105 d_Mod_offOf_94 (by decide) (fun c94 => ?_) (fun c94 => ?_)
  · skip
    refine a_iload d_Mod_offOf_105 rfl ?_
    refine a_cs0 d_Mod_offOf_107 m_Mod_size t_Mod_size l_Mod_183 (s_Mod_size _) rfl rfl ⟨Nat.le_of_ble_eq_true rfl, Nat.le_of_ble_eq_true rfl⟩ (Nat.le_of_ble_eq_true rfl)  ?_
    rw [e2]
    rw [nI_leI (by omega) (by omega)] at c94
    rw [show (dxA Y P i s).natAbs = gA X Y P i s by omega]
    refine a_istore d_Mod_offOf_110 (Nat.le_of_ble_eq_true rfl) (Nat.le_of_ble_eq_true rfl) rfl ?_
    refine a_iload d_Mod_offOf_112 rfl ?_
    refine a_if_ne 122 d_Mod_offOf_114 (by decide) (fun c114 => ?_) (fun c114 => ?_)
    · skip
      refine a_iconst (v := 0) d_Mod_offOf_122 (by decide) ?_
      refine a_istore d_Mod_offOf_123 (Nat.le_of_ble_eq_true rfl) (Nat.le_of_ble_eq_true rfl) rfl ?_
      refine a_iconst (v := 1) d_Mod_offOf_125 (by decide) ?_
      refine a_istore d_Mod_offOf_126 (Nat.le_of_ble_eq_true rfl) (Nat.le_of_ble_eq_true rfl) rfl ?_
      exact L_moff g32 g39 g40 g44 g45 hB efr esz hP hs Rw S hi hs1 hs2 (fun q => c114 (by rw [q]; rfl)) (s - 1) 1 (by omega) (Nat.le_refl 1) 0 (sq_1 _ _)
    · skip
      refine a_ldc d_Mod_offOf_117 k_Mod_185 ?_
      refine a_goto 123 d_Mod_offOf_119 (by decide) ?_
      refine a_istore d_Mod_offOf_123 (Nat.le_of_ble_eq_true rfl) (Nat.le_of_ble_eq_true rfl) rfl ?_
      refine a_iconst (v := 1) d_Mod_offOf_125 (by decide) ?_
      refine a_istore d_Mod_offOf_126 (Nat.le_of_ble_eq_true rfl) (Nat.le_of_ble_eq_true rfl) rfl ?_
      rw [eo ((nI_eq (by omega) (by omega)).mp c114)]
      exact E_moff g32 g39 g40 g44 g45 hB efr esz hP hs Rw S _
  · skip
    refine a_iload d_Mod_offOf_97 rfl ?_
    refine a_cs0 d_Mod_offOf_99 m_Mod_size t_Mod_size l_Mod_183 (s_Mod_size _) rfl rfl ⟨Nat.le_of_ble_eq_true rfl, Nat.le_of_ble_eq_true rfl⟩ (Nat.le_of_ble_eq_true rfl)  ?_
    refine a_goto 110 d_Mod_offOf_102 (by decide) ?_
    rw [e1]
    rw [nI_leI (by omega) (by omega)] at c94
    rw [show (dxA X P i s).natAbs = gA X Y P i s by omega]
    refine a_istore d_Mod_offOf_110 (Nat.le_of_ble_eq_true rfl) (Nat.le_of_ble_eq_true rfl) rfl ?_
    refine a_iload d_Mod_offOf_112 rfl ?_
    refine a_if_ne 122 d_Mod_offOf_114 (by decide) (fun c114 => ?_) (fun c114 => ?_)
    · skip
      refine a_iconst (v := 0) d_Mod_offOf_122 (by decide) ?_
      refine a_istore d_Mod_offOf_123 (Nat.le_of_ble_eq_true rfl) (Nat.le_of_ble_eq_true rfl) rfl ?_
      refine a_iconst (v := 1) d_Mod_offOf_125 (by decide) ?_
      refine a_istore d_Mod_offOf_126 (Nat.le_of_ble_eq_true rfl) (Nat.le_of_ble_eq_true rfl) rfl ?_
      exact L_moff g32 g39 g40 g44 g45 hB efr esz hP hs Rw S hi hs1 hs2 (fun q => c114 (by rw [q]; rfl)) (s - 1) 1 (by omega) (Nat.le_refl 1) 0 (sq_1 _ _)
    · skip
      refine a_ldc d_Mod_offOf_117 k_Mod_185 ?_
      refine a_goto 123 d_Mod_offOf_119 (by decide) ?_
      refine a_istore d_Mod_offOf_123 (Nat.le_of_ble_eq_true rfl) (Nat.le_of_ble_eq_true rfl) rfl ?_
      refine a_iconst (v := 1) d_Mod_offOf_125 (by decide) ?_
      refine a_istore d_Mod_offOf_126 (Nat.le_of_ble_eq_true rfl) (Nat.le_of_ble_eq_true rfl) rfl ?_
      rw [eo ((nI_eq (by omega) (by omega)).mp c114)]
      exact E_moff g32 g39 g40 g44 g45 hB efr esz hP hs Rw S _
end
