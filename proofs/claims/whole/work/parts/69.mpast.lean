/-! THE MODEL, the fewest vertices past a corner: printed by wip/whole/t69.py -/
section
variable {E : Nat → Nat → Option Nat} {lg : Nat → Nat} {P : Nat}
theorem fC_b (C : CO E lg P) {i j s : Nat} : fC E lg P i j s ≤ 1000000000 := by
  unfold fC
  split
  · exact Nat.le_refl _
  · have := dd_b C.2.2.1 (i + (j + s)) (P - (j + s))
    have := C.2.1
    omega
theorem fN_b (C : CO E lg P) {i j : Nat} : ∀ m, fN E lg P i j m ≤ 1000000000
  | 0 => by
    simp only [fN]
    split
    · exact Nat.le_refl _
    · split
      · exact Nat.le_refl _
      · decide
  | m + 1 => by
    have := fN_b C (i := i) (j := j) m
    simp only [fN]
    omega
end
def TuOk (X Y : Nat → Int) (P i j0 : Nat) (tu : Nat → Int32) : Prop := ∀ j, j0 ≤ j → j < P → tu j = nI (dd (Ex X Y P) (Lx X Y P) (i + j) (P - j) / 100000)
section
variable {V : VV} {h : AH} {n z : Nat}

set_option maxRecDepth 20000 in
set_option maxHeartbeats 4000000 in
theorem L_fwI {ac by_ la ra il mn : Int32} {rs : Int64} {tb ve oa lm : Int32} {of sz : Nat → Int32} (k32 : h 32 = oMod ac by_ la ra il mn rs tb ve oa lm) (k47 : h 47 = aI 20736 of) (k40 : h 40 = aI 40 sz) {X Y : Nat → Int} {P B : Nat} (hB : B < 40) (m2 : sz B = nI P) (C : CO (Ex X Y P) (Lx X Y P) P) (hE : ∀ a s e, Ex X Y P a s = some e → e < 1000000) (hof : ∀ a s, a < P → 1 ≤ s → s < P → of (144 * a + s) = oS (off X Y P a s)) {i j : Nat} (hi : i < P) (hj : j < P) : ∀ (m k : Nat), k + m = P → j < k → ∀ (tu : Nat → Int32), tu j = nI (fN (Ex X Y P) (Lx X Y P) P i j (k - 1 - j)) → TuOk X Y P i (j + 1) tu → ∃ tu', TuOk X Y P i j tu' ∧ Rc V i_Mod_fewest 0 70 [some (.ref 32), some (.int (nI B)), some (.int (nI i)), some (.int (nI P)), some (.int (nI j)), some (.int (nI ((i + j) % P))), some (.int (nI k)), none] [] (hu h 50 (aI 160 tu)) n z 151 [some (.ref 32), some (.int (nI B)), some (.int (nI i)), some (.int (nI P)), some (.int (nI j)), some (.int (nI ((i + j) % P))), some (.int (nI P)), none] [] (hu h 50 (aI 160 tu')) n z := by
  have hP2 := C.2.1
  have hm := Nat.mod_lt (i + j) (show 0 < P by omega)
  intro m
  induction m with
  | zero =>
    intro k hk hjk tu e1 ok
    have e : k = P := by omega
    subst e
    refine ⟨tu, ?_, fun mc ms Qf n0 z0 q1 q2 K => ?_⟩
    · intro j' h1 h2
      by_cases c : j' = j
      · rw [c, e1, fN_end C hj]
      · exact ok j' (by omega) h2
    refine a_iload d_Mod_fewest_70 rfl ?_
    refine a_iload_n d_Mod_fewest_72 rfl ?_
    refine a_icmp_ge 151 d_Mod_fewest_73 (by decide) (fun c73 => ?_) (fun c73 => absurd (Int32.le_refl _) c73)
    exact K
  | succ m ih =>
    intro k hk hjk tu e1 ok
    have b2 := fN_b C (i := i) (j := j) (k - 1 - j)
    have b3 := fC_b C (i := i) (j := j) (s := k - j)
    have ek := ok k (by omega) (by omega)
    have eof : of (144 * ((i + j) % P) + (k - j)) = oS (Ex X Y P (i + j) (k - j)) := hof _ _ hm (by omega) (by omega)
    have e3 : fN (Ex X Y P) (Lx X Y P) P i j (k + 1 - 1 - j) = min (fN (Ex X Y P) (Lx X Y P) P i j (k - 1 - j)) (fC (Ex X Y P) (Lx X Y P) P i j (k - j)) := by
      rw [show k + 1 - 1 - j = (k - 1 - j) + 1 by omega]
      show min _ (fC (Ex X Y P) (Lx X Y P) P i j (k - 1 - j + 1)) = _
      rw [show k - 1 - j + 1 = k - j by omega]
    obtain ⟨v, ev⟩ : ∃ v, v = nI (fN (Ex X Y P) (Lx X Y P) P i j (k + 1 - 1 - j)) := ⟨_, rfl⟩
    obtain ⟨tu', ok', R⟩ := ih (k + 1) (by omega) (by omega) (upd tu j v) (by rw [pk_us, ev]) (fun j' h1 h2 => by rw [pk_un (by omega)]; exact ok j' h1 h2)
    refine ⟨tu', ok', ?_⟩
    intro mc ms Qf n0 z0 q1 q2 K
    have ea : (144 : Int32) * nI ((i + j) % P) + nI k - nI j = nI (144 * ((i + j) % P) + (k - j)) := by
      rw [show (144 : Int32) = nI 144 from rfl, pk_mul, nI_add, pk_sub (by omega)]
      congr 1
      omega
    obtain ⟨x1, x2⟩ := oI_oS (o := Ex X Y P (i + j) (k - j)) (fun e q => by have := hE _ _ e q; omega)
    cases ho : Ex X Y P (i + j) (k - j) with
    | none =>
      have hx : oS (Ex X Y P (i + j) (k - j)) = -1000000 := x2.mpr ho
      have eFC : (1000000000 : Int32) = nI (fC (Ex X Y P) (Lx X Y P) P i j (k - j)) := by unfold fC; rw [ho]; rfl
      refine a_iload d_Mod_fewest_70 rfl ?_
      refine a_iload_n d_Mod_fewest_72 rfl ?_
      refine a_icmp_ge 151 d_Mod_fewest_73 (by decide) (fun c73 => absurd c73 (nI_ge (show k < P by omega) (by omega))) (fun c73 => ?_)
      refine a_aload_n d_Mod_fewest_76 rfl ?_
      refine a_getf d_Mod_fewest_77 f_Mod_53 (show _ = oMod ac by_ la ra il mn rs tb ve oa lm from k32) rfl ?_
      refine a_sipush (v := 144) d_Mod_fewest_80 (by decide) ?_
      refine a_iload d_Mod_fewest_83 rfl ?_
      refine a_imul d_Mod_fewest_85 ?_
      refine a_iload d_Mod_fewest_86 rfl ?_
      refine a_iadd d_Mod_fewest_88 ?_
      refine a_iload d_Mod_fewest_89 rfl ?_
      refine a_isub d_Mod_fewest_91 ?_
      rw [ea]
      refine a_iald d_Mod_fewest_92 (show _ = aI 20736 of from k47) (nI_in (show 144 * ((i + j) % P) + (k - j) < 20736 by omega) (by decide)) ?_
      rw [nI_clamp (by omega), eof]
      refine a_ldc d_Mod_fewest_93 k_Mod_185 ?_
      refine a_icmp_ne 103 d_Mod_fewest_95 (by decide) (fun c95 => absurd c95 (fun q => q hx)) (fun c95 => ?_)
      refine a_ldc d_Mod_fewest_98 k_Mod_196 ?_
      refine a_goto 112 d_Mod_fewest_100 (by decide) ?_
      refine a_istore d_Mod_fewest_112 (Nat.le_of_ble_eq_true rfl) (Nat.le_of_ble_eq_true rfl) rfl ?_
      refine a_aload_n d_Mod_fewest_114 rfl ?_
      refine a_getf d_Mod_fewest_115 f_Mod_62 (show _ = oMod ac by_ la ra il mn rs tb ve oa lm from k32) rfl ?_
      refine a_iload d_Mod_fewest_118 rfl ?_
      refine a_iload d_Mod_fewest_120 rfl ?_
      refine a_aload_n d_Mod_fewest_122 rfl ?_
      refine a_getf d_Mod_fewest_123 f_Mod_62 (show _ = oMod ac by_ la ra il mn rs tb ve oa lm from k32) rfl ?_
      refine a_iload d_Mod_fewest_126 rfl ?_
      refine a_iald d_Mod_fewest_128 (hu_s _ _ _) (nI_in (show j < 160 by omega) (by decide)) ?_
      rw [nI_clamp (by omega), e1]
      refine a_icmp_ge 137 d_Mod_fewest_129 (by decide) (fun c129 => ?_) (fun c129 => ?_)
      · skip
        refine a_aload_n d_Mod_fewest_137 rfl ?_
        refine a_getf d_Mod_fewest_138 f_Mod_62 (show _ = oMod ac by_ la ra il mn rs tb ve oa lm from k32) rfl ?_
        refine a_iload d_Mod_fewest_141 rfl ?_
        refine a_iald d_Mod_fewest_143 (hu_s _ _ _) (nI_in (show j < 160 by omega) (by decide)) ?_
        rw [nI_clamp (by omega), e1]
        refine a_iast d_Mod_fewest_144 (hu_s _ _ _) (nI_in (show j < 160 by omega) (by decide)) ?_
        refine a_iinc d_Mod_fewest_145 rfl (nI_1 k) (Nat.le_of_ble_eq_true rfl) rfl ?_
        refine a_goto 70 d_Mod_fewest_148 (by decide) ?_
        refine a_drop 7 ?_
        refine a_eq rfl rfl rfl ?_ rfl rfl (R mc ms Qf n0 z0 q1 q2 K)
        rw [eFC, nI_leI (by omega) (by omega)] at c129
        rw [hu_hu, nI_clamp (by omega), ev, e3, Nat.min_eq_left (by omega)]
      · skip
        refine a_iload d_Mod_fewest_132 rfl ?_
        refine a_goto 144 d_Mod_fewest_134 (by decide) ?_
        refine a_iast d_Mod_fewest_144 (hu_s _ _ _) (nI_in (show j < 160 by omega) (by decide)) ?_
        refine a_iinc d_Mod_fewest_145 rfl (nI_1 k) (Nat.le_of_ble_eq_true rfl) rfl ?_
        refine a_goto 70 d_Mod_fewest_148 (by decide) ?_
        refine a_drop 7 ?_
        refine a_eq rfl rfl rfl ?_ rfl rfl (R mc ms Qf n0 z0 q1 q2 K)
        rw [eFC, nI_leI (by omega) (by omega)] at c129
        rw [hu_hu, nI_clamp (by omega), ev, e3, Nat.min_eq_right (by omega), eFC]
    | some e =>
      have hx : ¬ oS (Ex X Y P (i + j) (k - j)) = -1000000 := fun q => by have := x2.mp q; rw [ho] at this; cases this
      have eFC : nI (dd (Ex X Y P) (Lx X Y P) (i + k) (P - k) / 100000) + 1 = nI (fC (Ex X Y P) (Lx X Y P) P i j (k - j)) := by
        unfold fC
        rw [ho]
        simp only
        rw [nI_1, show j + (k - j) = k by omega]
      refine a_iload d_Mod_fewest_70 rfl ?_
      refine a_iload_n d_Mod_fewest_72 rfl ?_
      refine a_icmp_ge 151 d_Mod_fewest_73 (by decide) (fun c73 => absurd c73 (nI_ge (show k < P by omega) (by omega))) (fun c73 => ?_)
      refine a_aload_n d_Mod_fewest_76 rfl ?_
      refine a_getf d_Mod_fewest_77 f_Mod_53 (show _ = oMod ac by_ la ra il mn rs tb ve oa lm from k32) rfl ?_
      refine a_sipush (v := 144) d_Mod_fewest_80 (by decide) ?_
      refine a_iload d_Mod_fewest_83 rfl ?_
      refine a_imul d_Mod_fewest_85 ?_
      refine a_iload d_Mod_fewest_86 rfl ?_
      refine a_iadd d_Mod_fewest_88 ?_
      refine a_iload d_Mod_fewest_89 rfl ?_
      refine a_isub d_Mod_fewest_91 ?_
      rw [ea]
      refine a_iald d_Mod_fewest_92 (show _ = aI 20736 of from k47) (nI_in (show 144 * ((i + j) % P) + (k - j) < 20736 by omega) (by decide)) ?_
      rw [nI_clamp (by omega), eof]
      refine a_ldc d_Mod_fewest_93 k_Mod_185 ?_
      refine a_icmp_ne 103 d_Mod_fewest_95 (by decide) (fun c95 => ?_) (fun c95 => absurd c95 hx)
      refine a_aload_n d_Mod_fewest_103 rfl ?_
      refine a_getf d_Mod_fewest_104 f_Mod_62 (show _ = oMod ac by_ la ra il mn rs tb ve oa lm from k32) rfl ?_
      refine a_iload d_Mod_fewest_107 rfl ?_
      refine a_iald d_Mod_fewest_109 (hu_s _ _ _) (nI_in (show k < 160 by omega) (by decide)) ?_
      rw [nI_clamp (by omega), ek]
      refine a_iconst (v := 1) d_Mod_fewest_110 (by decide) ?_
      refine a_iadd d_Mod_fewest_111 ?_
      refine a_istore d_Mod_fewest_112 (Nat.le_of_ble_eq_true rfl) (Nat.le_of_ble_eq_true rfl) rfl ?_
      refine a_aload_n d_Mod_fewest_114 rfl ?_
      refine a_getf d_Mod_fewest_115 f_Mod_62 (show _ = oMod ac by_ la ra il mn rs tb ve oa lm from k32) rfl ?_
      refine a_iload d_Mod_fewest_118 rfl ?_
      refine a_iload d_Mod_fewest_120 rfl ?_
      refine a_aload_n d_Mod_fewest_122 rfl ?_
      refine a_getf d_Mod_fewest_123 f_Mod_62 (show _ = oMod ac by_ la ra il mn rs tb ve oa lm from k32) rfl ?_
      refine a_iload d_Mod_fewest_126 rfl ?_
      refine a_iald d_Mod_fewest_128 (hu_s _ _ _) (nI_in (show j < 160 by omega) (by decide)) ?_
      rw [nI_clamp (by omega), e1]
      refine a_icmp_ge 137 d_Mod_fewest_129 (by decide) (fun c129 => ?_) (fun c129 => ?_)
      · skip
        refine a_aload_n d_Mod_fewest_137 rfl ?_
        refine a_getf d_Mod_fewest_138 f_Mod_62 (show _ = oMod ac by_ la ra il mn rs tb ve oa lm from k32) rfl ?_
        refine a_iload d_Mod_fewest_141 rfl ?_
        refine a_iald d_Mod_fewest_143 (hu_s _ _ _) (nI_in (show j < 160 by omega) (by decide)) ?_
        rw [nI_clamp (by omega), e1]
        refine a_iast d_Mod_fewest_144 (hu_s _ _ _) (nI_in (show j < 160 by omega) (by decide)) ?_
        refine a_iinc d_Mod_fewest_145 rfl (nI_1 k) (Nat.le_of_ble_eq_true rfl) rfl ?_
        refine a_goto 70 d_Mod_fewest_148 (by decide) ?_
        refine a_drop 7 ?_
        refine a_eq rfl rfl rfl ?_ rfl rfl (R mc ms Qf n0 z0 q1 q2 K)
        rw [eFC, nI_leI (by omega) (by omega)] at c129
        rw [hu_hu, nI_clamp (by omega), ev, e3, Nat.min_eq_left (by omega)]
      · skip
        refine a_iload d_Mod_fewest_132 rfl ?_
        refine a_goto 144 d_Mod_fewest_134 (by decide) ?_
        refine a_iast d_Mod_fewest_144 (hu_s _ _ _) (nI_in (show j < 160 by omega) (by decide)) ?_
        refine a_iinc d_Mod_fewest_145 rfl (nI_1 k) (Nat.le_of_ble_eq_true rfl) rfl ?_
        refine a_goto 70 d_Mod_fewest_148 (by decide) ?_
        refine a_drop 7 ?_
        refine a_eq rfl rfl rfl ?_ rfl rfl (R mc ms Qf n0 z0 q1 q2 K)
        rw [eFC, nI_leI (by omega) (by omega)] at c129
        rw [hu_hu, nI_clamp (by omega), ev, e3, Nat.min_eq_right (by omega), eFC]
set_option maxRecDepth 20000 in
set_option maxHeartbeats 4000000 in
theorem L_fwO {ac by_ la ra il mn : Int32} {rs : Int64} {tb ve oa lm : Int32} {of sz : Nat → Int32} (k32 : h 32 = oMod ac by_ la ra il mn rs tb ve oa lm) (k47 : h 47 = aI 20736 of) (k40 : h 40 = aI 40 sz) {X Y : Nat → Int} {P B : Nat} (hB : B < 40) (m2 : sz B = nI P) (C : CO (Ex X Y P) (Lx X Y P) P) (hE : ∀ a s e, Ex X Y P a s = some e → e < 1000000) (hof : ∀ a s, a < P → 1 ≤ s → s < P → of (144 * a + s) = oS (off X Y P a s)) {i : Nat} (hi : i < P) : ∀ (q : Nat), q ≤ P → ∀ (tu : Nat → Int32), TuOk X Y P i q tu → ∃ tu', AM V i_Mod_fewest 0 n z (some (.int (nI (dd (Ex X Y P) (Lx X Y P) (i) (P) / 100000)))) (hu h 50 (aI 160 tu')) n z 12 [some (.ref 32), some (.int (nI B)), some (.int (nI i)), some (.int (nI P)), some (.int (iI ((q : Nat) - 1 : Int))), none, none, none] [] (hu h 50 (aI 160 tu)) n z := by
  have hP2 := C.2.1
  intro q
  induction q with
  | zero =>
    intro hq2 tu ok
    refine ⟨tu, ?_⟩
    have lt : iI ((0 : Nat) - 1 : Int) < 0 := by decide
    refine a_iload d_Mod_fewest_12 rfl ?_
    refine a_if_lt 157 d_Mod_fewest_14 (by decide) (fun c14 => ?_) (fun c14 => absurd lt c14)
    refine a_aload_n d_Mod_fewest_157 rfl ?_
    refine a_getf d_Mod_fewest_158 f_Mod_62 (show _ = oMod ac by_ la ra il mn rs tb ve oa lm from k32) rfl ?_
    refine a_iconst (v := 0) d_Mod_fewest_161 (by decide) ?_
    refine a_iald d_Mod_fewest_162 (hu_s _ _ _) (nI_in (c := 0) (N := 160) (by decide) (by decide)) ?_
    rw [show (0 : Int32).toNatClampNeg = 0 from by decide, ok 0 (Nat.le_refl _) (by omega), Nat.add_zero, Nat.sub_zero]
    exact a_iret d_Mod_fewest_163 rfl rfl rfl rfl
  | succ j ih =>
    intro hq2 tu ok
    have hm := Nat.mod_lt (i + j) (show 0 < P by omega)
    have e1 : iI ((j + 1 : Nat) - 1 : Int) = nI j := by rw [iI_nat]; congr 1; omega
    have ep : nI j + (-1) = iI ((j : Nat) - 1 : Int) := by rw [iI_nat, iI_m1, iI_add]; rfl
    have rm : nI (i + j) - nI (i + j) / nI P * nI P = nI ((i + j) % P) := pk_rem (by omega) (by omega) (by omega)
    obtain ⟨tu1, ok1, R1⟩ := L_fwI (V := V) (h := h) (n := n) (z := z) k32 k47 k40 hB m2 C hE hof hi (show j < P by omega) (P - (j + 1)) (j + 1) (by omega) (by omega) (upd tu j (nI (fN (Ex X Y P) (Lx X Y P) P i j 0))) (by rw [pk_us]; simp) (fun j' h1 h2 => by rw [pk_un (by omega)]; exact ok j' h1 h2)
    obtain ⟨tu2, M2⟩ := ih (by omega) tu1 ok1
    refine ⟨tu2, ?_⟩
    have ea : (144 : Int32) * nI ((i + j) % P) + nI P - nI j = nI (144 * ((i + j) % P) + (P - j)) := by
      rw [show (144 : Int32) = nI 144 from rfl, pk_mul, nI_add, pk_sub (by omega)]
      congr 1
      omega
    have eof : 0 < j → of (144 * ((i + j) % P) + (P - j)) = oS (Ex X Y P (i + j) (P - j)) := fun h0 => hof _ _ hm (by omega) (by omega)
    obtain ⟨x1, x2⟩ := oI_oS (o := Ex X Y P (i + j) (P - j)) (fun e q => by have := hE _ _ e q; omega)
    rw [e1]
    by_cases h0 : j = 0
    · have e0 : fN (Ex X Y P) (Lx X Y P) P i j 0 = 1000000000 := by simp only [fN]; rw [if_pos h0]
      rw [e0] at R1
      refine a_iload d_Mod_fewest_12 rfl ?_
      refine a_if_lt 157 d_Mod_fewest_14 (by decide) (fun c14 => absurd c14 (nI_pos (by omega))) (fun c14 => ?_)
      refine a_iload_n d_Mod_fewest_17 rfl ?_
      refine a_iload d_Mod_fewest_18 rfl ?_
      refine a_iadd d_Mod_fewest_20 ?_
      rw [nI_add]
      refine a_iload_n d_Mod_fewest_21 rfl ?_
      refine a_irem d_Mod_fewest_22 (nI_ne0 (by omega) (by omega)) ?_
      rw [rm]
      refine a_istore d_Mod_fewest_23 (Nat.le_of_ble_eq_true rfl) (Nat.le_of_ble_eq_true rfl) rfl ?_
      refine a_aload_n d_Mod_fewest_25 rfl ?_
      refine a_getf d_Mod_fewest_26 f_Mod_62 (show _ = oMod ac by_ la ra il mn rs tb ve oa lm from k32) rfl ?_
      refine a_iload d_Mod_fewest_29 rfl ?_
      refine a_iload d_Mod_fewest_31 rfl ?_
      refine a_if_le 61 d_Mod_fewest_33 (by decide) (fun c33 => ?_) (fun c33 => absurd (nI_le (b := 0) (by omega) (by omega)) c33)
      refine a_ldc d_Mod_fewest_61 k_Mod_196 ?_
      refine a_iast d_Mod_fewest_63 (hu_s _ _ _) (nI_in (show j < 160 by omega) (by decide)) ?_
      refine a_iload d_Mod_fewest_64 rfl ?_
      refine a_iconst (v := 1) d_Mod_fewest_66 (by decide) ?_
      refine a_iadd d_Mod_fewest_67 ?_
      refine a_istore d_Mod_fewest_68 (Nat.le_of_ble_eq_true rfl) (Nat.le_of_ble_eq_true rfl) rfl ?_
      rw [hu_hu, nI_clamp (by omega), nI_1]
      refine R1.use ?_
      refine a_iinc d_Mod_fewest_151 rfl ep (Nat.le_of_ble_eq_true rfl) rfl ?_
      refine a_goto 12 d_Mod_fewest_154 (by decide) ?_
      refine a_drop 5 ?_
      refine a_drop 6 ?_
      exact M2
    · have hle : ¬ nI j ≤ 0 := nI_nle (by omega) (by omega)
      cases ho : Ex X Y P (i + j) (P - j) with
      | none =>
      have e0 : fN (Ex X Y P) (Lx X Y P) P i j 0 = 1000000000 := by simp only [fN]; rw [if_neg h0, ho]
      rw [e0] at R1
      refine a_iload d_Mod_fewest_12 rfl ?_
      refine a_if_lt 157 d_Mod_fewest_14 (by decide) (fun c14 => absurd c14 (nI_pos (by omega))) (fun c14 => ?_)
      refine a_iload_n d_Mod_fewest_17 rfl ?_
      refine a_iload d_Mod_fewest_18 rfl ?_
      refine a_iadd d_Mod_fewest_20 ?_
      rw [nI_add]
      refine a_iload_n d_Mod_fewest_21 rfl ?_
      refine a_irem d_Mod_fewest_22 (nI_ne0 (by omega) (by omega)) ?_
      rw [rm]
      refine a_istore d_Mod_fewest_23 (Nat.le_of_ble_eq_true rfl) (Nat.le_of_ble_eq_true rfl) rfl ?_
      refine a_aload_n d_Mod_fewest_25 rfl ?_
      refine a_getf d_Mod_fewest_26 f_Mod_62 (show _ = oMod ac by_ la ra il mn rs tb ve oa lm from k32) rfl ?_
      refine a_iload d_Mod_fewest_29 rfl ?_
      refine a_iload d_Mod_fewest_31 rfl ?_
      refine a_if_le 61 d_Mod_fewest_33 (by decide) (fun c33 => absurd c33 hle) (fun c33 => ?_)
      refine a_aload_n d_Mod_fewest_36 rfl ?_
      refine a_getf d_Mod_fewest_37 f_Mod_53 (show _ = oMod ac by_ la ra il mn rs tb ve oa lm from k32) rfl ?_
      refine a_sipush (v := 144) d_Mod_fewest_40 (by decide) ?_
      refine a_iload d_Mod_fewest_43 rfl ?_
      refine a_imul d_Mod_fewest_45 ?_
      refine a_iload_n d_Mod_fewest_46 rfl ?_
      refine a_iadd d_Mod_fewest_47 ?_
      refine a_iload d_Mod_fewest_48 rfl ?_
      refine a_isub d_Mod_fewest_50 ?_
      rw [ea]
      refine a_iald d_Mod_fewest_51 (show _ = aI 20736 of from k47) (nI_in (show 144 * ((i + j) % P) + (P - j) < 20736 by omega) (by decide)) ?_
      rw [nI_clamp (by omega), eof (by omega)]
      refine a_ldc d_Mod_fewest_52 k_Mod_185 ?_
      refine a_icmp_eq 61 d_Mod_fewest_54 (by decide) (fun c54 => ?_) (fun c54 => absurd (x2.mpr ho) c54)
      refine a_ldc d_Mod_fewest_61 k_Mod_196 ?_
      refine a_iast d_Mod_fewest_63 (hu_s _ _ _) (nI_in (show j < 160 by omega) (by decide)) ?_
      refine a_iload d_Mod_fewest_64 rfl ?_
      refine a_iconst (v := 1) d_Mod_fewest_66 (by decide) ?_
      refine a_iadd d_Mod_fewest_67 ?_
      refine a_istore d_Mod_fewest_68 (Nat.le_of_ble_eq_true rfl) (Nat.le_of_ble_eq_true rfl) rfl ?_
      rw [hu_hu, nI_clamp (by omega), nI_1]
      refine R1.use ?_
      refine a_iinc d_Mod_fewest_151 rfl ep (Nat.le_of_ble_eq_true rfl) rfl ?_
      refine a_goto 12 d_Mod_fewest_154 (by decide) ?_
      refine a_drop 5 ?_
      refine a_drop 6 ?_
      exact M2
      | some e =>
      have e0 : fN (Ex X Y P) (Lx X Y P) P i j 0 = 1 := by simp only [fN]; rw [if_neg h0, ho]
      rw [e0] at R1
      refine a_iload d_Mod_fewest_12 rfl ?_
      refine a_if_lt 157 d_Mod_fewest_14 (by decide) (fun c14 => absurd c14 (nI_pos (by omega))) (fun c14 => ?_)
      refine a_iload_n d_Mod_fewest_17 rfl ?_
      refine a_iload d_Mod_fewest_18 rfl ?_
      refine a_iadd d_Mod_fewest_20 ?_
      rw [nI_add]
      refine a_iload_n d_Mod_fewest_21 rfl ?_
      refine a_irem d_Mod_fewest_22 (nI_ne0 (by omega) (by omega)) ?_
      rw [rm]
      refine a_istore d_Mod_fewest_23 (Nat.le_of_ble_eq_true rfl) (Nat.le_of_ble_eq_true rfl) rfl ?_
      refine a_aload_n d_Mod_fewest_25 rfl ?_
      refine a_getf d_Mod_fewest_26 f_Mod_62 (show _ = oMod ac by_ la ra il mn rs tb ve oa lm from k32) rfl ?_
      refine a_iload d_Mod_fewest_29 rfl ?_
      refine a_iload d_Mod_fewest_31 rfl ?_
      refine a_if_le 61 d_Mod_fewest_33 (by decide) (fun c33 => absurd c33 hle) (fun c33 => ?_)
      refine a_aload_n d_Mod_fewest_36 rfl ?_
      refine a_getf d_Mod_fewest_37 f_Mod_53 (show _ = oMod ac by_ la ra il mn rs tb ve oa lm from k32) rfl ?_
      refine a_sipush (v := 144) d_Mod_fewest_40 (by decide) ?_
      refine a_iload d_Mod_fewest_43 rfl ?_
      refine a_imul d_Mod_fewest_45 ?_
      refine a_iload_n d_Mod_fewest_46 rfl ?_
      refine a_iadd d_Mod_fewest_47 ?_
      refine a_iload d_Mod_fewest_48 rfl ?_
      refine a_isub d_Mod_fewest_50 ?_
      rw [ea]
      refine a_iald d_Mod_fewest_51 (show _ = aI 20736 of from k47) (nI_in (show 144 * ((i + j) % P) + (P - j) < 20736 by omega) (by decide)) ?_
      rw [nI_clamp (by omega), eof (by omega)]
      refine a_ldc d_Mod_fewest_52 k_Mod_185 ?_
      refine a_icmp_eq 61 d_Mod_fewest_54 (by decide) (fun c54 => absurd c54 (fun q => by have := x2.mp q; rw [ho] at this; cases this)) (fun c54 => ?_)
      refine a_iconst (v := 1) d_Mod_fewest_57 (by decide) ?_
      refine a_goto 63 d_Mod_fewest_58 (by decide) ?_
      refine a_iast d_Mod_fewest_63 (hu_s _ _ _) (nI_in (show j < 160 by omega) (by decide)) ?_
      refine a_iload d_Mod_fewest_64 rfl ?_
      refine a_iconst (v := 1) d_Mod_fewest_66 (by decide) ?_
      refine a_iadd d_Mod_fewest_67 ?_
      refine a_istore d_Mod_fewest_68 (Nat.le_of_ble_eq_true rfl) (Nat.le_of_ble_eq_true rfl) rfl ?_
      rw [hu_hu, nI_clamp (by omega), nI_1]
      refine R1.use ?_
      refine a_iinc d_Mod_fewest_151 rfl ep (Nat.le_of_ble_eq_true rfl) rfl ?_
      refine a_goto 12 d_Mod_fewest_154 (by decide) ?_
      refine a_drop 5 ?_
      refine a_drop 6 ?_
      exact M2
set_option maxRecDepth 20000 in
set_option maxHeartbeats 4000000 in
theorem s_Mod_fewest {ac by_ la ra il mn : Int32} {rs : Int64} {tb ve oa lm : Int32} {of sz : Nat → Int32} (k32 : h 32 = oMod ac by_ la ra il mn rs tb ve oa lm) (k47 : h 47 = aI 20736 of) (k40 : h 40 = aI 40 sz) {X Y : Nat → Int} {P B : Nat} (hB : B < 40) (m2 : sz B = nI P) (C : CO (Ex X Y P) (Lx X Y P) P) (hE : ∀ a s e, Ex X Y P a s = some e → e < 1000000) (hof : ∀ a s, a < P → 1 ≤ s → s < P → of (144 * a + s) = oS (off X Y P a s)) {i : Nat} (hi : i < P) {tu : Nat → Int32} (k50 : h 50 = aI 160 tu) : ∃ tu', AMet V i_Mod_fewest 0 [.ref 32, .int (nI B), .int (nI i)] h n z (some (.int (nI (dd (Ex X Y P) (Lx X Y P) (i) (P) / 100000)))) (hu h 50 (aI 160 tu')) n z := by
  have hP2 := C.2.1
  obtain ⟨tu', M⟩ := L_fwO (V := V) (h := h) (n := n) (z := z) k32 k47 k40 hB m2 C hE hof hi P (Nat.le_refl _) tu (fun j h1 h2 => by omega)
  refine ⟨tu', ?_⟩
  have e0 : h = (hu h 50 (aI 160 tu)) := (hu_same k50).symm
  have e1 : nI P - 1 = iI ((P : Nat) - 1 : Int) := by rw [iI_nat, iI_1, iI_sub]
  refine AMet.intro (Nat.le_refl _) (Nat.le_refl _) (by decide) (Nat.le_of_ble_eq_true rfl) rfl ?_
  refine a_aload_n d_Mod_fewest_0 rfl ?_
  refine a_getf d_Mod_fewest_1 f_Mod_31 (show _ = oMod ac by_ la ra il mn rs tb ve oa lm from k32) rfl ?_
  refine a_iload_n d_Mod_fewest_4 rfl ?_
  refine a_iald d_Mod_fewest_5 (show _ = aI 40 sz from k40) (nI_in hB (by decide)) ?_
  rw [nI_clamp (by omega), m2]
  refine a_istore_n d_Mod_fewest_6 (Nat.le_of_ble_eq_true rfl) (Nat.le_of_ble_eq_true rfl) rfl ?_
  refine a_iload_n d_Mod_fewest_7 rfl ?_
  refine a_iconst (v := 1) d_Mod_fewest_8 (by decide) ?_
  refine a_isub d_Mod_fewest_9 ?_
  rw [e1]
  refine a_istore d_Mod_fewest_10 (Nat.le_of_ble_eq_true rfl) (Nat.le_of_ble_eq_true rfl) rfl ?_
  refine a_eq rfl rfl rfl e0 rfl rfl M
set_option maxRecDepth 20000 in
set_option maxHeartbeats 4000000 in
theorem m_past {W H : Nat} {D : Int64} {j s ac by_ la ra : Int32} (p : PcOk W H D j) (Q : MQs W H D j s ac by_ la ra h) (b i : Int32) : ∃ h1, MQs W H D j s ac by_ la ra h1 ∧ FQ h1 h ∧ AMet V i_Mod_past 8 [.ref 32, .int b, .int i] h n z (some (.int (q_past V W H D j s b i))) h1 n z := by
  obtain ⟨c, g32⟩ := Q.cls
  obtain ⟨h1, L, F, M⟩ := m_isBorder (V := V) (n := n) (z := z) p Q b
  cases hq : bq W D j b with
  | none =>
    refine ⟨h1, L.q, F, ?_⟩
    rw [hq] at M
    have qn : q_past V W H D j s b i = -1000001 := by unfold q_past; rw [hq]
    rw [qn]
    refine AMet.intro (Nat.le_refl _) (Nat.le_refl _) (by decide) (Nat.le_of_ble_eq_true rfl) rfl ?_
    refine a_aload_n d_Mod_past_0 rfl ?_
    refine a_iload_n d_Mod_past_1 rfl ?_
    refine a_cv0 (a := 32) d_Mod_past_2 m_Mod_isBorder t_Mod_isBorder l_Mod_169 g32 rfl rfl M rfl rfl ⟨Nat.le_of_ble_eq_true rfl, Nat.le_of_ble_eq_true rfl⟩ (Nat.le_of_ble_eq_true rfl)  ?_
    refine a_if_eq 24 d_Mod_past_5 (by decide) (fun c5 => ?_) (fun c5 => absurd rfl c5)
    refine a_ldc d_Mod_past_24 k_Mod_75 ?_
    exact a_iret d_Mod_past_26 rfl rfl rfl rfl
  | some t =>
    rw [hq, if_pos (show (some t).isSome = true from rfl)] at M
    obtain ⟨w0, ht, hb, eb, hlt⟩ := bq_some hq
    obtain ⟨tb, ve, oa, lm, k32, ⟨st, of, le, vxx, tu, lx, ly, k33, es, k47, k48, k49, k50, k51, k52⟩, ⟨fr, sz, fx, fy, wn, cx, cy, go, k39, k40, k41, k42, k43, k44, k45, k46, ml⟩, TB⟩ := id L
    obtain ⟨⟨m1, m2, m3, m4, m5⟩, m6⟩ := ml t ht hb
    obtain ⟨s0, s1, s2, s3, s4⟩ := MB.st0 es
    have P4 := bd_P ht hb
    have B36 := sB_36 (decide (j = 1)) D 64 (Nat.le_refl _)
    subst eb
    have ei : fRg i 0 (nI (sP (decide (j = 1)) D t) - 1) = fIn2 i (nI (sP (decide (j = 1)) D t)) := fRg_P (by omega)
    by_cases cf : fIn2 i (nI (sP (decide (j = 1)) D t)) = 0
    · refine ⟨h1, L.q, F, ?_⟩
      have qn : q_past V W H D j s (nI (sB (decide (j = 1)) D t)) i = -1000001 := by unfold q_past; rw [hq]; simp only; rw [if_pos cf]
      rw [qn]
      refine AMet.intro (Nat.le_refl _) (Nat.le_refl _) (by decide) (Nat.le_of_ble_eq_true rfl) rfl ?_
      refine a_aload_n d_Mod_past_0 rfl ?_
      refine a_iload_n d_Mod_past_1 rfl ?_
      refine a_cv0 (a := 32) d_Mod_past_2 m_Mod_isBorder t_Mod_isBorder l_Mod_169 g32 rfl rfl M rfl rfl ⟨Nat.le_of_ble_eq_true rfl, Nat.le_of_ble_eq_true rfl⟩ (Nat.le_of_ble_eq_true rfl)  ?_
      refine a_if_eq 24 d_Mod_past_5 (by decide) (fun c5 => absurd c5 (by decide)) (fun c5 => ?_)
      refine a_iload_n d_Mod_past_8 rfl ?_
      refine a_iconst (v := 0) d_Mod_past_9 (by decide) ?_
      refine a_aload_n d_Mod_past_10 rfl ?_
      refine a_getf d_Mod_past_11 f_Mod_31 k32 rfl ?_
      refine a_iload_n d_Mod_past_14 rfl ?_
      refine a_iald d_Mod_past_15 k40 (nI_in (show sB (decide (j = 1)) D t < 40 by omega) (by decide)) ?_
      rw [nI_clamp (by omega), m2]
      refine a_iconst (v := 1) d_Mod_past_16 (by decide) ?_
      refine a_isub d_Mod_past_17 ?_
      refine a_cs0 d_Mod_past_18 m_Mod_in t_Mod_in l_Mod_71 (s_Mod_in _ _ _) rfl rfl ⟨Nat.le_of_ble_eq_true rfl, Nat.le_of_ble_eq_true rfl⟩ (Nat.le_of_ble_eq_true rfl)  ?_
      refine a_if_ne 27 d_Mod_past_21 (by decide) (fun c21 => absurd c21 (fun q => q (ei.trans cf))) (fun c21 => ?_)
      refine a_ldc d_Mod_past_24 k_Mod_75 ?_
      exact a_iret d_Mod_past_26 rfl rfl rfl rfl
    · obtain ⟨I, hI, eI⟩ := fIn2_ok (by omega) cf
      subst eI
      obtain ⟨h2, T, F2, M2⟩ := m_laysTable (V := V) (n := n) (z := z) ht hb L
      obtain ⟨lm2, n32, ⟨st2, of2, le2, vx2, tu2, lx2, ly2, n33, es2, n47, n48, n49, n50, n51, n52⟩, ⟨fr2, sz2, fx2, fy2, wn2, cx2, cy2, go2, n39, n40, n41, n42, n43, n44, n45, n46, ml2⟩, ⟨-, -, of3, vx3, o47, o49, tof, tvx⟩⟩ := id T
      have eof : of3 = of2 := by have := o47.symm.trans n47; injection this with this; injection this with _ this; injection this
      have evx : vx3 = vx2 := by have := o49.symm.trans n49; injection this with this; injection this with _ this; injection this
      subst eof evx
      obtain ⟨⟨p1, p2, p3, p4, p5⟩, p6⟩ := ml2 t ht hb
      obtain ⟨s20, s21, s22, s23, s24⟩ := MB.st0 es2
      obtain ⟨tu', M3⟩ := s_Mod_fewest (V := V) (h := h2) (n := n) (z := z) n32 n47 n40 (show (sB (decide (j = 1)) D t) < 40 by omega) p2 (bd_CO ht hb) (Ex_1e6 ht hb) tof hI n50
      refine ⟨hu h2 50 (aI 160 tu'), ?_, ?_, ?_⟩
      · refine (MLt.d (h := hu h2 50 (aI 160 tu')) ht hb ⟨lm2, n32, ⟨st2, of3, le2, vx3, tu', lx2, ly2, n33, es2, n47, n48, n49, hu_s _ _ _, n51, n52⟩, ⟨fr2, sz2, fx2, fy2, wn2, cx2, cy2, go2, n39, n40, n41, n42, n43, n44, n45, n46, ml2⟩, ⟨rfl, rfl, of3, vx3, n47, n49, tof, tvx⟩⟩).q
      · exact FQ.tr (fun i q => by rw [hu_n (by omega)]; exact F2 i q) F
      · have qn : q_past V W H D j s (nI (sB (decide (j = 1)) D t)) (nI I) = nI (dd (Ex (bX (decide (j = 1)) D t) (bY (decide (j = 1)) D t) (sP (decide (j = 1)) D t)) (Lx (bX (decide (j = 1)) D t) (bY (decide (j = 1)) D t) (sP (decide (j = 1)) D t)) I (sP (decide (j = 1)) D t) / 100000) := by unfold q_past; rw [hq]; simp only; rw [if_neg cf, nI_clamp (by omega), cK_P]
        rw [qn]
        refine AMet.intro (Nat.le_refl _) (Nat.le_refl _) (by decide) (Nat.le_of_ble_eq_true rfl) rfl ?_
        refine a_aload_n d_Mod_past_0 rfl ?_
        refine a_iload_n d_Mod_past_1 rfl ?_
        refine a_cv0 (a := 32) d_Mod_past_2 m_Mod_isBorder t_Mod_isBorder l_Mod_169 g32 rfl rfl M rfl rfl ⟨Nat.le_of_ble_eq_true rfl, Nat.le_of_ble_eq_true rfl⟩ (Nat.le_of_ble_eq_true rfl)  ?_
        refine a_if_eq 24 d_Mod_past_5 (by decide) (fun c5 => absurd c5 (by decide)) (fun c5 => ?_)
        refine a_iload_n d_Mod_past_8 rfl ?_
        refine a_iconst (v := 0) d_Mod_past_9 (by decide) ?_
        refine a_aload_n d_Mod_past_10 rfl ?_
        refine a_getf d_Mod_past_11 f_Mod_31 k32 rfl ?_
        refine a_iload_n d_Mod_past_14 rfl ?_
        refine a_iald d_Mod_past_15 k40 (nI_in (show sB (decide (j = 1)) D t < 40 by omega) (by decide)) ?_
        rw [nI_clamp (by omega), m2]
        refine a_iconst (v := 1) d_Mod_past_16 (by decide) ?_
        refine a_isub d_Mod_past_17 ?_
        refine a_cs0 d_Mod_past_18 m_Mod_in t_Mod_in l_Mod_71 (s_Mod_in _ _ _) rfl rfl ⟨Nat.le_of_ble_eq_true rfl, Nat.le_of_ble_eq_true rfl⟩ (Nat.le_of_ble_eq_true rfl)  ?_
        refine a_if_ne 27 d_Mod_past_21 (by decide) (fun c21 => ?_) (fun c21 => absurd c21 (fun q => cf (ei.symm.trans q)))
        refine a_aload_n d_Mod_past_27 rfl ?_
        refine a_iload_n d_Mod_past_28 rfl ?_
        refine a_cv0 (a := 32) d_Mod_past_29 m_Mod_laysTable t_Mod_laysTable l_Mod_226 k32 rfl rfl M2 rfl rfl ⟨Nat.le_of_ble_eq_true rfl, Nat.le_of_ble_eq_true rfl⟩ (Nat.le_of_ble_eq_true rfl)  ?_
        refine a_aload_n d_Mod_past_32 rfl ?_
        refine a_iload_n d_Mod_past_33 rfl ?_
        refine a_iload_n d_Mod_past_34 rfl ?_
        refine a_cv0 (a := 32) d_Mod_past_35 m_Mod_fewest t_Mod_fewest l_Mod_235 n32 rfl rfl M3 rfl rfl ⟨Nat.le_of_ble_eq_true rfl, Nat.le_of_ble_eq_true rfl⟩ (Nat.le_of_ble_eq_true rfl)  ?_
        exact a_iret d_Mod_past_38 rfl rfl rfl rfl
end
