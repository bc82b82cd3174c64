/-! THE MODEL's costs: printed by wip/whole/t66.py -/
theorem mStr_le {o : Option Nat} {r : Nat} (ho : ∀ e, o = some e → e < 1000000) : mStr o r < 1002000000 := by
  cases o with
  | none => simp [mStr]
  | some e =>
    have := ho e rfl
    simp only [mStr]
    split <;> omega
section
variable {E : Nat → Nat → Option Nat} {i P : Nat}
theorem hN_1e9 {f : Nat → Nat} {j : Nat} (hE : ∀ a s e, E a s = some e → e < 1000000) : ∀ m, hN E i P f j m < 1002000000
  | 0 => by
    simp only [hN]
    split
    · exact mStr_le (hE _ _)
    · decide
  | m + 1 => by
    have := hN_1e9 (f := f) (j := j) hE m
    simp only [hN]
    omega
theorem hv_1e9 (hE : ∀ a s e, E a s = some e → e < 1000000) {j : Nat} (hj : j < P) : hv E i P j < 1002000000 := by
  rw [hv_eq hj]
  exact hN_1e9 hE _
end
def LeOk (E : Nat → Nat → Option Nat) (i P j0 : Nat) (le : Nat → Int32) : Prop := ∀ j, j0 ≤ j → j < P → le j = nI (hv E i P j)
section
variable {V : VV} {h : AH} {n z : Nat}

set_option maxRecDepth 20000 in
set_option maxHeartbeats 4000000 in
theorem s_Mod_stretch {ac by_ la ra il mn : Int32} {rs : Int64} {tb ve oa lm : Int32} {of : Nat → Int32} (k32 : h 32 = oMod ac by_ la ra il mn rs tb ve oa lm) (k47 : h 47 = aI 20736 of) {a s r : Nat} {o : Option Nat} (ha : a < 144) (hs : s < 144) (ho : ∀ e, o = some e → e < 1000000) (hof : of (144 * a + s) = oS o) (hr : r < 1500000000) : AMet V i_Mod_stretch 0 [.ref 32, .int (nI a), .int (nI s), .int (nI r)] h n z (some (.int (nI (mStr o r)))) (h) n z := by
  have ea : (144 : Int32) * nI a + nI s = nI (144 * a + s) := by rw [show (144 : Int32) = nI 144 from rfl, pk_mul, nI_add]
  obtain ⟨x1, x2⟩ := oI_oS (o := o) (fun e q => by have := ho e q; omega)
  have le9 : nI r < 1000000000 ↔ r < 1000000000 := nI_ltI (b := 1000000000) (by omega) (by omega)
  refine AMet.intro (Nat.le_refl _) (Nat.le_refl _) (by decide) (Nat.le_of_ble_eq_true rfl) rfl ?_
  refine a_aload_n d_Mod_stretch_0 rfl ?_
  refine a_getf d_Mod_stretch_1 f_Mod_53 k32 rfl ?_
  refine a_sipush (v := 144) d_Mod_stretch_4 (by decide) ?_
  refine a_iload_n d_Mod_stretch_7 rfl ?_
  refine a_imul d_Mod_stretch_8 ?_
  refine a_iload_n d_Mod_stretch_9 rfl ?_
  refine a_iadd d_Mod_stretch_10 ?_
  rw [ea]
  refine a_iald d_Mod_stretch_11 k47 (nI_in (show 144 * a + s < 20736 by omega) (by decide)) ?_
  rw [nI_clamp (by omega), hof]
  refine a_ldc d_Mod_stretch_12 k_Mod_185 ?_
  refine a_icmp_eq 23 d_Mod_stretch_14 (by decide) (fun c14 => ?_) (fun c14 => ?_)
  · skip
    refine a_ldc d_Mod_stretch_23 k_Mod_196 ?_
    refine a_goto 45 d_Mod_stretch_25 (by decide) ?_
    exact a_iret d_Mod_stretch_45 rfl (by
  first
  | (rw [x2.mp c14]; rfl)
  | (cases ho2 : o with
     | none => exact absurd (x2.mpr ho2) c14
     | some e => rw [le9] at c20; simp only [mStr]; rw [if_pos (by omega)]; rfl)
  | (cases ho2 : o with
     | none => exact absurd (x2.mpr ho2) c14
     | some e => rw [le9] at c20; simp only [mStr, oS]; rw [if_neg (by omega), show (1000000 : Int32) = nI 1000000 from rfl, nI_add, nI_add])) rfl rfl
  · skip
    refine a_iload_n d_Mod_stretch_17 rfl ?_
    refine a_ldc d_Mod_stretch_18 k_Mod_196 ?_
    refine a_icmp_lt 28 d_Mod_stretch_20 (by decide) (fun c20 => ?_) (fun c20 => ?_)
    · skip
      refine a_ldc d_Mod_stretch_28 k_Mod_197 ?_
      refine a_aload_n d_Mod_stretch_30 rfl ?_
      refine a_getf d_Mod_stretch_31 f_Mod_53 k32 rfl ?_
      refine a_sipush (v := 144) d_Mod_stretch_34 (by decide) ?_
      refine a_iload_n d_Mod_stretch_37 rfl ?_
      refine a_imul d_Mod_stretch_38 ?_
      refine a_iload_n d_Mod_stretch_39 rfl ?_
      refine a_iadd d_Mod_stretch_40 ?_
      rw [ea]
      refine a_iald d_Mod_stretch_41 k47 (nI_in (show 144 * a + s < 20736 by omega) (by decide)) ?_
      rw [nI_clamp (by omega), hof]
      refine a_iadd d_Mod_stretch_42 ?_
      refine a_iload_n d_Mod_stretch_43 rfl ?_
      refine a_iadd d_Mod_stretch_44 ?_
      exact a_iret d_Mod_stretch_45 rfl (by
  first
  | (rw [x2.mp c14]; rfl)
  | (cases ho2 : o with
     | none => exact absurd (x2.mpr ho2) c14
     | some e => rw [le9] at c20; simp only [mStr]; rw [if_pos (by omega)]; rfl)
  | (cases ho2 : o with
     | none => exact absurd (x2.mpr ho2) c14
     | some e => rw [le9] at c20; simp only [mStr, oS]; rw [if_neg (by omega), show (1000000 : Int32) = nI 1000000 from rfl, nI_add, nI_add])) rfl rfl
    · skip
      refine a_ldc d_Mod_stretch_23 k_Mod_196 ?_
      refine a_goto 45 d_Mod_stretch_25 (by decide) ?_
      exact a_iret d_Mod_stretch_45 rfl (by
  first
  | (rw [x2.mp c14]; rfl)
  | (cases ho2 : o with
     | none => exact absurd (x2.mpr ho2) c14
     | some e => rw [le9] at c20; simp only [mStr]; rw [if_pos (by omega)]; rfl)
  | (cases ho2 : o with
     | none => exact absurd (x2.mpr ho2) c14
     | some e => rw [le9] at c20; simp only [mStr, oS]; rw [if_neg (by omega), show (1000000 : Int32) = nI 1000000 from rfl, nI_add, nI_add])) rfl rfl
set_option maxRecDepth 20000 in
set_option maxHeartbeats 4000000 in
theorem L_leI {ac by_ la ra il mn : Int32} {rs : Int64} {tb ve oa lm : Int32} {of : Nat → Int32} (k32 : h 32 = oMod ac by_ la ra il mn rs tb ve oa lm) (k47 : h 47 = aI 20736 of) {E : Nat → Nat → Option Nat} {P : Nat} (hP : 2 ≤ P) (hP2 : P ≤ 144) (hE : ∀ a s e, E a s = some e → e < 1000000) (hof : ∀ a s, a < P → 1 ≤ s → s < P → of (144 * a + s) = oS (E a s)) {i j : Nat} (hi : i ≤ j) (hj : j < P) : ∀ (m k : Nat), k + m = P → j < k → ∀ (le : Nat → Int32), le j = nI (hN E i P (hv E i P) j (k - 1 - j)) → LeOk E i P (j + 1) le → ∃ le', LeOk E i P j le' ∧ Rc V i_Mod_laysLeast 1 46 [some (.ref 32), some (.int (nI P)), some (.int (nI i)), some (.int (nI j)), some (.int (nI (i + P - j))), some (.int (nI k)), none] [] (hu h 48 (aI 160 le)) n z 104 [some (.ref 32), some (.int (nI P)), some (.int (nI i)), some (.int (nI j)), some (.int (nI (i + P - j))), some (.int (nI P)), none] [] (hu h 48 (aI 160 le')) n z := by
  intro m
  induction m with
  | zero =>
    intro k hk hjk le e1 ok
    have e : k = P := by omega
    subst e
    refine ⟨le, ?_, ?_⟩
    · intro j' h1 h2
      by_cases c : j' = j
      · rw [c, e1, ← hv_eq hj]
      · exact ok j' (by omega) h2
    · intro mc ms Qf n0 z0 q1 q2 K
      refine a_iload d_Mod_laysLeast_46 rfl ?_
      refine a_iload_n d_Mod_laysLeast_48 rfl ?_
      refine a_icmp_ge 104 d_Mod_laysLeast_49 (by decide) (fun c49 => ?_) (fun c49 => absurd (Int32.le_refl _) c49)
      exact K
  | succ m ih =>
    intro k hk hjk le e1 ok
    have b1 := hv_1e9 (E := E) (i := i) (P := P) hE (show k < P by omega)
    have b2 := hN_1e9 (E := E) (i := i) (P := P) (f := hv E i P) (j := j) hE (k - 1 - j)
    have b3 : (mStr (E j (k - j)) (hv E i P k)) < 1002000000 := mStr_le (hE _ _)
    have ek := ok k (by omega) (by omega)
    have e3 : hN E i P (hv E i P) j (k + 1 - 1 - j) = min (hN E i P (hv E i P) j (k - 1 - j)) (mStr (E j (k - j)) (hv E i P k)) := by
      rw [show k + 1 - 1 - j = (k - 1 - j) + 1 by omega]
      show min _ (mStr (E j (k - 1 - j + 1)) (hv E i P (j + (k - 1 - j + 1)))) = _
      rw [show k - 1 - j + 1 = k - j by omega, show j + (k - j) = k by omega]
    obtain ⟨v, ev⟩ : ∃ v, v = nI (hN E i P (hv E i P) j (k + 1 - 1 - j)) := ⟨_, rfl⟩
    obtain ⟨le', ok', R⟩ := ih (k + 1) (by omega) (by omega) (upd le j v) (by rw [pk_us, ev]) (fun j' h1 h2 => by rw [pk_un (by omega)]; exact ok j' h1 h2)
    refine ⟨le', ok', ?_⟩
    intro mc ms Qf n0 z0 q1 q2 K
    have ed : nI k - nI j = nI (k - j) := pk_sub (by omega)
    refine a_iload d_Mod_laysLeast_46 rfl ?_
    refine a_iload_n d_Mod_laysLeast_48 rfl ?_
    refine a_icmp_ge 104 d_Mod_laysLeast_49 (by decide) (fun c49 => absurd c49 (nI_ge (show k < P by omega) (by omega))) (fun c49 => ?_)
    refine a_aload_n d_Mod_laysLeast_52 rfl ?_
    refine a_iload_n d_Mod_laysLeast_53 rfl ?_
    refine a_iload d_Mod_laysLeast_54 rfl ?_
    refine a_iload_n d_Mod_laysLeast_56 rfl ?_
    refine a_isub d_Mod_laysLeast_57 ?_
    rw [ed]
    refine a_aload_n d_Mod_laysLeast_58 rfl ?_
    refine a_getf d_Mod_laysLeast_59 f_Mod_56 (show _ = oMod ac by_ la ra il mn rs tb ve oa lm from k32) rfl ?_
    refine a_iload d_Mod_laysLeast_62 rfl ?_
    refine a_iald d_Mod_laysLeast_64 (hu_s _ _ _) (nI_in (show k < 160 by omega) (by decide)) ?_
    rw [nI_clamp (by omega), ek]
    refine a_cv0 (a := 32) d_Mod_laysLeast_65 m_Mod_stretch t_Mod_stretch l_Mod_198 (show _ = oMod ac by_ la ra il mn rs tb ve oa lm from k32) rfl rfl (s_Mod_stretch (h := (hu h 48 (aI 160 le))) (a := j) (s := k - j) (r := hv E i P k) (o := E j (k - j)) (show _ = oMod ac by_ la ra il mn rs tb ve oa lm from k32) (show _ = aI 20736 of from k47) (by omega) (by omega) (hE _ _) (hof _ _ (by omega) (by omega) (by omega)) (by omega)) rfl rfl ⟨Nat.le_of_ble_eq_true rfl, Nat.le_of_ble_eq_true rfl⟩ (Nat.le_of_ble_eq_true rfl)  ?_
    refine a_istore d_Mod_laysLeast_68 (Nat.le_of_ble_eq_true rfl) (Nat.le_of_ble_eq_true rfl) rfl ?_
    refine a_aload_n d_Mod_laysLeast_70 rfl ?_
    refine a_getf d_Mod_laysLeast_71 f_Mod_56 (show _ = oMod ac by_ la ra il mn rs tb ve oa lm from k32) rfl ?_
    refine a_iload_n d_Mod_laysLeast_74 rfl ?_
    refine a_iload d_Mod_laysLeast_75 rfl ?_
    refine a_aload_n d_Mod_laysLeast_77 rfl ?_
    refine a_getf d_Mod_laysLeast_78 f_Mod_56 (show _ = oMod ac by_ la ra il mn rs tb ve oa lm from k32) rfl ?_
    refine a_iload_n d_Mod_laysLeast_81 rfl ?_
    refine a_iald d_Mod_laysLeast_82 (hu_s _ _ _) (nI_in (show j < 160 by omega) (by decide)) ?_
    rw [nI_clamp (by omega), e1]
    refine a_icmp_ge 91 d_Mod_laysLeast_83 (by decide) (fun c83 => ?_) (fun c83 => ?_)
    · skip
      refine a_aload_n d_Mod_laysLeast_91 rfl ?_
      refine a_getf d_Mod_laysLeast_92 f_Mod_56 (show _ = oMod ac by_ la ra il mn rs tb ve oa lm from k32) rfl ?_
      refine a_iload_n d_Mod_laysLeast_95 rfl ?_
      refine a_iald d_Mod_laysLeast_96 (hu_s _ _ _) (nI_in (show j < 160 by omega) (by decide)) ?_
      rw [nI_clamp (by omega), e1]
      refine a_iast d_Mod_laysLeast_97 (hu_s _ _ _) (nI_in (show j < 160 by omega) (by decide)) ?_
      refine a_iinc d_Mod_laysLeast_98 rfl (nI_1 k) (Nat.le_of_ble_eq_true rfl) rfl ?_
      refine a_goto 46 d_Mod_laysLeast_101 (by decide) ?_
      refine a_drop 6 ?_
      refine a_eq rfl rfl rfl ?_ rfl rfl (R mc ms Qf n0 z0 q1 q2 K)
      rw [nI_leI (by omega) (by omega)] at c83
      rw [hu_hu, nI_clamp (by omega), ev, e3, Nat.min_eq_left (by omega)]
    · skip
      refine a_iload d_Mod_laysLeast_86 rfl ?_
      refine a_goto 97 d_Mod_laysLeast_88 (by decide) ?_
      refine a_iast d_Mod_laysLeast_97 (hu_s _ _ _) (nI_in (show j < 160 by omega) (by decide)) ?_
      refine a_iinc d_Mod_laysLeast_98 rfl (nI_1 k) (Nat.le_of_ble_eq_true rfl) rfl ?_
      refine a_goto 46 d_Mod_laysLeast_101 (by decide) ?_
      refine a_drop 6 ?_
      refine a_eq rfl rfl rfl ?_ rfl rfl (R mc ms Qf n0 z0 q1 q2 K)
      rw [nI_leI (by omega) (by omega)] at c83
      rw [hu_hu, nI_clamp (by omega), ev, e3, Nat.min_eq_right (by omega)]
set_option maxRecDepth 20000 in
set_option maxHeartbeats 4000000 in
theorem L_leO {ac by_ la ra il mn : Int32} {rs : Int64} {tb ve oa lm : Int32} {of : Nat → Int32} (k32 : h 32 = oMod ac by_ la ra il mn rs tb ve oa lm) (k47 : h 47 = aI 20736 of) {E : Nat → Nat → Option Nat} {P : Nat} (hP : 2 ≤ P) (hP2 : P ≤ 144) (hE : ∀ a s e, E a s = some e → e < 1000000) (hof : ∀ a s, a < P → 1 ≤ s → s < P → of (144 * a + s) = oS (E a s)) {i : Nat} (hi : i < P) : ∀ (m q : Nat), q = i + m → q ≤ P → ∀ (le : Nat → Int32), LeOk E i P q le → ∃ le', LeOk E i P i le' ∧ AM V i_Mod_laysLeast 1 n z (some (.int (nI (hv E i P i)))) (hu h 48 (aI 160 le')) n z 4 [some (.ref 32), some (.int (nI P)), some (.int (nI i)), some (.int (iI ((q : Nat) - 1 : Int))), none, none, none] [] (hu h 48 (aI 160 le)) n z := by
  intro m
  induction m with
  | zero =>
    intro q hq hq2 le ok
    have e : q = i := by omega
    subst e
    refine ⟨le, ok, ?_⟩
    have lt : iI ((q : Nat) - 1 : Int) < nI q := by rw [iI_nat, iI_lt (by omega) (by omega) (by omega) (by omega)]; omega
    refine a_iload_n d_Mod_laysLeast_4 rfl ?_
    refine a_iload_n d_Mod_laysLeast_5 rfl ?_
    refine a_icmp_lt 110 d_Mod_laysLeast_6 (by decide) (fun c6 => ?_) (fun c6 => absurd lt c6)
    refine a_aload_n d_Mod_laysLeast_110 rfl ?_
    refine a_getf d_Mod_laysLeast_111 f_Mod_56 (show _ = oMod ac by_ la ra il mn rs tb ve oa lm from k32) rfl ?_
    refine a_iload_n d_Mod_laysLeast_114 rfl ?_
    refine a_iald d_Mod_laysLeast_115 (hu_s _ _ _) (nI_in (show q < 160 by omega) (by decide)) ?_
    rw [nI_clamp (by omega), ok _ (Nat.le_refl _) hi]
    exact a_iret d_Mod_laysLeast_116 rfl rfl rfl rfl
  | succ m ih =>
    intro q hq hq2 le ok
    obtain ⟨j, ej⟩ : ∃ j, q = j + 1 := ⟨q - 1, by omega⟩
    subst ej
    have e1 : iI ((j + 1 : Nat) - 1 : Int) = nI j := by rw [iI_nat]; congr 1; omega
    have hij : i ≤ j := by omega
    have b2 := hN_1e9 (E := E) (i := i) (P := P) (f := hv E i P) (j := j) hE 0
    obtain ⟨le1, ok1, R1⟩ := L_leI (V := V) (h := h) (n := n) (z := z) k32 k47 hP hP2 hE hof hij (show j < P by omega) (P - (j + 1)) (j + 1) (by omega) (by omega) (upd le j (nI (hN E i P (hv E i P) j 0))) (by rw [pk_us]; simp) (fun j' h1 h2 => by rw [pk_un (by omega)]; exact ok j' h1 h2)
    obtain ⟨le2, ok2, M2⟩ := ih j (by omega) (by omega) le1 ok1
    refine ⟨le2, ok2, ?_⟩
    have r1 : nI i + nI P - nI j = nI (i + P - j) := by rw [nI_add]; exact pk_sub (by omega)
    have ep : nI j + (-1) = iI ((j : Nat) - 1 : Int) := by rw [iI_nat, iI_m1, iI_add]; rfl
    rw [e1]
    have lt : ¬ nI j < nI i := nI_nlt hij (by omega)
    by_cases hc : i + P - j < P
    · have e0 : hN E i P (hv E i P) j 0 = mStr (E j (i + P - j)) 0 := by simp only [hN]; rw [if_pos hc]
      rw [e0] at R1
      refine a_iload_n d_Mod_laysLeast_4 rfl ?_
      refine a_iload_n d_Mod_laysLeast_5 rfl ?_
      refine a_icmp_lt 110 d_Mod_laysLeast_6 (by decide) (fun c6 => absurd c6 lt) (fun c6 => ?_)
      refine a_iload_n d_Mod_laysLeast_9 rfl ?_
      refine a_iload_n d_Mod_laysLeast_10 rfl ?_
      refine a_iadd d_Mod_laysLeast_11 ?_
      refine a_iload_n d_Mod_laysLeast_12 rfl ?_
      refine a_isub d_Mod_laysLeast_13 ?_
      rw [r1]
      refine a_istore d_Mod_laysLeast_14 (Nat.le_of_ble_eq_true rfl) (Nat.le_of_ble_eq_true rfl) rfl ?_
      refine a_aload_n d_Mod_laysLeast_16 rfl ?_
      refine a_getf d_Mod_laysLeast_17 f_Mod_56 (show _ = oMod ac by_ la ra il mn rs tb ve oa lm from k32) rfl ?_
      refine a_iload_n d_Mod_laysLeast_20 rfl ?_
      refine a_iload d_Mod_laysLeast_21 rfl ?_
      refine a_iload_n d_Mod_laysLeast_23 rfl ?_
      refine a_icmp_ge 38 d_Mod_laysLeast_24 (by decide) (fun c24 => absurd c24 (nI_ge hc (by omega))) (fun c24 => ?_)
      refine a_aload_n d_Mod_laysLeast_27 rfl ?_
      refine a_iload_n d_Mod_laysLeast_28 rfl ?_
      refine a_iload d_Mod_laysLeast_29 rfl ?_
      refine a_iconst (v := 0) d_Mod_laysLeast_31 (by decide) ?_
      refine a_cv0 (a := 32) d_Mod_laysLeast_32 m_Mod_stretch t_Mod_stretch l_Mod_198 (show _ = oMod ac by_ la ra il mn rs tb ve oa lm from k32) rfl rfl (s_Mod_stretch (h := (hu h 48 (aI 160 le))) (a := j) (s := i + P - j) (r := 0) (o := E j (i + P - j)) (show _ = oMod ac by_ la ra il mn rs tb ve oa lm from k32) (show _ = aI 20736 of from k47) (by omega) (by omega) (hE _ _) (hof _ _ (by omega) (by omega) (by omega)) (by omega)) rfl rfl ⟨Nat.le_of_ble_eq_true rfl, Nat.le_of_ble_eq_true rfl⟩ (Nat.le_of_ble_eq_true rfl)  ?_
      refine a_goto 40 d_Mod_laysLeast_35 (by decide) ?_
      refine a_iast d_Mod_laysLeast_40 (hu_s _ _ _) (nI_in (show j < 160 by omega) (by decide)) ?_
      refine a_iload_n d_Mod_laysLeast_41 rfl ?_
      refine a_iconst (v := 1) d_Mod_laysLeast_42 (by decide) ?_
      refine a_iadd d_Mod_laysLeast_43 ?_
      refine a_istore d_Mod_laysLeast_44 (Nat.le_of_ble_eq_true rfl) (Nat.le_of_ble_eq_true rfl) rfl ?_
      rw [hu_hu, nI_clamp (by omega), nI_1]
      refine R1.use ?_
      refine a_iinc d_Mod_laysLeast_104 rfl ep (Nat.le_of_ble_eq_true rfl) rfl ?_
      refine a_goto 4 d_Mod_laysLeast_107 (by decide) ?_
      refine a_drop 4 ?_
      refine a_drop 5 ?_
      exact M2
    · have e0 : hN E i P (hv E i P) j 0 = 1000000000 := by simp only [hN]; rw [if_neg hc]
      rw [e0] at R1
      refine a_iload_n d_Mod_laysLeast_4 rfl ?_
      refine a_iload_n d_Mod_laysLeast_5 rfl ?_
      refine a_icmp_lt 110 d_Mod_laysLeast_6 (by decide) (fun c6 => absurd c6 lt) (fun c6 => ?_)
      refine a_iload_n d_Mod_laysLeast_9 rfl ?_
      refine a_iload_n d_Mod_laysLeast_10 rfl ?_
      refine a_iadd d_Mod_laysLeast_11 ?_
      refine a_iload_n d_Mod_laysLeast_12 rfl ?_
      refine a_isub d_Mod_laysLeast_13 ?_
      rw [r1]
      refine a_istore d_Mod_laysLeast_14 (Nat.le_of_ble_eq_true rfl) (Nat.le_of_ble_eq_true rfl) rfl ?_
      refine a_aload_n d_Mod_laysLeast_16 rfl ?_
      refine a_getf d_Mod_laysLeast_17 f_Mod_56 (show _ = oMod ac by_ la ra il mn rs tb ve oa lm from k32) rfl ?_
      refine a_iload_n d_Mod_laysLeast_20 rfl ?_
      refine a_iload d_Mod_laysLeast_21 rfl ?_
      refine a_iload_n d_Mod_laysLeast_23 rfl ?_
      refine a_icmp_ge 38 d_Mod_laysLeast_24 (by decide) (fun c24 => ?_) (fun c24 => absurd (nI_le (by omega) (by omega)) c24)
      refine a_ldc d_Mod_laysLeast_38 k_Mod_196 ?_
      refine a_iast d_Mod_laysLeast_40 (hu_s _ _ _) (nI_in (show j < 160 by omega) (by decide)) ?_
      refine a_iload_n d_Mod_laysLeast_41 rfl ?_
      refine a_iconst (v := 1) d_Mod_laysLeast_42 (by decide) ?_
      refine a_iadd d_Mod_laysLeast_43 ?_
      refine a_istore d_Mod_laysLeast_44 (Nat.le_of_ble_eq_true rfl) (Nat.le_of_ble_eq_true rfl) rfl ?_
      rw [hu_hu, nI_clamp (by omega), nI_1]
      refine R1.use ?_
      refine a_iinc d_Mod_laysLeast_104 rfl ep (Nat.le_of_ble_eq_true rfl) rfl ?_
      refine a_goto 4 d_Mod_laysLeast_107 (by decide) ?_
      refine a_drop 4 ?_
      refine a_drop 5 ?_
      exact M2
set_option maxRecDepth 20000 in
set_option maxHeartbeats 4000000 in
theorem s_Mod_laysLeast {ac by_ la ra il mn : Int32} {rs : Int64} {tb ve oa lm : Int32} {of : Nat → Int32} (k32 : h 32 = oMod ac by_ la ra il mn rs tb ve oa lm) (k47 : h 47 = aI 20736 of) {E : Nat → Nat → Option Nat} {P : Nat} (hP : 2 ≤ P) (hP2 : P ≤ 144) (hE : ∀ a s e, E a s = some e → e < 1000000) (hof : ∀ a s, a < P → 1 ≤ s → s < P → of (144 * a + s) = oS (E a s)) {i : Nat} (hi : i < P) {le : Nat → Int32} (k48 : h 48 = aI 160 le) : ∃ le', LeOk E i P i le' ∧ AMet V i_Mod_laysLeast 1 [.ref 32, .int (nI P), .int (nI i)] h n z (some (.int (nI (hv E i P i)))) (hu h 48 (aI 160 le')) n z := by
  obtain ⟨le', ok, M⟩ := L_leO (V := V) (h := h) (n := n) (z := z) k32 k47 hP hP2 hE hof hi (P - i) P (by omega) (Nat.le_refl _) le (fun j h1 h2 => by omega)
  refine ⟨le', ok, ?_⟩
  have e0 : h = (hu h 48 (aI 160 le)) := (hu_same k48).symm
  have e1 : nI P - 1 = iI ((P : Nat) - 1 : Int) := by rw [iI_nat, iI_1, iI_sub]
  refine AMet.intro (Nat.le_refl _) (Nat.le_refl _) (by decide) (Nat.le_of_ble_eq_true rfl) rfl ?_
  refine a_iload_n d_Mod_laysLeast_0 rfl ?_
  refine a_iconst (v := 1) d_Mod_laysLeast_1 (by decide) ?_
  refine a_isub d_Mod_laysLeast_2 ?_
  rw [e1]
  refine a_istore_n d_Mod_laysLeast_3 (Nat.le_of_ble_eq_true rfl) (Nat.le_of_ble_eq_true rfl) rfl ?_
  refine a_eq rfl rfl rfl e0 rfl rfl M
end
