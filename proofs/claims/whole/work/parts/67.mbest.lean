/-! THE MODEL's best polygon: printed by wip/whole/t67.py -/
section
variable {V : VV} {h : AH} {n z : Nat}

theorem mkL_b {E : Nat → Nat → Option Nat} {P : Nat} : ∀ i, (mkL E P i).1 ≤ 1000000000 ∧ (mkL E P i).2 ≤ i
  | 0 => ⟨Nat.le_refl _, Nat.le_refl _⟩
  | i + 1 => by
    obtain ⟨a, b⟩ := mkL_b (E := E) (P := P) i
    show (if hv E i P i < (mkL E P i).1 then (hv E i P i, i) else mkL E P i).1 ≤ _ ∧ (if hv E i P i < (mkL E P i).1 then (hv E i P i, i) else mkL E P i).2 ≤ _
    split
    · exact ⟨by show hv E i P i ≤ _; omega, Nat.le_succ i⟩
    · exact ⟨a, by omega⟩
set_option maxRecDepth 20000 in
set_option maxHeartbeats 4000000 in
theorem L_bs {ac by_ la ra il mn : Int32} {rs : Int64} {tb ve oa lm : Int32} {of : Nat → Int32} (k32 : h 32 = oMod ac by_ la ra il mn rs tb ve oa lm) (k47 : h 47 = aI 20736 of) {E : Nat → Nat → Option Nat} {P : Nat} (hP : 2 ≤ P) (hP2 : P ≤ 144) (hE : ∀ a s e, E a s = some e → e < 1000000) (hof : ∀ a s, a < P → 1 ≤ s → s < P → of (144 * a + s) = oS (E a s)) (b : Int32) : ∀ (m i : Nat), i + m = P → ∀ (le : Nat → Int32), ∃ le', Rc V i_Mod_laysBest 2 16 [some (.ref 32), some (.int b), some (.int (nI P)), some (.int (nI (mkL E P i).1)), some (.int (nI (mkL E P i).2)), some (.int (nI i)), none] [] (hu h 48 (aI 160 le)) n z 65 [some (.ref 32), some (.int b), some (.int (nI P)), some (.int (nI (mkL E P P).1)), some (.int (nI (mkL E P P).2)), some (.int (nI P)), none] [] (hu h 48 (aI 160 le')) n z := by
  intro m
  induction m with
  | zero =>
    intro i hi le
    have e : i = P := by omega
    subst e
    refine ⟨le, fun mc ms Qf n0 z0 q1 q2 K => ?_⟩
    refine a_iload d_Mod_laysBest_16 rfl ?_
    refine a_iload_n d_Mod_laysBest_18 rfl ?_
    refine a_icmp_ge 65 d_Mod_laysBest_19 (by decide) (fun c19 => ?_) (fun c19 => absurd (Int32.le_refl _) c19)
    exact K
  | succ m ih =>
    intro i hi le
    obtain ⟨le1, ok1, M1⟩ := s_Mod_laysLeast (V := V) (h := (hu h 48 (aI 160 le))) (n := n) (z := z) (show _ = oMod ac by_ la ra il mn rs tb ve oa lm from k32) (show _ = aI 20736 of from k47) hP hP2 hE hof (show i < P by omega) (hu_s _ _ _)
    rw [hu_hu] at M1
    obtain ⟨le2, R⟩ := ih (i + 1) (by omega) le1
    refine ⟨le2, fun mc ms Qf n0 z0 q1 q2 K => ?_⟩
    have hb := mkL_b (E := E) (P := P) i
    have hh := hv_1e9 (E := E) (i := i) (P := P) hE (show i < P by omega)
    have em : mkL E P (i + 1) = if hv E i P i < (mkL E P i).1 then (hv E i P i, i) else mkL E P i := rfl
    by_cases c : hv E i P i < (mkL E P i).1
    · rw [if_pos c] at em
      have cn : ¬ nI (mkL E P i).1 ≤ nI (hv E i P i) := nI_ge c (by omega)
      refine a_iload d_Mod_laysBest_16 rfl ?_
      refine a_iload_n d_Mod_laysBest_18 rfl ?_
      refine a_icmp_ge 65 d_Mod_laysBest_19 (by decide) (fun c19 => absurd c19 (nI_ge (show i < P by omega) (by omega))) (fun c19 => ?_)
      refine a_aload_n d_Mod_laysBest_22 rfl ?_
      refine a_iload_n d_Mod_laysBest_23 rfl ?_
      refine a_iload d_Mod_laysBest_24 rfl ?_
      refine a_cv0 (a := 32) d_Mod_laysBest_26 m_Mod_laysLeast t_Mod_laysLeast l_Mod_201 (show _ = oMod ac by_ la ra il mn rs tb ve oa lm from k32) rfl rfl M1 rfl rfl ⟨Nat.le_of_ble_eq_true rfl, Nat.le_of_ble_eq_true rfl⟩ (Nat.le_of_ble_eq_true rfl)  ?_
      refine a_istore d_Mod_laysBest_29 (Nat.le_of_ble_eq_true rfl) (Nat.le_of_ble_eq_true rfl) rfl ?_
      refine a_iload d_Mod_laysBest_31 rfl ?_
      refine a_iload_n d_Mod_laysBest_33 rfl ?_
      refine a_icmp_ge 42 d_Mod_laysBest_34 (by decide) (fun c34 => absurd c34 cn) (fun c34 => ?_)
      refine a_iload d_Mod_laysBest_37 rfl ?_
      refine a_goto 44 d_Mod_laysBest_39 (by decide) ?_
      refine a_istore d_Mod_laysBest_44 (Nat.le_of_ble_eq_true rfl) (Nat.le_of_ble_eq_true rfl) rfl ?_
      refine a_iload d_Mod_laysBest_46 rfl ?_
      refine a_iload_n d_Mod_laysBest_48 rfl ?_
      refine a_icmp_ge 57 d_Mod_laysBest_49 (by decide) (fun c49 => absurd c49 cn) (fun c49 => ?_)
      refine a_iload d_Mod_laysBest_52 rfl ?_
      refine a_goto 58 d_Mod_laysBest_54 (by decide) ?_
      refine a_istore_n d_Mod_laysBest_58 (Nat.le_of_ble_eq_true rfl) (Nat.le_of_ble_eq_true rfl) rfl ?_
      refine a_iinc d_Mod_laysBest_59 rfl (nI_1 i) (Nat.le_of_ble_eq_true rfl) rfl ?_
      refine a_goto 16 d_Mod_laysBest_62 (by decide) ?_
      refine a_drop 6 ?_
      rw [em] at R
      exact R mc ms Qf n0 z0 q1 q2 K
    · rw [if_neg c] at em
      have cn : nI (mkL E P i).1 ≤ nI (hv E i P i) := nI_le (by omega) (by omega)
      refine a_iload d_Mod_laysBest_16 rfl ?_
      refine a_iload_n d_Mod_laysBest_18 rfl ?_
      refine a_icmp_ge 65 d_Mod_laysBest_19 (by decide) (fun c19 => absurd c19 (nI_ge (show i < P by omega) (by omega))) (fun c19 => ?_)
      refine a_aload_n d_Mod_laysBest_22 rfl ?_
      refine a_iload_n d_Mod_laysBest_23 rfl ?_
      refine a_iload d_Mod_laysBest_24 rfl ?_
      refine a_cv0 (a := 32) d_Mod_laysBest_26 m_Mod_laysLeast t_Mod_laysLeast l_Mod_201 (show _ = oMod ac by_ la ra il mn rs tb ve oa lm from k32) rfl rfl M1 rfl rfl ⟨Nat.le_of_ble_eq_true rfl, Nat.le_of_ble_eq_true rfl⟩ (Nat.le_of_ble_eq_true rfl)  ?_
      refine a_istore d_Mod_laysBest_29 (Nat.le_of_ble_eq_true rfl) (Nat.le_of_ble_eq_true rfl) rfl ?_
      refine a_iload d_Mod_laysBest_31 rfl ?_
      refine a_iload_n d_Mod_laysBest_33 rfl ?_
      refine a_icmp_ge 42 d_Mod_laysBest_34 (by decide) (fun c34 => ?_) (fun c34 => absurd cn c34)
      refine a_iload d_Mod_laysBest_42 rfl ?_
      refine a_istore d_Mod_laysBest_44 (Nat.le_of_ble_eq_true rfl) (Nat.le_of_ble_eq_true rfl) rfl ?_
      refine a_iload d_Mod_laysBest_46 rfl ?_
      refine a_iload_n d_Mod_laysBest_48 rfl ?_
      refine a_icmp_ge 57 d_Mod_laysBest_49 (by decide) (fun c49 => ?_) (fun c49 => absurd cn c49)
      refine a_iload_n d_Mod_laysBest_57 rfl ?_
      refine a_istore_n d_Mod_laysBest_58 (Nat.le_of_ble_eq_true rfl) (Nat.le_of_ble_eq_true rfl) rfl ?_
      refine a_iinc d_Mod_laysBest_59 rfl (nI_1 i) (Nat.le_of_ble_eq_true rfl) rfl ?_
      refine a_goto 16 d_Mod_laysBest_62 (by decide) ?_
      refine a_drop 6 ?_
      rw [em] at R
      exact R mc ms Qf n0 z0 q1 q2 K
set_option maxRecDepth 20000 in
set_option maxHeartbeats 4000000 in
theorem L_nx {ac by_ la ra il mn : Int32} {rs : Int64} {tb ve oa lm : Int32} {of : Nat → Int32} (k32 : h 32 = oMod ac by_ la ra il mn rs tb ve oa lm) (k47 : h 47 = aI 20736 of) {X Y : Nat → Int} {P : Nat} (C : CO (Ex X Y P) (Lx X Y P) P) (hE : ∀ a s e, Ex X Y P a s = some e → e < 1000000) (hof : ∀ a s, a < P → 1 ≤ s → s < P → of (144 * a + s) = oS (Ex X Y P a s)) {le : Nat → Int32} (lok : LeOk (Ex X Y P) (vF X Y P) P (vF X Y P) le) (k48 : h 48 = aI 160 le) {k S' : Nat} (hk : k + 1 < bN X Y P) (b a4 : Int32) (Bt : Nat) (eS : bC X Y P (k + 1) = (bC X Y P k) + S') (h1S : 1 ≤ S') (hyes : mStr (Ex X Y P (bC X Y P k) S') ((hv (Ex X Y P) (vF X Y P) P ((bC X Y P k) + S'))) = (hv (Ex X Y P) (vF X Y P) P (bC X Y P k))) (hno : ∀ q, 1 ≤ q → q < S' → mStr (Ex X Y P (bC X Y P k) q) ((hv (Ex X Y P) (vF X Y P) P ((bC X Y P k) + q))) ≠ (hv (Ex X Y P) (vF X Y P) P (bC X Y P k))) : ∀ (m q : Nat), q + m = S' → 1 ≤ q → Rc V i_Mod_laysBest 2 139 [some (.ref 32), some (.int b), some (.int (nI P)), some (.int (nI Bt)), some (.int a4), some (.int (nI (bC X Y P k))), some (.int (nI ((bC X Y P k) + q)))] [] h n z 173 [some (.ref 32), some (.int b), some (.int (nI P)), some (.int (nI Bt)), some (.int a4), some (.int (nI (bC X Y P k))), some (.int (nI (bC X Y P (k + 1))))] [] h n z := by
  have l0 := vC_lt C (show k < bN X Y P by omega)
  have l1 := vC_lt C hk
  have hP2 := C.2.1
  have e0 := lok (bC X Y P k) l0.2 l0.1
  have b0 := hv_1e9 (E := Ex X Y P) (i := vF X Y P) (P := P) hE l0.1
  intro m
  induction m with
  | zero =>
    intro q hq hq1 mc ms Qf n0 z0 q1 q2 K
    have e : q = S' := by omega
    subst e
    have e1 := lok ((bC X Y P k) + q) (by omega) (by omega)
    have ed : nI ((bC X Y P k) + q) - nI (bC X Y P k) = nI q := by rw [pk_sub (by omega), Nat.add_sub_cancel_left]
    refine a_aload_n d_Mod_laysBest_139 rfl ?_
    refine a_iload d_Mod_laysBest_140 rfl ?_
    refine a_iload d_Mod_laysBest_142 rfl ?_
    refine a_iload d_Mod_laysBest_144 rfl ?_
    refine a_isub d_Mod_laysBest_146 ?_
    rw [ed]
    refine a_aload_n d_Mod_laysBest_147 rfl ?_
    refine a_getf d_Mod_laysBest_148 f_Mod_56 k32 rfl ?_
    refine a_iload d_Mod_laysBest_151 rfl ?_
    refine a_iald d_Mod_laysBest_153 k48 (nI_in (show (bC X Y P k) + q < 160 by omega) (by decide)) ?_
    rw [nI_clamp (by omega), e1]
    refine a_cv0 (a := 32) d_Mod_laysBest_154 m_Mod_stretch t_Mod_stretch l_Mod_198 k32 rfl rfl (s_Mod_stretch (a := (bC X Y P k)) (s := q) (r := (hv (Ex X Y P) (vF X Y P) P ((bC X Y P k) + q))) (o := Ex X Y P (bC X Y P k) q) k32 k47 (by omega) (by omega) (hE _ _) (hof _ _ l0.1 (by omega) (by omega)) (by have := hv_1e9 (E := Ex X Y P) (i := vF X Y P) (P := P) hE (show (bC X Y P k) + q < P by omega); omega)) rfl rfl ⟨Nat.le_of_ble_eq_true rfl, Nat.le_of_ble_eq_true rfl⟩ (Nat.le_of_ble_eq_true rfl)  ?_
    refine a_aload_n d_Mod_laysBest_157 rfl ?_
    refine a_getf d_Mod_laysBest_158 f_Mod_56 k32 rfl ?_
    refine a_iload d_Mod_laysBest_161 rfl ?_
    refine a_iald d_Mod_laysBest_163 k48 (nI_in (show (bC X Y P k) < 160 by omega) (by decide)) ?_
    rw [nI_clamp (by omega), e0]
    refine a_icmp_eq 173 d_Mod_laysBest_164 (by decide) (fun c164 => ?_) (fun c164 => absurd (by rw [hyes]) c164)
    rw [eS] at K
    exact K
  | succ m ih =>
    intro q hq hq1 mc ms Qf n0 z0 q1 q2 K
    have e1 := lok ((bC X Y P k) + q) (by omega) (by omega)
    have ed : nI ((bC X Y P k) + q) - nI (bC X Y P k) = nI q := by rw [pk_sub (by omega), Nat.add_sub_cancel_left]
    have b3 : mStr (Ex X Y P (bC X Y P k) q) ((hv (Ex X Y P) (vF X Y P) P ((bC X Y P k) + q))) < 1002000000 := mStr_le (hE _ _)
    refine a_aload_n d_Mod_laysBest_139 rfl ?_
    refine a_iload d_Mod_laysBest_140 rfl ?_
    refine a_iload d_Mod_laysBest_142 rfl ?_
    refine a_iload d_Mod_laysBest_144 rfl ?_
    refine a_isub d_Mod_laysBest_146 ?_
    rw [ed]
    refine a_aload_n d_Mod_laysBest_147 rfl ?_
    refine a_getf d_Mod_laysBest_148 f_Mod_56 k32 rfl ?_
    refine a_iload d_Mod_laysBest_151 rfl ?_
    refine a_iald d_Mod_laysBest_153 k48 (nI_in (show (bC X Y P k) + q < 160 by omega) (by decide)) ?_
    rw [nI_clamp (by omega), e1]
    refine a_cv0 (a := 32) d_Mod_laysBest_154 m_Mod_stretch t_Mod_stretch l_Mod_198 k32 rfl rfl (s_Mod_stretch (a := (bC X Y P k)) (s := q) (r := (hv (Ex X Y P) (vF X Y P) P ((bC X Y P k) + q))) (o := Ex X Y P (bC X Y P k) q) k32 k47 (by omega) (by omega) (hE _ _) (hof _ _ l0.1 (by omega) (by omega)) (by have := hv_1e9 (E := Ex X Y P) (i := vF X Y P) (P := P) hE (show (bC X Y P k) + q < P by omega); omega)) rfl rfl ⟨Nat.le_of_ble_eq_true rfl, Nat.le_of_ble_eq_true rfl⟩ (Nat.le_of_ble_eq_true rfl)  ?_
    refine a_aload_n d_Mod_laysBest_157 rfl ?_
    refine a_getf d_Mod_laysBest_158 f_Mod_56 k32 rfl ?_
    refine a_iload d_Mod_laysBest_161 rfl ?_
    refine a_iald d_Mod_laysBest_163 k48 (nI_in (show (bC X Y P k) < 160 by omega) (by decide)) ?_
    rw [nI_clamp (by omega), e0]
    refine a_icmp_eq 173 d_Mod_laysBest_164 (by decide) (fun c164 => absurd c164 (fun y => hno q hq1 (by omega) ((nI_eq (by omega) (by omega)).mp y))) (fun c164 => ?_)
    refine a_iinc d_Mod_laysBest_167 rfl (nI_1 ((bC X Y P k) + q)) (Nat.le_of_ble_eq_true rfl) rfl ?_
    refine a_goto 139 d_Mod_laysBest_170 (by decide) ?_
    exact ih (q + 1) (by omega) (by omega) mc ms Qf n0 z0 q1 q2 K
set_option maxRecDepth 20000 in
set_option maxHeartbeats 4000000 in
theorem L_vx {ac by_ la ra il mn : Int32} {rs : Int64} {tb ve oa lm : Int32} {of : Nat → Int32} (k47 : h 47 = aI 20736 of) {X Y : Nat → Int} {P : Nat} (C : CO (Ex X Y P) (Lx X Y P) P) (hE : ∀ a s e, Ex X Y P a s = some e → e < 1000000) (hof : ∀ a s, a < P → 1 ≤ s → s < P → of (144 * a + s) = oS (Ex X Y P a s)) {le : Nat → Int32} (lok : LeOk (Ex X Y P) (vF X Y P) P (vF X Y P) le) (k48 : h 48 = aI 160 le) {vx : Nat → Int32} {oa2 : Int32} (b a4 : Int32) {Bt : Nat} (hBt : bN X Y P = Bt / 1000000) (hBt2 : Bt < 2000000000) : ∀ (m k : Nat), k + m = bN X Y P → ∀ (cur : Int32), (k < bN X Y P → cur = nI (bC X Y P k)) → AM V i_Mod_laysBest 2 n z none (hu (hu h 49 (aI 144 (pt vx 0 (bN X Y P) (fun q => nI (bC X Y P q))))) 32 (oMod ac by_ la ra il mn rs tb (nI (bN X Y P)) oa2 lm)) n z 90 [some (.ref 32), some (.int b), some (.int (nI P)), some (.int (nI Bt)), some (.int a4), some (.int cur), none] [] (hu (hu h 49 (aI 144 (pt vx 0 k (fun q => nI (bC X Y P q))))) 32 (oMod ac by_ la ra il mn rs tb (nI k) oa2 lm)) n z := by
  have eB : nI Bt / 1000000 = nI (bN X Y P) := by rw [show (1000000 : Int32) = nI 1000000 from rfl, pk_div (by omega) (by omega) (by omega), ← hBt]
  have hP2 := C.2.1
  have hN := (bN_eq C).2.2.2
  intro m
  induction m with
  | zero =>
    intro k hk cur hc
    have e : k = bN X Y P := by omega
    subst e
    refine a_aload_n d_Mod_laysBest_90 rfl ?_
    refine a_getf d_Mod_laysBest_91 f_Mod_205 (hu_s _ _ _) rfl ?_
    refine a_iload_n d_Mod_laysBest_94 rfl ?_
    refine a_ldc d_Mod_laysBest_95 k_Mod_197 ?_
    refine a_idiv d_Mod_laysBest_97 (by decide) ?_
    rw [eB]
    refine a_icmp_ge 180 d_Mod_laysBest_98 (by decide) (fun c98 => ?_) (fun c98 => absurd (Int32.le_refl _) c98)
    exact a_vret d_Mod_laysBest_180 rfl rfl rfl rfl
  | succ m ih =>
    intro k hk cur hc
    have hc' := hc (by omega)
    subst hc'
    have hEq : hu (hu (hu (hu h 49 (aI 144 (pt vx 0 k (fun q => nI (bC X Y P q))))) 32 (oMod ac by_ la ra il mn rs tb (nI k) oa2 lm)) 49 (aI 144 (upd (pt vx 0 k (fun q => nI (bC X Y P q))) (nI k).toNatClampNeg (nI (bC X Y P k))))) 32 (oMod ac by_ la ra il mn rs tb (nI (k + 1)) oa2 lm) = (hu (hu h 49 (aI 144 (pt vx 0 (k + 1) (fun q => nI (bC X Y P q))))) 32 (oMod ac by_ la ra il mn rs tb (nI (k + 1)) oa2 lm)) := by
      have := pt_s vx 0 k (fun q => nI (bC X Y P q))
      rw [Nat.zero_add] at this
      rw [nI_clamp (by omega), this]
      exact hu2' h (by decide) _ _ _ _
    rcases Nat.lt_or_ge (k + 1) (bN X Y P) with q | q
    · obtain ⟨S', h1S, eS, hyes, hno⟩ := bC_next C q
      refine a_aload_n d_Mod_laysBest_90 rfl ?_
      refine a_getf d_Mod_laysBest_91 f_Mod_205 (hu_s _ _ _) rfl ?_
      refine a_iload_n d_Mod_laysBest_94 rfl ?_
      refine a_ldc d_Mod_laysBest_95 k_Mod_197 ?_
      refine a_idiv d_Mod_laysBest_97 (by decide) ?_
      rw [eB]
      refine a_icmp_ge 180 d_Mod_laysBest_98 (by decide) (fun c98 => absurd c98 (nI_ge (show k < bN X Y P by omega) (by omega))) (fun c98 => ?_)
      refine a_aload_n d_Mod_laysBest_101 rfl ?_
      refine a_getf d_Mod_laysBest_102 f_Mod_59 (hu_s _ _ _) rfl ?_
      refine a_aload_n d_Mod_laysBest_105 rfl ?_
      refine a_getf d_Mod_laysBest_106 f_Mod_205 (hu_s _ _ _) rfl ?_
      refine a_iload d_Mod_laysBest_109 rfl ?_
      refine a_iast d_Mod_laysBest_111 (show _ = aI 144 (pt vx 0 k (fun q => nI (bC X Y P q))) from rfl) (nI_in (show k < 144 by omega) (by decide)) ?_
      refine a_aload_n d_Mod_laysBest_112 rfl ?_
      refine a_dup d_Mod_laysBest_113 rfl ?_
      refine a_getf d_Mod_laysBest_114 f_Mod_205 (show _ = oMod ac by_ la ra il mn rs tb (nI k) oa2 lm from rfl) rfl ?_
      refine a_iconst (v := 1) d_Mod_laysBest_117 (by decide) ?_
      refine a_iadd d_Mod_laysBest_118 ?_
      rw [nI_1]
      refine a_putf d_Mod_laysBest_119 f_Mod_205 rfl (show _ = oMod ac by_ la ra il mn rs tb (nI k) oa2 lm from rfl) (Nat.le_of_ble_eq_true rfl) rfl rfl ?_
      refine a_eq rfl rfl rfl hEq rfl rfl ?_
      refine a_aload_n d_Mod_laysBest_122 rfl ?_
      refine a_getf d_Mod_laysBest_123 f_Mod_205 (hu_s _ _ _) rfl ?_
      refine a_iload_n d_Mod_laysBest_126 rfl ?_
      refine a_ldc d_Mod_laysBest_127 k_Mod_197 ?_
      refine a_idiv d_Mod_laysBest_129 (by decide) ?_
      rw [eB]
      refine a_icmp_ge 90 d_Mod_laysBest_130 (by decide) (fun c130 => absurd c130 (nI_ge q (by omega))) (fun c130 => ?_)
      refine a_iload d_Mod_laysBest_133 rfl ?_
      refine a_iconst (v := 1) d_Mod_laysBest_135 (by decide) ?_
      refine a_iadd d_Mod_laysBest_136 ?_
      refine a_istore d_Mod_laysBest_137 (Nat.le_of_ble_eq_true rfl) (Nat.le_of_ble_eq_true rfl) rfl ?_
      rw [nI_1]
      refine (L_nx (h := (hu (hu h 49 (aI 144 (pt vx 0 (k + 1) (fun q => nI (bC X Y P q))))) 32 (oMod ac by_ la ra il mn rs tb (nI (k + 1)) oa2 lm))) (n := n) (z := z) (of := of) (show _ = oMod ac by_ la ra il mn rs tb (nI (k + 1)) oa2 lm from hu_s _ _ _) (show _ = aI 20736 of from k47) C hE hof lok (show _ = aI 160 le from k48) q b a4 Bt eS h1S hyes hno (S' - 1) 1 (by omega) (Nat.le_refl 1)).use ?_
      refine a_iload d_Mod_laysBest_173 rfl ?_
      refine a_istore d_Mod_laysBest_175 (Nat.le_of_ble_eq_true rfl) (Nat.le_of_ble_eq_true rfl) rfl ?_
      refine a_goto 90 d_Mod_laysBest_177 (by decide) ?_
      refine a_drop 6 ?_
      exact ih (k + 1) (by omega) _ (fun _ => rfl)
    · skip
      refine a_aload_n d_Mod_laysBest_90 rfl ?_
      refine a_getf d_Mod_laysBest_91 f_Mod_205 (hu_s _ _ _) rfl ?_
      refine a_iload_n d_Mod_laysBest_94 rfl ?_
      refine a_ldc d_Mod_laysBest_95 k_Mod_197 ?_
      refine a_idiv d_Mod_laysBest_97 (by decide) ?_
      rw [eB]
      refine a_icmp_ge 180 d_Mod_laysBest_98 (by decide) (fun c98 => absurd c98 (nI_ge (show k < bN X Y P by omega) (by omega))) (fun c98 => ?_)
      refine a_aload_n d_Mod_laysBest_101 rfl ?_
      refine a_getf d_Mod_laysBest_102 f_Mod_59 (hu_s _ _ _) rfl ?_
      refine a_aload_n d_Mod_laysBest_105 rfl ?_
      refine a_getf d_Mod_laysBest_106 f_Mod_205 (hu_s _ _ _) rfl ?_
      refine a_iload d_Mod_laysBest_109 rfl ?_
      refine a_iast d_Mod_laysBest_111 (show _ = aI 144 (pt vx 0 k (fun q => nI (bC X Y P q))) from rfl) (nI_in (show k < 144 by omega) (by decide)) ?_
      refine a_aload_n d_Mod_laysBest_112 rfl ?_
      refine a_dup d_Mod_laysBest_113 rfl ?_
      refine a_getf d_Mod_laysBest_114 f_Mod_205 (show _ = oMod ac by_ la ra il mn rs tb (nI k) oa2 lm from rfl) rfl ?_
      refine a_iconst (v := 1) d_Mod_laysBest_117 (by decide) ?_
      refine a_iadd d_Mod_laysBest_118 ?_
      rw [nI_1]
      refine a_putf d_Mod_laysBest_119 f_Mod_205 rfl (show _ = oMod ac by_ la ra il mn rs tb (nI k) oa2 lm from rfl) (Nat.le_of_ble_eq_true rfl) rfl rfl ?_
      refine a_eq rfl rfl rfl hEq rfl rfl ?_
      refine a_aload_n d_Mod_laysBest_122 rfl ?_
      refine a_getf d_Mod_laysBest_123 f_Mod_205 (hu_s _ _ _) rfl ?_
      refine a_iload_n d_Mod_laysBest_126 rfl ?_
      refine a_ldc d_Mod_laysBest_127 k_Mod_197 ?_
      refine a_idiv d_Mod_laysBest_129 (by decide) ?_
      rw [eB]
      refine a_icmp_ge 90 d_Mod_laysBest_130 (by decide) (fun c130 => ?_) (fun c130 => absurd (nI_le q (by omega)) c130)
      exact ih (k + 1) (by omega) _ (fun c => absurd c (by omega))
set_option maxRecDepth 20000 in
set_option maxHeartbeats 4000000 in
theorem s_Mod_laysBest {ac by_ la ra il mn : Int32} {rs : Int64} {tb ve oa lm : Int32} {of : Nat → Int32} (k32 : h 32 = oMod ac by_ la ra il mn rs tb ve oa lm) (k47 : h 47 = aI 20736 of) {sz le vx : Nat → Int32} (k40 : h 40 = aI 40 sz) (k48 : h 48 = aI 160 le) (k49 : h 49 = aI 144 vx) {X Y : Nat → Int} {P B : Nat} (hB : B < 40) (m2 : sz B = nI P) (C : CO (Ex X Y P) (Lx X Y P) P) (hE : ∀ a s e, Ex X Y P a s = some e → e < 1000000) (hof : ∀ a s, a < P → 1 ≤ s → s < P → of (144 * a + s) = oS (Ex X Y P a s)) : ∃ h1, h1 32 = oMod ac by_ la ra il mn rs tb (nI (bN X Y P)) (nI (bO X Y P)) lm ∧ (∃ le', h1 48 = aI 160 le') ∧ (∃ vx', h1 49 = aI 144 vx' ∧ ∀ k, k < bN X Y P → vx' k = nI (bC X Y P k)) ∧ (∀ i, i ≠ 32 → i ≠ 48 → i ≠ 49 → h1 i = h i) ∧ AMet V i_Mod_laysBest 2 [.ref 32, .int (nI B)] h n z none h1 n z := by
  have hP := C.1
  have hP2 := C.2.1
  obtain ⟨v1, v2, v3, v4⟩ := vF_ok C
  obtain ⟨n1, n2, n3, n4⟩ := bN_eq C
  have big := phi_b C.2.2.1 (p := vF X Y P) (r := P) (by omega)
  obtain ⟨le1, R1⟩ := L_bs (V := V) (h := h) (n := n) (z := z) k32 k47 hP hP2 hE hof (nI B) P 0 (by omega) le
  have eM := mkL_end C
  obtain ⟨le2, ok2, M2⟩ := s_Mod_laysLeast (V := V) (h := (hu h 48 (aI 160 le1))) (n := n) (z := z) (show _ = oMod ac by_ la ra il mn rs tb ve oa lm from k32) (show _ = aI 20736 of from k47) hP hP2 hE hof v1 (hu_s _ _ _)
  rw [hu_hu] at M2
  have e0 : h = (hu h 48 (aI 160 le)) := (hu_same k48).symm
  have er : nI (phi (dX X Y P (vF X Y P) P)) - nI (phi (dX X Y P (vF X Y P) P)) / 1000000 * 1000000 = nI (bO X Y P) := by
    rw [n2]; exact pk_rem (d := 1000000) (by unfold dX; omega) (by omega) (by omega)
  refine ⟨hu (hu (hu h 48 (aI 160 le2)) 49 (aI 144 (pt vx 0 (bN X Y P) (fun q => nI (bC X Y P q))))) 32 (oMod ac by_ la ra il mn rs tb (nI (bN X Y P)) (nI (bO X Y P)) lm), hu_s _ _ _, ⟨le2, rfl⟩, ⟨_, rfl, fun k hk => by have := pt_in (f := vx) (s := 0) (g := fun q => nI (bC X Y P q)) hk; rwa [Nat.zero_add] at this⟩, fun i q1 q2 q3 => by rw [hu_n q1, hu_n q3, hu_n q2], ?_⟩
  refine AMet.intro (Nat.le_refl _) (Nat.le_refl _) (by decide) (Nat.le_of_ble_eq_true rfl) rfl ?_
  refine a_aload_n d_Mod_laysBest_0 rfl ?_
  refine a_getf d_Mod_laysBest_1 f_Mod_31 k32 rfl ?_
  refine a_iload_n d_Mod_laysBest_4 rfl ?_
  refine a_iald d_Mod_laysBest_5 k40 (nI_in hB (by decide)) ?_
  rw [nI_clamp (by omega), m2]
  refine a_istore_n d_Mod_laysBest_6 (Nat.le_of_ble_eq_true rfl) (Nat.le_of_ble_eq_true rfl) rfl ?_
  refine a_ldc d_Mod_laysBest_7 k_Mod_196 ?_
  refine a_istore_n d_Mod_laysBest_9 (Nat.le_of_ble_eq_true rfl) (Nat.le_of_ble_eq_true rfl) rfl ?_
  refine a_iconst (v := 0) d_Mod_laysBest_10 (by decide) ?_
  refine a_istore d_Mod_laysBest_11 (Nat.le_of_ble_eq_true rfl) (Nat.le_of_ble_eq_true rfl) rfl ?_
  refine a_iconst (v := 0) d_Mod_laysBest_13 (by decide) ?_
  refine a_istore d_Mod_laysBest_14 (Nat.le_of_ble_eq_true rfl) (Nat.le_of_ble_eq_true rfl) rfl ?_
  refine a_eq rfl rfl rfl e0 rfl rfl (R1.use ?_)
  rw [eM]
  refine a_aload_n d_Mod_laysBest_65 rfl ?_
  refine a_iload_n d_Mod_laysBest_66 rfl ?_
  refine a_iload d_Mod_laysBest_67 rfl ?_
  refine a_cv0 (a := 32) d_Mod_laysBest_69 m_Mod_laysLeast t_Mod_laysLeast l_Mod_201 (show _ = oMod ac by_ la ra il mn rs tb ve oa lm from k32) rfl rfl M2 rfl rfl ⟨Nat.le_of_ble_eq_true rfl, Nat.le_of_ble_eq_true rfl⟩ (Nat.le_of_ble_eq_true rfl)  ?_
  refine a_pop d_Mod_laysBest_72 rfl ?_
  refine a_aload_n d_Mod_laysBest_73 rfl ?_
  refine a_iconst (v := 0) d_Mod_laysBest_74 (by decide) ?_
  refine a_putf d_Mod_laysBest_75 f_Mod_205 rfl (show _ = oMod ac by_ la ra il mn rs tb ve oa lm from k32) (Nat.le_of_ble_eq_true rfl) rfl rfl ?_
  refine a_aload_n d_Mod_laysBest_78 rfl ?_
  refine a_iload_n d_Mod_laysBest_79 rfl ?_
  refine a_ldc d_Mod_laysBest_80 k_Mod_197 ?_
  refine a_irem d_Mod_laysBest_82 (by decide) ?_
  rw [er]
  refine a_putf d_Mod_laysBest_83 f_Mod_208 rfl (hu_s _ _ _) (Nat.le_of_ble_eq_true rfl) rfl rfl ?_
  refine a_iload d_Mod_laysBest_86 rfl ?_
  refine a_istore d_Mod_laysBest_88 (Nat.le_of_ble_eq_true rfl) (Nat.le_of_ble_eq_true rfl) rfl ?_
  refine a_drop 6 ?_
  refine a_eq rfl rfl rfl ?_ rfl rfl (L_vx (h := (hu h 48 (aI 160 le2))) (n := n) (z := z) (of := of) (vx := vx) (oa2 := nI (bO X Y P)) (ac := ac) (by_ := by_) (la := la) (ra := ra) (il := il) (mn := mn) (rs := rs) (tb := tb) (ve := ve) (oa := oa) (lm := lm) (show _ = aI 20736 of from k47) C hE hof ok2 (show _ = aI 160 le2 from hu_s _ _ _) (nI B) (nI (vF X Y P)) n1 (by unfold dX; omega) (bN X Y P) 0 (by omega) (nI (vF X Y P)) (fun _ => by congr 1; unfold bC vC; rw [show vR X Y P (vF X Y P) 0 = P from rfl]; omega))
  rw [pt_0, hu_hu, hu_same (show (hu h 48 (aI 160 le2)) 49 = aI 144 vx from k49)]
  rfl
end
