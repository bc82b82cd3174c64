/-! THE MODEL reads a picture: printed by wip/whole/t83.py -/
section
variable {V : VV} {h : AH} {n z : Nat}

set_option maxRecDepth 20000 in
set_option maxHeartbeats 4000000 in
theorem E_rd96 {hh : AH} {r i : Int32} (hr : ¬ r = 0) : AM V i_Mod_reads 4 n z (some (.int r)) hh n z 96 [some (.ref 32), some (.int r), some (.int i)] [] hh n z := by
  refine a_iload_n d_Mod_reads_96 rfl ?_
  refine a_if_eq 104 d_Mod_reads_97 (by decide) (fun c97 => absurd c97 hr) (fun c97 => ?_)
  refine a_iload_n d_Mod_reads_100 rfl ?_
  refine a_goto 110 d_Mod_reads_101 (by decide) ?_
  refine a_istore_n d_Mod_reads_110 (Nat.le_of_ble_eq_true rfl) (Nat.le_of_ble_eq_true rfl) rfl ?_
  refine a_iconst (v := 0) d_Mod_reads_111 (by decide) ?_
  refine a_istore_n d_Mod_reads_112 (Nat.le_of_ble_eq_true rfl) (Nat.le_of_ble_eq_true rfl) rfl ?_
  refine a_iload_n d_Mod_reads_113 rfl ?_
  refine a_if_ne 139 d_Mod_reads_114 (by decide) (fun c114 => ?_) (fun c114 => absurd c114 hr)
  refine a_iload_n d_Mod_reads_139 rfl ?_
  refine a_if_eq 147 d_Mod_reads_140 (by decide) (fun c140 => absurd c140 hr) (fun c140 => ?_)
  refine a_iload_n d_Mod_reads_143 rfl ?_
  refine a_goto 163 d_Mod_reads_144 (by decide) ?_
  exact a_iret d_Mod_reads_163 rfl rfl rfl rfl
set_option maxRecDepth 20000 in
set_option maxHeartbeats 4000000 in
theorem E_rd113 {hh : AH} {r i : Int32} (hr : ¬ r = 0) : AM V i_Mod_reads 4 n z (some (.int r)) hh n z 113 [some (.ref 32), some (.int r), some (.int i)] [] hh n z := by
  refine a_iload_n d_Mod_reads_113 rfl ?_
  refine a_if_ne 139 d_Mod_reads_114 (by decide) (fun c114 => ?_) (fun c114 => absurd c114 hr)
  refine a_iload_n d_Mod_reads_139 rfl ?_
  refine a_if_eq 147 d_Mod_reads_140 (by decide) (fun c140 => absurd c140 hr) (fun c140 => ?_)
  refine a_iload_n d_Mod_reads_143 rfl ?_
  refine a_goto 163 d_Mod_reads_144 (by decide) ?_
  exact a_iret d_Mod_reads_163 rfl rfl rfl rfl
set_option maxRecDepth 20000 in
set_option maxHeartbeats 4000000 in
theorem E_rd35 {hh : AH} {r i : Int32} (hr : ¬ r = 0) : AM V i_Mod_reads 4 n z (some (.int r)) hh n z 35 [some (.ref 32), some (.int r), some (.int i)] [] hh n z := by
  refine a_iload_n d_Mod_reads_35 rfl ?_
  refine a_iconst (v := 2) d_Mod_reads_36 (by decide) ?_
  refine a_icmp_ge 96 d_Mod_reads_37 (by decide) (fun c37 => ?_) (fun c37 => ?_)
  · skip
    exact E_rd96 hr
  · skip
    refine a_iload_n d_Mod_reads_40 rfl ?_
    refine a_if_ne 96 d_Mod_reads_41 (by decide) (fun c41 => ?_) (fun c41 => absurd c41 hr)
    exact E_rd96 hr
set_option maxRecDepth 20000 in
set_option maxHeartbeats 4000000 in
theorem L_rz {ac la il mn : Int32} {rs : Int64} {tb ve oa lm : Int32} {L : Nat} {f : Nat → Int32} (g37 : h 37 = aI 90 f) (hL : L ≤ 90) {rd : Nat → Int32} : ∀ (m k : Nat), k + m = 68 → Rc V i_Mod_reads 4 7 [some (.ref 32), some (.int (nI k)), none] [] (hu (hu h 38 (aI 68 (pt rd 0 k (fun _ => 0)))) 32 (oMod ac (nI L) la (nI 0) il mn rs tb ve oa lm)) n z 26 [some (.ref 32), some (.int (nI 68)), none] [] (hu (hu h 38 (aI 68 (pt rd 0 68 (fun _ => 0)))) 32 (oMod ac (nI L) la (nI 0) il mn rs tb ve oa lm)) n z := by
  intro m
  induction m with
  | zero =>
    intro k hk mc ms Qf n0 z0 q1 q2 K
    have e : k = 68 := by omega
    subst e
    refine a_iload_n d_Mod_reads_7 rfl ?_
    refine a_bipush (v := 68) d_Mod_reads_8 (by decide) ?_
    refine a_icmp_ge 26 d_Mod_reads_10 (by decide) (fun c10 => ?_) (fun c10 => absurd (Int32.le_refl _) c10)
    exact K
  | succ m ih =>
    intro k hk mc ms Qf n0 z0 q1 q2 K
    have ep := pt_step (f := rd) (s := 0) (k := k) (g := fun _ => 0)
    rw [Nat.zero_add] at ep
    refine a_iload_n d_Mod_reads_7 rfl ?_
    refine a_bipush (v := 68) d_Mod_reads_8 (by decide) ?_
    refine a_icmp_ge 26 d_Mod_reads_10 (by decide) (fun c10 => absurd c10 (nI_ge (b := 68) (show k < 68 by omega) (by omega))) (fun c10 => ?_)
    refine a_aload_n d_Mod_reads_13 rfl ?_
    refine a_getf d_Mod_reads_14 f_Mod_25 (show _ = oMod ac (nI L) la (nI 0) il mn rs tb ve oa lm from hu_s _ _ _) rfl ?_
    refine a_iload_n d_Mod_reads_17 rfl ?_
    refine a_iconst (v := 0) d_Mod_reads_18 (by decide) ?_
    refine a_iast d_Mod_reads_19 (show _ = aI 68 (pt rd 0 k (fun _ => 0)) from rfl) (nI_in (show k < 68 by omega) (by decide)) ?_
    refine a_iinc d_Mod_reads_20 rfl (nI_1 k) (Nat.le_of_ble_eq_true rfl) rfl ?_
    refine a_goto 7 d_Mod_reads_23 (by decide) ?_
    rw [hR38, nI_clamp (by omega)]
    rw [ep]
    exact ih (k + 1) (by omega) mc ms Qf n0 z0 q1 q2 K
set_option maxRecDepth 20000 in
set_option maxHeartbeats 4000000 in
theorem L_rows {ac la il mn : Int32} {rs : Int64} {tb ve oa lm : Int32} {L : Nat} {f : Nat → Int32} (g37 : h 37 = aI 90 f) (hL : L ≤ 90) {W H : Nat} (hW1 : 1 ≤ W) (hW : W ≤ 8) (hH : H ≤ 8) : ∀ (m y : Nat), y + m = H → ∀ (rd : Nat → Int32), Pre f (4 + y * (W + 1)) → (4 + y * (W + 1)) ≤ L → (rdQ f (4 + y * (W + 1))).1 = W → (rdQ f (4 + y * (W + 1))).2.1 = H → Rd f (4 + y * (W + 1)) rd → ∃ rd', (rdN f L = 0 → Rd f L rd') ∧ AM V i_Mod_reads 4 n z (some (.int (nI (rdN f L)))) (hu (hu h 38 (aI 68 rd')) 32 (oMod ac (nI L) la (nI (rdP f L)) il mn rs tb ve oa lm)) n z 113 [some (.ref 32), some (.int 0), some (.int (nI y))] [] (hu (hu h 38 (aI 68 rd)) 32 (oMod ac (nI L) la (nI (4 + y * (W + 1))) il mn rs tb ve oa lm)) n z := by
  intro m
  induction m with
  | zero =>
    intro y hy rd pr hA eW eH R
    have e : y = H := by omega
    have e1 : rd 1 = nI H := by rw [R 1 (by omega), eH]; rfl
    refine ⟨rd, ?_, ?_⟩
    · intro hN
      rcases Nat.lt_or_ge (4 + y * (W + 1)) L with c | c
      · exfalso
        have hF : rdF f (4 + y * (W + 1)) ≠ 0 := by
          rw [(rdQ_s (by omega)).2, eW, eH]
          obtain ⟨x1, x2⟩ := row_ix (W := W) (y := y) (x := 0) (by omega)
          rw [Nat.add_zero] at x1 x2
          unfold rwF
          rw [x2, if_neg (by omega)]
          decide
        rw [(fault_in pr c hF).2] at hN
        exact hF hN
      · rw [show L = (4 + y * (W + 1)) by omega]; exact R
    · rcases Nat.lt_or_ge (4 + y * (W + 1)) L with c | c
      · have hF : rdF f (4 + y * (W + 1)) = 1 := by
          rw [(rdQ_s (by omega)).2, eW, eH]
          obtain ⟨x1, x2⟩ := row_ix (W := W) (y := y) (x := 0) (by omega)
          rw [Nat.add_zero] at x1 x2
          unfold rwF
          rw [x2, if_neg (by omega)]
        obtain ⟨f1, f2⟩ := fault_in pr c (by rw [hF]; decide)
        rw [f1, f2, hF]
        refine a_iload_n d_Mod_reads_113 rfl ?_
        refine a_if_ne 139 d_Mod_reads_114 (by decide) (fun c114 => absurd c114 (fun q => q rfl)) (fun c114 => ?_)
        refine a_iload_n d_Mod_reads_117 rfl ?_
        refine a_aload_n d_Mod_reads_118 rfl ?_
        refine a_getf d_Mod_reads_119 f_Mod_25 (show _ = oMod ac (nI L) la (nI (4 + y * (W + 1))) il mn rs tb ve oa lm from hu_s _ _ _) rfl ?_
        refine a_iconst (v := 1) d_Mod_reads_122 (by decide) ?_
        refine a_iald d_Mod_reads_123 (show _ = aI 68 rd from rfl) (nI_in (c := 1) (N := 68) (by decide) (by decide)) ?_
        rw [show (1 : Int32).toNatClampNeg = 1 from by decide, e1]
        refine a_icmp_ge 139 d_Mod_reads_124 (by decide) (fun c124 => ?_) (fun c124 => absurd (nI_le (by omega) (by omega)) c124)
        refine a_iload_n d_Mod_reads_139 rfl ?_
        refine a_if_eq 147 d_Mod_reads_140 (by decide) (fun c140 => ?_) (fun c140 => absurd rfl c140)
        refine a_aload_n d_Mod_reads_147 rfl ?_
        refine a_getf d_Mod_reads_148 f_Mod_81 (show _ = oMod ac (nI L) la (nI (4 + y * (W + 1))) il mn rs tb ve oa lm from hu_s _ _ _) rfl ?_
        refine a_aload_n d_Mod_reads_151 rfl ?_
        refine a_getf d_Mod_reads_152 f_Mod_76 (show _ = oMod ac (nI L) la (nI (4 + y * (W + 1))) il mn rs tb ve oa lm from hu_s _ _ _) rfl ?_
        refine a_icmp_ge 162 d_Mod_reads_155 (by decide) (fun c155 => absurd c155 (nI_ge c (by omega))) (fun c155 => ?_)
        refine a_iconst (v := 1) d_Mod_reads_158 (by decide) ?_
        refine a_goto 163 d_Mod_reads_159 (by decide) ?_
        exact a_iret d_Mod_reads_163 rfl rfl rfl rfl
      · have eL : L = (4 + y * (W + 1)) := by omega
        obtain ⟨f1, f2⟩ := good_end (f := f) (L := L) (by rw [eL]; exact pr) (by rw [eL, eW, eH, ← e]; exact ⟨by omega, rfl⟩)
        rw [f1, f2]
        have hAL : (4 + y * (W + 1)) = L := eL.symm
        refine a_iload_n d_Mod_reads_113 rfl ?_
        refine a_if_ne 139 d_Mod_reads_114 (by decide) (fun c114 => absurd c114 (fun q => q rfl)) (fun c114 => ?_)
        refine a_iload_n d_Mod_reads_117 rfl ?_
        refine a_aload_n d_Mod_reads_118 rfl ?_
        refine a_getf d_Mod_reads_119 f_Mod_25 (show _ = oMod ac (nI L) la (nI (4 + y * (W + 1))) il mn rs tb ve oa lm from hu_s _ _ _) rfl ?_
        refine a_iconst (v := 1) d_Mod_reads_122 (by decide) ?_
        refine a_iald d_Mod_reads_123 (show _ = aI 68 rd from rfl) (nI_in (c := 1) (N := 68) (by decide) (by decide)) ?_
        rw [show (1 : Int32).toNatClampNeg = 1 from by decide, e1]
        refine a_icmp_ge 139 d_Mod_reads_124 (by decide) (fun c124 => ?_) (fun c124 => absurd (nI_le (by omega) (by omega)) c124)
        refine a_iload_n d_Mod_reads_139 rfl ?_
        refine a_if_eq 147 d_Mod_reads_140 (by decide) (fun c140 => ?_) (fun c140 => absurd rfl c140)
        refine a_aload_n d_Mod_reads_147 rfl ?_
        refine a_getf d_Mod_reads_148 f_Mod_81 (show _ = oMod ac (nI L) la (nI (4 + y * (W + 1))) il mn rs tb ve oa lm from hu_s _ _ _) rfl ?_
        refine a_aload_n d_Mod_reads_151 rfl ?_
        refine a_getf d_Mod_reads_152 f_Mod_76 (show _ = oMod ac (nI L) la (nI (4 + y * (W + 1))) il mn rs tb ve oa lm from hu_s _ _ _) rfl ?_
        refine a_icmp_ge 162 d_Mod_reads_155 (by decide) (fun c155 => ?_) (fun c155 => absurd (nI_le (by omega) (by omega)) c155)
        refine a_iconst (v := 0) d_Mod_reads_162 (by decide) ?_
        exact a_iret d_Mod_reads_163 rfl rfl (by rw [hAL]) rfl
  | succ m ih =>
    intro y hy rd pr hA eW eH R
    have e1 : rd 1 = nI H := by rw [R 1 (by omega), eH]; rfl
    obtain ⟨r', a', rd', O, M1⟩ := s_readsRow (V := V) (h := h) (n := n) (z := z) (ac := ac) (la := la) (il := il) (mn := mn) (rs := rs) (tb := tb) (ve := ve) (oa := oa) (lm := lm) g37 hL hW1 hW hH (show y < H by omega) pr hA eW eH R
    rcases O with ⟨o1, o2, o3, o4, o5, o6, o7⟩ | ⟨o1, o2, o3⟩
    · subst o1 o2
      obtain ⟨rd2, g, M2⟩ := ih (y + 1) (by omega) rd' o4 o3 o5 o6 o7
      refine ⟨rd2, g, ?_⟩
      refine a_iload_n d_Mod_reads_113 rfl ?_
      refine a_if_ne 139 d_Mod_reads_114 (by decide) (fun c114 => absurd c114 (fun q => q rfl)) (fun c114 => ?_)
      refine a_iload_n d_Mod_reads_117 rfl ?_
      refine a_aload_n d_Mod_reads_118 rfl ?_
      refine a_getf d_Mod_reads_119 f_Mod_25 (show _ = oMod ac (nI L) la (nI (4 + y * (W + 1))) il mn rs tb ve oa lm from hu_s _ _ _) rfl ?_
      refine a_iconst (v := 1) d_Mod_reads_122 (by decide) ?_
      refine a_iald d_Mod_reads_123 (show _ = aI 68 rd from rfl) (nI_in (c := 1) (N := 68) (by decide) (by decide)) ?_
      rw [show (1 : Int32).toNatClampNeg = 1 from by decide, e1]
      refine a_icmp_ge 139 d_Mod_reads_124 (by decide) (fun c124 => absurd c124 (nI_ge (show y < H by omega) (by omega))) (fun c124 => ?_)
      refine a_aload_n d_Mod_reads_127 rfl ?_
      refine a_iload_n d_Mod_reads_128 rfl ?_
      refine a_cv0 (a := 32) d_Mod_reads_129 m_Mod_readsRow t_Mod_readsRow l_Mod_92 (show _ = oMod ac (nI L) la (nI (4 + y * (W + 1))) il mn rs tb ve oa lm from hu_s _ _ _) rfl rfl M1 rfl rfl ⟨Nat.le_of_ble_eq_true rfl, Nat.le_of_ble_eq_true rfl⟩ (Nat.le_of_ble_eq_true rfl)  ?_
      refine a_istore_n d_Mod_reads_132 (Nat.le_of_ble_eq_true rfl) (Nat.le_of_ble_eq_true rfl) rfl ?_
      refine a_iinc d_Mod_reads_133 rfl (nI_1 y) (Nat.le_of_ble_eq_true rfl) rfl ?_
      refine a_goto 113 d_Mod_reads_136 (by decide) ?_
      exact M2
    · have hb : r' < 1000 := by
        rw [o2]
        unfold rdN
        split
        · unfold rdF rdS hdF rwF
          repeat' split
          all_goals (simp only; omega)
        · split <;> omega
      refine ⟨rd', fun q => absurd (o2.trans q) o1, ?_⟩
      rw [← o2, ← o3]
      refine a_iload_n d_Mod_reads_113 rfl ?_
      refine a_if_ne 139 d_Mod_reads_114 (by decide) (fun c114 => absurd c114 (fun q => q rfl)) (fun c114 => ?_)
      refine a_iload_n d_Mod_reads_117 rfl ?_
      refine a_aload_n d_Mod_reads_118 rfl ?_
      refine a_getf d_Mod_reads_119 f_Mod_25 (show _ = oMod ac (nI L) la (nI (4 + y * (W + 1))) il mn rs tb ve oa lm from hu_s _ _ _) rfl ?_
      refine a_iconst (v := 1) d_Mod_reads_122 (by decide) ?_
      refine a_iald d_Mod_reads_123 (show _ = aI 68 rd from rfl) (nI_in (c := 1) (N := 68) (by decide) (by decide)) ?_
      rw [show (1 : Int32).toNatClampNeg = 1 from by decide, e1]
      refine a_icmp_ge 139 d_Mod_reads_124 (by decide) (fun c124 => absurd c124 (nI_ge (show y < H by omega) (by omega))) (fun c124 => ?_)
      refine a_aload_n d_Mod_reads_127 rfl ?_
      refine a_iload_n d_Mod_reads_128 rfl ?_
      refine a_cv0 (a := 32) d_Mod_reads_129 m_Mod_readsRow t_Mod_readsRow l_Mod_92 (show _ = oMod ac (nI L) la (nI (4 + y * (W + 1))) il mn rs tb ve oa lm from hu_s _ _ _) rfl rfl M1 rfl rfl ⟨Nat.le_of_ble_eq_true rfl, Nat.le_of_ble_eq_true rfl⟩ (Nat.le_of_ble_eq_true rfl)  ?_
      refine a_istore_n d_Mod_reads_132 (Nat.le_of_ble_eq_true rfl) (Nat.le_of_ble_eq_true rfl) rfl ?_
      refine a_iinc d_Mod_reads_133 rfl (nI_1 y) (Nat.le_of_ble_eq_true rfl) rfl ?_
      refine a_goto 113 d_Mod_reads_136 (by decide) ?_
      exact E_rd113 (nI_ne0 (by omega) (by omega))
theorem tFb (f : Nat → Int32) (L a : Nat) : tF_ f L a < 1000 := by
  unfold tF_
  split
  · unfold rdF rdS hdF rwF
    repeat' split
    all_goals (simp only; omega)
  · omega
theorem Rd_s3 {f : Nat → Int32} {a : Nat} {rd : Nat → Int32} (ha : a = 3) (R : Rd f a rd) : Rd f (a + 1) rd := by
  intro i hi
  obtain ⟨q1, -⟩ := rdQ_h (f := f) (a := a) (by omega)
  rw [q1, if_neg (by omega), if_neg (by omega)]
  exact R i hi
theorem tok_0 {f : Nat → Int32} {L : Nat} : mDue L 0 f 100 100 100 100 = tF_ f L 0 := by
  rw [mDue_sign]
  unfold tF_
  rw [(rdQ_h (f := f) (a := 0) (by omega)).2]
  rfl
theorem tok_3 {f : Nat → Int32} {L : Nat} : mDue L 3 f 59 59 59 59 = tF_ f L 3 := by
  rw [mDue_sign]
  unfold tF_
  rw [(rdQ_h (f := f) (a := 3) (by omega)).2]
  rfl
set_option maxRecDepth 20000 in
set_option maxHeartbeats 4000000 in
theorem L_rd96 {ac la il mn : Int32} {rs : Int64} {tb ve oa lm : Int32} {L : Nat} {f : Nat → Int32} (g37 : h 37 = aI 90 f) (hL : L ≤ 90) {rd : Nat → Int32} (p3 : Pre f 3) (h3 : 3 ≤ L) (R : Rd f 3 rd) (i2 : Int32) : ∃ rd', (rdN f L = 0 → Rd f L rd') ∧ AM V i_Mod_reads 4 n z (some (.int (nI (rdN f L)))) (hu (hu h 38 (aI 68 rd')) 32 (oMod ac (nI L) la (nI (rdP f L)) il mn rs tb ve oa lm)) n z 96 [some (.ref 32), some (.int 0), some (.int i2)] [] (hu (hu h 38 (aI 68 rd)) 32 (oMod ac (nI L) la (nI 3) il mn rs tb ve oa lm)) n z := by
  by_cases hf : tF_ f L 3 = 0
  · obtain ⟨cl, cf, p4⟩ := tF_ok p3 hf
    have b := rdQ_b 4 p4
    have R4 : Rd f 4 rd := Rd_s3 rfl R
    obtain ⟨W, eW4⟩ : ∃ W, (rdQ f 4).1 = W := ⟨_, rfl⟩
    obtain ⟨H, eH4⟩ : ∃ H, (rdQ f 4).2.1 = H := ⟨_, rfl⟩
    rw [eW4, eH4] at b
    have e40 : 4 + 0 * (W + 1) = 4 := by omega
    have M0 := L_rows (V := V) (h := h) (n := n) (z := z) (ac := ac) (la := la) (il := il) (mn := mn) (rs := rs) (tb := tb) (ve := ve) (oa := oa) (lm := lm) g37 hL (W := W) (H := H) (b.1.2 (by omega)) b.1.1 b.2.1 H 0 (by omega) rd
    rw [e40] at M0
    obtain ⟨rd', g, M⟩ := M0 p4 (by omega) eW4 eH4 R4
    refine ⟨rd', g, ?_⟩
    have em : (if mDue L 3 f 59 59 59 59 = 0 then 3 + 1 else 3) = 4 := if_pos (tok_3.trans hf)
    have ev : nI (mDue L 3 f 59 59 59 59) = 0 := by rw [tok_3, hf]; rfl
    refine a_iload_n d_Mod_reads_96 rfl ?_
    refine a_if_eq 104 d_Mod_reads_97 (by decide) (fun c97 => ?_) (fun c97 => absurd rfl c97)
    refine a_aload_n d_Mod_reads_104 rfl ?_
    refine a_bipush (v := 59) d_Mod_reads_105 (by decide) ?_
    refine a_cv0 (a := 32) d_Mod_reads_107 m_Mod_sign t_Mod_sign l_Mod_88 (show _ = oMod ac (nI L) la (nI 3) il mn rs tb ve oa lm from hu_s _ _ _) rfl rfl (s_signX (h := (hu (hu h 38 (aI 68 rd)) 32 (oMod ac (nI L) la (nI 3) il mn rs tb ve oa lm))) (L := L) (a := 3) (tp := f) (show _ = oMod ac (nI L) la (nI 3) il mn rs tb ve oa lm from hu_s _ _ _) (show _ = aI 90 f from g37) hL (by omega) (c := 59)) rfl rfl ⟨Nat.le_of_ble_eq_true rfl, Nat.le_of_ble_eq_true rfl⟩ (Nat.le_of_ble_eq_true rfl)  ?_
    rw [hu_hu, em, ev]
    refine a_istore_n d_Mod_reads_110 (Nat.le_of_ble_eq_true rfl) (Nat.le_of_ble_eq_true rfl) rfl ?_
    refine a_iconst (v := 0) d_Mod_reads_111 (by decide) ?_
    refine a_istore_n d_Mod_reads_112 (Nat.le_of_ble_eq_true rfl) (Nat.le_of_ble_eq_true rfl) rfl ?_
    exact M
  · skip
    have hn : ¬ nI (tF_ f L 3) = 0 := nI_ne0 (by omega) (by have := tFb f L 3; omega)
    obtain ⟨f1, f2⟩ := tF_bad p3 (by omega) (Or.inl (by omega)) hf
    refine ⟨rd, fun q => absurd (f2.symm.trans q) hf, ?_⟩
    rw [f1, f2]
    have em : (if mDue L 3 f 59 59 59 59 = 0 then 3 + 1 else 3) = 3 := if_neg (fun q => hf (tok_3.symm.trans q))
    refine a_iload_n d_Mod_reads_96 rfl ?_
    refine a_if_eq 104 d_Mod_reads_97 (by decide) (fun c97 => ?_) (fun c97 => absurd rfl c97)
    refine a_aload_n d_Mod_reads_104 rfl ?_
    refine a_bipush (v := 59) d_Mod_reads_105 (by decide) ?_
    refine a_cv0 (a := 32) d_Mod_reads_107 m_Mod_sign t_Mod_sign l_Mod_88 (show _ = oMod ac (nI L) la (nI 3) il mn rs tb ve oa lm from hu_s _ _ _) rfl rfl (s_signX (h := (hu (hu h 38 (aI 68 rd)) 32 (oMod ac (nI L) la (nI 3) il mn rs tb ve oa lm))) (L := L) (a := 3) (tp := f) (show _ = oMod ac (nI L) la (nI 3) il mn rs tb ve oa lm from hu_s _ _ _) (show _ = aI 90 f from g37) hL (by omega) (c := 59)) rfl rfl ⟨Nat.le_of_ble_eq_true rfl, Nat.le_of_ble_eq_true rfl⟩ (Nat.le_of_ble_eq_true rfl)  ?_
    rw [hu_hu, em, tok_3]
    refine a_istore_n d_Mod_reads_110 (Nat.le_of_ble_eq_true rfl) (Nat.le_of_ble_eq_true rfl) rfl ?_
    refine a_iconst (v := 0) d_Mod_reads_111 (by decide) ?_
    refine a_istore_n d_Mod_reads_112 (Nat.le_of_ble_eq_true rfl) (Nat.le_of_ble_eq_true rfl) rfl ?_
    exact E_rd113 hn
set_option maxRecDepth 20000 in
set_option maxHeartbeats 4000000 in
theorem L_rd35b {ac la il mn : Int32} {rs : Int64} {tb ve oa lm : Int32} {L : Nat} {f : Nat → Int32} (g37 : h 37 = aI 90 f) (hL : L ≤ 90) {rd : Nat → Int32} (p2 : Pre f 2) (h2 : 2 ≤ L) (R : Rd f 2 rd) : ∃ rd', (rdN f L = 0 → Rd f L rd') ∧ AM V i_Mod_reads 4 n z (some (.int (nI (rdN f L)))) (hu (hu h 38 (aI 68 rd')) 32 (oMod ac (nI L) la (nI (rdP f L)) il mn rs tb ve oa lm)) n z 35 [some (.ref 32), some (.int 0), some (.int 1)] [] (hu (hu h 38 (aI 68 rd)) 32 (oMod ac (nI L) la (nI 2) il mn rs tb ve oa lm)) n z := by
  have tok := mDue_dig (f := f) (L := L) (a := 2) (by omega)
  by_cases hf : tF_ f L 2 = 0
  · obtain ⟨cl, cf, p3⟩ := tF_ok p2 hf
    obtain ⟨q1, q2⟩ := rdQ_h (f := f) (a := 2) (by omega)
    obtain ⟨d, d1, d2, d3, -⟩ := dig_ok (a := 2) (c := f 2) (by omega) (by omega) (q2.symm.trans cf)
    have R3 : Rd f 3 (upd rd 1 (f 2 - 48)) := fun i hi => by
      rw [q1]
      by_cases e : i = 1
      · subst e
        rw [pk_us, d3, nI_clamp (by omega)]
        rfl
      · rw [pk_un e, R i hi]
        unfold stF
        simp only
        repeat' split
        all_goals first | rfl | omega | simp_all
    obtain ⟨rd', g, M⟩ := L_rd96 (V := V) (h := h) (n := n) (z := z) (ac := ac) (la := la) (il := il) (mn := mn) (rs := rs) (tb := tb) (ve := ve) (oa := oa) (lm := lm) g37 hL p3 (by omega) R3 2
    refine ⟨rd', g, ?_⟩
    have em : (if mDue L 2 f 48 57 49 56 = 0 then 2 + 1 else 2) = 3 := if_pos (tok.trans hf)
    have ev : nI (mDue L 2 f 48 57 49 56) = 0 := by rw [tok, hf]; rfl
    refine a_iload_n d_Mod_reads_35 rfl ?_
    refine a_iconst (v := 2) d_Mod_reads_36 (by decide) ?_
    refine a_icmp_ge 96 d_Mod_reads_37 (by decide) (fun c37 => absurd c37 (by decide)) (fun c37 => ?_)
    refine a_iload_n d_Mod_reads_40 rfl ?_
    refine a_if_ne 96 d_Mod_reads_41 (by decide) (fun c41 => absurd c41 (fun q => q rfl)) (fun c41 => ?_)
    refine a_aload_n d_Mod_reads_44 rfl ?_
    refine a_getf d_Mod_reads_45 f_Mod_25 (show _ = oMod ac (nI L) la (nI 2) il mn rs tb ve oa lm from hu_s _ _ _) rfl ?_
    refine a_iload_n d_Mod_reads_48 rfl ?_
    refine a_aload_n d_Mod_reads_49 rfl ?_
    refine a_getf d_Mod_reads_50 f_Mod_81 (show _ = oMod ac (nI L) la (nI 2) il mn rs tb ve oa lm from hu_s _ _ _) rfl ?_
    refine a_aload_n d_Mod_reads_53 rfl ?_
    refine a_getf d_Mod_reads_54 f_Mod_76 (show _ = oMod ac (nI L) la (nI 2) il mn rs tb ve oa lm from hu_s _ _ _) rfl ?_
    refine a_icmp_ge 75 d_Mod_reads_57 (by decide) (fun c57 => absurd c57 (nI_ge cl (by omega))) (fun c57 => ?_)
    refine a_aload_n d_Mod_reads_60 rfl ?_
    refine a_getf d_Mod_reads_61 f_Mod_22 (show _ = oMod ac (nI L) la (nI 2) il mn rs tb ve oa lm from hu_s _ _ _) rfl ?_
    refine a_aload_n d_Mod_reads_64 rfl ?_
    refine a_getf d_Mod_reads_65 f_Mod_81 (show _ = oMod ac (nI L) la (nI 2) il mn rs tb ve oa lm from hu_s _ _ _) rfl ?_
    refine a_iald d_Mod_reads_68 (show _ = aI 90 f from g37) (nI_in (show 2 < 90 by omega) (by decide)) ?_
    rw [nI_clamp (by omega)]
    refine a_bipush (v := 48) d_Mod_reads_69 (by decide) ?_
    refine a_isub d_Mod_reads_71 ?_
    refine a_goto 76 d_Mod_reads_72 (by decide) ?_
    refine a_iast d_Mod_reads_76 (show _ = aI 68 rd from rfl) (nI_in (c := 1) (N := 68) (by decide) (by decide)) ?_
    rw [hR38, show (1 : Int32).toNatClampNeg = 1 from by decide]
    refine a_aload_n d_Mod_reads_77 rfl ?_
    refine a_bipush (v := 48) d_Mod_reads_78 (by decide) ?_
    refine a_bipush (v := 57) d_Mod_reads_80 (by decide) ?_
    refine a_bipush (v := 49) d_Mod_reads_82 (by decide) ?_
    refine a_bipush (v := 56) d_Mod_reads_84 (by decide) ?_
    refine a_cv0 (a := 32) d_Mod_reads_86 m_Mod_due t_Mod_due l_Mod_84 (show _ = oMod ac (nI L) la (nI 2) il mn rs tb ve oa lm from hu_s _ _ _) rfl rfl (s_dueX (h := (hu (hu h 38 (aI 68 (upd rd 1 (f 2 - 48)))) 32 (oMod ac (nI L) la (nI 2) il mn rs tb ve oa lm))) (L := L) (a := 2) (tp := f) (show _ = oMod ac (nI L) la (nI 2) il mn rs tb ve oa lm from hu_s _ _ _) (show _ = aI 90 f from g37) hL (by omega) (l := 48) (m := 57) (lo := 49) (hi := 56)) rfl rfl ⟨Nat.le_of_ble_eq_true rfl, Nat.le_of_ble_eq_true rfl⟩ (Nat.le_of_ble_eq_true rfl)  ?_
    rw [hu_hu, em, ev]
    refine a_istore_n d_Mod_reads_89 (Nat.le_of_ble_eq_true rfl) (Nat.le_of_ble_eq_true rfl) rfl ?_
    refine a_iinc d_Mod_reads_90 rfl (by decide : (1 : Int32) + 1 = 2) (Nat.le_of_ble_eq_true rfl) rfl ?_
    refine a_goto 35 d_Mod_reads_93 (by decide) ?_
    skip
    refine a_iload_n d_Mod_reads_35 rfl ?_
    refine a_iconst (v := 2) d_Mod_reads_36 (by decide) ?_
    refine a_icmp_ge 96 d_Mod_reads_37 (by decide) (fun c37 => ?_) (fun c37 => absurd (by decide) c37)
    exact M
  · skip
    have hn : ¬ nI (tF_ f L 2) = 0 := nI_ne0 (by omega) (by have := tFb f L 2; omega)
    obtain ⟨f1, f2⟩ := tF_bad p2 (by omega) (Or.inl (by omega)) hf
    have em : (if mDue L 2 f 48 57 49 56 = 0 then 2 + 1 else 2) = 2 := if_neg (fun q => hf (tok.symm.trans q))
    rcases Nat.lt_or_ge 2 L with cl | cl
    · refine ⟨upd rd 1 (f 2 - 48), fun q => absurd (f2.symm.trans q) hf, ?_⟩
      rw [f1, f2]
      refine a_iload_n d_Mod_reads_35 rfl ?_
      refine a_iconst (v := 2) d_Mod_reads_36 (by decide) ?_
      refine a_icmp_ge 96 d_Mod_reads_37 (by decide) (fun c37 => absurd c37 (by decide)) (fun c37 => ?_)
      refine a_iload_n d_Mod_reads_40 rfl ?_
      refine a_if_ne 96 d_Mod_reads_41 (by decide) (fun c41 => absurd c41 (fun q => q rfl)) (fun c41 => ?_)
      refine a_aload_n d_Mod_reads_44 rfl ?_
      refine a_getf d_Mod_reads_45 f_Mod_25 (show _ = oMod ac (nI L) la (nI 2) il mn rs tb ve oa lm from hu_s _ _ _) rfl ?_
      refine a_iload_n d_Mod_reads_48 rfl ?_
      refine a_aload_n d_Mod_reads_49 rfl ?_
      refine a_getf d_Mod_reads_50 f_Mod_81 (show _ = oMod ac (nI L) la (nI 2) il mn rs tb ve oa lm from hu_s _ _ _) rfl ?_
      refine a_aload_n d_Mod_reads_53 rfl ?_
      refine a_getf d_Mod_reads_54 f_Mod_76 (show _ = oMod ac (nI L) la (nI 2) il mn rs tb ve oa lm from hu_s _ _ _) rfl ?_
      refine a_icmp_ge 75 d_Mod_reads_57 (by decide) (fun c57 => absurd c57 (nI_ge cl (by omega))) (fun c57 => ?_)
      refine a_aload_n d_Mod_reads_60 rfl ?_
      refine a_getf d_Mod_reads_61 f_Mod_22 (show _ = oMod ac (nI L) la (nI 2) il mn rs tb ve oa lm from hu_s _ _ _) rfl ?_
      refine a_aload_n d_Mod_reads_64 rfl ?_
      refine a_getf d_Mod_reads_65 f_Mod_81 (show _ = oMod ac (nI L) la (nI 2) il mn rs tb ve oa lm from hu_s _ _ _) rfl ?_
      refine a_iald d_Mod_reads_68 (show _ = aI 90 f from g37) (nI_in (show 2 < 90 by omega) (by decide)) ?_
      rw [nI_clamp (by omega)]
      refine a_bipush (v := 48) d_Mod_reads_69 (by decide) ?_
      refine a_isub d_Mod_reads_71 ?_
      refine a_goto 76 d_Mod_reads_72 (by decide) ?_
      refine a_iast d_Mod_reads_76 (show _ = aI 68 rd from rfl) (nI_in (c := 1) (N := 68) (by decide) (by decide)) ?_
      rw [hR38, show (1 : Int32).toNatClampNeg = 1 from by decide]
      refine a_aload_n d_Mod_reads_77 rfl ?_
      refine a_bipush (v := 48) d_Mod_reads_78 (by decide) ?_
      refine a_bipush (v := 57) d_Mod_reads_80 (by decide) ?_
      refine a_bipush (v := 49) d_Mod_reads_82 (by decide) ?_
      refine a_bipush (v := 56) d_Mod_reads_84 (by decide) ?_
      refine a_cv0 (a := 32) d_Mod_reads_86 m_Mod_due t_Mod_due l_Mod_84 (show _ = oMod ac (nI L) la (nI 2) il mn rs tb ve oa lm from hu_s _ _ _) rfl rfl (s_dueX (h := (hu (hu h 38 (aI 68 (upd rd 1 (f 2 - 48)))) 32 (oMod ac (nI L) la (nI 2) il mn rs tb ve oa lm))) (L := L) (a := 2) (tp := f) (show _ = oMod ac (nI L) la (nI 2) il mn rs tb ve oa lm from hu_s _ _ _) (show _ = aI 90 f from g37) hL (by omega) (l := 48) (m := 57) (lo := 49) (hi := 56)) rfl rfl ⟨Nat.le_of_ble_eq_true rfl, Nat.le_of_ble_eq_true rfl⟩ (Nat.le_of_ble_eq_true rfl)  ?_
      rw [hu_hu, em, tok]
      refine a_istore_n d_Mod_reads_89 (Nat.le_of_ble_eq_true rfl) (Nat.le_of_ble_eq_true rfl) rfl ?_
      refine a_iinc d_Mod_reads_90 rfl (by decide : (1 : Int32) + 1 = 2) (Nat.le_of_ble_eq_true rfl) rfl ?_
      refine a_goto 35 d_Mod_reads_93 (by decide) ?_
      exact E_rd35 hn
    · refine ⟨upd rd 1 0, fun q => absurd (f2.symm.trans q) hf, ?_⟩
      rw [f1, f2]
      refine a_iload_n d_Mod_reads_35 rfl ?_
      refine a_iconst (v := 2) d_Mod_reads_36 (by decide) ?_
      refine a_icmp_ge 96 d_Mod_reads_37 (by decide) (fun c37 => absurd c37 (by decide)) (fun c37 => ?_)
      refine a_iload_n d_Mod_reads_40 rfl ?_
      refine a_if_ne 96 d_Mod_reads_41 (by decide) (fun c41 => absurd c41 (fun q => q rfl)) (fun c41 => ?_)
      refine a_aload_n d_Mod_reads_44 rfl ?_
      refine a_getf d_Mod_reads_45 f_Mod_25 (show _ = oMod ac (nI L) la (nI 2) il mn rs tb ve oa lm from hu_s _ _ _) rfl ?_
      refine a_iload_n d_Mod_reads_48 rfl ?_
      refine a_aload_n d_Mod_reads_49 rfl ?_
      refine a_getf d_Mod_reads_50 f_Mod_81 (show _ = oMod ac (nI L) la (nI 2) il mn rs tb ve oa lm from hu_s _ _ _) rfl ?_
      refine a_aload_n d_Mod_reads_53 rfl ?_
      refine a_getf d_Mod_reads_54 f_Mod_76 (show _ = oMod ac (nI L) la (nI 2) il mn rs tb ve oa lm from hu_s _ _ _) rfl ?_
      refine a_icmp_ge 75 d_Mod_reads_57 (by decide) (fun c57 => ?_) (fun c57 => absurd (nI_le (by omega) (by omega)) c57)
      refine a_iconst (v := 0) d_Mod_reads_75 (by decide) ?_
      refine a_iast d_Mod_reads_76 (show _ = aI 68 rd from rfl) (nI_in (c := 1) (N := 68) (by decide) (by decide)) ?_
      rw [hR38, show (1 : Int32).toNatClampNeg = 1 from by decide]
      refine a_aload_n d_Mod_reads_77 rfl ?_
      refine a_bipush (v := 48) d_Mod_reads_78 (by decide) ?_
      refine a_bipush (v := 57) d_Mod_reads_80 (by decide) ?_
      refine a_bipush (v := 49) d_Mod_reads_82 (by decide) ?_
      refine a_bipush (v := 56) d_Mod_reads_84 (by decide) ?_
      refine a_cv0 (a := 32) d_Mod_reads_86 m_Mod_due t_Mod_due l_Mod_84 (show _ = oMod ac (nI L) la (nI 2) il mn rs tb ve oa lm from hu_s _ _ _) rfl rfl (s_dueX (h := (hu (hu h 38 (aI 68 (upd rd 1 0))) 32 (oMod ac (nI L) la (nI 2) il mn rs tb ve oa lm))) (L := L) (a := 2) (tp := f) (show _ = oMod ac (nI L) la (nI 2) il mn rs tb ve oa lm from hu_s _ _ _) (show _ = aI 90 f from g37) hL (by omega) (l := 48) (m := 57) (lo := 49) (hi := 56)) rfl rfl ⟨Nat.le_of_ble_eq_true rfl, Nat.le_of_ble_eq_true rfl⟩ (Nat.le_of_ble_eq_true rfl)  ?_
      rw [hu_hu, em, tok]
      refine a_istore_n d_Mod_reads_89 (Nat.le_of_ble_eq_true rfl) (Nat.le_of_ble_eq_true rfl) rfl ?_
      refine a_iinc d_Mod_reads_90 rfl (by decide : (1 : Int32) + 1 = 2) (Nat.le_of_ble_eq_true rfl) rfl ?_
      refine a_goto 35 d_Mod_reads_93 (by decide) ?_
      exact E_rd35 hn
set_option maxRecDepth 20000 in
set_option maxHeartbeats 4000000 in
theorem L_rd35a {ac la il mn : Int32} {rs : Int64} {tb ve oa lm : Int32} {L : Nat} {f : Nat → Int32} (g37 : h 37 = aI 90 f) (hL : L ≤ 90) {rd : Nat → Int32} (p1 : Pre f 1) (h1 : 1 ≤ L) (R : Rd f 1 rd) : ∃ rd', (rdN f L = 0 → Rd f L rd') ∧ AM V i_Mod_reads 4 n z (some (.int (nI (rdN f L)))) (hu (hu h 38 (aI 68 rd')) 32 (oMod ac (nI L) la (nI (rdP f L)) il mn rs tb ve oa lm)) n z 35 [some (.ref 32), some (.int 0), some (.int 0)] [] (hu (hu h 38 (aI 68 rd)) 32 (oMod ac (nI L) la (nI 1) il mn rs tb ve oa lm)) n z := by
  have tok := mDue_dig (f := f) (L := L) (a := 1) (by omega)
  by_cases hf : tF_ f L 1 = 0
  · obtain ⟨cl, cf, p2⟩ := tF_ok p1 hf
    obtain ⟨q1, q2⟩ := rdQ_h (f := f) (a := 1) (by omega)
    obtain ⟨d, d1, d2, d3, -⟩ := dig_ok (a := 1) (c := f 1) (by omega) (by omega) (q2.symm.trans cf)
    have R2 : Rd f 2 (upd rd 0 (f 1 - 48)) := fun i hi => by
      rw [q1]
      by_cases e : i = 0
      · subst e
        rw [pk_us, d3, nI_clamp (by omega)]
        rfl
      · rw [pk_un e, R i hi]
        unfold stF
        simp only
        repeat' split
        all_goals first | rfl | omega | simp_all
    obtain ⟨rd', g, M⟩ := L_rd35b (V := V) (h := h) (n := n) (z := z) (ac := ac) (la := la) (il := il) (mn := mn) (rs := rs) (tb := tb) (ve := ve) (oa := oa) (lm := lm) g37 hL p2 (by omega) R2
    refine ⟨rd', g, ?_⟩
    have em : (if mDue L 1 f 48 57 49 56 = 0 then 1 + 1 else 1) = 2 := if_pos (tok.trans hf)
    have ev : nI (mDue L 1 f 48 57 49 56) = 0 := by rw [tok, hf]; rfl
    refine a_iload_n d_Mod_reads_35 rfl ?_
    refine a_iconst (v := 2) d_Mod_reads_36 (by decide) ?_
    refine a_icmp_ge 96 d_Mod_reads_37 (by decide) (fun c37 => absurd c37 (by decide)) (fun c37 => ?_)
    refine a_iload_n d_Mod_reads_40 rfl ?_
    refine a_if_ne 96 d_Mod_reads_41 (by decide) (fun c41 => absurd c41 (fun q => q rfl)) (fun c41 => ?_)
    refine a_aload_n d_Mod_reads_44 rfl ?_
    refine a_getf d_Mod_reads_45 f_Mod_25 (show _ = oMod ac (nI L) la (nI 1) il mn rs tb ve oa lm from hu_s _ _ _) rfl ?_
    refine a_iload_n d_Mod_reads_48 rfl ?_
    refine a_aload_n d_Mod_reads_49 rfl ?_
    refine a_getf d_Mod_reads_50 f_Mod_81 (show _ = oMod ac (nI L) la (nI 1) il mn rs tb ve oa lm from hu_s _ _ _) rfl ?_
    refine a_aload_n d_Mod_reads_53 rfl ?_
    refine a_getf d_Mod_reads_54 f_Mod_76 (show _ = oMod ac (nI L) la (nI 1) il mn rs tb ve oa lm from hu_s _ _ _) rfl ?_
    refine a_icmp_ge 75 d_Mod_reads_57 (by decide) (fun c57 => absurd c57 (nI_ge cl (by omega))) (fun c57 => ?_)
    refine a_aload_n d_Mod_reads_60 rfl ?_
    refine a_getf d_Mod_reads_61 f_Mod_22 (show _ = oMod ac (nI L) la (nI 1) il mn rs tb ve oa lm from hu_s _ _ _) rfl ?_
    refine a_aload_n d_Mod_reads_64 rfl ?_
    refine a_getf d_Mod_reads_65 f_Mod_81 (show _ = oMod ac (nI L) la (nI 1) il mn rs tb ve oa lm from hu_s _ _ _) rfl ?_
    refine a_iald d_Mod_reads_68 (show _ = aI 90 f from g37) (nI_in (show 1 < 90 by omega) (by decide)) ?_
    rw [nI_clamp (by omega)]
    refine a_bipush (v := 48) d_Mod_reads_69 (by decide) ?_
    refine a_isub d_Mod_reads_71 ?_
    refine a_goto 76 d_Mod_reads_72 (by decide) ?_
    refine a_iast d_Mod_reads_76 (show _ = aI 68 rd from rfl) (nI_in (c := 0) (N := 68) (by decide) (by decide)) ?_
    rw [hR38, show (0 : Int32).toNatClampNeg = 0 from by decide]
    refine a_aload_n d_Mod_reads_77 rfl ?_
    refine a_bipush (v := 48) d_Mod_reads_78 (by decide) ?_
    refine a_bipush (v := 57) d_Mod_reads_80 (by decide) ?_
    refine a_bipush (v := 49) d_Mod_reads_82 (by decide) ?_
    refine a_bipush (v := 56) d_Mod_reads_84 (by decide) ?_
    refine a_cv0 (a := 32) d_Mod_reads_86 m_Mod_due t_Mod_due l_Mod_84 (show _ = oMod ac (nI L) la (nI 1) il mn rs tb ve oa lm from hu_s _ _ _) rfl rfl (s_dueX (h := (hu (hu h 38 (aI 68 (upd rd 0 (f 1 - 48)))) 32 (oMod ac (nI L) la (nI 1) il mn rs tb ve oa lm))) (L := L) (a := 1) (tp := f) (show _ = oMod ac (nI L) la (nI 1) il mn rs tb ve oa lm from hu_s _ _ _) (show _ = aI 90 f from g37) hL (by omega) (l := 48) (m := 57) (lo := 49) (hi := 56)) rfl rfl ⟨Nat.le_of_ble_eq_true rfl, Nat.le_of_ble_eq_true rfl⟩ (Nat.le_of_ble_eq_true rfl)  ?_
    rw [hu_hu, em, ev]
    refine a_istore_n d_Mod_reads_89 (Nat.le_of_ble_eq_true rfl) (Nat.le_of_ble_eq_true rfl) rfl ?_
    refine a_iinc d_Mod_reads_90 rfl (by decide : (0 : Int32) + 1 = 1) (Nat.le_of_ble_eq_true rfl) rfl ?_
    refine a_goto 35 d_Mod_reads_93 (by decide) ?_
    exact M
  · skip
    have hn : ¬ nI (tF_ f L 1) = 0 := nI_ne0 (by omega) (by have := tFb f L 1; omega)
    obtain ⟨f1, f2⟩ := tF_bad p1 (by omega) (Or.inl (by omega)) hf
    have em : (if mDue L 1 f 48 57 49 56 = 0 then 1 + 1 else 1) = 1 := if_neg (fun q => hf (tok.symm.trans q))
    rcases Nat.lt_or_ge 1 L with cl | cl
    · refine ⟨upd rd 0 (f 1 - 48), fun q => absurd (f2.symm.trans q) hf, ?_⟩
      rw [f1, f2]
      refine a_iload_n d_Mod_reads_35 rfl ?_
      refine a_iconst (v := 2) d_Mod_reads_36 (by decide) ?_
      refine a_icmp_ge 96 d_Mod_reads_37 (by decide) (fun c37 => absurd c37 (by decide)) (fun c37 => ?_)
      refine a_iload_n d_Mod_reads_40 rfl ?_
      refine a_if_ne 96 d_Mod_reads_41 (by decide) (fun c41 => absurd c41 (fun q => q rfl)) (fun c41 => ?_)
      refine a_aload_n d_Mod_reads_44 rfl ?_
      refine a_getf d_Mod_reads_45 f_Mod_25 (show _ = oMod ac (nI L) la (nI 1) il mn rs tb ve oa lm from hu_s _ _ _) rfl ?_
      refine a_iload_n d_Mod_reads_48 rfl ?_
      refine a_aload_n d_Mod_reads_49 rfl ?_
      refine a_getf d_Mod_reads_50 f_Mod_81 (show _ = oMod ac (nI L) la (nI 1) il mn rs tb ve oa lm from hu_s _ _ _) rfl ?_
      refine a_aload_n d_Mod_reads_53 rfl ?_
      refine a_getf d_Mod_reads_54 f_Mod_76 (show _ = oMod ac (nI L) la (nI 1) il mn rs tb ve oa lm from hu_s _ _ _) rfl ?_
      refine a_icmp_ge 75 d_Mod_reads_57 (by decide) (fun c57 => absurd c57 (nI_ge cl (by omega))) (fun c57 => ?_)
      refine a_aload_n d_Mod_reads_60 rfl ?_
      refine a_getf d_Mod_reads_61 f_Mod_22 (show _ = oMod ac (nI L) la (nI 1) il mn rs tb ve oa lm from hu_s _ _ _) rfl ?_
      refine a_aload_n d_Mod_reads_64 rfl ?_
      refine a_getf d_Mod_reads_65 f_Mod_81 (show _ = oMod ac (nI L) la (nI 1) il mn rs tb ve oa lm from hu_s _ _ _) rfl ?_
      refine a_iald d_Mod_reads_68 (show _ = aI 90 f from g37) (nI_in (show 1 < 90 by omega) (by decide)) ?_
      rw [nI_clamp (by omega)]
      refine a_bipush (v := 48) d_Mod_reads_69 (by decide) ?_
      refine a_isub d_Mod_reads_71 ?_
      refine a_goto 76 d_Mod_reads_72 (by decide) ?_
      refine a_iast d_Mod_reads_76 (show _ = aI 68 rd from rfl) (nI_in (c := 0) (N := 68) (by decide) (by decide)) ?_
      rw [hR38, show (0 : Int32).toNatClampNeg = 0 from by decide]
      refine a_aload_n d_Mod_reads_77 rfl ?_
      refine a_bipush (v := 48) d_Mod_reads_78 (by decide) ?_
      refine a_bipush (v := 57) d_Mod_reads_80 (by decide) ?_
      refine a_bipush (v := 49) d_Mod_reads_82 (by decide) ?_
      refine a_bipush (v := 56) d_Mod_reads_84 (by decide) ?_
      refine a_cv0 (a := 32) d_Mod_reads_86 m_Mod_due t_Mod_due l_Mod_84 (show _ = oMod ac (nI L) la (nI 1) il mn rs tb ve oa lm from hu_s _ _ _) rfl rfl (s_dueX (h := (hu (hu h 38 (aI 68 (upd rd 0 (f 1 - 48)))) 32 (oMod ac (nI L) la (nI 1) il mn rs tb ve oa lm))) (L := L) (a := 1) (tp := f) (show _ = oMod ac (nI L) la (nI 1) il mn rs tb ve oa lm from hu_s _ _ _) (show _ = aI 90 f from g37) hL (by omega) (l := 48) (m := 57) (lo := 49) (hi := 56)) rfl rfl ⟨Nat.le_of_ble_eq_true rfl, Nat.le_of_ble_eq_true rfl⟩ (Nat.le_of_ble_eq_true rfl)  ?_
      rw [hu_hu, em, tok]
      refine a_istore_n d_Mod_reads_89 (Nat.le_of_ble_eq_true rfl) (Nat.le_of_ble_eq_true rfl) rfl ?_
      refine a_iinc d_Mod_reads_90 rfl (by decide : (0 : Int32) + 1 = 1) (Nat.le_of_ble_eq_true rfl) rfl ?_
      refine a_goto 35 d_Mod_reads_93 (by decide) ?_
      exact E_rd35 hn
    · refine ⟨upd rd 0 0, fun q => absurd (f2.symm.trans q) hf, ?_⟩
      rw [f1, f2]
      refine a_iload_n d_Mod_reads_35 rfl ?_
      refine a_iconst (v := 2) d_Mod_reads_36 (by decide) ?_
      refine a_icmp_ge 96 d_Mod_reads_37 (by decide) (fun c37 => absurd c37 (by decide)) (fun c37 => ?_)
      refine a_iload_n d_Mod_reads_40 rfl ?_
      refine a_if_ne 96 d_Mod_reads_41 (by decide) (fun c41 => absurd c41 (fun q => q rfl)) (fun c41 => ?_)
      refine a_aload_n d_Mod_reads_44 rfl ?_
      refine a_getf d_Mod_reads_45 f_Mod_25 (show _ = oMod ac (nI L) la (nI 1) il mn rs tb ve oa lm from hu_s _ _ _) rfl ?_
      refine a_iload_n d_Mod_reads_48 rfl ?_
      refine a_aload_n d_Mod_reads_49 rfl ?_
      refine a_getf d_Mod_reads_50 f_Mod_81 (show _ = oMod ac (nI L) la (nI 1) il mn rs tb ve oa lm from hu_s _ _ _) rfl ?_
      refine a_aload_n d_Mod_reads_53 rfl ?_
      refine a_getf d_Mod_reads_54 f_Mod_76 (show _ = oMod ac (nI L) la (nI 1) il mn rs tb ve oa lm from hu_s _ _ _) rfl ?_
      refine a_icmp_ge 75 d_Mod_reads_57 (by decide) (fun c57 => ?_) (fun c57 => absurd (nI_le (by omega) (by omega)) c57)
      refine a_iconst (v := 0) d_Mod_reads_75 (by decide) ?_
      refine a_iast d_Mod_reads_76 (show _ = aI 68 rd from rfl) (nI_in (c := 0) (N := 68) (by decide) (by decide)) ?_
      rw [hR38, show (0 : Int32).toNatClampNeg = 0 from by decide]
      refine a_aload_n d_Mod_reads_77 rfl ?_
      refine a_bipush (v := 48) d_Mod_reads_78 (by decide) ?_
      refine a_bipush (v := 57) d_Mod_reads_80 (by decide) ?_
      refine a_bipush (v := 49) d_Mod_reads_82 (by decide) ?_
      refine a_bipush (v := 56) d_Mod_reads_84 (by decide) ?_
      refine a_cv0 (a := 32) d_Mod_reads_86 m_Mod_due t_Mod_due l_Mod_84 (show _ = oMod ac (nI L) la (nI 1) il mn rs tb ve oa lm from hu_s _ _ _) rfl rfl (s_dueX (h := (hu (hu h 38 (aI 68 (upd rd 0 0))) 32 (oMod ac (nI L) la (nI 1) il mn rs tb ve oa lm))) (L := L) (a := 1) (tp := f) (show _ = oMod ac (nI L) la (nI 1) il mn rs tb ve oa lm from hu_s _ _ _) (show _ = aI 90 f from g37) hL (by omega) (l := 48) (m := 57) (lo := 49) (hi := 56)) rfl rfl ⟨Nat.le_of_ble_eq_true rfl, Nat.le_of_ble_eq_true rfl⟩ (Nat.le_of_ble_eq_true rfl)  ?_
      rw [hu_hu, em, tok]
      refine a_istore_n d_Mod_reads_89 (Nat.le_of_ble_eq_true rfl) (Nat.le_of_ble_eq_true rfl) rfl ?_
      refine a_iinc d_Mod_reads_90 rfl (by decide : (0 : Int32) + 1 = 1) (Nat.le_of_ble_eq_true rfl) rfl ?_
      refine a_goto 35 d_Mod_reads_93 (by decide) ?_
      exact E_rd35 hn
set_option maxRecDepth 20000 in
set_option maxHeartbeats 4000000 in
theorem s_Mod_reads {ac la il mn : Int32} {rs : Int64} {tb ve oa lm : Int32} {L : Nat} {f : Nat → Int32} (g37 : h 37 = aI 90 f) (hL : L ≤ 90) {ra : Int32} {rd : Nat → Int32} (g32 : h 32 = oMod ac (nI L) la ra il mn rs tb ve oa lm) (g38 : h 38 = aI 68 rd) : ∃ rd', (rdN f L = 0 → Rd f L rd') ∧ AMet V i_Mod_reads 4 [.ref 32] h n z (some (.int (nI (rdN f L)))) (hu (hu h 38 (aI 68 rd')) 32 (oMod ac (nI L) la (nI (rdP f L)) il mn rs tb ve oa lm)) n z := by
  have p0 : Pre f 0 := fun k hk => absurd hk (Nat.not_lt_zero k)
  have RZ := L_rz (V := V) (h := h) (n := n) (z := z) (ac := ac) (la := la) (il := il) (mn := mn) (rs := rs) (tb := tb) (ve := ve) (oa := oa) (lm := lm) g37 hL (rd := rd) 68 0 (by omega)
  have e0 : hu h 32 (oMod ac (nI L) la (nI 0) il mn rs tb ve oa lm) = (hu (hu h 38 (aI 68 (pt rd 0 0 (fun _ => 0)))) 32 (oMod ac (nI L) la (nI 0) il mn rs tb ve oa lm)) := by rw [pt_zero, hu_same g38]
  have rz : ∀ i, i < 68 → (pt rd 0 68 (fun _ => 0)) i = 0 := fun i hi => by
    have := pt_in (f := rd) (s := 0) (m := 68) (g := fun _ => 0) hi
    rwa [Nat.zero_add] at this
  have R1 : Rd f 1 (pt rd 0 68 (fun _ => 0)) := fun i hi => by
    rw [rz i hi, (rdQ_h (f := f) (a := 0) (by omega)).1, if_neg (by decide), if_neg (by decide)]
    unfold stF
    simp only
    repeat' split
    all_goals first | rfl | (rename_i q; rw [show (rdQ f 0).2.2 = 0 from rfl, lb_0] at q; cases q) | skip
  by_cases hf : tF_ f L 0 = 0
  · obtain ⟨cl, cf, p1⟩ := tF_ok p0 hf
    obtain ⟨rd', g, M⟩ := L_rd35a (V := V) (h := h) (n := n) (z := z) (ac := ac) (la := la) (il := il) (mn := mn) (rs := rs) (tb := tb) (ve := ve) (oa := oa) (lm := lm) g37 hL p1 (by omega) R1
    refine ⟨rd', g, ?_⟩
    have em : (if mDue L 0 f 100 100 100 100 = 0 then 0 + 1 else 0) = 1 := if_pos (tok_0.trans hf)
    have ev : nI (mDue L 0 f 100 100 100 100) = 0 := by rw [tok_0, hf]; rfl
    refine AMet.intro (Nat.le_refl _) (Nat.le_refl _) (by decide) (Nat.le_of_ble_eq_true rfl) rfl ?_
    refine a_aload_n d_Mod_reads_0 rfl ?_
    refine a_iconst (v := 0) d_Mod_reads_1 (by decide) ?_
    refine a_putf d_Mod_reads_2 f_Mod_81 rfl g32 (Nat.le_of_ble_eq_true rfl) rfl rfl ?_
    refine a_iconst (v := 0) d_Mod_reads_5 (by decide) ?_
    refine a_istore_n d_Mod_reads_6 (Nat.le_of_ble_eq_true rfl) (Nat.le_of_ble_eq_true rfl) rfl ?_
    refine a_eq rfl rfl rfl e0 rfl rfl (RZ.use ?_)
    refine a_aload_n d_Mod_reads_26 rfl ?_
    refine a_bipush (v := 100) d_Mod_reads_27 (by decide) ?_
    refine a_cv0 (a := 32) d_Mod_reads_29 m_Mod_sign t_Mod_sign l_Mod_88 (show _ = oMod ac (nI L) la (nI 0) il mn rs tb ve oa lm from hu_s _ _ _) rfl rfl (s_signX (h := (hu (hu h 38 (aI 68 (pt rd 0 68 (fun _ => 0)))) 32 (oMod ac (nI L) la (nI 0) il mn rs tb ve oa lm))) (L := L) (a := 0) (tp := f) (show _ = oMod ac (nI L) la (nI 0) il mn rs tb ve oa lm from hu_s _ _ _) (show _ = aI 90 f from g37) hL (by omega) (c := 100)) rfl rfl ⟨Nat.le_of_ble_eq_true rfl, Nat.le_of_ble_eq_true rfl⟩ (Nat.le_of_ble_eq_true rfl)  ?_
    rw [hu_hu, em, ev]
    refine a_istore_n d_Mod_reads_32 (Nat.le_of_ble_eq_true rfl) (Nat.le_of_ble_eq_true rfl) rfl ?_
    refine a_iconst (v := 0) d_Mod_reads_33 (by decide) ?_
    refine a_istore_n d_Mod_reads_34 (Nat.le_of_ble_eq_true rfl) (Nat.le_of_ble_eq_true rfl) rfl ?_
    exact M
  · skip
    have hn : ¬ nI (tF_ f L 0) = 0 := nI_ne0 (by omega) (by have := tFb f L 0; omega)
    obtain ⟨f1, f2⟩ := tF_bad p0 (by omega) (Or.inl (by omega)) hf
    refine ⟨(pt rd 0 68 (fun _ => 0)), fun q => absurd (f2.symm.trans q) hf, ?_⟩
    rw [f1, f2]
    have em : (if mDue L 0 f 100 100 100 100 = 0 then 0 + 1 else 0) = 0 := if_neg (fun q => hf (tok_0.symm.trans q))
    refine AMet.intro (Nat.le_refl _) (Nat.le_refl _) (by decide) (Nat.le_of_ble_eq_true rfl) rfl ?_
    refine a_aload_n d_Mod_reads_0 rfl ?_
    refine a_iconst (v := 0) d_Mod_reads_1 (by decide) ?_
    refine a_putf d_Mod_reads_2 f_Mod_81 rfl g32 (Nat.le_of_ble_eq_true rfl) rfl rfl ?_
    refine a_iconst (v := 0) d_Mod_reads_5 (by decide) ?_
    refine a_istore_n d_Mod_reads_6 (Nat.le_of_ble_eq_true rfl) (Nat.le_of_ble_eq_true rfl) rfl ?_
    refine a_eq rfl rfl rfl e0 rfl rfl (RZ.use ?_)
    refine a_aload_n d_Mod_reads_26 rfl ?_
    refine a_bipush (v := 100) d_Mod_reads_27 (by decide) ?_
    refine a_cv0 (a := 32) d_Mod_reads_29 m_Mod_sign t_Mod_sign l_Mod_88 (show _ = oMod ac (nI L) la (nI 0) il mn rs tb ve oa lm from hu_s _ _ _) rfl rfl (s_signX (h := (hu (hu h 38 (aI 68 (pt rd 0 68 (fun _ => 0)))) 32 (oMod ac (nI L) la (nI 0) il mn rs tb ve oa lm))) (L := L) (a := 0) (tp := f) (show _ = oMod ac (nI L) la (nI 0) il mn rs tb ve oa lm from hu_s _ _ _) (show _ = aI 90 f from g37) hL (by omega) (c := 100)) rfl rfl ⟨Nat.le_of_ble_eq_true rfl, Nat.le_of_ble_eq_true rfl⟩ (Nat.le_of_ble_eq_true rfl)  ?_
    rw [hu_hu, em, tok_0]
    refine a_istore_n d_Mod_reads_32 (Nat.le_of_ble_eq_true rfl) (Nat.le_of_ble_eq_true rfl) rfl ?_
    refine a_iconst (v := 0) d_Mod_reads_33 (by decide) ?_
    refine a_istore_n d_Mod_reads_34 (Nat.le_of_ble_eq_true rfl) (Nat.le_of_ble_eq_true rfl) rfl ?_
    exact E_rd35 hn
end
