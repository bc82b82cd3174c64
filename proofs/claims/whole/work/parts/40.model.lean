/-! THE MODEL, leaves: printed by wip/whole/t40.py -/
abbrev oMod (ac by_ la ra il mn : Int32) (rs : Int64) (tb ve oa lm : Int32) : AC := .inr (11, [.ref 33, .ref 34, .int ac, .ref 35, .ref 36, .ref 37, .int by_, .int la, .ref 38, .int ra, .int il, .int mn, .ref 39, .ref 40, .ref 41, .ref 42, .ref 43, .ref 44, .ref 45, .ref 46, .long rs, .int tb, .ref 47, .ref 48, .int ve, .int oa, .ref 49, .ref 50, .ref 51, .ref 52, .int lm])
def fRg (v lo hi : Int32) : Int32 := if v < lo then 0 else if hi < v then 0 else 1
def fSz (v : Int32) : Int32 := if 0 ≤ v then v else -v
def fSX (d : Int32) : Int32 := if d = 0 then 1 else if d = 2 then -1 else 0
def fSY (d : Int32) : Int32 := if d = 1 then 1 else if d = 3 then -1 else 0
def mGr (a b : Int32) : Int32 := if fSz a ≤ fSz b then fSz b else fSz a
def mDot (W H x y : Int32) : Int32 := if fRg x 0 (W - 1) = 0 then 0 else if fRg y 0 (H - 1) = 0 then 0 else 1
def mRest (W H : Int32) (rs : Int64) (x y : Int32) : Int32 := if mDot W H x y = 0 then 0 else if lg_cmp ((rs >>> ((8 * y + x).toInt64 &&& 63)) &&& 1) 1 = 0 then 1 else 0
def mDX (d sd : Int32) : Int32 := fSX d + sd * fSX ((d + 1) - (d + 1) / 4 * 4)
def mDY (d sd : Int32) : Int32 := fSY d + sd * fSY ((d + 1) - (d + 1) / 4 * 4)
def mBes (W H : Int32) (rs : Int64) (x y d sd : Int32) : Int32 := mRest W H rs (if mDX d sd ≤ 0 then x - 1 else x) (if mDY d sd ≤ 0 then y - 1 else y)
def mTurn (j W H : Int32) (rs : Int64) (x y d : Int32) : Int32 := if mBes W H rs x y d (-1) = mBes W H rs x y d 1 then (if mBes W H rs x y d (-1) = 0 then (d + 1) - (d + 1) / 4 * 4 else (d + 3) - (d + 3) / 4 * 4) else if mBes W H rs x y d 1 = 0 then (if j = 0 then (d + 1) - (d + 1) / 4 * 4 else (d + 3) - (d + 3) / 4 * 4) else d
theorem mRest_01 (W H : Int32) (rs : Int64) (x y : Int32) : mRest W H rs x y = 0 ∨ mRest W H rs x y = 1 := by
  unfold mRest
  repeat' split
  all_goals simp
section
variable {V : VV} {h : AH} {n z : Nat}

set_option maxRecDepth 20000 in
set_option maxHeartbeats 4000000 in
theorem s_Mod_in (v lo hi : Int32) : AMet V i_Mod_in 0 [.int v, .int lo, .int hi] h n z (some (.int (fRg v lo hi))) (h) n z := by
  refine AMet.intro (Nat.le_refl _) (Nat.le_refl _) (by decide) (Nat.le_of_ble_eq_true rfl) rfl ?_
  refine a_iload_n d_Mod_in_0 rfl ?_
  refine a_iload_n d_Mod_in_1 rfl ?_
  refine a_icmp_lt 14 d_Mod_in_2 (by decide) (fun c2 => ?_) (fun c2 => ?_)
  · skip
    refine a_iconst (v := 0) d_Mod_in_14 (by decide) ?_
    exact a_zret d_Mod_in_15 rfl (by decide) (by unfold fRg; rw [if_pos c2]) rfl rfl
  · skip
    refine a_iload_n d_Mod_in_5 rfl ?_
    refine a_iload_n d_Mod_in_6 rfl ?_
    refine a_icmp_gt 14 d_Mod_in_7 (by decide) (fun c7 => ?_) (fun c7 => ?_)
    · skip
      refine a_iconst (v := 0) d_Mod_in_14 (by decide) ?_
      exact a_zret d_Mod_in_15 rfl (by decide) (by unfold fRg; rw [if_neg c2, if_pos c7]) rfl rfl
    · skip
      refine a_iconst (v := 1) d_Mod_in_10 (by decide) ?_
      refine a_goto 15 d_Mod_in_11 (by decide) ?_
      exact a_zret d_Mod_in_15 rfl (by decide) (by unfold fRg; rw [if_neg c2, if_neg c7]) rfl rfl
set_option maxRecDepth 20000 in
set_option maxHeartbeats 4000000 in
theorem s_Mod_size (v : Int32) : AMet V i_Mod_size 0 [.int v] h n z (some (.int (fSz v))) (h) n z := by
  refine AMet.intro (Nat.le_refl _) (Nat.le_refl _) (by decide) (Nat.le_of_ble_eq_true rfl) rfl ?_
  refine a_iload_n d_Mod_size_0 rfl ?_
  refine a_if_ge 9 d_Mod_size_1 (by decide) (fun c1 => ?_) (fun c1 => ?_)
  · skip
    refine a_iload_n d_Mod_size_9 rfl ?_
    exact a_iret d_Mod_size_10 rfl (by unfold fSz; rw [if_pos c1]) rfl rfl
  · skip
    refine a_iload_n d_Mod_size_4 rfl ?_
    refine a_ineg d_Mod_size_5 ?_
    refine a_goto 10 d_Mod_size_6 (by decide) ?_
    exact a_iret d_Mod_size_10 rfl (by unfold fSz; rw [if_neg c1]) rfl rfl
set_option maxRecDepth 20000 in
set_option maxHeartbeats 4000000 in
theorem s_Mod_stepX (d : Int32) : AMet V i_Mod_stepX 0 [.int d] h n z (some (.int (fSX d))) (h) n z := by
  refine AMet.intro (Nat.le_refl _) (Nat.le_refl _) (by decide) (Nat.le_of_ble_eq_true rfl) rfl ?_
  refine a_iload_n d_Mod_stepX_0 rfl ?_
  refine a_if_ne 8 d_Mod_stepX_1 (by decide) (fun c1 => ?_) (fun c1 => ?_)
  · skip
    refine a_iload_n d_Mod_stepX_8 rfl ?_
    refine a_iconst (v := 2) d_Mod_stepX_9 (by decide) ?_
    refine a_icmp_ne 17 d_Mod_stepX_10 (by decide) (fun c10 => ?_) (fun c10 => ?_)
    · skip
      refine a_iconst (v := 0) d_Mod_stepX_17 (by decide) ?_
      exact a_iret d_Mod_stepX_18 rfl (by unfold fSX; rw [if_neg c1, if_neg c10]) rfl rfl
    · skip
      refine a_iconst (v := -1) d_Mod_stepX_13 (by decide) ?_
      refine a_goto 18 d_Mod_stepX_14 (by decide) ?_
      exact a_iret d_Mod_stepX_18 rfl (by unfold fSX; rw [if_neg c1, if_pos c10]) rfl rfl
  · skip
    refine a_iconst (v := 1) d_Mod_stepX_4 (by decide) ?_
    refine a_goto 18 d_Mod_stepX_5 (by decide) ?_
    exact a_iret d_Mod_stepX_18 rfl (by unfold fSX; rw [if_pos c1]) rfl rfl
set_option maxRecDepth 20000 in
set_option maxHeartbeats 4000000 in
theorem s_Mod_stepY (d : Int32) : AMet V i_Mod_stepY 0 [.int d] h n z (some (.int (fSY d))) (h) n z := by
  refine AMet.intro (Nat.le_refl _) (Nat.le_refl _) (by decide) (Nat.le_of_ble_eq_true rfl) rfl ?_
  refine a_iload_n d_Mod_stepY_0 rfl ?_
  refine a_iconst (v := 1) d_Mod_stepY_1 (by decide) ?_
  refine a_icmp_ne 9 d_Mod_stepY_2 (by decide) (fun c2 => ?_) (fun c2 => ?_)
  · skip
    refine a_iload_n d_Mod_stepY_9 rfl ?_
    refine a_iconst (v := 3) d_Mod_stepY_10 (by decide) ?_
    refine a_icmp_ne 18 d_Mod_stepY_11 (by decide) (fun c11 => ?_) (fun c11 => ?_)
    · skip
      refine a_iconst (v := 0) d_Mod_stepY_18 (by decide) ?_
      exact a_iret d_Mod_stepY_19 rfl (by unfold fSY; rw [if_neg c2, if_neg c11]) rfl rfl
    · skip
      refine a_iconst (v := -1) d_Mod_stepY_14 (by decide) ?_
      refine a_goto 19 d_Mod_stepY_15 (by decide) ?_
      exact a_iret d_Mod_stepY_19 rfl (by unfold fSY; rw [if_neg c2, if_pos c11]) rfl rfl
  · skip
    refine a_iconst (v := 1) d_Mod_stepY_5 (by decide) ?_
    refine a_goto 19 d_Mod_stepY_6 (by decide) ?_
    exact a_iret d_Mod_stepY_19 rfl (by unfold fSY; rw [if_pos c2]) rfl rfl
set_option maxRecDepth 20000 in
set_option maxHeartbeats 4000000 in
theorem s_Mod_greater (a b : Int32) : AMet V i_Mod_greater 1 [.int a, .int b] h n z (some (.int (mGr a b))) (h) n z := by
  refine AMet.intro (Nat.le_refl _) (Nat.le_refl _) (by decide) (Nat.le_of_ble_eq_true rfl) rfl ?_
  refine a_iload_n d_Mod_greater_0 rfl ?_
  refine a_cs0 d_Mod_greater_1 m_Mod_size t_Mod_size l_Mod_183 (s_Mod_size _) rfl rfl ⟨Nat.le_of_ble_eq_true rfl, Nat.le_of_ble_eq_true rfl⟩ (Nat.le_of_ble_eq_true rfl)  ?_
  refine a_iload_n d_Mod_greater_4 rfl ?_
  refine a_cs0 d_Mod_greater_5 m_Mod_size t_Mod_size l_Mod_183 (s_Mod_size _) rfl rfl ⟨Nat.le_of_ble_eq_true rfl, Nat.le_of_ble_eq_true rfl⟩ (Nat.le_of_ble_eq_true rfl)  ?_
  refine a_icmp_le 18 d_Mod_greater_8 (by decide) (fun c8 => ?_) (fun c8 => ?_)
  · skip
    refine a_iload_n d_Mod_greater_18 rfl ?_
    refine a_cs0 d_Mod_greater_19 m_Mod_size t_Mod_size l_Mod_183 (s_Mod_size _) rfl rfl ⟨Nat.le_of_ble_eq_true rfl, Nat.le_of_ble_eq_true rfl⟩ (Nat.le_of_ble_eq_true rfl)  ?_
    exact a_iret d_Mod_greater_22 rfl (by unfold mGr; rw [if_pos c8]) rfl rfl
  · skip
    refine a_iload_n d_Mod_greater_11 rfl ?_
    refine a_cs0 d_Mod_greater_12 m_Mod_size t_Mod_size l_Mod_183 (s_Mod_size _) rfl rfl ⟨Nat.le_of_ble_eq_true rfl, Nat.le_of_ble_eq_true rfl⟩ (Nat.le_of_ble_eq_true rfl)  ?_
    refine a_goto 22 d_Mod_greater_15 (by decide) ?_
    exact a_iret d_Mod_greater_22 rfl (by unfold mGr; rw [if_neg c8]) rfl rfl
set_option maxRecDepth 20000 in
set_option maxHeartbeats 4000000 in
theorem s_Mod_isPicture {ac by_ la ra il mn : Int32} {rs : Int64} {tb ve oa lm : Int32} (g32 : h 32 = oMod ac by_ la ra il mn rs tb ve oa lm) {st : Nat → Int32} (g33 : h 33 = aI 68 st) : AMet V i_Mod_isPicture 0 [.ref 32] h n z (some (.int (if st 0 ≤ 0 then 0 else 1))) (h) n z := by
  refine AMet.intro (Nat.le_refl _) (Nat.le_refl _) (by decide) (Nat.le_of_ble_eq_true rfl) rfl ?_
  refine a_aload_n d_Mod_isPicture_0 rfl ?_
  refine a_getf d_Mod_isPicture_1 f_Mod_7 g32 rfl ?_
  refine a_iconst (v := 0) d_Mod_isPicture_4 (by decide) ?_
  refine a_iald d_Mod_isPicture_5 g33 (nI_in (c := 0) (N := 68) (by decide) (by decide)) ?_
  refine a_if_le 13 d_Mod_isPicture_6 (by decide) (fun c6 => ?_) (fun c6 => ?_)
  · skip
    refine a_iconst (v := 0) d_Mod_isPicture_13 (by decide) ?_
    exact a_zret d_Mod_isPicture_14 rfl (by decide) (by first | (rw [if_pos c6]; done) | (rw [if_neg c6]; done) | (simp_all; done)) rfl rfl
  · skip
    refine a_iconst (v := 1) d_Mod_isPicture_9 (by decide) ?_
    refine a_goto 14 d_Mod_isPicture_10 (by decide) ?_
    exact a_zret d_Mod_isPicture_14 rfl (by decide) (by first | (rw [if_pos c6]; done) | (rw [if_neg c6]; done) | (simp_all; done)) rfl rfl
set_option maxRecDepth 20000 in
set_option maxHeartbeats 4000000 in
theorem s_Mod_isDot {ac by_ la ra il mn : Int32} {rs : Int64} {tb ve oa lm : Int32} (g32 : h 32 = oMod ac by_ la ra il mn rs tb ve oa lm) {st : Nat → Int32} (g33 : h 33 = aI 68 st) (x y : Int32) : AMet V i_Mod_isDot 1 [.ref 32, .int x, .int y] h n z (some (.int (mDot (st 0) (st 1) x y))) (h) n z := by
  refine AMet.intro (Nat.le_refl _) (Nat.le_refl _) (by decide) (Nat.le_of_ble_eq_true rfl) rfl ?_
  refine a_iload_n d_Mod_isDot_0 rfl ?_
  refine a_iconst (v := 0) d_Mod_isDot_1 (by decide) ?_
  refine a_aload_n d_Mod_isDot_2 rfl ?_
  refine a_getf d_Mod_isDot_3 f_Mod_7 g32 rfl ?_
  refine a_iconst (v := 0) d_Mod_isDot_6 (by decide) ?_
  refine a_iald d_Mod_isDot_7 g33 (nI_in (c := 0) (N := 68) (by decide) (by decide)) ?_
  refine a_iconst (v := 1) d_Mod_isDot_8 (by decide) ?_
  refine a_isub d_Mod_isDot_9 ?_
  refine a_cs0 d_Mod_isDot_10 m_Mod_in t_Mod_in l_Mod_71 (s_Mod_in x 0 (st 0 - 1)) rfl rfl ⟨Nat.le_of_ble_eq_true rfl, Nat.le_of_ble_eq_true rfl⟩ (Nat.le_of_ble_eq_true rfl)  ?_
  refine a_if_eq 36 d_Mod_isDot_13 (by decide) (fun c13 => ?_) (fun c13 => ?_)
  · skip
    refine a_iconst (v := 0) d_Mod_isDot_36 (by decide) ?_
    exact a_zret d_Mod_isDot_37 rfl (by decide) (by unfold mDot; rw [if_pos c13]) rfl rfl
  · skip
    refine a_iload_n d_Mod_isDot_16 rfl ?_
    refine a_iconst (v := 0) d_Mod_isDot_17 (by decide) ?_
    refine a_aload_n d_Mod_isDot_18 rfl ?_
    refine a_getf d_Mod_isDot_19 f_Mod_7 g32 rfl ?_
    refine a_iconst (v := 1) d_Mod_isDot_22 (by decide) ?_
    refine a_iald d_Mod_isDot_23 g33 (nI_in (c := 1) (N := 68) (by decide) (by decide)) ?_
    refine a_iconst (v := 1) d_Mod_isDot_24 (by decide) ?_
    refine a_isub d_Mod_isDot_25 ?_
    refine a_cs0 d_Mod_isDot_26 m_Mod_in t_Mod_in l_Mod_71 (s_Mod_in y 0 (st 1 - 1)) rfl rfl ⟨Nat.le_of_ble_eq_true rfl, Nat.le_of_ble_eq_true rfl⟩ (Nat.le_of_ble_eq_true rfl)  ?_
    refine a_if_eq 36 d_Mod_isDot_29 (by decide) (fun c29 => ?_) (fun c29 => ?_)
    · skip
      refine a_iconst (v := 0) d_Mod_isDot_36 (by decide) ?_
      exact a_zret d_Mod_isDot_37 rfl (by decide) (by unfold mDot; rw [if_neg c13, if_pos c29]) rfl rfl
    · skip
      refine a_iconst (v := 1) d_Mod_isDot_32 (by decide) ?_
      refine a_goto 37 d_Mod_isDot_33 (by decide) ?_
      exact a_zret d_Mod_isDot_37 rfl (by decide) (by unfold mDot; rw [if_neg c13, if_neg c29]) rfl rfl
set_option maxRecDepth 20000 in
set_option maxHeartbeats 4000000 in
theorem s_Mod_fault {ac by_ la ra il mn : Int32} {rs : Int64} {tb ve oa lm : Int32} (g32 : h 32 = oMod ac by_ la ra il mn rs tb ve oa lm) : AMet V i_Mod_fault 0 [.ref 32] h n z (some (.int la)) (h) n z := by
  refine AMet.intro (Nat.le_refl _) (Nat.le_refl _) (by decide) (Nat.le_of_ble_eq_true rfl) rfl ?_
  refine a_aload_n d_Mod_fault_0 rfl ?_
  refine a_getf d_Mod_fault_1 f_Mod_99 g32 rfl ?_
  exact a_iret d_Mod_fault_4 rfl rfl rfl rfl
set_option maxRecDepth 20000 in
set_option maxHeartbeats 4000000 in
theorem s_Mod_adds {ac by_ la ra il mn : Int32} {rs : Int64} {tb ve oa : Int32} {k : Nat} (g32 : h 32 = oMod ac by_ la ra il mn rs tb ve oa (nI k)) {lx ly : Nat → Int32} (g51 : h 51 = aI 600 lx) (g52 : h 52 = aI 600 ly) (hk : k < 600) (x y : Int32) : AMet V i_Mod_adds 0 [.ref 32, .int x, .int y] h n z (none) (hu (hu (hu h 51 (aI 600 (upd lx k x))) 52 (aI 600 (upd ly k y))) 32 (oMod ac by_ la ra il mn rs tb ve oa (nI (k + 1)))) n z := by
  refine AMet.intro (Nat.le_refl _) (Nat.le_refl _) (by decide) (Nat.le_of_ble_eq_true rfl) rfl ?_
  refine a_aload_n d_Mod_adds_0 rfl ?_
  refine a_getf d_Mod_adds_1 f_Mod_65 g32 rfl ?_
  refine a_aload_n d_Mod_adds_4 rfl ?_
  refine a_getf d_Mod_adds_5 f_Mod_241 g32 rfl ?_
  refine a_iload_n d_Mod_adds_8 rfl ?_
  refine a_iast d_Mod_adds_9 g51 (nI_in hk (by decide)) ?_
  refine a_aload_n d_Mod_adds_10 rfl ?_
  refine a_getf d_Mod_adds_11 f_Mod_68 g32 rfl ?_
  refine a_aload_n d_Mod_adds_14 rfl ?_
  refine a_getf d_Mod_adds_15 f_Mod_241 g32 rfl ?_
  refine a_iload_n d_Mod_adds_18 rfl ?_
  refine a_iast d_Mod_adds_19 g52 (nI_in hk (by decide)) ?_
  refine a_aload_n d_Mod_adds_20 rfl ?_
  refine a_dup d_Mod_adds_21 rfl ?_
  refine a_getf d_Mod_adds_22 f_Mod_241 g32 rfl ?_
  refine a_iconst (v := 1) d_Mod_adds_25 (by decide) ?_
  refine a_iadd d_Mod_adds_26 ?_
  refine a_putf d_Mod_adds_27 f_Mod_241 rfl g32 (Nat.le_of_ble_eq_true rfl) rfl rfl ?_
  exact a_vret d_Mod_adds_30 rfl rfl (by rw [nI_clamp (by omega), nI_1]; rfl) rfl
set_option maxRecDepth 20000 in
set_option maxHeartbeats 4000000 in
theorem s_Mod_isRest {ac by_ la ra il mn : Int32} {rs : Int64} {tb ve oa lm : Int32} (g32 : h 32 = oMod ac by_ la ra il mn rs tb ve oa lm) {st : Nat → Int32} (g33 : h 33 = aI 68 st) (x y : Int32) : AMet V i_Mod_isRest 2 [.ref 32, .int x, .int y] h n z (some (.int (mRest (st 0) (st 1) rs x y))) (h) n z := by
  refine AMet.intro (Nat.le_refl _) (Nat.le_refl _) (by decide) (Nat.le_of_ble_eq_true rfl) rfl ?_
  refine a_aload_n d_Mod_isRest_0 rfl ?_
  refine a_iload_n d_Mod_isRest_1 rfl ?_
  refine a_iload_n d_Mod_isRest_2 rfl ?_
  refine a_cv0 (a := 32) d_Mod_isRest_3 m_Mod_isDot t_Mod_isDot l_Mod_118 g32 rfl rfl (s_Mod_isDot g32 g33 x y) rfl rfl ⟨Nat.le_of_ble_eq_true rfl, Nat.le_of_ble_eq_true rfl⟩ (Nat.le_of_ble_eq_true rfl)  ?_
  refine a_if_eq 31 d_Mod_isRest_6 (by decide) (fun c6 => ?_) (fun c6 => ?_)
  · skip
    refine a_iconst (v := 0) d_Mod_isRest_31 (by decide) ?_
    exact a_zret d_Mod_isRest_32 rfl (by decide) (by unfold mRest; rw [if_pos c6]) rfl rfl
  · skip
    refine a_aload_n d_Mod_isRest_9 rfl ?_
    refine a_getf d_Mod_isRest_10 f_Mod_132 g32 rfl ?_
    refine a_bipush (v := 8) d_Mod_isRest_13 (by decide) ?_
    refine a_iload_n d_Mod_isRest_15 rfl ?_
    refine a_imul d_Mod_isRest_16 ?_
    refine a_iload_n d_Mod_isRest_17 rfl ?_
    refine a_iadd d_Mod_isRest_18 ?_
    refine a_lshr d_Mod_isRest_19 ?_
    refine a_lconst (v := 1) d_Mod_isRest_20 rfl ?_
    refine a_land d_Mod_isRest_21 ?_
    refine a_lconst (v := 1) d_Mod_isRest_22 rfl ?_
    refine a_lcmp d_Mod_isRest_23 ?_
    refine a_if_ne 31 d_Mod_isRest_24 (by decide) (fun c24 => ?_) (fun c24 => ?_)
    · skip
      refine a_iconst (v := 0) d_Mod_isRest_31 (by decide) ?_
      exact a_zret d_Mod_isRest_32 rfl (by decide) (by unfold mRest; rw [if_neg c6, if_neg c24]) rfl rfl
    · skip
      refine a_iconst (v := 1) d_Mod_isRest_27 (by decide) ?_
      refine a_goto 32 d_Mod_isRest_28 (by decide) ?_
      exact a_zret d_Mod_isRest_32 rfl (by decide) (by unfold mRest; rw [if_neg c6, if_pos c24]) rfl rfl
set_option maxRecDepth 20000 in
set_option maxHeartbeats 4000000 in
theorem s_Mod_isBeside {ac by_ la ra il mn : Int32} {rs : Int64} {tb ve oa lm : Int32} (g32 : h 32 = oMod ac by_ la ra il mn rs tb ve oa lm) {st : Nat → Int32} (g33 : h 33 = aI 68 st) (x y d sd : Int32) : AMet V i_Mod_isBeside 3 [.ref 32, .int x, .int y, .int d, .int sd] h n z (some (.int (mBes (st 0) (st 1) rs x y d sd))) (h) n z := by
  refine AMet.intro (Nat.le_refl _) (Nat.le_refl _) (by decide) (Nat.le_of_ble_eq_true rfl) rfl ?_
  refine a_iload_n d_Mod_isBeside_0 rfl ?_
  refine a_cs0 d_Mod_isBeside_1 m_Mod_stepX t_Mod_stepX l_Mod_136 (s_Mod_stepX _) rfl rfl ⟨Nat.le_of_ble_eq_true rfl, Nat.le_of_ble_eq_true rfl⟩ (Nat.le_of_ble_eq_true rfl)  ?_
  refine a_iload d_Mod_isBeside_4 rfl ?_
  refine a_iload_n d_Mod_isBeside_6 rfl ?_
  refine a_iconst (v := 1) d_Mod_isBeside_7 (by decide) ?_
  refine a_iadd d_Mod_isBeside_8 ?_
  refine a_iconst (v := 4) d_Mod_isBeside_9 (by decide) ?_
  refine a_irem d_Mod_isBeside_10 (by decide) ?_
  refine a_cs0 d_Mod_isBeside_11 m_Mod_stepX t_Mod_stepX l_Mod_136 (s_Mod_stepX _) rfl rfl ⟨Nat.le_of_ble_eq_true rfl, Nat.le_of_ble_eq_true rfl⟩ (Nat.le_of_ble_eq_true rfl)  ?_
  refine a_imul d_Mod_isBeside_14 ?_
  refine a_iadd d_Mod_isBeside_15 ?_
  rw [show fSX d + sd * fSX ((d + 1) - (d + 1) / 4 * 4) = mDX d sd from rfl]
  refine a_istore d_Mod_isBeside_16 (Nat.le_of_ble_eq_true rfl) (Nat.le_of_ble_eq_true rfl) rfl ?_
  refine a_iload_n d_Mod_isBeside_18 rfl ?_
  refine a_cs0 d_Mod_isBeside_19 m_Mod_stepY t_Mod_stepY l_Mod_139 (s_Mod_stepY _) rfl rfl ⟨Nat.le_of_ble_eq_true rfl, Nat.le_of_ble_eq_true rfl⟩ (Nat.le_of_ble_eq_true rfl)  ?_
  refine a_iload d_Mod_isBeside_22 rfl ?_
  refine a_iload_n d_Mod_isBeside_24 rfl ?_
  refine a_iconst (v := 1) d_Mod_isBeside_25 (by decide) ?_
  refine a_iadd d_Mod_isBeside_26 ?_
  refine a_iconst (v := 4) d_Mod_isBeside_27 (by decide) ?_
  refine a_irem d_Mod_isBeside_28 (by decide) ?_
  refine a_cs0 d_Mod_isBeside_29 m_Mod_stepY t_Mod_stepY l_Mod_139 (s_Mod_stepY _) rfl rfl ⟨Nat.le_of_ble_eq_true rfl, Nat.le_of_ble_eq_true rfl⟩ (Nat.le_of_ble_eq_true rfl)  ?_
  refine a_imul d_Mod_isBeside_32 ?_
  refine a_iadd d_Mod_isBeside_33 ?_
  rw [show fSY d + sd * fSY ((d + 1) - (d + 1) / 4 * 4) = mDY d sd from rfl]
  refine a_istore d_Mod_isBeside_34 (Nat.le_of_ble_eq_true rfl) (Nat.le_of_ble_eq_true rfl) rfl ?_
  refine a_aload_n d_Mod_isBeside_36 rfl ?_
  refine a_iload d_Mod_isBeside_37 rfl ?_
  refine a_if_le 46 d_Mod_isBeside_39 (by decide) (fun c39 => ?_) (fun c39 => ?_)
  · skip
    refine a_iload_n d_Mod_isBeside_46 rfl ?_
    refine a_iconst (v := 1) d_Mod_isBeside_47 (by decide) ?_
    refine a_isub d_Mod_isBeside_48 ?_
    refine a_iload d_Mod_isBeside_49 rfl ?_
    refine a_if_le 58 d_Mod_isBeside_51 (by decide) (fun c51 => ?_) (fun c51 => ?_)
    · skip
      refine a_iload_n d_Mod_isBeside_58 rfl ?_
      refine a_iconst (v := 1) d_Mod_isBeside_59 (by decide) ?_
      refine a_isub d_Mod_isBeside_60 ?_
      refine a_cv0 (a := 32) d_Mod_isBeside_61 m_Mod_isRest t_Mod_isRest l_Mod_142 g32 rfl rfl (s_Mod_isRest g32 g33 _ _) rfl rfl ⟨Nat.le_of_ble_eq_true rfl, Nat.le_of_ble_eq_true rfl⟩ (Nat.le_of_ble_eq_true rfl)  ?_
      exact a_zret d_Mod_isBeside_64 rfl (mRest_01 _ _ _ _ _) (by unfold mBes; rw [if_pos c39, if_pos c51]) rfl rfl
    · skip
      refine a_iload_n d_Mod_isBeside_54 rfl ?_
      refine a_goto 61 d_Mod_isBeside_55 (by decide) ?_
      refine a_cv0 (a := 32) d_Mod_isBeside_61 m_Mod_isRest t_Mod_isRest l_Mod_142 g32 rfl rfl (s_Mod_isRest g32 g33 _ _) rfl rfl ⟨Nat.le_of_ble_eq_true rfl, Nat.le_of_ble_eq_true rfl⟩ (Nat.le_of_ble_eq_true rfl)  ?_
      exact a_zret d_Mod_isBeside_64 rfl (mRest_01 _ _ _ _ _) (by unfold mBes; rw [if_pos c39, if_neg c51]) rfl rfl
  · skip
    refine a_iload_n d_Mod_isBeside_42 rfl ?_
    refine a_goto 49 d_Mod_isBeside_43 (by decide) ?_
    refine a_iload d_Mod_isBeside_49 rfl ?_
    refine a_if_le 58 d_Mod_isBeside_51 (by decide) (fun c51 => ?_) (fun c51 => ?_)
    · skip
      refine a_iload_n d_Mod_isBeside_58 rfl ?_
      refine a_iconst (v := 1) d_Mod_isBeside_59 (by decide) ?_
      refine a_isub d_Mod_isBeside_60 ?_
      refine a_cv0 (a := 32) d_Mod_isBeside_61 m_Mod_isRest t_Mod_isRest l_Mod_142 g32 rfl rfl (s_Mod_isRest g32 g33 _ _) rfl rfl ⟨Nat.le_of_ble_eq_true rfl, Nat.le_of_ble_eq_true rfl⟩ (Nat.le_of_ble_eq_true rfl)  ?_
      exact a_zret d_Mod_isBeside_64 rfl (mRest_01 _ _ _ _ _) (by unfold mBes; rw [if_neg c39, if_pos c51]) rfl rfl
    · skip
      refine a_iload_n d_Mod_isBeside_54 rfl ?_
      refine a_goto 61 d_Mod_isBeside_55 (by decide) ?_
      refine a_cv0 (a := 32) d_Mod_isBeside_61 m_Mod_isRest t_Mod_isRest l_Mod_142 g32 rfl rfl (s_Mod_isRest g32 g33 _ _) rfl rfl ⟨Nat.le_of_ble_eq_true rfl, Nat.le_of_ble_eq_true rfl⟩ (Nat.le_of_ble_eq_true rfl)  ?_
      exact a_zret d_Mod_isBeside_64 rfl (mRest_01 _ _ _ _ _) (by unfold mBes; rw [if_neg c39, if_neg c51]) rfl rfl
set_option maxRecDepth 20000 in
set_option maxHeartbeats 4000000 in
theorem s_Mod_turns {ac by_ la ra il mn : Int32} {rs : Int64} {tb ve oa lm : Int32} (g32 : h 32 = oMod ac by_ la ra il mn rs tb ve oa lm) {st : Nat → Int32} (g33 : h 33 = aI 68 st) (x y d : Int32) : AMet V i_Mod_turns 4 [.ref 32, .int x, .int y, .int d] h n z (some (.int (mTurn (st 2) (st 0) (st 1) rs x y d))) (h) n z := by
  refine AMet.intro (Nat.le_refl _) (Nat.le_refl _) (by decide) (Nat.le_of_ble_eq_true rfl) rfl ?_
  refine a_aload_n d_Mod_turns_0 rfl ?_
  refine a_iload_n d_Mod_turns_1 rfl ?_
  refine a_iload_n d_Mod_turns_2 rfl ?_
  refine a_iload_n d_Mod_turns_3 rfl ?_
  refine a_iconst (v := -1) d_Mod_turns_4 (by decide) ?_
  refine a_cv0 (a := 32) d_Mod_turns_5 m_Mod_isBeside t_Mod_isBeside l_Mod_145 g32 rfl rfl (s_Mod_isBeside g32 g33 x y d (-1)) rfl rfl ⟨Nat.le_of_ble_eq_true rfl, Nat.le_of_ble_eq_true rfl⟩ (Nat.le_of_ble_eq_true rfl)  ?_
  refine a_istore d_Mod_turns_8 (Nat.le_of_ble_eq_true rfl) (Nat.le_of_ble_eq_true rfl) rfl ?_
  refine a_aload_n d_Mod_turns_10 rfl ?_
  refine a_iload_n d_Mod_turns_11 rfl ?_
  refine a_iload_n d_Mod_turns_12 rfl ?_
  refine a_iload_n d_Mod_turns_13 rfl ?_
  refine a_iconst (v := 1) d_Mod_turns_14 (by decide) ?_
  refine a_cv0 (a := 32) d_Mod_turns_15 m_Mod_isBeside t_Mod_isBeside l_Mod_145 g32 rfl rfl (s_Mod_isBeside g32 g33 x y d 1) rfl rfl ⟨Nat.le_of_ble_eq_true rfl, Nat.le_of_ble_eq_true rfl⟩ (Nat.le_of_ble_eq_true rfl)  ?_
  refine a_istore d_Mod_turns_18 (Nat.le_of_ble_eq_true rfl) (Nat.le_of_ble_eq_true rfl) rfl ?_
  refine a_iload d_Mod_turns_20 rfl ?_
  refine a_iload d_Mod_turns_22 rfl ?_
  refine a_icmp_ne 46 d_Mod_turns_24 (by decide) (fun c24 => ?_) (fun c24 => ?_)
  · skip
    refine a_iload d_Mod_turns_46 rfl ?_
    refine a_if_eq 53 d_Mod_turns_48 (by decide) (fun c48 => ?_) (fun c48 => ?_)
    · skip
      refine a_aload_n d_Mod_turns_53 rfl ?_
      refine a_getf d_Mod_turns_54 f_Mod_7 g32 rfl ?_
      refine a_iconst (v := 2) d_Mod_turns_57 (by decide) ?_
      refine a_iald d_Mod_turns_58 g33 (nI_in (c := 2) (N := 68) (by decide) (by decide)) ?_
      rw [show (2 : Int32).toNatClampNeg = 2 from by decide]
      refine a_if_ne 70 d_Mod_turns_59 (by decide) (fun c59 => ?_) (fun c59 => ?_)
      · skip
        refine a_iload_n d_Mod_turns_70 rfl ?_
        refine a_iconst (v := 3) d_Mod_turns_71 (by decide) ?_
        refine a_iadd d_Mod_turns_72 ?_
        refine a_iconst (v := 4) d_Mod_turns_73 (by decide) ?_
        refine a_irem d_Mod_turns_74 (by decide) ?_
        exact a_iret d_Mod_turns_75 rfl (by unfold mTurn; rw [if_neg c24, if_pos c48, if_neg c59]) rfl rfl
      · skip
        refine a_iload_n d_Mod_turns_62 rfl ?_
        refine a_iconst (v := 1) d_Mod_turns_63 (by decide) ?_
        refine a_iadd d_Mod_turns_64 ?_
        refine a_iconst (v := 4) d_Mod_turns_65 (by decide) ?_
        refine a_irem d_Mod_turns_66 (by decide) ?_
        refine a_goto 75 d_Mod_turns_67 (by decide) ?_
        exact a_iret d_Mod_turns_75 rfl (by unfold mTurn; rw [if_neg c24, if_pos c48, if_pos c59]) rfl rfl
    · skip
      refine a_iload_n d_Mod_turns_51 rfl ?_
      exact a_iret d_Mod_turns_52 rfl (by unfold mTurn; rw [if_neg c24, if_neg c48]) rfl rfl
  · skip
    refine a_iload d_Mod_turns_27 rfl ?_
    refine a_if_eq 40 d_Mod_turns_29 (by decide) (fun c29 => ?_) (fun c29 => ?_)
    · skip
      refine a_iload_n d_Mod_turns_40 rfl ?_
      refine a_iconst (v := 1) d_Mod_turns_41 (by decide) ?_
      refine a_iadd d_Mod_turns_42 ?_
      refine a_iconst (v := 4) d_Mod_turns_43 (by decide) ?_
      refine a_irem d_Mod_turns_44 (by decide) ?_
      exact a_iret d_Mod_turns_45 rfl (by unfold mTurn; rw [if_pos c24, if_pos c29]) rfl rfl
    · skip
      refine a_iload_n d_Mod_turns_32 rfl ?_
      refine a_iconst (v := 3) d_Mod_turns_33 (by decide) ?_
      refine a_iadd d_Mod_turns_34 ?_
      refine a_iconst (v := 4) d_Mod_turns_35 (by decide) ?_
      refine a_irem d_Mod_turns_36 (by decide) ?_
      refine a_goto 45 d_Mod_turns_37 (by decide) ?_
      exact a_iret d_Mod_turns_45 rfl (by unfold mTurn; rw [if_pos c24, if_neg c29]) rfl rfl
theorem pt_zero {α : Type} (f : Nat → α) (s : Nat) (g : Nat → α) : pt f s 0 g = f := by
  funext j
  unfold pt
  rw [if_neg (by omega)]
theorem pt_step {f : Nat → Int32} {s k : Nat} {g : Nat → Int32} : upd (pt f s k g) (s + k) (g k) = pt f s (k + 1) g := by
  funext j
  by_cases e : j = s + k
  · subst e
    simp only [upd, pt]
    rw [if_pos trivial, if_pos (by omega), show s + k - s = k by omega]
  · simp only [upd, if_neg e, pt]
    by_cases q : s ≤ j ∧ j < s + k
    · rw [if_pos q, if_pos (by omega)]
    · rw [if_neg q, if_neg (by omega)]
set_option maxRecDepth 20000 in
set_option maxHeartbeats 4000000 in
theorem L_bring {p q A B i j m : Nat} {f g : Nat → Int32} (gp : h p = aI A f) (gq : h q = aI B g) (hA : i + m ≤ A) (hB : j + m ≤ B) (hA2 : A < 2 ^ 31) (hB2 : B < 2 ^ 31) (hpq : p ≠ q) : ∀ (r k : Nat), k + r = m → AM V i_Mod_bring 0 n z none (hu h q (aI B (pt g j m (fun t => f (i + t))))) n z 3 [some (.ref p), some (.int (nI i)), some (.ref q), some (.int (nI j)), some (.int (nI m)), some (.int (nI k))] [] (hu h q (aI B (pt g j k (fun t => f (i + t))))) n z := by
  intro r
  induction r with
  | zero =>
    intro k hk
    have e : m = k := by omega
    subst e
    refine a_iload d_Mod_bring_3 rfl ?_
    refine a_iload d_Mod_bring_5 rfl ?_
    refine a_icmp_ge 28 d_Mod_bring_7 (by decide) (fun c7 => ?_) (fun c7 => absurd (Int32.le_refl _) c7)
    exact a_vret d_Mod_bring_28 rfl rfl rfl rfl
  | succ r ih =>
    intro k hk
    have kp : (hu h q (aI B (pt g j k (fun t => f (i + t))))) p = aI A f := by rw [hu_n hpq]; exact gp
    have ea : nI i + nI k = nI (i + k) := nI_add i k
    have eb : nI j + nI k = nI (j + k) := nI_add j k
    refine a_iload d_Mod_bring_3 rfl ?_
    refine a_iload d_Mod_bring_5 rfl ?_
    refine a_icmp_ge 28 d_Mod_bring_7 (by decide) (fun c7 => absurd c7 (nI_ge (show k < m by omega) (by omega))) (fun c7 => ?_)
    refine a_aload_n d_Mod_bring_10 rfl ?_
    refine a_iload_n d_Mod_bring_11 rfl ?_
    refine a_iload d_Mod_bring_12 rfl ?_
    refine a_iadd d_Mod_bring_14 ?_
    refine a_aload_n d_Mod_bring_15 rfl ?_
    refine a_iload_n d_Mod_bring_16 rfl ?_
    refine a_iload d_Mod_bring_17 rfl ?_
    refine a_iadd d_Mod_bring_19 ?_
    rw [ea]
    refine a_iald d_Mod_bring_20 kp (nI_in (show i + k < A by omega) (by omega)) ?_
    rw [eb]
    refine a_iast d_Mod_bring_21 (hu_s _ _ _) (nI_in (show j + k < B by omega) (by omega)) ?_
    refine a_iinc d_Mod_bring_22 rfl (nI_1 k) (Nat.le_of_ble_eq_true rfl) rfl ?_
    refine a_goto 3 d_Mod_bring_25 (by decide) ?_
    refine a_eq rfl rfl rfl ?_ rfl rfl (ih (k + 1) (by omega))
    rw [hu_hu, nI_clamp (by omega), nI_clamp (by omega), pt_step]
theorem s_bring {p q A B i j m : Nat} {f g : Nat → Int32} (gp : h p = aI A f) (gq : h q = aI B g) (hA : i + m ≤ A) (hB : j + m ≤ B) (hA2 : A < 2 ^ 31) (hB2 : B < 2 ^ 31) (hpq : p ≠ q) : AMet V i_Mod_bring 0 [.ref p, .int (nI i), .ref q, .int (nI j), .int (nI m)] h n z none (hu h q (aI B (pt g j m (fun t => f (i + t))))) n z := by
  refine AMet.intro (Nat.le_refl _) (Nat.le_refl _) (by decide) (Nat.le_of_ble_eq_true rfl) rfl ?_
  refine a_iconst (v := 0) d_Mod_bring_0 (by decide) ?_
  refine a_istore d_Mod_bring_1 (Nat.le_of_ble_eq_true rfl) (Nat.le_of_ble_eq_true rfl) rfl ?_
  have e0 : h = hu h q (aI B (pt g j 0 (fun t => f (i + t)))) := by rw [pt_zero]; exact (hu_same gq).symm
  refine a_eq rfl rfl rfl e0 rfl rfl (L_bring gp gq hA hB hA2 hB2 hpq m 0 (by omega))
end
