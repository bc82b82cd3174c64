/-! LEAVES of the class: printed by wip/whole/t11.py -/
abbrev aI (N : Nat) (f : Nat → Int32) : AC := .inl (N, .inl f)
abbrev aL (N : Nat) (f : Nat → Int64) : AC := .inl (N, .inr (.inl f))
abbrev aQ (N : Nat) (f : Nat → Option Nat) : AC := .inl (N, .inr (.inr (.inr (.inr f))))
abbrev oBrd (st ln fi : Int32) (wi : Int64) (me ve bo : Int32) : AC := .inr (2, [.int st, .int ln, .int fi, .long wi, .int me, .int ve, .int bo])
abbrev oPic (pw ph : Int32) (pd : Int64) (pj ps : Int32) : AC := .inr (5, [.int pw, .int ph, .long pd, .int pj, .int ps])
abbrev oTap (L : Int32) : AC := .inr (9, [.ref 10, .int L])
abbrev oAct (k : Int32) : AC := .inr (0, [.ref 16, .ref 17, .ref 18, .int k])
abbrev oBend (ux uy vx vy wx wy : Int32) : AC := .inr (1, [.int ux, .int uy, .int vx, .int vy, .int wx, .int wy])
section
variable {V : VV} {h : AH} {n z : Nat}
def ush (x : Int64) (k : Int32) : Int64 := (x.toUInt64 >>> (k.toInt64.toUInt64 &&& Int64.toUInt64 63)).toInt64
def bc1 (x : Int64) : Int64 := x - (ush x 1 &&& 6148914691236517205)
def bc2 (x : Int64) : Int64 := (x &&& 3689348814741910323) + (ush x 2 &&& 3689348814741910323)
def bc3 (x : Int64) : Int64 := (x + ush x 4) &&& 1085102592571150095
def bc4 (x : Int64) (k : Int32) : Int64 := x + ush x k
def fBC (x : Int64) : Int32 := (bc4 (bc4 (bc4 (bc3 (bc2 (bc1 x))) 8) 16) 32).toInt32 &&& 127

set_option maxRecDepth 20000 in
set_option maxHeartbeats 4000000 in
theorem s_Lng_bitCount (x : Int64) : AMet V i_Lng_bitCount 0 [.long x] h n z (some (.int (fBC x))) (h) n z := by
  refine AMet.intro (Nat.le_refl _) (Nat.le_refl _) (by decide) (Nat.le_of_ble_eq_true rfl) rfl ?_
  refine a_lload_n d_Lng_bitCount_0 rfl ?_
  refine a_lload_n d_Lng_bitCount_1 rfl ?_
  refine a_iconst (v := 1) d_Lng_bitCount_2 (by decide) ?_
  refine a_lushr d_Lng_bitCount_3 ?_
  refine a_ldc2 d_Lng_bitCount_4 k_Lng_314 ?_
  refine a_land d_Lng_bitCount_7 ?_
  refine a_lsub d_Lng_bitCount_8 ?_
  refine a_lstore_n d_Lng_bitCount_9 (Nat.le_of_ble_eq_true rfl) (Nat.le_of_ble_eq_true rfl) rfl ?_
  refine a_lload_n d_Lng_bitCount_10 rfl ?_
  refine a_ldc2 d_Lng_bitCount_11 k_Lng_316 ?_
  refine a_land d_Lng_bitCount_14 ?_
  refine a_lload_n d_Lng_bitCount_15 rfl ?_
  refine a_iconst (v := 2) d_Lng_bitCount_16 (by decide) ?_
  refine a_lushr d_Lng_bitCount_17 ?_
  refine a_ldc2 d_Lng_bitCount_18 k_Lng_316 ?_
  refine a_land d_Lng_bitCount_21 ?_
  refine a_ladd d_Lng_bitCount_22 ?_
  refine a_lstore_n d_Lng_bitCount_23 (Nat.le_of_ble_eq_true rfl) (Nat.le_of_ble_eq_true rfl) rfl ?_
  refine a_lload_n d_Lng_bitCount_24 rfl ?_
  refine a_lload_n d_Lng_bitCount_25 rfl ?_
  refine a_iconst (v := 4) d_Lng_bitCount_26 (by decide) ?_
  refine a_lushr d_Lng_bitCount_27 ?_
  refine a_ladd d_Lng_bitCount_28 ?_
  refine a_ldc2 d_Lng_bitCount_29 k_Lng_318 ?_
  refine a_land d_Lng_bitCount_32 ?_
  refine a_lstore_n d_Lng_bitCount_33 (Nat.le_of_ble_eq_true rfl) (Nat.le_of_ble_eq_true rfl) rfl ?_
  refine a_lload_n d_Lng_bitCount_34 rfl ?_
  refine a_lload_n d_Lng_bitCount_35 rfl ?_
  refine a_bipush (v := 8) d_Lng_bitCount_36 (by decide) ?_
  refine a_lushr d_Lng_bitCount_38 ?_
  refine a_ladd d_Lng_bitCount_39 ?_
  refine a_lstore_n d_Lng_bitCount_40 (Nat.le_of_ble_eq_true rfl) (Nat.le_of_ble_eq_true rfl) rfl ?_
  refine a_lload_n d_Lng_bitCount_41 rfl ?_
  refine a_lload_n d_Lng_bitCount_42 rfl ?_
  refine a_bipush (v := 16) d_Lng_bitCount_43 (by decide) ?_
  refine a_lushr d_Lng_bitCount_45 ?_
  refine a_ladd d_Lng_bitCount_46 ?_
  refine a_lstore_n d_Lng_bitCount_47 (Nat.le_of_ble_eq_true rfl) (Nat.le_of_ble_eq_true rfl) rfl ?_
  refine a_lload_n d_Lng_bitCount_48 rfl ?_
  refine a_lload_n d_Lng_bitCount_49 rfl ?_
  refine a_bipush (v := 32) d_Lng_bitCount_50 (by decide) ?_
  refine a_lushr d_Lng_bitCount_52 ?_
  refine a_ladd d_Lng_bitCount_53 ?_
  refine a_lstore_n d_Lng_bitCount_54 (Nat.le_of_ble_eq_true rfl) (Nat.le_of_ble_eq_true rfl) rfl ?_
  refine a_lload_n d_Lng_bitCount_55 rfl ?_
  refine a_l2i d_Lng_bitCount_56 ?_
  refine a_bipush (v := 127) d_Lng_bitCount_57 (by decide) ?_
  refine a_iand d_Lng_bitCount_59 ?_
  exact a_iret d_Lng_bitCount_60 rfl rfl rfl rfl
set_option maxRecDepth 20000 in
set_option maxHeartbeats 4000000 in
theorem s_Grid_bit (x y : Int32) : AMet V i_Grid_bit 0 [.int x, .int y] h n z (some (.long (gBit x y))) (h) n z := by
  refine AMet.intro (Nat.le_refl _) (Nat.le_refl _) (by decide) (Nat.le_of_ble_eq_true rfl) rfl ?_
  refine a_iload_n d_Grid_bit_0 rfl ?_
  refine a_if_lt 20 d_Grid_bit_1 (by decide) (fun c1 => ?_) (fun c1 => ?_)
  · skip
    refine a_lconst (v := 0) d_Grid_bit_20 rfl ?_
    exact a_lret d_Grid_bit_21 rfl (by simp [gBit, c1]) rfl rfl
  · skip
    refine a_iload_n d_Grid_bit_4 rfl ?_
    refine a_bipush (v := 8) d_Grid_bit_5 (by decide) ?_
    refine a_icmp_ge 20 d_Grid_bit_7 (by decide) (fun c7 => ?_) (fun c7 => ?_)
    · skip
      refine a_lconst (v := 0) d_Grid_bit_20 rfl ?_
      exact a_lret d_Grid_bit_21 rfl (by simp [gBit, c1, c7]) rfl rfl
    · skip
      refine a_iload_n d_Grid_bit_10 rfl ?_
      refine a_if_lt 20 d_Grid_bit_11 (by decide) (fun c11 => ?_) (fun c11 => ?_)
      · skip
        refine a_lconst (v := 0) d_Grid_bit_20 rfl ?_
        exact a_lret d_Grid_bit_21 rfl (by simp [gBit, c1, c7, c11]) rfl rfl
      · skip
        refine a_iload_n d_Grid_bit_14 rfl ?_
        refine a_bipush (v := 8) d_Grid_bit_15 (by decide) ?_
        refine a_icmp_lt 22 d_Grid_bit_17 (by decide) (fun c17 => ?_) (fun c17 => ?_)
        · skip
          refine a_lconst (v := 1) d_Grid_bit_22 rfl ?_
          refine a_bipush (v := 8) d_Grid_bit_23 (by decide) ?_
          refine a_iload_n d_Grid_bit_25 rfl ?_
          refine a_imul d_Grid_bit_26 ?_
          refine a_iload_n d_Grid_bit_27 rfl ?_
          refine a_iadd d_Grid_bit_28 ?_
          refine a_lshl d_Grid_bit_29 ?_
          exact a_lret d_Grid_bit_30 rfl (by simp [gBit, c1, c7, c11, c17]) rfl rfl
        · skip
          refine a_lconst (v := 0) d_Grid_bit_20 rfl ?_
          exact a_lret d_Grid_bit_21 rfl (by simp [gBit, c1, c7, c11, c17]) rfl rfl
set_option maxRecDepth 20000 in
set_option maxHeartbeats 4000000 in
theorem s_Grid_rowFrom (x y : Int32) : AMet V i_Grid_rowFrom 0 [.int x, .int y] h n z (some (.long (gRow x y))) (h) n z := by
  refine AMet.intro (Nat.le_refl _) (Nat.le_refl _) (by decide) (Nat.le_of_ble_eq_true rfl) rfl ?_
  refine a_iload_n d_Grid_rowFrom_0 rfl ?_
  refine a_if_lt 20 d_Grid_rowFrom_1 (by decide) (fun c1 => ?_) (fun c1 => ?_)
  · skip
    refine a_lconst (v := 0) d_Grid_rowFrom_20 rfl ?_
    exact a_lret d_Grid_rowFrom_21 rfl (by simp [gRow, c1]) rfl rfl
  · skip
    refine a_iload_n d_Grid_rowFrom_4 rfl ?_
    refine a_bipush (v := 8) d_Grid_rowFrom_5 (by decide) ?_
    refine a_icmp_ge 20 d_Grid_rowFrom_7 (by decide) (fun c7 => ?_) (fun c7 => ?_)
    · skip
      refine a_lconst (v := 0) d_Grid_rowFrom_20 rfl ?_
      exact a_lret d_Grid_rowFrom_21 rfl (by simp [gRow, c1, c7]) rfl rfl
    · skip
      refine a_iload_n d_Grid_rowFrom_10 rfl ?_
      refine a_if_lt 20 d_Grid_rowFrom_11 (by decide) (fun c11 => ?_) (fun c11 => ?_)
      · skip
        refine a_lconst (v := 0) d_Grid_rowFrom_20 rfl ?_
        exact a_lret d_Grid_rowFrom_21 rfl (by simp [gRow, c1, c7, c11]) rfl rfl
      · skip
        refine a_iload_n d_Grid_rowFrom_14 rfl ?_
        refine a_bipush (v := 8) d_Grid_rowFrom_15 (by decide) ?_
        refine a_icmp_lt 22 d_Grid_rowFrom_17 (by decide) (fun c17 => ?_) (fun c17 => ?_)
        · skip
          refine a_ldc2 d_Grid_rowFrom_22 k_Grid_9 ?_
          refine a_iload_n d_Grid_rowFrom_25 rfl ?_
          refine a_lshl d_Grid_rowFrom_26 ?_
          refine a_ldc2 d_Grid_rowFrom_27 k_Grid_9 ?_
          refine a_land d_Grid_rowFrom_30 ?_
          refine a_bipush (v := 8) d_Grid_rowFrom_31 (by decide) ?_
          refine a_iload_n d_Grid_rowFrom_33 rfl ?_
          refine a_imul d_Grid_rowFrom_34 ?_
          refine a_lshl d_Grid_rowFrom_35 ?_
          exact a_lret d_Grid_rowFrom_36 rfl (by simp [gRow, c1, c7, c11, c17]) rfl rfl
        · skip
          refine a_lconst (v := 0) d_Grid_rowFrom_20 rfl ?_
          exact a_lret d_Grid_rowFrom_21 rfl (by simp [gRow, c1, c7, c11, c17]) rfl rfl
set_option maxRecDepth 20000 in
set_option maxHeartbeats 4000000 in
theorem s_Grid_columnOf (x : Int32) : AMet V i_Grid_columnOf 0 [.int x] h n z (some (.int (x &&& 7))) (h) n z := by
  refine AMet.intro (Nat.le_refl _) (Nat.le_refl _) (by decide) (Nat.le_of_ble_eq_true rfl) rfl ?_
  refine a_iload_n d_Grid_columnOf_0 rfl ?_
  refine a_bipush (v := 7) d_Grid_columnOf_1 (by decide) ?_
  refine a_iand d_Grid_columnOf_3 ?_
  exact a_iret d_Grid_columnOf_4 rfl rfl rfl rfl
set_option maxRecDepth 20000 in
set_option maxHeartbeats 4000000 in
theorem s_Grid_rowOf (x : Int32) : AMet V i_Grid_rowOf 0 [.int x] h n z (some (.int ((x >>> ((3 : Int32) &&& 31)) &&& 7))) (h) n z := by
  refine AMet.intro (Nat.le_refl _) (Nat.le_refl _) (by decide) (Nat.le_of_ble_eq_true rfl) rfl ?_
  refine a_iload_n d_Grid_rowOf_0 rfl ?_
  refine a_iconst (v := 3) d_Grid_rowOf_1 (by decide) ?_
  refine a_ishr d_Grid_rowOf_2 ?_
  refine a_bipush (v := 7) d_Grid_rowOf_3 (by decide) ?_
  refine a_iand d_Grid_rowOf_5 ?_
  exact a_iret d_Grid_rowOf_6 rfl rfl rfl rfl
set_option maxRecDepth 20000 in
set_option maxHeartbeats 4000000 in
theorem s_Tap_addF {L : Nat} {f : Nat → Int32} (g9 : h 9 = oTap (nI L)) (g10 : h 10 = aI 90 f) (hL : L = 90) (x : Int32) : AMet V i_Tap_add 0 [.ref 9, .int x] h n z (some (.int 0)) (h) n z := by
  subst hL
  refine AMet.intro (Nat.le_refl _) (Nat.le_refl _) (by decide) (Nat.le_of_ble_eq_true rfl) rfl ?_
  refine a_aload_n d_Tap_add_0 rfl ?_
  refine a_getf d_Tap_add_1 f_Tap_13 g9 rfl ?_
  refine a_if_lt 16 d_Tap_add_4 (by decide) (fun c4 => absurd c4 (nI_pos (by omega))) (fun c4 => ?_)
  refine a_aload_n d_Tap_add_7 rfl ?_
  refine a_getf d_Tap_add_8 f_Tap_13 g9 rfl ?_
  refine a_bipush (v := 90) d_Tap_add_11 (by decide) ?_
  refine a_icmp_lt 18 d_Tap_add_13 (by decide) (fun c13 => absurd c13 (nI_nlt (Nat.le_refl 90) (by omega))) (fun c13 => ?_)
  refine a_iconst (v := 0) d_Tap_add_16 (by decide) ?_
  exact a_zret d_Tap_add_17 rfl (by decide) rfl rfl rfl
set_option maxRecDepth 20000 in
set_option maxHeartbeats 4000000 in
theorem s_Tap_add {L : Nat} {f : Nat → Int32} (g9 : h 9 = oTap (nI L)) (g10 : h 10 = aI 90 f) (hL : L < 90) (x : Int32) : AMet V i_Tap_add 0 [.ref 9, .int x] h n z (some (.int 1)) (hu (hu h 10 (aI 90 (upd f L x))) 9 (oTap (nI (L + 1)))) n z := by
  refine AMet.intro (Nat.le_refl _) (Nat.le_refl _) (by decide) (Nat.le_of_ble_eq_true rfl) rfl ?_
  refine a_aload_n d_Tap_add_0 rfl ?_
  refine a_getf d_Tap_add_1 f_Tap_13 g9 rfl ?_
  refine a_if_lt 16 d_Tap_add_4 (by decide) (fun c4 => absurd c4 (nI_pos (by omega))) (fun c4 => ?_)
  refine a_aload_n d_Tap_add_7 rfl ?_
  refine a_getf d_Tap_add_8 f_Tap_13 g9 rfl ?_
  refine a_bipush (v := 90) d_Tap_add_11 (by decide) ?_
  refine a_icmp_lt 18 d_Tap_add_13 (by decide) (fun c13 => ?_) (fun c13 => absurd (nI_lt (b := 90) hL (by omega)) c13)
  refine a_aload_n d_Tap_add_18 rfl ?_
  refine a_getf d_Tap_add_19 f_Tap_9 g9 rfl ?_
  refine a_aload_n d_Tap_add_22 rfl ?_
  refine a_getf d_Tap_add_23 f_Tap_13 g9 rfl ?_
  refine a_iload_n d_Tap_add_26 rfl ?_
  refine a_iast d_Tap_add_27 g10 (vp_in_nI hL (by omega)) ?_
  refine a_aload_n d_Tap_add_28 rfl ?_
  refine a_dup d_Tap_add_29 rfl ?_
  refine a_getf d_Tap_add_30 f_Tap_13 g9 rfl ?_
  refine a_iconst (v := 1) d_Tap_add_33 (by decide) ?_
  refine a_iadd d_Tap_add_34 ?_
  refine a_putf d_Tap_add_35 f_Tap_13 rfl g9 (Nat.le_of_ble_eq_true rfl) rfl rfl ?_
  refine a_iconst (v := 1) d_Tap_add_38 (by decide) ?_
  exact a_zret d_Tap_add_39 rfl (by decide) rfl (by rw [nI_clamp (by omega), nI_1]; rfl) rfl
set_option maxRecDepth 20000 in
set_option maxHeartbeats 4000000 in
theorem s_Tap_letterAt {L : Nat} {f : Nat → Int32} (g9 : h 9 = oTap (nI L)) (g10 : h 10 = aI 90 f) (hL : L ≤ 90) {k : Nat} (hk : k < L) : AMet V i_Tap_letterAt 0 [.ref 9, .int (nI k)] h n z (some (.int (f k))) (h) n z := by
  refine AMet.intro (Nat.le_refl _) (Nat.le_refl _) (by decide) (Nat.le_of_ble_eq_true rfl) rfl ?_
  refine a_iload_n d_Tap_letterAt_0 rfl ?_
  refine a_if_lt 27 d_Tap_letterAt_1 (by decide) (fun c1 => absurd c1 (nI_pos (by omega))) (fun c1 => ?_)
  refine a_iload_n d_Tap_letterAt_4 rfl ?_
  refine a_aload_n d_Tap_letterAt_5 rfl ?_
  refine a_getf d_Tap_letterAt_6 f_Tap_13 g9 rfl ?_
  refine a_icmp_ge 27 d_Tap_letterAt_9 (by decide) (fun c9 => absurd c9 (nI_ge hk (by omega))) (fun c9 => ?_)
  refine a_iload_n d_Tap_letterAt_12 rfl ?_
  refine a_bipush (v := 90) d_Tap_letterAt_13 (by decide) ?_
  refine a_icmp_ge 27 d_Tap_letterAt_15 (by decide) (fun c15 => absurd c15 (nI_ge (b := 90) (show k < 90 by omega) (by omega))) (fun c15 => ?_)
  refine a_aload_n d_Tap_letterAt_18 rfl ?_
  refine a_getf d_Tap_letterAt_19 f_Tap_9 g9 rfl ?_
  refine a_iload_n d_Tap_letterAt_22 rfl ?_
  refine a_iald d_Tap_letterAt_23 g10 (vp_in_nI (by omega) (by omega)) ?_
  refine a_goto 28 d_Tap_letterAt_24 (by decide) ?_
  exact a_iret d_Tap_letterAt_28 rfl (by rw [nI_clamp (by omega)]) rfl rfl
def fHas (pw ph x y : Int32) : Int32 := if x < 0 then 0 else if pw ≤ x then 0 else if y < 0 then 0 else if ph ≤ y then 0 else 1
def fDark (d : Int64) (x y : Int32) : Int32 := if d &&& gBit x y = 0 then 0 else 1
def fLay (d b : Int64) (v : Int32) : Int64 := if v = 0 then d &&& (b ^^^ (-1)) else if v = 1 then d ||| b else d ^^^ b
set_option maxRecDepth 20000 in
set_option maxHeartbeats 4000000 in
theorem s_Pic_isThere {p : Nat} {pw ph : Int32} {pd : Int64} {pj ps : Int32} (gp : h p = oPic pw ph pd pj ps) : AMet V i_Pic_isThere 0 [.ref p] h n z (some (.int (if pw ≤ 0 then 0 else 1))) (h) n z := by
  refine AMet.intro (Nat.le_refl _) (Nat.le_refl _) (by decide) (Nat.le_of_ble_eq_true rfl) rfl ?_
  refine a_aload_n d_Pic_isThere_0 rfl ?_
  refine a_getf d_Pic_isThere_1 f_Pic_7 gp rfl ?_
  refine a_if_le 11 d_Pic_isThere_4 (by decide) (fun c4 => ?_) (fun c4 => ?_)
  · skip
    refine a_iconst (v := 0) d_Pic_isThere_11 (by decide) ?_
    exact a_zret d_Pic_isThere_12 rfl (by decide) (by simp [c4]) rfl rfl
  · skip
    refine a_iconst (v := 1) d_Pic_isThere_7 (by decide) ?_
    refine a_goto 12 d_Pic_isThere_8 (by decide) ?_
    exact a_zret d_Pic_isThere_12 rfl (by decide) (by simp [c4]) rfl rfl
set_option maxRecDepth 20000 in
set_option maxHeartbeats 4000000 in
theorem s_Pic_has {p : Nat} {pw ph : Int32} {pd : Int64} {pj ps : Int32} (gp : h p = oPic pw ph pd pj ps) (x y : Int32) : AMet V i_Pic_has 0 [.ref p, .int x, .int y] h n z (some (.int (fHas pw ph x y))) (h) n z := by
  refine AMet.intro (Nat.le_refl _) (Nat.le_refl _) (by decide) (Nat.le_of_ble_eq_true rfl) rfl ?_
  refine a_iload_n d_Pic_has_0 rfl ?_
  refine a_if_lt 28 d_Pic_has_1 (by decide) (fun c1 => ?_) (fun c1 => ?_)
  · skip
    refine a_iconst (v := 0) d_Pic_has_28 (by decide) ?_
    exact a_zret d_Pic_has_29 rfl (by decide) (by simp [fHas, c1]) rfl rfl
  · skip
    refine a_iload_n d_Pic_has_4 rfl ?_
    refine a_aload_n d_Pic_has_5 rfl ?_
    refine a_getf d_Pic_has_6 f_Pic_7 gp rfl ?_
    refine a_icmp_ge 28 d_Pic_has_9 (by decide) (fun c9 => ?_) (fun c9 => ?_)
    · skip
      refine a_iconst (v := 0) d_Pic_has_28 (by decide) ?_
      exact a_zret d_Pic_has_29 rfl (by decide) (by simp [fHas, c1, c9]) rfl rfl
    · skip
      refine a_iload_n d_Pic_has_12 rfl ?_
      refine a_if_lt 28 d_Pic_has_13 (by decide) (fun c13 => ?_) (fun c13 => ?_)
      · skip
        refine a_iconst (v := 0) d_Pic_has_28 (by decide) ?_
        exact a_zret d_Pic_has_29 rfl (by decide) (by simp [fHas, c1, c9, c13]) rfl rfl
      · skip
        refine a_iload_n d_Pic_has_16 rfl ?_
        refine a_aload_n d_Pic_has_17 rfl ?_
        refine a_getf d_Pic_has_18 f_Pic_13 gp rfl ?_
        refine a_icmp_ge 28 d_Pic_has_21 (by decide) (fun c21 => ?_) (fun c21 => ?_)
        · skip
          refine a_iconst (v := 0) d_Pic_has_28 (by decide) ?_
          exact a_zret d_Pic_has_29 rfl (by decide) (by simp [fHas, c1, c9, c13, c21]) rfl rfl
        · skip
          refine a_iconst (v := 1) d_Pic_has_24 (by decide) ?_
          refine a_goto 29 d_Pic_has_25 (by decide) ?_
          exact a_zret d_Pic_has_29 rfl (by decide) (by simp [fHas, c1, c9, c13, c21]) rfl rfl
set_option maxRecDepth 20000 in
set_option maxHeartbeats 4000000 in
theorem s_Pic_isDark {p : Nat} {pw ph : Int32} {pd : Int64} {pj ps : Int32} (gp : h p = oPic pw ph pd pj ps) (x y : Int32) : AMet V i_Pic_isDark 1 [.ref p, .int x, .int y] h n z (some (.int (fDark pd x y))) (h) n z := by
  refine AMet.intro (Nat.le_refl _) (Nat.le_refl _) (by decide) (Nat.le_of_ble_eq_true rfl) rfl ?_
  refine a_aload_n d_Pic_isDark_0 rfl ?_
  refine a_getf d_Pic_isDark_1 f_Pic_16 gp rfl ?_
  refine a_iload_n d_Pic_isDark_4 rfl ?_
  refine a_iload_n d_Pic_isDark_5 rfl ?_
  refine a_cs0 d_Pic_isDark_6 m_Grid_bit t_Grid_bit l_Pic_20 (s_Grid_bit x y) rfl rfl ⟨Nat.le_of_ble_eq_true rfl, Nat.le_of_ble_eq_true rfl⟩ (Nat.le_of_ble_eq_true rfl)  ?_
  refine a_land d_Pic_isDark_9 ?_
  refine a_lconst (v := 0) d_Pic_isDark_10 rfl ?_
  refine a_lcmp d_Pic_isDark_11 ?_
  refine a_if_eq 19 d_Pic_isDark_12 (by decide) (fun c12 => ?_) (fun c12 => ?_)
  · skip
    refine a_iconst (v := 0) d_Pic_isDark_19 (by decide) ?_
    exact a_zret d_Pic_isDark_20 rfl (by decide) (by first | (rw [cmp0] at c12; simp [fDark, c12]; done) | (rw [cmp0] at c12; simp [fDark, c12])) rfl rfl
  · skip
    refine a_iconst (v := 1) d_Pic_isDark_15 (by decide) ?_
    refine a_goto 20 d_Pic_isDark_16 (by decide) ?_
    exact a_zret d_Pic_isDark_20 rfl (by decide) (by first | (rw [cmp0] at c12; simp [fDark, c12]; done) | (rw [cmp0] at c12; simp [fDark, c12])) rfl rfl
set_option maxRecDepth 20000 in
set_option maxHeartbeats 4000000 in
theorem s_Pic_darkDots {p : Nat} {pw ph : Int32} {pd : Int64} {pj ps : Int32} (gp : h p = oPic pw ph pd pj ps) : AMet V i_Pic_darkDots 1 [.ref p] h n z (some (.int (fBC pd))) (h) n z := by
  refine AMet.intro (Nat.le_refl _) (Nat.le_refl _) (by decide) (Nat.le_of_ble_eq_true rfl) rfl ?_
  refine a_aload_n d_Pic_darkDots_0 rfl ?_
  refine a_getf d_Pic_darkDots_1 f_Pic_16 gp rfl ?_
  refine a_cs0 d_Pic_darkDots_4 m_Lng_bitCount t_Lng_bitCount l_Pic_26 (s_Lng_bitCount pd) rfl rfl ⟨Nat.le_of_ble_eq_true rfl, Nat.le_of_ble_eq_true rfl⟩ (Nat.le_of_ble_eq_true rfl)  ?_
  exact a_iret d_Pic_darkDots_7 rfl rfl rfl rfl
set_option maxRecDepth 20000 in
set_option maxHeartbeats 4000000 in
theorem s_Pic_lay {p : Nat} {pw ph : Int32} {pd : Int64} {pj ps : Int32} (gp : h p = oPic pw ph pd pj ps) (b : Int64) (v : Int32) : AMet V i_Pic_lay 0 [.ref p, .long b, .int v] h n z (none) (hu h p (oPic pw ph (fLay pd b v) pj ps)) n z := by
  refine AMet.intro (Nat.le_refl _) (Nat.le_refl _) (by decide) (Nat.le_of_ble_eq_true rfl) rfl ?_
  refine a_iload_n d_Pic_lay_0 rfl ?_
  refine a_if_ne 21 d_Pic_lay_1 (by decide) (fun c1 => ?_) (fun c1 => ?_)
  · skip
    refine a_iload_n d_Pic_lay_21 rfl ?_
    refine a_iconst (v := 1) d_Pic_lay_22 (by decide) ?_
    refine a_icmp_ne 39 d_Pic_lay_23 (by decide) (fun c23 => ?_) (fun c23 => ?_)
    · skip
      refine a_aload_n d_Pic_lay_39 rfl ?_
      refine a_dup d_Pic_lay_40 rfl ?_
      refine a_getf d_Pic_lay_41 f_Pic_16 gp rfl ?_
      refine a_lload_n d_Pic_lay_44 rfl ?_
      refine a_lxor d_Pic_lay_45 ?_
      refine a_putf d_Pic_lay_46 f_Pic_16 rfl gp (Nat.le_of_ble_eq_true rfl) rfl rfl ?_
      exact a_vret d_Pic_lay_49 rfl rfl (by simp [fLay, c1, c23]) rfl
    · skip
      refine a_aload_n d_Pic_lay_26 rfl ?_
      refine a_dup d_Pic_lay_27 rfl ?_
      refine a_getf d_Pic_lay_28 f_Pic_16 gp rfl ?_
      refine a_lload_n d_Pic_lay_31 rfl ?_
      refine a_lor d_Pic_lay_32 ?_
      refine a_putf d_Pic_lay_33 f_Pic_16 rfl gp (Nat.le_of_ble_eq_true rfl) rfl rfl ?_
      refine a_goto 49 d_Pic_lay_36 (by decide) ?_
      exact a_vret d_Pic_lay_49 rfl rfl (by simp [fLay, c1, c23]) rfl
  · skip
    refine a_aload_n d_Pic_lay_4 rfl ?_
    refine a_dup d_Pic_lay_5 rfl ?_
    refine a_getf d_Pic_lay_6 f_Pic_16 gp rfl ?_
    refine a_lload_n d_Pic_lay_9 rfl ?_
    refine a_ldc2 d_Pic_lay_10 k_Pic_32 ?_
    refine a_lxor d_Pic_lay_13 ?_
    refine a_land d_Pic_lay_14 ?_
    refine a_putf d_Pic_lay_15 f_Pic_16 rfl gp (Nat.le_of_ble_eq_true rfl) rfl rfl ?_
    refine a_goto 49 d_Pic_lay_18 (by decide) ?_
    exact a_vret d_Pic_lay_49 rfl rfl (by simp [fLay, c1]) rfl
end
