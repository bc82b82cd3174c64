/-! Filling: printed by wip/whole/t22.py -/
def colP (x y x2 y2 mid : Int32) (c : Nat) : Bool := decide ((mid - y) * (x2 - x) < (32 * nI c + 16 - x) * (y2 - y))
def fCol (x y x2 y2 mid : Int32) : Nat := fst1 (colP x y x2 y2 mid) 8
def fFall (x y x2 y2 : Int32) : Nat → Int64
  | 0 => 0
  | r + 1 => if y < 32 * nI r + 16 then (if y2 < 32 * nI r + 16 then fFall x y x2 y2 r else fFall x y x2 y2 r ||| gRow (nI (fCol x y x2 y2 (32 * nI r + 16))) (nI r)) else fFall x y x2 y2 r
def fRO (x y x2 y2 : Int32) : Int64 := if y ≤ y2 then fFall x y x2 y2 8 else fFall x2 y2 x y 8
section
variable {V : VV} {h : AH} {n z : Nat}

set_option maxRecDepth 20000 in
set_option maxHeartbeats 4000000 in
theorem L_col (x y x2 y2 mid : Int32) : ∀ (m c : Nat), c + m = 8 → fst1 (colP x y x2 y2 mid) c = c → AM V i_Fil_firstColumnRightOf 0 n z (some (.int (nI (fCol x y x2 y2 mid)))) h n z 3 [some (.int x), some (.int y), some (.int x2), some (.int y2), some (.int mid), some (.int (nI c)), none] [] h n z := by
  intro m
  induction m with
  | zero =>
    intro c hc hf
    have e : c = 8 := by omega
    subst e
    refine a_iload d_Fil_firstColumnRightOf_3 rfl ?_
    refine a_bipush (v := 8) d_Fil_firstColumnRightOf_5 (by decide) ?_
    refine a_icmp_ge 48 d_Fil_firstColumnRightOf_7 (by decide) (fun c7 => ?_) (fun c7 => absurd (Int32.le_refl _) c7)
    refine a_bipush (v := 8) d_Fil_firstColumnRightOf_48 (by decide) ?_
    exact a_iret d_Fil_firstColumnRightOf_50 rfl (by unfold fCol; rw [hf]; rfl) rfl rfl
  | succ m ih =>
    intro c hc hf
    have es := fst1_step _ hf
    have ek := fun q => fst1_keep (colP x y x2 y2 mid) (n := c + 1) q (8 - (c + 1))
    rw [show c + 1 + (8 - (c + 1)) = 8 by omega] at ek
    refine a_iload d_Fil_firstColumnRightOf_3 rfl ?_
    refine a_bipush (v := 8) d_Fil_firstColumnRightOf_5 (by decide) ?_
    refine a_icmp_ge 48 d_Fil_firstColumnRightOf_7 (by decide) (fun c7 => absurd c7 (nI_ge (b := 8) (show c < 8 by omega) (by omega))) (fun c7 => ?_)
    refine a_bipush (v := 32) d_Fil_firstColumnRightOf_10 (by decide) ?_
    refine a_iload d_Fil_firstColumnRightOf_12 rfl ?_
    refine a_imul d_Fil_firstColumnRightOf_14 ?_
    refine a_bipush (v := 16) d_Fil_firstColumnRightOf_15 (by decide) ?_
    refine a_iadd d_Fil_firstColumnRightOf_17 ?_
    refine a_istore d_Fil_firstColumnRightOf_18 (Nat.le_of_ble_eq_true rfl) (Nat.le_of_ble_eq_true rfl) rfl ?_
    refine a_iload d_Fil_firstColumnRightOf_20 rfl ?_
    refine a_iload_n d_Fil_firstColumnRightOf_22 rfl ?_
    refine a_isub d_Fil_firstColumnRightOf_23 ?_
    refine a_iload_n d_Fil_firstColumnRightOf_24 rfl ?_
    refine a_iload_n d_Fil_firstColumnRightOf_25 rfl ?_
    refine a_isub d_Fil_firstColumnRightOf_26 ?_
    refine a_imul d_Fil_firstColumnRightOf_27 ?_
    refine a_iload d_Fil_firstColumnRightOf_28 rfl ?_
    refine a_iload_n d_Fil_firstColumnRightOf_30 rfl ?_
    refine a_isub d_Fil_firstColumnRightOf_31 ?_
    refine a_iload_n d_Fil_firstColumnRightOf_32 rfl ?_
    refine a_iload_n d_Fil_firstColumnRightOf_33 rfl ?_
    refine a_isub d_Fil_firstColumnRightOf_34 ?_
    refine a_imul d_Fil_firstColumnRightOf_35 ?_
    refine a_icmp_ge 42 d_Fil_firstColumnRightOf_36 (by decide) (fun c36 => ?_) (fun c36 => ?_)
    · skip
      refine a_iinc d_Fil_firstColumnRightOf_42 rfl (nI_1 c) (Nat.le_of_ble_eq_true rfl) rfl ?_
      refine a_goto 3 d_Fil_firstColumnRightOf_45 (by decide) ?_
      refine a_drop 6 ?_
      refine ih (c + 1) (by omega) ?_
      rw [es, if_neg (show ¬ colP x y x2 y2 mid c = true from fun q => absurd (of_decide_eq_true q) (Int32.not_lt.mpr c36))]
    · skip
      refine a_iload d_Fil_firstColumnRightOf_39 rfl ?_
      exact a_iret d_Fil_firstColumnRightOf_41 rfl (by rw [if_pos (show colP x y x2 y2 mid c = true from decide_eq_true (Int32.not_le.mp c36))] at es; unfold fCol; rw [ek (by omega), es]) rfl rfl
set_option maxRecDepth 20000 in
set_option maxHeartbeats 4000000 in
theorem s_Fil_firstColumnRightOf (x y x2 y2 mid : Int32) : AMet V i_Fil_firstColumnRightOf 0 [.int x, .int y, .int x2, .int y2, .int mid] h n z (some (.int (nI (fCol x y x2 y2 mid)))) h n z := by
  refine AMet.intro (Nat.le_refl _) (Nat.le_refl _) (by decide) (Nat.le_of_ble_eq_true rfl) rfl ?_
  refine a_iconst (v := 0) d_Fil_firstColumnRightOf_0 (by decide) ?_
  refine a_istore d_Fil_firstColumnRightOf_1 (Nat.le_of_ble_eq_true rfl) (Nat.le_of_ble_eq_true rfl) rfl ?_
  exact L_col x y x2 y2 mid 8 0 rfl rfl
set_option maxRecDepth 20000 in
set_option maxHeartbeats 4000000 in
theorem L_fall (x y x2 y2 : Int32) : ∀ (m r : Nat), r + m = 8 → AM V i_Fil_rightOfFalling 1 n z (some (.long (fFall x y x2 y2 8))) h n z 6 [some (.int x), some (.int y), some (.int x2), some (.int y2), some (.long (fFall x y x2 y2 r)), none, some (.int (nI r)), none] [] h n z := by
  intro m
  induction m with
  | zero =>
    intro r hr
    have e : r = 8 := by omega
    subst e
    refine a_iload d_Fil_rightOfFalling_6 rfl ?_
    refine a_bipush (v := 8) d_Fil_rightOfFalling_8 (by decide) ?_
    refine a_icmp_ge 60 d_Fil_rightOfFalling_10 (by decide) (fun c10 => ?_) (fun c10 => absurd (Int32.le_refl _) c10)
    refine a_lload d_Fil_rightOfFalling_60 rfl ?_
    exact a_lret d_Fil_rightOfFalling_62 rfl rfl rfl rfl
  | succ m ih =>
    intro r hr
    have e0 : fFall x y x2 y2 (r + 1) = if y < 32 * nI r + 16 then (if y2 < 32 * nI r + 16 then fFall x y x2 y2 r else fFall x y x2 y2 r ||| gRow (nI (fCol x y x2 y2 (32 * nI r + 16))) (nI r)) else fFall x y x2 y2 r := rfl
    refine a_iload d_Fil_rightOfFalling_6 rfl ?_
    refine a_bipush (v := 8) d_Fil_rightOfFalling_8 (by decide) ?_
    refine a_icmp_ge 60 d_Fil_rightOfFalling_10 (by decide) (fun c10 => absurd c10 (nI_ge (b := 8) (show r < 8 by omega) (by omega))) (fun c10 => ?_)
    refine a_bipush (v := 32) d_Fil_rightOfFalling_13 (by decide) ?_
    refine a_iload d_Fil_rightOfFalling_15 rfl ?_
    refine a_imul d_Fil_rightOfFalling_17 ?_
    refine a_bipush (v := 16) d_Fil_rightOfFalling_18 (by decide) ?_
    refine a_iadd d_Fil_rightOfFalling_20 ?_
    refine a_istore d_Fil_rightOfFalling_21 (Nat.le_of_ble_eq_true rfl) (Nat.le_of_ble_eq_true rfl) rfl ?_
    refine a_iload_n d_Fil_rightOfFalling_23 rfl ?_
    refine a_iload d_Fil_rightOfFalling_24 rfl ?_
    refine a_icmp_ge 54 d_Fil_rightOfFalling_26 (by decide) (fun c26 => ?_) (fun c26 => ?_)
    · skip
      refine a_iinc d_Fil_rightOfFalling_54 rfl (nI_1 r) (Nat.le_of_ble_eq_true rfl) rfl ?_
      refine a_goto 6 d_Fil_rightOfFalling_57 (by decide) ?_
      refine a_drop 7 ?_
      refine a_eq rfl ?_ rfl rfl rfl rfl (ih (r + 1) (by omega))
      rw [e0, if_neg (Int32.not_lt.mpr c26)]
      rfl
    · skip
      refine a_iload_n d_Fil_rightOfFalling_29 rfl ?_
      refine a_iload d_Fil_rightOfFalling_30 rfl ?_
      refine a_icmp_lt 54 d_Fil_rightOfFalling_32 (by decide) (fun c32 => ?_) (fun c32 => ?_)
      · skip
        refine a_iinc d_Fil_rightOfFalling_54 rfl (nI_1 r) (Nat.le_of_ble_eq_true rfl) rfl ?_
        refine a_goto 6 d_Fil_rightOfFalling_57 (by decide) ?_
        refine a_drop 7 ?_
        refine a_eq rfl ?_ rfl rfl rfl rfl (ih (r + 1) (by omega))
        rw [e0, if_pos (Int32.not_le.mp c26), if_pos c32]
        rfl
      · skip
        refine a_lload d_Fil_rightOfFalling_35 rfl ?_
        refine a_iload_n d_Fil_rightOfFalling_37 rfl ?_
        refine a_iload_n d_Fil_rightOfFalling_38 rfl ?_
        refine a_iload_n d_Fil_rightOfFalling_39 rfl ?_
        refine a_iload_n d_Fil_rightOfFalling_40 rfl ?_
        refine a_iload d_Fil_rightOfFalling_41 rfl ?_
        refine a_cs0 d_Fil_rightOfFalling_43 m_Fil_firstColumnRightOf t_Fil_firstColumnRightOf l_Fil_67 (s_Fil_firstColumnRightOf x y x2 y2 _) rfl rfl ⟨Nat.le_of_ble_eq_true rfl, Nat.le_of_ble_eq_true rfl⟩ (Nat.le_of_ble_eq_true rfl)  ?_
        refine a_iload d_Fil_rightOfFalling_46 rfl ?_
        refine a_cs0 d_Fil_rightOfFalling_48 m_Grid_rowFrom t_Grid_rowFrom l_Fil_71 (s_Grid_rowFrom _ _) rfl rfl ⟨Nat.le_of_ble_eq_true rfl, Nat.le_of_ble_eq_true rfl⟩ (Nat.le_of_ble_eq_true rfl)  ?_
        refine a_lor d_Fil_rightOfFalling_51 ?_
        refine a_lstore d_Fil_rightOfFalling_52 (Nat.le_of_ble_eq_true rfl) (Nat.le_of_ble_eq_true rfl) rfl ?_
        refine a_iinc d_Fil_rightOfFalling_54 rfl (nI_1 r) (Nat.le_of_ble_eq_true rfl) rfl ?_
        refine a_goto 6 d_Fil_rightOfFalling_57 (by decide) ?_
        refine a_drop 7 ?_
        refine a_eq rfl ?_ rfl rfl rfl rfl (ih (r + 1) (by omega))
        rw [e0, if_pos (Int32.not_le.mp c26), if_neg c32]
        rfl
set_option maxRecDepth 20000 in
set_option maxHeartbeats 4000000 in
theorem s_Fil_rightOfFalling (x y x2 y2 : Int32) : AMet V i_Fil_rightOfFalling 1 [.int x, .int y, .int x2, .int y2] h n z (some (.long (fFall x y x2 y2 8))) h n z := by
  refine AMet.intro (Nat.le_refl _) (Nat.le_refl _) (by decide) (Nat.le_of_ble_eq_true rfl) rfl ?_
  refine a_lconst (v := 0) d_Fil_rightOfFalling_0 rfl ?_
  refine a_lstore d_Fil_rightOfFalling_1 (Nat.le_of_ble_eq_true rfl) (Nat.le_of_ble_eq_true rfl) rfl ?_
  refine a_iconst (v := 0) d_Fil_rightOfFalling_3 (by decide) ?_
  refine a_istore d_Fil_rightOfFalling_4 (Nat.le_of_ble_eq_true rfl) (Nat.le_of_ble_eq_true rfl) rfl ?_
  exact L_fall x y x2 y2 8 0 rfl
set_option maxRecDepth 20000 in
set_option maxHeartbeats 4000000 in
theorem s_Fil_rightOf (x y x2 y2 : Int32) : AMet V i_Fil_rightOf 2 [.int x, .int y, .int x2, .int y2] h n z (some (.long (fRO x y x2 y2))) (h) n z := by
  refine AMet.intro (Nat.le_refl _) (Nat.le_refl _) (by decide) (Nat.le_of_ble_eq_true rfl) rfl ?_
  refine a_iload_n d_Fil_rightOf_0 rfl ?_
  refine a_iload_n d_Fil_rightOf_1 rfl ?_
  refine a_icmp_le 13 d_Fil_rightOf_2 (by decide) (fun c2 => ?_) (fun c2 => ?_)
  · skip
    refine a_iload_n d_Fil_rightOf_13 rfl ?_
    refine a_iload_n d_Fil_rightOf_14 rfl ?_
    refine a_iload_n d_Fil_rightOf_15 rfl ?_
    refine a_iload_n d_Fil_rightOf_16 rfl ?_
    refine a_cs0 d_Fil_rightOf_17 m_Fil_rightOfFalling t_Fil_rightOfFalling l_Fil_62 (s_Fil_rightOfFalling x y x2 y2) rfl rfl ⟨Nat.le_of_ble_eq_true rfl, Nat.le_of_ble_eq_true rfl⟩ (Nat.le_of_ble_eq_true rfl)  ?_
    exact a_lret d_Fil_rightOf_20 rfl (by simp only [fRO, c2, if_true, if_false]) rfl rfl
  · skip
    refine a_iload_n d_Fil_rightOf_5 rfl ?_
    refine a_iload_n d_Fil_rightOf_6 rfl ?_
    refine a_iload_n d_Fil_rightOf_7 rfl ?_
    refine a_iload_n d_Fil_rightOf_8 rfl ?_
    refine a_cs0 d_Fil_rightOf_9 m_Fil_rightOfFalling t_Fil_rightOfFalling l_Fil_62 (s_Fil_rightOfFalling x2 y2 x y) rfl rfl ⟨Nat.le_of_ble_eq_true rfl, Nat.le_of_ble_eq_true rfl⟩ (Nat.le_of_ble_eq_true rfl)  ?_
    exact a_lret d_Fil_rightOf_12 rfl (by simp only [fRO, c2, if_true, if_false]) rfl rfl
def rdX (V : VV) (i : Nat) (u v w : Int32) : Int32 := fRnd (tF V 4 i) (tF V 5 i) (tF V 6 i) u v w
def fRS (V : VV) (ux uy vx vy wx wy : Int32) : Int64 := fRO (rdX V 0 ux vx wx) (rdX V 0 uy vy wy) (32 * vx) (32 * vy) ^^^ fRO (32 * vx) (32 * vy) (rdX V 4 ux vx wx) (rdX V 4 uy vy wy)
def fRR (V : VV) (ux uy vx vy wx wy : Int32) : Nat → Int64
  | 0 => 0
  | i + 1 => fRR V ux uy vx vy wx wy i ^^^ fRO (rdX V i ux vx wx) (rdX V i uy vy wy) (rdX V (i + 1) ux vx wx) (rdX V (i + 1) uy vy wy)
set_option maxRecDepth 20000 in
set_option maxHeartbeats 4000000 in
theorem s_Fil_rightOfSharp {ux uy vx vy wx wy : Int32} (g28 : h 28 = oBend ux uy vx vy wx wy) : AMet V i_Fil_rightOfSharp 3 [.ref 28] h n z (some (.long (fRS V ux uy vx vy wx wy))) (h) n z := by
  refine AMet.intro (Nat.le_refl _) (Nat.le_refl _) (by decide) (Nat.le_of_ble_eq_true rfl) rfl ?_
  refine a_aload_n d_Fil_rightOfSharp_0 rfl ?_
  refine a_cv0 (a := 28) d_Fil_rightOfSharp_1 m_Bend_xOfVertex t_Bend_xOfVertex l_Fil_25 g28 rfl rfl (s_Bend_xOfVertex g28) rfl rfl ⟨Nat.le_of_ble_eq_true rfl, Nat.le_of_ble_eq_true rfl⟩ (Nat.le_of_ble_eq_true rfl)  ?_
  refine a_istore_n d_Fil_rightOfSharp_4 (Nat.le_of_ble_eq_true rfl) (Nat.le_of_ble_eq_true rfl) rfl ?_
  refine a_aload_n d_Fil_rightOfSharp_5 rfl ?_
  refine a_cv0 (a := 28) d_Fil_rightOfSharp_6 m_Bend_yOfVertex t_Bend_yOfVertex l_Fil_31 g28 rfl rfl (s_Bend_yOfVertex g28) rfl rfl ⟨Nat.le_of_ble_eq_true rfl, Nat.le_of_ble_eq_true rfl⟩ (Nat.le_of_ble_eq_true rfl)  ?_
  refine a_istore_n d_Fil_rightOfSharp_9 (Nat.le_of_ble_eq_true rfl) (Nat.le_of_ble_eq_true rfl) rfl ?_
  refine a_aload_n d_Fil_rightOfSharp_10 rfl ?_
  refine a_iconst (v := 0) d_Fil_rightOfSharp_11 (by decide) ?_
  refine a_cv0 (a := 28) d_Fil_rightOfSharp_12 m_Bend_xOnRound t_Bend_xOnRound l_Fil_55 g28 rfl rfl (s_Bend_xOnRound g28 (i := 0) (by omega)) rfl rfl ⟨Nat.le_of_ble_eq_true rfl, Nat.le_of_ble_eq_true rfl⟩ (Nat.le_of_ble_eq_true rfl)  ?_
  refine a_aload_n d_Fil_rightOfSharp_15 rfl ?_
  refine a_iconst (v := 0) d_Fil_rightOfSharp_16 (by decide) ?_
  refine a_cv0 (a := 28) d_Fil_rightOfSharp_17 m_Bend_yOnRound t_Bend_yOnRound l_Fil_59 g28 rfl rfl (s_Bend_yOnRound g28 (i := 0) (by omega)) rfl rfl ⟨Nat.le_of_ble_eq_true rfl, Nat.le_of_ble_eq_true rfl⟩ (Nat.le_of_ble_eq_true rfl)  ?_
  refine a_iload_n d_Fil_rightOfSharp_20 rfl ?_
  refine a_iload_n d_Fil_rightOfSharp_21 rfl ?_
  refine a_cs0 d_Fil_rightOfSharp_22 m_Fil_rightOf t_Fil_rightOf l_Fil_40 (s_Fil_rightOf _ _ _ _) rfl rfl ⟨Nat.le_of_ble_eq_true rfl, Nat.le_of_ble_eq_true rfl⟩ (Nat.le_of_ble_eq_true rfl)  ?_
  refine a_iload_n d_Fil_rightOfSharp_25 rfl ?_
  refine a_iload_n d_Fil_rightOfSharp_26 rfl ?_
  refine a_aload_n d_Fil_rightOfSharp_27 rfl ?_
  refine a_iconst (v := 4) d_Fil_rightOfSharp_28 (by decide) ?_
  refine a_cv0 (a := 28) d_Fil_rightOfSharp_29 m_Bend_xOnRound t_Bend_xOnRound l_Fil_55 g28 rfl rfl (s_Bend_xOnRound g28 (i := 4) (by omega)) rfl rfl ⟨Nat.le_of_ble_eq_true rfl, Nat.le_of_ble_eq_true rfl⟩ (Nat.le_of_ble_eq_true rfl)  ?_
  refine a_aload_n d_Fil_rightOfSharp_32 rfl ?_
  refine a_iconst (v := 4) d_Fil_rightOfSharp_33 (by decide) ?_
  refine a_cv0 (a := 28) d_Fil_rightOfSharp_34 m_Bend_yOnRound t_Bend_yOnRound l_Fil_59 g28 rfl rfl (s_Bend_yOnRound g28 (i := 4) (by omega)) rfl rfl ⟨Nat.le_of_ble_eq_true rfl, Nat.le_of_ble_eq_true rfl⟩ (Nat.le_of_ble_eq_true rfl)  ?_
  refine a_cs0 d_Fil_rightOfSharp_37 m_Fil_rightOf t_Fil_rightOf l_Fil_40 (s_Fil_rightOf _ _ _ _) rfl rfl ⟨Nat.le_of_ble_eq_true rfl, Nat.le_of_ble_eq_true rfl⟩ (Nat.le_of_ble_eq_true rfl)  ?_
  refine a_lxor d_Fil_rightOfSharp_40 ?_
  exact a_lret d_Fil_rightOfSharp_41 rfl rfl rfl rfl
set_option maxRecDepth 20000 in
set_option maxHeartbeats 4000000 in
theorem L_round {ux uy vx vy wx wy : Int32} (g28 : h 28 = oBend ux uy vx vy wx wy) : ∀ (m i : Nat), i + m = 4 → AM V i_Fil_rightOfRound 3 n z (some (.long (fRR V ux uy vx vy wx wy 4))) h n z 4 [some (.ref 28), some (.long (fRR V ux uy vx vy wx wy i)), none, some (.int (nI i))] [] h n z := by
  intro m
  induction m with
  | zero =>
    intro i hi
    have e : i = 4 := by omega
    subst e
    refine a_iload_n d_Fil_rightOfRound_4 rfl ?_
    refine a_iconst (v := 4) d_Fil_rightOfRound_5 (by decide) ?_
    refine a_icmp_ge 45 d_Fil_rightOfRound_6 (by decide) (fun c6 => ?_) (fun c6 => absurd (Int32.le_refl _) c6)
    refine a_lload_n d_Fil_rightOfRound_45 rfl ?_
    exact a_lret d_Fil_rightOfRound_46 rfl rfl rfl rfl
  | succ m ih =>
    intro i hi
    refine a_iload_n d_Fil_rightOfRound_4 rfl ?_
    refine a_iconst (v := 4) d_Fil_rightOfRound_5 (by decide) ?_
    refine a_icmp_ge 45 d_Fil_rightOfRound_6 (by decide) (fun c6 => absurd c6 (nI_ge (b := 4) (show i < 4 by omega) (by omega))) (fun c6 => ?_)
    refine a_lload_n d_Fil_rightOfRound_9 rfl ?_
    refine a_aload_n d_Fil_rightOfRound_10 rfl ?_
    refine a_iload_n d_Fil_rightOfRound_11 rfl ?_
    refine a_cv0 (a := 28) d_Fil_rightOfRound_12 m_Bend_xOnRound t_Bend_xOnRound l_Fil_55 g28 rfl rfl (s_Bend_xOnRound g28 (i := i) (by omega)) rfl rfl ⟨Nat.le_of_ble_eq_true rfl, Nat.le_of_ble_eq_true rfl⟩ (Nat.le_of_ble_eq_true rfl)  ?_
    refine a_aload_n d_Fil_rightOfRound_15 rfl ?_
    refine a_iload_n d_Fil_rightOfRound_16 rfl ?_
    refine a_cv0 (a := 28) d_Fil_rightOfRound_17 m_Bend_yOnRound t_Bend_yOnRound l_Fil_59 g28 rfl rfl (s_Bend_yOnRound g28 (i := i) (by omega)) rfl rfl ⟨Nat.le_of_ble_eq_true rfl, Nat.le_of_ble_eq_true rfl⟩ (Nat.le_of_ble_eq_true rfl)  ?_
    refine a_aload_n d_Fil_rightOfRound_20 rfl ?_
    refine a_iload_n d_Fil_rightOfRound_21 rfl ?_
    refine a_iconst (v := 1) d_Fil_rightOfRound_22 (by decide) ?_
    refine a_iadd d_Fil_rightOfRound_23 ?_
    rw [nI_1]
    refine a_cv0 (a := 28) d_Fil_rightOfRound_24 m_Bend_xOnRound t_Bend_xOnRound l_Fil_55 g28 rfl rfl (s_Bend_xOnRound g28 (i := i + 1) (by omega)) rfl rfl ⟨Nat.le_of_ble_eq_true rfl, Nat.le_of_ble_eq_true rfl⟩ (Nat.le_of_ble_eq_true rfl)  ?_
    refine a_aload_n d_Fil_rightOfRound_27 rfl ?_
    refine a_iload_n d_Fil_rightOfRound_28 rfl ?_
    refine a_iconst (v := 1) d_Fil_rightOfRound_29 (by decide) ?_
    refine a_iadd d_Fil_rightOfRound_30 ?_
    rw [nI_1]
    refine a_cv0 (a := 28) d_Fil_rightOfRound_31 m_Bend_yOnRound t_Bend_yOnRound l_Fil_59 g28 rfl rfl (s_Bend_yOnRound g28 (i := i + 1) (by omega)) rfl rfl ⟨Nat.le_of_ble_eq_true rfl, Nat.le_of_ble_eq_true rfl⟩ (Nat.le_of_ble_eq_true rfl)  ?_
    refine a_cs0 d_Fil_rightOfRound_34 m_Fil_rightOf t_Fil_rightOf l_Fil_40 (s_Fil_rightOf _ _ _ _) rfl rfl ⟨Nat.le_of_ble_eq_true rfl, Nat.le_of_ble_eq_true rfl⟩ (Nat.le_of_ble_eq_true rfl)  ?_
    refine a_lxor d_Fil_rightOfRound_37 ?_
    refine a_lstore_n d_Fil_rightOfRound_38 (Nat.le_of_ble_eq_true rfl) (Nat.le_of_ble_eq_true rfl) rfl ?_
    refine a_iinc d_Fil_rightOfRound_39 rfl (nI_1 i) (Nat.le_of_ble_eq_true rfl) rfl ?_
    refine a_goto 4 d_Fil_rightOfRound_42 (by decide) ?_
    exact ih (i + 1) (by omega)
set_option maxRecDepth 20000 in
set_option maxHeartbeats 4000000 in
theorem s_Fil_rightOfRound {ux uy vx vy wx wy : Int32} (g28 : h 28 = oBend ux uy vx vy wx wy) : AMet V i_Fil_rightOfRound 3 [.ref 28] h n z (some (.long (fRR V ux uy vx vy wx wy 4))) h n z := by
  refine AMet.intro (Nat.le_refl _) (Nat.le_refl _) (by decide) (Nat.le_of_ble_eq_true rfl) rfl ?_
  refine a_lconst (v := 0) d_Fil_rightOfRound_0 rfl ?_
  refine a_lstore_n d_Fil_rightOfRound_1 (Nat.le_of_ble_eq_true rfl) (Nat.le_of_ble_eq_true rfl) rfl ?_
  refine a_iconst (v := 0) d_Fil_rightOfRound_2 (by decide) ?_
  refine a_istore_n d_Fil_rightOfRound_3 (Nat.le_of_ble_eq_true rfl) (Nat.le_of_ble_eq_true rfl) rfl ?_
  exact L_round g28 4 0 rfl
/-- what the sides at vertex k fill -/
def sdC (V : VV) (X Y : Nat → Int) (P nv : Nat) (cn : Nat → Nat) (kind sh : Int32) (k : Nat) : Int64 :=
  if kind = 0 then fRO (32 * iI (vx X P nv cn k)) (32 * iI (vx Y P nv cn k)) (32 * iI (vx X P nv cn (k + 1))) (32 * iI (vx Y P nv cn (k + 1)))
  else if shC X Y P nv cn sh k = 0 then fRR V (iI (vx X P nv cn (k + nv - 1))) (iI (vx Y P nv cn (k + nv - 1))) (iI (vx X P nv cn k)) (iI (vx Y P nv cn k)) (iI (vx X P nv cn (k + 1))) (iI (vx Y P nv cn (k + 1))) 4
  else fRS V (iI (vx X P nv cn (k + nv - 1))) (iI (vx Y P nv cn (k + nv - 1))) (iI (vx X P nv cn k)) (iI (vx Y P nv cn k)) (iI (vx X P nv cn (k + 1))) (iI (vx Y P nv cn (k + 1)))
def byC (V : VV) (X Y : Nat → Int) (P nv : Nat) (cn : Nat → Nat) (kind sh : Int32) : Nat → Int64
  | 0 => 0
  | k + 1 => byC V X Y P nv cn kind sh k ^^^ sdC V X Y P nv cn kind sh k
set_option maxRecDepth 20000 in
set_option maxHeartbeats 4000000 in
theorem L_by {s0 P b nv : Nat} {fi : Int32} {wi : Int64} {me bo wk jn sz : Int32} {dt : Int64} {xs ys co : Nat → Int32} {X Y : Nat → Int} {cn : Nat → Nat} (g19 : h 19 = oBrs wk dt jn sz) (g20 : h 20 = aI 144 xs) (g21 : h 21 = aI 144 ys) (g27 : h 27 = oPol) (g31 : h 31 = oFil) (g29 : h 29 = aI 144 co) (gb : h b = oBrd (nI s0) (nI P) fi wi me (nI nv) bo) (hb : 53 ≤ b) (hP : 0 < P) (hs : s0 + P ≤ 144) (hv : 0 < nv) (hvP : nv ≤ P) (Rw : Row xs ys s0 P X Y) (hc : ∀ k, k < nv → co (s0 + k) = nI (cn k) ∧ cn k < 1000) {c : Int32 × Int32 × Int32 × Int32 × Int32 × Int32} (g28 : h 28 = bdX X Y P nv cn c 0) (kind sh : Int32) : ∀ (m k : Nat), k + m = nv → AM V i_Fil_by 4 n z (some (.long (byC V X Y P nv cn kind sh nv))) (hu h 28 (bdX X Y P nv cn c nv)) n z 6 [some (.ref 31), some (.ref b), some (.int kind), some (.int sh), some (.long (byC V X Y P nv cn kind sh k)), none, some (.int (nI k)), none] [] (hu h 28 (bdX X Y P nv cn c k)) n z := by
  intro m
  induction m with
  | zero =>
    intro k hk
    have e : nv = k := by omega
    subst e
    have kb : (hu h 28 (bdX X Y P nv cn c nv)) b = oBrd (nI s0) (nI P) fi wi me (nI nv) bo := by rw [hu_n (by omega)]; exact gb
    refine a_iload d_Fil_by_6 rfl ?_
    refine a_aload_n d_Fil_by_8 rfl ?_
    refine a_getf d_Fil_by_9 f_Fil_13 kb rfl ?_
    refine a_icmp_ge 100 d_Fil_by_12 (by decide) (fun c12 => ?_) (fun c12 => absurd (Int32.le_refl _) c12)
    refine a_lload d_Fil_by_100 rfl ?_
    exact a_lret d_Fil_by_102 rfl rfl rfl rfl
  | succ m ih =>
    intro k hk
    have kb : (hu h 28 (bdX X Y P nv cn c k)) b = oBrd (nI s0) (nI P) fi wi me (nI nv) bo := by rw [hu_n (by omega)]; exact gb
    have k27 : (hu h 28 (bdX X Y P nv cn c k)) 27 = oPol := g27
    have k31 : (hu h 28 (bdX X Y P nv cn c k)) 31 = oFil := g31
    obtain ⟨c1, c2, c3, c4, c5, c6, ec⟩ := bdX_o X Y P nv cn c k
    have e0 : byC V X Y P nv cn kind sh (k + 1) = byC V X Y P nv cn kind sh k ^^^ sdC V X Y P nv cn kind sh k := rfl
    unfold sdC shC at e0
    refine a_iload d_Fil_by_6 rfl ?_
    refine a_aload_n d_Fil_by_8 rfl ?_
    refine a_getf d_Fil_by_9 f_Fil_13 kb rfl ?_
    refine a_icmp_ge 100 d_Fil_by_12 (by decide) (fun c12 => absurd c12 (nI_ge (show k < nv by omega) (by omega))) (fun c12 => ?_)
    refine a_aload_n d_Fil_by_15 rfl ?_
    refine a_getf d_Fil_by_16 f_Fil_7 k31 rfl ?_
    refine a_aload_n d_Fil_by_19 rfl ?_
    refine a_iload d_Fil_by_20 rfl ?_
    refine a_cv0 (a := 27) d_Fil_by_22 m_Pol_bendAt t_Pol_bendAt l_Fil_19 k27 rfl rfl (s_Pol_bendAt (h := hu h 28 (bdX X Y P nv cn c k)) g19 g20 g21 g27 g29 kb hb hP hs hv hvP Rw hc (by rw [hu_s]; exact ec) (k := k) (by omega)) rfl rfl ⟨Nat.le_of_ble_eq_true rfl, Nat.le_of_ble_eq_true rfl⟩ (Nat.le_of_ble_eq_true rfl)  ?_
    refine a_astore d_Fil_by_25 (Nat.le_of_ble_eq_true rfl) (Nat.le_of_ble_eq_true rfl) rfl ?_
    refine a_iload_n d_Fil_by_27 rfl ?_
    refine a_if_ne 62 d_Fil_by_28 (by decide) (fun c28 => ?_) (fun c28 => ?_)
    · skip
      refine a_aload d_Fil_by_62 rfl ?_
      refine a_iload_n d_Fil_by_64 rfl ?_
      refine a_cv0 (a := 28) d_Fil_by_65 m_Bend_isSharp t_Bend_isSharp l_Fil_44 (hu_s _ _ _) rfl rfl (s_Bend_isSharp (hu_s _ _ _) sh) rfl rfl ⟨Nat.le_of_ble_eq_true rfl, Nat.le_of_ble_eq_true rfl⟩ (Nat.le_of_ble_eq_true rfl)  ?_
      refine a_if_eq 84 d_Fil_by_68 (by decide) (fun c68 => ?_) (fun c68 => ?_)
      · skip
        refine a_lload d_Fil_by_84 rfl ?_
        refine a_aload d_Fil_by_86 rfl ?_
        refine a_cs0 d_Fil_by_88 m_Fil_rightOfRound t_Fil_rightOfRound l_Fil_52 (s_Fil_rightOfRound (hu_s _ _ _)) rfl rfl ⟨Nat.le_of_ble_eq_true rfl, Nat.le_of_ble_eq_true rfl⟩ (Nat.le_of_ble_eq_true rfl)  ?_
        refine a_lxor d_Fil_by_91 ?_
        refine a_lstore d_Fil_by_92 (Nat.le_of_ble_eq_true rfl) (Nat.le_of_ble_eq_true rfl) rfl ?_
        refine a_iinc d_Fil_by_94 rfl (nI_1 k) (Nat.le_of_ble_eq_true rfl) rfl ?_
        refine a_goto 6 d_Fil_by_97 (by decide) ?_
        refine a_drop 7 ?_
        refine a_eq rfl ?_ rfl (hu_hu _ _ _ _) rfl rfl (ih (k + 1) (by omega))
        rw [e0, if_neg c28, if_pos c68]
        rfl
      · skip
        refine a_lload d_Fil_by_71 rfl ?_
        refine a_aload d_Fil_by_73 rfl ?_
        refine a_cs0 d_Fil_by_75 m_Fil_rightOfSharp t_Fil_rightOfSharp l_Fil_48 (s_Fil_rightOfSharp (hu_s _ _ _)) rfl rfl ⟨Nat.le_of_ble_eq_true rfl, Nat.le_of_ble_eq_true rfl⟩ (Nat.le_of_ble_eq_true rfl)  ?_
        refine a_lxor d_Fil_by_78 ?_
        refine a_lstore d_Fil_by_79 (Nat.le_of_ble_eq_true rfl) (Nat.le_of_ble_eq_true rfl) rfl ?_
        refine a_goto 94 d_Fil_by_81 (by decide) ?_
        refine a_iinc d_Fil_by_94 rfl (nI_1 k) (Nat.le_of_ble_eq_true rfl) rfl ?_
        refine a_goto 6 d_Fil_by_97 (by decide) ?_
        refine a_drop 7 ?_
        refine a_eq rfl ?_ rfl (hu_hu _ _ _ _) rfl rfl (ih (k + 1) (by omega))
        rw [e0, if_neg c28, if_neg c68]
        rfl
    · skip
      refine a_lload d_Fil_by_31 rfl ?_
      refine a_aload d_Fil_by_33 rfl ?_
      refine a_cv0 (a := 28) d_Fil_by_35 m_Bend_xOfVertex t_Bend_xOfVertex l_Fil_25 (hu_s _ _ _) rfl rfl (s_Bend_xOfVertex (hu_s _ _ _)) rfl rfl ⟨Nat.le_of_ble_eq_true rfl, Nat.le_of_ble_eq_true rfl⟩ (Nat.le_of_ble_eq_true rfl)  ?_
      refine a_aload d_Fil_by_38 rfl ?_
      refine a_cv0 (a := 28) d_Fil_by_40 m_Bend_yOfVertex t_Bend_yOfVertex l_Fil_31 (hu_s _ _ _) rfl rfl (s_Bend_yOfVertex (hu_s _ _ _)) rfl rfl ⟨Nat.le_of_ble_eq_true rfl, Nat.le_of_ble_eq_true rfl⟩ (Nat.le_of_ble_eq_true rfl)  ?_
      refine a_aload d_Fil_by_43 rfl ?_
      refine a_cv0 (a := 28) d_Fil_by_45 m_Bend_xOfNext t_Bend_xOfNext l_Fil_34 (hu_s _ _ _) rfl rfl (s_Bend_xOfNext (hu_s _ _ _)) rfl rfl ⟨Nat.le_of_ble_eq_true rfl, Nat.le_of_ble_eq_true rfl⟩ (Nat.le_of_ble_eq_true rfl)  ?_
      refine a_aload d_Fil_by_48 rfl ?_
      refine a_cv0 (a := 28) d_Fil_by_50 m_Bend_yOfNext t_Bend_yOfNext l_Fil_37 (hu_s _ _ _) rfl rfl (s_Bend_yOfNext (hu_s _ _ _)) rfl rfl ⟨Nat.le_of_ble_eq_true rfl, Nat.le_of_ble_eq_true rfl⟩ (Nat.le_of_ble_eq_true rfl)  ?_
      refine a_cs0 d_Fil_by_53 m_Fil_rightOf t_Fil_rightOf l_Fil_40 (s_Fil_rightOf _ _ _ _) rfl rfl ⟨Nat.le_of_ble_eq_true rfl, Nat.le_of_ble_eq_true rfl⟩ (Nat.le_of_ble_eq_true rfl)  ?_
      refine a_lxor d_Fil_by_56 ?_
      refine a_lstore d_Fil_by_57 (Nat.le_of_ble_eq_true rfl) (Nat.le_of_ble_eq_true rfl) rfl ?_
      refine a_goto 94 d_Fil_by_59 (by decide) ?_
      refine a_iinc d_Fil_by_94 rfl (nI_1 k) (Nat.le_of_ble_eq_true rfl) rfl ?_
      refine a_goto 6 d_Fil_by_97 (by decide) ?_
      refine a_drop 7 ?_
      refine a_eq rfl ?_ rfl (hu_hu _ _ _ _) rfl rfl (ih (k + 1) (by omega))
      rw [e0, if_pos c28]
      rfl
set_option maxRecDepth 20000 in
set_option maxHeartbeats 4000000 in
theorem s_Fil_by {s0 P b nv : Nat} {fi : Int32} {wi : Int64} {me bo wk jn sz : Int32} {dt : Int64} {xs ys co : Nat → Int32} {X Y : Nat → Int} {cn : Nat → Nat} (g19 : h 19 = oBrs wk dt jn sz) (g20 : h 20 = aI 144 xs) (g21 : h 21 = aI 144 ys) (g27 : h 27 = oPol) (g31 : h 31 = oFil) (g29 : h 29 = aI 144 co) (gb : h b = oBrd (nI s0) (nI P) fi wi me (nI nv) bo) (hb : 53 ≤ b) (hP : 0 < P) (hs : s0 + P ≤ 144) (hv : 0 < nv) (hvP : nv ≤ P) (Rw : Row xs ys s0 P X Y) (hc : ∀ k, k < nv → co (s0 + k) = nI (cn k) ∧ cn k < 1000) {c : Int32 × Int32 × Int32 × Int32 × Int32 × Int32} (g28 : h 28 = bdX X Y P nv cn c 0) (kind sh : Int32) : AMet V i_Fil_by 4 [.ref 31, .ref b, .int kind, .int sh] h n z (some (.long (byC V X Y P nv cn kind sh nv))) (hu h 28 (bdX X Y P nv cn c nv)) n z := by
  refine AMet.intro (Nat.le_refl _) (Nat.le_refl _) (by decide) (Nat.le_of_ble_eq_true rfl) rfl ?_
  refine a_lconst (v := 0) d_Fil_by_0 rfl ?_
  refine a_lstore d_Fil_by_1 (Nat.le_of_ble_eq_true rfl) (Nat.le_of_ble_eq_true rfl) rfl ?_
  refine a_iconst (v := 0) d_Fil_by_3 (by decide) ?_
  refine a_istore d_Fil_by_4 (Nat.le_of_ble_eq_true rfl) (Nat.le_of_ble_eq_true rfl) rfl ?_
  exact a_eq rfl rfl rfl (hu_same g28).symm rfl rfl (L_by g19 g20 g21 g27 g31 g29 gb hb hP hs hv hvP Rw hc g28 kind sh nv 0 (by omega))
end
