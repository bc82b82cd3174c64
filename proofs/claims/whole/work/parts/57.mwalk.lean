/-! THE MODEL'S WALK: printed by wip/whole/t57.py -/
theorem fRg_0 {x : Int} (hx : -100000 ≤ x ∧ x < 100000) {W : Nat} (hW : W ≤ 100000) : fRg (iI x) 0 (nI W - 1) = 0 ↔ ¬ (0 ≤ x ∧ x < W) := by
  have e1 : iI x < 0 ↔ x < 0 := by rw [iI_0]; exact iI_lt (by omega) (by omega) (by omega) (by omega)
  have e2 : nI W - 1 < iI x ↔ (W : Int) - 1 < x := by rw [iI_nat, iI_1, iI_sub]; exact iI_lt (by omega) (by omega) (by omega) (by omega)
  unfold fRg
  by_cases a : x < 0
  · rw [if_pos (e1.mpr a)]; simp; omega
  · rw [if_neg (fun q => a (e1.mp q))]
    by_cases b : (W : Int) - 1 < x
    · rw [if_pos (e2.mpr b)]; simp; omega
    · rw [if_neg (fun q => b (e2.mp q))]; simp; omega
theorem mDot_0 {x y : Int} (hx : -100000 ≤ x ∧ x < 100000) (hy : -100000 ≤ y ∧ y < 100000) {W H : Nat} (hW : W ≤ 100000) (hH : H ≤ 100000) : mDot (nI W) (nI H) (iI x) (iI y) = 0 ↔ ¬ (0 ≤ x ∧ x < W ∧ 0 ≤ y ∧ y < H) := by
  unfold mDot
  by_cases a : fRg (iI x) 0 (nI W - 1) = 0
  · rw [if_pos a]
    have := (fRg_0 hx hW).mp a
    simp; omega
  · rw [if_neg a]
    have a' := (not_congr (fRg_0 hx hW)).mp a
    by_cases b : fRg (iI y) 0 (nI H - 1) = 0
    · rw [if_pos b]
      have := (fRg_0 hy hH).mp b
      simp; omega
    · rw [if_neg b]
      have b' := (not_congr (fRg_0 hy hH)).mp b
      simp; omega
/-- what is in lies on the sheet -/
def Wh (W H : Nat) (D : Int64) : Prop := ∀ x y, inD D x y = true → x < W ∧ y < H
theorem pickI (rs : Int64) {k : Nat} (hk : k < 64) : (lg_cmp ((rs >>> ((nI k).toInt64 &&& 63)) &&& 1) 1 = 0) ↔ lb rs k = true := by
  rw [cmp0, lb_pickS k hk]
  cases lb rs k
  · simp
  · simp
theorem mRest_ok {W H : Nat} (hW : W ≤ 8) (hH : H ≤ 8) {rs : Int64} (hin : Wh W H rs) {x y : Int} (hx : -1000 ≤ x ∧ x < 1000) (hy : -1000 ≤ y ∧ y < 1000) : mRest (nI W) (nI H) rs (iI x) (iI y) = b2 (inD rs x y) := by
  unfold mRest
  by_cases a : 0 ≤ x ∧ x < W ∧ 0 ≤ y ∧ y < H
  · rw [if_neg (fun q => (mDot_0 (by omega) (by omega) (by omega) (by omega)).mp q a)]
    obtain ⟨p, rfl⟩ := Int.eq_ofNat_of_zero_le a.1
    obtain ⟨q, rfl⟩ := Int.eq_ofNat_of_zero_le a.2.2.1
    rw [show (8 : Int32) * iI (q : Int) + iI (p : Int) = nI (8 * q + p) by rw [← iI_nat, ← iI_nat, show (8 : Int32) = nI 8 from rfl, pk_mul, nI_add]]
    have e : inD rs (p : Int) (q : Int) = lb rs (8 * q + p) := by
      unfold inD
      rw [decide_eq_true (by omega), Bool.true_and, show (8 * (q : Int) + (p : Int)).toNat = 8 * q + p by omega]
    rw [e]
    unfold b2
    have := pickI rs (k := 8 * q + p) (by omega)
    by_cases c : lb rs (8 * q + p) = true
    · rw [if_pos (this.mpr c), if_pos c]
    · rw [if_neg (fun q => c (this.mp q)), if_neg c]
  · rw [if_pos ((mDot_0 (by omega) (by omega) (by omega) (by omega)).mpr a)]
    cases h : inD rs x y
    · rfl
    · have := inD_b h
      have := hin x y h
      omega
theorem mBes_ok {W H : Nat} (hW : W ≤ 8) (hH : H ≤ 8) {rs : Int64} (hin : Wh W H rs) {x y : Int} (hx : -900 ≤ x ∧ x < 900) (hy : -900 ≤ y ∧ y < 900) {d : Nat} (hd : d < 4) : mBes (nI W) (nI H) rs (iI x) (iI y) (nI d) (-1) = b2 (inD rs (x + ax d) (y + ay d)) ∧ mBes (nI W) (nI H) rs (iI x) (iI y) (nI d) 1 = b2 (inD rs (x + ax ((d + 1) % 4)) (y + ay ((d + 1) % 4))) := by
  unfold mBes
  have e1 : ∀ x : Int, iI x - 1 = iI (x - 1) := fun x => by rw [iI_1, iI_sub]
  rcases (show d = 0 ∨ d = 1 ∨ d = 2 ∨ d = 3 by omega) with rfl | rfl | rfl | rfl
  · rw [if_neg (show ¬ mDX (nI 0) (-1) ≤ 0 by decide), if_pos (show mDY (nI 0) (-1) ≤ 0 by decide), if_neg (show ¬ mDX (nI 0) 1 ≤ 0 by decide), if_neg (show ¬ mDY (nI 0) 1 ≤ 0 by decide), e1, mRest_ok hW hH hin (by omega) (by omega), mRest_ok hW hH hin (by omega) (by omega)]
    simp [ax, ay]; rfl
  · rw [if_neg (show ¬ mDX (nI 1) (-1) ≤ 0 by decide), if_neg (show ¬ mDY (nI 1) (-1) ≤ 0 by decide), if_pos (show mDX (nI 1) 1 ≤ 0 by decide), if_neg (show ¬ mDY (nI 1) 1 ≤ 0 by decide), e1, mRest_ok hW hH hin (by omega) (by omega), mRest_ok hW hH hin (by omega) (by omega)]
    simp [ax, ay]; rfl
  · rw [if_pos (show mDX (nI 2) (-1) ≤ 0 by decide), if_neg (show ¬ mDY (nI 2) (-1) ≤ 0 by decide), if_pos (show mDX (nI 2) 1 ≤ 0 by decide), if_pos (show mDY (nI 2) 1 ≤ 0 by decide), e1, e1, mRest_ok hW hH hin (by omega) (by omega), mRest_ok hW hH hin (by omega) (by omega)]
    simp [ax, ay]; exact ⟨rfl, rfl⟩
  · rw [if_pos (show mDX (nI 3) (-1) ≤ 0 by decide), if_pos (show mDY (nI 3) (-1) ≤ 0 by decide), if_neg (show ¬ mDX (nI 3) 1 ≤ 0 by decide), if_pos (show mDY (nI 3) 1 ≤ 0 by decide), e1, e1, mRest_ok hW hH hin (by omega) (by omega), mRest_ok hW hH hin (by omega) (by omega)]
    simp [ax, ay]; exact ⟨rfl, rfl⟩
theorem mTurn_ok {W H : Nat} (hW : W ≤ 8) (hH : H ≤ 8) {rs : Int64} (hin : Wh W H rs) {x y : Int} (hx : -900 ≤ x ∧ x < 900) (hy : -900 ≤ y ∧ y < 900) {d : Nat} (hd : d < 4) {j : Int32} (hj : j = 0 ∨ j = 1) : mTurn j (nI W) (nI H) rs (iI x) (iI y) (nI d) = nI (trn (decide (j = 1)) (inD rs (x + ax d) (y + ay d)) (inD rs (x + ax ((d + 1) % 4)) (y + ay ((d + 1) % 4))) d) := by
  unfold mTurn
  rw [(mBes_ok hW hH hin hx hy hd).1, (mBes_ok hW hH hin hx hy hd).2]
  generalize inD rs (x + ax d) (y + ay d) = p
  generalize inD rs (x + ax ((d + 1) % 4)) (y + ay ((d + 1) % 4)) = q
  rcases (show d = 0 ∨ d = 1 ∨ d = 2 ∨ d = 3 by omega) with rfl | rfl | rfl | rfl <;> rcases hj with rfl | rfl <;> cases p <;> cases q <;> decide
theorem fSX_ok {d : Nat} (hd : d < 4) : fSX (nI d) = iI (sx d) ∧ fSY (nI d) = iI (sy d) := by
  rcases (show d = 0 ∨ d = 1 ∨ d = 2 ∨ d = 3 by omega) with rfl | rfl | rfl | rfl <;> exact ⟨by decide, by decide⟩
section
variable {V : VV} {h : AH} {n z : Nat}

set_option maxRecDepth 20000 in
set_option maxHeartbeats 4000000 in
theorem E_mwalk {ac by_ la ra il mn : Int32} {rs : Int64} {tb ve oa lm : Int32} {st fr sz fx fy cx cy go : Nat → Int32} (g32 : h 32 = oMod ac by_ la ra il mn rs tb ve oa lm) (g33 : h 33 = aI 68 st) (g39 : h 39 = aI 40 fr) (g40 : h 40 = aI 40 sz) (g41 : h 41 = aI 40 fx) (g42 : h 42 = aI 40 fy) (g44 : h 44 = aI 160 cx) (g45 : h 45 = aI 160 cy) (g46 : h 46 = aI 160 go) {s b t : Nat} {J : Bool} (hb : b < 40) : AM V i_Mod_walks 5 n z none (hu (hu (hu (hu (hu h 44 (aI 160 (pt cx s (per J rs t) (wX J rs t)))) 45 (aI 160 (pt cy s (per J rs t) (wY J rs t)))) 46 (aI 160 (pt go s (per J rs t) (wW J rs t)))) 39 (aI 40 (upd fr b (nI s)))) 40 (aI 40 (upd sz b (nI (per J rs t))))) n z 24 [some (.ref 32), some (.int (nI s)), some (.int (nI b)), some (.int (wX J rs t (per J rs t))), some (.int (wY J rs t (per J rs t))), some (.int (wW J rs t (per J rs t))), some (.int (nI (per J rs t))), some (.int 0)] [] (hu (hu (hu h 44 (aI 160 (pt cx s (per J rs t) (wX J rs t)))) 45 (aI 160 (pt cy s (per J rs t) (wY J rs t)))) 46 (aI 160 (pt go s (per J rs t) (wW J rs t)))) n z := by
  refine a_iload d_Mod_walks_24 rfl ?_
  refine a_if_eq 129 d_Mod_walks_26 (by decide) (fun c26 => ?_) (fun c26 => absurd rfl c26)
  refine a_aload_n d_Mod_walks_129 rfl ?_
  refine a_getf d_Mod_walks_130 f_Mod_28 (show _ = oMod ac by_ la ra il mn rs tb ve oa lm from g32) rfl ?_
  refine a_iload_n d_Mod_walks_133 rfl ?_
  refine a_iload_n d_Mod_walks_134 rfl ?_
  refine a_iast d_Mod_walks_135 (show _ = aI 40 fr from g39) (nI_in (show b < 40 by omega) (by decide)) ?_
  refine a_aload_n d_Mod_walks_136 rfl ?_
  refine a_getf d_Mod_walks_137 f_Mod_31 (show _ = oMod ac by_ la ra il mn rs tb ve oa lm from g32) rfl ?_
  refine a_iload_n d_Mod_walks_140 rfl ?_
  refine a_iload d_Mod_walks_141 rfl ?_
  refine a_iast d_Mod_walks_143 (show _ = aI 40 sz from g40) (nI_in (show b < 40 by omega) (by decide)) ?_
  exact a_vret d_Mod_walks_144 rfl rfl (by rw [nI_clamp (by omega)]) rfl
set_option maxRecDepth 20000 in
set_option maxHeartbeats 4000000 in
theorem L_mwalk {ac by_ la ra il mn : Int32} {rs : Int64} {tb ve oa lm : Int32} {st fr sz fx fy cx cy go : Nat → Int32} (g32 : h 32 = oMod ac by_ la ra il mn rs tb ve oa lm) (g33 : h 33 = aI 68 st) (g39 : h 39 = aI 40 fr) (g40 : h 40 = aI 40 sz) (g41 : h 41 = aI 40 fx) (g42 : h 42 = aI 40 fy) (g44 : h 44 = aI 160 cx) (g45 : h 45 = aI 160 cy) (g46 : h 46 = aI 160 go) {W H s b t : Nat} {j : Int32} (e0 : st 0 = nI W) (e1 : st 1 = nI H) (e2 : st 2 = j) (hW : W ≤ 8) (hH : H ≤ 8) (hj : j = 0 ∨ j = 1) {J : Bool} (hJ : J = decide (j = 1)) (hin : Wh W H rs) (ht : t < 64) (hlb : lb rs t = true) (low : Low rs t) (hb : b < 40) (hs : s + per J rs t ≤ 144) (efx : fx b = iI ((t % 8 : Nat) : Int)) (efy : fy b = iI ((t / 8 : Nat) : Int)) : ∀ (m k : Nat), k + m + 1 = per J rs t → AM V i_Mod_walks 5 n z none (hu (hu (hu (hu (hu h 44 (aI 160 (pt cx s (per J rs t) (wX J rs t)))) 45 (aI 160 (pt cy s (per J rs t) (wY J rs t)))) 46 (aI 160 (pt go s (per J rs t) (wW J rs t)))) 39 (aI 40 (upd fr b (nI s)))) 40 (aI 40 (upd sz b (nI (per J rs t))))) n z 24 [some (.ref 32), some (.int (nI s)), some (.int (nI b)), some (.int (wX J rs t k)), some (.int (wY J rs t k)), some (.int (wW J rs t k)), some (.int (nI k)), some (.int 1)] [] (hu (hu (hu h 44 (aI 160 (pt cx s k (wX J rs t)))) 45 (aI 160 (pt cy s k (wY J rs t)))) 46 (aI 160 (pt go s k (wW J rs t)))) n z := by
  intro m
  induction m with
  | zero =>
    intro k hk
    have hK : wk J rs t (k + 1) = wk J rs t 0 := by rw [show k + 1 = per J rs t by omega]; exact (per_ret ht hlb low).1
    have hkP : k + 1 = per J rs t := by omega
    have v := wk_Val (J := J) ht hlb low k
    have gb := v.b
    have hd := v.1
    have a1 := sx_b (wk J rs t k).2.2
    have a2 := sy_b (wk J rs t k).2.2
    have eT := mTurn_ok hW hH hin (x := (wk J rs t k).1 + sx (wk J rs t k).2.2) (y := (wk J rs t k).2.1 + sy (wk J rs t k).2.2) (by omega) (by omega) hd hj
    rw [← hJ] at eT
    have x1 : iI ((wk J rs t k).1 + sx (wk J rs t k).2.2) = wX J rs t (k + 1) := rfl
    have y1 : iI ((wk J rs t k).2.1 + sy (wk J rs t k).2.2) = wY J rs t (k + 1) := rfl
    have w1 : mTurn j (nI W) (nI H) rs (wX J rs t (k + 1)) (wY J rs t (k + 1)) (nI (wk J rs t k).2.2) = wW J rs t (k + 1) := eT
    have hEq : hu (hu (hu (hu (hu (hu h 44 (aI 160 (pt cx s k (wX J rs t)))) 45 (aI 160 (pt cy s k (wY J rs t)))) 46 (aI 160 (pt go s k (wW J rs t)))) 44 (aI 160 (upd (pt cx s k (wX J rs t)) (nI (s + k)).toNatClampNeg (wX J rs t k)))) 45 (aI 160 (upd (pt cy s k (wY J rs t)) (nI (s + k)).toNatClampNeg (wY J rs t k)))) 46 (aI 160 (upd (pt go s k (wW J rs t)) (nI (s + k)).toNatClampNeg (wW J rs t k))) = (hu (hu (hu h 44 (aI 160 (pt cx s (k + 1) (wX J rs t)))) 45 (aI 160 (pt cy s (k + 1) (wY J rs t)))) 46 (aI 160 (pt go s (k + 1) (wW J rs t)))) := by
      rw [nI_clamp (by omega), pt_s, pt_s, pt_s]
      exact hu3 h (by decide) (by decide) (by decide) _ _ _ _ _ _
    have v1 := wk_Val (J := J) ht hlb low (k + 1)
    have gb1 := v1.b
    have hd1 := v1.1
    refine a_iload d_Mod_walks_24 rfl ?_
    refine a_if_eq 129 d_Mod_walks_26 (by decide) (fun c26 => absurd c26 (by decide)) (fun c26 => ?_)
    refine a_aload_n d_Mod_walks_29 rfl ?_
    refine a_getf d_Mod_walks_30 f_Mod_44 (show _ = oMod ac by_ la ra il mn rs tb ve oa lm from g32) rfl ?_
    refine a_iload_n d_Mod_walks_33 rfl ?_
    refine a_iload d_Mod_walks_34 rfl ?_
    refine a_iadd d_Mod_walks_36 ?_
    rw [nI_add]
    refine a_iload_n d_Mod_walks_37 rfl ?_
    refine a_iast d_Mod_walks_38 (show _ = aI 160 (pt cx s k (wX J rs t)) from rfl) (nI_in (show s + k < 160 by omega) (by decide)) ?_
    refine a_aload_n d_Mod_walks_39 rfl ?_
    refine a_getf d_Mod_walks_40 f_Mod_47 (show _ = oMod ac by_ la ra il mn rs tb ve oa lm from g32) rfl ?_
    refine a_iload_n d_Mod_walks_43 rfl ?_
    refine a_iload d_Mod_walks_44 rfl ?_
    refine a_iadd d_Mod_walks_46 ?_
    rw [nI_add]
    refine a_iload d_Mod_walks_47 rfl ?_
    refine a_iast d_Mod_walks_49 (show _ = aI 160 (pt cy s k (wY J rs t)) from rfl) (nI_in (show s + k < 160 by omega) (by decide)) ?_
    refine a_aload_n d_Mod_walks_50 rfl ?_
    refine a_getf d_Mod_walks_51 f_Mod_50 (show _ = oMod ac by_ la ra il mn rs tb ve oa lm from g32) rfl ?_
    refine a_iload_n d_Mod_walks_54 rfl ?_
    refine a_iload d_Mod_walks_55 rfl ?_
    refine a_iadd d_Mod_walks_57 ?_
    rw [nI_add]
    refine a_iload d_Mod_walks_58 rfl ?_
    refine a_iast d_Mod_walks_60 (show _ = aI 160 (pt go s k (wW J rs t)) from rfl) (nI_in (show s + k < 160 by omega) (by decide)) ?_
    rw [hEq]
    refine a_iinc d_Mod_walks_61 rfl (nI_1 k) (Nat.le_of_ble_eq_true rfl) rfl ?_
    refine a_iload_n d_Mod_walks_64 rfl ?_
    refine a_iload d_Mod_walks_65 rfl ?_
    refine a_cs0 d_Mod_walks_67 m_Mod_stepX t_Mod_stepX l_Mod_136 (s_Mod_stepX _) rfl rfl ⟨Nat.le_of_ble_eq_true rfl, Nat.le_of_ble_eq_true rfl⟩ (Nat.le_of_ble_eq_true rfl)  ?_
    refine a_iadd d_Mod_walks_70 ?_
    rw [show wW J rs t k = nI (wk J rs t k).2.2 from rfl, (fSX_ok hd).1, show wX J rs t k = iI (wk J rs t k).1 from rfl, iI_add, x1]
    refine a_istore_n d_Mod_walks_71 (Nat.le_of_ble_eq_true rfl) (Nat.le_of_ble_eq_true rfl) rfl ?_
    refine a_iload d_Mod_walks_72 rfl ?_
    refine a_iload d_Mod_walks_74 rfl ?_
    refine a_cs0 d_Mod_walks_76 m_Mod_stepY t_Mod_stepY l_Mod_139 (s_Mod_stepY _) rfl rfl ⟨Nat.le_of_ble_eq_true rfl, Nat.le_of_ble_eq_true rfl⟩ (Nat.le_of_ble_eq_true rfl)  ?_
    refine a_iadd d_Mod_walks_79 ?_
    rw [(fSX_ok hd).2, show wY J rs t k = iI (wk J rs t k).2.1 from rfl, iI_add, y1]
    refine a_istore d_Mod_walks_80 (Nat.le_of_ble_eq_true rfl) (Nat.le_of_ble_eq_true rfl) rfl ?_
    refine a_aload_n d_Mod_walks_82 rfl ?_
    refine a_iload_n d_Mod_walks_83 rfl ?_
    refine a_iload d_Mod_walks_84 rfl ?_
    refine a_iload d_Mod_walks_86 rfl ?_
    refine a_cv0 (a := 32) d_Mod_walks_88 m_Mod_turns t_Mod_turns l_Mod_149 (show _ = oMod ac by_ la ra il mn rs tb ve oa lm from g32) rfl rfl (s_Mod_turns (h := (hu (hu (hu h 44 (aI 160 (pt cx s (k + 1) (wX J rs t)))) 45 (aI 160 (pt cy s (k + 1) (wY J rs t)))) 46 (aI 160 (pt go s (k + 1) (wW J rs t))))) (show _ = oMod ac by_ la ra il mn rs tb ve oa lm from g32) (show _ = aI 68 st from g33) _ _ _) rfl rfl ⟨Nat.le_of_ble_eq_true rfl, Nat.le_of_ble_eq_true rfl⟩ (Nat.le_of_ble_eq_true rfl)  ?_
    rw [e2, e0, e1, w1]
    refine a_istore d_Mod_walks_91 (Nat.le_of_ble_eq_true rfl) (Nat.le_of_ble_eq_true rfl) rfl ?_
    refine a_iload_n d_Mod_walks_93 rfl ?_
    refine a_aload_n d_Mod_walks_94 rfl ?_
    refine a_getf d_Mod_walks_95 f_Mod_34 (show _ = oMod ac by_ la ra il mn rs tb ve oa lm from g32) rfl ?_
    refine a_iload_n d_Mod_walks_98 rfl ?_
    refine a_iald d_Mod_walks_99 (show _ = aI 40 fx from g41) (nI_in (show b < 40 by omega) (by decide)) ?_
    rw [nI_clamp (by omega), efx]
    refine a_icmp_ne 119 d_Mod_walks_100 (by decide) (fun c100 => absurd c100 (fun q => q (by unfold wX; rw [hK]; rfl))) (fun c100 => ?_)
    refine a_iload d_Mod_walks_103 rfl ?_
    refine a_aload_n d_Mod_walks_105 rfl ?_
    refine a_getf d_Mod_walks_106 f_Mod_37 (show _ = oMod ac by_ la ra il mn rs tb ve oa lm from g32) rfl ?_
    refine a_iload_n d_Mod_walks_109 rfl ?_
    refine a_iald d_Mod_walks_110 (show _ = aI 40 fy from g42) (nI_in (show b < 40 by omega) (by decide)) ?_
    rw [nI_clamp (by omega), efy]
    refine a_icmp_ne 119 d_Mod_walks_111 (by decide) (fun c111 => absurd c111 (fun q => q (by unfold wY; rw [hK]; rfl))) (fun c111 => ?_)
    refine a_iload d_Mod_walks_114 rfl ?_
    refine a_if_eq 123 d_Mod_walks_116 (by decide) (fun c116 => ?_) (fun c116 => absurd (by unfold wW; rw [hK]; rfl) c116)
    refine a_iconst (v := 0) d_Mod_walks_123 (by decide) ?_
    refine a_istore d_Mod_walks_124 (Nat.le_of_ble_eq_true rfl) (Nat.le_of_ble_eq_true rfl) rfl ?_
    refine a_goto 24 d_Mod_walks_126 (by decide) ?_
    rw [hkP]
    exact E_mwalk g32 g33 g39 g40 g41 g42 g44 g45 g46 hb
  | succ m ih =>
    intro k hk
    have hK : wk J rs t (k + 1) ≠ wk J rs t 0 := per_not (by omega)
    have v := wk_Val (J := J) ht hlb low k
    have gb := v.b
    have hd := v.1
    have a1 := sx_b (wk J rs t k).2.2
    have a2 := sy_b (wk J rs t k).2.2
    have eT := mTurn_ok hW hH hin (x := (wk J rs t k).1 + sx (wk J rs t k).2.2) (y := (wk J rs t k).2.1 + sy (wk J rs t k).2.2) (by omega) (by omega) hd hj
    rw [← hJ] at eT
    have x1 : iI ((wk J rs t k).1 + sx (wk J rs t k).2.2) = wX J rs t (k + 1) := rfl
    have y1 : iI ((wk J rs t k).2.1 + sy (wk J rs t k).2.2) = wY J rs t (k + 1) := rfl
    have w1 : mTurn j (nI W) (nI H) rs (wX J rs t (k + 1)) (wY J rs t (k + 1)) (nI (wk J rs t k).2.2) = wW J rs t (k + 1) := eT
    have hEq : hu (hu (hu (hu (hu (hu h 44 (aI 160 (pt cx s k (wX J rs t)))) 45 (aI 160 (pt cy s k (wY J rs t)))) 46 (aI 160 (pt go s k (wW J rs t)))) 44 (aI 160 (upd (pt cx s k (wX J rs t)) (nI (s + k)).toNatClampNeg (wX J rs t k)))) 45 (aI 160 (upd (pt cy s k (wY J rs t)) (nI (s + k)).toNatClampNeg (wY J rs t k)))) 46 (aI 160 (upd (pt go s k (wW J rs t)) (nI (s + k)).toNatClampNeg (wW J rs t k))) = (hu (hu (hu h 44 (aI 160 (pt cx s (k + 1) (wX J rs t)))) 45 (aI 160 (pt cy s (k + 1) (wY J rs t)))) 46 (aI 160 (pt go s (k + 1) (wW J rs t)))) := by
      rw [nI_clamp (by omega), pt_s, pt_s, pt_s]
      exact hu3 h (by decide) (by decide) (by decide) _ _ _ _ _ _
    have v1 := wk_Val (J := J) ht hlb low (k + 1)
    have gb1 := v1.b
    have hd1 := v1.1
    refine a_iload d_Mod_walks_24 rfl ?_
    refine a_if_eq 129 d_Mod_walks_26 (by decide) (fun c26 => absurd c26 (by decide)) (fun c26 => ?_)
    refine a_aload_n d_Mod_walks_29 rfl ?_
    refine a_getf d_Mod_walks_30 f_Mod_44 (show _ = oMod ac by_ la ra il mn rs tb ve oa lm from g32) rfl ?_
    refine a_iload_n d_Mod_walks_33 rfl ?_
    refine a_iload d_Mod_walks_34 rfl ?_
    refine a_iadd d_Mod_walks_36 ?_
    rw [nI_add]
    refine a_iload_n d_Mod_walks_37 rfl ?_
    refine a_iast d_Mod_walks_38 (show _ = aI 160 (pt cx s k (wX J rs t)) from rfl) (nI_in (show s + k < 160 by omega) (by decide)) ?_
    refine a_aload_n d_Mod_walks_39 rfl ?_
    refine a_getf d_Mod_walks_40 f_Mod_47 (show _ = oMod ac by_ la ra il mn rs tb ve oa lm from g32) rfl ?_
    refine a_iload_n d_Mod_walks_43 rfl ?_
    refine a_iload d_Mod_walks_44 rfl ?_
    refine a_iadd d_Mod_walks_46 ?_
    rw [nI_add]
    refine a_iload d_Mod_walks_47 rfl ?_
    refine a_iast d_Mod_walks_49 (show _ = aI 160 (pt cy s k (wY J rs t)) from rfl) (nI_in (show s + k < 160 by omega) (by decide)) ?_
    refine a_aload_n d_Mod_walks_50 rfl ?_
    refine a_getf d_Mod_walks_51 f_Mod_50 (show _ = oMod ac by_ la ra il mn rs tb ve oa lm from g32) rfl ?_
    refine a_iload_n d_Mod_walks_54 rfl ?_
    refine a_iload d_Mod_walks_55 rfl ?_
    refine a_iadd d_Mod_walks_57 ?_
    rw [nI_add]
    refine a_iload d_Mod_walks_58 rfl ?_
    refine a_iast d_Mod_walks_60 (show _ = aI 160 (pt go s k (wW J rs t)) from rfl) (nI_in (show s + k < 160 by omega) (by decide)) ?_
    rw [hEq]
    refine a_iinc d_Mod_walks_61 rfl (nI_1 k) (Nat.le_of_ble_eq_true rfl) rfl ?_
    refine a_iload_n d_Mod_walks_64 rfl ?_
    refine a_iload d_Mod_walks_65 rfl ?_
    refine a_cs0 d_Mod_walks_67 m_Mod_stepX t_Mod_stepX l_Mod_136 (s_Mod_stepX _) rfl rfl ⟨Nat.le_of_ble_eq_true rfl, Nat.le_of_ble_eq_true rfl⟩ (Nat.le_of_ble_eq_true rfl)  ?_
    refine a_iadd d_Mod_walks_70 ?_
    rw [show wW J rs t k = nI (wk J rs t k).2.2 from rfl, (fSX_ok hd).1, show wX J rs t k = iI (wk J rs t k).1 from rfl, iI_add, x1]
    refine a_istore_n d_Mod_walks_71 (Nat.le_of_ble_eq_true rfl) (Nat.le_of_ble_eq_true rfl) rfl ?_
    refine a_iload d_Mod_walks_72 rfl ?_
    refine a_iload d_Mod_walks_74 rfl ?_
    refine a_cs0 d_Mod_walks_76 m_Mod_stepY t_Mod_stepY l_Mod_139 (s_Mod_stepY _) rfl rfl ⟨Nat.le_of_ble_eq_true rfl, Nat.le_of_ble_eq_true rfl⟩ (Nat.le_of_ble_eq_true rfl)  ?_
    refine a_iadd d_Mod_walks_79 ?_
    rw [(fSX_ok hd).2, show wY J rs t k = iI (wk J rs t k).2.1 from rfl, iI_add, y1]
    refine a_istore d_Mod_walks_80 (Nat.le_of_ble_eq_true rfl) (Nat.le_of_ble_eq_true rfl) rfl ?_
    refine a_aload_n d_Mod_walks_82 rfl ?_
    refine a_iload_n d_Mod_walks_83 rfl ?_
    refine a_iload d_Mod_walks_84 rfl ?_
    refine a_iload d_Mod_walks_86 rfl ?_
    refine a_cv0 (a := 32) d_Mod_walks_88 m_Mod_turns t_Mod_turns l_Mod_149 (show _ = oMod ac by_ la ra il mn rs tb ve oa lm from g32) rfl rfl (s_Mod_turns (h := (hu (hu (hu h 44 (aI 160 (pt cx s (k + 1) (wX J rs t)))) 45 (aI 160 (pt cy s (k + 1) (wY J rs t)))) 46 (aI 160 (pt go s (k + 1) (wW J rs t))))) (show _ = oMod ac by_ la ra il mn rs tb ve oa lm from g32) (show _ = aI 68 st from g33) _ _ _) rfl rfl ⟨Nat.le_of_ble_eq_true rfl, Nat.le_of_ble_eq_true rfl⟩ (Nat.le_of_ble_eq_true rfl)  ?_
    rw [e2, e0, e1, w1]
    refine a_istore d_Mod_walks_91 (Nat.le_of_ble_eq_true rfl) (Nat.le_of_ble_eq_true rfl) rfl ?_
    refine a_iload_n d_Mod_walks_93 rfl ?_
    refine a_aload_n d_Mod_walks_94 rfl ?_
    refine a_getf d_Mod_walks_95 f_Mod_34 (show _ = oMod ac by_ la ra il mn rs tb ve oa lm from g32) rfl ?_
    refine a_iload_n d_Mod_walks_98 rfl ?_
    refine a_iald d_Mod_walks_99 (show _ = aI 40 fx from g41) (nI_in (show b < 40 by omega) (by decide)) ?_
    rw [nI_clamp (by omega), efx]
    refine a_icmp_ne 119 d_Mod_walks_100 (by decide) (fun c100 => ?_) (fun c100 => ?_)
    · skip
      refine a_iconst (v := 1) d_Mod_walks_119 (by decide) ?_
      refine a_goto 124 d_Mod_walks_120 (by decide) ?_
      refine a_istore d_Mod_walks_124 (Nat.le_of_ble_eq_true rfl) (Nat.le_of_ble_eq_true rfl) rfl ?_
      refine a_goto 24 d_Mod_walks_126 (by decide) ?_
      exact ih (k + 1) (by omega)
    · skip
      refine a_iload d_Mod_walks_103 rfl ?_
      refine a_aload_n d_Mod_walks_105 rfl ?_
      refine a_getf d_Mod_walks_106 f_Mod_37 (show _ = oMod ac by_ la ra il mn rs tb ve oa lm from g32) rfl ?_
      refine a_iload_n d_Mod_walks_109 rfl ?_
      refine a_iald d_Mod_walks_110 (show _ = aI 40 fy from g42) (nI_in (show b < 40 by omega) (by decide)) ?_
      rw [nI_clamp (by omega), efy]
      refine a_icmp_ne 119 d_Mod_walks_111 (by decide) (fun c111 => ?_) (fun c111 => ?_)
      · skip
        refine a_iconst (v := 1) d_Mod_walks_119 (by decide) ?_
        refine a_goto 124 d_Mod_walks_120 (by decide) ?_
        refine a_istore d_Mod_walks_124 (Nat.le_of_ble_eq_true rfl) (Nat.le_of_ble_eq_true rfl) rfl ?_
        refine a_goto 24 d_Mod_walks_126 (by decide) ?_
        exact ih (k + 1) (by omega)
      · skip
        refine a_iload d_Mod_walks_114 rfl ?_
        refine a_if_eq 123 d_Mod_walks_116 (by decide) (fun c116 => ?_) (fun c116 => ?_)
        · skip
          refine absurd ?_ hK
          unfold wX at c100
          unfold wY at c111
          unfold wW at c116
          rw [iI_eq (by omega) (by omega) (by omega) (by omega)] at c100 c111
          have i3 : (wk J rs t (k + 1)).2.2 = 0 := (nI_eq (by omega) (by omega)).mp c116
          refine Prod.ext c100 (Prod.ext c111 i3)
        · skip
          refine a_iconst (v := 1) d_Mod_walks_119 (by decide) ?_
          refine a_goto 124 d_Mod_walks_120 (by decide) ?_
          refine a_istore d_Mod_walks_124 (Nat.le_of_ble_eq_true rfl) (Nat.le_of_ble_eq_true rfl) rfl ?_
          refine a_goto 24 d_Mod_walks_126 (by decide) ?_
          exact ih (k + 1) (by omega)
set_option maxRecDepth 20000 in
set_option maxHeartbeats 4000000 in
theorem s_Mod_walks {ac by_ la ra il mn : Int32} {rs : Int64} {tb ve oa lm : Int32} {st fr sz fx fy cx cy go : Nat → Int32} (g32 : h 32 = oMod ac by_ la ra il mn rs tb ve oa lm) (g33 : h 33 = aI 68 st) (g39 : h 39 = aI 40 fr) (g40 : h 40 = aI 40 sz) (g41 : h 41 = aI 40 fx) (g42 : h 42 = aI 40 fy) (g44 : h 44 = aI 160 cx) (g45 : h 45 = aI 160 cy) (g46 : h 46 = aI 160 go) {W H s b t : Nat} {j : Int32} (e0 : st 0 = nI W) (e1 : st 1 = nI H) (e2 : st 2 = j) (hW : W ≤ 8) (hH : H ≤ 8) (hj : j = 0 ∨ j = 1) {J : Bool} (hJ : J = decide (j = 1)) (hin : Wh W H rs) (ht : t < 64) (hlb : lb rs t = true) (low : Low rs t) (hb : b < 40) (hs : s + per J rs t ≤ 144) (efx : fx b = iI ((t % 8 : Nat) : Int)) (efy : fy b = iI ((t / 8 : Nat) : Int)) : AMet V i_Mod_walks 5 [.ref 32, .int (nI s), .int (nI b)] h n z none (hu (hu (hu (hu (hu h 44 (aI 160 (pt cx s (per J rs t) (wX J rs t)))) 45 (aI 160 (pt cy s (per J rs t) (wY J rs t)))) 46 (aI 160 (pt go s (per J rs t) (wW J rs t)))) 39 (aI 40 (upd fr b (nI s)))) 40 (aI 40 (upd sz b (nI (per J rs t))))) n z := by
  have h0 : h = (hu (hu (hu h 44 (aI 160 (pt cx s 0 (wX J rs t)))) 45 (aI 160 (pt cy s 0 (wY J rs t)))) 46 (aI 160 (pt go s 0 (wW J rs t)))) := by
    rw [pt_0, pt_0, pt_0, hu_same g44, hu_same g45, hu_same g46]
  refine AMet.intro (Nat.le_refl _) (Nat.le_refl _) (by decide) (Nat.le_of_ble_eq_true rfl) rfl ?_
  refine a_aload_n d_Mod_walks_0 rfl ?_
  refine a_getf d_Mod_walks_1 f_Mod_34 g32 rfl ?_
  refine a_iload_n d_Mod_walks_4 rfl ?_
  refine a_iald d_Mod_walks_5 g41 (nI_in (show b < 40 by omega) (by decide)) ?_
  rw [nI_clamp (by omega), efx]
  refine a_istore_n d_Mod_walks_6 (Nat.le_of_ble_eq_true rfl) (Nat.le_of_ble_eq_true rfl) rfl ?_
  refine a_aload_n d_Mod_walks_7 rfl ?_
  refine a_getf d_Mod_walks_8 f_Mod_37 g32 rfl ?_
  refine a_iload_n d_Mod_walks_11 rfl ?_
  refine a_iald d_Mod_walks_12 g42 (nI_in (show b < 40 by omega) (by decide)) ?_
  rw [nI_clamp (by omega), efy]
  refine a_istore d_Mod_walks_13 (Nat.le_of_ble_eq_true rfl) (Nat.le_of_ble_eq_true rfl) rfl ?_
  refine a_iconst (v := 0) d_Mod_walks_15 (by decide) ?_
  refine a_istore d_Mod_walks_16 (Nat.le_of_ble_eq_true rfl) (Nat.le_of_ble_eq_true rfl) rfl ?_
  refine a_iconst (v := 0) d_Mod_walks_18 (by decide) ?_
  refine a_istore d_Mod_walks_19 (Nat.le_of_ble_eq_true rfl) (Nat.le_of_ble_eq_true rfl) rfl ?_
  refine a_iconst (v := 1) d_Mod_walks_21 (by decide) ?_
  refine a_istore d_Mod_walks_22 (Nat.le_of_ble_eq_true rfl) (Nat.le_of_ble_eq_true rfl) rfl ?_
  refine a_eq rfl ?_ rfl h0 rfl rfl (L_mwalk g32 g33 g39 g40 g41 g42 g44 g45 g46 e0 e1 e2 hW hH hj hJ hin ht hlb low hb hs efx efy (per J rs t - 1) 0 (by have := per_pos J rs t; omega))
  rfl
end
