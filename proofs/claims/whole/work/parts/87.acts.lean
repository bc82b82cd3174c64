/-! FRAMES, PICTURES, IMAGES OF BOTH: printed by wip/whole/t87.py -/
theorem bkL_lb {X1 X2 Y1 : Nat} (hX : X2 < 8) (hX1 : X1 < 8) : ∀ m, Y1 + m ≤ 8 → ∀ i, i < 64 → lb (bkL (nI X1) (nI X2) Y1 m) i = decide (Y1 ≤ i / 8 ∧ i / 8 < Y1 + m ∧ X1 ≤ i % 8 ∧ i % 8 ≤ X2)
  | 0, _, i, _ => by
    rw [show bkL (nI X1) (nI X2) Y1 0 = 0 from rfl, lb_0]
    exact (decide_eq_false (by omega)).symm
  | m + 1, h, i, hi => by
    have ih := bkL_lb (Y1 := Y1) hX hX1 m (by omega) i hi
    show lb (bkL (nI X1) (nI X2) Y1 m ||| (gRow (nI X1) (nI (Y1 + m)) &&& (gRow (nI X2 + 1) (nI (Y1 + m)) ^^^ (-1)))) i = _
    have e2 : lb (gRow (nI X2 + 1) (nI (Y1 + m))) i = decide (i / 8 = Y1 + m ∧ X2 + 1 ≤ i % 8) := by
      rw [nI_1]
      rcases Nat.lt_or_ge (X2 + 1) 8 with c | c
      · rw [iI_nat (X2 + 1), iI_nat (Y1 + m), gRow_in c (by omega)]
      · rw [iI_nat (X2 + 1), iI_nat (Y1 + m), gRow_out (by omega) (by omega) (by omega), lb_0]
        exact (decide_eq_false (by omega)).symm
    rw [lb_or, lb_and, ih, lb_not _ hi, e2, iI_nat X1, iI_nat (Y1 + m), gRow_in hX1 (by omega)]
    by_cases a : i / 8 = Y1 + m
    · by_cases b : X1 ≤ i % 8
      · by_cases c : i % 8 ≤ X2
        · rw [decide_eq_false (show ¬ (Y1 ≤ i / 8 ∧ i / 8 < Y1 + m ∧ X1 ≤ i % 8 ∧ i % 8 ≤ X2) by omega), decide_eq_true (show i / 8 = Y1 + m ∧ X1 ≤ i % 8 by omega), decide_eq_false (show ¬ (i / 8 = Y1 + m ∧ X2 + 1 ≤ i % 8) by omega), decide_eq_true (show Y1 ≤ i / 8 ∧ i / 8 < Y1 + (m + 1) ∧ X1 ≤ i % 8 ∧ i % 8 ≤ X2 by omega)]; rfl
        · rw [decide_eq_false (show ¬ (Y1 ≤ i / 8 ∧ i / 8 < Y1 + m ∧ X1 ≤ i % 8 ∧ i % 8 ≤ X2) by omega), decide_eq_true (show i / 8 = Y1 + m ∧ X2 + 1 ≤ i % 8 by omega), decide_eq_false (show ¬ (Y1 ≤ i / 8 ∧ i / 8 < Y1 + (m + 1) ∧ X1 ≤ i % 8 ∧ i % 8 ≤ X2) by omega)]
          simp
      · rw [decide_eq_false (show ¬ (Y1 ≤ i / 8 ∧ i / 8 < Y1 + m ∧ X1 ≤ i % 8 ∧ i % 8 ≤ X2) by omega), decide_eq_false (show ¬ (i / 8 = Y1 + m ∧ X1 ≤ i % 8) by omega), decide_eq_false (show ¬ (Y1 ≤ i / 8 ∧ i / 8 < Y1 + (m + 1) ∧ X1 ≤ i % 8 ∧ i % 8 ≤ X2) by omega)]; rfl
    · rw [decide_eq_false (show ¬ (i / 8 = Y1 + m ∧ X1 ≤ i % 8) by omega), Bool.false_and, Bool.or_false]
      exact decide_eq_decide.mpr (by omega)
theorem fLay_lb {D B : Int64} {v : Nat} (hv : v ≤ 2) {i : Nat} (hi : i < 64) : lb (fLay D B (nI v)) i = if lb B i then (if v = 2 then !lb D i else decide (v = 1)) else lb D i := by
  unfold fLay
  rcases (show v = 0 ∨ v = 1 ∨ v = 2 by omega) with rfl | rfl | rfl
  · rw [if_pos (by decide), lb_and, lb_not _ hi]
    cases lb B i <;> cases lb D i <;> rfl
  · rw [if_neg (by decide), if_pos (by decide), lb_or]
    cases lb B i <;> cases lb D i <;> rfl
  · rw [if_neg (by decide), if_neg (by decide), lb_xor]
    cases lb B i <;> cases lb D i <;> rfl
theorem rdQ_Wh {f : Nat → Int32} : ∀ a, 4 ≤ a → a < 1000 → Pre f a → Wh (rdQ f a).1 (rdQ f a).2.1 (rdQ f a).2.2
  | 0, h, _, _ => by omega
  | a + 1, h, hb, p => by
    rcases Nat.lt_or_ge a 4 with c | c
    · have e : (rdQ f (a + 1)).2.2 = 0 := by
        have e3 : a = 3 := by omega
        subst e3
        rfl
      rw [e]
      intro x y q
      unfold inD at q
      rw [lb_0, Bool.and_false] at q
      cases q
    · have ih := rdQ_Wh a c (by omega) (fun k hk => p k (by omega))
      obtain ⟨q1, q2⟩ := rdQ_s (f := f) c
      rw [q1]
      have hF := p a (by omega)
      rw [q2] at hF
      show Wh (rdQ f a).1 (rdQ f a).2.1 (rwD (rdQ f a).1 (a - 4) (f a) (rdQ f a).2.2)
      unfold rwD
      split
      · rename_i hc
        unfold rwF at hF
        by_cases c1 : (a - 4) / ((rdQ f a).1 + 1) < (rdQ f a).2.1
        · rw [if_pos c1] at hF
          by_cases c2 : (a - 4) % ((rdQ f a).1 + 1) = (rdQ f a).1
          · rw [if_pos c2, hc] at hF; exact absurd hF (by decide)
          · have hm := Nat.mod_lt (a - 4) (show 0 < (rdQ f a).1 + 1 by omega)
            have hd := Nat.div_le_self (a - 4) ((rdQ f a).1 + 1)
            have hm2 := Nat.mod_le (a - 4) ((rdQ f a).1 + 1)
            generalize (a - 4) / ((rdQ f a).1 + 1) = dv at *
            generalize (a - 4) % ((rdQ f a).1 + 1) = mv at *
            intro x y q
            have b := inD_b q
            obtain ⟨X, rfl⟩ := Int.eq_ofNat_of_zero_le b.1
            obtain ⟨Y, rfl⟩ := Int.eq_ofNat_of_zero_le b.2.2.1
            rw [inD_lb _ (by omega) (by omega), lb_or] at q
            cases d : lb (rdQ f a).2.2 (8 * Y + X) with
            | true => exact ih _ _ (by rw [inD_lb _ (by omega) (by omega)]; exact d)
            | false =>
              rw [d, Bool.false_or] at q
              by_cases o : mv < 8 ∧ dv < 8
              · rw [iI_nat (mv), iI_nat (dv), gBit_in o.1 o.2] at q
                have := of_decide_eq_true q
                omega
              · rw [iI_nat (mv), iI_nat (dv), gBit_out (by omega) (by omega) (by omega), lb_0] at q
                cases q
        · rw [if_neg c1] at hF; cases hF
      · exact ih
theorem rdN_Pre {f : Nat → Int32} {L : Nat} (h : rdN f L = 0) : Pre f L ∧ 4 ≤ L := by
  unfold rdN at h
  by_cases c : rdP f L < L
  · rw [if_pos c] at h
    have := fst1_yes (fun a => decide (rdF f a ≠ 0)) L c
    exact absurd h (of_decide_eq_true this)
  · rw [if_neg c] at h
    by_cases d : 4 ≤ L ∧ L = 4 + (rdQ f L).2.1 * ((rdQ f L).1 + 1)
    · refine ⟨fun k hk => ?_, d.1⟩
      have hle : rdP f L ≤ L := fst1_le _ _
      have := fst1_no (fun a => decide (rdF f a ≠ 0)) L k (show k < rdP f L by omega)
      simpa using this
    · rw [if_neg d] at h; cases h
theorem rdN_3 (f : Nat → Int32) (L : Nat) : rdN f L < 1000 := by
  unfold rdN
  split
  · rename_i c
    have := tFb f L (rdP f L)
    unfold tF_ at this
    rw [if_pos c] at this
    exact this
  · split <;> omega
section
variable {V : VV} {h : AH} {n z z0 : Nat}

theorem o_frame (I : INV z0 h n z) (x y x2 y2 v : Int32) : Op V i_Dot_frame i_Mod_frame 2 2 [.int x, .int y, .int x2, .int y2, .int v] z0 h n z := by
  obtain ⟨L, f, lf, W, H, D, j, s, k, ad, aj, ash, i0, i1, ra, A, K, Q, p, hL, hk, R⟩ := id I
  obtain ⟨il, mn, rs, tb, ve, oa, lm, st, g32, g33, es⟩ := Q.dat
  obtain ⟨s0, s1, s2, s3, s4⟩ := MB.st0 es
  obtain ⟨pa, im, ii, rd, g34, e1, g35, g36, e2, e3, g37, g38⟩ := id R
  have hW := p.1
  have hH := p.2.1
  have ed := fun x y => show mDot (st 0) (st 1) x y = fHas (nI W) (nI H) x y by rw [s0, s1]; exact mDot_fHas (by omega) (by omega) x y
  by_cases c : ¬ fHas (nI W) (nI H) x y = 0 ∧ ¬ fHas (nI W) (nI H) x2 y2 = 0 ∧ ¬ x2 < x ∧ ¬ y2 < y ∧ ¬ v < 0 ∧ v ≤ 2
  · obtain ⟨X1, Y1, hX1, hY1, ex, ey⟩ := fHas_ok (by omega) (by omega) c.1
    obtain ⟨X2, Y2, hX2, hY2, ex2, ey2⟩ := fHas_ok (by omega) (by omega) c.2.1
    subst ex ey ex2 ey2
    have hXX : X1 ≤ X2 := by
      rcases Nat.lt_or_ge X2 X1 with q | q
      · exact absurd (nI_lt q (by omega)) c.2.2.1
      · exact q
    have hYY : Y1 ≤ Y2 := by
      rcases Nat.lt_or_ge Y2 Y1 with q | q
      · exact absurd (nI_lt q (by omega)) c.2.2.2.1
      · exact q
    obtain ⟨vn, hvn, ev⟩ := nI_of2 (x := v) (M := 2) (n := 2) (by decide) c.2.2.2.2.1 c.2.2.2.2.2
    subst ev
    obtain ⟨h1, X, A1, f1⟩ := s_Dot_frame (V := V) (n := n) (z := z) A hk hYY (show Y2 < 8 by omega) c
    obtain ⟨D2, eD2⟩ : ∃ D2, D2 = fLay D (bkL (nI X1) (nI X2) Y1 (Y2 + 1 - Y1)) (nI vn) := ⟨_, rfl⟩
    rw [← eD2] at X A1
    rw [fBC_ok] at X
    have lbx : ∀ i, i < 64 → lb D2 i = if decide (Y1 ≤ i / 8 ∧ i / 8 < Y1 + (Y2 + 1 - Y1) ∧ X1 ≤ i % 8 ∧ i % 8 ≤ X2) then (if vn = 2 then !lb D i else decide (vn = 1)) else lb D i := fun i hi => by
      rw [eD2, fLay_lb hvn hi, bkL_lb (by omega) (by omega) _ (by omega) i hi]
    have en : ∀ i, i < 64 → frG st (nI vn) (fun x y => decide (X1 ≤ x ∧ x ≤ X2 ∧ Y1 ≤ y ∧ y ≤ Y2)) (4 + i) = if lb D2 i then 1 else 0 := by
      intro i hi
      unfold frG
      simp only
      rw [show 4 + i - 4 = i by omega, s4 i hi, lbx i hi]
      by_cases q : X1 ≤ i % 8 ∧ i % 8 ≤ X2 ∧ Y1 ≤ i / 8 ∧ i / 8 ≤ Y2
      · rw [if_pos ⟨by omega, by omega, decide_eq_true q⟩, decide_eq_true (show Y1 ≤ i / 8 ∧ i / 8 < Y1 + (Y2 + 1 - Y1) ∧ X1 ≤ i % 8 ∧ i % 8 ≤ X2 by omega), if_pos rfl]
        rcases (show vn = 0 ∨ vn = 1 ∨ vn = 2 by omega) with rfl | rfl | rfl
        · rw [if_neg (by decide)]; rfl
        · rw [if_neg (by decide)]; rfl
        · rw [if_pos (by decide)]
          cases lb D i <;> rfl
      · rw [if_neg (fun k => q (of_decide_eq_true k.2.2)), decide_eq_false (show ¬ (Y1 ≤ i / 8 ∧ i / 8 < Y1 + (Y2 + 1 - Y1) ∧ X1 ≤ i % 8 ∧ i % 8 ≤ X2) by omega), if_neg (show ¬ false = true by decide)]
    have k32 : h1 32 = oMod (nI k) (nI L) lf ra il mn rs tb ve oa lm := by rw [f1 32 (by decide)]; exact g32
    have k33 : h1 33 = aI 68 st := by rw [f1 33 (by decide)]; exact g33
    have k34 : h1 34 = aI 544 pa := by rw [f1 34 (by decide)]; exact g34
    obtain ⟨h2, Y, y32, y33, y34, f2⟩ := s_Mod_frame (V := V) (n := n) (z := z) k32 k33 k34 hk (show X2 < 8 by omega) (show Y2 < 8 by omega) hXX hYY (v := nI vn) ⟨fun q => c.1 ((ed _ _).symm.trans q), fun q => c.2.1 ((ed _ _).symm.trans q), c.2.2.1, c.2.2.2.1, fun q => (fRg_hi (nI vn) 2).mp q c.2.2.2.2⟩ (D2 := D2) en
    have en2 : ∀ i, i < 68 → frG st (nI vn) (fun x y => decide (X1 ≤ x ∧ x ≤ X2 ∧ Y1 ≤ y ∧ y ≤ Y2)) i = stF (W, H, D2, j, s) i := by
      intro i hi
      rcases Nat.lt_or_ge i 4 with q | q
      · unfold frG
        rw [if_neg (by omega), es i hi]
        rcases (show i = 0 ∨ i = 1 ∨ i = 2 ∨ i = 3 by omega) with rfl | rfl | rfl | rfl <;> rfl
      · obtain ⟨k', rfl⟩ : ∃ k', i = 4 + k' := ⟨i - 4, by omega⟩
        rw [en k' (by omega)]
        unfold stF
        simp only
        rw [if_neg (show ¬ 4 + k' = 0 by omega), if_neg (show ¬ 4 + k' = 1 by omega), if_neg (show ¬ 4 + k' = 2 by omega), if_neg (show ¬ 4 + k' = 3 by omega), show 4 + k' - 4 = k' by omega]
    have pn : PcOk W H D2 j := ⟨hW, hH, p.2.2.1, Wh_lb.mpr (fun i hi hh => by
      rw [lbx i hi] at hh
      by_cases q : Y1 ≤ i / 8 ∧ i / 8 < Y1 + (Y2 + 1 - Y1) ∧ X1 ≤ i % 8 ∧ i % 8 ≤ X2
      · omega
      · rw [decide_eq_false q, if_neg (by decide)] at hh
        exact Wh_lb.mp p.2.2.2 i hi hh)⟩
    refine Op.act K X Y A1 I.cls.2 f1 (fun i q => f2 i (by omega) (by omega) (by omega)) (ra := ra) ?_ pn hL (by unfold rmK; split <;> omega) ?_
    · exact (Q.of (h' := h1) (fun i a b => f1 i (by omega))).act y32 y33 en2 (fun i a b => f2 i (by omega) (by omega) (by omega))
    · refine ⟨_, im, ii, rd, y34, rm_ok hk p es e1, ?_, ?_, e2, e3, ?_, ?_⟩
      all_goals (rw [f2 _ (by decide) (by decide) (by decide), f1 _ (by decide)]; assumption)
  · refine Op.same I (s_Dot_frameB A c) (s_Mod_frameB g32 g33 (fun q => c ?_))
    rw [ed, ed] at q
    have q5 : ¬ v < 0 ∧ v ≤ 2 := Classical.byContradiction (fun k => q.2.2.2.2 ((fRg_hi v 2).mpr k))
    exact ⟨q.1, q.2.1, q.2.2.1, q.2.2.2.1, q5.1, q5.2⟩
theorem o_picture (I : INV z0 h n z) : Op V i_Dot_picture i_Mod_picture 3 5 [] z0 h n z := by
  obtain ⟨L, f, lf, W, H, D, j, s, k, ad, aj, ash, i0, i1, ra, A, K, Q, p, hL, hk, R⟩ := id I
  obtain ⟨il, mn, rs, tb, ve, oa, lm, st, g32, g33, es⟩ := Q.dat
  obtain ⟨s0, s1, s2, s3, s4⟩ := MB.st0 es
  obtain ⟨pa, im, ii, rd, g34, e1, g35, g36, e2, e3, g37, g38⟩ := id R
  by_cases hN : rdN f L = 0
  · obtain ⟨h1, X, A1, f1⟩ := s_Dot_picture (V := V) (n := n) (z := z) A hL hN
    rw [fBC_ok] at X
    obtain ⟨pr, h4⟩ := rdN_Pre hN
    have b := rdQ_b L pr
    have w_ := rdQ_Wh L h4 (by omega) pr
    have k32 : h1 32 = oMod (nI k) (nI L) lf ra il mn rs tb ve oa lm := by rw [f1 32 (by decide)]; exact g32
    have k33 : h1 33 = aI 68 st := by rw [f1 33 (by decide)]; exact g33
    have k37 : h1 37 = aI 90 f := by rw [f1 37 (by decide)]; exact g37
    have k38 : h1 38 = aI 68 rd := by rw [f1 38 (by decide)]; exact g38
    obtain ⟨h2, rd2, st2, Y, y32, y33, y3, y38, f2⟩ := s_Mod_picture (V := V) (n := n) (z := z) k32 k33 k37 k38 hL hN
    refine Op.act K X Y A1 I.cls.2 f1 (fun i q => f2 i (by omega) (by omega) (by omega)) (ra := nI (rdP f L)) ?_ ⟨b.1.1, b.2.1, Or.inl rfl, w_⟩ (by omega) (by omega) ?_
    · exact (Q.of (h' := h1) (fun i a b => f1 i (by omega))).act y32 y33 y3 (fun i a b => f2 i (by omega) (by omega) (by omega))
    · refine ⟨pa, im, ii, rd2, ?_, fun a ha => absurd ha (Nat.not_lt_zero _), ?_, ?_, e2, e3, ?_, y38⟩
      all_goals (rw [f2 _ (by decide) (by decide) (by decide), f1 _ (by decide)]; assumption)
  · obtain ⟨h1, X, A1, f1⟩ := s_Dot_pictureF (V := V) (n := n) (z := z) A hL hN (rdN_3 f L)
    have k32 : h1 32 = oMod (nI k) (nI L) lf ra il mn rs tb ve oa lm := by rw [f1 32 (by decide)]; exact g32
    have k33 : h1 33 = aI 68 st := by rw [f1 33 (by decide)]; exact g33
    have k37 : h1 37 = aI 90 f := by rw [f1 37 (by decide)]; exact g37
    have k38 : h1 38 = aI 68 rd := by rw [f1 38 (by decide)]; exact g38
    obtain ⟨h2, rd2, Y, y32, y38, f2⟩ := s_Mod_pictureF (V := V) (n := n) (z := z) k32 k33 k37 k38 hL hN (rdN_3 f L)
    refine Op.act K X Y A1 I.cls.2 f1 (fun i q => f2 i (by omega) (by omega)) (ra := nI (rdP f L)) ?_ p (by omega) hk ?_
    · refine (Q.of (h' := h1) (fun i a b => f1 i (by omega))).hd (fun il' mn' rs' tb' ve' oa' lm' q => ?_) (fun i a b d => f2 i (by omega) (by omega))
      rw [y32]
      have := k32.symm.trans q
      exact congrArg (fun c : AC => match c with | .inr (11, [a0, a1, a2, a3, a4, a5, a6, a7, a8, a9, a10, a11, a12, a13, a14, a15, a16, a17, a18, a19, a20, a21, a22, a23, a24, a25, a26, a27, a28, a29, a30]) => (.inr (11, [a0, a1, a2, a3, a4, a5, .int 0, .int (nI (rdN f L)), a8, .int (nI (rdP f L)), a10, a11, a12, a13, a14, a15, a16, a17, a18, a19, a20, a21, a22, a23, a24, a25, a26, a27, a28, a29, a30]) : AC) | c => c) this
    · refine ⟨pa, im, ii, rd2, ?_, e1, ?_, ?_, e2, e3, ?_, y38⟩
      all_goals (rw [f2 _ (by decide) (by decide), f1 _ (by decide)]; assumption)
theorem x_2 {x : Int32} (c : ¬ x < 0 ∧ x < 2) : x = 0 ∨ x = 1 := by
  have e0 : ((0 : Int32)).toInt = 0 := by decide
  have e2 : ((2 : Int32)).toInt = 2 := by decide
  have c1 := c.1
  have c2 := c.2
  rw [Int32.lt_iff_toInt_lt, e0] at c1
  rw [Int32.lt_iff_toInt_lt, e2] at c2
  rcases (show x.toInt = 0 ∨ x.toInt = 1 by omega) with q | q
  · exact Or.inl (Int32.toInt_inj.mp q)
  · exact Or.inr (Int32.toInt_inj.mp q)
theorem x_2n {x : Int32} (c : ¬ (¬ x < 0 ∧ x < 2)) : fRg x 0 1 = 0 := by
  refine (fRg_hi x 1).mpr (fun q => c ⟨q.1, ?_⟩)
  have e1 : ((1 : Int32)).toInt = 1 := by decide
  have e2 : ((2 : Int32)).toInt = 2 := by decide
  have q2 := q.2
  rw [Int32.le_iff_toInt_le, e1] at q2
  rw [Int32.lt_iff_toInt_lt, e2]
  omega
theorem o_image (I : INV z0 h n z) (x : Int32) : Op V i_Dot_image i_Mod_image 1 1 [.int x] z0 h n z := by
  obtain ⟨L, f, lf, W, H, D, j, s, k, ad, aj, ash, i0, i1, ra, A, K, Q, p, hL, hk, R⟩ := id I
  obtain ⟨il, mn, rs, tb, ve, oa, lm, st, g32, g33, es⟩ := Q.dat
  obtain ⟨s0, s1, s2, s3, s4⟩ := MB.st0 es
  obtain ⟨pa, im, ii, rd, g34, e1, g35, g36, e2, e3, g37, g38⟩ := id R
  have hW := p.1
  have st0 : st 0 ≤ 0 ↔ W = 0 := by
    rw [s0]
    constructor
    · intro q
      rcases Nat.eq_zero_or_pos W with c | c
      · exact c
      · exact absurd q (nI_nle c (by omega))
    · intro q; rw [q]; decide
  by_cases c : ¬ (¬ x < 0 ∧ x < 2)
  · exact Op.same I (s_Dot_imageB A c) (s_Mod_imageB g32 (x_2n c))
  rcases x_2 (Classical.not_not.mp c) with rfl | rfl
  · by_cases c0 : W = 0
    · exact Op.same I (s_Dot_image0S A c0) (s_Mod_imageS (q := 0) g32 g33 g35 g36 (by decide) (by decide) (st0.mpr c0))
    · obtain ⟨h1, X, A1, f1⟩ := s_Dot_image0 (V := V) (n := n) (z := z) A (by omega) hW
      have k32 : h1 32 = oMod (nI k) (nI L) lf ra il mn rs tb ve oa lm := by rw [f1 32 (by decide)]; exact g32
      have k33 : h1 33 = aI 68 st := by rw [f1 33 (by decide)]; exact g33
      have k35 : h1 35 = aI 136 im := by rw [f1 35 (by decide)]; exact g35
      have k36 : h1 36 = aI 2 ii := by rw [f1 36 (by decide)]; exact g36
      have Y := s_Mod_image (V := V) (n := n) (z := z) (q := 0) k32 k33 k35 k36 (by decide) (by decide) (fun q => c0 (st0.mp q))
      refine Op.act K X Y A1 I.cls.2 f1 (fun i q => by rw [hu_n (by omega), hu_n (by omega)]) (ra := ra) ?_ p hL hk ?_
      · refine (Q.of (h' := h1) (fun i a b => f1 i (by omega))).hd (fun il' mn' rs' tb' ve' oa' lm' q => ?_) (fun i a b d => by rw [hu_n (by omega), hu_n (by omega)])
        rw [hu_n (by decide), hu_n (by decide)]; exact q
      · refine ⟨pa, _, _, rd, ?_, e1, rfl, hu_s _ _ _, Or.inr ⟨by omega, pk_us, p, fun t ht => by rw [pt_in ht, Nat.zero_add]; exact es t ht⟩, (by
          rcases e3 with ⟨x1, x2⟩ | ⟨x1, x2, x3, x4⟩
          · exact Or.inl ⟨x1, by rw [pk_un (by decide)]; exact x2⟩
          · exact Or.inr ⟨x1, by rw [pk_un (by decide)]; exact x2, x3, fun t ht => by rw [pt_out (by omega)]; exact x4 t ht⟩), ?_, ?_⟩
        all_goals (rw [hu_n (by decide), hu_n (by decide), f1 _ (by decide)]; assumption)
  · by_cases c0 : W = 0
    · exact Op.same I (s_Dot_image1S A c0) (s_Mod_imageS (q := 1) g32 g33 g35 g36 (by decide) (by decide) (st0.mpr c0))
    · obtain ⟨h1, X, A1, f1⟩ := s_Dot_image1 (V := V) (n := n) (z := z) A (by omega) hW
      have k32 : h1 32 = oMod (nI k) (nI L) lf ra il mn rs tb ve oa lm := by rw [f1 32 (by decide)]; exact g32
      have k33 : h1 33 = aI 68 st := by rw [f1 33 (by decide)]; exact g33
      have k35 : h1 35 = aI 136 im := by rw [f1 35 (by decide)]; exact g35
      have k36 : h1 36 = aI 2 ii := by rw [f1 36 (by decide)]; exact g36
      have Y := s_Mod_image (V := V) (n := n) (z := z) (q := 1) k32 k33 k35 k36 (by decide) (by decide) (fun q => c0 (st0.mp q))
      refine Op.act K X Y A1 I.cls.2 f1 (fun i q => by rw [hu_n (by omega), hu_n (by omega)]) (ra := ra) ?_ p hL hk ?_
      · refine (Q.of (h' := h1) (fun i a b => f1 i (by omega))).hd (fun il' mn' rs' tb' ve' oa' lm' q => ?_) (fun i a b d => by rw [hu_n (by omega), hu_n (by omega)])
        rw [hu_n (by decide), hu_n (by decide)]; exact q
      · refine ⟨pa, _, _, rd, ?_, e1, rfl, hu_s _ _ _, (by
          rcases e2 with ⟨x1, x2⟩ | ⟨x1, x2, x3, x4⟩
          · exact Or.inl ⟨x1, by rw [pk_un (by decide)]; exact x2⟩
          · exact Or.inr ⟨x1, by rw [pk_un (by decide)]; exact x2, x3, fun t ht => by rw [pt_out (by omega)]; exact x4 t ht⟩), Or.inr ⟨by omega, pk_us, p, fun t ht => by rw [pt_in ht, Nat.zero_add]; exact es t ht⟩, ?_, ?_⟩
        all_goals (rw [hu_n (by decide), hu_n (by decide), f1 _ (by decide)]; assumption)
theorem o_restore (I : INV z0 h n z) (x : Int32) : Op V i_Dot_restore i_Mod_restore 1 1 [.int x] z0 h n z := by
  obtain ⟨L, f, lf, W, H, D, j, s, k, ad, aj, ash, i0, i1, ra, A, K, Q, p, hL, hk, R⟩ := id I
  obtain ⟨il, mn, rs, tb, ve, oa, lm, st, g32, g33, es⟩ := Q.dat
  obtain ⟨s0, s1, s2, s3, s4⟩ := MB.st0 es
  obtain ⟨pa, im, ii, rd, g34, e1, g35, g36, e2, e3, g37, g38⟩ := id R
  by_cases c : ¬ (¬ x < 0 ∧ x < 2)
  · exact Op.same I (s_Dot_restoreB A c) (s_Mod_restoreB g32 (x_2n c))
  rcases x_2 (Classical.not_not.mp c) with rfl | rfl
  · rcases id e2 with ⟨x1, x2⟩ | ⟨x1, x2, x3, x4⟩
    · exact Op.same I (s_Dot_restore0S A x1) (s_Mod_restoreS (q := 0) g32 g33 g35 g36 (by decide) (by decide) x2)
    · obtain ⟨h1, X, A1, f1⟩ := s_Dot_restore0 (V := V) (n := n) (z := z) A x1 x3.1
      have k32 : h1 32 = oMod (nI k) (nI L) lf ra il mn rs tb ve oa lm := by rw [f1 32 (by decide)]; exact g32
      have k33 : h1 33 = aI 68 st := by rw [f1 33 (by decide)]; exact g33
      have k35 : h1 35 = aI 136 im := by rw [f1 35 (by decide)]; exact g35
      have k36 : h1 36 = aI 2 ii := by rw [f1 36 (by decide)]; exact g36
      have Y := s_Mod_restore (V := V) (n := n) (z := z) (q := 0) k32 k33 k35 k36 (by decide) (by decide) (by rw [x2]; decide)
      refine Op.act (k := 0) (W := i0.1) (H := i0.2.1) (D := i0.2.2.1) (j := i0.2.2.2.1) (s := i0.2.2.2.2) K X Y A1 I.cls.2 f1 (fun i q => by rw [hu_n (by omega), hu_n (by omega), hu_n (by omega)]) (ra := ra) ?_ x3 hL (by omega) ?_
      · refine (Q.of (h' := h1) (fun i a b => f1 i (by omega))).act (hu_s _ _ _) rfl (fun i hi => ?_) (fun i a b => by rw [hu_n (by omega), hu_n (by omega), hu_n (by omega)])
        have := pt_in (f := st) (s := 0) (m := 68) (g := fun t => im (68 * 0 + t)) hi
        rw [Nat.zero_add] at this
        rw [this]
        have x5 := x4 i hi; rw [show 68 * 0 + i = i by omega] at x5; exact x5
      · refine ⟨pa, im, ii, rd, ?_, fun a ha => absurd ha (Nat.not_lt_zero _), ?_, ?_, e2, e3, ?_, ?_⟩
        all_goals (rw [hu_n (by decide), hu_n (by decide), hu_n (by decide), f1 _ (by decide)]; assumption)
  · rcases id e3 with ⟨x1, x2⟩ | ⟨x1, x2, x3, x4⟩
    · exact Op.same I (s_Dot_restore1S A x1) (s_Mod_restoreS (q := 1) g32 g33 g35 g36 (by decide) (by decide) x2)
    · obtain ⟨h1, X, A1, f1⟩ := s_Dot_restore1 (V := V) (n := n) (z := z) A x1 x3.1
      have k32 : h1 32 = oMod (nI k) (nI L) lf ra il mn rs tb ve oa lm := by rw [f1 32 (by decide)]; exact g32
      have k33 : h1 33 = aI 68 st := by rw [f1 33 (by decide)]; exact g33
      have k35 : h1 35 = aI 136 im := by rw [f1 35 (by decide)]; exact g35
      have k36 : h1 36 = aI 2 ii := by rw [f1 36 (by decide)]; exact g36
      have Y := s_Mod_restore (V := V) (n := n) (z := z) (q := 1) k32 k33 k35 k36 (by decide) (by decide) (by rw [x2]; decide)
      refine Op.act (k := 0) (W := i1.1) (H := i1.2.1) (D := i1.2.2.1) (j := i1.2.2.2.1) (s := i1.2.2.2.2) K X Y A1 I.cls.2 f1 (fun i q => by rw [hu_n (by omega), hu_n (by omega), hu_n (by omega)]) (ra := ra) ?_ x3 hL (by omega) ?_
      · refine (Q.of (h' := h1) (fun i a b => f1 i (by omega))).act (hu_s _ _ _) rfl (fun i hi => ?_) (fun i a b => by rw [hu_n (by omega), hu_n (by omega), hu_n (by omega)])
        have := pt_in (f := st) (s := 0) (m := 68) (g := fun t => im (68 * 1 + t)) hi
        rw [Nat.zero_add] at this
        rw [this]
        exact x4 i hi
      · refine ⟨pa, im, ii, rd, ?_, fun a ha => absurd ha (Nat.not_lt_zero _), ?_, ?_, e2, e3, ?_, ?_⟩
        all_goals (rw [hu_n (by decide), hu_n (by decide), hu_n (by decide), f1 _ (by decide)]; assumption)
end
