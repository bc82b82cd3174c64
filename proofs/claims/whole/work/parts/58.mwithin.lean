/-! THE MODEL, what lies within a border: printed by wip/whole/t58.py -/
theorem xr_cnt (f : Nat → Bool) : ∀ n, xr f n = decide (cnt f n % 2 = 1)
  | 0 => rfl
  | n + 1 => by
    have e : cnt f (n + 1) = cnt f n + (if f n then 1 else 0) := rfl
    show (xr f n ^^ f n) = decide (cnt f (n + 1) % 2 = 1)
    rw [xr_cnt f n]
    by_cases c : f n = true
    · rw [if_pos c] at e
      rw [c]
      by_cases q : cnt f n % 2 = 1
      · rw [decide_eq_true q]; exact (decide_eq_false (by omega)).symm
      · rw [decide_eq_false q]; exact (decide_eq_true (by omega)).symm
    · rw [if_neg c, Nat.add_zero] at e
      rw [e, show f n = false by simpa using c, Bool.xor_false]
      rfl
theorem vt_1 {w : WS} (h : w.2.2 = 1) (X Y : Int) : vt w X Y = decide (w.2.1 = Y ∧ w.1 ≤ X) := by
  unfold vt eX eY
  rw [h]
  exact decide_eq_decide.mpr (by simp)
theorem vt_3 {w : WS} (h : w.2.2 = 3) (X Y : Int) : vt w X Y = decide (w.2.1 - 1 = Y ∧ w.1 ≤ X) := by
  unfold vt eX eY
  rw [h]
  exact decide_eq_decide.mpr (by simp)
theorem vt_02 {w : WS} (h : w.2.2 = 0 ∨ w.2.2 = 2) (X Y : Int) : vt w X Y = false := by
  unfold vt
  exact decide_eq_false (by omega)
theorem cnt_bt {f : Nat → Bool} {k : Nat} (c : f k = true) : nI (cnt f k) + 1 = nI (cnt f (k + 1)) := by
  simp only [cnt]
  rw [if_pos c, nI_1]
theorem cnt_bf {f : Nat → Bool} {k : Nat} (c : f k = false) : nI (cnt f k) + 0 = nI (cnt f (k + 1)) := by
  simp only [cnt]
  rw [if_neg (by rw [c]; decide), Nat.add_zero, Int32.add_zero]
section
variable {V : VV} {h : AH} {n z : Nat}

set_option maxRecDepth 20000 in
set_option maxHeartbeats 4000000 in
theorem L_within {ac by_ la ra il mn : Int32} {rs0 : Int64} {tb ve oa lm : Int32} {fr sz cx cy go : Nat → Int32} (g32 : h 32 = oMod ac by_ la ra il mn rs0 tb ve oa lm) (g39 : h 39 = aI 40 fr) (g40 : h 40 = aI 40 sz) (g44 : h 44 = aI 160 cx) (g45 : h 45 = aI 160 cy) (g46 : h 46 = aI 160 go) {s b t P X Y : Nat} {J : Bool} {rs : Int64} (v : ∀ k, Val rs (wk J rs t k)) (hb : b < 40) (hs : s + P ≤ 144) (efr : fr b = nI s) (esz : sz b = nI P) (rw_ : ∀ k, k < P → cx (s + k) = wX J rs t k ∧ cy (s + k) = wY J rs t k ∧ go (s + k) = wW J rs t k) (hX : X < 8) (hY : Y < 8) : ∀ (m k : Nat), k + m = P → AM V i_Mod_isWithin 0 n z (some (.int (if wiB J rs t P X Y then 1 else 0))) h n z 11 [some (.ref 32), some (.int (nI b)), some (.int (nI X)), some (.int (nI Y)), some (.int (nI (cnt (fun k => vt (wk J rs t k) (X : Int) (Y : Int)) k))), some (.int (nI (s + k))), none] [] h n z := by
  have sub1 : ∀ k, wY J rs t k - 1 = iI ((wk J rs t k).2.1 - 1) := fun k => by unfold wY; rw [iI_1, iI_sub]
  intro m
  induction m with
  | zero =>
    intro k hk
    have e : k = P := by omega
    subst e
    have er : wiB J rs t k X Y = decide (cnt (fun k => vt (wk J rs t k) (X : Int) (Y : Int)) k % 2 = 1) := xr_cnt _ _
    have hc := cnt_le (fun k => vt (wk J rs t k) (X : Int) (Y : Int)) k
    have e2 : nI (cnt (fun k => vt (wk J rs t k) (X : Int) (Y : Int)) k) - nI (cnt (fun k => vt (wk J rs t k) (X : Int) (Y : Int)) k) / 2 * 2 = nI (cnt (fun k => vt (wk J rs t k) (X : Int) (Y : Int)) k % 2) := by
      rw [show (2 : Int32) = nI 2 from rfl]
      exact pk_rem (by omega) (by omega) (by omega)
    refine a_iload d_Mod_isWithin_11 rfl ?_
    refine a_aload_n d_Mod_isWithin_13 rfl ?_
    refine a_getf d_Mod_isWithin_14 f_Mod_28 g32 rfl ?_
    refine a_iload_n d_Mod_isWithin_17 rfl ?_
    refine a_iald d_Mod_isWithin_18 g39 (nI_in (show b < 40 by omega) (by decide)) ?_
    rw [nI_clamp (by omega), efr]
    refine a_aload_n d_Mod_isWithin_19 rfl ?_
    refine a_getf d_Mod_isWithin_20 f_Mod_31 g32 rfl ?_
    refine a_iload_n d_Mod_isWithin_23 rfl ?_
    refine a_iald d_Mod_isWithin_24 g40 (nI_in (show b < 40 by omega) (by decide)) ?_
    rw [nI_clamp (by omega), esz]
    refine a_iadd d_Mod_isWithin_25 ?_
    rw [nI_add]
    refine a_icmp_ge 109 d_Mod_isWithin_26 (by decide) (fun c26 => ?_) (fun c26 => absurd (Int32.le_refl _) c26)
    refine a_iload d_Mod_isWithin_109 rfl ?_
    refine a_iconst (v := 2) d_Mod_isWithin_111 (by decide) ?_
    refine a_irem d_Mod_isWithin_112 (by decide) ?_
    rw [e2]
    refine a_iconst (v := 1) d_Mod_isWithin_113 (by decide) ?_
    refine a_icmp_ne 121 d_Mod_isWithin_114 (by decide) (fun c114 => ?_) (fun c114 => ?_)
    · skip
      refine a_iconst (v := 0) d_Mod_isWithin_121 (by decide) ?_
      exact a_zret d_Mod_isWithin_122 rfl (by decide) (by first | exact (by rw [er, decide_eq_true ((nI_eq (b := 1) (by omega) (by omega)).mp c114)]; rfl) | exact (by rw [er, decide_eq_false (fun q => c114 (by rw [q]; rfl))]; rfl)) rfl rfl
    · skip
      refine a_iconst (v := 1) d_Mod_isWithin_117 (by decide) ?_
      refine a_goto 122 d_Mod_isWithin_118 (by decide) ?_
      exact a_zret d_Mod_isWithin_122 rfl (by decide) (by first | exact (by rw [er, decide_eq_true ((nI_eq (b := 1) (by omega) (by omega)).mp c114)]; rfl) | exact (by rw [er, decide_eq_false (fun q => c114 (by rw [q]; rfl))]; rfl)) rfl rfl
  | succ m ih =>
    intro k hk
    obtain ⟨r1, r2, r3⟩ := rw_ k (by omega)
    have gb := (v k).b
    have sub1 := sub1 k
    rcases (show (wk J rs t k).2.2 = 0 ∨ (wk J rs t k).2.2 = 1 ∨ (wk J rs t k).2.2 = 2 ∨ (wk J rs t k).2.2 = 3 by omega) with hd | hd | hd | hd
    · have hwk : wW J rs t k = 0 := by unfold wW; rw [hd]; rfl
      refine a_iload d_Mod_isWithin_11 rfl ?_
      refine a_aload_n d_Mod_isWithin_13 rfl ?_
      refine a_getf d_Mod_isWithin_14 f_Mod_28 g32 rfl ?_
      refine a_iload_n d_Mod_isWithin_17 rfl ?_
      refine a_iald d_Mod_isWithin_18 g39 (nI_in (show b < 40 by omega) (by decide)) ?_
      rw [nI_clamp (by omega), efr]
      refine a_aload_n d_Mod_isWithin_19 rfl ?_
      refine a_getf d_Mod_isWithin_20 f_Mod_31 g32 rfl ?_
      refine a_iload_n d_Mod_isWithin_23 rfl ?_
      refine a_iald d_Mod_isWithin_24 g40 (nI_in (show b < 40 by omega) (by decide)) ?_
      rw [nI_clamp (by omega), esz]
      refine a_iadd d_Mod_isWithin_25 ?_
      rw [nI_add]
      refine a_icmp_ge 109 d_Mod_isWithin_26 (by decide) (fun c26 => absurd c26 (nI_ge (show s + k < s + P by omega) (by omega))) (fun c26 => ?_)
      refine a_aload_n d_Mod_isWithin_29 rfl ?_
      refine a_getf d_Mod_isWithin_30 f_Mod_50 g32 rfl ?_
      refine a_iload d_Mod_isWithin_33 rfl ?_
      refine a_iald d_Mod_isWithin_35 g46 (nI_in (show s + k < 160 by omega) (by decide)) ?_
      rw [nI_clamp (by omega), r3, hwk]
      refine a_iconst (v := 1) d_Mod_isWithin_36 (by decide) ?_
      refine a_icmp_ne 50 d_Mod_isWithin_37 (by decide) (fun c37 => ?_) (fun c37 => absurd c37 (by decide))
      refine a_aload_n d_Mod_isWithin_50 rfl ?_
      refine a_getf d_Mod_isWithin_51 f_Mod_50 g32 rfl ?_
      refine a_iload d_Mod_isWithin_54 rfl ?_
      refine a_iald d_Mod_isWithin_56 g46 (nI_in (show s + k < 160 by omega) (by decide)) ?_
      rw [nI_clamp (by omega), r3, hwk]
      refine a_iconst (v := 3) d_Mod_isWithin_57 (by decide) ?_
      refine a_icmp_ne 73 d_Mod_isWithin_58 (by decide) (fun c58 => ?_) (fun c58 => absurd c58 (by decide))
      refine a_iconst (v := -1) d_Mod_isWithin_73 (by decide) ?_
      refine a_istore d_Mod_isWithin_74 (Nat.le_of_ble_eq_true rfl) (Nat.le_of_ble_eq_true rfl) rfl ?_
      refine a_iload d_Mod_isWithin_76 rfl ?_
      refine a_iload d_Mod_isWithin_78 rfl ?_
      refine a_iload_n d_Mod_isWithin_80 rfl ?_
      refine a_icmp_ne 99 d_Mod_isWithin_81 (by decide) (fun c81 => ?_) (fun c81 => absurd c81 (fun q => absurd ((iI_eq (a := -1) (b := (Y : Int)) (by omega) (by omega) (by omega) (by omega)).mp (by rw [← iI_nat]; exact q)) (by omega)))
      refine a_iconst (v := 0) d_Mod_isWithin_99 (by decide) ?_
      refine a_iadd d_Mod_isWithin_100 ?_
      refine a_istore d_Mod_isWithin_101 (Nat.le_of_ble_eq_true rfl) (Nat.le_of_ble_eq_true rfl) rfl ?_
      refine a_iinc d_Mod_isWithin_103 rfl (nI_1 (s + k)) (Nat.le_of_ble_eq_true rfl) rfl ?_
      refine a_goto 11 d_Mod_isWithin_106 (by decide) ?_
      have ev : vt (wk J rs t k) (X : Int) (Y : Int) = false := vt_02 (by omega) _ _
      rw [cnt_bf (f := (fun k => vt (wk J rs t k) (X : Int) (Y : Int))) ev]
      refine a_drop 6 ?_
      exact ih (k + 1) (by omega)
    · have hwk : wW J rs t k = 1 := by unfold wW; rw [hd]; rfl
      refine a_iload d_Mod_isWithin_11 rfl ?_
      refine a_aload_n d_Mod_isWithin_13 rfl ?_
      refine a_getf d_Mod_isWithin_14 f_Mod_28 g32 rfl ?_
      refine a_iload_n d_Mod_isWithin_17 rfl ?_
      refine a_iald d_Mod_isWithin_18 g39 (nI_in (show b < 40 by omega) (by decide)) ?_
      rw [nI_clamp (by omega), efr]
      refine a_aload_n d_Mod_isWithin_19 rfl ?_
      refine a_getf d_Mod_isWithin_20 f_Mod_31 g32 rfl ?_
      refine a_iload_n d_Mod_isWithin_23 rfl ?_
      refine a_iald d_Mod_isWithin_24 g40 (nI_in (show b < 40 by omega) (by decide)) ?_
      rw [nI_clamp (by omega), esz]
      refine a_iadd d_Mod_isWithin_25 ?_
      rw [nI_add]
      refine a_icmp_ge 109 d_Mod_isWithin_26 (by decide) (fun c26 => absurd c26 (nI_ge (show s + k < s + P by omega) (by omega))) (fun c26 => ?_)
      refine a_aload_n d_Mod_isWithin_29 rfl ?_
      refine a_getf d_Mod_isWithin_30 f_Mod_50 g32 rfl ?_
      refine a_iload d_Mod_isWithin_33 rfl ?_
      refine a_iald d_Mod_isWithin_35 g46 (nI_in (show s + k < 160 by omega) (by decide)) ?_
      rw [nI_clamp (by omega), r3, hwk]
      refine a_iconst (v := 1) d_Mod_isWithin_36 (by decide) ?_
      refine a_icmp_ne 50 d_Mod_isWithin_37 (by decide) (fun c37 => absurd c37 (fun q => q (by decide))) (fun c37 => ?_)
      refine a_aload_n d_Mod_isWithin_40 rfl ?_
      refine a_getf d_Mod_isWithin_41 f_Mod_47 g32 rfl ?_
      refine a_iload d_Mod_isWithin_44 rfl ?_
      refine a_iald d_Mod_isWithin_46 g45 (nI_in (show s + k < 160 by omega) (by decide)) ?_
      rw [nI_clamp (by omega), r2]
      refine a_goto 74 d_Mod_isWithin_47 (by decide) ?_
      refine a_istore d_Mod_isWithin_74 (Nat.le_of_ble_eq_true rfl) (Nat.le_of_ble_eq_true rfl) rfl ?_
      refine a_iload d_Mod_isWithin_76 rfl ?_
      refine a_iload d_Mod_isWithin_78 rfl ?_
      refine a_iload_n d_Mod_isWithin_80 rfl ?_
      refine a_icmp_ne 99 d_Mod_isWithin_81 (by decide) (fun c81 => ?_) (fun c81 => ?_)
      · skip
        refine a_iconst (v := 0) d_Mod_isWithin_99 (by decide) ?_
        refine a_iadd d_Mod_isWithin_100 ?_
        refine a_istore d_Mod_isWithin_101 (Nat.le_of_ble_eq_true rfl) (Nat.le_of_ble_eq_true rfl) rfl ?_
        refine a_iinc d_Mod_isWithin_103 rfl (nI_1 (s + k)) (Nat.le_of_ble_eq_true rfl) rfl ?_
        refine a_goto 11 d_Mod_isWithin_106 (by decide) ?_
        have ev : vt (wk J rs t k) (X : Int) (Y : Int) = false := by rw [vt_1 hd]; exact decide_eq_false (fun q => c81 (by rw [iI_nat]; exact (iI_eq (a := (wk J rs t k).2.1) (b := (Y : Int)) (by omega) (by omega) (by omega) (by omega)).mpr q.1))
        rw [cnt_bf (f := (fun k => vt (wk J rs t k) (X : Int) (Y : Int))) ev]
        refine a_drop 6 ?_
        exact ih (k + 1) (by omega)
      · skip
        refine a_aload_n d_Mod_isWithin_84 rfl ?_
        refine a_getf d_Mod_isWithin_85 f_Mod_44 g32 rfl ?_
        refine a_iload d_Mod_isWithin_88 rfl ?_
        refine a_iald d_Mod_isWithin_90 g44 (nI_in (show s + k < 160 by omega) (by decide)) ?_
        rw [nI_clamp (by omega), r1]
        refine a_iload_n d_Mod_isWithin_91 rfl ?_
        refine a_icmp_gt 99 d_Mod_isWithin_92 (by decide) (fun c92 => ?_) (fun c92 => ?_)
        · skip
          refine a_iconst (v := 0) d_Mod_isWithin_99 (by decide) ?_
          refine a_iadd d_Mod_isWithin_100 ?_
          refine a_istore d_Mod_isWithin_101 (Nat.le_of_ble_eq_true rfl) (Nat.le_of_ble_eq_true rfl) rfl ?_
          refine a_iinc d_Mod_isWithin_103 rfl (nI_1 (s + k)) (Nat.le_of_ble_eq_true rfl) rfl ?_
          refine a_goto 11 d_Mod_isWithin_106 (by decide) ?_
          have ev : vt (wk J rs t k) (X : Int) (Y : Int) = false := by rw [vt_1 hd]; exact decide_eq_false (fun q => absurd ((iI_lt (a := (X : Int)) (b := (wk J rs t k).1) (by omega) (by omega) (by omega) (by omega)).mp (by rw [← iI_nat]; exact c92)) (by omega))
          rw [cnt_bf (f := (fun k => vt (wk J rs t k) (X : Int) (Y : Int))) ev]
          refine a_drop 6 ?_
          exact ih (k + 1) (by omega)
        · skip
          refine a_iconst (v := 1) d_Mod_isWithin_95 (by decide) ?_
          refine a_goto 100 d_Mod_isWithin_96 (by decide) ?_
          refine a_iadd d_Mod_isWithin_100 ?_
          refine a_istore d_Mod_isWithin_101 (Nat.le_of_ble_eq_true rfl) (Nat.le_of_ble_eq_true rfl) rfl ?_
          refine a_iinc d_Mod_isWithin_103 rfl (nI_1 (s + k)) (Nat.le_of_ble_eq_true rfl) rfl ?_
          refine a_goto 11 d_Mod_isWithin_106 (by decide) ?_
          have ev : vt (wk J rs t k) (X : Int) (Y : Int) = true := by rw [vt_1 hd]; exact decide_eq_true ⟨(iI_eq (a := (wk J rs t k).2.1) (b := (Y : Int)) (by omega) (by omega) (by omega) (by omega)).mp (by rw [← iI_nat]; exact c81), by have := (not_congr (iI_lt (a := (X : Int)) (b := (wk J rs t k).1) (by omega) (by omega) (by omega) (by omega))).mp (by rw [← iI_nat]; exact c92); omega⟩
          rw [cnt_bt (f := (fun k => vt (wk J rs t k) (X : Int) (Y : Int))) ev]
          refine a_drop 6 ?_
          exact ih (k + 1) (by omega)
    · have hwk : wW J rs t k = 2 := by unfold wW; rw [hd]; rfl
      refine a_iload d_Mod_isWithin_11 rfl ?_
      refine a_aload_n d_Mod_isWithin_13 rfl ?_
      refine a_getf d_Mod_isWithin_14 f_Mod_28 g32 rfl ?_
      refine a_iload_n d_Mod_isWithin_17 rfl ?_
      refine a_iald d_Mod_isWithin_18 g39 (nI_in (show b < 40 by omega) (by decide)) ?_
      rw [nI_clamp (by omega), efr]
      refine a_aload_n d_Mod_isWithin_19 rfl ?_
      refine a_getf d_Mod_isWithin_20 f_Mod_31 g32 rfl ?_
      refine a_iload_n d_Mod_isWithin_23 rfl ?_
      refine a_iald d_Mod_isWithin_24 g40 (nI_in (show b < 40 by omega) (by decide)) ?_
      rw [nI_clamp (by omega), esz]
      refine a_iadd d_Mod_isWithin_25 ?_
      rw [nI_add]
      refine a_icmp_ge 109 d_Mod_isWithin_26 (by decide) (fun c26 => absurd c26 (nI_ge (show s + k < s + P by omega) (by omega))) (fun c26 => ?_)
      refine a_aload_n d_Mod_isWithin_29 rfl ?_
      refine a_getf d_Mod_isWithin_30 f_Mod_50 g32 rfl ?_
      refine a_iload d_Mod_isWithin_33 rfl ?_
      refine a_iald d_Mod_isWithin_35 g46 (nI_in (show s + k < 160 by omega) (by decide)) ?_
      rw [nI_clamp (by omega), r3, hwk]
      refine a_iconst (v := 1) d_Mod_isWithin_36 (by decide) ?_
      refine a_icmp_ne 50 d_Mod_isWithin_37 (by decide) (fun c37 => ?_) (fun c37 => absurd c37 (by decide))
      refine a_aload_n d_Mod_isWithin_50 rfl ?_
      refine a_getf d_Mod_isWithin_51 f_Mod_50 g32 rfl ?_
      refine a_iload d_Mod_isWithin_54 rfl ?_
      refine a_iald d_Mod_isWithin_56 g46 (nI_in (show s + k < 160 by omega) (by decide)) ?_
      rw [nI_clamp (by omega), r3, hwk]
      refine a_iconst (v := 3) d_Mod_isWithin_57 (by decide) ?_
      refine a_icmp_ne 73 d_Mod_isWithin_58 (by decide) (fun c58 => ?_) (fun c58 => absurd c58 (by decide))
      refine a_iconst (v := -1) d_Mod_isWithin_73 (by decide) ?_
      refine a_istore d_Mod_isWithin_74 (Nat.le_of_ble_eq_true rfl) (Nat.le_of_ble_eq_true rfl) rfl ?_
      refine a_iload d_Mod_isWithin_76 rfl ?_
      refine a_iload d_Mod_isWithin_78 rfl ?_
      refine a_iload_n d_Mod_isWithin_80 rfl ?_
      refine a_icmp_ne 99 d_Mod_isWithin_81 (by decide) (fun c81 => ?_) (fun c81 => absurd c81 (fun q => absurd ((iI_eq (a := -1) (b := (Y : Int)) (by omega) (by omega) (by omega) (by omega)).mp (by rw [← iI_nat]; exact q)) (by omega)))
      refine a_iconst (v := 0) d_Mod_isWithin_99 (by decide) ?_
      refine a_iadd d_Mod_isWithin_100 ?_
      refine a_istore d_Mod_isWithin_101 (Nat.le_of_ble_eq_true rfl) (Nat.le_of_ble_eq_true rfl) rfl ?_
      refine a_iinc d_Mod_isWithin_103 rfl (nI_1 (s + k)) (Nat.le_of_ble_eq_true rfl) rfl ?_
      refine a_goto 11 d_Mod_isWithin_106 (by decide) ?_
      have ev : vt (wk J rs t k) (X : Int) (Y : Int) = false := vt_02 (by omega) _ _
      rw [cnt_bf (f := (fun k => vt (wk J rs t k) (X : Int) (Y : Int))) ev]
      refine a_drop 6 ?_
      exact ih (k + 1) (by omega)
    · have hwk : wW J rs t k = 3 := by unfold wW; rw [hd]; rfl
      refine a_iload d_Mod_isWithin_11 rfl ?_
      refine a_aload_n d_Mod_isWithin_13 rfl ?_
      refine a_getf d_Mod_isWithin_14 f_Mod_28 g32 rfl ?_
      refine a_iload_n d_Mod_isWithin_17 rfl ?_
      refine a_iald d_Mod_isWithin_18 g39 (nI_in (show b < 40 by omega) (by decide)) ?_
      rw [nI_clamp (by omega), efr]
      refine a_aload_n d_Mod_isWithin_19 rfl ?_
      refine a_getf d_Mod_isWithin_20 f_Mod_31 g32 rfl ?_
      refine a_iload_n d_Mod_isWithin_23 rfl ?_
      refine a_iald d_Mod_isWithin_24 g40 (nI_in (show b < 40 by omega) (by decide)) ?_
      rw [nI_clamp (by omega), esz]
      refine a_iadd d_Mod_isWithin_25 ?_
      rw [nI_add]
      refine a_icmp_ge 109 d_Mod_isWithin_26 (by decide) (fun c26 => absurd c26 (nI_ge (show s + k < s + P by omega) (by omega))) (fun c26 => ?_)
      refine a_aload_n d_Mod_isWithin_29 rfl ?_
      refine a_getf d_Mod_isWithin_30 f_Mod_50 g32 rfl ?_
      refine a_iload d_Mod_isWithin_33 rfl ?_
      refine a_iald d_Mod_isWithin_35 g46 (nI_in (show s + k < 160 by omega) (by decide)) ?_
      rw [nI_clamp (by omega), r3, hwk]
      refine a_iconst (v := 1) d_Mod_isWithin_36 (by decide) ?_
      refine a_icmp_ne 50 d_Mod_isWithin_37 (by decide) (fun c37 => ?_) (fun c37 => absurd c37 (by decide))
      refine a_aload_n d_Mod_isWithin_50 rfl ?_
      refine a_getf d_Mod_isWithin_51 f_Mod_50 g32 rfl ?_
      refine a_iload d_Mod_isWithin_54 rfl ?_
      refine a_iald d_Mod_isWithin_56 g46 (nI_in (show s + k < 160 by omega) (by decide)) ?_
      rw [nI_clamp (by omega), r3, hwk]
      refine a_iconst (v := 3) d_Mod_isWithin_57 (by decide) ?_
      refine a_icmp_ne 73 d_Mod_isWithin_58 (by decide) (fun c58 => absurd c58 (fun q => q (by decide))) (fun c58 => ?_)
      refine a_aload_n d_Mod_isWithin_61 rfl ?_
      refine a_getf d_Mod_isWithin_62 f_Mod_47 g32 rfl ?_
      refine a_iload d_Mod_isWithin_65 rfl ?_
      refine a_iald d_Mod_isWithin_67 g45 (nI_in (show s + k < 160 by omega) (by decide)) ?_
      rw [nI_clamp (by omega), r2]
      refine a_iconst (v := 1) d_Mod_isWithin_68 (by decide) ?_
      refine a_isub d_Mod_isWithin_69 ?_
      rw [sub1]
      refine a_goto 74 d_Mod_isWithin_70 (by decide) ?_
      refine a_istore d_Mod_isWithin_74 (Nat.le_of_ble_eq_true rfl) (Nat.le_of_ble_eq_true rfl) rfl ?_
      refine a_iload d_Mod_isWithin_76 rfl ?_
      refine a_iload d_Mod_isWithin_78 rfl ?_
      refine a_iload_n d_Mod_isWithin_80 rfl ?_
      refine a_icmp_ne 99 d_Mod_isWithin_81 (by decide) (fun c81 => ?_) (fun c81 => ?_)
      · skip
        refine a_iconst (v := 0) d_Mod_isWithin_99 (by decide) ?_
        refine a_iadd d_Mod_isWithin_100 ?_
        refine a_istore d_Mod_isWithin_101 (Nat.le_of_ble_eq_true rfl) (Nat.le_of_ble_eq_true rfl) rfl ?_
        refine a_iinc d_Mod_isWithin_103 rfl (nI_1 (s + k)) (Nat.le_of_ble_eq_true rfl) rfl ?_
        refine a_goto 11 d_Mod_isWithin_106 (by decide) ?_
        have ev : vt (wk J rs t k) (X : Int) (Y : Int) = false := by rw [vt_3 hd]; exact decide_eq_false (fun q => c81 (by rw [iI_nat]; exact (iI_eq (a := (wk J rs t k).2.1 - 1) (b := (Y : Int)) (by omega) (by omega) (by omega) (by omega)).mpr q.1))
        rw [cnt_bf (f := (fun k => vt (wk J rs t k) (X : Int) (Y : Int))) ev]
        refine a_drop 6 ?_
        exact ih (k + 1) (by omega)
      · skip
        refine a_aload_n d_Mod_isWithin_84 rfl ?_
        refine a_getf d_Mod_isWithin_85 f_Mod_44 g32 rfl ?_
        refine a_iload d_Mod_isWithin_88 rfl ?_
        refine a_iald d_Mod_isWithin_90 g44 (nI_in (show s + k < 160 by omega) (by decide)) ?_
        rw [nI_clamp (by omega), r1]
        refine a_iload_n d_Mod_isWithin_91 rfl ?_
        refine a_icmp_gt 99 d_Mod_isWithin_92 (by decide) (fun c92 => ?_) (fun c92 => ?_)
        · skip
          refine a_iconst (v := 0) d_Mod_isWithin_99 (by decide) ?_
          refine a_iadd d_Mod_isWithin_100 ?_
          refine a_istore d_Mod_isWithin_101 (Nat.le_of_ble_eq_true rfl) (Nat.le_of_ble_eq_true rfl) rfl ?_
          refine a_iinc d_Mod_isWithin_103 rfl (nI_1 (s + k)) (Nat.le_of_ble_eq_true rfl) rfl ?_
          refine a_goto 11 d_Mod_isWithin_106 (by decide) ?_
          have ev : vt (wk J rs t k) (X : Int) (Y : Int) = false := by rw [vt_3 hd]; exact decide_eq_false (fun q => absurd ((iI_lt (a := (X : Int)) (b := (wk J rs t k).1) (by omega) (by omega) (by omega) (by omega)).mp (by rw [← iI_nat]; exact c92)) (by omega))
          rw [cnt_bf (f := (fun k => vt (wk J rs t k) (X : Int) (Y : Int))) ev]
          refine a_drop 6 ?_
          exact ih (k + 1) (by omega)
        · skip
          refine a_iconst (v := 1) d_Mod_isWithin_95 (by decide) ?_
          refine a_goto 100 d_Mod_isWithin_96 (by decide) ?_
          refine a_iadd d_Mod_isWithin_100 ?_
          refine a_istore d_Mod_isWithin_101 (Nat.le_of_ble_eq_true rfl) (Nat.le_of_ble_eq_true rfl) rfl ?_
          refine a_iinc d_Mod_isWithin_103 rfl (nI_1 (s + k)) (Nat.le_of_ble_eq_true rfl) rfl ?_
          refine a_goto 11 d_Mod_isWithin_106 (by decide) ?_
          have ev : vt (wk J rs t k) (X : Int) (Y : Int) = true := by rw [vt_3 hd]; exact decide_eq_true ⟨(iI_eq (a := (wk J rs t k).2.1 - 1) (b := (Y : Int)) (by omega) (by omega) (by omega) (by omega)).mp (by rw [← iI_nat]; exact c81), by have := (not_congr (iI_lt (a := (X : Int)) (b := (wk J rs t k).1) (by omega) (by omega) (by omega) (by omega))).mp (by rw [← iI_nat]; exact c92); omega⟩
          rw [cnt_bt (f := (fun k => vt (wk J rs t k) (X : Int) (Y : Int))) ev]
          refine a_drop 6 ?_
          exact ih (k + 1) (by omega)
set_option maxRecDepth 20000 in
set_option maxHeartbeats 4000000 in
theorem s_Mod_isWithin {ac by_ la ra il mn : Int32} {rs0 : Int64} {tb ve oa lm : Int32} {fr sz cx cy go : Nat → Int32} (g32 : h 32 = oMod ac by_ la ra il mn rs0 tb ve oa lm) (g39 : h 39 = aI 40 fr) (g40 : h 40 = aI 40 sz) (g44 : h 44 = aI 160 cx) (g45 : h 45 = aI 160 cy) (g46 : h 46 = aI 160 go) {s b t P X Y : Nat} {J : Bool} {rs : Int64} (v : ∀ k, Val rs (wk J rs t k)) (hb : b < 40) (hs : s + P ≤ 144) (efr : fr b = nI s) (esz : sz b = nI P) (rw_ : ∀ k, k < P → cx (s + k) = wX J rs t k ∧ cy (s + k) = wY J rs t k ∧ go (s + k) = wW J rs t k) (hX : X < 8) (hY : Y < 8) : AMet V i_Mod_isWithin 0 [.ref 32, .int (nI b), .int (nI X), .int (nI Y)] h n z (some (.int (if wiB J rs t P X Y then 1 else 0))) h n z := by
  refine AMet.intro (Nat.le_refl _) (Nat.le_refl _) (by decide) (Nat.le_of_ble_eq_true rfl) rfl ?_
  refine a_iconst (v := 0) d_Mod_isWithin_0 (by decide) ?_
  refine a_istore d_Mod_isWithin_1 (Nat.le_of_ble_eq_true rfl) (Nat.le_of_ble_eq_true rfl) rfl ?_
  refine a_aload_n d_Mod_isWithin_3 rfl ?_
  refine a_getf d_Mod_isWithin_4 f_Mod_28 g32 rfl ?_
  refine a_iload_n d_Mod_isWithin_7 rfl ?_
  refine a_iald d_Mod_isWithin_8 g39 (nI_in (show b < 40 by omega) (by decide)) ?_
  rw [nI_clamp (by omega), efr]
  refine a_istore d_Mod_isWithin_9 (Nat.le_of_ble_eq_true rfl) (Nat.le_of_ble_eq_true rfl) rfl ?_
  exact L_within g32 g39 g40 g44 g45 g46 v hb hs efr esz rw_ hX hY P 0 (by omega)
end
