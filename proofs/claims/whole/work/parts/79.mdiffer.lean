/-! THE MODEL is asked what differs: printed by wip/whole/t79.py -/
theorem pcn_t {E : Int64} {i : Nat} (h : lb E i = true) : nI (pcn E i) + 1 = nI (pcn E (i + 1)) := by
  show _ = nI (pcn E i + if lb E i then 1 else 0)
  rw [if_pos h, nI_1]
theorem pcn_f {E : Int64} {i : Nat} (h : lb E i = false) : nI (pcn E i) + 0 = nI (pcn E (i + 1)) := by
  show _ = nI (pcn E i + if lb E i then 1 else 0)
  rw [if_neg (by rw [h]; decide), Nat.add_zero, Int32.add_zero]
theorem b01_inj {a b : Bool} (h : (if a then (1 : Int32) else 0) = (if b then 1 else 0)) : a = b := by
  cases a <;> cases b <;> first | rfl | exact absurd h (by decide)
theorem mDot_i {W H : Nat} (hW : W ≤ 8) (hH : H ≤ 8) {st : Nat → Int32} (s0 : st 0 = nI W) (s1 : st 1 = nI H) {i : Nat} (hi : i < 64) : mDot (st 0) (st 1) (nI (i % 8)) (nI (i / 8)) = 0 ↔ (W ≤ i % 8 ∨ H ≤ i / 8) := by
  rw [s0, s1, iI_nat (i % 8), iI_nat (i / 8), mDot_0 (by omega) (by omega) (by omega) (by omega)]
  omega
section
variable {V : VV} {h : AH} {n z : Nat}

set_option maxRecDepth 20000 in
set_option maxHeartbeats 4000000 in
theorem s_isF0 {W H : Nat} {D : Int64} {j s : Int32} {t : Nat} (p : PcOk W H D j) (ht : t < 64) (hb : isB (decide (j = 1)) D t = true) {a1 a2 a3 a4 a5 a6 : Int32} {a7 : Int64} {a8 a9 a10 : Int32} {N : Nat} {lx ly : Nat → Int32} {fx fy : Nat → Int} (n32 : h 32 = oMod a1 a2 a3 a4 a5 a6 a7 a8 a9 a10 (nI N)) (n51 : h 51 = aI 600 lx) (n52 : h 52 = aI 600 ly) (LL : LnP V (bX (decide (j = 1)) D t) (bY (decide (j = 1)) D t) (sP (decide (j = 1)) D t) (zN (decide (j = 1)) D t) (zC (decide (j = 1)) D t) 0 s (zN (decide (j = 1)) D t) N lx ly fx fy) {i : Nat} (hi : i < 64) : AMet V i_Mod_isFilled 0 [.ref 32, .int (nI (i % 8)), .int (nI (i / 8))] h n z (some (.int (if lb (byC V (bX (decide (j = 1)) D t) (bY (decide (j = 1)) D t) (sP (decide (j = 1)) D t) (zN (decide (j = 1)) D t) (zC (decide (j = 1)) D t) 0 s (zN (decide (j = 1)) D t)) i then 1 else 0))) h n z := by
  obtain ⟨z1, z2, z3⟩ := bd_zC ht hb
  have P4 := bd_P ht hb
  obtain ⟨⟨t1, t2, t3⟩, ⟨c1_, c2_⟩, ⟨c3_, c4_⟩, hN4⟩ := LL
  have clo : fx N = fx 0 ∧ fy N = fy 0 := ⟨by rw [c1_, c3_, qP_nv z1], by rw [c2_, c4_, qP_nv z1]⟩
  have xb : xr (crF fx fy (i % 8) (i / 8)) N = lb (byC V (bX (decide (j = 1)) D t) (bY (decide (j = 1)) D t) (sP (decide (j = 1)) D t) (zN (decide (j = 1)) D t) (zC (decide (j = 1)) D t) 0 s (zN (decide (j = 1)) D t)) (8 * (i / 8) + i % 8) := t3 (i % 8) (i / 8) (by omega) (by omega)
  rw [show 8 * (i / 8) + i % 8 = i by omega] at xb
  rw [← xb]
  exact s_Mod_isFilled (X := i % 8) (Y := i / 8) n32 n51 n52 (by omega) t1 clo t2 (by omega) (by omega)
set_option maxRecDepth 20000 in
set_option maxHeartbeats 4000000 in
theorem s_isF1 {W H : Nat} {D : Int64} {j s : Int32} {t : Nat} (p : PcOk W H D j) (ht : t < 64) (hb : isB (decide (j = 1)) D t = true) {a1 a2 a3 a4 a5 a6 : Int32} {a7 : Int64} {a8 a9 a10 : Int32} {N : Nat} {lx ly : Nat → Int32} {fx fy : Nat → Int} (n32 : h 32 = oMod a1 a2 a3 a4 a5 a6 a7 a8 a9 a10 (nI N)) (n51 : h 51 = aI 600 lx) (n52 : h 52 = aI 600 ly) (LL : LnP V (bX (decide (j = 1)) D t) (bY (decide (j = 1)) D t) (sP (decide (j = 1)) D t) (zN (decide (j = 1)) D t) (zC (decide (j = 1)) D t) 1 s (zN (decide (j = 1)) D t) N lx ly fx fy) {i : Nat} (hi : i < 64) : AMet V i_Mod_isFilled 0 [.ref 32, .int (nI (i % 8)), .int (nI (i / 8))] h n z (some (.int (if lb (byC V (bX (decide (j = 1)) D t) (bY (decide (j = 1)) D t) (sP (decide (j = 1)) D t) (zN (decide (j = 1)) D t) (zC (decide (j = 1)) D t) 1 s (zN (decide (j = 1)) D t)) i then 1 else 0))) h n z := by
  obtain ⟨z1, z2, z3⟩ := bd_zC ht hb
  have P4 := bd_P ht hb
  obtain ⟨⟨t1, t2, t3⟩, ⟨c1_, c2_⟩, ⟨c3_, c4_⟩, hN4⟩ := LL
  have clo : fx N = fx 0 ∧ fy N = fy 0 := ⟨by rw [c1_, c3_, qP_nv z1], by rw [c2_, c4_, qP_nv z1]⟩
  have xb : xr (crF fx fy (i % 8) (i / 8)) N = lb (byC V (bX (decide (j = 1)) D t) (bY (decide (j = 1)) D t) (sP (decide (j = 1)) D t) (zN (decide (j = 1)) D t) (zC (decide (j = 1)) D t) 1 s (zN (decide (j = 1)) D t)) (8 * (i / 8) + i % 8) := t3 (i % 8) (i / 8) (by omega) (by omega)
  rw [show 8 * (i / 8) + i % 8 = i by omega] at xb
  rw [← xb]
  exact s_Mod_isFilled (X := i % 8) (Y := i / 8) n32 n51 n52 (by omega) t1 clo t2 (by omega) (by omega)
set_option maxRecDepth 20000 in
set_option maxHeartbeats 4000000 in
theorem L_diff0 {W H : Nat} {D : Int64} {j s : Int32} {t : Nat} (p : PcOk W H D j) (ht : t < 64) (hb : isB (decide (j = 1)) D t = true) {a1 a2 a3 a4 a5 a6 : Int32} {a7 : Int64} {a8 a9 a10 : Int32} {N : Nat} {lx ly : Nat → Int32} {fx fy : Nat → Int} (n32 : h 32 = oMod a1 a2 a3 a4 a5 a6 a7 a8 a9 a10 (nI N)) (n51 : h 51 = aI 600 lx) (n52 : h 52 = aI 600 ly) (LL : LnP V (bX (decide (j = 1)) D t) (bY (decide (j = 1)) D t) (sP (decide (j = 1)) D t) (zN (decide (j = 1)) D t) (zC (decide (j = 1)) D t) 0 s (zN (decide (j = 1)) D t) N lx ly fx fy) {st : Nat → Int32} (n33 : h 33 = aI 68 st) (s0 : st 0 = nI W) (s1 : st 1 = nI H) {wn : Nat → Int64} (n43 : h 43 = aL 40 wn) (m5 : wn (sB (decide (j = 1)) D t) = wi (decide (j = 1)) (sR (decide (j = 1)) D t) t (sP (decide (j = 1)) D t)) : ∀ (m i : Nat), i + m = 64 → AM V i_Mod_differ 8 n z (some (.int (nI (pcn ((byC V (bX (decide (j = 1)) D t) (bY (decide (j = 1)) D t) (sP (decide (j = 1)) D t) (zN (decide (j = 1)) D t) (zC (decide (j = 1)) D t) 0 s (zN (decide (j = 1)) D t)) ^^^ wi (decide (j = 1)) (sR (decide (j = 1)) D t) t (sP (decide (j = 1)) D t)) 64)))) h n z 31 [some (.ref 32), some (.int (nI (sB (decide (j = 1)) D t))), some (.int 0), some (.int (nI (pcn ((byC V (bX (decide (j = 1)) D t) (bY (decide (j = 1)) D t) (sP (decide (j = 1)) D t) (zN (decide (j = 1)) D t) (zC (decide (j = 1)) D t) 0 s (zN (decide (j = 1)) D t)) ^^^ wi (decide (j = 1)) (sR (decide (j = 1)) D t) t (sP (decide (j = 1)) D t)) i))), some (.int (nI i))] [] h n z := by
  have B36 := sB_36 (decide (j = 1)) D t (by omega)
  have hW := p.1
  have hH := p.2.1
  intro m
  induction m with
  | zero =>
    intro i hi
    have e : i = 64 := by omega
    subst e
    refine a_iload d_Mod_differ_31 rfl ?_
    refine a_bipush (v := 64) d_Mod_differ_33 (by decide) ?_
    refine a_icmp_ge 101 d_Mod_differ_35 (by decide) (fun c35 => ?_) (fun c35 => absurd (Int32.le_refl _) c35)
    refine a_iload_n d_Mod_differ_101 rfl ?_
    exact a_iret d_Mod_differ_102 rfl rfl rfl rfl
  | succ m ih =>
    intro i hi
    have r8 : nI i - nI i / 8 * 8 = nI (i % 8) := pk_rem (d := 8) (by omega) (by omega) (by omega)
    have d8 : nI i / 8 = nI (i / 8) := pk_div (d := 8) (by omega) (by omega) (by omega)
    have hdot := mDot_i hW hH s0 s1 (show i < 64 by omega)
    have MF := s_isF0 (V := V) (n := n) (z := z) p ht hb n32 n51 n52 LL (show i < 64 by omega)
    have MI := s_Mod_isIn (V := V) (n := n) (z := z) n32 n32 n43 (B := (sB (decide (j = 1)) D t)) (X := i % 8) (Y := i / 8) (by omega) (by omega) (by omega)
    rw [m5, show 8 * (i / 8) + i % 8 = i by omega] at MI
    have ex : lb ((byC V (bX (decide (j = 1)) D t) (bY (decide (j = 1)) D t) (sP (decide (j = 1)) D t) (zN (decide (j = 1)) D t) (zC (decide (j = 1)) D t) 0 s (zN (decide (j = 1)) D t)) ^^^ wi (decide (j = 1)) (sR (decide (j = 1)) D t) t (sP (decide (j = 1)) D t)) i = (lb (byC V (bX (decide (j = 1)) D t) (bY (decide (j = 1)) D t) (sP (decide (j = 1)) D t) (zN (decide (j = 1)) D t) (zC (decide (j = 1)) D t) 0 s (zN (decide (j = 1)) D t)) i ^^ lb (wi (decide (j = 1)) (sR (decide (j = 1)) D t) t (sP (decide (j = 1)) D t)) i) := lb_xor _ _ _
    by_cases hd : mDot (st 0) (st 1) (nI (i % 8)) (nI (i / 8)) = 0
    · have ho := hdot.mp hd
      have e1 := by_out (V := V) ht hb p.2.2.2 (kind := 0) (sh := s) (by decide) (x := i % 8) (y := i / 8) (by omega) (by omega) ho
      rw [show 8 * (i / 8) + i % 8 = i by omega] at e1
      have e2 : lb (wi (decide (j = 1)) (sR (decide (j = 1)) D t) t (sP (decide (j = 1)) D t)) i = false := by
        cases q : lb (wi (decide (j = 1)) (sR (decide (j = 1)) D t) t (sP (decide (j = 1)) D t)) i
        · rfl
        · have := Wh_wi (bd_Val ht hb) (bd_ret ht hb) (sR_Wh (J := (decide (j = 1))) p.2.2.2 t (by omega)) ((i % 8 : Nat) : Int) ((i / 8 : Nat) : Int) (by
            unfold inD
            rw [decide_eq_true (by omega), show (8 * ((i / 8 : Nat) : Int) + ((i % 8 : Nat) : Int)).toNat = i by omega, Bool.true_and]
            exact q)
          omega
      rw [e1, e2] at ex
      refine a_iload d_Mod_differ_31 rfl ?_
      refine a_bipush (v := 64) d_Mod_differ_33 (by decide) ?_
      refine a_icmp_ge 101 d_Mod_differ_35 (by decide) (fun c35 => absurd c35 (nI_ge (b := 64) (show i < 64 by omega) (by omega))) (fun c35 => ?_)
      refine a_iload_n d_Mod_differ_38 rfl ?_
      refine a_aload_n d_Mod_differ_39 rfl ?_
      refine a_iload d_Mod_differ_40 rfl ?_
      refine a_bipush (v := 8) d_Mod_differ_42 (by decide) ?_
      refine a_irem d_Mod_differ_44 (by decide) ?_
      rw [r8]
      refine a_iload d_Mod_differ_45 rfl ?_
      refine a_bipush (v := 8) d_Mod_differ_47 (by decide) ?_
      refine a_idiv d_Mod_differ_49 (by decide) ?_
      rw [d8]
      refine a_cv0 (a := 32) d_Mod_differ_50 m_Mod_isDot t_Mod_isDot l_Mod_118 n32 rfl rfl (s_Mod_isDot n32 n33 _ _) rfl rfl ⟨Nat.le_of_ble_eq_true rfl, Nat.le_of_ble_eq_true rfl⟩ (Nat.le_of_ble_eq_true rfl)  ?_
      refine a_if_eq 92 d_Mod_differ_53 (by decide) (fun c53 => ?_) (fun c53 => absurd hd c53)
      refine a_iconst (v := 0) d_Mod_differ_92 (by decide) ?_
      refine a_iadd d_Mod_differ_93 ?_
      refine a_istore_n d_Mod_differ_94 (Nat.le_of_ble_eq_true rfl) (Nat.le_of_ble_eq_true rfl) rfl ?_
      refine a_iinc d_Mod_differ_95 rfl (nI_1 i) (Nat.le_of_ble_eq_true rfl) rfl ?_
      refine a_goto 31 d_Mod_differ_98 (by decide) ?_
      rw [pcn_f ex]
      exact ih (i + 1) (by omega)
    · by_cases he : lb (byC V (bX (decide (j = 1)) D t) (bY (decide (j = 1)) D t) (sP (decide (j = 1)) D t) (zN (decide (j = 1)) D t) (zC (decide (j = 1)) D t) 0 s (zN (decide (j = 1)) D t)) i = lb (wi (decide (j = 1)) (sR (decide (j = 1)) D t) t (sP (decide (j = 1)) D t)) i
      · rw [he, Bool.xor_self] at ex
        refine a_iload d_Mod_differ_31 rfl ?_
        refine a_bipush (v := 64) d_Mod_differ_33 (by decide) ?_
        refine a_icmp_ge 101 d_Mod_differ_35 (by decide) (fun c35 => absurd c35 (nI_ge (b := 64) (show i < 64 by omega) (by omega))) (fun c35 => ?_)
        refine a_iload_n d_Mod_differ_38 rfl ?_
        refine a_aload_n d_Mod_differ_39 rfl ?_
        refine a_iload d_Mod_differ_40 rfl ?_
        refine a_bipush (v := 8) d_Mod_differ_42 (by decide) ?_
        refine a_irem d_Mod_differ_44 (by decide) ?_
        rw [r8]
        refine a_iload d_Mod_differ_45 rfl ?_
        refine a_bipush (v := 8) d_Mod_differ_47 (by decide) ?_
        refine a_idiv d_Mod_differ_49 (by decide) ?_
        rw [d8]
        refine a_cv0 (a := 32) d_Mod_differ_50 m_Mod_isDot t_Mod_isDot l_Mod_118 n32 rfl rfl (s_Mod_isDot n32 n33 _ _) rfl rfl ⟨Nat.le_of_ble_eq_true rfl, Nat.le_of_ble_eq_true rfl⟩ (Nat.le_of_ble_eq_true rfl)  ?_
        refine a_if_eq 92 d_Mod_differ_53 (by decide) (fun c53 => absurd c53 hd) (fun c53 => ?_)
        refine a_aload_n d_Mod_differ_56 rfl ?_
        refine a_iload d_Mod_differ_57 rfl ?_
        refine a_bipush (v := 8) d_Mod_differ_59 (by decide) ?_
        refine a_irem d_Mod_differ_61 (by decide) ?_
        rw [r8]
        refine a_iload d_Mod_differ_62 rfl ?_
        refine a_bipush (v := 8) d_Mod_differ_64 (by decide) ?_
        refine a_idiv d_Mod_differ_66 (by decide) ?_
        rw [d8]
        refine a_cv0 (a := 32) d_Mod_differ_67 m_Mod_isFilled t_Mod_isFilled l_Mod_250 n32 rfl rfl MF rfl rfl ⟨Nat.le_of_ble_eq_true rfl, Nat.le_of_ble_eq_true rfl⟩ (Nat.le_of_ble_eq_true rfl)  ?_
        refine a_aload_n d_Mod_differ_70 rfl ?_
        refine a_iload_n d_Mod_differ_71 rfl ?_
        refine a_iload d_Mod_differ_72 rfl ?_
        refine a_bipush (v := 8) d_Mod_differ_74 (by decide) ?_
        refine a_irem d_Mod_differ_76 (by decide) ?_
        rw [r8]
        refine a_iload d_Mod_differ_77 rfl ?_
        refine a_bipush (v := 8) d_Mod_differ_79 (by decide) ?_
        refine a_idiv d_Mod_differ_81 (by decide) ?_
        rw [d8]
        refine a_cv0 (a := 32) d_Mod_differ_82 m_Mod_isIn t_Mod_isIn l_Mod_180 n32 rfl rfl MI rfl rfl ⟨Nat.le_of_ble_eq_true rfl, Nat.le_of_ble_eq_true rfl⟩ (Nat.le_of_ble_eq_true rfl)  ?_
        refine a_icmp_eq 92 d_Mod_differ_85 (by decide) (fun c85 => ?_) (fun c85 => absurd (by rw [he]) c85)
        refine a_iconst (v := 0) d_Mod_differ_92 (by decide) ?_
        refine a_iadd d_Mod_differ_93 ?_
        refine a_istore_n d_Mod_differ_94 (Nat.le_of_ble_eq_true rfl) (Nat.le_of_ble_eq_true rfl) rfl ?_
        refine a_iinc d_Mod_differ_95 rfl (nI_1 i) (Nat.le_of_ble_eq_true rfl) rfl ?_
        refine a_goto 31 d_Mod_differ_98 (by decide) ?_
        rw [pcn_f ex]
        exact ih (i + 1) (by omega)
      · have ex2 : lb ((byC V (bX (decide (j = 1)) D t) (bY (decide (j = 1)) D t) (sP (decide (j = 1)) D t) (zN (decide (j = 1)) D t) (zC (decide (j = 1)) D t) 0 s (zN (decide (j = 1)) D t)) ^^^ wi (decide (j = 1)) (sR (decide (j = 1)) D t) t (sP (decide (j = 1)) D t)) i = true := by
          rw [ex]
          revert he
          generalize lb (byC V (bX (decide (j = 1)) D t) (bY (decide (j = 1)) D t) (sP (decide (j = 1)) D t) (zN (decide (j = 1)) D t) (zC (decide (j = 1)) D t) 0 s (zN (decide (j = 1)) D t)) i = a
          generalize lb (wi (decide (j = 1)) (sR (decide (j = 1)) D t) t (sP (decide (j = 1)) D t)) i = b
          cases a <;> cases b <;> simp
        refine a_iload d_Mod_differ_31 rfl ?_
        refine a_bipush (v := 64) d_Mod_differ_33 (by decide) ?_
        refine a_icmp_ge 101 d_Mod_differ_35 (by decide) (fun c35 => absurd c35 (nI_ge (b := 64) (show i < 64 by omega) (by omega))) (fun c35 => ?_)
        refine a_iload_n d_Mod_differ_38 rfl ?_
        refine a_aload_n d_Mod_differ_39 rfl ?_
        refine a_iload d_Mod_differ_40 rfl ?_
        refine a_bipush (v := 8) d_Mod_differ_42 (by decide) ?_
        refine a_irem d_Mod_differ_44 (by decide) ?_
        rw [r8]
        refine a_iload d_Mod_differ_45 rfl ?_
        refine a_bipush (v := 8) d_Mod_differ_47 (by decide) ?_
        refine a_idiv d_Mod_differ_49 (by decide) ?_
        rw [d8]
        refine a_cv0 (a := 32) d_Mod_differ_50 m_Mod_isDot t_Mod_isDot l_Mod_118 n32 rfl rfl (s_Mod_isDot n32 n33 _ _) rfl rfl ⟨Nat.le_of_ble_eq_true rfl, Nat.le_of_ble_eq_true rfl⟩ (Nat.le_of_ble_eq_true rfl)  ?_
        refine a_if_eq 92 d_Mod_differ_53 (by decide) (fun c53 => absurd c53 hd) (fun c53 => ?_)
        refine a_aload_n d_Mod_differ_56 rfl ?_
        refine a_iload d_Mod_differ_57 rfl ?_
        refine a_bipush (v := 8) d_Mod_differ_59 (by decide) ?_
        refine a_irem d_Mod_differ_61 (by decide) ?_
        rw [r8]
        refine a_iload d_Mod_differ_62 rfl ?_
        refine a_bipush (v := 8) d_Mod_differ_64 (by decide) ?_
        refine a_idiv d_Mod_differ_66 (by decide) ?_
        rw [d8]
        refine a_cv0 (a := 32) d_Mod_differ_67 m_Mod_isFilled t_Mod_isFilled l_Mod_250 n32 rfl rfl MF rfl rfl ⟨Nat.le_of_ble_eq_true rfl, Nat.le_of_ble_eq_true rfl⟩ (Nat.le_of_ble_eq_true rfl)  ?_
        refine a_aload_n d_Mod_differ_70 rfl ?_
        refine a_iload_n d_Mod_differ_71 rfl ?_
        refine a_iload d_Mod_differ_72 rfl ?_
        refine a_bipush (v := 8) d_Mod_differ_74 (by decide) ?_
        refine a_irem d_Mod_differ_76 (by decide) ?_
        rw [r8]
        refine a_iload d_Mod_differ_77 rfl ?_
        refine a_bipush (v := 8) d_Mod_differ_79 (by decide) ?_
        refine a_idiv d_Mod_differ_81 (by decide) ?_
        rw [d8]
        refine a_cv0 (a := 32) d_Mod_differ_82 m_Mod_isIn t_Mod_isIn l_Mod_180 n32 rfl rfl MI rfl rfl ⟨Nat.le_of_ble_eq_true rfl, Nat.le_of_ble_eq_true rfl⟩ (Nat.le_of_ble_eq_true rfl)  ?_
        refine a_icmp_eq 92 d_Mod_differ_85 (by decide) (fun c85 => absurd c85 (fun q => he (b01_inj q))) (fun c85 => ?_)
        refine a_iconst (v := 1) d_Mod_differ_88 (by decide) ?_
        refine a_goto 93 d_Mod_differ_89 (by decide) ?_
        refine a_iadd d_Mod_differ_93 ?_
        refine a_istore_n d_Mod_differ_94 (Nat.le_of_ble_eq_true rfl) (Nat.le_of_ble_eq_true rfl) rfl ?_
        refine a_iinc d_Mod_differ_95 rfl (nI_1 i) (Nat.le_of_ble_eq_true rfl) rfl ?_
        refine a_goto 31 d_Mod_differ_98 (by decide) ?_
        rw [pcn_t ex2]
        exact ih (i + 1) (by omega)
set_option maxRecDepth 20000 in
set_option maxHeartbeats 4000000 in
theorem L_diff1 {W H : Nat} {D : Int64} {j s : Int32} {t : Nat} (p : PcOk W H D j) (ht : t < 64) (hb : isB (decide (j = 1)) D t = true) {a1 a2 a3 a4 a5 a6 : Int32} {a7 : Int64} {a8 a9 a10 : Int32} {N : Nat} {lx ly : Nat → Int32} {fx fy : Nat → Int} (n32 : h 32 = oMod a1 a2 a3 a4 a5 a6 a7 a8 a9 a10 (nI N)) (n51 : h 51 = aI 600 lx) (n52 : h 52 = aI 600 ly) (LL : LnP V (bX (decide (j = 1)) D t) (bY (decide (j = 1)) D t) (sP (decide (j = 1)) D t) (zN (decide (j = 1)) D t) (zC (decide (j = 1)) D t) 1 s (zN (decide (j = 1)) D t) N lx ly fx fy) {st : Nat → Int32} (n33 : h 33 = aI 68 st) (s0 : st 0 = nI W) (s1 : st 1 = nI H) {wn : Nat → Int64} (n43 : h 43 = aL 40 wn) (m5 : wn (sB (decide (j = 1)) D t) = wi (decide (j = 1)) (sR (decide (j = 1)) D t) t (sP (decide (j = 1)) D t)) : ∀ (m i : Nat), i + m = 64 → AM V i_Mod_differ 8 n z (some (.int (nI (pcn ((byC V (bX (decide (j = 1)) D t) (bY (decide (j = 1)) D t) (sP (decide (j = 1)) D t) (zN (decide (j = 1)) D t) (zC (decide (j = 1)) D t) 1 s (zN (decide (j = 1)) D t)) ^^^ wi (decide (j = 1)) (sR (decide (j = 1)) D t) t (sP (decide (j = 1)) D t)) 64)))) h n z 31 [some (.ref 32), some (.int (nI (sB (decide (j = 1)) D t))), some (.int 1), some (.int (nI (pcn ((byC V (bX (decide (j = 1)) D t) (bY (decide (j = 1)) D t) (sP (decide (j = 1)) D t) (zN (decide (j = 1)) D t) (zC (decide (j = 1)) D t) 1 s (zN (decide (j = 1)) D t)) ^^^ wi (decide (j = 1)) (sR (decide (j = 1)) D t) t (sP (decide (j = 1)) D t)) i))), some (.int (nI i))] [] h n z := by
  have B36 := sB_36 (decide (j = 1)) D t (by omega)
  have hW := p.1
  have hH := p.2.1
  intro m
  induction m with
  | zero =>
    intro i hi
    have e : i = 64 := by omega
    subst e
    refine a_iload d_Mod_differ_31 rfl ?_
    refine a_bipush (v := 64) d_Mod_differ_33 (by decide) ?_
    refine a_icmp_ge 101 d_Mod_differ_35 (by decide) (fun c35 => ?_) (fun c35 => absurd (Int32.le_refl _) c35)
    refine a_iload_n d_Mod_differ_101 rfl ?_
    exact a_iret d_Mod_differ_102 rfl rfl rfl rfl
  | succ m ih =>
    intro i hi
    have r8 : nI i - nI i / 8 * 8 = nI (i % 8) := pk_rem (d := 8) (by omega) (by omega) (by omega)
    have d8 : nI i / 8 = nI (i / 8) := pk_div (d := 8) (by omega) (by omega) (by omega)
    have hdot := mDot_i hW hH s0 s1 (show i < 64 by omega)
    have MF := s_isF1 (V := V) (n := n) (z := z) p ht hb n32 n51 n52 LL (show i < 64 by omega)
    have MI := s_Mod_isIn (V := V) (n := n) (z := z) n32 n32 n43 (B := (sB (decide (j = 1)) D t)) (X := i % 8) (Y := i / 8) (by omega) (by omega) (by omega)
    rw [m5, show 8 * (i / 8) + i % 8 = i by omega] at MI
    have ex : lb ((byC V (bX (decide (j = 1)) D t) (bY (decide (j = 1)) D t) (sP (decide (j = 1)) D t) (zN (decide (j = 1)) D t) (zC (decide (j = 1)) D t) 1 s (zN (decide (j = 1)) D t)) ^^^ wi (decide (j = 1)) (sR (decide (j = 1)) D t) t (sP (decide (j = 1)) D t)) i = (lb (byC V (bX (decide (j = 1)) D t) (bY (decide (j = 1)) D t) (sP (decide (j = 1)) D t) (zN (decide (j = 1)) D t) (zC (decide (j = 1)) D t) 1 s (zN (decide (j = 1)) D t)) i ^^ lb (wi (decide (j = 1)) (sR (decide (j = 1)) D t) t (sP (decide (j = 1)) D t)) i) := lb_xor _ _ _
    by_cases hd : mDot (st 0) (st 1) (nI (i % 8)) (nI (i / 8)) = 0
    · have ho := hdot.mp hd
      have e1 := by_out (V := V) ht hb p.2.2.2 (kind := 1) (sh := s) (by decide) (x := i % 8) (y := i / 8) (by omega) (by omega) ho
      rw [show 8 * (i / 8) + i % 8 = i by omega] at e1
      have e2 : lb (wi (decide (j = 1)) (sR (decide (j = 1)) D t) t (sP (decide (j = 1)) D t)) i = false := by
        cases q : lb (wi (decide (j = 1)) (sR (decide (j = 1)) D t) t (sP (decide (j = 1)) D t)) i
        · rfl
        · have := Wh_wi (bd_Val ht hb) (bd_ret ht hb) (sR_Wh (J := (decide (j = 1))) p.2.2.2 t (by omega)) ((i % 8 : Nat) : Int) ((i / 8 : Nat) : Int) (by
            unfold inD
            rw [decide_eq_true (by omega), show (8 * ((i / 8 : Nat) : Int) + ((i % 8 : Nat) : Int)).toNat = i by omega, Bool.true_and]
            exact q)
          omega
      rw [e1, e2] at ex
      refine a_iload d_Mod_differ_31 rfl ?_
      refine a_bipush (v := 64) d_Mod_differ_33 (by decide) ?_
      refine a_icmp_ge 101 d_Mod_differ_35 (by decide) (fun c35 => absurd c35 (nI_ge (b := 64) (show i < 64 by omega) (by omega))) (fun c35 => ?_)
      refine a_iload_n d_Mod_differ_38 rfl ?_
      refine a_aload_n d_Mod_differ_39 rfl ?_
      refine a_iload d_Mod_differ_40 rfl ?_
      refine a_bipush (v := 8) d_Mod_differ_42 (by decide) ?_
      refine a_irem d_Mod_differ_44 (by decide) ?_
      rw [r8]
      refine a_iload d_Mod_differ_45 rfl ?_
      refine a_bipush (v := 8) d_Mod_differ_47 (by decide) ?_
      refine a_idiv d_Mod_differ_49 (by decide) ?_
      rw [d8]
      refine a_cv0 (a := 32) d_Mod_differ_50 m_Mod_isDot t_Mod_isDot l_Mod_118 n32 rfl rfl (s_Mod_isDot n32 n33 _ _) rfl rfl ⟨Nat.le_of_ble_eq_true rfl, Nat.le_of_ble_eq_true rfl⟩ (Nat.le_of_ble_eq_true rfl)  ?_
      refine a_if_eq 92 d_Mod_differ_53 (by decide) (fun c53 => ?_) (fun c53 => absurd hd c53)
      refine a_iconst (v := 0) d_Mod_differ_92 (by decide) ?_
      refine a_iadd d_Mod_differ_93 ?_
      refine a_istore_n d_Mod_differ_94 (Nat.le_of_ble_eq_true rfl) (Nat.le_of_ble_eq_true rfl) rfl ?_
      refine a_iinc d_Mod_differ_95 rfl (nI_1 i) (Nat.le_of_ble_eq_true rfl) rfl ?_
      refine a_goto 31 d_Mod_differ_98 (by decide) ?_
      rw [pcn_f ex]
      exact ih (i + 1) (by omega)
    · by_cases he : lb (byC V (bX (decide (j = 1)) D t) (bY (decide (j = 1)) D t) (sP (decide (j = 1)) D t) (zN (decide (j = 1)) D t) (zC (decide (j = 1)) D t) 1 s (zN (decide (j = 1)) D t)) i = lb (wi (decide (j = 1)) (sR (decide (j = 1)) D t) t (sP (decide (j = 1)) D t)) i
      · rw [he, Bool.xor_self] at ex
        refine a_iload d_Mod_differ_31 rfl ?_
        refine a_bipush (v := 64) d_Mod_differ_33 (by decide) ?_
        refine a_icmp_ge 101 d_Mod_differ_35 (by decide) (fun c35 => absurd c35 (nI_ge (b := 64) (show i < 64 by omega) (by omega))) (fun c35 => ?_)
        refine a_iload_n d_Mod_differ_38 rfl ?_
        refine a_aload_n d_Mod_differ_39 rfl ?_
        refine a_iload d_Mod_differ_40 rfl ?_
        refine a_bipush (v := 8) d_Mod_differ_42 (by decide) ?_
        refine a_irem d_Mod_differ_44 (by decide) ?_
        rw [r8]
        refine a_iload d_Mod_differ_45 rfl ?_
        refine a_bipush (v := 8) d_Mod_differ_47 (by decide) ?_
        refine a_idiv d_Mod_differ_49 (by decide) ?_
        rw [d8]
        refine a_cv0 (a := 32) d_Mod_differ_50 m_Mod_isDot t_Mod_isDot l_Mod_118 n32 rfl rfl (s_Mod_isDot n32 n33 _ _) rfl rfl ⟨Nat.le_of_ble_eq_true rfl, Nat.le_of_ble_eq_true rfl⟩ (Nat.le_of_ble_eq_true rfl)  ?_
        refine a_if_eq 92 d_Mod_differ_53 (by decide) (fun c53 => absurd c53 hd) (fun c53 => ?_)
        refine a_aload_n d_Mod_differ_56 rfl ?_
        refine a_iload d_Mod_differ_57 rfl ?_
        refine a_bipush (v := 8) d_Mod_differ_59 (by decide) ?_
        refine a_irem d_Mod_differ_61 (by decide) ?_
        rw [r8]
        refine a_iload d_Mod_differ_62 rfl ?_
        refine a_bipush (v := 8) d_Mod_differ_64 (by decide) ?_
        refine a_idiv d_Mod_differ_66 (by decide) ?_
        rw [d8]
        refine a_cv0 (a := 32) d_Mod_differ_67 m_Mod_isFilled t_Mod_isFilled l_Mod_250 n32 rfl rfl MF rfl rfl ⟨Nat.le_of_ble_eq_true rfl, Nat.le_of_ble_eq_true rfl⟩ (Nat.le_of_ble_eq_true rfl)  ?_
        refine a_aload_n d_Mod_differ_70 rfl ?_
        refine a_iload_n d_Mod_differ_71 rfl ?_
        refine a_iload d_Mod_differ_72 rfl ?_
        refine a_bipush (v := 8) d_Mod_differ_74 (by decide) ?_
        refine a_irem d_Mod_differ_76 (by decide) ?_
        rw [r8]
        refine a_iload d_Mod_differ_77 rfl ?_
        refine a_bipush (v := 8) d_Mod_differ_79 (by decide) ?_
        refine a_idiv d_Mod_differ_81 (by decide) ?_
        rw [d8]
        refine a_cv0 (a := 32) d_Mod_differ_82 m_Mod_isIn t_Mod_isIn l_Mod_180 n32 rfl rfl MI rfl rfl ⟨Nat.le_of_ble_eq_true rfl, Nat.le_of_ble_eq_true rfl⟩ (Nat.le_of_ble_eq_true rfl)  ?_
        refine a_icmp_eq 92 d_Mod_differ_85 (by decide) (fun c85 => ?_) (fun c85 => absurd (by rw [he]) c85)
        refine a_iconst (v := 0) d_Mod_differ_92 (by decide) ?_
        refine a_iadd d_Mod_differ_93 ?_
        refine a_istore_n d_Mod_differ_94 (Nat.le_of_ble_eq_true rfl) (Nat.le_of_ble_eq_true rfl) rfl ?_
        refine a_iinc d_Mod_differ_95 rfl (nI_1 i) (Nat.le_of_ble_eq_true rfl) rfl ?_
        refine a_goto 31 d_Mod_differ_98 (by decide) ?_
        rw [pcn_f ex]
        exact ih (i + 1) (by omega)
      · have ex2 : lb ((byC V (bX (decide (j = 1)) D t) (bY (decide (j = 1)) D t) (sP (decide (j = 1)) D t) (zN (decide (j = 1)) D t) (zC (decide (j = 1)) D t) 1 s (zN (decide (j = 1)) D t)) ^^^ wi (decide (j = 1)) (sR (decide (j = 1)) D t) t (sP (decide (j = 1)) D t)) i = true := by
          rw [ex]
          revert he
          generalize lb (byC V (bX (decide (j = 1)) D t) (bY (decide (j = 1)) D t) (sP (decide (j = 1)) D t) (zN (decide (j = 1)) D t) (zC (decide (j = 1)) D t) 1 s (zN (decide (j = 1)) D t)) i = a
          generalize lb (wi (decide (j = 1)) (sR (decide (j = 1)) D t) t (sP (decide (j = 1)) D t)) i = b
          cases a <;> cases b <;> simp
        refine a_iload d_Mod_differ_31 rfl ?_
        refine a_bipush (v := 64) d_Mod_differ_33 (by decide) ?_
        refine a_icmp_ge 101 d_Mod_differ_35 (by decide) (fun c35 => absurd c35 (nI_ge (b := 64) (show i < 64 by omega) (by omega))) (fun c35 => ?_)
        refine a_iload_n d_Mod_differ_38 rfl ?_
        refine a_aload_n d_Mod_differ_39 rfl ?_
        refine a_iload d_Mod_differ_40 rfl ?_
        refine a_bipush (v := 8) d_Mod_differ_42 (by decide) ?_
        refine a_irem d_Mod_differ_44 (by decide) ?_
        rw [r8]
        refine a_iload d_Mod_differ_45 rfl ?_
        refine a_bipush (v := 8) d_Mod_differ_47 (by decide) ?_
        refine a_idiv d_Mod_differ_49 (by decide) ?_
        rw [d8]
        refine a_cv0 (a := 32) d_Mod_differ_50 m_Mod_isDot t_Mod_isDot l_Mod_118 n32 rfl rfl (s_Mod_isDot n32 n33 _ _) rfl rfl ⟨Nat.le_of_ble_eq_true rfl, Nat.le_of_ble_eq_true rfl⟩ (Nat.le_of_ble_eq_true rfl)  ?_
        refine a_if_eq 92 d_Mod_differ_53 (by decide) (fun c53 => absurd c53 hd) (fun c53 => ?_)
        refine a_aload_n d_Mod_differ_56 rfl ?_
        refine a_iload d_Mod_differ_57 rfl ?_
        refine a_bipush (v := 8) d_Mod_differ_59 (by decide) ?_
        refine a_irem d_Mod_differ_61 (by decide) ?_
        rw [r8]
        refine a_iload d_Mod_differ_62 rfl ?_
        refine a_bipush (v := 8) d_Mod_differ_64 (by decide) ?_
        refine a_idiv d_Mod_differ_66 (by decide) ?_
        rw [d8]
        refine a_cv0 (a := 32) d_Mod_differ_67 m_Mod_isFilled t_Mod_isFilled l_Mod_250 n32 rfl rfl MF rfl rfl ⟨Nat.le_of_ble_eq_true rfl, Nat.le_of_ble_eq_true rfl⟩ (Nat.le_of_ble_eq_true rfl)  ?_
        refine a_aload_n d_Mod_differ_70 rfl ?_
        refine a_iload_n d_Mod_differ_71 rfl ?_
        refine a_iload d_Mod_differ_72 rfl ?_
        refine a_bipush (v := 8) d_Mod_differ_74 (by decide) ?_
        refine a_irem d_Mod_differ_76 (by decide) ?_
        rw [r8]
        refine a_iload d_Mod_differ_77 rfl ?_
        refine a_bipush (v := 8) d_Mod_differ_79 (by decide) ?_
        refine a_idiv d_Mod_differ_81 (by decide) ?_
        rw [d8]
        refine a_cv0 (a := 32) d_Mod_differ_82 m_Mod_isIn t_Mod_isIn l_Mod_180 n32 rfl rfl MI rfl rfl ⟨Nat.le_of_ble_eq_true rfl, Nat.le_of_ble_eq_true rfl⟩ (Nat.le_of_ble_eq_true rfl)  ?_
        refine a_icmp_eq 92 d_Mod_differ_85 (by decide) (fun c85 => absurd c85 (fun q => he (b01_inj q))) (fun c85 => ?_)
        refine a_iconst (v := 1) d_Mod_differ_88 (by decide) ?_
        refine a_goto 93 d_Mod_differ_89 (by decide) ?_
        refine a_iadd d_Mod_differ_93 ?_
        refine a_istore_n d_Mod_differ_94 (Nat.le_of_ble_eq_true rfl) (Nat.le_of_ble_eq_true rfl) rfl ?_
        refine a_iinc d_Mod_differ_95 rfl (nI_1 i) (Nat.le_of_ble_eq_true rfl) rfl ?_
        refine a_goto 31 d_Mod_differ_98 (by decide) ?_
        rw [pcn_t ex2]
        exact ih (i + 1) (by omega)
set_option maxRecDepth 20000 in
set_option maxHeartbeats 4000000 in
theorem m_differ {W H : Nat} {D : Int64} {j s ac by_ la ra : Int32} (p : PcOk W H D j) (Q : MQs W H D j s ac by_ la ra h) (b kind : Int32) : ∃ h1, MQs W H D j s ac by_ la ra h1 ∧ FQ h1 h ∧ AMet V i_Mod_differ 8 [.ref 32, .int b, .int kind] h n z (some (.int (q_differ V W H D j s b kind))) h1 n z := by
  obtain ⟨c, g32⟩ := Q.cls
  obtain ⟨h1, L, F, M⟩ := m_isBorder (V := V) (n := n) (z := z) p Q b
  cases hq : bq W D j b with
  | none =>
    refine ⟨h1, L.q, F, ?_⟩
    rw [hq] at M
    have qn : q_differ V W H D j s b kind = -1000001 := by unfold q_differ; rw [hq]
    rw [qn]
    refine AMet.intro (Nat.le_refl _) (Nat.le_refl _) (by decide) (Nat.le_of_ble_eq_true rfl) rfl ?_
    refine a_aload_n d_Mod_differ_0 rfl ?_
    refine a_iload_n d_Mod_differ_1 rfl ?_
    refine a_cv0 (a := 32) d_Mod_differ_2 m_Mod_isBorder t_Mod_isBorder l_Mod_169 g32 rfl rfl M rfl rfl ⟨Nat.le_of_ble_eq_true rfl, Nat.le_of_ble_eq_true rfl⟩ (Nat.le_of_ble_eq_true rfl)  ?_
    refine a_if_eq 17 d_Mod_differ_5 (by decide) (fun c5 => ?_) (fun c5 => absurd rfl c5)
    refine a_ldc d_Mod_differ_17 k_Mod_75 ?_
    exact a_iret d_Mod_differ_19 rfl rfl rfl rfl
  | some t =>
    rw [hq, if_pos (show (some t).isSome = true from rfl)] at M
    obtain ⟨w0, ht, hb, eb, hlt⟩ := bq_some hq
    obtain ⟨tb, ve, oa, lm, k32, ⟨st, of, le, vxx, tu, lx, ly, k33, es, k47, k48, k49, k50, k51, k52⟩, ⟨fr, sz, fx, fy, wn, cx, cy, go, k39, k40, k41, k42, k43, k44, k45, k46, ml⟩, TB⟩ := id L
    obtain ⟨⟨m1, m2, m3, m4, m5⟩, m6⟩ := ml t ht hb
    obtain ⟨s0, s1, s2, s3, s4⟩ := MB.st0 es
    have P4 := bd_P ht hb
    have B36 := sB_36 (decide (j = 1)) D 64 (Nat.le_refl _)
    subst eb
    by_cases ck : fRg kind 0 1 = 0
    · refine ⟨h1, L.q, F, ?_⟩
      have qn : q_differ V W H D j s (nI (sB (decide (j = 1)) D t)) kind = -1000001 := by
        unfold q_differ; rw [hq]; simp only; rw [if_neg (fun q => fRg_01b.mp ck ⟨q.1, q.2⟩)]
      rw [qn]
      refine AMet.intro (Nat.le_refl _) (Nat.le_refl _) (by decide) (Nat.le_of_ble_eq_true rfl) rfl ?_
      refine a_aload_n d_Mod_differ_0 rfl ?_
      refine a_iload_n d_Mod_differ_1 rfl ?_
      refine a_cv0 (a := 32) d_Mod_differ_2 m_Mod_isBorder t_Mod_isBorder l_Mod_169 g32 rfl rfl M rfl rfl ⟨Nat.le_of_ble_eq_true rfl, Nat.le_of_ble_eq_true rfl⟩ (Nat.le_of_ble_eq_true rfl)  ?_
      refine a_if_eq 17 d_Mod_differ_5 (by decide) (fun c5 => absurd c5 (by decide)) (fun c5 => ?_)
      refine a_iload_n d_Mod_differ_8 rfl ?_
      refine a_iconst (v := 0) d_Mod_differ_9 (by decide) ?_
      refine a_iconst (v := 1) d_Mod_differ_10 (by decide) ?_
      refine a_cs0 d_Mod_differ_11 m_Mod_in t_Mod_in l_Mod_71 (s_Mod_in _ _ _) rfl rfl ⟨Nat.le_of_ble_eq_true rfl, Nat.le_of_ble_eq_true rfl⟩ (Nat.le_of_ble_eq_true rfl)  ?_
      refine a_if_ne 20 d_Mod_differ_14 (by decide) (fun c14 => absurd c14 (fun q => q ck)) (fun c14 => ?_)
      refine a_ldc d_Mod_differ_17 k_Mod_75 ?_
      exact a_iret d_Mod_differ_19 rfl rfl rfl rfl
    · rcases fRg_01c ck with rfl | rfl
      · obtain ⟨h2, N, lx, ly, fx, fy, T, ⟨a1, a2, a3, a4, a5, a6, a7, a8, a9, a10, n32⟩, n51, n52, LL, F2, M2⟩ := m_laysLine0 (V := V) (n := n) (z := z) ht hb L
        refine ⟨h2, (MLt.d ht hb T).q, FQ.tr F2 F, ?_⟩
        obtain ⟨lm2, -, ⟨st2, of2, le2, vx2, tu2, lx2, ly2, n33, es2, -⟩, ⟨fr2, sz2, fx2, fy2, wn2, cx2, cy2, go2, n39, n40, n41, n42, n43, n44, n45, n46, ml2⟩, -⟩ := id T
        obtain ⟨⟨p1, p2, p3, p4, p5⟩, p6⟩ := ml2 t ht hb
        obtain ⟨s20, s21, s22, s23, s24⟩ := MB.st0 es2
        have qn : q_differ V W H D j s (nI (sB (decide (j = 1)) D t)) 0 = nI (pcn ((byC V (bX (decide (j = 1)) D t) (bY (decide (j = 1)) D t) (sP (decide (j = 1)) D t) (zN (decide (j = 1)) D t) (zC (decide (j = 1)) D t) 0 s (zN (decide (j = 1)) D t)) ^^^ wi (decide (j = 1)) (sR (decide (j = 1)) D t) t (sP (decide (j = 1)) D t)) 64) := by
          unfold q_differ; rw [hq]; simp only; rw [if_pos ⟨by decide, by decide⟩, fBC_ok]
        rw [qn]
        refine AMet.intro (Nat.le_refl _) (Nat.le_refl _) (by decide) (Nat.le_of_ble_eq_true rfl) rfl ?_
        refine a_aload_n d_Mod_differ_0 rfl ?_
        refine a_iload_n d_Mod_differ_1 rfl ?_
        refine a_cv0 (a := 32) d_Mod_differ_2 m_Mod_isBorder t_Mod_isBorder l_Mod_169 g32 rfl rfl M rfl rfl ⟨Nat.le_of_ble_eq_true rfl, Nat.le_of_ble_eq_true rfl⟩ (Nat.le_of_ble_eq_true rfl)  ?_
        refine a_if_eq 17 d_Mod_differ_5 (by decide) (fun c5 => absurd c5 (by decide)) (fun c5 => ?_)
        refine a_iload_n d_Mod_differ_8 rfl ?_
        refine a_iconst (v := 0) d_Mod_differ_9 (by decide) ?_
        refine a_iconst (v := 1) d_Mod_differ_10 (by decide) ?_
        refine a_cs0 d_Mod_differ_11 m_Mod_in t_Mod_in l_Mod_71 (s_Mod_in _ _ _) rfl rfl ⟨Nat.le_of_ble_eq_true rfl, Nat.le_of_ble_eq_true rfl⟩ (Nat.le_of_ble_eq_true rfl)  ?_
        refine a_if_ne 20 d_Mod_differ_14 (by decide) (fun c14 => ?_) (fun c14 => absurd c14 ck)
        refine a_aload_n d_Mod_differ_20 rfl ?_
        refine a_iload_n d_Mod_differ_21 rfl ?_
        refine a_iload_n d_Mod_differ_22 rfl ?_
        refine a_cv0 (a := 32) d_Mod_differ_23 m_Mod_laysLine t_Mod_laysLine l_Mod_247 k32 rfl rfl M2 rfl rfl ⟨Nat.le_of_ble_eq_true rfl, Nat.le_of_ble_eq_true rfl⟩ (Nat.le_of_ble_eq_true rfl)  ?_
        refine a_iconst (v := 0) d_Mod_differ_26 (by decide) ?_
        refine a_istore_n d_Mod_differ_27 (Nat.le_of_ble_eq_true rfl) (Nat.le_of_ble_eq_true rfl) rfl ?_
        refine a_iconst (v := 0) d_Mod_differ_28 (by decide) ?_
        refine a_istore d_Mod_differ_29 (Nat.le_of_ble_eq_true rfl) (Nat.le_of_ble_eq_true rfl) rfl ?_
        exact L_diff0 p ht hb n32 n51 n52 LL n33 s20 s21 n43 p5 64 0 (by omega)
      · obtain ⟨h2, N, lx, ly, fx, fy, T, ⟨a1, a2, a3, a4, a5, a6, a7, a8, a9, a10, n32⟩, n51, n52, LL, F2, M2⟩ := m_laysLine1 (V := V) (n := n) (z := z) ht hb L
        refine ⟨h2, (MLt.d ht hb T).q, FQ.tr F2 F, ?_⟩
        obtain ⟨lm2, -, ⟨st2, of2, le2, vx2, tu2, lx2, ly2, n33, es2, -⟩, ⟨fr2, sz2, fx2, fy2, wn2, cx2, cy2, go2, n39, n40, n41, n42, n43, n44, n45, n46, ml2⟩, -⟩ := id T
        obtain ⟨⟨p1, p2, p3, p4, p5⟩, p6⟩ := ml2 t ht hb
        obtain ⟨s20, s21, s22, s23, s24⟩ := MB.st0 es2
        have qn : q_differ V W H D j s (nI (sB (decide (j = 1)) D t)) 1 = nI (pcn ((byC V (bX (decide (j = 1)) D t) (bY (decide (j = 1)) D t) (sP (decide (j = 1)) D t) (zN (decide (j = 1)) D t) (zC (decide (j = 1)) D t) 1 s (zN (decide (j = 1)) D t)) ^^^ wi (decide (j = 1)) (sR (decide (j = 1)) D t) t (sP (decide (j = 1)) D t)) 64) := by
          unfold q_differ; rw [hq]; simp only; rw [if_pos ⟨by decide, by decide⟩, fBC_ok]
        rw [qn]
        refine AMet.intro (Nat.le_refl _) (Nat.le_refl _) (by decide) (Nat.le_of_ble_eq_true rfl) rfl ?_
        refine a_aload_n d_Mod_differ_0 rfl ?_
        refine a_iload_n d_Mod_differ_1 rfl ?_
        refine a_cv0 (a := 32) d_Mod_differ_2 m_Mod_isBorder t_Mod_isBorder l_Mod_169 g32 rfl rfl M rfl rfl ⟨Nat.le_of_ble_eq_true rfl, Nat.le_of_ble_eq_true rfl⟩ (Nat.le_of_ble_eq_true rfl)  ?_
        refine a_if_eq 17 d_Mod_differ_5 (by decide) (fun c5 => absurd c5 (by decide)) (fun c5 => ?_)
        refine a_iload_n d_Mod_differ_8 rfl ?_
        refine a_iconst (v := 0) d_Mod_differ_9 (by decide) ?_
        refine a_iconst (v := 1) d_Mod_differ_10 (by decide) ?_
        refine a_cs0 d_Mod_differ_11 m_Mod_in t_Mod_in l_Mod_71 (s_Mod_in _ _ _) rfl rfl ⟨Nat.le_of_ble_eq_true rfl, Nat.le_of_ble_eq_true rfl⟩ (Nat.le_of_ble_eq_true rfl)  ?_
        refine a_if_ne 20 d_Mod_differ_14 (by decide) (fun c14 => ?_) (fun c14 => absurd c14 ck)
        refine a_aload_n d_Mod_differ_20 rfl ?_
        refine a_iload_n d_Mod_differ_21 rfl ?_
        refine a_iload_n d_Mod_differ_22 rfl ?_
        refine a_cv0 (a := 32) d_Mod_differ_23 m_Mod_laysLine t_Mod_laysLine l_Mod_247 k32 rfl rfl M2 rfl rfl ⟨Nat.le_of_ble_eq_true rfl, Nat.le_of_ble_eq_true rfl⟩ (Nat.le_of_ble_eq_true rfl)  ?_
        refine a_iconst (v := 0) d_Mod_differ_26 (by decide) ?_
        refine a_istore_n d_Mod_differ_27 (Nat.le_of_ble_eq_true rfl) (Nat.le_of_ble_eq_true rfl) rfl ?_
        refine a_iconst (v := 0) d_Mod_differ_28 (by decide) ?_
        refine a_istore d_Mod_differ_29 (Nat.le_of_ble_eq_true rfl) (Nat.le_of_ble_eq_true rfl) rfl ?_
        exact L_diff1 p ht hb n32 n51 n52 LL n33 s20 s21 n43 p5 64 0 (by omega)
end
