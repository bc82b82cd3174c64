/-! Polygons.seek, fewestThrough: printed by wip/whole/t20.py -/
def skL (X Y : Nat → Int) (P : Nat) : Nat → Nat × Nat
  | 0 => (1000000000, 0)
  | i + 1 => if cK X Y P i P < (skL X Y P i).1 then (cK X Y P i P, i) else skL X Y P i
theorem skL_b (X Y : Nat → Int) (P : Nat) : ∀ i, (skL X Y P i).1 ≤ 1000000000 ∧ (skL X Y P i).2 ≤ i
  | 0 => ⟨Nat.le_refl _, Nat.le_refl _⟩
  | i + 1 => by
    have ih := skL_b X Y P i
    show (if cK X Y P i P < (skL X Y P i).1 then (cK X Y P i P, i) else skL X Y P i).1 ≤ _ ∧ (if cK X Y P i P < (skL X Y P i).1 then (cK X Y P i P, i) else skL X Y P i).2 ≤ _
    split
    · constructor
      · show cK X Y P i P ≤ _; omega
      · show i ≤ _; omega
    · omega
def vF (X Y : Nat → Int) (P : Nat) : Nat := (skL X Y P (min P 12)).2
def csK (cs : Nat → Int32) (X Y : Nat → Int) (P : Nat) : Nat → Nat → Int32
  | 0 => cs
  | i + 1 => csR (csK cs X Y P i) X Y P i P
/-- how many vertices, their OFF, their corners -/
def bN (X Y : Nat → Int) (P : Nat) : Nat := nV X Y P (vF X Y P)
def bO (X Y : Nat → Int) (P : Nat) : Nat := cK X Y P (vF X Y P) P % 100000
def bC (X Y : Nat → Int) (P k : Nat) : Nat := vC X Y P (vF X Y P) k
section
variable {V : VV} {h : AH} {n z : Nat}

set_option maxRecDepth 20000 in
set_option maxHeartbeats 4000000 in
theorem L_seek {s0 P b : Nat} {fi : Int32} {wi : Int64} {me bo : Int32} {X Y : Nat → Int} {re of cs co : Nat → Int32} (hb : 53 ≤ b) (g24 : h 24 = oStr) (g25 : h 25 = aI 1872 of) (g26 : h 26 = aI 144 re) (g27 : h 27 = oPol) (g29 : h 29 = aI 144 co) (g30 : h 30 = aI 145 cs) (gb : h b = oBrd (nI s0) (nI P) fi wi me 0 bo) (hP : 2 ≤ P) (hs : s0 + P ≤ 144) (S : Sh X Y) (U : Un X Y P) (M : Me re of s0 P X Y) : ∀ (m i : Nat), i + m = min P 12 → Rc V i_Pol_seek 4 24 [some (.ref 27), some (.ref b), some (.int (nI (skL X Y P i).2)), some (.int (nI (skL X Y P i).1)), some (.int (nI i)), none] [] (hu h 30 (aI 145 (csK cs X Y P i))) n z 67 [some (.ref 27), some (.ref b), some (.int (nI (skL X Y P (min P 12)).2)), some (.int (nI (skL X Y P (min P 12)).1)), some (.int (nI (min P 12))), none] [] (hu h 30 (aI 145 (csK cs X Y P (min P 12)))) n z := by
  have ok := Ex_ok (by omega) U
  intro m
  induction m with
  | zero =>
    intro i him mc ms Qf n0 z0 q1 q2 K
    have e : i = min P 12 := by omega
    subst e
    have kb : (hu h 30 (aI 145 (csK cs X Y P (min P 12)))) b = oBrd (nI s0) (nI P) fi wi me 0 bo := by rw [hu_n (by omega)]; exact gb
    refine a_iload d_Pol_seek_24 rfl ?_
    refine a_aload_n d_Pol_seek_26 rfl ?_
    refine a_getf d_Pol_seek_27 f_Pol_91 kb rfl ?_
    refine a_icmp_ge 67 d_Pol_seek_30 (by decide) (fun c30 => ?_) (fun c30 => ?_)
    · skip
      exact K
    · skip
      refine a_iload d_Pol_seek_33 rfl ?_
      refine a_bipush (v := 12) d_Pol_seek_35 (by decide) ?_
      refine a_icmp_ge 67 d_Pol_seek_37 (by decide) (fun c37 => ?_) (fun c37 => absurd (nI_le (show 12 ≤ min P 12 by rw [nI_leI (by omega) (by omega)] at c30; omega) (by omega)) c37)
      exact K
  | succ m ih =>
    intro i him mc ms Qf n0 z0 q1 q2 K
    have kb : (hu h 30 (aI 145 (csK cs X Y P i))) b = oBrd (nI s0) (nI P) fi wi me 0 bo := by rw [hu_n (by omega)]; exact gb
    have k27 : (hu h 30 (aI 145 (csK cs X Y P i))) 27 = oPol := g27
    have hc := gc_b (K := 100000) ok i P P
    have hc9 : cK X Y P i P ≤ 14400000 := Nat.le_trans hc (Nat.le_trans (Nat.mul_le_mul_right 100000 (show P ≤ 144 by omega)) (by decide))
    have hsb := skL_b X Y P i
    have el := nI_leI (a := (skL X Y P i).1) (b := cK X Y P i P) (by omega) (by omega)
    by_cases hq : cK X Y P i P < (skL X Y P i).1
    · have e1 : skL X Y P (i + 1) = (cK X Y P i P, i) := by
        show (if _ then _ else _) = _
        rw [if_pos hq]
      refine a_iload d_Pol_seek_24 rfl ?_
      refine a_aload_n d_Pol_seek_26 rfl ?_
      refine a_getf d_Pol_seek_27 f_Pol_91 kb rfl ?_
      refine a_icmp_ge 67 d_Pol_seek_30 (by decide) (fun c30 => absurd c30 (nI_ge (show i < P by omega) (by omega))) (fun c30 => ?_)
      refine a_iload d_Pol_seek_33 rfl ?_
      refine a_bipush (v := 12) d_Pol_seek_35 (by decide) ?_
      refine a_icmp_ge 67 d_Pol_seek_37 (by decide) (fun c37 => absurd c37 (nI_ge (b := 12) (show i < 12 by omega) (by omega))) (fun c37 => ?_)
      refine a_aload_n d_Pol_seek_40 rfl ?_
      refine a_aload_n d_Pol_seek_41 rfl ?_
      refine a_iload d_Pol_seek_42 rfl ?_
      refine a_cv0 d_Pol_seek_44 m_Pol_costOfRound t_Pol_costOfRound l_Pol_39 k27 rfl rfl (s_Pol_costOfRound (cs := csK cs X Y P i) (h := hu h 30 (aI 145 (csK cs X Y P i))) hb g24 g25 g26 g27 kb hP hs S U M (hu_s _ _ _) (i := i) (by omega)) rfl rfl ⟨Nat.le_of_ble_eq_true rfl, Nat.le_of_ble_eq_true rfl⟩ (Nat.le_of_ble_eq_true rfl)  ?_
      refine a_istore d_Pol_seek_47 (Nat.le_of_ble_eq_true rfl) (Nat.le_of_ble_eq_true rfl) rfl ?_
      refine a_iload d_Pol_seek_49 rfl ?_
      refine a_iload_n d_Pol_seek_51 rfl ?_
      refine a_icmp_ge 61 d_Pol_seek_52 (by decide) (fun c52 => absurd c52 (fun q => absurd (el.mp q) (by omega))) (fun c52 => ?_)
      refine a_iload d_Pol_seek_55 rfl ?_
      refine a_istore_n d_Pol_seek_57 (Nat.le_of_ble_eq_true rfl) (Nat.le_of_ble_eq_true rfl) rfl ?_
      refine a_iload d_Pol_seek_58 rfl ?_
      refine a_istore_n d_Pol_seek_60 (Nat.le_of_ble_eq_true rfl) (Nat.le_of_ble_eq_true rfl) rfl ?_
      refine a_iinc d_Pol_seek_61 rfl (nI_1 i) (Nat.le_of_ble_eq_true rfl) rfl ?_
      refine a_goto 24 d_Pol_seek_64 (by decide) ?_
      refine a_drop 5 ?_
      refine a_eq rfl ?_ rfl (hu_hu _ _ _ _) rfl rfl (ih (i + 1) (by omega) mc ms Qf n0 z0 q1 q2 K)
      rw [e1]
      rfl
    · have e1 : skL X Y P (i + 1) = skL X Y P i := by
        show (if _ then _ else _) = _
        rw [if_neg hq]
      refine a_iload d_Pol_seek_24 rfl ?_
      refine a_aload_n d_Pol_seek_26 rfl ?_
      refine a_getf d_Pol_seek_27 f_Pol_91 kb rfl ?_
      refine a_icmp_ge 67 d_Pol_seek_30 (by decide) (fun c30 => absurd c30 (nI_ge (show i < P by omega) (by omega))) (fun c30 => ?_)
      refine a_iload d_Pol_seek_33 rfl ?_
      refine a_bipush (v := 12) d_Pol_seek_35 (by decide) ?_
      refine a_icmp_ge 67 d_Pol_seek_37 (by decide) (fun c37 => absurd c37 (nI_ge (b := 12) (show i < 12 by omega) (by omega))) (fun c37 => ?_)
      refine a_aload_n d_Pol_seek_40 rfl ?_
      refine a_aload_n d_Pol_seek_41 rfl ?_
      refine a_iload d_Pol_seek_42 rfl ?_
      refine a_cv0 d_Pol_seek_44 m_Pol_costOfRound t_Pol_costOfRound l_Pol_39 k27 rfl rfl (s_Pol_costOfRound (cs := csK cs X Y P i) (h := hu h 30 (aI 145 (csK cs X Y P i))) hb g24 g25 g26 g27 kb hP hs S U M (hu_s _ _ _) (i := i) (by omega)) rfl rfl ⟨Nat.le_of_ble_eq_true rfl, Nat.le_of_ble_eq_true rfl⟩ (Nat.le_of_ble_eq_true rfl)  ?_
      refine a_istore d_Pol_seek_47 (Nat.le_of_ble_eq_true rfl) (Nat.le_of_ble_eq_true rfl) rfl ?_
      refine a_iload d_Pol_seek_49 rfl ?_
      refine a_iload_n d_Pol_seek_51 rfl ?_
      refine a_icmp_ge 61 d_Pol_seek_52 (by decide) (fun c52 => ?_) (fun c52 => absurd (el.mpr (by omega)) c52)
      refine a_iinc d_Pol_seek_61 rfl (nI_1 i) (Nat.le_of_ble_eq_true rfl) rfl ?_
      refine a_goto 24 d_Pol_seek_64 (by decide) ?_
      refine a_drop 5 ?_
      refine a_eq rfl ?_ rfl (hu_hu _ _ _ _) rfl rfl (ih (i + 1) (by omega) mc ms Qf n0 z0 q1 q2 K)
      rw [e1]
      rfl
set_option maxRecDepth 20000 in
set_option maxHeartbeats 4000000 in
theorem L_seek2 {s0 P b : Nat} {fi : Int32} {wi : Int64} {me bo : Int32} {X Y : Nat → Int} {re of cs co : Nat → Int32} (hb : 53 ≤ b) (g24 : h 24 = oStr) (g25 : h 25 = aI 1872 of) (g26 : h 26 = aI 144 re) (g27 : h 27 = oPol) (g29 : h 29 = aI 144 co) (g30 : h 30 = aI 145 cs) (gb : h b = oBrd (nI s0) (nI P) fi wi me 0 bo) (hP : 2 ≤ P) (hs : s0 + P ≤ 144) (S : Sh X Y) (U : Un X Y P) (M : Me re of s0 P X Y) : AM V i_Pol_seek 4 n z none (hu (hu (hu (hu h 30 (aI 145 (csR (csK cs X Y P (min P 12)) X Y P (vF X Y P) P))) b (oBrd (nI s0) (nI P) fi wi me 0 (nI (bO X Y P)))) 29 (aI 144 (pt co s0 (bN X Y P) (fun k => nI (bC X Y P k))))) b (oBrd (nI s0) (nI P) fi wi me (nI (bN X Y P)) (nI (bO X Y P)))) n z 16 [some (.ref 27), some (.ref b), none, none, none, none] [] h n z := by
  have ok := Ex_ok (by omega) U
  have hsb := skL_b X Y P (min P 12)
  have hvf : vF X Y P ≤ 12 := by unfold vF; omega
  have kb : (hu h 30 (aI 145 (csK cs X Y P (min P 12)))) b = oBrd (nI s0) (nI P) fi wi me 0 bo := by rw [hu_n (by omega)]; exact gb
  have k27 : (hu h 30 (aI 145 (csK cs X Y P (min P 12)))) 27 = oPol := g27
  have k27b : (hu (hu h 30 (aI 145 (csR (csK cs X Y P (min P 12)) X Y P (vF X Y P) P))) b (oBrd (nI s0) (nI P) fi wi me 0 (nI (bO X Y P)))) 27 = oPol := by rw [hu_n (by omega)]; exact g27
  have hc := gc_b (K := 100000) ok (vF X Y P) P P
  have hc9 : cK X Y P (vF X Y P) P ≤ 14400000 := Nat.le_trans hc (Nat.le_trans (Nat.mul_le_mul_right 100000 (show P ≤ 144 by omega)) (by decide))
  have ebo : nI (cK X Y P (vF X Y P) P) - nI (cK X Y P (vF X Y P) P) / 100000 * 100000 = nI (bO X Y P) := pk_rem (d := 100000) (by omega) (by omega) (by omega)
  refine a_iconst (v := 0) d_Pol_seek_16 (by decide) ?_
  refine a_istore_n d_Pol_seek_17 (Nat.le_of_ble_eq_true rfl) (Nat.le_of_ble_eq_true rfl) rfl ?_
  refine a_ldc d_Pol_seek_18 k_Pol_90 ?_
  refine a_istore_n d_Pol_seek_20 (Nat.le_of_ble_eq_true rfl) (Nat.le_of_ble_eq_true rfl) rfl ?_
  refine a_iconst (v := 0) d_Pol_seek_21 (by decide) ?_
  refine a_istore d_Pol_seek_22 (Nat.le_of_ble_eq_true rfl) (Nat.le_of_ble_eq_true rfl) rfl ?_
  have e0 : h = hu h 30 (aI 145 (csK cs X Y P 0)) := (hu_same g30).symm
  refine ((L_seek hb g24 g25 g26 g27 g29 g30 gb hP hs S U M (min P 12) 0 (by omega)).use' e0 ?_)
  refine a_aload_n d_Pol_seek_67 rfl ?_
  refine a_aload_n d_Pol_seek_68 rfl ?_
  refine a_aload_n d_Pol_seek_69 rfl ?_
  refine a_iload_n d_Pol_seek_70 rfl ?_
  refine a_cv0 d_Pol_seek_71 m_Pol_costOfRound t_Pol_costOfRound l_Pol_39 k27 rfl rfl (s_Pol_costOfRound (cs := csK cs X Y P (min P 12)) (h := hu h 30 (aI 145 (csK cs X Y P (min P 12)))) hb g24 g25 g26 g27 kb hP hs S U M (hu_s _ _ _) (i := vF X Y P) (by omega)) rfl rfl ⟨Nat.le_of_ble_eq_true rfl, Nat.le_of_ble_eq_true rfl⟩ (Nat.le_of_ble_eq_true rfl)  ?_
  refine a_ldc d_Pol_seek_74 k_Pol_43 ?_
  refine a_irem d_Pol_seek_76 (by decide) ?_
  rw [ebo, hu_hu]
  refine a_putf d_Pol_seek_77 f_Pol_94 rfl (show _ = oBrd (nI s0) (nI P) fi wi me 0 bo from by rw [hu_n (by omega)]; exact gb) (Nat.le_of_ble_eq_true rfl) rfl rfl ?_
  refine a_aload_n d_Pol_seek_80 rfl ?_
  refine a_aload_n d_Pol_seek_81 rfl ?_
  refine a_iload_n d_Pol_seek_82 rfl ?_
  refine a_cv0 d_Pol_seek_83 m_Pol_writeVertices t_Pol_writeVertices l_Pol_97 k27b rfl rfl (s_Pol_writeVertices (cs := csK cs X Y P (min P 12)) (h := hu (hu h 30 (aI 145 (csR (csK cs X Y P (min P 12)) X Y P (vF X Y P) P))) b (oBrd (nI s0) (nI P) fi wi me 0 (nI (bO X Y P)))) hb (by rw [hu_n (by omega)]; exact g24) (by rw [hu_n (by omega)]; exact g25) (by rw [hu_n (by omega)]; exact g26) (by rw [hu_n (by omega)]; exact g27) (hu_s _ _ _) hP hs S U M (i := vF X Y P) (by rw [hu_n (by omega)]; exact hu_s _ _ _) (by omega) (by rw [hu_n (by omega)]; exact g29)) rfl rfl ⟨Nat.le_of_ble_eq_true rfl, Nat.le_of_ble_eq_true rfl⟩ (Nat.le_of_ble_eq_true rfl)  ?_
  exact a_vret d_Pol_seek_86 rfl rfl rfl rfl
set_option maxRecDepth 20000 in
set_option maxHeartbeats 4000000 in
theorem s_Pol_seek0 {b : Nat} {a1 a2 a3 a5 a7 : Int32} {a4 : Int64} {v : Nat} (gb : h b = oBrd a1 a2 a3 a4 a5 (nI v) a7) (hv : 0 < v) (hv2 : v < 1000) : AMet V i_Pol_seek 4 [.ref 27, .ref b] h n z (none) (h) n z := by
  refine AMet.intro (Nat.le_refl _) (Nat.le_refl _) (by decide) (Nat.le_of_ble_eq_true rfl) rfl ?_
  refine a_aload_n d_Pol_seek_0 rfl ?_
  refine a_getf d_Pol_seek_1 f_Pol_44 gb rfl ?_
  refine a_if_le 8 d_Pol_seek_4 (by decide) (fun c4 => absurd c4 (nI_nle hv (by omega))) (fun c4 => ?_)
  exact a_vret d_Pol_seek_7 rfl rfl rfl rfl
theorem Me.made {s0 P : Nat} {X Y : Nat → Int} (re of : Nat → Int32) : Me (reN re s0 X Y P P) (ofN of s0 (min (P - 1) 12) X Y P P) s0 P X Y := by
  intro k hk
  exact ⟨pt_in hk, fun s h1 h2 => ofN_in of s0 _ (by omega) X Y P P k s hk h1 h2⟩
theorem L_seekR {s0 P b : Nat} {fi : Int32} {wi : Int64} {bo : Int32} {X Y : Nat → Int} {re of cs co : Nat → Int32} (hb : 53 ≤ b) (g24 : h 24 = oStr) (g25 : h 25 = aI 1872 of) (g26 : h 26 = aI 144 re) (g27 : h 27 = oPol) (g29 : h 29 = aI 144 co) (g30 : h 30 = aI 145 cs) (gb : h b = oBrd (nI s0) (nI P) fi wi 1 0 bo) (hP : 2 ≤ P) (hs : s0 + P ≤ 144) (S : Sh X Y) (U : Un X Y P) (M : Me re of s0 P X Y) : ∃ h2 : AH, (AM V i_Pol_seek 4 n z none h2 n z 16 [some (.ref 27), some (.ref b), none, none, none, none] [] h n z) ∧ (h2 b = oBrd (nI s0) (nI P) fi wi 1 (nI (bN X Y P)) (nI (bO X Y P))) ∧ (∃ re2 of2, h2 25 = aI 1872 of2 ∧ h2 26 = aI 144 re2 ∧ Me re2 of2 s0 P X Y ∧ ∀ p, p < s0 ∨ s0 + P ≤ p → re2 p = re p ∧ ∀ s, s < 13 → of2 (p * 13 + s) = of (p * 13 + s)) ∧ (∃ co2, h2 29 = aI 144 co2 ∧ (∀ k, k < bN X Y P → co2 (s0 + k) = nI (bC X Y P k)) ∧ ∀ p, p < s0 ∨ s0 + P ≤ p → co2 p = co p) ∧ (∃ cs2, h2 30 = aI 145 cs2) ∧ ∀ i, i ≠ b → i ≠ 25 → i ≠ 26 → i ≠ 29 → i ≠ 30 → h2 i = h i := by
  have hn := nV_le X Y P (vF X Y P)
  refine ⟨_, L_seek2 hb g24 g25 g26 g27 g29 g30 gb hP hs S U M, hu_s _ _ _, ⟨re, of, by simp [hu, show (25 : Nat) ≠ b by omega, g25], by simp [hu, show (26 : Nat) ≠ b by omega, g26], M, fun p _ => ⟨rfl, fun _ _ => rfl⟩⟩, ⟨pt co s0 (bN X Y P) (fun k => nI (bC X Y P k)), by simp [hu, show (29 : Nat) ≠ b by omega], fun k hk => pt_in hk, fun p hp => pt_out (by unfold bN; omega)⟩, ⟨csR (csK cs X Y P (min P 12)) X Y P (vF X Y P) P, by simp [hu, show (30 : Nat) ≠ b by omega]⟩, fun i e1 e2 e3 e4 e5 => by simp [hu, e1, e4, e5]⟩
set_option maxRecDepth 20000 in
set_option maxHeartbeats 4000000 in
theorem s_Pol_seek {s0 P b : Nat} {fi : Int32} {wi : Int64} {me bo wk jn sz : Int32} {dt : Int64} {xs ys : Nat → Int32} {X Y : Nat → Int} {re of cs co : Nat → Int32} (hb : 53 ≤ b) (g19 : h 19 = oBrs wk dt jn sz) (g20 : h 20 = aI 144 xs) (g21 : h 21 = aI 144 ys) (g24 : h 24 = oStr) (g25 : h 25 = aI 1872 of) (g26 : h 26 = aI 144 re) (g27 : h 27 = oPol) (g29 : h 29 = aI 144 co) (g30 : h 30 = aI 145 cs) (gb : h b = oBrd (nI s0) (nI P) fi wi me 0 bo) (hP : 2 ≤ P) (hs : s0 + P ≤ 144) (S : Sh X Y) (U : Un X Y P) (Rw : Row xs ys s0 P X Y) (hme : me = 0 ∨ (me = 1 ∧ Me re of s0 P X Y)) : ∃ h2 : AH, AMet V i_Pol_seek 4 [.ref 27, .ref b] h n z none h2 n z ∧ (h2 b = oBrd (nI s0) (nI P) fi wi 1 (nI (bN X Y P)) (nI (bO X Y P))) ∧ (∃ re2 of2, h2 25 = aI 1872 of2 ∧ h2 26 = aI 144 re2 ∧ Me re2 of2 s0 P X Y ∧ ∀ p, p < s0 ∨ s0 + P ≤ p → re2 p = re p ∧ ∀ s, s < 13 → of2 (p * 13 + s) = of (p * 13 + s)) ∧ (∃ co2, h2 29 = aI 144 co2 ∧ (∀ k, k < bN X Y P → co2 (s0 + k) = nI (bC X Y P k)) ∧ ∀ p, p < s0 ∨ s0 + P ≤ p → co2 p = co p) ∧ (∃ cs2, h2 30 = aI 145 cs2) ∧ ∀ i, i ≠ b → i ≠ 25 → i ≠ 26 → i ≠ 29 → i ≠ 30 → h2 i = h i := by
  rcases hme with rfl | ⟨rfl, M⟩
  · obtain ⟨h1, e1⟩ : ∃ h1, h1 = hu (hu (hu h b (oBrd (nI s0) (nI P) fi wi 1 0 bo)) 26 (aI 144 (reN re s0 X Y P P))) 25 (aI 1872 (ofN of s0 (min (P - 1) 12) X Y P P)) := ⟨_, rfl⟩
    have far : ∀ i, i ≠ b → i ≠ 25 → i ≠ 26 → h1 i = h i := fun i q1 q2 q3 => by rw [e1]; simp [hu, q1, q2, q3]
    obtain ⟨h2, r0, r1, ⟨re2, of2, r2, r3, r4, r5⟩, r6, r7, r8⟩ := L_seekR (V := V) (h := h1) (n := n) (z := z) (s0 := s0) (P := P) (b := b) (fi := fi) (wi := wi) (bo := bo) (X := X) (Y := Y) (re := reN re s0 X Y P P) (of := ofN of s0 (min (P - 1) 12) X Y P P) (cs := cs) (co := co) hb (by rw [far _ (by omega) (by omega) (by omega)]; exact g24) (by rw [e1]; exact hu_s _ _ _) (by rw [e1, hu_n (by omega)]; exact hu_s _ _ _) (by rw [far _ (by omega) (by omega) (by omega)]; exact g27) (by rw [far _ (by omega) (by omega) (by omega)]; exact g29) (by rw [far _ (by omega) (by omega) (by omega)]; exact g30) (by rw [e1, hu_n (by omega), hu_n (by omega)]; exact hu_s _ _ _) hP hs S U (Me.made re of)
    refine ⟨h2, ?_, r1, ⟨re2, of2, r2, r3, r4, fun p hp => ?_⟩, r6, r7, fun i q1 q2 q3 q4 q5 => by rw [r8 i q1 q2 q3 q4 q5]; exact far i q1 q2 q3⟩
    · refine AMet.intro (Nat.le_refl _) (Nat.le_refl _) (by decide) (Nat.le_of_ble_eq_true rfl) rfl ?_
      refine a_aload_n d_Pol_seek_0 rfl ?_
      refine a_getf d_Pol_seek_1 f_Pol_44 gb rfl ?_
      refine a_if_le 8 d_Pol_seek_4 (by decide) (fun c4 => ?_) (fun c4 => absurd (Int32.le_refl _) c4)
      refine a_aload_n d_Pol_seek_8 rfl ?_
      refine a_getf d_Pol_seek_9 f_Pol_29 g27 rfl ?_
      refine a_aload_n d_Pol_seek_12 rfl ?_
      refine a_cv0 d_Pol_seek_13 m_Str_measure t_Str_measure l_Pol_33 g24 rfl rfl (s_Str_measure g19 g20 g21 g24 gb (by omega) hs Rw S hb g25 g26) rfl rfl ⟨Nat.le_of_ble_eq_true rfl, Nat.le_of_ble_eq_true rfl⟩ (Nat.le_of_ble_eq_true rfl)  ?_
      rw [← e1]
      exact r0
    · obtain ⟨w1, w2⟩ := r5 p hp
      refine ⟨by rw [w1]; exact pt_out hp, fun s hs2 => ?_⟩
      rw [w2 s hs2]
      exact ofN_out of s0 _ (by omega) X Y P P (by omega)
  · obtain ⟨h2, r0, rr⟩ := L_seekR (V := V) (n := n) (z := z) hb g24 g25 g26 g27 g29 g30 gb hP hs S U M
    refine ⟨h2, ?_, rr⟩
    refine AMet.intro (Nat.le_refl _) (Nat.le_refl _) (by decide) (Nat.le_of_ble_eq_true rfl) rfl ?_
    refine a_aload_n d_Pol_seek_0 rfl ?_
    refine a_getf d_Pol_seek_1 f_Pol_44 gb rfl ?_
    refine a_if_le 8 d_Pol_seek_4 (by decide) (fun c4 => ?_) (fun c4 => absurd (Int32.le_refl _) c4)
    refine a_aload_n d_Pol_seek_8 rfl ?_
    refine a_getf d_Pol_seek_9 f_Pol_29 g27 rfl ?_
    refine a_aload_n d_Pol_seek_12 rfl ?_
    refine a_cv0 d_Pol_seek_13 m_Str_measure t_Str_measure l_Pol_33 g24 rfl rfl (s_Str_measured gb) rfl rfl ⟨Nat.le_of_ble_eq_true rfl, Nat.le_of_ble_eq_true rfl⟩ (Nat.le_of_ble_eq_true rfl)  ?_
    exact r0
end
