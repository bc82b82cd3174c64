/-! Polygons: corners and bends of vertices; Filling: printed by wip/whole/t21.py -/
/-- a shaped border: nv vertices, the numbers of their corners -/
def vx (X : Nat → Int) (P nv : Nat) (cn : Nat → Nat) (k : Nat) : Int := X (cn (k % nv) % P)
abbrev bdC (X Y : Nat → Int) (P nv : Nat) (cn : Nat → Nat) (k : Nat) : AC := oBend (iI (vx X P nv cn (k + nv - 1))) (iI (vx Y P nv cn (k + nv - 1))) (iI (vx X P nv cn k)) (iI (vx Y P nv cn k)) (iI (vx X P nv cn (k + 1))) (iI (vx Y P nv cn (k + 1)))
def tnC (X Y : Nat → Int) (P nv : Nat) (cn : Nat → Nat) (k : Nat) : Int32 := fTurn (iI (vx X P nv cn (k + nv - 1))) (iI (vx Y P nv cn (k + nv - 1))) (iI (vx X P nv cn k)) (iI (vx Y P nv cn k)) (iI (vx X P nv cn (k + 1))) (iI (vx Y P nv cn (k + 1)))
def shC (X Y : Nat → Int) (P nv : Nat) (cn : Nat → Nat) (sh : Int32) (k : Nat) : Int32 := fSharp (iI (vx X P nv cn (k + nv - 1))) (iI (vx Y P nv cn (k + nv - 1))) (iI (vx X P nv cn k)) (iI (vx Y P nv cn k)) (iI (vx X P nv cn (k + 1))) (iI (vx Y P nv cn (k + 1))) sh
theorem fSharp_01 (ux uy vx vy wx wy s : Int32) : fSharp ux uy vx vy wx wy s = 0 ∨ fSharp ux uy vx vy wx wy s = 1 := by
  unfold fSharp
  split
  · exact Or.inr rfl
  · split
    · exact Or.inl rfl
    · exact Or.inr rfl
def cnt1 (f : Nat → Int32) : Nat → Nat
  | 0 => 0
  | k + 1 => if f k = 0 then cnt1 f k else cnt1 f k + 1
theorem cnt1_le (f : Nat → Int32) : ∀ k, cnt1 f k ≤ k
  | 0 => Nat.le_refl 0
  | k + 1 => by
    have ih := cnt1_le f k
    unfold cnt1
    split <;> omega
def ar2 (X Y : Nat → Int) (P nv : Nat) (cn : Nat → Nat) : Nat → Int
  | 0 => 0
  | k + 1 => ar2 X Y P nv cn k + (vx X P nv cn k * vx Y P nv cn (k + 1) - vx Y P nv cn k * vx X P nv cn (k + 1))
section
variable {V : VV} {h : AH} {n z : Nat}

set_option maxRecDepth 20000 in
set_option maxHeartbeats 4000000 in
theorem s_Pol_cornerOfVertex {s0 P b nv : Nat} {fi : Int32} {wi : Int64} {me bo wk jn sz : Int32} {dt : Int64} {xs ys co : Nat → Int32} {X Y : Nat → Int} {cn : Nat → Nat} (g19 : h 19 = oBrs wk dt jn sz) (g20 : h 20 = aI 144 xs) (g21 : h 21 = aI 144 ys) (g27 : h 27 = oPol) (g29 : h 29 = aI 144 co) (gb : h b = oBrd (nI s0) (nI P) fi wi me (nI nv) bo) (hb : 53 ≤ b) (hP : 0 < P) (hs : s0 + P ≤ 144) (hv : 0 < nv) (hvP : nv ≤ P) (Rw : Row xs ys s0 P X Y) (hc : ∀ k, k < nv → co (s0 + k) = nI (cn k) ∧ cn k < 1000) {K : Nat} (hK : K < 2 ^ 31) : AMet V i_Pol_cornerOfVertex 0 [.ref 27, .ref b, .int (nI K)] h n z (some (.int (nI (cn (K % nv))))) (h) n z := by
  have hm := Nat.mod_lt K hv
  have e1 : nI K - nI K / nI nv * nI nv = nI (K % nv) := pk_rem hK hv (by omega)
  refine AMet.intro (Nat.le_refl _) (Nat.le_refl _) (by decide) (Nat.le_of_ble_eq_true rfl) rfl ?_
  refine a_iload_n d_Pol_cornerOfVertex_0 rfl ?_
  refine a_if_lt 11 d_Pol_cornerOfVertex_1 (by decide) (fun c1 => absurd c1 (nI_pos hK)) (fun c1 => ?_)
  refine a_aload_n d_Pol_cornerOfVertex_4 rfl ?_
  refine a_getf d_Pol_cornerOfVertex_5 f_Pol_44 gb rfl ?_
  refine a_if_gt 13 d_Pol_cornerOfVertex_8 (by decide) (fun c8 => ?_) (fun c8 => absurd (by rw [← nI_0]; exact nI_lt hv (by omega)) c8)
  refine a_aload_n d_Pol_cornerOfVertex_13 rfl ?_
  refine a_getf d_Pol_cornerOfVertex_14 f_Pol_50 gb rfl ?_
  refine a_iload_n d_Pol_cornerOfVertex_17 rfl ?_
  refine a_aload_n d_Pol_cornerOfVertex_18 rfl ?_
  refine a_getf d_Pol_cornerOfVertex_19 f_Pol_44 gb rfl ?_
  refine a_irem d_Pol_cornerOfVertex_22 (nI_ne0 hv (by omega)) ?_
  refine a_iadd d_Pol_cornerOfVertex_23 ?_
  rw [e1, nI_add]
  refine a_istore_n d_Pol_cornerOfVertex_24 (Nat.le_of_ble_eq_true rfl) (Nat.le_of_ble_eq_true rfl) rfl ?_
  refine a_iload_n d_Pol_cornerOfVertex_25 rfl ?_
  refine a_if_lt 45 d_Pol_cornerOfVertex_26 (by decide) (fun c26 => absurd c26 (nI_pos (by omega))) (fun c26 => ?_)
  refine a_iload_n d_Pol_cornerOfVertex_29 rfl ?_
  refine a_sipush (v := 144) d_Pol_cornerOfVertex_30 (by decide) ?_
  refine a_icmp_ge 45 d_Pol_cornerOfVertex_33 (by decide) (fun c33 => absurd c33 (nI_ge (b := 144) (show s0 + K % nv < 144 by omega) (by omega))) (fun c33 => ?_)
  refine a_aload_n d_Pol_cornerOfVertex_36 rfl ?_
  refine a_getf d_Pol_cornerOfVertex_37 f_Pol_18 g27 rfl ?_
  refine a_iload_n d_Pol_cornerOfVertex_40 rfl ?_
  refine a_iald d_Pol_cornerOfVertex_41 g29 (vp_in_nI (by omega) (by omega)) ?_
  refine a_goto 46 d_Pol_cornerOfVertex_42 (by decide) ?_
  exact a_iret d_Pol_cornerOfVertex_46 rfl (by rw [nI_clamp (by omega), (hc _ hm).1]) rfl rfl
theorem s_xA28 {h' : AH} {s0 P b : Nat} {fi : Int32} {wi : Int64} {me ve bo wk jn sz : Int32} {dt : Int64} {xs ys : Nat → Int32} {X Y : Nat → Int} (far : ∀ q, q ≠ 28 → h' q = h q) (g19 : h 19 = oBrs wk dt jn sz) (g20 : h 20 = aI 144 xs) (gb : h b = oBrd (nI s0) (nI P) fi wi me ve bo) (hb : 53 ≤ b) (hP : 0 < P) (hs : s0 + P ≤ 144) (Rw : Row xs ys s0 P X Y) (K : Nat) (hK : K < 2 ^ 31) : AMet V i_Brs_xAt 1 [.ref 19, .ref b, .int (nI K)] h' n z (some (.int (iI (X (K % P))))) h' n z :=
  s_xA (h := h') (by rw [far _ (by decide)]; exact g19) (by rw [far _ (by decide)]; exact g20) (by rw [far _ (by omega)]; exact gb) hP hs Rw K hK
theorem s_yA28 {h' : AH} {s0 P b : Nat} {fi : Int32} {wi : Int64} {me ve bo wk jn sz : Int32} {dt : Int64} {xs ys : Nat → Int32} {X Y : Nat → Int} (far : ∀ q, q ≠ 28 → h' q = h q) (g19 : h 19 = oBrs wk dt jn sz) (g21 : h 21 = aI 144 ys) (gb : h b = oBrd (nI s0) (nI P) fi wi me ve bo) (hb : 53 ≤ b) (hP : 0 < P) (hs : s0 + P ≤ 144) (Rw : Row xs ys s0 P X Y) (K : Nat) (hK : K < 2 ^ 31) : AMet V i_Brs_yAt 1 [.ref 19, .ref b, .int (nI K)] h' n z (some (.int (iI (Y (K % P))))) h' n z :=
  s_yA (h := h') (by rw [far _ (by decide)]; exact g19) (by rw [far _ (by decide)]; exact g21) (by rw [far _ (by omega)]; exact gb) hP hs Rw K hK
set_option maxRecDepth 20000 in
set_option maxHeartbeats 4000000 in
theorem s_Pol_bendAt {s0 P b nv : Nat} {fi : Int32} {wi : Int64} {me bo wk jn sz : Int32} {dt : Int64} {xs ys co : Nat → Int32} {X Y : Nat → Int} {cn : Nat → Nat} (g19 : h 19 = oBrs wk dt jn sz) (g20 : h 20 = aI 144 xs) (g21 : h 21 = aI 144 ys) (g27 : h 27 = oPol) (g29 : h 29 = aI 144 co) (gb : h b = oBrd (nI s0) (nI P) fi wi me (nI nv) bo) (hb : 53 ≤ b) (hP : 0 < P) (hs : s0 + P ≤ 144) (hv : 0 < nv) (hvP : nv ≤ P) (Rw : Row xs ys s0 P X Y) (hc : ∀ k, k < nv → co (s0 + k) = nI (cn k) ∧ cn k < 1000) {c1 c2 c3 c4 c5 c6 : Int32} (g28 : h 28 = oBend c1 c2 c3 c4 c5 c6) {k : Nat} (hk : k < 1000) : AMet V i_Pol_bendAt 2 [.ref 27, .ref b, .int (nI k)] h n z (some (.ref 28)) (hu h 28 (bdC X Y P nv cn k)) n z := by
  have em : fMax (nI nv) 1 = nI nv := by
    have := fMax_n (a := nv) (b := 1) (by omega) (by omega)
    rw [Nat.max_eq_left (by omega)] at this
    exact this
  have e1 : nI k + nI nv - 1 = nI (k + nv - 1) := by rw [nI_add, show (1 : Int32) = nI 1 from rfl, pk_sub (by omega)]
  refine AMet.intro (Nat.le_refl _) (Nat.le_refl _) (by decide) (Nat.le_of_ble_eq_true rfl) rfl ?_
  refine a_aload_n d_Pol_bendAt_0 rfl ?_
  refine a_aload_n d_Pol_bendAt_1 rfl ?_
  refine a_iload_n d_Pol_bendAt_2 rfl ?_
  refine a_aload_n d_Pol_bendAt_3 rfl ?_
  refine a_getf d_Pol_bendAt_4 f_Pol_44 gb rfl ?_
  refine a_iconst (v := 1) d_Pol_bendAt_7 (by decide) ?_
  refine a_max d_Pol_bendAt_8 l_Pol_53 (Nat.le_of_ble_eq_true rfl) (Nat.le_of_ble_eq_true rfl) (Nat.le_of_ble_eq_true rfl) ?_
  refine a_iadd d_Pol_bendAt_11 ?_
  refine a_iconst (v := 1) d_Pol_bendAt_12 (by decide) ?_
  refine a_isub d_Pol_bendAt_13 ?_
  rw [em, e1]
  refine a_cv0 (a := 27) d_Pol_bendAt_14 m_Pol_cornerOfVertex t_Pol_cornerOfVertex l_Pol_59 g27 rfl rfl (s_Pol_cornerOfVertex g19 g20 g21 g27 g29 gb hb hP hs hv hvP Rw hc (K := k + nv - 1) (by omega)) rfl rfl ⟨Nat.le_of_ble_eq_true rfl, Nat.le_of_ble_eq_true rfl⟩ (Nat.le_of_ble_eq_true rfl)  ?_
  refine a_istore_n d_Pol_bendAt_17 (Nat.le_of_ble_eq_true rfl) (Nat.le_of_ble_eq_true rfl) rfl ?_
  refine a_aload_n d_Pol_bendAt_18 rfl ?_
  refine a_aload_n d_Pol_bendAt_19 rfl ?_
  refine a_iload_n d_Pol_bendAt_20 rfl ?_
  refine a_cv0 (a := 27) d_Pol_bendAt_21 m_Pol_cornerOfVertex t_Pol_cornerOfVertex l_Pol_59 g27 rfl rfl (s_Pol_cornerOfVertex g19 g20 g21 g27 g29 gb hb hP hs hv hvP Rw hc (K := k) (by omega)) rfl rfl ⟨Nat.le_of_ble_eq_true rfl, Nat.le_of_ble_eq_true rfl⟩ (Nat.le_of_ble_eq_true rfl)  ?_
  refine a_istore d_Pol_bendAt_24 (Nat.le_of_ble_eq_true rfl) (Nat.le_of_ble_eq_true rfl) rfl ?_
  refine a_aload_n d_Pol_bendAt_26 rfl ?_
  refine a_aload_n d_Pol_bendAt_27 rfl ?_
  refine a_iload_n d_Pol_bendAt_28 rfl ?_
  refine a_iconst (v := 1) d_Pol_bendAt_29 (by decide) ?_
  refine a_iadd d_Pol_bendAt_30 ?_
  rw [nI_1]
  refine a_cv0 (a := 27) d_Pol_bendAt_31 m_Pol_cornerOfVertex t_Pol_cornerOfVertex l_Pol_59 g27 rfl rfl (s_Pol_cornerOfVertex g19 g20 g21 g27 g29 gb hb hP hs hv hvP Rw hc (K := k + 1) (by omega)) rfl rfl ⟨Nat.le_of_ble_eq_true rfl, Nat.le_of_ble_eq_true rfl⟩ (Nat.le_of_ble_eq_true rfl)  ?_
  refine a_istore d_Pol_bendAt_34 (Nat.le_of_ble_eq_true rfl) (Nat.le_of_ble_eq_true rfl) rfl ?_
  refine a_aload_n d_Pol_bendAt_36 rfl ?_
  refine a_getf d_Pol_bendAt_37 f_Pol_10 g27 rfl ?_
  refine a_aload_n d_Pol_bendAt_40 rfl ?_
  refine a_getf d_Pol_bendAt_41 f_Pol_25 g27 rfl ?_
  refine a_aload_n d_Pol_bendAt_44 rfl ?_
  refine a_iload_n d_Pol_bendAt_45 rfl ?_
  refine a_cv0 (a := 19) d_Pol_bendAt_46 m_Brs_xAt t_Brs_xAt l_Pol_62 g19 rfl rfl (s_xA g19 g20 gb hP hs Rw (cn ((k + nv - 1) % nv)) (by have := (hc _ (Nat.mod_lt (k + nv - 1) hv)).2; omega)) rfl rfl ⟨Nat.le_of_ble_eq_true rfl, Nat.le_of_ble_eq_true rfl⟩ (Nat.le_of_ble_eq_true rfl)  ?_
  refine a_aload_n d_Pol_bendAt_49 rfl ?_
  refine a_getf d_Pol_bendAt_50 f_Pol_25 g27 rfl ?_
  refine a_aload_n d_Pol_bendAt_53 rfl ?_
  refine a_iload_n d_Pol_bendAt_54 rfl ?_
  refine a_cv0 (a := 19) d_Pol_bendAt_55 m_Brs_yAt t_Brs_yAt l_Pol_65 g19 rfl rfl (s_yA g19 g21 gb hP hs Rw (cn ((k + nv - 1) % nv)) (by have := (hc _ (Nat.mod_lt (k + nv - 1) hv)).2; omega)) rfl rfl ⟨Nat.le_of_ble_eq_true rfl, Nat.le_of_ble_eq_true rfl⟩ (Nat.le_of_ble_eq_true rfl)  ?_
  refine a_cv0 (a := 28) d_Pol_bendAt_58 m_Bend_from t_Bend_from l_Pol_68 g28 rfl rfl (s_Bend_from g28 _ _) rfl rfl ⟨Nat.le_of_ble_eq_true rfl, Nat.le_of_ble_eq_true rfl⟩ (Nat.le_of_ble_eq_true rfl)  ?_
  refine a_aload_n d_Pol_bendAt_61 rfl ?_
  refine a_getf d_Pol_bendAt_62 f_Pol_10 g27 rfl ?_
  refine a_aload_n d_Pol_bendAt_65 rfl ?_
  refine a_getf d_Pol_bendAt_66 f_Pol_25 g27 rfl ?_
  refine a_aload_n d_Pol_bendAt_69 rfl ?_
  refine a_iload d_Pol_bendAt_70 rfl ?_
  refine a_cv0 (a := 19) d_Pol_bendAt_72 m_Brs_xAt t_Brs_xAt l_Pol_62 g19 rfl rfl (s_xA28 (h := h) (fun q hq => by simp [hu, hq]) g19 g20 gb hb hP hs Rw (cn ((k) % nv)) (by have := (hc _ (Nat.mod_lt (k) hv)).2; omega)) rfl rfl ⟨Nat.le_of_ble_eq_true rfl, Nat.le_of_ble_eq_true rfl⟩ (Nat.le_of_ble_eq_true rfl)  ?_
  refine a_aload_n d_Pol_bendAt_75 rfl ?_
  refine a_getf d_Pol_bendAt_76 f_Pol_25 g27 rfl ?_
  refine a_aload_n d_Pol_bendAt_79 rfl ?_
  refine a_iload d_Pol_bendAt_80 rfl ?_
  refine a_cv0 (a := 19) d_Pol_bendAt_82 m_Brs_yAt t_Brs_yAt l_Pol_65 g19 rfl rfl (s_yA28 (h := h) (fun q hq => by simp [hu, hq]) g19 g21 gb hb hP hs Rw (cn ((k) % nv)) (by have := (hc _ (Nat.mod_lt (k) hv)).2; omega)) rfl rfl ⟨Nat.le_of_ble_eq_true rfl, Nat.le_of_ble_eq_true rfl⟩ (Nat.le_of_ble_eq_true rfl)  ?_
  refine a_cv0 (a := 28) d_Pol_bendAt_85 m_Bend_by t_Bend_by l_Pol_72 (hu_s _ _ _) rfl rfl (s_Bend_by (hu_s _ _ _) _ _) rfl rfl ⟨Nat.le_of_ble_eq_true rfl, Nat.le_of_ble_eq_true rfl⟩ (Nat.le_of_ble_eq_true rfl)  ?_
  refine a_aload_n d_Pol_bendAt_88 rfl ?_
  refine a_getf d_Pol_bendAt_89 f_Pol_10 g27 rfl ?_
  refine a_aload_n d_Pol_bendAt_92 rfl ?_
  refine a_getf d_Pol_bendAt_93 f_Pol_25 g27 rfl ?_
  refine a_aload_n d_Pol_bendAt_96 rfl ?_
  refine a_iload d_Pol_bendAt_97 rfl ?_
  refine a_cv0 (a := 19) d_Pol_bendAt_99 m_Brs_xAt t_Brs_xAt l_Pol_62 g19 rfl rfl (s_xA28 (h := h) (fun q hq => by simp [hu, hq]) g19 g20 gb hb hP hs Rw (cn ((k + 1) % nv)) (by have := (hc _ (Nat.mod_lt (k + 1) hv)).2; omega)) rfl rfl ⟨Nat.le_of_ble_eq_true rfl, Nat.le_of_ble_eq_true rfl⟩ (Nat.le_of_ble_eq_true rfl)  ?_
  refine a_aload_n d_Pol_bendAt_102 rfl ?_
  refine a_getf d_Pol_bendAt_103 f_Pol_25 g27 rfl ?_
  refine a_aload_n d_Pol_bendAt_106 rfl ?_
  refine a_iload d_Pol_bendAt_107 rfl ?_
  refine a_cv0 (a := 19) d_Pol_bendAt_109 m_Brs_yAt t_Brs_yAt l_Pol_65 g19 rfl rfl (s_yA28 (h := h) (fun q hq => by simp [hu, hq]) g19 g21 gb hb hP hs Rw (cn ((k + 1) % nv)) (by have := (hc _ (Nat.mod_lt (k + 1) hv)).2; omega)) rfl rfl ⟨Nat.le_of_ble_eq_true rfl, Nat.le_of_ble_eq_true rfl⟩ (Nat.le_of_ble_eq_true rfl)  ?_
  refine a_cv0 (a := 28) d_Pol_bendAt_112 m_Bend_to t_Bend_to l_Pol_75 (hu_s _ _ _) rfl rfl (s_Bend_to (hu_s _ _ _) _ _) rfl rfl ⟨Nat.le_of_ble_eq_true rfl, Nat.le_of_ble_eq_true rfl⟩ (Nat.le_of_ble_eq_true rfl)  ?_
  refine a_aload_n d_Pol_bendAt_115 rfl ?_
  refine a_getf d_Pol_bendAt_116 f_Pol_10 g27 rfl ?_
  exact a_aret d_Pol_bendAt_119 rfl (Or.inr ⟨_, rfl⟩) rfl (by rw [hu_hu, hu_hu]; rfl) rfl
def bdX (X Y : Nat → Int) (P nv : Nat) (cn : Nat → Nat) (c : Int32 × Int32 × Int32 × Int32 × Int32 × Int32) : Nat → AC
  | 0 => oBend c.1 c.2.1 c.2.2.1 c.2.2.2.1 c.2.2.2.2.1 c.2.2.2.2.2
  | k + 1 => bdC X Y P nv cn k
theorem bdX_o (X Y : Nat → Int) (P nv : Nat) (cn : Nat → Nat) (c : Int32 × Int32 × Int32 × Int32 × Int32 × Int32) : ∀ k, ∃ c1 c2 c3 c4 c5 c6, bdX X Y P nv cn c k = oBend c1 c2 c3 c4 c5 c6
  | 0 => ⟨_, _, _, _, _, _, rfl⟩
  | k + 1 => ⟨_, _, _, _, _, _, rfl⟩
set_option maxRecDepth 20000 in
set_option maxHeartbeats 4000000 in
theorem L_sharpV {s0 P b nv : Nat} {fi : Int32} {wi : Int64} {me bo wk jn sz : Int32} {dt : Int64} {xs ys co : Nat → Int32} {X Y : Nat → Int} {cn : Nat → Nat} (g19 : h 19 = oBrs wk dt jn sz) (g20 : h 20 = aI 144 xs) (g21 : h 21 = aI 144 ys) (g27 : h 27 = oPol) (g29 : h 29 = aI 144 co) (gb : h b = oBrd (nI s0) (nI P) fi wi me (nI nv) bo) (hb : 53 ≤ b) (hP : 0 < P) (hs : s0 + P ≤ 144) (hv : 0 < nv) (hvP : nv ≤ P) (Rw : Row xs ys s0 P X Y) (hc : ∀ k, k < nv → co (s0 + k) = nI (cn k) ∧ cn k < 1000) {c : Int32 × Int32 × Int32 × Int32 × Int32 × Int32} (g28 : h 28 = bdX X Y P nv cn c 0) (sh : Int32) : ∀ (m k : Nat), k + m = nv → AM V i_Pol_sharpVertices 4 n z (some (.int (nI (cnt1 (shC X Y P nv cn sh) nv)))) (hu h 28 (bdX X Y P nv cn c nv)) n z 5 [some (.ref 27), some (.ref b), some (.int sh), some (.int (nI (cnt1 (shC X Y P nv cn sh) k))), some (.int (nI k))] [] (hu h 28 (bdX X Y P nv cn c k)) n z := by
  intro m
  induction m with
  | zero =>
    intro k hk
    have e : nv = k := by omega
    subst e
    have kb : (hu h 28 (bdX X Y P nv cn c nv)) b = oBrd (nI s0) (nI P) fi wi me (nI nv) bo := by rw [hu_n (by omega)]; exact gb
    refine a_iload d_Pol_sharpVertices_5 rfl ?_
    refine a_aload_n d_Pol_sharpVertices_7 rfl ?_
    refine a_getf d_Pol_sharpVertices_8 f_Pol_44 kb rfl ?_
    refine a_icmp_ge 37 d_Pol_sharpVertices_11 (by decide) (fun c11 => ?_) (fun c11 => absurd (Int32.le_refl _) c11)
    refine a_iload_n d_Pol_sharpVertices_37 rfl ?_
    exact a_iret d_Pol_sharpVertices_38 rfl rfl rfl rfl
  | succ m ih =>
    intro k hk
    have kb : (hu h 28 (bdX X Y P nv cn c k)) b = oBrd (nI s0) (nI P) fi wi me (nI nv) bo := by rw [hu_n (by omega)]; exact gb
    have k27 : (hu h 28 (bdX X Y P nv cn c k)) 27 = oPol := g27
    obtain ⟨c1, c2, c3, c4, c5, c6, ec⟩ := bdX_o X Y P nv cn c k
    have hle := cnt1_le (shC X Y P nv cn sh) k
    by_cases hq : shC X Y P nv cn sh k = 0
    · have e1 : cnt1 (shC X Y P nv cn sh) (k + 1) = cnt1 (shC X Y P nv cn sh) k := by
        show (if _ then _ else _) = _
        rw [if_pos hq]
      refine a_iload d_Pol_sharpVertices_5 rfl ?_
      refine a_aload_n d_Pol_sharpVertices_7 rfl ?_
      refine a_getf d_Pol_sharpVertices_8 f_Pol_44 kb rfl ?_
      refine a_icmp_ge 37 d_Pol_sharpVertices_11 (by decide) (fun c11 => absurd c11 (nI_ge (show k < nv by omega) (by omega))) (fun c11 => ?_)
      refine a_aload_n d_Pol_sharpVertices_14 rfl ?_
      refine a_aload_n d_Pol_sharpVertices_15 rfl ?_
      refine a_iload d_Pol_sharpVertices_16 rfl ?_
      refine a_cv0 (a := 27) d_Pol_sharpVertices_18 m_Pol_bendAt t_Pol_bendAt l_Pol_78 k27 rfl rfl (s_Pol_bendAt (h := hu h 28 (bdX X Y P nv cn c k)) g19 g20 g21 g27 g29 kb hb hP hs hv hvP Rw hc (by rw [hu_s]; exact ec) (k := k) (by omega)) rfl rfl ⟨Nat.le_of_ble_eq_true rfl, Nat.le_of_ble_eq_true rfl⟩ (Nat.le_of_ble_eq_true rfl)  ?_
      refine a_iload_n d_Pol_sharpVertices_21 rfl ?_
      refine a_cv0 (a := 28) d_Pol_sharpVertices_22 m_Bend_isSharp t_Bend_isSharp l_Pol_82 (hu_s _ _ _) rfl rfl (s_Bend_isSharp (hu_s _ _ _) sh) rfl rfl ⟨Nat.le_of_ble_eq_true rfl, Nat.le_of_ble_eq_true rfl⟩ (Nat.le_of_ble_eq_true rfl)  ?_
      refine a_if_eq 31 d_Pol_sharpVertices_25 (by decide) (fun c25 => ?_) (fun c25 => absurd hq c25)
      refine a_iinc d_Pol_sharpVertices_31 rfl (nI_1 k) (Nat.le_of_ble_eq_true rfl) rfl ?_
      refine a_goto 5 d_Pol_sharpVertices_34 (by decide) ?_
      refine a_eq rfl ?_ rfl (hu_hu _ _ _ _) rfl rfl (ih (k + 1) (by omega))
      rw [e1]
      rfl
    · have e1 : cnt1 (shC X Y P nv cn sh) (k + 1) = cnt1 (shC X Y P nv cn sh) k + 1 := by
        show (if _ then _ else _) = _
        rw [if_neg hq]
      refine a_iload d_Pol_sharpVertices_5 rfl ?_
      refine a_aload_n d_Pol_sharpVertices_7 rfl ?_
      refine a_getf d_Pol_sharpVertices_8 f_Pol_44 kb rfl ?_
      refine a_icmp_ge 37 d_Pol_sharpVertices_11 (by decide) (fun c11 => absurd c11 (nI_ge (show k < nv by omega) (by omega))) (fun c11 => ?_)
      refine a_aload_n d_Pol_sharpVertices_14 rfl ?_
      refine a_aload_n d_Pol_sharpVertices_15 rfl ?_
      refine a_iload d_Pol_sharpVertices_16 rfl ?_
      refine a_cv0 (a := 27) d_Pol_sharpVertices_18 m_Pol_bendAt t_Pol_bendAt l_Pol_78 k27 rfl rfl (s_Pol_bendAt (h := hu h 28 (bdX X Y P nv cn c k)) g19 g20 g21 g27 g29 kb hb hP hs hv hvP Rw hc (by rw [hu_s]; exact ec) (k := k) (by omega)) rfl rfl ⟨Nat.le_of_ble_eq_true rfl, Nat.le_of_ble_eq_true rfl⟩ (Nat.le_of_ble_eq_true rfl)  ?_
      refine a_iload_n d_Pol_sharpVertices_21 rfl ?_
      refine a_cv0 (a := 28) d_Pol_sharpVertices_22 m_Bend_isSharp t_Bend_isSharp l_Pol_82 (hu_s _ _ _) rfl rfl (s_Bend_isSharp (hu_s _ _ _) sh) rfl rfl ⟨Nat.le_of_ble_eq_true rfl, Nat.le_of_ble_eq_true rfl⟩ (Nat.le_of_ble_eq_true rfl)  ?_
      refine a_if_eq 31 d_Pol_sharpVertices_25 (by decide) (fun c25 => absurd c25 hq) (fun c25 => ?_)
      refine a_iinc d_Pol_sharpVertices_28 rfl (nI_1 _) (Nat.le_of_ble_eq_true rfl) rfl ?_
      refine a_iinc d_Pol_sharpVertices_31 rfl (nI_1 k) (Nat.le_of_ble_eq_true rfl) rfl ?_
      refine a_goto 5 d_Pol_sharpVertices_34 (by decide) ?_
      refine a_eq rfl ?_ rfl (hu_hu _ _ _ _) rfl rfl (ih (k + 1) (by omega))
      rw [e1]
      rfl
set_option maxRecDepth 20000 in
set_option maxHeartbeats 4000000 in
theorem s_Pol_sharpVertices {s0 P b nv : Nat} {fi : Int32} {wi : Int64} {me bo wk jn sz : Int32} {dt : Int64} {xs ys co : Nat → Int32} {X Y : Nat → Int} {cn : Nat → Nat} (g19 : h 19 = oBrs wk dt jn sz) (g20 : h 20 = aI 144 xs) (g21 : h 21 = aI 144 ys) (g27 : h 27 = oPol) (g29 : h 29 = aI 144 co) (gb : h b = oBrd (nI s0) (nI P) fi wi me (nI nv) bo) (hb : 53 ≤ b) (hP : 0 < P) (hs : s0 + P ≤ 144) (hv : 0 < nv) (hvP : nv ≤ P) (Rw : Row xs ys s0 P X Y) (hc : ∀ k, k < nv → co (s0 + k) = nI (cn k) ∧ cn k < 1000) {c : Int32 × Int32 × Int32 × Int32 × Int32 × Int32} (g28 : h 28 = bdX X Y P nv cn c 0) (sh : Int32) : AMet V i_Pol_sharpVertices 4 [.ref 27, .ref b, .int sh] h n z (some (.int (nI (cnt1 (shC X Y P nv cn sh) nv)))) (hu h 28 (bdX X Y P nv cn c nv)) n z := by
  refine AMet.intro (Nat.le_refl _) (Nat.le_refl _) (by decide) (Nat.le_of_ble_eq_true rfl) rfl ?_
  refine a_iconst (v := 0) d_Pol_sharpVertices_0 (by decide) ?_
  refine a_istore_n d_Pol_sharpVertices_1 (Nat.le_of_ble_eq_true rfl) (Nat.le_of_ble_eq_true rfl) rfl ?_
  refine a_iconst (v := 0) d_Pol_sharpVertices_2 (by decide) ?_
  refine a_istore d_Pol_sharpVertices_3 (Nat.le_of_ble_eq_true rfl) (Nat.le_of_ble_eq_true rfl) rfl ?_
  exact a_eq rfl rfl rfl (hu_same g28).symm rfl rfl (L_sharpV g19 g20 g21 g27 g29 gb hb hP hs hv hvP Rw hc g28 sh nv 0 (by omega))
set_option maxRecDepth 20000 in
set_option maxHeartbeats 4000000 in
theorem L_area {s0 P b nv : Nat} {fi : Int32} {wi : Int64} {me bo wk jn sz : Int32} {dt : Int64} {xs ys co : Nat → Int32} {X Y : Nat → Int} {cn : Nat → Nat} (g19 : h 19 = oBrs wk dt jn sz) (g20 : h 20 = aI 144 xs) (g21 : h 21 = aI 144 ys) (g27 : h 27 = oPol) (g29 : h 29 = aI 144 co) (gb : h b = oBrd (nI s0) (nI P) fi wi me (nI nv) bo) (hb : 53 ≤ b) (hP : 0 < P) (hs : s0 + P ≤ 144) (hv : 0 < nv) (hvP : nv ≤ P) (Rw : Row xs ys s0 P X Y) (hc : ∀ k, k < nv → co (s0 + k) = nI (cn k) ∧ cn k < 1000) : ∀ (m k : Nat), k + m = nv → AM V i_Pol_twiceTheArea 2 n z (some (.int (fAbs (iI (ar2 X Y P nv cn nv))))) h n z 4 [some (.ref 27), some (.ref b), some (.int (iI (ar2 X Y P nv cn k))), some (.int (nI k)), none, none] [] h n z := by
  intro m
  induction m with
  | zero =>
    intro k hk
    have e : nv = k := by omega
    subst e
    refine a_iload_n d_Pol_twiceTheArea_4 rfl ?_
    refine a_aload_n d_Pol_twiceTheArea_5 rfl ?_
    refine a_getf d_Pol_twiceTheArea_6 f_Pol_44 gb rfl ?_
    refine a_icmp_ge 82 d_Pol_twiceTheArea_9 (by decide) (fun c9 => ?_) (fun c9 => absurd (Int32.le_refl _) c9)
    refine a_iload_n d_Pol_twiceTheArea_82 rfl ?_
    refine a_abs d_Pol_twiceTheArea_83 l_Pol_86 (Nat.le_of_ble_eq_true rfl) (Nat.le_of_ble_eq_true rfl) (Nat.le_of_ble_eq_true rfl) ?_
    exact a_iret d_Pol_twiceTheArea_86 rfl rfl rfl rfl
  | succ m ih =>
    intro k hk
    refine a_iload_n d_Pol_twiceTheArea_4 rfl ?_
    refine a_aload_n d_Pol_twiceTheArea_5 rfl ?_
    refine a_getf d_Pol_twiceTheArea_6 f_Pol_44 gb rfl ?_
    refine a_icmp_ge 82 d_Pol_twiceTheArea_9 (by decide) (fun c9 => absurd c9 (nI_ge (show k < nv by omega) (by omega))) (fun c9 => ?_)
    refine a_aload_n d_Pol_twiceTheArea_12 rfl ?_
    refine a_aload_n d_Pol_twiceTheArea_13 rfl ?_
    refine a_iload_n d_Pol_twiceTheArea_14 rfl ?_
    refine a_cv0 (a := 27) d_Pol_twiceTheArea_15 m_Pol_cornerOfVertex t_Pol_cornerOfVertex l_Pol_59 g27 rfl rfl (s_Pol_cornerOfVertex g19 g20 g21 g27 g29 gb hb hP hs hv hvP Rw hc (K := k) (by omega)) rfl rfl ⟨Nat.le_of_ble_eq_true rfl, Nat.le_of_ble_eq_true rfl⟩ (Nat.le_of_ble_eq_true rfl)  ?_
    refine a_istore d_Pol_twiceTheArea_18 (Nat.le_of_ble_eq_true rfl) (Nat.le_of_ble_eq_true rfl) rfl ?_
    refine a_aload_n d_Pol_twiceTheArea_20 rfl ?_
    refine a_aload_n d_Pol_twiceTheArea_21 rfl ?_
    refine a_iload_n d_Pol_twiceTheArea_22 rfl ?_
    refine a_iconst (v := 1) d_Pol_twiceTheArea_23 (by decide) ?_
    refine a_iadd d_Pol_twiceTheArea_24 ?_
    rw [nI_1]
    refine a_cv0 (a := 27) d_Pol_twiceTheArea_25 m_Pol_cornerOfVertex t_Pol_cornerOfVertex l_Pol_59 g27 rfl rfl (s_Pol_cornerOfVertex g19 g20 g21 g27 g29 gb hb hP hs hv hvP Rw hc (K := k + 1) (by omega)) rfl rfl ⟨Nat.le_of_ble_eq_true rfl, Nat.le_of_ble_eq_true rfl⟩ (Nat.le_of_ble_eq_true rfl)  ?_
    refine a_istore d_Pol_twiceTheArea_28 (Nat.le_of_ble_eq_true rfl) (Nat.le_of_ble_eq_true rfl) rfl ?_
    refine a_iload_n d_Pol_twiceTheArea_30 rfl ?_
    refine a_aload_n d_Pol_twiceTheArea_31 rfl ?_
    refine a_getf d_Pol_twiceTheArea_32 f_Pol_25 g27 rfl ?_
    refine a_aload_n d_Pol_twiceTheArea_35 rfl ?_
    refine a_iload d_Pol_twiceTheArea_36 rfl ?_
    refine a_cv0 (a := 19) d_Pol_twiceTheArea_38 m_Brs_xAt t_Brs_xAt l_Pol_62 g19 rfl rfl (s_xA g19 g20 gb hP hs Rw (cn ((k) % nv)) (by have := (hc _ (Nat.mod_lt (k) hv)).2; omega)) rfl rfl ⟨Nat.le_of_ble_eq_true rfl, Nat.le_of_ble_eq_true rfl⟩ (Nat.le_of_ble_eq_true rfl)  ?_
    refine a_aload_n d_Pol_twiceTheArea_41 rfl ?_
    refine a_getf d_Pol_twiceTheArea_42 f_Pol_25 g27 rfl ?_
    refine a_aload_n d_Pol_twiceTheArea_45 rfl ?_
    refine a_iload d_Pol_twiceTheArea_46 rfl ?_
    refine a_cv0 (a := 19) d_Pol_twiceTheArea_48 m_Brs_yAt t_Brs_yAt l_Pol_65 g19 rfl rfl (s_yA g19 g21 gb hP hs Rw (cn ((k + 1) % nv)) (by have := (hc _ (Nat.mod_lt (k + 1) hv)).2; omega)) rfl rfl ⟨Nat.le_of_ble_eq_true rfl, Nat.le_of_ble_eq_true rfl⟩ (Nat.le_of_ble_eq_true rfl)  ?_
    refine a_imul d_Pol_twiceTheArea_51 ?_
    refine a_aload_n d_Pol_twiceTheArea_52 rfl ?_
    refine a_getf d_Pol_twiceTheArea_53 f_Pol_25 g27 rfl ?_
    refine a_aload_n d_Pol_twiceTheArea_56 rfl ?_
    refine a_iload d_Pol_twiceTheArea_57 rfl ?_
    refine a_cv0 (a := 19) d_Pol_twiceTheArea_59 m_Brs_yAt t_Brs_yAt l_Pol_65 g19 rfl rfl (s_yA g19 g21 gb hP hs Rw (cn ((k) % nv)) (by have := (hc _ (Nat.mod_lt (k) hv)).2; omega)) rfl rfl ⟨Nat.le_of_ble_eq_true rfl, Nat.le_of_ble_eq_true rfl⟩ (Nat.le_of_ble_eq_true rfl)  ?_
    refine a_aload_n d_Pol_twiceTheArea_62 rfl ?_
    refine a_getf d_Pol_twiceTheArea_63 f_Pol_25 g27 rfl ?_
    refine a_aload_n d_Pol_twiceTheArea_66 rfl ?_
    refine a_iload d_Pol_twiceTheArea_67 rfl ?_
    refine a_cv0 (a := 19) d_Pol_twiceTheArea_69 m_Brs_xAt t_Brs_xAt l_Pol_62 g19 rfl rfl (s_xA g19 g20 gb hP hs Rw (cn ((k + 1) % nv)) (by have := (hc _ (Nat.mod_lt (k + 1) hv)).2; omega)) rfl rfl ⟨Nat.le_of_ble_eq_true rfl, Nat.le_of_ble_eq_true rfl⟩ (Nat.le_of_ble_eq_true rfl)  ?_
    refine a_imul d_Pol_twiceTheArea_72 ?_
    refine a_isub d_Pol_twiceTheArea_73 ?_
    refine a_iadd d_Pol_twiceTheArea_74 ?_
    refine a_istore_n d_Pol_twiceTheArea_75 (Nat.le_of_ble_eq_true rfl) (Nat.le_of_ble_eq_true rfl) rfl ?_
    refine a_iinc d_Pol_twiceTheArea_76 rfl (nI_1 k) (Nat.le_of_ble_eq_true rfl) rfl ?_
    refine a_goto 4 d_Pol_twiceTheArea_79 (by decide) ?_
    refine a_drop 4 ?_
    refine a_drop 5 ?_
    refine a_eq rfl ?_ rfl rfl rfl rfl (ih (k + 1) (by omega))
    rw [iI_mul, iI_mul, iI_sub, iI_add]
    rfl
set_option maxRecDepth 20000 in
set_option maxHeartbeats 4000000 in
theorem s_Pol_twiceTheArea {s0 P b nv : Nat} {fi : Int32} {wi : Int64} {me bo wk jn sz : Int32} {dt : Int64} {xs ys co : Nat → Int32} {X Y : Nat → Int} {cn : Nat → Nat} (g19 : h 19 = oBrs wk dt jn sz) (g20 : h 20 = aI 144 xs) (g21 : h 21 = aI 144 ys) (g27 : h 27 = oPol) (g29 : h 29 = aI 144 co) (gb : h b = oBrd (nI s0) (nI P) fi wi me (nI nv) bo) (hb : 53 ≤ b) (hP : 0 < P) (hs : s0 + P ≤ 144) (hv : 0 < nv) (hvP : nv ≤ P) (Rw : Row xs ys s0 P X Y) (hc : ∀ k, k < nv → co (s0 + k) = nI (cn k) ∧ cn k < 1000) : AMet V i_Pol_twiceTheArea 2 [.ref 27, .ref b] h n z (some (.int (fAbs (iI (ar2 X Y P nv cn nv))))) h n z := by
  refine AMet.intro (Nat.le_refl _) (Nat.le_refl _) (by decide) (Nat.le_of_ble_eq_true rfl) rfl ?_
  refine a_iconst (v := 0) d_Pol_twiceTheArea_0 (by decide) ?_
  refine a_istore_n d_Pol_twiceTheArea_1 (Nat.le_of_ble_eq_true rfl) (Nat.le_of_ble_eq_true rfl) rfl ?_
  refine a_iconst (v := 0) d_Pol_twiceTheArea_2 (by decide) ?_
  refine a_istore_n d_Pol_twiceTheArea_3 (Nat.le_of_ble_eq_true rfl) (Nat.le_of_ble_eq_true rfl) rfl ?_
  exact L_area g19 g20 g21 g27 g29 gb hb hP hs hv hvP Rw hc nv 0 (by omega)
end
