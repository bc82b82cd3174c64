/-! Polygons.nearestStep, writeVertices, seek, fewestThrough: printed by wip/whole/t19.py -/
theorem fst1_step (p : Nat → Bool) {n : Nat} (h : fst1 p n = n) : fst1 p (n + 1) = if p n then n else n + 1 := by
  show (if fst1 p n < n then _ else _) = _
  rw [if_neg (by omega)]
theorem fst1_keep (p : Nat → Bool) {n : Nat} (h : fst1 p n < n) : ∀ m, fst1 p (n + m) = fst1 p n
  | 0 => rfl
  | m + 1 => by
    have ih := fst1_keep p h m
    have e : fst1 p (n + (m + 1)) = if fst1 p (n + m) < n + m then fst1 p (n + m) else if p (n + m) then n + m else n + m + 1 := rfl
    rw [e, if_pos (by omega), ih]
def mo (X Y : Nat → Int) (P i r : Nat) : Nat := min (Lx X Y P (i + (P - r))) r
def nstP (X Y : Nat → Int) (P i r : Nat) (s : Nat) : Bool := decide (gS 100000 (Ex X Y P) (Lx X Y P) i P r (s + 1) = some (cK X Y P i r))
def nst (X Y : Nat → Int) (P i r : Nat) : Nat := fst1 (nstP X Y P i r) (mo X Y P i r - 1) + 1
theorem nst_b (X Y : Nat → Int) {P i r : Nat} (hr : 1 ≤ r) : 1 ≤ nst X Y P i r ∧ nst X Y P i r ≤ r := by
  have h1 : 1 ≤ Lx X Y P (i + (P - r)) := (lgD_b _ _).1
  have h2 := fst1_le (nstP X Y P i r) (mo X Y P i r - 1)
  have h3 : mo X Y P i r = min (Lx X Y P (i + (P - r))) r := rfl
  unfold nst
  omega
section
variable {V : VV} {h : AH} {n z : Nat}

set_option maxRecDepth 20000 in
set_option maxHeartbeats 4000000 in
theorem L_near {s0 P b : Nat} {fi : Int32} {wi : Int64} {me ve bo : Int32} {X Y : Nat → Int} {re of cs : Nat → Int32} (hb : 53 ≤ b) (g24 : h 24 = oStr) (g25 : h 25 = aI 1872 of) (g26 : h 26 = aI 144 re) (g27 : h 27 = oPol) (gb : h b = oBrd (nI s0) (nI P) fi wi me ve bo) (hP : 2 ≤ P) (hs : s0 + P ≤ 144) (S : Sh X Y) (U : Un X Y P) (M : Me re of s0 P X Y) {i r p : Nat} (g30 : h 30 = aI 145 (csR cs X Y P i P)) (hi : i < 1000) (hr : r ≤ P) (hr1 : 1 ≤ r) (hp : p = (i + (P - r)) % P) : ∀ (m s : Nat), s + m = mo X Y P i r → 1 ≤ s → fst1 (nstP X Y P i r) (s - 1) = s - 1 → AM V i_Pol_nearestStep 1 n z (some (.int (nI (nst X Y P i r)))) h n z 30 [some (.ref 27), some (.ref b), some (.int (nI i)), some (.int (nI (P - r))), some (.int (nI P)), some (.int (nI (s0 + p))), some (.int (nI (mo X Y P i r))), some (.int (nI s)), none] [] h n z := by
  have hpP : p < P := by rw [hp]; exact Nat.mod_lt _ (by omega)
  have hlg := lgD_b (stq X Y P p) (min (P - 1) 12)
  have hlm : lgst X Y P p ≤ min (P - 1) 12 := by unfold lgst; omega
  have hmo : mo X Y P i r = min (lgst X Y P p) r := by unfold mo Lx; rw [hp]
  have ok := Ex_ok (by omega) U
  intro m
  induction m with
  | zero =>
    intro s hsm hs1 hf
    have en : nst X Y P i r = s := by unfold nst; rw [show mo X Y P i r - 1 = s - 1 by omega, hf]; omega
    have em : fMax (nI (mo X Y P i r)) 1 = nI s := by
      have := fMax_n (a := mo X Y P i r) (b := 1) (by omega) (by omega)
      rw [show max (mo X Y P i r) 1 = s by omega] at this
      exact this
    refine a_iload d_Pol_nearestStep_30 rfl ?_
    refine a_iload d_Pol_nearestStep_32 rfl ?_
    refine a_icmp_ge 89 d_Pol_nearestStep_34 (by decide) (fun c34 => ?_) (fun c34 => absurd (nI_le (show mo X Y P i r ≤ s by omega) (by omega)) c34)
    refine a_iload d_Pol_nearestStep_89 rfl ?_
    refine a_iconst (v := 1) d_Pol_nearestStep_91 (by decide) ?_
    refine a_max d_Pol_nearestStep_92 l_Pol_53 (Nat.le_of_ble_eq_true rfl) (Nat.le_of_ble_eq_true rfl) (Nat.le_of_ble_eq_true rfl) ?_
    exact a_iret d_Pol_nearestStep_95 rfl (by rw [em, en]) rfl rfl
  | succ m ih =>
    intro s hsm hs1 hf
    have eof := (M p hpP).2 s hs1 (by omega)
    have eE : Ex X Y P (i + (P - r)) s = off X Y P p s := by unfold Ex; rw [hp]
    have es : s - 1 + 1 = s := by omega
    cases ho : off X Y P p s with
    | none =>
      rw [ho] at eof
      have ep : nstP X Y P i r (s - 1) = false := by
        unfold nstP gS
        rw [es, eE, ho]
        rfl
      have ef : fst1 (nstP X Y P i r) (s + 1 - 1) = s + 1 - 1 := by
        have := fst1_step (nstP X Y P i r) hf
        rw [es, ep] at this
        exact this
      refine a_iload d_Pol_nearestStep_30 rfl ?_
      refine a_iload d_Pol_nearestStep_32 rfl ?_
      refine a_icmp_ge 89 d_Pol_nearestStep_34 (by decide) (fun c34 => absurd c34 (nI_ge (show s < mo X Y P i r by omega) (by omega))) (fun c34 => ?_)
      refine a_aload_n d_Pol_nearestStep_37 rfl ?_
      refine a_getf d_Pol_nearestStep_38 f_Pol_29 g27 rfl ?_
      refine a_iload d_Pol_nearestStep_41 rfl ?_
      refine a_iload d_Pol_nearestStep_43 rfl ?_
      refine a_cv0 d_Pol_nearestStep_45 m_Str_offAt t_Str_offAt l_Pol_110 g24 rfl rfl (s_Str_offAt (p := s0 + p) (s := s) g24 g25 (by omega) hs1 (by omega)) rfl rfl ⟨Nat.le_of_ble_eq_true rfl, Nat.le_of_ble_eq_true rfl⟩ (Nat.le_of_ble_eq_true rfl)  ?_
      refine a_istore d_Pol_nearestStep_48 (Nat.le_of_ble_eq_true rfl) (Nat.le_of_ble_eq_true rfl) rfl ?_
      refine a_iload d_Pol_nearestStep_50 rfl ?_
      refine a_iconst (v := -1) d_Pol_nearestStep_52 (by decide) ?_
      refine a_icmp_eq 83 d_Pol_nearestStep_53 (by decide) (fun c53 => ?_) (fun c53 => absurd (by rw [eof]; rfl) c53)
      refine a_iinc d_Pol_nearestStep_83 rfl (nI_1 s) (Nat.le_of_ble_eq_true rfl) rfl ?_
      refine a_goto 30 d_Pol_nearestStep_86 (by decide) ?_
      refine a_drop 8 ?_
      exact ih (s + 1) (by omega) (by omega) ef
    | some a =>
      rw [ho] at eof
      have hab := off_b S ho
      have hgb := gc_b (K := 100000) ok i P (r - s)
      have hc9 : cK X Y P i (r - s) ≤ 14400000 := Nat.le_trans hgb (Nat.le_trans (Nat.mul_le_mul_right 100000 (show r - s ≤ 144 by omega)) (by decide))
      have hgb2 := gc_b (K := 100000) ok i P r
      have hc8 : cK X Y P i r ≤ 14400000 := Nat.le_trans hgb2 (Nat.le_trans (Nat.mul_le_mul_right 100000 (show r ≤ 144 by omega)) (by decide))
      clear hgb hgb2
      have ej : nI (P - r) + nI s = nI (P - r + s) := nI_add _ _
      have ec : csR cs X Y P i P (P - r + s) = nI (cK X Y P i (r - s)) := by
        rw [csR_in cs X Y (by omega) (by omega) (by omega), show P - (P - r + s) = r - s by omega]
      have ec2 : csR cs X Y P i P (P - r) = nI (cK X Y P i r) := by
        rw [csR_in cs X Y (by omega) (by omega) (by omega), show P - (P - r) = r by omega]
      have eg : gS 100000 (Ex X Y P) (Lx X Y P) i P r s = some (100000 + a + cK X Y P i (r - s)) := by unfold gS; rw [eE, ho]; rfl
      have eq : nI (100000 + a + cK X Y P i (r - s)) = nI (cK X Y P i r) ↔ nstP X Y P i r (s - 1) = true := by
        rw [nI_eq (by omega) (by omega)]
        unfold nstP
        rw [es, eg, decide_eq_true_eq, Option.some.injEq]
      refine a_iload d_Pol_nearestStep_30 rfl ?_
      refine a_iload d_Pol_nearestStep_32 rfl ?_
      refine a_icmp_ge 89 d_Pol_nearestStep_34 (by decide) (fun c34 => absurd c34 (nI_ge (show s < mo X Y P i r by omega) (by omega))) (fun c34 => ?_)
      refine a_aload_n d_Pol_nearestStep_37 rfl ?_
      refine a_getf d_Pol_nearestStep_38 f_Pol_29 g27 rfl ?_
      refine a_iload d_Pol_nearestStep_41 rfl ?_
      refine a_iload d_Pol_nearestStep_43 rfl ?_
      refine a_cv0 d_Pol_nearestStep_45 m_Str_offAt t_Str_offAt l_Pol_110 g24 rfl rfl (s_Str_offAt (p := s0 + p) (s := s) g24 g25 (by omega) hs1 (by omega)) rfl rfl ⟨Nat.le_of_ble_eq_true rfl, Nat.le_of_ble_eq_true rfl⟩ (Nat.le_of_ble_eq_true rfl)  ?_
      refine a_istore d_Pol_nearestStep_48 (Nat.le_of_ble_eq_true rfl) (Nat.le_of_ble_eq_true rfl) rfl ?_
      refine a_iload d_Pol_nearestStep_50 rfl ?_
      refine a_iconst (v := -1) d_Pol_nearestStep_52 (by decide) ?_
      refine a_icmp_eq 83 d_Pol_nearestStep_53 (by decide) (fun c53 => absurd c53 (by rw [eof]; exact fun q => absurd ((oI_m1 (o := some a) (fun b hb => by cases hb; omega)).mp q) (by simp))) (fun c53 => ?_)
      refine a_ldc d_Pol_nearestStep_56 k_Pol_43 ?_
      refine a_iload d_Pol_nearestStep_58 rfl ?_
      refine a_iadd d_Pol_nearestStep_60 ?_
      refine a_aload_n d_Pol_nearestStep_61 rfl ?_
      refine a_getf d_Pol_nearestStep_62 f_Pol_22 g27 rfl ?_
      refine a_iload_n d_Pol_nearestStep_65 rfl ?_
      refine a_iload d_Pol_nearestStep_66 rfl ?_
      refine a_iadd d_Pol_nearestStep_68 ?_
      rw [ej]
      refine a_iald d_Pol_nearestStep_69 g30 (vp_in_nI (by omega) (by omega)) ?_
      refine a_iadd d_Pol_nearestStep_70 ?_
      refine a_aload_n d_Pol_nearestStep_71 rfl ?_
      refine a_getf d_Pol_nearestStep_72 f_Pol_22 g27 rfl ?_
      refine a_iload_n d_Pol_nearestStep_75 rfl ?_
      refine a_iald d_Pol_nearestStep_76 g30 (vp_in_nI (by omega) (by omega)) ?_
      rw [eof, nI_clamp (show P - r + s < 2 ^ 31 by omega), ec, nI_clamp (show P - r < 2 ^ 31 by omega), ec2, show (100000 : Int32) = nI 100000 from rfl, show oI (some a) = nI a from rfl, nI_add, nI_add]
      refine a_icmp_ne 83 d_Pol_nearestStep_77 (by decide) (fun c77 => ?_) (fun c77 => ?_)
      · skip
        refine a_iinc d_Pol_nearestStep_83 rfl (nI_1 s) (Nat.le_of_ble_eq_true rfl) rfl ?_
        refine a_goto 30 d_Pol_nearestStep_86 (by decide) ?_
        have ef : fst1 (nstP X Y P i r) (s + 1 - 1) = s + 1 - 1 := by
          have := fst1_step (nstP X Y P i r) hf
          rw [es, if_neg (fun q => c77 (eq.mpr q))] at this
          exact this
        refine a_drop 8 ?_
        exact ih (s + 1) (by omega) (by omega) ef
      · skip
        refine a_iload d_Pol_nearestStep_80 rfl ?_
        exact a_iret d_Pol_nearestStep_82 rfl (by have e := fst1_step (nstP X Y P i r) hf; rw [es, if_pos (eq.mp c77)] at e; have e2 := fst1_keep (nstP X Y P i r) (n := s) (by omega) (mo X Y P i r - 1 - s); rw [show s + (mo X Y P i r - 1 - s) = mo X Y P i r - 1 by omega] at e2; unfold nst; rw [e2, e, es]) rfl rfl
set_option maxRecDepth 20000 in
set_option maxHeartbeats 4000000 in
theorem s_Pol_nearestStep {s0 P b : Nat} {fi : Int32} {wi : Int64} {me ve bo : Int32} {X Y : Nat → Int} {re of cs : Nat → Int32} (hb : 53 ≤ b) (g24 : h 24 = oStr) (g25 : h 25 = aI 1872 of) (g26 : h 26 = aI 144 re) (g27 : h 27 = oPol) (gb : h b = oBrd (nI s0) (nI P) fi wi me ve bo) (hP : 2 ≤ P) (hs : s0 + P ≤ 144) (S : Sh X Y) (U : Un X Y P) (M : Me re of s0 P X Y) {i r : Nat} (g30 : h 30 = aI 145 (csR cs X Y P i P)) (hi : i < 1000) (hr : r ≤ P) (hr1 : 1 ≤ r) : AMet V i_Pol_nearestStep 1 [.ref 27, .ref b, .int (nI i), .int (nI (P - r)), .int (nI P)] h n z (some (.int (nI (nst X Y P i r)))) h n z := by
  have hpP : (i + (P - r)) % P < P := Nat.mod_lt _ (by omega)
  have hlg := lgD_b (stq X Y P ((i + (P - r)) % P)) (min (P - 1) 12)
  have hlm : lgst X Y P ((i + (P - r)) % P) ≤ min (P - 1) 12 := by unfold lgst; omega
  have hl1 : 1 ≤ lgst X Y P ((i + (P - r)) % P) := by unfold lgst; omega
  have er : re (s0 + (i + (P - r)) % P) = nI (lgst X Y P ((i + (P - r)) % P)) := (M _ hpP).1
  have em : fMin (nI (lgst X Y P ((i + (P - r)) % P))) (nI P - nI (P - r)) = nI (mo X Y P i r) := by
    rw [pk_sub (by omega), show P - (P - r) = r by omega]
    exact fMin_n (by omega) (by omega)
  have hmo : 1 ≤ mo X Y P i r := by unfold mo; exact Nat.le_min.mpr ⟨hl1, hr1⟩
  refine AMet.intro (Nat.le_refl _) (Nat.le_refl _) (by decide) (Nat.le_of_ble_eq_true rfl) rfl ?_
  refine a_aload_n d_Pol_nearestStep_0 rfl ?_
  refine a_iload_n d_Pol_nearestStep_1 rfl ?_
  refine a_iload_n d_Pol_nearestStep_2 rfl ?_
  refine a_iadd d_Pol_nearestStep_3 ?_
  rw [nI_add]
  refine a_cv0 d_Pol_nearestStep_4 m_Brd_place t_Brd_place l_Pol_104 gb rfl rfl (s_Brd_placeN gb (by omega) hs (by omega)) rfl rfl ⟨Nat.le_of_ble_eq_true rfl, Nat.le_of_ble_eq_true rfl⟩ (Nat.le_of_ble_eq_true rfl)  ?_
  refine a_istore d_Pol_nearestStep_7 (Nat.le_of_ble_eq_true rfl) (Nat.le_of_ble_eq_true rfl) rfl ?_
  refine a_aload_n d_Pol_nearestStep_9 rfl ?_
  refine a_getf d_Pol_nearestStep_10 f_Pol_29 g27 rfl ?_
  refine a_iload d_Pol_nearestStep_13 rfl ?_
  refine a_cv0 d_Pol_nearestStep_15 m_Str_reachAt t_Str_reachAt l_Pol_107 g24 rfl rfl (s_Str_reachAt g24 g26 (by omega)) rfl rfl ⟨Nat.le_of_ble_eq_true rfl, Nat.le_of_ble_eq_true rfl⟩ (Nat.le_of_ble_eq_true rfl)  ?_
  rw [er]
  refine a_iload d_Pol_nearestStep_18 rfl ?_
  refine a_iload_n d_Pol_nearestStep_20 rfl ?_
  refine a_isub d_Pol_nearestStep_21 ?_
  refine a_min d_Pol_nearestStep_22 l_Pol_101 (Nat.le_of_ble_eq_true rfl) (Nat.le_of_ble_eq_true rfl) (Nat.le_of_ble_eq_true rfl) ?_
  rw [em]
  refine a_istore d_Pol_nearestStep_25 (Nat.le_of_ble_eq_true rfl) (Nat.le_of_ble_eq_true rfl) rfl ?_
  refine a_iconst (v := 1) d_Pol_nearestStep_27 (by decide) ?_
  refine a_istore d_Pol_nearestStep_28 (Nat.le_of_ble_eq_true rfl) (Nat.le_of_ble_eq_true rfl) rfl ?_
  exact L_near (cs := cs) hb g24 g25 g26 g27 gb hP hs S U M g30 hi hr hr1 rfl (mo X Y P i r - 1) 1 (by omega) (Nat.le_refl 1) rfl
def vR (X Y : Nat → Int) (P i : Nat) : Nat → Nat
  | 0 => P
  | k + 1 => vR X Y P i k - nst X Y P i (vR X Y P i k)
theorem vR_b (X Y : Nat → Int) (P i : Nat) : ∀ k, vR X Y P i k ≤ P - k
  | 0 => Nat.le_refl _
  | k + 1 => by
    have ih := vR_b X Y P i k
    show vR X Y P i k - nst X Y P i (vR X Y P i k) ≤ _
    have : 1 ≤ nst X Y P i (vR X Y P i k) := Nat.succ_pos _
    omega
def nV (X Y : Nat → Int) (P i : Nat) : Nat := fst1 (fun k => decide (vR X Y P i k = 0)) P
theorem nV_le (X Y : Nat → Int) (P i : Nat) : nV X Y P i ≤ P := fst1_le _ _
theorem nV_0 (X Y : Nat → Int) (P i : Nat) : vR X Y P i (nV X Y P i) = 0 := by
  rcases Nat.lt_or_ge (nV X Y P i) P with q | q
  · exact of_decide_eq_true (fst1_yes (fun k => decide (vR X Y P i k = 0)) P q)
  · have := vR_b X Y P i (nV X Y P i)
    omega
theorem nV_pos {X Y : Nat → Int} {P i k : Nat} (h : k < nV X Y P i) : 1 ≤ vR X Y P i k := by
  have := fst1_no (fun k => decide (vR X Y P i k = 0)) P k h
  simp at this
  omega
/-- the number of a vertex's corner -/
def vC (X Y : Nat → Int) (P i k : Nat) : Nat := i + (P - vR X Y P i k)
theorem hu2' (h : AH) {a b : Nat} (e : a ≠ b) (x y x' y' : AC) : hu (hu (hu (hu h a x) b y) a x') b y' = hu (hu h a x') b y' := by
  rw [hu_comm _ (Ne.symm e), hu_hu, hu_hu]
set_option maxRecDepth 20000 in
set_option maxHeartbeats 4000000 in
theorem L_write {s0 P b : Nat} {fi : Int32} {wi : Int64} {me ve bo : Int32} {X Y : Nat → Int} {re of cs : Nat → Int32} (hb : 53 ≤ b) (g24 : h 24 = oStr) (g25 : h 25 = aI 1872 of) (g26 : h 26 = aI 144 re) (g27 : h 27 = oPol) (gb : h b = oBrd (nI s0) (nI P) fi wi me ve bo) (hP : 2 ≤ P) (hs : s0 + P ≤ 144) (S : Sh X Y) (U : Un X Y P) (M : Me re of s0 P X Y) {i : Nat} (g30 : h 30 = aI 145 (csR cs X Y P i P)) (hi : i < 1000) {co : Nat → Int32} (g29 : h 29 = aI 144 co) : ∀ (m k : Nat), k + m = nV X Y P i → AM V i_Pol_writeVertices 2 n z none (hu (hu h 29 (aI 144 (pt co s0 (nV X Y P i) (fun k => nI (vC X Y P i k))))) b (oBrd (nI s0) (nI P) fi wi me (nI (nV X Y P i)) bo)) n z 17 [some (.ref 27), some (.ref b), some (.int (nI i)), some (.int (nI P)), some (.int (nI (P - vR X Y P i k))), some (.int (nI k)), none] [] (hu (hu h 29 (aI 144 (pt co s0 k (fun k => nI (vC X Y P i k))))) b (oBrd (nI s0) (nI P) fi wi me (if k = 0 then ve else nI k) bo)) n z := by
  have hnv := nV_le X Y P i
  have hn0 := nV_0 X Y P i
  have hnv0 : nV X Y P i ≠ 0 := by
    intro q
    rw [q] at hn0
    have : vR X Y P i 0 = P := rfl
    omega
  intro m
  induction m with
  | zero =>
    intro k hkm
    have e : k = nV X Y P i := by omega
    subst e
    have ev : vR X Y P i (nV X Y P i) = 0 := hn0
    rw [if_neg hnv0]
    refine a_iload d_Pol_writeVertices_17 rfl ?_
    refine a_iload_n d_Pol_writeVertices_19 rfl ?_
    refine a_icmp_ge 91 d_Pol_writeVertices_20 (by decide) (fun c20 => ?_) (fun c20 => ?_)
    · skip
      exact a_vret d_Pol_writeVertices_91 rfl rfl rfl rfl
    · skip
      refine a_iload d_Pol_writeVertices_23 rfl ?_
      refine a_iload_n d_Pol_writeVertices_25 rfl ?_
      refine a_icmp_ge 91 d_Pol_writeVertices_26 (by decide) (fun c26 => ?_) (fun c26 => absurd (by rw [ev]; exact nI_le (show P ≤ P - 0 by omega) (by omega)) c26)
      exact a_vret d_Pol_writeVertices_91 rfl rfl rfl rfl
  | succ m ih =>
    intro k hkm
    have h1 := nV_pos (show k < nV X Y P i by omega)
    have h2 := vR_b X Y P i k
    have nb := nst_b X Y (P := P) (i := i) h1
    have ef : ∀ q, q ≠ 29 → q ≠ b → (hu (hu (hu (hu h 29 (aI 144 (pt co s0 k (fun k => nI (vC X Y P i k))))) b (oBrd (nI s0) (nI P) fi wi me (if k = 0 then ve else nI k) bo)) 29 (aI 144 (upd (pt co s0 k (fun k => nI (vC X Y P i k))) (s0 + k) (nI (vC X Y P i k))))) b (oBrd (nI s0) (nI P) fi wi me (nI (k + 1)) bo)) q = h q := by
      intro q e1 e2
      simp [hu, e1, e2]
    obtain ⟨h3, eh3⟩ : ∃ h3, h3 = hu (hu (hu (hu h 29 (aI 144 (pt co s0 k (fun k => nI (vC X Y P i k))))) b (oBrd (nI s0) (nI P) fi wi me (if k = 0 then ve else nI k) bo)) 29 (aI 144 (upd (pt co s0 k (fun k => nI (vC X Y P i k))) (s0 + k) (nI (vC X Y P i k))))) b (oBrd (nI s0) (nI P) fi wi me (nI (k + 1)) bo) := ⟨_, rfl⟩
    rw [← eh3] at ef
    have gb3 : h3 b = oBrd (nI s0) (nI P) fi wi me (nI (k + 1)) bo := by rw [eh3]; exact hu_s _ _ _
    have e4 : h3 = hu (hu h 29 (aI 144 (pt co s0 (k + 1) (fun k => nI (vC X Y P i k))))) b (oBrd (nI s0) (nI P) fi wi me (if k + 1 = 0 then ve else nI (k + 1)) bo) := by
      rw [eh3, hu2' _ (by omega), pt_s, if_neg (show ¬ k + 1 = 0 by omega)]
    have em : nI (P - vR X Y P i k) + nI (nst X Y P i (vR X Y P i k)) = nI (P - vR X Y P i (k + 1)) := by
      rw [nI_add]
      congr 1
      show _ = P - (vR X Y P i k - nst X Y P i (vR X Y P i k))
      omega
    refine a_iload d_Pol_writeVertices_17 rfl ?_
    refine a_iload_n d_Pol_writeVertices_19 rfl ?_
    refine a_icmp_ge 91 d_Pol_writeVertices_20 (by decide) (fun c20 => absurd c20 (nI_ge (show k < P by omega) (by omega))) (fun c20 => ?_)
    refine a_iload d_Pol_writeVertices_23 rfl ?_
    refine a_iload_n d_Pol_writeVertices_25 rfl ?_
    refine a_icmp_ge 91 d_Pol_writeVertices_26 (by decide) (fun c26 => absurd c26 (nI_ge (show P - vR X Y P i k < P by omega) (by omega))) (fun c26 => ?_)
    refine a_aload_n d_Pol_writeVertices_29 rfl ?_
    refine a_getf d_Pol_writeVertices_30 f_Pol_50 (hu_s _ _ _) rfl ?_
    refine a_iload d_Pol_writeVertices_33 rfl ?_
    refine a_iadd d_Pol_writeVertices_35 ?_
    rw [nI_add]
    refine a_istore d_Pol_writeVertices_36 (Nat.le_of_ble_eq_true rfl) (Nat.le_of_ble_eq_true rfl) rfl ?_
    refine a_iload d_Pol_writeVertices_38 rfl ?_
    refine a_if_lt 51 d_Pol_writeVertices_40 (by decide) (fun c40 => absurd c40 (nI_pos (by omega))) (fun c40 => ?_)
    refine a_iload d_Pol_writeVertices_43 rfl ?_
    refine a_sipush (v := 144) d_Pol_writeVertices_45 (by decide) ?_
    refine a_icmp_lt 52 d_Pol_writeVertices_48 (by decide) (fun c48 => ?_) (fun c48 => absurd (nI_lt (b := 144) (show s0 + k < 144 by omega) (by omega)) c48)
    refine a_aload_n d_Pol_writeVertices_52 rfl ?_
    refine a_getf d_Pol_writeVertices_53 f_Pol_18 (show _ = oPol from by rw [hu_n (by omega)]; exact g27) rfl ?_
    refine a_iload d_Pol_writeVertices_56 rfl ?_
    refine a_iload_n d_Pol_writeVertices_58 rfl ?_
    refine a_iload d_Pol_writeVertices_59 rfl ?_
    refine a_iadd d_Pol_writeVertices_61 ?_
    rw [nI_add]
    refine a_iast d_Pol_writeVertices_62 (show _ = aI 144 (pt co s0 k (fun k => nI (vC X Y P i k))) from by rw [hu_n (by omega)]; exact hu_s _ _ _) (vp_in_nI (by omega) (by omega)) ?_
    refine a_aload_n d_Pol_writeVertices_63 rfl ?_
    refine a_iload d_Pol_writeVertices_64 rfl ?_
    refine a_iconst (v := 1) d_Pol_writeVertices_66 (by decide) ?_
    refine a_iadd d_Pol_writeVertices_67 ?_
    rw [nI_1]
    refine a_putf d_Pol_writeVertices_68 f_Pol_44 rfl (show _ = oBrd (nI s0) (nI P) fi wi me (if k = 0 then ve else nI k) bo from by rw [hu_n (by omega)]; exact hu_s _ _ _) (Nat.le_of_ble_eq_true rfl) rfl rfl ?_
    rw [nI_clamp (show s0 + k < 2 ^ 31 by omega)]
    refine a_eq rfl rfl rfl (show _ = h3 from eh3.symm) rfl rfl ?_
    refine a_iload d_Pol_writeVertices_71 rfl ?_
    refine a_aload_n d_Pol_writeVertices_73 rfl ?_
    refine a_aload_n d_Pol_writeVertices_74 rfl ?_
    refine a_iload_n d_Pol_writeVertices_75 rfl ?_
    refine a_iload d_Pol_writeVertices_76 rfl ?_
    refine a_iload_n d_Pol_writeVertices_78 rfl ?_
    refine a_cv0 d_Pol_writeVertices_79 m_Pol_nearestStep t_Pol_nearestStep l_Pol_113 (show _ = oPol from by rw [ef _ (by omega) (by omega)]; exact g27) rfl rfl (s_Pol_nearestStep (cs := cs) (h := h3) hb (by rw [ef _ (by omega) (by omega)]; exact g24) (by rw [ef _ (by omega) (by omega)]; exact g25) (by rw [ef _ (by omega) (by omega)]; exact g26) (by rw [ef _ (by omega) (by omega)]; exact g27) gb3 hP hs S U M (by rw [ef _ (by omega) (by omega)]; exact g30) hi (by omega) h1) rfl rfl ⟨Nat.le_of_ble_eq_true rfl, Nat.le_of_ble_eq_true rfl⟩ (Nat.le_of_ble_eq_true rfl)  ?_
    refine a_iadd d_Pol_writeVertices_82 ?_
    rw [em]
    refine a_istore d_Pol_writeVertices_83 (Nat.le_of_ble_eq_true rfl) (Nat.le_of_ble_eq_true rfl) rfl ?_
    refine a_iinc d_Pol_writeVertices_85 rfl (nI_1 k) (Nat.le_of_ble_eq_true rfl) rfl ?_
    refine a_goto 17 d_Pol_writeVertices_88 (by decide) ?_
    refine a_drop 6 ?_
    refine a_eq rfl rfl rfl e4 rfl rfl (ih (k + 1) (by omega))
set_option maxRecDepth 20000 in
set_option maxHeartbeats 4000000 in
theorem s_Pol_writeVertices {s0 P b : Nat} {fi : Int32} {wi : Int64} {me ve bo : Int32} {X Y : Nat → Int} {re of cs : Nat → Int32} (hb : 53 ≤ b) (g24 : h 24 = oStr) (g25 : h 25 = aI 1872 of) (g26 : h 26 = aI 144 re) (g27 : h 27 = oPol) (gb : h b = oBrd (nI s0) (nI P) fi wi me ve bo) (hP : 2 ≤ P) (hs : s0 + P ≤ 144) (S : Sh X Y) (U : Un X Y P) (M : Me re of s0 P X Y) {i : Nat} (g30 : h 30 = aI 145 (csR cs X Y P i P)) (hi : i < 1000) {co : Nat → Int32} (g29 : h 29 = aI 144 co) : AMet V i_Pol_writeVertices 2 [.ref 27, .ref b, .int (nI i)] h n z none (hu (hu h 29 (aI 144 (pt co s0 (nV X Y P i) (fun k => nI (vC X Y P i k))))) b (oBrd (nI s0) (nI P) fi wi me (nI (nV X Y P i)) bo)) n z := by
  have em : fMin (nI P) 144 = nI P := by
    have := fMin_n (a := P) (b := 144) (by omega) (by omega)
    rwa [Nat.min_eq_left (by omega)] at this
  have e0 : h = hu (hu h 29 (aI 144 (pt co s0 0 (fun k => nI (vC X Y P i k))))) b (oBrd (nI s0) (nI P) fi wi me (if 0 = 0 then ve else nI 0) bo) := by
    rw [pt_0, hu_same g29, if_pos rfl]
    exact (hu_same gb).symm
  refine AMet.intro (Nat.le_refl _) (Nat.le_refl _) (by decide) (Nat.le_of_ble_eq_true rfl) rfl ?_
  refine a_aload_n d_Pol_writeVertices_0 rfl ?_
  refine a_getf d_Pol_writeVertices_1 f_Pol_91 gb rfl ?_
  refine a_sipush (v := 144) d_Pol_writeVertices_4 (by decide) ?_
  refine a_min d_Pol_writeVertices_7 l_Pol_101 (Nat.le_of_ble_eq_true rfl) (Nat.le_of_ble_eq_true rfl) (Nat.le_of_ble_eq_true rfl) ?_
  rw [em]
  refine a_istore_n d_Pol_writeVertices_10 (Nat.le_of_ble_eq_true rfl) (Nat.le_of_ble_eq_true rfl) rfl ?_
  refine a_iconst (v := 0) d_Pol_writeVertices_11 (by decide) ?_
  refine a_istore d_Pol_writeVertices_12 (Nat.le_of_ble_eq_true rfl) (Nat.le_of_ble_eq_true rfl) rfl ?_
  refine a_iconst (v := 0) d_Pol_writeVertices_14 (by decide) ?_
  refine a_istore d_Pol_writeVertices_15 (Nat.le_of_ble_eq_true rfl) (Nat.le_of_ble_eq_true rfl) rfl ?_
  refine a_eq rfl ?_ rfl e0 rfl rfl (L_write (cs := cs) hb g24 g25 g26 g27 gb hP hs S U M g30 hi g29 (nV X Y P i) 0 (by omega))
  rw [show P - vR X Y P i 0 = 0 from Nat.sub_self P]
  rfl
end
