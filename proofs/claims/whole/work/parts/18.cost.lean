/-! Polygons.costOfRound: printed by wip/whole/t18.py -/
def mnL (f : Nat → Option Nat) : Nat → Nat
  | 0 => 1000000000
  | s + 1 => match f (s + 1) with
    | none => mnL f s
    | some v => min (mnL f s) v
theorem mnL_n {f : Nat → Option Nat} {s : Nat} (h : f (s + 1) = none) : mnL f (s + 1) = mnL f s := by simp [mnL, h]
theorem mnL_y {f : Nat → Option Nat} {s v : Nat} (h : f (s + 1) = some v) : mnL f (s + 1) = min (mnL f s) v := by simp [mnL, h]
theorem mnL_b (f : Nat → Option Nat) : ∀ s, mnL f s ≤ 1000000000
  | 0 => Nat.le_refl _
  | s + 1 => by
    have ih := mnL_b f s
    cases h : f (s + 1) with
    | none => rw [mnL_n h]; exact ih
    | some v => rw [mnL_y h]; omega
theorem mnL_le {f : Nat → Option Nat} {v : Nat} : ∀ {s k : Nat}, 1 ≤ k → k ≤ s → f k = some v → mnL f s ≤ v
  | 0, k, h1, h2, _ => by omega
  | s + 1, k, h1, h2, hv => by
    by_cases e : k = s + 1
    · subst e; rw [mnL_y hv]; omega
    · have ih := mnL_le (s := s) h1 (by omega) hv
      cases h : f (s + 1) with
      | none => rw [mnL_n h]; exact ih
      | some u => rw [mnL_y h]; omega
theorem mnL_ex {f : Nat → Option Nat} : ∀ {s : Nat}, mnL f s < 1000000000 → ∃ k, 1 ≤ k ∧ k ≤ s ∧ f k = some (mnL f s)
  | 0, h => by simp [mnL] at h
  | s + 1, h => by
    cases hf : f (s + 1) with
    | none =>
      rw [mnL_n hf] at h ⊢
      obtain ⟨k, h1, h2, h3⟩ := mnL_ex h
      exact ⟨k, h1, by omega, h3⟩
    | some u =>
      rw [mnL_y hf] at h ⊢
      rcases Nat.lt_or_ge u (mnL f s) with q | q
      · exact ⟨s + 1, by omega, Nat.le_refl _, by rw [hf, Nat.min_eq_right (by omega)]⟩
      · rw [Nat.min_eq_left q] at h ⊢
        obtain ⟨k, h1, h2, h3⟩ := mnL_ex h
        exact ⟨k, h1, by omega, h3⟩
/-- the least cost of going on, by how many steps are left -/
def gF (K : Nat) (E : Nat → Nat → Option Nat) (lg : Nat → Nat) (i P : Nat) : Nat → Nat → Nat
  | 0 => fun _ => 0
  | r + 1 => fun q => if q = r + 1 then mnL (fun s => (E (i + (P - (r + 1))) s).map (fun e => K + e + gF K E lg i P r (r + 1 - s))) (min (lg (i + (P - (r + 1)))) (r + 1)) else gF K E lg i P r q
def gc (K : Nat) (E : Nat → Nat → Option Nat) (lg : Nat → Nat) (i P r : Nat) : Nat := gF K E lg i P r r
theorem gF_le (K : Nat) (E : Nat → Nat → Option Nat) (lg : Nat → Nat) (i P : Nat) {q : Nat} : ∀ r, q ≤ r → gF K E lg i P r q = gc K E lg i P q
  | 0, h => by
    have e : q = 0 := by omega
    subst e
    rfl
  | r + 1, h => by
    by_cases e : q = r + 1
    · subst e; rfl
    · have e2 : gF K E lg i P (r + 1) q = gF K E lg i P r q := by
        show (if q = r + 1 then _ else _) = _
        rw [if_neg e]
      rw [e2]
      exact gF_le K E lg i P r (by omega)
theorem gc_0 (K : Nat) (E : Nat → Nat → Option Nat) (lg : Nat → Nat) (i P : Nat) : gc K E lg i P 0 = 0 := rfl
/-- a stretch and what comes behind it -/
def gS (K : Nat) (E : Nat → Nat → Option Nat) (lg : Nat → Nat) (i P r s : Nat) : Option Nat := (E (i + (P - r)) s).map (fun e => K + e + gc K E lg i P (r - s))
theorem mnL_cong {f g : Nat → Option Nat} : ∀ {s : Nat}, (∀ k, 1 ≤ k → k ≤ s → f k = g k) → mnL f s = mnL g s
  | 0, _ => rfl
  | s + 1, h => by
    have e := h (s + 1) (by omega) (Nat.le_refl _)
    have ih := mnL_cong (s := s) (fun k h1 h2 => h k h1 (by omega))
    simp only [mnL, e, ih]
theorem gc_s (K : Nat) (E : Nat → Nat → Option Nat) (lg : Nat → Nat) (i P r : Nat) : gc K E lg i P (r + 1) = mnL (gS K E lg i P (r + 1)) (min (lg (i + (P - (r + 1)))) (r + 1)) := by
  have e : gc K E lg i P (r + 1) = mnL (fun s => (E (i + (P - (r + 1))) s).map (fun e => K + e + gF K E lg i P r (r + 1 - s))) (min (lg (i + (P - (r + 1)))) (r + 1)) := by
    show (if r + 1 = r + 1 then _ else _) = _
    rw [if_pos rfl]
  rw [e]
  apply mnL_cong
  intro k h1 h2
  unfold gS
  rw [gF_le K E lg i P r (by omega)]
/-- of all corners the next one may be reached, for nothing -/
def EOk (E : Nat → Nat → Option Nat) (lg : Nat → Nat) : Prop := ∀ p, E p 1 = some 0 ∧ 1 ≤ lg p
theorem gc_b {K : Nat} {E : Nat → Nat → Option Nat} {lg : Nat → Nat} (ok : EOk E lg) (i P : Nat) : ∀ r, gc K E lg i P r ≤ r * K
  | 0 => Nat.zero_le _
  | r + 1 => by
    have ih := gc_b (K := K) ok i P r
    have h1 := ok (i + (P - (r + 1)))
    rw [gc_s]
    have := mnL_le (f := gS K E lg i P (r + 1)) (s := min (lg (i + (P - (r + 1)))) (r + 1)) (k := 1) (v := K + 0 + gc K E lg i P (r + 1 - 1)) (Nat.le_refl 1) (by omega) (by unfold gS; rw [h1.1]; rfl)
    rw [Nat.add_sub_cancel] at this
    rw [Nat.succ_mul]
    omega
def Ex (X Y : Nat → Int) (P : Nat) (p s : Nat) : Option Nat := off X Y P (p % P) s
def Lx (X Y : Nat → Int) (P : Nat) (p : Nat) : Nat := lgst X Y P (p % P)
/-- corners one behind the other are apart -/
def Un (X Y : Nat → Int) (P : Nat) : Prop := ∀ i, i < P → gA X Y P i 1 ≠ 0
theorem Ex_ok {X Y : Nat → Int} {P : Nat} (hP : 0 < P) (U : Un X Y P) : EOk (Ex X Y P) (Lx X Y P) := by
  intro p
  refine ⟨?_, (lgD_b _ _).1⟩
  unfold Ex off
  rw [if_neg (U _ (Nat.mod_lt p hP))]
  rfl
/-- measured rows -/
def Me (re of : Nat → Int32) (s0 P : Nat) (X Y : Nat → Int) : Prop := ∀ k, k < P → re (s0 + k) = nI (lgst X Y P k) ∧ ∀ s, 1 ≤ s → s ≤ min (P - 1) 12 → of ((s0 + k) * 13 + s) = oI (off X Y P k s)
abbrev cK (X Y : Nat → Int) (P i r : Nat) : Nat := gc 100000 (Ex X Y P) (Lx X Y P) i P r
/-- the row of costs when those of at most r steps left are written -/
def csR (cs : Nat → Int32) (X Y : Nat → Int) (P i r : Nat) : Nat → Int32 := pt cs (P - r) (r + 1) (fun k => nI (cK X Y P i (r - k)))
theorem csR_s (cs : Nat → Int32) (X Y : Nat → Int) {P i r : Nat} (hr : r < P) : upd (csR cs X Y P i r) (P - (r + 1)) (nI (cK X Y P i (r + 1))) = csR cs X Y P i (r + 1) := by
  funext j
  unfold csR
  by_cases e : j = P - (r + 1)
  · subst e
    rw [upd_self]
    exact (pt_in (f := cs) (s := P - (r + 1)) (m := r + 1 + 1) (g := fun k => nI (cK X Y P i (r + 1 - k))) (k := 0) (by omega)).symm
  · have e1 : ∀ x, upd (pt cs (P - r) (r + 1) (fun k => nI (cK X Y P i (r - k)))) (P - (r + 1)) x j = pt cs (P - r) (r + 1) (fun k => nI (cK X Y P i (r - k))) j := fun x => by simp [upd, e]
    rw [e1]
    simp only [pt]
    by_cases q : P - r ≤ j ∧ j < P - r + (r + 1)
    · rw [if_pos q, if_pos (by omega), show r + 1 - (j - (P - (r + 1))) = r - (j - (P - r)) by omega]
    · rw [if_neg q, if_neg (by omega)]
theorem csR_in (cs : Nat → Int32) (X Y : Nat → Int) {P i r q : Nat} (hr : r ≤ P) (h1 : P - r ≤ q) (h2 : q ≤ P) : csR cs X Y P i r q = nI (cK X Y P i (P - q)) := by
  unfold csR
  have := pt_in (f := cs) (s := P - r) (m := r + 1) (g := fun k => nI (cK X Y P i (r - k))) (k := q - (P - r)) (by omega)
  rw [show P - r + (q - (P - r)) = q by omega] at this
  rw [this, show r - (q - (P - r)) = P - q by omega]
section
variable {V : VV} {h : AH} {n z : Nat}

set_option maxRecDepth 20000 in
set_option maxHeartbeats 4000000 in
theorem L_costI {s0 P b : Nat} {fi : Int32} {wi : Int64} {me ve bo : Int32} {X Y : Nat → Int} {re of cs : Nat → Int32} (hb : 53 ≤ b) (g24 : h 24 = oStr) (g25 : h 25 = aI 1872 of) (g26 : h 26 = aI 144 re) (g27 : h 27 = oPol) (gb : h b = oBrd (nI s0) (nI P) fi wi me ve bo) (hP : 2 ≤ P) (hs : s0 + P ≤ 144) (S : Sh X Y) (U : Un X Y P) (M : Me re of s0 P X Y) {i r p mo : Nat} (hi : i < 1000) (hr : r < P) (hp : p = (i + (P - (r + 1))) % P) (hmo : mo = min (lgst X Y P p) (r + 1)) : ∀ (m s : Nat), s + m = mo + 1 → 1 ≤ s → Rc V i_Pol_costOfRound 1 69 [some (.ref 27), some (.ref b), some (.int (nI i)), some (.int (nI P)), some (.int (nI (P - (r + 1)))), some (.int (nI (s0 + p))), some (.int (nI mo)), some (.int (nI (mnL (gS 100000 (Ex X Y P) (Lx X Y P) i P (r + 1)) (s - 1)))), some (.int (nI s)), none] [] (hu h 30 (aI 145 (csR cs X Y P i r))) n z 124 [some (.ref 27), some (.ref b), some (.int (nI i)), some (.int (nI P)), some (.int (nI (P - (r + 1)))), some (.int (nI (s0 + p))), some (.int (nI mo)), some (.int (nI (mnL (gS 100000 (Ex X Y P) (Lx X Y P) i P (r + 1)) mo))), some (.int (nI (mo + 1))), none] [] (hu h 30 (aI 145 (csR cs X Y P i r))) n z := by
  have hpP : p < P := by rw [hp]; exact Nat.mod_lt _ (by omega)
  have hlg := lgD_b (stq X Y P p) (min (P - 1) 12)
  have hlm : lgst X Y P p ≤ min (P - 1) 12 := by unfold lgst; omega
  have ok := Ex_ok (by omega) U
  intro m
  induction m with
  | zero =>
    intro s hsm hs1 mc ms Qf n0 z0 q1 q2 K
    have e : s = mo + 1 := by omega
    subst e
    rw [Nat.add_sub_cancel]
    refine a_iload d_Pol_costOfRound_69 rfl ?_
    refine a_iload d_Pol_costOfRound_71 rfl ?_
    refine a_icmp_gt 124 d_Pol_costOfRound_73 (by decide) (fun c73 => ?_) (fun c73 => absurd (nI_lt (Nat.lt_succ_self mo) (by omega)) c73)
    exact K
  | succ m ih =>
    intro s hsm hs1 mc ms Qf n0 z0 q1 q2 K
    have ih := fun s a b => ih s a b mc ms Qf n0 z0 q1 q2 K
    have k24 : (hu h 30 (aI 145 (csR cs X Y P i r))) 24 = oStr := g24
    have k25 : (hu h 30 (aI 145 (csR cs X Y P i r))) 25 = aI 1872 of := g25
    have k27 : (hu h 30 (aI 145 (csR cs X Y P i r))) 27 = oPol := g27
    have eof := (M p hpP).2 s hs1 (by omega)
    have eE : Ex X Y P (i + (P - (r + 1))) s = off X Y P p s := by unfold Ex; rw [hp]
    cases ho : off X Y P p s with
    | none =>
      rw [ho] at eof
      have e1 : mnL (gS 100000 (Ex X Y P) (Lx X Y P) i P (r + 1)) s = mnL (gS 100000 (Ex X Y P) (Lx X Y P) i P (r + 1)) (s - 1) := by
        have := mnL_n (f := gS 100000 (Ex X Y P) (Lx X Y P) i P (r + 1)) (s := s - 1) (by rw [show s - 1 + 1 = s by omega]; unfold gS; rw [eE, ho]; rfl)
        rwa [show s - 1 + 1 = s by omega] at this
      refine a_iload d_Pol_costOfRound_69 rfl ?_
      refine a_iload d_Pol_costOfRound_71 rfl ?_
      refine a_icmp_gt 124 d_Pol_costOfRound_73 (by decide) (fun c73 => absurd c73 (nI_nlt (show s ≤ mo by omega) (by omega))) (fun c73 => ?_)
      refine a_aload_n d_Pol_costOfRound_76 rfl ?_
      refine a_getf d_Pol_costOfRound_77 f_Pol_29 k27 rfl ?_
      refine a_iload d_Pol_costOfRound_80 rfl ?_
      refine a_iload d_Pol_costOfRound_82 rfl ?_
      refine a_cv0 d_Pol_costOfRound_84 m_Str_offAt t_Str_offAt l_Pol_110 k24 rfl rfl (s_Str_offAt (p := s0 + p) (s := s) k24 k25 (by omega) hs1 (by omega)) rfl rfl ⟨Nat.le_of_ble_eq_true rfl, Nat.le_of_ble_eq_true rfl⟩ (Nat.le_of_ble_eq_true rfl)  ?_
      refine a_istore d_Pol_costOfRound_87 (Nat.le_of_ble_eq_true rfl) (Nat.le_of_ble_eq_true rfl) rfl ?_
      refine a_iload d_Pol_costOfRound_89 rfl ?_
      refine a_iconst (v := -1) d_Pol_costOfRound_91 (by decide) ?_
      refine a_icmp_eq 118 d_Pol_costOfRound_92 (by decide) (fun c92 => ?_) (fun c92 => absurd (by rw [eof]; rfl) c92)
      refine a_iinc d_Pol_costOfRound_118 rfl (nI_1 s) (Nat.le_of_ble_eq_true rfl) rfl ?_
      refine a_goto 69 d_Pol_costOfRound_121 (by decide) ?_
      refine a_drop 9 ?_
      refine a_eq rfl ?_ rfl rfl rfl rfl (ih (s + 1) (by omega) (by omega))
      rw [Nat.add_sub_cancel, e1]
      rfl
    | some a =>
      rw [ho] at eof
      have hab := off_b S ho
      have hgb := gc_b (K := 100000) ok i P (r + 1 - s)
      have e1 : mnL (gS 100000 (Ex X Y P) (Lx X Y P) i P (r + 1)) s = min (mnL (gS 100000 (Ex X Y P) (Lx X Y P) i P (r + 1)) (s - 1)) (100000 + a + cK X Y P i (r + 1 - s)) := by
        have := mnL_y (f := gS 100000 (Ex X Y P) (Lx X Y P) i P (r + 1)) (s := s - 1) (v := 100000 + a + cK X Y P i (r + 1 - s)) (by rw [show s - 1 + 1 = s by omega]; unfold gS; rw [eE, ho]; rfl)
        rwa [show s - 1 + 1 = s by omega] at this
      have hmb := mnL_b (gS 100000 (Ex X Y P) (Lx X Y P) i P (r + 1)) (s - 1)
      have ej : nI (P - (r + 1)) + nI s = nI (P - (r + 1) + s) := nI_add _ _
      have ec : csR cs X Y P i r (P - (r + 1) + s) = nI (cK X Y P i (r + 1 - s)) := by
        rw [csR_in cs X Y (by omega) (by omega) (by omega), show P - (P - (r + 1) + s) = r + 1 - s by omega]
      have hc9 : cK X Y P i (r + 1 - s) ≤ 14400000 := Nat.le_trans hgb (Nat.le_trans (Nat.mul_le_mul_right 100000 (show r + 1 - s ≤ 144 by omega)) (by decide))
      clear hgb
      refine a_iload d_Pol_costOfRound_69 rfl ?_
      refine a_iload d_Pol_costOfRound_71 rfl ?_
      refine a_icmp_gt 124 d_Pol_costOfRound_73 (by decide) (fun c73 => absurd c73 (nI_nlt (show s ≤ mo by omega) (by omega))) (fun c73 => ?_)
      refine a_aload_n d_Pol_costOfRound_76 rfl ?_
      refine a_getf d_Pol_costOfRound_77 f_Pol_29 k27 rfl ?_
      refine a_iload d_Pol_costOfRound_80 rfl ?_
      refine a_iload d_Pol_costOfRound_82 rfl ?_
      refine a_cv0 d_Pol_costOfRound_84 m_Str_offAt t_Str_offAt l_Pol_110 k24 rfl rfl (s_Str_offAt (p := s0 + p) (s := s) k24 k25 (by omega) hs1 (by omega)) rfl rfl ⟨Nat.le_of_ble_eq_true rfl, Nat.le_of_ble_eq_true rfl⟩ (Nat.le_of_ble_eq_true rfl)  ?_
      refine a_istore d_Pol_costOfRound_87 (Nat.le_of_ble_eq_true rfl) (Nat.le_of_ble_eq_true rfl) rfl ?_
      refine a_iload d_Pol_costOfRound_89 rfl ?_
      refine a_iconst (v := -1) d_Pol_costOfRound_91 (by decide) ?_
      refine a_icmp_eq 118 d_Pol_costOfRound_92 (by decide) (fun c92 => absurd c92 (by rw [eof]; exact fun q => absurd ((oI_m1 (o := some a) (fun b hb => by cases hb; omega)).mp q) (by simp))) (fun c92 => ?_)
      refine a_iload d_Pol_costOfRound_95 rfl ?_
      refine a_ldc d_Pol_costOfRound_97 k_Pol_43 ?_
      refine a_iload d_Pol_costOfRound_99 rfl ?_
      refine a_iadd d_Pol_costOfRound_101 ?_
      refine a_aload_n d_Pol_costOfRound_102 rfl ?_
      refine a_getf d_Pol_costOfRound_103 f_Pol_22 k27 rfl ?_
      refine a_iload d_Pol_costOfRound_106 rfl ?_
      refine a_iload d_Pol_costOfRound_108 rfl ?_
      refine a_iadd d_Pol_costOfRound_110 ?_
      rw [ej]
      refine a_iald d_Pol_costOfRound_111 (hu_s _ _ _) (vp_in_nI (by omega) (by omega)) ?_
      refine a_iadd d_Pol_costOfRound_112 ?_
      rw [eof, nI_clamp (show P - (r + 1) + s < 2 ^ 31 by omega), ec]
      refine a_min d_Pol_costOfRound_113 l_Pol_101 (Nat.le_of_ble_eq_true rfl) (Nat.le_of_ble_eq_true rfl) (Nat.le_of_ble_eq_true rfl) ?_
      rw [show (100000 : Int32) = nI 100000 from rfl, show oI (some a) = nI a from rfl, nI_add, nI_add, fMin_n (by omega) (by omega), ← e1]
      refine a_istore d_Pol_costOfRound_116 (Nat.le_of_ble_eq_true rfl) (Nat.le_of_ble_eq_true rfl) rfl ?_
      refine a_iinc d_Pol_costOfRound_118 rfl (nI_1 s) (Nat.le_of_ble_eq_true rfl) rfl ?_
      refine a_goto 69 d_Pol_costOfRound_121 (by decide) ?_
      refine a_drop 9 ?_
      refine a_eq rfl ?_ rfl rfl rfl rfl (ih (s + 1) (by omega) (by omega))
      rw [Nat.add_sub_cancel]
      rfl
set_option maxRecDepth 20000 in
set_option maxHeartbeats 4000000 in
theorem L_costO {s0 P b : Nat} {fi : Int32} {wi : Int64} {me ve bo : Int32} {X Y : Nat → Int} {re of cs : Nat → Int32} (hb : 53 ≤ b) (g24 : h 24 = oStr) (g25 : h 25 = aI 1872 of) (g26 : h 26 = aI 144 re) (g27 : h 27 = oPol) (gb : h b = oBrd (nI s0) (nI P) fi wi me ve bo) (hP : 2 ≤ P) (hs : s0 + P ≤ 144) (S : Sh X Y) (U : Un X Y P) (M : Me re of s0 P X Y) {i : Nat} (hi : i < 1000) : ∀ (m r : Nat), r + m = P → Rc V i_Pol_costOfRound 1 29 [some (.ref 27), some (.ref b), some (.int (nI i)), some (.int (nI P)), some (.int (iI ((P : Int) - 1 - r))), none, none, none, none, none] [] (hu h 30 (aI 145 (csR cs X Y P i r))) n z 139 [some (.ref 27), some (.ref b), some (.int (nI i)), some (.int (nI P)), some (.int (iI ((P : Int) - 1 - P))), none, none, none, none, none] [] (hu h 30 (aI 145 (csR cs X Y P i P))) n z := by
  have ok := Ex_ok (by omega) U
  intro m
  induction m with
  | zero =>
    intro r hrm mc ms Qf n0 z0 q1 q2 K
    have e : P = r := by omega
    subst e
    refine a_iload d_Pol_costOfRound_29 rfl ?_
    refine a_if_lt 139 d_Pol_costOfRound_31 (by decide) (fun c31 => ?_) (fun c31 => absurd (by rw [iI_0, iI_lt (by omega) (by omega) (by omega) (by omega)]; omega) c31)
    exact K
  | succ m ih =>
    intro r hrm mc ms Qf n0 z0 q1 q2 K
    have hr : r < P := by omega
    have k24 : (hu h 30 (aI 145 (csR cs X Y P i r))) 24 = oStr := g24
    have k26 : (hu h 30 (aI 145 (csR cs X Y P i r))) 26 = aI 144 re := g26
    have k27 : (hu h 30 (aI 145 (csR cs X Y P i r))) 27 = oPol := g27
    have kb : (hu h 30 (aI 145 (csR cs X Y P i r))) b = oBrd (nI s0) (nI P) fi wi me ve bo := by rw [hu_n (by omega)]; exact gb
    have hpP : (i + (P - (r + 1))) % P < P := Nat.mod_lt _ (by omega)
    have hlg := lgD_b (stq X Y P ((i + (P - (r + 1))) % P)) (min (P - 1) 12)
    have hlm : lgst X Y P ((i + (P - (r + 1))) % P) ≤ min (P - 1) 12 := by unfold lgst; omega
    have hl1 : 1 ≤ lgst X Y P ((i + (P - (r + 1))) % P) := by unfold lgst; omega
    have ej : iI ((P : Int) - 1 - r) = nI (P - (r + 1)) := by rw [iI_nat]; congr 1; omega
    have ed : nI (P - (r + 1)) + Int32.ofInt (-1) = iI ((P : Int) - 1 - ((r + 1 : Nat) : Int)) := by
      rw [iI_nat, show Int32.ofInt (-1) = iI (-1) from rfl, iI_add]; congr 1; omega
    have er : re (s0 + (i + (P - (r + 1))) % P) = nI (lgst X Y P ((i + (P - (r + 1))) % P)) := (M _ hpP).1
    have em : fMin (nI (lgst X Y P ((i + (P - (r + 1))) % P))) (nI P - nI (P - (r + 1))) = nI (min (lgst X Y P ((i + (P - (r + 1))) % P)) (r + 1)) := by
      rw [pk_sub (by omega), show P - (P - (r + 1)) = r + 1 by omega]
      exact fMin_n (by omega) (by omega)
    have ek : (1000000000 : Int32) = nI (mnL (gS 100000 (Ex X Y P) (Lx X Y P) i P (r + 1)) (1 - 1)) := rfl
    have eg : nI (cK X Y P i (r + 1)) = nI (mnL (gS 100000 (Ex X Y P) (Lx X Y P) i P (r + 1)) (min (lgst X Y P ((i + (P - (r + 1))) % P)) (r + 1))) := congrArg nI (gc_s 100000 (Ex X Y P) (Lx X Y P) i P r)
    rw [ej]
    refine a_iload d_Pol_costOfRound_29 rfl ?_
    refine a_if_lt 139 d_Pol_costOfRound_31 (by decide) (fun c31 => absurd c31 (nI_pos (by omega))) (fun c31 => ?_)
    refine a_aload_n d_Pol_costOfRound_34 rfl ?_
    refine a_iload_n d_Pol_costOfRound_35 rfl ?_
    refine a_iload d_Pol_costOfRound_36 rfl ?_
    refine a_iadd d_Pol_costOfRound_38 ?_
    rw [nI_add]
    refine a_cv0 d_Pol_costOfRound_39 m_Brd_place t_Brd_place l_Pol_104 kb rfl rfl (s_Brd_placeN kb (by omega) hs (by omega)) rfl rfl ⟨Nat.le_of_ble_eq_true rfl, Nat.le_of_ble_eq_true rfl⟩ (Nat.le_of_ble_eq_true rfl)  ?_
    refine a_istore d_Pol_costOfRound_42 (Nat.le_of_ble_eq_true rfl) (Nat.le_of_ble_eq_true rfl) rfl ?_
    refine a_aload_n d_Pol_costOfRound_44 rfl ?_
    refine a_getf d_Pol_costOfRound_45 f_Pol_29 k27 rfl ?_
    refine a_iload d_Pol_costOfRound_48 rfl ?_
    refine a_cv0 d_Pol_costOfRound_50 m_Str_reachAt t_Str_reachAt l_Pol_107 k24 rfl rfl (s_Str_reachAt k24 k26 (by omega)) rfl rfl ⟨Nat.le_of_ble_eq_true rfl, Nat.le_of_ble_eq_true rfl⟩ (Nat.le_of_ble_eq_true rfl)  ?_
    rw [er]
    refine a_iload_n d_Pol_costOfRound_53 rfl ?_
    refine a_iload d_Pol_costOfRound_54 rfl ?_
    refine a_isub d_Pol_costOfRound_56 ?_
    refine a_min d_Pol_costOfRound_57 l_Pol_101 (Nat.le_of_ble_eq_true rfl) (Nat.le_of_ble_eq_true rfl) (Nat.le_of_ble_eq_true rfl) ?_
    rw [em]
    refine a_istore d_Pol_costOfRound_60 (Nat.le_of_ble_eq_true rfl) (Nat.le_of_ble_eq_true rfl) rfl ?_
    refine a_ldc d_Pol_costOfRound_62 k_Pol_90 ?_
    refine a_istore d_Pol_costOfRound_64 (Nat.le_of_ble_eq_true rfl) (Nat.le_of_ble_eq_true rfl) rfl ?_
    refine a_iconst (v := 1) d_Pol_costOfRound_66 (by decide) ?_
    refine a_istore d_Pol_costOfRound_67 (Nat.le_of_ble_eq_true rfl) (Nat.le_of_ble_eq_true rfl) rfl ?_
    rw [ek]
    refine (L_costI hb g24 g25 g26 g27 gb hP hs S U M hi hr rfl rfl (min (lgst X Y P ((i + (P - (r + 1))) % P)) (r + 1)) 1 (by omega) (Nat.le_refl 1)) mc ms Qf n0 z0 q1 q2 ?_
    refine a_aload_n d_Pol_costOfRound_124 rfl ?_
    refine a_getf d_Pol_costOfRound_125 f_Pol_22 k27 rfl ?_
    refine a_iload d_Pol_costOfRound_128 rfl ?_
    refine a_iload d_Pol_costOfRound_130 rfl ?_
    rw [← eg]
    refine a_iast d_Pol_costOfRound_132 (hu_s _ _ _) (vp_in_nI (by omega) (by omega)) ?_
    refine a_iinc d_Pol_costOfRound_133 rfl ed (Nat.le_of_ble_eq_true rfl) rfl ?_
    refine a_goto 29 d_Pol_costOfRound_136 (by decide) ?_
    refine a_drop 5 ?_
    refine a_drop 6 ?_
    refine a_drop 7 ?_
    refine a_drop 8 ?_
    refine a_eq rfl rfl rfl ?_ rfl rfl (ih (r + 1) (by omega) mc ms Qf n0 z0 q1 q2 K)
    rw [hu_hu, nI_clamp (by omega), csR_s cs X Y hr]
set_option maxRecDepth 20000 in
set_option maxHeartbeats 4000000 in
theorem s_Pol_costOfRound {s0 P b : Nat} {fi : Int32} {wi : Int64} {me ve bo : Int32} {X Y : Nat → Int} {re of cs : Nat → Int32} (hb : 53 ≤ b) (g24 : h 24 = oStr) (g25 : h 25 = aI 1872 of) (g26 : h 26 = aI 144 re) (g27 : h 27 = oPol) (gb : h b = oBrd (nI s0) (nI P) fi wi me ve bo) (hP : 2 ≤ P) (hs : s0 + P ≤ 144) (S : Sh X Y) (U : Un X Y P) (M : Me re of s0 P X Y) (g30 : h 30 = aI 145 cs) {i : Nat} (hi : i < 1000) : AMet V i_Pol_costOfRound 1 [.ref 27, .ref b, .int (nI i)] h n z (some (.int (nI (cK X Y P i P)))) (hu h 30 (aI 145 (csR cs X Y P i P))) n z := by
  have em : fMin (nI P) 144 = nI P := by
    have := fMin_n (a := P) (b := 144) (by omega) (by omega)
    rwa [Nat.min_eq_left (by omega)] at this
  have e0 : hu h 30 (aI 145 (upd cs P 0)) = hu h 30 (aI 145 (csR cs X Y P i 0)) := by
    congr 3
    have := pt_s cs P 0 (fun k => nI (cK X Y P i (0 - k)))
    rw [pt_0] at this
    exact this
  have e1 : nI P - 1 = iI ((P : Int) - 1 - ((0 : Nat) : Int)) := by rw [iI_nat, iI_1, iI_sub]; congr 1; omega
  have ez : csR cs X Y P i P 0 = nI (cK X Y P i P) := by rw [csR_in cs X Y (Nat.le_refl P) (by omega) (by omega), Nat.sub_zero]
  refine AMet.intro (Nat.le_refl _) (Nat.le_refl _) (by decide) (Nat.le_of_ble_eq_true rfl) rfl ?_
  refine a_aload_n d_Pol_costOfRound_0 rfl ?_
  refine a_getf d_Pol_costOfRound_1 f_Pol_91 gb rfl ?_
  refine a_sipush (v := 144) d_Pol_costOfRound_4 (by decide) ?_
  refine a_min d_Pol_costOfRound_7 l_Pol_101 (Nat.le_of_ble_eq_true rfl) (Nat.le_of_ble_eq_true rfl) (Nat.le_of_ble_eq_true rfl) ?_
  rw [em]
  refine a_istore_n d_Pol_costOfRound_10 (Nat.le_of_ble_eq_true rfl) (Nat.le_of_ble_eq_true rfl) rfl ?_
  refine a_iload_n d_Pol_costOfRound_11 rfl ?_
  refine a_if_gt 17 d_Pol_costOfRound_12 (by decide) (fun c12 => ?_) (fun c12 => absurd (by rw [← nI_0]; exact nI_lt (show 0 < P by omega) (by omega)) c12)
  refine a_aload_n d_Pol_costOfRound_17 rfl ?_
  refine a_getf d_Pol_costOfRound_18 f_Pol_22 g27 rfl ?_
  refine a_iload_n d_Pol_costOfRound_21 rfl ?_
  refine a_iconst (v := 0) d_Pol_costOfRound_22 (by decide) ?_
  refine a_iast d_Pol_costOfRound_23 g30 (vp_in_nI (by omega) (by omega)) ?_
  refine a_iload_n d_Pol_costOfRound_24 rfl ?_
  refine a_iconst (v := 1) d_Pol_costOfRound_25 (by decide) ?_
  refine a_isub d_Pol_costOfRound_26 ?_
  rw [e1]
  refine a_istore d_Pol_costOfRound_27 (Nat.le_of_ble_eq_true rfl) (Nat.le_of_ble_eq_true rfl) rfl ?_
  rw [nI_clamp (show P < 2 ^ 31 by omega)]
  refine ((L_costO (cs := cs) hb g24 g25 g26 g27 gb hP hs S U M hi P 0 (by omega)).use' e0 ?_)
  refine a_aload_n d_Pol_costOfRound_139 rfl ?_
  refine a_getf d_Pol_costOfRound_140 f_Pol_22 (show _ = oPol from g27) rfl ?_
  refine a_iconst (v := 0) d_Pol_costOfRound_143 (by decide) ?_
  refine a_iald d_Pol_costOfRound_144 (hu_s _ _ _) (vp_in_nI (n := 0) (N := 145) (by omega) (by omega)) ?_
  exact a_iret d_Pol_costOfRound_145 rfl (by rw [← ez]; rfl) rfl rfl
end
