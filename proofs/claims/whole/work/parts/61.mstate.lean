/-! THE MODEL when it is asked, its state: printed by wip/whole/t61.py -/
theorem fRg_P {v : Int32} {P : Nat} (hP : P < 2 ^ 31) : fRg v 0 (nI P - 1) = fIn2 v (nI P) := by
  have e : (nI P - 1).toInt = (P : Int) - 1 := by
    rw [iI_nat, iI_1, iI_sub, iI_toInt (by omega) (by omega)]
  have q : nI P - 1 < v ↔ nI P ≤ v := by
    rw [Int32.lt_iff_toInt_lt, Int32.le_iff_toInt_le, e, nI_toInt hP]
    omega
  unfold fRg fIn2
  by_cases c : v < 0
  · rw [if_pos c, if_pos c]
  · rw [if_neg c, if_neg c]
    by_cases d : nI P ≤ v
    · rw [if_pos d, if_pos (q.mpr d)]
    · rw [if_neg d, if_neg (fun x => d (q.mp x))]
theorem fIn2_01 (v m : Int32) : fIn2 v m = 0 ∨ fIn2 v m = 1 := by
  unfold fIn2
  repeat' split
  all_goals simp
theorem fRg_01 (v a b : Int32) : fRg v a b = 0 ∨ fRg v a b = 1 := by
  unfold fRg
  repeat' split
  all_goals simp
theorem fHas_eq (W H x y : Int32) : fHas W H x y = if fIn2 x W = 0 then 0 else if fIn2 y H = 0 then 0 else 1 := by
  unfold fHas fIn2
  repeat' split
  all_goals simp_all
theorem mDot_fHas {W H : Nat} (hW : W < 2 ^ 31) (hH : H < 2 ^ 31) (x y : Int32) : mDot (nI W) (nI H) x y = fHas (nI W) (nI H) x y := by
  rw [fHas_eq]
  unfold mDot
  rw [fRg_P hW, fRg_P hH]
theorem fStr_eq (P i s : Int32) : fStr P i s = if fIn2 i P = 0 then 0 else if s < 1 then 0 else if P ≤ s then 0 else 1 := rfl
theorem fRg_S {v : Int32} {P : Nat} (hP : P < 2 ^ 31) : fRg v 1 (nI P - 1) = if v < 1 then 0 else if nI P ≤ v then 0 else 1 := by
  have e : (nI P - 1).toInt = (P : Int) - 1 := by
    rw [iI_nat, iI_1, iI_sub, iI_toInt (by omega) (by omega)]
  have q : nI P - 1 < v ↔ nI P ≤ v := by
    rw [Int32.lt_iff_toInt_lt, Int32.le_iff_toInt_le, e, nI_toInt hP]
    omega
  unfold fRg
  by_cases c : v < 1
  · rw [if_pos c, if_pos c]
  · rw [if_neg c, if_neg c]
    by_cases d : nI P ≤ v
    · rw [if_pos d, if_pos (q.mpr d)]
    · rw [if_neg d, if_neg (fun x => d (q.mp x))]
/-- a picture as both hold it -/
def PcOk (W H : Nat) (D : Int64) (j : Int32) : Prop := W ≤ 8 ∧ H ≤ 8 ∧ (j = 0 ∨ j = 1) ∧ Wh W H D
theorem PcOk.zero {H : Nat} {D : Int64} {j : Int32} (p : PcOk 0 H D j) : D = 0 := by
  refine lb_eq0.mpr (fun k hk => ?_)
  cases c : lb D k
  · rfl
  · exfalso
    have e : inD D ((k % 8 : Nat) : Int) ((k / 8 : Nat) : Int) = true := by
      unfold inD
      rw [decide_eq_true (by omega), show (8 * ((k / 8 : Nat) : Int) + ((k % 8 : Nat) : Int)).toNat = k by omega, c]; rfl
    have := p.2.2.2 _ _ e
    omega
theorem sB_zero (J : Bool) : sB J 0 64 = 0 := by
  have := sc_skip (J := J) (D := 0) (t := 0) 64 (fun k _ _ => lb_0 k)
  unfold sB
  rw [show (64 : Nat) = 0 + 64 from rfl, this]
  rfl
theorem bq_some {W : Nat} {D : Int64} {j b : Int32} {t : Nat} (h : bq W D j b = some t) : W ≠ 0 ∧ t < 64 ∧ isB (decide (j = 1)) D t = true ∧ b = nI (sB (decide (j = 1)) D t) ∧ sB (decide (j = 1)) D t < sB (decide (j = 1)) D 64 := by
  unfold bq at h
  by_cases c : W = 0
  · rw [if_pos c] at h; cases h
  · rw [if_neg c] at h
    by_cases c2 : b < 0
    · rw [if_pos c2] at h; cases h
    · rw [if_neg c2] at h
      by_cases c3 : nI (sB (decide (j = 1)) D 64) ≤ b
      · rw [if_pos c3] at h; cases h
      · rw [if_neg c3] at h
        have hl := sB_le (decide (j = 1)) D 64
        obtain ⟨K, hK, e⟩ := in_nI (by omega) c2 c3
        subst e
        rw [nI_clamp (by omega)] at h
        have h' := Option.some.inj h
        subst h'
        obtain ⟨q1, q2, q3⟩ := tOf_ok hK
        exact ⟨c, q1, q2, by rw [q3], by rw [q3]; exact hK⟩
theorem bq_fIn {W H : Nat} {D : Int64} {j : Int32} (p : PcOk W H D j) (b : Int32) : fRg b 0 (nI (sB (decide (j = 1)) D 64) - 1) = if (bq W D j b).isSome then 1 else 0 := by
  have hl := sB_le (decide (j = 1)) D 64
  rw [fRg_P (by omega)]
  unfold bq fIn2
  by_cases c : W = 0
  · subst c
    rw [if_pos rfl]
    rw [p.zero, sB_zero]
    by_cases c2 : b < 0
    · rw [if_pos c2]; rfl
    · rw [if_neg c2, if_pos (show nI 0 ≤ b from Int32.not_lt.mp c2)]; rfl
  · rw [if_neg c]
    by_cases c2 : b < 0
    · rw [if_pos c2, if_pos c2]; rfl
    · rw [if_neg c2, if_neg c2]
      by_cases c3 : nI (sB (decide (j = 1)) D 64) ≤ b
      · rw [if_pos c3, if_pos c3]; rfl
      · rw [if_neg c3, if_neg c3]; rfl
/-- OFF of a stretch as the model writes it -/
def oS : Option Nat → Int32
  | none => -1000000
  | some a => nI a
def MB (W H : Nat) (D : Int64) (j s : Int32) (h : AH) : Prop := ∃ st of le vx tu lx ly, h 33 = aI 68 st ∧ (∀ i, i < 68 → st i = stF (W, H, D, j, s) i) ∧ h 47 = aI 20736 of ∧ h 48 = aI 160 le ∧ h 49 = aI 144 vx ∧ h 50 = aI 160 tu ∧ h 51 = aI 600 lx ∧ h 52 = aI 600 ly
/-- the model's table is that of the border that begins at t -/
def TBh (J : Bool) (D : Int64) (t : Nat) (ve oa : Int32) (h : AH) : Prop := ve = nI (zN J D t) ∧ oa = nI (zO J D t) ∧ ∃ of vx, h 47 = aI 20736 of ∧ h 49 = aI 144 vx ∧ (∀ i s, i < sP J D t → 1 ≤ s → s < sP J D t → of (144 * i + s) = oS (off (bX J D t) (bY J D t) (sP J D t) i s)) ∧ ∀ k, k < zN J D t → vx k = nI (zC J D t k)
def MLd (W H : Nat) (D : Int64) (j s ac by_ la ra : Int32) (h : AH) : Prop := ∃ tb ve oa lm, h 32 = oMod ac by_ la ra 1 (nI (sB (decide (j = 1)) D 64)) 0 tb ve oa lm ∧ MB W H D j s h ∧ MLh (decide (j = 1)) D 64 h ∧ (tb = -1 ∨ ∃ t, t < 64 ∧ isB (decide (j = 1)) D t = true ∧ tb = nI (sB (decide (j = 1)) D t) ∧ TBh (decide (j = 1)) D t ve oa h)
def MQs (W H : Nat) (D : Int64) (j s ac by_ la ra : Int32) (h : AH) : Prop := (∃ mn rs tb ve oa lm, h 32 = oMod ac by_ la ra 0 mn rs tb ve oa lm ∧ MB W H D j s h ∧ MLh (decide (j = 1)) D 0 h) ∨ MLd W H D j s ac by_ la ra h
def FQ (h1 h : AH) : Prop := ∀ i, i < 32 ∨ (33 ≤ i ∧ i < 39) ∨ 52 < i → h1 i = h i
theorem FQ.rfl {h : AH} : FQ h h := fun _ _ => Eq.refl _
theorem FQ.tr {h1 h2 h : AH} (a : FQ h2 h1) (b : FQ h1 h) : FQ h2 h := fun i q => (a i q).trans (b i q)
theorem MB.st0 {W H : Nat} {D : Int64} {j s : Int32} {st : Nat → Int32} (e : ∀ i, i < 68 → st i = stF (W, H, D, j, s) i) : st 0 = nI W ∧ st 1 = nI H ∧ st 2 = j ∧ st 3 = s ∧ ∀ k, k < 64 → st (4 + k) = if lb D k then 1 else 0 := by
  refine ⟨e 0 (by omega), e 1 (by omega), e 2 (by omega), e 3 (by omega), fun k hk => ?_⟩
  rw [e (4 + k) (by omega)]
  unfold stF
  rw [if_neg (by omega), if_neg (by omega), if_neg (by omega), if_neg (by omega), show 4 + k - 4 = k by omega]
theorem MLd.q {W H : Nat} {D : Int64} {j s ac by_ la ra : Int32} {h : AH} (L : MLd W H D j s ac by_ la ra h) : MQs W H D j s ac by_ la ra h := Or.inr L
section
variable {V : VV} {h : AH} {n z : Nat}
theorem m_lays {W H : Nat} {D : Int64} {j s ac by_ la ra : Int32} (p : PcOk W H D j) (Q : MQs W H D j s ac by_ la ra h) : ∃ h1, MLd W H D j s ac by_ la ra h1 ∧ FQ h1 h ∧ AMet V i_Mod_lays 6 [.ref 32] h n z none h1 n z := by
  rcases Q with ⟨mn, rs, tb, ve, oa, lm, g32, B, M⟩ | L
  · obtain ⟨st, of, le, vx, tu, lx, ly, g33, es, g47, g48, g49, g50, g51, g52⟩ := B
    obtain ⟨s0, s1, s2, s3, s4⟩ := MB.st0 es
    obtain ⟨h', a1, a2, a3, a4⟩ := s_Mod_lays (V := V) (n := n) (z := z) (il := 0) s0 s1 s2 p.1 p.2.1 p.2.2.1 rfl p.2.2.2 g32 g33 s4 M
    refine ⟨h', ⟨-1, ve, oa, lm, a1, ⟨st, of, le, vx, tu, lx, ly, ?_, es, ?_, ?_, ?_, ?_, ?_, ?_⟩, a2, Or.inl rfl⟩, fun i q => a3 i (by omega) (by omega), a4⟩
    all_goals rw [a3 _ (by decide) (by decide)]; assumption
  · obtain ⟨tb, ve, oa, lm, g32, r⟩ := id L
    exact ⟨h, L, FQ.rfl, s_Mod_laysN g32⟩

set_option maxRecDepth 20000 in
set_option maxHeartbeats 4000000 in
theorem m_isBorder {W H : Nat} {D : Int64} {j s ac by_ la ra : Int32} (p : PcOk W H D j) (Q : MQs W H D j s ac by_ la ra h) (b : Int32) : ∃ h1, MLd W H D j s ac by_ la ra h1 ∧ FQ h1 h ∧ AMet V i_Mod_isBorder 7 [.ref 32, .int b] h n z (some (.int (if (bq W D j b).isSome then 1 else 0))) h1 n z := by
  obtain ⟨h1, L, F, M⟩ := m_lays (V := V) (n := n) (z := z) p Q
  refine ⟨h1, L, F, ?_⟩
  obtain ⟨tb, ve, oa, lm, k32, r⟩ := L
  have g32 : ∃ c, h 32 = .inr (11, c) := by
    rcases Q with ⟨mn, rs, tb, ve, oa, lm, g32, B, M⟩ | ⟨tb, ve, oa, lm, g32, r⟩
    · exact ⟨_, g32⟩
    · exact ⟨_, g32⟩
  obtain ⟨c, g32⟩ := g32
  refine AMet.intro (Nat.le_refl _) (Nat.le_refl _) (by decide) (Nat.le_of_ble_eq_true rfl) rfl ?_
  refine a_aload_n d_Mod_isBorder_0 rfl ?_
  refine a_cv0 (a := 32) d_Mod_isBorder_1 m_Mod_lays t_Mod_lays l_Mod_166 g32 rfl rfl M rfl rfl ⟨Nat.le_of_ble_eq_true rfl, Nat.le_of_ble_eq_true rfl⟩ (Nat.le_of_ble_eq_true rfl)  ?_
  refine a_iload_n d_Mod_isBorder_4 rfl ?_
  refine a_iconst (v := 0) d_Mod_isBorder_5 (by decide) ?_
  refine a_aload_n d_Mod_isBorder_6 rfl ?_
  refine a_getf d_Mod_isBorder_7 f_Mod_156 k32 rfl ?_
  refine a_iconst (v := 1) d_Mod_isBorder_10 (by decide) ?_
  refine a_isub d_Mod_isBorder_11 ?_
  refine a_cs0 d_Mod_isBorder_12 m_Mod_in t_Mod_in l_Mod_71 (s_Mod_in _ _ _) rfl rfl ⟨Nat.le_of_ble_eq_true rfl, Nat.le_of_ble_eq_true rfl⟩ (Nat.le_of_ble_eq_true rfl)  ?_
  exact a_zret d_Mod_isBorder_15 rfl (fRg_01 _ _ _) (by rw [bq_fIn p b]) rfl rfl
end
