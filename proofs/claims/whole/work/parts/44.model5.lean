/-! THE MODEL, what is done: printed by wip/whole/t44.py -/
/-- the model's acts, when one more is noted -/
def rmP (pa : Nat → Int32) (k : Nat) (st : Nat → Int32) : Nat → Int32 := if k < 8 then pt pa (68 * k) 68 (fun t => st (0 + t)) else pt (pt pa 0 476 (fun t => pa (68 + t))) 476 68 (fun t => st (0 + t))
section
variable {V : VV} {h : AH} {n z : Nat}

theorem s_notes {by_ la ra il mn : Int32} {rs : Int64} {tb ve oa lm : Int32} {k : Nat} {st pa : Nat → Int32} (g32 : h 32 = oMod (nI k) by_ la ra il mn rs tb ve oa lm) (g33 : h 33 = aI 68 st) (g34 : h 34 = aI 544 pa) (hk : k ≤ 8) : ∃ h2, AMet V i_Mod_notes 1 [.ref 32] h n z none h2 n z ∧ h2 32 = oMod (nI (rmK k)) by_ la ra 0 mn rs tb ve oa lm ∧ h2 33 = aI 68 st ∧ h2 34 = aI 544 (rmP pa k st) ∧ (∀ i, i ≠ 32 → i ≠ 34 → h2 i = h i) := by
  rcases Nat.lt_or_ge k 8 with q | q
  · refine ⟨_, s_Mod_notes g32 g33 g34 q, ?_, g33, ?_, fun i q1 q2 => by rw [hu_n q1, hu_n q2]⟩
    · unfold rmK; rw [if_pos q]; exact hu_s _ _ _
    · unfold rmP; rw [if_pos q]; rfl
  · have e : k = 8 := by omega
    subst e
    refine ⟨_, s_Mod_notesF g32 g33 g34, ?_, g33, ?_, fun i q1 q2 => by rw [hu_n q1, hu_n q2, hu_n q1, hu_n q2]⟩
    · unfold rmK; rw [if_neg (by omega)]; exact hu_s _ _ _
    · unfold rmP; rw [if_neg (by omega)]; rfl
set_option maxRecDepth 20000 in
set_option maxHeartbeats 4000000 in
theorem s_Mod_tellsS {ac by_ la ra il mn : Int32} {rs : Int64} {tb ve oa lm : Int32} {st : Nat → Int32} (g32 : h 32 = oMod ac by_ la ra il mn rs tb ve oa lm) (g33 : h 33 = aI 68 st) {wh : Nat} (hwh : wh < 68) {v lo hi : Int32} (h0 : st 0 ≤ 0) : AMet V i_Mod_tells 2 [.ref 32, .int (nI wh), .int v, .int lo, .int hi] h n z (some (.int (-1000002))) (h) n z := by
  refine AMet.intro (Nat.le_refl _) (Nat.le_refl _) (by decide) (Nat.le_of_ble_eq_true rfl) rfl ?_
  refine a_aload_n d_Mod_tells_0 rfl ?_
  refine a_cv0 (a := 32) d_Mod_tells_1 m_Mod_isPicture t_Mod_isPicture l_Mod_125 g32 rfl rfl (s_Mod_isPicture g32 g33) rfl rfl ⟨Nat.le_of_ble_eq_true rfl, Nat.le_of_ble_eq_true rfl⟩ (Nat.le_of_ble_eq_true rfl)  ?_
  rw [if_pos h0]
  refine a_if_ne 10 d_Mod_tells_4 (by decide) (fun c4 => absurd c4 (fun q => q rfl)) (fun c4 => ?_)
  refine a_ldc d_Mod_tells_7 k_Mod_117 ?_
  exact a_iret d_Mod_tells_9 rfl rfl rfl rfl
set_option maxRecDepth 20000 in
set_option maxHeartbeats 4000000 in
theorem s_Mod_tellsB {ac by_ la ra il mn : Int32} {rs : Int64} {tb ve oa lm : Int32} {st : Nat → Int32} (g32 : h 32 = oMod ac by_ la ra il mn rs tb ve oa lm) (g33 : h 33 = aI 68 st) {wh : Nat} (hwh : wh < 68) {v lo hi : Int32} (h0 : ¬ st 0 ≤ 0) (hx : fRg v lo hi = 0) : AMet V i_Mod_tells 2 [.ref 32, .int (nI wh), .int v, .int lo, .int hi] h n z (some (.int (-1000001))) (h) n z := by
  refine AMet.intro (Nat.le_refl _) (Nat.le_refl _) (by decide) (Nat.le_of_ble_eq_true rfl) rfl ?_
  refine a_aload_n d_Mod_tells_0 rfl ?_
  refine a_cv0 (a := 32) d_Mod_tells_1 m_Mod_isPicture t_Mod_isPicture l_Mod_125 g32 rfl rfl (s_Mod_isPicture g32 g33) rfl rfl ⟨Nat.le_of_ble_eq_true rfl, Nat.le_of_ble_eq_true rfl⟩ (Nat.le_of_ble_eq_true rfl)  ?_
  rw [if_neg h0]
  refine a_if_ne 10 d_Mod_tells_4 (by decide) (fun c4 => ?_) (fun c4 => absurd c4 (by decide))
  refine a_iload_n d_Mod_tells_10 rfl ?_
  refine a_iload_n d_Mod_tells_11 rfl ?_
  refine a_iload d_Mod_tells_12 rfl ?_
  refine a_cs0 d_Mod_tells_14 m_Mod_in t_Mod_in l_Mod_71 (s_Mod_in v lo hi) rfl rfl ⟨Nat.le_of_ble_eq_true rfl, Nat.le_of_ble_eq_true rfl⟩ (Nat.le_of_ble_eq_true rfl)  ?_
  refine a_if_ne 23 d_Mod_tells_17 (by decide) (fun c17 => absurd c17 (fun q => q hx)) (fun c17 => ?_)
  refine a_ldc d_Mod_tells_20 k_Mod_75 ?_
  exact a_iret d_Mod_tells_22 rfl rfl rfl rfl
set_option maxRecDepth 20000 in
set_option maxHeartbeats 4000000 in
theorem s_Mod_tells {by_ la ra il mn : Int32} {rs : Int64} {tb ve oa lm : Int32} {k : Nat} {st pa : Nat → Int32} (g32 : h 32 = oMod (nI k) by_ la ra il mn rs tb ve oa lm) (g33 : h 33 = aI 68 st) (g34 : h 34 = aI 544 pa) (hk : k ≤ 8) {wh : Nat} (hwh : wh < 68) {v lo hi : Int32} (h0 : ¬ st 0 ≤ 0) (hx : ¬ fRg v lo hi = 0) : ∃ h1, AMet V i_Mod_tells 2 [.ref 32, .int (nI wh), .int v, .int lo, .int hi] h n z (some (.int (st wh))) h1 n z ∧ h1 32 = oMod (nI (rmK k)) by_ la ra 0 mn rs tb ve oa lm ∧ h1 33 = aI 68 (upd st wh v) ∧ h1 34 = aI 544 (rmP pa k st) ∧ ∀ i, i ≠ 32 → i ≠ 33 → i ≠ 34 → h1 i = h i := by
  obtain ⟨h2, M, k32, k33, k34, far⟩ := s_notes (V := V) (n := n) (z := z) g32 g33 g34 hk
  refine ⟨hu h2 33 (aI 68 (upd st wh v)), ?_, k32, hu_s _ _ _, k34, fun i q1 q2 q3 => by rw [hu_n q2, far i q1 q3]⟩
  refine AMet.intro (Nat.le_refl _) (Nat.le_refl _) (by decide) (Nat.le_of_ble_eq_true rfl) rfl ?_
  refine a_aload_n d_Mod_tells_0 rfl ?_
  refine a_cv0 (a := 32) d_Mod_tells_1 m_Mod_isPicture t_Mod_isPicture l_Mod_125 g32 rfl rfl (s_Mod_isPicture g32 g33) rfl rfl ⟨Nat.le_of_ble_eq_true rfl, Nat.le_of_ble_eq_true rfl⟩ (Nat.le_of_ble_eq_true rfl)  ?_
  rw [if_neg h0]
  refine a_if_ne 10 d_Mod_tells_4 (by decide) (fun c4 => ?_) (fun c4 => absurd c4 (by decide))
  refine a_iload_n d_Mod_tells_10 rfl ?_
  refine a_iload_n d_Mod_tells_11 rfl ?_
  refine a_iload d_Mod_tells_12 rfl ?_
  refine a_cs0 d_Mod_tells_14 m_Mod_in t_Mod_in l_Mod_71 (s_Mod_in v lo hi) rfl rfl ⟨Nat.le_of_ble_eq_true rfl, Nat.le_of_ble_eq_true rfl⟩ (Nat.le_of_ble_eq_true rfl)  ?_
  refine a_if_ne 23 d_Mod_tells_17 (by decide) (fun c17 => ?_) (fun c17 => absurd c17 hx)
  refine a_aload_n d_Mod_tells_23 rfl ?_
  refine a_cv0 (a := 32) d_Mod_tells_24 m_Mod_notes t_Mod_notes l_Mod_122 g32 rfl rfl M rfl rfl ⟨Nat.le_of_ble_eq_true rfl, Nat.le_of_ble_eq_true rfl⟩ (Nat.le_of_ble_eq_true rfl)  ?_
  refine a_aload_n d_Mod_tells_27 rfl ?_
  refine a_getf d_Mod_tells_28 f_Mod_7 k32 rfl ?_
  refine a_iload_n d_Mod_tells_31 rfl ?_
  refine a_iald d_Mod_tells_32 k33 (nI_in hwh (by decide)) ?_
  rw [nI_clamp (by omega)]
  refine a_istore d_Mod_tells_33 (Nat.le_of_ble_eq_true rfl) (Nat.le_of_ble_eq_true rfl) rfl ?_
  refine a_aload_n d_Mod_tells_35 rfl ?_
  refine a_getf d_Mod_tells_36 f_Mod_7 k32 rfl ?_
  refine a_iload_n d_Mod_tells_39 rfl ?_
  refine a_iload_n d_Mod_tells_40 rfl ?_
  refine a_iast d_Mod_tells_41 k33 (nI_in hwh (by decide)) ?_
  refine a_iload d_Mod_tells_42 rfl ?_
  exact a_iret d_Mod_tells_44 rfl rfl (by rw [nI_clamp (by omega)]) rfl
set_option maxRecDepth 20000 in
set_option maxHeartbeats 4000000 in
theorem s_Mod_joinedS {ac by_ la ra il mn : Int32} {rs : Int64} {tb ve oa lm : Int32} {st : Nat → Int32} (g32 : h 32 = oMod ac by_ la ra il mn rs tb ve oa lm) (g33 : h 33 = aI 68 st) (v : Int32) (h0 : st 0 ≤ 0) : AMet V i_Mod_joined 3 [.ref 32, .int v] h n z (some (.int (-1000002))) (h) n z := by
  refine AMet.intro (Nat.le_refl _) (Nat.le_refl _) (by decide) (Nat.le_of_ble_eq_true rfl) rfl ?_
  refine a_aload_n d_Mod_joined_0 rfl ?_
  refine a_iconst (v := 2) d_Mod_joined_1 (by decide) ?_
  refine a_iload_n d_Mod_joined_2 rfl ?_
  refine a_iconst (v := 0) d_Mod_joined_3 (by decide) ?_
  refine a_iconst (v := 1) d_Mod_joined_4 (by decide) ?_
  refine a_cv0 (a := 32) d_Mod_joined_5 m_Mod_tells t_Mod_tells l_Mod_129 g32 rfl rfl (s_Mod_tellsS g32 g33 (wh := 2) (by decide) h0) rfl rfl ⟨Nat.le_of_ble_eq_true rfl, Nat.le_of_ble_eq_true rfl⟩ (Nat.le_of_ble_eq_true rfl)  ?_
  exact a_iret d_Mod_joined_8 rfl rfl rfl rfl
set_option maxRecDepth 20000 in
set_option maxHeartbeats 4000000 in
theorem s_Mod_joinedB {ac by_ la ra il mn : Int32} {rs : Int64} {tb ve oa lm : Int32} {st : Nat → Int32} (g32 : h 32 = oMod ac by_ la ra il mn rs tb ve oa lm) (g33 : h 33 = aI 68 st) {v : Int32} (h0 : ¬ st 0 ≤ 0) (hx : fRg v 0 1 = 0) : AMet V i_Mod_joined 3 [.ref 32, .int v] h n z (some (.int (-1000001))) (h) n z := by
  refine AMet.intro (Nat.le_refl _) (Nat.le_refl _) (by decide) (Nat.le_of_ble_eq_true rfl) rfl ?_
  refine a_aload_n d_Mod_joined_0 rfl ?_
  refine a_iconst (v := 2) d_Mod_joined_1 (by decide) ?_
  refine a_iload_n d_Mod_joined_2 rfl ?_
  refine a_iconst (v := 0) d_Mod_joined_3 (by decide) ?_
  refine a_iconst (v := 1) d_Mod_joined_4 (by decide) ?_
  refine a_cv0 (a := 32) d_Mod_joined_5 m_Mod_tells t_Mod_tells l_Mod_129 g32 rfl rfl (s_Mod_tellsB g32 g33 (wh := 2) (by decide) h0 hx) rfl rfl ⟨Nat.le_of_ble_eq_true rfl, Nat.le_of_ble_eq_true rfl⟩ (Nat.le_of_ble_eq_true rfl)  ?_
  exact a_iret d_Mod_joined_8 rfl rfl rfl rfl
set_option maxRecDepth 20000 in
set_option maxHeartbeats 4000000 in
theorem s_Mod_joined {by_ la ra il mn : Int32} {rs : Int64} {tb ve oa lm : Int32} {k : Nat} {st pa : Nat → Int32} (g32 : h 32 = oMod (nI k) by_ la ra il mn rs tb ve oa lm) (g33 : h 33 = aI 68 st) (g34 : h 34 = aI 544 pa) (hk : k ≤ 8) {v : Int32} (h0 : ¬ st 0 ≤ 0) (hx : ¬ fRg v 0 1 = 0) : ∃ h1, AMet V i_Mod_joined 3 [.ref 32, .int v] h n z (some (.int (st 2))) h1 n z ∧ h1 32 = oMod (nI (rmK k)) by_ la ra 0 mn rs tb ve oa lm ∧ h1 33 = aI 68 (upd st 2 v) ∧ h1 34 = aI 544 (rmP pa k st) ∧ ∀ i, i ≠ 32 → i ≠ 33 → i ≠ 34 → h1 i = h i := by
  obtain ⟨h2, M, X⟩ := s_Mod_tells (V := V) (n := n) (z := z) g32 g33 g34 hk (wh := 2) (by decide) h0 hx
  refine ⟨h2, ?_, X⟩
  refine AMet.intro (Nat.le_refl _) (Nat.le_refl _) (by decide) (Nat.le_of_ble_eq_true rfl) rfl ?_
  refine a_aload_n d_Mod_joined_0 rfl ?_
  refine a_iconst (v := 2) d_Mod_joined_1 (by decide) ?_
  refine a_iload_n d_Mod_joined_2 rfl ?_
  refine a_iconst (v := 0) d_Mod_joined_3 (by decide) ?_
  refine a_iconst (v := 1) d_Mod_joined_4 (by decide) ?_
  refine a_cv0 (a := 32) d_Mod_joined_5 m_Mod_tells t_Mod_tells l_Mod_129 g32 rfl rfl M rfl rfl ⟨Nat.le_of_ble_eq_true rfl, Nat.le_of_ble_eq_true rfl⟩ (Nat.le_of_ble_eq_true rfl)  ?_
  exact a_iret d_Mod_joined_8 rfl rfl rfl rfl
set_option maxRecDepth 20000 in
set_option maxHeartbeats 4000000 in
theorem s_Mod_sharpS {ac by_ la ra il mn : Int32} {rs : Int64} {tb ve oa lm : Int32} {st : Nat → Int32} (g32 : h 32 = oMod ac by_ la ra il mn rs tb ve oa lm) (g33 : h 33 = aI 68 st) (v : Int32) (h0 : st 0 ≤ 0) : AMet V i_Mod_sharp 3 [.ref 32, .int v] h n z (some (.int (-1000002))) (h) n z := by
  refine AMet.intro (Nat.le_refl _) (Nat.le_refl _) (by decide) (Nat.le_of_ble_eq_true rfl) rfl ?_
  refine a_aload_n d_Mod_sharp_0 rfl ?_
  refine a_iconst (v := 3) d_Mod_sharp_1 (by decide) ?_
  refine a_iload_n d_Mod_sharp_2 rfl ?_
  refine a_iconst (v := 1) d_Mod_sharp_3 (by decide) ?_
  refine a_bipush (v := 32) d_Mod_sharp_4 (by decide) ?_
  refine a_cv0 (a := 32) d_Mod_sharp_6 m_Mod_tells t_Mod_tells l_Mod_129 g32 rfl rfl (s_Mod_tellsS g32 g33 (wh := 3) (by decide) h0) rfl rfl ⟨Nat.le_of_ble_eq_true rfl, Nat.le_of_ble_eq_true rfl⟩ (Nat.le_of_ble_eq_true rfl)  ?_
  exact a_iret d_Mod_sharp_9 rfl rfl rfl rfl
set_option maxRecDepth 20000 in
set_option maxHeartbeats 4000000 in
theorem s_Mod_sharpB {ac by_ la ra il mn : Int32} {rs : Int64} {tb ve oa lm : Int32} {st : Nat → Int32} (g32 : h 32 = oMod ac by_ la ra il mn rs tb ve oa lm) (g33 : h 33 = aI 68 st) {v : Int32} (h0 : ¬ st 0 ≤ 0) (hx : fRg v 1 32 = 0) : AMet V i_Mod_sharp 3 [.ref 32, .int v] h n z (some (.int (-1000001))) (h) n z := by
  refine AMet.intro (Nat.le_refl _) (Nat.le_refl _) (by decide) (Nat.le_of_ble_eq_true rfl) rfl ?_
  refine a_aload_n d_Mod_sharp_0 rfl ?_
  refine a_iconst (v := 3) d_Mod_sharp_1 (by decide) ?_
  refine a_iload_n d_Mod_sharp_2 rfl ?_
  refine a_iconst (v := 1) d_Mod_sharp_3 (by decide) ?_
  refine a_bipush (v := 32) d_Mod_sharp_4 (by decide) ?_
  refine a_cv0 (a := 32) d_Mod_sharp_6 m_Mod_tells t_Mod_tells l_Mod_129 g32 rfl rfl (s_Mod_tellsB g32 g33 (wh := 3) (by decide) h0 hx) rfl rfl ⟨Nat.le_of_ble_eq_true rfl, Nat.le_of_ble_eq_true rfl⟩ (Nat.le_of_ble_eq_true rfl)  ?_
  exact a_iret d_Mod_sharp_9 rfl rfl rfl rfl
set_option maxRecDepth 20000 in
set_option maxHeartbeats 4000000 in
theorem s_Mod_sharp {by_ la ra il mn : Int32} {rs : Int64} {tb ve oa lm : Int32} {k : Nat} {st pa : Nat → Int32} (g32 : h 32 = oMod (nI k) by_ la ra il mn rs tb ve oa lm) (g33 : h 33 = aI 68 st) (g34 : h 34 = aI 544 pa) (hk : k ≤ 8) {v : Int32} (h0 : ¬ st 0 ≤ 0) (hx : ¬ fRg v 1 32 = 0) : ∃ h1, AMet V i_Mod_sharp 3 [.ref 32, .int v] h n z (some (.int (st 3))) h1 n z ∧ h1 32 = oMod (nI (rmK k)) by_ la ra 0 mn rs tb ve oa lm ∧ h1 33 = aI 68 (upd st 3 v) ∧ h1 34 = aI 544 (rmP pa k st) ∧ ∀ i, i ≠ 32 → i ≠ 33 → i ≠ 34 → h1 i = h i := by
  obtain ⟨h2, M, X⟩ := s_Mod_tells (V := V) (n := n) (z := z) g32 g33 g34 hk (wh := 3) (by decide) h0 hx
  refine ⟨h2, ?_, X⟩
  refine AMet.intro (Nat.le_refl _) (Nat.le_refl _) (by decide) (Nat.le_of_ble_eq_true rfl) rfl ?_
  refine a_aload_n d_Mod_sharp_0 rfl ?_
  refine a_iconst (v := 3) d_Mod_sharp_1 (by decide) ?_
  refine a_iload_n d_Mod_sharp_2 rfl ?_
  refine a_iconst (v := 1) d_Mod_sharp_3 (by decide) ?_
  refine a_bipush (v := 32) d_Mod_sharp_4 (by decide) ?_
  refine a_cv0 (a := 32) d_Mod_sharp_6 m_Mod_tells t_Mod_tells l_Mod_129 g32 rfl rfl M rfl rfl ⟨Nat.le_of_ble_eq_true rfl, Nat.le_of_ble_eq_true rfl⟩ (Nat.le_of_ble_eq_true rfl)  ?_
  exact a_iret d_Mod_sharp_9 rfl rfl rfl rfl
end
