/-! THE CLASS'S FACE, what is asked: printed by wip/whole/t26.py -/
abbrev oDot (lf : Int32) : AC := .inr (10, [.ref 9, .ref 11, .ref 12, .ref 13, .ref 14, .ref 15, .ref 19, .ref 24, .ref 27, .ref 31, .int lf])
theorem tuC_of {ws vs : Nat → Int32} {s s2 P : Nat} (hP : 0 < P) (h : ∀ k, k < P → ws (s + k) = vs (s2 + k)) : tuC ws s P P = tuC vs s2 P P := by
  have : ∀ m, tuC ws s P m = tuC vs s2 P m := by
    intro m
    induction m with
    | zero => rfl
    | succ m ih =>
      show (if _ then _ else _) = (if _ then _ else _)
      rw [h _ (Nat.mod_lt _ hP), h _ (Nat.mod_lt _ hP), ih]
  exact this P
def swI (x : Int32) (hi : Nat) : Option Nat := if x.toInt < 0 ∨ (hi : Int) < x.toInt then none else some x.toInt.toNat
theorem swI_out {x : Int32} {hi : Nat} (c : x.toInt < 0 ∨ (hi : Int) < x.toInt) : swI x hi = none := if_pos c
theorem swI_in (q hi : Nat) (h : q ≤ hi) (h2 : hi < 100) : swI (nI q) hi = some q := by
  have e : (nI q).toInt = q := nI_toInt (by omega)
  unfold swI
  rw [e, if_neg (by omega)]
  rfl
theorem nn_nI {x : Int32} (h : ¬ x < 0) : ∃ K : Nat, K < 2 ^ 31 ∧ x = nI K := by
  have e0 : (0 : Int32).toInt = 0 := by decide
  have h1 : 0 ≤ x.toInt := by
    rcases Int.lt_or_le x.toInt 0 with q | q
    · exact absurd (Int32.lt_iff_toInt_lt.mpr (by rw [e0]; exact q)) h
    · exact q
  have h2 := Int32.toInt_lt x
  refine ⟨x.toInt.toNat, by omega, ?_⟩
  apply Int32.toInt_inj.mp
  rw [nI_toInt (by omega)]
  omega
theorem in_nI {x : Int32} {P : Nat} (hP : P < 2 ^ 31) (h : ¬ x < 0) (h2 : ¬ nI P ≤ x) : ∃ K : Nat, K < P ∧ x = nI K := by
  obtain ⟨K, hK, e⟩ := nn_nI h
  subst e
  rw [nI_leI (by omega) (by omega)] at h2
  exact ⟨K, by omega, rfl⟩
theorem fIn2_ok {k : Int32} {P : Nat} (hP : P < 2 ^ 31) (h : ¬ fIn2 k (nI P) = 0) : ∃ K : Nat, K < P ∧ k = nI K := by
  unfold fIn2 at h
  by_cases c1 : k < 0
  · rw [if_pos c1] at h; exact absurd rfl h
  · rw [if_neg c1] at h
    by_cases c2 : nI P ≤ k
    · rw [if_pos c2] at h; exact absurd rfl h
    · exact in_nI hP c1 c2
theorem fStr_ok {i s : Int32} {P : Nat} (hP : P < 2 ^ 31) (h : ¬ fStr (nI P) i s = 0) : ∃ I S : Nat, I < P ∧ 1 ≤ S ∧ S < P ∧ i = nI I ∧ s = nI S := by
  unfold fStr at h
  by_cases c1 : fIn2 i (nI P) = 0
  · rw [if_pos c1] at h; exact absurd rfl h
  · rw [if_neg c1] at h
    obtain ⟨I, hI, eI⟩ := fIn2_ok hP c1
    by_cases c2 : s < 1
    · rw [if_pos c2] at h; exact absurd rfl h
    · rw [if_neg c2] at h
      by_cases c3 : nI P ≤ s
      · rw [if_pos c3] at h; exact absurd rfl h
      · have c4 : ¬ s < 0 := fun q => c2 (by
          have := Int32.lt_iff_toInt_lt.mp q
          apply Int32.lt_iff_toInt_lt.mpr
          have e1 : (1 : Int32).toInt = 1 := by decide
          have e0 : (0 : Int32).toInt = 0 := by decide
          omega)
        obtain ⟨S, hS, eS⟩ := in_nI hP c4 c3
        refine ⟨I, S, hI, ?_, hS, eI, eS⟩
        rcases Nat.eq_zero_or_pos S with q | q
        · rw [eS, q] at c2; exact absurd (by decide) c2
        · exact q
theorem fHas_ok {W H : Nat} {x y : Int32} (hW : W < 2 ^ 31) (hH : H < 2 ^ 31) (h : ¬ fHas (nI W) (nI H) x y = 0) : ∃ X Y : Nat, X < W ∧ Y < H ∧ x = nI X ∧ y = nI Y := by
  unfold fHas at h
  by_cases c1 : x < 0
  · rw [if_pos c1] at h; exact absurd rfl h
  · rw [if_neg c1] at h
    by_cases c2 : nI W ≤ x
    · rw [if_pos c2] at h; exact absurd rfl h
    · rw [if_neg c2] at h
      by_cases c3 : y < 0
      · rw [if_pos c3] at h; exact absurd rfl h
      · rw [if_neg c3] at h
        by_cases c4 : nI H ≤ y
        · rw [if_pos c4] at h; exact absurd rfl h
        · obtain ⟨X, a1, a2⟩ := in_nI hW c1 c2
          obtain ⟨Y, b1, b2⟩ := in_nI hH c3 c4
          exact ⟨X, Y, a1, b1, a2, b2⟩
/-- the dot at which the border of that number begins, if there is one -/
def bq (W : Nat) (D : Int64) (j b : Int32) : Option Nat := if W = 0 then none else if b < 0 then none else if nI (sB (decide (j = 1)) D 64) ≤ b then none else some (tOf (decide (j = 1)) D b.toNatClampNeg)
section
variable {V : VV} {h : AH} {n z : Nat}
theorem s_there0 {W : Nat} {ph : Int32} {pd : Int64} {pj ps : Int32} {p : Nat} (gp : h p = oPic (nI W) ph pd pj ps) (hW : W = 0) : AMet V i_Pic_isThere 0 [.ref p] h n z (some (.int 0)) h n z := by
  have k := s_Pic_isThere (V := V) (n := n) (z := z) gp
  subst hW
  rw [if_pos (by decide)] at k
  exact k
theorem s_there1 {W : Nat} {ph : Int32} {pd : Int64} {pj ps : Int32} {p : Nat} (gp : h p = oPic (nI W) ph pd pj ps) (hW : 1 ≤ W) (hW8 : W ≤ 8) : AMet V i_Pic_isThere 0 [.ref p] h n z (some (.int 1)) h n z := by
  have k := s_Pic_isThere (V := V) (n := n) (z := z) gp
  rw [if_neg (show ¬ nI W ≤ 0 from nI_ge (a := 0) hW (by omega))] at k
  exact k

set_option maxRecDepth 20000 in
set_option maxHeartbeats 4000000 in
theorem s_Dot_bn0 {lf : Int32} {W H : Nat} {D : Int64} {j s : Int32} (g8 : h 8 = oDot lf) (g12 : h 12 = oPic (nI W) (nI H) D j s) (hW : W ≤ 8) (h0 : W = 0) (b : Int32) : AMet V i_Dot_borderNumber 4 [.ref 8, .int b] h n z (some .null) (h) n z := by
  refine AMet.intro (Nat.le_refl _) (Nat.le_refl _) (by decide) (Nat.le_of_ble_eq_true rfl) rfl ?_
  refine a_aload_n d_Dot_borderNumber_0 rfl ?_
  refine a_getf d_Dot_borderNumber_1 f_Dot_26 g8 rfl ?_
  refine a_cv0 (a := 12) d_Dot_borderNumber_4 m_Pic_isThere t_Pic_isThere l_Dot_154 g12 rfl rfl (s_there0 g12 h0) rfl rfl ⟨Nat.le_of_ble_eq_true rfl, Nat.le_of_ble_eq_true rfl⟩ (Nat.le_of_ble_eq_true rfl)  ?_
  refine a_if_ne 12 d_Dot_borderNumber_7 (by decide) (fun c7 => absurd c7 (fun q => q rfl)) (fun c7 => ?_)
  refine a_null d_Dot_borderNumber_10 ?_
  exact a_aret d_Dot_borderNumber_11 rfl (Or.inl rfl) rfl rfl rfl
set_option maxRecDepth 20000 in
set_option maxHeartbeats 4000000 in
theorem s_Dot_bn1 {lf : Int32} {W H : Nat} {D : Int64} {j s : Int32} (g8 : h 8 = oDot lf) (g12 : h 12 = oPic (nI W) (nI H) D j s) (hW : W ≤ 8) {z0 : Nat} (G : Gd (decide (j = 1)) D) (K : CK z0 h n z) (h0 : 1 ≤ W) (b : Int32) : ∃ h1 n1 z1, n ≤ n1 ∧ z ≤ z1 ∧ CF z0 D j h1 n1 z1 ∧ (∀ i, i < 53 → i < 19 ∨ 31 < i → h1 i = h i) ∧ ((bq W D j b = none ∧ AMet V i_Dot_borderNumber 4 [.ref 8, .int b] h n z (some .null) h1 n1 z1) ∨ (∃ t, bq W D j b = some t ∧ t < 64 ∧ isB (decide (j = 1)) D t = true ∧ AMet V i_Dot_borderNumber 4 [.ref 8, .int b] h n z (some (.ref (53 + sB (decide (j = 1)) D t))) h1 n1 z1)) := by
  obtain ⟨wk0, D0, jn0, S0, g19⟩ : ∃ a b c d, h 19 = oBrs a b c d := by
    obtain ⟨wkd, D, jn, S, xs, ys, ws, kn, kc, re, of, co, C, q⟩ := K
    exact ⟨_, _, _, _, C.1⟩
  obtain ⟨h1, n1, z1, q1, q2, M, F, far⟩ := s_follow (V := V) G K
  have k8 : h1 8 = oDot lf := by rw [far _ (by decide) (by decide) (by decide) (by decide) (by decide) (by decide)]; exact g8
  have hS64 := sB_le (decide (j = 1)) D 64
  refine ⟨h1, n1, z1, q1, q2, F, fun i h1 h2 => far i h1 (by omega) (by omega) (by omega) (by omega) (by omega), ?_⟩
  obtain ⟨xs, ys, ws, kn, kc, re, of, co, ⟨a1, a2, a3, a4, a5, a6, a7, a8, a9, a10, a11, a12, a13, a14⟩, hk, B⟩ := F
  have bqN : b < 0 ∨ nI (sB (decide (j = 1)) D 64) ≤ b → bq W D j b = none := fun q => by
    unfold bq
    rw [if_neg (by omega)]
    by_cases c : b < 0
    · rw [if_pos c]
    · rw [if_neg c, if_pos (q.resolve_left c)]
  by_cases hb : b < 0 ∨ nI (sB (decide (j = 1)) D 64) ≤ b
  · refine Or.inl ⟨bqN hb, ?_⟩
    refine AMet.intro q1 q2 (by decide) (Nat.le_of_ble_eq_true rfl) rfl ?_
    refine a_aload_n d_Dot_borderNumber_0 rfl ?_
    refine a_getf d_Dot_borderNumber_1 f_Dot_26 g8 rfl ?_
    refine a_cv0 (a := 12) d_Dot_borderNumber_4 m_Pic_isThere t_Pic_isThere l_Dot_154 g12 rfl rfl (s_there1 g12 h0 hW) rfl rfl ⟨Nat.le_of_ble_eq_true rfl, Nat.le_of_ble_eq_true rfl⟩ (Nat.le_of_ble_eq_true rfl)  ?_
    refine a_if_ne 12 d_Dot_borderNumber_7 (by decide) (fun c7 => ?_) (fun c7 => absurd c7 (by decide))
    refine a_aload_n d_Dot_borderNumber_12 rfl ?_
    refine a_getf d_Dot_borderNumber_13 f_Dot_56 g8 rfl ?_
    refine a_aload_n d_Dot_borderNumber_16 rfl ?_
    refine a_getf d_Dot_borderNumber_17 f_Dot_26 g8 rfl ?_
    refine a_getf d_Dot_borderNumber_20 f_Dot_110 g12 rfl ?_
    refine a_aload_n d_Dot_borderNumber_23 rfl ?_
    refine a_getf d_Dot_borderNumber_24 f_Dot_26 g8 rfl ?_
    refine a_getf d_Dot_borderNumber_27 f_Dot_111 g12 rfl ?_
    refine a_cv (a := 19) d_Dot_borderNumber_30 m_Brs_follow t_Brs_follow l_Dot_271 (show h 19 = _ from g19) rfl rfl M rfl rfl ⟨Nat.le_of_ble_eq_true rfl, Nat.le_of_ble_eq_true rfl⟩ (Nat.le_of_ble_eq_true rfl) (show n1 ≤ n + (n1 - n) by omega) (show z1 ≤ z + (z1 - z) by omega) ?_
    refine a_aload_n d_Dot_borderNumber_33 rfl ?_
    refine a_getf d_Dot_borderNumber_34 f_Dot_56 k8 rfl ?_
    refine a_iload_n d_Dot_borderNumber_37 rfl ?_
    refine a_cv0 (a := 19) d_Dot_borderNumber_38 m_Brs_at t_Brs_at l_Dot_275 a1 rfl rfl (s_Brs_atN a1 b hb) rfl rfl ⟨Nat.le_of_ble_eq_true rfl, Nat.le_of_ble_eq_true rfl⟩ (Nat.le_of_ble_eq_true rfl)  ?_
    exact a_aret d_Dot_borderNumber_41 rfl (Or.inl rfl) rfl rfl rfl
  · have c1 : ¬ b < 0 := fun q => hb (Or.inl q)
    have c2 : ¬ nI (sB (decide (j = 1)) D 64) ≤ b := fun q => hb (Or.inr q)
    obtain ⟨J, hJ, rfl⟩ := in_nI (show sB (decide (j = 1)) D 64 < 2 ^ 31 by omega) c1 c2
    obtain ⟨t1, t2, t3⟩ := tOf_ok hJ
    refine Or.inr ⟨tOf (decide (j = 1)) D J, ?_, t1, t2, ?_⟩
    · unfold bq
      rw [if_neg (by omega), if_neg c1, if_neg c2, nI_clamp (by omega)]
    · rw [t3]
      refine AMet.intro q1 q2 (by decide) (Nat.le_of_ble_eq_true rfl) rfl ?_
      refine a_aload_n d_Dot_borderNumber_0 rfl ?_
      refine a_getf d_Dot_borderNumber_1 f_Dot_26 g8 rfl ?_
      refine a_cv0 (a := 12) d_Dot_borderNumber_4 m_Pic_isThere t_Pic_isThere l_Dot_154 g12 rfl rfl (s_there1 g12 h0 hW) rfl rfl ⟨Nat.le_of_ble_eq_true rfl, Nat.le_of_ble_eq_true rfl⟩ (Nat.le_of_ble_eq_true rfl)  ?_
      refine a_if_ne 12 d_Dot_borderNumber_7 (by decide) (fun c7 => ?_) (fun c7 => absurd c7 (by decide))
      refine a_aload_n d_Dot_borderNumber_12 rfl ?_
      refine a_getf d_Dot_borderNumber_13 f_Dot_56 g8 rfl ?_
      refine a_aload_n d_Dot_borderNumber_16 rfl ?_
      refine a_getf d_Dot_borderNumber_17 f_Dot_26 g8 rfl ?_
      refine a_getf d_Dot_borderNumber_20 f_Dot_110 g12 rfl ?_
      refine a_aload_n d_Dot_borderNumber_23 rfl ?_
      refine a_getf d_Dot_borderNumber_24 f_Dot_26 g8 rfl ?_
      refine a_getf d_Dot_borderNumber_27 f_Dot_111 g12 rfl ?_
      refine a_cv (a := 19) d_Dot_borderNumber_30 m_Brs_follow t_Brs_follow l_Dot_271 (show h 19 = _ from g19) rfl rfl M rfl rfl ⟨Nat.le_of_ble_eq_true rfl, Nat.le_of_ble_eq_true rfl⟩ (Nat.le_of_ble_eq_true rfl) (show n1 ≤ n + (n1 - n) by omega) (show z1 ≤ z + (z1 - z) by omega) ?_
      refine a_aload_n d_Dot_borderNumber_33 rfl ?_
      refine a_getf d_Dot_borderNumber_34 f_Dot_56 k8 rfl ?_
      refine a_iload_n d_Dot_borderNumber_37 rfl ?_
      refine a_cv0 (a := 19) d_Dot_borderNumber_38 m_Brs_at t_Brs_at l_Dot_275 a1 rfl rfl (s_Brs_at a1 a5.1 hJ hS64 (a5.2.2.2.1 J (by omega)).1) rfl rfl ⟨Nat.le_of_ble_eq_true rfl, Nat.le_of_ble_eq_true rfl⟩ (Nat.le_of_ble_eq_true rfl)  ?_
      exact a_aret d_Dot_borderNumber_41 rfl (Or.inr ⟨_, rfl⟩) rfl rfl rfl
theorem s_Dot_bn {lf : Int32} {W H : Nat} {D : Int64} {j s : Int32} (g8 : h 8 = oDot lf) (g12 : h 12 = oPic (nI W) (nI H) D j s) (hW : W ≤ 8) {z0 : Nat} (G : Gd (decide (j = 1)) D) (K : CK z0 h n z) (b : Int32) : ∃ h1 n1 z1, n ≤ n1 ∧ z ≤ z1 ∧ CK z0 h1 n1 z1 ∧ (∀ i, i < 53 → i < 19 ∨ 31 < i → h1 i = h i) ∧ ((bq W D j b = none ∧ AMet V i_Dot_borderNumber 4 [.ref 8, .int b] h n z (some .null) h1 n1 z1) ∨ (∃ t, bq W D j b = some t ∧ t < 64 ∧ isB (decide (j = 1)) D t = true ∧ CF z0 D j h1 n1 z1 ∧ AMet V i_Dot_borderNumber 4 [.ref 8, .int b] h n z (some (.ref (53 + sB (decide (j = 1)) D t))) h1 n1 z1)) := by
  rcases Nat.eq_zero_or_pos W with h0 | h0
  · exact ⟨h, n, z, Nat.le_refl _, Nat.le_refl _, K, fun _ _ _ => rfl, Or.inl ⟨by unfold bq; rw [if_pos h0], s_Dot_bn0 g8 g12 hW h0 b⟩⟩
  · obtain ⟨h1, n1, z1, q1, q2, F, far, M⟩ := s_Dot_bn1 (V := V) g8 g12 hW G K h0 b
    refine ⟨h1, n1, z1, q1, q2, F.ck, far, ?_⟩
    rcases M with M | ⟨t, e, ht, hb, M⟩
    · exact Or.inl M
    · exact Or.inr ⟨t, e, ht, hb, F, M⟩
set_option maxRecDepth 20000 in
set_option maxHeartbeats 4000000 in
theorem s_Dot_bs {lf : Int32} {W H : Nat} {D : Int64} {j s : Int32} (g8 : h 8 = oDot lf) (g12 : h 12 = oPic (nI W) (nI H) D j s) (hW : W ≤ 8) {z0 : Nat} (G : Gd (decide (j = 1)) D) (K : CK z0 h n z) (b : Int32) : ∃ h1 n1 z1, n ≤ n1 ∧ z ≤ z1 ∧ CK z0 h1 n1 z1 ∧ (∀ i, i < 53 → i < 19 ∨ 31 < i → h1 i = h i) ∧ ((bq W D j b = none ∧ AMet V i_Dot_shapedBorder 5 [.ref 8, .int b] h n z (some .null) h1 n1 z1) ∨ (∃ t, bq W D j b = some t ∧ t < 64 ∧ isB (decide (j = 1)) D t = true ∧ CF z0 D j h1 n1 z1 ∧ (∃ me, h1 (53 + sB (decide (j = 1)) D t) = oBd (decide (j = 1)) D t me (nI (zN (decide (j = 1)) D t)) (nI (zO (decide (j = 1)) D t))) ∧ AMet V i_Dot_shapedBorder 5 [.ref 8, .int b] h n z (some (.ref (53 + sB (decide (j = 1)) D t))) h1 n1 z1)) := by
  obtain ⟨h1, n1, z1, q1, q2, K1, far, ⟨e, M⟩ | ⟨t, e, ht, hb, F, M⟩⟩ := s_Dot_bn (V := V) g8 g12 hW G K b
  · refine ⟨h1, n1, z1, q1, q2, K1, far, Or.inl ⟨e, ?_⟩⟩
    refine AMet.intro q1 q2 (by decide) (Nat.le_of_ble_eq_true rfl) rfl ?_
    refine a_aload_n d_Dot_shapedBorder_0 rfl ?_
    refine a_iload_n d_Dot_shapedBorder_1 rfl ?_
    refine a_cv (a := 8) d_Dot_shapedBorder_2 m_Dot_borderNumber t_Dot_borderNumber l_Dot_161 g8 rfl rfl M rfl rfl ⟨Nat.le_of_ble_eq_true rfl, Nat.le_of_ble_eq_true rfl⟩ (Nat.le_of_ble_eq_true rfl) (show n1 ≤ n + (n1 - n) by omega) (show z1 ≤ z + (z1 - z) by omega) ?_
    refine a_astore_nN d_Dot_shapedBorder_5 (Nat.le_of_ble_eq_true rfl) (Nat.le_of_ble_eq_true rfl) rfl ?_
    refine a_aload_nN d_Dot_shapedBorder_6 rfl ?_
    refine a_ifnullN 18 d_Dot_shapedBorder_7 (by decide) ?_
    refine a_aload_nN d_Dot_shapedBorder_18 rfl ?_
    exact a_aret d_Dot_shapedBorder_19 rfl (Or.inl rfl) rfl rfl rfl
  · obtain ⟨h2, M2, F2, g2, far2⟩ := s_seek (V := V) G ht hb F
    have k8 : h1 8 = oDot lf := by rw [far _ (by decide) (by decide)]; exact g8
    have k27 : h1 27 = oPol := by
      obtain ⟨xs, ys, ws, kn, kc, re, of, co, C, hk, B⟩ := F
      exact C.2.2.2.2.2.2.2.2.1
    refine ⟨h2, n1, z1, q1, q2, F2.ck, fun i h1 h2 => by rw [far2 i h1 (by omega) (by omega) (by omega) (by omega), far i h1 h2], Or.inr ⟨t, e, ht, hb, F2, g2, ?_⟩⟩
    refine AMet.intro q1 q2 (by decide) (Nat.le_of_ble_eq_true rfl) rfl ?_
    refine a_aload_n d_Dot_shapedBorder_0 rfl ?_
    refine a_iload_n d_Dot_shapedBorder_1 rfl ?_
    refine a_cv (a := 8) d_Dot_shapedBorder_2 m_Dot_borderNumber t_Dot_borderNumber l_Dot_161 g8 rfl rfl M rfl rfl ⟨Nat.le_of_ble_eq_true rfl, Nat.le_of_ble_eq_true rfl⟩ (Nat.le_of_ble_eq_true rfl) (show n1 ≤ n + (n1 - n) by omega) (show z1 ≤ z + (z1 - z) by omega) ?_
    refine a_astore_n d_Dot_shapedBorder_5 (Nat.le_of_ble_eq_true rfl) (Nat.le_of_ble_eq_true rfl) rfl ?_
    refine a_aload_n d_Dot_shapedBorder_6 rfl ?_
    refine a_ifnull d_Dot_shapedBorder_7 ?_
    refine a_aload_n d_Dot_shapedBorder_10 rfl ?_
    refine a_getf d_Dot_shapedBorder_11 f_Dot_64 k8 rfl ?_
    refine a_aload_n d_Dot_shapedBorder_14 rfl ?_
    refine a_cv0 (a := 27) d_Dot_shapedBorder_15 m_Pol_seek t_Pol_seek l_Dot_278 k27 rfl rfl M2 rfl rfl ⟨Nat.le_of_ble_eq_true rfl, Nat.le_of_ble_eq_true rfl⟩ (Nat.le_of_ble_eq_true rfl)  ?_
    refine a_aload_n d_Dot_shapedBorder_18 rfl ?_
    exact a_aret d_Dot_shapedBorder_19 rfl (Or.inr ⟨_, rfl⟩) rfl rfl rfl

def q_border (V : VV) (W H : Nat) (D : Int64) (j s : Int32) (b what : Int32) : Int32 := match bq W D j b with
  | none => -1000001
  | some t => match swI what 5 with
    | some 0 => nI (sP (decide (j = 1)) D t)
    | some 1 => if lb D t then 1 else 0
    | some 2 => fBC (wi (decide (j = 1)) (sR (decide (j = 1)) D t) t (sP (decide (j = 1)) D t))
    | some 3 => nI t &&& 7
    | some 4 => (nI t >>> ((3 : Int32) &&& 31)) &&& 7
    | some 5 => nI (tuC (fun k => wW (decide (j = 1)) (sR (decide (j = 1)) D t) t k) 0 (sP (decide (j = 1)) D t) (sP (decide (j = 1)) D t))
    | _ => -1000001
set_option maxRecDepth 20000 in
set_option maxHeartbeats 4000000 in
theorem s_Dot_border {lf : Int32} {W H : Nat} {D : Int64} {j s : Int32} (g8 : h 8 = oDot lf) (g12 : h 12 = oPic (nI W) (nI H) D j s) (hW : W ≤ 8) {z0 : Nat} (G : Gd (decide (j = 1)) D) (K : CK z0 h n z) (hH : H ≤ 8) (b what : Int32) : ∃ h1 n1 z1, n ≤ n1 ∧ z ≤ z1 ∧ CK z0 h1 n1 z1 ∧ (∀ i, i < 53 → i < 19 ∨ 31 < i → h1 i = h i) ∧ AMet V i_Dot_border 5 [.ref 8, .int b, .int what] h n z (some (.int (q_border V W H D j s b what))) h1 n1 z1 := by
  obtain ⟨h1, n1, z1, q1, q2, K1, far, ⟨e, M⟩ | ⟨t, e, ht, hb, F, M⟩⟩ := s_Dot_bn (V := V) g8 g12 hW G K b
  · refine ⟨h1, n1, z1, q1, q2, K1, far, ?_⟩
    refine AMet.intro q1 q2 (by decide) (Nat.le_of_ble_eq_true rfl) rfl ?_
    refine a_aload_n d_Dot_border_0 rfl ?_
    refine a_iload_n d_Dot_border_1 rfl ?_
    refine a_cv (a := 8) d_Dot_border_2 m_Dot_borderNumber t_Dot_borderNumber l_Dot_161 g8 rfl rfl M rfl rfl ⟨Nat.le_of_ble_eq_true rfl, Nat.le_of_ble_eq_true rfl⟩ (Nat.le_of_ble_eq_true rfl) (show n1 ≤ n + (n1 - n) by omega) (show z1 ≤ z + (z1 - z) by omega) ?_
    refine a_astore_nN d_Dot_border_5 (Nat.le_of_ble_eq_true rfl) (Nat.le_of_ble_eq_true rfl) rfl ?_
    refine a_aload_nN d_Dot_border_6 rfl ?_
    refine a_ifnonnullN d_Dot_border_7 ?_
    refine a_ldc d_Dot_border_10 k_Dot_77 ?_
    exact a_iret d_Dot_border_12 rfl (by unfold q_border; rw [e]; try rfl) rfl rfl
  · skip
    have K0 := F
    obtain ⟨xs, ys, ws, kn, kc, re, of, co, ⟨k19, k20, k21, k22, k23, k24, k25, k26, k27, ⟨c1, c2, c3, c4, c5, c6, k28⟩, k29, ⟨cs, k30⟩, k31, kz⟩, hk, B⟩ := F
    obtain ⟨hP, S, U⟩ := G.2 t ht hb
    have hs := (G.1 t ht hb).2
    have k8 : h1 8 = oDot lf := by rw [far _ (by decide) (by decide)]; exact g8
    have k12 : h1 12 = oPic (nI W) (nI H) D j s := by rw [far _ (by decide) (by decide)]; exact g12
    obtain ⟨b', hb'⟩ : ∃ b', b' = 53 + sB (decide (j = 1)) D t := ⟨_, rfl⟩
    rw [← hb'] at M
    have hb53 : 53 ≤ b' := by omega
    obtain ⟨me, ve, bo, gb, R, Q⟩ := B t ht hb
    rw [← hb'] at gb
    have etu : tuC ws (sS (decide (j = 1)) D t) (sP (decide (j = 1)) D t) (sP (decide (j = 1)) D t) = tuC (fun k => wW (decide (j = 1)) (sR (decide (j = 1)) D t) t k) 0 (sP (decide (j = 1)) D t) (sP (decide (j = 1)) D t) := tuC_of (by omega) (fun k hk => by rw [Nat.zero_add]; exact (R k hk).2.2)
    refine ⟨h1, n1, z1, q1, q2, K0.ck, far, ?_⟩
    refine AMet.intro q1 q2 (by decide) (Nat.le_of_ble_eq_true rfl) rfl ?_
    refine a_aload_n d_Dot_border_0 rfl ?_
    refine a_iload_n d_Dot_border_1 rfl ?_
    refine a_cv (a := 8) d_Dot_border_2 m_Dot_borderNumber t_Dot_borderNumber l_Dot_161 g8 rfl rfl M rfl rfl ⟨Nat.le_of_ble_eq_true rfl, Nat.le_of_ble_eq_true rfl⟩ (Nat.le_of_ble_eq_true rfl) (show n1 ≤ n + (n1 - n) by omega) (show z1 ≤ z + (z1 - z) by omega) ?_
    refine a_astore_n d_Dot_border_5 (Nat.le_of_ble_eq_true rfl) (Nat.le_of_ble_eq_true rfl) rfl ?_
    refine a_aload_n d_Dot_border_6 rfl ?_
    refine a_ifnonnull 13 d_Dot_border_7 (by decide) ?_
    refine a_iload_n d_Dot_border_13 rfl ?_
    rcases sw_cases what 5 (by decide) with c14 | c14
    · skip
      refine a_tabOut 115 d_Dot_border_14 c14 (by decide) ?_
      refine a_ldc d_Dot_border_115 k_Dot_77 ?_
      exact a_iret d_Dot_border_117 rfl (by unfold q_border; rw [e]; dsimp only; rw [swI_out c14]; try rfl) rfl rfl
    · skip
      rcases c14 with ⟨j, hj, c14⟩
      rcases (show j = 0 ∨ j = 1 ∨ j = 2 ∨ j = 3 ∨ j = 4 ∨ j = 5 by omega) with rfl | rfl | rfl | rfl | rfl | rfl
      · skip
        refine a_tabIn (off := 38) 52 d_Dot_border_14 (by rw [c14]; decide) (by rw [c14]; decide) (by rw [c14]; rfl) (by decide) ?_
        refine a_aload_n d_Dot_border_52 rfl ?_
        refine a_getf d_Dot_border_53 f_Dot_165 gb rfl ?_
        exact a_iret d_Dot_border_56 rfl (by unfold q_border; rw [e]; dsimp only; rw [c14, swI_in 0 5 (by decide) (by decide)]; try rfl) rfl rfl
      · skip
        refine a_tabIn (off := 43) 57 d_Dot_border_14 (by rw [c14]; decide) (by rw [c14]; decide) (by rw [c14]; rfl) (by decide) ?_
        refine a_aload_n d_Dot_border_57 rfl ?_
        refine a_getf d_Dot_border_58 f_Dot_26 k8 rfl ?_
        refine a_getf d_Dot_border_61 f_Dot_110 k12 rfl ?_
        refine a_aload_n d_Dot_border_64 rfl ?_
        refine a_getf d_Dot_border_65 f_Dot_168 gb rfl ?_
        refine a_lushr d_Dot_border_68 ?_
        refine a_lconst (v := 1) d_Dot_border_69 rfl ?_
        refine a_land d_Dot_border_70 ?_
        refine a_lconst (v := 1) d_Dot_border_71 rfl ?_
        refine a_lcmp d_Dot_border_72 ?_
        rw [lb_pickU t ht]
        refine a_if_ne 80 d_Dot_border_73 (by decide) (fun c73 => ?_) (fun c73 => ?_)
        · skip
          refine a_iconst (v := 0) d_Dot_border_80 (by decide) ?_
          exact a_iret d_Dot_border_81 rfl (by unfold q_border; rw [e]; dsimp only; rw [c14, swI_in 1 5 (by decide) (by decide)]; show some (Value.int (if lb D t then 1 else 0)) = _; rw [cmp0] at c73; cases q : lb D t <;> simp [q] at c73 ⊢) rfl rfl
        · skip
          refine a_iconst (v := 1) d_Dot_border_76 (by decide) ?_
          refine a_goto 81 d_Dot_border_77 (by decide) ?_
          exact a_iret d_Dot_border_81 rfl (by unfold q_border; rw [e]; dsimp only; rw [c14, swI_in 1 5 (by decide) (by decide)]; show some (Value.int (if lb D t then 1 else 0)) = _; rw [cmp0] at c73; cases q : lb D t <;> simp [q] at c73 ⊢) rfl rfl
      · skip
        refine a_tabIn (off := 68) 82 d_Dot_border_14 (by rw [c14]; decide) (by rw [c14]; decide) (by rw [c14]; rfl) (by decide) ?_
        refine a_aload_n d_Dot_border_82 rfl ?_
        refine a_getf d_Dot_border_83 f_Dot_171 gb rfl ?_
        refine a_cs0 d_Dot_border_86 m_Lng_bitCount t_Lng_bitCount l_Dot_174 (s_Lng_bitCount _) rfl rfl ⟨Nat.le_of_ble_eq_true rfl, Nat.le_of_ble_eq_true rfl⟩ (Nat.le_of_ble_eq_true rfl)  ?_
        exact a_iret d_Dot_border_89 rfl (by unfold q_border; rw [e]; dsimp only; rw [c14, swI_in 2 5 (by decide) (by decide)]; try rfl) rfl rfl
      · skip
        refine a_tabIn (off := 76) 90 d_Dot_border_14 (by rw [c14]; decide) (by rw [c14]; decide) (by rw [c14]; rfl) (by decide) ?_
        refine a_aload_n d_Dot_border_90 rfl ?_
        refine a_getf d_Dot_border_91 f_Dot_168 gb rfl ?_
        refine a_cs0 d_Dot_border_94 m_Grid_columnOf t_Grid_columnOf l_Dot_180 (s_Grid_columnOf _) rfl rfl ⟨Nat.le_of_ble_eq_true rfl, Nat.le_of_ble_eq_true rfl⟩ (Nat.le_of_ble_eq_true rfl)  ?_
        exact a_iret d_Dot_border_97 rfl (by unfold q_border; rw [e]; dsimp only; rw [c14, swI_in 3 5 (by decide) (by decide)]; try rfl) rfl rfl
      · skip
        refine a_tabIn (off := 84) 98 d_Dot_border_14 (by rw [c14]; decide) (by rw [c14]; decide) (by rw [c14]; rfl) (by decide) ?_
        refine a_aload_n d_Dot_border_98 rfl ?_
        refine a_getf d_Dot_border_99 f_Dot_168 gb rfl ?_
        refine a_cs0 d_Dot_border_102 m_Grid_rowOf t_Grid_rowOf l_Dot_184 (s_Grid_rowOf _) rfl rfl ⟨Nat.le_of_ble_eq_true rfl, Nat.le_of_ble_eq_true rfl⟩ (Nat.le_of_ble_eq_true rfl)  ?_
        exact a_iret d_Dot_border_105 rfl (by unfold q_border; rw [e]; dsimp only; rw [c14, swI_in 4 5 (by decide) (by decide)]; try rfl) rfl rfl
      · skip
        refine a_tabIn (off := 92) 106 d_Dot_border_14 (by rw [c14]; decide) (by rw [c14]; decide) (by rw [c14]; rfl) (by decide) ?_
        refine a_aload_n d_Dot_border_106 rfl ?_
        refine a_getf d_Dot_border_107 f_Dot_56 k8 rfl ?_
        refine a_aload_n d_Dot_border_110 rfl ?_
        refine a_cv0 (a := 19) d_Dot_border_111 m_Brs_turningSteps t_Brs_turningSteps l_Dot_187 k19 rfl rfl (s_Brs_turningSteps k22 k19 gb (by omega) hs) rfl rfl ⟨Nat.le_of_ble_eq_true rfl, Nat.le_of_ble_eq_true rfl⟩ (Nat.le_of_ble_eq_true rfl)  ?_
        rw [etu]
        exact a_iret d_Dot_border_114 rfl (by unfold q_border; rw [e]; dsimp only; rw [c14, swI_in 5 5 (by decide) (by decide)]; try rfl) rfl rfl
def q_corner (V : VV) (W H : Nat) (D : Int64) (j s : Int32) (b k what : Int32) : Int32 := match bq W D j b with
  | none => -1000001
  | some t => if 0 ≤ k then (match swI what 2 with
    | some 0 => iI ((bX (decide (j = 1)) D t) (k.toNatClampNeg % (sP (decide (j = 1)) D t)))
    | some 1 => iI ((bY (decide (j = 1)) D t) (k.toNatClampNeg % (sP (decide (j = 1)) D t)))
    | some 2 => wW (decide (j = 1)) (sR (decide (j = 1)) D t) t (k.toNatClampNeg % (sP (decide (j = 1)) D t))
    | _ => -1000001) else -1000001
set_option maxRecDepth 20000 in
set_option maxHeartbeats 4000000 in
theorem s_Dot_corner {lf : Int32} {W H : Nat} {D : Int64} {j s : Int32} (g8 : h 8 = oDot lf) (g12 : h 12 = oPic (nI W) (nI H) D j s) (hW : W ≤ 8) {z0 : Nat} (G : Gd (decide (j = 1)) D) (K : CK z0 h n z) (hH : H ≤ 8) (b k what : Int32) : ∃ h1 n1 z1, n ≤ n1 ∧ z ≤ z1 ∧ CK z0 h1 n1 z1 ∧ (∀ i, i < 53 → i < 19 ∨ 31 < i → h1 i = h i) ∧ AMet V i_Dot_corner 5 [.ref 8, .int b, .int k, .int what] h n z (some (.int (q_corner V W H D j s b k what))) h1 n1 z1 := by
  obtain ⟨h1, n1, z1, q1, q2, K1, far, ⟨e, M⟩ | ⟨t, e, ht, hb, F, M⟩⟩ := s_Dot_bn (V := V) g8 g12 hW G K b
  · refine ⟨h1, n1, z1, q1, q2, K1, far, ?_⟩
    refine AMet.intro q1 q2 (by decide) (Nat.le_of_ble_eq_true rfl) rfl ?_
    refine a_aload_n d_Dot_corner_0 rfl ?_
    refine a_iload_n d_Dot_corner_1 rfl ?_
    refine a_cv (a := 8) d_Dot_corner_2 m_Dot_borderNumber t_Dot_borderNumber l_Dot_161 g8 rfl rfl M rfl rfl ⟨Nat.le_of_ble_eq_true rfl, Nat.le_of_ble_eq_true rfl⟩ (Nat.le_of_ble_eq_true rfl) (show n1 ≤ n + (n1 - n) by omega) (show z1 ≤ z + (z1 - z) by omega) ?_
    refine a_astoreN d_Dot_corner_5 (Nat.le_of_ble_eq_true rfl) (Nat.le_of_ble_eq_true rfl) rfl ?_
    refine a_aloadN d_Dot_corner_7 rfl ?_
    refine a_ifnullN 16 d_Dot_corner_9 (by decide) ?_
    refine a_ldc d_Dot_corner_16 k_Dot_77 ?_
    exact a_iret d_Dot_corner_18 rfl (by unfold q_corner; rw [e]; try rfl) rfl rfl
  · skip
    have K0 := F
    obtain ⟨xs, ys, ws, kn, kc, re, of, co, ⟨k19, k20, k21, k22, k23, k24, k25, k26, k27, ⟨c1, c2, c3, c4, c5, c6, k28⟩, k29, ⟨cs, k30⟩, k31, kz⟩, hk, B⟩ := F
    obtain ⟨hP, S, U⟩ := G.2 t ht hb
    have hs := (G.1 t ht hb).2
    have k8 : h1 8 = oDot lf := by rw [far _ (by decide) (by decide)]; exact g8
    have k12 : h1 12 = oPic (nI W) (nI H) D j s := by rw [far _ (by decide) (by decide)]; exact g12
    obtain ⟨b', hb'⟩ : ∃ b', b' = 53 + sB (decide (j = 1)) D t := ⟨_, rfl⟩
    rw [← hb'] at M
    have hb53 : 53 ≤ b' := by omega
    obtain ⟨me, ve, bo, gb, R, Q⟩ := B t ht hb
    rw [← hb'] at gb
    refine ⟨h1, n1, z1, q1, q2, K0.ck, far, ?_⟩
    refine AMet.intro q1 q2 (by decide) (Nat.le_of_ble_eq_true rfl) rfl ?_
    refine a_aload_n d_Dot_corner_0 rfl ?_
    refine a_iload_n d_Dot_corner_1 rfl ?_
    refine a_cv (a := 8) d_Dot_corner_2 m_Dot_borderNumber t_Dot_borderNumber l_Dot_161 g8 rfl rfl M rfl rfl ⟨Nat.le_of_ble_eq_true rfl, Nat.le_of_ble_eq_true rfl⟩ (Nat.le_of_ble_eq_true rfl) (show n1 ≤ n + (n1 - n) by omega) (show z1 ≤ z + (z1 - z) by omega) ?_
    refine a_astore d_Dot_corner_5 (Nat.le_of_ble_eq_true rfl) (Nat.le_of_ble_eq_true rfl) rfl ?_
    refine a_aload d_Dot_corner_7 rfl ?_
    refine a_ifnull d_Dot_corner_9 ?_
    refine a_iload_n d_Dot_corner_12 rfl ?_
    refine a_if_ge 19 d_Dot_corner_13 (by decide) (fun c13 => ?_) (fun c13 => ?_)
    · skip
      refine a_iload_n d_Dot_corner_19 rfl ?_
      rcases sw_cases what 2 (by decide) with c20 | c20
      · skip
        refine a_tabOut 81 d_Dot_corner_20 c20 (by decide) ?_
        refine a_ldc d_Dot_corner_81 k_Dot_77 ?_
        exact a_iret d_Dot_corner_83 rfl (by unfold q_corner; rw [e]; dsimp only; rw [if_pos c13, swI_out c20]; try rfl) rfl rfl
      · skip
        rcases c20 with ⟨j, hj, c20⟩
        rcases (show j = 0 ∨ j = 1 ∨ j = 2 by omega) with rfl | rfl | rfl
        · skip
          refine a_tabIn (off := 28) 48 d_Dot_corner_20 (by rw [c20]; decide) (by rw [c20]; decide) (by rw [c20]; rfl) (by decide) ?_
          refine a_aload_n d_Dot_corner_48 rfl ?_
          refine a_getf d_Dot_corner_49 f_Dot_56 k8 rfl ?_
          refine a_aload d_Dot_corner_52 rfl ?_
          refine a_iload_n d_Dot_corner_54 rfl ?_
          obtain ⟨K, hK, rfl⟩ := nn_nI (fun q => absurd c13 (Int32.not_le.mpr q))
          refine a_cv0 (a := 19) d_Dot_corner_55 m_Brs_xAt t_Brs_xAt l_Dot_191 k19 rfl rfl (s_xA k19 k20 gb (by omega) hs (rowsB_Row R) K hK) rfl rfl ⟨Nat.le_of_ble_eq_true rfl, Nat.le_of_ble_eq_true rfl⟩ (Nat.le_of_ble_eq_true rfl)  ?_
          exact a_iret d_Dot_corner_58 rfl (by unfold q_corner; rw [e]; dsimp only; rw [if_pos c13, c20, swI_in 0 2 (by decide) (by decide)]; rw [nI_clamp hK]; try rfl) rfl rfl
        · skip
          refine a_tabIn (off := 39) 59 d_Dot_corner_20 (by rw [c20]; decide) (by rw [c20]; decide) (by rw [c20]; rfl) (by decide) ?_
          refine a_aload_n d_Dot_corner_59 rfl ?_
          refine a_getf d_Dot_corner_60 f_Dot_56 k8 rfl ?_
          refine a_aload d_Dot_corner_63 rfl ?_
          refine a_iload_n d_Dot_corner_65 rfl ?_
          obtain ⟨K, hK, rfl⟩ := nn_nI (fun q => absurd c13 (Int32.not_le.mpr q))
          refine a_cv0 (a := 19) d_Dot_corner_66 m_Brs_yAt t_Brs_yAt l_Dot_195 k19 rfl rfl (s_yA k19 k21 gb (by omega) hs (rowsB_Row R) K hK) rfl rfl ⟨Nat.le_of_ble_eq_true rfl, Nat.le_of_ble_eq_true rfl⟩ (Nat.le_of_ble_eq_true rfl)  ?_
          exact a_iret d_Dot_corner_69 rfl (by unfold q_corner; rw [e]; dsimp only; rw [if_pos c13, c20, swI_in 1 2 (by decide) (by decide)]; rw [nI_clamp hK]; try rfl) rfl rfl
        · skip
          refine a_tabIn (off := 50) 70 d_Dot_corner_20 (by rw [c20]; decide) (by rw [c20]; decide) (by rw [c20]; rfl) (by decide) ?_
          refine a_aload_n d_Dot_corner_70 rfl ?_
          refine a_getf d_Dot_corner_71 f_Dot_56 k8 rfl ?_
          refine a_aload d_Dot_corner_74 rfl ?_
          refine a_iload_n d_Dot_corner_76 rfl ?_
          obtain ⟨K, hK, rfl⟩ := nn_nI (fun q => absurd c13 (Int32.not_le.mpr q))
          refine a_cv0 (a := 19) d_Dot_corner_77 m_Brs_wayAt t_Brs_wayAt l_Dot_198 k19 rfl rfl (s_Brs_wayAt k22 k19 gb (by omega) hs hK) rfl rfl ⟨Nat.le_of_ble_eq_true rfl, Nat.le_of_ble_eq_true rfl⟩ (Nat.le_of_ble_eq_true rfl)  ?_
          exact a_iret d_Dot_corner_80 rfl (by unfold q_corner; rw [e]; dsimp only; rw [if_pos c13, c20, swI_in 2 2 (by decide) (by decide)]; rw [nI_clamp hK, (R _ (Nat.mod_lt _ (by omega))).2.2]; try rfl) rfl rfl
    · skip
      refine a_ldc d_Dot_corner_16 k_Dot_77 ?_
      exact a_iret d_Dot_corner_18 rfl (by unfold q_corner; rw [e]; dsimp only; rw [if_neg c13]; try rfl) rfl rfl
def q_inside (V : VV) (W H : Nat) (D : Int64) (j s : Int32) (b x y : Int32) : Int32 := match bq W D j b with
  | none => -1000001
  | some t => if fHas (nI W) (nI H) x y = 0 then -1000001 else if wi (decide (j = 1)) (sR (decide (j = 1)) D t) t (sP (decide (j = 1)) D t) &&& gBit x y = 0 then 0 else 1
set_option maxRecDepth 20000 in
set_option maxHeartbeats 4000000 in
theorem s_Dot_inside {lf : Int32} {W H : Nat} {D : Int64} {j s : Int32} (g8 : h 8 = oDot lf) (g12 : h 12 = oPic (nI W) (nI H) D j s) (hW : W ≤ 8) {z0 : Nat} (G : Gd (decide (j = 1)) D) (K : CK z0 h n z) (hH : H ≤ 8) (b x y : Int32) : ∃ h1 n1 z1, n ≤ n1 ∧ z ≤ z1 ∧ CK z0 h1 n1 z1 ∧ (∀ i, i < 53 → i < 19 ∨ 31 < i → h1 i = h i) ∧ AMet V i_Dot_inside 5 [.ref 8, .int b, .int x, .int y] h n z (some (.int (q_inside V W H D j s b x y))) h1 n1 z1 := by
  obtain ⟨h1, n1, z1, q1, q2, K1, far, ⟨e, M⟩ | ⟨t, e, ht, hb, F, M⟩⟩ := s_Dot_bn (V := V) g8 g12 hW G K b
  · refine ⟨h1, n1, z1, q1, q2, K1, far, ?_⟩
    refine AMet.intro q1 q2 (by decide) (Nat.le_of_ble_eq_true rfl) rfl ?_
    refine a_aload_n d_Dot_inside_0 rfl ?_
    refine a_iload_n d_Dot_inside_1 rfl ?_
    refine a_cv (a := 8) d_Dot_inside_2 m_Dot_borderNumber t_Dot_borderNumber l_Dot_161 g8 rfl rfl M rfl rfl ⟨Nat.le_of_ble_eq_true rfl, Nat.le_of_ble_eq_true rfl⟩ (Nat.le_of_ble_eq_true rfl) (show n1 ≤ n + (n1 - n) by omega) (show z1 ≤ z + (z1 - z) by omega) ?_
    refine a_astoreN d_Dot_inside_5 (Nat.le_of_ble_eq_true rfl) (Nat.le_of_ble_eq_true rfl) rfl ?_
    refine a_aloadN d_Dot_inside_7 rfl ?_
    refine a_ifnullN 24 d_Dot_inside_9 (by decide) ?_
    refine a_ldc d_Dot_inside_24 k_Dot_77 ?_
    exact a_iret d_Dot_inside_26 rfl (by unfold q_inside; rw [e]; try rfl) rfl rfl
  · skip
    have K0 := F
    obtain ⟨xs, ys, ws, kn, kc, re, of, co, ⟨k19, k20, k21, k22, k23, k24, k25, k26, k27, ⟨c1, c2, c3, c4, c5, c6, k28⟩, k29, ⟨cs, k30⟩, k31, kz⟩, hk, B⟩ := F
    obtain ⟨hP, S, U⟩ := G.2 t ht hb
    have hs := (G.1 t ht hb).2
    have k8 : h1 8 = oDot lf := by rw [far _ (by decide) (by decide)]; exact g8
    have k12 : h1 12 = oPic (nI W) (nI H) D j s := by rw [far _ (by decide) (by decide)]; exact g12
    obtain ⟨b', hb'⟩ : ∃ b', b' = 53 + sB (decide (j = 1)) D t := ⟨_, rfl⟩
    rw [← hb'] at M
    have hb53 : 53 ≤ b' := by omega
    obtain ⟨me, ve, bo, gb, R, Q⟩ := B t ht hb
    rw [← hb'] at gb
    refine ⟨h1, n1, z1, q1, q2, K0.ck, far, ?_⟩
    refine AMet.intro q1 q2 (by decide) (Nat.le_of_ble_eq_true rfl) rfl ?_
    refine a_aload_n d_Dot_inside_0 rfl ?_
    refine a_iload_n d_Dot_inside_1 rfl ?_
    refine a_cv (a := 8) d_Dot_inside_2 m_Dot_borderNumber t_Dot_borderNumber l_Dot_161 g8 rfl rfl M rfl rfl ⟨Nat.le_of_ble_eq_true rfl, Nat.le_of_ble_eq_true rfl⟩ (Nat.le_of_ble_eq_true rfl) (show n1 ≤ n + (n1 - n) by omega) (show z1 ≤ z + (z1 - z) by omega) ?_
    refine a_astore d_Dot_inside_5 (Nat.le_of_ble_eq_true rfl) (Nat.le_of_ble_eq_true rfl) rfl ?_
    refine a_aload d_Dot_inside_7 rfl ?_
    refine a_ifnull d_Dot_inside_9 ?_
    refine a_aload_n d_Dot_inside_12 rfl ?_
    refine a_getf d_Dot_inside_13 f_Dot_26 k8 rfl ?_
    refine a_iload_n d_Dot_inside_16 rfl ?_
    refine a_iload_n d_Dot_inside_17 rfl ?_
    refine a_cv0 (a := 12) d_Dot_inside_18 m_Pic_has t_Pic_has l_Dot_129 k12 rfl rfl (s_Pic_has k12 x y) rfl rfl ⟨Nat.le_of_ble_eq_true rfl, Nat.le_of_ble_eq_true rfl⟩ (Nat.le_of_ble_eq_true rfl)  ?_
    refine a_if_ne 27 d_Dot_inside_21 (by decide) (fun c21 => ?_) (fun c21 => ?_)
    · skip
      refine a_aload d_Dot_inside_27 rfl ?_
      refine a_getf d_Dot_inside_29 f_Dot_171 gb rfl ?_
      refine a_iload_n d_Dot_inside_32 rfl ?_
      refine a_iload_n d_Dot_inside_33 rfl ?_
      refine a_cs0 d_Dot_inside_34 m_Grid_bit t_Grid_bit l_Dot_137 (s_Grid_bit x y) rfl rfl ⟨Nat.le_of_ble_eq_true rfl, Nat.le_of_ble_eq_true rfl⟩ (Nat.le_of_ble_eq_true rfl)  ?_
      refine a_land d_Dot_inside_37 ?_
      refine a_lconst (v := 0) d_Dot_inside_38 rfl ?_
      refine a_lcmp d_Dot_inside_39 ?_
      refine a_if_eq 47 d_Dot_inside_40 (by decide) (fun c40 => ?_) (fun c40 => ?_)
      · skip
        refine a_iconst (v := 0) d_Dot_inside_47 (by decide) ?_
        exact a_iret d_Dot_inside_48 rfl (by unfold q_inside; rw [e]; dsimp only; rw [if_neg c21]; rw [cmp0] at c40; first | rw [if_pos c40] | rw [if_neg c40]) rfl rfl
      · skip
        refine a_iconst (v := 1) d_Dot_inside_43 (by decide) ?_
        refine a_goto 48 d_Dot_inside_44 (by decide) ?_
        exact a_iret d_Dot_inside_48 rfl (by unfold q_inside; rw [e]; dsimp only; rw [if_neg c21]; rw [cmp0] at c40; first | rw [if_pos c40] | rw [if_neg c40]) rfl rfl
    · skip
      refine a_ldc d_Dot_inside_24 k_Dot_77 ?_
      exact a_iret d_Dot_inside_26 rfl (by unfold q_inside; rw [e]; dsimp only; rw [if_pos c21]; try rfl) rfl rfl
def q_straight (V : VV) (W H : Nat) (D : Int64) (j s : Int32) (b i st : Int32) : Int32 := match bq W D j b with
  | none => -1000001
  | some t => if fStr (nI (sP (decide (j = 1)) D t)) i st = 0 then -1000001 else if oI (off (bX (decide (j = 1)) D t) (bY (decide (j = 1)) D t) (sP (decide (j = 1)) D t) i.toNatClampNeg st.toNatClampNeg) = -1 then 0 else 1
set_option maxRecDepth 20000 in
set_option maxHeartbeats 4000000 in
theorem s_Dot_straight {lf : Int32} {W H : Nat} {D : Int64} {j s : Int32} (g8 : h 8 = oDot lf) (g12 : h 12 = oPic (nI W) (nI H) D j s) (hW : W ≤ 8) {z0 : Nat} (G : Gd (decide (j = 1)) D) (K : CK z0 h n z) (hH : H ≤ 8) (b i st : Int32) : ∃ h1 n1 z1, n ≤ n1 ∧ z ≤ z1 ∧ CK z0 h1 n1 z1 ∧ (∀ i, i < 53 → i < 19 ∨ 31 < i → h1 i = h i) ∧ AMet V i_Dot_straight 5 [.ref 8, .int b, .int i, .int st] h n z (some (.int (q_straight V W H D j s b i st))) h1 n1 z1 := by
  obtain ⟨h1, n1, z1, q1, q2, K1, far, ⟨e, M⟩ | ⟨t, e, ht, hb, F, M⟩⟩ := s_Dot_bn (V := V) g8 g12 hW G K b
  · refine ⟨h1, n1, z1, q1, q2, K1, far, ?_⟩
    refine AMet.intro q1 q2 (by decide) (Nat.le_of_ble_eq_true rfl) rfl ?_
    refine a_aload_n d_Dot_straight_0 rfl ?_
    refine a_iload_n d_Dot_straight_1 rfl ?_
    refine a_cv (a := 8) d_Dot_straight_2 m_Dot_borderNumber t_Dot_borderNumber l_Dot_161 g8 rfl rfl M rfl rfl ⟨Nat.le_of_ble_eq_true rfl, Nat.le_of_ble_eq_true rfl⟩ (Nat.le_of_ble_eq_true rfl) (show n1 ≤ n + (n1 - n) by omega) (show z1 ≤ z + (z1 - z) by omega) ?_
    refine a_astoreN d_Dot_straight_5 (Nat.le_of_ble_eq_true rfl) (Nat.le_of_ble_eq_true rfl) rfl ?_
    refine a_aloadN d_Dot_straight_7 rfl ?_
    refine a_ifnullN 22 d_Dot_straight_9 (by decide) ?_
    refine a_ldc d_Dot_straight_22 k_Dot_77 ?_
    exact a_iret d_Dot_straight_24 rfl (by unfold q_straight; rw [e]; try rfl) rfl rfl
  · skip
    have K0 := F
    obtain ⟨xs, ys, ws, kn, kc, re, of, co, ⟨k19, k20, k21, k22, k23, k24, k25, k26, k27, ⟨c1, c2, c3, c4, c5, c6, k28⟩, k29, ⟨cs, k30⟩, k31, kz⟩, hk, B⟩ := F
    obtain ⟨hP, S, U⟩ := G.2 t ht hb
    have hs := (G.1 t ht hb).2
    have k8 : h1 8 = oDot lf := by rw [far _ (by decide) (by decide)]; exact g8
    have k12 : h1 12 = oPic (nI W) (nI H) D j s := by rw [far _ (by decide) (by decide)]; exact g12
    obtain ⟨b', hb'⟩ : ∃ b', b' = 53 + sB (decide (j = 1)) D t := ⟨_, rfl⟩
    rw [← hb'] at M
    have hb53 : 53 ≤ b' := by omega
    obtain ⟨me, ve, bo, gb, R, Q⟩ := B t ht hb
    rw [← hb'] at gb
    refine ⟨h1, n1, z1, q1, q2, K0.ck, far, ?_⟩
    refine AMet.intro q1 q2 (by decide) (Nat.le_of_ble_eq_true rfl) rfl ?_
    refine a_aload_n d_Dot_straight_0 rfl ?_
    refine a_iload_n d_Dot_straight_1 rfl ?_
    refine a_cv (a := 8) d_Dot_straight_2 m_Dot_borderNumber t_Dot_borderNumber l_Dot_161 g8 rfl rfl M rfl rfl ⟨Nat.le_of_ble_eq_true rfl, Nat.le_of_ble_eq_true rfl⟩ (Nat.le_of_ble_eq_true rfl) (show n1 ≤ n + (n1 - n) by omega) (show z1 ≤ z + (z1 - z) by omega) ?_
    refine a_astore d_Dot_straight_5 (Nat.le_of_ble_eq_true rfl) (Nat.le_of_ble_eq_true rfl) rfl ?_
    refine a_aload d_Dot_straight_7 rfl ?_
    refine a_ifnull d_Dot_straight_9 ?_
    refine a_aload d_Dot_straight_12 rfl ?_
    refine a_iload_n d_Dot_straight_14 rfl ?_
    refine a_iload_n d_Dot_straight_15 rfl ?_
    refine a_cv0 d_Dot_straight_16 m_Brd_hasStretch t_Brd_hasStretch l_Dot_201 gb rfl rfl (s_Brd_hasStretch gb i st) rfl rfl ⟨Nat.le_of_ble_eq_true rfl, Nat.le_of_ble_eq_true rfl⟩ (Nat.le_of_ble_eq_true rfl)  ?_
    refine a_if_ne 25 d_Dot_straight_19 (by decide) (fun c19 => ?_) (fun c19 => ?_)
    · skip
      obtain ⟨I, S1, hI, hS1, hS2, rfl, rfl⟩ := fStr_ok (by omega) c19
      refine a_aload_n d_Dot_straight_25 rfl ?_
      refine a_getf d_Dot_straight_26 f_Dot_60 k8 rfl ?_
      refine a_aload d_Dot_straight_29 rfl ?_
      refine a_iload_n d_Dot_straight_31 rfl ?_
      refine a_iload_n d_Dot_straight_32 rfl ?_
      refine a_cv0 (a := 24) d_Dot_straight_33 m_Str_offOf t_Str_offOf l_Dot_204 k24 rfl rfl (s_Str_offOf k19 k20 k21 k24 gb (by omega) hs (rowsB_Row R) S (by omega) hS1 (by omega)) rfl rfl ⟨Nat.le_of_ble_eq_true rfl, Nat.le_of_ble_eq_true rfl⟩ (Nat.le_of_ble_eq_true rfl)  ?_
      refine a_iconst (v := -1) d_Dot_straight_36 (by decide) ?_
      refine a_icmp_ne 44 d_Dot_straight_37 (by decide) (fun c37 => ?_) (fun c37 => ?_)
      · skip
        refine a_iconst (v := 1) d_Dot_straight_44 (by decide) ?_
        exact a_iret d_Dot_straight_45 rfl (by unfold q_straight; rw [e]; dsimp only; rw [if_neg c19, nI_clamp (by omega), nI_clamp (by omega)]; first | rw [if_pos c37] | rw [if_neg c37]) rfl rfl
      · skip
        refine a_iconst (v := 0) d_Dot_straight_40 (by decide) ?_
        refine a_goto 45 d_Dot_straight_41 (by decide) ?_
        exact a_iret d_Dot_straight_45 rfl (by unfold q_straight; rw [e]; dsimp only; rw [if_neg c19, nI_clamp (by omega), nI_clamp (by omega)]; first | rw [if_pos c37] | rw [if_neg c37]) rfl rfl
    · skip
      refine a_ldc d_Dot_straight_22 k_Dot_77 ?_
      exact a_iret d_Dot_straight_24 rfl (by unfold q_straight; rw [e]; dsimp only; rw [if_pos c19]; try rfl) rfl rfl
def q_off (V : VV) (W H : Nat) (D : Int64) (j s : Int32) (b i st : Int32) : Int32 := match bq W D j b with
  | none => -1000001
  | some t => if fStr (nI (sP (decide (j = 1)) D t)) i st = 0 then -1000001 else if oI (off (bX (decide (j = 1)) D t) (bY (decide (j = 1)) D t) (sP (decide (j = 1)) D t) i.toNatClampNeg st.toNatClampNeg) = -1 then -1000000 else oI (off (bX (decide (j = 1)) D t) (bY (decide (j = 1)) D t) (sP (decide (j = 1)) D t) i.toNatClampNeg st.toNatClampNeg)
set_option maxRecDepth 20000 in
set_option maxHeartbeats 4000000 in
theorem s_Dot_off {lf : Int32} {W H : Nat} {D : Int64} {j s : Int32} (g8 : h 8 = oDot lf) (g12 : h 12 = oPic (nI W) (nI H) D j s) (hW : W ≤ 8) {z0 : Nat} (G : Gd (decide (j = 1)) D) (K : CK z0 h n z) (hH : H ≤ 8) (b i st : Int32) : ∃ h1 n1 z1, n ≤ n1 ∧ z ≤ z1 ∧ CK z0 h1 n1 z1 ∧ (∀ i, i < 53 → i < 19 ∨ 31 < i → h1 i = h i) ∧ AMet V i_Dot_off 5 [.ref 8, .int b, .int i, .int st] h n z (some (.int (q_off V W H D j s b i st))) h1 n1 z1 := by
  obtain ⟨h1, n1, z1, q1, q2, K1, far, ⟨e, M⟩ | ⟨t, e, ht, hb, F, M⟩⟩ := s_Dot_bn (V := V) g8 g12 hW G K b
  · refine ⟨h1, n1, z1, q1, q2, K1, far, ?_⟩
    refine AMet.intro q1 q2 (by decide) (Nat.le_of_ble_eq_true rfl) rfl ?_
    refine a_aload_n d_Dot_off_0 rfl ?_
    refine a_iload_n d_Dot_off_1 rfl ?_
    refine a_cv (a := 8) d_Dot_off_2 m_Dot_borderNumber t_Dot_borderNumber l_Dot_161 g8 rfl rfl M rfl rfl ⟨Nat.le_of_ble_eq_true rfl, Nat.le_of_ble_eq_true rfl⟩ (Nat.le_of_ble_eq_true rfl) (show n1 ≤ n + (n1 - n) by omega) (show z1 ≤ z + (z1 - z) by omega) ?_
    refine a_astoreN d_Dot_off_5 (Nat.le_of_ble_eq_true rfl) (Nat.le_of_ble_eq_true rfl) rfl ?_
    refine a_aloadN d_Dot_off_7 rfl ?_
    refine a_ifnullN 22 d_Dot_off_9 (by decide) ?_
    refine a_ldc d_Dot_off_22 k_Dot_77 ?_
    exact a_iret d_Dot_off_24 rfl (by unfold q_off; rw [e]; try rfl) rfl rfl
  · skip
    have K0 := F
    obtain ⟨xs, ys, ws, kn, kc, re, of, co, ⟨k19, k20, k21, k22, k23, k24, k25, k26, k27, ⟨c1, c2, c3, c4, c5, c6, k28⟩, k29, ⟨cs, k30⟩, k31, kz⟩, hk, B⟩ := F
    obtain ⟨hP, S, U⟩ := G.2 t ht hb
    have hs := (G.1 t ht hb).2
    have k8 : h1 8 = oDot lf := by rw [far _ (by decide) (by decide)]; exact g8
    have k12 : h1 12 = oPic (nI W) (nI H) D j s := by rw [far _ (by decide) (by decide)]; exact g12
    obtain ⟨b', hb'⟩ : ∃ b', b' = 53 + sB (decide (j = 1)) D t := ⟨_, rfl⟩
    rw [← hb'] at M
    have hb53 : 53 ≤ b' := by omega
    obtain ⟨me, ve, bo, gb, R, Q⟩ := B t ht hb
    rw [← hb'] at gb
    refine ⟨h1, n1, z1, q1, q2, K0.ck, far, ?_⟩
    refine AMet.intro q1 q2 (by decide) (Nat.le_of_ble_eq_true rfl) rfl ?_
    refine a_aload_n d_Dot_off_0 rfl ?_
    refine a_iload_n d_Dot_off_1 rfl ?_
    refine a_cv (a := 8) d_Dot_off_2 m_Dot_borderNumber t_Dot_borderNumber l_Dot_161 g8 rfl rfl M rfl rfl ⟨Nat.le_of_ble_eq_true rfl, Nat.le_of_ble_eq_true rfl⟩ (Nat.le_of_ble_eq_true rfl) (show n1 ≤ n + (n1 - n) by omega) (show z1 ≤ z + (z1 - z) by omega) ?_
    refine a_astore d_Dot_off_5 (Nat.le_of_ble_eq_true rfl) (Nat.le_of_ble_eq_true rfl) rfl ?_
    refine a_aload d_Dot_off_7 rfl ?_
    refine a_ifnull d_Dot_off_9 ?_
    refine a_aload d_Dot_off_12 rfl ?_
    refine a_iload_n d_Dot_off_14 rfl ?_
    refine a_iload_n d_Dot_off_15 rfl ?_
    refine a_cv0 d_Dot_off_16 m_Brd_hasStretch t_Brd_hasStretch l_Dot_201 gb rfl rfl (s_Brd_hasStretch gb i st) rfl rfl ⟨Nat.le_of_ble_eq_true rfl, Nat.le_of_ble_eq_true rfl⟩ (Nat.le_of_ble_eq_true rfl)  ?_
    refine a_if_ne 25 d_Dot_off_19 (by decide) (fun c19 => ?_) (fun c19 => ?_)
    · skip
      obtain ⟨I, S1, hI, hS1, hS2, rfl, rfl⟩ := fStr_ok (by omega) c19
      refine a_aload_n d_Dot_off_25 rfl ?_
      refine a_getf d_Dot_off_26 f_Dot_60 k8 rfl ?_
      refine a_aload d_Dot_off_29 rfl ?_
      refine a_iload_n d_Dot_off_31 rfl ?_
      refine a_iload_n d_Dot_off_32 rfl ?_
      refine a_cv0 (a := 24) d_Dot_off_33 m_Str_offOf t_Str_offOf l_Dot_204 k24 rfl rfl (s_Str_offOf k19 k20 k21 k24 gb (by omega) hs (rowsB_Row R) S (by omega) hS1 (by omega)) rfl rfl ⟨Nat.le_of_ble_eq_true rfl, Nat.le_of_ble_eq_true rfl⟩ (Nat.le_of_ble_eq_true rfl)  ?_
      refine a_istore d_Dot_off_36 (Nat.le_of_ble_eq_true rfl) (Nat.le_of_ble_eq_true rfl) rfl ?_
      refine a_iload d_Dot_off_38 rfl ?_
      refine a_iconst (v := -1) d_Dot_off_40 (by decide) ?_
      refine a_icmp_ne 49 d_Dot_off_41 (by decide) (fun c41 => ?_) (fun c41 => ?_)
      · skip
        refine a_iload d_Dot_off_49 rfl ?_
        exact a_iret d_Dot_off_51 rfl (by unfold q_off; rw [e]; dsimp only; rw [if_neg c19, nI_clamp (by omega), nI_clamp (by omega)]; first | rw [if_pos c41] | rw [if_neg c41]) rfl rfl
      · skip
        refine a_ldc d_Dot_off_44 k_Dot_208 ?_
        refine a_goto 51 d_Dot_off_46 (by decide) ?_
        exact a_iret d_Dot_off_51 rfl (by unfold q_off; rw [e]; dsimp only; rw [if_neg c19, nI_clamp (by omega), nI_clamp (by omega)]; first | rw [if_pos c41] | rw [if_neg c41]) rfl rfl
    · skip
      refine a_ldc d_Dot_off_22 k_Dot_77 ?_
      exact a_iret d_Dot_off_24 rfl (by unfold q_off; rw [e]; dsimp only; rw [if_pos c19]; try rfl) rfl rfl
def q_longest (V : VV) (W H : Nat) (D : Int64) (j s : Int32) (b i : Int32) : Int32 := match bq W D j b with
  | none => -1000001
  | some t => if fIn2 i (nI (sP (decide (j = 1)) D t)) = 0 then -1000001 else nI (lgst (bX (decide (j = 1)) D t) (bY (decide (j = 1)) D t) (sP (decide (j = 1)) D t) i.toNatClampNeg)
set_option maxRecDepth 20000 in
set_option maxHeartbeats 4000000 in
theorem s_Dot_longest {lf : Int32} {W H : Nat} {D : Int64} {j s : Int32} (g8 : h 8 = oDot lf) (g12 : h 12 = oPic (nI W) (nI H) D j s) (hW : W ≤ 8) {z0 : Nat} (G : Gd (decide (j = 1)) D) (K : CK z0 h n z) (hH : H ≤ 8) (b i : Int32) : ∃ h1 n1 z1, n ≤ n1 ∧ z ≤ z1 ∧ CK z0 h1 n1 z1 ∧ (∀ i, i < 53 → i < 19 ∨ 31 < i → h1 i = h i) ∧ AMet V i_Dot_longest 5 [.ref 8, .int b, .int i] h n z (some (.int (q_longest V W H D j s b i))) h1 n1 z1 := by
  obtain ⟨h1, n1, z1, q1, q2, K1, far, ⟨e, M⟩ | ⟨t, e, ht, hb, F, M⟩⟩ := s_Dot_bn (V := V) g8 g12 hW G K b
  · refine ⟨h1, n1, z1, q1, q2, K1, far, ?_⟩
    refine AMet.intro q1 q2 (by decide) (Nat.le_of_ble_eq_true rfl) rfl ?_
    refine a_aload_n d_Dot_longest_0 rfl ?_
    refine a_iload_n d_Dot_longest_1 rfl ?_
    refine a_cv (a := 8) d_Dot_longest_2 m_Dot_borderNumber t_Dot_borderNumber l_Dot_161 g8 rfl rfl M rfl rfl ⟨Nat.le_of_ble_eq_true rfl, Nat.le_of_ble_eq_true rfl⟩ (Nat.le_of_ble_eq_true rfl) (show n1 ≤ n + (n1 - n) by omega) (show z1 ≤ z + (z1 - z) by omega) ?_
    refine a_astore_nN d_Dot_longest_5 (Nat.le_of_ble_eq_true rfl) (Nat.le_of_ble_eq_true rfl) rfl ?_
    refine a_aload_nN d_Dot_longest_6 rfl ?_
    refine a_ifnullN 18 d_Dot_longest_7 (by decide) ?_
    refine a_ldc d_Dot_longest_18 k_Dot_77 ?_
    exact a_iret d_Dot_longest_20 rfl (by unfold q_longest; rw [e]; try rfl) rfl rfl
  · skip
    have K0 := F
    obtain ⟨xs, ys, ws, kn, kc, re, of, co, ⟨k19, k20, k21, k22, k23, k24, k25, k26, k27, ⟨c1, c2, c3, c4, c5, c6, k28⟩, k29, ⟨cs, k30⟩, k31, kz⟩, hk, B⟩ := F
    obtain ⟨hP, S, U⟩ := G.2 t ht hb
    have hs := (G.1 t ht hb).2
    have k8 : h1 8 = oDot lf := by rw [far _ (by decide) (by decide)]; exact g8
    have k12 : h1 12 = oPic (nI W) (nI H) D j s := by rw [far _ (by decide) (by decide)]; exact g12
    obtain ⟨b', hb'⟩ : ∃ b', b' = 53 + sB (decide (j = 1)) D t := ⟨_, rfl⟩
    rw [← hb'] at M
    have hb53 : 53 ≤ b' := by omega
    obtain ⟨me, ve, bo, gb, R, Q⟩ := B t ht hb
    rw [← hb'] at gb
    refine ⟨h1, n1, z1, q1, q2, K0.ck, far, ?_⟩
    refine AMet.intro q1 q2 (by decide) (Nat.le_of_ble_eq_true rfl) rfl ?_
    refine a_aload_n d_Dot_longest_0 rfl ?_
    refine a_iload_n d_Dot_longest_1 rfl ?_
    refine a_cv (a := 8) d_Dot_longest_2 m_Dot_borderNumber t_Dot_borderNumber l_Dot_161 g8 rfl rfl M rfl rfl ⟨Nat.le_of_ble_eq_true rfl, Nat.le_of_ble_eq_true rfl⟩ (Nat.le_of_ble_eq_true rfl) (show n1 ≤ n + (n1 - n) by omega) (show z1 ≤ z + (z1 - z) by omega) ?_
    refine a_astore_n d_Dot_longest_5 (Nat.le_of_ble_eq_true rfl) (Nat.le_of_ble_eq_true rfl) rfl ?_
    refine a_aload_n d_Dot_longest_6 rfl ?_
    refine a_ifnull d_Dot_longest_7 ?_
    refine a_aload_n d_Dot_longest_10 rfl ?_
    refine a_iload_n d_Dot_longest_11 rfl ?_
    refine a_cv0 d_Dot_longest_12 m_Brd_hasCorner t_Brd_hasCorner l_Dot_209 gb rfl rfl (s_Brd_hasCorner gb i) rfl rfl ⟨Nat.le_of_ble_eq_true rfl, Nat.le_of_ble_eq_true rfl⟩ (Nat.le_of_ble_eq_true rfl)  ?_
    refine a_if_ne 21 d_Dot_longest_15 (by decide) (fun c15 => ?_) (fun c15 => ?_)
    · skip
      obtain ⟨I, hI, rfl⟩ := fIn2_ok (by omega) c15
      refine a_aload_n d_Dot_longest_21 rfl ?_
      refine a_getf d_Dot_longest_22 f_Dot_60 k8 rfl ?_
      refine a_aload_n d_Dot_longest_25 rfl ?_
      refine a_iload_n d_Dot_longest_26 rfl ?_
      refine a_cv0 (a := 24) d_Dot_longest_27 m_Str_longestFrom t_Str_longestFrom l_Dot_212 k24 rfl rfl (s_Str_longestFrom k19 k20 k21 k24 gb (by omega) hs (rowsB_Row R) S (by omega)) rfl rfl ⟨Nat.le_of_ble_eq_true rfl, Nat.le_of_ble_eq_true rfl⟩ (Nat.le_of_ble_eq_true rfl)  ?_
      exact a_iret d_Dot_longest_30 rfl (by unfold q_longest; rw [e]; dsimp only; rw [if_neg c15, nI_clamp (by omega)]) rfl rfl
    · skip
      refine a_ldc d_Dot_longest_18 k_Dot_77 ?_
      exact a_iret d_Dot_longest_20 rfl (by unfold q_longest; rw [e]; dsimp only; rw [if_pos c15]; try rfl) rfl rfl
end
