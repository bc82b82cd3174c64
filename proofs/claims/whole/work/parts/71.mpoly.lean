/-! THE MODEL is asked of polygons: printed by wip/whole/t71.py -/
theorem bd_Bnd {J : Bool} {D : Int64} {t : Nat} (ht : t < 64) (hb : isB J D t = true) : Bnd (bX J D t) (bY J D t) (sP J D t) (zN J D t) (zC J D t) := by
  have C := bd_CO ht hb
  obtain ⟨v1, v2, v3, v4⟩ := vF_ok C
  obtain ⟨n1, n2, n3, n4⟩ := bN_eq C
  have P4 := bd_P ht hb
  intro K q
  have hk := Nat.mod_lt K (show 0 < zN J D t from n3)
  obtain ⟨k, ek⟩ : ∃ k, k = K % zN J D t := ⟨_, rfl⟩
  rw [← ek] at hk
  obtain ⟨i1, i2⟩ := vC_on C v1 k
  have hr : 1 ≤ vR (bX J D t) (bY J D t) (sP J D t) (vF (bX J D t) (bY J D t) (sP J D t)) k := nV_pos hk
  obtain ⟨o1, o2, ⟨x, o3, o4⟩, _⟩ := nst_opt C (i := vF (bX J D t) (bY J D t) (sP J D t)) hr i1
  obtain ⟨ns, ens⟩ : ∃ ns, ns = nst (bX J D t) (bY J D t) (sP J D t) (vF (bX J D t) (bY J D t) (sP J D t)) (vR (bX J D t) (bY J D t) (sP J D t) (vF (bX J D t) (bY J D t) (sP J D t)) k) := ⟨_, rfl⟩
  rw [← ens] at o2 o3
  have ec : zC J D t k = vF (bX J D t) (bY J D t) (sP J D t) + (sP J D t - vR (bX J D t) (bY J D t) (sP J D t) (vF (bX J D t) (bY J D t) (sP J D t)) k) := rfl
  rw [← ec] at o3
  have er1 : vR (bX J D t) (bY J D t) (sP J D t) (vF (bX J D t) (bY J D t) (sP J D t)) (k + 1) = vR (bX J D t) (bY J D t) (sP J D t) (vF (bX J D t) (bY J D t) (sP J D t)) k - ns := by rw [ens]; rfl
  have en : zC J D t ((K + 1) % zN J D t) % sP J D t = (zC J D t k + ns) % sP J D t := by
    rcases Nat.lt_or_ge (k + 1) (zN J D t) with c | c
    · have e1 : (K + 1) % zN J D t = k + 1 := by
        rw [Nat.add_mod, ← ek, Nat.mod_eq_of_lt (show 1 < zN J D t by omega), Nat.mod_eq_of_lt c]
      have e2 : zC J D t (k + 1) = vF (bX J D t) (bY J D t) (sP J D t) + (sP J D t - vR (bX J D t) (bY J D t) (sP J D t) (vF (bX J D t) (bY J D t) (sP J D t)) (k + 1)) := rfl
      rw [e1, show zC J D t (k + 1) = zC J D t k + ns by omega]
    · have e1 : (K + 1) % zN J D t = 0 := by
        have h1 : k + 1 = zN J D t := by omega
        rcases (show zN J D t = 1 ∨ 1 < zN J D t by omega) with c1 | c1
        · rw [c1, Nat.mod_one]
        · rw [Nat.add_mod, ← ek, Nat.mod_eq_of_lt c1, h1, Nat.mod_self]
      have e3 := nV_0 (bX J D t) (bY J D t) (sP J D t) (vF (bX J D t) (bY J D t) (sP J D t))
      rw [show nV (bX J D t) (bY J D t) (sP J D t) (vF (bX J D t) (bY J D t) (sP J D t)) = k + 1 from by show zN J D t = k + 1; omega, er1] at e3
      have e4 : zC J D t 0 = vF (bX J D t) (bY J D t) (sP J D t) := by
        show vF (bX J D t) (bY J D t) (sP J D t) + (sP J D t - sP J D t) = _
        omega
      rw [e1, e4, show zC J D t k + ns = vF (bX J D t) (bY J D t) (sP J D t) + sP J D t by omega, Nat.add_mod_right]
  unfold vx at q
  rw [en, ← ek] at q
  unfold Ex off at o3
  have hg : gA (bX J D t) (bY J D t) (sP J D t) (zC J D t k % sP J D t) ns = 0 := by
    unfold gA dxA
    rw [Nat.mod_add_mod, Nat.mod_mod, q.1, q.2]
    simp
  rw [if_pos hg] at o3
  cases o3
theorem bd_zC {J : Bool} {D : Int64} {t : Nat} (ht : t < 64) (hb : isB J D t = true) : 0 < zN J D t ∧ zN J D t ≤ sP J D t ∧ ∀ k, k < zN J D t → zC J D t k < sP J D t := by
  have C := bd_CO ht hb
  obtain ⟨n1, n2, n3, n4⟩ := bN_eq C
  exact ⟨n3, n4, fun k hk => (vC_lt C hk).1⟩
theorem fRg_13 {i : Int32} : fRg i 1 3 = 0 ↔ ¬ (¬ i < 1 ∧ ¬ 3 < i) := by
  unfold fRg
  by_cases a : i < 1
  · rw [if_pos a]; simp [a]
  · rw [if_neg a]
    by_cases b : 3 < i
    · rw [if_pos b]; simp [b]
    · rw [if_neg b]; simp [a, b]
theorem fRg_01b {i : Int32} : fRg i 0 1 = 0 ↔ ¬ (¬ i < 0 ∧ i ≤ 1) := by
  unfold fRg
  by_cases a : i < 0
  · rw [if_pos a]; simp [a]
  · rw [if_neg a]
    by_cases b : 1 < i
    · rw [if_pos b]; simp; intro _; exact b
    · rw [if_neg b]; simp; exact ⟨Int32.not_lt.mp a, Int32.not_lt.mp b⟩
section
variable {V : VV} {h : AH} {n z : Nat}

set_option maxRecDepth 20000 in
set_option maxHeartbeats 4000000 in
theorem L_sharpM {ac by_ la ra il mn : Int32} {rs : Int64} {tb oa lm : Int32} {fr cx cy vv : Nat → Int32} {B S0 P nv : Nat} {X Y : Nat → Int} {cn : Nat → Nat} (k32 : h 32 = oMod ac by_ la ra il mn rs tb (nI nv) oa lm) (k39 : h 39 = aI 40 fr) (k44 : h 44 = aI 160 cx) (k45 : h 45 = aI 160 cy) (k49 : h 49 = aI 144 vv) (hB : B < 40) (m1 : fr B = nI S0) (hs : S0 + P ≤ 144) (hnv : 0 < nv) (hnP : nv ≤ P) (Rw : Row cx cy S0 P X Y) (tvx : ∀ k, k < nv → vv k = nI (cn k)) (hcn : ∀ k, k < nv → cn k < P) {st : Nat → Int32} (k33 : h 33 = aI 68 st) {sh : Int32} (s3 : st 3 = sh) (S : Sh X Y) (bn : Bnd X Y P nv cn) (hP : P ≤ 144) : ∀ (m k : Nat), k + m = nv → AM V i_Mod_sharpMany 4 n z (some (.int (nI (cnt1 (shC X Y P nv cn sh) nv)))) h n z 4 [some (.ref 32), some (.int (nI B)), some (.int (nI (cnt1 (shC X Y P nv cn sh) k))), some (.int (nI k))] [] h n z := by
  intro m
  induction m with
  | zero =>
    intro k hk
    have e : k = nv := by omega
    subst e
    refine a_iload_n d_Mod_sharpMany_4 rfl ?_
    refine a_aload_n d_Mod_sharpMany_5 rfl ?_
    refine a_getf d_Mod_sharpMany_6 f_Mod_205 k32 rfl ?_
    refine a_icmp_ge 35 d_Mod_sharpMany_9 (by decide) (fun c9 => ?_) (fun c9 => absurd (Int32.le_refl _) c9)
    refine a_iload_n d_Mod_sharpMany_35 rfl ?_
    exact a_iret d_Mod_sharpMany_36 rfl rfl rfl rfl
  | succ m ih =>
    intro k hk
    refine a_iload_n d_Mod_sharpMany_4 rfl ?_
    refine a_aload_n d_Mod_sharpMany_5 rfl ?_
    refine a_getf d_Mod_sharpMany_6 f_Mod_205 k32 rfl ?_
    refine a_icmp_ge 35 d_Mod_sharpMany_9 (by decide) (fun c9 => absurd c9 (nI_ge (show k < nv by omega) (by omega))) (fun c9 => ?_)
    refine a_iload_n d_Mod_sharpMany_12 rfl ?_
    refine a_aload_n d_Mod_sharpMany_13 rfl ?_
    refine a_iload_n d_Mod_sharpMany_14 rfl ?_
    refine a_iload_n d_Mod_sharpMany_15 rfl ?_
    refine a_cv0 (a := 32) d_Mod_sharpMany_16 m_Mod_isSharp t_Mod_isSharp l_Mod_223 k32 rfl rfl (s_Mod_isSharp k32 k39 k44 k45 k49 hB m1 hs hnv hnP Rw tvx hcn k33 s3 (by omega) S bn) rfl rfl ⟨Nat.le_of_ble_eq_true rfl, Nat.le_of_ble_eq_true rfl⟩ (Nat.le_of_ble_eq_true rfl)  ?_
    refine a_if_eq 26 d_Mod_sharpMany_19 (by decide) (fun c19 => ?_) (fun c19 => ?_)
    · skip
      refine a_iconst (v := 0) d_Mod_sharpMany_26 (by decide) ?_
      refine a_iadd d_Mod_sharpMany_27 ?_
      refine a_istore_n d_Mod_sharpMany_28 (Nat.le_of_ble_eq_true rfl) (Nat.le_of_ble_eq_true rfl) rfl ?_
      refine a_iinc d_Mod_sharpMany_29 rfl (nI_1 k) (Nat.le_of_ble_eq_true rfl) rfl ?_
      refine a_goto 4 d_Mod_sharpMany_32 (by decide) ?_
      have ec : nI (cnt1 (shC X Y P nv cn sh) k) + 0 = nI (cnt1 (shC X Y P nv cn sh) (k + 1)) := by
        show _ = nI (if shC X Y P nv cn sh k = 0 then _ else _)
        rw [if_pos c19, Int32.add_zero]
      rw [ec]
      exact ih (k + 1) (by omega)
    · skip
      refine a_iconst (v := 1) d_Mod_sharpMany_22 (by decide) ?_
      refine a_goto 27 d_Mod_sharpMany_23 (by decide) ?_
      refine a_iadd d_Mod_sharpMany_27 ?_
      refine a_istore_n d_Mod_sharpMany_28 (Nat.le_of_ble_eq_true rfl) (Nat.le_of_ble_eq_true rfl) rfl ?_
      refine a_iinc d_Mod_sharpMany_29 rfl (nI_1 k) (Nat.le_of_ble_eq_true rfl) rfl ?_
      refine a_goto 4 d_Mod_sharpMany_32 (by decide) ?_
      have ec : nI (cnt1 (shC X Y P nv cn sh) k) + 1 = nI (cnt1 (shC X Y P nv cn sh) (k + 1)) := by
        show _ = nI (if shC X Y P nv cn sh k = 0 then _ else _)
        rw [if_neg c19, nI_1]
      rw [ec]
      exact ih (k + 1) (by omega)
theorem s_Mod_sharpMany {ac by_ la ra il mn : Int32} {rs : Int64} {tb oa lm : Int32} {fr cx cy vv : Nat → Int32} {B S0 P nv : Nat} {X Y : Nat → Int} {cn : Nat → Nat} (k32 : h 32 = oMod ac by_ la ra il mn rs tb (nI nv) oa lm) (k39 : h 39 = aI 40 fr) (k44 : h 44 = aI 160 cx) (k45 : h 45 = aI 160 cy) (k49 : h 49 = aI 144 vv) (hB : B < 40) (m1 : fr B = nI S0) (hs : S0 + P ≤ 144) (hnv : 0 < nv) (hnP : nv ≤ P) (Rw : Row cx cy S0 P X Y) (tvx : ∀ k, k < nv → vv k = nI (cn k)) (hcn : ∀ k, k < nv → cn k < P) {st : Nat → Int32} (k33 : h 33 = aI 68 st) {sh : Int32} (s3 : st 3 = sh) (S : Sh X Y) (bn : Bnd X Y P nv cn) (hP : P ≤ 144) : AMet V i_Mod_sharpMany 4 [.ref 32, .int (nI B)] h n z (some (.int (nI (cnt1 (shC X Y P nv cn sh) nv)))) h n z := by
  refine AMet.intro (Nat.le_refl _) (Nat.le_refl _) (by decide) (Nat.le_of_ble_eq_true rfl) rfl ?_
  refine a_iconst (v := 0) d_Mod_sharpMany_0 (by decide) ?_
  refine a_istore_n d_Mod_sharpMany_1 (Nat.le_of_ble_eq_true rfl) (Nat.le_of_ble_eq_true rfl) rfl ?_
  refine a_iconst (v := 0) d_Mod_sharpMany_2 (by decide) ?_
  refine a_istore_n d_Mod_sharpMany_3 (Nat.le_of_ble_eq_true rfl) (Nat.le_of_ble_eq_true rfl) rfl ?_
  exact L_sharpM k32 k39 k44 k45 k49 hB m1 hs hnv hnP Rw tvx hcn k33 s3 S bn hP nv 0 (by omega)
set_option maxRecDepth 20000 in
set_option maxHeartbeats 4000000 in
theorem L_twice {ac by_ la ra il mn : Int32} {rs : Int64} {tb oa lm : Int32} {fr cx cy vv : Nat → Int32} {B S0 P nv : Nat} {X Y : Nat → Int} {cn : Nat → Nat} (k32 : h 32 = oMod ac by_ la ra il mn rs tb (nI nv) oa lm) (k39 : h 39 = aI 40 fr) (k44 : h 44 = aI 160 cx) (k45 : h 45 = aI 160 cy) (k49 : h 49 = aI 144 vv) (hB : B < 40) (m1 : fr B = nI S0) (hs : S0 + P ≤ 144) (hnv : 0 < nv) (hnP : nv ≤ P) (Rw : Row cx cy S0 P X Y) (tvx : ∀ k, k < nv → vv k = nI (cn k)) (hcn : ∀ k, k < nv → cn k < P) (hP : P ≤ 144) : ∀ (m k : Nat), k + m = nv → AM V i_Mod_twice 1 n z (some (.int (fAbs (iI (ar2 X Y P nv cn nv))))) h n z 4 [some (.ref 32), some (.int (nI B)), some (.int (iI (ar2 X Y P nv cn k))), some (.int (nI k))] [] h n z := by
  intro m
  induction m with
  | zero =>
    intro k hk
    have e : k = nv := by omega
    subst e
    refine a_iload_n d_Mod_twice_4 rfl ?_
    refine a_aload_n d_Mod_twice_5 rfl ?_
    refine a_getf d_Mod_twice_6 f_Mod_205 k32 rfl ?_
    refine a_icmp_ge 52 d_Mod_twice_9 (by decide) (fun c9 => ?_) (fun c9 => absurd (Int32.le_refl _) c9)
    refine a_iload_n d_Mod_twice_52 rfl ?_
    refine a_cs0 d_Mod_twice_53 m_Mod_size t_Mod_size l_Mod_183 (s_Mod_size _) rfl rfl ⟨Nat.le_of_ble_eq_true rfl, Nat.le_of_ble_eq_true rfl⟩ (Nat.le_of_ble_eq_true rfl)  ?_
    exact a_iret d_Mod_twice_56 rfl rfl rfl rfl
  | succ m ih =>
    intro k hk
    refine a_iload_n d_Mod_twice_4 rfl ?_
    refine a_aload_n d_Mod_twice_5 rfl ?_
    refine a_getf d_Mod_twice_6 f_Mod_205 k32 rfl ?_
    refine a_icmp_ge 52 d_Mod_twice_9 (by decide) (fun c9 => absurd c9 (nI_ge (show k < nv by omega) (by omega))) (fun c9 => ?_)
    refine a_iload_n d_Mod_twice_12 rfl ?_
    refine a_aload_n d_Mod_twice_13 rfl ?_
    refine a_iload_n d_Mod_twice_14 rfl ?_
    refine a_iload_n d_Mod_twice_15 rfl ?_
    refine a_cv0 (a := 32) d_Mod_twice_16 m_Mod_vx t_Mod_vx l_Mod_211 k32 rfl rfl (s_Mod_vx (K := k + nv) k32 k39 k44 k45 k49 hB m1 hs hnv hnP Rw tvx hcn (nI_add k nv) (by omega)) rfl rfl ⟨Nat.le_of_ble_eq_true rfl, Nat.le_of_ble_eq_true rfl⟩ (Nat.le_of_ble_eq_true rfl)  ?_
    rw [vx_add]
    refine a_aload_n d_Mod_twice_19 rfl ?_
    refine a_iload_n d_Mod_twice_20 rfl ?_
    refine a_iload_n d_Mod_twice_21 rfl ?_
    refine a_iconst (v := 1) d_Mod_twice_22 (by decide) ?_
    refine a_iadd d_Mod_twice_23 ?_
    refine a_cv0 (a := 32) d_Mod_twice_24 m_Mod_vy t_Mod_vy l_Mod_214 k32 rfl rfl (s_Mod_vy (K := k + 1 + nv) k32 k39 k44 k45 k49 hB m1 hs hnv hnP Rw tvx hcn (show nI k + 1 + nI nv = nI (k + 1 + nv) by rw [nI_1, nI_add]) (by omega)) rfl rfl ⟨Nat.le_of_ble_eq_true rfl, Nat.le_of_ble_eq_true rfl⟩ (Nat.le_of_ble_eq_true rfl)  ?_
    rw [vx_add]
    refine a_imul d_Mod_twice_27 ?_
    refine a_aload_n d_Mod_twice_28 rfl ?_
    refine a_iload_n d_Mod_twice_29 rfl ?_
    refine a_iload_n d_Mod_twice_30 rfl ?_
    refine a_cv0 (a := 32) d_Mod_twice_31 m_Mod_vy t_Mod_vy l_Mod_214 k32 rfl rfl (s_Mod_vy (K := k + nv) k32 k39 k44 k45 k49 hB m1 hs hnv hnP Rw tvx hcn (nI_add k nv) (by omega)) rfl rfl ⟨Nat.le_of_ble_eq_true rfl, Nat.le_of_ble_eq_true rfl⟩ (Nat.le_of_ble_eq_true rfl)  ?_
    rw [vx_add]
    refine a_aload_n d_Mod_twice_34 rfl ?_
    refine a_iload_n d_Mod_twice_35 rfl ?_
    refine a_iload_n d_Mod_twice_36 rfl ?_
    refine a_iconst (v := 1) d_Mod_twice_37 (by decide) ?_
    refine a_iadd d_Mod_twice_38 ?_
    refine a_cv0 (a := 32) d_Mod_twice_39 m_Mod_vx t_Mod_vx l_Mod_211 k32 rfl rfl (s_Mod_vx (K := k + 1 + nv) k32 k39 k44 k45 k49 hB m1 hs hnv hnP Rw tvx hcn (show nI k + 1 + nI nv = nI (k + 1 + nv) by rw [nI_1, nI_add]) (by omega)) rfl rfl ⟨Nat.le_of_ble_eq_true rfl, Nat.le_of_ble_eq_true rfl⟩ (Nat.le_of_ble_eq_true rfl)  ?_
    rw [vx_add]
    refine a_imul d_Mod_twice_42 ?_
    refine a_isub d_Mod_twice_43 ?_
    refine a_iadd d_Mod_twice_44 ?_
    refine a_istore_n d_Mod_twice_45 (Nat.le_of_ble_eq_true rfl) (Nat.le_of_ble_eq_true rfl) rfl ?_
    refine a_iinc d_Mod_twice_46 rfl (nI_1 k) (Nat.le_of_ble_eq_true rfl) rfl ?_
    refine a_goto 4 d_Mod_twice_49 (by decide) ?_
    rw [iI_mul, iI_mul, iI_sub, iI_add]
    exact ih (k + 1) (by omega)
theorem s_Mod_twice {ac by_ la ra il mn : Int32} {rs : Int64} {tb oa lm : Int32} {fr cx cy vv : Nat → Int32} {B S0 P nv : Nat} {X Y : Nat → Int} {cn : Nat → Nat} (k32 : h 32 = oMod ac by_ la ra il mn rs tb (nI nv) oa lm) (k39 : h 39 = aI 40 fr) (k44 : h 44 = aI 160 cx) (k45 : h 45 = aI 160 cy) (k49 : h 49 = aI 144 vv) (hB : B < 40) (m1 : fr B = nI S0) (hs : S0 + P ≤ 144) (hnv : 0 < nv) (hnP : nv ≤ P) (Rw : Row cx cy S0 P X Y) (tvx : ∀ k, k < nv → vv k = nI (cn k)) (hcn : ∀ k, k < nv → cn k < P) (hP : P ≤ 144) : AMet V i_Mod_twice 1 [.ref 32, .int (nI B)] h n z (some (.int (fAbs (iI (ar2 X Y P nv cn nv))))) h n z := by
  refine AMet.intro (Nat.le_refl _) (Nat.le_refl _) (by decide) (Nat.le_of_ble_eq_true rfl) rfl ?_
  refine a_iconst (v := 0) d_Mod_twice_0 (by decide) ?_
  refine a_istore_n d_Mod_twice_1 (Nat.le_of_ble_eq_true rfl) (Nat.le_of_ble_eq_true rfl) rfl ?_
  refine a_iconst (v := 0) d_Mod_twice_2 (by decide) ?_
  refine a_istore_n d_Mod_twice_3 (Nat.le_of_ble_eq_true rfl) (Nat.le_of_ble_eq_true rfl) rfl ?_
  exact L_twice k32 k39 k44 k45 k49 hB m1 hs hnv hnP Rw tvx hcn hP nv 0 (by omega)
set_option maxRecDepth 20000 in
set_option maxHeartbeats 4000000 in
theorem s_Mod_point01 {ac by_ la ra il mn : Int32} {rs : Int64} {tb oa lm : Int32} {fr cx cy vv : Nat → Int32} {B S0 P nv : Nat} {X Y : Nat → Int} {cn : Nat → Nat}(k32 : h 32 = oMod ac by_ la ra il mn rs tb (nI nv) oa lm) (k39 : h 39 = aI 40 fr) (k44 : h 44 = aI 160 cx) (k45 : h 45 = aI 160 cy) (k49 : h 49 = aI 144 vv) (hB : B < 40) (m1 : fr B = nI S0) (hs : S0 + P ≤ 144) (hnv : 0 < nv) (hnP : nv ≤ P) (Rw : Row cx cy S0 P X Y) (tvx : ∀ k, k < nv → vv k = nI (cn k)) (hcn : ∀ k, k < nv → cn k < P){k : Nat} (hk : k < 500) : AMet V i_Mod_pointOf 1 [.ref 32, .int (nI B), .int (nI k), .int 1, .int 0] h n z (some (.int (rnC V X P nv cn 1 k))) (h) n z := by
  refine AMet.intro (Nat.le_refl _) (Nat.le_refl _) (by decide) (Nat.le_of_ble_eq_true rfl) rfl ?_
  refine a_iload d_Mod_pointOf_0 rfl ?_
  refine a_if_ne 16 d_Mod_pointOf_2 (by decide) (fun c2 => absurd c2 (fun q => q rfl)) (fun c2 => ?_)
  refine a_aload_n d_Mod_pointOf_5 rfl ?_
  refine a_iload_n d_Mod_pointOf_6 rfl ?_
  refine a_iload_n d_Mod_pointOf_7 rfl ?_
  refine a_iconst (v := 1) d_Mod_pointOf_8 (by decide) ?_
  refine a_isub d_Mod_pointOf_9 ?_
  refine a_cv0 (a := 32) d_Mod_pointOf_10 m_Mod_vx t_Mod_vx l_Mod_211 k32 rfl rfl (s_Mod_vx (K := k + nv - 1) k32 k39 k44 k45 k49 hB m1 hs hnv hnP Rw tvx hcn (show nI k - 1 + nI nv = nI (k + nv - 1) by rw [iI_nat, iI_1, iI_sub, iI_nat nv, iI_add, iI_nat]; congr 1; omega) (by omega)) rfl rfl ⟨Nat.le_of_ble_eq_true rfl, Nat.le_of_ble_eq_true rfl⟩ (Nat.le_of_ble_eq_true rfl)  ?_
  refine a_goto 24 d_Mod_pointOf_13 (by decide) ?_
  refine a_istore d_Mod_pointOf_24 (Nat.le_of_ble_eq_true rfl) (Nat.le_of_ble_eq_true rfl) rfl ?_
  refine a_iload d_Mod_pointOf_26 rfl ?_
  refine a_if_ne 40 d_Mod_pointOf_28 (by decide) (fun c28 => absurd c28 (fun q => q rfl)) (fun c28 => ?_)
  refine a_aload_n d_Mod_pointOf_31 rfl ?_
  refine a_iload_n d_Mod_pointOf_32 rfl ?_
  refine a_iload_n d_Mod_pointOf_33 rfl ?_
  refine a_cv0 (a := 32) d_Mod_pointOf_34 m_Mod_vx t_Mod_vx l_Mod_211 k32 rfl rfl (s_Mod_vx (K := k + nv) k32 k39 k44 k45 k49 hB m1 hs hnv hnP Rw tvx hcn (nI_add k nv) (by omega)) rfl rfl ⟨Nat.le_of_ble_eq_true rfl, Nat.le_of_ble_eq_true rfl⟩ (Nat.le_of_ble_eq_true rfl)  ?_
  rw [vx_add]
  refine a_goto 46 d_Mod_pointOf_37 (by decide) ?_
  refine a_istore d_Mod_pointOf_46 (Nat.le_of_ble_eq_true rfl) (Nat.le_of_ble_eq_true rfl) rfl ?_
  refine a_iload d_Mod_pointOf_48 rfl ?_
  refine a_if_ne 64 d_Mod_pointOf_50 (by decide) (fun c50 => absurd c50 (fun q => q rfl)) (fun c50 => ?_)
  refine a_aload_n d_Mod_pointOf_53 rfl ?_
  refine a_iload_n d_Mod_pointOf_54 rfl ?_
  refine a_iload_n d_Mod_pointOf_55 rfl ?_
  refine a_iconst (v := 1) d_Mod_pointOf_56 (by decide) ?_
  refine a_iadd d_Mod_pointOf_57 ?_
  refine a_cv0 (a := 32) d_Mod_pointOf_58 m_Mod_vx t_Mod_vx l_Mod_211 k32 rfl rfl (s_Mod_vx (K := k + 1 + nv) k32 k39 k44 k45 k49 hB m1 hs hnv hnP Rw tvx hcn (show nI k + 1 + nI nv = nI (k + 1 + nv) by rw [nI_1, nI_add]) (by omega)) rfl rfl ⟨Nat.le_of_ble_eq_true rfl, Nat.le_of_ble_eq_true rfl⟩ (Nat.le_of_ble_eq_true rfl)  ?_
  rw [vx_add]
  refine a_goto 72 d_Mod_pointOf_61 (by decide) ?_
  refine a_istore d_Mod_pointOf_72 (Nat.le_of_ble_eq_true rfl) (Nat.le_of_ble_eq_true rfl) rfl ?_
  refine a_iload_n d_Mod_pointOf_74 rfl ?_
  refine a_iconst (v := 1) d_Mod_pointOf_75 (by decide) ?_
  refine a_icmp_ne 96 d_Mod_pointOf_76 (by decide) (fun c76 => absurd c76 (fun q => q rfl)) (fun c76 => ?_)
  refine a_bipush (v := 9) d_Mod_pointOf_79 (by decide) ?_
  refine a_iload d_Mod_pointOf_81 rfl ?_
  refine a_imul d_Mod_pointOf_83 ?_
  refine a_bipush (v := 22) d_Mod_pointOf_84 (by decide) ?_
  refine a_iload d_Mod_pointOf_86 rfl ?_
  refine a_imul d_Mod_pointOf_88 ?_
  refine a_iadd d_Mod_pointOf_89 ?_
  refine a_iload d_Mod_pointOf_90 rfl ?_
  refine a_iadd d_Mod_pointOf_92 ?_
  refine a_goto 133 d_Mod_pointOf_93 (by decide) ?_
  exact a_iret d_Mod_pointOf_133 rfl (by unfold rnC; rw [rdX_1]; simp only [iI_lit, iI_mul, iI_add]; congr 3; omega) rfl rfl
set_option maxRecDepth 20000 in
set_option maxHeartbeats 4000000 in
theorem s_Mod_point02 {ac by_ la ra il mn : Int32} {rs : Int64} {tb oa lm : Int32} {fr cx cy vv : Nat → Int32} {B S0 P nv : Nat} {X Y : Nat → Int} {cn : Nat → Nat}(k32 : h 32 = oMod ac by_ la ra il mn rs tb (nI nv) oa lm) (k39 : h 39 = aI 40 fr) (k44 : h 44 = aI 160 cx) (k45 : h 45 = aI 160 cy) (k49 : h 49 = aI 144 vv) (hB : B < 40) (m1 : fr B = nI S0) (hs : S0 + P ≤ 144) (hnv : 0 < nv) (hnP : nv ≤ P) (Rw : Row cx cy S0 P X Y) (tvx : ∀ k, k < nv → vv k = nI (cn k)) (hcn : ∀ k, k < nv → cn k < P){k : Nat} (hk : k < 500) : AMet V i_Mod_pointOf 1 [.ref 32, .int (nI B), .int (nI k), .int 2, .int 0] h n z (some (.int (rnC V X P nv cn 2 k))) (h) n z := by
  refine AMet.intro (Nat.le_refl _) (Nat.le_refl _) (by decide) (Nat.le_of_ble_eq_true rfl) rfl ?_
  refine a_iload d_Mod_pointOf_0 rfl ?_
  refine a_if_ne 16 d_Mod_pointOf_2 (by decide) (fun c2 => absurd c2 (fun q => q rfl)) (fun c2 => ?_)
  refine a_aload_n d_Mod_pointOf_5 rfl ?_
  refine a_iload_n d_Mod_pointOf_6 rfl ?_
  refine a_iload_n d_Mod_pointOf_7 rfl ?_
  refine a_iconst (v := 1) d_Mod_pointOf_8 (by decide) ?_
  refine a_isub d_Mod_pointOf_9 ?_
  refine a_cv0 (a := 32) d_Mod_pointOf_10 m_Mod_vx t_Mod_vx l_Mod_211 k32 rfl rfl (s_Mod_vx (K := k + nv - 1) k32 k39 k44 k45 k49 hB m1 hs hnv hnP Rw tvx hcn (show nI k - 1 + nI nv = nI (k + nv - 1) by rw [iI_nat, iI_1, iI_sub, iI_nat nv, iI_add, iI_nat]; congr 1; omega) (by omega)) rfl rfl ⟨Nat.le_of_ble_eq_true rfl, Nat.le_of_ble_eq_true rfl⟩ (Nat.le_of_ble_eq_true rfl)  ?_
  refine a_goto 24 d_Mod_pointOf_13 (by decide) ?_
  refine a_istore d_Mod_pointOf_24 (Nat.le_of_ble_eq_true rfl) (Nat.le_of_ble_eq_true rfl) rfl ?_
  refine a_iload d_Mod_pointOf_26 rfl ?_
  refine a_if_ne 40 d_Mod_pointOf_28 (by decide) (fun c28 => absurd c28 (fun q => q rfl)) (fun c28 => ?_)
  refine a_aload_n d_Mod_pointOf_31 rfl ?_
  refine a_iload_n d_Mod_pointOf_32 rfl ?_
  refine a_iload_n d_Mod_pointOf_33 rfl ?_
  refine a_cv0 (a := 32) d_Mod_pointOf_34 m_Mod_vx t_Mod_vx l_Mod_211 k32 rfl rfl (s_Mod_vx (K := k + nv) k32 k39 k44 k45 k49 hB m1 hs hnv hnP Rw tvx hcn (nI_add k nv) (by omega)) rfl rfl ⟨Nat.le_of_ble_eq_true rfl, Nat.le_of_ble_eq_true rfl⟩ (Nat.le_of_ble_eq_true rfl)  ?_
  rw [vx_add]
  refine a_goto 46 d_Mod_pointOf_37 (by decide) ?_
  refine a_istore d_Mod_pointOf_46 (Nat.le_of_ble_eq_true rfl) (Nat.le_of_ble_eq_true rfl) rfl ?_
  refine a_iload d_Mod_pointOf_48 rfl ?_
  refine a_if_ne 64 d_Mod_pointOf_50 (by decide) (fun c50 => absurd c50 (fun q => q rfl)) (fun c50 => ?_)
  refine a_aload_n d_Mod_pointOf_53 rfl ?_
  refine a_iload_n d_Mod_pointOf_54 rfl ?_
  refine a_iload_n d_Mod_pointOf_55 rfl ?_
  refine a_iconst (v := 1) d_Mod_pointOf_56 (by decide) ?_
  refine a_iadd d_Mod_pointOf_57 ?_
  refine a_cv0 (a := 32) d_Mod_pointOf_58 m_Mod_vx t_Mod_vx l_Mod_211 k32 rfl rfl (s_Mod_vx (K := k + 1 + nv) k32 k39 k44 k45 k49 hB m1 hs hnv hnP Rw tvx hcn (show nI k + 1 + nI nv = nI (k + 1 + nv) by rw [nI_1, nI_add]) (by omega)) rfl rfl ⟨Nat.le_of_ble_eq_true rfl, Nat.le_of_ble_eq_true rfl⟩ (Nat.le_of_ble_eq_true rfl)  ?_
  rw [vx_add]
  refine a_goto 72 d_Mod_pointOf_61 (by decide) ?_
  refine a_istore d_Mod_pointOf_72 (Nat.le_of_ble_eq_true rfl) (Nat.le_of_ble_eq_true rfl) rfl ?_
  refine a_iload_n d_Mod_pointOf_74 rfl ?_
  refine a_iconst (v := 1) d_Mod_pointOf_75 (by decide) ?_
  refine a_icmp_ne 96 d_Mod_pointOf_76 (by decide) (fun c76 => ?_) (fun c76 => absurd c76 (by decide))
  refine a_iload_n d_Mod_pointOf_96 rfl ?_
  refine a_iconst (v := 2) d_Mod_pointOf_97 (by decide) ?_
  refine a_icmp_ne 119 d_Mod_pointOf_98 (by decide) (fun c98 => absurd c98 (fun q => q rfl)) (fun c98 => ?_)
  refine a_iconst (v := 4) d_Mod_pointOf_101 (by decide) ?_
  refine a_iload d_Mod_pointOf_102 rfl ?_
  refine a_imul d_Mod_pointOf_104 ?_
  refine a_bipush (v := 24) d_Mod_pointOf_105 (by decide) ?_
  refine a_iload d_Mod_pointOf_107 rfl ?_
  refine a_imul d_Mod_pointOf_109 ?_
  refine a_iadd d_Mod_pointOf_110 ?_
  refine a_iconst (v := 4) d_Mod_pointOf_111 (by decide) ?_
  refine a_iload d_Mod_pointOf_112 rfl ?_
  refine a_imul d_Mod_pointOf_114 ?_
  refine a_iadd d_Mod_pointOf_115 ?_
  refine a_goto 133 d_Mod_pointOf_116 (by decide) ?_
  exact a_iret d_Mod_pointOf_133 rfl (by unfold rnC; rw [rdX_2]; simp only [iI_lit, iI_mul, iI_add]; congr 3; omega) rfl rfl
set_option maxRecDepth 20000 in
set_option maxHeartbeats 4000000 in
theorem s_Mod_point03 {ac by_ la ra il mn : Int32} {rs : Int64} {tb oa lm : Int32} {fr cx cy vv : Nat → Int32} {B S0 P nv : Nat} {X Y : Nat → Int} {cn : Nat → Nat}(k32 : h 32 = oMod ac by_ la ra il mn rs tb (nI nv) oa lm) (k39 : h 39 = aI 40 fr) (k44 : h 44 = aI 160 cx) (k45 : h 45 = aI 160 cy) (k49 : h 49 = aI 144 vv) (hB : B < 40) (m1 : fr B = nI S0) (hs : S0 + P ≤ 144) (hnv : 0 < nv) (hnP : nv ≤ P) (Rw : Row cx cy S0 P X Y) (tvx : ∀ k, k < nv → vv k = nI (cn k)) (hcn : ∀ k, k < nv → cn k < P){k : Nat} (hk : k < 500) : AMet V i_Mod_pointOf 1 [.ref 32, .int (nI B), .int (nI k), .int 3, .int 0] h n z (some (.int (rnC V X P nv cn 3 k))) (h) n z := by
  refine AMet.intro (Nat.le_refl _) (Nat.le_refl _) (by decide) (Nat.le_of_ble_eq_true rfl) rfl ?_
  refine a_iload d_Mod_pointOf_0 rfl ?_
  refine a_if_ne 16 d_Mod_pointOf_2 (by decide) (fun c2 => absurd c2 (fun q => q rfl)) (fun c2 => ?_)
  refine a_aload_n d_Mod_pointOf_5 rfl ?_
  refine a_iload_n d_Mod_pointOf_6 rfl ?_
  refine a_iload_n d_Mod_pointOf_7 rfl ?_
  refine a_iconst (v := 1) d_Mod_pointOf_8 (by decide) ?_
  refine a_isub d_Mod_pointOf_9 ?_
  refine a_cv0 (a := 32) d_Mod_pointOf_10 m_Mod_vx t_Mod_vx l_Mod_211 k32 rfl rfl (s_Mod_vx (K := k + nv - 1) k32 k39 k44 k45 k49 hB m1 hs hnv hnP Rw tvx hcn (show nI k - 1 + nI nv = nI (k + nv - 1) by rw [iI_nat, iI_1, iI_sub, iI_nat nv, iI_add, iI_nat]; congr 1; omega) (by omega)) rfl rfl ⟨Nat.le_of_ble_eq_true rfl, Nat.le_of_ble_eq_true rfl⟩ (Nat.le_of_ble_eq_true rfl)  ?_
  refine a_goto 24 d_Mod_pointOf_13 (by decide) ?_
  refine a_istore d_Mod_pointOf_24 (Nat.le_of_ble_eq_true rfl) (Nat.le_of_ble_eq_true rfl) rfl ?_
  refine a_iload d_Mod_pointOf_26 rfl ?_
  refine a_if_ne 40 d_Mod_pointOf_28 (by decide) (fun c28 => absurd c28 (fun q => q rfl)) (fun c28 => ?_)
  refine a_aload_n d_Mod_pointOf_31 rfl ?_
  refine a_iload_n d_Mod_pointOf_32 rfl ?_
  refine a_iload_n d_Mod_pointOf_33 rfl ?_
  refine a_cv0 (a := 32) d_Mod_pointOf_34 m_Mod_vx t_Mod_vx l_Mod_211 k32 rfl rfl (s_Mod_vx (K := k + nv) k32 k39 k44 k45 k49 hB m1 hs hnv hnP Rw tvx hcn (nI_add k nv) (by omega)) rfl rfl ⟨Nat.le_of_ble_eq_true rfl, Nat.le_of_ble_eq_true rfl⟩ (Nat.le_of_ble_eq_true rfl)  ?_
  rw [vx_add]
  refine a_goto 46 d_Mod_pointOf_37 (by decide) ?_
  refine a_istore d_Mod_pointOf_46 (Nat.le_of_ble_eq_true rfl) (Nat.le_of_ble_eq_true rfl) rfl ?_
  refine a_iload d_Mod_pointOf_48 rfl ?_
  refine a_if_ne 64 d_Mod_pointOf_50 (by decide) (fun c50 => absurd c50 (fun q => q rfl)) (fun c50 => ?_)
  refine a_aload_n d_Mod_pointOf_53 rfl ?_
  refine a_iload_n d_Mod_pointOf_54 rfl ?_
  refine a_iload_n d_Mod_pointOf_55 rfl ?_
  refine a_iconst (v := 1) d_Mod_pointOf_56 (by decide) ?_
  refine a_iadd d_Mod_pointOf_57 ?_
  refine a_cv0 (a := 32) d_Mod_pointOf_58 m_Mod_vx t_Mod_vx l_Mod_211 k32 rfl rfl (s_Mod_vx (K := k + 1 + nv) k32 k39 k44 k45 k49 hB m1 hs hnv hnP Rw tvx hcn (show nI k + 1 + nI nv = nI (k + 1 + nv) by rw [nI_1, nI_add]) (by omega)) rfl rfl ⟨Nat.le_of_ble_eq_true rfl, Nat.le_of_ble_eq_true rfl⟩ (Nat.le_of_ble_eq_true rfl)  ?_
  rw [vx_add]
  refine a_goto 72 d_Mod_pointOf_61 (by decide) ?_
  refine a_istore d_Mod_pointOf_72 (Nat.le_of_ble_eq_true rfl) (Nat.le_of_ble_eq_true rfl) rfl ?_
  refine a_iload_n d_Mod_pointOf_74 rfl ?_
  refine a_iconst (v := 1) d_Mod_pointOf_75 (by decide) ?_
  refine a_icmp_ne 96 d_Mod_pointOf_76 (by decide) (fun c76 => ?_) (fun c76 => absurd c76 (by decide))
  refine a_iload_n d_Mod_pointOf_96 rfl ?_
  refine a_iconst (v := 2) d_Mod_pointOf_97 (by decide) ?_
  refine a_icmp_ne 119 d_Mod_pointOf_98 (by decide) (fun c98 => ?_) (fun c98 => absurd c98 (by decide))
  refine a_iload d_Mod_pointOf_119 rfl ?_
  refine a_bipush (v := 22) d_Mod_pointOf_121 (by decide) ?_
  refine a_iload d_Mod_pointOf_123 rfl ?_
  refine a_imul d_Mod_pointOf_125 ?_
  refine a_iadd d_Mod_pointOf_126 ?_
  refine a_bipush (v := 9) d_Mod_pointOf_127 (by decide) ?_
  refine a_iload d_Mod_pointOf_129 rfl ?_
  refine a_imul d_Mod_pointOf_131 ?_
  refine a_iadd d_Mod_pointOf_132 ?_
  exact a_iret d_Mod_pointOf_133 rfl (by unfold rnC; rw [rdX_3]; simp only [iI_lit, iI_mul, iI_add]; congr 3; omega) rfl rfl
set_option maxRecDepth 20000 in
set_option maxHeartbeats 4000000 in
theorem s_Mod_point11 {ac by_ la ra il mn : Int32} {rs : Int64} {tb oa lm : Int32} {fr cx cy vv : Nat → Int32} {B S0 P nv : Nat} {X Y : Nat → Int} {cn : Nat → Nat}(k32 : h 32 = oMod ac by_ la ra il mn rs tb (nI nv) oa lm) (k39 : h 39 = aI 40 fr) (k44 : h 44 = aI 160 cx) (k45 : h 45 = aI 160 cy) (k49 : h 49 = aI 144 vv) (hB : B < 40) (m1 : fr B = nI S0) (hs : S0 + P ≤ 144) (hnv : 0 < nv) (hnP : nv ≤ P) (Rw : Row cx cy S0 P X Y) (tvx : ∀ k, k < nv → vv k = nI (cn k)) (hcn : ∀ k, k < nv → cn k < P){k : Nat} (hk : k < 500) : AMet V i_Mod_pointOf 1 [.ref 32, .int (nI B), .int (nI k), .int 1, .int 1] h n z (some (.int (rnC V Y P nv cn 1 k))) (h) n z := by
  refine AMet.intro (Nat.le_refl _) (Nat.le_refl _) (by decide) (Nat.le_of_ble_eq_true rfl) rfl ?_
  refine a_iload d_Mod_pointOf_0 rfl ?_
  refine a_if_ne 16 d_Mod_pointOf_2 (by decide) (fun c2 => ?_) (fun c2 => absurd c2 (by decide))
  refine a_aload_n d_Mod_pointOf_16 rfl ?_
  refine a_iload_n d_Mod_pointOf_17 rfl ?_
  refine a_iload_n d_Mod_pointOf_18 rfl ?_
  refine a_iconst (v := 1) d_Mod_pointOf_19 (by decide) ?_
  refine a_isub d_Mod_pointOf_20 ?_
  refine a_cv0 (a := 32) d_Mod_pointOf_21 m_Mod_vy t_Mod_vy l_Mod_214 k32 rfl rfl (s_Mod_vy (K := k + nv - 1) k32 k39 k44 k45 k49 hB m1 hs hnv hnP Rw tvx hcn (show nI k - 1 + nI nv = nI (k + nv - 1) by rw [iI_nat, iI_1, iI_sub, iI_nat nv, iI_add, iI_nat]; congr 1; omega) (by omega)) rfl rfl ⟨Nat.le_of_ble_eq_true rfl, Nat.le_of_ble_eq_true rfl⟩ (Nat.le_of_ble_eq_true rfl)  ?_
  refine a_istore d_Mod_pointOf_24 (Nat.le_of_ble_eq_true rfl) (Nat.le_of_ble_eq_true rfl) rfl ?_
  refine a_iload d_Mod_pointOf_26 rfl ?_
  refine a_if_ne 40 d_Mod_pointOf_28 (by decide) (fun c28 => ?_) (fun c28 => absurd c28 (by decide))
  refine a_aload_n d_Mod_pointOf_40 rfl ?_
  refine a_iload_n d_Mod_pointOf_41 rfl ?_
  refine a_iload_n d_Mod_pointOf_42 rfl ?_
  refine a_cv0 (a := 32) d_Mod_pointOf_43 m_Mod_vy t_Mod_vy l_Mod_214 k32 rfl rfl (s_Mod_vy (K := k + nv) k32 k39 k44 k45 k49 hB m1 hs hnv hnP Rw tvx hcn (nI_add k nv) (by omega)) rfl rfl ⟨Nat.le_of_ble_eq_true rfl, Nat.le_of_ble_eq_true rfl⟩ (Nat.le_of_ble_eq_true rfl)  ?_
  rw [vx_add]
  refine a_istore d_Mod_pointOf_46 (Nat.le_of_ble_eq_true rfl) (Nat.le_of_ble_eq_true rfl) rfl ?_
  refine a_iload d_Mod_pointOf_48 rfl ?_
  refine a_if_ne 64 d_Mod_pointOf_50 (by decide) (fun c50 => ?_) (fun c50 => absurd c50 (by decide))
  refine a_aload_n d_Mod_pointOf_64 rfl ?_
  refine a_iload_n d_Mod_pointOf_65 rfl ?_
  refine a_iload_n d_Mod_pointOf_66 rfl ?_
  refine a_iconst (v := 1) d_Mod_pointOf_67 (by decide) ?_
  refine a_iadd d_Mod_pointOf_68 ?_
  refine a_cv0 (a := 32) d_Mod_pointOf_69 m_Mod_vy t_Mod_vy l_Mod_214 k32 rfl rfl (s_Mod_vy (K := k + 1 + nv) k32 k39 k44 k45 k49 hB m1 hs hnv hnP Rw tvx hcn (show nI k + 1 + nI nv = nI (k + 1 + nv) by rw [nI_1, nI_add]) (by omega)) rfl rfl ⟨Nat.le_of_ble_eq_true rfl, Nat.le_of_ble_eq_true rfl⟩ (Nat.le_of_ble_eq_true rfl)  ?_
  rw [vx_add]
  refine a_istore d_Mod_pointOf_72 (Nat.le_of_ble_eq_true rfl) (Nat.le_of_ble_eq_true rfl) rfl ?_
  refine a_iload_n d_Mod_pointOf_74 rfl ?_
  refine a_iconst (v := 1) d_Mod_pointOf_75 (by decide) ?_
  refine a_icmp_ne 96 d_Mod_pointOf_76 (by decide) (fun c76 => absurd c76 (fun q => q rfl)) (fun c76 => ?_)
  refine a_bipush (v := 9) d_Mod_pointOf_79 (by decide) ?_
  refine a_iload d_Mod_pointOf_81 rfl ?_
  refine a_imul d_Mod_pointOf_83 ?_
  refine a_bipush (v := 22) d_Mod_pointOf_84 (by decide) ?_
  refine a_iload d_Mod_pointOf_86 rfl ?_
  refine a_imul d_Mod_pointOf_88 ?_
  refine a_iadd d_Mod_pointOf_89 ?_
  refine a_iload d_Mod_pointOf_90 rfl ?_
  refine a_iadd d_Mod_pointOf_92 ?_
  refine a_goto 133 d_Mod_pointOf_93 (by decide) ?_
  exact a_iret d_Mod_pointOf_133 rfl (by unfold rnC; rw [rdX_1]; simp only [iI_lit, iI_mul, iI_add]; congr 3; omega) rfl rfl
set_option maxRecDepth 20000 in
set_option maxHeartbeats 4000000 in
theorem s_Mod_point12 {ac by_ la ra il mn : Int32} {rs : Int64} {tb oa lm : Int32} {fr cx cy vv : Nat → Int32} {B S0 P nv : Nat} {X Y : Nat → Int} {cn : Nat → Nat}(k32 : h 32 = oMod ac by_ la ra il mn rs tb (nI nv) oa lm) (k39 : h 39 = aI 40 fr) (k44 : h 44 = aI 160 cx) (k45 : h 45 = aI 160 cy) (k49 : h 49 = aI 144 vv) (hB : B < 40) (m1 : fr B = nI S0) (hs : S0 + P ≤ 144) (hnv : 0 < nv) (hnP : nv ≤ P) (Rw : Row cx cy S0 P X Y) (tvx : ∀ k, k < nv → vv k = nI (cn k)) (hcn : ∀ k, k < nv → cn k < P){k : Nat} (hk : k < 500) : AMet V i_Mod_pointOf 1 [.ref 32, .int (nI B), .int (nI k), .int 2, .int 1] h n z (some (.int (rnC V Y P nv cn 2 k))) (h) n z := by
  refine AMet.intro (Nat.le_refl _) (Nat.le_refl _) (by decide) (Nat.le_of_ble_eq_true rfl) rfl ?_
  refine a_iload d_Mod_pointOf_0 rfl ?_
  refine a_if_ne 16 d_Mod_pointOf_2 (by decide) (fun c2 => ?_) (fun c2 => absurd c2 (by decide))
  refine a_aload_n d_Mod_pointOf_16 rfl ?_
  refine a_iload_n d_Mod_pointOf_17 rfl ?_
  refine a_iload_n d_Mod_pointOf_18 rfl ?_
  refine a_iconst (v := 1) d_Mod_pointOf_19 (by decide) ?_
  refine a_isub d_Mod_pointOf_20 ?_
  refine a_cv0 (a := 32) d_Mod_pointOf_21 m_Mod_vy t_Mod_vy l_Mod_214 k32 rfl rfl (s_Mod_vy (K := k + nv - 1) k32 k39 k44 k45 k49 hB m1 hs hnv hnP Rw tvx hcn (show nI k - 1 + nI nv = nI (k + nv - 1) by rw [iI_nat, iI_1, iI_sub, iI_nat nv, iI_add, iI_nat]; congr 1; omega) (by omega)) rfl rfl ⟨Nat.le_of_ble_eq_true rfl, Nat.le_of_ble_eq_true rfl⟩ (Nat.le_of_ble_eq_true rfl)  ?_
  refine a_istore d_Mod_pointOf_24 (Nat.le_of_ble_eq_true rfl) (Nat.le_of_ble_eq_true rfl) rfl ?_
  refine a_iload d_Mod_pointOf_26 rfl ?_
  refine a_if_ne 40 d_Mod_pointOf_28 (by decide) (fun c28 => ?_) (fun c28 => absurd c28 (by decide))
  refine a_aload_n d_Mod_pointOf_40 rfl ?_
  refine a_iload_n d_Mod_pointOf_41 rfl ?_
  refine a_iload_n d_Mod_pointOf_42 rfl ?_
  refine a_cv0 (a := 32) d_Mod_pointOf_43 m_Mod_vy t_Mod_vy l_Mod_214 k32 rfl rfl (s_Mod_vy (K := k + nv) k32 k39 k44 k45 k49 hB m1 hs hnv hnP Rw tvx hcn (nI_add k nv) (by omega)) rfl rfl ⟨Nat.le_of_ble_eq_true rfl, Nat.le_of_ble_eq_true rfl⟩ (Nat.le_of_ble_eq_true rfl)  ?_
  rw [vx_add]
  refine a_istore d_Mod_pointOf_46 (Nat.le_of_ble_eq_true rfl) (Nat.le_of_ble_eq_true rfl) rfl ?_
  refine a_iload d_Mod_pointOf_48 rfl ?_
  refine a_if_ne 64 d_Mod_pointOf_50 (by decide) (fun c50 => ?_) (fun c50 => absurd c50 (by decide))
  refine a_aload_n d_Mod_pointOf_64 rfl ?_
  refine a_iload_n d_Mod_pointOf_65 rfl ?_
  refine a_iload_n d_Mod_pointOf_66 rfl ?_
  refine a_iconst (v := 1) d_Mod_pointOf_67 (by decide) ?_
  refine a_iadd d_Mod_pointOf_68 ?_
  refine a_cv0 (a := 32) d_Mod_pointOf_69 m_Mod_vy t_Mod_vy l_Mod_214 k32 rfl rfl (s_Mod_vy (K := k + 1 + nv) k32 k39 k44 k45 k49 hB m1 hs hnv hnP Rw tvx hcn (show nI k + 1 + nI nv = nI (k + 1 + nv) by rw [nI_1, nI_add]) (by omega)) rfl rfl ⟨Nat.le_of_ble_eq_true rfl, Nat.le_of_ble_eq_true rfl⟩ (Nat.le_of_ble_eq_true rfl)  ?_
  rw [vx_add]
  refine a_istore d_Mod_pointOf_72 (Nat.le_of_ble_eq_true rfl) (Nat.le_of_ble_eq_true rfl) rfl ?_
  refine a_iload_n d_Mod_pointOf_74 rfl ?_
  refine a_iconst (v := 1) d_Mod_pointOf_75 (by decide) ?_
  refine a_icmp_ne 96 d_Mod_pointOf_76 (by decide) (fun c76 => ?_) (fun c76 => absurd c76 (by decide))
  refine a_iload_n d_Mod_pointOf_96 rfl ?_
  refine a_iconst (v := 2) d_Mod_pointOf_97 (by decide) ?_
  refine a_icmp_ne 119 d_Mod_pointOf_98 (by decide) (fun c98 => absurd c98 (fun q => q rfl)) (fun c98 => ?_)
  refine a_iconst (v := 4) d_Mod_pointOf_101 (by decide) ?_
  refine a_iload d_Mod_pointOf_102 rfl ?_
  refine a_imul d_Mod_pointOf_104 ?_
  refine a_bipush (v := 24) d_Mod_pointOf_105 (by decide) ?_
  refine a_iload d_Mod_pointOf_107 rfl ?_
  refine a_imul d_Mod_pointOf_109 ?_
  refine a_iadd d_Mod_pointOf_110 ?_
  refine a_iconst (v := 4) d_Mod_pointOf_111 (by decide) ?_
  refine a_iload d_Mod_pointOf_112 rfl ?_
  refine a_imul d_Mod_pointOf_114 ?_
  refine a_iadd d_Mod_pointOf_115 ?_
  refine a_goto 133 d_Mod_pointOf_116 (by decide) ?_
  exact a_iret d_Mod_pointOf_133 rfl (by unfold rnC; rw [rdX_2]; simp only [iI_lit, iI_mul, iI_add]; congr 3; omega) rfl rfl
set_option maxRecDepth 20000 in
set_option maxHeartbeats 4000000 in
theorem s_Mod_point13 {ac by_ la ra il mn : Int32} {rs : Int64} {tb oa lm : Int32} {fr cx cy vv : Nat → Int32} {B S0 P nv : Nat} {X Y : Nat → Int} {cn : Nat → Nat}(k32 : h 32 = oMod ac by_ la ra il mn rs tb (nI nv) oa lm) (k39 : h 39 = aI 40 fr) (k44 : h 44 = aI 160 cx) (k45 : h 45 = aI 160 cy) (k49 : h 49 = aI 144 vv) (hB : B < 40) (m1 : fr B = nI S0) (hs : S0 + P ≤ 144) (hnv : 0 < nv) (hnP : nv ≤ P) (Rw : Row cx cy S0 P X Y) (tvx : ∀ k, k < nv → vv k = nI (cn k)) (hcn : ∀ k, k < nv → cn k < P){k : Nat} (hk : k < 500) : AMet V i_Mod_pointOf 1 [.ref 32, .int (nI B), .int (nI k), .int 3, .int 1] h n z (some (.int (rnC V Y P nv cn 3 k))) (h) n z := by
  refine AMet.intro (Nat.le_refl _) (Nat.le_refl _) (by decide) (Nat.le_of_ble_eq_true rfl) rfl ?_
  refine a_iload d_Mod_pointOf_0 rfl ?_
  refine a_if_ne 16 d_Mod_pointOf_2 (by decide) (fun c2 => ?_) (fun c2 => absurd c2 (by decide))
  refine a_aload_n d_Mod_pointOf_16 rfl ?_
  refine a_iload_n d_Mod_pointOf_17 rfl ?_
  refine a_iload_n d_Mod_pointOf_18 rfl ?_
  refine a_iconst (v := 1) d_Mod_pointOf_19 (by decide) ?_
  refine a_isub d_Mod_pointOf_20 ?_
  refine a_cv0 (a := 32) d_Mod_pointOf_21 m_Mod_vy t_Mod_vy l_Mod_214 k32 rfl rfl (s_Mod_vy (K := k + nv - 1) k32 k39 k44 k45 k49 hB m1 hs hnv hnP Rw tvx hcn (show nI k - 1 + nI nv = nI (k + nv - 1) by rw [iI_nat, iI_1, iI_sub, iI_nat nv, iI_add, iI_nat]; congr 1; omega) (by omega)) rfl rfl ⟨Nat.le_of_ble_eq_true rfl, Nat.le_of_ble_eq_true rfl⟩ (Nat.le_of_ble_eq_true rfl)  ?_
  refine a_istore d_Mod_pointOf_24 (Nat.le_of_ble_eq_true rfl) (Nat.le_of_ble_eq_true rfl) rfl ?_
  refine a_iload d_Mod_pointOf_26 rfl ?_
  refine a_if_ne 40 d_Mod_pointOf_28 (by decide) (fun c28 => ?_) (fun c28 => absurd c28 (by decide))
  refine a_aload_n d_Mod_pointOf_40 rfl ?_
  refine a_iload_n d_Mod_pointOf_41 rfl ?_
  refine a_iload_n d_Mod_pointOf_42 rfl ?_
  refine a_cv0 (a := 32) d_Mod_pointOf_43 m_Mod_vy t_Mod_vy l_Mod_214 k32 rfl rfl (s_Mod_vy (K := k + nv) k32 k39 k44 k45 k49 hB m1 hs hnv hnP Rw tvx hcn (nI_add k nv) (by omega)) rfl rfl ⟨Nat.le_of_ble_eq_true rfl, Nat.le_of_ble_eq_true rfl⟩ (Nat.le_of_ble_eq_true rfl)  ?_
  rw [vx_add]
  refine a_istore d_Mod_pointOf_46 (Nat.le_of_ble_eq_true rfl) (Nat.le_of_ble_eq_true rfl) rfl ?_
  refine a_iload d_Mod_pointOf_48 rfl ?_
  refine a_if_ne 64 d_Mod_pointOf_50 (by decide) (fun c50 => ?_) (fun c50 => absurd c50 (by decide))
  refine a_aload_n d_Mod_pointOf_64 rfl ?_
  refine a_iload_n d_Mod_pointOf_65 rfl ?_
  refine a_iload_n d_Mod_pointOf_66 rfl ?_
  refine a_iconst (v := 1) d_Mod_pointOf_67 (by decide) ?_
  refine a_iadd d_Mod_pointOf_68 ?_
  refine a_cv0 (a := 32) d_Mod_pointOf_69 m_Mod_vy t_Mod_vy l_Mod_214 k32 rfl rfl (s_Mod_vy (K := k + 1 + nv) k32 k39 k44 k45 k49 hB m1 hs hnv hnP Rw tvx hcn (show nI k + 1 + nI nv = nI (k + 1 + nv) by rw [nI_1, nI_add]) (by omega)) rfl rfl ⟨Nat.le_of_ble_eq_true rfl, Nat.le_of_ble_eq_true rfl⟩ (Nat.le_of_ble_eq_true rfl)  ?_
  rw [vx_add]
  refine a_istore d_Mod_pointOf_72 (Nat.le_of_ble_eq_true rfl) (Nat.le_of_ble_eq_true rfl) rfl ?_
  refine a_iload_n d_Mod_pointOf_74 rfl ?_
  refine a_iconst (v := 1) d_Mod_pointOf_75 (by decide) ?_
  refine a_icmp_ne 96 d_Mod_pointOf_76 (by decide) (fun c76 => ?_) (fun c76 => absurd c76 (by decide))
  refine a_iload_n d_Mod_pointOf_96 rfl ?_
  refine a_iconst (v := 2) d_Mod_pointOf_97 (by decide) ?_
  refine a_icmp_ne 119 d_Mod_pointOf_98 (by decide) (fun c98 => ?_) (fun c98 => absurd c98 (by decide))
  refine a_iload d_Mod_pointOf_119 rfl ?_
  refine a_bipush (v := 22) d_Mod_pointOf_121 (by decide) ?_
  refine a_iload d_Mod_pointOf_123 rfl ?_
  refine a_imul d_Mod_pointOf_125 ?_
  refine a_iadd d_Mod_pointOf_126 ?_
  refine a_bipush (v := 9) d_Mod_pointOf_127 (by decide) ?_
  refine a_iload d_Mod_pointOf_129 rfl ?_
  refine a_imul d_Mod_pointOf_131 ?_
  refine a_iadd d_Mod_pointOf_132 ?_
  exact a_iret d_Mod_pointOf_133 rfl (by unfold rnC; rw [rdX_3]; simp only [iI_lit, iI_mul, iI_add]; congr 3; omega) rfl rfl
end
