/-! THE MODEL's vertices: printed by wip/whole/t70.py -/
theorem mGr_eq (a b : Int32) : mGr a b = fGr a b := by
  unfold mGr fGr fMax
  rw [show fSz a = fAbs a from rfl, show fSz b = fAbs b from rfl]
  by_cases c : fAbs a ≤ fAbs b
  · rw [if_pos c]
    by_cases d : fAbs a < fAbs b
    · rw [if_pos d]
    · rw [if_neg d]
      exact Int32.le_antisymm (Int32.not_lt.mp d) c
  · rw [if_neg c, if_neg (fun q => c (Int32.le_of_lt q))]
theorem vx_add (X : Nat → Int) (P : Nat) {nv : Nat} (cn : Nat → Nat) (K : Nat) : vx X P nv cn (K + nv) = vx X P nv cn K := by
  unfold vx
  rw [Nat.add_mod_right]
theorem rdX_1 (V : VV) (u v w : Int32) : rdX V 1 u v w = 9 * (u + v) + 2 * 6 * v + 1 * (v + w) := rfl
theorem rdX_2 (V : VV) (u v w : Int32) : rdX V 2 u v w = 4 * (u + v) + 2 * 8 * v + 4 * (v + w) := rfl
theorem rdX_3 (V : VV) (u v w : Int32) : rdX V 3 u v w = 1 * (u + v) + 2 * 6 * v + 9 * (v + w) := rfl
theorem rdX_0 (V : VV) (u v w : Int32) : rdX V 0 u v w = 16 * (u + v) + 2 * 0 * v + 0 * (v + w) := rfl
theorem rdX_4 (V : VV) (u v w : Int32) : rdX V 4 u v w = 0 * (u + v) + 2 * 0 * v + 16 * (v + w) := rfl
/-- the bends of a polygon are none of them flat upon themselves -/
def Bnd (X Y : Nat → Int) (P nv : Nat) (cn : Nat → Nat) : Prop := ∀ k, ¬ (vx X P nv cn (k + 1) = vx X P nv cn k ∧ vx Y P nv cn (k + 1) = vx Y P nv cn k)
theorem fGr_i {a b : Int} (ha : -1000000 < a ∧ a < 1000000) (hb : -1000000 < b ∧ b < 1000000) : fGr (iI a) (iI b) = nI (max a.natAbs b.natAbs) := by
  unfold fGr
  rw [show fAbs (iI a) = fSz (iI a) from rfl, show fAbs (iI b) = fSz (iI b) from rfl, fSz_i (by omega) (by omega), fSz_i (by omega) (by omega)]
  exact fMax_n (by omega) (by omega)
/-- the bend at vertex k, as the model reckons it -/
def mTn (ux uy vx vy wx wy : Int32) : Int32 := 8 * fSz ((vx - ux) * (wy - vy) - (vy - uy) * (wx - vx)) / (mGr (vx - ux) (vy - uy) + mGr (wx - vx) (wy - vy))
theorem mTn_eq {ux uy vx vy wx wy : Int32} (h : ¬ fGr (vx - ux) (vy - uy) + fGr (wx - vx) (wy - vy) = 0) : mTn ux uy vx vy wx wy = fTurn ux uy vx vy wx wy := by
  unfold mTn fTurn
  rw [if_neg h, mGr_eq, mGr_eq]
  rfl
theorem bnd_ne {X Y : Nat → Int} (S : Sh X Y) {P nv : Nat} {cn : Nat → Nat} (hnv : 0 < nv) (b : Bnd X Y P nv cn) (k : Nat) : ¬ fGr (iI (vx X P nv cn k) - iI (vx X P nv cn (k + nv - 1))) (iI (vx Y P nv cn k) - iI (vx Y P nv cn (k + nv - 1))) + fGr (iI (vx X P nv cn (k + 1)) - iI (vx X P nv cn k)) (iI (vx Y P nv cn (k + 1)) - iI (vx Y P nv cn k)) = 0 := by
  have s1 := S (cn ((k + 1) % nv) % P)
  have s2 := S (cn (k % nv) % P)
  have s3 := S (cn ((k + nv - 1) % nv) % P)
  have bk := b k
  rw [iI_sub, iI_sub, iI_sub, iI_sub]
  unfold vx at *
  rw [fGr_i (by omega) (by omega), fGr_i (by omega) (by omega), nI_add]
  exact nI_ne0 (by omega) (by omega)
section
variable {V : VV} {h : AH} {n z : Nat}

set_option maxRecDepth 20000 in
set_option maxHeartbeats 4000000 in
theorem s_Mod_vx {ac by_ la ra il mn : Int32} {rs : Int64} {tb oa lm : Int32} {fr cx cy vv : Nat → Int32} {B S0 P nv : Nat} {X Y : Nat → Int} {cn : Nat → Nat}(k32 : h 32 = oMod ac by_ la ra il mn rs tb (nI nv) oa lm) (k39 : h 39 = aI 40 fr) (k44 : h 44 = aI 160 cx) (k45 : h 45 = aI 160 cy) (k49 : h 49 = aI 144 vv) (hB : B < 40) (m1 : fr B = nI S0) (hs : S0 + P ≤ 144) (hnv : 0 < nv) (hnP : nv ≤ P) (Rw : Row cx cy S0 P X Y) (tvx : ∀ k, k < nv → vv k = nI (cn k)) (hcn : ∀ k, k < nv → cn k < P){K : Nat} {v : Int32} (hK : v + nI nv = nI K) (hK2 : K < 1000) : AMet V i_Mod_vx 0 [.ref 32, .int (nI B), .int v] h n z (some (.int (iI (vx X P nv cn (K))))) (h) n z := by
  have hm := Nat.mod_lt K hnv
  have rm : nI K - nI K / nI nv * nI nv = nI (K % nv) := pk_rem (by omega) hnv (by omega)
  have hc := hcn _ hm
  refine AMet.intro (Nat.le_refl _) (Nat.le_refl _) (by decide) (Nat.le_of_ble_eq_true rfl) rfl ?_
  refine a_aload_n d_Mod_vx_0 rfl ?_
  refine a_getf d_Mod_vx_1 f_Mod_44 k32 rfl ?_
  refine a_aload_n d_Mod_vx_4 rfl ?_
  refine a_getf d_Mod_vx_5 f_Mod_28 k32 rfl ?_
  refine a_iload_n d_Mod_vx_8 rfl ?_
  refine a_iald d_Mod_vx_9 k39 (nI_in hB (by decide)) ?_
  rw [nI_clamp (by omega), m1]
  refine a_aload_n d_Mod_vx_10 rfl ?_
  refine a_getf d_Mod_vx_11 f_Mod_59 k32 rfl ?_
  refine a_iload_n d_Mod_vx_14 rfl ?_
  refine a_aload_n d_Mod_vx_15 rfl ?_
  refine a_getf d_Mod_vx_16 f_Mod_205 k32 rfl ?_
  refine a_iadd d_Mod_vx_19 ?_
  rw [hK]
  refine a_aload_n d_Mod_vx_20 rfl ?_
  refine a_getf d_Mod_vx_21 f_Mod_205 k32 rfl ?_
  refine a_irem d_Mod_vx_24 (nI_ne0 hnv (by omega)) ?_
  rw [rm]
  refine a_iald d_Mod_vx_25 k49 (nI_in (show K % nv < 144 by omega) (by decide)) ?_
  rw [nI_clamp (by omega), tvx _ hm]
  refine a_iadd d_Mod_vx_26 ?_
  rw [nI_add]
  refine a_iald d_Mod_vx_27 k44 (nI_in (show S0 + cn (K % nv) < 160 by omega) (by decide)) ?_
  rw [nI_clamp (by omega), (Rw _ hc).1]
  exact a_iret d_Mod_vx_28 rfl (by unfold vx; rw [Nat.mod_eq_of_lt hc]) rfl rfl
set_option maxRecDepth 20000 in
set_option maxHeartbeats 4000000 in
theorem s_Mod_vy {ac by_ la ra il mn : Int32} {rs : Int64} {tb oa lm : Int32} {fr cx cy vv : Nat → Int32} {B S0 P nv : Nat} {X Y : Nat → Int} {cn : Nat → Nat}(k32 : h 32 = oMod ac by_ la ra il mn rs tb (nI nv) oa lm) (k39 : h 39 = aI 40 fr) (k44 : h 44 = aI 160 cx) (k45 : h 45 = aI 160 cy) (k49 : h 49 = aI 144 vv) (hB : B < 40) (m1 : fr B = nI S0) (hs : S0 + P ≤ 144) (hnv : 0 < nv) (hnP : nv ≤ P) (Rw : Row cx cy S0 P X Y) (tvx : ∀ k, k < nv → vv k = nI (cn k)) (hcn : ∀ k, k < nv → cn k < P){K : Nat} {v : Int32} (hK : v + nI nv = nI K) (hK2 : K < 1000) : AMet V i_Mod_vy 0 [.ref 32, .int (nI B), .int v] h n z (some (.int (iI (vx Y P nv cn (K))))) (h) n z := by
  have hm := Nat.mod_lt K hnv
  have rm : nI K - nI K / nI nv * nI nv = nI (K % nv) := pk_rem (by omega) hnv (by omega)
  have hc := hcn _ hm
  refine AMet.intro (Nat.le_refl _) (Nat.le_refl _) (by decide) (Nat.le_of_ble_eq_true rfl) rfl ?_
  refine a_aload_n d_Mod_vy_0 rfl ?_
  refine a_getf d_Mod_vy_1 f_Mod_47 k32 rfl ?_
  refine a_aload_n d_Mod_vy_4 rfl ?_
  refine a_getf d_Mod_vy_5 f_Mod_28 k32 rfl ?_
  refine a_iload_n d_Mod_vy_8 rfl ?_
  refine a_iald d_Mod_vy_9 k39 (nI_in hB (by decide)) ?_
  rw [nI_clamp (by omega), m1]
  refine a_aload_n d_Mod_vy_10 rfl ?_
  refine a_getf d_Mod_vy_11 f_Mod_59 k32 rfl ?_
  refine a_iload_n d_Mod_vy_14 rfl ?_
  refine a_aload_n d_Mod_vy_15 rfl ?_
  refine a_getf d_Mod_vy_16 f_Mod_205 k32 rfl ?_
  refine a_iadd d_Mod_vy_19 ?_
  rw [hK]
  refine a_aload_n d_Mod_vy_20 rfl ?_
  refine a_getf d_Mod_vy_21 f_Mod_205 k32 rfl ?_
  refine a_irem d_Mod_vy_24 (nI_ne0 hnv (by omega)) ?_
  rw [rm]
  refine a_iald d_Mod_vy_25 k49 (nI_in (show K % nv < 144 by omega) (by decide)) ?_
  rw [nI_clamp (by omega), tvx _ hm]
  refine a_iadd d_Mod_vy_26 ?_
  rw [nI_add]
  refine a_iald d_Mod_vy_27 k45 (nI_in (show S0 + cn (K % nv) < 160 by omega) (by decide)) ?_
  rw [nI_clamp (by omega), (Rw _ hc).2]
  exact a_iret d_Mod_vy_28 rfl (by unfold vx; rw [Nat.mod_eq_of_lt hc]) rfl rfl
set_option maxRecDepth 20000 in
set_option maxHeartbeats 4000000 in
theorem s_Mod_turnOf {ac by_ la ra il mn : Int32} {rs : Int64} {tb oa lm : Int32} {fr cx cy vv : Nat → Int32} {B S0 P nv : Nat} {X Y : Nat → Int} {cn : Nat → Nat}(k32 : h 32 = oMod ac by_ la ra il mn rs tb (nI nv) oa lm) (k39 : h 39 = aI 40 fr) (k44 : h 44 = aI 160 cx) (k45 : h 45 = aI 160 cy) (k49 : h 49 = aI 144 vv) (hB : B < 40) (m1 : fr B = nI S0) (hs : S0 + P ≤ 144) (hnv : 0 < nv) (hnP : nv ≤ P) (Rw : Row cx cy S0 P X Y) (tvx : ∀ k, k < nv → vv k = nI (cn k)) (hcn : ∀ k, k < nv → cn k < P){k : Nat} (hk : k < 500) (S : Sh X Y) (bn : Bnd X Y P nv cn) : AMet V i_Mod_turnOf 2 [.ref 32, .int (nI B), .int (nI k)] h n z (some (.int (tnC X Y P nv cn k))) (h) n z := by
  refine AMet.intro (Nat.le_refl _) (Nat.le_refl _) (by decide) (Nat.le_of_ble_eq_true rfl) rfl ?_
  refine a_aload_n d_Mod_turnOf_0 rfl ?_
  refine a_iload_n d_Mod_turnOf_1 rfl ?_
  refine a_iload_n d_Mod_turnOf_2 rfl ?_
  refine a_cv0 (a := 32) d_Mod_turnOf_3 m_Mod_vx t_Mod_vx l_Mod_211 k32 rfl rfl (s_Mod_vx (K := k + nv) k32 k39 k44 k45 k49 hB m1 hs hnv hnP Rw tvx hcn (nI_add k nv) (by omega)) rfl rfl ⟨Nat.le_of_ble_eq_true rfl, Nat.le_of_ble_eq_true rfl⟩ (Nat.le_of_ble_eq_true rfl)  ?_
  rw [vx_add]
  refine a_aload_n d_Mod_turnOf_6 rfl ?_
  refine a_iload_n d_Mod_turnOf_7 rfl ?_
  refine a_iload_n d_Mod_turnOf_8 rfl ?_
  refine a_iconst (v := 1) d_Mod_turnOf_9 (by decide) ?_
  refine a_isub d_Mod_turnOf_10 ?_
  refine a_cv0 (a := 32) d_Mod_turnOf_11 m_Mod_vx t_Mod_vx l_Mod_211 k32 rfl rfl (s_Mod_vx (K := k + nv - 1) k32 k39 k44 k45 k49 hB m1 hs hnv hnP Rw tvx hcn (show nI k - 1 + nI nv = nI (k + nv - 1) by rw [iI_nat, iI_1, iI_sub, iI_nat nv, iI_add, iI_nat]; congr 1; omega) (by omega)) rfl rfl ⟨Nat.le_of_ble_eq_true rfl, Nat.le_of_ble_eq_true rfl⟩ (Nat.le_of_ble_eq_true rfl)  ?_
  refine a_isub d_Mod_turnOf_14 ?_
  refine a_istore_n d_Mod_turnOf_15 (Nat.le_of_ble_eq_true rfl) (Nat.le_of_ble_eq_true rfl) rfl ?_
  refine a_aload_n d_Mod_turnOf_16 rfl ?_
  refine a_iload_n d_Mod_turnOf_17 rfl ?_
  refine a_iload_n d_Mod_turnOf_18 rfl ?_
  refine a_cv0 (a := 32) d_Mod_turnOf_19 m_Mod_vy t_Mod_vy l_Mod_214 k32 rfl rfl (s_Mod_vy (K := k + nv) k32 k39 k44 k45 k49 hB m1 hs hnv hnP Rw tvx hcn (nI_add k nv) (by omega)) rfl rfl ⟨Nat.le_of_ble_eq_true rfl, Nat.le_of_ble_eq_true rfl⟩ (Nat.le_of_ble_eq_true rfl)  ?_
  rw [vx_add]
  refine a_aload_n d_Mod_turnOf_22 rfl ?_
  refine a_iload_n d_Mod_turnOf_23 rfl ?_
  refine a_iload_n d_Mod_turnOf_24 rfl ?_
  refine a_iconst (v := 1) d_Mod_turnOf_25 (by decide) ?_
  refine a_isub d_Mod_turnOf_26 ?_
  refine a_cv0 (a := 32) d_Mod_turnOf_27 m_Mod_vy t_Mod_vy l_Mod_214 k32 rfl rfl (s_Mod_vy (K := k + nv - 1) k32 k39 k44 k45 k49 hB m1 hs hnv hnP Rw tvx hcn (show nI k - 1 + nI nv = nI (k + nv - 1) by rw [iI_nat, iI_1, iI_sub, iI_nat nv, iI_add, iI_nat]; congr 1; omega) (by omega)) rfl rfl ⟨Nat.le_of_ble_eq_true rfl, Nat.le_of_ble_eq_true rfl⟩ (Nat.le_of_ble_eq_true rfl)  ?_
  refine a_isub d_Mod_turnOf_30 ?_
  refine a_istore d_Mod_turnOf_31 (Nat.le_of_ble_eq_true rfl) (Nat.le_of_ble_eq_true rfl) rfl ?_
  refine a_aload_n d_Mod_turnOf_33 rfl ?_
  refine a_iload_n d_Mod_turnOf_34 rfl ?_
  refine a_iload_n d_Mod_turnOf_35 rfl ?_
  refine a_iconst (v := 1) d_Mod_turnOf_36 (by decide) ?_
  refine a_iadd d_Mod_turnOf_37 ?_
  refine a_cv0 (a := 32) d_Mod_turnOf_38 m_Mod_vx t_Mod_vx l_Mod_211 k32 rfl rfl (s_Mod_vx (K := k + 1 + nv) k32 k39 k44 k45 k49 hB m1 hs hnv hnP Rw tvx hcn (show nI k + 1 + nI nv = nI (k + 1 + nv) by rw [nI_1, nI_add]) (by omega)) rfl rfl ⟨Nat.le_of_ble_eq_true rfl, Nat.le_of_ble_eq_true rfl⟩ (Nat.le_of_ble_eq_true rfl)  ?_
  rw [vx_add]
  refine a_aload_n d_Mod_turnOf_41 rfl ?_
  refine a_iload_n d_Mod_turnOf_42 rfl ?_
  refine a_iload_n d_Mod_turnOf_43 rfl ?_
  refine a_cv0 (a := 32) d_Mod_turnOf_44 m_Mod_vx t_Mod_vx l_Mod_211 k32 rfl rfl (s_Mod_vx (K := k + nv) k32 k39 k44 k45 k49 hB m1 hs hnv hnP Rw tvx hcn (nI_add k nv) (by omega)) rfl rfl ⟨Nat.le_of_ble_eq_true rfl, Nat.le_of_ble_eq_true rfl⟩ (Nat.le_of_ble_eq_true rfl)  ?_
  rw [vx_add]
  refine a_isub d_Mod_turnOf_47 ?_
  refine a_istore d_Mod_turnOf_48 (Nat.le_of_ble_eq_true rfl) (Nat.le_of_ble_eq_true rfl) rfl ?_
  refine a_aload_n d_Mod_turnOf_50 rfl ?_
  refine a_iload_n d_Mod_turnOf_51 rfl ?_
  refine a_iload_n d_Mod_turnOf_52 rfl ?_
  refine a_iconst (v := 1) d_Mod_turnOf_53 (by decide) ?_
  refine a_iadd d_Mod_turnOf_54 ?_
  refine a_cv0 (a := 32) d_Mod_turnOf_55 m_Mod_vy t_Mod_vy l_Mod_214 k32 rfl rfl (s_Mod_vy (K := k + 1 + nv) k32 k39 k44 k45 k49 hB m1 hs hnv hnP Rw tvx hcn (show nI k + 1 + nI nv = nI (k + 1 + nv) by rw [nI_1, nI_add]) (by omega)) rfl rfl ⟨Nat.le_of_ble_eq_true rfl, Nat.le_of_ble_eq_true rfl⟩ (Nat.le_of_ble_eq_true rfl)  ?_
  rw [vx_add]
  refine a_aload_n d_Mod_turnOf_58 rfl ?_
  refine a_iload_n d_Mod_turnOf_59 rfl ?_
  refine a_iload_n d_Mod_turnOf_60 rfl ?_
  refine a_cv0 (a := 32) d_Mod_turnOf_61 m_Mod_vy t_Mod_vy l_Mod_214 k32 rfl rfl (s_Mod_vy (K := k + nv) k32 k39 k44 k45 k49 hB m1 hs hnv hnP Rw tvx hcn (nI_add k nv) (by omega)) rfl rfl ⟨Nat.le_of_ble_eq_true rfl, Nat.le_of_ble_eq_true rfl⟩ (Nat.le_of_ble_eq_true rfl)  ?_
  rw [vx_add]
  refine a_isub d_Mod_turnOf_64 ?_
  refine a_istore d_Mod_turnOf_65 (Nat.le_of_ble_eq_true rfl) (Nat.le_of_ble_eq_true rfl) rfl ?_
  refine a_bipush (v := 8) d_Mod_turnOf_67 (by decide) ?_
  refine a_iload_n d_Mod_turnOf_69 rfl ?_
  refine a_iload d_Mod_turnOf_70 rfl ?_
  refine a_imul d_Mod_turnOf_72 ?_
  refine a_iload d_Mod_turnOf_73 rfl ?_
  refine a_iload d_Mod_turnOf_75 rfl ?_
  refine a_imul d_Mod_turnOf_77 ?_
  refine a_isub d_Mod_turnOf_78 ?_
  refine a_cs0 d_Mod_turnOf_79 m_Mod_size t_Mod_size l_Mod_183 (s_Mod_size _) rfl rfl ⟨Nat.le_of_ble_eq_true rfl, Nat.le_of_ble_eq_true rfl⟩ (Nat.le_of_ble_eq_true rfl)  ?_
  refine a_imul d_Mod_turnOf_82 ?_
  refine a_iload_n d_Mod_turnOf_83 rfl ?_
  refine a_iload d_Mod_turnOf_84 rfl ?_
  refine a_cs0 d_Mod_turnOf_86 m_Mod_greater t_Mod_greater l_Mod_217 (s_Mod_greater _ _) rfl rfl ⟨Nat.le_of_ble_eq_true rfl, Nat.le_of_ble_eq_true rfl⟩ (Nat.le_of_ble_eq_true rfl)  ?_
  refine a_iload d_Mod_turnOf_89 rfl ?_
  refine a_iload d_Mod_turnOf_91 rfl ?_
  refine a_cs0 d_Mod_turnOf_93 m_Mod_greater t_Mod_greater l_Mod_217 (s_Mod_greater _ _) rfl rfl ⟨Nat.le_of_ble_eq_true rfl, Nat.le_of_ble_eq_true rfl⟩ (Nat.le_of_ble_eq_true rfl)  ?_
  refine a_iadd d_Mod_turnOf_96 ?_
  refine a_idiv d_Mod_turnOf_97 (by rw [mGr_eq, mGr_eq]; exact bnd_ne S hnv bn k) ?_
  exact a_iret d_Mod_turnOf_98 rfl (by unfold tnC; rw [← mTn_eq (bnd_ne S hnv bn k)]; rfl) rfl rfl
set_option maxRecDepth 20000 in
set_option maxHeartbeats 4000000 in
theorem s_Mod_isSharp {ac by_ la ra il mn : Int32} {rs : Int64} {tb oa lm : Int32} {fr cx cy vv : Nat → Int32} {B S0 P nv : Nat} {X Y : Nat → Int} {cn : Nat → Nat}(k32 : h 32 = oMod ac by_ la ra il mn rs tb (nI nv) oa lm) (k39 : h 39 = aI 40 fr) (k44 : h 44 = aI 160 cx) (k45 : h 45 = aI 160 cy) (k49 : h 49 = aI 144 vv) (hB : B < 40) (m1 : fr B = nI S0) (hs : S0 + P ≤ 144) (hnv : 0 < nv) (hnP : nv ≤ P) (Rw : Row cx cy S0 P X Y) (tvx : ∀ k, k < nv → vv k = nI (cn k)) (hcn : ∀ k, k < nv → cn k < P){st : Nat → Int32} (k33 : h 33 = aI 68 st) {sh : Int32} (s3 : st 3 = sh){k : Nat} (hk : k < 500) (S : Sh X Y) (bn : Bnd X Y P nv cn) : AMet V i_Mod_isSharp 3 [.ref 32, .int (nI B), .int (nI k)] h n z (some (.int (shC X Y P nv cn sh k))) (h) n z := by
  refine AMet.intro (Nat.le_refl _) (Nat.le_refl _) (by decide) (Nat.le_of_ble_eq_true rfl) rfl ?_
  refine a_aload_n d_Mod_isSharp_0 rfl ?_
  refine a_iload_n d_Mod_isSharp_1 rfl ?_
  refine a_iload_n d_Mod_isSharp_2 rfl ?_
  refine a_cv0 (a := 32) d_Mod_isSharp_3 m_Mod_vx t_Mod_vx l_Mod_211 k32 rfl rfl (s_Mod_vx (K := k + nv) k32 k39 k44 k45 k49 hB m1 hs hnv hnP Rw tvx hcn (nI_add k nv) (by omega)) rfl rfl ⟨Nat.le_of_ble_eq_true rfl, Nat.le_of_ble_eq_true rfl⟩ (Nat.le_of_ble_eq_true rfl)  ?_
  rw [vx_add]
  refine a_aload_n d_Mod_isSharp_6 rfl ?_
  refine a_iload_n d_Mod_isSharp_7 rfl ?_
  refine a_iload_n d_Mod_isSharp_8 rfl ?_
  refine a_iconst (v := 1) d_Mod_isSharp_9 (by decide) ?_
  refine a_isub d_Mod_isSharp_10 ?_
  refine a_cv0 (a := 32) d_Mod_isSharp_11 m_Mod_vx t_Mod_vx l_Mod_211 k32 rfl rfl (s_Mod_vx (K := k + nv - 1) k32 k39 k44 k45 k49 hB m1 hs hnv hnP Rw tvx hcn (show nI k - 1 + nI nv = nI (k + nv - 1) by rw [iI_nat, iI_1, iI_sub, iI_nat nv, iI_add, iI_nat]; congr 1; omega) (by omega)) rfl rfl ⟨Nat.le_of_ble_eq_true rfl, Nat.le_of_ble_eq_true rfl⟩ (Nat.le_of_ble_eq_true rfl)  ?_
  refine a_isub d_Mod_isSharp_14 ?_
  refine a_aload_n d_Mod_isSharp_15 rfl ?_
  refine a_iload_n d_Mod_isSharp_16 rfl ?_
  refine a_iload_n d_Mod_isSharp_17 rfl ?_
  refine a_iconst (v := 1) d_Mod_isSharp_18 (by decide) ?_
  refine a_iadd d_Mod_isSharp_19 ?_
  refine a_cv0 (a := 32) d_Mod_isSharp_20 m_Mod_vx t_Mod_vx l_Mod_211 k32 rfl rfl (s_Mod_vx (K := k + 1 + nv) k32 k39 k44 k45 k49 hB m1 hs hnv hnP Rw tvx hcn (show nI k + 1 + nI nv = nI (k + 1 + nv) by rw [nI_1, nI_add]) (by omega)) rfl rfl ⟨Nat.le_of_ble_eq_true rfl, Nat.le_of_ble_eq_true rfl⟩ (Nat.le_of_ble_eq_true rfl)  ?_
  rw [vx_add]
  refine a_aload_n d_Mod_isSharp_23 rfl ?_
  refine a_iload_n d_Mod_isSharp_24 rfl ?_
  refine a_iload_n d_Mod_isSharp_25 rfl ?_
  refine a_cv0 (a := 32) d_Mod_isSharp_26 m_Mod_vx t_Mod_vx l_Mod_211 k32 rfl rfl (s_Mod_vx (K := k + nv) k32 k39 k44 k45 k49 hB m1 hs hnv hnP Rw tvx hcn (nI_add k nv) (by omega)) rfl rfl ⟨Nat.le_of_ble_eq_true rfl, Nat.le_of_ble_eq_true rfl⟩ (Nat.le_of_ble_eq_true rfl)  ?_
  rw [vx_add]
  refine a_isub d_Mod_isSharp_29 ?_
  refine a_imul d_Mod_isSharp_30 ?_
  refine a_istore_n d_Mod_isSharp_31 (Nat.le_of_ble_eq_true rfl) (Nat.le_of_ble_eq_true rfl) rfl ?_
  refine a_iload_n d_Mod_isSharp_32 rfl ?_
  refine a_aload_n d_Mod_isSharp_33 rfl ?_
  refine a_iload_n d_Mod_isSharp_34 rfl ?_
  refine a_iload_n d_Mod_isSharp_35 rfl ?_
  refine a_cv0 (a := 32) d_Mod_isSharp_36 m_Mod_vy t_Mod_vy l_Mod_214 k32 rfl rfl (s_Mod_vy (K := k + nv) k32 k39 k44 k45 k49 hB m1 hs hnv hnP Rw tvx hcn (nI_add k nv) (by omega)) rfl rfl ⟨Nat.le_of_ble_eq_true rfl, Nat.le_of_ble_eq_true rfl⟩ (Nat.le_of_ble_eq_true rfl)  ?_
  rw [vx_add]
  refine a_aload_n d_Mod_isSharp_39 rfl ?_
  refine a_iload_n d_Mod_isSharp_40 rfl ?_
  refine a_iload_n d_Mod_isSharp_41 rfl ?_
  refine a_iconst (v := 1) d_Mod_isSharp_42 (by decide) ?_
  refine a_isub d_Mod_isSharp_43 ?_
  refine a_cv0 (a := 32) d_Mod_isSharp_44 m_Mod_vy t_Mod_vy l_Mod_214 k32 rfl rfl (s_Mod_vy (K := k + nv - 1) k32 k39 k44 k45 k49 hB m1 hs hnv hnP Rw tvx hcn (show nI k - 1 + nI nv = nI (k + nv - 1) by rw [iI_nat, iI_1, iI_sub, iI_nat nv, iI_add, iI_nat]; congr 1; omega) (by omega)) rfl rfl ⟨Nat.le_of_ble_eq_true rfl, Nat.le_of_ble_eq_true rfl⟩ (Nat.le_of_ble_eq_true rfl)  ?_
  refine a_isub d_Mod_isSharp_47 ?_
  refine a_aload_n d_Mod_isSharp_48 rfl ?_
  refine a_iload_n d_Mod_isSharp_49 rfl ?_
  refine a_iload_n d_Mod_isSharp_50 rfl ?_
  refine a_iconst (v := 1) d_Mod_isSharp_51 (by decide) ?_
  refine a_iadd d_Mod_isSharp_52 ?_
  refine a_cv0 (a := 32) d_Mod_isSharp_53 m_Mod_vy t_Mod_vy l_Mod_214 k32 rfl rfl (s_Mod_vy (K := k + 1 + nv) k32 k39 k44 k45 k49 hB m1 hs hnv hnP Rw tvx hcn (show nI k + 1 + nI nv = nI (k + 1 + nv) by rw [nI_1, nI_add]) (by omega)) rfl rfl ⟨Nat.le_of_ble_eq_true rfl, Nat.le_of_ble_eq_true rfl⟩ (Nat.le_of_ble_eq_true rfl)  ?_
  rw [vx_add]
  refine a_aload_n d_Mod_isSharp_56 rfl ?_
  refine a_iload_n d_Mod_isSharp_57 rfl ?_
  refine a_iload_n d_Mod_isSharp_58 rfl ?_
  refine a_cv0 (a := 32) d_Mod_isSharp_59 m_Mod_vy t_Mod_vy l_Mod_214 k32 rfl rfl (s_Mod_vy (K := k + nv) k32 k39 k44 k45 k49 hB m1 hs hnv hnP Rw tvx hcn (nI_add k nv) (by omega)) rfl rfl ⟨Nat.le_of_ble_eq_true rfl, Nat.le_of_ble_eq_true rfl⟩ (Nat.le_of_ble_eq_true rfl)  ?_
  rw [vx_add]
  refine a_isub d_Mod_isSharp_62 ?_
  refine a_imul d_Mod_isSharp_63 ?_
  refine a_iadd d_Mod_isSharp_64 ?_
  refine a_istore_n d_Mod_isSharp_65 (Nat.le_of_ble_eq_true rfl) (Nat.le_of_ble_eq_true rfl) rfl ?_
  refine a_aload_n d_Mod_isSharp_66 rfl ?_
  refine a_iload_n d_Mod_isSharp_67 rfl ?_
  refine a_iload_n d_Mod_isSharp_68 rfl ?_
  refine a_cv0 (a := 32) d_Mod_isSharp_69 m_Mod_turnOf t_Mod_turnOf l_Mod_220 k32 rfl rfl (s_Mod_turnOf k32 k39 k44 k45 k49 hB m1 hs hnv hnP Rw tvx hcn hk S bn) rfl rfl ⟨Nat.le_of_ble_eq_true rfl, Nat.le_of_ble_eq_true rfl⟩ (Nat.le_of_ble_eq_true rfl)  ?_
  refine a_aload_n d_Mod_isSharp_72 rfl ?_
  refine a_getf d_Mod_isSharp_73 f_Mod_7 k32 rfl ?_
  refine a_iconst (v := 3) d_Mod_isSharp_76 (by decide) ?_
  refine a_iald d_Mod_isSharp_77 k33 (nI_in (c := 3) (N := 68) (by decide) (by decide)) ?_
  rw [show (3 : Int32).toNatClampNeg = 3 from by decide, s3]
  refine a_icmp_ge 85 d_Mod_isSharp_78 (by decide) (fun c78 => ?_) (fun c78 => ?_)
  · skip
    refine a_iconst (v := 1) d_Mod_isSharp_85 (by decide) ?_
    refine a_goto 90 d_Mod_isSharp_86 (by decide) ?_
    exact a_zret d_Mod_isSharp_90 rfl (by decide) (by
  unfold tnC at c78
  unfold shC fSharp
  first
  | (rw [if_pos (Int32.not_lt.mp c82)]; done)
  | (rw [if_neg (Int32.not_le.mpr c82), if_pos (Int32.not_le.mp c78)]; done)
  | (split
     · rfl
     · rw [if_neg (Int32.not_lt.mpr c78)])) rfl rfl
  · skip
    refine a_iload_n d_Mod_isSharp_81 rfl ?_
    refine a_if_gt 89 d_Mod_isSharp_82 (by decide) (fun c82 => ?_) (fun c82 => ?_)
    · skip
      refine a_iconst (v := 0) d_Mod_isSharp_89 (by decide) ?_
      exact a_zret d_Mod_isSharp_90 rfl (by decide) (by
  unfold tnC at c78
  unfold shC fSharp
  first
  | (rw [if_pos (Int32.not_lt.mp c82)]; done)
  | (rw [if_neg (Int32.not_le.mpr c82), if_pos (Int32.not_le.mp c78)]; done)
  | (split
     · rfl
     · rw [if_neg (Int32.not_lt.mpr c78)])) rfl rfl
    · skip
      refine a_iconst (v := 1) d_Mod_isSharp_85 (by decide) ?_
      refine a_goto 90 d_Mod_isSharp_86 (by decide) ?_
      exact a_zret d_Mod_isSharp_90 rfl (by decide) (by
  unfold tnC at c78
  unfold shC fSharp
  first
  | (rw [if_pos (Int32.not_lt.mp c82)]; done)
  | (rw [if_neg (Int32.not_le.mpr c82), if_pos (Int32.not_le.mp c78)]; done)
  | (split
     · rfl
     · rw [if_neg (Int32.not_lt.mpr c78)])) rfl rfl
end
