/-! THE MODEL reads: printed by wip/whole/t81.py -/
def Pre (f : Nat → Int32) (a : Nat) : Prop := ∀ k, k < a → rdF f k = 0
theorem Pre.s {f : Nat → Int32} {a : Nat} (p : Pre f a) (h : rdF f a = 0) : Pre f (a + 1) := fun k hk => by
  by_cases e : k = a
  · rw [e]; exact h
  · exact p k (by omega)
theorem rdP_ge {f : Nat → Int32} {a L : Nat} (p : Pre f a) (h : a ≤ L) : a ≤ rdP f L := by
  rcases Nat.lt_or_ge (rdP f L) a with c | c
  · have := fst1_yes (fun a => decide (rdF f a ≠ 0)) L (show rdP f L < L by omega)
    have h2 := of_decide_eq_true this
    exact absurd (p _ c) h2
  · exact c
theorem fault_in {f : Nat → Int32} {a L : Nat} (p : Pre f a) (h : a < L) (hf : rdF f a ≠ 0) : rdP f L = a ∧ rdN f L = rdF f a := by
  have h1 := rdP_ge p (Nat.le_of_lt h)
  have h2 : rdP f L ≤ a := fst1_ex (fun a => decide (rdF f a ≠ 0)) h (decide_eq_true hf)
  have e : rdP f L = a := by omega
  refine ⟨e, ?_⟩
  unfold rdN
  rw [e, if_pos h]
theorem fault_end {f : Nat → Int32} {L : Nat} (p : Pre f L) (h : ¬ (4 ≤ L ∧ L = 4 + (rdQ f L).2.1 * ((rdQ f L).1 + 1))) : rdP f L = L ∧ rdN f L = 1 := by
  have h1 := rdP_ge p (Nat.le_refl L)
  have h2 : rdP f L ≤ L := fst1_le _ _
  have e : rdP f L = L := by omega
  refine ⟨e, ?_⟩
  unfold rdN
  rw [e, if_neg (by omega), if_neg h]
theorem good_end {f : Nat → Int32} {L : Nat} (p : Pre f L) (h : 4 ≤ L ∧ L = 4 + (rdQ f L).2.1 * ((rdQ f L).1 + 1)) : rdP f L = L ∧ rdN f L = 0 := by
  have h1 := rdP_ge p (Nat.le_refl L)
  have h2 : rdP f L ≤ L := fst1_le _ _
  have e : rdP f L = L := by omega
  refine ⟨e, ?_⟩
  unfold rdN
  rw [e, if_neg (by omega), if_pos h]
/-- the fault at a, the end of the tape counted in -/
def tF_ (f : Nat → Int32) (L a : Nat) : Nat := if a < L then rdF f a else 1
/-- a token is due at a -/
def Due (f : Nat → Int32) (a : Nat) : Prop := a < 4 ∨ a < 4 + (rdQ f a).2.1 * ((rdQ f a).1 + 1)
theorem tF_bad {f : Nat → Int32} {a L : Nat} (p : Pre f a) (h : a ≤ L) (d : Due f a) (hf : tF_ f L a ≠ 0) : rdP f L = a ∧ rdN f L = tF_ f L a := by
  unfold tF_ at *
  by_cases c : a < L
  · rw [if_pos c] at hf ⊢
    exact fault_in p c hf
  · have e : a = L := by omega
    subst e
    rw [if_neg c]
    refine fault_end p ?_
    unfold Due at d
    omega
theorem tF_ok {f : Nat → Int32} {a L : Nat} (p : Pre f a) (hf : tF_ f L a = 0) : a < L ∧ rdF f a = 0 ∧ Pre f (a + 1) := by
  unfold tF_ at hf
  by_cases c : a < L
  · rw [if_pos c] at hf
    exact ⟨c, hf, p.s hf⟩
  · rw [if_neg c] at hf; cases hf
theorem rdQ_s {f : Nat → Int32} {a : Nat} (h : 4 ≤ a) : rdQ f (a + 1) = ((rdQ f a).1, (rdQ f a).2.1, rwD (rdQ f a).1 (a - 4) (f a) (rdQ f a).2.2) ∧ rdF f a = rwF (rdQ f a).1 (rdQ f a).2.1 (a - 4) (f a) := by
  have e : rdS a (f a) (rdQ f a) = (rwF (rdQ f a).1 (rdQ f a).2.1 (a - 4) (f a), (rdQ f a).1, (rdQ f a).2.1, rwD (rdQ f a).1 (a - 4) (f a) (rdQ f a).2.2) := if_neg (by omega)
  refine ⟨?_, ?_⟩
  · show (rdS a (f a) (rdQ f a)).2 = _
    rw [e]
  · unfold rdF
    rw [e]
theorem rdQ_h {f : Nat → Int32} {a : Nat} (h : a < 4) : rdQ f (a + 1) = ((if a = 1 then (f a - 48).toNatClampNeg else (rdQ f a).1), (if a = 2 then (f a - 48).toNatClampNeg else (rdQ f a).2.1), (rdQ f a).2.2) ∧ rdF f a = hdF a (f a) := by
  have e : rdS a (f a) (rdQ f a) = (hdF a (f a), (if a = 1 then (f a - 48).toNatClampNeg else (rdQ f a).1), (if a = 2 then (f a - 48).toNatClampNeg else (rdQ f a).2.1), (rdQ f a).2.2) := if_pos h
  refine ⟨?_, ?_⟩
  · show (rdS a (f a) (rdQ f a)).2 = _
    rw [e]
  · unfold rdF
    rw [e]
theorem fRg_iff (v lo hi : Int32) : fRg v lo hi = 0 ↔ (v.toInt < lo.toInt ∨ hi.toInt < v.toInt) := by
  unfold fRg
  by_cases a : v < lo
  · rw [if_pos a]; simp; exact Or.inl (Int32.lt_iff_toInt_lt.mp a)
  · rw [if_neg a]
    by_cases b : hi < v
    · rw [if_pos b]; simp; exact Or.inr (Int32.lt_iff_toInt_lt.mp b)
    · rw [if_neg b]
      rw [Int32.lt_iff_toInt_lt] at a b
      simp
      omega
theorem fRg_one (c x : Int32) : fRg c x x = 0 ↔ ¬ c = x := by
  unfold fRg
  by_cases a : c < x
  · rw [if_pos a]; simp; intro e; rw [e] at a; exact Int32.lt_irrefl a
  · rw [if_neg a]
    by_cases b : x < c
    · rw [if_pos b]; simp; intro e; rw [e] at b; exact Int32.lt_irrefl b
    · rw [if_neg b]; simp; exact Int32.le_antisymm (Int32.not_lt.mp b) (Int32.not_lt.mp a)
theorem mDue_sign {f : Nat → Int32} {L a : Nat} {x : Int32} : mDue L a f x x x x = if a < L then (if f a = x then 0 else 1) else 1 := by
  unfold mDue
  by_cases c : a < L
  · rw [if_pos c, if_pos c]
    by_cases d : f a = x
    · rw [if_neg (fun q => (fRg_one _ _).mp q d), if_neg (fun q => (fRg_one _ _).mp q d), if_pos d]
    · rw [if_pos ((fRg_one _ _).mpr d), if_neg d]
  · rw [if_neg c, if_neg c]
theorem mDue_dig {f : Nat → Int32} {L a : Nat} (ha : a = 1 ∨ a = 2) : mDue L a f 48 57 49 56 = tF_ f L a := by
  unfold mDue tF_
  by_cases c : a < L
  · rw [if_pos c, if_pos c, (rdQ_h (by omega)).2]
    unfold hdF
    rw [if_neg (show ¬ a = 0 by omega), if_neg (show ¬ a = 3 by omega)]
    generalize f a = v
    have e48 : ((48 : Int32)).toInt = 48 := by decide
    have e57 : ((57 : Int32)).toInt = 57 := by decide
    have e49 : ((49 : Int32)).toInt = 49 := by decide
    have e56 : ((56 : Int32)).toInt = 56 := by decide
    have e1 : ((1 : Int32)).toInt = 1 := by decide
    have e8 : ((8 : Int32)).toInt = 8 := by decide
    have i1 := fRg_iff v 48 57
    have i2 := fRg_iff v 49 56
    rw [e48, e57] at i1
    rw [e49, e56] at i2
    have l1 : v < 48 ↔ v.toInt < 48 := by rw [Int32.lt_iff_toInt_lt, e48]
    have l2 : v ≤ 57 ↔ v.toInt ≤ 57 := by rw [Int32.le_iff_toInt_le, e57]
    by_cases a1 : v.toInt < 48
    · rw [if_pos (i1.mpr (Or.inl a1)), if_pos (l1.mpr a1)]
    · rw [if_neg (fun q => a1 (l1.mp q))]
      by_cases a2 : v.toInt ≤ 57
      · have es : (v - 48).toInt = v.toInt - 48 := by
          rw [← iI_of v, show (48 : Int32) = iI 48 from by decide, iI_sub, iI_toInt (by omega) (by omega), iI_of]
        have l3 : v - 48 < 1 ↔ v.toInt < 49 := by rw [Int32.lt_iff_toInt_lt, e1, es]; omega
        have l4 : v - 48 ≤ 8 ↔ v.toInt ≤ 56 := by rw [Int32.le_iff_toInt_le, e8, es]; omega
        rw [if_neg (fun q => by have := i1.mp q; omega), if_pos (l2.mpr a2)]
        by_cases a3 : v.toInt < 49
        · rw [if_pos (i2.mpr (Or.inl a3)), if_pos (l3.mpr a3)]
        · rw [if_neg (fun q => a3 (l3.mp q))]
          by_cases a4 : v.toInt ≤ 56
          · rw [if_neg (fun q => by have := i2.mp q; omega), if_pos (l4.mpr a4)]
          · rw [if_pos (i2.mpr (by omega)), if_neg (fun q => a4 (l4.mp q))]
      · rw [if_pos (i1.mpr (by omega)), if_neg (fun q => a2 (l2.mp q))]
  · rw [if_neg c, if_neg c]
theorem mDue_x {f : Nat → Int32} {L a : Nat} (hf : f a = 120) (ha : a < L) : mDue L a f 97 122 120 120 = 0 := by
  unfold mDue
  rw [if_pos ha, hf]
  decide
theorem mDue_o {f : Nat → Int32} {L a W H : Nat} (ha4 : 4 ≤ a) (eW : (rdQ f a).1 = W) (eH : (rdQ f a).2.1 = H) {x y : Nat} (ex : (a - 4) % (W + 1) = x) (ey : (a - 4) / (W + 1) = y) (hx : x < W) (hy : y < H) (hf : ¬ (a < L ∧ f a = 120)) : mDue L a f 97 122 111 111 = tF_ f L a := by
  unfold mDue tF_
  by_cases c : a < L
  · rw [if_pos c, if_pos c, (rdQ_s ha4).2, eW, eH]
    unfold rwF
    rw [ex, ey, if_pos hy, if_neg (show ¬ x = W by omega)]
    have h120 : ¬ f a = 120 := fun q => hf ⟨c, q⟩
    rw [if_neg h120]
    have e97 : ((97 : Int32)).toInt = 97 := by decide
    have e122 : ((122 : Int32)).toInt = 122 := by decide
    have i1 := fRg_iff (f a) 97 122
    rw [e97, e122] at i1
    have l1 : f a < 97 ↔ (f a).toInt < 97 := by rw [Int32.lt_iff_toInt_lt, e97]
    have l2 : f a ≤ 122 ↔ (f a).toInt ≤ 122 := by rw [Int32.le_iff_toInt_le, e122]
    by_cases a1 : (f a).toInt < 97
    · rw [if_pos (i1.mpr (Or.inl a1)), if_pos (l1.mpr a1)]
    · rw [if_neg (fun q => a1 (l1.mp q))]
      by_cases a2 : (f a).toInt ≤ 122
      · rw [if_neg (fun q => by have := i1.mp q; omega), if_pos (l2.mpr a2)]
        by_cases a3 : f a = 111
        · rw [if_pos a3, if_neg (fun q => (fRg_one _ _).mp q a3)]
        · rw [if_neg a3, if_pos ((fRg_one _ _).mpr a3)]
      · rw [if_pos (i1.mpr (by omega)), if_neg (fun q => a2 (l2.mp q))]
  · rw [if_neg c, if_neg c]
/-- what the model has read -/
def Rd (f : Nat → Int32) (a : Nat) (rd : Nat → Int32) : Prop := ∀ i, i < 68 → rd i = stF ((rdQ f a).1, (rdQ f a).2.1, (rdQ f a).2.2, 0, 0) i
section
variable {V : VV} {h : AH} {n z : Nat}

theorem s_dueX {ac la il mn : Int32} {rs : Int64} {tb ve oa lm : Int32} {L a : Nat} {tp : Nat → Int32} (g32 : h 32 = oMod ac (nI L) la (nI a) il mn rs tb ve oa lm) (g37 : h 37 = aI 90 tp) (hL : L ≤ 90) (ha : a ≤ L) {l m lo hi : Int32} : AMet V i_Mod_due 1 [.ref 32, .int l, .int m, .int lo, .int hi] h n z (some (.int (nI (mDue L a tp l m lo hi)))) (hu h 32 (oMod ac (nI L) la (nI (if mDue L a tp l m lo hi = 0 then a + 1 else a)) il mn rs tb ve oa lm)) n z := by
  rcases Nat.lt_or_ge a L with c1 | c1
  · by_cases hd : mDue L a tp l m lo hi = 0
    · rw [hd, if_pos rfl]
      exact s_Mod_due g32 g37 hL c1 hd
    · rw [if_neg hd, hu_same g32]
      exact s_Mod_dueF g32 g37 hL c1 hd
  · have e : mDue L a tp l m lo hi = 1 := by unfold mDue; rw [if_neg (by omega)]
    rw [e, if_neg (by decide), hu_same g32]
    exact s_Mod_dueE g32 g37 hL c1 (by omega)
theorem s_signX {ac la il mn : Int32} {rs : Int64} {tb ve oa lm : Int32} {L a : Nat} {tp : Nat → Int32} (g32 : h 32 = oMod ac (nI L) la (nI a) il mn rs tb ve oa lm) (g37 : h 37 = aI 90 tp) (hL : L ≤ 90) (ha : a ≤ L) {c : Int32} : AMet V i_Mod_sign 2 [.ref 32, .int c] h n z (some (.int (nI (mDue L a tp c c c c)))) (hu h 32 (oMod ac (nI L) la (nI (if mDue L a tp c c c c = 0 then a + 1 else a)) il mn rs tb ve oa lm)) n z := by
  rcases Nat.lt_or_ge a L with c1 | c1
  · by_cases hd : mDue L a tp c c c c = 0
    · rw [hd, if_pos rfl]
      exact s_Mod_sign g32 g37 hL c1 hd
    · rw [if_neg hd, hu_same g32]
      exact s_Mod_signF g32 g37 hL c1 hd
  · have e : mDue L a tp c c c c = 1 := by unfold mDue; rw [if_neg (by omega)]
    rw [e, if_neg (by decide), hu_same g32]
    exact s_Mod_signE g32 g37 hL c1 (by omega)
theorem hR38 (h : AH) (x y m : AC) : hu (hu (hu h 38 x) 32 m) 38 y = hu (hu h 38 y) 32 m := by
  rw [hu_comm _ (by decide), hu_hu]
set_option maxRecDepth 20000 in
set_option maxHeartbeats 4000000 in
theorem E_row {ac la il mn : Int32} {rs : Int64} {tb ve oa lm : Int32} {L : Nat} {f : Nat → Int32} (g37 : h 37 = aI 90 f) (hL : L ≤ 90) {y x r : Nat} {a' : Nat} {rd' : Nat → Int32} {x4 : Option Value} (hr : r ≠ 0) (hr2 : r < 1000) : AM V i_Mod_readsRow 3 n z (some (.int (nI r))) (hu (hu h 38 (aI 68 rd')) 32 (oMod ac (nI L) la (nI a') il mn rs tb ve oa lm)) n z 4 [some (.ref 32), some (.int (nI y)), some (.int (nI r)), some (.int (nI x)), none] [] (hu (hu h 38 (aI 68 rd')) 32 (oMod ac (nI L) la (nI a') il mn rs tb ve oa lm)) n z := by
  have hne : ¬ nI r = 0 := nI_ne0 (by omega) (by omega)
  refine a_iload_n d_Mod_readsRow_4 rfl ?_
  refine a_aload_n d_Mod_readsRow_5 rfl ?_
  refine a_getf d_Mod_readsRow_6 f_Mod_25 (show _ = oMod ac (nI L) la (nI a') il mn rs tb ve oa lm from hu_s _ _ _) rfl ?_
  refine a_iconst (v := 0) d_Mod_readsRow_9 (by decide) ?_
  refine a_iald d_Mod_readsRow_10 (show _ = aI 68 rd' from rfl) (nI_in (c := 0) (N := 68) (by decide) (by decide)) ?_
  refine a_icmp_ge 112 d_Mod_readsRow_11 (by decide) (fun c11 => ?_) (fun c11 => ?_)
  · skip
    refine a_iload_n d_Mod_readsRow_112 rfl ?_
    refine a_if_eq 120 d_Mod_readsRow_113 (by decide) (fun c113 => absurd c113 hne) (fun c113 => ?_)
    refine a_iload_n d_Mod_readsRow_116 rfl ?_
    refine a_goto 126 d_Mod_readsRow_117 (by decide) ?_
    exact a_iret d_Mod_readsRow_126 rfl rfl rfl rfl
  · skip
    refine a_iload_n d_Mod_readsRow_14 rfl ?_
    refine a_if_ne 112 d_Mod_readsRow_15 (by decide) (fun c15 => ?_) (fun c15 => absurd c15 hne)
    refine a_iload_n d_Mod_readsRow_112 rfl ?_
    refine a_if_eq 120 d_Mod_readsRow_113 (by decide) (fun c113 => absurd c113 hne) (fun c113 => ?_)
    refine a_iload_n d_Mod_readsRow_116 rfl ?_
    refine a_goto 126 d_Mod_readsRow_117 (by decide) ?_
    exact a_iret d_Mod_readsRow_126 rfl rfl rfl rfl
theorem row_ix {W y x : Nat} (hx : x ≤ W) : (4 + y * (W + 1) + x - 4) % (W + 1) = x ∧ (4 + y * (W + 1) + x - 4) / (W + 1) = y := by
  rw [show 4 + y * (W + 1) + x - 4 = x + y * (W + 1) by omega, Nat.add_mul_mod_self_right, Nat.add_mul_div_right _ _ (by omega), Nat.mod_eq_of_lt (by omega), Nat.div_eq_of_lt (by omega), Nat.zero_add]
  exact ⟨rfl, rfl⟩
theorem row_due {f : Nat → Int32} {W H y x : Nat} (hx : x ≤ W) (hy : y < H) (eW : (rdQ f (4 + y * (W + 1) + x)).1 = W) (eH : (rdQ f (4 + y * (W + 1) + x)).2.1 = H) : Due f (4 + y * (W + 1) + x) := by
  right
  rw [eW, eH]
  have := Nat.mul_le_mul_right (W + 1) (show y + 1 ≤ H by omega)
  rw [Nat.succ_mul] at this
  omega
theorem Rd_x {f : Nat → Int32} {W H y x : Nat} (hW : W ≤ 8) (hH : H ≤ 8) (hx : x < W) (hy : y < H) (eW : (rdQ f (4 + y * (W + 1) + x)).1 = W) (eH : (rdQ f (4 + y * (W + 1) + x)).2.1 = H) {rd : Nat → Int32} (R : Rd f (4 + y * (W + 1) + x) rd) (lo : lb (rdQ f (4 + y * (W + 1) + x)).2.2 (8 * y + x) = false) : Rd f (4 + y * (W + 1) + x + 1) (upd rd (4 + 8 * y + x) (if f (4 + y * (W + 1) + x) = 120 then 1 else 0)) := by
  intro i hi
  obtain ⟨q1, -⟩ := rdQ_s (f := f) (a := 4 + y * (W + 1) + x) (by omega)
  obtain ⟨x1, x2⟩ := row_ix (y := y) (show x ≤ W by omega)
  rw [q1, eW, eH]
  have Ri := R i hi
  rw [eW, eH] at Ri
  unfold rwD
  rw [x1, x2]
  by_cases e : i = 4 + 8 * y + x
  · subst e
    rw [pk_us]
    unfold stF
    simp only
    rw [if_neg (show ¬ 4 + 8 * y + x = 0 by omega), if_neg (show ¬ 4 + 8 * y + x = 1 by omega), if_neg (show ¬ 4 + 8 * y + x = 2 by omega), if_neg (show ¬ 4 + 8 * y + x = 3 by omega), show 4 + 8 * y + x - 4 = 8 * y + x by omega]
    by_cases c : f (4 + y * (W + 1) + x) = 120
    · rw [if_pos c, if_pos c, lb_or, iI_nat x, iI_nat y, gBit_in (by omega) (by omega), decide_eq_true rfl, Bool.or_true]; rfl
    · rw [if_neg c, if_neg c, lo]; rfl
  · rw [pk_un e, Ri]
    unfold stF
    simp only
    by_cases c : f (4 + y * (W + 1) + x) = 120
    · rw [if_pos c]
      by_cases h4 : i < 4
      · rcases (show i = 0 ∨ i = 1 ∨ i = 2 ∨ i = 3 by omega) with rfl | rfl | rfl | rfl <;> rfl
      · rw [lb_or, iI_nat x, iI_nat y, gBit_in (by omega) (by omega), decide_eq_false (by omega), Bool.or_false]
    · rw [if_neg c]
/-- dots that are not read yet are light -/
theorem rdQ_lo {f : Nat → Int32} {W H : Nat} (hW1 : 1 ≤ W) (hW : W ≤ 8) : ∀ {a : Nat}, 4 ≤ a → Pre f a → (rdQ f a).1 = W → (rdQ f a).2.1 = H → ∀ k, k < 64 → (a - 4 ≤ (k / 8) * (W + 1) + k % 8) → lb (rdQ f a).2.2 k = false := by
  intro a
  induction a with
  | zero => intro h; omega
  | succ a ih =>
    intro h4 p eW eH k hk hle
    rcases Nat.lt_or_ge a 4 with c | c
    · have e : a = 3 := by omega
      subst e
      have d1 : (rdQ f 4).2.2 = 0 := rfl
      rw [d1, lb_0]
    · obtain ⟨q1, q2⟩ := rdQ_s (f := f) c
      rw [q1] at eW eH ⊢
      have ih' := ih c (fun k hk => p k (by omega)) eW eH k hk (by omega)
      simp only at eW eH ⊢
      unfold rwD
      split
      · rename_i hc
        rw [lb_or, ih', Bool.false_or]
        have hF := p a (by omega)
        rw [q2, eW, eH] at hF
        have hlt : (a - 4) % (W + 1) < W + 1 := Nat.mod_lt _ (by omega)
        have hne : (a - 4) % (W + 1) ≠ W := by
          intro q
          unfold rwF at hF
          by_cases c1 : (a - 4) / (W + 1) < H
          · rw [if_pos c1, if_pos q, hc] at hF; exact absurd hF (by decide)
          · rw [if_neg c1] at hF; cases hF
        rw [eW]
        have hdm := Nat.div_add_mod (a - 4) (W + 1)
        rcases Nat.lt_or_ge ((a - 4) / (W + 1)) 8 with c2 | c2
        · rw [iI_nat ((a - 4) % (W + 1)), iI_nat ((a - 4) / (W + 1)), gBit_in (by omega) c2]
          refine decide_eq_false (fun e => ?_)
          have e1 : k / 8 = (a - 4) / (W + 1) := by omega
          have e2 : k % 8 = (a - 4) % (W + 1) := by omega
          rw [e1, e2, Nat.mul_comm] at hle
          omega
        · have hb := Nat.div_le_self (a - 4) (W + 1)
          rcases Nat.lt_or_ge a 2000000000 with c3 | c3
          · rw [iI_nat ((a - 4) % (W + 1)), iI_nat ((a - 4) / (W + 1)), gBit_out (by omega) (by omega) (by omega), lb_0]
          · exfalso
            have : (k / 8) * (W + 1) ≤ 7 * 9 := Nat.mul_le_mul (by omega) (by omega)
            omega
      · exact ih'
end
