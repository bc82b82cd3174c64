/-! THE MODEL lays its borders: printed by wip/whole/t59.py -/
theorem Wh_wi {J : Bool} {D : Int64} {t P : Nat} (v : ∀ k, Val D (wk J D t k)) (r : wk J D t P = wk J D t 0) {W H : Nat} (hin : Wh W H D) : Wh W H (wi J D t P) := by
  intro x y hxy
  rw [inD_wi v r] at hxy
  have key : ∀ k, (wk J D t k).2.2 % 2 = 1 → eX (wk J D t k) ≤ W ∧ eY (wk J D t k) < H := by
    intro k hd
    have b := (v k).b
    have q1 := (v k).2.1
    unfold Qd at q1
    have q := hin _ _ q1
    clear q1
    unfold eX eY
    generalize wk J D t k = w at *
    obtain ⟨x', y', d'⟩ := w
    simp only at b q hd ⊢
    rcases b with ⟨e, b⟩ | ⟨e, b⟩ | ⟨e, b⟩ | ⟨e, b⟩ <;> subst e <;> simp [ax, ay] at q hd ⊢ <;> omega
  refine ⟨?_, ?_⟩
  · rcases (show x < (W : Int) ∨ (W : Int) ≤ x by omega) with c | c
    · exact c
    · have e : wiB J D t P x y = false := by
        refine wiB_far v r ?_
        intro k _ h1 _
        have := (key k h1).1
        omega
      rw [e] at hxy
      cases hxy
  · rcases (show y < (H : Int) ∨ (H : Int) ≤ y by omega) with c | c
    · exact c
    · have e : wiB J D t P x y = false := by
        refine xr_no ?_
        intro k _
        refine decide_eq_false ?_
        intro q
        have := (key k q.1).2
        omega
      rw [e] at hxy
      cases hxy
theorem Wh_xor {W H : Nat} {D E : Int64} (a : Wh W H D) (b : Wh W H E) : Wh W H (D ^^^ E) := by
  intro x y hxy
  rw [inD_xor] at hxy
  cases c : inD D x y with
  | true => exact a x y c
  | false => rw [c, Bool.false_xor] at hxy; exact b x y hxy
theorem sR_Wh {J : Bool} {D : Int64} {W H : Nat} (hin : Wh W H D) : ∀ t, t ≤ 64 → Wh W H (sR J D t)
  | 0, _ => hin
  | t + 1, h => by
    have ih := sR_Wh hin (J := J) t (by omega)
    cases hb : isB J D t
    · rw [(sc_n hb).1]; exact ih
    · rw [(sc_y hb).1]
      exact Wh_xor ih (Wh_wi (bd_Val (by omega) hb) (bd_ret (by omega) hb) ih)
theorem sc_skip {J : Bool} {D : Int64} {t : Nat} : ∀ m, (∀ k, t ≤ k → k < t + m → lb (sR J D t) k = false) → sc J D (t + m) = sc J D t
  | 0, _ => rfl
  | m + 1, h => by
    have ih := sc_skip (J := J) (D := D) (t := t) m (fun k h1 h2 => h k h1 (by omega))
    have e : lb (sc J D (t + m)).1 (t + m) = false := by rw [ih]; exact h (t + m) (by omega) (by omega)
    show (if lb (sc J D (t + m)).1 (t + m) = true then _ else _) = _
    rw [e, if_neg (by decide)]
    exact ih
theorem lb_one_eq (n : Nat) (hn : n < 64) (k : Nat) : lb ((1 : Int64) <<< ((nI n).toInt64 &&& 63)) k = decide (k = n) := lb_one_shl n hn k
/-- the first i bits -/
def mkb (E : Int64) : Nat → Int64
  | 0 => 0
  | i + 1 => mkb E i ||| (if lb E i then (1 : Int64) <<< ((nI i).toInt64 &&& 63) else 0)
theorem mkb_lb (E : Int64) : ∀ i, i ≤ 64 → ∀ k, lb (mkb E i) k = (decide (k < i) && lb E k)
  | 0, _, k => by rw [show mkb E 0 = 0 from rfl, lb_0]; simp
  | i + 1, h, k => by
    show lb (mkb E i ||| _) k = _
    rw [lb_or, mkb_lb E i (by omega) k]
    by_cases c : lb E i = true
    · rw [if_pos c, lb_one_shl i (by omega)]
      by_cases e : k = i
      · subst e; simp [c]
      · rw [decide_eq_false e, Bool.or_false]
        congr 1
        exact decide_eq_decide.mpr (by omega)
    · rw [if_neg c, lb_0, Bool.or_false]
      by_cases e : k = i
      · subst e; simp [show lb E k = false by simpa using c]
      · congr 1
        exact decide_eq_decide.mpr (by omega)
theorem mkb_64 (E : Int64) : mkb E 64 = E := by
  refine lb_ext (fun k hk => ?_)
  rw [mkb_lb E 64 (Nat.le_refl _) k, decide_eq_true hk, Bool.true_and]
theorem mkb_st {E : Int64} {i : Nat} : mkb E i ||| ((if lb E i then (1 : Int32) else 0).toInt64 <<< ((nI i).toInt64 &&& 63)) = mkb E (i + 1) ∨ 64 ≤ i := by
  rcases Nat.lt_or_ge i 64 with h | h
  · left
    show _ = mkb E i ||| _
    congr 1
    by_cases c : lb E i = true
    · rw [if_pos c, if_pos c, show (1 : Int32).toInt64 = 1 from by decide]
    · rw [if_neg c, if_neg c]
      refine lb_ext (fun k hk => ?_)
      rw [show (0 : Int32).toInt64 = 0 from by decide, lb_shl i h 0 hk, lb_0, lb_0, Bool.and_false]
  · exact Or.inr h
/-- what the model holds of the borders that begin before dot t -/
def ML (J : Bool) (D : Int64) (t : Nat) (fr sz fx fy : Nat → Int32) (wn : Nat → Int64) (cx cy go : Nat → Int32) : Prop := ∀ t', t' < t → isB J D t' = true → (fr (sB J D t') = nI (sS J D t') ∧ sz (sB J D t') = nI (sP J D t') ∧ fx (sB J D t') = iI ((t' % 8 : Nat) : Int) ∧ fy (sB J D t') = iI ((t' / 8 : Nat) : Int) ∧ wn (sB J D t') = wi J (sR J D t') t' (sP J D t')) ∧ rowsB J D cx cy go t'
theorem sB_36 (J : Bool) (D : Int64) : ∀ t, t ≤ 64 → 4 * sB J D t ≤ sS J D t ∧ sS J D t ≤ 144
  | 0, _ => ⟨Nat.le_refl _, Nat.zero_le _⟩
  | t + 1, h => by
    have ih := sB_36 J D t (by omega)
    cases hb : isB J D t
    · rw [(sc_n hb).2.1, (sc_n hb).2.2]; exact ih
    · have := bd_P (show t < 64 by omega) hb
      rw [(sc_y hb).2.1, (sc_y hb).2.2]; omega
section
variable {V : VV} {h : AH} {n z : Nat}

set_option maxRecDepth 20000 in
set_option maxHeartbeats 4000000 in
theorem L_layR {ac by_ la ra : Int32} {ve oa lm : Int32} {il mn : Int32} {rs : Int64} {tb : Int32} {st : Nat → Int32} {D : Int64} (hst : ∀ k, k < 64 → st (4 + k) = if lb D k then 1 else 0) (g33 : h 33 = aI 68 st) : ∀ (m k : Nat), k + m = 64 → Rc V i_Mod_lays 6 30 [some (.ref 32), some (.int (nI k)), none, none] [] (hu h 32 (oMod ac by_ la ra 1 0 (mkb D k) (-1) ve oa lm)) n z 62 [some (.ref 32), some (.int (nI 64)), none, none] [] (hu h 32 (oMod ac by_ la ra 1 0 (mkb D 64) (-1) ve oa lm)) n z := by
  intro m
  induction m with
  | zero =>
    intro k hk mc ms Qf n0 z0 q1 q2 K
    have e : k = 64 := by omega
    subst e
    refine a_iload_n d_Mod_lays_30 rfl ?_
    refine a_bipush (v := 64) d_Mod_lays_31 (by decide) ?_
    refine a_icmp_ge 62 d_Mod_lays_33 (by decide) (fun c33 => ?_) (fun c33 => absurd (Int32.le_refl _) c33)
    exact K
  | succ m ih =>
    intro k hk mc ms Qf n0 z0 q1 q2 K
    have e4 : (4 : Int32) + nI k = nI (4 + k) := nI_add 4 k
    have es := (mkb_st (E := D) (i := k)).resolve_right (by omega)
    refine a_iload_n d_Mod_lays_30 rfl ?_
    refine a_bipush (v := 64) d_Mod_lays_31 (by decide) ?_
    refine a_icmp_ge 62 d_Mod_lays_33 (by decide) (fun c33 => absurd c33 (nI_ge (b := 64) (show k < 64 by omega) (by omega))) (fun c33 => ?_)
    refine a_aload_n d_Mod_lays_36 rfl ?_
    refine a_dup d_Mod_lays_37 rfl ?_
    refine a_getf d_Mod_lays_38 f_Mod_132 (hu_s _ _ _) rfl ?_
    refine a_aload_n d_Mod_lays_41 rfl ?_
    refine a_getf d_Mod_lays_42 f_Mod_7 (hu_s _ _ _) rfl ?_
    refine a_iconst (v := 4) d_Mod_lays_45 (by decide) ?_
    refine a_iload_n d_Mod_lays_46 rfl ?_
    refine a_iadd d_Mod_lays_47 ?_
    rw [e4]
    refine a_iald d_Mod_lays_48 (show _ = aI 68 st from g33) (nI_in (show 4 + k < 68 by omega) (by decide)) ?_
    rw [nI_clamp (by omega), hst k (by omega)]
    refine a_i2l d_Mod_lays_49 ?_
    refine a_iload_n d_Mod_lays_50 rfl ?_
    refine a_lshl d_Mod_lays_51 ?_
    refine a_lor d_Mod_lays_52 ?_
    refine a_putf d_Mod_lays_53 f_Mod_132 rfl (hu_s _ _ _) (Nat.le_of_ble_eq_true rfl) rfl rfl ?_
    refine a_iinc d_Mod_lays_56 rfl (nI_1 k) (Nat.le_of_ble_eq_true rfl) rfl ?_
    refine a_goto 30 d_Mod_lays_59 (by decide) ?_
    refine a_eq rfl rfl rfl ?_ rfl rfl (ih (k + 1) (by omega) mc ms Qf n0 z0 q1 q2 K)
    rw [hu_hu, es]
    rfl
set_option maxRecDepth 20000 in
set_option maxHeartbeats 4000000 in
theorem L_layF {ac by_ la ra : Int32} {ve oa lm : Int32} {il mn tb a1 : Int32} {rs : Int64} (g32 : h 32 = oMod ac by_ la ra il mn rs tb ve oa lm) {f : Nat} (hf : f < 64) (hlb : lb rs f = true) (hno : ∀ k, k < f → lb rs k = false) : ∀ (m k : Nat), k + m = f → Rc V i_Mod_lays 6 75 [some (.ref 32), some (.int a1), some (.int (nI k)), none] [] h n z 94 [some (.ref 32), some (.int a1), some (.int (nI f)), none] [] h n z := by
  intro m
  induction m with
  | zero =>
    intro k hk mc ms Qf n0 z0 q1 q2 K
    have e : k = f := by omega
    subst e
    have ep := lb_pickS k hf rs
    rw [hlb, if_pos rfl] at ep
    refine a_aload_n d_Mod_lays_75 rfl ?_
    refine a_getf d_Mod_lays_76 f_Mod_132 g32 rfl ?_
    refine a_iload_n d_Mod_lays_79 rfl ?_
    refine a_lshr d_Mod_lays_80 ?_
    refine a_lconst (v := 1) d_Mod_lays_81 rfl ?_
    refine a_land d_Mod_lays_82 ?_
    refine a_lconst (v := 0) d_Mod_lays_83 rfl ?_
    refine a_lcmp d_Mod_lays_84 ?_
    refine a_if_ne 94 d_Mod_lays_85 (by decide) (fun c85 => ?_) (fun c85 => absurd c85 (by rw [ep]; decide))
    exact K
  | succ m ih =>
    intro k hk mc ms Qf n0 z0 q1 q2 K
    have ep := lb_pickS k (by omega) rs
    rw [hno k (by omega), if_neg (by decide)] at ep
    refine a_aload_n d_Mod_lays_75 rfl ?_
    refine a_getf d_Mod_lays_76 f_Mod_132 g32 rfl ?_
    refine a_iload_n d_Mod_lays_79 rfl ?_
    refine a_lshr d_Mod_lays_80 ?_
    refine a_lconst (v := 1) d_Mod_lays_81 rfl ?_
    refine a_land d_Mod_lays_82 ?_
    refine a_lconst (v := 0) d_Mod_lays_83 rfl ?_
    refine a_lcmp d_Mod_lays_84 ?_
    refine a_if_ne 94 d_Mod_lays_85 (by decide) (fun c85 => absurd c85 (fun q => q (by rw [ep]; decide))) (fun c85 => ?_)
    refine a_iinc d_Mod_lays_88 rfl (nI_1 k) (Nat.le_of_ble_eq_true rfl) rfl ?_
    refine a_goto 75 d_Mod_lays_91 (by decide) ?_
    exact ih (k + 1) (by omega) mc ms Qf n0 z0 q1 q2 K
theorem updLL (f : Nat → Int64) (b : Nat) (x y : Int64) : vp_updL (vp_updL f b x) b y = vp_updL f b y := by
  funext q
  by_cases e : q = b
  · subst e; rw [pk_uLs, pk_uLs]
  · rw [pk_uLn e, pk_uLn e, pk_uLn e]
set_option maxRecDepth 20000 in
set_option maxHeartbeats 4000000 in
theorem L_layW {ac by_ la ra : Int32} {ve oa lm : Int32} {il tb a1 a2 : Int32} {rs0 : Int64} {st fr sz cx cy go : Nat → Int32} {wn : Nat → Int64} {W H s b t P : Nat} (g32 : h 32 = oMod ac by_ la ra il (nI b) rs0 tb ve oa lm) (g33 : h 33 = aI 68 st) (g39 : h 39 = aI 40 fr) (g40 : h 40 = aI 40 sz) (g44 : h 44 = aI 160 cx) (g45 : h 45 = aI 160 cy) (g46 : h 46 = aI 160 go) (e0 : st 0 = nI W) (e1 : st 1 = nI H) (hW : W ≤ 8) (hH : H ≤ 8) {J : Bool} {rs : Int64} (hin : Wh W H rs) (v : ∀ k, Val rs (wk J rs t k)) (rr : wk J rs t P = wk J rs t 0) (hb : b < 40) (hs : s + P ≤ 144) (efr : fr b = nI s) (esz : sz b = nI P) (rw_ : ∀ k, k < P → cx (s + k) = wX J rs t k ∧ cy (s + k) = wY J rs t k ∧ go (s + k) = wW J rs t k) : ∀ (m k : Nat), k + m = 64 → Rc V i_Mod_lays 6 153 [some (.ref 32), some (.int a1), some (.int a2), some (.int (nI k))] [] (hu h 43 (aL 40 (vp_updL wn b (mkb (wi J rs t P) k)))) n z 218 [some (.ref 32), some (.int a1), some (.int a2), some (.int (nI 64))] [] (hu h 43 (aL 40 (vp_updL wn b (mkb (wi J rs t P) 64)))) n z := by
  intro m
  induction m with
  | zero =>
    intro k hk mc ms Qf n0 z0 q1 q2 K
    have e : k = 64 := by omega
    subst e
    refine a_iload_n d_Mod_lays_153 rfl ?_
    refine a_bipush (v := 64) d_Mod_lays_154 (by decide) ?_
    refine a_icmp_ge 218 d_Mod_lays_156 (by decide) (fun c156 => ?_) (fun c156 => absurd (Int32.le_refl _) c156)
    exact K
  | succ m ih =>
    intro k hk mc ms Qf n0 z0 q1 q2 K
    have r8 : nI k - nI k / 8 * 8 = nI (k % 8) := pk_rem (d := 8) (by omega) (by omega) (by omega)
    have d8 : nI k / 8 = nI (k / 8) := pk_div (d := 8) (by omega) (by omega) (by omega)
    have ew : lb (wi J rs t P) k = wiB J rs t P ((k % 8 : Nat) : Int) ((k / 8 : Nat) : Int) := lb_wi v (by omega) P
    have dot1 : lb (wi J rs t P) k = true → ¬ mDot (st 0) (st 1) (nI (k % 8)) (nI (k / 8)) = 0 := by
      intro q q2
      have e3 : inD (wi J rs t P) ((k % 8 : Nat) : Int) ((k / 8 : Nat) : Int) = true := by
        unfold inD
        rw [decide_eq_true (by omega), show (8 * ((k / 8 : Nat) : Int) + ((k % 8 : Nat) : Int)).toNat = k by omega, q]; rfl
      have e4 := Wh_wi v rr hin _ _ e3
      rw [e0, e1, iI_nat (k % 8), iI_nat (k / 8)] at q2
      exact (mDot_0 (by omega) (by omega) (by omega) (by omega)).mp q2 (by omega)
    refine a_iload_n d_Mod_lays_153 rfl ?_
    refine a_bipush (v := 64) d_Mod_lays_154 (by decide) ?_
    refine a_icmp_ge 218 d_Mod_lays_156 (by decide) (fun c156 => absurd c156 (nI_ge (b := 64) (show k < 64 by omega) (by omega))) (fun c156 => ?_)
    refine a_aload_n d_Mod_lays_159 rfl ?_
    refine a_getf d_Mod_lays_160 f_Mod_40 (show _ = oMod ac by_ la ra il (nI b) rs0 tb ve oa lm from g32) rfl ?_
    refine a_aload_n d_Mod_lays_163 rfl ?_
    refine a_getf d_Mod_lays_164 f_Mod_156 (show _ = oMod ac by_ la ra il (nI b) rs0 tb ve oa lm from g32) rfl ?_
    refine a_dup2 d_Mod_lays_167 rfl rfl ?_
    refine a_lald d_Mod_lays_168 (hu_s _ _ _) (nI_in (show b < 40 by omega) (by decide)) ?_
    refine a_aload_n d_Mod_lays_169 rfl ?_
    refine a_iload_n d_Mod_lays_170 rfl ?_
    refine a_bipush (v := 8) d_Mod_lays_171 (by decide) ?_
    refine a_irem d_Mod_lays_173 (by decide) ?_
    rw [r8]
    refine a_iload_n d_Mod_lays_174 rfl ?_
    refine a_bipush (v := 8) d_Mod_lays_175 (by decide) ?_
    refine a_idiv d_Mod_lays_177 (by decide) ?_
    rw [d8]
    refine a_cv0 (a := 32) d_Mod_lays_178 m_Mod_isDot t_Mod_isDot l_Mod_118 (show _ = oMod ac by_ la ra il (nI b) rs0 tb ve oa lm from g32) rfl rfl (s_Mod_isDot (h := (hu h 43 (aL 40 (vp_updL wn b (mkb (wi J rs t P) k))))) (show _ = oMod ac by_ la ra il (nI b) rs0 tb ve oa lm from g32) (show _ = aI 68 st from g33) _ _) rfl rfl ⟨Nat.le_of_ble_eq_true rfl, Nat.le_of_ble_eq_true rfl⟩ (Nat.le_of_ble_eq_true rfl)  ?_
    refine a_if_eq 209 d_Mod_lays_181 (by decide) (fun c181 => ?_) (fun c181 => ?_)
    · skip
      refine a_lconst (v := 0) d_Mod_lays_209 rfl ?_
      refine a_lor d_Mod_lays_210 ?_
      refine a_last d_Mod_lays_211 (hu_s _ _ _) (nI_in (show b < 40 by omega) (by decide)) ?_
      refine a_iinc d_Mod_lays_212 rfl (nI_1 k) (Nat.le_of_ble_eq_true rfl) rfl ?_
      refine a_goto 153 d_Mod_lays_215 (by decide) ?_
      refine a_eq rfl rfl rfl ?_ rfl rfl (ih (k + 1) (by omega) mc ms Qf n0 z0 q1 q2 K)
      rw [hu_hu, nI_clamp (by omega), pk_uLs, updLL]
      have ez : lb (wi J rs t P) k = false := by
        cases q : lb (wi J rs t P) k
        · rfl
        · exact absurd (dot1 q) (by rw [c181]; decide)
      show hu _ _ (aL 40 (vp_updL wn b (_ ||| 0))) = hu _ _ (aL 40 (vp_updL wn b (_ ||| _)))
      rw [if_neg (by rw [ez]; decide)]
    · skip
      refine a_aload_n d_Mod_lays_184 rfl ?_
      refine a_aload_n d_Mod_lays_185 rfl ?_
      refine a_getf d_Mod_lays_186 f_Mod_156 (show _ = oMod ac by_ la ra il (nI b) rs0 tb ve oa lm from g32) rfl ?_
      refine a_iload_n d_Mod_lays_189 rfl ?_
      refine a_bipush (v := 8) d_Mod_lays_190 (by decide) ?_
      refine a_irem d_Mod_lays_192 (by decide) ?_
      rw [r8]
      refine a_iload_n d_Mod_lays_193 rfl ?_
      refine a_bipush (v := 8) d_Mod_lays_194 (by decide) ?_
      refine a_idiv d_Mod_lays_196 (by decide) ?_
      rw [d8]
      refine a_cv0 (a := 32) d_Mod_lays_197 m_Mod_isWithin t_Mod_isWithin l_Mod_163 (show _ = oMod ac by_ la ra il (nI b) rs0 tb ve oa lm from g32) rfl rfl (s_Mod_isWithin (h := (hu h 43 (aL 40 (vp_updL wn b (mkb (wi J rs t P) k))))) (X := k % 8) (Y := k / 8) (show _ = oMod ac by_ la ra il (nI b) rs0 tb ve oa lm from g32) (show _ = aI 40 fr from g39) (show _ = aI 40 sz from g40) (show _ = aI 160 cx from g44) (show _ = aI 160 cy from g45) (show _ = aI 160 go from g46) v hb hs efr esz rw_ (by omega) (by omega)) rfl rfl ⟨Nat.le_of_ble_eq_true rfl, Nat.le_of_ble_eq_true rfl⟩ (Nat.le_of_ble_eq_true rfl)  ?_
      refine a_if_eq 209 d_Mod_lays_200 (by decide) (fun c200 => ?_) (fun c200 => ?_)
      · skip
        refine a_lconst (v := 0) d_Mod_lays_209 rfl ?_
        refine a_lor d_Mod_lays_210 ?_
        refine a_last d_Mod_lays_211 (hu_s _ _ _) (nI_in (show b < 40 by omega) (by decide)) ?_
        refine a_iinc d_Mod_lays_212 rfl (nI_1 k) (Nat.le_of_ble_eq_true rfl) rfl ?_
        refine a_goto 153 d_Mod_lays_215 (by decide) ?_
        refine a_eq rfl rfl rfl ?_ rfl rfl (ih (k + 1) (by omega) mc ms Qf n0 z0 q1 q2 K)
        rw [hu_hu, nI_clamp (by omega), pk_uLs, updLL]
        have ez : lb (wi J rs t P) k = false := by
          cases q : lb (wi J rs t P) k
          · rfl
          · rw [← ew, q, if_pos rfl] at c200; exact absurd c200 (by decide)
        show hu _ _ (aL 40 (vp_updL wn b (_ ||| 0))) = hu _ _ (aL 40 (vp_updL wn b (_ ||| _)))
        rw [if_neg (by rw [ez]; decide)]
      · skip
        refine a_lconst (v := 1) d_Mod_lays_203 rfl ?_
        refine a_iload_n d_Mod_lays_204 rfl ?_
        refine a_lshl d_Mod_lays_205 ?_
        refine a_goto 210 d_Mod_lays_206 (by decide) ?_
        refine a_lor d_Mod_lays_210 ?_
        refine a_last d_Mod_lays_211 (hu_s _ _ _) (nI_in (show b < 40 by omega) (by decide)) ?_
        refine a_iinc d_Mod_lays_212 rfl (nI_1 k) (Nat.le_of_ble_eq_true rfl) rfl ?_
        refine a_goto 153 d_Mod_lays_215 (by decide) ?_
        refine a_eq rfl rfl rfl ?_ rfl rfl (ih (k + 1) (by omega) mc ms Qf n0 z0 q1 q2 K)
        rw [hu_hu, nI_clamp (by omega), pk_uLs, updLL]
        have ez : lb (wi J rs t P) k = true := by
          cases q : lb (wi J rs t P) k
          · rw [← ew, q, if_neg (by decide)] at c200; exact absurd rfl c200
          · rfl
        show _ = hu _ _ (aL 40 (vp_updL wn b (_ ||| _)))
        rw [if_pos ez]
end
