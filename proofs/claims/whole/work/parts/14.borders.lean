/-! ALL BORDERS: Borders.nextBorder, Borders.follow: printed by wip/whole/t14.py -/
/-- what is left, how many borders, how many steps, when the first t dots have been looked at -/
def sc (J : Bool) (D : Int64) : Nat → Int64 × Nat × Nat
  | 0 => (D, 0, 0)
  | t + 1 => if lb (sc J D t).1 t = true then ((sc J D t).1 ^^^ wi J (sc J D t).1 t (per J (sc J D t).1 t), (sc J D t).2.1 + 1, (sc J D t).2.2 + per J (sc J D t).1 t) else sc J D t
def sR (J : Bool) (D : Int64) (t : Nat) : Int64 := (sc J D t).1
def sB (J : Bool) (D : Int64) (t : Nat) : Nat := (sc J D t).2.1
def sS (J : Bool) (D : Int64) (t : Nat) : Nat := (sc J D t).2.2
def sP (J : Bool) (D : Int64) (t : Nat) : Nat := per J (sR J D t) t
/-- a border begins at dot t -/
def isB (J : Bool) (D : Int64) (t : Nat) : Bool := lb (sR J D t) t
theorem sc_y {J : Bool} {D : Int64} {t : Nat} (h : isB J D t = true) : sR J D (t + 1) = sR J D t ^^^ wi J (sR J D t) t (sP J D t) ∧ sB J D (t + 1) = sB J D t + 1 ∧ sS J D (t + 1) = sS J D t + sP J D t := by
  have e : sc J D (t + 1) = ((sc J D t).1 ^^^ wi J (sc J D t).1 t (per J (sc J D t).1 t), (sc J D t).2.1 + 1, (sc J D t).2.2 + per J (sc J D t).1 t) := by
    show (if lb (sc J D t).1 t = true then _ else _) = _
    rw [if_pos (show lb (sc J D t).1 t = true from h)]
  refine ⟨?_, ?_, ?_⟩ <;> simp only [sR, sB, sS, sP, e]
theorem sc_n {J : Bool} {D : Int64} {t : Nat} (h : isB J D t = false) : sR J D (t + 1) = sR J D t ∧ sB J D (t + 1) = sB J D t ∧ sS J D (t + 1) = sS J D t := by
  have e : sc J D (t + 1) = sc J D t := by
    show (if lb (sc J D t).1 t = true then _ else _) = _
    rw [if_neg (by rw [show lb (sc J D t).1 t = false from h]; decide)]
  refine ⟨?_, ?_, ?_⟩ <;> simp only [sR, sB, sS, e]
theorem sB_le (J : Bool) (D : Int64) : ∀ t, sB J D t ≤ t
  | 0 => Nat.le_refl 0
  | t + 1 => by
    have ih := sB_le J D t
    cases h : isB J D t
    · rw [(sc_n h).2.1]; omega
    · rw [(sc_y h).2.1]; omega
theorem sc_mono (J : Bool) (D : Int64) {t : Nat} : ∀ m, sB J D t ≤ sB J D (t + m) ∧ sS J D t ≤ sS J D (t + m)
  | 0 => ⟨Nat.le_refl _, Nat.le_refl _⟩
  | m + 1 => by
    have ih := sc_mono J D (t := t) m
    rw [← Nat.add_assoc]
    cases h : isB J D (t + m)
    · rw [(sc_n h).2.1, (sc_n h).2.2]; exact ih
    · rw [(sc_y h).2.1, (sc_y h).2.2]; omega
theorem sc_lt {J : Bool} {D : Int64} {t' t : Nat} (h : t' < t) (hb : isB J D t' = true) : sB J D t' < sB J D t ∧ sS J D t' + sP J D t' ≤ sS J D t := by
  have := sc_mono J D (t := t' + 1) (t - (t' + 1))
  rw [show t' + 1 + (t - (t' + 1)) = t by omega, (sc_y hb).2.1, (sc_y hb).2.2] at this
  omega
/-- the walks come back, and all of them together are no longer than 144 -/
def GoodD (J : Bool) (D : Int64) : Prop := ∀ t, t < 64 → isB J D t = true → wk J (sR J D t) t (sP J D t) = wk J (sR J D t) t 0 ∧ sS J D t + sP J D t ≤ 144
/-- the border that begins at dot t, in the rows -/
def rowsB (J : Bool) (D : Int64) (xs ys ws : Nat → Int32) (t : Nat) : Prop := ∀ k, k < sP J D t → xs (sS J D t + k) = wX J (sR J D t) t k ∧ ys (sS J D t + k) = wY J (sR J D t) t k ∧ ws (sS J D t + k) = wW J (sR J D t) t k
abbrev oBd (J : Bool) (D : Int64) (t : Nat) (me ve bo : Int32) : AC := oBrd (nI (sS J D t)) (nI (sP J D t)) (nI t) (wi J (sR J D t) t (sP J D t)) me ve bo
def KN (h : AH) (n : Nat) (kn : Nat → Option Nat) (kc : Nat) : Prop := h 23 = aQ 64 kn ∧ n = 53 + kc ∧ kc ≤ 64 ∧ (∀ j, j < kc → kn j = some (53 + j) ∧ ∃ a1 a2 a3 a4 a5 a6 a7, h (53 + j) = oBrd a1 a2 a3 a4 a5 a6 a7) ∧ ∀ j, kc ≤ j → kn j = none
def FR (h0 h : AH) : Prop := ∀ i, i < 53 → i ≠ 19 → i ≠ 20 → i ≠ 21 → i ≠ 22 → i ≠ 23 → h i = h0 i
def FI (J : Bool) (D : Int64) (jn : Int32) (t : Nat) (h0 h : AH) (n : Nat) : Prop := ∃ xs ys ws kn kc, h 19 = oBrs 1 D jn (nI (sB J D t)) ∧ h 20 = aI 144 xs ∧ h 21 = aI 144 ys ∧ h 22 = aI 144 ws ∧ KN h n kn kc ∧ sB J D t ≤ kc ∧ (∀ t', t' < t → isB J D t' = true → h (53 + sB J D t') = oBd J D t' 0 0 0 ∧ rowsB J D xs ys ws t') ∧ FR h0 h
section
variable {V : VV} {h : AH} {n z : Nat}

set_option maxRecDepth 20000 in
set_option maxHeartbeats 4000000 in
theorem s_Brd_init {b : Nat} {c : AC} (gb : h b = c) : AMet V i_Brd_init 1 [.ref b] h n z (none) (h) n z := by
  refine AMet.intro (Nat.le_refl _) (Nat.le_refl _) (by decide) (Nat.le_of_ble_eq_true rfl) rfl ?_
  refine a_aload_n d_Brd_init_0 rfl ?_
  refine a_obj d_Brd_init_1 l_Brd_1 w_oi1 w_oi2 (Nat.le_of_ble_eq_true rfl) (Nat.le_of_ble_eq_true rfl) ?_
  exact a_vret d_Brd_init_4 rfl rfl rfl rfl
set_option maxRecDepth 20000 in
set_option maxHeartbeats 4000000 in
theorem s_Brs_nextOld {wkd jn : Int32} {dt : Int64} {S : Nat} {kn : Nat → Option Nat} (g19 : h 19 = oBrs wkd dt jn (nI S)) (g23 : h 23 = aQ 64 kn) (hS : S < 64) {b : Nat} (hb : kn S = some b) : AMet V i_Brs_nextBorder 2 [.ref 19] h n z (some (.ref b)) (hu h 19 (oBrs wkd dt jn (nI (S + 1)))) n z := by
  refine AMet.intro (Nat.le_refl _) (Nat.le_refl _) (by decide) (Nat.le_of_ble_eq_true rfl) rfl ?_
  refine a_aload_n d_Brs_nextBorder_0 rfl ?_
  refine a_getf d_Brs_nextBorder_1 f_Brs_27 g19 rfl ?_
  refine a_if_lt 16 d_Brs_nextBorder_4 (by decide) (fun c4 => absurd c4 (nI_pos (by omega))) (fun c4 => ?_)
  refine a_aload_n d_Brs_nextBorder_7 rfl ?_
  refine a_getf d_Brs_nextBorder_8 f_Brs_27 g19 rfl ?_
  refine a_bipush (v := 64) d_Brs_nextBorder_11 (by decide) ?_
  refine a_icmp_lt 18 d_Brs_nextBorder_13 (by decide) (fun c13 => ?_) (fun c13 => absurd (nI_lt (b := 64) hS (by omega)) c13)
  refine a_aload_n d_Brs_nextBorder_18 rfl ?_
  refine a_getf d_Brs_nextBorder_19 f_Brs_23 g19 rfl ?_
  refine a_aload_n d_Brs_nextBorder_22 rfl ?_
  refine a_getf d_Brs_nextBorder_23 f_Brs_27 g19 rfl ?_
  refine a_aald d_Brs_nextBorder_26 g23 (vp_in_nI hS (by omega)) ?_
  rw [nI_clamp (by omega), hb]
  refine a_ifnonnull 46 d_Brs_nextBorder_27 (by decide) ?_
  refine a_aload_n d_Brs_nextBorder_46 rfl ?_
  refine a_dup d_Brs_nextBorder_47 rfl ?_
  refine a_getf d_Brs_nextBorder_48 f_Brs_27 g19 rfl ?_
  refine a_iconst (v := 1) d_Brs_nextBorder_51 (by decide) ?_
  refine a_iadd d_Brs_nextBorder_52 ?_
  refine a_putf d_Brs_nextBorder_53 f_Brs_27 rfl g19 (Nat.le_of_ble_eq_true rfl) rfl rfl ?_
  refine a_aload_n d_Brs_nextBorder_56 rfl ?_
  refine a_getf d_Brs_nextBorder_57 f_Brs_23 rfl rfl ?_
  refine a_aload_n d_Brs_nextBorder_60 rfl ?_
  refine a_getf d_Brs_nextBorder_61 f_Brs_27 rfl rfl ?_
  refine a_iconst (v := 1) d_Brs_nextBorder_64 (by decide) ?_
  refine a_isub d_Brs_nextBorder_65 ?_
  refine a_aald d_Brs_nextBorder_66 g23 (by rw [nI_1, nI_pred]; exact vp_in_nI hS (by omega)) ?_
  rw [nI_1, nI_pred, nI_clamp (by omega), hb]
  exact a_aret d_Brs_nextBorder_67 rfl (Or.inr ⟨_, rfl⟩) rfl rfl rfl
set_option maxRecDepth 20000 in
set_option maxHeartbeats 4000000 in
theorem s_Brs_nextNew {wkd jn : Int32} {dt : Int64} {S : Nat} {kn : Nat → Option Nat} (g19 : h 19 = oBrs wkd dt jn (nI S)) (g23 : h 23 = aQ 64 kn) (hS : S < 64) (hb : kn S = none) (hn : 53 ≤ n) : AMet V i_Brs_nextBorder 2 [.ref 19] h n z (some (.ref n)) (hu (hu (hu h n (oBrd 0 0 0 0 0 0 0)) 23 (aQ 64 (va_up kn S (some n)))) 19 (oBrs wkd dt jn (nI (S + 1)))) (n + 1) (z + 7) := by
  refine AMet.intro (Nat.le_succ n) (Nat.le_add_right z 7) (by decide) (Nat.le_of_ble_eq_true rfl) rfl ?_
  refine a_aload_n d_Brs_nextBorder_0 rfl ?_
  refine a_getf d_Brs_nextBorder_1 f_Brs_27 g19 rfl ?_
  refine a_if_lt 16 d_Brs_nextBorder_4 (by decide) (fun c4 => absurd c4 (nI_pos (by omega))) (fun c4 => ?_)
  refine a_aload_n d_Brs_nextBorder_7 rfl ?_
  refine a_getf d_Brs_nextBorder_8 f_Brs_27 g19 rfl ?_
  refine a_bipush (v := 64) d_Brs_nextBorder_11 (by decide) ?_
  refine a_icmp_lt 18 d_Brs_nextBorder_13 (by decide) (fun c13 => ?_) (fun c13 => absurd (nI_lt (b := 64) hS (by omega)) c13)
  refine a_aload_n d_Brs_nextBorder_18 rfl ?_
  refine a_getf d_Brs_nextBorder_19 f_Brs_23 g19 rfl ?_
  refine a_aload_n d_Brs_nextBorder_22 rfl ?_
  refine a_getf d_Brs_nextBorder_23 f_Brs_27 g19 rfl ?_
  refine a_aald d_Brs_nextBorder_26 g23 (vp_in_nI hS (by omega)) ?_
  rw [nI_clamp (by omega), hb]
  refine a_ifnonnullN d_Brs_nextBorder_27 ?_
  refine a_aload_n d_Brs_nextBorder_30 rfl ?_
  refine a_getf d_Brs_nextBorder_31 f_Brs_23 g19 rfl ?_
  refine a_aload_n d_Brs_nextBorder_34 rfl ?_
  refine a_getf d_Brs_nextBorder_35 f_Brs_27 g19 rfl ?_
  refine a_new (fs := [.int 0, .int 0, .int 0, .long 0, .int 0, .int 0, .int 0]) d_Brs_nextBorder_38 ci_Brd c_Brs_21 n_Brd z_Brd (fun i hi => (by rcases (show i = 0 ∨ i = 1 ∨ i = 2 ∨ i = 3 ∨ i = 4 ∨ i = 5 ∨ i = 6 by omega) with rfl | rfl | rfl | rfl | rfl | rfl | rfl <;> rfl)) (show n + 1 ≤ n + (n + 1 - n) by omega) (show z + 7 ≤ z + (z + 7 - z) by omega) ?_
  refine a_dup d_Brs_nextBorder_41 rfl ?_
  refine a_ci d_Brs_nextBorder_42 m_Brd_init t_Brd_init l_Brs_68 (s_Brd_init (hu_s _ _ _)) rfl rfl ⟨Nat.le_of_ble_eq_true rfl, Nat.le_of_ble_eq_true rfl⟩ (Nat.le_of_ble_eq_true rfl) (show n + 1 ≤ n + (n + 1 - n) by omega) (show z + 7 ≤ z + (z + 7 - z) by omega) ?_
  refine a_aast d_Brs_nextBorder_45 (show _ = aQ 64 kn from by rw [hu_n (by omega)]; exact g23) (hu_s _ _ _) (vp_in_nI hS (by omega)) ?_
  refine a_aload_n d_Brs_nextBorder_46 rfl ?_
  refine a_dup d_Brs_nextBorder_47 rfl ?_
  refine a_getf d_Brs_nextBorder_48 f_Brs_27 (show _ = oBrs wkd dt jn (nI S) from by simp [hu, show (19 : Nat) ≠ n by omega, g19]) rfl ?_
  refine a_iconst (v := 1) d_Brs_nextBorder_51 (by decide) ?_
  refine a_iadd d_Brs_nextBorder_52 ?_
  refine a_putf d_Brs_nextBorder_53 f_Brs_27 rfl (show _ = oBrs wkd dt jn (nI S) from by simp [hu, show (19 : Nat) ≠ n by omega, g19]) (Nat.le_of_ble_eq_true rfl) rfl rfl ?_
  refine a_aload_n d_Brs_nextBorder_56 rfl ?_
  refine a_getf d_Brs_nextBorder_57 f_Brs_23 (hu_s _ _ _) rfl ?_
  refine a_aload_n d_Brs_nextBorder_60 rfl ?_
  refine a_getf d_Brs_nextBorder_61 f_Brs_27 (hu_s _ _ _) rfl ?_
  refine a_iconst (v := 1) d_Brs_nextBorder_64 (by decide) ?_
  refine a_isub d_Brs_nextBorder_65 ?_
  refine a_aald d_Brs_nextBorder_66 (show _ = aQ 64 (va_up kn S (some n)) from by rw [nI_clamp (show S < 2 ^ 31 by omega)]; simp [hu]) (by rw [nI_1, nI_pred]; exact vp_in_nI hS (by omega)) ?_
  rw [nI_1, nI_pred, nI_clamp (by omega), show va_up kn S (some n) S = some n by simp [va_up]]
  exact a_aret d_Brs_nextBorder_67 rfl (Or.inr ⟨_, rfl⟩) rfl rfl rfl
theorem FI.new {J : Bool} {D : Int64} {jn : Int32} {t : Nat} {h0 h h2 : AH} {n n2 : Nat} (G : GoodD J D) (ht : t < 64) (hb : isB J D t = true)
    {xs ys ws : Nat → Int32} {kn : Nat → Option Nat} {kc : Nat} (g20 : h 20 = aI 144 xs) (g21 : h 21 = aI 144 ys) (g22 : h 22 = aI 144 ws)
    (g19 : h 19 = oBrs 1 D jn (nI (sB J D t + 1))) (kN : KN h n kn kc) (hk : sB J D t + 1 ≤ kc) (hc : ∀ t', t' < t → isB J D t' = true → h (53 + sB J D t') = oBd J D t' 0 0 0 ∧ rowsB J D xs ys ws t') (fr : FR h0 h)
    (e : h2 = hW J (sR J D t) t (sS J D t) (53 + sB J D t) h xs ys ws (sP J D t)) : FI J D jn (t + 1) h0 h2 n := by
  subst e
  obtain ⟨y1, y2, y3⟩ := sc_y hb
  have far : ∀ i, i ≠ 20 → i ≠ 21 → i ≠ 22 → i ≠ 53 + sB J D t → hW J (sR J D t) t (sS J D t) (53 + sB J D t) h xs ys ws (sP J D t) i = h i := by
    intro i q1 q2 q3 q4
    simp [hW, hu, q1, q2, q3, q4]
  obtain ⟨k1, k2, k3, k4, k5⟩ := kN
  refine ⟨pt xs (sS J D t) (sP J D t) (wX J (sR J D t) t), pt ys (sS J D t) (sP J D t) (wY J (sR J D t) t), pt ws (sS J D t) (sP J D t) (wW J (sR J D t) t), kn, kc, ?_, ?_, ?_, ?_, ⟨?_, k2, k3, fun j hj => ⟨(k4 j hj).1, ?_⟩, k5⟩, ?_, fun t' ht' hb' => ?_, fun i q0 q1 q2 q3 q4 q5 => ?_⟩
  · rw [far 19 (by omega) (by omega) (by omega) (by omega), g19, y2]
  · simp [hW, hu, show (20 : Nat) ≠ 53 + sB J D t by omega]
  · simp [hW, hu, show (21 : Nat) ≠ 53 + sB J D t by omega]
  · simp [hW, hu, show (22 : Nat) ≠ 53 + sB J D t by omega]
  · rw [far 23 (by omega) (by omega) (by omega) (by omega), k1]
  · by_cases e : j = sB J D t
    · subst e
      exact ⟨_, _, _, _, _, _, _, hu_s _ _ _⟩
    · obtain ⟨a1, a2, a3, a4, a5, a6, a7, ea⟩ := (k4 j hj).2
      exact ⟨a1, a2, a3, a4, a5, a6, a7, by rw [far (53 + j) (by omega) (by omega) (by omega) (by omega), ea]⟩
  · rw [y2]; exact hk
  · rcases Nat.lt_or_ge t' t with q | q
    · obtain ⟨l1, l2⟩ := sc_lt q hb'
      obtain ⟨c1, c2⟩ := hc t' q hb'
      refine ⟨by rw [far _ (by omega) (by omega) (by omega) (by omega), c1], fun k hk => ?_⟩
      rw [pt_out (by omega), pt_out (by omega), pt_out (by omega)]
      exact c2 k hk
    · have e : t' = t := by omega
      subst e
      refine ⟨hu_s _ _ _, fun k hk => ?_⟩
      rw [pt_in hk, pt_in hk, pt_in hk]
      exact ⟨rfl, rfl, rfl⟩
  · rw [far i q2 q3 q4 (by omega)]
    exact fr i q0 q1 q2 q3 q4 q5
theorem FI.skip {J : Bool} {D : Int64} {jn : Int32} {t : Nat} {h0 h : AH} {n : Nat} (hb : isB J D t = false) (F : FI J D jn t h0 h n) : FI J D jn (t + 1) h0 h n := by
  obtain ⟨y1, y2, y3⟩ := sc_n hb
  obtain ⟨xs, ys, ws, kn, kc, f1, f2, f3, f4, f5, f6, f7, f8⟩ := F
  refine ⟨xs, ys, ws, kn, kc, by rw [y2]; exact f1, f2, f3, f4, f5, by rw [y2]; exact f6, fun t' ht' hb' => ?_, f8⟩
  rcases Nat.lt_or_ge t' t with q | q
  · exact f7 t' q hb'
  · rw [show t' = t by omega, hb] at hb'
    cases hb'
set_option maxRecDepth 20000 in
set_option maxHeartbeats 4000000 in
theorem L_follow {J : Bool} {D : Int64} {jn : Int32} (hJ : J = decide (jn = 1)) (G : GoodD J D) {h0 : AH} : ∀ (m t : Nat), t + m = 64 → ∀ (h : AH) (n z : Nat), FI J D jn t h0 h n → ∃ h' n' z', FI J D jn 64 h0 h' n' ∧ n ≤ n' ∧ z ≤ z' ∧ z' + 7 * n = z + 7 * n' ∧ Rc V i_Brs_follow 3 57 [some (.ref 19), some (.long D), none, some (.int jn), some (.long (sR J D t)), none, some (.int (nI (sS J D t))), some (.int (nI t)), none] [] h n z 131 [some (.ref 19), some (.long D), none, some (.int jn), some (.long (sR J D 64)), none, some (.int (nI (sS J D 64))), some (.int (nI 64)), none] [] h' n' z' := by
  intro m
  induction m with
  | zero =>
    intro t ht h n z F
    have e : t = 64 := by omega
    subst e
    refine ⟨h, n, z, F, Nat.le_refl _, Nat.le_refl _, rfl, fun mc ms Qf n0 z0 q1 q2 K => ?_⟩
    refine a_iload d_Brs_follow_57 rfl ?_
    refine a_bipush (v := 64) d_Brs_follow_59 (by decide) ?_
    refine a_icmp_ge 131 d_Brs_follow_61 (by decide) (fun c61 => ?_) (fun c61 => absurd (nI_le (Nat.le_refl 64) (by omega)) c61)
    exact K
  | succ m ih =>
    intro t ht h n z F
    have eb : (((sR J D t).toUInt64 >>> ((nI t).toInt64.toUInt64 &&& Int64.toUInt64 63)).toInt64 &&& 1) = if lb (sR J D t) t then 1 else 0 := lb_pickU t (by omega) _
    cases hb : isB J D t with
    | false =>
      obtain ⟨h', n', z', r1, r2, r3, r4, r5⟩ := ih (t + 1) (by omega) h n z (F.skip hb)
      obtain ⟨y1, y2, y3⟩ := sc_n hb
      rw [y1, y3] at r5
      refine ⟨h', n', z', r1, r2, r3, r4, fun mc ms Qf n0 z0 q1 q2 K => ?_⟩
      refine a_iload d_Brs_follow_57 rfl ?_
      refine a_bipush (v := 64) d_Brs_follow_59 (by decide) ?_
      refine a_icmp_ge 131 d_Brs_follow_61 (by decide) (fun c61 => absurd c61 (nI_ge (b := 64) (show t < 64 by omega) (by omega))) (fun c61 => ?_)
      refine a_lload d_Brs_follow_64 rfl ?_
      refine a_iload d_Brs_follow_66 rfl ?_
      refine a_lushr d_Brs_follow_68 ?_
      refine a_lconst (v := 1) d_Brs_follow_69 rfl ?_
      refine a_land d_Brs_follow_70 ?_
      refine a_lconst (v := 1) d_Brs_follow_71 rfl ?_
      refine a_lcmp d_Brs_follow_72 ?_
      refine a_if_ne 125 d_Brs_follow_73 (by decide) (fun c73 => ?_) (fun c73 => absurd c73 (by rw [eb, show lb (sR J D t) t = false from hb]; decide))
      refine a_iinc d_Brs_follow_125 rfl (nI_1 t) (Nat.le_of_ble_eq_true rfl) rfl ?_
      refine a_goto 57 d_Brs_follow_128 (by decide) ?_
      exact r5 mc ms Qf n0 z0 q1 q2 K
    | true =>
      obtain ⟨xs, ys, ws, kn, kc, f1, f2, f3, f4, f5, f6, f7, f8⟩ := F
      obtain ⟨y1, y2, y3⟩ := sc_y hb
      obtain ⟨gper, glen⟩ := G t (by omega) hb
      have hS := sB_le J D t
      obtain ⟨k1, k2, k3, k4, k5⟩ := id f5
      rcases Nat.lt_or_ge (sB J D t) kc with hk | hk
      · obtain ⟨kb, a1, a2, a3, a4, a5, a6, a7, ea⟩ := k4 _ hk
        obtain ⟨h1, eh1⟩ : ∃ h1, h1 = hu (hu h 19 (oBrs 1 D jn (nI (sB J D t + 1)))) (53 + sB J D t) (oBrd (nI (sS J D t)) 0 (nI t) 0 0 0 0) := ⟨_, rfl⟩
        have far : ∀ i, i ≠ 19 → i ≠ 53 + sB J D t → h1 i = h i := by
          intro i q1 q2
          rw [eh1]; simp [hu, q1, q2]
        have F1 : FI J D jn (t + 1) h0 (hW J (sR J D t) t (sS J D t) (53 + sB J D t) h1 xs ys ws (sP J D t)) n := by
          refine FI.new (h := h1) (n2 := n) G (by omega) hb (by rw [far 20 (by omega) (by omega)]; exact f2) (by rw [far 21 (by omega) (by omega)]; exact f3) (by rw [far 22 (by omega) (by omega)]; exact f4) (by rw [eh1]; simp [hu, show (19 : Nat) ≠ 53 + sB J D t by omega]) ⟨by rw [far 23 (by omega) (by omega)]; exact k1, k2, k3, fun j hj => ⟨(k4 j hj).1, ?_⟩, k5⟩ hk (fun t' ht' hb' => ?_) (fun i q0 q1 q2 q3 q4 q5 => by rw [far i q1 (by omega)]; exact f8 i q0 q1 q2 q3 q4 q5) rfl
          · by_cases e : j = sB J D t
            · subst e
              exact ⟨_, _, _, _, _, _, _, by rw [eh1]; exact hu_s _ _ _⟩
            · obtain ⟨c1, c2, c3, c4, c5, c6, c7, ec⟩ := (k4 j hj).2
              exact ⟨c1, c2, c3, c4, c5, c6, c7, by rw [far (53 + j) (by omega) (by omega), ec]⟩
          · have l := sc_lt ht' hb'
            rw [far _ (by omega) (by omega)]
            exact f7 t' ht' hb'
        obtain ⟨h', n', z', r1, r2, r3, r4, r5⟩ := ih (t + 1) (by omega) _ n z F1
        rw [y1, y3] at r5
        refine ⟨h', n', z', r1, r2, r3, r4, fun mc ms Qf n0 z0 q1 q2 K => ?_⟩
        refine a_iload d_Brs_follow_57 rfl ?_
        refine a_bipush (v := 64) d_Brs_follow_59 (by decide) ?_
        refine a_icmp_ge 131 d_Brs_follow_61 (by decide) (fun c61 => absurd c61 (nI_ge (b := 64) (show t < 64 by omega) (by omega))) (fun c61 => ?_)
        refine a_lload d_Brs_follow_64 rfl ?_
        refine a_iload d_Brs_follow_66 rfl ?_
        refine a_lushr d_Brs_follow_68 ?_
        refine a_lconst (v := 1) d_Brs_follow_69 rfl ?_
        refine a_land d_Brs_follow_70 ?_
        refine a_lconst (v := 1) d_Brs_follow_71 rfl ?_
        refine a_lcmp d_Brs_follow_72 ?_
        refine a_if_ne 125 d_Brs_follow_73 (by decide) (fun c73 => absurd c73 (by rw [eb, show lb (sR J D t) t = true from hb]; decide)) (fun c73 => ?_)
        refine a_aload_n d_Brs_follow_76 rfl ?_
        refine a_cv0 d_Brs_follow_77 m_Brs_nextBorder t_Brs_nextBorder l_Brs_53 f1 rfl rfl (s_Brs_nextOld f1 k1 (by omega) kb) rfl rfl ⟨Nat.le_of_ble_eq_true rfl, Nat.le_of_ble_eq_true rfl⟩ (Nat.le_of_ble_eq_true rfl)  ?_
        refine a_astore d_Brs_follow_80 (Nat.le_of_ble_eq_true rfl) (Nat.le_of_ble_eq_true rfl) rfl ?_
        refine a_aload d_Brs_follow_82 rfl ?_
        refine a_ifnonnull 88 d_Brs_follow_84 (by decide) ?_
        refine a_aload d_Brs_follow_88 rfl ?_
        refine a_iload d_Brs_follow_90 rfl ?_
        refine a_iload d_Brs_follow_92 rfl ?_
        refine a_cv0 d_Brs_follow_94 m_Brd_begin t_Brd_begin l_Brs_57 (show _ = oBrd a1 a2 a3 a4 a5 a6 a7 from by rw [hu_n (by omega)]; exact ea) rfl rfl (s_Brd_begin (show _ = oBrd a1 a2 a3 a4 a5 a6 a7 from by rw [hu_n (by omega)]; exact ea) _ _) rfl rfl ⟨Nat.le_of_ble_eq_true rfl, Nat.le_of_ble_eq_true rfl⟩ (Nat.le_of_ble_eq_true rfl)  ?_
        refine a_aload_n d_Brs_follow_97 rfl ?_
        refine a_aload d_Brs_follow_98 rfl ?_
        refine a_lload d_Brs_follow_100 rfl ?_
        refine a_cv0 d_Brs_follow_102 m_Brs_walk t_Brs_walk l_Brs_61 (show _ = oBrs 1 D jn (nI (sB J D t + 1)) from by simp [hu, show (19 : Nat) ≠ 53 + sB J D t by omega]) rfl rfl (s_Brs_walk (b := 53 + sB J D t) (wkd := 1) (dt := D) (jn := jn) (sz := nI (sB J D t + 1)) (by omega) (show _ = oBrs 1 D jn (nI (sB J D t + 1)) from by rw [← eh1, eh1]; simp [hu, show (19 : Nat) ≠ 53 + sB J D t by omega]) (show _ = aI 144 xs from by rw [← eh1, far 20 (by omega) (by omega)]; exact f2) (show _ = aI 144 ys from by rw [← eh1, far 21 (by omega) (by omega)]; exact f3) (show _ = aI 144 ws from by rw [← eh1, far 22 (by omega) (by omega)]; exact f4) (by omega) hJ glen gper (hu_s _ _ _)) rfl rfl ⟨Nat.le_of_ble_eq_true rfl, Nat.le_of_ble_eq_true rfl⟩ (Nat.le_of_ble_eq_true rfl)  ?_
        rw [← eh1]
        refine a_iload d_Brs_follow_105 rfl ?_
        refine a_aload d_Brs_follow_107 rfl ?_
        refine a_getf d_Brs_follow_109 f_Brs_35 (hu_s _ _ _) rfl ?_
        refine a_iadd d_Brs_follow_112 ?_
        rw [show sP J D t = per J (sR J D t) t from rfl] at r5
        rw [nI_add]
        refine a_istore d_Brs_follow_113 (Nat.le_of_ble_eq_true rfl) (Nat.le_of_ble_eq_true rfl) rfl ?_
        refine a_lload d_Brs_follow_115 rfl ?_
        refine a_aload d_Brs_follow_117 rfl ?_
        refine a_getf d_Brs_follow_119 f_Brs_65 (hu_s _ _ _) rfl ?_
        refine a_lxor d_Brs_follow_122 ?_
        refine a_lstore d_Brs_follow_123 (Nat.le_of_ble_eq_true rfl) (Nat.le_of_ble_eq_true rfl) rfl ?_
        refine a_iinc d_Brs_follow_125 rfl (nI_1 t) (Nat.le_of_ble_eq_true rfl) rfl ?_
        refine a_goto 57 d_Brs_follow_128 (by decide) ?_
        refine a_drop 8 ?_
        exact r5 mc ms Qf n0 z0 q1 q2 K
      · have hk' : sB J D t = kc := by omega
        have hn : n = 53 + sB J D t := by omega
        have kb := k5 _ hk
        obtain ⟨h1, eh1⟩ : ∃ h1, h1 = hu (hu (hu (hu h n (oBrd 0 0 0 0 0 0 0)) 23 (aQ 64 (va_up kn (sB J D t) (some n)))) 19 (oBrs 1 D jn (nI (sB J D t + 1)))) n (oBrd (nI (sS J D t)) 0 (nI t) 0 0 0 0) := ⟨_, rfl⟩
        have far : ∀ i, i ≠ 19 → i ≠ 23 → i ≠ n → h1 i = h i := by
          intro i q1 q2 q3
          rw [eh1]; simp [hu, q1, q2, q3]
        have F1 : FI J D jn (t + 1) h0 (hW J (sR J D t) t (sS J D t) (53 + sB J D t) h1 xs ys ws (sP J D t)) (n + 1) := by
          refine FI.new (h := h1) (n2 := n) (kn := va_up kn (sB J D t) (some n)) (kc := kc + 1) G (by omega) hb (by rw [far 20 (by omega) (by omega) (by omega)]; exact f2) (by rw [far 21 (by omega) (by omega) (by omega)]; exact f3) (by rw [far 22 (by omega) (by omega) (by omega)]; exact f4) (by rw [eh1]; simp [hu, show (19 : Nat) ≠ n by omega]) ⟨by rw [eh1]; simp [hu, show (23 : Nat) ≠ n by omega], by omega, by omega, fun j hj => ?_, fun j hj => ?_⟩ (by omega) (fun t' ht' hb' => ?_) (fun i q0 q1 q2 q3 q4 q5 => by rw [far i q1 q5 (by omega)]; exact f8 i q0 q1 q2 q3 q4 q5) rfl
          · by_cases e : j = sB J D t
            · subst e
              refine ⟨by simp [va_up, hn], _, _, _, _, _, _, _, by rw [eh1, ← hn]; exact hu_s _ _ _⟩
            · obtain ⟨c0, c1, c2, c3, c4, c5, c6, c7, ec⟩ := k4 j (by omega)
              refine ⟨by simp [va_up, e, c0], c1, c2, c3, c4, c5, c6, c7, by rw [far (53 + j) (by omega) (by omega) (by omega), ec]⟩
          · simp [va_up, show j ≠ sB J D t by omega, k5 j (by omega)]
          · have l := sc_lt ht' hb'
            rw [far _ (by omega) (by omega) (by omega)]
            exact f7 t' ht' hb'
        obtain ⟨h', n', z', r1, r2, r3, r4, r5⟩ := ih (t + 1) (by omega) _ (n + 1) (z + 7) F1
        rw [y1, y3] at r5
        rw [← hn] at r5
        refine ⟨h', n', z', r1, by omega, by omega, by omega, fun mc ms Qf n0 z0 q1 q2 K => ?_⟩
        refine a_iload d_Brs_follow_57 rfl ?_
        refine a_bipush (v := 64) d_Brs_follow_59 (by decide) ?_
        refine a_icmp_ge 131 d_Brs_follow_61 (by decide) (fun c61 => absurd c61 (nI_ge (b := 64) (show t < 64 by omega) (by omega))) (fun c61 => ?_)
        refine a_lload d_Brs_follow_64 rfl ?_
        refine a_iload d_Brs_follow_66 rfl ?_
        refine a_lushr d_Brs_follow_68 ?_
        refine a_lconst (v := 1) d_Brs_follow_69 rfl ?_
        refine a_land d_Brs_follow_70 ?_
        refine a_lconst (v := 1) d_Brs_follow_71 rfl ?_
        refine a_lcmp d_Brs_follow_72 ?_
        refine a_if_ne 125 d_Brs_follow_73 (by decide) (fun c73 => absurd c73 (by rw [eb, show lb (sR J D t) t = true from hb]; decide)) (fun c73 => ?_)
        refine a_aload_n d_Brs_follow_76 rfl ?_
        refine a_cv d_Brs_follow_77 m_Brs_nextBorder t_Brs_nextBorder l_Brs_53 f1 rfl rfl (s_Brs_nextNew f1 k1 (by omega) kb (by omega)) rfl rfl ⟨Nat.le_of_ble_eq_true rfl, Nat.le_of_ble_eq_true rfl⟩ (Nat.le_of_ble_eq_true rfl) (by show n + 1 ≤ n0 + mc; omega) (by show z + 7 ≤ z0 + ms; omega) ?_
        refine a_astore d_Brs_follow_80 (Nat.le_of_ble_eq_true rfl) (Nat.le_of_ble_eq_true rfl) rfl ?_
        refine a_aload d_Brs_follow_82 rfl ?_
        refine a_ifnonnull 88 d_Brs_follow_84 (by decide) ?_
        refine a_aload d_Brs_follow_88 rfl ?_
        refine a_iload d_Brs_follow_90 rfl ?_
        refine a_iload d_Brs_follow_92 rfl ?_
        refine a_cv0 d_Brs_follow_94 m_Brd_begin t_Brd_begin l_Brs_57 (show _ = oBrd 0 0 0 0 0 0 0 from by simp [hu, show n ≠ 19 by omega, show n ≠ 23 by omega]) rfl rfl (s_Brd_begin (show _ = oBrd 0 0 0 0 0 0 0 from by simp [hu, show n ≠ 19 by omega, show n ≠ 23 by omega]) _ _) rfl rfl ⟨Nat.le_of_ble_eq_true rfl, Nat.le_of_ble_eq_true rfl⟩ (Nat.le_of_ble_eq_true rfl)  ?_
        refine a_aload_n d_Brs_follow_97 rfl ?_
        refine a_aload d_Brs_follow_98 rfl ?_
        refine a_lload d_Brs_follow_100 rfl ?_
        refine a_cv0 d_Brs_follow_102 m_Brs_walk t_Brs_walk l_Brs_61 (show _ = oBrs 1 D jn (nI (sB J D t + 1)) from by simp [hu, show (19 : Nat) ≠ n by omega]) rfl rfl (s_Brs_walk (b := n) (wkd := 1) (dt := D) (jn := jn) (sz := nI (sB J D t + 1)) (by omega) (show _ = oBrs 1 D jn (nI (sB J D t + 1)) from by simp [hu, show (19 : Nat) ≠ n by omega]) (show _ = aI 144 xs from by rw [← eh1, far 20 (by omega) (by omega) (by omega)]; exact f2) (show _ = aI 144 ys from by rw [← eh1, far 21 (by omega) (by omega) (by omega)]; exact f3) (show _ = aI 144 ws from by rw [← eh1, far 22 (by omega) (by omega) (by omega)]; exact f4) (by omega) hJ glen gper (hu_s _ _ _)) rfl rfl ⟨Nat.le_of_ble_eq_true rfl, Nat.le_of_ble_eq_true rfl⟩ (Nat.le_of_ble_eq_true rfl)  ?_
        rw [← eh1]
        refine a_iload d_Brs_follow_105 rfl ?_
        refine a_aload d_Brs_follow_107 rfl ?_
        refine a_getf d_Brs_follow_109 f_Brs_35 (hu_s _ _ _) rfl ?_
        refine a_iadd d_Brs_follow_112 ?_
        rw [show sP J D t = per J (sR J D t) t from rfl] at r5
        rw [nI_add]
        refine a_istore d_Brs_follow_113 (Nat.le_of_ble_eq_true rfl) (Nat.le_of_ble_eq_true rfl) rfl ?_
        refine a_lload d_Brs_follow_115 rfl ?_
        refine a_aload d_Brs_follow_117 rfl ?_
        refine a_getf d_Brs_follow_119 f_Brs_65 (hu_s _ _ _) rfl ?_
        refine a_lxor d_Brs_follow_122 ?_
        refine a_lstore d_Brs_follow_123 (Nat.le_of_ble_eq_true rfl) (Nat.le_of_ble_eq_true rfl) rfl ?_
        refine a_iinc d_Brs_follow_125 rfl (nI_1 t) (Nat.le_of_ble_eq_true rfl) rfl ?_
        refine a_goto 57 d_Brs_follow_128 (by decide) ?_
        refine a_drop 8 ?_
        exact r5 mc ms Qf n0 z0 q1 q2 K
end
