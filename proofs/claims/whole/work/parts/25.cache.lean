/-! THE CACHE of the class, kept by every call: printed by wip/whole/t25.py -/
abbrev bX (J : Bool) (D : Int64) (t k : Nat) : Int := (wk J (sR J D t) t k).1
abbrev bY (J : Bool) (D : Int64) (t k : Nat) : Int := (wk J (sR J D t) t k).2.1
/-- what the walks of a set of dots are like -/
def Gd (J : Bool) (D : Int64) : Prop := GoodD J D ∧ ∀ t, t < 64 → isB J D t = true → 2 ≤ sP J D t ∧ Sh (bX J D t) (bY J D t) ∧ Un (bX J D t) (bY J D t) (sP J D t)
abbrev zN (J : Bool) (D : Int64) (t : Nat) : Nat := bN (bX J D t) (bY J D t) (sP J D t)
abbrev zO (J : Bool) (D : Int64) (t : Nat) : Nat := bO (bX J D t) (bY J D t) (sP J D t)
abbrev zC (J : Bool) (D : Int64) (t k : Nat) : Nat := bC (bX J D t) (bY J D t) (sP J D t) k
theorem bN_le (X Y : Nat → Int) (P : Nat) : bN X Y P ≤ P := nV_le _ _ _ _
theorem bN_pos {X Y : Nat → Int} {P : Nat} (hP : 0 < P) : 0 < bN X Y P := by
  rcases Nat.eq_zero_or_pos (bN X Y P) with q | q
  · have h0 := nV_0 X Y P (vF X Y P)
    have : nV X Y P (vF X Y P) = 0 := q
    rw [this] at h0
    have h1 : vR X Y P (vF X Y P) 0 = P := rfl
    omega
  · exact q
theorem bC_lt {X Y : Nat → Int} {P : Nat} (hP : P ≤ 144) (k : Nat) : bC X Y P k < 1000 := by
  have := (skL_b X Y P (min P 12)).2
  unfold bC vC vF
  omega
def BS (J : Bool) (D : Int64) (t : Nat) (me ve bo : Int32) (re of co : Nat → Int32) : Prop :=
  (me = 0 ∨ (me = 1 ∧ Me re of (sS J D t) (sP J D t) (bX J D t) (bY J D t))) ∧ (ve = 0 ∨ (ve = nI (zN J D t) ∧ bo = nI (zO J D t) ∧ ∀ k, k < zN J D t → co (sS J D t + k) = nI (zC J D t k)))
def CB (J : Bool) (D : Int64) (h : AH) (xs ys ws re of co : Nat → Int32) : Prop :=
  ∀ t, t < 64 → isB J D t = true → ∃ me ve bo, h (53 + sB J D t) = oBd J D t me ve bo ∧ rowsB J D xs ys ws t ∧ BS J D t me ve bo re of co
def CC (z0 : Nat) (h : AH) (n z : Nat) (wkd : Int32) (D : Int64) (jn : Int32) (S : Nat) (xs ys ws : Nat → Int32) (kn : Nat → Option Nat) (kc : Nat) (re of co : Nat → Int32) : Prop :=
  h 19 = oBrs wkd D jn (nI S) ∧ h 20 = aI 144 xs ∧ h 21 = aI 144 ys ∧ h 22 = aI 144 ws ∧ KN h n kn kc ∧ h 24 = oStr ∧ h 25 = aI 1872 of ∧ h 26 = aI 144 re ∧ h 27 = oPol ∧ (∃ c1 c2 c3 c4 c5 c6, h 28 = oBend c1 c2 c3 c4 c5 c6) ∧ h 29 = aI 144 co ∧ (∃ cs, h 30 = aI 145 cs) ∧ h 31 = oFil ∧ z = z0 + 7 * kc
/-- the cache, whatever it holds -/
def CK (z0 : Nat) (h : AH) (n z : Nat) : Prop := ∃ wkd D jn S xs ys ws kn kc re of co, CC z0 h n z wkd D jn S xs ys ws kn kc re of co ∧ (wkd = 0 ∨ (wkd = 1 ∧ S = sB (decide (jn = 1)) D 64 ∧ S ≤ kc ∧ CB (decide (jn = 1)) D h xs ys ws re of co))
/-- the cache, when the borders of D have been followed -/
def CF (z0 : Nat) (D : Int64) (jn : Int32) (h : AH) (n z : Nat) : Prop := ∃ xs ys ws kn kc re of co, CC z0 h n z 1 D jn (sB (decide (jn = 1)) D 64) xs ys ws kn kc re of co ∧ sB (decide (jn = 1)) D 64 ≤ kc ∧ CB (decide (jn = 1)) D h xs ys ws re of co
theorem CF.ck {z0 : Nat} {D : Int64} {jn : Int32} {h : AH} {n z : Nat} (K : CF z0 D jn h n z) : CK z0 h n z := by
  obtain ⟨xs, ys, ws, kn, kc, re, of, co, C, hk, B⟩ := K
  exact ⟨_, _, _, _, _, _, _, _, _, _, _, _, C, Or.inr ⟨rfl, rfl, hk, B⟩⟩
theorem rowsB_Row {J : Bool} {D : Int64} {xs ys ws : Nat → Int32} {t : Nat} (h : rowsB J D xs ys ws t) : Row xs ys (sS J D t) (sP J D t) (bX J D t) (bY J D t) := fun k hk => ⟨(h k hk).1, (h k hk).2.1⟩
theorem sB_inj {J : Bool} {D : Int64} {t t' : Nat} (h : isB J D t = true) (h' : isB J D t' = true) (e : sB J D t = sB J D t') : t = t' := by
  rcases Nat.lt_trichotomy t t' with q | q | q
  · have := (sc_lt q h).1; omega
  · exact q
  · have := (sc_lt q h').1; omega
theorem sS_far {J : Bool} {D : Int64} {t t' : Nat} (h : isB J D t = true) (h' : isB J D t' = true) (e : t' ≠ t) {k : Nat} (hk : k < sP J D t') : sS J D t' + k < sS J D t ∨ sS J D t + sP J D t ≤ sS J D t' + k := by
  rcases Nat.lt_or_ge t' t with q | q
  · have := (sc_lt q h').2; omega
  · have := (sc_lt (show t < t' by omega) h).2; omega
/-- one border is written, the others stay -/
theorem CB_upd {J : Bool} {D : Int64} {h h' : AH} {xs ys ws re of co re2 of2 co2 : Nat → Int32} (B : CB J D h xs ys ws re of co) {t : Nat} (hb : isB J D t = true)
    (e1 : ∃ me ve bo, h' (53 + sB J D t) = oBd J D t me ve bo ∧ BS J D t me ve bo re2 of2 co2) (far : ∀ i, 53 ≤ i → i ≠ 53 + sB J D t → h' i = h i)
    (r : ∀ p, p < sS J D t ∨ sS J D t + sP J D t ≤ p → re2 p = re p ∧ ∀ s, s < 13 → of2 (p * 13 + s) = of (p * 13 + s)) (c : ∀ p, p < sS J D t ∨ sS J D t + sP J D t ≤ p → co2 p = co p) : CB J D h' xs ys ws re2 of2 co2 := by
  intro t' ht' hb'
  obtain ⟨me, ve, bo, g, R, Q⟩ := B t' ht' hb'
  by_cases e : t' = t
  · subst e
    obtain ⟨me2, ve2, bo2, g2, Q2⟩ := e1
    exact ⟨me2, ve2, bo2, g2, R, Q2⟩
  · refine ⟨me, ve, bo, ?_, R, ?_, ?_⟩
    · rw [far _ (by omega) (fun q => e (sB_inj hb' hb (by omega)))]; exact g
    · rcases Q.1 with q | ⟨q, M⟩
      · exact Or.inl q
      · refine Or.inr ⟨q, fun k hk => ?_⟩
        have := r _ (sS_far hb hb' e hk)
        refine ⟨by rw [this.1]; exact (M k hk).1, fun s h1 h2 => ?_⟩
        rw [this.2 s (by omega)]
        exact (M k hk).2 s h1 h2
    · rcases Q.2 with q | ⟨q1, q2, q3⟩
      · exact Or.inl q
      · refine Or.inr ⟨q1, q2, fun k hk => ?_⟩
        rw [c _ (sS_far hb hb' e (Nat.lt_of_lt_of_le hk (bN_le _ _ _)))]
        exact q3 k hk
theorem KN_far {h h' : AH} {n : Nat} {kn : Nat → Option Nat} {kc : Nat} (K : KN h n kn kc) (e : h' 23 = h 23) (f : ∀ j, j < kc → ∃ a1 a2 a3 a4 a5 a6 a7, h' (53 + j) = oBrd a1 a2 a3 a4 a5 a6 a7) : KN h' n kn kc := by
  obtain ⟨k1, k2, k3, k4, k5⟩ := K
  exact ⟨by rw [e]; exact k1, k2, k3, fun j hj => ⟨(k4 j hj).1, f j hj⟩, k5⟩
/-- only the bend has changed -/
theorem CF.u28 {z0 : Nat} {D : Int64} {jn : Int32} {h h' : AH} {n z : Nat} (K : CF z0 D jn h n z) (far : ∀ i, i ≠ 28 → h' i = h i) (e : ∃ c1 c2 c3 c4 c5 c6, h' 28 = oBend c1 c2 c3 c4 c5 c6) : CF z0 D jn h' n z := by
  obtain ⟨xs, ys, ws, kn, kc, re, of, co, ⟨a1, a2, a3, a4, a5, a6, a7, a8, a9, a10, a11, a12, a13, a14⟩, hk, B⟩ := K
  refine ⟨xs, ys, ws, kn, kc, re, of, co, ⟨?_, ?_, ?_, ?_, KN_far a5 (far _ (by decide)) (fun j hj => ?_), ?_, ?_, ?_, ?_, e, ?_, ?_, ?_, a14⟩, hk, ?_⟩
  any_goals (rw [far _ (by decide)]; assumption)
  · rw [far _ (by omega)]; exact (a5.2.2.2.1 j hj).2
  · intro t ht hb
    rw [far _ (by omega)]
    exact B t ht hb
theorem CK.of {z0 : Nat} {h h' : AH} {n z : Nat} (K : CK z0 h n z) (far : ∀ i, 19 ≤ i → h' i = h i) : CK z0 h' n z := by
  obtain ⟨wkd, D, jn, S, xs, ys, ws, kn, kc, re, of, co, ⟨a1, a2, a3, a4, a5, a6, a7, a8, a9, a10, a11, a12, a13, a14⟩, q⟩ := K
  refine ⟨wkd, D, jn, S, xs, ys, ws, kn, kc, re, of, co, ⟨?_, ?_, ?_, ?_, KN_far a5 (far _ (by decide)) (fun j hj => ?_), ?_, ?_, ?_, ?_, ?_, ?_, ?_, ?_, a14⟩, ?_⟩
  any_goals (rw [far _ (by decide)]; assumption)
  · rw [far _ (by omega)]; exact (a5.2.2.2.1 j hj).2
  · rcases q with q | ⟨q1, q2, q3, B⟩
    · exact Or.inl q
    · refine Or.inr ⟨q1, q2, q3, fun t ht hb => ?_⟩
      rw [far _ (by omega)]
      exact B t ht hb
section
variable {V : VV} {h : AH} {n z : Nat}
theorem s_follow {z0 : Nat} {D : Int64} {jn : Int32} (G : Gd (decide (jn = 1)) D) (K : CK z0 h n z) : ∃ h' n' z', n ≤ n' ∧ z ≤ z' ∧ AMet V i_Brs_follow 3 [.ref 19, .long D, .int jn] h n z none h' n' z' ∧ CF z0 D jn h' n' z' ∧ ∀ i, i < 53 → i ≠ 19 → i ≠ 20 → i ≠ 21 → i ≠ 22 → i ≠ 23 → h' i = h i := by
  obtain ⟨wkd, D0, jn0, S, xs, ys, ws, kn, kc, re, of, co, C, q⟩ := K
  have C' := C
  obtain ⟨a1, a2, a3, a4, a5, a6, a7, a8, a9, a10, a11, a12, a13, a14⟩ := C
  by_cases hm : ¬ wkd = 0 ∧ D0 = D ∧ jn0 = jn
  · obtain ⟨m1, m2, m3⟩ := hm
    rcases q with q | ⟨q1, q2, q3, B⟩
    · exact absurd q m1
    · subst m2; subst m3; subst q1; subst q2
      exact ⟨h, n, z, Nat.le_refl _, Nat.le_refl _, s_Brs_followHit a1, ⟨xs, ys, ws, kn, kc, re, of, co, C', q3, B⟩, fun i _ _ _ _ _ _ => rfl⟩
  · obtain ⟨h', n', z', F, e1, e2, e3, M⟩ := s_Brs_followMiss (V := V) (h := h) (n := n) (z := z) rfl G.1 a1 hm a2 a3 a4 a5
    obtain ⟨xs2, ys2, ws2, kn2, kc2, f1, f2, f3, f4, f5, f6, f7, f8⟩ := F
    refine ⟨h', n', z', e1, e2, M, ⟨xs2, ys2, ws2, kn2, kc2, re, of, co, ⟨f1, f2, f3, f4, f5, ?_, ?_, ?_, ?_, ?_, ?_, ?_, ?_, ?_⟩, f6, ?_⟩, fun i h1 h2 h3 h4 h5 h6 => f8 i h1 h2 h3 h4 h5 h6⟩
    any_goals (rw [f8 _ (by decide) (by decide) (by decide) (by decide) (by decide) (by decide)]; assumption)
    · have := a5.2.1; have := f5.2.1; omega
    · intro t ht hb
      obtain ⟨g1, g2⟩ := f7 t ht hb
      exact ⟨_, _, _, g1, g2, Or.inl rfl, Or.inl rfl⟩
theorem s_seek {z0 : Nat} {D : Int64} {jn : Int32} (G : Gd (decide (jn = 1)) D) {t : Nat} (ht : t < 64) (hb : isB (decide (jn = 1)) D t = true) (K : CF z0 D jn h n z) : ∃ h', AMet V i_Pol_seek 4 [.ref 27, .ref (53 + sB (decide (jn = 1)) D t)] h n z none h' n z ∧ CF z0 D jn h' n z ∧ (∃ me, h' (53 + sB (decide (jn = 1)) D t) = oBd (decide (jn = 1)) D t me (nI (zN (decide (jn = 1)) D t)) (nI (zO (decide (jn = 1)) D t))) ∧ ∀ i, i < 53 → i ≠ 25 → i ≠ 26 → i ≠ 29 → i ≠ 30 → h' i = h i := by
  have K0 := K
  obtain ⟨xs, ys, ws, kn, kc, re, of, co, ⟨a1, a2, a3, a4, a5, a6, a7, a8, a9, a10, a11, a12, a13, a14⟩, hk, B⟩ := K
  generalize hJ : decide (jn = 1) = J at *
  obtain ⟨me, ve, bo, g, R, Q⟩ := B t ht hb
  obtain ⟨hP, S, U⟩ := G.2 t ht hb
  have hs := (G.1 t ht hb).2
  have hN := bN_pos (X := bX J D t) (Y := bY J D t) (show 0 < sP J D t by omega)
  have hN2 := bN_le (bX J D t) (bY J D t) (sP J D t)
  obtain ⟨cs, g30⟩ := a12
  by_cases hv : ve = 0
  · subst hv
    obtain ⟨h2, M, e1, ⟨re2, of2, e25, e26, Me2, r⟩, ⟨co2, e29, c1, c2⟩, e30, far⟩ := s_Pol_seek (V := V) (n := n) (z := z) (show 53 ≤ 53 + sB J D t by omega) a1 a2 a3 a6 a7 a8 a9 a11 g30 g hP hs S U (rowsB_Row R) Q.1
    refine ⟨h2, M, ⟨xs, ys, ws, kn, kc, re2, of2, co2, ⟨?_, ?_, ?_, ?_, KN_far a5 (far _ (by omega) (by decide) (by decide) (by decide) (by decide)) (fun j hj => ?_), ?_, e25, e26, ?_, ?_, e29, e30, ?_, a14⟩, ?_, ?_⟩, ⟨_, e1⟩, fun i q1 q2 q3 q4 q5 => far i (by omega) q2 q3 q4 q5⟩
    any_goals (rw [hJ])
    any_goals (rw [far _ (by omega) (by decide) (by decide) (by decide) (by decide)]; assumption)
    · by_cases e : j = sB J D t
      · subst e; exact ⟨_, _, _, _, _, _, _, e1⟩
      · rw [far _ (by omega) (by omega) (by omega) (by omega) (by omega)]; exact (a5.2.2.2.1 j hj).2
    · exact hk
    · exact CB_upd B hb ⟨_, _, _, e1, Or.inr ⟨rfl, Me2⟩, Or.inr ⟨rfl, rfl, c1⟩⟩ (fun i q1 q2 => far i q2 (by omega) (by omega) (by omega) (by omega)) r c2
  · rcases Q.2 with q | ⟨q1, q2, q3⟩
    · exact absurd q hv
    · subst q1; subst q2
      exact ⟨h, s_Pol_seek0 g hN (Nat.lt_of_le_of_lt hN2 (by omega)), K0, ⟨_, g⟩, fun i _ _ _ _ _ => rfl⟩
theorem s_fewest {z0 : Nat} {D : Int64} {jn : Int32} (G : Gd (decide (jn = 1)) D) {t : Nat} (ht : t < 64) (hb : isB (decide (jn = 1)) D t = true) (K : CF z0 D jn h n z) {i : Nat} (hi : i < 1000) : ∃ h', AMet V i_Pol_fewestThrough 4 [.ref 27, .ref (53 + sB (decide (jn = 1)) D t), .int (nI i)] h n z (some (.int (nI (cK (bX (decide (jn = 1)) D t) (bY (decide (jn = 1)) D t) (sP (decide (jn = 1)) D t) i (sP (decide (jn = 1)) D t) / 100000)))) h' n z ∧ CF z0 D jn h' n z ∧ ∀ i, i < 53 → i ≠ 25 → i ≠ 26 → i ≠ 29 → i ≠ 30 → h' i = h i := by
  obtain ⟨xs, ys, ws, kn, kc, re, of, co, ⟨a1, a2, a3, a4, a5, a6, a7, a8, a9, a10, a11, a12, a13, a14⟩, hk, B⟩ := K
  generalize hJ : decide (jn = 1) = J at *
  obtain ⟨me, ve, bo, g, R, Q⟩ := B t ht hb
  obtain ⟨hP, S, U⟩ := G.2 t ht hb
  have hs := (G.1 t ht hb).2
  obtain ⟨cs, g30⟩ := a12
  obtain ⟨h2, M, e1, ⟨re2, of2, e25, e26, Me2, r⟩, e30, far⟩ := s_Pol_fewestThrough (V := V) (n := n) (z := z) (show 53 ≤ 53 + sB J D t by omega) a1 a2 a3 a6 a7 a8 a9 g30 g hP hs S U (rowsB_Row R) Q.1 hi
  refine ⟨h2, M, ⟨xs, ys, ws, kn, kc, re2, of2, co, ⟨?_, ?_, ?_, ?_, KN_far a5 (far _ (by omega) (by decide) (by decide) (by decide)) (fun j hj => ?_), ?_, e25, e26, ?_, ?_, ?_, e30, ?_, a14⟩, ?_, ?_⟩, fun i q1 q2 q3 q4 q5 => far i (by omega) q2 q3 q5⟩
  any_goals (rw [hJ])
  any_goals (rw [far _ (by omega) (by decide) (by decide) (by decide)]; assumption)
  · by_cases e : j = sB J D t
    · subst e; exact ⟨_, _, _, _, _, _, _, e1⟩
    · rw [far _ (by omega) (by omega) (by omega) (by omega)]; exact (a5.2.2.2.1 j hj).2
  · exact hk
  · exact CB_upd B hb ⟨_, _, _, e1, Or.inr ⟨rfl, Me2⟩, Q.2⟩ (fun i q1 q2 => far i q2 (by omega) (by omega) (by omega)) r (fun _ _ => rfl)
/-- the dot at which border j begins -/
def tOf (J : Bool) (D : Int64) (j : Nat) : Nat := fst1 (fun t => isB J D t && decide (sB J D t = j)) 64
theorem sB_ex {J : Bool} {D : Int64} {j : Nat} : ∀ T, j < sB J D T → ∃ t, t < T ∧ isB J D t = true ∧ sB J D t = j
  | 0, h => absurd h (Nat.not_lt_zero _)
  | T + 1, h => by
    by_cases q : j < sB J D T
    · obtain ⟨t, h1, h2⟩ := sB_ex T q
      exact ⟨t, by omega, h2⟩
    · cases e : isB J D T
      · rw [(sc_n e).2.1] at h; exact absurd h q
      · rw [(sc_y e).2.1] at h; exact ⟨T, by omega, e, by omega⟩
theorem tOf_ok {J : Bool} {D : Int64} {j : Nat} (hj : j < sB J D 64) : tOf J D j < 64 ∧ isB J D (tOf J D j) = true ∧ sB J D (tOf J D j) = j := by
  obtain ⟨t, h1, h2, h3⟩ := sB_ex 64 hj
  have hl : tOf J D j ≤ t := fst1_ex _ h1 (by simp [h2, h3])
  have hy := fst1_yes (fun t => isB J D t && decide (sB J D t = j)) 64 (show tOf J D j < 64 by omega)
  have hy' : (isB J D (tOf J D j) && decide (sB J D (tOf J D j) = j)) = true := hy
  rw [Bool.and_eq_true] at hy'
  exact ⟨by omega, hy'.1, of_decide_eq_true hy'.2⟩
end
