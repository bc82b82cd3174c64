/-! BOTH BESIDE EACH OTHER: printed by wip/whole/t85.py -/
theorem CK.of2 {z0 : Nat} {h h' : AH} {n z : Nat} (K : CK z0 h n z) (far : ∀ i, (19 ≤ i ∧ i < 32) ∨ 53 ≤ i → h' i = h i) : CK z0 h' n z := by
  obtain ⟨wkd, D, jn, S, xs, ys, ws, kn, kc, re, of, co, ⟨a1, a2, a3, a4, a5, a6, a7, a8, a9, a10, a11, a12, a13, a14⟩, q⟩ := K
  refine ⟨wkd, D, jn, S, xs, ys, ws, kn, kc, re, of, co, ⟨?_, ?_, ?_, ?_, KN_far a5 (far _ (by decide)) (fun j hj => ?_), ?_, ?_, ?_, ?_, ?_, ?_, ?_, ?_, a14⟩, ?_⟩
  any_goals (rw [far _ (by decide)]; assumption)
  · rw [far _ (by omega)]; exact (a5.2.2.2.1 j hj).2
  · rcases q with q | ⟨q1, q2, q3, B⟩
    · exact Or.inl q
    · refine Or.inr ⟨q1, q2, q3, fun t ht hb => ?_⟩
      rw [far _ (by omega)]
      exact B t ht hb
theorem CK.b {z0 : Nat} {h : AH} {n z : Nat} (K : CK z0 h n z) : 53 ≤ n ∧ n ≤ 117 ∧ z0 ≤ z ∧ z ≤ z0 + 448 := by
  obtain ⟨wkd, D, jn, S, xs, ys, ws, kn, kc, re, of, co, ⟨a1, a2, a3, a4, a5, a6, a7, a8, a9, a10, a11, a12, a13, a14⟩, q⟩ := K
  obtain ⟨k1, k2, k3, k4, k5⟩ := a5
  omega
theorem MB.of {W H : Nat} {D : Int64} {j s : Int32} {h h' : AH} (B : MB W H D j s h) (far : ∀ i, 32 ≤ i → i < 53 → h' i = h i) : MB W H D j s h' := by
  obtain ⟨st, of, le, vx, tu, lx, ly, g33, es, g47, g48, g49, g50, g51, g52⟩ := B
  refine ⟨st, of, le, vx, tu, lx, ly, ?_, es, ?_, ?_, ?_, ?_, ?_, ?_⟩ <;> (rw [far _ (by decide) (by decide)]; assumption)
theorem MLh.of {J : Bool} {D : Int64} {t : Nat} {h h' : AH} (M : MLh J D t h) (far : ∀ i, 39 ≤ i → i < 47 → h' i = h i) : MLh J D t h' := by
  obtain ⟨fr, sz, fx, fy, wn, cx, cy, go, g39, g40, g41, g42, g43, g44, g45, g46, ml⟩ := M
  refine ⟨fr, sz, fx, fy, wn, cx, cy, go, ?_, ?_, ?_, ?_, ?_, ?_, ?_, ?_, ml⟩ <;> (rw [far _ (by decide) (by decide)]; assumption)
theorem MLh.z {J J' : Bool} {D D' : Int64} {t : Nat} {h : AH} (M : MLh J D t h) : MLh J' D' 0 h := by
  obtain ⟨fr, sz, fx, fy, wn, cx, cy, go, g39, g40, g41, g42, g43, g44, g45, g46, ml⟩ := M
  exact ⟨fr, sz, fx, fy, wn, cx, cy, go, g39, g40, g41, g42, g43, g44, g45, g46, fun t' ht' => absurd ht' (Nat.not_lt_zero _)⟩
theorem MQs.of {W H : Nat} {D : Int64} {j s ac by_ la ra : Int32} {h h' : AH} (Q : MQs W H D j s ac by_ la ra h) (far : ∀ i, 32 ≤ i → i < 53 → h' i = h i) : MQs W H D j s ac by_ la ra h' := by
  rcases Q with ⟨mn, rs, tb, ve, oa, lm, g32, B, M⟩ | ⟨tb, ve, oa, lm, g32, B, M, T⟩
  · exact Or.inl ⟨mn, rs, tb, ve, oa, lm, by rw [far 32 (by decide) (by decide)]; exact g32, B.of far, M.of (fun i h1 h2 => far i (by omega) (by omega))⟩
  · refine Or.inr ⟨tb, ve, oa, lm, by rw [far 32 (by decide) (by decide)]; exact g32, B.of far, M.of (fun i h1 h2 => far i (by omega) (by omega)), ?_⟩
    rcases T with q | ⟨t, ht, hb, e1, e2, e3, of, vx, e4, e5, e6⟩
    · exact Or.inl q
    · exact Or.inr ⟨t, ht, hb, e1, e2, e3, of, vx, by rw [far 47 (by decide) (by decide)]; exact e4, by rw [far 49 (by decide) (by decide)]; exact e5, e6⟩
/-- when an act is done, the model's borders are no longer laid -/
theorem MQs.shape {W H : Nat} {D : Int64} {j s ac by_ la ra : Int32} {h : AH} (Q : MQs W H D j s ac by_ la ra h) : MB W H D j s h ∧ MLh (decide (j = 1)) D 0 h := by
  rcases Q with ⟨mn, rs, tb, ve, oa, lm, g32, B, M⟩ | ⟨tb, ve, oa, lm, g32, B, M, T⟩
  · exact ⟨B, M⟩
  · exact ⟨B, M.z⟩
/-- an image as both hold it -/
def IMq (q : Nat) (im ii : Nat → Int32) (p : Pc) : Prop := (p.1 = 0 ∧ ii q = 0) ∨ (1 ≤ p.1 ∧ ii q = 1 ∧ PcOk p.1 p.2.1 p.2.2.1 p.2.2.2.1 ∧ ∀ t, t < 68 → im (68 * q + t) = stF p t)
/-- what the model holds beside its picture -/
def MR (L : Nat) (f : Nat → Int32) (W H k : Nat) (ad : Nat → Int64) (aj ash : Nat → Int32) (i0 i1 : Pc) (h : AH) : Prop := ∃ pa im ii rd, h 34 = aI 544 pa ∧ (∀ a, a < k → PcOk W H (ad a) (aj a) ∧ ∀ t, t < 68 → pa (68 * a + t) = stF (W, H, ad a, aj a, ash a) t) ∧ h 35 = aI 136 im ∧ h 36 = aI 2 ii ∧ IMq 0 im ii i0 ∧ IMq 1 im ii i1 ∧ h 37 = aI 90 f ∧ h 38 = aI 68 rd
theorem MR.of {L : Nat} {f : Nat → Int32} {W H k : Nat} {ad : Nat → Int64} {aj ash : Nat → Int32} {i0 i1 : Pc} {h h' : AH} (R : MR L f W H k ad aj ash i0 i1 h) (far : ∀ i, 34 ≤ i → i < 39 → h' i = h i) : MR L f W H k ad aj ash i0 i1 h' := by
  obtain ⟨pa, im, ii, rd, g34, e1, g35, g36, e2, e3, g37, g38⟩ := R
  refine ⟨pa, im, ii, rd, ?_, e1, ?_, ?_, e2, e3, ?_, ?_⟩ <;> (rw [far _ (by decide) (by decide)]; assumption)
/-- CLASS AND MODEL SIDE BY SIDE -/
def INV (z0 : Nat) (h : AH) (n z : Nat) : Prop := ∃ L f lf W H D j s k ad aj ash i0 i1 ra, CA L f lf (W, H, D, j, s) k ad aj ash i0 i1 h ∧ CK z0 h n z ∧ MQs W H D j s (nI k) (nI L) lf ra h ∧ PcOk W H D j ∧ L ≤ 90 ∧ k ≤ 8 ∧ MR L f W H k ad aj ash i0 i1 h
/-- a call answers alike, and leaves both side by side -/
def Op (V : VV) (IC IM : MI) (dC dM : Nat) (args : List Value) (z0 : Nat) (h : AH) (n z : Nat) : Prop := ∃ r h1 n1 z1 h2, n ≤ n1 ∧ z ≤ z1 ∧ AMet V IC dC (.ref 8 :: args) h n z (some (.int r)) h1 n1 z1 ∧ AMet V IM dM (.ref 32 :: args) h1 n1 z1 (some (.int r)) h2 n1 z1 ∧ INV z0 h2 n1 z1 ∧ ∃ c, h1 32 = .inr (11, c)
theorem INV.cls {z0 : Nat} {h : AH} {n z : Nat} (I : INV z0 h n z) : (∃ c, h 8 = .inr (10, c)) ∧ ∃ c, h 32 = .inr (11, c) := by
  obtain ⟨L, f, lf, W, H, D, j, s, k, ad, aj, ash, i0, i1, ra, A, K, Q, p, hL, hk, R⟩ := I
  exact ⟨⟨_, A.1⟩, Q.cls⟩
section
variable {V : VV} {h : AH} {n z z0 : Nat}
/-- a query -/
theorem Op.query {IC IM : MI} {dC dM : Nat} {args : List Value} {r : Int32} {L : Nat} {f : Nat → Int32} {lf : Int32} {W H : Nat} {D : Int64} {j s : Int32} {k : Nat} {ad : Nat → Int64} {aj ash : Nat → Int32} {i0 i1 : Pc} {ra : Int32} (A : CA L f lf (W, H, D, j, s) k ad aj ash i0 i1 h) (p : PcOk W H D j) (hL : L ≤ 90) (hk : k ≤ 8) (R : MR L f W H k ad aj ash i0 i1 h) (Q : MQs W H D j s (nI k) (nI L) lf ra h)
    (X : ∃ h1 n1 z1, n ≤ n1 ∧ z ≤ z1 ∧ CK z0 h1 n1 z1 ∧ (∀ i, i < 53 → i < 19 ∨ 31 < i → h1 i = h i) ∧ AMet V IC dC (.ref 8 :: args) h n z (some (.int r)) h1 n1 z1)
    (Y : ∀ (h1 : AH) (n1 z1 : Nat), MQs W H D j s (nI k) (nI L) lf ra h1 → ∃ h2, MQs W H D j s (nI k) (nI L) lf ra h2 ∧ FQ h2 h1 ∧ AMet V IM dM (.ref 32 :: args) h1 n1 z1 (some (.int r)) h2 n1 z1) : Op V IC IM dC dM args z0 h n z := by
  obtain ⟨h1, n1, z1, q1, q2, K1, far, M1⟩ := X
  obtain ⟨h2, Q2, F2, M2⟩ := Y h1 n1 z1 (Q.of (fun i a b => far i b (by omega)))
  refine ⟨r, h1, n1, z1, h2, q1, q2, M1, M2, ⟨L, f, lf, W, H, D, j, s, k, ad, aj, ash, i0, i1, ra, A.of (fun i a b => ?_), K1.of2 (fun i a => F2 i (by omega)), Q2, p, hL, hk, R.of (fun i a b => ?_)⟩, by rw [far 32 (by decide) (by decide)]; exact Q.cls⟩
  · rw [F2 i (by omega), far i (by omega) (by omega)]
  · rw [F2 i (by omega), far i (by omega) (by omega)]

theorem o_border (I : INV z0 h n z) (v0 v1 : Int32) : Op V i_Dot_border i_Mod_border 5 8 [.int v0, .int v1] z0 h n z := by
  obtain ⟨L, f, lf, W, H, D, j, s, k, ad, aj, ash, i0, i1, ra, A, K, Q, p, hL, hk, R⟩ := I
  exact Op.query A p hL hk R Q (s_Dot_border A.1 A.2.2.2.2.1 p.1 (Gd_all _ _) K p.2.1 v0 v1) (fun h1 n1 z1 Q1 => m_border p Q1 v0 v1)
theorem o_corner (I : INV z0 h n z) (v0 v1 v2 : Int32) : Op V i_Dot_corner i_Mod_corner 5 8 [.int v0, .int v1, .int v2] z0 h n z := by
  obtain ⟨L, f, lf, W, H, D, j, s, k, ad, aj, ash, i0, i1, ra, A, K, Q, p, hL, hk, R⟩ := I
  exact Op.query A p hL hk R Q (s_Dot_corner A.1 A.2.2.2.2.1 p.1 (Gd_all _ _) K p.2.1 v0 v1 v2) (fun h1 n1 z1 Q1 => m_corner p Q1 v0 v1 v2)
theorem o_inside (I : INV z0 h n z) (v0 v1 v2 : Int32) : Op V i_Dot_inside i_Mod_inside 5 8 [.int v0, .int v1, .int v2] z0 h n z := by
  obtain ⟨L, f, lf, W, H, D, j, s, k, ad, aj, ash, i0, i1, ra, A, K, Q, p, hL, hk, R⟩ := I
  exact Op.query A p hL hk R Q (s_Dot_inside A.1 A.2.2.2.2.1 p.1 (Gd_all _ _) K p.2.1 v0 v1 v2) (fun h1 n1 z1 Q1 => m_inside p Q1 v0 v1 v2)
theorem o_straight (I : INV z0 h n z) (v0 v1 v2 : Int32) : Op V i_Dot_straight i_Mod_straight 5 9 [.int v0, .int v1, .int v2] z0 h n z := by
  obtain ⟨L, f, lf, W, H, D, j, s, k, ad, aj, ash, i0, i1, ra, A, K, Q, p, hL, hk, R⟩ := I
  exact Op.query A p hL hk R Q (s_Dot_straight A.1 A.2.2.2.2.1 p.1 (Gd_all _ _) K p.2.1 v0 v1 v2) (fun h1 n1 z1 Q1 => m_straight p Q1 v0 v1 v2)
theorem o_off (I : INV z0 h n z) (v0 v1 v2 : Int32) : Op V i_Dot_off i_Mod_off 5 9 [.int v0, .int v1, .int v2] z0 h n z := by
  obtain ⟨L, f, lf, W, H, D, j, s, k, ad, aj, ash, i0, i1, ra, A, K, Q, p, hL, hk, R⟩ := I
  exact Op.query A p hL hk R Q (s_Dot_off A.1 A.2.2.2.2.1 p.1 (Gd_all _ _) K p.2.1 v0 v1 v2) (fun h1 n1 z1 Q1 => m_off p Q1 v0 v1 v2)
theorem o_longest (I : INV z0 h n z) (v0 v1 : Int32) : Op V i_Dot_longest i_Mod_longest 5 9 [.int v0, .int v1] z0 h n z := by
  obtain ⟨L, f, lf, W, H, D, j, s, k, ad, aj, ash, i0, i1, ra, A, K, Q, p, hL, hk, R⟩ := I
  exact Op.query A p hL hk R Q (s_Dot_longest A.1 A.2.2.2.2.1 p.1 (Gd_all _ _) K p.2.1 v0 v1) (fun h1 n1 z1 Q1 => m_longest p Q1 v0 v1)
theorem o_best (I : INV z0 h n z) (v0 v1 : Int32) : Op V i_Dot_best i_Mod_best 6 8 [.int v0, .int v1] z0 h n z := by
  obtain ⟨L, f, lf, W, H, D, j, s, k, ad, aj, ash, i0, i1, ra, A, K, Q, p, hL, hk, R⟩ := I
  exact Op.query A p hL hk R Q (s_Dot_best A.1 A.2.2.2.2.1 p.1 (Gd_all _ _) K p.2.1 v0 v1) (fun h1 n1 z1 Q1 => m_best p Q1 v0 v1)
theorem o_vertex (I : INV z0 h n z) (v0 v1 v2 : Int32) : Op V i_Dot_vertex i_Mod_vertex 6 8 [.int v0, .int v1, .int v2] z0 h n z := by
  obtain ⟨L, f, lf, W, H, D, j, s, k, ad, aj, ash, i0, i1, ra, A, K, Q, p, hL, hk, R⟩ := I
  exact Op.query A p hL hk R Q (s_Dot_vertex A.1 A.2.2.2.2.1 p.1 (Gd_all _ _) K p.2.1 v0 v1 v2) (fun h1 n1 z1 Q1 => m_vertex p Q1 v0 v1 v2)
theorem o_past (I : INV z0 h n z) (v0 v1 : Int32) : Op V i_Dot_past i_Mod_past 5 8 [.int v0, .int v1] z0 h n z := by
  obtain ⟨L, f, lf, W, H, D, j, s, k, ad, aj, ash, i0, i1, ra, A, K, Q, p, hL, hk, R⟩ := I
  exact Op.query A p hL hk R Q (s_Dot_past A.1 A.2.2.2.2.1 p.1 (Gd_all _ _) K p.2.1 v0 v1) (fun h1 n1 z1 Q1 => m_past p Q1 v0 v1)
theorem o_point (I : INV z0 h n z) (v0 v1 v2 v3 : Int32) : Op V i_Dot_point i_Mod_point 6 8 [.int v0, .int v1, .int v2, .int v3] z0 h n z := by
  obtain ⟨L, f, lf, W, H, D, j, s, k, ad, aj, ash, i0, i1, ra, A, K, Q, p, hL, hk, R⟩ := I
  exact Op.query A p hL hk R Q (s_Dot_point A.1 A.2.2.2.2.1 p.1 (Gd_all _ _) K p.2.1 v0 v1 v2 v3) (fun h1 n1 z1 Q1 => m_point p Q1 v0 v1 v2 v3)
theorem o_filled (I : INV z0 h n z) (v0 v1 v2 v3 : Int32) : Op V i_Dot_filled i_Mod_filled 6 8 [.int v0, .int v1, .int v2, .int v3] z0 h n z := by
  obtain ⟨L, f, lf, W, H, D, j, s, k, ad, aj, ash, i0, i1, ra, A, K, Q, p, hL, hk, R⟩ := I
  exact Op.query A p hL hk R Q (s_Dot_filled A.1 A.2.2.2.2.1 p.1 (Gd_all _ _) K p.2.1 v0 v1 v2 v3) (fun h1 n1 z1 Q1 => m_filled p Q1 v0 v1 v2 v3)
theorem o_differ (I : INV z0 h n z) (v0 v1 : Int32) : Op V i_Dot_differ i_Mod_differ 6 8 [.int v0, .int v1] z0 h n z := by
  obtain ⟨L, f, lf, W, H, D, j, s, k, ad, aj, ash, i0, i1, ra, A, K, Q, p, hL, hk, R⟩ := I
  exact Op.query A p hL hk R Q (s_Dot_differ A.1 A.2.2.2.2.1 p.1 (Gd_all _ _) K p.2.1 v0 v1) (fun h1 n1 z1 Q1 => m_differ p Q1 v0 v1)
theorem o_wrong (I : INV z0 h n z) (v0 : Int32) : Op V i_Dot_wrong i_Mod_wrong 6 7 [.int v0] z0 h n z := by
  obtain ⟨L, f, lf, W, H, D, j, s, k, ad, aj, ash, i0, i1, ra, A, K, Q, p, hL, hk, R⟩ := I
  exact Op.query A p hL hk R Q (s_Dot_wrong A.1 A.2.2.2.2.1 p.1 (Gd_all _ _) K p.2.1 v0) (fun h1 n1 z1 Q1 => m_wrong p Q1 v0)
theorem o_all (I : INV z0 h n z) (v0 : Int32) : Op V i_Dot_all i_Mod_all 6 7 [.int v0] z0 h n z := by
  obtain ⟨L, f, lf, W, H, D, j, s, k, ad, aj, ash, i0, i1, ra, A, K, Q, p, hL, hk, R⟩ := I
  exact Op.query A p hL hk R Q (s_Dot_all A.1 A.2.2.2.2.1 p.1 (Gd_all _ _) K p.2.1 v0) (fun h1 n1 z1 Q1 => m_all p Q1 v0)
theorem o_borders (I : INV z0 h n z) : Op V i_Dot_borders i_Mod_borders 6 7 [] z0 h n z := by
  obtain ⟨L, f, lf, W, H, D, j, s, k, ad, aj, ash, i0, i1, ra, A, K, Q, p, hL, hk, R⟩ := I
  exact Op.query A p hL hk R Q (s_Dot_borders (s := s) A.1 A.2.2.2.2.1 p.1 (Gd_all _ _) K p.2.1) (fun h1 n1 z1 Q1 => m_borders p Q1)
end
