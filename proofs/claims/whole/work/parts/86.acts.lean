/-! ACTS OF BOTH: printed by wip/whole/t86.py -/
theorem fRg_hi (x hi : Int32) : fRg x 0 hi = 0 ↔ ¬ (¬ x < 0 ∧ x ≤ hi) := by
  unfold fRg
  by_cases a : x < 0
  · rw [if_pos a]; simp [a]
  · rw [if_neg a]
    by_cases b : hi < x
    · rw [if_pos b]; simp; intro _; exact b
    · rw [if_neg b]; simp; exact ⟨Int32.not_lt.mp a, Int32.not_lt.mp b⟩
theorem MQs.act {W H : Nat} {D : Int64} {j s ac by_ la ra : Int32} {h h2 : AH} (Q : MQs W H D j s ac by_ la ra h) {W' H' : Nat} {D' : Int64} {j' s' ac' by' la' ra' mn : Int32} {rs : Int64} {tb ve oa lm : Int32} {st' : Nat → Int32} (g32 : h2 32 = oMod ac' by' la' ra' 0 mn rs tb ve oa lm) (g33 : h2 33 = aI 68 st') (e : ∀ i, i < 68 → st' i = stF (W', H', D', j', s') i) (far : ∀ i, 39 ≤ i → i < 53 → h2 i = h i) : MQs W' H' D' j' s' ac' by' la' ra' h2 := by
  obtain ⟨⟨st, of, le, vx, tu, lx, ly, k33, es, k47, k48, k49, k50, k51, k52⟩, M⟩ := Q.shape
  refine Or.inl ⟨mn, rs, tb, ve, oa, lm, g32, ⟨st', of, le, vx, tu, lx, ly, g33, e, ?_, ?_, ?_, ?_, ?_, ?_⟩, (M.of (fun i a b => far i a (by omega))).z⟩
  all_goals (rw [far _ (by decide) (by decide)]; assumption)
/-- the same when the borders stay as they are -/
theorem MQs.hd {W H : Nat} {D : Int64} {j s ac by_ la ra : Int32} {h h2 : AH} (Q : MQs W H D j s ac by_ la ra h) {ac' by' la' ra' : Int32} (e : ∀ il mn rs tb ve oa lm, h 32 = oMod ac by_ la ra il mn rs tb ve oa lm → h2 32 = oMod ac' by' la' ra' il mn rs tb ve oa lm) (far : ∀ i, 33 ≤ i → i < 53 → (i = 33 ∨ 39 ≤ i) → h2 i = h i) : MQs W H D j s ac' by' la' ra' h2 := by
  rcases Q with ⟨mn, rs, tb, ve, oa, lm, g32, B, M⟩ | ⟨tb, ve, oa, lm, g32, B, M, T⟩
  · refine Or.inl ⟨mn, rs, tb, ve, oa, lm, e _ _ _ _ _ _ _ g32, ?_, M.of (fun i h1 h2 => far i (by omega) (by omega) (by omega))⟩
    obtain ⟨st, of, le, vx, tu, lx, ly, k33, es, k47, k48, k49, k50, k51, k52⟩ := B
    refine ⟨st, of, le, vx, tu, lx, ly, ?_, es, ?_, ?_, ?_, ?_, ?_, ?_⟩
    all_goals (rw [far _ (by decide) (by decide) (by decide)]; assumption)
  · refine Or.inr ⟨tb, ve, oa, lm, e _ _ _ _ _ _ _ g32, ?_, M.of (fun i h1 h2 => far i (by omega) (by omega) (by omega)), ?_⟩
    · obtain ⟨st, of, le, vx, tu, lx, ly, k33, es, k47, k48, k49, k50, k51, k52⟩ := B
      refine ⟨st, of, le, vx, tu, lx, ly, ?_, es, ?_, ?_, ?_, ?_, ?_, ?_⟩
      all_goals (rw [far _ (by decide) (by decide) (by decide)]; assumption)
    · rcases T with q | ⟨t, ht, hb, e1, e2, e3, of, vx, e4, e5, e6⟩
      · exact Or.inl q
      · exact Or.inr ⟨t, ht, hb, e1, e2, e3, of, vx, by rw [far 47 (by decide) (by decide) (by decide)]; exact e4, by rw [far 49 (by decide) (by decide) (by decide)]; exact e5, e6⟩
/-- one more act is remembered -/
theorem rm_ok {W H k : Nat} {ad : Nat → Int64} {aj ash : Nat → Int32} {pa st : Nat → Int32} {D : Int64} {j s : Int32} (hk : k ≤ 8) (p : PcOk W H D j) (es : ∀ i, i < 68 → st i = stF (W, H, D, j, s) i) (e1 : ∀ a, a < k → PcOk W H (ad a) (aj a) ∧ ∀ t, t < 68 → pa (68 * a + t) = stF (W, H, ad a, aj a, ash a) t) : ∀ a, a < rmK k → PcOk W H (rmL ad k D a) (rmI aj k j a) ∧ ∀ t, t < 68 → rmP pa k st (68 * a + t) = stF (W, H, rmL ad k D a, rmI aj k j a, rmI ash k s a) t := by
  intro a ha
  unfold rmK at ha
  unfold rmL rmI rmP
  by_cases c : k < 8
  · rw [if_pos c] at ha
    rw [if_pos c, if_pos c, if_pos c, if_pos c]
    by_cases e : a = k
    · subst e
      rw [pk_uLs, pk_us, pk_us]
      refine ⟨p, fun t ht => ?_⟩
      rw [pt_in ht, Nat.zero_add]
      exact es t ht
    · rw [pk_uLn e, pk_un e, pk_un e]
      obtain ⟨x1, x2⟩ := e1 a (by omega)
      refine ⟨x1, fun t ht => ?_⟩
      rw [pt_out (by omega)]
      exact x2 t ht
  · rw [if_neg c] at ha
    rw [if_neg c, if_neg c, if_neg c, if_neg c]
    by_cases e : a = 7
    · subst e
      rw [pk_uLs, pk_us, pk_us]
      refine ⟨p, fun t ht => ?_⟩
      rw [show 68 * 7 + t = 476 + t by omega, pt_in ht, Nat.zero_add]
      exact es t ht
    · rw [pk_uLn e, pk_un e, pk_un e]
      have sh1 : shL ad 8 a = ad (a + 1) := by unfold shL; rw [if_pos (by omega)]
      have sh2 : shL aj 8 a = aj (a + 1) := by unfold shL; rw [if_pos (by omega)]
      have sh3 : shL ash 8 a = ash (a + 1) := by unfold shL; rw [if_pos (by omega)]
      rw [sh1, sh2, sh3]
      obtain ⟨x1, x2⟩ := e1 (a + 1) (by omega)
      refine ⟨x1, fun t ht => ?_⟩
      rw [pt_out (by omega)]
      have := pt_in (f := pa) (s := 0) (m := 476) (g := fun t => pa (68 + t)) (k := 68 * a + t) (by omega)
      rw [Nat.zero_add] at this
      rw [this, show 68 + (68 * a + t) = 68 * (a + 1) + t by omega]
      exact x2 t ht
theorem inD_lb (E : Int64) {X Y : Nat} (hX : X < 8) (hY : Y < 8) : inD E (X : Int) (Y : Int) = lb E (8 * Y + X) := by
  unfold inD
  rw [decide_eq_true (by omega), Bool.true_and, show (8 * (Y : Int) + (X : Int)).toNat = 8 * Y + X by omega]
theorem Wh_lb {W H : Nat} {D : Int64} : Wh W H D ↔ ∀ i, i < 64 → lb D i = true → i % 8 < W ∧ i / 8 < H := by
  constructor
  · intro w i hi h
    have := w ((i % 8 : Nat) : Int) ((i / 8 : Nat) : Int) (by rw [inD_lb _ (by omega) (by omega), show 8 * (i / 8) + i % 8 = i by omega]; exact h)
    omega
  · intro w x y h
    have b := inD_b h
    obtain ⟨X, rfl⟩ := Int.eq_ofNat_of_zero_le b.1
    obtain ⟨Y, rfl⟩ := Int.eq_ofNat_of_zero_le b.2.2.1
    rw [inD_lb _ (by omega) (by omega)] at h
    have := w (8 * Y + X) (by omega) h
    omega
theorem fDark_lb (D : Int64) {X Y : Nat} (hX : X < 8) (hY : Y < 8) : (if fDark D (nI X) (nI Y) = 0 then (0 : Int32) else 1) = if lb D (8 * Y + X) then 1 else 0 := by
  unfold fDark
  have := gBit_lb D hX hY
  by_cases c : lb D (8 * Y + X) = true
  · have nn : ¬ D &&& gBit (nI X) (nI Y) = 0 := fun q => by rw [this.mp q] at c; cases c
    rw [if_neg nn, if_neg (show ¬ (1 : Int32) = 0 by decide), if_pos c]
  · have nn : D &&& gBit (nI X) (nI Y) = 0 := this.mpr (by simpa using c)
    rw [if_pos nn, if_pos (show (0 : Int32) = 0 from rfl), if_neg c]
section
variable {V : VV} {h : AH} {n z z0 : Nat}
theorem Op.same {IC IM : MI} {dC dM : Nat} {args : List Value} {r : Int32} (I : INV z0 h n z) (X : AMet V IC dC (.ref 8 :: args) h n z (some (.int r)) h n z) (Y : AMet V IM dM (.ref 32 :: args) h n z (some (.int r)) h n z) : Op V IC IM dC dM args z0 h n z := ⟨r, h, n, z, h, Nat.le_refl _, Nat.le_refl _, X, Y, I, I.cls.2⟩
/-- an act: the class's cells 8 to 18, then the model's 32 to 38 -/
theorem Op.act {IC IM : MI} {dC dM : Nat} {args : List Value} {r : Int32} (K : CK z0 h n z) {h1 h2 : AH} (X : AMet V IC dC (.ref 8 :: args) h n z (some (.int r)) h1 n z) (Y : AMet V IM dM (.ref 32 :: args) h1 n z (some (.int r)) h2 n z) {L : Nat} {f : Nat → Int32} {lf : Int32} {W H : Nat} {D : Int64} {j s : Int32} {k : Nat} {ad : Nat → Int64} {aj ash : Nat → Int32} {i0 i1 : Pc} {ra : Int32} (A : CA L f lf (W, H, D, j, s) k ad aj ash i0 i1 h1) (g32 : ∃ c, h 32 = .inr (11, c)) (f1 : ∀ i, i < 8 ∨ 19 ≤ i → h1 i = h i) (f2 : ∀ i, i < 32 ∨ 39 ≤ i → h2 i = h1 i) (Q : MQs W H D j s (nI k) (nI L) lf ra h2) (p : PcOk W H D j) (hL : L ≤ 90) (hk : k ≤ 8) (R : MR L f W H k ad aj ash i0 i1 h2) : Op V IC IM dC dM args z0 h n z :=
  ⟨r, h1, n, z, h2, Nat.le_refl _, Nat.le_refl _, X, Y, ⟨L, f, lf, W, H, D, j, s, k, ad, aj, ash, i0, i1, ra, A.of (fun i a b => f2 i (by omega)), K.of2 (fun i a => by rw [f2 i (by omega), f1 i (by omega)]), Q, p, hL, hk, R⟩, by rw [f1 32 (by decide)]; exact g32⟩

theorem o_fault (I : INV z0 h n z) : Op V i_Dot_fault i_Mod_fault 1 0 [] z0 h n z := by
  obtain ⟨L, f, lf, W, H, D, j, s, k, ad, aj, ash, i0, i1, ra, A, K, Q, p, hL, hk, R⟩ := id I
  obtain ⟨il, mn, rs, tb, ve, oa, lm, st, g32, g33, es⟩ := Q.dat
  obtain ⟨s0, s1, s2, s3, s4⟩ := MB.st0 es
  obtain ⟨pa, im, ii, rd, g34, e1, g35, g36, e2, e3, g37, g38⟩ := id R
  exact Op.same I (s_Dot_fault A) (s_Mod_fault g32)
theorem o_feed (I : INV z0 h n z) (x : Int32) : Op V i_Dot_feed i_Mod_feed 1 1 [.int x] z0 h n z := by
  obtain ⟨L, f, lf, W, H, D, j, s, k, ad, aj, ash, i0, i1, ra, A, K, Q, p, hL, hk, R⟩ := id I
  obtain ⟨il, mn, rs, tb, ve, oa, lm, st, g32, g33, es⟩ := Q.dat
  obtain ⟨s0, s1, s2, s3, s4⟩ := MB.st0 es
  obtain ⟨pa, im, ii, rd, g34, e1, g35, g36, e2, e3, g37, g38⟩ := id R
  by_cases c : ¬ x < 0 ∧ x ≤ 255
  · have fx : ¬ fRg x 0 255 = 0 := fun q => (fRg_hi x 255).mp q c
    rcases Nat.lt_or_ge L 90 with c2 | c2
    · obtain ⟨h1, X, A1, f1⟩ := s_Dot_feedO (V := V) (n := n) (z := z) A c c2
      have k32 : h1 32 = oMod (nI k) (nI L) lf ra il mn rs tb ve oa lm := by rw [f1 32 (by decide)]; exact g32
      have k37 : h1 37 = aI 90 f := by rw [f1 37 (by decide)]; exact g37
      refine Op.act K X (s_Mod_feedO k32 k37 c2 fx) A1 I.cls.2 f1 (fun i q => by rw [hu_n (by omega), hu_n (by omega)]) (ra := ra) ?_ p (by omega) hk ?_
      · refine (Q.of (h' := h1) (fun i a b => f1 i (by omega))).hd (fun il' mn' rs' tb' ve' oa' lm' q => ?_) (fun i a b d => by rw [hu_n (by omega), hu_n (by omega)])
        rw [hu_s]
        have := k32.symm.trans q
        exact congrArg (fun c : AC => match c with | .inr (11, [a0, a1, a2, a3, a4, a5, a6, a7, a8, a9, a10, a11, a12, a13, a14, a15, a16, a17, a18, a19, a20, a21, a22, a23, a24, a25, a26, a27, a28, a29, a30]) => (.inr (11, [a0, a1, a2, a3, a4, a5, .int (nI (L + 1)), a7, a8, a9, a10, a11, a12, a13, a14, a15, a16, a17, a18, a19, a20, a21, a22, a23, a24, a25, a26, a27, a28, a29, a30]) : AC) | c => c) this
      · refine ⟨pa, im, ii, rd, ?_, e1, ?_, ?_, e2, e3, rfl, ?_⟩
        all_goals (rw [hu_n (by decide), hu_n (by decide), f1 _ (by decide)]; assumption)
    · have e : L = 90 := by omega
      refine Op.same I (s_Dot_feedF A c e) ?_
      rw [e] at g32
      exact s_Mod_feedF g32 fx
  · exact Op.same I (s_Dot_feedB A c) (s_Mod_feedB g32 ((fRg_hi x 255).mpr c))
theorem o_dot (I : INV z0 h n z) (x y : Int32) : Op V i_Dot_dot i_Mod_dot 2 2 [.int x, .int y] z0 h n z := by
  obtain ⟨L, f, lf, W, H, D, j, s, k, ad, aj, ash, i0, i1, ra, A, K, Q, p, hL, hk, R⟩ := id I
  obtain ⟨il, mn, rs, tb, ve, oa, lm, st, g32, g33, es⟩ := Q.dat
  obtain ⟨s0, s1, s2, s3, s4⟩ := MB.st0 es
  obtain ⟨pa, im, ii, rd, g34, e1, g35, g36, e2, e3, g37, g38⟩ := id R
  have hW := p.1
  have hH := p.2.1
  have ed : mDot (st 0) (st 1) x y = fHas (nI W) (nI H) x y := by rw [s0, s1]; exact mDot_fHas (by omega) (by omega) x y
  have X := s_Dot_dotN (V := V) (n := n) (z := z) A x y
  by_cases cf : fHas (nI W) (nI H) x y = 0
  · rw [if_pos cf] at X
    exact Op.same I X (s_Mod_dotB g32 g33 (ed.trans cf))
  · obtain ⟨X', Y', hX, hY, eX_, eY_⟩ := fHas_ok (by omega) (by omega) cf
    subst eX_ eY_
    rw [if_neg cf, fDark_lb D (by omega) (by omega), ← s4 (8 * Y' + X') (by omega), ← Nat.add_assoc] at X
    exact Op.same I X (s_Mod_dot g32 g33 (by omega) (by omega) (fun q => cf (ed.symm.trans q)))
theorem o_count (I : INV z0 h n z) (what : Int32) : Op V i_Dot_count i_Mod_count 2 1 [.int what] z0 h n z := by
  obtain ⟨L, f, lf, W, H, D, j, s, k, ad, aj, ash, i0, i1, ra, A, K, Q, p, hL, hk, R⟩ := id I
  obtain ⟨il, mn, rs, tb, ve, oa, lm, st, g32, g33, es⟩ := Q.dat
  obtain ⟨s0, s1, s2, s3, s4⟩ := MB.st0 es
  obtain ⟨pa, im, ii, rd, g34, e1, g35, g36, e2, e3, g37, g38⟩ := id R
  have X := s_Dot_count (V := V) (n := n) (z := z) A what
  have Y := s_Mod_count (V := V) (n := n) (z := z) g32 g33 s4 what
  have e : m_count st (nI (pcn D 64)) (nI k) (nI L) what = q_count W H D j s k L what := by
    unfold m_count q_count
    rw [s0, s1, s2, s3, ← fBC_ok]
    rcases sw_cases what 5 (by decide) with c | ⟨q, hq, c⟩
    · rw [swI_out c]
    · subst c
      rw [swI_in q 5 hq (by decide)]
      rcases (show q = 0 ∨ q = 1 ∨ q = 2 ∨ q = 3 ∨ q = 4 ∨ q = 5 by omega) with rfl | rfl | rfl | rfl | rfl | rfl <;> rfl
  rw [e] at Y
  exact Op.same I X Y
theorem o_undo (I : INV z0 h n z) : Op V i_Dot_undo i_Mod_undo 1 1 [] z0 h n z := by
  obtain ⟨L, f, lf, W, H, D, j, s, k, ad, aj, ash, i0, i1, ra, A, K, Q, p, hL, hk, R⟩ := id I
  obtain ⟨il, mn, rs, tb, ve, oa, lm, st, g32, g33, es⟩ := Q.dat
  obtain ⟨s0, s1, s2, s3, s4⟩ := MB.st0 es
  obtain ⟨pa, im, ii, rd, g34, e1, g35, g36, e2, e3, g37, g38⟩ := id R
  rcases Nat.eq_zero_or_pos k with c | c
  · subst c
    exact Op.same I (s_Dot_undo0 A rfl) (s_Mod_undo0 g32)
  · obtain ⟨m, rfl⟩ : ∃ m, k = m + 1 := ⟨k - 1, by omega⟩
    obtain ⟨h1, X, A1, f1⟩ := s_Dot_undo (V := V) (n := n) (z := z) A rfl (by omega)
    have k32 : h1 32 = oMod (nI (m + 1)) (nI L) lf ra il mn rs tb ve oa lm := by rw [f1 32 (by decide)]; exact g32
    have k33 : h1 33 = aI 68 st := by rw [f1 33 (by decide)]; exact g33
    have k34 : h1 34 = aI 544 pa := by rw [f1 34 (by decide)]; exact g34
    obtain ⟨x1, x2⟩ := e1 m (by omega)
    have Y := s_Mod_undo (V := V) (n := n) (z := z) k32 k33 k34 (show m < 8 by omega)
    refine Op.act K X Y A1 I.cls.2 f1 (fun i q => by rw [hu_n (by omega), hu_n (by omega), hu_n (by omega)]) (ra := ra) ?_ x1 hL (by omega) ?_
    · refine (Q.of (h' := h1) (fun i a b => f1 i (by omega))).act (hu_s _ _ _) rfl (fun i hi => ?_) (fun i a b => by rw [hu_n (by omega), hu_n (by omega), hu_n (by omega)])
      have := pt_in (f := st) (s := 0) (m := 68) (g := fun t => pa (68 * m + t)) hi
      rw [Nat.zero_add] at this
      rw [this]
      exact x2 i hi
    · refine ⟨pa, im, ii, rd, ?_, fun a ha => e1 a (by omega), ?_, ?_, e2, e3, ?_, ?_⟩
      all_goals (rw [hu_n (by decide), hu_n (by decide), hu_n (by decide), f1 _ (by decide)]; assumption)
theorem o_joined (I : INV z0 h n z) (v : Int32) : Op V i_Dot_joined i_Mod_joined 2 3 [.int v] z0 h n z := by
  obtain ⟨L, f, lf, W, H, D, j, s, k, ad, aj, ash, i0, i1, ra, A, K, Q, p, hL, hk, R⟩ := id I
  obtain ⟨il, mn, rs, tb, ve, oa, lm, st, g32, g33, es⟩ := Q.dat
  obtain ⟨s0, s1, s2, s3, s4⟩ := MB.st0 es
  obtain ⟨pa, im, ii, rd, g34, e1, g35, g36, e2, e3, g37, g38⟩ := id R
  have hW := p.1
  have st0 : st 0 ≤ 0 ↔ W = 0 := by
    rw [s0]
    constructor
    · intro q
      rcases Nat.eq_zero_or_pos W with c | c
      · exact c
      · exact absurd q (nI_nle c (by omega))
    · intro q; rw [q]; decide
  by_cases c0 : W = 0
  · exact Op.same I (s_Dot_joinedS A c0 v) (s_Mod_joinedS g32 g33 v (st0.mpr c0))
  · by_cases c : ¬ v < 0 ∧ v ≤ 1
    · obtain ⟨h1, X, A1, f1⟩ := s_Dot_joined (V := V) (n := n) (z := z) A hk (by omega) hW c
      have k32 : h1 32 = oMod (nI k) (nI L) lf ra il mn rs tb ve oa lm := by rw [f1 32 (by decide)]; exact g32
      have k33 : h1 33 = aI 68 st := by rw [f1 33 (by decide)]; exact g33
      have k34 : h1 34 = aI 544 pa := by rw [f1 34 (by decide)]; exact g34
      obtain ⟨h2, Y, y32, y33, y34, f2⟩ := s_Mod_joined (V := V) (n := n) (z := z) k32 k33 k34 hk (v := v) (fun q => c0 (st0.mp q)) (fun q => (fRg_hi v 1).mp q c)
      rw [s2] at Y
      have en : ∀ i, i < 68 → upd st 2 v i = stF (W, H, D, v, s) i := by
        intro i hi
        by_cases e : i = 2
        · subst e; rw [pk_us]; rfl
        · rw [pk_un e, es i hi]
          unfold stF
          simp only
          rw [if_neg e, if_neg e]
      refine Op.act K X Y A1 I.cls.2 f1 (fun i q => f2 i (by omega) (by omega) (by omega)) (ra := ra) ?_ ⟨p.1, p.2.1, fRg_01c (fun q => (fRg_hi v 1).mp q c), p.2.2.2⟩ hL (by unfold rmK; split <;> omega) ?_
      · exact (Q.of (h' := h1) (fun i a b => f1 i (by omega))).act y32 y33 en (fun i a b => f2 i (by omega) (by omega) (by omega))
      · refine ⟨_, im, ii, rd, y34, rm_ok hk p es e1, ?_, ?_, e2, e3, ?_, ?_⟩
        all_goals (rw [f2 _ (by decide) (by decide) (by decide), f1 _ (by decide)]; assumption)
    · exact Op.same I (s_Dot_joinedB A (by omega) hW c) (s_Mod_joinedB g32 g33 (fun q => c0 (st0.mp q)) ((fRg_hi v 1).mpr c))
theorem fRg_132 {v : Int32} : fRg v 1 32 = 0 ↔ ¬ (¬ v < 1 ∧ v ≤ 32) := by
  unfold fRg
  by_cases a : v < 1
  · rw [if_pos a]; simp [a]
  · rw [if_neg a]
    by_cases b : 32 < v
    · rw [if_pos b]; simp; intro _; exact b
    · rw [if_neg b]; simp; exact ⟨Int32.not_lt.mp a, Int32.not_lt.mp b⟩
theorem o_sharp (I : INV z0 h n z) (v : Int32) : Op V i_Dot_sharp i_Mod_sharp 2 3 [.int v] z0 h n z := by
  obtain ⟨L, f, lf, W, H, D, j, s, k, ad, aj, ash, i0, i1, ra, A, K, Q, p, hL, hk, R⟩ := id I
  obtain ⟨il, mn, rs, tb, ve, oa, lm, st, g32, g33, es⟩ := Q.dat
  obtain ⟨s0, s1, s2, s3, s4⟩ := MB.st0 es
  obtain ⟨pa, im, ii, rd, g34, e1, g35, g36, e2, e3, g37, g38⟩ := id R
  have hW := p.1
  have st0 : st 0 ≤ 0 ↔ W = 0 := by
    rw [s0]
    constructor
    · intro q
      rcases Nat.eq_zero_or_pos W with c | c
      · exact c
      · exact absurd q (nI_nle c (by omega))
    · intro q; rw [q]; decide
  by_cases c0 : W = 0
  · exact Op.same I (s_Dot_sharpS A c0 v) (s_Mod_sharpS g32 g33 v (st0.mpr c0))
  · by_cases c : ¬ v < 1 ∧ v ≤ 32
    · obtain ⟨h1, X, A1, f1⟩ := s_Dot_sharp (V := V) (n := n) (z := z) A hk (by omega) hW c
      have k32 : h1 32 = oMod (nI k) (nI L) lf ra il mn rs tb ve oa lm := by rw [f1 32 (by decide)]; exact g32
      have k33 : h1 33 = aI 68 st := by rw [f1 33 (by decide)]; exact g33
      have k34 : h1 34 = aI 544 pa := by rw [f1 34 (by decide)]; exact g34
      obtain ⟨h2, Y, y32, y33, y34, f2⟩ := s_Mod_sharp (V := V) (n := n) (z := z) k32 k33 k34 hk (v := v) (fun q => c0 (st0.mp q)) (fun q => fRg_132.mp q c)
      rw [s3] at Y
      have en : ∀ i, i < 68 → upd st 3 v i = stF (W, H, D, j, v) i := by
        intro i hi
        by_cases e : i = 3
        · subst e; rw [pk_us]; rfl
        · rw [pk_un e, es i hi]
          unfold stF
          simp only
          rw [if_neg e, if_neg e]
      refine Op.act K X Y A1 I.cls.2 f1 (fun i q => f2 i (by omega) (by omega) (by omega)) (ra := ra) ?_ p hL (by unfold rmK; split <;> omega) ?_
      · exact (Q.of (h' := h1) (fun i a b => f1 i (by omega))).act y32 y33 en (fun i a b => f2 i (by omega) (by omega) (by omega))
      · refine ⟨_, im, ii, rd, y34, rm_ok hk p es e1, ?_, ?_, e2, e3, ?_, ?_⟩
        all_goals (rw [f2 _ (by decide) (by decide) (by decide), f1 _ (by decide)]; assumption)
    · exact Op.same I (s_Dot_sharpB A (by omega) hW c) (s_Mod_sharpB g32 g33 (fun q => c0 (st0.mp q)) (fRg_132.mpr c))
theorem o_flip (I : INV z0 h n z) (x y : Int32) : Op V i_Dot_flip i_Mod_flip 2 2 [.int x, .int y] z0 h n z := by
  obtain ⟨L, f, lf, W, H, D, j, s, k, ad, aj, ash, i0, i1, ra, A, K, Q, p, hL, hk, R⟩ := id I
  obtain ⟨il, mn, rs, tb, ve, oa, lm, st, g32, g33, es⟩ := Q.dat
  obtain ⟨s0, s1, s2, s3, s4⟩ := MB.st0 es
  obtain ⟨pa, im, ii, rd, g34, e1, g35, g36, e2, e3, g37, g38⟩ := id R
  have hW := p.1
  have hH := p.2.1
  have ed : mDot (st 0) (st 1) x y = fHas (nI W) (nI H) x y := by rw [s0, s1]; exact mDot_fHas (by omega) (by omega) x y
  by_cases cf : fHas (nI W) (nI H) x y = 0
  · exact Op.same I (s_Dot_flipB A cf) (s_Mod_flipB g32 g33 (ed.trans cf))
  · obtain ⟨X', Y', hX, hY, eX_, eY_⟩ := fHas_ok (by omega) (by omega) cf
    subst eX_ eY_
    obtain ⟨h1, X, A1, f1⟩ := s_Dot_flip (V := V) (n := n) (z := z) A hk cf
    have k32 : h1 32 = oMod (nI k) (nI L) lf ra il mn rs tb ve oa lm := by rw [f1 32 (by decide)]; exact g32
    have k33 : h1 33 = aI 68 st := by rw [f1 33 (by decide)]; exact g33
    have k34 : h1 34 = aI 544 pa := by rw [f1 34 (by decide)]; exact g34
    obtain ⟨h2, Y, y32, y33, y34, f2⟩ := s_Mod_flip (V := V) (n := n) (z := z) k32 k33 k34 hk (show X' < 8 by omega) (show Y' < 8 by omega) (fun q => cf (ed.symm.trans q))
    have lbx : ∀ i, lb (D ^^^ gBit (nI X') (nI Y')) i = (lb D i ^^ decide (i = 8 * Y' + X')) := fun i => by rw [lb_xor, iI_nat X', iI_nat Y', gBit_in (by omega) (by omega)]
    have e4 := s4 (8 * Y' + X') (by omega)
    rw [← Nat.add_assoc] at e4
    have er : (if fDark (D ^^^ gBit (nI X') (nI Y')) (nI X') (nI Y') = 0 then (0 : Int32) else 1) = 1 - st (4 + 8 * Y' + X') := by
      rw [fDark_lb _ (by omega) (by omega), lbx, decide_eq_true rfl, e4]
      cases lb D (8 * Y' + X') <;> rfl
    rw [er] at X
    have en : ∀ i, i < 68 → upd st (4 + 8 * Y' + X') (1 - st (4 + 8 * Y' + X')) i = stF (W, H, D ^^^ gBit (nI X') (nI Y'), j, s) i := by
      intro i hi
      by_cases e : i = 4 + 8 * Y' + X'
      · subst e
        rw [pk_us, e4]
        unfold stF
        simp only
        rw [if_neg (show ¬ 4 + 8 * Y' + X' = 0 by omega), if_neg (show ¬ 4 + 8 * Y' + X' = 1 by omega), if_neg (show ¬ 4 + 8 * Y' + X' = 2 by omega), if_neg (show ¬ 4 + 8 * Y' + X' = 3 by omega), show 4 + 8 * Y' + X' - 4 = 8 * Y' + X' by omega, lbx, decide_eq_true rfl]
        cases lb D (8 * Y' + X') <;> rfl
      · rw [pk_un e, es i hi]
        unfold stF
        simp only
        by_cases h4 : i < 4
        · rcases (show i = 0 ∨ i = 1 ∨ i = 2 ∨ i = 3 by omega) with rfl | rfl | rfl | rfl <;> rfl
        · rw [lbx, decide_eq_false (by omega), Bool.xor_false]
    have pn : PcOk W H (D ^^^ gBit (nI X') (nI Y')) j := ⟨hW, hH, p.2.2.1, Wh_lb.mpr (fun i hi h => by
      rw [lbx] at h
      by_cases e : i = 8 * Y' + X'
      · omega
      · rw [decide_eq_false e, Bool.xor_false] at h
        exact Wh_lb.mp p.2.2.2 i hi h)⟩
    refine Op.act K X Y A1 I.cls.2 f1 (fun i q => f2 i (by omega) (by omega) (by omega)) (ra := ra) ?_ pn hL (by unfold rmK; split <;> omega) ?_
    · exact (Q.of (h' := h1) (fun i a b => f1 i (by omega))).act y32 y33 en (fun i a b => f2 i (by omega) (by omega) (by omega))
    · refine ⟨_, im, ii, rd, y34, rm_ok hk p es e1, ?_, ?_, e2, e3, ?_, ?_⟩
      all_goals (rw [f2 _ (by decide) (by decide) (by decide), f1 _ (by decide)]; assumption)
end
