/-! EDGES: a border's edges are taken out of what is left -/
def vt (w : WS) (X Y : Int) : Bool := decide (w.2.2 % 2 = 1 ∧ eY w = Y ∧ eX w ≤ X)
def vz (w : WS) (X Y : Int) : Bool := decide (w.2.2 % 2 = 1 ∧ eY w = Y ∧ eX w = X)
def hz (w : WS) (X Y : Int) : Bool := decide (w.2.2 % 2 = 0 ∧ eY w = Y ∧ eX w = X)
theorem rR_vt {D : Int64} {w : WS} (v : Val D w) {b : Nat} (hb : b < 64) : lb (rR (iI w.1) (iI w.2.1) (nI w.2.2)) b = vt w ((b % 8 : Nat) : Int) ((b / 8 : Nat) : Int) := by
  obtain ⟨x, y, d⟩ := w
  have vb := v.b
  unfold vt eX eY rR
  simp only at vb ⊢
  rcases vb with ⟨e, vb⟩ | ⟨e, vb⟩ | ⟨e, vb⟩ | ⟨e, vb⟩ <;> subst e
  · rw [if_neg (by decide), if_neg (by decide), lb_0]; simp
  · rw [if_pos (by decide)]
    by_cases e8 : x = 8
    · rw [gRow_out (by omega) (by omega) (by omega), lb_0]
      exact (decide_eq_false (by simp; omega)).symm
    · obtain ⟨a, rfl⟩ := Int.eq_ofNat_of_zero_le (show 0 ≤ x by omega)
      obtain ⟨c, rfl⟩ := Int.eq_ofNat_of_zero_le (show 0 ≤ y by omega)
      rw [gRow_in (by omega) (by omega)]
      exact decide_eq_decide.mpr (by simp; omega)
  · rw [if_neg (by decide), if_neg (by decide), lb_0]; simp
  · rw [if_neg (by decide), if_pos (by decide), iI_1, iI_sub]
    obtain ⟨a, rfl⟩ := Int.eq_ofNat_of_zero_le (show 0 ≤ x by omega)
    obtain ⟨c, hc⟩ := Int.eq_ofNat_of_zero_le (show 0 ≤ y - 1 by omega)
    rw [hc, gRow_in (by omega) (by omega)]
    exact decide_eq_decide.mpr (by simp; omega)
def wiB (J : Bool) (D : Int64) (t P : Nat) (X Y : Int) : Bool := xr (fun k => vt (wk J D t k) X Y) P
theorem lb_wi {J : Bool} {D : Int64} {t : Nat} (v : ∀ k, Val D (wk J D t k)) {b : Nat} (hb : b < 64) : ∀ P, lb (wi J D t P) b = wiB J D t P ((b % 8 : Nat) : Int) ((b / 8 : Nat) : Int)
  | 0 => lb_0 b
  | P + 1 => by
    show lb (wi J D t P ^^^ rR (iI (wk J D t P).1) (iI (wk J D t P).2.1) (nI (wk J D t P).2.2)) b = (wiB J D t P _ _ ^^ vt (wk J D t P) _ _)
    rw [lb_xor, lb_wi v hb P, rR_vt (v P) hb]
theorem vt_step (w : WS) (v : w.2.2 < 4) (Y : Int) : (decide (w.2.1 ≤ Y) ^^ decide (w.2.1 + sy w.2.2 ≤ Y)) = decide (w.2.2 % 2 = 1 ∧ eY w = Y) := by
  obtain ⟨x, y, d⟩ := w
  unfold eY
  simp only at v ⊢
  rcases (show d = 0 ∨ d = 1 ∨ d = 2 ∨ d = 3 by omega) with rfl | rfl | rfl | rfl <;> simp only [sy]
  · rw [Int.add_zero, Bool.xor_self]; simp
  · by_cases q1 : y ≤ Y <;> by_cases q2 : y + 1 ≤ Y <;> simp [q1, q2] <;> omega
  · rw [Int.add_zero, Bool.xor_self]; simp
  · by_cases q1 : y ≤ Y <;> by_cases q2 : y + -1 ≤ Y <;> simp [q1, q2] <;> omega
theorem hz_step (w : WS) (v : w.2.2 < 4) (X Y : Int) : (decide (w.2.1 = Y ∧ w.1 ≤ X) ^^ decide (w.2.1 + sy w.2.2 = Y ∧ w.1 + sx w.2.2 ≤ X)) = ((vt w X (Y - 1) ^^ vt w X Y) ^^ hz w X Y) := by
  obtain ⟨x, y, d⟩ := w
  unfold vt hz eX eY
  simp only at v ⊢
  rcases (show d = 0 ∨ d = 1 ∨ d = 2 ∨ d = 3 by omega) with rfl | rfl | rfl | rfl <;> simp only [sy, sx] <;> simp
  · by_cases q0 : y = Y
    · by_cases q1 : x ≤ X <;> by_cases q2 : x + 1 ≤ X <;> simp [q0, q1, q2] <;> omega
    · simp [q0]
  · by_cases q0 : x ≤ X
    · by_cases q1 : y = Y <;> by_cases q2 : y + 1 = Y <;> simp [q0, q1, q2] <;> omega
    · simp [q0]
  · by_cases q0 : y = Y
    · by_cases q1 : x ≤ X <;> by_cases q2 : x + -1 ≤ X <;> simp [q0, q1, q2] <;> omega
    · simp [q0]
  · by_cases q0 : x ≤ X
    · by_cases q1 : y = Y <;> by_cases q2 : y + -1 = Y <;> simp [q0, q1, q2] <;> omega
    · simp [q0]
theorem vt_vz (w : WS) (X Y : Int) : (vt w (X - 1) Y ^^ vt w X Y) = vz w X Y := by
  unfold vt vz
  by_cases q0 : w.2.2 % 2 = 1
  · by_cases q3 : eY w = Y
    · by_cases q1 : eX w ≤ X - 1 <;> by_cases q2 : eX w ≤ X <;> simp [q0, q1, q2, q3] <;> omega
    · simp [q3]
  · simp [q0]
/-- past the last column a closed walk crosses a row an even number of times -/
theorem wiB_far {J : Bool} {D : Int64} {t P : Nat} (v : ∀ k, Val D (wk J D t k)) (r : wk J D t P = wk J D t 0) {X Y : Int} (hX : ∀ k, k < P → (wk J D t k).2.2 % 2 = 1 → eY (wk J D t k) = Y → eX (wk J D t k) ≤ X) : wiB J D t P X Y = false := by
  have := xr_tel (fun k => decide ((wk J D t k).2.1 ≤ Y)) P
  rw [r, Bool.xor_self] at this
  rw [← this]
  refine xr_cg (fun k hk => ?_)
  have e := vt_step (wk J D t k) (v k).1 Y
  rw [show (wk J D t (k + 1)).2.1 = (wk J D t k).2.1 + sy (wk J D t k).2.2 from rfl, e]
  unfold vt
  refine decide_eq_decide.mpr ⟨fun q => ⟨q.1, q.2.1⟩, fun q => ⟨q.1, q.2, hX k hk q.1 q.2⟩⟩
theorem inD_wi {J : Bool} {D : Int64} {t P : Nat} (v : ∀ k, Val D (wk J D t k)) (r : wk J D t P = wk J D t 0) (X Y : Int) : inD (wi J D t P) X Y = wiB J D t P X Y := by
  by_cases h : 0 ≤ X ∧ X < 8 ∧ 0 ≤ Y ∧ Y < 8
  · unfold inD
    rw [decide_eq_true h, Bool.true_and, lb_wi v (by omega)]
    congr 1 <;> omega
  · unfold inD
    rw [decide_eq_false h, Bool.false_and]
    by_cases h2 : 8 ≤ X
    · refine (wiB_far v r (fun k _ q _ => ?_)).symm
      have := (v k).b
      unfold eX
      rcases this with ⟨e, b⟩ | ⟨e, b⟩ | ⟨e, b⟩ | ⟨e, b⟩ <;> rw [e] <;> simp <;> omega
    · refine (xr_no (fun k _ => ?_)).symm
      refine decide_eq_false (fun q => ?_)
      have b := (v k).b
      obtain ⟨q1, q2, q3⟩ := q
      unfold eX at q3
      unfold eY at q2
      rcases b with ⟨e, b⟩ | ⟨e, b⟩ | ⟨e, b⟩ | ⟨e, b⟩ <;> rw [e] at q1 q2 q3 <;> simp at q1 q2 q3 <;> omega
theorem inD_wi_v {J : Bool} {D : Int64} {t P : Nat} (v : ∀ k, Val D (wk J D t k)) (r : wk J D t P = wk J D t 0) (X Y : Int) : (inD (wi J D t P) (X - 1) Y ^^ inD (wi J D t P) X Y) = xr (fun k => vz (wk J D t k) X Y) P := by
  rw [inD_wi v r, inD_wi v r, wiB, wiB, ← xr_xor]
  exact xr_cg (fun k _ => vt_vz _ _ _)
theorem inD_wi_h {J : Bool} {D : Int64} {t P : Nat} (v : ∀ k, Val D (wk J D t k)) (r : wk J D t P = wk J D t 0) (X Y : Int) : (inD (wi J D t P) X (Y - 1) ^^ inD (wi J D t P) X Y) = xr (fun k => hz (wk J D t k) X Y) P := by
  have := xr_tel (fun k => decide ((wk J D t k).2.1 = Y ∧ (wk J D t k).1 ≤ X)) P
  rw [r, Bool.xor_self] at this
  have e2 : xr (fun k => decide ((wk J D t k).2.1 = Y ∧ (wk J D t k).1 ≤ X) ^^ decide ((wk J D t (k + 1)).2.1 = Y ∧ (wk J D t (k + 1)).1 ≤ X)) P = xr (fun k => (vt (wk J D t k) X (Y - 1) ^^ vt (wk J D t k) X Y) ^^ hz (wk J D t k) X Y) P := xr_cg (fun k _ => hz_step (wk J D t k) (v k).1 X Y)
  rw [e2, xr_xor, xr_xor] at this
  rw [inD_wi v r, inD_wi v r, wiB, wiB]
  generalize (xr (fun k => vt (wk J D t k) X (Y - 1)) P ^^ xr (fun k => vt (wk J D t k) X Y) P) = A at *
  cases A <;> cases h : xr (fun k => hz (wk J D t k) X Y) P <;> rw [h] at this <;> first | rfl | cases this
theorem hz_U {D : Int64} {w : WS} (v : Val D w) {e : Nat} (he : e < 72) : hz w ((e % 8 : Nat) : Int) ((e / 8 : Nat) : Int) = decide (eU w = e) := by
  have b := v.b
  obtain ⟨x, y, d⟩ := w
  unfold hz eU eX eY
  simp only at b ⊢
  refine decide_eq_decide.mpr ?_
  rcases b with ⟨q, b⟩ | ⟨q, b⟩ | ⟨q, b⟩ | ⟨q, b⟩ <;> subst q <;> simp <;> omega
theorem vz_U {D : Int64} {w : WS} (v : Val D w) {e : Nat} (he : ¬ e < 72) : vz w (((e - 72) % 9 : Nat) : Int) (((e - 72) / 9 : Nat) : Int) = decide (eU w = e) := by
  have b := v.b
  obtain ⟨x, y, d⟩ := w
  unfold vz eU eX eY
  simp only at b ⊢
  refine decide_eq_decide.mpr ?_
  rcases b with ⟨q, b⟩ | ⟨q, b⟩ | ⟨q, b⟩ | ⟨q, b⟩ <;> subst q <;> simp <;> omega
/-- the edges of what a walk holds are the walk's -/
theorem be_wi {J : Bool} {D : Int64} {t P : Nat} (v : ∀ k, Val D (wk J D t k)) (r : wk J D t P = wk J D t 0) {e : Nat} (he : e < 144) : be (wi J D t P) e = occ (fun k => eU (wk J D t k)) P e := by
  unfold be occ
  by_cases q : e < 72
  · rw [if_pos q, inD_wi_h v r]
    exact xr_cg (fun k _ => hz_U (v k) q)
  · rw [if_neg q, inD_wi_v v r]
    exact xr_cg (fun k _ => vz_U (v k) q)
theorem inD_xor (D E : Int64) (x y : Int) : inD (D ^^^ E) x y = (inD D x y ^^ inD E x y) := by
  unfold inD
  rw [lb_xor]
  cases decide (0 ≤ x ∧ x < 8 ∧ 0 ≤ y ∧ y < 8) <;> simp
theorem be_xor (D E : Int64) (e : Nat) : be (D ^^^ E) e = (be D e ^^ be E e) := by
  unfold be
  simp only [inD_xor]
  split
  · generalize inD D ((e % 8 : Nat) : Int) (((e / 8 : Nat) : Int) - 1) = a
    generalize inD D ((e % 8 : Nat) : Int) ((e / 8 : Nat) : Int) = b
    generalize inD E ((e % 8 : Nat) : Int) (((e / 8 : Nat) : Int) - 1) = c
    generalize inD E ((e % 8 : Nat) : Int) ((e / 8 : Nat) : Int) = d
    cases a <;> cases b <;> cases c <;> cases d <;> rfl
  · generalize inD D ((((e - 72) % 9 : Nat) : Int) - 1) (((e - 72) / 9 : Nat) : Int) = a
    generalize inD D (((e - 72) % 9 : Nat) : Int) (((e - 72) / 9 : Nat) : Int) = b
    generalize inD E ((((e - 72) % 9 : Nat) : Int) - 1) (((e - 72) / 9 : Nat) : Int) = c
    generalize inD E (((e - 72) % 9 : Nat) : Int) (((e - 72) / 9 : Nat) : Int) = d
    cases a <;> cases b <;> cases c <;> cases d <;> rfl
theorem cnt_be {J : Bool} {D : Int64} {t : Nat} (ht : t < 64) (hb : lb D t = true) (l : Low D t) : cnt (be D) 144 = cnt (be (D ^^^ wi J D t (per J D t))) 144 + per J D t := by
  have v := wk_Val (J := J) ht hb l
  have r := (per_ret (J := J) ht hb l).1
  have hi : ∀ i j, i < per J D t → j < per J D t → eU (wk J D t i) = eU (wk J D t j) → i = j := fun i j h1 h2 => per_inj ht hb l h1 h2
  have hc := cnt_occ (u := fun k => eU (wk J D t k)) (m := 144) (n := per J D t) (fun i _ => (v i).lt) hi
  rw [cnt_add (q := be (D ^^^ wi J D t (per J D t))) (r := occ (fun k => eU (wk J D t k)) (per J D t)), hc]
  intro e he
  rw [be_xor, be_wi v r he]
  cases h : occ (fun k => eU (wk J D t k)) (per J D t) e
  · simp
  · obtain ⟨k, hk, ek⟩ := occ_ex h
    rw [← ek, (v k).edge]; rfl
theorem vt_lo {J : Bool} {D : Int64} {t : Nat} (ht : t < 64) (hb : lb D t = true) (l : Low D t) {X Y : Int} (h : 8 * Y + X < t) (hX : X < 8) (k : Nat) : vt (wk J D t k) X Y = false := by
  have v := wk_Val (J := J) ht hb l k
  refine decide_eq_false (fun q => ?_)
  have b := v.b
  obtain ⟨_, h1, _⟩ := v
  have h2 := inD_lo l h1
  obtain ⟨q1, q2, q3⟩ := q
  unfold eX at q3
  unfold eY at q2
  rcases b with ⟨e, b⟩ | ⟨e, b⟩ | ⟨e, b⟩ | ⟨e, b⟩ <;> rw [e] at q1 q2 q3 h2 <;> simp [ax, ay] at q1 q2 q3 h2 <;> omega
/-- the walk holds its first dot, and none before -/
theorem wi_first {J : Bool} {D : Int64} {t : Nat} (ht : t < 64) (hb : lb D t = true) (l : Low D t) : lb (wi J D t (per J D t)) t = true := by
  have v := wk_Val (J := J) ht hb l
  have r := (per_ret (J := J) ht hb l).1
  have e := inD_wi_h v r ((t % 8 : Nat) : Int) ((t / 8 : Nat) : Int)
  rw [inD_wi v r, wiB, xr_no (fun k _ => vt_lo ht hb l (by omega) (by omega) k), Bool.false_xor] at e
  have e2 : inD (wi J D t (per J D t)) ((t % 8 : Nat) : Int) ((t / 8 : Nat) : Int) = lb (wi J D t (per J D t)) t := by
    unfold inD
    rw [decide_eq_true (by omega), show (8 * ((t / 8 : Nat) : Int) + ((t % 8 : Nat) : Int)).toNat = t by omega, Bool.true_and]
  rw [← e2, e]
  refine xr_one (a := 0) (per_pos J D t) (by simp [hz, wk, eX, eY]) (fun k hk hk0 => ?_)
  refine decide_eq_false (fun q => hk0 ?_)
  refine per_inj ht hb l hk (per_pos J D t) ?_
  obtain ⟨q1, q2, q3⟩ := q
  unfold eU
  rw [if_pos q1, q2, q3]; rfl
theorem wi_before {J : Bool} {D : Int64} {t : Nat} (ht : t < 64) (hb : lb D t = true) (l : Low D t) {k : Nat} (hk : k < t) : lb (wi J D t (per J D t)) k = false := by
  have v := wk_Val (J := J) ht hb l
  rw [lb_wi v (by omega)]
  exact xr_no (fun i _ => vt_lo ht hb l (by omega) (by omega) i)
theorem Low.next {J : Bool} {D : Int64} {t : Nat} (ht : t < 64) (hb : lb D t = true) (l : Low D t) : Low (D ^^^ wi J D t (per J D t)) (t + 1) := by
  intro k hk
  rw [lb_xor]
  by_cases e : k = t
  · rw [e, hb, wi_first ht hb l]; rfl
  · rw [wi_before ht hb l (by omega), l k (by omega)]; rfl
theorem Low.skip {D : Int64} {t : Nat} (l : Low D t) (h : lb D t = false) : Low D (t + 1) := by
  intro k hk
  by_cases e : k = t
  · rw [e, h]
  · exact l k (by omega)
theorem sc_all (J : Bool) (D : Int64) : ∀ t, t ≤ 64 → Low (sR J D t) t ∧ sS J D t + cnt (be (sR J D t)) 144 = cnt (be D) 144
  | 0, _ => ⟨fun k h => absurd h (Nat.not_lt_zero k), by show 0 + cnt (be D) 144 = _; omega⟩
  | t + 1, h => by
    obtain ⟨i1, i2⟩ := sc_all J D t (by omega)
    cases hb : isB J D t
    · obtain ⟨y1, y2, y3⟩ := sc_n hb
      rw [y1, y3]
      exact ⟨i1.skip hb, i2⟩
    · obtain ⟨y1, y2, y3⟩ := sc_y hb
      rw [y1, y3]
      have := cnt_be (J := J) (show t < 64 by omega) hb i1
      refine ⟨Low.next (by omega) hb i1, ?_⟩
      unfold sP
      omega
theorem bd_Val {J : Bool} {D : Int64} {t : Nat} (ht : t < 64) (hb : isB J D t = true) (k : Nat) : Val (sR J D t) (wk J (sR J D t) t k) := wk_Val ht hb (sc_all J D t (by omega)).1 k
theorem bd_ret {J : Bool} {D : Int64} {t : Nat} (ht : t < 64) (hb : isB J D t = true) : wk J (sR J D t) t (sP J D t) = wk J (sR J D t) t 0 := (per_ret ht hb (sc_all J D t (by omega)).1).1
theorem GoodD_all (J : Bool) (D : Int64) : GoodD J D := by
  intro t ht hb
  obtain ⟨i1, i2⟩ := sc_all J D t (by omega)
  refine ⟨bd_ret ht hb, ?_⟩
  have := cnt_be (J := J) ht hb i1
  have := cnt_le (be D) 144
  unfold sP
  omega
theorem bd_per {J : Bool} {D : Int64} {t : Nat} (ht : t < 64) (hb : isB J D t = true) (k : Nat) : wk J (sR J D t) t (k + sP J D t) = wk J (sR J D t) t k := by
  induction k with
  | zero => rw [Nat.zero_add]; exact bd_ret ht hb
  | succ k ih =>
    rw [show k + 1 + sP J D t = (k + sP J D t) + 1 by omega]
    show nx J _ _ = nx J _ _
    rw [ih]
theorem step_ne {d : Nat} (h : d < 4) : ¬ (sx d = 0 ∧ sy d = 0) := by
  rcases (show d = 0 ∨ d = 1 ∨ d = 2 ∨ d = 3 by omega) with rfl | rfl | rfl | rfl <;> simp [sx, sy]
theorem trn_ne2 : ∀ (J L R : Bool), trn J L R 0 ≠ 2 := by decide
/-- a border has at least four steps -/
theorem bd_4 {J : Bool} {D : Int64} {t : Nat} (ht : t < 64) (hb : isB J D t = true) : 4 ≤ sP J D t := by
  have r := bd_ret ht hb
  have hp : 0 < sP J D t := per_pos _ _ _
  rcases Nat.lt_or_ge (sP J D t) 4 with q | q
  · exfalso
    have x1 : (wk J (sR J D t) t 1).1 = (wk J (sR J D t) t 0).1 + 1 := rfl
    have y1 : (wk J (sR J D t) t 1).2.1 = (wk J (sR J D t) t 0).2.1 + 0 := rfl
    have d1 : (wk J (sR J D t) t 1).2.2 ≠ 2 := trn_ne2 _ _ _
    have x2 : (wk J (sR J D t) t 2).1 = (wk J (sR J D t) t 1).1 + sx (wk J (sR J D t) t 1).2.2 := rfl
    have y2 : (wk J (sR J D t) t 2).2.1 = (wk J (sR J D t) t 1).2.1 + sy (wk J (sR J D t) t 1).2.2 := rfl
    have x3 : (wk J (sR J D t) t 3).1 = (wk J (sR J D t) t 2).1 + sx (wk J (sR J D t) t 2).2.2 := rfl
    have y3 : (wk J (sR J D t) t 3).2.1 = (wk J (sR J D t) t 2).2.1 + sy (wk J (sR J D t) t 2).2.2 := rfl
    have l1 := wk_lt J (sR J D t) t 1
    have l2 := wk_lt J (sR J D t) t 2
    have e1 := congrArg Prod.fst r
    have e2 : (wk J (sR J D t) t (sP J D t)).2.1 = (wk J (sR J D t) t 0).2.1 := congrArg (fun q => q.2.1) r
    generalize (wk J (sR J D t) t 1).2.2 = a at *
    generalize (wk J (sR J D t) t 2).2.2 = b at *
    rcases (show sP J D t = 1 ∨ sP J D t = 2 ∨ sP J D t = 3 by omega) with p | p | p <;> rw [p] at e1 e2
    · omega
    · rcases (show a = 0 ∨ a = 1 ∨ a = 3 by omega) with rfl | rfl | rfl <;> simp only [sx, sy] at x2 y2 <;> omega
    · rcases (show a = 0 ∨ a = 1 ∨ a = 3 by omega) with rfl | rfl | rfl <;> rcases (show b = 0 ∨ b = 1 ∨ b = 2 ∨ b = 3 by omega) with rfl | rfl | rfl | rfl <;> simp only [sx, sy] at x2 y2 x3 y3 <;> omega
  · exact q
/-- WHAT THE WALKS MUST BE LIKE, they are -/
theorem Gd_all (J : Bool) (D : Int64) : Gd J D := by
  refine ⟨GoodD_all J D, fun t ht hb => ?_⟩
  have h4 := bd_4 ht hb
  refine ⟨by omega, fun k => ?_, fun i hi => ?_⟩
  · have := (bd_Val ht hb k).b
    show 0 ≤ (wk J (sR J D t) t k).1 ∧ (wk J (sR J D t) t k).1 ≤ 8 ∧ 0 ≤ (wk J (sR J D t) t k).2.1 ∧ (wk J (sR J D t) t k).2.1 ≤ 8
    omega
  · unfold gA dxA
    have e : ∀ (f : WS → Int), f (wk J (sR J D t) t ((i + 1) % sP J D t)) = f (wk J (sR J D t) t (i + 1)) := by
      intro f
      rcases Nat.lt_or_ge (i + 1) (sP J D t) with q | q
      · rw [Nat.mod_eq_of_lt q]
      · rw [show i + 1 = sP J D t by omega, Nat.mod_self, bd_ret ht hb]
    rw [show bX J D t ((i + 1) % sP J D t) = _ from e (fun w => w.1), show bY J D t ((i + 1) % sP J D t) = _ from e (fun w => w.2.1), Nat.mod_eq_of_lt hi]
    have s := step_ne (bd_Val ht hb i).1
    have x1 : (wk J (sR J D t) t (i + 1)).1 = (wk J (sR J D t) t i).1 + sx (wk J (sR J D t) t i).2.2 := rfl
    have y1 : (wk J (sR J D t) t (i + 1)).2.1 = (wk J (sR J D t) t i).2.1 + sy (wk J (sR J D t) t i).2.2 := rfl
    simp only [x1, y1]
    show max ((wk J (sR J D t) t i).1 + sx (wk J (sR J D t) t i).2.2 - (wk J (sR J D t) t i).1).natAbs ((wk J (sR J D t) t i).2.1 + sy (wk J (sR J D t) t i).2.2 - (wk J (sR J D t) t i).2.1).natAbs ≠ 0
    generalize (wk J (sR J D t) t i).1 = a at *
    generalize (wk J (sR J D t) t i).2.1 = b at *
    generalize sx (wk J (sR J D t) t i).2.2 = c at *
    generalize sy (wk J (sR J D t) t i).2.2 = d at *
    rw [show a + c - a = c by omega, show b + d - b = d by omega]
    omega
