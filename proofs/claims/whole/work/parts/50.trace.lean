/-! WALKS COME BACK: every border is a closed walk, and together they are no longer than 144 -/
/-- the dot in quadrant e round a corner -/
def Qd (D : Int64) (x y : Int) (e : Nat) : Bool := inD D (x + ax e) (y + ay e)
/-- a step with a dot that is in on its right, and one that is out on its left -/
def Val (D : Int64) (w : WS) : Prop := w.2.2 < 4 ∧ Qd D w.1 w.2.1 ((w.2.2 + 1) % 4) = true ∧ Qd D w.1 w.2.1 w.2.2 = false
theorem Qd_sh2 (D : Int64) (x y : Int) {d : Nat} (h : d < 4) : Qd D (x + sx d) (y + sy d) ((d + 2) % 4) = Qd D x y ((d + 1) % 4) := by
  unfold Qd
  rcases (show d = 0 ∨ d = 1 ∨ d = 2 ∨ d = 3 by omega) with rfl | rfl | rfl | rfl <;> (congr 1 <;> simp only [sx, sy, ax, ay] <;> omega)
theorem Qd_sh3 (D : Int64) (x y : Int) {d : Nat} (h : d < 4) : Qd D (x + sx d) (y + sy d) ((d + 3) % 4) = Qd D x y d := by
  unfold Qd
  rcases (show d = 0 ∨ d = 1 ∨ d = 2 ∨ d = 3 by omega) with rfl | rfl | rfl | rfl <;> (congr 1 <;> simp only [sx, sy, ax, ay] <;> omega)
theorem nx_Q (J : Bool) (D : Int64) (w : WS) : nx J D w = (w.1 + sx w.2.2, w.2.1 + sy w.2.2, trn J (Qd D (w.1 + sx w.2.2) (w.2.1 + sy w.2.2) w.2.2) (Qd D (w.1 + sx w.2.2) (w.2.1 + sy w.2.2) ((w.2.2 + 1) % 4)) w.2.2) := rfl
theorem Val.step {J : Bool} {D : Int64} {w : WS} (v : Val D w) : Val D (nx J D w) := by
  obtain ⟨hd, h1, h2⟩ := v
  rw [nx_Q]
  rw [← Qd_sh2 D _ _ hd] at h1
  rw [← Qd_sh3 D _ _ hd] at h2
  generalize w.1 + sx w.2.2 = x at *
  generalize w.2.1 + sy w.2.2 = y at *
  generalize hdd : w.2.2 = d at *
  refine ⟨trn_lt _ _ _ hd, ?_, ?_⟩
  · show Qd D x y ((trn J (Qd D x y d) (Qd D x y ((d + 1) % 4)) d + 1) % 4) = true
    cases hL : Qd D x y d <;> cases hR : Qd D x y ((d + 1) % 4) <;> cases J <;> simp only [trn, Bool.and_true, Bool.and_false, Bool.not_true, Bool.not_false, Bool.or_true, Bool.or_false, Bool.true_and, Bool.false_and, if_true, if_false, Bool.false_eq_true]
    all_goals first
      | exact hR
      | (rw [show ((d + 1) % 4 + 1) % 4 = (d + 2) % 4 by omega]; exact h1)
      | (rw [show ((d + 3) % 4 + 1) % 4 = d by omega]; exact hL)
  · show Qd D x y (trn J (Qd D x y d) (Qd D x y ((d + 1) % 4)) d) = false
    cases hL : Qd D x y d <;> cases hR : Qd D x y ((d + 1) % 4) <;> cases J <;> simp only [trn, Bool.and_true, Bool.and_false, Bool.not_true, Bool.not_false, Bool.or_true, Bool.or_false, Bool.true_and, Bool.false_and, if_true, if_false, Bool.false_eq_true]
    all_goals first
      | exact hL
      | exact hR
      | exact h2
theorem trn_inj : ∀ (J q0 q1 q2 q3 : Bool) (d e : Fin 4),
    ([q0, q1, q2, q3].getD ((d.val + 2) % 4) false = true) → ([q0, q1, q2, q3].getD ((d.val + 3) % 4) false = false) →
    ([q0, q1, q2, q3].getD ((e.val + 2) % 4) false = true) → ([q0, q1, q2, q3].getD ((e.val + 3) % 4) false = false) →
    trn J ([q0, q1, q2, q3].getD d.val false) ([q0, q1, q2, q3].getD ((d.val + 1) % 4) false) d.val = trn J ([q0, q1, q2, q3].getD e.val false) ([q0, q1, q2, q3].getD ((e.val + 1) % 4) false) e.val → d = e := by decide
theorem Qd_list (D : Int64) (x y : Int) {d : Nat} (h : d < 4) : Qd D x y d = [Qd D x y 0, Qd D x y 1, Qd D x y 2, Qd D x y 3].getD d false := by
  rcases (show d = 0 ∨ d = 1 ∨ d = 2 ∨ d = 3 by omega) with rfl | rfl | rfl | rfl <;> rfl
theorem Val.inj {J : Bool} {D : Int64} {w v : WS} (a : Val D w) (b : Val D v) (e : nx J D w = nx J D v) : w = v := by
  obtain ⟨hd, h1, h2⟩ := a
  obtain ⟨kd, k1, k2⟩ := b
  rw [nx_Q, nx_Q] at e
  rw [← Qd_sh2 D _ _ hd] at h1
  rw [← Qd_sh3 D _ _ hd] at h2
  rw [← Qd_sh2 D _ _ kd] at k1
  rw [← Qd_sh3 D _ _ kd] at k2
  obtain ⟨x, y, d⟩ := w
  obtain ⟨x', y', d'⟩ := v
  simp only [Prod.mk.injEq] at e hd h1 h2 kd k1 k2
  obtain ⟨e1, e2, e3⟩ := e
  rw [← e1, ← e2] at e3 k1 k2
  have ed : d = d' := by
    rw [Qd_list D _ _ hd, Qd_list D _ _ (Nat.mod_lt (d + 1) (by decide)), Qd_list D _ _ kd, Qd_list D _ _ (Nat.mod_lt (d' + 1) (by decide))] at e3
    rw [Qd_list D _ _ (Nat.mod_lt _ (by decide))] at h1 h2 k1 k2
    have := trn_inj J _ _ _ _ ⟨d, hd⟩ ⟨d', kd⟩ h1 h2 k1 k2 e3
    exact congrArg Fin.val this
  subst ed
  have ex : x = x' := by omega
  have ey : y = y' := by omega
  rw [ex, ey]
theorem inD_b {D : Int64} {x y : Int} (h : inD D x y = true) : 0 ≤ x ∧ x < 8 ∧ 0 ≤ y ∧ y < 8 := by
  unfold inD at h
  rw [Bool.and_eq_true] at h
  exact of_decide_eq_true h.1
/-- the edge, whichever way it is walked -/
def eX (w : WS) : Int := if w.2.2 = 2 then w.1 - 1 else w.1
def eY (w : WS) : Int := if w.2.2 = 3 then w.2.1 - 1 else w.2.1
def eU (w : WS) : Nat := if w.2.2 % 2 = 0 then (8 * eY w + eX w).toNat else (72 + 9 * eY w + eX w).toNat
theorem Val.b {D : Int64} {w : WS} (v : Val D w) : (w.2.2 = 0 ∧ 0 ≤ w.1 ∧ w.1 < 8 ∧ 0 ≤ w.2.1 ∧ w.2.1 < 8) ∨ (w.2.2 = 1 ∧ 1 ≤ w.1 ∧ w.1 ≤ 8 ∧ 0 ≤ w.2.1 ∧ w.2.1 < 8) ∨ (w.2.2 = 2 ∧ 1 ≤ w.1 ∧ w.1 ≤ 8 ∧ 1 ≤ w.2.1 ∧ w.2.1 ≤ 8) ∨ (w.2.2 = 3 ∧ 0 ≤ w.1 ∧ w.1 < 8 ∧ 1 ≤ w.2.1 ∧ w.2.1 ≤ 8) := by
  obtain ⟨hd, h1, _⟩ := v
  have := inD_b h1
  rcases (show w.2.2 = 0 ∨ w.2.2 = 1 ∨ w.2.2 = 2 ∨ w.2.2 = 3 by omega) with e | e | e | e <;> rw [e] at this <;> simp only [ax, ay] at this <;> omega
/-- an edge between one that is in and one that is out -/
def be (D : Int64) (e : Nat) : Bool := if e < 72 then (inD D ((e % 8 : Nat) : Int) (((e / 8 : Nat) : Int) - 1) ^^ inD D ((e % 8 : Nat) : Int) ((e / 8 : Nat) : Int)) else (inD D ((((e - 72) % 9 : Nat) : Int) - 1) (((e - 72) / 9 : Nat) : Int) ^^ inD D (((e - 72) % 9 : Nat) : Int) (((e - 72) / 9 : Nat) : Int))
theorem Val.lt {D : Int64} {w : WS} (v : Val D w) : eU w < 144 := by
  have := v.b
  unfold eU eX eY
  rcases this with b | b | b | b <;> obtain ⟨e, b⟩ := b <;> simp only [e] <;> simp <;> omega
theorem be_h (D : Int64) {x y : Int} (hx : 0 ≤ x) (hx8 : x < 8) (hy : 0 ≤ y) (hy8 : y ≤ 8) : be D (8 * y + x).toNat = (inD D x (y - 1) ^^ inD D x y) := by
  obtain ⟨a, rfl⟩ := Int.eq_ofNat_of_zero_le hx
  obtain ⟨b, rfl⟩ := Int.eq_ofNat_of_zero_le hy
  unfold be
  rw [if_pos (by omega), show (8 * (b : Int) + (a : Int)).toNat % 8 = a by omega, show (8 * (b : Int) + (a : Int)).toNat / 8 = b by omega]
theorem be_v (D : Int64) {x y : Int} (hx : 0 ≤ x) (hx8 : x ≤ 8) (hy : 0 ≤ y) (hy8 : y < 8) : be D (72 + 9 * y + x).toNat = (inD D (x - 1) y ^^ inD D x y) := by
  obtain ⟨a, rfl⟩ := Int.eq_ofNat_of_zero_le hx
  obtain ⟨b, rfl⟩ := Int.eq_ofNat_of_zero_le hy
  unfold be
  rw [if_neg (by omega), show ((72 + 9 * (b : Int) + (a : Int)).toNat - 72) % 9 = a by omega, show ((72 + 9 * (b : Int) + (a : Int)).toNat - 72) / 9 = b by omega]
theorem Val.edge {D : Int64} {w : WS} (v : Val D w) : be D (eU w) = true := by
  have b := v.b
  obtain ⟨hd, h1, h2⟩ := v
  unfold Qd at h1 h2
  unfold eU eX eY
  rcases b with ⟨e, b⟩ | ⟨e, b⟩ | ⟨e, b⟩ | ⟨e, b⟩ <;> rw [e] at h1 h2 <;> simp only [ax, ay] at h1 h2 <;> simp only [e] <;> simp
  · rw [be_h D b.1 b.2.1 b.2.2.1 (by omega)]
    simp only [Int.add_zero] at h1 h2
    rw [h1, show w.2.1 - 1 = w.2.1 + -1 by omega, h2]; rfl
  · rw [be_v D (by omega) (by omega) (by omega) (by omega)]
    simp only [Int.add_zero] at h1 h2
    rw [h2, show w.1 - 1 = w.1 + -1 by omega, h1]; rfl
  · rw [be_h D (by omega) (by omega) (by omega) (by omega)]
    simp only [Int.add_zero] at h1 h2
    rw [show w.1 - 1 = w.1 + -1 by omega, show w.2.1 - 1 = w.2.1 + -1 by omega, h1, h2]; rfl
  · rw [be_v D (by omega) (by omega) (by omega) (by omega)]
    simp only [Int.add_zero] at h1 h2
    rw [show w.1 - 1 = w.1 + -1 by omega, show w.2.1 - 1 = w.2.1 + -1 by omega, h1, h2]; rfl
/-- an edge is walked one way only -/
theorem Val.uniq {D : Int64} {w v : WS} (a : Val D w) (b : Val D v) (e : eU w = eU v) : w = v := by
  have wb := a.b
  have vb := b.b
  obtain ⟨_, h1, h2⟩ := a
  obtain ⟨_, k1, k2⟩ := b
  obtain ⟨x, y, d⟩ := w
  obtain ⟨x', y', d'⟩ := v
  unfold Qd at h1 h2 k1 k2
  unfold eU eX eY at e
  simp only at wb vb h1 h2 k1 k2 e
  have hx : ∀ {p q p' q' : Int}, inD D p q = true → inD D p' q' = false → p = p' → q = q' → False := by
    intro p q p' q' u1 u2 u3 u4
    rw [u3, u4, u2] at u1
    cases u1
  rcases wb with ⟨e1, wb⟩ | ⟨e1, wb⟩ | ⟨e1, wb⟩ | ⟨e1, wb⟩ <;> rcases vb with ⟨e2, vb⟩ | ⟨e2, vb⟩ | ⟨e2, vb⟩ | ⟨e2, vb⟩ <;> subst e1 <;> subst e2 <;> simp at e <;> simp only [ax, ay] at h1 h2 k1 k2
  all_goals first
    | (have p1 : x = x' := by omega
       have p2 : y = y' := by omega
       rw [p1, p2]; done)
    | exact (hx h1 k2 (by omega) (by omega)).elim
    | (exfalso; omega)
