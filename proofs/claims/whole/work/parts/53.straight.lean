/-! A STRAIGHT STRETCH has at most 12 steps -/
def U1 (X Y : Nat → Int) (k : Nat) : Prop := (X (k + 1) = X k + 1 ∧ Y (k + 1) = Y k) ∨ (X (k + 1) = X k - 1 ∧ Y (k + 1) = Y k) ∨ (X (k + 1) = X k ∧ Y (k + 1) = Y k + 1) ∨ (X (k + 1) = X k ∧ Y (k + 1) = Y k - 1)
theorem U1.t {X Y : Nat → Int} {k : Nat} (h : U1 X Y k) : U1 Y X k := by unfold U1 at *; omega
theorem U1.x {X Y : Nat → Int} {k : Nat} (h : U1 X Y k) : U1 (fun k => - X k) Y k := by unfold U1 at *; simp only; omega
theorem U1.y {X Y : Nat → Int} {k : Nat} (h : U1 X Y k) : U1 X (fun k => - Y k) k := by unfold U1 at *; simp only; omega
theorem str_core {X Y : Nat → Int} {s : Nat} {a b : Int} (ha : 0 < a) (ha8 : a ≤ 8) (hb : 0 ≤ b) (hba : b ≤ a) (x0 : X 0 = 0) (y0 : Y 0 = 0) (xs : X s = a) (ys : Y s = b)
    (un : ∀ k, k < s → U1 X Y k) (nr : ∀ k, k + 1 < s → ¬ (X (k + 2) = X k ∧ Y (k + 2) = Y k))
    (st : ∀ k, k ≤ s → 2 * (a * Y k - b * X k) ≤ a ∧ -a ≤ 2 * (a * Y k - b * X k)) : s ≤ 12 := by
  obtain ⟨U, hU⟩ : ∃ U : Nat → Int, ∀ k, U k = a * Y k - b * X k := ⟨fun k => a * Y k - b * X k, fun _ => rfl⟩
  have st' : ∀ k, k ≤ s → 2 * U k ≤ a ∧ -a ≤ 2 * U k := fun k hk => by rw [hU]; exact st k hk
  have un' : ∀ k, k < s → (X (k + 1) = X k + 1 ∧ Y (k + 1) = Y k ∧ U (k + 1) = U k - b) ∨ (X (k + 1) = X k - 1 ∧ Y (k + 1) = Y k ∧ U (k + 1) = U k + b) ∨ (X (k + 1) = X k ∧ Y (k + 1) = Y k + 1 ∧ U (k + 1) = U k + a) ∨ (X (k + 1) = X k ∧ Y (k + 1) = Y k - 1 ∧ U (k + 1) = U k - a) := by
    intro k hk
    rcases un k hk with ⟨p, q⟩ | ⟨p, q⟩ | ⟨p, q⟩ | ⟨p, q⟩
    · exact Or.inl ⟨p, q, by rw [hU, hU, p, q, Int.mul_add, Int.mul_one]; omega⟩
    · exact Or.inr (Or.inl ⟨p, q, by rw [hU, hU, p, q, Int.mul_sub, Int.mul_one]; omega⟩)
    · exact Or.inr (Or.inr (Or.inl ⟨p, q, by rw [hU, hU, p, q, Int.mul_add, Int.mul_one]; omega⟩))
    · exact Or.inr (Or.inr (Or.inr ⟨p, q, by rw [hU, hU, p, q, Int.mul_sub, Int.mul_one]; omega⟩))
  have bz : b = 0 → ∀ k, k ≤ s → Y k = 0 := by
    intro e k hk
    have h := st k hk
    rw [e, Int.zero_mul, Int.sub_zero] at h
    rcases Int.lt_trichotomy (Y k) 0 with q | q | q
    · have := Int.mul_le_mul_of_nonneg_left (show Y k ≤ -1 by omega) (show 0 ≤ a by omega)
      rw [Int.mul_neg, Int.mul_one] at this
      omega
    · exact q
    · have := Int.mul_le_mul_of_nonneg_left (show 1 ≤ Y k by omega) (show 0 ≤ a by omega)
      rw [Int.mul_one] at this
      omega
  have u0 : U 0 = 0 := by rw [hU, x0, y0, Int.mul_zero, Int.mul_zero]; rfl
  cases s with
  | zero => omega
  | succ s =>
    have f0 := un' 0 (by omega)
    have f1 := st' 1 (by omega)
    rw [x0, y0, u0, show 0 + 1 = 1 from rfl] at f0
    rcases f0 with f0 | f0 | f0 | f0
    · -- to the right
      have I : ∀ k, k + 1 ≤ s + 1 → X (k + 1) + Y (k + 1) = k + 1 ∧ 1 ≤ X (k + 1) ∧ 0 ≤ Y (k + 1) ∧ ((X (k + 1) = X k + 1 ∧ Y (k + 1) = Y k ∧ 2 * U (k + 1) ≤ a - 2 * b) ∨ (X (k + 1) = X k ∧ Y (k + 1) = Y k + 1 ∧ 2 * U (k + 1) = a)) ∧ (Y (k + 1) = 0 ∨ 2 * b ≤ a) := by
        intro k
        induction k with
        | zero => intro _; rw [show 0 + 1 = 1 from rfl]; omega
        | succ k ih =>
          intro hk
          obtain ⟨i1, i2, i3, i4, i5⟩ := ih (by omega)
          have g := un' (k + 1) (by omega)
          have g1 := st' (k + 1) (by omega)
          have g2 := st' (k + 1 + 1) (by omega)
          have g3 := nr k (by omega)
          rw [show k + 2 = k + 1 + 1 from rfl] at g3
          have b0 := bz
          rcases g with g | g | g | g
          · omega
          · rcases i4 with i4 | i4
            · exact absurd ⟨by omega, by omega⟩ g3
            · have e : b = 0 := by omega
              have := bz e (k + 1) (by omega)
              have := bz e k (by omega)
              omega
          · rcases i4 with i4 | i4
            · have e2 : 2 * U (k + 1) = -a := by omega
              refine ⟨by omega, by omega, by omega, Or.inr ⟨g.1, g.2.1, by omega⟩, ?_⟩
              rcases i5 with i5 | i5
              · right
                have e := hU (k + 1)
                rw [i5, Int.mul_zero] at e
                have := Int.mul_le_mul_of_nonneg_left i2 hb
                rw [Int.mul_one] at this
                omega
              · exact Or.inr i5
            · omega
          · rcases i4 with i4 | i4
            · have e : b = 0 := by omega
              have := bz e (k + 1) (by omega)
              have := bz e (k + 1 + 1) (by omega)
              omega
            · exact absurd ⟨by omega, by omega⟩ g3
      obtain ⟨i1, i2, i3, i4, i5⟩ := I s (Nat.le_refl _)
      rw [xs, ys] at i1
      rw [ys] at i5
      omega
    · -- to the left
      have I : ∀ k, k + 1 ≤ s + 1 → X (k + 1) ≤ -1 ∧ ((X (k + 1) = X k - 1 ∧ Y (k + 1) = Y k ∧ 2 * b - a ≤ 2 * U (k + 1)) ∨ (X (k + 1) = X k ∧ Y (k + 1) = Y k - 1 ∧ 2 * U (k + 1) = -a)) := by
        intro k
        induction k with
        | zero => intro _; rw [show 0 + 1 = 1 from rfl]; omega
        | succ k ih =>
          intro hk
          obtain ⟨i2, i4⟩ := ih (by omega)
          have g := un' (k + 1) (by omega)
          have g1 := st' (k + 1) (by omega)
          have g2 := st' (k + 1 + 1) (by omega)
          have g3 := nr k (by omega)
          rw [show k + 2 = k + 1 + 1 from rfl] at g3
          rcases g with g | g | g | g
          · rcases i4 with i4 | i4
            · exact absurd ⟨by omega, by omega⟩ g3
            · have e : b = 0 := by omega
              have := bz e (k + 1) (by omega)
              have := bz e k (by omega)
              omega
          · omega
          · rcases i4 with i4 | i4
            · have e : b = 0 := by omega
              have := bz e (k + 1) (by omega)
              have := bz e (k + 1 + 1) (by omega)
              omega
            · exact absurd ⟨by omega, by omega⟩ g3
          · rcases i4 with i4 | i4
            · exact ⟨by omega, Or.inr ⟨g.1, g.2.1, by omega⟩⟩
            · omega
      have := (I s (Nat.le_refl _)).1
      omega
    · omega
    · omega
theorem str_cx {X Y : Nat → Int} {s : Nat} {a b : Int} (ha : a ≠ 0) (ha8 : -8 ≤ a ∧ a ≤ 8) (hba : -b ≤ a.natAbs ∧ b ≤ a.natAbs) (x0 : X 0 = 0) (y0 : Y 0 = 0) (xs : X s = a) (ys : Y s = b)
    (un : ∀ k, k < s → U1 X Y k) (nr : ∀ k, k + 1 < s → ¬ (X (k + 2) = X k ∧ Y (k + 2) = Y k))
    (st : ∀ k, k ≤ s → 2 * (a * Y k - b * X k).natAbs ≤ a.natAbs) : s ≤ 12 := by
  rcases (show 0 < a ∨ a < 0 by omega) with pa | pa <;> rcases (show 0 ≤ b ∨ b < 0 by omega) with pb | pb
  · refine str_core (X := X) (Y := Y) (a := a) (b := b) (by omega) (by omega) (by omega) (by omega) x0 y0 xs ys un nr (fun k hk => ?_)
    have := st k hk
    omega
  · refine str_core (X := X) (Y := fun k => - Y k) (a := a) (b := -b) (by omega) (by omega) (by omega) (by omega) x0 (by simp [y0]) xs (by simp [ys]) (fun k hk => (un k hk).y) (fun k hk q => nr k hk ⟨q.1, by omega⟩) (fun k hk => ?_)
    have := st k hk
    simp only [Int.mul_neg, Int.neg_mul]
    omega
  · refine str_core (X := fun k => - X k) (Y := Y) (a := -a) (b := b) (by omega) (by omega) (by omega) (by omega) (by simp [x0]) y0 (by simp [xs]) ys (fun k hk => (un k hk).x) (fun k hk q => nr k hk ⟨by omega, q.2⟩) (fun k hk => ?_)
    have := st k hk
    simp only [Int.mul_neg, Int.neg_mul]
    omega
  · refine str_core (X := fun k => - X k) (Y := fun k => - Y k) (a := -a) (b := -b) (by omega) (by omega) (by omega) (by omega) (by simp [x0]) (by simp [y0]) (by simp [xs]) (by simp [ys]) (fun k hk => (un k hk).x.y) (fun k hk q => nr k hk ⟨by omega, by omega⟩) (fun k hk => ?_)
    have := st k hk
    simp only [Int.mul_neg, Int.neg_mul]
    omega
theorem sq_all {c : Nat → Nat} {g : Nat} : ∀ {s a : Nat}, sq c g s = some a → ∀ k, 1 ≤ k → k < s → 2 * c k ≤ g
  | 0, _, _, k, _, h2 => absurd h2 (Nat.not_lt_zero k)
  | s + 1, a, h, k, h1, h2 => by
    have h' : (if s = 0 then some 0 else (sq c g s).bind (fun a => if g < 2 * c s then none else some (a + c s * c s))) = some a := h
    rw [if_neg (by omega)] at h'
    cases hs : sq c g s with
    | none => rw [hs] at h'; cases h'
    | some b =>
      rw [hs, Option.bind_some] at h'
      by_cases hc : g < 2 * c s
      · rw [if_pos hc] at h'; cases h'
      · by_cases e : k = s
        · rw [e]; omega
        · exact sq_all hs k h1 (by omega)
/-- no step goes back -/
theorem nx_nr (J : Bool) (D : Int64) {w : WS} (h : w.2.2 < 4) : ¬ (sx w.2.2 + sx (nx J D w).2.2 = 0 ∧ sy w.2.2 + sy (nx J D w).2.2 = 0) := by
  rw [nx_Q]
  simp only
  generalize Qd _ _ _ _ = p
  generalize Qd _ _ _ _ = q
  generalize w.2.2 = d at *
  revert h d
  revert J p q
  have : ∀ (J p q : Bool) (d : Fin 4), ¬ (sx d.val + sx (trn J p q d.val) = 0 ∧ sy d.val + sy (trn J p q d.val) = 0) := by decide
  intro J p q d h
  exact this J p q ⟨d, h⟩
section
variable {J : Bool} {D : Int64} {t : Nat}
theorem bd_mod (ht : t < 64) (hb : isB J D t = true) (k : Nat) : wk J (sR J D t) t (k % sP J D t) = wk J (sR J D t) t k := by
  have e : ∀ m r, wk J (sR J D t) t (r + sP J D t * m) = wk J (sR J D t) t r := by
    intro m
    induction m with
    | zero => intro r; rw [Nat.mul_zero, Nat.add_zero]
    | succ m ih => intro r; rw [Nat.mul_succ, ← Nat.add_assoc, bd_per ht hb, ih]
  have := e (k / sP J D t) (k % sP J D t)
  rw [Nat.mod_add_div] at this
  exact this.symm
theorem bd_dx (ht : t < 64) (hb : isB J D t = true) (i s : Nat) : dxA (bX J D t) (sP J D t) i s = bX J D t (i + s) - bX J D t i ∧ dxA (bY J D t) (sP J D t) i s = bY J D t (i + s) - bY J D t i := by
  unfold dxA
  simp only [bX, bY, bd_mod ht hb]
  exact ⟨trivial, trivial⟩
theorem off_12 (ht : t < 64) (hb : isB J D t = true) {i s : Nat} (hs : 12 < s) : off (bX J D t) (bY J D t) (sP J D t) i s = none := by
  cases h : off (bX J D t) (bY J D t) (sP J D t) i s with
  | none => rfl
  | some a =>
    exfalso
    unfold off at h
    by_cases hg : gA (bX J D t) (bY J D t) (sP J D t) i s = 0
    · rw [if_pos hg] at h; cases h
    · rw [if_neg hg] at h
      have hq := sq_all h
      have S := ((Gd_all J D).2 t ht hb).2.1
      have db := dx_b S (sP J D t) i s
      have un : ∀ k, U1 (fun k => bX J D t (i + k) - bX J D t i) (fun k => bY J D t (i + k) - bY J D t i) k := by
        intro k
        have hd := (bd_Val ht hb (i + k)).1
        have x1 : bX J D t (i + (k + 1)) = bX J D t (i + k) + sx (wk J (sR J D t) t (i + k)).2.2 := rfl
        have y1 : bY J D t (i + (k + 1)) = bY J D t (i + k) + sy (wk J (sR J D t) t (i + k)).2.2 := rfl
        unfold U1
        simp only [x1, y1]
        generalize (wk J (sR J D t) t (i + k)).2.2 = d at *
        rcases (show d = 0 ∨ d = 1 ∨ d = 2 ∨ d = 3 by omega) with rfl | rfl | rfl | rfl <;> simp only [sx, sy] <;> omega
      have nr : ∀ k, ¬ (bX J D t (i + (k + 2)) - bX J D t i = bX J D t (i + k) - bX J D t i ∧ bY J D t (i + (k + 2)) - bY J D t i = bY J D t (i + k) - bY J D t i) := by
        intro k q
        have x1 : bX J D t (i + (k + 2)) = bX J D t (i + k) + sx (wk J (sR J D t) t (i + k)).2.2 + sx (nx J (sR J D t) (wk J (sR J D t) t (i + k))).2.2 := rfl
        have y1 : bY J D t (i + (k + 2)) = bY J D t (i + k) + sy (wk J (sR J D t) t (i + k)).2.2 + sy (nx J (sR J D t) (wk J (sR J D t) t (i + k))).2.2 := rfl
        exact nx_nr J (sR J D t) (bd_Val ht hb (i + k)).1 ⟨by omega, by omega⟩
      have dx := bd_dx ht hb i s
      have stk : ∀ k, k ≤ s → 2 * (dxA (bX J D t) (sP J D t) i s * dxA (bY J D t) (sP J D t) i k - dxA (bY J D t) (sP J D t) i s * dxA (bX J D t) (sP J D t) i k).natAbs ≤ gA (bX J D t) (bY J D t) (sP J D t) i s := by
        intro k hk
        rcases Nat.eq_zero_or_pos k with e | e
        · rw [(bd_dx ht hb i k).1, (bd_dx ht hb i k).2, e, Nat.add_zero, Int.sub_self, Int.sub_self, Int.mul_zero, Int.mul_zero]
          exact Nat.zero_le _
        · rcases Nat.lt_or_ge k s with e2 | e2
          · exact hq k e e2
          · rw [show k = s by omega, Int.mul_comm (dxA (bY J D t) _ _ _), Int.sub_self]
            exact Nat.zero_le _
      have dk := fun k => bd_dx ht hb i k
      rcases Nat.le_total (dxA (bY J D t) (sP J D t) i s).natAbs (dxA (bX J D t) (sP J D t) i s).natAbs with le | le
      · have eg : gA (bX J D t) (bY J D t) (sP J D t) i s = (dxA (bX J D t) (sP J D t) i s).natAbs := Nat.max_eq_left le
        rw [eg] at stk hg
        have := str_cx (X := fun k => bX J D t (i + k) - bX J D t i) (Y := fun k => bY J D t (i + k) - bY J D t i) (s := s) (a := dxA (bX J D t) (sP J D t) i s) (b := dxA (bY J D t) (sP J D t) i s) (by omega) (by omega) (by omega) (by simp) (by simp) dx.1.symm dx.2.symm (fun k _ => un k) (fun k _ => nr k) (fun k hk => by
          have := stk k hk
          rw [(dk k).1, (dk k).2] at this
          exact this)
        omega
      · have eg : gA (bX J D t) (bY J D t) (sP J D t) i s = (dxA (bY J D t) (sP J D t) i s).natAbs := Nat.max_eq_right le
        rw [eg] at stk hg
        have := str_cx (X := fun k => bY J D t (i + k) - bY J D t i) (Y := fun k => bX J D t (i + k) - bX J D t i) (s := s) (a := dxA (bY J D t) (sP J D t) i s) (b := dxA (bX J D t) (sP J D t) i s) (by omega) (by omega) (by omega) (by simp) (by simp) dx.2.symm dx.1.symm (fun k _ => (un k).t) (fun k _ q => nr k ⟨q.2, q.1⟩) (fun k hk => by
          have := stk k hk
          rw [(dk k).1, (dk k).2] at this
          omega)
        omega
end
