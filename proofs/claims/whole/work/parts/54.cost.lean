/-! COSTS: the least cost of going some steps on, wherever one begins -/
def CO (E : Nat → Nat → Option Nat) (lg : Nat → Nat) (P : Nat) : Prop := 2 ≤ P ∧ P ≤ 144 ∧ EOk E lg ∧ (∀ p s, E (p + P) s = E p s) ∧ (∀ p, lg (p + P) = lg p) ∧ (∀ p, lg p ≤ 12 ∧ lg p < P) ∧ (∀ p s e, 1 ≤ s → s < P → E p s = some e → s ≤ lg p) ∧ ∀ p s e, E p s = some e → e ≤ 16 * s
def dd (E : Nat → Nat → Option Nat) (lg : Nat → Nat) (p r : Nat) : Nat := gc 100000 E lg p r r
theorem gc_dd (K : Nat) (E : Nat → Nat → Option Nat) (lg : Nat → Nat) : ∀ (m i P r : Nat), r ≤ m → r ≤ P → gc K E lg i P r = gc K E lg (i + (P - r)) r r := by
  intro m
  induction m with
  | zero =>
    intro i P r h _
    have e : r = 0 := by omega
    subst e; rfl
  | succ m ih =>
    intro i P r h hP
    cases r with
    | zero => rfl
    | succ r =>
      rw [gc_s, gc_s]
      have e0 : i + (P - (r + 1)) + (r + 1 - (r + 1)) = i + (P - (r + 1)) := by omega
      rw [e0]
      apply mnL_cong
      intro k h1 h2
      unfold gS
      rw [e0, ih i P (r + 1 - k) (by omega) (by omega), ih (i + (P - (r + 1))) (r + 1) (r + 1 - k) (by omega) (by omega)]
      rw [show i + (P - (r + 1 - k)) = i + (P - (r + 1)) + (r + 1 - (r + 1 - k)) by omega]
section
variable {E : Nat → Nat → Option Nat} {lg : Nat → Nat} {P : Nat}
theorem cK_dd {i r : Nat} (h : r ≤ P) : gc 100000 E lg i P r = dd E lg (i + (P - r)) r := gc_dd _ _ _ r i P r (Nat.le_refl _) h
theorem dd_0 (p : Nat) : dd E lg p 0 = 0 := rfl
theorem dd_le {p r s e : Nat} (h1 : 1 ≤ s) (h2 : s ≤ r) (h3 : s ≤ lg p) (h4 : E p s = some e) : dd E lg p r ≤ 100000 + e + dd E lg (p + s) (r - s) := by
  cases r with
  | zero => omega
  | succ r =>
    unfold dd
    rw [gc_s, show p + (r + 1 - (r + 1)) = p by omega]
    refine mnL_le h1 (show s ≤ min (lg p) (r + 1) by omega) ?_
    unfold gS
    rw [show p + (r + 1 - (r + 1)) = p by omega, h4, gc_dd 100000 E lg (r + 1) p (r + 1) (r + 1 - s) (by omega) (by omega), show p + (r + 1 - (r + 1 - s)) = p + s by omega]
    rfl
theorem dd_b (ok : EOk E lg) (p r : Nat) : dd E lg p r ≤ r * 100000 := gc_b ok p r r
theorem dd_ex (ok : EOk E lg) {p r : Nat} (hr : 1 ≤ r) (hr2 : r ≤ 1000) : ∃ s e, 1 ≤ s ∧ s ≤ r ∧ s ≤ lg p ∧ E p s = some e ∧ dd E lg p r = 100000 + e + dd E lg (p + s) (r - s) := by
  cases r with
  | zero => omega
  | succ r =>
    have hb := dd_b ok p (r + 1)
    unfold dd at hb
    unfold dd
    rw [gc_s, show p + (r + 1 - (r + 1)) = p by omega] at hb ⊢
    obtain ⟨k, k1, k2, k3⟩ := mnL_ex (f := gS 100000 E lg p (r + 1) (r + 1)) (s := min (lg p) (r + 1)) (by omega)
    generalize mnL (gS 100000 E lg p (r + 1) (r + 1)) (min (lg p) (r + 1)) = v at k3 ⊢
    have k4 := k3
    unfold gS at k4
    rw [show p + (r + 1 - (r + 1)) = p by omega] at k4
    cases he : E p k with
    | none => rw [he] at k4; cases k4
    | some e =>
      rw [he] at k4
      have k5 := Option.some.inj k4
      refine ⟨k, e, k1, by omega, by omega, he, ?_⟩
      rw [← k5, gc_dd 100000 E lg (r + 1) p (r + 1) (r + 1 - k) (by omega) (by omega), show p + (r + 1 - (r + 1 - k)) = p + k by omega]
theorem dd_per (C : CO E lg P) : ∀ (m p r : Nat), r ≤ m → r ≤ 1000 → dd E lg (p + P) r = dd E lg p r := by
  obtain ⟨_, _, ok, pe, pl, _, _, _⟩ := C
  have key : ∀ (m p r : Nat), r ≤ m → r ≤ 1000 → dd E lg (p + P) r ≤ dd E lg p r ∧ dd E lg p r ≤ dd E lg (p + P) r := by
    intro m
    induction m with
    | zero =>
      intro p r h _
      have e : r = 0 := by omega
      subst e; exact ⟨Nat.le_refl _, Nat.le_refl _⟩
    | succ m ih =>
      intro p r h h2
      rcases Nat.eq_zero_or_pos r with e | e
      · subst e; exact ⟨Nat.le_refl _, Nat.le_refl _⟩
      · constructor
        · obtain ⟨s, x, s1, s2, s3, s4, s5⟩ := dd_ex ok (p := p) (r := r) e h2
          have l := dd_le (E := E) (lg := lg) (p := p + P) (r := r) s1 s2 (by rw [pl]; exact s3) (by rw [pe]; exact s4)
          have := (ih (p + s) (r - s) (by omega) (by omega)).1
          rw [show p + P + s = p + s + P by omega] at l
          omega
        · obtain ⟨s, x, s1, s2, s3, s4, s5⟩ := dd_ex ok (p := p + P) (r := r) e h2
          have l := dd_le (E := E) (lg := lg) (p := p) (r := r) s1 s2 (by rw [← pl]; exact s3) (by rw [← pe]; exact s4)
          have := (ih (p + s) (r - s) (by omega) (by omega)).2
          rw [show p + P + s = p + s + P by omega] at s5
          omega
  intro m p r h1 h2
  have := key m p r h1 h2
  omega
theorem dd_tri (ok : EOk E lg) : ∀ (m p a b : Nat), a ≤ m → a ≤ 1000 → dd E lg p (a + b) ≤ dd E lg p a + dd E lg (p + a) b := by
  intro m
  induction m with
  | zero =>
    intro p a b h _
    have e : a = 0 := by omega
    subst e
    rw [dd_0, Nat.zero_add, Nat.zero_add, Nat.add_zero]
    exact Nat.le_refl _
  | succ m ih =>
    intro p a b h h2
    rcases Nat.eq_zero_or_pos a with e | e
    · subst e
      rw [dd_0, Nat.zero_add, Nat.zero_add, Nat.add_zero]
      exact Nat.le_refl _
    · obtain ⟨s, x, s1, s2, s3, s4, s5⟩ := dd_ex ok (p := p) (r := a) e h2
      have l := dd_le (E := E) (lg := lg) (p := p) (r := a + b) s1 (by omega) s3 s4
      have := ih (p + s) (a - s) b (by omega) (by omega)
      rw [show a - s + b = a + b - s by omega, show p + s + (a - s) = p + a by omega] at this
      omega
/-- the OFF of a least way is small -/
theorem dd_small (C : CO E lg P) : ∀ (m p r : Nat), r ≤ m → r ≤ 144 → dd E lg p r % 100000 ≤ 16 * r := by
  obtain ⟨_, _, ok, _, _, _, _, e16⟩ := C
  intro m
  induction m with
  | zero =>
    intro p r h _
    have e : r = 0 := by omega
    subst e; exact Nat.le_refl _
  | succ m ih =>
    intro p r h h2
    rcases Nat.eq_zero_or_pos r with e | e
    · subst e; exact Nat.le_refl _
    · obtain ⟨s, x, s1, s2, s3, s4, s5⟩ := dd_ex ok (p := p) (r := r) e (by omega)
      have := ih (p + s) (r - s) (by omega) (by omega)
      have := e16 p s x s4
      omega
/-- the same cost, a vertex for 1000000 -/
def phi (c : Nat) : Nat := 1000000 * (c / 100000) + c % 100000
theorem phi_add {e c : Nat} (h : e + c % 100000 < 100000) : phi (100000 + e + c) = 1000000 + e + phi c := by unfold phi; omega
theorem phi_le {a b : Nat} : phi a ≤ phi b ↔ a ≤ b := by unfold phi; omega
theorem phi_lt {a b : Nat} : phi a < phi b ↔ a < b := by unfold phi; omega
theorem phi_b (ok : EOk E lg) {p r : Nat} (h : r ≤ 144) : phi (dd E lg p r) < 1000000000 := by
  have := dd_b ok p r
  unfold phi
  omega
theorem phi_step (C : CO E lg P) {p s r e : Nat} (hs : s ≤ r) (hr : r ≤ 144) (h : E p s = some e) : phi (100000 + e + dd E lg (p + s) (r - s)) = 1000000 + e + phi (dd E lg (p + s) (r - s)) := by
  have := C.2.2.2.2.2.2.2 p s e h
  have := dd_small C (r - s) (p + s) (r - s) (Nat.le_refl _) (by omega)
  exact phi_add (by omega)
/-! the model's table -/
def mStr (e : Option Nat) (rest : Nat) : Nat := match e with
  | none => 1000000000
  | some e => if 1000000000 ≤ rest then 1000000000 else 1000000 + e + rest
def hN (E : Nat → Nat → Option Nat) (i P : Nat) (f : Nat → Nat) (j : Nat) : Nat → Nat
  | 0 => if i + P - j < P then mStr (E j (i + P - j)) 0 else 1000000000
  | m + 1 => min (hN E i P f j m) (mStr (E j (m + 1)) (f (j + (m + 1))))
def hT (E : Nat → Nat → Option Nat) (i P : Nat) : Nat → Nat → Nat
  | 0 => fun _ => 0
  | m + 1 => fun j => if j = P - (m + 1) then hN E i P (hT E i P m) j m else hT E i P m j
def hv (E : Nat → Nat → Option Nat) (i P j : Nat) : Nat := hT E i P (P - j) j
theorem hT_st (i : Nat) : ∀ (m j : Nat), P - j ≤ m → j < P → m ≤ P → hT E i P m j = hv E i P j := by
  intro m
  induction m with
  | zero => intro j h1 h2; omega
  | succ m ih =>
    intro j h1 h2 h3
    by_cases e : j = P - (m + 1)
    · unfold hv
      rw [show P - j = m + 1 by omega]
    · have e2 : hT E i P (m + 1) j = hT E i P m j := by
        show (if j = P - (m + 1) then _ else _) = _
        rw [if_neg e]
      rw [e2]
      exact ih j (by omega) h2 (by omega)
theorem hN_cg {i : Nat} {f g : Nat → Nat} {j : Nat} : ∀ {m : Nat}, (∀ k, j < k → k ≤ j + m → f k = g k) → hN E i P f j m = hN E i P g j m
  | 0, _ => rfl
  | m + 1, h => by
    simp only [hN]
    rw [hN_cg (fun k h1 h2 => h k h1 (by omega)), h (j + (m + 1)) (by omega) (by omega)]
theorem hv_eq {i j : Nat} (hj : j < P) : hv E i P j = hN E i P (hv E i P) j (P - 1 - j) := by
  have e : hv E i P j = hT E i P (P - 1 - j + 1) j := by unfold hv; rw [show P - j = P - 1 - j + 1 by omega]
  rw [e]
  show (if j = P - (P - 1 - j + 1) then _ else _) = _
  rw [if_pos (by omega)]
  exact hN_cg (fun k h1 h2 => hT_st i _ k (by omega) (by omega) (by omega))
theorem hN_le0 (i : Nat) (f : Nat → Nat) (j : Nat) : ∀ m, hN E i P f j m ≤ if i + P - j < P then mStr (E j (i + P - j)) 0 else 1000000000
  | 0 => Nat.le_refl _
  | m + 1 => by
    have := hN_le0 i f j m
    simp only [hN]
    omega
theorem hN_le {i : Nat} {f : Nat → Nat} {j s : Nat} (h1 : 1 ≤ s) : ∀ {m : Nat}, s ≤ m → hN E i P f j m ≤ mStr (E j s) (f (j + s))
  | 0, h => by omega
  | m + 1, h => by
    simp only [hN]
    by_cases e : s = m + 1
    · subst e; omega
    · have := hN_le (i := i) (f := f) (j := j) h1 (m := m) (by omega)
      omega
theorem hN_ge {i : Nat} {f : Nat → Nat} {j B : Nat} (h0 : B ≤ if i + P - j < P then mStr (E j (i + P - j)) 0 else 1000000000) : ∀ {m : Nat}, (∀ s, 1 ≤ s → s ≤ m → B ≤ mStr (E j s) (f (j + s))) → B ≤ hN E i P f j m
  | 0, _ => h0
  | m + 1, h => by
    have := hN_ge (f := f) h0 (m := m) (fun s h1 h2 => h s h1 (by omega))
    have := h (m + 1) (by omega) (by omega)
    simp only [hN]
    omega
/-- the model's costs are no lower -/
theorem hv_ge (C : CO E lg P) {i : Nat} (hi : i < P) : ∀ (m j : Nat), P - j ≤ m → i ≤ j → j < P → phi (dd E lg j (i + P - j)) ≤ hv E i P j := by
  obtain ⟨c1, c2, ok, pe, pl, c6, c7, c8⟩ := id C
  intro m
  induction m with
  | zero => intro j h1 h2 h3; omega
  | succ m ih =>
    intro j h1 h2 h3
    rw [hv_eq h3]
    have big := phi_b ok (p := j) (r := i + P - j) (by omega)
    refine hN_ge ?_ (fun s s1 s2 => ?_)
    · split
      · cases he : E j (i + P - j) with
        | none => simp only [mStr]; omega
        | some e =>
          simp only [mStr]
          have l := dd_le (E := E) (lg := lg) (p := j) (r := i + P - j) (s := i + P - j) (by omega) (Nat.le_refl _) (c7 _ _ _ (by omega) (by omega) he) he
          have q := phi_step C (p := j) (s := i + P - j) (r := i + P - j) (Nat.le_refl _) (by omega) he
          rw [Nat.sub_self, dd_0] at l q
          have := phi_le.mpr l
          rw [q] at this
          rw [if_neg (by omega)]
          exact this
      · omega
    · cases he : E j s with
      | none => simp only [mStr]; omega
      | some e =>
        simp only [mStr]
        split
        · omega
        · have l := dd_le (E := E) (lg := lg) (p := j) (r := i + P - j) (s := s) s1 (by omega) (c7 _ _ _ (by omega) (by omega) he) he
          have q := phi_step C (p := j) (s := s) (r := i + P - j) (by omega) (by omega) he
          have := phi_le.mpr l
          rw [q] at this
          have := ih (j + s) (by omega) (by omega) (by omega)
          rw [show i + P - (j + s) = i + P - j - s by omega] at this
          omega
/-- a corner a steps on is one of a polygon of least cost -/
def On (E : Nat → Nat → Option Nat) (lg : Nat → Nat) (P i a : Nat) : Prop := dd E lg i a + dd E lg (i + a) (P - a) = dd E lg i P
theorem On_0 (i : Nat) : On E lg P i 0 := by unfold On; rw [dd_0, Nat.zero_add, Nat.add_zero, Nat.sub_zero]
theorem On_step (C : CO E lg P) {i a s e : Nat} (h : On E lg P i a) (s1 : 1 ≤ s) (hs : a + s ≤ P) (s3 : s ≤ lg (i + a)) (s4 : E (i + a) s = some e) (s5 : dd E lg (i + a) (P - a) = 100000 + e + dd E lg (i + a + s) (P - a - s)) : On E lg P i (a + s) := by
  obtain ⟨c1, c2, ok, pe, pl, c6, c7, c8⟩ := id C
  unfold On at *
  have t1 := dd_tri ok a i a s (Nat.le_refl _) (by omega)
  have t2 := dd_le (E := E) (lg := lg) (p := i + a) (r := s) s1 (Nat.le_refl _) s3 s4
  rw [Nat.sub_self, dd_0] at t2
  have t3 := dd_tri ok (a + s) i (a + s) (P - (a + s)) (Nat.le_refl _) (by omega)
  rw [show a + s + (P - (a + s)) = P by omega, show i + (a + s) = i + a + s by omega, show P - (a + s) = P - a - s by omega] at t3
  rw [show i + (a + s) = i + a + s by omega, show P - (a + s) = P - a - s by omega]
  omega
/-- a polygon may be begun at any of its vertices -/
theorem On_rot (C : CO E lg P) {i a : Nat} (hi : i < P) (h : On E lg P i a) (h1 : P ≤ i + a) (h2 : a < P) : dd E lg (i + a - P) P ≤ dd E lg i P := by
  obtain ⟨c1, c2, ok, pe, pl, c6, c7, c8⟩ := id C
  unfold On at h
  have t := dd_tri ok (P - a) (i + a - P) (P - a) a (Nat.le_refl _) (by omega)
  rw [show P - a + a = P by omega, show i + a - P + (P - a) = i by omega] at t
  have p := dd_per C (P - a) (i + a - P) (P - a) (Nat.le_refl _) (by omega)
  rw [show i + a - P + P = i + a by omega] at p
  omega
/-- where no earlier corner gives so little, the model's costs are those -/
theorem hv_on (C : CO E lg P) {i : Nat} (hi : i < P) (hm : ∀ k, k < i → dd E lg i P < dd E lg k P) : ∀ (m j : Nat), P - j ≤ m → i ≤ j → j < P → On E lg P i (j - i) → hv E i P j = phi (dd E lg j (i + P - j)) := by
  obtain ⟨c1, c2, ok, pe, pl, c6, c7, c8⟩ := id C
  intro m
  induction m with
  | zero => intro j h1 h2 h3; omega
  | succ m ih =>
    intro j h1 h2 h3 hon
    have ge := hv_ge C hi (P - j) j (Nat.le_refl _) h2 h3
    obtain ⟨s, e, s1, s2, s3, s4, s5⟩ := dd_ex ok (p := j) (r := i + P - j) (by omega) (by omega)
    have hn : On E lg P i (j - i + s) := On_step C hon s1 (by omega) (by rw [show i + (j - i) = j by omega]; exact s3) (by rw [show i + (j - i) = j by omega]; exact s4) (by rw [show i + (j - i) = j by omega, show P - (j - i) = i + P - j by omega]; exact s5)
    have hsP := (c6 j).2
    have q := phi_step C (p := j) (s := s) (r := i + P - j) (by omega) (by omega) s4
    rw [← s5] at q
    rcases Nat.lt_or_ge (j + s) P with c | c
    · have ihs := ih (j + s) (by omega) (by omega) c (by rw [show j + s - i = j - i + s by omega]; exact hn)
      have l := hN_le (E := E) (i := i) (P := P) (f := hv E i P) (j := j) s1 (m := P - 1 - j) (by omega)
      rw [← hv_eq h3, s4, ihs] at l
      have big := phi_b ok (p := j + s) (r := i + P - (j + s)) (by omega)
      simp only [mStr] at l
      rw [if_neg (by omega)] at l
      rw [show i + P - (j + s) = i + P - j - s by omega] at l
      omega
    · rcases Nat.lt_or_ge s (i + P - j) with d | d
      · exfalso
        have := On_rot C hi hn (by omega) (by omega)
        have := hm (i + (j - i + s) - P) (by omega)
        omega
      · have es : s = i + P - j := by omega
        have l := hN_le0 (E := E) (P := P) i (hv E i P) j (P - 1 - j)
        rw [← hv_eq h3, if_pos (by omega), ← es, s4] at l
        simp only [mStr] at l
        rw [if_neg (by omega)] at l
        rw [es, Nat.sub_self, dd_0] at q
        have : phi 0 = 0 := rfl
        omega
end
