/-! WHAT HOLDS OF EVERY BORDER'S STRETCHES -/
theorem lgD_max {p : Nat → Bool} {s : Nat} (h2 : 2 ≤ s) (hp : p s = true) : ∀ {n : Nat}, s ≤ n → s ≤ lgD p n
  | 0, h => by omega
  | n + 1, h => by
    have e : lgD p (n + 1) = if n = 0 then 1 else if p (n + 1) then n + 1 else lgD p n := rfl
    rw [e, if_neg (by omega)]
    by_cases q : s = n + 1
    · rw [← q, hp, if_pos rfl]; exact Nat.le_refl _
    · have := lgD_max h2 hp (n := n) (by omega)
      split <;> omega
theorem lgD_yes {p : Nat → Bool} (h1 : p 1 = true) : ∀ n, p (lgD p n) = true
  | 0 => h1
  | n + 1 => by
    have e : lgD p (n + 1) = if n = 0 then 1 else if p (n + 1) then n + 1 else lgD p n := rfl
    rw [e]
    split
    · exact h1
    · split
      · rename_i q; exact q
      · exact lgD_yes h1 n
theorem sq_16 {c : Nat → Nat} {g : Nat} (hg : g ≤ 8) : ∀ {k a : Nat}, sq c g k = some a → a ≤ 16 * k
  | 0, a, h => by cases h; exact Nat.zero_le _
  | k + 1, a, h => by
    have h' : (if k = 0 then some 0 else (sq c g k).bind (fun a => if g < 2 * c k then none else some (a + c k * c k))) = some a := h
    by_cases e : k = 0
    · rw [if_pos e] at h'; cases h'; exact Nat.zero_le _
    · rw [if_neg e] at h'
      cases hs : sq c g k with
      | none => rw [hs] at h'; cases h'
      | some b =>
        rw [hs, Option.bind_some] at h'
        by_cases hc : g < 2 * c k
        · rw [if_pos hc] at h'; cases h'
        · rw [if_neg hc] at h'
          cases h'
          have ih := sq_16 hg hs
          have hk : c k ≤ 4 := by omega
          have := Nat.mul_le_mul hk hk
          omega
theorem off_16 {X Y : Nat → Int} (S : Sh X Y) {P i s e : Nat} (h : off X Y P i s = some e) : e ≤ 16 * s := by
  unfold off at h
  split at h
  · cases h
  · exact sq_16 (gA_b S P i s) h
section
variable {J : Bool} {D : Int64} {t : Nat}
theorem bd_P (ht : t < 64) (hb : isB J D t = true) : 4 ≤ sP J D t ∧ sP J D t ≤ 144 ∧ sS J D t + sP J D t ≤ 144 := by
  have := (GoodD_all J D t ht hb).2
  exact ⟨bd_4 ht hb, by omega, this⟩
theorem bd_off1 (ht : t < 64) (hb : isB J D t = true) (i : Nat) : off (bX J D t) (bY J D t) (sP J D t) (i % sP J D t) 1 = some 0 := by
  unfold off
  rw [if_neg (((Gd_all J D).2 t ht hb).2.2 _ (Nat.mod_lt _ (by have := bd_P ht hb; omega)))]
  rfl
theorem bd_lg (ht : t < 64) (hb : isB J D t = true) (i : Nat) : 1 ≤ lgst (bX J D t) (bY J D t) (sP J D t) i ∧ lgst (bX J D t) (bY J D t) (sP J D t) i ≤ 12 ∧ lgst (bX J D t) (bY J D t) (sP J D t) i < sP J D t := by
  have := bd_P ht hb
  have := lgD_b (stq (bX J D t) (bY J D t) (sP J D t) i) (min (sP J D t - 1) 12)
  unfold lgst
  omega
theorem bd_lgm (ht : t < 64) (hb : isB J D t = true) {i s e : Nat} (h1 : 1 ≤ s) (h2 : s < sP J D t) (h : off (bX J D t) (bY J D t) (sP J D t) i s = some e) : s ≤ lgst (bX J D t) (bY J D t) (sP J D t) i := by
  rcases Nat.lt_or_ge 12 s with q | q
  · rw [off_12 ht hb q] at h; cases h
  · rcases (show s = 1 ∨ 2 ≤ s by omega) with c | c
    · rw [c]; exact (bd_lg ht hb i).1
    · unfold lgst
      exact lgD_max c (by unfold stq; rw [h]; rfl) (by omega)
theorem bd_CO (ht : t < 64) (hb : isB J D t = true) : CO (Ex (bX J D t) (bY J D t) (sP J D t)) (Lx (bX J D t) (bY J D t) (sP J D t)) (sP J D t) := by
  have p := bd_P ht hb
  refine ⟨by omega, by omega, Ex_ok (by omega) ((Gd_all J D).2 t ht hb).2.2, fun q s => ?_, fun q => ?_, fun q => (bd_lg ht hb _).2, fun q s e h1 h2 h => bd_lgm ht hb h1 h2 h, fun q s e h => off_16 ((Gd_all J D).2 t ht hb).2.1 h⟩
  · unfold Ex; rw [Nat.add_mod_right]
  · unfold Lx; rw [Nat.add_mod_right]
theorem bd_lgst (ht : t < 64) (hb : isB J D t = true) {i : Nat} (hi : i < sP J D t) : (off (bX J D t) (bY J D t) (sP J D t) i (lgst (bX J D t) (bY J D t) (sP J D t) i)).isSome = true ∧ ∀ s, lgst (bX J D t) (bY J D t) (sP J D t) i < s → s < sP J D t → off (bX J D t) (bY J D t) (sP J D t) i s = none := by
  constructor
  · refine lgD_yes (p := stq (bX J D t) (bY J D t) (sP J D t) i) ?_ _
    unfold stq
    have := bd_off1 ht hb i
    rw [Nat.mod_eq_of_lt hi] at this
    rw [this]; rfl
  · intro s h1 h2
    cases h : off (bX J D t) (bY J D t) (sP J D t) i s with
    | none => rfl
    | some e =>
      have := bd_lgm ht hb (by omega) h2 h
      omega
end
/-! the fewest vertices through a corner, as the model looks for them -/
section
variable {E : Nat → Nat → Option Nat} {lg : Nat → Nat} {P : Nat}
def fC (E : Nat → Nat → Option Nat) (lg : Nat → Nat) (P i j s : Nat) : Nat := match E (i + j) s with
  | none => 1000000000
  | some _ => dd E lg (i + (j + s)) (P - (j + s)) / 100000 + 1
def fN (E : Nat → Nat → Option Nat) (lg : Nat → Nat) (P i j : Nat) : Nat → Nat
  | 0 => if j = 0 then 1000000000 else match E (i + j) (P - j) with
    | none => 1000000000
    | some _ => 1
  | m + 1 => min (fN E lg P i j m) (fC E lg P i j (m + 1))
theorem fN_ge {i j B : Nat} (h0 : B ≤ fN E lg P i j 0) : ∀ {m : Nat}, (∀ s, 1 ≤ s → s ≤ m → B ≤ fC E lg P i j s) → B ≤ fN E lg P i j m
  | 0, _ => h0
  | m + 1, h => by
    have := fN_ge h0 (m := m) (fun s h1 h2 => h s h1 (by omega))
    have := h (m + 1) (by omega) (by omega)
    simp only [fN]
    omega
theorem fN_le0 (i j : Nat) : ∀ m, fN E lg P i j m ≤ fN E lg P i j 0
  | 0 => Nat.le_refl _
  | m + 1 => by
    have := fN_le0 i j m
    show min _ _ ≤ _
    omega
theorem fN_le {i j s : Nat} (h1 : 1 ≤ s) : ∀ {m : Nat}, s ≤ m → fN E lg P i j m ≤ fC E lg P i j s
  | 0, h => by omega
  | m + 1, h => by
    simp only [fN]
    by_cases e : s = m + 1
    · subst e; omega
    · have := fN_le (i := i) (j := j) h1 (m := m) (by omega)
      omega
theorem fN_end (C : CO E lg P) {i j : Nat} (hj : j < P) : fN E lg P i j (P - 1 - j) = dd E lg (i + j) (P - j) / 100000 := by
  obtain ⟨c1, c2, ok, pe, pl, c6, c7, c8⟩ := id C
  have ge : dd E lg (i + j) (P - j) / 100000 ≤ fN E lg P i j (P - 1 - j) := by
    have b := dd_b ok (i + j) (P - j)
    refine fN_ge ?_ (fun s s1 s2 => ?_)
    · simp only [fN]
      split
      · omega
      · cases he : E (i + j) (P - j) with
        | none => simp only; omega
        | some e =>
          simp only
          have l := dd_le (E := E) (lg := lg) (p := i + j) (r := P - j) (s := P - j) (by omega) (Nat.le_refl _) (c7 _ _ _ (by omega) (by omega) he) he
          rw [Nat.sub_self, dd_0] at l
          have := c8 _ _ _ he
          omega
    · unfold fC
      cases he : E (i + j) s with
      | none => simp only; omega
      | some e =>
        simp only
        have l := dd_le (E := E) (lg := lg) (p := i + j) (r := P - j) (s := s) s1 (by omega) (c7 _ _ _ (by omega) (by omega) he) he
        have := c8 _ _ _ he
        have := dd_small C (P - j - s) (i + j + s) (P - j - s) (Nat.le_refl _) (by omega)
        rw [show i + (j + s) = i + j + s by omega, show P - (j + s) = P - j - s by omega]
        omega
  have le : fN E lg P i j (P - 1 - j) ≤ dd E lg (i + j) (P - j) / 100000 := by
    obtain ⟨s, e, s1, s2, s3, s4, s5⟩ := dd_ex ok (p := i + j) (r := P - j) (by omega) (by omega)
    have h16 := c8 _ _ _ s4
    have hs := dd_small C (P - j - s) (i + j + s) (P - j - s) (Nat.le_refl _) (by omega)
    have hl := (c6 (i + j)).2
    rcases Nat.lt_or_ge s (P - j) with c | c
    · have := fN_le (E := E) (lg := lg) (P := P) (i := i) (j := j) s1 (m := P - 1 - j) (by omega)
      unfold fC at this
      rw [s4] at this
      simp only at this
      rw [show i + (j + s) = i + j + s by omega, show P - (j + s) = P - j - s by omega] at this
      omega
    · have es : s = P - j := by omega
      have := fN_le0 (E := E) (lg := lg) (P := P) i j (P - 1 - j)
      simp only [fN] at this
      rw [if_neg (by omega), ← es, s4] at this
      simp only at this
      rw [← es, Nat.sub_self, dd_0] at s5
      rw [← es, s5]
      omega
  omega
end
