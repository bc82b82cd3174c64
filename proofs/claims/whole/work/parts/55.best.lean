/-! THE BEST POLYGON of the class is the model's -/
section
variable {X Y : Nat → Int} {P : Nat}
abbrev dX (X Y : Nat → Int) (P p r : Nat) : Nat := dd (Ex X Y P) (Lx X Y P) p r
theorem cK_dX {i r : Nat} (h : r ≤ P) : cK X Y P i r = dX X Y P (i + (P - r)) r := cK_dd h
theorem cK_P (i : Nat) : cK X Y P i P = dX X Y P i P := by rw [cK_dX (Nat.le_refl _), Nat.sub_self, Nat.add_zero]
theorem skL_ok (C : CO (Ex X Y P) (Lx X Y P) P) : ∀ n, 1 ≤ n → (skL X Y P n).1 = dX X Y P (skL X Y P n).2 P ∧ (skL X Y P n).2 < n ∧ (∀ k, k < (skL X Y P n).2 → dX X Y P (skL X Y P n).2 P < dX X Y P k P) ∧ ∀ k, k < n → dX X Y P (skL X Y P n).2 P ≤ dX X Y P k P
  | 0, h => by omega
  | n + 1, _ => by
    have hb := dd_b C.2.2.1 n P
    have e : skL X Y P (n + 1) = if cK X Y P n P < (skL X Y P n).1 then (cK X Y P n P, n) else skL X Y P n := rfl
    rw [cK_P] at e
    rcases Nat.eq_zero_or_pos n with q | q
    · subst q
      have e0 : (skL X Y P 0).1 = 1000000000 := rfl
      rw [e0, if_pos (by have := C.2.1; unfold dX; omega)] at e
      rw [e]
      exact ⟨rfl, by simp, fun k hk => absurd hk (Nat.not_lt_zero k), fun k hk => by rw [show k = 0 by omega]; exact Nat.le_refl _⟩
    · obtain ⟨i1, i2, i3, i4⟩ := skL_ok C n q
      by_cases c : dX X Y P n P < (skL X Y P n).1
      · rw [if_pos c] at e
        rw [e]
        rw [i1] at c
        refine ⟨rfl, by simp, fun k hk => ?_, fun k hk => ?_⟩
        · have := i4 k hk
          simp only
          omega
        · rcases Nat.lt_or_ge k n with d | d
          · have := i4 k d
            simp only
            omega
          · rw [show k = n by omega]; exact Nat.le_refl _
      · rw [if_neg c] at e
        rw [e]
        refine ⟨i1, by omega, i3, fun k hk => ?_⟩
        rcases Nat.lt_or_ge k n with d | d
        · exact i4 k d
        · rw [show k = n by omega]; omega
/-- among the first 12 corners there is always one of the polygon -/
theorem win12 {E : Nat → Nat → Option Nat} {lg : Nat → Nat} (C : CO E lg P) {i : Nat} (hi : i < P) : ∀ (m a : Nat), P - a ≤ m → i + a < P → On E lg P i a → ∃ b, P ≤ i + b ∧ i + b < P + 12 ∧ On E lg P i b := by
  obtain ⟨c1, c2, ok, pe, pl, c6, c7, c8⟩ := id C
  intro m
  induction m with
  | zero => intro a h1 h2; omega
  | succ m ih =>
    intro a h1 h2 hon
    obtain ⟨s, e, s1, s2, s3, s4, s5⟩ := dd_ex ok (p := i + a) (r := P - a) (by omega) (by omega)
    have hn := On_step C hon s1 (by omega) s3 s4 s5
    have := c6 (i + a)
    rcases Nat.lt_or_ge (i + (a + s)) P with c | c
    · exact ih (a + s) (by omega) c hn
    · exact ⟨a + s, c, by omega, hn⟩
theorem win_12 {E : Nat → Nat → Option Nat} {lg : Nat → Nat} (C : CO E lg P) {i : Nat} (hi : i < P) (h12 : 12 ≤ i) : ∃ k, k < 12 ∧ dd E lg k P ≤ dd E lg i P := by
  obtain ⟨b, b1, b2, b3⟩ := win12 C hi P 0 (by omega) (by omega) (On_0 i)
  exact ⟨i + b - P, by omega, On_rot C hi b3 b1 (by omega)⟩
theorem vF_ok (C : CO (Ex X Y P) (Lx X Y P) P) : vF X Y P < P ∧ vF X Y P < 12 ∧ (∀ k, k < vF X Y P → dX X Y P (vF X Y P) P < dX X Y P k P) ∧ ∀ k, k < P → dX X Y P (vF X Y P) P ≤ dX X Y P k P := by
  have h2 := C.1
  obtain ⟨i1, i2, i3, i4⟩ := skL_ok C (min P 12) (by omega)
  refine ⟨by unfold vF; omega, by unfold vF; omega, i3, fun k hk => ?_⟩
  rcases Nat.lt_or_ge k 12 with c | c
  · exact i4 k (by omega)
  · obtain ⟨q, q1, q2⟩ := win_12 C hk c
    exact Nat.le_trans (i4 q (by omega)) q2
/-- the model's search -/
def mkL (E : Nat → Nat → Option Nat) (P : Nat) : Nat → Nat × Nat
  | 0 => (1000000000, 0)
  | i + 1 => if hv E i P i < (mkL E P i).1 then (hv E i P i, i) else mkL E P i
theorem hv_top (C : CO (Ex X Y P) (Lx X Y P) P) {i : Nat} (hi : i < P) : phi (dX X Y P i P) ≤ hv (Ex X Y P) i P i := by
  have := hv_ge C hi (P - i) i (Nat.le_refl _) (Nat.le_refl _) hi
  rw [show i + P - i = P by omega] at this
  exact this
theorem hv_vF (C : CO (Ex X Y P) (Lx X Y P) P) {j : Nat} (h1 : vF X Y P ≤ j) (h2 : j < P) (h3 : On (Ex X Y P) (Lx X Y P) P (vF X Y P) (j - vF X Y P)) : hv (Ex X Y P) (vF X Y P) P j = phi (dX X Y P j (vF X Y P + P - j)) :=
  hv_on C (vF_ok C).1 (vF_ok C).2.2.1 (P - j) j (Nat.le_refl _) h1 h2 h3
theorem hv_vF0 (C : CO (Ex X Y P) (Lx X Y P) P) : hv (Ex X Y P) (vF X Y P) P (vF X Y P) = phi (dX X Y P (vF X Y P) P) := by
  have := hv_vF C (Nat.le_refl _) (vF_ok C).1 (by rw [Nat.sub_self]; exact On_0 _)
  rw [this, show vF X Y P + P - vF X Y P = P by omega]
theorem mkL_ok (C : CO (Ex X Y P) (Lx X Y P) P) : ∀ n, n ≤ P → (mkL (Ex X Y P) P n).1 ≤ 1000000000 ∧ (mkL (Ex X Y P) P n).2 ≤ n ∧ (n ≤ vF X Y P → phi (dX X Y P (vF X Y P) P) < (mkL (Ex X Y P) P n).1) ∧ (vF X Y P < n → mkL (Ex X Y P) P n = (phi (dX X Y P (vF X Y P) P), vF X Y P))
  | 0, _ => by
    have := phi_b C.2.2.1 (p := vF X Y P) (r := P) C.2.1
    refine ⟨Nat.le_refl _, Nat.le_refl _, fun _ => this, fun h => absurd h (Nat.not_lt_zero _)⟩
  | n + 1, hn => by
    obtain ⟨i0, i9, i1, i2⟩ := mkL_ok C n (by omega)
    obtain ⟨v1, v2, v3, v4⟩ := vF_ok C
    have e : mkL (Ex X Y P) P (n + 1) = if hv (Ex X Y P) n P n < (mkL (Ex X Y P) P n).1 then (hv (Ex X Y P) n P n, n) else mkL (Ex X Y P) P n := rfl
    have hge := hv_top C (show n < P by omega)
    refine ⟨?_, ?_, fun h => ?_, fun h => ?_⟩
    · rw [e]
      split
      · rename_i c; show hv _ _ _ _ ≤ _; omega
      · exact i0
    · rw [e]
      split
      · exact Nat.le_succ n
      · omega
    · rw [e]
      have a := phi_lt.mpr (v3 n (by omega))
      have b := i1 (by omega)
      split
      · show _ < hv _ _ _ _; omega
      · exact b
    · rw [e]
      rcases Nat.lt_or_ge (vF X Y P) n with c | c
      · have a := phi_le.mpr (v4 n (by omega))
        rw [i2 c, if_neg (by show ¬ _ < phi _; omega)]
      · have en : n = vF X Y P := by omega
        have b := i1 (by omega)
        rw [en] at b ⊢
        rw [hv_vF0 C, if_pos b]
theorem mkL_end (C : CO (Ex X Y P) (Lx X Y P) P) : mkL (Ex X Y P) P P = (phi (dX X Y P (vF X Y P) P), vF X Y P) := (mkL_ok C P (Nat.le_refl _)).2.2.2 (vF_ok C).1
/-- the nearest step of least cost -/
theorem nst_opt (C : CO (Ex X Y P) (Lx X Y P) P) {i r : Nat} (h1 : 1 ≤ r) (h2 : r ≤ P) : nst X Y P i r ≤ Lx X Y P (i + (P - r)) ∧ nst X Y P i r ≤ r ∧ (∃ e, Ex X Y P (i + (P - r)) (nst X Y P i r) = some e ∧ dX X Y P (i + (P - r)) r = 100000 + e + dX X Y P (i + (P - r) + nst X Y P i r) (r - nst X Y P i r)) ∧ ∀ s e, 1 ≤ s → s < nst X Y P i r → Ex X Y P (i + (P - r)) s = some e → dX X Y P (i + (P - r)) r < 100000 + e + dX X Y P (i + (P - r) + s) (r - s) := by
  obtain ⟨c1, c2, ok, pe, pl, c6, c7, c8⟩ := id C
  have gs : ∀ s, s ≤ r → gS 100000 (Ex X Y P) (Lx X Y P) i P r s = (Ex X Y P (i + (P - r)) s).map (fun e => 100000 + e + dX X Y P (i + (P - r) + s) (r - s)) := by
    intro s hs
    unfold gS
    rw [show gc 100000 (Ex X Y P) (Lx X Y P) i P (r - s) = dX X Y P (i + (P - (r - s))) (r - s) from cK_dd (by omega), show i + (P - (r - s)) = i + (P - r) + s by omega]
  have ec : cK X Y P i r = dX X Y P (i + (P - r)) r := cK_dX h2
  obtain ⟨s, e, s1, s2, s3, s4, s5⟩ := dd_ex ok (p := i + (P - r)) (r := r) h1 (by omega)
  have hmo : mo X Y P i r = min (Lx X Y P (i + (P - r))) r := rfl
  have hle := fst1_le (nstP X Y P i r) (mo X Y P i r - 1)
  have hl1 := (ok (i + (P - r))).2
  have nd : nst X Y P i r = fst1 (nstP X Y P i r) (mo X Y P i r - 1) + 1 := rfl
  have yes : nstP X Y P i r (nst X Y P i r - 1) = true := by
    rcases Nat.lt_or_ge (fst1 (nstP X Y P i r) (mo X Y P i r - 1)) (mo X Y P i r - 1) with q | q
    · have := fst1_yes _ _ q
      rw [nd, Nat.add_sub_cancel]; exact this
    · have hs : s = mo X Y P i r := by
        rcases Nat.lt_or_ge (s - 1) (mo X Y P i r - 1) with d | d
        · exfalso
          have no := fst1_no (nstP X Y P i r) (mo X Y P i r - 1) (s - 1) (by omega)
          unfold nstP at no
          rw [show s - 1 + 1 = s by omega, gs s s2, s4, ec] at no
          have := of_decide_eq_false no
          exact this (congrArg some s5.symm)
        · omega
      rw [nd, show fst1 (nstP X Y P i r) (mo X Y P i r - 1) + 1 - 1 = s - 1 by omega]
      unfold nstP
      rw [show s - 1 + 1 = s by omega, gs s s2, s4, ec]
      exact decide_eq_true (congrArg some s5.symm)
  refine ⟨by omega, by omega, ?_, fun s' e' q1 q2 q3 => ?_⟩
  · unfold nstP at yes
    have y := of_decide_eq_true yes
    rw [show nst X Y P i r - 1 + 1 = nst X Y P i r by omega, gs _ (by omega), ec] at y
    cases he : Ex X Y P (i + (P - r)) (nst X Y P i r) with
    | none => rw [he] at y; cases y
    | some e' =>
      rw [he] at y
      exact ⟨e', rfl, (Option.some.inj y).symm⟩
  · have no := fst1_no (nstP X Y P i r) (mo X Y P i r - 1) (s' - 1) (by omega)
    unfold nstP at no
    rw [show s' - 1 + 1 = s' by omega, gs s' (by omega), q3, ec] at no
    have n2 := of_decide_eq_false no
    have l := dd_le (E := Ex X Y P) (lg := Lx X Y P) (p := i + (P - r)) (r := r) q1 (by omega) (by omega) q3
    have : dX X Y P (i + (P - r)) r ≠ 100000 + e' + dX X Y P (i + (P - r) + s') (r - s') := fun q => n2 (congrArg some q.symm)
    unfold dX at *
    omega
/-- the corners that are written, one by one -/
theorem vC_on (C : CO (Ex X Y P) (Lx X Y P) P) {i : Nat} (hi : i < P) : ∀ k, vR X Y P i k ≤ P ∧ On (Ex X Y P) (Lx X Y P) P i (P - vR X Y P i k)
  | 0 => ⟨Nat.le_refl _, by rw [show vR X Y P i 0 = P from rfl, Nat.sub_self]; exact On_0 _⟩
  | k + 1 => by
    obtain ⟨i1, i2⟩ := vC_on C hi k
    have e : vR X Y P i (k + 1) = vR X Y P i k - nst X Y P i (vR X Y P i k) := rfl
    refine ⟨by omega, ?_⟩
    rcases Nat.eq_zero_or_pos (vR X Y P i k) with q | q
    · rw [e, q, Nat.zero_sub]; rw [q] at i2; exact i2
    · obtain ⟨n1, n2, ⟨x, n3, n4⟩, _⟩ := nst_opt C (i := i) q i1
      have hp : 1 ≤ nst X Y P i (vR X Y P i k) := Nat.succ_pos _
      have := On_step C i2 hp (by omega) n1 n3 (by rw [show P - (P - vR X Y P i k) = vR X Y P i k by omega]; exact n4)
      rw [e, show P - (vR X Y P i k - nst X Y P i (vR X Y P i k)) = P - vR X Y P i k + nst X Y P i (vR X Y P i k) by omega]
      exact this
theorem vC_lt (C : CO (Ex X Y P) (Lx X Y P) P) {k : Nat} (hk : k < bN X Y P) : bC X Y P k < P ∧ vF X Y P ≤ bC X Y P k := by
  obtain ⟨v1, v2, v3, v4⟩ := vF_ok C
  obtain ⟨i1, i2⟩ := vC_on C v1 k
  have hr : 1 ≤ vR X Y P (vF X Y P) k := nV_pos hk
  refine ⟨?_, Nat.le_add_right _ _⟩
  rcases Nat.lt_or_ge (bC X Y P k) P with q | q
  · exact q
  · exfalso
    have e : bC X Y P k = vF X Y P + (P - vR X Y P (vF X Y P) k) := rfl
    have := On_rot C v1 i2 (by omega) (by omega)
    have := v3 (vF X Y P + (P - vR X Y P (vF X Y P) k) - P) (by omega)
    unfold dX at this
    omega
/-- how many vertices are left -/
theorem nV_left (C : CO (Ex X Y P) (Lx X Y P) P) {i : Nat} (hi : i < P) : ∀ (m k : Nat), k + m = nV X Y P i → dX X Y P (vC X Y P i k) (vR X Y P i k) / 100000 = m := by
  intro m
  induction m with
  | zero =>
    intro k hk
    rw [show k = nV X Y P i by omega, nV_0, dX, dd_0]
  | succ m ih =>
    intro k hk
    have hr : 1 ≤ vR X Y P i k := nV_pos (by omega)
    obtain ⟨i1, i2⟩ := vC_on C hi k
    obtain ⟨n1, n2, ⟨x, n3, n4⟩, _⟩ := nst_opt C (i := i) hr i1
    have h := ih (k + 1) (by omega)
    have e : vR X Y P i (k + 1) = vR X Y P i k - nst X Y P i (vR X Y P i k) := rfl
    have ev : vC X Y P i (k + 1) = vC X Y P i k + nst X Y P i (vR X Y P i k) := by unfold vC; rw [e]; omega
    rw [e, ev] at h
    unfold vC at h ⊢
    rw [n4]
    have hx := C.2.2.2.2.2.2.2 _ _ _ n3
    have c2 := C.2.1
    have := dd_small C (vR X Y P i k - nst X Y P i (vR X Y P i k)) (i + (P - vR X Y P i k) + nst X Y P i (vR X Y P i k)) (vR X Y P i k - nst X Y P i (vR X Y P i k)) (Nat.le_refl _) (by omega)
    unfold dX at *
    omega
theorem bN_eq (C : CO (Ex X Y P) (Lx X Y P) P) : bN X Y P = phi (dX X Y P (vF X Y P) P) / 1000000 ∧ bO X Y P = phi (dX X Y P (vF X Y P) P) % 1000000 ∧ 1 ≤ bN X Y P ∧ bN X Y P ≤ P := by
  obtain ⟨v1, v2, v3, v4⟩ := vF_ok C
  have h := nV_left C v1 (nV X Y P (vF X Y P)) 0 (by omega)
  rw [show vR X Y P (vF X Y P) 0 = P from rfl, show vC X Y P (vF X Y P) 0 = vF X Y P from by unfold vC; rw [show vR X Y P (vF X Y P) 0 = P from rfl]; omega] at h
  have hl : nV X Y P (vF X Y P) ≤ P := nV_le _ _ _ _
  have h0 : 1 ≤ nV X Y P (vF X Y P) := by
    rcases Nat.eq_zero_or_pos (nV X Y P (vF X Y P)) with q | q
    · have := nV_0 X Y P (vF X Y P)
      rw [q] at this
      have e : vR X Y P (vF X Y P) 0 = P := rfl
      have := C.1
      omega
    · exact q
  unfold bN bO
  rw [cK_P]
  unfold phi
  refine ⟨by omega, by omega, h0, hl⟩
/-- the model finds the next vertex where the class does -/
theorem bC_next (C : CO (Ex X Y P) (Lx X Y P) P) {k : Nat} (hk : k + 1 < bN X Y P) : ∃ s, 1 ≤ s ∧ bC X Y P (k + 1) = bC X Y P k + s ∧ mStr (Ex X Y P (bC X Y P k) s) (hv (Ex X Y P) (vF X Y P) P (bC X Y P k + s)) = hv (Ex X Y P) (vF X Y P) P (bC X Y P k) ∧ ∀ s', 1 ≤ s' → s' < s → mStr (Ex X Y P (bC X Y P k) s') (hv (Ex X Y P) (vF X Y P) P (bC X Y P k + s')) ≠ hv (Ex X Y P) (vF X Y P) P (bC X Y P k) := by
  obtain ⟨v1, v2, v3, v4⟩ := vF_ok C
  obtain ⟨i1, i2⟩ := vC_on C v1 k
  obtain ⟨j1, j2⟩ := vC_on C v1 (k + 1)
  have hr : 1 ≤ vR X Y P (vF X Y P) k := nV_pos (show k < nV X Y P (vF X Y P) from Nat.lt_of_succ_lt hk)
  have hr1 : 1 ≤ vR X Y P (vF X Y P) (k + 1) := nV_pos hk
  obtain ⟨n1, n2, ⟨x, n3, n4⟩, n5⟩ := nst_opt C (i := vF X Y P) hr i1
  have e : vR X Y P (vF X Y P) (k + 1) = vR X Y P (vF X Y P) k - nst X Y P (vF X Y P) (vR X Y P (vF X Y P) k) := rfl
  have l0 := vC_lt C (show k < bN X Y P by omega)
  have l1 := vC_lt C hk
  have eb : bC X Y P k = vF X Y P + (P - vR X Y P (vF X Y P) k) := rfl
  have eb1 : bC X Y P (k + 1) = vF X Y P + (P - vR X Y P (vF X Y P) (k + 1)) := rfl
  have ev : bC X Y P (k + 1) = bC X Y P k + nst X Y P (vF X Y P) (vR X Y P (vF X Y P) k) := by omega
  have h0 := hv_vF C l0.2 l0.1 (by rw [show bC X Y P k - vF X Y P = P - vR X Y P (vF X Y P) k by omega]; exact i2)
  have h1 := hv_vF C l1.2 l1.1 (by rw [show bC X Y P (k + 1) - vF X Y P = P - vR X Y P (vF X Y P) (k + 1) by omega]; exact j2)
  have er : vF X Y P + P - bC X Y P k = vR X Y P (vF X Y P) k := by omega
  have er1 : vF X Y P + P - bC X Y P (k + 1) = vR X Y P (vF X Y P) (k + 1) := by omega
  rw [er] at h0
  rw [er1] at h1
  rw [← eb] at n3 n4 n5
  have c2 := C.2.1
  refine ⟨nst X Y P (vF X Y P) (vR X Y P (vF X Y P) k), Nat.succ_pos _, ev, ?_, fun s' q1 q2 q3 => ?_⟩
  · have big := phi_b C.2.2.1 (p := bC X Y P (k + 1)) (r := vR X Y P (vF X Y P) (k + 1)) (by omega)
    rw [← ev, h1, h0, n3, n4]
    have q := phi_step C (p := bC X Y P k) (s := nst X Y P (vF X Y P) (vR X Y P (vF X Y P) k)) (r := vR X Y P (vF X Y P) k) n2 (by omega) n3
    simp only [mStr]
    rw [if_neg (by unfold dX at *; omega), show dX X Y P (bC X Y P k + nst X Y P (vF X Y P) (vR X Y P (vF X Y P) k)) (vR X Y P (vF X Y P) k - nst X Y P (vF X Y P) (vR X Y P (vF X Y P) k)) = dd (Ex X Y P) (Lx X Y P) (bC X Y P k + nst X Y P (vF X Y P) (vR X Y P (vF X Y P) k)) (vR X Y P (vF X Y P) k - nst X Y P (vF X Y P) (vR X Y P (vF X Y P) k)) from rfl, q, ← e, ← ev]
  · have big0 := phi_b C.2.2.1 (p := bC X Y P k) (r := vR X Y P (vF X Y P) k) (by omega)
    rw [h0] at q3
    cases he : Ex X Y P (bC X Y P k) s' with
    | none =>
      rw [he] at q3
      simp only [mStr] at q3
      unfold dX at q3
      omega
    | some x' =>
      rw [he] at q3
      simp only [mStr] at q3
      split at q3
      · unfold dX at q3
        omega
      · have lt := n5 s' x' q1 q2 he
        have q := phi_step C (p := bC X Y P k) (s := s') (r := vR X Y P (vF X Y P) k) (by omega) (by omega) he
        have := phi_lt.mpr lt
        have ge := hv_ge C v1 (P - (bC X Y P k + s')) (bC X Y P k + s') (Nat.le_refl _) (by omega) (by omega)
        rw [show vF X Y P + P - (bC X Y P k + s') = vR X Y P (vF X Y P) k - s' by omega] at ge
        unfold dX at *
        omega
end
