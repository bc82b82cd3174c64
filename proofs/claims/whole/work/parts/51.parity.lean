/-! PARITY: what a closed walk holds -/
def xr (f : Nat → Bool) : Nat → Bool
  | 0 => false
  | n + 1 => xr f n ^^ f n
theorem xr_xor (f g : Nat → Bool) : ∀ n, xr (fun k => f k ^^ g k) n = (xr f n ^^ xr g n)
  | 0 => rfl
  | n + 1 => by
    simp only [xr]
    rw [xr_xor f g n]
    cases xr f n <;> cases xr g n <;> cases f n <;> cases g n <;> rfl
theorem xr_cg {f g : Nat → Bool} : ∀ {n : Nat}, (∀ k, k < n → f k = g k) → xr f n = xr g n
  | 0, _ => rfl
  | n + 1, h => by
    simp only [xr]
    rw [xr_cg (fun k hk => h k (by omega)), h n (by omega)]
theorem xr_no {f : Nat → Bool} : ∀ {n : Nat}, (∀ k, k < n → f k = false) → xr f n = false
  | 0, _ => rfl
  | n + 1, h => by
    simp only [xr]
    rw [xr_no (fun k hk => h k (by omega)), h n (by omega)]; rfl
theorem xr_tel (S : Nat → Bool) : ∀ n, xr (fun k => S k ^^ S (k + 1)) n = (S 0 ^^ S n)
  | 0 => by simp [xr]
  | n + 1 => by
    simp only [xr]
    rw [xr_tel S n]
    cases S 0 <;> cases S n <;> cases S (n + 1) <;> rfl
theorem xr_one {f : Nat → Bool} {a : Nat} : ∀ {n : Nat}, a < n → f a = true → (∀ k, k < n → k ≠ a → f k = false) → xr f n = true
  | 0, h, _, _ => absurd h (Nat.not_lt_zero _)
  | n + 1, h, ha, hn => by
    simp only [xr]
    by_cases e : a = n
    · rw [xr_no (fun k hk => hn k (by omega) (by omega)), ← e, ha]; rfl
    · rw [xr_one (by omega) ha (fun k hk hk2 => hn k (by omega) hk2), hn n (by omega) (by omega)]; rfl
/-- how many -/
def cnt (p : Nat → Bool) : Nat → Nat
  | 0 => 0
  | n + 1 => cnt p n + (if p n then 1 else 0)
theorem cnt_le (p : Nat → Bool) : ∀ n, cnt p n ≤ n
  | 0 => Nat.le_refl 0
  | n + 1 => by
    have := cnt_le p n
    simp only [cnt]
    split <;> omega
theorem cnt_cg {p q : Nat → Bool} : ∀ {n : Nat}, (∀ k, k < n → p k = q k) → cnt p n = cnt q n
  | 0, _ => rfl
  | n + 1, h => by
    simp only [cnt]
    rw [cnt_cg (fun k hk => h k (by omega)), h n (by omega)]
theorem cnt_no {p : Nat → Bool} : ∀ {n : Nat}, (∀ k, k < n → p k = false) → cnt p n = 0
  | 0, _ => rfl
  | n + 1, h => by
    simp only [cnt]
    rw [cnt_no (fun k hk => h k (by omega)), h n (by omega)]; rfl
theorem cnt_add {p q r : Nat → Bool} : ∀ {n : Nat}, (∀ k, k < n → (if p k then 1 else 0) = (if q k then 1 else 0) + (if r k then 1 else 0 : Nat)) → cnt p n = cnt q n + cnt r n
  | 0, _ => rfl
  | n + 1, h => by
    simp only [cnt]
    rw [cnt_add (fun k hk => h k (by omega)), h n (by omega)]
    omega
theorem cnt_eqv (a : Nat) : ∀ n, cnt (fun k => decide (k = a)) n = if a < n then 1 else 0
  | 0 => rfl
  | n + 1 => by
    simp only [cnt]
    rw [cnt_eqv a n]
    by_cases e : a = n
    · subst e; simp
    · have e' : ¬ n = a := fun q => e q.symm
      simp [e']
      by_cases l : a < n
      · rw [if_pos l, if_pos (by omega)]
      · rw [if_neg l, if_neg (by omega)]
/-- e is one of the first n values of u -/
def occ (u : Nat → Nat) (n e : Nat) : Bool := xr (fun k => decide (u k = e)) n
theorem occ_yes {u : Nat → Nat} {n a : Nat} (ha : a < n) (hi : ∀ i j, i < n → j < n → u i = u j → i = j) : occ u n (u a) = true :=
  xr_one ha (decide_eq_true rfl) (fun k hk e => decide_eq_false (fun q => e (hi k a hk ha q)))
theorem occ_ex {u : Nat → Nat} {n e : Nat} (h : occ u n e = true) : ∃ k, k < n ∧ u k = e := by
  rcases Classical.em (∃ k, k < n ∧ u k = e) with q | q
  · exact q
  · rw [occ, xr_no (fun k hk => decide_eq_false (fun c => q ⟨k, hk, c⟩))] at h
    cases h
theorem cnt_occ {u : Nat → Nat} {m : Nat} : ∀ {n : Nat}, (∀ i, i < n → u i < m) → (∀ i j, i < n → j < n → u i = u j → i = j) → cnt (occ u n) m = n
  | 0, _, _ => cnt_no (fun _ _ => rfl)
  | n + 1, hm, hi => by
    have ih := cnt_occ (u := u) (m := m) (n := n) (fun i h => hm i (by omega)) (fun i j h1 h2 => hi i j (by omega) (by omega))
    rw [cnt_add (q := occ u n) (r := fun k => decide (k = u n)), ih, cnt_eqv, if_pos (hm n (by omega))]
    intro k hk
    by_cases e : k = u n
    · have h0 : occ u n k = false := by
        cases h : occ u n k
        · rfl
        · obtain ⟨i, h1, h2⟩ := occ_ex h
          have := hi i n (by omega) (by omega) (by rw [h2, e])
          omega
      have h1 : occ u (n + 1) k = true := by rw [e]; exact occ_yes (by omega) hi
      rw [h0, h1, decide_eq_true e]; rfl
    · have h1 : occ u (n + 1) k = occ u n k := by
        show (xr _ n ^^ decide (u n = k)) = xr _ n
        rw [decide_eq_false (fun q => e q.symm), Bool.xor_false]
      rw [h1, decide_eq_false e]; simp
theorem pigeon {u : Nat → Nat} {m n : Nat} (h1 : ∀ i, i < n → u i < m) (h2 : ∀ i j, i < n → j < n → u i = u j → i = j) : n ≤ m := by
  rw [← cnt_occ h1 h2]
  exact cnt_le _ _
/-! the walk from dot t, when no dot before t is in -/
def Low (D : Int64) (t : Nat) : Prop := ∀ k, k < t → lb D k = false
theorem inD_lo {D : Int64} {t : Nat} (l : Low D t) {x y : Int} (h : inD D x y = true) : (t : Int) ≤ 8 * y + x := by
  have b := inD_b h
  unfold inD at h
  rw [Bool.and_eq_true] at h
  rcases Nat.lt_or_ge (8 * y + x).toNat t with q | q
  · rw [l _ q] at h; cases h.2
  · omega
theorem wk_Val {J : Bool} {D : Int64} {t : Nat} (ht : t < 64) (hb : lb D t = true) (l : Low D t) : ∀ k, Val D (wk J D t k)
  | 0 => by
    refine ⟨Nat.zero_lt_succ 3, ?_, ?_⟩
    · show inD D (((t % 8 : Nat) : Int) + 0) (((t / 8 : Nat) : Int) + 0) = true
      unfold inD
      rw [decide_eq_true (by omega), show (8 * (((t / 8 : Nat) : Int) + 0) + (((t % 8 : Nat) : Int) + 0)).toNat = t by omega, hb]; rfl
    · show inD D (((t % 8 : Nat) : Int) + 0) (((t / 8 : Nat) : Int) + -1) = false
      cases h : inD D (((t % 8 : Nat) : Int) + 0) (((t / 8 : Nat) : Int) + -1)
      · rfl
      · have := inD_lo l h
        omega
  | k + 1 => (wk_Val ht hb l k).step
theorem wk_back {J : Bool} {D : Int64} {t : Nat} (ht : t < 64) (hb : lb D t = true) (l : Low D t) : ∀ {i m : Nat}, wk J D t (i + m) = wk J D t i → wk J D t m = wk J D t 0
  | 0, m, h => by rwa [Nat.zero_add] at h
  | i + 1, m, h => by
    rw [show i + 1 + m = (i + m) + 1 by omega] at h
    exact wk_back ht hb l ((wk_Val ht hb l (i + m)).inj (wk_Val ht hb l i) h)
theorem wk_ret {J : Bool} {D : Int64} {t : Nat} (ht : t < 64) (hb : lb D t = true) (l : Low D t) : ∃ m, m < 144 ∧ wk J D t (m + 1) = wk J D t 0 := by
  rcases Classical.em (∃ m, m < 144 ∧ wk J D t (m + 1) = wk J D t 0) with q | q
  · exact q
  · have := pigeon (u := fun k => eU (wk J D t k)) (m := 144) (n := 145) (fun i _ => (wk_Val ht hb l i).lt) (fun i j hi hj e => by
      have e2 := (wk_Val ht hb l i).uniq (wk_Val ht hb l j) e
      rcases Nat.lt_trichotomy i j with c | c | c
      · exfalso
        have := wk_back ht hb l (i := i) (m := j - i) (by rw [show i + (j - i) = j by omega]; exact e2.symm)
        exact q ⟨j - i - 1, by omega, by rw [show j - i - 1 + 1 = j - i by omega]; exact this⟩
      · exact c
      · exfalso
        have := wk_back ht hb l (i := j) (m := i - j) (by rw [show j + (i - j) = i by omega]; exact e2)
        exact q ⟨i - j - 1, by omega, by rw [show i - j - 1 + 1 = i - j by omega]; exact this⟩)
    omega
theorem per_ret {J : Bool} {D : Int64} {t : Nat} (ht : t < 64) (hb : lb D t = true) (l : Low D t) : wk J D t (per J D t) = wk J D t 0 ∧ per J D t ≤ 144 := by
  obtain ⟨m, h1, h2⟩ := wk_ret (J := J) ht hb l
  have hl := fst1_ex (fun k => decide (wk J D t (k + 1) = wk J D t 0)) h1 (by simpa using h2)
  have hy := fst1_yes (fun k => decide (wk J D t (k + 1) = wk J D t 0)) 144 (by omega)
  refine ⟨?_, by unfold per; omega⟩
  unfold per
  simpa using hy
theorem per_inj {J : Bool} {D : Int64} {t : Nat} (ht : t < 64) (hb : lb D t = true) (l : Low D t) {i j : Nat} (hi : i < per J D t) (hj : j < per J D t) (e : eU (wk J D t i) = eU (wk J D t j)) : i = j := by
  have e2 := (wk_Val ht hb l i).uniq (wk_Val ht hb l j) e
  rcases Nat.lt_trichotomy i j with c | c | c
  · exfalso
    have := wk_back ht hb l (i := i) (m := j - i) (by rw [show i + (j - i) = j by omega]; exact e2.symm)
    exact per_not (J := J) (D := D) (t := t) (k := j - i - 1) (by omega) (by rw [show j - i - 1 + 1 = j - i by omega]; exact this)
  · exact c
  · exfalso
    have := wk_back ht hb l (i := j) (m := i - j) (by rw [show j + (i - j) = i by omega]; exact e2)
    exact per_not (J := J) (D := D) (t := t) (k := i - j - 1) (by omega) (by rw [show i - j - 1 + 1 = i - j by omega]; exact this)
