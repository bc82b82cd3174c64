/-! THE WALK round a border: what it is, and that Borders.walk does it: printed by wip/whole/t13.py -/
section
variable {V : VV} {I : MI} {R : Room} {Qf : QF} {n0 z0 pc : Nat} {lv : List (Option Value)} {st : List Value} {h : AH} {n z : Nat}
theorem a_bool {x : Int32} (d0 : decode I.2.1 pc = .ok (.ifCond .eq 7, 3)) (d1 : decode I.2.1 (pc + 3) = .ok (.iconst 1, 1)) (d2 : decode I.2.1 (pc + 4) = .ok (.goto 4, 3)) (d3 : decode I.2.1 (pc + 7) = .ok (.iconst 0, 1)) (k : AW V I R Qf n0 z0 (pc + 8) lv (.int (if x = 0 then 0 else 1) :: st) h n z) : AW V I R Qf n0 z0 pc lv (.int x :: st) h n z := by
  refine a_if_eq (pc + 7) d0 (by omega) (fun c => ?_) (fun c => ?_)
  · rw [if_pos c] at k
    exact a_iconst (v := 0) d3 (by decide) k
  · rw [if_neg c] at k
    exact a_iconst (v := 1) d1 (by decide) (a_goto (pc + 8) d2 (by omega) k)
end
abbrev WS : Type := Int × Int × Nat
def inD (D : Int64) (x y : Int) : Bool := decide (0 ≤ x ∧ x < 8 ∧ 0 ≤ y ∧ y < 8) && lb D (8 * y + x).toNat
def nx (J : Bool) (D : Int64) (w : WS) : WS :=
  (w.1 + sx w.2.2, w.2.1 + sy w.2.2, trn J (inD D (w.1 + sx w.2.2 + ax w.2.2) (w.2.1 + sy w.2.2 + ay w.2.2)) (inD D (w.1 + sx w.2.2 + ax ((w.2.2 + 1) % 4)) (w.2.1 + sy w.2.2 + ay ((w.2.2 + 1) % 4))) w.2.2)
def wk (J : Bool) (D : Int64) (t : Nat) : Nat → WS
  | 0 => (((t % 8 : Nat) : Int), ((t / 8 : Nat) : Int), 0)
  | k + 1 => nx J D (wk J D t k)
theorem trn_lt (J L R : Bool) {d : Nat} (h : d < 4) : trn J L R d < 4 := by
  unfold trn
  split
  · exact h
  · split <;> exact Nat.mod_lt _ (by decide)
theorem wk_lt (J : Bool) (D : Int64) (t : Nat) : ∀ k, (wk J D t k).2.2 < 4
  | 0 => Nat.zero_lt_succ 3
  | k + 1 => trn_lt _ _ _ (wk_lt J D t k)
theorem sx_b (d : Nat) : -1 ≤ sx d ∧ sx d ≤ 1 := by unfold sx; split <;> omega
theorem sy_b (d : Nat) : -1 ≤ sy d ∧ sy d ≤ 1 := by unfold sy; split <;> omega
theorem ax_b (d : Nat) : -1 ≤ ax d ∧ ax d ≤ 0 := by unfold ax; split <;> omega
theorem ay_b (d : Nat) : -1 ≤ ay d ∧ ay d ≤ 0 := by unfold ay; split <;> omega
theorem wk_b (J : Bool) (D : Int64) {t : Nat} (ht : t < 64) : ∀ k : Nat, -(k : Int) ≤ (wk J D t k).1 ∧ (wk J D t k).1 ≤ 8 + k ∧ -(k : Int) ≤ (wk J D t k).2.1 ∧ (wk J D t k).2.1 ≤ 8 + k
  | 0 => by simp only [wk]; omega
  | k + 1 => by
    have ih := wk_b J D ht k
    have a := sx_b (wk J D t k).2.2
    have b := sy_b (wk J D t k).2.2
    simp only [wk, nx]
    omega
/-- whether a dot is in, by its bit -/
theorem inD_bit (D : Int64) {x y : Int} (hx : -1000 ≤ x ∧ x < 1000) (hy : -1000 ≤ y ∧ y < 1000) : D &&& gBit (iI x) (iI y) = 0 ↔ inD D x y = false := by
  by_cases h : 0 ≤ x ∧ x < 8 ∧ 0 ≤ y ∧ y < 8
  · obtain ⟨a, rfl⟩ := Int.eq_ofNat_of_zero_le h.1
    obtain ⟨b, rfl⟩ := Int.eq_ofNat_of_zero_le h.2.2.1
    have ha : a < 8 := by omega
    have hb : b < 8 := by omega
    have e : (8 * (b : Int) + (a : Int)).toNat = 8 * b + a := by omega
    unfold inD
    rw [decide_eq_true h, Bool.true_and, e, lb_eq0]
    constructor
    · intro q
      have := q (8 * b + a) (by omega)
      rw [lb_and, gBit_in ha hb, decide_eq_true rfl, Bool.and_true] at this
      exact this
    · intro q k hk
      rw [lb_and, gBit_in ha hb]
      by_cases e2 : k = 8 * b + a
      · rw [e2, q]; rfl
      · rw [decide_eq_false e2, Bool.and_false]
  · rw [gBit_out (by omega) (by omega) (by omega)]
    unfold inD
    rw [decide_eq_false h]
    simp
def wi (J : Bool) (D : Int64) (t : Nat) : Nat → Int64
  | 0 => 0
  | m + 1 => wi J D t m ^^^ rR (iI (wk J D t m).1) (iI (wk J D t m).2.1) (nI (wk J D t m).2.2)
/-- the first of the first n that has p; n if none -/
def fst1 (p : Nat → Bool) : Nat → Nat
  | 0 => 0
  | n + 1 => if fst1 p n < n then fst1 p n else if p n then n else n + 1
theorem fst1_le (p : Nat → Bool) : ∀ n, fst1 p n ≤ n
  | 0 => Nat.le_refl 0
  | n + 1 => by
    have ih := fst1_le p n
    unfold fst1
    split
    · omega
    · split <;> omega
theorem fst1_no (p : Nat → Bool) : ∀ n k, k < fst1 p n → p k = false
  | 0, k, h => absurd h (Nat.not_lt_zero k)
  | n + 1, k, h => by
    have ih := fst1_no p n k
    have hl := fst1_le p n
    unfold fst1 at h
    split at h
    · exact ih h
    · have e : fst1 p n = n := by omega
      split at h
      · exact ih (by omega)
      · rename_i hp
        by_cases e2 : k = n
        · rw [e2]; simpa using hp
        · exact ih (by omega)
theorem fst1_yes (p : Nat → Bool) : ∀ n, fst1 p n < n → p (fst1 p n) = true
  | 0, h => absurd h (Nat.not_lt_zero _)
  | n + 1, h => by
    have ih := fst1_yes p n
    have hl := fst1_le p n
    unfold fst1 at h ⊢
    split
    · rename_i q; exact ih q
    · rename_i q
      rw [if_neg q] at h
      split
      · rename_i hp; exact hp
      · rename_i hp
        rw [if_neg hp] at h
        omega
theorem fst1_ex (p : Nat → Bool) {n k : Nat} (hk : k < n) (hp : p k = true) : fst1 p n ≤ k := by
  rcases Nat.lt_or_ge k (fst1 p n) with q | q
  · have := fst1_no p n k q
    rw [hp] at this
    cases this
  · exact q
/-- how many steps a border has -/
def per (J : Bool) (D : Int64) (t : Nat) : Nat := fst1 (fun k => decide (wk J D t (k + 1) = wk J D t 0)) 144 + 1
theorem per_pos (J : Bool) (D : Int64) (t : Nat) : 0 < per J D t := Nat.succ_pos _
theorem per_not {J : Bool} {D : Int64} {t k : Nat} (h : k + 1 < per J D t) : wk J D t (k + 1) ≠ wk J D t 0 := by
  have := fst1_no _ 144 k (show k < fst1 (fun k => decide (wk J D t (k + 1) = wk J D t 0)) 144 from Nat.lt_of_succ_lt_succ h)
  simpa using this
def pt {α : Type} (f : Nat → α) (s m : Nat) (g : Nat → α) : Nat → α := fun j => if s ≤ j ∧ j < s + m then g (j - s) else f j
theorem pt_0 {α : Type} (f : Nat → α) (s : Nat) (g : Nat → α) : pt f s 0 g = f := by
  funext j
  simp only [pt]
  rw [if_neg (by omega)]
theorem pt_in {α : Type} {f : Nat → α} {s m : Nat} {g : Nat → α} {k : Nat} (h : k < m) : pt f s m g (s + k) = g k := by
  simp only [pt]
  rw [if_pos (by omega), Nat.add_sub_cancel_left]
theorem pt_out {α : Type} {f : Nat → α} {s m : Nat} {g : Nat → α} {j : Nat} (h : j < s ∨ s + m ≤ j) : pt f s m g j = f j := by
  simp only [pt]
  rw [if_neg (by omega)]
theorem pt_s (f : Nat → Int32) (s k : Nat) (g : Nat → Int32) : upd (pt f s k g) (s + k) (g k) = pt f s (k + 1) g := by
  funext j
  by_cases e : j = s + k
  · subst e
    rw [pt_in (Nat.lt_succ_self k)]
    simp [upd]
  · simp only [upd, if_neg e, pt]
    by_cases e2 : s ≤ j ∧ j < s + k
    · rw [if_pos e2, if_pos (by omega)]
    · rw [if_neg e2, if_neg (by omega)]
theorem hu4 (h : AH) {a b c d : Nat} (e1 : a ≠ b) (e2 : a ≠ c) (e3 : a ≠ d) (e4 : b ≠ c) (e5 : b ≠ d) (e6 : c ≠ d) (x y z u x' y' z' u' : AC) : hu (hu (hu (hu (hu (hu (hu (hu h a x) b y) c z) d u) a x') b y') c z') d u' = hu (hu (hu (hu h a x') b y') c z') d u' := by
  funext q
  by_cases q1 : q = d
  · simp [hu, q1]
  · by_cases q2 : q = c
    · simp [hu, q1, q2, e6]
    · by_cases q3 : q = b
      · simp [hu, q1, q2, q3, e4, e5]
      · by_cases q4 : q = a
        · simp [hu, q4, e1, e2, e3]
        · simp [hu, q1, q2, q3, q4]
def wX (J : Bool) (D : Int64) (t k : Nat) : Int32 := iI (wk J D t k).1
def wY (J : Bool) (D : Int64) (t k : Nat) : Int32 := iI (wk J D t k).2.1
def wW (J : Bool) (D : Int64) (t k : Nat) : Int32 := nI (wk J D t k).2.2
/-- the heap when k steps of a walk are written -/
def hW (J : Bool) (D : Int64) (t s b : Nat) (h : AH) (xs ys ws : Nat → Int32) (k : Nat) : AH :=
  hu (hu (hu (hu h 20 (aI 144 (pt xs s k (wX J D t)))) 21 (aI 144 (pt ys s k (wY J D t)))) 22 (aI 144 (pt ws s k (wW J D t)))) b (oBrd (nI s) (nI k) (nI t) (wi J D t k) 0 0 0)
section
variable {V : VV} {h : AH} {n z : Nat}
theorem s_Brs_nextWayJ {wk jn sz : Int32} {dt : Int64} (g19 : h 19 = oBrs wk dt jn sz) {d : Nat} (hd : d < 4) (L R : Bool) {J : Bool} (hJ : decide (jn = 1) = J) : AMet V i_Brs_nextWay 0 [.ref 19, .int (nI d), .int (b2 L), .int (b2 R)] h n z (some (.int (nI (trn J L R d)))) h n z := by
  subst hJ
  exact s_Brs_nextWay g19 hd L R

set_option maxRecDepth 20000 in
set_option maxHeartbeats 4000000 in
theorem L_walk {b s t : Nat} {D : Int64} {xs ys ws : Nat → Int32} {wkd jn sz : Int32} {dt : Int64} (hb : 53 ≤ b) (g19 : h 19 = oBrs wkd dt jn sz) (g20 : h 20 = aI 144 xs) (g21 : h 21 = aI 144 ys) (g22 : h 22 = aI 144 ws) (ht : t < 64) {J : Bool} (hJ : J = decide (jn = 1)) (hs : s + per J D t ≤ 144) (hper : wk J D t (per J D t) = wk J D t 0) : ∀ (m k : Nat), k + m + 1 = per J D t → AM V i_Brs_walk 2 n z none (hW J D t s b h xs ys ws (per J D t)) n z 39 [some (.ref 19), some (.ref b), some (.long D), none, some (.int (iI ((t % 8 : Nat) : Int))), some (.int (iI ((t / 8 : Nat) : Int))), some (.int (wX J D t k)), some (.int (wY J D t k)), some (.int (wW J D t k)), some (.int (nI (s + k))), none, none] [] (hW J D t s b h xs ys ws k) n z := by
  subst hJ
  generalize hJ : decide (jn = 1) = J at *
  intro m
  induction m with
  | zero =>
    intro k hk
    have gb := wk_b J D ht k
    have hd := wk_lt J D t k
    have a1 := sx_b (wk J D t k).2.2
    have a2 := sy_b (wk J D t k).2.2
    have a3 := ax_b (wk J D t k).2.2
    have a4 := ay_b (wk J D t k).2.2
    have a5 := ax_b (((wk J D t k).2.2 + 1) % 4)
    have a6 := ay_b (((wk J D t k).2.2 + 1) % 4)
    have hK : wk J D t (k + 1) = wk J D t 0 := by rw [hk]; exact hper
    obtain ⟨LL, hLL⟩ : ∃ L, L = inD D ((wk J D t k).1 + sx (wk J D t k).2.2 + ax (wk J D t k).2.2) ((wk J D t k).2.1 + sy (wk J D t k).2.2 + ay (wk J D t k).2.2) := ⟨_, rfl⟩
    obtain ⟨RR, hRR⟩ : ∃ L, L = inD D ((wk J D t k).1 + sx (wk J D t k).2.2 + ax (((wk J D t k).2.2 + 1) % 4)) ((wk J D t k).2.1 + sy (wk J D t k).2.2 + ay (((wk J D t k).2.2 + 1) % 4)) := ⟨_, rfl⟩
    have eL : (if lg_cmp (D &&& gBit (iI ((wk J D t k).1 + sx (wk J D t k).2.2 + ax ((wk J D t k).2.2 % 4))) (iI ((wk J D t k).2.1 + sy (wk J D t k).2.2 + ay ((wk J D t k).2.2 % 4)))) 0 = 0 then (0 : Int32) else 1) = b2 LL := by
      rw [Nat.mod_eq_of_lt hd, hLL]
      have q := inD_bit D (x := (wk J D t k).1 + sx (wk J D t k).2.2 + ax (wk J D t k).2.2) (y := (wk J D t k).2.1 + sy (wk J D t k).2.2 + ay (wk J D t k).2.2) (by omega) (by omega)
      simp only [cmp0, q, b2]
      cases inD D ((wk J D t k).1 + sx (wk J D t k).2.2 + ax (wk J D t k).2.2) ((wk J D t k).2.1 + sy (wk J D t k).2.2 + ay (wk J D t k).2.2) <;> rfl
    have eR : (if lg_cmp (D &&& gBit (iI ((wk J D t k).1 + sx (wk J D t k).2.2 + ax (((wk J D t k).2.2 + 1) % 4))) (iI ((wk J D t k).2.1 + sy (wk J D t k).2.2 + ay (((wk J D t k).2.2 + 1) % 4)))) 0 = 0 then (0 : Int32) else 1) = b2 RR := by
      rw [hRR]
      have q := inD_bit D (x := (wk J D t k).1 + sx (wk J D t k).2.2 + ax (((wk J D t k).2.2 + 1) % 4)) (y := (wk J D t k).2.1 + sy (wk J D t k).2.2 + ay (((wk J D t k).2.2 + 1) % 4)) (by omega) (by omega)
      simp only [cmp0, q, b2]
      cases inD D ((wk J D t k).1 + sx (wk J D t k).2.2 + ax (((wk J D t k).2.2 + 1) % 4)) ((wk J D t k).2.1 + sy (wk J D t k).2.2 + ay (((wk J D t k).2.2 + 1) % 4)) <;> rfl
    have eN : wk J D t (k + 1) = ((wk J D t k).1 + sx (wk J D t k).2.2, (wk J D t k).2.1 + sy (wk J D t k).2.2, trn J LL RR (wk J D t k).2.2) := by rw [hLL, hRR]; rfl
    have hEq : hu (hu (hu (hu (hu (hW J D t s b h xs ys ws k) 20 (aI 144 (upd (pt xs s k (wX J D t)) (nI (s + k)).toNatClampNeg (wX J D t k)))) 21 (aI 144 (upd (pt ys s k (wY J D t)) (nI (s + k)).toNatClampNeg (wY J D t k)))) 22 (aI 144 (upd (pt ws s k (wW J D t)) (nI (s + k)).toNatClampNeg (wW J D t k)))) b (oBrd (nI s) (nI k + 1) (nI t) (wi J D t k) 0 0 0)) b (oBrd (nI s) (nI k + 1) (nI t) (wi J D t k ^^^ rR (wX J D t k) (wY J D t k) (wW J D t k)) 0 0 0) = hW J D t s b h xs ys ws (k + 1) := by
      rw [hu_hu, nI_clamp (by omega), pt_s, pt_s, pt_s, nI_1]
      exact hu4 h (by omega) (by omega) (by omega) (by omega) (by omega) (by omega) _ _ _ _ _ _ _ _
    have b1 : (t % 8 : Nat) < 8 := Nat.mod_lt _ (by decide)
    have b3 : (t / 8 : Nat) < 8 := by omega
    have i1 := congrArg (fun q : WS => q.1) (eN.symm.trans hK)
    have i2 := congrArg (fun q : WS => q.2.1) (eN.symm.trans hK)
    have i3 := congrArg (fun q : WS => q.2.2) (eN.symm.trans hK)
    simp only [wk] at i1 i2 i3
    refine a_iload d_Brs_walk_39 rfl ?_
    refine a_sipush (v := 144) d_Brs_walk_41 (by decide) ?_
    refine a_icmp_ge 214 d_Brs_walk_44 (by decide) (fun c44 => absurd c44 (nI_ge (b := 144) (show s + k < 144 by omega) (by omega))) (fun c44 => ?_)
    refine a_aload_n d_Brs_walk_47 rfl ?_
    refine a_getf d_Brs_walk_48 f_Brs_9 (show _ = oBrs wkd dt jn sz from by simp [hW, hu, show (19 : Nat) ≠ b by omega, g19]) rfl ?_
    refine a_iload d_Brs_walk_51 rfl ?_
    refine a_iload d_Brs_walk_53 rfl ?_
    refine a_iast d_Brs_walk_55 (show _ = aI 144 (pt xs s k (wX J D t)) from by simp [hW, hu, show (20 : Nat) ≠ b by omega]) (vp_in_nI (by omega) (by omega)) ?_
    refine a_aload_n d_Brs_walk_56 rfl ?_
    refine a_getf d_Brs_walk_57 f_Brs_13 (show _ = oBrs wkd dt jn sz from by simp [hW, hu, show (19 : Nat) ≠ b by omega, g19]) rfl ?_
    refine a_iload d_Brs_walk_60 rfl ?_
    refine a_iload d_Brs_walk_62 rfl ?_
    refine a_iast d_Brs_walk_64 (show _ = aI 144 (pt ys s k (wY J D t)) from by simp [hW, hu, show (21 : Nat) ≠ b by omega]) (vp_in_nI (by omega) (by omega)) ?_
    refine a_aload_n d_Brs_walk_65 rfl ?_
    refine a_getf d_Brs_walk_66 f_Brs_16 (show _ = oBrs wkd dt jn sz from by simp [hW, hu, show (19 : Nat) ≠ b by omega, g19]) rfl ?_
    refine a_iload d_Brs_walk_69 rfl ?_
    refine a_iload d_Brs_walk_71 rfl ?_
    refine a_iast d_Brs_walk_73 (show _ = aI 144 (pt ws s k (wW J D t)) from by simp [hW, hu, show (22 : Nat) ≠ b by omega]) (vp_in_nI (by omega) (by omega)) ?_
    refine a_aload_n d_Brs_walk_74 rfl ?_
    refine a_dup d_Brs_walk_75 rfl ?_
    refine a_getf d_Brs_walk_76 f_Brs_35 (show _ = oBrd (nI s) (nI k) (nI t) (wi J D t k) 0 0 0 from by simp [hW, hu, show b ≠ 20 by omega, show b ≠ 21 by omega, show b ≠ 22 by omega]) rfl ?_
    refine a_iconst (v := 1) d_Brs_walk_79 (by decide) ?_
    refine a_iadd d_Brs_walk_80 ?_
    refine a_putf d_Brs_walk_81 f_Brs_35 rfl (show _ = oBrd (nI s) (nI k) (nI t) (wi J D t k) 0 0 0 from by simp [hW, hu, show b ≠ 20 by omega, show b ≠ 21 by omega, show b ≠ 22 by omega]) (Nat.le_of_ble_eq_true rfl) rfl rfl ?_
    refine a_aload_n d_Brs_walk_84 rfl ?_
    refine a_dup d_Brs_walk_85 rfl ?_
    refine a_getf d_Brs_walk_86 f_Brs_65 (hu_s _ _ _) rfl ?_
    refine a_iload d_Brs_walk_89 rfl ?_
    refine a_iload d_Brs_walk_91 rfl ?_
    refine a_iload d_Brs_walk_93 rfl ?_
    refine a_cs0 d_Brs_walk_95 m_Brs_dotsRightOf t_Brs_dotsRightOf l_Brs_87 (s_Brs_dotsRightOf _ _ _) rfl rfl ⟨Nat.le_of_ble_eq_true rfl, Nat.le_of_ble_eq_true rfl⟩ (Nat.le_of_ble_eq_true rfl)  ?_
    refine a_lxor d_Brs_walk_98 ?_
    refine a_putf d_Brs_walk_99 f_Brs_65 rfl (hu_s _ _ _) (Nat.le_of_ble_eq_true rfl) rfl rfl ?_
    refine a_iload d_Brs_walk_102 rfl ?_
    refine a_gets (k := 0) (Nat.le_of_ble_eq_true rfl) d_Brs_walk_104 s_Brs_91 ?_
    refine a_iload d_Brs_walk_107 rfl ?_
    refine a_iconst (v := 3) d_Brs_walk_109 (by decide) ?_
    refine a_iand d_Brs_walk_110 ?_
    refine a_tald (Nat.le_of_ble_eq_true rfl) d_Brs_walk_111 (by rw [show wW J D t k = nI (wk J D t k).2.2 from rfl, nwa (by omega)]; exact vp_in_nI (N := 4) (Nat.mod_lt _ (by decide)) (by omega)) ?_
    rw [show wW J D t k = nI (wk J D t k).2.2 from rfl, nwa (by omega), Nat.mod_eq_of_lt hd, nI_clamp (by omega), tF_0 V hd, show wX J D t k = iI (wk J D t k).1 from rfl]
    refine a_iadd d_Brs_walk_112 ?_
    rw [iI_add]
    refine a_istore d_Brs_walk_113 (Nat.le_of_ble_eq_true rfl) (Nat.le_of_ble_eq_true rfl) rfl ?_
    refine a_iload d_Brs_walk_115 rfl ?_
    refine a_gets (k := 1) (Nat.le_of_ble_eq_true rfl) d_Brs_walk_117 s_Brs_94 ?_
    refine a_iload d_Brs_walk_120 rfl ?_
    refine a_iconst (v := 3) d_Brs_walk_122 (by decide) ?_
    refine a_iand d_Brs_walk_123 ?_
    refine a_tald (Nat.le_of_ble_eq_true rfl) d_Brs_walk_124 (by rw [nwa (by omega)]; exact vp_in_nI (N := 4) (Nat.mod_lt _ (by decide)) (by omega)) ?_
    rw [nwa (by omega), Nat.mod_eq_of_lt hd, nI_clamp (by omega), tF_1 V hd, show wY J D t k = iI (wk J D t k).2.1 from rfl]
    refine a_iadd d_Brs_walk_125 ?_
    rw [iI_add]
    refine a_istore d_Brs_walk_126 (Nat.le_of_ble_eq_true rfl) (Nat.le_of_ble_eq_true rfl) rfl ?_
    refine a_lload_n d_Brs_walk_128 rfl ?_
    refine a_iload d_Brs_walk_129 rfl ?_
    refine a_iload d_Brs_walk_131 rfl ?_
    refine a_iload d_Brs_walk_133 rfl ?_
    refine a_cs0 d_Brs_walk_135 m_Brs_dotAhead t_Brs_dotAhead l_Brs_97 (s_Brs_dotAhead ((wk J D t k).1 + sx (wk J D t k).2.2) ((wk J D t k).2.1 + sy (wk J D t k).2.2) (d := (wk J D t k).2.2) (by omega)) rfl rfl ⟨Nat.le_of_ble_eq_true rfl, Nat.le_of_ble_eq_true rfl⟩ (Nat.le_of_ble_eq_true rfl)  ?_
    refine a_land d_Brs_walk_138 ?_
    refine a_lconst (v := 0) d_Brs_walk_139 rfl ?_
    refine a_lcmp d_Brs_walk_140 ?_
    refine a_bool d_Brs_walk_141 d_Brs_walk_144 d_Brs_walk_145 d_Brs_walk_148 ?_
    rw [eL]
    refine a_istore d_Brs_walk_149 (Nat.le_of_ble_eq_true rfl) (Nat.le_of_ble_eq_true rfl) rfl ?_
    refine a_lload_n d_Brs_walk_151 rfl ?_
    refine a_iload d_Brs_walk_152 rfl ?_
    refine a_iload d_Brs_walk_154 rfl ?_
    refine a_iload d_Brs_walk_156 rfl ?_
    refine a_iconst (v := 1) d_Brs_walk_158 (by decide) ?_
    refine a_iadd d_Brs_walk_159 ?_
    rw [nI_1]
    refine a_cs0 d_Brs_walk_160 m_Brs_dotAhead t_Brs_dotAhead l_Brs_97 (s_Brs_dotAhead ((wk J D t k).1 + sx (wk J D t k).2.2) ((wk J D t k).2.1 + sy (wk J D t k).2.2) (d := (wk J D t k).2.2 + 1) (by omega)) rfl rfl ⟨Nat.le_of_ble_eq_true rfl, Nat.le_of_ble_eq_true rfl⟩ (Nat.le_of_ble_eq_true rfl)  ?_
    refine a_land d_Brs_walk_163 ?_
    refine a_lconst (v := 0) d_Brs_walk_164 rfl ?_
    refine a_lcmp d_Brs_walk_165 ?_
    refine a_bool d_Brs_walk_166 d_Brs_walk_169 d_Brs_walk_170 d_Brs_walk_173 ?_
    rw [eR]
    refine a_istore d_Brs_walk_174 (Nat.le_of_ble_eq_true rfl) (Nat.le_of_ble_eq_true rfl) rfl ?_
    refine a_aload_n d_Brs_walk_176 rfl ?_
    refine a_iload d_Brs_walk_177 rfl ?_
    refine a_iload d_Brs_walk_179 rfl ?_
    refine a_iload d_Brs_walk_181 rfl ?_
    refine a_cv0 d_Brs_walk_183 m_Brs_nextWay t_Brs_nextWay l_Brs_100 (show _ = oBrs wkd dt jn sz from by simp [hW, hu, show (19 : Nat) ≠ b by omega, g19]) rfl rfl (s_Brs_nextWayJ (show _ = oBrs wkd dt jn sz from by simp [hW, hu, show (19 : Nat) ≠ b by omega, g19]) hd LL RR hJ) rfl rfl ⟨Nat.le_of_ble_eq_true rfl, Nat.le_of_ble_eq_true rfl⟩ (Nat.le_of_ble_eq_true rfl)  ?_
    refine a_istore d_Brs_walk_186 (Nat.le_of_ble_eq_true rfl) (Nat.le_of_ble_eq_true rfl) rfl ?_
    refine a_iload d_Brs_walk_188 rfl ?_
    refine a_iload d_Brs_walk_190 rfl ?_
    refine a_icmp_ne 208 d_Brs_walk_192 (by decide) (fun c192 => absurd c192 (fun q => q (by rw [i1]))) (fun c192 => ?_)
    refine a_iload d_Brs_walk_195 rfl ?_
    refine a_iload d_Brs_walk_197 rfl ?_
    refine a_icmp_ne 208 d_Brs_walk_199 (by decide) (fun c199 => absurd c199 (fun q => q (by rw [i2]))) (fun c199 => ?_)
    refine a_iload d_Brs_walk_202 rfl ?_
    refine a_if_ne 208 d_Brs_walk_204 (by decide) (fun c204 => absurd c204 (fun q => q (by rw [i3]; rfl))) (fun c204 => ?_)
    exact a_vret d_Brs_walk_207 rfl rfl (by rw [← hk]; exact hEq.symm) rfl
  | succ m ih =>
    intro k hk
    have gb := wk_b J D ht k
    have hd := wk_lt J D t k
    have a1 := sx_b (wk J D t k).2.2
    have a2 := sy_b (wk J D t k).2.2
    have a3 := ax_b (wk J D t k).2.2
    have a4 := ay_b (wk J D t k).2.2
    have a5 := ax_b (((wk J D t k).2.2 + 1) % 4)
    have a6 := ay_b (((wk J D t k).2.2 + 1) % 4)
    have hK : wk J D t (k + 1) ≠ wk J D t 0 := per_not (by omega)
    obtain ⟨LL, hLL⟩ : ∃ L, L = inD D ((wk J D t k).1 + sx (wk J D t k).2.2 + ax (wk J D t k).2.2) ((wk J D t k).2.1 + sy (wk J D t k).2.2 + ay (wk J D t k).2.2) := ⟨_, rfl⟩
    obtain ⟨RR, hRR⟩ : ∃ L, L = inD D ((wk J D t k).1 + sx (wk J D t k).2.2 + ax (((wk J D t k).2.2 + 1) % 4)) ((wk J D t k).2.1 + sy (wk J D t k).2.2 + ay (((wk J D t k).2.2 + 1) % 4)) := ⟨_, rfl⟩
    have eL : (if lg_cmp (D &&& gBit (iI ((wk J D t k).1 + sx (wk J D t k).2.2 + ax ((wk J D t k).2.2 % 4))) (iI ((wk J D t k).2.1 + sy (wk J D t k).2.2 + ay ((wk J D t k).2.2 % 4)))) 0 = 0 then (0 : Int32) else 1) = b2 LL := by
      rw [Nat.mod_eq_of_lt hd, hLL]
      have q := inD_bit D (x := (wk J D t k).1 + sx (wk J D t k).2.2 + ax (wk J D t k).2.2) (y := (wk J D t k).2.1 + sy (wk J D t k).2.2 + ay (wk J D t k).2.2) (by omega) (by omega)
      simp only [cmp0, q, b2]
      cases inD D ((wk J D t k).1 + sx (wk J D t k).2.2 + ax (wk J D t k).2.2) ((wk J D t k).2.1 + sy (wk J D t k).2.2 + ay (wk J D t k).2.2) <;> rfl
    have eR : (if lg_cmp (D &&& gBit (iI ((wk J D t k).1 + sx (wk J D t k).2.2 + ax (((wk J D t k).2.2 + 1) % 4))) (iI ((wk J D t k).2.1 + sy (wk J D t k).2.2 + ay (((wk J D t k).2.2 + 1) % 4)))) 0 = 0 then (0 : Int32) else 1) = b2 RR := by
      rw [hRR]
      have q := inD_bit D (x := (wk J D t k).1 + sx (wk J D t k).2.2 + ax (((wk J D t k).2.2 + 1) % 4)) (y := (wk J D t k).2.1 + sy (wk J D t k).2.2 + ay (((wk J D t k).2.2 + 1) % 4)) (by omega) (by omega)
      simp only [cmp0, q, b2]
      cases inD D ((wk J D t k).1 + sx (wk J D t k).2.2 + ax (((wk J D t k).2.2 + 1) % 4)) ((wk J D t k).2.1 + sy (wk J D t k).2.2 + ay (((wk J D t k).2.2 + 1) % 4)) <;> rfl
    have eN : wk J D t (k + 1) = ((wk J D t k).1 + sx (wk J D t k).2.2, (wk J D t k).2.1 + sy (wk J D t k).2.2, trn J LL RR (wk J D t k).2.2) := by rw [hLL, hRR]; rfl
    have hEq : hu (hu (hu (hu (hu (hW J D t s b h xs ys ws k) 20 (aI 144 (upd (pt xs s k (wX J D t)) (nI (s + k)).toNatClampNeg (wX J D t k)))) 21 (aI 144 (upd (pt ys s k (wY J D t)) (nI (s + k)).toNatClampNeg (wY J D t k)))) 22 (aI 144 (upd (pt ws s k (wW J D t)) (nI (s + k)).toNatClampNeg (wW J D t k)))) b (oBrd (nI s) (nI k + 1) (nI t) (wi J D t k) 0 0 0)) b (oBrd (nI s) (nI k + 1) (nI t) (wi J D t k ^^^ rR (wX J D t k) (wY J D t k) (wW J D t k)) 0 0 0) = hW J D t s b h xs ys ws (k + 1) := by
      rw [hu_hu, nI_clamp (by omega), pt_s, pt_s, pt_s, nI_1]
      exact hu4 h (by omega) (by omega) (by omega) (by omega) (by omega) (by omega) _ _ _ _ _ _ _ _
    have b1 : (t % 8 : Nat) < 8 := Nat.mod_lt _ (by decide)
    have b3 : (t / 8 : Nat) < 8 := by omega
    refine a_iload d_Brs_walk_39 rfl ?_
    refine a_sipush (v := 144) d_Brs_walk_41 (by decide) ?_
    refine a_icmp_ge 214 d_Brs_walk_44 (by decide) (fun c44 => absurd c44 (nI_ge (b := 144) (show s + k < 144 by omega) (by omega))) (fun c44 => ?_)
    refine a_aload_n d_Brs_walk_47 rfl ?_
    refine a_getf d_Brs_walk_48 f_Brs_9 (show _ = oBrs wkd dt jn sz from by simp [hW, hu, show (19 : Nat) ≠ b by omega, g19]) rfl ?_
    refine a_iload d_Brs_walk_51 rfl ?_
    refine a_iload d_Brs_walk_53 rfl ?_
    refine a_iast d_Brs_walk_55 (show _ = aI 144 (pt xs s k (wX J D t)) from by simp [hW, hu, show (20 : Nat) ≠ b by omega]) (vp_in_nI (by omega) (by omega)) ?_
    refine a_aload_n d_Brs_walk_56 rfl ?_
    refine a_getf d_Brs_walk_57 f_Brs_13 (show _ = oBrs wkd dt jn sz from by simp [hW, hu, show (19 : Nat) ≠ b by omega, g19]) rfl ?_
    refine a_iload d_Brs_walk_60 rfl ?_
    refine a_iload d_Brs_walk_62 rfl ?_
    refine a_iast d_Brs_walk_64 (show _ = aI 144 (pt ys s k (wY J D t)) from by simp [hW, hu, show (21 : Nat) ≠ b by omega]) (vp_in_nI (by omega) (by omega)) ?_
    refine a_aload_n d_Brs_walk_65 rfl ?_
    refine a_getf d_Brs_walk_66 f_Brs_16 (show _ = oBrs wkd dt jn sz from by simp [hW, hu, show (19 : Nat) ≠ b by omega, g19]) rfl ?_
    refine a_iload d_Brs_walk_69 rfl ?_
    refine a_iload d_Brs_walk_71 rfl ?_
    refine a_iast d_Brs_walk_73 (show _ = aI 144 (pt ws s k (wW J D t)) from by simp [hW, hu, show (22 : Nat) ≠ b by omega]) (vp_in_nI (by omega) (by omega)) ?_
    refine a_aload_n d_Brs_walk_74 rfl ?_
    refine a_dup d_Brs_walk_75 rfl ?_
    refine a_getf d_Brs_walk_76 f_Brs_35 (show _ = oBrd (nI s) (nI k) (nI t) (wi J D t k) 0 0 0 from by simp [hW, hu, show b ≠ 20 by omega, show b ≠ 21 by omega, show b ≠ 22 by omega]) rfl ?_
    refine a_iconst (v := 1) d_Brs_walk_79 (by decide) ?_
    refine a_iadd d_Brs_walk_80 ?_
    refine a_putf d_Brs_walk_81 f_Brs_35 rfl (show _ = oBrd (nI s) (nI k) (nI t) (wi J D t k) 0 0 0 from by simp [hW, hu, show b ≠ 20 by omega, show b ≠ 21 by omega, show b ≠ 22 by omega]) (Nat.le_of_ble_eq_true rfl) rfl rfl ?_
    refine a_aload_n d_Brs_walk_84 rfl ?_
    refine a_dup d_Brs_walk_85 rfl ?_
    refine a_getf d_Brs_walk_86 f_Brs_65 (hu_s _ _ _) rfl ?_
    refine a_iload d_Brs_walk_89 rfl ?_
    refine a_iload d_Brs_walk_91 rfl ?_
    refine a_iload d_Brs_walk_93 rfl ?_
    refine a_cs0 d_Brs_walk_95 m_Brs_dotsRightOf t_Brs_dotsRightOf l_Brs_87 (s_Brs_dotsRightOf _ _ _) rfl rfl ⟨Nat.le_of_ble_eq_true rfl, Nat.le_of_ble_eq_true rfl⟩ (Nat.le_of_ble_eq_true rfl)  ?_
    refine a_lxor d_Brs_walk_98 ?_
    refine a_putf d_Brs_walk_99 f_Brs_65 rfl (hu_s _ _ _) (Nat.le_of_ble_eq_true rfl) rfl rfl ?_
    refine a_iload d_Brs_walk_102 rfl ?_
    refine a_gets (k := 0) (Nat.le_of_ble_eq_true rfl) d_Brs_walk_104 s_Brs_91 ?_
    refine a_iload d_Brs_walk_107 rfl ?_
    refine a_iconst (v := 3) d_Brs_walk_109 (by decide) ?_
    refine a_iand d_Brs_walk_110 ?_
    refine a_tald (Nat.le_of_ble_eq_true rfl) d_Brs_walk_111 (by rw [show wW J D t k = nI (wk J D t k).2.2 from rfl, nwa (by omega)]; exact vp_in_nI (N := 4) (Nat.mod_lt _ (by decide)) (by omega)) ?_
    rw [show wW J D t k = nI (wk J D t k).2.2 from rfl, nwa (by omega), Nat.mod_eq_of_lt hd, nI_clamp (by omega), tF_0 V hd, show wX J D t k = iI (wk J D t k).1 from rfl]
    refine a_iadd d_Brs_walk_112 ?_
    rw [iI_add]
    refine a_istore d_Brs_walk_113 (Nat.le_of_ble_eq_true rfl) (Nat.le_of_ble_eq_true rfl) rfl ?_
    refine a_iload d_Brs_walk_115 rfl ?_
    refine a_gets (k := 1) (Nat.le_of_ble_eq_true rfl) d_Brs_walk_117 s_Brs_94 ?_
    refine a_iload d_Brs_walk_120 rfl ?_
    refine a_iconst (v := 3) d_Brs_walk_122 (by decide) ?_
    refine a_iand d_Brs_walk_123 ?_
    refine a_tald (Nat.le_of_ble_eq_true rfl) d_Brs_walk_124 (by rw [nwa (by omega)]; exact vp_in_nI (N := 4) (Nat.mod_lt _ (by decide)) (by omega)) ?_
    rw [nwa (by omega), Nat.mod_eq_of_lt hd, nI_clamp (by omega), tF_1 V hd, show wY J D t k = iI (wk J D t k).2.1 from rfl]
    refine a_iadd d_Brs_walk_125 ?_
    rw [iI_add]
    refine a_istore d_Brs_walk_126 (Nat.le_of_ble_eq_true rfl) (Nat.le_of_ble_eq_true rfl) rfl ?_
    refine a_lload_n d_Brs_walk_128 rfl ?_
    refine a_iload d_Brs_walk_129 rfl ?_
    refine a_iload d_Brs_walk_131 rfl ?_
    refine a_iload d_Brs_walk_133 rfl ?_
    refine a_cs0 d_Brs_walk_135 m_Brs_dotAhead t_Brs_dotAhead l_Brs_97 (s_Brs_dotAhead ((wk J D t k).1 + sx (wk J D t k).2.2) ((wk J D t k).2.1 + sy (wk J D t k).2.2) (d := (wk J D t k).2.2) (by omega)) rfl rfl ⟨Nat.le_of_ble_eq_true rfl, Nat.le_of_ble_eq_true rfl⟩ (Nat.le_of_ble_eq_true rfl)  ?_
    refine a_land d_Brs_walk_138 ?_
    refine a_lconst (v := 0) d_Brs_walk_139 rfl ?_
    refine a_lcmp d_Brs_walk_140 ?_
    refine a_bool d_Brs_walk_141 d_Brs_walk_144 d_Brs_walk_145 d_Brs_walk_148 ?_
    rw [eL]
    refine a_istore d_Brs_walk_149 (Nat.le_of_ble_eq_true rfl) (Nat.le_of_ble_eq_true rfl) rfl ?_
    refine a_lload_n d_Brs_walk_151 rfl ?_
    refine a_iload d_Brs_walk_152 rfl ?_
    refine a_iload d_Brs_walk_154 rfl ?_
    refine a_iload d_Brs_walk_156 rfl ?_
    refine a_iconst (v := 1) d_Brs_walk_158 (by decide) ?_
    refine a_iadd d_Brs_walk_159 ?_
    rw [nI_1]
    refine a_cs0 d_Brs_walk_160 m_Brs_dotAhead t_Brs_dotAhead l_Brs_97 (s_Brs_dotAhead ((wk J D t k).1 + sx (wk J D t k).2.2) ((wk J D t k).2.1 + sy (wk J D t k).2.2) (d := (wk J D t k).2.2 + 1) (by omega)) rfl rfl ⟨Nat.le_of_ble_eq_true rfl, Nat.le_of_ble_eq_true rfl⟩ (Nat.le_of_ble_eq_true rfl)  ?_
    refine a_land d_Brs_walk_163 ?_
    refine a_lconst (v := 0) d_Brs_walk_164 rfl ?_
    refine a_lcmp d_Brs_walk_165 ?_
    refine a_bool d_Brs_walk_166 d_Brs_walk_169 d_Brs_walk_170 d_Brs_walk_173 ?_
    rw [eR]
    refine a_istore d_Brs_walk_174 (Nat.le_of_ble_eq_true rfl) (Nat.le_of_ble_eq_true rfl) rfl ?_
    refine a_aload_n d_Brs_walk_176 rfl ?_
    refine a_iload d_Brs_walk_177 rfl ?_
    refine a_iload d_Brs_walk_179 rfl ?_
    refine a_iload d_Brs_walk_181 rfl ?_
    refine a_cv0 d_Brs_walk_183 m_Brs_nextWay t_Brs_nextWay l_Brs_100 (show _ = oBrs wkd dt jn sz from by simp [hW, hu, show (19 : Nat) ≠ b by omega, g19]) rfl rfl (s_Brs_nextWayJ (show _ = oBrs wkd dt jn sz from by simp [hW, hu, show (19 : Nat) ≠ b by omega, g19]) hd LL RR hJ) rfl rfl ⟨Nat.le_of_ble_eq_true rfl, Nat.le_of_ble_eq_true rfl⟩ (Nat.le_of_ble_eq_true rfl)  ?_
    refine a_istore d_Brs_walk_186 (Nat.le_of_ble_eq_true rfl) (Nat.le_of_ble_eq_true rfl) rfl ?_
    refine a_iload d_Brs_walk_188 rfl ?_
    refine a_iload d_Brs_walk_190 rfl ?_
    refine a_icmp_ne 208 d_Brs_walk_192 (by decide) (fun c192 => ?_) (fun c192 => ?_)
    · skip
      refine a_iinc d_Brs_walk_208 rfl (nI_1 (s + k)) (Nat.le_of_ble_eq_true rfl) rfl ?_
      refine a_goto 39 d_Brs_walk_211 (by decide) ?_
      refine a_drop 10 ?_
      refine a_drop 11 ?_
      refine a_eq rfl ?_ rfl hEq rfl rfl (ih (k + 1) (by omega))
      have x1 : wX J D t (k + 1) = iI ((wk J D t k).1 + sx (wk J D t k).2.2) := by unfold wX; rw [eN]
      have y1 : wY J D t (k + 1) = iI ((wk J D t k).2.1 + sy (wk J D t k).2.2) := by unfold wY; rw [eN]
      have w1 : wW J D t (k + 1) = nI (trn J LL RR (wk J D t k).2.2) := by unfold wW; rw [eN]
      rw [x1, y1, w1]
      rfl
    · skip
      refine a_iload d_Brs_walk_195 rfl ?_
      refine a_iload d_Brs_walk_197 rfl ?_
      refine a_icmp_ne 208 d_Brs_walk_199 (by decide) (fun c199 => ?_) (fun c199 => ?_)
      · skip
        refine a_iinc d_Brs_walk_208 rfl (nI_1 (s + k)) (Nat.le_of_ble_eq_true rfl) rfl ?_
        refine a_goto 39 d_Brs_walk_211 (by decide) ?_
        refine a_drop 10 ?_
        refine a_drop 11 ?_
        refine a_eq rfl ?_ rfl hEq rfl rfl (ih (k + 1) (by omega))
        have x1 : wX J D t (k + 1) = iI ((wk J D t k).1 + sx (wk J D t k).2.2) := by unfold wX; rw [eN]
        have y1 : wY J D t (k + 1) = iI ((wk J D t k).2.1 + sy (wk J D t k).2.2) := by unfold wY; rw [eN]
        have w1 : wW J D t (k + 1) = nI (trn J LL RR (wk J D t k).2.2) := by unfold wW; rw [eN]
        rw [x1, y1, w1]
        rfl
      · skip
        refine a_iload d_Brs_walk_202 rfl ?_
        refine a_if_ne 208 d_Brs_walk_204 (by decide) (fun c204 => ?_) (fun c204 => ?_)
        · skip
          refine a_iinc d_Brs_walk_208 rfl (nI_1 (s + k)) (Nat.le_of_ble_eq_true rfl) rfl ?_
          refine a_goto 39 d_Brs_walk_211 (by decide) ?_
          refine a_drop 10 ?_
          refine a_drop 11 ?_
          refine a_eq rfl ?_ rfl hEq rfl rfl (ih (k + 1) (by omega))
          have x1 : wX J D t (k + 1) = iI ((wk J D t k).1 + sx (wk J D t k).2.2) := by unfold wX; rw [eN]
          have y1 : wY J D t (k + 1) = iI ((wk J D t k).2.1 + sy (wk J D t k).2.2) := by unfold wY; rw [eN]
          have w1 : wW J D t (k + 1) = nI (trn J LL RR (wk J D t k).2.2) := by unfold wW; rw [eN]
          rw [x1, y1, w1]
          rfl
        · skip
          refine absurd ?_ hK
          rw [eN]
          rw [iI_eq (by omega) (by omega) (by omega) (by omega)] at c192 c199
          have i3 : trn J LL RR (wk J D t k).2.2 = 0 := (nI_eq (by have := trn_lt J LL RR hd; omega) (by omega)).mp c204
          rw [c192, c199, i3]
          rfl
set_option maxRecDepth 20000 in
set_option maxHeartbeats 4000000 in
theorem s_Brs_walk {b s t : Nat} {D : Int64} {xs ys ws : Nat → Int32} {wkd jn sz : Int32} {dt : Int64} (hb : 53 ≤ b) (g19 : h 19 = oBrs wkd dt jn sz) (g20 : h 20 = aI 144 xs) (g21 : h 21 = aI 144 ys) (g22 : h 22 = aI 144 ws) (ht : t < 64) {J : Bool} (hJ : J = decide (jn = 1)) (hs : s + per J D t ≤ 144) (hper : wk J D t (per J D t) = wk J D t 0) (gb : h b = oBrd (nI s) 0 (nI t) 0 0 0 0) : AMet V i_Brs_walk 2 [.ref 19, .ref b, .long D] h n z none (hW J D t s b h xs ys ws (per J D t)) n z := by
  have hc : nI t &&& 7 = iI ((t % 8 : Nat) : Int) := by rw [← iI_nat]; exact pk_andN (by omega) 3 (by decide)
  have hr : nI t >>> ((3 : Int32) &&& 31) &&& 7 = iI ((t / 8 : Nat) : Int) := by
    rw [show ((3 : Int32) &&& 31) = 3 from by decide, pk_shrN (n := t) (by omega) 3 3 (by decide), pk_andN (by omega) 3 (by decide), ← iI_nat, Nat.mod_eq_of_lt (by omega)]
  have hm : fMax (nI s) 0 = nI (s + 0) := by
    unfold fMax
    rw [if_neg (nI_pos (by omega))]
    rfl
  have h0 : hW J D t s b h xs ys ws 0 = h := by
    unfold hW
    rw [pt_0, pt_0, pt_0, hu_same g20, hu_same g21, hu_same g22]
    exact hu_same gb
  refine AMet.intro (Nat.le_refl _) (Nat.le_refl _) (by decide) (Nat.le_of_ble_eq_true rfl) rfl ?_
  refine a_aload_n d_Brs_walk_0 rfl ?_
  refine a_getf d_Brs_walk_1 f_Brs_69 gb rfl ?_
  refine a_cs0 d_Brs_walk_4 m_Grid_columnOf t_Grid_columnOf l_Brs_72 (s_Grid_columnOf _) rfl rfl ⟨Nat.le_of_ble_eq_true rfl, Nat.le_of_ble_eq_true rfl⟩ (Nat.le_of_ble_eq_true rfl)  ?_
  rw [hc]
  refine a_istore d_Brs_walk_7 (Nat.le_of_ble_eq_true rfl) (Nat.le_of_ble_eq_true rfl) rfl ?_
  refine a_aload_n d_Brs_walk_9 rfl ?_
  refine a_getf d_Brs_walk_10 f_Brs_69 gb rfl ?_
  refine a_cs0 d_Brs_walk_13 m_Grid_rowOf t_Grid_rowOf l_Brs_75 (s_Grid_rowOf _) rfl rfl ⟨Nat.le_of_ble_eq_true rfl, Nat.le_of_ble_eq_true rfl⟩ (Nat.le_of_ble_eq_true rfl)  ?_
  rw [hr]
  refine a_istore d_Brs_walk_16 (Nat.le_of_ble_eq_true rfl) (Nat.le_of_ble_eq_true rfl) rfl ?_
  refine a_iload d_Brs_walk_18 rfl ?_
  refine a_istore d_Brs_walk_20 (Nat.le_of_ble_eq_true rfl) (Nat.le_of_ble_eq_true rfl) rfl ?_
  refine a_iload d_Brs_walk_22 rfl ?_
  refine a_istore d_Brs_walk_24 (Nat.le_of_ble_eq_true rfl) (Nat.le_of_ble_eq_true rfl) rfl ?_
  refine a_iconst (v := 0) d_Brs_walk_26 (by decide) ?_
  refine a_istore d_Brs_walk_27 (Nat.le_of_ble_eq_true rfl) (Nat.le_of_ble_eq_true rfl) rfl ?_
  refine a_aload_n d_Brs_walk_29 rfl ?_
  refine a_getf d_Brs_walk_30 f_Brs_78 gb rfl ?_
  refine a_iconst (v := 0) d_Brs_walk_33 (by decide) ?_
  refine a_max d_Brs_walk_34 l_Brs_81 (Nat.le_of_ble_eq_true rfl) (Nat.le_of_ble_eq_true rfl) (Nat.le_of_ble_eq_true rfl) ?_
  refine a_istore d_Brs_walk_37 (Nat.le_of_ble_eq_true rfl) (Nat.le_of_ble_eq_true rfl) rfl ?_
  rw [hm]
  refine a_eq rfl ?_ rfl h0.symm rfl rfl (L_walk hb g19 g20 g21 g22 ht hJ hs hper (per J D t - 1) 0 (by have := per_pos J D t; omega))
  rfl
end
