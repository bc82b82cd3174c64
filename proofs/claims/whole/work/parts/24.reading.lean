/-! Reading: printed by wip/whole/t24.py -/
abbrev oRdg (rw rh : Int32) (rd : Int64) (pl : Int32) : AC := .inr (7, [.int rw, .int rh, .long rd, .int pl])
def hdF (a : Nat) (c : Int32) : Nat := if a = 0 then (if c = 100 then 0 else 1) else if a = 3 then (if c = 59 then 0 else 1) else if c < 48 then 1 else if c ≤ 57 then (if c - 48 < 1 then 2 else if c - 48 ≤ 8 then 0 else 2) else 1
def rwF (W H b : Nat) (c : Int32) : Nat := if b / (W + 1) < H then (if b % (W + 1) = W then (if c = 59 then 0 else 1) else if c < 97 then 1 else if c ≤ 122 then (if c = 120 then 0 else if c = 111 then 0 else 2) else 1) else 1
def rwD (W b : Nat) (c : Int32) (ds : Int64) : Int64 := if c = 120 then ds ||| gBit (nI (b % (W + 1))) (nI (b / (W + 1))) else ds
def rdS (a : Nat) (c : Int32) (q : Nat × Nat × Int64) : Nat × (Nat × Nat × Int64) :=
  if a < 4 then (hdF a c, (if a = 1 then (c - 48).toNatClampNeg else q.1), (if a = 2 then (c - 48).toNatClampNeg else q.2.1), q.2.2)
  else (rwF q.1 q.2.1 (a - 4) c, q.1, q.2.1, rwD q.1 (a - 4) c q.2.2)
def rdQ (f : Nat → Int32) : Nat → Nat × Nat × Int64
  | 0 => (0, 0, 0)
  | a + 1 => (rdS a (f a) (rdQ f a)).2
def rdF (f : Nat → Int32) (a : Nat) : Nat := (rdS a (f a) (rdQ f a)).1
def rdP (f : Nat → Int32) (L : Nat) : Nat := fst1 (fun a => decide (rdF f a ≠ 0)) L
/-- the number of the fault, 0 none -/
def rdN (f : Nat → Int32) (L : Nat) : Nat := if rdP f L < L then rdF f (rdP f L) else if 4 ≤ L ∧ L = 4 + (rdQ f L).2.1 * ((rdQ f L).1 + 1) then 0 else 1
theorem dig_ok {a : Nat} {c : Int32} (h0 : a ≠ 0) (h3 : a ≠ 3) (h : hdF a c = 0) : ∃ d : Nat, 1 ≤ d ∧ d ≤ 8 ∧ c - 48 = nI d ∧ ¬ c < 48 ∧ c ≤ 57 := by
  unfold hdF at h
  rw [if_neg h0, if_neg h3] at h
  split at h
  · cases h
  · rename_i c1
    split at h
    · rename_i c2
      split at h
      · cases h
      · rename_i c3
        split at h
        · rename_i c4
          obtain ⟨d, hd, e⟩ := nI_of2 (x := c - 48) (M := 8) (n := 8) (by decide) (fun q => c3 (by
            have := Int32.lt_iff_toInt_lt.mp q
            apply Int32.lt_iff_toInt_lt.mpr
            have e1 : (1 : Int32).toInt = 1 := by decide
            have e0 : (0 : Int32).toInt = 0 := by decide
            omega)) c4
          refine ⟨d, ?_, hd, e, c1, c2⟩
          rcases Nat.eq_zero_or_pos d with q | q
          · rw [e, q] at c3
            exact absurd (by decide) c3
          · exact q
        · cases h
    · cases h
theorem rdQ_b {f : Nat → Int32} (a : Nat) : (∀ j, j < a → rdF f j = 0) → ((rdQ f a).1 ≤ 8 ∧ (2 ≤ a → 1 ≤ (rdQ f a).1)) ∧ ((rdQ f a).2.1 ≤ 8 ∧ (3 ≤ a → 1 ≤ (rdQ f a).2.1)) := by
  induction a with
  | zero => intro _; simp [rdQ]
  | succ a ih0 =>
    intro h
    have ih := ih0 (fun j hj => h j (by omega))
    have ha := h a (by omega)
    have e0 : rdQ f (a + 1) = (rdS a (f a) (rdQ f a)).2 := rfl
    unfold rdF at ha
    by_cases q : a < 4
    · have e1 : rdS a (f a) (rdQ f a) = (hdF a (f a), (if a = 1 then (f a - 48).toNatClampNeg else (rdQ f a).1), (if a = 2 then (f a - 48).toNatClampNeg else (rdQ f a).2.1), (rdQ f a).2.2) := if_pos q
      rw [e1] at ha
      have ha' : hdF a (f a) = 0 := ha
      have w1 : (rdQ f (a + 1)).1 = if a = 1 then (f a - 48).toNatClampNeg else (rdQ f a).1 := by rw [e0, e1]
      have w2 : (rdQ f (a + 1)).2.1 = if a = 2 then (f a - 48).toNatClampNeg else (rdQ f a).2.1 := by rw [e0, e1]
      rw [w1, w2]
      by_cases q1 : a = 1
      · obtain ⟨d, d1, d2, d3, -⟩ := dig_ok (a := a) (by omega) (by omega) ha'
        rw [if_pos q1, if_neg (by omega), d3, nI_clamp (by omega)]
        exact ⟨⟨d2, fun _ => d1⟩, ih.2.1, fun q9 => by omega⟩
      · by_cases q2 : a = 2
        · obtain ⟨d, d1, d2, d3, -⟩ := dig_ok (a := a) (by omega) (by omega) ha'
          rw [if_neg q1, if_pos q2, d3, nI_clamp (by omega)]
          exact ⟨⟨ih.1.1, fun _ => ih.1.2 (by omega)⟩, d2, fun _ => d1⟩
        · rw [if_neg q1, if_neg q2]
          exact ⟨⟨ih.1.1, fun _ => ih.1.2 (by omega)⟩, ih.2.1, fun _ => ih.2.2 (by omega)⟩
    · have e1 : rdS a (f a) (rdQ f a) = (rwF (rdQ f a).1 (rdQ f a).2.1 (a - 4) (f a), (rdQ f a).1, (rdQ f a).2.1, rwD (rdQ f a).1 (a - 4) (f a) (rdQ f a).2.2) := if_neg q
      have w1 : (rdQ f (a + 1)).1 = (rdQ f a).1 := by rw [e0, e1]
      have w2 : (rdQ f (a + 1)).2.1 = (rdQ f a).2.1 := by rw [e0, e1]
      rw [w1, w2]
      exact ⟨⟨ih.1.1, fun _ => ih.1.2 (by omega)⟩, ih.2.1, fun _ => ih.2.2 (by omega)⟩
section
variable {V : VV} {h : AH} {n z : Nat}

set_option maxRecDepth 20000 in
set_option maxHeartbeats 4000000 in
theorem s_Rdg_head0 {rw rh : Int32} {rd : Int64} {pl : Int32} (g11 : h 11 = oRdg rw rh rd pl) (c : Int32) : AMet V i_Rdg_faultInHead 0 [.ref 11, .int (nI 0), .int c] h n z (some (.int (nI (hdF 0 c)))) (h) n z := by
  refine AMet.intro (Nat.le_refl _) (Nat.le_refl _) (by decide) (Nat.le_of_ble_eq_true rfl) rfl ?_
  refine a_iload_n d_Rdg_faultInHead_0 rfl ?_
  refine a_if_ne 16 d_Rdg_faultInHead_1 (by decide) (fun c1 => absurd c1 (fun q => q rfl)) (fun c1 => ?_)
  refine a_iload_n d_Rdg_faultInHead_4 rfl ?_
  refine a_bipush (v := 100) d_Rdg_faultInHead_5 (by decide) ?_
  refine a_icmp_ne 14 d_Rdg_faultInHead_7 (by decide) (fun c7 => ?_) (fun c7 => ?_)
  · skip
    refine a_iconst (v := 1) d_Rdg_faultInHead_14 (by decide) ?_
    exact a_iret d_Rdg_faultInHead_15 rfl (by simp [hdF, c1, c7]; try rfl) rfl rfl
  · skip
    refine a_iconst (v := 0) d_Rdg_faultInHead_10 (by decide) ?_
    refine a_goto 15 d_Rdg_faultInHead_11 (by decide) ?_
    exact a_iret d_Rdg_faultInHead_15 rfl (by simp [hdF, c1, c7]; try rfl) rfl rfl
set_option maxRecDepth 20000 in
set_option maxHeartbeats 4000000 in
theorem s_Rdg_head3 {rw rh : Int32} {rd : Int64} {pl : Int32} (g11 : h 11 = oRdg rw rh rd pl) (c : Int32) : AMet V i_Rdg_faultInHead 0 [.ref 11, .int (nI 3), .int c] h n z (some (.int (nI (hdF 3 c)))) (h) n z := by
  refine AMet.intro (Nat.le_refl _) (Nat.le_refl _) (by decide) (Nat.le_of_ble_eq_true rfl) rfl ?_
  refine a_iload_n d_Rdg_faultInHead_0 rfl ?_
  refine a_if_ne 16 d_Rdg_faultInHead_1 (by decide) (fun c1 => ?_) (fun c1 => absurd c1 (by decide))
  refine a_iload_n d_Rdg_faultInHead_16 rfl ?_
  refine a_iconst (v := 3) d_Rdg_faultInHead_17 (by decide) ?_
  refine a_icmp_ne 33 d_Rdg_faultInHead_18 (by decide) (fun c18 => absurd c18 (fun q => q rfl)) (fun c18 => ?_)
  refine a_iload_n d_Rdg_faultInHead_21 rfl ?_
  refine a_bipush (v := 59) d_Rdg_faultInHead_22 (by decide) ?_
  refine a_icmp_ne 31 d_Rdg_faultInHead_24 (by decide) (fun c24 => ?_) (fun c24 => ?_)
  · skip
    refine a_iconst (v := 1) d_Rdg_faultInHead_31 (by decide) ?_
    exact a_iret d_Rdg_faultInHead_32 rfl (by simp [hdF, c1, c18, c24]; try rfl) rfl rfl
  · skip
    refine a_iconst (v := 0) d_Rdg_faultInHead_27 (by decide) ?_
    refine a_goto 32 d_Rdg_faultInHead_28 (by decide) ?_
    exact a_iret d_Rdg_faultInHead_32 rfl (by simp [hdF, c1, c18, c24]; try rfl) rfl rfl
set_option maxRecDepth 20000 in
set_option maxHeartbeats 4000000 in
theorem s_Rdg_head1 {rw rh : Int32} {rd : Int64} {pl : Int32} (g11 : h 11 = oRdg rw rh rd pl) {c : Int32} {d : Nat} (h1 : 1 ≤ d) (h2 : d ≤ 8) (e : c - 48 = nI d) (h3 : ¬ c < 48) (h4 : c ≤ 57) : AMet V i_Rdg_faultInHead 0 [.ref 11, .int (nI 1), .int c] h n z (some (.int 0)) (hu h 11 (oRdg (nI d) rh rd pl)) n z := by
  refine AMet.intro (Nat.le_refl _) (Nat.le_refl _) (by decide) (Nat.le_of_ble_eq_true rfl) rfl ?_
  refine a_iload_n d_Rdg_faultInHead_0 rfl ?_
  refine a_if_ne 16 d_Rdg_faultInHead_1 (by decide) (fun c1 => ?_) (fun c1 => absurd c1 (by decide))
  refine a_iload_n d_Rdg_faultInHead_16 rfl ?_
  refine a_iconst (v := 3) d_Rdg_faultInHead_17 (by decide) ?_
  refine a_icmp_ne 33 d_Rdg_faultInHead_18 (by decide) (fun c18 => ?_) (fun c18 => absurd c18 (by decide))
  refine a_iload_n d_Rdg_faultInHead_33 rfl ?_
  refine a_bipush (v := 48) d_Rdg_faultInHead_34 (by decide) ?_
  refine a_icmp_lt 45 d_Rdg_faultInHead_36 (by decide) (fun c36 => absurd c36 h3) (fun c36 => ?_)
  refine a_iload_n d_Rdg_faultInHead_39 rfl ?_
  refine a_bipush (v := 57) d_Rdg_faultInHead_40 (by decide) ?_
  refine a_icmp_le 47 d_Rdg_faultInHead_42 (by decide) (fun c42 => ?_) (fun c42 => absurd h4 c42)
  refine a_iload_n d_Rdg_faultInHead_47 rfl ?_
  refine a_bipush (v := 48) d_Rdg_faultInHead_48 (by decide) ?_
  refine a_isub d_Rdg_faultInHead_50 ?_
  rw [e]
  refine a_istore_n d_Rdg_faultInHead_51 (Nat.le_of_ble_eq_true rfl) (Nat.le_of_ble_eq_true rfl) rfl ?_
  refine a_iload_n d_Rdg_faultInHead_52 rfl ?_
  refine a_iconst (v := 1) d_Rdg_faultInHead_53 (by decide) ?_
  refine a_icmp_lt 63 d_Rdg_faultInHead_54 (by decide) (fun c54 => absurd c54 (nI_nlt (b := 1) h1 (by omega))) (fun c54 => ?_)
  refine a_iload_n d_Rdg_faultInHead_57 rfl ?_
  refine a_bipush (v := 8) d_Rdg_faultInHead_58 (by decide) ?_
  refine a_icmp_le 65 d_Rdg_faultInHead_60 (by decide) (fun c60 => ?_) (fun c60 => absurd (nI_le (b := 8) h2 (by omega)) c60)
  refine a_iload_n d_Rdg_faultInHead_65 rfl ?_
  refine a_iconst (v := 1) d_Rdg_faultInHead_66 (by decide) ?_
  refine a_icmp_ne 78 d_Rdg_faultInHead_67 (by decide) (fun c67 => absurd c67 (fun q => q rfl)) (fun c67 => ?_)
  refine a_aload_n d_Rdg_faultInHead_70 rfl ?_
  refine a_iload_n d_Rdg_faultInHead_71 rfl ?_
  refine a_putf d_Rdg_faultInHead_72 f_Rdg_7 rfl g11 (Nat.le_of_ble_eq_true rfl) rfl rfl ?_
  refine a_goto 83 d_Rdg_faultInHead_75 (by decide) ?_
  refine a_iconst (v := 0) d_Rdg_faultInHead_83 (by decide) ?_
  exact a_iret d_Rdg_faultInHead_84 rfl rfl rfl rfl
set_option maxRecDepth 20000 in
set_option maxHeartbeats 4000000 in
theorem s_Rdg_head1F {rw rh : Int32} {rd : Int64} {pl : Int32} (g11 : h 11 = oRdg rw rh rd pl) {c : Int32} (hf : hdF 1 c ≠ 0) : AMet V i_Rdg_faultInHead 0 [.ref 11, .int (nI 1), .int c] h n z (some (.int (nI (hdF 1 c)))) (h) n z := by
  refine AMet.intro (Nat.le_refl _) (Nat.le_refl _) (by decide) (Nat.le_of_ble_eq_true rfl) rfl ?_
  refine a_iload_n d_Rdg_faultInHead_0 rfl ?_
  refine a_if_ne 16 d_Rdg_faultInHead_1 (by decide) (fun c1 => ?_) (fun c1 => absurd c1 (by decide))
  refine a_iload_n d_Rdg_faultInHead_16 rfl ?_
  refine a_iconst (v := 3) d_Rdg_faultInHead_17 (by decide) ?_
  refine a_icmp_ne 33 d_Rdg_faultInHead_18 (by decide) (fun c18 => ?_) (fun c18 => absurd c18 (by decide))
  refine a_iload_n d_Rdg_faultInHead_33 rfl ?_
  refine a_bipush (v := 48) d_Rdg_faultInHead_34 (by decide) ?_
  refine a_icmp_lt 45 d_Rdg_faultInHead_36 (by decide) (fun c36 => ?_) (fun c36 => ?_)
  · skip
    refine a_iconst (v := 1) d_Rdg_faultInHead_45 (by decide) ?_
    exact a_iret d_Rdg_faultInHead_46 rfl (by simp [hdF, c1, c18, c36]; try rfl) rfl rfl
  · skip
    refine a_iload_n d_Rdg_faultInHead_39 rfl ?_
    refine a_bipush (v := 57) d_Rdg_faultInHead_40 (by decide) ?_
    refine a_icmp_le 47 d_Rdg_faultInHead_42 (by decide) (fun c42 => ?_) (fun c42 => ?_)
    · skip
      refine a_iload_n d_Rdg_faultInHead_47 rfl ?_
      refine a_bipush (v := 48) d_Rdg_faultInHead_48 (by decide) ?_
      refine a_isub d_Rdg_faultInHead_50 ?_
      refine a_istore_n d_Rdg_faultInHead_51 (Nat.le_of_ble_eq_true rfl) (Nat.le_of_ble_eq_true rfl) rfl ?_
      refine a_iload_n d_Rdg_faultInHead_52 rfl ?_
      refine a_iconst (v := 1) d_Rdg_faultInHead_53 (by decide) ?_
      refine a_icmp_lt 63 d_Rdg_faultInHead_54 (by decide) (fun c54 => ?_) (fun c54 => ?_)
      · skip
        refine a_iconst (v := 2) d_Rdg_faultInHead_63 (by decide) ?_
        exact a_iret d_Rdg_faultInHead_64 rfl (by simp [hdF, c1, c18, c36, c42, c54]; try rfl) rfl rfl
      · skip
        refine a_iload_n d_Rdg_faultInHead_57 rfl ?_
        refine a_bipush (v := 8) d_Rdg_faultInHead_58 (by decide) ?_
        refine a_icmp_le 65 d_Rdg_faultInHead_60 (by decide) (fun c60 => ?_) (fun c60 => ?_)
        · skip
          exact absurd (by simp only [hdF, if_neg (show ¬ 1 = 0 by decide), if_neg (show ¬ 1 = 3 by decide), if_neg c36, if_pos c42, if_neg c54, if_pos c60]) hf
        · skip
          refine a_iconst (v := 2) d_Rdg_faultInHead_63 (by decide) ?_
          exact a_iret d_Rdg_faultInHead_64 rfl (by simp [hdF, c1, c18, c36, c42, c54, c60]; try rfl) rfl rfl
    · skip
      refine a_iconst (v := 1) d_Rdg_faultInHead_45 (by decide) ?_
      exact a_iret d_Rdg_faultInHead_46 rfl (by simp [hdF, c1, c18, c36, c42]; try rfl) rfl rfl
set_option maxRecDepth 20000 in
set_option maxHeartbeats 4000000 in
theorem s_Rdg_head2 {rw rh : Int32} {rd : Int64} {pl : Int32} (g11 : h 11 = oRdg rw rh rd pl) {c : Int32} {d : Nat} (h1 : 1 ≤ d) (h2 : d ≤ 8) (e : c - 48 = nI d) (h3 : ¬ c < 48) (h4 : c ≤ 57) : AMet V i_Rdg_faultInHead 0 [.ref 11, .int (nI 2), .int c] h n z (some (.int 0)) (hu h 11 (oRdg rw (nI d) rd pl)) n z := by
  refine AMet.intro (Nat.le_refl _) (Nat.le_refl _) (by decide) (Nat.le_of_ble_eq_true rfl) rfl ?_
  refine a_iload_n d_Rdg_faultInHead_0 rfl ?_
  refine a_if_ne 16 d_Rdg_faultInHead_1 (by decide) (fun c1 => ?_) (fun c1 => absurd c1 (by decide))
  refine a_iload_n d_Rdg_faultInHead_16 rfl ?_
  refine a_iconst (v := 3) d_Rdg_faultInHead_17 (by decide) ?_
  refine a_icmp_ne 33 d_Rdg_faultInHead_18 (by decide) (fun c18 => ?_) (fun c18 => absurd c18 (by decide))
  refine a_iload_n d_Rdg_faultInHead_33 rfl ?_
  refine a_bipush (v := 48) d_Rdg_faultInHead_34 (by decide) ?_
  refine a_icmp_lt 45 d_Rdg_faultInHead_36 (by decide) (fun c36 => absurd c36 h3) (fun c36 => ?_)
  refine a_iload_n d_Rdg_faultInHead_39 rfl ?_
  refine a_bipush (v := 57) d_Rdg_faultInHead_40 (by decide) ?_
  refine a_icmp_le 47 d_Rdg_faultInHead_42 (by decide) (fun c42 => ?_) (fun c42 => absurd h4 c42)
  refine a_iload_n d_Rdg_faultInHead_47 rfl ?_
  refine a_bipush (v := 48) d_Rdg_faultInHead_48 (by decide) ?_
  refine a_isub d_Rdg_faultInHead_50 ?_
  rw [e]
  refine a_istore_n d_Rdg_faultInHead_51 (Nat.le_of_ble_eq_true rfl) (Nat.le_of_ble_eq_true rfl) rfl ?_
  refine a_iload_n d_Rdg_faultInHead_52 rfl ?_
  refine a_iconst (v := 1) d_Rdg_faultInHead_53 (by decide) ?_
  refine a_icmp_lt 63 d_Rdg_faultInHead_54 (by decide) (fun c54 => absurd c54 (nI_nlt (b := 1) h1 (by omega))) (fun c54 => ?_)
  refine a_iload_n d_Rdg_faultInHead_57 rfl ?_
  refine a_bipush (v := 8) d_Rdg_faultInHead_58 (by decide) ?_
  refine a_icmp_le 65 d_Rdg_faultInHead_60 (by decide) (fun c60 => ?_) (fun c60 => absurd (nI_le (b := 8) h2 (by omega)) c60)
  refine a_iload_n d_Rdg_faultInHead_65 rfl ?_
  refine a_iconst (v := 1) d_Rdg_faultInHead_66 (by decide) ?_
  refine a_icmp_ne 78 d_Rdg_faultInHead_67 (by decide) (fun c67 => ?_) (fun c67 => absurd c67 (by decide))
  refine a_aload_n d_Rdg_faultInHead_78 rfl ?_
  refine a_iload_n d_Rdg_faultInHead_79 rfl ?_
  refine a_putf d_Rdg_faultInHead_80 f_Rdg_13 rfl g11 (Nat.le_of_ble_eq_true rfl) rfl rfl ?_
  refine a_iconst (v := 0) d_Rdg_faultInHead_83 (by decide) ?_
  exact a_iret d_Rdg_faultInHead_84 rfl rfl rfl rfl
set_option maxRecDepth 20000 in
set_option maxHeartbeats 4000000 in
theorem s_Rdg_head2F {rw rh : Int32} {rd : Int64} {pl : Int32} (g11 : h 11 = oRdg rw rh rd pl) {c : Int32} (hf : hdF 2 c ≠ 0) : AMet V i_Rdg_faultInHead 0 [.ref 11, .int (nI 2), .int c] h n z (some (.int (nI (hdF 2 c)))) (h) n z := by
  refine AMet.intro (Nat.le_refl _) (Nat.le_refl _) (by decide) (Nat.le_of_ble_eq_true rfl) rfl ?_
  refine a_iload_n d_Rdg_faultInHead_0 rfl ?_
  refine a_if_ne 16 d_Rdg_faultInHead_1 (by decide) (fun c1 => ?_) (fun c1 => absurd c1 (by decide))
  refine a_iload_n d_Rdg_faultInHead_16 rfl ?_
  refine a_iconst (v := 3) d_Rdg_faultInHead_17 (by decide) ?_
  refine a_icmp_ne 33 d_Rdg_faultInHead_18 (by decide) (fun c18 => ?_) (fun c18 => absurd c18 (by decide))
  refine a_iload_n d_Rdg_faultInHead_33 rfl ?_
  refine a_bipush (v := 48) d_Rdg_faultInHead_34 (by decide) ?_
  refine a_icmp_lt 45 d_Rdg_faultInHead_36 (by decide) (fun c36 => ?_) (fun c36 => ?_)
  · skip
    refine a_iconst (v := 1) d_Rdg_faultInHead_45 (by decide) ?_
    exact a_iret d_Rdg_faultInHead_46 rfl (by simp [hdF, c1, c18, c36]; try rfl) rfl rfl
  · skip
    refine a_iload_n d_Rdg_faultInHead_39 rfl ?_
    refine a_bipush (v := 57) d_Rdg_faultInHead_40 (by decide) ?_
    refine a_icmp_le 47 d_Rdg_faultInHead_42 (by decide) (fun c42 => ?_) (fun c42 => ?_)
    · skip
      refine a_iload_n d_Rdg_faultInHead_47 rfl ?_
      refine a_bipush (v := 48) d_Rdg_faultInHead_48 (by decide) ?_
      refine a_isub d_Rdg_faultInHead_50 ?_
      refine a_istore_n d_Rdg_faultInHead_51 (Nat.le_of_ble_eq_true rfl) (Nat.le_of_ble_eq_true rfl) rfl ?_
      refine a_iload_n d_Rdg_faultInHead_52 rfl ?_
      refine a_iconst (v := 1) d_Rdg_faultInHead_53 (by decide) ?_
      refine a_icmp_lt 63 d_Rdg_faultInHead_54 (by decide) (fun c54 => ?_) (fun c54 => ?_)
      · skip
        refine a_iconst (v := 2) d_Rdg_faultInHead_63 (by decide) ?_
        exact a_iret d_Rdg_faultInHead_64 rfl (by simp [hdF, c1, c18, c36, c42, c54]; try rfl) rfl rfl
      · skip
        refine a_iload_n d_Rdg_faultInHead_57 rfl ?_
        refine a_bipush (v := 8) d_Rdg_faultInHead_58 (by decide) ?_
        refine a_icmp_le 65 d_Rdg_faultInHead_60 (by decide) (fun c60 => ?_) (fun c60 => ?_)
        · skip
          exact absurd (by simp only [hdF, if_neg (show ¬ 2 = 0 by decide), if_neg (show ¬ 2 = 3 by decide), if_neg c36, if_pos c42, if_neg c54, if_pos c60]) hf
        · skip
          refine a_iconst (v := 2) d_Rdg_faultInHead_63 (by decide) ?_
          exact a_iret d_Rdg_faultInHead_64 rfl (by simp [hdF, c1, c18, c36, c42, c54, c60]; try rfl) rfl rfl
    · skip
      refine a_iconst (v := 1) d_Rdg_faultInHead_45 (by decide) ?_
      exact a_iret d_Rdg_faultInHead_46 rfl (by simp [hdF, c1, c18, c36, c42]; try rfl) rfl rfl
set_option maxRecDepth 20000 in
set_option maxHeartbeats 4000000 in
theorem s_Rdg_rows {W H : Nat} {rd : Int64} {pl : Int32} (g11 : h 11 = oRdg (nI W) (nI H) rd pl) (hW : 1 ≤ W) (hW8 : W ≤ 8) (hH : H ≤ 8) {b : Nat} (hb : b < 1000) (c : Int32) (hf : rwF W H b c = 0) : AMet V i_Rdg_faultInRows 1 [.ref 11, .int (nI b), .int c] h n z (some (.int 0)) (hu h 11 (oRdg (nI W) (nI H) (rwD W b c rd) pl)) n z := by
  have e0 : nI W + 1 = nI (W + 1) := nI_1 W
  have e1 : nI b - nI b / nI (W + 1) * nI (W + 1) = nI (b % (W + 1)) := pk_rem (by omega) (by omega) (by omega)
  have e2 : nI b / nI (W + 1) = nI (b / (W + 1)) := pk_div (by omega) (by omega) (by omega)
  have l1 : b % (W + 1) < W + 1 := Nat.mod_lt _ (by omega)
  have l2 : b / (W + 1) ≤ b := Nat.div_le_self _ _
  have e3 := nI_ltI (a := b / (W + 1)) (b := H) (by omega) (by omega)
  have e4 := nI_eq (a := b % (W + 1)) (b := W) (by omega) (by omega)
  unfold rwF at hf
  unfold rwD
  refine AMet.intro (Nat.le_refl _) (Nat.le_refl _) (by decide) (Nat.le_of_ble_eq_true rfl) rfl ?_
  refine a_aload_n d_Rdg_faultInRows_0 rfl ?_
  refine a_getf d_Rdg_faultInRows_1 f_Rdg_7 g11 rfl ?_
  refine a_iconst (v := 1) d_Rdg_faultInRows_4 (by decide) ?_
  refine a_iadd d_Rdg_faultInRows_5 ?_
  rw [e0]
  refine a_istore_n d_Rdg_faultInRows_6 (Nat.le_of_ble_eq_true rfl) (Nat.le_of_ble_eq_true rfl) rfl ?_
  refine a_iload_n d_Rdg_faultInRows_7 rfl ?_
  refine a_iconst (v := 1) d_Rdg_faultInRows_8 (by decide) ?_
  refine a_icmp_gt 14 d_Rdg_faultInRows_9 (by decide) (fun c9 => ?_) (fun c9 => absurd (nI_lt (a := 1) (show 1 < W + 1 by omega) (by omega)) c9)
  refine a_iload_n d_Rdg_faultInRows_14 rfl ?_
  refine a_iload_n d_Rdg_faultInRows_15 rfl ?_
  refine a_irem d_Rdg_faultInRows_16 (nI_ne0 (by omega) (by omega)) ?_
  rw [e1]
  refine a_istore d_Rdg_faultInRows_17 (Nat.le_of_ble_eq_true rfl) (Nat.le_of_ble_eq_true rfl) rfl ?_
  refine a_iload_n d_Rdg_faultInRows_19 rfl ?_
  refine a_iload_n d_Rdg_faultInRows_20 rfl ?_
  refine a_idiv d_Rdg_faultInRows_21 (nI_ne0 (by omega) (by omega)) ?_
  rw [e2]
  refine a_istore d_Rdg_faultInRows_22 (Nat.le_of_ble_eq_true rfl) (Nat.le_of_ble_eq_true rfl) rfl ?_
  refine a_iload d_Rdg_faultInRows_24 rfl ?_
  refine a_aload_n d_Rdg_faultInRows_26 rfl ?_
  refine a_getf d_Rdg_faultInRows_27 f_Rdg_13 g11 rfl ?_
  refine a_icmp_lt 35 d_Rdg_faultInRows_30 (by decide) (fun c30 => ?_) (fun c30 => ?_)
  · skip
    refine a_iload d_Rdg_faultInRows_35 rfl ?_
    refine a_aload_n d_Rdg_faultInRows_37 rfl ?_
    refine a_getf d_Rdg_faultInRows_38 f_Rdg_7 g11 rfl ?_
    refine a_icmp_ne 56 d_Rdg_faultInRows_41 (by decide) (fun c41 => ?_) (fun c41 => ?_)
    · skip
      refine a_iload_n d_Rdg_faultInRows_56 rfl ?_
      refine a_bipush (v := 97) d_Rdg_faultInRows_57 (by decide) ?_
      refine a_icmp_lt 68 d_Rdg_faultInRows_59 (by decide) (fun c59 => ?_) (fun c59 => ?_)
      · skip
        refine a_iconst (v := 1) d_Rdg_faultInRows_68 (by decide) ?_
        exact absurd hf (by rw [if_pos (e3.mp c30), if_neg (fun q => c41 (e4.mpr q)), if_pos c59]; decide)
      · skip
        refine a_iload_n d_Rdg_faultInRows_62 rfl ?_
        refine a_bipush (v := 122) d_Rdg_faultInRows_63 (by decide) ?_
        refine a_icmp_le 70 d_Rdg_faultInRows_65 (by decide) (fun c65 => ?_) (fun c65 => ?_)
        · skip
          refine a_iload_n d_Rdg_faultInRows_70 rfl ?_
          refine a_bipush (v := 120) d_Rdg_faultInRows_71 (by decide) ?_
          refine a_icmp_eq 84 d_Rdg_faultInRows_73 (by decide) (fun c73 => ?_) (fun c73 => ?_)
          · skip
            refine a_iload_n d_Rdg_faultInRows_84 rfl ?_
            refine a_bipush (v := 120) d_Rdg_faultInRows_85 (by decide) ?_
            refine a_icmp_ne 106 d_Rdg_faultInRows_87 (by decide) (fun c87 => ?_) (fun c87 => ?_)
            · skip
              refine a_iconst (v := 0) d_Rdg_faultInRows_106 (by decide) ?_
              exact a_iret d_Rdg_faultInRows_107 rfl rfl (by rw [if_neg c87]; exact hu_same g11) rfl
            · skip
              refine a_aload_n d_Rdg_faultInRows_90 rfl ?_
              refine a_dup d_Rdg_faultInRows_91 rfl ?_
              refine a_getf d_Rdg_faultInRows_92 f_Rdg_16 g11 rfl ?_
              refine a_iload d_Rdg_faultInRows_95 rfl ?_
              refine a_iload d_Rdg_faultInRows_97 rfl ?_
              refine a_cs0 d_Rdg_faultInRows_99 m_Grid_bit t_Grid_bit l_Rdg_41 (s_Grid_bit _ _) rfl rfl ⟨Nat.le_of_ble_eq_true rfl, Nat.le_of_ble_eq_true rfl⟩ (Nat.le_of_ble_eq_true rfl)  ?_
              refine a_lor d_Rdg_faultInRows_102 ?_
              refine a_putf d_Rdg_faultInRows_103 f_Rdg_16 rfl g11 (Nat.le_of_ble_eq_true rfl) rfl rfl ?_
              refine a_iconst (v := 0) d_Rdg_faultInRows_106 (by decide) ?_
              exact a_iret d_Rdg_faultInRows_107 rfl rfl (by rw [if_pos c87]; rfl) rfl
          · skip
            refine a_iload_n d_Rdg_faultInRows_76 rfl ?_
            refine a_bipush (v := 111) d_Rdg_faultInRows_77 (by decide) ?_
            refine a_icmp_eq 84 d_Rdg_faultInRows_79 (by decide) (fun c79 => ?_) (fun c79 => ?_)
            · skip
              refine a_iload_n d_Rdg_faultInRows_84 rfl ?_
              refine a_bipush (v := 120) d_Rdg_faultInRows_85 (by decide) ?_
              refine a_icmp_ne 106 d_Rdg_faultInRows_87 (by decide) (fun c87 => ?_) (fun c87 => ?_)
              · skip
                refine a_iconst (v := 0) d_Rdg_faultInRows_106 (by decide) ?_
                exact a_iret d_Rdg_faultInRows_107 rfl rfl (by rw [if_neg c87]; exact hu_same g11) rfl
              · skip
                refine a_aload_n d_Rdg_faultInRows_90 rfl ?_
                refine a_dup d_Rdg_faultInRows_91 rfl ?_
                refine a_getf d_Rdg_faultInRows_92 f_Rdg_16 g11 rfl ?_
                refine a_iload d_Rdg_faultInRows_95 rfl ?_
                refine a_iload d_Rdg_faultInRows_97 rfl ?_
                refine a_cs0 d_Rdg_faultInRows_99 m_Grid_bit t_Grid_bit l_Rdg_41 (s_Grid_bit _ _) rfl rfl ⟨Nat.le_of_ble_eq_true rfl, Nat.le_of_ble_eq_true rfl⟩ (Nat.le_of_ble_eq_true rfl)  ?_
                refine a_lor d_Rdg_faultInRows_102 ?_
                refine a_putf d_Rdg_faultInRows_103 f_Rdg_16 rfl g11 (Nat.le_of_ble_eq_true rfl) rfl rfl ?_
                refine a_iconst (v := 0) d_Rdg_faultInRows_106 (by decide) ?_
                exact a_iret d_Rdg_faultInRows_107 rfl rfl (by rw [if_pos c87]; rfl) rfl
            · skip
              refine a_iconst (v := 2) d_Rdg_faultInRows_82 (by decide) ?_
              exact absurd hf (by rw [if_pos (e3.mp c30), if_neg (fun q => c41 (e4.mpr q)), if_neg c59, if_pos c65, if_neg c73, if_neg c79]; decide)
        · skip
          refine a_iconst (v := 1) d_Rdg_faultInRows_68 (by decide) ?_
          exact absurd hf (by rw [if_pos (e3.mp c30), if_neg (fun q => c41 (e4.mpr q)), if_neg c59, if_neg c65]; decide)
    · skip
      refine a_iload_n d_Rdg_faultInRows_44 rfl ?_
      refine a_bipush (v := 59) d_Rdg_faultInRows_45 (by decide) ?_
      refine a_icmp_ne 54 d_Rdg_faultInRows_47 (by decide) (fun c47 => ?_) (fun c47 => ?_)
      · skip
        refine a_iconst (v := 1) d_Rdg_faultInRows_54 (by decide) ?_
        exact absurd hf (by rw [if_pos (e3.mp c30), if_pos (e4.mp c41), if_neg c47]; decide)
      · skip
        refine a_iconst (v := 0) d_Rdg_faultInRows_50 (by decide) ?_
        refine a_goto 55 d_Rdg_faultInRows_51 (by decide) ?_
        exact a_iret d_Rdg_faultInRows_55 rfl rfl (by rw [if_neg (by rw [c47]; decide)]; exact hu_same g11) rfl
  · skip
    refine a_iconst (v := 1) d_Rdg_faultInRows_33 (by decide) ?_
    exact absurd hf (by rw [if_neg (fun q => c30 (e3.mpr q))]; decide)
set_option maxRecDepth 20000 in
set_option maxHeartbeats 4000000 in
theorem s_Rdg_rowsF {W H : Nat} {rd : Int64} {pl : Int32} (g11 : h 11 = oRdg (nI W) (nI H) rd pl) (hW : 1 ≤ W) (hW8 : W ≤ 8) (hH : H ≤ 8) {b : Nat} (hb : b < 1000) (c : Int32) (hf : rwF W H b c ≠ 0) : AMet V i_Rdg_faultInRows 1 [.ref 11, .int (nI b), .int c] h n z (some (.int (nI (rwF W H b c)))) (h) n z := by
  have e0 : nI W + 1 = nI (W + 1) := nI_1 W
  have e1 : nI b - nI b / nI (W + 1) * nI (W + 1) = nI (b % (W + 1)) := pk_rem (by omega) (by omega) (by omega)
  have e2 : nI b / nI (W + 1) = nI (b / (W + 1)) := pk_div (by omega) (by omega) (by omega)
  have l1 : b % (W + 1) < W + 1 := Nat.mod_lt _ (by omega)
  have l2 : b / (W + 1) ≤ b := Nat.div_le_self _ _
  have e3 := nI_ltI (a := b / (W + 1)) (b := H) (by omega) (by omega)
  have e4 := nI_eq (a := b % (W + 1)) (b := W) (by omega) (by omega)
  refine AMet.intro (Nat.le_refl _) (Nat.le_refl _) (by decide) (Nat.le_of_ble_eq_true rfl) rfl ?_
  refine a_aload_n d_Rdg_faultInRows_0 rfl ?_
  refine a_getf d_Rdg_faultInRows_1 f_Rdg_7 g11 rfl ?_
  refine a_iconst (v := 1) d_Rdg_faultInRows_4 (by decide) ?_
  refine a_iadd d_Rdg_faultInRows_5 ?_
  rw [e0]
  refine a_istore_n d_Rdg_faultInRows_6 (Nat.le_of_ble_eq_true rfl) (Nat.le_of_ble_eq_true rfl) rfl ?_
  refine a_iload_n d_Rdg_faultInRows_7 rfl ?_
  refine a_iconst (v := 1) d_Rdg_faultInRows_8 (by decide) ?_
  refine a_icmp_gt 14 d_Rdg_faultInRows_9 (by decide) (fun c9 => ?_) (fun c9 => absurd (nI_lt (a := 1) (show 1 < W + 1 by omega) (by omega)) c9)
  refine a_iload_n d_Rdg_faultInRows_14 rfl ?_
  refine a_iload_n d_Rdg_faultInRows_15 rfl ?_
  refine a_irem d_Rdg_faultInRows_16 (nI_ne0 (by omega) (by omega)) ?_
  rw [e1]
  refine a_istore d_Rdg_faultInRows_17 (Nat.le_of_ble_eq_true rfl) (Nat.le_of_ble_eq_true rfl) rfl ?_
  refine a_iload_n d_Rdg_faultInRows_19 rfl ?_
  refine a_iload_n d_Rdg_faultInRows_20 rfl ?_
  refine a_idiv d_Rdg_faultInRows_21 (nI_ne0 (by omega) (by omega)) ?_
  rw [e2]
  refine a_istore d_Rdg_faultInRows_22 (Nat.le_of_ble_eq_true rfl) (Nat.le_of_ble_eq_true rfl) rfl ?_
  refine a_iload d_Rdg_faultInRows_24 rfl ?_
  refine a_aload_n d_Rdg_faultInRows_26 rfl ?_
  refine a_getf d_Rdg_faultInRows_27 f_Rdg_13 g11 rfl ?_
  refine a_icmp_lt 35 d_Rdg_faultInRows_30 (by decide) (fun c30 => ?_) (fun c30 => ?_)
  · skip
    refine a_iload d_Rdg_faultInRows_35 rfl ?_
    refine a_aload_n d_Rdg_faultInRows_37 rfl ?_
    refine a_getf d_Rdg_faultInRows_38 f_Rdg_7 g11 rfl ?_
    refine a_icmp_ne 56 d_Rdg_faultInRows_41 (by decide) (fun c41 => ?_) (fun c41 => ?_)
    · skip
      refine a_iload_n d_Rdg_faultInRows_56 rfl ?_
      refine a_bipush (v := 97) d_Rdg_faultInRows_57 (by decide) ?_
      refine a_icmp_lt 68 d_Rdg_faultInRows_59 (by decide) (fun c59 => ?_) (fun c59 => ?_)
      · skip
        refine a_iconst (v := 1) d_Rdg_faultInRows_68 (by decide) ?_
        exact a_iret d_Rdg_faultInRows_69 rfl (show some (Value.int (nI (rwF W H b c))) = _ by unfold rwF; rw [if_pos (e3.mp c30), if_neg (fun q => c41 (e4.mpr q)), if_pos c59]; rfl) rfl rfl
      · skip
        refine a_iload_n d_Rdg_faultInRows_62 rfl ?_
        refine a_bipush (v := 122) d_Rdg_faultInRows_63 (by decide) ?_
        refine a_icmp_le 70 d_Rdg_faultInRows_65 (by decide) (fun c65 => ?_) (fun c65 => ?_)
        · skip
          refine a_iload_n d_Rdg_faultInRows_70 rfl ?_
          refine a_bipush (v := 120) d_Rdg_faultInRows_71 (by decide) ?_
          refine a_icmp_eq 84 d_Rdg_faultInRows_73 (by decide) (fun c73 => ?_) (fun c73 => ?_)
          · skip
            exact absurd (show rwF W H b c = 0 by unfold rwF; rw [if_pos (e3.mp c30), if_neg (fun q => c41 (e4.mpr q)), if_neg c59, if_pos c65, if_pos c73]) hf
          · skip
            refine a_iload_n d_Rdg_faultInRows_76 rfl ?_
            refine a_bipush (v := 111) d_Rdg_faultInRows_77 (by decide) ?_
            refine a_icmp_eq 84 d_Rdg_faultInRows_79 (by decide) (fun c79 => ?_) (fun c79 => ?_)
            · skip
              exact absurd (show rwF W H b c = 0 by unfold rwF; rw [if_pos (e3.mp c30), if_neg (fun q => c41 (e4.mpr q)), if_neg c59, if_pos c65, if_neg c73, if_pos c79]) hf
            · skip
              refine a_iconst (v := 2) d_Rdg_faultInRows_82 (by decide) ?_
              exact a_iret d_Rdg_faultInRows_83 rfl (show some (Value.int (nI (rwF W H b c))) = _ by unfold rwF; rw [if_pos (e3.mp c30), if_neg (fun q => c41 (e4.mpr q)), if_neg c59, if_pos c65, if_neg c73, if_neg c79]; rfl) rfl rfl
        · skip
          refine a_iconst (v := 1) d_Rdg_faultInRows_68 (by decide) ?_
          exact a_iret d_Rdg_faultInRows_69 rfl (show some (Value.int (nI (rwF W H b c))) = _ by unfold rwF; rw [if_pos (e3.mp c30), if_neg (fun q => c41 (e4.mpr q)), if_neg c59, if_neg c65]; rfl) rfl rfl
    · skip
      refine a_iload_n d_Rdg_faultInRows_44 rfl ?_
      refine a_bipush (v := 59) d_Rdg_faultInRows_45 (by decide) ?_
      refine a_icmp_ne 54 d_Rdg_faultInRows_47 (by decide) (fun c47 => ?_) (fun c47 => ?_)
      · skip
        refine a_iconst (v := 1) d_Rdg_faultInRows_54 (by decide) ?_
        exact a_iret d_Rdg_faultInRows_55 rfl (show some (Value.int (nI (rwF W H b c))) = _ by unfold rwF; rw [if_pos (e3.mp c30), if_pos (e4.mp c41), if_neg c47]; rfl) rfl rfl
      · skip
        refine a_iconst (v := 0) d_Rdg_faultInRows_50 (by decide) ?_
        refine a_goto 55 d_Rdg_faultInRows_51 (by decide) ?_
        exact absurd (show rwF W H b c = 0 by unfold rwF; rw [if_pos (e3.mp c30), if_pos (e4.mp c41), if_pos c47]) hf
  · skip
    refine a_iconst (v := 1) d_Rdg_faultInRows_33 (by decide) ?_
    exact a_iret d_Rdg_faultInRows_34 rfl (show some (Value.int (nI (rwF W H b c))) = _ by unfold rwF; rw [if_neg (fun q => c30 (e3.mpr q))]; rfl) rfl rfl
/-- a letter of the head that stands -/
theorem s_Rdg_headOk {W H : Nat} {rd : Int64} {pl : Int32} (g11 : h 11 = oRdg (nI W) (nI H) rd pl) {a : Nat} (ha : a < 4) {c : Int32} (hf : hdF a c = 0) : AMet V i_Rdg_faultInHead 0 [.ref 11, .int (nI a), .int c] h n z (some (.int 0)) (hu h 11 (oRdg (nI (if a = 1 then (c - 48).toNatClampNeg else W)) (nI (if a = 2 then (c - 48).toNatClampNeg else H)) rd pl)) n z := by
  rcases (show a = 0 ∨ a = 1 ∨ a = 2 ∨ a = 3 by omega) with q | q | q | q
  · subst q
    have k := s_Rdg_head0 (V := V) (n := n) (z := z) g11 c
    rw [hf] at k
    rw [if_neg (by decide), if_neg (by decide), hu_same g11]
    exact k
  · subst q
    obtain ⟨d, k1, k2, k3, k4, k5⟩ := dig_ok (a := 1) (by decide) (by decide) hf
    rw [if_pos rfl, if_neg (by decide), k3, nI_clamp (by omega)]
    exact s_Rdg_head1 g11 k1 k2 k3 k4 k5
  · subst q
    obtain ⟨d, k1, k2, k3, k4, k5⟩ := dig_ok (a := 2) (by decide) (by decide) hf
    rw [if_neg (by decide), if_pos rfl, k3, nI_clamp (by omega)]
    exact s_Rdg_head2 g11 k1 k2 k3 k4 k5
  · subst q
    have k := s_Rdg_head3 (V := V) (n := n) (z := z) g11 c
    rw [hf] at k
    rw [if_neg (by decide), if_neg (by decide), hu_same g11]
    exact k
theorem s_Rdg_headF {rw rh : Int32} {rd : Int64} {pl : Int32} (g11 : h 11 = oRdg rw rh rd pl) {a : Nat} (ha : a < 4) {c : Int32} (hf : hdF a c ≠ 0) : AMet V i_Rdg_faultInHead 0 [.ref 11, .int (nI a), .int c] h n z (some (.int (nI (hdF a c)))) h n z := by
  rcases (show a = 0 ∨ a = 1 ∨ a = 2 ∨ a = 3 by omega) with q | q | q | q
  · subst q; exact s_Rdg_head0 g11 c
  · subst q; exact s_Rdg_head1F g11 hf
  · subst q; exact s_Rdg_head2F g11 hf
  · subst q; exact s_Rdg_head3 g11 c
/-- the walk of the tape, from letter a on -/
def rdEnd (f : Nat → Int32) (L : Nat) (w2 h2 : Int32) (d2 : Int64) : Prop := rdP f L = L → w2 = nI (rdQ f L).1 ∧ h2 = nI (rdQ f L).2.1 ∧ d2 = (rdQ f L).2.2
theorem rdP_eq {f : Nat → Int32} {L a : Nat} (ha : a < L) (hok : ∀ j, j < a → rdF f j = 0) (h1 : rdF f a ≠ 0) : rdP f L = a := by
  have h2 : rdP f L ≤ a := fst1_ex _ ha (by simpa using h1)
  rcases Nat.lt_or_ge (rdP f L) a with q | q
  · have h3 := fst1_yes (fun a => decide (rdF f a ≠ 0)) L (show rdP f L < L by omega)
    have h4 := hok _ q
    have : rdF f (rdP f L) ≠ 0 := of_decide_eq_true h3
    exact absurd h4 this
  · omega
theorem rdP_all {f : Nat → Int32} {L : Nat} (hok : ∀ j, j < L → rdF f j = 0) : rdP f L = L := by
  have h2 : rdP f L ≤ L := fst1_le _ _
  rcases Nat.lt_or_ge (rdP f L) L with q | q
  · have h3 := fst1_yes (fun a => decide (rdF f a ≠ 0)) L q
    have : rdF f (rdP f L) ≠ 0 := of_decide_eq_true h3
    exact absurd (hok _ q) this
  · omega
set_option maxRecDepth 20000 in
set_option maxHeartbeats 4000000 in
theorem L_read {L : Nat} {f : Nat → Int32} (g9 : h 9 = oTap (nI L)) (g10 : h 10 = aI 90 f) (hL : L ≤ 90) {pl : Int32} {w2 h2 : Int32} {d2 : Int64} (hw : w2 = nI (rdQ f (min (rdP f L + 0) L)).1) (hh : h2 = nI (rdQ f (min (rdP f L + 0) L)).2.1) (hd : d2 = (rdQ f (min (rdP f L + 0) L)).2.2) : ∀ (m a : Nat), a + m = L → (∀ j, j < a → rdF f j = 0) → AM V i_Rdg_read 2 n z (some (.int (nI (rdN f L)))) (hu h 11 (oRdg w2 h2 d2 (nI (rdP f L)))) n z 22 [some (.ref 11), some (.ref 9), some (.int (nI L)), some (.int (nI a)), none, none] [] (hu h 11 (oRdg (nI (rdQ f a).1) (nI (rdQ f a).2.1) (rdQ f a).2.2 pl)) n z := by
  intro m
  induction m with
  | zero =>
    intro a ham hok
    have e : L = a := by omega
    subst e
    have eP := rdP_all hok
    have qb := rdQ_b L hok
    have ew : w2 = nI (rdQ f L).1 := by rw [hw, eP, Nat.add_zero, Nat.min_self]
    have eh : h2 = nI (rdQ f L).2.1 := by rw [hh, eP, Nat.add_zero, Nat.min_self]
    have ed : d2 = (rdQ f L).2.2 := by rw [hd, eP, Nat.add_zero, Nat.min_self]
    have hm : (rdQ f L).2.1 * ((rdQ f L).1 + 1) ≤ 8 * 9 := Nat.mul_le_mul qb.2.1 (by omega)
    have en : rdN f L = if 4 ≤ L ∧ L = 4 + (rdQ f L).2.1 * ((rdQ f L).1 + 1) then 0 else 1 := by unfold rdN; rw [if_neg (by omega)]
    have e1 : (4 : Int32) + nI (rdQ f L).2.1 * (nI (rdQ f L).1 + 1) = nI (4 + (rdQ f L).2.1 * ((rdQ f L).1 + 1)) := by rw [nI_1, pk_mul, show (4 : Int32) = nI 4 from rfl, nI_add]
    have e2 := nI_eq (a := L) (b := 4 + (rdQ f L).2.1 * ((rdQ f L).1 + 1)) (by omega) (by omega)
    have e3 := nI_ltI (a := L) (b := 4) (by omega) (by omega)
    rw [ew, eh, ed, eP, en]
    refine a_iload_n d_Rdg_read_22 rfl ?_
    refine a_iload_n d_Rdg_read_23 rfl ?_
    refine a_icmp_ge 79 d_Rdg_read_24 (by decide) (fun c24 => ?_) (fun c24 => absurd (Int32.le_refl _) c24)
    refine a_aload_n d_Rdg_read_79 rfl ?_
    refine a_iload_n d_Rdg_read_80 rfl ?_
    refine a_putf d_Rdg_read_81 f_Rdg_36 rfl (hu_s _ _ _) (Nat.le_of_ble_eq_true rfl) rfl rfl ?_
    refine a_iload_n d_Rdg_read_84 rfl ?_
    refine a_iconst (v := 4) d_Rdg_read_85 (by decide) ?_
    refine a_icmp_lt 110 d_Rdg_read_86 (by decide) (fun c86 => ?_) (fun c86 => ?_)
    · skip
      refine a_iconst (v := 1) d_Rdg_read_110 (by decide) ?_
      exact a_iret d_Rdg_read_111 rfl (by rw [if_neg (fun q => absurd (e3.mp c86) (by omega))]; rfl) (by rw [hu_hu]; rfl) rfl
    · skip
      refine a_iload_n d_Rdg_read_89 rfl ?_
      refine a_iconst (v := 4) d_Rdg_read_90 (by decide) ?_
      refine a_aload_n d_Rdg_read_91 rfl ?_
      refine a_getf d_Rdg_read_92 f_Rdg_13 (hu_s _ _ _) rfl ?_
      refine a_aload_n d_Rdg_read_95 rfl ?_
      refine a_getf d_Rdg_read_96 f_Rdg_7 (hu_s _ _ _) rfl ?_
      refine a_iconst (v := 1) d_Rdg_read_99 (by decide) ?_
      refine a_iadd d_Rdg_read_100 ?_
      refine a_imul d_Rdg_read_101 ?_
      refine a_iadd d_Rdg_read_102 ?_
      rw [e1]
      refine a_icmp_ne 110 d_Rdg_read_103 (by decide) (fun c103 => ?_) (fun c103 => ?_)
      · skip
        refine a_iconst (v := 1) d_Rdg_read_110 (by decide) ?_
        exact a_iret d_Rdg_read_111 rfl (by rw [if_neg (fun q => c103 (e2.mpr q.2))]; rfl) (by rw [hu_hu]; rfl) rfl
      · skip
        refine a_iconst (v := 0) d_Rdg_read_106 (by decide) ?_
        refine a_goto 111 d_Rdg_read_107 (by decide) ?_
        exact a_iret d_Rdg_read_111 rfl (by rw [if_pos ⟨Nat.le_of_not_lt (fun q => c86 (e3.mpr q)), e2.mp c103⟩]; rfl) (by rw [hu_hu]; rfl) rfl
  | succ m ih =>
    intro a ham hok
    have qb := rdQ_b a hok
    have eQ : rdQ f (a + 1) = (rdS a (f a) (rdQ f a)).2 := rfl
    by_cases q4 : a < 4
    · have eS : rdS a (f a) (rdQ f a) = (hdF a (f a), (if a = 1 then (f a - 48).toNatClampNeg else (rdQ f a).1), (if a = 2 then (f a - 48).toNatClampNeg else (rdQ f a).2.1), (rdQ f a).2.2) := if_pos q4
      have eF : rdF f a = hdF a (f a) := by unfold rdF; rw [eS]
      by_cases h0 : rdF f a = 0
      · have h0' : hdF a (f a) = 0 := by rw [← eF]; exact h0
        refine a_iload_n d_Rdg_read_22 rfl ?_
        refine a_iload_n d_Rdg_read_23 rfl ?_
        refine a_icmp_ge 79 d_Rdg_read_24 (by decide) (fun c24 => absurd c24 (nI_ge (show a < L by omega) (by omega))) (fun c24 => ?_)
        refine a_aload_n d_Rdg_read_27 rfl ?_
        refine a_iload_n d_Rdg_read_28 rfl ?_
        refine a_cv0 (a := 9) d_Rdg_read_29 m_Tap_letterAt t_Tap_letterAt l_Rdg_25 g9 rfl rfl (s_Tap_letterAt (h := hu h 11 (oRdg (nI (rdQ f a).1) (nI (rdQ f a).2.1) (rdQ f a).2.2 pl)) g9 g10 hL (k := a) (by omega)) rfl rfl ⟨Nat.le_of_ble_eq_true rfl, Nat.le_of_ble_eq_true rfl⟩ (Nat.le_of_ble_eq_true rfl)  ?_
        refine a_istore d_Rdg_read_32 (Nat.le_of_ble_eq_true rfl) (Nat.le_of_ble_eq_true rfl) rfl ?_
        refine a_iload_n d_Rdg_read_34 rfl ?_
        refine a_iconst (v := 4) d_Rdg_read_35 (by decide) ?_
        refine a_icmp_ge 49 d_Rdg_read_36 (by decide) (fun c36 => absurd c36 (nI_ge (b := 4) q4 (by omega))) (fun c36 => ?_)
        refine a_aload_n d_Rdg_read_39 rfl ?_
        refine a_iload_n d_Rdg_read_40 rfl ?_
        refine a_iload d_Rdg_read_41 rfl ?_
        refine a_cv0 (a := 11) d_Rdg_read_43 m_Rdg_faultInHead t_Rdg_faultInHead l_Rdg_29 (hu_s _ _ _) rfl rfl (s_Rdg_headOk (hu_s _ _ _) q4 h0') rfl rfl ⟨Nat.le_of_ble_eq_true rfl, Nat.le_of_ble_eq_true rfl⟩ (Nat.le_of_ble_eq_true rfl)  ?_
        refine a_goto 58 d_Rdg_read_46 (by decide) ?_
        refine a_istore d_Rdg_read_58 (Nat.le_of_ble_eq_true rfl) (Nat.le_of_ble_eq_true rfl) rfl ?_
        refine a_iload d_Rdg_read_60 rfl ?_
        refine a_if_eq 73 d_Rdg_read_62 (by decide) (fun c62 => ?_) (fun c62 => absurd rfl c62)
        refine a_iinc d_Rdg_read_73 rfl (nI_1 a) (Nat.le_of_ble_eq_true rfl) rfl ?_
        refine a_goto 22 d_Rdg_read_76 (by decide) ?_
        refine a_drop 4 ?_
        refine a_drop 5 ?_
        refine a_eq rfl rfl rfl ?_ rfl rfl (ih (a + 1) (by omega) (fun j hj => by rcases Nat.lt_or_ge j a with q | q; exact hok j q; rw [show j = a by omega]; exact h0))
        rw [eQ, eS, hu_hu]
      · have eP := rdP_eq (L := L) (by omega) hok h0
        have h0' : hdF a (f a) ≠ 0 := by rw [← eF]; exact h0
        have efn : rdN f L = hdF a (f a) := by unfold rdN; rw [if_pos (by omega), eP, eF]
        have ew : w2 = nI (rdQ f a).1 := by rw [hw, eP, Nat.add_zero, Nat.min_eq_left (by omega)]
        have eh : h2 = nI (rdQ f a).2.1 := by rw [hh, eP, Nat.add_zero, Nat.min_eq_left (by omega)]
        have ed : d2 = (rdQ f a).2.2 := by rw [hd, eP, Nat.add_zero, Nat.min_eq_left (by omega)]
        have hlt : hdF a (f a) ≤ 2 := by unfold hdF; (repeat' split) <;> omega
        have hne : nI (hdF a (f a)) ≠ 0 := nI_ne0 (by omega) (by omega)
        rw [ew, eh, ed, eP]
        refine a_iload_n d_Rdg_read_22 rfl ?_
        refine a_iload_n d_Rdg_read_23 rfl ?_
        refine a_icmp_ge 79 d_Rdg_read_24 (by decide) (fun c24 => absurd c24 (nI_ge (show a < L by omega) (by omega))) (fun c24 => ?_)
        refine a_aload_n d_Rdg_read_27 rfl ?_
        refine a_iload_n d_Rdg_read_28 rfl ?_
        refine a_cv0 (a := 9) d_Rdg_read_29 m_Tap_letterAt t_Tap_letterAt l_Rdg_25 g9 rfl rfl (s_Tap_letterAt (h := hu h 11 (oRdg (nI (rdQ f a).1) (nI (rdQ f a).2.1) (rdQ f a).2.2 pl)) g9 g10 hL (k := a) (by omega)) rfl rfl ⟨Nat.le_of_ble_eq_true rfl, Nat.le_of_ble_eq_true rfl⟩ (Nat.le_of_ble_eq_true rfl)  ?_
        refine a_istore d_Rdg_read_32 (Nat.le_of_ble_eq_true rfl) (Nat.le_of_ble_eq_true rfl) rfl ?_
        refine a_iload_n d_Rdg_read_34 rfl ?_
        refine a_iconst (v := 4) d_Rdg_read_35 (by decide) ?_
        refine a_icmp_ge 49 d_Rdg_read_36 (by decide) (fun c36 => absurd c36 (nI_ge (b := 4) q4 (by omega))) (fun c36 => ?_)
        refine a_aload_n d_Rdg_read_39 rfl ?_
        refine a_iload_n d_Rdg_read_40 rfl ?_
        refine a_iload d_Rdg_read_41 rfl ?_
        refine a_cv0 (a := 11) d_Rdg_read_43 m_Rdg_faultInHead t_Rdg_faultInHead l_Rdg_29 (hu_s _ _ _) rfl rfl (s_Rdg_headF (hu_s _ _ _) q4 h0') rfl rfl ⟨Nat.le_of_ble_eq_true rfl, Nat.le_of_ble_eq_true rfl⟩ (Nat.le_of_ble_eq_true rfl)  ?_
        refine a_goto 58 d_Rdg_read_46 (by decide) ?_
        refine a_istore d_Rdg_read_58 (Nat.le_of_ble_eq_true rfl) (Nat.le_of_ble_eq_true rfl) rfl ?_
        refine a_iload d_Rdg_read_60 rfl ?_
        refine a_if_eq 73 d_Rdg_read_62 (by decide) (fun c62 => absurd c62 hne) (fun c62 => ?_)
        refine a_aload_n d_Rdg_read_65 rfl ?_
        refine a_iload_n d_Rdg_read_66 rfl ?_
        refine a_putf d_Rdg_read_67 f_Rdg_36 rfl (hu_s _ _ _) (Nat.le_of_ble_eq_true rfl) rfl rfl ?_
        refine a_iload d_Rdg_read_70 rfl ?_
        exact a_iret d_Rdg_read_72 rfl (by rw [efn]) (by rw [hu_hu]; rfl) rfl
    · have eS : rdS a (f a) (rdQ f a) = (rwF (rdQ f a).1 (rdQ f a).2.1 (a - 4) (f a), (rdQ f a).1, (rdQ f a).2.1, rwD (rdQ f a).1 (a - 4) (f a) (rdQ f a).2.2) := if_neg q4
      have eF : rdF f a = rwF (rdQ f a).1 (rdQ f a).2.1 (a - 4) (f a) := by unfold rdF; rw [eS]
      by_cases h0 : rdF f a = 0
      · have h0' : rwF (rdQ f a).1 (rdQ f a).2.1 (a - 4) (f a) = 0 := by rw [← eF]; exact h0
        refine a_iload_n d_Rdg_read_22 rfl ?_
        refine a_iload_n d_Rdg_read_23 rfl ?_
        refine a_icmp_ge 79 d_Rdg_read_24 (by decide) (fun c24 => absurd c24 (nI_ge (show a < L by omega) (by omega))) (fun c24 => ?_)
        refine a_aload_n d_Rdg_read_27 rfl ?_
        refine a_iload_n d_Rdg_read_28 rfl ?_
        refine a_cv0 (a := 9) d_Rdg_read_29 m_Tap_letterAt t_Tap_letterAt l_Rdg_25 g9 rfl rfl (s_Tap_letterAt (h := hu h 11 (oRdg (nI (rdQ f a).1) (nI (rdQ f a).2.1) (rdQ f a).2.2 pl)) g9 g10 hL (k := a) (by omega)) rfl rfl ⟨Nat.le_of_ble_eq_true rfl, Nat.le_of_ble_eq_true rfl⟩ (Nat.le_of_ble_eq_true rfl)  ?_
        refine a_istore d_Rdg_read_32 (Nat.le_of_ble_eq_true rfl) (Nat.le_of_ble_eq_true rfl) rfl ?_
        refine a_iload_n d_Rdg_read_34 rfl ?_
        refine a_iconst (v := 4) d_Rdg_read_35 (by decide) ?_
        refine a_icmp_ge 49 d_Rdg_read_36 (by decide) (fun c36 => ?_) (fun c36 => absurd (nI_le (a := 4) (show 4 ≤ a by omega) (by omega)) c36)
        refine a_aload_n d_Rdg_read_49 rfl ?_
        refine a_iload_n d_Rdg_read_50 rfl ?_
        refine a_iconst (v := 4) d_Rdg_read_51 (by decide) ?_
        refine a_isub d_Rdg_read_52 ?_
        refine a_iload d_Rdg_read_53 rfl ?_
        rw [show (4 : Int32) = nI 4 from rfl, pk_sub (show 4 ≤ a by omega)]
        refine a_cv0 (a := 11) d_Rdg_read_55 m_Rdg_faultInRows t_Rdg_faultInRows l_Rdg_33 (hu_s _ _ _) rfl rfl (s_Rdg_rows (hu_s _ _ _) (qb.1.2 (by omega)) qb.1.1 qb.2.1 (b := a - 4) (by omega) (f a) h0') rfl rfl ⟨Nat.le_of_ble_eq_true rfl, Nat.le_of_ble_eq_true rfl⟩ (Nat.le_of_ble_eq_true rfl)  ?_
        refine a_istore d_Rdg_read_58 (Nat.le_of_ble_eq_true rfl) (Nat.le_of_ble_eq_true rfl) rfl ?_
        refine a_iload d_Rdg_read_60 rfl ?_
        refine a_if_eq 73 d_Rdg_read_62 (by decide) (fun c62 => ?_) (fun c62 => absurd rfl c62)
        refine a_iinc d_Rdg_read_73 rfl (nI_1 a) (Nat.le_of_ble_eq_true rfl) rfl ?_
        refine a_goto 22 d_Rdg_read_76 (by decide) ?_
        refine a_drop 4 ?_
        refine a_drop 5 ?_
        refine a_eq rfl rfl rfl ?_ rfl rfl (ih (a + 1) (by omega) (fun j hj => by rcases Nat.lt_or_ge j a with q | q; exact hok j q; rw [show j = a by omega]; exact h0))
        rw [eQ, eS, hu_hu]
      · have eP := rdP_eq (L := L) (by omega) hok h0
        have h0' : rwF (rdQ f a).1 (rdQ f a).2.1 (a - 4) (f a) ≠ 0 := by rw [← eF]; exact h0
        have efn : rdN f L = rwF (rdQ f a).1 (rdQ f a).2.1 (a - 4) (f a) := by unfold rdN; rw [if_pos (by omega), eP, eF]
        have ew : w2 = nI (rdQ f a).1 := by rw [hw, eP, Nat.add_zero, Nat.min_eq_left (by omega)]
        have eh : h2 = nI (rdQ f a).2.1 := by rw [hh, eP, Nat.add_zero, Nat.min_eq_left (by omega)]
        have ed : d2 = (rdQ f a).2.2 := by rw [hd, eP, Nat.add_zero, Nat.min_eq_left (by omega)]
        have hlt : rwF (rdQ f a).1 (rdQ f a).2.1 (a - 4) (f a) ≤ 2 := by unfold rwF; (repeat' split) <;> omega
        have hne : nI (rwF (rdQ f a).1 (rdQ f a).2.1 (a - 4) (f a)) ≠ 0 := nI_ne0 (by omega) (by omega)
        rw [ew, eh, ed, eP]
        refine a_iload_n d_Rdg_read_22 rfl ?_
        refine a_iload_n d_Rdg_read_23 rfl ?_
        refine a_icmp_ge 79 d_Rdg_read_24 (by decide) (fun c24 => absurd c24 (nI_ge (show a < L by omega) (by omega))) (fun c24 => ?_)
        refine a_aload_n d_Rdg_read_27 rfl ?_
        refine a_iload_n d_Rdg_read_28 rfl ?_
        refine a_cv0 (a := 9) d_Rdg_read_29 m_Tap_letterAt t_Tap_letterAt l_Rdg_25 g9 rfl rfl (s_Tap_letterAt (h := hu h 11 (oRdg (nI (rdQ f a).1) (nI (rdQ f a).2.1) (rdQ f a).2.2 pl)) g9 g10 hL (k := a) (by omega)) rfl rfl ⟨Nat.le_of_ble_eq_true rfl, Nat.le_of_ble_eq_true rfl⟩ (Nat.le_of_ble_eq_true rfl)  ?_
        refine a_istore d_Rdg_read_32 (Nat.le_of_ble_eq_true rfl) (Nat.le_of_ble_eq_true rfl) rfl ?_
        refine a_iload_n d_Rdg_read_34 rfl ?_
        refine a_iconst (v := 4) d_Rdg_read_35 (by decide) ?_
        refine a_icmp_ge 49 d_Rdg_read_36 (by decide) (fun c36 => ?_) (fun c36 => absurd (nI_le (a := 4) (show 4 ≤ a by omega) (by omega)) c36)
        refine a_aload_n d_Rdg_read_49 rfl ?_
        refine a_iload_n d_Rdg_read_50 rfl ?_
        refine a_iconst (v := 4) d_Rdg_read_51 (by decide) ?_
        refine a_isub d_Rdg_read_52 ?_
        refine a_iload d_Rdg_read_53 rfl ?_
        rw [show (4 : Int32) = nI 4 from rfl, pk_sub (show 4 ≤ a by omega)]
        refine a_cv0 (a := 11) d_Rdg_read_55 m_Rdg_faultInRows t_Rdg_faultInRows l_Rdg_33 (hu_s _ _ _) rfl rfl (s_Rdg_rowsF (hu_s _ _ _) (qb.1.2 (by omega)) qb.1.1 qb.2.1 (b := a - 4) (by omega) (f a) h0') rfl rfl ⟨Nat.le_of_ble_eq_true rfl, Nat.le_of_ble_eq_true rfl⟩ (Nat.le_of_ble_eq_true rfl)  ?_
        refine a_istore d_Rdg_read_58 (Nat.le_of_ble_eq_true rfl) (Nat.le_of_ble_eq_true rfl) rfl ?_
        refine a_iload d_Rdg_read_60 rfl ?_
        refine a_if_eq 73 d_Rdg_read_62 (by decide) (fun c62 => absurd c62 hne) (fun c62 => ?_)
        refine a_aload_n d_Rdg_read_65 rfl ?_
        refine a_iload_n d_Rdg_read_66 rfl ?_
        refine a_putf d_Rdg_read_67 f_Rdg_36 rfl (hu_s _ _ _) (Nat.le_of_ble_eq_true rfl) rfl rfl ?_
        refine a_iload d_Rdg_read_70 rfl ?_
        exact a_iret d_Rdg_read_72 rfl (by rw [efn]) (by rw [hu_hu]; rfl) rfl
set_option maxRecDepth 20000 in
set_option maxHeartbeats 4000000 in
theorem s_Rdg_read {L : Nat} {f : Nat → Int32} (g9 : h 9 = oTap (nI L)) (g10 : h 10 = aI 90 f) (hL : L ≤ 90) {rw rh : Int32} {rd : Int64} {pl : Int32} (g11 : h 11 = oRdg rw rh rd pl) : ∃ w2 h2 d2, AMet V i_Rdg_read 2 [.ref 11, .ref 9] h n z (some (.int (nI (rdN f L)))) (hu h 11 (oRdg w2 h2 d2 (nI (rdP f L)))) n z ∧ rdEnd f L w2 h2 d2 := by
  refine ⟨nI (rdQ f (min (rdP f L + 0) L)).1, nI (rdQ f (min (rdP f L + 0) L)).2.1, (rdQ f (min (rdP f L + 0) L)).2.2, ?_, fun q => by rw [q, Nat.add_zero, Nat.min_self]; exact ⟨rfl, rfl, rfl⟩⟩
  refine AMet.intro (Nat.le_refl _) (Nat.le_refl _) (by decide) (Nat.le_of_ble_eq_true rfl) rfl ?_
  refine a_aload_n d_Rdg_read_0 rfl ?_
  refine a_iconst (v := 0) d_Rdg_read_1 (by decide) ?_
  refine a_putf d_Rdg_read_2 f_Rdg_7 rfl g11 (Nat.le_of_ble_eq_true rfl) rfl rfl ?_
  refine a_aload_n d_Rdg_read_5 rfl ?_
  refine a_iconst (v := 0) d_Rdg_read_6 (by decide) ?_
  refine a_putf d_Rdg_read_7 f_Rdg_13 rfl rfl (Nat.le_of_ble_eq_true rfl) rfl rfl ?_
  refine a_aload_n d_Rdg_read_10 rfl ?_
  refine a_lconst (v := 0) d_Rdg_read_11 rfl ?_
  refine a_putf d_Rdg_read_12 f_Rdg_16 rfl rfl (Nat.le_of_ble_eq_true rfl) rfl rfl ?_
  refine a_aload_n d_Rdg_read_15 rfl ?_
  refine a_getf d_Rdg_read_16 f_Rdg_20 g9 rfl ?_
  refine a_istore_n d_Rdg_read_19 (Nat.le_of_ble_eq_true rfl) (Nat.le_of_ble_eq_true rfl) rfl ?_
  refine a_iconst (v := 0) d_Rdg_read_20 (by decide) ?_
  refine a_istore_n d_Rdg_read_21 (Nat.le_of_ble_eq_true rfl) (Nat.le_of_ble_eq_true rfl) rfl ?_
  refine a_eq rfl rfl rfl ?_ rfl rfl (L_read (pl := pl) g9 g10 hL rfl rfl rfl L 0 (by omega) (fun j hj => absurd hj (Nat.not_lt_zero j)))
  rw [hu_hu, hu_hu]
  rfl
end
