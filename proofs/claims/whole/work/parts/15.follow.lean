/-! Borders.follow whole: printed by wip/whole/t15.py -/
theorem Rc.use' {V : VV} {I : MI} {d pc : Nat} {lv : List (Option Value)} {st : List Value} {h h1 : AH} {n z : Nat} {pc' : Nat} {lv' : List (Option Value)} {st' : List Value} {h' : AH} {mc ms : Nat} {Qf : QF} {n0 z0 : Nat} (r : Rc V I d pc lv st h n z pc' lv' st' h' n z) (e : h1 = h) (k : AW V I (RmM d mc ms) Qf n0 z0 pc' lv' st' h' n z) : AW V I (RmM d mc ms) Qf n0 z0 pc lv st h1 n z := by
  subst e
  exact r.use k
section
variable {V : VV} {h : AH} {n z : Nat}

set_option maxRecDepth 20000 in
set_option maxHeartbeats 4000000 in
theorem s_Brs_followHit {D : Int64} {jn sz : Int32} (g19 : h 19 = oBrs 1 D jn sz) : AMet V i_Brs_follow 3 [.ref 19, .long D, .int jn] h n z (none) (h) n z := by
  refine AMet.intro (Nat.le_refl _) (Nat.le_refl _) (by decide) (Nat.le_of_ble_eq_true rfl) rfl ?_
  refine a_aload_n d_Brs_follow_0 rfl ?_
  refine a_getf d_Brs_follow_1 f_Brs_42 g19 rfl ?_
  refine a_if_eq 25 d_Brs_follow_4 (by decide) (fun c4 => absurd c4 (by decide)) (fun c4 => ?_)
  refine a_aload_n d_Brs_follow_7 rfl ?_
  refine a_getf d_Brs_follow_8 f_Brs_46 g19 rfl ?_
  refine a_lload_n d_Brs_follow_11 rfl ?_
  refine a_lcmp d_Brs_follow_12 ?_
  refine a_if_ne 25 d_Brs_follow_13 (by decide) (fun c13 => absurd c13 (fun q => q (cmp0.mpr rfl))) (fun c13 => ?_)
  refine a_aload_n d_Brs_follow_16 rfl ?_
  refine a_getf d_Brs_follow_17 f_Brs_50 g19 rfl ?_
  refine a_iload_n d_Brs_follow_20 rfl ?_
  refine a_icmp_ne 25 d_Brs_follow_21 (by decide) (fun c21 => absurd c21 (fun q => q rfl)) (fun c21 => ?_)
  exact a_vret d_Brs_follow_24 rfl rfl rfl rfl
set_option maxRecDepth 20000 in
set_option maxHeartbeats 4000000 in
theorem L_followMiss {J : Bool} {D : Int64} {jn wkd jn0 sz : Int32} {dt : Int64} (hJ : J = decide (jn = 1)) (G : GoodD J D) (g19 : h 19 = oBrs wkd dt jn0 sz) {xs ys ws : Nat → Int32} (g20 : h 20 = aI 144 xs) (g21 : h 21 = aI 144 ys) (g22 : h 22 = aI 144 ws) {kn : Nat → Option Nat} {kc : Nat} (kN : KN h n kn kc) : ∃ h' n' z', FI J D jn 64 h h' n' ∧ n ≤ n' ∧ z ≤ z' ∧ z' + 7 * n = z + 7 * n' ∧ AM V i_Brs_follow 3 n z none h' n' z' 25 [some (.ref 19), some (.long D), none, some (.int jn), none, none, none, none, none] [] h n z := by
  have F : FI J D jn 0 h (hu h 19 (oBrs 1 D jn 0)) n := by
    refine ⟨xs, ys, ws, kn, kc, hu_s _ _ _, g20, g21, g22, ⟨kN.1, kN.2.1, kN.2.2.1, fun j hj => ⟨(kN.2.2.2.1 j hj).1, ?_⟩, kN.2.2.2.2⟩, Nat.zero_le _, fun t' ht' => absurd ht' (Nat.not_lt_zero _), fun i q0 q1 q2 q3 q4 q5 => hu_n q1⟩
    obtain ⟨a1, a2, a3, a4, a5, a6, a7, ea⟩ := (kN.2.2.2.1 j hj).2
    exact ⟨a1, a2, a3, a4, a5, a6, a7, by rw [hu_n (by omega)]; exact ea⟩
  obtain ⟨h', n', z', r1, r2, r3, r4, r5⟩ := L_follow (V := V) hJ G 64 0 rfl _ n z F
  refine ⟨h', n', z', r1, r2, r3, r4, ?_⟩
  refine a_aload_n d_Brs_follow_25 rfl ?_
  refine a_iconst (v := 1) d_Brs_follow_26 (by decide) ?_
  refine a_putf d_Brs_follow_27 f_Brs_42 rfl g19 (Nat.le_of_ble_eq_true rfl) rfl rfl ?_
  refine a_aload_n d_Brs_follow_30 rfl ?_
  refine a_lload_n d_Brs_follow_31 rfl ?_
  refine a_putf d_Brs_follow_32 f_Brs_46 rfl rfl (Nat.le_of_ble_eq_true rfl) rfl rfl ?_
  refine a_aload_n d_Brs_follow_35 rfl ?_
  refine a_iload_n d_Brs_follow_36 rfl ?_
  refine a_putf d_Brs_follow_37 f_Brs_50 rfl rfl (Nat.le_of_ble_eq_true rfl) rfl rfl ?_
  refine a_aload_n d_Brs_follow_40 rfl ?_
  refine a_iconst (v := 0) d_Brs_follow_41 (by decide) ?_
  refine a_putf d_Brs_follow_42 f_Brs_27 rfl rfl (Nat.le_of_ble_eq_true rfl) rfl rfl ?_
  refine a_aload_n d_Brs_follow_45 rfl ?_
  refine a_getf d_Brs_follow_46 f_Brs_46 rfl rfl ?_
  refine a_lstore d_Brs_follow_49 (Nat.le_of_ble_eq_true rfl) (Nat.le_of_ble_eq_true rfl) rfl ?_
  refine a_iconst (v := 0) d_Brs_follow_51 (by decide) ?_
  refine a_istore d_Brs_follow_52 (Nat.le_of_ble_eq_true rfl) (Nat.le_of_ble_eq_true rfl) rfl ?_
  refine a_iconst (v := 0) d_Brs_follow_54 (by decide) ?_
  refine a_istore d_Brs_follow_55 (Nat.le_of_ble_eq_true rfl) (Nat.le_of_ble_eq_true rfl) rfl ?_
  refine a_eq rfl ?_ rfl ?_ rfl rfl (r5 _ _ _ _ _ (by omega) (by omega) ?_)
  · rfl
  · simp only [hu_hu]
    rfl
  · exact a_vret d_Brs_follow_131 rfl rfl rfl rfl
set_option maxRecDepth 20000 in
set_option maxHeartbeats 4000000 in
theorem s_Brs_followMiss {J : Bool} {D : Int64} {jn wkd jn0 sz : Int32} {dt : Int64} (hJ : J = decide (jn = 1)) (G : GoodD J D) (g19 : h 19 = oBrs wkd dt jn0 sz) (hm : ¬ (¬ wkd = 0 ∧ dt = D ∧ jn0 = jn)) {xs ys ws : Nat → Int32} (g20 : h 20 = aI 144 xs) (g21 : h 21 = aI 144 ys) (g22 : h 22 = aI 144 ws) {kn : Nat → Option Nat} {kc : Nat} (kN : KN h n kn kc) : ∃ h' n' z', FI J D jn 64 h h' n' ∧ n ≤ n' ∧ z ≤ z' ∧ z' + 7 * n = z + 7 * n' ∧ AMet V i_Brs_follow 3 [.ref 19, .long D, .int jn] h n z none h' n' z' := by
  obtain ⟨h', n', z', r1, r2, r3, r4, r5⟩ := L_followMiss (V := V) (z := z) hJ G g19 g20 g21 g22 kN
  refine ⟨h', n', z', r1, r2, r3, r4, ?_⟩
  refine AMet.intro r2 r3 (by decide) (Nat.le_of_ble_eq_true rfl) rfl ?_
  refine a_aload_n d_Brs_follow_0 rfl ?_
  refine a_getf d_Brs_follow_1 f_Brs_42 g19 rfl ?_
  refine a_if_eq 25 d_Brs_follow_4 (by decide) (fun c4 => ?_) (fun c4 => ?_)
  · skip
    exact r5
  · skip
    refine a_aload_n d_Brs_follow_7 rfl ?_
    refine a_getf d_Brs_follow_8 f_Brs_46 g19 rfl ?_
    refine a_lload_n d_Brs_follow_11 rfl ?_
    refine a_lcmp d_Brs_follow_12 ?_
    refine a_if_ne 25 d_Brs_follow_13 (by decide) (fun c13 => ?_) (fun c13 => ?_)
    · skip
      exact r5
    · skip
      refine a_aload_n d_Brs_follow_16 rfl ?_
      refine a_getf d_Brs_follow_17 f_Brs_50 g19 rfl ?_
      refine a_iload_n d_Brs_follow_20 rfl ?_
      refine a_icmp_ne 25 d_Brs_follow_21 (by decide) (fun c21 => ?_) (fun c21 => ?_)
      · skip
        exact r5
      · skip
        exact absurd ⟨c4, cmp0.mp c13, c21⟩ hm
end
