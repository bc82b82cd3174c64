/-! THE CLAIM OUT OF ONE WALK OF THE LAW'S BODY. Your part is whole_start (and what it stands on); all else here is the same for every law, but numbers. -/
def R_law : String := "DotOutlinesLaw"
def lw_P (b : Addr) (xs : List Int32) (args : Array Value) (s : State) : Prop := args = #[.ref b] ∧ s.IntsAt b xs ∧ xs.length ≤ 3072 ∧ (Jvm.Cond.and given_1 narrow_1).before args s = true
def lw_Q (_ : Array Value) (s : State) (o : Outcome) (t : State) : Prop := o = .returned (some (.int 1)) ∧ Framed s o t [] 600000 7302250
def lw_Z (below : List Frame) (a : Array Value) (s : State) : State → Prop := fun t => ∃ o, t.status = .running ∧ Ended t below o ∧ lw_Q a s o t
/-- the law's own end, with 1 on the stack, nothing written that was there before, its room as the claim has it -/
theorem lw_ret {p : Program} {l : Launch} {e : Env} {s : State} {m : MethodId} {below : List Frame} {meth : Method} {c : Code} {b : Nat} (hx : p.tables.exec = Jvm.exec) (hb : c.code = code) (hr : meth.sig.returnType = ret) (hlocks : meth.locks = false) {pc : Nat} {H : Heap} {ls : Array Slot} (hdg : decode code pc = .ok (.ireturn, 1)) : W p l e room_1 s m #[Value.ref b] below meth c H [] 600000 7302250 (lw_Z below #[Value.ref b] s) (F0 m pc ls [.int 1]) := by
  intro T hT X
  obtain ⟨fs, hret, hrun, hended, hW, hframe⟩ := X.leave (v := some (.int 1)) (hlocks := hlocks) (fun h => by rw [hr] at h; cases h)
  have hmeth' : T.vm.method? m = some meth := X.method'
  refine ⟨T.setFrames fs, ?_, .returned (some (.int 1)), hrun, hended, rfl, ⟨_, rfl⟩, hW, hframe⟩
  jvm_step X.here [X.here.top, hx, hb, hdg, hmeth', hr, ret, narrow_b1]
  (try refine ⟨rfl, ?_⟩); (try refine ⟨rfl, ?_⟩)
  first | (intro acts; rw [hret _ acts rfl rfl rfl]) | rw [hret _ _ rfl rfl rfl]
  exact Steps.refl _
/-- what holds at the law's entry: the machine, the code, the tables' words (any of lw_tbl by 'hts w (by decide +kernel)'), the script of L ints xs at the cell b, what the Statement gives of the start (any of its parts by flat_of_before) -/
def lw_At (p : Program) (s : State) (m : MethodId) (meth : Method) (c : Code) (b L : Nat) (xs : Nat → Int32) : Prop :=
  p.tables.exec = Jvm.exec ∧ c.code = code ∧ meth.sig.returnType = ret ∧ c.maxLocals = 4 ∧ s.vm.findClass R_law = some m.cls ∧ (∀ w ∈ lw_tbl, w.before #[Value.ref b] s = true) ∧ va_X b L xs s s.heap ∧ b < s.heap.size ∧ meth.locks = false ∧ (Jvm.Cond.and given_1 narrow_1).before #[Value.ref b] s = true ∧ meth.name = "law"

/-! THE LAW, its loop: printed by wip/whole/t89.py -/
/-- the law's end, wherever it was begun -/
def Qlaw (V : VV) (b : Nat) : QF := fun below args s t => args = #[Value.ref b] → s.heap.size ≤ vb V → lw_Z below args s t
theorem a_lawret {V : VV} {b pc : Nat} {lv : List (Option Value)} {h : AH} {n z : Nat} (dg : decode code pc = .ok (.ireturn, 1)) : AW V i_Law_law room_1 (Qlaw V b) 8 0 pc lv [.int 1] h n z := by
  intro p l e s m args below meth c H locs ls X hS hP hL h1 h2 h3 h4
  by_cases hh : args = #[Value.ref b] ∧ s.heap.size ≤ vb V
  · obtain ⟨ea, hv⟩ := hh
    subst ea
    have K : W p l e room_1 s m #[Value.ref b] below meth c H [] 600000 7302250 (lw_Z below #[Value.ref b] s) (F0 m pc ls [.int 1]) := lw_ret X.1 X.2.1 X.2.2.2.2.2.1 X.2.2.2.2.2.2.1 dg
    have K2 : W p l e room_1 s m #[Value.ref b] below meth c H locs (n - 8) (z - 0) (lw_Z below #[Value.ref b] s) (F0 m pc ls [.int 1]) := by
      refine va_forget (fun q hq => Nat.le_trans hv (hS.2.2 q hq)) ?_
      refine W.widen (k := 600000) (n := 7302250) (by have : n ≤ 8 + 600000 := h2; omega) (by have : z ≤ 0 + 7302250 := h4; omega) ?_
      exact K
    intro T hT XX
    obtain ⟨t, t1, t2⟩ := K2 T hT XX
    exact ⟨t, t1, fun _ _ => t2⟩
  · intro T hT XX
    exact ⟨_, Steps.refl _, fun e1 e2 => absurd ⟨e1, e2⟩ hh⟩
section
variable {V : VV}

set_option maxRecDepth 20000 in
set_option maxHeartbeats 4000000 in
theorem L_law {b z0 : Nat} (hz0 : z0 ≤ 30000) (hL : tL V 7 ≤ 3072) : ∀ (m i : Nat), tL V 7 - i ≤ m → i ≤ tL V 7 → ∀ (h : AH) (n z : Nat), INV z0 h n z → AW V i_Law_law room_1 (Qlaw V b) 8 0 18 [some (.ref 7), some (.ref 8), some (.ref 32), some (.int (nI i))] [] h n z := by
  have ex : ∀ (i : Nat), i ≤ tL V 7 → ¬ i + 6 ≤ tL V 7 → ∀ (h : AH) (n z : Nat), AW V i_Law_law room_1 (Qlaw V b) 8 0 18 [some (.ref 7), some (.ref 8), some (.ref 32), some (.int (nI i))] [] h n z := by
    intro i hi hn h n z
    have gt : nI (tL V 7) - 6 < nI i := by
      rw [iI_nat, iI_nat i, show (6 : Int32) = iI 6 from by decide, iI_sub, iI_lt (by omega) (by omega) (by omega) (by omega)]
      omega
    refine a_iload_n d_Law_law_18 rfl ?_
    refine a_aload_n d_Law_law_19 rfl ?_
    refine a_tlen (Nat.le_of_ble_eq_true rfl) d_Law_law_20 rfl ?_
    refine a_bipush (v := 6) d_Law_law_21 (by decide) ?_
    refine a_isub d_Law_law_23 ?_
    refine a_icmp_gt 1013 d_Law_law_24 (by decide) (fun c24 => ?_) (fun c24 => absurd gt c24)
    refine a_iconst (v := 1) d_Law_law_1013 (by decide) ?_
    exact a_lawret d_Law_law_1014
  intro m
  induction m with
  | zero =>
    intro i h1 h2 h n z I
    exact ex i h2 (by omega) h n z
  | succ m ih =>
    intro i h1 h2 h n z I
    by_cases hi6' : ¬ i + 6 ≤ tL V 7
    · exact ex i h2 hi6' h n z
    have hi6 : i + 6 ≤ tL V 7 := by omega
    have ngt : ¬ nI (tL V 7) - 6 < nI i := by
      rw [iI_nat, iI_nat i, show (6 : Int32) = iI 6 from by decide, iI_sub, iI_lt (by omega) (by omega) (by omega) (by omega)]
      omega
    have step : ∀ (h2 : AH) (n2 z2 : Nat), INV z0 h2 n2 z2 → AW V i_Law_law room_1 (Qlaw V b) 8 0 1007 [some (.ref 7), some (.ref 8), some (.ref 32), some (.int (nI i))] [] h2 n2 z2 := by
      intro h2 n2 z2 I2
      refine a_iinc d_Law_law_1007 rfl (nI_add i 6) (Nat.le_of_ble_eq_true rfl) rfl ?_
      refine a_goto 18 d_Law_law_1010 (by decide) ?_
      exact ih (i + 6) (by omega) hi6 h2 n2 z2 I2
    obtain ⟨v, ev⟩ : ∃ v, v = tF V 7 i &&& 31 := ⟨_, rfl⟩
    refine a_iload_n d_Law_law_18 rfl ?_
    refine a_aload_n d_Law_law_19 rfl ?_
    refine a_tlen (Nat.le_of_ble_eq_true rfl) d_Law_law_20 rfl ?_
    refine a_bipush (v := 6) d_Law_law_21 (by decide) ?_
    refine a_isub d_Law_law_23 ?_
    refine a_icmp_gt 1013 d_Law_law_24 (by decide) (fun c24 => absurd c24 ngt) (fun c24 => ?_)
    refine a_aload_n d_Law_law_27 rfl ?_
    refine a_iload_n d_Law_law_28 rfl ?_
    refine a_tald (Nat.le_of_ble_eq_true rfl) d_Law_law_29 (vp_in_nI (show i < tL V 7 by omega) (by omega)) ?_
    rw [nI_clamp (by omega)]
    refine a_bipush (v := 31) d_Law_law_30 (by decide) ?_
    refine a_iand d_Law_law_32 ?_
    rw [← ev]
    rcases sw_cases v 26 (by decide) with c33 | c33
    · refine a_tabOut 1007 d_Law_law_33 c33 (by decide) ?_
      exact step h n z I
    · rcases c33 with ⟨j, hj, c33⟩
      rcases (show j = 0 ∨ j = 1 ∨ j = 2 ∨ j = 3 ∨ j = 4 ∨ j = 5 ∨ j = 6 ∨ j = 7 ∨ j = 8 ∨ j = 9 ∨ j = 10 ∨ j = 11 ∨ j = 12 ∨ j = 13 ∨ j = 14 ∨ j = 15 ∨ j = 16 ∨ j = 17 ∨ j = 18 ∨ j = 19 ∨ j = 20 ∨ j = 21 ∨ j = 22 ∨ j = 23 ∨ j = 24 ∨ j = 25 ∨ j = 26 by omega) with rfl | rfl | rfl | rfl | rfl | rfl | rfl | rfl | rfl | rfl | rfl | rfl | rfl | rfl | rfl | rfl | rfl | rfl | rfl | rfl | rfl | rfl | rfl | rfl | rfl | rfl | rfl
      · refine a_tabIn (off := 123) 156 d_Law_law_33 (by rw [c33]; decide) (by rw [c33]; decide) (by rw [c33]; rfl) (by decide) ?_
        exact w_feed I hz0 hi6 hL (fun h2 n2 z2 I2 => step h2 n2 z2 I2)
      · refine a_tabIn (off := 146) 179 d_Law_law_33 (by rw [c33]; decide) (by rw [c33]; decide) (by rw [c33]; rfl) (by decide) ?_
        exact w_picture I hz0 hi6 hL (fun h2 n2 z2 I2 => step h2 n2 z2 I2)
      · refine a_tabIn (off := 159) 192 d_Law_law_33 (by rw [c33]; decide) (by rw [c33]; decide) (by rw [c33]; rfl) (by decide) ?_
        exact w_fault I hz0 hi6 hL (fun h2 n2 z2 I2 => step h2 n2 z2 I2)
      · refine a_tabIn (off := 172) 205 d_Law_law_33 (by rw [c33]; decide) (by rw [c33]; decide) (by rw [c33]; rfl) (by decide) ?_
        exact w_undo I hz0 hi6 hL (fun h2 n2 z2 I2 => step h2 n2 z2 I2)
      · refine a_tabIn (off := 185) 218 d_Law_law_33 (by rw [c33]; decide) (by rw [c33]; decide) (by rw [c33]; rfl) (by decide) ?_
        exact w_flip I hz0 hi6 hL (fun h2 n2 z2 I2 => step h2 n2 z2 I2)
      · refine a_tabIn (off := 218) 251 d_Law_law_33 (by rw [c33]; decide) (by rw [c33]; decide) (by rw [c33]; rfl) (by decide) ?_
        exact w_frame I hz0 hi6 hL (fun h2 n2 z2 I2 => step h2 n2 z2 I2)
      · refine a_tabIn (off := 281) 314 d_Law_law_33 (by rw [c33]; decide) (by rw [c33]; decide) (by rw [c33]; rfl) (by decide) ?_
        exact w_joined I hz0 hi6 hL (fun h2 n2 z2 I2 => step h2 n2 z2 I2)
      · refine a_tabIn (off := 304) 337 d_Law_law_33 (by rw [c33]; decide) (by rw [c33]; decide) (by rw [c33]; rfl) (by decide) ?_
        exact w_sharp I hz0 hi6 hL (fun h2 n2 z2 I2 => step h2 n2 z2 I2)
      · refine a_tabIn (off := 327) 360 d_Law_law_33 (by rw [c33]; decide) (by rw [c33]; decide) (by rw [c33]; rfl) (by decide) ?_
        exact w_dot I hz0 hi6 hL (fun h2 n2 z2 I2 => step h2 n2 z2 I2)
      · refine a_tabIn (off := 360) 393 d_Law_law_33 (by rw [c33]; decide) (by rw [c33]; decide) (by rw [c33]; rfl) (by decide) ?_
        exact w_borders I hz0 hi6 hL (fun h2 n2 z2 I2 => step h2 n2 z2 I2)
      · refine a_tabIn (off := 373) 406 d_Law_law_33 (by rw [c33]; decide) (by rw [c33]; decide) (by rw [c33]; rfl) (by decide) ?_
        exact w_border I hz0 hi6 hL (fun h2 n2 z2 I2 => step h2 n2 z2 I2)
      · refine a_tabIn (off := 406) 439 d_Law_law_33 (by rw [c33]; decide) (by rw [c33]; decide) (by rw [c33]; rfl) (by decide) ?_
        exact w_corner I hz0 hi6 hL (fun h2 n2 z2 I2 => step h2 n2 z2 I2)
      · refine a_tabIn (off := 449) 482 d_Law_law_33 (by rw [c33]; decide) (by rw [c33]; decide) (by rw [c33]; rfl) (by decide) ?_
        exact w_inside I hz0 hi6 hL (fun h2 n2 z2 I2 => step h2 n2 z2 I2)
      · refine a_tabIn (off := 492) 525 d_Law_law_33 (by rw [c33]; decide) (by rw [c33]; decide) (by rw [c33]; rfl) (by decide) ?_
        exact w_straight I hz0 hi6 hL (fun h2 n2 z2 I2 => step h2 n2 z2 I2)
      · refine a_tabIn (off := 535) 568 d_Law_law_33 (by rw [c33]; decide) (by rw [c33]; decide) (by rw [c33]; rfl) (by decide) ?_
        exact w_off I hz0 hi6 hL (fun h2 n2 z2 I2 => step h2 n2 z2 I2)
      · refine a_tabIn (off := 578) 611 d_Law_law_33 (by rw [c33]; decide) (by rw [c33]; decide) (by rw [c33]; rfl) (by decide) ?_
        exact w_longest I hz0 hi6 hL (fun h2 n2 z2 I2 => step h2 n2 z2 I2)
      · refine a_tabIn (off := 611) 644 d_Law_law_33 (by rw [c33]; decide) (by rw [c33]; decide) (by rw [c33]; rfl) (by decide) ?_
        exact w_best I hz0 hi6 hL (fun h2 n2 z2 I2 => step h2 n2 z2 I2)
      · refine a_tabIn (off := 644) 677 d_Law_law_33 (by rw [c33]; decide) (by rw [c33]; decide) (by rw [c33]; rfl) (by decide) ?_
        exact w_vertex I hz0 hi6 hL (fun h2 n2 z2 I2 => step h2 n2 z2 I2)
      · refine a_tabIn (off := 687) 720 d_Law_law_33 (by rw [c33]; decide) (by rw [c33]; decide) (by rw [c33]; rfl) (by decide) ?_
        exact w_past I hz0 hi6 hL (fun h2 n2 z2 I2 => step h2 n2 z2 I2)
      · refine a_tabIn (off := 720) 753 d_Law_law_33 (by rw [c33]; decide) (by rw [c33]; decide) (by rw [c33]; rfl) (by decide) ?_
        exact w_point I hz0 hi6 hL (fun h2 n2 z2 I2 => step h2 n2 z2 I2)
      · refine a_tabIn (off := 773) 806 d_Law_law_33 (by rw [c33]; decide) (by rw [c33]; decide) (by rw [c33]; rfl) (by decide) ?_
        exact w_filled I hz0 hi6 hL (fun h2 n2 z2 I2 => step h2 n2 z2 I2)
      · refine a_tabIn (off := 826) 859 d_Law_law_33 (by rw [c33]; decide) (by rw [c33]; decide) (by rw [c33]; rfl) (by decide) ?_
        exact w_differ I hz0 hi6 hL (fun h2 n2 z2 I2 => step h2 n2 z2 I2)
      · refine a_tabIn (off := 859) 892 d_Law_law_33 (by rw [c33]; decide) (by rw [c33]; decide) (by rw [c33]; rfl) (by decide) ?_
        exact w_wrong I hz0 hi6 hL (fun h2 n2 z2 I2 => step h2 n2 z2 I2)
      · refine a_tabIn (off := 882) 915 d_Law_law_33 (by rw [c33]; decide) (by rw [c33]; decide) (by rw [c33]; rfl) (by decide) ?_
        exact w_all I hz0 hi6 hL (fun h2 n2 z2 I2 => step h2 n2 z2 I2)
      · refine a_tabIn (off := 905) 938 d_Law_law_33 (by rw [c33]; decide) (by rw [c33]; decide) (by rw [c33]; rfl) (by decide) ?_
        exact w_image I hz0 hi6 hL (fun h2 n2 z2 I2 => step h2 n2 z2 I2)
      · refine a_tabIn (off := 928) 961 d_Law_law_33 (by rw [c33]; decide) (by rw [c33]; decide) (by rw [c33]; rfl) (by decide) ?_
        exact w_restore I hz0 hi6 hL (fun h2 n2 z2 I2 => step h2 n2 z2 I2)
      · refine a_tabIn (off := 951) 984 d_Law_law_33 (by rw [c33]; decide) (by rw [c33]; decide) (by rw [c33]; rfl) (by decide) ?_
        exact w_count I hz0 hi6 hL (fun h2 n2 z2 I2 => step h2 n2 z2 I2)
set_option maxRecDepth 20000 in
set_option maxHeartbeats 4000000 in
theorem W_start {b : Nat} (hL : tL V 7 ≤ 3072) : AW V i_Law_law room_1 (Qlaw V b) 8 0 0 [some (.ref 7), none, none, none] [] (fun _ => jk) 8 0 := by
  obtain ⟨h1, X1, ⟨ad, aj, ash, A1⟩, ⟨c19, c20, c21, c22, c23, c24, c25, c26, c27, c28, c29, c30, c31⟩, f1⟩ := s_Dot_init (V := V) (h := (hu (fun _ => jk) 8 (.inr (10, [.null, .null, .null, .null, .null, .null, .null, .null, .null, .null, .int 0])))) (z := 11) rfl
  obtain ⟨h2, X2, m32, m33, m34, m35, m36, m37, m38, m39, m40, m41, m42, m43, m44, m45, m46, m47, m48, m49, m50, m51, m52, f2⟩ := s_Mod_init (V := V) (h := (hu h1 32 (.inr (11, [.null, .null, .int 0, .null, .null, .null, .int 0, .int 0, .null, .int 0, .int 0, .int 0, .null, .null, .null, .null, .null, .null, .null, .null, .long 0, .int 0, .null, .null, .int 0, .int 0, .null, .null, .null, .null, .int 0])))) (z := 3005) rfl
  have far : ∀ i, (8 ≤ i ∧ i < 32) → h2 i = h1 i := fun i hi => by rw [f2 i (by omega) (by omega) (by omega) (by omega) (by omega) (by omega) (by omega) (by omega) (by omega) (by omega) (by omega) (by omega) (by omega) (by omega) (by omega) (by omega) (by omega) (by omega) (by omega) (by omega) (by omega), hu_n (by omega)]
  have I : INV 26993 h2 53 26993 := by
    refine ⟨0, fun _ => 0, 0, 0, 0, 0, 0, 0, 0, ad, aj, ash, (0, 0, 0, 0, 0), (0, 0, 0, 0, 0), 0, A1.of (fun i a b => far i (by omega)), ?_, ?_, ⟨by omega, by omega, Or.inl rfl, ?_⟩, by omega, by omega, ⟨_, _, _, _, m34, fun a ha => absurd ha (Nat.not_lt_zero _), m35, m36, Or.inl ⟨rfl, rfl⟩, Or.inl ⟨rfl, rfl⟩, m37, m38⟩⟩
    · refine ⟨0, 0, 0, 0, fun _ => 0, fun _ => 0, fun _ => 0, fun _ => none, 0, fun _ => 0, fun _ => 0, fun _ => 0, ⟨?_, ?_, ?_, ?_, ⟨?_, rfl, by omega, fun j hj => absurd hj (Nat.not_lt_zero _), fun j _ => rfl⟩, ?_, ?_, ?_, ?_, ⟨0, 0, 0, 0, 0, 0, ?_⟩, ?_, ⟨fun _ => 0, ?_⟩, ?_, rfl⟩, Or.inl rfl⟩
      all_goals (rw [far _ (by decide)]; assumption)
    · refine Or.inl ⟨0, 0, 0, 0, 0, 0, m32, ⟨_, _, _, _, _, _, _, m33, fun i hi => ?_, m47, m48, m49, m50, m51, m52⟩, ⟨_, _, _, _, _, _, _, _, m39, m40, m41, m42, m43, m44, m45, m46, fun t' ht' => absurd ht' (Nat.not_lt_zero _)⟩⟩
      unfold stF
      simp only
      rw [lb_0]
      repeat' split
      all_goals first | rfl | (rename_i q; cases q)
    · intro x y q
      unfold inD at q
      rw [lb_0, Bool.and_false] at q
      cases q
  refine a_new (fs := [.null, .null, .null, .null, .null, .null, .null, .null, .null, .null, .int 0]) d_Law_law_0 ci_Dot c_Law_7 n_Dot z_Dot (fun i hi => (by rcases (show i = 0 ∨ i = 1 ∨ i = 2 ∨ i = 3 ∨ i = 4 ∨ i = 5 ∨ i = 6 ∨ i = 7 ∨ i = 8 ∨ i = 9 ∨ i = 10 by omega) with rfl | rfl | rfl | rfl | rfl | rfl | rfl | rfl | rfl | rfl | rfl <;> rfl)) (Nat.le_of_ble_eq_true rfl) (Nat.le_of_ble_eq_true rfl) ?_
  refine a_dup d_Law_law_3 rfl ?_
  refine a_ci d_Law_law_4 m_Dot_init t_Dot_init l_Law_9 X1 rfl rfl ⟨Nat.le_of_ble_eq_true rfl, Nat.le_of_ble_eq_true rfl⟩ (Nat.le_of_ble_eq_true rfl) (Nat.le_of_ble_eq_true rfl) (Nat.le_of_ble_eq_true rfl) ?_
  refine a_astore_n d_Law_law_7 (Nat.le_of_ble_eq_true rfl) (Nat.le_of_ble_eq_true rfl) rfl ?_
  refine a_new (fs := [.null, .null, .int 0, .null, .null, .null, .int 0, .int 0, .null, .int 0, .int 0, .int 0, .null, .null, .null, .null, .null, .null, .null, .null, .long 0, .int 0, .null, .null, .int 0, .int 0, .null, .null, .null, .null, .int 0]) d_Law_law_8 ci_Mod c_Law_10 n_Mod z_Mod (fun i hi => (by rcases (show i = 0 ∨ i = 1 ∨ i = 2 ∨ i = 3 ∨ i = 4 ∨ i = 5 ∨ i = 6 ∨ i = 7 ∨ i = 8 ∨ i = 9 ∨ i = 10 ∨ i = 11 ∨ i = 12 ∨ i = 13 ∨ i = 14 ∨ i = 15 ∨ i = 16 ∨ i = 17 ∨ i = 18 ∨ i = 19 ∨ i = 20 ∨ i = 21 ∨ i = 22 ∨ i = 23 ∨ i = 24 ∨ i = 25 ∨ i = 26 ∨ i = 27 ∨ i = 28 ∨ i = 29 ∨ i = 30 by omega) with rfl | rfl | rfl | rfl | rfl | rfl | rfl | rfl | rfl | rfl | rfl | rfl | rfl | rfl | rfl | rfl | rfl | rfl | rfl | rfl | rfl | rfl | rfl | rfl | rfl | rfl | rfl | rfl | rfl | rfl | rfl <;> rfl)) (Nat.le_of_ble_eq_true rfl) (Nat.le_of_ble_eq_true rfl) ?_
  refine a_dup d_Law_law_11 rfl ?_
  refine a_ci d_Law_law_12 m_Mod_init t_Mod_init l_Law_12 X2 rfl rfl ⟨Nat.le_of_ble_eq_true rfl, Nat.le_of_ble_eq_true rfl⟩ (Nat.le_of_ble_eq_true rfl) (Nat.le_of_ble_eq_true rfl) (Nat.le_of_ble_eq_true rfl) ?_
  refine a_astore_n d_Law_law_15 (Nat.le_of_ble_eq_true rfl) (Nat.le_of_ble_eq_true rfl) rfl ?_
  refine a_iconst (v := 0) d_Law_law_16 (by decide) ?_
  refine a_istore_n d_Law_law_17 (Nat.le_of_ble_eq_true rfl) (Nat.le_of_ble_eq_true rfl) rfl ?_
  exact L_law (by omega) hL (tL V 7) 0 (by omega) (by omega) h2 53 26993 I
end
