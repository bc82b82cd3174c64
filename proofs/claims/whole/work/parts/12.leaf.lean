/-! MORE LEAVES of the class: printed by wip/whole/t12.py -/
theorem hu_hu (h : AH) (i : Nat) (c d : AC) : hu (hu h i c) i d = hu h i d := by
  funext q
  by_cases e : q = i <;> simp [hu, e]
theorem hu_comm (h : AH) {i j : Nat} (e : i ≠ j) (c d : AC) : hu (hu h i c) j d = hu (hu h j d) i c := by
  funext q
  by_cases e1 : q = i
  · subst e1; simp [hu, e]
  · by_cases e2 : q = j <;> simp [hu, e1, e2, Ne.symm e]
theorem hu_same {h : AH} {i : Nat} {c : AC} (e : h i = c) : hu h i c = h := by
  funext q
  by_cases e1 : q = i
  · subst e1; simp [hu, e]
  · simp [hu, e1]
def b2 (b : Bool) : Int32 := if b then 1 else 0
def sx : Nat → Int
  | 0 => 1
  | 2 => -1
  | _ => 0
def sy : Nat → Int
  | 1 => 1
  | 3 => -1
  | _ => 0
def ax : Nat → Int
  | 0 => 0
  | 1 => 0
  | _ => -1
def ay : Nat → Int
  | 0 => -1
  | 1 => 0
  | 2 => 0
  | _ => -1
def trn (J L R : Bool) (d : Nat) : Nat := if R && !L then d else if L && (R || J) then (d + 3) % 4 else (d + 1) % 4
theorem nw3 {d : Nat} (h : d < 4) : (nI d + 3) &&& 3 = nI ((d + 3) % 4) := by
  rcases (show d = 0 ∨ d = 1 ∨ d = 2 ∨ d = 3 by omega) with rfl | rfl | rfl | rfl <;> decide
theorem nw1 {d : Nat} (h : d < 4) : (nI d + 1) &&& 3 = nI ((d + 1) % 4) := by
  rcases (show d = 0 ∨ d = 1 ∨ d = 2 ∨ d = 3 by omega) with rfl | rfl | rfl | rfl <;> decide
theorem nwa {d : Nat} (h : d < 8) : nI d &&& 3 = nI (d % 4) := by
  rcases (show d = 0 ∨ d = 1 ∨ d = 2 ∨ d = 3 ∨ d = 4 ∨ d = 5 ∨ d = 6 ∨ d = 7 by omega) with rfl | rfl | rfl | rfl | rfl | rfl | rfl | rfl <;> decide
theorem tF_0 (V : VV) {d : Nat} (h : d < 4) : tF V 0 d = iI (sx d) := (by decide : ∀ d, d < 4 → ([1, 0, -1, 0] : List Int32).getD d 0 = iI (sx d)) d h
theorem tF_1 (V : VV) {d : Nat} (h : d < 4) : tF V 1 d = iI (sy d) := (by decide : ∀ d, d < 4 → ([0, 1, 0, -1] : List Int32).getD d 0 = iI (sy d)) d h
theorem tF_2 (V : VV) {d : Nat} (h : d < 4) : tF V 2 d = iI (ax d) := (by decide : ∀ d, d < 4 → ([0, 0, -1, -1] : List Int32).getD d 0 = iI (ax d)) d h
theorem tF_3 (V : VV) {d : Nat} (h : d < 4) : tF V 3 d = iI (ay d) := (by decide : ∀ d, d < 4 → ([-1, 0, 0, -1] : List Int32).getD d 0 = iI (ay d)) d h
theorem fPlaceN_aux {s P K : Nat} : True := trivial
def fPlace (st ln k : Int32) : Int32 := if k < 0 then st else if 0 < ln then st + (if ln ≤ k then k - k / ln * ln else k) else st
theorem fPlaceN {s P K : Nat} (hP : 0 < P) (hs : s + P ≤ 144) (hK : K < 2 ^ 31) : fPlace (nI s) (nI P) (nI K) = nI (s + K % P) := by
  unfold fPlace
  rw [if_neg (nI_pos hK), if_pos (by rw [← nI_0]; exact nI_lt hP (by omega))]
  by_cases h : P ≤ K
  · rw [if_pos (nI_le h hK), pk_rem hK hP (by omega), nI_add]
  · rw [if_neg (by rw [nI_leI (by omega) hK]; exact h), nI_add, Nat.mod_eq_of_lt (by omega)]
abbrev oBrs (wk : Int32) (dt : Int64) (jn sz : Int32) : AC := .inr (3, [.ref 20, .ref 21, .ref 22, .ref 23, .int wk, .long dt, .int jn, .int sz])
abbrev oStr : AC := .inr (8, [.ref 19, .ref 25, .ref 26])
abbrev oPol : AC := .inr (6, [.ref 19, .ref 24, .ref 28, .ref 29, .ref 30])
abbrev oFil : AC := .inr (4, [.ref 27])
section
variable {V : VV} {h : AH} {n z : Nat}

set_option maxRecDepth 20000 in
set_option maxHeartbeats 4000000 in
theorem s_Pic_becomeLike_13_12 {a1 a2 a4 a5 b1 b2 b4 b5 : Int32} {a3 b3 : Int64} (g13 : h 13 = oPic a1 a2 a3 a4 a5) (g12 : h 12 = oPic b1 b2 b3 b4 b5) : AMet V i_Pic_becomeLike 0 [.ref 13, .ref 12] h n z (none) (hu h 13 (oPic b1 b2 b3 b4 b5)) n z := by
  refine AMet.intro (Nat.le_refl _) (Nat.le_refl _) (by decide) (Nat.le_of_ble_eq_true rfl) rfl ?_
  refine a_aload_n d_Pic_becomeLike_0 rfl ?_
  refine a_aload_n d_Pic_becomeLike_1 rfl ?_
  refine a_getf d_Pic_becomeLike_2 f_Pic_7 g12 rfl ?_
  refine a_putf d_Pic_becomeLike_5 f_Pic_7 rfl g13 (Nat.le_of_ble_eq_true rfl) rfl rfl ?_
  refine a_aload_n d_Pic_becomeLike_8 rfl ?_
  refine a_aload_n d_Pic_becomeLike_9 rfl ?_
  refine a_getf d_Pic_becomeLike_10 f_Pic_13 g12 rfl ?_
  refine a_putf d_Pic_becomeLike_13 f_Pic_13 rfl rfl (Nat.le_of_ble_eq_true rfl) rfl rfl ?_
  refine a_aload_n d_Pic_becomeLike_16 rfl ?_
  refine a_aload_n d_Pic_becomeLike_17 rfl ?_
  refine a_getf d_Pic_becomeLike_18 f_Pic_16 g12 rfl ?_
  refine a_putf d_Pic_becomeLike_21 f_Pic_16 rfl rfl (Nat.le_of_ble_eq_true rfl) rfl rfl ?_
  refine a_aload_n d_Pic_becomeLike_24 rfl ?_
  refine a_aload_n d_Pic_becomeLike_25 rfl ?_
  refine a_getf d_Pic_becomeLike_26 f_Pic_34 g12 rfl ?_
  refine a_putf d_Pic_becomeLike_29 f_Pic_34 rfl rfl (Nat.le_of_ble_eq_true rfl) rfl rfl ?_
  refine a_aload_n d_Pic_becomeLike_32 rfl ?_
  refine a_aload_n d_Pic_becomeLike_33 rfl ?_
  refine a_getf d_Pic_becomeLike_34 f_Pic_37 g12 rfl ?_
  refine a_putf d_Pic_becomeLike_37 f_Pic_37 rfl rfl (Nat.le_of_ble_eq_true rfl) rfl rfl ?_
  exact a_vret d_Pic_becomeLike_40 rfl rfl (by first | rfl | (simp only [hu_hu]; rfl)) rfl
set_option maxRecDepth 20000 in
set_option maxHeartbeats 4000000 in
theorem s_Pic_becomeLike_14_12 {a1 a2 a4 a5 b1 b2 b4 b5 : Int32} {a3 b3 : Int64} (g14 : h 14 = oPic a1 a2 a3 a4 a5) (g12 : h 12 = oPic b1 b2 b3 b4 b5) : AMet V i_Pic_becomeLike 0 [.ref 14, .ref 12] h n z (none) (hu h 14 (oPic b1 b2 b3 b4 b5)) n z := by
  refine AMet.intro (Nat.le_refl _) (Nat.le_refl _) (by decide) (Nat.le_of_ble_eq_true rfl) rfl ?_
  refine a_aload_n d_Pic_becomeLike_0 rfl ?_
  refine a_aload_n d_Pic_becomeLike_1 rfl ?_
  refine a_getf d_Pic_becomeLike_2 f_Pic_7 g12 rfl ?_
  refine a_putf d_Pic_becomeLike_5 f_Pic_7 rfl g14 (Nat.le_of_ble_eq_true rfl) rfl rfl ?_
  refine a_aload_n d_Pic_becomeLike_8 rfl ?_
  refine a_aload_n d_Pic_becomeLike_9 rfl ?_
  refine a_getf d_Pic_becomeLike_10 f_Pic_13 g12 rfl ?_
  refine a_putf d_Pic_becomeLike_13 f_Pic_13 rfl rfl (Nat.le_of_ble_eq_true rfl) rfl rfl ?_
  refine a_aload_n d_Pic_becomeLike_16 rfl ?_
  refine a_aload_n d_Pic_becomeLike_17 rfl ?_
  refine a_getf d_Pic_becomeLike_18 f_Pic_16 g12 rfl ?_
  refine a_putf d_Pic_becomeLike_21 f_Pic_16 rfl rfl (Nat.le_of_ble_eq_true rfl) rfl rfl ?_
  refine a_aload_n d_Pic_becomeLike_24 rfl ?_
  refine a_aload_n d_Pic_becomeLike_25 rfl ?_
  refine a_getf d_Pic_becomeLike_26 f_Pic_34 g12 rfl ?_
  refine a_putf d_Pic_becomeLike_29 f_Pic_34 rfl rfl (Nat.le_of_ble_eq_true rfl) rfl rfl ?_
  refine a_aload_n d_Pic_becomeLike_32 rfl ?_
  refine a_aload_n d_Pic_becomeLike_33 rfl ?_
  refine a_getf d_Pic_becomeLike_34 f_Pic_37 g12 rfl ?_
  refine a_putf d_Pic_becomeLike_37 f_Pic_37 rfl rfl (Nat.le_of_ble_eq_true rfl) rfl rfl ?_
  exact a_vret d_Pic_becomeLike_40 rfl rfl (by first | rfl | (simp only [hu_hu]; rfl)) rfl
set_option maxRecDepth 20000 in
set_option maxHeartbeats 4000000 in
theorem s_Pic_becomeLike_12_13 {a1 a2 a4 a5 b1 b2 b4 b5 : Int32} {a3 b3 : Int64} (g12 : h 12 = oPic a1 a2 a3 a4 a5) (g13 : h 13 = oPic b1 b2 b3 b4 b5) : AMet V i_Pic_becomeLike 0 [.ref 12, .ref 13] h n z (none) (hu h 12 (oPic b1 b2 b3 b4 b5)) n z := by
  refine AMet.intro (Nat.le_refl _) (Nat.le_refl _) (by decide) (Nat.le_of_ble_eq_true rfl) rfl ?_
  refine a_aload_n d_Pic_becomeLike_0 rfl ?_
  refine a_aload_n d_Pic_becomeLike_1 rfl ?_
  refine a_getf d_Pic_becomeLike_2 f_Pic_7 g13 rfl ?_
  refine a_putf d_Pic_becomeLike_5 f_Pic_7 rfl g12 (Nat.le_of_ble_eq_true rfl) rfl rfl ?_
  refine a_aload_n d_Pic_becomeLike_8 rfl ?_
  refine a_aload_n d_Pic_becomeLike_9 rfl ?_
  refine a_getf d_Pic_becomeLike_10 f_Pic_13 g13 rfl ?_
  refine a_putf d_Pic_becomeLike_13 f_Pic_13 rfl rfl (Nat.le_of_ble_eq_true rfl) rfl rfl ?_
  refine a_aload_n d_Pic_becomeLike_16 rfl ?_
  refine a_aload_n d_Pic_becomeLike_17 rfl ?_
  refine a_getf d_Pic_becomeLike_18 f_Pic_16 g13 rfl ?_
  refine a_putf d_Pic_becomeLike_21 f_Pic_16 rfl rfl (Nat.le_of_ble_eq_true rfl) rfl rfl ?_
  refine a_aload_n d_Pic_becomeLike_24 rfl ?_
  refine a_aload_n d_Pic_becomeLike_25 rfl ?_
  refine a_getf d_Pic_becomeLike_26 f_Pic_34 g13 rfl ?_
  refine a_putf d_Pic_becomeLike_29 f_Pic_34 rfl rfl (Nat.le_of_ble_eq_true rfl) rfl rfl ?_
  refine a_aload_n d_Pic_becomeLike_32 rfl ?_
  refine a_aload_n d_Pic_becomeLike_33 rfl ?_
  refine a_getf d_Pic_becomeLike_34 f_Pic_37 g13 rfl ?_
  refine a_putf d_Pic_becomeLike_37 f_Pic_37 rfl rfl (Nat.le_of_ble_eq_true rfl) rfl rfl ?_
  exact a_vret d_Pic_becomeLike_40 rfl rfl (by first | rfl | (simp only [hu_hu]; rfl)) rfl
set_option maxRecDepth 20000 in
set_option maxHeartbeats 4000000 in
theorem s_Pic_becomeLike_12_14 {a1 a2 a4 a5 b1 b2 b4 b5 : Int32} {a3 b3 : Int64} (g12 : h 12 = oPic a1 a2 a3 a4 a5) (g14 : h 14 = oPic b1 b2 b3 b4 b5) : AMet V i_Pic_becomeLike 0 [.ref 12, .ref 14] h n z (none) (hu h 12 (oPic b1 b2 b3 b4 b5)) n z := by
  refine AMet.intro (Nat.le_refl _) (Nat.le_refl _) (by decide) (Nat.le_of_ble_eq_true rfl) rfl ?_
  refine a_aload_n d_Pic_becomeLike_0 rfl ?_
  refine a_aload_n d_Pic_becomeLike_1 rfl ?_
  refine a_getf d_Pic_becomeLike_2 f_Pic_7 g14 rfl ?_
  refine a_putf d_Pic_becomeLike_5 f_Pic_7 rfl g12 (Nat.le_of_ble_eq_true rfl) rfl rfl ?_
  refine a_aload_n d_Pic_becomeLike_8 rfl ?_
  refine a_aload_n d_Pic_becomeLike_9 rfl ?_
  refine a_getf d_Pic_becomeLike_10 f_Pic_13 g14 rfl ?_
  refine a_putf d_Pic_becomeLike_13 f_Pic_13 rfl rfl (Nat.le_of_ble_eq_true rfl) rfl rfl ?_
  refine a_aload_n d_Pic_becomeLike_16 rfl ?_
  refine a_aload_n d_Pic_becomeLike_17 rfl ?_
  refine a_getf d_Pic_becomeLike_18 f_Pic_16 g14 rfl ?_
  refine a_putf d_Pic_becomeLike_21 f_Pic_16 rfl rfl (Nat.le_of_ble_eq_true rfl) rfl rfl ?_
  refine a_aload_n d_Pic_becomeLike_24 rfl ?_
  refine a_aload_n d_Pic_becomeLike_25 rfl ?_
  refine a_getf d_Pic_becomeLike_26 f_Pic_34 g14 rfl ?_
  refine a_putf d_Pic_becomeLike_29 f_Pic_34 rfl rfl (Nat.le_of_ble_eq_true rfl) rfl rfl ?_
  refine a_aload_n d_Pic_becomeLike_32 rfl ?_
  refine a_aload_n d_Pic_becomeLike_33 rfl ?_
  refine a_getf d_Pic_becomeLike_34 f_Pic_37 g14 rfl ?_
  refine a_putf d_Pic_becomeLike_37 f_Pic_37 rfl rfl (Nat.le_of_ble_eq_true rfl) rfl rfl ?_
  exact a_vret d_Pic_becomeLike_40 rfl rfl (by first | rfl | (simp only [hu_hu]; rfl)) rfl
set_option maxRecDepth 20000 in
set_option maxHeartbeats 4000000 in
theorem s_Brd_place {b : Nat} {st ln fi : Int32} {wi : Int64} {me ve bo : Int32} (gb : h b = oBrd st ln fi wi me ve bo) (k : Int32) : AMet V i_Brd_place 0 [.ref b, .int k] h n z (some (.int (fPlace st ln k))) (h) n z := by
  refine AMet.intro (Nat.le_refl _) (Nat.le_refl _) (by decide) (Nat.le_of_ble_eq_true rfl) rfl ?_
  refine a_iload_n d_Brd_place_0 rfl ?_
  refine a_if_lt 11 d_Brd_place_1 (by decide) (fun c1 => ?_) (fun c1 => ?_)
  · skip
    refine a_aload_n d_Brd_place_11 rfl ?_
    refine a_getf d_Brd_place_12 f_Brd_7 gb rfl ?_
    exact a_iret d_Brd_place_15 rfl (by simp [fPlace, c1]) rfl rfl
  · skip
    refine a_aload_n d_Brd_place_4 rfl ?_
    refine a_getf d_Brd_place_5 f_Brd_13 gb rfl ?_
    refine a_if_gt 16 d_Brd_place_8 (by decide) (fun c8 => ?_) (fun c8 => ?_)
    · skip
      refine a_aload_n d_Brd_place_16 rfl ?_
      refine a_getf d_Brd_place_17 f_Brd_7 gb rfl ?_
      refine a_iload_n d_Brd_place_20 rfl ?_
      refine a_aload_n d_Brd_place_21 rfl ?_
      refine a_getf d_Brd_place_22 f_Brd_13 gb rfl ?_
      refine a_icmp_ge 32 d_Brd_place_25 (by decide) (fun c25 => ?_) (fun c25 => ?_)
      · skip
        refine a_iload_n d_Brd_place_32 rfl ?_
        refine a_aload_n d_Brd_place_33 rfl ?_
        refine a_getf d_Brd_place_34 f_Brd_13 gb rfl ?_
        refine a_irem d_Brd_place_37 (fun q => by subst q; exact absurd c8 (by decide)) ?_
        refine a_iadd d_Brd_place_38 ?_
        exact a_iret d_Brd_place_39 rfl (by simp [fPlace, c1, c8, c25]) rfl rfl
      · skip
        refine a_iload_n d_Brd_place_28 rfl ?_
        refine a_goto 38 d_Brd_place_29 (by decide) ?_
        refine a_iadd d_Brd_place_38 ?_
        exact a_iret d_Brd_place_39 rfl (by simp [fPlace, c1, c8, c25]) rfl rfl
    · skip
      refine a_aload_n d_Brd_place_11 rfl ?_
      refine a_getf d_Brd_place_12 f_Brd_7 gb rfl ?_
      exact a_iret d_Brd_place_15 rfl (by simp [fPlace, c1, c8]) rfl rfl
theorem s_Brd_placeN {b s P : Nat} {fi : Int32} {wi : Int64} {me ve bo : Int32} (gb : h b = oBrd (nI s) (nI P) fi wi me ve bo) (hP : 0 < P) (hs : s + P ≤ 144) {K : Nat} (hK : K < 2 ^ 31) : AMet V i_Brd_place 0 [.ref b, .int (nI K)] h n z (some (.int (nI (s + K % P)))) h n z := by
  have := s_Brd_place (V := V) (n := n) (z := z) gb (nI K)
  rw [fPlaceN hP hs hK] at this
  exact this
def fIn2 (k m : Int32) : Int32 := if k < 0 then 0 else if m ≤ k then 0 else 1
def fStr (ln i s : Int32) : Int32 := if fIn2 i ln = 0 then 0 else if s < 1 then 0 else if ln ≤ s then 0 else 1
set_option maxRecDepth 20000 in
set_option maxHeartbeats 4000000 in
theorem s_Brd_begin {b : Nat} {st ln fi : Int32} {wi : Int64} {me ve bo : Int32} (gb : h b = oBrd st ln fi wi me ve bo) (s t : Int32) : AMet V i_Brd_begin 0 [.ref b, .int s, .int t] h n z (none) (hu h b (oBrd s 0 t 0 0 0 0)) n z := by
  refine AMet.intro (Nat.le_refl _) (Nat.le_refl _) (by decide) (Nat.le_of_ble_eq_true rfl) rfl ?_
  refine a_aload_n d_Brd_begin_0 rfl ?_
  refine a_iload_n d_Brd_begin_1 rfl ?_
  refine a_putf d_Brd_begin_2 f_Brd_7 rfl gb (Nat.le_of_ble_eq_true rfl) rfl rfl ?_
  refine a_aload_n d_Brd_begin_5 rfl ?_
  refine a_iconst (v := 0) d_Brd_begin_6 (by decide) ?_
  refine a_putf d_Brd_begin_7 f_Brd_13 rfl (hu_s _ _ _) (Nat.le_of_ble_eq_true rfl) rfl rfl ?_
  refine a_aload_n d_Brd_begin_10 rfl ?_
  refine a_iload_n d_Brd_begin_11 rfl ?_
  refine a_putf d_Brd_begin_12 f_Brd_16 rfl (hu_s _ _ _) (Nat.le_of_ble_eq_true rfl) rfl rfl ?_
  refine a_aload_n d_Brd_begin_15 rfl ?_
  refine a_lconst (v := 0) d_Brd_begin_16 rfl ?_
  refine a_putf d_Brd_begin_17 f_Brd_19 rfl (hu_s _ _ _) (Nat.le_of_ble_eq_true rfl) rfl rfl ?_
  refine a_aload_n d_Brd_begin_20 rfl ?_
  refine a_iconst (v := 0) d_Brd_begin_21 (by decide) ?_
  refine a_putf d_Brd_begin_22 f_Brd_23 rfl (hu_s _ _ _) (Nat.le_of_ble_eq_true rfl) rfl rfl ?_
  refine a_aload_n d_Brd_begin_25 rfl ?_
  refine a_iconst (v := 0) d_Brd_begin_26 (by decide) ?_
  refine a_putf d_Brd_begin_27 f_Brd_27 rfl (hu_s _ _ _) (Nat.le_of_ble_eq_true rfl) rfl rfl ?_
  refine a_aload_n d_Brd_begin_30 rfl ?_
  refine a_iconst (v := 0) d_Brd_begin_31 (by decide) ?_
  refine a_putf d_Brd_begin_32 f_Brd_30 rfl (hu_s _ _ _) (Nat.le_of_ble_eq_true rfl) rfl rfl ?_
  exact a_vret d_Brd_begin_35 rfl rfl (by first | rfl | (simp only [hu_hu]; rfl)) rfl
set_option maxRecDepth 20000 in
set_option maxHeartbeats 4000000 in
theorem s_Brd_hasCorner {b : Nat} {st ln fi : Int32} {wi : Int64} {me ve bo : Int32} (gb : h b = oBrd st ln fi wi me ve bo) (k : Int32) : AMet V i_Brd_hasCorner 0 [.ref b, .int k] h n z (some (.int (fIn2 k ln))) (h) n z := by
  refine AMet.intro (Nat.le_refl _) (Nat.le_refl _) (by decide) (Nat.le_of_ble_eq_true rfl) rfl ?_
  refine a_iload_n d_Brd_hasCorner_0 rfl ?_
  refine a_if_lt 16 d_Brd_hasCorner_1 (by decide) (fun c1 => ?_) (fun c1 => ?_)
  · skip
    refine a_iconst (v := 0) d_Brd_hasCorner_16 (by decide) ?_
    exact a_zret d_Brd_hasCorner_17 rfl (by decide) (by simp [fIn2, c1]) rfl rfl
  · skip
    refine a_iload_n d_Brd_hasCorner_4 rfl ?_
    refine a_aload_n d_Brd_hasCorner_5 rfl ?_
    refine a_getf d_Brd_hasCorner_6 f_Brd_13 gb rfl ?_
    refine a_icmp_ge 16 d_Brd_hasCorner_9 (by decide) (fun c9 => ?_) (fun c9 => ?_)
    · skip
      refine a_iconst (v := 0) d_Brd_hasCorner_16 (by decide) ?_
      exact a_zret d_Brd_hasCorner_17 rfl (by decide) (by simp [fIn2, c1, c9]) rfl rfl
    · skip
      refine a_iconst (v := 1) d_Brd_hasCorner_12 (by decide) ?_
      refine a_goto 17 d_Brd_hasCorner_13 (by decide) ?_
      exact a_zret d_Brd_hasCorner_17 rfl (by decide) (by simp [fIn2, c1, c9]) rfl rfl
set_option maxRecDepth 20000 in
set_option maxHeartbeats 4000000 in
theorem s_Brd_hasVertex {b : Nat} {st ln fi : Int32} {wi : Int64} {me ve bo : Int32} (gb : h b = oBrd st ln fi wi me ve bo) (k : Int32) : AMet V i_Brd_hasVertex 0 [.ref b, .int k] h n z (some (.int (fIn2 k ve))) (h) n z := by
  refine AMet.intro (Nat.le_refl _) (Nat.le_refl _) (by decide) (Nat.le_of_ble_eq_true rfl) rfl ?_
  refine a_iload_n d_Brd_hasVertex_0 rfl ?_
  refine a_if_lt 16 d_Brd_hasVertex_1 (by decide) (fun c1 => ?_) (fun c1 => ?_)
  · skip
    refine a_iconst (v := 0) d_Brd_hasVertex_16 (by decide) ?_
    exact a_zret d_Brd_hasVertex_17 rfl (by decide) (by simp [fIn2, c1]) rfl rfl
  · skip
    refine a_iload_n d_Brd_hasVertex_4 rfl ?_
    refine a_aload_n d_Brd_hasVertex_5 rfl ?_
    refine a_getf d_Brd_hasVertex_6 f_Brd_27 gb rfl ?_
    refine a_icmp_ge 16 d_Brd_hasVertex_9 (by decide) (fun c9 => ?_) (fun c9 => ?_)
    · skip
      refine a_iconst (v := 0) d_Brd_hasVertex_16 (by decide) ?_
      exact a_zret d_Brd_hasVertex_17 rfl (by decide) (by simp [fIn2, c1, c9]) rfl rfl
    · skip
      refine a_iconst (v := 1) d_Brd_hasVertex_12 (by decide) ?_
      refine a_goto 17 d_Brd_hasVertex_13 (by decide) ?_
      exact a_zret d_Brd_hasVertex_17 rfl (by decide) (by simp [fIn2, c1, c9]) rfl rfl
set_option maxRecDepth 20000 in
set_option maxHeartbeats 4000000 in
theorem s_Brd_hasStretch {b : Nat} {st ln fi : Int32} {wi : Int64} {me ve bo : Int32} (gb : h b = oBrd st ln fi wi me ve bo) (i s : Int32) : AMet V i_Brd_hasStretch 1 [.ref b, .int i, .int s] h n z (some (.int (fStr ln i s))) (h) n z := by
  refine AMet.intro (Nat.le_refl _) (Nat.le_refl _) (by decide) (Nat.le_of_ble_eq_true rfl) rfl ?_
  refine a_aload_n d_Brd_hasStretch_0 rfl ?_
  refine a_iload_n d_Brd_hasStretch_1 rfl ?_
  refine a_cv0 d_Brd_hasStretch_2 m_Brd_hasCorner t_Brd_hasCorner l_Brd_33 gb rfl rfl (s_Brd_hasCorner gb i) rfl rfl ⟨Nat.le_of_ble_eq_true rfl, Nat.le_of_ble_eq_true rfl⟩ (Nat.le_of_ble_eq_true rfl)  ?_
  refine a_if_eq 25 d_Brd_hasStretch_5 (by decide) (fun c5 => ?_) (fun c5 => ?_)
  · skip
    refine a_iconst (v := 0) d_Brd_hasStretch_25 (by decide) ?_
    exact a_zret d_Brd_hasStretch_26 rfl (by decide) (by simp [fStr, c5]) rfl rfl
  · skip
    refine a_iload_n d_Brd_hasStretch_8 rfl ?_
    refine a_iconst (v := 1) d_Brd_hasStretch_9 (by decide) ?_
    refine a_icmp_lt 25 d_Brd_hasStretch_10 (by decide) (fun c10 => ?_) (fun c10 => ?_)
    · skip
      refine a_iconst (v := 0) d_Brd_hasStretch_25 (by decide) ?_
      exact a_zret d_Brd_hasStretch_26 rfl (by decide) (by simp [fStr, c5, c10]) rfl rfl
    · skip
      refine a_iload_n d_Brd_hasStretch_13 rfl ?_
      refine a_aload_n d_Brd_hasStretch_14 rfl ?_
      refine a_getf d_Brd_hasStretch_15 f_Brd_13 gb rfl ?_
      refine a_icmp_ge 25 d_Brd_hasStretch_18 (by decide) (fun c18 => ?_) (fun c18 => ?_)
      · skip
        refine a_iconst (v := 0) d_Brd_hasStretch_25 (by decide) ?_
        exact a_zret d_Brd_hasStretch_26 rfl (by decide) (by simp [fStr, c5, c10, c18]) rfl rfl
      · skip
        refine a_iconst (v := 1) d_Brd_hasStretch_21 (by decide) ?_
        refine a_goto 26 d_Brd_hasStretch_22 (by decide) ?_
        exact a_zret d_Brd_hasStretch_26 rfl (by decide) (by simp [fStr, c5, c10, c18]) rfl rfl
set_option maxRecDepth 20000 in
set_option maxHeartbeats 4000000 in
theorem s_Brs_xAt {xs : Nat → Int32} (g20 : h 20 = aI 144 xs) {s P b : Nat} {fi : Int32} {wi : Int64} {me ve bo wk jn sz : Int32} {dt : Int64} (g19 : h 19 = oBrs wk dt jn sz) (gb : h b = oBrd (nI s) (nI P) fi wi me ve bo) (hP : 0 < P) (hs : s + P ≤ 144) {K : Nat} (hK : K < 2 ^ 31) : AMet V i_Brs_xAt 1 [.ref 19, .ref b, .int (nI K)] h n z (some (.int (xs (s + K % P)))) (h) n z := by
  have hm := Nat.mod_lt K hP
  refine AMet.intro (Nat.le_refl _) (Nat.le_refl _) (by decide) (Nat.le_of_ble_eq_true rfl) rfl ?_
  refine a_aload_n d_Brs_xAt_0 rfl ?_
  refine a_iload_n d_Brs_xAt_1 rfl ?_
  refine a_cv0 d_Brs_xAt_2 m_Brd_place t_Brd_place l_Brs_31 gb rfl rfl (s_Brd_placeN gb hP hs hK) rfl rfl ⟨Nat.le_of_ble_eq_true rfl, Nat.le_of_ble_eq_true rfl⟩ (Nat.le_of_ble_eq_true rfl)  ?_
  refine a_istore_n d_Brs_xAt_5 (Nat.le_of_ble_eq_true rfl) (Nat.le_of_ble_eq_true rfl) rfl ?_
  refine a_iload_n d_Brs_xAt_6 rfl ?_
  refine a_if_lt 26 d_Brs_xAt_7 (by decide) (fun c7 => absurd c7 (nI_pos (by omega))) (fun c7 => ?_)
  refine a_iload_n d_Brs_xAt_10 rfl ?_
  refine a_sipush (v := 144) d_Brs_xAt_11 (by decide) ?_
  refine a_icmp_ge 26 d_Brs_xAt_14 (by decide) (fun c14 => absurd c14 (nI_ge (b := 144) (show s + K % P < 144 by omega) (by omega))) (fun c14 => ?_)
  refine a_aload_n d_Brs_xAt_17 rfl ?_
  refine a_getf d_Brs_xAt_18 f_Brs_9 g19 rfl ?_
  refine a_iload_n d_Brs_xAt_21 rfl ?_
  refine a_iald d_Brs_xAt_22 g20 (vp_in_nI (by omega) (by omega)) ?_
  refine a_goto 27 d_Brs_xAt_23 (by decide) ?_
  exact a_iret d_Brs_xAt_27 rfl (by rw [nI_clamp (by omega)]) rfl rfl
set_option maxRecDepth 20000 in
set_option maxHeartbeats 4000000 in
theorem s_Brs_yAt {ys : Nat → Int32} (g21 : h 21 = aI 144 ys) {s P b : Nat} {fi : Int32} {wi : Int64} {me ve bo wk jn sz : Int32} {dt : Int64} (g19 : h 19 = oBrs wk dt jn sz) (gb : h b = oBrd (nI s) (nI P) fi wi me ve bo) (hP : 0 < P) (hs : s + P ≤ 144) {K : Nat} (hK : K < 2 ^ 31) : AMet V i_Brs_yAt 1 [.ref 19, .ref b, .int (nI K)] h n z (some (.int (ys (s + K % P)))) (h) n z := by
  have hm := Nat.mod_lt K hP
  refine AMet.intro (Nat.le_refl _) (Nat.le_refl _) (by decide) (Nat.le_of_ble_eq_true rfl) rfl ?_
  refine a_aload_n d_Brs_yAt_0 rfl ?_
  refine a_iload_n d_Brs_yAt_1 rfl ?_
  refine a_cv0 d_Brs_yAt_2 m_Brd_place t_Brd_place l_Brs_31 gb rfl rfl (s_Brd_placeN gb hP hs hK) rfl rfl ⟨Nat.le_of_ble_eq_true rfl, Nat.le_of_ble_eq_true rfl⟩ (Nat.le_of_ble_eq_true rfl)  ?_
  refine a_istore_n d_Brs_yAt_5 (Nat.le_of_ble_eq_true rfl) (Nat.le_of_ble_eq_true rfl) rfl ?_
  refine a_iload_n d_Brs_yAt_6 rfl ?_
  refine a_if_lt 26 d_Brs_yAt_7 (by decide) (fun c7 => absurd c7 (nI_pos (by omega))) (fun c7 => ?_)
  refine a_iload_n d_Brs_yAt_10 rfl ?_
  refine a_sipush (v := 144) d_Brs_yAt_11 (by decide) ?_
  refine a_icmp_ge 26 d_Brs_yAt_14 (by decide) (fun c14 => absurd c14 (nI_ge (b := 144) (show s + K % P < 144 by omega) (by omega))) (fun c14 => ?_)
  refine a_aload_n d_Brs_yAt_17 rfl ?_
  refine a_getf d_Brs_yAt_18 f_Brs_13 g19 rfl ?_
  refine a_iload_n d_Brs_yAt_21 rfl ?_
  refine a_iald d_Brs_yAt_22 g21 (vp_in_nI (by omega) (by omega)) ?_
  refine a_goto 27 d_Brs_yAt_23 (by decide) ?_
  exact a_iret d_Brs_yAt_27 rfl (by rw [nI_clamp (by omega)]) rfl rfl
set_option maxRecDepth 20000 in
set_option maxHeartbeats 4000000 in
theorem s_Brs_wayAt {ws : Nat → Int32} (g22 : h 22 = aI 144 ws) {s P b : Nat} {fi : Int32} {wi : Int64} {me ve bo wk jn sz : Int32} {dt : Int64} (g19 : h 19 = oBrs wk dt jn sz) (gb : h b = oBrd (nI s) (nI P) fi wi me ve bo) (hP : 0 < P) (hs : s + P ≤ 144) {K : Nat} (hK : K < 2 ^ 31) : AMet V i_Brs_wayAt 1 [.ref 19, .ref b, .int (nI K)] h n z (some (.int (ws (s + K % P)))) (h) n z := by
  have hm := Nat.mod_lt K hP
  refine AMet.intro (Nat.le_refl _) (Nat.le_refl _) (by decide) (Nat.le_of_ble_eq_true rfl) rfl ?_
  refine a_aload_n d_Brs_wayAt_0 rfl ?_
  refine a_iload_n d_Brs_wayAt_1 rfl ?_
  refine a_cv0 d_Brs_wayAt_2 m_Brd_place t_Brd_place l_Brs_31 gb rfl rfl (s_Brd_placeN gb hP hs hK) rfl rfl ⟨Nat.le_of_ble_eq_true rfl, Nat.le_of_ble_eq_true rfl⟩ (Nat.le_of_ble_eq_true rfl)  ?_
  refine a_istore_n d_Brs_wayAt_5 (Nat.le_of_ble_eq_true rfl) (Nat.le_of_ble_eq_true rfl) rfl ?_
  refine a_iload_n d_Brs_wayAt_6 rfl ?_
  refine a_if_lt 26 d_Brs_wayAt_7 (by decide) (fun c7 => absurd c7 (nI_pos (by omega))) (fun c7 => ?_)
  refine a_iload_n d_Brs_wayAt_10 rfl ?_
  refine a_sipush (v := 144) d_Brs_wayAt_11 (by decide) ?_
  refine a_icmp_ge 26 d_Brs_wayAt_14 (by decide) (fun c14 => absurd c14 (nI_ge (b := 144) (show s + K % P < 144 by omega) (by omega))) (fun c14 => ?_)
  refine a_aload_n d_Brs_wayAt_17 rfl ?_
  refine a_getf d_Brs_wayAt_18 f_Brs_16 g19 rfl ?_
  refine a_iload_n d_Brs_wayAt_21 rfl ?_
  refine a_iald d_Brs_wayAt_22 g22 (vp_in_nI (by omega) (by omega)) ?_
  refine a_goto 27 d_Brs_wayAt_23 (by decide) ?_
  exact a_iret d_Brs_wayAt_27 rfl (by rw [nI_clamp (by omega)]) rfl rfl
set_option maxRecDepth 20000 in
set_option maxHeartbeats 4000000 in
theorem s_Brs_atN {wk jn : Int32} {S : Nat} {dt : Int64} (g19 : h 19 = oBrs wk dt jn (nI S)) (k : Int32) (hk : k < 0 ∨ nI S ≤ k) : AMet V i_Brs_at 0 [.ref 19, .int k] h n z (some .null) (h) n z := by
  refine AMet.intro (Nat.le_refl _) (Nat.le_refl _) (by decide) (Nat.le_of_ble_eq_true rfl) rfl ?_
  refine a_iload_n d_Brs_at_0 rfl ?_
  refine a_if_lt 27 d_Brs_at_1 (by decide) (fun c1 => ?_) (fun c1 => ?_)
  · skip
    refine a_null d_Brs_at_27 ?_
    exact a_aret d_Brs_at_28 rfl (Or.inl rfl) rfl rfl rfl
  · skip
    refine a_iload_n d_Brs_at_4 rfl ?_
    refine a_aload_n d_Brs_at_5 rfl ?_
    refine a_getf d_Brs_at_6 f_Brs_27 g19 rfl ?_
    refine a_icmp_ge 27 d_Brs_at_9 (by decide) (fun c9 => ?_) (fun c9 => absurd (hk.resolve_left c1) c9)
    refine a_null d_Brs_at_27 ?_
    exact a_aret d_Brs_at_28 rfl (Or.inl rfl) rfl rfl rfl
set_option maxRecDepth 20000 in
set_option maxHeartbeats 4000000 in
theorem s_Brs_at {wk jn : Int32} {S : Nat} {dt : Int64} {kn : Nat → Option Nat} (g19 : h 19 = oBrs wk dt jn (nI S)) (g23 : h 23 = aQ 64 kn) {j b : Nat} (hj : j < S) (hS : S ≤ 64) (hb : kn j = some b) : AMet V i_Brs_at 0 [.ref 19, .int (nI j)] h n z (some (.ref b)) (h) n z := by
  refine AMet.intro (Nat.le_refl _) (Nat.le_refl _) (by decide) (Nat.le_of_ble_eq_true rfl) rfl ?_
  refine a_iload_n d_Brs_at_0 rfl ?_
  refine a_if_lt 27 d_Brs_at_1 (by decide) (fun c1 => absurd c1 (nI_pos (by omega))) (fun c1 => ?_)
  refine a_iload_n d_Brs_at_4 rfl ?_
  refine a_aload_n d_Brs_at_5 rfl ?_
  refine a_getf d_Brs_at_6 f_Brs_27 g19 rfl ?_
  refine a_icmp_ge 27 d_Brs_at_9 (by decide) (fun c9 => absurd c9 (nI_ge hj (by omega))) (fun c9 => ?_)
  refine a_iload_n d_Brs_at_12 rfl ?_
  refine a_bipush (v := 64) d_Brs_at_13 (by decide) ?_
  refine a_icmp_ge 27 d_Brs_at_15 (by decide) (fun c15 => absurd c15 (nI_ge (b := 64) (show j < 64 by omega) (by omega))) (fun c15 => ?_)
  refine a_aload_n d_Brs_at_18 rfl ?_
  refine a_getf d_Brs_at_19 f_Brs_23 g19 rfl ?_
  refine a_iload_n d_Brs_at_22 rfl ?_
  refine a_aald d_Brs_at_23 g23 (vp_in_nI (by omega) (by omega)) ?_
  rw [nI_clamp (by omega), hb]
  refine a_goto 28 d_Brs_at_24 (by decide) ?_
  exact a_aret d_Brs_at_28 rfl (Or.inr ⟨_, rfl⟩) rfl rfl rfl
set_option maxRecDepth 20000 in
set_option maxHeartbeats 4000000 in
theorem s_Brs_dotAhead (X Y : Int) {d : Nat} (hd : d < 8) : AMet V i_Brs_dotAhead 1 [.int (iI X), .int (iI Y), .int (nI d)] h n z (some (.long (gBit (iI (X + ax (d % 4))) (iI (Y + ay (d % 4)))))) (h) n z := by
  have hm : d % 4 < 4 := Nat.mod_lt d (by decide)
  refine AMet.intro (Nat.le_refl _) (Nat.le_refl _) (by decide) (Nat.le_of_ble_eq_true rfl) rfl ?_
  refine a_iload_n d_Brs_dotAhead_0 rfl ?_
  refine a_gets (k := 2) (Nat.le_of_ble_eq_true rfl) d_Brs_dotAhead_1 s_Brs_108 ?_
  refine a_iload_n d_Brs_dotAhead_4 rfl ?_
  refine a_iconst (v := 3) d_Brs_dotAhead_5 (by decide) ?_
  refine a_iand d_Brs_dotAhead_6 ?_
  refine a_tald (Nat.le_of_ble_eq_true rfl) d_Brs_dotAhead_7 (by rw [nwa hd]; exact vp_in_nI (N := 4) hm (by omega)) ?_
  refine a_iadd d_Brs_dotAhead_8 ?_
  refine a_iload_n d_Brs_dotAhead_9 rfl ?_
  refine a_gets (k := 3) (Nat.le_of_ble_eq_true rfl) d_Brs_dotAhead_10 s_Brs_111 ?_
  refine a_iload_n d_Brs_dotAhead_13 rfl ?_
  refine a_iconst (v := 3) d_Brs_dotAhead_14 (by decide) ?_
  refine a_iand d_Brs_dotAhead_15 ?_
  refine a_tald (Nat.le_of_ble_eq_true rfl) d_Brs_dotAhead_16 (by rw [nwa hd]; exact vp_in_nI (N := 4) hm (by omega)) ?_
  rw [nwa hd, nI_clamp (by omega), tF_2 V hm, tF_3 V hm]
  refine a_iadd d_Brs_dotAhead_17 ?_
  refine a_cs0 d_Brs_dotAhead_18 m_Grid_bit t_Grid_bit l_Brs_114 (s_Grid_bit _ _) rfl rfl ⟨Nat.le_of_ble_eq_true rfl, Nat.le_of_ble_eq_true rfl⟩ (Nat.le_of_ble_eq_true rfl)  ?_
  exact a_lret d_Brs_dotAhead_21 rfl (by rw [iI_add, iI_add]) rfl rfl
def rR (x y w : Int32) : Int64 := if w = 1 then gRow x y else if w = 3 then gRow x (y - 1) else 0
set_option maxRecDepth 20000 in
set_option maxHeartbeats 4000000 in
theorem s_Brs_dotsRightOf (x y w : Int32) : AMet V i_Brs_dotsRightOf 1 [.int x, .int y, .int w] h n z (some (.long (rR x y w))) (h) n z := by
  refine AMet.intro (Nat.le_refl _) (Nat.le_refl _) (by decide) (Nat.le_of_ble_eq_true rfl) rfl ?_
  refine a_iload_n d_Brs_dotsRightOf_0 rfl ?_
  refine a_iconst (v := 1) d_Brs_dotsRightOf_1 (by decide) ?_
  refine a_icmp_ne 11 d_Brs_dotsRightOf_2 (by decide) (fun c2 => ?_) (fun c2 => ?_)
  · skip
    refine a_iload_n d_Brs_dotsRightOf_11 rfl ?_
    refine a_iconst (v := 3) d_Brs_dotsRightOf_12 (by decide) ?_
    refine a_icmp_ne 26 d_Brs_dotsRightOf_13 (by decide) (fun c13 => ?_) (fun c13 => ?_)
    · skip
      refine a_lconst (v := 0) d_Brs_dotsRightOf_26 rfl ?_
      exact a_lret d_Brs_dotsRightOf_27 rfl (by simp [rR, c2, c13]) rfl rfl
    · skip
      refine a_iload_n d_Brs_dotsRightOf_16 rfl ?_
      refine a_iload_n d_Brs_dotsRightOf_17 rfl ?_
      refine a_iconst (v := 1) d_Brs_dotsRightOf_18 (by decide) ?_
      refine a_isub d_Brs_dotsRightOf_19 ?_
      refine a_cs0 d_Brs_dotsRightOf_20 m_Grid_rowFrom t_Grid_rowFrom l_Brs_104 (s_Grid_rowFrom x (y - 1)) rfl rfl ⟨Nat.le_of_ble_eq_true rfl, Nat.le_of_ble_eq_true rfl⟩ (Nat.le_of_ble_eq_true rfl)  ?_
      refine a_goto 27 d_Brs_dotsRightOf_23 (by decide) ?_
      exact a_lret d_Brs_dotsRightOf_27 rfl (by simp [rR, c2, c13]) rfl rfl
  · skip
    refine a_iload_n d_Brs_dotsRightOf_5 rfl ?_
    refine a_iload_n d_Brs_dotsRightOf_6 rfl ?_
    refine a_cs0 d_Brs_dotsRightOf_7 m_Grid_rowFrom t_Grid_rowFrom l_Brs_104 (s_Grid_rowFrom x y) rfl rfl ⟨Nat.le_of_ble_eq_true rfl, Nat.le_of_ble_eq_true rfl⟩ (Nat.le_of_ble_eq_true rfl)  ?_
    exact a_lret d_Brs_dotsRightOf_10 rfl (by simp [rR, c2]) rfl rfl
set_option maxRecDepth 20000 in
set_option maxHeartbeats 4000000 in
theorem s_Brs_nextWay {wk jn sz : Int32} {dt : Int64} (g19 : h 19 = oBrs wk dt jn sz) {d : Nat} (hd : d < 4) (L R : Bool) : AMet V i_Brs_nextWay 0 [.ref 19, .int (nI d), .int (b2 L), .int (b2 R)] h n z (some (.int (nI (trn (decide (jn = 1)) L R d)))) (h) n z := by
  refine AMet.intro (Nat.le_refl _) (Nat.le_refl _) (by decide) (Nat.le_of_ble_eq_true rfl) rfl ?_
  refine a_iload_n d_Brs_nextWay_0 rfl ?_
  refine a_if_eq 10 d_Brs_nextWay_1 (by decide) (fun c1 => ?_) (fun c1 => ?_)
  · skip
    refine a_iload_n d_Brs_nextWay_10 rfl ?_
    refine a_if_eq 30 d_Brs_nextWay_11 (by decide) (fun c11 => ?_) (fun c11 => ?_)
    · skip
      refine a_iconst (v := 0) d_Brs_nextWay_30 (by decide) ?_
      refine a_istore d_Brs_nextWay_31 (Nat.le_of_ble_eq_true rfl) (Nat.le_of_ble_eq_true rfl) rfl ?_
      refine a_iload d_Brs_nextWay_33 rfl ?_
      refine a_if_eq 44 d_Brs_nextWay_35 (by decide) (fun c35 => ?_) (fun c35 => ?_)
      · skip
        refine a_iload_n d_Brs_nextWay_44 rfl ?_
        refine a_iconst (v := 1) d_Brs_nextWay_45 (by decide) ?_
        refine a_iadd d_Brs_nextWay_46 ?_
        refine a_iconst (v := 3) d_Brs_nextWay_47 (by decide) ?_
        refine a_iand d_Brs_nextWay_48 ?_
        exact a_iret d_Brs_nextWay_49 rfl (by cases L <;> cases R <;> simp_all [b2, trn, nw3, nw1]) rfl rfl
      · skip
        refine a_iload_n d_Brs_nextWay_38 rfl ?_
        refine a_iconst (v := 3) d_Brs_nextWay_39 (by decide) ?_
        refine a_iadd d_Brs_nextWay_40 ?_
        refine a_goto 47 d_Brs_nextWay_41 (by decide) ?_
        refine a_iconst (v := 3) d_Brs_nextWay_47 (by decide) ?_
        refine a_iand d_Brs_nextWay_48 ?_
        exact a_iret d_Brs_nextWay_49 rfl (by cases L <;> cases R <;> simp_all [b2, trn, nw3, nw1]) rfl rfl
    · skip
      refine a_iload_n d_Brs_nextWay_14 rfl ?_
      refine a_if_ne 26 d_Brs_nextWay_15 (by decide) (fun c15 => ?_) (fun c15 => ?_)
      · skip
        refine a_iconst (v := 1) d_Brs_nextWay_26 (by decide) ?_
        refine a_goto 31 d_Brs_nextWay_27 (by decide) ?_
        refine a_istore d_Brs_nextWay_31 (Nat.le_of_ble_eq_true rfl) (Nat.le_of_ble_eq_true rfl) rfl ?_
        refine a_iload d_Brs_nextWay_33 rfl ?_
        refine a_if_eq 44 d_Brs_nextWay_35 (by decide) (fun c35 => ?_) (fun c35 => ?_)
        · skip
          refine a_iload_n d_Brs_nextWay_44 rfl ?_
          refine a_iconst (v := 1) d_Brs_nextWay_45 (by decide) ?_
          refine a_iadd d_Brs_nextWay_46 ?_
          refine a_iconst (v := 3) d_Brs_nextWay_47 (by decide) ?_
          refine a_iand d_Brs_nextWay_48 ?_
          exact a_iret d_Brs_nextWay_49 rfl (by cases L <;> cases R <;> simp_all [b2, trn, nw3, nw1]) rfl rfl
        · skip
          refine a_iload_n d_Brs_nextWay_38 rfl ?_
          refine a_iconst (v := 3) d_Brs_nextWay_39 (by decide) ?_
          refine a_iadd d_Brs_nextWay_40 ?_
          refine a_goto 47 d_Brs_nextWay_41 (by decide) ?_
          refine a_iconst (v := 3) d_Brs_nextWay_47 (by decide) ?_
          refine a_iand d_Brs_nextWay_48 ?_
          exact a_iret d_Brs_nextWay_49 rfl (by cases L <;> cases R <;> simp_all [b2, trn, nw3, nw1]) rfl rfl
      · skip
        refine a_aload_n d_Brs_nextWay_18 rfl ?_
        refine a_getf d_Brs_nextWay_19 f_Brs_50 g19 rfl ?_
        refine a_iconst (v := 1) d_Brs_nextWay_22 (by decide) ?_
        refine a_icmp_ne 30 d_Brs_nextWay_23 (by decide) (fun c23 => ?_) (fun c23 => ?_)
        · skip
          refine a_iconst (v := 0) d_Brs_nextWay_30 (by decide) ?_
          refine a_istore d_Brs_nextWay_31 (Nat.le_of_ble_eq_true rfl) (Nat.le_of_ble_eq_true rfl) rfl ?_
          refine a_iload d_Brs_nextWay_33 rfl ?_
          refine a_if_eq 44 d_Brs_nextWay_35 (by decide) (fun c35 => ?_) (fun c35 => ?_)
          · skip
            refine a_iload_n d_Brs_nextWay_44 rfl ?_
            refine a_iconst (v := 1) d_Brs_nextWay_45 (by decide) ?_
            refine a_iadd d_Brs_nextWay_46 ?_
            refine a_iconst (v := 3) d_Brs_nextWay_47 (by decide) ?_
            refine a_iand d_Brs_nextWay_48 ?_
            exact a_iret d_Brs_nextWay_49 rfl (by cases L <;> cases R <;> simp_all [b2, trn, nw3, nw1]) rfl rfl
          · skip
            refine a_iload_n d_Brs_nextWay_38 rfl ?_
            refine a_iconst (v := 3) d_Brs_nextWay_39 (by decide) ?_
            refine a_iadd d_Brs_nextWay_40 ?_
            refine a_goto 47 d_Brs_nextWay_41 (by decide) ?_
            refine a_iconst (v := 3) d_Brs_nextWay_47 (by decide) ?_
            refine a_iand d_Brs_nextWay_48 ?_
            exact a_iret d_Brs_nextWay_49 rfl (by cases L <;> cases R <;> simp_all [b2, trn, nw3, nw1]) rfl rfl
        · skip
          refine a_iconst (v := 1) d_Brs_nextWay_26 (by decide) ?_
          refine a_goto 31 d_Brs_nextWay_27 (by decide) ?_
          refine a_istore d_Brs_nextWay_31 (Nat.le_of_ble_eq_true rfl) (Nat.le_of_ble_eq_true rfl) rfl ?_
          refine a_iload d_Brs_nextWay_33 rfl ?_
          refine a_if_eq 44 d_Brs_nextWay_35 (by decide) (fun c35 => ?_) (fun c35 => ?_)
          · skip
            refine a_iload_n d_Brs_nextWay_44 rfl ?_
            refine a_iconst (v := 1) d_Brs_nextWay_45 (by decide) ?_
            refine a_iadd d_Brs_nextWay_46 ?_
            refine a_iconst (v := 3) d_Brs_nextWay_47 (by decide) ?_
            refine a_iand d_Brs_nextWay_48 ?_
            exact a_iret d_Brs_nextWay_49 rfl (by cases L <;> cases R <;> simp_all [b2, trn, nw3, nw1]) rfl rfl
          · skip
            refine a_iload_n d_Brs_nextWay_38 rfl ?_
            refine a_iconst (v := 3) d_Brs_nextWay_39 (by decide) ?_
            refine a_iadd d_Brs_nextWay_40 ?_
            refine a_goto 47 d_Brs_nextWay_41 (by decide) ?_
            refine a_iconst (v := 3) d_Brs_nextWay_47 (by decide) ?_
            refine a_iand d_Brs_nextWay_48 ?_
            exact a_iret d_Brs_nextWay_49 rfl (by cases L <;> cases R <;> simp_all [b2, trn, nw3, nw1]) rfl rfl
  · skip
    refine a_iload_n d_Brs_nextWay_4 rfl ?_
    refine a_if_ne 10 d_Brs_nextWay_5 (by decide) (fun c5 => ?_) (fun c5 => ?_)
    · skip
      refine a_iload_n d_Brs_nextWay_10 rfl ?_
      refine a_if_eq 30 d_Brs_nextWay_11 (by decide) (fun c11 => ?_) (fun c11 => ?_)
      · skip
        refine a_iconst (v := 0) d_Brs_nextWay_30 (by decide) ?_
        refine a_istore d_Brs_nextWay_31 (Nat.le_of_ble_eq_true rfl) (Nat.le_of_ble_eq_true rfl) rfl ?_
        refine a_iload d_Brs_nextWay_33 rfl ?_
        refine a_if_eq 44 d_Brs_nextWay_35 (by decide) (fun c35 => ?_) (fun c35 => ?_)
        · skip
          refine a_iload_n d_Brs_nextWay_44 rfl ?_
          refine a_iconst (v := 1) d_Brs_nextWay_45 (by decide) ?_
          refine a_iadd d_Brs_nextWay_46 ?_
          refine a_iconst (v := 3) d_Brs_nextWay_47 (by decide) ?_
          refine a_iand d_Brs_nextWay_48 ?_
          exact a_iret d_Brs_nextWay_49 rfl (by cases L <;> cases R <;> simp_all [b2, trn, nw3, nw1]) rfl rfl
        · skip
          refine a_iload_n d_Brs_nextWay_38 rfl ?_
          refine a_iconst (v := 3) d_Brs_nextWay_39 (by decide) ?_
          refine a_iadd d_Brs_nextWay_40 ?_
          refine a_goto 47 d_Brs_nextWay_41 (by decide) ?_
          refine a_iconst (v := 3) d_Brs_nextWay_47 (by decide) ?_
          refine a_iand d_Brs_nextWay_48 ?_
          exact a_iret d_Brs_nextWay_49 rfl (by cases L <;> cases R <;> simp_all [b2, trn, nw3, nw1]) rfl rfl
      · skip
        refine a_iload_n d_Brs_nextWay_14 rfl ?_
        refine a_if_ne 26 d_Brs_nextWay_15 (by decide) (fun c15 => ?_) (fun c15 => ?_)
        · skip
          refine a_iconst (v := 1) d_Brs_nextWay_26 (by decide) ?_
          refine a_goto 31 d_Brs_nextWay_27 (by decide) ?_
          refine a_istore d_Brs_nextWay_31 (Nat.le_of_ble_eq_true rfl) (Nat.le_of_ble_eq_true rfl) rfl ?_
          refine a_iload d_Brs_nextWay_33 rfl ?_
          refine a_if_eq 44 d_Brs_nextWay_35 (by decide) (fun c35 => ?_) (fun c35 => ?_)
          · skip
            refine a_iload_n d_Brs_nextWay_44 rfl ?_
            refine a_iconst (v := 1) d_Brs_nextWay_45 (by decide) ?_
            refine a_iadd d_Brs_nextWay_46 ?_
            refine a_iconst (v := 3) d_Brs_nextWay_47 (by decide) ?_
            refine a_iand d_Brs_nextWay_48 ?_
            exact a_iret d_Brs_nextWay_49 rfl (by cases L <;> cases R <;> simp_all [b2, trn, nw3, nw1]) rfl rfl
          · skip
            refine a_iload_n d_Brs_nextWay_38 rfl ?_
            refine a_iconst (v := 3) d_Brs_nextWay_39 (by decide) ?_
            refine a_iadd d_Brs_nextWay_40 ?_
            refine a_goto 47 d_Brs_nextWay_41 (by decide) ?_
            refine a_iconst (v := 3) d_Brs_nextWay_47 (by decide) ?_
            refine a_iand d_Brs_nextWay_48 ?_
            exact a_iret d_Brs_nextWay_49 rfl (by cases L <;> cases R <;> simp_all [b2, trn, nw3, nw1]) rfl rfl
        · skip
          refine a_aload_n d_Brs_nextWay_18 rfl ?_
          refine a_getf d_Brs_nextWay_19 f_Brs_50 g19 rfl ?_
          refine a_iconst (v := 1) d_Brs_nextWay_22 (by decide) ?_
          refine a_icmp_ne 30 d_Brs_nextWay_23 (by decide) (fun c23 => ?_) (fun c23 => ?_)
          · skip
            refine a_iconst (v := 0) d_Brs_nextWay_30 (by decide) ?_
            refine a_istore d_Brs_nextWay_31 (Nat.le_of_ble_eq_true rfl) (Nat.le_of_ble_eq_true rfl) rfl ?_
            refine a_iload d_Brs_nextWay_33 rfl ?_
            refine a_if_eq 44 d_Brs_nextWay_35 (by decide) (fun c35 => ?_) (fun c35 => ?_)
            · skip
              refine a_iload_n d_Brs_nextWay_44 rfl ?_
              refine a_iconst (v := 1) d_Brs_nextWay_45 (by decide) ?_
              refine a_iadd d_Brs_nextWay_46 ?_
              refine a_iconst (v := 3) d_Brs_nextWay_47 (by decide) ?_
              refine a_iand d_Brs_nextWay_48 ?_
              exact a_iret d_Brs_nextWay_49 rfl (by cases L <;> cases R <;> simp_all [b2, trn, nw3, nw1]) rfl rfl
            · skip
              refine a_iload_n d_Brs_nextWay_38 rfl ?_
              refine a_iconst (v := 3) d_Brs_nextWay_39 (by decide) ?_
              refine a_iadd d_Brs_nextWay_40 ?_
              refine a_goto 47 d_Brs_nextWay_41 (by decide) ?_
              refine a_iconst (v := 3) d_Brs_nextWay_47 (by decide) ?_
              refine a_iand d_Brs_nextWay_48 ?_
              exact a_iret d_Brs_nextWay_49 rfl (by cases L <;> cases R <;> simp_all [b2, trn, nw3, nw1]) rfl rfl
          · skip
            refine a_iconst (v := 1) d_Brs_nextWay_26 (by decide) ?_
            refine a_goto 31 d_Brs_nextWay_27 (by decide) ?_
            refine a_istore d_Brs_nextWay_31 (Nat.le_of_ble_eq_true rfl) (Nat.le_of_ble_eq_true rfl) rfl ?_
            refine a_iload d_Brs_nextWay_33 rfl ?_
            refine a_if_eq 44 d_Brs_nextWay_35 (by decide) (fun c35 => ?_) (fun c35 => ?_)
            · skip
              refine a_iload_n d_Brs_nextWay_44 rfl ?_
              refine a_iconst (v := 1) d_Brs_nextWay_45 (by decide) ?_
              refine a_iadd d_Brs_nextWay_46 ?_
              refine a_iconst (v := 3) d_Brs_nextWay_47 (by decide) ?_
              refine a_iand d_Brs_nextWay_48 ?_
              exact a_iret d_Brs_nextWay_49 rfl (by cases L <;> cases R <;> simp_all [b2, trn, nw3, nw1]) rfl rfl
            · skip
              refine a_iload_n d_Brs_nextWay_38 rfl ?_
              refine a_iconst (v := 3) d_Brs_nextWay_39 (by decide) ?_
              refine a_iadd d_Brs_nextWay_40 ?_
              refine a_goto 47 d_Brs_nextWay_41 (by decide) ?_
              refine a_iconst (v := 3) d_Brs_nextWay_47 (by decide) ?_
              refine a_iand d_Brs_nextWay_48 ?_
              exact a_iret d_Brs_nextWay_49 rfl (by cases L <;> cases R <;> simp_all [b2, trn, nw3, nw1]) rfl rfl
    · skip
      refine a_iload_n d_Brs_nextWay_8 rfl ?_
      exact a_iret d_Brs_nextWay_9 rfl (by cases L <;> cases R <;> simp_all [b2, trn, nw3, nw1]) rfl rfl
set_option maxRecDepth 20000 in
set_option maxHeartbeats 4000000 in
theorem s_Str_reachAt {re : Nat → Int32} (g24 : h 24 = oStr) (g26 : h 26 = aI 144 re) {p : Nat} (hp : p < 144) : AMet V i_Str_reachAt 0 [.ref 24, .int (nI p)] h n z (some (.int (re p))) (h) n z := by
  refine AMet.intro (Nat.le_refl _) (Nat.le_refl _) (by decide) (Nat.le_of_ble_eq_true rfl) rfl ?_
  refine a_iload_n d_Str_reachAt_0 rfl ?_
  refine a_if_lt 20 d_Str_reachAt_1 (by decide) (fun c1 => absurd c1 (nI_pos (by omega))) (fun c1 => ?_)
  refine a_iload_n d_Str_reachAt_4 rfl ?_
  refine a_sipush (v := 144) d_Str_reachAt_5 (by decide) ?_
  refine a_icmp_ge 20 d_Str_reachAt_8 (by decide) (fun c8 => absurd c8 (nI_ge (b := 144) hp (by omega))) (fun c8 => ?_)
  refine a_aload_n d_Str_reachAt_11 rfl ?_
  refine a_getf d_Str_reachAt_12 f_Str_15 g24 rfl ?_
  refine a_iload_n d_Str_reachAt_15 rfl ?_
  refine a_iald d_Str_reachAt_16 g26 (vp_in_nI hp (by omega)) ?_
  refine a_goto 21 d_Str_reachAt_17 (by decide) ?_
  exact a_iret d_Str_reachAt_21 rfl (by rw [nI_clamp (by omega)]) rfl rfl
set_option maxRecDepth 20000 in
set_option maxHeartbeats 4000000 in
theorem s_Str_offAt {of : Nat → Int32} (g24 : h 24 = oStr) (g25 : h 25 = aI 1872 of) {p s : Nat} (hp : p < 144) (h1 : 1 ≤ s) (h2 : s ≤ 12) : AMet V i_Str_offAt 0 [.ref 24, .int (nI p), .int (nI s)] h n z (some (.int (of (p * 13 + s)))) (h) n z := by
  have e1 : nI p * 13 + nI s = nI (p * 13 + s) := by rw [show (13 : Int32) = nI 13 from rfl, pk_mul, nI_add]
  refine AMet.intro (Nat.le_refl _) (Nat.le_refl _) (by decide) (Nat.le_of_ble_eq_true rfl) rfl ?_
  refine a_iload_n d_Str_offAt_0 rfl ?_
  refine a_if_lt 22 d_Str_offAt_1 (by decide) (fun c1 => absurd c1 (nI_pos (by omega))) (fun c1 => ?_)
  refine a_iload_n d_Str_offAt_4 rfl ?_
  refine a_sipush (v := 144) d_Str_offAt_5 (by decide) ?_
  refine a_icmp_ge 22 d_Str_offAt_8 (by decide) (fun c8 => absurd c8 (nI_ge (b := 144) hp (by omega))) (fun c8 => ?_)
  refine a_iload_n d_Str_offAt_11 rfl ?_
  refine a_iconst (v := 1) d_Str_offAt_12 (by decide) ?_
  refine a_icmp_lt 22 d_Str_offAt_13 (by decide) (fun c13 => absurd c13 (nI_nlt (b := 1) h1 (by omega))) (fun c13 => ?_)
  refine a_iload_n d_Str_offAt_16 rfl ?_
  refine a_bipush (v := 12) d_Str_offAt_17 (by decide) ?_
  refine a_icmp_le 24 d_Str_offAt_19 (by decide) (fun c19 => ?_) (fun c19 => absurd (nI_le (b := 12) h2 (by omega)) c19)
  refine a_aload_n d_Str_offAt_24 rfl ?_
  refine a_getf d_Str_offAt_25 f_Str_11 g24 rfl ?_
  refine a_iload_n d_Str_offAt_28 rfl ?_
  refine a_bipush (v := 13) d_Str_offAt_29 (by decide) ?_
  refine a_imul d_Str_offAt_31 ?_
  refine a_iload_n d_Str_offAt_32 rfl ?_
  refine a_iadd d_Str_offAt_33 ?_
  refine a_iald d_Str_offAt_34 g25 (by rw [e1]; exact vp_in_nI (by omega) (by omega)) ?_
  exact a_iret d_Str_offAt_35 rfl (by rw [e1, nI_clamp (by omega)]) rfl rfl
set_option maxRecDepth 20000 in
set_option maxHeartbeats 4000000 in
theorem s_Bend_from {ux uy vx vy wx wy : Int32} (g28 : h 28 = oBend ux uy vx vy wx wy) (x y : Int32) : AMet V i_Bend_from 0 [.ref 28, .int x, .int y] h n z (none) (hu h 28 (oBend x y vx vy wx wy)) n z := by
  refine AMet.intro (Nat.le_refl _) (Nat.le_refl _) (by decide) (Nat.le_of_ble_eq_true rfl) rfl ?_
  refine a_aload_n d_Bend_from_0 rfl ?_
  refine a_iload_n d_Bend_from_1 rfl ?_
  refine a_putf d_Bend_from_2 f_Bend_7 rfl g28 (Nat.le_of_ble_eq_true rfl) rfl rfl ?_
  refine a_aload_n d_Bend_from_5 rfl ?_
  refine a_iload_n d_Bend_from_6 rfl ?_
  refine a_putf d_Bend_from_7 f_Bend_13 rfl rfl (Nat.le_of_ble_eq_true rfl) rfl rfl ?_
  exact a_vret d_Bend_from_10 rfl rfl (by first | rfl | (simp only [hu_hu]; rfl)) rfl
set_option maxRecDepth 20000 in
set_option maxHeartbeats 4000000 in
theorem s_Bend_by {ux uy vx vy wx wy : Int32} (g28 : h 28 = oBend ux uy vx vy wx wy) (x y : Int32) : AMet V i_Bend_by 0 [.ref 28, .int x, .int y] h n z (none) (hu h 28 (oBend ux uy x y wx wy)) n z := by
  refine AMet.intro (Nat.le_refl _) (Nat.le_refl _) (by decide) (Nat.le_of_ble_eq_true rfl) rfl ?_
  refine a_aload_n d_Bend_by_0 rfl ?_
  refine a_iload_n d_Bend_by_1 rfl ?_
  refine a_putf d_Bend_by_2 f_Bend_16 rfl g28 (Nat.le_of_ble_eq_true rfl) rfl rfl ?_
  refine a_aload_n d_Bend_by_5 rfl ?_
  refine a_iload_n d_Bend_by_6 rfl ?_
  refine a_putf d_Bend_by_7 f_Bend_19 rfl rfl (Nat.le_of_ble_eq_true rfl) rfl rfl ?_
  exact a_vret d_Bend_by_10 rfl rfl (by first | rfl | (simp only [hu_hu]; rfl)) rfl
set_option maxRecDepth 20000 in
set_option maxHeartbeats 4000000 in
theorem s_Bend_to {ux uy vx vy wx wy : Int32} (g28 : h 28 = oBend ux uy vx vy wx wy) (x y : Int32) : AMet V i_Bend_to 0 [.ref 28, .int x, .int y] h n z (none) (hu h 28 (oBend ux uy vx vy x y)) n z := by
  refine AMet.intro (Nat.le_refl _) (Nat.le_refl _) (by decide) (Nat.le_of_ble_eq_true rfl) rfl ?_
  refine a_aload_n d_Bend_to_0 rfl ?_
  refine a_iload_n d_Bend_to_1 rfl ?_
  refine a_putf d_Bend_to_2 f_Bend_22 rfl g28 (Nat.le_of_ble_eq_true rfl) rfl rfl ?_
  refine a_aload_n d_Bend_to_5 rfl ?_
  refine a_iload_n d_Bend_to_6 rfl ?_
  refine a_putf d_Bend_to_7 f_Bend_25 rfl rfl (Nat.le_of_ble_eq_true rfl) rfl rfl ?_
  exact a_vret d_Bend_to_10 rfl rfl (by first | rfl | (simp only [hu_hu]; rfl)) rfl
def fGr (a b : Int32) : Int32 := fMax (fAbs a) (fAbs b)
def fTurn (ux uy vx vy wx wy : Int32) : Int32 := if fGr (vx - ux) (vy - uy) + fGr (wx - vx) (wy - vy) = 0 then 0 else 8 * fAbs ((vx - ux) * (wy - vy) - (vy - uy) * (wx - vx)) / (fGr (vx - ux) (vy - uy) + fGr (wx - vx) (wy - vy))
def fSharp (ux uy vx vy wx wy s : Int32) : Int32 := if (vx - ux) * (wx - vx) + (vy - uy) * (wy - vy) ≤ 0 then 1 else if fTurn ux uy vx vy wx wy < s then 0 else 1
def fRnd (p1 p2 p3 u v w : Int32) : Int32 := p1 * (u + v) + 2 * p2 * v + p3 * (v + w)
set_option maxRecDepth 20000 in
set_option maxHeartbeats 4000000 in
theorem s_Bend_greater (x y : Int32) : AMet V i_Bend_greater 1 [.int x, .int y] h n z (some (.int (fGr x y))) (h) n z := by
  refine AMet.intro (Nat.le_refl _) (Nat.le_refl _) (by decide) (Nat.le_of_ble_eq_true rfl) rfl ?_
  refine a_iload_n d_Bend_greater_0 rfl ?_
  refine a_abs d_Bend_greater_1 l_Bend_32 (Nat.le_of_ble_eq_true rfl) (Nat.le_of_ble_eq_true rfl) (Nat.le_of_ble_eq_true rfl) ?_
  refine a_iload_n d_Bend_greater_4 rfl ?_
  refine a_abs d_Bend_greater_5 l_Bend_32 (Nat.le_of_ble_eq_true rfl) (Nat.le_of_ble_eq_true rfl) (Nat.le_of_ble_eq_true rfl) ?_
  refine a_max d_Bend_greater_8 l_Bend_42 (Nat.le_of_ble_eq_true rfl) (Nat.le_of_ble_eq_true rfl) (Nat.le_of_ble_eq_true rfl) ?_
  exact a_iret d_Bend_greater_11 rfl rfl rfl rfl
set_option maxRecDepth 20000 in
set_option maxHeartbeats 4000000 in
theorem s_Bend_turn {ux uy vx vy wx wy : Int32} (g28 : h 28 = oBend ux uy vx vy wx wy) : AMet V i_Bend_turn 2 [.ref 28] h n z (some (.int (fTurn ux uy vx vy wx wy))) (h) n z := by
  refine AMet.intro (Nat.le_refl _) (Nat.le_refl _) (by decide) (Nat.le_of_ble_eq_true rfl) rfl ?_
  refine a_aload_n d_Bend_turn_0 rfl ?_
  refine a_getf d_Bend_turn_1 f_Bend_16 g28 rfl ?_
  refine a_aload_n d_Bend_turn_4 rfl ?_
  refine a_getf d_Bend_turn_5 f_Bend_7 g28 rfl ?_
  refine a_isub d_Bend_turn_8 ?_
  refine a_aload_n d_Bend_turn_9 rfl ?_
  refine a_getf d_Bend_turn_10 f_Bend_25 g28 rfl ?_
  refine a_aload_n d_Bend_turn_13 rfl ?_
  refine a_getf d_Bend_turn_14 f_Bend_19 g28 rfl ?_
  refine a_isub d_Bend_turn_17 ?_
  refine a_imul d_Bend_turn_18 ?_
  refine a_aload_n d_Bend_turn_19 rfl ?_
  refine a_getf d_Bend_turn_20 f_Bend_19 g28 rfl ?_
  refine a_aload_n d_Bend_turn_23 rfl ?_
  refine a_getf d_Bend_turn_24 f_Bend_13 g28 rfl ?_
  refine a_isub d_Bend_turn_27 ?_
  refine a_aload_n d_Bend_turn_28 rfl ?_
  refine a_getf d_Bend_turn_29 f_Bend_22 g28 rfl ?_
  refine a_aload_n d_Bend_turn_32 rfl ?_
  refine a_getf d_Bend_turn_33 f_Bend_16 g28 rfl ?_
  refine a_isub d_Bend_turn_36 ?_
  refine a_imul d_Bend_turn_37 ?_
  refine a_isub d_Bend_turn_38 ?_
  refine a_istore_n d_Bend_turn_39 (Nat.le_of_ble_eq_true rfl) (Nat.le_of_ble_eq_true rfl) rfl ?_
  refine a_aload_n d_Bend_turn_40 rfl ?_
  refine a_getf d_Bend_turn_41 f_Bend_16 g28 rfl ?_
  refine a_aload_n d_Bend_turn_44 rfl ?_
  refine a_getf d_Bend_turn_45 f_Bend_7 g28 rfl ?_
  refine a_isub d_Bend_turn_48 ?_
  refine a_aload_n d_Bend_turn_49 rfl ?_
  refine a_getf d_Bend_turn_50 f_Bend_19 g28 rfl ?_
  refine a_aload_n d_Bend_turn_53 rfl ?_
  refine a_getf d_Bend_turn_54 f_Bend_13 g28 rfl ?_
  refine a_isub d_Bend_turn_57 ?_
  refine a_cs0 d_Bend_turn_58 m_Bend_greater t_Bend_greater l_Bend_28 (s_Bend_greater _ _) rfl rfl ⟨Nat.le_of_ble_eq_true rfl, Nat.le_of_ble_eq_true rfl⟩ (Nat.le_of_ble_eq_true rfl)  ?_
  refine a_aload_n d_Bend_turn_61 rfl ?_
  refine a_getf d_Bend_turn_62 f_Bend_22 g28 rfl ?_
  refine a_aload_n d_Bend_turn_65 rfl ?_
  refine a_getf d_Bend_turn_66 f_Bend_16 g28 rfl ?_
  refine a_isub d_Bend_turn_69 ?_
  refine a_aload_n d_Bend_turn_70 rfl ?_
  refine a_getf d_Bend_turn_71 f_Bend_25 g28 rfl ?_
  refine a_aload_n d_Bend_turn_74 rfl ?_
  refine a_getf d_Bend_turn_75 f_Bend_19 g28 rfl ?_
  refine a_isub d_Bend_turn_78 ?_
  refine a_cs0 d_Bend_turn_79 m_Bend_greater t_Bend_greater l_Bend_28 (s_Bend_greater _ _) rfl rfl ⟨Nat.le_of_ble_eq_true rfl, Nat.le_of_ble_eq_true rfl⟩ (Nat.le_of_ble_eq_true rfl)  ?_
  refine a_iadd d_Bend_turn_82 ?_
  refine a_istore_n d_Bend_turn_83 (Nat.le_of_ble_eq_true rfl) (Nat.le_of_ble_eq_true rfl) rfl ?_
  refine a_iload_n d_Bend_turn_84 rfl ?_
  refine a_if_ne 92 d_Bend_turn_85 (by decide) (fun c85 => ?_) (fun c85 => ?_)
  · skip
    refine a_bipush (v := 8) d_Bend_turn_92 (by decide) ?_
    refine a_iload_n d_Bend_turn_94 rfl ?_
    refine a_abs d_Bend_turn_95 l_Bend_32 (Nat.le_of_ble_eq_true rfl) (Nat.le_of_ble_eq_true rfl) (Nat.le_of_ble_eq_true rfl) ?_
    refine a_imul d_Bend_turn_98 ?_
    refine a_iload_n d_Bend_turn_99 rfl ?_
    refine a_idiv d_Bend_turn_100 c85 ?_
    exact a_iret d_Bend_turn_101 rfl (by simp [fTurn, c85]) rfl rfl
  · skip
    refine a_iconst (v := 0) d_Bend_turn_88 (by decide) ?_
    refine a_goto 101 d_Bend_turn_89 (by decide) ?_
    exact a_iret d_Bend_turn_101 rfl (by simp [fTurn, c85]) rfl rfl
set_option maxRecDepth 20000 in
set_option maxHeartbeats 4000000 in
theorem s_Bend_isSharp {ux uy vx vy wx wy : Int32} (g28 : h 28 = oBend ux uy vx vy wx wy) (s : Int32) : AMet V i_Bend_isSharp 3 [.ref 28, .int s] h n z (some (.int (fSharp ux uy vx vy wx wy s))) (h) n z := by
  refine AMet.intro (Nat.le_refl _) (Nat.le_refl _) (by decide) (Nat.le_of_ble_eq_true rfl) rfl ?_
  refine a_aload_n d_Bend_isSharp_0 rfl ?_
  refine a_getf d_Bend_isSharp_1 f_Bend_16 g28 rfl ?_
  refine a_aload_n d_Bend_isSharp_4 rfl ?_
  refine a_getf d_Bend_isSharp_5 f_Bend_7 g28 rfl ?_
  refine a_isub d_Bend_isSharp_8 ?_
  refine a_aload_n d_Bend_isSharp_9 rfl ?_
  refine a_getf d_Bend_isSharp_10 f_Bend_22 g28 rfl ?_
  refine a_aload_n d_Bend_isSharp_13 rfl ?_
  refine a_getf d_Bend_isSharp_14 f_Bend_16 g28 rfl ?_
  refine a_isub d_Bend_isSharp_17 ?_
  refine a_imul d_Bend_isSharp_18 ?_
  refine a_aload_n d_Bend_isSharp_19 rfl ?_
  refine a_getf d_Bend_isSharp_20 f_Bend_19 g28 rfl ?_
  refine a_aload_n d_Bend_isSharp_23 rfl ?_
  refine a_getf d_Bend_isSharp_24 f_Bend_13 g28 rfl ?_
  refine a_isub d_Bend_isSharp_27 ?_
  refine a_aload_n d_Bend_isSharp_28 rfl ?_
  refine a_getf d_Bend_isSharp_29 f_Bend_25 g28 rfl ?_
  refine a_aload_n d_Bend_isSharp_32 rfl ?_
  refine a_getf d_Bend_isSharp_33 f_Bend_19 g28 rfl ?_
  refine a_isub d_Bend_isSharp_36 ?_
  refine a_imul d_Bend_isSharp_37 ?_
  refine a_iadd d_Bend_isSharp_38 ?_
  refine a_istore_n d_Bend_isSharp_39 (Nat.le_of_ble_eq_true rfl) (Nat.le_of_ble_eq_true rfl) rfl ?_
  refine a_iload_n d_Bend_isSharp_40 rfl ?_
  refine a_if_le 52 d_Bend_isSharp_41 (by decide) (fun c41 => ?_) (fun c41 => ?_)
  · skip
    refine a_iconst (v := 1) d_Bend_isSharp_52 (by decide) ?_
    refine a_goto 57 d_Bend_isSharp_53 (by decide) ?_
    exact a_zret d_Bend_isSharp_57 rfl (by decide) (by simp [fSharp, c41]) rfl rfl
  · skip
    refine a_aload_n d_Bend_isSharp_44 rfl ?_
    refine a_cv0 d_Bend_isSharp_45 m_Bend_turn t_Bend_turn l_Bend_38 g28 rfl rfl (s_Bend_turn g28) rfl rfl ⟨Nat.le_of_ble_eq_true rfl, Nat.le_of_ble_eq_true rfl⟩ (Nat.le_of_ble_eq_true rfl)  ?_
    refine a_iload_n d_Bend_isSharp_48 rfl ?_
    refine a_icmp_lt 56 d_Bend_isSharp_49 (by decide) (fun c49 => ?_) (fun c49 => ?_)
    · skip
      refine a_iconst (v := 0) d_Bend_isSharp_56 (by decide) ?_
      exact a_zret d_Bend_isSharp_57 rfl (by decide) (by simp [fSharp, c41, c49]) rfl rfl
    · skip
      refine a_iconst (v := 1) d_Bend_isSharp_52 (by decide) ?_
      refine a_goto 57 d_Bend_isSharp_53 (by decide) ?_
      exact a_zret d_Bend_isSharp_57 rfl (by decide) (by simp [fSharp, c41, c49]) rfl rfl
set_option maxRecDepth 20000 in
set_option maxHeartbeats 4000000 in
theorem s_Bend_onRound {i : Nat} (hi : i ≤ 4) (u v w : Int32) : AMet V i_Bend_onRound 0 [.int (nI i), .int u, .int v, .int w] h n z (some (.int (fRnd (tF V 4 i) (tF V 5 i) (tF V 6 i) u v w))) (h) n z := by
  refine AMet.intro (Nat.le_refl _) (Nat.le_refl _) (by decide) (Nat.le_of_ble_eq_true rfl) rfl ?_
  refine a_iload_n d_Bend_onRound_0 rfl ?_
  refine a_if_lt 9 d_Bend_onRound_1 (by decide) (fun c1 => absurd c1 (nI_pos (by omega))) (fun c1 => ?_)
  refine a_iload_n d_Bend_onRound_4 rfl ?_
  refine a_iconst (v := 4) d_Bend_onRound_5 (by decide) ?_
  refine a_icmp_le 11 d_Bend_onRound_6 (by decide) (fun c6 => ?_) (fun c6 => absurd (nI_le (b := 4) hi (by omega)) c6)
  refine a_gets (k := 4) (Nat.le_of_ble_eq_true rfl) d_Bend_onRound_11 s_Bend_49 ?_
  refine a_iload_n d_Bend_onRound_14 rfl ?_
  refine a_tald (Nat.le_of_ble_eq_true rfl) d_Bend_onRound_15 (vp_in_nI (N := 5) (by omega) (by omega)) ?_
  refine a_iload_n d_Bend_onRound_16 rfl ?_
  refine a_iload_n d_Bend_onRound_17 rfl ?_
  refine a_iadd d_Bend_onRound_18 ?_
  refine a_imul d_Bend_onRound_19 ?_
  refine a_iconst (v := 2) d_Bend_onRound_20 (by decide) ?_
  refine a_gets (k := 5) (Nat.le_of_ble_eq_true rfl) d_Bend_onRound_21 s_Bend_53 ?_
  refine a_iload_n d_Bend_onRound_24 rfl ?_
  refine a_tald (Nat.le_of_ble_eq_true rfl) d_Bend_onRound_25 (vp_in_nI (N := 5) (by omega) (by omega)) ?_
  refine a_imul d_Bend_onRound_26 ?_
  refine a_iload_n d_Bend_onRound_27 rfl ?_
  refine a_imul d_Bend_onRound_28 ?_
  refine a_iadd d_Bend_onRound_29 ?_
  refine a_gets (k := 6) (Nat.le_of_ble_eq_true rfl) d_Bend_onRound_30 s_Bend_56 ?_
  refine a_iload_n d_Bend_onRound_33 rfl ?_
  refine a_tald (Nat.le_of_ble_eq_true rfl) d_Bend_onRound_34 (vp_in_nI (N := 5) (by omega) (by omega)) ?_
  refine a_iload_n d_Bend_onRound_35 rfl ?_
  refine a_iload_n d_Bend_onRound_36 rfl ?_
  refine a_iadd d_Bend_onRound_37 ?_
  refine a_imul d_Bend_onRound_38 ?_
  refine a_iadd d_Bend_onRound_39 ?_
  exact a_iret d_Bend_onRound_40 rfl (by rw [nI_clamp (by omega)]; rfl) rfl rfl
set_option maxRecDepth 20000 in
set_option maxHeartbeats 4000000 in
theorem s_Bend_xOnRound {ux uy vx vy wx wy : Int32} (g28 : h 28 = oBend ux uy vx vy wx wy) {i : Nat} (hi : i ≤ 4) : AMet V i_Bend_xOnRound 1 [.ref 28, .int (nI i)] h n z (some (.int (fRnd (tF V 4 i) (tF V 5 i) (tF V 6 i) ux vx wx))) (h) n z := by
  refine AMet.intro (Nat.le_refl _) (Nat.le_refl _) (by decide) (Nat.le_of_ble_eq_true rfl) rfl ?_
  refine a_iload_n d_Bend_xOnRound_0 rfl ?_
  refine a_aload_n d_Bend_xOnRound_1 rfl ?_
  refine a_getf d_Bend_xOnRound_2 f_Bend_7 g28 rfl ?_
  refine a_aload_n d_Bend_xOnRound_5 rfl ?_
  refine a_getf d_Bend_xOnRound_6 f_Bend_16 g28 rfl ?_
  refine a_aload_n d_Bend_xOnRound_9 rfl ?_
  refine a_getf d_Bend_xOnRound_10 f_Bend_22 g28 rfl ?_
  refine a_cs0 d_Bend_xOnRound_13 m_Bend_onRound t_Bend_onRound l_Bend_45 (s_Bend_onRound hi ux vx wx) rfl rfl ⟨Nat.le_of_ble_eq_true rfl, Nat.le_of_ble_eq_true rfl⟩ (Nat.le_of_ble_eq_true rfl)  ?_
  exact a_iret d_Bend_xOnRound_16 rfl rfl rfl rfl
set_option maxRecDepth 20000 in
set_option maxHeartbeats 4000000 in
theorem s_Bend_xOfVertex {ux uy vx vy wx wy : Int32} (g28 : h 28 = oBend ux uy vx vy wx wy) : AMet V i_Bend_xOfVertex 0 [.ref 28] h n z (some (.int (32 * vx))) (h) n z := by
  refine AMet.intro (Nat.le_refl _) (Nat.le_refl _) (by decide) (Nat.le_of_ble_eq_true rfl) rfl ?_
  refine a_bipush (v := 32) d_Bend_xOfVertex_0 (by decide) ?_
  refine a_aload_n d_Bend_xOfVertex_2 rfl ?_
  refine a_getf d_Bend_xOfVertex_3 f_Bend_16 g28 rfl ?_
  refine a_imul d_Bend_xOfVertex_6 ?_
  exact a_iret d_Bend_xOfVertex_7 rfl rfl rfl rfl
set_option maxRecDepth 20000 in
set_option maxHeartbeats 4000000 in
theorem s_Bend_xOfNext {ux uy vx vy wx wy : Int32} (g28 : h 28 = oBend ux uy vx vy wx wy) : AMet V i_Bend_xOfNext 0 [.ref 28] h n z (some (.int (32 * wx))) (h) n z := by
  refine AMet.intro (Nat.le_refl _) (Nat.le_refl _) (by decide) (Nat.le_of_ble_eq_true rfl) rfl ?_
  refine a_bipush (v := 32) d_Bend_xOfNext_0 (by decide) ?_
  refine a_aload_n d_Bend_xOfNext_2 rfl ?_
  refine a_getf d_Bend_xOfNext_3 f_Bend_22 g28 rfl ?_
  refine a_imul d_Bend_xOfNext_6 ?_
  exact a_iret d_Bend_xOfNext_7 rfl rfl rfl rfl
set_option maxRecDepth 20000 in
set_option maxHeartbeats 4000000 in
theorem s_Bend_yOnRound {ux uy vx vy wx wy : Int32} (g28 : h 28 = oBend ux uy vx vy wx wy) {i : Nat} (hi : i ≤ 4) : AMet V i_Bend_yOnRound 1 [.ref 28, .int (nI i)] h n z (some (.int (fRnd (tF V 4 i) (tF V 5 i) (tF V 6 i) uy vy wy))) (h) n z := by
  refine AMet.intro (Nat.le_refl _) (Nat.le_refl _) (by decide) (Nat.le_of_ble_eq_true rfl) rfl ?_
  refine a_iload_n d_Bend_yOnRound_0 rfl ?_
  refine a_aload_n d_Bend_yOnRound_1 rfl ?_
  refine a_getf d_Bend_yOnRound_2 f_Bend_13 g28 rfl ?_
  refine a_aload_n d_Bend_yOnRound_5 rfl ?_
  refine a_getf d_Bend_yOnRound_6 f_Bend_19 g28 rfl ?_
  refine a_aload_n d_Bend_yOnRound_9 rfl ?_
  refine a_getf d_Bend_yOnRound_10 f_Bend_25 g28 rfl ?_
  refine a_cs0 d_Bend_yOnRound_13 m_Bend_onRound t_Bend_onRound l_Bend_45 (s_Bend_onRound hi uy vy wy) rfl rfl ⟨Nat.le_of_ble_eq_true rfl, Nat.le_of_ble_eq_true rfl⟩ (Nat.le_of_ble_eq_true rfl)  ?_
  exact a_iret d_Bend_yOnRound_16 rfl rfl rfl rfl
set_option maxRecDepth 20000 in
set_option maxHeartbeats 4000000 in
theorem s_Bend_yOfVertex {ux uy vx vy wx wy : Int32} (g28 : h 28 = oBend ux uy vx vy wx wy) : AMet V i_Bend_yOfVertex 0 [.ref 28] h n z (some (.int (32 * vy))) (h) n z := by
  refine AMet.intro (Nat.le_refl _) (Nat.le_refl _) (by decide) (Nat.le_of_ble_eq_true rfl) rfl ?_
  refine a_bipush (v := 32) d_Bend_yOfVertex_0 (by decide) ?_
  refine a_aload_n d_Bend_yOfVertex_2 rfl ?_
  refine a_getf d_Bend_yOfVertex_3 f_Bend_19 g28 rfl ?_
  refine a_imul d_Bend_yOfVertex_6 ?_
  exact a_iret d_Bend_yOfVertex_7 rfl rfl rfl rfl
set_option maxRecDepth 20000 in
set_option maxHeartbeats 4000000 in
theorem s_Bend_yOfNext {ux uy vx vy wx wy : Int32} (g28 : h 28 = oBend ux uy vx vy wx wy) : AMet V i_Bend_yOfNext 0 [.ref 28] h n z (some (.int (32 * wy))) (h) n z := by
  refine AMet.intro (Nat.le_refl _) (Nat.le_refl _) (by decide) (Nat.le_of_ble_eq_true rfl) rfl ?_
  refine a_bipush (v := 32) d_Bend_yOfNext_0 (by decide) ?_
  refine a_aload_n d_Bend_yOfNext_2 rfl ?_
  refine a_getf d_Bend_yOfNext_3 f_Bend_25 g28 rfl ?_
  refine a_imul d_Bend_yOfNext_6 ?_
  exact a_iret d_Bend_yOfNext_7 rfl rfl rfl rfl
end
