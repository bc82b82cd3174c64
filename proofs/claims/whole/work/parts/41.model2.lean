/-! THE MODEL, its picture: printed by wip/whole/t41.py -/
/-- how many of the first k bits are set -/
def pcn (D : Int64) : Nat → Nat
  | 0 => 0
  | k + 1 => pcn D k + if lb D k then 1 else 0
theorem pcn_le (D : Int64) : ∀ k, pcn D k ≤ k
  | 0 => Nat.le_refl 0
  | k + 1 => by
    have := pcn_le D k
    show pcn D k + (if lb D k then 1 else 0) ≤ _
    split <;> omega
/-- the model's picture -/
def stF (p : Pc) (i : Nat) : Int32 := if i = 0 then nI p.1 else if i = 1 then nI p.2.1 else if i = 2 then p.2.2.2.1 else if i = 3 then p.2.2.2.2 else if lb p.2.2.1 (i - 4) then 1 else 0
section
variable {V : VV} {h : AH} {n z : Nat}

set_option maxRecDepth 20000 in
set_option maxHeartbeats 4000000 in
theorem L_dark {ac by_ la ra il mn : Int32} {rs : Int64} {tb ve oa lm : Int32} (g32 : h 32 = oMod ac by_ la ra il mn rs tb ve oa lm) {st : Nat → Int32} (g33 : h 33 = aI 68 st) {D : Int64} (hst : ∀ k, k < 64 → st (4 + k) = if lb D k then 1 else 0) : ∀ (m k : Nat), k + m = 64 → AM V i_Mod_dark 0 n z (some (.int (nI (pcn D 64)))) h n z 4 [some (.ref 32), some (.int (nI (pcn D k))), some (.int (nI (4 + k)))] [] h n z := by
  intro m
  induction m with
  | zero =>
    intro k hk
    have e : k = 64 := by omega
    subst e
    refine a_iload_n d_Mod_dark_4 rfl ?_
    refine a_bipush (v := 68) d_Mod_dark_5 (by decide) ?_
    refine a_icmp_ge 25 d_Mod_dark_7 (by decide) (fun c7 => ?_) (fun c7 => absurd (by decide) c7)
    refine a_iload_n d_Mod_dark_25 rfl ?_
    exact a_iret d_Mod_dark_26 rfl rfl rfl rfl
  | succ m ih =>
    intro k hk
    have e1 : nI (pcn D k) + (if lb D k then 1 else 0) = nI (pcn D (k + 1)) := by
      show _ = nI (pcn D k + if lb D k then 1 else 0)
      rw [← nI_add]
      cases lb D k <;> rfl
    refine a_iload_n d_Mod_dark_4 rfl ?_
    refine a_bipush (v := 68) d_Mod_dark_5 (by decide) ?_
    refine a_icmp_ge 25 d_Mod_dark_7 (by decide) (fun c7 => absurd c7 (nI_ge (b := 68) (show 4 + k < 68 by omega) (by omega))) (fun c7 => ?_)
    refine a_iload_n d_Mod_dark_10 rfl ?_
    refine a_aload_n d_Mod_dark_11 rfl ?_
    refine a_getf d_Mod_dark_12 f_Mod_7 g32 rfl ?_
    refine a_iload_n d_Mod_dark_15 rfl ?_
    refine a_iald d_Mod_dark_16 g33 (nI_in (show 4 + k < 68 by omega) (by omega)) ?_
    refine a_iadd d_Mod_dark_17 ?_
    refine a_istore_n d_Mod_dark_18 (Nat.le_of_ble_eq_true rfl) (Nat.le_of_ble_eq_true rfl) rfl ?_
    refine a_iinc d_Mod_dark_19 rfl (nI_1 (4 + k)) (Nat.le_of_ble_eq_true rfl) rfl ?_
    refine a_goto 4 d_Mod_dark_22 (by decide) ?_
    refine a_eq rfl ?_ rfl rfl rfl rfl (ih (k + 1) (by omega))
    rw [nI_clamp (by omega), hst k (by omega), e1]
    rfl
set_option maxRecDepth 20000 in
set_option maxHeartbeats 4000000 in
theorem s_Mod_dark {ac by_ la ra il mn : Int32} {rs : Int64} {tb ve oa lm : Int32} (g32 : h 32 = oMod ac by_ la ra il mn rs tb ve oa lm) {st : Nat → Int32} (g33 : h 33 = aI 68 st) {D : Int64} (hst : ∀ k, k < 64 → st (4 + k) = if lb D k then 1 else 0) : AMet V i_Mod_dark 0 [.ref 32] h n z (some (.int (nI (pcn D 64)))) h n z := by
  refine AMet.intro (Nat.le_refl _) (Nat.le_refl _) (by decide) (Nat.le_of_ble_eq_true rfl) rfl ?_
  refine a_iconst (v := 0) d_Mod_dark_0 (by decide) ?_
  refine a_istore_n d_Mod_dark_1 (Nat.le_of_ble_eq_true rfl) (Nat.le_of_ble_eq_true rfl) rfl ?_
  refine a_iconst (v := 4) d_Mod_dark_2 (by decide) ?_
  refine a_istore_n d_Mod_dark_3 (Nat.le_of_ble_eq_true rfl) (Nat.le_of_ble_eq_true rfl) rfl ?_
  exact L_dark g32 g33 hst 64 0 (by omega)
set_option maxRecDepth 20000 in
set_option maxHeartbeats 4000000 in
theorem L_ones {D : Int64} : ∀ (m k : Nat), k + m = 64 → AM V i_Mod_ones 0 n z (some (.int (nI (pcn D 64)))) h n z 4 [some (.long D), none, some (.int (nI (pcn D k))), some (.int (nI k))] [] h n z := by
  intro m
  induction m with
  | zero =>
    intro k hk
    have e : k = 64 := by omega
    subst e
    refine a_iload_n d_Mod_ones_4 rfl ?_
    refine a_bipush (v := 64) d_Mod_ones_5 (by decide) ?_
    refine a_icmp_ge 25 d_Mod_ones_7 (by decide) (fun c7 => ?_) (fun c7 => absurd (by decide) c7)
    refine a_iload_n d_Mod_ones_25 rfl ?_
    exact a_iret d_Mod_ones_26 rfl rfl rfl rfl
  | succ m ih =>
    intro k hk
    have e1 : nI (pcn D k) + (if lb D k then (1 : Int64) else 0).toInt32 = nI (pcn D (k + 1)) := by
      show _ = nI (pcn D k + if lb D k then 1 else 0)
      rw [← nI_add]
      cases lb D k <;> rfl
    refine a_iload_n d_Mod_ones_4 rfl ?_
    refine a_bipush (v := 64) d_Mod_ones_5 (by decide) ?_
    refine a_icmp_ge 25 d_Mod_ones_7 (by decide) (fun c7 => absurd c7 (nI_ge (b := 64) (show k < 64 by omega) (by omega))) (fun c7 => ?_)
    refine a_iload_n d_Mod_ones_10 rfl ?_
    refine a_lload_n d_Mod_ones_11 rfl ?_
    refine a_iload_n d_Mod_ones_12 rfl ?_
    refine a_lshr d_Mod_ones_13 ?_
    refine a_lconst (v := 1) d_Mod_ones_14 rfl ?_
    refine a_land d_Mod_ones_15 ?_
    rw [lb_pickS k (by omega)]
    refine a_l2i d_Mod_ones_16 ?_
    refine a_iadd d_Mod_ones_17 ?_
    refine a_istore_n d_Mod_ones_18 (Nat.le_of_ble_eq_true rfl) (Nat.le_of_ble_eq_true rfl) rfl ?_
    refine a_iinc d_Mod_ones_19 rfl (nI_1 k) (Nat.le_of_ble_eq_true rfl) rfl ?_
    refine a_goto 4 d_Mod_ones_22 (by decide) ?_
    refine a_eq rfl ?_ rfl rfl rfl rfl (ih (k + 1) (by omega))
    rw [e1]
    rfl
set_option maxRecDepth 20000 in
set_option maxHeartbeats 4000000 in
theorem s_Mod_ones (D : Int64) : AMet V i_Mod_ones 0 [.long D] h n z (some (.int (nI (pcn D 64)))) h n z := by
  refine AMet.intro (Nat.le_refl _) (Nat.le_refl _) (by decide) (Nat.le_of_ble_eq_true rfl) rfl ?_
  refine a_iconst (v := 0) d_Mod_ones_0 (by decide) ?_
  refine a_istore_n d_Mod_ones_1 (Nat.le_of_ble_eq_true rfl) (Nat.le_of_ble_eq_true rfl) rfl ?_
  refine a_iconst (v := 0) d_Mod_ones_2 (by decide) ?_
  refine a_istore_n d_Mod_ones_3 (Nat.le_of_ble_eq_true rfl) (Nat.le_of_ble_eq_true rfl) rfl ?_
  exact L_ones 64 0 (by omega)
end
