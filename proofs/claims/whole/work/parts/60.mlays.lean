/-! THE MODEL lays all borders: printed by wip/whole/t60.py -/
theorem ML.next {J : Bool} {D : Int64} {t f : Nat} {fr sz fx fy : Nat → Int32} {wn : Nat → Int64} {cx cy go : Nat → Int32} (hsk : ∀ k, t ≤ k → k < f → isB J D k = false) (hb : isB J D f = true) (M : ML J D t fr sz fx fy wn cx cy go) : ML J D (f + 1) (upd fr (sB J D f) (nI (sS J D f))) (upd sz (sB J D f) (nI (sP J D f))) (upd fx (sB J D f) (nI (f % 8))) (upd fy (sB J D f) (nI (f / 8))) (vp_updL wn (sB J D f) (wi J (sR J D f) f (sP J D f))) (pt cx (sS J D f) (sP J D f) (wX J (sR J D f) f)) (pt cy (sS J D f) (sP J D f) (wY J (sR J D f) f)) (pt go (sS J D f) (sP J D f) (wW J (sR J D f) f)) := by
  intro t' ht' hb'
  by_cases e : t' = f
  · subst e
    refine ⟨⟨pk_us, pk_us, by rw [pk_us, iI_nat], by rw [pk_us, iI_nat], pk_uLs⟩, fun k hk => ?_⟩
    rw [pt_in hk, pt_in hk, pt_in hk]
    exact ⟨rfl, rfl, rfl⟩
  · have hlt : t' < f := by omega
    have htt : t' < t := by
      rcases Nat.lt_or_ge t' t with c | c
      · exact c
      · rw [hsk t' c hlt] at hb'; cases hb'
    obtain ⟨l1, l2⟩ := sc_lt hlt hb'
    obtain ⟨⟨m1, m2, m3, m4, m5⟩, m6⟩ := M t' htt hb'
    have hn : sB J D t' ≠ sB J D f := by omega
    refine ⟨⟨by rw [pk_un hn, m1], by rw [pk_un hn, m2], by rw [pk_un hn, m3], by rw [pk_un hn, m4], by rw [pk_uLn hn, m5]⟩, fun k hk => ?_⟩
    rw [pt_out (by omega), pt_out (by omega), pt_out (by omega)]
    exact m6 k hk
def MLh (J : Bool) (D : Int64) (t : Nat) (h : AH) : Prop := ∃ fr sz fx fy wn cx cy go, h 39 = aI 40 fr ∧ h 40 = aI 40 sz ∧ h 41 = aI 40 fx ∧ h 42 = aI 40 fy ∧ h 43 = aL 40 wn ∧ h 44 = aI 160 cx ∧ h 45 = aI 160 cy ∧ h 46 = aI 160 go ∧ ML J D t fr sz fx fy wn cx cy go
section
variable {V : VV} {h : AH} {n z : Nat}

set_option maxRecDepth 20000 in
set_option maxHeartbeats 4000000 in
theorem L_lays {ac by_ la ra : Int32} {ve oa lm : Int32} {st : Nat → Int32} {W H : Nat} {j : Int32} {D : Int64} (e0 : st 0 = nI W) (e1 : st 1 = nI H) (e2 : st 2 = j) (hW : W ≤ 8) (hH : H ≤ 8) (hj : j = 0 ∨ j = 1) {J : Bool} (hJ : J = decide (j = 1)) (hin : Wh W H D) : ∀ (m t : Nat), 64 - t ≤ m → t ≤ 64 → ∀ (h : AH), h 32 = oMod ac by_ la ra 1 (nI (sB J D t)) (sR J D t) (-1) ve oa lm → h 33 = aI 68 st → MLh J D t h → ∃ h', h' 32 = oMod ac by_ la ra 1 (nI (sB J D 64)) 0 (-1) ve oa lm ∧ MLh J D 64 h' ∧ (∀ i, i ≠ 32 → (i < 39 ∨ 46 < i) → h' i = h i) ∧ AM V i_Mod_lays 6 n z none h' n z 64 [some (.ref 32), some (.int (nI (sS J D t))), none, none] [] h n z := by
  intro m
  induction m with
  | zero =>
    intro t h1 h2 h g32 g33 M
    have e : t = 64 := by omega
    subst e
    have low := (sc_all J D 64 (Nat.le_refl _)).1
    have rz : sR J D 64 = 0 := lb_eq0.mpr (fun k hk => low k hk)
    refine ⟨h, by rw [g32, rz], M, fun i _ _ => rfl, ?_⟩
    refine a_aload_n d_Mod_lays_64 rfl ?_
    refine a_getf d_Mod_lays_65 f_Mod_132 g32 rfl ?_
    refine a_lconst (v := 0) d_Mod_lays_68 rfl ?_
    refine a_lcmp d_Mod_lays_69 ?_
    refine a_if_eq 249 d_Mod_lays_70 (by decide) (fun c70 => ?_) (fun c70 => absurd (by rw [rz]; decide) c70)
    exact a_vret d_Mod_lays_249 rfl rfl rfl rfl
  | succ m ih =>
    intro t h1 h2 h g32 g33 M
    have lowt := (sc_all J D t h2).1
    by_cases rz : sR J D t = 0
    · have e : sc J D 64 = sc J D t := by
        have := sc_skip (J := J) (D := D) (t := t) (64 - t) (fun k _ _ => by rw [rz, lb_0])
        rw [show t + (64 - t) = 64 by omega] at this
        exact this
      have eb : sB J D 64 = sB J D t := by unfold sB; rw [e]
      refine ⟨h, by rw [g32, rz, eb], ?_, fun i _ _ => rfl, ?_⟩
      · obtain ⟨fr, sz, fx, fy, wn, cx, cy, go, k1, k2, k3, k4, k5, k6, k7, k8, k9⟩ := M
        refine ⟨fr, sz, fx, fy, wn, cx, cy, go, k1, k2, k3, k4, k5, k6, k7, k8, fun t' ht' hb' => k9 t' ?_ hb'⟩
        rcases Nat.lt_or_ge t' t with c | c
        · exact c
        · exfalso
          have e2 : sc J D t' = sc J D t := by
            have := sc_skip (J := J) (D := D) (t := t) (t' - t) (fun k _ _ => by rw [rz, lb_0])
            rw [show t + (t' - t) = t' by omega] at this
            exact this
          unfold isB sR at hb'
          rw [e2, show (sc J D t).1 = 0 from rz, lb_0] at hb'
          cases hb'
      refine a_aload_n d_Mod_lays_64 rfl ?_
      refine a_getf d_Mod_lays_65 f_Mod_132 g32 rfl ?_
      refine a_lconst (v := 0) d_Mod_lays_68 rfl ?_
      refine a_lcmp d_Mod_lays_69 ?_
      refine a_if_eq 249 d_Mod_lays_70 (by decide) (fun c70 => ?_) (fun c70 => absurd (by rw [rz]; decide) c70)
      exact a_vret d_Mod_lays_249 rfl rfl rfl rfl
    · obtain ⟨f, ef⟩ : ∃ f, f = fst1 (fun k => lb (sR J D t) k) 64 := ⟨_, rfl⟩
      have hf : f < 64 := by
        rcases Nat.lt_or_ge f 64 with c | c
        · exact c
        · exact absurd (lb_eq0.mpr (fun k hk => fst1_no (fun k => lb (sR J D t) k) 64 k (by omega))) rz
      have hfb : lb (sR J D t) f = true := by rw [ef]; exact fst1_yes (fun k => lb (sR J D t) k) 64 (by omega)
      have hfn : ∀ k, k < f → lb (sR J D t) k = false := fun k hk => fst1_no (fun k => lb (sR J D t) k) 64 k (by omega)
      have htf : t ≤ f := by
        rcases Nat.lt_or_ge f t with c | c
        · rw [lowt f c] at hfb; cases hfb
        · exact c
      have es : sc J D f = sc J D t := by
        have := sc_skip (J := J) (D := D) (t := t) (f - t) (fun k _ h3 => hfn k (by omega))
        rw [show t + (f - t) = f by omega] at this
        exact this
      have esk : ∀ k, t ≤ k → k < f → isB J D k = false := by
        intro k h3 h4
        have e2 : sc J D k = sc J D t := by
          have := sc_skip (J := J) (D := D) (t := t) (k - t) (fun q _ h5 => hfn q (by omega))
          rw [show t + (k - t) = k by omega] at this
          exact this
        unfold isB sR
        rw [e2]
        exact hfn k h4
      have er : sR J D t = sR J D f := by unfold sR; rw [es]
      have eb : sB J D t = sB J D f := by unfold sB; rw [es]
      have eS : sS J D t = sS J D f := by unfold sS; rw [es]
      rw [er] at hfb hfn rz
      have hb : isB J D f = true := hfb
      rw [er, eb] at g32
      rw [eS]
      obtain ⟨fr, sz, fx, fy, wn, cx, cy, go, g39, g40, g41, g42, g43, g44, g45, g46, k9⟩ := M
      have hlen := (bd_P hf hb).2.2
      have h36 := sB_36 J D f (by omega)
      have low := (sc_all J D f (by omega)).1
      have hinR := sR_Wh (J := J) hin f (by omega)
      have vv := bd_Val hf hb
      have rr := bd_ret hf hb
      obtain ⟨y1, y2, y3⟩ := sc_y hb
      have r8 : nI f - nI f / 8 * 8 = nI (f % 8) := pk_rem (d := 8) (by omega) (by omega) (by omega)
      have d8 : nI f / 8 = nI (f / 8) := pk_div (d := 8) (by omega) (by omega) (by omega)
      obtain ⟨h', a1, a2, a3, M2⟩ := ih (f + 1) (by omega) (by omega) (hu (hu (hu (hu (hu (hu (hu (hu (hu h 41 (aI 40 (upd fx (sB J D f) (nI (f % 8))))) 42 (aI 40 (upd fy (sB J D f) (nI (f / 8))))) 44 (aI 160 (pt cx (sS J D f) (sP J D f) (wX J (sR J D f) f)))) 45 (aI 160 (pt cy (sS J D f) (sP J D f) (wY J (sR J D f) f)))) 46 (aI 160 (pt go (sS J D f) (sP J D f) (wW J (sR J D f) f)))) 39 (aI 40 (upd fr (sB J D f) (nI (sS J D f))))) 40 (aI 40 (upd sz (sB J D f) (nI (sP J D f))))) 43 (aL 40 (vp_updL wn (sB J D f) (mkb (wi J (sR J D f) f (sP J D f)) 64)))) 32 (oMod ac by_ la ra 1 (nI (sB J D (f + 1))) (sR J D (f + 1)) (-1) ve oa lm)) (hu_s _ _ _) (show _ = aI 68 st from g33) ⟨_, _, _, _, _, _, _, _, rfl, rfl, rfl, rfl, by rw [mkb_64]; rfl, rfl, rfl, rfl, k9.next esk hb⟩
      refine ⟨h', a1, a2, fun i q1 q2 => ?_, ?_⟩
      · rw [a3 i q1 q2]
        simp [hu, show i ≠ 32 by omega, show i ≠ 39 by omega, show i ≠ 40 by omega, show i ≠ 41 by omega, show i ≠ 42 by omega, show i ≠ 43 by omega, show i ≠ 44 by omega, show i ≠ 45 by omega, show i ≠ 46 by omega]
      · clear ih a1 a2 a3 k9
        refine a_aload_n d_Mod_lays_64 rfl ?_
        refine a_getf d_Mod_lays_65 f_Mod_132 (show _ = oMod ac by_ la ra 1 (nI (sB J D f)) (sR J D f) (-1) ve oa lm from g32) rfl ?_
        refine a_lconst (v := 0) d_Mod_lays_68 rfl ?_
        refine a_lcmp d_Mod_lays_69 ?_
        refine a_if_eq 249 d_Mod_lays_70 (by decide) (fun c70 => absurd c70 (fun q => rz (cmp0.mp q))) (fun c70 => ?_)
        refine a_iconst (v := 0) d_Mod_lays_73 (by decide) ?_
        refine a_istore_n d_Mod_lays_74 (Nat.le_of_ble_eq_true rfl) (Nat.le_of_ble_eq_true rfl) rfl ?_
        refine (L_layF (h := h) (n := n) (z := z) (a1 := nI (sS J D f)) g32 hf hfb hfn f 0 (by omega)).use ?_
        refine a_aload_n d_Mod_lays_94 rfl ?_
        refine a_getf d_Mod_lays_95 f_Mod_34 (show _ = oMod ac by_ la ra 1 (nI (sB J D f)) (sR J D f) (-1) ve oa lm from g32) rfl ?_
        refine a_aload_n d_Mod_lays_98 rfl ?_
        refine a_getf d_Mod_lays_99 f_Mod_156 (show _ = oMod ac by_ la ra 1 (nI (sB J D f)) (sR J D f) (-1) ve oa lm from g32) rfl ?_
        refine a_iload_n d_Mod_lays_102 rfl ?_
        refine a_bipush (v := 8) d_Mod_lays_103 (by decide) ?_
        refine a_irem d_Mod_lays_105 (by decide) ?_
        rw [r8]
        refine a_iast d_Mod_lays_106 (show _ = aI 40 fx from g41) (nI_in (show sB J D f < 40 by omega) (by decide)) ?_
        refine a_aload_n d_Mod_lays_107 rfl ?_
        refine a_getf d_Mod_lays_108 f_Mod_37 (show _ = oMod ac by_ la ra 1 (nI (sB J D f)) (sR J D f) (-1) ve oa lm from g32) rfl ?_
        refine a_aload_n d_Mod_lays_111 rfl ?_
        refine a_getf d_Mod_lays_112 f_Mod_156 (show _ = oMod ac by_ la ra 1 (nI (sB J D f)) (sR J D f) (-1) ve oa lm from g32) rfl ?_
        refine a_iload_n d_Mod_lays_115 rfl ?_
        refine a_bipush (v := 8) d_Mod_lays_116 (by decide) ?_
        refine a_idiv d_Mod_lays_118 (by decide) ?_
        rw [d8]
        refine a_iast d_Mod_lays_119 (show _ = aI 40 fy from g42) (nI_in (show sB J D f < 40 by omega) (by decide)) ?_
        rw [nI_clamp (by omega)]
        refine a_aload_n d_Mod_lays_120 rfl ?_
        refine a_iload_n d_Mod_lays_121 rfl ?_
        refine a_aload_n d_Mod_lays_122 rfl ?_
        refine a_getf d_Mod_lays_123 f_Mod_156 (show _ = oMod ac by_ la ra 1 (nI (sB J D f)) (sR J D f) (-1) ve oa lm from g32) rfl ?_
        refine a_cv0 (a := 32) d_Mod_lays_126 m_Mod_walks t_Mod_walks l_Mod_159 (show _ = oMod ac by_ la ra 1 (nI (sB J D f)) (sR J D f) (-1) ve oa lm from g32) rfl rfl (s_Mod_walks (h := (hu (hu h 41 (aI 40 (upd fx (sB J D f) (nI (f % 8))))) 42 (aI 40 (upd fy (sB J D f) (nI (f / 8)))))) (rs := sR J D f) (s := sS J D f) (b := sB J D f) (t := f) (st := st) (fr := fr) (sz := sz) (fx := upd fx (sB J D f) (nI (f % 8))) (fy := upd fy (sB J D f) (nI (f / 8))) (cx := cx) (cy := cy) (go := go) (show _ = oMod ac by_ la ra 1 (nI (sB J D f)) (sR J D f) (-1) ve oa lm from g32) (show _ = aI 68 st from g33) (show _ = aI 40 fr from g39) (show _ = aI 40 sz from g40) rfl rfl (show _ = aI 160 cx from g44) (show _ = aI 160 cy from g45) (show _ = aI 160 go from g46) e0 e1 e2 hW hH hj hJ hinR hf hb low (by omega) hlen (by rw [pk_us, iI_nat]) (by rw [pk_us, iI_nat])) rfl rfl ⟨Nat.le_of_ble_eq_true rfl, Nat.le_of_ble_eq_true rfl⟩ (Nat.le_of_ble_eq_true rfl)  ?_
        refine a_iload_n d_Mod_lays_129 rfl ?_
        refine a_aload_n d_Mod_lays_130 rfl ?_
        refine a_getf d_Mod_lays_131 f_Mod_31 (show _ = oMod ac by_ la ra 1 (nI (sB J D f)) (sR J D f) (-1) ve oa lm from g32) rfl ?_
        refine a_aload_n d_Mod_lays_134 rfl ?_
        refine a_getf d_Mod_lays_135 f_Mod_156 (show _ = oMod ac by_ la ra 1 (nI (sB J D f)) (sR J D f) (-1) ve oa lm from g32) rfl ?_
        refine a_iald d_Mod_lays_138 rfl (nI_in (show sB J D f < 40 by omega) (by decide)) ?_
        rw [nI_clamp (by omega), pk_us]
        refine a_iadd d_Mod_lays_139 ?_
        rw [nI_add]
        refine a_istore_n d_Mod_lays_140 (Nat.le_of_ble_eq_true rfl) (Nat.le_of_ble_eq_true rfl) rfl ?_
        refine a_aload_n d_Mod_lays_141 rfl ?_
        refine a_getf d_Mod_lays_142 f_Mod_40 (show _ = oMod ac by_ la ra 1 (nI (sB J D f)) (sR J D f) (-1) ve oa lm from g32) rfl ?_
        refine a_aload_n d_Mod_lays_145 rfl ?_
        refine a_getf d_Mod_lays_146 f_Mod_156 (show _ = oMod ac by_ la ra 1 (nI (sB J D f)) (sR J D f) (-1) ve oa lm from g32) rfl ?_
        refine a_lconst (v := 0) d_Mod_lays_149 rfl ?_
        refine a_last d_Mod_lays_150 (show _ = aL 40 wn from g43) (nI_in (show sB J D f < 40 by omega) (by decide)) ?_
        refine a_iconst (v := 0) d_Mod_lays_151 (by decide) ?_
        refine a_istore_n d_Mod_lays_152 (Nat.le_of_ble_eq_true rfl) (Nat.le_of_ble_eq_true rfl) rfl ?_
        refine a_eq rfl rfl rfl ?_ rfl rfl ((L_layW (h := (hu (hu (hu (hu (hu (hu (hu h 41 (aI 40 (upd fx (sB J D f) (nI (f % 8))))) 42 (aI 40 (upd fy (sB J D f) (nI (f / 8))))) 44 (aI 160 (pt cx (sS J D f) (sP J D f) (wX J (sR J D f) f)))) 45 (aI 160 (pt cy (sS J D f) (sP J D f) (wY J (sR J D f) f)))) 46 (aI 160 (pt go (sS J D f) (sP J D f) (wW J (sR J D f) f)))) 39 (aI 40 (upd fr (sB J D f) (nI (sS J D f))))) 40 (aI 40 (upd sz (sB J D f) (nI (sP J D f)))))) (n := n) (z := z) (a1 := nI (sS J D f + sP J D f)) (a2 := nI f) (wn := wn) (b := sB J D f) (s := sS J D f) (rs := sR J D f) (t := f) (P := sP J D f) (J := J) (fr := upd fr (sB J D f) (nI (sS J D f))) (sz := upd sz (sB J D f) (nI (sP J D f))) (cx := (pt cx (sS J D f) (sP J D f) (wX J (sR J D f) f))) (cy := (pt cy (sS J D f) (sP J D f) (wY J (sR J D f) f))) (go := (pt go (sS J D f) (sP J D f) (wW J (sR J D f) f))) (show _ = oMod ac by_ la ra 1 (nI (sB J D f)) (sR J D f) (-1) ve oa lm from g32) (show _ = aI 68 st from g33) rfl rfl rfl rfl rfl e0 e1 hW hH hinR vv rr (by omega) hlen pk_us pk_us (fun k hk => ⟨pt_in hk, pt_in hk, pt_in hk⟩) 64 0 (by omega)).use ?_)
        · rw [nI_clamp (by omega)]
          rfl
        refine a_aload_n d_Mod_lays_218 rfl ?_
        refine a_dup d_Mod_lays_219 rfl ?_
        refine a_getf d_Mod_lays_220 f_Mod_132 (show _ = oMod ac by_ la ra 1 (nI (sB J D f)) (sR J D f) (-1) ve oa lm from g32) rfl ?_
        refine a_aload_n d_Mod_lays_223 rfl ?_
        refine a_getf d_Mod_lays_224 f_Mod_40 (show _ = oMod ac by_ la ra 1 (nI (sB J D f)) (sR J D f) (-1) ve oa lm from g32) rfl ?_
        refine a_aload_n d_Mod_lays_227 rfl ?_
        refine a_getf d_Mod_lays_228 f_Mod_156 (show _ = oMod ac by_ la ra 1 (nI (sB J D f)) (sR J D f) (-1) ve oa lm from g32) rfl ?_
        refine a_lald d_Mod_lays_231 (hu_s _ _ _) (nI_in (show sB J D f < 40 by omega) (by decide)) ?_
        rw [nI_clamp (by omega), pk_uLs]
        refine a_lxor d_Mod_lays_232 ?_
        refine a_putf d_Mod_lays_233 f_Mod_132 rfl (show _ = oMod ac by_ la ra 1 (nI (sB J D f)) (sR J D f) (-1) ve oa lm from g32) (Nat.le_of_ble_eq_true rfl) rfl rfl ?_
        refine a_aload_n d_Mod_lays_236 rfl ?_
        refine a_dup d_Mod_lays_237 rfl ?_
        refine a_getf d_Mod_lays_238 f_Mod_156 (hu_s _ _ _) rfl ?_
        refine a_iconst (v := 1) d_Mod_lays_241 (by decide) ?_
        refine a_iadd d_Mod_lays_242 ?_
        rw [nI_1]
        refine a_putf d_Mod_lays_243 f_Mod_156 rfl (hu_s _ _ _) (Nat.le_of_ble_eq_true rfl) rfl rfl ?_
        refine a_goto 64 d_Mod_lays_246 (by decide) ?_
        refine a_drop 2 ?_
        refine a_drop 3 ?_
        refine a_eq rfl ?_ rfl ?_ rfl rfl M2
        · rw [y3]; rfl
        · rw [hu_hu, y1, y2, mkb_64]
          rfl
set_option maxRecDepth 20000 in
set_option maxHeartbeats 4000000 in
theorem s_Mod_lays {ac by_ la ra il mn : Int32} {rs : Int64} {tb ve oa lm : Int32} {st : Nat → Int32} {W H : Nat} {j : Int32} {D : Int64} (e0 : st 0 = nI W) (e1 : st 1 = nI H) (e2 : st 2 = j) (hW : W ≤ 8) (hH : H ≤ 8) (hj : j = 0 ∨ j = 1) {J : Bool} (hJ : J = decide (j = 1)) (hin : Wh W H D) (g32 : h 32 = oMod ac by_ la ra 0 mn rs tb ve oa lm) (g33 : h 33 = aI 68 st) (hst : ∀ k, k < 64 → st (4 + k) = if lb D k then 1 else 0) (M : MLh J D 0 h) : ∃ h', h' 32 = oMod ac by_ la ra 1 (nI (sB J D 64)) 0 (-1) ve oa lm ∧ MLh J D 64 h' ∧ (∀ i, i ≠ 32 → (i < 39 ∨ 46 < i) → h' i = h i) ∧ AMet V i_Mod_lays 6 [.ref 32] h n z none h' n z := by
  obtain ⟨h', a1, a2, a3, M2⟩ := L_lays (V := V) (n := n) (z := z) (ac := ac) (by_ := by_) (la := la) (ra := ra) (ve := ve) (oa := oa) (lm := lm) (D := D) e0 e1 e2 hW hH hj hJ hin 64 0 (by omega) (by omega) (hu h 32 (oMod ac by_ la ra 1 0 D (-1) ve oa lm)) (hu_s _ _ _) (show _ = aI 68 st from g33) M
  refine ⟨h', a1, a2, fun i q1 q2 => by rw [a3 i q1 q2, hu_n q1], ?_⟩
  refine AMet.intro (Nat.le_refl _) (Nat.le_refl _) (by decide) (Nat.le_of_ble_eq_true rfl) rfl ?_
  refine a_aload_n d_Mod_lays_0 rfl ?_
  refine a_getf d_Mod_lays_1 f_Mod_110 g32 rfl ?_
  refine a_if_eq 8 d_Mod_lays_4 (by decide) (fun c4 => ?_) (fun c4 => absurd rfl c4)
  refine a_aload_n d_Mod_lays_8 rfl ?_
  refine a_iconst (v := 1) d_Mod_lays_9 (by decide) ?_
  refine a_putf d_Mod_lays_10 f_Mod_110 rfl g32 (Nat.le_of_ble_eq_true rfl) rfl rfl ?_
  refine a_aload_n d_Mod_lays_13 rfl ?_
  refine a_iconst (v := -1) d_Mod_lays_14 (by decide) ?_
  refine a_putf d_Mod_lays_15 f_Mod_153 rfl (hu_s _ _ _) (Nat.le_of_ble_eq_true rfl) rfl rfl ?_
  refine a_aload_n d_Mod_lays_18 rfl ?_
  refine a_iconst (v := 0) d_Mod_lays_19 (by decide) ?_
  refine a_putf d_Mod_lays_20 f_Mod_156 rfl (hu_s _ _ _) (Nat.le_of_ble_eq_true rfl) rfl rfl ?_
  refine a_aload_n d_Mod_lays_23 rfl ?_
  refine a_lconst (v := 0) d_Mod_lays_24 rfl ?_
  refine a_putf d_Mod_lays_25 f_Mod_132 rfl (hu_s _ _ _) (Nat.le_of_ble_eq_true rfl) rfl rfl ?_
  refine a_iconst (v := 0) d_Mod_lays_28 (by decide) ?_
  refine a_istore_n d_Mod_lays_29 (Nat.le_of_ble_eq_true rfl) (Nat.le_of_ble_eq_true rfl) rfl ?_
  rw [hu_hu, hu_hu, hu_hu]
  refine (L_layR (h := h) (n := n) (z := z) (D := D) (ac := ac) (by_ := by_) (la := la) (ra := ra) (ve := ve) (oa := oa) (lm := lm) (il := 0) (mn := mn) (rs := rs) (tb := tb) hst g33 64 0 (by omega)).use ?_
  refine a_iconst (v := 0) d_Mod_lays_62 (by decide) ?_
  refine a_istore_n d_Mod_lays_63 (Nat.le_of_ble_eq_true rfl) (Nat.le_of_ble_eq_true rfl) rfl ?_
  rw [mkb_64]
  exact M2
set_option maxRecDepth 20000 in
set_option maxHeartbeats 4000000 in
theorem s_Mod_laysN {ac by_ la ra mn : Int32} {rs : Int64} {tb ve oa lm : Int32} (g32 : h 32 = oMod ac by_ la ra 1 mn rs tb ve oa lm) : AMet V i_Mod_lays 6 [.ref 32] h n z none h n z := by
  refine AMet.intro (Nat.le_refl _) (Nat.le_refl _) (by decide) (Nat.le_of_ble_eq_true rfl) rfl ?_
  refine a_aload_n d_Mod_lays_0 rfl ?_
  refine a_getf d_Mod_lays_1 f_Mod_110 g32 rfl ?_
  refine a_if_eq 8 d_Mod_lays_4 (by decide) (fun c4 => absurd c4 (by decide)) (fun c4 => ?_)
  exact a_vret d_Mod_lays_7 rfl rfl rfl rfl
end
