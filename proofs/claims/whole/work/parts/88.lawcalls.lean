/-! THE LAW, a call: printed by wip/whole/t88.py -/
section
variable {V : VV} {Qf : QF} {h : AH} {n z z0 : Nat}

set_option maxRecDepth 20000 in
set_option maxHeartbeats 4000000 in
theorem w_feed (I : INV z0 h n z) (hz0 : z0 ≤ 30000) {i : Nat} (hi : i + 6 ≤ tL V 7) (hL : tL V 7 ≤ 3072) (kk : ∀ (h2 : AH) (n2 z2 : Nat), INV z0 h2 n2 z2 → AW V i_Law_law room_1 Qf 8 0 1007 [some (.ref 7), some (.ref 8), some (.ref 32), some (.int (nI i))] [] h2 n2 z2) : AW V i_Law_law room_1 Qf 8 0 156 [some (.ref 7), some (.ref 8), some (.ref 32), some (.int (nI i))] [] h n z := by
  obtain ⟨⟨cc, g8⟩, -⟩ := I.cls
  obtain ⟨r, h1, n1, z1, h2, q1, q2, X, Y, I2, ⟨cm, g32⟩⟩ := o_feed (V := V) I (tF V 7 (i + 1))
  have b : 53 ≤ n1 ∧ n1 ≤ 117 ∧ z0 ≤ z1 ∧ z1 ≤ z0 + 448 := by
    obtain ⟨L, f, lf, W, H, D, j, s, k, ad, aj, ash, i0, i1, ra, A, K, Q, p, hL, hk, R⟩ := id I2
    exact K.b
  have ea1 : nI i + 1 = nI (i + 1) := nI_add i 1
  refine a_aload_n d_Law_law_156 rfl ?_
  refine a_aload_n d_Law_law_157 rfl ?_
  refine a_iload_n d_Law_law_158 rfl ?_
  refine a_iconst (v := 1) d_Law_law_159 (by decide) ?_
  refine a_iadd d_Law_law_160 ?_
  rw [ea1]
  refine a_tald (Nat.le_of_ble_eq_true rfl) d_Law_law_161 (vp_in_nI (show i + 1 < tL V 7 by omega) (by omega)) ?_
  rw [nI_clamp (by omega)]
  refine a_cv (a := 8) d_Law_law_162 m_Dot_feed t_Dot_feed l_Law_13 g8 rfl rfl X rfl rfl ⟨Nat.le_of_ble_eq_true rfl, Nat.le_of_ble_eq_true rfl⟩ (Nat.le_of_ble_eq_true rfl) (show n1 ≤ 8 + 600000 by omega) (show z1 ≤ 0 + 7302250 by omega) ?_
  refine a_aload_n d_Law_law_165 rfl ?_
  refine a_aload_n d_Law_law_166 rfl ?_
  refine a_iload_n d_Law_law_167 rfl ?_
  refine a_iconst (v := 1) d_Law_law_168 (by decide) ?_
  refine a_iadd d_Law_law_169 ?_
  rw [ea1]
  refine a_tald (Nat.le_of_ble_eq_true rfl) d_Law_law_170 (vp_in_nI (show i + 1 < tL V 7 by omega) (by omega)) ?_
  rw [nI_clamp (by omega)]
  refine a_cv (a := 32) d_Law_law_171 m_Mod_feed t_Mod_feed l_Law_17 g32 rfl rfl Y rfl rfl ⟨Nat.le_of_ble_eq_true rfl, Nat.le_of_ble_eq_true rfl⟩ (Nat.le_of_ble_eq_true rfl) (show n1 ≤ 8 + 600000 by omega) (show z1 ≤ 0 + 7302250 by omega) ?_
  refine a_icmp_eq 1007 d_Law_law_174 (by decide) (fun c174 => ?_) (fun c174 => absurd rfl c174)
  exact kk h2 n1 z1 I2
set_option maxRecDepth 20000 in
set_option maxHeartbeats 4000000 in
theorem w_picture (I : INV z0 h n z) (hz0 : z0 ≤ 30000) {i : Nat} (hi : i + 6 ≤ tL V 7) (hL : tL V 7 ≤ 3072) (kk : ∀ (h2 : AH) (n2 z2 : Nat), INV z0 h2 n2 z2 → AW V i_Law_law room_1 Qf 8 0 1007 [some (.ref 7), some (.ref 8), some (.ref 32), some (.int (nI i))] [] h2 n2 z2) : AW V i_Law_law room_1 Qf 8 0 179 [some (.ref 7), some (.ref 8), some (.ref 32), some (.int (nI i))] [] h n z := by
  obtain ⟨⟨cc, g8⟩, -⟩ := I.cls
  obtain ⟨r, h1, n1, z1, h2, q1, q2, X, Y, I2, ⟨cm, g32⟩⟩ := o_picture (V := V) I 
  have b : 53 ≤ n1 ∧ n1 ≤ 117 ∧ z0 ≤ z1 ∧ z1 ≤ z0 + 448 := by
    obtain ⟨L, f, lf, W, H, D, j, s, k, ad, aj, ash, i0, i1, ra, A, K, Q, p, hL, hk, R⟩ := id I2
    exact K.b
  refine a_aload_n d_Law_law_179 rfl ?_
  refine a_cv (a := 8) d_Law_law_180 m_Dot_picture t_Dot_picture l_Law_18 g8 rfl rfl X rfl rfl ⟨Nat.le_of_ble_eq_true rfl, Nat.le_of_ble_eq_true rfl⟩ (Nat.le_of_ble_eq_true rfl) (show n1 ≤ 8 + 600000 by omega) (show z1 ≤ 0 + 7302250 by omega) ?_
  refine a_aload_n d_Law_law_183 rfl ?_
  refine a_cv (a := 32) d_Law_law_184 m_Mod_picture t_Mod_picture l_Law_22 g32 rfl rfl Y rfl rfl ⟨Nat.le_of_ble_eq_true rfl, Nat.le_of_ble_eq_true rfl⟩ (Nat.le_of_ble_eq_true rfl) (show n1 ≤ 8 + 600000 by omega) (show z1 ≤ 0 + 7302250 by omega) ?_
  refine a_icmp_eq 1007 d_Law_law_187 (by decide) (fun c187 => ?_) (fun c187 => absurd rfl c187)
  exact kk h2 n1 z1 I2
set_option maxRecDepth 20000 in
set_option maxHeartbeats 4000000 in
theorem w_fault (I : INV z0 h n z) (hz0 : z0 ≤ 30000) {i : Nat} (hi : i + 6 ≤ tL V 7) (hL : tL V 7 ≤ 3072) (kk : ∀ (h2 : AH) (n2 z2 : Nat), INV z0 h2 n2 z2 → AW V i_Law_law room_1 Qf 8 0 1007 [some (.ref 7), some (.ref 8), some (.ref 32), some (.int (nI i))] [] h2 n2 z2) : AW V i_Law_law room_1 Qf 8 0 192 [some (.ref 7), some (.ref 8), some (.ref 32), some (.int (nI i))] [] h n z := by
  obtain ⟨⟨cc, g8⟩, -⟩ := I.cls
  obtain ⟨r, h1, n1, z1, h2, q1, q2, X, Y, I2, ⟨cm, g32⟩⟩ := o_fault (V := V) I 
  have b : 53 ≤ n1 ∧ n1 ≤ 117 ∧ z0 ≤ z1 ∧ z1 ≤ z0 + 448 := by
    obtain ⟨L, f, lf, W, H, D, j, s, k, ad, aj, ash, i0, i1, ra, A, K, Q, p, hL, hk, R⟩ := id I2
    exact K.b
  refine a_aload_n d_Law_law_192 rfl ?_
  refine a_cv (a := 8) d_Law_law_193 m_Dot_fault t_Dot_fault l_Law_23 g8 rfl rfl X rfl rfl ⟨Nat.le_of_ble_eq_true rfl, Nat.le_of_ble_eq_true rfl⟩ (Nat.le_of_ble_eq_true rfl) (show n1 ≤ 8 + 600000 by omega) (show z1 ≤ 0 + 7302250 by omega) ?_
  refine a_aload_n d_Law_law_196 rfl ?_
  refine a_cv (a := 32) d_Law_law_197 m_Mod_fault t_Mod_fault l_Law_26 g32 rfl rfl Y rfl rfl ⟨Nat.le_of_ble_eq_true rfl, Nat.le_of_ble_eq_true rfl⟩ (Nat.le_of_ble_eq_true rfl) (show n1 ≤ 8 + 600000 by omega) (show z1 ≤ 0 + 7302250 by omega) ?_
  refine a_icmp_eq 1007 d_Law_law_200 (by decide) (fun c200 => ?_) (fun c200 => absurd rfl c200)
  exact kk h2 n1 z1 I2
set_option maxRecDepth 20000 in
set_option maxHeartbeats 4000000 in
theorem w_undo (I : INV z0 h n z) (hz0 : z0 ≤ 30000) {i : Nat} (hi : i + 6 ≤ tL V 7) (hL : tL V 7 ≤ 3072) (kk : ∀ (h2 : AH) (n2 z2 : Nat), INV z0 h2 n2 z2 → AW V i_Law_law room_1 Qf 8 0 1007 [some (.ref 7), some (.ref 8), some (.ref 32), some (.int (nI i))] [] h2 n2 z2) : AW V i_Law_law room_1 Qf 8 0 205 [some (.ref 7), some (.ref 8), some (.ref 32), some (.int (nI i))] [] h n z := by
  obtain ⟨⟨cc, g8⟩, -⟩ := I.cls
  obtain ⟨r, h1, n1, z1, h2, q1, q2, X, Y, I2, ⟨cm, g32⟩⟩ := o_undo (V := V) I 
  have b : 53 ≤ n1 ∧ n1 ≤ 117 ∧ z0 ≤ z1 ∧ z1 ≤ z0 + 448 := by
    obtain ⟨L, f, lf, W, H, D, j, s, k, ad, aj, ash, i0, i1, ra, A, K, Q, p, hL, hk, R⟩ := id I2
    exact K.b
  refine a_aload_n d_Law_law_205 rfl ?_
  refine a_cv (a := 8) d_Law_law_206 m_Dot_undo t_Dot_undo l_Law_27 g8 rfl rfl X rfl rfl ⟨Nat.le_of_ble_eq_true rfl, Nat.le_of_ble_eq_true rfl⟩ (Nat.le_of_ble_eq_true rfl) (show n1 ≤ 8 + 600000 by omega) (show z1 ≤ 0 + 7302250 by omega) ?_
  refine a_aload_n d_Law_law_209 rfl ?_
  refine a_cv (a := 32) d_Law_law_210 m_Mod_undo t_Mod_undo l_Law_30 g32 rfl rfl Y rfl rfl ⟨Nat.le_of_ble_eq_true rfl, Nat.le_of_ble_eq_true rfl⟩ (Nat.le_of_ble_eq_true rfl) (show n1 ≤ 8 + 600000 by omega) (show z1 ≤ 0 + 7302250 by omega) ?_
  refine a_icmp_eq 1007 d_Law_law_213 (by decide) (fun c213 => ?_) (fun c213 => absurd rfl c213)
  exact kk h2 n1 z1 I2
set_option maxRecDepth 20000 in
set_option maxHeartbeats 4000000 in
theorem w_flip (I : INV z0 h n z) (hz0 : z0 ≤ 30000) {i : Nat} (hi : i + 6 ≤ tL V 7) (hL : tL V 7 ≤ 3072) (kk : ∀ (h2 : AH) (n2 z2 : Nat), INV z0 h2 n2 z2 → AW V i_Law_law room_1 Qf 8 0 1007 [some (.ref 7), some (.ref 8), some (.ref 32), some (.int (nI i))] [] h2 n2 z2) : AW V i_Law_law room_1 Qf 8 0 218 [some (.ref 7), some (.ref 8), some (.ref 32), some (.int (nI i))] [] h n z := by
  obtain ⟨⟨cc, g8⟩, -⟩ := I.cls
  obtain ⟨r, h1, n1, z1, h2, q1, q2, X, Y, I2, ⟨cm, g32⟩⟩ := o_flip (V := V) I (tF V 7 (i + 1)) (tF V 7 (i + 2))
  have b : 53 ≤ n1 ∧ n1 ≤ 117 ∧ z0 ≤ z1 ∧ z1 ≤ z0 + 448 := by
    obtain ⟨L, f, lf, W, H, D, j, s, k, ad, aj, ash, i0, i1, ra, A, K, Q, p, hL, hk, R⟩ := id I2
    exact K.b
  have ea1 : nI i + 1 = nI (i + 1) := nI_add i 1
  have ea2 : nI i + 2 = nI (i + 2) := nI_add i 2
  refine a_aload_n d_Law_law_218 rfl ?_
  refine a_aload_n d_Law_law_219 rfl ?_
  refine a_iload_n d_Law_law_220 rfl ?_
  refine a_iconst (v := 1) d_Law_law_221 (by decide) ?_
  refine a_iadd d_Law_law_222 ?_
  rw [ea1]
  refine a_tald (Nat.le_of_ble_eq_true rfl) d_Law_law_223 (vp_in_nI (show i + 1 < tL V 7 by omega) (by omega)) ?_
  rw [nI_clamp (by omega)]
  refine a_aload_n d_Law_law_224 rfl ?_
  refine a_iload_n d_Law_law_225 rfl ?_
  refine a_iconst (v := 2) d_Law_law_226 (by decide) ?_
  refine a_iadd d_Law_law_227 ?_
  rw [ea2]
  refine a_tald (Nat.le_of_ble_eq_true rfl) d_Law_law_228 (vp_in_nI (show i + 2 < tL V 7 by omega) (by omega)) ?_
  rw [nI_clamp (by omega)]
  refine a_cv (a := 8) d_Law_law_229 m_Dot_flip t_Dot_flip l_Law_31 g8 rfl rfl X rfl rfl ⟨Nat.le_of_ble_eq_true rfl, Nat.le_of_ble_eq_true rfl⟩ (Nat.le_of_ble_eq_true rfl) (show n1 ≤ 8 + 600000 by omega) (show z1 ≤ 0 + 7302250 by omega) ?_
  refine a_aload_n d_Law_law_232 rfl ?_
  refine a_aload_n d_Law_law_233 rfl ?_
  refine a_iload_n d_Law_law_234 rfl ?_
  refine a_iconst (v := 1) d_Law_law_235 (by decide) ?_
  refine a_iadd d_Law_law_236 ?_
  rw [ea1]
  refine a_tald (Nat.le_of_ble_eq_true rfl) d_Law_law_237 (vp_in_nI (show i + 1 < tL V 7 by omega) (by omega)) ?_
  rw [nI_clamp (by omega)]
  refine a_aload_n d_Law_law_238 rfl ?_
  refine a_iload_n d_Law_law_239 rfl ?_
  refine a_iconst (v := 2) d_Law_law_240 (by decide) ?_
  refine a_iadd d_Law_law_241 ?_
  rw [ea2]
  refine a_tald (Nat.le_of_ble_eq_true rfl) d_Law_law_242 (vp_in_nI (show i + 2 < tL V 7 by omega) (by omega)) ?_
  rw [nI_clamp (by omega)]
  refine a_cv (a := 32) d_Law_law_243 m_Mod_flip t_Mod_flip l_Law_35 g32 rfl rfl Y rfl rfl ⟨Nat.le_of_ble_eq_true rfl, Nat.le_of_ble_eq_true rfl⟩ (Nat.le_of_ble_eq_true rfl) (show n1 ≤ 8 + 600000 by omega) (show z1 ≤ 0 + 7302250 by omega) ?_
  refine a_icmp_eq 1007 d_Law_law_246 (by decide) (fun c246 => ?_) (fun c246 => absurd rfl c246)
  exact kk h2 n1 z1 I2
set_option maxRecDepth 20000 in
set_option maxHeartbeats 4000000 in
theorem w_frame (I : INV z0 h n z) (hz0 : z0 ≤ 30000) {i : Nat} (hi : i + 6 ≤ tL V 7) (hL : tL V 7 ≤ 3072) (kk : ∀ (h2 : AH) (n2 z2 : Nat), INV z0 h2 n2 z2 → AW V i_Law_law room_1 Qf 8 0 1007 [some (.ref 7), some (.ref 8), some (.ref 32), some (.int (nI i))] [] h2 n2 z2) : AW V i_Law_law room_1 Qf 8 0 251 [some (.ref 7), some (.ref 8), some (.ref 32), some (.int (nI i))] [] h n z := by
  obtain ⟨⟨cc, g8⟩, -⟩ := I.cls
  obtain ⟨r, h1, n1, z1, h2, q1, q2, X, Y, I2, ⟨cm, g32⟩⟩ := o_frame (V := V) I (tF V 7 (i + 1)) (tF V 7 (i + 2)) (tF V 7 (i + 3)) (tF V 7 (i + 4)) (tF V 7 (i + 5))
  have b : 53 ≤ n1 ∧ n1 ≤ 117 ∧ z0 ≤ z1 ∧ z1 ≤ z0 + 448 := by
    obtain ⟨L, f, lf, W, H, D, j, s, k, ad, aj, ash, i0, i1, ra, A, K, Q, p, hL, hk, R⟩ := id I2
    exact K.b
  have ea1 : nI i + 1 = nI (i + 1) := nI_add i 1
  have ea2 : nI i + 2 = nI (i + 2) := nI_add i 2
  have ea3 : nI i + 3 = nI (i + 3) := nI_add i 3
  have ea4 : nI i + 4 = nI (i + 4) := nI_add i 4
  have ea5 : nI i + 5 = nI (i + 5) := nI_add i 5
  refine a_aload_n d_Law_law_251 rfl ?_
  refine a_aload_n d_Law_law_252 rfl ?_
  refine a_iload_n d_Law_law_253 rfl ?_
  refine a_iconst (v := 1) d_Law_law_254 (by decide) ?_
  refine a_iadd d_Law_law_255 ?_
  rw [ea1]
  refine a_tald (Nat.le_of_ble_eq_true rfl) d_Law_law_256 (vp_in_nI (show i + 1 < tL V 7 by omega) (by omega)) ?_
  rw [nI_clamp (by omega)]
  refine a_aload_n d_Law_law_257 rfl ?_
  refine a_iload_n d_Law_law_258 rfl ?_
  refine a_iconst (v := 2) d_Law_law_259 (by decide) ?_
  refine a_iadd d_Law_law_260 ?_
  rw [ea2]
  refine a_tald (Nat.le_of_ble_eq_true rfl) d_Law_law_261 (vp_in_nI (show i + 2 < tL V 7 by omega) (by omega)) ?_
  rw [nI_clamp (by omega)]
  refine a_aload_n d_Law_law_262 rfl ?_
  refine a_iload_n d_Law_law_263 rfl ?_
  refine a_iconst (v := 3) d_Law_law_264 (by decide) ?_
  refine a_iadd d_Law_law_265 ?_
  rw [ea3]
  refine a_tald (Nat.le_of_ble_eq_true rfl) d_Law_law_266 (vp_in_nI (show i + 3 < tL V 7 by omega) (by omega)) ?_
  rw [nI_clamp (by omega)]
  refine a_aload_n d_Law_law_267 rfl ?_
  refine a_iload_n d_Law_law_268 rfl ?_
  refine a_iconst (v := 4) d_Law_law_269 (by decide) ?_
  refine a_iadd d_Law_law_270 ?_
  rw [ea4]
  refine a_tald (Nat.le_of_ble_eq_true rfl) d_Law_law_271 (vp_in_nI (show i + 4 < tL V 7 by omega) (by omega)) ?_
  rw [nI_clamp (by omega)]
  refine a_aload_n d_Law_law_272 rfl ?_
  refine a_iload_n d_Law_law_273 rfl ?_
  refine a_iconst (v := 5) d_Law_law_274 (by decide) ?_
  refine a_iadd d_Law_law_275 ?_
  rw [ea5]
  refine a_tald (Nat.le_of_ble_eq_true rfl) d_Law_law_276 (vp_in_nI (show i + 5 < tL V 7 by omega) (by omega)) ?_
  rw [nI_clamp (by omega)]
  refine a_cv (a := 8) d_Law_law_277 m_Dot_frame t_Dot_frame l_Law_36 g8 rfl rfl X rfl rfl ⟨Nat.le_of_ble_eq_true rfl, Nat.le_of_ble_eq_true rfl⟩ (Nat.le_of_ble_eq_true rfl) (show n1 ≤ 8 + 600000 by omega) (show z1 ≤ 0 + 7302250 by omega) ?_
  refine a_aload_n d_Law_law_280 rfl ?_
  refine a_aload_n d_Law_law_281 rfl ?_
  refine a_iload_n d_Law_law_282 rfl ?_
  refine a_iconst (v := 1) d_Law_law_283 (by decide) ?_
  refine a_iadd d_Law_law_284 ?_
  rw [ea1]
  refine a_tald (Nat.le_of_ble_eq_true rfl) d_Law_law_285 (vp_in_nI (show i + 1 < tL V 7 by omega) (by omega)) ?_
  rw [nI_clamp (by omega)]
  refine a_aload_n d_Law_law_286 rfl ?_
  refine a_iload_n d_Law_law_287 rfl ?_
  refine a_iconst (v := 2) d_Law_law_288 (by decide) ?_
  refine a_iadd d_Law_law_289 ?_
  rw [ea2]
  refine a_tald (Nat.le_of_ble_eq_true rfl) d_Law_law_290 (vp_in_nI (show i + 2 < tL V 7 by omega) (by omega)) ?_
  rw [nI_clamp (by omega)]
  refine a_aload_n d_Law_law_291 rfl ?_
  refine a_iload_n d_Law_law_292 rfl ?_
  refine a_iconst (v := 3) d_Law_law_293 (by decide) ?_
  refine a_iadd d_Law_law_294 ?_
  rw [ea3]
  refine a_tald (Nat.le_of_ble_eq_true rfl) d_Law_law_295 (vp_in_nI (show i + 3 < tL V 7 by omega) (by omega)) ?_
  rw [nI_clamp (by omega)]
  refine a_aload_n d_Law_law_296 rfl ?_
  refine a_iload_n d_Law_law_297 rfl ?_
  refine a_iconst (v := 4) d_Law_law_298 (by decide) ?_
  refine a_iadd d_Law_law_299 ?_
  rw [ea4]
  refine a_tald (Nat.le_of_ble_eq_true rfl) d_Law_law_300 (vp_in_nI (show i + 4 < tL V 7 by omega) (by omega)) ?_
  rw [nI_clamp (by omega)]
  refine a_aload_n d_Law_law_301 rfl ?_
  refine a_iload_n d_Law_law_302 rfl ?_
  refine a_iconst (v := 5) d_Law_law_303 (by decide) ?_
  refine a_iadd d_Law_law_304 ?_
  rw [ea5]
  refine a_tald (Nat.le_of_ble_eq_true rfl) d_Law_law_305 (vp_in_nI (show i + 5 < tL V 7 by omega) (by omega)) ?_
  rw [nI_clamp (by omega)]
  refine a_cv (a := 32) d_Law_law_306 m_Mod_frame t_Mod_frame l_Law_40 g32 rfl rfl Y rfl rfl ⟨Nat.le_of_ble_eq_true rfl, Nat.le_of_ble_eq_true rfl⟩ (Nat.le_of_ble_eq_true rfl) (show n1 ≤ 8 + 600000 by omega) (show z1 ≤ 0 + 7302250 by omega) ?_
  refine a_icmp_eq 1007 d_Law_law_309 (by decide) (fun c309 => ?_) (fun c309 => absurd rfl c309)
  exact kk h2 n1 z1 I2
set_option maxRecDepth 20000 in
set_option maxHeartbeats 4000000 in
theorem w_joined (I : INV z0 h n z) (hz0 : z0 ≤ 30000) {i : Nat} (hi : i + 6 ≤ tL V 7) (hL : tL V 7 ≤ 3072) (kk : ∀ (h2 : AH) (n2 z2 : Nat), INV z0 h2 n2 z2 → AW V i_Law_law room_1 Qf 8 0 1007 [some (.ref 7), some (.ref 8), some (.ref 32), some (.int (nI i))] [] h2 n2 z2) : AW V i_Law_law room_1 Qf 8 0 314 [some (.ref 7), some (.ref 8), some (.ref 32), some (.int (nI i))] [] h n z := by
  obtain ⟨⟨cc, g8⟩, -⟩ := I.cls
  obtain ⟨r, h1, n1, z1, h2, q1, q2, X, Y, I2, ⟨cm, g32⟩⟩ := o_joined (V := V) I (tF V 7 (i + 1))
  have b : 53 ≤ n1 ∧ n1 ≤ 117 ∧ z0 ≤ z1 ∧ z1 ≤ z0 + 448 := by
    obtain ⟨L, f, lf, W, H, D, j, s, k, ad, aj, ash, i0, i1, ra, A, K, Q, p, hL, hk, R⟩ := id I2
    exact K.b
  have ea1 : nI i + 1 = nI (i + 1) := nI_add i 1
  refine a_aload_n d_Law_law_314 rfl ?_
  refine a_aload_n d_Law_law_315 rfl ?_
  refine a_iload_n d_Law_law_316 rfl ?_
  refine a_iconst (v := 1) d_Law_law_317 (by decide) ?_
  refine a_iadd d_Law_law_318 ?_
  rw [ea1]
  refine a_tald (Nat.le_of_ble_eq_true rfl) d_Law_law_319 (vp_in_nI (show i + 1 < tL V 7 by omega) (by omega)) ?_
  rw [nI_clamp (by omega)]
  refine a_cv (a := 8) d_Law_law_320 m_Dot_joined t_Dot_joined l_Law_41 g8 rfl rfl X rfl rfl ⟨Nat.le_of_ble_eq_true rfl, Nat.le_of_ble_eq_true rfl⟩ (Nat.le_of_ble_eq_true rfl) (show n1 ≤ 8 + 600000 by omega) (show z1 ≤ 0 + 7302250 by omega) ?_
  refine a_aload_n d_Law_law_323 rfl ?_
  refine a_aload_n d_Law_law_324 rfl ?_
  refine a_iload_n d_Law_law_325 rfl ?_
  refine a_iconst (v := 1) d_Law_law_326 (by decide) ?_
  refine a_iadd d_Law_law_327 ?_
  rw [ea1]
  refine a_tald (Nat.le_of_ble_eq_true rfl) d_Law_law_328 (vp_in_nI (show i + 1 < tL V 7 by omega) (by omega)) ?_
  rw [nI_clamp (by omega)]
  refine a_cv (a := 32) d_Law_law_329 m_Mod_joined t_Mod_joined l_Law_44 g32 rfl rfl Y rfl rfl ⟨Nat.le_of_ble_eq_true rfl, Nat.le_of_ble_eq_true rfl⟩ (Nat.le_of_ble_eq_true rfl) (show n1 ≤ 8 + 600000 by omega) (show z1 ≤ 0 + 7302250 by omega) ?_
  refine a_icmp_eq 1007 d_Law_law_332 (by decide) (fun c332 => ?_) (fun c332 => absurd rfl c332)
  exact kk h2 n1 z1 I2
set_option maxRecDepth 20000 in
set_option maxHeartbeats 4000000 in
theorem w_sharp (I : INV z0 h n z) (hz0 : z0 ≤ 30000) {i : Nat} (hi : i + 6 ≤ tL V 7) (hL : tL V 7 ≤ 3072) (kk : ∀ (h2 : AH) (n2 z2 : Nat), INV z0 h2 n2 z2 → AW V i_Law_law room_1 Qf 8 0 1007 [some (.ref 7), some (.ref 8), some (.ref 32), some (.int (nI i))] [] h2 n2 z2) : AW V i_Law_law room_1 Qf 8 0 337 [some (.ref 7), some (.ref 8), some (.ref 32), some (.int (nI i))] [] h n z := by
  obtain ⟨⟨cc, g8⟩, -⟩ := I.cls
  obtain ⟨r, h1, n1, z1, h2, q1, q2, X, Y, I2, ⟨cm, g32⟩⟩ := o_sharp (V := V) I (tF V 7 (i + 1))
  have b : 53 ≤ n1 ∧ n1 ≤ 117 ∧ z0 ≤ z1 ∧ z1 ≤ z0 + 448 := by
    obtain ⟨L, f, lf, W, H, D, j, s, k, ad, aj, ash, i0, i1, ra, A, K, Q, p, hL, hk, R⟩ := id I2
    exact K.b
  have ea1 : nI i + 1 = nI (i + 1) := nI_add i 1
  refine a_aload_n d_Law_law_337 rfl ?_
  refine a_aload_n d_Law_law_338 rfl ?_
  refine a_iload_n d_Law_law_339 rfl ?_
  refine a_iconst (v := 1) d_Law_law_340 (by decide) ?_
  refine a_iadd d_Law_law_341 ?_
  rw [ea1]
  refine a_tald (Nat.le_of_ble_eq_true rfl) d_Law_law_342 (vp_in_nI (show i + 1 < tL V 7 by omega) (by omega)) ?_
  rw [nI_clamp (by omega)]
  refine a_cv (a := 8) d_Law_law_343 m_Dot_sharp t_Dot_sharp l_Law_45 g8 rfl rfl X rfl rfl ⟨Nat.le_of_ble_eq_true rfl, Nat.le_of_ble_eq_true rfl⟩ (Nat.le_of_ble_eq_true rfl) (show n1 ≤ 8 + 600000 by omega) (show z1 ≤ 0 + 7302250 by omega) ?_
  refine a_aload_n d_Law_law_346 rfl ?_
  refine a_aload_n d_Law_law_347 rfl ?_
  refine a_iload_n d_Law_law_348 rfl ?_
  refine a_iconst (v := 1) d_Law_law_349 (by decide) ?_
  refine a_iadd d_Law_law_350 ?_
  rw [ea1]
  refine a_tald (Nat.le_of_ble_eq_true rfl) d_Law_law_351 (vp_in_nI (show i + 1 < tL V 7 by omega) (by omega)) ?_
  rw [nI_clamp (by omega)]
  refine a_cv (a := 32) d_Law_law_352 m_Mod_sharp t_Mod_sharp l_Law_48 g32 rfl rfl Y rfl rfl ⟨Nat.le_of_ble_eq_true rfl, Nat.le_of_ble_eq_true rfl⟩ (Nat.le_of_ble_eq_true rfl) (show n1 ≤ 8 + 600000 by omega) (show z1 ≤ 0 + 7302250 by omega) ?_
  refine a_icmp_eq 1007 d_Law_law_355 (by decide) (fun c355 => ?_) (fun c355 => absurd rfl c355)
  exact kk h2 n1 z1 I2
set_option maxRecDepth 20000 in
set_option maxHeartbeats 4000000 in
theorem w_dot (I : INV z0 h n z) (hz0 : z0 ≤ 30000) {i : Nat} (hi : i + 6 ≤ tL V 7) (hL : tL V 7 ≤ 3072) (kk : ∀ (h2 : AH) (n2 z2 : Nat), INV z0 h2 n2 z2 → AW V i_Law_law room_1 Qf 8 0 1007 [some (.ref 7), some (.ref 8), some (.ref 32), some (.int (nI i))] [] h2 n2 z2) : AW V i_Law_law room_1 Qf 8 0 360 [some (.ref 7), some (.ref 8), some (.ref 32), some (.int (nI i))] [] h n z := by
  obtain ⟨⟨cc, g8⟩, -⟩ := I.cls
  obtain ⟨r, h1, n1, z1, h2, q1, q2, X, Y, I2, ⟨cm, g32⟩⟩ := o_dot (V := V) I (tF V 7 (i + 1)) (tF V 7 (i + 2))
  have b : 53 ≤ n1 ∧ n1 ≤ 117 ∧ z0 ≤ z1 ∧ z1 ≤ z0 + 448 := by
    obtain ⟨L, f, lf, W, H, D, j, s, k, ad, aj, ash, i0, i1, ra, A, K, Q, p, hL, hk, R⟩ := id I2
    exact K.b
  have ea1 : nI i + 1 = nI (i + 1) := nI_add i 1
  have ea2 : nI i + 2 = nI (i + 2) := nI_add i 2
  refine a_aload_n d_Law_law_360 rfl ?_
  refine a_aload_n d_Law_law_361 rfl ?_
  refine a_iload_n d_Law_law_362 rfl ?_
  refine a_iconst (v := 1) d_Law_law_363 (by decide) ?_
  refine a_iadd d_Law_law_364 ?_
  rw [ea1]
  refine a_tald (Nat.le_of_ble_eq_true rfl) d_Law_law_365 (vp_in_nI (show i + 1 < tL V 7 by omega) (by omega)) ?_
  rw [nI_clamp (by omega)]
  refine a_aload_n d_Law_law_366 rfl ?_
  refine a_iload_n d_Law_law_367 rfl ?_
  refine a_iconst (v := 2) d_Law_law_368 (by decide) ?_
  refine a_iadd d_Law_law_369 ?_
  rw [ea2]
  refine a_tald (Nat.le_of_ble_eq_true rfl) d_Law_law_370 (vp_in_nI (show i + 2 < tL V 7 by omega) (by omega)) ?_
  rw [nI_clamp (by omega)]
  refine a_cv (a := 8) d_Law_law_371 m_Dot_dot t_Dot_dot l_Law_49 g8 rfl rfl X rfl rfl ⟨Nat.le_of_ble_eq_true rfl, Nat.le_of_ble_eq_true rfl⟩ (Nat.le_of_ble_eq_true rfl) (show n1 ≤ 8 + 600000 by omega) (show z1 ≤ 0 + 7302250 by omega) ?_
  refine a_aload_n d_Law_law_374 rfl ?_
  refine a_aload_n d_Law_law_375 rfl ?_
  refine a_iload_n d_Law_law_376 rfl ?_
  refine a_iconst (v := 1) d_Law_law_377 (by decide) ?_
  refine a_iadd d_Law_law_378 ?_
  rw [ea1]
  refine a_tald (Nat.le_of_ble_eq_true rfl) d_Law_law_379 (vp_in_nI (show i + 1 < tL V 7 by omega) (by omega)) ?_
  rw [nI_clamp (by omega)]
  refine a_aload_n d_Law_law_380 rfl ?_
  refine a_iload_n d_Law_law_381 rfl ?_
  refine a_iconst (v := 2) d_Law_law_382 (by decide) ?_
  refine a_iadd d_Law_law_383 ?_
  rw [ea2]
  refine a_tald (Nat.le_of_ble_eq_true rfl) d_Law_law_384 (vp_in_nI (show i + 2 < tL V 7 by omega) (by omega)) ?_
  rw [nI_clamp (by omega)]
  refine a_cv (a := 32) d_Law_law_385 m_Mod_dot t_Mod_dot l_Law_52 g32 rfl rfl Y rfl rfl ⟨Nat.le_of_ble_eq_true rfl, Nat.le_of_ble_eq_true rfl⟩ (Nat.le_of_ble_eq_true rfl) (show n1 ≤ 8 + 600000 by omega) (show z1 ≤ 0 + 7302250 by omega) ?_
  refine a_icmp_eq 1007 d_Law_law_388 (by decide) (fun c388 => ?_) (fun c388 => absurd rfl c388)
  exact kk h2 n1 z1 I2
set_option maxRecDepth 20000 in
set_option maxHeartbeats 4000000 in
theorem w_borders (I : INV z0 h n z) (hz0 : z0 ≤ 30000) {i : Nat} (hi : i + 6 ≤ tL V 7) (hL : tL V 7 ≤ 3072) (kk : ∀ (h2 : AH) (n2 z2 : Nat), INV z0 h2 n2 z2 → AW V i_Law_law room_1 Qf 8 0 1007 [some (.ref 7), some (.ref 8), some (.ref 32), some (.int (nI i))] [] h2 n2 z2) : AW V i_Law_law room_1 Qf 8 0 393 [some (.ref 7), some (.ref 8), some (.ref 32), some (.int (nI i))] [] h n z := by
  obtain ⟨⟨cc, g8⟩, -⟩ := I.cls
  obtain ⟨r, h1, n1, z1, h2, q1, q2, X, Y, I2, ⟨cm, g32⟩⟩ := o_borders (V := V) I 
  have b : 53 ≤ n1 ∧ n1 ≤ 117 ∧ z0 ≤ z1 ∧ z1 ≤ z0 + 448 := by
    obtain ⟨L, f, lf, W, H, D, j, s, k, ad, aj, ash, i0, i1, ra, A, K, Q, p, hL, hk, R⟩ := id I2
    exact K.b
  refine a_aload_n d_Law_law_393 rfl ?_
  refine a_cv (a := 8) d_Law_law_394 m_Dot_borders t_Dot_borders l_Law_53 g8 rfl rfl X rfl rfl ⟨Nat.le_of_ble_eq_true rfl, Nat.le_of_ble_eq_true rfl⟩ (Nat.le_of_ble_eq_true rfl) (show n1 ≤ 8 + 600000 by omega) (show z1 ≤ 0 + 7302250 by omega) ?_
  refine a_aload_n d_Law_law_397 rfl ?_
  refine a_cv (a := 32) d_Law_law_398 m_Mod_borders t_Mod_borders l_Law_56 g32 rfl rfl Y rfl rfl ⟨Nat.le_of_ble_eq_true rfl, Nat.le_of_ble_eq_true rfl⟩ (Nat.le_of_ble_eq_true rfl) (show n1 ≤ 8 + 600000 by omega) (show z1 ≤ 0 + 7302250 by omega) ?_
  refine a_icmp_eq 1007 d_Law_law_401 (by decide) (fun c401 => ?_) (fun c401 => absurd rfl c401)
  exact kk h2 n1 z1 I2
set_option maxRecDepth 20000 in
set_option maxHeartbeats 4000000 in
theorem w_border (I : INV z0 h n z) (hz0 : z0 ≤ 30000) {i : Nat} (hi : i + 6 ≤ tL V 7) (hL : tL V 7 ≤ 3072) (kk : ∀ (h2 : AH) (n2 z2 : Nat), INV z0 h2 n2 z2 → AW V i_Law_law room_1 Qf 8 0 1007 [some (.ref 7), some (.ref 8), some (.ref 32), some (.int (nI i))] [] h2 n2 z2) : AW V i_Law_law room_1 Qf 8 0 406 [some (.ref 7), some (.ref 8), some (.ref 32), some (.int (nI i))] [] h n z := by
  obtain ⟨⟨cc, g8⟩, -⟩ := I.cls
  obtain ⟨r, h1, n1, z1, h2, q1, q2, X, Y, I2, ⟨cm, g32⟩⟩ := o_border (V := V) I (tF V 7 (i + 1)) (tF V 7 (i + 2))
  have b : 53 ≤ n1 ∧ n1 ≤ 117 ∧ z0 ≤ z1 ∧ z1 ≤ z0 + 448 := by
    obtain ⟨L, f, lf, W, H, D, j, s, k, ad, aj, ash, i0, i1, ra, A, K, Q, p, hL, hk, R⟩ := id I2
    exact K.b
  have ea1 : nI i + 1 = nI (i + 1) := nI_add i 1
  have ea2 : nI i + 2 = nI (i + 2) := nI_add i 2
  refine a_aload_n d_Law_law_406 rfl ?_
  refine a_aload_n d_Law_law_407 rfl ?_
  refine a_iload_n d_Law_law_408 rfl ?_
  refine a_iconst (v := 1) d_Law_law_409 (by decide) ?_
  refine a_iadd d_Law_law_410 ?_
  rw [ea1]
  refine a_tald (Nat.le_of_ble_eq_true rfl) d_Law_law_411 (vp_in_nI (show i + 1 < tL V 7 by omega) (by omega)) ?_
  rw [nI_clamp (by omega)]
  refine a_aload_n d_Law_law_412 rfl ?_
  refine a_iload_n d_Law_law_413 rfl ?_
  refine a_iconst (v := 2) d_Law_law_414 (by decide) ?_
  refine a_iadd d_Law_law_415 ?_
  rw [ea2]
  refine a_tald (Nat.le_of_ble_eq_true rfl) d_Law_law_416 (vp_in_nI (show i + 2 < tL V 7 by omega) (by omega)) ?_
  rw [nI_clamp (by omega)]
  refine a_cv (a := 8) d_Law_law_417 m_Dot_border t_Dot_border l_Law_57 g8 rfl rfl X rfl rfl ⟨Nat.le_of_ble_eq_true rfl, Nat.le_of_ble_eq_true rfl⟩ (Nat.le_of_ble_eq_true rfl) (show n1 ≤ 8 + 600000 by omega) (show z1 ≤ 0 + 7302250 by omega) ?_
  refine a_aload_n d_Law_law_420 rfl ?_
  refine a_aload_n d_Law_law_421 rfl ?_
  refine a_iload_n d_Law_law_422 rfl ?_
  refine a_iconst (v := 1) d_Law_law_423 (by decide) ?_
  refine a_iadd d_Law_law_424 ?_
  rw [ea1]
  refine a_tald (Nat.le_of_ble_eq_true rfl) d_Law_law_425 (vp_in_nI (show i + 1 < tL V 7 by omega) (by omega)) ?_
  rw [nI_clamp (by omega)]
  refine a_aload_n d_Law_law_426 rfl ?_
  refine a_iload_n d_Law_law_427 rfl ?_
  refine a_iconst (v := 2) d_Law_law_428 (by decide) ?_
  refine a_iadd d_Law_law_429 ?_
  rw [ea2]
  refine a_tald (Nat.le_of_ble_eq_true rfl) d_Law_law_430 (vp_in_nI (show i + 2 < tL V 7 by omega) (by omega)) ?_
  rw [nI_clamp (by omega)]
  refine a_cv (a := 32) d_Law_law_431 m_Mod_border t_Mod_border l_Law_60 g32 rfl rfl Y rfl rfl ⟨Nat.le_of_ble_eq_true rfl, Nat.le_of_ble_eq_true rfl⟩ (Nat.le_of_ble_eq_true rfl) (show n1 ≤ 8 + 600000 by omega) (show z1 ≤ 0 + 7302250 by omega) ?_
  refine a_icmp_eq 1007 d_Law_law_434 (by decide) (fun c434 => ?_) (fun c434 => absurd rfl c434)
  exact kk h2 n1 z1 I2
set_option maxRecDepth 20000 in
set_option maxHeartbeats 4000000 in
theorem w_corner (I : INV z0 h n z) (hz0 : z0 ≤ 30000) {i : Nat} (hi : i + 6 ≤ tL V 7) (hL : tL V 7 ≤ 3072) (kk : ∀ (h2 : AH) (n2 z2 : Nat), INV z0 h2 n2 z2 → AW V i_Law_law room_1 Qf 8 0 1007 [some (.ref 7), some (.ref 8), some (.ref 32), some (.int (nI i))] [] h2 n2 z2) : AW V i_Law_law room_1 Qf 8 0 439 [some (.ref 7), some (.ref 8), some (.ref 32), some (.int (nI i))] [] h n z := by
  obtain ⟨⟨cc, g8⟩, -⟩ := I.cls
  obtain ⟨r, h1, n1, z1, h2, q1, q2, X, Y, I2, ⟨cm, g32⟩⟩ := o_corner (V := V) I (tF V 7 (i + 1)) (tF V 7 (i + 2)) (tF V 7 (i + 3))
  have b : 53 ≤ n1 ∧ n1 ≤ 117 ∧ z0 ≤ z1 ∧ z1 ≤ z0 + 448 := by
    obtain ⟨L, f, lf, W, H, D, j, s, k, ad, aj, ash, i0, i1, ra, A, K, Q, p, hL, hk, R⟩ := id I2
    exact K.b
  have ea1 : nI i + 1 = nI (i + 1) := nI_add i 1
  have ea2 : nI i + 2 = nI (i + 2) := nI_add i 2
  have ea3 : nI i + 3 = nI (i + 3) := nI_add i 3
  refine a_aload_n d_Law_law_439 rfl ?_
  refine a_aload_n d_Law_law_440 rfl ?_
  refine a_iload_n d_Law_law_441 rfl ?_
  refine a_iconst (v := 1) d_Law_law_442 (by decide) ?_
  refine a_iadd d_Law_law_443 ?_
  rw [ea1]
  refine a_tald (Nat.le_of_ble_eq_true rfl) d_Law_law_444 (vp_in_nI (show i + 1 < tL V 7 by omega) (by omega)) ?_
  rw [nI_clamp (by omega)]
  refine a_aload_n d_Law_law_445 rfl ?_
  refine a_iload_n d_Law_law_446 rfl ?_
  refine a_iconst (v := 2) d_Law_law_447 (by decide) ?_
  refine a_iadd d_Law_law_448 ?_
  rw [ea2]
  refine a_tald (Nat.le_of_ble_eq_true rfl) d_Law_law_449 (vp_in_nI (show i + 2 < tL V 7 by omega) (by omega)) ?_
  rw [nI_clamp (by omega)]
  refine a_aload_n d_Law_law_450 rfl ?_
  refine a_iload_n d_Law_law_451 rfl ?_
  refine a_iconst (v := 3) d_Law_law_452 (by decide) ?_
  refine a_iadd d_Law_law_453 ?_
  rw [ea3]
  refine a_tald (Nat.le_of_ble_eq_true rfl) d_Law_law_454 (vp_in_nI (show i + 3 < tL V 7 by omega) (by omega)) ?_
  rw [nI_clamp (by omega)]
  refine a_cv (a := 8) d_Law_law_455 m_Dot_corner t_Dot_corner l_Law_61 g8 rfl rfl X rfl rfl ⟨Nat.le_of_ble_eq_true rfl, Nat.le_of_ble_eq_true rfl⟩ (Nat.le_of_ble_eq_true rfl) (show n1 ≤ 8 + 600000 by omega) (show z1 ≤ 0 + 7302250 by omega) ?_
  refine a_aload_n d_Law_law_458 rfl ?_
  refine a_aload_n d_Law_law_459 rfl ?_
  refine a_iload_n d_Law_law_460 rfl ?_
  refine a_iconst (v := 1) d_Law_law_461 (by decide) ?_
  refine a_iadd d_Law_law_462 ?_
  rw [ea1]
  refine a_tald (Nat.le_of_ble_eq_true rfl) d_Law_law_463 (vp_in_nI (show i + 1 < tL V 7 by omega) (by omega)) ?_
  rw [nI_clamp (by omega)]
  refine a_aload_n d_Law_law_464 rfl ?_
  refine a_iload_n d_Law_law_465 rfl ?_
  refine a_iconst (v := 2) d_Law_law_466 (by decide) ?_
  refine a_iadd d_Law_law_467 ?_
  rw [ea2]
  refine a_tald (Nat.le_of_ble_eq_true rfl) d_Law_law_468 (vp_in_nI (show i + 2 < tL V 7 by omega) (by omega)) ?_
  rw [nI_clamp (by omega)]
  refine a_aload_n d_Law_law_469 rfl ?_
  refine a_iload_n d_Law_law_470 rfl ?_
  refine a_iconst (v := 3) d_Law_law_471 (by decide) ?_
  refine a_iadd d_Law_law_472 ?_
  rw [ea3]
  refine a_tald (Nat.le_of_ble_eq_true rfl) d_Law_law_473 (vp_in_nI (show i + 3 < tL V 7 by omega) (by omega)) ?_
  rw [nI_clamp (by omega)]
  refine a_cv (a := 32) d_Law_law_474 m_Mod_corner t_Mod_corner l_Law_65 g32 rfl rfl Y rfl rfl ⟨Nat.le_of_ble_eq_true rfl, Nat.le_of_ble_eq_true rfl⟩ (Nat.le_of_ble_eq_true rfl) (show n1 ≤ 8 + 600000 by omega) (show z1 ≤ 0 + 7302250 by omega) ?_
  refine a_icmp_eq 1007 d_Law_law_477 (by decide) (fun c477 => ?_) (fun c477 => absurd rfl c477)
  exact kk h2 n1 z1 I2
set_option maxRecDepth 20000 in
set_option maxHeartbeats 4000000 in
theorem w_inside (I : INV z0 h n z) (hz0 : z0 ≤ 30000) {i : Nat} (hi : i + 6 ≤ tL V 7) (hL : tL V 7 ≤ 3072) (kk : ∀ (h2 : AH) (n2 z2 : Nat), INV z0 h2 n2 z2 → AW V i_Law_law room_1 Qf 8 0 1007 [some (.ref 7), some (.ref 8), some (.ref 32), some (.int (nI i))] [] h2 n2 z2) : AW V i_Law_law room_1 Qf 8 0 482 [some (.ref 7), some (.ref 8), some (.ref 32), some (.int (nI i))] [] h n z := by
  obtain ⟨⟨cc, g8⟩, -⟩ := I.cls
  obtain ⟨r, h1, n1, z1, h2, q1, q2, X, Y, I2, ⟨cm, g32⟩⟩ := o_inside (V := V) I (tF V 7 (i + 1)) (tF V 7 (i + 2)) (tF V 7 (i + 3))
  have b : 53 ≤ n1 ∧ n1 ≤ 117 ∧ z0 ≤ z1 ∧ z1 ≤ z0 + 448 := by
    obtain ⟨L, f, lf, W, H, D, j, s, k, ad, aj, ash, i0, i1, ra, A, K, Q, p, hL, hk, R⟩ := id I2
    exact K.b
  have ea1 : nI i + 1 = nI (i + 1) := nI_add i 1
  have ea2 : nI i + 2 = nI (i + 2) := nI_add i 2
  have ea3 : nI i + 3 = nI (i + 3) := nI_add i 3
  refine a_aload_n d_Law_law_482 rfl ?_
  refine a_aload_n d_Law_law_483 rfl ?_
  refine a_iload_n d_Law_law_484 rfl ?_
  refine a_iconst (v := 1) d_Law_law_485 (by decide) ?_
  refine a_iadd d_Law_law_486 ?_
  rw [ea1]
  refine a_tald (Nat.le_of_ble_eq_true rfl) d_Law_law_487 (vp_in_nI (show i + 1 < tL V 7 by omega) (by omega)) ?_
  rw [nI_clamp (by omega)]
  refine a_aload_n d_Law_law_488 rfl ?_
  refine a_iload_n d_Law_law_489 rfl ?_
  refine a_iconst (v := 2) d_Law_law_490 (by decide) ?_
  refine a_iadd d_Law_law_491 ?_
  rw [ea2]
  refine a_tald (Nat.le_of_ble_eq_true rfl) d_Law_law_492 (vp_in_nI (show i + 2 < tL V 7 by omega) (by omega)) ?_
  rw [nI_clamp (by omega)]
  refine a_aload_n d_Law_law_493 rfl ?_
  refine a_iload_n d_Law_law_494 rfl ?_
  refine a_iconst (v := 3) d_Law_law_495 (by decide) ?_
  refine a_iadd d_Law_law_496 ?_
  rw [ea3]
  refine a_tald (Nat.le_of_ble_eq_true rfl) d_Law_law_497 (vp_in_nI (show i + 3 < tL V 7 by omega) (by omega)) ?_
  rw [nI_clamp (by omega)]
  refine a_cv (a := 8) d_Law_law_498 m_Dot_inside t_Dot_inside l_Law_66 g8 rfl rfl X rfl rfl ⟨Nat.le_of_ble_eq_true rfl, Nat.le_of_ble_eq_true rfl⟩ (Nat.le_of_ble_eq_true rfl) (show n1 ≤ 8 + 600000 by omega) (show z1 ≤ 0 + 7302250 by omega) ?_
  refine a_aload_n d_Law_law_501 rfl ?_
  refine a_aload_n d_Law_law_502 rfl ?_
  refine a_iload_n d_Law_law_503 rfl ?_
  refine a_iconst (v := 1) d_Law_law_504 (by decide) ?_
  refine a_iadd d_Law_law_505 ?_
  rw [ea1]
  refine a_tald (Nat.le_of_ble_eq_true rfl) d_Law_law_506 (vp_in_nI (show i + 1 < tL V 7 by omega) (by omega)) ?_
  rw [nI_clamp (by omega)]
  refine a_aload_n d_Law_law_507 rfl ?_
  refine a_iload_n d_Law_law_508 rfl ?_
  refine a_iconst (v := 2) d_Law_law_509 (by decide) ?_
  refine a_iadd d_Law_law_510 ?_
  rw [ea2]
  refine a_tald (Nat.le_of_ble_eq_true rfl) d_Law_law_511 (vp_in_nI (show i + 2 < tL V 7 by omega) (by omega)) ?_
  rw [nI_clamp (by omega)]
  refine a_aload_n d_Law_law_512 rfl ?_
  refine a_iload_n d_Law_law_513 rfl ?_
  refine a_iconst (v := 3) d_Law_law_514 (by decide) ?_
  refine a_iadd d_Law_law_515 ?_
  rw [ea3]
  refine a_tald (Nat.le_of_ble_eq_true rfl) d_Law_law_516 (vp_in_nI (show i + 3 < tL V 7 by omega) (by omega)) ?_
  rw [nI_clamp (by omega)]
  refine a_cv (a := 32) d_Law_law_517 m_Mod_inside t_Mod_inside l_Law_69 g32 rfl rfl Y rfl rfl ⟨Nat.le_of_ble_eq_true rfl, Nat.le_of_ble_eq_true rfl⟩ (Nat.le_of_ble_eq_true rfl) (show n1 ≤ 8 + 600000 by omega) (show z1 ≤ 0 + 7302250 by omega) ?_
  refine a_icmp_eq 1007 d_Law_law_520 (by decide) (fun c520 => ?_) (fun c520 => absurd rfl c520)
  exact kk h2 n1 z1 I2
set_option maxRecDepth 20000 in
set_option maxHeartbeats 4000000 in
theorem w_straight (I : INV z0 h n z) (hz0 : z0 ≤ 30000) {i : Nat} (hi : i + 6 ≤ tL V 7) (hL : tL V 7 ≤ 3072) (kk : ∀ (h2 : AH) (n2 z2 : Nat), INV z0 h2 n2 z2 → AW V i_Law_law room_1 Qf 8 0 1007 [some (.ref 7), some (.ref 8), some (.ref 32), some (.int (nI i))] [] h2 n2 z2) : AW V i_Law_law room_1 Qf 8 0 525 [some (.ref 7), some (.ref 8), some (.ref 32), some (.int (nI i))] [] h n z := by
  obtain ⟨⟨cc, g8⟩, -⟩ := I.cls
  obtain ⟨r, h1, n1, z1, h2, q1, q2, X, Y, I2, ⟨cm, g32⟩⟩ := o_straight (V := V) I (tF V 7 (i + 1)) (tF V 7 (i + 2)) (tF V 7 (i + 3))
  have b : 53 ≤ n1 ∧ n1 ≤ 117 ∧ z0 ≤ z1 ∧ z1 ≤ z0 + 448 := by
    obtain ⟨L, f, lf, W, H, D, j, s, k, ad, aj, ash, i0, i1, ra, A, K, Q, p, hL, hk, R⟩ := id I2
    exact K.b
  have ea1 : nI i + 1 = nI (i + 1) := nI_add i 1
  have ea2 : nI i + 2 = nI (i + 2) := nI_add i 2
  have ea3 : nI i + 3 = nI (i + 3) := nI_add i 3
  refine a_aload_n d_Law_law_525 rfl ?_
  refine a_aload_n d_Law_law_526 rfl ?_
  refine a_iload_n d_Law_law_527 rfl ?_
  refine a_iconst (v := 1) d_Law_law_528 (by decide) ?_
  refine a_iadd d_Law_law_529 ?_
  rw [ea1]
  refine a_tald (Nat.le_of_ble_eq_true rfl) d_Law_law_530 (vp_in_nI (show i + 1 < tL V 7 by omega) (by omega)) ?_
  rw [nI_clamp (by omega)]
  refine a_aload_n d_Law_law_531 rfl ?_
  refine a_iload_n d_Law_law_532 rfl ?_
  refine a_iconst (v := 2) d_Law_law_533 (by decide) ?_
  refine a_iadd d_Law_law_534 ?_
  rw [ea2]
  refine a_tald (Nat.le_of_ble_eq_true rfl) d_Law_law_535 (vp_in_nI (show i + 2 < tL V 7 by omega) (by omega)) ?_
  rw [nI_clamp (by omega)]
  refine a_aload_n d_Law_law_536 rfl ?_
  refine a_iload_n d_Law_law_537 rfl ?_
  refine a_iconst (v := 3) d_Law_law_538 (by decide) ?_
  refine a_iadd d_Law_law_539 ?_
  rw [ea3]
  refine a_tald (Nat.le_of_ble_eq_true rfl) d_Law_law_540 (vp_in_nI (show i + 3 < tL V 7 by omega) (by omega)) ?_
  rw [nI_clamp (by omega)]
  refine a_cv (a := 8) d_Law_law_541 m_Dot_straight t_Dot_straight l_Law_70 g8 rfl rfl X rfl rfl ⟨Nat.le_of_ble_eq_true rfl, Nat.le_of_ble_eq_true rfl⟩ (Nat.le_of_ble_eq_true rfl) (show n1 ≤ 8 + 600000 by omega) (show z1 ≤ 0 + 7302250 by omega) ?_
  refine a_aload_n d_Law_law_544 rfl ?_
  refine a_aload_n d_Law_law_545 rfl ?_
  refine a_iload_n d_Law_law_546 rfl ?_
  refine a_iconst (v := 1) d_Law_law_547 (by decide) ?_
  refine a_iadd d_Law_law_548 ?_
  rw [ea1]
  refine a_tald (Nat.le_of_ble_eq_true rfl) d_Law_law_549 (vp_in_nI (show i + 1 < tL V 7 by omega) (by omega)) ?_
  rw [nI_clamp (by omega)]
  refine a_aload_n d_Law_law_550 rfl ?_
  refine a_iload_n d_Law_law_551 rfl ?_
  refine a_iconst (v := 2) d_Law_law_552 (by decide) ?_
  refine a_iadd d_Law_law_553 ?_
  rw [ea2]
  refine a_tald (Nat.le_of_ble_eq_true rfl) d_Law_law_554 (vp_in_nI (show i + 2 < tL V 7 by omega) (by omega)) ?_
  rw [nI_clamp (by omega)]
  refine a_aload_n d_Law_law_555 rfl ?_
  refine a_iload_n d_Law_law_556 rfl ?_
  refine a_iconst (v := 3) d_Law_law_557 (by decide) ?_
  refine a_iadd d_Law_law_558 ?_
  rw [ea3]
  refine a_tald (Nat.le_of_ble_eq_true rfl) d_Law_law_559 (vp_in_nI (show i + 3 < tL V 7 by omega) (by omega)) ?_
  rw [nI_clamp (by omega)]
  refine a_cv (a := 32) d_Law_law_560 m_Mod_straight t_Mod_straight l_Law_73 g32 rfl rfl Y rfl rfl ⟨Nat.le_of_ble_eq_true rfl, Nat.le_of_ble_eq_true rfl⟩ (Nat.le_of_ble_eq_true rfl) (show n1 ≤ 8 + 600000 by omega) (show z1 ≤ 0 + 7302250 by omega) ?_
  refine a_icmp_eq 1007 d_Law_law_563 (by decide) (fun c563 => ?_) (fun c563 => absurd rfl c563)
  exact kk h2 n1 z1 I2
set_option maxRecDepth 20000 in
set_option maxHeartbeats 4000000 in
theorem w_off (I : INV z0 h n z) (hz0 : z0 ≤ 30000) {i : Nat} (hi : i + 6 ≤ tL V 7) (hL : tL V 7 ≤ 3072) (kk : ∀ (h2 : AH) (n2 z2 : Nat), INV z0 h2 n2 z2 → AW V i_Law_law room_1 Qf 8 0 1007 [some (.ref 7), some (.ref 8), some (.ref 32), some (.int (nI i))] [] h2 n2 z2) : AW V i_Law_law room_1 Qf 8 0 568 [some (.ref 7), some (.ref 8), some (.ref 32), some (.int (nI i))] [] h n z := by
  obtain ⟨⟨cc, g8⟩, -⟩ := I.cls
  obtain ⟨r, h1, n1, z1, h2, q1, q2, X, Y, I2, ⟨cm, g32⟩⟩ := o_off (V := V) I (tF V 7 (i + 1)) (tF V 7 (i + 2)) (tF V 7 (i + 3))
  have b : 53 ≤ n1 ∧ n1 ≤ 117 ∧ z0 ≤ z1 ∧ z1 ≤ z0 + 448 := by
    obtain ⟨L, f, lf, W, H, D, j, s, k, ad, aj, ash, i0, i1, ra, A, K, Q, p, hL, hk, R⟩ := id I2
    exact K.b
  have ea1 : nI i + 1 = nI (i + 1) := nI_add i 1
  have ea2 : nI i + 2 = nI (i + 2) := nI_add i 2
  have ea3 : nI i + 3 = nI (i + 3) := nI_add i 3
  refine a_aload_n d_Law_law_568 rfl ?_
  refine a_aload_n d_Law_law_569 rfl ?_
  refine a_iload_n d_Law_law_570 rfl ?_
  refine a_iconst (v := 1) d_Law_law_571 (by decide) ?_
  refine a_iadd d_Law_law_572 ?_
  rw [ea1]
  refine a_tald (Nat.le_of_ble_eq_true rfl) d_Law_law_573 (vp_in_nI (show i + 1 < tL V 7 by omega) (by omega)) ?_
  rw [nI_clamp (by omega)]
  refine a_aload_n d_Law_law_574 rfl ?_
  refine a_iload_n d_Law_law_575 rfl ?_
  refine a_iconst (v := 2) d_Law_law_576 (by decide) ?_
  refine a_iadd d_Law_law_577 ?_
  rw [ea2]
  refine a_tald (Nat.le_of_ble_eq_true rfl) d_Law_law_578 (vp_in_nI (show i + 2 < tL V 7 by omega) (by omega)) ?_
  rw [nI_clamp (by omega)]
  refine a_aload_n d_Law_law_579 rfl ?_
  refine a_iload_n d_Law_law_580 rfl ?_
  refine a_iconst (v := 3) d_Law_law_581 (by decide) ?_
  refine a_iadd d_Law_law_582 ?_
  rw [ea3]
  refine a_tald (Nat.le_of_ble_eq_true rfl) d_Law_law_583 (vp_in_nI (show i + 3 < tL V 7 by omega) (by omega)) ?_
  rw [nI_clamp (by omega)]
  refine a_cv (a := 8) d_Law_law_584 m_Dot_off t_Dot_off l_Law_74 g8 rfl rfl X rfl rfl ⟨Nat.le_of_ble_eq_true rfl, Nat.le_of_ble_eq_true rfl⟩ (Nat.le_of_ble_eq_true rfl) (show n1 ≤ 8 + 600000 by omega) (show z1 ≤ 0 + 7302250 by omega) ?_
  refine a_aload_n d_Law_law_587 rfl ?_
  refine a_aload_n d_Law_law_588 rfl ?_
  refine a_iload_n d_Law_law_589 rfl ?_
  refine a_iconst (v := 1) d_Law_law_590 (by decide) ?_
  refine a_iadd d_Law_law_591 ?_
  rw [ea1]
  refine a_tald (Nat.le_of_ble_eq_true rfl) d_Law_law_592 (vp_in_nI (show i + 1 < tL V 7 by omega) (by omega)) ?_
  rw [nI_clamp (by omega)]
  refine a_aload_n d_Law_law_593 rfl ?_
  refine a_iload_n d_Law_law_594 rfl ?_
  refine a_iconst (v := 2) d_Law_law_595 (by decide) ?_
  refine a_iadd d_Law_law_596 ?_
  rw [ea2]
  refine a_tald (Nat.le_of_ble_eq_true rfl) d_Law_law_597 (vp_in_nI (show i + 2 < tL V 7 by omega) (by omega)) ?_
  rw [nI_clamp (by omega)]
  refine a_aload_n d_Law_law_598 rfl ?_
  refine a_iload_n d_Law_law_599 rfl ?_
  refine a_iconst (v := 3) d_Law_law_600 (by decide) ?_
  refine a_iadd d_Law_law_601 ?_
  rw [ea3]
  refine a_tald (Nat.le_of_ble_eq_true rfl) d_Law_law_602 (vp_in_nI (show i + 3 < tL V 7 by omega) (by omega)) ?_
  rw [nI_clamp (by omega)]
  refine a_cv (a := 32) d_Law_law_603 m_Mod_off t_Mod_off l_Law_77 g32 rfl rfl Y rfl rfl ⟨Nat.le_of_ble_eq_true rfl, Nat.le_of_ble_eq_true rfl⟩ (Nat.le_of_ble_eq_true rfl) (show n1 ≤ 8 + 600000 by omega) (show z1 ≤ 0 + 7302250 by omega) ?_
  refine a_icmp_eq 1007 d_Law_law_606 (by decide) (fun c606 => ?_) (fun c606 => absurd rfl c606)
  exact kk h2 n1 z1 I2
set_option maxRecDepth 20000 in
set_option maxHeartbeats 4000000 in
theorem w_longest (I : INV z0 h n z) (hz0 : z0 ≤ 30000) {i : Nat} (hi : i + 6 ≤ tL V 7) (hL : tL V 7 ≤ 3072) (kk : ∀ (h2 : AH) (n2 z2 : Nat), INV z0 h2 n2 z2 → AW V i_Law_law room_1 Qf 8 0 1007 [some (.ref 7), some (.ref 8), some (.ref 32), some (.int (nI i))] [] h2 n2 z2) : AW V i_Law_law room_1 Qf 8 0 611 [some (.ref 7), some (.ref 8), some (.ref 32), some (.int (nI i))] [] h n z := by
  obtain ⟨⟨cc, g8⟩, -⟩ := I.cls
  obtain ⟨r, h1, n1, z1, h2, q1, q2, X, Y, I2, ⟨cm, g32⟩⟩ := o_longest (V := V) I (tF V 7 (i + 1)) (tF V 7 (i + 2))
  have b : 53 ≤ n1 ∧ n1 ≤ 117 ∧ z0 ≤ z1 ∧ z1 ≤ z0 + 448 := by
    obtain ⟨L, f, lf, W, H, D, j, s, k, ad, aj, ash, i0, i1, ra, A, K, Q, p, hL, hk, R⟩ := id I2
    exact K.b
  have ea1 : nI i + 1 = nI (i + 1) := nI_add i 1
  have ea2 : nI i + 2 = nI (i + 2) := nI_add i 2
  refine a_aload_n d_Law_law_611 rfl ?_
  refine a_aload_n d_Law_law_612 rfl ?_
  refine a_iload_n d_Law_law_613 rfl ?_
  refine a_iconst (v := 1) d_Law_law_614 (by decide) ?_
  refine a_iadd d_Law_law_615 ?_
  rw [ea1]
  refine a_tald (Nat.le_of_ble_eq_true rfl) d_Law_law_616 (vp_in_nI (show i + 1 < tL V 7 by omega) (by omega)) ?_
  rw [nI_clamp (by omega)]
  refine a_aload_n d_Law_law_617 rfl ?_
  refine a_iload_n d_Law_law_618 rfl ?_
  refine a_iconst (v := 2) d_Law_law_619 (by decide) ?_
  refine a_iadd d_Law_law_620 ?_
  rw [ea2]
  refine a_tald (Nat.le_of_ble_eq_true rfl) d_Law_law_621 (vp_in_nI (show i + 2 < tL V 7 by omega) (by omega)) ?_
  rw [nI_clamp (by omega)]
  refine a_cv (a := 8) d_Law_law_622 m_Dot_longest t_Dot_longest l_Law_78 g8 rfl rfl X rfl rfl ⟨Nat.le_of_ble_eq_true rfl, Nat.le_of_ble_eq_true rfl⟩ (Nat.le_of_ble_eq_true rfl) (show n1 ≤ 8 + 600000 by omega) (show z1 ≤ 0 + 7302250 by omega) ?_
  refine a_aload_n d_Law_law_625 rfl ?_
  refine a_aload_n d_Law_law_626 rfl ?_
  refine a_iload_n d_Law_law_627 rfl ?_
  refine a_iconst (v := 1) d_Law_law_628 (by decide) ?_
  refine a_iadd d_Law_law_629 ?_
  rw [ea1]
  refine a_tald (Nat.le_of_ble_eq_true rfl) d_Law_law_630 (vp_in_nI (show i + 1 < tL V 7 by omega) (by omega)) ?_
  rw [nI_clamp (by omega)]
  refine a_aload_n d_Law_law_631 rfl ?_
  refine a_iload_n d_Law_law_632 rfl ?_
  refine a_iconst (v := 2) d_Law_law_633 (by decide) ?_
  refine a_iadd d_Law_law_634 ?_
  rw [ea2]
  refine a_tald (Nat.le_of_ble_eq_true rfl) d_Law_law_635 (vp_in_nI (show i + 2 < tL V 7 by omega) (by omega)) ?_
  rw [nI_clamp (by omega)]
  refine a_cv (a := 32) d_Law_law_636 m_Mod_longest t_Mod_longest l_Law_81 g32 rfl rfl Y rfl rfl ⟨Nat.le_of_ble_eq_true rfl, Nat.le_of_ble_eq_true rfl⟩ (Nat.le_of_ble_eq_true rfl) (show n1 ≤ 8 + 600000 by omega) (show z1 ≤ 0 + 7302250 by omega) ?_
  refine a_icmp_eq 1007 d_Law_law_639 (by decide) (fun c639 => ?_) (fun c639 => absurd rfl c639)
  exact kk h2 n1 z1 I2
set_option maxRecDepth 20000 in
set_option maxHeartbeats 4000000 in
theorem w_best (I : INV z0 h n z) (hz0 : z0 ≤ 30000) {i : Nat} (hi : i + 6 ≤ tL V 7) (hL : tL V 7 ≤ 3072) (kk : ∀ (h2 : AH) (n2 z2 : Nat), INV z0 h2 n2 z2 → AW V i_Law_law room_1 Qf 8 0 1007 [some (.ref 7), some (.ref 8), some (.ref 32), some (.int (nI i))] [] h2 n2 z2) : AW V i_Law_law room_1 Qf 8 0 644 [some (.ref 7), some (.ref 8), some (.ref 32), some (.int (nI i))] [] h n z := by
  obtain ⟨⟨cc, g8⟩, -⟩ := I.cls
  obtain ⟨r, h1, n1, z1, h2, q1, q2, X, Y, I2, ⟨cm, g32⟩⟩ := o_best (V := V) I (tF V 7 (i + 1)) (tF V 7 (i + 2))
  have b : 53 ≤ n1 ∧ n1 ≤ 117 ∧ z0 ≤ z1 ∧ z1 ≤ z0 + 448 := by
    obtain ⟨L, f, lf, W, H, D, j, s, k, ad, aj, ash, i0, i1, ra, A, K, Q, p, hL, hk, R⟩ := id I2
    exact K.b
  have ea1 : nI i + 1 = nI (i + 1) := nI_add i 1
  have ea2 : nI i + 2 = nI (i + 2) := nI_add i 2
  refine a_aload_n d_Law_law_644 rfl ?_
  refine a_aload_n d_Law_law_645 rfl ?_
  refine a_iload_n d_Law_law_646 rfl ?_
  refine a_iconst (v := 1) d_Law_law_647 (by decide) ?_
  refine a_iadd d_Law_law_648 ?_
  rw [ea1]
  refine a_tald (Nat.le_of_ble_eq_true rfl) d_Law_law_649 (vp_in_nI (show i + 1 < tL V 7 by omega) (by omega)) ?_
  rw [nI_clamp (by omega)]
  refine a_aload_n d_Law_law_650 rfl ?_
  refine a_iload_n d_Law_law_651 rfl ?_
  refine a_iconst (v := 2) d_Law_law_652 (by decide) ?_
  refine a_iadd d_Law_law_653 ?_
  rw [ea2]
  refine a_tald (Nat.le_of_ble_eq_true rfl) d_Law_law_654 (vp_in_nI (show i + 2 < tL V 7 by omega) (by omega)) ?_
  rw [nI_clamp (by omega)]
  refine a_cv (a := 8) d_Law_law_655 m_Dot_best t_Dot_best l_Law_82 g8 rfl rfl X rfl rfl ⟨Nat.le_of_ble_eq_true rfl, Nat.le_of_ble_eq_true rfl⟩ (Nat.le_of_ble_eq_true rfl) (show n1 ≤ 8 + 600000 by omega) (show z1 ≤ 0 + 7302250 by omega) ?_
  refine a_aload_n d_Law_law_658 rfl ?_
  refine a_aload_n d_Law_law_659 rfl ?_
  refine a_iload_n d_Law_law_660 rfl ?_
  refine a_iconst (v := 1) d_Law_law_661 (by decide) ?_
  refine a_iadd d_Law_law_662 ?_
  rw [ea1]
  refine a_tald (Nat.le_of_ble_eq_true rfl) d_Law_law_663 (vp_in_nI (show i + 1 < tL V 7 by omega) (by omega)) ?_
  rw [nI_clamp (by omega)]
  refine a_aload_n d_Law_law_664 rfl ?_
  refine a_iload_n d_Law_law_665 rfl ?_
  refine a_iconst (v := 2) d_Law_law_666 (by decide) ?_
  refine a_iadd d_Law_law_667 ?_
  rw [ea2]
  refine a_tald (Nat.le_of_ble_eq_true rfl) d_Law_law_668 (vp_in_nI (show i + 2 < tL V 7 by omega) (by omega)) ?_
  rw [nI_clamp (by omega)]
  refine a_cv (a := 32) d_Law_law_669 m_Mod_best t_Mod_best l_Law_85 g32 rfl rfl Y rfl rfl ⟨Nat.le_of_ble_eq_true rfl, Nat.le_of_ble_eq_true rfl⟩ (Nat.le_of_ble_eq_true rfl) (show n1 ≤ 8 + 600000 by omega) (show z1 ≤ 0 + 7302250 by omega) ?_
  refine a_icmp_eq 1007 d_Law_law_672 (by decide) (fun c672 => ?_) (fun c672 => absurd rfl c672)
  exact kk h2 n1 z1 I2
set_option maxRecDepth 20000 in
set_option maxHeartbeats 4000000 in
theorem w_vertex (I : INV z0 h n z) (hz0 : z0 ≤ 30000) {i : Nat} (hi : i + 6 ≤ tL V 7) (hL : tL V 7 ≤ 3072) (kk : ∀ (h2 : AH) (n2 z2 : Nat), INV z0 h2 n2 z2 → AW V i_Law_law room_1 Qf 8 0 1007 [some (.ref 7), some (.ref 8), some (.ref 32), some (.int (nI i))] [] h2 n2 z2) : AW V i_Law_law room_1 Qf 8 0 677 [some (.ref 7), some (.ref 8), some (.ref 32), some (.int (nI i))] [] h n z := by
  obtain ⟨⟨cc, g8⟩, -⟩ := I.cls
  obtain ⟨r, h1, n1, z1, h2, q1, q2, X, Y, I2, ⟨cm, g32⟩⟩ := o_vertex (V := V) I (tF V 7 (i + 1)) (tF V 7 (i + 2)) (tF V 7 (i + 3))
  have b : 53 ≤ n1 ∧ n1 ≤ 117 ∧ z0 ≤ z1 ∧ z1 ≤ z0 + 448 := by
    obtain ⟨L, f, lf, W, H, D, j, s, k, ad, aj, ash, i0, i1, ra, A, K, Q, p, hL, hk, R⟩ := id I2
    exact K.b
  have ea1 : nI i + 1 = nI (i + 1) := nI_add i 1
  have ea2 : nI i + 2 = nI (i + 2) := nI_add i 2
  have ea3 : nI i + 3 = nI (i + 3) := nI_add i 3
  refine a_aload_n d_Law_law_677 rfl ?_
  refine a_aload_n d_Law_law_678 rfl ?_
  refine a_iload_n d_Law_law_679 rfl ?_
  refine a_iconst (v := 1) d_Law_law_680 (by decide) ?_
  refine a_iadd d_Law_law_681 ?_
  rw [ea1]
  refine a_tald (Nat.le_of_ble_eq_true rfl) d_Law_law_682 (vp_in_nI (show i + 1 < tL V 7 by omega) (by omega)) ?_
  rw [nI_clamp (by omega)]
  refine a_aload_n d_Law_law_683 rfl ?_
  refine a_iload_n d_Law_law_684 rfl ?_
  refine a_iconst (v := 2) d_Law_law_685 (by decide) ?_
  refine a_iadd d_Law_law_686 ?_
  rw [ea2]
  refine a_tald (Nat.le_of_ble_eq_true rfl) d_Law_law_687 (vp_in_nI (show i + 2 < tL V 7 by omega) (by omega)) ?_
  rw [nI_clamp (by omega)]
  refine a_aload_n d_Law_law_688 rfl ?_
  refine a_iload_n d_Law_law_689 rfl ?_
  refine a_iconst (v := 3) d_Law_law_690 (by decide) ?_
  refine a_iadd d_Law_law_691 ?_
  rw [ea3]
  refine a_tald (Nat.le_of_ble_eq_true rfl) d_Law_law_692 (vp_in_nI (show i + 3 < tL V 7 by omega) (by omega)) ?_
  rw [nI_clamp (by omega)]
  refine a_cv (a := 8) d_Law_law_693 m_Dot_vertex t_Dot_vertex l_Law_86 g8 rfl rfl X rfl rfl ⟨Nat.le_of_ble_eq_true rfl, Nat.le_of_ble_eq_true rfl⟩ (Nat.le_of_ble_eq_true rfl) (show n1 ≤ 8 + 600000 by omega) (show z1 ≤ 0 + 7302250 by omega) ?_
  refine a_aload_n d_Law_law_696 rfl ?_
  refine a_aload_n d_Law_law_697 rfl ?_
  refine a_iload_n d_Law_law_698 rfl ?_
  refine a_iconst (v := 1) d_Law_law_699 (by decide) ?_
  refine a_iadd d_Law_law_700 ?_
  rw [ea1]
  refine a_tald (Nat.le_of_ble_eq_true rfl) d_Law_law_701 (vp_in_nI (show i + 1 < tL V 7 by omega) (by omega)) ?_
  rw [nI_clamp (by omega)]
  refine a_aload_n d_Law_law_702 rfl ?_
  refine a_iload_n d_Law_law_703 rfl ?_
  refine a_iconst (v := 2) d_Law_law_704 (by decide) ?_
  refine a_iadd d_Law_law_705 ?_
  rw [ea2]
  refine a_tald (Nat.le_of_ble_eq_true rfl) d_Law_law_706 (vp_in_nI (show i + 2 < tL V 7 by omega) (by omega)) ?_
  rw [nI_clamp (by omega)]
  refine a_aload_n d_Law_law_707 rfl ?_
  refine a_iload_n d_Law_law_708 rfl ?_
  refine a_iconst (v := 3) d_Law_law_709 (by decide) ?_
  refine a_iadd d_Law_law_710 ?_
  rw [ea3]
  refine a_tald (Nat.le_of_ble_eq_true rfl) d_Law_law_711 (vp_in_nI (show i + 3 < tL V 7 by omega) (by omega)) ?_
  rw [nI_clamp (by omega)]
  refine a_cv (a := 32) d_Law_law_712 m_Mod_vertex t_Mod_vertex l_Law_89 g32 rfl rfl Y rfl rfl ⟨Nat.le_of_ble_eq_true rfl, Nat.le_of_ble_eq_true rfl⟩ (Nat.le_of_ble_eq_true rfl) (show n1 ≤ 8 + 600000 by omega) (show z1 ≤ 0 + 7302250 by omega) ?_
  refine a_icmp_eq 1007 d_Law_law_715 (by decide) (fun c715 => ?_) (fun c715 => absurd rfl c715)
  exact kk h2 n1 z1 I2
set_option maxRecDepth 20000 in
set_option maxHeartbeats 4000000 in
theorem w_past (I : INV z0 h n z) (hz0 : z0 ≤ 30000) {i : Nat} (hi : i + 6 ≤ tL V 7) (hL : tL V 7 ≤ 3072) (kk : ∀ (h2 : AH) (n2 z2 : Nat), INV z0 h2 n2 z2 → AW V i_Law_law room_1 Qf 8 0 1007 [some (.ref 7), some (.ref 8), some (.ref 32), some (.int (nI i))] [] h2 n2 z2) : AW V i_Law_law room_1 Qf 8 0 720 [some (.ref 7), some (.ref 8), some (.ref 32), some (.int (nI i))] [] h n z := by
  obtain ⟨⟨cc, g8⟩, -⟩ := I.cls
  obtain ⟨r, h1, n1, z1, h2, q1, q2, X, Y, I2, ⟨cm, g32⟩⟩ := o_past (V := V) I (tF V 7 (i + 1)) (tF V 7 (i + 2))
  have b : 53 ≤ n1 ∧ n1 ≤ 117 ∧ z0 ≤ z1 ∧ z1 ≤ z0 + 448 := by
    obtain ⟨L, f, lf, W, H, D, j, s, k, ad, aj, ash, i0, i1, ra, A, K, Q, p, hL, hk, R⟩ := id I2
    exact K.b
  have ea1 : nI i + 1 = nI (i + 1) := nI_add i 1
  have ea2 : nI i + 2 = nI (i + 2) := nI_add i 2
  refine a_aload_n d_Law_law_720 rfl ?_
  refine a_aload_n d_Law_law_721 rfl ?_
  refine a_iload_n d_Law_law_722 rfl ?_
  refine a_iconst (v := 1) d_Law_law_723 (by decide) ?_
  refine a_iadd d_Law_law_724 ?_
  rw [ea1]
  refine a_tald (Nat.le_of_ble_eq_true rfl) d_Law_law_725 (vp_in_nI (show i + 1 < tL V 7 by omega) (by omega)) ?_
  rw [nI_clamp (by omega)]
  refine a_aload_n d_Law_law_726 rfl ?_
  refine a_iload_n d_Law_law_727 rfl ?_
  refine a_iconst (v := 2) d_Law_law_728 (by decide) ?_
  refine a_iadd d_Law_law_729 ?_
  rw [ea2]
  refine a_tald (Nat.le_of_ble_eq_true rfl) d_Law_law_730 (vp_in_nI (show i + 2 < tL V 7 by omega) (by omega)) ?_
  rw [nI_clamp (by omega)]
  refine a_cv (a := 8) d_Law_law_731 m_Dot_past t_Dot_past l_Law_90 g8 rfl rfl X rfl rfl ⟨Nat.le_of_ble_eq_true rfl, Nat.le_of_ble_eq_true rfl⟩ (Nat.le_of_ble_eq_true rfl) (show n1 ≤ 8 + 600000 by omega) (show z1 ≤ 0 + 7302250 by omega) ?_
  refine a_aload_n d_Law_law_734 rfl ?_
  refine a_aload_n d_Law_law_735 rfl ?_
  refine a_iload_n d_Law_law_736 rfl ?_
  refine a_iconst (v := 1) d_Law_law_737 (by decide) ?_
  refine a_iadd d_Law_law_738 ?_
  rw [ea1]
  refine a_tald (Nat.le_of_ble_eq_true rfl) d_Law_law_739 (vp_in_nI (show i + 1 < tL V 7 by omega) (by omega)) ?_
  rw [nI_clamp (by omega)]
  refine a_aload_n d_Law_law_740 rfl ?_
  refine a_iload_n d_Law_law_741 rfl ?_
  refine a_iconst (v := 2) d_Law_law_742 (by decide) ?_
  refine a_iadd d_Law_law_743 ?_
  rw [ea2]
  refine a_tald (Nat.le_of_ble_eq_true rfl) d_Law_law_744 (vp_in_nI (show i + 2 < tL V 7 by omega) (by omega)) ?_
  rw [nI_clamp (by omega)]
  refine a_cv (a := 32) d_Law_law_745 m_Mod_past t_Mod_past l_Law_93 g32 rfl rfl Y rfl rfl ⟨Nat.le_of_ble_eq_true rfl, Nat.le_of_ble_eq_true rfl⟩ (Nat.le_of_ble_eq_true rfl) (show n1 ≤ 8 + 600000 by omega) (show z1 ≤ 0 + 7302250 by omega) ?_
  refine a_icmp_eq 1007 d_Law_law_748 (by decide) (fun c748 => ?_) (fun c748 => absurd rfl c748)
  exact kk h2 n1 z1 I2
set_option maxRecDepth 20000 in
set_option maxHeartbeats 4000000 in
theorem w_point (I : INV z0 h n z) (hz0 : z0 ≤ 30000) {i : Nat} (hi : i + 6 ≤ tL V 7) (hL : tL V 7 ≤ 3072) (kk : ∀ (h2 : AH) (n2 z2 : Nat), INV z0 h2 n2 z2 → AW V i_Law_law room_1 Qf 8 0 1007 [some (.ref 7), some (.ref 8), some (.ref 32), some (.int (nI i))] [] h2 n2 z2) : AW V i_Law_law room_1 Qf 8 0 753 [some (.ref 7), some (.ref 8), some (.ref 32), some (.int (nI i))] [] h n z := by
  obtain ⟨⟨cc, g8⟩, -⟩ := I.cls
  obtain ⟨r, h1, n1, z1, h2, q1, q2, X, Y, I2, ⟨cm, g32⟩⟩ := o_point (V := V) I (tF V 7 (i + 1)) (tF V 7 (i + 2)) (tF V 7 (i + 3)) (tF V 7 (i + 4))
  have b : 53 ≤ n1 ∧ n1 ≤ 117 ∧ z0 ≤ z1 ∧ z1 ≤ z0 + 448 := by
    obtain ⟨L, f, lf, W, H, D, j, s, k, ad, aj, ash, i0, i1, ra, A, K, Q, p, hL, hk, R⟩ := id I2
    exact K.b
  have ea1 : nI i + 1 = nI (i + 1) := nI_add i 1
  have ea2 : nI i + 2 = nI (i + 2) := nI_add i 2
  have ea3 : nI i + 3 = nI (i + 3) := nI_add i 3
  have ea4 : nI i + 4 = nI (i + 4) := nI_add i 4
  refine a_aload_n d_Law_law_753 rfl ?_
  refine a_aload_n d_Law_law_754 rfl ?_
  refine a_iload_n d_Law_law_755 rfl ?_
  refine a_iconst (v := 1) d_Law_law_756 (by decide) ?_
  refine a_iadd d_Law_law_757 ?_
  rw [ea1]
  refine a_tald (Nat.le_of_ble_eq_true rfl) d_Law_law_758 (vp_in_nI (show i + 1 < tL V 7 by omega) (by omega)) ?_
  rw [nI_clamp (by omega)]
  refine a_aload_n d_Law_law_759 rfl ?_
  refine a_iload_n d_Law_law_760 rfl ?_
  refine a_iconst (v := 2) d_Law_law_761 (by decide) ?_
  refine a_iadd d_Law_law_762 ?_
  rw [ea2]
  refine a_tald (Nat.le_of_ble_eq_true rfl) d_Law_law_763 (vp_in_nI (show i + 2 < tL V 7 by omega) (by omega)) ?_
  rw [nI_clamp (by omega)]
  refine a_aload_n d_Law_law_764 rfl ?_
  refine a_iload_n d_Law_law_765 rfl ?_
  refine a_iconst (v := 3) d_Law_law_766 (by decide) ?_
  refine a_iadd d_Law_law_767 ?_
  rw [ea3]
  refine a_tald (Nat.le_of_ble_eq_true rfl) d_Law_law_768 (vp_in_nI (show i + 3 < tL V 7 by omega) (by omega)) ?_
  rw [nI_clamp (by omega)]
  refine a_aload_n d_Law_law_769 rfl ?_
  refine a_iload_n d_Law_law_770 rfl ?_
  refine a_iconst (v := 4) d_Law_law_771 (by decide) ?_
  refine a_iadd d_Law_law_772 ?_
  rw [ea4]
  refine a_tald (Nat.le_of_ble_eq_true rfl) d_Law_law_773 (vp_in_nI (show i + 4 < tL V 7 by omega) (by omega)) ?_
  rw [nI_clamp (by omega)]
  refine a_cv (a := 8) d_Law_law_774 m_Dot_point t_Dot_point l_Law_94 g8 rfl rfl X rfl rfl ⟨Nat.le_of_ble_eq_true rfl, Nat.le_of_ble_eq_true rfl⟩ (Nat.le_of_ble_eq_true rfl) (show n1 ≤ 8 + 600000 by omega) (show z1 ≤ 0 + 7302250 by omega) ?_
  refine a_aload_n d_Law_law_777 rfl ?_
  refine a_aload_n d_Law_law_778 rfl ?_
  refine a_iload_n d_Law_law_779 rfl ?_
  refine a_iconst (v := 1) d_Law_law_780 (by decide) ?_
  refine a_iadd d_Law_law_781 ?_
  rw [ea1]
  refine a_tald (Nat.le_of_ble_eq_true rfl) d_Law_law_782 (vp_in_nI (show i + 1 < tL V 7 by omega) (by omega)) ?_
  rw [nI_clamp (by omega)]
  refine a_aload_n d_Law_law_783 rfl ?_
  refine a_iload_n d_Law_law_784 rfl ?_
  refine a_iconst (v := 2) d_Law_law_785 (by decide) ?_
  refine a_iadd d_Law_law_786 ?_
  rw [ea2]
  refine a_tald (Nat.le_of_ble_eq_true rfl) d_Law_law_787 (vp_in_nI (show i + 2 < tL V 7 by omega) (by omega)) ?_
  rw [nI_clamp (by omega)]
  refine a_aload_n d_Law_law_788 rfl ?_
  refine a_iload_n d_Law_law_789 rfl ?_
  refine a_iconst (v := 3) d_Law_law_790 (by decide) ?_
  refine a_iadd d_Law_law_791 ?_
  rw [ea3]
  refine a_tald (Nat.le_of_ble_eq_true rfl) d_Law_law_792 (vp_in_nI (show i + 3 < tL V 7 by omega) (by omega)) ?_
  rw [nI_clamp (by omega)]
  refine a_aload_n d_Law_law_793 rfl ?_
  refine a_iload_n d_Law_law_794 rfl ?_
  refine a_iconst (v := 4) d_Law_law_795 (by decide) ?_
  refine a_iadd d_Law_law_796 ?_
  rw [ea4]
  refine a_tald (Nat.le_of_ble_eq_true rfl) d_Law_law_797 (vp_in_nI (show i + 4 < tL V 7 by omega) (by omega)) ?_
  rw [nI_clamp (by omega)]
  refine a_cv (a := 32) d_Law_law_798 m_Mod_point t_Mod_point l_Law_98 g32 rfl rfl Y rfl rfl ⟨Nat.le_of_ble_eq_true rfl, Nat.le_of_ble_eq_true rfl⟩ (Nat.le_of_ble_eq_true rfl) (show n1 ≤ 8 + 600000 by omega) (show z1 ≤ 0 + 7302250 by omega) ?_
  refine a_icmp_eq 1007 d_Law_law_801 (by decide) (fun c801 => ?_) (fun c801 => absurd rfl c801)
  exact kk h2 n1 z1 I2
set_option maxRecDepth 20000 in
set_option maxHeartbeats 4000000 in
theorem w_filled (I : INV z0 h n z) (hz0 : z0 ≤ 30000) {i : Nat} (hi : i + 6 ≤ tL V 7) (hL : tL V 7 ≤ 3072) (kk : ∀ (h2 : AH) (n2 z2 : Nat), INV z0 h2 n2 z2 → AW V i_Law_law room_1 Qf 8 0 1007 [some (.ref 7), some (.ref 8), some (.ref 32), some (.int (nI i))] [] h2 n2 z2) : AW V i_Law_law room_1 Qf 8 0 806 [some (.ref 7), some (.ref 8), some (.ref 32), some (.int (nI i))] [] h n z := by
  obtain ⟨⟨cc, g8⟩, -⟩ := I.cls
  obtain ⟨r, h1, n1, z1, h2, q1, q2, X, Y, I2, ⟨cm, g32⟩⟩ := o_filled (V := V) I (tF V 7 (i + 1)) (tF V 7 (i + 2)) (tF V 7 (i + 3)) (tF V 7 (i + 4))
  have b : 53 ≤ n1 ∧ n1 ≤ 117 ∧ z0 ≤ z1 ∧ z1 ≤ z0 + 448 := by
    obtain ⟨L, f, lf, W, H, D, j, s, k, ad, aj, ash, i0, i1, ra, A, K, Q, p, hL, hk, R⟩ := id I2
    exact K.b
  have ea1 : nI i + 1 = nI (i + 1) := nI_add i 1
  have ea2 : nI i + 2 = nI (i + 2) := nI_add i 2
  have ea3 : nI i + 3 = nI (i + 3) := nI_add i 3
  have ea4 : nI i + 4 = nI (i + 4) := nI_add i 4
  refine a_aload_n d_Law_law_806 rfl ?_
  refine a_aload_n d_Law_law_807 rfl ?_
  refine a_iload_n d_Law_law_808 rfl ?_
  refine a_iconst (v := 1) d_Law_law_809 (by decide) ?_
  refine a_iadd d_Law_law_810 ?_
  rw [ea1]
  refine a_tald (Nat.le_of_ble_eq_true rfl) d_Law_law_811 (vp_in_nI (show i + 1 < tL V 7 by omega) (by omega)) ?_
  rw [nI_clamp (by omega)]
  refine a_aload_n d_Law_law_812 rfl ?_
  refine a_iload_n d_Law_law_813 rfl ?_
  refine a_iconst (v := 2) d_Law_law_814 (by decide) ?_
  refine a_iadd d_Law_law_815 ?_
  rw [ea2]
  refine a_tald (Nat.le_of_ble_eq_true rfl) d_Law_law_816 (vp_in_nI (show i + 2 < tL V 7 by omega) (by omega)) ?_
  rw [nI_clamp (by omega)]
  refine a_aload_n d_Law_law_817 rfl ?_
  refine a_iload_n d_Law_law_818 rfl ?_
  refine a_iconst (v := 3) d_Law_law_819 (by decide) ?_
  refine a_iadd d_Law_law_820 ?_
  rw [ea3]
  refine a_tald (Nat.le_of_ble_eq_true rfl) d_Law_law_821 (vp_in_nI (show i + 3 < tL V 7 by omega) (by omega)) ?_
  rw [nI_clamp (by omega)]
  refine a_aload_n d_Law_law_822 rfl ?_
  refine a_iload_n d_Law_law_823 rfl ?_
  refine a_iconst (v := 4) d_Law_law_824 (by decide) ?_
  refine a_iadd d_Law_law_825 ?_
  rw [ea4]
  refine a_tald (Nat.le_of_ble_eq_true rfl) d_Law_law_826 (vp_in_nI (show i + 4 < tL V 7 by omega) (by omega)) ?_
  rw [nI_clamp (by omega)]
  refine a_cv (a := 8) d_Law_law_827 m_Dot_filled t_Dot_filled l_Law_99 g8 rfl rfl X rfl rfl ⟨Nat.le_of_ble_eq_true rfl, Nat.le_of_ble_eq_true rfl⟩ (Nat.le_of_ble_eq_true rfl) (show n1 ≤ 8 + 600000 by omega) (show z1 ≤ 0 + 7302250 by omega) ?_
  refine a_aload_n d_Law_law_830 rfl ?_
  refine a_aload_n d_Law_law_831 rfl ?_
  refine a_iload_n d_Law_law_832 rfl ?_
  refine a_iconst (v := 1) d_Law_law_833 (by decide) ?_
  refine a_iadd d_Law_law_834 ?_
  rw [ea1]
  refine a_tald (Nat.le_of_ble_eq_true rfl) d_Law_law_835 (vp_in_nI (show i + 1 < tL V 7 by omega) (by omega)) ?_
  rw [nI_clamp (by omega)]
  refine a_aload_n d_Law_law_836 rfl ?_
  refine a_iload_n d_Law_law_837 rfl ?_
  refine a_iconst (v := 2) d_Law_law_838 (by decide) ?_
  refine a_iadd d_Law_law_839 ?_
  rw [ea2]
  refine a_tald (Nat.le_of_ble_eq_true rfl) d_Law_law_840 (vp_in_nI (show i + 2 < tL V 7 by omega) (by omega)) ?_
  rw [nI_clamp (by omega)]
  refine a_aload_n d_Law_law_841 rfl ?_
  refine a_iload_n d_Law_law_842 rfl ?_
  refine a_iconst (v := 3) d_Law_law_843 (by decide) ?_
  refine a_iadd d_Law_law_844 ?_
  rw [ea3]
  refine a_tald (Nat.le_of_ble_eq_true rfl) d_Law_law_845 (vp_in_nI (show i + 3 < tL V 7 by omega) (by omega)) ?_
  rw [nI_clamp (by omega)]
  refine a_aload_n d_Law_law_846 rfl ?_
  refine a_iload_n d_Law_law_847 rfl ?_
  refine a_iconst (v := 4) d_Law_law_848 (by decide) ?_
  refine a_iadd d_Law_law_849 ?_
  rw [ea4]
  refine a_tald (Nat.le_of_ble_eq_true rfl) d_Law_law_850 (vp_in_nI (show i + 4 < tL V 7 by omega) (by omega)) ?_
  rw [nI_clamp (by omega)]
  refine a_cv (a := 32) d_Law_law_851 m_Mod_filled t_Mod_filled l_Law_102 g32 rfl rfl Y rfl rfl ⟨Nat.le_of_ble_eq_true rfl, Nat.le_of_ble_eq_true rfl⟩ (Nat.le_of_ble_eq_true rfl) (show n1 ≤ 8 + 600000 by omega) (show z1 ≤ 0 + 7302250 by omega) ?_
  refine a_icmp_eq 1007 d_Law_law_854 (by decide) (fun c854 => ?_) (fun c854 => absurd rfl c854)
  exact kk h2 n1 z1 I2
set_option maxRecDepth 20000 in
set_option maxHeartbeats 4000000 in
theorem w_differ (I : INV z0 h n z) (hz0 : z0 ≤ 30000) {i : Nat} (hi : i + 6 ≤ tL V 7) (hL : tL V 7 ≤ 3072) (kk : ∀ (h2 : AH) (n2 z2 : Nat), INV z0 h2 n2 z2 → AW V i_Law_law room_1 Qf 8 0 1007 [some (.ref 7), some (.ref 8), some (.ref 32), some (.int (nI i))] [] h2 n2 z2) : AW V i_Law_law room_1 Qf 8 0 859 [some (.ref 7), some (.ref 8), some (.ref 32), some (.int (nI i))] [] h n z := by
  obtain ⟨⟨cc, g8⟩, -⟩ := I.cls
  obtain ⟨r, h1, n1, z1, h2, q1, q2, X, Y, I2, ⟨cm, g32⟩⟩ := o_differ (V := V) I (tF V 7 (i + 1)) (tF V 7 (i + 2))
  have b : 53 ≤ n1 ∧ n1 ≤ 117 ∧ z0 ≤ z1 ∧ z1 ≤ z0 + 448 := by
    obtain ⟨L, f, lf, W, H, D, j, s, k, ad, aj, ash, i0, i1, ra, A, K, Q, p, hL, hk, R⟩ := id I2
    exact K.b
  have ea1 : nI i + 1 = nI (i + 1) := nI_add i 1
  have ea2 : nI i + 2 = nI (i + 2) := nI_add i 2
  refine a_aload_n d_Law_law_859 rfl ?_
  refine a_aload_n d_Law_law_860 rfl ?_
  refine a_iload_n d_Law_law_861 rfl ?_
  refine a_iconst (v := 1) d_Law_law_862 (by decide) ?_
  refine a_iadd d_Law_law_863 ?_
  rw [ea1]
  refine a_tald (Nat.le_of_ble_eq_true rfl) d_Law_law_864 (vp_in_nI (show i + 1 < tL V 7 by omega) (by omega)) ?_
  rw [nI_clamp (by omega)]
  refine a_aload_n d_Law_law_865 rfl ?_
  refine a_iload_n d_Law_law_866 rfl ?_
  refine a_iconst (v := 2) d_Law_law_867 (by decide) ?_
  refine a_iadd d_Law_law_868 ?_
  rw [ea2]
  refine a_tald (Nat.le_of_ble_eq_true rfl) d_Law_law_869 (vp_in_nI (show i + 2 < tL V 7 by omega) (by omega)) ?_
  rw [nI_clamp (by omega)]
  refine a_cv (a := 8) d_Law_law_870 m_Dot_differ t_Dot_differ l_Law_103 g8 rfl rfl X rfl rfl ⟨Nat.le_of_ble_eq_true rfl, Nat.le_of_ble_eq_true rfl⟩ (Nat.le_of_ble_eq_true rfl) (show n1 ≤ 8 + 600000 by omega) (show z1 ≤ 0 + 7302250 by omega) ?_
  refine a_aload_n d_Law_law_873 rfl ?_
  refine a_aload_n d_Law_law_874 rfl ?_
  refine a_iload_n d_Law_law_875 rfl ?_
  refine a_iconst (v := 1) d_Law_law_876 (by decide) ?_
  refine a_iadd d_Law_law_877 ?_
  rw [ea1]
  refine a_tald (Nat.le_of_ble_eq_true rfl) d_Law_law_878 (vp_in_nI (show i + 1 < tL V 7 by omega) (by omega)) ?_
  rw [nI_clamp (by omega)]
  refine a_aload_n d_Law_law_879 rfl ?_
  refine a_iload_n d_Law_law_880 rfl ?_
  refine a_iconst (v := 2) d_Law_law_881 (by decide) ?_
  refine a_iadd d_Law_law_882 ?_
  rw [ea2]
  refine a_tald (Nat.le_of_ble_eq_true rfl) d_Law_law_883 (vp_in_nI (show i + 2 < tL V 7 by omega) (by omega)) ?_
  rw [nI_clamp (by omega)]
  refine a_cv (a := 32) d_Law_law_884 m_Mod_differ t_Mod_differ l_Law_106 g32 rfl rfl Y rfl rfl ⟨Nat.le_of_ble_eq_true rfl, Nat.le_of_ble_eq_true rfl⟩ (Nat.le_of_ble_eq_true rfl) (show n1 ≤ 8 + 600000 by omega) (show z1 ≤ 0 + 7302250 by omega) ?_
  refine a_icmp_eq 1007 d_Law_law_887 (by decide) (fun c887 => ?_) (fun c887 => absurd rfl c887)
  exact kk h2 n1 z1 I2
set_option maxRecDepth 20000 in
set_option maxHeartbeats 4000000 in
theorem w_wrong (I : INV z0 h n z) (hz0 : z0 ≤ 30000) {i : Nat} (hi : i + 6 ≤ tL V 7) (hL : tL V 7 ≤ 3072) (kk : ∀ (h2 : AH) (n2 z2 : Nat), INV z0 h2 n2 z2 → AW V i_Law_law room_1 Qf 8 0 1007 [some (.ref 7), some (.ref 8), some (.ref 32), some (.int (nI i))] [] h2 n2 z2) : AW V i_Law_law room_1 Qf 8 0 892 [some (.ref 7), some (.ref 8), some (.ref 32), some (.int (nI i))] [] h n z := by
  obtain ⟨⟨cc, g8⟩, -⟩ := I.cls
  obtain ⟨r, h1, n1, z1, h2, q1, q2, X, Y, I2, ⟨cm, g32⟩⟩ := o_wrong (V := V) I (tF V 7 (i + 1))
  have b : 53 ≤ n1 ∧ n1 ≤ 117 ∧ z0 ≤ z1 ∧ z1 ≤ z0 + 448 := by
    obtain ⟨L, f, lf, W, H, D, j, s, k, ad, aj, ash, i0, i1, ra, A, K, Q, p, hL, hk, R⟩ := id I2
    exact K.b
  have ea1 : nI i + 1 = nI (i + 1) := nI_add i 1
  refine a_aload_n d_Law_law_892 rfl ?_
  refine a_aload_n d_Law_law_893 rfl ?_
  refine a_iload_n d_Law_law_894 rfl ?_
  refine a_iconst (v := 1) d_Law_law_895 (by decide) ?_
  refine a_iadd d_Law_law_896 ?_
  rw [ea1]
  refine a_tald (Nat.le_of_ble_eq_true rfl) d_Law_law_897 (vp_in_nI (show i + 1 < tL V 7 by omega) (by omega)) ?_
  rw [nI_clamp (by omega)]
  refine a_cv (a := 8) d_Law_law_898 m_Dot_wrong t_Dot_wrong l_Law_107 g8 rfl rfl X rfl rfl ⟨Nat.le_of_ble_eq_true rfl, Nat.le_of_ble_eq_true rfl⟩ (Nat.le_of_ble_eq_true rfl) (show n1 ≤ 8 + 600000 by omega) (show z1 ≤ 0 + 7302250 by omega) ?_
  refine a_aload_n d_Law_law_901 rfl ?_
  refine a_aload_n d_Law_law_902 rfl ?_
  refine a_iload_n d_Law_law_903 rfl ?_
  refine a_iconst (v := 1) d_Law_law_904 (by decide) ?_
  refine a_iadd d_Law_law_905 ?_
  rw [ea1]
  refine a_tald (Nat.le_of_ble_eq_true rfl) d_Law_law_906 (vp_in_nI (show i + 1 < tL V 7 by omega) (by omega)) ?_
  rw [nI_clamp (by omega)]
  refine a_cv (a := 32) d_Law_law_907 m_Mod_wrong t_Mod_wrong l_Law_110 g32 rfl rfl Y rfl rfl ⟨Nat.le_of_ble_eq_true rfl, Nat.le_of_ble_eq_true rfl⟩ (Nat.le_of_ble_eq_true rfl) (show n1 ≤ 8 + 600000 by omega) (show z1 ≤ 0 + 7302250 by omega) ?_
  refine a_icmp_eq 1007 d_Law_law_910 (by decide) (fun c910 => ?_) (fun c910 => absurd rfl c910)
  exact kk h2 n1 z1 I2
set_option maxRecDepth 20000 in
set_option maxHeartbeats 4000000 in
theorem w_all (I : INV z0 h n z) (hz0 : z0 ≤ 30000) {i : Nat} (hi : i + 6 ≤ tL V 7) (hL : tL V 7 ≤ 3072) (kk : ∀ (h2 : AH) (n2 z2 : Nat), INV z0 h2 n2 z2 → AW V i_Law_law room_1 Qf 8 0 1007 [some (.ref 7), some (.ref 8), some (.ref 32), some (.int (nI i))] [] h2 n2 z2) : AW V i_Law_law room_1 Qf 8 0 915 [some (.ref 7), some (.ref 8), some (.ref 32), some (.int (nI i))] [] h n z := by
  obtain ⟨⟨cc, g8⟩, -⟩ := I.cls
  obtain ⟨r, h1, n1, z1, h2, q1, q2, X, Y, I2, ⟨cm, g32⟩⟩ := o_all (V := V) I (tF V 7 (i + 1))
  have b : 53 ≤ n1 ∧ n1 ≤ 117 ∧ z0 ≤ z1 ∧ z1 ≤ z0 + 448 := by
    obtain ⟨L, f, lf, W, H, D, j, s, k, ad, aj, ash, i0, i1, ra, A, K, Q, p, hL, hk, R⟩ := id I2
    exact K.b
  have ea1 : nI i + 1 = nI (i + 1) := nI_add i 1
  refine a_aload_n d_Law_law_915 rfl ?_
  refine a_aload_n d_Law_law_916 rfl ?_
  refine a_iload_n d_Law_law_917 rfl ?_
  refine a_iconst (v := 1) d_Law_law_918 (by decide) ?_
  refine a_iadd d_Law_law_919 ?_
  rw [ea1]
  refine a_tald (Nat.le_of_ble_eq_true rfl) d_Law_law_920 (vp_in_nI (show i + 1 < tL V 7 by omega) (by omega)) ?_
  rw [nI_clamp (by omega)]
  refine a_cv (a := 8) d_Law_law_921 m_Dot_all t_Dot_all l_Law_111 g8 rfl rfl X rfl rfl ⟨Nat.le_of_ble_eq_true rfl, Nat.le_of_ble_eq_true rfl⟩ (Nat.le_of_ble_eq_true rfl) (show n1 ≤ 8 + 600000 by omega) (show z1 ≤ 0 + 7302250 by omega) ?_
  refine a_aload_n d_Law_law_924 rfl ?_
  refine a_aload_n d_Law_law_925 rfl ?_
  refine a_iload_n d_Law_law_926 rfl ?_
  refine a_iconst (v := 1) d_Law_law_927 (by decide) ?_
  refine a_iadd d_Law_law_928 ?_
  rw [ea1]
  refine a_tald (Nat.le_of_ble_eq_true rfl) d_Law_law_929 (vp_in_nI (show i + 1 < tL V 7 by omega) (by omega)) ?_
  rw [nI_clamp (by omega)]
  refine a_cv (a := 32) d_Law_law_930 m_Mod_all t_Mod_all l_Law_114 g32 rfl rfl Y rfl rfl ⟨Nat.le_of_ble_eq_true rfl, Nat.le_of_ble_eq_true rfl⟩ (Nat.le_of_ble_eq_true rfl) (show n1 ≤ 8 + 600000 by omega) (show z1 ≤ 0 + 7302250 by omega) ?_
  refine a_icmp_eq 1007 d_Law_law_933 (by decide) (fun c933 => ?_) (fun c933 => absurd rfl c933)
  exact kk h2 n1 z1 I2
set_option maxRecDepth 20000 in
set_option maxHeartbeats 4000000 in
theorem w_image (I : INV z0 h n z) (hz0 : z0 ≤ 30000) {i : Nat} (hi : i + 6 ≤ tL V 7) (hL : tL V 7 ≤ 3072) (kk : ∀ (h2 : AH) (n2 z2 : Nat), INV z0 h2 n2 z2 → AW V i_Law_law room_1 Qf 8 0 1007 [some (.ref 7), some (.ref 8), some (.ref 32), some (.int (nI i))] [] h2 n2 z2) : AW V i_Law_law room_1 Qf 8 0 938 [some (.ref 7), some (.ref 8), some (.ref 32), some (.int (nI i))] [] h n z := by
  obtain ⟨⟨cc, g8⟩, -⟩ := I.cls
  obtain ⟨r, h1, n1, z1, h2, q1, q2, X, Y, I2, ⟨cm, g32⟩⟩ := o_image (V := V) I (tF V 7 (i + 1))
  have b : 53 ≤ n1 ∧ n1 ≤ 117 ∧ z0 ≤ z1 ∧ z1 ≤ z0 + 448 := by
    obtain ⟨L, f, lf, W, H, D, j, s, k, ad, aj, ash, i0, i1, ra, A, K, Q, p, hL, hk, R⟩ := id I2
    exact K.b
  have ea1 : nI i + 1 = nI (i + 1) := nI_add i 1
  refine a_aload_n d_Law_law_938 rfl ?_
  refine a_aload_n d_Law_law_939 rfl ?_
  refine a_iload_n d_Law_law_940 rfl ?_
  refine a_iconst (v := 1) d_Law_law_941 (by decide) ?_
  refine a_iadd d_Law_law_942 ?_
  rw [ea1]
  refine a_tald (Nat.le_of_ble_eq_true rfl) d_Law_law_943 (vp_in_nI (show i + 1 < tL V 7 by omega) (by omega)) ?_
  rw [nI_clamp (by omega)]
  refine a_cv (a := 8) d_Law_law_944 m_Dot_image t_Dot_image l_Law_115 g8 rfl rfl X rfl rfl ⟨Nat.le_of_ble_eq_true rfl, Nat.le_of_ble_eq_true rfl⟩ (Nat.le_of_ble_eq_true rfl) (show n1 ≤ 8 + 600000 by omega) (show z1 ≤ 0 + 7302250 by omega) ?_
  refine a_aload_n d_Law_law_947 rfl ?_
  refine a_aload_n d_Law_law_948 rfl ?_
  refine a_iload_n d_Law_law_949 rfl ?_
  refine a_iconst (v := 1) d_Law_law_950 (by decide) ?_
  refine a_iadd d_Law_law_951 ?_
  rw [ea1]
  refine a_tald (Nat.le_of_ble_eq_true rfl) d_Law_law_952 (vp_in_nI (show i + 1 < tL V 7 by omega) (by omega)) ?_
  rw [nI_clamp (by omega)]
  refine a_cv (a := 32) d_Law_law_953 m_Mod_image t_Mod_image l_Law_118 g32 rfl rfl Y rfl rfl ⟨Nat.le_of_ble_eq_true rfl, Nat.le_of_ble_eq_true rfl⟩ (Nat.le_of_ble_eq_true rfl) (show n1 ≤ 8 + 600000 by omega) (show z1 ≤ 0 + 7302250 by omega) ?_
  refine a_icmp_eq 1007 d_Law_law_956 (by decide) (fun c956 => ?_) (fun c956 => absurd rfl c956)
  exact kk h2 n1 z1 I2
set_option maxRecDepth 20000 in
set_option maxHeartbeats 4000000 in
theorem w_restore (I : INV z0 h n z) (hz0 : z0 ≤ 30000) {i : Nat} (hi : i + 6 ≤ tL V 7) (hL : tL V 7 ≤ 3072) (kk : ∀ (h2 : AH) (n2 z2 : Nat), INV z0 h2 n2 z2 → AW V i_Law_law room_1 Qf 8 0 1007 [some (.ref 7), some (.ref 8), some (.ref 32), some (.int (nI i))] [] h2 n2 z2) : AW V i_Law_law room_1 Qf 8 0 961 [some (.ref 7), some (.ref 8), some (.ref 32), some (.int (nI i))] [] h n z := by
  obtain ⟨⟨cc, g8⟩, -⟩ := I.cls
  obtain ⟨r, h1, n1, z1, h2, q1, q2, X, Y, I2, ⟨cm, g32⟩⟩ := o_restore (V := V) I (tF V 7 (i + 1))
  have b : 53 ≤ n1 ∧ n1 ≤ 117 ∧ z0 ≤ z1 ∧ z1 ≤ z0 + 448 := by
    obtain ⟨L, f, lf, W, H, D, j, s, k, ad, aj, ash, i0, i1, ra, A, K, Q, p, hL, hk, R⟩ := id I2
    exact K.b
  have ea1 : nI i + 1 = nI (i + 1) := nI_add i 1
  refine a_aload_n d_Law_law_961 rfl ?_
  refine a_aload_n d_Law_law_962 rfl ?_
  refine a_iload_n d_Law_law_963 rfl ?_
  refine a_iconst (v := 1) d_Law_law_964 (by decide) ?_
  refine a_iadd d_Law_law_965 ?_
  rw [ea1]
  refine a_tald (Nat.le_of_ble_eq_true rfl) d_Law_law_966 (vp_in_nI (show i + 1 < tL V 7 by omega) (by omega)) ?_
  rw [nI_clamp (by omega)]
  refine a_cv (a := 8) d_Law_law_967 m_Dot_restore t_Dot_restore l_Law_119 g8 rfl rfl X rfl rfl ⟨Nat.le_of_ble_eq_true rfl, Nat.le_of_ble_eq_true rfl⟩ (Nat.le_of_ble_eq_true rfl) (show n1 ≤ 8 + 600000 by omega) (show z1 ≤ 0 + 7302250 by omega) ?_
  refine a_aload_n d_Law_law_970 rfl ?_
  refine a_aload_n d_Law_law_971 rfl ?_
  refine a_iload_n d_Law_law_972 rfl ?_
  refine a_iconst (v := 1) d_Law_law_973 (by decide) ?_
  refine a_iadd d_Law_law_974 ?_
  rw [ea1]
  refine a_tald (Nat.le_of_ble_eq_true rfl) d_Law_law_975 (vp_in_nI (show i + 1 < tL V 7 by omega) (by omega)) ?_
  rw [nI_clamp (by omega)]
  refine a_cv (a := 32) d_Law_law_976 m_Mod_restore t_Mod_restore l_Law_122 g32 rfl rfl Y rfl rfl ⟨Nat.le_of_ble_eq_true rfl, Nat.le_of_ble_eq_true rfl⟩ (Nat.le_of_ble_eq_true rfl) (show n1 ≤ 8 + 600000 by omega) (show z1 ≤ 0 + 7302250 by omega) ?_
  refine a_icmp_eq 1007 d_Law_law_979 (by decide) (fun c979 => ?_) (fun c979 => absurd rfl c979)
  exact kk h2 n1 z1 I2
set_option maxRecDepth 20000 in
set_option maxHeartbeats 4000000 in
theorem w_count (I : INV z0 h n z) (hz0 : z0 ≤ 30000) {i : Nat} (hi : i + 6 ≤ tL V 7) (hL : tL V 7 ≤ 3072) (kk : ∀ (h2 : AH) (n2 z2 : Nat), INV z0 h2 n2 z2 → AW V i_Law_law room_1 Qf 8 0 1007 [some (.ref 7), some (.ref 8), some (.ref 32), some (.int (nI i))] [] h2 n2 z2) : AW V i_Law_law room_1 Qf 8 0 984 [some (.ref 7), some (.ref 8), some (.ref 32), some (.int (nI i))] [] h n z := by
  obtain ⟨⟨cc, g8⟩, -⟩ := I.cls
  obtain ⟨r, h1, n1, z1, h2, q1, q2, X, Y, I2, ⟨cm, g32⟩⟩ := o_count (V := V) I (tF V 7 (i + 1))
  have b : 53 ≤ n1 ∧ n1 ≤ 117 ∧ z0 ≤ z1 ∧ z1 ≤ z0 + 448 := by
    obtain ⟨L, f, lf, W, H, D, j, s, k, ad, aj, ash, i0, i1, ra, A, K, Q, p, hL, hk, R⟩ := id I2
    exact K.b
  have ea1 : nI i + 1 = nI (i + 1) := nI_add i 1
  refine a_aload_n d_Law_law_984 rfl ?_
  refine a_aload_n d_Law_law_985 rfl ?_
  refine a_iload_n d_Law_law_986 rfl ?_
  refine a_iconst (v := 1) d_Law_law_987 (by decide) ?_
  refine a_iadd d_Law_law_988 ?_
  rw [ea1]
  refine a_tald (Nat.le_of_ble_eq_true rfl) d_Law_law_989 (vp_in_nI (show i + 1 < tL V 7 by omega) (by omega)) ?_
  rw [nI_clamp (by omega)]
  refine a_cv (a := 8) d_Law_law_990 m_Dot_count t_Dot_count l_Law_123 g8 rfl rfl X rfl rfl ⟨Nat.le_of_ble_eq_true rfl, Nat.le_of_ble_eq_true rfl⟩ (Nat.le_of_ble_eq_true rfl) (show n1 ≤ 8 + 600000 by omega) (show z1 ≤ 0 + 7302250 by omega) ?_
  refine a_aload_n d_Law_law_993 rfl ?_
  refine a_aload_n d_Law_law_994 rfl ?_
  refine a_iload_n d_Law_law_995 rfl ?_
  refine a_iconst (v := 1) d_Law_law_996 (by decide) ?_
  refine a_iadd d_Law_law_997 ?_
  rw [ea1]
  refine a_tald (Nat.le_of_ble_eq_true rfl) d_Law_law_998 (vp_in_nI (show i + 1 < tL V 7 by omega) (by omega)) ?_
  rw [nI_clamp (by omega)]
  refine a_cv (a := 32) d_Law_law_999 m_Mod_count t_Mod_count l_Law_126 g32 rfl rfl Y rfl rfl ⟨Nat.le_of_ble_eq_true rfl, Nat.le_of_ble_eq_true rfl⟩ (Nat.le_of_ble_eq_true rfl) (show n1 ≤ 8 + 600000 by omega) (show z1 ≤ 0 + 7302250 by omega) ?_
  refine a_icmp_eq 1007 d_Law_law_1002 (by decide) (fun c1002 => ?_) (fun c1002 => absurd rfl c1002)
  exact kk h2 n1 z1 I2
end
