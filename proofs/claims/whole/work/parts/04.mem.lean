/-! ROWS of fields, arrays, objects, returns, calls -/
def CI (j : Nat) (C : String) (T : u_T) (N : Nat) (ty : Nat → FieldType) : Prop := vwCl[j]? = some (C, T, N) ∧ (∀ w ∈ u_ws C T N, w ∈ WT) ∧ (∀ k, k < N → parseFieldDescriptor (T k).2.2.1 = some (ty k)) ∧ ∀ a, a < N → ∀ b, b < N → a ≠ b → (T a).2.1 ≠ (T b).2.1
def FL (own : String) (idx j : Nat) (C : String) (T : u_T) (N : Nat) (ty : Nat → FieldType) (k : Nat) : Prop := CI j C T N ty ∧ k < N ∧ Cond.fieldLink own idx (T k).1 (T k).2.1 (T k).2.2.1 ∈ WT
section AWMem
variable {V : VV} {I : MI} {R : Room} {Qf : QF} {n0 z0 pc : Nat} {lv : List (Option Value)} {st : List Value} {h : AH} {n z : Nat}
theorem a_getf {idx j k a : Nat} {C : String} {T : u_T} {N : Nat} {ty : Nat → FieldType} {fs : List Value} {v : Value} (dg : decode I.2.1 pc = .ok (.getfield idx, 3)) (fl : FL I.1.cls idx j C T N ty k) (hg : h a = .inr (j, fs)) (hv : fs[k]? = some v) (kk : AW V I R Qf n0 z0 (pc + 3) lv (v :: st) h n z) : AW V I R Qf n0 z0 pc lv (.ref a :: st) h n z := by
  intro p l e s m args below meth c H locs ls X hS hP hL h1 h2 h3 h4
  obtain ⟨⟨c1, c2, c3, c4⟩, hk, hw⟩ := fl
  have ha := hP.at (nj_o hg)
  have he := wsA_get V h ha.1 ha.2
  rw [hg] at he
  exact va_get X.1 X.2.1 X.2.2.2.2.1 c2 X.2.2.2.1 X.2.2.2.2.2.2.2.2.1 hP.2.2.2 (a - 8) he c1 k hk (X.2.2.2.2.1 _ hw) (fun _ q => q) (show (fs.map (coV V))[k]? = some (coV V v) by simp [hv]) dg (kk p l e s m args below meth c H locs ls X hS hP hL h1 h2 h3 h4)
theorem a_putf {idx j k a : Nat} {C : String} {T : u_T} {N : Nat} {ty : Nat → FieldType} {fs : List Value} {v : Value} (dg : decode I.2.1 pc = .ok (.putfield idx, 3)) (fl : FL I.1.cls idx j C T N ty k) (hfin : (T k).2.2.2 = false) (hg : h a = .inr (j, fs)) (hl : k < fs.length) (hn : narrow (ty k) (coV V v) = coV V v) (hf : fits (ty k) (coV V v) = true) (kk : AW V I R Qf n0 z0 (pc + 3) lv st (hu h a (.inr (j, fs.set k v))) n z) : AW V I R Qf n0 z0 pc lv (v :: .ref a :: st) h n z := by
  intro p l e s m args below meth c H locs ls X hS hP hL h1 h2 h3 h4
  obtain ⟨⟨c1, c2, c3, c4⟩, hk, hw⟩ := fl
  have ha := hP.at (nj_o hg)
  have he := wsA_get V h ha.1 ha.2
  rw [hg] at he
  obtain ⟨r, q0, cell, q1, q2, q3, q4⟩ := hP.2.2.2 (a - 8) _ he
  have hr : r = (C, T, N) := Option.some.inj (q0.symm.trans c1)
  subst hr
  have hts := X.2.2.2.2.1
  have hK := X.2.2.2.2.2.2.2.2.1
  obtain ⟨hSl, hfc, kC, hkC, hkind⟩ := hK.1 j _ c1
  obtain ⟨cf, kf, fi, f, hi, hsl⟩ := hSl k hk
  have hap := va_apart (own := I.1.cls) hts c2 ty c3 c4 hK c1
  have hlay := hts _ (c2 _ (u_in_lay hk))
  unfold u_lay at hlay
  rw [if_neg (by rw [hfin]; decide)] at hlay
  have hst := (u_facts hfc hkC (u_lays hts c2 hk) hi).1
  have h6 := u_store hfc hkC hkind hlay hi (c3 k hk) hn hf
  refine W.putK X.1 X.2.1 (f := f) ⟨X.2.2.2.1, hts _ hw, ⟨_, _, _, hi⟩, hst⟩ (by rw [q2]; exact h6) q1 q3 (by rw [hsl]; exact k2_hasslot (q4 k hk)) rfl rfl dg fun H' e1 e2 e3 => ?_
  rw [hsl] at e1 ⊢
  have hP' := hP.2.2.2.set (wsA_D V h n) he (e := .inr (j, (fs.map (coV V)).set k (coV V v))) ⟨_, c1, t_OB.to (V := updV (vp_V (fs.map (coV V))) k (coV V v)) ⟨_, e1, q2, q3, t_set q4 hap hk _⟩ (fun i _ => vp_updV_set (by simpa using hl) _ i)⟩ e3
  have hA : Ab V (ad V a) := by rw [ad_ge V ha.1]; exact Nat.le_add_right _ _
  have hP2 : Pos V (hu h a (.inr (j, fs.set k v))) n H' := hP.put ha.1 ha.2 e2 (by
    show va_P V.1 vwCl ((wsA V h n).set (a - 8) (ad V a, .inr (j, (fs.set k v).map (coV V)))) H'
    rw [List.map_set]; exact hP')
  exact kk p l e s m args below meth c H' _ ls X (hS.put e2 e3 hA) hP2 hL h1 h2 h3 h4
theorem a_putF {idx j k a : Nat} {C : String} {T : u_T} {N : Nat} {ty : Nat → FieldType} {fs : List Value} {v : Value} (dg : decode I.2.1 pc = .ok (.putfield idx, 3)) (fl : FL I.1.cls idx j C T N ty k) (hfin : (T k).2.2.2 = true) (hin : I.1.name = "<init>") (hdc : (T k).1 = I.1.cls) (hg : h a = .inr (j, fs)) (hl : k < fs.length) (hn : narrow (ty k) (coV V v) = coV V v) (hf : fits (ty k) (coV V v) = true) (kk : AW V I R Qf n0 z0 (pc + 3) lv st (hu h a (.inr (j, fs.set k v))) n z) : AW V I R Qf n0 z0 pc lv (v :: .ref a :: st) h n z := by
  intro p l e s m args below meth c H locs ls X hS hP hL h1 h2 h3 h4
  obtain ⟨⟨c1, c2, c3, c4⟩, hk, hw⟩ := fl
  have ha := hP.at (nj_o hg)
  have he := wsA_get V h ha.1 ha.2
  rw [hg] at he
  obtain ⟨r, q0, cell, q1, q2, q3, q4⟩ := hP.2.2.2 (a - 8) _ he
  have hr : r = (C, T, N) := Option.some.inj (q0.symm.trans c1)
  subst hr
  have hts := X.2.2.2.2.1
  have hK := X.2.2.2.2.2.2.2.2.1
  obtain ⟨hSl, hfc, kC, hkC, hkind⟩ := hK.1 j _ c1
  obtain ⟨cf, kf, fi, f, hi, hsl⟩ := hSl k hk
  have hap := va_apart (own := I.1.cls) hts c2 ty c3 c4 hK c1
  have hlay := hts _ (c2 _ (u_in_lay hk))
  unfold u_lay at hlay
  rw [if_pos hfin] at hlay
  have hst := (u_facts hfc hkC (u_lays hts c2 hk) hi).1
  have hcf : m.cls = cf := by
    obtain ⟨_, _, c', _, _, _, -, -, hf', -, -, -, hown2, -⟩ := Cond.laysFinal_spec hlay
    have e1 : c' = cf := by have := hi.symm.trans hf'; simp at this; exact this.1.symm
    rw [hdc] at hown2
    rw [← e1]; exact Option.some.inj (X.2.2.2.1.symm.trans hown2)
  have h6 := u_fits hfc hkC hkind (Or.inr hlay) hi (c3 k hk) hn hf
  refine W.putFinK X.1 X.2.1 X.2.2.2.1 (hts _ hw) hi hst hcf (X.2.2.2.2.2.2.2.1.trans hin) (by rw [q2]; exact h6) q1 q3 (by rw [hsl]; exact k2_hasslot (q4 k hk)) rfl rfl dg fun H' e1 e2 e3 => ?_
  rw [hsl] at e1 ⊢
  have hP' := hP.2.2.2.set (wsA_D V h n) he (e := .inr (j, (fs.map (coV V)).set k (coV V v))) ⟨_, c1, t_OB.to (V := updV (vp_V (fs.map (coV V))) k (coV V v)) ⟨_, e1, q2, q3, t_set q4 hap hk _⟩ (fun i _ => vp_updV_set (by simpa using hl) _ i)⟩ e3
  have hA : Ab V (ad V a) := by rw [ad_ge V ha.1]; exact Nat.le_add_right _ _
  have hP2 : Pos V (hu h a (.inr (j, fs.set k v))) n H' := hP.put ha.1 ha.2 e2 (by
    show va_P V.1 vwCl ((wsA V h n).set (a - 8) (ad V a, .inr (j, (fs.set k v).map (coV V)))) H'
    rw [List.map_set]; exact hP')
  exact kk p l e s m args below meth c H' _ ls X (hS.put e2 e3 hA) hP2 hL h1 h2 h3 h4
theorem a_gets {idx k : Nat} (hk : k < 7) (dg : decode I.2.1 pc = .ok (.getstatic idx, 3)) (hw : Cond.fieldLink I.1.cls idx (sC k) (sN k) "[I" ∈ WT) (kk : AW V I R Qf n0 z0 (pc + 3) lv (.ref k :: st) h n z) : AW V I R Qf n0 z0 pc lv st h n z := by
  intro p l e s m args below meth c H locs ls X hS hP hL h1 h2 h3 h4
  have K := kk p l e s m args below meth c H locs ls X hS hP hL h1 h2 h3 h4
  have e1 : coV V (.ref k) = .ref (V.2.2.2.1 k) := by simp [coV, ad, show k < 8 by omega]
  rw [List.map_cons, e1] at K
  exact va_gets X.1 X.2.1 (X.2.2.2.2.2.2.2.2.2.1.1 k hk) hS X.2.2.2.1 (X.2.2.2.2.1 _ hw) (fun _ q => q) dg K
theorem a_tald {k : Nat} {i : Int32} (hk : k < 8) (dg : decode I.2.1 pc = .ok (.iaload, 1)) (hin : vp_in i (tL V k)) (kk : AW V I R Qf n0 z0 (pc + 1) lv (.int (tF V k i.toNatClampNeg) :: st) h n z) : AW V I R Qf n0 z0 pc lv (.int i :: .ref k :: st) h n z := by
  intro p l e s m args below meth c H locs ls X hS hP hL h1 h2 h3 h4
  have e1 : coV V (.ref k) = .ref (V.2.2.2.1 k) := by simp [coV, ad, hk]
  rw [List.map_cons, List.map_cons, e1]
  exact va_ti X.1 X.2.1 (X.2.2.2.2.2.2.2.2.2.1.2.1 k hk) hS hin rfl dg (kk p l e s m args below meth c H locs ls X hS hP hL h1 h2 h3 h4)
theorem a_tlen {k : Nat} {v : Int32} (hk : k < 8) (dg : decode I.2.1 pc = .ok (.arraylength, 1)) (hv : Int32.ofNat (tL V k) = v) (kk : AW V I R Qf n0 z0 (pc + 1) lv (.int v :: st) h n z) : AW V I R Qf n0 z0 pc lv (.ref k :: st) h n z := by
  intro p l e s m args below meth c H locs ls X hS hP hL h1 h2 h3 h4
  have e1 : coV V (.ref k) = .ref (V.2.2.2.1 k) := by simp [coV, ad, hk]
  rw [List.map_cons, e1]
  exact va_tlen X.1 X.2.1 (X.2.2.2.2.2.2.2.2.2.1.2.1 k hk) hS hv dg (kk p l e s m args below meth c H locs ls X hS hP hL h1 h2 h3 h4)
theorem a_iald {a N : Nat} {f : Nat → Int32} {i : Int32} (dg : decode I.2.1 pc = .ok (.iaload, 1)) (hg : h a = .inl (N, .inl f)) (hin : vp_in i N) (kk : AW V I R Qf n0 z0 (pc + 1) lv (.int (f i.toNatClampNeg) :: st) h n z) : AW V I R Qf n0 z0 pc lv (.int i :: .ref a :: st) h n z := by
  intro p l e s m args below meth c H locs ls X hS hP hL h1 h2 h3 h4
  have ha := hP.at (nj_i hg)
  have he := wsA_get V h ha.1 ha.2
  rw [hg] at he
  exact va_iald X.1 X.2.1 X.2.2.2.2.2.2.2.2.1 hP.2.2.2 (a - 8) 0 he rfl hin dg (kk p l e s m args below meth c H locs ls X hS hP hL h1 h2 h3 h4)
theorem a_lald {a N : Nat} {f : Nat → Int64} {i : Int32} (dg : decode I.2.1 pc = .ok (.laload, 1)) (hg : h a = .inl (N, .inr (.inl f))) (hin : vp_in i N) (kk : AW V I R Qf n0 z0 (pc + 1) lv (.long (f i.toNatClampNeg) :: st) h n z) : AW V I R Qf n0 z0 pc lv (.int i :: .ref a :: st) h n z := by
  intro p l e s m args below meth c H locs ls X hS hP hL h1 h2 h3 h4
  have ha := hP.at (nj_l hg)
  have he := wsA_get V h ha.1 ha.2
  rw [hg] at he
  exact va_lald X.1 X.2.1 X.2.2.2.2.2.2.2.2.1 hP.2.2.2 (a - 8) 1 he rfl hin dg (kk p l e s m args below meth c H locs ls X hS hP hL h1 h2 h3 h4)
theorem a_aald {a N : Nat} {f : Nat → Option Nat} {i : Int32} (dg : decode I.2.1 pc = .ok (.aaload, 1)) (hg : h a = .inl (N, .inr (.inr (.inr (.inr f))))) (hin : vp_in i N) (kk : AW V I R Qf n0 z0 (pc + 1) lv (va_rf (f i.toNatClampNeg) :: st) h n z) : AW V I R Qf n0 z0 pc lv (.int i :: .ref a :: st) h n z := by
  intro p l e s m args below meth c H locs ls X hS hP hL h1 h2 h3 h4
  have ha := hP.at (nj_q hg)
  have he := wsA_get V h ha.1 ha.2
  rw [hg] at he
  have K := kk p l e s m args below meth c H locs ls X hS hP hL h1 h2 h3 h4
  have e1 : coV V (va_rf (f i.toNatClampNeg)) = va_rf ((f i.toNatClampNeg).map (ad V)) := by cases f i.toNatClampNeg <;> rfl
  rw [List.map_cons, e1] at K
  exact va_aldq X.1 X.2.1 X.2.2.2.2.2.2.2.2.1 hP.2.2.2 (a - 8) 2 he rfl hin dg K
theorem a_iast {a N : Nat} {f : Nat → Int32} {i x : Int32} (dg : decode I.2.1 pc = .ok (.iastore, 1)) (hg : h a = .inl (N, .inl f)) (hin : vp_in i N) (kk : AW V I R Qf n0 z0 (pc + 1) lv st (hu h a (.inl (N, .inl (upd f i.toNatClampNeg x)))) n z) : AW V I R Qf n0 z0 pc lv (.int x :: .int i :: .ref a :: st) h n z := by
  intro p l e s m args below meth c H locs ls X hS hP hL h1 h2 h3 h4
  have ha := hP.at (nj_i hg)
  have he := wsA_get V h ha.1 ha.2
  rw [hg] at he
  have hA : Ab V (ad V a) := by rw [ad_ge V ha.1]; exact Nat.le_add_right _ _
  refine W.iast X.1 X.2.1 (hP.2.2.2 (a - 8) _ he) ((X.2.2.2.2.2.2.2.2.1.2 0 _ rfl).1 N (fun j => .int (f j))) (fun q => by cases q) (by show ¬ (i < 0 ∨ (arrV _ _ _).slots.size ≤ _); rw [arrV_size]; exact hin) rfl rfl dg fun H1 e1 e2 e3 => ?_
  have hc : H1[ad V a]? = some (vp_cell V.2.1.1 (N, .inl (upd f i.toNatClampNeg x))) := by
    rw [e1, vp_cell_i, vp_cell_i, arrV_store]
    congr 2
    funext q
    by_cases hq : q = i.toNatClampNeg
    · subst hq; simp [updV, upd]
    · simp [updV, upd, hq]
  exact kk p l e s m args below meth c H1 _ ls X (hS.put e2 e3 hA) (hP.put ha.1 ha.2 e2 (hP.2.2.2.set (wsA_D V h n) he hc e3)) hL h1 h2 h3 h4
theorem a_last {a N : Nat} {f : Nat → Int64} {i : Int32} {x : Int64} (dg : decode I.2.1 pc = .ok (.lastore, 1)) (hg : h a = .inl (N, .inr (.inl f))) (hin : vp_in i N) (kk : AW V I R Qf n0 z0 (pc + 1) lv st (hu h a (.inl (N, .inr (.inl (vp_updL f i.toNatClampNeg x))))) n z) : AW V I R Qf n0 z0 pc lv (.long x :: .int i :: .ref a :: st) h n z := by
  intro p l e s m args below meth c H locs ls X hS hP hL h1 h2 h3 h4
  have ha := hP.at (nj_l hg)
  have he := wsA_get V h ha.1 ha.2
  rw [hg] at he
  have hA : Ab V (ad V a) := by rw [ad_ge V ha.1]; exact Nat.le_add_right _ _
  refine W.last X.1 X.2.1 (hP.2.2.2 (a - 8) _ he) ((X.2.2.2.2.2.2.2.2.1.2 1 _ rfl).1 N (fun j => .long (f j))) (fun q => by cases q) (by show ¬ (i < 0 ∨ (arrV _ _ _).slots.size ≤ _); rw [arrV_size]; exact hin) rfl rfl dg fun H1 e1 e2 e3 => ?_
  have hc : H1[ad V a]? = some (vp_cell V.2.1.2.1 (N, .inr (.inl (vp_updL f i.toNatClampNeg x)))) := by
    rw [e1, vp_cell_l, vp_cell_l, arrV_store]
    congr 2
    funext q
    by_cases hq : q = i.toNatClampNeg
    · subst hq; simp [updV, vp_updL]
    · simp [updV, vp_updL, hq]
  exact kk p l e s m args below meth c H1 _ ls X (hS.put e2 e3 hA) (hP.put ha.1 ha.2 e2 (hP.2.2.2.set (wsA_D V h n) he hc e3)) hL h1 h2 h3 h4
theorem a_aast {a b N : Nat} {f : Nat → Option Nat} {i : Int32} {fs : List Value} (dg : decode I.2.1 pc = .ok (.aastore, 1)) (hg : h a = .inl (N, .inr (.inr (.inr (.inr f))))) (hb : h b = .inr (2, fs)) (hin : vp_in i N) (kk : AW V I R Qf n0 z0 (pc + 1) lv st (hu h a (.inl (N, .inr (.inr (.inr (.inr (va_up f i.toNatClampNeg (some b)))))))) n z) : AW V I R Qf n0 z0 pc lv (.ref b :: .int i :: .ref a :: st) h n z := by
  intro p l e s m args below meth c H locs ls X hS hP hL h1 h2 h3 h4
  have ha := hP.at (nj_q hg)
  have he := wsA_get V h ha.1 ha.2
  rw [hg] at he
  have hbb := hP.at (nj_o hb)
  have hbe := wsA_get V h hbb.1 hbb.2
  rw [hb] at hbe
  have hlt : i.toNatClampNeg < N := Nat.not_le.mp fun q => hin (Or.inr q)
  have h0 : ¬ i < 0 := fun q => hin (Or.inl q)
  have hK := X.2.2.2.2.2.2.2.2.1
  have hA : Ab V (ad V a) := by rw [ad_ge V ha.1]; exact Nat.le_add_right _ _
  obtain ⟨r', hr', cellV, g1, g2, g3, -⟩ := hP.2.2.2 (b - 8) _ hbe
  have hcls := (hK.1 2 _ rfl).2
  obtain ⟨kA, comp, k1, k2, k3, -⟩ := (hK.2 2 _ rfl).2
  have hcomp : comp = V.1.1 2 := Option.some.inj (k3.symm.trans hcls.1)
  subst hcomp
  obtain ⟨kC, hkC, -⟩ := hcls.2
  refine W.aast X.1 X.2.1 (hP.2.2.2 (a - 8) _ he) (fun q h => by cases h) (fun h => by cases h) k1 k2 rfl hkC ⟨h0, by show _ < (arrV _ _ _).slots.size; rw [arrV_size]; exact hlt⟩ g1 (fun q h => by rw [g3] at h; cases h) (by rw [g2]; exact hkC) (by rw [g2]; exact va_assign hcls) rfl rfl dg fun H1 e1 e2 e3 => ?_
  have hc : H1[ad V a]? = some (vp_cell V.2.1.2.2 (N, .inr (.inr (.inr (.inr (fun j => ((va_up f i.toNatClampNeg (some b)) j).map (ad V))))))) := by
    rw [e1, vp_cell_q, vp_cell_q, arrV_store]
    congr 2
    funext q
    by_cases hq : q = i.toNatClampNeg
    · subst hq; simp [updV, va_up, va_rf]
    · simp [updV, va_up, hq]
  exact kk p l e s m args below meth c H1 _ ls X (hS.put e2 e3 hA) (hP.put ha.1 ha.2 e2 (hP.2.2.2.set (wsA_D V h n) he hc e3)) hL h1 h2 h3 h4
/-! what is made -/
theorem Pos.push {V : VV} {h : AH} {n : Nat} {H H1 : Heap} {c : AC} (P : Pos V h n H) (hs : H1.size = H.size + 1) (ho : ∀ q, q < H.size → H1[q]? = H[q]?) (hc : va_at V.1 vwCl (H.size, coE V c) H1) : Pos V (hu h n c) (n + 1) H1 := by
  have e0 : H.size = vb V + (n - 8) := by have := P.2.1; have := P.1; omega
  refine ⟨by have := P.1; omega, by rw [hs]; have := P.2.1; omega, fun i hi => ?_, ?_⟩
  · rw [hu_n (by have := P.1; omega)]
    exact P.2.2.1 i (by omega)
  · rw [← wsA_push V h c P.1]
    refine (P.2.2.2.kept (fun k x hx => ho x.1 ((P.2.2.2 k x hx).lt))).app (fun k x hx => ?_)
    have hz : k < 1 := (List.getElem?_eq_some_iff.mp hx).1
    rw [show k = 0 by omega] at hx
    cases hx
    rw [← e0]
    exact hc
theorem va_S.grow {A : Nat → Prop} {H0 H H1 : Heap} {locs : List Loc} (hS : va_S A H0 H locs) (hs : H1.size = H.size + 1) (ho : ∀ q, q < H.size → H1[q]? = H[q]?) : va_S A H0 H1 locs :=
  ⟨by rw [hs]; exact Nat.le_succ_of_le hS.1, fun q h1 h2 => (ho q (Nat.lt_of_lt_of_le h1 hS.1)).trans (hS.2.1 q h1 h2), hS.2.2⟩
theorem ref_new {V : VV} {h : AH} {n : Nat} {H : Heap} (P : Pos V h n H) : coV V (.ref n) = .ref H.size := by
  have q1 := P.1
  have q2 := P.2.1
  have q3 : vb V + (n - 8) = H.size := by omega
  simp only [coV, ad_ge V P.1, q3]
theorem a_newI {x : Int32} {N : Nat} (dg : decode I.2.1 pc = .ok (.newarray .int, 2)) (hx : ¬ x < 0) (hN : x.toNatClampNeg = N) (hb : N * 4 ≤ 536870912) (hn1 : n + 1 ≤ n0 + R.cells) (hz1 : z + N ≤ z0 + R.slots) (hw : Cond.arrayClass .int ∈ WT) (kk : AW V I R Qf n0 z0 (pc + 2) lv (.ref n :: st) (hu h n (.inl (N, .inl (fun _ => 0)))) (n + 1) (z + N)) : AW V I R Qf n0 z0 pc lv (.int x :: st) h n z := by
  intro p l e s m args below meth c H locs ls X hS hP hL h1 h2 h3 h4
  refine va_newaK (atype := .int) X.1 X.2.1 (X.2.2.2.2.1 _ hw) rfl dg rfl hx hN hb (by omega) (by omega) rfl fun H1 cA e1 z1 o1 hAr hNm => ?_
  have hcA : cA = V.2.1.1 := Option.some.inj (hNm.symm.trans (X.2.2.2.2.2.2.2.2.1.2 0 _ rfl).2)
  subst hcA
  have K := kk p l e s m args below meth c H1 locs ls X (hS.grow z1 o1) (hP.push z1 o1 (by show H1[H.size]? = _; rw [e1]; rfl)) hL (by omega) hn1 (by omega) hz1
  rw [List.map_cons, ref_new hP, show n + 1 - n0 = n - n0 + 1 by omega, show z + N - z0 = z - z0 + N by omega] at K
  exact K
theorem a_newL {x : Int32} {N : Nat} (dg : decode I.2.1 pc = .ok (.newarray .long, 2)) (hx : ¬ x < 0) (hN : x.toNatClampNeg = N) (hb : N * 8 ≤ 536870912) (hn1 : n + 1 ≤ n0 + R.cells) (hz1 : z + N ≤ z0 + R.slots) (hw : Cond.arrayClass .long ∈ WT) (kk : AW V I R Qf n0 z0 (pc + 2) lv (.ref n :: st) (hu h n (.inl (N, .inr (.inl (fun _ => 0))))) (n + 1) (z + N)) : AW V I R Qf n0 z0 pc lv (.int x :: st) h n z := by
  intro p l e s m args below meth c H locs ls X hS hP hL h1 h2 h3 h4
  refine va_newaK (atype := .long) X.1 X.2.1 (X.2.2.2.2.1 _ hw) rfl dg rfl hx hN hb (by omega) (by omega) rfl fun H1 cA e1 z1 o1 hAr hNm => ?_
  have hcA : cA = V.2.1.2.1 := Option.some.inj (hNm.symm.trans (X.2.2.2.2.2.2.2.2.1.2 1 _ rfl).2)
  subst hcA
  have K := kk p l e s m args below meth c H1 locs ls X (hS.grow z1 o1) (hP.push z1 o1 (by show H1[H.size]? = _; rw [e1]; rfl)) hL (by omega) hn1 (by omega) hz1
  rw [List.map_cons, ref_new hP, show n + 1 - n0 = n - n0 + 1 by omega, show z + N - z0 = z - z0 + N by omega] at K
  exact K
theorem a_newQ {x : Int32} {N idx : Nat} (dg : decode I.2.1 pc = .ok (.anewarray idx, 3)) (hx : ¬ x < 0) (hN : x.toNatClampNeg = N) (hb : N * 4 ≤ 536870912) (hn1 : n + 1 ≤ n0 + R.cells) (hz1 : z + N ≤ z0 + R.slots) (hw : Cond.classLink I.1.cls idx "DotOutlines$Border" ∈ WT) (kk : AW V I R Qf n0 z0 (pc + 3) lv (.ref n :: st) (hu h n (.inl (N, .inr (.inr (.inr (.inr (fun _ => none))))))) (n + 1) (z + N)) : AW V I R Qf n0 z0 pc lv (.int x :: st) h n z := by
  intro p l e s m args below meth c H locs ls X hS hP hL h1 h2 h3 h4
  subst hN
  refine W.anew X.1 X.2.1 X.2.2.2.1 (X.2.2.2.2.1 _ hw) (va_AO.use X.2.2.2.2.2.2.2.2.2.1.2.2) rfl dg rfl hx hb (by omega) (by omega) fun cA kA comp f1 f2 f3 f4 => ?_
  generalize hH1 : H.push ({ cls := cA, slots := Array.replicate x.toNatClampNeg .null, vm := .none } : Cell) = H1
  have z1 : H1.size = H.size + 1 := by rw [← hH1, Array.size_push]
  have e1 : H1[H.size]? = some (arrV cA x.toNatClampNeg (fun _ => .null)) := by rw [← hH1, Array.getElem?_push_size, ← arrV_new]
  have o1 : ∀ q : Nat, q < H.size → H1[q]? = H[q]? := fun q hq => by rw [← hH1, Array.getElem?_push, if_neg (Nat.ne_of_lt hq)]
  obtain ⟨kA', comp', -, -, -, hq4⟩ := (X.2.2.2.2.2.2.2.2.1.2 2 _ rfl).2
  have hcA : cA = V.2.1.2.2 := Option.some.inj (f1.symm.trans hq4)
  subst hcA
  have K := kk p l e s m args below meth c H1 locs ls X (hS.grow z1 o1) (hP.push z1 o1 (by show H1[H.size]? = _; rw [e1]; rfl)) hL (by omega) hn1 (by omega) hz1
  rw [List.map_cons, ref_new hP, show n + 1 - n0 = n - n0 + 1 by omega, show z + x.toNatClampNeg - z0 = z - z0 + x.toNatClampNeg by omega] at K
  exact K
theorem a_new {idx j : Nat} {C : String} {T : u_T} {N : Nat} {ty : Nat → FieldType} {fs : List Value} (dg : decode I.2.1 pc = .ok (.new idx, 3)) (ci : CI j C T N ty) (hw : Cond.classLink I.1.cls idx C ∈ WT) (hw2 : Cond.instantiable C N ∈ WT) (hw3 : Cond.initialized C ∈ WT) (hfs : ∀ i, i < N → defaultValue (ty i) = vp_V (fs.map (coV V)) i) (hn1 : n + 1 ≤ n0 + R.cells) (hz1 : z + N ≤ z0 + R.slots) (kk : AW V I R Qf n0 z0 (pc + 3) lv (.ref n :: st) (hu h n (.inr (j, fs))) (n + 1) (z + N)) : AW V I R Qf n0 z0 pc lv st h n z := by
  intro p l e s m args below meth c H locs ls X hS hP hL h1 h2 h3 h4
  have hts := X.2.2.2.2.1
  have hKn := X.2.2.2.2.2.2.2.2.1.1 j _ ci.1
  refine W.newcK X.1 X.2.1 X.2.2.2.1 (hts _ hw) (hts _ hw2) (hts _ hw3) rfl dg (by omega) (by omega) hKn.2.1 rfl fun H1 kC hkC e1 z1 o1 => ?_
  have K := kk p l e s m args below meth c H1 locs ls X (hS.grow z1 o1) (hP.push z1 o1 ⟨_, ci.1, (u_born ty hts ci.2.1 hKn hkC e1 ci.2.2.1).to hfs⟩) hL (by omega) hn1 (by omega) hz1
  rw [List.map_cons, ref_new hP, show n + 1 - n0 = n - n0 + 1 by omega, show z + N - z0 = z - z0 + N by omega] at K
  exact K
theorem a_obj {idx a : Nat} (dg : decode I.2.1 pc = .ok (.invokespecial idx, 3)) (hw : Cond.methodLink I.1.cls idx Lib.objectInit ∈ WT) (hw2 : Cond.instanceMethod Lib.objectInit ∈ WT) (hw3 : Cond.code Lib.objectInit ⟨#[0xb1]⟩ 1 none ∈ WT) (hf : 1 ≤ R.frames) (hl : 12 ≤ R.locals) (kk : AW V I R Qf n0 z0 (pc + 3) lv [] h n z) : AW V I R Qf n0 z0 pc lv [.ref a] h n z := by
  intro p l e s m args below meth c H locs ls X hS hP hL h1 h2 h3 h4
  have hts := X.2.2.2.2.1
  refine W.objInit X.1 X.2.1 X.2.2.2.1 (hts _ hw) (hts _ hw2) (hts _ hw3) rfl (by rw [X.2.2.1]; exact hL.1) rfl dg hf ?_ (kk p l e s m args below meth c H locs ls X hS hP hL h1 h2 h3 h4)
  have := lv_room (m := m) (pc := pc) (ls := ls) (rest := []) (st := []) (by decide)
  simpa [JFrame.monitorRoom] using hl
/-! returns -/
theorem Wd.end {V : VV} {I : MI} {p : Program} {s t : State} {m : MethodId} {args : Array Value} {meth : Method} {c : Code} {H : Heap} {locs : List Loc} {h : AH} {n : Nat} (X : Cx V I p s m args meth c) (hS : va_S (Ab V) s.heap H locs) (hP : Pos V h n H) (ht : t.heap = H) (hW : s.WarmedH t.vm) : Wd V h n t := by
  refine ⟨va_K.moved hW.alike X.2.2.2.2.2.2.2.2.1, ?_, by rw [ht]; exact hP⟩
  rw [ht]
  exact (X.2.2.2.2.2.2.2.2.2.1.kept (fun a h1 h2 => hS.2.1 a h1 h2)).moved hW.alike
theorem a_iret {d mc ms : Nat} {r : Option Value} {h' : AH} {n' : Nat} {v : Int32} (dg : decode I.2.1 pc = .ok (.ireturn, 1)) (hr : I.2.2.2 = some .int) (e1 : r = some (.int v)) (e2 : h' = h) (e3 : n' = n) : AW V I (RmM d mc ms) (QM V r h' n' mc ms) n0 z0 pc lv [.int v] h n z := by
  subst e1; subst e2; subst e3
  intro p l e s m args below meth c H locs ls X hS hP hL h1 h2 h3 h4
  refine W.widen (k := mc) (n := ms) (by have : n' ≤ n0 + mc := h2; omega) (by have : z ≤ z0 + ms := h4; omega) ?_
  exact W.iret X.1 X.2.1 (X.2.2.2.2.2.1.trans hr) (fun t ht hW => ⟨rfl, Wd.end X hS hP ht hW, hS.F ht⟩) hS.2.2 dg X.2.2.2.2.2.2.1
theorem a_zret {d mc ms : Nat} {r : Option Value} {h' : AH} {n' : Nat} {v : Int32} (dg : decode I.2.1 pc = .ok (.ireturn, 1)) (hr : I.2.2.2 = some .boolean) (hv : v = 0 ∨ v = 1) (e1 : r = some (.int v)) (e2 : h' = h) (e3 : n' = n) : AW V I (RmM d mc ms) (QM V r h' n' mc ms) n0 z0 pc lv [.int v] h n z := by
  subst e1; subst e2; subst e3
  intro p l e s m args below meth c H locs ls X hS hP hL h1 h2 h3 h4
  refine W.widen (k := mc) (n := ms) (by have : n' ≤ n0 + mc := h2; omega) (by have : z ≤ z0 + ms := h4; omega) ?_
  exact W.zret X.1 X.2.1 (X.2.2.2.2.2.1.trans hr) (by rcases hv with rfl | rfl <;> decide) (fun t ht hW => ⟨rfl, Wd.end X hS hP ht hW, hS.F ht⟩) hS.2.2 dg X.2.2.2.2.2.2.1
theorem a_lret {d mc ms : Nat} {r : Option Value} {h' : AH} {n' : Nat} {v : Int64} (dg : decode I.2.1 pc = .ok (.lreturn, 1)) (hr : I.2.2.2 = some .long) (e1 : r = some (.long v)) (e2 : h' = h) (e3 : n' = n) : AW V I (RmM d mc ms) (QM V r h' n' mc ms) n0 z0 pc lv [.long v] h n z := by
  subst e1; subst e2; subst e3
  intro p l e s m args below meth c H locs ls X hS hP hL h1 h2 h3 h4
  refine W.widen (k := mc) (n := ms) (by have : n' ≤ n0 + mc := h2; omega) (by have : z ≤ z0 + ms := h4; omega) ?_
  exact W.lret X.1 X.2.1 (X.2.2.2.2.2.1.trans hr) (fun t ht hW => ⟨rfl, Wd.end X hS hP ht hW, hS.F ht⟩) hS.2.2 dg X.2.2.2.2.2.2.1
theorem a_vret {d mc ms : Nat} {r : Option Value} {h' : AH} {n' : Nat} (dg : decode I.2.1 pc = .ok (.return_, 1)) (hr : I.2.2.2 = none) (e1 : r = none) (e2 : h' = h) (e3 : n' = n) : AW V I (RmM d mc ms) (QM V r h' n' mc ms) n0 z0 pc lv [] h n z := by
  subst e1; subst e2; subst e3
  intro p l e s m args below meth c H locs ls X hS hP hL h1 h2 h3 h4
  refine W.widen (k := mc) (n := ms) (by have : n' ≤ n0 + mc := h2; omega) (by have : z ≤ z0 + ms := h4; omega) ?_
  exact W.vret X.1 X.2.1 (X.2.2.2.2.2.1.trans hr) (fun t ht hW => ⟨rfl, Wd.end X hS hP ht hW, hS.F ht⟩) hS.2.2 dg X.2.2.2.2.2.2.1
theorem a_aret {d mc ms : Nat} {r : Option Value} {h' : AH} {n' : Nat} {v : Value} {nm : String} (dg : decode I.2.1 pc = .ok (.areturn, 1)) (hr : I.2.2.2 = some (.object nm)) (hv : v = .null ∨ ∃ a, v = .ref a) (e1 : r = some v) (e2 : h' = h) (e3 : n' = n) : AW V I (RmM d mc ms) (QM V r h' n' mc ms) n0 z0 pc lv [v] h n z := by
  subst e1; subst e2; subst e3
  intro p l e s m args below meth c H locs ls X hS hP hL h1 h2 h3 h4
  refine W.widen (k := mc) (n := ms) (by have : n' ≤ n0 + mc := h2; omega) (by have : z ≤ z0 + ms := h4; omega) ?_
  exact W.aret X.1 X.2.1 (X.2.2.2.2.2.1.trans hr) (Or.inl ⟨nm, rfl⟩) (by rcases hv with rfl | ⟨a, rfl⟩; exact Or.inl rfl; exact Or.inr ⟨_, rfl⟩) (fun t ht hW => ⟨rfl, Wd.end X hS hP ht hW, hS.F ht⟩) hS.2.2 dg X.2.2.2.2.2.2.1
/-! calls -/
theorem aw_call {p : Program} {l : Launch} {e : Env} {s : State} {m : MethodId} {args : Array Value} {below : List Frame} {meth : Method} {c : Code} {H : Heap} {locs : List Loc} {ls : Array Slot} {r : Option Value} {h' : AH} {n' z' : Nat} {a : Array Value} {st0 : List Value} {rest : List Value}
    (X : Cx V I p s m args meth c) (hS : va_S (Ab V) s.heap H locs) (hL : Lo V I.2.2.1 ls lv) (h1 : n0 ≤ n) (h3 : z0 ≤ z) (hn : n ≤ n') (hz : z ≤ z') (hn' : n' ≤ n0 + R.cells) (hz' : z' ≤ z0 + R.slots)
    (hr : va_Run p l e R s m args below meth c H locs (n - n0) (z - z0) (n' - n) (z' - z) (F0 m pc ls st0) (rest.map (coV V)) (QcM V r h' n' a) (Ab V))
    (k : AW V I R Qf n0 z0 (pc + 3) lv (r.toList ++ rest) h' n' z') : W p l e R s m args below meth c H locs (n - n0) (z - z0) (Qf below args s) (F0 m pc ls st0) := by
  intro T hT XT
  obtain ⟨v, st₀, t, T', L, e0, X', hL', e1, e2, ⟨hv, hwd, hz1, hk⟩, st⟩ := hr T hT XT
  cases hv
  rw [e0] at hz1 hk
  have hS' : va_S (Ab V) s.heap T'.heap (locs ++ L) := ⟨Nat.le_trans hS.1 (by rw [e1]; exact hz1), fun q q1 q2 => by rw [e1, hk q (Nat.lt_of_lt_of_le q1 hS.1) q2]; exact hS.2.1 q q1 q2, fun q hq => by
    rcases List.mem_append.mp hq with g | g
    · exact hS.2.2 q g
    · exact hL' q g⟩
  have hP' : Pos V h' n' T'.heap := by rw [e1]; exact hwd.2.2
  have K := k p l e s m args below meth c T'.heap (locs ++ L) ls X hS' hP' hL (by omega) hn' (by omega) hz'
  rw [show n' - n0 = n - n0 + (n' - n) by omega, show z' - z0 = z - z0 + (z' - z) by omega] at K
  have es : (r.toList ++ rest).map (coV V) = (r.map (coV V)).toList ++ rest.map (coV V) := by cases r <;> simp
  rw [es] at K
  obtain ⟨t2, a1, b1⟩ := K T' rfl X'
  exact ⟨t2, st t2 a1, b1⟩
theorem r8 {m : MethodId} {ls : Array Slot} {rest : List Value} {st0 : List Value} (h8 : (rest.map fun v => v.category).sum ≤ 8) : 2 * (F0 m pc ls st0).monitorRoom + ((rest.map (coV V)).map fun v => v.category).sum ≤ 8 := by
  refine lv_room (st := rest.map (coV V)) ?_
  have e : (rest.map (coV V)).map (fun v => v.category) = rest.map (fun v => v.category) := by
    rw [List.map_map]
    apply List.map_congr_left
    intro v _
    exact coV_cat V v
  rw [e]
  exact h8
def MC (J : MI) (np : Nat) : Prop := Cond.code J.1 J.2.1 J.2.2.1 J.2.2.2 ∈ WT ∧ Cond.initialized J.1.cls ∈ WT ∧ J.1.cls ≠ "java/lang/invoke/MethodHandle" ∧ J.1.cls ≠ "java/lang/invoke/VarHandle" ∧ (parseMethodDescriptor J.1.desc).map (fun d => d.parameters.length) = some np
theorem MC.good {J : MI} {np : Nat} (c : MC J np) : GoodIn WT (wsM J) := by
  intro w hw
  rcases List.mem_cons.mp hw with rfl | hw
  · exact ⟨c.1, wt_ok c.1⟩
  · exact ⟨hw, wt_ok hw⟩
theorem a_cs {J : MI} {np d idx : Nat} {As rest st0 : List Value} {r : Option Value} {h' : AH} {n' z' : Nat} (dg : decode I.2.1 pc = .ok (.invokestatic idx, 3)) (mc : MC J np) (hs : Cond.static J.1 ∈ WT) (ml : Cond.methodLink I.1.cls idx J.1 ∈ WT) (hM : AMet V J d As h n z r h' n' z') (hst : As.reverse ++ rest = st0) (hp : As.length = np) (hR : d + 1 ≤ R.frames ∧ 8 + (J.2.2.1 + 11) + 40 * d ≤ R.locals) (h8 : (rest.map fun v => v.category).sum ≤ 8) (hn' : n' ≤ n0 + R.cells) (hz' : z' ≤ z0 + R.slots)
    (k : AW V I R Qf n0 z0 (pc + 3) lv (r.toList ++ rest) h' n' z') : AW V I R Qf n0 z0 pc lv st0 h n z := by
  intro p l e s m args below meth c H locs ls X hS hP hL h1 h2 h3 h4
  subst hst
  obtain ⟨g1, g2, hMet⟩ := hM
  have hts := X.2.2.2.2.1
  have cw : CallB R s args I.1.cls idx J.1 J.2.1 J.2.2.1 J.2.2.2 (wsM J) (RmM d (n' - n) (z' - z)) (n' - n) (z' - z) np ∧ (Cond.static J.1).before args s = true :=
    ⟨callB_of np hts mc.good rfl rfl rfl (hts _ mc.2.1) (hts _ ml) ⟨mc.2.2.1, mc.2.2.2.1, mc.2.2.2.2⟩ hR, hts _ hs⟩
  refine aw_call X hS hL h1 h3 g1 g2 hn' hz' (a := (As.map (coV V)).toArray) (va_runS (As := As.map (coV V)) (rest := rest.map (coV V)) ⟨X.1, X.2.1, X.2.2.1, X.2.2.2.1, hts⟩ (hMet l) cw ⟨Wd.blind, fun U hU hW => ⟨rfl, Wd.end X hS hP hU hW⟩⟩ rfl (by rw [List.length_map]; exact hp) hL.1 (by simp) (r8 h8) dg ⟨by omega, by omega⟩) k
theorem a_cv {J : MI} {np d idx j a : Nat} {fs : List Value} {q : vw_C} {As rest st0 : List Value} {r : Option Value} {h' : AH} {n' z' : Nat} (dg : decode I.2.1 pc = .ok (.invokevirtual idx, 3)) (mc : MC J np) (hs : Cond.instanceMethod J.1 ∈ WT ∧ Cond.selects J.1.cls J.1 J.1 ∈ WT) (ml : Cond.methodLink I.1.cls idx J.1 ∈ WT) (hg : h a = .inr (j, fs)) (hc : vwCl[j]? = some q) (hq : q.1 = J.1.cls) (hM : AMet V J d (.ref a :: As) h n z r h' n' z') (hst : As.reverse ++ .ref a :: rest = st0) (hp : As.length = np) (hR : d + 1 ≤ R.frames ∧ 8 + (J.2.2.1 + 11) + 40 * d ≤ R.locals) (h8 : (rest.map fun v => v.category).sum ≤ 8) (hn' : n' ≤ n0 + R.cells) (hz' : z' ≤ z0 + R.slots)
    (k : AW V I R Qf n0 z0 (pc + 3) lv (r.toList ++ rest) h' n' z') : AW V I R Qf n0 z0 pc lv st0 h n z := by
  intro p l e s m args below meth c H locs ls X hS hP hL h1 h2 h3 h4
  subst hst
  obtain ⟨g1, g2, hMet⟩ := hM
  have hts := X.2.2.2.2.1
  have ha := hP.at (nj_o hg)
  have he := wsA_get V h ha.1 ha.2
  rw [hg] at he
  have cw : CallW R s args I.1.cls J.1.cls idx J.1 J.2.1 J.2.2.1 J.2.2.2 (wsM J) (RmM d (n' - n) (z' - z)) (n' - n) (z' - z) np :=
    ⟨callB_of np hts mc.good rfl rfl rfl (hts _ mc.2.1) (hts _ ml) ⟨mc.2.2.1, mc.2.2.2.1, mc.2.2.2.2⟩ hR, hts _ hs.1, hts _ hs.2⟩
  have hrc := va_recv X.2.2.2.2.2.2.2.2.1 hP.2.2.2 hc he
  rw [hq] at hrc
  refine aw_call X hS hL h1 h3 g1 g2 hn' hz' (a := ((.ref a :: As).map (coV V)).toArray) (va_runV (As := As.map (coV V)) (rest := rest.map (coV V)) (b := ad V a) ⟨X.1, X.2.1, X.2.2.1, X.2.2.2.1, hts⟩ (hMet l) cw ⟨Wd.blind, hrc, fun U hU hW => ⟨rfl, Wd.end X hS hP hU hW⟩⟩ rfl (by rw [List.length_map]; exact hp) hL.1 (by simp [coV]) (r8 h8) dg ⟨by omega, by omega⟩) k
theorem a_ci {J : MI} {np d idx a : Nat} {As rest st0 : List Value} {r : Option Value} {h' : AH} {n' z' : Nat} (dg : decode I.2.1 pc = .ok (.invokespecial idx, 3)) (mc : MC J np) (hs : Cond.instanceMethod J.1 ∈ WT ∧ J.1.name = "<init>" ∧ J.2.2.2 = none) (ml : Cond.methodLink I.1.cls idx J.1 ∈ WT) (hM : AMet V J d (.ref a :: As) h n z r h' n' z') (hst : As.reverse ++ .ref a :: rest = st0) (hp : As.length = np) (hR : d + 1 ≤ R.frames ∧ 8 + (J.2.2.1 + 11) + 40 * d ≤ R.locals) (h8 : (rest.map fun v => v.category).sum ≤ 8) (hn' : n' ≤ n0 + R.cells) (hz' : z' ≤ z0 + R.slots)
    (k : AW V I R Qf n0 z0 (pc + 3) lv (r.toList ++ rest) h' n' z') : AW V I R Qf n0 z0 pc lv st0 h n z := by
  intro p l e s m args below meth c H locs ls X hS hP hL h1 h2 h3 h4
  subst hst
  obtain ⟨g1, g2, hMet⟩ := hM
  have hts := X.2.2.2.2.1
  have cb := callB_of (R := R) (own := I.1.cls) (index := idx) (rm := RmM d (n' - n) (z' - z)) np hts mc.good rfl rfl rfl (hts _ mc.2.1) (hts _ ml) ⟨mc.2.2.1, mc.2.2.2.1, mc.2.2.2.2⟩ hR
  rw [hs.2.2] at cb
  refine aw_call X hS hL h1 h3 g1 g2 hn' hz' (a := ((.ref a :: As).map (coV V)).toArray) (va_runI (As := As.map (coV V)) (rest := rest.map (coV V)) (b := ad V a) ⟨X.1, X.2.1, X.2.2.1, X.2.2.2.1, hts⟩ (hMet l) ⟨cb, hs.2.1, hts _ hs.1⟩ ⟨Wd.blind, fun U hU hW => ⟨rfl, Wd.end X hS hP hU hW⟩⟩ rfl (by rw [List.length_map]; exact hp) hL.1 (by simp [coV]) (r8 h8) dg ⟨by omega, by omega⟩) k
end AWMem
