/-! THE FRAME: an abstract heap (cells by number), an abstract walk AW over it, contracts AMet that are functions of arguments and heap.
Numbers 0 to 6: the class's static int rows; 7: the script; from 8 on: the cells that the law's run makes, in their order. -/
def WT : List Cond := lw_tbl.filter goodWord
theorem wt_t (k : Nat) {w : Cond} (h : tables_1[k]? = some w) (hg : goodWord w = true) : w ∈ WT :=
  List.mem_filter.mpr ⟨List.mem_append_right _ (List.mem_of_getElem? h), hg⟩
theorem wt_s (k : Nat) {w : Cond} (h : (k2_sels lw_privs)[k]? = some w) (hg : goodWord w = true) : w ∈ WT :=
  List.mem_filter.mpr ⟨List.mem_append_left _ (List.mem_of_getElem? h), hg⟩
theorem wt_ok {w : Cond} (h : w ∈ WT) : (w.onTables && w.keeps) = true ∨ ∃ ty, w = .arrayClass ty := good_of_word (List.mem_filter.mp h).2
theorem wt_tbl {w : Cond} (h : w ∈ WT) : w ∈ lw_tbl := (List.mem_filter.mp h).1
abbrev AC : Type := vp_A ⊕ (Nat × List Value)
abbrev AH : Type := Nat → AC
abbrev VV : Type := va_G × (ClassId × ClassId × ClassId) × Nat × (Nat → Nat) × Nat × (Nat → Int32)
abbrev MI : Type := MethodName × ByteArray × Nat × Option FieldType
def vb (V : VV) : Nat := V.2.2.1
def ad (V : VV) (i : Nat) : Nat := if i < 8 then V.2.2.2.1 i else vb V + (i - 8)
def coV (V : VV) : Value → Value
  | .ref i => .ref (ad V i)
  | v => v
theorem coV_int (V : VV) (x : Int32) : coV V (.int x) = .int x := rfl
theorem coV_cat (V : VV) (v : Value) : (coV V v).category = v.category := by cases v <;> rfl
def coE (V : VV) : AC → va_E
  | .inl (n, .inl f) => .inl (V.2.1.1, n, .inl f)
  | .inl (n, .inr (.inl f)) => .inl (V.2.1.2.1, n, .inr (.inl f))
  | .inl (n, .inr (.inr (.inr (.inr f)))) => .inl (V.2.1.2.2, n, .inr (.inr (.inr (.inr (fun j => (f j).map (ad V))))))
  | .inl (n, .inr (.inr (.inl f))) => .inl (V.2.1.1, n, .inr (.inr (.inl f)))
  | .inl (n, .inr (.inr (.inr (.inl f)))) => .inl (V.2.1.1, n, .inr (.inr (.inr (.inl f))))
  | .inr (ci, fs) => .inr (ci, fs.map (coV V))
def jk : AC := .inl (0, .inr (.inr (.inl (fun _ => 0))))
def Ab (V : VV) : Nat → Prop := fun q => vb V ≤ q
def hu (h : AH) (i : Nat) (c : AC) : AH := fun j => if j = i then c else h j
theorem hu_s (h : AH) (i : Nat) (c : AC) : hu h i c i = c := by simp [hu]
theorem hu_n {h : AH} {i j : Nat} {c : AC} (e : j ≠ i) : hu h i c j = h j := by simp [hu, e]
def wsA (V : VV) (h : AH) (n : Nat) : va_W := (List.range (n - 8)).map (fun k => (vb V + k, coE V (h (8 + k))))
def Pos (V : VV) (h : AH) (n : Nat) (H : Heap) : Prop := 8 ≤ n ∧ H.size + 8 = vb V + n ∧ (∀ i, i < 8 ∨ n ≤ i → h i = jk) ∧ va_P V.1 vwCl (wsA V h n) H
theorem ad_ge (V : VV) {a : Nat} (h : 8 ≤ a) : ad V a = vb V + (a - 8) := by simp [ad, Nat.not_lt.mpr h]
theorem wsA_get (V : VV) (h : AH) {n a : Nat} (h1 : 8 ≤ a) (h2 : a < n) : (wsA V h n)[a - 8]? = some (ad V a, coE V (h a)) := by
  simp only [wsA, List.getElem?_map, List.getElem?_range (show a - 8 < n - 8 by omega), Option.map_some]
  rw [ad_ge V h1, show 8 + (a - 8) = a by omega]
theorem wsA_at (V : VV) (h : AH) (n : Nat) {k : Nat} {q : Nat × va_E} (hq : (wsA V h n)[k]? = some q) : k < n - 8 ∧ q = (vb V + k, coE V (h (8 + k))) := by
  simp only [wsA, List.getElem?_map, Option.map_eq_some_iff] at hq
  obtain ⟨j, h1, h2⟩ := hq
  rw [List.getElem?_eq_some_iff] at h1
  obtain ⟨h3, h4⟩ := h1
  simp at h3 h4
  subst h4
  exact ⟨h3, h2.symm⟩
theorem wsA_D (V : VV) (h : AH) (n : Nat) : va_D (Ab V) (wsA V h n) := by
  refine ⟨fun i j p q hi hj e => ?_, fun k q hk => ?_⟩
  · obtain ⟨-, rfl⟩ := wsA_at V h n hi
    obtain ⟨-, rfl⟩ := wsA_at V h n hj
    simp at e
    exact e
  · obtain ⟨-, rfl⟩ := wsA_at V h n hk
    exact Nat.le_add_right _ _
theorem wsA_set (V : VV) (h : AH) {n a : Nat} (c : AC) (h1 : 8 ≤ a) (h2 : a < n) : (wsA V h n).set (a - 8) (ad V a, coE V c) = wsA V (hu h a c) n := by
  apply List.ext_getElem?
  intro k
  by_cases hk : k = a - 8
  · subst hk
    rw [wsA_get V (hu h a c) h1 h2, hu_s, List.getElem?_set_self (by simp [wsA]; omega)]
  · rw [List.getElem?_set_ne (Ne.symm hk)]
    simp only [wsA, List.getElem?_map]
    by_cases hl : k < n - 8
    · rw [List.getElem?_range hl]
      simp only [Option.map_some]
      rw [hu_n (by omega)]
    · rw [List.getElem?_eq_none (by simp; omega)]
      rfl
theorem wsA_push (V : VV) (h : AH) {n : Nat} (c : AC) (h1 : 8 ≤ n) : wsA V h n ++ [(vb V + (n - 8), coE V c)] = wsA V (hu h n c) (n + 1) := by
  unfold wsA
  rw [show n + 1 - 8 = (n - 8) + 1 by omega, List.range_succ, List.map_append]
  congr 1
  · apply List.map_congr_left
    intro k hk
    simp at hk
    rw [hu_n (by omega)]
  · simp only [List.map_cons, List.map_nil]
    rw [show 8 + (n - 8) = n by omega, hu_s]
theorem Pos.at {V : VV} {h : AH} {n : Nat} {H : Heap} (P : Pos V h n H) {a : Nat} (hj : h a ≠ jk) : 8 ≤ a ∧ a < n := by
  refine ⟨?_, ?_⟩
  · exact Nat.not_lt.mp fun q => hj (P.2.2.1 a (Or.inl q))
  · exact Nat.not_le.mp fun q => hj (P.2.2.1 a (Or.inr q))
theorem nj_o {h : AH} {a ci : Nat} {fs : List Value} (e : h a = .inr (ci, fs)) : h a ≠ jk := by rw [e]; intro q; cases q
theorem nj_i {h : AH} {a N : Nat} {f : Nat → Int32} (e : h a = .inl (N, .inl f)) : h a ≠ jk := by rw [e]; intro q; cases q
theorem nj_l {h : AH} {a N : Nat} {f : Nat → Int64} (e : h a = .inl (N, .inr (.inl f))) : h a ≠ jk := by rw [e]; intro q; cases q
theorem nj_q {h : AH} {a N : Nat} {f : Nat → Option Nat} (e : h a = .inl (N, .inr (.inr (.inr (.inr f))))) : h a ≠ jk := by rw [e]; intro q; cases q
theorem Pos.put {V : VV} {h : AH} {n : Nat} {H H1 : Heap} {a : Nat} {c : AC} (P : Pos V h n H) (h1 : 8 ≤ a) (h2 : a < n) (hs : H1.size = H.size) (hP : va_P V.1 vwCl ((wsA V h n).set (a - 8) (ad V a, coE V c)) H1) : Pos V (hu h a c) n H1 := by
  refine ⟨P.1, by rw [hs]; exact P.2.1, fun i hi => ?_, by rw [wsA_set V h c h1 h2] at hP; exact hP⟩
  rw [hu_n (by omega)]
  exact P.2.2.1 i hi
theorem va_Sz {A : Nat → Prop} {D : va_G} {cl : List vw_C} {ws : va_W} {H : Heap} (hP : va_P D cl ws H) {k : Nat} {q : Nat × va_E} (hq : ws[k]? = some q) : q.1 < H.size := (hP k q hq).lt
/-! the static rows -/
def sC : Nat → String
  | 4 => "DotOutlines$Bend"
  | 5 => "DotOutlines$Bend"
  | 6 => "DotOutlines$Bend"
  | _ => "DotOutlines$Borders"
def sN : Nat → String
  | 0 => "STEP_X"
  | 1 => "STEP_Y"
  | 2 => "AHEAD_X"
  | 3 => "AHEAD_Y"
  | 4 => "PART_BEFORE"
  | 5 => "PART_OWN"
  | _ => "PART_BEHIND"
def tL (V : VV) : Nat → Nat
  | 0 => 4
  | 1 => 4
  | 2 => 4
  | 3 => 4
  | 4 => 5
  | 5 => 5
  | 6 => 5
  | _ => V.2.2.2.2.1
def tF (V : VV) : Nat → Nat → Int32
  | 0 => fun j => ([1, 0, -1, 0] : List Int32).getD j 0
  | 1 => fun j => ([0, 1, 0, -1] : List Int32).getD j 0
  | 2 => fun j => ([0, 0, -1, -1] : List Int32).getD j 0
  | 3 => fun j => ([-1, 0, 0, -1] : List Int32).getD j 0
  | 4 => fun j => ([16, 9, 4, 1, 0] : List Int32).getD j 0
  | 5 => fun j => ([0, 6, 8, 6, 0] : List Int32).getD j 0
  | 6 => fun j => ([0, 1, 4, 9, 16] : List Int32).getD j 0
  | _ => V.2.2.2.2.2
def Sta (V : VV) (U : State) (H : Heap) : Prop := (∀ k, k < 7 → va_Z (sC k) (sN k) "[I" (.ref (V.2.2.2.1 k)) (Ab V) U H) ∧ (∀ k, k < 8 → va_T .int (V.2.2.2.1 k) (tL V k) (fun j => .int (tF V k j)) (Ab V) U H) ∧ va_AO "DotOutlines$Border" U
def tys3 (V : VV) : List (ClassId × FieldType) := [(V.2.1.1, .int), (V.2.1.2.1, .long), (V.2.1.2.2, .object "DotOutlines$Border")]
def Wd (V : VV) (h : AH) (n : Nat) (U : State) : Prop := va_K V.1 vwCl (tys3 V) U ∧ Sta V U U.heap ∧ Pos V h n U.heap
theorem Sta.moved {V : VV} {u U : State} {H : Heap} (hvm : u.vm.Alike U.vm) (S : Sta V u H) : Sta V U H := ⟨fun k hk => (S.1 k hk).moved hvm, fun k hk => (S.2.1 k hk).moved hvm, S.2.2.moved hvm⟩
theorem Sta.kept {V : VV} {U : State} {H H1 : Heap} (S : Sta V U H) (hq : ∀ a : Nat, a < H.size → ¬ Ab V a → H1[a]? = H[a]?) : Sta V U H1 := ⟨fun k hk => (S.1 k hk).kept hq, fun k hk => (S.2.1 k hk).kept hq, S.2.2⟩
/-! the walk -/
def Cx (V : VV) (I : MI) (p : Program) (s : State) (m : MethodId) (args : Array Value) (meth : Method) (c : Code) : Prop :=
  p.tables.exec = Jvm.exec ∧ c.code = I.2.1 ∧ c.maxLocals = I.2.2.1 ∧ s.vm.findClass I.1.cls = some m.cls ∧ (∀ w ∈ WT, w.before args s = true) ∧ meth.sig.returnType = I.2.2.2 ∧ meth.locks = false ∧ meth.name = I.1.name ∧ va_K V.1 vwCl (tys3 V) s ∧ Sta V s s.heap ∧ vb V ≤ s.heap.size
def Lo (V : VV) (nL : Nat) (ls : Array Slot) (lv : List (Option Value)) : Prop := ls.size = nL ∧ lv_wf ls ∧ ∀ (i : Nat) (v : Value), lv[i]? = some (some v) → ls[i]? = some (.val (coV V v))
abbrev QF : Type := List Frame → Array Value → State → State → Prop
def AW (V : VV) (I : MI) (R : Room) (Qf : QF) (n0 z0 pc : Nat) (lv : List (Option Value)) (st : List Value) (h : AH) (n z : Nat) : Prop :=
  ∀ (p : Program) (l : Launch) (e : Env) (s : State) (m : MethodId) (args : Array Value) (below : List Frame) (meth : Method) (c : Code) (H : Heap) (locs : List Loc) (ls : Array Slot),
    Cx V I p s m args meth c → va_S (Ab V) s.heap H locs → Pos V h n H → Lo V I.2.2.1 ls lv → n0 ≤ n → n ≤ n0 + R.cells → z0 ≤ z → z ≤ z0 + R.slots →
    W p l e R s m args below meth c H locs (n - n0) (z - z0) (Qf below args s) (F0 m pc ls (st.map (coV V)))
def RmM (d mc ms : Nat) : Room := { frames := d, cells := mc, slots := ms, locals := 40 * d }
def QcM (V : VV) (r : Option Value) (h' : AH) (n' : Nat) : Array Value → State → Outcome → State → Prop := fun _ st oc t => oc = .returned (r.map (coV V)) ∧ Wd V h' n' t ∧ va_F (Ab V) st t
def QM (V : VV) (r : Option Value) (h' : AH) (n' mc ms : Nat) : QF := fun below args s => MQ below (QcM V r h' n') args s mc ms (Ab V)
abbrev AM (V : VV) (I : MI) (d n0 z0 : Nat) (r : Option Value) (h' : AH) (n' z' pc : Nat) (lv : List (Option Value)) (st : List Value) (h : AH) (n z : Nat) : Prop :=
  AW V I (RmM d (n' - n0) (z' - z0)) (QM V r h' n' (n' - n0) (z' - z0)) n0 z0 pc lv st h n z
def wsM (I : MI) : List Cond := .code I.1 I.2.1 I.2.2.1 I.2.2.2 :: WT
def AMet (V : VV) (I : MI) (d : Nat) (av : List Value) (h : AH) (n z : Nat) (r : Option Value) (h' : AH) (n' z' : Nat) : Prop :=
  n ≤ n' ∧ z ≤ z' ∧ ∀ l : Launch, Met l I.1 (wsM I) (RmM d (n' - n) (z' - z)) (va_Pc (av.map (coV V)) (Wd V h n)) (QcM V r h' n') (n' - n) (z' - z) (Ab V)
/-! the locals at a method's entry -/
def lvE : List Value → List (Option Value)
  | [] => []
  | .long x :: vs => some (.long x) :: none :: lvE vs
  | .double x :: vs => some (.double x) :: none :: lvE vs
  | v :: vs => some v :: lvE vs
theorem lvE_args (V : VV) : ∀ (vs : List Value) (o i : Nat) (v : Value), (lvE vs)[i]? = some (some v) → (o + i, coV V v) ∈ lv_args o (vs.map (coV V))
  | [], o, i, v, h => by simp [lvE] at h
  | .long x :: vs, o, i, v, h => by
    cases i with
    | zero => simp [lvE] at h; subst h; simp [lv_args, coV]
    | succ i =>
      cases i with
      | zero => simp [lvE] at h
      | succ i =>
        simp [lvE] at h
        have := lvE_args V vs (o + 2) i v h
        rw [show o + 2 + i = o + (i + 1 + 1) by omega] at this
        exact List.mem_cons_of_mem _ this
  | .double x :: vs, o, i, v, h => by
    cases i with
    | zero => simp [lvE] at h; subst h; simp [lv_args, coV]
    | succ i =>
      cases i with
      | zero => simp [lvE] at h
      | succ i =>
        simp [lvE] at h
        have := lvE_args V vs (o + 2) i v h
        rw [show o + 2 + i = o + (i + 1 + 1) by omega] at this
        exact List.mem_cons_of_mem _ this
  | .int x :: vs, o, i, v, h => by
    cases i with
    | zero => simp [lvE] at h; subst h; simp [lv_args, coV]
    | succ i =>
      simp [lvE] at h
      have := lvE_args V vs (o + 1) i v h
      rw [show o + 1 + i = o + (i + 1) by omega] at this
      exact List.mem_cons_of_mem _ this
  | .float x :: vs, o, i, v, h => by
    cases i with
    | zero => simp [lvE] at h; subst h; simp [lv_args, coV]
    | succ i =>
      simp [lvE] at h
      have := lvE_args V vs (o + 1) i v h
      rw [show o + 1 + i = o + (i + 1) by omega] at this
      exact List.mem_cons_of_mem _ this
  | .null :: vs, o, i, v, h => by
    cases i with
    | zero => simp [lvE] at h; subst h; simp [lv_args, coV]
    | succ i =>
      simp [lvE] at h
      have := lvE_args V vs (o + 1) i v h
      rw [show o + 1 + i = o + (i + 1) by omega] at this
      exact List.mem_cons_of_mem _ this
  | .ref x :: vs, o, i, v, h => by
    cases i with
    | zero => simp [lvE] at h; subst h; simp [lv_args, coV]
    | succ i =>
      simp [lvE] at h
      have := lvE_args V vs (o + 1) i v h
      rw [show o + 1 + i = o + (i + 1) by omega] at this
      exact List.mem_cons_of_mem _ this
  | .retAddr x :: vs, o, i, v, h => by
    cases i with
    | zero => simp [lvE] at h; subst h; simp [lv_args, coV]
    | succ i =>
      simp [lvE] at h
      have := lvE_args V vs (o + 1) i v h
      rw [show o + 1 + i = o + (i + 1) by omega] at this
      exact List.mem_cons_of_mem _ this
theorem lgs_len (V : VV) : ∀ vs : List Value, (lg_sl (vs.map (coV V))).length = (lvE vs).length
  | [] => rfl
  | v :: vs => by
    have ih := lgs_len V vs
    have e : lg_sl ((v :: vs).map (coV V)) = lg_sl [coV V v] ++ lg_sl (vs.map (coV V)) := by simp [lg_sl]
    rw [e, List.length_append, ih]
    cases v <;> simp [lg_sl, coV, lvE, Value.category] <;> omega
theorem Lo.entry (V : VV) (av : List Value) {nL : Nat} (hl : (lvE av).length ≤ nL) : Lo V nL ((lg_sl (av.map (coV V)) ++ List.replicate (nL - (lg_sl (av.map (coV V))).length) Slot.unset).toArray) (lvE av ++ List.replicate (nL - (lvE av).length) none) := by
  have h := lv_entry (av.map (coV V)) (n := nL) (by rw [lgs_len]; exact hl)
  refine ⟨h.1, h.2.1, fun i v hi => ?_⟩
  by_cases hlt : i < (lvE av).length
  · rw [List.getElem?_append_left hlt] at hi
    have := h.2.2 _ (lvE_args V av 0 i v hi)
    simpa using this
  · rw [List.getElem?_append_right (by omega)] at hi
    have := List.eq_of_mem_replicate (List.mem_of_getElem? hi)
    cases this
theorem Wd.blind {V : VV} {av : List Value} {h : AH} {n : Nat} : FrameBlind (va_Pc av (Wd V h n)) := by
  intro a U g mk q
  obtain ⟨q1, q2, q3, q4⟩ := q
  exact ⟨q1, va_K.moved (u := U) (U := U.calling g mk a) (Vm.Alike.refl U.vm) q2, Sta.moved (u := U) (U := U.calling g mk a) (Vm.Alike.refl U.vm) q3, q4⟩
theorem AMet.intro {V : VV} {I : MI} {d : Nat} {av : List Value} {h : AH} {n z : Nat} {r : Option Value} {h' : AH} {n' z' : Nat} {lv : List (Option Value)} (hn : n ≤ n') (hz : z ≤ z') (hy : plainName I.1.cls = true) (hl : (lvE av).length ≤ I.2.2.1) (hlv : lvE av ++ List.replicate (I.2.2.1 - (lvE av).length) none = lv)
    (k : AM V I d n z r h' n' z' 0 lv [] h n z) : AMet V I d av h n z r h' n' z' := by
  refine ⟨hn, hz, fun l => ?_⟩
  refine Met.ofW (cc := I.2.1) (maxL := I.2.2.1) (ret := I.2.2.2) hy rfl ?_
  intro p e s m args below meth c s₁ B hml hv
  obtain ⟨rfl, hK, hS, hP⟩ := hv
  have hts := atoms_spec (ws := wsM I) B.pre
  have hown : s.vm.findClass I.1.cls = some m.cls := findClass_of_methodNamed B.named
  have hb : vb V ≤ s.heap.size := by have := hP.2.1; have := hP.1; omega
  have X : Cx V I p s m (av.map (coV V)).toArray meth c := ⟨B.exec, B.bytes, hml, hown, fun w hw => hts w (List.mem_cons_of_mem _ hw), B.returns, B.notSynchronized, (name_of_methodNamed B.named B.method).1, hK, hS, hb⟩
  have hL := Lo.entry V av hl
  rw [hlv] at hL
  rw [lg_entry_eq]
  have K := k p l e s m (av.map (coV V)).toArray below meth c s.heap [] _ X va_S.rf hP hL (Nat.le_refl _) (Nat.le_add_right _ _) (Nat.le_refl _) (Nat.le_add_right _ _)
  rw [Nat.sub_self, Nat.sub_self] at K
  exact K
