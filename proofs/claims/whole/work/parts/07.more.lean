/-! calls that make nothing; reaching -/
section AWMore
variable {V : VV} {I : MI} {R : Room} {Qf : QF} {n0 z0 pc : Nat} {lv : List (Option Value)} {st : List Value} {h : AH} {n z : Nat}
theorem a_fit (k : n ≤ n0 + R.cells → z ≤ z0 + R.slots → AW V I R Qf n0 z0 pc lv st h n z) : AW V I R Qf n0 z0 pc lv st h n z := by
  intro p l e s m args below meth c H locs ls X hS hP hL h1 h2 h3 h4
  exact k h2 h4 p l e s m args below meth c H locs ls X hS hP hL h1 h2 h3 h4
theorem a_cs0 {J : MI} {np d idx : Nat} {As rest st0 : List Value} {r : Option Value} {h' : AH} (dg : decode I.2.1 pc = .ok (.invokestatic idx, 3)) (mc : MC J np) (hs : Cond.static J.1 ∈ WT) (ml : Cond.methodLink I.1.cls idx J.1 ∈ WT) (hM : AMet V J d As h n z r h' n z) (hst : As.reverse ++ rest = st0) (hp : As.length = np) (hR : d + 1 ≤ R.frames ∧ 8 + (J.2.2.1 + 11) + 40 * d ≤ R.locals) (h8 : (rest.map fun v => v.category).sum ≤ 8)
    (k : AW V I R Qf n0 z0 (pc + 3) lv (r.toList ++ rest) h' n z) : AW V I R Qf n0 z0 pc lv st0 h n z :=
  a_fit fun q1 q2 => a_cs dg mc hs ml hM hst hp hR h8 q1 q2 k
theorem a_cv0 {J : MI} {np d idx j a : Nat} {fs : List Value} {q : vw_C} {As rest st0 : List Value} {r : Option Value} {h' : AH} (dg : decode I.2.1 pc = .ok (.invokevirtual idx, 3)) (mc : MC J np) (hs : Cond.instanceMethod J.1 ∈ WT ∧ Cond.selects J.1.cls J.1 J.1 ∈ WT) (ml : Cond.methodLink I.1.cls idx J.1 ∈ WT) (hg : h a = .inr (j, fs)) (hc : vwCl[j]? = some q) (hq : q.1 = J.1.cls) (hM : AMet V J d (.ref a :: As) h n z r h' n z) (hst : As.reverse ++ .ref a :: rest = st0) (hp : As.length = np) (hR : d + 1 ≤ R.frames ∧ 8 + (J.2.2.1 + 11) + 40 * d ≤ R.locals) (h8 : (rest.map fun v => v.category).sum ≤ 8)
    (k : AW V I R Qf n0 z0 (pc + 3) lv (r.toList ++ rest) h' n z) : AW V I R Qf n0 z0 pc lv st0 h n z :=
  a_fit fun q1 q2 => a_cv dg mc hs ml hg hc hq hM hst hp hR h8 q1 q2 k
end AWMore
theorem sw_cases (x : Int32) (hi : Nat) (h : hi < 100) : (x.toInt < 0 ∨ (hi : Int) < x.toInt) ∨ ∃ j : Nat, j ≤ hi ∧ x = nI j := by
  by_cases h1 : x.toInt < 0
  · exact Or.inl (Or.inl h1)
  · by_cases h2 : (hi : Int) < x.toInt
    · exact Or.inl (Or.inr h2)
    · refine Or.inr ⟨x.toInt.toNat, by omega, ?_⟩
      apply Int32.toInt_inj.mp
      rw [nI_toInt (by omega)]
      omega
/-- from one place of a method's walk to another -/
def Rc (V : VV) (I : MI) (d : Nat) (pc : Nat) (lv : List (Option Value)) (st : List Value) (h : AH) (n z : Nat) (pc' : Nat) (lv' : List (Option Value)) (st' : List Value) (h' : AH) (n' z' : Nat) : Prop :=
  ∀ (mc ms : Nat) (Qf : QF) (n0 z0 : Nat), n' ≤ n0 + mc → z' ≤ z0 + ms → AW V I (RmM d mc ms) Qf n0 z0 pc' lv' st' h' n' z' → AW V I (RmM d mc ms) Qf n0 z0 pc lv st h n z
theorem Rc.rfl {V : VV} {I : MI} {d pc : Nat} {lv : List (Option Value)} {st : List Value} {h : AH} {n z : Nat} : Rc V I d pc lv st h n z pc lv st h n z := fun _ _ _ _ _ _ _ k => k
theorem Rc.use {V : VV} {I : MI} {d pc : Nat} {lv : List (Option Value)} {st : List Value} {h : AH} {n z : Nat} {pc' : Nat} {lv' : List (Option Value)} {st' : List Value} {h' : AH} {mc ms : Nat} {Qf : QF} {n0 z0 : Nat} (r : Rc V I d pc lv st h n z pc' lv' st' h' n z) (k : AW V I (RmM d mc ms) Qf n0 z0 pc' lv' st' h' n z) : AW V I (RmM d mc ms) Qf n0 z0 pc lv st h n z :=
  a_fit fun q1 q2 => r mc ms Qf n0 z0 q1 q2 k
theorem Rc.trans {V : VV} {I : MI} {d pc : Nat} {lv : List (Option Value)} {st : List Value} {h : AH} {n z : Nat} {pc' : Nat} {lv' : List (Option Value)} {st' : List Value} {h' : AH} {pc2 : Nat} {lv2 : List (Option Value)} {st2 : List Value} {h2 : AH} (r : Rc V I d pc lv st h n z pc' lv' st' h' n z) (r2 : Rc V I d pc' lv' st' h' n z pc2 lv2 st2 h2 n z) : Rc V I d pc lv st h n z pc2 lv2 st2 h2 n z :=
  fun mc ms Qf n0 z0 q1 q2 k => r mc ms Qf n0 z0 q1 q2 (r2 mc ms Qf n0 z0 q1 q2 k)
theorem Rc.met {V : VV} {I : MI} {d : Nat} {av : List Value} {h : AH} {n z : Nat} {r : Option Value} {h' : AH} {n' z' : Nat} {lv : List (Option Value)} {pc' : Nat} {lv' : List (Option Value)} {st' : List Value} {h1 : AH} {n1 z1 : Nat} (rc : Rc V I d 0 lv [] h n z pc' lv' st' h1 n1 z1) (hn : n ≤ n') (hz : z ≤ z') (hn1 : n1 ≤ n') (hz1 : z1 ≤ z') (hy : plainName I.1.cls = true) (hl : (lvE av).length ≤ I.2.2.1) (hlv : lvE av ++ List.replicate (I.2.2.1 - (lvE av).length) none = lv)
    (k : AM V I d n z r h' n' z' pc' lv' st' h1 n1 z1) : AMet V I d av h n z r h' n' z' :=
  AMet.intro hn hz hy hl hlv (rc _ _ _ _ _ (by omega) (by omega) k)
/-! ints as whole numbers -/
def iI (z : Int) : Int32 := Int32.ofInt z
theorem iI_toInt {z : Int} (h1 : -2147483648 ≤ z) (h2 : z < 2147483648) : (iI z).toInt = z := Int32.toInt_ofInt_of_le (by simpa using h1) (by simpa using h2)
theorem iI_of (x : Int32) : iI x.toInt = x := Int32.ofInt_toInt x
theorem iI_add (a b : Int) : iI a + iI b = iI (a + b) := (Int32.ofInt_add a b).symm
theorem iI_sub (a b : Int) : iI a - iI b = iI (a - b) := (Int32.ofInt_sub a b).symm
theorem iI_mul (a b : Int) : iI a * iI b = iI (a * b) := (Int32.ofInt_mul a b).symm
theorem iI_neg (a : Int) : - iI a = iI (-a) := (Int32.ofInt_neg a).symm
theorem iI_nat (n : Nat) : nI n = iI n := by
  apply Int32.toInt_inj.mp
  simp [nI, iI]
theorem iI_lt {a b : Int} (h1 : -2147483648 ≤ a) (h2 : a < 2147483648) (h3 : -2147483648 ≤ b) (h4 : b < 2147483648) : iI a < iI b ↔ a < b := by
  rw [Int32.lt_iff_toInt_lt, iI_toInt h1 h2, iI_toInt h3 h4]
theorem iI_le {a b : Int} (h1 : -2147483648 ≤ a) (h2 : a < 2147483648) (h3 : -2147483648 ≤ b) (h4 : b < 2147483648) : iI a ≤ iI b ↔ a ≤ b := by
  rw [Int32.le_iff_toInt_le, iI_toInt h1 h2, iI_toInt h3 h4]
theorem iI_eq {a b : Int} (h1 : -2147483648 ≤ a) (h2 : a < 2147483648) (h3 : -2147483648 ≤ b) (h4 : b < 2147483648) : iI a = iI b ↔ a = b := by
  rw [← Int32.toInt_inj, iI_toInt h1 h2, iI_toInt h3 h4]
theorem iI_cl {a : Int} (h1 : 0 ≤ a) (h2 : a < 2147483648) : (iI a).toNatClampNeg = a.toNat := by
  rw [Int32.toNatClampNeg, iI_toInt (by omega) h2]
theorem iI_in {a : Int} {N : Nat} (h1 : 0 ≤ a) (h2 : a < N) (h3 : a < 2147483648) : vp_in (iI a) N := by
  rw [vp_in_iff, iI_toInt (by omega) h3]
  exact ⟨h1, h2⟩
theorem iI_div {a b : Int} (h1 : -2147483648 < a) (h2 : a < 2147483648) (h3 : -2147483648 ≤ b) (h4 : b < 2147483648) : iI a / iI b = iI (a.tdiv b) := by
  apply Int32.toInt_inj.mp
  rw [Int32.toInt_div, iI_toInt (by omega) h2, iI_toInt h3 h4]
  exact Int32.toInt_ofInt.symm
theorem iI_rem {a b : Int} (h1 : -2147483648 < a) (h2 : a < 2147483648) (h3 : -2147483648 ≤ b) (h4 : b < 2147483648) : iI a - iI a / iI b * iI b = iI (a.tmod b) := by
  rw [iI_div h1 h2 h3 h4, iI_mul, iI_sub]
  congr 1
  have := Int.tmod_add_mul_tdiv a b
  rw [Int.mul_comm] at this
  omega
theorem iI_lit (n : Nat) : (OfNat.ofNat n : Int32) = iI (n : Int) := by
  rw [← iI_nat]; rfl
theorem iI_m1 : (-1 : Int32) = iI (-1) := by decide
theorem iI_0 : (0 : Int32) = iI 0 := by decide
theorem iI_1 : (1 : Int32) = iI 1 := by decide
