/-! THE MODEL's line: printed by wip/whole/t75.py -/
def uZ (f : Nat → Int) (k : Nat) (a : Int) : Nat → Int := fun i => if i = k then a else f i
theorem uZ_s (f : Nat → Int) (k : Nat) (a : Int) : uZ f k a k = a := if_pos rfl
theorem uZ_n {f : Nat → Int} {k i : Nat} {a : Int} (h : i ≠ k) : uZ f k a i = f i := if_neg h
def crF (fx fy : Nat → Int) (x y : Nat) (i : Nat) : Bool := crZ (fx i) (fy i) (fx (i + 1)) (fy (i + 1)) (32 * (x : Int) + 16) (32 * (y : Int) + 16)
/-- a path of n sides, the last of its points not yet written -/
def PTH (n : Nat) (lx ly : Nat → Int32) (fx fy : Nat → Int) (g : Nat → Nat → Bool) : Prop := (∀ i, i < n → lx i = iI (fx i) ∧ ly i = iI (fy i)) ∧ (∀ i, i ≤ n → Sm (fx i) ∧ Sm (fy i)) ∧ ∀ x y, x < 8 → y < 8 → xr (crF fx fy x y) n = g x y
theorem PTH.ext {n : Nat} {lx ly : Nat → Int32} {fx fy : Nat → Int} {g : Nat → Nat → Bool} (T : PTH n lx ly fx fy g) {a b : Int} (ha : Sm a) (hb : Sm b) : PTH (n + 1) (upd lx n (iI (fx n))) (upd ly n (iI (fy n))) (uZ fx (n + 1) a) (uZ fy (n + 1) b) (fun x y => g x y ^^ crZ (fx n) (fy n) a b (32 * (x : Int) + 16) (32 * (y : Int) + 16)) := by
  obtain ⟨t1, t2, t3⟩ := T
  refine ⟨fun i hi => ?_, fun i hi => ?_, fun x y hx hy => ?_⟩
  · rw [uZ_n (by omega), uZ_n (by omega)]
    by_cases e : i = n
    · subst e; rw [pk_us, pk_us]; exact ⟨rfl, rfl⟩
    · rw [pk_un e, pk_un e]; exact t1 i (by omega)
  · by_cases e : i = n + 1
    · subst e; rw [uZ_s, uZ_s]; exact ⟨ha, hb⟩
    · rw [uZ_n e, uZ_n e]; exact t2 i (by omega)
  · show (xr _ n ^^ crF _ _ x y n) = _
    rw [xr_cg (g := crF fx fy x y) (fun i hi => by unfold crF; rw [uZ_n (by omega), uZ_n (by omega), uZ_n (by omega), uZ_n (by omega)]), t3 x y hx hy]
    unfold crF
    rw [uZ_n (by omega), uZ_n (by omega), uZ_s, uZ_s]
/-- where vertex k's part of the line begins -/
def qP (kind : Int32) (X : Nat → Int) (P nv : Nat) (cn : Nat → Nat) (k : Nat) : Int := if kind = 0 then 32 * vx X P nv cn k else 16 * (vx X P nv cn (k + nv - 1) + vx X P nv cn k)
theorem vx_b {X : Nat → Int} {P nv : Nat} {cn : Nat → Nat} (h : ∀ k, 0 ≤ X k ∧ X k ≤ 8) (k : Nat) : 0 ≤ vx X P nv cn k ∧ vx X P nv cn k ≤ 8 := h _
theorem qP_sm {kind : Int32} {X : Nat → Int} {P nv : Nat} {cn : Nat → Nat} (h : ∀ k, 0 ≤ X k ∧ X k ≤ 8) (k : Nat) : Sm (qP kind X P nv cn k) := by
  have a := vx_b (P := P) (nv := nv) (cn := cn) h k
  have b := vx_b (P := P) (nv := nv) (cn := cn) h (k + nv - 1)
  unfold qP Sm
  split <;> omega
theorem qP_nv {kind : Int32} {X : Nat → Int} {P nv : Nat} {cn : Nat → Nat} (hnv : 0 < nv) : qP kind X P nv cn nv = qP kind X P nv cn 0 := by
  have e1 : vx X P nv cn nv = vx X P nv cn 0 := by have := vx_add X P (nv := nv) cn 0; rwa [Nat.zero_add] at this
  have e2 : vx X P nv cn (nv + nv - 1) = vx X P nv cn (0 + nv - 1) := by have := vx_add X P (nv := nv) cn (nv - 1); rwa [show nv - 1 + nv = nv + nv - 1 by omega, show nv - 1 = 0 + nv - 1 by omega] at this
  unfold qP
  rw [e1, e2]
theorem qP_s {X : Nat → Int} {P nv : Nat} {cn : Nat → Nat} (k : Nat) : qP 1 X P nv cn (k + 1) = 16 * (vx X P nv cn k + vx X P nv cn (k + 1)) := by
  unfold qP
  rw [if_neg (by decide), show k + 1 + nv - 1 = k + nv by omega, vx_add]
def LnP (V : VV) (X Y : Nat → Int) (P nv : Nat) (cn : Nat → Nat) (kind sh : Int32) (k n : Nat) (lx ly : Nat → Int32) (fx fy : Nat → Int) : Prop := PTH n lx ly fx fy (fun x y => lb (byC V X Y P nv cn kind sh k) (8 * y + x)) ∧ (fx n = qP kind X P nv cn k ∧ fy n = qP kind Y P nv cn k) ∧ (fx 0 = qP kind X P nv cn 0 ∧ fy 0 = qP kind Y P nv cn 0) ∧ n ≤ 4 * k
theorem LnP.zero (V : VV) {X Y : Nat → Int} {P nv : Nat} {cn : Nat → Nat} {kind sh : Int32} (S : Sh X Y) (lx ly : Nat → Int32) : LnP V X Y P nv cn kind sh 0 0 lx ly (fun _ => qP kind X P nv cn 0) (fun _ => qP kind Y P nv cn 0) := by
  refine ⟨⟨fun i hi => absurd hi (Nat.not_lt_zero _), fun i _ => ⟨qP_sm (fun k => ⟨(S k).1, (S k).2.1⟩) _, qP_sm (fun k => ⟨(S k).2.2.1, (S k).2.2.2⟩) _⟩, fun x y _ _ => ?_⟩, ⟨rfl, rfl⟩, ⟨rfl, rfl⟩, Nat.le_refl _⟩
  show false = lb (byC V X Y P nv cn kind sh 0) _
  rw [show byC V X Y P nv cn kind sh 0 = 0 from rfl, lb_0]
theorem PTH.cg {n : Nat} {lx ly : Nat → Int32} {fx fy : Nat → Int} {g g' : Nat → Nat → Bool} (T : PTH n lx ly fx fy g) (h : ∀ x y, x < 8 → y < 8 → g x y = g' x y) : PTH n lx ly fx fy g' := ⟨T.1, T.2.1, fun x y hx hy => (T.2.2 x y hx hy).trans (h x y hx hy)⟩
/-- the points of a rounded bend -/
def rZ (i : Nat) (u v w : Int) : Int := if i = 0 then 16 * (u + v) else if i = 1 then 9 * u + 22 * v + w else if i = 2 then 4 * u + 24 * v + 4 * w else if i = 3 then u + 22 * v + 9 * w else 16 * (v + w)
theorem rdX_Z (V : VV) {i : Nat} (hi : i ≤ 4) (u v w : Int) : rdX V i (iI u) (iI v) (iI w) = iI (rZ i u v w) := by
  rcases (show i = 0 ∨ i = 1 ∨ i = 2 ∨ i = 3 ∨ i = 4 by omega) with rfl | rfl | rfl | rfl | rfl
  · rw [rdX_0]; simp only [iI_lit, iI_mul, iI_add]; congr 1; simp [rZ]
  · rw [rdX_1]; simp only [iI_lit, iI_mul, iI_add]; congr 1; simp [rZ]; omega
  · rw [rdX_2]; simp only [iI_lit, iI_mul, iI_add]; congr 1; simp [rZ]; omega
  · rw [rdX_3]; simp only [iI_lit, iI_mul, iI_add]; congr 1; simp [rZ]; omega
  · rw [rdX_4]; simp only [iI_lit, iI_mul, iI_add]; congr 1; simp [rZ]
theorem i32 (a : Int) : (32 : Int32) * iI a = iI (32 * a) := by rw [show (32 : Int32) = iI 32 from by decide, iI_mul]
theorem Sm_b {a : Int} (h : 0 ≤ a ∧ a ≤ 256) : Sm a := by unfold Sm; omega
theorem rZ_sm {i : Nat} {u v w : Int} (hu : 0 ≤ u ∧ u ≤ 8) (hv : 0 ≤ v ∧ v ≤ 8) (hw : 0 ≤ w ∧ w ≤ 8) : Sm (rZ i u v w) := by
  refine Sm_b ?_
  unfold rZ
  repeat' split
  all_goals omega
section
variable {V : VV} {X Y : Nat → Int} {P nv : Nat} {cn : Nat → Nat} {sh : Int32} {k n : Nat} {lx ly : Nat → Int32} {fx fy : Nat → Int}
theorem LnP.s0 (S : Sh X Y) (L : LnP V X Y P nv cn 0 sh k n lx ly fx fy) : LnP V X Y P nv cn 0 sh (k + 1) (n + 1) (upd lx n (iI (fx n))) (upd ly n (iI (fy n))) (uZ fx (n + 1) (qP 0 X P nv cn (k + 1))) (uZ fy (n + 1) (qP 0 Y P nv cn (k + 1))) := by
  obtain ⟨T, ⟨e1, e2⟩, ⟨z1, z2⟩, hn⟩ := L
  have sx := fun q => qP_sm (kind := 0) (P := P) (nv := nv) (cn := cn) (fun k => ⟨(S k).1, (S k).2.1⟩) q
  have sy := fun q => qP_sm (kind := 0) (P := P) (nv := nv) (cn := cn) (fun k => ⟨(S k).2.2.1, (S k).2.2.2⟩) q
  refine ⟨(T.ext (sx (k + 1)) (sy (k + 1))).cg (fun x y hx hy => ?_), ⟨uZ_s _ _ _, uZ_s _ _ _⟩, ⟨by rw [uZ_n (by omega), z1], by rw [uZ_n (by omega), z2]⟩, by omega⟩
  show _ = lb (byC V X Y P nv cn 0 sh k ^^^ sdC V X Y P nv cn 0 sh k) _
  rw [lb_xor]
  congr 1
  unfold sdC
  rw [if_pos rfl, i32, i32, i32, i32, e1, e2]
  have q := fun (Z : Nat → Int) q => show qP 0 Z P nv cn q = 32 * vx Z P nv cn q from if_pos rfl
  rw [← q X k, ← q Y k, ← q X (k + 1), ← q Y (k + 1), fRO_cr (sx k) (sy k) (sx (k + 1)) (sy (k + 1)) hx hy]
theorem LnP.s1 (S : Sh X Y) (hsh : ¬ shC X Y P nv cn sh k = 0) (L : LnP V X Y P nv cn 1 sh k n lx ly fx fy) : LnP V X Y P nv cn 1 sh (k + 1) (n + 2) (upd (upd lx n (iI (fx n))) (n + 1) (iI (32 * vx X P nv cn k))) (upd (upd ly n (iI (fy n))) (n + 1) (iI (32 * vx Y P nv cn k))) (uZ (uZ fx (n + 1) (32 * vx X P nv cn k)) (n + 2) (qP 1 X P nv cn (k + 1))) (uZ (uZ fy (n + 1) (32 * vx Y P nv cn k)) (n + 2) (qP 1 Y P nv cn (k + 1))) := by
  obtain ⟨T, ⟨e1, e2⟩, ⟨z1, z2⟩, hn⟩ := L
  have bx := fun q => vx_b (P := P) (nv := nv) (cn := cn) (X := X) (fun k => ⟨(S k).1, (S k).2.1⟩) q
  have by_ := fun q => vx_b (P := P) (nv := nv) (cn := cn) (X := Y) (fun k => ⟨(S k).2.2.1, (S k).2.2.2⟩) q
  have sx := fun q => qP_sm (kind := 1) (P := P) (nv := nv) (cn := cn) (fun k => ⟨(S k).1, (S k).2.1⟩) q
  have sy := fun q => qP_sm (kind := 1) (P := P) (nv := nv) (cn := cn) (fun k => ⟨(S k).2.2.1, (S k).2.2.2⟩) q
  have vxs : Sm (32 * vx X P nv cn k) := Sm_b (by have := bx k; omega)
  have vys : Sm (32 * vx Y P nv cn k) := Sm_b (by have := by_ k; omega)
  have T1 := (T.ext vxs vys).ext (sx (k + 1)) (sy (k + 1))
  rw [uZ_s, uZ_s] at T1
  refine ⟨T1.cg (fun x y hx hy => ?_), ⟨uZ_s _ _ _, uZ_s _ _ _⟩, ⟨by rw [uZ_n (by omega), uZ_n (by omega), z1], by rw [uZ_n (by omega), uZ_n (by omega), z2]⟩, by omega⟩
  show _ = lb (byC V X Y P nv cn 1 sh k ^^^ sdC V X Y P nv cn 1 sh k) _
  rw [lb_xor, Bool.xor_assoc]
  congr 1
  unfold sdC fRS
  rw [if_neg (by decide), if_neg hsh, lb_xor, rdX_Z V (by decide), rdX_Z V (by decide), rdX_Z V (by decide), rdX_Z V (by decide), i32, i32, e1, e2]
  have q0 := fun (Z : Nat → Int) => show rZ 0 (vx Z P nv cn (k + nv - 1)) (vx Z P nv cn k) (vx Z P nv cn (k + 1)) = qP 1 Z P nv cn k from by unfold qP; rw [if_neg (by decide)]; rfl
  have q4 := fun (Z : Nat → Int) => show rZ 4 (vx Z P nv cn (k + nv - 1)) (vx Z P nv cn k) (vx Z P nv cn (k + 1)) = qP 1 Z P nv cn (k + 1) from by rw [qP_s]; rfl
  rw [q0 X, q0 Y, q4 X, q4 Y, fRO_cr (sx k) (sy k) vxs vys hx hy, fRO_cr vxs vys (sx (k + 1)) (sy (k + 1)) hx hy]
theorem LnP.s3 (S : Sh X Y) (hsh : shC X Y P nv cn sh k = 0) (L : LnP V X Y P nv cn 1 sh k n lx ly fx fy) : LnP V X Y P nv cn 1 sh (k + 1) (n + 4)
    (upd (upd (upd (upd lx n (iI (fx n))) (n + 1) (rnC V X P nv cn 1 k)) (n + 2) (rnC V X P nv cn 2 k)) (n + 3) (rnC V X P nv cn 3 k))
    (upd (upd (upd (upd ly n (iI (fy n))) (n + 1) (rnC V Y P nv cn 1 k)) (n + 2) (rnC V Y P nv cn 2 k)) (n + 3) (rnC V Y P nv cn 3 k))
    (uZ (uZ (uZ (uZ fx (n + 1) (rZ 1 (vx X P nv cn (k + nv - 1)) (vx X P nv cn k) (vx X P nv cn (k + 1)))) (n + 2) (rZ 2 (vx X P nv cn (k + nv - 1)) (vx X P nv cn k) (vx X P nv cn (k + 1)))) (n + 3) (rZ 3 (vx X P nv cn (k + nv - 1)) (vx X P nv cn k) (vx X P nv cn (k + 1)))) (n + 4) (qP 1 X P nv cn (k + 1)))
    (uZ (uZ (uZ (uZ fy (n + 1) (rZ 1 (vx Y P nv cn (k + nv - 1)) (vx Y P nv cn k) (vx Y P nv cn (k + 1)))) (n + 2) (rZ 2 (vx Y P nv cn (k + nv - 1)) (vx Y P nv cn k) (vx Y P nv cn (k + 1)))) (n + 3) (rZ 3 (vx Y P nv cn (k + nv - 1)) (vx Y P nv cn k) (vx Y P nv cn (k + 1)))) (n + 4) (qP 1 Y P nv cn (k + 1))) := by
  obtain ⟨T, ⟨e1, e2⟩, ⟨z1, z2⟩, hn⟩ := L
  have bx := fun q => vx_b (P := P) (nv := nv) (cn := cn) (X := X) (fun k => ⟨(S k).1, (S k).2.1⟩) q
  have by_ := fun q => vx_b (P := P) (nv := nv) (cn := cn) (X := Y) (fun k => ⟨(S k).2.2.1, (S k).2.2.2⟩) q
  have sx := fun q => qP_sm (kind := 1) (P := P) (nv := nv) (cn := cn) (fun k => ⟨(S k).1, (S k).2.1⟩) q
  have sy := fun q => qP_sm (kind := 1) (P := P) (nv := nv) (cn := cn) (fun k => ⟨(S k).2.2.1, (S k).2.2.2⟩) q
  have rx := fun i => rZ_sm (i := i) (bx (k + nv - 1)) (bx k) (bx (k + 1))
  have ry := fun i => rZ_sm (i := i) (by_ (k + nv - 1)) (by_ k) (by_ (k + 1))
  have T1 := (((T.ext (rx 1) (ry 1)).ext (rx 2) (ry 2)).ext (rx 3) (ry 3)).ext (sx (k + 1)) (sy (k + 1))
  rw [uZ_s, uZ_s, uZ_s, uZ_s, uZ_s, uZ_s] at T1
  unfold rnC
  rw [rdX_Z V (by decide), rdX_Z V (by decide), rdX_Z V (by decide), rdX_Z V (by decide), rdX_Z V (by decide), rdX_Z V (by decide)]
  refine ⟨T1.cg (fun x y hx hy => ?_), ⟨uZ_s _ _ _, uZ_s _ _ _⟩, ⟨by rw [uZ_n (by omega), uZ_n (by omega), uZ_n (by omega), uZ_n (by omega), z1], by rw [uZ_n (by omega), uZ_n (by omega), uZ_n (by omega), uZ_n (by omega), z2]⟩, by omega⟩
  show _ = lb (byC V X Y P nv cn 1 sh k ^^^ sdC V X Y P nv cn 1 sh k) _
  rw [lb_xor, Bool.xor_assoc, Bool.xor_assoc, Bool.xor_assoc]
  congr 1
  unfold sdC
  rw [if_neg (by decide), if_pos hsh]
  have q0 := fun (Z : Nat → Int) => show rZ 0 (vx Z P nv cn (k + nv - 1)) (vx Z P nv cn k) (vx Z P nv cn (k + 1)) = qP 1 Z P nv cn k from by unfold qP; rw [if_neg (by decide)]; rfl
  have q4 := fun (Z : Nat → Int) => show rZ 4 (vx Z P nv cn (k + nv - 1)) (vx Z P nv cn k) (vx Z P nv cn (k + 1)) = qP 1 Z P nv cn (k + 1) from by rw [qP_s]; rfl
  simp only [fRR]
  rw [lb_xor, lb_xor, lb_xor, lb_xor, lb_0, Bool.false_xor, rdX_Z V (by decide), rdX_Z V (by decide), rdX_Z V (by decide), rdX_Z V (by decide), rdX_Z V (by decide), rdX_Z V (by decide), rdX_Z V (by decide), rdX_Z V (by decide), rdX_Z V (by decide), rdX_Z V (by decide), q0 X, q0 Y, q4 X, q4 Y, fRO_cr (sx k) (sy k) (rx _) (ry _) hx hy, fRO_cr (rx _) (ry _) (rx _) (ry _) hx hy, fRO_cr (rx _) (ry _) (rx _) (ry _) hx hy, fRO_cr (rx _) (ry _) (sx (k + 1)) (sy (k + 1)) hx hy, e1, e2]
  simp only [Bool.xor_assoc]
end

