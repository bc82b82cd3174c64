/-! NOTHING IS FILLED off the sheet -/
theorem rZ_le {i : Nat} {u v w M : Int} (hu : u ≤ M) (hv : v ≤ M) (hw : w ≤ M) : rZ i u v w ≤ 32 * M := by
  unfold rZ
  repeat' split
  all_goals omega
section
variable {V : VV} {X Y : Nat → Int} {P nv : Nat} {cn : Nat → Nat} {sh : Int32}
theorem sd_0 {k x y : Nat} (S : Sh X Y) (hx : x < 8) (hy : y < 8) : lb (sdC V X Y P nv cn 0 sh k) (8 * y + x) = crZ (qP 0 X P nv cn k) (qP 0 Y P nv cn k) (qP 0 X P nv cn (k + 1)) (qP 0 Y P nv cn (k + 1)) (32 * (x : Int) + 16) (32 * (y : Int) + 16) := by
  have sx := fun q => qP_sm (kind := 0) (P := P) (nv := nv) (cn := cn) (fun k => ⟨(S k).1, (S k).2.1⟩) q
  have sy := fun q => qP_sm (kind := 0) (P := P) (nv := nv) (cn := cn) (fun k => ⟨(S k).2.2.1, (S k).2.2.2⟩) q
  unfold sdC
  rw [if_pos rfl, i32, i32, i32, i32]
  have q := fun (Z : Nat → Int) q => show qP 0 Z P nv cn q = 32 * vx Z P nv cn q from if_pos rfl
  rw [← q X k, ← q Y k, ← q X (k + 1), ← q Y (k + 1), fRO_cr (sx k) (sy k) (sx (k + 1)) (sy (k + 1)) hx hy]
theorem sd_1s {k x y : Nat} (S : Sh X Y) (hsh : ¬ shC X Y P nv cn sh k = 0) (hx : x < 8) (hy : y < 8) : lb (sdC V X Y P nv cn 1 sh k) (8 * y + x) = (crZ (qP 1 X P nv cn k) (qP 1 Y P nv cn k) (32 * vx X P nv cn k) (32 * vx Y P nv cn k) (32 * (x : Int) + 16) (32 * (y : Int) + 16) ^^ crZ (32 * vx X P nv cn k) (32 * vx Y P nv cn k) (qP 1 X P nv cn (k + 1)) (qP 1 Y P nv cn (k + 1)) (32 * (x : Int) + 16) (32 * (y : Int) + 16)) := by
  have bx := fun q => vx_b (P := P) (nv := nv) (cn := cn) (X := X) (fun k => ⟨(S k).1, (S k).2.1⟩) q
  have by_ := fun q => vx_b (P := P) (nv := nv) (cn := cn) (X := Y) (fun k => ⟨(S k).2.2.1, (S k).2.2.2⟩) q
  have sx := fun q => qP_sm (kind := 1) (P := P) (nv := nv) (cn := cn) (fun k => ⟨(S k).1, (S k).2.1⟩) q
  have sy := fun q => qP_sm (kind := 1) (P := P) (nv := nv) (cn := cn) (fun k => ⟨(S k).2.2.1, (S k).2.2.2⟩) q
  have vxs : Sm (32 * vx X P nv cn k) := Sm_b (by have := bx k; omega)
  have vys : Sm (32 * vx Y P nv cn k) := Sm_b (by have := by_ k; omega)
  unfold sdC fRS
  rw [if_neg (by decide), if_neg hsh, lb_xor, rdX_Z V (by decide), rdX_Z V (by decide), rdX_Z V (by decide), rdX_Z V (by decide), i32, i32]
  have q0 := fun (Z : Nat → Int) => show rZ 0 (vx Z P nv cn (k + nv - 1)) (vx Z P nv cn k) (vx Z P nv cn (k + 1)) = qP 1 Z P nv cn k from by unfold qP; rw [if_neg (by decide)]; rfl
  have q4 := fun (Z : Nat → Int) => show rZ 4 (vx Z P nv cn (k + nv - 1)) (vx Z P nv cn k) (vx Z P nv cn (k + 1)) = qP 1 Z P nv cn (k + 1) from by rw [qP_s]; rfl
  rw [q0 X, q0 Y, q4 X, q4 Y, fRO_cr (sx k) (sy k) vxs vys hx hy, fRO_cr vxs vys (sx (k + 1)) (sy (k + 1)) hx hy]
abbrev r1 (X : Nat → Int) (P nv : Nat) (cn : Nat → Nat) (k i : Nat) : Int := rZ i (vx X P nv cn (k + nv - 1)) (vx X P nv cn k) (vx X P nv cn (k + 1))
theorem sd_1r {k x y : Nat} (S : Sh X Y) (hsh : shC X Y P nv cn sh k = 0) (hx : x < 8) (hy : y < 8) : lb (sdC V X Y P nv cn 1 sh k) (8 * y + x) = (((crZ (r1 X P nv cn k 0) (r1 Y P nv cn k 0) (r1 X P nv cn k 1) (r1 Y P nv cn k 1) (32 * (x : Int) + 16) (32 * (y : Int) + 16) ^^ crZ (r1 X P nv cn k 1) (r1 Y P nv cn k 1) (r1 X P nv cn k 2) (r1 Y P nv cn k 2) (32 * (x : Int) + 16) (32 * (y : Int) + 16)) ^^ crZ (r1 X P nv cn k 2) (r1 Y P nv cn k 2) (r1 X P nv cn k 3) (r1 Y P nv cn k 3) (32 * (x : Int) + 16) (32 * (y : Int) + 16)) ^^ crZ (r1 X P nv cn k 3) (r1 Y P nv cn k 3) (r1 X P nv cn k 4) (r1 Y P nv cn k 4) (32 * (x : Int) + 16) (32 * (y : Int) + 16)) := by
  have bx := fun q => vx_b (P := P) (nv := nv) (cn := cn) (X := X) (fun k => ⟨(S k).1, (S k).2.1⟩) q
  have by_ := fun q => vx_b (P := P) (nv := nv) (cn := cn) (X := Y) (fun k => ⟨(S k).2.2.1, (S k).2.2.2⟩) q
  have rx := fun i => rZ_sm (i := i) (bx (k + nv - 1)) (bx k) (bx (k + 1))
  have ry := fun i => rZ_sm (i := i) (by_ (k + nv - 1)) (by_ k) (by_ (k + 1))
  unfold sdC
  rw [if_neg (by decide), if_pos hsh]
  simp only [fRR]
  rw [lb_xor, lb_xor, lb_xor, lb_xor, lb_0, Bool.false_xor, rdX_Z V (by decide), rdX_Z V (by decide), rdX_Z V (by decide), rdX_Z V (by decide), rdX_Z V (by decide), rdX_Z V (by decide), rdX_Z V (by decide), rdX_Z V (by decide), rdX_Z V (by decide), rdX_Z V (by decide), fRO_cr (rx _) (ry _) (rx _) (ry _) hx hy, fRO_cr (rx _) (ry _) (rx _) (ry _) hx hy, fRO_cr (rx _) (ry _) (rx _) (ry _) hx hy, fRO_cr (rx _) (ry _) (rx _) (ry _) hx hy]
theorem tel3 (a b c d e : Bool) : ((((a ^^ b) ^^ (b ^^ c)) ^^ (c ^^ d)) ^^ (d ^^ e)) = (a ^^ e) := by cases a <;> cases b <;> cases c <;> cases d <;> cases e <;> rfl
theorem tel1 (a b c : Bool) : ((a ^^ b) ^^ (b ^^ c)) = (a ^^ c) := by cases a <;> cases b <;> cases c <;> rfl
theorem sd_far {kind : Int32} (hk : kind = 0 ∨ kind = 1) {W : Nat} (hW : ∀ k, X k ≤ W) {k x y : Nat} (S : Sh X Y) (hx : x < 8) (hy : y < 8) (hxW : W ≤ x) : lb (sdC V X Y P nv cn kind sh k) (8 * y + x) = (decide (qP kind Y P nv cn k < 32 * (y : Int) + 16) ^^ decide (qP kind Y P nv cn (k + 1) < 32 * (y : Int) + 16)) := by
  have vw : ∀ q, vx X P nv cn q ≤ W := fun q => hW _
  rcases hk with rfl | rfl
  · rw [sd_0 S hx hy]
    refine crZ_far ?_ ?_
    · have := vw k
      unfold qP
      rw [if_pos rfl]
      omega
    · have := vw (k + 1)
      unfold qP
      rw [if_pos rfl]
      omega
  · by_cases hsh : shC X Y P nv cn sh k = 0
    · have rl := fun i => rZ_le (i := i) (vw (k + nv - 1)) (vw k) (vw (k + 1))
      have lt : ∀ i, r1 X P nv cn k i < 32 * (x : Int) + 16 := fun i => by have := rl i; unfold r1; omega
      have q0 := show r1 Y P nv cn k 0 = qP 1 Y P nv cn k from by unfold qP; rw [if_neg (by decide)]; rfl
      have q4 := show r1 Y P nv cn k 4 = qP 1 Y P nv cn (k + 1) from by rw [qP_s]; rfl
      rw [sd_1r S hsh hx hy, crZ_far (lt 0) (lt 1), crZ_far (lt 1) (lt 2), crZ_far (lt 2) (lt 3), crZ_far (lt 3) (lt 4), tel3, q0, q4]
    · have l1 : qP 1 X P nv cn k < 32 * (x : Int) + 16 := by
        have := vw k; have := vw (k + nv - 1); unfold qP; rw [if_neg (by decide)]; omega
      have l2 : 32 * vx X P nv cn k < 32 * (x : Int) + 16 := by have := vw k; omega
      have l3 : qP 1 X P nv cn (k + 1) < 32 * (x : Int) + 16 := by
        have := vw k; have := vw (k + 1); rw [qP_s]; omega
      rw [sd_1s S hsh hx hy, crZ_far l1 l2, crZ_far l2 l3, tel1]
theorem sd_low {kind : Int32} (hk : kind = 0 ∨ kind = 1) {H : Nat} (hH : ∀ k, Y k ≤ H) {k x y : Nat} (S : Sh X Y) (hx : x < 8) (hy : y < 8) (hyH : H ≤ y) : lb (sdC V X Y P nv cn kind sh k) (8 * y + x) = false := by
  have vw : ∀ q, vx Y P nv cn q ≤ H := fun q => hH _
  rcases hk with rfl | rfl
  · rw [sd_0 S hx hy]
    refine crZ_low ?_ ?_
    · have := vw k
      unfold qP
      rw [if_pos rfl]
      omega
    · have := vw (k + 1)
      unfold qP
      rw [if_pos rfl]
      omega
  · by_cases hsh : shC X Y P nv cn sh k = 0
    · have rl := fun i => rZ_le (i := i) (vw (k + nv - 1)) (vw k) (vw (k + 1))
      have lt : ∀ i, r1 Y P nv cn k i < 32 * (y : Int) + 16 := fun i => by have := rl i; unfold r1; omega
      rw [sd_1r S hsh hx hy, crZ_low (lt 0) (lt 1), crZ_low (lt 1) (lt 2), crZ_low (lt 2) (lt 3), crZ_low (lt 3) (lt 4)]; rfl
    · have l1 : qP 1 Y P nv cn k < 32 * (y : Int) + 16 := by
        have := vw k; have := vw (k + nv - 1); unfold qP; rw [if_neg (by decide)]; omega
      have l2 : 32 * vx Y P nv cn k < 32 * (y : Int) + 16 := by have := vw k; omega
      have l3 : qP 1 Y P nv cn (k + 1) < 32 * (y : Int) + 16 := by
        have := vw k; have := vw (k + 1); rw [qP_s]; omega
      rw [sd_1s S hsh hx hy, crZ_low l1 l2, crZ_low l2 l3]; rfl
theorem by_far {kind : Int32} (hk : kind = 0 ∨ kind = 1) {W : Nat} (hW : ∀ k, X k ≤ W) {x y : Nat} (S : Sh X Y) (hx : x < 8) (hy : y < 8) (hxW : W ≤ x) : ∀ k, lb (byC V X Y P nv cn kind sh k) (8 * y + x) = (decide (qP kind Y P nv cn 0 < 32 * (y : Int) + 16) ^^ decide (qP kind Y P nv cn k < 32 * (y : Int) + 16))
  | 0 => by rw [show byC V X Y P nv cn kind sh 0 = 0 from rfl, lb_0, Bool.xor_self]
  | k + 1 => by
    show lb (byC V X Y P nv cn kind sh k ^^^ sdC V X Y P nv cn kind sh k) _ = _
    rw [lb_xor, by_far hk hW S hx hy hxW k, sd_far hk hW S hx hy hxW, tel1]
theorem by_low {kind : Int32} (hk : kind = 0 ∨ kind = 1) {H : Nat} (hH : ∀ k, Y k ≤ H) {x y : Nat} (S : Sh X Y) (hx : x < 8) (hy : y < 8) (hyH : H ≤ y) : ∀ k, lb (byC V X Y P nv cn kind sh k) (8 * y + x) = false
  | 0 => by rw [show byC V X Y P nv cn kind sh 0 = 0 from rfl, lb_0]
  | k + 1 => by
    show lb (byC V X Y P nv cn kind sh k ^^^ sdC V X Y P nv cn kind sh k) _ = _
    rw [lb_xor, by_low hk hH S hx hy hyH k, sd_low hk hH S hx hy hyH]; rfl
end
/-- a border's corners lie on the sheet -/
theorem bd_WH {J : Bool} {D : Int64} {t : Nat} (ht : t < 64) (hb : isB J D t = true) {W H : Nat} (hin : Wh W H D) (k : Nat) : bX J D t k ≤ W ∧ bY J D t k ≤ H := by
  have v := bd_Val ht hb k
  have b := v.b
  have q1 := v.2.1
  unfold Qd at q1
  have q := sR_Wh (J := J) hin t (by omega) _ _ q1
  show (wk J (sR J D t) t k).1 ≤ W ∧ (wk J (sR J D t) t k).2.1 ≤ H
  generalize wk J (sR J D t) t k = w at *
  obtain ⟨x, y, d⟩ := w
  simp only at b q ⊢
  rcases b with ⟨e, b⟩ | ⟨e, b⟩ | ⟨e, b⟩ | ⟨e, b⟩ <;> subst e <;> simp [ax, ay] at q <;> omega
theorem by_out {V : VV} {J : Bool} {D : Int64} {t : Nat} (ht : t < 64) (hb : isB J D t = true) {W H : Nat} (hin : Wh W H D) {kind sh : Int32} (hk : kind = 0 ∨ kind = 1) {x y : Nat} (hx : x < 8) (hy : y < 8) (ho : W ≤ x ∨ H ≤ y) : lb (byC V (bX J D t) (bY J D t) (sP J D t) (zN J D t) (zC J D t) kind sh (zN J D t)) (8 * y + x) = false := by
  have S := ((Gd_all J D).2 t ht hb).2.1
  rcases ho with o | o
  · rw [by_far hk (fun k => (bd_WH ht hb hin k).1) S hx hy o, qP_nv (bd_zC ht hb).1, Bool.xor_self]
  · exact by_low hk (fun k => (bd_WH ht hb hin k).2) S hx hy o _
