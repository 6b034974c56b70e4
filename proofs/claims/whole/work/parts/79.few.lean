-- few vectors below a square
section FW
theorem cK {A B C k1 gl al be et P N Qv : Int} (hB : 1 ≤ B) (hAB : A ≤ B) (hal : 0 ≤ al) (hk : 1 ≤ k1) (hP : et ≤ P) (hgl : gl * B ≤ C) (h1 : (k1 * C - B) * P ≤ k1 * Qv) (h2 : Qv < N) (hN : N ≤ al * A + be * B + et * C) (CK : k1 * (et * gl + al + be) + P ≤ k1 * gl * P) : False := by
  have f2 : al * A ≤ al * B := Int.mul_le_mul_of_nonneg_left hAB hal
  have f1 : k1 * Qv < k1 * (al * B + be * B + et * C) := Int.mul_lt_mul_of_pos_left (by omega) (by omega)
  have f3 : 0 ≤ (k1 * (P - et)) * (C - gl * B) := Int.mul_nonneg (Int.mul_nonneg (by omega) (by omega)) (by omega)
  have f4 : B * (k1 * (et * gl + al + be) + P) ≤ B * (k1 * gl * P) := Int.mul_le_mul_of_nonneg_left CK (by omega)
  grind
theorem cJ {A B C j1 R gh al be et N Qd dd JJ : Int} (hB : 1 ≤ B) (hAB : A ≤ B) (hal : 0 ≤ al) (het : 0 ≤ et) (hj : 0 ≤ j1) (hR : 0 ≤ R) (hgh : C ≤ gh * B) (h1 : j1 * B * (R * dd) ≤ 4 * Qd) (h2 : Qd < 4 * N) (hd : JJ ≤ dd) (hN : N ≤ al * A + be * B + et * C) (CJ : 16 * (al + be + et * gh) ≤ j1 * R * JJ) : False := by
  have f2 : al * A ≤ al * B := Int.mul_le_mul_of_nonneg_left hAB hal
  have f3 : et * C ≤ et * (gh * B) := Int.mul_le_mul_of_nonneg_left hgh het
  have f4 : B * (16 * (al + be + et * gh)) ≤ B * (j1 * R * JJ) := Int.mul_le_mul_of_nonneg_left CJ (by omega)
  have f5 : (j1 * B * R) * JJ ≤ (j1 * B * R) * dd := Int.mul_le_mul_of_nonneg_left hd (Int.mul_nonneg (Int.mul_nonneg hj (by omega)) hR)
  grind
theorem cI {A B C L PP gl gh al be et N Qd dd II : Int} (hA : 1 ≤ A) (hg : 1 ≤ gl) (hbe : 0 ≤ be) (het : 0 ≤ et) (hgh0 : 0 ≤ gh) (hPP : 0 ≤ PP) (hgl : gl * B ≤ C) (hgh : C ≤ gh * B) (hl : B + C ≤ L * A) (h1 : PP * A * dd ≤ Qd) (h2 : Qd < 4 * N) (hd : II ≤ dd) (hN : N ≤ al * A + be * B + et * C) (CI : 4 * (al * (1 + gl) + L * (be + et * gh)) ≤ PP * (1 + gl) * II) : False := by
  have f1 : et * C ≤ et * (gh * B) := Int.mul_le_mul_of_nonneg_left hgh het
  have f0 : 0 ≤ et * gh := Int.mul_nonneg het hgh0
  have f2 : (be + et * gh) * ((1 + gl) * B) ≤ (be + et * gh) * (L * A) := Int.mul_le_mul_of_nonneg_left (by rw [Int.add_mul]; omega) (by omega)
  have f3 : A * (4 * (al * (1 + gl) + L * (be + et * gh))) ≤ A * (PP * (1 + gl) * II) := Int.mul_le_mul_of_nonneg_left CI (by omega)
  have f4 : ((1 + gl) * (PP * A)) * II ≤ ((1 + gl) * (PP * A)) * dd := Int.mul_le_mul_of_nonneg_left hd (Int.mul_nonneg (by omega) (Int.mul_nonneg hPP (by omega)))
  have f5 : (1 + gl) * Qd < (1 + gl) * (4 * (al * A + be * B + et * (gh * B))) := Int.mul_lt_mul_of_pos_left (by omega) (by omega)
  have f6 : (1 + gl) * (PP * A * dd) ≤ (1 + gl) * Qd := Int.mul_le_mul_of_nonneg_left h1 (by omega)
  grind
theorem Q_ijk (q : Z6) (E : E6) (i j k : Int) : Qz (e6 q (hm E)) (i, j, k) = Qz q ((E.1 : Int) * i + E.2.1 * j + E.2.2.2.1 * k, (E.2.2.1 : Int) * j + E.2.2.2.2.1 * k, (E.2.2.2.2.2 : Int) * k) := by
  rw [Q_e6]
  unfold mv hm
  dsimp only
  simp only [Int.zero_mul, Int.zero_add]
theorem par4 (q : Z6) (v w : V3) : Qz q (v.1 - w.1, v.2.1 - w.2.1, v.2.2 - w.2.2) + Qz q (va v w) = 2 * Qz q v + 2 * Qz q w := by
  unfold Qz va qv
  dsimp only
  grind
theorem Qz_ng (q : Z6) (v : V3) : Qz q (-v.1, -v.2.1, -v.2.2) = Qz q v := by
  unfold Qz qv
  dsimp only
  grind
theorem Qz_nn {q : Z6} (h : PDz q) (v : V3) : 0 ≤ Qz q v := by
  obtain ⟨i, j, k⟩ := v
  by_cases c : i ≠ 0 ∨ j ≠ 0 ∨ k ≠ 0
  · exact Int.le_of_lt (h i j k c)
  · rw [show i = 0 by omega, show j = 0 by omega, show k = 0 by omega]
    unfold Qz qv
    dsimp only
    omega
/-- what is known of the reduced cell -/
def LW (A B C x y z : Int) (k1 j1 L : Nat) : Prop := ((1 ≤ A ∧ A ≤ B ∧ B ≤ C) ∧ (-B ≤ x ∧ x ≤ B) ∧ (-A ≤ y ∧ y ≤ A) ∧ (-A ≤ z ∧ z ≤ A)) ∧ ((∀ i j k : Int, ((k1 : Int) * C - B) * (k * k) ≤ k1 * Qz (A, B, C, x, y, z) (i, j, k)) ∧ (∀ i j : Int, (j1 : Int) * B * (j * j) ≤ 4 * Qz (A, B, C, x, y, z) (i, j, 0))) ∧ B + C ≤ L * A
variable {A B C x y z : Int} {k1 j1 L p q r s t u : Nat}
theorem LW.k (h : LW A B C x y z k1 j1 L) (v : V3) : ((k1 : Int) * C - B) * ((u : Int) * u * (v.2.2 * v.2.2)) ≤ k1 * Qz (e6 (A, B, C, x, y, z) (hm (p, q, r, s, t, u))) v := by
  obtain ⟨i, j, k⟩ := v
  rw [Q_ijk]
  have := h.2.1.1 ((p : Int) * i + q * j + s * k) (r * j + t * k) (u * k)
  rw [show ((u : Int) * k) * (u * k) = (u : Int) * u * (k * k) by grind] at this
  exact this
theorem LW.j (h : LW A B C x y z k1 j1 L) (i j : Int) : (j1 : Int) * B * ((r : Int) * r * (j * j)) ≤ 4 * Qz (e6 (A, B, C, x, y, z) (hm (p, q, r, s, t, u))) (i, j, 0) := by
  rw [Q_ijk]
  have := h.2.1.2 ((p : Int) * i + q * j) (r * j)
  rw [show ((r : Int) * j) * (r * j) = (r : Int) * r * (j * j) by grind] at this
  dsimp only
  rw [Int.mul_zero, Int.mul_zero, Int.mul_zero, Int.add_zero, Int.add_zero]
  exact this
theorem Q_i (i : Int) : Qz (e6 (A, B, C, x, y, z) (hm (p, q, r, s, t, u))) (i, 0, 0) = (p : Int) * p * A * (i * i) := by
  rw [Q_ijk]
  unfold Qz qv
  dsimp only
  grind
theorem sqm {m d : Int} (hm : 0 ≤ m) (h : m ≤ d) : m * m ≤ d * d := Int.mul_le_mul h h hm (by omega)
/-- one square, C between gl B and gh B -/
theorem bxU (h : LW A B C x y z k1 j1 L) (hp : PDz (e6 (A, B, C, x, y, z) (hm (p, q, r, s, t, u)))) (hu : 1 ≤ u) (hk : 1 ≤ k1) {gl gh al be et K J I : Nat} (g1 : 1 ≤ gl) (hgl : gl * B ≤ C) (hgh : C ≤ gh * B) (het : et ≤ u * u) {N : Int} (hN : N ≤ al * A + be * B + et * C) (CK : k1 * (et * gl + al + be) + u * u * ((K + 1) * (K + 1)) ≤ k1 * gl * (u * u * ((K + 1) * (K + 1)))) (CJ : 16 * (al + be + et * gh) ≤ j1 * (r * r) * ((J + 1) * (J + 1))) (CI : 4 * (al * (1 + gl) + L * (be + et * gh)) ≤ p * p * (1 + gl) * ((I + 1) * (I + 1))) : Bx (fun v => 0 ≤ v.2.2 ∧ Qz (e6 (A, B, C, x, y, z) (hm (p, q, r, s, t, u))) v < N) K J I := by
  have ck : (k1 : Int) * (et * gl + al + be) + (u : Int) * u * (((K : Int) + 1) * (K + 1)) ≤ k1 * gl * ((u : Int) * u * (((K : Int) + 1) * (K + 1))) := by exact_mod_cast CK
  have cj : 16 * ((al : Int) + be + et * gh) ≤ j1 * ((r : Int) * r) * (((J : Int) + 1) * (J + 1)) := by exact_mod_cast CJ
  have ci : 4 * ((al : Int) * (1 + gl) + L * (be + et * gh)) ≤ (p : Int) * p * (1 + gl) * (((I : Int) + 1) * (I + 1)) := by exact_mod_cast CI
  have et' : (et : Int) ≤ (u : Int) * u := by exact_mod_cast het
  obtain ⟨⟨⟨hA, hAB, hBC⟩, _⟩, _, hl⟩ := id h
  refine ⟨fun v hv => ⟨hv.1, ?_⟩, fun v w hv hw e => ?_⟩
  · apply Decidable.byContradiction
    intro hc
    have kk : ((K : Int) + 1) * (K + 1) ≤ v.2.2 * v.2.2 := sqm (by omega) (by omega)
    have uu : (0 : Int) ≤ (u : Int) * u := Int.mul_nonneg (by omega) (by omega)
    have l1 := LW.k (p := p) (q := q) (r := r) (s := s) (t := t) (u := u) h v
    have f : (u : Int) * u * (((K : Int) + 1) * (K + 1)) ≤ (u : Int) * u * (v.2.2 * v.2.2) := Int.mul_le_mul_of_nonneg_left kk uu
    have kc : (1 : Int) * C ≤ k1 * C := Int.mul_le_mul_of_nonneg_right (by omega) (by omega)
    have f2 : ((k1 : Int) * C - B) * ((u : Int) * u * (((K : Int) + 1) * (K + 1))) ≤ ((k1 : Int) * C - B) * ((u : Int) * u * (v.2.2 * v.2.2)) := Int.mul_le_mul_of_nonneg_left f (by omega)
    have k1' : (1 : Int) ≤ ((K : Int) + 1) * (K + 1) := by
      have := sqm (m := 1) (d := (K : Int) + 1) (by omega) (by omega)
      omega
    have eP : (et : Int) ≤ (u : Int) * u * (((K : Int) + 1) * (K + 1)) := by
      have := Int.mul_le_mul_of_nonneg_left k1' uu
      omega
    exact cK (A := A) (gl := gl) (al := al) (be := be) (et := et) (by omega) hAB (by omega) (by omega) eP hgl (Int.le_trans f2 l1) hv.2 hN ck
  · have pr := par4 (e6 (A, B, C, x, y, z) (hm (p, q, r, s, t, u))) v w
    have nn := Qz_nn hp (va v w)
    have h1 := hv.2
    have h2 := hw.2
    rw [show v.2.2 - w.2.2 = 0 by omega] at pr
    refine ⟨?_, fun e2 => ?_⟩
    · apply Decidable.byContradiction
      intro hc
      have kk : ((J : Int) + 1) * (J + 1) ≤ (v.2.1 - w.2.1) * (v.2.1 - w.2.1) := sqm (by omega) (by omega)
      exact cJ (A := A) (al := al) (be := be) (et := et) (by omega) hAB (by omega) (by omega) (by omega) (Int.mul_nonneg (by omega) (by omega)) hgh (LW.j (p := p) (q := q) (r := r) (s := s) (t := t) (u := u) h (v.1 - w.1) (v.2.1 - w.2.1)) (by omega) kk hN cj
    · rw [show v.2.1 - w.2.1 = 0 by omega] at pr
      apply Decidable.byContradiction
      intro hc
      have kk : ((I : Int) + 1) * (I + 1) ≤ (v.1 - w.1) * (v.1 - w.1) := sqm (by omega) (by omega)
      have qi := Q_i (A := A) (B := B) (C := C) (x := x) (y := y) (z := z) (p := p) (q := q) (r := r) (s := s) (t := t) (u := u) (v.1 - w.1)
      exact cI (al := al) (be := be) (et := et) hA (by omega) (by omega) (by omega) (by omega) (Int.mul_nonneg (by omega) (by omega)) hgl hgh hl (Int.le_of_eq qi.symm) (by omega) kk hN ci
end FW

