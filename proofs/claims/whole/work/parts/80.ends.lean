-- the turns of a multiple, where the three squares are of like size
section EN
variable {A B C x y z : Int} {k1 j1 L p q r s t u : Nat}
theorem n1_s : (e6 (A, B, C, x, y, z) (hm (p, q, r, s, t, u))).1 = (p : Int) * p * A := by
  show Qz (A, B, C, x, y, z) ((p : Int), 0, 0) = _
  unfold Qz qv
  dsimp only
  grind
theorem n2_s (h : LW A B C x y z k1 j1 L) (hq : q < p) : (e6 (A, B, C, x, y, z) (hm (p, q, r, s, t, u))).2.1 ≤ (al2 p r : Int) * A + ((r * r : Nat) : Int) * B := by
  show Qz (A, B, C, x, y, z) ((q : Int), (r : Int), 0) ≤ _
  have c1 : q * (q + r) ≤ al2 p r := Nat.mul_le_mul (by omega) (by omega)
  have c2 : (q : Int) * (q + r) ≤ al2 p r := by exact_mod_cast c1
  obtain ⟨⟨⟨hA, _⟩, _, _, hz⟩, _⟩ := h
  have c3 : ((q : Int) * (q + r)) * A ≤ (al2 p r : Int) * A := Int.mul_le_mul_of_nonneg_right c2 (by omega)
  have c4 : ((q : Int) * r) * z ≤ ((q : Int) * r) * A := Int.mul_le_mul_of_nonneg_left hz.2 (Int.mul_nonneg (by omega) (by omega))
  unfold Qz qv
  dsimp only
  rw [Int.natCast_mul]
  grind
theorem n3_s (h : LW A B C x y z k1 j1 L) (hs : s < p) (ht : t < r) : (e6 (A, B, C, x, y, z) (hm (p, q, r, s, t, u))).2.2.1 ≤ (al3 p r u : Int) * A + (be3 r u : Int) * B + ((u * u : Nat) : Int) * C := by
  show Qz (A, B, C, x, y, z) ((s : Int), (t : Int), (u : Int)) ≤ _
  have c1 : s * (s + t + u) ≤ al3 p r u := Nat.mul_le_mul (by omega) (by omega)
  have c2 : (s : Int) * (s + t + u) ≤ al3 p r u := by exact_mod_cast c1
  have d1 : t * (t + u) ≤ be3 r u := Nat.mul_le_mul (by omega) (by omega)
  have d2 : (t : Int) * (t + u) ≤ be3 r u := by exact_mod_cast d1
  obtain ⟨⟨⟨hA, hAB, _⟩, hx, hy, hz⟩, _⟩ := h
  have c3 : ((s : Int) * (s + t + u)) * A ≤ (al3 p r u : Int) * A := Int.mul_le_mul_of_nonneg_right c2 (by omega)
  have d3 : ((t : Int) * (t + u)) * B ≤ (be3 r u : Int) * B := Int.mul_le_mul_of_nonneg_right d2 (by omega)
  have c4 : ((s : Int) * t) * z ≤ ((s : Int) * t) * A := Int.mul_le_mul_of_nonneg_left hz.2 (Int.mul_nonneg (by omega) (by omega))
  have c5 : ((s : Int) * u) * y ≤ ((s : Int) * u) * A := Int.mul_le_mul_of_nonneg_left hy.2 (Int.mul_nonneg (by omega) (by omega))
  have c6 : ((t : Int) * u) * x ≤ ((t : Int) * u) * B := Int.mul_le_mul_of_nonneg_left hx.2 (Int.mul_nonneg (by omega) (by omega))
  unfold Qz qv
  dsimp only
  rw [Int.natCast_mul]
  grind
/-- a value is taken, with the third number not below 0 -/
def VU (qs : Z6) (w : Int) : Prop := ∃ v, Qz qs v = w
theorem VU_s {qs : Z6} {N w : Int} (h : w < N) (hv : VU qs w) : ∃ v : V3, (0 ≤ v.2.2 ∧ Qz qs v < N) ∧ Qz qs v = w := by
  obtain ⟨v, e⟩ := hv
  by_cases c : 0 ≤ v.2.2
  · exact ⟨v, ⟨c, by omega⟩, e⟩
  · exact ⟨(-v.1, -v.2.1, -v.2.2), ⟨by show 0 ≤ -v.2.2; omega, by rw [Qz_ng, e]; exact h⟩, by rw [Qz_ng, e]⟩
theorem VU_d {qs q' : Z6} (h : EQl qs q') : Vd (VU qs) q' := by
  obtain ⟨f, g, h1, _⟩ := h
  have e1 : Qz q' (1, 0, 0) = q'.1 := by unfold Qz qv; dsimp only; omega
  have e2 : Qz q' (0, 1, 0) = q'.2.1 := by unfold Qz qv; dsimp only; omega
  have e3 : Qz q' (0, 0, 1) = q'.2.2.1 := by unfold Qz qv; dsimp only; omega
  exact ⟨⟨f (1, 0, 0), by rw [← h1, e1]⟩, ⟨f (0, 1, 0), by rw [← h1, e2]⟩, ⟨f (0, 0, 1), by rw [← h1, e3]⟩⟩
theorem okU_s {gl gh : Nat} (h : okU k1 j1 L p r u gl gh = true) : ((slO k1 j1 L p r u gl gh (p * p) 0 0 = true ∧ slO k1 j1 L p r u gl gh (al2 p r) (r * r) 0 = true ∧ slO k1 j1 L p r u gl gh (al3 p r u) (be3 r u) (u * u) = true)) ∧ slC k1 j1 L p r u gl gh (p * p) 0 0 + slC k1 j1 L p r u gl gh (al2 p r) (r * r) 0 + slC k1 j1 L p r u gl gh (al3 p r u) (be3 r u) (u * u) ≤ 249990 := by
  unfold okU at h
  rw [Bool.and_eq_true, Bool.and_eq_true, Bool.and_eq_true, decide_eq_true_iff] at h
  exact h
theorem slO_s {gl gh al be et : Nat} (h : slO k1 j1 L p r u gl gh al be et = true) (hw : LW A B C x y z k1 j1 L) (hp : PDz (e6 (A, B, C, x, y, z) (hm (p, q, r, s, t, u)))) (hu : 1 ≤ u) (hk : 1 ≤ k1) (g1 : 1 ≤ gl) (hgl : gl * B ≤ C) (hgh : C ≤ gh * B) (het : et ≤ u * u) {N : Int} (hN : N ≤ al * A + be * B + et * C) : rk (VU (e6 (A, B, C, x, y, z) (hm (p, q, r, s, t, u)))) N ≤ slC k1 j1 L p r u gl gh al be et := by
  unfold slO at h
  rw [Bool.and_eq_true, Bool.and_eq_true, decide_eq_true_iff, decide_eq_true_iff, decide_eq_true_iff] at h
  exact rk_bx (bxU hw hp hu hk g1 hgl hgh het hN h.1 h.2.1 h.2.2) (fun w hw hv => VU_s hw hv)
theorem endU (hw : LW A B C x y z k1 j1 L) (hpd : PDz (A, B, C, x, y, z)) (hp : 1 ≤ p) (hr : 1 ≤ r) (hu : 1 ≤ u) (hq : q < p) (hs : s < p) (ht : t < r) (hk : 1 ≤ k1) {gl gh : Nat} (g1 : 1 ≤ gl) (hgl : gl * B ≤ C) (hgh : C ≤ gh * B) (ok : okU k1 j1 L p r u gl gh = true) : ∃ m, zrun 999964 (e6 (A, B, C, x, y, z) (hm (p, q, r, s, t, u))) = some m := by
  have hP : PDz (e6 (A, B, C, x, y, z) (hm (p, q, r, s, t, u))) := hm_PD hpd hp hr hu
  obtain ⟨⟨o1, o2, o3⟩, ho⟩ := okU_s ok
  have r1 := slO_s (q := q) (s := s) (t := t) o1 hw hP hu hk g1 hgl hgh (by omega) (N := (e6 (A, B, C, x, y, z) (hm (p, q, r, s, t, u))).1) (by rw [n1_s, Int.natCast_mul]; omega)
  have n2 := n2_s (q := q) (s := s) (t := t) (u := u) (r := r) hw hq
  have r2 := slO_s (q := q) (s := s) (t := t) o2 hw hP hu hk g1 hgl hgh (by omega) (N := (e6 (A, B, C, x, y, z) (hm (p, q, r, s, t, u))).2.1) (by omega)
  have r3 := slO_s (q := q) (s := s) (t := t) o3 hw hP hu hk g1 hgl hgh (by omega) (N := (e6 (A, B, C, x, y, z) (hm (p, q, r, s, t, u))).2.2.1) (n3_s hw hs ht)
  refine zrun_msr (V := VU (e6 (A, B, C, x, y, z) (hm (p, q, r, s, t, u)))) (Inv := EQl (e6 (A, B, C, x, y, z) (hm (p, q, r, s, t, u)))) (fun q' h => h.pd hP) (fun q' h => (cl_EQl _).tz h) (fun q' h => VU_d h) 249991 (EQl.rf _) ?_
  unfold msr
  omega
end EN

