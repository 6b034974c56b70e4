-- the least values of a reduced form
def qv (a b c x y z i j k : Int) : Int := a * i * i + b * j * j + c * k * k + x * j * k + y * i * k + z * i * j
theorem sq1 {t : Int} (h : t ≠ 0) : 1 ≤ t * t := by
  rcases Int.lt_or_gt_of_ne h with q | q
  · have := Int.mul_pos_of_neg_of_neg q q; omega
  · have := Int.mul_pos q q; omega
theorem sq0 (t : Int) : 0 ≤ t * t := by
  by_cases h : t = 0
  · rw [h]; decide
  · have := sq1 h; omega
theorem pw {p s n : Int} (hp : 0 ≤ p) (hs : n ≤ s) : p * n ≤ p * s := Int.mul_le_mul_of_nonneg_left hs hp
section MI
variable {a b c x y z i j k : Int}
theorem idN : 2 * qv a b c x y z i j k = -z * ((i - j) * (i - j)) + -y * ((i - k) * (i - k)) + -x * ((j - k) * (j - k)) + (2 * a + y + z) * (i * i) + (2 * b + x + z) * (j * j) + (2 * c + x + y) * (k * k) := by
  unfold qv
  grind
theorem idP : 2 * qv a b c x y z i j k = z * ((i + j) * (i + j)) + y * ((i + k) * (i + k)) + x * ((j + k) * (j + k)) + (2 * a - y - z) * (i * i) + (2 * b - x - z) * (j * j) + (2 * c - x - y) * (k * k) := by
  unfold qv
  grind
/-- negative type: a vector with k is not shorter than c -/
theorem minN3 (hab : a ≤ b) (hbc : b ≤ c) (hx : x ≤ 0) (hy : y ≤ 0) (hz : z ≤ 0) (hxb : -b ≤ x) (hya : -a ≤ y) (hza : -a ≤ z) (hs : 0 ≤ x + y + z + a + b) (hk : k ≠ 0) : c ≤ qv a b c x y z i j k := by
  have e := idN (a := a) (b := b) (c := c) (x := x) (y := y) (z := z) (i := i) (j := j) (k := k)
  have k1 := sq1 hk
  have g1 := pw (p := 2 * c + x + y) (by omega) k1
  have i0 := pw (p := 2 * a + y + z) (by omega) (sq0 i)
  have j0 := pw (p := 2 * b + x + z) (by omega) (sq0 j)
  have d0 := pw (p := -z) (by omega) (sq0 (i - j))
  by_cases ci : i = k
  · by_cases cj : j = k
    · subst ci
      subst cj
      have i1 := pw (p := 2 * a + y + z) (by omega) k1
      have j1 := pw (p := 2 * b + x + z) (by omega) k1
      rw [Int.sub_self, Int.mul_zero, Int.mul_zero, Int.mul_zero, Int.mul_zero] at e
      omega
    · subst ci
      have i1 := pw (p := 2 * a + y + z) (by omega) k1
      have d1 := pw (p := -z) (by omega) (sq1 (show i - j ≠ 0 by omega))
      have x1 := pw (p := -x) (by omega) (sq1 (show j - i ≠ 0 by omega))
      rw [Int.sub_self, Int.mul_zero, Int.mul_zero] at e
      omega
  · have y1 := pw (p := -y) (by omega) (sq1 (show i - k ≠ 0 by omega))
    by_cases cj : j = k
    · subst cj
      have j1 := pw (p := 2 * b + x + z) (by omega) k1
      have d1 := pw (p := -z) (by omega) (sq1 (show i - j ≠ 0 by omega))
      rw [show j - j = 0 by omega, Int.mul_zero, Int.mul_zero] at e
      omega
    · have x1 := pw (p := -x) (by omega) (sq1 (show j - k ≠ 0 by omega))
      omega
/-- positive type -/
theorem minP3 (hab : a ≤ b) (hbc : b ≤ c) (hx : 0 < x) (hy : 0 < y) (hz : 0 < z) (hxb : x ≤ b) (hya : y ≤ a) (hza : z ≤ a) (hk : k ≠ 0) : c ≤ qv a b c x y z i j k := by
  have e := idP (a := a) (b := b) (c := c) (x := x) (y := y) (z := z) (i := i) (j := j) (k := k)
  have k1 := sq1 hk
  have g1 := pw (p := 2 * c - x - y) (by omega) k1
  have i0 := pw (p := 2 * a - y - z) (by omega) (sq0 i)
  have j0 := pw (p := 2 * b - x - z) (by omega) (sq0 j)
  have d0 := pw (p := z) (by omega) (sq0 (i + j))
  by_cases ci : i = -k
  · have ii : i * i = k * k := by rw [ci]; grind
    have i1 : (2 * a - y - z) * 1 ≤ (2 * a - y - z) * (i * i) := pw (by omega) (by omega)
    by_cases cj : j = -k
    · have jj : j * j = k * k := by rw [cj]; grind
      have j1 : (2 * b - x - z) * 1 ≤ (2 * b - x - z) * (j * j) := pw (by omega) (by omega)
      have d4 : z * 4 ≤ z * ((i + j) * (i + j)) := pw (by omega) (by rw [show (i + j) * (i + j) = 4 * (k * k) by rw [ci, cj]; grind]; omega)
      rw [show i + k = 0 by omega, show j + k = 0 by omega, Int.mul_zero, Int.mul_zero, Int.mul_zero] at e
      omega
    · have x1 := pw (p := x) (by omega) (sq1 (show j + k ≠ 0 by omega))
      rw [show i + k = 0 by omega, Int.mul_zero, Int.mul_zero] at e
      by_cases cj2 : j = k
      · have jj : j * j = k * k := by rw [cj2]
        have j1 : (2 * b - x - z) * 1 ≤ (2 * b - x - z) * (j * j) := pw (by omega) (by omega)
        have x4 : x * 4 ≤ x * ((j + k) * (j + k)) := pw (by omega) (by rw [show (j + k) * (j + k) = 4 * (k * k) by rw [cj2]; grind]; omega)
        omega
      · have d1 := pw (p := z) (by omega) (sq1 (show i + j ≠ 0 by omega))
        omega
  · have y1 := pw (p := y) (by omega) (sq1 (show i + k ≠ 0 by omega))
    by_cases cj : j = -k
    · have jj : j * j = k * k := by rw [cj]; grind
      have j1 : (2 * b - x - z) * 1 ≤ (2 * b - x - z) * (j * j) := pw (by omega) (by omega)
      rw [show j + k = 0 by omega, Int.mul_zero, Int.mul_zero] at e
      by_cases ci2 : i = k
      · have ii : i * i = k * k := by rw [ci2]
        have i1 : (2 * a - y - z) * 1 ≤ (2 * a - y - z) * (i * i) := pw (by omega) (by omega)
        have y4 : y * 4 ≤ y * ((i + k) * (i + k)) := pw (by omega) (by rw [show (i + k) * (i + k) = 4 * (k * k) by rw [ci2]; grind]; omega)
        omega
      · have d1 := pw (p := z) (by omega) (sq1 (show i + j ≠ 0 by omega))
        omega
    · have x1 := pw (p := x) (by omega) (sq1 (show j + k ≠ 0 by omega))
      omega
/-- in the plane of the first two -/
theorem min2 (hab : a ≤ b) (ha : 1 ≤ a) (hz1 : -a ≤ z) (hz2 : z ≤ a) (hj : j ≠ 0) : b ≤ qv a b c x y z i j 0 := by
  have e : 2 * qv a b c x y z i j 0 = (if 0 ≤ z then z * ((i + j) * (i + j)) + (2 * a - z) * (i * i) + (2 * b - z) * (j * j) else -z * ((i - j) * (i - j)) + (2 * a + z) * (i * i) + (2 * b + z) * (j * j)) := by
    unfold qv
    split <;> grind
  have j1 := sq1 hj
  by_cases hz : 0 ≤ z
  · rw [if_pos hz] at e
    have i0 := pw (p := 2 * a - z) (by omega) (sq0 i)
    have j2 := pw (p := 2 * b - z) (by omega) j1
    have d0 := pw (p := z) (by omega) (sq0 (i + j))
    by_cases c1 : i + j = 0
    · have ii : i * i = j * j := by rw [show i = -j by omega]; grind
      have i1 : (2 * a - z) * 1 ≤ (2 * a - z) * (i * i) := pw (by omega) (by omega)
      omega
    · have d1 := pw (p := z) (by omega) (sq1 c1)
      omega
  · rw [if_neg hz] at e
    have i0 := pw (p := 2 * a + z) (by omega) (sq0 i)
    have j2 := pw (p := 2 * b + z) (by omega) j1
    have d0 := pw (p := -z) (by omega) (sq0 (i - j))
    by_cases c1 : i - j = 0
    · have ii : i * i = j * j := by rw [show i = j by omega]
      have i1 : (2 * a + z) * 1 ≤ (2 * a + z) * (i * i) := pw (by omega) (by omega)
      omega
    · have d1 := pw (p := -z) (by omega) (sq1 c1)
      omega
/-- a reduced form: what a vector is at least -/
theorem NR_3 (h : NR a b c x y z) (ha : 1 ≤ a) (hk : k ≠ 0) : c ≤ qv a b c x y z i j k := by
  obtain ⟨⟨hab, hbc⟩, _, hs, h5, h6, h7, h8⟩ := h
  have k5 : ¬ (b < zabs x ∨ (x = b ∧ 2 * y < z) ∨ (x = -b ∧ z < 0)) := h5
  have k6 : ¬ (a < zabs y ∨ (y = a ∧ 2 * x < z) ∨ (y = -a ∧ z < 0)) := h6
  have k7 : ¬ (a < zabs z ∨ (z = a ∧ 2 * x < y) ∨ (z = -a ∧ y < 0)) := h7
  have k8 : ¬ (x + y + z + a + b < 0 ∨ (x + y + z + a + b = 0 ∧ 0 < 2 * (a + y) + z)) := h8
  rcases hs with ⟨hx, hy, hz⟩ | ⟨hx, hy, hz⟩
  · have e1 := zabs_p (x := x) (by omega)
    have e2 := zabs_p (x := y) (by omega)
    have e3 := zabs_p (x := z) (by omega)
    exact minP3 hab hbc hx hy hz (by omega) (by omega) (by omega) hk
  · have e1 := zabs_n (x := x) (by omega)
    have e2 := zabs_n (x := y) (by omega)
    have e3 := zabs_n (x := z) (by omega)
    exact minN3 hab hbc hx hy hz (by omega) (by omega) (by omega) (by omega) hk
theorem NR_2 (h : NR a b c x y z) (ha : 1 ≤ a) (hj : j ≠ 0 ∨ k ≠ 0) : b ≤ qv a b c x y z i j k := by
  by_cases hk : k = 0
  · subst hk
    obtain ⟨⟨hab, hbc⟩, _, hs, h5, h6, h7, h8⟩ := h
    have k7 : ¬ (a < zabs z ∨ (z = a ∧ 2 * x < y) ∨ (z = -a ∧ y < 0)) := h7
    have hz : zabs z ≤ a := by omega
    have e3 : -a ≤ z ∧ z ≤ a := by
      by_cases q : 0 ≤ z
      · rw [zabs_p q] at hz; omega
      · rw [zabs_n (by omega)] at hz; omega
    exact min2 hab ha e3.1 e3.2 (by omega)
  · have := NR_3 (i := i) (j := j) h ha hk
    have := h.1.2
    omega
theorem NR_1 (h : NR a b c x y z) (ha : 1 ≤ a) (hn : i ≠ 0 ∨ j ≠ 0 ∨ k ≠ 0) : a ≤ qv a b c x y z i j k := by
  by_cases hj : j ≠ 0 ∨ k ≠ 0
  · have := NR_2 (i := i) h ha hj
    have := h.1.1
    omega
  · have hi : i ≠ 0 := by omega
    rw [show j = 0 by omega, show k = 0 by omega]
    have e : qv a b c x y z i 0 0 = a * (i * i) := by unfold qv; grind
    rw [e]
    have := pw (p := a) (by omega) (sq1 hi)
    omega
end MI

