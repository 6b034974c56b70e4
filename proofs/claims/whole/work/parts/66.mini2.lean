-- where a reduced form takes its least values: entries -1, 0, 1
theorem sq4 {t : Int} (h : ¬ (-1 ≤ t ∧ t ≤ 1)) : 4 ≤ t * t := by
  by_cases q : 0 ≤ t
  · have := Int.mul_le_mul (show (2 : Int) ≤ t by omega) (show (2 : Int) ≤ t by omega) (by omega) (by omega)
    omega
  · have := Int.mul_le_mul (show (2 : Int) ≤ -t by omega) (show (2 : Int) ≤ -t by omega) (by omega) (by omega)
    rw [Int.neg_mul_neg] at this
    omega
theorem two1 {s t : Int} (h1 : (s + t) * (s + t) < 2) (h2 : (s - t) * (s - t) < 2) : s * s + t * t < 2 := by
  have e : (s + t) * (s + t) + (s - t) * (s - t) = 2 * (s * s + t * t) := by grind
  omega
section M2
variable {a b c x y z i j k : Int}
theorem eqN (ha : 1 ≤ a) (hab : a ≤ b) (hbc : b ≤ c) (hx : x ≤ 0) (hy : y ≤ 0) (hz : z ≤ 0) (hxb : -b ≤ x) (hya : -a ≤ y) (hza : -a ≤ z) (hs : 0 ≤ x + y + z + a + b) (n5 : x = -b → z = 0) (n6 : y = -a → z = 0) (hk : k ≠ 0) (hq : qv a b c x y z i j k ≤ c) : (-1 ≤ i ∧ i ≤ 1) ∧ (-1 ≤ j ∧ j ≤ 1) ∧ (-1 ≤ k ∧ k ≤ 1) := by
  have e := idN (a := a) (b := b) (c := c) (x := x) (y := y) (z := z) (i := i) (j := j) (k := k)
  have k1 := sq1 hk
  have hα : 1 ≤ 2 * a + y + z := by omega
  have hβ : 1 ≤ 2 * b + x + z := by omega
  have g1 := pw (p := 2 * c + x + y) (by omega) k1
  have i0 := pw (p := 2 * a + y + z) (by omega) (sq0 i)
  have j0 := pw (p := 2 * b + x + z) (by omega) (sq0 j)
  have d0 := pw (p := -z) (by omega) (sq0 (i - j))
  have hkk : -1 ≤ k ∧ k ≤ 1 := by
    refine Decidable.byContradiction fun hn => ?_
    have k4 := sq4 hn
    have g4 := pw (p := 2 * c + x + y) (by omega) k4
    by_cases ci : i = k
    · have i4 : (2 * a + y + z) * 4 ≤ (2 * a + y + z) * (i * i) := pw (by omega) (by rw [ci]; exact k4)
      by_cases cj : j = k
      · have j4 : (2 * b + x + z) * 4 ≤ (2 * b + x + z) * (j * j) := pw (by omega) (by rw [cj]; exact k4)
        have y0 := pw (p := -y) (by omega) (sq0 (i - k))
        have x0 := pw (p := -x) (by omega) (sq0 (j - k))
        omega
      · have d1 := pw (p := -z) (by omega) (sq1 (show i - j ≠ 0 by omega))
        have x1 := pw (p := -x) (by omega) (sq1 (show j - k ≠ 0 by omega))
        have y0 := pw (p := -y) (by omega) (sq0 (i - k))
        omega
    · have y1 := pw (p := -y) (by omega) (sq1 (show i - k ≠ 0 by omega))
      by_cases cj : j = k
      · have j4 : (2 * b + x + z) * 4 ≤ (2 * b + x + z) * (j * j) := pw (by omega) (by rw [cj]; exact k4)
        have d1 := pw (p := -z) (by omega) (sq1 (show i - j ≠ 0 by omega))
        have x0 := pw (p := -x) (by omega) (sq0 (j - k))
        omega
      · have x1 := pw (p := -x) (by omega) (sq1 (show j - k ≠ 0 by omega))
        by_cases hi0 : i = 0
        · by_cases hj0 : j = 0
          · have y4 : -y * 4 ≤ -y * ((i - k) * (i - k)) := pw (by omega) (by rw [hi0, show (0 - k) * (0 - k) = k * k by grind]; exact k4)
            have x4 : -x * 4 ≤ -x * ((j - k) * (j - k)) := pw (by omega) (by rw [hj0, show (0 - k) * (0 - k) = k * k by grind]; exact k4)
            omega
          · have j1 := pw (p := 2 * b + x + z) (by omega) (sq1 hj0)
            omega
        · have i1 := pw (p := 2 * a + y + z) (by omega) (sq1 hi0)
          omega
  have hii : -1 ≤ i ∧ i ≤ 1 := by
    refine Decidable.byContradiction fun hn => ?_
    have i4 := pw (p := 2 * a + y + z) (by omega) (sq4 hn)
    have y1 := pw (p := -y) (by omega) (sq1 (show i - k ≠ 0 by omega))
    by_cases cj : j = k
    · have j1 : (2 * b + x + z) * 1 ≤ (2 * b + x + z) * (j * j) := pw (by omega) (by rw [cj]; exact k1)
      have d1 := pw (p := -z) (by omega) (sq1 (show i - j ≠ 0 by omega))
      have x0 := pw (p := -x) (by omega) (sq0 (j - k))
      omega
    · have x1 := pw (p := -x) (by omega) (sq1 (show j - k ≠ 0 by omega))
      omega
  have hjj : -1 ≤ j ∧ j ≤ 1 := by
    refine Decidable.byContradiction fun hn => ?_
    have j4 := pw (p := 2 * b + x + z) (by omega) (sq4 hn)
    have x1 := pw (p := -x) (by omega) (sq1 (show j - k ≠ 0 by omega))
    by_cases ci : i = k
    · have i1 : (2 * a + y + z) * 1 ≤ (2 * a + y + z) * (i * i) := pw (by omega) (by rw [ci]; exact k1)
      have d1 := pw (p := -z) (by omega) (sq1 (show i - j ≠ 0 by omega))
      have y0 := pw (p := -y) (by omega) (sq0 (i - k))
      omega
    · have y1 := pw (p := -y) (by omega) (sq1 (show i - k ≠ 0 by omega))
      omega
  exact ⟨hii, hjj, hkk⟩
theorem eqP (hab : a ≤ b) (hbc : b ≤ c) (hx : 0 < x) (hy : 0 < y) (hz : 0 < z) (hxb : x ≤ b) (hya : y ≤ a) (hza : z ≤ a) (hk : k ≠ 0) (hq : qv a b c x y z i j k ≤ c) : (-1 ≤ i ∧ i ≤ 1) ∧ (-1 ≤ j ∧ j ≤ 1) ∧ (-1 ≤ k ∧ k ≤ 1) := by
  have e := idP (a := a) (b := b) (c := c) (x := x) (y := y) (z := z) (i := i) (j := j) (k := k)
  have k1 := sq1 hk
  have g1 := pw (p := 2 * c - x - y) (by omega) k1
  have i0 := pw (p := 2 * a - y - z) (by omega) (sq0 i)
  have j0 := pw (p := 2 * b - x - z) (by omega) (sq0 j)
  have d0 := pw (p := z) (by omega) (sq0 (i + j))
  have y0 := pw (p := y) (by omega) (sq0 (i + k))
  have x0 := pw (p := x) (by omega) (sq0 (j + k))
  have lt2 : ∀ {p s : Int}, 0 < p → p * s < p * 2 → s < 2 := fun {p s} hp h => Int.lt_of_mul_lt_mul_left h (by omega)
  -- two of the squares at most 1 bound i, j, k
  have key : ¬ ((-1 ≤ i ∧ i ≤ 1) ∧ (-1 ≤ j ∧ j ≤ 1) ∧ (-1 ≤ k ∧ k ≤ 1)) → False := by
    intro hn
    by_cases ci : i + k = 0
    · by_cases cj : j + k = 0
      · -- i = j = -k
        have hnk : ¬ (-1 ≤ k ∧ k ≤ 1) := by omega
        have k4 := sq4 hnk
        have ii : i * i = k * k := by rw [show i = -k by omega]; grind
        have jj : j * j = k * k := by rw [show j = -k by omega]; grind
        have i4 : (2 * a - y - z) * 4 ≤ (2 * a - y - z) * (i * i) := pw (by omega) (by omega)
        have j4 : (2 * b - x - z) * 4 ≤ (2 * b - x - z) * (j * j) := pw (by omega) (by omega)
        have d4 : z * 4 ≤ z * ((i + j) * (i + j)) := pw (by omega) (by rw [show (i + j) * (i + j) = 4 * (k * k) by rw [show i = -k by omega, show j = -k by omega]; grind]; omega)
        have g4 := pw (p := 2 * c - x - y) (by omega) k4
        omega
      · have x1 := pw (p := x) (by omega) (sq1 cj)
        have ii : i * i = k * k := by rw [show i = -k by omega]; grind
        have i1 : (2 * a - y - z) * 1 ≤ (2 * a - y - z) * (i * i) := pw (by omega) (by omega)
        by_cases cij : i + j = 0
        · -- j = k
          have jj : j * j = k * k := by rw [show j = k by omega]
          have hnk : ¬ (-1 ≤ k ∧ k ≤ 1) := by omega
          have k4 := sq4 hnk
          have j1 : (2 * b - x - z) * 1 ≤ (2 * b - x - z) * (j * j) := pw (by omega) (by omega)
          have x4 : x * 16 ≤ x * ((j + k) * (j + k)) := pw (by omega) (by rw [show (j + k) * (j + k) = 4 * (k * k) by rw [show j = k by omega]; grind]; omega)
          omega
        · have d1 := pw (p := z) (by omega) (sq1 cij)
          have s1 : (j + k) * (j + k) < 2 := lt2 hx (by omega)
          have s2 : (i + j) * (i + j) < 2 := lt2 hz (by omega)
          have s3 : (j - k) * (j - k) < 2 := by rw [show j - k = i + j by omega]; exact s2
          have := two1 s1 s3
          have hj : -1 ≤ j ∧ j ≤ 1 := by
            refine Decidable.byContradiction fun q => ?_
            have := sq4 q; have := sq0 k; omega
          have hkk : -1 ≤ k ∧ k ≤ 1 := by
            refine Decidable.byContradiction fun q => ?_
            have := sq4 q; have := sq0 j; omega
          exact hn ⟨by omega, hj, hkk⟩
    · have y1 := pw (p := y) (by omega) (sq1 ci)
      by_cases cj : j + k = 0
      · have jj : j * j = k * k := by rw [show j = -k by omega]; grind
        have j1 : (2 * b - x - z) * 1 ≤ (2 * b - x - z) * (j * j) := pw (by omega) (by omega)
        by_cases cij : i + j = 0
        · have ii : i * i = k * k := by rw [show i = k by omega]
          have hnk : ¬ (-1 ≤ k ∧ k ≤ 1) := by omega
          have k4 := sq4 hnk
          have i1 : (2 * a - y - z) * 1 ≤ (2 * a - y - z) * (i * i) := pw (by omega) (by omega)
          have y4 : y * 16 ≤ y * ((i + k) * (i + k)) := pw (by omega) (by rw [show (i + k) * (i + k) = 4 * (k * k) by rw [show i = k by omega]; grind]; omega)
          omega
        · have d1 := pw (p := z) (by omega) (sq1 cij)
          have s1 : (i + k) * (i + k) < 2 := lt2 hy (by omega)
          have s2 : (i + j) * (i + j) < 2 := lt2 hz (by omega)
          have s3 : (i - k) * (i - k) < 2 := by rw [show i - k = i + j by omega]; exact s2
          have := two1 s1 s3
          have hi : -1 ≤ i ∧ i ≤ 1 := by
            refine Decidable.byContradiction fun q => ?_
            have := sq4 q; have := sq0 k; omega
          have hkk : -1 ≤ k ∧ k ≤ 1 := by
            refine Decidable.byContradiction fun q => ?_
            have := sq4 q; have := sq0 i; omega
          exact hn ⟨hi, by omega, hkk⟩
      · have x1 := pw (p := x) (by omega) (sq1 cj)
        have cij : i + j = 0 := by
          refine Decidable.byContradiction fun q => ?_
          have := pw (p := z) (by omega) (sq1 q)
          omega
        have s1 : (i + k) * (i + k) < 2 := lt2 hy (by omega)
        have s2 : (j + k) * (j + k) < 2 := lt2 hx (by omega)
        have s3 : (i - k) * (i - k) < 2 := by
          have : (i - k) * (i - k) = (j + k) * (j + k) := by rw [show j = -i by omega]; grind
          omega
        have := two1 s1 s3
        have hi : -1 ≤ i ∧ i ≤ 1 := by
          refine Decidable.byContradiction fun q => ?_
          have := sq4 q; have := sq0 k; omega
        have hkk : -1 ≤ k ∧ k ≤ 1 := by
          refine Decidable.byContradiction fun q => ?_
          have := sq4 q; have := sq0 i; omega
        exact hn ⟨hi, by omega, hkk⟩
  exact Decidable.byContradiction fun hn => key hn
end M2

