-- lower bounds of a reduced form by its squares
section FO
variable {a b c x y z i j k : Int}
theorem mn0 {p t : Int} (hp : 0 ≤ p) : 0 ≤ p * (t * t) := Int.mul_nonneg hp (sq0 t)
theorem l3N (hab : a ≤ b) (hx : x ≤ 0) (hy : y ≤ 0) (hz : z ≤ 0) (hxb : -b ≤ x) (hya : -a ≤ y) (hza : -a ≤ z) (hs : 0 ≤ x + y + z + a + b) : (2 * c - b) * (k * k) ≤ 2 * qv a b c x y z i j k := by
  have g1 : 0 ≤ -z * ((i - j) * (i - j)) := mn0 (by omega)
  by_cases h : -x - y ≤ b
  · have g2 : 0 ≤ -y * ((i - k) * (i - k)) := mn0 (by omega)
    have g3 : 0 ≤ -x * ((j - k) * (j - k)) := mn0 (by omega)
    have g4 : 0 ≤ (2 * a + y + z) * (i * i) := mn0 (by omega)
    have g5 : 0 ≤ (2 * b + x + z) * (j * j) := mn0 (by omega)
    have g6 : 0 ≤ (b + x + y) * (k * k) := mn0 (by omega)
    unfold qv
    grind
  · have g2 : 0 ≤ (-y - (-x - y - b)) * ((i - k) * (i - k)) := mn0 (by omega)
    have g3 : 0 ≤ (-x - (-x - y - b)) * ((j - k) * (j - k)) := mn0 (by omega)
    have g4 : 0 ≤ (2 * a + y + z - (-x - y - b)) * (i * i) := mn0 (by omega)
    have g5 : 0 ≤ (2 * b + x + z - (-x - y - b)) * (j * j) := mn0 (by omega)
    have g6 : 0 ≤ (-x - y - b) * ((i + j - k) * (i + j - k)) := mn0 (by omega)
    have g7 : 0 ≤ (-x - y - b) * ((i - j) * (i - j)) := mn0 (by omega)
    unfold qv
    grind
theorem l3P (ha : 0 ≤ a) (hab : a ≤ b) (hx : 0 < x) (hy : 0 < y) (hz : 0 < z) (hxb : x ≤ b) (hya : y ≤ a) (hza : z ≤ a) : (2 * c - b) * (k * k) ≤ 2 * qv a b c x y z i j k := by
  by_cases h1 : 0 ≤ i * j
  · have g1 : 0 ≤ z * (i * j) := Int.mul_nonneg (by omega) h1
    by_cases h : x + y ≤ b
    · have g2 : 0 ≤ y * ((i + k) * (i + k)) := mn0 (by omega)
      have g3 : 0 ≤ x * ((j + k) * (j + k)) := mn0 (by omega)
      have g4 : 0 ≤ (2 * a - y) * (i * i) := mn0 (by omega)
      have g5 : 0 ≤ (2 * b - x) * (j * j) := mn0 (by omega)
      have g6 : 0 ≤ (b - x - y) * (k * k) := mn0 (by omega)
      unfold qv
      grind
    · have g2 : 0 ≤ (y - (x + y - b)) * ((i + k) * (i + k)) := mn0 (by omega)
      have g3 : 0 ≤ (x - (x + y - b)) * ((j + k) * (j + k)) := mn0 (by omega)
      have g4 : 0 ≤ (2 * a - y - (x + y - b)) * (i * i) := mn0 (by omega)
      have g5 : 0 ≤ (2 * b - x - (x + y - b)) * (j * j) := mn0 (by omega)
      have g6 : 0 ≤ (x + y - b) * ((i + j + k) * (i + j + k)) := mn0 (by omega)
      have g7 : 0 ≤ (x + y - b) * ((i - j) * (i - j)) := mn0 (by omega)
      unfold qv
      grind
  · have g1 : 0 ≤ (a - z) * -(i * j) := Int.mul_nonneg (by omega) (by omega)
    by_cases h2 : 0 ≤ i * k
    · have g2 : 0 ≤ y * (i * k) := Int.mul_nonneg (by omega) h2
      have g3 : 0 ≤ a * ((i + j) * (i + j)) := mn0 (by omega)
      have g4 : 0 ≤ a * (i * i) := mn0 (by omega)
      have g5 : 0 ≤ (b - a) * (j * j) := mn0 (by omega)
      have g6 : 0 ≤ x * ((j + k) * (j + k)) := mn0 (by omega)
      have g7 : 0 ≤ (b - x) * (j * j) := mn0 (by omega)
      have g8 : 0 ≤ (b - x) * (k * k) := mn0 (by omega)
      unfold qv
      grind
    · have g2 : 0 ≤ (a - y) * -(i * k) := Int.mul_nonneg (by omega) (by omega)
      by_cases h3 : 0 ≤ j * k
      · have g3 : 0 ≤ x * (j * k) := Int.mul_nonneg (by omega) h3
        have g4 : 0 ≤ a * ((i + j) * (i + j)) := mn0 (by omega)
        have g5 : 0 ≤ a * ((i + k) * (i + k)) := mn0 (by omega)
        have g6 : 0 ≤ a * (j * j) := mn0 (by omega)
        have g7 : 0 ≤ (b - a) * (j * j) := mn0 (by omega)
        have g8 : 0 ≤ (b - a) * (k * k) := mn0 (by omega)
        unfold qv
        grind
      · have g3 : 0 ≤ (b - x) * -(j * k) := Int.mul_nonneg (by omega) (by omega)
        have g4 : 0 ≤ a * ((i + (j + k)) * (i + (j + k))) := mn0 (by omega)
        have g5 : 0 ≤ a * (i * i) := mn0 (by omega)
        have g6 : 0 ≤ (b - a) * ((j + k) * (j + k)) := mn0 (by omega)
        have g7 : 0 ≤ b * (j * j) := mn0 (by omega)
        unfold qv
        grind
theorem NR_l3 (h : NR a b c x y z) (ha : 1 ≤ a) : (2 * c - b) * (k * k) ≤ 2 * qv a b c x y z i j k := by
  obtain ⟨⟨hab, hbc⟩, _, hs, h5, h6, h7, h8⟩ := h
  have k5 : ¬ (b < zabs x ∨ (x = b ∧ 2 * y < z) ∨ (x = -b ∧ z < 0)) := h5
  have k6 : ¬ (a < zabs y ∨ (y = a ∧ 2 * x < z) ∨ (y = -a ∧ z < 0)) := h6
  have k7 : ¬ (a < zabs z ∨ (z = a ∧ 2 * x < y) ∨ (z = -a ∧ y < 0)) := h7
  have k8 : ¬ (x + y + z + a + b < 0 ∨ (x + y + z + a + b = 0 ∧ 0 < 2 * (a + y) + z)) := h8
  rcases hs with ⟨hx, hy, hz⟩ | ⟨hx, hy, hz⟩
  · have e1 := zabs_p (x := x) (by omega)
    have e2 := zabs_p (x := y) (by omega)
    have e3 := zabs_p (x := z) (by omega)
    exact l3P (by omega) hab hx hy hz (by omega) (by omega) (by omega)
  · have e1 := zabs_n (x := x) (by omega)
    have e2 := zabs_n (x := y) (by omega)
    have e3 := zabs_n (x := z) (by omega)
    exact l3N hab hx hy hz (by omega) (by omega) (by omega) (by omega)
/-- the mixed numbers of a reduced form are no larger than the squares -/
theorem NR_m (h : NR a b c x y z) : (a ≤ b ∧ b ≤ c) ∧ (-b ≤ x ∧ x ≤ b) ∧ (-a ≤ y ∧ y ≤ a) ∧ (-a ≤ z ∧ z ≤ a) := by
  obtain ⟨⟨hab, hbc⟩, _, hs, h5, h6, h7, h8⟩ := h
  have k5 : ¬ (b < zabs x ∨ (x = b ∧ 2 * y < z) ∨ (x = -b ∧ z < 0)) := h5
  have k6 : ¬ (a < zabs y ∨ (y = a ∧ 2 * x < z) ∨ (y = -a ∧ z < 0)) := h6
  have k7 : ¬ (a < zabs z ∨ (z = a ∧ 2 * x < y) ∨ (z = -a ∧ y < 0)) := h7
  rcases hs with ⟨hx, hy, hz⟩ | ⟨hx, hy, hz⟩
  · have e1 := zabs_p (x := x) (by omega)
    have e2 := zabs_p (x := y) (by omega)
    have e3 := zabs_p (x := z) (by omega)
    omega
  · have e1 := zabs_n (x := x) (by omega)
    have e2 := zabs_n (x := y) (by omega)
    have e3 := zabs_n (x := z) (by omega)
    omega
theorem l2 (ha : 0 ≤ a) (hab : a ≤ b) (h1 : -a ≤ z) (h2 : z ≤ a) : 3 * b * (j * j) ≤ 4 * qv a b c x y z i j 0 := by
  by_cases h : 0 ≤ i * j
  · have g1 : 0 ≤ (z + a) * (i * j) := Int.mul_nonneg (by omega) h
    have g2 : 0 ≤ a * ((2 * i - j) * (2 * i - j)) := mn0 (by omega)
    have g3 : 0 ≤ (b - a) * (j * j) := mn0 (by omega)
    unfold qv
    grind
  · have g1 : 0 ≤ (a - z) * -(i * j) := Int.mul_nonneg (by omega) (by omega)
    have g2 : 0 ≤ a * ((2 * i + j) * (2 * i + j)) := mn0 (by omega)
    have g3 : 0 ≤ (b - a) * (j * j) := mn0 (by omega)
    unfold qv
    grind
theorem l3o (ha : 0 ≤ a) (h1 : -b ≤ x) (h2 : x ≤ b) : (4 * c - b) * (k * k) ≤ 4 * qv a b c x 0 0 i j k := by
  have g0 : 0 ≤ a * (i * i) := mn0 ha
  by_cases h : 0 ≤ j * k
  · have g1 : 0 ≤ (x + b) * (j * k) := Int.mul_nonneg (by omega) h
    have g2 : 0 ≤ b * ((2 * j - k) * (2 * j - k)) := mn0 (by omega)
    unfold qv
    grind
  · have g1 : 0 ≤ (b - x) * -(j * k) := Int.mul_nonneg (by omega) (by omega)
    have g2 : 0 ≤ b * ((2 * j + k) * (2 * j + k)) := mn0 (by omega)
    unfold qv
    grind
theorem l2o (ha : 0 ≤ a) : 4 * b * (j * j) ≤ 4 * qv a b c x 0 0 i j 0 := by
  have g0 : 0 ≤ a * (i * i) := mn0 ha
  unfold qv
  grind
end FO

