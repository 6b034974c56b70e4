-- the least value on each kind mod 2
theorem sq4 {t : Int} (h : ¬ (-1 ≤ t ∧ t ≤ 1)) : 4 ≤ t * t := by
  by_cases q : 0 ≤ t
  · have := Int.mul_le_mul (show (2 : Int) ≤ t by omega) (show (2 : Int) ≤ t by omega) (by omega) (by omega)
    omega
  · have := Int.mul_le_mul (show (2 : Int) ≤ -t by omega) (show (2 : Int) ≤ -t by omega) (by omega) (by omega)
    rw [Int.neg_mul_neg] at this
    omega
theorem ob (t : Int) : t % 2 ≤ t * t := by
  by_cases h : t % 2 = 0
  · rw [h]; exact sq0 t
  · have := sq1 (show t ≠ 0 by omega)
    omega
theorem ev4 {t : Int} (h : t % 2 = 0) (hn : t ≠ 0) : 4 ≤ t * t := sq4 (by omega)
def mn3 (x y z : Int) : Int := if x ≤ y then (if x ≤ z then x else z) else (if y ≤ z then y else z)
def mu (x y z : Int) : Int := if 0 < x then 2 * mn3 x y z else 0
/-- the least value of a reduced form on the kind of i j k -/
def mo (a b c x y z i j k : Int) : Int :=
  if i % 2 = 0 then (if j % 2 = 0 then (if k % 2 = 0 then 0 else c) else (if k % 2 = 0 then b else b + c - zabs x))
  else (if j % 2 = 0 then (if k % 2 = 0 then a else a + c - zabs y) else (if k % 2 = 0 then a + b - zabs z else a + b + c - zabs x - zabs y - zabs z + mu x y z))
section MOD
variable {a b c x y z i j k : Int}
theorem mo_cases (P : Int → Prop) (hn : ¬ (i % 2 = 0 ∧ j % 2 = 0 ∧ k % 2 = 0)) (h100 : i % 2 = 1 → j % 2 = 0 → k % 2 = 0 → P (a)) (h010 : i % 2 = 0 → j % 2 = 1 → k % 2 = 0 → P (b)) (h001 : i % 2 = 0 → j % 2 = 0 → k % 2 = 1 → P (c)) (h110 : i % 2 = 1 → j % 2 = 1 → k % 2 = 0 → P (a + b - zabs z)) (h101 : i % 2 = 1 → j % 2 = 0 → k % 2 = 1 → P (a + c - zabs y)) (h011 : i % 2 = 0 → j % 2 = 1 → k % 2 = 1 → P (b + c - zabs x)) (h111 : i % 2 = 1 → j % 2 = 1 → k % 2 = 1 → P (a + b + c - zabs x - zabs y - zabs z + mu x y z)) : P (mo a b c x y z i j k) := by
  unfold mo
  by_cases hi : i % 2 = 0
  · rw [if_pos hi]
    by_cases hj : j % 2 = 0
    · rw [if_pos hj]
      by_cases hk : k % 2 = 0
      · exact absurd ⟨hi, hj, hk⟩ hn
      · rw [if_neg hk]; exact h001 hi hj (by omega)
    · rw [if_neg hj]
      by_cases hk : k % 2 = 0
      · rw [if_pos hk]; exact h010 hi (by omega) hk
      · rw [if_neg hk]; exact h011 hi (by omega) (by omega)
  · rw [if_neg hi]
    by_cases hj : j % 2 = 0
    · rw [if_pos hj]
      by_cases hk : k % 2 = 0
      · rw [if_pos hk]; exact h100 (by omega) hj hk
      · rw [if_neg hk]; exact h101 (by omega) hj (by omega)
    · rw [if_neg hj]
      by_cases hk : k % 2 = 0
      · rw [if_pos hk]; exact h110 (by omega) (by omega) hk
      · rw [if_neg hk]; exact h111 (by omega) (by omega) (by omega)
theorem lbN (hab : a ≤ b) (hbc : b ≤ c) (hx : x ≤ 0) (hy : y ≤ 0) (hz : z ≤ 0) (hxb : -b ≤ x) (hya : -a ≤ y) (hza : -a ≤ z) (hn : ¬ (i % 2 = 0 ∧ j % 2 = 0 ∧ k % 2 = 0)) : mo a b c x y z i j k ≤ qv a b c x y z i j k := by
  have e := idN (a := a) (b := b) (c := c) (x := x) (y := y) (z := z) (i := i) (j := j) (k := k)
  have ex := zabs_n hx
  have ey := zabs_n hy
  have ez' := zabs_n hz
  have em : mu x y z = 0 := if_neg (by omega)
  refine mo_cases (fun v => v ≤ qv a b c x y z i j k) hn ?_ ?_ ?_ ?_ ?_ ?_ ?_
  · intro hi hj hk
    have f0 := pw (p := -z) (by omega) (ob (i - j))
    rw [show (i - j) % 2 = 1 by omega] at f0
    have f1 := pw (p := -y) (by omega) (ob (i - k))
    rw [show (i - k) % 2 = 1 by omega] at f1
    have f2 := pw (p := -x) (by omega) (ob (j - k))
    rw [show (j - k) % 2 = 0 by omega] at f2
    have f3 := pw (p := 2 * a + y + z) (by omega) (ob (i))
    rw [show (i) % 2 = 1 by omega] at f3
    have f4 := pw (p := 2 * b + x + z) (by omega) (ob (j))
    rw [show (j) % 2 = 0 by omega] at f4
    have f5 := pw (p := 2 * c + x + y) (by omega) (ob (k))
    rw [show (k) % 2 = 0 by omega] at f5
    show a ≤ _
    omega
  · intro hi hj hk
    have f0 := pw (p := -z) (by omega) (ob (i - j))
    rw [show (i - j) % 2 = 1 by omega] at f0
    have f1 := pw (p := -y) (by omega) (ob (i - k))
    rw [show (i - k) % 2 = 0 by omega] at f1
    have f2 := pw (p := -x) (by omega) (ob (j - k))
    rw [show (j - k) % 2 = 1 by omega] at f2
    have f3 := pw (p := 2 * a + y + z) (by omega) (ob (i))
    rw [show (i) % 2 = 0 by omega] at f3
    have f4 := pw (p := 2 * b + x + z) (by omega) (ob (j))
    rw [show (j) % 2 = 1 by omega] at f4
    have f5 := pw (p := 2 * c + x + y) (by omega) (ob (k))
    rw [show (k) % 2 = 0 by omega] at f5
    show b ≤ _
    omega
  · intro hi hj hk
    have f0 := pw (p := -z) (by omega) (ob (i - j))
    rw [show (i - j) % 2 = 0 by omega] at f0
    have f1 := pw (p := -y) (by omega) (ob (i - k))
    rw [show (i - k) % 2 = 1 by omega] at f1
    have f2 := pw (p := -x) (by omega) (ob (j - k))
    rw [show (j - k) % 2 = 1 by omega] at f2
    have f3 := pw (p := 2 * a + y + z) (by omega) (ob (i))
    rw [show (i) % 2 = 0 by omega] at f3
    have f4 := pw (p := 2 * b + x + z) (by omega) (ob (j))
    rw [show (j) % 2 = 0 by omega] at f4
    have f5 := pw (p := 2 * c + x + y) (by omega) (ob (k))
    rw [show (k) % 2 = 1 by omega] at f5
    show c ≤ _
    omega
  · intro hi hj hk
    have f0 := pw (p := -z) (by omega) (ob (i - j))
    rw [show (i - j) % 2 = 0 by omega] at f0
    have f1 := pw (p := -y) (by omega) (ob (i - k))
    rw [show (i - k) % 2 = 1 by omega] at f1
    have f2 := pw (p := -x) (by omega) (ob (j - k))
    rw [show (j - k) % 2 = 1 by omega] at f2
    have f3 := pw (p := 2 * a + y + z) (by omega) (ob (i))
    rw [show (i) % 2 = 1 by omega] at f3
    have f4 := pw (p := 2 * b + x + z) (by omega) (ob (j))
    rw [show (j) % 2 = 1 by omega] at f4
    have f5 := pw (p := 2 * c + x + y) (by omega) (ob (k))
    rw [show (k) % 2 = 0 by omega] at f5
    show a + b - zabs z ≤ _
    omega
  · intro hi hj hk
    have f0 := pw (p := -z) (by omega) (ob (i - j))
    rw [show (i - j) % 2 = 1 by omega] at f0
    have f1 := pw (p := -y) (by omega) (ob (i - k))
    rw [show (i - k) % 2 = 0 by omega] at f1
    have f2 := pw (p := -x) (by omega) (ob (j - k))
    rw [show (j - k) % 2 = 1 by omega] at f2
    have f3 := pw (p := 2 * a + y + z) (by omega) (ob (i))
    rw [show (i) % 2 = 1 by omega] at f3
    have f4 := pw (p := 2 * b + x + z) (by omega) (ob (j))
    rw [show (j) % 2 = 0 by omega] at f4
    have f5 := pw (p := 2 * c + x + y) (by omega) (ob (k))
    rw [show (k) % 2 = 1 by omega] at f5
    show a + c - zabs y ≤ _
    omega
  · intro hi hj hk
    have f0 := pw (p := -z) (by omega) (ob (i - j))
    rw [show (i - j) % 2 = 1 by omega] at f0
    have f1 := pw (p := -y) (by omega) (ob (i - k))
    rw [show (i - k) % 2 = 1 by omega] at f1
    have f2 := pw (p := -x) (by omega) (ob (j - k))
    rw [show (j - k) % 2 = 0 by omega] at f2
    have f3 := pw (p := 2 * a + y + z) (by omega) (ob (i))
    rw [show (i) % 2 = 0 by omega] at f3
    have f4 := pw (p := 2 * b + x + z) (by omega) (ob (j))
    rw [show (j) % 2 = 1 by omega] at f4
    have f5 := pw (p := 2 * c + x + y) (by omega) (ob (k))
    rw [show (k) % 2 = 1 by omega] at f5
    show b + c - zabs x ≤ _
    omega
  · intro hi hj hk
    have f0 := pw (p := -z) (by omega) (ob (i - j))
    rw [show (i - j) % 2 = 0 by omega] at f0
    have f1 := pw (p := -y) (by omega) (ob (i - k))
    rw [show (i - k) % 2 = 0 by omega] at f1
    have f2 := pw (p := -x) (by omega) (ob (j - k))
    rw [show (j - k) % 2 = 0 by omega] at f2
    have f3 := pw (p := 2 * a + y + z) (by omega) (ob (i))
    rw [show (i) % 2 = 1 by omega] at f3
    have f4 := pw (p := 2 * b + x + z) (by omega) (ob (j))
    rw [show (j) % 2 = 1 by omega] at f4
    have f5 := pw (p := 2 * c + x + y) (by omega) (ob (k))
    rw [show (k) % 2 = 1 by omega] at f5
    show a + b + c - zabs x - zabs y - zabs z + mu x y z ≤ _
    omega
theorem mn3_le (x y z : Int) : mn3 x y z ≤ x ∧ mn3 x y z ≤ y ∧ mn3 x y z ≤ z := by
  unfold mn3
  split <;> split <;> omega
theorem lbP (hab : a ≤ b) (hbc : b ≤ c) (hx : 0 < x) (hy : 0 < y) (hz : 0 < z) (hxb : x ≤ b) (hya : y ≤ a) (hza : z ≤ a) (hn : ¬ (i % 2 = 0 ∧ j % 2 = 0 ∧ k % 2 = 0)) : mo a b c x y z i j k ≤ qv a b c x y z i j k := by
  have e := idP (a := a) (b := b) (c := c) (x := x) (y := y) (z := z) (i := i) (j := j) (k := k)
  have ex := zabs_p (x := x) (by omega)
  have ey := zabs_p (x := y) (by omega)
  have ez' := zabs_p (x := z) (by omega)
  have em : mu x y z = 2 * mn3 x y z := if_pos hx
  have ml := mn3_le x y z
  refine mo_cases (fun v => v ≤ qv a b c x y z i j k) hn ?_ ?_ ?_ ?_ ?_ ?_ ?_
  · intro hi hj hk
    have f0 := pw (p := z) (by omega) (ob (i + j))
    rw [show (i + j) % 2 = 1 by omega] at f0
    have f1 := pw (p := y) (by omega) (ob (i + k))
    rw [show (i + k) % 2 = 1 by omega] at f1
    have f2 := pw (p := x) (by omega) (ob (j + k))
    rw [show (j + k) % 2 = 0 by omega] at f2
    have f3 := pw (p := 2 * a - y - z) (by omega) (ob (i))
    rw [show (i) % 2 = 1 by omega] at f3
    have f4 := pw (p := 2 * b - x - z) (by omega) (ob (j))
    rw [show (j) % 2 = 0 by omega] at f4
    have f5 := pw (p := 2 * c - x - y) (by omega) (ob (k))
    rw [show (k) % 2 = 0 by omega] at f5
    show a ≤ _
    omega
  · intro hi hj hk
    have f0 := pw (p := z) (by omega) (ob (i + j))
    rw [show (i + j) % 2 = 1 by omega] at f0
    have f1 := pw (p := y) (by omega) (ob (i + k))
    rw [show (i + k) % 2 = 0 by omega] at f1
    have f2 := pw (p := x) (by omega) (ob (j + k))
    rw [show (j + k) % 2 = 1 by omega] at f2
    have f3 := pw (p := 2 * a - y - z) (by omega) (ob (i))
    rw [show (i) % 2 = 0 by omega] at f3
    have f4 := pw (p := 2 * b - x - z) (by omega) (ob (j))
    rw [show (j) % 2 = 1 by omega] at f4
    have f5 := pw (p := 2 * c - x - y) (by omega) (ob (k))
    rw [show (k) % 2 = 0 by omega] at f5
    show b ≤ _
    omega
  · intro hi hj hk
    have f0 := pw (p := z) (by omega) (ob (i + j))
    rw [show (i + j) % 2 = 0 by omega] at f0
    have f1 := pw (p := y) (by omega) (ob (i + k))
    rw [show (i + k) % 2 = 1 by omega] at f1
    have f2 := pw (p := x) (by omega) (ob (j + k))
    rw [show (j + k) % 2 = 1 by omega] at f2
    have f3 := pw (p := 2 * a - y - z) (by omega) (ob (i))
    rw [show (i) % 2 = 0 by omega] at f3
    have f4 := pw (p := 2 * b - x - z) (by omega) (ob (j))
    rw [show (j) % 2 = 0 by omega] at f4
    have f5 := pw (p := 2 * c - x - y) (by omega) (ob (k))
    rw [show (k) % 2 = 1 by omega] at f5
    show c ≤ _
    omega
  · intro hi hj hk
    have f0 := pw (p := z) (by omega) (ob (i + j))
    rw [show (i + j) % 2 = 0 by omega] at f0
    have f1 := pw (p := y) (by omega) (ob (i + k))
    rw [show (i + k) % 2 = 1 by omega] at f1
    have f2 := pw (p := x) (by omega) (ob (j + k))
    rw [show (j + k) % 2 = 1 by omega] at f2
    have f3 := pw (p := 2 * a - y - z) (by omega) (ob (i))
    rw [show (i) % 2 = 1 by omega] at f3
    have f4 := pw (p := 2 * b - x - z) (by omega) (ob (j))
    rw [show (j) % 2 = 1 by omega] at f4
    have f5 := pw (p := 2 * c - x - y) (by omega) (ob (k))
    rw [show (k) % 2 = 0 by omega] at f5
    show a + b - zabs z ≤ _
    omega
  · intro hi hj hk
    have f0 := pw (p := z) (by omega) (ob (i + j))
    rw [show (i + j) % 2 = 1 by omega] at f0
    have f1 := pw (p := y) (by omega) (ob (i + k))
    rw [show (i + k) % 2 = 0 by omega] at f1
    have f2 := pw (p := x) (by omega) (ob (j + k))
    rw [show (j + k) % 2 = 1 by omega] at f2
    have f3 := pw (p := 2 * a - y - z) (by omega) (ob (i))
    rw [show (i) % 2 = 1 by omega] at f3
    have f4 := pw (p := 2 * b - x - z) (by omega) (ob (j))
    rw [show (j) % 2 = 0 by omega] at f4
    have f5 := pw (p := 2 * c - x - y) (by omega) (ob (k))
    rw [show (k) % 2 = 1 by omega] at f5
    show a + c - zabs y ≤ _
    omega
  · intro hi hj hk
    have f0 := pw (p := z) (by omega) (ob (i + j))
    rw [show (i + j) % 2 = 1 by omega] at f0
    have f1 := pw (p := y) (by omega) (ob (i + k))
    rw [show (i + k) % 2 = 1 by omega] at f1
    have f2 := pw (p := x) (by omega) (ob (j + k))
    rw [show (j + k) % 2 = 0 by omega] at f2
    have f3 := pw (p := 2 * a - y - z) (by omega) (ob (i))
    rw [show (i) % 2 = 0 by omega] at f3
    have f4 := pw (p := 2 * b - x - z) (by omega) (ob (j))
    rw [show (j) % 2 = 1 by omega] at f4
    have f5 := pw (p := 2 * c - x - y) (by omega) (ob (k))
    rw [show (k) % 2 = 1 by omega] at f5
    show b + c - zabs x ≤ _
    omega
  · intro hi hj hk
    have f0 := pw (p := z) (by omega) (ob (i + j))
    rw [show (i + j) % 2 = 0 by omega] at f0
    have f1 := pw (p := y) (by omega) (ob (i + k))
    rw [show (i + k) % 2 = 0 by omega] at f1
    have f2 := pw (p := x) (by omega) (ob (j + k))
    rw [show (j + k) % 2 = 0 by omega] at f2
    have f3 := pw (p := 2 * a - y - z) (by omega) (ob (i))
    rw [show (i) % 2 = 1 by omega] at f3
    have f4 := pw (p := 2 * b - x - z) (by omega) (ob (j))
    rw [show (j) % 2 = 1 by omega] at f4
    have f5 := pw (p := 2 * c - x - y) (by omega) (ob (k))
    rw [show (k) % 2 = 1 by omega] at f5
    show a + b + c - zabs x - zabs y - zabs z + mu x y z ≤ _
    by_cases c1 : i + j = 0
    · by_cases c2 : i + k = 0
      · have g := pw (p := x) (by omega) (ev4 (t := j + k) (by omega) (by omega))
        omega
      · have g := pw (p := y) (by omega) (ev4 (t := i + k) (by omega) c2)
        omega
    · have g := pw (p := z) (by omega) (ev4 (t := i + j) (by omega) c1)
      omega
end MOD

