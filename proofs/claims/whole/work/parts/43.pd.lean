-- forms that are above 0 everywhere but at 0
def PD (a b c x y z : Int) : Prop := ∀ i j k : Int, (i ≠ 0 ∨ j ≠ 0 ∨ k ≠ 0) → 0 < a * i * i + b * j * j + c * k * k + x * j * k + y * i * k + z * i * j
section PDS
variable {a b c x y z : Int}
theorem PD.ga (h : PD a b c x y z) : 1 ≤ a := by
  have := h 1 0 0 (by decide)
  omega
theorem PD.gb (h : PD a b c x y z) : 1 ≤ b := by
  have := h 0 1 0 (by decide)
  omega
theorem PD.gc (h : PD a b c x y z) : 1 ≤ c := by
  have := h 0 0 1 (by decide)
  omega
theorem PD.gx (h : PD a b c x y z) : -(b + c) < x ∧ x < b + c := by
  have h1 := h 0 1 1 (by decide)
  have h2 := h 0 1 (-1) (by decide)
  omega
theorem PD.gy (h : PD a b c x y z) : -(a + c) < y ∧ y < a + c := by
  have h1 := h 1 0 1 (by decide)
  have h2 := h 1 0 (-1) (by decide)
  omega
theorem PD.gz (h : PD a b c x y z) : -(a + b) < z ∧ z < a + b := by
  have h1 := h 1 1 0 (by decide)
  have h2 := h 1 (-1) 0 (by decide)
  omega
theorem PD.sm (h : PD a b c x y z) (hs : a + b + c ≤ 1000000000) : sm6 a b c x y z := by
  have h1 := h.ga
  have h2 := h.gb
  have h3 := h.gc
  have h4 := h.gx
  have h5 := h.gy
  have h6 := h.gz
  unfold sm6
  omega
theorem PD.o1 (h : PD a b c x y z) : PD b a c y x z := by
  intro i j k hn
  have := h j i k (by omega)
  grind
theorem PD.o2 (h : PD a b c x y z) : PD a c b x z y := by
  intro i j k hn
  have := h i k j (by omega)
  grind
theorem PD.fi (h : PD a b c x y z) : PD a b c x (-y) (-z) := by
  intro i j k hn
  have := h (-i) j k (by omega)
  grind
theorem PD.fj (h : PD a b c x y z) : PD a b c (-x) y (-z) := by
  intro i j k hn
  have := h i (-j) k (by omega)
  grind
theorem PD.fk (h : PD a b c x y z) : PD a b c (-x) (-y) z := by
  intro i j k hn
  have := h i j (-k) (by omega)
  grind
theorem PD.s5p (h : PD a b c x y z) : PD a b (b + c - 1 * x) (x - 2 * 1 * b) (y - 1 * z) z := by
  intro i j k hn
  have := h i (j - k) k (by omega)
  grind
theorem PD.s5m (h : PD a b c x y z) : PD a b (b + c - -1 * x) (x - 2 * -1 * b) (y - -1 * z) z := by
  intro i j k hn
  have := h i (j + k) k (by omega)
  grind
theorem PD.s6p (h : PD a b c x y z) : PD a b (a + c - 1 * y) (x - 1 * z) (y - 2 * 1 * a) z := by
  intro i j k hn
  have := h (i - k) j k (by omega)
  grind
theorem PD.s6m (h : PD a b c x y z) : PD a b (a + c - -1 * y) (x - -1 * z) (y - 2 * -1 * a) z := by
  intro i j k hn
  have := h (i + k) j k (by omega)
  grind
theorem PD.s7p (h : PD a b c x y z) : PD a (a + b - 1 * z) c (x - 1 * y) y (z - 2 * 1 * a) := by
  intro i j k hn
  have := h (i - j) j k (by omega)
  grind
theorem PD.s7m (h : PD a b c x y z) : PD a (a + b - -1 * z) c (x - -1 * y) y (z - 2 * -1 * a) := by
  intro i j k hn
  have := h (i + j) j k (by omega)
  grind
theorem PD.s8 (h : PD a b c x y z) : PD a b (c + (x + y + z + a + b)) (2 * b + x + z) (2 * a + y + z) z := by
  intro i j k hn
  have := h (i + k) (j + k) k (by omega)
  grind
theorem zabs_p (h : 0 ≤ x) : zabs x = x := by
  unfold zabs
  by_cases k : 0 < x
  · rw [if_pos k]
  · rw [if_neg k]; omega
theorem zabs_n (h : x ≤ 0) : zabs x = -x := by
  unfold zabs
  rw [if_neg (by omega)]
theorem PD.ali (h : PD a b c x y z) : PD a b c (al x y z x) (al x y z y) (al x y z z) := by
  unfold al
  by_cases hp : isP x y z
  · rw [if_pos hp, if_pos hp, if_pos hp]
    rcases hp with ⟨h1, h2, h3⟩ | ⟨h1, h2, h3⟩ | ⟨h1, h2, h3⟩ | ⟨h1, h2, h3⟩
    · rw [zabs_p (by omega), zabs_p (by omega), zabs_p (by omega)]; exact h
    · rw [zabs_p (by omega), zabs_n (x := y) (by omega), zabs_n (x := z) (by omega)]; exact h.fi
    · rw [zabs_n (x := x) (by omega), zabs_p (by omega), zabs_n (x := z) (by omega)]; exact h.fj
    · rw [zabs_n (x := x) (by omega), zabs_n (x := y) (by omega), zabs_p (by omega)]; exact h.fk
  · rw [if_neg hp, if_neg hp, if_neg hp]
    by_cases h1 : 0 ≤ x
    · by_cases h2 : 0 ≤ y
      · by_cases h3 : 0 ≤ z
        · by_cases h4 : x = 0
          · rw [zabs_p h1, zabs_p h2, zabs_p h3, h4]; rw [h4] at h; exact h.fi
          · by_cases h5 : y = 0
            · rw [zabs_p h1, zabs_p h2, zabs_p h3, h5]; rw [h5] at h; exact h.fj
            · have h6 : z = 0 := by omega
              rw [zabs_p h1, zabs_p h2, zabs_p h3, h6]; rw [h6] at h; exact h.fk
        · rw [zabs_p h1, zabs_p h2, zabs_n (by omega), Int.neg_neg]; exact h.fk
      · by_cases h3 : 0 ≤ z
        · rw [zabs_p h1, zabs_n (x := y) (by omega), zabs_p h3, Int.neg_neg]; exact h.fj
        · have h4 : x = 0 := by omega
          rw [zabs_p h1, zabs_n (x := y) (by omega), zabs_n (x := z) (by omega), Int.neg_neg, Int.neg_neg, h4]; rw [h4] at h; exact h
    · by_cases h2 : 0 ≤ y
      · by_cases h3 : 0 ≤ z
        · rw [zabs_n (x := x) (by omega), zabs_p h2, zabs_p h3, Int.neg_neg]; exact h.fi
        · have h4 : y = 0 := by omega
          rw [zabs_n (x := x) (by omega), zabs_p h2, zabs_n (x := z) (by omega), Int.neg_neg, Int.neg_neg, h4]; rw [h4] at h; exact h
      · by_cases h3 : 0 ≤ z
        · have h4 : z = 0 := by omega
          rw [zabs_n (x := x) (by omega), zabs_n (x := y) (by omega), zabs_p h3, Int.neg_neg, Int.neg_neg, h4]; rw [h4] at h; exact h
        · rw [zabs_n (x := x) (by omega), zabs_n (x := y) (by omega), zabs_n (x := z) (by omega), Int.neg_neg, Int.neg_neg, Int.neg_neg]; exact h
theorem sg_abs : sg x * x = zabs x := by
  unfold sg zabs
  by_cases k : 0 < x
  · rw [if_pos k, if_pos k]; omega
  · rw [if_neg k, if_neg k]; omega
end PDS
/-- what a turn keeps: a form that is above 0, no larger sum of squares -/
def TK (t : Int × Z6) (S : Int) : Prop := (PD t.2.1 t.2.2.1 t.2.2.2.1 t.2.2.2.2.1 t.2.2.2.2.2.1 t.2.2.2.2.2.2 ∧ t.2.1 + t.2.2.1 + t.2.2.2.1 ≤ S) ∧ (t.1 = 0 ∨ t.1 = 1 ∨ t.1 = 2)
theorem sh_keep {a b c x y z : Int} (h : PD a b c x y z) : TK (sh a b c x y z) (a + b + c) := by
  unfold sh
  by_cases k5 : c5 b x y z
  · rw [if_pos k5]
    have e := sg_abs (x := x)
    have zz : b ≤ zabs x := by
      rcases k5 with k | k | k
      · omega
      · have := h.gb
        rw [zabs_p (by omega)]; omega
      · have := h.gb
        rw [zabs_n (by omega)]; omega
    refine ⟨⟨?_, by show a + b + (b + c - sg x * x) ≤ a + b + c; omega⟩, Or.inr (Or.inr rfl)⟩
    by_cases kx : 0 < x
    · show PD a b (b + c - sg x * x) (x - 2 * sg x * b) (y - sg x * z) z
      rw [sg_pos kx]; exact h.s5p
    · show PD a b (b + c - sg x * x) (x - 2 * sg x * b) (y - sg x * z) z
      rw [sg_neg kx]; exact h.s5m
  rw [if_neg k5]
  by_cases k6 : c6 a x y z
  · rw [if_pos k6]
    have e := sg_abs (x := y)
    have zz : a ≤ zabs y := by
      rcases k6 with k | k | k
      · omega
      · have := h.ga
        rw [zabs_p (by omega)]; omega
      · have := h.ga
        rw [zabs_n (by omega)]; omega
    refine ⟨⟨?_, by show a + b + (a + c - sg y * y) ≤ a + b + c; omega⟩, Or.inr (Or.inr rfl)⟩
    by_cases ky : 0 < y
    · show PD a b (a + c - sg y * y) (x - sg y * z) (y - 2 * sg y * a) z
      rw [sg_pos ky]; exact h.s6p
    · show PD a b (a + c - sg y * y) (x - sg y * z) (y - 2 * sg y * a) z
      rw [sg_neg ky]; exact h.s6m
  rw [if_neg k6]
  by_cases k7 : c7 a x y z
  · rw [if_pos k7]
    have e := sg_abs (x := z)
    have zz : a ≤ zabs z := by
      rcases k7 with k | k | k
      · omega
      · have := h.ga
        rw [zabs_p (by omega)]; omega
      · have := h.ga
        rw [zabs_n (by omega)]; omega
    refine ⟨⟨?_, by show a + (a + b - sg z * z) + c ≤ a + b + c; omega⟩, Or.inr (Or.inr rfl)⟩
    by_cases kz : 0 < z
    · show PD a (a + b - sg z * z) c (x - sg z * y) y (z - 2 * sg z * a)
      rw [sg_pos kz]; exact h.s7p
    · show PD a (a + b - sg z * z) c (x - sg z * y) y (z - 2 * sg z * a)
      rw [sg_neg kz]; exact h.s7m
  rw [if_neg k7]
  by_cases k8 : c8 a b x y z
  · rw [if_pos k8]
    exact ⟨⟨h.s8, by show a + b + (c + (x + y + z + a + b)) ≤ a + b + c; omega⟩, Or.inr (Or.inr rfl)⟩
  · rw [if_neg k8]
    exact ⟨⟨h, Int.le_refl _⟩, Or.inl rfl⟩
theorem tn2_keep {a b c x y z : Int} (h : PD a b c x y z) : TK (tn2 a b c x y z) (a + b + c) := by
  unfold tn2
  by_cases k : c2 b c y z
  · rw [if_pos k]
    exact ⟨⟨h.o2, by show a + c + b ≤ a + b + c; omega⟩, Or.inr (Or.inl rfl)⟩
  · rw [if_neg k]
    exact sh_keep h.ali
theorem tn_keep {a b c x y z : Int} (h : PD a b c x y z) : TK (tn a b c x y z) (a + b + c) := by
  unfold tn
  by_cases k : c1 a b x y
  · rw [if_pos k]
    have := tn2_keep h.o1
    rw [show b + a + c = a + b + c by omega] at this
    exact this
  · rw [if_neg k]
    exact tn2_keep h

