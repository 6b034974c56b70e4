-- of four turns one ends or lowers the sum of the squares
def calm (t : Int × Z6) (S : Int) : Prop := t.1 = 0 ∨ t.2.1 + t.2.2.1 + t.2.2.2.1 < S
def tnz (q : Z6) : Int × Z6 := tn q.1 q.2.1 q.2.2.1 q.2.2.2.1 q.2.2.2.2.1 q.2.2.2.2.2
def AE (q : Z6) (S : Int) : Prop := calm (tnz q) S ∨ calm (tnz (tnz q).2) S
section CALM
variable {a b c x y z u v w S : Int}
theorem tnS (h1 : ¬ c1 a b x y) (h2 : c2 b c y z) : tn a b c x y z = (1, a, c, b, x, z, y) := by
  unfold tn tn2
  rw [if_neg h1, if_pos h2]
theorem tnS1 (h1 : c1 a b x y) (h2 : c2 a c x z) : tn a b c x y z = (1, b, c, a, y, z, x) := by
  unfold tn tn2
  rw [if_pos h1, if_pos h2]
theorem tnP (h1 : ¬ c1 a b x y) (h2 : ¬ c2 b c y z) (hp : isP x y z) : tn a b c x y z = sh a b c (zabs x) (zabs y) (zabs z) := by
  unfold tn tn2 al
  rw [if_neg h1, if_neg h2, if_pos hp, if_pos hp, if_pos hp]
theorem tnP1 (h1 : c1 a b x y) (h2 : ¬ c2 a c x z) (hp : isP y x z) : tn a b c x y z = sh b a c (zabs y) (zabs x) (zabs z) := by
  unfold tn tn2 al
  rw [if_pos h1, if_neg h2, if_pos hp, if_pos hp, if_pos hp]
theorem tnN (h1 : ¬ c1 a b x y) (h2 : ¬ c2 b c y z) (hp : ¬ isP x y z) : tn a b c x y z = sh a b c (-zabs x) (-zabs y) (-zabs z) := by
  unfold tn tn2 al
  rw [if_neg h1, if_neg h2, if_neg hp, if_neg hp, if_neg hp]
theorem shP_calm (hS : S = a + b + c) (ha : 1 ≤ a) (hb : 1 ≤ b) (hu : 0 ≤ u) (hv : 0 ≤ v) (hw : 0 ≤ w) (k5 : u = b → ¬ 2 * v < w) (k6 : v = a → ¬ 2 * u < w ∨ b < u) (k7 : w = a → ¬ 2 * u < v ∨ b < u ∨ a < v) : calm (sh a b c u v w) S := by
  have eu := zabs_p hu
  have ev := zabs_p hv
  have ew := zabs_p hw
  have su := sg_abs (x := u)
  have sv := sg_abs (x := v)
  have sw := sg_abs (x := w)
  unfold sh
  by_cases h5 : (b < zabs u ∨ (u = b ∧ 2 * v < w) ∨ (u = -b ∧ w < 0))
  · rw [if_pos (show c5 b u v w from h5)]
    right
    show a + b + (b + c - sg u * u) < S
    omega
  rw [if_neg (show ¬ c5 b u v w from h5)]
  by_cases h6 : (a < zabs v ∨ (v = a ∧ 2 * u < w) ∨ (v = -a ∧ w < 0))
  · rw [if_pos (show c6 a u v w from h6)]
    right
    show a + b + (a + c - sg v * v) < S
    omega
  rw [if_neg (show ¬ c6 a u v w from h6)]
  by_cases h7 : (a < zabs w ∨ (w = a ∧ 2 * u < v) ∨ (w = -a ∧ v < 0))
  · rw [if_pos (show c7 a u v w from h7)]
    right
    show a + (a + b - sg w * w) + c < S
    omega
  rw [if_neg (show ¬ c7 a u v w from h7), if_neg (show ¬ c8 a b u v w by omega)]
  exact Or.inl rfl
theorem shN_calm (hS : S = a + b + c) (ha : 1 ≤ a) (hb : 1 ≤ b) (hu : 0 ≤ u) (hv : 0 ≤ v) (hw : 0 ≤ w) (k5 : u = b → ¬ 0 < w) (k6 : v = a → ¬ 0 < w) (k7 : w = a → ¬ 0 < v) (k8 : a + b = u + v + w → ¬ 0 < 2 * (a - v) - w) : calm (sh a b c (-u) (-v) (-w)) S := by
  have eu := zabs_n (x := -u) (by omega)
  have ev := zabs_n (x := -v) (by omega)
  have ew := zabs_n (x := -w) (by omega)
  have su := sg_abs (x := -u)
  have sv := sg_abs (x := -v)
  have sw := sg_abs (x := -w)
  unfold sh
  by_cases h5 : (b < zabs (-u) ∨ (-u = b ∧ 2 * -v < -w) ∨ (-u = -b ∧ -w < 0))
  · rw [if_pos (show c5 b (-u) (-v) (-w) from h5)]
    right
    show a + b + (b + c - sg (-u) * -u) < S
    omega
  rw [if_neg (show ¬ c5 b (-u) (-v) (-w) from h5)]
  by_cases h6 : (a < zabs (-v) ∨ (-v = a ∧ 2 * -u < -w) ∨ (-v = -a ∧ -w < 0))
  · rw [if_pos (show c6 a (-u) (-v) (-w) from h6)]
    right
    show a + b + (a + c - sg (-v) * -v) < S
    omega
  rw [if_neg (show ¬ c6 a (-u) (-v) (-w) from h6)]
  by_cases h7 : (a < zabs (-w) ∨ (-w = a ∧ 2 * -u < -v) ∨ (-w = -a ∧ -v < 0))
  · rw [if_pos (show c7 a (-u) (-v) (-w) from h7)]
    right
    show a + (a + b - sg (-w) * -w) + c < S
    omega
  rw [if_neg (show ¬ c7 a (-u) (-v) (-w) from h7)]
  by_cases h8 : (-u + -v + -w + a + b < 0 ∨ (-u + -v + -w + a + b = 0 ∧ 0 < 2 * (a + -v) + -w))
  · rw [if_pos (show c8 a b (-u) (-v) (-w) from h8)]
    right
    show a + b + (c + (-u + -v + -w + a + b)) < S
    omega
  rw [if_neg (show ¬ c8 a b (-u) (-v) (-w) from h8)]
  exact Or.inl rfl
theorem shP5 (hb : 1 ≤ b) (hu : u = b) (h : 2 * v < w) : sh a b c u v w = (2, a, b, c, -b, v - w, w) := by
  unfold sh
  rw [if_pos (show c5 b u v w from Or.inr (Or.inl ⟨hu, h⟩)), sg_pos (by omega), hu, show b + c - 1 * b = c by omega, show b - 2 * 1 * b = -b by omega, show v - 1 * w = v - w by omega]
theorem AE_l {q : Z6} (h : calm (tnz q) S) : AE q S := Or.inl h
theorem AE_r {q q' : Z6} {k : Int} (e : tnz q = (k, q')) (h : calm (tnz q') S) : AE q S := Or.inr (by rw [e]; exact h)
theorem E_N5 (hS : S = a + b + c) (ha : 1 ≤ a) (hab : a ≤ b) (hbc : b ≤ c) (hv : 0 ≤ v) (hw : 0 < w) (i1 : a = b → b ≤ v) (i2 : b = c → v ≤ w) : AE (a, b, c, b, -(v + w), -w) S := by
  have z1 := zabs_p (x := b) (by omega)
  have z2 := zabs_n (x := -(v + w)) (by omega)
  have z3 := zabs_n (x := -w) (by omega)
  by_cases k : b = c ∧ 0 < v
  · refine AE_r (k := 1) (q' := (a, c, b, b, -w, -(v + w))) (tnS (show ¬ (b < a ∨ (a = b ∧ zabs (-(v + w)) < zabs b)) by omega) (show (c < b ∨ (b = c ∧ zabs (-w) < zabs (-(v + w)))) by omega)) ?_
    show calm (tn a c b b (-w) (-(v + w))) S
    rw [tnP (show ¬ (c < a ∨ (a = c ∧ zabs (-w) < zabs b)) by omega) (show ¬ (b < c ∨ (c = b ∧ zabs (-(v + w)) < zabs (-w))) by omega) (Or.inr (Or.inl ⟨by omega, by omega, by omega⟩)), z1, z2, z3]
    exact shP_calm (by omega) ha (by omega) (by omega) (by omega) (by omega) (by omega) (by omega) (by omega)
  · refine AE_l ?_
    show calm (tn a b c b (-(v + w)) (-w)) S
    rw [tnP (show ¬ (b < a ∨ (a = b ∧ zabs (-(v + w)) < zabs b)) by omega) (show ¬ (c < b ∨ (b = c ∧ zabs (-w) < zabs (-(v + w)))) by omega) (Or.inr (Or.inl ⟨by omega, by omega, by omega⟩)), z1, z2, z3]
    exact shP_calm (by omega) ha (by omega) (by omega) (by omega) (by omega) (by omega) (by omega) (by omega)
theorem E_N6 (hS : S = a + b + c) (ha : 1 ≤ a) (hab : a ≤ b) (hbc : b ≤ c) (hu : 0 ≤ u) (hub : u < b) (hw : 0 < w) (i1 : a = b → u ≤ a) (i2 : b = c → a ≤ w) : AE (a, b, c, -(u + w), a, -w) S := by
  have z1 := zabs_n (x := -(u + w)) (by omega)
  have z2 := zabs_p (x := a) (by omega)
  have z3 := zabs_n (x := -w) (by omega)
  by_cases k1 : a = b ∧ a < u + w
  · by_cases k2 : a = c ∧ 0 < u
    · refine AE_r (k := 1) (q' := (b, c, a, a, -w, -(u + w))) (tnS1 (show (b < a ∨ (a = b ∧ zabs a < zabs (-(u + w)))) by omega) (show (c < a ∨ (a = c ∧ zabs (-w) < zabs (-(u + w)))) by omega)) ?_
      show calm (tn b c a a (-w) (-(u + w))) S
      rw [tnP (show ¬ (c < b ∨ (b = c ∧ zabs (-w) < zabs a)) by omega) (show ¬ (a < c ∨ (c = a ∧ zabs (-(u + w)) < zabs (-w))) by omega) (Or.inr (Or.inl ⟨by omega, by omega, by omega⟩)), z1, z2, z3]
      exact shP_calm (by omega) (by omega) (by omega) (by omega) (by omega) (by omega) (by omega) (by omega) (by omega)
    · refine AE_l ?_
      show calm (tn a b c (-(u + w)) a (-w)) S
      rw [tnP1 (show (b < a ∨ (a = b ∧ zabs a < zabs (-(u + w)))) by omega) (show ¬ (c < a ∨ (a = c ∧ zabs (-w) < zabs (-(u + w)))) by omega) (Or.inr (Or.inl ⟨by omega, by omega, by omega⟩)), z1, z2, z3]
      exact shP_calm (by omega) (by omega) (by omega) (by omega) (by omega) (by omega) (by omega) (by omega) (by omega)
  · have e := tnP (a := a) (b := b) (c := c) (x := -(u + w)) (y := a) (z := -w) (show ¬ (b < a ∨ (a = b ∧ zabs a < zabs (-(u + w)))) by omega) (show ¬ (c < b ∨ (b = c ∧ zabs (-w) < zabs a)) by omega) (Or.inr (Or.inr (Or.inl ⟨by omega, by omega, by omega⟩)))
    rw [z1, z2, z3] at e
    by_cases k3 : u + w = b ∧ 2 * a < w
    · refine AE_r (k := 2) (q' := (a, b, c, -b, a - w, w)) (e.trans ?_) ?_
      · rw [shP5 (by omega) (by omega) (by omega), show - -w = w by omega]
      · have z4 := zabs_n (x := -b) (by omega)
        have z5 := zabs_n (x := a - w) (by omega)
        have z6 := zabs_p (x := w) (by omega)
        show calm (tn a b c (-b) (a - w) w) S
        rw [tnP (show ¬ (b < a ∨ (a = b ∧ zabs (a - w) < zabs (-b))) by omega) (show ¬ (c < b ∨ (b = c ∧ zabs w < zabs (a - w))) by omega) (Or.inr (Or.inr (Or.inr ⟨by omega, by omega, by omega⟩))), z4, z5, z6]
        exact shP_calm (by omega) ha (by omega) (by omega) (by omega) (by omega) (by omega) (by omega) (by omega)
    · refine AE_l ?_
      show calm (tn a b c (-(u + w)) a (-w)) S
      rw [e]
      exact shP_calm (by omega) ha (by omega) (by omega) (by omega) (by omega) (by omega) (by omega) (by omega)
theorem E_N7 (hS : S = a + b + c) (ha : 1 ≤ a) (hab : a ≤ b) (hbc : b ≤ c) (hu : 0 ≤ u) (hub : u < b) (hv : 0 < v) (hva : v < a) (i1 : a = b → u ≤ v) : AE (a, b, c, -(u + v), -v, a) S := by
  have z1 := zabs_n (x := -(u + v)) (by omega)
  have z2 := zabs_n (x := -v) (by omega)
  have z3 := zabs_p (x := a) (by omega)
  by_cases k1 : a = b ∧ 0 < u
  · by_cases k2 : a = c ∧ a < u + v
    · refine AE_r (k := 1) (q' := (b, c, a, -v, a, -(u + v))) (tnS1 (show (b < a ∨ (a = b ∧ zabs (-v) < zabs (-(u + v)))) by omega) (show (c < a ∨ (a = c ∧ zabs a < zabs (-(u + v)))) by omega)) ?_
      show calm (tn b c a (-v) a (-(u + v))) S
      rw [tnP (show ¬ (c < b ∨ (b = c ∧ zabs a < zabs (-v))) by omega) (show ¬ (a < c ∨ (c = a ∧ zabs (-(u + v)) < zabs a)) by omega) (Or.inr (Or.inr (Or.inl ⟨by omega, by omega, by omega⟩))), z1, z2, z3]
      exact shP_calm (by omega) (by omega) (by omega) (by omega) (by omega) (by omega) (by omega) (by omega) (by omega)
    · refine AE_l ?_
      show calm (tn a b c (-(u + v)) (-v) a) S
      rw [tnP1 (show (b < a ∨ (a = b ∧ zabs (-v) < zabs (-(u + v)))) by omega) (show ¬ (c < a ∨ (a = c ∧ zabs a < zabs (-(u + v)))) by omega) (Or.inr (Or.inr (Or.inr ⟨by omega, by omega, by omega⟩))), z1, z2, z3]
      exact shP_calm (by omega) (by omega) (by omega) (by omega) (by omega) (by omega) (by omega) (by omega) (by omega)
  · have e := tnP (a := a) (b := b) (c := c) (x := -(u + v)) (y := -v) (z := a) (show ¬ (b < a ∨ (a = b ∧ zabs (-v) < zabs (-(u + v)))) by omega) (show ¬ (c < b ∨ (b = c ∧ zabs a < zabs (-v))) by omega) (Or.inr (Or.inr (Or.inr ⟨by omega, by omega, by omega⟩)))
    rw [z1, z2, z3] at e
    by_cases k3 : u + v = b ∧ 2 * v < a
    · refine AE_r (k := 2) (q' := (a, b, c, -b, v - a, a)) (e.trans ?_) ?_
      · rw [shP5 (by omega) (by omega) (by omega), show - -v = v by omega]
      · have z4 := zabs_n (x := -b) (by omega)
        have z5 := zabs_n (x := v - a) (by omega)
        show calm (tn a b c (-b) (v - a) a) S
        rw [tnP (show ¬ (b < a ∨ (a = b ∧ zabs (v - a) < zabs (-b))) by omega) (show ¬ (c < b ∨ (b = c ∧ zabs a < zabs (v - a))) by omega) (Or.inr (Or.inr (Or.inr ⟨by omega, by omega, by omega⟩))), z4, z5, z3]
        exact shP_calm (by omega) ha (by omega) (by omega) (by omega) (by omega) (by omega) (by omega) (by omega)
    · refine AE_l ?_
      show calm (tn a b c (-(u + v)) (-v) a) S
      rw [e]
      exact shP_calm (by omega) ha (by omega) (by omega) (by omega) (by omega) (by omega) (by omega) (by omega)
theorem E_P5 (hS : S = a + b + c) (ha : 1 ≤ a) (hab : a ≤ b) (hbc : b ≤ c) (hv : 0 < v) (hvw : 2 * v < w) (i1 : a = b → b ≤ v) : AE (a, b, c, -b, v - w, w) S := by
  have z1 := zabs_n (x := -b) (by omega)
  have z2 := zabs_n (x := v - w) (by omega)
  have z3 := zabs_p (x := w) (by omega)
  refine AE_l ?_
  show calm (tn a b c (-b) (v - w) w) S
  rw [tnP (show ¬ (b < a ∨ (a = b ∧ zabs (v - w) < zabs (-b))) by omega) (show ¬ (c < b ∨ (b = c ∧ zabs w < zabs (v - w))) by omega) (Or.inr (Or.inr (Or.inr ⟨by omega, by omega, by omega⟩))), z1, z2, z3]
  exact shP_calm (by omega) ha (by omega) (by omega) (by omega) (by omega) (by omega) (by omega) (by omega)
theorem E_P6 (hS : S = a + b + c) (ha : 1 ≤ a) (hab : a ≤ b) (hbc : b ≤ c) (hu : 0 < u) (huw : 2 * u < w) (i1 : a = b → u ≤ a) (i2 : b = c → a ≤ w) : AE (a, b, c, u - w, -a, w) S := by
  have z1 := zabs_n (x := u - w) (by omega)
  have z2 := zabs_n (x := -a) (by omega)
  have z3 := zabs_p (x := w) (by omega)
  by_cases k1 : a = b ∧ a < w - u
  · refine AE_l ?_
    show calm (tn a b c (u - w) (-a) w) S
    rw [tnP1 (show (b < a ∨ (a = b ∧ zabs (-a) < zabs (u - w))) by omega) (show ¬ (c < a ∨ (a = c ∧ zabs w < zabs (u - w))) by omega) (Or.inr (Or.inr (Or.inr ⟨by omega, by omega, by omega⟩))), z1, z2, z3]
    exact shP_calm (by omega) (by omega) (by omega) (by omega) (by omega) (by omega) (by omega) (by omega) (by omega)
  · have e := tnP (a := a) (b := b) (c := c) (x := u - w) (y := -a) (z := w) (show ¬ (b < a ∨ (a = b ∧ zabs (-a) < zabs (u - w))) by omega) (show ¬ (c < b ∨ (b = c ∧ zabs w < zabs (-a))) by omega) (Or.inr (Or.inr (Or.inr ⟨by omega, by omega, by omega⟩)))
    rw [z1, z2, z3] at e
    by_cases k3 : w - u = b ∧ 2 * a < w
    · refine AE_r (k := 2) (q' := (a, b, c, -b, a - w, w)) (e.trans ?_) ?_
      · rw [show -(u - w) = w - u by omega, show - -a = a by omega, shP5 (by omega) (by omega) (by omega)]
      · have z4 := zabs_n (x := -b) (by omega)
        have z5 := zabs_n (x := a - w) (by omega)
        show calm (tn a b c (-b) (a - w) w) S
        rw [tnP (show ¬ (b < a ∨ (a = b ∧ zabs (a - w) < zabs (-b))) by omega) (show ¬ (c < b ∨ (b = c ∧ zabs w < zabs (a - w))) by omega) (Or.inr (Or.inr (Or.inr ⟨by omega, by omega, by omega⟩))), z4, z5, z3]
        exact shP_calm (by omega) ha (by omega) (by omega) (by omega) (by omega) (by omega) (by omega) (by omega)
    · refine AE_l ?_
      show calm (tn a b c (u - w) (-a) w) S
      rw [e]
      exact shP_calm (by omega) ha (by omega) (by omega) (by omega) (by omega) (by omega) (by omega) (by omega)
theorem E_P7 (hS : S = a + b + c) (ha : 1 ≤ a) (hab : a ≤ b) (hbc : b ≤ c) (hu : 0 < u) (huv : 2 * u < v) (hva : v < a) : AE (a, b, c, u - v, v, -a) S := by
  have z1 := zabs_n (x := u - v) (by omega)
  have z2 := zabs_p (x := v) (by omega)
  have z3 := zabs_n (x := -a) (by omega)
  refine AE_l ?_
  show calm (tn a b c (u - v) v (-a)) S
  rw [tnP (show ¬ (b < a ∨ (a = b ∧ zabs v < zabs (u - v))) by omega) (show ¬ (c < b ∨ (b = c ∧ zabs (-a) < zabs v)) by omega) (Or.inr (Or.inr (Or.inl ⟨by omega, by omega, by omega⟩))), z1, z2, z3]
  exact shP_calm (by omega) ha (by omega) (by omega) (by omega) (by omega) (by omega) (by omega) (by omega)
theorem E_N8 (hS : S = a + b + c) (ha : 1 ≤ a) (hab : a ≤ b) (hbc : b ≤ c) (hu : 0 ≤ u) (hv : 0 ≤ v) (hw : 0 < w) (hub : u < b) (hva : v < a) (hwa : w < a) (e0 : u + v + w = a + b) (h8 : 0 < 2 * (a - v) - w) (i1 : a = b → u ≤ v) (i2 : b = c → v ≤ w) : AE (a, b, c, 2 * b - u - w, 2 * a - v - w, -w) S := by
  have z1 := zabs_p (x := 2 * b - u - w) (by omega)
  have z2 := zabs_p (x := 2 * a - v - w) (by omega)
  have z3 := zabs_n (x := -w) (by omega)
  by_cases k : b = c ∧ w < 2 * a - v - w
  · refine AE_r (k := 1) (q' := (a, c, b, 2 * b - u - w, -w, 2 * a - v - w)) (tnS (show ¬ (b < a ∨ (a = b ∧ zabs (2 * a - v - w) < zabs (2 * b - u - w))) by omega) (show (c < b ∨ (b = c ∧ zabs (-w) < zabs (2 * a - v - w))) by omega)) ?_
    show calm (tn a c b (2 * b - u - w) (-w) (2 * a - v - w)) S
    rw [tnN (show ¬ (c < a ∨ (a = c ∧ zabs (-w) < zabs (2 * b - u - w))) by omega) (show ¬ (b < c ∨ (c = b ∧ zabs (2 * a - v - w) < zabs (-w))) by omega) (show ¬ ((0 < 2 * b - u - w ∧ 0 < -w ∧ 0 < 2 * a - v - w) ∨ (0 < 2 * b - u - w ∧ -w < 0 ∧ 2 * a - v - w < 0) ∨ (2 * b - u - w < 0 ∧ 0 < -w ∧ 2 * a - v - w < 0) ∨ (2 * b - u - w < 0 ∧ -w < 0 ∧ 0 < 2 * a - v - w)) by omega), z1, z2, z3]
    exact shN_calm (by omega) ha (by omega) (by omega) (by omega) (by omega) (by omega) (by omega) (by omega) (by omega)
  · refine AE_l ?_
    show calm (tn a b c (2 * b - u - w) (2 * a - v - w) (-w)) S
    rw [tnN (show ¬ (b < a ∨ (a = b ∧ zabs (2 * a - v - w) < zabs (2 * b - u - w))) by omega) (show ¬ (c < b ∨ (b = c ∧ zabs (-w) < zabs (2 * a - v - w))) by omega) (show ¬ ((0 < 2 * b - u - w ∧ 0 < 2 * a - v - w ∧ 0 < -w) ∨ (0 < 2 * b - u - w ∧ 2 * a - v - w < 0 ∧ -w < 0) ∨ (2 * b - u - w < 0 ∧ 0 < 2 * a - v - w ∧ -w < 0) ∨ (2 * b - u - w < 0 ∧ 2 * a - v - w < 0 ∧ 0 < -w)) by omega), z1, z2, z3]
    exact shN_calm (by omega) ha (by omega) (by omega) (by omega) (by omega) (by omega) (by omega) (by omega) (by omega)
theorem sh_E (ha : 1 ≤ a) (hab : a ≤ b) (hbc : b ≤ c) (i1 : a = b → zabs x ≤ zabs y) (i2 : b = c → zabs y ≤ zabs z) (hs : (0 < x ∧ 0 < y ∧ 0 < z) ∨ (x ≤ 0 ∧ y ≤ 0 ∧ z ≤ 0)) : calm (sh a b c x y z) (a + b + c) ∨ AE (sh a b c x y z).2 (a + b + c) := by
  unfold sh
  rcases hs with ⟨hx, hy, hz⟩ | ⟨hx, hy, hz⟩
  · have eu := zabs_p (x := x) (by omega)
    have ev := zabs_p (x := y) (by omega)
    have ew := zabs_p (x := z) (by omega)
    have su := sg_pos hx
    have sv := sg_pos hy
    have sw := sg_pos hz
    by_cases h5 : (b < zabs x ∨ (x = b ∧ 2 * y < z) ∨ (x = -b ∧ z < 0))
    · rw [if_pos (show c5 b x y z from h5)]
      by_cases hb : b < x
      · exact Or.inl (Or.inr (by show a + b + (b + c - sg x * x) < a + b + c; rw [su]; omega))
      · have := E_P5 (S := a + b + c) (v := y) (w := z) rfl ha hab hbc (by omega) (by omega) (by omega)
        refine Or.inr ?_
        show AE (a, b, b + c - sg x * x, x - 2 * sg x * b, y - sg x * z, z) (a + b + c)
        rw [su, show b + c - 1 * x = c by omega, show x - 2 * 1 * b = -b by omega, show y - 1 * z = y - z by omega]
        exact this
    rw [if_neg (show ¬ c5 b x y z from h5)]
    by_cases h6 : (a < zabs y ∨ (y = a ∧ 2 * x < z) ∨ (y = -a ∧ z < 0))
    · rw [if_pos (show c6 a x y z from h6)]
      by_cases hb : a < y
      · exact Or.inl (Or.inr (by show a + b + (a + c - sg y * y) < a + b + c; rw [sv]; omega))
      · have := E_P6 (S := a + b + c) (u := x) (w := z) rfl ha hab hbc (by omega) (by omega) (by omega) (by omega)
        refine Or.inr ?_
        show AE (a, b, a + c - sg y * y, x - sg y * z, y - 2 * sg y * a, z) (a + b + c)
        rw [sv, show a + c - 1 * y = c by omega, show x - 1 * z = x - z by omega, show y - 2 * 1 * a = -a by omega]
        exact this
    rw [if_neg (show ¬ c6 a x y z from h6)]
    by_cases h7 : (a < zabs z ∨ (z = a ∧ 2 * x < y) ∨ (z = -a ∧ y < 0))
    · rw [if_pos (show c7 a x y z from h7)]
      by_cases hb : a < z
      · exact Or.inl (Or.inr (by show a + (a + b - sg z * z) + c < a + b + c; rw [sw]; omega))
      · have := E_P7 (S := a + b + c) (u := x) (v := y) rfl ha hab hbc (by omega) (by omega) (by omega)
        refine Or.inr ?_
        show AE (a, a + b - sg z * z, c, x - sg z * y, y, z - 2 * sg z * a) (a + b + c)
        rw [sw, show a + b - 1 * z = b by omega, show x - 1 * y = x - y by omega, show z - 2 * 1 * a = -a by omega]
        exact this
    rw [if_neg (show ¬ c7 a x y z from h7), if_neg (show ¬ c8 a b x y z by omega)]
    exact Or.inl (Or.inl rfl)
  · have eu := zabs_n (x := x) (by omega)
    have ev := zabs_n (x := y) (by omega)
    have ew := zabs_n (x := z) (by omega)
    have su := sg_neg (x := x) (by omega)
    have sv := sg_neg (x := y) (by omega)
    have sw := sg_neg (x := z) (by omega)
    by_cases h5 : (b < zabs x ∨ (x = b ∧ 2 * y < z) ∨ (x = -b ∧ z < 0))
    · rw [if_pos (show c5 b x y z from h5)]
      by_cases hb : b < -x
      · exact Or.inl (Or.inr (by show a + b + (b + c - sg x * x) < a + b + c; rw [su]; omega))
      · have := E_N5 (S := a + b + c) (v := -y) (w := -z) rfl ha hab hbc (by omega) (by omega) (by omega) (by omega)
        refine Or.inr ?_
        show AE (a, b, b + c - sg x * x, x - 2 * sg x * b, y - sg x * z, z) (a + b + c)
        rw [show -(-y + -z) = y + z by omega, show - -z = z by omega] at this
        rw [su, show b + c - -1 * x = c by omega, show x - 2 * -1 * b = b by omega, show y - -1 * z = y + z by omega]
        exact this
    rw [if_neg (show ¬ c5 b x y z from h5)]
    by_cases h6 : (a < zabs y ∨ (y = a ∧ 2 * x < z) ∨ (y = -a ∧ z < 0))
    · rw [if_pos (show c6 a x y z from h6)]
      by_cases hb : a < -y
      · exact Or.inl (Or.inr (by show a + b + (a + c - sg y * y) < a + b + c; rw [sv]; omega))
      · have := E_N6 (S := a + b + c) (u := -x) (w := -z) rfl ha hab hbc (by omega) (by omega) (by omega) (by omega) (by omega)
        refine Or.inr ?_
        show AE (a, b, a + c - sg y * y, x - sg y * z, y - 2 * sg y * a, z) (a + b + c)
        rw [show -(-x + -z) = x + z by omega, show - -z = z by omega] at this
        rw [sv, show a + c - -1 * y = c by omega, show x - -1 * z = x + z by omega, show y - 2 * -1 * a = a by omega]
        exact this
    rw [if_neg (show ¬ c6 a x y z from h6)]
    by_cases h7 : (a < zabs z ∨ (z = a ∧ 2 * x < y) ∨ (z = -a ∧ y < 0))
    · rw [if_pos (show c7 a x y z from h7)]
      by_cases hb : a < -z
      · exact Or.inl (Or.inr (by show a + (a + b - sg z * z) + c < a + b + c; rw [sw]; omega))
      · have := E_N7 (S := a + b + c) (u := -x) (v := -y) rfl ha hab hbc (by omega) (by omega) (by omega) (by omega) (by omega)
        refine Or.inr ?_
        show AE (a, a + b - sg z * z, c, x - sg z * y, y, z - 2 * sg z * a) (a + b + c)
        rw [show -(-x + -y) = x + y by omega, show - -y = y by omega] at this
        rw [sw, show a + b - -1 * z = b by omega, show x - -1 * y = x + y by omega, show z - 2 * -1 * a = a by omega]
        exact this
    rw [if_neg (show ¬ c7 a x y z from h7)]
    by_cases h8 : (x + y + z + a + b < 0 ∨ (x + y + z + a + b = 0 ∧ 0 < 2 * (a + y) + z))
    · rw [if_pos (show c8 a b x y z from h8)]
      by_cases hb : x + y + z + a + b < 0
      · exact Or.inl (Or.inr (by show a + b + (c + (x + y + z + a + b)) < a + b + c; omega))
      · have := E_N8 (S := a + b + c) (u := -x) (v := -y) (w := -z) rfl ha hab hbc (by omega) (by omega) (by omega) (by omega) (by omega) (by omega) (by omega) (by omega) (by omega) (by omega)
        refine Or.inr ?_
        show AE (a, b, c + (x + y + z + a + b), 2 * b + x + z, 2 * a + y + z, z) (a + b + c)
        rw [show 2 * b - -x - -z = 2 * b + x + z by omega, show 2 * a - -y - -z = 2 * a + y + z by omega, show - -z = z by omega] at this
        rw [show c + (x + y + z + a + b) = c by omega]
        exact this
    rw [if_neg (show ¬ c8 a b x y z from h8)]
    exact Or.inl (Or.inl rfl)
theorem zabs_zabs : zabs (zabs x) = zabs x := zabs_p (by unfold zabs; split <;> omega)
theorem zabs_nz : zabs (-zabs x) = zabs x := by
  have h : 0 ≤ zabs x := by unfold zabs; split <;> omega
  rw [zabs_n (by omega)]
  omega
theorem tn2_E (ha : 1 ≤ a) (hab : a ≤ b) (i1 : a = b → zabs x ≤ zabs y) : (tn2 a b c x y z).1 = 1 ∨ calm (tn2 a b c x y z) (a + b + c) ∨ AE (tn2 a b c x y z).2 (a + b + c) := by
  unfold tn2
  by_cases k : (c < b ∨ (b = c ∧ zabs z < zabs y))
  · rw [if_pos (show c2 b c y z from k)]
    exact Or.inl rfl
  rw [if_neg (show ¬ c2 b c y z from k)]
  right
  unfold al
  by_cases hp : ((0 < x ∧ 0 < y ∧ 0 < z) ∨ (0 < x ∧ y < 0 ∧ z < 0) ∨ (x < 0 ∧ 0 < y ∧ z < 0) ∨ (x < 0 ∧ y < 0 ∧ 0 < z))
  · rw [if_pos (show isP x y z from hp), if_pos (show isP x y z from hp), if_pos (show isP x y z from hp)]
    refine sh_E ha hab (by omega) (by rw [zabs_zabs, zabs_zabs]; exact i1) (by rw [zabs_zabs, zabs_zabs]; omega) (Or.inl ?_)
    unfold zabs
    refine ⟨?_, ?_, ?_⟩
    · split <;> omega
    · split <;> omega
    · split <;> omega
  · rw [if_neg (show ¬ isP x y z from hp), if_neg (show ¬ isP x y z from hp), if_neg (show ¬ isP x y z from hp)]
    refine sh_E ha hab (by omega) (by rw [zabs_nz, zabs_nz]; exact i1) (by rw [zabs_nz, zabs_nz]; omega) (Or.inr ?_)
    unfold zabs
    refine ⟨?_, ?_, ?_⟩
    · split <;> omega
    · split <;> omega
    · split <;> omega
theorem tn_E (ha : 1 ≤ a) (hb : 1 ≤ b) : (tn a b c x y z).1 = 1 ∨ calm (tn a b c x y z) (a + b + c) ∨ AE (tn a b c x y z).2 (a + b + c) := by
  unfold tn
  by_cases k : (b < a ∨ (a = b ∧ zabs y < zabs x))
  · rw [if_pos (show c1 a b x y from k), show a + b + c = b + a + c by omega]
    exact tn2_E hb (by omega) (by omega)
  · rw [if_neg (show ¬ c1 a b x y from k)]
    exact tn2_E ha (by omega) (by omega)
theorem tn2_SS (hab : a ≤ b) (i1 : a = b → zabs x ≤ zabs y) (h : (tn2 a b c x y z).1 = 1) : (tnz (tn2 a b c x y z).2).1 ≠ 1 := by
  by_cases k : (c < b ∨ (b = c ∧ zabs z < zabs y))
  · have e : tn2 a b c x y z = (1, a, c, b, x, z, y) := by
      unfold tn2
      rw [if_pos (show c2 b c y z from k)]
    rw [e]
    show (tn a c b x z y).1 ≠ 1
    have key : ∀ {a b c x y z : Int}, (sh a b c x y z).1 ≠ 1 := by
      intro a b c x y z
      unfold sh
      repeat' split
      all_goals first | exact (show (2 : Int) ≠ 1 by decide) | exact (show (0 : Int) ≠ 1 by decide)
    unfold tn
    by_cases k1 : (c < a ∨ (a = c ∧ zabs z < zabs x))
    · rw [if_pos (show c1 a c x z from k1)]
      unfold tn2
      rw [if_neg (show ¬ (b < a ∨ (a = b ∧ zabs y < zabs x)) by omega)]
      exact key
    · rw [if_neg (show ¬ c1 a c x z from k1)]
      unfold tn2
      rw [if_neg (show ¬ (b < c ∨ (c = b ∧ zabs y < zabs z)) by omega)]
      exact key
  · exfalso
    have key : ∀ {a b c x y z : Int}, (sh a b c x y z).1 ≠ 1 := by
      intro a b c x y z
      unfold sh
      repeat' split
      all_goals first | exact (show (2 : Int) ≠ 1 by decide) | exact (show (0 : Int) ≠ 1 by decide)
    unfold tn2 at h
    rw [if_neg (show ¬ c2 b c y z from k)] at h
    exact key h
theorem tn_SS (h : (tn a b c x y z).1 = 1) : (tnz (tn a b c x y z).2).1 ≠ 1 := by
  unfold tn at h ⊢
  by_cases k : (b < a ∨ (a = b ∧ zabs y < zabs x))
  · rw [if_pos (show c1 a b x y from k)] at h ⊢
    exact tn2_SS (by omega) (by omega) h
  · rw [if_neg (show ¬ c1 a b x y from k)] at h ⊢
    exact tn2_SS (by omega) (by omega) h
end CALM
def PDz (q : Z6) : Prop := PD q.1 q.2.1 q.2.2.1 q.2.2.2.1 q.2.2.2.2.1 q.2.2.2.2.2
def sumz (q : Z6) : Int := q.1 + q.2.1 + q.2.2.1
theorem tnz_keep {q : Z6} (h : PDz q) : PDz (tnz q).2 ∧ sumz (tnz q).2 ≤ sumz q ∧ ((tnz q).1 = 0 ∨ (tnz q).1 = 1 ∨ (tnz q).1 = 2) := ⟨(tn_keep h).1.1, (tn_keep h).1.2, (tn_keep h).2⟩
theorem calm_le {t : Int × Z6} {S S' : Int} (h : calm t S) (hs : S ≤ S') : calm t S' := h.imp id (fun q => by omega)
theorem four {q : Z6} (h : PDz q) : calm (tnz q) (sumz q) ∨ calm (tnz (tnz q).2) (sumz q) ∨ calm (tnz (tnz (tnz q).2).2) (sumz q) ∨ calm (tnz (tnz (tnz (tnz q).2).2).2) (sumz q) := by
  have k1 := tnz_keep h
  rcases tn_E (a := q.1) (b := q.2.1) (c := q.2.2.1) (x := q.2.2.2.1) (y := q.2.2.2.2.1) (z := q.2.2.2.2.2) (PD.ga h) (PD.gb h) with e | e | e | e
  · have n1 : (tnz (tnz q).2).1 ≠ 1 := tn_SS e
    rcases tn_E (a := (tnz q).2.1) (b := (tnz q).2.2.1) (c := (tnz q).2.2.2.1) (x := (tnz q).2.2.2.2.1) (y := (tnz q).2.2.2.2.2.1) (z := (tnz q).2.2.2.2.2.2) (PD.ga k1.1) (PD.gb k1.1) with f | f | f | f
    · exact absurd f n1
    · exact Or.inr (Or.inl (calm_le f k1.2.1))
    · exact Or.inr (Or.inr (Or.inl (calm_le f k1.2.1)))
    · exact Or.inr (Or.inr (Or.inr (calm_le f k1.2.1)))
  · exact Or.inl e
  · exact Or.inr (Or.inl e)
  · exact Or.inr (Or.inr (Or.inl e))
-- the turns to the end
def zrun : Nat → Z6 → Option (Z6 × Nat)
  | 0, _ => none
  | n + 1, q => if (tnz q).1 = 0 then some ((tnz q).2, 0) else Option.map (fun r => (r.1, if (tnz q).1 = 1 then r.2 else r.2 + 1)) (zrun n (tnz q).2)
theorem zrun_step {n : Nat} {q : Z6} {r : Z6 × Nat} (h : zrun n (tnz q).2 = some r) : ∃ r', zrun (n + 1) q = some r' := by
  rw [zrun]
  by_cases k : (tnz q).1 = 0
  · rw [if_pos k]; exact ⟨_, rfl⟩
  · rw [if_neg k, h]; exact ⟨_, rfl⟩
theorem zrun_end {n : Nat} {q : Z6} (h : (tnz q).1 = 0) : ∃ r, zrun (n + 1) q = some r := by
  rw [zrun, if_pos h]
  exact ⟨_, rfl⟩
theorem zrun_mono {n : Nat} : ∀ {q : Z6} {r : Z6 × Nat}, zrun n q = some r → zrun (n + 1) q = some r := by
  induction n with
  | zero => intro q r h; cases h
  | succ n ih =>
    intro q r h
    rw [zrun] at h ⊢
    by_cases k : (tnz q).1 = 0
    · rw [if_pos k] at h ⊢; exact h
    · rw [if_neg k] at h ⊢
      rcases e : zrun n (tnz q).2 with _ | s
      · rw [e] at h; cases h
      · rw [e] at h
        rw [ih e]
        exact h
theorem zrun_add {n m : Nat} {q : Z6} {r : Z6 × Nat} (h : zrun n q = some r) : zrun (n + m) q = some r := by
  induction m with
  | zero => exact h
  | succ m ih => exact zrun_mono ih
theorem zrun_calm {n : Nat} {q : Z6} {S : Int} (hc : calm (tnz q) S) (h : sumz (tnz q).2 < S → ∃ r, zrun n (tnz q).2 = some r) : ∃ r, zrun (n + 1) q = some r := by
  rcases hc with hc | hc
  · exact zrun_end hc
  · obtain ⟨r, hr⟩ := h hc
    exact zrun_step hr
theorem zrun_ends : ∀ (S : Nat) {q : Z6}, PDz q → sumz q ≤ S → ∃ r, zrun (4 * S) q = some r := by
  intro S
  induction S with
  | zero =>
    intro q h hs
    have h1 := PD.ga h
    have h2 := PD.gb h
    have h3 := PD.gc h
    unfold sumz at hs
    omega
  | succ S ih =>
    intro q h hs
    have k1 := tnz_keep h
    have k2 := tnz_keep k1.1
    have k3 := tnz_keep k2.1
    have k4 := tnz_keep k3.1
    have up : ∀ {n m : Nat} {p : Z6}, n ≤ m → (∃ r, zrun n p = some r) → ∃ r, zrun m p = some r := fun {n m p} hn ⟨r, hr⟩ => ⟨r, by rw [show m = n + (m - n) by omega]; exact zrun_add hr⟩
    rcases four h with c | c | c | c
    · exact up (n := 4 * S + 1) (by omega) (zrun_calm c (fun hl => ih k1.1 (by omega)))
    · obtain ⟨r, hr⟩ := zrun_calm (n := 4 * S) c (fun hl => ih k2.1 (by omega))
      exact up (n := 4 * S + 1 + 1) (by omega) (zrun_step hr)
    · obtain ⟨r, hr⟩ := zrun_calm (n := 4 * S) c (fun hl => ih k3.1 (by omega))
      obtain ⟨r, hr⟩ := zrun_step hr
      exact up (n := 4 * S + 1 + 1 + 1) (by omega) (zrun_step hr)
    · obtain ⟨r, hr⟩ := zrun_calm (n := 4 * S) c (fun hl => ih k4.1 (by omega))
      obtain ⟨r, hr⟩ := zrun_step hr
      obtain ⟨r, hr⟩ := zrun_step hr
      exact up (n := 4 * S + 1 + 1 + 1 + 1) (by omega) (zrun_step hr)

