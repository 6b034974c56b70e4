def NRm (a b c u v w m : Int) : Prop := 1 ≤ a ∧ a ≤ b ∧ b ≤ c ∧ 0 ≤ u ∧ 0 ≤ v ∧ 0 ≤ w ∧ u ≤ b ∧ v ≤ a ∧ w ≤ a ∧ (a = b → u ≤ v) ∧ (b = c → v ≤ w) ∧ ((m = 0 ∧ (u = b → w = 0) ∧ (v = a → w = 0) ∧ (w = a → v = 0) ∧ u + v + w ≤ a + b ∧ (u + v + w = a + b → 2 * (a - v) - w ≤ 0)) ∨ (1 ≤ u ∧ 1 ≤ v ∧ 1 ≤ w ∧ m ≤ 2 * u ∧ m ≤ 2 * v ∧ m ≤ 2 * w ∧ (m = 2 * u ∨ m = 2 * v ∨ m = 2 * w) ∧ (u = b → w ≤ 2 * v) ∧ (v = a → w ≤ 2 * u) ∧ (w = a → v ≤ 2 * u)))
theorem us_001010100 {a b c u v w m A B C U V W M : Int} (h1 : NRm a b c u v w m) (h2 : NRm A B C U V W M) (e1 : A = c) (e2 : B = b) (e3 : C = a) (e4 : A + B - W = b + c - u) (e5 : A + C - V = a + c - v) (e6 : B + C - U = a + b - w) (e7 : A + B + C - U - V - W + M = a + b + c - u - v - w + m) : A = a ∧ B = b ∧ C = c ∧ U = u ∧ V = v ∧ W = w ∧ M = m := by
  unfold NRm at h1 h2
  omega
theorem us_001010101 {a b c u v w m A B C U V W M : Int} (h1 : NRm a b c u v w m) (h2 : NRm A B C U V W M) (e1 : A = c) (e2 : B = b) (e3 : C = a + c - v) (e4 : A + B - W = b + c - u) (e5 : A + C - V = a) (e6 : B + C - U = a + b + c - u - v - w + m) (e7 : A + B + C - U - V - W + M = a + b - w) : A = a ∧ B = b ∧ C = c ∧ U = u ∧ V = v ∧ W = w ∧ M = m := by
  unfold NRm at h1 h2
  omega
theorem us_001010110 {a b c u v w m A B C U V W M : Int} (h1 : NRm a b c u v w m) (h2 : NRm A B C U V W M) (e1 : A = c) (e2 : B = b) (e3 : C = a + b - w) (e4 : A + B - W = b + c - u) (e5 : A + C - V = a + b + c - u - v - w + m) (e6 : B + C - U = a) (e7 : A + B + C - U - V - W + M = a + c - v) : A = a ∧ B = b ∧ C = c ∧ U = u ∧ V = v ∧ W = w ∧ M = m := by
  unfold NRm at h1 h2
  omega
theorem us_001010111 {a b c u v w m A B C U V W M : Int} (h1 : NRm a b c u v w m) (h2 : NRm A B C U V W M) (e1 : A = c) (e2 : B = b) (e3 : C = a + b + c - u - v - w + m) (e4 : A + B - W = b + c - u) (e5 : A + C - V = a + b - w) (e6 : B + C - U = a + c - v) (e7 : A + B + C - U - V - W + M = a) : A = a ∧ B = b ∧ C = c ∧ U = u ∧ V = v ∧ W = w ∧ M = m := by
  unfold NRm at h1 h2
  omega
theorem us_001011100 {a b c u v w m A B C U V W M : Int} (h1 : NRm a b c u v w m) (h2 : NRm A B C U V W M) (e1 : A = c) (e2 : B = b + c - u) (e3 : C = a) (e4 : A + B - W = b) (e5 : A + C - V = a + c - v) (e6 : B + C - U = a + b + c - u - v - w + m) (e7 : A + B + C - U - V - W + M = a + b - w) : A = a ∧ B = b ∧ C = c ∧ U = u ∧ V = v ∧ W = w ∧ M = m := by
  unfold NRm at h1 h2
  omega
theorem us_001011101 {a b c u v w m A B C U V W M : Int} (h1 : NRm a b c u v w m) (h2 : NRm A B C U V W M) (e1 : A = c) (e2 : B = b + c - u) (e3 : C = a + c - v) (e4 : A + B - W = b) (e5 : A + C - V = a) (e6 : B + C - U = a + b - w) (e7 : A + B + C - U - V - W + M = a + b + c - u - v - w + m) : A = a ∧ B = b ∧ C = c ∧ U = u ∧ V = v ∧ W = w ∧ M = m := by
  unfold NRm at h1 h2
  omega


