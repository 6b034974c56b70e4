-- the least values on the classes mod 2 fix a reduced form: the cases
def Im (P Q : Prop) : Prop := ¬ P ∨ (P ∧ Q)
def Or2 (P Q : Prop) : Prop := P ∨ Q
def Or3 (P Q R : Prop) : Prop := P ∨ Q ∨ R
def NRm (a b c u v w m : Int) : Prop := 1 ≤ a ∧ a ≤ b ∧ b ≤ c ∧ 0 ≤ u ∧ 0 ≤ v ∧ 0 ≤ w ∧ u ≤ b ∧ v ≤ a ∧ w ≤ a ∧ Im (a = b) (u ≤ v) ∧ Im (b = c) (v ≤ w) ∧ Or2 (m = 0 ∧ u + v + w ≤ a + b ∧ Im (u = b) (w = 0) ∧ Im (v = a) (w = 0) ∧ Im (w = a) (v = 0) ∧ Im (u + v + w = a + b) (2 * (a - v) - w ≤ 0)) ((1 ≤ u ∧ 1 ≤ v ∧ 1 ≤ w ∧ m ≤ 2 * u ∧ m ≤ 2 * v ∧ m ≤ 2 * w) ∧ Or3 (m = 2 * u) (m = 2 * v) (m = 2 * w) ∧ Im (u = b) (w ≤ 2 * v) ∧ Im (v = a) (w ≤ 2 * u) ∧ Im (w = a) (v ≤ 2 * u))
def NRf (a b c u v w m : Int) : Prop := 1 ≤ a ∧ a ≤ b ∧ b ≤ c ∧ 0 ≤ u ∧ 0 ≤ v ∧ 0 ≤ w ∧ u ≤ b ∧ v ≤ a ∧ w ≤ a ∧ 0 ≤ m ∧ m ≤ 2 * u ∧ m ≤ 2 * v ∧ m ≤ 2 * w ∧ u + v + w - m ≤ a + b
theorem NRm.f {a b c u v w m : Int} (h : NRm a b c u v w m) : NRf a b c u v w m := by
  obtain ⟨h1, h2, h3, h4, h5, h6, h7, h8, h9, _, _, h⟩ := h
  unfold NRf
  rcases h with ⟨g1, g2, _, _, _, _⟩ | ⟨g1, g2, _, _, _⟩
  · omega
  · rcases g2 with g | g | g <;> omega
set_option maxHeartbeats 4000000 in
theorem ut_001010100 {a b c u v w m A B C U V W M : Int} (h1 : NRf a b c u v w m) (h2 : NRf A B C U V W M) (e1 : A = c) (e2 : B = b) (e3 : C = a) (e4 : A + B - W = b + c - u) (e5 : A + C - V = a + c - v) (e6 : B + C - U = a + b - w) (e7 : A + B + C - U - V - W + M = a + b + c - u - v - w + m) : A = a ∧ B = b ∧ C = c := by
  unfold NRf at h1 h2
  refine ⟨?_, ?_, ?_⟩ <;> omega
set_option maxHeartbeats 4000000 in
theorem us_001010100 {a b c u v w m A B C U V W M : Int} (h1 : NRm a b c u v w m) (h2 : NRm A B C U V W M) (e1 : A = c) (e2 : B = b) (e3 : C = a) (e4 : A + B - W = b + c - u) (e5 : A + C - V = a + c - v) (e6 : B + C - U = a + b - w) (e7 : A + B + C - U - V - W + M = a + b + c - u - v - w + m) : A = a ∧ B = b ∧ C = c ∧ U = u ∧ V = v ∧ W = w ∧ M = m := by
  have f1 := h1.f
  have f2 := h2.f
  obtain ⟨q1, q2, q3⟩ := ut_001010100 f1 f2 e1 e2 e3 e4 e5 e6 e7
  unfold NRf at f1 f2
  obtain ⟨_, _, _, _, _, _, _, _, _, o1, o2, o3⟩ := h1
  obtain ⟨_, _, _, _, _, _, _, _, _, p1, p2, p3⟩ := h2
  refine ⟨q1, q2, q3, ?_⟩
  rcases o1 with s | s
  · exfalso; omega
  · rcases o2 with s | s
    · exfalso; omega
    · rcases p1 with s | s
      · exfalso; omega
      · rcases p2 with s | s
        · exfalso; omega
        · omega
set_option maxHeartbeats 4000000 in
theorem ut_001010101 {a b c u v w m A B C U V W M : Int} (h1 : NRf a b c u v w m) (h2 : NRf A B C U V W M) (e1 : A = c) (e2 : B = b) (e3 : C = a + c - v) (e4 : A + B - W = b + c - u) (e5 : A + C - V = a) (e6 : B + C - U = a + b + c - u - v - w + m) (e7 : A + B + C - U - V - W + M = a + b - w) : A = a ∧ B = b ∧ C = c := by
  unfold NRf at h1 h2
  refine ⟨?_, ?_, ?_⟩ <;> omega
set_option maxHeartbeats 4000000 in
theorem us_001010101 {a b c u v w m A B C U V W M : Int} (h1 : NRm a b c u v w m) (h2 : NRm A B C U V W M) (e1 : A = c) (e2 : B = b) (e3 : C = a + c - v) (e4 : A + B - W = b + c - u) (e5 : A + C - V = a) (e6 : B + C - U = a + b + c - u - v - w + m) (e7 : A + B + C - U - V - W + M = a + b - w) : A = a ∧ B = b ∧ C = c ∧ U = u ∧ V = v ∧ W = w ∧ M = m := by
  have f1 := h1.f
  have f2 := h2.f
  obtain ⟨q1, q2, q3⟩ := ut_001010101 f1 f2 e1 e2 e3 e4 e5 e6 e7
  unfold NRf at f1 f2
  obtain ⟨_, _, _, _, _, _, _, _, _, o1, o2, o3⟩ := h1
  obtain ⟨_, _, _, _, _, _, _, _, _, p1, p2, p3⟩ := h2
  refine ⟨q1, q2, q3, ?_⟩
  rcases o1 with s | s
  · exfalso; omega
  · rcases o2 with s | s
    · exfalso; omega
    · rcases p1 with s | s
      · exfalso; omega
      · rcases p2 with s | s
        · exfalso; omega
        · rcases o3 with ⟨s1, s2, o4, o5, o6, o7⟩ | ⟨s1, o4, o5, o6, o7⟩
          · exfalso; omega
          · rcases o5 with s | s
            · exfalso; omega
            · rcases o6 with s | s
              · exfalso; omega
              · rcases o7 with s | s
                · exfalso; omega
                · rcases p3 with ⟨s1, s2, p4, p5, p6, p7⟩ | ⟨s1, p4, p5, p6, p7⟩
                  · rcases p5 with s | s
                    · exfalso; omega
                    · exfalso; omega
                  · rcases o4 with s | s | s
                    · exfalso; omega
                    · exfalso; omega
                    · exfalso; omega
set_option maxHeartbeats 4000000 in
theorem ut_001010110 {a b c u v w m A B C U V W M : Int} (h1 : NRf a b c u v w m) (h2 : NRf A B C U V W M) (e1 : A = c) (e2 : B = b) (e3 : C = a + b - w) (e4 : A + B - W = b + c - u) (e5 : A + C - V = a + b + c - u - v - w + m) (e6 : B + C - U = a) (e7 : A + B + C - U - V - W + M = a + c - v) : A = a ∧ B = b ∧ C = c := by
  unfold NRf at h1 h2
  refine ⟨?_, ?_, ?_⟩ <;> omega
set_option maxHeartbeats 4000000 in
theorem us_001010110 {a b c u v w m A B C U V W M : Int} (h1 : NRm a b c u v w m) (h2 : NRm A B C U V W M) (e1 : A = c) (e2 : B = b) (e3 : C = a + b - w) (e4 : A + B - W = b + c - u) (e5 : A + C - V = a + b + c - u - v - w + m) (e6 : B + C - U = a) (e7 : A + B + C - U - V - W + M = a + c - v) : A = a ∧ B = b ∧ C = c ∧ U = u ∧ V = v ∧ W = w ∧ M = m := by
  have f1 := h1.f
  have f2 := h2.f
  obtain ⟨q1, q2, q3⟩ := ut_001010110 f1 f2 e1 e2 e3 e4 e5 e6 e7
  unfold NRf at f1 f2
  obtain ⟨_, _, _, _, _, _, _, _, _, o1, o2, o3⟩ := h1
  obtain ⟨_, _, _, _, _, _, _, _, _, p1, p2, p3⟩ := h2
  refine ⟨q1, q2, q3, ?_⟩
  rcases o1 with s | s
  · exfalso; omega
  · rcases p1 with s | s
    · exfalso; omega
    · rcases p2 with s | s
      · exfalso; omega
      · omega
set_option maxHeartbeats 4000000 in
theorem ut_001010111 {a b c u v w m A B C U V W M : Int} (h1 : NRf a b c u v w m) (h2 : NRf A B C U V W M) (e1 : A = c) (e2 : B = b) (e3 : C = a + b + c - u - v - w + m) (e4 : A + B - W = b + c - u) (e5 : A + C - V = a + b - w) (e6 : B + C - U = a + c - v) (e7 : A + B + C - U - V - W + M = a) : A = a ∧ B = b ∧ C = c := by
  unfold NRf at h1 h2
  refine ⟨?_, ?_, ?_⟩ <;> omega
set_option maxHeartbeats 4000000 in
theorem us_001010111 {a b c u v w m A B C U V W M : Int} (h1 : NRm a b c u v w m) (h2 : NRm A B C U V W M) (e1 : A = c) (e2 : B = b) (e3 : C = a + b + c - u - v - w + m) (e4 : A + B - W = b + c - u) (e5 : A + C - V = a + b - w) (e6 : B + C - U = a + c - v) (e7 : A + B + C - U - V - W + M = a) : A = a ∧ B = b ∧ C = c ∧ U = u ∧ V = v ∧ W = w ∧ M = m := by
  have f1 := h1.f
  have f2 := h2.f
  obtain ⟨q1, q2, q3⟩ := ut_001010111 f1 f2 e1 e2 e3 e4 e5 e6 e7
  unfold NRf at f1 f2
  obtain ⟨_, _, _, _, _, _, _, _, _, o1, o2, o3⟩ := h1
  obtain ⟨_, _, _, _, _, _, _, _, _, p1, p2, p3⟩ := h2
  refine ⟨q1, q2, q3, ?_⟩
  rcases o1 with s | s
  · exfalso; omega
  · rcases o2 with s | s
    · exfalso; omega
    · rcases p2 with s | s
      · exfalso; omega
      · omega
set_option maxHeartbeats 4000000 in
theorem ut_001011100 {a b c u v w m A B C U V W M : Int} (h1 : NRf a b c u v w m) (h2 : NRf A B C U V W M) (e1 : A = c) (e2 : B = b + c - u) (e3 : C = a) (e4 : A + B - W = b) (e5 : A + C - V = a + c - v) (e6 : B + C - U = a + b + c - u - v - w + m) (e7 : A + B + C - U - V - W + M = a + b - w) : A = a ∧ B = b ∧ C = c := by
  unfold NRf at h1 h2
  refine ⟨?_, ?_, ?_⟩ <;> omega
set_option maxHeartbeats 4000000 in
theorem us_001011100 {a b c u v w m A B C U V W M : Int} (h1 : NRm a b c u v w m) (h2 : NRm A B C U V W M) (e1 : A = c) (e2 : B = b + c - u) (e3 : C = a) (e4 : A + B - W = b) (e5 : A + C - V = a + c - v) (e6 : B + C - U = a + b + c - u - v - w + m) (e7 : A + B + C - U - V - W + M = a + b - w) : A = a ∧ B = b ∧ C = c ∧ U = u ∧ V = v ∧ W = w ∧ M = m := by
  have f1 := h1.f
  have f2 := h2.f
  obtain ⟨q1, q2, q3⟩ := ut_001011100 f1 f2 e1 e2 e3 e4 e5 e6 e7
  unfold NRf at f1 f2
  obtain ⟨_, _, _, _, _, _, _, _, _, o1, o2, o3⟩ := h1
  obtain ⟨_, _, _, _, _, _, _, _, _, p1, p2, p3⟩ := h2
  refine ⟨q1, q2, q3, ?_⟩
  rcases o1 with s | s
  · exfalso; omega
  · rcases o2 with s | s
    · exfalso; omega
    · rcases o3 with ⟨s1, s2, o4, o5, o6, o7⟩ | ⟨s1, o4, o5, o6, o7⟩
      · exfalso; omega
      · rcases o5 with s | s
        · exfalso; omega
        · rcases o6 with s | s
          · exfalso; omega
          · rcases o7 with s | s
            · exfalso; omega
            · rcases p1 with s | s
              · exfalso; omega
              · rcases p2 with s | s
                · exfalso; omega
                · rcases p3 with ⟨s1, s2, p4, p5, p6, p7⟩ | ⟨s1, p4, p5, p6, p7⟩
                  · rcases p5 with s | s
                    · exfalso; omega
                    · exfalso; omega
                  · rcases o4 with s | s | s
                    · exfalso; omega
                    · exfalso; omega
                    · exfalso; omega
set_option maxHeartbeats 4000000 in
theorem ut_001011101 {a b c u v w m A B C U V W M : Int} (h1 : NRf a b c u v w m) (h2 : NRf A B C U V W M) (e1 : A = c) (e2 : B = b + c - u) (e3 : C = a + c - v) (e4 : A + B - W = b) (e5 : A + C - V = a) (e6 : B + C - U = a + b - w) (e7 : A + B + C - U - V - W + M = a + b + c - u - v - w + m) : A = a ∧ B = b ∧ C = c := by
  unfold NRf at h1 h2
  refine ⟨?_, ?_, ?_⟩ <;> omega
set_option maxHeartbeats 4000000 in
theorem us_001011101 {a b c u v w m A B C U V W M : Int} (h1 : NRm a b c u v w m) (h2 : NRm A B C U V W M) (e1 : A = c) (e2 : B = b + c - u) (e3 : C = a + c - v) (e4 : A + B - W = b) (e5 : A + C - V = a) (e6 : B + C - U = a + b - w) (e7 : A + B + C - U - V - W + M = a + b + c - u - v - w + m) : A = a ∧ B = b ∧ C = c ∧ U = u ∧ V = v ∧ W = w ∧ M = m := by
  have f1 := h1.f
  have f2 := h2.f
  obtain ⟨q1, q2, q3⟩ := ut_001011101 f1 f2 e1 e2 e3 e4 e5 e6 e7
  unfold NRf at f1 f2
  obtain ⟨_, _, _, _, _, _, _, _, _, o1, o2, o3⟩ := h1
  obtain ⟨_, _, _, _, _, _, _, _, _, p1, p2, p3⟩ := h2
  refine ⟨q1, q2, q3, ?_⟩
  rcases o2 with s | s
  · exfalso; omega
  · omega
set_option maxHeartbeats 4000000 in
theorem ut_001011110 {a b c u v w m A B C U V W M : Int} (h1 : NRf a b c u v w m) (h2 : NRf A B C U V W M) (e1 : A = c) (e2 : B = b + c - u) (e3 : C = a + b - w) (e4 : A + B - W = b) (e5 : A + C - V = a + b + c - u - v - w + m) (e6 : B + C - U = a + c - v) (e7 : A + B + C - U - V - W + M = a) : A = a ∧ B = b ∧ C = c := by
  unfold NRf at h1 h2
  refine ⟨?_, ?_, ?_⟩ <;> omega
set_option maxHeartbeats 4000000 in
theorem us_001011110 {a b c u v w m A B C U V W M : Int} (h1 : NRm a b c u v w m) (h2 : NRm A B C U V W M) (e1 : A = c) (e2 : B = b + c - u) (e3 : C = a + b - w) (e4 : A + B - W = b) (e5 : A + C - V = a + b + c - u - v - w + m) (e6 : B + C - U = a + c - v) (e7 : A + B + C - U - V - W + M = a) : A = a ∧ B = b ∧ C = c ∧ U = u ∧ V = v ∧ W = w ∧ M = m := by
  have f1 := h1.f
  have f2 := h2.f
  obtain ⟨q1, q2, q3⟩ := ut_001011110 f1 f2 e1 e2 e3 e4 e5 e6 e7
  unfold NRf at f1 f2
  obtain ⟨_, _, _, _, _, _, _, _, _, o1, o2, o3⟩ := h1
  obtain ⟨_, _, _, _, _, _, _, _, _, p1, p2, p3⟩ := h2
  refine ⟨q1, q2, q3, ?_⟩
  rcases o1 with s | s
  · exfalso; omega
  · rcases p1 with s | s
    · exfalso; omega
    · omega
set_option maxHeartbeats 4000000 in
theorem ut_001011111 {a b c u v w m A B C U V W M : Int} (h1 : NRf a b c u v w m) (h2 : NRf A B C U V W M) (e1 : A = c) (e2 : B = b + c - u) (e3 : C = a + b + c - u - v - w + m) (e4 : A + B - W = b) (e5 : A + C - V = a + b - w) (e6 : B + C - U = a) (e7 : A + B + C - U - V - W + M = a + c - v) : A = a ∧ B = b ∧ C = c := by
  unfold NRf at h1 h2
  refine ⟨?_, ?_, ?_⟩ <;> omega
set_option maxHeartbeats 4000000 in
theorem us_001011111 {a b c u v w m A B C U V W M : Int} (h1 : NRm a b c u v w m) (h2 : NRm A B C U V W M) (e1 : A = c) (e2 : B = b + c - u) (e3 : C = a + b + c - u - v - w + m) (e4 : A + B - W = b) (e5 : A + C - V = a + b - w) (e6 : B + C - U = a) (e7 : A + B + C - U - V - W + M = a + c - v) : A = a ∧ B = b ∧ C = c ∧ U = u ∧ V = v ∧ W = w ∧ M = m := by
  have f1 := h1.f
  have f2 := h2.f
  obtain ⟨q1, q2, q3⟩ := ut_001011111 f1 f2 e1 e2 e3 e4 e5 e6 e7
  unfold NRf at f1 f2
  obtain ⟨_, _, _, _, _, _, _, _, _, o1, o2, o3⟩ := h1
  obtain ⟨_, _, _, _, _, _, _, _, _, p1, p2, p3⟩ := h2
  refine ⟨q1, q2, q3, ?_⟩
  rcases o1 with s | s
  · exfalso; omega
  · rcases o2 with s | s
    · exfalso; omega
    · omega
set_option maxHeartbeats 4000000 in
theorem ut_001100010 {a b c u v w m A B C U V W M : Int} (h1 : NRf a b c u v w m) (h2 : NRf A B C U V W M) (e1 : A = c) (e2 : B = a) (e3 : C = b) (e4 : A + B - W = a + c - v) (e5 : A + C - V = b + c - u) (e6 : B + C - U = a + b - w) (e7 : A + B + C - U - V - W + M = a + b + c - u - v - w + m) : A = a ∧ B = b ∧ C = c := by
  unfold NRf at h1 h2
  refine ⟨?_, ?_, ?_⟩ <;> omega
set_option maxHeartbeats 4000000 in
theorem us_001100010 {a b c u v w m A B C U V W M : Int} (h1 : NRm a b c u v w m) (h2 : NRm A B C U V W M) (e1 : A = c) (e2 : B = a) (e3 : C = b) (e4 : A + B - W = a + c - v) (e5 : A + C - V = b + c - u) (e6 : B + C - U = a + b - w) (e7 : A + B + C - U - V - W + M = a + b + c - u - v - w + m) : A = a ∧ B = b ∧ C = c ∧ U = u ∧ V = v ∧ W = w ∧ M = m := by
  have f1 := h1.f
  have f2 := h2.f
  obtain ⟨q1, q2, q3⟩ := ut_001100010 f1 f2 e1 e2 e3 e4 e5 e6 e7
  unfold NRf at f1 f2
  obtain ⟨_, _, _, _, _, _, _, _, _, o1, o2, o3⟩ := h1
  obtain ⟨_, _, _, _, _, _, _, _, _, p1, p2, p3⟩ := h2
  refine ⟨q1, q2, q3, ?_⟩
  rcases o1 with s | s
  · exfalso; omega
  · rcases o2 with s | s
    · exfalso; omega
    · rcases p1 with s | s
      · exfalso; omega
      · omega
set_option maxHeartbeats 4000000 in
theorem ut_001100011 {a b c u v w m A B C U V W M : Int} (h1 : NRf a b c u v w m) (h2 : NRf A B C U V W M) (e1 : A = c) (e2 : B = a) (e3 : C = b + c - u) (e4 : A + B - W = a + c - v) (e5 : A + C - V = b) (e6 : B + C - U = a + b + c - u - v - w + m) (e7 : A + B + C - U - V - W + M = a + b - w) : A = a ∧ B = b ∧ C = c := by
  unfold NRf at h1 h2
  refine ⟨?_, ?_, ?_⟩ <;> omega
set_option maxHeartbeats 4000000 in
theorem us_001100011 {a b c u v w m A B C U V W M : Int} (h1 : NRm a b c u v w m) (h2 : NRm A B C U V W M) (e1 : A = c) (e2 : B = a) (e3 : C = b + c - u) (e4 : A + B - W = a + c - v) (e5 : A + C - V = b) (e6 : B + C - U = a + b + c - u - v - w + m) (e7 : A + B + C - U - V - W + M = a + b - w) : A = a ∧ B = b ∧ C = c ∧ U = u ∧ V = v ∧ W = w ∧ M = m := by
  have f1 := h1.f
  have f2 := h2.f
  obtain ⟨q1, q2, q3⟩ := ut_001100011 f1 f2 e1 e2 e3 e4 e5 e6 e7
  unfold NRf at f1 f2
  obtain ⟨_, _, _, _, _, _, _, _, _, o1, o2, o3⟩ := h1
  obtain ⟨_, _, _, _, _, _, _, _, _, p1, p2, p3⟩ := h2
  refine ⟨q1, q2, q3, ?_⟩
  rcases o1 with s | s
  · exfalso; omega
  · rcases o2 with s | s
    · exfalso; omega
    · rcases o3 with ⟨s1, s2, o4, o5, o6, o7⟩ | ⟨s1, o4, o5, o6, o7⟩
      · exfalso; omega
      · rcases o5 with s | s
        · exfalso; omega
        · rcases o6 with s | s
          · exfalso; omega
          · rcases o7 with s | s
            · exfalso; omega
            · rcases p1 with s | s
              · exfalso; omega
              · rcases p2 with s | s
                · exfalso; omega
                · rcases p3 with ⟨s1, s2, p4, p5, p6, p7⟩ | ⟨s1, p4, p5, p6, p7⟩
                  · rcases p5 with s | s
                    · exfalso; omega
                    · exfalso; omega
                  · rcases o4 with s | s | s
                    · exfalso; omega
                    · exfalso; omega
                    · exfalso; omega
set_option maxHeartbeats 4000000 in
theorem ut_001100110 {a b c u v w m A B C U V W M : Int} (h1 : NRf a b c u v w m) (h2 : NRf A B C U V W M) (e1 : A = c) (e2 : B = a) (e3 : C = a + b - w) (e4 : A + B - W = a + c - v) (e5 : A + C - V = a + b + c - u - v - w + m) (e6 : B + C - U = b) (e7 : A + B + C - U - V - W + M = b + c - u) : A = a ∧ B = b ∧ C = c := by
  unfold NRf at h1 h2
  refine ⟨?_, ?_, ?_⟩ <;> omega
set_option maxHeartbeats 4000000 in
theorem us_001100110 {a b c u v w m A B C U V W M : Int} (h1 : NRm a b c u v w m) (h2 : NRm A B C U V W M) (e1 : A = c) (e2 : B = a) (e3 : C = a + b - w) (e4 : A + B - W = a + c - v) (e5 : A + C - V = a + b + c - u - v - w + m) (e6 : B + C - U = b) (e7 : A + B + C - U - V - W + M = b + c - u) : A = a ∧ B = b ∧ C = c ∧ U = u ∧ V = v ∧ W = w ∧ M = m := by
  have f1 := h1.f
  have f2 := h2.f
  obtain ⟨q1, q2, q3⟩ := ut_001100110 f1 f2 e1 e2 e3 e4 e5 e6 e7
  unfold NRf at f1 f2
  obtain ⟨_, _, _, _, _, _, _, _, _, o1, o2, o3⟩ := h1
  obtain ⟨_, _, _, _, _, _, _, _, _, p1, p2, p3⟩ := h2
  refine ⟨q1, q2, q3, ?_⟩
  rcases o1 with s | s
  · exfalso; omega
  · rcases o2 with s | s
    · exfalso; omega
    · rcases p1 with s | s
      · exfalso; omega
      · rcases p3 with ⟨s1, s2, p4, p5, p6, p7⟩ | ⟨s1, p4, p5, p6, p7⟩
        · exfalso; omega
        · rcases p2 with s | s
          · exfalso; omega
          · rcases p5 with s | s
            · exfalso; omega
            · rcases p6 with s | s
              · exfalso; omega
              · rcases p7 with s | s
                · exfalso; omega
                · rcases o3 with ⟨s1, s2, o4, o5, o6, o7⟩ | ⟨s1, o4, o5, o6, o7⟩
                  · rcases o5 with s | s
                    · exfalso; omega
                    · exfalso; omega
                  · rcases o4 with s | s | s
                    · exfalso; omega
                    · exfalso; omega
                    · exfalso; omega
set_option maxHeartbeats 4000000 in
theorem ut_001100111 {a b c u v w m A B C U V W M : Int} (h1 : NRf a b c u v w m) (h2 : NRf A B C U V W M) (e1 : A = c) (e2 : B = a) (e3 : C = a + b + c - u - v - w + m) (e4 : A + B - W = a + c - v) (e5 : A + C - V = a + b - w) (e6 : B + C - U = b + c - u) (e7 : A + B + C - U - V - W + M = b) : A = a ∧ B = b ∧ C = c := by
  unfold NRf at h1 h2
  refine ⟨?_, ?_, ?_⟩ <;> omega
set_option maxHeartbeats 4000000 in
theorem us_001100111 {a b c u v w m A B C U V W M : Int} (h1 : NRm a b c u v w m) (h2 : NRm A B C U V W M) (e1 : A = c) (e2 : B = a) (e3 : C = a + b + c - u - v - w + m) (e4 : A + B - W = a + c - v) (e5 : A + C - V = a + b - w) (e6 : B + C - U = b + c - u) (e7 : A + B + C - U - V - W + M = b) : A = a ∧ B = b ∧ C = c ∧ U = u ∧ V = v ∧ W = w ∧ M = m := by
  have f1 := h1.f
  have f2 := h2.f
  obtain ⟨q1, q2, q3⟩ := ut_001100111 f1 f2 e1 e2 e3 e4 e5 e6 e7
  unfold NRf at f1 f2
  obtain ⟨_, _, _, _, _, _, _, _, _, o1, o2, o3⟩ := h1
  obtain ⟨_, _, _, _, _, _, _, _, _, p1, p2, p3⟩ := h2
  refine ⟨q1, q2, q3, ?_⟩
  rcases o2 with s | s
  · exfalso; omega
  · rcases p2 with s | s
    · exfalso; omega
    · omega
set_option maxHeartbeats 4000000 in
theorem ut_001101010 {a b c u v w m A B C U V W M : Int} (h1 : NRf a b c u v w m) (h2 : NRf A B C U V W M) (e1 : A = c) (e2 : B = a + c - v) (e3 : C = b) (e4 : A + B - W = a) (e5 : A + C - V = b + c - u) (e6 : B + C - U = a + b + c - u - v - w + m) (e7 : A + B + C - U - V - W + M = a + b - w) : A = a ∧ B = b ∧ C = c := by
  unfold NRf at h1 h2
  refine ⟨?_, ?_, ?_⟩ <;> omega
set_option maxHeartbeats 4000000 in
theorem us_001101010 {a b c u v w m A B C U V W M : Int} (h1 : NRm a b c u v w m) (h2 : NRm A B C U V W M) (e1 : A = c) (e2 : B = a + c - v) (e3 : C = b) (e4 : A + B - W = a) (e5 : A + C - V = b + c - u) (e6 : B + C - U = a + b + c - u - v - w + m) (e7 : A + B + C - U - V - W + M = a + b - w) : A = a ∧ B = b ∧ C = c ∧ U = u ∧ V = v ∧ W = w ∧ M = m := by
  have f1 := h1.f
  have f2 := h2.f
  obtain ⟨q1, q2, q3⟩ := ut_001101010 f1 f2 e1 e2 e3 e4 e5 e6 e7
  unfold NRf at f1 f2
  obtain ⟨_, _, _, _, _, _, _, _, _, o1, o2, o3⟩ := h1
  obtain ⟨_, _, _, _, _, _, _, _, _, p1, p2, p3⟩ := h2
  refine ⟨q1, q2, q3, ?_⟩
  rcases o1 with s | s
  · exfalso; omega
  · rcases o2 with s | s
    · exfalso; omega
    · rcases p1 with s | s
      · exfalso; omega
      · rcases o3 with ⟨s1, s2, o4, o5, o6, o7⟩ | ⟨s1, o4, o5, o6, o7⟩
        · exfalso; omega
        · rcases o6 with s | s
          · exfalso; omega
          · rcases o7 with s | s
            · exfalso; omega
            · rcases p2 with s | s
              · exfalso; omega
              · rcases p3 with ⟨s1, s2, p4, p5, p6, p7⟩ | ⟨s1, p4, p5, p6, p7⟩
                · rcases p6 with s | s
                  · exfalso; omega
                  · exfalso; omega
                · rcases p4 with s | s | s
                  · exfalso; omega
                  · exfalso; omega
                  · exfalso; omega
set_option maxHeartbeats 4000000 in
theorem ut_001101011 {a b c u v w m A B C U V W M : Int} (h1 : NRf a b c u v w m) (h2 : NRf A B C U V W M) (e1 : A = c) (e2 : B = a + c - v) (e3 : C = b + c - u) (e4 : A + B - W = a) (e5 : A + C - V = b) (e6 : B + C - U = a + b - w) (e7 : A + B + C - U - V - W + M = a + b + c - u - v - w + m) : A = a ∧ B = b ∧ C = c := by
  unfold NRf at h1 h2
  refine ⟨?_, ?_, ?_⟩ <;> omega
set_option maxHeartbeats 4000000 in
theorem us_001101011 {a b c u v w m A B C U V W M : Int} (h1 : NRm a b c u v w m) (h2 : NRm A B C U V W M) (e1 : A = c) (e2 : B = a + c - v) (e3 : C = b + c - u) (e4 : A + B - W = a) (e5 : A + C - V = b) (e6 : B + C - U = a + b - w) (e7 : A + B + C - U - V - W + M = a + b + c - u - v - w + m) : A = a ∧ B = b ∧ C = c ∧ U = u ∧ V = v ∧ W = w ∧ M = m := by
  have f1 := h1.f
  have f2 := h2.f
  obtain ⟨q1, q2, q3⟩ := ut_001101011 f1 f2 e1 e2 e3 e4 e5 e6 e7
  unfold NRf at f1 f2
  obtain ⟨_, _, _, _, _, _, _, _, _, o1, o2, o3⟩ := h1
  obtain ⟨_, _, _, _, _, _, _, _, _, p1, p2, p3⟩ := h2
  refine ⟨q1, q2, q3, ?_⟩
  rcases o2 with s | s
  · exfalso; omega
  · omega

