-- cases, 10
set_option maxHeartbeats 4000000 in
theorem ut_110111010 {a b c u v w m A B C U V W M : Int} (h1 : NRf a b c u v w m) (h2 : NRf A B C U V W M) (e1 : A = a + b - w) (e2 : B = a + b + c - u - v - w + m) (e3 : C = b) (e4 : A + B - W = c) (e5 : A + C - V = a) (e6 : B + C - U = a + c - v) (e7 : A + B + C - U - V - W + M = b + c - u) : A = a ∧ B = b ∧ C = c := by
  unfold NRf at h1 h2
  refine ⟨?_, ?_, ?_⟩ <;> omega
set_option maxHeartbeats 4000000 in
theorem us_110111010 {a b c u v w m A B C U V W M : Int} (h1 : NRm a b c u v w m) (h2 : NRm A B C U V W M) (e1 : A = a + b - w) (e2 : B = a + b + c - u - v - w + m) (e3 : C = b) (e4 : A + B - W = c) (e5 : A + C - V = a) (e6 : B + C - U = a + c - v) (e7 : A + B + C - U - V - W + M = b + c - u) : A = a ∧ B = b ∧ C = c ∧ U = u ∧ V = v ∧ W = w ∧ M = m := by
  have f1 := h1.f
  have f2 := h2.f
  obtain ⟨q1, q2, q3⟩ := ut_110111010 f1 f2 e1 e2 e3 e4 e5 e6 e7
  unfold NRf at f1 f2
  obtain ⟨_, _, _, _, _, _, _, _, _, o1, o2, o3⟩ := h1
  obtain ⟨_, _, _, _, _, _, _, _, _, p1, p2, p3⟩ := h2
  refine ⟨q1, q2, q3, ?_⟩
  rcases o1 with s | s
  · exfalso; omega
  · rcases p3 with ⟨s1, s2, p4, p5, p6, p7⟩ | ⟨s1, p4, p5, p6, p7⟩
    · exfalso; omega
    · rcases o2 with s | s
      · exfalso; omega
      · rcases p1 with s | s
        · exfalso; omega
        · rcases p2 with s | s
          · exfalso; omega
          · rcases p6 with s | s
            · exfalso; omega
            · rcases p7 with s | s
              · exfalso; omega
              · rcases o3 with ⟨s1, s2, o4, o5, o6, o7⟩ | ⟨s1, o4, o5, o6, o7⟩
                · rcases o6 with s | s
                  · exfalso; omega
                  · exfalso; omega
                · rcases o4 with s | s | s
                  · exfalso; omega
                  · exfalso; omega
                  · exfalso; omega
set_option maxHeartbeats 4000000 in
theorem ut_110111011 {a b c u v w m A B C U V W M : Int} (h1 : NRf a b c u v w m) (h2 : NRf A B C U V W M) (e1 : A = a + b - w) (e2 : B = a + b + c - u - v - w + m) (e3 : C = b + c - u) (e4 : A + B - W = c) (e5 : A + C - V = a + c - v) (e6 : B + C - U = a) (e7 : A + B + C - U - V - W + M = b) : A = a ∧ B = b ∧ C = c := by
  unfold NRf at h1 h2
  refine ⟨?_, ?_, ?_⟩ <;> omega
set_option maxHeartbeats 4000000 in
theorem us_110111011 {a b c u v w m A B C U V W M : Int} (h1 : NRm a b c u v w m) (h2 : NRm A B C U V W M) (e1 : A = a + b - w) (e2 : B = a + b + c - u - v - w + m) (e3 : C = b + c - u) (e4 : A + B - W = c) (e5 : A + C - V = a + c - v) (e6 : B + C - U = a) (e7 : A + B + C - U - V - W + M = b) : A = a ∧ B = b ∧ C = c ∧ U = u ∧ V = v ∧ W = w ∧ M = m := by
  have f1 := h1.f
  have f2 := h2.f
  obtain ⟨q1, q2, q3⟩ := ut_110111011 f1 f2 e1 e2 e3 e4 e5 e6 e7
  unfold NRf at f1 f2
  obtain ⟨_, _, _, _, _, _, _, _, _, o1, o2, o3⟩ := h1
  obtain ⟨_, _, _, _, _, _, _, _, _, p1, p2, p3⟩ := h2
  refine ⟨q1, q2, q3, ?_⟩
  omega
set_option maxHeartbeats 4000000 in
theorem ut_110111100 {a b c u v w m A B C U V W M : Int} (h1 : NRf a b c u v w m) (h2 : NRf A B C U V W M) (e1 : A = a + b - w) (e2 : B = a + b + c - u - v - w + m) (e3 : C = a) (e4 : A + B - W = c) (e5 : A + C - V = b) (e6 : B + C - U = b + c - u) (e7 : A + B + C - U - V - W + M = a + c - v) : A = a ∧ B = b ∧ C = c := by
  unfold NRf at h1 h2
  refine ⟨?_, ?_, ?_⟩ <;> omega
set_option maxHeartbeats 4000000 in
theorem us_110111100 {a b c u v w m A B C U V W M : Int} (h1 : NRm a b c u v w m) (h2 : NRm A B C U V W M) (e1 : A = a + b - w) (e2 : B = a + b + c - u - v - w + m) (e3 : C = a) (e4 : A + B - W = c) (e5 : A + C - V = b) (e6 : B + C - U = b + c - u) (e7 : A + B + C - U - V - W + M = a + c - v) : A = a ∧ B = b ∧ C = c ∧ U = u ∧ V = v ∧ W = w ∧ M = m := by
  have f1 := h1.f
  have f2 := h2.f
  obtain ⟨q1, q2, q3⟩ := ut_110111100 f1 f2 e1 e2 e3 e4 e5 e6 e7
  unfold NRf at f1 f2
  obtain ⟨_, _, _, _, _, _, _, _, _, o1, o2, o3⟩ := h1
  obtain ⟨_, _, _, _, _, _, _, _, _, p1, p2, p3⟩ := h2
  refine ⟨q1, q2, q3, ?_⟩
  rcases p3 with ⟨s1, s2, p4, p5, p6, p7⟩ | ⟨s1, p4, p5, p6, p7⟩
  · omega
  · rcases o1 with s | s
    · exfalso; omega
    · rcases o2 with s | s
      · exfalso; omega
      · rcases p1 with s | s
        · exfalso; omega
        · rcases p2 with s | s
          · exfalso; omega
          · rcases p5 with s | s
            · rcases p6 with s | s
              · exfalso; omega
              · rcases p7 with s | s
                · exfalso; omega
                · rcases p4 with s | s | s
                  · rcases o3 with ⟨s1, s2, o4, o5, o6, o7⟩ | ⟨s1, o4, o5, o6, o7⟩
                    · rcases o6 with s | s
                      · exfalso; omega
                      · exfalso; omega
                    · rcases o4 with s | s | s
                      · exfalso; omega
                      · exfalso; omega
                      · exfalso; omega
                  · exfalso; omega
                  · exfalso; omega
            · omega
set_option maxHeartbeats 4000000 in
theorem ut_110111101 {a b c u v w m A B C U V W M : Int} (h1 : NRf a b c u v w m) (h2 : NRf A B C U V W M) (e1 : A = a + b - w) (e2 : B = a + b + c - u - v - w + m) (e3 : C = a + c - v) (e4 : A + B - W = c) (e5 : A + C - V = b + c - u) (e6 : B + C - U = b) (e7 : A + B + C - U - V - W + M = a) : A = a ∧ B = b ∧ C = c := by
  unfold NRf at h1 h2
  refine ⟨?_, ?_, ?_⟩ <;> omega
set_option maxHeartbeats 4000000 in
theorem us_110111101 {a b c u v w m A B C U V W M : Int} (h1 : NRm a b c u v w m) (h2 : NRm A B C U V W M) (e1 : A = a + b - w) (e2 : B = a + b + c - u - v - w + m) (e3 : C = a + c - v) (e4 : A + B - W = c) (e5 : A + C - V = b + c - u) (e6 : B + C - U = b) (e7 : A + B + C - U - V - W + M = a) : A = a ∧ B = b ∧ C = c ∧ U = u ∧ V = v ∧ W = w ∧ M = m := by
  have f1 := h1.f
  have f2 := h2.f
  obtain ⟨q1, q2, q3⟩ := ut_110111101 f1 f2 e1 e2 e3 e4 e5 e6 e7
  unfold NRf at f1 f2
  obtain ⟨_, _, _, _, _, _, _, _, _, o1, o2, o3⟩ := h1
  obtain ⟨_, _, _, _, _, _, _, _, _, p1, p2, p3⟩ := h2
  refine ⟨q1, q2, q3, ?_⟩
  rcases p1 with s | s
  · exfalso; omega
  · omega
set_option maxHeartbeats 4000000 in
theorem ut_111001010 {a b c u v w m A B C U V W M : Int} (h1 : NRf a b c u v w m) (h2 : NRf A B C U V W M) (e1 : A = a + b + c - u - v - w + m) (e2 : B = c) (e3 : C = b) (e4 : A + B - W = a + b - w) (e5 : A + C - V = a + c - v) (e6 : B + C - U = b + c - u) (e7 : A + B + C - U - V - W + M = a) : A = a ∧ B = b ∧ C = c := by
  unfold NRf at h1 h2
  refine ⟨?_, ?_, ?_⟩ <;> omega
set_option maxHeartbeats 4000000 in
theorem us_111001010 {a b c u v w m A B C U V W M : Int} (h1 : NRm a b c u v w m) (h2 : NRm A B C U V W M) (e1 : A = a + b + c - u - v - w + m) (e2 : B = c) (e3 : C = b) (e4 : A + B - W = a + b - w) (e5 : A + C - V = a + c - v) (e6 : B + C - U = b + c - u) (e7 : A + B + C - U - V - W + M = a) : A = a ∧ B = b ∧ C = c ∧ U = u ∧ V = v ∧ W = w ∧ M = m := by
  have f1 := h1.f
  have f2 := h2.f
  obtain ⟨q1, q2, q3⟩ := ut_111001010 f1 f2 e1 e2 e3 e4 e5 e6 e7
  unfold NRf at f1 f2
  obtain ⟨_, _, _, _, _, _, _, _, _, o1, o2, o3⟩ := h1
  obtain ⟨_, _, _, _, _, _, _, _, _, p1, p2, p3⟩ := h2
  refine ⟨q1, q2, q3, ?_⟩
  omega
set_option maxHeartbeats 4000000 in
theorem ut_111001011 {a b c u v w m A B C U V W M : Int} (h1 : NRf a b c u v w m) (h2 : NRf A B C U V W M) (e1 : A = a + b + c - u - v - w + m) (e2 : B = c) (e3 : C = b + c - u) (e4 : A + B - W = a + b - w) (e5 : A + C - V = a) (e6 : B + C - U = b) (e7 : A + B + C - U - V - W + M = a + c - v) : A = a ∧ B = b ∧ C = c := by
  unfold NRf at h1 h2
  refine ⟨?_, ?_, ?_⟩ <;> omega
set_option maxHeartbeats 4000000 in
theorem us_111001011 {a b c u v w m A B C U V W M : Int} (h1 : NRm a b c u v w m) (h2 : NRm A B C U V W M) (e1 : A = a + b + c - u - v - w + m) (e2 : B = c) (e3 : C = b + c - u) (e4 : A + B - W = a + b - w) (e5 : A + C - V = a) (e6 : B + C - U = b) (e7 : A + B + C - U - V - W + M = a + c - v) : A = a ∧ B = b ∧ C = c ∧ U = u ∧ V = v ∧ W = w ∧ M = m := by
  have f1 := h1.f
  have f2 := h2.f
  obtain ⟨q1, q2, q3⟩ := ut_111001011 f1 f2 e1 e2 e3 e4 e5 e6 e7
  unfold NRf at f1 f2
  obtain ⟨_, _, _, _, _, _, _, _, _, o1, o2, o3⟩ := h1
  obtain ⟨_, _, _, _, _, _, _, _, _, p1, p2, p3⟩ := h2
  refine ⟨q1, q2, q3, ?_⟩
  rcases o1 with s | s
  · exfalso; omega
  · omega
set_option maxHeartbeats 4000000 in
theorem ut_111001100 {a b c u v w m A B C U V W M : Int} (h1 : NRf a b c u v w m) (h2 : NRf A B C U V W M) (e1 : A = a + b + c - u - v - w + m) (e2 : B = c) (e3 : C = a) (e4 : A + B - W = a + b - w) (e5 : A + C - V = b + c - u) (e6 : B + C - U = a + c - v) (e7 : A + B + C - U - V - W + M = b) : A = a ∧ B = b ∧ C = c := by
  unfold NRf at h1 h2
  refine ⟨?_, ?_, ?_⟩ <;> omega
set_option maxHeartbeats 4000000 in
theorem us_111001100 {a b c u v w m A B C U V W M : Int} (h1 : NRm a b c u v w m) (h2 : NRm A B C U V W M) (e1 : A = a + b + c - u - v - w + m) (e2 : B = c) (e3 : C = a) (e4 : A + B - W = a + b - w) (e5 : A + C - V = b + c - u) (e6 : B + C - U = a + c - v) (e7 : A + B + C - U - V - W + M = b) : A = a ∧ B = b ∧ C = c ∧ U = u ∧ V = v ∧ W = w ∧ M = m := by
  have f1 := h1.f
  have f2 := h2.f
  obtain ⟨q1, q2, q3⟩ := ut_111001100 f1 f2 e1 e2 e3 e4 e5 e6 e7
  unfold NRf at f1 f2
  obtain ⟨_, _, _, _, _, _, _, _, _, o1, o2, o3⟩ := h1
  obtain ⟨_, _, _, _, _, _, _, _, _, p1, p2, p3⟩ := h2
  refine ⟨q1, q2, q3, ?_⟩
  rcases o1 with s | s
  · exfalso; omega
  · rcases p1 with s | s
    · exfalso; omega
    · omega
set_option maxHeartbeats 4000000 in
theorem ut_111001101 {a b c u v w m A B C U V W M : Int} (h1 : NRf a b c u v w m) (h2 : NRf A B C U V W M) (e1 : A = a + b + c - u - v - w + m) (e2 : B = c) (e3 : C = a + c - v) (e4 : A + B - W = a + b - w) (e5 : A + C - V = b) (e6 : B + C - U = a) (e7 : A + B + C - U - V - W + M = b + c - u) : A = a ∧ B = b ∧ C = c := by
  unfold NRf at h1 h2
  refine ⟨?_, ?_, ?_⟩ <;> omega
set_option maxHeartbeats 4000000 in
theorem us_111001101 {a b c u v w m A B C U V W M : Int} (h1 : NRm a b c u v w m) (h2 : NRm A B C U V W M) (e1 : A = a + b + c - u - v - w + m) (e2 : B = c) (e3 : C = a + c - v) (e4 : A + B - W = a + b - w) (e5 : A + C - V = b) (e6 : B + C - U = a) (e7 : A + B + C - U - V - W + M = b + c - u) : A = a ∧ B = b ∧ C = c ∧ U = u ∧ V = v ∧ W = w ∧ M = m := by
  have f1 := h1.f
  have f2 := h2.f
  obtain ⟨q1, q2, q3⟩ := ut_111001101 f1 f2 e1 e2 e3 e4 e5 e6 e7
  unfold NRf at f1 f2
  obtain ⟨_, _, _, _, _, _, _, _, _, o1, o2, o3⟩ := h1
  obtain ⟨_, _, _, _, _, _, _, _, _, p1, p2, p3⟩ := h2
  refine ⟨q1, q2, q3, ?_⟩
  rcases p3 with ⟨s1, s2, p4, p5, p6, p7⟩ | ⟨s1, p4, p5, p6, p7⟩
  · omega
  · rcases o1 with s | s
    · exfalso; omega
    · rcases o2 with s | s
      · exfalso; omega
      · rcases p1 with s | s
        · exfalso; omega
        · rcases p2 with s | s
          · exfalso; omega
          · rcases p5 with s | s
            · exfalso; omega
            · rcases p6 with s | s
              · exfalso; omega
              · rcases p7 with s | s
                · exfalso; omega
                · rcases o3 with ⟨s1, s2, o4, o5, o6, o7⟩ | ⟨s1, o4, o5, o6, o7⟩
                  · rcases o5 with s | s
                    · exfalso; omega
                    · exfalso; omega
                  · rcases o4 with s | s | s
                    · exfalso; omega
                    · exfalso; omega
                    · exfalso; omega
set_option maxHeartbeats 4000000 in
theorem ut_111010001 {a b c u v w m A B C U V W M : Int} (h1 : NRf a b c u v w m) (h2 : NRf A B C U V W M) (e1 : A = a + b + c - u - v - w + m) (e2 : B = b) (e3 : C = c) (e4 : A + B - W = a + c - v) (e5 : A + C - V = a + b - w) (e6 : B + C - U = b + c - u) (e7 : A + B + C - U - V - W + M = a) : A = a ∧ B = b ∧ C = c := by
  unfold NRf at h1 h2
  refine ⟨?_, ?_, ?_⟩ <;> omega
set_option maxHeartbeats 4000000 in
theorem us_111010001 {a b c u v w m A B C U V W M : Int} (h1 : NRm a b c u v w m) (h2 : NRm A B C U V W M) (e1 : A = a + b + c - u - v - w + m) (e2 : B = b) (e3 : C = c) (e4 : A + B - W = a + c - v) (e5 : A + C - V = a + b - w) (e6 : B + C - U = b + c - u) (e7 : A + B + C - U - V - W + M = a) : A = a ∧ B = b ∧ C = c ∧ U = u ∧ V = v ∧ W = w ∧ M = m := by
  have f1 := h1.f
  have f2 := h2.f
  obtain ⟨q1, q2, q3⟩ := ut_111010001 f1 f2 e1 e2 e3 e4 e5 e6 e7
  unfold NRf at f1 f2
  obtain ⟨_, _, _, _, _, _, _, _, _, o1, o2, o3⟩ := h1
  obtain ⟨_, _, _, _, _, _, _, _, _, p1, p2, p3⟩ := h2
  refine ⟨q1, q2, q3, ?_⟩
  rcases o2 with s | s
  · exfalso; omega
  · rcases p2 with s | s
    · exfalso; omega
    · omega
set_option maxHeartbeats 4000000 in
theorem ut_111010011 {a b c u v w m A B C U V W M : Int} (h1 : NRf a b c u v w m) (h2 : NRf A B C U V W M) (e1 : A = a + b + c - u - v - w + m) (e2 : B = b) (e3 : C = b + c - u) (e4 : A + B - W = a + c - v) (e5 : A + C - V = a) (e6 : B + C - U = c) (e7 : A + B + C - U - V - W + M = a + b - w) : A = a ∧ B = b ∧ C = c := by
  unfold NRf at h1 h2
  refine ⟨?_, ?_, ?_⟩ <;> omega
set_option maxHeartbeats 4000000 in
theorem us_111010011 {a b c u v w m A B C U V W M : Int} (h1 : NRm a b c u v w m) (h2 : NRm A B C U V W M) (e1 : A = a + b + c - u - v - w + m) (e2 : B = b) (e3 : C = b + c - u) (e4 : A + B - W = a + c - v) (e5 : A + C - V = a) (e6 : B + C - U = c) (e7 : A + B + C - U - V - W + M = a + b - w) : A = a ∧ B = b ∧ C = c ∧ U = u ∧ V = v ∧ W = w ∧ M = m := by
  have f1 := h1.f
  have f2 := h2.f
  obtain ⟨q1, q2, q3⟩ := ut_111010011 f1 f2 e1 e2 e3 e4 e5 e6 e7
  unfold NRf at f1 f2
  obtain ⟨_, _, _, _, _, _, _, _, _, o1, o2, o3⟩ := h1
  obtain ⟨_, _, _, _, _, _, _, _, _, p1, p2, p3⟩ := h2
  refine ⟨q1, q2, q3, ?_⟩
  rcases o1 with s | s
  · exfalso; omega
  · rcases o2 with s | s
    · exfalso; omega
    · omega
set_option maxHeartbeats 4000000 in
theorem ut_111010100 {a b c u v w m A B C U V W M : Int} (h1 : NRf a b c u v w m) (h2 : NRf A B C U V W M) (e1 : A = a + b + c - u - v - w + m) (e2 : B = b) (e3 : C = a) (e4 : A + B - W = a + c - v) (e5 : A + C - V = b + c - u) (e6 : B + C - U = a + b - w) (e7 : A + B + C - U - V - W + M = c) : A = a ∧ B = b ∧ C = c := by
  unfold NRf at h1 h2
  refine ⟨?_, ?_, ?_⟩ <;> omega
set_option maxHeartbeats 4000000 in
theorem us_111010100 {a b c u v w m A B C U V W M : Int} (h1 : NRm a b c u v w m) (h2 : NRm A B C U V W M) (e1 : A = a + b + c - u - v - w + m) (e2 : B = b) (e3 : C = a) (e4 : A + B - W = a + c - v) (e5 : A + C - V = b + c - u) (e6 : B + C - U = a + b - w) (e7 : A + B + C - U - V - W + M = c) : A = a ∧ B = b ∧ C = c ∧ U = u ∧ V = v ∧ W = w ∧ M = m := by
  have f1 := h1.f
  have f2 := h2.f
  obtain ⟨q1, q2, q3⟩ := ut_111010100 f1 f2 e1 e2 e3 e4 e5 e6 e7
  unfold NRf at f1 f2
  obtain ⟨_, _, _, _, _, _, _, _, _, o1, o2, o3⟩ := h1
  obtain ⟨_, _, _, _, _, _, _, _, _, p1, p2, p3⟩ := h2
  refine ⟨q1, q2, q3, ?_⟩
  rcases o1 with s | s
  · exfalso; omega
  · rcases o2 with s | s
    · exfalso; omega
    · rcases p1 with s | s
      · exfalso; omega
      · omega
set_option maxHeartbeats 4000000 in
theorem ut_111010110 {a b c u v w m A B C U V W M : Int} (h1 : NRf a b c u v w m) (h2 : NRf A B C U V W M) (e1 : A = a + b + c - u - v - w + m) (e2 : B = b) (e3 : C = a + b - w) (e4 : A + B - W = a + c - v) (e5 : A + C - V = c) (e6 : B + C - U = a) (e7 : A + B + C - U - V - W + M = b + c - u) : A = a ∧ B = b ∧ C = c := by
  unfold NRf at h1 h2
  refine ⟨?_, ?_, ?_⟩ <;> omega
set_option maxHeartbeats 4000000 in
theorem us_111010110 {a b c u v w m A B C U V W M : Int} (h1 : NRm a b c u v w m) (h2 : NRm A B C U V W M) (e1 : A = a + b + c - u - v - w + m) (e2 : B = b) (e3 : C = a + b - w) (e4 : A + B - W = a + c - v) (e5 : A + C - V = c) (e6 : B + C - U = a) (e7 : A + B + C - U - V - W + M = b + c - u) : A = a ∧ B = b ∧ C = c ∧ U = u ∧ V = v ∧ W = w ∧ M = m := by
  have f1 := h1.f
  have f2 := h2.f
  obtain ⟨q1, q2, q3⟩ := ut_111010110 f1 f2 e1 e2 e3 e4 e5 e6 e7
  unfold NRf at f1 f2
  obtain ⟨_, _, _, _, _, _, _, _, _, o1, o2, o3⟩ := h1
  obtain ⟨_, _, _, _, _, _, _, _, _, p1, p2, p3⟩ := h2
  refine ⟨q1, q2, q3, ?_⟩
  rcases o1 with s | s
  · exfalso; omega
  · rcases p3 with ⟨s1, s2, p4, p5, p6, p7⟩ | ⟨s1, p4, p5, p6, p7⟩
    · exfalso; omega
    · rcases o2 with s | s
      · exfalso; omega
      · rcases p1 with s | s
        · exfalso; omega
        · rcases p2 with s | s
          · exfalso; omega
          · rcases p5 with s | s
            · exfalso; omega
            · rcases p6 with s | s
              · exfalso; omega
              · rcases p7 with s | s
                · exfalso; omega
                · rcases o3 with ⟨s1, s2, o4, o5, o6, o7⟩ | ⟨s1, o4, o5, o6, o7⟩
                  · rcases o5 with s | s
                    · exfalso; omega
                    · exfalso; omega
                  · rcases o4 with s | s | s
                    · exfalso; omega
                    · exfalso; omega
                    · exfalso; omega
set_option maxHeartbeats 4000000 in
theorem ut_111011001 {a b c u v w m A B C U V W M : Int} (h1 : NRf a b c u v w m) (h2 : NRf A B C U V W M) (e1 : A = a + b + c - u - v - w + m) (e2 : B = b + c - u) (e3 : C = c) (e4 : A + B - W = a) (e5 : A + C - V = a + b - w) (e6 : B + C - U = b) (e7 : A + B + C - U - V - W + M = a + c - v) : A = a ∧ B = b ∧ C = c := by
  unfold NRf at h1 h2
  refine ⟨?_, ?_, ?_⟩ <;> omega
set_option maxHeartbeats 4000000 in
theorem us_111011001 {a b c u v w m A B C U V W M : Int} (h1 : NRm a b c u v w m) (h2 : NRm A B C U V W M) (e1 : A = a + b + c - u - v - w + m) (e2 : B = b + c - u) (e3 : C = c) (e4 : A + B - W = a) (e5 : A + C - V = a + b - w) (e6 : B + C - U = b) (e7 : A + B + C - U - V - W + M = a + c - v) : A = a ∧ B = b ∧ C = c ∧ U = u ∧ V = v ∧ W = w ∧ M = m := by
  have f1 := h1.f
  have f2 := h2.f
  obtain ⟨q1, q2, q3⟩ := ut_111011001 f1 f2 e1 e2 e3 e4 e5 e6 e7
  unfold NRf at f1 f2
  obtain ⟨_, _, _, _, _, _, _, _, _, o1, o2, o3⟩ := h1
  obtain ⟨_, _, _, _, _, _, _, _, _, p1, p2, p3⟩ := h2
  refine ⟨q1, q2, q3, ?_⟩
  rcases o1 with s | s
  · exfalso; omega
  · rcases o2 with s | s
    · exfalso; omega
    · omega
set_option maxHeartbeats 4000000 in
theorem ut_111011010 {a b c u v w m A B C U V W M : Int} (h1 : NRf a b c u v w m) (h2 : NRf A B C U V W M) (e1 : A = a + b + c - u - v - w + m) (e2 : B = b + c - u) (e3 : C = b) (e4 : A + B - W = a) (e5 : A + C - V = a + c - v) (e6 : B + C - U = c) (e7 : A + B + C - U - V - W + M = a + b - w) : A = a ∧ B = b ∧ C = c := by
  unfold NRf at h1 h2
  refine ⟨?_, ?_, ?_⟩ <;> omega
set_option maxHeartbeats 4000000 in
theorem us_111011010 {a b c u v w m A B C U V W M : Int} (h1 : NRm a b c u v w m) (h2 : NRm A B C U V W M) (e1 : A = a + b + c - u - v - w + m) (e2 : B = b + c - u) (e3 : C = b) (e4 : A + B - W = a) (e5 : A + C - V = a + c - v) (e6 : B + C - U = c) (e7 : A + B + C - U - V - W + M = a + b - w) : A = a ∧ B = b ∧ C = c ∧ U = u ∧ V = v ∧ W = w ∧ M = m := by
  have f1 := h1.f
  have f2 := h2.f
  obtain ⟨q1, q2, q3⟩ := ut_111011010 f1 f2 e1 e2 e3 e4 e5 e6 e7
  unfold NRf at f1 f2
  obtain ⟨_, _, _, _, _, _, _, _, _, o1, o2, o3⟩ := h1
  obtain ⟨_, _, _, _, _, _, _, _, _, p1, p2, p3⟩ := h2
  refine ⟨q1, q2, q3, ?_⟩
  rcases o1 with s | s
  · exfalso; omega
  · rcases o2 with s | s
    · exfalso; omega
    · omega

