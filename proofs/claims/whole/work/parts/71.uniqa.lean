-- the least values on the classes mod 2 fix a reduced form: all cases together
def bv (a b c u v w m : Int) : Bool → Bool → Bool → Int
  | false, false, false => 0
  | true, false, false => a
  | false, true, false => b
  | false, false, true => c
  | true, true, false => a + b - w
  | true, false, true => a + c - v
  | false, true, true => b + c - u
  | true, true, true => a + b + c - u - v - w + m
section UA
variable {a b c u v w m A B C U V W M : Int}
theorem us_all (h1 : NRm a b c u v w m) (h2 : NRm A B C U V W M) (p1 p2 p3 q1 q2 q3 r1 r2 r3 : Bool) (e1 : A = bv a b c u v w m p1 p2 p3) (e2 : B = bv a b c u v w m q1 q2 q3) (e3 : C = bv a b c u v w m r1 r2 r3) (e4 : A + B - W = bv a b c u v w m (xor p1 q1) (xor p2 q2) (xor p3 q3)) (e5 : A + C - V = bv a b c u v w m (xor p1 r1) (xor p2 r2) (xor p3 r3)) (e6 : B + C - U = bv a b c u v w m (xor q1 r1) (xor q2 r2) (xor q3 r3)) (e7 : A + B + C - U - V - W + M = bv a b c u v w m (xor (xor p1 q1) r1) (xor (xor p2 q2) r2) (xor (xor p3 q3) r3)) : A = a ∧ B = b ∧ C = c ∧ U = u ∧ V = v ∧ W = w ∧ M = m := by
  have f2 := h2.f
  unfold NRf at f2
  have g1 : A ≠ 0 := by omega
  have g2 : B ≠ 0 := by omega
  have g3 : C ≠ 0 := by omega
  have g4 : A + B - W ≠ 0 := by omega
  have g5 : A + C - V ≠ 0 := by omega
  have g6 : B + C - U ≠ 0 := by omega
  have g7 : A + B + C - U - V - W + M ≠ 0 := by omega
  clear f2
  cases p1
  · cases p2
    · cases p3
      · exact absurd e1 g1
      · cases q1
        · cases q2
          · cases q3
            · exact absurd e2 g2
            · exact absurd e4 g4
          · cases q3
            · cases r1
              · cases r2
                · cases r3
                  · exact absurd e3 g3
                  · exact absurd e5 g5
                · cases r3
                  · exact absurd e6 g6
                  · exact absurd e7 g7
              · cases r2
                · cases r3
                  · exact us_001010100 h1 h2 e1 e2 e3 e4 e5 e6 e7
                  · exact us_001010101 h1 h2 e1 e2 e3 e4 e5 e6 e7
                · cases r3
                  · exact us_001010110 h1 h2 e1 e2 e3 e4 e5 e6 e7
                  · exact us_001010111 h1 h2 e1 e2 e3 e4 e5 e6 e7
            · cases r1
              · cases r2
                · cases r3
                  · exact absurd e3 g3
                  · exact absurd e5 g5
                · cases r3
                  · exact absurd e7 g7
                  · exact absurd e6 g6
              · cases r2
                · cases r3
                  · exact us_001011100 h1 h2 e1 e2 e3 e4 e5 e6 e7
                  · exact us_001011101 h1 h2 e1 e2 e3 e4 e5 e6 e7
                · cases r3
                  · exact us_001011110 h1 h2 e1 e2 e3 e4 e5 e6 e7
                  · exact us_001011111 h1 h2 e1 e2 e3 e4 e5 e6 e7
        · cases q2
          · cases q3
            · cases r1
              · cases r2
                · cases r3
                  · exact absurd e3 g3
                  · exact absurd e5 g5
                · cases r3
                  · exact us_001100010 h1 h2 e1 e2 e3 e4 e5 e6 e7
                  · exact us_001100011 h1 h2 e1 e2 e3 e4 e5 e6 e7
              · cases r2
                · cases r3
                  · exact absurd e6 g6
                  · exact absurd e7 g7
                · cases r3
                  · exact us_001100110 h1 h2 e1 e2 e3 e4 e5 e6 e7
                  · exact us_001100111 h1 h2 e1 e2 e3 e4 e5 e6 e7
            · cases r1
              · cases r2
                · cases r3
                  · exact absurd e3 g3
                  · exact absurd e5 g5
                · cases r3
                  · exact us_001101010 h1 h2 e1 e2 e3 e4 e5 e6 e7
                  · exact us_001101011 h1 h2 e1 e2 e3 e4 e5 e6 e7
              · cases r2
                · cases r3
                  · exact absurd e7 g7
                  · exact absurd e6 g6
                · cases r3
                  · exact us_001101110 h1 h2 e1 e2 e3 e4 e5 e6 e7
                  · exact us_001101111 h1 h2 e1 e2 e3 e4 e5 e6 e7
          · cases q3
            · cases r1
              · cases r2
                · cases r3
                  · exact absurd e3 g3
                  · exact absurd e5 g5
                · cases r3
                  · exact us_001110010 h1 h2 e1 e2 e3 e4 e5 e6 e7
                  · exact us_001110011 h1 h2 e1 e2 e3 e4 e5 e6 e7
              · cases r2
                · cases r3
                  · exact us_001110100 h1 h2 e1 e2 e3 e4 e5 e6 e7
                  · exact us_001110101 h1 h2 e1 e2 e3 e4 e5 e6 e7
                · cases r3
                  · exact absurd e6 g6
                  · exact absurd e7 g7
            · cases r1
              · cases r2
                · cases r3
                  · exact absurd e3 g3
                  · exact absurd e5 g5
                · cases r3
                  · exact us_001111010 h1 h2 e1 e2 e3 e4 e5 e6 e7
                  · exact us_001111011 h1 h2 e1 e2 e3 e4 e5 e6 e7
              · cases r2
                · cases r3
                  · exact us_001111100 h1 h2 e1 e2 e3 e4 e5 e6 e7
                  · exact us_001111101 h1 h2 e1 e2 e3 e4 e5 e6 e7
                · cases r3
                  · exact absurd e7 g7
                  · exact absurd e6 g6
    · cases p3
      · cases q1
        · cases q2
          · cases q3
            · exact absurd e2 g2
            · cases r1
              · cases r2
                · cases r3
                  · exact absurd e3 g3
                  · exact absurd e6 g6
                · cases r3
                  · exact absurd e5 g5
                  · exact absurd e7 g7
              · cases r2
                · cases r3
                  · exact us_010001100 h1 h2 e1 e2 e3 e4 e5 e6 e7
                  · exact us_010001101 h1 h2 e1 e2 e3 e4 e5 e6 e7
                · cases r3
                  · exact us_010001110 h1 h2 e1 e2 e3 e4 e5 e6 e7
                  · exact us_010001111 h1 h2 e1 e2 e3 e4 e5 e6 e7
          · cases q3
            · exact absurd e4 g4
            · cases r1
              · cases r2
                · cases r3
                  · exact absurd e3 g3
                  · exact absurd e7 g7
                · cases r3
                  · exact absurd e5 g5
                  · exact absurd e6 g6
              · cases r2
                · cases r3
                  · exact us_010011100 h1 h2 e1 e2 e3 e4 e5 e6 e7
                  · exact us_010011101 h1 h2 e1 e2 e3 e4 e5 e6 e7
                · cases r3
                  · exact us_010011110 h1 h2 e1 e2 e3 e4 e5 e6 e7
                  · exact us_010011111 h1 h2 e1 e2 e3 e4 e5 e6 e7
        · cases q2
          · cases q3
            · cases r1
              · cases r2
                · cases r3
                  · exact absurd e3 g3
                  · exact us_010100001 h1 h2 e1 e2 e3 e4 e5 e6 e7
                · cases r3
                  · exact absurd e5 g5
                  · exact us_010100011 h1 h2 e1 e2 e3 e4 e5 e6 e7
              · cases r2
                · cases r3
                  · exact absurd e6 g6
                  · exact us_010100101 h1 h2 e1 e2 e3 e4 e5 e6 e7
                · cases r3
                  · exact absurd e7 g7
                  · exact us_010100111 h1 h2 e1 e2 e3 e4 e5 e6 e7
            · cases r1
              · cases r2
                · cases r3
                  · exact absurd e3 g3
                  · exact us_010101001 h1 h2 e1 e2 e3 e4 e5 e6 e7
                · cases r3
                  · exact absurd e5 g5
                  · exact us_010101011 h1 h2 e1 e2 e3 e4 e5 e6 e7
              · cases r2
                · cases r3
                  · exact us_010101100 h1 h2 e1 e2 e3 e4 e5 e6 e7
                  · exact absurd e6 g6
                · cases r3
                  · exact us_010101110 h1 h2 e1 e2 e3 e4 e5 e6 e7
                  · exact absurd e7 g7
          · cases q3
            · cases r1
              · cases r2
                · cases r3
                  · exact absurd e3 g3
                  · exact us_010110001 h1 h2 e1 e2 e3 e4 e5 e6 e7
                · cases r3
                  · exact absurd e5 g5
                  · exact us_010110011 h1 h2 e1 e2 e3 e4 e5 e6 e7
              · cases r2
                · cases r3
                  · exact absurd e7 g7
                  · exact us_010110101 h1 h2 e1 e2 e3 e4 e5 e6 e7
                · cases r3
                  · exact absurd e6 g6
                  · exact us_010110111 h1 h2 e1 e2 e3 e4 e5 e6 e7
            · cases r1
              · cases r2
                · cases r3
                  · exact absurd e3 g3
                  · exact us_010111001 h1 h2 e1 e2 e3 e4 e5 e6 e7
                · cases r3
                  · exact absurd e5 g5
                  · exact us_010111011 h1 h2 e1 e2 e3 e4 e5 e6 e7
              · cases r2
                · cases r3
                  · exact us_010111100 h1 h2 e1 e2 e3 e4 e5 e6 e7
                  · exact absurd e7 g7
                · cases r3
                  · exact us_010111110 h1 h2 e1 e2 e3 e4 e5 e6 e7
                  · exact absurd e6 g6
      · cases q1
        · cases q2
          · cases q3
            · exact absurd e2 g2
            · cases r1
              · cases r2
                · cases r3
                  · exact absurd e3 g3
                  · exact absurd e6 g6
                · cases r3
                  · exact absurd e7 g7
                  · exact absurd e5 g5
              · cases r2
                · cases r3
                  · exact us_011001100 h1 h2 e1 e2 e3 e4 e5 e6 e7
                  · exact us_011001101 h1 h2 e1 e2 e3 e4 e5 e6 e7
                · cases r3
                  · exact us_011001110 h1 h2 e1 e2 e3 e4 e5 e6 e7
                  · exact us_011001111 h1 h2 e1 e2 e3 e4 e5 e6 e7
          · cases q3
            · cases r1
              · cases r2
                · cases r3
                  · exact absurd e3 g3
                  · exact absurd e7 g7
                · cases r3
                  · exact absurd e6 g6
                  · exact absurd e5 g5
              · cases r2
                · cases r3
                  · exact us_011010100 h1 h2 e1 e2 e3 e4 e5 e6 e7
                  · exact us_011010101 h1 h2 e1 e2 e3 e4 e5 e6 e7
                · cases r3
                  · exact us_011010110 h1 h2 e1 e2 e3 e4 e5 e6 e7
                  · exact us_011010111 h1 h2 e1 e2 e3 e4 e5 e6 e7
            · exact absurd e4 g4
        · cases q2
          · cases q3
            · cases r1
              · cases r2
                · cases r3
                  · exact absurd e3 g3
                  · exact us_011100001 h1 h2 e1 e2 e3 e4 e5 e6 e7
                · cases r3
                  · exact us_011100010 h1 h2 e1 e2 e3 e4 e5 e6 e7
                  · exact absurd e5 g5
              · cases r2
                · cases r3
                  · exact absurd e6 g6
                  · exact us_011100101 h1 h2 e1 e2 e3 e4 e5 e6 e7
                · cases r3
                  · exact us_011100110 h1 h2 e1 e2 e3 e4 e5 e6 e7
                  · exact absurd e7 g7
            · cases r1
              · cases r2
                · cases r3
                  · exact absurd e3 g3
                  · exact us_011101001 h1 h2 e1 e2 e3 e4 e5 e6 e7
                · cases r3
                  · exact us_011101010 h1 h2 e1 e2 e3 e4 e5 e6 e7
                  · exact absurd e5 g5
              · cases r2
                · cases r3
                  · exact us_011101100 h1 h2 e1 e2 e3 e4 e5 e6 e7
                  · exact absurd e6 g6
                · cases r3
                  · exact absurd e7 g7
                  · exact us_011101111 h1 h2 e1 e2 e3 e4 e5 e6 e7
          · cases q3
            · cases r1
              · cases r2
                · cases r3
                  · exact absurd e3 g3
                  · exact us_011110001 h1 h2 e1 e2 e3 e4 e5 e6 e7
                · cases r3
                  · exact us_011110010 h1 h2 e1 e2 e3 e4 e5 e6 e7
                  · exact absurd e5 g5
              · cases r2
                · cases r3
                  · exact us_011110100 h1 h2 e1 e2 e3 e4 e5 e6 e7
                  · exact absurd e7 g7
                · cases r3
                  · exact absurd e6 g6
                  · exact us_011110111 h1 h2 e1 e2 e3 e4 e5 e6 e7
            · cases r1
              · cases r2
                · cases r3
                  · exact absurd e3 g3
                  · exact us_011111001 h1 h2 e1 e2 e3 e4 e5 e6 e7
                · cases r3
                  · exact us_011111010 h1 h2 e1 e2 e3 e4 e5 e6 e7
                  · exact absurd e5 g5
              · cases r2
                · cases r3
                  · exact absurd e7 g7
                  · exact us_011111101 h1 h2 e1 e2 e3 e4 e5 e6 e7
                · cases r3
                  · exact us_011111110 h1 h2 e1 e2 e3 e4 e5 e6 e7
                  · exact absurd e6 g6
  · cases p2
    · cases p3
      · cases q1
        · cases q2
          · cases q3
            · exact absurd e2 g2
            · cases r1
              · cases r2
                · cases r3
                  · exact absurd e3 g3
                  · exact absurd e6 g6
                · cases r3
                  · exact us_100001010 h1 h2 e1 e2 e3 e4 e5 e6 e7
                  · exact us_100001011 h1 h2 e1 e2 e3 e4 e5 e6 e7
              · cases r2
                · cases r3
                  · exact absurd e5 g5
                  · exact absurd e7 g7
                · cases r3
                  · exact us_100001110 h1 h2 e1 e2 e3 e4 e5 e6 e7
                  · exact us_100001111 h1 h2 e1 e2 e3 e4 e5 e6 e7
          · cases q3
            · cases r1
              · cases r2
                · cases r3
                  · exact absurd e3 g3
                  · exact us_100010001 h1 h2 e1 e2 e3 e4 e5 e6 e7
                · cases r3
                  · exact absurd e6 g6
                  · exact us_100010011 h1 h2 e1 e2 e3 e4 e5 e6 e7
              · cases r2
                · cases r3
                  · exact absurd e5 g5
                  · exact us_100010101 h1 h2 e1 e2 e3 e4 e5 e6 e7
                · cases r3
                  · exact absurd e7 g7
                  · exact us_100010111 h1 h2 e1 e2 e3 e4 e5 e6 e7
            · cases r1
              · cases r2
                · cases r3
                  · exact absurd e3 g3
                  · exact us_100011001 h1 h2 e1 e2 e3 e4 e5 e6 e7
                · cases r3
                  · exact us_100011010 h1 h2 e1 e2 e3 e4 e5 e6 e7
                  · exact absurd e6 g6
              · cases r2
                · cases r3
                  · exact absurd e5 g5
                  · exact us_100011101 h1 h2 e1 e2 e3 e4 e5 e6 e7
                · cases r3
                  · exact us_100011110 h1 h2 e1 e2 e3 e4 e5 e6 e7
                  · exact absurd e7 g7
        · cases q2
          · cases q3
            · exact absurd e4 g4
            · cases r1
              · cases r2
                · cases r3
                  · exact absurd e3 g3
                  · exact absurd e7 g7
                · cases r3
                  · exact us_100101010 h1 h2 e1 e2 e3 e4 e5 e6 e7
                  · exact us_100101011 h1 h2 e1 e2 e3 e4 e5 e6 e7
              · cases r2
                · cases r3
                  · exact absurd e5 g5
                  · exact absurd e6 g6
                · cases r3
                  · exact us_100101110 h1 h2 e1 e2 e3 e4 e5 e6 e7
                  · exact us_100101111 h1 h2 e1 e2 e3 e4 e5 e6 e7
          · cases q3
            · cases r1
              · cases r2
                · cases r3
                  · exact absurd e3 g3
                  · exact us_100110001 h1 h2 e1 e2 e3 e4 e5 e6 e7
                · cases r3
                  · exact absurd e7 g7
                  · exact us_100110011 h1 h2 e1 e2 e3 e4 e5 e6 e7
              · cases r2
                · cases r3
                  · exact absurd e5 g5
                  · exact us_100110101 h1 h2 e1 e2 e3 e4 e5 e6 e7
                · cases r3
                  · exact absurd e6 g6
                  · exact us_100110111 h1 h2 e1 e2 e3 e4 e5 e6 e7
            · cases r1
              · cases r2
                · cases r3
                  · exact absurd e3 g3
                  · exact us_100111001 h1 h2 e1 e2 e3 e4 e5 e6 e7
                · cases r3
                  · exact us_100111010 h1 h2 e1 e2 e3 e4 e5 e6 e7
                  · exact absurd e7 g7
              · cases r2
                · cases r3
                  · exact absurd e5 g5
                  · exact us_100111101 h1 h2 e1 e2 e3 e4 e5 e6 e7
                · cases r3
                  · exact us_100111110 h1 h2 e1 e2 e3 e4 e5 e6 e7
                  · exact absurd e6 g6
      · cases q1
        · cases q2
          · cases q3
            · exact absurd e2 g2
            · cases r1
              · cases r2
                · cases r3
                  · exact absurd e3 g3
                  · exact absurd e6 g6
                · cases r3
                  · exact us_101001010 h1 h2 e1 e2 e3 e4 e5 e6 e7
                  · exact us_101001011 h1 h2 e1 e2 e3 e4 e5 e6 e7
              · cases r2
                · cases r3
                  · exact absurd e7 g7
                  · exact absurd e5 g5
                · cases r3
                  · exact us_101001110 h1 h2 e1 e2 e3 e4 e5 e6 e7
                  · exact us_101001111 h1 h2 e1 e2 e3 e4 e5 e6 e7
          · cases q3
            · cases r1
              · cases r2
                · cases r3
                  · exact absurd e3 g3
                  · exact us_101010001 h1 h2 e1 e2 e3 e4 e5 e6 e7
                · cases r3
                  · exact absurd e6 g6
                  · exact us_101010011 h1 h2 e1 e2 e3 e4 e5 e6 e7
              · cases r2
                · cases r3
                  · exact us_101010100 h1 h2 e1 e2 e3 e4 e5 e6 e7
                  · exact absurd e5 g5
                · cases r3
                  · exact us_101010110 h1 h2 e1 e2 e3 e4 e5 e6 e7
                  · exact absurd e7 g7
            · cases r1
              · cases r2
                · cases r3
                  · exact absurd e3 g3
                  · exact us_101011001 h1 h2 e1 e2 e3 e4 e5 e6 e7
                · cases r3
                  · exact us_101011010 h1 h2 e1 e2 e3 e4 e5 e6 e7
                  · exact absurd e6 g6
              · cases r2
                · cases r3
                  · exact us_101011100 h1 h2 e1 e2 e3 e4 e5 e6 e7
                  · exact absurd e5 g5
                · cases r3
                  · exact absurd e7 g7
                  · exact us_101011111 h1 h2 e1 e2 e3 e4 e5 e6 e7
        · cases q2
          · cases q3
            · cases r1
              · cases r2
                · cases r3
                  · exact absurd e3 g3
                  · exact absurd e7 g7
                · cases r3
                  · exact us_101100010 h1 h2 e1 e2 e3 e4 e5 e6 e7
                  · exact us_101100011 h1 h2 e1 e2 e3 e4 e5 e6 e7
              · cases r2
                · cases r3
                  · exact absurd e6 g6
                  · exact absurd e5 g5
                · cases r3
                  · exact us_101100110 h1 h2 e1 e2 e3 e4 e5 e6 e7
                  · exact us_101100111 h1 h2 e1 e2 e3 e4 e5 e6 e7
            · exact absurd e4 g4
          · cases q3
            · cases r1
              · cases r2
                · cases r3
                  · exact absurd e3 g3
                  · exact us_101110001 h1 h2 e1 e2 e3 e4 e5 e6 e7
                · cases r3
                  · exact us_101110010 h1 h2 e1 e2 e3 e4 e5 e6 e7
                  · exact absurd e7 g7
              · cases r2
                · cases r3
                  · exact us_101110100 h1 h2 e1 e2 e3 e4 e5 e6 e7
                  · exact absurd e5 g5
                · cases r3
                  · exact absurd e6 g6
                  · exact us_101110111 h1 h2 e1 e2 e3 e4 e5 e6 e7
            · cases r1
              · cases r2
                · cases r3
                  · exact absurd e3 g3
                  · exact us_101111001 h1 h2 e1 e2 e3 e4 e5 e6 e7
                · cases r3
                  · exact absurd e7 g7
                  · exact us_101111011 h1 h2 e1 e2 e3 e4 e5 e6 e7
              · cases r2
                · cases r3
                  · exact us_101111100 h1 h2 e1 e2 e3 e4 e5 e6 e7
                  · exact absurd e5 g5
                · cases r3
                  · exact us_101111110 h1 h2 e1 e2 e3 e4 e5 e6 e7
                  · exact absurd e6 g6
    · cases p3
      · cases q1
        · cases q2
          · cases q3
            · exact absurd e2 g2
            · cases r1
              · cases r2
                · cases r3
                  · exact absurd e3 g3
                  · exact absurd e6 g6
                · cases r3
                  · exact us_110001010 h1 h2 e1 e2 e3 e4 e5 e6 e7
                  · exact us_110001011 h1 h2 e1 e2 e3 e4 e5 e6 e7
              · cases r2
                · cases r3
                  · exact us_110001100 h1 h2 e1 e2 e3 e4 e5 e6 e7
                  · exact us_110001101 h1 h2 e1 e2 e3 e4 e5 e6 e7
                · cases r3
                  · exact absurd e5 g5
                  · exact absurd e7 g7
          · cases q3
            · cases r1
              · cases r2
                · cases r3
                  · exact absurd e3 g3
                  · exact us_110010001 h1 h2 e1 e2 e3 e4 e5 e6 e7
                · cases r3
                  · exact absurd e6 g6
                  · exact us_110010011 h1 h2 e1 e2 e3 e4 e5 e6 e7
              · cases r2
                · cases r3
                  · exact absurd e7 g7
                  · exact us_110010101 h1 h2 e1 e2 e3 e4 e5 e6 e7
                · cases r3
                  · exact absurd e5 g5
                  · exact us_110010111 h1 h2 e1 e2 e3 e4 e5 e6 e7
            · cases r1
              · cases r2
                · cases r3
                  · exact absurd e3 g3
                  · exact us_110011001 h1 h2 e1 e2 e3 e4 e5 e6 e7
                · cases r3
                  · exact us_110011010 h1 h2 e1 e2 e3 e4 e5 e6 e7
                  · exact absurd e6 g6
              · cases r2
                · cases r3
                  · exact us_110011100 h1 h2 e1 e2 e3 e4 e5 e6 e7
                  · exact absurd e7 g7
                · cases r3
                  · exact absurd e5 g5
                  · exact us_110011111 h1 h2 e1 e2 e3 e4 e5 e6 e7
        · cases q2
          · cases q3
            · cases r1
              · cases r2
                · cases r3
                  · exact absurd e3 g3
                  · exact us_110100001 h1 h2 e1 e2 e3 e4 e5 e6 e7
                · cases r3
                  · exact absurd e7 g7
                  · exact us_110100011 h1 h2 e1 e2 e3 e4 e5 e6 e7
              · cases r2
                · cases r3
                  · exact absurd e6 g6
                  · exact us_110100101 h1 h2 e1 e2 e3 e4 e5 e6 e7
                · cases r3
                  · exact absurd e5 g5
                  · exact us_110100111 h1 h2 e1 e2 e3 e4 e5 e6 e7
            · cases r1
              · cases r2
                · cases r3
                  · exact absurd e3 g3
                  · exact us_110101001 h1 h2 e1 e2 e3 e4 e5 e6 e7
                · cases r3
                  · exact us_110101010 h1 h2 e1 e2 e3 e4 e5 e6 e7
                  · exact absurd e7 g7
              · cases r2
                · cases r3
                  · exact us_110101100 h1 h2 e1 e2 e3 e4 e5 e6 e7
                  · exact absurd e6 g6
                · cases r3
                  · exact absurd e5 g5
                  · exact us_110101111 h1 h2 e1 e2 e3 e4 e5 e6 e7
          · cases q3
            · exact absurd e4 g4
            · cases r1
              · cases r2
                · cases r3
                  · exact absurd e3 g3
                  · exact absurd e7 g7
                · cases r3
                  · exact us_110111010 h1 h2 e1 e2 e3 e4 e5 e6 e7
                  · exact us_110111011 h1 h2 e1 e2 e3 e4 e5 e6 e7
              · cases r2
                · cases r3
                  · exact us_110111100 h1 h2 e1 e2 e3 e4 e5 e6 e7
                  · exact us_110111101 h1 h2 e1 e2 e3 e4 e5 e6 e7
                · cases r3
                  · exact absurd e5 g5
                  · exact absurd e6 g6
      · cases q1
        · cases q2
          · cases q3
            · exact absurd e2 g2
            · cases r1
              · cases r2
                · cases r3
                  · exact absurd e3 g3
                  · exact absurd e6 g6
                · cases r3
                  · exact us_111001010 h1 h2 e1 e2 e3 e4 e5 e6 e7
                  · exact us_111001011 h1 h2 e1 e2 e3 e4 e5 e6 e7
              · cases r2
                · cases r3
                  · exact us_111001100 h1 h2 e1 e2 e3 e4 e5 e6 e7
                  · exact us_111001101 h1 h2 e1 e2 e3 e4 e5 e6 e7
                · cases r3
                  · exact absurd e7 g7
                  · exact absurd e5 g5
          · cases q3
            · cases r1
              · cases r2
                · cases r3
                  · exact absurd e3 g3
                  · exact us_111010001 h1 h2 e1 e2 e3 e4 e5 e6 e7
                · cases r3
                  · exact absurd e6 g6
                  · exact us_111010011 h1 h2 e1 e2 e3 e4 e5 e6 e7
              · cases r2
                · cases r3
                  · exact us_111010100 h1 h2 e1 e2 e3 e4 e5 e6 e7
                  · exact absurd e7 g7
                · cases r3
                  · exact us_111010110 h1 h2 e1 e2 e3 e4 e5 e6 e7
                  · exact absurd e5 g5
            · cases r1
              · cases r2
                · cases r3
                  · exact absurd e3 g3
                  · exact us_111011001 h1 h2 e1 e2 e3 e4 e5 e6 e7
                · cases r3
                  · exact us_111011010 h1 h2 e1 e2 e3 e4 e5 e6 e7
                  · exact absurd e6 g6
              · cases r2
                · cases r3
                  · exact absurd e7 g7
                  · exact us_111011101 h1 h2 e1 e2 e3 e4 e5 e6 e7
                · cases r3
                  · exact us_111011110 h1 h2 e1 e2 e3 e4 e5 e6 e7
                  · exact absurd e5 g5
        · cases q2
          · cases q3
            · cases r1
              · cases r2
                · cases r3
                  · exact absurd e3 g3
                  · exact us_111100001 h1 h2 e1 e2 e3 e4 e5 e6 e7
                · cases r3
                  · exact us_111100010 h1 h2 e1 e2 e3 e4 e5 e6 e7
                  · exact absurd e7 g7
              · cases r2
                · cases r3
                  · exact absurd e6 g6
                  · exact us_111100101 h1 h2 e1 e2 e3 e4 e5 e6 e7
                · cases r3
                  · exact us_111100110 h1 h2 e1 e2 e3 e4 e5 e6 e7
                  · exact absurd e5 g5
            · cases r1
              · cases r2
                · cases r3
                  · exact absurd e3 g3
                  · exact us_111101001 h1 h2 e1 e2 e3 e4 e5 e6 e7
                · cases r3
                  · exact absurd e7 g7
                  · exact us_111101011 h1 h2 e1 e2 e3 e4 e5 e6 e7
              · cases r2
                · cases r3
                  · exact us_111101100 h1 h2 e1 e2 e3 e4 e5 e6 e7
                  · exact absurd e6 g6
                · cases r3
                  · exact us_111101110 h1 h2 e1 e2 e3 e4 e5 e6 e7
                  · exact absurd e5 g5
          · cases q3
            · cases r1
              · cases r2
                · cases r3
                  · exact absurd e3 g3
                  · exact absurd e7 g7
                · cases r3
                  · exact us_111110010 h1 h2 e1 e2 e3 e4 e5 e6 e7
                  · exact us_111110011 h1 h2 e1 e2 e3 e4 e5 e6 e7
              · cases r2
                · cases r3
                  · exact us_111110100 h1 h2 e1 e2 e3 e4 e5 e6 e7
                  · exact us_111110101 h1 h2 e1 e2 e3 e4 e5 e6 e7
                · cases r3
                  · exact absurd e6 g6
                  · exact absurd e5 g5
            · exact absurd e4 g4
end UA

