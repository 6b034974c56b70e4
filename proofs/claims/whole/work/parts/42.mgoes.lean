-- the reference's turn, on whole numbers
theorem tc0 : (0 : Int32).toNatClampNeg = 0 := by decide
theorem tc1 : (1 : Int32).toNatClampNeg = 1 := by decide
theorem tc2 : (2 : Int32).toNatClampNeg = 2 := by decide
theorem tc3 : (3 : Int32).toNatClampNeg = 3 := by decide
theorem tc4 : (4 : Int32).toNatClampNeg = 4 := by decide
theorem tc5 : (5 : Int32).toNatClampNeg = 5 := by decide
theorem zL_p1 : (1 : Int64) = zL 1 := rfl
theorem zL_n1 : (-1 : Int64) = zL (-1) := by decide
/-- the first six of a row -/
def V6 (ax : Nat → Int64) (a b c x y z : Int) : Prop := ax 0 = zL a ∧ ax 1 = zL b ∧ ax 2 = zL c ∧ ax 3 = zL x ∧ ax 4 = zL y ∧ ax 5 = zL z
theorem M_size_s {x : Int} (h : sm x) : f_M_size (zL x) = zL (zabs x) := by
  unfold f_M_size zabs
  rw [← zL_lit0]
  simp only [lc_ge h sm_0]
  by_cases k : 0 < x
  · rw [if_pos (show 0 ≤ x by omega), if_pos k]
  · rw [if_neg k]
    by_cases k2 : 0 ≤ x
    · rw [if_pos k2, show x = 0 by omega]; rfl
    · rw [if_neg k2, zL_neg]
theorem ex01 (ax : Nat → Int64) : f_M_exch ax (0 : Int32) (1 : Int32) = some (vp_updL (vp_updL ax 0 (ax 1)) 1 (ax 0)) := by
  unfold f_M_exch
  rw [if_pos ix_0_6, if_pos ix_1_6, if_pos ix_0_6, if_pos ix_1_6, tc0, tc1]
theorem ex34 (ax : Nat → Int64) : f_M_exch ax (3 : Int32) (4 : Int32) = some (vp_updL (vp_updL ax 3 (ax 4)) 4 (ax 3)) := by
  unfold f_M_exch
  rw [if_pos ix_3_6, if_pos ix_4_6, if_pos ix_3_6, if_pos ix_4_6, tc3, tc4]
theorem ex12 (ax : Nat → Int64) : f_M_exch ax (1 : Int32) (2 : Int32) = some (vp_updL (vp_updL ax 1 (ax 2)) 2 (ax 1)) := by
  unfold f_M_exch
  rw [if_pos ix_1_6, if_pos ix_2_6, if_pos ix_1_6, if_pos ix_2_6, tc1, tc2]
theorem ex45 (ax : Nat → Int64) : f_M_exch ax (4 : Int32) (5 : Int32) = some (vp_updL (vp_updL ax 4 (ax 5)) 5 (ax 4)) := by
  unfold f_M_exch
  rw [if_pos ix_4_6, if_pos ix_5_6, if_pos ix_4_6, if_pos ix_5_6, tc4, tc5]
theorem M_x01 {ax : Nat → Int64} {a b c x y z : Int} (V : V6 ax a b c x y z) : ∃ u v, f_M_exch ax (0 : Int32) (1 : Int32) = some u ∧ f_M_exch u (3 : Int32) (4 : Int32) = some v ∧ V6 v b a c y x z :=
  ⟨_, _, ex01 ax, ex34 _, V.2.1, V.1, V.2.2.1, V.2.2.2.2.1, V.2.2.2.1, V.2.2.2.2.2⟩
theorem M_x12 {ax : Nat → Int64} {a b c x y z : Int} (V : V6 ax a b c x y z) : ∃ u v, f_M_exch ax (1 : Int32) (2 : Int32) = some u ∧ f_M_exch u (4 : Int32) (5 : Int32) = some v ∧ V6 v a c b x z y :=
  ⟨_, _, ex12 ax, ex45 _, V.1, V.2.2.1, V.2.1, V.2.2.2.1, V.2.2.2.2.2, V.2.2.2.2.1⟩
theorem lc_ge0 {a : Int} (h : sm a) : 0 ≤ lg_cmp (zL a) (0 : Int64) ↔ 0 ≤ a := by rw [← zL_lit0]; exact lc_ge h sm_0
theorem lc_eq0 {a : Int} (h : sm a) : lg_cmp (zL a) (0 : Int64) = 0 ↔ a = 0 := by rw [← zL_lit0]; exact lc_eq h sm_0
theorem lc_lt0 {a : Int} (h : sm a) : lg_cmp (zL a) (0 : Int64) < 0 ↔ a < 0 := by rw [← zL_lit0]; exact lc_lt h sm_0
theorem lc_le0 {a : Int} (h : sm a) : lg_cmp (zL a) (0 : Int64) ≤ 0 ↔ a ≤ 0 := by rw [← zL_lit0]; exact lc_le h sm_0
section MG
variable {ax : Nat → Int64} {a b c x y z : Int} {stp : Int32}
theorem M_368_s (h : sm6 a b c x y z) (hx0 : x ≠ 0) (V : V6 ax a b c x y z) : ∃ v, jn_M_goes_368 (zL a) (zL b) (zL c) (zL x) (zL y) (zL z) ax stp = some ((1 : Int32), v, stp + 1) ∧ V6 v a b (b + c - sg x * x) (x - 2 * sg x * b) (y - sg x * z) z := by
  obtain ⟨⟨ha, hb, hc⟩, hx, hy, hz⟩ := h
  have sx : sm x := ⟨by omega, by omega⟩
  unfold jn_M_goes_368 jn_M_goes_382
  simp only [lc_ge0 sx, tc2, tc3, tc4, zL_2, zL_p1, zL_neg, zL_mul, zL_add, zL_sub]
  by_cases k : 0 < x
  · rw [if_pos (show 0 ≤ x by omega), sg_pos k]
    exact ⟨_, rfl, V.1, V.2.1, rfl, rfl, rfl, V.2.2.2.2.2⟩
  · rw [if_neg (show ¬ 0 ≤ x by omega), sg_neg k]
    exact ⟨_, rfl, V.1, V.2.1, rfl, rfl, rfl, V.2.2.2.2.2⟩
theorem M_489_s (h : sm6 a b c x y z) (hy0 : y ≠ 0) (V : V6 ax a b c x y z) : ∃ v, jn_M_goes_489 (zL a) (zL b) (zL c) (zL x) (zL y) (zL z) ax stp = some ((1 : Int32), v, stp + 1) ∧ V6 v a b (a + c - sg y * y) (x - sg y * z) (y - 2 * sg y * a) z := by
  obtain ⟨⟨ha, hb, hc⟩, hx, hy, hz⟩ := h
  have sy : sm y := ⟨by omega, by omega⟩
  unfold jn_M_goes_489 jn_M_goes_503
  simp only [lc_ge0 sy, tc2, tc3, tc4, zL_2, zL_p1, zL_neg, zL_mul, zL_add, zL_sub]
  by_cases k : 0 < y
  · rw [if_pos (show 0 ≤ y by omega), sg_pos k]
    exact ⟨_, rfl, V.1, V.2.1, rfl, rfl, rfl, V.2.2.2.2.2⟩
  · rw [if_neg (show ¬ 0 ≤ y by omega), sg_neg k]
    exact ⟨_, rfl, V.1, V.2.1, rfl, rfl, rfl, V.2.2.2.2.2⟩
theorem M_608_s (h : sm6 a b c x y z) (hz0 : z ≠ 0) (V : V6 ax a b c x y z) : ∃ v, jn_M_goes_608 (zL a) (zL b) (zL c) (zL x) (zL y) (zL z) ax stp = some ((1 : Int32), v, stp + 1) ∧ V6 v a (a + b - sg z * z) c (x - sg z * y) y (z - 2 * sg z * a) := by
  obtain ⟨⟨ha, hb, hc⟩, hx, hy, hz⟩ := h
  have sz : sm z := ⟨by omega, by omega⟩
  unfold jn_M_goes_608 jn_M_goes_622
  simp only [lc_ge0 sz, tc1, tc3, tc5, zL_2, zL_p1, zL_neg, zL_mul, zL_add, zL_sub]
  by_cases k : 0 < z
  · rw [if_pos (show 0 ≤ z by omega), sg_pos k]
    exact ⟨_, rfl, V.1, rfl, V.2.2.1, rfl, V.2.2.2.2.1, rfl⟩
  · rw [if_neg (show ¬ 0 ≤ z by omega), sg_neg k]
    exact ⟨_, rfl, V.1, rfl, V.2.2.1, rfl, V.2.2.2.2.1, rfl⟩
theorem M_728_s (V : V6 ax a b c x y z) : ∃ v, jn_M_goes_728 (zL a) (zL b) (zL c) (zL x) (zL y) (zL z) (zL (x + y + z + a + b)) ax stp = some ((1 : Int32), v, stp + 1) ∧ V6 v a b (c + (x + y + z + a + b)) (2 * b + x + z) (2 * a + y + z) z := by
  unfold jn_M_goes_728
  simp only [tc2, tc3, tc4, zL_2, zL_mul, zL_add]
  exact ⟨_, rfl, V.1, V.2.1, rfl, rfl, rfl, V.2.2.2.2.2⟩
theorem M_683_s (h : sm6 a b c x y z) : jn_M_goes_683 (zL a) (zL b) (zL c) (zL x) (zL y) (zL z) ax stp = if c8 a b x y z then jn_M_goes_728 (zL a) (zL b) (zL c) (zL x) (zL y) (zL z) (zL (x + y + z + a + b)) ax stp else some ((0 : Int32), ax, stp) := by
  obtain ⟨⟨ha, hb, hc⟩, hx, hy, hz⟩ := h
  have s1 : sm (x + y + z + a + b) := ⟨by omega, by omega⟩
  have s2 : sm (2 * (a + y) + z) := ⟨by omega, by omega⟩
  unfold jn_M_goes_683 jn_M_goes_786
  simp only [zL_2, zL_mul, zL_add, lc_lt0 s1, lc_eq0 s1, lc_le0 s2]
  by_cases kk : (x + y + z + a + b < 0 ∨ (x + y + z + a + b = 0 ∧ 0 < 2 * (a + y) + z))
  · rw [if_pos (show c8 a b x y z from kk)]
    repeat' split
    all_goals first | with_reducible rfl | (exfalso; omega)
  · rw [if_neg (show ¬ c8 a b x y z from kk)]
    repeat' split
    all_goals first | with_reducible rfl | (exfalso; omega)
theorem M_564_s (h : sm6 a b c x y z) : jn_M_goes_564 (zL a) (zL b) (zL c) (zL x) (zL y) (zL z) ax stp = if c7 a x y z then jn_M_goes_608 (zL a) (zL b) (zL c) (zL x) (zL y) (zL z) ax stp else jn_M_goes_683 (zL a) (zL b) (zL c) (zL x) (zL y) (zL z) ax stp := by
  obtain ⟨⟨ha, hb, hc⟩, hx, hy, hz⟩ := h
  have zz := zabs_le hz.1 hz.2
  have sz : sm z := ⟨by omega, by omega⟩
  have sz' : sm (zabs z) := ⟨by omega, by omega⟩
  have sy : sm y := ⟨by omega, by omega⟩
  have sa : sm a := ⟨by omega, by omega⟩
  have sna : sm (-a) := ⟨by omega, by omega⟩
  have sx2 : sm (2 * x) := ⟨by omega, by omega⟩
  unfold jn_M_goes_564
  simp only [M_size_s sz, zL_2, zL_mul, zL_neg, lc_gt sz' sa, lc_eq sz sa, lc_eq sz sna, lc_lt sx2 sy, lc_ge0 sy]
  by_cases kk : (a < zabs z ∨ (z = a ∧ 2 * x < y) ∨ (z = -a ∧ y < 0))
  · rw [if_pos (show c7 a x y z from kk)]
    repeat' split
    all_goals first | with_reducible rfl | (exfalso; omega)
  · rw [if_neg (show ¬ c7 a x y z from kk)]
    repeat' split
    all_goals first | with_reducible rfl | (exfalso; omega)
theorem M_445_s (h : sm6 a b c x y z) : jn_M_goes_445 (zL a) (zL b) (zL c) (zL x) (zL y) (zL z) ax stp = if c6 a x y z then jn_M_goes_489 (zL a) (zL b) (zL c) (zL x) (zL y) (zL z) ax stp else jn_M_goes_564 (zL a) (zL b) (zL c) (zL x) (zL y) (zL z) ax stp := by
  obtain ⟨⟨ha, hb, hc⟩, hx, hy, hz⟩ := h
  have zy := zabs_le hy.1 hy.2
  have sy : sm y := ⟨by omega, by omega⟩
  have sy' : sm (zabs y) := ⟨by omega, by omega⟩
  have sz : sm z := ⟨by omega, by omega⟩
  have sa : sm a := ⟨by omega, by omega⟩
  have sna : sm (-a) := ⟨by omega, by omega⟩
  have sx2 : sm (2 * x) := ⟨by omega, by omega⟩
  unfold jn_M_goes_445
  simp only [M_size_s sy, zL_2, zL_mul, zL_neg, lc_gt sy' sa, lc_eq sy sa, lc_eq sy sna, lc_lt sx2 sz, lc_ge0 sz]
  by_cases kk : (a < zabs y ∨ (y = a ∧ 2 * x < z) ∨ (y = -a ∧ z < 0))
  · rw [if_pos (show c6 a x y z from kk)]
    repeat' split
    all_goals first | with_reducible rfl | (exfalso; omega)
  · rw [if_neg (show ¬ c6 a x y z from kk)]
    repeat' split
    all_goals first | with_reducible rfl | (exfalso; omega)
theorem M_230_s {od po : Int32} (h : sm6 a b c x y z) (V : V6 ax a b c x y z) : ∃ v, lp_M_goes_230 4 od po (3 : Int32) ax stp = some (od, po, (6 : Int32), v, stp) ∧ V6 v a b c (if po = 0 then -zabs x else zabs x) (if po = 0 then -zabs y else zabs y) (if po = 0 then -zabs z else zabs z) := by
  obtain ⟨⟨ha, hb, hc⟩, hx, hy, hz⟩ := h
  have sx : sm x := ⟨by omega, by omega⟩
  have sy : sm y := ⟨by omega, by omega⟩
  have sz : sm z := ⟨by omega, by omega⟩
  obtain ⟨v0, v1, v2, v3, v4, v5⟩ := V
  have e4 : (3 : Int32) + (1 : Int32) = 4 := by decide
  have e5 : (4 : Int32) + (1 : Int32) = 5 := by decide
  have e6 : (5 : Int32) + (1 : Int32) = 6 := by decide
  have g3 : ¬ (6 : Int32) ≤ 3 := by decide
  have g4 : ¬ (6 : Int32) ≤ 4 := by decide
  have g5 : ¬ (6 : Int32) ≤ 5 := by decide
  have g6 : (6 : Int32) ≤ 6 := by decide
  by_cases kp : po = 0
  · rw [lp_M_goes_230, if_neg g3, if_pos kp, if_pos ix_3_6, if_pos ix_3_6, e4]
    rw [lp_M_goes_230, if_neg g4, if_pos kp, if_pos ix_4_6, if_pos ix_4_6, e5]
    rw [lp_M_goes_230, if_neg g5, if_pos kp, if_pos ix_5_6, if_pos ix_5_6, e6]
    rw [lp_M_goes_230, if_pos g6, if_pos kp, if_pos kp, if_pos kp, tc3, tc4, tc5]
    refine ⟨_, rfl, v0, v1, v2, ?_, ?_, ?_⟩
    · show -f_M_size (ax 3) = _
      rw [v3, M_size_s sx, zL_neg]
    · show -f_M_size (ax 4) = _
      rw [v4, M_size_s sy, zL_neg]
    · show -f_M_size (ax 5) = _
      rw [v5, M_size_s sz, zL_neg]
  · rw [lp_M_goes_230, if_neg g3, if_neg kp, if_pos ix_3_6, if_pos ix_3_6, e4]
    rw [lp_M_goes_230, if_neg g4, if_neg kp, if_pos ix_4_6, if_pos ix_4_6, e5]
    rw [lp_M_goes_230, if_neg g5, if_neg kp, if_pos ix_5_6, if_pos ix_5_6, e6]
    rw [lp_M_goes_230, if_pos g6, if_neg kp, if_neg kp, if_neg kp, tc3, tc4, tc5]
    refine ⟨_, rfl, v0, v1, v2, ?_, ?_, ?_⟩
    · show f_M_size (ax 3) = _
      rw [v3, M_size_s sx]
    · show f_M_size (ax 4) = _
      rw [v4, M_size_s sy]
    · show f_M_size (ax 5) = _
      rw [v5, M_size_s sz]
/-- what a turn leaves: its word, the six, the count -/
def Gz (t : Int × Z6) (r : Option (Int32 × (Nat → Int64) × Int32)) (stp : Int32) : Prop := ∃ v, r = some ((if t.1 = 0 then (0 : Int32) else 1), v, (if t.1 = 2 then stp + 1 else stp)) ∧ V6 v t.2.1 t.2.2.1 t.2.2.2.1 t.2.2.2.2.1 t.2.2.2.2.2.1 t.2.2.2.2.2.2
theorem M_227_s {od po : Int32} (h : sm6 a b c x y z) (ha1 : 1 ≤ a) (hb1 : 1 ≤ b) (V : V6 ax a b c x y z) : Gz (sh a b c (if po = 0 then -zabs x else zabs x) (if po = 0 then -zabs y else zabs y) (if po = 0 then -zabs z else zabs z)) (jn_M_goes_227 od po ax stp) stp := by
  obtain ⟨v, ev, V1⟩ := M_230_s (od := od) (po := po) (stp := stp) h V
  have h1 : sm6 a b c (if po = 0 then -zabs x else zabs x) (if po = 0 then -zabs y else zabs y) (if po = 0 then -zabs z else zabs z) := by
    obtain ⟨⟨ha, hb, hc⟩, hx, hy, hz⟩ := h
    have zx := zabs_le hx.1 hx.2
    have zy := zabs_le hy.1 hy.2
    have zz := zabs_le hz.1 hz.2
    refine ⟨⟨ha, hb, hc⟩, ?_⟩
    by_cases kp : po = 0
    · rw [if_pos kp, if_pos kp, if_pos kp]; omega
    · rw [if_neg kp, if_neg kp, if_neg kp]; omega
  unfold jn_M_goes_227
  rw [ev, Option.bind_some]
  dsimp only
  generalize (if po = 0 then -zabs x else zabs x) = x1 at V1 h1 ⊢
  generalize (if po = 0 then -zabs y else zabs y) = y1 at V1 h1 ⊢
  generalize (if po = 0 then -zabs z else zabs z) = z1 at V1 h1 ⊢
  have V2 := V1
  obtain ⟨v0, v1, v2, v3, v4, v5⟩ := V1
  have hh := h1
  obtain ⟨⟨ha, hb, hc⟩, hx, hy, hz⟩ := h1
  have zx := zabs_le hx.1 hx.2
  have sx : sm x1 := ⟨by omega, by omega⟩
  have sx' : sm (zabs x1) := ⟨by omega, by omega⟩
  have sz : sm z1 := ⟨by omega, by omega⟩
  have sb : sm b := ⟨by omega, by omega⟩
  have snb : sm (-b) := ⟨by omega, by omega⟩
  have sy2 : sm (2 * y1) := ⟨by omega, by omega⟩
  simp only [tc0, tc1, tc2, tc3, tc4, tc5, v0, v1, v2, v3, v4, v5, zL_2, M_size_s sx, zL_mul, zL_neg, lc_gt sx' sb, lc_eq sx sb, lc_eq sx snb, lc_lt sy2 sz, lc_ge0 sz]
  have eJ : ∀ (P Q : Option (Int32 × (Nat → Int64) × Int32)), (if b < zabs x1 then P else if x1 = b then if 2 * y1 < z1 then P else if x1 = -b then if 0 ≤ z1 then Q else P else Q else if x1 = -b then if 0 ≤ z1 then Q else P else Q) = if c5 b x1 y1 z1 then P else Q := by
    intro P Q
    by_cases kk : (b < zabs x1 ∨ (x1 = b ∧ 2 * y1 < z1) ∨ (x1 = -b ∧ z1 < 0))
    · rw [if_pos (show c5 b x1 y1 z1 from kk)]
      repeat' split
      all_goals first | with_reducible rfl | (exfalso; omega)
    · rw [if_neg (show ¬ c5 b x1 y1 z1 from kk)]
      repeat' split
      all_goals first | with_reducible rfl | (exfalso; omega)
  rw [eJ]
  unfold sh
  by_cases k5 : c5 b x1 y1 z1
  · rw [if_pos k5, if_pos k5]
    have hx0 : x1 ≠ 0 := by
      intro q
      have kk : b < zabs x1 ∨ (x1 = b ∧ 2 * y1 < z1) ∨ (x1 = -b ∧ z1 < 0) := k5
      subst q
      have : zabs 0 = 0 := rfl
      omega
    exact M_368_s hh hx0 V2
  rw [if_neg k5, if_neg k5, M_445_s hh]
  by_cases k6 : c6 a x1 y1 z1
  · rw [if_pos k6, if_pos k6]
    have hy0 : y1 ≠ 0 := by
      intro q
      have kk : a < zabs y1 ∨ (y1 = a ∧ 2 * x1 < z1) ∨ (y1 = -a ∧ z1 < 0) := k6
      subst q
      have : zabs 0 = 0 := rfl
      omega
    exact M_489_s hh hy0 V2
  rw [if_neg k6, if_neg k6, M_564_s hh]
  by_cases k7 : c7 a x1 y1 z1
  · rw [if_pos k7, if_pos k7]
    have hz0 : z1 ≠ 0 := by
      intro q
      have kk : a < zabs z1 ∨ (z1 = a ∧ 2 * x1 < y1) ∨ (z1 = -a ∧ y1 < 0) := k7
      subst q
      have : zabs 0 = 0 := rfl
      omega
    exact M_608_s hh hz0 V2
  rw [if_neg k7, if_neg k7, M_683_s hh]
  by_cases k8 : c8 a b x1 y1 z1
  · rw [if_pos k8, if_pos k8]
    exact M_728_s V2
  rw [if_neg k8, if_neg k8]
  exact ⟨v, rfl, V2⟩
theorem x00 : (0 : Int32) ^^^ 0 = 0 := by decide
theorem x01 : (0 : Int32) ^^^ 1 = 1 := by decide
theorem x10 : (1 : Int32) ^^^ 0 = 1 := by decide
theorem x11 : (1 : Int32) ^^^ 1 = 0 := by decide
theorem i10 : ((1 : Int32) = 0) = False := eq_false (by decide)
theorem i00 : ((0 : Int32) = 0) = True := eq_true rfl
theorem M_134_s (h : sm6 a b c x y z) (V : V6 ax a b c x y z) : ∃ od, jn_M_goes_134 ax stp = jn_M_goes_227 od (if isP x y z then (1 : Int32) else 0) ax stp := by
  obtain ⟨⟨ha, hb, hc⟩, hx, hy, hz⟩ := h
  have sx : sm x := ⟨by omega, by omega⟩
  have sy : sm y := ⟨by omega, by omega⟩
  have sz : sm z := ⟨by omega, by omega⟩
  obtain ⟨v0, v1, v2, v3, v4, v5⟩ := V
  unfold jn_M_goes_134 jn_M_goes_150 jn_M_goes_166 jn_M_goes_183
  simp only [tc3, tc4, tc5, v3, v4, v5, lc_ge0 sx, lc_ge0 sy, lc_ge0 sz, lc_eq0 sx, lc_eq0 sy, lc_eq0 sz]
  by_cases k1 : 0 ≤ x
  · by_cases k2 : 0 ≤ y
    · by_cases k3 : 0 ≤ z
      · simp only [if_pos k1, if_pos k2, if_pos k3, x00, x01, x10, x11, i00, i10, if_true, if_false]
        by_cases kp : ((0 < x ∧ 0 < y ∧ 0 < z) ∨ (0 < x ∧ y < 0 ∧ z < 0) ∨ (x < 0 ∧ 0 < y ∧ z < 0) ∨ (x < 0 ∧ y < 0 ∧ 0 < z))
        · rw [if_pos (show isP x y z from kp), if_neg (by omega), if_neg (by omega), if_neg (by omega)]; exact ⟨_, rfl⟩
        · rw [if_neg (show ¬ isP x y z from kp)]
          repeat' split
          all_goals first | (exfalso; omega) | exact ⟨_, rfl⟩
      · simp only [if_pos k1, if_pos k2, if_neg k3, x00, x01, x10, x11, i00, i10, if_true, if_false]
        rw [if_neg (show ¬ isP x y z by omega)]; exact ⟨_, rfl⟩
    · by_cases k3 : 0 ≤ z
      · simp only [if_pos k1, if_neg k2, if_pos k3, x00, x01, x10, x11, i00, i10, if_true, if_false]
        rw [if_neg (show ¬ isP x y z by omega)]; exact ⟨_, rfl⟩
      · simp only [if_pos k1, if_neg k2, if_neg k3, x00, x01, x10, x11, i00, i10, if_true, if_false]
        by_cases kp : ((0 < x ∧ 0 < y ∧ 0 < z) ∨ (0 < x ∧ y < 0 ∧ z < 0) ∨ (x < 0 ∧ 0 < y ∧ z < 0) ∨ (x < 0 ∧ y < 0 ∧ 0 < z))
        · rw [if_pos (show isP x y z from kp), if_neg (by omega), if_neg (by omega), if_neg (by omega)]; exact ⟨_, rfl⟩
        · rw [if_neg (show ¬ isP x y z from kp)]
          repeat' split
          all_goals first | (exfalso; omega) | exact ⟨_, rfl⟩
  · by_cases k2 : 0 ≤ y
    · by_cases k3 : 0 ≤ z
      · simp only [if_neg k1, if_pos k2, if_pos k3, x00, x01, x10, x11, i00, i10, if_true, if_false]
        rw [if_neg (show ¬ isP x y z by omega)]; exact ⟨_, rfl⟩
      · simp only [if_neg k1, if_pos k2, if_neg k3, x00, x01, x10, x11, i00, i10, if_true, if_false]
        by_cases kp : ((0 < x ∧ 0 < y ∧ 0 < z) ∨ (0 < x ∧ y < 0 ∧ z < 0) ∨ (x < 0 ∧ 0 < y ∧ z < 0) ∨ (x < 0 ∧ y < 0 ∧ 0 < z))
        · rw [if_pos (show isP x y z from kp), if_neg (by omega), if_neg (by omega), if_neg (by omega)]; exact ⟨_, rfl⟩
        · rw [if_neg (show ¬ isP x y z from kp)]
          repeat' split
          all_goals first | (exfalso; omega) | exact ⟨_, rfl⟩
    · by_cases k3 : 0 ≤ z
      · simp only [if_neg k1, if_neg k2, if_pos k3, x00, x01, x10, x11, i00, i10, if_true, if_false]
        by_cases kp : ((0 < x ∧ 0 < y ∧ 0 < z) ∨ (0 < x ∧ y < 0 ∧ z < 0) ∨ (x < 0 ∧ 0 < y ∧ z < 0) ∨ (x < 0 ∧ y < 0 ∧ 0 < z))
        · rw [if_pos (show isP x y z from kp), if_neg (by omega), if_neg (by omega), if_neg (by omega)]; exact ⟨_, rfl⟩
        · rw [if_neg (show ¬ isP x y z from kp)]
          repeat' split
          all_goals first | (exfalso; omega) | exact ⟨_, rfl⟩
      · simp only [if_neg k1, if_neg k2, if_neg k3, x00, x01, x10, x11, i00, i10, if_true, if_false]
        rw [if_neg (show ¬ isP x y z by omega)]; exact ⟨_, rfl⟩
theorem M_66_s (h : sm6 a b c x y z) (ha1 : 1 ≤ a) (hb1 : 1 ≤ b) (V : V6 ax a b c x y z) : Gz (tn2 a b c x y z) (jn_M_goes_66 ax stp) stp := by
  have hh := h
  have V2 := V
  obtain ⟨⟨ha, hb, hc⟩, hx, hy, hz⟩ := h
  have zy := zabs_le hy.1 hy.2
  have zz := zabs_le hz.1 hz.2
  have sb : sm b := ⟨by omega, by omega⟩
  have sc : sm c := ⟨by omega, by omega⟩
  have sy : sm y := ⟨by omega, by omega⟩
  have sz : sm z := ⟨by omega, by omega⟩
  have sy' : sm (zabs y) := ⟨by omega, by omega⟩
  have sz' : sm (zabs z) := ⟨by omega, by omega⟩
  obtain ⟨v0, v1, v2, v3, v4, v5⟩ := V
  obtain ⟨u, w, eu, ew, Vw⟩ := M_x12 V2
  unfold jn_M_goes_66
  simp only [eu, tc1, tc2, tc4, tc5, v1, v2, v4, v5, Option.bind_some, ew, M_size_s sy, M_size_s sz, lc_gt sb sc, lc_eq sb sc, lc_le sy' sz']
  have eJ : ∀ (P Q : Option (Int32 × (Nat → Int64) × Int32)), (if c < b then P else if b = c then if zabs y ≤ zabs z then Q else P else Q) = if c2 b c y z then P else Q := by
    intro P Q
    by_cases kk : (c < b ∨ (b = c ∧ zabs z < zabs y))
    · rw [if_pos (show c2 b c y z from kk)]
      repeat' split
      all_goals first | with_reducible rfl | (exfalso; omega)
    · rw [if_neg (show ¬ c2 b c y z from kk)]
      repeat' split
      all_goals first | with_reducible rfl | (exfalso; omega)
  rw [eJ]
  unfold tn2
  by_cases k2 : c2 b c y z
  · rw [if_pos k2, if_pos k2]
    exact ⟨w, rfl, Vw⟩
  · rw [if_neg k2, if_neg k2]
    obtain ⟨od, eo⟩ := M_134_s (stp := stp) hh V2
    rw [eo]
    have hq := M_227_s (od := od) (po := if isP x y z then (1 : Int32) else 0) (stp := stp) hh ha1 hb1 V2
    have hal : ∀ v : Int, (if (if isP x y z then (1 : Int32) else 0) = 0 then -zabs v else zabs v) = al x y z v := by
      intro v
      unfold al
      by_cases kp : isP x y z
      · rw [if_pos kp, if_pos kp, if_neg (by decide)]
      · rw [if_neg kp, if_neg kp, if_pos rfl]
    rw [hal, hal, hal] at hq
    exact hq
theorem M_goes_e {u w : Nat → Int64} (h : sm6 a b c x y z) (V : V6 ax a b c x y z) (eu : f_M_exch ax (0 : Int32) (1 : Int32) = some u) (ew : f_M_exch u (3 : Int32) (4 : Int32) = some w) : f_M_goes ax stp = if c1 a b x y then jn_M_goes_66 w stp else jn_M_goes_66 ax stp := by
  obtain ⟨⟨ha, hb, hc⟩, hx, hy, hz⟩ := h
  have zy := zabs_le hy.1 hy.2
  have zx := zabs_le hx.1 hx.2
  have sb : sm b := ⟨by omega, by omega⟩
  have sa : sm a := ⟨by omega, by omega⟩
  have sy : sm y := ⟨by omega, by omega⟩
  have sx : sm x := ⟨by omega, by omega⟩
  have sy' : sm (zabs y) := ⟨by omega, by omega⟩
  have sx' : sm (zabs x) := ⟨by omega, by omega⟩
  obtain ⟨v0, v1, v2, v3, v4, v5⟩ := V
  have eb : Option.bind (f_M_exch ax (0 : Int32) (1 : Int32)) (fun q => Option.bind (f_M_exch q (3 : Int32) (4 : Int32)) (fun r => jn_M_goes_66 r stp)) = jn_M_goes_66 w stp := by
    rw [eu, Option.bind_some, ew, Option.bind_some]
  unfold f_M_goes
  rw [eb, tc0, tc1, tc3, tc4]
  simp only [v0, v1, v3, v4, M_size_s sy, M_size_s sx, lc_gt sa sb, lc_eq sa sb, lc_le sx' sy']
  by_cases kk : (b < a ∨ (a = b ∧ zabs y < zabs x))
  · rw [if_pos (show c1 a b x y from kk)]
    repeat' split
    all_goals first | with_reducible rfl | (exfalso; omega)
  · rw [if_neg (show ¬ c1 a b x y from kk)]
    repeat' split
    all_goals first | with_reducible rfl | (exfalso; omega)
theorem M_goes_s (h : sm6 a b c x y z) (ha1 : 1 ≤ a) (hb1 : 1 ≤ b) (V : V6 ax a b c x y z) : Gz (tn a b c x y z) (f_M_goes ax stp) stp := by
  obtain ⟨u, w, eu, ew, Vw⟩ := M_x01 V
  rw [M_goes_e h V eu ew]
  unfold tn
  by_cases k1 : c1 a b x y
  · rw [if_pos k1, if_pos k1]
    exact M_66_s ⟨⟨h.1.2.1, h.1.1, h.1.2.2⟩, h.2.2.1, h.2.1, h.2.2.2⟩ hb1 ha1 Vw
  · rw [if_neg k1, if_neg k1]
    exact M_66_s h ha1 hb1 V
end MG

