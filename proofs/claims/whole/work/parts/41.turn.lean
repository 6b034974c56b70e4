-- one turn, on whole numbers
abbrev c1 (a b x y : Int) : Prop := b < a ∨ (a = b ∧ zabs y < zabs x)
abbrev c2 (b c y z : Int) : Prop := c < b ∨ (b = c ∧ zabs z < zabs y)
abbrev c5 (b x y z : Int) : Prop := b < zabs x ∨ (x = b ∧ 2 * y < z) ∨ (x = -b ∧ z < 0)
abbrev c6 (a x y z : Int) : Prop := a < zabs y ∨ (y = a ∧ 2 * x < z) ∨ (y = -a ∧ z < 0)
abbrev c7 (a x y z : Int) : Prop := a < zabs z ∨ (z = a ∧ 2 * x < y) ∨ (z = -a ∧ y < 0)
abbrev c8 (a b x y z : Int) : Prop := x + y + z + a + b < 0 ∨ (x + y + z + a + b = 0 ∧ 0 < 2 * (a + y) + z)
abbrev isP (x y z : Int) : Prop := (0 < x ∧ 0 < y ∧ 0 < z) ∨ (0 < x ∧ y < 0 ∧ z < 0) ∨ (x < 0 ∧ 0 < y ∧ z < 0) ∨ (x < 0 ∧ y < 0 ∧ 0 < z)
def sg (x : Int) : Int := if 0 < x then 1 else -1
def sh (a b c x y z : Int) : Int × Z6 :=
  if c5 b x y z then (2, a, b, b + c - sg x * x, x - 2 * sg x * b, y - sg x * z, z)
  else if c6 a x y z then (2, a, b, a + c - sg y * y, x - sg y * z, y - 2 * sg y * a, z)
  else if c7 a x y z then (2, a, a + b - sg z * z, c, x - sg z * y, y, z - 2 * sg z * a)
  else if c8 a b x y z then (2, a, b, c + (x + y + z + a + b), 2 * b + x + z, 2 * a + y + z, z)
  else (0, a, b, c, x, y, z)
def al (x y z v : Int) : Int := if isP x y z then zabs v else -zabs v
def tn2 (a b c x y z : Int) : Int × Z6 := if c2 b c y z then (1, a, c, b, x, z, y) else sh a b c (al x y z x) (al x y z y) (al x y z z)
def tn (a b c x y z : Int) : Int × Z6 := if c1 a b x y then tn2 b a c y x z else tn2 a b c x y z
/-- small enough that nothing of a turn leaves the longs -/
def sm6 (a b c x y z : Int) : Prop := ((-1000000000000 ≤ a ∧ a ≤ 1000000000000) ∧ (-1000000000000 ≤ b ∧ b ≤ 1000000000000) ∧ (-1000000000000 ≤ c ∧ c ≤ 1000000000000)) ∧ ((-1000000000000 ≤ x ∧ x ≤ 1000000000000) ∧ (-1000000000000 ≤ y ∧ y ≤ 1000000000000) ∧ (-1000000000000 ≤ z ∧ z ≤ 1000000000000))
theorem zabs_le {x M : Int} (h1 : -M ≤ x) (h2 : x ≤ M) : zabs x ≤ M ∧ 0 ≤ zabs x := by
  unfold zabs
  by_cases c : 0 < x
  · rw [if_pos c]; omega
  · rw [if_neg c]; omega
theorem zL_lit0 : zL 0 = (0 : Int64) := rfl
theorem sm_0 : sm 0 := ⟨by decide, by decide⟩
theorem R_ord1_s {a b c x y z : Int} {rs : Int32} (h : sm6 a b c x y z) : f_R_ord1 (zL a) (zL b) (zL c) (zL x) (zL y) (zL z) rs = if c1 a b x y then (zL b, zL a, zL c, zL y, zL x, zL z, rs) else (zL a, zL b, zL c, zL x, zL y, zL z, rs) := by
  obtain ⟨⟨ha, hb, hc⟩, hx, hy, hz⟩ := h
  have zx := zabs_le hx.1 hx.2
  have zy := zabs_le hy.1 hy.2
  have sa : sm a := ⟨by omega, by omega⟩
  have sb : sm b := ⟨by omega, by omega⟩
  have sx : sm x := ⟨by omega, by omega⟩
  have sy : sm y := ⟨by omega, by omega⟩
  have sx' : sm (zabs x) := ⟨by omega, by omega⟩
  have sy' : sm (zabs y) := ⟨by omega, by omega⟩
  unfold f_R_ord1
  simp only [zL_abs sx, zL_abs sy, lc_gt sa sb, lc_eq sa sb, lc_le sx' sy']
  by_cases k1 : b < a
  · rw [if_pos k1, if_pos (Or.inl k1)]
  rw [if_neg k1]
  by_cases k2 : a = b
  · rw [if_pos k2]
    by_cases k3 : zabs x ≤ zabs y
    · rw [if_pos k3, if_neg (by omega)]
    · rw [if_neg k3, if_pos (by omega)]
  · rw [if_neg k2, if_neg (by omega)]
theorem R_ord2_s {a b c x y z : Int} {rs : Int32} (h : sm6 a b c x y z) : f_R_ord2 (zL a) (zL b) (zL c) (zL x) (zL y) (zL z) rs = if c2 b c y z then ((1 : Int32), zL a, zL c, zL b, zL x, zL z, zL y, rs) else ((0 : Int32), zL a, zL b, zL c, zL x, zL y, zL z, rs) := by
  obtain ⟨⟨ha, hb, hc⟩, hx, hy, hz⟩ := h
  have zz := zabs_le hz.1 hz.2
  have zy := zabs_le hy.1 hy.2
  have sc : sm c := ⟨by omega, by omega⟩
  have sb : sm b := ⟨by omega, by omega⟩
  have sz : sm z := ⟨by omega, by omega⟩
  have sy : sm y := ⟨by omega, by omega⟩
  have sz' : sm (zabs z) := ⟨by omega, by omega⟩
  have sy' : sm (zabs y) := ⟨by omega, by omega⟩
  unfold f_R_ord2
  simp only [zL_abs sz, zL_abs sy, lc_gt sb sc, lc_eq sb sc, lc_le sy' sz']
  by_cases k1 : c < b
  · rw [if_pos k1, if_pos (Or.inl k1)]
  rw [if_neg k1]
  by_cases k2 : b = c
  · rw [if_pos k2]
    by_cases k3 : zabs y ≤ zabs z
    · rw [if_pos k3, if_neg (by omega)]
    · rw [if_neg k3, if_pos (by omega)]
  · rw [if_neg k2, if_neg (by omega)]
def lsg (x : Int) : Int32 := if 0 < x then 1 else if x = 0 then 0 else -1
theorem Long_s {x : Int} (h : sm x) : f_Long_cmp (zL x) (0 : Int64) = lsg x := by
  unfold f_Long_cmp lsg
  rw [← zL_lit0]
  simp only [lc_ge h sm_0, lc_eq h sm_0]
  by_cases k1 : 0 < x
  · rw [if_pos (show 0 ≤ x by omega), if_neg (show ¬ x = 0 by omega), if_pos k1]
  · by_cases k2 : x = 0
    · rw [if_pos (show 0 ≤ x by omega), if_pos k2, if_neg k1, if_pos k2]
    · rw [if_neg (show ¬ 0 ≤ x by omega), if_neg k1, if_neg k2]
theorem lsg_s (x y z : Int) : (lsg x * lsg y) * lsg z ≤ 0 ↔ ¬ isP x y z := by
  unfold lsg
  by_cases k1 : 0 < x
  · rw [if_pos k1]
    by_cases k2 : 0 < y
    · rw [if_pos k2]
      by_cases k3 : 0 < z
      · rw [if_pos k3]; exact ⟨fun q => absurd q (by decide), fun q => absurd (by omega) q⟩
      · rw [if_neg k3]
        by_cases k4 : z = 0
        · rw [if_pos k4]; exact ⟨fun _ => by omega, fun _ => by decide⟩
        · rw [if_neg k4]; exact ⟨fun _ => by omega, fun _ => by decide⟩
    · rw [if_neg k2]
      by_cases k5 : y = 0
      · rw [if_pos k5]
        by_cases k3 : 0 < z
        · rw [if_pos k3]; exact ⟨fun _ => by omega, fun _ => by decide⟩
        · rw [if_neg k3]
          by_cases k4 : z = 0
          · rw [if_pos k4]; exact ⟨fun _ => by omega, fun _ => by decide⟩
          · rw [if_neg k4]; exact ⟨fun _ => by omega, fun _ => by decide⟩
      · rw [if_neg k5]
        by_cases k3 : 0 < z
        · rw [if_pos k3]; exact ⟨fun _ => by omega, fun _ => by decide⟩
        · rw [if_neg k3]
          by_cases k4 : z = 0
          · rw [if_pos k4]; exact ⟨fun _ => by omega, fun _ => by decide⟩
          · rw [if_neg k4]; exact ⟨fun q => absurd q (by decide), fun q => absurd (by omega) q⟩
  · rw [if_neg k1]
    by_cases k6 : x = 0
    · rw [if_pos k6]
      by_cases k2 : 0 < y
      · rw [if_pos k2]
        by_cases k3 : 0 < z
        · rw [if_pos k3]; exact ⟨fun _ => by omega, fun _ => by decide⟩
        · rw [if_neg k3]
          by_cases k4 : z = 0
          · rw [if_pos k4]; exact ⟨fun _ => by omega, fun _ => by decide⟩
          · rw [if_neg k4]; exact ⟨fun _ => by omega, fun _ => by decide⟩
      · rw [if_neg k2]
        by_cases k5 : y = 0
        · rw [if_pos k5]
          by_cases k3 : 0 < z
          · rw [if_pos k3]; exact ⟨fun _ => by omega, fun _ => by decide⟩
          · rw [if_neg k3]
            by_cases k4 : z = 0
            · rw [if_pos k4]; exact ⟨fun _ => by omega, fun _ => by decide⟩
            · rw [if_neg k4]; exact ⟨fun _ => by omega, fun _ => by decide⟩
        · rw [if_neg k5]
          by_cases k3 : 0 < z
          · rw [if_pos k3]; exact ⟨fun _ => by omega, fun _ => by decide⟩
          · rw [if_neg k3]
            by_cases k4 : z = 0
            · rw [if_pos k4]; exact ⟨fun _ => by omega, fun _ => by decide⟩
            · rw [if_neg k4]; exact ⟨fun _ => by omega, fun _ => by decide⟩
    · rw [if_neg k6]
      by_cases k2 : 0 < y
      · rw [if_pos k2]
        by_cases k3 : 0 < z
        · rw [if_pos k3]; exact ⟨fun _ => by omega, fun _ => by decide⟩
        · rw [if_neg k3]
          by_cases k4 : z = 0
          · rw [if_pos k4]; exact ⟨fun _ => by omega, fun _ => by decide⟩
          · rw [if_neg k4]; exact ⟨fun q => absurd q (by decide), fun q => absurd (by omega) q⟩
      · rw [if_neg k2]
        by_cases k5 : y = 0
        · rw [if_pos k5]
          by_cases k3 : 0 < z
          · rw [if_pos k3]; exact ⟨fun _ => by omega, fun _ => by decide⟩
          · rw [if_neg k3]
            by_cases k4 : z = 0
            · rw [if_pos k4]; exact ⟨fun _ => by omega, fun _ => by decide⟩
            · rw [if_neg k4]; exact ⟨fun _ => by omega, fun _ => by decide⟩
        · rw [if_neg k5]
          by_cases k3 : 0 < z
          · rw [if_pos k3]; exact ⟨fun q => absurd q (by decide), fun q => absurd (by omega) q⟩
          · rw [if_neg k3]
            by_cases k4 : z = 0
            · rw [if_pos k4]; exact ⟨fun _ => by omega, fun _ => by decide⟩
            · rw [if_neg k4]; exact ⟨fun _ => by omega, fun _ => by decide⟩
theorem R_align_s {a b c x y z : Int} {rs : Int32} (h : sm6 a b c x y z) : f_R_align (zL a) (zL b) (zL c) (zL x) (zL y) (zL z) rs = (zL a, zL b, zL c, zL (al x y z x), zL (al x y z y), zL (al x y z z), rs) := by
  obtain ⟨⟨ha, hb, hc⟩, hx, hy, hz⟩ := h
  have sx : sm x := ⟨by omega, by omega⟩
  have sy : sm y := ⟨by omega, by omega⟩
  have sz : sm z := ⟨by omega, by omega⟩
  unfold f_R_align
  simp only [zL_abs sx, zL_abs sy, zL_abs sz, Long_s sx, Long_s sy, Long_s sz, lsg_s, zL_m1, zL_1, zL_mul]
  unfold al
  by_cases k : isP x y z
  · rw [if_neg (fun q => q k), if_pos k, if_pos k, if_pos k, Int.one_mul, Int.one_mul, Int.one_mul]
  · rw [if_pos k, if_neg k, if_neg k, if_neg k, Int.neg_one_mul, Int.neg_one_mul, Int.neg_one_mul]
theorem zL_2m : (((2 : Int32) * (-1 : Int32)).toInt64) = zL (2 * -1) := by decide
theorem zL_2p : (((2 : Int32) * (1 : Int32)).toInt64) = zL (2 * 1) := by decide
theorem sg_pos {x : Int} (h : 0 < x) : sg x = 1 := if_pos h
theorem sg_neg {x : Int} (h : ¬ 0 < x) : sg x = -1 := if_neg h
theorem R_shX_s {a b c x y z : Int} {rs : Int32} (h : sm6 a b c x y z) : f_R_shX (zL a) (zL b) (zL c) (zL x) (zL y) (zL z) rs =
    if c5 b x y z then ((1 : Int32), zL a, zL b, zL (b + c - sg x * x), zL (x - 2 * sg x * b), zL (y - sg x * z), zL z, rs) else ((0 : Int32), zL a, zL b, zL c, zL x, zL y, zL z, rs) := by
  obtain ⟨⟨ha, hb, hc⟩, hx, hy, hz⟩ := h
  have zx := zabs_le hx.1 hx.2
  have sx : sm x := ⟨by omega, by omega⟩
  have sx' : sm (zabs x) := ⟨by omega, by omega⟩
  have sz : sm z := ⟨by omega, by omega⟩
  have sb : sm b := ⟨by omega, by omega⟩
  have snb : sm (-b) := ⟨by omega, by omega⟩
  have sy2 : sm (2 * y) := ⟨by omega, by omega⟩
  unfold f_R_shX
  simp only [zL_abs sx]
  rw [← zL_lit0, zL_2]
  simp only [zL_abs sx, zL_mul, zL_neg, lc_gt sx' sb, lc_eq sx sb, lc_eq sx snb, lc_lt sy2 sz, lc_le sx sm_0, lc_ge sz sm_0, zL_m1, zL_1, zL_2m, zL_2p, zL_add, zL_sub]
  have zp : 0 < x → zabs x = x := fun q => if_pos q
  have zn : ¬ 0 < x → zabs x = -x := fun q => if_neg q
  by_cases kx : 0 < x
  · rw [sg_pos kx]
    simp only [if_neg (show ¬ x ≤ 0 by omega)]
    by_cases kk : (b < zabs x ∨ (x = b ∧ 2 * y < z) ∨ (x = -b ∧ z < 0))
    · rw [if_pos (show c5 b x y z from kk)]
      repeat' split
      all_goals first | rfl | (exfalso; omega)
    · rw [if_neg (show ¬ c5 b x y z from kk)]
      repeat' split
      all_goals first | rfl | (exfalso; omega)
  · rw [sg_neg kx]
    simp only [if_pos (show x ≤ 0 by omega)]
    by_cases kk : (b < zabs x ∨ (x = b ∧ 2 * y < z) ∨ (x = -b ∧ z < 0))
    · rw [if_pos (show c5 b x y z from kk)]
      repeat' split
      all_goals first | rfl | (exfalso; omega)
    · rw [if_neg (show ¬ c5 b x y z from kk)]
      repeat' split
      all_goals first | rfl | (exfalso; omega)
theorem R_shY_s {a b c x y z : Int} {rs : Int32} (h : sm6 a b c x y z) : f_R_shY (zL a) (zL b) (zL c) (zL x) (zL y) (zL z) rs =
    if c6 a x y z then ((1 : Int32), zL a, zL b, zL (a + c - sg y * y), zL (x - sg y * z), zL (y - 2 * sg y * a), zL z, rs) else ((0 : Int32), zL a, zL b, zL c, zL x, zL y, zL z, rs) := by
  obtain ⟨⟨ha, hb, hc⟩, hx, hy, hz⟩ := h
  have zy := zabs_le hy.1 hy.2
  have sy : sm y := ⟨by omega, by omega⟩
  have sy' : sm (zabs y) := ⟨by omega, by omega⟩
  have sz : sm z := ⟨by omega, by omega⟩
  have sa : sm a := ⟨by omega, by omega⟩
  have sna : sm (-a) := ⟨by omega, by omega⟩
  have sx2 : sm (2 * x) := ⟨by omega, by omega⟩
  unfold f_R_shY
  simp only [zL_abs sy]
  rw [← zL_lit0, zL_2]
  simp only [zL_abs sy, zL_mul, zL_neg, lc_gt sy' sa, lc_eq sy sa, lc_eq sy sna, lc_lt sx2 sz, lc_le sy sm_0, lc_ge sz sm_0, zL_m1, zL_1, zL_2m, zL_2p, zL_add, zL_sub]
  have zp : 0 < y → zabs y = y := fun q => if_pos q
  have zn : ¬ 0 < y → zabs y = -y := fun q => if_neg q
  by_cases ky : 0 < y
  · rw [sg_pos ky]
    simp only [if_neg (show ¬ y ≤ 0 by omega)]
    by_cases kk : (a < zabs y ∨ (y = a ∧ 2 * x < z) ∨ (y = -a ∧ z < 0))
    · rw [if_pos (show c6 a x y z from kk)]
      repeat' split
      all_goals first | rfl | (exfalso; omega)
    · rw [if_neg (show ¬ c6 a x y z from kk)]
      repeat' split
      all_goals first | rfl | (exfalso; omega)
  · rw [sg_neg ky]
    simp only [if_pos (show y ≤ 0 by omega)]
    by_cases kk : (a < zabs y ∨ (y = a ∧ 2 * x < z) ∨ (y = -a ∧ z < 0))
    · rw [if_pos (show c6 a x y z from kk)]
      repeat' split
      all_goals first | rfl | (exfalso; omega)
    · rw [if_neg (show ¬ c6 a x y z from kk)]
      repeat' split
      all_goals first | rfl | (exfalso; omega)
theorem R_shZ_s {a b c x y z : Int} {rs : Int32} (h : sm6 a b c x y z) : f_R_shZ (zL a) (zL b) (zL c) (zL x) (zL y) (zL z) rs =
    if c7 a x y z then ((1 : Int32), zL a, zL (a + b - sg z * z), zL c, zL (x - sg z * y), zL y, zL (z - 2 * sg z * a), rs) else ((0 : Int32), zL a, zL b, zL c, zL x, zL y, zL z, rs) := by
  obtain ⟨⟨ha, hb, hc⟩, hx, hy, hz⟩ := h
  have zz := zabs_le hz.1 hz.2
  have sz : sm z := ⟨by omega, by omega⟩
  have sz' : sm (zabs z) := ⟨by omega, by omega⟩
  have sy : sm y := ⟨by omega, by omega⟩
  have sa : sm a := ⟨by omega, by omega⟩
  have sna : sm (-a) := ⟨by omega, by omega⟩
  have sx2 : sm (2 * x) := ⟨by omega, by omega⟩
  unfold f_R_shZ
  simp only [zL_abs sz]
  rw [← zL_lit0, zL_2]
  simp only [zL_abs sz, zL_mul, zL_neg, lc_gt sz' sa, lc_eq sz sa, lc_eq sz sna, lc_lt sx2 sy, lc_le sz sm_0, lc_ge sy sm_0, zL_m1, zL_1, zL_2m, zL_2p, zL_add, zL_sub]
  have zp : 0 < z → zabs z = z := fun q => if_pos q
  have zn : ¬ 0 < z → zabs z = -z := fun q => if_neg q
  by_cases kz : 0 < z
  · rw [sg_pos kz]
    simp only [if_neg (show ¬ z ≤ 0 by omega)]
    by_cases kk : (a < zabs z ∨ (z = a ∧ 2 * x < y) ∨ (z = -a ∧ y < 0))
    · rw [if_pos (show c7 a x y z from kk)]
      repeat' split
      all_goals first | rfl | (exfalso; omega)
    · rw [if_neg (show ¬ c7 a x y z from kk)]
      repeat' split
      all_goals first | rfl | (exfalso; omega)
  · rw [sg_neg kz]
    simp only [if_pos (show z ≤ 0 by omega)]
    by_cases kk : (a < zabs z ∨ (z = a ∧ 2 * x < y) ∨ (z = -a ∧ y < 0))
    · rw [if_pos (show c7 a x y z from kk)]
      repeat' split
      all_goals first | rfl | (exfalso; omega)
    · rw [if_neg (show ¬ c7 a x y z from kk)]
      repeat' split
      all_goals first | rfl | (exfalso; omega)
theorem R_shS_s {a b c x y z : Int} {rs : Int32} (h : sm6 a b c x y z) : f_R_shS (zL a) (zL b) (zL c) (zL x) (zL y) (zL z) rs =
    if c8 a b x y z then ((1 : Int32), zL a, zL b, zL (c + (x + y + z + a + b)), zL (2 * b + x + z), zL (2 * a + y + z), zL z, rs) else ((0 : Int32), zL a, zL b, zL c, zL x, zL y, zL z, rs) := by
  obtain ⟨⟨ha, hb, hc⟩, hx, hy, hz⟩ := h
  have s1 : sm (x + y + z + a + b) := ⟨by omega, by omega⟩
  have s2 : sm (2 * (a + y) + z) := ⟨by omega, by omega⟩
  unfold f_R_shS
  rw [← zL_lit0, zL_2]
  simp only [zL_mul, zL_add, lc_lt s1 sm_0, lc_eq s1 sm_0, lc_le s2 sm_0]
  by_cases kk : (x + y + z + a + b < 0 ∨ (x + y + z + a + b = 0 ∧ 0 < 2 * (a + y) + z))
  · rw [if_pos (show c8 a b x y z from kk)]
    repeat' split
    all_goals first | rfl | (exfalso; omega)
  · rw [if_neg (show ¬ c8 a b x y z from kk)]
    repeat' split
    all_goals first | rfl | (exfalso; omega)
theorem al_le {x y z v M : Int} (h1 : -M ≤ v) (h2 : v ≤ M) : -M ≤ al x y z v ∧ al x y z v ≤ M := by
  have := zabs_le h1 h2
  unfold al
  split <;> omega
theorem ord1_e {a b c x y z : Int} {rs : Int32} (h : sm6 a b c x y z) : ∃ a' b' x' y' : Int, f_R_ord1 (zL a) (zL b) (zL c) (zL x) (zL y) (zL z) rs = (zL a', zL b', zL c, zL x', zL y', zL z, rs) ∧ sm6 a' b' c x' y' z ∧ tn a b c x y z = tn2 a' b' c x' y' z := by
  rw [R_ord1_s h]
  unfold tn
  obtain ⟨⟨ha, hb, hc⟩, hx, hy, hz⟩ := h
  by_cases k : c1 a b x y
  · exact ⟨b, a, y, x, by rw [if_pos k], ⟨⟨hb, ha, hc⟩, hy, hx, hz⟩, by rw [if_pos k]⟩
  · exact ⟨a, b, x, y, by rw [if_neg k], ⟨⟨ha, hb, hc⟩, hx, hy, hz⟩, by rw [if_neg k]⟩
/-- a turn of the program's reducer -/
theorem R_turn_s {a b c x y z : Int} {rs tu : Int32} {n : Nat} (h : sm6 a b c x y z) (ht : ¬ (1000000 : Int32) ≤ tu) :
    lp_R_run_7 (n + 1) tu (zL a) (zL b) (zL c) (zL x) (zL y) (zL z) rs = (fun (t : Int × Z6) =>
      if t.1 = 0 then some (zL t.2.1, zL t.2.2.1, zL t.2.2.2.1, zL t.2.2.2.2.1, zL t.2.2.2.2.2.1, zL t.2.2.2.2.2.2, rs)
      else lp_R_run_7 n (tu + 1) (zL t.2.1) (zL t.2.2.1) (zL t.2.2.2.1) (zL t.2.2.2.2.1) (zL t.2.2.2.2.2.1) (zL t.2.2.2.2.2.2) (if t.1 = 1 then rs else rs + 1)) (tn a b c x y z) := by
  obtain ⟨a1, b1, x1, y1, e1, h1, et⟩ := ord1_e (rs := rs) h
  rw [lp_R_run_7, if_neg ht, e1, et, bnd_eq]
  dsimp only
  rw [R_ord2_s h1]
  unfold tn2
  by_cases k2 : c2 b1 c y1 z
  · rw [if_pos k2, if_pos k2, bnd_eq]
    dsimp only
    rw [if_neg (show ¬ (1 : Int32) = 0 by decide), if_neg (show ¬ (1 : Int) = 0 by decide), if_pos rfl]
  rw [if_neg k2, if_neg k2, bnd_eq]
  dsimp only
  rw [if_pos rfl, R_align_s h1, bnd_eq]
  dsimp only
  have h2 : sm6 a1 b1 c (al x1 y1 z x1) (al x1 y1 z y1) (al x1 y1 z z) := ⟨h1.1, al_le h1.2.1.1 h1.2.1.2, al_le h1.2.2.1.1 h1.2.2.1.2, al_le h1.2.2.2.1 h1.2.2.2.2⟩
  generalize al x1 y1 z x1 = x2 at h2 ⊢
  generalize al x1 y1 z y1 = y2 at h2 ⊢
  generalize al x1 y1 z z = z2 at h2 ⊢
  rw [R_shX_s h2]
  unfold sh
  by_cases k5 : c5 b1 x2 y2 z2
  · rw [if_pos k5, if_pos k5, bnd_eq]
    dsimp only
    rw [if_neg (show ¬ (1 : Int32) = 0 by decide), if_neg (show ¬ (2 : Int) = 0 by decide), if_neg (show ¬ (2 : Int) = 1 by decide)]
  rw [if_neg k5, if_neg k5, bnd_eq]
  dsimp only
  rw [if_pos rfl, R_shY_s h2]
  by_cases k6 : c6 a1 x2 y2 z2
  · rw [if_pos k6, if_pos k6, bnd_eq]
    dsimp only
    rw [if_neg (show ¬ (1 : Int32) = 0 by decide), if_neg (show ¬ (2 : Int) = 0 by decide), if_neg (show ¬ (2 : Int) = 1 by decide)]
  rw [if_neg k6, if_neg k6, bnd_eq]
  dsimp only
  rw [if_pos rfl, R_shZ_s h2]
  by_cases k7 : c7 a1 x2 y2 z2
  · rw [if_pos k7, if_pos k7, bnd_eq]
    dsimp only
    rw [if_neg (show ¬ (1 : Int32) = 0 by decide), if_neg (show ¬ (2 : Int) = 0 by decide), if_neg (show ¬ (2 : Int) = 1 by decide)]
  rw [if_neg k7, if_neg k7, bnd_eq]
  dsimp only
  rw [if_pos rfl, R_shS_s h2]
  by_cases k8 : c8 a1 b1 x2 y2 z2
  · rw [if_pos k8, if_pos k8, bnd_eq]
    dsimp only
    rw [if_neg (show ¬ (1 : Int32) = 0 by decide), if_neg (show ¬ (2 : Int) = 0 by decide), if_neg (show ¬ (2 : Int) = 1 by decide)]
  rw [if_neg k8, if_neg k8, bnd_eq]
  dsimp only
  rw [if_pos rfl, if_pos rfl]

