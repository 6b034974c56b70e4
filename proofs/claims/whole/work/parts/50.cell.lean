-- a new cell: both sides
def V6h (v : Nat → Int64) (q : Z6) : Prop := v 0 = zL q.1 ∧ v 1 = zL q.2.1 ∧ v 2 = zL q.2.2.1 ∧ v 3 = zL q.2.2.2.1 / 2 ∧ v 4 = zL q.2.2.2.2.1 / 2 ∧ v 5 = zL q.2.2.2.2.2 / 2
theorem r2_step {n k : Nat} {ax : Nat → Int64} {stp : Int32} (hk : k < 6) : lp_M_reduce_2 (n + 1) (nI k) ax stp = lp_M_reduce_2 n (nI (k + 1)) (vp_updL ax k (2 * ax k)) stp := by
  rw [lp_M_reduce_2, if_neg (six_le hk), if_pos (inb_nI (by omega) hk), if_pos (inb_nI (by omega) hk), nI_1, nI_clamp (by omega)]
theorem r46_step {n k : Nat} {ax : Nat → Int64} {mo stp : Int32} (hk : k < 6) : lp_M_reduce_46 (n + 1) mo (nI k) ax stp = lp_M_reduce_46 n mo (nI (k + 1)) (vp_updL ax k (ax k / 2)) stp := by
  rw [lp_M_reduce_46, if_neg (six_le hk), if_pos (inb_nI (by omega) hk), if_pos (inb_nI (by omega) hk), nI_1, nI_clamp (by omega)]
theorem M_reduce_z {a b c d e f : Int} {ax : Nat → Int64} {stp : Int32} {m : Nat} {r : Z6 × Nat} (hp : PD a b c (2 * d) (2 * e) (2 * f)) (hs : a + b + c ≤ 1000000000) (V : V6 ax a b c d e f) (hr : zrun m (a, b, c, 2 * d, 2 * e, 2 * f) = some r) (hm : m < 1000000000) :
    ∃ v, f_M_reduce ax stp = some (v, stp + nI r.2) ∧ V6h v r.1 := by
  unfold f_M_reduce
  rw [show (3 : Int32) = nI 3 from rfl, r2_step (by decide), r2_step (by decide), r2_step (by decide), lp_M_reduce_2, if_pos (show (6 : Int32) ≤ nI (3 + 1 + 1 + 1) by decide), Option.bind_some]
  dsimp only
  have V2 : V6z (vp_updL (vp_updL (vp_updL ax 3 (2 * ax 3)) (3 + 1) (2 * vp_updL ax 3 (2 * ax 3) (3 + 1))) (3 + 1 + 1) (2 * vp_updL (vp_updL ax 3 (2 * ax 3)) (3 + 1) (2 * vp_updL ax 3 (2 * ax 3) (3 + 1)) (3 + 1 + 1))) (a, b, c, 2 * d, 2 * e, 2 * f) := by
    obtain ⟨v0, v1, v2, v3, v4, v5⟩ := V
    refine ⟨v0, v1, v2, ?_, ?_, ?_⟩
    · show 2 * ax 3 = zL (2 * d)
      rw [v3, zL_2, zL_mul]
    · show 2 * ax 4 = zL (2 * e)
      rw [v4, zL_2, zL_mul]
    · show 2 * ax 5 = zL (2 * f)
      rw [v5, zL_2, zL_mul]
  obtain ⟨j, hj⟩ : ∃ j, 1000000000 = m + 1 + j := ⟨1000000000 - (m + 1), by omega⟩
  obtain ⟨w, ew, hw⟩ := M_red_z m (stp := stp) j (show PDz (a, b, c, 2 * d, 2 * e, 2 * f) from hp) hs V2 hr
  rw [hj, ew, Option.bind_some]
  dsimp only
  rw [r46_step (by decide), r46_step (by decide), r46_step (by decide), lp_M_reduce_46, if_pos (show (6 : Int32) ≤ nI (3 + 1 + 1 + 1) by decide)]
  obtain ⟨v0, v1, v2, v3, v4, v5⟩ := hw
  refine ⟨_, rfl, v0, v1, v2, ?_, ?_, ?_⟩
  · show w 3 / 2 = _
    rw [v3]
  · show w 4 / 2 = _
    rw [v4]
  · show w 5 / 2 = _
    rw [v5]
theorem R_reduce_z {a b c d e f : Int} {ra rb rc rx ry rz : Int64} {rs : Int32} {m : Nat} {r : Z6 × Nat} (hp : PD a b c (2 * d) (2 * e) (2 * f)) (hs : a + b + c ≤ 1000000000) (hr : zrun m (a, b, c, 2 * d, 2 * e, 2 * f) = some r) (hm : m ≤ 1000000) :
    f_R_reduce ra rb rc rx ry rz rs (zL a) (zL b) (zL c) (zL d) (zL e) (zL f) = some (zL r.1.1, zL r.1.2.1, zL r.1.2.2.1, zL r.1.2.2.2.1, zL r.1.2.2.2.2.1, zL r.1.2.2.2.2.2, nI r.2) := by
  unfold f_R_reduce
  rw [bnd_eq, bnd_eq]
  unfold f_R_setMx f_R_setSq f_R_run
  dsimp only
  rw [zL_2, zL_mul, zL_mul, zL_mul]
  obtain ⟨j, hj⟩ : ∃ j, 1000001 = m + j := ⟨1000001 - m, by omega⟩
  have := R_run_z m (tu := 0) (rs := 0) j (show PDz (a, b, c, 2 * d, 2 * e, 2 * f) from hp) hs hr (by omega)
  rw [Int32.zero_add] at this
  rw [hj]
  have t2 : lp_R_run_7 (m + j) (0 : Int32) (zL a) (zL b) (zL c) (zL (2 * d)) (zL (2 * e)) (zL (2 * f)) (0 : Int32) = _ := this
  rw [t2, Option.bind_some]
/-- a cell that was taken: told numbers, and what reducing them gives -/
def GCell (t l : P6) (nh : Int32) : Prop := ∃ (a b c d e f : Int) (r : Z6 × Nat), ((1 ≤ a ∧ a ≤ 10000) ∧ (1 ≤ b ∧ b ≤ 10000) ∧ (1 ≤ c ∧ c ≤ 10000)) ∧ PD a b c (2 * d) (2 * e) (2 * f) ∧ t = (zL a, zL b, zL c, zL d, zL e, zL f) ∧ zrun (4 * (a + b + c).toNat) (a, b, c, 2 * d, 2 * e, 2 * f) = some r ∧ l = (zL r.1.1, zL r.1.2.1, zL r.1.2.2.1, zL r.1.2.2.2.1 / 2, zL r.1.2.2.2.2.1 / 2, zL r.1.2.2.2.2.2 / 2) ∧ nh = nI r.2
theorem mb {x y X Y : Int} (hx : -X ≤ x ∧ x ≤ X) (hy : -Y ≤ y ∧ y ≤ Y) : -(X * Y) ≤ x * y ∧ x * y ≤ X * Y := by
  have h1 : x.natAbs ≤ X.toNat := by omega
  have h2 : y.natAbs ≤ Y.toNat := by omega
  have h3 := Nat.mul_le_mul h1 h2
  rw [← Int.natAbs_mul] at h3
  have hX : 0 ≤ X := by omega
  have hY : 0 ≤ Y := by omega
  have h4 : ((X.toNat * Y.toNat : Nat) : Int) = X * Y := by
    rw [Int.natCast_mul, Int.toNat_of_nonneg hX, Int.toNat_of_nonneg hY]
  omega
theorem tl (v : Int32) : v.toInt64 = zL v.toInt := by
  apply Int64.toInt_inj.mp
  have h1 := v.le_toInt
  have h2 := v.toInt_lt
  rw [Int32.toInt_toInt64, zL_int ⟨by omega, by omega⟩]
theorem sq_s (v : Int32) : f_isSquare v = 0 ↔ ¬ (1 ≤ v.toInt ∧ v.toInt ≤ 10000) := by
  unfold f_isSquare
  rw [rng_s v 1 10000, show (1 : Int32).toInt = 1 by decide, show (10000 : Int32).toInt = 10000 by decide]
theorem mx_s (v : Int32) : f_isMixed v = 0 ↔ ¬ (-10000 ≤ v.toInt ∧ v.toInt ≤ 10000) := by
  unfold f_isMixed
  rw [rng_s v (-10000) 10000, show (-10000 : Int32).toInt = -10000 by decide, show (10000 : Int32).toInt = 10000 by decide]
theorem bs_s (v : Int32) : f_M_between v.toInt64 (1 : Int64) (10000 : Int64) = 0 ↔ ¬ (1 ≤ v.toInt ∧ v.toInt ≤ 10000) := by
  have h := btw_s v 1 10000 (by omega) (by omega)
  rw [show zL 1 = (1 : Int64) by decide, show zL 10000 = (10000 : Int64) by decide] at h
  exact h
theorem bm_s (v : Int32) : f_M_between v.toInt64 (-10000 : Int64) (10000 : Int64) = 0 ↔ ¬ (-10000 ≤ v.toInt ∧ v.toInt ≤ 10000) := by
  have h := btw_s v (-10000) 10000 (by omega) (by omega)
  rw [show zL (-10000) = (-10000 : Int64) by decide, show zL 10000 = (10000 : Int64) by decide] at h
  exact h
/-- six numbers written to the reference's row -/
def W6 (f : Nat → Int64) (k : Nat) (t : P6) : Nat → Int64 := vp_updL (vp_updL (vp_updL (vp_updL (vp_updL (vp_updL f (6 * k) t.1) (6 * k + 1) t.2.1) (6 * k + 2) t.2.2.1) (6 * k + 3) t.2.2.2.1) (6 * k + 4) t.2.2.2.2.1) (6 * k + 5) t.2.2.2.2.2
theorem up_n {f : Nat → Int64} {k j : Nat} {v : Int64} (h : j ≠ k) : vp_updL f k v j = f j := if_neg h
theorem up_s {f : Nat → Int64} {k : Nat} {v : Int64} : vp_updL f k v k = v := if_pos rfl
theorem W6_s (f : Nat → Int64) (k : Nat) (t : P6) : row6 (W6 f k t) k t := by
  unfold W6
  refine ⟨?_, ?_, ?_, ?_, ?_, ?_⟩
  · rw [up_n (by omega), up_n (by omega), up_n (by omega), up_n (by omega), up_n (by omega), up_s]
  · rw [up_n (by omega), up_n (by omega), up_n (by omega), up_n (by omega), up_s]
  · rw [up_n (by omega), up_n (by omega), up_n (by omega), up_s]
  · rw [up_n (by omega), up_n (by omega), up_s]
  · rw [up_n (by omega), up_s]
  · rw [up_s]
theorem W6_o {f : Nat → Int64} {k j : Nat} (t : P6) (h : j < 6 * k ∨ 6 * k + 6 ≤ j) : W6 f k t j = f j := by
  unfold W6
  rw [up_n (by omega), up_n (by omega), up_n (by omega), up_n (by omega), up_n (by omega), up_n (by omega)]
theorem W6_n {f : Nat → Int64} {k i : Nat} {u : P6} (t : P6) (h : i < k) (hu : row6 f i u) : row6 (W6 f k t) i u := by
  obtain ⟨p0, p1, p2, p3, p4, p5⟩ := hu
  refine ⟨?_, ?_, ?_, ?_, ?_, ?_⟩
  · rw [W6_o t (by omega)]; exact p0
  · rw [W6_o t (by omega)]; exact p1
  · rw [W6_o t (by omega)]; exact p2
  · rw [W6_o t (by omega)]; exact p3
  · rw [W6_o t (by omega)]; exact p4
  · rw [W6_o t (by omega)]; exact p5
section CE
variable {i1 i2 i3 i4 i5 i6 go cm stp : Int32} {am ay as_ : Nat → Int32} {ac al ax : Nat → Int64} {kn : Nat}
theorem s217 {n k : Nat} (hk : k < 6) (hn : kn < 40) : lp_M_cell_217 i1 i2 i3 i4 i5 i6 (n + 1) go (nI (6 * kn)) (nI k) cm stp am ac al ay as_ ax = lp_M_cell_217 i1 i2 i3 i4 i5 i6 n go (nI (6 * kn)) (nI (k + 1)) cm stp am ac al ay as_ (vp_updL ax k (ac (6 * kn + k))) := by
  rw [lp_M_cell_217, if_neg (six_le hk), nI_add, if_pos (inb_nI (by omega) (by omega)), if_pos (inb_nI (by omega) hk), nI_1, nI_clamp (n := k) (by omega), cl6 (by omega)]
theorem s272 {n k : Nat} (hk : k < 6) (hn : kn < 40) : lp_M_cell_272 i1 i2 i3 i4 i5 i6 (n + 1) go (nI (6 * kn)) (nI k) cm stp am ac al ay as_ ax = lp_M_cell_272 i1 i2 i3 i4 i5 i6 n go (nI (6 * kn)) (nI (k + 1)) cm stp am ac (vp_updL al (6 * kn + k) (ax k)) ay as_ ax := by
  rw [lp_M_cell_272, if_neg (six_le hk), nI_add, if_pos (inb_nI (by omega) hk), if_pos (inb_nI (by omega) (by omega)), nI_1, nI_clamp (n := k) (by omega), cl6 (by omega)]
theorem c217 {t : P6} (hn : kn < 40) (h : row6 ac kn t) : ∃ v, lp_M_cell_217 i1 i2 i3 i4 i5 i6 8 go (nI (6 * kn)) (0 : Int32) cm stp am ac al ay as_ ax = some (go, nI (6 * kn), nI 6, cm, stp, am, ac, al, ay, as_, v) ∧ (v 0 = t.1 ∧ v 1 = t.2.1 ∧ v 2 = t.2.2.1 ∧ v 3 = t.2.2.2.1 ∧ v 4 = t.2.2.2.2.1 ∧ v 5 = t.2.2.2.2.2) := by
  rw [show (0 : Int32) = nI 0 from rfl, s217 (by decide) hn, s217 (by decide) hn, s217 (by decide) hn, s217 (by decide) hn, s217 (by decide) hn, s217 (by decide) hn, lp_M_cell_217, if_pos (show (6 : Int32) ≤ nI (0 + 1 + 1 + 1 + 1 + 1 + 1) by decide)]
  exact ⟨_, rfl, h.1, h.2.1, h.2.2.1, h.2.2.2.1, h.2.2.2.2.1, h.2.2.2.2.2⟩
theorem c272 (hn : kn < 40) : lp_M_cell_272 i1 i2 i3 i4 i5 i6 8 go (nI (6 * kn)) (0 : Int32) cm stp am ac al ay as_ ax = some (go, nI (6 * kn), nI 6, cm, stp, am, ac, W6 al kn (ax 0, ax 1, ax 2, ax 3, ax 4, ax 5), ay, as_, ax) := by
  rw [show (0 : Int32) = nI 0 from rfl, s272 (by decide) hn, s272 (by decide) hn, s272 (by decide) hn, s272 (by decide) hn, s272 (by decide) hn, s272 (by decide) hn, lp_M_cell_272, if_pos (show (6 : Int32) ≤ nI (0 + 1 + 1 + 1 + 1 + 1 + 1) by decide)]
  rfl
end CE

