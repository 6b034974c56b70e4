-- cell: taken or refused, both sides
def det6 (a b c d e f : Int) : Int := a * (b * c - d * d) - f * (f * c - d * e) + e * (f * d - b * e)
theorem pdet_s (a b c d e f : Int) : f_P_det (zL a) (zL b) (zL c) (zL d) (zL e) (zL f) = zL (det6 a b c d e f) := by
  unfold f_P_det det6
  simp only [zL_mul, zL_sub, zL_add]
def bd6 (a b c d e f : Int) : Prop := ((1 ≤ a ∧ a ≤ 10000) ∧ (1 ≤ b ∧ b ≤ 10000) ∧ (1 ≤ c ∧ c ≤ 10000)) ∧ (-10000 ≤ d ∧ d ≤ 10000) ∧ (-10000 ≤ e ∧ e ≤ 10000) ∧ (-10000 ≤ f ∧ f ≤ 10000)
theorem sm_m2 {a b c d e f : Int} (h : bd6 a b c d e f) : sm (a * b - f * f) := by
  obtain ⟨⟨ha, hb, hc⟩, hd, he, hf⟩ := h
  have p1 := mb (X := 10000) (Y := 10000) (x := a) (y := b) ⟨by omega, by omega⟩ ⟨by omega, by omega⟩
  have p2 := mb (X := 10000) (Y := 10000) hf hf
  exact ⟨by omega, by omega⟩
theorem sm_det {a b c d e f : Int} (h : bd6 a b c d e f) : sm (det6 a b c d e f) := by
  obtain ⟨⟨ha, hb, hc⟩, hd, he, hf⟩ := h
  have hA : -10000 ≤ a ∧ a ≤ 10000 := ⟨by omega, by omega⟩
  have hB : -10000 ≤ b ∧ b ≤ 10000 := ⟨by omega, by omega⟩
  have hC : -10000 ≤ c ∧ c ≤ 10000 := ⟨by omega, by omega⟩
  have p1 := mb hB hC
  have p2 := mb hd hd
  have p3 := mb hf hC
  have p4 := mb hd he
  have p5 := mb hf hd
  have p6 := mb hB he
  have q1 := mb (x := a) (y := b * c - d * d) (X := 10000) (Y := 200000000) hA ⟨by omega, by omega⟩
  have q2 := mb (x := f) (y := f * c - d * e) (X := 10000) (Y := 200000000) hf ⟨by omega, by omega⟩
  have q3 := mb (x := e) (y := f * d - b * e) (X := 10000) (Y := 200000000) he ⟨by omega, by omega⟩
  unfold det6
  exact ⟨by omega, by omega⟩
theorem lc_gt0 {a : Int} (h : sm a) : 0 < lg_cmp (zL a) (0 : Int64) ↔ 0 < a := by rw [← zL_lit0]; exact lc_gt h sm_0
section C2
variable {kn : Nat} {i1 i2 i3 i4 i5 i6 : Int32} {ra rb rc rx ry rz : Int64} {rs : Int32} {stp : Int32} {am ay as_ : Nat → Int32} {ac al ax : Nat → Int64}
/-- what both sides ask of a new cell -/
def okC (kn : Nat) (i1 i2 i3 i4 i5 i6 : Int32) : Prop := kn < 40 ∧ bd6 i1.toInt i2.toInt i3.toInt i4.toInt i5.toInt i6.toInt ∧ 0 < i1.toInt * i2.toInt - i6.toInt * i6.toInt ∧ 0 < det6 i1.toInt i2.toInt i3.toInt i4.toInt i5.toInt i6.toInt
set_option maxHeartbeats 4000000 in
theorem B_cell_t {r : Z6 × Nat} (h : okC kn i1 i2 i3 i4 i5 i6) (hr : zrun (4 * (i1.toInt + i2.toInt + i3.toInt).toNat) (i1.toInt, i2.toInt, i3.toInt, 2 * i4.toInt, 2 * i5.toInt, 2 * i6.toInt) = some r) :
    f_B_cell kn ra rb rc rx ry rz rs i1 i2 i3 i4 i5 i6 = some (nI kn, (1 : Int32), nI (kn + 1), zL r.1.1, zL r.1.2.1, zL r.1.2.2.1, zL r.1.2.2.2.1, zL r.1.2.2.2.2.1, zL r.1.2.2.2.2.2, nI r.2, zL i1.toInt, zL i2.toInt, zL i3.toInt, zL i4.toInt, zL i5.toInt, zL i6.toInt,
      zL r.1.1, zL r.1.2.1, zL r.1.2.2.1, zL r.1.2.2.2.1 / 2, zL r.1.2.2.2.2.1 / 2, zL r.1.2.2.2.2.2 / 2, cnt (zL r.1.1, zL r.1.2.1, zL r.1.2.2.1, zL r.1.2.2.2.1 / 2, zL r.1.2.2.2.2.1 / 2, zL r.1.2.2.2.2.2 / 2), nI r.2) := by
  obtain ⟨hk, hb, h2, h3⟩ := h
  have hb0 := hb
  obtain ⟨⟨ha, hb', hc⟩, hd, he, hf⟩ := hb
  unfold f_B_cell
  rw [if_neg (nI_pos (by omega)), if_pos (show nI kn < Int32.ofNat 40 from nI_lt (a := kn) (b := 40) hk (by decide)), if_neg (fun q => (sq_s i1).mp q ha), if_neg (fun q => (sq_s i2).mp q hb'), if_neg (fun q => (sq_s i3).mp q hc), if_neg (fun q => (mx_s i4).mp q hd), if_neg (fun q => (mx_s i5).mp q he), if_neg (fun q => (mx_s i6).mp q hf), bnd_eq]
  unfold f_P_init
  dsimp only
  rw [tl, tl, tl, tl, tl, tl]
  have hspan : f_P_span (zL i1.toInt) (zL i2.toInt) (zL i3.toInt) (zL i4.toInt) (zL i5.toInt) (zL i6.toInt) = 1 := by
    unfold f_P_span
    rw [pdet_s, zL_mul, zL_mul, zL_sub, if_neg (fun q => by have := (lc_le0 (sm_m2 hb0)).mp q; omega), if_neg (fun q => by have := (lc_le0 (sm_det hb0)).mp q; omega)]
  rw [hspan, if_neg (show ¬ (1 : Int32) = 0 by decide), R_reduce_z (PD_of (by omega) h2 h3) (by omega) hr (by omega), Option.bind_some]
  dsimp only
  unfold f_R_result f_P_init
  rw [bnd_eq, bnd_eq]
  dsimp only
  have ek := keepers_s (zL r.1.1, zL r.1.2.1, zL r.1.2.2.1, zL r.1.2.2.2.1 / 2, zL r.1.2.2.2.2.1 / 2, zL r.1.2.2.2.2.2 / 2)
  dsimp only at ek
  rw [ek, Option.bind_some]
  unfold f_C_init f_R_shears
  rw [bnd_eq, if_pos (inb_nI (by omega) hk), nI_1, nI_pred]
theorem B_cell_r (hk : kn ≤ 40) (h : ¬ okC kn i1 i2 i3 i4 i5 i6) : f_B_cell kn ra rb rc rx ry rz rs i1 i2 i3 i4 i5 i6 = some ((-1 : Int32), (0 : Int32), nI kn, ra, rb, rc, rx, ry, rz, rs, 0, 0, 0, 0, 0, 0, 0, 0, 0, 0, 0, 0, 0, 0) := by
  unfold f_B_cell
  rw [if_neg (nI_pos (by omega))]
  by_cases k0 : kn < 40
  rotate_left
  · rw [if_neg (show ¬ nI kn < Int32.ofNat 40 from nI_nlt (a := kn) (b := 40) (by omega) (by omega))]
  rw [if_pos (show nI kn < Int32.ofNat 40 from nI_lt (a := kn) (b := 40) k0 (by decide))]
  by_cases k1 : 1 ≤ i1.toInt ∧ i1.toInt ≤ 10000
  rotate_left
  · rw [if_pos ((sq_s i1).mpr k1)]
  rw [if_neg (fun q => (sq_s i1).mp q k1)]
  by_cases k2 : 1 ≤ i2.toInt ∧ i2.toInt ≤ 10000
  rotate_left
  · rw [if_pos ((sq_s i2).mpr k2)]
  rw [if_neg (fun q => (sq_s i2).mp q k2)]
  by_cases k3 : 1 ≤ i3.toInt ∧ i3.toInt ≤ 10000
  rotate_left
  · rw [if_pos ((sq_s i3).mpr k3)]
  rw [if_neg (fun q => (sq_s i3).mp q k3)]
  by_cases k4 : -10000 ≤ i4.toInt ∧ i4.toInt ≤ 10000
  rotate_left
  · rw [if_pos ((mx_s i4).mpr k4)]
  rw [if_neg (fun q => (mx_s i4).mp q k4)]
  by_cases k5 : -10000 ≤ i5.toInt ∧ i5.toInt ≤ 10000
  rotate_left
  · rw [if_pos ((mx_s i5).mpr k5)]
  rw [if_neg (fun q => (mx_s i5).mp q k5)]
  by_cases k6 : -10000 ≤ i6.toInt ∧ i6.toInt ≤ 10000
  rotate_left
  · rw [if_pos ((mx_s i6).mpr k6)]
  rw [if_neg (fun q => (mx_s i6).mp q k6), bnd_eq]
  have hb : bd6 i1.toInt i2.toInt i3.toInt i4.toInt i5.toInt i6.toInt := ⟨⟨k1, k2, k3⟩, k4, k5, k6⟩
  unfold f_P_init
  dsimp only
  rw [tl, tl, tl, tl, tl, tl]
  have hspan : f_P_span (zL i1.toInt) (zL i2.toInt) (zL i3.toInt) (zL i4.toInt) (zL i5.toInt) (zL i6.toInt) = 0 := by
    unfold f_P_span
    rw [pdet_s, zL_mul, zL_mul, zL_sub]
    by_cases c : 0 < i1.toInt * i2.toInt - i6.toInt * i6.toInt
    · rw [if_neg (fun q => by have := (lc_le0 (sm_m2 hb)).mp q; omega), if_pos ((lc_le0 (sm_det hb)).mpr (Int.le_of_not_gt fun q => h ⟨k0, hb, c, q⟩))]
    · rw [if_pos ((lc_le0 (sm_m2 hb)).mpr (by omega))]
  rw [hspan, if_pos rfl]
theorem M_95 (k : Int32) (hk : kn < 40) (hb : bd6 i1.toInt i2.toInt i3.toInt i4.toInt i5.toInt i6.toInt) (h1 : ¬ k = 0) : jn_M_cell_95 i1 i2 i3 i4 i5 i6 k (nI kn) stp am ac al ay as_ ax =
    if 0 < i1.toInt * i2.toInt - i6.toInt * i6.toInt then (if 0 < det6 i1.toInt i2.toInt i3.toInt i4.toInt i5.toInt i6.toInt then
      Option.bind (lp_M_cell_217 i1 i2 i3 i4 i5 i6 8 k (nI (6 * kn)) (0 : Int32) (nI kn) stp am (W6 ac kn (zL i1.toInt, zL i2.toInt, zL i3.toInt, zL i4.toInt, zL i5.toInt, zL i6.toInt)) al ay as_ ax) (fun z_58 => (Option.bind (f_M_reduce z_58.2.2.2.2.2.2.2.2.2.2 (0 : Int32)) (fun z_57 => (if inb z_58.2.2.2.1 40 = true then (Option.bind (lp_M_cell_272 i1 i2 i3 i4 i5 i6 8 z_58.1 z_58.2.1 (0 : Int32) z_58.2.2.2.1 z_57.2 z_58.2.2.2.2.2.1 z_58.2.2.2.2.2.2.1 z_58.2.2.2.2.2.2.2.1 z_58.2.2.2.2.2.2.2.2.1 (upd z_58.2.2.2.2.2.2.2.2.2.1 z_58.2.2.2.1.toNatClampNeg z_57.2) z_57.1) (fun z_56 => (lp_M_cell_308 i1 i2 i3 i4 i5 i6 19685 z_56.1 z_56.2.1 (0 : Int32) (0 : Int32) z_56.2.2.2.1 z_56.2.2.2.2.1 z_56.2.2.2.2.2.1 z_56.2.2.2.2.2.2.1 z_56.2.2.2.2.2.2.2.1 z_56.2.2.2.2.2.2.2.2.1 z_56.2.2.2.2.2.2.2.2.2.1 z_56.2.2.2.2.2.2.2.2.2.2))) else none))))
      else some ((-1 : Int32), nI kn, stp, am, W6 ac kn (zL i1.toInt, zL i2.toInt, zL i3.toInt, zL i4.toInt, zL i5.toInt, zL i6.toInt), al, ay, as_, ax)) else some ((-1 : Int32), nI kn, stp, am, ac, al, ay, as_, ax) := by
  unfold jn_M_cell_95
  have c0 : (nI (6 * kn)).toNatClampNeg = 6 * kn := cl6 (by omega)
  have c1' : (nI (6 * kn + 1)).toNatClampNeg = 6 * kn + 1 := cl6 (by omega)
  have c2' : (nI (6 * kn + 2)).toNatClampNeg = 6 * kn + 2 := cl6 (by omega)
  have c3' : (nI (6 * kn + 3)).toNatClampNeg = 6 * kn + 3 := cl6 (by omega)
  have c4' : (nI (6 * kn + 4)).toNatClampNeg = 6 * kn + 4 := cl6 (by omega)
  have c5' : (nI (6 * kn + 5)).toNatClampNeg = 6 * kn + 5 := cl6 (by omega)
  rw [if_neg h1, nI_6, nI_p1, nI_p2, nI_p3, nI_p4, nI_p5, c0, c1', c2', c3', c4', c5', tl i1, tl i2, tl i3, tl i4, tl i5, tl i6]
  rw [if_pos (inb_nI (k := 6 * kn) (n := 240) (by omega) (by omega)), if_pos (inb_nI (k := 6 * kn + 1) (n := 240) (by omega) (by omega)), if_pos (inb_nI (k := 6 * kn + 2) (n := 240) (by omega) (by omega)), if_pos (inb_nI (k := 6 * kn + 3) (n := 240) (by omega) (by omega)), if_pos (inb_nI (k := 6 * kn + 4) (n := 240) (by omega) (by omega)), if_pos (inb_nI (k := 6 * kn + 5) (n := 240) (by omega) (by omega))]
  rw [zL_mul, zL_mul, zL_sub]
  have ed := det_s hk (W6_s ac kn (zL i1.toInt, zL i2.toInt, zL i3.toInt, zL i4.toInt, zL i5.toInt, zL i6.toInt))
  dsimp only at ed
  rw [pdet_s] at ed
  unfold W6 at ed
  dsimp only at ed
  rw [ed, Option.bind_some]
  simp only [lc_gt0 (sm_m2 hb), lc_gt0 (sm_det hb)]
  rfl
end C2

