-- a cell's reduced six has the told one's multiples, each as often
section GF
theorem gp_edg (F : E6 → P6) (n : Nat) : gp F n n 1 = (edg n).map F := by
  unfold gp edg
  rw [List.map_flatMap]
  congr 1
  funext p
  by_cases c : n % p = 0
  · rw [if_pos c, if_pos c]
    unfold gr er
    rw [List.map_flatMap]
    congr 1
    funext r
    by_cases d : n / p % r = 0
    · rw [if_pos d, if_pos d]
      unfold gq eqq
      rw [List.map_flatMap]
      congr 1
      funext q
      unfold gs es
      rw [List.map_flatMap]
      congr 1
      funext s
      unfold gt et
      rw [List.map_map]
      rfl
    · rw [if_neg d, if_neg d]; rfl
  · rw [if_neg c, if_neg c]; rfl
theorem ez_e6 (a b c d e f : Int) (E : E6) : ez a b c d e f E.1 E.2.1 E.2.2.1 E.2.2.2.1 E.2.2.2.2.1 E.2.2.2.2.2 = e6 (a, b, c, 2 * d, 2 * e, 2 * f) (hm E) := by
  obtain ⟨p, q, r, s, t, u⟩ := E
  unfold ez e6 pz Qz hm va qv dz
  dsimp only
  refine Prod.ext ?_ (Prod.ext ?_ (Prod.ext ?_ (Prod.ext ?_ (Prod.ext ?_ ?_)))) <;> dsimp only <;> grind
theorem rkey_K (a b c d e f : Int) (E : E6) : rkey a b c d e f E = hz (Kf (e6 (a, b, c, 2 * d, 2 * e, 2 * f) (hm E))) := by
  unfold rkey rrun Kf
  rw [ez_e6]
theorem dz_c {a b c d e f x y z u v w : Int} (ha : -30000 ≤ a ∧ a ≤ 30000) (hb : -30000 ≤ b ∧ b ≤ 30000) (hc : -30000 ≤ c ∧ c ≤ 30000) (hd : -30000 ≤ d ∧ d ≤ 30000) (he : -30000 ≤ e ∧ e ≤ 30000) (hf : -30000 ≤ f ∧ f ≤ 30000)
    (hx : -15 ≤ x ∧ x ≤ 15) (hy : -15 ≤ y ∧ y ≤ 15) (hz : -15 ≤ z ∧ z ≤ 15) (hu : -15 ≤ u ∧ u ≤ 15) (hv : -15 ≤ v ∧ v ≤ 15) (hw : -15 ≤ w ∧ w ≤ 15) : dz a b c d e f x y z u v w ≤ 100000000 := by
  have m1 := mb (mb ha hx) hu
  have m2 := mb (mb hb hy) hv
  have m3 := mb (mb hc hz) hw
  have n1 := mb hy hw
  have n2 := mb hz hv
  have n3 := mb hx hw
  have n4 := mb hz hu
  have n5 := mb hx hv
  have n6 := mb hy hu
  have k1 := mb (X := 30000) (Y := 450) (x := d) (y := y * w + z * v) hd ⟨by omega, by omega⟩
  have k2 := mb (X := 30000) (Y := 450) (x := e) (y := x * w + z * u) he ⟨by omega, by omega⟩
  have k3 := mb (X := 30000) (Y := 450) (x := f) (y := x * v + y * u) hf ⟨by omega, by omega⟩
  unfold dz
  omega
theorem pr6_z {A B C D E F : Int} {x y z u v w : Nat} (hx : x < 16) (hy : y < 16) (hz : z < 16) (hu : u < 16) (hv : v < 16) (hw : w < 16) : pr6 (zL A, zL B, zL C, zL D, zL E, zL F) x y z u v w = zL (dz A B C D E F x y z u v w) := by
  unfold pr6
  rw [tlN (by omega), tlN (by omega), tlN (by omega), tlN (by omega), tlN (by omega), tlN (by omega), prod_z]
/-- the program's turns, where they end in time -/
theorem crun_z {A B C D F G : Int} {E : E6} {m j : Nat} {r : Z6 × Nat} (hmj : m + j = 1000001) (hm' : m ≤ 1000000) (hE : E.1 < 16 ∧ E.2.1 < 16 ∧ E.2.2.1 < 16 ∧ E.2.2.2.1 < 16 ∧ E.2.2.2.2.1 < 16 ∧ E.2.2.2.2.2 < 16) (hp : PDz (ez A B C D F G E.1 E.2.1 E.2.2.1 E.2.2.2.1 E.2.2.2.2.1 E.2.2.2.2.2)) (hs : sumz (ez A B C D F G E.1 E.2.1 E.2.2.1 E.2.2.2.1 E.2.2.2.2.1 E.2.2.2.2.2) ≤ 1000000000) (h : zrun m (ez A B C D F G E.1 E.2.1 E.2.2.1 E.2.2.2.1 E.2.2.2.2.1 E.2.2.2.2.2) = some r) : ckey (zL A, zL B, zL C, zL D, zL F, zL G) E = hz r.1 := by
  obtain ⟨p, q, s, t, u, v⟩ := E
  dsimp only at hE hp hs h
  obtain ⟨h1, h2, h3, h4, h5, h6⟩ := hE
  have k := R_run_z m (tu := 0) (rs := 0) j hp hs h (by omega)
  rw [hmj] at k
  unfold ez at k
  dsimp only at k
  have e : crun (zL A, zL B, zL C, zL D, zL F, zL G) (p, q, s, t, u, v) = some (zL r.1.1, zL r.1.2.1, zL r.1.2.2.1, zL r.1.2.2.2.1, zL r.1.2.2.2.2.1, zL r.1.2.2.2.2.2, 0 + nI r.2) := by
    unfold crun
    dsimp only
    rw [pr6_z h1 (by omega) (by omega) h1 (by omega) (by omega), pr6_z h2 h3 (by omega) h2 h3 (by omega), pr6_z h4 h5 h6 h4 h5 h6, pr6_z h2 h3 (by omega) h4 h5 h6, pr6_z h1 (by omega) (by omega) h4 h5 h6, pr6_z h1 (by omega) (by omega) h2 h3 (by omega), zL_2, zL_mul, zL_mul, zL_mul]
    exact k
  have c := crun_s (zL A, zL B, zL C, zL D, zL F, zL G) (p, q, s, t, u, v)
  rw [e] at c
  unfold ckey
  rw [← Option.some.inj c]
  rfl
theorem ckey_K {low : Z6} (hN : NRz low) (hpd : PDz low) (hev : EV low) (hs3 : sumz low ≤ 30000) {n : Nat} (h1 : 1 ≤ n) (h2 : n ≤ 12) {E : E6} (hE : E ∈ edg n) : ckey (hz low) E = hz (Kf (e6 low (hm E))) := by
  obtain ⟨m, hm'⟩ := end_all hN hpd hev hs3 h1 h2 hE
  have po := edg_pos h1 h2 hE
  have hP := hm_PD hpd po.1 po.2.1 po.2.2
  have e16 := allE_s sm_all h1 h2 hE
  rw [Bool.and_eq_true, Bool.and_eq_true, Bool.and_eq_true, Bool.and_eq_true, Bool.and_eq_true, decide_eq_true_iff, decide_eq_true_iff, decide_eq_true_iff, decide_eq_true_iff, decide_eq_true_iff, decide_eq_true_iff] at e16
  have ga := PD.ga hpd
  have gb := PD.gb hpd
  have gc := PD.gc hpd
  have gm := NR_m hN
  rw [← zr_Kf hP hm']
  obtain ⟨A, B, C, x, y, z⟩ := low
  have sm' : A + B + C ≤ 30000 := hs3
  dsimp only at ga gb gc gm
  obtain ⟨v1, v2, v3⟩ := hev
  dsimp only at v1 v2 v3
  have ex : 2 * (x / 2) = x := by omega
  have ey : 2 * (y / 2) = y := by omega
  have ez' : 2 * (z / 2) = z := by omega
  have el : hz (A, B, C, x, y, z) = (zL A, zL B, zL C, zL (x / 2), zL (y / 2), zL (z / 2)) := by
    unfold hz
    dsimp only
    rw [half_z v1 ⟨by omega, by omega⟩, half_z v2 ⟨by omega, by omega⟩, half_z v3 ⟨by omega, by omega⟩]
  have ee := ez_e6 A B C (x / 2) (y / 2) (z / 2) E
  rw [ex, ey, ez'] at ee
  rw [el]
  refine crun_z (m := 999964) (j := 37) rfl (by omega) e16 (by rw [ee]; exact hP) ?_ (by rw [ee]; exact hm')
  obtain ⟨p, q, r, s, t, u⟩ := E
  dsimp only at e16
  have d1 := dz_c (a := A) (b := B) (c := C) (d := x / 2) (e := y / 2) (f := z / 2) (x := p) (y := 0) (z := 0) (u := p) (v := 0) (w := 0) (by omega) (by omega) (by omega) (by omega) (by omega) (by omega) (by omega) (by omega) (by omega) (by omega) (by omega) (by omega)
  have d2 := dz_c (a := A) (b := B) (c := C) (d := x / 2) (e := y / 2) (f := z / 2) (x := q) (y := r) (z := 0) (u := q) (v := r) (w := 0) (by omega) (by omega) (by omega) (by omega) (by omega) (by omega) (by omega) (by omega) (by omega) (by omega) (by omega) (by omega)
  have d3 := dz_c (a := A) (b := B) (c := C) (d := x / 2) (e := y / 2) (f := z / 2) (x := s) (y := t) (z := u) (u := s) (v := t) (w := u) (by omega) (by omega) (by omega) (by omega) (by omega) (by omega) (by omega) (by omega) (by omega) (by omega) (by omega) (by omega)
  show dz A B C (x / 2) (y / 2) (z / 2) p 0 0 p 0 0 + dz A B C (x / 2) (y / 2) (z / 2) q r 0 q r 0 + dz A B C (x / 2) (y / 2) (z / 2) s t u s t u ≤ 1000000000
  omega
end GF
theorem gm_of {t l : P6} {nh : Int32} (h : GCell t l nh) : GM t l := by
  obtain ⟨a, b, c, d, e, f, r, hb, hP, ht, hz', hl, _⟩ := h
  refine ⟨a, b, c, d, e, f, ⟨hb, hP⟩, ht, fun n h1 h2 => ?_⟩
  have pz' : PDz (a, b, c, 2 * d, 2 * e, 2 * f) := hP
  have zn := zrun_N _ pz' hz'
  have ev : EV r.1 := zrun_ev _ (q := (a, b, c, 2 * d, 2 * e, 2 * f)) ⟨by show 2 * d % 2 = 0; omega, by show 2 * e % 2 = 0; omega, by show 2 * f % 2 = 0; omega⟩ hz'
  have s0 : sumz r.1 ≤ a + b + c := zn.2.2
  have hs3 : sumz r.1 ≤ 30000 := by omega
  have el : l = hz r.1 := hl
  have k1 : gp (rkey a b c d e f) n n 1 = (ml (a, b, c, 2 * d, 2 * e, 2 * f) n).map hz := by
    rw [gp_edg]
    unfold ml
    rw [List.map_map]
    exact List.map_congr_left (fun E _ => rkey_K a b c d e f E)
  have k2 : gp (ckey l) n n 1 = (ml r.1 n).map hz := by
    rw [gp_edg, el]
    unfold ml
    rw [List.map_map]
    exact List.map_congr_left (fun E hE => ckey_K zn.1 zn.2.1 ev hs3 h1 h2 hE)
  rw [k1, k2]
  exact (ml_red pz' hz' h1 h2).map hz

