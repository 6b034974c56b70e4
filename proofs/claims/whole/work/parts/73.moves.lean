-- what the turns keep: whatever is kept by four moves
def Cl4 (K : Z6 → Prop) : Prop := ((∀ a b c x y z : Int, K (a, b, c, x, y, z) → K (b, a, c, y, x, z)) ∧ (∀ a b c x y z : Int, K (a, b, c, x, y, z) → K (a, c, b, x, z, y))) ∧ (∀ a b c x y z : Int, K (a, b, c, x, y, z) → K (a, b, c, x, -y, -z)) ∧ (∀ a b c x y z : Int, K (a, b, c, x, y, z) → K (a, a + b - 1 * z, c, x - 1 * y, y, z - 2 * 1 * a))
section CL
variable {K : Z6 → Prop} {a b c x y z : Int}
theorem K6 {a' b' c' x' y' z' : Int} (k : K (a, b, c, x, y, z)) (e1 : a = a') (e2 : b = b') (e3 : c = c') (e4 : x = x') (e5 : y = y') (e6 : z = z') : K (a', b', c', x', y', z') := by
  rw [← e1, ← e2, ← e3, ← e4, ← e5, ← e6]; exact k
theorem Cl4.o1 (g : Cl4 K) (k : K (a, b, c, x, y, z)) : K (b, a, c, y, x, z) := g.1.1 _ _ _ _ _ _ k
theorem Cl4.o2 (g : Cl4 K) (k : K (a, b, c, x, y, z)) : K (a, c, b, x, z, y) := g.1.2 _ _ _ _ _ _ k
theorem Cl4.fi (g : Cl4 K) (k : K (a, b, c, x, y, z)) : K (a, b, c, x, -y, -z) := g.2.1 _ _ _ _ _ _ k
theorem Cl4.s7p (g : Cl4 K) (k : K (a, b, c, x, y, z)) : K (a, a + b - 1 * z, c, x - 1 * y, y, z - 2 * 1 * a) := g.2.2 _ _ _ _ _ _ k
theorem Cl4.fj (g : Cl4 K) (k : K (a, b, c, x, y, z)) : K (a, b, c, -x, y, -z) := g.o1 (g.fi (g.o1 k))
theorem Cl4.fk (g : Cl4 K) (k : K (a, b, c, x, y, z)) : K (a, b, c, -x, -y, z) := K6 (g.fj (g.fi k)) rfl rfl rfl rfl rfl (by omega)
theorem Cl4.s7m (g : Cl4 K) (k : K (a, b, c, x, y, z)) : K (a, a + b - -1 * z, c, x - -1 * y, y, z - 2 * -1 * a) := K6 (g.fi (g.s7p (g.fi k))) rfl (by omega) rfl (by omega) (by omega) (by omega)
theorem Cl4.s6p (g : Cl4 K) (k : K (a, b, c, x, y, z)) : K (a, b, a + c - 1 * y, x - 1 * z, y - 2 * 1 * a, z) := g.o2 (g.s7p (g.o2 k))
theorem Cl4.s6m (g : Cl4 K) (k : K (a, b, c, x, y, z)) : K (a, b, a + c - -1 * y, x - -1 * z, y - 2 * -1 * a, z) := g.o2 (g.s7m (g.o2 k))
theorem Cl4.s5p (g : Cl4 K) (k : K (a, b, c, x, y, z)) : K (a, b, b + c - 1 * x, x - 2 * 1 * b, y - 1 * z, z) := g.o1 (g.s6p (g.o1 k))
theorem Cl4.s5m (g : Cl4 K) (k : K (a, b, c, x, y, z)) : K (a, b, b + c - -1 * x, x - 2 * -1 * b, y - -1 * z, z) := g.o1 (g.s6m (g.o1 k))
theorem Cl4.s8 (g : Cl4 K) (k : K (a, b, c, x, y, z)) : K (a, b, c + (x + y + z + a + b), 2 * b + x + z, 2 * a + y + z, z) := K6 (g.s5m (g.s6m k)) rfl rfl (by omega) (by omega) (by omega) rfl
theorem Cl4.ali (g : Cl4 K) (h : K (a, b, c, x, y, z)) : K (a, b, c, al x y z x, al x y z y, al x y z z) := by
  unfold al
  by_cases hp : isP x y z
  · rw [if_pos hp, if_pos hp, if_pos hp]
    rcases hp with ⟨h1, h2, h3⟩ | ⟨h1, h2, h3⟩ | ⟨h1, h2, h3⟩ | ⟨h1, h2, h3⟩
    · rw [zabs_p (by omega), zabs_p (by omega), zabs_p (by omega)]; exact h
    · rw [zabs_p (by omega), zabs_n (x := y) (by omega), zabs_n (x := z) (by omega)]; exact g.fi h
    · rw [zabs_n (x := x) (by omega), zabs_p (by omega), zabs_n (x := z) (by omega)]; exact g.fj h
    · rw [zabs_n (x := x) (by omega), zabs_n (x := y) (by omega), zabs_p (by omega)]; exact g.fk h
  · rw [if_neg hp, if_neg hp, if_neg hp]
    by_cases h1 : 0 ≤ x
    · by_cases h2 : 0 ≤ y
      · by_cases h3 : 0 ≤ z
        · by_cases h4 : x = 0
          · rw [zabs_p h1, zabs_p h2, zabs_p h3, h4]; rw [h4] at h; exact g.fi h
          · by_cases h5 : y = 0
            · rw [zabs_p h1, zabs_p h2, zabs_p h3, h5]; rw [h5] at h; exact g.fj h
            · have h6 : z = 0 := by omega
              rw [zabs_p h1, zabs_p h2, zabs_p h3, h6]; rw [h6] at h; exact g.fk h
        · rw [zabs_p h1, zabs_p h2, zabs_n (by omega), Int.neg_neg]; exact g.fk h
      · by_cases h3 : 0 ≤ z
        · rw [zabs_p h1, zabs_n (x := y) (by omega), zabs_p h3, Int.neg_neg]; exact g.fj h
        · have h4 : x = 0 := by omega
          rw [zabs_p h1, zabs_n (x := y) (by omega), zabs_n (x := z) (by omega), Int.neg_neg, Int.neg_neg, h4]; rw [h4] at h; exact h
    · by_cases h2 : 0 ≤ y
      · by_cases h3 : 0 ≤ z
        · rw [zabs_n (x := x) (by omega), zabs_p h2, zabs_p h3, Int.neg_neg]; exact g.fi h
        · have h4 : y = 0 := by omega
          rw [zabs_n (x := x) (by omega), zabs_p h2, zabs_n (x := z) (by omega), Int.neg_neg, Int.neg_neg, h4]; rw [h4] at h; exact h
      · by_cases h3 : 0 ≤ z
        · have h4 : z = 0 := by omega
          rw [zabs_n (x := x) (by omega), zabs_n (x := y) (by omega), zabs_p h3, Int.neg_neg, Int.neg_neg, h4]; rw [h4] at h; exact h
        · rw [zabs_n (x := x) (by omega), zabs_n (x := y) (by omega), zabs_n (x := z) (by omega), Int.neg_neg, Int.neg_neg, Int.neg_neg]; exact h
theorem Cl4.hs (g : Cl4 K) (h : K (a, b, c, x, y, z)) : K (sh a b c x y z).2 := by
  unfold sh
  by_cases k5 : c5 b x y z
  · rw [if_pos k5]
    by_cases kx : 0 < x
    · rw [sg_pos kx]; exact g.s5p h
    · rw [sg_neg kx]; exact g.s5m h
  rw [if_neg k5]
  by_cases k6 : c6 a x y z
  · rw [if_pos k6]
    by_cases ky : 0 < y
    · rw [sg_pos ky]; exact g.s6p h
    · rw [sg_neg ky]; exact g.s6m h
  rw [if_neg k6]
  by_cases k7 : c7 a x y z
  · rw [if_pos k7]
    by_cases kz : 0 < z
    · rw [sg_pos kz]; exact g.s7p h
    · rw [sg_neg kz]; exact g.s7m h
  rw [if_neg k7]
  by_cases k8 : c8 a b x y z
  · rw [if_pos k8]; exact g.s8 h
  · rw [if_neg k8]; exact h
theorem Cl4.t2 (g : Cl4 K) (h : K (a, b, c, x, y, z)) : K (tn2 a b c x y z).2 := by
  unfold tn2
  by_cases k : c2 b c y z
  · rw [if_pos k]; exact g.o2 h
  · rw [if_neg k]; exact g.hs (g.ali h)
theorem Cl4.t1 (g : Cl4 K) (h : K (a, b, c, x, y, z)) : K (tn a b c x y z).2 := by
  unfold tn
  by_cases k : c1 a b x y
  · rw [if_pos k]; exact g.t2 (g.o1 h)
  · rw [if_neg k]; exact g.t2 h
theorem Cl4.tz (g : Cl4 K) {q : Z6} (h : K q) : K (tnz q).2 := by
  obtain ⟨a, b, c, x, y, z⟩ := q
  exact g.t1 h
theorem Cl4.zr (g : Cl4 K) : ∀ (m : Nat) {q : Z6} {r : Z6 × Nat}, K q → zrun m q = some r → K r.1 := by
  intro m
  induction m with
  | zero => intro q r _ h; cases h
  | succ m ih =>
    intro q r hp h
    have k := g.tz hp
    rw [zrun] at h
    by_cases c0 : (tnz q).1 = 0
    · rw [if_pos c0] at h
      cases h
      exact k
    · rw [if_neg c0] at h
      rcases e : zrun m (tnz q).2 with _ | s
      · rw [e] at h; cases h
      rw [e] at h
      have hr := Option.some.inj h
      rw [← hr]
      have h2 := ih k e
      exact h2
end CL
-- whole linear maps of triples
abbrev M3 : Type := V3 × V3 × V3
/-- the sum of the columns of M by the numbers of v -/
def mv (M : M3) (v : V3) : V3 := (M.1.1 * v.1 + M.2.1.1 * v.2.1 + M.2.2.1 * v.2.2, M.1.2.1 * v.1 + M.2.1.2.1 * v.2.1 + M.2.2.2.1 * v.2.2, M.1.2.2 * v.1 + M.2.1.2.2 * v.2.1 + M.2.2.2.2 * v.2.2)
def mm (M N : M3) : M3 := (mv M N.1, mv M N.2.1, mv M N.2.2)
def m1 : M3 := ((1, 0, 0), (0, 1, 0), (0, 0, 1))
theorem v3x {v w : V3} (e1 : v.1 = w.1) (e2 : v.2.1 = w.2.1) (e3 : v.2.2 = w.2.2) : v = w := by
  obtain ⟨a, b, c⟩ := v
  obtain ⟨d, e, f⟩ := w
  dsimp only at e1 e2 e3
  rw [e1, e2, e3]
theorem mv_mm (M N : M3) (v : V3) : mv M (mv N v) = mv (mm M N) v := by
  unfold mm mv
  dsimp only
  refine v3x ?_ ?_ ?_ <;> dsimp only <;> grind
theorem mv_1 (v : V3) : mv m1 v = v := by
  unfold mv m1
  refine v3x ?_ ?_ ?_ <;> dsimp only <;> omega
theorem mv_ad (M : M3) : Ad (mv M) := by
  intro v w
  unfold mv va
  dsimp only
  refine v3x ?_ ?_ ?_ <;> dsimp only <;> grind
theorem EQl.of {q q' : Z6} (M W : M3) (h : ∀ v, Qz q' v = Qz q (mv M v)) (e1 : mm M W = m1) (e2 : mm W M = m1) : EQl q q' :=
  ⟨mv M, mv W, h, ⟨fun v => by rw [mv_mm, e1, mv_1], fun v => by rw [mv_mm, e2, mv_1]⟩, mv_ad M, mv_ad W⟩
def qo1 (q : Z6) : Z6 := (q.2.1, q.1, q.2.2.1, q.2.2.2.2.1, q.2.2.2.1, q.2.2.2.2.2)
def qo2 (q : Z6) : Z6 := (q.1, q.2.2.1, q.2.1, q.2.2.2.1, q.2.2.2.2.2, q.2.2.2.2.1)
def qfi (q : Z6) : Z6 := (q.1, q.2.1, q.2.2.1, q.2.2.2.1, -q.2.2.2.2.1, -q.2.2.2.2.2)
def qs7 (q : Z6) : Z6 := (q.1, q.1 + q.2.1 - 1 * q.2.2.2.2.2, q.2.2.1, q.2.2.2.1 - 1 * q.2.2.2.2.1, q.2.2.2.2.1, q.2.2.2.2.2 - 2 * 1 * q.1)
def Mo1 : M3 := ((0, 1, 0), (1, 0, 0), (0, 0, 1))
def Mo2 : M3 := ((1, 0, 0), (0, 0, 1), (0, 1, 0))
def Mfi : M3 := ((-1, 0, 0), (0, 1, 0), (0, 0, 1))
def Ms7 : M3 := ((1, 0, 0), (-1, 1, 0), (0, 0, 1))
def Ms8 : M3 := ((1, 0, 0), (1, 1, 0), (0, 0, 1))
theorem Q_o1 (q : Z6) (v : V3) : Qz (qo1 q) v = Qz q (mv Mo1 v) := by
  unfold Qz qo1 mv Mo1 qv; dsimp only; grind
theorem Q_o2 (q : Z6) (v : V3) : Qz (qo2 q) v = Qz q (mv Mo2 v) := by
  unfold Qz qo2 mv Mo2 qv; dsimp only; grind
theorem Q_fi (q : Z6) (v : V3) : Qz (qfi q) v = Qz q (mv Mfi v) := by
  unfold Qz qfi mv Mfi qv; dsimp only; grind
theorem Q_s7 (q : Z6) (v : V3) : Qz (qs7 q) v = Qz q (mv Ms7 v) := by
  unfold Qz qs7 mv Ms7 qv; dsimp only; grind
theorem cl_EQl (q0 : Z6) : Cl4 (EQl q0) :=
  ⟨⟨fun a b c x y z h => h.tr (EQl.of Mo1 Mo1 (Q_o1 (a, b, c, x, y, z)) (by decide) (by decide)), fun a b c x y z h => h.tr (EQl.of Mo2 Mo2 (Q_o2 (a, b, c, x, y, z)) (by decide) (by decide))⟩, fun a b c x y z h => h.tr (EQl.of Mfi Mfi (Q_fi (a, b, c, x, y, z)) (by decide) (by decide)), fun a b c x y z h => h.tr (EQl.of Ms7 Ms8 (Q_s7 (a, b, c, x, y, z)) (by decide) (by decide))⟩
/-- the reduced form -/
def Kf (q : Z6) : Z6 := ((zrun (4 * (sumz q).toNat) q).getD ((0, 0, 0, 0, 0, 0), 0)).1
theorem Kf_of {q : Z6} {r : Z6 × Nat} (h : zrun (4 * (sumz q).toNat) q = some r) : Kf q = r.1 := by
  unfold Kf
  rw [h]
  rfl
theorem PDz.s {q : Z6} (h : PDz q) : 3 ≤ sumz q := by
  have h1 := PD.ga h
  have h2 := PD.gb h
  have h3 := PD.gc h
  unfold sumz
  omega
theorem Kf_s {q : Z6} (h : PDz q) : ∃ r, zrun (4 * (sumz q).toNat) q = some r ∧ r.1 = Kf q := by
  have hs := h.s
  obtain ⟨r, e⟩ := zrun_ends (sumz q).toNat h (by omega)
  exact ⟨r, e, (Kf_of e).symm⟩
theorem zr_Kf {m : Nat} {q : Z6} {r : Z6 × Nat} (h : PDz q) (e : zrun m q = some r) : r.1 = Kf q := by
  obtain ⟨s, e2, e3⟩ := Kf_s h
  have h1 := zrun_add (m := 4 * (sumz q).toNat) e
  have h2 := zrun_add (m := m) e2
  rw [Nat.add_comm] at h2
  rw [h1] at h2
  rw [Option.some.inj h2, e3]
theorem Kf_N {q : Z6} (h : PDz q) : NRz (Kf q) ∧ PDz (Kf q) ∧ EQl q (Kf q) := by
  obtain ⟨r, e, e2⟩ := Kf_s h
  rw [← e2]
  have := zrun_N _ h e
  exact ⟨this.1, this.2.1, (cl_EQl q).zr _ (EQl.rf q) e⟩
theorem Kf_eq {q q' : Z6} (h : PDz q) (e : EQl q q') : Kf q' = Kf q := by
  have h1 := Kf_N h
  have h2 := Kf_N (e.pd h)
  exact uq ((h1.2.2.sy.tr e).tr h2.2.2) h1.1 h2.1 h1.2.1 h2.2.1

