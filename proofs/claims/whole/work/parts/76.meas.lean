-- the three squares of a turn: the same, or one of them lowered
noncomputable def msr (V : Int → Prop) (q : Z6) : Nat := rk V q.1 + rk V q.2.1 + rk V q.2.2.1
def Vd (V : Int → Prop) (q : Z6) : Prop := V q.1 ∧ V q.2.1 ∧ V q.2.2.1
def Dn (V : Int → Prop) (q t : Z6) : Prop := sumz t ≤ sumz q ∧ msr V t ≤ msr V q ∧ (sumz t < sumz q → msr V t < msr V q)
/-- kept by any order of the squares, and by lower ones -/
def Sy (K : Int → Int → Int → Prop) : Prop := (∀ a b c, K a b c → K b a c ∧ K a c b) ∧ (∀ a b c c', c' ≤ c → K a b c → K a b c')
section ME
variable {V : Int → Prop} {K : Int → Int → Int → Prop} {a b c x y z : Int}
theorem Dn.tr {q t s : Z6} (h : Dn V q t) (h' : Dn V t s) : Dn V q s := by
  obtain ⟨h1, h2, h3⟩ := h
  obtain ⟨k1, k2, k3⟩ := h'
  refine ⟨by omega, by omega, fun hl => ?_⟩
  by_cases c : sumz t < sumz q
  · have := h3 c; omega
  · have := k3 (by omega); omega
theorem dn_c {c' x' y' z' : Int} (h : c' ≤ c) (h0 : 0 ≤ c') (hv : V c') : Dn V (a, b, c, x, y, z) (a, b, c', x', y', z') := by
  refine ⟨by show a + b + c' ≤ a + b + c; omega, ?_, fun hl => ?_⟩
  · have := rk_mono (V := V) h
    show rk V a + rk V b + rk V c' ≤ rk V a + rk V b + rk V c
    omega
  · have h2 : a + b + c' < a + b + c := hl
    have := rk_lt (V := V) (x := c') (y := c) h0 (by omega) hv
    show rk V a + rk V b + rk V c' < rk V a + rk V b + rk V c
    omega
theorem dn_b {b' x' y' z' : Int} (h : b' ≤ b) (h0 : 0 ≤ b') (hv : V b') : Dn V (a, b, c, x, y, z) (a, b', c, x', y', z') := by
  refine ⟨by show a + b' + c ≤ a + b + c; omega, ?_, fun hl => ?_⟩
  · have := rk_mono (V := V) h
    show rk V a + rk V b' + rk V c ≤ rk V a + rk V b + rk V c
    omega
  · have h2 : a + b' + c < a + b + c := hl
    have := rk_lt (V := V) (x := b') (y := b) h0 (by omega) hv
    show rk V a + rk V b' + rk V c < rk V a + rk V b + rk V c
    omega
theorem k5_le (h : PD a b c x y z) (k : c5 b x y z) : b ≤ sg x * x := by
  rw [sg_abs]
  have := h.gb
  rcases k with k | k | k
  · omega
  · rw [zabs_p (by omega)]; omega
  · rw [zabs_n (by omega)]; omega
theorem k6_le (h : PD a b c x y z) (k : c6 a x y z) : a ≤ sg y * y := by
  rw [sg_abs]
  have := h.ga
  rcases k with k | k | k
  · omega
  · rw [zabs_p (by omega)]; omega
  · rw [zabs_n (by omega)]; omega
theorem k7_le (h : PD a b c x y z) (k : c7 a x y z) : a ≤ sg z * z := by
  rw [sg_abs]
  have := h.ga
  rcases k with k | k | k
  · omega
  · rw [zabs_p (by omega)]; omega
  · rw [zabs_n (by omega)]; omega
theorem sh_dn (h : PD a b c x y z) (hv : Vd V (sh a b c x y z).2) : Dn V (a, b, c, x, y, z) (sh a b c x y z).2 := by
  have p := (sh_keep h).1.1
  have pb := p.gb
  have pc := p.gc
  unfold sh at hv pb pc ⊢
  by_cases k5 : c5 b x y z
  · rw [if_pos k5] at hv pb pc ⊢
    have := k5_le h k5
    exact dn_c (by omega) (by dsimp only at pc; omega) hv.2.2
  rw [if_neg k5] at hv pb pc ⊢
  by_cases k6 : c6 a x y z
  · rw [if_pos k6] at hv pb pc ⊢
    have := k6_le h k6
    exact dn_c (by omega) (by dsimp only at pc; omega) hv.2.2
  rw [if_neg k6] at hv pb pc ⊢
  by_cases k7 : c7 a x y z
  · rw [if_pos k7] at hv pb pc ⊢
    have := k7_le h k7
    exact dn_b (by omega) (by dsimp only at pb; omega) hv.2.1
  rw [if_neg k7] at hv pb pc ⊢
  by_cases k8 : c8 a b x y z
  · rw [if_pos k8] at hv pb pc ⊢
    have k : x + y + z + a + b ≤ 0 := by
      rcases k8 with k | k <;> omega
    exact dn_c (by omega) (by dsimp only at pc; omega) hv.2.2
  · rw [if_neg k8] at hv pb pc ⊢
    exact ⟨Int.le_refl _, Nat.le_refl _, fun q => absurd q (Int.lt_irrefl _)⟩
theorem tn2_dn (h : PD a b c x y z) (hv : Vd V (tn2 a b c x y z).2) : Dn V (a, b, c, x, y, z) (tn2 a b c x y z).2 := by
  unfold tn2 at hv ⊢
  by_cases k : c2 b c y z
  · rw [if_pos k] at hv ⊢
    refine ⟨by show a + c + b ≤ a + b + c; omega, by show rk V a + rk V c + rk V b ≤ rk V a + rk V b + rk V c; omega, fun q => ?_⟩
    have q2 : a + c + b < a + b + c := q
    omega
  · rw [if_neg k] at hv ⊢
    exact sh_dn h.ali hv
theorem tn_dn {q : Z6} (h : PDz q) (hv : Vd V (tnz q).2) : Dn V q (tnz q).2 := by
  obtain ⟨a, b, c, x, y, z⟩ := q
  unfold tnz tn at hv ⊢
  by_cases k : c1 a b x y
  · rw [if_pos k] at hv ⊢
    have e1 : sumz (a, b, c, x, y, z) = sumz (b, a, c, y, x, z) := by show a + b + c = b + a + c; omega
    have e2 : msr V (a, b, c, x, y, z) = msr V (b, a, c, y, x, z) := by show rk V a + rk V b + rk V c = rk V b + rk V a + rk V c; omega
    have d := tn2_dn (PD.o1 h) hv
    unfold Dn at d ⊢
    rw [e1, e2]
    exact d
  · rw [if_neg k] at hv ⊢
    exact tn2_dn h hv
theorem Sy.lb {b' : Int} (s : Sy K) (h : b' ≤ b) (k : K a b c) : K a b' c := (s.1 _ _ _ (s.2 _ _ _ _ h (s.1 _ _ _ k).2)).2
def Kz (K : Int → Int → Int → Prop) (q : Z6) : Prop := K q.1 q.2.1 q.2.2.1
theorem Sy.hs (s : Sy K) (h : PD a b c x y z) (k : K a b c) : Kz K (sh a b c x y z).2 := by
  unfold sh
  by_cases k5 : c5 b x y z
  · rw [if_pos k5]
    have := k5_le h k5
    exact s.2 _ _ _ _ (show b + c - sg x * x ≤ c by omega) k
  rw [if_neg k5]
  by_cases k6 : c6 a x y z
  · rw [if_pos k6]
    have := k6_le h k6
    exact s.2 _ _ _ _ (show a + c - sg y * y ≤ c by omega) k
  rw [if_neg k6]
  by_cases k7 : c7 a x y z
  · rw [if_pos k7]
    have := k7_le h k7
    exact s.lb (show a + b - sg z * z ≤ b by omega) k
  rw [if_neg k7]
  by_cases k8 : c8 a b x y z
  · rw [if_pos k8]
    have k' : x + y + z + a + b ≤ 0 := by
      rcases k8 with k | k <;> omega
    exact s.2 _ _ _ _ (show c + (x + y + z + a + b) ≤ c by omega) k
  · rw [if_neg k8]; exact k
theorem Sy.t2 (s : Sy K) (h : PD a b c x y z) (k : K a b c) : Kz K (tn2 a b c x y z).2 := by
  unfold tn2
  by_cases k2 : c2 b c y z
  · rw [if_pos k2]; exact (s.1 _ _ _ k).2
  · rw [if_neg k2]; exact s.hs h.ali k
theorem Sy.tz (s : Sy K) {q : Z6} (h : PDz q) (k : Kz K q) : Kz K (tnz q).2 := by
  obtain ⟨a, b, c, x, y, z⟩ := q
  unfold tnz tn
  by_cases k1 : c1 a b x y
  · rw [if_pos k1]; exact s.t2 (PD.o1 h) (s.1 _ _ _ k).1
  · rw [if_neg k1]; exact s.t2 h k
theorem zrun_msr {Inv : Z6 → Prop} (h0 : ∀ q, Inv q → PDz q) (h1 : ∀ q, Inv q → Inv (tnz q).2) (h2 : ∀ q, Inv q → Vd V q) : ∀ (M : Nat) {q : Z6}, Inv q → msr V q < M → ∃ r, zrun (4 * M) q = some r := by
  intro M
  induction M with
  | zero => intro q _ h; omega
  | succ M ih =>
    intro q hi hm
    have i1 := h1 _ hi
    have i2 := h1 _ i1
    have i3 := h1 _ i2
    have i4 := h1 _ i3
    have d1 := tn_dn (h0 _ hi) (h2 _ i1)
    have d2 := d1.tr (tn_dn (h0 _ i1) (h2 _ i2))
    have d3 := d2.tr (tn_dn (h0 _ i2) (h2 _ i3))
    have d4 := d3.tr (tn_dn (h0 _ i3) (h2 _ i4))
    have up : ∀ {n m : Nat} {p : Z6}, n ≤ m → (∃ r, zrun n p = some r) → ∃ r, zrun m p = some r := fun {n m p} hn ⟨r, hr⟩ => ⟨r, by rw [show m = n + (m - n) by omega]; exact zrun_add hr⟩
    rcases four (h0 _ hi) with c | c | c | c
    · exact up (n := 4 * M + 1) (by omega) (zrun_calm c (fun hl => ih i1 (by have := d1.2.2 hl; omega)))
    · obtain ⟨r, hr⟩ := zrun_calm (n := 4 * M) c (fun hl => ih i2 (by have := d2.2.2 hl; omega))
      exact up (n := 4 * M + 1 + 1) (by omega) (zrun_step hr)
    · obtain ⟨r, hr⟩ := zrun_calm (n := 4 * M) c (fun hl => ih i3 (by have := d3.2.2 hl; omega))
      obtain ⟨r, hr⟩ := zrun_step hr
      exact up (n := 4 * M + 1 + 1 + 1) (by omega) (zrun_step hr)
    · obtain ⟨r, hr⟩ := zrun_calm (n := 4 * M) c (fun hl => ih i4 (by have := d4.2.2 hl; omega))
      obtain ⟨r, hr⟩ := zrun_step hr
      obtain ⟨r, hr⟩ := zrun_step hr
      exact up (n := 4 * M + 1 + 1 + 1 + 1) (by omega) (zrun_step hr)
end ME

