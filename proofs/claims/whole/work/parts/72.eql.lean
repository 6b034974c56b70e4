-- two forms of one lattice: additive maps there and back; the reduced form is one
def va (v w : V3) : V3 := (v.1 + w.1, v.2.1 + w.2.1, v.2.2 + w.2.2)
def Ad (f : V3 → V3) : Prop := ∀ v w, f (va v w) = va (f v) (f w)
def EQl (q q' : Z6) : Prop := ∃ f g : V3 → V3, (∀ v, Qz q' v = Qz q (f v)) ∧ ((∀ v, f (g v) = v) ∧ (∀ v, g (f v) = v)) ∧ Ad f ∧ Ad g
theorem EQl.rf (q : Z6) : EQl q q := ⟨id, id, fun _ => rfl, ⟨fun _ => rfl, fun _ => rfl⟩, fun _ _ => rfl, fun _ _ => rfl⟩
theorem EQl.sy {q q' : Z6} (h : EQl q q') : EQl q' q := by
  obtain ⟨f, g, h1, ⟨h2, h3⟩, h4, h5⟩ := h
  exact ⟨g, f, fun v => by rw [h1, h2], ⟨h3, h2⟩, h5, h4⟩
theorem EQl.tr {q q' q'' : Z6} (h : EQl q q') (h' : EQl q' q'') : EQl q q'' := by
  obtain ⟨f, g, h1, ⟨h2, h3⟩, h4, h5⟩ := h
  obtain ⟨f', g', k1, ⟨k2, k3⟩, k4, k5⟩ := h'
  exact ⟨fun v => f (f' v), fun v => g' (g v), fun v => by rw [k1, h1], ⟨fun v => by show f (f' (g' (g v))) = v; rw [k2, h2], fun v => by show g' (g (f (f' v))) = v; rw [h3, k3]⟩, fun v w => by show f (f' (va v w)) = _; rw [k4, h4], fun v w => by show g' (g (va v w)) = _; rw [h5, k5]⟩
theorem Ad.z {f : V3 → V3} (h : Ad f) : f (0, 0, 0) = (0, 0, 0) := by
  have e : f (0, 0, 0) = va (f (0, 0, 0)) (f (0, 0, 0)) := h (0, 0, 0) (0, 0, 0)
  generalize f (0, 0, 0) = w at e
  obtain ⟨i, j, k⟩ := w
  have e1 : i = i + i := congrArg Prod.fst e
  have e2 : j = j + j := congrArg (fun v => v.2.1) e
  have e3 : k = k + k := congrArg (fun v => v.2.2) e
  rw [show i = 0 by omega, show j = 0 by omega, show k = 0 by omega]
theorem Ad.pr {f : V3 → V3} (h : Ad f) {v w : V3} (p : par v w) : par (f v) (f w) := by
  obtain ⟨i, j, k⟩ := v
  obtain ⟨i', j', k'⟩ := w
  obtain ⟨p1, p2, p3⟩ := p
  have q1 : i % 2 = i' % 2 := p1
  have q2 : j % 2 = j' % 2 := p2
  have q3 : k % 2 = k' % 2 := p3
  have e : (i, j, k) = va (i', j', k') (va ((i - i') / 2, (j - j') / 2, (k - k') / 2) ((i - i') / 2, (j - j') / 2, (k - k') / 2)) := by
    unfold va
    dsimp only
    rw [show i' + ((i - i') / 2 + (i - i') / 2) = i by omega, show j' + ((j - j') / 2 + (j - j') / 2) = j by omega, show k' + ((k - k') / 2 + (k - k') / 2) = k by omega]
  rw [e, h, h]
  unfold va par
  dsimp only
  omega
theorem EQl.m {q q' : Z6} (h : EQl q q') : ∃ f g : V3 → V3, EQm q q' f g ∧ Ad f := by
  obtain ⟨f, g, h1, ⟨h2, h3⟩, h4, h5⟩ := h
  exact ⟨f, g, ⟨h1, ⟨h2, h3⟩, ⟨fun _ _ p => h4.pr p, fun _ _ p => h5.pr p⟩, h4.z, h5.z⟩, h4⟩
theorem EQl.pd {q q' : Z6} (h : EQl q q') (hp : PDz q) : PDz q' := by
  obtain ⟨f, g, h1, ⟨h2, h3⟩, h4, h5⟩ := h
  intro i j k hn
  have e := h1 (i, j, k)
  show 0 < Qz q' (i, j, k)
  rw [e]
  refine hp _ _ _ ?_
  apply Decidable.byContradiction
  intro hc
  have z : f (i, j, k) = (0, 0, 0) := by
    generalize f (i, j, k) = w at hc
    obtain ⟨a, b, c⟩ := w
    have c1 : a = 0 := by dsimp only at hc; omega
    have c2 : b = 0 := by dsimp only at hc; omega
    have c3 : c = 0 := by dsimp only at hc; omega
    rw [c1, c2, c3]
  have e2 := h3 (i, j, k)
  rw [z, h5.z] at e2
  cases e2
  omega
def od (i : Int) : Bool := decide (i % 2 = 1)
theorem od_add (i j : Int) : od (i + j) = xor (od i) (od j) := by
  unfold od
  rcases Int.emod_two_eq i with h | h <;> rcases Int.emod_two_eq j with k | k
  · rw [show (i + j) % 2 = 0 by omega, h, k]; rfl
  · rw [show (i + j) % 2 = 1 by omega, h, k]; rfl
  · rw [show (i + j) % 2 = 1 by omega, h, k]; rfl
  · rw [show (i + j) % 2 = 0 by omega, h, k]; rfl
theorem mo_bv (a b c x y z i j k : Int) : mo a b c x y z i j k = bv a b c (zabs x) (zabs y) (zabs z) (mu x y z) (od i) (od j) (od k) := by
  unfold mo od
  rcases Int.emod_two_eq i with h | h <;> rcases Int.emod_two_eq j with g | g <;> rcases Int.emod_two_eq k with l | l <;> rw [h, g, l] <;> rfl
theorem NR.m {a b c x y z : Int} (h : NR a b c x y z) (ha : 1 ≤ a) : NRm a b c (zabs x) (zabs y) (zabs z) (mu x y z) := by
  obtain ⟨⟨hab, hbc⟩, ⟨i1, i2⟩, hs, h5, h6, h7, h8⟩ := h
  have k5 : ¬ (b < zabs x ∨ (x = b ∧ 2 * y < z) ∨ (x = -b ∧ z < 0)) := h5
  have k6 : ¬ (a < zabs y ∨ (y = a ∧ 2 * x < z) ∨ (y = -a ∧ z < 0)) := h6
  have k7 : ¬ (a < zabs z ∨ (z = a ∧ 2 * x < y) ∨ (z = -a ∧ y < 0)) := h7
  have k8 : ¬ (x + y + z + a + b < 0 ∨ (x + y + z + a + b = 0 ∧ 0 < 2 * (a + y) + z)) := h8
  have im : ∀ {P Q : Prop} [Decidable P], (P → Q) → Im P Q := fun {P Q} _ f => if p : P then Or.inr ⟨p, f p⟩ else Or.inl p
  rcases hs with ⟨hx, hy, hz⟩ | ⟨hx, hy, hz⟩
  · have e1 := zabs_p (x := x) (by omega)
    have e2 := zabs_p (x := y) (by omega)
    have e3 := zabs_p (x := z) (by omega)
    have em : mu x y z = 2 * mn3 x y z := if_pos hx
    have hm : (mn3 x y z = x ∧ x ≤ y ∧ x ≤ z) ∨ (mn3 x y z = y ∧ y ≤ x ∧ y ≤ z) ∨ (mn3 x y z = z ∧ z ≤ x ∧ z ≤ y) := by
      unfold mn3
      split <;> split <;> omega
    rw [e1] at k5
    rw [e2] at k6
    rw [e3] at k7
    rw [e1, e2] at i1
    rw [e2, e3] at i2
    rw [e1, e2, e3, em]
    generalize mn3 x y z = m at hm
    refine ⟨ha, hab, hbc, by omega, by omega, by omega, by omega, by omega, by omega, im i1, im i2, Or.inr ⟨by omega, ?_, im (by omega), im (by omega), im (by omega)⟩⟩
    rcases hm with ⟨m, _⟩ | ⟨m, _⟩ | ⟨m, _⟩
    · exact Or.inl (by omega)
    · exact Or.inr (Or.inl (by omega))
    · exact Or.inr (Or.inr (by omega))
  · have e1 := zabs_n (x := x) (by omega)
    have e2 := zabs_n (x := y) (by omega)
    have e3 := zabs_n (x := z) (by omega)
    have em : mu x y z = 0 := if_neg (by omega)
    rw [e1] at k5
    rw [e2] at k6
    rw [e3] at k7
    rw [e1, e2] at i1
    rw [e2, e3] at i2
    rw [e1, e2, e3, em]
    exact ⟨ha, hab, hbc, by omega, by omega, by omega, by omega, by omega, by omega, im i1, im i2, Or.inl ⟨rfl, by omega, im (by omega), im (by omega), im (by omega), im (by omega)⟩⟩
theorem NR.sg {a b c x y z : Int} (h : NR a b c x y z) : (mu x y z = 0 ∧ x = -zabs x ∧ y = -zabs y ∧ z = -zabs z) ∨ (0 < mu x y z ∧ x = zabs x ∧ y = zabs y ∧ z = zabs z) := by
  rcases h.2.2.1 with ⟨hx, hy, hz⟩ | ⟨hx, hy, hz⟩
  · right
    have e1 := zabs_p (x := x) (by omega)
    have e2 := zabs_p (x := y) (by omega)
    have e3 := zabs_p (x := z) (by omega)
    have em : mu x y z = 2 * mn3 x y z := if_pos hx
    have hm : 0 < mn3 x y z := by
      unfold mn3
      split <;> split <;> omega
    exact ⟨by omega, e1.symm, e2.symm, e3.symm⟩
  · left
    have e1 := zabs_n (x := x) (by omega)
    have e2 := zabs_n (x := y) (by omega)
    have e3 := zabs_n (x := z) (by omega)
    have em : mu x y z = 0 := if_neg (by omega)
    exact ⟨em, by omega, by omega, by omega⟩
/-- two reduced forms of one lattice are one -/
theorem uq {q q' : Z6} (h : EQl q q') (hq : NRz q) (hq' : NRz q') (pq : PDz q) (pq' : PDz q') : q' = q := by
  obtain ⟨f, g, hm, had⟩ := h.m
  have ha : 1 ≤ q.1 := pq.ga
  have ha' : 1 ≤ q'.1 := pq'.ga
  have iv : ∀ v : V3, odd3 v → moz q' v = moz q (f v) := fun v hv => mo_inv hm hq hq' ha ha' hv
  have v1 := iv (1, 0, 0) (fun z => absurd z.1 (by decide))
  have v2 := iv (0, 1, 0) (fun z => absurd z.2.1 (by decide))
  have v3 := iv (0, 0, 1) (fun z => absurd z.2.2 (by decide))
  have v4 := iv (va (1, 0, 0) (0, 1, 0)) (fun z => absurd z.1 (by decide))
  have v5 := iv (va (1, 0, 0) (0, 0, 1)) (fun z => absurd z.1 (by decide))
  have v6 := iv (va (0, 1, 0) (0, 0, 1)) (fun z => absurd z.2.1 (by decide))
  have v7 := iv (va (va (1, 0, 0) (0, 1, 0)) (0, 0, 1)) (fun z => absurd z.1 (by decide))
  rw [had] at v4 v5 v6
  rw [had, had] at v7
  generalize f (1, 0, 0) = P at v1 v4 v5 v7
  generalize f (0, 1, 0) = Q at v2 v4 v6 v7
  generalize f (0, 0, 1) = R at v3 v5 v6 v7
  obtain ⟨a, b, c, x, y, z⟩ := q
  obtain ⟨A, B, C, X, Y, Z⟩ := q'
  obtain ⟨P1, P2, P3⟩ := P
  obtain ⟨Q1, Q2, Q3⟩ := Q
  obtain ⟨R1, R2, R3⟩ := R
  unfold moz at v1 v2 v3 v4 v5 v6 v7
  unfold va at v4 v5 v6 v7
  rw [mo_bv, mo_bv] at v1 v2 v3 v4 v5 v6 v7
  dsimp only at v1 v2 v3 v4 v5 v6 v7
  rw [od_add P1, od_add P2, od_add P3] at v4 v5
  rw [od_add Q1, od_add Q2, od_add Q3] at v6
  rw [od_add (P1 + Q1), od_add (P2 + Q2), od_add (P3 + Q3), od_add P1, od_add P2, od_add P3] at v7
  have nq : NR a b c x y z := hq
  have nq' : NR A B C X Y Z := hq'
  obtain ⟨e1, e2, e3, e4, e5, e6, e7⟩ := us_all (nq.m ha) (nq'.m ha') _ _ _ _ _ _ _ _ _ v1 v2 v3 v4 v5 v6 v7
  have s1 := nq.sg
  have s2 := nq'.sg
  rw [e1, e2, e3, show X = x by omega, show Y = y by omega, show Z = z by omega]

