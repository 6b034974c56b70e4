-- the turns of a multiple, where the third square is far above the others
section SP
theorem add1 {h : Int → Int} (hh : ∀ a b, h (a + b) = h a + h b) (n : Int) : h n = n * h 1 := by
  have h0 : h 0 = 0 := by
    have := hh 0 0
    rw [Int.add_zero] at this
    omega
  have hn : ∀ m : Nat, h (m : Int) = m * h 1 := by
    intro m
    induction m with
    | zero => rw [show ((0 : Nat) : Int) = 0 from rfl, h0, Int.zero_mul]
    | succ m ih => rw [Int.natCast_add, hh, ih, show ((1 : Nat) : Int) = 1 from rfl, Int.add_mul, Int.one_mul]
  by_cases c : 0 ≤ n
  · have := hn n.toNat
    rw [show ((n.toNat : Nat) : Int) = n by omega] at this
    exact this
  · have := hn (-n).toNat
    rw [show (((-n).toNat : Nat) : Int) = -n by omega, Int.neg_mul] at this
    have k := hh n (-n)
    rw [show n + -n = 0 by omega, h0] at k
    omega
theorem Ad.k3 {f : V3 → V3} (hf : Ad f) (i j k : Int) : (f (i, j, k)).2.2 = i * (f (1, 0, 0)).2.2 + j * (f (0, 1, 0)).2.2 + k * (f (0, 0, 1)).2.2 := by
  have e : (i, j, k) = va (va (i, 0, 0) (0, j, 0)) (0, 0, k) := by
    unfold va
    dsimp only
    rw [Int.add_zero, Int.add_zero, Int.zero_add, Int.zero_add, Int.add_zero, Int.zero_add]
  have e1 := add1 (h := fun i => (f (i, 0, 0)).2.2) (fun a b => congrArg (fun v => v.2.2) (hf (a, 0, 0) (b, 0, 0))) i
  have e2 := add1 (h := fun i => (f (0, i, 0)).2.2) (fun a b => congrArg (fun v => v.2.2) (hf (0, a, 0) (0, b, 0))) j
  have e3 := add1 (h := fun i => (f (0, 0, i)).2.2) (fun a b => congrArg (fun v => v.2.2) (hf (0, 0, a) (0, 0, b))) k
  rw [e, hf, hf]
  show (f (i, 0, 0)).2.2 + (f (0, j, 0)).2.2 + (f (0, 0, k)).2.2 = _
  rw [← e1, ← e2, ← e3]
theorem unit1 {g k : Int} (h : 1 = g * k) : k = 1 ∨ k = -1 := by
  have e := congrArg Int.natAbs h
  rw [Int.natAbs_mul] at e
  have d : k.natAbs ∣ 1 := ⟨g.natAbs, by rw [Nat.mul_comm, ← e]; rfl⟩
  have d2 := Nat.dvd_one.mp d
  omega
def KS (X Y a b c : Int) : Prop := (a ≤ Y ∧ b ≤ Y ∧ c ≤ Y) ∧ ((a ≤ X ∧ b ≤ X) ∨ (a ≤ X ∧ c ≤ X) ∨ (b ≤ X ∧ c ≤ X))
theorem KS_sy (X Y : Int) : Sy (KS X Y) := by
  refine ⟨fun a b c h => ?_, fun a b c c' hc h => ?_⟩
  · unfold KS at h ⊢
    omega
  · unfold KS at h ⊢
    omega
def VS (qs : Z6) (X Y w : Int) : Prop := (∃ v : V3, v.2.2 = 0 ∧ w ≤ X ∧ Qz qs v = w) ∨ (∃ v : V3, v.2.2 = 1 ∧ w ≤ Y ∧ Qz qs v = w)
theorem VS_1 {qs : Z6} {X Y w : Int} {v : V3} (e : Qz qs v = w) (hY : w ≤ Y) (hk : v.2.2 = 1 ∨ v.2.2 = -1) : VS qs X Y w := by
  rcases hk with hk | hk
  · exact Or.inr ⟨v, hk, hY, e⟩
  · exact Or.inr ⟨(-v.1, -v.2.1, -v.2.2), by show -v.2.2 = 1; omega, hY, by rw [Qz_ng, e]⟩
theorem VS_d {qs q' : Z6} {X Y : Int} (hX : ∀ v : V3, Qz qs v ≤ X → v.2.2 = 0) (h : EQl qs q') (hk : Kz (KS X Y) q') : Vd (VS qs X Y) q' := by
  obtain ⟨f, g, h1, ⟨h2, _⟩, hf, _⟩ := h
  have e1 : Qz q' (1, 0, 0) = q'.1 := by unfold Qz qv; dsimp only; omega
  have e2 : Qz q' (0, 1, 0) = q'.2.1 := by unfold Qz qv; dsimp only; omega
  have e3 : Qz q' (0, 0, 1) = q'.2.2.1 := by unfold Qz qv; dsimp only; omega
  rw [h1] at e1 e2 e3
  have k := hf.k3 (g (0, 0, 1)).1 (g (0, 0, 1)).2.1 (g (0, 0, 1)).2.2
  have k0 : f ((g (0, 0, 1)).1, (g (0, 0, 1)).2.1, (g (0, 0, 1)).2.2) = (0, 0, 1) := h2 (0, 0, 1)
  rw [k0] at k
  dsimp only at k
  obtain ⟨⟨y1, y2, y3⟩, hk⟩ := hk
  have z1 : q'.1 ≤ X → (f (1, 0, 0)).2.2 = 0 := fun h => hX _ (by rw [e1]; exact h)
  have z2 : q'.2.1 ≤ X → (f (0, 1, 0)).2.2 = 0 := fun h => hX _ (by rw [e2]; exact h)
  have z3 : q'.2.2.1 ≤ X → (f (0, 0, 1)).2.2 = 0 := fun h => hX _ (by rw [e3]; exact h)
  rcases hk with ⟨l1, l2⟩ | ⟨l1, l2⟩ | ⟨l1, l2⟩
  · rw [z1 l1, z2 l2, Int.mul_zero, Int.mul_zero, Int.add_zero, Int.zero_add] at k
    exact ⟨Or.inl ⟨_, z1 l1, l1, e1⟩, Or.inl ⟨_, z2 l2, l2, e2⟩, VS_1 e3 y3 (unit1 k)⟩
  · rw [z1 l1, z3 l2, Int.mul_zero, Int.mul_zero, Int.add_zero, Int.zero_add] at k
    exact ⟨Or.inl ⟨_, z1 l1, l1, e1⟩, VS_1 e2 y2 (unit1 k), Or.inl ⟨_, z3 l2, l2, e3⟩⟩
  · rw [z2 l1, z3 l2, Int.mul_zero, Int.mul_zero, Int.add_zero, Int.add_zero] at k
    exact ⟨VS_1 e1 y1 (unit1 k), Or.inl ⟨_, z2 l1, l1, e2⟩, Or.inl ⟨_, z3 l2, l2, e3⟩⟩
theorem sJ {A B R dA dB Qd dd JJ : Int} (hB : 1 ≤ B) (hAB : A ≤ B) (hd0 : 0 ≤ dA) (hR : 0 ≤ R) (h1 : 3 * B * (R * dd) ≤ 4 * Qd) (h2 : Qd ≤ dA * A + dB * B) (hd : JJ ≤ dd) (CJ : 4 * (dA + dB) + 1 ≤ 3 * R * JJ) : False := by
  have f2 : dA * A ≤ dA * B := Int.mul_le_mul_of_nonneg_left hAB hd0
  have f4 : B * (4 * (dA + dB) + 1) ≤ B * (3 * R * JJ) := Int.mul_le_mul_of_nonneg_left CJ (by omega)
  have f5 : (3 * B * R) * JJ ≤ (3 * B * R) * dd := Int.mul_le_mul_of_nonneg_left hd (Int.mul_nonneg (by omega) hR)
  grind
theorem sI {A B PP dA dB Qd dd II : Int} (hA : 1 ≤ A) (hdB : 0 ≤ dB) (hPP : 0 ≤ PP) (hl : 2 * B ≤ 29999 * A) (h1 : PP * A * dd ≤ Qd) (h2 : Qd ≤ dA * A + dB * B) (hd : II ≤ dd) (CI : 2 * dA + 29999 * dB + 1 ≤ 2 * PP * II) : False := by
  have f2 : dB * (2 * B) ≤ dB * (29999 * A) := Int.mul_le_mul_of_nonneg_left hl hdB
  have f3 : A * (2 * dA + 29999 * dB + 1) ≤ A * (2 * PP * II) := Int.mul_le_mul_of_nonneg_left CI (by omega)
  have f4 : (PP * A) * II ≤ (PP * A) * dd := Int.mul_le_mul_of_nonneg_left hd (Int.mul_nonneg hPP (by omega))
  grind
variable {A B C x y z X Y : Int} {p q r s t u : Nat}
def S1 (qs : Z6) (X Y : Int) (v : V3) : Prop := (v.2.2 = 0 ∧ Qz qs v ≤ X) ∨ (v.2.2 = 1 ∧ Qz qs v ≤ Y)
/-- the difference of two such vectors -/
theorem df (h : LW A B C x y z 2 3 29999) (hp : PDz (e6 (A, B, C, x, y, z) (hm (p, q, r, s, t, u)))) {dA dB : Int} (hX : 4 * X ≤ dA * A + dB * B) (hY : 4 * Y ≤ dA * A + dB * B + 2 * ((u : Int) * u) * (2 * C - B)) {v w : V3} (hv : S1 (e6 (A, B, C, x, y, z) (hm (p, q, r, s, t, u))) X Y v) (hw : S1 (e6 (A, B, C, x, y, z) (hm (p, q, r, s, t, u))) X Y w) (e : v.2.2 = w.2.2) : Qz (e6 (A, B, C, x, y, z) (hm (p, q, r, s, t, u))) (v.1 - w.1, v.2.1 - w.2.1, 0) ≤ dA * A + dB * B := by
  have pr := par4 (e6 (A, B, C, x, y, z) (hm (p, q, r, s, t, u))) v w
  have nn := Qz_nn hp (va v w)
  rw [show v.2.2 - w.2.2 = 0 by omega] at pr
  rcases hv with ⟨hv, gv⟩ | ⟨hv, gv⟩
  · rcases hw with ⟨hw, gw⟩ | ⟨hw, gw⟩
    · omega
    · omega
  · rcases hw with ⟨hw, gw⟩ | ⟨hw, gw⟩
    · omega
    · have l1 := LW.k (p := p) (q := q) (r := r) (s := s) (t := t) (u := u) h (va v w)
      have e2 : (va v w).2.2 = 2 := by show v.2.2 + w.2.2 = 2; omega
      rw [e2] at l1
      have e3 : (((2 : Nat) : Int) * C - B) * ((u : Int) * u * (2 * 2)) = 2 * (2 * ((u : Int) * u) * (2 * C - B)) := by
        rw [show ((2 : Nat) : Int) = 2 from rfl]
        grind
      rw [e3] at l1
      rw [show ((2 : Nat) : Int) = 2 from rfl] at l1
      omega
theorem bxS (h : LW A B C x y z 2 3 29999) (hp : PDz (e6 (A, B, C, x, y, z) (hm (p, q, r, s, t, u)))) {dA dB J I : Nat} (hX : 4 * X ≤ dA * A + dB * B) (hY : 4 * Y ≤ dA * A + dB * B + 2 * ((u : Int) * u) * (2 * C - B)) (CJ : 4 * (dA + dB) + 1 ≤ 3 * (r * r) * ((J + 1) * (J + 1))) (CI : 2 * dA + 29999 * dB + 1 ≤ 2 * (p * p) * ((I + 1) * (I + 1))) {v w : V3} (hv : S1 (e6 (A, B, C, x, y, z) (hm (p, q, r, s, t, u))) X Y v) (hw : S1 (e6 (A, B, C, x, y, z) (hm (p, q, r, s, t, u))) X Y w) (e : v.2.2 = w.2.2) : v.2.1 - w.2.1 ≤ J ∧ (v.2.1 = w.2.1 → v.1 - w.1 ≤ I) := by
  have cj : 4 * ((dA : Int) + dB) + 1 ≤ 3 * ((r : Int) * r) * (((J : Int) + 1) * (J + 1)) := by exact_mod_cast CJ
  have ci : 2 * (dA : Int) + 29999 * dB + 1 ≤ 2 * ((p : Int) * p) * (((I : Int) + 1) * (I + 1)) := by
    have e1 : ((2 * (p * p) * ((I + 1) * (I + 1)) : Nat) : Int) = 2 * ((p : Int) * p) * (((I : Int) + 1) * (I + 1)) := by
      simp only [Int.natCast_mul, Int.natCast_add]
      rfl
    have c := Int.ofNat_le.mpr CI
    rw [e1] at c
    omega
  obtain ⟨⟨⟨hA, hAB, hBC⟩, _⟩, _, hl⟩ := id h
  have hl' : B + C ≤ 29999 * A := hl
  have d := df h hp hX hY hv hw e
  refine ⟨?_, fun e2 => ?_⟩
  · apply Decidable.byContradiction
    intro hc
    have kk : ((J : Int) + 1) * (J + 1) ≤ (v.2.1 - w.2.1) * (v.2.1 - w.2.1) := sqm (by omega) (by omega)
    exact sJ (A := A) (by omega) hAB (by omega) (Int.mul_nonneg (by omega) (by omega)) (LW.j (p := p) (q := q) (r := r) (s := s) (t := t) (u := u) h (v.1 - w.1) (v.2.1 - w.2.1)) d kk cj
  · rw [show v.2.1 - w.2.1 = 0 by omega] at d
    apply Decidable.byContradiction
    intro hc
    have kk : ((I : Int) + 1) * (I + 1) ≤ (v.1 - w.1) * (v.1 - w.1) := sqm (by omega) (by omega)
    have qi := Q_i (A := A) (B := B) (C := C) (x := x) (y := y) (z := z) (p := p) (q := q) (r := r) (s := s) (t := t) (u := u) (v.1 - w.1)
    exact sI (B := B) hA (by omega) (Int.mul_nonneg (by omega) (by omega)) (by omega) (Int.le_of_eq qi.symm) d kk ci
theorem endS (h : LW A B C x y z 2 3 29999) (hpd : PDz (A, B, C, x, y, z)) (hp : 1 ≤ p) (hr : 1 ≤ r) (hu : 1 ≤ u) (hq : q < p) (hs : s < p) (ht : t < r) (hX1 : (p : Int) * p * A ≤ X) (hX2 : (al2 p r : Int) * A + ((r * r : Nat) : Int) * B ≤ X) (hX : 4 * X ≤ ((spD p r u).1 : Int) * A + ((spD p r u).2 : Int) * B) (hXu : 2 * X < (u : Int) * u * (2 * C - B)) (ok : okS p r u = true) : ∃ m, zrun 999964 (e6 (A, B, C, x, y, z) (hm (p, q, r, s, t, u))) = some m := by
  have hP : PDz (e6 (A, B, C, x, y, z) (hm (p, q, r, s, t, u))) := hm_PD hpd hp hr hu
  unfold okS at ok
  rw [Bool.and_eq_true, Bool.and_eq_true, decide_eq_true_iff, decide_eq_true_iff, decide_eq_true_iff] at ok
  obtain ⟨⟨oJ, oI⟩, oT⟩ := ok
  have n1 := n1_s (A := A) (B := B) (C := C) (x := x) (y := y) (z := z) (p := p) (q := q) (r := r) (s := s) (t := t) (u := u)
  have n2 := n2_s (q := q) (s := s) (t := t) (u := u) (r := r) h hq
  have n3 := n3_s (q := q) (s := s) (t := t) (u := u) (r := r) h hs ht
  obtain ⟨⟨⟨hA, hAB, hBC⟩, _⟩, _⟩ := id h
  have uu : (1 : Int) ≤ (u : Int) * u := sqm (m := 1) (by omega) (by omega)
  have d1 : 4 * al3 p r u ≤ (spD p r u).1 := by unfold spD; dsimp only; omega
  have d2 : 4 * be3 r u + 2 * (u * u) ≤ (spD p r u).2 := by unfold spD; dsimp only; omega
  have d1' : (4 * (al3 p r u : Int)) * A ≤ ((spD p r u).1 : Int) * A := Int.mul_le_mul_of_nonneg_right (by omega) (by omega)
  have d2' : (4 * (be3 r u : Int) + 2 * ((u : Int) * u)) * B ≤ ((spD p r u).2 : Int) * B := Int.mul_le_mul_of_nonneg_right (by exact_mod_cast d2) (by omega)
  obtain ⟨Y, hY0⟩ : ∃ Y, Y = (al3 p r u : Int) * A + (be3 r u : Int) * B + ((u * u : Nat) : Int) * C := ⟨_, rfl⟩
  have hY : 4 * Y ≤ ((spD p r u).1 : Int) * A + ((spD p r u).2 : Int) * B + 2 * ((u : Int) * u) * (2 * C - B) := by
    rw [hY0, Int.natCast_mul]
    grind
  have hXY : X ≤ Y := by
    have a1 : 0 ≤ (al3 p r u : Int) * A := Int.mul_nonneg (by omega) (by omega)
    have a2 : 0 ≤ (be3 r u : Int) * B := Int.mul_nonneg (by omega) (by omega)
    have a3 : 0 ≤ (u : Int) * u * B := Int.mul_nonneg (by omega) (by omega)
    rw [hY0, Int.natCast_mul]
    grind
  have hk0 : ∀ v : V3, Qz (e6 (A, B, C, x, y, z) (hm (p, q, r, s, t, u))) v ≤ X → v.2.2 = 0 := by
    intro v hv
    apply Decidable.byContradiction
    intro hc
    have l1 := LW.k (p := p) (q := q) (r := r) (s := s) (t := t) (u := u) h v
    have k1 := sq1 hc
    rw [show ((2 : Nat) : Int) = 2 from rfl] at l1
    have f : ((2 * C - B) * ((u : Int) * u)) * 1 ≤ ((2 * C - B) * ((u : Int) * u)) * (v.2.2 * v.2.2) := Int.mul_le_mul_of_nonneg_left k1 (Int.mul_nonneg (by omega) (by omega))
    grind
  have b1 : ∀ {N : Int}, N ≤ X → rk (VS (e6 (A, B, C, x, y, z) (hm (p, q, r, s, t, u))) X Y) N ≤ (0 + 1) * (spJ p r u + 1) * (spI p r u + 1) := by
    intro N hN
    refine rk_bx (S := fun v => v.2.2 = 0 ∧ Qz (e6 (A, B, C, x, y, z) (hm (p, q, r, s, t, u))) v ≤ X) (Q := Qz (e6 (A, B, C, x, y, z) (hm (p, q, r, s, t, u)))) ⟨fun v hv => ⟨by have := hv.1; omega, by have := hv.1; omega⟩, fun v w hv hw e => bxS h hP hX hY oJ oI (Or.inl hv) (Or.inl hw) e⟩ ?_
    intro w hw hv
    rcases hv with ⟨v, e0, e1, e2⟩ | ⟨v, e0, e1, e2⟩
    · exact ⟨v, ⟨e0, by omega⟩, e2⟩
    · have := hk0 v (by omega)
      omega
  have b3 : ∀ {N : Int}, rk (VS (e6 (A, B, C, x, y, z) (hm (p, q, r, s, t, u))) X Y) N ≤ (1 + 1) * (spJ p r u + 1) * (spI p r u + 1) := by
    intro N
    refine rk_bx (S := S1 (e6 (A, B, C, x, y, z) (hm (p, q, r, s, t, u))) X Y) (Q := Qz (e6 (A, B, C, x, y, z) (hm (p, q, r, s, t, u)))) ⟨fun v hv => ?_, fun v w hv hw e => bxS h hP hX hY oJ oI hv hw e⟩ ?_
    · rcases hv with hv | hv
      · exact ⟨by have := hv.1; omega, by have := hv.1; omega⟩
      · exact ⟨by have := hv.1; omega, by have := hv.1; omega⟩
    intro w hw hv
    rcases hv with ⟨v, e0, e1, e2⟩ | ⟨v, e0, e1, e2⟩
    · exact ⟨v, Or.inl ⟨e0, by omega⟩, e2⟩
    · exact ⟨v, Or.inr ⟨e0, by omega⟩, e2⟩
  have r1 := b1 (N := (e6 (A, B, C, x, y, z) (hm (p, q, r, s, t, u))).1) (by omega)
  have r2 := b1 (N := (e6 (A, B, C, x, y, z) (hm (p, q, r, s, t, u))).2.1) (by omega)
  have r3 := b3 (N := (e6 (A, B, C, x, y, z) (hm (p, q, r, s, t, u))).2.2.1)
  refine zrun_msr (V := VS (e6 (A, B, C, x, y, z) (hm (p, q, r, s, t, u))) X Y) (Inv := fun q' => EQl (e6 (A, B, C, x, y, z) (hm (p, q, r, s, t, u))) q' ∧ Kz (KS X Y) q') (fun q' h => h.1.pd hP) (fun q' h => ⟨(cl_EQl _).tz h.1, (KS_sy X Y).tz (h.1.pd hP) h.2⟩) (fun q' h => VS_d hk0 h.1 h.2) 249991 ⟨EQl.rf _, ⟨⟨by omega, by omega, by omega⟩, Or.inl ⟨by omega, by omega⟩⟩⟩ ?_
  unfold msr
  rw [Nat.mul_assoc] at r1 r2 r3
  omega
end SP

