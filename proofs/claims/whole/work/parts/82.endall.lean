-- the turns of every multiple of a reduced cell
section EA
theorem sh_all : allE (fun E => decide (E.1 * E.2.2.1 * E.2.2.2.2.2 ≤ 12) && (decide (E.2.1 < E.1) && (decide (E.2.2.2.1 < E.1) && decide (E.2.2.2.2.1 < E.2.2.1)))) = true := by decide +kernel
variable {A B C x y z : Int} {p q r s t u L : Nat}
theorem lw2 (hN : NR A B C x y z) (hA : 1 ≤ A) (hl : B + C ≤ L * A) : LW A B C x y z 2 3 L := by
  have m := NR_m hN
  refine ⟨⟨⟨hA, m.1.1, m.1.2⟩, m.2.1, m.2.2.1, m.2.2.2⟩, ⟨fun i j k => ?_, fun i j => ?_⟩, hl⟩
  · exact NR_l3 hN hA
  · exact l2 (by omega) m.1.1 m.2.2.2.1 m.2.2.2.2
theorem lw4 (hN : NR A B C x 0 0) (hA : 1 ≤ A) (hl : B + C ≤ L * A) : LW A B C x 0 0 4 4 L := by
  have m := NR_m hN
  refine ⟨⟨⟨hA, m.1.1, m.1.2⟩, m.2.1, m.2.2.1, m.2.2.2⟩, ⟨fun i j k => ?_, fun i j => ?_⟩, hl⟩
  · exact l3o (by omega) m.2.1.1 m.2.1.2
  · exact l2o (by omega)
theorem wan_s {a g : Nat} (hA : 1 ≤ A) (hAB : A ≤ B) (hBC : B ≤ C) {b : Nat} (hg : (g : Int) * B ≤ C) (h : (u : Int) * u * (2 * C - B) ≤ 2 * ((a : Int) * A + (b : Int) * B)) : u * u * (2 * g) ≤ 2 * (a + b) + u * u := by
  have f1 : ((u : Int) * u) * (2 * ((g : Int) * B) - B) ≤ ((u : Int) * u) * (2 * C - B) := Int.mul_le_mul_of_nonneg_left (by omega) (Int.mul_nonneg (by omega) (by omega))
  have f2 : (a : Int) * A ≤ (a : Int) * B := Int.mul_le_mul_of_nonneg_left hAB (by omega)
  have f3 : ((u : Int) * u * (2 * g)) * B ≤ (2 * ((a : Int) + b) + (u : Int) * u) * B := by grind
  have f4 := Int.le_of_mul_le_mul_right f3 (by omega)
  have f5 : ((u * u * (2 * g) : Nat) : Int) ≤ ((2 * (a + b) + u * u : Nat) : Int) := by
    simp only [Int.natCast_mul, Int.natCast_add]
    exact f4
  exact Int.ofNat_le.mp f5
/-- C is not far above -/
def NF (A B C : Int) (p r u : Nat) : Prop := (u : Int) * u * (2 * C - B) ≤ 2 * ((p * p : Nat) * A + (0 : Nat) * B) ∨ (u : Int) * u * (2 * C - B) ≤ 2 * ((al2 p r : Int) * A + ((r * r : Nat) : Int) * B)
theorem NF_w {g : Nat} (hA : 1 ≤ A) (hAB : A ≤ B) (hBC : B ≤ C) (hg : (g : Int) * B ≤ C) (h : NF A B C p r u) : wan p r u g = true := by
  unfold wan
  rw [Bool.or_eq_true, decide_eq_true_iff, decide_eq_true_iff]
  rcases h with h | h
  · left
    have := wan_s (a := p * p) (b := 0) hA hAB hBC hg h
    rw [Nat.add_zero] at this
    exact this
  · right
    exact wan_s (a := al2 p r) (b := r * r) hA hAB hBC hg h
theorem endG (hN : NR A B C x y z) (hpd : PDz (A, B, C, x, y, z)) (hev : EV (A, B, C, x, y, z)) (hs3 : A + B + C ≤ 30000) (hp : 1 ≤ p) (hr : 1 ≤ r) (hu : 1 ≤ u) (hn : p * r * u ≤ 12) (hq : q < p) (hs : s < p) (ht : t < r) (nf : NF A B C p r u) {gl gh : Nat} (hg : (gl, gh) ∈ gaps) (g1 : 1 ≤ gl) (hgl : gl * B ≤ C) (hgh : C ≤ gh * B) : ∃ m, zrun 999964 (e6 (A, B, C, x, y, z) (hm (p, q, r, s, t, u))) = some m := by
  have hA : 1 ≤ A := PD.ga hpd
  have m := NR_m hN
  have k := List.all_eq_true.mp (tri_s nU hp hr hu hn) (gl, gh) hg
  dsimp only at k
  rw [NF_w hA m.1.1 m.1.2 hgl nf, Bool.not_true, Bool.false_or, Bool.and_eq_true] at k
  by_cases a2 : 2 ≤ A
  · exact endU (lw2 hN hA (L := 14999) (show B + C ≤ 14999 * A by omega)) hpd hp hr hu hq hs ht (by omega) g1 hgl hgh k.1
  · have ev1 : y % 2 = 0 := hev.2.1
    have ev2 : z % 2 = 0 := hev.2.2
    have y0 : y = 0 := by omega
    have z0 : z = 0 := by omega
    rw [y0, z0] at hN hpd ⊢
    exact endU (lw4 hN hA (L := 29999) (show B + C ≤ 29999 * A by omega)) hpd hp hr hu hq hs ht (by omega) g1 hgl hgh k.2
theorem end_E (hN : NR A B C x y z) (hpd : PDz (A, B, C, x, y, z)) (hev : EV (A, B, C, x, y, z)) (hs3 : A + B + C ≤ 30000) (hp : 1 ≤ p) (hr : 1 ≤ r) (hu : 1 ≤ u) (hn : p * r * u ≤ 12) (hq : q < p) (hs : s < p) (ht : t < r) : ∃ m, zrun 999964 (e6 (A, B, C, x, y, z) (hm (p, q, r, s, t, u))) = some m := by
  have hA : 1 ≤ A := PD.ga hpd
  have m := NR_m hN
  by_cases nf : NF A B C p r u
  · have c : C ≤ 2 * B ∨ (2 * B ≤ C ∧ C ≤ 3 * B) ∨ (3 * B ≤ C ∧ C ≤ 4 * B) ∨ (4 * B ≤ C ∧ C ≤ 6 * B) ∨ (6 * B ≤ C ∧ C ≤ 8 * B) ∨ (8 * B ≤ C ∧ C ≤ 12 * B) ∨ (12 * B ≤ C ∧ C ≤ 16 * B) ∨ (16 * B ≤ C ∧ C ≤ 24 * B) ∨ (24 * B ≤ C ∧ C ≤ 32 * B) ∨ (32 * B ≤ C ∧ C ≤ 48 * B) ∨ (48 * B ≤ C ∧ C ≤ 64 * B) ∨ (64 * B ≤ C ∧ C ≤ 96 * B) ∨ (96 * B ≤ C ∧ C ≤ 128 * B) ∨ (128 * B ≤ C ∧ C ≤ 160 * B) ∨ 160 * B ≤ C := by omega
    rcases c with c | c | c | c | c | c | c | c | c | c | c | c | c | c | c
    · exact endG hN hpd hev hs3 hp hr hu hn hq hs ht nf (gl := 1) (gh := 2) (by decide) (by decide) (show (1 : Int) * B ≤ C by omega) c
    · exact endG hN hpd hev hs3 hp hr hu hn hq hs ht nf (gl := 2) (gh := 3) (by decide) (by decide) c.1 c.2
    · exact endG hN hpd hev hs3 hp hr hu hn hq hs ht nf (gl := 3) (gh := 4) (by decide) (by decide) c.1 c.2
    · exact endG hN hpd hev hs3 hp hr hu hn hq hs ht nf (gl := 4) (gh := 6) (by decide) (by decide) c.1 c.2
    · exact endG hN hpd hev hs3 hp hr hu hn hq hs ht nf (gl := 6) (gh := 8) (by decide) (by decide) c.1 c.2
    · exact endG hN hpd hev hs3 hp hr hu hn hq hs ht nf (gl := 8) (gh := 12) (by decide) (by decide) c.1 c.2
    · exact endG hN hpd hev hs3 hp hr hu hn hq hs ht nf (gl := 12) (gh := 16) (by decide) (by decide) c.1 c.2
    · exact endG hN hpd hev hs3 hp hr hu hn hq hs ht nf (gl := 16) (gh := 24) (by decide) (by decide) c.1 c.2
    · exact endG hN hpd hev hs3 hp hr hu hn hq hs ht nf (gl := 24) (gh := 32) (by decide) (by decide) c.1 c.2
    · exact endG hN hpd hev hs3 hp hr hu hn hq hs ht nf (gl := 32) (gh := 48) (by decide) (by decide) c.1 c.2
    · exact endG hN hpd hev hs3 hp hr hu hn hq hs ht nf (gl := 48) (gh := 64) (by decide) (by decide) c.1 c.2
    · exact endG hN hpd hev hs3 hp hr hu hn hq hs ht nf (gl := 64) (gh := 96) (by decide) (by decide) c.1 c.2
    · exact endG hN hpd hev hs3 hp hr hu hn hq hs ht nf (gl := 96) (gh := 128) (by decide) (by decide) c.1 c.2
    · exact endG hN hpd hev hs3 hp hr hu hn hq hs ht nf (gl := 128) (gh := 160) (by decide) (by decide) c.1 c.2
    · have w := NF_w (g := 160) hA m.1.1 m.1.2 c nf
      have k := tri_s nG hp hr hu hn
      rw [w] at k
      exact absurd k (by decide)
  · unfold NF at nf
    have lw : LW A B C x y z 2 3 29999 := lw2 hN hA (L := 29999) (show B + C ≤ 29999 * A by omega)
    have e1 : 4 * (p * p) ≤ (spD p r u).1 := by unfold spD; dsimp only; omega
    have e2 : 4 * al2 p r ≤ (spD p r u).1 := by unfold spD; dsimp only; omega
    have e3 : 4 * (r * r) ≤ (spD p r u).2 := by unfold spD; dsimp only; omega
    have f1 : (4 * ((p * p : Nat) : Int)) * A ≤ ((spD p r u).1 : Int) * A := Int.mul_le_mul_of_nonneg_right (by omega) (by omega)
    have f2 : (4 * (al2 p r : Int)) * A ≤ ((spD p r u).1 : Int) * A := Int.mul_le_mul_of_nonneg_right (by omega) (by omega)
    have f3 : (4 * ((r * r : Nat) : Int)) * B ≤ ((spD p r u).2 : Int) * B := Int.mul_le_mul_of_nonneg_right (by omega) (by omega)
    have f4 : 0 ≤ ((spD p r u).2 : Int) * B := Int.mul_nonneg (by omega) (by omega)
    have c0 : (((0 : Nat) : Int)) * B = 0 := by rw [show ((0 : Nat) : Int) = 0 from rfl, Int.zero_mul]
    have cp : ((p * p : Nat) : Int) * A = (p : Int) * p * A := by rw [Int.natCast_mul]
    rw [c0] at nf
    rw [Int.mul_assoc] at f1 f2 f3
    by_cases cx : (al2 p r : Int) * A + ((r * r : Nat) : Int) * B ≤ ((p * p : Nat) : Int) * A
    · exact endS (X := ((p * p : Nat) : Int) * A) lw hpd hp hr hu hq hs ht (by omega) cx (by omega) (by omega) (tri_s nS hp hr hu hn)
    · exact endS (X := (al2 p r : Int) * A + ((r * r : Nat) : Int) * B) lw hpd hp hr hu hq hs ht (by omega) (by omega) (by omega) (by omega) (tri_s nS hp hr hu hn)
/-- the turns of every multiple of a reduced cell end within the program's fuel -/
theorem end_all {low : Z6} (hN : NRz low) (hpd : PDz low) (hev : EV low) (hs3 : sumz low ≤ 30000) {n : Nat} (h1 : 1 ≤ n) (h2 : n ≤ 12) {E : E6} (hE : E ∈ edg n) : ∃ m, zrun 999964 (e6 low (hm E)) = some m := by
  have po := edg_pos h1 h2 hE
  have sh := allE_s sh_all h1 h2 hE
  rw [Bool.and_eq_true, Bool.and_eq_true, Bool.and_eq_true, decide_eq_true_iff, decide_eq_true_iff, decide_eq_true_iff, decide_eq_true_iff] at sh
  obtain ⟨A, B, C, x, y, z⟩ := low
  obtain ⟨p, q, r, s, t, u⟩ := E
  exact end_E hN hpd hev hs3 po.1 po.2.1 po.2.2 sh.1 sh.2.1 sh.2.2.1 sh.2.2.2
end EA

