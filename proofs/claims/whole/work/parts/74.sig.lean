-- the four moves permute the edges of the multiples
section EG
def et (p q r s u : Nat) : List E6 := (List.range' 0 r).map (fun t => (p, q, r, s, t, u))
def es (p q r u : Nat) : List E6 := (List.range' 0 p).flatMap (fun s => et p q r s u)
def eqq (p r u : Nat) : List E6 := (List.range' 0 p).flatMap (fun q => es p q r u)
def er (n p : Nat) : List E6 := (List.range' 1 (n / p)).flatMap (fun r => if n / p % r = 0 then eqq p r (n / p / r) else [])
/-- all edges of index n, in the order of the walk -/
def edg (n : Nat) : List E6 := (List.range' 1 n).flatMap (fun p => if n % p = 0 then er n p else [])
def pz (q : Z6) (v w : V3) : Int := Qz q (va v w) - Qz q v - Qz q w
/-- the form on given edges -/
def e6 (q : Z6) (H : M3) : Z6 := (Qz q H.1, Qz q H.2.1, Qz q H.2.2, pz q H.2.1 H.2.2, pz q H.1 H.2.2, pz q H.1 H.2.1)
theorem Q_e6 (q : Z6) (H : M3) (v : V3) : Qz (e6 q H) v = Qz q (mv H v) := by
  obtain ⟨a, b, c, x, y, z⟩ := q
  obtain ⟨⟨h1, h2, h3⟩, ⟨h4, h5, h6⟩, h7, h8, h9⟩ := H
  obtain ⟨i, j, k⟩ := v
  unfold e6 pz Qz mv va qv
  dsimp only
  grind
def hm (E : E6) : M3 := ((E.1, 0, 0), (E.2.1, E.2.2.1, 0), (E.2.2.2.1, E.2.2.2.2.1, E.2.2.2.2.2))
/-- the numbers of w by the edges E -/
def co (E : E6) (w : V3) : V3 := ((w.1 - w.2.2 / E.2.2.2.2.2 * E.2.2.2.1 - (w.2.1 - w.2.2 / E.2.2.2.2.2 * E.2.2.2.2.1) / E.2.2.1 * E.2.1) / E.1, (w.2.1 - w.2.2 / E.2.2.2.2.2 * E.2.2.2.2.1) / E.2.2.1, w.2.2 / E.2.2.2.2.2)
def cm (E : E6) (M : M3) : M3 := (co E M.1, co E M.2.1, co E M.2.2)
def chk (M N : M3) (E E' : E6) : Bool := decide (mm M (hm E) = mm (hm E') (cm E' (mm M (hm E)))) && (decide (mm (cm E' (mm M (hm E))) (cm E (mm N (hm E'))) = m1) && decide (mm (cm E (mm N (hm E'))) (cm E' (mm M (hm E))) = m1))
theorem chk_s {q q' : Z6} {M N : M3} {E E' : E6} (hq : ∀ v, Qz q' v = Qz q (mv M v)) (h : chk M N E E' = true) : EQl (e6 q (hm E')) (e6 q' (hm E)) := by
  unfold chk at h
  rw [Bool.and_eq_true, Bool.and_eq_true, decide_eq_true_iff, decide_eq_true_iff, decide_eq_true_iff] at h
  refine EQl.of (cm E' (mm M (hm E))) (cm E (mm N (hm E'))) ?_ h.2.1 h.2.2
  intro v
  rw [Q_e6, hq, mv_mm, Q_e6, mv_mm, ← h.1]
def sfi (E : E6) : E6 := (E.1, (E.1 - E.2.1) % E.1, E.2.2.1, (E.1 - E.2.2.2.1) % E.1, E.2.2.2.2.1, E.2.2.2.2.2)
def ss7 (E : E6) : E6 := (E.1, (E.2.1 + (E.1 - 1) * E.2.2.1) % E.1, E.2.2.1, (E.2.2.2.1 + (E.1 - 1) * E.2.2.2.2.1) % E.1, E.2.2.2.2.1, E.2.2.2.2.2)
/-- the least number whose product by q leaves g, by p -/
def inv (p q g : Nat) : Nat := ((List.range' 0 p).find? (fun n => n * q % p == g % p)).getD 0
def so1b (p r g n2 s t u : Nat) : E6 := (p * r / g, r * n2, g, (t + (p * r / g - 1) * (s / g * (r * n2))) % (p * r / g), s % g, u)
def so1 (E : E6) : E6 := so1b E.1 E.2.2.1 (Nat.gcd E.1 E.2.1) (inv E.1 E.2.1 (Nat.gcd E.1 E.2.1)) E.2.2.2.1 E.2.2.2.2.1 E.2.2.2.2.2
def so2b (p q r s t u g n2 : Nat) : E6 := (p, (r / g * s + (p - 1) * (t / g * q)) % p, r * u / g, (n2 * s + (if n2 * t ≤ g then (g - n2 * t) / r * q else (p - 1) * ((n2 * t - g) / r * q))) % p, n2 * u, g)
def so2 (E : E6) : E6 := so2b E.1 E.2.1 E.2.2.1 E.2.2.2.1 E.2.2.2.2.1 E.2.2.2.2.2 (Nat.gcd E.2.2.1 E.2.2.2.2.1) (inv E.2.2.1 E.2.2.2.2.1 (Nat.gcd E.2.2.1 E.2.2.2.2.1))
def enc (E : E6) : Nat := ((((E.1 * 16 + E.2.1) * 16 + E.2.2.1) * 16 + E.2.2.2.1) * 16 + E.2.2.2.2.1) * 16 + E.2.2.2.2.2
def allE (P : E6 → Bool) : Bool := (List.range' 1 12).all (fun n => (edg n).all P)
theorem allE_s {P : E6 → Bool} (h : allE P = true) {n : Nat} (h1 : 1 ≤ n) (h2 : n ≤ 12) {E : E6} (hE : E ∈ edg n) : P E = true := by
  unfold allE at h
  rw [List.all_eq_true] at h
  have := h n (List.mem_range'_1.mpr ⟨h1, by omega⟩)
  rw [List.all_eq_true] at this
  exact this E hE
theorem pos_all : allE (fun E => decide (1 ≤ E.1) && (decide (1 ≤ E.2.2.1) && decide (1 ≤ E.2.2.2.2.2))) = true := by decide +kernel
theorem sm_all : allE (fun E => decide (E.1 < 16) && (decide (E.2.1 < 16) && (decide (E.2.2.1 < 16) && (decide (E.2.2.2.1 < 16) && (decide (E.2.2.2.2.1 < 16) && decide (E.2.2.2.2.2 < 16)))))) = true := by decide +kernel
theorem fi_all : allE (fun E => chk Mfi Mfi E (sfi E)) = true := by decide +kernel
theorem s7_all : allE (fun E => chk Ms7 Ms8 E (ss7 E)) = true := by decide +kernel
theorem o1_all : allE (fun E => chk Mo1 Mo1 E (so1 E)) = true := by decide +kernel
theorem o2_all : allE (fun E => chk Mo2 Mo2 E (so2 E)) = true := by decide +kernel
def dec (m : Nat) : E6 := (m / 1048576, m / 65536 % 16, m / 4096 % 16, m / 256 % 16, m / 16 % 16, m % 16)
def prm (s : E6 → E6) : Bool := (List.range' 1 12).all (fun n => ((edg n).map (fun E => enc (s E))).isPerm ((edg n).map enc))
theorem fi_prm : prm sfi = true := by decide +kernel
theorem s7_prm : prm ss7 = true := by decide +kernel
theorem o1_prm : prm so1 = true := by decide +kernel
theorem o2_prm : prm so2 = true := by decide +kernel
theorem en_all : allE (fun E => decide (dec (enc E) = E) && (decide (dec (enc (sfi E)) = sfi E) && (decide (dec (enc (ss7 E)) = ss7 E) && (decide (dec (enc (so1 E)) = so1 E) && decide (dec (enc (so2 E)) = so2 E))))) = true := by decide +kernel
theorem prm_s {s : E6 → E6} (h : prm s = true) {n : Nat} (h1 : 1 ≤ n) (h2 : n ≤ 12) (he : ∀ E, E ∈ edg n → dec (enc E) = E) (hs : ∀ E, E ∈ edg n → dec (enc (s E)) = s E) : List.Perm ((edg n).map s) (edg n) := by
  unfold prm at h
  rw [List.all_eq_true] at h
  have k := List.isPerm_iff.mp (h n (List.mem_range'_1.mpr ⟨h1, by omega⟩))
  have k2 := k.map dec
  rw [List.map_map, List.map_map] at k2
  have e1 : (edg n).map (dec ∘ fun E => enc (s E)) = (edg n).map s := List.map_congr_left hs
  have e2 : (edg n).map (dec ∘ enc) = edg n := by
    have := List.map_congr_left (f := dec ∘ enc) (g := id) he
    rw [this, List.map_id]
  rw [e1, e2] at k2
  exact k2
theorem prm4 {n : Nat} (h1 : 1 ≤ n) (h2 : n ≤ 12) : (List.Perm ((edg n).map sfi) (edg n) ∧ List.Perm ((edg n).map ss7) (edg n)) ∧ List.Perm ((edg n).map so1) (edg n) ∧ List.Perm ((edg n).map so2) (edg n) := by
  have k : ∀ E, E ∈ edg n → dec (enc E) = E ∧ dec (enc (sfi E)) = sfi E ∧ dec (enc (ss7 E)) = ss7 E ∧ dec (enc (so1 E)) = so1 E ∧ dec (enc (so2 E)) = so2 E := fun E hE => by
    have := allE_s en_all h1 h2 hE
    rw [Bool.and_eq_true, Bool.and_eq_true, Bool.and_eq_true, Bool.and_eq_true, decide_eq_true_iff, decide_eq_true_iff, decide_eq_true_iff, decide_eq_true_iff, decide_eq_true_iff] at this
    exact this
  have k0 : ∀ E, E ∈ edg n → dec (enc E) = E := fun E hE => (k E hE).1
  exact ⟨⟨prm_s fi_prm h1 h2 k0 (fun E hE => (k E hE).2.1), prm_s s7_prm h1 h2 k0 (fun E hE => (k E hE).2.2.1)⟩, prm_s o1_prm h1 h2 k0 (fun E hE => (k E hE).2.2.2.1), prm_s o2_prm h1 h2 k0 (fun E hE => (k E hE).2.2.2.2)⟩
theorem hm_PD {q : Z6} (h : PDz q) {E : E6} (hp : 1 ≤ E.1) (hr : 1 ≤ E.2.2.1) (hu : 1 ≤ E.2.2.2.2.2) : PDz (e6 q (hm E)) := by
  obtain ⟨p, e, r, s, t, u⟩ := E
  dsimp only at hp hr hu
  intro i j k hn
  have e := Q_e6 q (hm (p, e, r, s, t, u)) (i, j, k)
  show 0 < Qz (e6 q (hm (p, _, r, s, t, u))) (i, j, k)
  rw [e]
  refine h _ _ _ ?_
  unfold mv hm
  dsimp only
  apply Decidable.byContradiction
  intro hc
  have z3 : (u : Int) * k = 0 := by omega
  have k0 : k = 0 := by
    rcases Int.mul_eq_zero.mp z3 with w | w
    · omega
    · exact w
  rw [k0] at hc hn
  have z2 : (r : Int) * j = 0 := by omega
  have j0 : j = 0 := by
    rcases Int.mul_eq_zero.mp z2 with w | w
    · omega
    · exact w
  rw [j0] at hc hn
  have z1 : (p : Int) * i = 0 := by omega
  have i0 : i = 0 := by
    rcases Int.mul_eq_zero.mp z1 with w | w
    · omega
    · exact w
  omega
theorem edg_pos {n : Nat} (h1 : 1 ≤ n) (h2 : n ≤ 12) {E : E6} (hE : E ∈ edg n) : 1 ≤ E.1 ∧ 1 ≤ E.2.2.1 ∧ 1 ≤ E.2.2.2.2.2 := by
  have := allE_s pos_all h1 h2 hE
  rw [Bool.and_eq_true, Bool.and_eq_true, decide_eq_true_iff, decide_eq_true_iff, decide_eq_true_iff] at this
  exact this
/-- the reduced forms of all multiples of index n -/
def ml (q : Z6) (n : Nat) : List Z6 := (edg n).map (fun E => Kf (e6 q (hm E)))
theorem ml_mv {q q' : Z6} {M N : M3} {s : E6 → E6} (hp : PDz q) (hp' : PDz q') (hq : ∀ v, Qz q' v = Qz q (mv M v)) (hc : allE (fun E => chk M N E (s E)) = true) {n : Nat} (h1 : 1 ≤ n) (h2 : n ≤ 12) (hs : List.Perm ((edg n).map s) (edg n)) : List.Perm (ml q n) (ml q' n) := by
  have e : ml q' n = ((edg n).map s).map (fun E => Kf (e6 q (hm E))) := by
    unfold ml
    rw [List.map_map]
    refine List.map_congr_left (fun E hE => ?_)
    have k := chk_s hq (allE_s hc h1 h2 hE)
    have po := edg_pos h1 h2 hE
    have := Kf_eq (hm_PD hp' po.1 po.2.1 po.2.2) k.sy
    exact this.symm
  rw [e]
  exact (hs.map _).symm
theorem cl_ml (q0 : Z6) : Cl4 (fun q => PDz q ∧ ∀ n, 1 ≤ n → n ≤ 12 → List.Perm (ml q0 n) (ml q n)) := by
  refine ⟨⟨?_, ?_⟩, ?_, ?_⟩
  · intro a b c x y z h
    have p : PDz (b, a, c, y, x, z) := PD.o1 h.1
    exact ⟨p, fun n h1 h2 => (h.2 n h1 h2).trans (ml_mv h.1 p (Q_o1 (a, b, c, x, y, z)) o1_all h1 h2 (prm4 h1 h2).2.1)⟩
  · intro a b c x y z h
    have p : PDz (a, c, b, x, z, y) := PD.o2 h.1
    exact ⟨p, fun n h1 h2 => (h.2 n h1 h2).trans (ml_mv h.1 p (Q_o2 (a, b, c, x, y, z)) o2_all h1 h2 (prm4 h1 h2).2.2)⟩
  · intro a b c x y z h
    have p : PDz (a, b, c, x, -y, -z) := PD.fi h.1
    exact ⟨p, fun n h1 h2 => (h.2 n h1 h2).trans (ml_mv h.1 p (Q_fi (a, b, c, x, y, z)) fi_all h1 h2 (prm4 h1 h2).1.1)⟩
  · intro a b c x y z h
    have p : PDz (a, a + b - 1 * z, c, x - 1 * y, y, z - 2 * 1 * a) := PD.s7p h.1
    exact ⟨p, fun n h1 h2 => (h.2 n h1 h2).trans (ml_mv h.1 p (Q_s7 (a, b, c, x, y, z)) s7_all h1 h2 (prm4 h1 h2).1.2)⟩
/-- the multiples of a form and of its reduced form -/
theorem ml_red {q : Z6} {m : Nat} {r : Z6 × Nat} (hp : PDz q) (e : zrun m q = some r) {n : Nat} (h1 : 1 ≤ n) (h2 : n ≤ 12) : List.Perm (ml q n) (ml r.1 n) :=
  ((cl_ml q).zr m ⟨hp, fun _ _ _ => List.Perm.refl _⟩ e).2 n h1 h2
end EG

