-- the numbers: how many columns
def lst (num den : Nat) : Nat := [4096, 2048, 1024, 512, 256, 128, 64, 32, 16, 8, 4, 2, 1].foldl (fun m b => if den * ((m + b) * (m + b)) < num then m + b else m) 0
/-- bounds for one square: al A + be B + et C, where gl B ≤ C ≤ gh B -/
def slK (k1 u gl al be et : Nat) : Nat := lst (k1 * (et * gl + al + be)) (u * u * (k1 * gl - 1))
def slJ (j1 r gh al be et : Nat) : Nat := lst (16 * (al + be + et * gh)) (j1 * (r * r))
def slI (L p gl gh al be et : Nat) : Nat := lst (4 * (al * (1 + gl) + L * (be + et * gh))) (p * p * (1 + gl))
def slC (k1 j1 L p r u gl gh al be et : Nat) : Nat := (slK k1 u gl al be et + 1) * (slJ j1 r gh al be et + 1) * (slI L p gl gh al be et + 1)
def slO (k1 j1 L p r u gl gh al be et : Nat) : Bool := decide (k1 * (et * gl + al + be) + u * u * ((slK k1 u gl al be et + 1) * (slK k1 u gl al be et + 1)) ≤ k1 * gl * (u * u * ((slK k1 u gl al be et + 1) * (slK k1 u gl al be et + 1)))) && (decide (16 * (al + be + et * gh) ≤ j1 * (r * r) * ((slJ j1 r gh al be et + 1) * (slJ j1 r gh al be et + 1))) && decide (4 * (al * (1 + gl) + L * (be + et * gh)) ≤ p * p * (1 + gl) * ((slI L p gl gh al be et + 1) * (slI L p gl gh al be et + 1))))
def al2 (p r : Nat) : Nat := (p - 1) * (p - 1 + r)
def al3 (p r u : Nat) : Nat := (p - 1) * (p - 1 + (r - 1) + u)
def be3 (r u : Nat) : Nat := (r - 1) * (r - 1 + u)
def okU (k1 j1 L p r u gl gh : Nat) : Bool := (slO k1 j1 L p r u gl gh (p * p) 0 0 && (slO k1 j1 L p r u gl gh (al2 p r) (r * r) 0 && slO k1 j1 L p r u gl gh (al3 p r u) (be3 r u) (u * u))) && decide (slC k1 j1 L p r u gl gh (p * p) 0 0 + slC k1 j1 L p r u gl gh (al2 p r) (r * r) 0 + slC k1 j1 L p r u gl gh (al3 p r u) (be3 r u) (u * u) ≤ 249990)
def gaps : List (Nat × Nat) := [(1, 2), (2, 3), (3, 4), (4, 6), (6, 8), (8, 12), (12, 16), (16, 24), (24, 32), (32, 48), (48, 64), (64, 96), (96, 128), (128, 160)]
/-- the gap is wanted only where C is not far above -/
def wan (p r u gl : Nat) : Bool := decide (u * u * (2 * gl) ≤ 2 * (p * p) + u * u) || decide (u * u * (2 * gl) ≤ 2 * (al2 p r + r * r) + u * u)
def spD (p r u : Nat) : Nat × Nat := (4 * max (p * p) (max (al2 p r) (al3 p r u)), max (4 * (r * r)) (4 * be3 r u + 2 * (u * u)))
def spJ (p r u : Nat) : Nat := lst (4 * ((spD p r u).1 + (spD p r u).2) + 1) (3 * (r * r))
def spI (p r u : Nat) : Nat := lst (2 * (spD p r u).1 + 29999 * (spD p r u).2 + 1) (2 * (p * p))
def okS (p r u : Nat) : Bool := (decide (4 * ((spD p r u).1 + (spD p r u).2) + 1 ≤ 3 * (r * r) * ((spJ p r u + 1) * (spJ p r u + 1))) && decide (2 * (spD p r u).1 + 29999 * (spD p r u).2 + 1 ≤ 2 * (p * p) * ((spI p r u + 1) * (spI p r u + 1)))) && decide (4 * ((spJ p r u + 1) * (spI p r u + 1)) ≤ 249990)
def tri (P : Nat → Nat → Nat → Bool) : Bool := (List.range' 1 12).all (fun p => (List.range' 1 12).all (fun r => (List.range' 1 12).all (fun u => if p * r * u ≤ 12 then P p r u else true)))
theorem tri_s {P : Nat → Nat → Nat → Bool} (h : tri P = true) {p r u : Nat} (hp : 1 ≤ p) (hr : 1 ≤ r) (hu : 1 ≤ u) (hn : p * r * u ≤ 12) : P p r u = true := by
  unfold tri at h
  have h1 : p * 1 ≤ p * r := Nat.mul_le_mul_left p hr
  have h2 : 1 * r ≤ p * r := Nat.mul_le_mul_right r hp
  have h3 : (p * r) * 1 ≤ p * r * u := Nat.mul_le_mul_left (p * r) hu
  have h4 : 1 * u ≤ p * r * u := Nat.mul_le_mul_right u (by omega)
  have k1 := List.all_eq_true.mp h p (List.mem_range'_1.mpr ⟨hp, by omega⟩)
  have k2 := List.all_eq_true.mp k1 r (List.mem_range'_1.mpr ⟨hr, by omega⟩)
  have k3 := List.all_eq_true.mp k2 u (List.mem_range'_1.mpr ⟨hu, by omega⟩)
  rw [if_pos hn] at k3
  exact k3
theorem nU : tri (fun p r u => gaps.all (fun g => !(wan p r u g.1) || (okU 2 3 14999 p r u g.1 g.2 && okU 4 4 29999 p r u g.1 g.2))) = true := by decide +kernel
theorem nG : tri (fun p r u => !(wan p r u 160)) = true := by decide +kernel
theorem nS : tri (fun p r u => okS p r u) = true := by decide +kernel

