-- cells of both sides; the methods that only read
theorem nI_mul (a b : Nat) : nI a * nI b = nI (a * b) := (Int32.ofNat_mul a b).symm
theorem nI_6 (i : Nat) : (6 : Int32) * nI i = nI (6 * i) := nI_mul 6 i
theorem nI_p1 (a : Nat) : nI a + (1 : Int32) = nI (a + 1) := nI_add a 1
theorem nI_p2 (a : Nat) : nI a + (2 : Int32) = nI (a + 2) := nI_add a 2
theorem nI_p3 (a : Nat) : nI a + (3 : Int32) = nI (a + 3) := nI_add a 3
theorem nI_p4 (a : Nat) : nI a + (4 : Int32) = nI (a + 4) := nI_add a 4
theorem nI_p5 (a : Nat) : nI a + (5 : Int32) = nI (a + 5) := nI_add a 5
theorem inb_nI {k n : Nat} (h : k < 2 ^ 31) (hk : k < n) : inb (nI k) n = true := by
  unfold inb
  rw [nI_toInt h]
  exact decide_eq_true ⟨by omega, by omega⟩
theorem inb_of {x : Int32} {n : Nat} (h : inb x n = true) : ∃ i, i < n ∧ x = nI i := by
  have h := of_decide_eq_true h
  refine ⟨x.toInt.toNat, by omega, ?_⟩
  have hlt : x.toInt < 2147483648 := x.toInt_lt
  apply Int32.toInt_inj.mp
  rw [nI_toInt (by omega)]
  omega
theorem isCell_in {kn : Nat} {cl : Int32} (hk : kn ≤ 40) (h : inb cl kn = true) : f_M_isCell (nI kn) cl = 1 := by
  obtain ⟨i, hi, rfl⟩ := inb_of h
  unfold f_M_isCell
  rw [if_neg (nI_pos (by omega)), if_neg (nI_ge hi (by omega))]
theorem isCell_out {kn : Nat} {cl : Int32} (hk : kn ≤ 40) (h : ¬ inb cl kn = true) : f_M_isCell (nI kn) cl = 0 := by
  unfold f_M_isCell
  by_cases c : cl < 0
  · rw [if_pos c]
  · rw [if_neg c]
    obtain ⟨j, hj, rfl⟩ := nI_of c
    by_cases d : nI kn ≤ nI j
    · rw [if_pos d]
    · exfalso
      have hjk : j < kn := by
        refine Nat.lt_of_not_le fun q => d ((nI_leI (by omega) hj).mpr q)
      exact h (inb_nI hj hjk)
/-- six numbers of a cell, as the reference keeps them -/
def row6 (f : Nat → Int64) (i : Nat) (t : P6) : Prop := f (6 * i) = t.1 ∧ f (6 * i + 1) = t.2.1 ∧ f (6 * i + 2) = t.2.2.1 ∧ f (6 * i + 3) = t.2.2.2.1 ∧ f (6 * i + 4) = t.2.2.2.2.1 ∧ f (6 * i + 5) = t.2.2.2.2.2
/-- the cells of both sides -/
def CR (kn : Nat) (td lw : Nat → P6) (sy sh : Nat → Int32) (ac al : Nat → Int64) (ay as_ : Nat → Int32) : Prop := ∀ i, i < kn → (row6 ac i (td i) ∧ row6 al i (lw i)) ∧ sy i = ay i ∧ sh i = as_ i
theorem cl6 {k : Nat} (h : k < 240) : (nI k).toNatClampNeg = k := nI_clamp (by omega)
theorem dot_s {g : Nat → Int64} {i : Nat} {t : P6} (hi : i < 40) (h : row6 g i t) (px py pz qx qy qz : Int64) : f_M_dot g (nI (6 * i)) px py pz qx qy qz = some (f_P_prod t.1 t.2.1 t.2.2.1 t.2.2.2.1 t.2.2.2.2.1 t.2.2.2.2.2 px py pz qx qy qz) := by
  unfold f_M_dot f_P_prod
  rw [nI_p1, nI_p2, nI_p3, nI_p4, nI_p5, if_pos (inb_nI (by omega) (by omega)), if_pos (inb_nI (by omega) (by omega)), if_pos (inb_nI (by omega) (by omega)), if_pos (inb_nI (by omega) (by omega)), if_pos (inb_nI (by omega) (by omega)), if_pos (inb_nI (by omega) (by omega)),
    cl6 (by omega), cl6 (by omega), cl6 (by omega), cl6 (by omega), cl6 (by omega), cl6 (by omega), h.1, h.2.1, h.2.2.1, h.2.2.2.1, h.2.2.2.2.1, h.2.2.2.2.2]
theorem det_s {g : Nat → Int64} {i : Nat} {t : P6} (hi : i < 40) (h : row6 g i t) : f_M_det g (nI (6 * i)) = some (f_P_det t.1 t.2.1 t.2.2.1 t.2.2.2.1 t.2.2.2.2.1 t.2.2.2.2.2) := by
  unfold f_M_det f_P_det
  rw [nI_p1, nI_p2, nI_p3, nI_p4, nI_p5, if_pos (inb_nI (by omega) (by omega)), if_pos (inb_nI (by omega) (by omega)), if_pos (inb_nI (by omega) (by omega)), if_pos (inb_nI (by omega) (by omega)), if_pos (inb_nI (by omega) (by omega)), if_pos (inb_nI (by omega) (by omega)),
    cl6 (by omega), cl6 (by omega), cl6 (by omega), cl6 (by omega), cl6 (by omega), cl6 (by omega), h.1, h.2.1, h.2.2.1, h.2.2.2.1, h.2.2.2.2.1, h.2.2.2.2.2]
section RD
variable {kn : Nat} {td lw : Nat → P6} {sy sh : Nat → Int32} {ac al : Nat → Int64} {ay as_ : Nat → Int32}
theorem at_s {g : Nat → Int64} {i : Nat} {t : P6} {wh : Int32} (hi : i < 40) (h : row6 g i t) (h0 : ¬ wh < 0) (h6 : ¬ (6 : Int32) ≤ wh) : inb (nI (6 * i) + wh) 240 = true ∧ g (nI (6 * i) + wh).toNatClampNeg = f_P_at t.1 t.2.1 t.2.2.1 t.2.2.2.1 t.2.2.2.2.1 t.2.2.2.2.2 wh := by
  obtain ⟨j, hj, rfl⟩ := nI_of h0
  have hj6 : j < 6 := Nat.lt_of_not_le fun q => h6 ((nI_leI (a := 6) (by decide) hj).mpr q)
  rw [nI_add]
  refine ⟨inb_nI (by omega) (by omega), ?_⟩
  rw [cl6 (by omega)]
  unfold f_P_at
  match j, hj6 with
  | 0, _ => rw [if_pos (show nI 0 = (0 : Int32) by decide)]; exact h.1
  | 1, _ => rw [if_neg (show ¬ nI 1 = (0 : Int32) by decide), if_pos (show nI 1 = (1 : Int32) by decide)]; exact h.2.1
  | 2, _ => rw [if_neg (show ¬ nI 2 = (0 : Int32) by decide), if_neg (show ¬ nI 2 = (1 : Int32) by decide), if_pos (show nI 2 = (2 : Int32) by decide)]; exact h.2.2.1
  | 3, _ => rw [if_neg (show ¬ nI 3 = (0 : Int32) by decide), if_neg (show ¬ nI 3 = (1 : Int32) by decide), if_neg (show ¬ nI 3 = (2 : Int32) by decide), if_pos (show nI 3 = (3 : Int32) by decide)]; exact h.2.2.2.1
  | 4, _ => rw [if_neg (show ¬ nI 4 = (0 : Int32) by decide), if_neg (show ¬ nI 4 = (1 : Int32) by decide), if_neg (show ¬ nI 4 = (2 : Int32) by decide), if_neg (show ¬ nI 4 = (3 : Int32) by decide), if_pos (show nI 4 = (4 : Int32) by decide)]; exact h.2.2.2.2.1
  | 5, _ => rw [if_neg (show ¬ nI 5 = (0 : Int32) by decide), if_neg (show ¬ nI 5 = (1 : Int32) by decide), if_neg (show ¬ nI 5 = (2 : Int32) by decide), if_neg (show ¬ nI 5 = (3 : Int32) by decide), if_neg (show ¬ nI 5 = (4 : Int32) by decide), if_pos (show nI 5 = (5 : Int32) by decide)]; exact h.2.2.2.2.2
theorem lt_of_le_ne {a b : Int32} (h : a ≤ b) (hn : ¬ a = b) : a < b := by
  rw [Int32.lt_iff_toInt_lt]
  rw [Int32.le_iff_toInt_le] at h
  have : a.toInt ≠ b.toInt := fun q => hn (Int32.toInt_inj.mp q)
  omega
theorem reduced_s (hk : kn ≤ 40) (h : CR kn td lw sy sh ac al ay as_) (cl wh : Int32) : ∃ r, f_B_reduced td lw sy sh kn cl wh = some r ∧ f_M_reduced (nI kn) al ay as_ cl wh = some r := by
  unfold f_B_reduced f_M_reduced
  by_cases hb : inb cl kn = true
  · rw [if_pos hb, isCell_in hk hb, if_neg (show ¬ (1 : Int32) = 0 by decide)]
    obtain ⟨i, hi, rfl⟩ := inb_of hb
    obtain ⟨⟨h1, h2⟩, h3, h4⟩ := h i hi
    have hc : (nI i).toNatClampNeg = i := nI_clamp (by omega)
    rw [hc, nI_6]
    by_cases c6 : wh = 6
    · subst c6
      rw [if_pos rfl, if_neg (show ¬ (6 : Int32) < 0 by decide), if_pos (show (6 : Int32) ≤ 8 by decide), if_pos (show (6 : Int32) ≤ 6 by decide), if_pos rfl, if_pos (inb_nI (by omega) (by omega)), h3]
      exact ⟨_, rfl, rfl⟩
    rw [if_neg c6]
    by_cases c7 : wh = 7
    · subst c7
      rw [if_pos rfl, if_neg (show ¬ (7 : Int32) < 0 by decide), if_pos (show (7 : Int32) ≤ 8 by decide), if_pos (show (6 : Int32) ≤ 7 by decide), if_neg (show ¬ (7 : Int32) = 6 by decide), if_pos rfl, det_s (by omega) h2, Option.bind_some]
      exact ⟨_, rfl, rfl⟩
    rw [if_neg c7]
    by_cases c8 : wh = 8
    · subst c8
      rw [if_pos rfl, if_neg (show ¬ (8 : Int32) < 0 by decide), if_pos (show (8 : Int32) ≤ 8 by decide), if_pos (show (6 : Int32) ≤ 8 by decide), if_neg (show ¬ (8 : Int32) = 6 by decide), if_neg (show ¬ (8 : Int32) = 7 by decide), if_pos (inb_nI (by omega) (by omega)), h4]
      exact ⟨_, rfl, rfl⟩
    rw [if_neg c8]
    have hout : ∀ w : Int32, (w < 0 ∨ ¬ w ≤ 8) → f_P_at (lw i).1 (lw i).2.1 (lw i).2.2.1 (lw i).2.2.2.1 (lw i).2.2.2.2.1 (lw i).2.2.2.2.2 w = 0 := by
      intro w hw
      unfold f_P_at
      have ne : ∀ v : Int32, ¬ v < 0 → v ≤ 8 → ¬ w = v := fun v h1 h2 e => by subst e; exact hw.elim h1 (fun q => q h2)
      rw [if_neg (ne 0 (by decide) (by decide)), if_neg (ne 1 (by decide) (by decide)), if_neg (ne 2 (by decide) (by decide)), if_neg (ne 3 (by decide) (by decide)), if_neg (ne 4 (by decide) (by decide)), if_neg (ne 5 (by decide) (by decide))]
    by_cases n0 : wh < 0
    · rw [if_pos n0, hout wh (Or.inl n0)]
      exact ⟨_, rfl, rfl⟩
    rw [if_neg n0]
    by_cases n8 : wh ≤ 8
    · have n6 : ¬ (6 : Int32) ≤ wh := fun q => by
        obtain ⟨j, hj, rfl⟩ := nI_of n0
        have a1 := (nI_leI (a := 6) (b := j) (by decide) hj).mp q
        have a2 := (nI_leI (a := j) (b := 8) hj (by decide)).mp n8
        have b6 : j ≠ 6 := fun e => c6 (by rw [e]; decide)
        have b7 : j ≠ 7 := fun e => c7 (by rw [e]; decide)
        have b8 : j ≠ 8 := fun e => c8 (by rw [e]; decide)
        omega
      rw [if_pos n8, if_neg n6, if_pos (at_s (by omega) h2 n0 n6).1, (at_s (by omega) h2 n0 n6).2]
      exact ⟨_, rfl, rfl⟩
    · rw [if_neg n8, hout wh (Or.inr n8)]
      exact ⟨_, rfl, rfl⟩
  · rw [if_neg hb, isCell_out hk hb, if_pos rfl]
    exact ⟨_, rfl, rfl⟩
theorem btw_s (v : Int32) (lo hi : Int) (hlo : -1000000 ≤ lo ∧ lo ≤ 1000000) (hhi : -1000000 ≤ hi ∧ hi ≤ 1000000) : f_M_between v.toInt64 (zL lo) (zL hi) = 0 ↔ ¬ (lo ≤ v.toInt ∧ v.toInt ≤ hi) := by
  have e : v.toInt64 = zL v.toInt := by
    apply Int64.toInt_inj.mp
    have h1 := v.le_toInt
    have h2 := v.toInt_lt
    rw [Int32.toInt_toInt64, zL_int ⟨by omega, by omega⟩]
  have h1 := v.le_toInt
  have h2 := v.toInt_lt
  have sv : sm v.toInt := ⟨by omega, by omega⟩
  have sl : sm lo := ⟨by omega, by omega⟩
  have sh : sm hi := ⟨by omega, by omega⟩
  unfold f_M_between
  rw [e]
  simp only [lc_lt sv sl, lc_gt sv sh]
  by_cases c1 : v.toInt < lo
  · rw [if_pos c1]; exact ⟨fun _ => by omega, fun _ => rfl⟩
  · rw [if_neg c1]
    by_cases c2 : hi < v.toInt
    · rw [if_pos c2]; exact ⟨fun _ => by omega, fun _ => rfl⟩
    · rw [if_neg c2]; exact ⟨fun q => absurd q (by decide), fun q => absurd ⟨by omega, by omega⟩ q⟩
theorem rng_s (v lo hi : Int32) : (if v < lo then (0 : Int32) else if hi < v then 0 else 1) = 0 ↔ ¬ (lo.toInt ≤ v.toInt ∧ v.toInt ≤ hi.toInt) := by
  simp only [Int32.lt_iff_toInt_lt]
  by_cases c1 : v.toInt < lo.toInt
  · rw [if_pos c1]; exact ⟨fun _ => by omega, fun _ => rfl⟩
  · rw [if_neg c1]
    by_cases c2 : hi.toInt < v.toInt
    · rw [if_pos c2]; exact ⟨fun _ => by omega, fun _ => rfl⟩
    · rw [if_neg c2]; exact ⟨fun q => absurd q (by decide), fun q => absurd ⟨by omega, by omega⟩ q⟩
theorem route_s (v : Int32) : f_isRouteNumber v = 0 ↔ f_M_between v.toInt64 (-1000 : Int64) (1000 : Int64) = 0 := by
  have h := btw_s v (-1000) 1000 (by omega) (by omega)
  rw [show zL (-1000) = (-1000 : Int64) by decide, show zL 1000 = (1000 : Int64) by decide] at h
  rw [h]
  unfold f_isRouteNumber
  rw [rng_s v (-1000) 1000, show (-1000 : Int32).toInt = -1000 by decide, show (1000 : Int32).toInt = 1000 by decide]
theorem step_s (hk : kn ≤ 40) (h : CR kn td lw sy sh ac al ay as_) (cl x_ y_ z_ : Int32) : ∃ r, f_B_step td lw sy sh kn cl x_ y_ z_ = some r ∧ f_M_step (nI kn) ac cl x_ y_ z_ = some r := by
  unfold f_B_step f_M_step
  by_cases hb : inb cl kn = true
  · rw [if_pos hb, isCell_in hk hb, if_neg (show ¬ (1 : Int32) = 0 by decide)]
    obtain ⟨i, hi, rfl⟩ := inb_of hb
    obtain ⟨⟨h1, h2⟩, h3, h4⟩ := h i hi
    have hc : (nI i).toNatClampNeg = i := nI_clamp (by omega)
    rw [hc, nI_6]
    by_cases k1 : f_isRouteNumber x_ = 0
    · rw [if_pos k1, if_pos ((route_s x_).mp k1)]; exact ⟨_, rfl, rfl⟩
    rw [if_neg k1, if_neg (fun q => k1 ((route_s x_).mpr q))]
    by_cases k2 : f_isRouteNumber y_ = 0
    · rw [if_pos k2, if_pos ((route_s y_).mp k2)]; exact ⟨_, rfl, rfl⟩
    rw [if_neg k2, if_neg (fun q => k2 ((route_s y_).mpr q))]
    by_cases k3 : f_isRouteNumber z_ = 0
    · rw [if_pos k3, if_pos ((route_s z_).mp k3)]; exact ⟨_, rfl, rfl⟩
    rw [if_neg k3, if_neg (fun q => k3 ((route_s z_).mpr q)), dot_s (by omega) h1, Option.bind_some]
    exact ⟨_, rfl, rfl⟩
  · rw [if_neg hb, isCell_out hk hb, if_pos rfl]
    exact ⟨_, rfl, rfl⟩
end RD

