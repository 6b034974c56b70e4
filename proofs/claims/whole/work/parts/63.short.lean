-- shorter answers
def zI (k : Nat) : Int32 := (-4 : Int32) + nI k
theorem zI_1 (k : Nat) : zI k + (1 : Int32) = zI (k + 1) := by
  unfold zI
  rw [Int32.add_assoc, nI_1]
theorem zI_le : ∀ k, k < 9 → ¬ (4 : Int32) < zI k := by decide
theorem zI_9 : (4 : Int32) < zI 9 := by decide
theorem zI_0 : (-4 : Int32) = zI 0 := by decide
section SH
variable {kn : Nat} {td lw : Nat → P6} {sy sh : Nat → Int32} {ac al : Nat → Int64} {ay as_ : Nat → Int32}
theorem sh37 (hk : kn ≤ 40) (h : CR kn td lw sy sh ac al ay as_) {c : Nat} (hc : c < kn) (ra : Int64) (lx ly : Int32) : ∀ (m k fu : Nat) (wi : Int32), k + m = 9 → m < fu → ∃ w, lp_M_shorter_37 (nI kn) ac (nI c) ra fu wi lx ly (zI k) = some (w, lx, ly, zI 9) := by
  intro m
  induction m with
  | zero =>
    intro k fu wi e hf
    obtain ⟨fu, rfl⟩ : ∃ x, fu = x + 1 := ⟨fu - 1, by omega⟩
    rw [lp_M_shorter_37, show k = 9 by omega, if_pos zI_9]
    exact ⟨_, rfl⟩
  | succ m ih =>
    intro k fu wi e hf
    obtain ⟨fu, rfl⟩ : ∃ x, fu = x + 1 := ⟨fu - 1, by omega⟩
    have go : ∀ w, ∃ w', lp_M_shorter_37 (nI kn) ac (nI c) ra fu w lx ly (zI (k + 1)) = some (w', lx, ly, zI 9) := fun w => ih (k + 1) fu w (by omega) (by omega)
    rw [lp_M_shorter_37, if_neg (zI_le k (by omega)), zI_1, nI_6, dot_s (by omega) (h c hc).1.1, Option.bind_some]
    generalize f_P_prod (td c).1 (td c).2.1 (td c).2.2.1 (td c).2.2.2.1 (td c).2.2.2.2.1 (td c).2.2.2.2.2 lx.toInt64 ly.toInt64 (zI k).toInt64 lx.toInt64 ly.toInt64 (zI k).toInt64 = V
    by_cases c1 : lx = 0
    · rw [if_pos c1]
      by_cases c2 : ly = 0
      · rw [if_pos c2]
        by_cases c3 : zI k = 0
        · rw [if_pos c3]; exact go _
        · rw [if_neg c3]
          by_cases c4 : 0 < lg_cmp V ra
          · rw [if_pos c4]; exact go _
          · rw [if_neg c4]; exact go _
      · rw [if_neg c2]
        by_cases c4 : 0 < lg_cmp V ra
        · rw [if_pos c4]; exact go _
        · rw [if_neg c4]; exact go _
    · rw [if_neg c1]
      by_cases c4 : 0 < lg_cmp V ra
      · rw [if_pos c4]; exact go _
      · rw [if_neg c4]; exact go _
theorem sh27 (hk : kn ≤ 40) (h : CR kn td lw sy sh ac al ay as_) {c : Nat} (hc : c < kn) (ra : Int64) (lx : Int32) : ∀ (m k fu : Nat) (wi : Int32), k + m = 9 → m < fu → ∃ w, lp_M_shorter_27 (nI kn) ac (nI c) ra fu wi lx (zI k) = some (w, lx, zI 9) := by
  intro m
  induction m with
  | zero =>
    intro k fu wi e hf
    obtain ⟨fu, rfl⟩ : ∃ x, fu = x + 1 := ⟨fu - 1, by omega⟩
    rw [lp_M_shorter_27, show k = 9 by omega, if_pos zI_9]
    exact ⟨_, rfl⟩
  | succ m ih =>
    intro k fu wi e hf
    obtain ⟨fu, rfl⟩ : ∃ x, fu = x + 1 := ⟨fu - 1, by omega⟩
    obtain ⟨w, hw⟩ := sh37 hk h hc ra lx (zI k) 9 0 10 wi (by omega) (by omega)
    rw [lp_M_shorter_27, if_neg (zI_le k (by omega)), zI_0, hw, Option.bind_some]
    dsimp only
    rw [zI_1]
    exact ih (k + 1) fu w (by omega) (by omega)
theorem sh17 (hk : kn ≤ 40) (h : CR kn td lw sy sh ac al ay as_) {c : Nat} (hc : c < kn) (ra : Int64) : ∀ (m k fu : Nat) (wi : Int32), k + m = 9 → m < fu → ∃ w, lp_M_shorter_17 (nI kn) ac (nI c) ra fu wi (zI k) = some w := by
  intro m
  induction m with
  | zero =>
    intro k fu wi e hf
    obtain ⟨fu, rfl⟩ : ∃ x, fu = x + 1 := ⟨fu - 1, by omega⟩
    rw [lp_M_shorter_17, show k = 9 by omega, if_pos zI_9]
    exact ⟨_, rfl⟩
  | succ m ih =>
    intro k fu wi e hf
    obtain ⟨fu, rfl⟩ : ∃ x, fu = x + 1 := ⟨fu - 1, by omega⟩
    obtain ⟨w, hw⟩ := sh27 hk h hc ra (zI k) 9 0 10 wi (by omega) (by omega)
    rw [lp_M_shorter_17, if_neg (zI_le k (by omega)), zI_0, hw, Option.bind_some]
    dsimp only
    rw [zI_1]
    exact ih (k + 1) fu w (by omega) (by omega)
theorem shorter_s (hk : kn ≤ 40) (h : CR kn td lw sy sh ac al ay as_) (cl : Int32) (ra : Int64) : ∃ r, f_B_shorter td lw sy sh kn cl ra = some r ∧ f_M_shorter (nI kn) ac cl ra = some r := by
  rw [shorter_e hk h]
  have hs : ∃ r, f_M_shorter (nI kn) ac cl ra = some r := by
    unfold f_M_shorter
    by_cases hb : inb cl kn = true
    · rw [isCell_in hk hb, if_neg (show ¬ (1 : Int32) = 0 by decide)]
      obtain ⟨i, hi, rfl⟩ := inb_of hb
      rw [zI_0]
      exact sh17 hk h hi ra 9 0 10 0 (by omega) (by omega)
    · rw [isCell_out hk hb, if_pos rfl]
      exact ⟨_, rfl⟩
  obtain ⟨r, hr⟩ := hs
  exact ⟨r, hr, hr⟩
end SH

