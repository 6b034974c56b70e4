-- what holds where the turns end
def NR (a b c x y z : Int) : Prop := (a ≤ b ∧ b ≤ c) ∧ ((a = b → zabs x ≤ zabs y) ∧ (b = c → zabs y ≤ zabs z)) ∧ ((0 < x ∧ 0 < y ∧ 0 < z) ∨ (x ≤ 0 ∧ y ≤ 0 ∧ z ≤ 0)) ∧ ¬ c5 b x y z ∧ ¬ c6 a x y z ∧ ¬ c7 a x y z ∧ ¬ c8 a b x y z
def NRz (q : Z6) : Prop := NR q.1 q.2.1 q.2.2.1 q.2.2.2.1 q.2.2.2.2.1 q.2.2.2.2.2
section NO
variable {a b c x y z : Int}
theorem sh_0 (h : (sh a b c x y z).1 = 0) : sh a b c x y z = (0, a, b, c, x, y, z) ∧ ¬ c5 b x y z ∧ ¬ c6 a x y z ∧ ¬ c7 a x y z ∧ ¬ c8 a b x y z := by
  unfold sh at h ⊢
  by_cases k5 : c5 b x y z
  · rw [if_pos k5] at h; exact absurd h (show ¬ (2 : Int) = 0 by decide)
  rw [if_neg k5] at h ⊢
  by_cases k6 : c6 a x y z
  · rw [if_pos k6] at h; exact absurd h (show ¬ (2 : Int) = 0 by decide)
  rw [if_neg k6] at h ⊢
  by_cases k7 : c7 a x y z
  · rw [if_pos k7] at h; exact absurd h (show ¬ (2 : Int) = 0 by decide)
  rw [if_neg k7] at h ⊢
  by_cases k8 : c8 a b x y z
  · rw [if_pos k8] at h; exact absurd h (show ¬ (2 : Int) = 0 by decide)
  rw [if_neg k8]
  exact ⟨rfl, k5, k6, k7, k8⟩
theorem al_abs (x y z v : Int) : zabs (al x y z v) = zabs v := by
  unfold al
  by_cases hp : isP x y z
  · rw [if_pos hp, zabs_zabs]
  · rw [if_neg hp, zabs_nz]
theorem al_sign (x y z : Int) : (0 < al x y z x ∧ 0 < al x y z y ∧ 0 < al x y z z) ∨ (al x y z x ≤ 0 ∧ al x y z y ≤ 0 ∧ al x y z z ≤ 0) := by
  unfold al
  by_cases hp : ((0 < x ∧ 0 < y ∧ 0 < z) ∨ (0 < x ∧ y < 0 ∧ z < 0) ∨ (x < 0 ∧ 0 < y ∧ z < 0) ∨ (x < 0 ∧ y < 0 ∧ 0 < z))
  · rw [if_pos (show isP x y z from hp), if_pos (show isP x y z from hp), if_pos (show isP x y z from hp)]
    left
    unfold zabs
    refine ⟨?_, ?_, ?_⟩
    · split <;> omega
    · split <;> omega
    · split <;> omega
  · rw [if_neg (show ¬ isP x y z from hp), if_neg (show ¬ isP x y z from hp), if_neg (show ¬ isP x y z from hp)]
    right
    unfold zabs
    refine ⟨?_, ?_, ?_⟩
    · split <;> omega
    · split <;> omega
    · split <;> omega
theorem tn2_0 (hab : a ≤ b) (i1 : a = b → zabs x ≤ zabs y) (h : (tn2 a b c x y z).1 = 0) : NRz (tn2 a b c x y z).2 := by
  unfold tn2 at h ⊢
  by_cases k : (c < b ∨ (b = c ∧ zabs z < zabs y))
  · rw [if_pos (show c2 b c y z from k)] at h; exact absurd h (show ¬ (1 : Int) = 0 by decide)
  rw [if_neg (show ¬ c2 b c y z from k)] at h ⊢
  obtain ⟨e, k5, k6, k7, k8⟩ := sh_0 h
  rw [e]
  refine ⟨⟨hab, show b ≤ c by omega⟩, ⟨?_, ?_⟩, al_sign x y z, k5, k6, k7, k8⟩
  · show a = b → zabs (al x y z x) ≤ zabs (al x y z y)
    rw [al_abs, al_abs]; exact i1
  · show b = c → zabs (al x y z y) ≤ zabs (al x y z z)
    rw [al_abs, al_abs]; omega
theorem tn_0 (h : (tn a b c x y z).1 = 0) : NRz (tn a b c x y z).2 := by
  unfold tn at h ⊢
  by_cases k : (b < a ∨ (a = b ∧ zabs y < zabs x))
  · rw [if_pos (show c1 a b x y from k)] at h ⊢
    exact tn2_0 (by omega) (by omega) h
  · rw [if_neg (show ¬ c1 a b x y from k)] at h ⊢
    exact tn2_0 (by omega) (by omega) h
end NO
theorem zrun_N : ∀ (m : Nat) {q : Z6} {r : Z6 × Nat}, PDz q → zrun m q = some r → NRz r.1 ∧ PDz r.1 ∧ sumz r.1 ≤ sumz q := by
  intro m
  induction m with
  | zero => intro q r _ h; cases h
  | succ m ih =>
    intro q r hp h
    have k := tnz_keep hp
    rw [zrun] at h
    by_cases c0 : (tnz q).1 = 0
    · rw [if_pos c0] at h
      cases h
      exact ⟨tn_0 c0, k.1, k.2.1⟩
    · rw [if_neg c0] at h
      rcases e : zrun m (tnz q).2 with _ | s
      · rw [e] at h; cases h
      rw [e] at h
      have hr := Option.some.inj h
      rw [← hr]
      have := ih k.1 e
      exact ⟨this.1, this.2.1, Int.le_trans this.2.2 k.2.1⟩
-- the mixed numbers stay even
def EV (q : Z6) : Prop := q.2.2.2.1 % 2 = 0 ∧ q.2.2.2.2.1 % 2 = 0 ∧ q.2.2.2.2.2 % 2 = 0
theorem sg_or (x : Int) : sg x = 1 ∨ sg x = -1 := by
  unfold sg
  by_cases k : 0 < x
  · rw [if_pos k]; exact Or.inl rfl
  · rw [if_neg k]; exact Or.inr rfl
theorem sh_ev {a b c x y z : Int} (hx : x % 2 = 0) (hy : y % 2 = 0) (hz : z % 2 = 0) : EV (sh a b c x y z).2 := by
  unfold sh
  by_cases k5 : c5 b x y z
  · rw [if_pos k5]
    show (x - 2 * sg x * b) % 2 = 0 ∧ (y - sg x * z) % 2 = 0 ∧ z % 2 = 0
    rcases sg_or x with e | e <;> rw [e] <;> omega
  rw [if_neg k5]
  by_cases k6 : c6 a x y z
  · rw [if_pos k6]
    show (x - sg y * z) % 2 = 0 ∧ (y - 2 * sg y * a) % 2 = 0 ∧ z % 2 = 0
    rcases sg_or y with e | e <;> rw [e] <;> omega
  rw [if_neg k6]
  by_cases k7 : c7 a x y z
  · rw [if_pos k7]
    show (x - sg z * y) % 2 = 0 ∧ y % 2 = 0 ∧ (z - 2 * sg z * a) % 2 = 0
    rcases sg_or z with e | e <;> rw [e] <;> omega
  rw [if_neg k7]
  by_cases k8 : c8 a b x y z
  · rw [if_pos k8]
    show (2 * b + x + z) % 2 = 0 ∧ (2 * a + y + z) % 2 = 0 ∧ z % 2 = 0
    omega
  · rw [if_neg k8]; exact ⟨hx, hy, hz⟩
theorem al_ev {x y z v : Int} (h : v % 2 = 0) : al x y z v % 2 = 0 := by
  unfold al zabs
  split <;> split <;> omega
theorem tn2_ev {a b c x y z : Int} (hx : x % 2 = 0) (hy : y % 2 = 0) (hz : z % 2 = 0) : EV (tn2 a b c x y z).2 := by
  unfold tn2
  by_cases k : c2 b c y z
  · rw [if_pos k]; exact ⟨hx, hz, hy⟩
  · rw [if_neg k]; exact sh_ev (al_ev hx) (al_ev hy) (al_ev hz)
theorem tnz_ev {q : Z6} (h : EV q) : EV (tnz q).2 := by
  unfold tnz tn
  by_cases k : c1 q.1 q.2.1 q.2.2.2.1 q.2.2.2.2.1
  · rw [if_pos k]; exact tn2_ev h.2.1 h.1 h.2.2
  · rw [if_neg k]; exact tn2_ev h.1 h.2.1 h.2.2
theorem zrun_ev : ∀ (m : Nat) {q : Z6} {r : Z6 × Nat}, EV q → zrun m q = some r → EV r.1 := by
  intro m
  induction m with
  | zero => intro q r _ h; cases h
  | succ m ih =>
    intro q r hp h
    have k := tnz_ev hp
    rw [zrun] at h
    by_cases c0 : (tnz q).1 = 0
    · rw [if_pos c0] at h
      cases h
      exact k
    · rw [if_neg c0] at h
      rcases e : zrun m (tnz q).2 with _ | s
      · rw [e] at h; cases h
      rw [e] at h
      have hr := Option.some.inj h
      rw [← hr]
      have h2 := ih k e
      exact h2
theorem half_z {x : Int} (h : x % 2 = 0) (hs : sm x) : zL x / 2 = zL (x / 2) := by
  apply Int64.toInt_inj.mp
  have h2 := hs
  rw [Int64.toInt_div_of_ne_right _ _ (by decide), zL_int hs, zL_int ⟨by have := hs.1; omega, by have := hs.2; omega⟩, show (2 : Int64).toInt = 2 by decide]
  rw [Int.tdiv_eq_ediv_of_dvd (Int.dvd_of_emod_eq_zero h)]

