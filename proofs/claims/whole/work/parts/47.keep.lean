-- same, shorter, keeps: both sides
theorem six_le {k : Nat} (h : k < 6) : ¬ (6 : Int32) ≤ nI k := fun q => by
  have := (nI_leI (a := 6) (b := k) (by decide) (by omega)).mp q
  omega
theorem lg_eq {x y : Int64} : lg_cmp x y = 0 ↔ x = y := by
  unfold lg_cmp
  by_cases c : x > y
  · rw [if_pos c]
    refine ⟨fun q => absurd q (by decide), fun q => ?_⟩
    subst q
    exact absurd c Int64.lt_irrefl
  · rw [if_neg c]
    by_cases d : x = y
    · rw [if_pos d]; exact ⟨fun _ => d, fun _ => rfl⟩
    · rw [if_neg d]; exact ⟨fun q => absurd q (by decide), fun q => absurd q d⟩
theorem Lc_eq {x y : Int64} : f_Long_cmp x y = 0 ↔ x = y := by
  rw [← lg_eq]
  unfold f_Long_cmp
  by_cases c : 0 ≤ lg_cmp x y
  · rw [if_pos c]
    by_cases d : lg_cmp x y = 0
    · rw [if_pos d]; exact ⟨fun _ => d, fun _ => rfl⟩
    · rw [if_neg d]; exact ⟨fun q => absurd q (by decide), fun q => absurd q d⟩
  · rw [if_neg c]
    refine ⟨fun q => absurd q (by decide), fun q => ?_⟩
    rw [q] at c
    exact absurd (by decide) c
def a6 (t : P6) (k : Nat) : Int64 := f_P_at t.1 t.2.1 t.2.2.1 t.2.2.2.1 t.2.2.2.2.1 t.2.2.2.2.2 (nI k)
def Eq6 (t u : P6) : Prop := t.1 = u.1 ∧ t.2.1 = u.2.1 ∧ t.2.2.1 = u.2.2.1 ∧ t.2.2.2.1 = u.2.2.2.1 ∧ t.2.2.2.2.1 = u.2.2.2.2.1 ∧ t.2.2.2.2.2 = u.2.2.2.2.2
theorem ord_step {t u : P6} {n k : Nat} (hk : k < 6) : lp_P_order_2 t.1 t.2.1 t.2.2.1 t.2.2.2.1 t.2.2.2.2.1 t.2.2.2.2.2 u.1 u.2.1 u.2.2.1 u.2.2.2.1 u.2.2.2.2.1 u.2.2.2.2.2 (n + 1) (nI k) =
    if a6 t k = a6 u k then lp_P_order_2 t.1 t.2.1 t.2.2.1 t.2.2.2.1 t.2.2.2.2.1 t.2.2.2.2.2 u.1 u.2.1 u.2.2.1 u.2.2.2.1 u.2.2.2.2.1 u.2.2.2.2.2 n (nI (k + 1)) else some (f_Long_cmp (a6 t k) (a6 u k)) := by
  rw [lp_P_order_2, if_neg (six_le hk), nI_1]
  show (if f_Long_cmp (a6 t k) (a6 u k) = 0 then _ else some (f_Long_cmp (a6 t k) (a6 u k))) = _
  by_cases e : a6 t k = a6 u k
  · rw [if_pos e, if_pos (Lc_eq.mpr e)]
  · rw [if_neg e, if_neg (fun q => e (Lc_eq.mp q))]
theorem order_s (t u : P6) : ∃ r, f_P_order t.1 t.2.1 t.2.2.1 t.2.2.2.1 t.2.2.2.2.1 t.2.2.2.2.2 u.1 u.2.1 u.2.2.1 u.2.2.2.1 u.2.2.2.2.1 u.2.2.2.2.2 = some r ∧ (r = 0 ↔ Eq6 t u) := by
  unfold f_P_order
  rw [show (0 : Int32) = nI 0 from rfl]
  have h0 : a6 t 0 = t.1 ∧ a6 u 0 = u.1 := ⟨rfl, rfl⟩
  have e1 : ∀ t : P6, a6 t 1 = t.2.1 := fun t => by unfold a6 f_P_at; rw [if_neg (show ¬ nI 1 = (0 : Int32) by decide), if_pos (show nI 1 = (1 : Int32) by decide)]
  have e2 : ∀ t : P6, a6 t 2 = t.2.2.1 := fun t => by unfold a6 f_P_at; rw [if_neg (show ¬ nI 2 = (0 : Int32) by decide), if_neg (show ¬ nI 2 = (1 : Int32) by decide), if_pos (show nI 2 = (2 : Int32) by decide)]
  have e3 : ∀ t : P6, a6 t 3 = t.2.2.2.1 := fun t => by unfold a6 f_P_at; rw [if_neg (show ¬ nI 3 = (0 : Int32) by decide), if_neg (show ¬ nI 3 = (1 : Int32) by decide), if_neg (show ¬ nI 3 = (2 : Int32) by decide), if_pos (show nI 3 = (3 : Int32) by decide)]
  have e4 : ∀ t : P6, a6 t 4 = t.2.2.2.2.1 := fun t => by unfold a6 f_P_at; rw [if_neg (show ¬ nI 4 = (0 : Int32) by decide), if_neg (show ¬ nI 4 = (1 : Int32) by decide), if_neg (show ¬ nI 4 = (2 : Int32) by decide), if_neg (show ¬ nI 4 = (3 : Int32) by decide), if_pos (show nI 4 = (4 : Int32) by decide)]
  have e5 : ∀ t : P6, a6 t 5 = t.2.2.2.2.2 := fun t => by unfold a6 f_P_at; rw [if_neg (show ¬ nI 5 = (0 : Int32) by decide), if_neg (show ¬ nI 5 = (1 : Int32) by decide), if_neg (show ¬ nI 5 = (2 : Int32) by decide), if_neg (show ¬ nI 5 = (3 : Int32) by decide), if_neg (show ¬ nI 5 = (4 : Int32) by decide), if_pos (show nI 5 = (5 : Int32) by decide)]
  have ne : ∀ k, a6 t k ≠ a6 u k → ¬ Eq6 t u → ∃ r, some (f_Long_cmp (a6 t k) (a6 u k)) = some r ∧ (r = 0 ↔ Eq6 t u) := fun k hk hn => ⟨_, rfl, ⟨fun q => absurd (Lc_eq.mp q) hk, fun q => absurd q hn⟩⟩
  rw [ord_step (by decide)]
  by_cases k0 : a6 t 0 = a6 u 0
  rotate_left
  · rw [if_neg k0]; exact ne 0 k0 (fun q => k0 (by rw [h0.1, h0.2]; exact q.1))
  rw [if_pos k0, ord_step (by decide)]
  by_cases k1 : a6 t 1 = a6 u 1
  rotate_left
  · rw [if_neg k1]; exact ne 1 k1 (fun q => k1 (by rw [e1, e1]; exact q.2.1))
  rw [if_pos k1, ord_step (by decide)]
  by_cases k2 : a6 t 2 = a6 u 2
  rotate_left
  · rw [if_neg k2]; exact ne 2 k2 (fun q => k2 (by rw [e2, e2]; exact q.2.2.1))
  rw [if_pos k2, ord_step (by decide)]
  by_cases k3 : a6 t 3 = a6 u 3
  rotate_left
  · rw [if_neg k3]; exact ne 3 k3 (fun q => k3 (by rw [e3, e3]; exact q.2.2.2.1))
  rw [if_pos k3, ord_step (by decide)]
  by_cases k4 : a6 t 4 = a6 u 4
  rotate_left
  · rw [if_neg k4]; exact ne 4 k4 (fun q => k4 (by rw [e4, e4]; exact q.2.2.2.2.1))
  rw [if_pos k4, ord_step (by decide)]
  by_cases k5 : a6 t 5 = a6 u 5
  rotate_left
  · rw [if_neg k5]; exact ne 5 k5 (fun q => k5 (by rw [e5, e5]; exact q.2.2.2.2.2))
  rw [if_pos k5, lp_P_order_2, if_pos (show (6 : Int32) ≤ nI 6 by decide)]
  rw [h0.1, h0.2] at k0
  rw [e1, e1] at k1
  rw [e2, e2] at k2
  rw [e3, e3] at k3
  rw [e4, e4] at k4
  rw [e5, e5] at k5
  exact ⟨_, rfl, ⟨fun _ => ⟨k0, k1, k2, k3, k4, k5⟩, fun _ => rfl⟩⟩
theorem as_step {al : Nat → Int64} {i j n k : Nat} (hi : i < 40) (hj : j < 40) (hk : k < 6) : lp_M_areSame_2 al (nI i) (nI j) (n + 1) (nI k) = if al (6 * i + k) = al (6 * j + k) then lp_M_areSame_2 al (nI i) (nI j) n (nI (k + 1)) else some 0 := by
  rw [lp_M_areSame_2, if_neg (six_le hk), nI_1, nI_6, nI_6, nI_add, nI_add, if_pos (inb_nI (by omega) (by omega)), if_pos (inb_nI (by omega) (by omega)), cl6 (by omega), cl6 (by omega)]
  by_cases e : al (6 * i + k) = al (6 * j + k)
  · rw [if_pos e, if_pos (lg_eq.mpr e)]
  · rw [if_neg e, if_neg (fun q => e (lg_eq.mp q))]
theorem areSame_s {al : Nat → Int64} {i j : Nat} {t u : P6} (hi : i < 40) (hj : j < 40) (h1 : row6 al i t) (h2 : row6 al j u) : ∃ r, f_M_areSame al (nI i) (nI j) = some r ∧ (r = 0 ↔ ¬ Eq6 t u) := by
  unfold f_M_areSame
  rw [show (0 : Int32) = nI 0 from rfl]
  obtain ⟨p0, p1, p2, p3, p4, p5⟩ := h1
  obtain ⟨q0, q1, q2, q3, q4, q5⟩ := h2
  have no : ¬ Eq6 t u → ∃ r, some (0 : Int32) = some r ∧ (r = 0 ↔ ¬ Eq6 t u) := fun hn => ⟨_, rfl, ⟨fun _ => hn, fun _ => rfl⟩⟩
  rw [as_step hi hj (by decide), Nat.add_zero, Nat.add_zero, p0, q0]
  by_cases k0 : t.1 = u.1
  rotate_left
  · rw [if_neg k0]; exact no (fun q => k0 q.1)
  rw [if_pos k0, as_step hi hj (by decide), p1, q1]
  by_cases k1 : t.2.1 = u.2.1
  rotate_left
  · rw [if_neg k1]; exact no (fun q => k1 q.2.1)
  rw [if_pos k1, as_step hi hj (by decide), p2, q2]
  by_cases k2 : t.2.2.1 = u.2.2.1
  rotate_left
  · rw [if_neg k2]; exact no (fun q => k2 q.2.2.1)
  rw [if_pos k2, as_step hi hj (by decide), p3, q3]
  by_cases k3 : t.2.2.2.1 = u.2.2.2.1
  rotate_left
  · rw [if_neg k3]; exact no (fun q => k3 q.2.2.2.1)
  rw [if_pos k3, as_step hi hj (by decide), p4, q4]
  by_cases k4 : t.2.2.2.2.1 = u.2.2.2.2.1
  rotate_left
  · rw [if_neg k4]; exact no (fun q => k4 q.2.2.2.2.1)
  rw [if_pos k4, as_step hi hj (by decide), p5, q5]
  by_cases k5 : t.2.2.2.2.2 = u.2.2.2.2.2
  rotate_left
  · rw [if_neg k5]; exact no (fun q => k5 q.2.2.2.2.2)
  rw [if_pos k5, lp_M_areSame_2, if_pos (show (6 : Int32) ≤ nI 6 by decide)]
  exact ⟨_, rfl, ⟨fun q => absurd q (by decide), fun q => absurd ⟨k0, k1, k2, k3, k4, k5⟩ q⟩⟩
section SM
variable {kn : Nat} {td lw : Nat → P6} {sy sh : Nat → Int32} {ac al : Nat → Int64} {ay as_ : Nat → Int32}
theorem same_lp (hk : kn ≤ 40) (h : CR kn td lw sy sh ac al ay as_) {c : Nat} (hc : c < kn) : ∀ (m k : Nat) (f g : Nat), k + m = c → m < f → m < g → ∃ r, lp_B_same_14 td lw sy sh kn (nI c) f (nI k) = some r ∧ lp_M_same_12 (nI kn) al (nI c) g (nI k) = some r := by
  intro m
  induction m with
  | zero =>
    intro k f g e hf hg
    obtain ⟨f, rfl⟩ : ∃ f', f = f' + 1 := ⟨f - 1, by omega⟩
    obtain ⟨g, rfl⟩ : ∃ g', g = g' + 1 := ⟨g - 1, by omega⟩
    have ek : k = c := by omega
    subst ek
    obtain ⟨r, er, hr⟩ := areSame_s (by omega) (by omega) (h k hc).1.2 (h k hc).1.2
    rw [lp_B_same_14, if_pos (nI_le (Nat.le_refl k) (by omega)), lp_M_same_12, er, Option.bind_some, if_neg (fun q => hr.mp q ⟨rfl, rfl, rfl, rfl, rfl, rfl⟩)]
    exact ⟨_, rfl, rfl⟩
  | succ m ih =>
    intro k f g e hf hg
    obtain ⟨f, rfl⟩ : ∃ f', f = f' + 1 := ⟨f - 1, by omega⟩
    obtain ⟨g, rfl⟩ : ∃ g', g = g' + 1 := ⟨g - 1, by omega⟩
    have hkk : k < kn := by omega
    obtain ⟨r, er, hr⟩ := areSame_s (by omega) (by omega) (h k hkk).1.2 (h c hc).1.2
    obtain ⟨o, eo, ho⟩ := order_s (lw k) (lw c)
    have c1 : (nI k).toNatClampNeg = k := nI_clamp (by omega)
    have c2 : (nI c).toNatClampNeg = c := nI_clamp (by omega)
    rw [lp_B_same_14, if_neg (nI_ge (by omega) (by omega)), if_pos (inb_nI (by omega) hkk), c1, c2, eo, Option.bind_some, lp_M_same_12, er, Option.bind_some, nI_1]
    by_cases q : Eq6 (lw k) (lw c)
    · rw [if_pos (ho.mpr q), if_neg (fun z => hr.mp z q)]
      exact ⟨_, rfl, rfl⟩
    · rw [if_neg (fun z => q (ho.mp z)), if_pos (hr.mpr q)]
      exact ih (k + 1) f g (by omega) (by omega) (by omega)
theorem same_s (hk : kn ≤ 40) (h : CR kn td lw sy sh ac al ay as_) (cl : Int32) : ∃ r, f_B_same td lw sy sh kn cl = some r ∧ f_M_same (nI kn) al cl = some r := by
  unfold f_B_same f_M_same
  by_cases hb : inb cl kn = true
  · rw [if_pos hb, isCell_in hk hb, if_neg (show ¬ (1 : Int32) = 0 by decide)]
    obtain ⟨i, hi, rfl⟩ := inb_of hb
    exact same_lp hk h hi i 0 50 50 (by omega) (by omega) (by omega)
  · rw [if_neg hb, isCell_out hk hb, if_pos rfl]
    exact ⟨_, rfl, rfl⟩
theorem zero_add' (w : Int32) : w + (0 : Int32) = w := Int32.add_zero w
theorem sho_41 (hk : kn ≤ 40) (h : CR kn td lw sy sh ac al ay as_) {c : Nat} (hc : c < kn) (ra : Int64) : ∀ (n : Nat) (wi lx ly lz : Int32), lp_B_shorter_41 td lw sy sh kn (nI c) ra n wi lx ly lz = lp_M_shorter_37 (nI kn) ac (nI c) ra n wi lx ly lz := by
  intro n
  induction n with
  | zero => intros; rfl
  | succ n ih =>
    intro wi lx ly lz
    have c2 : (nI c).toNatClampNeg = c := nI_clamp (by omega)
    rw [lp_B_shorter_41, lp_M_shorter_37, c2, nI_6, dot_s (by omega) (h c hc).1.1]
    simp only [Option.bind_some, zero_add', ih, if_neg (show ¬ (1 : Int32) = 0 by decide), if_true]
theorem sho_31 (hk : kn ≤ 40) (h : CR kn td lw sy sh ac al ay as_) {c : Nat} (hc : c < kn) (ra : Int64) : ∀ (n : Nat) (wi lx ly : Int32), lp_B_shorter_31 td lw sy sh kn (nI c) ra n wi lx ly = lp_M_shorter_27 (nI kn) ac (nI c) ra n wi lx ly := by
  intro n
  induction n with
  | zero => intros; rfl
  | succ n ih =>
    intro wi lx ly
    rw [lp_B_shorter_31, lp_M_shorter_27, sho_41 hk h hc]
    simp only [ih]
theorem sho_21 (hk : kn ≤ 40) (h : CR kn td lw sy sh ac al ay as_) {c : Nat} (hc : c < kn) (ra : Int64) : ∀ (n : Nat) (wi lx : Int32), lp_B_shorter_21 td lw sy sh kn (nI c) ra n wi lx = lp_M_shorter_17 (nI kn) ac (nI c) ra n wi lx := by
  intro n
  induction n with
  | zero => intros; rfl
  | succ n ih =>
    intro wi lx
    rw [lp_B_shorter_21, lp_M_shorter_17, sho_31 hk h hc]
    simp only [ih]
theorem shorter_e (hk : kn ≤ 40) (h : CR kn td lw sy sh ac al ay as_) (cl : Int32) (ra : Int64) : f_B_shorter td lw sy sh kn cl ra = f_M_shorter (nI kn) ac cl ra := by
  unfold f_B_shorter f_M_shorter
  by_cases hb : inb cl kn = true
  · rw [if_pos hb, isCell_in hk hb, if_neg (show ¬ (1 : Int32) = 0 by decide)]
    obtain ⟨i, hi, rfl⟩ := inb_of hb
    exact sho_21 hk h hi ra 10 _ _
  · rw [if_neg hb, isCell_out hk hb, if_pos rfl]
end SM

