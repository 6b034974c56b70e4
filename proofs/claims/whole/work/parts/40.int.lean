-- longs by whole numbers
def zL (z : Int) : Int64 := Int64.ofInt z
def sm (z : Int) : Prop := -4611686018427387904 ≤ z ∧ z ≤ 4611686018427387904
theorem zL_add (a b : Int) : zL a + zL b = zL (a + b) := (Int64.ofInt_add a b).symm
theorem zL_sub (a b : Int) : zL a - zL b = zL (a - b) := (Int64.ofInt_sub a b).symm
theorem zL_mul (a b : Int) : zL a * zL b = zL (a * b) := (Int64.ofInt_mul a b).symm
theorem zL_neg (a : Int) : -zL a = zL (-a) := (Int64.ofInt_neg a).symm
theorem zL_0 : (0 : Int64) = zL 0 := rfl
theorem zL_2 : (2 : Int64) = zL 2 := rfl
theorem zL_1 : ((1 : Int32).toInt64) = zL 1 := by decide
theorem zL_m1 : ((-1 : Int32).toInt64) = zL (-1) := by decide
theorem zL_int {a : Int} (h : sm a) : (zL a).toInt = a := Int64.toInt_ofInt_of_le (by have := h.1; omega) (by have := h.2; omega)
theorem zL_lt {a b : Int} (ha : sm a) (hb : sm b) : zL a < zL b ↔ a < b := by rw [Int64.lt_iff_toInt_lt, zL_int ha, zL_int hb]
theorem zL_le {a b : Int} (ha : sm a) (hb : sm b) : zL a ≤ zL b ↔ a ≤ b := by rw [Int64.le_iff_toInt_le, zL_int ha, zL_int hb]
theorem zL_eq {a b : Int} (ha : sm a) (hb : sm b) : zL a = zL b ↔ a = b := ⟨fun h => by rw [← zL_int ha, h, zL_int hb], fun h => by rw [h]⟩
theorem zL_of (x : Int64) : zL x.toInt = x := Int64.ofInt_toInt x
def zabs (z : Int) : Int := if 0 < z then z else -z
theorem zL_abs {a : Int} (h : sm a) : (if 0 < zL a then zL a else -zL a) = zL (zabs a) := by
  unfold zabs
  by_cases c : 0 < a
  · rw [if_pos c, if_pos (show (0 : Int64) < zL a from (zL_lt (a := 0) ⟨by decide, by decide⟩ h).mpr c)]
  · rw [if_neg c, if_neg (show ¬ (0 : Int64) < zL a from fun q => c ((zL_lt (a := 0) ⟨by decide, by decide⟩ h).mp q)), zL_neg]
theorem lc_gt {a b : Int} (ha : sm a) (hb : sm b) : 0 < lg_cmp (zL a) (zL b) ↔ b < a := by
  unfold lg_cmp
  by_cases c : zL a > zL b
  · rw [if_pos c]
    exact ⟨fun _ => (zL_lt hb ha).mp c, fun _ => by decide⟩
  · rw [if_neg c]
    have c' : ¬ b < a := fun q => c ((zL_lt hb ha).mpr q)
    by_cases d : zL a = zL b
    · rw [if_pos d]
      exact ⟨fun q => absurd q (by decide), fun q => absurd q c'⟩
    · rw [if_neg d]
      exact ⟨fun q => absurd q (by decide), fun q => absurd q c'⟩
theorem lc_eq {a b : Int} (ha : sm a) (hb : sm b) : lg_cmp (zL a) (zL b) = 0 ↔ a = b := by
  unfold lg_cmp
  by_cases c : zL a > zL b
  · rw [if_pos c]
    have := (zL_lt hb ha).mp c
    exact ⟨fun q => absurd q (by decide), fun q => by omega⟩
  · rw [if_neg c]
    by_cases d : zL a = zL b
    · rw [if_pos d]
      exact ⟨fun _ => (zL_eq ha hb).mp d, fun _ => rfl⟩
    · rw [if_neg d]
      exact ⟨fun q => absurd q (by decide), fun q => absurd ((zL_eq ha hb).mpr q) d⟩
theorem lc_lt {a b : Int} (ha : sm a) (hb : sm b) : lg_cmp (zL a) (zL b) < 0 ↔ a < b := by
  unfold lg_cmp
  by_cases c : zL a > zL b
  · rw [if_pos c]
    have := (zL_lt hb ha).mp c
    exact ⟨fun q => absurd q (by decide), fun q => by omega⟩
  · rw [if_neg c]
    have c' : ¬ b < a := fun q => c ((zL_lt hb ha).mpr q)
    by_cases d : zL a = zL b
    · rw [if_pos d]
      have := (zL_eq ha hb).mp d
      exact ⟨fun q => absurd q (by decide), fun q => by omega⟩
    · rw [if_neg d]
      have d' : ¬ a = b := fun q => d ((zL_eq ha hb).mpr q)
      exact ⟨fun _ => by omega, fun _ => by decide⟩
theorem lc_le {a b : Int} (ha : sm a) (hb : sm b) : lg_cmp (zL a) (zL b) ≤ 0 ↔ a ≤ b := by
  unfold lg_cmp
  by_cases c : zL a > zL b
  · rw [if_pos c]
    have := (zL_lt hb ha).mp c
    exact ⟨fun q => absurd q (by decide), fun q => by omega⟩
  · rw [if_neg c]
    have c' : ¬ b < a := fun q => c ((zL_lt hb ha).mpr q)
    by_cases d : zL a = zL b
    · rw [if_pos d]
      exact ⟨fun _ => by omega, fun _ => by decide⟩
    · rw [if_neg d]
      exact ⟨fun _ => by omega, fun _ => by decide⟩
theorem lc_ge {a b : Int} (ha : sm a) (hb : sm b) : 0 ≤ lg_cmp (zL a) (zL b) ↔ b ≤ a := by
  unfold lg_cmp
  by_cases c : zL a > zL b
  · rw [if_pos c]
    have := (zL_lt hb ha).mp c
    exact ⟨fun _ => by omega, fun _ => by decide⟩
  · rw [if_neg c]
    have c' : ¬ b < a := fun q => c ((zL_lt hb ha).mpr q)
    by_cases d : zL a = zL b
    · rw [if_pos d]
      have := (zL_eq ha hb).mp d
      exact ⟨fun _ => by omega, fun _ => by decide⟩
    · rw [if_neg d]
      have d' : ¬ a = b := fun q => d ((zL_eq ha hb).mpr q)
      exact ⟨fun q => absurd q (by decide), fun q => by omega⟩
-- a form: a a, b b, c c, and twice b c, a c, a b
abbrev Z6 : Type := Int × Int × Int × Int × Int × Int
/-- small enough that nothing of a turn leaves the longs -/
def bd (M : Int) (q : Z6) : Prop := (-M ≤ q.1 ∧ q.1 ≤ M) ∧ (-M ≤ q.2.1 ∧ q.2.1 ≤ M) ∧ (-M ≤ q.2.2.1 ∧ q.2.2.1 ≤ M) ∧ (-M ≤ q.2.2.2.1 ∧ q.2.2.2.1 ≤ M) ∧ (-M ≤ q.2.2.2.2.1 ∧ q.2.2.2.2.1 ≤ M) ∧ (-M ≤ q.2.2.2.2.2 ∧ q.2.2.2.2.2 ≤ M)

