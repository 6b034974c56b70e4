-- the bench's cells: the array holds them by their numbers, each with its two sixes
def cfun (kn : Nat) (ca : Nat → Nat) : Nat → Option Nat := fun j => if j < kn then some (ca j) else none
theorem inb_lt {i : Int32} {n : Nat} (h : inb i n = true) : i.toNatClampNeg < n := by
  have h1 := of_decide_eq_true h
  show i.toInt.toNat < n
  omega
def p6 (t : P6) : List Value := [.long t.1, .long t.2.1, .long t.2.2.1, .long t.2.2.2.1, .long t.2.2.2.2.1, .long t.2.2.2.2.2]
def PoolIn (ws : va_W) (ca ta la : Nat → Nat) (td lw : Nat → P6) (sy sh : Nat → Int32) (kn : Nat) : Prop :=
  ∀ i, i < kn → (∃ k : Nat, ws[k]? = some (ca i, .inr (3, [.ref (ta i), .ref (la i), .int (sy i), .int (sh i)]))) ∧ (∃ k : Nat, ws[k]? = some (ta i, .inr (0, p6 (td i)))) ∧ (∃ k : Nat, ws[k]? = some (la i, .inr (0, p6 (lw i))))
theorem find_in {kn : Nat} {ca : Nat → Nat} {nb : Int32} (hk : kn ≤ 40) (hb : inb nb kn = true) : f_B_find (nI kn) (cfun kn ca) nb = some (some (ca nb.toNatClampNeg)) := by
  obtain ⟨h0, h1⟩ := of_decide_eq_true hb
  have e1 : ¬ nb < 0 := by
    rw [Int32.lt_iff_toInt_lt]
    show ¬ nb.toInt < 0
    omega
  have e2 : ¬ nI kn ≤ nb := by
    rw [Int32.le_iff_toInt_le, nI_toInt (by omega)]
    omega
  have e3 : nb < Int32.ofNat 40 := by
    rw [Int32.lt_iff_toInt_lt]
    show nb.toInt < 40
    omega
  have e4 : inb nb 40 = true := decide_eq_true ⟨h0, by omega⟩
  unfold f_B_find
  rw [if_neg e1, if_neg e2, if_pos e3, if_pos e4, cfun, if_pos (inb_lt hb)]
theorem find_out {kn : Nat} {ca : Nat → Nat} {nb : Int32} (hk : kn ≤ 40) (hb : ¬ inb nb kn = true) : f_B_find (nI kn) (cfun kn ca) nb = some none := by
  unfold f_B_find
  by_cases e1 : nb < 0
  · rw [if_pos e1]
  rw [if_neg e1]
  by_cases e2 : nI kn ≤ nb
  · rw [if_pos e2]
  · refine absurd (decide_eq_true ⟨?_, ?_⟩) hb
    · rw [Int32.lt_iff_toInt_lt] at e1
      have : ¬ nb.toInt < 0 := e1
      omega
    · rw [Int32.le_iff_toInt_le, nI_toInt (by omega)] at e2
      omega
theorem nb_of {x : Int32} (h : x = 0 ∨ x = 1) : narrow .boolean (.int x) = .int x := by
  rcases h with rfl | rfl <;> rfl
theorem kept01 (a b c d e f : Int64) (i j k : Int32) : f_P_kept a b c d e f i j k = 0 ∨ f_P_kept a b c d e f i j k = 1 := by
  unfold f_P_kept
  repeat' split
  all_goals first | exact Or.inl rfl | exact Or.inr rfl

theorem nI_room {kn : Nat} (hk : kn ≤ 40) (h : nI kn < Int32.ofNat 40) : kn + 1 ≤ 40 := (nI_ltI (a := kn) (b := 40) (by omega) (by decide)).mp h
theorem nI_next (kn : Nat) : nI kn + (1 : Int32) = nI (kn + 1) := nI_1 kn

