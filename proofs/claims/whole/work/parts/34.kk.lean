/-- what the tables know at the start -/
theorem kk_start {args : Array Value} {s : State} (hts : ∀ w ∈ lw_tbl, w.before args s = true) : ∃ (D : va_G) (ct : CT), KK D ct s := by
  have htg : ∀ w ∈ GW, w.before args s = true := fun w hw => hts w (List.mem_filter.mp hw).1
  obtain ⟨c0, s0, k0⟩ := u_known (n := 6) htg i_Products (htg _ tm_128)
  obtain ⟨c1, s1, k1⟩ := u_known (n := 7) htg i_Reducer (htg _ tm_51)
  obtain ⟨c2, s2, k2⟩ := u_known (n := 5) htg i_Table (htg _ tm_79)
  obtain ⟨c3, s3, k3⟩ := u_known (n := 4) htg i_Cell (htg _ tm_224)
  obtain ⟨c4, s4, k4⟩ := u_known (n := 5) htg i_Bench (htg _ tm_41)
  obtain ⟨c5, s5, k5⟩ := u_known (n := 14) htg i_Model (htg _ tm_393)
  obtain ⟨cJ, kJ, pJ, a1, a2, a3⟩ := Cond.arrayClass_spec (htg _ tm_100)
  obtain ⟨cI, kI, pI, d1, d2, d3⟩ := Cond.arrayClass_spec (htg _ tm_441)
  have hov : (Cond.arrayOver (.object R_Cell)).before args s = true := hts _ (List.mem_of_getElem? (i := 49) rfl)
  obtain ⟨comp, cQ, kQ, b1, b2, b3, b4, b5⟩ := Cond.arrayOver_spec hov
  refine ⟨(fun c => match c with | 0 => c0 | 1 => c1 | 2 => c2 | 3 => c3 | 4 => c4 | _ => c5, fun c => match c with | 0 => s0 | 1 => s1 | 2 => s2 | 3 => s3 | 4 => s4 | _ => s5), (cJ, cQ, cI), ⟨fun c q h => ?_, fun k q h => ?_⟩, ?_, va_AO.of hov⟩
  · match c, h with
    | 0, h =>
      have h9 := Option.some.inj (show some ((R_Products, F_Products, 6) : vw_C) = some q from h)
      subst h9
      exact k0
    | 1, h =>
      have h9 := Option.some.inj (show some ((R_Reducer, F_Reducer, 7) : vw_C) = some q from h)
      subst h9
      exact k1
    | 2, h =>
      have h9 := Option.some.inj (show some ((R_Table, F_Table, 5) : vw_C) = some q from h)
      subst h9
      exact k2
    | 3, h =>
      have h9 := Option.some.inj (show some ((R_Cell, F_Cell, 4) : vw_C) = some q from h)
      subst h9
      exact k3
    | 4, h =>
      have h9 := Option.some.inj (show some ((R_Bench, F_Bench, 5) : vw_C) = some q from h)
      subst h9
      exact k4
    | 5, h =>
      have h9 := Option.some.inj (show some ((R_Model, F_Model, 14) : vw_C) = some q from h)
      subst h9
      exact k5
    | n + 6, h => exact absurd (List.getElem?_eq_some_iff.mp h).1 (by show ¬ (n + 6 < 6); omega)
  · match k, h with
    | 0, h =>
      have h9 := Option.some.inj (show some ((cJ, .long) : ClassId × FieldType) = some q from h)
      subst h9
      exact ⟨fun N z => ⟨fun k h => (by cases h), kJ, a2, pJ, a3⟩, a1⟩
    | 1, h =>
      have h9 := Option.some.inj (show some ((cQ, .object R_Cell) : ClassId × FieldType) = some q from h)
      subst h9
      exact ⟨fun N z => ⟨fun k h => (by cases h), kQ, b3, comp, b4⟩, kQ, comp, b3, b4, b1, b5⟩
    | 2, h =>
      have h9 := Option.some.inj (show some ((cI, .int) : ClassId × FieldType) = some q from h)
      subst h9
      exact ⟨fun N z => ⟨fun k h => (by cases h), kI, d2, pI, d3⟩, d1⟩
    | n + 3, h => exact absurd (List.getElem?_eq_some_iff.mp h).1 (by show ¬ (n + 3 < 3); omega)
  · intro w hw
    refine va_Nw.of (nws_on w hw) (A := args) ?_
    simp only [nws, List.mem_cons, List.not_mem_nil, or_false] at hw
    rcases hw with rfl | rfl | rfl | rfl | rfl | rfl
    · exact hts _ (List.mem_of_getElem? (i := 134) rfl)
    · exact hts _ (List.mem_of_getElem? (i := 136) rfl)
    · exact hts _ (List.mem_of_getElem? (i := 138) rfl)
    · exact hts _ (List.mem_of_getElem? (i := 140) rfl)
    · exact hts _ (List.mem_of_getElem? (i := 142) rfl)
    · exact hts _ (List.mem_of_getElem? (i := 144) rfl)
theorem cfun0 {ca : Nat → Nat} : cfun 0 ca = fun _ => none := funext fun j => by
  unfold cfun
  rw [if_neg (Nat.not_lt_zero j)]
