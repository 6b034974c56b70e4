-- the order of sixes
def lt6 (t u : P6) : Prop := t.1 < u.1 ∨ (t.1 = u.1 ∧ (t.2.1 < u.2.1 ∨ (t.2.1 = u.2.1 ∧ (t.2.2.1 < u.2.2.1 ∨ (t.2.2.1 = u.2.2.1 ∧ (t.2.2.2.1 < u.2.2.2.1 ∨ (t.2.2.2.1 = u.2.2.2.1 ∧ (t.2.2.2.2.1 < u.2.2.2.2.1 ∨ (t.2.2.2.2.1 = u.2.2.2.2.1 ∧ t.2.2.2.2.2 < u.2.2.2.2.2)))))))))
def lx (t u : P6) : Int32 := if t.1 = u.1 then (if t.2.1 = u.2.1 then (if t.2.2.1 = u.2.2.1 then (if t.2.2.2.1 = u.2.2.2.1 then (if t.2.2.2.2.1 = u.2.2.2.2.1 then f_Long_cmp t.2.2.2.2.2 u.2.2.2.2.2 else f_Long_cmp t.2.2.2.2.1 u.2.2.2.2.1) else f_Long_cmp t.2.2.2.1 u.2.2.2.1) else f_Long_cmp t.2.2.1 u.2.2.1) else f_Long_cmp t.2.1 u.2.1) else f_Long_cmp t.1 u.1
theorem Lc_lt {x y : Int64} : f_Long_cmp x y < 0 ↔ x < y := by
  unfold f_Long_cmp lg_cmp
  by_cases c : x > y
  · rw [if_pos c]
    refine ⟨fun q => absurd q (by decide), fun q => ?_⟩
    rw [GT.gt, Int64.lt_iff_toInt_lt] at c
    rw [Int64.lt_iff_toInt_lt] at q
    omega
  · rw [if_neg c]
    by_cases d : x = y
    · subst d
      rw [if_pos rfl]
      exact ⟨fun q => absurd q (by decide), fun q => absurd q Int64.lt_irrefl⟩
    · rw [if_neg d]
      refine ⟨fun _ => ?_, fun _ => by decide⟩
      rw [GT.gt, Int64.lt_iff_toInt_lt] at c
      rw [Int64.lt_iff_toInt_lt]
      have : x.toInt ≠ y.toInt := fun q => d (Int64.toInt_inj.mp q)
      omega
theorem lt_ne {x y : Int64} (h : x < y) : x ≠ y := fun e => by subst e; exact Int64.lt_irrefl h
theorem Eq6_iff {t u : P6} : Eq6 t u ↔ t = u := by
  constructor
  · rintro ⟨h1, h2, h3, h4, h5, h6⟩
    exact Prod.ext h1 (Prod.ext h2 (Prod.ext h3 (Prod.ext h4 (Prod.ext h5 h6))))
  · rintro rfl
    exact ⟨rfl, rfl, rfl, rfl, rfl, rfl⟩
theorem lx_lt {t u : P6} : lx t u < 0 ↔ lt6 t u := by
  unfold lx lt6
  by_cases c1 : t.1 = u.1
  · rw [if_pos c1]
    by_cases c2 : t.2.1 = u.2.1
    · rw [if_pos c2]
      by_cases c3 : t.2.2.1 = u.2.2.1
      · rw [if_pos c3]
        by_cases c4 : t.2.2.2.1 = u.2.2.2.1
        · rw [if_pos c4]
          by_cases c5 : t.2.2.2.2.1 = u.2.2.2.2.1
          · rw [if_pos c5, Lc_lt]
            exact ⟨fun q => Or.inr ⟨c1, Or.inr ⟨c2, Or.inr ⟨c3, Or.inr ⟨c4, Or.inr ⟨c5, q⟩⟩⟩⟩⟩, fun q => ((((q.resolve_left (fun z => lt_ne z c1)).2.resolve_left (fun z => lt_ne z c2)).2.resolve_left (fun z => lt_ne z c3)).2.resolve_left (fun z => lt_ne z c4)).2.resolve_left (fun z => lt_ne z c5) |>.2⟩
          · rw [if_neg c5, Lc_lt]
            exact ⟨fun q => Or.inr ⟨c1, Or.inr ⟨c2, Or.inr ⟨c3, Or.inr ⟨c4, Or.inl q⟩⟩⟩⟩, fun q => ((((q.resolve_left (fun z => lt_ne z c1)).2.resolve_left (fun z => lt_ne z c2)).2.resolve_left (fun z => lt_ne z c3)).2.resolve_left (fun z => lt_ne z c4)).2.resolve_right (fun z => c5 z.1)⟩
        · rw [if_neg c4, Lc_lt]
          exact ⟨fun q => Or.inr ⟨c1, Or.inr ⟨c2, Or.inr ⟨c3, Or.inl q⟩⟩⟩, fun q => (((q.resolve_left (fun z => lt_ne z c1)).2.resolve_left (fun z => lt_ne z c2)).2.resolve_left (fun z => lt_ne z c3)).2.resolve_right (fun z => c4 z.1)⟩
      · rw [if_neg c3, Lc_lt]
        exact ⟨fun q => Or.inr ⟨c1, Or.inr ⟨c2, Or.inl q⟩⟩, fun q => ((q.resolve_left (fun z => lt_ne z c1)).2.resolve_left (fun z => lt_ne z c2)).2.resolve_right (fun z => c3 z.1)⟩
    · rw [if_neg c2, Lc_lt]
      exact ⟨fun q => Or.inr ⟨c1, Or.inl q⟩, fun q => (q.resolve_left (fun z => lt_ne z c1)).2.resolve_right (fun z => c2 z.1)⟩
  · rw [if_neg c1, Lc_lt]
    exact ⟨fun q => Or.inl q, fun q => q.resolve_right (fun z => c1 z.1)⟩
theorem lx_eq {t u : P6} : lx t u = 0 ↔ t = u := by
  rw [← Eq6_iff]
  unfold lx Eq6
  by_cases c1 : t.1 = u.1
  · rw [if_pos c1]
    by_cases c2 : t.2.1 = u.2.1
    · rw [if_pos c2]
      by_cases c3 : t.2.2.1 = u.2.2.1
      · rw [if_pos c3]
        by_cases c4 : t.2.2.2.1 = u.2.2.2.1
        · rw [if_pos c4]
          by_cases c5 : t.2.2.2.2.1 = u.2.2.2.2.1
          · rw [if_pos c5, Lc_eq]
            exact ⟨fun q => ⟨c1, c2, c3, c4, c5, q⟩, fun q => q.2.2.2.2.2⟩
          · rw [if_neg c5, Lc_eq]
            exact ⟨fun q => absurd q c5, fun q => q.2.2.2.2.1⟩
        · rw [if_neg c4, Lc_eq]
          exact ⟨fun q => absurd q c4, fun q => q.2.2.2.1⟩
      · rw [if_neg c3, Lc_eq]
        exact ⟨fun q => absurd q c3, fun q => q.2.2.1⟩
    · rw [if_neg c2, Lc_eq]
      exact ⟨fun q => absurd q c2, fun q => q.2.1⟩
  · rw [if_neg c1, Lc_eq]
    exact ⟨fun q => absurd q c1, fun q => q.1⟩
theorem l64 {x y : Int64} : x < y ↔ x.toInt < y.toInt := Int64.lt_iff_toInt_lt
theorem e64 {x y : Int64} : x = y ↔ x.toInt = y.toInt := Int64.toInt_inj.symm
theorem lt6_tr {t u v : P6} (h1 : lt6 t u) (h2 : lt6 u v) : lt6 t v := by
  unfold lt6 at *
  simp only [l64, e64] at *
  omega
theorem lt6_ir {t : P6} : ¬ lt6 t t := by
  unfold lt6
  simp only [l64]
  omega
theorem lt6_tri (t u : P6) : lt6 t u ∨ t = u ∨ lt6 u t := by
  rw [← Eq6_iff]
  unfold lt6 Eq6
  simp only [l64, e64]
  omega
-- a sorted list of sixes, each with how often it comes
def ins : List (P6 × Nat) → P6 → List (P6 × Nat)
  | [], K => [(K, 1)]
  | p :: L, K => if lx p.1 K < 0 then p :: ins L K else if lx p.1 K = 0 then (p.1, p.2 + 1) :: L else (K, 1) :: p :: L
def srt (L : List (P6 × Nat)) : Prop := L.Pairwise (fun p q => lt6 p.1 q.1)
theorem ins_mem {K : P6} : ∀ {L : List (P6 × Nat)} {p : P6 × Nat}, p ∈ ins L K → p.1 = K ∨ ∃ q ∈ L, q.1 = p.1 := by
  intro L
  induction L with
  | nil => intro p h; rw [ins, List.mem_singleton] at h; exact Or.inl (by rw [h])
  | cons a L ih =>
    intro p h
    rw [ins] at h
    by_cases c1 : lx a.1 K < 0
    · rw [if_pos c1] at h
      rcases List.mem_cons.mp h with h | h
      · exact Or.inr ⟨a, List.mem_cons_self, by rw [h]⟩
      · rcases ih h with h | ⟨q, hq, e⟩
        · exact Or.inl h
        · exact Or.inr ⟨q, List.mem_cons_of_mem _ hq, e⟩
    · rw [if_neg c1] at h
      by_cases c2 : lx a.1 K = 0
      · rw [if_pos c2] at h
        rcases List.mem_cons.mp h with h | h
        · exact Or.inr ⟨a, List.mem_cons_self, by rw [h]⟩
        · exact Or.inr ⟨p, List.mem_cons_of_mem _ h, rfl⟩
      · rw [if_neg c2] at h
        rcases List.mem_cons.mp h with h | h
        · exact Or.inl (by rw [h])
        · exact Or.inr ⟨p, h, rfl⟩
theorem ins_srt {K : P6} : ∀ {L : List (P6 × Nat)}, srt L → srt (ins L K) := by
  intro L
  induction L with
  | nil => intro _; exact List.pairwise_singleton _ _
  | cons a L ih =>
    intro h
    have h' := List.pairwise_cons.mp h
    rw [ins]
    by_cases c1 : lx a.1 K < 0
    · rw [if_pos c1]
      refine List.pairwise_cons.mpr ⟨fun p hp => ?_, ih h'.2⟩
      rcases ins_mem hp with e | ⟨q, hq, e⟩
      · rw [e]; exact lx_lt.mp c1
      · rw [← e]; exact h'.1 q hq
    · rw [if_neg c1]
      by_cases c2 : lx a.1 K = 0
      · rw [if_pos c2]
        exact List.pairwise_cons.mpr ⟨fun p hp => h'.1 p hp, h'.2⟩
      · rw [if_neg c2]
        have hK : lt6 K a.1 := by
          rcases lt6_tri a.1 K with e | e | e
          · exact absurd (lx_lt.mpr e) c1
          · exact absurd (lx_eq.mpr e) c2
          · exact e
        refine List.pairwise_cons.mpr ⟨fun p hp => ?_, h⟩
        rcases List.mem_cons.mp hp with e | e
        · rw [e]; exact hK
        · exact lt6_tr hK (h'.1 p e)
theorem ins_len {K : P6} : ∀ {L : List (P6 × Nat)}, (ins L K).length ≤ L.length + 1 := by
  intro L
  induction L with
  | nil => exact Nat.le_refl _
  | cons a L ih =>
    rw [ins]
    by_cases c1 : lx a.1 K < 0
    · rw [if_pos c1, List.length_cons, List.length_cons]; omega
    · rw [if_neg c1]
      by_cases c2 : lx a.1 K = 0
      · rw [if_pos c2, List.length_cons, List.length_cons]; omega
      · rw [if_neg c2, List.length_cons, List.length_cons]; exact Nat.le_refl _
/-- two inserts in either order -/
theorem ins_comm {K M : P6} : ∀ {L : List (P6 × Nat)}, ins (ins L K) M = ins (ins L M) K := by
  have ne : ∀ {s t : P6}, lt6 s t → ¬ lx t s < 0 ∧ ¬ lx t s = 0 := fun {s t} h => ⟨fun q => lt6_ir (lt6_tr h (lx_lt.mp q)), fun q => by rw [lx_eq.mp q] at h; exact lt6_ir h⟩
  have n0 : ∀ {s : P6}, ¬ lx s s < 0 := fun {s} q => lt6_ir (lx_lt.mp q)
  have e0 : ∀ {s : P6}, lx s s = 0 := fun {s} => lx_eq.mpr rfl
  intro L
  induction L with
  | nil =>
    rcases lt6_tri K M with h | h | h
    · simp only [ins, if_pos (lx_lt.mpr h), if_neg (ne h).1, if_neg (ne h).2]
    · subst h; rfl
    · simp only [ins, if_pos (lx_lt.mpr h), if_neg (ne h).1, if_neg (ne h).2]
  | cons a L ih =>
    rcases lt6_tri a.1 K with hK | hK | hK
    · rcases lt6_tri a.1 M with hM | hM | hM
      · simp only [ins, if_pos (lx_lt.mpr hK), if_pos (lx_lt.mpr hM), ih]
      · subst hM; simp only [ins, if_pos (lx_lt.mpr hK), if_neg n0, if_pos e0]
      · have hMK := lt6_tr hM hK
        simp only [ins, if_pos (lx_lt.mpr hK), if_neg (ne hM).1, if_neg (ne hM).2, if_pos (lx_lt.mpr hMK)]
    · subst hK
      rcases lt6_tri a.1 M with hM | hM | hM
      · simp only [ins, if_pos (lx_lt.mpr hM), if_neg n0, if_pos e0]
      · subst hM; rfl
      · simp only [ins, if_neg (ne hM).1, if_neg (ne hM).2, if_neg n0, if_pos e0, if_pos (lx_lt.mpr hM)]
    · rcases lt6_tri a.1 M with hM | hM | hM
      · have hKM := lt6_tr hK hM
        simp only [ins, if_pos (lx_lt.mpr hM), if_neg (ne hK).1, if_neg (ne hK).2, if_pos (lx_lt.mpr hKM)]
      · subst hM; simp only [ins, if_neg (ne hK).1, if_neg (ne hK).2, if_neg n0, if_pos e0, if_pos (lx_lt.mpr hK)]
      · rcases lt6_tri K M with h | h | h
        · simp only [ins, if_neg (ne hK).1, if_neg (ne hK).2, if_neg (ne hM).1, if_neg (ne hM).2, if_pos (lx_lt.mpr h), if_neg (ne h).1, if_neg (ne h).2]
        · subst h; rfl
        · simp only [ins, if_neg (ne hK).1, if_neg (ne hK).2, if_neg (ne hM).1, if_neg (ne hM).2, if_pos (lx_lt.mpr h), if_neg (ne h).1, if_neg (ne h).2]
theorem ins_perm {l1 l2 : List P6} (h : List.Perm l1 l2) : ∀ L : List (P6 × Nat), l1.foldl ins L = l2.foldl ins L := by
  induction h with
  | nil => intro L; rfl
  | cons x _ ih => intro L; exact ih _
  | swap x y l => intro L; show List.foldl ins (ins (ins L y) x) l = List.foldl ins (ins (ins L x) y) l; rw [ins_comm]
  | trans _ _ ih1 ih2 => intro L; rw [ih1, ih2]

