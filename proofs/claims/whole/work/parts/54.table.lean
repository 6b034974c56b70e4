-- the program's table: rows of seven, sorted
def row7 (ro : Nat → Int64) (i : Nat) (p : P6 × Nat) : Prop := (∀ k, k < 6 → ro (i * 7 + k) = a6 p.1 k) ∧ ro (i * 7 + 6) = zL p.2
def TR (ro : Nat → Int64) (sz : Int32) (L : List (P6 × Nat)) : Prop := sz = nI L.length ∧ L.length ≤ 455 ∧ ∀ i p, L[i]? = some p → row7 ro i p
theorem nI_7 (i : Nat) : nI i * (7 : Int32) = nI (i * 7) := nI_mul i 7
theorem nI_p6 (a : Nat) : nI a + (6 : Int32) = nI (a + 6) := nI_add a 6
theorem nI_p7 (a : Nat) : nI a + (7 : Int32) = nI (a + 7) := nI_add a 7
theorem T_at_s {ro : Nat → Int64} {len i k : Nat} (hl : len ≤ 455) (hi : i < len) (hk : k < 7) : f_T_at (nI len) ro (nI i) (nI k) = some (ro (i * 7 + k)) := by
  unfold f_T_at
  rw [if_neg (nI_pos (by omega)), if_neg (nI_ge hi (by omega)), if_neg (show ¬ (455 : Int32) ≤ nI i from nI_ge (a := i) (b := 455) (by omega) (by decide)), if_neg (nI_pos (by omega)), if_pos (show nI k < (7 : Int32) from nI_lt (a := k) (b := 7) hk (by decide)), nI_7, nI_add, if_pos (inb_nI (by omega) (by omega)), nI_clamp (by omega)]
section TB
variable {ro : Nat → Int64} {ra rb rc rx ry rz : Int64} {rs : Int32}
abbrev ky (ra rb rc rx ry rz : Int64) : P6 := (ra, rb, rc, rx / 2, ry / 2, rz / 2)
theorem oR_step {len i n k : Nat} {p : P6 × Nat} (hl : len ≤ 455) (hi : i < len) (h : row7 ro i p) (hk : k < 6) : lp_T_ordR_2 (nI len) ro ra rb rc rx ry rz rs (nI i) (n + 1) (nI k) =
    if a6 p.1 k = a6 (ky ra rb rc rx ry rz) k then lp_T_ordR_2 (nI len) ro ra rb rc rx ry rz rs (nI i) n (nI (k + 1)) else some (f_Long_cmp (a6 p.1 k) (a6 (ky ra rb rc rx ry rz) k)) := by
  rw [lp_T_ordR_2, if_neg (six_le hk), T_at_s hl hi (by omega), Option.bind_some, h.1 k hk, nI_1]
  show (if f_Long_cmp (a6 p.1 k) (a6 (ky ra rb rc rx ry rz) k) = 0 then _ else some (f_Long_cmp (a6 p.1 k) (a6 (ky ra rb rc rx ry rz) k))) = _
  by_cases e : a6 p.1 k = a6 (ky ra rb rc rx ry rz) k
  · rw [if_pos e, if_pos (Lc_eq.mpr e)]
  · rw [if_neg e, if_neg (fun q => e (Lc_eq.mp q))]
theorem a6_0 (t : P6) : a6 t 0 = t.1 := rfl
theorem a6_1 (t : P6) : a6 t 1 = t.2.1 := by unfold a6 f_P_at; rw [if_neg (show ¬ nI 1 = (0 : Int32) by decide), if_pos (show nI 1 = (1 : Int32) by decide)]
theorem a6_2 (t : P6) : a6 t 2 = t.2.2.1 := by unfold a6 f_P_at; rw [if_neg (show ¬ nI 2 = (0 : Int32) by decide), if_neg (show ¬ nI 2 = (1 : Int32) by decide), if_pos (show nI 2 = (2 : Int32) by decide)]
theorem a6_3 (t : P6) : a6 t 3 = t.2.2.2.1 := by unfold a6 f_P_at; rw [if_neg (show ¬ nI 3 = (0 : Int32) by decide), if_neg (show ¬ nI 3 = (1 : Int32) by decide), if_neg (show ¬ nI 3 = (2 : Int32) by decide), if_pos (show nI 3 = (3 : Int32) by decide)]
theorem a6_4 (t : P6) : a6 t 4 = t.2.2.2.2.1 := by unfold a6 f_P_at; rw [if_neg (show ¬ nI 4 = (0 : Int32) by decide), if_neg (show ¬ nI 4 = (1 : Int32) by decide), if_neg (show ¬ nI 4 = (2 : Int32) by decide), if_neg (show ¬ nI 4 = (3 : Int32) by decide), if_pos (show nI 4 = (4 : Int32) by decide)]
theorem a6_5 (t : P6) : a6 t 5 = t.2.2.2.2.2 := by unfold a6 f_P_at; rw [if_neg (show ¬ nI 5 = (0 : Int32) by decide), if_neg (show ¬ nI 5 = (1 : Int32) by decide), if_neg (show ¬ nI 5 = (2 : Int32) by decide), if_neg (show ¬ nI 5 = (3 : Int32) by decide), if_neg (show ¬ nI 5 = (4 : Int32) by decide), if_pos (show nI 5 = (5 : Int32) by decide)]
theorem oR_s {len i : Nat} {p : P6 × Nat} (hl : len ≤ 455) (hi : i < len) (h : row7 ro i p) : f_T_ordR (nI len) ro ra rb rc rx ry rz rs (nI i) = some (lx p.1 (ky ra rb rc rx ry rz)) := by
  unfold f_T_ordR lx
  rw [show (0 : Int32) = nI 0 from rfl, oR_step hl hi h (by decide), oR_step hl hi h (by decide), oR_step hl hi h (by decide), oR_step hl hi h (by decide), oR_step hl hi h (by decide), oR_step hl hi h (by decide), lp_T_ordR_2, if_pos (show (6 : Int32) ≤ nI (0 + 1 + 1 + 1 + 1 + 1 + 1) by decide)]
  rw [a6_0, a6_0, a6_1, a6_1, a6_2, a6_2, a6_3, a6_3, a6_4, a6_4, a6_5, a6_5]
  by_cases c0 : p.1.1 = ra
  rotate_left
  · rw [if_neg c0, if_neg c0]
  rw [if_pos c0, if_pos c0]
  by_cases c1 : p.1.2.1 = rb
  rotate_left
  · rw [if_neg c1, if_neg c1]
  rw [if_pos c1, if_pos c1]
  by_cases c2 : p.1.2.2.1 = rc
  rotate_left
  · rw [if_neg c2, if_neg c2]
  rw [if_pos c2, if_pos c2]
  by_cases c3 : p.1.2.2.2.1 = rx / 2
  rotate_left
  · rw [if_neg c3, if_neg c3]
  rw [if_pos c3, if_pos c3]
  by_cases c4 : p.1.2.2.2.2.1 = ry / 2
  rotate_left
  · rw [if_neg c4, if_neg c4]
  rw [if_pos c4, if_pos c4]
  by_cases c5 : p.1.2.2.2.2.2 = rz / 2
  rotate_left
  · rw [if_neg c5]
  rw [if_pos c5, Lc_eq.mpr c5]
theorem div2 {a : Nat} (h : a < 2 ^ 31) : nI a / (2 : Int32) = nI (a / 2) := nI_div (b := 2) h (by decide)
/-- the binary search: how many rows lie below -/
theorem first_lp {L : List (P6 × Nat)} (hL : TR ro (nI L.length) L) (hs : srt L) : ∀ (sp fr fu : Nat), fr + sp ≤ L.length → sp < fu → (∀ i p, i < fr → L[i]? = some p → lt6 p.1 (ky ra rb rc rx ry rz)) → (∀ i p, fr + sp ≤ i → L[i]? = some p → ¬ lt6 p.1 (ky ra rb rc rx ry rz)) →
    ∃ pos, pos ≤ L.length ∧ lp_T_first_7 (nI L.length) ro ra rb rc rx ry rz rs fu (nI fr) (nI sp) = some (nI pos) ∧ (∀ i p, i < pos → L[i]? = some p → lt6 p.1 (ky ra rb rc rx ry rz)) ∧ (∀ i p, pos ≤ i → L[i]? = some p → ¬ lt6 p.1 (ky ra rb rc rx ry rz)) := by
  intro sp
  have hlen := hL.2.1
  induction sp using Nat.strongRecOn with
  | ind sp ih =>
    intro fr fu hle hfu h1 h2
    obtain ⟨fu, rfl⟩ : ∃ x, fu = x + 1 := ⟨fu - 1, by omega⟩
    rw [lp_T_first_7]
    by_cases c0 : sp = 0
    · subst c0
      rw [if_pos (show nI 0 ≤ (0 : Int32) by decide)]
      exact ⟨fr, by omega, rfl, h1, fun i p hi hp => h2 i p (by omega) hp⟩
    rw [if_neg (nI_nle (by omega) (by omega)), div2 (by omega), nI_add]
    have hm : fr + sp / 2 < L.length := by omega
    obtain ⟨p, hp⟩ : ∃ p, L[fr + sp / 2]? = some p := ⟨_, List.getElem?_eq_getElem hm⟩
    rw [oR_s hlen hm (hL.2.2 _ p hp), Option.bind_some]
    have hsort : ∀ (i j : Nat) (p q : P6 × Nat), i < j → L[i]? = some p → L[j]? = some q → lt6 p.1 q.1 := fun i j p q hij hp hq => by
      obtain ⟨hi, rfl⟩ := List.getElem?_eq_some_iff.mp hp
      obtain ⟨hj, rfl⟩ := List.getElem?_eq_some_iff.mp hq
      exact List.pairwise_iff_getElem.mp hs i j hi hj hij
    by_cases c : lx p.1 (ky ra rb rc rx ry rz) < 0
    · have hlt := lx_lt.mp c
      have n0 : ¬ (0 : Int32) ≤ lx p.1 (ky ra rb rc rx ry rz) := fun q => by
        rw [Int32.le_iff_toInt_le] at q
        rw [Int32.lt_iff_toInt_lt] at c
        omega
      rw [if_neg n0, nI_1, nI_add, nI_sub' (by omega)]
      refine ih (sp - (sp / 2 + 1)) (by omega) (fr + (sp / 2 + 1)) fu (by omega) (by omega) (fun i q hi hq => ?_) (fun i q hi hq => h2 i q (by omega) hq)
      by_cases e : i = fr + sp / 2
      · subst e
        rw [hp] at hq
        cases hq
        exact hlt
      · exact lt6_tr (hsort i (fr + sp / 2) q p (by omega) hq hp) hlt
    · have n0 : (0 : Int32) ≤ lx p.1 (ky ra rb rc rx ry rz) := by
        rw [Int32.le_iff_toInt_le]
        rw [Int32.lt_iff_toInt_lt] at c
        omega
      rw [if_pos n0]
      refine ih (sp / 2) (by omega) fr fu (by omega) (by omega) h1 (fun i q hi hq hlt => ?_)
      by_cases e : i = fr + sp / 2
      · subst e
        rw [hp] at hq
        cases hq
        exact c (lx_lt.mpr hlt)
      · exact c (lx_lt.mpr (lt6_tr (hsort (fr + sp / 2) i p q (by omega) hp hq) hlt))
end TB
-- where the insert puts it
theorem ins_at {K : P6} {c : Nat} : ∀ (pos : Nat) {L : List (P6 × Nat)}, (∀ i p, i < pos → L[i]? = some p → lt6 p.1 K) → L[pos]? = some (K, c) → ins L K = L.set pos (K, c + 1) := by
  intro pos
  induction pos with
  | zero =>
    intro L h1 h2
    cases L with
    | nil => cases h2
    | cons a L =>
      have e : a = (K, c) := Option.some.inj h2
      subst e
      rw [ins, if_neg (fun q => lt6_ir (lx_lt.mp q)), if_pos (lx_eq.mpr rfl)]
      rfl
  | succ pos ih =>
    intro L h1 h2
    cases L with
    | nil => cases h2
    | cons a L =>
      rw [ins, if_pos (lx_lt.mpr (h1 0 a (by omega) rfl)), ih (fun i p hi hp => h1 (i + 1) p (by omega) hp) h2]
      rfl
theorem ins_new {K : P6} : ∀ (pos : Nat) {L : List (P6 × Nat)}, pos ≤ L.length → (∀ i p, i < pos → L[i]? = some p → lt6 p.1 K) → (∀ p, L[pos]? = some p → lt6 K p.1) → ins L K = L.take pos ++ (K, 1) :: L.drop pos := by
  intro pos
  induction pos with
  | zero =>
    intro L _ h1 h2
    cases L with
    | nil => rfl
    | cons a L =>
      have h := h2 a rfl
      rw [ins, if_neg (fun q => lt6_ir (lt6_tr h (lx_lt.mp q))), if_neg (fun q => by rw [lx_eq.mp q] at h; exact lt6_ir h)]
      rfl
  | succ pos ih =>
    intro L hle h1 h2
    cases L with
    | nil => exact absurd hle (by show ¬ pos + 1 ≤ 0; omega)
    | cons a L =>
      rw [ins, if_pos (lx_lt.mpr (h1 0 a (by omega) rfl)), ih (by simp only [List.length_cons] at hle; omega) (fun i p hi hp => h1 (i + 1) p (by omega) hp) (fun p hp => h2 p hp)]
      rfl
theorem get_ins {α : Type} {L : List α} {x : α} {pos : Nat} (hp : pos ≤ L.length) (i : Nat) : (L.take pos ++ x :: L.drop pos)[i]? = if i < pos then L[i]? else if i = pos then some x else L[i - 1]? := by
  have hl : (L.take pos).length = pos := by rw [List.length_take]; omega
  by_cases c : i < pos
  · rw [if_pos c, List.getElem?_append_left (by omega), List.getElem?_take, if_pos c]
  · rw [if_neg c, List.getElem?_append_right (by omega), hl]
    by_cases e : i = pos
    · rw [if_pos e, e, Nat.sub_self]; rfl
    · rw [if_neg e, show i - pos = (i - pos - 1) + 1 by omega, List.getElem?_cons_succ, List.getElem?_drop, show pos + (i - pos - 1) = i - 1 by omega]

