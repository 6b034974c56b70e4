-- the reference's list of multiples
def row6n (au : Nat → Int64) (ao : Nat → Int32) (i : Nat) (p : P6 × Nat) : Prop := (∀ k, k < 6 → au (6 * i + k) = a6 p.1 k) ∧ ao i = nI p.2
def MR (au : Nat → Int64) (ao : Nat → Int32) (mus : Int32) (L : List (P6 × Nat)) : Prop := mus = nI L.length ∧ L.length ≤ 455 ∧ ∀ i p, L[i]? = some p → row6n au ao i p
def x6 (ax : Nat → Int64) : P6 := (ax 0, ax 1, ax 2, ax 3, ax 4, ax 5)
theorem a6_x {ax : Nat → Int64} {k : Nat} (hk : k < 6) : a6 (x6 ax) k = ax k := by
  match k, hk with
  | 0, _ => rfl
  | 1, _ => rw [a6_1]; rfl
  | 2, _ => rw [a6_2]; rfl
  | 3, _ => rw [a6_3]; rfl
  | 4, _ => rw [a6_4]; rfl
  | 5, _ => rw [a6_5]; rfl
section MT
variable {ax au : Nat → Int64} {ao : Nat → Int32}
theorem Lc_e {x y : Int64} (h : ¬ x = y) : (if 0 ≤ lg_cmp x y then some (1 : Int32) else some (-1)) = some (f_Long_cmp x y) := by
  unfold f_Long_cmp
  by_cases c : 0 ≤ lg_cmp x y
  · rw [if_pos c, if_pos c, if_neg (fun q => h (lg_eq.mp q))]
  · rw [if_neg c, if_neg c]
theorem mc_step {n i k : Nat} {p : P6 × Nat} (hi : i < 455) (h : row6n au ao i p) (hk : k < 6) : lp_M_comp_2 ax au (nI i) (n + 1) (nI k) = if a6 (x6 ax) k = a6 p.1 k then lp_M_comp_2 ax au (nI i) n (nI (k + 1)) else some (f_Long_cmp (a6 (x6 ax) k) (a6 p.1 k)) := by
  rw [lp_M_comp_2, if_neg (six_le hk), if_pos (inb_nI (by omega) hk), nI_6, nI_add, if_pos (inb_nI (by omega) (by omega)), nI_1, nI_clamp (n := k) (by omega), nI_clamp (n := 6 * i + k) (by omega), h.1 k hk, a6_x hk]
  by_cases e : ax k = a6 p.1 k
  · rw [if_pos e, if_pos (lg_eq.mpr e)]
  · rw [if_neg e, if_neg (fun q => e (lg_eq.mp q)), if_pos (inb_nI (by omega) hk), if_pos (inb_nI (by omega) (by omega)), Lc_e e]
theorem mc_s {i : Nat} {p : P6 × Nat} (hi : i < 455) (h : row6n au ao i p) : f_M_comp ax au (nI i) = some (lx (x6 ax) p.1) := by
  unfold f_M_comp lx
  rw [show (0 : Int32) = nI 0 from rfl, mc_step hi h (by decide), mc_step hi h (by decide), mc_step hi h (by decide), mc_step hi h (by decide), mc_step hi h (by decide), mc_step hi h (by decide), lp_M_comp_2, if_pos (show (6 : Int32) ≤ nI (0 + 1 + 1 + 1 + 1 + 1 + 1) by decide)]
  rw [a6_0, a6_0, a6_1, a6_1, a6_2, a6_2, a6_3, a6_3, a6_4, a6_4, a6_5, a6_5]
  by_cases c0 : (x6 ax).1 = p.1.1
  rotate_left
  · rw [if_neg c0, if_neg c0]
  rw [if_pos c0, if_pos c0]
  by_cases c1 : (x6 ax).2.1 = p.1.2.1
  rotate_left
  · rw [if_neg c1, if_neg c1]
  rw [if_pos c1, if_pos c1]
  by_cases c2 : (x6 ax).2.2.1 = p.1.2.2.1
  rotate_left
  · rw [if_neg c2, if_neg c2]
  rw [if_pos c2, if_pos c2]
  by_cases c3 : (x6 ax).2.2.2.1 = p.1.2.2.2.1
  rotate_left
  · rw [if_neg c3, if_neg c3]
  rw [if_pos c3, if_pos c3]
  by_cases c4 : (x6 ax).2.2.2.2.1 = p.1.2.2.2.2.1
  rotate_left
  · rw [if_neg c4, if_neg c4]
  rw [if_pos c4, if_pos c4]
  by_cases c5 : (x6 ax).2.2.2.2.2 = p.1.2.2.2.2.2
  rotate_left
  · rw [if_neg c5]
  rw [if_pos c5, Lc_eq.mpr c5]
variable {ac : Nat → Int64} {a0 ep eq er es et eu stp mus : Int32}
theorem one_170 {L : List (P6 × Nat)} (hM : MR au ao (nI L.length) L) : ∀ (ii fu : Nat), ii ≤ L.length → ii < fu → (∀ i p, ii ≤ i → L[i]? = some p → lt6 (x6 ax) p.1) →
    ∃ pos, pos ≤ L.length ∧ lp_M_one_170 ac a0 ep eq er es et eu fu (nI ii) stp mus ax au ao = some (nI pos, stp, mus, ax, au, ao) ∧ (∀ i p, pos ≤ i → L[i]? = some p → lt6 (x6 ax) p.1) ∧ (pos = 0 ∨ ∃ q p, pos = q + 1 ∧ L[q]? = some p ∧ ¬ lt6 (x6 ax) p.1) := by
  intro ii
  have hlen := hM.2.1
  induction ii with
  | zero =>
    intro fu h1 h2 h3
    obtain ⟨fu, rfl⟩ : ∃ x, fu = x + 1 := ⟨fu - 1, by omega⟩
    rw [lp_M_one_170, if_pos (show nI 0 ≤ (0 : Int32) by decide)]
    exact ⟨0, by omega, rfl, h3, Or.inl rfl⟩
  | succ q ih =>
    intro fu h1 h2 h3
    obtain ⟨fu, rfl⟩ : ∃ x, fu = x + 1 := ⟨fu - 1, by omega⟩
    obtain ⟨p, hp⟩ : ∃ p, L[q]? = some p := ⟨_, List.getElem?_eq_getElem (by omega)⟩
    rw [lp_M_one_170, if_neg (nI_nle (by omega) (by omega)), nI_pred, mc_s (by omega) (hM.2.2 q p hp), Option.bind_some, nI_dn]
    by_cases c : lx (x6 ax) p.1 < 0
    · have n0 : ¬ (0 : Int32) ≤ lx (x6 ax) p.1 := fun z => by
        rw [Int32.le_iff_toInt_le] at z
        rw [Int32.lt_iff_toInt_lt] at c
        omega
      rw [if_neg n0]
      refine ih fu (by omega) (by omega) (fun i r hi hr => ?_)
      by_cases e : i = q
      · subst e
        rw [hp] at hr
        cases hr
        exact lx_lt.mp c
      · exact h3 i r (by omega) hr
    · have n0 : (0 : Int32) ≤ lx (x6 ax) p.1 := by
        rw [Int32.le_iff_toInt_le]
        rw [Int32.lt_iff_toInt_lt] at c
        omega
      rw [if_pos n0]
      exact ⟨q + 1, h1, rfl, h3, Or.inr ⟨q, p, rfl, hp, fun z => c (lx_lt.mpr z)⟩⟩
def sft (au : Nat → Int64) (lo hi : Nat) : Nat → Int64 := fun j => if lo + 6 ≤ j ∧ j < hi + 6 then au (j - 6) else au j
def sfo (ao : Nat → Int32) (lo hi : Nat) : Nat → Int32 := fun j => if lo < j ∧ j ≤ hi then ao (j - 1) else ao j
theorem one_233 {ii hi : Nat} (hh : hi ≤ 2994) : ∀ (m k fu : Nat), k = 6 * ii + m → k ≤ hi → m < fu → ∃ kk, lp_M_one_233 ac a0 ep eq er es et eu fu (nI ii) (nI k - 1) stp mus ax (sft au k hi) ao = some (nI ii, kk, stp, mus, ax, sft au (6 * ii) hi, ao) := by
  intro m
  induction m with
  | zero =>
    intro k fu e hk hf
    obtain ⟨fu, rfl⟩ : ∃ x, fu = x + 1 := ⟨fu - 1, by omega⟩
    have hlt : nI k - 1 < (6 : Int32) * nI ii := by
      rw [nI_6, show 6 * ii = k by omega]
      cases k with
      | zero => decide
      | succ k => rw [nI_pred]; exact nI_lt (by omega) (by omega)
    rw [lp_M_one_233, if_pos hlt, show k = 6 * ii by omega]
    exact ⟨_, rfl⟩
  | succ m ih =>
    intro k fu e hk hf
    obtain ⟨fu, rfl⟩ : ∃ x, fu = x + 1 := ⟨fu - 1, by omega⟩
    obtain ⟨k, rfl⟩ : ∃ x, k = x + 1 := ⟨k - 1, by omega⟩
    have e1 : vp_updL (sft au (k + 1) hi) (k + 6) (sft au (k + 1) hi k) = sft au k hi := by
      funext j
      unfold vp_updL sft
      by_cases c : j = k + 6
      · rw [if_pos c, if_neg (show ¬ (k + 1 + 6 ≤ k ∧ k < hi + 6) by omega), if_pos (show k + 6 ≤ j ∧ j < hi + 6 by omega), show j - 6 = k by omega]
      · rw [if_neg c]
        by_cases d : k + 6 ≤ j ∧ j < hi + 6
        · rw [if_pos d, if_pos (show k + 1 + 6 ≤ j ∧ j < hi + 6 by omega)]
        · rw [if_neg d, if_neg (show ¬ (k + 1 + 6 ≤ j ∧ j < hi + 6) by omega)]
    have e2 : nI k + (-1 : Int32) = nI k - 1 := by rw [Int32.sub_eq_add_neg]
    rw [lp_M_one_233, nI_pred, if_neg (show ¬ nI k < (6 : Int32) * nI ii by rw [nI_6]; exact nI_nlt (by omega) (by omega)), if_pos (inb_nI (by omega) (by omega)), nI_p6, if_pos (inb_nI (by omega) (by omega)), nI_clamp (n := k) (by omega), nI_clamp (n := k + 6) (by omega), e1, e2]
    exact ih k fu (by omega) (by omega) (by omega)
theorem one_272 {ii hi : Nat} (hh : hi ≤ 499) : ∀ (m k fu : Nat), k = ii + m → k ≤ hi → m < fu → ∃ kk, lp_M_one_272 ac a0 ep eq er es et eu fu (nI ii) (nI k) stp mus ax au (sfo ao k hi) = some (nI ii, kk, stp, mus, ax, au, sfo ao ii hi) := by
  intro m
  induction m with
  | zero =>
    intro k fu e hk hf
    obtain ⟨fu, rfl⟩ : ∃ x, fu = x + 1 := ⟨fu - 1, by omega⟩
    rw [lp_M_one_272, if_pos (nI_le (by omega) (by omega)), show k = ii by omega]
    exact ⟨_, rfl⟩
  | succ m ih =>
    intro k fu e hk hf
    obtain ⟨fu, rfl⟩ : ∃ x, fu = x + 1 := ⟨fu - 1, by omega⟩
    obtain ⟨k, rfl⟩ : ∃ x, k = x + 1 := ⟨k - 1, by omega⟩
    have e1 : upd (sfo ao (k + 1) hi) (k + 1) (sfo ao (k + 1) hi k) = sfo ao k hi := by
      funext j
      unfold upd sfo
      by_cases c : j = k + 1
      · rw [if_pos c, if_neg (show ¬ (k + 1 < k ∧ k ≤ hi) by omega), if_pos (show k < j ∧ j ≤ hi by omega), show j - 1 = k by omega]
      · rw [if_neg c]
        by_cases d : k < j ∧ j ≤ hi
        · rw [if_pos d, if_pos (show k + 1 < j ∧ j ≤ hi by omega)]
        · rw [if_neg d, if_neg (show ¬ (k + 1 < j ∧ j ≤ hi) by omega)]
    rw [lp_M_one_272, if_neg (nI_ge (by omega) (by omega)), nI_pred, if_pos (inb_nI (by omega) (by omega)), if_pos (inb_nI (by omega) (by omega)), nI_clamp (n := k) (by omega), nI_clamp (n := k + 1) (by omega), e1, nI_dn]
    exact ih k fu (by omega) (by omega) (by omega)
theorem o312_step {ii n k : Nat} (hi : ii < 455) (hk : k < 6) : lp_M_one_312 ac a0 ep eq er es et eu (n + 1) (nI ii) (nI k) stp mus ax au ao = lp_M_one_312 ac a0 ep eq er es et eu n (nI ii) (nI (k + 1)) stp mus ax (vp_updL au (6 * ii + k) (ax k)) ao := by
  rw [lp_M_one_312, if_neg (six_le hk), if_pos (inb_nI (by omega) hk), nI_6, nI_add, if_pos (inb_nI (by omega) (by omega)), nI_1, nI_clamp (n := k) (by omega), nI_clamp (n := 6 * ii + k) (by omega)]
theorem one_312 {ii : Nat} (hi : ii < 455) : lp_M_one_312 ac a0 ep eq er es et eu 8 (nI ii) (0 : Int32) stp mus ax au ao = some (stp, mus + 1, ax, W6 au ii (x6 ax), ao) := by
  rw [show (0 : Int32) = nI 0 from rfl, o312_step hi (by decide), o312_step hi (by decide), o312_step hi (by decide), o312_step hi (by decide), o312_step hi (by decide), o312_step hi (by decide), lp_M_one_312, if_pos (show (6 : Int32) ≤ nI (0 + 1 + 1 + 1 + 1 + 1 + 1) by decide)]
  rfl
theorem W6_k {f : Nat → Int64} {i k : Nat} {t : P6} (hk : k < 6) : W6 f i t (6 * i + k) = a6 t k := by
  have h := W6_s f i t
  match k, hk with
  | 0, _ => exact h.1
  | 1, _ => rw [a6_1]; exact h.2.1
  | 2, _ => rw [a6_2]; exact h.2.2.1
  | 3, _ => rw [a6_3]; exact h.2.2.2.1
  | 4, _ => rw [a6_4]; exact h.2.2.2.2.1
  | 5, _ => rw [a6_5]; exact h.2.2.2.2.2
theorem MR_new {L : List (P6 × Nat)} {pos : Nat} {K : P6} (h : MR au ao (nI L.length) L) (hl : L.length < 455) (hp : pos ≤ L.length) :
    MR (W6 (sft au (6 * pos) (6 * L.length)) pos K) (upd (sfo ao pos L.length) pos 1) (nI (L.length + 1)) (L.take pos ++ (K, 1) :: L.drop pos) := by
  have hlen : (L.take pos ++ (K, 1) :: L.drop pos).length = L.length + 1 := by
    rw [List.length_append, List.length_cons, List.length_take, List.length_drop]; omega
  refine ⟨by rw [hlen], by omega, fun i p hip => ?_⟩
  rw [get_ins hp] at hip
  by_cases c1 : i < pos
  · rw [if_pos c1] at hip
    have hr := h.2.2 i p hip
    refine ⟨fun k hk => ?_, ?_⟩
    · rw [W6_o K (by omega)]
      unfold sft
      rw [if_neg (by omega)]
      exact hr.1 k hk
    · rw [upI_n (by omega)]
      unfold sfo
      rw [if_neg (by omega)]
      exact hr.2
  rw [if_neg c1] at hip
  by_cases c2 : i = pos
  · rw [if_pos c2] at hip
    subst c2
    cases hip
    exact ⟨fun k hk => W6_k hk, upI_s⟩
  · rw [if_neg c2] at hip
    have hi1 : i - 1 < L.length := (List.getElem?_eq_some_iff.mp hip).1
    have hr := h.2.2 (i - 1) p hip
    refine ⟨fun k hk => ?_, ?_⟩
    · rw [W6_o K (by omega)]
      unfold sft
      rw [if_pos (by omega), show 6 * i + k - 6 = 6 * (i - 1) + k by omega]
      exact hr.1 k hk
    · rw [upI_n c2]
      unfold sfo
      rw [if_pos (by omega)]
      exact hr.2
theorem MR_inc {L : List (P6 × Nat)} {pos c : Nat} {K : P6} (h : MR au ao (nI L.length) L) (hp : L[pos]? = some (K, c)) : MR au (upd ao pos (ao pos + 1)) (nI L.length) (L.set pos (K, c + 1)) := by
  refine ⟨by rw [List.length_set], by rw [List.length_set]; exact h.2.1, fun i p hip => ?_⟩
  rw [List.getElem?_set] at hip
  have hlt : pos < L.length := (List.getElem?_eq_some_iff.mp hp).1
  have hr := h.2.2 pos _ hp
  by_cases e : pos = i
  · subst e
    rw [if_pos rfl, if_pos hlt] at hip
    cases hip
    exact ⟨hr.1, by rw [upI_s, hr.2]; exact nI_1 c⟩
  · rw [if_neg e] at hip
    have hr' := h.2.2 i p hip
    exact ⟨hr'.1, by rw [upI_n (fun q => e q.symm)]; exact hr'.2⟩
end MT

