-- multiple and common: both sides
section CM
variable {kn : Nat} {td lw : Nat → P6} {sy sh : Nat → Int32} {ac al : Nat → Int64} {ay as_ : Nat → Int32} {ro rp : Nat → Int64} {sz fc_ fn_ sq gc_ gn_ : Int32} {ra rb rc rx ry rz : Int64} {rs : Int32} {ax au at_ : Nat → Int64} {ao : Nat → Int32} {stp mus mc_ mb_ : Int32}
theorem at_val {L : List (P6 × Nat)} {mu : Int32} (hT : TR ro (nI L.length) L) (hM : MR au ao mu L) (hc : ∀ p ∈ L, p.2 ≤ 455) (ki wh : Int32) (h0 : ¬ wh < 0) (h6 : ¬ (6 : Int32) < wh) (hk0 : 0 ≤ ki) :
    ∃ v, f_T_at (nI L.length) ro ki wh = some v ∧ (if ki < nI L.length then (if (6 : Int32) ≤ wh then (if inb ki 500 = true then some (ao ki.toNatClampNeg).toInt64 else none) else (if inb ((6 : Int32) * ki + wh) 3000 = true then some (au ((6 : Int32) * ki + wh).toNatClampNeg) else none)) else some (0 : Int64)) = some v := by
  have hlen := hT.2.1
  have n0 : ¬ ki < 0 := fun q => by
    rw [Int32.lt_iff_toInt_lt] at q
    rw [Int32.le_iff_toInt_le] at hk0
    omega
  obtain ⟨i, hi, rfl⟩ := nI_of n0
  obtain ⟨w, hw, rfl⟩ := nI_of h0
  have hw6 : w ≤ 6 := Nat.le_of_not_lt fun q => h6 (nI_lt (a := 6) (b := w) q hw)
  by_cases c : i < L.length
  · obtain ⟨p, hp⟩ : ∃ p, L[i]? = some p := ⟨_, List.getElem?_eq_getElem c⟩
    have hr := hT.2.2 i p hp
    have hm := hM.2.2 i p hp
    rw [T_at_s hlen c (by omega), if_pos (nI_lt c (by omega))]
    by_cases e : w = 6
    · subst e
      rw [if_pos (show (6 : Int32) ≤ nI 6 by decide), if_pos (inb_nI (by omega) (by omega)), nI_clamp (by omega), hr.2, hm.2, zL_nI (by have := hc p (List.mem_of_getElem? hp); omega)]
      exact ⟨_, rfl, rfl⟩
    · rw [if_neg (six_le (by omega)), nI_6, nI_add, if_pos (inb_nI (by omega) (by omega)), nI_clamp (by omega), hr.1 w (by omega), hm.1 w (by omega)]
      exact ⟨_, rfl, rfl⟩
  · rw [if_neg (nI_nlt (by omega) (by omega))]
    unfold f_T_at
    rw [if_neg n0, if_pos (nI_le (by omega) hi)]
    exact ⟨_, rfl, rfl⟩
theorem at_some {len : Nat} (hl : len ≤ 455) (ki wh : Int32) : ∃ v, f_T_at (nI len) ro ki wh = some v ∧ ((wh < 0 ∨ (6 : Int32) < wh ∨ ki < 0) → v = 0) := by
  unfold f_T_at
  by_cases c1 : ki < 0
  · rw [if_pos c1]; exact ⟨_, rfl, fun _ => rfl⟩
  rw [if_neg c1]
  by_cases c2 : nI len ≤ ki
  · rw [if_pos c2]; exact ⟨_, rfl, fun _ => rfl⟩
  rw [if_neg c2]
  by_cases c3 : (455 : Int32) ≤ ki
  · rw [if_pos c3]; exact ⟨_, rfl, fun _ => rfl⟩
  rw [if_neg c3]
  by_cases c4 : wh < 0
  · rw [if_pos c4]; exact ⟨_, rfl, fun _ => rfl⟩
  rw [if_neg c4]
  by_cases c5 : wh < 7
  · rw [if_pos c5]
    obtain ⟨i, hi, rfl⟩ := nI_of c1
    obtain ⟨w, hw, rfl⟩ := nI_of c4
    have hw7 : w < 7 := (nI_ltI (a := w) (b := 7) hw (by decide)).mp c5
    have hi5 : i < 455 := Nat.lt_of_not_le fun q => c3 (nI_le (a := 455) (b := i) q hi)
    rw [nI_7, nI_add, if_pos (inb_nI (by omega) (by omega))]
    refine ⟨_, rfl, fun q => ?_⟩
    rcases q with q | q | q
    · exact absurd q c4
    · have := (nI_ltI (a := 6) (b := w) (by decide) hw).mp q; omega
    · exact absurd q c1
  · rw [if_neg c5]; exact ⟨_, rfl, fun _ => rfl⟩
theorem multiple_s (hk : kn ≤ 40) (hC : CR kn td lw sy sh ac al ay as_) (hg : ∀ i, i < kn → GM (td i) (lw i)) (hT : TC kn lw ro sz fc_ fn_) (hM : MC kn lw au ao mus mc_ mb_) (cl nn ki wh : Int32) :
    ∃ r ro' sz' fc' fn' a b c x y z s' stp' mus' ax' au' ao' mc' mb', f_B_multiple td lw sy sh kn ro sz fc_ fn_ ra rb rc rx ry rz rs cl nn ki wh = some (r, ro', sz', fc', fn', a, b, c, x, y, z, s') ∧ f_M_multiple (nI kn) ac stp mus ax au ao mc_ mb_ cl nn ki wh = some (r, stp', mus', ax', au', ao', mc', mb') ∧ TC kn lw ro' sz' fc' fn' ∧ MC kn lw au' ao' mus' mc' mb' := by
  unfold f_B_multiple f_M_multiple
  by_cases hb : inb cl kn = true
  rotate_left
  · rw [if_neg hb, isM_o hk hb, if_pos rfl]
    exact ⟨_, _, _, _, _, _, _, _, _, _, _, _, _, _, _, _, _, _, _, rfl, rfl, hT, hM⟩
  rw [if_pos hb]
  by_cases hm : f_isMultiplier nn = 0
  · rw [if_pos hm, isM_t hm, if_pos rfl]
    exact ⟨_, _, _, _, _, _, _, _, _, _, _, _, _, _, _, _, _, _, _, rfl, rfl, hT, hM⟩
  rw [if_neg hm, if_neg (isM_c hk hm hb)]
  obtain ⟨c, hc, rfl⟩ := inb_of hb
  obtain ⟨n, hn1, hn, rfl⟩ := isM_f hm
  have hcl : (nI c).toNatClampNeg = c := nI_clamp (by omega)
  rw [hcl]
  obtain ⟨ro', a, b, c', x, y, z, s', e1, hT1⟩ := fill_s (ra := ra) (rb := rb) (rc := rc) (rx := rx) (ry := ry) (rz := rz) (rs := rs) hT hk hc hn1 hn
  have hT2 : TC kn lw ro' (nI (ML (lw c) n).length) (nI c) (nI n) := Or.inr ⟨c, n, hc, hn1, hn, rfl, rfl, hT1⟩
  obtain ⟨v, ev, hv⟩ := at_some (ro := ro') (ML_len (l := lw c) hn) ki wh
  rw [e1, Option.bind_some]
  dsimp only
  rw [ev, Option.bind_some]
  by_cases w0 : wh < 0
  · rw [if_pos w0, hv (Or.inl w0)]
    exact ⟨_, _, _, _, _, _, _, _, _, _, _, _, _, _, _, _, _, _, _, rfl, rfl, hT2, hM⟩
  rw [if_neg w0]
  by_cases w6 : (6 : Int32) < wh
  · rw [if_pos w6, hv (Or.inr (Or.inl w6))]
    exact ⟨_, _, _, _, _, _, _, _, _, _, _, _, _, _, _, _, _, _, _, rfl, rfl, hT2, hM⟩
  rw [if_neg w6]
  by_cases k0 : 0 ≤ ki
  rotate_left
  · have k1 : ki < 0 := by
      rw [Int32.lt_iff_toInt_lt]
      rw [Int32.le_iff_toInt_le] at k0
      omega
    rw [if_neg k0, hv (Or.inr (Or.inr k1))]
    exact ⟨_, _, _, _, _, _, _, _, _, _, _, _, _, _, _, _, _, _, _, rfl, rfl, hT2, hM⟩
  rw [if_pos k0]
  obtain ⟨stp', ax', au', ao', e2, hM1⟩ := mult_s (stp := stp) (ax := ax) hM hk hc (hC c hc).1.1 (hg c hc) hn1 hn
  have hM2 : MC kn lw au' ao' (nI (ML (lw c) n).length) (nI c) (nI n) := Or.inr ⟨c, n, hc, hn1, hn, rfl, rfl, hM1⟩
  obtain ⟨v', ev', hv'⟩ := at_val hT1 hM1 (ML_cnt hn) ki wh w0 w6 k0
  have evv : v' = v := Option.some.inj (ev'.symm.trans ev)
  subst evv
  rw [e2, Option.bind_some]
  dsimp only
  by_cases q1 : ki < nI (ML (lw c) n).length
  · rw [if_pos q1] at hv' ⊢
    by_cases q2 : (6 : Int32) ≤ wh
    · rw [if_pos q2] at hv' ⊢
      by_cases q3 : inb ki 500 = true
      · rw [if_pos q3] at hv' ⊢
        rw [Option.some.inj hv']
        exact ⟨_, _, _, _, _, _, _, _, _, _, _, _, _, _, _, _, _, _, _, rfl, rfl, hT2, hM2⟩
      · rw [if_neg q3] at hv'; cases hv'
    · rw [if_neg q2] at hv' ⊢
      by_cases q3 : inb ((6 : Int32) * ki + wh) 3000 = true
      · rw [if_pos q3] at hv' ⊢
        rw [Option.some.inj hv']
        exact ⟨_, _, _, _, _, _, _, _, _, _, _, _, _, _, _, _, _, _, _, rfl, rfl, hT2, hM2⟩
      · rw [if_neg q3] at hv'; cases hv'
  · rw [if_neg q1] at hv' ⊢
    rw [Option.some.inj hv']
    exact ⟨_, _, _, _, _, _, _, _, _, _, _, _, _, _, _, _, _, _, _, rfl, rfl, hT2, hM2⟩
-- common: the program goes through both tables at once
theorem oO_step {l1 l2 i j n k : Nat} {p q : P6 × Nat} (h1 : l1 ≤ 455) (h2 : l2 ≤ 455) (hi : i < l1) (hj : j < l2) (hp : row7 ro i p) (hq : row7 rp j q) (hk : k < 6) : lp_T_ordO_3 (nI l1) ro (nI l2) rp (nI i) (nI j) (n + 1) (nI k) = if a6 p.1 k = a6 q.1 k then lp_T_ordO_3 (nI l1) ro (nI l2) rp (nI i) (nI j) n (nI (k + 1)) else some (f_Long_cmp (a6 p.1 k) (a6 q.1 k)) := by
  rw [lp_T_ordO_3, if_neg (six_le hk), T_at_s h1 hi (by omega), Option.bind_some, T_at_s h2 hj (by omega), Option.bind_some, hp.1 k hk, hq.1 k hk, nI_1]
  by_cases e : a6 p.1 k = a6 q.1 k
  · rw [if_pos e, if_pos (Lc_eq.mpr e)]
  · rw [if_neg e, if_neg (fun z => e (Lc_eq.mp z))]
theorem oO_s {l1 l2 i j : Nat} {p q : P6 × Nat} (h1 : l1 ≤ 455) (h2 : l2 ≤ 455) (hi : i < l1) (hj : j < l2) (hp : row7 ro i p) (hq : row7 rp j q) : f_T_ordO (nI l1) ro (nI l2) rp (nI i) (nI j) = some (lx p.1 q.1) := by
  unfold f_T_ordO lx
  rw [show (0 : Int32) = nI 0 from rfl, oO_step h1 h2 hi hj hp hq (by decide), oO_step h1 h2 hi hj hp hq (by decide), oO_step h1 h2 hi hj hp hq (by decide), oO_step h1 h2 hi hj hp hq (by decide), oO_step h1 h2 hi hj hp hq (by decide), oO_step h1 h2 hi hj hp hq (by decide), lp_T_ordO_3, if_pos (show (6 : Int32) ≤ nI (0 + 1 + 1 + 1 + 1 + 1 + 1) by decide)]
  rw [a6_0, a6_0, a6_1, a6_1, a6_2, a6_2, a6_3, a6_3, a6_4, a6_4, a6_5, a6_5]
  by_cases c0 : p.1.1 = q.1.1
  rotate_left
  · rw [if_neg c0, if_neg c0]
  rw [if_pos c0, if_pos c0]
  by_cases c1 : p.1.2.1 = q.1.2.1
  rotate_left
  · rw [if_neg c1, if_neg c1]
  rw [if_pos c1, if_pos c1]
  by_cases c2 : p.1.2.2.1 = q.1.2.2.1
  rotate_left
  · rw [if_neg c2, if_neg c2]
  rw [if_pos c2, if_pos c2]
  by_cases c3 : p.1.2.2.2.1 = q.1.2.2.2.1
  rotate_left
  · rw [if_neg c3, if_neg c3]
  rw [if_pos c3, if_pos c3]
  by_cases c4 : p.1.2.2.2.2.1 = q.1.2.2.2.2.1
  rotate_left
  · rw [if_neg c4, if_neg c4]
  rw [if_pos c4, if_pos c4]
  by_cases c5 : p.1.2.2.2.2.2 = q.1.2.2.2.2.2
  rotate_left
  · rw [if_neg c5]
  rw [if_pos c5, Lc_eq.mpr c5]
/-- is the six among them? -/
def hit (L : List (P6 × Nat)) (K : P6) : Bool := L.any (fun q => decide (q.1 = K))
theorem hit_t {L : List (P6 × Nat)} {K : P6} {j : Nat} {q : P6 × Nat} (h : L[j]? = some q) (e : q.1 = K) : hit L K = true := List.any_eq_true.mpr ⟨q, List.mem_of_getElem? h, decide_eq_true e⟩
theorem hit_f {L : List (P6 × Nat)} {K : P6} (h : ∀ (j : Nat) (q : P6 × Nat), L[j]? = some q → q.1 ≠ K) : hit L K = false := by
  refine Bool.eq_false_iff.mpr fun z => ?_
  obtain ⟨q, hq, e⟩ := List.any_eq_true.mp z
  obtain ⟨j, hj⟩ := List.getElem?_of_mem hq
  exact h j q hj (of_decide_eq_true e)
/-- how many of the first list's are in the second -/
def cS (L1 L2 : List (P6 × Nat)) (m k : Nat) : Int32 := sF m k (fun i => match L1[i]? with | some p => if hit L2 p.1 = true then 1 else 0 | none => 0)
theorem cS_s {L1 L2 : List (P6 × Nat)} {m k : Nat} {p : P6 × Nat} (h : L1[k]? = some p) : cS L1 L2 (m + 1) k = (if hit L2 p.1 = true then 1 else 0) + cS L1 L2 m (k + 1) := by
  unfold cS
  rw [sF_s m k]
  rw [h]
theorem shared_16 {L1 L2 : List (P6 × Nat)} (h1 : TR ro (nI L1.length) L1) (h2 : TR rp (nI L2.length) L2) {k : Nat} {p : P6 × Nat} (hk : k < L1.length) (hp : L1[k]? = some p) {shd : Int32} : ∀ (m thr fu : Nat), thr + m = L2.length → m < fu → (∀ (j : Nat) (q : P6 × Nat), j < thr → L2[j]? = some q → lt6 q.1 p.1) →
    ∃ thr', thr' ≤ L2.length ∧ lp_T_shared_16 (nI L1.length) ro (nI L2.length) rp fu shd (nI thr) (nI k) = some (shd, nI thr', nI k) ∧ (∀ (j : Nat) (q : P6 × Nat), j < thr' → L2[j]? = some q → lt6 q.1 p.1) ∧ (∀ q, L2[thr']? = some q → ¬ lt6 q.1 p.1) := by
  intro m
  induction m with
  | zero =>
    intro thr fu e hf hb
    obtain ⟨fu, rfl⟩ : ∃ x, fu = x + 1 := ⟨fu - 1, by omega⟩
    have := h2.2.1
    rw [lp_T_shared_16, if_pos (nI_le (by omega) (by omega))]
    exact ⟨thr, by omega, rfl, hb, fun q hq => absurd (List.getElem?_eq_some_iff.mp hq).1 (by omega)⟩
  | succ m ih =>
    intro thr fu e hf hb
    obtain ⟨fu, rfl⟩ : ∃ x, fu = x + 1 := ⟨fu - 1, by omega⟩
    have hl2 := h2.2.1
    obtain ⟨q, hq⟩ : ∃ q, L2[thr]? = some q := ⟨_, List.getElem?_eq_getElem (by omega)⟩
    rw [lp_T_shared_16, if_neg (nI_ge (by omega) (by omega)), oO_s h1.2.1 hl2 hk (by omega) (h1.2.2 k p hp) (h2.2.2 thr q hq), Option.bind_some, nI_1]
    by_cases c : lt6 q.1 p.1
    · have n0 : ¬ lx p.1 q.1 ≤ 0 := fun z => by
        have a1 : ¬ lx p.1 q.1 < 0 := fun w => lt6_ir (lt6_tr c (lx_lt.mp w))
        have a2 : ¬ lx p.1 q.1 = 0 := fun w => by rw [lx_eq.mp w] at c; exact lt6_ir c
        exact a1 (lt_of_le_ne z a2)
      rw [if_neg n0]
      refine ih (thr + 1) fu (by omega) (by omega) (fun j r hj hr => ?_)
      by_cases ej : j = thr
      · subst ej
        rw [hq] at hr
        cases hr
        exact c
      · exact hb j r (by omega) hr
    · have n0 : lx p.1 q.1 ≤ 0 := by
        rcases lt6_tri p.1 q.1 with z | z | z
        · have := lx_lt.mpr z
          rw [Int32.lt_iff_toInt_lt] at this
          rw [Int32.le_iff_toInt_le]
          omega
        · rw [lx_eq.mpr z]; decide
        · exact absurd z c
      rw [if_pos n0]
      exact ⟨thr, by omega, rfl, hb, fun r hr => by rw [hq] at hr; cases hr; exact c⟩
theorem shared_7 {L1 L2 : List (P6 × Nat)} (h1 : TR ro (nI L1.length) L1) (h2 : TR rp (nI L2.length) L2) (s1 : srt L1) (s2 : srt L2) : ∀ (m k thr fu : Nat) (shd : Int32), k + m = L1.length → m < fu → thr ≤ L2.length → (∀ (j : Nat) (q : P6 × Nat), j < thr → L2[j]? = some q → ∀ p, L1[k]? = some p → lt6 q.1 p.1) →
    lp_T_shared_7 (nI L1.length) ro (nI L2.length) rp fu shd (nI thr) (nI k) = some (shd + cS L1 L2 m k) := by
  intro m
  have hl1 := h1.2.1
  have hl2 := h2.2.1
  induction m with
  | zero =>
    intro k thr fu shd e hf ht hb
    obtain ⟨fu, rfl⟩ : ∃ x, fu = x + 1 := ⟨fu - 1, by omega⟩
    rw [lp_T_shared_7, if_pos (nI_le (by omega) (by omega))]
    show _ = some (shd + 0)
    rw [Int32.add_zero]
  | succ m ih =>
    intro k thr fu shd e hf ht hb
    obtain ⟨fu, rfl⟩ : ∃ x, fu = x + 1 := ⟨fu - 1, by omega⟩
    obtain ⟨p, hp⟩ : ∃ p, L1[k]? = some p := ⟨_, List.getElem?_eq_getElem (by omega)⟩
    obtain ⟨thr', ht', e1, hb1, hb2⟩ := shared_16 h1 h2 (show k < L1.length by omega) hp (shd := shd) (L2.length - thr) thr 500 (by omega) (by omega) (fun j q hj hq => hb j q hj hq p hp)
    have hsort1 : ∀ r, L1[k + 1]? = some r → lt6 p.1 r.1 := fun r hr => by
      obtain ⟨a1, rfl⟩ := List.getElem?_eq_some_iff.mp hp
      obtain ⟨a2, rfl⟩ := List.getElem?_eq_some_iff.mp hr
      exact List.pairwise_iff_getElem.mp s1 k (k + 1) a1 a2 (by omega)
    have next : ∀ (j : Nat) (q : P6 × Nat), j < thr' → L2[j]? = some q → ∀ r, L1[k + 1]? = some r → lt6 q.1 r.1 := fun j q hj hq r hr => lt6_tr (hb1 j q hj hq) (hsort1 r hr)
    rw [lp_T_shared_7, if_neg (nI_ge (by omega) (by omega)), e1, Option.bind_some]
    dsimp only
    rw [cS_s hp, nI_1]
    by_cases c : thr' < L2.length
    · obtain ⟨q, hq⟩ : ∃ q, L2[thr']? = some q := ⟨_, List.getElem?_eq_getElem c⟩
      rw [if_neg (nI_ge c (by omega)), oO_s hl1 hl2 (by omega) c (h1.2.2 k p hp) (h2.2.2 thr' q hq), Option.bind_some, ih (k + 1) thr' fu _ (by omega) (by omega) ht' next, ih (k + 1) thr' fu _ (by omega) (by omega) ht' next]
      by_cases ce : lx p.1 q.1 = 0
      · rw [if_pos ce, if_pos (hit_t hq (lx_eq.mp ce).symm), Int32.add_assoc]
      · have hn : hit L2 p.1 = false := by
          refine hit_f fun j r hr er => ?_
          rcases Nat.lt_trichotomy j thr' with z | z | z
          · have := hb1 j r z hr; rw [er] at this; exact lt6_ir this
          · subst z; rw [hq] at hr; cases hr; exact ce (lx_eq.mpr er.symm)
          · obtain ⟨a1, e1'⟩ := List.getElem?_eq_some_iff.mp hq
            obtain ⟨a2, e2'⟩ := List.getElem?_eq_some_iff.mp hr
            have hlt := List.pairwise_iff_getElem.mp s2 thr' j a1 a2 z
            rw [e1', e2', er] at hlt
            exact hb2 q hq hlt
        rw [if_neg ce, hn, if_neg (show ¬ false = true by decide), Int32.zero_add]
    · have hn : hit L2 p.1 = false := by
        refine hit_f fun j r hr er => ?_
        have hj := (List.getElem?_eq_some_iff.mp hr).1
        have := hb1 j r (by omega) hr
        rw [er] at this
        exact lt6_ir this
      rw [if_pos (nI_le (by omega) (by omega)), ih (k + 1) thr' fu _ (by omega) (by omega) ht' next, hn, if_neg (show ¬ false = true by decide), Int32.zero_add]
theorem shared_s {L1 L2 : List (P6 × Nat)} (h1 : TR ro (nI L1.length) L1) (h2 : TR rp (nI L2.length) L2) (s1 : srt L1) (s2 : srt L2) : f_T_shared (nI L1.length) ro (nI L2.length) rp = some (cS L1 L2 L1.length 0) := by
  have := shared_7 h1 h2 s1 s2 L1.length 0 0 500 0 (by omega) (by have := h1.2.1; omega) (Nat.zero_le _) (fun j q hj => absurd hj (Nat.not_lt_zero j))
  rw [Int32.zero_add] at this
  exact this
end CM

