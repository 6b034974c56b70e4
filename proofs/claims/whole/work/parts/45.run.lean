-- both sides' turns to the end
theorem nI_zero (r : Int32) : r + nI 0 = r := by
  rw [nI_0]
  exact Int32.add_zero r
theorem nI_snoc (r : Int32) (d : Nat) : r + 1 + nI d = r + nI (d + 1) := by
  rw [← nI_1 d, Int32.add_assoc, Int32.add_comm 1 (nI d)]
theorem lim_lt {tu : Nat} (h : tu < 1000000) : ¬ (1000000 : Int32) ≤ nI tu := fun q => by
  have := (nI_leI (a := 1000000) (b := tu) (by decide) (by omega)).mp q
  omega
set_option maxHeartbeats 4000000 in
theorem R_run_z : ∀ (m : Nat) {q : Z6} {r : Z6 × Nat} {tu : Nat} {rs : Int32} (j : Nat), PDz q → sumz q ≤ 1000000000 → zrun m q = some r → tu + m ≤ 1000000 →
    lp_R_run_7 (m + j) (nI tu) (zL q.1) (zL q.2.1) (zL q.2.2.1) (zL q.2.2.2.1) (zL q.2.2.2.2.1) (zL q.2.2.2.2.2) rs = some (zL r.1.1, zL r.1.2.1, zL r.1.2.2.1, zL r.1.2.2.2.1, zL r.1.2.2.2.2.1, zL r.1.2.2.2.2.2, rs + nI r.2) := by
  intro m
  induction m with
  | zero => intro q r tu rs j _ _ h; cases h
  | succ m ih =>
    intro q r tu rs j hp hs h ht
    have k := tnz_keep hp
    rw [show m + 1 + j = (m + j) + 1 by omega, R_turn_s (PD.sm hp hs) (lim_lt (by omega))]
    show (if (tnz q).1 = 0 then some (zL (tnz q).2.1, zL (tnz q).2.2.1, zL (tnz q).2.2.2.1, zL (tnz q).2.2.2.2.1, zL (tnz q).2.2.2.2.2.1, zL (tnz q).2.2.2.2.2.2, rs)
      else lp_R_run_7 (m + j) (nI tu + 1) (zL (tnz q).2.1) (zL (tnz q).2.2.1) (zL (tnz q).2.2.2.1) (zL (tnz q).2.2.2.2.1) (zL (tnz q).2.2.2.2.2.1) (zL (tnz q).2.2.2.2.2.2) (if (tnz q).1 = 1 then rs else rs + 1)) = _
    rw [zrun] at h
    by_cases c0 : (tnz q).1 = 0
    · rw [if_pos c0] at h ⊢
      cases h
      rw [nI_zero]
    · rw [if_neg c0] at h ⊢
      rcases e : zrun m (tnz q).2 with _ | s
      · rw [e] at h; cases h
      rw [e] at h
      have hr := Option.some.inj h
      rw [nI_1, ih (tu := tu + 1) j k.1 (Int.le_trans k.2.1 hs) e (by omega), ← hr]
      dsimp only
      by_cases c1' : (tnz q).1 = 1
      · rw [if_pos c1', if_pos c1']
      · rw [if_neg c1', if_neg c1', nI_snoc]
def V6z (ax : Nat → Int64) (q : Z6) : Prop := V6 ax q.1 q.2.1 q.2.2.1 q.2.2.2.1 q.2.2.2.2.1 q.2.2.2.2.2
set_option maxHeartbeats 4000000 in
theorem M_red_z : ∀ (m : Nat) {q : Z6} {r : Z6 × Nat} {ax : Nat → Int64} {stp : Int32} (j : Nat), PDz q → sumz q ≤ 1000000000 → V6z ax q → zrun m q = some r →
    ∃ v, lp_M_reduce_32 (m + 1 + j) (1 : Int32) ax stp = some ((0 : Int32), v, stp + nI r.2) ∧ V6z v r.1 := by
  intro m
  induction m with
  | zero => intro q r ax stp j _ _ _ h; cases h
  | succ m ih =>
    intro q r ax stp j hp hs hv h
    have k := tnz_keep hp
    obtain ⟨v, ev, hV⟩ := M_goes_s (stp := stp) (PD.sm hp hs) (PD.ga hp) (PD.gb hp) hv
    rw [show m + 1 + 1 + j = (m + 1 + j) + 1 by omega, lp_M_reduce_32, if_neg (show ¬ (1 : Int32) = 0 by decide), ev, Option.bind_some]
    show ∃ w, lp_M_reduce_32 (m + 1 + j) (if (tnz q).1 = 0 then (0 : Int32) else 1) v (if (tnz q).1 = 2 then stp + 1 else stp) = _ ∧ _
    rw [zrun] at h
    by_cases c0 : (tnz q).1 = 0
    · rw [if_pos c0] at h
      cases h
      rw [if_pos c0, if_neg (show ¬ (tnz q).1 = 2 by omega), show m + 1 + j = (m + j) + 1 by omega, lp_M_reduce_32, if_pos rfl, nI_zero]
      exact ⟨v, rfl, hV⟩
    · rw [if_neg c0] at h
      rw [if_neg c0]
      rcases e : zrun m (tnz q).2 with _ | s
      · rw [e] at h; cases h
      rw [e] at h
      have hr := Option.some.inj h
      obtain ⟨w, ew, hw⟩ := ih (stp := if (tnz q).1 = 2 then stp + 1 else stp) j k.1 (Int.le_trans k.2.1 hs) hV e
      refine ⟨w, ?_, ?_⟩
      · rw [ew, ← hr]
        dsimp only
        by_cases c1' : (tnz q).1 = 1
        · rw [if_pos c1', if_neg (show ¬ (tnz q).1 = 2 by omega)]
        · rw [if_neg c1', if_pos (show (tnz q).1 = 2 by have := k.2.2; omega), nI_snoc]
      · rw [← hr]
        exact hw
-- a form by its six numbers: above 0 if the three determinants are
theorem PD_of {a b c d e f : Int} (ha : 0 < a) (h2 : 0 < a * b - f * f) (h3 : 0 < a * (b * c - d * d) - f * (f * c - d * e) + e * (f * d - b * e)) : PD a b c (2 * d) (2 * e) (2 * f) := by
  intro i j k hn
  have key : (a * (a * b - f * f)) * (a * i * i + b * j * j + c * k * k + 2 * d * j * k + 2 * e * i * k + 2 * f * i * j) =
      (a * b - f * f) * ((a * i + f * j + e * k) * (a * i + f * j + e * k)) + ((a * b - f * f) * j + (a * d - e * f) * k) * ((a * b - f * f) * j + (a * d - e * f) * k) + (a * (a * (b * c - d * d) - f * (f * c - d * e) + e * (f * d - b * e))) * (k * k) := by grind
  have sq : ∀ t : Int, 0 ≤ t * t := fun t => by
    rcases Int.le_total 0 t with h | h
    · exact Int.mul_nonneg h h
    · exact Int.mul_nonneg_of_nonpos_of_nonpos h h
  have sqp : ∀ t : Int, t ≠ 0 → 0 < t * t := fun t ht => by
    rcases Int.lt_or_gt_of_ne ht with h | h
    · exact Int.mul_pos_of_neg_of_neg h h
    · exact Int.mul_pos h h
  have ham := Int.mul_pos ha h2
  have had := Int.mul_pos ha h3
  refine Int.lt_of_not_ge fun hq => ?_
  have hle := Int.mul_nonpos_of_nonneg_of_nonpos (Int.le_of_lt ham) hq
  rw [key] at hle
  have t1 := Int.mul_nonneg (Int.le_of_lt h2) (sq (a * i + f * j + e * k))
  have t2 := sq ((a * b - f * f) * j + (a * d - e * f) * k)
  have t3 := Int.mul_nonneg (Int.le_of_lt had) (sq k)
  have hk : k = 0 := by
    refine Decidable.byContradiction fun hk => ?_
    have := Int.mul_pos had (sqp k hk)
    omega
  have hj : j = 0 := by
    refine Decidable.byContradiction fun hj => ?_
    have hm : (a * b - f * f) * j + (a * d - e * f) * k ≠ 0 := by
      rw [hk, Int.mul_zero, Int.add_zero]
      exact Int.mul_ne_zero (by omega) hj
    have := sqp _ hm
    omega
  have hi : i = 0 := by
    refine Decidable.byContradiction fun hi => ?_
    have hm : a * i + f * j + e * k ≠ 0 := by
      rw [hk, hj, Int.mul_zero, Int.mul_zero, Int.add_zero, Int.add_zero]
      exact Int.mul_ne_zero (by omega) hi
    have := Int.mul_pos h2 (sqp _ hm)
    omega
  omega

