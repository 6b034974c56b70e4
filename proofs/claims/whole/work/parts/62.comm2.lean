-- common: the reference; both sides
section C5
variable {kn : Nat} {td lw : Nat → P6} {sy sh : Nat → Int32} {ac al : Nat → Int64} {ay as_ : Nat → Int32} {ro rp : Nat → Int64} {sz fc_ fn_ sq gc_ gn_ : Int32} {ra rb rc rx ry rz : Int64} {rs : Int32} {ax au at_ : Nat → Int64} {ao : Nat → Int32} {stp mus mc_ mb_ cm cl nn co mm : Int32}
theorem com_37 {many : Nat} (hm : many ≤ 455) : ∀ (m k fu : Nat) (at_ : Nat → Int64), k + m = 6 * many → m < fu → (∀ j, j < k → at_ j = au j) →
    ∃ at' z, lp_M_common_37 cm ac cl nn co mm fu (nI many) (nI k) stp mus ax au ao mc_ mb_ at_ = some (nI many, z, stp, mus, ax, au, ao, mc_, mb_, at') ∧ ∀ j, j < 6 * many → at' j = au j := by
  intro m
  induction m with
  | zero =>
    intro k fu at_ e hf h
    obtain ⟨fu, rfl⟩ : ∃ x, fu = x + 1 := ⟨fu - 1, by omega⟩
    rw [lp_M_common_37, nI_6, if_pos (nI_le (by omega) (by omega))]
    exact ⟨_, _, rfl, fun j hj => h j (by omega)⟩
  | succ m ih =>
    intro k fu at_ e hf h
    obtain ⟨fu, rfl⟩ : ∃ x, fu = x + 1 := ⟨fu - 1, by omega⟩
    rw [lp_M_common_37, nI_6, if_neg (nI_ge (by omega) (by omega)), if_pos (inb_nI (by omega) (by omega)), if_pos (inb_nI (by omega) (by omega)), nI_1, nI_clamp (by omega)]
    refine ih (k + 1) fu _ (by omega) (by omega) (fun j hj => ?_)
    by_cases c : j = k
    · subst c; exact up_s
    · rw [up_n c]; exact h j (by omega)
theorem c112_0 {n : Nat} {many al_ kk ii zz : Int32} : lp_M_common_112 cm ac cl nn co mm (n + 1) many al_ kk 0 ii zz stp mus ax au ao mc_ mb_ at_ = some (many, al_, kk, 0, ii, zz, stp, mus, ax, au, ao, mc_, mb_, at_) := by
  rw [lp_M_common_112]
  by_cases c : (6 : Int32) ≤ zz
  · rw [if_pos c]
  · rw [if_neg c, if_pos rfl]
theorem c112_s {n kk ii k : Nat} {many al_ : Int32} {p q : P6} (hk : k < 6) (h1 : kk < 455) (h2 : ii < 455) (hp : ∀ k, k < 6 → au (6 * kk + k) = a6 p k) (hq : ∀ k, k < 6 → at_ (6 * ii + k) = a6 q k) : lp_M_common_112 cm ac cl nn co mm (n + 1) many al_ (nI kk) 1 (nI ii) (nI k) stp mus ax au ao mc_ mb_ at_ =
    if a6 p k = a6 q k then lp_M_common_112 cm ac cl nn co mm n many al_ (nI kk) 1 (nI ii) (nI (k + 1)) stp mus ax au ao mc_ mb_ at_ else lp_M_common_112 cm ac cl nn co mm n many al_ (nI kk) 0 (nI ii) (nI (k + 1)) stp mus ax au ao mc_ mb_ at_ := by
  rw [lp_M_common_112, if_neg (six_le hk), if_neg (show ¬ (1 : Int32) = 0 by decide), nI_6, nI_6, nI_add, nI_add, if_pos (inb_nI (by omega) (by omega)), if_pos (inb_nI (by omega) (by omega)), nI_1, nI_clamp (by omega), nI_clamp (by omega), hp k hk, hq k hk]
  by_cases e : a6 p k = a6 q k
  · rw [if_pos e, if_pos (lg_eq.mpr e)]
  · rw [if_neg e, if_neg (fun z => e (lg_eq.mp z))]
theorem c112 {kk ii : Nat} {many al_ : Int32} {p q : P6} (h1 : kk < 455) (h2 : ii < 455) (hp : ∀ k, k < 6 → au (6 * kk + k) = a6 p k) (hq : ∀ k, k < 6 → at_ (6 * ii + k) = a6 q k) : ∃ zz, lp_M_common_112 cm ac cl nn co mm 7 many al_ (nI kk) 1 (nI ii) (0 : Int32) stp mus ax au ao mc_ mb_ at_ = some (many, al_, nI kk, (if p = q then 1 else 0), nI ii, zz, stp, mus, ax, au, ao, mc_, mb_, at_) := by
  rw [show (0 : Int32) = nI 0 from rfl]
  have no : ∀ {n k : Nat}, ¬ p = q → ∃ zz, lp_M_common_112 cm ac cl nn co mm (n + 1) many al_ (nI kk) (0 : Int32) (nI ii) (nI (k + 1)) stp mus ax au ao mc_ mb_ at_ = some (many, al_, nI kk, (if p = q then 1 else (0 : Int32)), nI ii, zz, stp, mus, ax, au, ao, mc_, mb_, at_) := fun hn => ⟨_, by rw [if_neg hn]; exact c112_0⟩
  rw [c112_s (by decide) h1 h2 hp hq]
  by_cases k0 : a6 p 0 = a6 q 0
  rotate_left
  · rw [if_neg k0]; exact no (fun z => k0 (by rw [z]))
  rw [if_pos k0, c112_s (by decide) h1 h2 hp hq]
  by_cases k1 : a6 p (0 + 1) = a6 q (0 + 1)
  rotate_left
  · rw [if_neg k1]; exact no (fun z => k1 (by rw [z]))
  rw [if_pos k1, c112_s (by decide) h1 h2 hp hq]
  by_cases k2 : a6 p (0 + 1 + 1) = a6 q (0 + 1 + 1)
  rotate_left
  · rw [if_neg k2]; exact no (fun z => k2 (by rw [z]))
  rw [if_pos k2, c112_s (by decide) h1 h2 hp hq]
  by_cases k3 : a6 p (0 + 1 + 1 + 1) = a6 q (0 + 1 + 1 + 1)
  rotate_left
  · rw [if_neg k3]; exact no (fun z => k3 (by rw [z]))
  rw [if_pos k3, c112_s (by decide) h1 h2 hp hq]
  by_cases k4 : a6 p (0 + 1 + 1 + 1 + 1) = a6 q (0 + 1 + 1 + 1 + 1)
  rotate_left
  · rw [if_neg k4]; exact no (fun z => k4 (by rw [z]))
  rw [if_pos k4, c112_s (by decide) h1 h2 hp hq]
  by_cases k5 : a6 p (0 + 1 + 1 + 1 + 1 + 1) = a6 q (0 + 1 + 1 + 1 + 1 + 1)
  rotate_left
  · rw [if_neg k5]; exact no (fun z => k5 (by rw [z]))
  have hpq : p = q := Eq6_iff.mp ⟨k0, by rw [← a6_1, ← a6_1]; exact k1, by rw [← a6_2, ← a6_2]; exact k2, by rw [← a6_3, ← a6_3]; exact k3, by rw [← a6_4, ← a6_4]; exact k4, by rw [← a6_5, ← a6_5]; exact k5⟩
  rw [if_pos k5, lp_M_common_112, if_pos (show (6 : Int32) ≤ nI (0 + 1 + 1 + 1 + 1 + 1 + 1) by decide), if_pos hpq]
  exact ⟨_, rfl⟩
theorem com_94 {L2 : List (P6 × Nat)} (hl : L2.length ≤ 455) {kk : Nat} {al_ : Int32} {p : P6} (h1 : kk < 455) (hp : ∀ k, k < 6 → au (6 * kk + k) = a6 p k) (hq : ∀ (i : Nat) (q : P6 × Nat), L2[i]? = some q → ∀ k, k < 6 → at_ (6 * i + k) = a6 q.1 k) : ∀ (m ii fu : Nat), ii + m = L2.length → m < fu → (∀ (j : Nat) (q : P6 × Nat), j < ii → L2[j]? = some q → q.1 ≠ p) →
    ∃ zz, lp_M_common_94 cm ac cl nn co mm fu (nI L2.length) al_ (nI kk) 0 (nI ii) stp mus ax au ao mc_ mb_ at_ = some (nI L2.length, al_, nI kk, (if hit L2 p = true then 1 else 0), zz, stp, mus, ax, au, ao, mc_, mb_, at_) := by
  intro m
  induction m with
  | zero =>
    intro ii fu e hf hb
    obtain ⟨fu, rfl⟩ : ∃ x, fu = x + 1 := ⟨fu - 1, by omega⟩
    rw [lp_M_common_94, if_pos (nI_le (by omega) (by omega)), hit_f (fun j q hq' => hb j q (by have := (List.getElem?_eq_some_iff.mp hq').1; omega) hq'), if_neg (show ¬ false = true by decide)]
    exact ⟨_, rfl⟩
  | succ m ih =>
    intro ii fu e hf hb
    obtain ⟨fu, rfl⟩ : ∃ x, fu = x + 1 := ⟨fu - 1, by omega⟩
    obtain ⟨q, hq1⟩ : ∃ q, L2[ii]? = some q := ⟨_, List.getElem?_eq_getElem (by omega)⟩
    obtain ⟨zz, ez'⟩ := c112 (cm := cm) (ac := ac) (cl := cl) (nn := nn) (co := co) (mm := mm) (stp := stp) (mus := mus) (ax := ax) (ao := ao) (mc_ := mc_) (mb_ := mb_) (many := nI L2.length) (al_ := al_) h1 (show ii < 455 by omega) hp (hq ii q hq1)
    rw [lp_M_common_94, if_neg (nI_ge (by omega) (by omega)), if_pos rfl, ez', Option.bind_some]
    dsimp only
    rw [nI_1]
    by_cases c : p = q.1
    · rw [if_pos c, hit_t hq1 c.symm, if_pos rfl]
      obtain ⟨fu, rfl⟩ : ∃ x, fu = x + 1 := ⟨fu - 1, by omega⟩
      rw [lp_M_common_94]
      by_cases d : nI L2.length ≤ nI (ii + 1)
      · rw [if_pos d]; exact ⟨_, rfl⟩
      · rw [if_neg d, if_neg (show ¬ (1 : Int32) = 0 by decide)]; exact ⟨_, rfl⟩
    · rw [if_neg c]
      refine ih (ii + 1) fu (by omega) (by omega) (fun j r hj hr => ?_)
      by_cases ej : j = ii
      · subst ej
        rw [hq1] at hr
        cases hr
        exact fun z => c z.symm
      · exact hb j r (by omega) hr
theorem com_79 {L1 L2 : List (P6 × Nat)} (hM : MR au ao (nI L1.length) L1) (hl : L2.length ≤ 455) (hq : ∀ (i : Nat) (q : P6 × Nat), L2[i]? = some q → ∀ k, k < 6 → at_ (6 * i + k) = a6 q.1 k) : ∀ (m k fu : Nat) (al_ : Int32), k + m = L1.length → m < fu →
    lp_M_common_79 cm ac cl nn co mm fu (nI L2.length) al_ (nI k) stp (nI L1.length) ax au ao mc_ mb_ at_ = some (al_ + cS L1 L2 m k, stp, nI L1.length, ax, au, ao, mc_, mb_, at_) := by
  intro m
  have hl1 := hM.2.1
  induction m with
  | zero =>
    intro k fu al_ e hf
    obtain ⟨fu, rfl⟩ : ∃ x, fu = x + 1 := ⟨fu - 1, by omega⟩
    rw [lp_M_common_79, if_pos (nI_le (by omega) (by omega))]
    show _ = some (al_ + 0, _)
    rw [Int32.add_zero]
  | succ m ih =>
    intro k fu al_ e hf
    obtain ⟨fu, rfl⟩ : ∃ x, fu = x + 1 := ⟨fu - 1, by omega⟩
    obtain ⟨p, hp⟩ : ∃ p, L1[k]? = some p := ⟨_, List.getElem?_eq_getElem (by omega)⟩
    obtain ⟨zz, e1⟩ := com_94 (cm := cm) (ac := ac) (cl := cl) (nn := nn) (co := co) (mm := mm) (stp := stp) (mus := nI L1.length) (ax := ax) (ao := ao) (mc_ := mc_) (mb_ := mb_) (al_ := al_) hl (show k < 455 by omega) (hM.2.2 k p hp).1 hq L2.length 0 501 (by omega) (by omega) (fun j q hj => absurd hj (Nat.not_lt_zero j))
    have e2 : lp_M_common_94 cm ac cl nn co mm 501 (nI L2.length) al_ (nI k) (0 : Int32) (0 : Int32) stp (nI L1.length) ax au ao mc_ mb_ at_ = _ := e1
    rw [lp_M_common_79, if_neg (nI_ge (by omega) (by omega)), e2, Option.bind_some]
    dsimp only
    rw [nI_1, cS_s hp, ih (k + 1) fu _ (by omega) (by omega), ih (k + 1) fu _ (by omega) (by omega)]
    by_cases c : hit L2 p.1 = true
    · rw [if_pos c, if_neg (show ¬ (1 : Int32) = 0 by decide), Int32.add_assoc]
    · rw [if_neg c, if_pos rfl, Int32.add_zero, Int32.zero_add]
/-- common, on both sides -/
theorem common_s (hk : kn ≤ 40) (hC : CR kn td lw sy sh ac al ay as_) (hg : ∀ i, i < kn → GM (td i) (lw i)) (hT : TC kn lw ro sz fc_ fn_) (hT' : TC kn lw rp sq gc_ gn_) (hM : MC kn lw au ao mus mc_ mb_) (cl nn co mm : Int32) :
    ∃ r ro' sz' fc' fn' rp' sq' gc' gn' a b c x y z s' stp' mus' ax' au' ao' mc' mb' at', f_B_common td lw sy sh kn ro sz fc_ fn_ rp sq gc_ gn_ ra rb rc rx ry rz rs cl nn co mm = some (r, ro', sz', fc', fn', rp', sq', gc', gn', a, b, c, x, y, z, s') ∧ f_M_common (nI kn) ac stp mus ax au ao mc_ mb_ at_ cl nn co mm = some (r, stp', mus', ax', au', ao', mc', mb', at') ∧ TC kn lw ro' sz' fc' fn' ∧ TC kn lw rp' sq' gc' gn' ∧ MC kn lw au' ao' mus' mc' mb' := by
  unfold f_B_common f_M_common
  by_cases hb : inb cl kn = true
  rotate_left
  · rw [if_neg hb, isM_o hk hb, if_pos rfl]
    by_cases hb2 : inb co kn = true
    · rw [if_pos hb2]
      exact ⟨_, _, _, _, _, _, _, _, _, _, _, _, _, _, _, _, _, _, _, _, _, _, _, _, rfl, rfl, hT, hT', hM⟩
    · rw [if_neg hb2]
      exact ⟨_, _, _, _, _, _, _, _, _, _, _, _, _, _, _, _, _, _, _, _, _, _, _, _, rfl, rfl, hT, hT', hM⟩
  rw [if_pos hb]
  by_cases hb2 : inb co kn = true
  rotate_left
  · rw [if_neg hb2]
    by_cases hm0 : f_M_isMul (nI kn) cl nn = 0
    · rw [if_pos hm0]
      exact ⟨_, _, _, _, _, _, _, _, _, _, _, _, _, _, _, _, _, _, _, _, _, _, _, _, rfl, rfl, hT, hT', hM⟩
    · rw [if_neg hm0, isM_o hk hb2, if_pos rfl]
      exact ⟨_, _, _, _, _, _, _, _, _, _, _, _, _, _, _, _, _, _, _, _, _, _, _, _, rfl, rfl, hT, hT', hM⟩
  rw [if_pos hb2]
  by_cases hm : f_isMultiplier nn = 0
  · rw [if_pos hm, isM_t hm, if_pos rfl]
    exact ⟨_, _, _, _, _, _, _, _, _, _, _, _, _, _, _, _, _, _, _, _, _, _, _, _, rfl, rfl, hT, hT', hM⟩
  rw [if_neg hm, if_neg (isM_c hk hm hb)]
  by_cases hm2 : f_isMultiplier mm = 0
  · rw [if_pos hm2, isM_t hm2, if_pos rfl]
    exact ⟨_, _, _, _, _, _, _, _, _, _, _, _, _, _, _, _, _, _, _, _, _, _, _, _, rfl, rfl, hT, hT', hM⟩
  rw [if_neg hm2, if_neg (isM_c hk hm2 hb2)]
  obtain ⟨c, hc, rfl⟩ := inb_of hb
  obtain ⟨n, hn1, hn, rfl⟩ := isM_f hm
  obtain ⟨c2', hc2, rfl⟩ := inb_of hb2
  obtain ⟨n2, hn21, hn2, rfl⟩ := isM_f hm2
  have hcl : (nI c).toNatClampNeg = c := nI_clamp (by omega)
  have hcl2 : (nI c2').toNatClampNeg = c2' := nI_clamp (by omega)
  rw [hcl, hcl2]
  obtain ⟨ro', a, b, c', x, y, z, s', e1, hT1⟩ := fill_s (ra := ra) (rb := rb) (rc := rc) (rx := rx) (ry := ry) (rz := rz) (rs := rs) hT hk hc hn1 hn
  rw [e1, Option.bind_some]
  dsimp only
  obtain ⟨rp', a2, b2, c3, x2, y2, z2, s2, e2, hT2⟩ := fill_s (ra := a) (rb := b) (rc := c') (rx := x) (ry := y) (rz := z) (rs := s') hT' hk hc2 hn21 hn2
  rw [e2, Option.bind_some]
  dsimp only
  rw [shared_s hT1 hT2 ML_srt ML_srt, Option.bind_some]
  obtain ⟨st1, ax1, au1, ao1, e3, hM1⟩ := mult_s (stp := stp) (ax := ax) hM hk hc2 (hC c2' hc2).1.1 (hg c2' hc2) hn21 hn2
  rw [e3, Option.bind_some]
  dsimp only
  obtain ⟨at', zz, e4, hat⟩ := com_37 (cm := nI kn) (ac := ac) (cl := nI c) (nn := nI n) (co := nI c2') (mm := nI n2) (stp := st1) (mus := nI (ML (lw c2') n2).length) (ax := ax1) (au := au1) (ao := ao1) (mc_ := nI c2') (mb_ := nI n2) (many := (ML (lw c2') n2).length) (ML_len hn2) (6 * (ML (lw c2') n2).length) 0 3001 at_ (by omega) (by have := ML_len (l := lw c2') hn2; omega) (fun j hj => absurd hj (Nat.not_lt_zero j))
  have e5 : lp_M_common_37 (nI kn) ac (nI c) (nI n) (nI c2') (nI n2) 3001 (nI (ML (lw c2') n2).length) (0 : Int32) st1 (nI (ML (lw c2') n2).length) ax1 au1 ao1 (nI c2') (nI n2) at_ = _ := e4
  rw [e5, Option.bind_some]
  dsimp only
  have hMC : MC kn lw au1 ao1 (nI (ML (lw c2') n2).length) (nI c2') (nI n2) := Or.inr ⟨c2', n2, hc2, hn21, hn2, rfl, rfl, hM1⟩
  obtain ⟨st2, ax2, au2, ao2, e6, hM2⟩ := mult_s (stp := st1) (ax := ax1) hMC hk hc (hC c hc).1.1 (hg c hc) hn1 hn
  rw [e6, Option.bind_some]
  dsimp only
  have hq : ∀ (i : Nat) (q : P6 × Nat), (ML (lw c2') n2)[i]? = some q → ∀ k, k < 6 → at' (6 * i + k) = a6 q.1 k := fun i q hiq k hk' => by
    have hi := (List.getElem?_eq_some_iff.mp hiq).1
    rw [hat (6 * i + k) (by omega)]
    exact (hM1.2.2 i q hiq).1 k hk'
  have e7 := com_79 (cm := nI kn) (ac := ac) (cl := nI c) (nn := nI n) (co := nI c2') (mm := nI n2) (stp := st2) (ax := ax2) (mc_ := nI c) (mb_ := nI n) hM2 (ML_len (l := lw c2') hn2) hq (ML (lw c) n).length 0 501 0 (by omega) (by have := ML_len (l := lw c) hn; omega)
  rw [Int32.zero_add] at e7
  have e8 : lp_M_common_79 (nI kn) ac (nI c) (nI n) (nI c2') (nI n2) 501 (nI (ML (lw c2') n2).length) (0 : Int32) (0 : Int32) st2 (nI (ML (lw c) n).length) ax2 au2 ao2 (nI c) (nI n) at' = _ := e7
  rw [e8]
  exact ⟨_, _, _, _, _, _, _, _, _, _, _, _, _, _, _, _, _, _, _, _, _, _, _, _, rfl, rfl, Or.inr ⟨c, n, hc, hn1, hn, rfl, rfl, hT1⟩, Or.inr ⟨c2', n2, hc2, hn21, hn2, rfl, rfl, hT2⟩, Or.inr ⟨c, n, hc, hn1, hn, rfl, rfl, hM2⟩⟩
end C5

