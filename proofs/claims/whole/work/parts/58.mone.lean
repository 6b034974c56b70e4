-- one multiple of the reference
def dz (a b c d e f x y z u v w : Int) : Int := a * x * u + b * y * v + c * z * w + d * (y * w + z * v) + e * (x * w + z * u) + f * (x * v + y * u)
theorem prod_z (a b c d e f x y z u v w : Int) : f_P_prod (zL a) (zL b) (zL c) (zL d) (zL e) (zL f) (zL x) (zL y) (zL z) (zL u) (zL v) (zL w) = zL (dz a b c d e f x y z u v w) := by
  unfold f_P_prod dz
  simp only [zL_mul, zL_add]
theorem tlN {n : Nat} (h : n < 2 ^ 31) : (nI n).toInt64 = zL n := by
  rw [tl, nI_toInt h]
/-- the form of a multiple -/
def ez (a b c d e f : Int) (p q r s t u : Int) : Z6 := (dz a b c d e f p 0 0 p 0 0, dz a b c d e f q r 0 q r 0, dz a b c d e f s t u s t u, 2 * dz a b c d e f q r 0 s t u, 2 * dz a b c d e f p 0 0 s t u, 2 * dz a b c d e f p 0 0 q r 0)
theorem ez_PD {a b c d e f p q r s t u : Int} (h : PD a b c (2 * d) (2 * e) (2 * f)) (hp : 1 ≤ p) (hr : 1 ≤ r) (hu : 1 ≤ u) : PDz (ez a b c d e f p q r s t u) := by
  intro i j k hn
  have hne : p * i + q * j + s * k ≠ 0 ∨ r * j + t * k ≠ 0 ∨ u * k ≠ 0 := by
    by_cases hk : k = 0
    · by_cases hj : j = 0
      · left
        rw [hk, hj, Int.mul_zero, Int.mul_zero, Int.add_zero, Int.add_zero]
        exact Int.mul_ne_zero (by omega) (by omega)
      · right; left
        rw [hk, Int.mul_zero, Int.add_zero]
        exact Int.mul_ne_zero (by omega) hj
    · right; right
      exact Int.mul_ne_zero (by omega) hk
  have := h (p * i + q * j + s * k) (r * j + t * k) (u * k) hne
  unfold ez dz
  dsimp only
  grind
theorem dz_b {a b c d e f x y z u v w : Int} (ha : -10000 ≤ a ∧ a ≤ 10000) (hb : -10000 ≤ b ∧ b ≤ 10000) (hc : -10000 ≤ c ∧ c ≤ 10000) (hd : -10000 ≤ d ∧ d ≤ 10000) (he : -10000 ≤ e ∧ e ≤ 10000) (hf : -10000 ≤ f ∧ f ≤ 10000)
    (hx : -12 ≤ x ∧ x ≤ 12) (hy : -12 ≤ y ∧ y ≤ 12) (hz : -12 ≤ z ∧ z ≤ 12) (hu : -12 ≤ u ∧ u ≤ 12) (hv : -12 ≤ v ∧ v ≤ 12) (hw : -12 ≤ w ∧ w ≤ 12) : dz a b c d e f x y z u v w ≤ 20000000 := by
  have m1 := mb (mb ha hx) hu
  have m2 := mb (mb hb hy) hv
  have m3 := mb (mb hc hz) hw
  have n1 := mb hy hw
  have n2 := mb hz hv
  have n3 := mb hx hw
  have n4 := mb hz hu
  have n5 := mb hx hv
  have n6 := mb hy hu
  have k1 := mb (X := 10000) (Y := 288) (x := d) (y := y * w + z * v) hd ⟨by omega, by omega⟩
  have k2 := mb (X := 10000) (Y := 288) (x := e) (y := x * w + z * u) he ⟨by omega, by omega⟩
  have k3 := mb (X := 10000) (Y := 288) (x := f) (y := x * v + y * u) hf ⟨by omega, by omega⟩
  unfold dz
  omega
def hz (q : Z6) : P6 := (zL q.1, zL q.2.1, zL q.2.2.1, zL q.2.2.2.1 / 2, zL q.2.2.2.2.1 / 2, zL q.2.2.2.2.2 / 2)
theorem V6h_x {v : Nat → Int64} {q : Z6} (h : V6h v q) : x6 v = hz q := by
  obtain ⟨h0, h1, h2, h3, h4, h5⟩ := h
  unfold x6 hz
  rw [h0, h1, h2, h3, h4, h5]
section ON
variable {ax au ac : Nat → Int64} {ao : Nat → Int32} {stp : Int32} {a b c d e f : Int}
theorem dot_e {i x y z u v w : Nat} (hi : i < 40) (h : row6 ac i (zL a, zL b, zL c, zL d, zL e, zL f)) (hx : x < 2 ^ 31) (hy : y < 2 ^ 31) (hz : z < 2 ^ 31) (hu : u < 2 ^ 31) (hv : v < 2 ^ 31) (hw : w < 2 ^ 31) : f_M_dot ac (nI (6 * i)) (nI x).toInt64 (nI y).toInt64 (nI z).toInt64 (nI u).toInt64 (nI v).toInt64 (nI w).toInt64 = some (zL (dz a b c d e f x y z u v w)) := by
  rw [dot_s hi h, tlN hx, tlN hy, tlN hz, tlN hu, tlN hv, tlN hw]
  show some (f_P_prod (zL a) (zL b) (zL c) (zL d) (zL e) (zL f) _ _ _ _ _ _) = _
  rw [prod_z]
theorem z64 : (0 : Int64) = (nI 0).toInt64 := by decide
/-- the end of oneMultiple: search and insert -/
theorem one_end {L : List (P6 × Nat)} {a0 ep eq er es et eu : Int32} (hM : MR au ao (nI L.length) L) (hs : srt L) (hl : (ins L (x6 ax)).length ≤ 455) :
    ∃ au' ao', Option.bind (lp_M_one_170 ac a0 ep eq er es et eu 501 (nI L.length) stp (nI L.length) ax au ao) (fun z_91 => (if z_91.1 ≤ 0 then (Option.bind (lp_M_one_233 ac a0 ep eq er es et eu 3001 z_91.1 (((6 : Int32) * z_91.2.2.1) - (1 : Int32)) z_91.2.1 z_91.2.2.1 z_91.2.2.2.1 z_91.2.2.2.2.1 z_91.2.2.2.2.2) (fun z_56 => (Option.bind (lp_M_one_272 ac a0 ep eq er es et eu 501 z_56.1 z_56.2.2.2.1 z_56.2.2.1 z_56.2.2.2.1 z_56.2.2.2.2.1 z_56.2.2.2.2.2.1 z_56.2.2.2.2.2.2) (fun z_55 => (if inb z_55.1 500 = true then (lp_M_one_312 ac a0 ep eq er es et eu 8 z_55.1 (0 : Int32) z_55.2.2.1 z_55.2.2.2.1 z_55.2.2.2.2.1 z_55.2.2.2.2.2.1 (upd z_55.2.2.2.2.2.2 z_55.1.toNatClampNeg (1 : Int32))) else none))))) else (Option.bind (f_M_comp z_91.2.2.2.1 z_91.2.2.2.2.1 (z_91.1 - (1 : Int32))) (fun z_90 => (if z_90 = 0 then (if inb (z_91.1 - (1 : Int32)) 500 = true then (if inb (z_91.1 - (1 : Int32)) 500 = true then (some (z_91.2.1, z_91.2.2.1, z_91.2.2.2.1, z_91.2.2.2.2.1, upd z_91.2.2.2.2.2 (z_91.1 - (1 : Int32)).toNatClampNeg ((z_91.2.2.2.2.2 (z_91.1 - (1 : Int32)).toNatClampNeg) + (1 : Int32)))) else none) else none) else (Option.bind (lp_M_one_233 ac a0 ep eq er es et eu 3001 z_91.1 (((6 : Int32) * z_91.2.2.1) - (1 : Int32)) z_91.2.1 z_91.2.2.1 z_91.2.2.2.1 z_91.2.2.2.2.1 z_91.2.2.2.2.2) (fun z_87 => (Option.bind (lp_M_one_272 ac a0 ep eq er es et eu 501 z_87.1 z_87.2.2.2.1 z_87.2.2.1 z_87.2.2.2.1 z_87.2.2.2.2.1 z_87.2.2.2.2.2.1 z_87.2.2.2.2.2.2) (fun z_86 => (if inb z_86.1 500 = true then (lp_M_one_312 ac a0 ep eq er es et eu 8 z_86.1 (0 : Int32) z_86.2.2.1 z_86.2.2.2.1 z_86.2.2.2.2.1 z_86.2.2.2.2.2.1 (upd z_86.2.2.2.2.2.2 z_86.1.toNatClampNeg (1 : Int32))) else none)))))))))) = some (stp, nI (ins L (x6 ax)).length, ax, au', ao') ∧ MR au' ao' (nI (ins L (x6 ax)).length) (ins L (x6 ax)) := by
  have hlen := hM.2.1
  obtain ⟨pos, hpos, e1, h1, h2⟩ := one_170 (ac := ac) (a0 := a0) (ep := ep) (eq := eq) (er := er) (es := es) (et := et) (eu := eu) (stp := stp) (mus := nI L.length) (ax := ax) hM L.length 501 (Nat.le_refl _) (by omega) (fun i p hi hp => absurd (List.getElem?_eq_some_iff.mp hp).1 (by omega))
  rw [e1, Option.bind_some]
  dsimp only
  have hsort : ∀ (i j : Nat) (p q : P6 × Nat), i < j → L[i]? = some p → L[j]? = some q → lt6 p.1 q.1 := fun i j p q hij hp hq => by
    obtain ⟨hi, rfl⟩ := List.getElem?_eq_some_iff.mp hp
    obtain ⟨hj, rfl⟩ := List.getElem?_eq_some_iff.mp hq
    exact List.pairwise_iff_getElem.mp hs i j hi hj hij
  have put : (∀ i p, i < pos → L[i]? = some p → lt6 p.1 (x6 ax)) → ∃ au' ao', Option.bind (lp_M_one_233 ac a0 ep eq er es et eu 3001 (nI pos) (((6 : Int32) * nI L.length) - (1 : Int32)) stp (nI L.length) ax au ao) (fun z_56 => (Option.bind (lp_M_one_272 ac a0 ep eq er es et eu 501 z_56.1 z_56.2.2.2.1 z_56.2.2.1 z_56.2.2.2.1 z_56.2.2.2.2.1 z_56.2.2.2.2.2.1 z_56.2.2.2.2.2.2) (fun z_55 => (if inb z_55.1 500 = true then (lp_M_one_312 ac a0 ep eq er es et eu 8 z_55.1 (0 : Int32) z_55.2.2.1 z_55.2.2.2.1 z_55.2.2.2.2.1 z_55.2.2.2.2.2.1 (upd z_55.2.2.2.2.2.2 z_55.1.toNatClampNeg (1 : Int32))) else none)))) = some (stp, nI (ins L (x6 ax)).length, ax, au', ao') ∧ MR au' ao' (nI (ins L (x6 ax)).length) (ins L (x6 ax)) := by
    intro hb
    have en := ins_new pos hpos hb (fun p hp => h1 pos p (Nat.le_refl _) hp)
    have hlen2 : (L.take pos ++ (x6 ax, 1) :: L.drop pos).length = L.length + 1 := by
      rw [List.length_append, List.length_cons, List.length_take, List.length_drop]; omega
    rw [en, hlen2] at hl
    obtain ⟨kk, e2⟩ := one_233 (ac := ac) (a0 := a0) (ep := ep) (eq := eq) (er := er) (es := es) (et := et) (eu := eu) (stp := stp) (mus := nI L.length) (ax := ax) (au := au) (ao := ao) (ii := pos) (hi := 6 * L.length) (by omega) (6 * L.length - 6 * pos) (6 * L.length) 3001 (by omega) (Nat.le_refl _) (by omega)
    have s0 : sft au (6 * L.length) (6 * L.length) = au := by
      funext j
      unfold sft
      rw [if_neg (by omega)]
    rw [s0] at e2
    obtain ⟨k2, e3⟩ := one_272 (ac := ac) (a0 := a0) (ep := ep) (eq := eq) (er := er) (es := es) (et := et) (eu := eu) (stp := stp) (mus := nI L.length) (ax := ax) (au := sft au (6 * pos) (6 * L.length)) (ao := ao) (ii := pos) (hi := L.length) (by omega) (L.length - pos) L.length 501 (by omega) (Nat.le_refl _) (by omega)
    have s1 : sfo ao L.length L.length = ao := by
      funext j
      unfold sfo
      rw [if_neg (by omega)]
    rw [s1] at e3
    rw [nI_6, e2, Option.bind_some]
    dsimp only
    rw [e3, Option.bind_some]
    dsimp only
    rw [if_pos (inb_nI (by omega) (by omega)), one_312 (by omega), nI_clamp (by omega), nI_1, en, hlen2]
    exact ⟨_, _, rfl, MR_new hM (by omega) hpos⟩
  rcases h2 with h0 | ⟨q, p, hq, hp, hn⟩
  · subst h0
    rw [if_pos (show nI 0 ≤ (0 : Int32) by decide)]
    exact put (fun i p hi => absurd hi (Nat.not_lt_zero i))
  · subst hq
    have hqlt : q < L.length := (List.getElem?_eq_some_iff.mp hp).1
    rw [if_neg (nI_nle (by omega) (by omega)), nI_pred, mc_s (by omega) (hM.2.2 q p hp), Option.bind_some]
    by_cases ce : lx (x6 ax) p.1 = 0
    · have hpe : p = (x6 ax, p.2) := by rw [lx_eq.mp ce]
      rw [hpe] at hp
      rw [if_pos ce, if_pos (inb_nI (by omega) (by omega)), if_pos (inb_nI (by omega) (by omega)), nI_clamp (by omega), ins_at q (fun i r hi hr => by have := hsort i q r _ hi hr hp; exact this) hp, List.length_set]
      exact ⟨_, _, rfl, MR_inc hM hp⟩
    · have hlt : lt6 p.1 (x6 ax) := by
        rcases lt6_tri p.1 (x6 ax) with z | z | z
        · exact z
        · exact absurd (lx_eq.mpr z.symm) ce
        · exact absurd z hn
      rw [if_neg ce]
      refine put (fun i r hi hr => ?_)
      by_cases ei : i = q
      · subst ei
        rw [hp] at hr
        cases hr
        exact hlt
      · exact lt6_tr (hsort i q r p (by omega) hr hp) hlt
set_option maxHeartbeats 4000000 in
theorem one_s {L : List (P6 × Nat)} {i p q r s t u : Nat} {z : Z6 × Nat} {m : Nat} (hi : i < 40) (h : row6 ac i (zL a, zL b, zL c, zL d, zL e, zL f)) (hp : p ≤ 12) (hq : q ≤ 12) (hr : r ≤ 12) (hs' : s ≤ 12) (ht : t ≤ 12) (hu : u ≤ 12) (hP : PDz (ez a b c d e f p q r s t u)) (hsum : sumz (ez a b c d e f p q r s t u) ≤ 1000000000) (hz' : zrun m (ez a b c d e f p q r s t u) = some z) (hm : m < 1000000000) (hM : MR au ao (nI L.length) L) (hs : srt L) (hl : (ins L (hz z.1)).length ≤ 455) :
    ∃ stp' ax' au' ao', f_M_one ac stp (nI L.length) ax au ao (nI (6 * i)) (nI p) (nI q) (nI r) (nI s) (nI t) (nI u) = some (stp', nI (ins L (hz z.1)).length, ax', au', ao') ∧ MR au' ao' (nI (ins L (hz z.1)).length) (ins L (hz z.1)) := by
  unfold f_M_one
  rw [z64, dot_e hi h (by omega) (by omega) (by omega) (by omega) (by omega) (by omega), Option.bind_some, dot_e hi h (by omega) (by omega) (by omega) (by omega) (by omega) (by omega), Option.bind_some, dot_e hi h (by omega) (by omega) (by omega) (by omega) (by omega) (by omega), Option.bind_some, dot_e hi h (by omega) (by omega) (by omega) (by omega) (by omega) (by omega), Option.bind_some, dot_e hi h (by omega) (by omega) (by omega) (by omega) (by omega) (by omega), Option.bind_some, dot_e hi h (by omega) (by omega) (by omega) (by omega) (by omega) (by omega), Option.bind_some, tc0, tc1, tc2, tc3, tc4, tc5]
  have V : V6 (vp_updL (vp_updL (vp_updL (vp_updL (vp_updL (vp_updL ax 0 (zL (dz a b c d e f p (0 : Nat) (0 : Nat) p (0 : Nat) (0 : Nat)))) 1 (zL (dz a b c d e f q r (0 : Nat) q r (0 : Nat)))) 2 (zL (dz a b c d e f s t u s t u))) 3 (zL (dz a b c d e f q r (0 : Nat) s t u))) 4 (zL (dz a b c d e f p (0 : Nat) (0 : Nat) s t u))) 5 (zL (dz a b c d e f p (0 : Nat) (0 : Nat) q r (0 : Nat)))) (dz a b c d e f p 0 0 p 0 0) (dz a b c d e f q r 0 q r 0) (dz a b c d e f s t u s t u) (dz a b c d e f q r 0 s t u) (dz a b c d e f p 0 0 s t u) (dz a b c d e f p 0 0 q r 0) := ⟨rfl, rfl, rfl, rfl, rfl, rfl⟩
  obtain ⟨v, ev, hv⟩ := M_reduce_z (stp := stp) hP hsum V hz' hm
  rw [ev, Option.bind_some]
  dsimp only
  have hx := V6h_x hv
  rw [← hx] at hl ⊢
  obtain ⟨au', ao', e2, h2⟩ := one_end (ac := ac) (stp := stp + nI z.2) (a0 := nI (6 * i)) (ep := nI p) (eq := nI q) (er := nI r) (es := nI s) (et := nI t) (eu := nI u) hM hs hl
  exact ⟨_, _, au', ao', e2, h2⟩
end ON

