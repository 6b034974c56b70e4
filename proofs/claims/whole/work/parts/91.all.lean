-- all together: both sides answer alike on every run of calls
/-- what holds between the two sides before each call -/
def InvC (kn : Nat) (td lw : Nat → P6) (sy sh : Nat → Int32) (ro : Nat → Int64) (sz fc_ fn_ : Int32) (rp : Nat → Int64) (sq gc_ gn_ cm mus mc_ mb_ : Int32) (ac al : Nat → Int64) (ay as_ : Nat → Int32) (au : Nat → Int64) (ao : Nat → Int32) : Prop :=
  kn ≤ 40 ∧ cm = nI kn ∧ CR kn td lw sy sh ac al ay as_ ∧ CG kn td lw sh ∧ TC kn lw ro sz fc_ fn_ ∧ TC kn lw rp sq gc_ gn_ ∧ MC kn lw au ao mus mc_ mb_
theorem CG_gm {kn : Nat} {td lw : Nat → P6} {sh : Nat → Int32} (h : CG kn td lw sh) : ∀ i, i < kn → GM (td i) (lw i) := fun i hi => gm_of (h i hi)
/-- 'go' answers 1 from every state in which the two sides agree -/
def GoesOn (go : Int32 → Nat → (Nat → P6) → (Nat → P6) → (Nat → Int32) → (Nat → Int32) → (Nat → Int64) → Int32 → Int32 → Int32 → (Nat → Int64) → Int32 → Int32 → Int32 → Int64 → Int64 → Int64 → Int64 → Int64 → Int64 → Int32 → Int32 → Int32 → Int32 → Int32 → Int32 → (Nat → Int32) → (Nat → Int64) → (Nat → Int64) → (Nat → Int32) → (Nat → Int32) → (Nat → Int64) → (Nat → Int64) → (Nat → Int32) → (Nat → Int64) → Option Int32) (li : Int32) : Prop := ∀ (kn : Nat) (td : Nat → P6) (lw : Nat → P6) (sy : Nat → Int32) (sh : Nat → Int32) (ro : Nat → Int64) (sz : Int32) (fc_ : Int32) (fn_ : Int32) (rp : Nat → Int64) (sq : Int32) (gc_ : Int32) (gn_ : Int32) (ra : Int64) (rb : Int64) (rc : Int64) (rx : Int64) (ry : Int64) (rz : Int64) (rs : Int32) (cm : Int32) (stp : Int32) (mus : Int32) (mc_ : Int32) (mb_ : Int32) (am : Nat → Int32) (ac : Nat → Int64) (al : Nat → Int64) (ay : Nat → Int32) (as_ : Nat → Int32) (ax : Nat → Int64) (au : Nat → Int64) (ao : Nat → Int32) (at_ : Nat → Int64), InvC kn td lw sy sh ro sz fc_ fn_ rp sq gc_ gn_ cm mus mc_ mb_ ac al ay as_ au ao → go li kn td lw sy sh ro sz fc_ fn_ rp sq gc_ gn_ ra rb rc rx ry rz rs cm stp mus mc_ mb_ am ac al ay as_ ax au ao at_ = some 1
theorem TC_up {kn : Nat} {lw : Nat → P6} {ro : Nat → Int64} {sz fc_ fn_ : Int32} (l : P6) (h : TC kn lw ro sz fc_ fn_) : TC (kn + 1) (va_up lw kn l) ro sz fc_ fn_ := by
  rcases h with h | ⟨c, n, hc, h1, h2, h3, h4, h5⟩
  · exact Or.inl h
  · exact Or.inr ⟨c, n, by omega, h1, h2, h3, h4, by rw [va_up_ne _ _ (show c ≠ kn by omega)]; exact h5⟩
theorem MC_up {kn : Nat} {lw : Nat → P6} {au : Nat → Int64} {ao : Nat → Int32} {mus mc_ mb_ : Int32} (l : P6) (h : MC kn lw au ao mus mc_ mb_) : MC (kn + 1) (va_up lw kn l) au ao mus mc_ mb_ := by
  rcases h with h | ⟨c, n, hc, h1, h2, h3, h4, h5⟩
  · exact Or.inl h
  · exact Or.inr ⟨c, n, by omega, h1, h2, h3, h4, by rw [va_up_ne _ _ (show c ≠ kn by omega)]; exact h5⟩
section ALL
variable {L : Nat} {xs : Nat → Int32} {go : Int32 → Nat → (Nat → P6) → (Nat → P6) → (Nat → Int32) → (Nat → Int32) → (Nat → Int64) → Int32 → Int32 → Int32 → (Nat → Int64) → Int32 → Int32 → Int32 → Int64 → Int64 → Int64 → Int64 → Int64 → Int64 → Int32 → Int32 → Int32 → Int32 → Int32 → Int32 → (Nat → Int32) → (Nat → Int64) → (Nat → Int64) → (Nat → Int32) → (Nat → Int32) → (Nat → Int64) → (Nat → Int64) → (Nat → Int32) → (Nat → Int64) → Option Int32} {i : Nat} {kn : Nat} {td : Nat → P6} {lw : Nat → P6} {sy : Nat → Int32} {sh : Nat → Int32} {ro : Nat → Int64} {sz : Int32} {fc_ : Int32} {fn_ : Int32} {rp : Nat → Int64} {sq : Int32} {gc_ : Int32} {gn_ : Int32} {ra : Int64} {rb : Int64} {rc : Int64} {rx : Int64} {ry : Int64} {rz : Int64} {rs : Int32} {cm : Int32} {stp : Int32} {mus : Int32} {mc_ : Int32} {mb_ : Int32} {am : Nat → Int32} {ac : Nat → Int64} {al : Nat → Int64} {ay : Nat → Int32} {as_ : Nat → Int32} {ax : Nat → Int64} {au : Nat → Int64} {ao : Nat → Int32} {at_ : Nat → Int64}
theorem ix_in (hL : L ≤ 3584) (h : i + 7 ≤ L) {j : Nat} (hj : j < 7) : inb (nI i + nI j) L = true := by
  rw [nI_add]
  exact inb_nI (by omega) (by omega)
set_option maxHeartbeats 4000000 in
theorem all_0 (hL : L ≤ 3584) (h : i + 7 ≤ L) (hg : GoesOn go (nI i + 7)) (hI : InvC kn td lw sy sh ro sz fc_ fn_ rp sq gc_ gn_ cm mus mc_ mb_ ac al ay as_ au ao) : lk_0 L xs go (nI i) kn td lw sy sh ro sz fc_ fn_ rp sq gc_ gn_ ra rb rc rx ry rz rs cm stp mus mc_ mb_ am ac al ay as_ ax au ao at_ = some 1 := by
  obtain ⟨hk, rfl, hC, hG, hT, hT', hM⟩ := hI
  unfold lk_0
  rw [if_pos (show inb (nI i + (1 : Int32)) L = true from ix_in hL h (j := 1) (by decide)), if_pos (show inb (nI i + (2 : Int32)) L = true from ix_in hL h (j := 2) (by decide)), if_pos (show inb (nI i + (3 : Int32)) L = true from ix_in hL h (j := 3) (by decide)), if_pos (show inb (nI i + (4 : Int32)) L = true from ix_in hL h (j := 4) (by decide)), if_pos (show inb (nI i + (5 : Int32)) L = true from ix_in hL h (j := 5) (by decide)), if_pos (show inb (nI i + (6 : Int32)) L = true from ix_in hL h (j := 6) (by decide))]
  rcases cell_s (ra := ra) (rb := rb) (rc := rc) (rx := rx) (ry := ry) (rz := rz) (rs := rs) (stp := stp) (am := am) (ax := ax) (i1 := xs (nI i + 1).toNatClampNeg) (i2 := xs (nI i + 2).toNatClampNeg) (i3 := xs (nI i + 3).toNatClampNeg) (i4 := xs (nI i + 4).toNatClampNeg) (i5 := xs (nI i + 5).toNatClampNeg) (i6 := xs (nI i + 6).toNatClampNeg) hk hC hG with ⟨ac', e1, e2, hC'⟩ | ⟨cn, pa, pb, pc, px, py, pz, ps, t, l, u, v, stp', am', ac', al', ay', as', ax', e1, e2, hk', hC', hG'⟩
  · rw [e1, Option.bind_some]
    dsimp only
    rw [if_pos rfl, if_pos (show inb (nI i + (1 : Int32)) L = true from ix_in hL h (j := 1) (by decide)), if_pos (show inb (nI i + (2 : Int32)) L = true from ix_in hL h (j := 2) (by decide)), if_pos (show inb (nI i + (3 : Int32)) L = true from ix_in hL h (j := 3) (by decide)), if_pos (show inb (nI i + (4 : Int32)) L = true from ix_in hL h (j := 4) (by decide)), if_pos (show inb (nI i + (5 : Int32)) L = true from ix_in hL h (j := 5) (by decide)), if_pos (show inb (nI i + (6 : Int32)) L = true from ix_in hL h (j := 6) (by decide)), e2, Option.bind_some]
    dsimp only
    rw [if_pos rfl]
    exact hg _ _ _ _ _ _ _ _ _ _ _ _ _ _ _ _ _ _ _ _ _ _ _ _ _ _ _ _ _ _ _ _ _ _ ⟨hk, rfl, hC', hG, hT, hT', hM⟩
  · rw [e1, Option.bind_some]
    dsimp only
    rw [if_neg (show ¬ (1 : Int32) = 0 by decide), if_pos (show inb (nI i + (1 : Int32)) L = true from ix_in hL h (j := 1) (by decide)), if_pos (show inb (nI i + (2 : Int32)) L = true from ix_in hL h (j := 2) (by decide)), if_pos (show inb (nI i + (3 : Int32)) L = true from ix_in hL h (j := 3) (by decide)), if_pos (show inb (nI i + (4 : Int32)) L = true from ix_in hL h (j := 4) (by decide)), if_pos (show inb (nI i + (5 : Int32)) L = true from ix_in hL h (j := 5) (by decide)), if_pos (show inb (nI i + (6 : Int32)) L = true from ix_in hL h (j := 6) (by decide)), e2, Option.bind_some]
    dsimp only
    rw [if_pos rfl]
    exact hg _ _ _ _ _ _ _ _ _ _ _ _ _ _ _ _ _ _ _ _ _ _ _ _ _ _ _ _ _ _ _ _ _ _ ⟨hk', rfl, hC', hG', TC_up l hT, TC_up l hT', MC_up l hM⟩
set_option maxHeartbeats 4000000 in
theorem all_1 (hL : L ≤ 3584) (h : i + 7 ≤ L) (hg : GoesOn go (nI i + 7)) (hI : InvC kn td lw sy sh ro sz fc_ fn_ rp sq gc_ gn_ cm mus mc_ mb_ ac al ay as_ au ao) : lk_1 L xs go (nI i) kn td lw sy sh ro sz fc_ fn_ rp sq gc_ gn_ ra rb rc rx ry rz rs cm stp mus mc_ mb_ am ac al ay as_ ax au ao at_ = some 1 := by
  obtain ⟨hk, rfl, hC, hG, hT, hT', hM⟩ := hI
  unfold lk_1
  rw [if_pos (show inb (nI i + (1 : Int32)) L = true from ix_in hL h (j := 1) (by decide)), if_pos (show inb (nI i + (2 : Int32)) L = true from ix_in hL h (j := 2) (by decide))]
  obtain ⟨r, e1, e2⟩ := reduced_s hk hC (xs (nI i + 1).toNatClampNeg) (xs (nI i + 2).toNatClampNeg)
  rw [e1, Option.bind_some, if_pos (show inb (nI i + (1 : Int32)) L = true from ix_in hL h (j := 1) (by decide)), if_pos (show inb (nI i + (2 : Int32)) L = true from ix_in hL h (j := 2) (by decide)), e2, Option.bind_some, if_pos (lg_eq.mpr rfl)]
  exact hg _ _ _ _ _ _ _ _ _ _ _ _ _ _ _ _ _ _ _ _ _ _ _ _ _ _ _ _ _ _ _ _ _ _ ⟨hk, rfl, hC, hG, hT, hT', hM⟩
set_option maxHeartbeats 4000000 in
theorem all_2 (hL : L ≤ 3584) (h : i + 7 ≤ L) (hg : GoesOn go (nI i + 7)) (hI : InvC kn td lw sy sh ro sz fc_ fn_ rp sq gc_ gn_ cm mus mc_ mb_ ac al ay as_ au ao) : lk_2 L xs go (nI i) kn td lw sy sh ro sz fc_ fn_ rp sq gc_ gn_ ra rb rc rx ry rz rs cm stp mus mc_ mb_ am ac al ay as_ ax au ao at_ = some 1 := by
  obtain ⟨hk, rfl, hC, hG, hT, hT', hM⟩ := hI
  unfold lk_2
  rw [if_pos (show inb (nI i + (1 : Int32)) L = true from ix_in hL h (j := 1) (by decide)), if_pos (show inb (nI i + (2 : Int32)) L = true from ix_in hL h (j := 2) (by decide))]
  obtain ⟨r, v, e1, e2⟩ := keeps_s hk hC am (xs (nI i + 1).toNatClampNeg) (xs (nI i + 2).toNatClampNeg)
  rw [e1, Option.bind_some, if_pos (show inb (nI i + (1 : Int32)) L = true from ix_in hL h (j := 1) (by decide)), if_pos (show inb (nI i + (2 : Int32)) L = true from ix_in hL h (j := 2) (by decide)), e2, Option.bind_some]
  dsimp only
  rw [if_pos rfl]
  exact hg _ _ _ _ _ _ _ _ _ _ _ _ _ _ _ _ _ _ _ _ _ _ _ _ _ _ _ _ _ _ _ _ _ _ ⟨hk, rfl, hC, hG, hT, hT', hM⟩
set_option maxHeartbeats 4000000 in
theorem all_3 (hL : L ≤ 3584) (h : i + 7 ≤ L) (hg : GoesOn go (nI i + 7)) (hI : InvC kn td lw sy sh ro sz fc_ fn_ rp sq gc_ gn_ cm mus mc_ mb_ ac al ay as_ au ao) : lk_3 L xs go (nI i) kn td lw sy sh ro sz fc_ fn_ rp sq gc_ gn_ ra rb rc rx ry rz rs cm stp mus mc_ mb_ am ac al ay as_ ax au ao at_ = some 1 := by
  obtain ⟨hk, rfl, hC, hG, hT, hT', hM⟩ := hI
  unfold lk_3
  rw [if_pos (show inb (nI i + (1 : Int32)) L = true from ix_in hL h (j := 1) (by decide))]
  obtain ⟨r, e1, e2⟩ := same_s hk hC (xs (nI i + 1).toNatClampNeg)
  rw [e1, Option.bind_some, if_pos (show inb (nI i + (1 : Int32)) L = true from ix_in hL h (j := 1) (by decide)), e2, Option.bind_some, if_pos rfl]
  exact hg _ _ _ _ _ _ _ _ _ _ _ _ _ _ _ _ _ _ _ _ _ _ _ _ _ _ _ _ _ _ _ _ _ _ ⟨hk, rfl, hC, hG, hT, hT', hM⟩
set_option maxHeartbeats 4000000 in
theorem all_4 (hL : L ≤ 3584) (h : i + 7 ≤ L) (hg : GoesOn go (nI i + 7)) (hI : InvC kn td lw sy sh ro sz fc_ fn_ rp sq gc_ gn_ cm mus mc_ mb_ ac al ay as_ au ao) : lk_4 L xs go (nI i) kn td lw sy sh ro sz fc_ fn_ rp sq gc_ gn_ ra rb rc rx ry rz rs cm stp mus mc_ mb_ am ac al ay as_ ax au ao at_ = some 1 := by
  obtain ⟨hk, rfl, hC, hG, hT, hT', hM⟩ := hI
  unfold lk_4
  rw [if_pos (show inb (nI i + (1 : Int32)) L = true from ix_in hL h (j := 1) (by decide)), if_pos (show inb (nI i + (2 : Int32)) L = true from ix_in hL h (j := 2) (by decide))]
  obtain ⟨r, ro', sz', fc', fn', a, b, c, x, y, z, s', stp', mus', ax', au', ao', mc', mb', e1, e2, h1, h2⟩ := multiples_s (ra := ra) (rb := rb) (rc := rc) (rx := rx) (ry := ry) (rz := rz) (rs := rs) (stp := stp) (ax := ax) hk hC (CG_gm hG) hT hM (xs (nI i + 1).toNatClampNeg) (xs (nI i + 2).toNatClampNeg)
  rw [e1, Option.bind_some, if_pos (show inb (nI i + (1 : Int32)) L = true from ix_in hL h (j := 1) (by decide)), if_pos (show inb (nI i + (2 : Int32)) L = true from ix_in hL h (j := 2) (by decide)), e2, Option.bind_some]
  dsimp only
  rw [if_pos rfl]
  exact hg _ _ _ _ _ _ _ _ _ _ _ _ _ _ _ _ _ _ _ _ _ _ _ _ _ _ _ _ _ _ _ _ _ _ ⟨hk, rfl, hC, hG, h1, hT', h2⟩
set_option maxHeartbeats 4000000 in
theorem all_5 (hL : L ≤ 3584) (h : i + 7 ≤ L) (hg : GoesOn go (nI i + 7)) (hI : InvC kn td lw sy sh ro sz fc_ fn_ rp sq gc_ gn_ cm mus mc_ mb_ ac al ay as_ au ao) : lk_5 L xs go (nI i) kn td lw sy sh ro sz fc_ fn_ rp sq gc_ gn_ ra rb rc rx ry rz rs cm stp mus mc_ mb_ am ac al ay as_ ax au ao at_ = some 1 := by
  obtain ⟨hk, rfl, hC, hG, hT, hT', hM⟩ := hI
  unfold lk_5
  rw [if_pos (show inb (nI i + (1 : Int32)) L = true from ix_in hL h (j := 1) (by decide)), if_pos (show inb (nI i + (2 : Int32)) L = true from ix_in hL h (j := 2) (by decide)), if_pos (show inb (nI i + (3 : Int32)) L = true from ix_in hL h (j := 3) (by decide)), if_pos (show inb (nI i + (4 : Int32)) L = true from ix_in hL h (j := 4) (by decide))]
  obtain ⟨r, ro', sz', fc', fn', a, b, c, x, y, z, s', stp', mus', ax', au', ao', mc', mb', e1, e2, h1, h2⟩ := multiple_s (ra := ra) (rb := rb) (rc := rc) (rx := rx) (ry := ry) (rz := rz) (rs := rs) (stp := stp) (ax := ax) hk hC (CG_gm hG) hT hM (xs (nI i + 1).toNatClampNeg) (xs (nI i + 2).toNatClampNeg) (xs (nI i + 3).toNatClampNeg) (xs (nI i + 4).toNatClampNeg)
  rw [e1, Option.bind_some, if_pos (show inb (nI i + (1 : Int32)) L = true from ix_in hL h (j := 1) (by decide)), if_pos (show inb (nI i + (2 : Int32)) L = true from ix_in hL h (j := 2) (by decide)), if_pos (show inb (nI i + (3 : Int32)) L = true from ix_in hL h (j := 3) (by decide)), if_pos (show inb (nI i + (4 : Int32)) L = true from ix_in hL h (j := 4) (by decide)), e2, Option.bind_some]
  dsimp only
  rw [if_pos (lg_eq.mpr rfl)]
  exact hg _ _ _ _ _ _ _ _ _ _ _ _ _ _ _ _ _ _ _ _ _ _ _ _ _ _ _ _ _ _ _ _ _ _ ⟨hk, rfl, hC, hG, h1, hT', h2⟩
set_option maxHeartbeats 4000000 in
theorem all_6 (hL : L ≤ 3584) (h : i + 7 ≤ L) (hg : GoesOn go (nI i + 7)) (hI : InvC kn td lw sy sh ro sz fc_ fn_ rp sq gc_ gn_ cm mus mc_ mb_ ac al ay as_ au ao) : lk_6 L xs go (nI i) kn td lw sy sh ro sz fc_ fn_ rp sq gc_ gn_ ra rb rc rx ry rz rs cm stp mus mc_ mb_ am ac al ay as_ ax au ao at_ = some 1 := by
  obtain ⟨hk, rfl, hC, hG, hT, hT', hM⟩ := hI
  unfold lk_6
  rw [if_pos (show inb (nI i + (1 : Int32)) L = true from ix_in hL h (j := 1) (by decide)), if_pos (show inb (nI i + (2 : Int32)) L = true from ix_in hL h (j := 2) (by decide)), if_pos (show inb (nI i + (3 : Int32)) L = true from ix_in hL h (j := 3) (by decide)), if_pos (show inb (nI i + (4 : Int32)) L = true from ix_in hL h (j := 4) (by decide))]
  obtain ⟨r, ro', sz', fc', fn', rp', sq', gc', gn', a, b, c, x, y, z, s', stp', mus', ax', au', ao', mc', mb', at', e1, e2, h1, h1', h2⟩ := common_s (ra := ra) (rb := rb) (rc := rc) (rx := rx) (ry := ry) (rz := rz) (rs := rs) (stp := stp) (ax := ax) (at_ := at_) hk hC (CG_gm hG) hT hT' hM (xs (nI i + 1).toNatClampNeg) (xs (nI i + 2).toNatClampNeg) (xs (nI i + 3).toNatClampNeg) (xs (nI i + 4).toNatClampNeg)
  rw [e1, Option.bind_some, if_pos (show inb (nI i + (1 : Int32)) L = true from ix_in hL h (j := 1) (by decide)), if_pos (show inb (nI i + (2 : Int32)) L = true from ix_in hL h (j := 2) (by decide)), if_pos (show inb (nI i + (3 : Int32)) L = true from ix_in hL h (j := 3) (by decide)), if_pos (show inb (nI i + (4 : Int32)) L = true from ix_in hL h (j := 4) (by decide)), e2, Option.bind_some]
  dsimp only
  rw [if_pos rfl]
  exact hg _ _ _ _ _ _ _ _ _ _ _ _ _ _ _ _ _ _ _ _ _ _ _ _ _ _ _ _ _ _ _ _ _ _ ⟨hk, rfl, hC, hG, h1, h1', h2⟩
set_option maxHeartbeats 4000000 in
theorem all_7 (hL : L ≤ 3584) (h : i + 7 ≤ L) (hg : GoesOn go (nI i + 7)) (hI : InvC kn td lw sy sh ro sz fc_ fn_ rp sq gc_ gn_ cm mus mc_ mb_ ac al ay as_ au ao) : lk_7 L xs go (nI i) kn td lw sy sh ro sz fc_ fn_ rp sq gc_ gn_ ra rb rc rx ry rz rs cm stp mus mc_ mb_ am ac al ay as_ ax au ao at_ = some 1 := by
  obtain ⟨hk, rfl, hC, hG, hT, hT', hM⟩ := hI
  unfold lk_7
  rw [if_pos (show inb (nI i + (1 : Int32)) L = true from ix_in hL h (j := 1) (by decide)), if_pos (show inb (nI i + (2 : Int32)) L = true from ix_in hL h (j := 2) (by decide)), if_pos (show inb (nI i + (3 : Int32)) L = true from ix_in hL h (j := 3) (by decide)), if_pos (show inb (nI i + (4 : Int32)) L = true from ix_in hL h (j := 4) (by decide))]
  obtain ⟨r, e1, e2⟩ := step_s hk hC (xs (nI i + 1).toNatClampNeg) (xs (nI i + 2).toNatClampNeg) (xs (nI i + 3).toNatClampNeg) (xs (nI i + 4).toNatClampNeg)
  rw [e1, Option.bind_some, if_pos (show inb (nI i + (1 : Int32)) L = true from ix_in hL h (j := 1) (by decide)), if_pos (show inb (nI i + (2 : Int32)) L = true from ix_in hL h (j := 2) (by decide)), if_pos (show inb (nI i + (3 : Int32)) L = true from ix_in hL h (j := 3) (by decide)), if_pos (show inb (nI i + (4 : Int32)) L = true from ix_in hL h (j := 4) (by decide)), e2, Option.bind_some, if_pos (lg_eq.mpr rfl)]
  exact hg _ _ _ _ _ _ _ _ _ _ _ _ _ _ _ _ _ _ _ _ _ _ _ _ _ _ _ _ _ _ _ _ _ _ ⟨hk, rfl, hC, hG, hT, hT', hM⟩
set_option maxHeartbeats 4000000 in
theorem all_8 (hL : L ≤ 3584) (h : i + 7 ≤ L) (hg : GoesOn go (nI i + 7)) (hI : InvC kn td lw sy sh ro sz fc_ fn_ rp sq gc_ gn_ cm mus mc_ mb_ ac al ay as_ au ao) : lk_8 L xs go (nI i) kn td lw sy sh ro sz fc_ fn_ rp sq gc_ gn_ ra rb rc rx ry rz rs cm stp mus mc_ mb_ am ac al ay as_ ax au ao at_ = some 1 := by
  obtain ⟨hk, rfl, hC, hG, hT, hT', hM⟩ := hI
  unfold lk_8
  rw [if_pos (show inb (nI i + (1 : Int32)) L = true from ix_in hL h (j := 1) (by decide)), if_pos (show inb (nI i + (2 : Int32)) L = true from ix_in hL h (j := 2) (by decide)), if_pos (show inb (nI i + (3 : Int32)) L = true from ix_in hL h (j := 3) (by decide))]
  obtain ⟨r, e1, e2⟩ := shorter_s hk hC (xs (nI i + 1).toNatClampNeg) (((xs (nI i + 2).toNatClampNeg).toInt64 <<< ((32 : Int32).toInt64 &&& 63)) ||| ((xs (nI i + 3).toNatClampNeg).toInt64 &&& (4294967295 : Int64)))
  rw [e1, Option.bind_some, if_pos (show inb (nI i + (1 : Int32)) L = true from ix_in hL h (j := 1) (by decide)), if_pos (show inb (nI i + (2 : Int32)) L = true from ix_in hL h (j := 2) (by decide)), if_pos (show inb (nI i + (3 : Int32)) L = true from ix_in hL h (j := 3) (by decide)), e2, Option.bind_some, if_pos rfl]
  exact hg _ _ _ _ _ _ _ _ _ _ _ _ _ _ _ _ _ _ _ _ _ _ _ _ _ _ _ _ _ _ _ _ _ _ ⟨hk, rfl, hC, hG, hT, hT', hM⟩
end ALL
theorem L7 : ∀ L, L < 7 → Int32.ofNat L - (7 : Int32) < 0 := by decide
set_option maxHeartbeats 4000000 in
theorem all_go {L : Nat} {xs : Nat → Int32} (hL : L ≤ 3584) : ∀ (n i : Nat), i ≤ L → L < i + 7 * n → GoesOn (lp_law L xs n) (nI i) := by
  intro n
  induction n with
  | zero =>
    intro i hi hn
    exact absurd hn (by omega)
  | succ n ih =>
    intro i hi hn kn td lw sy sh ro sz fc_ fn_ rp sq gc_ gn_ ra rb rc rx ry rz rs cm stp mus mc_ mb_ am ac al ay as_ ax au ao at_ hI
    rw [lp_law]
    by_cases hle : i + 7 ≤ L
    rotate_left
    · have hend : Int32.ofNat L - (7 : Int32) < nI i := by
        by_cases h7 : L < 7
        · have h1 := L7 L h7
          have h2 := nI_pos' (n := i) (by omega)
          rw [Int32.lt_iff_toInt_lt] at h1 ⊢
          rw [Int32.le_iff_toInt_le] at h2
          omega
        · have e : Int32.ofNat L - (7 : Int32) = nI (L - 7) := nI_sub' (a := L) (b := 7) (by omega)
          rw [e]
          exact nI_lt (by omega) (by omega)
      rw [if_pos hend]
    have hne : ¬ Int32.ofNat L - (7 : Int32) < nI i := by
      have e : Int32.ofNat L - (7 : Int32) = nI (L - 7) := nI_sub' (a := L) (b := 7) (by omega)
      rw [e]
      exact nI_nlt (by omega) (by omega)
    have hg : GoesOn (lp_law L xs n) (nI i + 7) := by
      rw [nI_p7]
      exact ih (i + 7) (by omega) (by omega)
    rw [if_neg hne, if_pos (inb_nI (by omega) (by omega))]
    by_cases q0 : (xs (nI i).toNatClampNeg) &&& (15 : Int32) = (0 : Int32)
    · rw [if_pos q0]; exact all_0 hL hle hg hI
    rw [if_neg q0]
    by_cases q1 : (xs (nI i).toNatClampNeg) &&& (15 : Int32) = (1 : Int32)
    · rw [if_pos q1]; exact all_1 hL hle hg hI
    rw [if_neg q1]
    by_cases q2 : (xs (nI i).toNatClampNeg) &&& (15 : Int32) = (2 : Int32)
    · rw [if_pos q2]; exact all_2 hL hle hg hI
    rw [if_neg q2]
    by_cases q3 : (xs (nI i).toNatClampNeg) &&& (15 : Int32) = (3 : Int32)
    · rw [if_pos q3]; exact all_3 hL hle hg hI
    rw [if_neg q3]
    by_cases q4 : (xs (nI i).toNatClampNeg) &&& (15 : Int32) = (4 : Int32)
    · rw [if_pos q4]; exact all_4 hL hle hg hI
    rw [if_neg q4]
    by_cases q5 : (xs (nI i).toNatClampNeg) &&& (15 : Int32) = (5 : Int32)
    · rw [if_pos q5]; exact all_5 hL hle hg hI
    rw [if_neg q5]
    by_cases q6 : (xs (nI i).toNatClampNeg) &&& (15 : Int32) = (6 : Int32)
    · rw [if_pos q6]; exact all_6 hL hle hg hI
    rw [if_neg q6]
    by_cases q7 : (xs (nI i).toNatClampNeg) &&& (15 : Int32) = (7 : Int32)
    · rw [if_pos q7]; exact all_7 hL hle hg hI
    rw [if_neg q7]
    by_cases q8 : (xs (nI i).toNatClampNeg) &&& (15 : Int32) = (8 : Int32)
    · rw [if_pos q8]; exact all_8 hL hle hg hI
    rw [if_neg q8]
    exact hg _ _ _ _ _ _ _ _ _ _ _ _ _ _ _ _ _ _ _ _ _ _ _ _ _ _ _ _ _ _ _ _ _ _ hI

