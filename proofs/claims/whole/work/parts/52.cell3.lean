-- cell: the reference; both together
section C3
variable {kn : Nat} {i1 i2 i3 i4 i5 i6 : Int32} {ra rb rc rx ry rz : Int64} {rs : Int32} {stp : Int32} {am ay as_ : Nat → Int32} {ac al ax : Nat → Int64} {td lw : Nat → P6} {sy sh : Nat → Int32}
theorem M_95_0 : jn_M_cell_95 i1 i2 i3 i4 i5 i6 (0 : Int32) (nI kn) stp am ac al ay as_ ax = some ((-1 : Int32), nI kn, stp, am, ac, al, ay, as_, ax) := by
  unfold jn_M_cell_95
  rw [if_pos rfl]
theorem M_head (hk : kn ≤ 40) : ((kn < 40 ∧ bd6 i1.toInt i2.toInt i3.toInt i4.toInt i5.toInt i6.toInt) ∧ f_M_cell (nI kn) stp am ac al ay as_ ax i1 i2 i3 i4 i5 i6 = jn_M_cell_95 i1 i2 i3 i4 i5 i6 (1 : Int32) (nI kn) stp am ac al ay as_ ax) ∨ (¬ (kn < 40 ∧ bd6 i1.toInt i2.toInt i3.toInt i4.toInt i5.toInt i6.toInt) ∧ f_M_cell (nI kn) stp am ac al ay as_ ax i1 i2 i3 i4 i5 i6 = jn_M_cell_95 i1 i2 i3 i4 i5 i6 (0 : Int32) (nI kn) stp am ac al ay as_ ax) := by
  unfold f_M_cell
  by_cases k0 : kn < 40
  rotate_left
  · rw [if_pos (show (40 : Int32) ≤ nI kn from nI_le (a := 40) (b := kn) (by omega) (by omega))]
    exact Or.inr ⟨fun q => k0 q.1, rfl⟩
  rw [if_neg (show ¬ (40 : Int32) ≤ nI kn from nI_ge (a := kn) (b := 40) k0 (by decide))]
  by_cases k1 : 1 ≤ i1.toInt ∧ i1.toInt ≤ 10000
  rotate_left
  · rw [if_pos ((bs_s i1).mpr k1)]
    exact Or.inr ⟨fun q => k1 q.2.1.1, rfl⟩
  rw [if_neg (fun q => (bs_s i1).mp q k1)]
  by_cases k2 : 1 ≤ i2.toInt ∧ i2.toInt ≤ 10000
  rotate_left
  · rw [if_pos ((bs_s i2).mpr k2)]
    exact Or.inr ⟨fun q => k2 q.2.1.2.1, rfl⟩
  rw [if_neg (fun q => (bs_s i2).mp q k2)]
  by_cases k3 : 1 ≤ i3.toInt ∧ i3.toInt ≤ 10000
  rotate_left
  · rw [if_pos ((bs_s i3).mpr k3)]
    exact Or.inr ⟨fun q => k3 q.2.1.2.2, rfl⟩
  rw [if_neg (fun q => (bs_s i3).mp q k3)]
  by_cases k4 : -10000 ≤ i4.toInt ∧ i4.toInt ≤ 10000
  rotate_left
  · rw [if_pos ((bm_s i4).mpr k4)]
    exact Or.inr ⟨fun q => k4 q.2.2.1, rfl⟩
  rw [if_neg (fun q => (bm_s i4).mp q k4)]
  by_cases k5 : -10000 ≤ i5.toInt ∧ i5.toInt ≤ 10000
  rotate_left
  · rw [if_pos ((bm_s i5).mpr k5)]
    exact Or.inr ⟨fun q => k5 q.2.2.2.1, rfl⟩
  rw [if_neg (fun q => (bm_s i5).mp q k5)]
  by_cases k6 : -10000 ≤ i6.toInt ∧ i6.toInt ≤ 10000
  rotate_left
  · rw [if_pos ((bm_s i6).mpr k6)]
    exact Or.inr ⟨fun q => k6 q.2.2.2.2, rfl⟩
  rw [if_neg (fun q => (bm_s i6).mp q k6)]
  exact Or.inl ⟨⟨k0, ⟨k1, k2, k3⟩, k4, k5, k6⟩, rfl⟩
theorem CR_W {t : P6} (h : CR kn td lw sy sh ac al ay as_) : CR kn td lw sy sh (W6 ac kn t) al ay as_ := fun i hi => ⟨⟨W6_n t hi (h i hi).1.1, (h i hi).1.2⟩, (h i hi).2⟩
theorem M_cell_r (hk : kn ≤ 40) (h : ¬ okC kn i1 i2 i3 i4 i5 i6) (hC : CR kn td lw sy sh ac al ay as_) : ∃ ac', f_M_cell (nI kn) stp am ac al ay as_ ax i1 i2 i3 i4 i5 i6 = some ((-1 : Int32), nI kn, stp, am, ac', al, ay, as_, ax) ∧ CR kn td lw sy sh ac' al ay as_ := by
  rcases M_head (i1 := i1) (i2 := i2) (i3 := i3) (i4 := i4) (i5 := i5) (i6 := i6) (stp := stp) (am := am) (ac := ac) (al := al) (ay := ay) (as_ := as_) (ax := ax) hk with ⟨k, e⟩ | ⟨k, e⟩
  rotate_left
  · rw [e, M_95_0]
    exact ⟨_, rfl, hC⟩
  rw [e, M_95 1 k.1 k.2 (by decide)]
  by_cases c1' : 0 < i1.toInt * i2.toInt - i6.toInt * i6.toInt
  rotate_left
  · rw [if_neg c1']
    exact ⟨_, rfl, hC⟩
  rw [if_pos c1']
  by_cases c2' : 0 < det6 i1.toInt i2.toInt i3.toInt i4.toInt i5.toInt i6.toInt
  · exact absurd ⟨k.1, k.2, c1', c2'⟩ h
  · rw [if_neg c2']
    exact ⟨_, rfl, CR_W hC⟩
set_option maxHeartbeats 4000000 in
theorem M_cell_t {r : Z6 × Nat} (h : okC kn i1 i2 i3 i4 i5 i6) (hr : zrun (4 * (i1.toInt + i2.toInt + i3.toInt).toNat) (i1.toInt, i2.toInt, i3.toInt, 2 * i4.toInt, 2 * i5.toInt, 2 * i6.toInt) = some r) :
    ∃ v w, f_M_cell (nI kn) stp am ac al ay as_ ax i1 i2 i3 i4 i5 i6 = some (nI kn, nI (kn + 1), nI r.2, v, W6 ac kn (zL i1.toInt, zL i2.toInt, zL i3.toInt, zL i4.toInt, zL i5.toInt, zL i6.toInt),
      W6 al kn (zL r.1.1, zL r.1.2.1, zL r.1.2.2.1, zL r.1.2.2.2.1 / 2, zL r.1.2.2.2.2.1 / 2, zL r.1.2.2.2.2.2 / 2), upd ay kn (cnt (zL r.1.1, zL r.1.2.1, zL r.1.2.2.1, zL r.1.2.2.2.1 / 2, zL r.1.2.2.2.2.1 / 2, zL r.1.2.2.2.2.2 / 2)), upd as_ kn (nI r.2), w) := by
  obtain ⟨hk, hb, h2, h3⟩ := h
  rcases M_head (i1 := i1) (i2 := i2) (i3 := i3) (i4 := i4) (i5 := i5) (i6 := i6) (stp := stp) (am := am) (ac := ac) (al := al) (ay := ay) (as_ := as_) (ax := ax) (show kn ≤ 40 by omega) with ⟨k, e⟩ | ⟨k, e⟩
  rotate_left
  · exact absurd ⟨hk, hb⟩ k
  rw [e, M_95 1 hk hb (by decide), if_pos h2, if_pos h3]
  obtain ⟨v, ev, hv⟩ := c217 (i1 := i1) (i2 := i2) (i3 := i3) (i4 := i4) (i5 := i5) (i6 := i6) (go := 1) (cm := nI kn) (stp := stp) (am := am) (al := al) (ay := ay) (as_ := as_) (ax := ax) hk (W6_s ac kn (zL i1.toInt, zL i2.toInt, zL i3.toInt, zL i4.toInt, zL i5.toInt, zL i6.toInt))
  rw [ev, Option.bind_some]
  dsimp only
  obtain ⟨⟨ha, hb', hc⟩, hd, he, hf⟩ := hb
  obtain ⟨w, ew, hw⟩ := M_reduce_z (ax := v) (stp := 0) (PD_of (by omega) h2 h3) (by omega) ⟨hv.1, hv.2.1, hv.2.2.1, hv.2.2.2.1, hv.2.2.2.2.1, hv.2.2.2.2.2⟩ hr (by omega)
  rw [ew, Option.bind_some, if_pos (inb_nI (by omega) hk)]
  dsimp only
  rw [c272 hk, Option.bind_some, Int32.zero_add]
  dsimp only
  rw [nI_clamp (n := kn) (by omega)]
  obtain ⟨w0, w1, w2, w3, w4, w5⟩ := hw
  rw [w0, w1, w2, w3, w4, w5]
  obtain ⟨u, hu⟩ := cell_308 (i1 := i1) (i2 := i2) (i3 := i3) (i4 := i4) (i5 := i5) (i6 := i6) (go := 1) (stp := nI r.2) (ac := W6 ac kn (zL i1.toInt, zL i2.toInt, zL i3.toInt, zL i4.toInt, zL i5.toInt, zL i6.toInt)) (ax := w) (ay := ay) (as_ := upd as_ kn (nI r.2)) hk (W6_s al kn (zL r.1.1, zL r.1.2.1, zL r.1.2.2.1, zL r.1.2.2.2.1 / 2, zL r.1.2.2.2.2.1 / 2, zL r.1.2.2.2.2.2 / 2)) 19683 0 19685 0 am (by omega) (by omega)
  rw [Int32.zero_add, cnt_n] at hu
  exact ⟨u, w, hu⟩
theorem upI_n {f : Nat → Int32} {k j : Nat} {v : Int32} (h : j ≠ k) : upd f k v j = f j := if_neg h
theorem upI_s {f : Nat → Int32} {k : Nat} {v : Int32} : upd f k v k = v := if_pos rfl
theorem CR_push {t l : P6} {u v : Int32} (h : CR kn td lw sy sh ac al ay as_) : CR (kn + 1) (va_up td kn t) (va_up lw kn l) (va_up sy kn u) (va_up sh kn v) (W6 ac kn t) (W6 al kn l) (upd ay kn u) (upd as_ kn v) := by
  intro i hi
  by_cases e : i = kn
  · subst e
    rw [va_up_self, va_up_self, va_up_self, va_up_self, upI_s, upI_s]
    exact ⟨⟨W6_s _ _ _, W6_s _ _ _⟩, rfl, rfl⟩
  · rw [va_up_ne _ _ e, va_up_ne _ _ e, va_up_ne _ _ e, va_up_ne _ _ e, upI_n e, upI_n e]
    have hlt : i < kn := by omega
    exact ⟨⟨W6_n _ hlt (h i hlt).1.1, W6_n _ hlt (h i hlt).1.2⟩, (h i hlt).2⟩
/-- every cell was taken -/
def CG (kn : Nat) (td lw : Nat → P6) (sh : Nat → Int32) : Prop := ∀ i, i < kn → GCell (td i) (lw i) (sh i)
theorem ok_run (h : okC kn i1 i2 i3 i4 i5 i6) : ∃ r, zrun (4 * (i1.toInt + i2.toInt + i3.toInt).toNat) (i1.toInt, i2.toInt, i3.toInt, 2 * i4.toInt, 2 * i5.toInt, 2 * i6.toInt) = some r := by
  obtain ⟨hk, ⟨⟨ha, hb', hc⟩, hd, he, hf⟩, h2, h3⟩ := h
  refine zrun_ends _ (show PDz (i1.toInt, i2.toInt, i3.toInt, 2 * i4.toInt, 2 * i5.toInt, 2 * i6.toInt) from PD_of (by omega) h2 h3) ?_
  show i1.toInt + i2.toInt + i3.toInt ≤ _
  omega
/-- cell, on both sides -/
theorem cell_s (hk : kn ≤ 40) (hC : CR kn td lw sy sh ac al ay as_) (hG : CG kn td lw sh) :
    (∃ ac', f_B_cell kn ra rb rc rx ry rz rs i1 i2 i3 i4 i5 i6 = some ((-1 : Int32), (0 : Int32), nI kn, ra, rb, rc, rx, ry, rz, rs, 0, 0, 0, 0, 0, 0, 0, 0, 0, 0, 0, 0, 0, 0) ∧ f_M_cell (nI kn) stp am ac al ay as_ ax i1 i2 i3 i4 i5 i6 = some ((-1 : Int32), nI kn, stp, am, ac', al, ay, as_, ax) ∧ CR kn td lw sy sh ac' al ay as_) ∨
    (∃ (cn : Int32) (pa pb pc px py pz : Int64) (ps : Int32) (t l : P6) (u v : Int32) (stp' : Int32) (am' : Nat → Int32) (ac' al' : Nat → Int64) (ay' as' : Nat → Int32) (ax' : Nat → Int64),
      f_B_cell kn ra rb rc rx ry rz rs i1 i2 i3 i4 i5 i6 = some (nI kn, (1 : Int32), cn, pa, pb, pc, px, py, pz, ps, t.1, t.2.1, t.2.2.1, t.2.2.2.1, t.2.2.2.2.1, t.2.2.2.2.2, l.1, l.2.1, l.2.2.1, l.2.2.2.1, l.2.2.2.2.1, l.2.2.2.2.2, u, v) ∧
      f_M_cell (nI kn) stp am ac al ay as_ ax i1 i2 i3 i4 i5 i6 = some (nI kn, nI (kn + 1), stp', am', ac', al', ay', as', ax') ∧ kn + 1 ≤ 40 ∧ CR (kn + 1) (va_up td kn t) (va_up lw kn l) (va_up sy kn u) (va_up sh kn v) ac' al' ay' as' ∧ CG (kn + 1) (va_up td kn t) (va_up lw kn l) (va_up sh kn v)) := by
  by_cases h : okC kn i1 i2 i3 i4 i5 i6
  · right
    obtain ⟨r, hr⟩ := ok_run h
    obtain ⟨v, w, hM⟩ := M_cell_t (stp := stp) (am := am) (ac := ac) (al := al) (ay := ay) (as_ := as_) (ax := ax) h hr
    refine ⟨_, _, _, _, _, _, _, _, (zL i1.toInt, zL i2.toInt, zL i3.toInt, zL i4.toInt, zL i5.toInt, zL i6.toInt), (zL r.1.1, zL r.1.2.1, zL r.1.2.2.1, zL r.1.2.2.2.1 / 2, zL r.1.2.2.2.2.1 / 2, zL r.1.2.2.2.2.2 / 2), _, _, _, _, _, _, _, _, _, B_cell_t h hr, hM, h.1, CR_push hC, ?_⟩
    intro i hi
    by_cases e : i = kn
    · subst e
      rw [va_up_self, va_up_self, va_up_self]
      obtain ⟨hk', hb, h2, h3⟩ := h
      exact ⟨_, _, _, _, _, _, r, hb.1, PD_of (by have := hb.1.1; omega) h2 h3, rfl, hr, rfl, rfl⟩
    · rw [va_up_ne _ _ e, va_up_ne _ _ e, va_up_ne _ _ e]
      exact hG i (by omega)
  · left
    obtain ⟨ac', e1, e2⟩ := M_cell_r (stp := stp) (am := am) (ax := ax) hk h hC
    exact ⟨ac', B_cell_r hk h, e1, e2⟩
end C3

