-- the least values on the classes mod 2 are taken, and kept by equivalence
section AT
variable {a b c x y z i j k : Int}
theorem atN (hx : x ≤ 0) (hy : y ≤ 0) (hz : z ≤ 0) (hn : ¬ (i % 2 = 0 ∧ j % 2 = 0 ∧ k % 2 = 0)) : ∃ u v w : Int, (u % 2 = i % 2 ∧ v % 2 = j % 2 ∧ w % 2 = k % 2) ∧ qv a b c x y z u v w = mo a b c x y z i j k := by
  have ex := zabs_n hx
  have ey := zabs_n hy
  have ez' := zabs_n hz
  have em : mu x y z = 0 := if_neg (by omega)
  refine mo_cases (fun m => ∃ u v w : Int, (u % 2 = i % 2 ∧ v % 2 = j % 2 ∧ w % 2 = k % 2) ∧ qv a b c x y z u v w = m) hn ?_ ?_ ?_ ?_ ?_ ?_ ?_
  · intro hi hj hk
    exact ⟨1, 0, 0, ⟨by omega, by omega, by omega⟩, by unfold qv; omega⟩
  · intro hi hj hk
    exact ⟨0, 1, 0, ⟨by omega, by omega, by omega⟩, by unfold qv; omega⟩
  · intro hi hj hk
    exact ⟨0, 0, 1, ⟨by omega, by omega, by omega⟩, by unfold qv; omega⟩
  · intro hi hj hk
    exact ⟨1, 1, 0, ⟨by omega, by omega, by omega⟩, by unfold qv; omega⟩
  · intro hi hj hk
    exact ⟨1, 0, 1, ⟨by omega, by omega, by omega⟩, by unfold qv; omega⟩
  · intro hi hj hk
    exact ⟨0, 1, 1, ⟨by omega, by omega, by omega⟩, by unfold qv; omega⟩
  · intro hi hj hk
    exact ⟨1, 1, 1, ⟨by omega, by omega, by omega⟩, by unfold qv; omega⟩
theorem atP (hx : 0 < x) (hy : 0 < y) (hz : 0 < z) (hn : ¬ (i % 2 = 0 ∧ j % 2 = 0 ∧ k % 2 = 0)) : ∃ u v w : Int, (u % 2 = i % 2 ∧ v % 2 = j % 2 ∧ w % 2 = k % 2) ∧ qv a b c x y z u v w = mo a b c x y z i j k := by
  have ex := zabs_p (x := x) (by omega)
  have ey := zabs_p (x := y) (by omega)
  have ez' := zabs_p (x := z) (by omega)
  have em : mu x y z = 2 * mn3 x y z := if_pos hx
  refine mo_cases (fun m => ∃ u v w : Int, (u % 2 = i % 2 ∧ v % 2 = j % 2 ∧ w % 2 = k % 2) ∧ qv a b c x y z u v w = m) hn ?_ ?_ ?_ ?_ ?_ ?_ ?_
  · intro hi hj hk
    exact ⟨1, 0, 0, ⟨by omega, by omega, by omega⟩, by unfold qv; omega⟩
  · intro hi hj hk
    exact ⟨0, 1, 0, ⟨by omega, by omega, by omega⟩, by unfold qv; omega⟩
  · intro hi hj hk
    exact ⟨0, 0, 1, ⟨by omega, by omega, by omega⟩, by unfold qv; omega⟩
  · intro hi hj hk
    exact ⟨1, -1, 0, ⟨by omega, by omega, by omega⟩, by unfold qv; omega⟩
  · intro hi hj hk
    exact ⟨1, 0, -1, ⟨by omega, by omega, by omega⟩, by unfold qv; omega⟩
  · intro hi hj hk
    exact ⟨0, 1, -1, ⟨by omega, by omega, by omega⟩, by unfold qv; omega⟩
  · intro hi hj hk
    have hm : mn3 x y z = x ∨ mn3 x y z = y ∨ mn3 x y z = z := by
      unfold mn3
      split <;> split <;> omega
    rcases hm with h | h | h
    · exact ⟨-1, 1, 1, ⟨by omega, by omega, by omega⟩, by unfold qv; omega⟩
    · exact ⟨1, -1, 1, ⟨by omega, by omega, by omega⟩, by unfold qv; omega⟩
    · exact ⟨1, 1, -1, ⟨by omega, by omega, by omega⟩, by unfold qv; omega⟩
theorem NR_lb (h : NR a b c x y z) (ha : 1 ≤ a) (hn : ¬ (i % 2 = 0 ∧ j % 2 = 0 ∧ k % 2 = 0)) : mo a b c x y z i j k ≤ qv a b c x y z i j k := by
  obtain ⟨⟨hab, hbc⟩, _, hs, h5, h6, h7, h8⟩ := h
  have k5 : ¬ (b < zabs x ∨ (x = b ∧ 2 * y < z) ∨ (x = -b ∧ z < 0)) := h5
  have k6 : ¬ (a < zabs y ∨ (y = a ∧ 2 * x < z) ∨ (y = -a ∧ z < 0)) := h6
  have k7 : ¬ (a < zabs z ∨ (z = a ∧ 2 * x < y) ∨ (z = -a ∧ y < 0)) := h7
  rcases hs with ⟨hx, hy, hz⟩ | ⟨hx, hy, hz⟩
  · have e1 := zabs_p (x := x) (by omega)
    have e2 := zabs_p (x := y) (by omega)
    have e3 := zabs_p (x := z) (by omega)
    exact lbP hab hbc hx hy hz (by omega) (by omega) (by omega) hn
  · have e1 := zabs_n (x := x) (by omega)
    have e2 := zabs_n (x := y) (by omega)
    have e3 := zabs_n (x := z) (by omega)
    exact lbN hab hbc hx hy hz (by omega) (by omega) (by omega) hn
theorem NR_at (h : NR a b c x y z) (hn : ¬ (i % 2 = 0 ∧ j % 2 = 0 ∧ k % 2 = 0)) : ∃ u v w : Int, (u % 2 = i % 2 ∧ v % 2 = j % 2 ∧ w % 2 = k % 2) ∧ qv a b c x y z u v w = mo a b c x y z i j k := by
  rcases h.2.2.1 with ⟨hx, hy, hz⟩ | ⟨hx, hy, hz⟩
  · exact atP hx hy hz hn
  · exact atN hx hy hz hn
theorem mo_par {u v w : Int} (h : u % 2 = i % 2 ∧ v % 2 = j % 2 ∧ w % 2 = k % 2) : mo a b c x y z u v w = mo a b c x y z i j k := by
  unfold mo
  rw [h.1, h.2.1, h.2.2]
end AT
abbrev V3 : Type := Int × Int × Int
def par (v w : V3) : Prop := v.1 % 2 = w.1 % 2 ∧ v.2.1 % 2 = w.2.1 % 2 ∧ v.2.2 % 2 = w.2.2 % 2
def odd3 (v : V3) : Prop := ¬ (v.1 % 2 = 0 ∧ v.2.1 % 2 = 0 ∧ v.2.2 % 2 = 0)
def Qz (q : Z6) (v : V3) : Int := qv q.1 q.2.1 q.2.2.1 q.2.2.2.1 q.2.2.2.2.1 q.2.2.2.2.2 v.1 v.2.1 v.2.2
def moz (q : Z6) (v : V3) : Int := mo q.1 q.2.1 q.2.2.1 q.2.2.2.1 q.2.2.2.2.1 q.2.2.2.2.2 v.1 v.2.1 v.2.2
/-- two forms of one lattice: q' is q after f, and g is the way back -/
def EQm (q q' : Z6) (f g : V3 → V3) : Prop := (∀ v, Qz q' v = Qz q (f v)) ∧ ((∀ v, f (g v) = v) ∧ (∀ v, g (f v) = v)) ∧ ((∀ v w, par v w → par (f v) (f w)) ∧ (∀ v w, par v w → par (g v) (g w))) ∧ f (0, 0, 0) = (0, 0, 0) ∧ g (0, 0, 0) = (0, 0, 0)
theorem EQm.sym {q q' : Z6} {f g : V3 → V3} (h : EQm q q' f g) : EQm q' q g f := ⟨fun v => by rw [h.1, h.2.1.1], ⟨h.2.1.2, h.2.1.1⟩, ⟨h.2.2.1.2, h.2.2.1.1⟩, h.2.2.2.2, h.2.2.2.1⟩
theorem EQm.tr {q q' q'' : Z6} {f g f' g' : V3 → V3} (h : EQm q q' f g) (h' : EQm q' q'' f' g') : EQm q q'' (fun v => f (f' v)) (fun v => g' (g v)) :=
  ⟨fun v => by rw [h'.1, h.1], ⟨fun v => by show f (f' (g' (g v))) = v; rw [h'.2.1.1, h.2.1.1], fun v => by show g' (g (f (f' v))) = v; rw [h.2.1.2, h'.2.1.2]⟩, ⟨fun v w p => h.2.2.1.1 _ _ (h'.2.2.1.1 _ _ p), fun v w p => h'.2.2.1.2 _ _ (h.2.2.1.2 _ _ p)⟩, by show f (f' (0, 0, 0)) = _; rw [h'.2.2.2.1, h.2.2.2.1], by show g' (g (0, 0, 0)) = _; rw [h.2.2.2.2, h'.2.2.2.2]⟩
theorem EQm.odd {q q' : Z6} {f g : V3 → V3} (h : EQm q q' f g) {v : V3} (hv : odd3 v) : odd3 (f v) := fun hz => by
  have p : par (f v) (0, 0, 0) := ⟨hz.1, hz.2.1, hz.2.2⟩
  have p2 := h.2.2.1.2 _ _ p
  rw [h.2.1.2, h.2.2.2.2] at p2
  exact hv ⟨p2.1, p2.2.1, p2.2.2⟩
theorem mo_le {q q' : Z6} {f g : V3 → V3} (h : EQm q q' f g) (hq : NRz q) (hq' : NRz q') (ha' : 1 ≤ q'.1) {v : V3} (hv : odd3 v) : moz q' v ≤ moz q (f v) := by
  obtain ⟨u, w, t, hp, e⟩ := NR_at (i := (f v).1) (j := (f v).2.1) (k := (f v).2.2) hq (h.odd hv)
  have p : par (u, w, t) (f v) := hp
  have p2 := h.2.2.1.2 _ _ p
  rw [h.2.1.2] at p2
  have e2 : moz q' (g (u, w, t)) = moz q' v := mo_par p2
  have ho : odd3 (g (u, w, t)) := fun hz => hv ⟨by rw [← p2.1]; exact hz.1, by rw [← p2.2.1]; exact hz.2.1, by rw [← p2.2.2]; exact hz.2.2⟩
  have lb : moz q' (g (u, w, t)) ≤ Qz q' (g (u, w, t)) := NR_lb hq' ha' ho
  have e3 : Qz q' (g (u, w, t)) = Qz q (u, w, t) := by rw [h.1, h.2.1.1]
  have e4 : Qz q (u, w, t) = moz q (f v) := e
  omega
/-- the least values on classes are the same for two forms of one lattice -/
theorem mo_inv {q q' : Z6} {f g : V3 → V3} (h : EQm q q' f g) (hq : NRz q) (hq' : NRz q') (ha : 1 ≤ q.1) (ha' : 1 ≤ q'.1) {v : V3} (hv : odd3 v) : moz q' v = moz q (f v) := by
  have h1 := mo_le h hq hq' ha' hv
  have h2 := mo_le h.sym hq' hq ha (h.odd hv)
  rw [h.2.1.2] at h2
  omega

