-- a bound on the turns: each strict shear lowers a square to one of few values
theorem pig : ∀ (n : Nat) (L : List Nat) (c : Nat → Nat), L.Nodup → (∀ x, x ∈ L → c x < n) → (∀ x y, x ∈ L → y ∈ L → c x = c y → x = y) → L.length ≤ n := by
  intro n
  induction n with
  | zero =>
    intro L c _ h _
    cases L with
    | nil => exact Nat.le_refl _
    | cons x L => exact absurd (h x List.mem_cons_self) (by omega)
  | succ n ih =>
    intro L c hn h hi
    by_cases hx : ∃ x, x ∈ L ∧ c x = n
    · obtain ⟨x, hx, hc⟩ := hx
      have k := ih (L.erase x) c (hn.erase x) (fun y hy => by
        have m := (List.Nodup.mem_erase_iff hn).mp hy
        have := h y m.2
        have hne : c y ≠ n := fun e => m.1 (hi y x m.2 hx (by rw [e, hc]))
        omega) (fun y z hy hz => hi y z (List.mem_of_mem_erase hy) (List.mem_of_mem_erase hz))
      rw [List.length_erase_of_mem hx] at k
      omega
    · have k := ih L c hn (fun y hy => by
        have := h y hy
        have hne : c y ≠ n := fun e => hx ⟨y, hy, e⟩
        omega) hi
      omega
/-- how many numbers below N are of the kind V -/
noncomputable def rk (V : Int → Prop) (N : Int) : Nat := ((List.range N.toNat).filter (fun v : Nat => @decide (V (v : Int)) (Classical.propDecidable _))).length
section RK
variable {V : Int → Prop}
theorem rk_mono {N N' : Int} (h : N ≤ N') : rk V N ≤ rk V N' := by
  unfold rk
  obtain ⟨d, e⟩ : ∃ d, N'.toNat = N.toNat + d := ⟨N'.toNat - N.toNat, by omega⟩
  rw [e, List.range_add, List.filter_append, List.length_append]
  omega
theorem rk_lt {x y : Int} (hx : 0 ≤ x) (h : x < y) (hv : V x) : rk V x < rk V y := by
  have k : rk V (x + 1) ≤ rk V y := rk_mono (by omega)
  have e : rk V (x + 1) = rk V x + 1 := by
    unfold rk
    rw [show (x + 1).toNat = x.toNat + 1 by omega, List.range_succ, List.filter_append, List.length_append, List.filter_cons_of_pos]
    · rfl
    · have e : ((x.toNat : Nat) : Int) = x := by omega
      exact @decide_eq_true _ (Classical.propDecidable _) (by rw [e]; exact hv)
  omega
theorem rk_le {N : Int} {n : Nat} {c : Nat → Nat} (h : ∀ v : Nat, (v : Int) < N → V v → c v < n) (hi : ∀ v w : Nat, (v : Int) < N → V v → (w : Int) < N → V w → c v = c w → v = w) : rk V N ≤ n := by
  unfold rk
  have m : ∀ v, v ∈ (List.range N.toNat).filter (fun v : Nat => @decide (V (v : Int)) (Classical.propDecidable _)) → (v : Int) < N ∧ V v := fun v hv => by
    have := List.mem_filter.mp hv
    have h2 := List.mem_range.mp this.1
    exact ⟨by omega, @of_decide_eq_true _ (Classical.propDecidable _) this.2⟩
  exact pig n _ c (List.nodup_range.filter _) (fun v hv => h v (m v hv).1 (m v hv).2) (fun v w hv hw => hi v w (m v hv).1 (m v hv).2 (m w hw).1 (m w hw).2)
end RK
/-- a set of vectors, in few columns of few -/
def Bx (S : V3 → Prop) (K J I : Nat) : Prop := (∀ v, S v → 0 ≤ v.2.2 ∧ v.2.2 ≤ K) ∧ (∀ v w, S v → S w → v.2.2 = w.2.2 → v.2.1 - w.2.1 ≤ J ∧ (v.2.1 = w.2.1 → v.1 - w.1 ≤ I))
def cod (J I : Nat) (v : V3) : Nat := (v.2.2.toNat * (J + 1) + (v.2.1 % ((J : Int) + 1)).toNat) * (I + 1) + (v.1 % ((I : Int) + 1)).toNat
theorem md_eq {a b : Int} {n : Nat} (h : a % ((n : Int) + 1) = b % ((n : Int) + 1)) (h1 : a - b ≤ n) (h2 : b - a ≤ n) : a = b := by
  have e1 := Int.mul_ediv_add_emod a ((n : Int) + 1)
  have e2 := Int.mul_ediv_add_emod b ((n : Int) + 1)
  have e : a - b = ((n : Int) + 1) * (a / ((n : Int) + 1) - b / ((n : Int) + 1)) := by
    rw [Int.mul_sub]; omega
  generalize a / ((n : Int) + 1) - b / ((n : Int) + 1) = d at e
  by_cases d0 : d = 0
  · rw [d0, Int.mul_zero] at e; omega
  · by_cases dp : 0 < d
    · have := Int.mul_le_mul_of_nonneg_left (show (1 : Int) ≤ d by omega) (show (0 : Int) ≤ (n : Int) + 1 by omega)
      omega
    · have := Int.mul_le_mul_of_nonneg_left (show (1 : Int) ≤ -d by omega) (show (0 : Int) ≤ (n : Int) + 1 by omega)
      rw [Int.mul_neg] at this
      omega
theorem md_lt (a : Int) (n : Nat) : (a % ((n : Int) + 1)).toNat < n + 1 ∧ 0 ≤ a % ((n : Int) + 1) := by
  have h1 := Int.emod_nonneg a (show ((n : Int) + 1) ≠ 0 by omega)
  have h2 := Int.emod_lt_of_pos a (show (0 : Int) < (n : Int) + 1 by omega)
  omega
theorem pair_lt {a b m n : Nat} (h1 : a < m) (h2 : b < n) : a * n + b < m * n := by
  have := Nat.mul_le_mul_right n (show a + 1 ≤ m by omega)
  rw [Nat.succ_mul] at this
  omega
theorem pair_eq {a b a' b' n : Nat} (h1 : b < n) (h2 : b' < n) (e : a * n + b = a' * n + b') : a = a' ∧ b = b' := by
  have k : a = a' := by
    have e1 : (a * n + b) / n = a := by
      rw [Nat.mul_comm, Nat.mul_add_div (by omega), Nat.div_eq_of_lt h1, Nat.add_zero]
    have e2 : (a' * n + b') / n = a' := by
      rw [Nat.mul_comm, Nat.mul_add_div (by omega), Nat.div_eq_of_lt h2, Nat.add_zero]
    rw [← e1, e, e2]
  rw [k] at e
  exact ⟨k, by omega⟩
theorem cod_lt {S : V3 → Prop} {K J I : Nat} (h : Bx S K J I) {v : V3} (hv : S v) : cod J I v < (K + 1) * (J + 1) * (I + 1) := by
  have k := h.1 v hv
  unfold cod
  exact pair_lt (pair_lt (by omega) (md_lt _ _).1) (md_lt _ _).1
theorem cod_in {S : V3 → Prop} {K J I : Nat} (h : Bx S K J I) {v w : V3} (hv : S v) (hw : S w) (e : cod J I v = cod J I w) : v = w := by
  have k := h.1 v hv
  have k' := h.1 w hw
  unfold cod at e
  obtain ⟨e1, e2⟩ := pair_eq (md_lt _ _).1 (md_lt _ _).1 e
  obtain ⟨e3, e4⟩ := pair_eq (md_lt _ _).1 (md_lt _ _).1 e1
  have a1 := (md_lt v.1 I).2
  have a2 := (md_lt w.1 I).2
  have a3 := (md_lt v.2.1 J).2
  have a4 := (md_lt w.2.1 J).2
  have c3 : v.2.2 = w.2.2 := by omega
  have d1 := h.2 v w hv hw c3
  have d2 := h.2 w v hw hv c3.symm
  have c2 : v.2.1 = w.2.1 := md_eq (n := J) (by omega) d1.1 d2.1
  have c1 : v.1 = w.1 := md_eq (n := I) (by omega) (d1.2 c2) (d2.2 c2.symm)
  exact v3x c1 c2 c3
/-- few values -/
theorem rk_bx {V : Int → Prop} {N : Int} {S : V3 → Prop} {K J I : Nat} {Q : V3 → Int} (h : Bx S K J I) (hv : ∀ x : Int, x < N → V x → ∃ v, S v ∧ Q v = x) : rk V N ≤ (K + 1) * (J + 1) * (I + 1) := by
  have ch : ∀ x : Nat, ∃ v : V3, (x : Int) < N → V x → S v ∧ Q v = x := fun x => by
    by_cases c : (x : Int) < N ∧ V x
    · obtain ⟨v, hv⟩ := hv x c.1 c.2
      exact ⟨v, fun _ _ => hv⟩
    · exact ⟨(0, 0, 0), fun h1 h2 => absurd ⟨h1, h2⟩ c⟩
  refine rk_le (c := fun x => cod J I (Classical.choose (ch x))) ?_ ?_
  · intro x hx hV
    exact cod_lt h (Classical.choose_spec (ch x) hx hV).1
  · intro x y hx hV hy hW e
    have s1 := Classical.choose_spec (ch x) hx hV
    have s2 := Classical.choose_spec (ch y) hy hW
    have e2 := cod_in h s1.1 s2.1 e
    have : (x : Int) = y := by rw [← s1.2, ← s2.2, e2]
    omega

