-- cells in another order
theorem vP_iff {D : va_G} {cl : List vw_C} {ws : va_W} {H : Heap} : va_P D cl ws H ↔ ∀ q ∈ ws, va_at D cl q H :=
  ⟨fun h q hq => by
    obtain ⟨k, hk⟩ := List.getElem?_of_mem hq
    exact h k q hk, fun h k q hk => h q (List.mem_of_getElem? hk)⟩
theorem vP_perm {D : va_G} {cl : List vw_C} {ws ws' : va_W} {H : Heap} (h : va_P D cl ws H) (hp : List.Perm ws ws') : va_P D cl ws' H :=
  vP_iff.mpr fun q hq => vP_iff.mp h q (hp.mem_iff.mpr hq)
theorem vD_iff {A : Nat → Prop} {ws : va_W} : va_D A ws ↔ ws.Pairwise (fun p q => p.1 ≠ q.1) ∧ ∀ q ∈ ws, A q.1 := by
  constructor
  · intro h
    refine ⟨List.pairwise_iff_getElem.mpr fun i j hi hj hij e => ?_, fun q hq => ?_⟩
    · have := h.1 i j ws[i] ws[j] (List.getElem?_eq_getElem hi) (List.getElem?_eq_getElem hj) e
      omega
    · obtain ⟨k, hk⟩ := List.getElem?_of_mem hq
      exact h.2 k q hk
  · intro h
    refine ⟨fun i j p q hp hq e => ?_, fun k q hk => h.2 q (List.mem_of_getElem? hk)⟩
    obtain ⟨hi, rfl⟩ := List.getElem?_eq_some_iff.mp hp
    obtain ⟨hj, rfl⟩ := List.getElem?_eq_some_iff.mp hq
    have hw := List.pairwise_iff_getElem.mp h.1
    rcases Nat.lt_trichotomy i j with c | c | c
    · exact absurd e (hw i j hi hj c)
    · exact c
    · exact absurd e.symm (hw j i hj hi c)
theorem vD_perm {A : Nat → Prop} {ws ws' : va_W} (h : va_D A ws) (hp : List.Perm ws ws') : va_D A ws' := by
  obtain ⟨h1, h2⟩ := vD_iff.mp h
  exact vD_iff.mpr ⟨(hp.pairwise_iff (fun {a b} hab => Ne.symm hab)).mp h1, fun q hq => h2 q (hp.mem_iff.mpr hq)⟩
theorem mid_perm (X J Y T : va_W) : List.Perm (X ++ (J ++ (Y ++ T))) ((X ++ Y) ++ (J ++ T)) := by
  rw [List.append_assoc]
  refine List.Perm.append_left X ?_
  rw [← List.append_assoc, ← List.append_assoc]
  exact List.Perm.append_right T List.perm_append_comm
theorem PoolIn.app {wt : va_W} {ca ta la : Nat → Nat} {td lw : Nat → P6} {sy sh : Nat → Int32} {kn : Nat} (X : va_W) (h : PoolIn wt ca ta la td lw sy sh kn) : PoolIn (X ++ wt) ca ta la td lw sy sh kn := by
  intro i hi
  obtain ⟨⟨k1, h1⟩, ⟨k2, h2⟩, ⟨k3, h3⟩⟩ := h i hi
  have sh_ : ∀ (k : Nat) (x : Nat × va_E), wt[k]? = some x → (X ++ wt)[X.length + k]? = some x := fun k x hx => by
    rw [List.getElem?_append_right (by omega)]
    rw [show X.length + k - X.length = k by omega]
    exact hx
  exact ⟨⟨_, sh_ _ _ h1⟩, ⟨_, sh_ _ _ h2⟩, ⟨_, sh_ _ _ h3⟩⟩
/-- a new cell: its number is kn -/
theorem PoolIn.push {wt : va_W} {ca ta la : Nat → Nat} {td lw : Nat → P6} {sy sh : Nat → Int32} {kn qc qt ql : Nat} {a b : P6} {u v : Int32} (h : PoolIn wt ca ta la td lw sy sh kn) :
    PoolIn ([(qc, .inr (3, [.ref qt, .ref ql, .int u, .int v])), (qt, .inr (0, p6 a)), (ql, .inr (0, p6 b))] ++ wt) (va_up ca kn qc) (va_up ta kn qt) (va_up la kn ql) (va_up td kn a) (va_up lw kn b) (va_up sy kn u) (va_up sh kn v) (kn + 1) := by
  intro i hi
  by_cases e : i = kn
  · subst e
    rw [va_up_self, va_up_self, va_up_self, va_up_self, va_up_self, va_up_self, va_up_self]
    exact ⟨⟨0, rfl⟩, ⟨1, rfl⟩, ⟨2, rfl⟩⟩
  · rw [va_up_ne _ _ e, va_up_ne _ _ e, va_up_ne _ _ e, va_up_ne _ _ e, va_up_ne _ _ e, va_up_ne _ _ e, va_up_ne _ _ e]
    exact h.app _ i (by omega)
theorem cfun_push {kn : Nat} {ca : Nat → Nat} {qc : Nat} (h : kn < 2 ^ 31) : va_up (cfun kn ca) (nI kn).toNatClampNeg (some qc) = cfun (kn + 1) (va_up ca kn qc) := by
  rw [nI_clamp h]
  funext j
  unfold cfun va_up
  by_cases e : j = kn
  · subst e
    simp
  · by_cases c : j < kn
    · rw [if_neg e]
      show (if j < kn then some (ca j) else none) = _
      rw [if_pos c, if_pos (by omega), if_neg e]
    · rw [if_neg e]
      show (if j < kn then some (ca j) else none) = _
      rw [if_neg c, if_neg (by omega)]

