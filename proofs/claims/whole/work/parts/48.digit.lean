-- the nine numbers of a matrix, its columns; keeps
theorem nI_div {a b : Nat} (ha : a < 2 ^ 31) (hb : b < 2 ^ 31) : nI a / nI b = nI (a / b) := (Int32.ofNat_div ha hb).symm
theorem nI_sub' {a b : Nat} (h : b ≤ a) : nI a - nI b = nI (a - b) := by
  have : nI a = nI (a - b) + nI b := by rw [nI_add, Nat.sub_add_cancel h]
  rw [this, Int32.add_sub_cancel]
theorem div3 {a : Nat} (h : a < 2 ^ 31) : nI a / (3 : Int32) = nI (a / 3) := nI_div (b := 3) h (by decide)
theorem div9 {a : Nat} (h : a < 2 ^ 31) : nI a / (9 : Int32) = nI (a / 9) := nI_div (b := 9) h (by decide)
theorem div27 {a : Nat} (h : a < 2 ^ 31) : nI a / (27 : Int32) = nI (a / 27) := nI_div (b := 27) h (by decide)
theorem div729 {a : Nat} (h : a < 2 ^ 31) : nI a / (729 : Int32) = nI (a / 729) := nI_div (b := 729) h (by decide)
theorem mul3 (a : Nat) : nI a * (3 : Int32) = nI (a * 3) := nI_mul a 3
theorem mul9 (a : Nat) : nI a * (9 : Int32) = nI (a * 9) := nI_mul a 9
theorem rem3 {a : Nat} (h : a < 2 ^ 31) : nI a - nI a / (3 : Int32) * (3 : Int32) = nI (a % 3) := by
  rw [div3 h, mul3, nI_sub' (by omega), show a - a / 3 * 3 = a % 3 by omega]
/-- a digit of base 3, less 1 -/
def dm (d : Nat) : Int64 := (nI d - 1).toInt64
theorem col_s {v : Nat} (h : v < 2 ^ 31) : f_columnAtEnd (nI v) = nI (v / 729 % 3 * 9 + v / 27 % 3 * 3 + v % 3) := by
  unfold f_columnAtEnd
  rw [div729 h, div27 h, rem3 (by omega), rem3 (by omega), rem3 h, mul9, mul3, nI_add, nI_add]
theorem colp_s (t : P6) {l r : Nat} (hl : l < 2 ^ 31) (hr : r < 2 ^ 31) : f_P_colp t.1 t.2.1 t.2.2.1 t.2.2.2.1 t.2.2.2.2.1 t.2.2.2.2.2 (nI l) (nI r) = f_P_prod t.1 t.2.1 t.2.2.1 t.2.2.2.1 t.2.2.2.2.1 t.2.2.2.2.2 (dm (l / 9 % 3)) (dm (l / 3 % 3)) (dm (l % 3)) (dm (r / 9 % 3)) (dm (r / 3 % 3)) (dm (r % 3)) := by
  unfold f_P_colp dm
  rw [rem3 hl, rem3 hr, div9 hl, div9 hr, div3 hl, div3 hr, rem3 (by omega), rem3 (by omega), rem3 (by omega), rem3 (by omega)]
/-- the product of two columns -/
def cp (t : P6) (l r : Nat) : Int64 := f_P_prod t.1 t.2.1 t.2.2.1 t.2.2.2.1 t.2.2.2.2.1 t.2.2.2.2.2 (dm (l / 9 % 3)) (dm (l / 3 % 3)) (dm (l % 3)) (dm (r / 9 % 3)) (dm (r / 3 % 3)) (dm (r % 3))
abbrev K2 (t : P6) (f s : Nat) : Prop := cp t s s = t.2.1 ∧ cp t f s = t.2.2.2.2.2
abbrev K3 (t : P6) (f s h : Nat) : Prop := cp t h h = t.2.2.1 ∧ cp t f h = t.2.2.2.2.1 ∧ cp t s h = t.2.2.2.1
abbrev KP (t : P6) (f s h : Nat) : Prop := cp t f f = t.1 ∧ K2 t f s ∧ K3 t f s h
theorem fit2_s (t : P6) {f s : Nat} (hf : f < 2 ^ 31) (hs : s < 2 ^ 31) : f_P_fit2 t.1 t.2.1 t.2.2.1 t.2.2.2.1 t.2.2.2.2.1 t.2.2.2.2.2 (nI f) (nI s) = if K2 t f s then 1 else 0 := by
  unfold f_P_fit2
  rw [colp_s t hs hs, colp_s t hf hs]
  show (if lg_cmp (cp t s s) t.2.1 = 0 then if lg_cmp (cp t f s) t.2.2.2.2.2 = 0 then (1 : Int32) else 0 else 0) = _
  simp only [lg_eq]
  by_cases c1 : cp t s s = t.2.1
  · rw [if_pos c1]
    by_cases c2 : cp t f s = t.2.2.2.2.2
    · rw [if_pos c2, if_pos ⟨c1, c2⟩]
    · rw [if_neg c2, if_neg (fun q => c2 q.2)]
  · rw [if_neg c1, if_neg (fun q => c1 q.1)]
theorem fit3_s (t : P6) {f s h : Nat} (hf : f < 2 ^ 31) (hs : s < 2 ^ 31) (hh : h < 2 ^ 31) : f_P_fit3 t.1 t.2.1 t.2.2.1 t.2.2.2.1 t.2.2.2.2.1 t.2.2.2.2.2 (nI f) (nI s) (nI h) = if K3 t f s h then 1 else 0 := by
  unfold f_P_fit3
  rw [colp_s t hh hh, colp_s t hf hh, colp_s t hs hh]
  show (if lg_cmp (cp t h h) t.2.2.1 = 0 then if lg_cmp (cp t f h) t.2.2.2.2.1 = 0 then if lg_cmp (cp t s h) t.2.2.2.1 = 0 then (1 : Int32) else 0 else 0 else 0) = _
  simp only [lg_eq]
  by_cases c1 : cp t h h = t.2.2.1
  · rw [if_pos c1]
    by_cases c2 : cp t f h = t.2.2.2.2.1
    · rw [if_pos c2]
      by_cases c3 : cp t s h = t.2.2.2.1
      · rw [if_pos c3, if_pos ⟨c1, c2, c3⟩]
      · rw [if_neg c3, if_neg (fun q => c3 q.2.2)]
    · rw [if_neg c2, if_neg (fun q => c2 q.2.1)]
  · rw [if_neg c1, if_neg (fun q => c1 q.1)]
theorem one0 {p : Prop} [Decidable p] : (if p then (1 : Int32) else 0) = 0 ↔ ¬ p := by
  by_cases c : p
  · rw [if_pos c]; exact ⟨fun q => absurd q (by decide), fun q => absurd c q⟩
  · rw [if_neg c]; exact ⟨fun _ => c, fun _ => rfl⟩
theorem kept_s (t : P6) {f s h : Nat} (hf : f < 2 ^ 31) (hs : s < 2 ^ 31) (hh : h < 2 ^ 31) : f_P_kept t.1 t.2.1 t.2.2.1 t.2.2.2.1 t.2.2.2.2.1 t.2.2.2.2.2 (nI f) (nI s) (nI h) = if KP t f s h then 1 else 0 := by
  unfold f_P_kept
  rw [fit2_s t hf hs, fit3_s t hf hs hh, colp_s t hf hf]
  show (if lg_cmp (cp t f f) t.1 = 0 then _ else _) = _
  simp only [lg_eq, one0]
  by_cases c1 : cp t f f = t.1
  · rw [if_pos c1]
    by_cases c2 : K2 t f s
    · rw [if_neg (fun q => q c2)]
      by_cases c3 : K3 t f s h
      · rw [if_neg (fun q => q c3), if_pos ⟨c1, c2, c3⟩]
      · rw [if_pos c3, if_neg (fun q => c3 q.2.2)]
    · rw [if_pos c2, if_neg (fun q => c2 q.2.1)]
  · rw [if_neg c1, if_neg (fun q => c1 q.1)]
-- opened
theorem op_step {ni : Int32} {n k v : Nat} {am : Nat → Int32} (hk : k < 9) (hv : v < 2 ^ 31) : lp_M_open_5 ni (n + 1) (nI v) (nI k) am = lp_M_open_5 ni n (nI (v / 3)) (nI k + (-1 : Int32)) (upd am k (nI (v % 3) - 1)) := by
  rw [lp_M_open_5, if_neg (nI_pos (by omega)), if_pos (inb_nI (by omega) hk), rem3 hv, div3 hv, nI_clamp (by omega)]
theorem nI_dn (k : Nat) : nI (k + 1) + (-1 : Int32) = nI k := by
  rw [← nI_1, Int32.add_assoc, show (1 : Int32) + -1 = 0 by decide, Int32.add_zero]
/-- the nine numbers, by the number n -/
def M9 (am : Nat → Int32) (n : Nat) : Prop := am 8 = nI (n % 3) - 1 ∧ am 7 = nI (n / 3 % 3) - 1 ∧ am 6 = nI (n / 3 / 3 % 3) - 1 ∧ am 5 = nI (n / 3 / 3 / 3 % 3) - 1 ∧ am 4 = nI (n / 3 / 3 / 3 / 3 % 3) - 1 ∧ am 3 = nI (n / 3 / 3 / 3 / 3 / 3 % 3) - 1 ∧ am 2 = nI (n / 3 / 3 / 3 / 3 / 3 / 3 % 3) - 1 ∧ am 1 = nI (n / 3 / 3 / 3 / 3 / 3 / 3 / 3 % 3) - 1 ∧ am 0 = nI (n / 3 / 3 / 3 / 3 / 3 / 3 / 3 / 3 % 3) - 1
theorem open_s {n : Nat} (hn : n < 2 ^ 31) (am : Nat → Int32) : ∃ v, f_M_open am (nI n) = some v ∧ M9 v n := by
  unfold f_M_open
  rw [show (8 : Int32) = nI 8 from rfl, op_step (by decide) hn, nI_dn 7, op_step (by decide) (by omega), nI_dn 6, op_step (by decide) (by omega), nI_dn 5, op_step (by decide) (by omega), nI_dn 4, op_step (by decide) (by omega), nI_dn 3, op_step (by decide) (by omega), nI_dn 2, op_step (by decide) (by omega), nI_dn 1, op_step (by decide) (by omega), nI_dn 0, op_step (by decide) (by omega), lp_M_open_5, if_pos (show nI 0 + (-1 : Int32) < 0 by decide)]
  exact ⟨_, rfl, rfl, rfl, rfl, rfl, rfl, rfl, rfl, rfl, rfl⟩
/-- columns of the matrix with the number n -/
def q1 (n : Nat) : Nat := n / 9 / 729 % 3 * 9 + n / 9 / 27 % 3 * 3 + n / 9 % 3
def q2 (n : Nat) : Nat := n / 3 / 729 % 3 * 9 + n / 3 / 27 % 3 * 3 + n / 3 % 3
def q3 (n : Nat) : Nat := n / 729 % 3 * 9 + n / 27 % 3 * 3 + n % 3
theorem ts0 : (0 : Int32).toNatClampNeg = 0 := by decide
theorem ts6 : (6 : Int32).toNatClampNeg = 6 := by decide
theorem ts7 : (7 : Int32).toNatClampNeg = 7 := by decide
theorem ts8 : (8 : Int32).toNatClampNeg = 8 := by decide
theorem dg_s (a b c : Nat) (ha : a < 3) (hb : b < 3) (hc : c < 3) : (a * 9 + b * 3 + c) / 9 % 3 = a ∧ (a * 9 + b * 3 + c) / 3 % 3 = b ∧ (a * 9 + b * 3 + c) % 3 = c := by omega
set_option maxHeartbeats 4000000 in
theorem keeps6_s {g : Nat → Int64} {i n : Nat} {t : P6} {am : Nat → Int32} (hi : i < 40) (h : row6 g i t) (m : M9 am n) : f_M_keeps6 am g (nI (6 * i)) = some (if KP t (q1 n) (q2 n) (q3 n) then 1 else 0) := by
  obtain ⟨m8, m7, m6, m5, m4, m3, m2, m1, m0⟩ := m
  have x0 : (am 0).toInt64 = dm (q1 n / 9 % 3) := by
    rw [m0, show q1 n / 9 % 3 = n / 3 / 3 / 3 / 3 / 3 / 3 / 3 / 3 % 3 by unfold q1; rw [(dg_s _ _ _ (Nat.mod_lt _ (by decide)) (Nat.mod_lt _ (by decide)) (Nat.mod_lt _ (by decide))).1]; simp only [Nat.div_div_eq_div_mul, Nat.reduceMul]]; rfl
  have x3 : (am 3).toInt64 = dm (q1 n / 3 % 3) := by
    rw [m3, show q1 n / 3 % 3 = n / 3 / 3 / 3 / 3 / 3 % 3 by unfold q1; omega]; rfl
  have x6 : (am 6).toInt64 = dm (q1 n % 3) := by
    rw [m6, show q1 n % 3 = n / 3 / 3 % 3 by unfold q1; omega]; rfl
  have x1 : (am 1).toInt64 = dm (q2 n / 9 % 3) := by
    rw [m1, show q2 n / 9 % 3 = n / 3 / 3 / 3 / 3 / 3 / 3 / 3 % 3 by unfold q2; rw [(dg_s _ _ _ (Nat.mod_lt _ (by decide)) (Nat.mod_lt _ (by decide)) (Nat.mod_lt _ (by decide))).1]; simp only [Nat.div_div_eq_div_mul, Nat.reduceMul]]; rfl
  have x4 : (am 4).toInt64 = dm (q2 n / 3 % 3) := by
    rw [m4, show q2 n / 3 % 3 = n / 3 / 3 / 3 / 3 % 3 by unfold q2; omega]; rfl
  have x7 : (am 7).toInt64 = dm (q2 n % 3) := by
    rw [m7, show q2 n % 3 = n / 3 % 3 by unfold q2; omega]; rfl
  have x2 : (am 2).toInt64 = dm (q3 n / 9 % 3) := by
    rw [m2, show q3 n / 9 % 3 = n / 3 / 3 / 3 / 3 / 3 / 3 % 3 by unfold q3; rw [(dg_s _ _ _ (Nat.mod_lt _ (by decide)) (Nat.mod_lt _ (by decide)) (Nat.mod_lt _ (by decide))).1]; simp only [Nat.div_div_eq_div_mul, Nat.reduceMul]]; rfl
  have x5 : (am 5).toInt64 = dm (q3 n / 3 % 3) := by
    rw [m5, show q3 n / 3 % 3 = n / 3 / 3 / 3 % 3 by unfold q3; omega]; rfl
  have x8 : (am 8).toInt64 = dm (q3 n % 3) := by
    rw [m8, show q3 n % 3 = n % 3 by unfold q3; omega]; rfl
  unfold f_M_keeps6
  simp only [ts0, tc1, tc2, tc3, tc4, tc5, ts6, ts7, ts8, x0, x1, x2, x3, x4, x5, x6, x7, x8, dot_s hi h, Option.bind_some, nI_p1, nI_p2, nI_p3, nI_p4, nI_p5]
  rw [if_pos (inb_nI (by omega) (by omega)), if_pos (inb_nI (by omega) (by omega)), if_pos (inb_nI (by omega) (by omega)), if_pos (inb_nI (by omega) (by omega)), if_pos (inb_nI (by omega) (by omega)), if_pos (inb_nI (by omega) (by omega)), cl6 (by omega), cl6 (by omega), cl6 (by omega), cl6 (by omega), cl6 (by omega), cl6 (by omega), h.1, h.2.1, h.2.2.1, h.2.2.2.1, h.2.2.2.2.1, h.2.2.2.2.2]
  show (if lg_cmp (cp t (q1 n) (q1 n)) t.1 = 0 then if lg_cmp (cp t (q2 n) (q2 n)) t.2.1 = 0 then if lg_cmp (cp t (q3 n) (q3 n)) t.2.2.1 = 0 then if lg_cmp (cp t (q2 n) (q3 n)) t.2.2.2.1 = 0 then if lg_cmp (cp t (q1 n) (q3 n)) t.2.2.2.2.1 = 0 then if lg_cmp (cp t (q1 n) (q2 n)) t.2.2.2.2.2 = 0 then some (1 : Int32) else some 0 else some 0 else some 0 else some 0 else some 0 else some 0) = _
  simp only [lg_eq]
  by_cases c1 : cp t (q1 n) (q1 n) = t.1
  rotate_left
  · rw [if_neg c1, if_neg (fun q => c1 q.1)]
  rw [if_pos c1]
  by_cases c2 : cp t (q2 n) (q2 n) = t.2.1
  rotate_left
  · rw [if_neg c2, if_neg (fun q => c2 q.2.1.1)]
  rw [if_pos c2]
  by_cases c3 : cp t (q3 n) (q3 n) = t.2.2.1
  rotate_left
  · rw [if_neg c3, if_neg (fun q => c3 q.2.2.1)]
  rw [if_pos c3]
  by_cases c4 : cp t (q2 n) (q3 n) = t.2.2.2.1
  rotate_left
  · rw [if_neg c4, if_neg (fun q => c4 q.2.2.2.2)]
  rw [if_pos c4]
  by_cases c5' : cp t (q1 n) (q3 n) = t.2.2.2.2.1
  rotate_left
  · rw [if_neg c5', if_neg (fun q => c5' q.2.2.2.1)]
  rw [if_pos c5']
  by_cases c6' : cp t (q1 n) (q2 n) = t.2.2.2.2.2
  rotate_left
  · rw [if_neg c6', if_neg (fun q => c6' q.2.1.2)]
  rw [if_pos c6', if_pos ⟨c1, ⟨c2, c6'⟩, c3, c5', c4⟩]
section KS
variable {kn : Nat} {td lw : Nat → P6} {sy sh : Nat → Int32} {ac al : Nat → Int64} {ay as_ : Nat → Int32}
theorem keeps_s (hk : kn ≤ 40) (h : CR kn td lw sy sh ac al ay as_) (am : Nat → Int32) (cl ni : Int32) : ∃ r v, f_B_keeps td lw sy sh kn cl ni = some r ∧ f_M_keeps (nI kn) am ac cl ni = some (r, v) := by
  unfold f_B_keeps f_M_keeps
  by_cases hb : inb cl kn = true
  · rw [if_pos hb, isCell_in hk hb, if_neg (show ¬ (1 : Int32) = 0 by decide)]
    obtain ⟨i, hi, rfl⟩ := inb_of hb
    by_cases n0 : ni < 0
    · rw [if_pos n0, if_pos n0]; exact ⟨_, _, rfl, rfl⟩
    rw [if_neg n0, if_neg n0]
    by_cases n1 : ni < 19683
    · rw [if_pos n1, if_pos n1]
      obtain ⟨n, hn, rfl⟩ := nI_of n0
      obtain ⟨v, ev, hv⟩ := open_s hn am
      have hc : (nI i).toNatClampNeg = i := nI_clamp (by omega)
      rw [ev, Option.bind_some, hc, nI_6, keeps6_s (by omega) (h i hi).1.1 hv, Option.bind_some, div9 hn, div3 hn, col_s (by omega), col_s (by omega), col_s hn, kept_s (td i) (by omega) (by omega) (by omega)]
      exact ⟨_, _, rfl, rfl⟩
    · rw [if_neg n1, if_neg n1]; exact ⟨_, _, rfl, rfl⟩
  · rw [if_neg hb, isCell_out hk hb, if_pos rfl]
    exact ⟨_, _, rfl, rfl⟩
end KS

