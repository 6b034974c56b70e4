-- the program's table filled
theorem run_some : ∀ (fu tu : Nat) (ra rb rc rx ry rz : Int64) (rs : Int32), 1000001 ≤ fu + tu → tu ≤ 1000000 → ∃ res, lp_R_run_7 fu (nI tu) ra rb rc rx ry rz rs = some res := by
  intro fu
  induction fu with
  | zero => intro tu ra rb rc rx ry rz rs h1 h2; omega
  | succ fu ih =>
    intro tu ra rb rc rx ry rz rs h1 h2
    rw [lp_R_run_7]
    by_cases c : (1000000 : Int32) ≤ nI tu
    · rw [if_pos c]; exact ⟨_, rfl⟩
    have ht : tu < 1000000 := Nat.lt_of_not_le fun q => c (nI_le (a := 1000000) (b := tu) q (by omega))
    have go : ∀ (a b c x y z : Int64) (s : Int32), ∃ res, lp_R_run_7 fu (nI tu + 1) a b c x y z s = some res := fun a b c x y z s => by
      rw [nI_1]; exact ih (tu + 1) a b c x y z s (by omega) (by omega)
    rw [if_neg c, bnd_eq]
    generalize f_R_ord1 ra rb rc rx ry rz rs = z1
    rw [bnd_eq]
    generalize f_R_ord2 z1.1 z1.2.1 z1.2.2.1 z1.2.2.2.1 z1.2.2.2.2.1 z1.2.2.2.2.2.1 z1.2.2.2.2.2.2 = z2
    by_cases c2 : z2.1 = 0
    rotate_left
    · rw [if_neg c2]; exact go _ _ _ _ _ _ _
    rw [if_pos c2, bnd_eq]
    generalize f_R_align z2.2.1 z2.2.2.1 z2.2.2.2.1 z2.2.2.2.2.1 z2.2.2.2.2.2.1 z2.2.2.2.2.2.2.1 z2.2.2.2.2.2.2.2 = z3
    rw [bnd_eq]
    generalize f_R_shX z3.1 z3.2.1 z3.2.2.1 z3.2.2.2.1 z3.2.2.2.2.1 z3.2.2.2.2.2.1 z3.2.2.2.2.2.2 = z4
    by_cases c4 : z4.1 = 0
    rotate_left
    · rw [if_neg c4]; exact go _ _ _ _ _ _ _
    rw [if_pos c4, bnd_eq]
    generalize f_R_shY z4.2.1 z4.2.2.1 z4.2.2.2.1 z4.2.2.2.2.1 z4.2.2.2.2.2.1 z4.2.2.2.2.2.2.1 z4.2.2.2.2.2.2.2 = z5
    by_cases c5 : z5.1 = 0
    rotate_left
    · rw [if_neg c5]; exact go _ _ _ _ _ _ _
    rw [if_pos c5, bnd_eq]
    generalize f_R_shZ z5.2.1 z5.2.2.1 z5.2.2.2.1 z5.2.2.2.2.1 z5.2.2.2.2.2.1 z5.2.2.2.2.2.2.1 z5.2.2.2.2.2.2.2 = z6
    by_cases c6 : z6.1 = 0
    rotate_left
    · rw [if_neg c6]; exact go _ _ _ _ _ _ _
    rw [if_pos c6, bnd_eq]
    generalize f_R_shS z6.2.1 z6.2.2.1 z6.2.2.2.1 z6.2.2.2.2.1 z6.2.2.2.2.2.1 z6.2.2.2.2.2.2.1 z6.2.2.2.2.2.2.2 = z7
    by_cases c7 : z7.1 = 0
    · rw [if_pos c7]; exact ⟨_, rfl⟩
    · rw [if_neg c7]; exact go _ _ _ _ _ _ _
/-- the product of two sums of edges -/
def pr6 (t : P6) (x y z u v w : Nat) : Int64 := f_P_prod t.1 t.2.1 t.2.2.1 t.2.2.2.1 t.2.2.2.2.1 t.2.2.2.2.2 (nI x).toInt64 (nI y).toInt64 (nI z).toInt64 (nI u).toInt64 (nI v).toInt64 (nI w).toInt64
/-- edges p q r s t u -/
abbrev E6 : Type := Nat × Nat × Nat × Nat × Nat × Nat
def crun (t : P6) (e : E6) : Option (Int64 × Int64 × Int64 × Int64 × Int64 × Int64 × Int32) := lp_R_run_7 1000001 (nI 0) (pr6 t e.1 0 0 e.1 0 0) (pr6 t e.2.1 e.2.2.1 0 e.2.1 e.2.2.1 0) (pr6 t e.2.2.2.1 e.2.2.2.2.1 e.2.2.2.2.2 e.2.2.2.1 e.2.2.2.2.1 e.2.2.2.2.2) (2 * pr6 t e.2.1 e.2.2.1 0 e.2.2.2.1 e.2.2.2.2.1 e.2.2.2.2.2) (2 * pr6 t e.1 0 0 e.2.2.2.1 e.2.2.2.2.1 e.2.2.2.2.2) (2 * pr6 t e.1 0 0 e.2.1 e.2.2.1 0) 0
def cres (t : P6) (e : E6) : Int64 × Int64 × Int64 × Int64 × Int64 × Int64 × Int32 := (crun t e).getD (0, 0, 0, 0, 0, 0, 0)
theorem crun_s (t : P6) (e : E6) : crun t e = some (cres t e) := by
  obtain ⟨r, hr⟩ := run_some 1000001 0 (pr6 t e.1 0 0 e.1 0 0) (pr6 t e.2.1 e.2.2.1 0 e.2.1 e.2.2.1 0) (pr6 t e.2.2.2.1 e.2.2.2.2.1 e.2.2.2.2.2 e.2.2.2.1 e.2.2.2.2.1 e.2.2.2.2.2) (2 * pr6 t e.2.1 e.2.2.1 0 e.2.2.2.1 e.2.2.2.2.1 e.2.2.2.2.2) (2 * pr6 t e.1 0 0 e.2.2.2.1 e.2.2.2.2.1 e.2.2.2.2.2) (2 * pr6 t e.1 0 0 e.2.1 e.2.2.1 0) 0 (by omega) (by omega)
  have h2 : crun t e = some r := hr
  unfold cres
  rw [h2]
  rfl
/-- the program's six for a multiple -/
def ckey (t : P6) (e : E6) : P6 := ky (cres t e).1 (cres t e).2.1 (cres t e).2.2.1 (cres t e).2.2.2.1 (cres t e).2.2.2.2.1 (cres t e).2.2.2.2.2.1
section FL
variable {ro : Nat → Int64} {ra rb rc rx ry rz : Int64} {rs : Int32} {tt : P6}
theorem edges_s (p q r s t u : Nat) : f_T_edges ra rb rc rx ry rz rs tt.1 tt.2.1 tt.2.2.1 tt.2.2.2.1 tt.2.2.2.2.1 tt.2.2.2.2.2 (nI p) (nI q) (nI r) (nI s) (nI t) (nI u) = some (cres tt (p, q, r, s, t, u)) := by
  have h := crun_s tt (p, q, r, s, t, u)
  unfold f_T_edges
  rw [bnd_eq, bnd_eq]
  unfold f_R_setMx f_R_setSq f_R_run
  dsimp only
  have h2 : lp_R_run_7 1000001 (0 : Int32) _ _ _ _ _ _ 0 = some (cres tt (p, q, r, s, t, u)) := h
  unfold crun pr6 at h2
  dsimp only at h2
  rw [show (nI 0).toInt64 = (0 : Int64) by decide] at h2
  generalize cres tt (p, q, r, s, t, u) = v at h2 ⊢
  rw [h2, Option.bind_some]
theorem fo_len (ks : List P6) : ∀ L : List (P6 × Nat), (ks.foldl ins L).length ≤ L.length + ks.length := by
  induction ks with
  | nil => intro L; exact Nat.le_refl _
  | cons k ks ih =>
    intro L
    have := ih (ins L k)
    have h2 := ins_len (K := k) (L := L)
    rw [List.foldl_cons, List.length_cons]
    omega
theorem fo_srt (ks : List P6) : ∀ L : List (P6 × Nat), srt L → srt (ks.foldl ins L) := by
  induction ks with
  | nil => intro L h; exact h
  | cons k ks ih => intro L h; exact ih _ (ins_srt h)
theorem ad21 {p q r s u : Nat} (hr : r ≤ 12) : ∀ (m t fu : Nat) (ro : Nat → Int64) (L : List (P6 × Nat)) (ra rb rc rx ry rz : Int64) (rs : Int32), t + m = r → m < fu → TR ro (nI L.length) L → srt L → L.length + m ≤ 455 →
    ∃ ro' a b c x y z s', lp_T_addAll_21 tt.1 tt.2.1 tt.2.2.1 tt.2.2.2.1 tt.2.2.2.2.1 tt.2.2.2.2.2 (nI p) (nI r) (nI u) fu (nI q) (nI s) (nI t) ro (nI L.length) ra rb rc rx ry rz rs = some (nI q, nI s, nI r, ro', nI (((List.range' t m).map (fun t => ckey tt (p, q, r, s, t, u))).foldl ins L).length, a, b, c, x, y, z, s') ∧
      TR ro' (nI (((List.range' t m).map (fun t => ckey tt (p, q, r, s, t, u))).foldl ins L).length) (((List.range' t m).map (fun t => ckey tt (p, q, r, s, t, u))).foldl ins L) := by
  intro m
  induction m with
  | zero =>
    intro t fu ro L ra rb rc rx ry rz rs e hf hT hs hl
    obtain ⟨fu, rfl⟩ : ∃ x, fu = x + 1 := ⟨fu - 1, by omega⟩
    rw [lp_T_addAll_21, if_pos (nI_le (by omega) (by omega)), show t = r by omega]
    exact ⟨_, _, _, _, _, _, _, _, rfl, hT⟩
  | succ m ih =>
    intro t fu ro L ra rb rc rx ry rz rs e hf hT hs hl
    obtain ⟨fu, rfl⟩ : ∃ x, fu = x + 1 := ⟨fu - 1, by omega⟩
    have hlen := ins_len (K := ckey tt (p, q, r, s, t, u)) (L := L)
    obtain ⟨ro1, e1, hT1⟩ := count_s (ra := (cres tt (p, q, r, s, t, u)).1) (rb := (cres tt (p, q, r, s, t, u)).2.1) (rc := (cres tt (p, q, r, s, t, u)).2.2.1) (rx := (cres tt (p, q, r, s, t, u)).2.2.2.1) (ry := (cres tt (p, q, r, s, t, u)).2.2.2.2.1) (rz := (cres tt (p, q, r, s, t, u)).2.2.2.2.2.1) (rs := (cres tt (p, q, r, s, t, u)).2.2.2.2.2.2) hT hs (by show (ins L (ckey tt (p, q, r, s, t, u))).length ≤ 455; omega)
    rw [lp_T_addAll_21, if_neg (nI_ge (by omega) (by omega)), edges_s, Option.bind_some, e1, Option.bind_some, nI_1]
    exact ih (t + 1) fu ro1 (ins L (ckey tt (p, q, r, s, t, u))) _ _ _ _ _ _ _ (by omega) (by omega) hT1 (ins_srt hs) (by omega)
/-- sixes of the multiples with given p r u, and more given -/
def kt (tt : P6) (p q r s u : Nat) : List P6 := (List.range' 0 r).map (fun t => ckey tt (p, q, r, s, t, u))
def ks (tt : P6) (p q r u m s : Nat) : List P6 := (List.range' s m).flatMap (fun s => kt tt p q r s u)
def kq (tt : P6) (p r u m q : Nat) : List P6 := (List.range' q m).flatMap (fun q => ks tt p q r u p 0)
theorem kt_len (p q r s u : Nat) : (kt tt p q r s u).length = r := by
  unfold kt
  rw [List.length_map, List.length_range']
theorem ks_s (p q r u m s : Nat) : ks tt p q r u (m + 1) s = kt tt p q r s u ++ ks tt p q r u m (s + 1) := rfl
theorem kq_s (p r u m q : Nat) : kq tt p r u (m + 1) q = ks tt p q r u p 0 ++ kq tt p r u m (q + 1) := rfl
theorem ks_len (p q r u : Nat) : ∀ m s, (ks tt p q r u m s).length = m * r := by
  intro m
  induction m with
  | zero => intro s; rw [Nat.zero_mul]; rfl
  | succ m ih => intro s; rw [ks_s, List.length_append, kt_len, ih, Nat.succ_mul]; omega
theorem kq_len (p r u : Nat) : ∀ m q, (kq tt p r u m q).length = m * (p * r) := by
  intro m
  induction m with
  | zero => intro q; rw [Nat.zero_mul]; rfl
  | succ m ih => intro q; rw [kq_s, List.length_append, ks_len, ih, Nat.succ_mul]; omega
theorem ad12 {p q r u : Nat} (hp : p ≤ 12) (hr : r ≤ 12) : ∀ (m s fu : Nat) (ro : Nat → Int64) (L : List (P6 × Nat)) (ra rb rc rx ry rz : Int64) (rs : Int32), s + m = p → m < fu → TR ro (nI L.length) L → srt L → L.length + m * r ≤ 455 →
    ∃ ro' a b c x y z s', lp_T_addAll_12 tt.1 tt.2.1 tt.2.2.1 tt.2.2.2.1 tt.2.2.2.2.1 tt.2.2.2.2.2 (nI p) (nI r) (nI u) fu (nI q) (nI s) ro (nI L.length) ra rb rc rx ry rz rs = some (nI q, nI p, ro', nI ((ks tt p q r u m s).foldl ins L).length, a, b, c, x, y, z, s') ∧ TR ro' (nI ((ks tt p q r u m s).foldl ins L).length) ((ks tt p q r u m s).foldl ins L) := by
  intro m
  induction m with
  | zero =>
    intro s fu ro L ra rb rc rx ry rz rs e hf hT hs hl
    obtain ⟨fu, rfl⟩ : ∃ x, fu = x + 1 := ⟨fu - 1, by omega⟩
    rw [lp_T_addAll_12, if_pos (nI_le (by omega) (by omega)), show s = p by omega]
    exact ⟨_, _, _, _, _, _, _, _, rfl, hT⟩
  | succ m ih =>
    intro s fu ro L ra rb rc rx ry rz rs e hf hT hs hl
    obtain ⟨fu, rfl⟩ : ∃ x, fu = x + 1 := ⟨fu - 1, by omega⟩
    rw [Nat.succ_mul] at hl
    obtain ⟨ro1, a, b, c, x, y, z, s', e1, hT1⟩ := ad21 (tt := tt) (p := p) (q := q) (s := s) (u := u) hr r 0 20 ro L ra rb rc rx ry rz rs (by omega) (by omega) hT hs (by omega)
    have e2 : lp_T_addAll_21 tt.1 tt.2.1 tt.2.2.1 tt.2.2.2.1 tt.2.2.2.2.1 tt.2.2.2.2.2 (nI p) (nI r) (nI u) 20 (nI q) (nI s) (0 : Int32) ro (nI L.length) ra rb rc rx ry rz rs = _ := e1
    have hlen := fo_len (kt tt p q r s u) L
    rw [kt_len] at hlen
    rw [lp_T_addAll_12, if_neg (nI_ge (by omega) (by omega)), e2, Option.bind_some, nI_1, ks_s, List.foldl_append]
    exact ih (s + 1) fu ro1 ((kt tt p q r s u).foldl ins L) a b c x y z s' (by omega) (by omega) hT1 (fo_srt _ _ hs) (by omega)
theorem ad3 {p r u : Nat} (hp : p ≤ 12) (hr : r ≤ 12) : ∀ (m q fu : Nat) (ro : Nat → Int64) (L : List (P6 × Nat)) (ra rb rc rx ry rz : Int64) (rs : Int32), q + m = p → m < fu → TR ro (nI L.length) L → srt L → L.length + m * (p * r) ≤ 455 →
    ∃ ro' a b c x y z s', lp_T_addAll_3 tt.1 tt.2.1 tt.2.2.1 tt.2.2.2.1 tt.2.2.2.2.1 tt.2.2.2.2.2 (nI p) (nI r) (nI u) fu (nI q) ro (nI L.length) ra rb rc rx ry rz rs = some (ro', nI ((kq tt p r u m q).foldl ins L).length, a, b, c, x, y, z, s') ∧ TR ro' (nI ((kq tt p r u m q).foldl ins L).length) ((kq tt p r u m q).foldl ins L) := by
  intro m
  induction m with
  | zero =>
    intro q fu ro L ra rb rc rx ry rz rs e hf hT hs hl
    obtain ⟨fu, rfl⟩ : ∃ x, fu = x + 1 := ⟨fu - 1, by omega⟩
    rw [lp_T_addAll_3, if_pos (nI_le (by omega) (by omega))]
    exact ⟨_, _, _, _, _, _, _, _, rfl, hT⟩
  | succ m ih =>
    intro q fu ro L ra rb rc rx ry rz rs e hf hT hs hl
    obtain ⟨fu, rfl⟩ : ∃ x, fu = x + 1 := ⟨fu - 1, by omega⟩
    rw [Nat.succ_mul] at hl
    obtain ⟨ro1, a, b, c, x, y, z, s', e1, hT1⟩ := ad12 (tt := tt) (p := p) (q := q) (u := u) hp hr p 0 20 ro L ra rb rc rx ry rz rs (by omega) (by omega) hT hs (by omega)
    have e2 : lp_T_addAll_12 tt.1 tt.2.1 tt.2.2.1 tt.2.2.2.1 tt.2.2.2.2.1 tt.2.2.2.2.2 (nI p) (nI r) (nI u) 20 (nI q) (0 : Int32) ro (nI L.length) ra rb rc rx ry rz rs = _ := e1
    have hlen := fo_len (ks tt p q r u p 0) L
    rw [ks_len] at hlen
    rw [lp_T_addAll_3, if_neg (nI_ge (by omega) (by omega)), e2, Option.bind_some, nI_1, kq_s, List.foldl_append]
    exact ih (q + 1) fu ro1 ((ks tt p q r u p 0).foldl ins L) a b c x y z s' (by omega) (by omega) hT1 (fo_srt _ _ hs) (by omega)
theorem addAll_s {p r u : Nat} (hp : p ≤ 12) (hr : r ≤ 12) {L : List (P6 × Nat)} (hT : TR ro (nI L.length) L) (hs : srt L) (hl : L.length + p * (p * r) ≤ 455) :
    ∃ ro' a b c x y z s', f_T_addAll (nI L.length) ro ra rb rc rx ry rz rs tt.1 tt.2.1 tt.2.2.1 tt.2.2.2.1 tt.2.2.2.2.1 tt.2.2.2.2.2 (nI p) (nI r) (nI u) = some (ro', nI ((kq tt p r u p 0).foldl ins L).length, a, b, c, x, y, z, s') ∧ TR ro' (nI ((kq tt p r u p 0).foldl ins L).length) ((kq tt p r u p 0).foldl ins L) :=
  ad3 hp hr p 0 20 ro L ra rb rc rx ry rz rs (by omega) (by omega) hT hs hl
theorem remN {a b : Nat} (ha : a < 2 ^ 31) (hb : b < 2 ^ 31) : nI a - nI a / nI b * nI b = nI (a % b) := by
  have h := Nat.div_add_mod a b
  have h2 : a / b * b ≤ a := Nat.div_mul_le_self a b
  rw [nI_div ha hb, nI_mul, nI_sub' h2, show a - a / b * b = a % b by rw [Nat.mul_comm] at h; omega]
/-- sixes with given p, and of all p -/
def kr (tt : P6) (n p m r : Nat) : List P6 := (List.range' r m).flatMap (fun r => if n % (p * r) = 0 then kq tt p r (n / (p * r)) p 0 else [])
def kp (tt : P6) (n m p : Nat) : List P6 := (List.range' p m).flatMap (fun p => kr tt n p (n / p) 1)
theorem kr_s (n p m r : Nat) : kr tt n p (m + 1) r = (if n % (p * r) = 0 then kq tt p r (n / (p * r)) p 0 else []) ++ kr tt n p m (r + 1) := rfl
theorem kp_s (n m p : Nat) : kp tt n (m + 1) p = kr tt n p (n / p) 1 ++ kp tt n m (p + 1) := rfl
theorem fl44 {n p : Nat} (hn : n ≤ 12) (hp0 : 1 ≤ p) (hp : p ≤ n) {fc_ fn_ cl : Int32} : ∀ (m r fu : Nat) (ro : Nat → Int64) (L : List (P6 × Nat)) (ra rb rc rx ry rz : Int64) (rs : Int32), 1 ≤ r → r + m = n / p + 1 → m < fu → TR ro (nI L.length) L → srt L → L.length + (kr tt n p m r).length ≤ 455 →
    ∃ ro' a b c x y z s', lp_T_fill_44 tt.1 tt.2.1 tt.2.2.1 tt.2.2.2.1 tt.2.2.2.2.1 tt.2.2.2.2.2 cl (nI n) fu (nI p) (nI r) ro (nI L.length) fc_ fn_ ra rb rc rx ry rz rs = some (nI p, nI (n / p + 1), ro', nI ((kr tt n p m r).foldl ins L).length, fc_, fn_, a, b, c, x, y, z, s') ∧ TR ro' (nI ((kr tt n p m r).foldl ins L).length) ((kr tt n p m r).foldl ins L) := by
  intro m
  induction m with
  | zero =>
    intro r fu ro L ra rb rc rx ry rz rs hr1 e hf hT hs hl
    obtain ⟨fu, rfl⟩ : ∃ x, fu = x + 1 := ⟨fu - 1, by omega⟩
    have hlt : n < p * r := by
      rw [show r = n / p + 1 by omega, Nat.mul_comm]
      exact Nat.lt_mul_of_div_lt (by omega) (by omega)
    have hb : p * r ≤ 12 * 13 := Nat.mul_le_mul (by omega) (by have := Nat.div_le_self n p; omega)
    rw [lp_T_fill_44, nI_mul, if_pos (nI_lt hlt (by omega)), show r = n / p + 1 by omega]
    exact ⟨_, _, _, _, _, _, _, _, rfl, hT⟩
  | succ m ih =>
    intro r fu ro L ra rb rc rx ry rz rs hr1 e hf hT hs hl
    obtain ⟨fu, rfl⟩ : ∃ x, fu = x + 1 := ⟨fu - 1, by omega⟩
    have hle : p * r ≤ n := by
      have h1 : r ≤ n / p := by omega
      exact Nat.le_trans (Nat.mul_le_mul_left p h1) (Nat.mul_div_le n p)
    have hpos : 0 < p * r := Nat.mul_pos (by omega) (by omega)
    have hr12 : r ≤ 12 := by have := Nat.div_le_self n p; omega
    rw [kr_s, List.length_append] at hl
    rw [lp_T_fill_44, nI_mul, if_neg (nI_nlt hle (by omega)), if_neg (nI_ne0 hpos (by omega)), remN (by omega) (by omega), nI_1, kr_s, List.foldl_append]
    by_cases c : n % (p * r) = 0
    · rw [if_pos c] at hl ⊢
      rw [if_pos (show nI (n % (p * r)) = 0 by rw [c]; rfl), if_neg (nI_ne0 hpos (by omega)), nI_div (by omega) (by omega)]
      rw [kq_len] at hl
      obtain ⟨ro1, a, b, c', x, y, z, s', e1, hT1⟩ := addAll_s (tt := tt) (u := n / (p * r)) (ra := ra) (rb := rb) (rc := rc) (rx := rx) (ry := ry) (rz := rz) (rs := rs) (show p ≤ 12 by omega) hr12 hT hs (by omega)
      have hlen := fo_len (kq tt p r (n / (p * r)) p 0) L
      rw [kq_len] at hlen
      rw [e1, Option.bind_some]
      exact ih (r + 1) fu ro1 ((kq tt p r (n / (p * r)) p 0).foldl ins L) a b c' x y z s' (by omega) (by omega) (by omega) hT1 (fo_srt _ _ hs) (by omega)
    · rw [if_neg c] at hl ⊢
      rw [if_neg (show ¬ nI (n % (p * r)) = 0 from nI_ne0 (by omega) (by have := Nat.mod_lt n hpos; omega))]
      exact ih (r + 1) fu ro L ra rb rc rx ry rz rs (by omega) (by omega) (by omega) hT hs (by show L.length + (kr tt n p m (r + 1)).length ≤ 455; simp only [List.length_nil] at hl; omega)
theorem fl35 {n : Nat} (hn : n ≤ 12) {fc_ fn_ cl : Int32} : ∀ (m p fu : Nat) (ro : Nat → Int64) (L : List (P6 × Nat)) (ra rb rc rx ry rz : Int64) (rs : Int32), 1 ≤ p → p + m = n + 1 → m < fu → TR ro (nI L.length) L → srt L → L.length + (kp tt n m p).length ≤ 455 →
    ∃ ro' a b c x y z s', lp_T_fill_35 tt.1 tt.2.1 tt.2.2.1 tt.2.2.2.1 tt.2.2.2.2.1 tt.2.2.2.2.2 cl (nI n) fu (nI p) ro (nI L.length) fc_ fn_ ra rb rc rx ry rz rs = some (ro', nI ((kp tt n m p).foldl ins L).length, fc_, fn_, a, b, c, x, y, z, s') ∧ TR ro' (nI ((kp tt n m p).foldl ins L).length) ((kp tt n m p).foldl ins L) := by
  intro m
  induction m with
  | zero =>
    intro p fu ro L ra rb rc rx ry rz rs hp1 e hf hT hs hl
    obtain ⟨fu, rfl⟩ : ∃ x, fu = x + 1 := ⟨fu - 1, by omega⟩
    rw [lp_T_fill_35, if_pos (nI_lt (by omega) (by omega))]
    exact ⟨_, _, _, _, _, _, _, _, rfl, hT⟩
  | succ m ih =>
    intro p fu ro L ra rb rc rx ry rz rs hp1 e hf hT hs hl
    obtain ⟨fu, rfl⟩ : ∃ x, fu = x + 1 := ⟨fu - 1, by omega⟩
    rw [kp_s, List.length_append] at hl
    have hd := Nat.div_le_self n p
    obtain ⟨ro1, a, b, c, x, y, z, s', e1, hT1⟩ := fl44 (tt := tt) (p := p) (fc_ := fc_) (fn_ := fn_) (cl := cl) hn hp1 (by omega) (n / p) 1 20 ro L ra rb rc rx ry rz rs (by omega) (by omega) (by omega) hT hs (by omega)
    have e2 : lp_T_fill_44 tt.1 tt.2.1 tt.2.2.1 tt.2.2.2.1 tt.2.2.2.2.1 tt.2.2.2.2.2 cl (nI n) 20 (nI p) (1 : Int32) ro (nI L.length) fc_ fn_ ra rb rc rx ry rz rs = _ := e1
    have hlen := fo_len (kr tt n p (n / p) 1) L
    rw [lp_T_fill_35, if_neg (nI_nlt (by omega) (by omega)), e2, Option.bind_some, nI_1, kp_s, List.foldl_append]
    exact ih (p + 1) fu ro1 ((kr tt n p (n / p) 1).foldl ins L) a b c x y z s' (by omega) (by omega) (by omega) hT1 (fo_srt _ _ hs) (by omega)
end FL

