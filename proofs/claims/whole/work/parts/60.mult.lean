-- multiples and multiple: both sides
theorem kq_gq (tt : P6) (p r u m q : Nat) : kq tt p r u m q = gq (ckey tt) p r u m q := by
  unfold kq gq ks gs kt gt
  rfl
theorem kr_gr {tt : P6} {n p : Nat} (hp : 1 ≤ p) (hd : n % p = 0) : ∀ m r, kr tt n p m r = gr (ckey tt) n p m r := by
  intro m
  induction m with
  | zero =>
    intro r
    have e1 : kr tt n p 0 r = [] := rfl
    have e2 : gr (ckey tt) n p 0 r = [] := rfl
    rw [e1, e2]
  | succ m ih =>
    intro r
    rw [kr_s, gr_s, ih]
    have hk : n = p * (n / p) := (Nat.mul_div_cancel' (Nat.dvd_of_mod_eq_zero hd)).symm
    have e1 : n % (p * r) = p * (n / p % r) := by
      have := Nat.mul_mod_mul_left p (n / p) r
      rw [← hk] at this
      exact this
    by_cases c : n / p % r = 0
    · rw [if_pos c, if_pos (show n % (p * r) = 0 by rw [e1, c, Nat.mul_zero]), Nat.div_div_eq_div_mul, kq_gq]
    · rw [if_neg c, if_neg (show ¬ n % (p * r) = 0 by rw [e1]; exact Nat.mul_ne_zero (by omega) c)]
theorem kr_nil {tt : P6} {n p : Nat} (hd : ¬ n % p = 0) : ∀ m r, kr tt n p m r = [] := by
  intro m
  induction m with
  | zero => intro r; rfl
  | succ m ih =>
    intro r
    rw [kr_s, ih, if_neg (fun q => hd (Nat.mod_eq_zero_of_dvd (Nat.dvd_trans (Nat.dvd_mul_right p r) (Nat.dvd_of_mod_eq_zero q))))]
    rfl
theorem kp_gp {tt : P6} {n : Nat} : ∀ m p, 1 ≤ p → kp tt n m p = gp (ckey tt) n m p := by
  intro m
  induction m with
  | zero =>
    intro p _
    have e1 : kp tt n 0 p = [] := rfl
    have e2 : gp (ckey tt) n 0 p = [] := rfl
    rw [e1, e2]
  | succ m ih =>
    intro p hp
    rw [kp_s, gp_s, ih (p + 1) (by omega)]
    by_cases c : n % p = 0
    · rw [if_pos c, kr_gr hp c]
    · rw [if_neg c, kr_nil c]
def grl (n p m r : Nat) : Nat := ((List.range' r m).map (fun r => if n / p % r = 0 then p * (p * r) else 0)).sum
def gpl (n m p : Nat) : Nat := ((List.range' p m).map (fun p => if n % p = 0 then grl n p (n / p) 1 else 0)).sum
theorem gr_len (F : E6 → P6) (n p : Nat) : ∀ m r, (gr F n p m r).length = grl n p m r := by
  intro m
  induction m with
  | zero => intro r; rfl
  | succ m ih =>
    intro r
    rw [gr_s, List.length_append, ih]
    show _ = (if n / p % r = 0 then p * (p * r) else 0) + grl n p m (r + 1)
    by_cases c : n / p % r = 0
    · rw [if_pos c, if_pos c, gq_len]
    · rw [if_neg c, if_neg c]; rfl
theorem gp_len (F : E6 → P6) (n : Nat) : ∀ m p, (gp F n m p).length = gpl n m p := by
  intro m
  induction m with
  | zero => intro p; rfl
  | succ m ih =>
    intro p
    rw [gp_s, List.length_append, ih]
    show _ = (if n % p = 0 then grl n p (n / p) 1 else 0) + gpl n m (p + 1)
    by_cases c : n % p = 0
    · rw [if_pos c, if_pos c, gr_len]
    · rw [if_neg c, if_neg c]; rfl
theorem gpl_12 : ∀ n, n < 13 → gpl n n 1 ≤ 455 := by decide
/-- the list of multiples -/
def ML (l : P6) (n : Nat) : List (P6 × Nat) := (gp (ckey l) n n 1).foldl ins []
theorem ML_len {l : P6} {n : Nat} (hn : n ≤ 12) : (ML l n).length ≤ 455 := by
  have h := fo_len (gp (ckey l) n n 1) []
  rw [gp_len] at h
  have := gpl_12 n (by omega)
  unfold ML
  simp only [List.length_nil] at h
  omega
theorem ML_srt {l : P6} {n : Nat} : srt (ML l n) := fo_srt _ _ List.Pairwise.nil
/-- a cell whose reduced six has the told one's multiples -/
def GM (t l : P6) : Prop := ∃ a b c d e f : Int, (((1 ≤ a ∧ a ≤ 10000) ∧ (1 ≤ b ∧ b ≤ 10000) ∧ (1 ≤ c ∧ c ≤ 10000)) ∧ PD a b c (2 * d) (2 * e) (2 * f)) ∧ t = (zL a, zL b, zL c, zL d, zL e, zL f) ∧ ∀ n, 1 ≤ n → n ≤ 12 → List.Perm (gp (rkey a b c d e f) n n 1) (gp (ckey l) n n 1)
/-- what the program's table holds -/
def TC (kn : Nat) (lw : Nat → P6) (ro : Nat → Int64) (sz fc_ fn_ : Int32) : Prop := fc_ = -1 ∨ ∃ c n, c < kn ∧ 1 ≤ n ∧ n ≤ 12 ∧ fc_ = nI c ∧ fn_ = nI n ∧ TR ro sz (ML (lw c) n)
/-- what the reference's list holds -/
def MC (kn : Nat) (lw : Nat → P6) (au : Nat → Int64) (ao : Nat → Int32) (mus mc_ mb_ : Int32) : Prop := mc_ = -1 ∨ ∃ c n, c < kn ∧ 1 ≤ n ∧ n ≤ 12 ∧ mc_ = nI c ∧ mb_ = nI n ∧ MR au ao mus (ML (lw c) n)
theorem nI_m1 {c : Nat} (h : c < 2 ^ 31) : ¬ (-1 : Int32) = nI c := fun q => by
  have h2 := nI_toInt h
  rw [← q] at h2
  rw [show (-1 : Int32).toInt = -1 by decide] at h2
  omega
section MU
variable {kn : Nat} {td lw : Nat → P6} {sy sh : Nat → Int32} {ac al : Nat → Int64} {ay as_ : Nat → Int32} {ro : Nat → Int64} {sz fc_ fn_ : Int32} {ra rb rc rx ry rz : Int64} {rs : Int32} {ax au : Nat → Int64} {ao : Nat → Int32} {stp mus mc_ mb_ : Int32}
theorem fill_s (h : TC kn lw ro sz fc_ fn_) (hk : kn ≤ 40) {c n : Nat} (hc : c < kn) (hn1 : 1 ≤ n) (hn : n ≤ 12) : ∃ ro' a b c' x y z s', f_T_fill sz fc_ fn_ ro ra rb rc rx ry rz rs (lw c).1 (lw c).2.1 (lw c).2.2.1 (lw c).2.2.2.1 (lw c).2.2.2.2.1 (lw c).2.2.2.2.2 (nI c) (nI n) = some (ro', nI (ML (lw c) n).length, nI c, nI n, a, b, c', x, y, z, s') ∧ TR ro' (nI (ML (lw c) n).length) (ML (lw c) n) := by
  have new : ∃ ro' a b c' x y z s', lp_T_fill_35 (lw c).1 (lw c).2.1 (lw c).2.2.1 (lw c).2.2.2.1 (lw c).2.2.2.2.1 (lw c).2.2.2.2.2 (nI c) (nI n) 20 (1 : Int32) ro (0 : Int32) (nI c) (nI n) ra rb rc rx ry rz rs = some (ro', nI (ML (lw c) n).length, nI c, nI n, a, b, c', x, y, z, s') ∧ TR ro' (nI (ML (lw c) n).length) (ML (lw c) n) := by
    have h0 : TR ro (nI ([] : List (P6 × Nat)).length) [] := ⟨rfl, Nat.zero_le _, fun i p hp => by cases hp⟩
    have hlen : ([] : List (P6 × Nat)).length + (kp (lw c) n n 1).length ≤ 455 := by
      rw [kp_gp n 1 (by omega), gp_len]
      have := gpl_12 n (by omega)
      simp only [List.length_nil]
      omega
    have := fl35 (tt := lw c) (fc_ := nI c) (fn_ := nI n) (cl := nI c) hn n 1 20 ro [] ra rb rc rx ry rz rs (by omega) (by omega) (by omega) h0 List.Pairwise.nil hlen
    rw [kp_gp n 1 (by omega)] at this
    exact this
  unfold f_T_fill
  by_cases c1 : fc_ = nI c
  · rw [if_pos c1]
    by_cases c2 : fn_ = nI n
    · rw [if_pos c2]
      rcases h with e | ⟨c0, n0, hc0, hn0, hn0', e1, e2, hT⟩
      · rw [e] at c1; exact absurd c1 (nI_m1 (by omega))
      · have ec : c0 = c := (nI_eq (by omega) (by omega)).mp (e1.symm.trans c1)
        have en : n0 = n := (nI_eq (by omega) (by omega)).mp (e2.symm.trans c2)
        subst ec
        subst en
        have hT1 := hT.1
        rw [hT1] at hT ⊢
        rw [e1, e2]
        exact ⟨_, _, _, _, _, _, _, _, rfl, hT⟩
    · rw [if_neg c2]; exact new
  · rw [if_neg c1]; exact new
theorem mult_s (h : MC kn lw au ao mus mc_ mb_) (hk : kn ≤ 40) {c n : Nat} (hc : c < kn) (hw : row6 ac c (td c)) (hg : GM (td c) (lw c)) (hn1 : 1 ≤ n) (hn : n ≤ 12) : ∃ stp' ax' au' ao', f_M_mult ac stp mus ax au ao mc_ mb_ (nI c) (nI n) = some (stp', nI (ML (lw c) n).length, ax', au', ao', nI c, nI n) ∧ MR au' ao' (nI (ML (lw c) n).length) (ML (lw c) n) := by
  have new : ∃ stp' ax' au' ao', lp_M_mult_34 ac (nI c) (nI n) 20 (1 : Int32) stp (0 : Int32) ax au ao (nI c) (nI n) = some (stp', nI (ML (lw c) n).length, ax', au', ao', nI c, nI n) ∧ MR au' ao' (nI (ML (lw c) n).length) (ML (lw c) n) := by
    obtain ⟨a, b, c', d, e, f, hG, et, hperm⟩ := hg
    have h0 : MR au ao (nI ([] : List (P6 × Nat)).length) [] := ⟨rfl, Nat.zero_le _, fun i p hp => by cases hp⟩
    have hlen : ([] : List (P6 × Nat)).length + (gp (rkey a b c' d e f) n n 1).length ≤ 455 := by
      rw [gp_len]
      have := gpl_12 n (by omega)
      simp only [List.length_nil]
      omega
    rw [et] at hw
    have := mm34 hG (show c < 40 by omega) hw (cl := nI c) (mc_ := nI c) (mb_ := nI n) rfl hn n 1 20 stp ax au ao [] (by omega) (by omega) (by omega) h0 List.Pairwise.nil hlen
    rw [ins_perm (hperm n hn1 hn)] at this
    exact this
  unfold f_M_mult
  by_cases c1 : mc_ = nI c
  · rw [if_pos c1]
    by_cases c2 : mb_ = nI n
    · rw [if_pos c2]
      rcases h with e | ⟨c0, n0, hc0, hn0, hn0', e1, e2, hT⟩
      · rw [e] at c1; exact absurd c1 (nI_m1 (by omega))
      · have ec : c0 = c := (nI_eq (by omega) (by omega)).mp (e1.symm.trans c1)
        have en : n0 = n := (nI_eq (by omega) (by omega)).mp (e2.symm.trans c2)
        subst ec
        subst en
        have hT1 := hT.1
        rw [hT1] at hT ⊢
        rw [e1, e2]
        exact ⟨_, _, _, _, rfl, hT⟩
    · rw [if_neg c2]; exact new
  · rw [if_neg c1]; exact new
theorem isM_t {nn : Int32} (h : f_isMultiplier nn = 0) : ∀ cl, f_M_isMul (nI kn) cl nn = 0 := by
  intro cl
  unfold f_isMultiplier at h
  unfold f_M_isMul
  by_cases c : f_M_isCell (nI kn) cl = 0
  · rw [if_pos c]
  · rw [if_neg c]; exact h
theorem isM_f {nn : Int32} (h : ¬ f_isMultiplier nn = 0) : ∃ n, 1 ≤ n ∧ n ≤ 12 ∧ nn = nI n := by
  unfold f_isMultiplier at h
  rw [rng_s nn 1 12, show (1 : Int32).toInt = 1 by decide, show (12 : Int32).toInt = 12 by decide] at h
  have h2 : 1 ≤ nn.toInt ∧ nn.toInt ≤ 12 := Decidable.not_not.mp h
  refine ⟨nn.toInt.toNat, by omega, by omega, ?_⟩
  apply Int32.toInt_inj.mp
  rw [nI_toInt (by omega)]
  omega
theorem isM_c {nn cl : Int32} (hk : kn ≤ 40) (h : ¬ f_isMultiplier nn = 0) (hb : inb cl kn = true) : ¬ f_M_isMul (nI kn) cl nn = 0 := by
  unfold f_M_isMul
  rw [isCell_in hk hb, if_neg (show ¬ (1 : Int32) = 0 by decide)]
  exact h
theorem isM_o {nn cl : Int32} (hk : kn ≤ 40) (hb : ¬ inb cl kn = true) : f_M_isMul (nI kn) cl nn = 0 := by
  unfold f_M_isMul
  rw [isCell_out hk hb, if_pos rfl]
/-- multiples, on both sides -/
theorem multiples_s (hk : kn ≤ 40) (hC : CR kn td lw sy sh ac al ay as_) (hg : ∀ i, i < kn → GM (td i) (lw i)) (hT : TC kn lw ro sz fc_ fn_) (hM : MC kn lw au ao mus mc_ mb_) (cl nn : Int32) :
    ∃ r ro' sz' fc' fn' a b c x y z s' stp' mus' ax' au' ao' mc' mb', f_B_multiples td lw sy sh kn ro sz fc_ fn_ ra rb rc rx ry rz rs cl nn = some (r, ro', sz', fc', fn', a, b, c, x, y, z, s') ∧ f_M_multiples (nI kn) ac stp mus ax au ao mc_ mb_ cl nn = some (r, stp', mus', ax', au', ao', mc', mb') ∧ TC kn lw ro' sz' fc' fn' ∧ MC kn lw au' ao' mus' mc' mb' := by
  unfold f_B_multiples f_M_multiples
  by_cases hb : inb cl kn = true
  rotate_left
  · rw [if_neg hb, isM_o hk hb, if_pos rfl]
    exact ⟨_, _, _, _, _, _, _, _, _, _, _, _, _, _, _, _, _, _, _, rfl, rfl, hT, hM⟩
  rw [if_pos hb]
  by_cases hm : f_isMultiplier nn = 0
  · rw [if_pos hm, isM_t hm, if_pos rfl]
    exact ⟨_, _, _, _, _, _, _, _, _, _, _, _, _, _, _, _, _, _, _, rfl, rfl, hT, hM⟩
  rw [if_neg hm, if_neg (isM_c hk hm hb)]
  obtain ⟨c, hc, rfl⟩ := inb_of hb
  obtain ⟨n, hn1, hn, rfl⟩ := isM_f hm
  have hcl : (nI c).toNatClampNeg = c := nI_clamp (by omega)
  rw [hcl]
  obtain ⟨ro', a, b, c', x, y, z, s', e1, hT1⟩ := fill_s (ra := ra) (rb := rb) (rc := rc) (rx := rx) (ry := ry) (rz := rz) (rs := rs) hT hk hc hn1 hn
  obtain ⟨stp', ax', au', ao', e2, hM1⟩ := mult_s (stp := stp) (ax := ax) hM hk hc (hC c hc).1.1 (hg c hc) hn1 hn
  rw [e1, Option.bind_some, e2, Option.bind_some]
  exact ⟨_, _, _, _, _, _, _, _, _, _, _, _, _, _, _, _, _, _, _, rfl, rfl, Or.inr ⟨c, n, hc, hn1, hn, rfl, rfl, hT1⟩, Or.inr ⟨c, n, hc, hn1, hn, rfl, rfl, hM1⟩⟩
theorem zL_nI {c : Nat} (h : c < 2 ^ 31) : zL (c : Int) = (nI c).toInt64 := by rw [tl, nI_toInt h]
theorem fo_cnt : ∀ (ks : List P6) (L : List (P6 × Nat)) (N : Nat), (∀ p ∈ L, p.2 ≤ N) → ∀ p ∈ ks.foldl ins L, p.2 ≤ N + ks.length := by
  have one : ∀ (K : P6) (L : List (P6 × Nat)) (N : Nat), (∀ p ∈ L, p.2 ≤ N) → ∀ p ∈ ins L K, p.2 ≤ N + 1 := by
    intro K L
    induction L with
    | nil => intro N _ p hp; rw [ins, List.mem_singleton] at hp; rw [hp]; exact Nat.le_add_left 1 N
    | cons q L ih =>
      intro N h p hp
      rw [ins] at hp
      by_cases c1 : lx q.1 K < 0
      · rw [if_pos c1] at hp
        rcases List.mem_cons.mp hp with e | e
        · rw [e]; exact Nat.le_succ_of_le (h q List.mem_cons_self)
        · exact ih N (fun x hx => h x (List.mem_cons_of_mem _ hx)) p e
      · rw [if_neg c1] at hp
        by_cases c2 : lx q.1 K = 0
        · rw [if_pos c2] at hp
          rcases List.mem_cons.mp hp with e | e
          · rw [e]; exact Nat.succ_le_succ (h q List.mem_cons_self)
          · exact Nat.le_succ_of_le (h p (List.mem_cons_of_mem _ e))
        · rw [if_neg c2] at hp
          rcases List.mem_cons.mp hp with e | e
          · rw [e]; exact Nat.le_add_left 1 N
          · exact Nat.le_succ_of_le (h p e)
  intro ks
  induction ks with
  | nil => intro L N h p hp; exact h p hp
  | cons k ks ih =>
    intro L N h p hp
    have := ih (ins L k) (N + 1) (one k L N h) p hp
    rw [List.length_cons]
    omega
theorem ML_cnt {l : P6} {n : Nat} (hn : n ≤ 12) : ∀ p ∈ ML l n, p.2 ≤ 455 := by
  intro p hp
  have := fo_cnt (gp (ckey l) n n 1) [] 0 (fun p hp => by cases hp) p hp
  rw [gp_len] at this
  have h2 := gpl_12 n (by omega)
  omega
end MU

