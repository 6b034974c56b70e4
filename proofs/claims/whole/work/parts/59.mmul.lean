-- the reference's list filled
section MM
variable {ac : Nat → Int64} {a b c d e f : Int} {i : Nat}
def rrun (a b c d e f : Int) (E : E6) : Z6 × Nat := (zrun (4 * (sumz (ez a b c d e f E.1 E.2.1 E.2.2.1 E.2.2.2.1 E.2.2.2.2.1 E.2.2.2.2.2)).toNat) (ez a b c d e f E.1 E.2.1 E.2.2.1 E.2.2.2.1 E.2.2.2.2.1 E.2.2.2.2.2)).getD ((0, 0, 0, 0, 0, 0), 0)
/-- the reference's six for a multiple -/
def rkey (a b c d e f : Int) (E : E6) : P6 := hz (rrun a b c d e f E).1
theorem sum_b (hG : ((1 ≤ a ∧ a ≤ 10000) ∧ (1 ≤ b ∧ b ≤ 10000) ∧ (1 ≤ c ∧ c ≤ 10000)) ∧ PD a b c (2 * d) (2 * e) (2 * f)) {p q r s t u : Nat} (hp : p ≤ 12) (hq : q ≤ 12) (hr : r ≤ 12) (hs : s ≤ 12) (ht : t ≤ 12) (hu : u ≤ 12) : sumz (ez a b c d e f p q r s t u) ≤ 60000000 := by
  have gx := PD.gx hG.2
  have gy := PD.gy hG.2
  have gz := PD.gz hG.2
  have ha : -10000 ≤ a ∧ a ≤ 10000 := ⟨by omega, by omega⟩
  have hb : -10000 ≤ b ∧ b ≤ 10000 := ⟨by omega, by omega⟩
  have hc : -10000 ≤ c ∧ c ≤ 10000 := ⟨by omega, by omega⟩
  have hd : -10000 ≤ d ∧ d ≤ 10000 := ⟨by omega, by omega⟩
  have he : -10000 ≤ e ∧ e ≤ 10000 := ⟨by omega, by omega⟩
  have hf : -10000 ≤ f ∧ f ≤ 10000 := ⟨by omega, by omega⟩
  have d1 := dz_b (x := p) (y := 0) (z := 0) (u := p) (v := 0) (w := 0) ha hb hc hd he hf ⟨by omega, by omega⟩ ⟨by omega, by omega⟩ ⟨by omega, by omega⟩ ⟨by omega, by omega⟩ ⟨by omega, by omega⟩ ⟨by omega, by omega⟩
  have d2 := dz_b (x := q) (y := r) (z := 0) (u := q) (v := r) (w := 0) ha hb hc hd he hf ⟨by omega, by omega⟩ ⟨by omega, by omega⟩ ⟨by omega, by omega⟩ ⟨by omega, by omega⟩ ⟨by omega, by omega⟩ ⟨by omega, by omega⟩
  have d3 := dz_b (x := s) (y := t) (z := u) (u := s) (v := t) (w := u) ha hb hc hd he hf ⟨by omega, by omega⟩ ⟨by omega, by omega⟩ ⟨by omega, by omega⟩ ⟨by omega, by omega⟩ ⟨by omega, by omega⟩ ⟨by omega, by omega⟩
  show dz a b c d e f p 0 0 p 0 0 + dz a b c d e f q r 0 q r 0 + dz a b c d e f s t u s t u ≤ 60000000
  omega
theorem rrun_s (hG : ((1 ≤ a ∧ a ≤ 10000) ∧ (1 ≤ b ∧ b ≤ 10000) ∧ (1 ≤ c ∧ c ≤ 10000)) ∧ PD a b c (2 * d) (2 * e) (2 * f)) {p q r s t u : Nat} (hp1 : 1 ≤ p) (hr1 : 1 ≤ r) (hu1 : 1 ≤ u) : zrun (4 * (sumz (ez a b c d e f p q r s t u)).toNat) (ez a b c d e f p q r s t u) = some (rrun a b c d e f (p, q, r, s, t, u)) := by
  obtain ⟨z, hz'⟩ := zrun_ends (sumz (ez a b c d e f p q r s t u)).toNat (ez_PD (p := p) (q := q) (r := r) (s := s) (t := t) (u := u) hG.2 (by omega) (by omega) (by omega)) (by omega)
  unfold rrun
  dsimp only
  rw [hz']
  rfl
def gt (F : E6 → P6) (p q r s u : Nat) : List P6 := (List.range' 0 r).map (fun t => F (p, q, r, s, t, u))
def gs (F : E6 → P6) (p q r u m s : Nat) : List P6 := (List.range' s m).flatMap (fun s => gt F p q r s u)
def gq (F : E6 → P6) (p r u m q : Nat) : List P6 := (List.range' q m).flatMap (fun q => gs F p q r u p 0)
theorem gt_len (F : E6 → P6) (p q r s u : Nat) : (gt F p q r s u).length = r := by
  unfold gt
  rw [List.length_map, List.length_range']
theorem gs_s (F : E6 → P6) (p q r u m s : Nat) : gs F p q r u (m + 1) s = gt F p q r s u ++ gs F p q r u m (s + 1) := rfl
theorem gq_s (F : E6 → P6) (p r u m q : Nat) : gq F p r u (m + 1) q = gs F p q r u p 0 ++ gq F p r u m (q + 1) := rfl
theorem gs_len (F : E6 → P6) (p q r u : Nat) : ∀ m s, (gs F p q r u m s).length = m * r := by
  intro m
  induction m with
  | zero => intro s; rw [Nat.zero_mul]; rfl
  | succ m ih => intro s; rw [gs_s, List.length_append, gt_len, ih, Nat.succ_mul]; omega
theorem gq_len (F : E6 → P6) (p r u : Nat) : ∀ m q, (gq F p r u m q).length = m * (p * r) := by
  intro m
  induction m with
  | zero => intro q; rw [Nat.zero_mul]; rfl
  | succ m ih => intro q; rw [gq_s, List.length_append, gs_len, ih, Nat.succ_mul]; omega
theorem mm100 (hG : ((1 ≤ a ∧ a ≤ 10000) ∧ (1 ≤ b ∧ b ≤ 10000) ∧ (1 ≤ c ∧ c ≤ 10000)) ∧ PD a b c (2 * d) (2 * e) (2 * f)) (hi : i < 40) (hw : row6 ac i (zL a, zL b, zL c, zL d, zL e, zL f)) {p q r s u : Nat} {cl nn mc_ mb_ : Int32} (hcl : cl = nI i) (hp1 : 1 ≤ p) (hr1 : 1 ≤ r) (hu1 : 1 ≤ u) (hp : p ≤ 12) (hq : q ≤ 12) (hr : r ≤ 12) (hs' : s ≤ 12) (hu : u ≤ 12) : ∀ (m t fu : Nat) (stp : Int32) (ax au : Nat → Int64) (ao : Nat → Int32) (L : List (P6 × Nat)), t + m = r → m < fu → MR au ao (nI L.length) L → srt L → L.length + m ≤ 455 →
    ∃ stp' ax' au' ao', lp_M_mult_100 ac cl nn fu (nI p) (nI r) (nI u) (nI q) (nI s) (nI t) stp (nI L.length) ax au ao mc_ mb_ = some (nI p, nI r, nI u, nI q, nI s, nI r, stp', nI (((List.range' t m).map (fun t => rkey a b c d e f (p, q, r, s, t, u))).foldl ins L).length, ax', au', ao', mc_, mb_) ∧
      MR au' ao' (nI (((List.range' t m).map (fun t => rkey a b c d e f (p, q, r, s, t, u))).foldl ins L).length) (((List.range' t m).map (fun t => rkey a b c d e f (p, q, r, s, t, u))).foldl ins L) := by
  intro m
  induction m with
  | zero =>
    intro t fu stp ax au ao L e1 hf hT hs hl
    obtain ⟨fu, rfl⟩ : ∃ x, fu = x + 1 := ⟨fu - 1, by omega⟩
    rw [lp_M_mult_100, if_pos (nI_le (by omega) (by omega)), show t = r by omega]
    exact ⟨_, _, _, _, rfl, hT⟩
  | succ m ih =>
    intro t fu stp ax au ao L e1 hf hT hs hl
    obtain ⟨fu, rfl⟩ : ∃ x, fu = x + 1 := ⟨fu - 1, by omega⟩
    have hlen := ins_len (K := rkey a b c d e f (p, q, r, s, t, u)) (L := L)
    have hsum := sum_b hG (p := p) (q := q) (r := r) (s := s) (t := t) (u := u) hp hq hr hs' (by omega) hu
    obtain ⟨stp', ax', au', ao', e2, hT1⟩ := one_s (stp := stp) (ax := ax) hi hw hp hq hr hs' (show t ≤ 12 by omega) hu (ez_PD (p := p) (q := q) (r := r) (s := s) (t := t) (u := u) hG.2 (by omega) (by omega) (by omega)) (by omega) (rrun_s hG hp1 hr1 hu1) (by omega) hT hs (by show (ins L (rkey a b c d e f (p, q, r, s, t, u))).length ≤ 455; omega)
    rw [lp_M_mult_100, if_neg (nI_ge (by omega) (by omega)), hcl, nI_6, e2, Option.bind_some, nI_1]
    have := ih (t + 1) fu stp' ax' au' ao' (ins L (rkey a b c d e f (p, q, r, s, t, u))) (by omega) (by omega) hT1 (ins_srt hs) (by omega)
    rw [hcl] at this
    exact this
theorem mm91 (hG : ((1 ≤ a ∧ a ≤ 10000) ∧ (1 ≤ b ∧ b ≤ 10000) ∧ (1 ≤ c ∧ c ≤ 10000)) ∧ PD a b c (2 * d) (2 * e) (2 * f)) (hi : i < 40) (hw : row6 ac i (zL a, zL b, zL c, zL d, zL e, zL f)) {p q r u : Nat} {cl nn mc_ mb_ : Int32} (hcl : cl = nI i) (hp1 : 1 ≤ p) (hr1 : 1 ≤ r) (hu1 : 1 ≤ u) (hp : p ≤ 12) (hq : q ≤ 12) (hr : r ≤ 12) (hu : u ≤ 12) : ∀ (m s fu : Nat) (stp : Int32) (ax au : Nat → Int64) (ao : Nat → Int32) (L : List (P6 × Nat)), s + m = p → m < fu → MR au ao (nI L.length) L → srt L → L.length + m * r ≤ 455 →
    ∃ stp' ax' au' ao', lp_M_mult_91 ac cl nn fu (nI p) (nI r) (nI u) (nI q) (nI s) stp (nI L.length) ax au ao mc_ mb_ = some (nI p, nI r, nI u, nI q, nI p, stp', nI ((gs (rkey a b c d e f) p q r u m s).foldl ins L).length, ax', au', ao', mc_, mb_) ∧ MR au' ao' (nI ((gs (rkey a b c d e f) p q r u m s).foldl ins L).length) ((gs (rkey a b c d e f) p q r u m s).foldl ins L) := by
  intro m
  induction m with
  | zero =>
    intro s fu stp ax au ao L e1 hf hT hs hl
    obtain ⟨fu, rfl⟩ : ∃ x, fu = x + 1 := ⟨fu - 1, by omega⟩
    rw [lp_M_mult_91, if_pos (nI_le (by omega) (by omega)), show s = p by omega]
    exact ⟨_, _, _, _, rfl, hT⟩
  | succ m ih =>
    intro s fu stp ax au ao L e1 hf hT hs hl
    obtain ⟨fu, rfl⟩ : ∃ x, fu = x + 1 := ⟨fu - 1, by omega⟩
    rw [Nat.succ_mul] at hl
    obtain ⟨stp', ax', au', ao', e2, hT1⟩ := mm100 hG hi hw (nn := nn) (mc_ := mc_) (mb_ := mb_) hcl (q := q) (s := s) hp1 hr1 hu1 hp hq hr (by omega) hu r 0 20 stp ax au ao L (by omega) (by omega) hT hs (by omega)
    have e3 : lp_M_mult_100 ac cl nn 20 (nI p) (nI r) (nI u) (nI q) (nI s) (0 : Int32) stp (nI L.length) ax au ao mc_ mb_ = _ := e2
    have hlen := fo_len (gt (rkey a b c d e f) p q r s u) L
    rw [gt_len] at hlen
    rw [lp_M_mult_91, if_neg (nI_ge (by omega) (by omega)), e3, Option.bind_some, nI_1, gs_s, List.foldl_append]
    exact ih (s + 1) fu stp' ax' au' ao' ((gt (rkey a b c d e f) p q r s u).foldl ins L) (by omega) (by omega) hT1 (fo_srt _ _ hs) (by omega)
theorem mm82 (hG : ((1 ≤ a ∧ a ≤ 10000) ∧ (1 ≤ b ∧ b ≤ 10000) ∧ (1 ≤ c ∧ c ≤ 10000)) ∧ PD a b c (2 * d) (2 * e) (2 * f)) (hi : i < 40) (hw : row6 ac i (zL a, zL b, zL c, zL d, zL e, zL f)) {p r u : Nat} {cl nn mc_ mb_ : Int32} (hcl : cl = nI i) (hp1 : 1 ≤ p) (hr1 : 1 ≤ r) (hu1 : 1 ≤ u) (hp : p ≤ 12) (hr : r ≤ 12) (hu : u ≤ 12) : ∀ (m q fu : Nat) (stp : Int32) (ax au : Nat → Int64) (ao : Nat → Int32) (L : List (P6 × Nat)), q + m = p → m < fu → MR au ao (nI L.length) L → srt L → L.length + m * (p * r) ≤ 455 →
    ∃ stp' ax' au' ao', lp_M_mult_82 ac cl nn fu (nI p) (nI r) (nI u) (nI q) stp (nI L.length) ax au ao mc_ mb_ = some (nI p, nI r, nI u, nI p, stp', nI ((gq (rkey a b c d e f) p r u m q).foldl ins L).length, ax', au', ao', mc_, mb_) ∧ MR au' ao' (nI ((gq (rkey a b c d e f) p r u m q).foldl ins L).length) ((gq (rkey a b c d e f) p r u m q).foldl ins L) := by
  intro m
  induction m with
  | zero =>
    intro q fu stp ax au ao L e1 hf hT hs hl
    obtain ⟨fu, rfl⟩ : ∃ x, fu = x + 1 := ⟨fu - 1, by omega⟩
    rw [lp_M_mult_82, if_pos (nI_le (by omega) (by omega)), show q = p by omega]
    exact ⟨_, _, _, _, rfl, hT⟩
  | succ m ih =>
    intro q fu stp ax au ao L e1 hf hT hs hl
    obtain ⟨fu, rfl⟩ : ∃ x, fu = x + 1 := ⟨fu - 1, by omega⟩
    rw [Nat.succ_mul] at hl
    obtain ⟨stp', ax', au', ao', e2, hT1⟩ := mm91 hG hi hw (nn := nn) (mc_ := mc_) (mb_ := mb_) hcl (q := q) hp1 hr1 hu1 hp (by omega) hr hu p 0 20 stp ax au ao L (by omega) (by omega) hT hs (by omega)
    have e3 : lp_M_mult_91 ac cl nn 20 (nI p) (nI r) (nI u) (nI q) (0 : Int32) stp (nI L.length) ax au ao mc_ mb_ = _ := e2
    have hlen := fo_len (gs (rkey a b c d e f) p q r u p 0) L
    rw [gs_len] at hlen
    rw [lp_M_mult_82, if_neg (nI_ge (by omega) (by omega)), e3, Option.bind_some, nI_1, gq_s, List.foldl_append]
    exact ih (q + 1) fu stp' ax' au' ao' ((gs (rkey a b c d e f) p q r u p 0).foldl ins L) (by omega) (by omega) hT1 (fo_srt _ _ hs) (by omega)
/-- sixes with given p, and of all p, as the reference goes -/
def gr (F : E6 → P6) (n p m r : Nat) : List P6 := (List.range' r m).flatMap (fun r => if n / p % r = 0 then gq F p r (n / p / r) p 0 else [])
def gp (F : E6 → P6) (n m p : Nat) : List P6 := (List.range' p m).flatMap (fun p => if n % p = 0 then gr F n p (n / p) 1 else [])
theorem gr_s (F : E6 → P6) (n p m r : Nat) : gr F n p (m + 1) r = (if n / p % r = 0 then gq F p r (n / p / r) p 0 else []) ++ gr F n p m (r + 1) := rfl
theorem gp_s (F : E6 → P6) (n m p : Nat) : gp F n (m + 1) p = (if n % p = 0 then gr F n p (n / p) 1 else []) ++ gp F n m (p + 1) := rfl
theorem mm51 (hG : ((1 ≤ a ∧ a ≤ 10000) ∧ (1 ≤ b ∧ b ≤ 10000) ∧ (1 ≤ c ∧ c ≤ 10000)) ∧ PD a b c (2 * d) (2 * e) (2 * f)) (hi : i < 40) (hw : row6 ac i (zL a, zL b, zL c, zL d, zL e, zL f)) {n p : Nat} {cl mc_ mb_ : Int32} (hcl : cl = nI i) (hn : n ≤ 12) (hp1 : 1 ≤ p) (hp : p ≤ 12) : ∀ (m r fu : Nat) (stp : Int32) (ax au : Nat → Int64) (ao : Nat → Int32) (L : List (P6 × Nat)), 1 ≤ r → r + m = n / p + 1 → m < fu → MR au ao (nI L.length) L → srt L → L.length + (gr (rkey a b c d e f) n p m r).length ≤ 455 →
    ∃ stp' ax' au' ao', lp_M_mult_51 ac cl (nI n) fu (nI p) (nI r) stp (nI L.length) ax au ao mc_ mb_ = some (nI p, nI (n / p + 1), stp', nI ((gr (rkey a b c d e f) n p m r).foldl ins L).length, ax', au', ao', mc_, mb_) ∧ MR au' ao' (nI ((gr (rkey a b c d e f) n p m r).foldl ins L).length) ((gr (rkey a b c d e f) n p m r).foldl ins L) := by
  have hd := Nat.div_le_self n p
  intro m
  induction m with
  | zero =>
    intro r fu stp ax au ao L hr1 e1 hf hT hs hl
    obtain ⟨fu, rfl⟩ : ∃ x, fu = x + 1 := ⟨fu - 1, by omega⟩
    rw [lp_M_mult_51, if_neg (nI_ne0 (by omega) (by omega)), nI_div (by omega) (by omega), if_pos (nI_lt (by omega) (by omega)), show r = n / p + 1 by omega]
    exact ⟨_, _, _, _, rfl, hT⟩
  | succ m ih =>
    intro r fu stp ax au ao L hr1 e1 hf hT hs hl
    obtain ⟨fu, rfl⟩ : ∃ x, fu = x + 1 := ⟨fu - 1, by omega⟩
    rw [gr_s, List.length_append] at hl
    rw [lp_M_mult_51, if_neg (nI_ne0 (by omega) (by omega)), nI_div (by omega) (by omega), if_neg (nI_nlt (by omega) (by omega)), if_neg (nI_ne0 (by omega) (by omega)), if_neg (nI_ne0 (by omega) (by omega)), remN (by omega) (by omega), nI_1, gr_s, List.foldl_append]
    by_cases cc : n / p % r = 0
    · rw [if_pos cc] at hl ⊢
      rw [gq_len] at hl
      have hu1 : 1 ≤ n / p / r := Nat.div_pos (by omega) (by omega)
      have hu2 := Nat.div_le_self (n / p) r
      rw [if_pos (show nI (n / p % r) = 0 by rw [cc]; rfl), if_neg (nI_ne0 (by omega) (by omega)), if_neg (nI_ne0 (by omega) (by omega)), nI_div (by omega) (by omega)]
      obtain ⟨stp', ax', au', ao', e2, hT1⟩ := mm82 hG hi hw (nn := nI n) (mc_ := mc_) (mb_ := mb_) hcl (u := n / p / r) hp1 hr1 hu1 hp (show r ≤ 12 by omega) (by omega) p 0 20 stp ax au ao L (by omega) (by omega) hT hs (by omega)
      have e3 : lp_M_mult_82 ac cl (nI n) 20 (nI p) (nI r) (nI (n / p / r)) (0 : Int32) stp (nI L.length) ax au ao mc_ mb_ = _ := e2
      have hlen := fo_len (gq (rkey a b c d e f) p r (n / p / r) p 0) L
      rw [gq_len] at hlen
      rw [e3, Option.bind_some]
      dsimp only
      rw [nI_1]
      exact ih (r + 1) fu stp' ax' au' ao' ((gq (rkey a b c d e f) p r (n / p / r) p 0).foldl ins L) (by omega) (by omega) (by omega) hT1 (fo_srt _ _ hs) (by omega)
    · rw [if_neg cc] at hl ⊢
      rw [if_neg (show ¬ nI (n / p % r) = 0 from nI_ne0 (by omega) (by have := Nat.mod_lt (n / p) (show 0 < r by omega); omega))]
      exact ih (r + 1) fu stp ax au ao L (by omega) (by omega) (by omega) hT hs (by simp only [List.length_nil] at hl; omega)
theorem mm34 (hG : ((1 ≤ a ∧ a ≤ 10000) ∧ (1 ≤ b ∧ b ≤ 10000) ∧ (1 ≤ c ∧ c ≤ 10000)) ∧ PD a b c (2 * d) (2 * e) (2 * f)) (hi : i < 40) (hw : row6 ac i (zL a, zL b, zL c, zL d, zL e, zL f)) {n : Nat} {cl mc_ mb_ : Int32} (hcl : cl = nI i) (hn : n ≤ 12) : ∀ (m p fu : Nat) (stp : Int32) (ax au : Nat → Int64) (ao : Nat → Int32) (L : List (P6 × Nat)), 1 ≤ p → p + m = n + 1 → m < fu → MR au ao (nI L.length) L → srt L → L.length + (gp (rkey a b c d e f) n m p).length ≤ 455 →
    ∃ stp' ax' au' ao', lp_M_mult_34 ac cl (nI n) fu (nI p) stp (nI L.length) ax au ao mc_ mb_ = some (stp', nI ((gp (rkey a b c d e f) n m p).foldl ins L).length, ax', au', ao', mc_, mb_) ∧ MR au' ao' (nI ((gp (rkey a b c d e f) n m p).foldl ins L).length) ((gp (rkey a b c d e f) n m p).foldl ins L) := by
  intro m
  induction m with
  | zero =>
    intro p fu stp ax au ao L hp1 e1 hf hT hs hl
    obtain ⟨fu, rfl⟩ : ∃ x, fu = x + 1 := ⟨fu - 1, by omega⟩
    rw [lp_M_mult_34, if_pos (nI_lt (by omega) (by omega))]
    exact ⟨_, _, _, _, rfl, hT⟩
  | succ m ih =>
    intro p fu stp ax au ao L hp1 e1 hf hT hs hl
    obtain ⟨fu, rfl⟩ : ∃ x, fu = x + 1 := ⟨fu - 1, by omega⟩
    have hd := Nat.div_le_self n p
    rw [gp_s, List.length_append] at hl
    rw [lp_M_mult_34, if_neg (nI_nlt (by omega) (by omega)), if_neg (nI_ne0 (by omega) (by omega)), remN (by omega) (by omega), nI_1, gp_s, List.foldl_append]
    by_cases cc : n % p = 0
    · rw [if_pos cc] at hl ⊢
      rw [if_pos (show nI (n % p) = 0 by rw [cc]; rfl)]
      obtain ⟨stp', ax', au', ao', e2, hT1⟩ := mm51 hG hi hw (mc_ := mc_) (mb_ := mb_) hcl hn hp1 (show p ≤ 12 by omega) (n / p) 1 20 stp ax au ao L (by omega) (by omega) (by omega) hT hs (by omega)
      have e3 : lp_M_mult_51 ac cl (nI n) 20 (nI p) (1 : Int32) stp (nI L.length) ax au ao mc_ mb_ = _ := e2
      have hlen := fo_len (gr (rkey a b c d e f) n p (n / p) 1) L
      rw [e3, Option.bind_some]
      dsimp only
      rw [nI_1]
      exact ih (p + 1) fu stp' ax' au' ao' ((gr (rkey a b c d e f) n p (n / p) 1).foldl ins L) (by omega) (by omega) (by omega) hT1 (fo_srt _ _ hs) (by omega)
    · rw [if_neg cc] at hl ⊢
      rw [if_neg (show ¬ nI (n % p) = 0 from nI_ne0 (by omega) (by have := Nat.mod_lt n (show 0 < p by omega); omega))]
      exact ih (p + 1) fu stp ax au ao L (by omega) (by omega) (by omega) hT hs (by simp only [List.length_nil] at hl; omega)
end MM

