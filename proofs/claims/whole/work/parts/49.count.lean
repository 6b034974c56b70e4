-- how many matrices keep the six: column by column, and by their numbers
def sF : Nat → Nat → (Nat → Int32) → Int32
  | 0, _, _ => 0
  | m + 1, k, f => f k + sF m (k + 1) f
theorem sF_s (m k : Nat) (f : Nat → Int32) : sF (m + 1) k f = f k + sF m (k + 1) f := rfl
def S3 (g : Nat → Int32) : Int32 := g 0 + g 1 + g 2
theorem S3c {g h : Nat → Int32} (e : ∀ i, i < 3 → g i = h i) : S3 g = S3 h := by
  unfold S3
  rw [e 0 (by decide), e 1 (by decide), e 2 (by decide)]
theorem S3s (g : Nat → Nat → Int32) : S3 (fun i => S3 (fun j => g i j)) = S3 (fun j => S3 (fun i => g i j)) := by
  show g 0 0 + g 0 1 + g 0 2 + (g 1 0 + g 1 1 + g 1 2) + (g 2 0 + g 2 1 + g 2 2) = g 0 0 + g 1 0 + g 2 0 + (g 0 1 + g 1 1 + g 2 1) + (g 0 2 + g 1 2 + g 2 2)
  ac_rfl
def T3 (F : Nat → Int32) (i : Nat) : Int32 := S3 (fun d => F (3 * i + d))
theorem sF_3 (F : Nat → Int32) : ∀ (m k : Nat), sF (3 * m) (3 * k) F = sF m k (T3 F) := by
  intro m
  induction m with
  | zero => intro k; rfl
  | succ m ih =>
    intro k
    rw [show 3 * (m + 1) = 3 * m + 1 + 1 + 1 by omega, sF, sF, sF, sF, show 3 * k + 1 + 1 + 1 = 3 * (k + 1) by omega, ih]
    unfold T3 S3
    show F (3 * k) + (F (3 * k + 1) + (F (3 * k + 1 + 1) + _)) = F (3 * k + 0) + F (3 * k + 1) + F (3 * k + 2) + _
    rw [Int32.add_assoc, Int32.add_assoc]
    rfl
theorem sF_c {f g : Nat → Int32} : ∀ (m k : Nat), (∀ i, f i = g i) → sF m k f = sF m k g := by
  intro m
  induction m with
  | zero => intro k _; rfl
  | succ m ih => intro k e; rw [sF, sF, e, ih _ e]
theorem sF_0 : ∀ (m k : Nat), sF m k (fun _ => 0) = 0 := by
  intro m
  induction m with
  | zero => intro k; rfl
  | succ m ih => intro k; rw [sF, ih, Int32.add_zero]
theorem sF_27 (F : Nat → Int32) : sF 27 0 F = S3 (fun a => S3 (fun b => S3 (fun c => F (3 * (3 * (3 * 0 + a) + b) + c)))) := by
  rw [show 27 = 3 * 9 from rfl, show 0 = 3 * 0 from rfl, sF_3, show 9 = 3 * 3 from rfl, show 0 = 3 * 0 from rfl, sF_3, show 3 = 3 * 1 from rfl, show 0 = 3 * 0 from rfl, sF_3, sF, sF, Int32.add_zero]
  rfl
theorem sF_19683 (F : Nat → Int32) : sF 19683 0 F = S3 (fun a => S3 (fun b => S3 (fun c => S3 (fun d => S3 (fun e => S3 (fun f => S3 (fun g => S3 (fun h => S3 (fun i => F (3 * (3 * (3 * (3 * (3 * (3 * (3 * (3 * (3 * 0 + a) + b) + c) + d) + e) + f) + g) + h) + i)))))))))) := by
  have s1 := sF_3 F 6561 0
  have s2 := sF_3 (T3 F) 2187 0
  have s3 := sF_3 (T3 (T3 F)) 729 0
  have s4 := sF_3 (T3 (T3 (T3 F))) 243 0
  have s5 := sF_3 (T3 (T3 (T3 (T3 F)))) 81 0
  have s6 := sF_3 (T3 (T3 (T3 (T3 (T3 F))))) 27 0
  have s7 := sF_3 (T3 (T3 (T3 (T3 (T3 (T3 F)))))) 9 0
  have s8 := sF_3 (T3 (T3 (T3 (T3 (T3 (T3 (T3 F))))))) 3 0
  have s9 := sF_3 (T3 (T3 (T3 (T3 (T3 (T3 (T3 (T3 F)))))))) 1 0
  have s10 : sF 1 0 (T3 (T3 (T3 (T3 (T3 (T3 (T3 (T3 (T3 F))))))))) = T3 (T3 (T3 (T3 (T3 (T3 (T3 (T3 (T3 F)))))))) 0 := by
    rw [sF, sF, Int32.add_zero]
  exact (((((((((s1.trans s2).trans s3).trans s4).trans s5).trans s6).trans s7).trans s8).trans s9).trans s10)
theorem S3_reorder (H : Nat → Nat → Nat → Nat → Nat → Nat → Nat → Nat → Nat → Int32) : S3 (fun a => S3 (fun b => S3 (fun c => S3 (fun d => S3 (fun e => S3 (fun f => S3 (fun g => S3 (fun h => S3 (fun i => H a b c d e f g h i))))))))) = S3 (fun a => S3 (fun d => S3 (fun g => S3 (fun b => S3 (fun e => S3 (fun h => S3 (fun c => S3 (fun f => S3 (fun i => H a b c d e f g h i))))))))) := by
  refine Eq.trans (b := S3 (fun a => S3 (fun b => S3 (fun d => S3 (fun c => S3 (fun e => S3 (fun f => S3 (fun g => S3 (fun h => S3 (fun i => H a b c d e f g h i)))))))))) (S3c (fun a _ => S3c (fun b _ => S3s (fun c d => S3 (fun e => S3 (fun f => S3 (fun g => S3 (fun h => S3 (fun i => H a b c d e f g h i))))))))) ?_
  refine Eq.trans (b := S3 (fun a => S3 (fun d => S3 (fun b => S3 (fun c => S3 (fun e => S3 (fun f => S3 (fun g => S3 (fun h => S3 (fun i => H a b c d e f g h i)))))))))) (S3c (fun a _ => S3s (fun b d => S3 (fun c => S3 (fun e => S3 (fun f => S3 (fun g => S3 (fun h => S3 (fun i => H a b c d e f g h i))))))))) ?_
  refine Eq.trans (b := S3 (fun a => S3 (fun d => S3 (fun b => S3 (fun c => S3 (fun e => S3 (fun g => S3 (fun f => S3 (fun h => S3 (fun i => H a b c d e f g h i)))))))))) (S3c (fun a _ => S3c (fun d _ => S3c (fun b _ => S3c (fun c _ => S3c (fun e _ => S3s (fun f g => S3 (fun h => S3 (fun i => H a b c d e f g h i))))))))) ?_
  refine Eq.trans (b := S3 (fun a => S3 (fun d => S3 (fun b => S3 (fun c => S3 (fun g => S3 (fun e => S3 (fun f => S3 (fun h => S3 (fun i => H a b c d e f g h i)))))))))) (S3c (fun a _ => S3c (fun d _ => S3c (fun b _ => S3c (fun c _ => S3s (fun e g => S3 (fun f => S3 (fun h => S3 (fun i => H a b c d e f g h i))))))))) ?_
  refine Eq.trans (b := S3 (fun a => S3 (fun d => S3 (fun b => S3 (fun g => S3 (fun c => S3 (fun e => S3 (fun f => S3 (fun h => S3 (fun i => H a b c d e f g h i)))))))))) (S3c (fun a _ => S3c (fun d _ => S3c (fun b _ => S3s (fun c g => S3 (fun e => S3 (fun f => S3 (fun h => S3 (fun i => H a b c d e f g h i))))))))) ?_
  refine Eq.trans (b := S3 (fun a => S3 (fun d => S3 (fun g => S3 (fun b => S3 (fun c => S3 (fun e => S3 (fun f => S3 (fun h => S3 (fun i => H a b c d e f g h i)))))))))) (S3c (fun a _ => S3c (fun d _ => S3s (fun b g => S3 (fun c => S3 (fun e => S3 (fun f => S3 (fun h => S3 (fun i => H a b c d e f g h i))))))))) ?_
  refine Eq.trans (b := S3 (fun a => S3 (fun d => S3 (fun g => S3 (fun b => S3 (fun e => S3 (fun c => S3 (fun f => S3 (fun h => S3 (fun i => H a b c d e f g h i)))))))))) (S3c (fun a _ => S3c (fun d _ => S3c (fun g _ => S3c (fun b _ => S3s (fun c e => S3 (fun f => S3 (fun h => S3 (fun i => H a b c d e f g h i))))))))) ?_
  refine Eq.trans (b := S3 (fun a => S3 (fun d => S3 (fun g => S3 (fun b => S3 (fun e => S3 (fun c => S3 (fun h => S3 (fun f => S3 (fun i => H a b c d e f g h i)))))))))) (S3c (fun a _ => S3c (fun d _ => S3c (fun g _ => S3c (fun b _ => S3c (fun e _ => S3c (fun c _ => S3s (fun f h => S3 (fun i => H a b c d e f g h i))))))))) ?_
  refine Eq.trans (b := S3 (fun a => S3 (fun d => S3 (fun g => S3 (fun b => S3 (fun e => S3 (fun h => S3 (fun c => S3 (fun f => S3 (fun i => H a b c d e f g h i)))))))))) (S3c (fun a _ => S3c (fun d _ => S3c (fun g _ => S3c (fun b _ => S3c (fun e _ => S3s (fun c h => S3 (fun f => S3 (fun i => H a b c d e f g h i))))))))) ?_
  rfl
theorem if_sF (p : Prop) [Decidable p] (m k : Nat) (f : Nat → Int32) : (if p then sF m k f else 0) = sF m k (fun i => if p then f i else 0) := by
  by_cases c : p
  · rw [if_pos c]; exact sF_c m k (fun i => by rw [if_pos c])
  · rw [if_neg c]
    rw [sF_c (g := fun _ => 0) m k (fun i => by rw [if_neg c]), sF_0]
/-- how many matrices keep the six -/
def cnt (t : P6) : Int32 := sF 27 0 (fun f => if cp t f f = t.1 then sF 27 0 (fun s => if K2 t f s then sF 27 0 (fun h => if K3 t f s h then 1 else 0) else 0) else 0)
theorem cnt_n (t : P6) : sF 19683 0 (fun n => if KP t (q1 n) (q2 n) (q3 n) then (1 : Int32) else 0) = cnt t := by
  have e : cnt t = sF 27 0 (fun f => sF 27 0 (fun s => sF 27 0 (fun h => if KP t f s h then (1 : Int32) else 0))) := by
    unfold cnt
    refine sF_c _ _ (fun f => ?_)
    rw [if_sF]
    refine sF_c _ _ (fun s => ?_)
    rw [if_sF]
    by_cases c1 : cp t f f = t.1
    · rw [if_pos c1]
      refine sF_c _ _ (fun h => ?_)
      by_cases c2 : K2 t f s
      · rw [if_pos c2]
        by_cases c3 : K3 t f s h
        · rw [if_pos c3, if_pos ⟨c1, c2, c3⟩]
        · rw [if_neg c3, if_neg (fun q => c3 q.2.2)]
      · rw [if_neg c2, if_neg (fun q => c2 q.2.1)]
    · rw [if_neg c1, sF_c (g := fun _ => 0) 27 0 (fun h => if_neg (fun q => c1 q.1)), sF_0]
  rw [e, sF_19683, sF_27]
  simp only [sF_27]
  refine Eq.trans ?_ (S3_reorder (fun a b c d e f g h i => if KP t (3 * (3 * (3 * 0 + a) + d) + g) (3 * (3 * (3 * 0 + b) + e) + h) (3 * (3 * (3 * 0 + c) + f) + i) then (1 : Int32) else 0))
  refine S3c (fun a ha => S3c (fun b hb => S3c (fun c hc => S3c (fun d hd => S3c (fun e he => S3c (fun f hf => S3c (fun g hg => S3c (fun h hh => S3c (fun i hi => ?_)))))))))
  have x1 : q1 (3 * (3 * (3 * (3 * (3 * (3 * (3 * (3 * (3 * 0 + a) + b) + c) + d) + e) + f) + g) + h) + i) = 3 * (3 * (3 * 0 + a) + d) + g := by unfold q1; omega
  have x2 : q2 (3 * (3 * (3 * (3 * (3 * (3 * (3 * (3 * (3 * 0 + a) + b) + c) + d) + e) + f) + g) + h) + i) = 3 * (3 * (3 * 0 + b) + e) + h := by
    unfold q2
    rw [show (3 * (3 * (3 * (3 * (3 * (3 * (3 * (3 * (3 * 0 + a) + b) + c) + d) + e) + f) + g) + h) + i) / 3 = 3 * (3 * (3 * (3 * (3 * (3 * (3 * (3 * 0 + a) + b) + c) + d) + e) + f) + g) + h by omega, show (3 * (3 * (3 * (3 * (3 * (3 * (3 * (3 * 0 + a) + b) + c) + d) + e) + f) + g) + h) / 729 = 3 * (3 * 0 + a) + b by omega, show (3 * (3 * (3 * (3 * (3 * (3 * (3 * (3 * 0 + a) + b) + c) + d) + e) + f) + g) + h) / 27 = 3 * (3 * (3 * (3 * (3 * 0 + a) + b) + c) + d) + e by omega]
    omega
  have x3 : q3 (3 * (3 * (3 * (3 * (3 * (3 * (3 * (3 * (3 * 0 + a) + b) + c) + d) + e) + f) + g) + h) + i) = 3 * (3 * (3 * 0 + c) + f) + i := by
    unfold q3
    rw [show (3 * (3 * (3 * (3 * (3 * (3 * (3 * (3 * (3 * 0 + a) + b) + c) + d) + e) + f) + g) + h) + i) / 729 = 3 * (3 * (3 * 0 + a) + b) + c by omega, show (3 * (3 * (3 * (3 * (3 * (3 * (3 * (3 * (3 * 0 + a) + b) + c) + d) + e) + f) + g) + h) + i) / 27 = 3 * (3 * (3 * (3 * (3 * (3 * 0 + a) + b) + c) + d) + e) + f by omega]
    omega
  rw [x1, x2, x3]
theorem k27 {k : Nat} (h : k < 27) : ¬ (27 : Int32) ≤ nI k := fun q => by
  have := (nI_leI (a := 27) (b := k) (by decide) (by omega)).mp q
  omega
theorem thirds_lp (t : P6) {f s : Nat} (hf : f < 27) (hs : s < 27) : ∀ (m k fu : Nat) (th : Int32), k + m = 27 → m < fu → lp_P_thirds_5 t.1 t.2.1 t.2.2.1 t.2.2.2.1 t.2.2.2.2.1 t.2.2.2.2.2 (nI f) (nI s) fu th (nI k) = some (th + sF m k (fun h => if K3 t f s h then 1 else 0)) := by
  intro m
  induction m with
  | zero =>
    intro k fu th e hfu
    obtain ⟨fu, rfl⟩ : ∃ x, fu = x + 1 := ⟨fu - 1, by omega⟩
    rw [lp_P_thirds_5, show k = 27 by omega, if_pos (show (27 : Int32) ≤ nI 27 by decide), sF, Int32.add_zero]
  | succ m ih =>
    intro k fu th e hfu
    obtain ⟨fu, rfl⟩ : ∃ x, fu = x + 1 := ⟨fu - 1, by omega⟩
    rw [lp_P_thirds_5, if_neg (k27 (by omega)), fit3_s t (by omega) (by omega) (by omega), nI_1, ih (k + 1) fu _ (by omega) (by omega), ih (k + 1) fu _ (by omega) (by omega), sF_s m k]
    by_cases c : K3 t f s k
    · rw [if_pos c, if_neg (show ¬ (1 : Int32) = 0 by decide), Int32.add_assoc]
    · rw [if_neg c, if_pos rfl, Int32.zero_add]
theorem thirds_s (t : P6) {f s : Nat} (hf : f < 27) (hs : s < 27) : f_P_thirds t.1 t.2.1 t.2.2.1 t.2.2.2.1 t.2.2.2.2.1 t.2.2.2.2.2 (nI f) (nI s) = some (sF 27 0 (fun h => if K3 t f s h then 1 else 0)) := by
  unfold f_P_thirds
  have := thirds_lp t hf hs 27 0 28 0 (by omega) (by omega)
  rw [Int32.zero_add] at this
  exact this
theorem keepers_29 (t : P6) {f : Nat} (hf : f < 27) : ∀ (m k fu : Nat) (ks : Int32), k + m = 27 → m < fu → lp_P_keepers_29 t.1 t.2.1 t.2.2.1 t.2.2.2.1 t.2.2.2.2.1 t.2.2.2.2.2 fu ks (nI f) (nI k) = some (ks + sF m k (fun s => if K2 t f s then sF 27 0 (fun h => if K3 t f s h then 1 else 0) else 0), nI f, nI 27) := by
  intro m
  induction m with
  | zero =>
    intro k fu ks e hfu
    obtain ⟨fu, rfl⟩ : ∃ x, fu = x + 1 := ⟨fu - 1, by omega⟩
    rw [lp_P_keepers_29, show k = 27 by omega, if_pos (show (27 : Int32) ≤ nI 27 by decide), sF, Int32.add_zero]
  | succ m ih =>
    intro k fu ks e hfu
    obtain ⟨fu, rfl⟩ : ∃ x, fu = x + 1 := ⟨fu - 1, by omega⟩
    rw [lp_P_keepers_29, if_neg (k27 (by omega)), fit2_s t (by omega) (by omega), nI_1, thirds_s t hf (by omega), Option.bind_some, ih (k + 1) fu _ (by omega) (by omega), ih (k + 1) fu _ (by omega) (by omega), sF_s m k]
    by_cases c : K2 t f k
    · rw [if_pos c, if_pos c, if_neg (show ¬ (1 : Int32) = 0 by decide), Int32.add_assoc]
    · rw [if_neg c, if_neg c, if_pos rfl, Int32.zero_add]
theorem keepers_4 (t : P6) : ∀ (m k fu : Nat) (ks : Int32), k + m = 27 → m < fu → lp_P_keepers_4 t.1 t.2.1 t.2.2.1 t.2.2.2.1 t.2.2.2.2.1 t.2.2.2.2.2 fu ks (nI k) = some (ks + sF m k (fun f => if cp t f f = t.1 then sF 27 0 (fun s => if K2 t f s then sF 27 0 (fun h => if K3 t f s h then 1 else 0) else 0) else 0)) := by
  intro m
  induction m with
  | zero =>
    intro k fu ks e hfu
    obtain ⟨fu, rfl⟩ : ∃ x, fu = x + 1 := ⟨fu - 1, by omega⟩
    rw [lp_P_keepers_4, show k = 27 by omega, if_pos (show (27 : Int32) ≤ nI 27 by decide), sF, Int32.add_zero]
  | succ m ih =>
    intro k fu ks e hfu
    obtain ⟨fu, rfl⟩ : ∃ x, fu = x + 1 := ⟨fu - 1, by omega⟩
    have e29 : lp_P_keepers_29 t.1 t.2.1 t.2.2.1 t.2.2.2.1 t.2.2.2.2.1 t.2.2.2.2.2 28 ks (nI k) (0 : Int32) = some (ks + sF 27 0 (fun s => if K2 t k s then sF 27 0 (fun h => if K3 t k s h then 1 else 0) else 0), nI k, nI 27) := keepers_29 t (f := k) (by omega) 27 0 28 ks (by omega) (by omega)
    rw [lp_P_keepers_4, if_neg (k27 (by omega)), colp_s t (by omega) (by omega), e29, Option.bind_some]
    show (if lg_cmp (cp t k k) t.1 = 0 then lp_P_keepers_4 t.1 t.2.1 t.2.2.1 t.2.2.2.1 t.2.2.2.2.1 t.2.2.2.2.2 fu _ (nI k + 1) else lp_P_keepers_4 t.1 t.2.1 t.2.2.1 t.2.2.2.1 t.2.2.2.2.1 t.2.2.2.2.2 fu ks (nI k + 1)) = _
    rw [nI_1, ih (k + 1) fu _ (by omega) (by omega), ih (k + 1) fu _ (by omega) (by omega), sF_s m k]
    by_cases c : cp t k k = t.1
    · rw [if_pos (lg_eq.mpr c), if_pos c, Int32.add_assoc]
    · rw [if_neg (fun q => c (lg_eq.mp q)), if_neg c, Int32.zero_add]
theorem keepers_s (t : P6) : f_P_keepers t.1 t.2.1 t.2.2.1 t.2.2.2.1 t.2.2.2.2.1 t.2.2.2.2.2 = some (cnt t) := by
  unfold f_P_keepers
  have := keepers_4 t 27 0 28 0 (by omega) (by omega)
  rw [Int32.zero_add] at this
  exact this
theorem k196 {k : Nat} (h : k < 19683) : ¬ (19683 : Int32) ≤ nI k := fun q => by
  have := (nI_leI (a := 19683) (b := k) (by decide) (by omega)).mp q
  omega
/-- the reference's count -/
theorem cell_308 {i1 i2 i3 i4 i5 i6 go stp : Int32} {ac al ax : Nat → Int64} {ay as_ : Nat → Int32} {kn : Nat} {t : P6} (hk : kn < 40) (h : row6 al kn t) : ∀ (m k fu : Nat) (nw : Int32) (am : Nat → Int32), k + m = 19683 → m < fu →
    ∃ v, lp_M_cell_308 i1 i2 i3 i4 i5 i6 fu go (nI (6 * kn)) nw (nI k) (nI kn) stp am ac al ay as_ ax = some (nI kn, nI (kn + 1), stp, v, ac, al, upd ay kn (nw + sF m k (fun n => if KP t (q1 n) (q2 n) (q3 n) then 1 else 0)), as_, ax) := by
  intro m
  induction m with
  | zero =>
    intro k fu nw am e hfu
    obtain ⟨fu, rfl⟩ : ∃ x, fu = x + 1 := ⟨fu - 1, by omega⟩
    rw [lp_M_cell_308, show k = 19683 by omega, if_pos (show (19683 : Int32) ≤ nI 19683 by decide), if_pos (inb_nI (by omega) hk), sF, Int32.add_zero, nI_1, nI_pred, nI_clamp (by omega)]
    exact ⟨_, rfl⟩
  | succ m ih =>
    intro k fu nw am e hfu
    obtain ⟨fu, rfl⟩ : ∃ x, fu = x + 1 := ⟨fu - 1, by omega⟩
    obtain ⟨v, ev, hv⟩ := open_s (n := k) (by omega) am
    rw [lp_M_cell_308, if_neg (k196 (by omega)), ev, Option.bind_some, keeps6_s hk h hv, Option.bind_some, nI_1, sF]
    by_cases c : KP t (q1 k) (q2 k) (q3 k)
    · rw [if_pos c, if_neg (show ¬ (1 : Int32) = 0 by decide), ← Int32.add_assoc]
      exact ih (k + 1) fu (nw + 1) v (by omega) (by omega)
    · rw [if_neg c, if_pos rfl, Int32.zero_add]
      obtain ⟨w, hw⟩ := ih (k + 1) fu (nw + 0) v (by omega) (by omega)
      rw [Int32.add_zero] at hw
      rw [Int32.add_zero]
      exact ⟨w, hw⟩

