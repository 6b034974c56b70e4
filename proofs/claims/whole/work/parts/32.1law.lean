def lk_1 (L : Nat) (xs : Nat → Int32) (go : Int32 → Nat → (Nat → P6) → (Nat → P6) → (Nat → Int32) → (Nat → Int32) → (Nat → Int64) → Int32 → Int32 → Int32 → (Nat → Int64) → Int32 → Int32 → Int32 → Int64 → Int64 → Int64 → Int64 → Int64 → Int64 → Int32 → Int32 → Int32 → Int32 → Int32 → Int32 → (Nat → Int32) → (Nat → Int64) → (Nat → Int64) → (Nat → Int32) → (Nat → Int32) → (Nat → Int64) → (Nat → Int64) → (Nat → Int32) → (Nat → Int64) → Option Int32) (li : Int32) (kn : Nat) (td : Nat → P6) (lw : Nat → P6) (sy : Nat → Int32) (sh : Nat → Int32) (ro : Nat → Int64) (sz : Int32) (fc_ : Int32) (fn_ : Int32) (rp : Nat → Int64) (sq : Int32) (gc_ : Int32) (gn_ : Int32) (ra : Int64) (rb : Int64) (rc : Int64) (rx : Int64) (ry : Int64) (rz : Int64) (rs : Int32) (cm : Int32) (stp : Int32) (mus : Int32) (mc_ : Int32) (mb_ : Int32) (am : Nat → Int32) (ac : Nat → Int64) (al : Nat → Int64) (ay : Nat → Int32) (as_ : Nat → Int32) (ax : Nat → Int64) (au : Nat → Int64) (ao : Nat → Int32) (at_ : Nat → Int64) : Option Int32 :=
    if inb (li + (1 : Int32)) L = true then (if inb (li + (2 : Int32)) L = true then (Option.bind (f_B_reduced td lw sy sh kn (xs (li + (1 : Int32)).toNatClampNeg) (xs (li + (2 : Int32)).toNatClampNeg)) (fun z_83 => (if inb (li + (1 : Int32)) L = true then (if inb (li + (2 : Int32)) L = true then (Option.bind (f_M_reduced cm al ay as_ (xs (li + (1 : Int32)).toNatClampNeg) (xs (li + (2 : Int32)).toNatClampNeg)) (fun z_82 => (if (lg_cmp z_83 z_82) = 0 then (go (li + (7 : Int32)) kn td lw sy sh ro sz fc_ fn_ rp sq gc_ gn_ ra rb rc rx ry rz rs cm stp mus mc_ mb_ am ac al ay as_ ax au ao at_) else (some (0 : Int32))))) else none) else none))) else none) else none
set_option maxHeartbeats 16000000 in
set_option maxRecDepth 100000 in
theorem law_1 {p : Program} {l : Launch} {e : Env} {s : State} {m : MethodId} {below : List Frame} {meth : Method} {c : Code} {D : va_G} {ct : CT} {b L : Nat} {xs : Nat → Int32} (C0 : lw_At p s m meth c b L xs) (hKK : KK D ct s) (n : Nat) (go : Int32 → Nat → (Nat → P6) → (Nat → P6) → (Nat → Int32) → (Nat → Int32) → (Nat → Int64) → Int32 → Int32 → Int32 → (Nat → Int64) → Int32 → Int32 → Int32 → Int64 → Int64 → Int64 → Int64 → Int64 → Int64 → Int32 → Int32 → Int32 → Int32 → Int32 → Int32 → (Nat → Int32) → (Nat → Int64) → (Nat → Int64) → (Nat → Int32) → (Nat → Int32) → (Nat → Int64) → (Nat → Int64) → (Nat → Int32) → (Nat → Int64) → Option Int32) (ih : LawIH p l e s m below meth c D ct b n go) (li : Int32) (kn : Nat) (td : Nat → P6) (lw : Nat → P6) (sy : Nat → Int32) (sh : Nat → Int32) (ro : Nat → Int64) (sz : Int32) (fc_ : Int32) (fn_ : Int32) (rp : Nat → Int64) (sq : Int32) (gc_ : Int32) (gn_ : Int32) (ra : Int64) (rb : Int64) (rc : Int64) (rx : Int64) (ry : Int64) (rz : Int64) (rs : Int32) (cm : Int32) (stp : Int32) (mus : Int32) (mc_ : Int32) (mb_ : Int32) (am : Nat → Int32) (ac : Nat → Int64) (al : Nat → Int64) (ay : Nat → Int32) (as_ : Nat → Int32) (ax : Nat → Int64) (au : Nat → Int64) (ao : Nat → Int32) (at_ : Nat → Int64) (h : lk_1 L xs go li kn td lw sy sh ro sz fc_ fn_ rp sq gc_ gn_ ra rb rc rx ry rz rs cm stp mus mc_ mb_ am ac al ay as_ ax au ao at_ = some 1) : ∀ (h0 : Nat) (h1 : Nat) (h2 : Nat) (h3 : Nat) (h4 : Nat) (h5 : Nat) (h6 : Nat) (g0 : Nat) (q1 : Nat) (q2 : Nat) (q3 : Nat) (q4 : Nat) (q5 : Nat) (q6 : Nat) (q7 : Nat) (q8 : Nat) (q9 : Nat) (ca : Nat → Nat) (ta : Nat → Nat) (la : Nat → Nat) (wt : va_W) (H : Heap) (locs : List Loc) (cc ss : Nat), cc + 3 * (n + 1) ≤ 600000 → ss + 16 * (n + 1) ≤ 7302250 → kn ≤ 40 → PoolIn wt ca ta la td lw sy sh kn → va_P D classes ([(h0, .inr (4, [.ref h1, .ref h2, .ref h3, .ref h5, .int (nI kn)])), (h1, .inl (ct.2.1, 40, .inr (.inr (.inr (.inr (cfun kn ca)))))), (h2, .inr (1, [.long ra, .long rb, .long rc, .long rx, .long ry, .long rz, .int rs])), (h3, .inr (2, [.ref h2, .ref h4, .int sz, .int fc_, .int fn_])), (h4, .inl (ct.1, 3185, .inr (.inl ro))), (h5, .inr (2, [.ref h2, .ref h6, .int sq, .int gc_, .int gn_])), (h6, .inl (ct.1, 3185, .inr (.inl rp))), (g0, .inr (5, [.ref q1, .ref q2, .ref q3, .ref q4, .ref q5, .int cm, .int stp, .ref q6, .ref q7, .ref q8, .int mus, .int mc_, .int mb_, .ref q9])), (q1, .inl (ct.2.2, 9, .inl am)), (q2, .inl (ct.1, 240, .inr (.inl ac))), (q3, .inl (ct.1, 240, .inr (.inl al))), (q4, .inl (ct.2.2, 40, .inl ay)), (q5, .inl (ct.2.2, 40, .inl as_)), (q6, .inl (ct.1, 6, .inr (.inl ax))), (q7, .inl (ct.1, 3000, .inr (.inl au))), (q8, .inl (ct.2.2, 500, .inl ao)), (q9, .inl (ct.1, 3000, .inr (.inl at_)))] ++ wt) H → va_D (fun q : Nat => s.heap.size ≤ q) ([(h0, .inr (4, [.ref h1, .ref h2, .ref h3, .ref h5, .int (nI kn)])), (h1, .inl (ct.2.1, 40, .inr (.inr (.inr (.inr (cfun kn ca)))))), (h2, .inr (1, [.long ra, .long rb, .long rc, .long rx, .long ry, .long rz, .int rs])), (h3, .inr (2, [.ref h2, .ref h4, .int sz, .int fc_, .int fn_])), (h4, .inl (ct.1, 3185, .inr (.inl ro))), (h5, .inr (2, [.ref h2, .ref h6, .int sq, .int gc_, .int gn_])), (h6, .inl (ct.1, 3185, .inr (.inl rp))), (g0, .inr (5, [.ref q1, .ref q2, .ref q3, .ref q4, .ref q5, .int cm, .int stp, .ref q6, .ref q7, .ref q8, .int mus, .int mc_, .int mb_, .ref q9])), (q1, .inl (ct.2.2, 9, .inl am)), (q2, .inl (ct.1, 240, .inr (.inl ac))), (q3, .inl (ct.1, 240, .inr (.inl al))), (q4, .inl (ct.2.2, 40, .inl ay)), (q5, .inl (ct.2.2, 40, .inl as_)), (q6, .inl (ct.1, 6, .inr (.inl ax))), (q7, .inl (ct.1, 3000, .inr (.inl au))), (q8, .inl (ct.2.2, 500, .inl ao)), (q9, .inl (ct.1, 3000, .inr (.inl at_)))] ++ wt) → va_S (fun q : Nat => s.heap.size ≤ q) s.heap H locs → ∀ (ls : Array Slot), lv_has ls 4 [(3, .int li), (0, .ref b), (1, .ref h0), (2, .ref g0)] → W p l e room_1 s m #[Value.ref b] below meth c H locs cc ss (lw_Z below #[Value.ref b] s) (F0 m 159 ls []) := by
  unfold LawIH at ih
  obtain ⟨hx, hb, hr, hml, hown, hts, hX, hbl, hlocks, hgv⟩ := C0
  have hA : ∀ q : Nat, s.heap.size ≤ q → (fun q : Nat => s.heap.size ≤ q) q := fun _ h => h
  have hbA : ¬ (fun q : Nat => s.heap.size ≤ q) b := Nat.not_le.mpr hbl
  have htg : ∀ w ∈ GW, w.before #[Value.ref b] s = true := fun w hw => hts w (List.mem_filter.mp hw).1
  have hK := hKK.1
  intro h0 h1 h2 h3 h4 h5 h6 g0 q1 q2 q3 q4 q5 q6 q7 q8 q9 ca ta la wt H locs cc ss hcc hss hk40 hpool hP hD hS ls hl
  unfold lk_1 at h
  refine lv_aload_n hx hb d_law_159 rfl (lv_at hl 2 rfl) ?_
  refine lv_aload_n hx hb d_law_160 rfl (lv_at hl 1 rfl) ?_
  refine lv_iload_n hx hb d_law_161 rfl (lv_at hl 0 rfl) ?_
  refine lv_iconst (v := (1 : Int32)) hx hb d_law_162 (by decide) ?_
  refine lv_iadd hx hb d_law_163 ?_
  by_cases b_73 : inb (li + (1 : Int32)) L = true
  rotate_left
  · rw [if_neg b_73] at h; cases h
  rw [if_pos b_73] at h
  refine va_sld hx hb hX hbl hbA hS (inb_in b_73) d_law_164 ?_
  refine lv_aload_n hx hb d_law_165 rfl (lv_at hl 1 rfl) ?_
  refine lv_iload_n hx hb d_law_166 rfl (lv_at hl 0 rfl) ?_
  refine lv_iconst (v := (2 : Int32)) hx hb d_law_167 (by decide) ?_
  refine lv_iadd hx hb d_law_168 ?_
  by_cases b_74 : inb (li + (2 : Int32)) L = true
  rotate_left
  · rw [if_neg b_74] at h; cases h
  rw [if_pos b_74] at h
  refine va_sld hx hb hX hbl hbA hS (inb_in b_74) d_law_169 ?_
  rcases e_75 : f_B_reduced td lw sy sh kn (xs (li + (1 : Int32)).toNatClampNeg) (xs (li + (2 : Int32)).toNatClampNeg) with _ | v_76
  · rw [e_75] at h; cases h
  rw [e_75, Option.bind_some] at h
  try dsimp only at h
  refine vp_callSl (va_Run.run (va_runV (As := [.int (xs (li + (1 : Int32)).toNatClampNeg), .int (xs (li + (2 : Int32)).toNatClampNeg)]) (rest := []) ⟨hx, hb, hml, hown, htg⟩ (c_B_reduced l D ct ([(h0, .inr (4, [.ref h1, .ref h2, .ref h3, .ref h5, .int (nI kn)])), (h1, .inl (ct.2.1, 40, .inr (.inr (.inr (.inr (cfun kn ca)))))), (h2, .inr (1, [.long ra, .long rb, .long rc, .long rx, .long ry, .long rz, .int rs])), (h3, .inr (2, [.ref h2, .ref h4, .int sz, .int fc_, .int fn_])), (h4, .inl (ct.1, 3185, .inr (.inl ro))), (h5, .inr (2, [.ref h2, .ref h6, .int sq, .int gc_, .int gn_])), (h6, .inl (ct.1, 3185, .inr (.inl rp))), (g0, .inr (5, [.ref q1, .ref q2, .ref q3, .ref q4, .ref q5, .int cm, .int stp, .ref q6, .ref q7, .ref q8, .int mus, .int mc_, .int mb_, .ref q9])), (q1, .inl (ct.2.2, 9, .inl am)), (q2, .inl (ct.1, 240, .inr (.inl ac))), (q3, .inl (ct.1, 240, .inr (.inl al))), (q4, .inl (ct.2.2, 40, .inl ay)), (q5, .inl (ct.2.2, 40, .inl as_)), (q6, .inl (ct.1, 6, .inr (.inl ax))), (q7, .inl (ct.1, 3000, .inr (.inl au))), (q8, .inl (ct.2.2, 500, .inl ao)), (q9, .inl (ct.1, 3000, .inr (.inl at_)))] ++ wt) 0 1 h0 h1 h2 h3 h5 ca ta la td lw sy sh kn (xs (li + (1 : Int32)).toNatClampNeg) (xs (li + (2 : Int32)).toNatClampNeg) rfl rfl hk40 (hpool.app _) _ e_75) (cwV 2 htg (giV tm_274 tm_275 tm_276 tm_31 g_B_reduced) rfl rfl rfl (by decide +kernel) ⟨Nat.le_of_ble_eq_true rfl, Nat.le_of_ble_eq_true rfl⟩) (preV hP hKK (va_recv hK hP (ci := 4) (q0 := 0) rfl rfl)) rfl rfl hl.1 rfl (lv_room (Nat.le_of_ble_eq_true rfl)) d_law_170 ⟨show cc + 0 ≤ 600000 by omega, show ss + 0 ≤ 7302250 by omega⟩)) (fun r9 hr9 => ?_)
  have hr9 := hr9.symm
  subst hr9
  refine lv_aload_n hx hb d_law_173 rfl (lv_at hl 3 rfl) ?_
  refine lv_aload_n hx hb d_law_174 rfl (lv_at hl 1 rfl) ?_
  refine lv_iload_n hx hb d_law_175 rfl (lv_at hl 0 rfl) ?_
  refine lv_iconst (v := (1 : Int32)) hx hb d_law_176 (by decide) ?_
  refine lv_iadd hx hb d_law_177 ?_
  by_cases b_77 : inb (li + (1 : Int32)) L = true
  rotate_left
  · rw [if_neg b_77] at h; cases h
  rw [if_pos b_77] at h
  refine va_sld hx hb hX hbl hbA hS (inb_in b_77) d_law_178 ?_
  refine lv_aload_n hx hb d_law_179 rfl (lv_at hl 1 rfl) ?_
  refine lv_iload_n hx hb d_law_180 rfl (lv_at hl 0 rfl) ?_
  refine lv_iconst (v := (2 : Int32)) hx hb d_law_181 (by decide) ?_
  refine lv_iadd hx hb d_law_182 ?_
  by_cases b_78 : inb (li + (2 : Int32)) L = true
  rotate_left
  · rw [if_neg b_78] at h; cases h
  rw [if_pos b_78] at h
  refine va_sld hx hb hX hbl hbA hS (inb_in b_78) d_law_183 ?_
  rcases e_79 : f_M_reduced cm al ay as_ (xs (li + (1 : Int32)).toNatClampNeg) (xs (li + (2 : Int32)).toNatClampNeg) with _ | v_80
  · rw [e_79] at h; cases h
  rw [e_79, Option.bind_some] at h
  try dsimp only at h
  refine vp_callSl (va_Run.run (va_runV (As := [.int (xs (li + (1 : Int32)).toNatClampNeg), .int (xs (li + (2 : Int32)).toNatClampNeg)]) (rest := [.long v_76]) ⟨hx, hb, hml, hown, htg⟩ (c_M_reduced l D ct ([(h0, .inr (4, [.ref h1, .ref h2, .ref h3, .ref h5, .int (nI kn)])), (h1, .inl (ct.2.1, 40, .inr (.inr (.inr (.inr (cfun kn ca)))))), (h2, .inr (1, [.long ra, .long rb, .long rc, .long rx, .long ry, .long rz, .int rs])), (h3, .inr (2, [.ref h2, .ref h4, .int sz, .int fc_, .int fn_])), (h4, .inl (ct.1, 3185, .inr (.inl ro))), (h5, .inr (2, [.ref h2, .ref h6, .int sq, .int gc_, .int gn_])), (h6, .inl (ct.1, 3185, .inr (.inl rp))), (g0, .inr (5, [.ref q1, .ref q2, .ref q3, .ref q4, .ref q5, .int cm, .int stp, .ref q6, .ref q7, .ref q8, .int mus, .int mc_, .int mb_, .ref q9])), (q1, .inl (ct.2.2, 9, .inl am)), (q2, .inl (ct.1, 240, .inr (.inl ac))), (q3, .inl (ct.1, 240, .inr (.inl al))), (q4, .inl (ct.2.2, 40, .inl ay)), (q5, .inl (ct.2.2, 40, .inl as_)), (q6, .inl (ct.1, 6, .inr (.inl ax))), (q7, .inl (ct.1, 3000, .inr (.inl au))), (q8, .inl (ct.2.2, 500, .inl ao)), (q9, .inl (ct.1, 3000, .inr (.inl at_)))] ++ wt) 7 10 11 12 g0 q1 q2 q3 q4 q5 q6 q7 q8 q9 cm stp mus mc_ mb_ al ay as_ (xs (li + (1 : Int32)).toNatClampNeg) (xs (li + (2 : Int32)).toNatClampNeg) rfl rfl rfl rfl  _ e_79) (cwV 2 htg (giV tm_482 tm_483 tm_484 tm_34 g_M_reduced) rfl rfl rfl (by decide +kernel) ⟨Nat.le_of_ble_eq_true rfl, Nat.le_of_ble_eq_true rfl⟩) (preV hP hKK (va_recv hK hP (ci := 5) (q0 := 7) rfl rfl)) rfl rfl hl.1 rfl (lv_room (Nat.le_of_ble_eq_true rfl)) d_law_184 ⟨show cc + 0 ≤ 600000 by omega, show ss + 0 ≤ 7302250 by omega⟩)) (fun r9 hr9 => ?_)
  have hr9 := hr9.symm
  subst hr9
  refine W.lcmp hx hb d_law_187 ?_
  refine lv_if_eq (tgt := 506) hx hb d_law_188 (by decide) (fun c_81 => ?_) (fun c_81 => ?_)
  · rw [if_pos c_81] at h
    refine lv_iinc (v := li + (7 : Int32)) (lv' := [(3, .int (li + (7 : Int32))), (0, .ref b), (1, .ref h0), (2, .ref g0)]) hx hb d_law_506 hl (k := 0) rfl rfl (by decide) rfl (fun ls hl => ?_)
    refine lv_goto (tgt := 18) hx hb d_law_509 (by decide) ?_
    exact ih (li + (7 : Int32)) kn td lw sy sh ro sz fc_ fn_ rp sq gc_ gn_ ra rb rc rx ry rz rs cm stp mus mc_ mb_ am ac al ay as_ ax au ao at_ h h0 h1 h2 h3 h4 h5 h6 g0 q1 q2 q3 q4 q5 q6 q7 q8 q9 ca ta la wt _ _ cc ss (by omega) (by omega) hk40 hpool hP hD hS ls (lv_sub hl [0, 1, 2, 3] rfl)
  · rw [if_neg c_81] at h
    refine lv_iconst (v := (0 : Int32)) hx hb d_law_191 (by decide) ?_
    exact absurd (Option.some.inj h) (by decide)
