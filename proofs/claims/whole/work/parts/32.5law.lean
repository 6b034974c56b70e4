def lk_5 (L : Nat) (xs : Nat → Int32) (go : Int32 → Nat → (Nat → P6) → (Nat → P6) → (Nat → Int32) → (Nat → Int32) → (Nat → Int64) → Int32 → Int32 → Int32 → (Nat → Int64) → Int32 → Int32 → Int32 → Int64 → Int64 → Int64 → Int64 → Int64 → Int64 → Int32 → Int32 → Int32 → Int32 → Int32 → Int32 → (Nat → Int32) → (Nat → Int64) → (Nat → Int64) → (Nat → Int32) → (Nat → Int32) → (Nat → Int64) → (Nat → Int64) → (Nat → Int32) → (Nat → Int64) → Option Int32) (li : Int32) (kn : Nat) (td : Nat → P6) (lw : Nat → P6) (sy : Nat → Int32) (sh : Nat → Int32) (ro : Nat → Int64) (sz : Int32) (fc_ : Int32) (fn_ : Int32) (rp : Nat → Int64) (sq : Int32) (gc_ : Int32) (gn_ : Int32) (ra : Int64) (rb : Int64) (rc : Int64) (rx : Int64) (ry : Int64) (rz : Int64) (rs : Int32) (cm : Int32) (stp : Int32) (mus : Int32) (mc_ : Int32) (mb_ : Int32) (am : Nat → Int32) (ac : Nat → Int64) (al : Nat → Int64) (ay : Nat → Int32) (as_ : Nat → Int32) (ax : Nat → Int64) (au : Nat → Int64) (ao : Nat → Int32) (at_ : Nat → Int64) : Option Int32 :=
    if inb (li + (1 : Int32)) L = true then (if inb (li + (2 : Int32)) L = true then (if inb (li + (3 : Int32)) L = true then (if inb (li + (4 : Int32)) L = true then (Option.bind (f_B_multiple td lw sy sh kn ro sz fc_ fn_ ra rb rc rx ry rz rs (xs (li + (1 : Int32)).toNatClampNeg) (xs (li + (2 : Int32)).toNatClampNeg) (xs (li + (3 : Int32)).toNatClampNeg) (xs (li + (4 : Int32)).toNatClampNeg)) (fun z_170 => (if inb (li + (1 : Int32)) L = true then (if inb (li + (2 : Int32)) L = true then (if inb (li + (3 : Int32)) L = true then (if inb (li + (4 : Int32)) L = true then (Option.bind (f_M_multiple cm ac stp mus ax au ao mc_ mb_ (xs (li + (1 : Int32)).toNatClampNeg) (xs (li + (2 : Int32)).toNatClampNeg) (xs (li + (3 : Int32)).toNatClampNeg) (xs (li + (4 : Int32)).toNatClampNeg)) (fun z_169 => (if (lg_cmp z_170.1 z_169.1) = 0 then (go (li + (7 : Int32)) kn td lw sy sh z_170.2.1 z_170.2.2.1 z_170.2.2.2.1 z_170.2.2.2.2.1 rp sq gc_ gn_ z_170.2.2.2.2.2.1 z_170.2.2.2.2.2.2.1 z_170.2.2.2.2.2.2.2.1 z_170.2.2.2.2.2.2.2.2.1 z_170.2.2.2.2.2.2.2.2.2.1 z_170.2.2.2.2.2.2.2.2.2.2.1 z_170.2.2.2.2.2.2.2.2.2.2.2 cm z_169.2.1 z_169.2.2.1 z_169.2.2.2.2.2.2.1 z_169.2.2.2.2.2.2.2 am ac al ay as_ z_169.2.2.2.1 z_169.2.2.2.2.1 z_169.2.2.2.2.2.1 at_) else (some (0 : Int32))))) else none) else none) else none) else none))) else none) else none) else none) else none
set_option maxHeartbeats 16000000 in
set_option maxRecDepth 100000 in
theorem law_5 {p : Program} {l : Launch} {e : Env} {s : State} {m : MethodId} {below : List Frame} {meth : Method} {c : Code} {D : va_G} {ct : CT} {b L : Nat} {xs : Nat → Int32} (C0 : lw_At p s m meth c b L xs) (hKK : KK D ct s) (n : Nat) (go : Int32 → Nat → (Nat → P6) → (Nat → P6) → (Nat → Int32) → (Nat → Int32) → (Nat → Int64) → Int32 → Int32 → Int32 → (Nat → Int64) → Int32 → Int32 → Int32 → Int64 → Int64 → Int64 → Int64 → Int64 → Int64 → Int32 → Int32 → Int32 → Int32 → Int32 → Int32 → (Nat → Int32) → (Nat → Int64) → (Nat → Int64) → (Nat → Int32) → (Nat → Int32) → (Nat → Int64) → (Nat → Int64) → (Nat → Int32) → (Nat → Int64) → Option Int32) (ih : LawIH p l e s m below meth c D ct b n go) (li : Int32) (kn : Nat) (td : Nat → P6) (lw : Nat → P6) (sy : Nat → Int32) (sh : Nat → Int32) (ro : Nat → Int64) (sz : Int32) (fc_ : Int32) (fn_ : Int32) (rp : Nat → Int64) (sq : Int32) (gc_ : Int32) (gn_ : Int32) (ra : Int64) (rb : Int64) (rc : Int64) (rx : Int64) (ry : Int64) (rz : Int64) (rs : Int32) (cm : Int32) (stp : Int32) (mus : Int32) (mc_ : Int32) (mb_ : Int32) (am : Nat → Int32) (ac : Nat → Int64) (al : Nat → Int64) (ay : Nat → Int32) (as_ : Nat → Int32) (ax : Nat → Int64) (au : Nat → Int64) (ao : Nat → Int32) (at_ : Nat → Int64) (h : lk_5 L xs go li kn td lw sy sh ro sz fc_ fn_ rp sq gc_ gn_ ra rb rc rx ry rz rs cm stp mus mc_ mb_ am ac al ay as_ ax au ao at_ = some 1) : ∀ (h0 : Nat) (h1 : Nat) (h2 : Nat) (h3 : Nat) (h4 : Nat) (h5 : Nat) (h6 : Nat) (g0 : Nat) (q1 : Nat) (q2 : Nat) (q3 : Nat) (q4 : Nat) (q5 : Nat) (q6 : Nat) (q7 : Nat) (q8 : Nat) (q9 : Nat) (ca : Nat → Nat) (ta : Nat → Nat) (la : Nat → Nat) (wt : va_W) (H : Heap) (locs : List Loc) (cc ss : Nat), cc + 3 * (n + 1) ≤ 600000 → ss + 16 * (n + 1) ≤ 7302250 → kn ≤ 40 → PoolIn wt ca ta la td lw sy sh kn → va_P D classes ([(h0, .inr (4, [.ref h1, .ref h2, .ref h3, .ref h5, .int (nI kn)])), (h1, .inl (ct.2.1, 40, .inr (.inr (.inr (.inr (cfun kn ca)))))), (h2, .inr (1, [.long ra, .long rb, .long rc, .long rx, .long ry, .long rz, .int rs])), (h3, .inr (2, [.ref h2, .ref h4, .int sz, .int fc_, .int fn_])), (h4, .inl (ct.1, 3185, .inr (.inl ro))), (h5, .inr (2, [.ref h2, .ref h6, .int sq, .int gc_, .int gn_])), (h6, .inl (ct.1, 3185, .inr (.inl rp))), (g0, .inr (5, [.ref q1, .ref q2, .ref q3, .ref q4, .ref q5, .int cm, .int stp, .ref q6, .ref q7, .ref q8, .int mus, .int mc_, .int mb_, .ref q9])), (q1, .inl (ct.2.2, 9, .inl am)), (q2, .inl (ct.1, 240, .inr (.inl ac))), (q3, .inl (ct.1, 240, .inr (.inl al))), (q4, .inl (ct.2.2, 40, .inl ay)), (q5, .inl (ct.2.2, 40, .inl as_)), (q6, .inl (ct.1, 6, .inr (.inl ax))), (q7, .inl (ct.1, 3000, .inr (.inl au))), (q8, .inl (ct.2.2, 500, .inl ao)), (q9, .inl (ct.1, 3000, .inr (.inl at_)))] ++ wt) H → va_D (fun q : Nat => s.heap.size ≤ q) ([(h0, .inr (4, [.ref h1, .ref h2, .ref h3, .ref h5, .int (nI kn)])), (h1, .inl (ct.2.1, 40, .inr (.inr (.inr (.inr (cfun kn ca)))))), (h2, .inr (1, [.long ra, .long rb, .long rc, .long rx, .long ry, .long rz, .int rs])), (h3, .inr (2, [.ref h2, .ref h4, .int sz, .int fc_, .int fn_])), (h4, .inl (ct.1, 3185, .inr (.inl ro))), (h5, .inr (2, [.ref h2, .ref h6, .int sq, .int gc_, .int gn_])), (h6, .inl (ct.1, 3185, .inr (.inl rp))), (g0, .inr (5, [.ref q1, .ref q2, .ref q3, .ref q4, .ref q5, .int cm, .int stp, .ref q6, .ref q7, .ref q8, .int mus, .int mc_, .int mb_, .ref q9])), (q1, .inl (ct.2.2, 9, .inl am)), (q2, .inl (ct.1, 240, .inr (.inl ac))), (q3, .inl (ct.1, 240, .inr (.inl al))), (q4, .inl (ct.2.2, 40, .inl ay)), (q5, .inl (ct.2.2, 40, .inl as_)), (q6, .inl (ct.1, 6, .inr (.inl ax))), (q7, .inl (ct.1, 3000, .inr (.inl au))), (q8, .inl (ct.2.2, 500, .inl ao)), (q9, .inl (ct.1, 3000, .inr (.inl at_)))] ++ wt) → va_S (fun q : Nat => s.heap.size ≤ q) s.heap H locs → ∀ (ls : Array Slot), lv_has ls 4 [(3, .int li), (0, .ref b), (1, .ref h0), (2, .ref g0)] → W p l e room_1 s m #[Value.ref b] below meth c H locs cc ss (lw_Z below #[Value.ref b] s) (F0 m 282 ls []) := by
  unfold LawIH at ih
  obtain ⟨hx, hb, hr, hml, hown, hts, hX, hbl, hlocks, hgv⟩ := C0
  have hA : ∀ q : Nat, s.heap.size ≤ q → (fun q : Nat => s.heap.size ≤ q) q := fun _ h => h
  have hbA : ¬ (fun q : Nat => s.heap.size ≤ q) b := Nat.not_le.mpr hbl
  have htg : ∀ w ∈ GW, w.before #[Value.ref b] s = true := fun w hw => hts w (List.mem_filter.mp hw).1
  have hK := hKK.1
  intro h0 h1 h2 h3 h4 h5 h6 g0 q1 q2 q3 q4 q5 q6 q7 q8 q9 ca ta la wt H locs cc ss hcc hss hk40 hpool hP hD hS ls hl
  unfold lk_5 at h
  refine lv_aload_n hx hb d_law_282 rfl (lv_at hl 2 rfl) ?_
  refine lv_aload_n hx hb d_law_283 rfl (lv_at hl 1 rfl) ?_
  refine lv_iload_n hx hb d_law_284 rfl (lv_at hl 0 rfl) ?_
  refine lv_iconst (v := (1 : Int32)) hx hb d_law_285 (by decide) ?_
  refine lv_iadd hx hb d_law_286 ?_
  by_cases b_138 : inb (li + (1 : Int32)) L = true
  rotate_left
  · rw [if_neg b_138] at h; cases h
  rw [if_pos b_138] at h
  refine va_sld hx hb hX hbl hbA hS (inb_in b_138) d_law_287 ?_
  refine lv_aload_n hx hb d_law_288 rfl (lv_at hl 1 rfl) ?_
  refine lv_iload_n hx hb d_law_289 rfl (lv_at hl 0 rfl) ?_
  refine lv_iconst (v := (2 : Int32)) hx hb d_law_290 (by decide) ?_
  refine lv_iadd hx hb d_law_291 ?_
  by_cases b_139 : inb (li + (2 : Int32)) L = true
  rotate_left
  · rw [if_neg b_139] at h; cases h
  rw [if_pos b_139] at h
  refine va_sld hx hb hX hbl hbA hS (inb_in b_139) d_law_292 ?_
  refine lv_aload_n hx hb d_law_293 rfl (lv_at hl 1 rfl) ?_
  refine lv_iload_n hx hb d_law_294 rfl (lv_at hl 0 rfl) ?_
  refine lv_iconst (v := (3 : Int32)) hx hb d_law_295 (by decide) ?_
  refine lv_iadd hx hb d_law_296 ?_
  by_cases b_140 : inb (li + (3 : Int32)) L = true
  rotate_left
  · rw [if_neg b_140] at h; cases h
  rw [if_pos b_140] at h
  refine va_sld hx hb hX hbl hbA hS (inb_in b_140) d_law_297 ?_
  refine lv_aload_n hx hb d_law_298 rfl (lv_at hl 1 rfl) ?_
  refine lv_iload_n hx hb d_law_299 rfl (lv_at hl 0 rfl) ?_
  refine lv_iconst (v := (4 : Int32)) hx hb d_law_300 (by decide) ?_
  refine lv_iadd hx hb d_law_301 ?_
  by_cases b_141 : inb (li + (4 : Int32)) L = true
  rotate_left
  · rw [if_neg b_141] at h; cases h
  rw [if_pos b_141] at h
  refine va_sld hx hb hX hbl hbA hS (inb_in b_141) d_law_302 ?_
  rcases e_154 : f_B_multiple td lw sy sh kn ro sz fc_ fn_ ra rb rc rx ry rz rs (xs (li + (1 : Int32)).toNatClampNeg) (xs (li + (2 : Int32)).toNatClampNeg) (xs (li + (3 : Int32)).toNatClampNeg) (xs (li + (4 : Int32)).toNatClampNeg) with _ | ⟨r_142, ro_143, sz_144, fc__145, fn__146, ra_147, rb_148, rc_149, rx_150, ry_151, rz_152, rs_153⟩
  · rw [e_154] at h; cases h
  rw [e_154, Option.bind_some] at h
  try dsimp only at h
  refine va_calll (va_runV (As := [.int (xs (li + (1 : Int32)).toNatClampNeg), .int (xs (li + (2 : Int32)).toNatClampNeg), .int (xs (li + (3 : Int32)).toNatClampNeg), .int (xs (li + (4 : Int32)).toNatClampNeg)]) (rest := []) ⟨hx, hb, hml, hown, htg⟩ (c_B_multiple l D ct (fun q : Nat => s.heap.size ≤ q) (([(g0, .inr (5, [.ref q1, .ref q2, .ref q3, .ref q4, .ref q5, .int cm, .int stp, .ref q6, .ref q7, .ref q8, .int mus, .int mc_, .int mb_, .ref q9])), (q1, .inl (ct.2.2, 9, .inl am)), (q2, .inl (ct.1, 240, .inr (.inl ac))), (q3, .inl (ct.1, 240, .inr (.inl al))), (q4, .inl (ct.2.2, 40, .inl ay)), (q5, .inl (ct.2.2, 40, .inl as_)), (q6, .inl (ct.1, 6, .inr (.inl ax))), (q7, .inl (ct.1, 3000, .inr (.inl au))), (q8, .inl (ct.2.2, 500, .inl ao)), (q9, .inl (ct.1, 3000, .inr (.inl at_)))] : va_W) ++ wt)  h0 h1 h2 h3 h5 h4 h6 ca ta la td lw sy sh kn ro sz fc_ fn_ rp sq gc_ gn_ ra rb rc rx ry rz rs (xs (li + (1 : Int32)).toNatClampNeg) (xs (li + (2 : Int32)).toNatClampNeg) (xs (li + (3 : Int32)).toNatClampNeg) (xs (li + (4 : Int32)).toNatClampNeg)  hk40 (hpool.app _) _ e_154) (cwV 4 htg (giV tm_363 tm_364 tm_365 tm_31 g_B_multiple) rfl rfl rfl (by decide +kernel) ⟨Nat.le_of_ble_eq_true rfl, Nat.le_of_ble_eq_true rfl⟩) (preVM hA hS hP hD hKK (va_recv hK hP (ci := 4) (q0 := 0) rfl rfl)) rfl rfl hl.1 rfl (lv_room (Nat.le_of_ble_eq_true rfl)) d_law_303 ⟨show cc + 0 ≤ 600000 by omega, show ss + 0 ≤ 7302250 by omega⟩) hS (fun q _ h9 => h9) (fun q h9 => h9) (fun r9 u9 t9 H locs ht9 hvm9 hw9 hB9 hz9 hk9 hS => ?_)
  obtain ⟨hw8, hw9⟩ := Prod.mk.inj hw9
  rw [hw8]
  rw [hw9] at hB9
  obtain ⟨hP, hD⟩ := hB9
  rw [ht9] at hP
  have hP : va_P D classes ([(h0, .inr (4, [.ref h1, .ref h2, .ref h3, .ref h5, .int (nI kn)])), (h1, .inl (ct.2.1, 40, .inr (.inr (.inr (.inr (cfun kn ca)))))), (h2, .inr (1, [.long ra_147, .long rb_148, .long rc_149, .long rx_150, .long ry_151, .long rz_152, .int rs_153])), (h3, .inr (2, [.ref h2, .ref h4, .int sz_144, .int fc__145, .int fn__146])), (h4, .inl (ct.1, 3185, .inr (.inl ro_143))), (h5, .inr (2, [.ref h2, .ref h6, .int sq, .int gc_, .int gn_])), (h6, .inl (ct.1, 3185, .inr (.inl rp))), (g0, .inr (5, [.ref q1, .ref q2, .ref q3, .ref q4, .ref q5, .int cm, .int stp, .ref q6, .ref q7, .ref q8, .int mus, .int mc_, .int mb_, .ref q9])), (q1, .inl (ct.2.2, 9, .inl am)), (q2, .inl (ct.1, 240, .inr (.inl ac))), (q3, .inl (ct.1, 240, .inr (.inl al))), (q4, .inl (ct.2.2, 40, .inl ay)), (q5, .inl (ct.2.2, 40, .inl as_)), (q6, .inl (ct.1, 6, .inr (.inl ax))), (q7, .inl (ct.1, 3000, .inr (.inl au))), (q8, .inl (ct.2.2, 500, .inl ao)), (q9, .inl (ct.1, 3000, .inr (.inl at_)))] ++ wt) H := hP
  have hD : va_D (fun q : Nat => s.heap.size ≤ q) ([(h0, .inr (4, [.ref h1, .ref h2, .ref h3, .ref h5, .int (nI kn)])), (h1, .inl (ct.2.1, 40, .inr (.inr (.inr (.inr (cfun kn ca)))))), (h2, .inr (1, [.long ra_147, .long rb_148, .long rc_149, .long rx_150, .long ry_151, .long rz_152, .int rs_153])), (h3, .inr (2, [.ref h2, .ref h4, .int sz_144, .int fc__145, .int fn__146])), (h4, .inl (ct.1, 3185, .inr (.inl ro_143))), (h5, .inr (2, [.ref h2, .ref h6, .int sq, .int gc_, .int gn_])), (h6, .inl (ct.1, 3185, .inr (.inl rp))), (g0, .inr (5, [.ref q1, .ref q2, .ref q3, .ref q4, .ref q5, .int cm, .int stp, .ref q6, .ref q7, .ref q8, .int mus, .int mc_, .int mb_, .ref q9])), (q1, .inl (ct.2.2, 9, .inl am)), (q2, .inl (ct.1, 240, .inr (.inl ac))), (q3, .inl (ct.1, 240, .inr (.inl al))), (q4, .inl (ct.2.2, 40, .inl ay)), (q5, .inl (ct.2.2, 40, .inl as_)), (q6, .inl (ct.1, 6, .inr (.inl ax))), (q7, .inl (ct.1, 3000, .inr (.inl au))), (q8, .inl (ct.2.2, 500, .inl ao)), (q9, .inl (ct.1, 3000, .inr (.inl at_)))] ++ wt) := hD
  refine lv_aload_n hx hb d_law_306 rfl (lv_at hl 3 rfl) ?_
  refine lv_aload_n hx hb d_law_307 rfl (lv_at hl 1 rfl) ?_
  refine lv_iload_n hx hb d_law_308 rfl (lv_at hl 0 rfl) ?_
  refine lv_iconst (v := (1 : Int32)) hx hb d_law_309 (by decide) ?_
  refine lv_iadd hx hb d_law_310 ?_
  by_cases b_155 : inb (li + (1 : Int32)) L = true
  rotate_left
  · rw [if_neg b_155] at h; cases h
  rw [if_pos b_155] at h
  refine va_sld hx hb hX hbl hbA hS (inb_in b_155) d_law_311 ?_
  refine lv_aload_n hx hb d_law_312 rfl (lv_at hl 1 rfl) ?_
  refine lv_iload_n hx hb d_law_313 rfl (lv_at hl 0 rfl) ?_
  refine lv_iconst (v := (2 : Int32)) hx hb d_law_314 (by decide) ?_
  refine lv_iadd hx hb d_law_315 ?_
  by_cases b_156 : inb (li + (2 : Int32)) L = true
  rotate_left
  · rw [if_neg b_156] at h; cases h
  rw [if_pos b_156] at h
  refine va_sld hx hb hX hbl hbA hS (inb_in b_156) d_law_316 ?_
  refine lv_aload_n hx hb d_law_317 rfl (lv_at hl 1 rfl) ?_
  refine lv_iload_n hx hb d_law_318 rfl (lv_at hl 0 rfl) ?_
  refine lv_iconst (v := (3 : Int32)) hx hb d_law_319 (by decide) ?_
  refine lv_iadd hx hb d_law_320 ?_
  by_cases b_157 : inb (li + (3 : Int32)) L = true
  rotate_left
  · rw [if_neg b_157] at h; cases h
  rw [if_pos b_157] at h
  refine va_sld hx hb hX hbl hbA hS (inb_in b_157) d_law_321 ?_
  refine lv_aload_n hx hb d_law_322 rfl (lv_at hl 1 rfl) ?_
  refine lv_iload_n hx hb d_law_323 rfl (lv_at hl 0 rfl) ?_
  refine lv_iconst (v := (4 : Int32)) hx hb d_law_324 (by decide) ?_
  refine lv_iadd hx hb d_law_325 ?_
  by_cases b_158 : inb (li + (4 : Int32)) L = true
  rotate_left
  · rw [if_neg b_158] at h; cases h
  rw [if_pos b_158] at h
  refine va_sld hx hb hX hbl hbA hS (inb_in b_158) d_law_326 ?_
  have hP := va_P.part (cx := [(g0, .inr (5, [.ref q1, .ref q2, .ref q3, .ref q4, .ref q5, .int cm, .int stp, .ref q6, .ref q7, .ref q8, .int mus, .int mc_, .int mb_, .ref q9])), (q2, .inl (ct.1, 240, .inr (.inl ac))), (q6, .inl (ct.1, 6, .inr (.inl ax))), (q7, .inl (ct.1, 3000, .inr (.inl au))), (q8, .inl (ct.2.2, 500, .inl ao)), (h0, .inr (4, [.ref h1, .ref h2, .ref h3, .ref h5, .int (nI kn)])), (h1, .inl (ct.2.1, 40, .inr (.inr (.inr (.inr (cfun kn ca)))))), (h2, .inr (1, [.long ra_147, .long rb_148, .long rc_149, .long rx_150, .long ry_151, .long rz_152, .int rs_153])), (h3, .inr (2, [.ref h2, .ref h4, .int sz_144, .int fc__145, .int fn__146])), (h4, .inl (ct.1, 3185, .inr (.inl ro_143))), (h5, .inr (2, [.ref h2, .ref h6, .int sq, .int gc_, .int gn_])), (h6, .inl (ct.1, 3185, .inr (.inl rp))), (q1, .inl (ct.2.2, 9, .inl am)), (q3, .inl (ct.1, 240, .inr (.inl al))), (q4, .inl (ct.2.2, 40, .inl ay)), (q5, .inl (ct.2.2, 40, .inl as_)), (q9, .inl (ct.1, 3000, .inr (.inl at_)))]) hP [7, 9, 13, 14, 15, 0, 1, 2, 3, 4, 5, 6, 8, 10, 11, 12, 16] rfl
  have hD := va_D.part (cx := [(g0, .inr (5, [.ref q1, .ref q2, .ref q3, .ref q4, .ref q5, .int cm, .int stp, .ref q6, .ref q7, .ref q8, .int mus, .int mc_, .int mb_, .ref q9])), (q2, .inl (ct.1, 240, .inr (.inl ac))), (q6, .inl (ct.1, 6, .inr (.inl ax))), (q7, .inl (ct.1, 3000, .inr (.inl au))), (q8, .inl (ct.2.2, 500, .inl ao)), (h0, .inr (4, [.ref h1, .ref h2, .ref h3, .ref h5, .int (nI kn)])), (h1, .inl (ct.2.1, 40, .inr (.inr (.inr (.inr (cfun kn ca)))))), (h2, .inr (1, [.long ra_147, .long rb_148, .long rc_149, .long rx_150, .long ry_151, .long rz_152, .int rs_153])), (h3, .inr (2, [.ref h2, .ref h4, .int sz_144, .int fc__145, .int fn__146])), (h4, .inl (ct.1, 3185, .inr (.inl ro_143))), (h5, .inr (2, [.ref h2, .ref h6, .int sq, .int gc_, .int gn_])), (h6, .inl (ct.1, 3185, .inr (.inl rp))), (q1, .inl (ct.2.2, 9, .inl am)), (q3, .inl (ct.1, 240, .inr (.inl al))), (q4, .inl (ct.2.2, 40, .inl ay)), (q5, .inl (ct.2.2, 40, .inl as_)), (q9, .inl (ct.1, 3000, .inr (.inl at_)))]) hD [7, 9, 13, 14, 15, 0, 1, 2, 3, 4, 5, 6, 8, 10, 11, 12, 16] (by decide) rfl
  rcases e_167 : f_M_multiple cm ac stp mus ax au ao mc_ mb_ (xs (li + (1 : Int32)).toNatClampNeg) (xs (li + (2 : Int32)).toNatClampNeg) (xs (li + (3 : Int32)).toNatClampNeg) (xs (li + (4 : Int32)).toNatClampNeg) with _ | ⟨r_159, stp_160, mus_161, ax_162, au_163, ao_164, mc__165, mb__166⟩
  · rw [e_167] at h; cases h
  rw [e_167, Option.bind_some] at h
  try dsimp only at h
  refine va_calll (va_runV (As := [.int (xs (li + (1 : Int32)).toNatClampNeg), .int (xs (li + (2 : Int32)).toNatClampNeg), .int (xs (li + (3 : Int32)).toNatClampNeg), .int (xs (li + (4 : Int32)).toNatClampNeg)]) (rest := [.long r_142]) ⟨hx, hb, hml, hown, htg⟩ (c_M_multiple l D ct (fun q : Nat => s.heap.size ≤ q) (([(h0, .inr (4, [.ref h1, .ref h2, .ref h3, .ref h5, .int (nI kn)])), (h1, .inl (ct.2.1, 40, .inr (.inr (.inr (.inr (cfun kn ca)))))), (h2, .inr (1, [.long ra_147, .long rb_148, .long rc_149, .long rx_150, .long ry_151, .long rz_152, .int rs_153])), (h3, .inr (2, [.ref h2, .ref h4, .int sz_144, .int fc__145, .int fn__146])), (h4, .inl (ct.1, 3185, .inr (.inl ro_143))), (h5, .inr (2, [.ref h2, .ref h6, .int sq, .int gc_, .int gn_])), (h6, .inl (ct.1, 3185, .inr (.inl rp))), (q1, .inl (ct.2.2, 9, .inl am)), (q3, .inl (ct.1, 240, .inr (.inl al))), (q4, .inl (ct.2.2, 40, .inl ay)), (q5, .inl (ct.2.2, 40, .inl as_)), (q9, .inl (ct.1, 3000, .inr (.inl at_)))] : va_W) ++ wt)  g0 q1 q2 q3 q4 q5 q6 q7 q8 q9 cm stp mus mc_ mb_ ac ax au ao (xs (li + (1 : Int32)).toNatClampNeg) (xs (li + (2 : Int32)).toNatClampNeg) (xs (li + (3 : Int32)).toNatClampNeg) (xs (li + (4 : Int32)).toNatClampNeg)   _ e_167) (cwV 4 htg (giV tm_522 tm_523 tm_524 tm_34 g_M_multiple) rfl rfl rfl (by decide +kernel) ⟨Nat.le_of_ble_eq_true rfl, Nat.le_of_ble_eq_true rfl⟩) (preVM hA hS hP hD hKK (va_recv hK hP (ci := 5) (q0 := 0) rfl rfl)) rfl rfl hl.1 rfl (lv_room (Nat.le_of_ble_eq_true rfl)) d_law_327 ⟨show cc + 0 ≤ 600000 by omega, show ss + 0 ≤ 7302250 by omega⟩) hS (fun q _ h9 => h9) (fun q h9 => h9) (fun r9 u9 t9 H locs ht9 hvm9 hw9 hB9 hz9 hk9 hS => ?_)
  obtain ⟨hw8, hw9⟩ := Prod.mk.inj hw9
  rw [hw8]
  rw [hw9] at hB9
  obtain ⟨hP, hD⟩ := hB9
  rw [ht9] at hP
  have hP : va_P D classes ([(g0, .inr (5, [.ref q1, .ref q2, .ref q3, .ref q4, .ref q5, .int cm, .int stp_160, .ref q6, .ref q7, .ref q8, .int mus_161, .int mc__165, .int mb__166, .ref q9])), (q2, .inl (ct.1, 240, .inr (.inl ac))), (q6, .inl (ct.1, 6, .inr (.inl ax_162))), (q7, .inl (ct.1, 3000, .inr (.inl au_163))), (q8, .inl (ct.2.2, 500, .inl ao_164)), (h0, .inr (4, [.ref h1, .ref h2, .ref h3, .ref h5, .int (nI kn)])), (h1, .inl (ct.2.1, 40, .inr (.inr (.inr (.inr (cfun kn ca)))))), (h2, .inr (1, [.long ra_147, .long rb_148, .long rc_149, .long rx_150, .long ry_151, .long rz_152, .int rs_153])), (h3, .inr (2, [.ref h2, .ref h4, .int sz_144, .int fc__145, .int fn__146])), (h4, .inl (ct.1, 3185, .inr (.inl ro_143))), (h5, .inr (2, [.ref h2, .ref h6, .int sq, .int gc_, .int gn_])), (h6, .inl (ct.1, 3185, .inr (.inl rp))), (q1, .inl (ct.2.2, 9, .inl am)), (q3, .inl (ct.1, 240, .inr (.inl al))), (q4, .inl (ct.2.2, 40, .inl ay)), (q5, .inl (ct.2.2, 40, .inl as_)), (q9, .inl (ct.1, 3000, .inr (.inl at_)))] ++ wt) H := hP
  have hD : va_D (fun q : Nat => s.heap.size ≤ q) ([(g0, .inr (5, [.ref q1, .ref q2, .ref q3, .ref q4, .ref q5, .int cm, .int stp_160, .ref q6, .ref q7, .ref q8, .int mus_161, .int mc__165, .int mb__166, .ref q9])), (q2, .inl (ct.1, 240, .inr (.inl ac))), (q6, .inl (ct.1, 6, .inr (.inl ax_162))), (q7, .inl (ct.1, 3000, .inr (.inl au_163))), (q8, .inl (ct.2.2, 500, .inl ao_164)), (h0, .inr (4, [.ref h1, .ref h2, .ref h3, .ref h5, .int (nI kn)])), (h1, .inl (ct.2.1, 40, .inr (.inr (.inr (.inr (cfun kn ca)))))), (h2, .inr (1, [.long ra_147, .long rb_148, .long rc_149, .long rx_150, .long ry_151, .long rz_152, .int rs_153])), (h3, .inr (2, [.ref h2, .ref h4, .int sz_144, .int fc__145, .int fn__146])), (h4, .inl (ct.1, 3185, .inr (.inl ro_143))), (h5, .inr (2, [.ref h2, .ref h6, .int sq, .int gc_, .int gn_])), (h6, .inl (ct.1, 3185, .inr (.inl rp))), (q1, .inl (ct.2.2, 9, .inl am)), (q3, .inl (ct.1, 240, .inr (.inl al))), (q4, .inl (ct.2.2, 40, .inl ay)), (q5, .inl (ct.2.2, 40, .inl as_)), (q9, .inl (ct.1, 3000, .inr (.inl at_)))] ++ wt) := hD
  refine W.lcmp hx hb d_law_330 ?_
  refine lv_if_eq (tgt := 506) hx hb d_law_331 (by decide) (fun c_168 => ?_) (fun c_168 => ?_)
  · rw [if_pos c_168] at h
    refine lv_iinc (v := li + (7 : Int32)) (lv' := [(3, .int (li + (7 : Int32))), (0, .ref b), (1, .ref h0), (2, .ref g0)]) hx hb d_law_506 hl (k := 0) rfl rfl (by decide) rfl (fun ls hl => ?_)
    refine lv_goto (tgt := 18) hx hb d_law_509 (by decide) ?_
    have hP := va_P.part (cx := [(h0, .inr (4, [.ref h1, .ref h2, .ref h3, .ref h5, .int (nI kn)])), (h1, .inl (ct.2.1, 40, .inr (.inr (.inr (.inr (cfun kn ca)))))), (h2, .inr (1, [.long ra_147, .long rb_148, .long rc_149, .long rx_150, .long ry_151, .long rz_152, .int rs_153])), (h3, .inr (2, [.ref h2, .ref h4, .int sz_144, .int fc__145, .int fn__146])), (h4, .inl (ct.1, 3185, .inr (.inl ro_143))), (h5, .inr (2, [.ref h2, .ref h6, .int sq, .int gc_, .int gn_])), (h6, .inl (ct.1, 3185, .inr (.inl rp))), (g0, .inr (5, [.ref q1, .ref q2, .ref q3, .ref q4, .ref q5, .int cm, .int stp_160, .ref q6, .ref q7, .ref q8, .int mus_161, .int mc__165, .int mb__166, .ref q9])), (q1, .inl (ct.2.2, 9, .inl am)), (q2, .inl (ct.1, 240, .inr (.inl ac))), (q3, .inl (ct.1, 240, .inr (.inl al))), (q4, .inl (ct.2.2, 40, .inl ay)), (q5, .inl (ct.2.2, 40, .inl as_)), (q6, .inl (ct.1, 6, .inr (.inl ax_162))), (q7, .inl (ct.1, 3000, .inr (.inl au_163))), (q8, .inl (ct.2.2, 500, .inl ao_164)), (q9, .inl (ct.1, 3000, .inr (.inl at_)))]) hP [5, 6, 7, 8, 9, 10, 11, 0, 12, 1, 13, 14, 15, 2, 3, 4, 16] rfl
    have hD := va_D.part (cx := [(h0, .inr (4, [.ref h1, .ref h2, .ref h3, .ref h5, .int (nI kn)])), (h1, .inl (ct.2.1, 40, .inr (.inr (.inr (.inr (cfun kn ca)))))), (h2, .inr (1, [.long ra_147, .long rb_148, .long rc_149, .long rx_150, .long ry_151, .long rz_152, .int rs_153])), (h3, .inr (2, [.ref h2, .ref h4, .int sz_144, .int fc__145, .int fn__146])), (h4, .inl (ct.1, 3185, .inr (.inl ro_143))), (h5, .inr (2, [.ref h2, .ref h6, .int sq, .int gc_, .int gn_])), (h6, .inl (ct.1, 3185, .inr (.inl rp))), (g0, .inr (5, [.ref q1, .ref q2, .ref q3, .ref q4, .ref q5, .int cm, .int stp_160, .ref q6, .ref q7, .ref q8, .int mus_161, .int mc__165, .int mb__166, .ref q9])), (q1, .inl (ct.2.2, 9, .inl am)), (q2, .inl (ct.1, 240, .inr (.inl ac))), (q3, .inl (ct.1, 240, .inr (.inl al))), (q4, .inl (ct.2.2, 40, .inl ay)), (q5, .inl (ct.2.2, 40, .inl as_)), (q6, .inl (ct.1, 6, .inr (.inl ax_162))), (q7, .inl (ct.1, 3000, .inr (.inl au_163))), (q8, .inl (ct.2.2, 500, .inl ao_164)), (q9, .inl (ct.1, 3000, .inr (.inl at_)))]) hD [5, 6, 7, 8, 9, 10, 11, 0, 12, 1, 13, 14, 15, 2, 3, 4, 16] (by decide) rfl
    exact ih (li + (7 : Int32)) kn td lw sy sh ro_143 sz_144 fc__145 fn__146 rp sq gc_ gn_ ra_147 rb_148 rc_149 rx_150 ry_151 rz_152 rs_153 cm stp_160 mus_161 mc__165 mb__166 am ac al ay as_ ax_162 au_163 ao_164 at_ h h0 h1 h2 h3 h4 h5 h6 g0 q1 q2 q3 q4 q5 q6 q7 q8 q9 ca ta la wt _ _ cc ss (by omega) (by omega) hk40 hpool hP hD hS ls (lv_sub hl [0, 1, 2, 3] rfl)
  · rw [if_neg c_168] at h
    refine lv_iconst (v := (0 : Int32)) hx hb d_law_334 (by decide) ?_
    exact absurd (Option.some.inj h) (by decide)
