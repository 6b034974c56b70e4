def lk_6 (L : Nat) (xs : Nat → Int32) (go : Int32 → Nat → (Nat → P6) → (Nat → P6) → (Nat → Int32) → (Nat → Int32) → (Nat → Int64) → Int32 → Int32 → Int32 → (Nat → Int64) → Int32 → Int32 → Int32 → Int64 → Int64 → Int64 → Int64 → Int64 → Int64 → Int32 → Int32 → Int32 → Int32 → Int32 → Int32 → (Nat → Int32) → (Nat → Int64) → (Nat → Int64) → (Nat → Int32) → (Nat → Int32) → (Nat → Int64) → (Nat → Int64) → (Nat → Int32) → (Nat → Int64) → Option Int32) (li : Int32) (kn : Nat) (td : Nat → P6) (lw : Nat → P6) (sy : Nat → Int32) (sh : Nat → Int32) (ro : Nat → Int64) (sz : Int32) (fc_ : Int32) (fn_ : Int32) (rp : Nat → Int64) (sq : Int32) (gc_ : Int32) (gn_ : Int32) (ra : Int64) (rb : Int64) (rc : Int64) (rx : Int64) (ry : Int64) (rz : Int64) (rs : Int32) (cm : Int32) (stp : Int32) (mus : Int32) (mc_ : Int32) (mb_ : Int32) (am : Nat → Int32) (ac : Nat → Int64) (al : Nat → Int64) (ay : Nat → Int32) (as_ : Nat → Int32) (ax : Nat → Int64) (au : Nat → Int64) (ao : Nat → Int32) (at_ : Nat → Int64) : Option Int32 :=
    if inb (li + (1 : Int32)) L = true then (if inb (li + (2 : Int32)) L = true then (if inb (li + (3 : Int32)) L = true then (if inb (li + (4 : Int32)) L = true then (Option.bind (f_B_common td lw sy sh kn ro sz fc_ fn_ rp sq gc_ gn_ ra rb rc rx ry rz rs (xs (li + (1 : Int32)).toNatClampNeg) (xs (li + (2 : Int32)).toNatClampNeg) (xs (li + (3 : Int32)).toNatClampNeg) (xs (li + (4 : Int32)).toNatClampNeg)) (fun z_209 => (if inb (li + (1 : Int32)) L = true then (if inb (li + (2 : Int32)) L = true then (if inb (li + (3 : Int32)) L = true then (if inb (li + (4 : Int32)) L = true then (Option.bind (f_M_common cm ac stp mus ax au ao mc_ mb_ at_ (xs (li + (1 : Int32)).toNatClampNeg) (xs (li + (2 : Int32)).toNatClampNeg) (xs (li + (3 : Int32)).toNatClampNeg) (xs (li + (4 : Int32)).toNatClampNeg)) (fun z_208 => (if z_209.1 = z_208.1 then (go (li + (7 : Int32)) kn td lw sy sh z_209.2.1 z_209.2.2.1 z_209.2.2.2.1 z_209.2.2.2.2.1 z_209.2.2.2.2.2.1 z_209.2.2.2.2.2.2.1 z_209.2.2.2.2.2.2.2.1 z_209.2.2.2.2.2.2.2.2.1 z_209.2.2.2.2.2.2.2.2.2.1 z_209.2.2.2.2.2.2.2.2.2.2.1 z_209.2.2.2.2.2.2.2.2.2.2.2.1 z_209.2.2.2.2.2.2.2.2.2.2.2.2.1 z_209.2.2.2.2.2.2.2.2.2.2.2.2.2.1 z_209.2.2.2.2.2.2.2.2.2.2.2.2.2.2.1 z_209.2.2.2.2.2.2.2.2.2.2.2.2.2.2.2 cm z_208.2.1 z_208.2.2.1 z_208.2.2.2.2.2.2.1 z_208.2.2.2.2.2.2.2.1 am ac al ay as_ z_208.2.2.2.1 z_208.2.2.2.2.1 z_208.2.2.2.2.2.1 z_208.2.2.2.2.2.2.2.2) else (some (0 : Int32))))) else none) else none) else none) else none))) else none) else none) else none) else none
set_option maxHeartbeats 16000000 in
set_option maxRecDepth 100000 in
theorem law_6 {p : Program} {l : Launch} {e : Env} {s : State} {m : MethodId} {below : List Frame} {meth : Method} {c : Code} {D : va_G} {ct : CT} {b L : Nat} {xs : Nat → Int32} (C0 : lw_At p s m meth c b L xs) (hKK : KK D ct s) (n : Nat) (go : Int32 → Nat → (Nat → P6) → (Nat → P6) → (Nat → Int32) → (Nat → Int32) → (Nat → Int64) → Int32 → Int32 → Int32 → (Nat → Int64) → Int32 → Int32 → Int32 → Int64 → Int64 → Int64 → Int64 → Int64 → Int64 → Int32 → Int32 → Int32 → Int32 → Int32 → Int32 → (Nat → Int32) → (Nat → Int64) → (Nat → Int64) → (Nat → Int32) → (Nat → Int32) → (Nat → Int64) → (Nat → Int64) → (Nat → Int32) → (Nat → Int64) → Option Int32) (ih : LawIH p l e s m below meth c D ct b n go) (li : Int32) (kn : Nat) (td : Nat → P6) (lw : Nat → P6) (sy : Nat → Int32) (sh : Nat → Int32) (ro : Nat → Int64) (sz : Int32) (fc_ : Int32) (fn_ : Int32) (rp : Nat → Int64) (sq : Int32) (gc_ : Int32) (gn_ : Int32) (ra : Int64) (rb : Int64) (rc : Int64) (rx : Int64) (ry : Int64) (rz : Int64) (rs : Int32) (cm : Int32) (stp : Int32) (mus : Int32) (mc_ : Int32) (mb_ : Int32) (am : Nat → Int32) (ac : Nat → Int64) (al : Nat → Int64) (ay : Nat → Int32) (as_ : Nat → Int32) (ax : Nat → Int64) (au : Nat → Int64) (ao : Nat → Int32) (at_ : Nat → Int64) (h : lk_6 L xs go li kn td lw sy sh ro sz fc_ fn_ rp sq gc_ gn_ ra rb rc rx ry rz rs cm stp mus mc_ mb_ am ac al ay as_ ax au ao at_ = some 1) : ∀ (h0 : Nat) (h1 : Nat) (h2 : Nat) (h3 : Nat) (h4 : Nat) (h5 : Nat) (h6 : Nat) (g0 : Nat) (q1 : Nat) (q2 : Nat) (q3 : Nat) (q4 : Nat) (q5 : Nat) (q6 : Nat) (q7 : Nat) (q8 : Nat) (q9 : Nat) (ca : Nat → Nat) (ta : Nat → Nat) (la : Nat → Nat) (wt : va_W) (H : Heap) (locs : List Loc) (cc ss : Nat), cc + 3 * (n + 1) ≤ 600000 → ss + 16 * (n + 1) ≤ 7302250 → kn ≤ 40 → PoolIn wt ca ta la td lw sy sh kn → va_P D classes ([(h0, .inr (4, [.ref h1, .ref h2, .ref h3, .ref h5, .int (nI kn)])), (h1, .inl (ct.2.1, 40, .inr (.inr (.inr (.inr (cfun kn ca)))))), (h2, .inr (1, [.long ra, .long rb, .long rc, .long rx, .long ry, .long rz, .int rs])), (h3, .inr (2, [.ref h2, .ref h4, .int sz, .int fc_, .int fn_])), (h4, .inl (ct.1, 3185, .inr (.inl ro))), (h5, .inr (2, [.ref h2, .ref h6, .int sq, .int gc_, .int gn_])), (h6, .inl (ct.1, 3185, .inr (.inl rp))), (g0, .inr (5, [.ref q1, .ref q2, .ref q3, .ref q4, .ref q5, .int cm, .int stp, .ref q6, .ref q7, .ref q8, .int mus, .int mc_, .int mb_, .ref q9])), (q1, .inl (ct.2.2, 9, .inl am)), (q2, .inl (ct.1, 240, .inr (.inl ac))), (q3, .inl (ct.1, 240, .inr (.inl al))), (q4, .inl (ct.2.2, 40, .inl ay)), (q5, .inl (ct.2.2, 40, .inl as_)), (q6, .inl (ct.1, 6, .inr (.inl ax))), (q7, .inl (ct.1, 3000, .inr (.inl au))), (q8, .inl (ct.2.2, 500, .inl ao)), (q9, .inl (ct.1, 3000, .inr (.inl at_)))] ++ wt) H → va_D (fun q : Nat => s.heap.size ≤ q) ([(h0, .inr (4, [.ref h1, .ref h2, .ref h3, .ref h5, .int (nI kn)])), (h1, .inl (ct.2.1, 40, .inr (.inr (.inr (.inr (cfun kn ca)))))), (h2, .inr (1, [.long ra, .long rb, .long rc, .long rx, .long ry, .long rz, .int rs])), (h3, .inr (2, [.ref h2, .ref h4, .int sz, .int fc_, .int fn_])), (h4, .inl (ct.1, 3185, .inr (.inl ro))), (h5, .inr (2, [.ref h2, .ref h6, .int sq, .int gc_, .int gn_])), (h6, .inl (ct.1, 3185, .inr (.inl rp))), (g0, .inr (5, [.ref q1, .ref q2, .ref q3, .ref q4, .ref q5, .int cm, .int stp, .ref q6, .ref q7, .ref q8, .int mus, .int mc_, .int mb_, .ref q9])), (q1, .inl (ct.2.2, 9, .inl am)), (q2, .inl (ct.1, 240, .inr (.inl ac))), (q3, .inl (ct.1, 240, .inr (.inl al))), (q4, .inl (ct.2.2, 40, .inl ay)), (q5, .inl (ct.2.2, 40, .inl as_)), (q6, .inl (ct.1, 6, .inr (.inl ax))), (q7, .inl (ct.1, 3000, .inr (.inl au))), (q8, .inl (ct.2.2, 500, .inl ao)), (q9, .inl (ct.1, 3000, .inr (.inl at_)))] ++ wt) → va_S (fun q : Nat => s.heap.size ≤ q) s.heap H locs → ∀ (ls : Array Slot), lv_has ls 4 [(3, .int li), (0, .ref b), (1, .ref h0), (2, .ref g0)] → W p l e room_1 s m #[Value.ref b] below meth c H locs cc ss (lw_Z below #[Value.ref b] s) (F0 m 336 ls []) := by
  unfold LawIH at ih
  obtain ⟨hx, hb, hr, hml, hown, hts, hX, hbl, hlocks, hgv⟩ := C0
  have hA : ∀ q : Nat, s.heap.size ≤ q → (fun q : Nat => s.heap.size ≤ q) q := fun _ h => h
  have hbA : ¬ (fun q : Nat => s.heap.size ≤ q) b := Nat.not_le.mpr hbl
  have htg : ∀ w ∈ GW, w.before #[Value.ref b] s = true := fun w hw => hts w (List.mem_filter.mp hw).1
  have hK := hKK.1
  intro h0 h1 h2 h3 h4 h5 h6 g0 q1 q2 q3 q4 q5 q6 q7 q8 q9 ca ta la wt H locs cc ss hcc hss hk40 hpool hP hD hS ls hl
  unfold lk_6 at h
  refine lv_aload_n hx hb d_law_336 rfl (lv_at hl 2 rfl) ?_
  refine lv_aload_n hx hb d_law_337 rfl (lv_at hl 1 rfl) ?_
  refine lv_iload_n hx hb d_law_338 rfl (lv_at hl 0 rfl) ?_
  refine lv_iconst (v := (1 : Int32)) hx hb d_law_339 (by decide) ?_
  refine lv_iadd hx hb d_law_340 ?_
  by_cases b_172 : inb (li + (1 : Int32)) L = true
  rotate_left
  · rw [if_neg b_172] at h; cases h
  rw [if_pos b_172] at h
  refine va_sld hx hb hX hbl hbA hS (inb_in b_172) d_law_341 ?_
  refine lv_aload_n hx hb d_law_342 rfl (lv_at hl 1 rfl) ?_
  refine lv_iload_n hx hb d_law_343 rfl (lv_at hl 0 rfl) ?_
  refine lv_iconst (v := (2 : Int32)) hx hb d_law_344 (by decide) ?_
  refine lv_iadd hx hb d_law_345 ?_
  by_cases b_173 : inb (li + (2 : Int32)) L = true
  rotate_left
  · rw [if_neg b_173] at h; cases h
  rw [if_pos b_173] at h
  refine va_sld hx hb hX hbl hbA hS (inb_in b_173) d_law_346 ?_
  refine lv_aload_n hx hb d_law_347 rfl (lv_at hl 1 rfl) ?_
  refine lv_iload_n hx hb d_law_348 rfl (lv_at hl 0 rfl) ?_
  refine lv_iconst (v := (3 : Int32)) hx hb d_law_349 (by decide) ?_
  refine lv_iadd hx hb d_law_350 ?_
  by_cases b_174 : inb (li + (3 : Int32)) L = true
  rotate_left
  · rw [if_neg b_174] at h; cases h
  rw [if_pos b_174] at h
  refine va_sld hx hb hX hbl hbA hS (inb_in b_174) d_law_351 ?_
  refine lv_aload_n hx hb d_law_352 rfl (lv_at hl 1 rfl) ?_
  refine lv_iload_n hx hb d_law_353 rfl (lv_at hl 0 rfl) ?_
  refine lv_iconst (v := (4 : Int32)) hx hb d_law_354 (by decide) ?_
  refine lv_iadd hx hb d_law_355 ?_
  by_cases b_175 : inb (li + (4 : Int32)) L = true
  rotate_left
  · rw [if_neg b_175] at h; cases h
  rw [if_pos b_175] at h
  refine va_sld hx hb hX hbl hbA hS (inb_in b_175) d_law_356 ?_
  rcases e_192 : f_B_common td lw sy sh kn ro sz fc_ fn_ rp sq gc_ gn_ ra rb rc rx ry rz rs (xs (li + (1 : Int32)).toNatClampNeg) (xs (li + (2 : Int32)).toNatClampNeg) (xs (li + (3 : Int32)).toNatClampNeg) (xs (li + (4 : Int32)).toNatClampNeg) with _ | ⟨r_176, ro_177, sz_178, fc__179, fn__180, rp_181, sq_182, gc__183, gn__184, ra_185, rb_186, rc_187, rx_188, ry_189, rz_190, rs_191⟩
  · rw [e_192] at h; cases h
  rw [e_192, Option.bind_some] at h
  try dsimp only at h
  refine va_calli (va_runV (As := [.int (xs (li + (1 : Int32)).toNatClampNeg), .int (xs (li + (2 : Int32)).toNatClampNeg), .int (xs (li + (3 : Int32)).toNatClampNeg), .int (xs (li + (4 : Int32)).toNatClampNeg)]) (rest := []) ⟨hx, hb, hml, hown, htg⟩ (c_B_common l D ct (fun q : Nat => s.heap.size ≤ q) (([(g0, .inr (5, [.ref q1, .ref q2, .ref q3, .ref q4, .ref q5, .int cm, .int stp, .ref q6, .ref q7, .ref q8, .int mus, .int mc_, .int mb_, .ref q9])), (q1, .inl (ct.2.2, 9, .inl am)), (q2, .inl (ct.1, 240, .inr (.inl ac))), (q3, .inl (ct.1, 240, .inr (.inl al))), (q4, .inl (ct.2.2, 40, .inl ay)), (q5, .inl (ct.2.2, 40, .inl as_)), (q6, .inl (ct.1, 6, .inr (.inl ax))), (q7, .inl (ct.1, 3000, .inr (.inl au))), (q8, .inl (ct.2.2, 500, .inl ao)), (q9, .inl (ct.1, 3000, .inr (.inl at_)))] : va_W) ++ wt)  h0 h1 h2 h3 h5 h4 h6 ca ta la td lw sy sh kn ro sz fc_ fn_ rp sq gc_ gn_ ra rb rc rx ry rz rs (xs (li + (1 : Int32)).toNatClampNeg) (xs (li + (2 : Int32)).toNatClampNeg) (xs (li + (3 : Int32)).toNatClampNeg) (xs (li + (4 : Int32)).toNatClampNeg)  hk40 (hpool.app _) _ e_192) (cwV 4 htg (giV tm_368 tm_369 tm_370 tm_31 g_B_common) rfl rfl rfl (by decide +kernel) ⟨Nat.le_of_ble_eq_true rfl, Nat.le_of_ble_eq_true rfl⟩) (preVM hA hS hP hD hKK (va_recv hK hP (ci := 4) (q0 := 0) rfl rfl)) rfl rfl hl.1 rfl (lv_room (Nat.le_of_ble_eq_true rfl)) d_law_357 ⟨show cc + 0 ≤ 600000 by omega, show ss + 0 ≤ 7302250 by omega⟩) hS (fun q _ h9 => h9) (fun q h9 => h9) (fun r9 u9 t9 H locs ht9 hvm9 hw9 hB9 hz9 hk9 hS => ?_)
  obtain ⟨hw8, hw9⟩ := Prod.mk.inj hw9
  rw [hw8]
  rw [hw9] at hB9
  obtain ⟨hP, hD⟩ := hB9
  rw [ht9] at hP
  have hP : va_P D classes ([(h0, .inr (4, [.ref h1, .ref h2, .ref h3, .ref h5, .int (nI kn)])), (h1, .inl (ct.2.1, 40, .inr (.inr (.inr (.inr (cfun kn ca)))))), (h2, .inr (1, [.long ra_185, .long rb_186, .long rc_187, .long rx_188, .long ry_189, .long rz_190, .int rs_191])), (h3, .inr (2, [.ref h2, .ref h4, .int sz_178, .int fc__179, .int fn__180])), (h4, .inl (ct.1, 3185, .inr (.inl ro_177))), (h5, .inr (2, [.ref h2, .ref h6, .int sq_182, .int gc__183, .int gn__184])), (h6, .inl (ct.1, 3185, .inr (.inl rp_181))), (g0, .inr (5, [.ref q1, .ref q2, .ref q3, .ref q4, .ref q5, .int cm, .int stp, .ref q6, .ref q7, .ref q8, .int mus, .int mc_, .int mb_, .ref q9])), (q1, .inl (ct.2.2, 9, .inl am)), (q2, .inl (ct.1, 240, .inr (.inl ac))), (q3, .inl (ct.1, 240, .inr (.inl al))), (q4, .inl (ct.2.2, 40, .inl ay)), (q5, .inl (ct.2.2, 40, .inl as_)), (q6, .inl (ct.1, 6, .inr (.inl ax))), (q7, .inl (ct.1, 3000, .inr (.inl au))), (q8, .inl (ct.2.2, 500, .inl ao)), (q9, .inl (ct.1, 3000, .inr (.inl at_)))] ++ wt) H := hP
  have hD : va_D (fun q : Nat => s.heap.size ≤ q) ([(h0, .inr (4, [.ref h1, .ref h2, .ref h3, .ref h5, .int (nI kn)])), (h1, .inl (ct.2.1, 40, .inr (.inr (.inr (.inr (cfun kn ca)))))), (h2, .inr (1, [.long ra_185, .long rb_186, .long rc_187, .long rx_188, .long ry_189, .long rz_190, .int rs_191])), (h3, .inr (2, [.ref h2, .ref h4, .int sz_178, .int fc__179, .int fn__180])), (h4, .inl (ct.1, 3185, .inr (.inl ro_177))), (h5, .inr (2, [.ref h2, .ref h6, .int sq_182, .int gc__183, .int gn__184])), (h6, .inl (ct.1, 3185, .inr (.inl rp_181))), (g0, .inr (5, [.ref q1, .ref q2, .ref q3, .ref q4, .ref q5, .int cm, .int stp, .ref q6, .ref q7, .ref q8, .int mus, .int mc_, .int mb_, .ref q9])), (q1, .inl (ct.2.2, 9, .inl am)), (q2, .inl (ct.1, 240, .inr (.inl ac))), (q3, .inl (ct.1, 240, .inr (.inl al))), (q4, .inl (ct.2.2, 40, .inl ay)), (q5, .inl (ct.2.2, 40, .inl as_)), (q6, .inl (ct.1, 6, .inr (.inl ax))), (q7, .inl (ct.1, 3000, .inr (.inl au))), (q8, .inl (ct.2.2, 500, .inl ao)), (q9, .inl (ct.1, 3000, .inr (.inl at_)))] ++ wt) := hD
  refine lv_aload_n hx hb d_law_360 rfl (lv_at hl 3 rfl) ?_
  refine lv_aload_n hx hb d_law_361 rfl (lv_at hl 1 rfl) ?_
  refine lv_iload_n hx hb d_law_362 rfl (lv_at hl 0 rfl) ?_
  refine lv_iconst (v := (1 : Int32)) hx hb d_law_363 (by decide) ?_
  refine lv_iadd hx hb d_law_364 ?_
  by_cases b_193 : inb (li + (1 : Int32)) L = true
  rotate_left
  · rw [if_neg b_193] at h; cases h
  rw [if_pos b_193] at h
  refine va_sld hx hb hX hbl hbA hS (inb_in b_193) d_law_365 ?_
  refine lv_aload_n hx hb d_law_366 rfl (lv_at hl 1 rfl) ?_
  refine lv_iload_n hx hb d_law_367 rfl (lv_at hl 0 rfl) ?_
  refine lv_iconst (v := (2 : Int32)) hx hb d_law_368 (by decide) ?_
  refine lv_iadd hx hb d_law_369 ?_
  by_cases b_194 : inb (li + (2 : Int32)) L = true
  rotate_left
  · rw [if_neg b_194] at h; cases h
  rw [if_pos b_194] at h
  refine va_sld hx hb hX hbl hbA hS (inb_in b_194) d_law_370 ?_
  refine lv_aload_n hx hb d_law_371 rfl (lv_at hl 1 rfl) ?_
  refine lv_iload_n hx hb d_law_372 rfl (lv_at hl 0 rfl) ?_
  refine lv_iconst (v := (3 : Int32)) hx hb d_law_373 (by decide) ?_
  refine lv_iadd hx hb d_law_374 ?_
  by_cases b_195 : inb (li + (3 : Int32)) L = true
  rotate_left
  · rw [if_neg b_195] at h; cases h
  rw [if_pos b_195] at h
  refine va_sld hx hb hX hbl hbA hS (inb_in b_195) d_law_375 ?_
  refine lv_aload_n hx hb d_law_376 rfl (lv_at hl 1 rfl) ?_
  refine lv_iload_n hx hb d_law_377 rfl (lv_at hl 0 rfl) ?_
  refine lv_iconst (v := (4 : Int32)) hx hb d_law_378 (by decide) ?_
  refine lv_iadd hx hb d_law_379 ?_
  by_cases b_196 : inb (li + (4 : Int32)) L = true
  rotate_left
  · rw [if_neg b_196] at h; cases h
  rw [if_pos b_196] at h
  refine va_sld hx hb hX hbl hbA hS (inb_in b_196) d_law_380 ?_
  have hP := va_P.part (cx := [(g0, .inr (5, [.ref q1, .ref q2, .ref q3, .ref q4, .ref q5, .int cm, .int stp, .ref q6, .ref q7, .ref q8, .int mus, .int mc_, .int mb_, .ref q9])), (q2, .inl (ct.1, 240, .inr (.inl ac))), (q6, .inl (ct.1, 6, .inr (.inl ax))), (q7, .inl (ct.1, 3000, .inr (.inl au))), (q8, .inl (ct.2.2, 500, .inl ao)), (q9, .inl (ct.1, 3000, .inr (.inl at_))), (h0, .inr (4, [.ref h1, .ref h2, .ref h3, .ref h5, .int (nI kn)])), (h1, .inl (ct.2.1, 40, .inr (.inr (.inr (.inr (cfun kn ca)))))), (h2, .inr (1, [.long ra_185, .long rb_186, .long rc_187, .long rx_188, .long ry_189, .long rz_190, .int rs_191])), (h3, .inr (2, [.ref h2, .ref h4, .int sz_178, .int fc__179, .int fn__180])), (h4, .inl (ct.1, 3185, .inr (.inl ro_177))), (h5, .inr (2, [.ref h2, .ref h6, .int sq_182, .int gc__183, .int gn__184])), (h6, .inl (ct.1, 3185, .inr (.inl rp_181))), (q1, .inl (ct.2.2, 9, .inl am)), (q3, .inl (ct.1, 240, .inr (.inl al))), (q4, .inl (ct.2.2, 40, .inl ay)), (q5, .inl (ct.2.2, 40, .inl as_))]) hP [7, 9, 13, 14, 15, 16, 0, 1, 2, 3, 4, 5, 6, 8, 10, 11, 12] rfl
  have hD := va_D.part (cx := [(g0, .inr (5, [.ref q1, .ref q2, .ref q3, .ref q4, .ref q5, .int cm, .int stp, .ref q6, .ref q7, .ref q8, .int mus, .int mc_, .int mb_, .ref q9])), (q2, .inl (ct.1, 240, .inr (.inl ac))), (q6, .inl (ct.1, 6, .inr (.inl ax))), (q7, .inl (ct.1, 3000, .inr (.inl au))), (q8, .inl (ct.2.2, 500, .inl ao)), (q9, .inl (ct.1, 3000, .inr (.inl at_))), (h0, .inr (4, [.ref h1, .ref h2, .ref h3, .ref h5, .int (nI kn)])), (h1, .inl (ct.2.1, 40, .inr (.inr (.inr (.inr (cfun kn ca)))))), (h2, .inr (1, [.long ra_185, .long rb_186, .long rc_187, .long rx_188, .long ry_189, .long rz_190, .int rs_191])), (h3, .inr (2, [.ref h2, .ref h4, .int sz_178, .int fc__179, .int fn__180])), (h4, .inl (ct.1, 3185, .inr (.inl ro_177))), (h5, .inr (2, [.ref h2, .ref h6, .int sq_182, .int gc__183, .int gn__184])), (h6, .inl (ct.1, 3185, .inr (.inl rp_181))), (q1, .inl (ct.2.2, 9, .inl am)), (q3, .inl (ct.1, 240, .inr (.inl al))), (q4, .inl (ct.2.2, 40, .inl ay)), (q5, .inl (ct.2.2, 40, .inl as_))]) hD [7, 9, 13, 14, 15, 16, 0, 1, 2, 3, 4, 5, 6, 8, 10, 11, 12] (by decide) rfl
  rcases e_206 : f_M_common cm ac stp mus ax au ao mc_ mb_ at_ (xs (li + (1 : Int32)).toNatClampNeg) (xs (li + (2 : Int32)).toNatClampNeg) (xs (li + (3 : Int32)).toNatClampNeg) (xs (li + (4 : Int32)).toNatClampNeg) with _ | ⟨r_197, stp_198, mus_199, ax_200, au_201, ao_202, mc__203, mb__204, at__205⟩
  · rw [e_206] at h; cases h
  rw [e_206, Option.bind_some] at h
  try dsimp only at h
  refine va_calli (va_runV (As := [.int (xs (li + (1 : Int32)).toNatClampNeg), .int (xs (li + (2 : Int32)).toNatClampNeg), .int (xs (li + (3 : Int32)).toNatClampNeg), .int (xs (li + (4 : Int32)).toNatClampNeg)]) (rest := [.int r_176]) ⟨hx, hb, hml, hown, htg⟩ (c_M_common l D ct (fun q : Nat => s.heap.size ≤ q) (([(h0, .inr (4, [.ref h1, .ref h2, .ref h3, .ref h5, .int (nI kn)])), (h1, .inl (ct.2.1, 40, .inr (.inr (.inr (.inr (cfun kn ca)))))), (h2, .inr (1, [.long ra_185, .long rb_186, .long rc_187, .long rx_188, .long ry_189, .long rz_190, .int rs_191])), (h3, .inr (2, [.ref h2, .ref h4, .int sz_178, .int fc__179, .int fn__180])), (h4, .inl (ct.1, 3185, .inr (.inl ro_177))), (h5, .inr (2, [.ref h2, .ref h6, .int sq_182, .int gc__183, .int gn__184])), (h6, .inl (ct.1, 3185, .inr (.inl rp_181))), (q1, .inl (ct.2.2, 9, .inl am)), (q3, .inl (ct.1, 240, .inr (.inl al))), (q4, .inl (ct.2.2, 40, .inl ay)), (q5, .inl (ct.2.2, 40, .inl as_))] : va_W) ++ wt)  g0 q1 q2 q3 q4 q5 q6 q7 q8 q9 cm stp mus mc_ mb_ ac ax au ao at_ (xs (li + (1 : Int32)).toNatClampNeg) (xs (li + (2 : Int32)).toNatClampNeg) (xs (li + (3 : Int32)).toNatClampNeg) (xs (li + (4 : Int32)).toNatClampNeg)   _ e_206) (cwV 4 htg (giV tm_526 tm_527 tm_528 tm_34 g_M_common) rfl rfl rfl (by decide +kernel) ⟨Nat.le_of_ble_eq_true rfl, Nat.le_of_ble_eq_true rfl⟩) (preVM hA hS hP hD hKK (va_recv hK hP (ci := 5) (q0 := 0) rfl rfl)) rfl rfl hl.1 rfl (lv_room (Nat.le_of_ble_eq_true rfl)) d_law_381 ⟨show cc + 0 ≤ 600000 by omega, show ss + 0 ≤ 7302250 by omega⟩) hS (fun q _ h9 => h9) (fun q h9 => h9) (fun r9 u9 t9 H locs ht9 hvm9 hw9 hB9 hz9 hk9 hS => ?_)
  obtain ⟨hw8, hw9⟩ := Prod.mk.inj hw9
  rw [hw8]
  rw [hw9] at hB9
  obtain ⟨hP, hD⟩ := hB9
  rw [ht9] at hP
  have hP : va_P D classes ([(g0, .inr (5, [.ref q1, .ref q2, .ref q3, .ref q4, .ref q5, .int cm, .int stp_198, .ref q6, .ref q7, .ref q8, .int mus_199, .int mc__203, .int mb__204, .ref q9])), (q2, .inl (ct.1, 240, .inr (.inl ac))), (q6, .inl (ct.1, 6, .inr (.inl ax_200))), (q7, .inl (ct.1, 3000, .inr (.inl au_201))), (q8, .inl (ct.2.2, 500, .inl ao_202)), (q9, .inl (ct.1, 3000, .inr (.inl at__205))), (h0, .inr (4, [.ref h1, .ref h2, .ref h3, .ref h5, .int (nI kn)])), (h1, .inl (ct.2.1, 40, .inr (.inr (.inr (.inr (cfun kn ca)))))), (h2, .inr (1, [.long ra_185, .long rb_186, .long rc_187, .long rx_188, .long ry_189, .long rz_190, .int rs_191])), (h3, .inr (2, [.ref h2, .ref h4, .int sz_178, .int fc__179, .int fn__180])), (h4, .inl (ct.1, 3185, .inr (.inl ro_177))), (h5, .inr (2, [.ref h2, .ref h6, .int sq_182, .int gc__183, .int gn__184])), (h6, .inl (ct.1, 3185, .inr (.inl rp_181))), (q1, .inl (ct.2.2, 9, .inl am)), (q3, .inl (ct.1, 240, .inr (.inl al))), (q4, .inl (ct.2.2, 40, .inl ay)), (q5, .inl (ct.2.2, 40, .inl as_))] ++ wt) H := hP
  have hD : va_D (fun q : Nat => s.heap.size ≤ q) ([(g0, .inr (5, [.ref q1, .ref q2, .ref q3, .ref q4, .ref q5, .int cm, .int stp_198, .ref q6, .ref q7, .ref q8, .int mus_199, .int mc__203, .int mb__204, .ref q9])), (q2, .inl (ct.1, 240, .inr (.inl ac))), (q6, .inl (ct.1, 6, .inr (.inl ax_200))), (q7, .inl (ct.1, 3000, .inr (.inl au_201))), (q8, .inl (ct.2.2, 500, .inl ao_202)), (q9, .inl (ct.1, 3000, .inr (.inl at__205))), (h0, .inr (4, [.ref h1, .ref h2, .ref h3, .ref h5, .int (nI kn)])), (h1, .inl (ct.2.1, 40, .inr (.inr (.inr (.inr (cfun kn ca)))))), (h2, .inr (1, [.long ra_185, .long rb_186, .long rc_187, .long rx_188, .long ry_189, .long rz_190, .int rs_191])), (h3, .inr (2, [.ref h2, .ref h4, .int sz_178, .int fc__179, .int fn__180])), (h4, .inl (ct.1, 3185, .inr (.inl ro_177))), (h5, .inr (2, [.ref h2, .ref h6, .int sq_182, .int gc__183, .int gn__184])), (h6, .inl (ct.1, 3185, .inr (.inl rp_181))), (q1, .inl (ct.2.2, 9, .inl am)), (q3, .inl (ct.1, 240, .inr (.inl al))), (q4, .inl (ct.2.2, 40, .inl ay)), (q5, .inl (ct.2.2, 40, .inl as_))] ++ wt) := hD
  refine lv_icmp_eq (tgt := 506) hx hb d_law_384 (by decide) (fun c_207 => ?_) (fun c_207 => ?_)
  · rw [if_pos c_207] at h
    refine lv_iinc (v := li + (7 : Int32)) (lv' := [(3, .int (li + (7 : Int32))), (0, .ref b), (1, .ref h0), (2, .ref g0)]) hx hb d_law_506 hl (k := 0) rfl rfl (by decide) rfl (fun ls hl => ?_)
    refine lv_goto (tgt := 18) hx hb d_law_509 (by decide) ?_
    have hP := va_P.part (cx := [(h0, .inr (4, [.ref h1, .ref h2, .ref h3, .ref h5, .int (nI kn)])), (h1, .inl (ct.2.1, 40, .inr (.inr (.inr (.inr (cfun kn ca)))))), (h2, .inr (1, [.long ra_185, .long rb_186, .long rc_187, .long rx_188, .long ry_189, .long rz_190, .int rs_191])), (h3, .inr (2, [.ref h2, .ref h4, .int sz_178, .int fc__179, .int fn__180])), (h4, .inl (ct.1, 3185, .inr (.inl ro_177))), (h5, .inr (2, [.ref h2, .ref h6, .int sq_182, .int gc__183, .int gn__184])), (h6, .inl (ct.1, 3185, .inr (.inl rp_181))), (g0, .inr (5, [.ref q1, .ref q2, .ref q3, .ref q4, .ref q5, .int cm, .int stp_198, .ref q6, .ref q7, .ref q8, .int mus_199, .int mc__203, .int mb__204, .ref q9])), (q1, .inl (ct.2.2, 9, .inl am)), (q2, .inl (ct.1, 240, .inr (.inl ac))), (q3, .inl (ct.1, 240, .inr (.inl al))), (q4, .inl (ct.2.2, 40, .inl ay)), (q5, .inl (ct.2.2, 40, .inl as_)), (q6, .inl (ct.1, 6, .inr (.inl ax_200))), (q7, .inl (ct.1, 3000, .inr (.inl au_201))), (q8, .inl (ct.2.2, 500, .inl ao_202)), (q9, .inl (ct.1, 3000, .inr (.inl at__205)))]) hP [6, 7, 8, 9, 10, 11, 12, 0, 13, 1, 14, 15, 16, 2, 3, 4, 5] rfl
    have hD := va_D.part (cx := [(h0, .inr (4, [.ref h1, .ref h2, .ref h3, .ref h5, .int (nI kn)])), (h1, .inl (ct.2.1, 40, .inr (.inr (.inr (.inr (cfun kn ca)))))), (h2, .inr (1, [.long ra_185, .long rb_186, .long rc_187, .long rx_188, .long ry_189, .long rz_190, .int rs_191])), (h3, .inr (2, [.ref h2, .ref h4, .int sz_178, .int fc__179, .int fn__180])), (h4, .inl (ct.1, 3185, .inr (.inl ro_177))), (h5, .inr (2, [.ref h2, .ref h6, .int sq_182, .int gc__183, .int gn__184])), (h6, .inl (ct.1, 3185, .inr (.inl rp_181))), (g0, .inr (5, [.ref q1, .ref q2, .ref q3, .ref q4, .ref q5, .int cm, .int stp_198, .ref q6, .ref q7, .ref q8, .int mus_199, .int mc__203, .int mb__204, .ref q9])), (q1, .inl (ct.2.2, 9, .inl am)), (q2, .inl (ct.1, 240, .inr (.inl ac))), (q3, .inl (ct.1, 240, .inr (.inl al))), (q4, .inl (ct.2.2, 40, .inl ay)), (q5, .inl (ct.2.2, 40, .inl as_)), (q6, .inl (ct.1, 6, .inr (.inl ax_200))), (q7, .inl (ct.1, 3000, .inr (.inl au_201))), (q8, .inl (ct.2.2, 500, .inl ao_202)), (q9, .inl (ct.1, 3000, .inr (.inl at__205)))]) hD [6, 7, 8, 9, 10, 11, 12, 0, 13, 1, 14, 15, 16, 2, 3, 4, 5] (by decide) rfl
    exact ih (li + (7 : Int32)) kn td lw sy sh ro_177 sz_178 fc__179 fn__180 rp_181 sq_182 gc__183 gn__184 ra_185 rb_186 rc_187 rx_188 ry_189 rz_190 rs_191 cm stp_198 mus_199 mc__203 mb__204 am ac al ay as_ ax_200 au_201 ao_202 at__205 h h0 h1 h2 h3 h4 h5 h6 g0 q1 q2 q3 q4 q5 q6 q7 q8 q9 ca ta la wt _ _ cc ss (by omega) (by omega) hk40 hpool hP hD hS ls (lv_sub hl [0, 1, 2, 3] rfl)
  · rw [if_neg c_207] at h
    refine lv_iconst (v := (0 : Int32)) hx hb d_law_387 (by decide) ?_
    exact absurd (Option.some.inj h) (by decide)
