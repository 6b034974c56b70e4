def lp_law (L : Nat) (xs : Nat → Int32) : Nat → Int32 → Nat → (Nat → P6) → (Nat → P6) → (Nat → Int32) → (Nat → Int32) → (Nat → Int64) → Int32 → Int32 → Int32 → (Nat → Int64) → Int32 → Int32 → Int32 → Int64 → Int64 → Int64 → Int64 → Int64 → Int64 → Int32 → Int32 → Int32 → Int32 → Int32 → Int32 → (Nat → Int32) → (Nat → Int64) → (Nat → Int64) → (Nat → Int32) → (Nat → Int32) → (Nat → Int64) → (Nat → Int64) → (Nat → Int32) → (Nat → Int64) → Option Int32
  | 0, _, _, _, _, _, _, _, _, _, _, _, _, _, _, _, _, _, _, _, _, _, _, _, _, _, _, _, _, _, _, _, _, _, _, _ => none
  | n + 1, li, kn, td, lw, sy, sh, ro, sz, fc_, fn_, rp, sq, gc_, gn_, ra, rb, rc, rx, ry, rz, rs, cm, stp, mus, mc_, mb_, am, ac, al, ay, as_, ax, au, ao, at_ =>
    if ((Int32.ofNat L) - (7 : Int32)) < li then (some (1 : Int32)) else (if inb li L = true then (if ((xs li.toNatClampNeg) &&& (15 : Int32)) = (0 : Int32) then (lk_0 L xs (lp_law L xs n) li kn td lw sy sh ro sz fc_ fn_ rp sq gc_ gn_ ra rb rc rx ry rz rs cm stp mus mc_ mb_ am ac al ay as_ ax au ao at_) else (if ((xs li.toNatClampNeg) &&& (15 : Int32)) = (1 : Int32) then (lk_1 L xs (lp_law L xs n) li kn td lw sy sh ro sz fc_ fn_ rp sq gc_ gn_ ra rb rc rx ry rz rs cm stp mus mc_ mb_ am ac al ay as_ ax au ao at_) else (if ((xs li.toNatClampNeg) &&& (15 : Int32)) = (2 : Int32) then (lk_2 L xs (lp_law L xs n) li kn td lw sy sh ro sz fc_ fn_ rp sq gc_ gn_ ra rb rc rx ry rz rs cm stp mus mc_ mb_ am ac al ay as_ ax au ao at_) else (if ((xs li.toNatClampNeg) &&& (15 : Int32)) = (3 : Int32) then (lk_3 L xs (lp_law L xs n) li kn td lw sy sh ro sz fc_ fn_ rp sq gc_ gn_ ra rb rc rx ry rz rs cm stp mus mc_ mb_ am ac al ay as_ ax au ao at_) else (if ((xs li.toNatClampNeg) &&& (15 : Int32)) = (4 : Int32) then (lk_4 L xs (lp_law L xs n) li kn td lw sy sh ro sz fc_ fn_ rp sq gc_ gn_ ra rb rc rx ry rz rs cm stp mus mc_ mb_ am ac al ay as_ ax au ao at_) else (if ((xs li.toNatClampNeg) &&& (15 : Int32)) = (5 : Int32) then (lk_5 L xs (lp_law L xs n) li kn td lw sy sh ro sz fc_ fn_ rp sq gc_ gn_ ra rb rc rx ry rz rs cm stp mus mc_ mb_ am ac al ay as_ ax au ao at_) else (if ((xs li.toNatClampNeg) &&& (15 : Int32)) = (6 : Int32) then (lk_6 L xs (lp_law L xs n) li kn td lw sy sh ro sz fc_ fn_ rp sq gc_ gn_ ra rb rc rx ry rz rs cm stp mus mc_ mb_ am ac al ay as_ ax au ao at_) else (if ((xs li.toNatClampNeg) &&& (15 : Int32)) = (7 : Int32) then (lk_7 L xs (lp_law L xs n) li kn td lw sy sh ro sz fc_ fn_ rp sq gc_ gn_ ra rb rc rx ry rz rs cm stp mus mc_ mb_ am ac al ay as_ ax au ao at_) else (if ((xs li.toNatClampNeg) &&& (15 : Int32)) = (8 : Int32) then (lk_8 L xs (lp_law L xs n) li kn td lw sy sh ro sz fc_ fn_ rp sq gc_ gn_ ra rb rc rx ry rz rs cm stp mus mc_ mb_ am ac al ay as_ ax au ao at_) else (lp_law L xs n (li + (7 : Int32)) kn td lw sy sh ro sz fc_ fn_ rp sq gc_ gn_ ra rb rc rx ry rz rs cm stp mus mc_ mb_ am ac al ay as_ ax au ao at_)))))))))) else none)
set_option maxHeartbeats 16000000 in
set_option maxRecDepth 100000 in
/-- the law's loop: where the pure function says 1, the law answers 1 -/
theorem law_loop {p : Program} {l : Launch} {e : Env} {s : State} {m : MethodId} {below : List Frame} {meth : Method} {c : Code} {D : va_G} {ct : CT} {b L : Nat} {xs : Nat → Int32} (C0 : lw_At p s m meth c b L xs) (hKK : KK D ct s) : ∀ (n : Nat), LawIH p l e s m below meth c D ct b n (lp_law L xs n) := by
  have C1 := C0
  obtain ⟨hx, hb, hr, hml, hown, hts, hX, hbl, hlocks, hgv⟩ := C1
  have hA : ∀ q : Nat, s.heap.size ≤ q → (fun q : Nat => s.heap.size ≤ q) q := fun _ h => h
  have hbA : ¬ (fun q : Nat => s.heap.size ≤ q) b := Nat.not_le.mpr hbl
  have htg : ∀ w ∈ GW, w.before #[Value.ref b] s = true := fun w hw => hts w (List.mem_filter.mp hw).1
  have hK := hKK.1
  intro n
  induction n with
  | zero =>
    unfold LawIH
    intro li kn td lw sy sh ro sz fc_ fn_ rp sq gc_ gn_ ra rb rc rx ry rz rs cm stp mus mc_ mb_ am ac al ay as_ ax au ao at_ h
    rw [lp_law] at h
    cases h
  | succ n ih =>
    have ih0 := ih
    unfold LawIH at ih0 ⊢
    intro li kn td lw sy sh ro sz fc_ fn_ rp sq gc_ gn_ ra rb rc rx ry rz rs cm stp mus mc_ mb_ am ac al ay as_ ax au ao at_ h h0 h1 h2 h3 h4 h5 h6 g0 q1 q2 q3 q4 q5 q6 q7 q8 q9 ca ta la wt H locs cc ss hcc hss hk40 hpool hP hD hS ls hl
    rw [lp_law] at h
    refine lv_iload_n hx hb d_law_18 rfl (lv_at hl 0 rfl) ?_
    refine lv_aload_n hx hb d_law_19 rfl (lv_at hl 1 rfl) ?_
    refine va_slen hx hb hX hbl hbA hS d_law_20 ?_
    refine lv_bipush (v := (7 : Int32)) hx hb d_law_21 (by decide) ?_
    refine lv_isub hx hb d_law_23 ?_
    refine lv_icmp_gt (tgt := 512) hx hb d_law_24 (by decide) (fun c_1 => ?_) (fun c_1 => ?_)
    · rw [if_pos c_1] at h
      refine lv_iconst (v := (1 : Int32)) hx hb d_law_512 (by decide) ?_
      refine va_forget (fun q hq => hS.2.2 q hq) ?_
      refine W.widen (k := 600000) (n := 7302250) (by omega) (by omega) ?_
      exact lw_ret hx hb hr hlocks d_law_513
    · rw [if_neg c_1] at h
      refine lv_aload_n hx hb d_law_27 rfl (lv_at hl 1 rfl) ?_
      refine lv_iload_n hx hb d_law_28 rfl (lv_at hl 0 rfl) ?_
      by_cases b_2 : inb li L = true
      rotate_left
      · rw [if_neg b_2] at h; cases h
      rw [if_pos b_2] at h
      refine va_sld hx hb hX hbl hbA hS (inb_in b_2) d_law_29 ?_
      refine lv_bipush (v := (15 : Int32)) hx hb d_law_30 (by decide) ?_
      refine lv_iand hx hb d_law_32 ?_
      by_cases c_3 : ((xs li.toNatClampNeg) &&& (15 : Int32)) = (0 : Int32)
      · rw [if_pos c_3] at h
        refine lv_tableIn (off := 51) (tgt := 84) hx hb d_law_33 (by rw [c_3]; decide) (by rw [c_3]; decide) (by rw [c_3]; rfl) (by decide) ?_
        exact law_0 C0 hKK n _ ih li kn td lw sy sh ro sz fc_ fn_ rp sq gc_ gn_ ra rb rc rx ry rz rs cm stp mus mc_ mb_ am ac al ay as_ ax au ao at_ h h0 h1 h2 h3 h4 h5 h6 g0 q1 q2 q3 q4 q5 q6 q7 q8 q9 ca ta la wt H locs cc ss hcc hss hk40 hpool hP hD hS ls hl
      rw [if_neg c_3] at h
      by_cases c_72 : ((xs li.toNatClampNeg) &&& (15 : Int32)) = (1 : Int32)
      · rw [if_pos c_72] at h
        refine lv_tableIn (off := 126) (tgt := 159) hx hb d_law_33 (by rw [c_72]; decide) (by rw [c_72]; decide) (by rw [c_72]; rfl) (by decide) ?_
        exact law_1 C0 hKK n _ ih li kn td lw sy sh ro sz fc_ fn_ rp sq gc_ gn_ ra rb rc rx ry rz rs cm stp mus mc_ mb_ am ac al ay as_ ax au ao at_ h h0 h1 h2 h3 h4 h5 h6 g0 q1 q2 q3 q4 q5 q6 q7 q8 q9 ca ta la wt H locs cc ss hcc hss hk40 hpool hP hD hS ls hl
      rw [if_neg c_72] at h
      by_cases c_84 : ((xs li.toNatClampNeg) &&& (15 : Int32)) = (2 : Int32)
      · rw [if_pos c_84] at h
        refine lv_tableIn (off := 160) (tgt := 193) hx hb d_law_33 (by rw [c_84]; decide) (by rw [c_84]; decide) (by rw [c_84]; rfl) (by decide) ?_
        exact law_2 C0 hKK n _ ih li kn td lw sy sh ro sz fc_ fn_ rp sq gc_ gn_ ra rb rc rx ry rz rs cm stp mus mc_ mb_ am ac al ay as_ ax au ao at_ h h0 h1 h2 h3 h4 h5 h6 g0 q1 q2 q3 q4 q5 q6 q7 q8 q9 ca ta la wt H locs cc ss hcc hss hk40 hpool hP hD hS ls hl
      rw [if_neg c_84] at h
      by_cases c_97 : ((xs li.toNatClampNeg) &&& (15 : Int32)) = (3 : Int32)
      · rw [if_pos c_97] at h
        refine lv_tableIn (off := 193) (tgt := 226) hx hb d_law_33 (by rw [c_97]; decide) (by rw [c_97]; decide) (by rw [c_97]; rfl) (by decide) ?_
        exact law_3 C0 hKK n _ ih li kn td lw sy sh ro sz fc_ fn_ rp sq gc_ gn_ ra rb rc rx ry rz rs cm stp mus mc_ mb_ am ac al ay as_ ax au ao at_ h h0 h1 h2 h3 h4 h5 h6 g0 q1 q2 q3 q4 q5 q6 q7 q8 q9 ca ta la wt H locs cc ss hcc hss hk40 hpool hP hD hS ls hl
      rw [if_neg c_97] at h
      by_cases c_107 : ((xs li.toNatClampNeg) &&& (15 : Int32)) = (4 : Int32)
      · rw [if_pos c_107] at h
        refine lv_tableIn (off := 216) (tgt := 249) hx hb d_law_33 (by rw [c_107]; decide) (by rw [c_107]; decide) (by rw [c_107]; rfl) (by decide) ?_
        exact law_4 C0 hKK n _ ih li kn td lw sy sh ro sz fc_ fn_ rp sq gc_ gn_ ra rb rc rx ry rz rs cm stp mus mc_ mb_ am ac al ay as_ ax au ao at_ h h0 h1 h2 h3 h4 h5 h6 g0 q1 q2 q3 q4 q5 q6 q7 q8 q9 ca ta la wt H locs cc ss hcc hss hk40 hpool hP hD hS ls hl
      rw [if_neg c_107] at h
      by_cases c_137 : ((xs li.toNatClampNeg) &&& (15 : Int32)) = (5 : Int32)
      · rw [if_pos c_137] at h
        refine lv_tableIn (off := 249) (tgt := 282) hx hb d_law_33 (by rw [c_137]; decide) (by rw [c_137]; decide) (by rw [c_137]; rfl) (by decide) ?_
        exact law_5 C0 hKK n _ ih li kn td lw sy sh ro sz fc_ fn_ rp sq gc_ gn_ ra rb rc rx ry rz rs cm stp mus mc_ mb_ am ac al ay as_ ax au ao at_ h h0 h1 h2 h3 h4 h5 h6 g0 q1 q2 q3 q4 q5 q6 q7 q8 q9 ca ta la wt H locs cc ss hcc hss hk40 hpool hP hD hS ls hl
      rw [if_neg c_137] at h
      by_cases c_171 : ((xs li.toNatClampNeg) &&& (15 : Int32)) = (6 : Int32)
      · rw [if_pos c_171] at h
        refine lv_tableIn (off := 303) (tgt := 336) hx hb d_law_33 (by rw [c_171]; decide) (by rw [c_171]; decide) (by rw [c_171]; rfl) (by decide) ?_
        exact law_6 C0 hKK n _ ih li kn td lw sy sh ro sz fc_ fn_ rp sq gc_ gn_ ra rb rc rx ry rz rs cm stp mus mc_ mb_ am ac al ay as_ ax au ao at_ h h0 h1 h2 h3 h4 h5 h6 g0 q1 q2 q3 q4 q5 q6 q7 q8 q9 ca ta la wt H locs cc ss hcc hss hk40 hpool hP hD hS ls hl
      rw [if_neg c_171] at h
      by_cases c_210 : ((xs li.toNatClampNeg) &&& (15 : Int32)) = (7 : Int32)
      · rw [if_pos c_210] at h
        refine lv_tableIn (off := 356) (tgt := 389) hx hb d_law_33 (by rw [c_210]; decide) (by rw [c_210]; decide) (by rw [c_210]; rfl) (by decide) ?_
        exact law_7 C0 hKK n _ ih li kn td lw sy sh ro sz fc_ fn_ rp sq gc_ gn_ ra rb rc rx ry rz rs cm stp mus mc_ mb_ am ac al ay as_ ax au ao at_ h h0 h1 h2 h3 h4 h5 h6 g0 q1 q2 q3 q4 q5 q6 q7 q8 q9 ca ta la wt H locs cc ss hcc hss hk40 hpool hP hD hS ls hl
      rw [if_neg c_210] at h
      by_cases c_226 : ((xs li.toNatClampNeg) &&& (15 : Int32)) = (8 : Int32)
      · rw [if_pos c_226] at h
        refine lv_tableIn (off := 410) (tgt := 443) hx hb d_law_33 (by rw [c_226]; decide) (by rw [c_226]; decide) (by rw [c_226]; rfl) (by decide) ?_
        exact law_8 C0 hKK n _ ih li kn td lw sy sh ro sz fc_ fn_ rp sq gc_ gn_ ra rb rc rx ry rz rs cm stp mus mc_ mb_ am ac al ay as_ ax au ao at_ h h0 h1 h2 h3 h4 h5 h6 g0 q1 q2 q3 q4 q5 q6 q7 q8 q9 ca ta la wt H locs cc ss hcc hss hk40 hpool hP hD hS ls hl
      rw [if_neg c_226] at h
      refine lv_tableOut (tgt := 506) hx hb d_law_33 (by have z0 := lv_neT (a := 0) c_3 (by decide); have z1 := lv_neT (a := 1) c_72 (by decide); have z2 := lv_neT (a := 2) c_84 (by decide); have z3 := lv_neT (a := 3) c_97 (by decide); have z4 := lv_neT (a := 4) c_107 (by decide); have z5 := lv_neT (a := 5) c_137 (by decide); have z6 := lv_neT (a := 6) c_171 (by decide); have z7 := lv_neT (a := 7) c_210 (by decide); have z8 := lv_neT (a := 8) c_226 (by decide); omega) (by decide) ?_
      refine lv_iinc (v := li + (7 : Int32)) (lv' := [(3, .int (li + (7 : Int32))), (0, .ref b), (1, .ref h0), (2, .ref g0)]) hx hb d_law_506 hl (k := 0) rfl rfl (by decide) rfl (fun ls hl => ?_)
      refine lv_goto (tgt := 18) hx hb d_law_509 (by decide) ?_
      exact ih0 (li + (7 : Int32)) kn td lw sy sh ro sz fc_ fn_ rp sq gc_ gn_ ra rb rc rx ry rz rs cm stp mus mc_ mb_ am ac al ay as_ ax au ao at_ h h0 h1 h2 h3 h4 h5 h6 g0 q1 q2 q3 q4 q5 q6 q7 q8 q9 ca ta la wt _ _ cc ss (by omega) (by omega) hk40 hpool hP hD hS ls (lv_sub hl [0, 1, 2, 3] rfl)
