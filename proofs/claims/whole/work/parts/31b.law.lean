def lp_law (L : Nat) (xs : Nat → Int32) : Nat → Int32 → Nat → (Nat → P6) → (Nat → P6) → (Nat → Int32) → (Nat → Int32) → (Nat → Int64) → Int32 → Int32 → Int32 → (Nat → Int64) → Int32 → Int32 → Int32 → Int64 → Int64 → Int64 → Int64 → Int64 → Int64 → Int32 → Int32 → Int32 → Int32 → Int32 → Int32 → (Nat → Int32) → (Nat → Int64) → (Nat → Int64) → (Nat → Int32) → (Nat → Int32) → (Nat → Int64) → (Nat → Int64) → (Nat → Int32) → (Nat → Int64) → Option Int32
  | 0, _, _, _, _, _, _, _, _, _, _, _, _, _, _, _, _, _, _, _, _, _, _, _, _, _, _, _, _, _, _, _, _, _, _, _ => none
  | n + 1, li, kn, td, lw, sy, sh, ro, sz, fc_, fn_, rp, sq, gc_, gn_, ra, rb, rc, rx, ry, rz, rs, cm, stp, mus, mc_, mb_, am, ac, al, ay, as_, ax, au, ao, at_ =>
    if ((Int32.ofNat L) - (7 : Int32)) < li then (some (1 : Int32)) else (if inb li L = true then (if ((xs li.toNatClampNeg) &&& (15 : Int32)) = (0 : Int32) then (if inb (li + (1 : Int32)) L = true then (if inb (li + (2 : Int32)) L = true then (if inb (li + (3 : Int32)) L = true then (if inb (li + (4 : Int32)) L = true then (if inb (li + (5 : Int32)) L = true then (if inb (li + (6 : Int32)) L = true then (Option.bind (f_B_cell kn ra rb rc rx ry rz rs (xs (li + (1 : Int32)).toNatClampNeg) (xs (li + (2 : Int32)).toNatClampNeg) (xs (li + (3 : Int32)).toNatClampNeg) (xs (li + (4 : Int32)).toNatClampNeg) (xs (li + (5 : Int32)).toNatClampNeg) (xs (li + (6 : Int32)).toNatClampNeg)) (fun z_71 => (if z_71.2.1 = 0 then (if inb (li + (1 : Int32)) L = true then (if inb (li + (2 : Int32)) L = true then (if inb (li + (3 : Int32)) L = true then (if inb (li + (4 : Int32)) L = true then (if inb (li + (5 : Int32)) L = true then (if inb (li + (6 : Int32)) L = true then (Option.bind (f_M_cell cm stp am ac al ay as_ ax (xs (li + (1 : Int32)).toNatClampNeg) (xs (li + (2 : Int32)).toNatClampNeg) (xs (li + (3 : Int32)).toNatClampNeg) (xs (li + (4 : Int32)).toNatClampNeg) (xs (li + (5 : Int32)).toNatClampNeg) (xs (li + (6 : Int32)).toNatClampNeg)) (fun z_52 => (if z_71.1 = z_52.1 then (lp_law L xs n (li + (7 : Int32)) kn td lw sy sh ro sz fc_ fn_ rp sq gc_ gn_ z_71.2.2.2.1 z_71.2.2.2.2.1 z_71.2.2.2.2.2.1 z_71.2.2.2.2.2.2.1 z_71.2.2.2.2.2.2.2.1 z_71.2.2.2.2.2.2.2.2.1 z_71.2.2.2.2.2.2.2.2.2.1 z_52.2.1 z_52.2.2.1 mus mc_ mb_ z_52.2.2.2.1 z_52.2.2.2.2.1 z_52.2.2.2.2.2.1 z_52.2.2.2.2.2.2.1 z_52.2.2.2.2.2.2.2.1 z_52.2.2.2.2.2.2.2.2 au ao at_) else (some (0 : Int32))))) else none) else none) else none) else none) else none) else none) else (if inb (li + (1 : Int32)) L = true then (if inb (li + (2 : Int32)) L = true then (if inb (li + (3 : Int32)) L = true then (if inb (li + (4 : Int32)) L = true then (if inb (li + (5 : Int32)) L = true then (if inb (li + (6 : Int32)) L = true then (Option.bind (f_M_cell cm stp am ac al ay as_ ax (xs (li + (1 : Int32)).toNatClampNeg) (xs (li + (2 : Int32)).toNatClampNeg) (xs (li + (3 : Int32)).toNatClampNeg) (xs (li + (4 : Int32)).toNatClampNeg) (xs (li + (5 : Int32)).toNatClampNeg) (xs (li + (6 : Int32)).toNatClampNeg)) (fun z_70 => (if z_71.1 = z_70.1 then (lp_law L xs n (li + (7 : Int32)) kn td lw sy sh ro sz fc_ fn_ rp sq gc_ gn_ z_71.2.2.2.1 z_71.2.2.2.2.1 z_71.2.2.2.2.2.1 z_71.2.2.2.2.2.2.1 z_71.2.2.2.2.2.2.2.1 z_71.2.2.2.2.2.2.2.2.1 z_71.2.2.2.2.2.2.2.2.2.1 z_70.2.1 z_70.2.2.1 mus mc_ mb_ z_70.2.2.2.1 z_70.2.2.2.2.1 z_70.2.2.2.2.2.1 z_70.2.2.2.2.2.2.1 z_70.2.2.2.2.2.2.2.1 z_70.2.2.2.2.2.2.2.2 au ao at_) else (some (0 : Int32))))) else none) else none) else none) else none) else none) else none)))) else none) else none) else none) else none) else none) else none) else (if ((xs li.toNatClampNeg) &&& (15 : Int32)) = (1 : Int32) then (if inb (li + (1 : Int32)) L = true then (if inb (li + (2 : Int32)) L = true then (Option.bind (f_B_reduced td lw sy sh kn (xs (li + (1 : Int32)).toNatClampNeg) (xs (li + (2 : Int32)).toNatClampNeg)) (fun z_83 => (if inb (li + (1 : Int32)) L = true then (if inb (li + (2 : Int32)) L = true then (Option.bind (f_M_reduced cm al ay as_ (xs (li + (1 : Int32)).toNatClampNeg) (xs (li + (2 : Int32)).toNatClampNeg)) (fun z_82 => (if (lg_cmp z_83 z_82) = 0 then (lp_law L xs n (li + (7 : Int32)) kn td lw sy sh ro sz fc_ fn_ rp sq gc_ gn_ ra rb rc rx ry rz rs cm stp mus mc_ mb_ am ac al ay as_ ax au ao at_) else (some (0 : Int32))))) else none) else none))) else none) else none) else (if ((xs li.toNatClampNeg) &&& (15 : Int32)) = (2 : Int32) then (if inb (li + (1 : Int32)) L = true then (if inb (li + (2 : Int32)) L = true then (Option.bind (f_B_keeps td lw sy sh kn (xs (li + (1 : Int32)).toNatClampNeg) (xs (li + (2 : Int32)).toNatClampNeg)) (fun z_96 => (if inb (li + (1 : Int32)) L = true then (if inb (li + (2 : Int32)) L = true then (Option.bind (f_M_keeps cm am ac (xs (li + (1 : Int32)).toNatClampNeg) (xs (li + (2 : Int32)).toNatClampNeg)) (fun z_95 => (if z_96 = z_95.1 then (lp_law L xs n (li + (7 : Int32)) kn td lw sy sh ro sz fc_ fn_ rp sq gc_ gn_ ra rb rc rx ry rz rs cm stp mus mc_ mb_ z_95.2 ac al ay as_ ax au ao at_) else (some (0 : Int32))))) else none) else none))) else none) else none) else (if ((xs li.toNatClampNeg) &&& (15 : Int32)) = (3 : Int32) then (if inb (li + (1 : Int32)) L = true then (Option.bind (f_B_same td lw sy sh kn (xs (li + (1 : Int32)).toNatClampNeg)) (fun z_106 => (if inb (li + (1 : Int32)) L = true then (Option.bind (f_M_same cm al (xs (li + (1 : Int32)).toNatClampNeg)) (fun z_105 => (if z_106 = z_105 then (lp_law L xs n (li + (7 : Int32)) kn td lw sy sh ro sz fc_ fn_ rp sq gc_ gn_ ra rb rc rx ry rz rs cm stp mus mc_ mb_ am ac al ay as_ ax au ao at_) else (some (0 : Int32))))) else none))) else none) else (if ((xs li.toNatClampNeg) &&& (15 : Int32)) = (4 : Int32) then (if inb (li + (1 : Int32)) L = true then (if inb (li + (2 : Int32)) L = true then (Option.bind (f_B_multiples td lw sy sh kn ro sz fc_ fn_ ra rb rc rx ry rz rs (xs (li + (1 : Int32)).toNatClampNeg) (xs (li + (2 : Int32)).toNatClampNeg)) (fun z_136 => (if inb (li + (1 : Int32)) L = true then (if inb (li + (2 : Int32)) L = true then (Option.bind (f_M_multiples cm ac stp mus ax au ao mc_ mb_ (xs (li + (1 : Int32)).toNatClampNeg) (xs (li + (2 : Int32)).toNatClampNeg)) (fun z_135 => (if z_136.1 = z_135.1 then (lp_law L xs n (li + (7 : Int32)) kn td lw sy sh z_136.2.1 z_136.2.2.1 z_136.2.2.2.1 z_136.2.2.2.2.1 rp sq gc_ gn_ z_136.2.2.2.2.2.1 z_136.2.2.2.2.2.2.1 z_136.2.2.2.2.2.2.2.1 z_136.2.2.2.2.2.2.2.2.1 z_136.2.2.2.2.2.2.2.2.2.1 z_136.2.2.2.2.2.2.2.2.2.2.1 z_136.2.2.2.2.2.2.2.2.2.2.2 cm z_135.2.1 z_135.2.2.1 z_135.2.2.2.2.2.2.1 z_135.2.2.2.2.2.2.2 am ac al ay as_ z_135.2.2.2.1 z_135.2.2.2.2.1 z_135.2.2.2.2.2.1 at_) else (some (0 : Int32))))) else none) else none))) else none) else none) else (if ((xs li.toNatClampNeg) &&& (15 : Int32)) = (5 : Int32) then (if inb (li + (1 : Int32)) L = true then (if inb (li + (2 : Int32)) L = true then (if inb (li + (3 : Int32)) L = true then (if inb (li + (4 : Int32)) L = true then (Option.bind (f_B_multiple td lw sy sh kn ro sz fc_ fn_ ra rb rc rx ry rz rs (xs (li + (1 : Int32)).toNatClampNeg) (xs (li + (2 : Int32)).toNatClampNeg) (xs (li + (3 : Int32)).toNatClampNeg) (xs (li + (4 : Int32)).toNatClampNeg)) (fun z_170 => (if inb (li + (1 : Int32)) L = true then (if inb (li + (2 : Int32)) L = true then (if inb (li + (3 : Int32)) L = true then (if inb (li + (4 : Int32)) L = true then (Option.bind (f_M_multiple cm ac stp mus ax au ao mc_ mb_ (xs (li + (1 : Int32)).toNatClampNeg) (xs (li + (2 : Int32)).toNatClampNeg) (xs (li + (3 : Int32)).toNatClampNeg) (xs (li + (4 : Int32)).toNatClampNeg)) (fun z_169 => (if (lg_cmp z_170.1 z_169.1) = 0 then (lp_law L xs n (li + (7 : Int32)) kn td lw sy sh z_170.2.1 z_170.2.2.1 z_170.2.2.2.1 z_170.2.2.2.2.1 rp sq gc_ gn_ z_170.2.2.2.2.2.1 z_170.2.2.2.2.2.2.1 z_170.2.2.2.2.2.2.2.1 z_170.2.2.2.2.2.2.2.2.1 z_170.2.2.2.2.2.2.2.2.2.1 z_170.2.2.2.2.2.2.2.2.2.2.1 z_170.2.2.2.2.2.2.2.2.2.2.2 cm z_169.2.1 z_169.2.2.1 z_169.2.2.2.2.2.2.1 z_169.2.2.2.2.2.2.2 am ac al ay as_ z_169.2.2.2.1 z_169.2.2.2.2.1 z_169.2.2.2.2.2.1 at_) else (some (0 : Int32))))) else none) else none) else none) else none))) else none) else none) else none) else none) else (if ((xs li.toNatClampNeg) &&& (15 : Int32)) = (6 : Int32) then (if inb (li + (1 : Int32)) L = true then (if inb (li + (2 : Int32)) L = true then (if inb (li + (3 : Int32)) L = true then (if inb (li + (4 : Int32)) L = true then (Option.bind (f_B_common td lw sy sh kn ro sz fc_ fn_ rp sq gc_ gn_ ra rb rc rx ry rz rs (xs (li + (1 : Int32)).toNatClampNeg) (xs (li + (2 : Int32)).toNatClampNeg) (xs (li + (3 : Int32)).toNatClampNeg) (xs (li + (4 : Int32)).toNatClampNeg)) (fun z_209 => (if inb (li + (1 : Int32)) L = true then (if inb (li + (2 : Int32)) L = true then (if inb (li + (3 : Int32)) L = true then (if inb (li + (4 : Int32)) L = true then (Option.bind (f_M_common cm ac stp mus ax au ao mc_ mb_ at_ (xs (li + (1 : Int32)).toNatClampNeg) (xs (li + (2 : Int32)).toNatClampNeg) (xs (li + (3 : Int32)).toNatClampNeg) (xs (li + (4 : Int32)).toNatClampNeg)) (fun z_208 => (if z_209.1 = z_208.1 then (lp_law L xs n (li + (7 : Int32)) kn td lw sy sh z_209.2.1 z_209.2.2.1 z_209.2.2.2.1 z_209.2.2.2.2.1 z_209.2.2.2.2.2.1 z_209.2.2.2.2.2.2.1 z_209.2.2.2.2.2.2.2.1 z_209.2.2.2.2.2.2.2.2.1 z_209.2.2.2.2.2.2.2.2.2.1 z_209.2.2.2.2.2.2.2.2.2.2.1 z_209.2.2.2.2.2.2.2.2.2.2.2.1 z_209.2.2.2.2.2.2.2.2.2.2.2.2.1 z_209.2.2.2.2.2.2.2.2.2.2.2.2.2.1 z_209.2.2.2.2.2.2.2.2.2.2.2.2.2.2.1 z_209.2.2.2.2.2.2.2.2.2.2.2.2.2.2.2 cm z_208.2.1 z_208.2.2.1 z_208.2.2.2.2.2.2.1 z_208.2.2.2.2.2.2.2.1 am ac al ay as_ z_208.2.2.2.1 z_208.2.2.2.2.1 z_208.2.2.2.2.2.1 z_208.2.2.2.2.2.2.2.2) else (some (0 : Int32))))) else none) else none) else none) else none))) else none) else none) else none) else none) else (if ((xs li.toNatClampNeg) &&& (15 : Int32)) = (7 : Int32) then (if inb (li + (1 : Int32)) L = true then (if inb (li + (2 : Int32)) L = true then (if inb (li + (3 : Int32)) L = true then (if inb (li + (4 : Int32)) L = true then (Option.bind (f_B_step td lw sy sh kn (xs (li + (1 : Int32)).toNatClampNeg) (xs (li + (2 : Int32)).toNatClampNeg) (xs (li + (3 : Int32)).toNatClampNeg) (xs (li + (4 : Int32)).toNatClampNeg)) (fun z_225 => (if inb (li + (1 : Int32)) L = true then (if inb (li + (2 : Int32)) L = true then (if inb (li + (3 : Int32)) L = true then (if inb (li + (4 : Int32)) L = true then (Option.bind (f_M_step cm ac (xs (li + (1 : Int32)).toNatClampNeg) (xs (li + (2 : Int32)).toNatClampNeg) (xs (li + (3 : Int32)).toNatClampNeg) (xs (li + (4 : Int32)).toNatClampNeg)) (fun z_224 => (if (lg_cmp z_225 z_224) = 0 then (lp_law L xs n (li + (7 : Int32)) kn td lw sy sh ro sz fc_ fn_ rp sq gc_ gn_ ra rb rc rx ry rz rs cm stp mus mc_ mb_ am ac al ay as_ ax au ao at_) else (some (0 : Int32))))) else none) else none) else none) else none))) else none) else none) else none) else none) else (if ((xs li.toNatClampNeg) &&& (15 : Int32)) = (8 : Int32) then (if inb (li + (1 : Int32)) L = true then (if inb (li + (2 : Int32)) L = true then (if inb (li + (3 : Int32)) L = true then (Option.bind (f_B_shorter td lw sy sh kn (xs (li + (1 : Int32)).toNatClampNeg) ((((xs (li + (2 : Int32)).toNatClampNeg).toInt64) <<< ((32 : Int32).toInt64 &&& 63)) ||| (((xs (li + (3 : Int32)).toNatClampNeg).toInt64) &&& (4294967295 : Int64)))) (fun z_239 => (if inb (li + (1 : Int32)) L = true then (if inb (li + (2 : Int32)) L = true then (if inb (li + (3 : Int32)) L = true then (Option.bind (f_M_shorter cm ac (xs (li + (1 : Int32)).toNatClampNeg) ((((xs (li + (2 : Int32)).toNatClampNeg).toInt64) <<< ((32 : Int32).toInt64 &&& 63)) ||| (((xs (li + (3 : Int32)).toNatClampNeg).toInt64) &&& (4294967295 : Int64)))) (fun z_238 => (if z_239 = z_238 then (lp_law L xs n (li + (7 : Int32)) kn td lw sy sh ro sz fc_ fn_ rp sq gc_ gn_ ra rb rc rx ry rz rs cm stp mus mc_ mb_ am ac al ay as_ ax au ao at_) else (some (0 : Int32))))) else none) else none) else none))) else none) else none) else none) else (lp_law L xs n (li + (7 : Int32)) kn td lw sy sh ro sz fc_ fn_ rp sq gc_ gn_ ra rb rc rx ry rz rs cm stp mus mc_ mb_ am ac al ay as_ ax au ao at_)))))))))) else none)
set_option maxHeartbeats 16000000 in
set_option maxRecDepth 100000 in
/-- the law's loop: where the pure function says 1, the law answers 1 -/
theorem law_loop {p : Program} {l : Launch} {e : Env} {s : State} {m : MethodId} {below : List Frame} {meth : Method} {c : Code} {D : va_G} {ct : CT} {b L : Nat} {xs : Nat → Int32} (C0 : lw_At p s m meth c b L xs) (hKK : KK D ct s) :
    ∀ (n : Nat) (li : Int32) (kn : Nat) (td : Nat → P6) (lw : Nat → P6) (sy : Nat → Int32) (sh : Nat → Int32) (ro : Nat → Int64) (sz : Int32) (fc_ : Int32) (fn_ : Int32) (rp : Nat → Int64) (sq : Int32) (gc_ : Int32) (gn_ : Int32) (ra : Int64) (rb : Int64) (rc : Int64) (rx : Int64) (ry : Int64) (rz : Int64) (rs : Int32) (cm : Int32) (stp : Int32) (mus : Int32) (mc_ : Int32) (mb_ : Int32) (am : Nat → Int32) (ac : Nat → Int64) (al : Nat → Int64) (ay : Nat → Int32) (as_ : Nat → Int32) (ax : Nat → Int64) (au : Nat → Int64) (ao : Nat → Int32) (at_ : Nat → Int64), lp_law L xs n li kn td lw sy sh ro sz fc_ fn_ rp sq gc_ gn_ ra rb rc rx ry rz rs cm stp mus mc_ mb_ am ac al ay as_ ax au ao at_ = some 1 → ∀ (h0 : Nat) (h1 : Nat) (h2 : Nat) (h3 : Nat) (h4 : Nat) (h5 : Nat) (h6 : Nat) (g0 : Nat) (q1 : Nat) (q2 : Nat) (q3 : Nat) (q4 : Nat) (q5 : Nat) (q6 : Nat) (q7 : Nat) (q8 : Nat) (q9 : Nat) (ca : Nat → Nat) (ta : Nat → Nat) (la : Nat → Nat) (wt : va_W) (H : Heap) (locs : List Loc) (cc ss : Nat), cc + 3 * n ≤ 600000 → ss + 16 * n ≤ 7302250 → kn ≤ 40 → PoolIn wt ca ta la td lw sy sh kn → va_P D classes ([(h0, .inr (4, [.ref h1, .ref h2, .ref h3, .ref h5, .int (nI kn)])), (h1, .inl (ct.2.1, 40, .inr (.inr (.inr (.inr (cfun kn ca)))))), (h2, .inr (1, [.long ra, .long rb, .long rc, .long rx, .long ry, .long rz, .int rs])), (h3, .inr (2, [.ref h2, .ref h4, .int sz, .int fc_, .int fn_])), (h4, .inl (ct.1, 3185, .inr (.inl ro))), (h5, .inr (2, [.ref h2, .ref h6, .int sq, .int gc_, .int gn_])), (h6, .inl (ct.1, 3185, .inr (.inl rp))), (g0, .inr (5, [.ref q1, .ref q2, .ref q3, .ref q4, .ref q5, .int cm, .int stp, .ref q6, .ref q7, .ref q8, .int mus, .int mc_, .int mb_, .ref q9])), (q1, .inl (ct.2.2, 9, .inl am)), (q2, .inl (ct.1, 240, .inr (.inl ac))), (q3, .inl (ct.1, 240, .inr (.inl al))), (q4, .inl (ct.2.2, 40, .inl ay)), (q5, .inl (ct.2.2, 40, .inl as_)), (q6, .inl (ct.1, 6, .inr (.inl ax))), (q7, .inl (ct.1, 3000, .inr (.inl au))), (q8, .inl (ct.2.2, 500, .inl ao)), (q9, .inl (ct.1, 3000, .inr (.inl at_)))] ++ wt) H → va_D (fun q : Nat => s.heap.size ≤ q) ([(h0, .inr (4, [.ref h1, .ref h2, .ref h3, .ref h5, .int (nI kn)])), (h1, .inl (ct.2.1, 40, .inr (.inr (.inr (.inr (cfun kn ca)))))), (h2, .inr (1, [.long ra, .long rb, .long rc, .long rx, .long ry, .long rz, .int rs])), (h3, .inr (2, [.ref h2, .ref h4, .int sz, .int fc_, .int fn_])), (h4, .inl (ct.1, 3185, .inr (.inl ro))), (h5, .inr (2, [.ref h2, .ref h6, .int sq, .int gc_, .int gn_])), (h6, .inl (ct.1, 3185, .inr (.inl rp))), (g0, .inr (5, [.ref q1, .ref q2, .ref q3, .ref q4, .ref q5, .int cm, .int stp, .ref q6, .ref q7, .ref q8, .int mus, .int mc_, .int mb_, .ref q9])), (q1, .inl (ct.2.2, 9, .inl am)), (q2, .inl (ct.1, 240, .inr (.inl ac))), (q3, .inl (ct.1, 240, .inr (.inl al))), (q4, .inl (ct.2.2, 40, .inl ay)), (q5, .inl (ct.2.2, 40, .inl as_)), (q6, .inl (ct.1, 6, .inr (.inl ax))), (q7, .inl (ct.1, 3000, .inr (.inl au))), (q8, .inl (ct.2.2, 500, .inl ao)), (q9, .inl (ct.1, 3000, .inr (.inl at_)))] ++ wt) → va_S (fun q : Nat => s.heap.size ≤ q) s.heap H locs → ∀ (ls : Array Slot), lv_has ls 4 [(3, .int li), (0, .ref b), (1, .ref h0), (2, .ref g0)] → W p l e room_1 s m #[Value.ref b] below meth c H locs cc ss (lw_Z below #[Value.ref b] s) (F0 m 18 ls []) := by
  obtain ⟨hx, hb, hr, hml, hown, hts, hX, hbl, hlocks, hgv⟩ := C0
  have hA : ∀ q : Nat, s.heap.size ≤ q → (fun q : Nat => s.heap.size ≤ q) q := fun _ h => h
  have hbA : ¬ (fun q : Nat => s.heap.size ≤ q) b := Nat.not_le.mpr hbl
  have htg : ∀ w ∈ GW, w.before #[Value.ref b] s = true := fun w hw => hts w (List.mem_filter.mp hw).1
  have hK := hKK.1
  intro n
  induction n with
  | zero =>
    intro li kn td lw sy sh ro sz fc_ fn_ rp sq gc_ gn_ ra rb rc rx ry rz rs cm stp mus mc_ mb_ am ac al ay as_ ax au ao at_ h
    rw [lp_law] at h
    cases h
  | succ n ih =>
    intro li kn td lw sy sh ro sz fc_ fn_ rp sq gc_ gn_ ra rb rc rx ry rz rs cm stp mus mc_ mb_ am ac al ay as_ ax au ao at_ h h0 h1 h2 h3 h4 h5 h6 g0 q1 q2 q3 q4 q5 q6 q7 q8 q9 ca ta la wt H locs cc ss hcc hss hk40 hpool hP hD hS ls hl
    rw [lp_law] at h
    refine lv_iload_n hx hb d_law_18 rfl (lv_at hl 0 rfl) ?_
    refine lv_aload_n hx hb d_law_19 rfl (lv_at hl 1 rfl) ?_
    refine va_slen hx hb hX hbl hbA hS d_law_20 ?_
    refine lv_bipush (v := (7 : Int32)) hx hb d_law_21 (by decide) ?_
    refine lv_isub hx hb d_law_23 ?_
    refine lv_icmp_gt (tgt := 512) hx hb d_law_24 (by decide) (fun c_1 => ?_) (fun c_1 => ?_)
    · rw [if_pos c_1] at h
      refine lv_iconst (v := (1 : Int32)) hx hb d_law_512 (by decide) ?_
      refine va_forget (fun q hq => hS.2.2 q hq) ?_
      refine W.widen (k := 600000) (n := 7302250) (by omega) (by omega) ?_
      exact lw_ret hx hb hr hlocks d_law_513
    · rw [if_neg c_1] at h
      refine lv_aload_n hx hb d_law_27 rfl (lv_at hl 1 rfl) ?_
      refine lv_iload_n hx hb d_law_28 rfl (lv_at hl 0 rfl) ?_
      by_cases b_2 : inb li L = true
      rotate_left
      · rw [if_neg b_2] at h; cases h
      rw [if_pos b_2] at h
      refine va_sld hx hb hX hbl hbA hS (inb_in b_2) d_law_29 ?_
      refine lv_bipush (v := (15 : Int32)) hx hb d_law_30 (by decide) ?_
      refine lv_iand hx hb d_law_32 ?_
      by_cases c_3 : ((xs li.toNatClampNeg) &&& (15 : Int32)) = (0 : Int32)
      · rw [if_pos c_3] at h
        refine lv_tableIn (off := 51) (tgt := 84) hx hb d_law_33 (by rw [c_3]; decide) (by rw [c_3]; decide) (by rw [c_3]; rfl) (by decide) ?_
        refine lv_aload_n hx hb d_law_84 rfl (lv_at hl 2 rfl) ?_
        refine lv_aload_n hx hb d_law_85 rfl (lv_at hl 1 rfl) ?_
        refine lv_iload_n hx hb d_law_86 rfl (lv_at hl 0 rfl) ?_
        refine lv_iconst (v := (1 : Int32)) hx hb d_law_87 (by decide) ?_
        refine lv_iadd hx hb d_law_88 ?_
        by_cases b_4 : inb (li + (1 : Int32)) L = true
        rotate_left
        · rw [if_neg b_4] at h; cases h
        rw [if_pos b_4] at h
        refine va_sld hx hb hX hbl hbA hS (inb_in b_4) d_law_89 ?_
        refine lv_aload_n hx hb d_law_90 rfl (lv_at hl 1 rfl) ?_
        refine lv_iload_n hx hb d_law_91 rfl (lv_at hl 0 rfl) ?_
        refine lv_iconst (v := (2 : Int32)) hx hb d_law_92 (by decide) ?_
        refine lv_iadd hx hb d_law_93 ?_
        by_cases b_5 : inb (li + (2 : Int32)) L = true
        rotate_left
        · rw [if_neg b_5] at h; cases h
        rw [if_pos b_5] at h
        refine va_sld hx hb hX hbl hbA hS (inb_in b_5) d_law_94 ?_
        refine lv_aload_n hx hb d_law_95 rfl (lv_at hl 1 rfl) ?_
        refine lv_iload_n hx hb d_law_96 rfl (lv_at hl 0 rfl) ?_
        refine lv_iconst (v := (3 : Int32)) hx hb d_law_97 (by decide) ?_
        refine lv_iadd hx hb d_law_98 ?_
        by_cases b_6 : inb (li + (3 : Int32)) L = true
        rotate_left
        · rw [if_neg b_6] at h; cases h
        rw [if_pos b_6] at h
        refine va_sld hx hb hX hbl hbA hS (inb_in b_6) d_law_99 ?_
        refine lv_aload_n hx hb d_law_100 rfl (lv_at hl 1 rfl) ?_
        refine lv_iload_n hx hb d_law_101 rfl (lv_at hl 0 rfl) ?_
        refine lv_iconst (v := (4 : Int32)) hx hb d_law_102 (by decide) ?_
        refine lv_iadd hx hb d_law_103 ?_
        by_cases b_7 : inb (li + (4 : Int32)) L = true
        rotate_left
        · rw [if_neg b_7] at h; cases h
        rw [if_pos b_7] at h
        refine va_sld hx hb hX hbl hbA hS (inb_in b_7) d_law_104 ?_
        refine lv_aload_n hx hb d_law_105 rfl (lv_at hl 1 rfl) ?_
        refine lv_iload_n hx hb d_law_106 rfl (lv_at hl 0 rfl) ?_
        refine lv_iconst (v := (5 : Int32)) hx hb d_law_107 (by decide) ?_
        refine lv_iadd hx hb d_law_108 ?_
        by_cases b_8 : inb (li + (5 : Int32)) L = true
        rotate_left
        · rw [if_neg b_8] at h; cases h
        rw [if_pos b_8] at h
        refine va_sld hx hb hX hbl hbA hS (inb_in b_8) d_law_109 ?_
        refine lv_aload_n hx hb d_law_110 rfl (lv_at hl 1 rfl) ?_
        refine lv_iload_n hx hb d_law_111 rfl (lv_at hl 0 rfl) ?_
        refine lv_bipush (v := (6 : Int32)) hx hb d_law_112 (by decide) ?_
        refine lv_iadd hx hb d_law_114 ?_
        by_cases b_9 : inb (li + (6 : Int32)) L = true
        rotate_left
        · rw [if_neg b_9] at h; cases h
        rw [if_pos b_9] at h
        refine va_sld hx hb hX hbl hbA hS (inb_in b_9) d_law_115 ?_
        rcases e_34 : f_B_cell kn ra rb rc rx ry rz rs (xs (li + (1 : Int32)).toNatClampNeg) (xs (li + (2 : Int32)).toNatClampNeg) (xs (li + (3 : Int32)).toNatClampNeg) (xs (li + (4 : Int32)).toNatClampNeg) (xs (li + (5 : Int32)).toNatClampNeg) (xs (li + (6 : Int32)).toNatClampNeg) with _ | ⟨r_10, fl_11, cnt_12, ra_13, rb_14, rc_15, rx_16, ry_17, rz_18, rs_19, ta1_20, ta2_21, ta3_22, ta4_23, ta5_24, ta6_25, la1_26, la2_27, la3_28, la4_29, la5_30, la6_31, nsy_32, nsh_33⟩
        · rw [e_34] at h; cases h
        rw [e_34, Option.bind_some] at h
        try dsimp only at h
        refine va_calli (va_runV (As := [.int (xs (li + (1 : Int32)).toNatClampNeg), .int (xs (li + (2 : Int32)).toNatClampNeg), .int (xs (li + (3 : Int32)).toNatClampNeg), .int (xs (li + (4 : Int32)).toNatClampNeg), .int (xs (li + (5 : Int32)).toNatClampNeg), .int (xs (li + (6 : Int32)).toNatClampNeg)]) (rest := []) ⟨hx, hb, hml, hown, htg⟩ (c_B_cell l D ct _ ([(g0, .inr (5, [.ref q1, .ref q2, .ref q3, .ref q4, .ref q5, .int cm, .int stp, .ref q6, .ref q7, .ref q8, .int mus, .int mc_, .int mb_, .ref q9])), (q1, .inl (ct.2.2, 9, .inl am)), (q2, .inl (ct.1, 240, .inr (.inl ac))), (q3, .inl (ct.1, 240, .inr (.inl al))), (q4, .inl (ct.2.2, 40, .inl ay)), (q5, .inl (ct.2.2, 40, .inl as_)), (q6, .inl (ct.1, 6, .inr (.inl ax))), (q7, .inl (ct.1, 3000, .inr (.inl au))), (q8, .inl (ct.2.2, 500, .inl ao)), (q9, .inl (ct.1, 3000, .inr (.inl at_)))] ++ wt) h0 h1 h2 h3 h5 h4 h6 ca ta la td lw sy sh kn ro sz fc_ fn_ rp sq gc_ gn_ ra rb rc rx ry rz rs (xs (li + (1 : Int32)).toNatClampNeg) (xs (li + (2 : Int32)).toNatClampNeg) (xs (li + (3 : Int32)).toNatClampNeg) (xs (li + (4 : Int32)).toNatClampNeg) (xs (li + (5 : Int32)).toNatClampNeg) (xs (li + (6 : Int32)).toNatClampNeg) hk40 _ e_34) (cwV 6 htg (giV tm_117 tm_118 tm_119 tm_31 g_B_cell) rfl rfl rfl (by decide +kernel) ⟨Nat.le_of_ble_eq_true rfl, Nat.le_of_ble_eq_true rfl⟩) (preVM hA hS hP hD hKK (va_recv hK hP (ci := 4) (q0 := 0) rfl rfl)) rfl rfl hl.1 rfl (lv_room (Nat.le_of_ble_eq_true rfl)) d_law_116 ⟨show cc + 3 ≤ 600000 by omega, show ss + 16 ≤ 7302250 by omega⟩) hS (fun q _ h9 => h9) (fun q h9 => h9) (fun r9 u9 t9 H locs ht9 hvm9 hw9 hB9 hz9 hk9 hS => ?_)
        obtain ⟨hw8, hw9⟩ := Prod.mk.inj hw9
        rw [hw8]
        rw [hw9] at hB9
        rcases hB9 with ⟨hf9, jk, hP, hD⟩ | ⟨hf9, qc, qt, ql, hP, hD⟩
        · rw [if_pos hf9] at h
          rw [ht9] at hP
          have hP := vP_perm hP (mid_perm [(h0, .inr (4, [.ref h1, .ref h2, .ref h3, .ref h5, .int (nI kn)])), (h1, .inl (ct.2.1, 40, .inr (.inr (.inr (.inr (cfun kn ca)))))), (h2, .inr (1, [.long ra_13, .long rb_14, .long rc_15, .long rx_16, .long ry_17, .long rz_18, .int rs_19])), (h3, .inr (2, [.ref h2, .ref h4, .int sz, .int fc_, .int fn_])), (h4, .inl (ct.1, 3185, .inr (.inl ro))), (h5, .inr (2, [.ref h2, .ref h6, .int sq, .int gc_, .int gn_])), (h6, .inl (ct.1, 3185, .inr (.inl rp)))] jk [(g0, .inr (5, [.ref q1, .ref q2, .ref q3, .ref q4, .ref q5, .int cm, .int stp, .ref q6, .ref q7, .ref q8, .int mus, .int mc_, .int mb_, .ref q9])), (q1, .inl (ct.2.2, 9, .inl am)), (q2, .inl (ct.1, 240, .inr (.inl ac))), (q3, .inl (ct.1, 240, .inr (.inl al))), (q4, .inl (ct.2.2, 40, .inl ay)), (q5, .inl (ct.2.2, 40, .inl as_)), (q6, .inl (ct.1, 6, .inr (.inl ax))), (q7, .inl (ct.1, 3000, .inr (.inl au))), (q8, .inl (ct.2.2, 500, .inl ao)), (q9, .inl (ct.1, 3000, .inr (.inl at_)))] wt)
          have hD := vD_perm hD (mid_perm [(h0, .inr (4, [.ref h1, .ref h2, .ref h3, .ref h5, .int (nI kn)])), (h1, .inl (ct.2.1, 40, .inr (.inr (.inr (.inr (cfun kn ca)))))), (h2, .inr (1, [.long ra_13, .long rb_14, .long rc_15, .long rx_16, .long ry_17, .long rz_18, .int rs_19])), (h3, .inr (2, [.ref h2, .ref h4, .int sz, .int fc_, .int fn_])), (h4, .inl (ct.1, 3185, .inr (.inl ro))), (h5, .inr (2, [.ref h2, .ref h6, .int sq, .int gc_, .int gn_])), (h6, .inl (ct.1, 3185, .inr (.inl rp)))] jk [(g0, .inr (5, [.ref q1, .ref q2, .ref q3, .ref q4, .ref q5, .int cm, .int stp, .ref q6, .ref q7, .ref q8, .int mus, .int mc_, .int mb_, .ref q9])), (q1, .inl (ct.2.2, 9, .inl am)), (q2, .inl (ct.1, 240, .inr (.inl ac))), (q3, .inl (ct.1, 240, .inr (.inl al))), (q4, .inl (ct.2.2, 40, .inl ay)), (q5, .inl (ct.2.2, 40, .inl as_)), (q6, .inl (ct.1, 6, .inr (.inl ax))), (q7, .inl (ct.1, 3000, .inr (.inl au))), (q8, .inl (ct.2.2, 500, .inl ao)), (q9, .inl (ct.1, 3000, .inr (.inl at_)))] wt)
          have hP : va_P D classes ([(h0, .inr (4, [.ref h1, .ref h2, .ref h3, .ref h5, .int (nI kn)])), (h1, .inl (ct.2.1, 40, .inr (.inr (.inr (.inr (cfun kn ca)))))), (h2, .inr (1, [.long ra_13, .long rb_14, .long rc_15, .long rx_16, .long ry_17, .long rz_18, .int rs_19])), (h3, .inr (2, [.ref h2, .ref h4, .int sz, .int fc_, .int fn_])), (h4, .inl (ct.1, 3185, .inr (.inl ro))), (h5, .inr (2, [.ref h2, .ref h6, .int sq, .int gc_, .int gn_])), (h6, .inl (ct.1, 3185, .inr (.inl rp))), (g0, .inr (5, [.ref q1, .ref q2, .ref q3, .ref q4, .ref q5, .int cm, .int stp, .ref q6, .ref q7, .ref q8, .int mus, .int mc_, .int mb_, .ref q9])), (q1, .inl (ct.2.2, 9, .inl am)), (q2, .inl (ct.1, 240, .inr (.inl ac))), (q3, .inl (ct.1, 240, .inr (.inl al))), (q4, .inl (ct.2.2, 40, .inl ay)), (q5, .inl (ct.2.2, 40, .inl as_)), (q6, .inl (ct.1, 6, .inr (.inl ax))), (q7, .inl (ct.1, 3000, .inr (.inl au))), (q8, .inl (ct.2.2, 500, .inl ao)), (q9, .inl (ct.1, 3000, .inr (.inl at_)))] ++ (jk ++ wt)) H := hP
          have hD : va_D (fun q : Nat => s.heap.size ≤ q) ([(h0, .inr (4, [.ref h1, .ref h2, .ref h3, .ref h5, .int (nI kn)])), (h1, .inl (ct.2.1, 40, .inr (.inr (.inr (.inr (cfun kn ca)))))), (h2, .inr (1, [.long ra_13, .long rb_14, .long rc_15, .long rx_16, .long ry_17, .long rz_18, .int rs_19])), (h3, .inr (2, [.ref h2, .ref h4, .int sz, .int fc_, .int fn_])), (h4, .inl (ct.1, 3185, .inr (.inl ro))), (h5, .inr (2, [.ref h2, .ref h6, .int sq, .int gc_, .int gn_])), (h6, .inl (ct.1, 3185, .inr (.inl rp))), (g0, .inr (5, [.ref q1, .ref q2, .ref q3, .ref q4, .ref q5, .int cm, .int stp, .ref q6, .ref q7, .ref q8, .int mus, .int mc_, .int mb_, .ref q9])), (q1, .inl (ct.2.2, 9, .inl am)), (q2, .inl (ct.1, 240, .inr (.inl ac))), (q3, .inl (ct.1, 240, .inr (.inl al))), (q4, .inl (ct.2.2, 40, .inl ay)), (q5, .inl (ct.2.2, 40, .inl as_)), (q6, .inl (ct.1, 6, .inr (.inl ax))), (q7, .inl (ct.1, 3000, .inr (.inl au))), (q8, .inl (ct.2.2, 500, .inl ao)), (q9, .inl (ct.1, 3000, .inr (.inl at_)))] ++ (jk ++ wt)) := hD
          refine lv_aload_n hx hb d_law_119 rfl (lv_at hl 3 rfl) ?_
          refine lv_aload_n hx hb d_law_120 rfl (lv_at hl 1 rfl) ?_
          refine lv_iload_n hx hb d_law_121 rfl (lv_at hl 0 rfl) ?_
          refine lv_iconst (v := (1 : Int32)) hx hb d_law_122 (by decide) ?_
          refine lv_iadd hx hb d_law_123 ?_
          by_cases b_35 : inb (li + (1 : Int32)) L = true
          rotate_left
          · rw [if_neg b_35] at h; cases h
          rw [if_pos b_35] at h
          refine va_sld hx hb hX hbl hbA hS (inb_in b_35) d_law_124 ?_
          refine lv_aload_n hx hb d_law_125 rfl (lv_at hl 1 rfl) ?_
          refine lv_iload_n hx hb d_law_126 rfl (lv_at hl 0 rfl) ?_
          refine lv_iconst (v := (2 : Int32)) hx hb d_law_127 (by decide) ?_
          refine lv_iadd hx hb d_law_128 ?_
          by_cases b_36 : inb (li + (2 : Int32)) L = true
          rotate_left
          · rw [if_neg b_36] at h; cases h
          rw [if_pos b_36] at h
          refine va_sld hx hb hX hbl hbA hS (inb_in b_36) d_law_129 ?_
          refine lv_aload_n hx hb d_law_130 rfl (lv_at hl 1 rfl) ?_
          refine lv_iload_n hx hb d_law_131 rfl (lv_at hl 0 rfl) ?_
          refine lv_iconst (v := (3 : Int32)) hx hb d_law_132 (by decide) ?_
          refine lv_iadd hx hb d_law_133 ?_
          by_cases b_37 : inb (li + (3 : Int32)) L = true
          rotate_left
          · rw [if_neg b_37] at h; cases h
          rw [if_pos b_37] at h
          refine va_sld hx hb hX hbl hbA hS (inb_in b_37) d_law_134 ?_
          refine lv_aload_n hx hb d_law_135 rfl (lv_at hl 1 rfl) ?_
          refine lv_iload_n hx hb d_law_136 rfl (lv_at hl 0 rfl) ?_
          refine lv_iconst (v := (4 : Int32)) hx hb d_law_137 (by decide) ?_
          refine lv_iadd hx hb d_law_138 ?_
          by_cases b_38 : inb (li + (4 : Int32)) L = true
          rotate_left
          · rw [if_neg b_38] at h; cases h
          rw [if_pos b_38] at h
          refine va_sld hx hb hX hbl hbA hS (inb_in b_38) d_law_139 ?_
          refine lv_aload_n hx hb d_law_140 rfl (lv_at hl 1 rfl) ?_
          refine lv_iload_n hx hb d_law_141 rfl (lv_at hl 0 rfl) ?_
          refine lv_iconst (v := (5 : Int32)) hx hb d_law_142 (by decide) ?_
          refine lv_iadd hx hb d_law_143 ?_
          by_cases b_39 : inb (li + (5 : Int32)) L = true
          rotate_left
          · rw [if_neg b_39] at h; cases h
          rw [if_pos b_39] at h
          refine va_sld hx hb hX hbl hbA hS (inb_in b_39) d_law_144 ?_
          refine lv_aload_n hx hb d_law_145 rfl (lv_at hl 1 rfl) ?_
          refine lv_iload_n hx hb d_law_146 rfl (lv_at hl 0 rfl) ?_
          refine lv_bipush (v := (6 : Int32)) hx hb d_law_147 (by decide) ?_
          refine lv_iadd hx hb d_law_149 ?_
          by_cases b_40 : inb (li + (6 : Int32)) L = true
          rotate_left
          · rw [if_neg b_40] at h; cases h
          rw [if_pos b_40] at h
          refine va_sld hx hb hX hbl hbA hS (inb_in b_40) d_law_150 ?_
          have hP := va_P.part (cx := [(g0, .inr (5, [.ref q1, .ref q2, .ref q3, .ref q4, .ref q5, .int cm, .int stp, .ref q6, .ref q7, .ref q8, .int mus, .int mc_, .int mb_, .ref q9])), (q1, .inl (ct.2.2, 9, .inl am)), (q2, .inl (ct.1, 240, .inr (.inl ac))), (q3, .inl (ct.1, 240, .inr (.inl al))), (q4, .inl (ct.2.2, 40, .inl ay)), (q5, .inl (ct.2.2, 40, .inl as_)), (q6, .inl (ct.1, 6, .inr (.inl ax))), (h0, .inr (4, [.ref h1, .ref h2, .ref h3, .ref h5, .int (nI kn)])), (h1, .inl (ct.2.1, 40, .inr (.inr (.inr (.inr (cfun kn ca)))))), (h2, .inr (1, [.long ra_13, .long rb_14, .long rc_15, .long rx_16, .long ry_17, .long rz_18, .int rs_19])), (h3, .inr (2, [.ref h2, .ref h4, .int sz, .int fc_, .int fn_])), (h4, .inl (ct.1, 3185, .inr (.inl ro))), (h5, .inr (2, [.ref h2, .ref h6, .int sq, .int gc_, .int gn_])), (h6, .inl (ct.1, 3185, .inr (.inl rp))), (q7, .inl (ct.1, 3000, .inr (.inl au))), (q8, .inl (ct.2.2, 500, .inl ao)), (q9, .inl (ct.1, 3000, .inr (.inl at_)))]) hP [7, 8, 9, 10, 11, 12, 13, 0, 1, 2, 3, 4, 5, 6, 14, 15, 16] rfl
          have hD := va_D.part (cx := [(g0, .inr (5, [.ref q1, .ref q2, .ref q3, .ref q4, .ref q5, .int cm, .int stp, .ref q6, .ref q7, .ref q8, .int mus, .int mc_, .int mb_, .ref q9])), (q1, .inl (ct.2.2, 9, .inl am)), (q2, .inl (ct.1, 240, .inr (.inl ac))), (q3, .inl (ct.1, 240, .inr (.inl al))), (q4, .inl (ct.2.2, 40, .inl ay)), (q5, .inl (ct.2.2, 40, .inl as_)), (q6, .inl (ct.1, 6, .inr (.inl ax))), (h0, .inr (4, [.ref h1, .ref h2, .ref h3, .ref h5, .int (nI kn)])), (h1, .inl (ct.2.1, 40, .inr (.inr (.inr (.inr (cfun kn ca)))))), (h2, .inr (1, [.long ra_13, .long rb_14, .long rc_15, .long rx_16, .long ry_17, .long rz_18, .int rs_19])), (h3, .inr (2, [.ref h2, .ref h4, .int sz, .int fc_, .int fn_])), (h4, .inl (ct.1, 3185, .inr (.inl ro))), (h5, .inr (2, [.ref h2, .ref h6, .int sq, .int gc_, .int gn_])), (h6, .inl (ct.1, 3185, .inr (.inl rp))), (q7, .inl (ct.1, 3000, .inr (.inl au))), (q8, .inl (ct.2.2, 500, .inl ao)), (q9, .inl (ct.1, 3000, .inr (.inl at_)))]) hD [7, 8, 9, 10, 11, 12, 13, 0, 1, 2, 3, 4, 5, 6, 14, 15, 16] (by decide) rfl
          rcases e_50 : f_M_cell cm stp am ac al ay as_ ax (xs (li + (1 : Int32)).toNatClampNeg) (xs (li + (2 : Int32)).toNatClampNeg) (xs (li + (3 : Int32)).toNatClampNeg) (xs (li + (4 : Int32)).toNatClampNeg) (xs (li + (5 : Int32)).toNatClampNeg) (xs (li + (6 : Int32)).toNatClampNeg) with _ | ⟨r_41, cm_42, stp_43, am_44, ac_45, al_46, ay_47, as__48, ax_49⟩
          · rw [e_50] at h; cases h
          rw [e_50, Option.bind_some] at h
          try dsimp only at h
          refine va_calli (va_runV (As := [.int (xs (li + (1 : Int32)).toNatClampNeg), .int (xs (li + (2 : Int32)).toNatClampNeg), .int (xs (li + (3 : Int32)).toNatClampNeg), .int (xs (li + (4 : Int32)).toNatClampNeg), .int (xs (li + (5 : Int32)).toNatClampNeg), .int (xs (li + (6 : Int32)).toNatClampNeg)]) (rest := [.int r_10]) ⟨hx, hb, hml, hown, htg⟩ (c_M_cell l D ct A ([(h0, .inr (4, [.ref h1, .ref h2, .ref h3, .ref h5, .int (nI kn)])), (h1, .inl (ct.2.1, 40, .inr (.inr (.inr (.inr (cfun kn ca)))))), (h2, .inr (1, [.long ra_13, .long rb_14, .long rc_15, .long rx_16, .long ry_17, .long rz_18, .int rs_19])), (h3, .inr (2, [.ref h2, .ref h4, .int sz, .int fc_, .int fn_])), (h4, .inl (ct.1, 3185, .inr (.inl ro))), (h5, .inr (2, [.ref h2, .ref h6, .int sq, .int gc_, .int gn_])), (h6, .inl (ct.1, 3185, .inr (.inl rp))), (q7, .inl (ct.1, 3000, .inr (.inl au))), (q8, .inl (ct.2.2, 500, .inl ao)), (q9, .inl (ct.1, 3000, .inr (.inl at_)))] ++ wt)  g0 q1 q2 q3 q4 q5 q6 q7 q8 q9 cm stp mus mc_ mb_ am ac al ay as_ ax (xs (li + (1 : Int32)).toNatClampNeg) (xs (li + (2 : Int32)).toNatClampNeg) (xs (li + (3 : Int32)).toNatClampNeg) (xs (li + (4 : Int32)).toNatClampNeg) (xs (li + (5 : Int32)).toNatClampNeg) (xs (li + (6 : Int32)).toNatClampNeg)   _ e_50) (cwV 6 htg (giV tm_442 tm_443 tm_444 tm_34 g_M_cell) rfl rfl rfl (by decide +kernel) ⟨Nat.le_of_ble_eq_true rfl, Nat.le_of_ble_eq_true rfl⟩) (preVM hA hS hP hD hKK (va_recv hK hP (ci := 5) (q0 := 0) rfl rfl)) rfl rfl hl.1 rfl (lv_room (Nat.le_of_ble_eq_true rfl)) d_law_151 ⟨show cc + 0 ≤ 600000 by omega, show ss + 0 ≤ 7302250 by omega⟩) hS (fun q _ h9 => h9) (fun q h9 => h9) (fun r9 u9 t9 H locs ht9 hvm9 hw9 hB9 hz9 hk9 hS => ?_)
          obtain ⟨hw8, hw9⟩ := Prod.mk.inj hw9
          rw [hw8]
          rw [hw9] at hB9
          obtain ⟨hP, hD⟩ := hB9
          rw [ht9] at hP
          have hP : va_P D classes ([(g0, .inr (5, [.ref q1, .ref q2, .ref q3, .ref q4, .ref q5, .int cm_42, .int stp_43, .ref q6, .ref q7, .ref q8, .int mus, .int mc_, .int mb_, .ref q9])), (q1, .inl (ct.2.2, 9, .inl am_44)), (q2, .inl (ct.1, 240, .inr (.inl ac_45))), (q3, .inl (ct.1, 240, .inr (.inl al_46))), (q4, .inl (ct.2.2, 40, .inl ay_47)), (q5, .inl (ct.2.2, 40, .inl as__48)), (q6, .inl (ct.1, 6, .inr (.inl ax_49))), (h0, .inr (4, [.ref h1, .ref h2, .ref h3, .ref h5, .int (nI kn)])), (h1, .inl (ct.2.1, 40, .inr (.inr (.inr (.inr (cfun kn ca)))))), (h2, .inr (1, [.long ra_13, .long rb_14, .long rc_15, .long rx_16, .long ry_17, .long rz_18, .int rs_19])), (h3, .inr (2, [.ref h2, .ref h4, .int sz, .int fc_, .int fn_])), (h4, .inl (ct.1, 3185, .inr (.inl ro))), (h5, .inr (2, [.ref h2, .ref h6, .int sq, .int gc_, .int gn_])), (h6, .inl (ct.1, 3185, .inr (.inl rp))), (q7, .inl (ct.1, 3000, .inr (.inl au))), (q8, .inl (ct.2.2, 500, .inl ao)), (q9, .inl (ct.1, 3000, .inr (.inl at_)))] ++ (jk ++ wt)) H := hP
          have hD : va_D A ([(g0, .inr (5, [.ref q1, .ref q2, .ref q3, .ref q4, .ref q5, .int cm_42, .int stp_43, .ref q6, .ref q7, .ref q8, .int mus, .int mc_, .int mb_, .ref q9])), (q1, .inl (ct.2.2, 9, .inl am_44)), (q2, .inl (ct.1, 240, .inr (.inl ac_45))), (q3, .inl (ct.1, 240, .inr (.inl al_46))), (q4, .inl (ct.2.2, 40, .inl ay_47)), (q5, .inl (ct.2.2, 40, .inl as__48)), (q6, .inl (ct.1, 6, .inr (.inl ax_49))), (h0, .inr (4, [.ref h1, .ref h2, .ref h3, .ref h5, .int (nI kn)])), (h1, .inl (ct.2.1, 40, .inr (.inr (.inr (.inr (cfun kn ca)))))), (h2, .inr (1, [.long ra_13, .long rb_14, .long rc_15, .long rx_16, .long ry_17, .long rz_18, .int rs_19])), (h3, .inr (2, [.ref h2, .ref h4, .int sz, .int fc_, .int fn_])), (h4, .inl (ct.1, 3185, .inr (.inl ro))), (h5, .inr (2, [.ref h2, .ref h6, .int sq, .int gc_, .int gn_])), (h6, .inl (ct.1, 3185, .inr (.inl rp))), (q7, .inl (ct.1, 3000, .inr (.inl au))), (q8, .inl (ct.2.2, 500, .inl ao)), (q9, .inl (ct.1, 3000, .inr (.inl at_)))] ++ (jk ++ wt)) := hD
          refine lv_icmp_eq (tgt := 506) hx hb d_law_154 (by decide) (fun c_51 => ?_) (fun c_51 => ?_)
          · rw [if_pos c_51] at h
            refine lv_iinc (v := li + (7 : Int32)) (lv' := [(3, .int (li + (7 : Int32))), (0, .ref b), (1, .ref h0), (2, .ref g0)]) hx hb d_law_506 hl (k := 0) rfl rfl (by decide) rfl (fun ls hl => ?_)
            refine lv_goto (tgt := 18) hx hb d_law_509 (by decide) ?_
            have hP := va_P.part (cx := [(h0, .inr (4, [.ref h1, .ref h2, .ref h3, .ref h5, .int (nI kn)])), (h1, .inl (ct.2.1, 40, .inr (.inr (.inr (.inr (cfun kn ca)))))), (h2, .inr (1, [.long ra_13, .long rb_14, .long rc_15, .long rx_16, .long ry_17, .long rz_18, .int rs_19])), (h3, .inr (2, [.ref h2, .ref h4, .int sz, .int fc_, .int fn_])), (h4, .inl (ct.1, 3185, .inr (.inl ro))), (h5, .inr (2, [.ref h2, .ref h6, .int sq, .int gc_, .int gn_])), (h6, .inl (ct.1, 3185, .inr (.inl rp))), (g0, .inr (5, [.ref q1, .ref q2, .ref q3, .ref q4, .ref q5, .int cm_42, .int stp_43, .ref q6, .ref q7, .ref q8, .int mus, .int mc_, .int mb_, .ref q9])), (q1, .inl (ct.2.2, 9, .inl am_44)), (q2, .inl (ct.1, 240, .inr (.inl ac_45))), (q3, .inl (ct.1, 240, .inr (.inl al_46))), (q4, .inl (ct.2.2, 40, .inl ay_47)), (q5, .inl (ct.2.2, 40, .inl as__48)), (q6, .inl (ct.1, 6, .inr (.inl ax_49))), (q7, .inl (ct.1, 3000, .inr (.inl au))), (q8, .inl (ct.2.2, 500, .inl ao)), (q9, .inl (ct.1, 3000, .inr (.inl at_)))]) hP [7, 8, 9, 10, 11, 12, 13, 0, 1, 2, 3, 4, 5, 6, 14, 15, 16] rfl
            have hD := va_D.part (cx := [(h0, .inr (4, [.ref h1, .ref h2, .ref h3, .ref h5, .int (nI kn)])), (h1, .inl (ct.2.1, 40, .inr (.inr (.inr (.inr (cfun kn ca)))))), (h2, .inr (1, [.long ra_13, .long rb_14, .long rc_15, .long rx_16, .long ry_17, .long rz_18, .int rs_19])), (h3, .inr (2, [.ref h2, .ref h4, .int sz, .int fc_, .int fn_])), (h4, .inl (ct.1, 3185, .inr (.inl ro))), (h5, .inr (2, [.ref h2, .ref h6, .int sq, .int gc_, .int gn_])), (h6, .inl (ct.1, 3185, .inr (.inl rp))), (g0, .inr (5, [.ref q1, .ref q2, .ref q3, .ref q4, .ref q5, .int cm_42, .int stp_43, .ref q6, .ref q7, .ref q8, .int mus, .int mc_, .int mb_, .ref q9])), (q1, .inl (ct.2.2, 9, .inl am_44)), (q2, .inl (ct.1, 240, .inr (.inl ac_45))), (q3, .inl (ct.1, 240, .inr (.inl al_46))), (q4, .inl (ct.2.2, 40, .inl ay_47)), (q5, .inl (ct.2.2, 40, .inl as__48)), (q6, .inl (ct.1, 6, .inr (.inl ax_49))), (q7, .inl (ct.1, 3000, .inr (.inl au))), (q8, .inl (ct.2.2, 500, .inl ao)), (q9, .inl (ct.1, 3000, .inr (.inl at_)))]) hD [7, 8, 9, 10, 11, 12, 13, 0, 1, 2, 3, 4, 5, 6, 14, 15, 16] (by decide) rfl
            exact ih (li + (7 : Int32)) kn td lw sy sh ro sz fc_ fn_ rp sq gc_ gn_ ra_13 rb_14 rc_15 rx_16 ry_17 rz_18 rs_19 cm_42 stp_43 mus mc_ mb_ am_44 ac_45 al_46 ay_47 as__48 ax_49 au ao at_ h h0 h1 h2 h3 h4 h5 h6 g0 q1 q2 q3 q4 q5 q6 q7 q8 q9 ca ta la wt _ _ cc ss (by omega) (by omega) hk40 hpool hP hD hS ls (lv_sub hl [0, 1, 2, 3] rfl)
          · rw [if_neg c_51] at h
            refine lv_iconst (v := (0 : Int32)) hx hb d_law_157 (by decide) ?_
            exact absurd (Option.some.inj h) (by decide)
        · rw [if_neg (by rw [hf9]; decide)] at h
          rw [ht9] at hP
          rw [(cell_cnt hk40 e_34 hf9).2, cfun_push (by omega)] at hP hD
          have hP := vP_perm (ws := [(h0, .inr (4, [.ref h1, .ref h2, .ref h3, .ref h5, .int (nI (kn + 1))])), (h1, .inl (ct.2.1, 40, .inr (.inr (.inr (.inr (cfun (kn + 1) (va_up ca kn qc))))))), (h2, .inr (1, [.long ra_13, .long rb_14, .long rc_15, .long rx_16, .long ry_17, .long rz_18, .int rs_19])), (h3, .inr (2, [.ref h2, .ref h4, .int sz, .int fc_, .int fn_])), (h4, .inl (ct.1, 3185, .inr (.inl ro))), (h5, .inr (2, [.ref h2, .ref h6, .int sq, .int gc_, .int gn_])), (h6, .inl (ct.1, 3185, .inr (.inl rp)))] ++ ([(qc, .inr (3, [.ref qt, .ref ql, .int nsy_32, .int nsh_33])), (qt, .inr (0, p6 (ta1_20, ta2_21, ta3_22, ta4_23, ta5_24, ta6_25))), (ql, .inr (0, p6 (la1_26, la2_27, la3_28, la4_29, la5_30, la6_31)))] ++ ([(g0, .inr (5, [.ref q1, .ref q2, .ref q3, .ref q4, .ref q5, .int cm, .int stp, .ref q6, .ref q7, .ref q8, .int mus, .int mc_, .int mb_, .ref q9])), (q1, .inl (ct.2.2, 9, .inl am)), (q2, .inl (ct.1, 240, .inr (.inl ac))), (q3, .inl (ct.1, 240, .inr (.inl al))), (q4, .inl (ct.2.2, 40, .inl ay)), (q5, .inl (ct.2.2, 40, .inl as_)), (q6, .inl (ct.1, 6, .inr (.inl ax))), (q7, .inl (ct.1, 3000, .inr (.inl au))), (q8, .inl (ct.2.2, 500, .inl ao)), (q9, .inl (ct.1, 3000, .inr (.inl at_)))] ++ wt))) hP (mid_perm [(h0, .inr (4, [.ref h1, .ref h2, .ref h3, .ref h5, .int (nI (kn + 1))])), (h1, .inl (ct.2.1, 40, .inr (.inr (.inr (.inr (cfun (kn + 1) (va_up ca kn qc))))))), (h2, .inr (1, [.long ra_13, .long rb_14, .long rc_15, .long rx_16, .long ry_17, .long rz_18, .int rs_19])), (h3, .inr (2, [.ref h2, .ref h4, .int sz, .int fc_, .int fn_])), (h4, .inl (ct.1, 3185, .inr (.inl ro))), (h5, .inr (2, [.ref h2, .ref h6, .int sq, .int gc_, .int gn_])), (h6, .inl (ct.1, 3185, .inr (.inl rp)))] [(qc, .inr (3, [.ref qt, .ref ql, .int nsy_32, .int nsh_33])), (qt, .inr (0, p6 (ta1_20, ta2_21, ta3_22, ta4_23, ta5_24, ta6_25))), (ql, .inr (0, p6 (la1_26, la2_27, la3_28, la4_29, la5_30, la6_31)))] [(g0, .inr (5, [.ref q1, .ref q2, .ref q3, .ref q4, .ref q5, .int cm, .int stp, .ref q6, .ref q7, .ref q8, .int mus, .int mc_, .int mb_, .ref q9])), (q1, .inl (ct.2.2, 9, .inl am)), (q2, .inl (ct.1, 240, .inr (.inl ac))), (q3, .inl (ct.1, 240, .inr (.inl al))), (q4, .inl (ct.2.2, 40, .inl ay)), (q5, .inl (ct.2.2, 40, .inl as_)), (q6, .inl (ct.1, 6, .inr (.inl ax))), (q7, .inl (ct.1, 3000, .inr (.inl au))), (q8, .inl (ct.2.2, 500, .inl ao)), (q9, .inl (ct.1, 3000, .inr (.inl at_)))] wt)
          have hD := vD_perm (ws := [(h0, .inr (4, [.ref h1, .ref h2, .ref h3, .ref h5, .int (nI (kn + 1))])), (h1, .inl (ct.2.1, 40, .inr (.inr (.inr (.inr (cfun (kn + 1) (va_up ca kn qc))))))), (h2, .inr (1, [.long ra_13, .long rb_14, .long rc_15, .long rx_16, .long ry_17, .long rz_18, .int rs_19])), (h3, .inr (2, [.ref h2, .ref h4, .int sz, .int fc_, .int fn_])), (h4, .inl (ct.1, 3185, .inr (.inl ro))), (h5, .inr (2, [.ref h2, .ref h6, .int sq, .int gc_, .int gn_])), (h6, .inl (ct.1, 3185, .inr (.inl rp)))] ++ ([(qc, .inr (3, [.ref qt, .ref ql, .int nsy_32, .int nsh_33])), (qt, .inr (0, p6 (ta1_20, ta2_21, ta3_22, ta4_23, ta5_24, ta6_25))), (ql, .inr (0, p6 (la1_26, la2_27, la3_28, la4_29, la5_30, la6_31)))] ++ ([(g0, .inr (5, [.ref q1, .ref q2, .ref q3, .ref q4, .ref q5, .int cm, .int stp, .ref q6, .ref q7, .ref q8, .int mus, .int mc_, .int mb_, .ref q9])), (q1, .inl (ct.2.2, 9, .inl am)), (q2, .inl (ct.1, 240, .inr (.inl ac))), (q3, .inl (ct.1, 240, .inr (.inl al))), (q4, .inl (ct.2.2, 40, .inl ay)), (q5, .inl (ct.2.2, 40, .inl as_)), (q6, .inl (ct.1, 6, .inr (.inl ax))), (q7, .inl (ct.1, 3000, .inr (.inl au))), (q8, .inl (ct.2.2, 500, .inl ao)), (q9, .inl (ct.1, 3000, .inr (.inl at_)))] ++ wt))) hD (mid_perm [(h0, .inr (4, [.ref h1, .ref h2, .ref h3, .ref h5, .int (nI (kn + 1))])), (h1, .inl (ct.2.1, 40, .inr (.inr (.inr (.inr (cfun (kn + 1) (va_up ca kn qc))))))), (h2, .inr (1, [.long ra_13, .long rb_14, .long rc_15, .long rx_16, .long ry_17, .long rz_18, .int rs_19])), (h3, .inr (2, [.ref h2, .ref h4, .int sz, .int fc_, .int fn_])), (h4, .inl (ct.1, 3185, .inr (.inl ro))), (h5, .inr (2, [.ref h2, .ref h6, .int sq, .int gc_, .int gn_])), (h6, .inl (ct.1, 3185, .inr (.inl rp)))] [(qc, .inr (3, [.ref qt, .ref ql, .int nsy_32, .int nsh_33])), (qt, .inr (0, p6 (ta1_20, ta2_21, ta3_22, ta4_23, ta5_24, ta6_25))), (ql, .inr (0, p6 (la1_26, la2_27, la3_28, la4_29, la5_30, la6_31)))] [(g0, .inr (5, [.ref q1, .ref q2, .ref q3, .ref q4, .ref q5, .int cm, .int stp, .ref q6, .ref q7, .ref q8, .int mus, .int mc_, .int mb_, .ref q9])), (q1, .inl (ct.2.2, 9, .inl am)), (q2, .inl (ct.1, 240, .inr (.inl ac))), (q3, .inl (ct.1, 240, .inr (.inl al))), (q4, .inl (ct.2.2, 40, .inl ay)), (q5, .inl (ct.2.2, 40, .inl as_)), (q6, .inl (ct.1, 6, .inr (.inl ax))), (q7, .inl (ct.1, 3000, .inr (.inl au))), (q8, .inl (ct.2.2, 500, .inl ao)), (q9, .inl (ct.1, 3000, .inr (.inl at_)))] wt)
          have hP : va_P D classes ([(h0, .inr (4, [.ref h1, .ref h2, .ref h3, .ref h5, .int (nI (kn + 1))])), (h1, .inl (ct.2.1, 40, .inr (.inr (.inr (.inr (cfun (kn + 1) (va_up ca kn qc))))))), (h2, .inr (1, [.long ra_13, .long rb_14, .long rc_15, .long rx_16, .long ry_17, .long rz_18, .int rs_19])), (h3, .inr (2, [.ref h2, .ref h4, .int sz, .int fc_, .int fn_])), (h4, .inl (ct.1, 3185, .inr (.inl ro))), (h5, .inr (2, [.ref h2, .ref h6, .int sq, .int gc_, .int gn_])), (h6, .inl (ct.1, 3185, .inr (.inl rp))), (g0, .inr (5, [.ref q1, .ref q2, .ref q3, .ref q4, .ref q5, .int cm, .int stp, .ref q6, .ref q7, .ref q8, .int mus, .int mc_, .int mb_, .ref q9])), (q1, .inl (ct.2.2, 9, .inl am)), (q2, .inl (ct.1, 240, .inr (.inl ac))), (q3, .inl (ct.1, 240, .inr (.inl al))), (q4, .inl (ct.2.2, 40, .inl ay)), (q5, .inl (ct.2.2, 40, .inl as_)), (q6, .inl (ct.1, 6, .inr (.inl ax))), (q7, .inl (ct.1, 3000, .inr (.inl au))), (q8, .inl (ct.2.2, 500, .inl ao)), (q9, .inl (ct.1, 3000, .inr (.inl at_)))] ++ ([(qc, .inr (3, [.ref qt, .ref ql, .int nsy_32, .int nsh_33])), (qt, .inr (0, p6 (ta1_20, ta2_21, ta3_22, ta4_23, ta5_24, ta6_25))), (ql, .inr (0, p6 (la1_26, la2_27, la3_28, la4_29, la5_30, la6_31)))] ++ wt)) H := hP
          have hD : va_D (fun q : Nat => s.heap.size ≤ q) ([(h0, .inr (4, [.ref h1, .ref h2, .ref h3, .ref h5, .int (nI (kn + 1))])), (h1, .inl (ct.2.1, 40, .inr (.inr (.inr (.inr (cfun (kn + 1) (va_up ca kn qc))))))), (h2, .inr (1, [.long ra_13, .long rb_14, .long rc_15, .long rx_16, .long ry_17, .long rz_18, .int rs_19])), (h3, .inr (2, [.ref h2, .ref h4, .int sz, .int fc_, .int fn_])), (h4, .inl (ct.1, 3185, .inr (.inl ro))), (h5, .inr (2, [.ref h2, .ref h6, .int sq, .int gc_, .int gn_])), (h6, .inl (ct.1, 3185, .inr (.inl rp))), (g0, .inr (5, [.ref q1, .ref q2, .ref q3, .ref q4, .ref q5, .int cm, .int stp, .ref q6, .ref q7, .ref q8, .int mus, .int mc_, .int mb_, .ref q9])), (q1, .inl (ct.2.2, 9, .inl am)), (q2, .inl (ct.1, 240, .inr (.inl ac))), (q3, .inl (ct.1, 240, .inr (.inl al))), (q4, .inl (ct.2.2, 40, .inl ay)), (q5, .inl (ct.2.2, 40, .inl as_)), (q6, .inl (ct.1, 6, .inr (.inl ax))), (q7, .inl (ct.1, 3000, .inr (.inl au))), (q8, .inl (ct.2.2, 500, .inl ao)), (q9, .inl (ct.1, 3000, .inr (.inl at_)))] ++ ([(qc, .inr (3, [.ref qt, .ref ql, .int nsy_32, .int nsh_33])), (qt, .inr (0, p6 (ta1_20, ta2_21, ta3_22, ta4_23, ta5_24, ta6_25))), (ql, .inr (0, p6 (la1_26, la2_27, la3_28, la4_29, la5_30, la6_31)))] ++ wt)) := hD
          refine lv_aload_n hx hb d_law_119 rfl (lv_at hl 3 rfl) ?_
          refine lv_aload_n hx hb d_law_120 rfl (lv_at hl 1 rfl) ?_
          refine lv_iload_n hx hb d_law_121 rfl (lv_at hl 0 rfl) ?_
          refine lv_iconst (v := (1 : Int32)) hx hb d_law_122 (by decide) ?_
          refine lv_iadd hx hb d_law_123 ?_
          by_cases b_53 : inb (li + (1 : Int32)) L = true
          rotate_left
          · rw [if_neg b_53] at h; cases h
          rw [if_pos b_53] at h
          refine va_sld hx hb hX hbl hbA hS (inb_in b_53) d_law_124 ?_
          refine lv_aload_n hx hb d_law_125 rfl (lv_at hl 1 rfl) ?_
          refine lv_iload_n hx hb d_law_126 rfl (lv_at hl 0 rfl) ?_
          refine lv_iconst (v := (2 : Int32)) hx hb d_law_127 (by decide) ?_
          refine lv_iadd hx hb d_law_128 ?_
          by_cases b_54 : inb (li + (2 : Int32)) L = true
          rotate_left
          · rw [if_neg b_54] at h; cases h
          rw [if_pos b_54] at h
          refine va_sld hx hb hX hbl hbA hS (inb_in b_54) d_law_129 ?_
          refine lv_aload_n hx hb d_law_130 rfl (lv_at hl 1 rfl) ?_
          refine lv_iload_n hx hb d_law_131 rfl (lv_at hl 0 rfl) ?_
          refine lv_iconst (v := (3 : Int32)) hx hb d_law_132 (by decide) ?_
          refine lv_iadd hx hb d_law_133 ?_
          by_cases b_55 : inb (li + (3 : Int32)) L = true
          rotate_left
          · rw [if_neg b_55] at h; cases h
          rw [if_pos b_55] at h
          refine va_sld hx hb hX hbl hbA hS (inb_in b_55) d_law_134 ?_
          refine lv_aload_n hx hb d_law_135 rfl (lv_at hl 1 rfl) ?_
          refine lv_iload_n hx hb d_law_136 rfl (lv_at hl 0 rfl) ?_
          refine lv_iconst (v := (4 : Int32)) hx hb d_law_137 (by decide) ?_
          refine lv_iadd hx hb d_law_138 ?_
          by_cases b_56 : inb (li + (4 : Int32)) L = true
          rotate_left
          · rw [if_neg b_56] at h; cases h
          rw [if_pos b_56] at h
          refine va_sld hx hb hX hbl hbA hS (inb_in b_56) d_law_139 ?_
          refine lv_aload_n hx hb d_law_140 rfl (lv_at hl 1 rfl) ?_
          refine lv_iload_n hx hb d_law_141 rfl (lv_at hl 0 rfl) ?_
          refine lv_iconst (v := (5 : Int32)) hx hb d_law_142 (by decide) ?_
          refine lv_iadd hx hb d_law_143 ?_
          by_cases b_57 : inb (li + (5 : Int32)) L = true
          rotate_left
          · rw [if_neg b_57] at h; cases h
          rw [if_pos b_57] at h
          refine va_sld hx hb hX hbl hbA hS (inb_in b_57) d_law_144 ?_
          refine lv_aload_n hx hb d_law_145 rfl (lv_at hl 1 rfl) ?_
          refine lv_iload_n hx hb d_law_146 rfl (lv_at hl 0 rfl) ?_
          refine lv_bipush (v := (6 : Int32)) hx hb d_law_147 (by decide) ?_
          refine lv_iadd hx hb d_law_149 ?_
          by_cases b_58 : inb (li + (6 : Int32)) L = true
          rotate_left
          · rw [if_neg b_58] at h; cases h
          rw [if_pos b_58] at h
          refine va_sld hx hb hX hbl hbA hS (inb_in b_58) d_law_150 ?_
          have hP := va_P.part (cx := [(g0, .inr (5, [.ref q1, .ref q2, .ref q3, .ref q4, .ref q5, .int cm, .int stp, .ref q6, .ref q7, .ref q8, .int mus, .int mc_, .int mb_, .ref q9])), (q1, .inl (ct.2.2, 9, .inl am)), (q2, .inl (ct.1, 240, .inr (.inl ac))), (q3, .inl (ct.1, 240, .inr (.inl al))), (q4, .inl (ct.2.2, 40, .inl ay)), (q5, .inl (ct.2.2, 40, .inl as_)), (q6, .inl (ct.1, 6, .inr (.inl ax))), (h0, .inr (4, [.ref h1, .ref h2, .ref h3, .ref h5, .int (nI (kn + 1))])), (h1, .inl (ct.2.1, 40, .inr (.inr (.inr (.inr (cfun (kn + 1) (va_up ca kn qc))))))), (h2, .inr (1, [.long ra_13, .long rb_14, .long rc_15, .long rx_16, .long ry_17, .long rz_18, .int rs_19])), (h3, .inr (2, [.ref h2, .ref h4, .int sz, .int fc_, .int fn_])), (h4, .inl (ct.1, 3185, .inr (.inl ro))), (h5, .inr (2, [.ref h2, .ref h6, .int sq, .int gc_, .int gn_])), (h6, .inl (ct.1, 3185, .inr (.inl rp))), (q7, .inl (ct.1, 3000, .inr (.inl au))), (q8, .inl (ct.2.2, 500, .inl ao)), (q9, .inl (ct.1, 3000, .inr (.inl at_)))]) hP [7, 8, 9, 10, 11, 12, 13, 0, 1, 2, 3, 4, 5, 6, 14, 15, 16] rfl
          have hD := va_D.part (cx := [(g0, .inr (5, [.ref q1, .ref q2, .ref q3, .ref q4, .ref q5, .int cm, .int stp, .ref q6, .ref q7, .ref q8, .int mus, .int mc_, .int mb_, .ref q9])), (q1, .inl (ct.2.2, 9, .inl am)), (q2, .inl (ct.1, 240, .inr (.inl ac))), (q3, .inl (ct.1, 240, .inr (.inl al))), (q4, .inl (ct.2.2, 40, .inl ay)), (q5, .inl (ct.2.2, 40, .inl as_)), (q6, .inl (ct.1, 6, .inr (.inl ax))), (h0, .inr (4, [.ref h1, .ref h2, .ref h3, .ref h5, .int (nI (kn + 1))])), (h1, .inl (ct.2.1, 40, .inr (.inr (.inr (.inr (cfun (kn + 1) (va_up ca kn qc))))))), (h2, .inr (1, [.long ra_13, .long rb_14, .long rc_15, .long rx_16, .long ry_17, .long rz_18, .int rs_19])), (h3, .inr (2, [.ref h2, .ref h4, .int sz, .int fc_, .int fn_])), (h4, .inl (ct.1, 3185, .inr (.inl ro))), (h5, .inr (2, [.ref h2, .ref h6, .int sq, .int gc_, .int gn_])), (h6, .inl (ct.1, 3185, .inr (.inl rp))), (q7, .inl (ct.1, 3000, .inr (.inl au))), (q8, .inl (ct.2.2, 500, .inl ao)), (q9, .inl (ct.1, 3000, .inr (.inl at_)))]) hD [7, 8, 9, 10, 11, 12, 13, 0, 1, 2, 3, 4, 5, 6, 14, 15, 16] (by decide) rfl
          rcases e_68 : f_M_cell cm stp am ac al ay as_ ax (xs (li + (1 : Int32)).toNatClampNeg) (xs (li + (2 : Int32)).toNatClampNeg) (xs (li + (3 : Int32)).toNatClampNeg) (xs (li + (4 : Int32)).toNatClampNeg) (xs (li + (5 : Int32)).toNatClampNeg) (xs (li + (6 : Int32)).toNatClampNeg) with _ | ⟨r_59, cm_60, stp_61, am_62, ac_63, al_64, ay_65, as__66, ax_67⟩
          · rw [e_68] at h; cases h
          rw [e_68, Option.bind_some] at h
          try dsimp only at h
          refine va_calli (va_runV (As := [.int (xs (li + (1 : Int32)).toNatClampNeg), .int (xs (li + (2 : Int32)).toNatClampNeg), .int (xs (li + (3 : Int32)).toNatClampNeg), .int (xs (li + (4 : Int32)).toNatClampNeg), .int (xs (li + (5 : Int32)).toNatClampNeg), .int (xs (li + (6 : Int32)).toNatClampNeg)]) (rest := [.int r_10]) ⟨hx, hb, hml, hown, htg⟩ (c_M_cell l D ct A ([(h0, .inr (4, [.ref h1, .ref h2, .ref h3, .ref h5, .int (nI (kn + 1))])), (h1, .inl (ct.2.1, 40, .inr (.inr (.inr (.inr (cfun (kn + 1) (va_up ca kn qc))))))), (h2, .inr (1, [.long ra_13, .long rb_14, .long rc_15, .long rx_16, .long ry_17, .long rz_18, .int rs_19])), (h3, .inr (2, [.ref h2, .ref h4, .int sz, .int fc_, .int fn_])), (h4, .inl (ct.1, 3185, .inr (.inl ro))), (h5, .inr (2, [.ref h2, .ref h6, .int sq, .int gc_, .int gn_])), (h6, .inl (ct.1, 3185, .inr (.inl rp))), (q7, .inl (ct.1, 3000, .inr (.inl au))), (q8, .inl (ct.2.2, 500, .inl ao)), (q9, .inl (ct.1, 3000, .inr (.inl at_)))] ++ wt)  g0 q1 q2 q3 q4 q5 q6 q7 q8 q9 cm stp mus mc_ mb_ am ac al ay as_ ax (xs (li + (1 : Int32)).toNatClampNeg) (xs (li + (2 : Int32)).toNatClampNeg) (xs (li + (3 : Int32)).toNatClampNeg) (xs (li + (4 : Int32)).toNatClampNeg) (xs (li + (5 : Int32)).toNatClampNeg) (xs (li + (6 : Int32)).toNatClampNeg)   _ e_68) (cwV 6 htg (giV tm_442 tm_443 tm_444 tm_34 g_M_cell) rfl rfl rfl (by decide +kernel) ⟨Nat.le_of_ble_eq_true rfl, Nat.le_of_ble_eq_true rfl⟩) (preVM hA hS hP hD hKK (va_recv hK hP (ci := 5) (q0 := 0) rfl rfl)) rfl rfl hl.1 rfl (lv_room (Nat.le_of_ble_eq_true rfl)) d_law_151 ⟨show cc + 0 ≤ 600000 by omega, show ss + 0 ≤ 7302250 by omega⟩) hS (fun q _ h9 => h9) (fun q h9 => h9) (fun r9 u9 t9 H locs ht9 hvm9 hw9 hB9 hz9 hk9 hS => ?_)
          obtain ⟨hw8, hw9⟩ := Prod.mk.inj hw9
          rw [hw8]
          rw [hw9] at hB9
          obtain ⟨hP, hD⟩ := hB9
          rw [ht9] at hP
          have hP : va_P D classes ([(g0, .inr (5, [.ref q1, .ref q2, .ref q3, .ref q4, .ref q5, .int cm_60, .int stp_61, .ref q6, .ref q7, .ref q8, .int mus, .int mc_, .int mb_, .ref q9])), (q1, .inl (ct.2.2, 9, .inl am_62)), (q2, .inl (ct.1, 240, .inr (.inl ac_63))), (q3, .inl (ct.1, 240, .inr (.inl al_64))), (q4, .inl (ct.2.2, 40, .inl ay_65)), (q5, .inl (ct.2.2, 40, .inl as__66)), (q6, .inl (ct.1, 6, .inr (.inl ax_67))), (h0, .inr (4, [.ref h1, .ref h2, .ref h3, .ref h5, .int (nI (kn + 1))])), (h1, .inl (ct.2.1, 40, .inr (.inr (.inr (.inr (cfun (kn + 1) (va_up ca kn qc))))))), (h2, .inr (1, [.long ra_13, .long rb_14, .long rc_15, .long rx_16, .long ry_17, .long rz_18, .int rs_19])), (h3, .inr (2, [.ref h2, .ref h4, .int sz, .int fc_, .int fn_])), (h4, .inl (ct.1, 3185, .inr (.inl ro))), (h5, .inr (2, [.ref h2, .ref h6, .int sq, .int gc_, .int gn_])), (h6, .inl (ct.1, 3185, .inr (.inl rp))), (q7, .inl (ct.1, 3000, .inr (.inl au))), (q8, .inl (ct.2.2, 500, .inl ao)), (q9, .inl (ct.1, 3000, .inr (.inl at_)))] ++ ([(qc, .inr (3, [.ref qt, .ref ql, .int nsy_32, .int nsh_33])), (qt, .inr (0, p6 (ta1_20, ta2_21, ta3_22, ta4_23, ta5_24, ta6_25))), (ql, .inr (0, p6 (la1_26, la2_27, la3_28, la4_29, la5_30, la6_31)))] ++ wt)) H := hP
          have hD : va_D A ([(g0, .inr (5, [.ref q1, .ref q2, .ref q3, .ref q4, .ref q5, .int cm_60, .int stp_61, .ref q6, .ref q7, .ref q8, .int mus, .int mc_, .int mb_, .ref q9])), (q1, .inl (ct.2.2, 9, .inl am_62)), (q2, .inl (ct.1, 240, .inr (.inl ac_63))), (q3, .inl (ct.1, 240, .inr (.inl al_64))), (q4, .inl (ct.2.2, 40, .inl ay_65)), (q5, .inl (ct.2.2, 40, .inl as__66)), (q6, .inl (ct.1, 6, .inr (.inl ax_67))), (h0, .inr (4, [.ref h1, .ref h2, .ref h3, .ref h5, .int (nI (kn + 1))])), (h1, .inl (ct.2.1, 40, .inr (.inr (.inr (.inr (cfun (kn + 1) (va_up ca kn qc))))))), (h2, .inr (1, [.long ra_13, .long rb_14, .long rc_15, .long rx_16, .long ry_17, .long rz_18, .int rs_19])), (h3, .inr (2, [.ref h2, .ref h4, .int sz, .int fc_, .int fn_])), (h4, .inl (ct.1, 3185, .inr (.inl ro))), (h5, .inr (2, [.ref h2, .ref h6, .int sq, .int gc_, .int gn_])), (h6, .inl (ct.1, 3185, .inr (.inl rp))), (q7, .inl (ct.1, 3000, .inr (.inl au))), (q8, .inl (ct.2.2, 500, .inl ao)), (q9, .inl (ct.1, 3000, .inr (.inl at_)))] ++ ([(qc, .inr (3, [.ref qt, .ref ql, .int nsy_32, .int nsh_33])), (qt, .inr (0, p6 (ta1_20, ta2_21, ta3_22, ta4_23, ta5_24, ta6_25))), (ql, .inr (0, p6 (la1_26, la2_27, la3_28, la4_29, la5_30, la6_31)))] ++ wt)) := hD
          refine lv_icmp_eq (tgt := 506) hx hb d_law_154 (by decide) (fun c_69 => ?_) (fun c_69 => ?_)
          · rw [if_pos c_69] at h
            refine lv_iinc (v := li + (7 : Int32)) (lv' := [(3, .int (li + (7 : Int32))), (0, .ref b), (1, .ref h0), (2, .ref g0)]) hx hb d_law_506 hl (k := 0) rfl rfl (by decide) rfl (fun ls hl => ?_)
            refine lv_goto (tgt := 18) hx hb d_law_509 (by decide) ?_
            have hP := va_P.part (cx := [(h0, .inr (4, [.ref h1, .ref h2, .ref h3, .ref h5, .int (nI (kn + 1))])), (h1, .inl (ct.2.1, 40, .inr (.inr (.inr (.inr (cfun (kn + 1) (va_up ca kn qc))))))), (h2, .inr (1, [.long ra_13, .long rb_14, .long rc_15, .long rx_16, .long ry_17, .long rz_18, .int rs_19])), (h3, .inr (2, [.ref h2, .ref h4, .int sz, .int fc_, .int fn_])), (h4, .inl (ct.1, 3185, .inr (.inl ro))), (h5, .inr (2, [.ref h2, .ref h6, .int sq, .int gc_, .int gn_])), (h6, .inl (ct.1, 3185, .inr (.inl rp))), (g0, .inr (5, [.ref q1, .ref q2, .ref q3, .ref q4, .ref q5, .int cm_60, .int stp_61, .ref q6, .ref q7, .ref q8, .int mus, .int mc_, .int mb_, .ref q9])), (q1, .inl (ct.2.2, 9, .inl am_62)), (q2, .inl (ct.1, 240, .inr (.inl ac_63))), (q3, .inl (ct.1, 240, .inr (.inl al_64))), (q4, .inl (ct.2.2, 40, .inl ay_65)), (q5, .inl (ct.2.2, 40, .inl as__66)), (q6, .inl (ct.1, 6, .inr (.inl ax_67))), (q7, .inl (ct.1, 3000, .inr (.inl au))), (q8, .inl (ct.2.2, 500, .inl ao)), (q9, .inl (ct.1, 3000, .inr (.inl at_)))]) hP [7, 8, 9, 10, 11, 12, 13, 0, 1, 2, 3, 4, 5, 6, 14, 15, 16] rfl
            have hD := va_D.part (cx := [(h0, .inr (4, [.ref h1, .ref h2, .ref h3, .ref h5, .int (nI (kn + 1))])), (h1, .inl (ct.2.1, 40, .inr (.inr (.inr (.inr (cfun (kn + 1) (va_up ca kn qc))))))), (h2, .inr (1, [.long ra_13, .long rb_14, .long rc_15, .long rx_16, .long ry_17, .long rz_18, .int rs_19])), (h3, .inr (2, [.ref h2, .ref h4, .int sz, .int fc_, .int fn_])), (h4, .inl (ct.1, 3185, .inr (.inl ro))), (h5, .inr (2, [.ref h2, .ref h6, .int sq, .int gc_, .int gn_])), (h6, .inl (ct.1, 3185, .inr (.inl rp))), (g0, .inr (5, [.ref q1, .ref q2, .ref q3, .ref q4, .ref q5, .int cm_60, .int stp_61, .ref q6, .ref q7, .ref q8, .int mus, .int mc_, .int mb_, .ref q9])), (q1, .inl (ct.2.2, 9, .inl am_62)), (q2, .inl (ct.1, 240, .inr (.inl ac_63))), (q3, .inl (ct.1, 240, .inr (.inl al_64))), (q4, .inl (ct.2.2, 40, .inl ay_65)), (q5, .inl (ct.2.2, 40, .inl as__66)), (q6, .inl (ct.1, 6, .inr (.inl ax_67))), (q7, .inl (ct.1, 3000, .inr (.inl au))), (q8, .inl (ct.2.2, 500, .inl ao)), (q9, .inl (ct.1, 3000, .inr (.inl at_)))]) hD [7, 8, 9, 10, 11, 12, 13, 0, 1, 2, 3, 4, 5, 6, 14, 15, 16] (by decide) rfl
            exact ih (li + (7 : Int32)) kn td lw sy sh ro sz fc_ fn_ rp sq gc_ gn_ ra_13 rb_14 rc_15 rx_16 ry_17 rz_18 rs_19 cm_60 stp_61 mus mc_ mb_ am_62 ac_63 al_64 ay_65 as__66 ax_67 au ao at_ h h0 h1 h2 h3 h4 h5 h6 g0 q1 q2 q3 q4 q5 q6 q7 q8 q9 ca ta la wt _ _ cc ss (by omega) (by omega) hk40 hpool hP hD hS ls (lv_sub hl [0, 1, 2, 3] rfl)
          · rw [if_neg c_69] at h
            refine lv_iconst (v := (0 : Int32)) hx hb d_law_157 (by decide) ?_
            exact absurd (Option.some.inj h) (by decide)
      rw [if_neg c_3] at h
      by_cases c_72 : ((xs li.toNatClampNeg) &&& (15 : Int32)) = (1 : Int32)
      · rw [if_pos c_72] at h
        refine lv_tableIn (off := 126) (tgt := 159) hx hb d_law_33 (by rw [c_72]; decide) (by rw [c_72]; decide) (by rw [c_72]; rfl) (by decide) ?_
        refine lv_aload_n hx hb d_law_159 rfl (lv_at hl 2 rfl) ?_
        refine lv_aload_n hx hb d_law_160 rfl (lv_at hl 1 rfl) ?_
        refine lv_iload_n hx hb d_law_161 rfl (lv_at hl 0 rfl) ?_
        refine lv_iconst (v := (1 : Int32)) hx hb d_law_162 (by decide) ?_
        refine lv_iadd hx hb d_law_163 ?_
        by_cases b_73 : inb (li + (1 : Int32)) L = true
        rotate_left
        · rw [if_neg b_73] at h; cases h
        rw [if_pos b_73] at h
        refine va_sld hx hb hX hbl hbA hS (inb_in b_73) d_law_164 ?_
        refine lv_aload_n hx hb d_law_165 rfl (lv_at hl 1 rfl) ?_
        refine lv_iload_n hx hb d_law_166 rfl (lv_at hl 0 rfl) ?_
        refine lv_iconst (v := (2 : Int32)) hx hb d_law_167 (by decide) ?_
        refine lv_iadd hx hb d_law_168 ?_
        by_cases b_74 : inb (li + (2 : Int32)) L = true
        rotate_left
        · rw [if_neg b_74] at h; cases h
        rw [if_pos b_74] at h
        refine va_sld hx hb hX hbl hbA hS (inb_in b_74) d_law_169 ?_
        rcases e_75 : f_B_reduced td lw sy sh kn (xs (li + (1 : Int32)).toNatClampNeg) (xs (li + (2 : Int32)).toNatClampNeg) with _ | v_76
        · rw [e_75] at h; cases h
        rw [e_75, Option.bind_some] at h
        try dsimp only at h
        refine vp_callSl (va_Run.run (va_runV (As := [.int (xs (li + (1 : Int32)).toNatClampNeg), .int (xs (li + (2 : Int32)).toNatClampNeg)]) (rest := []) ⟨hx, hb, hml, hown, htg⟩ (c_B_reduced l D ct ([(h0, .inr (4, [.ref h1, .ref h2, .ref h3, .ref h5, .int (nI kn)])), (h1, .inl (ct.2.1, 40, .inr (.inr (.inr (.inr (cfun kn ca)))))), (h2, .inr (1, [.long ra, .long rb, .long rc, .long rx, .long ry, .long rz, .int rs])), (h3, .inr (2, [.ref h2, .ref h4, .int sz, .int fc_, .int fn_])), (h4, .inl (ct.1, 3185, .inr (.inl ro))), (h5, .inr (2, [.ref h2, .ref h6, .int sq, .int gc_, .int gn_])), (h6, .inl (ct.1, 3185, .inr (.inl rp))), (g0, .inr (5, [.ref q1, .ref q2, .ref q3, .ref q4, .ref q5, .int cm, .int stp, .ref q6, .ref q7, .ref q8, .int mus, .int mc_, .int mb_, .ref q9])), (q1, .inl (ct.2.2, 9, .inl am)), (q2, .inl (ct.1, 240, .inr (.inl ac))), (q3, .inl (ct.1, 240, .inr (.inl al))), (q4, .inl (ct.2.2, 40, .inl ay)), (q5, .inl (ct.2.2, 40, .inl as_)), (q6, .inl (ct.1, 6, .inr (.inl ax))), (q7, .inl (ct.1, 3000, .inr (.inl au))), (q8, .inl (ct.2.2, 500, .inl ao)), (q9, .inl (ct.1, 3000, .inr (.inl at_)))] ++ wt) 0 1 h0 h1 h2 h3 h5 ca ta la td lw sy sh kn (xs (li + (1 : Int32)).toNatClampNeg) (xs (li + (2 : Int32)).toNatClampNeg) rfl rfl hk40 (hpool.app _) _ e_75) (cwV 2 htg (giV tm_274 tm_275 tm_276 tm_31 g_B_reduced) rfl rfl rfl (by decide +kernel) ⟨Nat.le_of_ble_eq_true rfl, Nat.le_of_ble_eq_true rfl⟩) (preV hP hKK (va_recv hK hP (ci := 4) (q0 := 0) rfl rfl)) rfl rfl hl.1 rfl (lv_room (Nat.le_of_ble_eq_true rfl)) d_law_170 ⟨show cc + 0 ≤ 600000 by omega, show ss + 0 ≤ 7302250 by omega⟩)) (fun r9 hr9 => ?_)
        have hr9 := hr9.symm
        subst hr9
        refine lv_aload_n hx hb d_law_173 rfl (lv_at hl 3 rfl) ?_
        refine lv_aload_n hx hb d_law_174 rfl (lv_at hl 1 rfl) ?_
        refine lv_iload_n hx hb d_law_175 rfl (lv_at hl 0 rfl) ?_
        refine lv_iconst (v := (1 : Int32)) hx hb d_law_176 (by decide) ?_
        refine lv_iadd hx hb d_law_177 ?_
        by_cases b_77 : inb (li + (1 : Int32)) L = true
        rotate_left
        · rw [if_neg b_77] at h; cases h
        rw [if_pos b_77] at h
        refine va_sld hx hb hX hbl hbA hS (inb_in b_77) d_law_178 ?_
        refine lv_aload_n hx hb d_law_179 rfl (lv_at hl 1 rfl) ?_
        refine lv_iload_n hx hb d_law_180 rfl (lv_at hl 0 rfl) ?_
        refine lv_iconst (v := (2 : Int32)) hx hb d_law_181 (by decide) ?_
        refine lv_iadd hx hb d_law_182 ?_
        by_cases b_78 : inb (li + (2 : Int32)) L = true
        rotate_left
        · rw [if_neg b_78] at h; cases h
        rw [if_pos b_78] at h
        refine va_sld hx hb hX hbl hbA hS (inb_in b_78) d_law_183 ?_
        rcases e_79 : f_M_reduced cm al ay as_ (xs (li + (1 : Int32)).toNatClampNeg) (xs (li + (2 : Int32)).toNatClampNeg) with _ | v_80
        · rw [e_79] at h; cases h
        rw [e_79, Option.bind_some] at h
        try dsimp only at h
        refine vp_callSl (va_Run.run (va_runV (As := [.int (xs (li + (1 : Int32)).toNatClampNeg), .int (xs (li + (2 : Int32)).toNatClampNeg)]) (rest := [.long v_76]) ⟨hx, hb, hml, hown, htg⟩ (c_M_reduced l D ct ([(h0, .inr (4, [.ref h1, .ref h2, .ref h3, .ref h5, .int (nI kn)])), (h1, .inl (ct.2.1, 40, .inr (.inr (.inr (.inr (cfun kn ca)))))), (h2, .inr (1, [.long ra, .long rb, .long rc, .long rx, .long ry, .long rz, .int rs])), (h3, .inr (2, [.ref h2, .ref h4, .int sz, .int fc_, .int fn_])), (h4, .inl (ct.1, 3185, .inr (.inl ro))), (h5, .inr (2, [.ref h2, .ref h6, .int sq, .int gc_, .int gn_])), (h6, .inl (ct.1, 3185, .inr (.inl rp))), (g0, .inr (5, [.ref q1, .ref q2, .ref q3, .ref q4, .ref q5, .int cm, .int stp, .ref q6, .ref q7, .ref q8, .int mus, .int mc_, .int mb_, .ref q9])), (q1, .inl (ct.2.2, 9, .inl am)), (q2, .inl (ct.1, 240, .inr (.inl ac))), (q3, .inl (ct.1, 240, .inr (.inl al))), (q4, .inl (ct.2.2, 40, .inl ay)), (q5, .inl (ct.2.2, 40, .inl as_)), (q6, .inl (ct.1, 6, .inr (.inl ax))), (q7, .inl (ct.1, 3000, .inr (.inl au))), (q8, .inl (ct.2.2, 500, .inl ao)), (q9, .inl (ct.1, 3000, .inr (.inl at_)))] ++ wt) 7 10 11 12 g0 q1 q2 q3 q4 q5 q6 q7 q8 q9 cm stp mus mc_ mb_ al ay as_ (xs (li + (1 : Int32)).toNatClampNeg) (xs (li + (2 : Int32)).toNatClampNeg) rfl rfl rfl rfl  _ e_79) (cwV 2 htg (giV tm_482 tm_483 tm_484 tm_34 g_M_reduced) rfl rfl rfl (by decide +kernel) ⟨Nat.le_of_ble_eq_true rfl, Nat.le_of_ble_eq_true rfl⟩) (preV hP hKK (va_recv hK hP (ci := 5) (q0 := 7) rfl rfl)) rfl rfl hl.1 rfl (lv_room (Nat.le_of_ble_eq_true rfl)) d_law_184 ⟨show cc + 0 ≤ 600000 by omega, show ss + 0 ≤ 7302250 by omega⟩)) (fun r9 hr9 => ?_)
        have hr9 := hr9.symm
        subst hr9
        refine W.lcmp hx hb d_law_187 ?_
        refine lv_if_eq (tgt := 506) hx hb d_law_188 (by decide) (fun c_81 => ?_) (fun c_81 => ?_)
        · rw [if_pos c_81] at h
          refine lv_iinc (v := li + (7 : Int32)) (lv' := [(3, .int (li + (7 : Int32))), (0, .ref b), (1, .ref h0), (2, .ref g0)]) hx hb d_law_506 hl (k := 0) rfl rfl (by decide) rfl (fun ls hl => ?_)
          refine lv_goto (tgt := 18) hx hb d_law_509 (by decide) ?_
          exact ih (li + (7 : Int32)) kn td lw sy sh ro sz fc_ fn_ rp sq gc_ gn_ ra rb rc rx ry rz rs cm stp mus mc_ mb_ am ac al ay as_ ax au ao at_ h h0 h1 h2 h3 h4 h5 h6 g0 q1 q2 q3 q4 q5 q6 q7 q8 q9 ca ta la wt _ _ cc ss (by omega) (by omega) hk40 hpool hP hD hS ls (lv_sub hl [0, 1, 2, 3] rfl)
        · rw [if_neg c_81] at h
          refine lv_iconst (v := (0 : Int32)) hx hb d_law_191 (by decide) ?_
          exact absurd (Option.some.inj h) (by decide)
      rw [if_neg c_72] at h
      by_cases c_84 : ((xs li.toNatClampNeg) &&& (15 : Int32)) = (2 : Int32)
      · rw [if_pos c_84] at h
        refine lv_tableIn (off := 160) (tgt := 193) hx hb d_law_33 (by rw [c_84]; decide) (by rw [c_84]; decide) (by rw [c_84]; rfl) (by decide) ?_
        refine lv_aload_n hx hb d_law_193 rfl (lv_at hl 2 rfl) ?_
        refine lv_aload_n hx hb d_law_194 rfl (lv_at hl 1 rfl) ?_
        refine lv_iload_n hx hb d_law_195 rfl (lv_at hl 0 rfl) ?_
        refine lv_iconst (v := (1 : Int32)) hx hb d_law_196 (by decide) ?_
        refine lv_iadd hx hb d_law_197 ?_
        by_cases b_85 : inb (li + (1 : Int32)) L = true
        rotate_left
        · rw [if_neg b_85] at h; cases h
        rw [if_pos b_85] at h
        refine va_sld hx hb hX hbl hbA hS (inb_in b_85) d_law_198 ?_
        refine lv_aload_n hx hb d_law_199 rfl (lv_at hl 1 rfl) ?_
        refine lv_iload_n hx hb d_law_200 rfl (lv_at hl 0 rfl) ?_
        refine lv_iconst (v := (2 : Int32)) hx hb d_law_201 (by decide) ?_
        refine lv_iadd hx hb d_law_202 ?_
        by_cases b_86 : inb (li + (2 : Int32)) L = true
        rotate_left
        · rw [if_neg b_86] at h; cases h
        rw [if_pos b_86] at h
        refine va_sld hx hb hX hbl hbA hS (inb_in b_86) d_law_203 ?_
        rcases e_87 : f_B_keeps td lw sy sh kn (xs (li + (1 : Int32)).toNatClampNeg) (xs (li + (2 : Int32)).toNatClampNeg) with _ | v_88
        · rw [e_87] at h; cases h
        rw [e_87, Option.bind_some] at h
        try dsimp only at h
        refine vp_callSi (va_Run.run (va_runV (As := [.int (xs (li + (1 : Int32)).toNatClampNeg), .int (xs (li + (2 : Int32)).toNatClampNeg)]) (rest := []) ⟨hx, hb, hml, hown, htg⟩ (c_B_keeps l D ct ([(h0, .inr (4, [.ref h1, .ref h2, .ref h3, .ref h5, .int (nI kn)])), (h1, .inl (ct.2.1, 40, .inr (.inr (.inr (.inr (cfun kn ca)))))), (h2, .inr (1, [.long ra, .long rb, .long rc, .long rx, .long ry, .long rz, .int rs])), (h3, .inr (2, [.ref h2, .ref h4, .int sz, .int fc_, .int fn_])), (h4, .inl (ct.1, 3185, .inr (.inl ro))), (h5, .inr (2, [.ref h2, .ref h6, .int sq, .int gc_, .int gn_])), (h6, .inl (ct.1, 3185, .inr (.inl rp))), (g0, .inr (5, [.ref q1, .ref q2, .ref q3, .ref q4, .ref q5, .int cm, .int stp, .ref q6, .ref q7, .ref q8, .int mus, .int mc_, .int mb_, .ref q9])), (q1, .inl (ct.2.2, 9, .inl am)), (q2, .inl (ct.1, 240, .inr (.inl ac))), (q3, .inl (ct.1, 240, .inr (.inl al))), (q4, .inl (ct.2.2, 40, .inl ay)), (q5, .inl (ct.2.2, 40, .inl as_)), (q6, .inl (ct.1, 6, .inr (.inl ax))), (q7, .inl (ct.1, 3000, .inr (.inl au))), (q8, .inl (ct.2.2, 500, .inl ao)), (q9, .inl (ct.1, 3000, .inr (.inl at_)))] ++ wt) 0 1 h0 h1 h2 h3 h5 ca ta la td lw sy sh kn (xs (li + (1 : Int32)).toNatClampNeg) (xs (li + (2 : Int32)).toNatClampNeg) rfl rfl hk40 (hpool.app _) _ e_87) (cwV 2 htg (giV tm_287 tm_288 tm_289 tm_31 g_B_keeps) rfl rfl rfl (by decide +kernel) ⟨Nat.le_of_ble_eq_true rfl, Nat.le_of_ble_eq_true rfl⟩) (preV hP hKK (va_recv hK hP (ci := 4) (q0 := 0) rfl rfl)) rfl rfl hl.1 rfl (lv_room (Nat.le_of_ble_eq_true rfl)) d_law_204 ⟨show cc + 0 ≤ 600000 by omega, show ss + 0 ≤ 7302250 by omega⟩)) (fun r9 hr9 => ?_)
        have hr9 := hr9.symm
        subst hr9
        refine lv_aload_n hx hb d_law_207 rfl (lv_at hl 3 rfl) ?_
        refine lv_aload_n hx hb d_law_208 rfl (lv_at hl 1 rfl) ?_
        refine lv_iload_n hx hb d_law_209 rfl (lv_at hl 0 rfl) ?_
        refine lv_iconst (v := (1 : Int32)) hx hb d_law_210 (by decide) ?_
        refine lv_iadd hx hb d_law_211 ?_
        by_cases b_89 : inb (li + (1 : Int32)) L = true
        rotate_left
        · rw [if_neg b_89] at h; cases h
        rw [if_pos b_89] at h
        refine va_sld hx hb hX hbl hbA hS (inb_in b_89) d_law_212 ?_
        refine lv_aload_n hx hb d_law_213 rfl (lv_at hl 1 rfl) ?_
        refine lv_iload_n hx hb d_law_214 rfl (lv_at hl 0 rfl) ?_
        refine lv_iconst (v := (2 : Int32)) hx hb d_law_215 (by decide) ?_
        refine lv_iadd hx hb d_law_216 ?_
        by_cases b_90 : inb (li + (2 : Int32)) L = true
        rotate_left
        · rw [if_neg b_90] at h; cases h
        rw [if_pos b_90] at h
        refine va_sld hx hb hX hbl hbA hS (inb_in b_90) d_law_217 ?_
        have hP := va_P.part (cx := [(g0, .inr (5, [.ref q1, .ref q2, .ref q3, .ref q4, .ref q5, .int cm, .int stp, .ref q6, .ref q7, .ref q8, .int mus, .int mc_, .int mb_, .ref q9])), (q1, .inl (ct.2.2, 9, .inl am)), (q2, .inl (ct.1, 240, .inr (.inl ac))), (h0, .inr (4, [.ref h1, .ref h2, .ref h3, .ref h5, .int (nI kn)])), (h1, .inl (ct.2.1, 40, .inr (.inr (.inr (.inr (cfun kn ca)))))), (h2, .inr (1, [.long ra, .long rb, .long rc, .long rx, .long ry, .long rz, .int rs])), (h3, .inr (2, [.ref h2, .ref h4, .int sz, .int fc_, .int fn_])), (h4, .inl (ct.1, 3185, .inr (.inl ro))), (h5, .inr (2, [.ref h2, .ref h6, .int sq, .int gc_, .int gn_])), (h6, .inl (ct.1, 3185, .inr (.inl rp))), (q3, .inl (ct.1, 240, .inr (.inl al))), (q4, .inl (ct.2.2, 40, .inl ay)), (q5, .inl (ct.2.2, 40, .inl as_)), (q6, .inl (ct.1, 6, .inr (.inl ax))), (q7, .inl (ct.1, 3000, .inr (.inl au))), (q8, .inl (ct.2.2, 500, .inl ao)), (q9, .inl (ct.1, 3000, .inr (.inl at_)))]) hP [7, 8, 9, 0, 1, 2, 3, 4, 5, 6, 10, 11, 12, 13, 14, 15, 16] rfl
        have hD := va_D.part (cx := [(g0, .inr (5, [.ref q1, .ref q2, .ref q3, .ref q4, .ref q5, .int cm, .int stp, .ref q6, .ref q7, .ref q8, .int mus, .int mc_, .int mb_, .ref q9])), (q1, .inl (ct.2.2, 9, .inl am)), (q2, .inl (ct.1, 240, .inr (.inl ac))), (h0, .inr (4, [.ref h1, .ref h2, .ref h3, .ref h5, .int (nI kn)])), (h1, .inl (ct.2.1, 40, .inr (.inr (.inr (.inr (cfun kn ca)))))), (h2, .inr (1, [.long ra, .long rb, .long rc, .long rx, .long ry, .long rz, .int rs])), (h3, .inr (2, [.ref h2, .ref h4, .int sz, .int fc_, .int fn_])), (h4, .inl (ct.1, 3185, .inr (.inl ro))), (h5, .inr (2, [.ref h2, .ref h6, .int sq, .int gc_, .int gn_])), (h6, .inl (ct.1, 3185, .inr (.inl rp))), (q3, .inl (ct.1, 240, .inr (.inl al))), (q4, .inl (ct.2.2, 40, .inl ay)), (q5, .inl (ct.2.2, 40, .inl as_)), (q6, .inl (ct.1, 6, .inr (.inl ax))), (q7, .inl (ct.1, 3000, .inr (.inl au))), (q8, .inl (ct.2.2, 500, .inl ao)), (q9, .inl (ct.1, 3000, .inr (.inl at_)))]) hD [7, 8, 9, 0, 1, 2, 3, 4, 5, 6, 10, 11, 12, 13, 14, 15, 16] (by decide) rfl
        rcases e_93 : f_M_keeps cm am ac (xs (li + (1 : Int32)).toNatClampNeg) (xs (li + (2 : Int32)).toNatClampNeg) with _ | ⟨r_91, am_92⟩
        · rw [e_93] at h; cases h
        rw [e_93, Option.bind_some] at h
        try dsimp only at h
        refine va_calli (va_runV (As := [.int (xs (li + (1 : Int32)).toNatClampNeg), .int (xs (li + (2 : Int32)).toNatClampNeg)]) (rest := [.int v_88]) ⟨hx, hb, hml, hown, htg⟩ (c_M_keeps l D ct A ([(h0, .inr (4, [.ref h1, .ref h2, .ref h3, .ref h5, .int (nI kn)])), (h1, .inl (ct.2.1, 40, .inr (.inr (.inr (.inr (cfun kn ca)))))), (h2, .inr (1, [.long ra, .long rb, .long rc, .long rx, .long ry, .long rz, .int rs])), (h3, .inr (2, [.ref h2, .ref h4, .int sz, .int fc_, .int fn_])), (h4, .inl (ct.1, 3185, .inr (.inl ro))), (h5, .inr (2, [.ref h2, .ref h6, .int sq, .int gc_, .int gn_])), (h6, .inl (ct.1, 3185, .inr (.inl rp))), (q3, .inl (ct.1, 240, .inr (.inl al))), (q4, .inl (ct.2.2, 40, .inl ay)), (q5, .inl (ct.2.2, 40, .inl as_)), (q6, .inl (ct.1, 6, .inr (.inl ax))), (q7, .inl (ct.1, 3000, .inr (.inl au))), (q8, .inl (ct.2.2, 500, .inl ao)), (q9, .inl (ct.1, 3000, .inr (.inl at_)))] ++ wt)  g0 q1 q2 q3 q4 q5 q6 q7 q8 q9 cm stp mus mc_ mb_ am ac (xs (li + (1 : Int32)).toNatClampNeg) (xs (li + (2 : Int32)).toNatClampNeg)   _ e_93) (cwV 2 htg (giV tm_490 tm_491 tm_492 tm_34 g_M_keeps) rfl rfl rfl (by decide +kernel) ⟨Nat.le_of_ble_eq_true rfl, Nat.le_of_ble_eq_true rfl⟩) (preVM hA hS hP hD hKK (va_recv hK hP (ci := 5) (q0 := 0) rfl rfl)) rfl rfl hl.1 rfl (lv_room (Nat.le_of_ble_eq_true rfl)) d_law_218 ⟨show cc + 0 ≤ 600000 by omega, show ss + 0 ≤ 7302250 by omega⟩) hS (fun q _ h9 => h9) (fun q h9 => h9) (fun r9 u9 t9 H locs ht9 hvm9 hw9 hB9 hz9 hk9 hS => ?_)
        obtain ⟨hw8, hw9⟩ := Prod.mk.inj hw9
        rw [hw8]
        rw [hw9] at hB9
        obtain ⟨hP, hD⟩ := hB9
        rw [ht9] at hP
        have hP : va_P D classes ([(g0, .inr (5, [.ref q1, .ref q2, .ref q3, .ref q4, .ref q5, .int cm, .int stp, .ref q6, .ref q7, .ref q8, .int mus, .int mc_, .int mb_, .ref q9])), (q1, .inl (ct.2.2, 9, .inl am_92)), (q2, .inl (ct.1, 240, .inr (.inl ac))), (h0, .inr (4, [.ref h1, .ref h2, .ref h3, .ref h5, .int (nI kn)])), (h1, .inl (ct.2.1, 40, .inr (.inr (.inr (.inr (cfun kn ca)))))), (h2, .inr (1, [.long ra, .long rb, .long rc, .long rx, .long ry, .long rz, .int rs])), (h3, .inr (2, [.ref h2, .ref h4, .int sz, .int fc_, .int fn_])), (h4, .inl (ct.1, 3185, .inr (.inl ro))), (h5, .inr (2, [.ref h2, .ref h6, .int sq, .int gc_, .int gn_])), (h6, .inl (ct.1, 3185, .inr (.inl rp))), (q3, .inl (ct.1, 240, .inr (.inl al))), (q4, .inl (ct.2.2, 40, .inl ay)), (q5, .inl (ct.2.2, 40, .inl as_)), (q6, .inl (ct.1, 6, .inr (.inl ax))), (q7, .inl (ct.1, 3000, .inr (.inl au))), (q8, .inl (ct.2.2, 500, .inl ao)), (q9, .inl (ct.1, 3000, .inr (.inl at_)))] ++ wt) H := hP
        have hD : va_D A ([(g0, .inr (5, [.ref q1, .ref q2, .ref q3, .ref q4, .ref q5, .int cm, .int stp, .ref q6, .ref q7, .ref q8, .int mus, .int mc_, .int mb_, .ref q9])), (q1, .inl (ct.2.2, 9, .inl am_92)), (q2, .inl (ct.1, 240, .inr (.inl ac))), (h0, .inr (4, [.ref h1, .ref h2, .ref h3, .ref h5, .int (nI kn)])), (h1, .inl (ct.2.1, 40, .inr (.inr (.inr (.inr (cfun kn ca)))))), (h2, .inr (1, [.long ra, .long rb, .long rc, .long rx, .long ry, .long rz, .int rs])), (h3, .inr (2, [.ref h2, .ref h4, .int sz, .int fc_, .int fn_])), (h4, .inl (ct.1, 3185, .inr (.inl ro))), (h5, .inr (2, [.ref h2, .ref h6, .int sq, .int gc_, .int gn_])), (h6, .inl (ct.1, 3185, .inr (.inl rp))), (q3, .inl (ct.1, 240, .inr (.inl al))), (q4, .inl (ct.2.2, 40, .inl ay)), (q5, .inl (ct.2.2, 40, .inl as_)), (q6, .inl (ct.1, 6, .inr (.inl ax))), (q7, .inl (ct.1, 3000, .inr (.inl au))), (q8, .inl (ct.2.2, 500, .inl ao)), (q9, .inl (ct.1, 3000, .inr (.inl at_)))] ++ wt) := hD
        refine lv_icmp_eq (tgt := 506) hx hb d_law_221 (by decide) (fun c_94 => ?_) (fun c_94 => ?_)
        · rw [if_pos c_94] at h
          refine lv_iinc (v := li + (7 : Int32)) (lv' := [(3, .int (li + (7 : Int32))), (0, .ref b), (1, .ref h0), (2, .ref g0)]) hx hb d_law_506 hl (k := 0) rfl rfl (by decide) rfl (fun ls hl => ?_)
          refine lv_goto (tgt := 18) hx hb d_law_509 (by decide) ?_
          have hP := va_P.part (cx := [(h0, .inr (4, [.ref h1, .ref h2, .ref h3, .ref h5, .int (nI kn)])), (h1, .inl (ct.2.1, 40, .inr (.inr (.inr (.inr (cfun kn ca)))))), (h2, .inr (1, [.long ra, .long rb, .long rc, .long rx, .long ry, .long rz, .int rs])), (h3, .inr (2, [.ref h2, .ref h4, .int sz, .int fc_, .int fn_])), (h4, .inl (ct.1, 3185, .inr (.inl ro))), (h5, .inr (2, [.ref h2, .ref h6, .int sq, .int gc_, .int gn_])), (h6, .inl (ct.1, 3185, .inr (.inl rp))), (g0, .inr (5, [.ref q1, .ref q2, .ref q3, .ref q4, .ref q5, .int cm, .int stp, .ref q6, .ref q7, .ref q8, .int mus, .int mc_, .int mb_, .ref q9])), (q1, .inl (ct.2.2, 9, .inl am_92)), (q2, .inl (ct.1, 240, .inr (.inl ac))), (q3, .inl (ct.1, 240, .inr (.inl al))), (q4, .inl (ct.2.2, 40, .inl ay)), (q5, .inl (ct.2.2, 40, .inl as_)), (q6, .inl (ct.1, 6, .inr (.inl ax))), (q7, .inl (ct.1, 3000, .inr (.inl au))), (q8, .inl (ct.2.2, 500, .inl ao)), (q9, .inl (ct.1, 3000, .inr (.inl at_)))]) hP [3, 4, 5, 6, 7, 8, 9, 0, 1, 2, 10, 11, 12, 13, 14, 15, 16] rfl
          have hD := va_D.part (cx := [(h0, .inr (4, [.ref h1, .ref h2, .ref h3, .ref h5, .int (nI kn)])), (h1, .inl (ct.2.1, 40, .inr (.inr (.inr (.inr (cfun kn ca)))))), (h2, .inr (1, [.long ra, .long rb, .long rc, .long rx, .long ry, .long rz, .int rs])), (h3, .inr (2, [.ref h2, .ref h4, .int sz, .int fc_, .int fn_])), (h4, .inl (ct.1, 3185, .inr (.inl ro))), (h5, .inr (2, [.ref h2, .ref h6, .int sq, .int gc_, .int gn_])), (h6, .inl (ct.1, 3185, .inr (.inl rp))), (g0, .inr (5, [.ref q1, .ref q2, .ref q3, .ref q4, .ref q5, .int cm, .int stp, .ref q6, .ref q7, .ref q8, .int mus, .int mc_, .int mb_, .ref q9])), (q1, .inl (ct.2.2, 9, .inl am_92)), (q2, .inl (ct.1, 240, .inr (.inl ac))), (q3, .inl (ct.1, 240, .inr (.inl al))), (q4, .inl (ct.2.2, 40, .inl ay)), (q5, .inl (ct.2.2, 40, .inl as_)), (q6, .inl (ct.1, 6, .inr (.inl ax))), (q7, .inl (ct.1, 3000, .inr (.inl au))), (q8, .inl (ct.2.2, 500, .inl ao)), (q9, .inl (ct.1, 3000, .inr (.inl at_)))]) hD [3, 4, 5, 6, 7, 8, 9, 0, 1, 2, 10, 11, 12, 13, 14, 15, 16] (by decide) rfl
          exact ih (li + (7 : Int32)) kn td lw sy sh ro sz fc_ fn_ rp sq gc_ gn_ ra rb rc rx ry rz rs cm stp mus mc_ mb_ am_92 ac al ay as_ ax au ao at_ h h0 h1 h2 h3 h4 h5 h6 g0 q1 q2 q3 q4 q5 q6 q7 q8 q9 ca ta la wt _ _ cc ss (by omega) (by omega) hk40 hpool hP hD hS ls (lv_sub hl [0, 1, 2, 3] rfl)
        · rw [if_neg c_94] at h
          refine lv_iconst (v := (0 : Int32)) hx hb d_law_224 (by decide) ?_
          exact absurd (Option.some.inj h) (by decide)
      rw [if_neg c_84] at h
      by_cases c_97 : ((xs li.toNatClampNeg) &&& (15 : Int32)) = (3 : Int32)
      · rw [if_pos c_97] at h
        refine lv_tableIn (off := 193) (tgt := 226) hx hb d_law_33 (by rw [c_97]; decide) (by rw [c_97]; decide) (by rw [c_97]; rfl) (by decide) ?_
        refine lv_aload_n hx hb d_law_226 rfl (lv_at hl 2 rfl) ?_
        refine lv_aload_n hx hb d_law_227 rfl (lv_at hl 1 rfl) ?_
        refine lv_iload_n hx hb d_law_228 rfl (lv_at hl 0 rfl) ?_
        refine lv_iconst (v := (1 : Int32)) hx hb d_law_229 (by decide) ?_
        refine lv_iadd hx hb d_law_230 ?_
        by_cases b_98 : inb (li + (1 : Int32)) L = true
        rotate_left
        · rw [if_neg b_98] at h; cases h
        rw [if_pos b_98] at h
        refine va_sld hx hb hX hbl hbA hS (inb_in b_98) d_law_231 ?_
        rcases e_99 : f_B_same td lw sy sh kn (xs (li + (1 : Int32)).toNatClampNeg) with _ | v_100
        · rw [e_99] at h; cases h
        rw [e_99, Option.bind_some] at h
        try dsimp only at h
        refine vp_callSi (va_Run.run (va_runV (As := [.int (xs (li + (1 : Int32)).toNatClampNeg)]) (rest := []) ⟨hx, hb, hml, hown, htg⟩ (c_B_same l D ct ([(h0, .inr (4, [.ref h1, .ref h2, .ref h3, .ref h5, .int (nI kn)])), (h1, .inl (ct.2.1, 40, .inr (.inr (.inr (.inr (cfun kn ca)))))), (h2, .inr (1, [.long ra, .long rb, .long rc, .long rx, .long ry, .long rz, .int rs])), (h3, .inr (2, [.ref h2, .ref h4, .int sz, .int fc_, .int fn_])), (h4, .inl (ct.1, 3185, .inr (.inl ro))), (h5, .inr (2, [.ref h2, .ref h6, .int sq, .int gc_, .int gn_])), (h6, .inl (ct.1, 3185, .inr (.inl rp))), (g0, .inr (5, [.ref q1, .ref q2, .ref q3, .ref q4, .ref q5, .int cm, .int stp, .ref q6, .ref q7, .ref q8, .int mus, .int mc_, .int mb_, .ref q9])), (q1, .inl (ct.2.2, 9, .inl am)), (q2, .inl (ct.1, 240, .inr (.inl ac))), (q3, .inl (ct.1, 240, .inr (.inl al))), (q4, .inl (ct.2.2, 40, .inl ay)), (q5, .inl (ct.2.2, 40, .inl as_)), (q6, .inl (ct.1, 6, .inr (.inl ax))), (q7, .inl (ct.1, 3000, .inr (.inl au))), (q8, .inl (ct.2.2, 500, .inl ao)), (q9, .inl (ct.1, 3000, .inr (.inl at_)))] ++ wt) 0 1 h0 h1 h2 h3 h5 ca ta la td lw sy sh kn (xs (li + (1 : Int32)).toNatClampNeg) rfl rfl hk40 (hpool.app _) _ e_99) (cwV 1 htg (giV tm_298 tm_299 tm_300 tm_31 g_B_same) rfl rfl rfl (by decide +kernel) ⟨Nat.le_of_ble_eq_true rfl, Nat.le_of_ble_eq_true rfl⟩) (preV hP hKK (va_recv hK hP (ci := 4) (q0 := 0) rfl rfl)) rfl rfl hl.1 rfl (lv_room (Nat.le_of_ble_eq_true rfl)) d_law_232 ⟨show cc + 0 ≤ 600000 by omega, show ss + 0 ≤ 7302250 by omega⟩)) (fun r9 hr9 => ?_)
        have hr9 := hr9.symm
        subst hr9
        refine lv_aload_n hx hb d_law_235 rfl (lv_at hl 3 rfl) ?_
        refine lv_aload_n hx hb d_law_236 rfl (lv_at hl 1 rfl) ?_
        refine lv_iload_n hx hb d_law_237 rfl (lv_at hl 0 rfl) ?_
        refine lv_iconst (v := (1 : Int32)) hx hb d_law_238 (by decide) ?_
        refine lv_iadd hx hb d_law_239 ?_
        by_cases b_101 : inb (li + (1 : Int32)) L = true
        rotate_left
        · rw [if_neg b_101] at h; cases h
        rw [if_pos b_101] at h
        refine va_sld hx hb hX hbl hbA hS (inb_in b_101) d_law_240 ?_
        rcases e_102 : f_M_same cm al (xs (li + (1 : Int32)).toNatClampNeg) with _ | v_103
        · rw [e_102] at h; cases h
        rw [e_102, Option.bind_some] at h
        try dsimp only at h
        refine vp_callSi (va_Run.run (va_runV (As := [.int (xs (li + (1 : Int32)).toNatClampNeg)]) (rest := [.int v_100]) ⟨hx, hb, hml, hown, htg⟩ (c_M_same l D ct ([(h0, .inr (4, [.ref h1, .ref h2, .ref h3, .ref h5, .int (nI kn)])), (h1, .inl (ct.2.1, 40, .inr (.inr (.inr (.inr (cfun kn ca)))))), (h2, .inr (1, [.long ra, .long rb, .long rc, .long rx, .long ry, .long rz, .int rs])), (h3, .inr (2, [.ref h2, .ref h4, .int sz, .int fc_, .int fn_])), (h4, .inl (ct.1, 3185, .inr (.inl ro))), (h5, .inr (2, [.ref h2, .ref h6, .int sq, .int gc_, .int gn_])), (h6, .inl (ct.1, 3185, .inr (.inl rp))), (g0, .inr (5, [.ref q1, .ref q2, .ref q3, .ref q4, .ref q5, .int cm, .int stp, .ref q6, .ref q7, .ref q8, .int mus, .int mc_, .int mb_, .ref q9])), (q1, .inl (ct.2.2, 9, .inl am)), (q2, .inl (ct.1, 240, .inr (.inl ac))), (q3, .inl (ct.1, 240, .inr (.inl al))), (q4, .inl (ct.2.2, 40, .inl ay)), (q5, .inl (ct.2.2, 40, .inl as_)), (q6, .inl (ct.1, 6, .inr (.inl ax))), (q7, .inl (ct.1, 3000, .inr (.inl au))), (q8, .inl (ct.2.2, 500, .inl ao)), (q9, .inl (ct.1, 3000, .inr (.inl at_)))] ++ wt) 7 10 g0 q1 q2 q3 q4 q5 q6 q7 q8 q9 cm stp mus mc_ mb_ al (xs (li + (1 : Int32)).toNatClampNeg) rfl rfl  _ e_102) (cwV 1 htg (giV tm_494 tm_495 tm_496 tm_34 g_M_same) rfl rfl rfl (by decide +kernel) ⟨Nat.le_of_ble_eq_true rfl, Nat.le_of_ble_eq_true rfl⟩) (preV hP hKK (va_recv hK hP (ci := 5) (q0 := 7) rfl rfl)) rfl rfl hl.1 rfl (lv_room (Nat.le_of_ble_eq_true rfl)) d_law_241 ⟨show cc + 0 ≤ 600000 by omega, show ss + 0 ≤ 7302250 by omega⟩)) (fun r9 hr9 => ?_)
        have hr9 := hr9.symm
        subst hr9
        refine lv_icmp_eq (tgt := 506) hx hb d_law_244 (by decide) (fun c_104 => ?_) (fun c_104 => ?_)
        · rw [if_pos c_104] at h
          refine lv_iinc (v := li + (7 : Int32)) (lv' := [(3, .int (li + (7 : Int32))), (0, .ref b), (1, .ref h0), (2, .ref g0)]) hx hb d_law_506 hl (k := 0) rfl rfl (by decide) rfl (fun ls hl => ?_)
          refine lv_goto (tgt := 18) hx hb d_law_509 (by decide) ?_
          exact ih (li + (7 : Int32)) kn td lw sy sh ro sz fc_ fn_ rp sq gc_ gn_ ra rb rc rx ry rz rs cm stp mus mc_ mb_ am ac al ay as_ ax au ao at_ h h0 h1 h2 h3 h4 h5 h6 g0 q1 q2 q3 q4 q5 q6 q7 q8 q9 ca ta la wt _ _ cc ss (by omega) (by omega) hk40 hpool hP hD hS ls (lv_sub hl [0, 1, 2, 3] rfl)
        · rw [if_neg c_104] at h
          refine lv_iconst (v := (0 : Int32)) hx hb d_law_247 (by decide) ?_
          exact absurd (Option.some.inj h) (by decide)
      rw [if_neg c_97] at h
      by_cases c_107 : ((xs li.toNatClampNeg) &&& (15 : Int32)) = (4 : Int32)
      · rw [if_pos c_107] at h
        refine lv_tableIn (off := 216) (tgt := 249) hx hb d_law_33 (by rw [c_107]; decide) (by rw [c_107]; decide) (by rw [c_107]; rfl) (by decide) ?_
        refine lv_aload_n hx hb d_law_249 rfl (lv_at hl 2 rfl) ?_
        refine lv_aload_n hx hb d_law_250 rfl (lv_at hl 1 rfl) ?_
        refine lv_iload_n hx hb d_law_251 rfl (lv_at hl 0 rfl) ?_
        refine lv_iconst (v := (1 : Int32)) hx hb d_law_252 (by decide) ?_
        refine lv_iadd hx hb d_law_253 ?_
        by_cases b_108 : inb (li + (1 : Int32)) L = true
        rotate_left
        · rw [if_neg b_108] at h; cases h
        rw [if_pos b_108] at h
        refine va_sld hx hb hX hbl hbA hS (inb_in b_108) d_law_254 ?_
        refine lv_aload_n hx hb d_law_255 rfl (lv_at hl 1 rfl) ?_
        refine lv_iload_n hx hb d_law_256 rfl (lv_at hl 0 rfl) ?_
        refine lv_iconst (v := (2 : Int32)) hx hb d_law_257 (by decide) ?_
        refine lv_iadd hx hb d_law_258 ?_
        by_cases b_109 : inb (li + (2 : Int32)) L = true
        rotate_left
        · rw [if_neg b_109] at h; cases h
        rw [if_pos b_109] at h
        refine va_sld hx hb hX hbl hbA hS (inb_in b_109) d_law_259 ?_
        rcases e_122 : f_B_multiples td lw sy sh kn ro sz fc_ fn_ ra rb rc rx ry rz rs (xs (li + (1 : Int32)).toNatClampNeg) (xs (li + (2 : Int32)).toNatClampNeg) with _ | ⟨r_110, ro_111, sz_112, fc__113, fn__114, ra_115, rb_116, rc_117, rx_118, ry_119, rz_120, rs_121⟩
        · rw [e_122] at h; cases h
        rw [e_122, Option.bind_some] at h
        try dsimp only at h
        refine va_calli (va_runV (As := [.int (xs (li + (1 : Int32)).toNatClampNeg), .int (xs (li + (2 : Int32)).toNatClampNeg)]) (rest := []) ⟨hx, hb, hml, hown, htg⟩ (c_B_multiples l D ct A ([(g0, .inr (5, [.ref q1, .ref q2, .ref q3, .ref q4, .ref q5, .int cm, .int stp, .ref q6, .ref q7, .ref q8, .int mus, .int mc_, .int mb_, .ref q9])), (q1, .inl (ct.2.2, 9, .inl am)), (q2, .inl (ct.1, 240, .inr (.inl ac))), (q3, .inl (ct.1, 240, .inr (.inl al))), (q4, .inl (ct.2.2, 40, .inl ay)), (q5, .inl (ct.2.2, 40, .inl as_)), (q6, .inl (ct.1, 6, .inr (.inl ax))), (q7, .inl (ct.1, 3000, .inr (.inl au))), (q8, .inl (ct.2.2, 500, .inl ao)), (q9, .inl (ct.1, 3000, .inr (.inl at_)))] ++ wt)  h0 h1 h2 h3 h5 h4 h6 ca ta la td lw sy sh kn ro sz fc_ fn_ rp sq gc_ gn_ ra rb rc rx ry rz rs (xs (li + (1 : Int32)).toNatClampNeg) (xs (li + (2 : Int32)).toNatClampNeg)  hk40 (hpool.app _) _ e_122) (cwV 2 htg (giV tm_308 tm_309 tm_310 tm_31 g_B_multiples) rfl rfl rfl (by decide +kernel) ⟨Nat.le_of_ble_eq_true rfl, Nat.le_of_ble_eq_true rfl⟩) (preVM hA hS hP hD hKK (va_recv hK hP (ci := 4) (q0 := 0) rfl rfl)) rfl rfl hl.1 rfl (lv_room (Nat.le_of_ble_eq_true rfl)) d_law_260 ⟨show cc + 0 ≤ 600000 by omega, show ss + 0 ≤ 7302250 by omega⟩) hS (fun q _ h9 => h9) (fun q h9 => h9) (fun r9 u9 t9 H locs ht9 hvm9 hw9 hB9 hz9 hk9 hS => ?_)
        obtain ⟨hw8, hw9⟩ := Prod.mk.inj hw9
        rw [hw8]
        rw [hw9] at hB9
        obtain ⟨hP, hD⟩ := hB9
        rw [ht9] at hP
        have hP : va_P D classes ([(h0, .inr (4, [.ref h1, .ref h2, .ref h3, .ref h5, .int (nI kn)])), (h1, .inl (ct.2.1, 40, .inr (.inr (.inr (.inr (cfun kn ca)))))), (h2, .inr (1, [.long ra_115, .long rb_116, .long rc_117, .long rx_118, .long ry_119, .long rz_120, .int rs_121])), (h3, .inr (2, [.ref h2, .ref h4, .int sz_112, .int fc__113, .int fn__114])), (h4, .inl (ct.1, 3185, .inr (.inl ro_111))), (h5, .inr (2, [.ref h2, .ref h6, .int sq, .int gc_, .int gn_])), (h6, .inl (ct.1, 3185, .inr (.inl rp))), (g0, .inr (5, [.ref q1, .ref q2, .ref q3, .ref q4, .ref q5, .int cm, .int stp, .ref q6, .ref q7, .ref q8, .int mus, .int mc_, .int mb_, .ref q9])), (q1, .inl (ct.2.2, 9, .inl am)), (q2, .inl (ct.1, 240, .inr (.inl ac))), (q3, .inl (ct.1, 240, .inr (.inl al))), (q4, .inl (ct.2.2, 40, .inl ay)), (q5, .inl (ct.2.2, 40, .inl as_)), (q6, .inl (ct.1, 6, .inr (.inl ax))), (q7, .inl (ct.1, 3000, .inr (.inl au))), (q8, .inl (ct.2.2, 500, .inl ao)), (q9, .inl (ct.1, 3000, .inr (.inl at_)))] ++ wt) H := hP
        have hD : va_D A ([(h0, .inr (4, [.ref h1, .ref h2, .ref h3, .ref h5, .int (nI kn)])), (h1, .inl (ct.2.1, 40, .inr (.inr (.inr (.inr (cfun kn ca)))))), (h2, .inr (1, [.long ra_115, .long rb_116, .long rc_117, .long rx_118, .long ry_119, .long rz_120, .int rs_121])), (h3, .inr (2, [.ref h2, .ref h4, .int sz_112, .int fc__113, .int fn__114])), (h4, .inl (ct.1, 3185, .inr (.inl ro_111))), (h5, .inr (2, [.ref h2, .ref h6, .int sq, .int gc_, .int gn_])), (h6, .inl (ct.1, 3185, .inr (.inl rp))), (g0, .inr (5, [.ref q1, .ref q2, .ref q3, .ref q4, .ref q5, .int cm, .int stp, .ref q6, .ref q7, .ref q8, .int mus, .int mc_, .int mb_, .ref q9])), (q1, .inl (ct.2.2, 9, .inl am)), (q2, .inl (ct.1, 240, .inr (.inl ac))), (q3, .inl (ct.1, 240, .inr (.inl al))), (q4, .inl (ct.2.2, 40, .inl ay)), (q5, .inl (ct.2.2, 40, .inl as_)), (q6, .inl (ct.1, 6, .inr (.inl ax))), (q7, .inl (ct.1, 3000, .inr (.inl au))), (q8, .inl (ct.2.2, 500, .inl ao)), (q9, .inl (ct.1, 3000, .inr (.inl at_)))] ++ wt) := hD
        refine lv_aload_n hx hb d_law_263 rfl (lv_at hl 3 rfl) ?_
        refine lv_aload_n hx hb d_law_264 rfl (lv_at hl 1 rfl) ?_
        refine lv_iload_n hx hb d_law_265 rfl (lv_at hl 0 rfl) ?_
        refine lv_iconst (v := (1 : Int32)) hx hb d_law_266 (by decide) ?_
        refine lv_iadd hx hb d_law_267 ?_
        by_cases b_123 : inb (li + (1 : Int32)) L = true
        rotate_left
        · rw [if_neg b_123] at h; cases h
        rw [if_pos b_123] at h
        refine va_sld hx hb hX hbl hbA hS (inb_in b_123) d_law_268 ?_
        refine lv_aload_n hx hb d_law_269 rfl (lv_at hl 1 rfl) ?_
        refine lv_iload_n hx hb d_law_270 rfl (lv_at hl 0 rfl) ?_
        refine lv_iconst (v := (2 : Int32)) hx hb d_law_271 (by decide) ?_
        refine lv_iadd hx hb d_law_272 ?_
        by_cases b_124 : inb (li + (2 : Int32)) L = true
        rotate_left
        · rw [if_neg b_124] at h; cases h
        rw [if_pos b_124] at h
        refine va_sld hx hb hX hbl hbA hS (inb_in b_124) d_law_273 ?_
        have hP := va_P.part (cx := [(g0, .inr (5, [.ref q1, .ref q2, .ref q3, .ref q4, .ref q5, .int cm, .int stp, .ref q6, .ref q7, .ref q8, .int mus, .int mc_, .int mb_, .ref q9])), (q2, .inl (ct.1, 240, .inr (.inl ac))), (q6, .inl (ct.1, 6, .inr (.inl ax))), (q7, .inl (ct.1, 3000, .inr (.inl au))), (q8, .inl (ct.2.2, 500, .inl ao)), (h0, .inr (4, [.ref h1, .ref h2, .ref h3, .ref h5, .int (nI kn)])), (h1, .inl (ct.2.1, 40, .inr (.inr (.inr (.inr (cfun kn ca)))))), (h2, .inr (1, [.long ra_115, .long rb_116, .long rc_117, .long rx_118, .long ry_119, .long rz_120, .int rs_121])), (h3, .inr (2, [.ref h2, .ref h4, .int sz_112, .int fc__113, .int fn__114])), (h4, .inl (ct.1, 3185, .inr (.inl ro_111))), (h5, .inr (2, [.ref h2, .ref h6, .int sq, .int gc_, .int gn_])), (h6, .inl (ct.1, 3185, .inr (.inl rp))), (q1, .inl (ct.2.2, 9, .inl am)), (q3, .inl (ct.1, 240, .inr (.inl al))), (q4, .inl (ct.2.2, 40, .inl ay)), (q5, .inl (ct.2.2, 40, .inl as_)), (q9, .inl (ct.1, 3000, .inr (.inl at_)))]) hP [7, 9, 13, 14, 15, 0, 1, 2, 3, 4, 5, 6, 8, 10, 11, 12, 16] rfl
        have hD := va_D.part (cx := [(g0, .inr (5, [.ref q1, .ref q2, .ref q3, .ref q4, .ref q5, .int cm, .int stp, .ref q6, .ref q7, .ref q8, .int mus, .int mc_, .int mb_, .ref q9])), (q2, .inl (ct.1, 240, .inr (.inl ac))), (q6, .inl (ct.1, 6, .inr (.inl ax))), (q7, .inl (ct.1, 3000, .inr (.inl au))), (q8, .inl (ct.2.2, 500, .inl ao)), (h0, .inr (4, [.ref h1, .ref h2, .ref h3, .ref h5, .int (nI kn)])), (h1, .inl (ct.2.1, 40, .inr (.inr (.inr (.inr (cfun kn ca)))))), (h2, .inr (1, [.long ra_115, .long rb_116, .long rc_117, .long rx_118, .long ry_119, .long rz_120, .int rs_121])), (h3, .inr (2, [.ref h2, .ref h4, .int sz_112, .int fc__113, .int fn__114])), (h4, .inl (ct.1, 3185, .inr (.inl ro_111))), (h5, .inr (2, [.ref h2, .ref h6, .int sq, .int gc_, .int gn_])), (h6, .inl (ct.1, 3185, .inr (.inl rp))), (q1, .inl (ct.2.2, 9, .inl am)), (q3, .inl (ct.1, 240, .inr (.inl al))), (q4, .inl (ct.2.2, 40, .inl ay)), (q5, .inl (ct.2.2, 40, .inl as_)), (q9, .inl (ct.1, 3000, .inr (.inl at_)))]) hD [7, 9, 13, 14, 15, 0, 1, 2, 3, 4, 5, 6, 8, 10, 11, 12, 16] (by decide) rfl
        rcases e_133 : f_M_multiples cm ac stp mus ax au ao mc_ mb_ (xs (li + (1 : Int32)).toNatClampNeg) (xs (li + (2 : Int32)).toNatClampNeg) with _ | ⟨r_125, stp_126, mus_127, ax_128, au_129, ao_130, mc__131, mb__132⟩
        · rw [e_133] at h; cases h
        rw [e_133, Option.bind_some] at h
        try dsimp only at h
        refine va_calli (va_runV (As := [.int (xs (li + (1 : Int32)).toNatClampNeg), .int (xs (li + (2 : Int32)).toNatClampNeg)]) (rest := [.int r_110]) ⟨hx, hb, hml, hown, htg⟩ (c_M_multiples l D ct A ([(h0, .inr (4, [.ref h1, .ref h2, .ref h3, .ref h5, .int (nI kn)])), (h1, .inl (ct.2.1, 40, .inr (.inr (.inr (.inr (cfun kn ca)))))), (h2, .inr (1, [.long ra_115, .long rb_116, .long rc_117, .long rx_118, .long ry_119, .long rz_120, .int rs_121])), (h3, .inr (2, [.ref h2, .ref h4, .int sz_112, .int fc__113, .int fn__114])), (h4, .inl (ct.1, 3185, .inr (.inl ro_111))), (h5, .inr (2, [.ref h2, .ref h6, .int sq, .int gc_, .int gn_])), (h6, .inl (ct.1, 3185, .inr (.inl rp))), (q1, .inl (ct.2.2, 9, .inl am)), (q3, .inl (ct.1, 240, .inr (.inl al))), (q4, .inl (ct.2.2, 40, .inl ay)), (q5, .inl (ct.2.2, 40, .inl as_)), (q9, .inl (ct.1, 3000, .inr (.inl at_)))] ++ wt)  g0 q1 q2 q3 q4 q5 q6 q7 q8 q9 cm stp mus mc_ mb_ ac ax au ao (xs (li + (1 : Int32)).toNatClampNeg) (xs (li + (2 : Int32)).toNatClampNeg)   _ e_133) (cwV 2 htg (giV tm_502 tm_503 tm_504 tm_34 g_M_multiples) rfl rfl rfl (by decide +kernel) ⟨Nat.le_of_ble_eq_true rfl, Nat.le_of_ble_eq_true rfl⟩) (preVM hA hS hP hD hKK (va_recv hK hP (ci := 5) (q0 := 0) rfl rfl)) rfl rfl hl.1 rfl (lv_room (Nat.le_of_ble_eq_true rfl)) d_law_274 ⟨show cc + 0 ≤ 600000 by omega, show ss + 0 ≤ 7302250 by omega⟩) hS (fun q _ h9 => h9) (fun q h9 => h9) (fun r9 u9 t9 H locs ht9 hvm9 hw9 hB9 hz9 hk9 hS => ?_)
        obtain ⟨hw8, hw9⟩ := Prod.mk.inj hw9
        rw [hw8]
        rw [hw9] at hB9
        obtain ⟨hP, hD⟩ := hB9
        rw [ht9] at hP
        have hP : va_P D classes ([(g0, .inr (5, [.ref q1, .ref q2, .ref q3, .ref q4, .ref q5, .int cm, .int stp_126, .ref q6, .ref q7, .ref q8, .int mus_127, .int mc__131, .int mb__132, .ref q9])), (q2, .inl (ct.1, 240, .inr (.inl ac))), (q6, .inl (ct.1, 6, .inr (.inl ax_128))), (q7, .inl (ct.1, 3000, .inr (.inl au_129))), (q8, .inl (ct.2.2, 500, .inl ao_130)), (h0, .inr (4, [.ref h1, .ref h2, .ref h3, .ref h5, .int (nI kn)])), (h1, .inl (ct.2.1, 40, .inr (.inr (.inr (.inr (cfun kn ca)))))), (h2, .inr (1, [.long ra_115, .long rb_116, .long rc_117, .long rx_118, .long ry_119, .long rz_120, .int rs_121])), (h3, .inr (2, [.ref h2, .ref h4, .int sz_112, .int fc__113, .int fn__114])), (h4, .inl (ct.1, 3185, .inr (.inl ro_111))), (h5, .inr (2, [.ref h2, .ref h6, .int sq, .int gc_, .int gn_])), (h6, .inl (ct.1, 3185, .inr (.inl rp))), (q1, .inl (ct.2.2, 9, .inl am)), (q3, .inl (ct.1, 240, .inr (.inl al))), (q4, .inl (ct.2.2, 40, .inl ay)), (q5, .inl (ct.2.2, 40, .inl as_)), (q9, .inl (ct.1, 3000, .inr (.inl at_)))] ++ wt) H := hP
        have hD : va_D A ([(g0, .inr (5, [.ref q1, .ref q2, .ref q3, .ref q4, .ref q5, .int cm, .int stp_126, .ref q6, .ref q7, .ref q8, .int mus_127, .int mc__131, .int mb__132, .ref q9])), (q2, .inl (ct.1, 240, .inr (.inl ac))), (q6, .inl (ct.1, 6, .inr (.inl ax_128))), (q7, .inl (ct.1, 3000, .inr (.inl au_129))), (q8, .inl (ct.2.2, 500, .inl ao_130)), (h0, .inr (4, [.ref h1, .ref h2, .ref h3, .ref h5, .int (nI kn)])), (h1, .inl (ct.2.1, 40, .inr (.inr (.inr (.inr (cfun kn ca)))))), (h2, .inr (1, [.long ra_115, .long rb_116, .long rc_117, .long rx_118, .long ry_119, .long rz_120, .int rs_121])), (h3, .inr (2, [.ref h2, .ref h4, .int sz_112, .int fc__113, .int fn__114])), (h4, .inl (ct.1, 3185, .inr (.inl ro_111))), (h5, .inr (2, [.ref h2, .ref h6, .int sq, .int gc_, .int gn_])), (h6, .inl (ct.1, 3185, .inr (.inl rp))), (q1, .inl (ct.2.2, 9, .inl am)), (q3, .inl (ct.1, 240, .inr (.inl al))), (q4, .inl (ct.2.2, 40, .inl ay)), (q5, .inl (ct.2.2, 40, .inl as_)), (q9, .inl (ct.1, 3000, .inr (.inl at_)))] ++ wt) := hD
        refine lv_icmp_eq (tgt := 506) hx hb d_law_277 (by decide) (fun c_134 => ?_) (fun c_134 => ?_)
        · rw [if_pos c_134] at h
          refine lv_iinc (v := li + (7 : Int32)) (lv' := [(3, .int (li + (7 : Int32))), (0, .ref b), (1, .ref h0), (2, .ref g0)]) hx hb d_law_506 hl (k := 0) rfl rfl (by decide) rfl (fun ls hl => ?_)
          refine lv_goto (tgt := 18) hx hb d_law_509 (by decide) ?_
          have hP := va_P.part (cx := [(h0, .inr (4, [.ref h1, .ref h2, .ref h3, .ref h5, .int (nI kn)])), (h1, .inl (ct.2.1, 40, .inr (.inr (.inr (.inr (cfun kn ca)))))), (h2, .inr (1, [.long ra_115, .long rb_116, .long rc_117, .long rx_118, .long ry_119, .long rz_120, .int rs_121])), (h3, .inr (2, [.ref h2, .ref h4, .int sz_112, .int fc__113, .int fn__114])), (h4, .inl (ct.1, 3185, .inr (.inl ro_111))), (h5, .inr (2, [.ref h2, .ref h6, .int sq, .int gc_, .int gn_])), (h6, .inl (ct.1, 3185, .inr (.inl rp))), (g0, .inr (5, [.ref q1, .ref q2, .ref q3, .ref q4, .ref q5, .int cm, .int stp_126, .ref q6, .ref q7, .ref q8, .int mus_127, .int mc__131, .int mb__132, .ref q9])), (q1, .inl (ct.2.2, 9, .inl am)), (q2, .inl (ct.1, 240, .inr (.inl ac))), (q3, .inl (ct.1, 240, .inr (.inl al))), (q4, .inl (ct.2.2, 40, .inl ay)), (q5, .inl (ct.2.2, 40, .inl as_)), (q6, .inl (ct.1, 6, .inr (.inl ax_128))), (q7, .inl (ct.1, 3000, .inr (.inl au_129))), (q8, .inl (ct.2.2, 500, .inl ao_130)), (q9, .inl (ct.1, 3000, .inr (.inl at_)))]) hP [5, 6, 7, 8, 9, 10, 11, 0, 12, 1, 13, 14, 15, 2, 3, 4, 16] rfl
          have hD := va_D.part (cx := [(h0, .inr (4, [.ref h1, .ref h2, .ref h3, .ref h5, .int (nI kn)])), (h1, .inl (ct.2.1, 40, .inr (.inr (.inr (.inr (cfun kn ca)))))), (h2, .inr (1, [.long ra_115, .long rb_116, .long rc_117, .long rx_118, .long ry_119, .long rz_120, .int rs_121])), (h3, .inr (2, [.ref h2, .ref h4, .int sz_112, .int fc__113, .int fn__114])), (h4, .inl (ct.1, 3185, .inr (.inl ro_111))), (h5, .inr (2, [.ref h2, .ref h6, .int sq, .int gc_, .int gn_])), (h6, .inl (ct.1, 3185, .inr (.inl rp))), (g0, .inr (5, [.ref q1, .ref q2, .ref q3, .ref q4, .ref q5, .int cm, .int stp_126, .ref q6, .ref q7, .ref q8, .int mus_127, .int mc__131, .int mb__132, .ref q9])), (q1, .inl (ct.2.2, 9, .inl am)), (q2, .inl (ct.1, 240, .inr (.inl ac))), (q3, .inl (ct.1, 240, .inr (.inl al))), (q4, .inl (ct.2.2, 40, .inl ay)), (q5, .inl (ct.2.2, 40, .inl as_)), (q6, .inl (ct.1, 6, .inr (.inl ax_128))), (q7, .inl (ct.1, 3000, .inr (.inl au_129))), (q8, .inl (ct.2.2, 500, .inl ao_130)), (q9, .inl (ct.1, 3000, .inr (.inl at_)))]) hD [5, 6, 7, 8, 9, 10, 11, 0, 12, 1, 13, 14, 15, 2, 3, 4, 16] (by decide) rfl
          exact ih (li + (7 : Int32)) kn td lw sy sh ro_111 sz_112 fc__113 fn__114 rp sq gc_ gn_ ra_115 rb_116 rc_117 rx_118 ry_119 rz_120 rs_121 cm stp_126 mus_127 mc__131 mb__132 am ac al ay as_ ax_128 au_129 ao_130 at_ h h0 h1 h2 h3 h4 h5 h6 g0 q1 q2 q3 q4 q5 q6 q7 q8 q9 ca ta la wt _ _ cc ss (by omega) (by omega) hk40 hpool hP hD hS ls (lv_sub hl [0, 1, 2, 3] rfl)
        · rw [if_neg c_134] at h
          refine lv_iconst (v := (0 : Int32)) hx hb d_law_280 (by decide) ?_
          exact absurd (Option.some.inj h) (by decide)
      rw [if_neg c_107] at h
      by_cases c_137 : ((xs li.toNatClampNeg) &&& (15 : Int32)) = (5 : Int32)
      · rw [if_pos c_137] at h
        refine lv_tableIn (off := 249) (tgt := 282) hx hb d_law_33 (by rw [c_137]; decide) (by rw [c_137]; decide) (by rw [c_137]; rfl) (by decide) ?_
        refine lv_aload_n hx hb d_law_282 rfl (lv_at hl 2 rfl) ?_
        refine lv_aload_n hx hb d_law_283 rfl (lv_at hl 1 rfl) ?_
        refine lv_iload_n hx hb d_law_284 rfl (lv_at hl 0 rfl) ?_
        refine lv_iconst (v := (1 : Int32)) hx hb d_law_285 (by decide) ?_
        refine lv_iadd hx hb d_law_286 ?_
        by_cases b_138 : inb (li + (1 : Int32)) L = true
        rotate_left
        · rw [if_neg b_138] at h; cases h
        rw [if_pos b_138] at h
        refine va_sld hx hb hX hbl hbA hS (inb_in b_138) d_law_287 ?_
        refine lv_aload_n hx hb d_law_288 rfl (lv_at hl 1 rfl) ?_
        refine lv_iload_n hx hb d_law_289 rfl (lv_at hl 0 rfl) ?_
        refine lv_iconst (v := (2 : Int32)) hx hb d_law_290 (by decide) ?_
        refine lv_iadd hx hb d_law_291 ?_
        by_cases b_139 : inb (li + (2 : Int32)) L = true
        rotate_left
        · rw [if_neg b_139] at h; cases h
        rw [if_pos b_139] at h
        refine va_sld hx hb hX hbl hbA hS (inb_in b_139) d_law_292 ?_
        refine lv_aload_n hx hb d_law_293 rfl (lv_at hl 1 rfl) ?_
        refine lv_iload_n hx hb d_law_294 rfl (lv_at hl 0 rfl) ?_
        refine lv_iconst (v := (3 : Int32)) hx hb d_law_295 (by decide) ?_
        refine lv_iadd hx hb d_law_296 ?_
        by_cases b_140 : inb (li + (3 : Int32)) L = true
        rotate_left
        · rw [if_neg b_140] at h; cases h
        rw [if_pos b_140] at h
        refine va_sld hx hb hX hbl hbA hS (inb_in b_140) d_law_297 ?_
        refine lv_aload_n hx hb d_law_298 rfl (lv_at hl 1 rfl) ?_
        refine lv_iload_n hx hb d_law_299 rfl (lv_at hl 0 rfl) ?_
        refine lv_iconst (v := (4 : Int32)) hx hb d_law_300 (by decide) ?_
        refine lv_iadd hx hb d_law_301 ?_
        by_cases b_141 : inb (li + (4 : Int32)) L = true
        rotate_left
        · rw [if_neg b_141] at h; cases h
        rw [if_pos b_141] at h
        refine va_sld hx hb hX hbl hbA hS (inb_in b_141) d_law_302 ?_
        rcases e_154 : f_B_multiple td lw sy sh kn ro sz fc_ fn_ ra rb rc rx ry rz rs (xs (li + (1 : Int32)).toNatClampNeg) (xs (li + (2 : Int32)).toNatClampNeg) (xs (li + (3 : Int32)).toNatClampNeg) (xs (li + (4 : Int32)).toNatClampNeg) with _ | ⟨r_142, ro_143, sz_144, fc__145, fn__146, ra_147, rb_148, rc_149, rx_150, ry_151, rz_152, rs_153⟩
        · rw [e_154] at h; cases h
        rw [e_154, Option.bind_some] at h
        try dsimp only at h
        refine va_calll (va_runV (As := [.int (xs (li + (1 : Int32)).toNatClampNeg), .int (xs (li + (2 : Int32)).toNatClampNeg), .int (xs (li + (3 : Int32)).toNatClampNeg), .int (xs (li + (4 : Int32)).toNatClampNeg)]) (rest := []) ⟨hx, hb, hml, hown, htg⟩ (c_B_multiple l D ct A ([(g0, .inr (5, [.ref q1, .ref q2, .ref q3, .ref q4, .ref q5, .int cm, .int stp, .ref q6, .ref q7, .ref q8, .int mus, .int mc_, .int mb_, .ref q9])), (q1, .inl (ct.2.2, 9, .inl am)), (q2, .inl (ct.1, 240, .inr (.inl ac))), (q3, .inl (ct.1, 240, .inr (.inl al))), (q4, .inl (ct.2.2, 40, .inl ay)), (q5, .inl (ct.2.2, 40, .inl as_)), (q6, .inl (ct.1, 6, .inr (.inl ax))), (q7, .inl (ct.1, 3000, .inr (.inl au))), (q8, .inl (ct.2.2, 500, .inl ao)), (q9, .inl (ct.1, 3000, .inr (.inl at_)))] ++ wt)  h0 h1 h2 h3 h5 h4 h6 ca ta la td lw sy sh kn ro sz fc_ fn_ rp sq gc_ gn_ ra rb rc rx ry rz rs (xs (li + (1 : Int32)).toNatClampNeg) (xs (li + (2 : Int32)).toNatClampNeg) (xs (li + (3 : Int32)).toNatClampNeg) (xs (li + (4 : Int32)).toNatClampNeg)  hk40 (hpool.app _) _ e_154) (cwV 4 htg (giV tm_363 tm_364 tm_365 tm_31 g_B_multiple) rfl rfl rfl (by decide +kernel) ⟨Nat.le_of_ble_eq_true rfl, Nat.le_of_ble_eq_true rfl⟩) (preVM hA hS hP hD hKK (va_recv hK hP (ci := 4) (q0 := 0) rfl rfl)) rfl rfl hl.1 rfl (lv_room (Nat.le_of_ble_eq_true rfl)) d_law_303 ⟨show cc + 0 ≤ 600000 by omega, show ss + 0 ≤ 7302250 by omega⟩) hS (fun q _ h9 => h9) (fun q h9 => h9) (fun r9 u9 t9 H locs ht9 hvm9 hw9 hB9 hz9 hk9 hS => ?_)
        obtain ⟨hw8, hw9⟩ := Prod.mk.inj hw9
        rw [hw8]
        rw [hw9] at hB9
        obtain ⟨hP, hD⟩ := hB9
        rw [ht9] at hP
        have hP : va_P D classes ([(h0, .inr (4, [.ref h1, .ref h2, .ref h3, .ref h5, .int (nI kn)])), (h1, .inl (ct.2.1, 40, .inr (.inr (.inr (.inr (cfun kn ca)))))), (h2, .inr (1, [.long ra_147, .long rb_148, .long rc_149, .long rx_150, .long ry_151, .long rz_152, .int rs_153])), (h3, .inr (2, [.ref h2, .ref h4, .int sz_144, .int fc__145, .int fn__146])), (h4, .inl (ct.1, 3185, .inr (.inl ro_143))), (h5, .inr (2, [.ref h2, .ref h6, .int sq, .int gc_, .int gn_])), (h6, .inl (ct.1, 3185, .inr (.inl rp))), (g0, .inr (5, [.ref q1, .ref q2, .ref q3, .ref q4, .ref q5, .int cm, .int stp, .ref q6, .ref q7, .ref q8, .int mus, .int mc_, .int mb_, .ref q9])), (q1, .inl (ct.2.2, 9, .inl am)), (q2, .inl (ct.1, 240, .inr (.inl ac))), (q3, .inl (ct.1, 240, .inr (.inl al))), (q4, .inl (ct.2.2, 40, .inl ay)), (q5, .inl (ct.2.2, 40, .inl as_)), (q6, .inl (ct.1, 6, .inr (.inl ax))), (q7, .inl (ct.1, 3000, .inr (.inl au))), (q8, .inl (ct.2.2, 500, .inl ao)), (q9, .inl (ct.1, 3000, .inr (.inl at_)))] ++ wt) H := hP
        have hD : va_D A ([(h0, .inr (4, [.ref h1, .ref h2, .ref h3, .ref h5, .int (nI kn)])), (h1, .inl (ct.2.1, 40, .inr (.inr (.inr (.inr (cfun kn ca)))))), (h2, .inr (1, [.long ra_147, .long rb_148, .long rc_149, .long rx_150, .long ry_151, .long rz_152, .int rs_153])), (h3, .inr (2, [.ref h2, .ref h4, .int sz_144, .int fc__145, .int fn__146])), (h4, .inl (ct.1, 3185, .inr (.inl ro_143))), (h5, .inr (2, [.ref h2, .ref h6, .int sq, .int gc_, .int gn_])), (h6, .inl (ct.1, 3185, .inr (.inl rp))), (g0, .inr (5, [.ref q1, .ref q2, .ref q3, .ref q4, .ref q5, .int cm, .int stp, .ref q6, .ref q7, .ref q8, .int mus, .int mc_, .int mb_, .ref q9])), (q1, .inl (ct.2.2, 9, .inl am)), (q2, .inl (ct.1, 240, .inr (.inl ac))), (q3, .inl (ct.1, 240, .inr (.inl al))), (q4, .inl (ct.2.2, 40, .inl ay)), (q5, .inl (ct.2.2, 40, .inl as_)), (q6, .inl (ct.1, 6, .inr (.inl ax))), (q7, .inl (ct.1, 3000, .inr (.inl au))), (q8, .inl (ct.2.2, 500, .inl ao)), (q9, .inl (ct.1, 3000, .inr (.inl at_)))] ++ wt) := hD
        refine lv_aload_n hx hb d_law_306 rfl (lv_at hl 3 rfl) ?_
        refine lv_aload_n hx hb d_law_307 rfl (lv_at hl 1 rfl) ?_
        refine lv_iload_n hx hb d_law_308 rfl (lv_at hl 0 rfl) ?_
        refine lv_iconst (v := (1 : Int32)) hx hb d_law_309 (by decide) ?_
        refine lv_iadd hx hb d_law_310 ?_
        by_cases b_155 : inb (li + (1 : Int32)) L = true
        rotate_left
        · rw [if_neg b_155] at h; cases h
        rw [if_pos b_155] at h
        refine va_sld hx hb hX hbl hbA hS (inb_in b_155) d_law_311 ?_
        refine lv_aload_n hx hb d_law_312 rfl (lv_at hl 1 rfl) ?_
        refine lv_iload_n hx hb d_law_313 rfl (lv_at hl 0 rfl) ?_
        refine lv_iconst (v := (2 : Int32)) hx hb d_law_314 (by decide) ?_
        refine lv_iadd hx hb d_law_315 ?_
        by_cases b_156 : inb (li + (2 : Int32)) L = true
        rotate_left
        · rw [if_neg b_156] at h; cases h
        rw [if_pos b_156] at h
        refine va_sld hx hb hX hbl hbA hS (inb_in b_156) d_law_316 ?_
        refine lv_aload_n hx hb d_law_317 rfl (lv_at hl 1 rfl) ?_
        refine lv_iload_n hx hb d_law_318 rfl (lv_at hl 0 rfl) ?_
        refine lv_iconst (v := (3 : Int32)) hx hb d_law_319 (by decide) ?_
        refine lv_iadd hx hb d_law_320 ?_
        by_cases b_157 : inb (li + (3 : Int32)) L = true
        rotate_left
        · rw [if_neg b_157] at h; cases h
        rw [if_pos b_157] at h
        refine va_sld hx hb hX hbl hbA hS (inb_in b_157) d_law_321 ?_
        refine lv_aload_n hx hb d_law_322 rfl (lv_at hl 1 rfl) ?_
        refine lv_iload_n hx hb d_law_323 rfl (lv_at hl 0 rfl) ?_
        refine lv_iconst (v := (4 : Int32)) hx hb d_law_324 (by decide) ?_
        refine lv_iadd hx hb d_law_325 ?_
        by_cases b_158 : inb (li + (4 : Int32)) L = true
        rotate_left
        · rw [if_neg b_158] at h; cases h
        rw [if_pos b_158] at h
        refine va_sld hx hb hX hbl hbA hS (inb_in b_158) d_law_326 ?_
        have hP := va_P.part (cx := [(g0, .inr (5, [.ref q1, .ref q2, .ref q3, .ref q4, .ref q5, .int cm, .int stp, .ref q6, .ref q7, .ref q8, .int mus, .int mc_, .int mb_, .ref q9])), (q2, .inl (ct.1, 240, .inr (.inl ac))), (q6, .inl (ct.1, 6, .inr (.inl ax))), (q7, .inl (ct.1, 3000, .inr (.inl au))), (q8, .inl (ct.2.2, 500, .inl ao)), (h0, .inr (4, [.ref h1, .ref h2, .ref h3, .ref h5, .int (nI kn)])), (h1, .inl (ct.2.1, 40, .inr (.inr (.inr (.inr (cfun kn ca)))))), (h2, .inr (1, [.long ra_147, .long rb_148, .long rc_149, .long rx_150, .long ry_151, .long rz_152, .int rs_153])), (h3, .inr (2, [.ref h2, .ref h4, .int sz_144, .int fc__145, .int fn__146])), (h4, .inl (ct.1, 3185, .inr (.inl ro_143))), (h5, .inr (2, [.ref h2, .ref h6, .int sq, .int gc_, .int gn_])), (h6, .inl (ct.1, 3185, .inr (.inl rp))), (q1, .inl (ct.2.2, 9, .inl am)), (q3, .inl (ct.1, 240, .inr (.inl al))), (q4, .inl (ct.2.2, 40, .inl ay)), (q5, .inl (ct.2.2, 40, .inl as_)), (q9, .inl (ct.1, 3000, .inr (.inl at_)))]) hP [7, 9, 13, 14, 15, 0, 1, 2, 3, 4, 5, 6, 8, 10, 11, 12, 16] rfl
        have hD := va_D.part (cx := [(g0, .inr (5, [.ref q1, .ref q2, .ref q3, .ref q4, .ref q5, .int cm, .int stp, .ref q6, .ref q7, .ref q8, .int mus, .int mc_, .int mb_, .ref q9])), (q2, .inl (ct.1, 240, .inr (.inl ac))), (q6, .inl (ct.1, 6, .inr (.inl ax))), (q7, .inl (ct.1, 3000, .inr (.inl au))), (q8, .inl (ct.2.2, 500, .inl ao)), (h0, .inr (4, [.ref h1, .ref h2, .ref h3, .ref h5, .int (nI kn)])), (h1, .inl (ct.2.1, 40, .inr (.inr (.inr (.inr (cfun kn ca)))))), (h2, .inr (1, [.long ra_147, .long rb_148, .long rc_149, .long rx_150, .long ry_151, .long rz_152, .int rs_153])), (h3, .inr (2, [.ref h2, .ref h4, .int sz_144, .int fc__145, .int fn__146])), (h4, .inl (ct.1, 3185, .inr (.inl ro_143))), (h5, .inr (2, [.ref h2, .ref h6, .int sq, .int gc_, .int gn_])), (h6, .inl (ct.1, 3185, .inr (.inl rp))), (q1, .inl (ct.2.2, 9, .inl am)), (q3, .inl (ct.1, 240, .inr (.inl al))), (q4, .inl (ct.2.2, 40, .inl ay)), (q5, .inl (ct.2.2, 40, .inl as_)), (q9, .inl (ct.1, 3000, .inr (.inl at_)))]) hD [7, 9, 13, 14, 15, 0, 1, 2, 3, 4, 5, 6, 8, 10, 11, 12, 16] (by decide) rfl
        rcases e_167 : f_M_multiple cm ac stp mus ax au ao mc_ mb_ (xs (li + (1 : Int32)).toNatClampNeg) (xs (li + (2 : Int32)).toNatClampNeg) (xs (li + (3 : Int32)).toNatClampNeg) (xs (li + (4 : Int32)).toNatClampNeg) with _ | ⟨r_159, stp_160, mus_161, ax_162, au_163, ao_164, mc__165, mb__166⟩
        · rw [e_167] at h; cases h
        rw [e_167, Option.bind_some] at h
        try dsimp only at h
        refine va_calll (va_runV (As := [.int (xs (li + (1 : Int32)).toNatClampNeg), .int (xs (li + (2 : Int32)).toNatClampNeg), .int (xs (li + (3 : Int32)).toNatClampNeg), .int (xs (li + (4 : Int32)).toNatClampNeg)]) (rest := [.long r_142]) ⟨hx, hb, hml, hown, htg⟩ (c_M_multiple l D ct A ([(h0, .inr (4, [.ref h1, .ref h2, .ref h3, .ref h5, .int (nI kn)])), (h1, .inl (ct.2.1, 40, .inr (.inr (.inr (.inr (cfun kn ca)))))), (h2, .inr (1, [.long ra_147, .long rb_148, .long rc_149, .long rx_150, .long ry_151, .long rz_152, .int rs_153])), (h3, .inr (2, [.ref h2, .ref h4, .int sz_144, .int fc__145, .int fn__146])), (h4, .inl (ct.1, 3185, .inr (.inl ro_143))), (h5, .inr (2, [.ref h2, .ref h6, .int sq, .int gc_, .int gn_])), (h6, .inl (ct.1, 3185, .inr (.inl rp))), (q1, .inl (ct.2.2, 9, .inl am)), (q3, .inl (ct.1, 240, .inr (.inl al))), (q4, .inl (ct.2.2, 40, .inl ay)), (q5, .inl (ct.2.2, 40, .inl as_)), (q9, .inl (ct.1, 3000, .inr (.inl at_)))] ++ wt)  g0 q1 q2 q3 q4 q5 q6 q7 q8 q9 cm stp mus mc_ mb_ ac ax au ao (xs (li + (1 : Int32)).toNatClampNeg) (xs (li + (2 : Int32)).toNatClampNeg) (xs (li + (3 : Int32)).toNatClampNeg) (xs (li + (4 : Int32)).toNatClampNeg)   _ e_167) (cwV 4 htg (giV tm_522 tm_523 tm_524 tm_34 g_M_multiple) rfl rfl rfl (by decide +kernel) ⟨Nat.le_of_ble_eq_true rfl, Nat.le_of_ble_eq_true rfl⟩) (preVM hA hS hP hD hKK (va_recv hK hP (ci := 5) (q0 := 0) rfl rfl)) rfl rfl hl.1 rfl (lv_room (Nat.le_of_ble_eq_true rfl)) d_law_327 ⟨show cc + 0 ≤ 600000 by omega, show ss + 0 ≤ 7302250 by omega⟩) hS (fun q _ h9 => h9) (fun q h9 => h9) (fun r9 u9 t9 H locs ht9 hvm9 hw9 hB9 hz9 hk9 hS => ?_)
        obtain ⟨hw8, hw9⟩ := Prod.mk.inj hw9
        rw [hw8]
        rw [hw9] at hB9
        obtain ⟨hP, hD⟩ := hB9
        rw [ht9] at hP
        have hP : va_P D classes ([(g0, .inr (5, [.ref q1, .ref q2, .ref q3, .ref q4, .ref q5, .int cm, .int stp_160, .ref q6, .ref q7, .ref q8, .int mus_161, .int mc__165, .int mb__166, .ref q9])), (q2, .inl (ct.1, 240, .inr (.inl ac))), (q6, .inl (ct.1, 6, .inr (.inl ax_162))), (q7, .inl (ct.1, 3000, .inr (.inl au_163))), (q8, .inl (ct.2.2, 500, .inl ao_164)), (h0, .inr (4, [.ref h1, .ref h2, .ref h3, .ref h5, .int (nI kn)])), (h1, .inl (ct.2.1, 40, .inr (.inr (.inr (.inr (cfun kn ca)))))), (h2, .inr (1, [.long ra_147, .long rb_148, .long rc_149, .long rx_150, .long ry_151, .long rz_152, .int rs_153])), (h3, .inr (2, [.ref h2, .ref h4, .int sz_144, .int fc__145, .int fn__146])), (h4, .inl (ct.1, 3185, .inr (.inl ro_143))), (h5, .inr (2, [.ref h2, .ref h6, .int sq, .int gc_, .int gn_])), (h6, .inl (ct.1, 3185, .inr (.inl rp))), (q1, .inl (ct.2.2, 9, .inl am)), (q3, .inl (ct.1, 240, .inr (.inl al))), (q4, .inl (ct.2.2, 40, .inl ay)), (q5, .inl (ct.2.2, 40, .inl as_)), (q9, .inl (ct.1, 3000, .inr (.inl at_)))] ++ wt) H := hP
        have hD : va_D A ([(g0, .inr (5, [.ref q1, .ref q2, .ref q3, .ref q4, .ref q5, .int cm, .int stp_160, .ref q6, .ref q7, .ref q8, .int mus_161, .int mc__165, .int mb__166, .ref q9])), (q2, .inl (ct.1, 240, .inr (.inl ac))), (q6, .inl (ct.1, 6, .inr (.inl ax_162))), (q7, .inl (ct.1, 3000, .inr (.inl au_163))), (q8, .inl (ct.2.2, 500, .inl ao_164)), (h0, .inr (4, [.ref h1, .ref h2, .ref h3, .ref h5, .int (nI kn)])), (h1, .inl (ct.2.1, 40, .inr (.inr (.inr (.inr (cfun kn ca)))))), (h2, .inr (1, [.long ra_147, .long rb_148, .long rc_149, .long rx_150, .long ry_151, .long rz_152, .int rs_153])), (h3, .inr (2, [.ref h2, .ref h4, .int sz_144, .int fc__145, .int fn__146])), (h4, .inl (ct.1, 3185, .inr (.inl ro_143))), (h5, .inr (2, [.ref h2, .ref h6, .int sq, .int gc_, .int gn_])), (h6, .inl (ct.1, 3185, .inr (.inl rp))), (q1, .inl (ct.2.2, 9, .inl am)), (q3, .inl (ct.1, 240, .inr (.inl al))), (q4, .inl (ct.2.2, 40, .inl ay)), (q5, .inl (ct.2.2, 40, .inl as_)), (q9, .inl (ct.1, 3000, .inr (.inl at_)))] ++ wt) := hD
        refine W.lcmp hx hb d_law_330 ?_
        refine lv_if_eq (tgt := 506) hx hb d_law_331 (by decide) (fun c_168 => ?_) (fun c_168 => ?_)
        · rw [if_pos c_168] at h
          refine lv_iinc (v := li + (7 : Int32)) (lv' := [(3, .int (li + (7 : Int32))), (0, .ref b), (1, .ref h0), (2, .ref g0)]) hx hb d_law_506 hl (k := 0) rfl rfl (by decide) rfl (fun ls hl => ?_)
          refine lv_goto (tgt := 18) hx hb d_law_509 (by decide) ?_
          have hP := va_P.part (cx := [(h0, .inr (4, [.ref h1, .ref h2, .ref h3, .ref h5, .int (nI kn)])), (h1, .inl (ct.2.1, 40, .inr (.inr (.inr (.inr (cfun kn ca)))))), (h2, .inr (1, [.long ra_147, .long rb_148, .long rc_149, .long rx_150, .long ry_151, .long rz_152, .int rs_153])), (h3, .inr (2, [.ref h2, .ref h4, .int sz_144, .int fc__145, .int fn__146])), (h4, .inl (ct.1, 3185, .inr (.inl ro_143))), (h5, .inr (2, [.ref h2, .ref h6, .int sq, .int gc_, .int gn_])), (h6, .inl (ct.1, 3185, .inr (.inl rp))), (g0, .inr (5, [.ref q1, .ref q2, .ref q3, .ref q4, .ref q5, .int cm, .int stp_160, .ref q6, .ref q7, .ref q8, .int mus_161, .int mc__165, .int mb__166, .ref q9])), (q1, .inl (ct.2.2, 9, .inl am)), (q2, .inl (ct.1, 240, .inr (.inl ac))), (q3, .inl (ct.1, 240, .inr (.inl al))), (q4, .inl (ct.2.2, 40, .inl ay)), (q5, .inl (ct.2.2, 40, .inl as_)), (q6, .inl (ct.1, 6, .inr (.inl ax_162))), (q7, .inl (ct.1, 3000, .inr (.inl au_163))), (q8, .inl (ct.2.2, 500, .inl ao_164)), (q9, .inl (ct.1, 3000, .inr (.inl at_)))]) hP [5, 6, 7, 8, 9, 10, 11, 0, 12, 1, 13, 14, 15, 2, 3, 4, 16] rfl
          have hD := va_D.part (cx := [(h0, .inr (4, [.ref h1, .ref h2, .ref h3, .ref h5, .int (nI kn)])), (h1, .inl (ct.2.1, 40, .inr (.inr (.inr (.inr (cfun kn ca)))))), (h2, .inr (1, [.long ra_147, .long rb_148, .long rc_149, .long rx_150, .long ry_151, .long rz_152, .int rs_153])), (h3, .inr (2, [.ref h2, .ref h4, .int sz_144, .int fc__145, .int fn__146])), (h4, .inl (ct.1, 3185, .inr (.inl ro_143))), (h5, .inr (2, [.ref h2, .ref h6, .int sq, .int gc_, .int gn_])), (h6, .inl (ct.1, 3185, .inr (.inl rp))), (g0, .inr (5, [.ref q1, .ref q2, .ref q3, .ref q4, .ref q5, .int cm, .int stp_160, .ref q6, .ref q7, .ref q8, .int mus_161, .int mc__165, .int mb__166, .ref q9])), (q1, .inl (ct.2.2, 9, .inl am)), (q2, .inl (ct.1, 240, .inr (.inl ac))), (q3, .inl (ct.1, 240, .inr (.inl al))), (q4, .inl (ct.2.2, 40, .inl ay)), (q5, .inl (ct.2.2, 40, .inl as_)), (q6, .inl (ct.1, 6, .inr (.inl ax_162))), (q7, .inl (ct.1, 3000, .inr (.inl au_163))), (q8, .inl (ct.2.2, 500, .inl ao_164)), (q9, .inl (ct.1, 3000, .inr (.inl at_)))]) hD [5, 6, 7, 8, 9, 10, 11, 0, 12, 1, 13, 14, 15, 2, 3, 4, 16] (by decide) rfl
          exact ih (li + (7 : Int32)) kn td lw sy sh ro_143 sz_144 fc__145 fn__146 rp sq gc_ gn_ ra_147 rb_148 rc_149 rx_150 ry_151 rz_152 rs_153 cm stp_160 mus_161 mc__165 mb__166 am ac al ay as_ ax_162 au_163 ao_164 at_ h h0 h1 h2 h3 h4 h5 h6 g0 q1 q2 q3 q4 q5 q6 q7 q8 q9 ca ta la wt _ _ cc ss (by omega) (by omega) hk40 hpool hP hD hS ls (lv_sub hl [0, 1, 2, 3] rfl)
        · rw [if_neg c_168] at h
          refine lv_iconst (v := (0 : Int32)) hx hb d_law_334 (by decide) ?_
          exact absurd (Option.some.inj h) (by decide)
      rw [if_neg c_137] at h
      by_cases c_171 : ((xs li.toNatClampNeg) &&& (15 : Int32)) = (6 : Int32)
      · rw [if_pos c_171] at h
        refine lv_tableIn (off := 303) (tgt := 336) hx hb d_law_33 (by rw [c_171]; decide) (by rw [c_171]; decide) (by rw [c_171]; rfl) (by decide) ?_
        refine lv_aload_n hx hb d_law_336 rfl (lv_at hl 2 rfl) ?_
        refine lv_aload_n hx hb d_law_337 rfl (lv_at hl 1 rfl) ?_
        refine lv_iload_n hx hb d_law_338 rfl (lv_at hl 0 rfl) ?_
        refine lv_iconst (v := (1 : Int32)) hx hb d_law_339 (by decide) ?_
        refine lv_iadd hx hb d_law_340 ?_
        by_cases b_172 : inb (li + (1 : Int32)) L = true
        rotate_left
        · rw [if_neg b_172] at h; cases h
        rw [if_pos b_172] at h
        refine va_sld hx hb hX hbl hbA hS (inb_in b_172) d_law_341 ?_
        refine lv_aload_n hx hb d_law_342 rfl (lv_at hl 1 rfl) ?_
        refine lv_iload_n hx hb d_law_343 rfl (lv_at hl 0 rfl) ?_
        refine lv_iconst (v := (2 : Int32)) hx hb d_law_344 (by decide) ?_
        refine lv_iadd hx hb d_law_345 ?_
        by_cases b_173 : inb (li + (2 : Int32)) L = true
        rotate_left
        · rw [if_neg b_173] at h; cases h
        rw [if_pos b_173] at h
        refine va_sld hx hb hX hbl hbA hS (inb_in b_173) d_law_346 ?_
        refine lv_aload_n hx hb d_law_347 rfl (lv_at hl 1 rfl) ?_
        refine lv_iload_n hx hb d_law_348 rfl (lv_at hl 0 rfl) ?_
        refine lv_iconst (v := (3 : Int32)) hx hb d_law_349 (by decide) ?_
        refine lv_iadd hx hb d_law_350 ?_
        by_cases b_174 : inb (li + (3 : Int32)) L = true
        rotate_left
        · rw [if_neg b_174] at h; cases h
        rw [if_pos b_174] at h
        refine va_sld hx hb hX hbl hbA hS (inb_in b_174) d_law_351 ?_
        refine lv_aload_n hx hb d_law_352 rfl (lv_at hl 1 rfl) ?_
        refine lv_iload_n hx hb d_law_353 rfl (lv_at hl 0 rfl) ?_
        refine lv_iconst (v := (4 : Int32)) hx hb d_law_354 (by decide) ?_
        refine lv_iadd hx hb d_law_355 ?_
        by_cases b_175 : inb (li + (4 : Int32)) L = true
        rotate_left
        · rw [if_neg b_175] at h; cases h
        rw [if_pos b_175] at h
        refine va_sld hx hb hX hbl hbA hS (inb_in b_175) d_law_356 ?_
        rcases e_192 : f_B_common td lw sy sh kn ro sz fc_ fn_ rp sq gc_ gn_ ra rb rc rx ry rz rs (xs (li + (1 : Int32)).toNatClampNeg) (xs (li + (2 : Int32)).toNatClampNeg) (xs (li + (3 : Int32)).toNatClampNeg) (xs (li + (4 : Int32)).toNatClampNeg) with _ | ⟨r_176, ro_177, sz_178, fc__179, fn__180, rp_181, sq_182, gc__183, gn__184, ra_185, rb_186, rc_187, rx_188, ry_189, rz_190, rs_191⟩
        · rw [e_192] at h; cases h
        rw [e_192, Option.bind_some] at h
        try dsimp only at h
        refine va_calli (va_runV (As := [.int (xs (li + (1 : Int32)).toNatClampNeg), .int (xs (li + (2 : Int32)).toNatClampNeg), .int (xs (li + (3 : Int32)).toNatClampNeg), .int (xs (li + (4 : Int32)).toNatClampNeg)]) (rest := []) ⟨hx, hb, hml, hown, htg⟩ (c_B_common l D ct A ([(g0, .inr (5, [.ref q1, .ref q2, .ref q3, .ref q4, .ref q5, .int cm, .int stp, .ref q6, .ref q7, .ref q8, .int mus, .int mc_, .int mb_, .ref q9])), (q1, .inl (ct.2.2, 9, .inl am)), (q2, .inl (ct.1, 240, .inr (.inl ac))), (q3, .inl (ct.1, 240, .inr (.inl al))), (q4, .inl (ct.2.2, 40, .inl ay)), (q5, .inl (ct.2.2, 40, .inl as_)), (q6, .inl (ct.1, 6, .inr (.inl ax))), (q7, .inl (ct.1, 3000, .inr (.inl au))), (q8, .inl (ct.2.2, 500, .inl ao)), (q9, .inl (ct.1, 3000, .inr (.inl at_)))] ++ wt)  h0 h1 h2 h3 h5 h4 h6 ca ta la td lw sy sh kn ro sz fc_ fn_ rp sq gc_ gn_ ra rb rc rx ry rz rs (xs (li + (1 : Int32)).toNatClampNeg) (xs (li + (2 : Int32)).toNatClampNeg) (xs (li + (3 : Int32)).toNatClampNeg) (xs (li + (4 : Int32)).toNatClampNeg)  hk40 (hpool.app _) _ e_192) (cwV 4 htg (giV tm_368 tm_369 tm_370 tm_31 g_B_common) rfl rfl rfl (by decide +kernel) ⟨Nat.le_of_ble_eq_true rfl, Nat.le_of_ble_eq_true rfl⟩) (preVM hA hS hP hD hKK (va_recv hK hP (ci := 4) (q0 := 0) rfl rfl)) rfl rfl hl.1 rfl (lv_room (Nat.le_of_ble_eq_true rfl)) d_law_357 ⟨show cc + 0 ≤ 600000 by omega, show ss + 0 ≤ 7302250 by omega⟩) hS (fun q _ h9 => h9) (fun q h9 => h9) (fun r9 u9 t9 H locs ht9 hvm9 hw9 hB9 hz9 hk9 hS => ?_)
        obtain ⟨hw8, hw9⟩ := Prod.mk.inj hw9
        rw [hw8]
        rw [hw9] at hB9
        obtain ⟨hP, hD⟩ := hB9
        rw [ht9] at hP
        have hP : va_P D classes ([(h0, .inr (4, [.ref h1, .ref h2, .ref h3, .ref h5, .int (nI kn)])), (h1, .inl (ct.2.1, 40, .inr (.inr (.inr (.inr (cfun kn ca)))))), (h2, .inr (1, [.long ra_185, .long rb_186, .long rc_187, .long rx_188, .long ry_189, .long rz_190, .int rs_191])), (h3, .inr (2, [.ref h2, .ref h4, .int sz_178, .int fc__179, .int fn__180])), (h4, .inl (ct.1, 3185, .inr (.inl ro_177))), (h5, .inr (2, [.ref h2, .ref h6, .int sq_182, .int gc__183, .int gn__184])), (h6, .inl (ct.1, 3185, .inr (.inl rp_181))), (g0, .inr (5, [.ref q1, .ref q2, .ref q3, .ref q4, .ref q5, .int cm, .int stp, .ref q6, .ref q7, .ref q8, .int mus, .int mc_, .int mb_, .ref q9])), (q1, .inl (ct.2.2, 9, .inl am)), (q2, .inl (ct.1, 240, .inr (.inl ac))), (q3, .inl (ct.1, 240, .inr (.inl al))), (q4, .inl (ct.2.2, 40, .inl ay)), (q5, .inl (ct.2.2, 40, .inl as_)), (q6, .inl (ct.1, 6, .inr (.inl ax))), (q7, .inl (ct.1, 3000, .inr (.inl au))), (q8, .inl (ct.2.2, 500, .inl ao)), (q9, .inl (ct.1, 3000, .inr (.inl at_)))] ++ wt) H := hP
        have hD : va_D A ([(h0, .inr (4, [.ref h1, .ref h2, .ref h3, .ref h5, .int (nI kn)])), (h1, .inl (ct.2.1, 40, .inr (.inr (.inr (.inr (cfun kn ca)))))), (h2, .inr (1, [.long ra_185, .long rb_186, .long rc_187, .long rx_188, .long ry_189, .long rz_190, .int rs_191])), (h3, .inr (2, [.ref h2, .ref h4, .int sz_178, .int fc__179, .int fn__180])), (h4, .inl (ct.1, 3185, .inr (.inl ro_177))), (h5, .inr (2, [.ref h2, .ref h6, .int sq_182, .int gc__183, .int gn__184])), (h6, .inl (ct.1, 3185, .inr (.inl rp_181))), (g0, .inr (5, [.ref q1, .ref q2, .ref q3, .ref q4, .ref q5, .int cm, .int stp, .ref q6, .ref q7, .ref q8, .int mus, .int mc_, .int mb_, .ref q9])), (q1, .inl (ct.2.2, 9, .inl am)), (q2, .inl (ct.1, 240, .inr (.inl ac))), (q3, .inl (ct.1, 240, .inr (.inl al))), (q4, .inl (ct.2.2, 40, .inl ay)), (q5, .inl (ct.2.2, 40, .inl as_)), (q6, .inl (ct.1, 6, .inr (.inl ax))), (q7, .inl (ct.1, 3000, .inr (.inl au))), (q8, .inl (ct.2.2, 500, .inl ao)), (q9, .inl (ct.1, 3000, .inr (.inl at_)))] ++ wt) := hD
        refine lv_aload_n hx hb d_law_360 rfl (lv_at hl 3 rfl) ?_
        refine lv_aload_n hx hb d_law_361 rfl (lv_at hl 1 rfl) ?_
        refine lv_iload_n hx hb d_law_362 rfl (lv_at hl 0 rfl) ?_
        refine lv_iconst (v := (1 : Int32)) hx hb d_law_363 (by decide) ?_
        refine lv_iadd hx hb d_law_364 ?_
        by_cases b_193 : inb (li + (1 : Int32)) L = true
        rotate_left
        · rw [if_neg b_193] at h; cases h
        rw [if_pos b_193] at h
        refine va_sld hx hb hX hbl hbA hS (inb_in b_193) d_law_365 ?_
        refine lv_aload_n hx hb d_law_366 rfl (lv_at hl 1 rfl) ?_
        refine lv_iload_n hx hb d_law_367 rfl (lv_at hl 0 rfl) ?_
        refine lv_iconst (v := (2 : Int32)) hx hb d_law_368 (by decide) ?_
        refine lv_iadd hx hb d_law_369 ?_
        by_cases b_194 : inb (li + (2 : Int32)) L = true
        rotate_left
        · rw [if_neg b_194] at h; cases h
        rw [if_pos b_194] at h
        refine va_sld hx hb hX hbl hbA hS (inb_in b_194) d_law_370 ?_
        refine lv_aload_n hx hb d_law_371 rfl (lv_at hl 1 rfl) ?_
        refine lv_iload_n hx hb d_law_372 rfl (lv_at hl 0 rfl) ?_
        refine lv_iconst (v := (3 : Int32)) hx hb d_law_373 (by decide) ?_
        refine lv_iadd hx hb d_law_374 ?_
        by_cases b_195 : inb (li + (3 : Int32)) L = true
        rotate_left
        · rw [if_neg b_195] at h; cases h
        rw [if_pos b_195] at h
        refine va_sld hx hb hX hbl hbA hS (inb_in b_195) d_law_375 ?_
        refine lv_aload_n hx hb d_law_376 rfl (lv_at hl 1 rfl) ?_
        refine lv_iload_n hx hb d_law_377 rfl (lv_at hl 0 rfl) ?_
        refine lv_iconst (v := (4 : Int32)) hx hb d_law_378 (by decide) ?_
        refine lv_iadd hx hb d_law_379 ?_
        by_cases b_196 : inb (li + (4 : Int32)) L = true
        rotate_left
        · rw [if_neg b_196] at h; cases h
        rw [if_pos b_196] at h
        refine va_sld hx hb hX hbl hbA hS (inb_in b_196) d_law_380 ?_
        have hP := va_P.part (cx := [(g0, .inr (5, [.ref q1, .ref q2, .ref q3, .ref q4, .ref q5, .int cm, .int stp, .ref q6, .ref q7, .ref q8, .int mus, .int mc_, .int mb_, .ref q9])), (q2, .inl (ct.1, 240, .inr (.inl ac))), (q6, .inl (ct.1, 6, .inr (.inl ax))), (q7, .inl (ct.1, 3000, .inr (.inl au))), (q8, .inl (ct.2.2, 500, .inl ao)), (q9, .inl (ct.1, 3000, .inr (.inl at_))), (h0, .inr (4, [.ref h1, .ref h2, .ref h3, .ref h5, .int (nI kn)])), (h1, .inl (ct.2.1, 40, .inr (.inr (.inr (.inr (cfun kn ca)))))), (h2, .inr (1, [.long ra_185, .long rb_186, .long rc_187, .long rx_188, .long ry_189, .long rz_190, .int rs_191])), (h3, .inr (2, [.ref h2, .ref h4, .int sz_178, .int fc__179, .int fn__180])), (h4, .inl (ct.1, 3185, .inr (.inl ro_177))), (h5, .inr (2, [.ref h2, .ref h6, .int sq_182, .int gc__183, .int gn__184])), (h6, .inl (ct.1, 3185, .inr (.inl rp_181))), (q1, .inl (ct.2.2, 9, .inl am)), (q3, .inl (ct.1, 240, .inr (.inl al))), (q4, .inl (ct.2.2, 40, .inl ay)), (q5, .inl (ct.2.2, 40, .inl as_))]) hP [7, 9, 13, 14, 15, 16, 0, 1, 2, 3, 4, 5, 6, 8, 10, 11, 12] rfl
        have hD := va_D.part (cx := [(g0, .inr (5, [.ref q1, .ref q2, .ref q3, .ref q4, .ref q5, .int cm, .int stp, .ref q6, .ref q7, .ref q8, .int mus, .int mc_, .int mb_, .ref q9])), (q2, .inl (ct.1, 240, .inr (.inl ac))), (q6, .inl (ct.1, 6, .inr (.inl ax))), (q7, .inl (ct.1, 3000, .inr (.inl au))), (q8, .inl (ct.2.2, 500, .inl ao)), (q9, .inl (ct.1, 3000, .inr (.inl at_))), (h0, .inr (4, [.ref h1, .ref h2, .ref h3, .ref h5, .int (nI kn)])), (h1, .inl (ct.2.1, 40, .inr (.inr (.inr (.inr (cfun kn ca)))))), (h2, .inr (1, [.long ra_185, .long rb_186, .long rc_187, .long rx_188, .long ry_189, .long rz_190, .int rs_191])), (h3, .inr (2, [.ref h2, .ref h4, .int sz_178, .int fc__179, .int fn__180])), (h4, .inl (ct.1, 3185, .inr (.inl ro_177))), (h5, .inr (2, [.ref h2, .ref h6, .int sq_182, .int gc__183, .int gn__184])), (h6, .inl (ct.1, 3185, .inr (.inl rp_181))), (q1, .inl (ct.2.2, 9, .inl am)), (q3, .inl (ct.1, 240, .inr (.inl al))), (q4, .inl (ct.2.2, 40, .inl ay)), (q5, .inl (ct.2.2, 40, .inl as_))]) hD [7, 9, 13, 14, 15, 16, 0, 1, 2, 3, 4, 5, 6, 8, 10, 11, 12] (by decide) rfl
        rcases e_206 : f_M_common cm ac stp mus ax au ao mc_ mb_ at_ (xs (li + (1 : Int32)).toNatClampNeg) (xs (li + (2 : Int32)).toNatClampNeg) (xs (li + (3 : Int32)).toNatClampNeg) (xs (li + (4 : Int32)).toNatClampNeg) with _ | ⟨r_197, stp_198, mus_199, ax_200, au_201, ao_202, mc__203, mb__204, at__205⟩
        · rw [e_206] at h; cases h
        rw [e_206, Option.bind_some] at h
        try dsimp only at h
        refine va_calli (va_runV (As := [.int (xs (li + (1 : Int32)).toNatClampNeg), .int (xs (li + (2 : Int32)).toNatClampNeg), .int (xs (li + (3 : Int32)).toNatClampNeg), .int (xs (li + (4 : Int32)).toNatClampNeg)]) (rest := [.int r_176]) ⟨hx, hb, hml, hown, htg⟩ (c_M_common l D ct A ([(h0, .inr (4, [.ref h1, .ref h2, .ref h3, .ref h5, .int (nI kn)])), (h1, .inl (ct.2.1, 40, .inr (.inr (.inr (.inr (cfun kn ca)))))), (h2, .inr (1, [.long ra_185, .long rb_186, .long rc_187, .long rx_188, .long ry_189, .long rz_190, .int rs_191])), (h3, .inr (2, [.ref h2, .ref h4, .int sz_178, .int fc__179, .int fn__180])), (h4, .inl (ct.1, 3185, .inr (.inl ro_177))), (h5, .inr (2, [.ref h2, .ref h6, .int sq_182, .int gc__183, .int gn__184])), (h6, .inl (ct.1, 3185, .inr (.inl rp_181))), (q1, .inl (ct.2.2, 9, .inl am)), (q3, .inl (ct.1, 240, .inr (.inl al))), (q4, .inl (ct.2.2, 40, .inl ay)), (q5, .inl (ct.2.2, 40, .inl as_))] ++ wt)  g0 q1 q2 q3 q4 q5 q6 q7 q8 q9 cm stp mus mc_ mb_ ac ax au ao at_ (xs (li + (1 : Int32)).toNatClampNeg) (xs (li + (2 : Int32)).toNatClampNeg) (xs (li + (3 : Int32)).toNatClampNeg) (xs (li + (4 : Int32)).toNatClampNeg)   _ e_206) (cwV 4 htg (giV tm_526 tm_527 tm_528 tm_34 g_M_common) rfl rfl rfl (by decide +kernel) ⟨Nat.le_of_ble_eq_true rfl, Nat.le_of_ble_eq_true rfl⟩) (preVM hA hS hP hD hKK (va_recv hK hP (ci := 5) (q0 := 0) rfl rfl)) rfl rfl hl.1 rfl (lv_room (Nat.le_of_ble_eq_true rfl)) d_law_381 ⟨show cc + 0 ≤ 600000 by omega, show ss + 0 ≤ 7302250 by omega⟩) hS (fun q _ h9 => h9) (fun q h9 => h9) (fun r9 u9 t9 H locs ht9 hvm9 hw9 hB9 hz9 hk9 hS => ?_)
        obtain ⟨hw8, hw9⟩ := Prod.mk.inj hw9
        rw [hw8]
        rw [hw9] at hB9
        obtain ⟨hP, hD⟩ := hB9
        rw [ht9] at hP
        have hP : va_P D classes ([(g0, .inr (5, [.ref q1, .ref q2, .ref q3, .ref q4, .ref q5, .int cm, .int stp_198, .ref q6, .ref q7, .ref q8, .int mus_199, .int mc__203, .int mb__204, .ref q9])), (q2, .inl (ct.1, 240, .inr (.inl ac))), (q6, .inl (ct.1, 6, .inr (.inl ax_200))), (q7, .inl (ct.1, 3000, .inr (.inl au_201))), (q8, .inl (ct.2.2, 500, .inl ao_202)), (q9, .inl (ct.1, 3000, .inr (.inl at__205))), (h0, .inr (4, [.ref h1, .ref h2, .ref h3, .ref h5, .int (nI kn)])), (h1, .inl (ct.2.1, 40, .inr (.inr (.inr (.inr (cfun kn ca)))))), (h2, .inr (1, [.long ra_185, .long rb_186, .long rc_187, .long rx_188, .long ry_189, .long rz_190, .int rs_191])), (h3, .inr (2, [.ref h2, .ref h4, .int sz_178, .int fc__179, .int fn__180])), (h4, .inl (ct.1, 3185, .inr (.inl ro_177))), (h5, .inr (2, [.ref h2, .ref h6, .int sq_182, .int gc__183, .int gn__184])), (h6, .inl (ct.1, 3185, .inr (.inl rp_181))), (q1, .inl (ct.2.2, 9, .inl am)), (q3, .inl (ct.1, 240, .inr (.inl al))), (q4, .inl (ct.2.2, 40, .inl ay)), (q5, .inl (ct.2.2, 40, .inl as_))] ++ wt) H := hP
        have hD : va_D A ([(g0, .inr (5, [.ref q1, .ref q2, .ref q3, .ref q4, .ref q5, .int cm, .int stp_198, .ref q6, .ref q7, .ref q8, .int mus_199, .int mc__203, .int mb__204, .ref q9])), (q2, .inl (ct.1, 240, .inr (.inl ac))), (q6, .inl (ct.1, 6, .inr (.inl ax_200))), (q7, .inl (ct.1, 3000, .inr (.inl au_201))), (q8, .inl (ct.2.2, 500, .inl ao_202)), (q9, .inl (ct.1, 3000, .inr (.inl at__205))), (h0, .inr (4, [.ref h1, .ref h2, .ref h3, .ref h5, .int (nI kn)])), (h1, .inl (ct.2.1, 40, .inr (.inr (.inr (.inr (cfun kn ca)))))), (h2, .inr (1, [.long ra_185, .long rb_186, .long rc_187, .long rx_188, .long ry_189, .long rz_190, .int rs_191])), (h3, .inr (2, [.ref h2, .ref h4, .int sz_178, .int fc__179, .int fn__180])), (h4, .inl (ct.1, 3185, .inr (.inl ro_177))), (h5, .inr (2, [.ref h2, .ref h6, .int sq_182, .int gc__183, .int gn__184])), (h6, .inl (ct.1, 3185, .inr (.inl rp_181))), (q1, .inl (ct.2.2, 9, .inl am)), (q3, .inl (ct.1, 240, .inr (.inl al))), (q4, .inl (ct.2.2, 40, .inl ay)), (q5, .inl (ct.2.2, 40, .inl as_))] ++ wt) := hD
        refine lv_icmp_eq (tgt := 506) hx hb d_law_384 (by decide) (fun c_207 => ?_) (fun c_207 => ?_)
        · rw [if_pos c_207] at h
          refine lv_iinc (v := li + (7 : Int32)) (lv' := [(3, .int (li + (7 : Int32))), (0, .ref b), (1, .ref h0), (2, .ref g0)]) hx hb d_law_506 hl (k := 0) rfl rfl (by decide) rfl (fun ls hl => ?_)
          refine lv_goto (tgt := 18) hx hb d_law_509 (by decide) ?_
          have hP := va_P.part (cx := [(h0, .inr (4, [.ref h1, .ref h2, .ref h3, .ref h5, .int (nI kn)])), (h1, .inl (ct.2.1, 40, .inr (.inr (.inr (.inr (cfun kn ca)))))), (h2, .inr (1, [.long ra_185, .long rb_186, .long rc_187, .long rx_188, .long ry_189, .long rz_190, .int rs_191])), (h3, .inr (2, [.ref h2, .ref h4, .int sz_178, .int fc__179, .int fn__180])), (h4, .inl (ct.1, 3185, .inr (.inl ro_177))), (h5, .inr (2, [.ref h2, .ref h6, .int sq_182, .int gc__183, .int gn__184])), (h6, .inl (ct.1, 3185, .inr (.inl rp_181))), (g0, .inr (5, [.ref q1, .ref q2, .ref q3, .ref q4, .ref q5, .int cm, .int stp_198, .ref q6, .ref q7, .ref q8, .int mus_199, .int mc__203, .int mb__204, .ref q9])), (q1, .inl (ct.2.2, 9, .inl am)), (q2, .inl (ct.1, 240, .inr (.inl ac))), (q3, .inl (ct.1, 240, .inr (.inl al))), (q4, .inl (ct.2.2, 40, .inl ay)), (q5, .inl (ct.2.2, 40, .inl as_)), (q6, .inl (ct.1, 6, .inr (.inl ax_200))), (q7, .inl (ct.1, 3000, .inr (.inl au_201))), (q8, .inl (ct.2.2, 500, .inl ao_202)), (q9, .inl (ct.1, 3000, .inr (.inl at__205)))]) hP [6, 7, 8, 9, 10, 11, 12, 0, 13, 1, 14, 15, 16, 2, 3, 4, 5] rfl
          have hD := va_D.part (cx := [(h0, .inr (4, [.ref h1, .ref h2, .ref h3, .ref h5, .int (nI kn)])), (h1, .inl (ct.2.1, 40, .inr (.inr (.inr (.inr (cfun kn ca)))))), (h2, .inr (1, [.long ra_185, .long rb_186, .long rc_187, .long rx_188, .long ry_189, .long rz_190, .int rs_191])), (h3, .inr (2, [.ref h2, .ref h4, .int sz_178, .int fc__179, .int fn__180])), (h4, .inl (ct.1, 3185, .inr (.inl ro_177))), (h5, .inr (2, [.ref h2, .ref h6, .int sq_182, .int gc__183, .int gn__184])), (h6, .inl (ct.1, 3185, .inr (.inl rp_181))), (g0, .inr (5, [.ref q1, .ref q2, .ref q3, .ref q4, .ref q5, .int cm, .int stp_198, .ref q6, .ref q7, .ref q8, .int mus_199, .int mc__203, .int mb__204, .ref q9])), (q1, .inl (ct.2.2, 9, .inl am)), (q2, .inl (ct.1, 240, .inr (.inl ac))), (q3, .inl (ct.1, 240, .inr (.inl al))), (q4, .inl (ct.2.2, 40, .inl ay)), (q5, .inl (ct.2.2, 40, .inl as_)), (q6, .inl (ct.1, 6, .inr (.inl ax_200))), (q7, .inl (ct.1, 3000, .inr (.inl au_201))), (q8, .inl (ct.2.2, 500, .inl ao_202)), (q9, .inl (ct.1, 3000, .inr (.inl at__205)))]) hD [6, 7, 8, 9, 10, 11, 12, 0, 13, 1, 14, 15, 16, 2, 3, 4, 5] (by decide) rfl
          exact ih (li + (7 : Int32)) kn td lw sy sh ro_177 sz_178 fc__179 fn__180 rp_181 sq_182 gc__183 gn__184 ra_185 rb_186 rc_187 rx_188 ry_189 rz_190 rs_191 cm stp_198 mus_199 mc__203 mb__204 am ac al ay as_ ax_200 au_201 ao_202 at__205 h h0 h1 h2 h3 h4 h5 h6 g0 q1 q2 q3 q4 q5 q6 q7 q8 q9 ca ta la wt _ _ cc ss (by omega) (by omega) hk40 hpool hP hD hS ls (lv_sub hl [0, 1, 2, 3] rfl)
        · rw [if_neg c_207] at h
          refine lv_iconst (v := (0 : Int32)) hx hb d_law_387 (by decide) ?_
          exact absurd (Option.some.inj h) (by decide)
      rw [if_neg c_171] at h
      by_cases c_210 : ((xs li.toNatClampNeg) &&& (15 : Int32)) = (7 : Int32)
      · rw [if_pos c_210] at h
        refine lv_tableIn (off := 356) (tgt := 389) hx hb d_law_33 (by rw [c_210]; decide) (by rw [c_210]; decide) (by rw [c_210]; rfl) (by decide) ?_
        refine lv_aload_n hx hb d_law_389 rfl (lv_at hl 2 rfl) ?_
        refine lv_aload_n hx hb d_law_390 rfl (lv_at hl 1 rfl) ?_
        refine lv_iload_n hx hb d_law_391 rfl (lv_at hl 0 rfl) ?_
        refine lv_iconst (v := (1 : Int32)) hx hb d_law_392 (by decide) ?_
        refine lv_iadd hx hb d_law_393 ?_
        by_cases b_211 : inb (li + (1 : Int32)) L = true
        rotate_left
        · rw [if_neg b_211] at h; cases h
        rw [if_pos b_211] at h
        refine va_sld hx hb hX hbl hbA hS (inb_in b_211) d_law_394 ?_
        refine lv_aload_n hx hb d_law_395 rfl (lv_at hl 1 rfl) ?_
        refine lv_iload_n hx hb d_law_396 rfl (lv_at hl 0 rfl) ?_
        refine lv_iconst (v := (2 : Int32)) hx hb d_law_397 (by decide) ?_
        refine lv_iadd hx hb d_law_398 ?_
        by_cases b_212 : inb (li + (2 : Int32)) L = true
        rotate_left
        · rw [if_neg b_212] at h; cases h
        rw [if_pos b_212] at h
        refine va_sld hx hb hX hbl hbA hS (inb_in b_212) d_law_399 ?_
        refine lv_aload_n hx hb d_law_400 rfl (lv_at hl 1 rfl) ?_
        refine lv_iload_n hx hb d_law_401 rfl (lv_at hl 0 rfl) ?_
        refine lv_iconst (v := (3 : Int32)) hx hb d_law_402 (by decide) ?_
        refine lv_iadd hx hb d_law_403 ?_
        by_cases b_213 : inb (li + (3 : Int32)) L = true
        rotate_left
        · rw [if_neg b_213] at h; cases h
        rw [if_pos b_213] at h
        refine va_sld hx hb hX hbl hbA hS (inb_in b_213) d_law_404 ?_
        refine lv_aload_n hx hb d_law_405 rfl (lv_at hl 1 rfl) ?_
        refine lv_iload_n hx hb d_law_406 rfl (lv_at hl 0 rfl) ?_
        refine lv_iconst (v := (4 : Int32)) hx hb d_law_407 (by decide) ?_
        refine lv_iadd hx hb d_law_408 ?_
        by_cases b_214 : inb (li + (4 : Int32)) L = true
        rotate_left
        · rw [if_neg b_214] at h; cases h
        rw [if_pos b_214] at h
        refine va_sld hx hb hX hbl hbA hS (inb_in b_214) d_law_409 ?_
        rcases e_215 : f_B_step td lw sy sh kn (xs (li + (1 : Int32)).toNatClampNeg) (xs (li + (2 : Int32)).toNatClampNeg) (xs (li + (3 : Int32)).toNatClampNeg) (xs (li + (4 : Int32)).toNatClampNeg) with _ | v_216
        · rw [e_215] at h; cases h
        rw [e_215, Option.bind_some] at h
        try dsimp only at h
        refine vp_callSl (va_Run.run (va_runV (As := [.int (xs (li + (1 : Int32)).toNatClampNeg), .int (xs (li + (2 : Int32)).toNatClampNeg), .int (xs (li + (3 : Int32)).toNatClampNeg), .int (xs (li + (4 : Int32)).toNatClampNeg)]) (rest := []) ⟨hx, hb, hml, hown, htg⟩ (c_B_step l D ct ([(h0, .inr (4, [.ref h1, .ref h2, .ref h3, .ref h5, .int (nI kn)])), (h1, .inl (ct.2.1, 40, .inr (.inr (.inr (.inr (cfun kn ca)))))), (h2, .inr (1, [.long ra, .long rb, .long rc, .long rx, .long ry, .long rz, .int rs])), (h3, .inr (2, [.ref h2, .ref h4, .int sz, .int fc_, .int fn_])), (h4, .inl (ct.1, 3185, .inr (.inl ro))), (h5, .inr (2, [.ref h2, .ref h6, .int sq, .int gc_, .int gn_])), (h6, .inl (ct.1, 3185, .inr (.inl rp))), (g0, .inr (5, [.ref q1, .ref q2, .ref q3, .ref q4, .ref q5, .int cm, .int stp, .ref q6, .ref q7, .ref q8, .int mus, .int mc_, .int mb_, .ref q9])), (q1, .inl (ct.2.2, 9, .inl am)), (q2, .inl (ct.1, 240, .inr (.inl ac))), (q3, .inl (ct.1, 240, .inr (.inl al))), (q4, .inl (ct.2.2, 40, .inl ay)), (q5, .inl (ct.2.2, 40, .inl as_)), (q6, .inl (ct.1, 6, .inr (.inl ax))), (q7, .inl (ct.1, 3000, .inr (.inl au))), (q8, .inl (ct.2.2, 500, .inl ao)), (q9, .inl (ct.1, 3000, .inr (.inl at_)))] ++ wt) 0 1 h0 h1 h2 h3 h5 ca ta la td lw sy sh kn (xs (li + (1 : Int32)).toNatClampNeg) (xs (li + (2 : Int32)).toNatClampNeg) (xs (li + (3 : Int32)).toNatClampNeg) (xs (li + (4 : Int32)).toNatClampNeg) rfl rfl hk40 (hpool.app _) _ e_215) (cwV 4 htg (giV tm_380 tm_381 tm_382 tm_31 g_B_step) rfl rfl rfl (by decide +kernel) ⟨Nat.le_of_ble_eq_true rfl, Nat.le_of_ble_eq_true rfl⟩) (preV hP hKK (va_recv hK hP (ci := 4) (q0 := 0) rfl rfl)) rfl rfl hl.1 rfl (lv_room (Nat.le_of_ble_eq_true rfl)) d_law_410 ⟨show cc + 0 ≤ 600000 by omega, show ss + 0 ≤ 7302250 by omega⟩)) (fun r9 hr9 => ?_)
        have hr9 := hr9.symm
        subst hr9
        refine lv_aload_n hx hb d_law_413 rfl (lv_at hl 3 rfl) ?_
        refine lv_aload_n hx hb d_law_414 rfl (lv_at hl 1 rfl) ?_
        refine lv_iload_n hx hb d_law_415 rfl (lv_at hl 0 rfl) ?_
        refine lv_iconst (v := (1 : Int32)) hx hb d_law_416 (by decide) ?_
        refine lv_iadd hx hb d_law_417 ?_
        by_cases b_217 : inb (li + (1 : Int32)) L = true
        rotate_left
        · rw [if_neg b_217] at h; cases h
        rw [if_pos b_217] at h
        refine va_sld hx hb hX hbl hbA hS (inb_in b_217) d_law_418 ?_
        refine lv_aload_n hx hb d_law_419 rfl (lv_at hl 1 rfl) ?_
        refine lv_iload_n hx hb d_law_420 rfl (lv_at hl 0 rfl) ?_
        refine lv_iconst (v := (2 : Int32)) hx hb d_law_421 (by decide) ?_
        refine lv_iadd hx hb d_law_422 ?_
        by_cases b_218 : inb (li + (2 : Int32)) L = true
        rotate_left
        · rw [if_neg b_218] at h; cases h
        rw [if_pos b_218] at h
        refine va_sld hx hb hX hbl hbA hS (inb_in b_218) d_law_423 ?_
        refine lv_aload_n hx hb d_law_424 rfl (lv_at hl 1 rfl) ?_
        refine lv_iload_n hx hb d_law_425 rfl (lv_at hl 0 rfl) ?_
        refine lv_iconst (v := (3 : Int32)) hx hb d_law_426 (by decide) ?_
        refine lv_iadd hx hb d_law_427 ?_
        by_cases b_219 : inb (li + (3 : Int32)) L = true
        rotate_left
        · rw [if_neg b_219] at h; cases h
        rw [if_pos b_219] at h
        refine va_sld hx hb hX hbl hbA hS (inb_in b_219) d_law_428 ?_
        refine lv_aload_n hx hb d_law_429 rfl (lv_at hl 1 rfl) ?_
        refine lv_iload_n hx hb d_law_430 rfl (lv_at hl 0 rfl) ?_
        refine lv_iconst (v := (4 : Int32)) hx hb d_law_431 (by decide) ?_
        refine lv_iadd hx hb d_law_432 ?_
        by_cases b_220 : inb (li + (4 : Int32)) L = true
        rotate_left
        · rw [if_neg b_220] at h; cases h
        rw [if_pos b_220] at h
        refine va_sld hx hb hX hbl hbA hS (inb_in b_220) d_law_433 ?_
        rcases e_221 : f_M_step cm ac (xs (li + (1 : Int32)).toNatClampNeg) (xs (li + (2 : Int32)).toNatClampNeg) (xs (li + (3 : Int32)).toNatClampNeg) (xs (li + (4 : Int32)).toNatClampNeg) with _ | v_222
        · rw [e_221] at h; cases h
        rw [e_221, Option.bind_some] at h
        try dsimp only at h
        refine vp_callSl (va_Run.run (va_runV (As := [.int (xs (li + (1 : Int32)).toNatClampNeg), .int (xs (li + (2 : Int32)).toNatClampNeg), .int (xs (li + (3 : Int32)).toNatClampNeg), .int (xs (li + (4 : Int32)).toNatClampNeg)]) (rest := [.long v_216]) ⟨hx, hb, hml, hown, htg⟩ (c_M_step l D ct ([(h0, .inr (4, [.ref h1, .ref h2, .ref h3, .ref h5, .int (nI kn)])), (h1, .inl (ct.2.1, 40, .inr (.inr (.inr (.inr (cfun kn ca)))))), (h2, .inr (1, [.long ra, .long rb, .long rc, .long rx, .long ry, .long rz, .int rs])), (h3, .inr (2, [.ref h2, .ref h4, .int sz, .int fc_, .int fn_])), (h4, .inl (ct.1, 3185, .inr (.inl ro))), (h5, .inr (2, [.ref h2, .ref h6, .int sq, .int gc_, .int gn_])), (h6, .inl (ct.1, 3185, .inr (.inl rp))), (g0, .inr (5, [.ref q1, .ref q2, .ref q3, .ref q4, .ref q5, .int cm, .int stp, .ref q6, .ref q7, .ref q8, .int mus, .int mc_, .int mb_, .ref q9])), (q1, .inl (ct.2.2, 9, .inl am)), (q2, .inl (ct.1, 240, .inr (.inl ac))), (q3, .inl (ct.1, 240, .inr (.inl al))), (q4, .inl (ct.2.2, 40, .inl ay)), (q5, .inl (ct.2.2, 40, .inl as_)), (q6, .inl (ct.1, 6, .inr (.inl ax))), (q7, .inl (ct.1, 3000, .inr (.inl au))), (q8, .inl (ct.2.2, 500, .inl ao)), (q9, .inl (ct.1, 3000, .inr (.inl at_)))] ++ wt) 7 9 g0 q1 q2 q3 q4 q5 q6 q7 q8 q9 cm stp mus mc_ mb_ ac (xs (li + (1 : Int32)).toNatClampNeg) (xs (li + (2 : Int32)).toNatClampNeg) (xs (li + (3 : Int32)).toNatClampNeg) (xs (li + (4 : Int32)).toNatClampNeg) rfl rfl  _ e_221) (cwV 4 htg (giV tm_530 tm_531 tm_532 tm_34 g_M_step) rfl rfl rfl (by decide +kernel) ⟨Nat.le_of_ble_eq_true rfl, Nat.le_of_ble_eq_true rfl⟩) (preV hP hKK (va_recv hK hP (ci := 5) (q0 := 7) rfl rfl)) rfl rfl hl.1 rfl (lv_room (Nat.le_of_ble_eq_true rfl)) d_law_434 ⟨show cc + 0 ≤ 600000 by omega, show ss + 0 ≤ 7302250 by omega⟩)) (fun r9 hr9 => ?_)
        have hr9 := hr9.symm
        subst hr9
        refine W.lcmp hx hb d_law_437 ?_
        refine lv_if_eq (tgt := 506) hx hb d_law_438 (by decide) (fun c_223 => ?_) (fun c_223 => ?_)
        · rw [if_pos c_223] at h
          refine lv_iinc (v := li + (7 : Int32)) (lv' := [(3, .int (li + (7 : Int32))), (0, .ref b), (1, .ref h0), (2, .ref g0)]) hx hb d_law_506 hl (k := 0) rfl rfl (by decide) rfl (fun ls hl => ?_)
          refine lv_goto (tgt := 18) hx hb d_law_509 (by decide) ?_
          exact ih (li + (7 : Int32)) kn td lw sy sh ro sz fc_ fn_ rp sq gc_ gn_ ra rb rc rx ry rz rs cm stp mus mc_ mb_ am ac al ay as_ ax au ao at_ h h0 h1 h2 h3 h4 h5 h6 g0 q1 q2 q3 q4 q5 q6 q7 q8 q9 ca ta la wt _ _ cc ss (by omega) (by omega) hk40 hpool hP hD hS ls (lv_sub hl [0, 1, 2, 3] rfl)
        · rw [if_neg c_223] at h
          refine lv_iconst (v := (0 : Int32)) hx hb d_law_441 (by decide) ?_
          exact absurd (Option.some.inj h) (by decide)
      rw [if_neg c_210] at h
      by_cases c_226 : ((xs li.toNatClampNeg) &&& (15 : Int32)) = (8 : Int32)
      · rw [if_pos c_226] at h
        refine lv_tableIn (off := 410) (tgt := 443) hx hb d_law_33 (by rw [c_226]; decide) (by rw [c_226]; decide) (by rw [c_226]; rfl) (by decide) ?_
        refine lv_aload_n hx hb d_law_443 rfl (lv_at hl 2 rfl) ?_
        refine lv_aload_n hx hb d_law_444 rfl (lv_at hl 1 rfl) ?_
        refine lv_iload_n hx hb d_law_445 rfl (lv_at hl 0 rfl) ?_
        refine lv_iconst (v := (1 : Int32)) hx hb d_law_446 (by decide) ?_
        refine lv_iadd hx hb d_law_447 ?_
        by_cases b_227 : inb (li + (1 : Int32)) L = true
        rotate_left
        · rw [if_neg b_227] at h; cases h
        rw [if_pos b_227] at h
        refine va_sld hx hb hX hbl hbA hS (inb_in b_227) d_law_448 ?_
        refine lv_aload_n hx hb d_law_449 rfl (lv_at hl 1 rfl) ?_
        refine lv_iload_n hx hb d_law_450 rfl (lv_at hl 0 rfl) ?_
        refine lv_iconst (v := (2 : Int32)) hx hb d_law_451 (by decide) ?_
        refine lv_iadd hx hb d_law_452 ?_
        by_cases b_228 : inb (li + (2 : Int32)) L = true
        rotate_left
        · rw [if_neg b_228] at h; cases h
        rw [if_pos b_228] at h
        refine va_sld hx hb hX hbl hbA hS (inb_in b_228) d_law_453 ?_
        refine lv_i2l hx hb d_law_454 rfl ?_
        refine lv_bipush (v := (32 : Int32)) hx hb d_law_455 (by decide) ?_
        refine lv_lshl hx hb d_law_457 rfl ?_
        refine lv_aload_n hx hb d_law_458 rfl (lv_at hl 1 rfl) ?_
        refine lv_iload_n hx hb d_law_459 rfl (lv_at hl 0 rfl) ?_
        refine lv_iconst (v := (3 : Int32)) hx hb d_law_460 (by decide) ?_
        refine lv_iadd hx hb d_law_461 ?_
        by_cases b_229 : inb (li + (3 : Int32)) L = true
        rotate_left
        · rw [if_neg b_229] at h; cases h
        rw [if_pos b_229] at h
        refine va_sld hx hb hX hbl hbA hS (inb_in b_229) d_law_462 ?_
        refine lv_i2l hx hb d_law_463 rfl ?_
        refine lv_ldc2 (v := (4294967295 : Int64)) hx hb hown (htg _ tm_540) d_law_464 ?_
        refine lv_land hx hb d_law_467 ?_
        refine lv_lor hx hb d_law_468 ?_
        rcases e_230 : f_B_shorter td lw sy sh kn (xs (li + (1 : Int32)).toNatClampNeg) ((((xs (li + (2 : Int32)).toNatClampNeg).toInt64) <<< ((32 : Int32).toInt64 &&& 63)) ||| (((xs (li + (3 : Int32)).toNatClampNeg).toInt64) &&& (4294967295 : Int64))) with _ | v_231
        · rw [e_230] at h; cases h
        rw [e_230, Option.bind_some] at h
        try dsimp only at h
        refine vp_callSi (va_Run.run (va_runV (As := [.int (xs (li + (1 : Int32)).toNatClampNeg), .long ((((xs (li + (2 : Int32)).toNatClampNeg).toInt64) <<< ((32 : Int32).toInt64 &&& 63)) ||| (((xs (li + (3 : Int32)).toNatClampNeg).toInt64) &&& (4294967295 : Int64)))]) (rest := []) ⟨hx, hb, hml, hown, htg⟩ (c_B_shorter l D ct ([(h0, .inr (4, [.ref h1, .ref h2, .ref h3, .ref h5, .int (nI kn)])), (h1, .inl (ct.2.1, 40, .inr (.inr (.inr (.inr (cfun kn ca)))))), (h2, .inr (1, [.long ra, .long rb, .long rc, .long rx, .long ry, .long rz, .int rs])), (h3, .inr (2, [.ref h2, .ref h4, .int sz, .int fc_, .int fn_])), (h4, .inl (ct.1, 3185, .inr (.inl ro))), (h5, .inr (2, [.ref h2, .ref h6, .int sq, .int gc_, .int gn_])), (h6, .inl (ct.1, 3185, .inr (.inl rp))), (g0, .inr (5, [.ref q1, .ref q2, .ref q3, .ref q4, .ref q5, .int cm, .int stp, .ref q6, .ref q7, .ref q8, .int mus, .int mc_, .int mb_, .ref q9])), (q1, .inl (ct.2.2, 9, .inl am)), (q2, .inl (ct.1, 240, .inr (.inl ac))), (q3, .inl (ct.1, 240, .inr (.inl al))), (q4, .inl (ct.2.2, 40, .inl ay)), (q5, .inl (ct.2.2, 40, .inl as_)), (q6, .inl (ct.1, 6, .inr (.inl ax))), (q7, .inl (ct.1, 3000, .inr (.inl au))), (q8, .inl (ct.2.2, 500, .inl ao)), (q9, .inl (ct.1, 3000, .inr (.inl at_)))] ++ wt) 0 1 h0 h1 h2 h3 h5 ca ta la td lw sy sh kn (xs (li + (1 : Int32)).toNatClampNeg) ((((xs (li + (2 : Int32)).toNatClampNeg).toInt64) <<< ((32 : Int32).toInt64 &&& 63)) ||| (((xs (li + (3 : Int32)).toNatClampNeg).toInt64) &&& (4294967295 : Int64))) rfl rfl hk40 (hpool.app _) _ e_230) (cwV 2 htg (giV tm_388 tm_389 tm_390 tm_31 g_B_shorter) rfl rfl rfl (by decide +kernel) ⟨Nat.le_of_ble_eq_true rfl, Nat.le_of_ble_eq_true rfl⟩) (preV hP hKK (va_recv hK hP (ci := 4) (q0 := 0) rfl rfl)) rfl rfl hl.1 rfl (lv_room (Nat.le_of_ble_eq_true rfl)) d_law_469 ⟨show cc + 0 ≤ 600000 by omega, show ss + 0 ≤ 7302250 by omega⟩)) (fun r9 hr9 => ?_)
        have hr9 := hr9.symm
        subst hr9
        refine lv_aload_n hx hb d_law_472 rfl (lv_at hl 3 rfl) ?_
        refine lv_aload_n hx hb d_law_473 rfl (lv_at hl 1 rfl) ?_
        refine lv_iload_n hx hb d_law_474 rfl (lv_at hl 0 rfl) ?_
        refine lv_iconst (v := (1 : Int32)) hx hb d_law_475 (by decide) ?_
        refine lv_iadd hx hb d_law_476 ?_
        by_cases b_232 : inb (li + (1 : Int32)) L = true
        rotate_left
        · rw [if_neg b_232] at h; cases h
        rw [if_pos b_232] at h
        refine va_sld hx hb hX hbl hbA hS (inb_in b_232) d_law_477 ?_
        refine lv_aload_n hx hb d_law_478 rfl (lv_at hl 1 rfl) ?_
        refine lv_iload_n hx hb d_law_479 rfl (lv_at hl 0 rfl) ?_
        refine lv_iconst (v := (2 : Int32)) hx hb d_law_480 (by decide) ?_
        refine lv_iadd hx hb d_law_481 ?_
        by_cases b_233 : inb (li + (2 : Int32)) L = true
        rotate_left
        · rw [if_neg b_233] at h; cases h
        rw [if_pos b_233] at h
        refine va_sld hx hb hX hbl hbA hS (inb_in b_233) d_law_482 ?_
        refine lv_i2l hx hb d_law_483 rfl ?_
        refine lv_bipush (v := (32 : Int32)) hx hb d_law_484 (by decide) ?_
        refine lv_lshl hx hb d_law_486 rfl ?_
        refine lv_aload_n hx hb d_law_487 rfl (lv_at hl 1 rfl) ?_
        refine lv_iload_n hx hb d_law_488 rfl (lv_at hl 0 rfl) ?_
        refine lv_iconst (v := (3 : Int32)) hx hb d_law_489 (by decide) ?_
        refine lv_iadd hx hb d_law_490 ?_
        by_cases b_234 : inb (li + (3 : Int32)) L = true
        rotate_left
        · rw [if_neg b_234] at h; cases h
        rw [if_pos b_234] at h
        refine va_sld hx hb hX hbl hbA hS (inb_in b_234) d_law_491 ?_
        refine lv_i2l hx hb d_law_492 rfl ?_
        refine lv_ldc2 (v := (4294967295 : Int64)) hx hb hown (htg _ tm_540) d_law_493 ?_
        refine lv_land hx hb d_law_496 ?_
        refine lv_lor hx hb d_law_497 ?_
        rcases e_235 : f_M_shorter cm ac (xs (li + (1 : Int32)).toNatClampNeg) ((((xs (li + (2 : Int32)).toNatClampNeg).toInt64) <<< ((32 : Int32).toInt64 &&& 63)) ||| (((xs (li + (3 : Int32)).toNatClampNeg).toInt64) &&& (4294967295 : Int64))) with _ | v_236
        · rw [e_235] at h; cases h
        rw [e_235, Option.bind_some] at h
        try dsimp only at h
        refine vp_callSi (va_Run.run (va_runV (As := [.int (xs (li + (1 : Int32)).toNatClampNeg), .long ((((xs (li + (2 : Int32)).toNatClampNeg).toInt64) <<< ((32 : Int32).toInt64 &&& 63)) ||| (((xs (li + (3 : Int32)).toNatClampNeg).toInt64) &&& (4294967295 : Int64)))]) (rest := [.int v_231]) ⟨hx, hb, hml, hown, htg⟩ (c_M_shorter l D ct ([(h0, .inr (4, [.ref h1, .ref h2, .ref h3, .ref h5, .int (nI kn)])), (h1, .inl (ct.2.1, 40, .inr (.inr (.inr (.inr (cfun kn ca)))))), (h2, .inr (1, [.long ra, .long rb, .long rc, .long rx, .long ry, .long rz, .int rs])), (h3, .inr (2, [.ref h2, .ref h4, .int sz, .int fc_, .int fn_])), (h4, .inl (ct.1, 3185, .inr (.inl ro))), (h5, .inr (2, [.ref h2, .ref h6, .int sq, .int gc_, .int gn_])), (h6, .inl (ct.1, 3185, .inr (.inl rp))), (g0, .inr (5, [.ref q1, .ref q2, .ref q3, .ref q4, .ref q5, .int cm, .int stp, .ref q6, .ref q7, .ref q8, .int mus, .int mc_, .int mb_, .ref q9])), (q1, .inl (ct.2.2, 9, .inl am)), (q2, .inl (ct.1, 240, .inr (.inl ac))), (q3, .inl (ct.1, 240, .inr (.inl al))), (q4, .inl (ct.2.2, 40, .inl ay)), (q5, .inl (ct.2.2, 40, .inl as_)), (q6, .inl (ct.1, 6, .inr (.inl ax))), (q7, .inl (ct.1, 3000, .inr (.inl au))), (q8, .inl (ct.2.2, 500, .inl ao)), (q9, .inl (ct.1, 3000, .inr (.inl at_)))] ++ wt) 7 9 g0 q1 q2 q3 q4 q5 q6 q7 q8 q9 cm stp mus mc_ mb_ ac (xs (li + (1 : Int32)).toNatClampNeg) ((((xs (li + (2 : Int32)).toNatClampNeg).toInt64) <<< ((32 : Int32).toInt64 &&& 63)) ||| (((xs (li + (3 : Int32)).toNatClampNeg).toInt64) &&& (4294967295 : Int64))) rfl rfl  _ e_235) (cwV 2 htg (giV tm_536 tm_537 tm_538 tm_34 g_M_shorter) rfl rfl rfl (by decide +kernel) ⟨Nat.le_of_ble_eq_true rfl, Nat.le_of_ble_eq_true rfl⟩) (preV hP hKK (va_recv hK hP (ci := 5) (q0 := 7) rfl rfl)) rfl rfl hl.1 rfl (lv_room (Nat.le_of_ble_eq_true rfl)) d_law_498 ⟨show cc + 0 ≤ 600000 by omega, show ss + 0 ≤ 7302250 by omega⟩)) (fun r9 hr9 => ?_)
        have hr9 := hr9.symm
        subst hr9
        refine lv_icmp_eq (tgt := 506) hx hb d_law_501 (by decide) (fun c_237 => ?_) (fun c_237 => ?_)
        · rw [if_pos c_237] at h
          refine lv_iinc (v := li + (7 : Int32)) (lv' := [(3, .int (li + (7 : Int32))), (0, .ref b), (1, .ref h0), (2, .ref g0)]) hx hb d_law_506 hl (k := 0) rfl rfl (by decide) rfl (fun ls hl => ?_)
          refine lv_goto (tgt := 18) hx hb d_law_509 (by decide) ?_
          exact ih (li + (7 : Int32)) kn td lw sy sh ro sz fc_ fn_ rp sq gc_ gn_ ra rb rc rx ry rz rs cm stp mus mc_ mb_ am ac al ay as_ ax au ao at_ h h0 h1 h2 h3 h4 h5 h6 g0 q1 q2 q3 q4 q5 q6 q7 q8 q9 ca ta la wt _ _ cc ss (by omega) (by omega) hk40 hpool hP hD hS ls (lv_sub hl [0, 1, 2, 3] rfl)
        · rw [if_neg c_237] at h
          refine lv_iconst (v := (0 : Int32)) hx hb d_law_504 (by decide) ?_
          exact absurd (Option.some.inj h) (by decide)
      rw [if_neg c_226] at h
      refine lv_tableOut (tgt := 506) hx hb d_law_33 (by have z0 := lv_neT (a := 0) c_3 (by decide); have z1 := lv_neT (a := 1) c_72 (by decide); have z2 := lv_neT (a := 2) c_84 (by decide); have z3 := lv_neT (a := 3) c_97 (by decide); have z4 := lv_neT (a := 4) c_107 (by decide); have z5 := lv_neT (a := 5) c_137 (by decide); have z6 := lv_neT (a := 6) c_171 (by decide); have z7 := lv_neT (a := 7) c_210 (by decide); have z8 := lv_neT (a := 8) c_226 (by decide); omega) (by decide) ?_
      refine lv_iinc (v := li + (7 : Int32)) (lv' := [(3, .int (li + (7 : Int32))), (0, .ref b), (1, .ref h0), (2, .ref g0)]) hx hb d_law_506 hl (k := 0) rfl rfl (by decide) rfl (fun ls hl => ?_)
      refine lv_goto (tgt := 18) hx hb d_law_509 (by decide) ?_
      exact ih (li + (7 : Int32)) kn td lw sy sh ro sz fc_ fn_ rp sq gc_ gn_ ra rb rc rx ry rz rs cm stp mus mc_ mb_ am ac al ay as_ ax au ao at_ h h0 h1 h2 h3 h4 h5 h6 g0 q1 q2 q3 q4 q5 q6 q7 q8 q9 ca ta la wt _ _ cc ss (by omega) (by omega) hk40 hpool hP hD hS ls (lv_sub hl [0, 1, 2, 3] rfl)
