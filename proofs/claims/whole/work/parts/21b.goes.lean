-- CellBenchModel goes ()Z
def lp_M_goes_230  : Nat → Int32 → Int32 → Int32 → (Nat → Int64) → Int32 → Option (Int32 × Int32 × Int32 × (Nat → Int64) × Int32)
  | 0, _, _, _, _, _ => none
  | n + 1, od, po, kk, ax, stp =>
    if (6 : Int32) ≤ kk then (some (od, po, kk, ax, stp)) else (if po = 0 then (if inb kk 6 = true then (if inb kk 6 = true then (lp_M_goes_230  n od po (kk + (1 : Int32)) (vp_updL ax kk.toNatClampNeg (-(f_M_size (ax kk.toNatClampNeg)))) stp) else none) else none) else (if inb kk 6 = true then (if inb kk 6 = true then (lp_M_goes_230  n od po (kk + (1 : Int32)) (vp_updL ax kk.toNatClampNeg (f_M_size (ax kk.toNatClampNeg))) stp) else none) else none))
def jn_M_goes_382  (va : Int64) (vb : Int64) (vc : Int64) (vx : Int64) (vy : Int64) (vz : Int64) (k382_0 : Int64) (ax : Nat → Int64) (stp : Int32) : Option (Int32 × (Nat → Int64) × Int32) :=
    some ((1 : Int32), vp_updL (vp_updL (vp_updL ax (2 : Int32).toNatClampNeg ((vb + vc) - (k382_0 * vx))) (4 : Int32).toNatClampNeg (vy - (k382_0 * vz))) (3 : Int32).toNatClampNeg (vx - (((2 : Int64) * k382_0) * vb)), stp + (1 : Int32))
def jn_M_goes_368  (va : Int64) (vb : Int64) (vc : Int64) (vx : Int64) (vy : Int64) (vz : Int64) (ax : Nat → Int64) (stp : Int32) : Option (Int32 × (Nat → Int64) × Int32) :=
    if 0 ≤ (lg_cmp vx (0 : Int64)) then (jn_M_goes_382  va vb vc vx vy vz (1 : Int64) ax stp) else (jn_M_goes_382  va vb vc vx vy vz (-1 : Int64) ax stp)
def jn_M_goes_503  (va : Int64) (vb : Int64) (vc : Int64) (vx : Int64) (vy : Int64) (vz : Int64) (k503_0 : Int64) (ax : Nat → Int64) (stp : Int32) : Option (Int32 × (Nat → Int64) × Int32) :=
    some ((1 : Int32), vp_updL (vp_updL (vp_updL ax (2 : Int32).toNatClampNeg ((va + vc) - (k503_0 * vy))) (3 : Int32).toNatClampNeg (vx - (k503_0 * vz))) (4 : Int32).toNatClampNeg (vy - (((2 : Int64) * k503_0) * va)), stp + (1 : Int32))
def jn_M_goes_489  (va : Int64) (vb : Int64) (vc : Int64) (vx : Int64) (vy : Int64) (vz : Int64) (ax : Nat → Int64) (stp : Int32) : Option (Int32 × (Nat → Int64) × Int32) :=
    if 0 ≤ (lg_cmp vy (0 : Int64)) then (jn_M_goes_503  va vb vc vx vy vz (1 : Int64) ax stp) else (jn_M_goes_503  va vb vc vx vy vz (-1 : Int64) ax stp)
def jn_M_goes_622  (va : Int64) (vb : Int64) (vc : Int64) (vx : Int64) (vy : Int64) (vz : Int64) (k622_0 : Int64) (ax : Nat → Int64) (stp : Int32) : Option (Int32 × (Nat → Int64) × Int32) :=
    some ((1 : Int32), vp_updL (vp_updL (vp_updL ax (1 : Int32).toNatClampNeg ((va + vb) - (k622_0 * vz))) (3 : Int32).toNatClampNeg (vx - (k622_0 * vy))) (5 : Int32).toNatClampNeg (vz - (((2 : Int64) * k622_0) * va)), stp + (1 : Int32))
def jn_M_goes_608  (va : Int64) (vb : Int64) (vc : Int64) (vx : Int64) (vy : Int64) (vz : Int64) (ax : Nat → Int64) (stp : Int32) : Option (Int32 × (Nat → Int64) × Int32) :=
    if 0 ≤ (lg_cmp vz (0 : Int64)) then (jn_M_goes_622  va vb vc vx vy vz (1 : Int64) ax stp) else (jn_M_goes_622  va vb vc vx vy vz (-1 : Int64) ax stp)
def jn_M_goes_728  (va : Int64) (vb : Int64) (vc : Int64) (vx : Int64) (vy : Int64) (vz : Int64) (vs : Int64) (ax : Nat → Int64) (stp : Int32) : Option (Int32 × (Nat → Int64) × Int32) :=
    some ((1 : Int32), vp_updL (vp_updL (vp_updL ax (2 : Int32).toNatClampNeg (vc + vs)) (3 : Int32).toNatClampNeg ((((2 : Int64) * vb) + vx) + vz)) (4 : Int32).toNatClampNeg ((((2 : Int64) * va) + vy) + vz), stp + (1 : Int32))
def jn_M_goes_786  (ax : Nat → Int64) (stp : Int32) : Option (Int32 × (Nat → Int64) × Int32) :=
    some ((0 : Int32), ax, stp)
def jn_M_goes_683  (va : Int64) (vb : Int64) (vc : Int64) (vx : Int64) (vy : Int64) (vz : Int64) (ax : Nat → Int64) (stp : Int32) : Option (Int32 × (Nat → Int64) × Int32) :=
    if (lg_cmp ((((vx + vy) + vz) + va) + vb) (0 : Int64)) < 0 then (jn_M_goes_728  va vb vc vx vy vz ((((vx + vy) + vz) + va) + vb) ax stp) else (if (lg_cmp ((((vx + vy) + vz) + va) + vb) (0 : Int64)) = 0 then (if (lg_cmp (((2 : Int64) * (va + vy)) + vz) (0 : Int64)) ≤ 0 then (jn_M_goes_786  ax stp) else (jn_M_goes_728  va vb vc vx vy vz ((((vx + vy) + vz) + va) + vb) ax stp)) else (jn_M_goes_786  ax stp))
def jn_M_goes_564  (va : Int64) (vb : Int64) (vc : Int64) (vx : Int64) (vy : Int64) (vz : Int64) (ax : Nat → Int64) (stp : Int32) : Option (Int32 × (Nat → Int64) × Int32) :=
    if 0 < (lg_cmp (f_M_size vz) va) then (jn_M_goes_608  va vb vc vx vy vz ax stp) else (if (lg_cmp vz va) = 0 then (if (lg_cmp ((2 : Int64) * vx) vy) < 0 then (jn_M_goes_608  va vb vc vx vy vz ax stp) else (if (lg_cmp vz (-va)) = 0 then (if 0 ≤ (lg_cmp vy (0 : Int64)) then (jn_M_goes_683  va vb vc vx vy vz ax stp) else (jn_M_goes_608  va vb vc vx vy vz ax stp)) else (jn_M_goes_683  va vb vc vx vy vz ax stp))) else (if (lg_cmp vz (-va)) = 0 then (if 0 ≤ (lg_cmp vy (0 : Int64)) then (jn_M_goes_683  va vb vc vx vy vz ax stp) else (jn_M_goes_608  va vb vc vx vy vz ax stp)) else (jn_M_goes_683  va vb vc vx vy vz ax stp)))
def jn_M_goes_445  (va : Int64) (vb : Int64) (vc : Int64) (vx : Int64) (vy : Int64) (vz : Int64) (ax : Nat → Int64) (stp : Int32) : Option (Int32 × (Nat → Int64) × Int32) :=
    if 0 < (lg_cmp (f_M_size vy) va) then (jn_M_goes_489  va vb vc vx vy vz ax stp) else (if (lg_cmp vy va) = 0 then (if (lg_cmp ((2 : Int64) * vx) vz) < 0 then (jn_M_goes_489  va vb vc vx vy vz ax stp) else (if (lg_cmp vy (-va)) = 0 then (if 0 ≤ (lg_cmp vz (0 : Int64)) then (jn_M_goes_564  va vb vc vx vy vz ax stp) else (jn_M_goes_489  va vb vc vx vy vz ax stp)) else (jn_M_goes_564  va vb vc vx vy vz ax stp))) else (if (lg_cmp vy (-va)) = 0 then (if 0 ≤ (lg_cmp vz (0 : Int64)) then (jn_M_goes_564  va vb vc vx vy vz ax stp) else (jn_M_goes_489  va vb vc vx vy vz ax stp)) else (jn_M_goes_564  va vb vc vx vy vz ax stp)))
def jn_M_goes_227  (od : Int32) (k227_0 : Int32) (ax : Nat → Int64) (stp : Int32) : Option (Int32 × (Nat → Int64) × Int32) :=
    Option.bind (lp_M_goes_230  4 od k227_0 (3 : Int32) ax stp) (fun z_57 => (if 0 < (lg_cmp (f_M_size (z_57.2.2.2.1 (3 : Int32).toNatClampNeg)) (z_57.2.2.2.1 (1 : Int32).toNatClampNeg)) then (jn_M_goes_368  (z_57.2.2.2.1 (0 : Int32).toNatClampNeg) (z_57.2.2.2.1 (1 : Int32).toNatClampNeg) (z_57.2.2.2.1 (2 : Int32).toNatClampNeg) (z_57.2.2.2.1 (3 : Int32).toNatClampNeg) (z_57.2.2.2.1 (4 : Int32).toNatClampNeg) (z_57.2.2.2.1 (5 : Int32).toNatClampNeg) z_57.2.2.2.1 z_57.2.2.2.2) else (if (lg_cmp (z_57.2.2.2.1 (3 : Int32).toNatClampNeg) (z_57.2.2.2.1 (1 : Int32).toNatClampNeg)) = 0 then (if (lg_cmp ((2 : Int64) * (z_57.2.2.2.1 (4 : Int32).toNatClampNeg)) (z_57.2.2.2.1 (5 : Int32).toNatClampNeg)) < 0 then (jn_M_goes_368  (z_57.2.2.2.1 (0 : Int32).toNatClampNeg) (z_57.2.2.2.1 (1 : Int32).toNatClampNeg) (z_57.2.2.2.1 (2 : Int32).toNatClampNeg) (z_57.2.2.2.1 (3 : Int32).toNatClampNeg) (z_57.2.2.2.1 (4 : Int32).toNatClampNeg) (z_57.2.2.2.1 (5 : Int32).toNatClampNeg) z_57.2.2.2.1 z_57.2.2.2.2) else (if (lg_cmp (z_57.2.2.2.1 (3 : Int32).toNatClampNeg) (-(z_57.2.2.2.1 (1 : Int32).toNatClampNeg))) = 0 then (if 0 ≤ (lg_cmp (z_57.2.2.2.1 (5 : Int32).toNatClampNeg) (0 : Int64)) then (jn_M_goes_445  (z_57.2.2.2.1 (0 : Int32).toNatClampNeg) (z_57.2.2.2.1 (1 : Int32).toNatClampNeg) (z_57.2.2.2.1 (2 : Int32).toNatClampNeg) (z_57.2.2.2.1 (3 : Int32).toNatClampNeg) (z_57.2.2.2.1 (4 : Int32).toNatClampNeg) (z_57.2.2.2.1 (5 : Int32).toNatClampNeg) z_57.2.2.2.1 z_57.2.2.2.2) else (jn_M_goes_368  (z_57.2.2.2.1 (0 : Int32).toNatClampNeg) (z_57.2.2.2.1 (1 : Int32).toNatClampNeg) (z_57.2.2.2.1 (2 : Int32).toNatClampNeg) (z_57.2.2.2.1 (3 : Int32).toNatClampNeg) (z_57.2.2.2.1 (4 : Int32).toNatClampNeg) (z_57.2.2.2.1 (5 : Int32).toNatClampNeg) z_57.2.2.2.1 z_57.2.2.2.2)) else (jn_M_goes_445  (z_57.2.2.2.1 (0 : Int32).toNatClampNeg) (z_57.2.2.2.1 (1 : Int32).toNatClampNeg) (z_57.2.2.2.1 (2 : Int32).toNatClampNeg) (z_57.2.2.2.1 (3 : Int32).toNatClampNeg) (z_57.2.2.2.1 (4 : Int32).toNatClampNeg) (z_57.2.2.2.1 (5 : Int32).toNatClampNeg) z_57.2.2.2.1 z_57.2.2.2.2))) else (if (lg_cmp (z_57.2.2.2.1 (3 : Int32).toNatClampNeg) (-(z_57.2.2.2.1 (1 : Int32).toNatClampNeg))) = 0 then (if 0 ≤ (lg_cmp (z_57.2.2.2.1 (5 : Int32).toNatClampNeg) (0 : Int64)) then (jn_M_goes_445  (z_57.2.2.2.1 (0 : Int32).toNatClampNeg) (z_57.2.2.2.1 (1 : Int32).toNatClampNeg) (z_57.2.2.2.1 (2 : Int32).toNatClampNeg) (z_57.2.2.2.1 (3 : Int32).toNatClampNeg) (z_57.2.2.2.1 (4 : Int32).toNatClampNeg) (z_57.2.2.2.1 (5 : Int32).toNatClampNeg) z_57.2.2.2.1 z_57.2.2.2.2) else (jn_M_goes_368  (z_57.2.2.2.1 (0 : Int32).toNatClampNeg) (z_57.2.2.2.1 (1 : Int32).toNatClampNeg) (z_57.2.2.2.1 (2 : Int32).toNatClampNeg) (z_57.2.2.2.1 (3 : Int32).toNatClampNeg) (z_57.2.2.2.1 (4 : Int32).toNatClampNeg) (z_57.2.2.2.1 (5 : Int32).toNatClampNeg) z_57.2.2.2.1 z_57.2.2.2.2)) else (jn_M_goes_445  (z_57.2.2.2.1 (0 : Int32).toNatClampNeg) (z_57.2.2.2.1 (1 : Int32).toNatClampNeg) (z_57.2.2.2.1 (2 : Int32).toNatClampNeg) (z_57.2.2.2.1 (3 : Int32).toNatClampNeg) (z_57.2.2.2.1 (4 : Int32).toNatClampNeg) (z_57.2.2.2.1 (5 : Int32).toNatClampNeg) z_57.2.2.2.1 z_57.2.2.2.2)))))
def jn_M_goes_183  (k183_0 : Int32) (k183_1 : Int32) (ax : Nat → Int64) (stp : Int32) : Option (Int32 × (Nat → Int64) × Int32) :=
    if (k183_1 ^^^ k183_0) = 0 then (if (lg_cmp (ax (3 : Int32).toNatClampNeg) (0 : Int64)) = 0 then (jn_M_goes_227  (k183_1 ^^^ k183_0) (0 : Int32) ax stp) else (if (lg_cmp (ax (4 : Int32).toNatClampNeg) (0 : Int64)) = 0 then (jn_M_goes_227  (k183_1 ^^^ k183_0) (0 : Int32) ax stp) else (if (lg_cmp (ax (5 : Int32).toNatClampNeg) (0 : Int64)) = 0 then (jn_M_goes_227  (k183_1 ^^^ k183_0) (0 : Int32) ax stp) else (jn_M_goes_227  (k183_1 ^^^ k183_0) (1 : Int32) ax stp)))) else (jn_M_goes_227  (k183_1 ^^^ k183_0) (0 : Int32) ax stp)
def jn_M_goes_166  (k166_0 : Int32) (k166_1 : Int32) (ax : Nat → Int64) (stp : Int32) : Option (Int32 × (Nat → Int64) × Int32) :=
    if 0 ≤ (lg_cmp (ax (5 : Int32).toNatClampNeg) (0 : Int64)) then (jn_M_goes_183  (0 : Int32) (k166_1 ^^^ k166_0) ax stp) else (jn_M_goes_183  (1 : Int32) (k166_1 ^^^ k166_0) ax stp)
def jn_M_goes_150  (k150_0 : Int32) (ax : Nat → Int64) (stp : Int32) : Option (Int32 × (Nat → Int64) × Int32) :=
    if 0 ≤ (lg_cmp (ax (4 : Int32).toNatClampNeg) (0 : Int64)) then (jn_M_goes_166  (0 : Int32) k150_0 ax stp) else (jn_M_goes_166  (1 : Int32) k150_0 ax stp)
def jn_M_goes_134  (ax : Nat → Int64) (stp : Int32) : Option (Int32 × (Nat → Int64) × Int32) :=
    if 0 ≤ (lg_cmp (ax (3 : Int32).toNatClampNeg) (0 : Int64)) then (jn_M_goes_150  (0 : Int32) ax stp) else (jn_M_goes_150  (1 : Int32) ax stp)
def jn_M_goes_66  (ax : Nat → Int64) (stp : Int32) : Option (Int32 × (Nat → Int64) × Int32) :=
    if 0 < (lg_cmp (ax (1 : Int32).toNatClampNeg) (ax (2 : Int32).toNatClampNeg)) then (Option.bind (f_M_exch ax (1 : Int32) (2 : Int32)) (fun z_12 => (Option.bind (f_M_exch z_12 (4 : Int32) (5 : Int32)) (fun z_11 => (some ((1 : Int32), z_11, stp)))))) else (if (lg_cmp (ax (1 : Int32).toNatClampNeg) (ax (2 : Int32).toNatClampNeg)) = 0 then (if (lg_cmp (f_M_size (ax (4 : Int32).toNatClampNeg)) (f_M_size (ax (5 : Int32).toNatClampNeg))) ≤ 0 then (jn_M_goes_134  ax stp) else (Option.bind (f_M_exch ax (1 : Int32) (2 : Int32)) (fun z_67 => (Option.bind (f_M_exch z_67 (4 : Int32) (5 : Int32)) (fun z_66 => (some ((1 : Int32), z_66, stp))))))) else (jn_M_goes_134  ax stp))
def f_M_goes (ax : Nat → Int64) (stp : Int32) : Option (Int32 × (Nat → Int64) × Int32) :=
    if 0 < (lg_cmp (ax (0 : Int32).toNatClampNeg) (ax (1 : Int32).toNatClampNeg)) then (Option.bind (f_M_exch ax (0 : Int32) (1 : Int32)) (fun z_69 => (Option.bind (f_M_exch z_69 (3 : Int32) (4 : Int32)) (fun z_68 => (jn_M_goes_66  z_68 stp))))) else (if (lg_cmp (ax (0 : Int32).toNatClampNeg) (ax (1 : Int32).toNatClampNeg)) = 0 then (if (lg_cmp (f_M_size (ax (3 : Int32).toNatClampNeg)) (f_M_size (ax (4 : Int32).toNatClampNeg))) ≤ 0 then (jn_M_goes_66  ax stp) else (Option.bind (f_M_exch ax (0 : Int32) (1 : Int32)) (fun z_77 => (Option.bind (f_M_exch z_77 (3 : Int32) (4 : Int32)) (fun z_76 => (jn_M_goes_66  z_76 stp)))))) else (jn_M_goes_66  ax stp))
def w_M_goes : List Cond := .code y_M_goes b_M_goes 17 (some .boolean) :: GW
abbrev rm_M_goes : Room := { frames := 1, cells := 0, slots := 0, locals := 24 }
theorem g_M_goes : GoodIn GW w_M_goes := gi tm_462
set_option maxHeartbeats 4000000 in
set_option maxRecDepth 100000 in
theorem c_M_goes (l : Launch) (D : va_G) (ct : CT) (A : Nat → Prop) (wt : va_W)  (h0 : Nat) (q1 : Nat) (q2 : Nat) (q3 : Nat) (q4 : Nat) (q5 : Nat) (q6 : Nat) (q7 : Nat) (q8 : Nat) (q9 : Nat) (cm : Int32) (stp : Int32) (mus : Int32) (mc_ : Int32) (mb_ : Int32) (ax : Nat → Int64)   (r0 : Int32 × (Nat → Int64) × Int32) (h : f_M_goes ax stp = some r0) : Met l y_M_goes w_M_goes rm_M_goes (va_Pc [.ref h0] (PreM D ct A ([(h0, .inr (5, [.ref q1, .ref q2, .ref q3, .ref q4, .ref q5, .int cm, .int stp, .ref q6, .ref q7, .ref q8, .int mus, .int mc_, .int mb_, .ref q9])), (q6, .inl (ct.1, 6, .inr (.inl ax)))] ++ wt))) (va_Qi (fun r u => (r, u) = r0) (fun (u : (Nat → Int64) × Int32) t => match u with | (ax', stp') => va_P D classes ([(h0, .inr (5, [.ref q1, .ref q2, .ref q3, .ref q4, .ref q5, .int cm, .int stp', .ref q6, .ref q7, .ref q8, .int mus, .int mc_, .int mb_, .ref q9])), (q6, .inl (ct.1, 6, .inr (.inl ax')))] ++ wt) t.heap ∧ va_D A ([(h0, .inr (5, [.ref q1, .ref q2, .ref q3, .ref q4, .ref q5, .int cm, .int stp', .ref q6, .ref q7, .ref q8, .int mus, .int mc_, .int mb_, .ref q9])), (q6, .inl (ct.1, 6, .inr (.inl ax')))] ++ wt)) A) 0 0 A := by
  sorry
-- CellBenchModel reduce ()V
def lp_M_reduce_2  : Nat → Int32 → (Nat → Int64) → Int32 → Option (Int32 × (Nat → Int64) × Int32)
  | 0, _, _, _ => none
  | n + 1, kk, ax, stp =>
    if (6 : Int32) ≤ kk then (some (kk, ax, stp)) else (if inb kk 6 = true then (if inb kk 6 = true then (lp_M_reduce_2  n (kk + (1 : Int32)) (vp_updL ax kk.toNatClampNeg ((2 : Int64) * (ax kk.toNatClampNeg))) stp) else none) else none)
def lp_M_reduce_32  : Nat → Int32 → (Nat → Int64) → Int32 → Option (Int32 × (Nat → Int64) × Int32)
  | 0, _, _, _ => none
  | n + 1, mo, ax, stp =>
    if mo = 0 then (some (mo, ax, stp)) else (Option.bind (f_M_goes ax stp) (fun z_13 => (lp_M_reduce_32  n z_13.1 z_13.2.1 z_13.2.2)))
def lp_M_reduce_46  : Nat → Int32 → Int32 → (Nat → Int64) → Int32 → Option ((Nat → Int64) × Int32)
  | 0, _, _, _, _ => none
  | n + 1, mo, kk, ax, stp =>
    if (6 : Int32) ≤ kk then (some (ax, stp)) else (if inb kk 6 = true then (if inb kk 6 = true then (lp_M_reduce_46  n mo (kk + (1 : Int32)) (vp_updL ax kk.toNatClampNeg ((ax kk.toNatClampNeg) / (2 : Int64))) stp) else none) else none)
def f_M_reduce (ax : Nat → Int64) (stp : Int32) : Option ((Nat → Int64) × Int32) :=
    Option.bind (lp_M_reduce_2  4 (3 : Int32) ax stp) (fun z_22 => (Option.bind (lp_M_reduce_32  1000000000 (1 : Int32) z_22.2.1 z_22.2.2) (fun z_21 => (lp_M_reduce_46  4 z_21.1 (3 : Int32) z_21.2.1 z_21.2.2))))
def w_M_reduce : List Cond := .code y_M_reduce b_M_reduce 3 none :: GW
abbrev rm_M_reduce : Room := { frames := 2, cells := 0, slots := 0, locals := 60 }
theorem g_M_reduce : GoodIn GW w_M_reduce := gi tm_457
set_option maxHeartbeats 4000000 in
set_option maxRecDepth 100000 in
theorem c_M_reduce (l : Launch) (D : va_G) (ct : CT) (A : Nat → Prop) (wt : va_W)  (h0 : Nat) (q1 : Nat) (q2 : Nat) (q3 : Nat) (q4 : Nat) (q5 : Nat) (q6 : Nat) (q7 : Nat) (q8 : Nat) (q9 : Nat) (cm : Int32) (stp : Int32) (mus : Int32) (mc_ : Int32) (mb_ : Int32) (ax : Nat → Int64)   (r0 : (Nat → Int64) × Int32) (h : f_M_reduce ax stp = some r0) : Met l y_M_reduce w_M_reduce rm_M_reduce (va_Pc [.ref h0] (PreM D ct A ([(h0, .inr (5, [.ref q1, .ref q2, .ref q3, .ref q4, .ref q5, .int cm, .int stp, .ref q6, .ref q7, .ref q8, .int mus, .int mc_, .int mb_, .ref q9])), (q6, .inl (ct.1, 6, .inr (.inl ax)))] ++ wt))) (va_Qv (fun u => u = r0) (fun (u : (Nat → Int64) × Int32) t => match u with | (ax', stp') => va_P D classes ([(h0, .inr (5, [.ref q1, .ref q2, .ref q3, .ref q4, .ref q5, .int cm, .int stp', .ref q6, .ref q7, .ref q8, .int mus, .int mc_, .int mb_, .ref q9])), (q6, .inl (ct.1, 6, .inr (.inl ax')))] ++ wt) t.heap ∧ va_D A ([(h0, .inr (5, [.ref q1, .ref q2, .ref q3, .ref q4, .ref q5, .int cm, .int stp', .ref q6, .ref q7, .ref q8, .int mus, .int mc_, .int mb_, .ref q9])), (q6, .inl (ct.1, 6, .inr (.inl ax')))] ++ wt)) A) 0 0 A := by
  refine Met.ofW (cc := b_M_reduce) (maxL := 3) (ret := none) (by decide) rfl ?_
  intro p e s m args below meth c s₁ B hml hv
  obtain ⟨rfl, hA, hP, hD, hKK⟩ := hv
  have hx := B.exec
  have hb := B.bytes
  have hr := B.returns
  have htg := ht_tl (atoms_spec (ws := w_M_reduce) B.pre)
  have hown : s.vm.findClass R_Model = some m.cls := findClass_of_methodNamed B.named
  have hlocks := B.notSynchronized
  have hK := hKK.1
  have hN := hKK.2.1
  have hO := hKK.2.2
  have hS : va_S A s.heap s.heap [] := va_S.rf
  have hl := lv_entry ([.ref h0]) (n := 3) (Nat.le_of_ble_eq_true rfl)
  rw [lg_entry_eq]
  generalize (lg_sl ([.ref h0]) ++ List.replicate (3 - (lg_sl ([.ref h0])).length) Slot.unset).toArray = ls at hl ⊢
  have hl : lv_has ls 3 [(0, .ref h0)] := hl
  unfold f_M_reduce at h
  refine lv_iconst (v := (3 : Int32)) hx hb d_M_reduce_0 (by decide) ?_
  refine lv_istore_n (lv' := [(1, .int (3 : Int32)), (0, .ref h0)]) hx hb d_M_reduce_1 rfl hl (by decide) rfl (fun ls hl => ?_)
  have L_2 : ∀ (n : Nat) (kk : Int32) (ax : Nat → Int64) (stp : Int32) (kk' : Int32) (ax' : Nat → Int64) (stp' : Int32), lp_M_reduce_2  n kk ax stp = some (kk', ax', stp') → ∀ (H : Heap) (locs : List Loc), va_P D classes ([(h0, .inr (5, [.ref q1, .ref q2, .ref q3, .ref q4, .ref q5, .int cm, .int stp, .ref q6, .ref q7, .ref q8, .int mus, .int mc_, .int mb_, .ref q9])), (q6, .inl (ct.1, 6, .inr (.inl ax)))] ++ wt) H → va_D A ([(h0, .inr (5, [.ref q1, .ref q2, .ref q3, .ref q4, .ref q5, .int cm, .int stp, .ref q6, .ref q7, .ref q8, .int mus, .int mc_, .int mb_, .ref q9])), (q6, .inl (ct.1, 6, .inr (.inl ax)))] ++ wt) → va_S A s.heap H locs → ∀ (ls : Array Slot), lv_has ls 3 [(1, .int kk), (0, .ref h0)] → (∀ (H : Heap) (locs : List Loc), va_P D classes ([(h0, .inr (5, [.ref q1, .ref q2, .ref q3, .ref q4, .ref q5, .int cm, .int stp', .ref q6, .ref q7, .ref q8, .int mus, .int mc_, .int mb_, .ref q9])), (q6, .inl (ct.1, 6, .inr (.inl ax')))] ++ wt) H → va_D A ([(h0, .inr (5, [.ref q1, .ref q2, .ref q3, .ref q4, .ref q5, .int cm, .int stp', .ref q6, .ref q7, .ref q8, .int mus, .int mc_, .int mb_, .ref q9])), (q6, .inl (ct.1, 6, .inr (.inl ax')))] ++ wt) → va_S A s.heap H locs → ∀ (ls : Array Slot), lv_has ls 3 [(1, .int kk'), (0, .ref h0)] → W p l e (headSpec w_M_reduce rm_M_reduce).room s m ([.ref h0] : List Value).toArray below meth c H locs 0 0 (MQ below (va_Qv (fun u => u = r0) (fun (u : (Nat → Int64) × Int32) t => match u with | (ax', stp') => va_P D classes ([(h0, .inr (5, [.ref q1, .ref q2, .ref q3, .ref q4, .ref q5, .int cm, .int stp', .ref q6, .ref q7, .ref q8, .int mus, .int mc_, .int mb_, .ref q9])), (q6, .inl (ct.1, 6, .inr (.inl ax')))] ++ wt) t.heap ∧ va_D A ([(h0, .inr (5, [.ref q1, .ref q2, .ref q3, .ref q4, .ref q5, .int cm, .int stp', .ref q6, .ref q7, .ref q8, .int mus, .int mc_, .int mb_, .ref q9])), (q6, .inl (ct.1, 6, .inr (.inl ax')))] ++ wt)) A) ([.ref h0] : List Value).toArray s 0 0 A) (F0 m 30 ls [])) → W p l e (headSpec w_M_reduce rm_M_reduce).room s m ([.ref h0] : List Value).toArray below meth c H locs 0 0 (MQ below (va_Qv (fun u => u = r0) (fun (u : (Nat → Int64) × Int32) t => match u with | (ax', stp') => va_P D classes ([(h0, .inr (5, [.ref q1, .ref q2, .ref q3, .ref q4, .ref q5, .int cm, .int stp', .ref q6, .ref q7, .ref q8, .int mus, .int mc_, .int mb_, .ref q9])), (q6, .inl (ct.1, 6, .inr (.inl ax')))] ++ wt) t.heap ∧ va_D A ([(h0, .inr (5, [.ref q1, .ref q2, .ref q3, .ref q4, .ref q5, .int cm, .int stp', .ref q6, .ref q7, .ref q8, .int mus, .int mc_, .int mb_, .ref q9])), (q6, .inl (ct.1, 6, .inr (.inl ax')))] ++ wt)) A) ([.ref h0] : List Value).toArray s 0 0 A) (F0 m 2 ls []) := by
    intro n
    induction n with
    | zero =>
      intro kk ax stp kk' ax' stp' h
      rw [lp_M_reduce_2] at h
      cases h
    | succ n ih =>
      intro kk ax stp kk' ax' stp' h H locs hP hD hS ls hl K
      rw [lp_M_reduce_2] at h
      refine lv_iload_n hx hb d_M_reduce_2 rfl (lv_at hl 0 rfl) ?_
      refine lv_bipush (v := (6 : Int32)) hx hb d_M_reduce_3 (by decide) ?_
      refine lv_icmp_ge (tgt := 30) hx hb d_M_reduce_5 (by decide) (fun c_1 => ?_) (fun c_1 => ?_)
      · rw [if_pos c_1] at h
        cases h
        exact K _ _ hP hD hS _ (lv_sub hl [0, 1] rfl)
      · rw [if_neg c_1] at h
        refine lv_aload_n hx hb d_M_reduce_8 rfl (lv_at hl 1 rfl) ?_
        refine va_get (D := D) (ci := 5) (v := .ref q6) (C := R_Model) (T := F_Model) (N := 14) hx hb htg i_Model hown hK hP 0 rfl rfl 7 (by decide) (htg _ tm_405) (fun _ h9 => h9) rfl d_M_reduce_9 ?_
        refine lv_iload_n hx hb d_M_reduce_12 rfl (lv_at hl 0 rfl) ?_
        refine lv_ldc2 (v := (2 : Int64)) hx hb hown (htg _ tm_458) d_M_reduce_13 ?_
        refine lv_aload_n hx hb d_M_reduce_16 rfl (lv_at hl 1 rfl) ?_
        refine va_get (D := D) (ci := 5) (v := .ref q6) (C := R_Model) (T := F_Model) (N := 14) hx hb htg i_Model hown hK hP 0 rfl rfl 7 (by decide) (htg _ tm_405) (fun _ h9 => h9) rfl d_M_reduce_17 ?_
        refine lv_iload_n hx hb d_M_reduce_20 rfl (lv_at hl 0 rfl) ?_
        by_cases b_2 : inb kk 6 = true
        rotate_left
        · rw [if_neg b_2] at h; cases h
        rw [if_pos b_2] at h
        refine va_lald hx hb hK hP 1 0 rfl rfl (inb_in b_2) d_M_reduce_21 ?_
        refine lv_lmul hx hb d_M_reduce_22 ?_
        by_cases b_3 : inb kk 6 = true
        rotate_left
        · rw [if_neg b_3] at h; cases h
        rw [if_pos b_3] at h
        refine va_last hx hb hK hP hD hS 1 0 rfl rfl (inb_in b_3) d_M_reduce_23 (fun H locs hP hD hS => ?_)
        have hP : va_P D classes ([(h0, .inr (5, [.ref q1, .ref q2, .ref q3, .ref q4, .ref q5, .int cm, .int stp, .ref q6, .ref q7, .ref q8, .int mus, .int mc_, .int mb_, .ref q9])), (q6, .inl (ct.1, 6, .inr (.inl (vp_updL ax kk.toNatClampNeg ((2 : Int64) * (ax kk.toNatClampNeg))))))] ++ wt) H := hP
        have hD : va_D A ([(h0, .inr (5, [.ref q1, .ref q2, .ref q3, .ref q4, .ref q5, .int cm, .int stp, .ref q6, .ref q7, .ref q8, .int mus, .int mc_, .int mb_, .ref q9])), (q6, .inl (ct.1, 6, .inr (.inl (vp_updL ax kk.toNatClampNeg ((2 : Int64) * (ax kk.toNatClampNeg))))))] ++ wt) := hD
        refine lv_iinc (v := kk + (1 : Int32)) (lv' := [(1, .int (kk + (1 : Int32))), (0, .ref h0)]) hx hb d_M_reduce_24 hl (k := 0) rfl rfl (by decide) rfl (fun ls hl => ?_)
        refine lv_goto (tgt := 2) hx hb d_M_reduce_27 (by decide) ?_
        exact ih (kk + (1 : Int32)) (vp_updL ax kk.toNatClampNeg ((2 : Int64) * (ax kk.toNatClampNeg))) stp _ _ _ h H locs hP hD hS ls (lv_sub hl [0, 1] rfl) K
  rcases e_7 : lp_M_reduce_2  4 (3 : Int32) ax stp with _ | ⟨kk_4, ax_5, stp_6⟩
  · rw [e_7] at h; cases h
  rw [e_7, Option.bind_some] at h
  try dsimp only at h
  refine L_2 4 (3 : Int32) ax stp kk_4 ax_5 stp_6 e_7 _ _ hP hD hS ls (lv_sub hl [0, 1] rfl) (fun H locs hP hD hS ls hl => ?_)
  refine lv_iconst (v := (1 : Int32)) hx hb d_M_reduce_30 (by decide) ?_
  refine lv_istore_n (lv' := [(1, .int (1 : Int32)), (0, .ref h0)]) hx hb d_M_reduce_31 rfl hl (by decide) rfl (fun ls hl => ?_)
  have L_32 : ∀ (n : Nat) (mo : Int32) (ax : Nat → Int64) (stp : Int32) (mo' : Int32) (ax' : Nat → Int64) (stp' : Int32), lp_M_reduce_32  n mo ax stp = some (mo', ax', stp') → ∀ (H : Heap) (locs : List Loc), va_P D classes ([(h0, .inr (5, [.ref q1, .ref q2, .ref q3, .ref q4, .ref q5, .int cm, .int stp, .ref q6, .ref q7, .ref q8, .int mus, .int mc_, .int mb_, .ref q9])), (q6, .inl (ct.1, 6, .inr (.inl ax)))] ++ wt) H → va_D A ([(h0, .inr (5, [.ref q1, .ref q2, .ref q3, .ref q4, .ref q5, .int cm, .int stp, .ref q6, .ref q7, .ref q8, .int mus, .int mc_, .int mb_, .ref q9])), (q6, .inl (ct.1, 6, .inr (.inl ax)))] ++ wt) → va_S A s.heap H locs → ∀ (ls : Array Slot), lv_has ls 3 [(1, .int mo), (0, .ref h0)] → (∀ (H : Heap) (locs : List Loc), va_P D classes ([(h0, .inr (5, [.ref q1, .ref q2, .ref q3, .ref q4, .ref q5, .int cm, .int stp', .ref q6, .ref q7, .ref q8, .int mus, .int mc_, .int mb_, .ref q9])), (q6, .inl (ct.1, 6, .inr (.inl ax')))] ++ wt) H → va_D A ([(h0, .inr (5, [.ref q1, .ref q2, .ref q3, .ref q4, .ref q5, .int cm, .int stp', .ref q6, .ref q7, .ref q8, .int mus, .int mc_, .int mb_, .ref q9])), (q6, .inl (ct.1, 6, .inr (.inl ax')))] ++ wt) → va_S A s.heap H locs → ∀ (ls : Array Slot), lv_has ls 3 [(1, .int mo'), (0, .ref h0)] → W p l e (headSpec w_M_reduce rm_M_reduce).room s m ([.ref h0] : List Value).toArray below meth c H locs 0 0 (MQ below (va_Qv (fun u => u = r0) (fun (u : (Nat → Int64) × Int32) t => match u with | (ax', stp') => va_P D classes ([(h0, .inr (5, [.ref q1, .ref q2, .ref q3, .ref q4, .ref q5, .int cm, .int stp', .ref q6, .ref q7, .ref q8, .int mus, .int mc_, .int mb_, .ref q9])), (q6, .inl (ct.1, 6, .inr (.inl ax')))] ++ wt) t.heap ∧ va_D A ([(h0, .inr (5, [.ref q1, .ref q2, .ref q3, .ref q4, .ref q5, .int cm, .int stp', .ref q6, .ref q7, .ref q8, .int mus, .int mc_, .int mb_, .ref q9])), (q6, .inl (ct.1, 6, .inr (.inl ax')))] ++ wt)) A) ([.ref h0] : List Value).toArray s 0 0 A) (F0 m 44 ls [])) → W p l e (headSpec w_M_reduce rm_M_reduce).room s m ([.ref h0] : List Value).toArray below meth c H locs 0 0 (MQ below (va_Qv (fun u => u = r0) (fun (u : (Nat → Int64) × Int32) t => match u with | (ax', stp') => va_P D classes ([(h0, .inr (5, [.ref q1, .ref q2, .ref q3, .ref q4, .ref q5, .int cm, .int stp', .ref q6, .ref q7, .ref q8, .int mus, .int mc_, .int mb_, .ref q9])), (q6, .inl (ct.1, 6, .inr (.inl ax')))] ++ wt) t.heap ∧ va_D A ([(h0, .inr (5, [.ref q1, .ref q2, .ref q3, .ref q4, .ref q5, .int cm, .int stp', .ref q6, .ref q7, .ref q8, .int mus, .int mc_, .int mb_, .ref q9])), (q6, .inl (ct.1, 6, .inr (.inl ax')))] ++ wt)) A) ([.ref h0] : List Value).toArray s 0 0 A) (F0 m 32 ls []) := by
    intro n
    induction n with
    | zero =>
      intro mo ax stp mo' ax' stp' h
      rw [lp_M_reduce_32] at h
      cases h
    | succ n ih =>
      intro mo ax stp mo' ax' stp' h H locs hP hD hS ls hl K
      rw [lp_M_reduce_32] at h
      refine lv_iload_n hx hb d_M_reduce_32 rfl (lv_at hl 0 rfl) ?_
      refine lv_if_eq (tgt := 44) hx hb d_M_reduce_33 (by decide) (fun c_8 => ?_) (fun c_8 => ?_)
      · rw [if_pos c_8] at h
        cases h
        exact K _ _ hP hD hS _ (lv_sub hl [0, 1] rfl)
      · rw [if_neg c_8] at h
        refine lv_aload_n hx hb d_M_reduce_36 rfl (lv_at hl 1 rfl) ?_
        rcases e_12 : f_M_goes ax stp with _ | ⟨r_9, ax_10, stp_11⟩
        · rw [e_12] at h; cases h
        rw [e_12, Option.bind_some] at h
        try dsimp only at h
        refine va_calli (va_runV (As := []) (rest := []) ⟨hx, hb, hml, hown, htg⟩ (c_M_goes l D ct A ([] ++ wt)  h0 q1 q2 q3 q4 q5 q6 q7 q8 q9 cm stp mus mc_ mb_ ax   _ e_12) (cwV 0 htg (giV tm_459 tm_461 tm_20 tm_34 g_M_goes) rfl rfl rfl (by decide +kernel) ⟨Nat.le_of_ble_eq_true rfl, Nat.le_of_ble_eq_true rfl⟩) (preVM hA hS hP hD hKK (va_recv hK hP (ci := 5) (q0 := 0) rfl rfl)) rfl rfl hl.1 rfl (lv_room (Nat.le_of_ble_eq_true rfl)) d_M_reduce_37 ⟨Nat.le_of_ble_eq_true rfl, Nat.le_of_ble_eq_true rfl⟩) hS (fun q _ h9 => h9) (fun q h9 => h9) (fun r9 u9 t9 H locs ht9 hvm9 hw9 hB9 hz9 hk9 hS => ?_)
        obtain ⟨hw8, hw9⟩ := Prod.mk.inj hw9
        rw [hw8]
        rw [hw9] at hB9
        obtain ⟨hP, hD⟩ := hB9
        rw [ht9] at hP
        have hP : va_P D classes ([(h0, .inr (5, [.ref q1, .ref q2, .ref q3, .ref q4, .ref q5, .int cm, .int stp_11, .ref q6, .ref q7, .ref q8, .int mus, .int mc_, .int mb_, .ref q9])), (q6, .inl (ct.1, 6, .inr (.inl ax_10)))] ++ wt) H := hP
        have hD : va_D A ([(h0, .inr (5, [.ref q1, .ref q2, .ref q3, .ref q4, .ref q5, .int cm, .int stp_11, .ref q6, .ref q7, .ref q8, .int mus, .int mc_, .int mb_, .ref q9])), (q6, .inl (ct.1, 6, .inr (.inl ax_10)))] ++ wt) := hD
        refine lv_istore_n (lv' := [(1, .int r_9), (0, .ref h0)]) hx hb d_M_reduce_40 rfl hl (by decide) rfl (fun ls hl => ?_)
        refine lv_goto (tgt := 32) hx hb d_M_reduce_41 (by decide) ?_
        exact ih r_9 ax_10 stp_11 _ _ _ h H locs hP hD hS ls (lv_sub hl [0, 1] rfl) K
  rcases e_17 : lp_M_reduce_32  1000000000 (1 : Int32) ax_5 stp_6 with _ | ⟨mo_14, ax_15, stp_16⟩
  · rw [e_17] at h; cases h
  rw [e_17, Option.bind_some] at h
  try dsimp only at h
  refine L_32 1000000000 (1 : Int32) ax_5 stp_6 mo_14 ax_15 stp_16 e_17 _ _ hP hD hS ls (lv_sub hl [0, 1] rfl) (fun H locs hP hD hS ls hl => ?_)
  refine lv_iconst (v := (3 : Int32)) hx hb d_M_reduce_44 (by decide) ?_
  refine lv_istore_n (lv' := [(2, .int (3 : Int32)), (1, .int mo_14), (0, .ref h0)]) hx hb d_M_reduce_45 rfl hl (by decide) rfl (fun ls hl => ?_)
  have L_46 : ∀ (n : Nat) (mo : Int32) (kk : Int32) (ax : Nat → Int64) (stp : Int32) , lp_M_reduce_46  n mo kk ax stp = some r0 → ∀ (H : Heap) (locs : List Loc), va_P D classes ([(h0, .inr (5, [.ref q1, .ref q2, .ref q3, .ref q4, .ref q5, .int cm, .int stp, .ref q6, .ref q7, .ref q8, .int mus, .int mc_, .int mb_, .ref q9])), (q6, .inl (ct.1, 6, .inr (.inl ax)))] ++ wt) H → va_D A ([(h0, .inr (5, [.ref q1, .ref q2, .ref q3, .ref q4, .ref q5, .int cm, .int stp, .ref q6, .ref q7, .ref q8, .int mus, .int mc_, .int mb_, .ref q9])), (q6, .inl (ct.1, 6, .inr (.inl ax)))] ++ wt) → va_S A s.heap H locs → ∀ (ls : Array Slot), lv_has ls 3 [(1, .int mo), (2, .int kk), (0, .ref h0)] → W p l e (headSpec w_M_reduce rm_M_reduce).room s m ([.ref h0] : List Value).toArray below meth c H locs 0 0 (MQ below (va_Qv (fun u => u = r0) (fun (u : (Nat → Int64) × Int32) t => match u with | (ax', stp') => va_P D classes ([(h0, .inr (5, [.ref q1, .ref q2, .ref q3, .ref q4, .ref q5, .int cm, .int stp', .ref q6, .ref q7, .ref q8, .int mus, .int mc_, .int mb_, .ref q9])), (q6, .inl (ct.1, 6, .inr (.inl ax')))] ++ wt) t.heap ∧ va_D A ([(h0, .inr (5, [.ref q1, .ref q2, .ref q3, .ref q4, .ref q5, .int cm, .int stp', .ref q6, .ref q7, .ref q8, .int mus, .int mc_, .int mb_, .ref q9])), (q6, .inl (ct.1, 6, .inr (.inl ax')))] ++ wt)) A) ([.ref h0] : List Value).toArray s 0 0 A) (F0 m 46 ls []) := by
    intro n
    induction n with
    | zero =>
      intro mo kk ax stp  h
      rw [lp_M_reduce_46] at h
      cases h
    | succ n ih =>
      intro mo kk ax stp  h H locs hP hD hS ls hl
      rw [lp_M_reduce_46] at h
      refine lv_iload_n hx hb d_M_reduce_46 rfl (lv_at hl 1 rfl) ?_
      refine lv_bipush (v := (6 : Int32)) hx hb d_M_reduce_47 (by decide) ?_
      refine lv_icmp_ge (tgt := 74) hx hb d_M_reduce_49 (by decide) (fun c_18 => ?_) (fun c_18 => ?_)
      · rw [if_pos c_18] at h
        exact W.vret hx hb hr (fun t ht hW => ⟨⟨(ax, stp), rfl, (Option.some.inj h), by rw [ht]; exact hP, hD⟩, hS.F ht⟩) hS.2.2 d_M_reduce_74
      · rw [if_neg c_18] at h
        refine lv_aload_n hx hb d_M_reduce_52 rfl (lv_at hl 2 rfl) ?_
        refine va_get (D := D) (ci := 5) (v := .ref q6) (C := R_Model) (T := F_Model) (N := 14) hx hb htg i_Model hown hK hP 0 rfl rfl 7 (by decide) (htg _ tm_405) (fun _ h9 => h9) rfl d_M_reduce_53 ?_
        refine lv_iload_n hx hb d_M_reduce_56 rfl (lv_at hl 1 rfl) ?_
        refine lv_aload_n hx hb d_M_reduce_57 rfl (lv_at hl 2 rfl) ?_
        refine va_get (D := D) (ci := 5) (v := .ref q6) (C := R_Model) (T := F_Model) (N := 14) hx hb htg i_Model hown hK hP 0 rfl rfl 7 (by decide) (htg _ tm_405) (fun _ h9 => h9) rfl d_M_reduce_58 ?_
        refine lv_iload_n hx hb d_M_reduce_61 rfl (lv_at hl 1 rfl) ?_
        by_cases b_19 : inb kk 6 = true
        rotate_left
        · rw [if_neg b_19] at h; cases h
        rw [if_pos b_19] at h
        refine va_lald hx hb hK hP 1 0 rfl rfl (inb_in b_19) d_M_reduce_62 ?_
        refine lv_ldc2 (v := (2 : Int64)) hx hb hown (htg _ tm_458) d_M_reduce_63 ?_
        refine lv_ldiv hx hb d_M_reduce_66 (by decide) ?_
        by_cases b_20 : inb kk 6 = true
        rotate_left
        · rw [if_neg b_20] at h; cases h
        rw [if_pos b_20] at h
        refine va_last hx hb hK hP hD hS 1 0 rfl rfl (inb_in b_20) d_M_reduce_67 (fun H locs hP hD hS => ?_)
        have hP : va_P D classes ([(h0, .inr (5, [.ref q1, .ref q2, .ref q3, .ref q4, .ref q5, .int cm, .int stp, .ref q6, .ref q7, .ref q8, .int mus, .int mc_, .int mb_, .ref q9])), (q6, .inl (ct.1, 6, .inr (.inl (vp_updL ax kk.toNatClampNeg ((ax kk.toNatClampNeg) / (2 : Int64))))))] ++ wt) H := hP
        have hD : va_D A ([(h0, .inr (5, [.ref q1, .ref q2, .ref q3, .ref q4, .ref q5, .int cm, .int stp, .ref q6, .ref q7, .ref q8, .int mus, .int mc_, .int mb_, .ref q9])), (q6, .inl (ct.1, 6, .inr (.inl (vp_updL ax kk.toNatClampNeg ((ax kk.toNatClampNeg) / (2 : Int64))))))] ++ wt) := hD
        refine lv_iinc (v := kk + (1 : Int32)) (lv' := [(2, .int (kk + (1 : Int32))), (1, .int mo), (0, .ref h0)]) hx hb d_M_reduce_68 hl (k := 1) rfl rfl (by decide) rfl (fun ls hl => ?_)
        refine lv_goto (tgt := 46) hx hb d_M_reduce_71 (by decide) ?_
        exact ih mo (kk + (1 : Int32)) (vp_updL ax kk.toNatClampNeg ((ax kk.toNatClampNeg) / (2 : Int64))) stp h H locs hP hD hS ls (lv_sub hl [1, 0, 2] rfl)
  exact L_46 4 mo_14 (3 : Int32) ax_15 stp_16 h _ _ hP hD hS ls (lv_sub hl [1, 0, 2] rfl)
