-- CellBenchModel goes ()Z
def lp_M_goes_230  : Nat → Int32 → Int32 → Int32 → (Nat → Int64) → Int32 → Option (Int32 × Int32 × Int32 × (Nat → Int64) × Int32)
  | 0, _, _, _, _, _ => none
  | n + 1, od, po, kk, ax, stp =>
    if (6 : Int32) ≤ kk then (some (od, po, kk, ax, stp)) else (if po = 0 then (if inb kk 6 = true then (if inb kk 6 = true then (lp_M_goes_230  n od po (kk + (1 : Int32)) (vp_updL ax kk.toNatClampNeg (-(f_M_size (ax kk.toNatClampNeg)))) stp) else none) else none) else (if inb kk 6 = true then (if inb kk 6 = true then (lp_M_goes_230  n od po (kk + (1 : Int32)) (vp_updL ax kk.toNatClampNeg (f_M_size (ax kk.toNatClampNeg))) stp) else none) else none))
def jn_M_goes_382  (va : Int64) (vb : Int64) (vc : Int64) (vx : Int64) (vy : Int64) (vz : Int64) (k382_0 : Int64) (ax : Nat → Int64) (stp : Int32) : Option (Int32 × (Nat → Int64) × Int32) :=
    some ((1 : Int32), vp_updL (vp_updL (vp_updL ax (2 : Int32).toNatClampNeg ((vb + vc) - (k382_0 * vx))) (4 : Int32).toNatClampNeg (vy - (k382_0 * vz))) (3 : Int32).toNatClampNeg (vx - (((2 : Int64) * k382_0) * vb)), stp + (1 : Int32))
def jn_M_goes_368  (va : Int64) (vb : Int64) (vc : Int64) (vx : Int64) (vy : Int64) (vz : Int64) (ax : Nat → Int64) (stp : Int32) : Option (Int32 × (Nat → Int64) × Int32) :=
    if 0 ≤ (lg_cmp vx (0 : Int64)) then (jn_M_goes_382  va vb vc vx vy vz (1 : Int64) ax stp) else (jn_M_goes_382  va vb vc vx vy vz (-1 : Int64) ax stp)
def jn_M_goes_503  (va : Int64) (vb : Int64) (vc : Int64) (vx : Int64) (vy : Int64) (vz : Int64) (k503_0 : Int64) (ax : Nat → Int64) (stp : Int32) : Option (Int32 × (Nat → Int64) × Int32) :=
    some ((1 : Int32), vp_updL (vp_updL (vp_updL ax (2 : Int32).toNatClampNeg ((va + vc) - (k503_0 * vy))) (3 : Int32).toNatClampNeg (vx - (k503_0 * vz))) (4 : Int32).toNatClampNeg (vy - (((2 : Int64) * k503_0) * va)), stp + (1 : Int32))
def jn_M_goes_489  (va : Int64) (vb : Int64) (vc : Int64) (vx : Int64) (vy : Int64) (vz : Int64) (ax : Nat → Int64) (stp : Int32) : Option (Int32 × (Nat → Int64) × Int32) :=
    if 0 ≤ (lg_cmp vy (0 : Int64)) then (jn_M_goes_503  va vb vc vx vy vz (1 : Int64) ax stp) else (jn_M_goes_503  va vb vc vx vy vz (-1 : Int64) ax stp)
def jn_M_goes_622  (va : Int64) (vb : Int64) (vc : Int64) (vx : Int64) (vy : Int64) (vz : Int64) (k622_0 : Int64) (ax : Nat → Int64) (stp : Int32) : Option (Int32 × (Nat → Int64) × Int32) :=
    some ((1 : Int32), vp_updL (vp_updL (vp_updL ax (1 : Int32).toNatClampNeg ((va + vb) - (k622_0 * vz))) (3 : Int32).toNatClampNeg (vx - (k622_0 * vy))) (5 : Int32).toNatClampNeg (vz - (((2 : Int64) * k622_0) * va)), stp + (1 : Int32))
def jn_M_goes_608  (va : Int64) (vb : Int64) (vc : Int64) (vx : Int64) (vy : Int64) (vz : Int64) (ax : Nat → Int64) (stp : Int32) : Option (Int32 × (Nat → Int64) × Int32) :=
    if 0 ≤ (lg_cmp vz (0 : Int64)) then (jn_M_goes_622  va vb vc vx vy vz (1 : Int64) ax stp) else (jn_M_goes_622  va vb vc vx vy vz (-1 : Int64) ax stp)
def jn_M_goes_728  (va : Int64) (vb : Int64) (vc : Int64) (vx : Int64) (vy : Int64) (vz : Int64) (vs : Int64) (ax : Nat → Int64) (stp : Int32) : Option (Int32 × (Nat → Int64) × Int32) :=
    some ((1 : Int32), vp_updL (vp_updL (vp_updL ax (2 : Int32).toNatClampNeg (vc + vs)) (3 : Int32).toNatClampNeg ((((2 : Int64) * vb) + vx) + vz)) (4 : Int32).toNatClampNeg ((((2 : Int64) * va) + vy) + vz), stp + (1 : Int32))
def jn_M_goes_786  (ax : Nat → Int64) (stp : Int32) : Option (Int32 × (Nat → Int64) × Int32) :=
    some ((0 : Int32), ax, stp)
def jn_M_goes_683  (va : Int64) (vb : Int64) (vc : Int64) (vx : Int64) (vy : Int64) (vz : Int64) (ax : Nat → Int64) (stp : Int32) : Option (Int32 × (Nat → Int64) × Int32) :=
    if (lg_cmp ((((vx + vy) + vz) + va) + vb) (0 : Int64)) < 0 then (jn_M_goes_728  va vb vc vx vy vz ((((vx + vy) + vz) + va) + vb) ax stp) else (if (lg_cmp ((((vx + vy) + vz) + va) + vb) (0 : Int64)) = 0 then (if (lg_cmp (((2 : Int64) * (va + vy)) + vz) (0 : Int64)) ≤ 0 then (jn_M_goes_786  ax stp) else (jn_M_goes_728  va vb vc vx vy vz ((((vx + vy) + vz) + va) + vb) ax stp)) else (jn_M_goes_786  ax stp))
def jn_M_goes_564  (va : Int64) (vb : Int64) (vc : Int64) (vx : Int64) (vy : Int64) (vz : Int64) (ax : Nat → Int64) (stp : Int32) : Option (Int32 × (Nat → Int64) × Int32) :=
    if 0 < (lg_cmp (f_M_size vz) va) then (jn_M_goes_608  va vb vc vx vy vz ax stp) else (if (lg_cmp vz va) = 0 then (if (lg_cmp ((2 : Int64) * vx) vy) < 0 then (jn_M_goes_608  va vb vc vx vy vz ax stp) else (if (lg_cmp vz (-va)) = 0 then (if 0 ≤ (lg_cmp vy (0 : Int64)) then (jn_M_goes_683  va vb vc vx vy vz ax stp) else (jn_M_goes_608  va vb vc vx vy vz ax stp)) else (jn_M_goes_683  va vb vc vx vy vz ax stp))) else (if (lg_cmp vz (-va)) = 0 then (if 0 ≤ (lg_cmp vy (0 : Int64)) then (jn_M_goes_683  va vb vc vx vy vz ax stp) else (jn_M_goes_608  va vb vc vx vy vz ax stp)) else (jn_M_goes_683  va vb vc vx vy vz ax stp)))
def jn_M_goes_445  (va : Int64) (vb : Int64) (vc : Int64) (vx : Int64) (vy : Int64) (vz : Int64) (ax : Nat → Int64) (stp : Int32) : Option (Int32 × (Nat → Int64) × Int32) :=
    if 0 < (lg_cmp (f_M_size vy) va) then (jn_M_goes_489  va vb vc vx vy vz ax stp) else (if (lg_cmp vy va) = 0 then (if (lg_cmp ((2 : Int64) * vx) vz) < 0 then (jn_M_goes_489  va vb vc vx vy vz ax stp) else (if (lg_cmp vy (-va)) = 0 then (if 0 ≤ (lg_cmp vz (0 : Int64)) then (jn_M_goes_564  va vb vc vx vy vz ax stp) else (jn_M_goes_489  va vb vc vx vy vz ax stp)) else (jn_M_goes_564  va vb vc vx vy vz ax stp))) else (if (lg_cmp vy (-va)) = 0 then (if 0 ≤ (lg_cmp vz (0 : Int64)) then (jn_M_goes_564  va vb vc vx vy vz ax stp) else (jn_M_goes_489  va vb vc vx vy vz ax stp)) else (jn_M_goes_564  va vb vc vx vy vz ax stp)))
def jn_M_goes_227  (od : Int32) (k227_0 : Int32) (ax : Nat → Int64) (stp : Int32) : Option (Int32 × (Nat → Int64) × Int32) :=
    Option.bind (lp_M_goes_230  4 od k227_0 (3 : Int32) ax stp) (fun z_57 => (if 0 < (lg_cmp (f_M_size (z_57.2.2.2.1 (3 : Int32).toNatClampNeg)) (z_57.2.2.2.1 (1 : Int32).toNatClampNeg)) then (jn_M_goes_368  (z_57.2.2.2.1 (0 : Int32).toNatClampNeg) (z_57.2.2.2.1 (1 : Int32).toNatClampNeg) (z_57.2.2.2.1 (2 : Int32).toNatClampNeg) (z_57.2.2.2.1 (3 : Int32).toNatClampNeg) (z_57.2.2.2.1 (4 : Int32).toNatClampNeg) (z_57.2.2.2.1 (5 : Int32).toNatClampNeg) z_57.2.2.2.1 z_57.2.2.2.2) else (if (lg_cmp (z_57.2.2.2.1 (3 : Int32).toNatClampNeg) (z_57.2.2.2.1 (1 : Int32).toNatClampNeg)) = 0 then (if (lg_cmp ((2 : Int64) * (z_57.2.2.2.1 (4 : Int32).toNatClampNeg)) (z_57.2.2.2.1 (5 : Int32).toNatClampNeg)) < 0 then (jn_M_goes_368  (z_57.2.2.2.1 (0 : Int32).toNatClampNeg) (z_57.2.2.2.1 (1 : Int32).toNatClampNeg) (z_57.2.2.2.1 (2 : Int32).toNatClampNeg) (z_57.2.2.2.1 (3 : Int32).toNatClampNeg) (z_57.2.2.2.1 (4 : Int32).toNatClampNeg) (z_57.2.2.2.1 (5 : Int32).toNatClampNeg) z_57.2.2.2.1 z_57.2.2.2.2) else (if (lg_cmp (z_57.2.2.2.1 (3 : Int32).toNatClampNeg) (-(z_57.2.2.2.1 (1 : Int32).toNatClampNeg))) = 0 then (if 0 ≤ (lg_cmp (z_57.2.2.2.1 (5 : Int32).toNatClampNeg) (0 : Int64)) then (jn_M_goes_445  (z_57.2.2.2.1 (0 : Int32).toNatClampNeg) (z_57.2.2.2.1 (1 : Int32).toNatClampNeg) (z_57.2.2.2.1 (2 : Int32).toNatClampNeg) (z_57.2.2.2.1 (3 : Int32).toNatClampNeg) (z_57.2.2.2.1 (4 : Int32).toNatClampNeg) (z_57.2.2.2.1 (5 : Int32).toNatClampNeg) z_57.2.2.2.1 z_57.2.2.2.2) else (jn_M_goes_368  (z_57.2.2.2.1 (0 : Int32).toNatClampNeg) (z_57.2.2.2.1 (1 : Int32).toNatClampNeg) (z_57.2.2.2.1 (2 : Int32).toNatClampNeg) (z_57.2.2.2.1 (3 : Int32).toNatClampNeg) (z_57.2.2.2.1 (4 : Int32).toNatClampNeg) (z_57.2.2.2.1 (5 : Int32).toNatClampNeg) z_57.2.2.2.1 z_57.2.2.2.2)) else (jn_M_goes_445  (z_57.2.2.2.1 (0 : Int32).toNatClampNeg) (z_57.2.2.2.1 (1 : Int32).toNatClampNeg) (z_57.2.2.2.1 (2 : Int32).toNatClampNeg) (z_57.2.2.2.1 (3 : Int32).toNatClampNeg) (z_57.2.2.2.1 (4 : Int32).toNatClampNeg) (z_57.2.2.2.1 (5 : Int32).toNatClampNeg) z_57.2.2.2.1 z_57.2.2.2.2))) else (if (lg_cmp (z_57.2.2.2.1 (3 : Int32).toNatClampNeg) (-(z_57.2.2.2.1 (1 : Int32).toNatClampNeg))) = 0 then (if 0 ≤ (lg_cmp (z_57.2.2.2.1 (5 : Int32).toNatClampNeg) (0 : Int64)) then (jn_M_goes_445  (z_57.2.2.2.1 (0 : Int32).toNatClampNeg) (z_57.2.2.2.1 (1 : Int32).toNatClampNeg) (z_57.2.2.2.1 (2 : Int32).toNatClampNeg) (z_57.2.2.2.1 (3 : Int32).toNatClampNeg) (z_57.2.2.2.1 (4 : Int32).toNatClampNeg) (z_57.2.2.2.1 (5 : Int32).toNatClampNeg) z_57.2.2.2.1 z_57.2.2.2.2) else (jn_M_goes_368  (z_57.2.2.2.1 (0 : Int32).toNatClampNeg) (z_57.2.2.2.1 (1 : Int32).toNatClampNeg) (z_57.2.2.2.1 (2 : Int32).toNatClampNeg) (z_57.2.2.2.1 (3 : Int32).toNatClampNeg) (z_57.2.2.2.1 (4 : Int32).toNatClampNeg) (z_57.2.2.2.1 (5 : Int32).toNatClampNeg) z_57.2.2.2.1 z_57.2.2.2.2)) else (jn_M_goes_445  (z_57.2.2.2.1 (0 : Int32).toNatClampNeg) (z_57.2.2.2.1 (1 : Int32).toNatClampNeg) (z_57.2.2.2.1 (2 : Int32).toNatClampNeg) (z_57.2.2.2.1 (3 : Int32).toNatClampNeg) (z_57.2.2.2.1 (4 : Int32).toNatClampNeg) (z_57.2.2.2.1 (5 : Int32).toNatClampNeg) z_57.2.2.2.1 z_57.2.2.2.2)))))
def jn_M_goes_183  (k183_0 : Int32) (k183_1 : Int32) (ax : Nat → Int64) (stp : Int32) : Option (Int32 × (Nat → Int64) × Int32) :=
    if (k183_1 ^^^ k183_0) = 0 then (if (lg_cmp (ax (3 : Int32).toNatClampNeg) (0 : Int64)) = 0 then (jn_M_goes_227  (k183_1 ^^^ k183_0) (0 : Int32) ax stp) else (if (lg_cmp (ax (4 : Int32).toNatClampNeg) (0 : Int64)) = 0 then (jn_M_goes_227  (k183_1 ^^^ k183_0) (0 : Int32) ax stp) else (if (lg_cmp (ax (5 : Int32).toNatClampNeg) (0 : Int64)) = 0 then (jn_M_goes_227  (k183_1 ^^^ k183_0) (0 : Int32) ax stp) else (jn_M_goes_227  (k183_1 ^^^ k183_0) (1 : Int32) ax stp)))) else (jn_M_goes_227  (k183_1 ^^^ k183_0) (0 : Int32) ax stp)
def jn_M_goes_166  (k166_0 : Int32) (k166_1 : Int32) (ax : Nat → Int64) (stp : Int32) : Option (Int32 × (Nat → Int64) × Int32) :=
    if 0 ≤ (lg_cmp (ax (5 : Int32).toNatClampNeg) (0 : Int64)) then (jn_M_goes_183  (0 : Int32) (k166_1 ^^^ k166_0) ax stp) else (jn_M_goes_183  (1 : Int32) (k166_1 ^^^ k166_0) ax stp)
def jn_M_goes_150  (k150_0 : Int32) (ax : Nat → Int64) (stp : Int32) : Option (Int32 × (Nat → Int64) × Int32) :=
    if 0 ≤ (lg_cmp (ax (4 : Int32).toNatClampNeg) (0 : Int64)) then (jn_M_goes_166  (0 : Int32) k150_0 ax stp) else (jn_M_goes_166  (1 : Int32) k150_0 ax stp)
def jn_M_goes_134  (ax : Nat → Int64) (stp : Int32) : Option (Int32 × (Nat → Int64) × Int32) :=
    if 0 ≤ (lg_cmp (ax (3 : Int32).toNatClampNeg) (0 : Int64)) then (jn_M_goes_150  (0 : Int32) ax stp) else (jn_M_goes_150  (1 : Int32) ax stp)
def jn_M_goes_66  (ax : Nat → Int64) (stp : Int32) : Option (Int32 × (Nat → Int64) × Int32) :=
    if 0 < (lg_cmp (ax (1 : Int32).toNatClampNeg) (ax (2 : Int32).toNatClampNeg)) then (Option.bind (f_M_exch ax (1 : Int32) (2 : Int32)) (fun z_12 => (Option.bind (f_M_exch z_12 (4 : Int32) (5 : Int32)) (fun z_11 => (some ((1 : Int32), z_11, stp)))))) else (if (lg_cmp (ax (1 : Int32).toNatClampNeg) (ax (2 : Int32).toNatClampNeg)) = 0 then (if (lg_cmp (f_M_size (ax (4 : Int32).toNatClampNeg)) (f_M_size (ax (5 : Int32).toNatClampNeg))) ≤ 0 then (jn_M_goes_134  ax stp) else (Option.bind (f_M_exch ax (1 : Int32) (2 : Int32)) (fun z_67 => (Option.bind (f_M_exch z_67 (4 : Int32) (5 : Int32)) (fun z_66 => (some ((1 : Int32), z_66, stp))))))) else (jn_M_goes_134  ax stp))
def f_M_goes (ax : Nat → Int64) (stp : Int32) : Option (Int32 × (Nat → Int64) × Int32) :=
    if 0 < (lg_cmp (ax (0 : Int32).toNatClampNeg) (ax (1 : Int32).toNatClampNeg)) then (Option.bind (f_M_exch ax (0 : Int32) (1 : Int32)) (fun z_69 => (Option.bind (f_M_exch z_69 (3 : Int32) (4 : Int32)) (fun z_68 => (jn_M_goes_66  z_68 stp))))) else (if (lg_cmp (ax (0 : Int32).toNatClampNeg) (ax (1 : Int32).toNatClampNeg)) = 0 then (if (lg_cmp (f_M_size (ax (3 : Int32).toNatClampNeg)) (f_M_size (ax (4 : Int32).toNatClampNeg))) ≤ 0 then (jn_M_goes_66  ax stp) else (Option.bind (f_M_exch ax (0 : Int32) (1 : Int32)) (fun z_77 => (Option.bind (f_M_exch z_77 (3 : Int32) (4 : Int32)) (fun z_76 => (jn_M_goes_66  z_76 stp)))))) else (jn_M_goes_66  ax stp))
def w_M_goes : List Cond := .code y_M_goes b_M_goes 17 (some .boolean) :: GW
abbrev rm_M_goes : Room := { frames := 1, cells := 0, slots := 0, locals := 24 }
theorem g_M_goes : GoodIn GW w_M_goes := gi tm_462
set_option maxHeartbeats 4000000 in
set_option maxRecDepth 100000 in
theorem J_M_goes_382 {p : Program} {l : Launch} {e : Env} {s : State} {m : MethodId} {below : List Frame} {meth : Method} {c : Code} {D : va_G} {ct : CT} {A : Nat → Prop} {wt : va_W} (h0 : Nat) (q1 : Nat) (q2 : Nat) (q3 : Nat) (q4 : Nat) (q5 : Nat) (q6 : Nat) (q7 : Nat) (q8 : Nat) (q9 : Nat) (cm : Int32) (mus : Int32) (mc_ : Int32) (mb_ : Int32) (r0 : Int32 × (Nat → Int64) × Int32) (hx : p.tables.exec = Jvm.exec) (hb : c.code = b_M_goes) (hr : meth.sig.returnType = (some .boolean)) (hml : c.maxLocals = 17) (hown : s.vm.findClass R_Model = some m.cls) (htg : ∀ w ∈ GW, w.before ([.ref h0] : List Value).toArray s = true) (hlocks : meth.locks = false) (hKK : KK D ct s) (hA : ∀ q : Nat, s.heap.size ≤ q → A q) : ∀ (va : Int64) (vb : Int64) (vc : Int64) (vx : Int64) (vy : Int64) (vz : Int64) (k382_0 : Int64) (ax : Nat → Int64) (stp : Int32), jn_M_goes_382  va vb vc vx vy vz k382_0 ax stp = some r0 → ∀ (H : Heap) (locs : List Loc), va_P D classes ([(h0, .inr (5, [.ref q1, .ref q2, .ref q3, .ref q4, .ref q5, .int cm, .int stp, .ref q6, .ref q7, .ref q8, .int mus, .int mc_, .int mb_, .ref q9])), (q6, .inl (ct.1, 6, .inr (.inl ax)))] ++ wt) H → va_D A ([(h0, .inr (5, [.ref q1, .ref q2, .ref q3, .ref q4, .ref q5, .int cm, .int stp, .ref q6, .ref q7, .ref q8, .int mus, .int mc_, .int mb_, .ref q9])), (q6, .inl (ct.1, 6, .inr (.inl ax)))] ++ wt) → va_S A s.heap H locs → ∀ (ls : Array Slot), lv_has ls 17 [(3, .long va), (5, .long vb), (7, .long vc), (9, .long vx), (11, .long vy), (13, .long vz), (0, .ref h0)] → W p l e (headSpec w_M_goes rm_M_goes).room s m ([.ref h0] : List Value).toArray below meth c H locs 0 0 (MQ below (va_Qi (fun r u => (r, u) = r0) (fun (u : (Nat → Int64) × Int32) t => match u with | (ax', stp') => va_P D classes ([(h0, .inr (5, [.ref q1, .ref q2, .ref q3, .ref q4, .ref q5, .int cm, .int stp', .ref q6, .ref q7, .ref q8, .int mus, .int mc_, .int mb_, .ref q9])), (q6, .inl (ct.1, 6, .inr (.inl ax')))] ++ wt) t.heap ∧ va_D A ([(h0, .inr (5, [.ref q1, .ref q2, .ref q3, .ref q4, .ref q5, .int cm, .int stp', .ref q6, .ref q7, .ref q8, .int mus, .int mc_, .int mb_, .ref q9])), (q6, .inl (ct.1, 6, .inr (.inl ax')))] ++ wt)) A) ([.ref h0] : List Value).toArray s 0 0 A) (F0 m 382 ls [.long k382_0]) := by
  have hK := hKK.1
  have hN := hKK.2.1
  have hO := hKK.2.2
  intro va vb vc vx vy vz k382_0 ax stp h H locs hP hD hS ls hl
  unfold jn_M_goes_382 at h
  refine lv_lstore (lv' := [(15, .long k382_0), (3, .long va), (5, .long vb), (7, .long vc), (9, .long vx), (11, .long vy), (13, .long vz), (0, .ref h0)]) hx hb d_M_goes_382 hl (by decide) rfl (fun ls hl => ?_)
  refine lv_aload_n hx hb d_M_goes_384 rfl (lv_at hl 7 rfl) ?_
  refine va_get (D := D) (ci := 5) (v := .ref q6) (C := R_Model) (T := F_Model) (N := 14) hx hb htg i_Model hown hK hP 0 rfl rfl 7 (by decide) (htg _ tm_405) (fun _ h9 => h9) rfl d_M_goes_385 ?_
  refine lv_iconst (v := (2 : Int32)) hx hb d_M_goes_388 (by decide) ?_
  refine lv_lload hx hb d_M_goes_389 (lv_at hl 2 rfl) ?_
  refine lv_lload hx hb d_M_goes_391 (lv_at hl 3 rfl) ?_
  refine lv_ladd hx hb d_M_goes_393 ?_
  refine lv_lload hx hb d_M_goes_394 (lv_at hl 0 rfl) ?_
  refine lv_lload hx hb d_M_goes_396 (lv_at hl 4 rfl) ?_
  refine lv_lmul hx hb d_M_goes_398 ?_
  refine lv_lsub hx hb d_M_goes_399 ?_
  refine va_last hx hb hK hP hD hS 1 0 rfl rfl (i := (2 : Int32)) (inb_in ix_2_6) d_M_goes_400 (fun H locs hP hD hS => ?_)
  have hP : va_P D classes ([(h0, .inr (5, [.ref q1, .ref q2, .ref q3, .ref q4, .ref q5, .int cm, .int stp, .ref q6, .ref q7, .ref q8, .int mus, .int mc_, .int mb_, .ref q9])), (q6, .inl (ct.1, 6, .inr (.inl (vp_updL ax (2 : Int32).toNatClampNeg ((vb + vc) - (k382_0 * vx))))))] ++ wt) H := hP
  have hD : va_D A ([(h0, .inr (5, [.ref q1, .ref q2, .ref q3, .ref q4, .ref q5, .int cm, .int stp, .ref q6, .ref q7, .ref q8, .int mus, .int mc_, .int mb_, .ref q9])), (q6, .inl (ct.1, 6, .inr (.inl (vp_updL ax (2 : Int32).toNatClampNeg ((vb + vc) - (k382_0 * vx))))))] ++ wt) := hD
  refine lv_aload_n hx hb d_M_goes_401 rfl (lv_at hl 7 rfl) ?_
  refine va_get (D := D) (ci := 5) (v := .ref q6) (C := R_Model) (T := F_Model) (N := 14) hx hb htg i_Model hown hK hP 0 rfl rfl 7 (by decide) (htg _ tm_405) (fun _ h9 => h9) rfl d_M_goes_402 ?_
  refine lv_iconst (v := (4 : Int32)) hx hb d_M_goes_405 (by decide) ?_
  refine lv_lload hx hb d_M_goes_406 (lv_at hl 5 rfl) ?_
  refine lv_lload hx hb d_M_goes_408 (lv_at hl 0 rfl) ?_
  refine lv_lload hx hb d_M_goes_410 (lv_at hl 6 rfl) ?_
  refine lv_lmul hx hb d_M_goes_412 ?_
  refine lv_lsub hx hb d_M_goes_413 ?_
  refine va_last hx hb hK hP hD hS 1 0 rfl rfl (i := (4 : Int32)) (inb_in ix_4_6) d_M_goes_414 (fun H locs hP hD hS => ?_)
  have hP : va_P D classes ([(h0, .inr (5, [.ref q1, .ref q2, .ref q3, .ref q4, .ref q5, .int cm, .int stp, .ref q6, .ref q7, .ref q8, .int mus, .int mc_, .int mb_, .ref q9])), (q6, .inl (ct.1, 6, .inr (.inl (vp_updL (vp_updL ax (2 : Int32).toNatClampNeg ((vb + vc) - (k382_0 * vx))) (4 : Int32).toNatClampNeg (vy - (k382_0 * vz))))))] ++ wt) H := hP
  have hD : va_D A ([(h0, .inr (5, [.ref q1, .ref q2, .ref q3, .ref q4, .ref q5, .int cm, .int stp, .ref q6, .ref q7, .ref q8, .int mus, .int mc_, .int mb_, .ref q9])), (q6, .inl (ct.1, 6, .inr (.inl (vp_updL (vp_updL ax (2 : Int32).toNatClampNeg ((vb + vc) - (k382_0 * vx))) (4 : Int32).toNatClampNeg (vy - (k382_0 * vz))))))] ++ wt) := hD
  refine lv_aload_n hx hb d_M_goes_415 rfl (lv_at hl 7 rfl) ?_
  refine va_get (D := D) (ci := 5) (v := .ref q6) (C := R_Model) (T := F_Model) (N := 14) hx hb htg i_Model hown hK hP 0 rfl rfl 7 (by decide) (htg _ tm_405) (fun _ h9 => h9) rfl d_M_goes_416 ?_
  refine lv_iconst (v := (3 : Int32)) hx hb d_M_goes_419 (by decide) ?_
  refine lv_lload hx hb d_M_goes_420 (lv_at hl 4 rfl) ?_
  refine lv_ldc2 (v := (2 : Int64)) hx hb hown (htg _ tm_458) d_M_goes_422 ?_
  refine lv_lload hx hb d_M_goes_425 (lv_at hl 0 rfl) ?_
  refine lv_lmul hx hb d_M_goes_427 ?_
  refine lv_lload hx hb d_M_goes_428 (lv_at hl 2 rfl) ?_
  refine lv_lmul hx hb d_M_goes_430 ?_
  refine lv_lsub hx hb d_M_goes_431 ?_
  refine va_last hx hb hK hP hD hS 1 0 rfl rfl (i := (3 : Int32)) (inb_in ix_3_6) d_M_goes_432 (fun H locs hP hD hS => ?_)
  have hP : va_P D classes ([(h0, .inr (5, [.ref q1, .ref q2, .ref q3, .ref q4, .ref q5, .int cm, .int stp, .ref q6, .ref q7, .ref q8, .int mus, .int mc_, .int mb_, .ref q9])), (q6, .inl (ct.1, 6, .inr (.inl (vp_updL (vp_updL (vp_updL ax (2 : Int32).toNatClampNeg ((vb + vc) - (k382_0 * vx))) (4 : Int32).toNatClampNeg (vy - (k382_0 * vz))) (3 : Int32).toNatClampNeg (vx - (((2 : Int64) * k382_0) * vb))))))] ++ wt) H := hP
  have hD : va_D A ([(h0, .inr (5, [.ref q1, .ref q2, .ref q3, .ref q4, .ref q5, .int cm, .int stp, .ref q6, .ref q7, .ref q8, .int mus, .int mc_, .int mb_, .ref q9])), (q6, .inl (ct.1, 6, .inr (.inl (vp_updL (vp_updL (vp_updL ax (2 : Int32).toNatClampNeg ((vb + vc) - (k382_0 * vx))) (4 : Int32).toNatClampNeg (vy - (k382_0 * vz))) (3 : Int32).toNatClampNeg (vx - (((2 : Int64) * k382_0) * vb))))))] ++ wt) := hD
  refine lv_aload_n hx hb d_M_goes_433 rfl (lv_at hl 7 rfl) ?_
  refine lv_dup hx hb d_M_goes_434 rfl ?_
  refine va_get (D := D) (ci := 5) (v := .int stp) (C := R_Model) (T := F_Model) (N := 14) hx hb htg i_Model hown hK hP 0 rfl rfl 6 (by decide) (htg _ tm_404) (fun _ h9 => h9) rfl d_M_goes_435 ?_
  refine lv_iconst (v := (1 : Int32)) hx hb d_M_goes_438 (by decide) ?_
  refine lv_iadd hx hb d_M_goes_439 ?_
  refine va_put (D := D) (ci := 5) (v := .int (stp + (1 : Int32))) (ty := .int) (C := R_Model) (T := F_Model) (N := 14) hx hb htg i_Model t_Model t_Model_ok n_Model hown hK hP hD hS 0 rfl rfl 6 (by decide) (htg _ tm_404) (fun _ h9 => h9) rfl (by decide +kernel) rfl rfl (Nat.le_of_ble_eq_true rfl) d_M_goes_440 (fun H locs hP hD hS => ?_)
  have hP : va_P D classes ([(h0, .inr (5, [.ref q1, .ref q2, .ref q3, .ref q4, .ref q5, .int cm, .int (stp + (1 : Int32)), .ref q6, .ref q7, .ref q8, .int mus, .int mc_, .int mb_, .ref q9])), (q6, .inl (ct.1, 6, .inr (.inl (vp_updL (vp_updL (vp_updL ax (2 : Int32).toNatClampNeg ((vb + vc) - (k382_0 * vx))) (4 : Int32).toNatClampNeg (vy - (k382_0 * vz))) (3 : Int32).toNatClampNeg (vx - (((2 : Int64) * k382_0) * vb))))))] ++ wt) H := hP
  have hD : va_D A ([(h0, .inr (5, [.ref q1, .ref q2, .ref q3, .ref q4, .ref q5, .int cm, .int (stp + (1 : Int32)), .ref q6, .ref q7, .ref q8, .int mus, .int mc_, .int mb_, .ref q9])), (q6, .inl (ct.1, 6, .inr (.inl (vp_updL (vp_updL (vp_updL ax (2 : Int32).toNatClampNeg ((vb + vc) - (k382_0 * vx))) (4 : Int32).toNatClampNeg (vy - (k382_0 * vz))) (3 : Int32).toNatClampNeg (vx - (((2 : Int64) * k382_0) * vb))))))] ++ wt) := hD
  refine lv_iconst (v := (1 : Int32)) hx hb d_M_goes_443 (by decide) ?_
  exact W.zret (v := (1 : Int32)) (ty := .boolean) hx hb hr rfl (fun t ht hW => ⟨⟨(1 : Int32), (vp_updL (vp_updL (vp_updL ax (2 : Int32).toNatClampNeg ((vb + vc) - (k382_0 * vx))) (4 : Int32).toNatClampNeg (vy - (k382_0 * vz))) (3 : Int32).toNatClampNeg (vx - (((2 : Int64) * k382_0) * vb)), stp + (1 : Int32)), rfl, (Option.some.inj h), by rw [ht]; exact hP, hD⟩, hS.F ht⟩) hS.2.2 d_M_goes_444
set_option maxHeartbeats 4000000 in
set_option maxRecDepth 100000 in
theorem J_M_goes_368 {p : Program} {l : Launch} {e : Env} {s : State} {m : MethodId} {below : List Frame} {meth : Method} {c : Code} {D : va_G} {ct : CT} {A : Nat → Prop} {wt : va_W} (h0 : Nat) (q1 : Nat) (q2 : Nat) (q3 : Nat) (q4 : Nat) (q5 : Nat) (q6 : Nat) (q7 : Nat) (q8 : Nat) (q9 : Nat) (cm : Int32) (mus : Int32) (mc_ : Int32) (mb_ : Int32) (r0 : Int32 × (Nat → Int64) × Int32) (hx : p.tables.exec = Jvm.exec) (hb : c.code = b_M_goes) (hr : meth.sig.returnType = (some .boolean)) (hml : c.maxLocals = 17) (hown : s.vm.findClass R_Model = some m.cls) (htg : ∀ w ∈ GW, w.before ([.ref h0] : List Value).toArray s = true) (hlocks : meth.locks = false) (hKK : KK D ct s) (hA : ∀ q : Nat, s.heap.size ≤ q → A q) : ∀ (va : Int64) (vb : Int64) (vc : Int64) (vx : Int64) (vy : Int64) (vz : Int64) (ax : Nat → Int64) (stp : Int32), jn_M_goes_368  va vb vc vx vy vz ax stp = some r0 → ∀ (H : Heap) (locs : List Loc), va_P D classes ([(h0, .inr (5, [.ref q1, .ref q2, .ref q3, .ref q4, .ref q5, .int cm, .int stp, .ref q6, .ref q7, .ref q8, .int mus, .int mc_, .int mb_, .ref q9])), (q6, .inl (ct.1, 6, .inr (.inl ax)))] ++ wt) H → va_D A ([(h0, .inr (5, [.ref q1, .ref q2, .ref q3, .ref q4, .ref q5, .int cm, .int stp, .ref q6, .ref q7, .ref q8, .int mus, .int mc_, .int mb_, .ref q9])), (q6, .inl (ct.1, 6, .inr (.inl ax)))] ++ wt) → va_S A s.heap H locs → ∀ (ls : Array Slot), lv_has ls 17 [(3, .long va), (5, .long vb), (7, .long vc), (9, .long vx), (11, .long vy), (13, .long vz), (0, .ref h0)] → W p l e (headSpec w_M_goes rm_M_goes).room s m ([.ref h0] : List Value).toArray below meth c H locs 0 0 (MQ below (va_Qi (fun r u => (r, u) = r0) (fun (u : (Nat → Int64) × Int32) t => match u with | (ax', stp') => va_P D classes ([(h0, .inr (5, [.ref q1, .ref q2, .ref q3, .ref q4, .ref q5, .int cm, .int stp', .ref q6, .ref q7, .ref q8, .int mus, .int mc_, .int mb_, .ref q9])), (q6, .inl (ct.1, 6, .inr (.inl ax')))] ++ wt) t.heap ∧ va_D A ([(h0, .inr (5, [.ref q1, .ref q2, .ref q3, .ref q4, .ref q5, .int cm, .int stp', .ref q6, .ref q7, .ref q8, .int mus, .int mc_, .int mb_, .ref q9])), (q6, .inl (ct.1, 6, .inr (.inl ax')))] ++ wt)) A) ([.ref h0] : List Value).toArray s 0 0 A) (F0 m 368 ls []) := by
  have hK := hKK.1
  have hN := hKK.2.1
  have hO := hKK.2.2
  intro va vb vc vx vy vz ax stp h H locs hP hD hS ls hl
  unfold jn_M_goes_368 at h
  refine lv_lload hx hb d_M_goes_368 (lv_at hl 3 rfl) ?_
  refine lv_lconst (v := (0 : Int64)) hx hb d_M_goes_370 (by decide) ?_
  refine W.lcmp hx hb d_M_goes_371 ?_
  refine lv_if_ge (tgt := 381) hx hb d_M_goes_372 (by decide) (fun c_31 => ?_) (fun c_31 => ?_)
  · rw [if_pos c_31] at h
    refine lv_lconst (v := (1 : Int64)) hx hb d_M_goes_381 (by decide) ?_
    exact J_M_goes_382 h0 q1 q2 q3 q4 q5 q6 q7 q8 q9 cm mus mc_ mb_ r0 hx hb hr hml hown htg hlocks hKK hA va vb vc vx vy vz (1 : Int64) ax stp h _ _ hP hD hS ls (lv_sub hl [0, 1, 2, 3, 4, 5, 6] rfl)
  · rw [if_neg c_31] at h
    refine lv_ldc2 (v := (-1 : Int64)) hx hb hown (htg _ tm_470) d_M_goes_375 ?_
    refine lv_goto (tgt := 382) hx hb d_M_goes_378 (by decide) ?_
    exact J_M_goes_382 h0 q1 q2 q3 q4 q5 q6 q7 q8 q9 cm mus mc_ mb_ r0 hx hb hr hml hown htg hlocks hKK hA va vb vc vx vy vz (-1 : Int64) ax stp h _ _ hP hD hS ls (lv_sub hl [0, 1, 2, 3, 4, 5, 6] rfl)
set_option maxHeartbeats 4000000 in
set_option maxRecDepth 100000 in
theorem J_M_goes_503 {p : Program} {l : Launch} {e : Env} {s : State} {m : MethodId} {below : List Frame} {meth : Method} {c : Code} {D : va_G} {ct : CT} {A : Nat → Prop} {wt : va_W} (h0 : Nat) (q1 : Nat) (q2 : Nat) (q3 : Nat) (q4 : Nat) (q5 : Nat) (q6 : Nat) (q7 : Nat) (q8 : Nat) (q9 : Nat) (cm : Int32) (mus : Int32) (mc_ : Int32) (mb_ : Int32) (r0 : Int32 × (Nat → Int64) × Int32) (hx : p.tables.exec = Jvm.exec) (hb : c.code = b_M_goes) (hr : meth.sig.returnType = (some .boolean)) (hml : c.maxLocals = 17) (hown : s.vm.findClass R_Model = some m.cls) (htg : ∀ w ∈ GW, w.before ([.ref h0] : List Value).toArray s = true) (hlocks : meth.locks = false) (hKK : KK D ct s) (hA : ∀ q : Nat, s.heap.size ≤ q → A q) : ∀ (va : Int64) (vb : Int64) (vc : Int64) (vx : Int64) (vy : Int64) (vz : Int64) (k503_0 : Int64) (ax : Nat → Int64) (stp : Int32), jn_M_goes_503  va vb vc vx vy vz k503_0 ax stp = some r0 → ∀ (H : Heap) (locs : List Loc), va_P D classes ([(h0, .inr (5, [.ref q1, .ref q2, .ref q3, .ref q4, .ref q5, .int cm, .int stp, .ref q6, .ref q7, .ref q8, .int mus, .int mc_, .int mb_, .ref q9])), (q6, .inl (ct.1, 6, .inr (.inl ax)))] ++ wt) H → va_D A ([(h0, .inr (5, [.ref q1, .ref q2, .ref q3, .ref q4, .ref q5, .int cm, .int stp, .ref q6, .ref q7, .ref q8, .int mus, .int mc_, .int mb_, .ref q9])), (q6, .inl (ct.1, 6, .inr (.inl ax)))] ++ wt) → va_S A s.heap H locs → ∀ (ls : Array Slot), lv_has ls 17 [(3, .long va), (5, .long vb), (7, .long vc), (9, .long vx), (11, .long vy), (13, .long vz), (0, .ref h0)] → W p l e (headSpec w_M_goes rm_M_goes).room s m ([.ref h0] : List Value).toArray below meth c H locs 0 0 (MQ below (va_Qi (fun r u => (r, u) = r0) (fun (u : (Nat → Int64) × Int32) t => match u with | (ax', stp') => va_P D classes ([(h0, .inr (5, [.ref q1, .ref q2, .ref q3, .ref q4, .ref q5, .int cm, .int stp', .ref q6, .ref q7, .ref q8, .int mus, .int mc_, .int mb_, .ref q9])), (q6, .inl (ct.1, 6, .inr (.inl ax')))] ++ wt) t.heap ∧ va_D A ([(h0, .inr (5, [.ref q1, .ref q2, .ref q3, .ref q4, .ref q5, .int cm, .int stp', .ref q6, .ref q7, .ref q8, .int mus, .int mc_, .int mb_, .ref q9])), (q6, .inl (ct.1, 6, .inr (.inl ax')))] ++ wt)) A) ([.ref h0] : List Value).toArray s 0 0 A) (F0 m 503 ls [.long k503_0]) := by
  have hK := hKK.1
  have hN := hKK.2.1
  have hO := hKK.2.2
  intro va vb vc vx vy vz k503_0 ax stp h H locs hP hD hS ls hl
  unfold jn_M_goes_503 at h
  refine lv_lstore (lv' := [(15, .long k503_0), (3, .long va), (5, .long vb), (7, .long vc), (9, .long vx), (11, .long vy), (13, .long vz), (0, .ref h0)]) hx hb d_M_goes_503 hl (by decide) rfl (fun ls hl => ?_)
  refine lv_aload_n hx hb d_M_goes_505 rfl (lv_at hl 7 rfl) ?_
  refine va_get (D := D) (ci := 5) (v := .ref q6) (C := R_Model) (T := F_Model) (N := 14) hx hb htg i_Model hown hK hP 0 rfl rfl 7 (by decide) (htg _ tm_405) (fun _ h9 => h9) rfl d_M_goes_506 ?_
  refine lv_iconst (v := (2 : Int32)) hx hb d_M_goes_509 (by decide) ?_
  refine lv_lload_n hx hb d_M_goes_510 rfl (lv_at hl 1 rfl) ?_
  refine lv_lload hx hb d_M_goes_511 (lv_at hl 3 rfl) ?_
  refine lv_ladd hx hb d_M_goes_513 ?_
  refine lv_lload hx hb d_M_goes_514 (lv_at hl 0 rfl) ?_
  refine lv_lload hx hb d_M_goes_516 (lv_at hl 5 rfl) ?_
  refine lv_lmul hx hb d_M_goes_518 ?_
  refine lv_lsub hx hb d_M_goes_519 ?_
  refine va_last hx hb hK hP hD hS 1 0 rfl rfl (i := (2 : Int32)) (inb_in ix_2_6) d_M_goes_520 (fun H locs hP hD hS => ?_)
  have hP : va_P D classes ([(h0, .inr (5, [.ref q1, .ref q2, .ref q3, .ref q4, .ref q5, .int cm, .int stp, .ref q6, .ref q7, .ref q8, .int mus, .int mc_, .int mb_, .ref q9])), (q6, .inl (ct.1, 6, .inr (.inl (vp_updL ax (2 : Int32).toNatClampNeg ((va + vc) - (k503_0 * vy))))))] ++ wt) H := hP
  have hD : va_D A ([(h0, .inr (5, [.ref q1, .ref q2, .ref q3, .ref q4, .ref q5, .int cm, .int stp, .ref q6, .ref q7, .ref q8, .int mus, .int mc_, .int mb_, .ref q9])), (q6, .inl (ct.1, 6, .inr (.inl (vp_updL ax (2 : Int32).toNatClampNeg ((va + vc) - (k503_0 * vy))))))] ++ wt) := hD
  refine lv_aload_n hx hb d_M_goes_521 rfl (lv_at hl 7 rfl) ?_
  refine va_get (D := D) (ci := 5) (v := .ref q6) (C := R_Model) (T := F_Model) (N := 14) hx hb htg i_Model hown hK hP 0 rfl rfl 7 (by decide) (htg _ tm_405) (fun _ h9 => h9) rfl d_M_goes_522 ?_
  refine lv_iconst (v := (3 : Int32)) hx hb d_M_goes_525 (by decide) ?_
  refine lv_lload hx hb d_M_goes_526 (lv_at hl 4 rfl) ?_
  refine lv_lload hx hb d_M_goes_528 (lv_at hl 0 rfl) ?_
  refine lv_lload hx hb d_M_goes_530 (lv_at hl 6 rfl) ?_
  refine lv_lmul hx hb d_M_goes_532 ?_
  refine lv_lsub hx hb d_M_goes_533 ?_
  refine va_last hx hb hK hP hD hS 1 0 rfl rfl (i := (3 : Int32)) (inb_in ix_3_6) d_M_goes_534 (fun H locs hP hD hS => ?_)
  have hP : va_P D classes ([(h0, .inr (5, [.ref q1, .ref q2, .ref q3, .ref q4, .ref q5, .int cm, .int stp, .ref q6, .ref q7, .ref q8, .int mus, .int mc_, .int mb_, .ref q9])), (q6, .inl (ct.1, 6, .inr (.inl (vp_updL (vp_updL ax (2 : Int32).toNatClampNeg ((va + vc) - (k503_0 * vy))) (3 : Int32).toNatClampNeg (vx - (k503_0 * vz))))))] ++ wt) H := hP
  have hD : va_D A ([(h0, .inr (5, [.ref q1, .ref q2, .ref q3, .ref q4, .ref q5, .int cm, .int stp, .ref q6, .ref q7, .ref q8, .int mus, .int mc_, .int mb_, .ref q9])), (q6, .inl (ct.1, 6, .inr (.inl (vp_updL (vp_updL ax (2 : Int32).toNatClampNeg ((va + vc) - (k503_0 * vy))) (3 : Int32).toNatClampNeg (vx - (k503_0 * vz))))))] ++ wt) := hD
  refine lv_aload_n hx hb d_M_goes_535 rfl (lv_at hl 7 rfl) ?_
  refine va_get (D := D) (ci := 5) (v := .ref q6) (C := R_Model) (T := F_Model) (N := 14) hx hb htg i_Model hown hK hP 0 rfl rfl 7 (by decide) (htg _ tm_405) (fun _ h9 => h9) rfl d_M_goes_536 ?_
  refine lv_iconst (v := (4 : Int32)) hx hb d_M_goes_539 (by decide) ?_
  refine lv_lload hx hb d_M_goes_540 (lv_at hl 5 rfl) ?_
  refine lv_ldc2 (v := (2 : Int64)) hx hb hown (htg _ tm_458) d_M_goes_542 ?_
  refine lv_lload hx hb d_M_goes_545 (lv_at hl 0 rfl) ?_
  refine lv_lmul hx hb d_M_goes_547 ?_
  refine lv_lload_n hx hb d_M_goes_548 rfl (lv_at hl 1 rfl) ?_
  refine lv_lmul hx hb d_M_goes_549 ?_
  refine lv_lsub hx hb d_M_goes_550 ?_
  refine va_last hx hb hK hP hD hS 1 0 rfl rfl (i := (4 : Int32)) (inb_in ix_4_6) d_M_goes_551 (fun H locs hP hD hS => ?_)
  have hP : va_P D classes ([(h0, .inr (5, [.ref q1, .ref q2, .ref q3, .ref q4, .ref q5, .int cm, .int stp, .ref q6, .ref q7, .ref q8, .int mus, .int mc_, .int mb_, .ref q9])), (q6, .inl (ct.1, 6, .inr (.inl (vp_updL (vp_updL (vp_updL ax (2 : Int32).toNatClampNeg ((va + vc) - (k503_0 * vy))) (3 : Int32).toNatClampNeg (vx - (k503_0 * vz))) (4 : Int32).toNatClampNeg (vy - (((2 : Int64) * k503_0) * va))))))] ++ wt) H := hP
  have hD : va_D A ([(h0, .inr (5, [.ref q1, .ref q2, .ref q3, .ref q4, .ref q5, .int cm, .int stp, .ref q6, .ref q7, .ref q8, .int mus, .int mc_, .int mb_, .ref q9])), (q6, .inl (ct.1, 6, .inr (.inl (vp_updL (vp_updL (vp_updL ax (2 : Int32).toNatClampNeg ((va + vc) - (k503_0 * vy))) (3 : Int32).toNatClampNeg (vx - (k503_0 * vz))) (4 : Int32).toNatClampNeg (vy - (((2 : Int64) * k503_0) * va))))))] ++ wt) := hD
  refine lv_aload_n hx hb d_M_goes_552 rfl (lv_at hl 7 rfl) ?_
  refine lv_dup hx hb d_M_goes_553 rfl ?_
  refine va_get (D := D) (ci := 5) (v := .int stp) (C := R_Model) (T := F_Model) (N := 14) hx hb htg i_Model hown hK hP 0 rfl rfl 6 (by decide) (htg _ tm_404) (fun _ h9 => h9) rfl d_M_goes_554 ?_
  refine lv_iconst (v := (1 : Int32)) hx hb d_M_goes_557 (by decide) ?_
  refine lv_iadd hx hb d_M_goes_558 ?_
  refine va_put (D := D) (ci := 5) (v := .int (stp + (1 : Int32))) (ty := .int) (C := R_Model) (T := F_Model) (N := 14) hx hb htg i_Model t_Model t_Model_ok n_Model hown hK hP hD hS 0 rfl rfl 6 (by decide) (htg _ tm_404) (fun _ h9 => h9) rfl (by decide +kernel) rfl rfl (Nat.le_of_ble_eq_true rfl) d_M_goes_559 (fun H locs hP hD hS => ?_)
  have hP : va_P D classes ([(h0, .inr (5, [.ref q1, .ref q2, .ref q3, .ref q4, .ref q5, .int cm, .int (stp + (1 : Int32)), .ref q6, .ref q7, .ref q8, .int mus, .int mc_, .int mb_, .ref q9])), (q6, .inl (ct.1, 6, .inr (.inl (vp_updL (vp_updL (vp_updL ax (2 : Int32).toNatClampNeg ((va + vc) - (k503_0 * vy))) (3 : Int32).toNatClampNeg (vx - (k503_0 * vz))) (4 : Int32).toNatClampNeg (vy - (((2 : Int64) * k503_0) * va))))))] ++ wt) H := hP
  have hD : va_D A ([(h0, .inr (5, [.ref q1, .ref q2, .ref q3, .ref q4, .ref q5, .int cm, .int (stp + (1 : Int32)), .ref q6, .ref q7, .ref q8, .int mus, .int mc_, .int mb_, .ref q9])), (q6, .inl (ct.1, 6, .inr (.inl (vp_updL (vp_updL (vp_updL ax (2 : Int32).toNatClampNeg ((va + vc) - (k503_0 * vy))) (3 : Int32).toNatClampNeg (vx - (k503_0 * vz))) (4 : Int32).toNatClampNeg (vy - (((2 : Int64) * k503_0) * va))))))] ++ wt) := hD
  refine lv_iconst (v := (1 : Int32)) hx hb d_M_goes_562 (by decide) ?_
  exact W.zret (v := (1 : Int32)) (ty := .boolean) hx hb hr rfl (fun t ht hW => ⟨⟨(1 : Int32), (vp_updL (vp_updL (vp_updL ax (2 : Int32).toNatClampNeg ((va + vc) - (k503_0 * vy))) (3 : Int32).toNatClampNeg (vx - (k503_0 * vz))) (4 : Int32).toNatClampNeg (vy - (((2 : Int64) * k503_0) * va)), stp + (1 : Int32)), rfl, (Option.some.inj h), by rw [ht]; exact hP, hD⟩, hS.F ht⟩) hS.2.2 d_M_goes_563
set_option maxHeartbeats 4000000 in
set_option maxRecDepth 100000 in
theorem J_M_goes_489 {p : Program} {l : Launch} {e : Env} {s : State} {m : MethodId} {below : List Frame} {meth : Method} {c : Code} {D : va_G} {ct : CT} {A : Nat → Prop} {wt : va_W} (h0 : Nat) (q1 : Nat) (q2 : Nat) (q3 : Nat) (q4 : Nat) (q5 : Nat) (q6 : Nat) (q7 : Nat) (q8 : Nat) (q9 : Nat) (cm : Int32) (mus : Int32) (mc_ : Int32) (mb_ : Int32) (r0 : Int32 × (Nat → Int64) × Int32) (hx : p.tables.exec = Jvm.exec) (hb : c.code = b_M_goes) (hr : meth.sig.returnType = (some .boolean)) (hml : c.maxLocals = 17) (hown : s.vm.findClass R_Model = some m.cls) (htg : ∀ w ∈ GW, w.before ([.ref h0] : List Value).toArray s = true) (hlocks : meth.locks = false) (hKK : KK D ct s) (hA : ∀ q : Nat, s.heap.size ≤ q → A q) : ∀ (va : Int64) (vb : Int64) (vc : Int64) (vx : Int64) (vy : Int64) (vz : Int64) (ax : Nat → Int64) (stp : Int32), jn_M_goes_489  va vb vc vx vy vz ax stp = some r0 → ∀ (H : Heap) (locs : List Loc), va_P D classes ([(h0, .inr (5, [.ref q1, .ref q2, .ref q3, .ref q4, .ref q5, .int cm, .int stp, .ref q6, .ref q7, .ref q8, .int mus, .int mc_, .int mb_, .ref q9])), (q6, .inl (ct.1, 6, .inr (.inl ax)))] ++ wt) H → va_D A ([(h0, .inr (5, [.ref q1, .ref q2, .ref q3, .ref q4, .ref q5, .int cm, .int stp, .ref q6, .ref q7, .ref q8, .int mus, .int mc_, .int mb_, .ref q9])), (q6, .inl (ct.1, 6, .inr (.inl ax)))] ++ wt) → va_S A s.heap H locs → ∀ (ls : Array Slot), lv_has ls 17 [(3, .long va), (5, .long vb), (7, .long vc), (9, .long vx), (11, .long vy), (13, .long vz), (0, .ref h0)] → W p l e (headSpec w_M_goes rm_M_goes).room s m ([.ref h0] : List Value).toArray below meth c H locs 0 0 (MQ below (va_Qi (fun r u => (r, u) = r0) (fun (u : (Nat → Int64) × Int32) t => match u with | (ax', stp') => va_P D classes ([(h0, .inr (5, [.ref q1, .ref q2, .ref q3, .ref q4, .ref q5, .int cm, .int stp', .ref q6, .ref q7, .ref q8, .int mus, .int mc_, .int mb_, .ref q9])), (q6, .inl (ct.1, 6, .inr (.inl ax')))] ++ wt) t.heap ∧ va_D A ([(h0, .inr (5, [.ref q1, .ref q2, .ref q3, .ref q4, .ref q5, .int cm, .int stp', .ref q6, .ref q7, .ref q8, .int mus, .int mc_, .int mb_, .ref q9])), (q6, .inl (ct.1, 6, .inr (.inl ax')))] ++ wt)) A) ([.ref h0] : List Value).toArray s 0 0 A) (F0 m 489 ls []) := by
  have hK := hKK.1
  have hN := hKK.2.1
  have hO := hKK.2.2
  intro va vb vc vx vy vz ax stp h H locs hP hD hS ls hl
  unfold jn_M_goes_489 at h
  refine lv_lload hx hb d_M_goes_489 (lv_at hl 4 rfl) ?_
  refine lv_lconst (v := (0 : Int64)) hx hb d_M_goes_491 (by decide) ?_
  refine W.lcmp hx hb d_M_goes_492 ?_
  refine lv_if_ge (tgt := 502) hx hb d_M_goes_493 (by decide) (fun c_35 => ?_) (fun c_35 => ?_)
  · rw [if_pos c_35] at h
    refine lv_lconst (v := (1 : Int64)) hx hb d_M_goes_502 (by decide) ?_
    exact J_M_goes_503 h0 q1 q2 q3 q4 q5 q6 q7 q8 q9 cm mus mc_ mb_ r0 hx hb hr hml hown htg hlocks hKK hA va vb vc vx vy vz (1 : Int64) ax stp h _ _ hP hD hS ls (lv_sub hl [0, 1, 2, 3, 4, 5, 6] rfl)
  · rw [if_neg c_35] at h
    refine lv_ldc2 (v := (-1 : Int64)) hx hb hown (htg _ tm_470) d_M_goes_496 ?_
    refine lv_goto (tgt := 503) hx hb d_M_goes_499 (by decide) ?_
    exact J_M_goes_503 h0 q1 q2 q3 q4 q5 q6 q7 q8 q9 cm mus mc_ mb_ r0 hx hb hr hml hown htg hlocks hKK hA va vb vc vx vy vz (-1 : Int64) ax stp h _ _ hP hD hS ls (lv_sub hl [0, 1, 2, 3, 4, 5, 6] rfl)
set_option maxHeartbeats 4000000 in
set_option maxRecDepth 100000 in
theorem J_M_goes_622 {p : Program} {l : Launch} {e : Env} {s : State} {m : MethodId} {below : List Frame} {meth : Method} {c : Code} {D : va_G} {ct : CT} {A : Nat → Prop} {wt : va_W} (h0 : Nat) (q1 : Nat) (q2 : Nat) (q3 : Nat) (q4 : Nat) (q5 : Nat) (q6 : Nat) (q7 : Nat) (q8 : Nat) (q9 : Nat) (cm : Int32) (mus : Int32) (mc_ : Int32) (mb_ : Int32) (r0 : Int32 × (Nat → Int64) × Int32) (hx : p.tables.exec = Jvm.exec) (hb : c.code = b_M_goes) (hr : meth.sig.returnType = (some .boolean)) (hml : c.maxLocals = 17) (hown : s.vm.findClass R_Model = some m.cls) (htg : ∀ w ∈ GW, w.before ([.ref h0] : List Value).toArray s = true) (hlocks : meth.locks = false) (hKK : KK D ct s) (hA : ∀ q : Nat, s.heap.size ≤ q → A q) : ∀ (va : Int64) (vb : Int64) (vc : Int64) (vx : Int64) (vy : Int64) (vz : Int64) (k622_0 : Int64) (ax : Nat → Int64) (stp : Int32), jn_M_goes_622  va vb vc vx vy vz k622_0 ax stp = some r0 → ∀ (H : Heap) (locs : List Loc), va_P D classes ([(h0, .inr (5, [.ref q1, .ref q2, .ref q3, .ref q4, .ref q5, .int cm, .int stp, .ref q6, .ref q7, .ref q8, .int mus, .int mc_, .int mb_, .ref q9])), (q6, .inl (ct.1, 6, .inr (.inl ax)))] ++ wt) H → va_D A ([(h0, .inr (5, [.ref q1, .ref q2, .ref q3, .ref q4, .ref q5, .int cm, .int stp, .ref q6, .ref q7, .ref q8, .int mus, .int mc_, .int mb_, .ref q9])), (q6, .inl (ct.1, 6, .inr (.inl ax)))] ++ wt) → va_S A s.heap H locs → ∀ (ls : Array Slot), lv_has ls 17 [(3, .long va), (5, .long vb), (7, .long vc), (9, .long vx), (11, .long vy), (13, .long vz), (0, .ref h0)] → W p l e (headSpec w_M_goes rm_M_goes).room s m ([.ref h0] : List Value).toArray below meth c H locs 0 0 (MQ below (va_Qi (fun r u => (r, u) = r0) (fun (u : (Nat → Int64) × Int32) t => match u with | (ax', stp') => va_P D classes ([(h0, .inr (5, [.ref q1, .ref q2, .ref q3, .ref q4, .ref q5, .int cm, .int stp', .ref q6, .ref q7, .ref q8, .int mus, .int mc_, .int mb_, .ref q9])), (q6, .inl (ct.1, 6, .inr (.inl ax')))] ++ wt) t.heap ∧ va_D A ([(h0, .inr (5, [.ref q1, .ref q2, .ref q3, .ref q4, .ref q5, .int cm, .int stp', .ref q6, .ref q7, .ref q8, .int mus, .int mc_, .int mb_, .ref q9])), (q6, .inl (ct.1, 6, .inr (.inl ax')))] ++ wt)) A) ([.ref h0] : List Value).toArray s 0 0 A) (F0 m 622 ls [.long k622_0]) := by
  have hK := hKK.1
  have hN := hKK.2.1
  have hO := hKK.2.2
  intro va vb vc vx vy vz k622_0 ax stp h H locs hP hD hS ls hl
  unfold jn_M_goes_622 at h
  refine lv_lstore (lv' := [(15, .long k622_0), (3, .long va), (5, .long vb), (7, .long vc), (9, .long vx), (11, .long vy), (13, .long vz), (0, .ref h0)]) hx hb d_M_goes_622 hl (by decide) rfl (fun ls hl => ?_)
  refine lv_aload_n hx hb d_M_goes_624 rfl (lv_at hl 7 rfl) ?_
  refine va_get (D := D) (ci := 5) (v := .ref q6) (C := R_Model) (T := F_Model) (N := 14) hx hb htg i_Model hown hK hP 0 rfl rfl 7 (by decide) (htg _ tm_405) (fun _ h9 => h9) rfl d_M_goes_625 ?_
  refine lv_iconst (v := (1 : Int32)) hx hb d_M_goes_628 (by decide) ?_
  refine lv_lload_n hx hb d_M_goes_629 rfl (lv_at hl 1 rfl) ?_
  refine lv_lload hx hb d_M_goes_630 (lv_at hl 2 rfl) ?_
  refine lv_ladd hx hb d_M_goes_632 ?_
  refine lv_lload hx hb d_M_goes_633 (lv_at hl 0 rfl) ?_
  refine lv_lload hx hb d_M_goes_635 (lv_at hl 6 rfl) ?_
  refine lv_lmul hx hb d_M_goes_637 ?_
  refine lv_lsub hx hb d_M_goes_638 ?_
  refine va_last hx hb hK hP hD hS 1 0 rfl rfl (i := (1 : Int32)) (inb_in ix_1_6) d_M_goes_639 (fun H locs hP hD hS => ?_)
  have hP : va_P D classes ([(h0, .inr (5, [.ref q1, .ref q2, .ref q3, .ref q4, .ref q5, .int cm, .int stp, .ref q6, .ref q7, .ref q8, .int mus, .int mc_, .int mb_, .ref q9])), (q6, .inl (ct.1, 6, .inr (.inl (vp_updL ax (1 : Int32).toNatClampNeg ((va + vb) - (k622_0 * vz))))))] ++ wt) H := hP
  have hD : va_D A ([(h0, .inr (5, [.ref q1, .ref q2, .ref q3, .ref q4, .ref q5, .int cm, .int stp, .ref q6, .ref q7, .ref q8, .int mus, .int mc_, .int mb_, .ref q9])), (q6, .inl (ct.1, 6, .inr (.inl (vp_updL ax (1 : Int32).toNatClampNeg ((va + vb) - (k622_0 * vz))))))] ++ wt) := hD
  refine lv_aload_n hx hb d_M_goes_640 rfl (lv_at hl 7 rfl) ?_
  refine va_get (D := D) (ci := 5) (v := .ref q6) (C := R_Model) (T := F_Model) (N := 14) hx hb htg i_Model hown hK hP 0 rfl rfl 7 (by decide) (htg _ tm_405) (fun _ h9 => h9) rfl d_M_goes_641 ?_
  refine lv_iconst (v := (3 : Int32)) hx hb d_M_goes_644 (by decide) ?_
  refine lv_lload hx hb d_M_goes_645 (lv_at hl 4 rfl) ?_
  refine lv_lload hx hb d_M_goes_647 (lv_at hl 0 rfl) ?_
  refine lv_lload hx hb d_M_goes_649 (lv_at hl 5 rfl) ?_
  refine lv_lmul hx hb d_M_goes_651 ?_
  refine lv_lsub hx hb d_M_goes_652 ?_
  refine va_last hx hb hK hP hD hS 1 0 rfl rfl (i := (3 : Int32)) (inb_in ix_3_6) d_M_goes_653 (fun H locs hP hD hS => ?_)
  have hP : va_P D classes ([(h0, .inr (5, [.ref q1, .ref q2, .ref q3, .ref q4, .ref q5, .int cm, .int stp, .ref q6, .ref q7, .ref q8, .int mus, .int mc_, .int mb_, .ref q9])), (q6, .inl (ct.1, 6, .inr (.inl (vp_updL (vp_updL ax (1 : Int32).toNatClampNeg ((va + vb) - (k622_0 * vz))) (3 : Int32).toNatClampNeg (vx - (k622_0 * vy))))))] ++ wt) H := hP
  have hD : va_D A ([(h0, .inr (5, [.ref q1, .ref q2, .ref q3, .ref q4, .ref q5, .int cm, .int stp, .ref q6, .ref q7, .ref q8, .int mus, .int mc_, .int mb_, .ref q9])), (q6, .inl (ct.1, 6, .inr (.inl (vp_updL (vp_updL ax (1 : Int32).toNatClampNeg ((va + vb) - (k622_0 * vz))) (3 : Int32).toNatClampNeg (vx - (k622_0 * vy))))))] ++ wt) := hD
  refine lv_aload_n hx hb d_M_goes_654 rfl (lv_at hl 7 rfl) ?_
  refine va_get (D := D) (ci := 5) (v := .ref q6) (C := R_Model) (T := F_Model) (N := 14) hx hb htg i_Model hown hK hP 0 rfl rfl 7 (by decide) (htg _ tm_405) (fun _ h9 => h9) rfl d_M_goes_655 ?_
  refine lv_iconst (v := (5 : Int32)) hx hb d_M_goes_658 (by decide) ?_
  refine lv_lload hx hb d_M_goes_659 (lv_at hl 6 rfl) ?_
  refine lv_ldc2 (v := (2 : Int64)) hx hb hown (htg _ tm_458) d_M_goes_661 ?_
  refine lv_lload hx hb d_M_goes_664 (lv_at hl 0 rfl) ?_
  refine lv_lmul hx hb d_M_goes_666 ?_
  refine lv_lload_n hx hb d_M_goes_667 rfl (lv_at hl 1 rfl) ?_
  refine lv_lmul hx hb d_M_goes_668 ?_
  refine lv_lsub hx hb d_M_goes_669 ?_
  refine va_last hx hb hK hP hD hS 1 0 rfl rfl (i := (5 : Int32)) (inb_in ix_5_6) d_M_goes_670 (fun H locs hP hD hS => ?_)
  have hP : va_P D classes ([(h0, .inr (5, [.ref q1, .ref q2, .ref q3, .ref q4, .ref q5, .int cm, .int stp, .ref q6, .ref q7, .ref q8, .int mus, .int mc_, .int mb_, .ref q9])), (q6, .inl (ct.1, 6, .inr (.inl (vp_updL (vp_updL (vp_updL ax (1 : Int32).toNatClampNeg ((va + vb) - (k622_0 * vz))) (3 : Int32).toNatClampNeg (vx - (k622_0 * vy))) (5 : Int32).toNatClampNeg (vz - (((2 : Int64) * k622_0) * va))))))] ++ wt) H := hP
  have hD : va_D A ([(h0, .inr (5, [.ref q1, .ref q2, .ref q3, .ref q4, .ref q5, .int cm, .int stp, .ref q6, .ref q7, .ref q8, .int mus, .int mc_, .int mb_, .ref q9])), (q6, .inl (ct.1, 6, .inr (.inl (vp_updL (vp_updL (vp_updL ax (1 : Int32).toNatClampNeg ((va + vb) - (k622_0 * vz))) (3 : Int32).toNatClampNeg (vx - (k622_0 * vy))) (5 : Int32).toNatClampNeg (vz - (((2 : Int64) * k622_0) * va))))))] ++ wt) := hD
  refine lv_aload_n hx hb d_M_goes_671 rfl (lv_at hl 7 rfl) ?_
  refine lv_dup hx hb d_M_goes_672 rfl ?_
  refine va_get (D := D) (ci := 5) (v := .int stp) (C := R_Model) (T := F_Model) (N := 14) hx hb htg i_Model hown hK hP 0 rfl rfl 6 (by decide) (htg _ tm_404) (fun _ h9 => h9) rfl d_M_goes_673 ?_
  refine lv_iconst (v := (1 : Int32)) hx hb d_M_goes_676 (by decide) ?_
  refine lv_iadd hx hb d_M_goes_677 ?_
  refine va_put (D := D) (ci := 5) (v := .int (stp + (1 : Int32))) (ty := .int) (C := R_Model) (T := F_Model) (N := 14) hx hb htg i_Model t_Model t_Model_ok n_Model hown hK hP hD hS 0 rfl rfl 6 (by decide) (htg _ tm_404) (fun _ h9 => h9) rfl (by decide +kernel) rfl rfl (Nat.le_of_ble_eq_true rfl) d_M_goes_678 (fun H locs hP hD hS => ?_)
  have hP : va_P D classes ([(h0, .inr (5, [.ref q1, .ref q2, .ref q3, .ref q4, .ref q5, .int cm, .int (stp + (1 : Int32)), .ref q6, .ref q7, .ref q8, .int mus, .int mc_, .int mb_, .ref q9])), (q6, .inl (ct.1, 6, .inr (.inl (vp_updL (vp_updL (vp_updL ax (1 : Int32).toNatClampNeg ((va + vb) - (k622_0 * vz))) (3 : Int32).toNatClampNeg (vx - (k622_0 * vy))) (5 : Int32).toNatClampNeg (vz - (((2 : Int64) * k622_0) * va))))))] ++ wt) H := hP
  have hD : va_D A ([(h0, .inr (5, [.ref q1, .ref q2, .ref q3, .ref q4, .ref q5, .int cm, .int (stp + (1 : Int32)), .ref q6, .ref q7, .ref q8, .int mus, .int mc_, .int mb_, .ref q9])), (q6, .inl (ct.1, 6, .inr (.inl (vp_updL (vp_updL (vp_updL ax (1 : Int32).toNatClampNeg ((va + vb) - (k622_0 * vz))) (3 : Int32).toNatClampNeg (vx - (k622_0 * vy))) (5 : Int32).toNatClampNeg (vz - (((2 : Int64) * k622_0) * va))))))] ++ wt) := hD
  refine lv_iconst (v := (1 : Int32)) hx hb d_M_goes_681 (by decide) ?_
  exact W.zret (v := (1 : Int32)) (ty := .boolean) hx hb hr rfl (fun t ht hW => ⟨⟨(1 : Int32), (vp_updL (vp_updL (vp_updL ax (1 : Int32).toNatClampNeg ((va + vb) - (k622_0 * vz))) (3 : Int32).toNatClampNeg (vx - (k622_0 * vy))) (5 : Int32).toNatClampNeg (vz - (((2 : Int64) * k622_0) * va)), stp + (1 : Int32)), rfl, (Option.some.inj h), by rw [ht]; exact hP, hD⟩, hS.F ht⟩) hS.2.2 d_M_goes_682
set_option maxHeartbeats 4000000 in
set_option maxRecDepth 100000 in
theorem J_M_goes_608 {p : Program} {l : Launch} {e : Env} {s : State} {m : MethodId} {below : List Frame} {meth : Method} {c : Code} {D : va_G} {ct : CT} {A : Nat → Prop} {wt : va_W} (h0 : Nat) (q1 : Nat) (q2 : Nat) (q3 : Nat) (q4 : Nat) (q5 : Nat) (q6 : Nat) (q7 : Nat) (q8 : Nat) (q9 : Nat) (cm : Int32) (mus : Int32) (mc_ : Int32) (mb_ : Int32) (r0 : Int32 × (Nat → Int64) × Int32) (hx : p.tables.exec = Jvm.exec) (hb : c.code = b_M_goes) (hr : meth.sig.returnType = (some .boolean)) (hml : c.maxLocals = 17) (hown : s.vm.findClass R_Model = some m.cls) (htg : ∀ w ∈ GW, w.before ([.ref h0] : List Value).toArray s = true) (hlocks : meth.locks = false) (hKK : KK D ct s) (hA : ∀ q : Nat, s.heap.size ≤ q → A q) : ∀ (va : Int64) (vb : Int64) (vc : Int64) (vx : Int64) (vy : Int64) (vz : Int64) (ax : Nat → Int64) (stp : Int32), jn_M_goes_608  va vb vc vx vy vz ax stp = some r0 → ∀ (H : Heap) (locs : List Loc), va_P D classes ([(h0, .inr (5, [.ref q1, .ref q2, .ref q3, .ref q4, .ref q5, .int cm, .int stp, .ref q6, .ref q7, .ref q8, .int mus, .int mc_, .int mb_, .ref q9])), (q6, .inl (ct.1, 6, .inr (.inl ax)))] ++ wt) H → va_D A ([(h0, .inr (5, [.ref q1, .ref q2, .ref q3, .ref q4, .ref q5, .int cm, .int stp, .ref q6, .ref q7, .ref q8, .int mus, .int mc_, .int mb_, .ref q9])), (q6, .inl (ct.1, 6, .inr (.inl ax)))] ++ wt) → va_S A s.heap H locs → ∀ (ls : Array Slot), lv_has ls 17 [(3, .long va), (5, .long vb), (7, .long vc), (9, .long vx), (11, .long vy), (13, .long vz), (0, .ref h0)] → W p l e (headSpec w_M_goes rm_M_goes).room s m ([.ref h0] : List Value).toArray below meth c H locs 0 0 (MQ below (va_Qi (fun r u => (r, u) = r0) (fun (u : (Nat → Int64) × Int32) t => match u with | (ax', stp') => va_P D classes ([(h0, .inr (5, [.ref q1, .ref q2, .ref q3, .ref q4, .ref q5, .int cm, .int stp', .ref q6, .ref q7, .ref q8, .int mus, .int mc_, .int mb_, .ref q9])), (q6, .inl (ct.1, 6, .inr (.inl ax')))] ++ wt) t.heap ∧ va_D A ([(h0, .inr (5, [.ref q1, .ref q2, .ref q3, .ref q4, .ref q5, .int cm, .int stp', .ref q6, .ref q7, .ref q8, .int mus, .int mc_, .int mb_, .ref q9])), (q6, .inl (ct.1, 6, .inr (.inl ax')))] ++ wt)) A) ([.ref h0] : List Value).toArray s 0 0 A) (F0 m 608 ls []) := by
  have hK := hKK.1
  have hN := hKK.2.1
  have hO := hKK.2.2
  intro va vb vc vx vy vz ax stp h H locs hP hD hS ls hl
  unfold jn_M_goes_608 at h
  refine lv_lload hx hb d_M_goes_608 (lv_at hl 5 rfl) ?_
  refine lv_lconst (v := (0 : Int64)) hx hb d_M_goes_610 (by decide) ?_
  refine W.lcmp hx hb d_M_goes_611 ?_
  refine lv_if_ge (tgt := 621) hx hb d_M_goes_612 (by decide) (fun c_39 => ?_) (fun c_39 => ?_)
  · rw [if_pos c_39] at h
    refine lv_lconst (v := (1 : Int64)) hx hb d_M_goes_621 (by decide) ?_
    exact J_M_goes_622 h0 q1 q2 q3 q4 q5 q6 q7 q8 q9 cm mus mc_ mb_ r0 hx hb hr hml hown htg hlocks hKK hA va vb vc vx vy vz (1 : Int64) ax stp h _ _ hP hD hS ls (lv_sub hl [0, 1, 2, 3, 4, 5, 6] rfl)
  · rw [if_neg c_39] at h
    refine lv_ldc2 (v := (-1 : Int64)) hx hb hown (htg _ tm_470) d_M_goes_615 ?_
    refine lv_goto (tgt := 622) hx hb d_M_goes_618 (by decide) ?_
    exact J_M_goes_622 h0 q1 q2 q3 q4 q5 q6 q7 q8 q9 cm mus mc_ mb_ r0 hx hb hr hml hown htg hlocks hKK hA va vb vc vx vy vz (-1 : Int64) ax stp h _ _ hP hD hS ls (lv_sub hl [0, 1, 2, 3, 4, 5, 6] rfl)
set_option maxHeartbeats 4000000 in
set_option maxRecDepth 100000 in
theorem J_M_goes_728 {p : Program} {l : Launch} {e : Env} {s : State} {m : MethodId} {below : List Frame} {meth : Method} {c : Code} {D : va_G} {ct : CT} {A : Nat → Prop} {wt : va_W} (h0 : Nat) (q1 : Nat) (q2 : Nat) (q3 : Nat) (q4 : Nat) (q5 : Nat) (q6 : Nat) (q7 : Nat) (q8 : Nat) (q9 : Nat) (cm : Int32) (mus : Int32) (mc_ : Int32) (mb_ : Int32) (r0 : Int32 × (Nat → Int64) × Int32) (hx : p.tables.exec = Jvm.exec) (hb : c.code = b_M_goes) (hr : meth.sig.returnType = (some .boolean)) (hml : c.maxLocals = 17) (hown : s.vm.findClass R_Model = some m.cls) (htg : ∀ w ∈ GW, w.before ([.ref h0] : List Value).toArray s = true) (hlocks : meth.locks = false) (hKK : KK D ct s) (hA : ∀ q : Nat, s.heap.size ≤ q → A q) : ∀ (va : Int64) (vb : Int64) (vc : Int64) (vx : Int64) (vy : Int64) (vz : Int64) (vs : Int64) (ax : Nat → Int64) (stp : Int32), jn_M_goes_728  va vb vc vx vy vz vs ax stp = some r0 → ∀ (H : Heap) (locs : List Loc), va_P D classes ([(h0, .inr (5, [.ref q1, .ref q2, .ref q3, .ref q4, .ref q5, .int cm, .int stp, .ref q6, .ref q7, .ref q8, .int mus, .int mc_, .int mb_, .ref q9])), (q6, .inl (ct.1, 6, .inr (.inl ax)))] ++ wt) H → va_D A ([(h0, .inr (5, [.ref q1, .ref q2, .ref q3, .ref q4, .ref q5, .int cm, .int stp, .ref q6, .ref q7, .ref q8, .int mus, .int mc_, .int mb_, .ref q9])), (q6, .inl (ct.1, 6, .inr (.inl ax)))] ++ wt) → va_S A s.heap H locs → ∀ (ls : Array Slot), lv_has ls 17 [(3, .long va), (5, .long vb), (7, .long vc), (9, .long vx), (11, .long vy), (13, .long vz), (15, .long vs), (0, .ref h0)] → W p l e (headSpec w_M_goes rm_M_goes).room s m ([.ref h0] : List Value).toArray below meth c H locs 0 0 (MQ below (va_Qi (fun r u => (r, u) = r0) (fun (u : (Nat → Int64) × Int32) t => match u with | (ax', stp') => va_P D classes ([(h0, .inr (5, [.ref q1, .ref q2, .ref q3, .ref q4, .ref q5, .int cm, .int stp', .ref q6, .ref q7, .ref q8, .int mus, .int mc_, .int mb_, .ref q9])), (q6, .inl (ct.1, 6, .inr (.inl ax')))] ++ wt) t.heap ∧ va_D A ([(h0, .inr (5, [.ref q1, .ref q2, .ref q3, .ref q4, .ref q5, .int cm, .int stp', .ref q6, .ref q7, .ref q8, .int mus, .int mc_, .int mb_, .ref q9])), (q6, .inl (ct.1, 6, .inr (.inl ax')))] ++ wt)) A) ([.ref h0] : List Value).toArray s 0 0 A) (F0 m 728 ls []) := by
  have hK := hKK.1
  have hN := hKK.2.1
  have hO := hKK.2.2
  intro va vb vc vx vy vz vs ax stp h H locs hP hD hS ls hl
  unfold jn_M_goes_728 at h
  refine lv_aload_n hx hb d_M_goes_728 rfl (lv_at hl 7 rfl) ?_
  refine va_get (D := D) (ci := 5) (v := .ref q6) (C := R_Model) (T := F_Model) (N := 14) hx hb htg i_Model hown hK hP 0 rfl rfl 7 (by decide) (htg _ tm_405) (fun _ h9 => h9) rfl d_M_goes_729 ?_
  refine lv_iconst (v := (2 : Int32)) hx hb d_M_goes_732 (by decide) ?_
  refine lv_lload hx hb d_M_goes_733 (lv_at hl 2 rfl) ?_
  refine lv_lload hx hb d_M_goes_735 (lv_at hl 6 rfl) ?_
  refine lv_ladd hx hb d_M_goes_737 ?_
  refine va_last hx hb hK hP hD hS 1 0 rfl rfl (i := (2 : Int32)) (inb_in ix_2_6) d_M_goes_738 (fun H locs hP hD hS => ?_)
  have hP : va_P D classes ([(h0, .inr (5, [.ref q1, .ref q2, .ref q3, .ref q4, .ref q5, .int cm, .int stp, .ref q6, .ref q7, .ref q8, .int mus, .int mc_, .int mb_, .ref q9])), (q6, .inl (ct.1, 6, .inr (.inl (vp_updL ax (2 : Int32).toNatClampNeg (vc + vs)))))] ++ wt) H := hP
  have hD : va_D A ([(h0, .inr (5, [.ref q1, .ref q2, .ref q3, .ref q4, .ref q5, .int cm, .int stp, .ref q6, .ref q7, .ref q8, .int mus, .int mc_, .int mb_, .ref q9])), (q6, .inl (ct.1, 6, .inr (.inl (vp_updL ax (2 : Int32).toNatClampNeg (vc + vs)))))] ++ wt) := hD
  refine lv_aload_n hx hb d_M_goes_739 rfl (lv_at hl 7 rfl) ?_
  refine va_get (D := D) (ci := 5) (v := .ref q6) (C := R_Model) (T := F_Model) (N := 14) hx hb htg i_Model hown hK hP 0 rfl rfl 7 (by decide) (htg _ tm_405) (fun _ h9 => h9) rfl d_M_goes_740 ?_
  refine lv_iconst (v := (3 : Int32)) hx hb d_M_goes_743 (by decide) ?_
  refine lv_ldc2 (v := (2 : Int64)) hx hb hown (htg _ tm_458) d_M_goes_744 ?_
  refine lv_lload hx hb d_M_goes_747 (lv_at hl 1 rfl) ?_
  refine lv_lmul hx hb d_M_goes_749 ?_
  refine lv_lload hx hb d_M_goes_750 (lv_at hl 3 rfl) ?_
  refine lv_ladd hx hb d_M_goes_752 ?_
  refine lv_lload hx hb d_M_goes_753 (lv_at hl 5 rfl) ?_
  refine lv_ladd hx hb d_M_goes_755 ?_
  refine va_last hx hb hK hP hD hS 1 0 rfl rfl (i := (3 : Int32)) (inb_in ix_3_6) d_M_goes_756 (fun H locs hP hD hS => ?_)
  have hP : va_P D classes ([(h0, .inr (5, [.ref q1, .ref q2, .ref q3, .ref q4, .ref q5, .int cm, .int stp, .ref q6, .ref q7, .ref q8, .int mus, .int mc_, .int mb_, .ref q9])), (q6, .inl (ct.1, 6, .inr (.inl (vp_updL (vp_updL ax (2 : Int32).toNatClampNeg (vc + vs)) (3 : Int32).toNatClampNeg ((((2 : Int64) * vb) + vx) + vz)))))] ++ wt) H := hP
  have hD : va_D A ([(h0, .inr (5, [.ref q1, .ref q2, .ref q3, .ref q4, .ref q5, .int cm, .int stp, .ref q6, .ref q7, .ref q8, .int mus, .int mc_, .int mb_, .ref q9])), (q6, .inl (ct.1, 6, .inr (.inl (vp_updL (vp_updL ax (2 : Int32).toNatClampNeg (vc + vs)) (3 : Int32).toNatClampNeg ((((2 : Int64) * vb) + vx) + vz)))))] ++ wt) := hD
  refine lv_aload_n hx hb d_M_goes_757 rfl (lv_at hl 7 rfl) ?_
  refine va_get (D := D) (ci := 5) (v := .ref q6) (C := R_Model) (T := F_Model) (N := 14) hx hb htg i_Model hown hK hP 0 rfl rfl 7 (by decide) (htg _ tm_405) (fun _ h9 => h9) rfl d_M_goes_758 ?_
  refine lv_iconst (v := (4 : Int32)) hx hb d_M_goes_761 (by decide) ?_
  refine lv_ldc2 (v := (2 : Int64)) hx hb hown (htg _ tm_458) d_M_goes_762 ?_
  refine lv_lload_n hx hb d_M_goes_765 rfl (lv_at hl 0 rfl) ?_
  refine lv_lmul hx hb d_M_goes_766 ?_
  refine lv_lload hx hb d_M_goes_767 (lv_at hl 4 rfl) ?_
  refine lv_ladd hx hb d_M_goes_769 ?_
  refine lv_lload hx hb d_M_goes_770 (lv_at hl 5 rfl) ?_
  refine lv_ladd hx hb d_M_goes_772 ?_
  refine va_last hx hb hK hP hD hS 1 0 rfl rfl (i := (4 : Int32)) (inb_in ix_4_6) d_M_goes_773 (fun H locs hP hD hS => ?_)
  have hP : va_P D classes ([(h0, .inr (5, [.ref q1, .ref q2, .ref q3, .ref q4, .ref q5, .int cm, .int stp, .ref q6, .ref q7, .ref q8, .int mus, .int mc_, .int mb_, .ref q9])), (q6, .inl (ct.1, 6, .inr (.inl (vp_updL (vp_updL (vp_updL ax (2 : Int32).toNatClampNeg (vc + vs)) (3 : Int32).toNatClampNeg ((((2 : Int64) * vb) + vx) + vz)) (4 : Int32).toNatClampNeg ((((2 : Int64) * va) + vy) + vz)))))] ++ wt) H := hP
  have hD : va_D A ([(h0, .inr (5, [.ref q1, .ref q2, .ref q3, .ref q4, .ref q5, .int cm, .int stp, .ref q6, .ref q7, .ref q8, .int mus, .int mc_, .int mb_, .ref q9])), (q6, .inl (ct.1, 6, .inr (.inl (vp_updL (vp_updL (vp_updL ax (2 : Int32).toNatClampNeg (vc + vs)) (3 : Int32).toNatClampNeg ((((2 : Int64) * vb) + vx) + vz)) (4 : Int32).toNatClampNeg ((((2 : Int64) * va) + vy) + vz)))))] ++ wt) := hD
  refine lv_aload_n hx hb d_M_goes_774 rfl (lv_at hl 7 rfl) ?_
  refine lv_dup hx hb d_M_goes_775 rfl ?_
  refine va_get (D := D) (ci := 5) (v := .int stp) (C := R_Model) (T := F_Model) (N := 14) hx hb htg i_Model hown hK hP 0 rfl rfl 6 (by decide) (htg _ tm_404) (fun _ h9 => h9) rfl d_M_goes_776 ?_
  refine lv_iconst (v := (1 : Int32)) hx hb d_M_goes_779 (by decide) ?_
  refine lv_iadd hx hb d_M_goes_780 ?_
  refine va_put (D := D) (ci := 5) (v := .int (stp + (1 : Int32))) (ty := .int) (C := R_Model) (T := F_Model) (N := 14) hx hb htg i_Model t_Model t_Model_ok n_Model hown hK hP hD hS 0 rfl rfl 6 (by decide) (htg _ tm_404) (fun _ h9 => h9) rfl (by decide +kernel) rfl rfl (Nat.le_of_ble_eq_true rfl) d_M_goes_781 (fun H locs hP hD hS => ?_)
  have hP : va_P D classes ([(h0, .inr (5, [.ref q1, .ref q2, .ref q3, .ref q4, .ref q5, .int cm, .int (stp + (1 : Int32)), .ref q6, .ref q7, .ref q8, .int mus, .int mc_, .int mb_, .ref q9])), (q6, .inl (ct.1, 6, .inr (.inl (vp_updL (vp_updL (vp_updL ax (2 : Int32).toNatClampNeg (vc + vs)) (3 : Int32).toNatClampNeg ((((2 : Int64) * vb) + vx) + vz)) (4 : Int32).toNatClampNeg ((((2 : Int64) * va) + vy) + vz)))))] ++ wt) H := hP
  have hD : va_D A ([(h0, .inr (5, [.ref q1, .ref q2, .ref q3, .ref q4, .ref q5, .int cm, .int (stp + (1 : Int32)), .ref q6, .ref q7, .ref q8, .int mus, .int mc_, .int mb_, .ref q9])), (q6, .inl (ct.1, 6, .inr (.inl (vp_updL (vp_updL (vp_updL ax (2 : Int32).toNatClampNeg (vc + vs)) (3 : Int32).toNatClampNeg ((((2 : Int64) * vb) + vx) + vz)) (4 : Int32).toNatClampNeg ((((2 : Int64) * va) + vy) + vz)))))] ++ wt) := hD
  refine lv_iconst (v := (1 : Int32)) hx hb d_M_goes_784 (by decide) ?_
  exact W.zret (v := (1 : Int32)) (ty := .boolean) hx hb hr rfl (fun t ht hW => ⟨⟨(1 : Int32), (vp_updL (vp_updL (vp_updL ax (2 : Int32).toNatClampNeg (vc + vs)) (3 : Int32).toNatClampNeg ((((2 : Int64) * vb) + vx) + vz)) (4 : Int32).toNatClampNeg ((((2 : Int64) * va) + vy) + vz), stp + (1 : Int32)), rfl, (Option.some.inj h), by rw [ht]; exact hP, hD⟩, hS.F ht⟩) hS.2.2 d_M_goes_785
set_option maxHeartbeats 4000000 in
set_option maxRecDepth 100000 in
theorem J_M_goes_786 {p : Program} {l : Launch} {e : Env} {s : State} {m : MethodId} {below : List Frame} {meth : Method} {c : Code} {D : va_G} {ct : CT} {A : Nat → Prop} {wt : va_W} (h0 : Nat) (q1 : Nat) (q2 : Nat) (q3 : Nat) (q4 : Nat) (q5 : Nat) (q6 : Nat) (q7 : Nat) (q8 : Nat) (q9 : Nat) (cm : Int32) (mus : Int32) (mc_ : Int32) (mb_ : Int32) (r0 : Int32 × (Nat → Int64) × Int32) (hx : p.tables.exec = Jvm.exec) (hb : c.code = b_M_goes) (hr : meth.sig.returnType = (some .boolean)) (hml : c.maxLocals = 17) (hown : s.vm.findClass R_Model = some m.cls) (htg : ∀ w ∈ GW, w.before ([.ref h0] : List Value).toArray s = true) (hlocks : meth.locks = false) (hKK : KK D ct s) (hA : ∀ q : Nat, s.heap.size ≤ q → A q) : ∀ (ax : Nat → Int64) (stp : Int32), jn_M_goes_786  ax stp = some r0 → ∀ (H : Heap) (locs : List Loc), va_P D classes ([(h0, .inr (5, [.ref q1, .ref q2, .ref q3, .ref q4, .ref q5, .int cm, .int stp, .ref q6, .ref q7, .ref q8, .int mus, .int mc_, .int mb_, .ref q9])), (q6, .inl (ct.1, 6, .inr (.inl ax)))] ++ wt) H → va_D A ([(h0, .inr (5, [.ref q1, .ref q2, .ref q3, .ref q4, .ref q5, .int cm, .int stp, .ref q6, .ref q7, .ref q8, .int mus, .int mc_, .int mb_, .ref q9])), (q6, .inl (ct.1, 6, .inr (.inl ax)))] ++ wt) → va_S A s.heap H locs → ∀ (ls : Array Slot), lv_has ls 17 [(0, .ref h0)] → W p l e (headSpec w_M_goes rm_M_goes).room s m ([.ref h0] : List Value).toArray below meth c H locs 0 0 (MQ below (va_Qi (fun r u => (r, u) = r0) (fun (u : (Nat → Int64) × Int32) t => match u with | (ax', stp') => va_P D classes ([(h0, .inr (5, [.ref q1, .ref q2, .ref q3, .ref q4, .ref q5, .int cm, .int stp', .ref q6, .ref q7, .ref q8, .int mus, .int mc_, .int mb_, .ref q9])), (q6, .inl (ct.1, 6, .inr (.inl ax')))] ++ wt) t.heap ∧ va_D A ([(h0, .inr (5, [.ref q1, .ref q2, .ref q3, .ref q4, .ref q5, .int cm, .int stp', .ref q6, .ref q7, .ref q8, .int mus, .int mc_, .int mb_, .ref q9])), (q6, .inl (ct.1, 6, .inr (.inl ax')))] ++ wt)) A) ([.ref h0] : List Value).toArray s 0 0 A) (F0 m 786 ls []) := by
  have hK := hKK.1
  have hN := hKK.2.1
  have hO := hKK.2.2
  intro ax stp h H locs hP hD hS ls hl
  unfold jn_M_goes_786 at h
  refine lv_iconst (v := (0 : Int32)) hx hb d_M_goes_786 (by decide) ?_
  exact W.zret (v := (0 : Int32)) (ty := .boolean) hx hb hr rfl (fun t ht hW => ⟨⟨(0 : Int32), (ax, stp), rfl, (Option.some.inj h), by rw [ht]; exact hP, hD⟩, hS.F ht⟩) hS.2.2 d_M_goes_787
set_option maxHeartbeats 4000000 in
set_option maxRecDepth 100000 in
theorem J_M_goes_683 {p : Program} {l : Launch} {e : Env} {s : State} {m : MethodId} {below : List Frame} {meth : Method} {c : Code} {D : va_G} {ct : CT} {A : Nat → Prop} {wt : va_W} (h0 : Nat) (q1 : Nat) (q2 : Nat) (q3 : Nat) (q4 : Nat) (q5 : Nat) (q6 : Nat) (q7 : Nat) (q8 : Nat) (q9 : Nat) (cm : Int32) (mus : Int32) (mc_ : Int32) (mb_ : Int32) (r0 : Int32 × (Nat → Int64) × Int32) (hx : p.tables.exec = Jvm.exec) (hb : c.code = b_M_goes) (hr : meth.sig.returnType = (some .boolean)) (hml : c.maxLocals = 17) (hown : s.vm.findClass R_Model = some m.cls) (htg : ∀ w ∈ GW, w.before ([.ref h0] : List Value).toArray s = true) (hlocks : meth.locks = false) (hKK : KK D ct s) (hA : ∀ q : Nat, s.heap.size ≤ q → A q) : ∀ (va : Int64) (vb : Int64) (vc : Int64) (vx : Int64) (vy : Int64) (vz : Int64) (ax : Nat → Int64) (stp : Int32), jn_M_goes_683  va vb vc vx vy vz ax stp = some r0 → ∀ (H : Heap) (locs : List Loc), va_P D classes ([(h0, .inr (5, [.ref q1, .ref q2, .ref q3, .ref q4, .ref q5, .int cm, .int stp, .ref q6, .ref q7, .ref q8, .int mus, .int mc_, .int mb_, .ref q9])), (q6, .inl (ct.1, 6, .inr (.inl ax)))] ++ wt) H → va_D A ([(h0, .inr (5, [.ref q1, .ref q2, .ref q3, .ref q4, .ref q5, .int cm, .int stp, .ref q6, .ref q7, .ref q8, .int mus, .int mc_, .int mb_, .ref q9])), (q6, .inl (ct.1, 6, .inr (.inl ax)))] ++ wt) → va_S A s.heap H locs → ∀ (ls : Array Slot), lv_has ls 17 [(3, .long va), (5, .long vb), (7, .long vc), (9, .long vx), (11, .long vy), (13, .long vz), (0, .ref h0)] → W p l e (headSpec w_M_goes rm_M_goes).room s m ([.ref h0] : List Value).toArray below meth c H locs 0 0 (MQ below (va_Qi (fun r u => (r, u) = r0) (fun (u : (Nat → Int64) × Int32) t => match u with | (ax', stp') => va_P D classes ([(h0, .inr (5, [.ref q1, .ref q2, .ref q3, .ref q4, .ref q5, .int cm, .int stp', .ref q6, .ref q7, .ref q8, .int mus, .int mc_, .int mb_, .ref q9])), (q6, .inl (ct.1, 6, .inr (.inl ax')))] ++ wt) t.heap ∧ va_D A ([(h0, .inr (5, [.ref q1, .ref q2, .ref q3, .ref q4, .ref q5, .int cm, .int stp', .ref q6, .ref q7, .ref q8, .int mus, .int mc_, .int mb_, .ref q9])), (q6, .inl (ct.1, 6, .inr (.inl ax')))] ++ wt)) A) ([.ref h0] : List Value).toArray s 0 0 A) (F0 m 683 ls []) := by
  have hK := hKK.1
  have hN := hKK.2.1
  have hO := hKK.2.2
  intro va vb vc vx vy vz ax stp h H locs hP hD hS ls hl
  unfold jn_M_goes_683 at h
  refine lv_lload hx hb d_M_goes_683 (lv_at hl 3 rfl) ?_
  refine lv_lload hx hb d_M_goes_685 (lv_at hl 4 rfl) ?_
  refine lv_ladd hx hb d_M_goes_687 ?_
  refine lv_lload hx hb d_M_goes_688 (lv_at hl 5 rfl) ?_
  refine lv_ladd hx hb d_M_goes_690 ?_
  refine lv_lload_n hx hb d_M_goes_691 rfl (lv_at hl 0 rfl) ?_
  refine lv_ladd hx hb d_M_goes_692 ?_
  refine lv_lload hx hb d_M_goes_693 (lv_at hl 1 rfl) ?_
  refine lv_ladd hx hb d_M_goes_695 ?_
  refine lv_lstore (lv' := [(15, .long ((((vx + vy) + vz) + va) + vb)), (3, .long va), (5, .long vb), (7, .long vc), (9, .long vx), (11, .long vy), (13, .long vz), (0, .ref h0)]) hx hb d_M_goes_696 hl (by decide) rfl (fun ls hl => ?_)
  refine lv_lload hx hb d_M_goes_698 (lv_at hl 0 rfl) ?_
  refine lv_lconst (v := (0 : Int64)) hx hb d_M_goes_700 (by decide) ?_
  refine W.lcmp hx hb d_M_goes_701 ?_
  refine lv_if_lt (tgt := 728) hx hb d_M_goes_702 (by decide) (fun c_42 => ?_) (fun c_42 => ?_)
  · rw [if_pos c_42] at h
    exact J_M_goes_728 h0 q1 q2 q3 q4 q5 q6 q7 q8 q9 cm mus mc_ mb_ r0 hx hb hr hml hown htg hlocks hKK hA va vb vc vx vy vz ((((vx + vy) + vz) + va) + vb) ax stp h _ _ hP hD hS ls (lv_sub hl [1, 2, 3, 4, 5, 6, 0, 7] rfl)
  · rw [if_neg c_42] at h
    refine lv_lload hx hb d_M_goes_705 (lv_at hl 0 rfl) ?_
    refine lv_lconst (v := (0 : Int64)) hx hb d_M_goes_707 (by decide) ?_
    refine W.lcmp hx hb d_M_goes_708 ?_
    refine lv_if_ne (tgt := 786) hx hb d_M_goes_709 (by decide) (fun c_43 => ?_) (fun c_43 => ?_)
    · rw [if_neg c_43] at h
      exact J_M_goes_786 h0 q1 q2 q3 q4 q5 q6 q7 q8 q9 cm mus mc_ mb_ r0 hx hb hr hml hown htg hlocks hKK hA ax stp h _ _ hP hD hS ls (lv_sub hl [7] rfl)
    · rw [if_pos c_43] at h
      refine lv_ldc2 (v := (2 : Int64)) hx hb hown (htg _ tm_458) d_M_goes_712 ?_
      refine lv_lload_n hx hb d_M_goes_715 rfl (lv_at hl 1 rfl) ?_
      refine lv_lload hx hb d_M_goes_716 (lv_at hl 5 rfl) ?_
      refine lv_ladd hx hb d_M_goes_718 ?_
      refine lv_lmul hx hb d_M_goes_719 ?_
      refine lv_lload hx hb d_M_goes_720 (lv_at hl 6 rfl) ?_
      refine lv_ladd hx hb d_M_goes_722 ?_
      refine lv_lconst (v := (0 : Int64)) hx hb d_M_goes_723 (by decide) ?_
      refine W.lcmp hx hb d_M_goes_724 ?_
      refine lv_if_le (tgt := 786) hx hb d_M_goes_725 (by decide) (fun c_44 => ?_) (fun c_44 => ?_)
      · rw [if_pos c_44] at h
        exact J_M_goes_786 h0 q1 q2 q3 q4 q5 q6 q7 q8 q9 cm mus mc_ mb_ r0 hx hb hr hml hown htg hlocks hKK hA ax stp h _ _ hP hD hS ls (lv_sub hl [7] rfl)
      · rw [if_neg c_44] at h
        exact J_M_goes_728 h0 q1 q2 q3 q4 q5 q6 q7 q8 q9 cm mus mc_ mb_ r0 hx hb hr hml hown htg hlocks hKK hA va vb vc vx vy vz ((((vx + vy) + vz) + va) + vb) ax stp h _ _ hP hD hS ls (lv_sub hl [1, 2, 3, 4, 5, 6, 0, 7] rfl)
set_option maxHeartbeats 4000000 in
set_option maxRecDepth 100000 in
theorem J_M_goes_564 {p : Program} {l : Launch} {e : Env} {s : State} {m : MethodId} {below : List Frame} {meth : Method} {c : Code} {D : va_G} {ct : CT} {A : Nat → Prop} {wt : va_W} (h0 : Nat) (q1 : Nat) (q2 : Nat) (q3 : Nat) (q4 : Nat) (q5 : Nat) (q6 : Nat) (q7 : Nat) (q8 : Nat) (q9 : Nat) (cm : Int32) (mus : Int32) (mc_ : Int32) (mb_ : Int32) (r0 : Int32 × (Nat → Int64) × Int32) (hx : p.tables.exec = Jvm.exec) (hb : c.code = b_M_goes) (hr : meth.sig.returnType = (some .boolean)) (hml : c.maxLocals = 17) (hown : s.vm.findClass R_Model = some m.cls) (htg : ∀ w ∈ GW, w.before ([.ref h0] : List Value).toArray s = true) (hlocks : meth.locks = false) (hKK : KK D ct s) (hA : ∀ q : Nat, s.heap.size ≤ q → A q) : ∀ (va : Int64) (vb : Int64) (vc : Int64) (vx : Int64) (vy : Int64) (vz : Int64) (ax : Nat → Int64) (stp : Int32), jn_M_goes_564  va vb vc vx vy vz ax stp = some r0 → ∀ (H : Heap) (locs : List Loc), va_P D classes ([(h0, .inr (5, [.ref q1, .ref q2, .ref q3, .ref q4, .ref q5, .int cm, .int stp, .ref q6, .ref q7, .ref q8, .int mus, .int mc_, .int mb_, .ref q9])), (q6, .inl (ct.1, 6, .inr (.inl ax)))] ++ wt) H → va_D A ([(h0, .inr (5, [.ref q1, .ref q2, .ref q3, .ref q4, .ref q5, .int cm, .int stp, .ref q6, .ref q7, .ref q8, .int mus, .int mc_, .int mb_, .ref q9])), (q6, .inl (ct.1, 6, .inr (.inl ax)))] ++ wt) → va_S A s.heap H locs → ∀ (ls : Array Slot), lv_has ls 17 [(3, .long va), (5, .long vb), (7, .long vc), (9, .long vx), (11, .long vy), (13, .long vz), (0, .ref h0)] → W p l e (headSpec w_M_goes rm_M_goes).room s m ([.ref h0] : List Value).toArray below meth c H locs 0 0 (MQ below (va_Qi (fun r u => (r, u) = r0) (fun (u : (Nat → Int64) × Int32) t => match u with | (ax', stp') => va_P D classes ([(h0, .inr (5, [.ref q1, .ref q2, .ref q3, .ref q4, .ref q5, .int cm, .int stp', .ref q6, .ref q7, .ref q8, .int mus, .int mc_, .int mb_, .ref q9])), (q6, .inl (ct.1, 6, .inr (.inl ax')))] ++ wt) t.heap ∧ va_D A ([(h0, .inr (5, [.ref q1, .ref q2, .ref q3, .ref q4, .ref q5, .int cm, .int stp', .ref q6, .ref q7, .ref q8, .int mus, .int mc_, .int mb_, .ref q9])), (q6, .inl (ct.1, 6, .inr (.inl ax')))] ++ wt)) A) ([.ref h0] : List Value).toArray s 0 0 A) (F0 m 564 ls []) := by
  have hK := hKK.1
  have hN := hKK.2.1
  have hO := hKK.2.2
  intro va vb vc vx vy vz ax stp h H locs hP hD hS ls hl
  unfold jn_M_goes_564 at h
  refine lv_lload hx hb d_M_goes_564 (lv_at hl 5 rfl) ?_
  refine vp_callSl (va_Run.run (va_runS (As := [.long vz]) (rest := []) ⟨hx, hb, hml, hown, htg⟩ (c_M_size l D ct ([(h0, .inr (5, [.ref q1, .ref q2, .ref q3, .ref q4, .ref q5, .int cm, .int stp, .ref q6, .ref q7, .ref q8, .int mus, .int mc_, .int mb_, .ref q9])), (q6, .inl (ct.1, 6, .inr (.inl ax)))] ++ wt)  vz   _ rfl) (cwS 1 htg (giS tm_463 tm_464 tm_34 g_M_size) rfl rfl rfl (by decide +kernel) ⟨Nat.le_of_ble_eq_true rfl, Nat.le_of_ble_eq_true rfl⟩) (preS hP hKK) rfl rfl hl.1 rfl (lv_room (Nat.le_of_ble_eq_true rfl)) d_M_goes_566 ⟨Nat.le_of_ble_eq_true rfl, Nat.le_of_ble_eq_true rfl⟩)) (fun r9 hr9 => ?_)
  have hr9 := hr9.symm
  subst hr9
  refine lv_lload_n hx hb d_M_goes_569 rfl (lv_at hl 0 rfl) ?_
  refine W.lcmp hx hb d_M_goes_570 ?_
  refine lv_if_gt (tgt := 608) hx hb d_M_goes_571 (by decide) (fun c_38 => ?_) (fun c_38 => ?_)
  · rw [if_pos c_38] at h
    exact J_M_goes_608 h0 q1 q2 q3 q4 q5 q6 q7 q8 q9 cm mus mc_ mb_ r0 hx hb hr hml hown htg hlocks hKK hA va vb vc vx vy vz ax stp h _ _ hP hD hS ls (lv_sub hl [0, 1, 2, 3, 4, 5, 6] rfl)
  · rw [if_neg c_38] at h
    refine lv_lload hx hb d_M_goes_574 (lv_at hl 5 rfl) ?_
    refine lv_lload_n hx hb d_M_goes_576 rfl (lv_at hl 0 rfl) ?_
    refine W.lcmp hx hb d_M_goes_577 ?_
    refine lv_if_ne (tgt := 593) hx hb d_M_goes_578 (by decide) (fun c_40 => ?_) (fun c_40 => ?_)
    · rw [if_neg c_40] at h
      refine lv_lload hx hb d_M_goes_593 (lv_at hl 5 rfl) ?_
      refine lv_lload_n hx hb d_M_goes_595 rfl (lv_at hl 0 rfl) ?_
      refine lv_lneg hx hb d_M_goes_596 ?_
      refine W.lcmp hx hb d_M_goes_597 ?_
      refine lv_if_ne (tgt := 683) hx hb d_M_goes_598 (by decide) (fun c_41 => ?_) (fun c_41 => ?_)
      · rw [if_neg c_41] at h
        exact J_M_goes_683 h0 q1 q2 q3 q4 q5 q6 q7 q8 q9 cm mus mc_ mb_ r0 hx hb hr hml hown htg hlocks hKK hA va vb vc vx vy vz ax stp h _ _ hP hD hS ls (lv_sub hl [0, 1, 2, 3, 4, 5, 6] rfl)
      · rw [if_pos c_41] at h
        refine lv_lload hx hb d_M_goes_601 (lv_at hl 4 rfl) ?_
        refine lv_lconst (v := (0 : Int64)) hx hb d_M_goes_603 (by decide) ?_
        refine W.lcmp hx hb d_M_goes_604 ?_
        refine lv_if_ge (tgt := 683) hx hb d_M_goes_605 (by decide) (fun c_45 => ?_) (fun c_45 => ?_)
        · rw [if_pos c_45] at h
          exact J_M_goes_683 h0 q1 q2 q3 q4 q5 q6 q7 q8 q9 cm mus mc_ mb_ r0 hx hb hr hml hown htg hlocks hKK hA va vb vc vx vy vz ax stp h _ _ hP hD hS ls (lv_sub hl [0, 1, 2, 3, 4, 5, 6] rfl)
        · rw [if_neg c_45] at h
          exact J_M_goes_608 h0 q1 q2 q3 q4 q5 q6 q7 q8 q9 cm mus mc_ mb_ r0 hx hb hr hml hown htg hlocks hKK hA va vb vc vx vy vz ax stp h _ _ hP hD hS ls (lv_sub hl [0, 1, 2, 3, 4, 5, 6] rfl)
    · rw [if_pos c_40] at h
      refine lv_ldc2 (v := (2 : Int64)) hx hb hown (htg _ tm_458) d_M_goes_581 ?_
      refine lv_lload hx hb d_M_goes_584 (lv_at hl 3 rfl) ?_
      refine lv_lmul hx hb d_M_goes_586 ?_
      refine lv_lload hx hb d_M_goes_587 (lv_at hl 4 rfl) ?_
      refine W.lcmp hx hb d_M_goes_589 ?_
      refine lv_if_lt (tgt := 608) hx hb d_M_goes_590 (by decide) (fun c_46 => ?_) (fun c_46 => ?_)
      · rw [if_pos c_46] at h
        exact J_M_goes_608 h0 q1 q2 q3 q4 q5 q6 q7 q8 q9 cm mus mc_ mb_ r0 hx hb hr hml hown htg hlocks hKK hA va vb vc vx vy vz ax stp h _ _ hP hD hS ls (lv_sub hl [0, 1, 2, 3, 4, 5, 6] rfl)
      · rw [if_neg c_46] at h
        refine lv_lload hx hb d_M_goes_593 (lv_at hl 5 rfl) ?_
        refine lv_lload_n hx hb d_M_goes_595 rfl (lv_at hl 0 rfl) ?_
        refine lv_lneg hx hb d_M_goes_596 ?_
        refine W.lcmp hx hb d_M_goes_597 ?_
        refine lv_if_ne (tgt := 683) hx hb d_M_goes_598 (by decide) (fun c_47 => ?_) (fun c_47 => ?_)
        · rw [if_neg c_47] at h
          exact J_M_goes_683 h0 q1 q2 q3 q4 q5 q6 q7 q8 q9 cm mus mc_ mb_ r0 hx hb hr hml hown htg hlocks hKK hA va vb vc vx vy vz ax stp h _ _ hP hD hS ls (lv_sub hl [0, 1, 2, 3, 4, 5, 6] rfl)
        · rw [if_pos c_47] at h
          refine lv_lload hx hb d_M_goes_601 (lv_at hl 4 rfl) ?_
          refine lv_lconst (v := (0 : Int64)) hx hb d_M_goes_603 (by decide) ?_
          refine W.lcmp hx hb d_M_goes_604 ?_
          refine lv_if_ge (tgt := 683) hx hb d_M_goes_605 (by decide) (fun c_48 => ?_) (fun c_48 => ?_)
          · rw [if_pos c_48] at h
            exact J_M_goes_683 h0 q1 q2 q3 q4 q5 q6 q7 q8 q9 cm mus mc_ mb_ r0 hx hb hr hml hown htg hlocks hKK hA va vb vc vx vy vz ax stp h _ _ hP hD hS ls (lv_sub hl [0, 1, 2, 3, 4, 5, 6] rfl)
          · rw [if_neg c_48] at h
            exact J_M_goes_608 h0 q1 q2 q3 q4 q5 q6 q7 q8 q9 cm mus mc_ mb_ r0 hx hb hr hml hown htg hlocks hKK hA va vb vc vx vy vz ax stp h _ _ hP hD hS ls (lv_sub hl [0, 1, 2, 3, 4, 5, 6] rfl)
set_option maxHeartbeats 4000000 in
set_option maxRecDepth 100000 in
theorem J_M_goes_445 {p : Program} {l : Launch} {e : Env} {s : State} {m : MethodId} {below : List Frame} {meth : Method} {c : Code} {D : va_G} {ct : CT} {A : Nat → Prop} {wt : va_W} (h0 : Nat) (q1 : Nat) (q2 : Nat) (q3 : Nat) (q4 : Nat) (q5 : Nat) (q6 : Nat) (q7 : Nat) (q8 : Nat) (q9 : Nat) (cm : Int32) (mus : Int32) (mc_ : Int32) (mb_ : Int32) (r0 : Int32 × (Nat → Int64) × Int32) (hx : p.tables.exec = Jvm.exec) (hb : c.code = b_M_goes) (hr : meth.sig.returnType = (some .boolean)) (hml : c.maxLocals = 17) (hown : s.vm.findClass R_Model = some m.cls) (htg : ∀ w ∈ GW, w.before ([.ref h0] : List Value).toArray s = true) (hlocks : meth.locks = false) (hKK : KK D ct s) (hA : ∀ q : Nat, s.heap.size ≤ q → A q) : ∀ (va : Int64) (vb : Int64) (vc : Int64) (vx : Int64) (vy : Int64) (vz : Int64) (ax : Nat → Int64) (stp : Int32), jn_M_goes_445  va vb vc vx vy vz ax stp = some r0 → ∀ (H : Heap) (locs : List Loc), va_P D classes ([(h0, .inr (5, [.ref q1, .ref q2, .ref q3, .ref q4, .ref q5, .int cm, .int stp, .ref q6, .ref q7, .ref q8, .int mus, .int mc_, .int mb_, .ref q9])), (q6, .inl (ct.1, 6, .inr (.inl ax)))] ++ wt) H → va_D A ([(h0, .inr (5, [.ref q1, .ref q2, .ref q3, .ref q4, .ref q5, .int cm, .int stp, .ref q6, .ref q7, .ref q8, .int mus, .int mc_, .int mb_, .ref q9])), (q6, .inl (ct.1, 6, .inr (.inl ax)))] ++ wt) → va_S A s.heap H locs → ∀ (ls : Array Slot), lv_has ls 17 [(3, .long va), (5, .long vb), (7, .long vc), (9, .long vx), (11, .long vy), (13, .long vz), (0, .ref h0)] → W p l e (headSpec w_M_goes rm_M_goes).room s m ([.ref h0] : List Value).toArray below meth c H locs 0 0 (MQ below (va_Qi (fun r u => (r, u) = r0) (fun (u : (Nat → Int64) × Int32) t => match u with | (ax', stp') => va_P D classes ([(h0, .inr (5, [.ref q1, .ref q2, .ref q3, .ref q4, .ref q5, .int cm, .int stp', .ref q6, .ref q7, .ref q8, .int mus, .int mc_, .int mb_, .ref q9])), (q6, .inl (ct.1, 6, .inr (.inl ax')))] ++ wt) t.heap ∧ va_D A ([(h0, .inr (5, [.ref q1, .ref q2, .ref q3, .ref q4, .ref q5, .int cm, .int stp', .ref q6, .ref q7, .ref q8, .int mus, .int mc_, .int mb_, .ref q9])), (q6, .inl (ct.1, 6, .inr (.inl ax')))] ++ wt)) A) ([.ref h0] : List Value).toArray s 0 0 A) (F0 m 445 ls []) := by
  have hK := hKK.1
  have hN := hKK.2.1
  have hO := hKK.2.2
  intro va vb vc vx vy vz ax stp h H locs hP hD hS ls hl
  unfold jn_M_goes_445 at h
  refine lv_lload hx hb d_M_goes_445 (lv_at hl 4 rfl) ?_
  refine vp_callSl (va_Run.run (va_runS (As := [.long vy]) (rest := []) ⟨hx, hb, hml, hown, htg⟩ (c_M_size l D ct ([(h0, .inr (5, [.ref q1, .ref q2, .ref q3, .ref q4, .ref q5, .int cm, .int stp, .ref q6, .ref q7, .ref q8, .int mus, .int mc_, .int mb_, .ref q9])), (q6, .inl (ct.1, 6, .inr (.inl ax)))] ++ wt)  vy   _ rfl) (cwS 1 htg (giS tm_463 tm_464 tm_34 g_M_size) rfl rfl rfl (by decide +kernel) ⟨Nat.le_of_ble_eq_true rfl, Nat.le_of_ble_eq_true rfl⟩) (preS hP hKK) rfl rfl hl.1 rfl (lv_room (Nat.le_of_ble_eq_true rfl)) d_M_goes_447 ⟨Nat.le_of_ble_eq_true rfl, Nat.le_of_ble_eq_true rfl⟩)) (fun r9 hr9 => ?_)
  have hr9 := hr9.symm
  subst hr9
  refine lv_lload_n hx hb d_M_goes_450 rfl (lv_at hl 0 rfl) ?_
  refine W.lcmp hx hb d_M_goes_451 ?_
  refine lv_if_gt (tgt := 489) hx hb d_M_goes_452 (by decide) (fun c_34 => ?_) (fun c_34 => ?_)
  · rw [if_pos c_34] at h
    exact J_M_goes_489 h0 q1 q2 q3 q4 q5 q6 q7 q8 q9 cm mus mc_ mb_ r0 hx hb hr hml hown htg hlocks hKK hA va vb vc vx vy vz ax stp h _ _ hP hD hS ls (lv_sub hl [0, 1, 2, 3, 4, 5, 6] rfl)
  · rw [if_neg c_34] at h
    refine lv_lload hx hb d_M_goes_455 (lv_at hl 4 rfl) ?_
    refine lv_lload_n hx hb d_M_goes_457 rfl (lv_at hl 0 rfl) ?_
    refine W.lcmp hx hb d_M_goes_458 ?_
    refine lv_if_ne (tgt := 474) hx hb d_M_goes_459 (by decide) (fun c_36 => ?_) (fun c_36 => ?_)
    · rw [if_neg c_36] at h
      refine lv_lload hx hb d_M_goes_474 (lv_at hl 4 rfl) ?_
      refine lv_lload_n hx hb d_M_goes_476 rfl (lv_at hl 0 rfl) ?_
      refine lv_lneg hx hb d_M_goes_477 ?_
      refine W.lcmp hx hb d_M_goes_478 ?_
      refine lv_if_ne (tgt := 564) hx hb d_M_goes_479 (by decide) (fun c_37 => ?_) (fun c_37 => ?_)
      · rw [if_neg c_37] at h
        exact J_M_goes_564 h0 q1 q2 q3 q4 q5 q6 q7 q8 q9 cm mus mc_ mb_ r0 hx hb hr hml hown htg hlocks hKK hA va vb vc vx vy vz ax stp h _ _ hP hD hS ls (lv_sub hl [0, 1, 2, 3, 4, 5, 6] rfl)
      · rw [if_pos c_37] at h
        refine lv_lload hx hb d_M_goes_482 (lv_at hl 5 rfl) ?_
        refine lv_lconst (v := (0 : Int64)) hx hb d_M_goes_484 (by decide) ?_
        refine W.lcmp hx hb d_M_goes_485 ?_
        refine lv_if_ge (tgt := 564) hx hb d_M_goes_486 (by decide) (fun c_49 => ?_) (fun c_49 => ?_)
        · rw [if_pos c_49] at h
          exact J_M_goes_564 h0 q1 q2 q3 q4 q5 q6 q7 q8 q9 cm mus mc_ mb_ r0 hx hb hr hml hown htg hlocks hKK hA va vb vc vx vy vz ax stp h _ _ hP hD hS ls (lv_sub hl [0, 1, 2, 3, 4, 5, 6] rfl)
        · rw [if_neg c_49] at h
          exact J_M_goes_489 h0 q1 q2 q3 q4 q5 q6 q7 q8 q9 cm mus mc_ mb_ r0 hx hb hr hml hown htg hlocks hKK hA va vb vc vx vy vz ax stp h _ _ hP hD hS ls (lv_sub hl [0, 1, 2, 3, 4, 5, 6] rfl)
    · rw [if_pos c_36] at h
      refine lv_ldc2 (v := (2 : Int64)) hx hb hown (htg _ tm_458) d_M_goes_462 ?_
      refine lv_lload hx hb d_M_goes_465 (lv_at hl 3 rfl) ?_
      refine lv_lmul hx hb d_M_goes_467 ?_
      refine lv_lload hx hb d_M_goes_468 (lv_at hl 5 rfl) ?_
      refine W.lcmp hx hb d_M_goes_470 ?_
      refine lv_if_lt (tgt := 489) hx hb d_M_goes_471 (by decide) (fun c_50 => ?_) (fun c_50 => ?_)
      · rw [if_pos c_50] at h
        exact J_M_goes_489 h0 q1 q2 q3 q4 q5 q6 q7 q8 q9 cm mus mc_ mb_ r0 hx hb hr hml hown htg hlocks hKK hA va vb vc vx vy vz ax stp h _ _ hP hD hS ls (lv_sub hl [0, 1, 2, 3, 4, 5, 6] rfl)
      · rw [if_neg c_50] at h
        refine lv_lload hx hb d_M_goes_474 (lv_at hl 4 rfl) ?_
        refine lv_lload_n hx hb d_M_goes_476 rfl (lv_at hl 0 rfl) ?_
        refine lv_lneg hx hb d_M_goes_477 ?_
        refine W.lcmp hx hb d_M_goes_478 ?_
        refine lv_if_ne (tgt := 564) hx hb d_M_goes_479 (by decide) (fun c_51 => ?_) (fun c_51 => ?_)
        · rw [if_neg c_51] at h
          exact J_M_goes_564 h0 q1 q2 q3 q4 q5 q6 q7 q8 q9 cm mus mc_ mb_ r0 hx hb hr hml hown htg hlocks hKK hA va vb vc vx vy vz ax stp h _ _ hP hD hS ls (lv_sub hl [0, 1, 2, 3, 4, 5, 6] rfl)
        · rw [if_pos c_51] at h
          refine lv_lload hx hb d_M_goes_482 (lv_at hl 5 rfl) ?_
          refine lv_lconst (v := (0 : Int64)) hx hb d_M_goes_484 (by decide) ?_
          refine W.lcmp hx hb d_M_goes_485 ?_
          refine lv_if_ge (tgt := 564) hx hb d_M_goes_486 (by decide) (fun c_52 => ?_) (fun c_52 => ?_)
          · rw [if_pos c_52] at h
            exact J_M_goes_564 h0 q1 q2 q3 q4 q5 q6 q7 q8 q9 cm mus mc_ mb_ r0 hx hb hr hml hown htg hlocks hKK hA va vb vc vx vy vz ax stp h _ _ hP hD hS ls (lv_sub hl [0, 1, 2, 3, 4, 5, 6] rfl)
          · rw [if_neg c_52] at h
            exact J_M_goes_489 h0 q1 q2 q3 q4 q5 q6 q7 q8 q9 cm mus mc_ mb_ r0 hx hb hr hml hown htg hlocks hKK hA va vb vc vx vy vz ax stp h _ _ hP hD hS ls (lv_sub hl [0, 1, 2, 3, 4, 5, 6] rfl)
set_option maxHeartbeats 4000000 in
set_option maxRecDepth 100000 in
theorem J_M_goes_227 {p : Program} {l : Launch} {e : Env} {s : State} {m : MethodId} {below : List Frame} {meth : Method} {c : Code} {D : va_G} {ct : CT} {A : Nat → Prop} {wt : va_W} (h0 : Nat) (q1 : Nat) (q2 : Nat) (q3 : Nat) (q4 : Nat) (q5 : Nat) (q6 : Nat) (q7 : Nat) (q8 : Nat) (q9 : Nat) (cm : Int32) (mus : Int32) (mc_ : Int32) (mb_ : Int32) (r0 : Int32 × (Nat → Int64) × Int32) (hx : p.tables.exec = Jvm.exec) (hb : c.code = b_M_goes) (hr : meth.sig.returnType = (some .boolean)) (hml : c.maxLocals = 17) (hown : s.vm.findClass R_Model = some m.cls) (htg : ∀ w ∈ GW, w.before ([.ref h0] : List Value).toArray s = true) (hlocks : meth.locks = false) (hKK : KK D ct s) (hA : ∀ q : Nat, s.heap.size ≤ q → A q) : ∀ (od : Int32) (k227_0 : Int32) (ax : Nat → Int64) (stp : Int32), jn_M_goes_227  od k227_0 ax stp = some r0 → ∀ (H : Heap) (locs : List Loc), va_P D classes ([(h0, .inr (5, [.ref q1, .ref q2, .ref q3, .ref q4, .ref q5, .int cm, .int stp, .ref q6, .ref q7, .ref q8, .int mus, .int mc_, .int mb_, .ref q9])), (q6, .inl (ct.1, 6, .inr (.inl ax)))] ++ wt) H → va_D A ([(h0, .inr (5, [.ref q1, .ref q2, .ref q3, .ref q4, .ref q5, .int cm, .int stp, .ref q6, .ref q7, .ref q8, .int mus, .int mc_, .int mb_, .ref q9])), (q6, .inl (ct.1, 6, .inr (.inl ax)))] ++ wt) → va_S A s.heap H locs → ∀ (ls : Array Slot), lv_has ls 17 [(1, .int od), (0, .ref h0)] → W p l e (headSpec w_M_goes rm_M_goes).room s m ([.ref h0] : List Value).toArray below meth c H locs 0 0 (MQ below (va_Qi (fun r u => (r, u) = r0) (fun (u : (Nat → Int64) × Int32) t => match u with | (ax', stp') => va_P D classes ([(h0, .inr (5, [.ref q1, .ref q2, .ref q3, .ref q4, .ref q5, .int cm, .int stp', .ref q6, .ref q7, .ref q8, .int mus, .int mc_, .int mb_, .ref q9])), (q6, .inl (ct.1, 6, .inr (.inl ax')))] ++ wt) t.heap ∧ va_D A ([(h0, .inr (5, [.ref q1, .ref q2, .ref q3, .ref q4, .ref q5, .int cm, .int stp', .ref q6, .ref q7, .ref q8, .int mus, .int mc_, .int mb_, .ref q9])), (q6, .inl (ct.1, 6, .inr (.inl ax')))] ++ wt)) A) ([.ref h0] : List Value).toArray s 0 0 A) (F0 m 227 ls [.int k227_0]) := by
  have hK := hKK.1
  have hN := hKK.2.1
  have hO := hKK.2.2
  intro od k227_0 ax stp h H locs hP hD hS ls hl
  unfold jn_M_goes_227 at h
  refine lv_istore_n (lv' := [(2, .int k227_0), (1, .int od), (0, .ref h0)]) hx hb d_M_goes_227 rfl hl (by decide) rfl (fun ls hl => ?_)
  refine lv_iconst (v := (3 : Int32)) hx hb d_M_goes_228 (by decide) ?_
  refine lv_istore_n (lv' := [(3, .int (3 : Int32)), (2, .int k227_0), (1, .int od), (0, .ref h0)]) hx hb d_M_goes_229 rfl hl (by decide) rfl (fun ls hl => ?_)
  have L_230 : ∀ (n : Nat) (od : Int32) (po : Int32) (kk : Int32) (ax : Nat → Int64) (stp : Int32) (od' : Int32) (po' : Int32) (kk' : Int32) (ax' : Nat → Int64) (stp' : Int32), lp_M_goes_230  n od po kk ax stp = some (od', po', kk', ax', stp') → ∀ (H : Heap) (locs : List Loc), va_P D classes ([(h0, .inr (5, [.ref q1, .ref q2, .ref q3, .ref q4, .ref q5, .int cm, .int stp, .ref q6, .ref q7, .ref q8, .int mus, .int mc_, .int mb_, .ref q9])), (q6, .inl (ct.1, 6, .inr (.inl ax)))] ++ wt) H → va_D A ([(h0, .inr (5, [.ref q1, .ref q2, .ref q3, .ref q4, .ref q5, .int cm, .int stp, .ref q6, .ref q7, .ref q8, .int mus, .int mc_, .int mb_, .ref q9])), (q6, .inl (ct.1, 6, .inr (.inl ax)))] ++ wt) → va_S A s.heap H locs → ∀ (ls : Array Slot), lv_has ls 17 [(1, .int od), (2, .int po), (3, .int kk), (0, .ref h0)] → (∀ (H : Heap) (locs : List Loc), va_P D classes ([(h0, .inr (5, [.ref q1, .ref q2, .ref q3, .ref q4, .ref q5, .int cm, .int stp', .ref q6, .ref q7, .ref q8, .int mus, .int mc_, .int mb_, .ref q9])), (q6, .inl (ct.1, 6, .inr (.inl ax')))] ++ wt) H → va_D A ([(h0, .inr (5, [.ref q1, .ref q2, .ref q3, .ref q4, .ref q5, .int cm, .int stp', .ref q6, .ref q7, .ref q8, .int mus, .int mc_, .int mb_, .ref q9])), (q6, .inl (ct.1, 6, .inr (.inl ax')))] ++ wt) → va_S A s.heap H locs → ∀ (ls : Array Slot), lv_has ls 17 [(1, .int od'), (2, .int po'), (3, .int kk'), (0, .ref h0)] → W p l e (headSpec w_M_goes rm_M_goes).room s m ([.ref h0] : List Value).toArray below meth c H locs 0 0 (MQ below (va_Qi (fun r u => (r, u) = r0) (fun (u : (Nat → Int64) × Int32) t => match u with | (ax', stp') => va_P D classes ([(h0, .inr (5, [.ref q1, .ref q2, .ref q3, .ref q4, .ref q5, .int cm, .int stp', .ref q6, .ref q7, .ref q8, .int mus, .int mc_, .int mb_, .ref q9])), (q6, .inl (ct.1, 6, .inr (.inl ax')))] ++ wt) t.heap ∧ va_D A ([(h0, .inr (5, [.ref q1, .ref q2, .ref q3, .ref q4, .ref q5, .int cm, .int stp', .ref q6, .ref q7, .ref q8, .int mus, .int mc_, .int mb_, .ref q9])), (q6, .inl (ct.1, 6, .inr (.inl ax')))] ++ wt)) A) ([.ref h0] : List Value).toArray s 0 0 A) (F0 m 274 ls [])) → W p l e (headSpec w_M_goes rm_M_goes).room s m ([.ref h0] : List Value).toArray below meth c H locs 0 0 (MQ below (va_Qi (fun r u => (r, u) = r0) (fun (u : (Nat → Int64) × Int32) t => match u with | (ax', stp') => va_P D classes ([(h0, .inr (5, [.ref q1, .ref q2, .ref q3, .ref q4, .ref q5, .int cm, .int stp', .ref q6, .ref q7, .ref q8, .int mus, .int mc_, .int mb_, .ref q9])), (q6, .inl (ct.1, 6, .inr (.inl ax')))] ++ wt) t.heap ∧ va_D A ([(h0, .inr (5, [.ref q1, .ref q2, .ref q3, .ref q4, .ref q5, .int cm, .int stp', .ref q6, .ref q7, .ref q8, .int mus, .int mc_, .int mb_, .ref q9])), (q6, .inl (ct.1, 6, .inr (.inl ax')))] ++ wt)) A) ([.ref h0] : List Value).toArray s 0 0 A) (F0 m 230 ls []) := by
    intro n
    induction n with
    | zero =>
      intro od po kk ax stp od' po' kk' ax' stp' h
      rw [lp_M_goes_230] at h
      cases h
    | succ n ih =>
      intro od po kk ax stp od' po' kk' ax' stp' h H locs hP hD hS ls hl K
      rw [lp_M_goes_230] at h
      refine lv_iload_n hx hb d_M_goes_230 rfl (lv_at hl 2 rfl) ?_
      refine lv_bipush (v := (6 : Int32)) hx hb d_M_goes_231 (by decide) ?_
      refine lv_icmp_ge (tgt := 274) hx hb d_M_goes_233 (by decide) (fun c_18 => ?_) (fun c_18 => ?_)
      · rw [if_pos c_18] at h
        cases h
        exact K _ _ hP hD hS _ (lv_sub hl [0, 1, 2, 3] rfl)
      · rw [if_neg c_18] at h
        refine lv_aload_n hx hb d_M_goes_236 rfl (lv_at hl 3 rfl) ?_
        refine va_get (D := D) (ci := 5) (v := .ref q6) (C := R_Model) (T := F_Model) (N := 14) hx hb htg i_Model hown hK hP 0 rfl rfl 7 (by decide) (htg _ tm_405) (fun _ h9 => h9) rfl d_M_goes_237 ?_
        refine lv_iload_n hx hb d_M_goes_240 rfl (lv_at hl 2 rfl) ?_
        refine lv_iload_n hx hb d_M_goes_241 rfl (lv_at hl 1 rfl) ?_
        refine lv_if_eq (tgt := 257) hx hb d_M_goes_242 (by decide) (fun c_19 => ?_) (fun c_19 => ?_)
        · rw [if_pos c_19] at h
          refine lv_aload_n hx hb d_M_goes_257 rfl (lv_at hl 3 rfl) ?_
          refine va_get (D := D) (ci := 5) (v := .ref q6) (C := R_Model) (T := F_Model) (N := 14) hx hb htg i_Model hown hK hP 0 rfl rfl 7 (by decide) (htg _ tm_405) (fun _ h9 => h9) rfl d_M_goes_258 ?_
          refine lv_iload_n hx hb d_M_goes_261 rfl (lv_at hl 2 rfl) ?_
          by_cases b_20 : inb kk 6 = true
          rotate_left
          · rw [if_neg b_20] at h; cases h
          rw [if_pos b_20] at h
          refine va_lald hx hb hK hP 1 0 rfl rfl (inb_in b_20) d_M_goes_262 ?_
          refine vp_callSl (va_Run.run (va_runS (As := [.long (ax kk.toNatClampNeg)]) (rest := [.int kk, .ref q6]) ⟨hx, hb, hml, hown, htg⟩ (c_M_size l D ct ([(h0, .inr (5, [.ref q1, .ref q2, .ref q3, .ref q4, .ref q5, .int cm, .int stp, .ref q6, .ref q7, .ref q8, .int mus, .int mc_, .int mb_, .ref q9])), (q6, .inl (ct.1, 6, .inr (.inl ax)))] ++ wt)  (ax kk.toNatClampNeg)   _ rfl) (cwS 1 htg (giS tm_463 tm_464 tm_34 g_M_size) rfl rfl rfl (by decide +kernel) ⟨Nat.le_of_ble_eq_true rfl, Nat.le_of_ble_eq_true rfl⟩) (preS hP hKK) rfl rfl hl.1 rfl (lv_room (Nat.le_of_ble_eq_true rfl)) d_M_goes_263 ⟨Nat.le_of_ble_eq_true rfl, Nat.le_of_ble_eq_true rfl⟩)) (fun r9 hr9 => ?_)
          have hr9 := hr9.symm
          subst hr9
          refine lv_lneg hx hb d_M_goes_266 ?_
          by_cases b_21 : inb kk 6 = true
          rotate_left
          · rw [if_neg b_21] at h; cases h
          rw [if_pos b_21] at h
          refine va_last hx hb hK hP hD hS 1 0 rfl rfl (inb_in b_21) d_M_goes_267 (fun H locs hP hD hS => ?_)
          have hP : va_P D classes ([(h0, .inr (5, [.ref q1, .ref q2, .ref q3, .ref q4, .ref q5, .int cm, .int stp, .ref q6, .ref q7, .ref q8, .int mus, .int mc_, .int mb_, .ref q9])), (q6, .inl (ct.1, 6, .inr (.inl (vp_updL ax kk.toNatClampNeg (-(f_M_size (ax kk.toNatClampNeg)))))))] ++ wt) H := hP
          have hD : va_D A ([(h0, .inr (5, [.ref q1, .ref q2, .ref q3, .ref q4, .ref q5, .int cm, .int stp, .ref q6, .ref q7, .ref q8, .int mus, .int mc_, .int mb_, .ref q9])), (q6, .inl (ct.1, 6, .inr (.inl (vp_updL ax kk.toNatClampNeg (-(f_M_size (ax kk.toNatClampNeg)))))))] ++ wt) := hD
          refine lv_iinc (v := kk + (1 : Int32)) (lv' := [(3, .int (kk + (1 : Int32))), (1, .int od), (2, .int po), (0, .ref h0)]) hx hb d_M_goes_268 hl (k := 2) rfl rfl (by decide) rfl (fun ls hl => ?_)
          refine lv_goto (tgt := 230) hx hb d_M_goes_271 (by decide) ?_
          exact ih od po (kk + (1 : Int32)) (vp_updL ax kk.toNatClampNeg (-(f_M_size (ax kk.toNatClampNeg)))) stp _ _ _ _ _ h H locs hP hD hS ls (lv_sub hl [1, 2, 0, 3] rfl) K
        · rw [if_neg c_19] at h
          refine lv_aload_n hx hb d_M_goes_245 rfl (lv_at hl 3 rfl) ?_
          refine va_get (D := D) (ci := 5) (v := .ref q6) (C := R_Model) (T := F_Model) (N := 14) hx hb htg i_Model hown hK hP 0 rfl rfl 7 (by decide) (htg _ tm_405) (fun _ h9 => h9) rfl d_M_goes_246 ?_
          refine lv_iload_n hx hb d_M_goes_249 rfl (lv_at hl 2 rfl) ?_
          by_cases b_22 : inb kk 6 = true
          rotate_left
          · rw [if_neg b_22] at h; cases h
          rw [if_pos b_22] at h
          refine va_lald hx hb hK hP 1 0 rfl rfl (inb_in b_22) d_M_goes_250 ?_
          refine vp_callSl (va_Run.run (va_runS (As := [.long (ax kk.toNatClampNeg)]) (rest := [.int kk, .ref q6]) ⟨hx, hb, hml, hown, htg⟩ (c_M_size l D ct ([(h0, .inr (5, [.ref q1, .ref q2, .ref q3, .ref q4, .ref q5, .int cm, .int stp, .ref q6, .ref q7, .ref q8, .int mus, .int mc_, .int mb_, .ref q9])), (q6, .inl (ct.1, 6, .inr (.inl ax)))] ++ wt)  (ax kk.toNatClampNeg)   _ rfl) (cwS 1 htg (giS tm_463 tm_464 tm_34 g_M_size) rfl rfl rfl (by decide +kernel) ⟨Nat.le_of_ble_eq_true rfl, Nat.le_of_ble_eq_true rfl⟩) (preS hP hKK) rfl rfl hl.1 rfl (lv_room (Nat.le_of_ble_eq_true rfl)) d_M_goes_251 ⟨Nat.le_of_ble_eq_true rfl, Nat.le_of_ble_eq_true rfl⟩)) (fun r9 hr9 => ?_)
          have hr9 := hr9.symm
          subst hr9
          refine lv_goto (tgt := 267) hx hb d_M_goes_254 (by decide) ?_
          by_cases b_23 : inb kk 6 = true
          rotate_left
          · rw [if_neg b_23] at h; cases h
          rw [if_pos b_23] at h
          refine va_last hx hb hK hP hD hS 1 0 rfl rfl (inb_in b_23) d_M_goes_267 (fun H locs hP hD hS => ?_)
          have hP : va_P D classes ([(h0, .inr (5, [.ref q1, .ref q2, .ref q3, .ref q4, .ref q5, .int cm, .int stp, .ref q6, .ref q7, .ref q8, .int mus, .int mc_, .int mb_, .ref q9])), (q6, .inl (ct.1, 6, .inr (.inl (vp_updL ax kk.toNatClampNeg (f_M_size (ax kk.toNatClampNeg))))))] ++ wt) H := hP
          have hD : va_D A ([(h0, .inr (5, [.ref q1, .ref q2, .ref q3, .ref q4, .ref q5, .int cm, .int stp, .ref q6, .ref q7, .ref q8, .int mus, .int mc_, .int mb_, .ref q9])), (q6, .inl (ct.1, 6, .inr (.inl (vp_updL ax kk.toNatClampNeg (f_M_size (ax kk.toNatClampNeg))))))] ++ wt) := hD
          refine lv_iinc (v := kk + (1 : Int32)) (lv' := [(3, .int (kk + (1 : Int32))), (1, .int od), (2, .int po), (0, .ref h0)]) hx hb d_M_goes_268 hl (k := 2) rfl rfl (by decide) rfl (fun ls hl => ?_)
          refine lv_goto (tgt := 230) hx hb d_M_goes_271 (by decide) ?_
          exact ih od po (kk + (1 : Int32)) (vp_updL ax kk.toNatClampNeg (f_M_size (ax kk.toNatClampNeg))) stp _ _ _ _ _ h H locs hP hD hS ls (lv_sub hl [1, 2, 0, 3] rfl) K
  rcases e_29 : lp_M_goes_230  4 od k227_0 (3 : Int32) ax stp with _ | ⟨od_24, po_25, kk_26, ax_27, stp_28⟩
  · rw [e_29] at h; cases h
  rw [e_29, Option.bind_some] at h
  try dsimp only at h
  refine L_230 4 od k227_0 (3 : Int32) ax stp od_24 po_25 kk_26 ax_27 stp_28 e_29 _ _ hP hD hS ls (lv_sub hl [2, 1, 0, 3] rfl) (fun H locs hP hD hS ls hl => ?_)
  refine lv_aload_n hx hb d_M_goes_274 rfl (lv_at hl 3 rfl) ?_
  refine va_get (D := D) (ci := 5) (v := .ref q6) (C := R_Model) (T := F_Model) (N := 14) hx hb htg i_Model hown hK hP 0 rfl rfl 7 (by decide) (htg _ tm_405) (fun _ h9 => h9) rfl d_M_goes_275 ?_
  refine lv_iconst (v := (0 : Int32)) hx hb d_M_goes_278 (by decide) ?_
  refine va_lald hx hb hK hP 1 0 rfl rfl (i := (0 : Int32)) (inb_in ix_0_6) d_M_goes_279 ?_
  refine lv_lstore_n (lv' := [(3, .long (ax_27 (0 : Int32).toNatClampNeg)), (1, .int od_24), (2, .int po_25), (0, .ref h0)]) hx hb d_M_goes_280 rfl hl (by decide) rfl (fun ls hl => ?_)
  refine lv_aload_n hx hb d_M_goes_281 rfl (lv_at hl 3 rfl) ?_
  refine va_get (D := D) (ci := 5) (v := .ref q6) (C := R_Model) (T := F_Model) (N := 14) hx hb htg i_Model hown hK hP 0 rfl rfl 7 (by decide) (htg _ tm_405) (fun _ h9 => h9) rfl d_M_goes_282 ?_
  refine lv_iconst (v := (1 : Int32)) hx hb d_M_goes_285 (by decide) ?_
  refine va_lald hx hb hK hP 1 0 rfl rfl (i := (1 : Int32)) (inb_in ix_1_6) d_M_goes_286 ?_
  refine lv_lstore (lv' := [(5, .long (ax_27 (1 : Int32).toNatClampNeg)), (3, .long (ax_27 (0 : Int32).toNatClampNeg)), (1, .int od_24), (2, .int po_25), (0, .ref h0)]) hx hb d_M_goes_287 hl (by decide) rfl (fun ls hl => ?_)
  refine lv_aload_n hx hb d_M_goes_289 rfl (lv_at hl 4 rfl) ?_
  refine va_get (D := D) (ci := 5) (v := .ref q6) (C := R_Model) (T := F_Model) (N := 14) hx hb htg i_Model hown hK hP 0 rfl rfl 7 (by decide) (htg _ tm_405) (fun _ h9 => h9) rfl d_M_goes_290 ?_
  refine lv_iconst (v := (2 : Int32)) hx hb d_M_goes_293 (by decide) ?_
  refine va_lald hx hb hK hP 1 0 rfl rfl (i := (2 : Int32)) (inb_in ix_2_6) d_M_goes_294 ?_
  refine lv_lstore (lv' := [(7, .long (ax_27 (2 : Int32).toNatClampNeg)), (5, .long (ax_27 (1 : Int32).toNatClampNeg)), (3, .long (ax_27 (0 : Int32).toNatClampNeg)), (1, .int od_24), (2, .int po_25), (0, .ref h0)]) hx hb d_M_goes_295 hl (by decide) rfl (fun ls hl => ?_)
  refine lv_aload_n hx hb d_M_goes_297 rfl (lv_at hl 5 rfl) ?_
  refine va_get (D := D) (ci := 5) (v := .ref q6) (C := R_Model) (T := F_Model) (N := 14) hx hb htg i_Model hown hK hP 0 rfl rfl 7 (by decide) (htg _ tm_405) (fun _ h9 => h9) rfl d_M_goes_298 ?_
  refine lv_iconst (v := (3 : Int32)) hx hb d_M_goes_301 (by decide) ?_
  refine va_lald hx hb hK hP 1 0 rfl rfl (i := (3 : Int32)) (inb_in ix_3_6) d_M_goes_302 ?_
  refine lv_lstore (lv' := [(9, .long (ax_27 (3 : Int32).toNatClampNeg)), (7, .long (ax_27 (2 : Int32).toNatClampNeg)), (5, .long (ax_27 (1 : Int32).toNatClampNeg)), (3, .long (ax_27 (0 : Int32).toNatClampNeg)), (1, .int od_24), (2, .int po_25), (0, .ref h0)]) hx hb d_M_goes_303 hl (by decide) rfl (fun ls hl => ?_)
  refine lv_aload_n hx hb d_M_goes_305 rfl (lv_at hl 6 rfl) ?_
  refine va_get (D := D) (ci := 5) (v := .ref q6) (C := R_Model) (T := F_Model) (N := 14) hx hb htg i_Model hown hK hP 0 rfl rfl 7 (by decide) (htg _ tm_405) (fun _ h9 => h9) rfl d_M_goes_306 ?_
  refine lv_iconst (v := (4 : Int32)) hx hb d_M_goes_309 (by decide) ?_
  refine va_lald hx hb hK hP 1 0 rfl rfl (i := (4 : Int32)) (inb_in ix_4_6) d_M_goes_310 ?_
  refine lv_lstore (lv' := [(11, .long (ax_27 (4 : Int32).toNatClampNeg)), (9, .long (ax_27 (3 : Int32).toNatClampNeg)), (7, .long (ax_27 (2 : Int32).toNatClampNeg)), (5, .long (ax_27 (1 : Int32).toNatClampNeg)), (3, .long (ax_27 (0 : Int32).toNatClampNeg)), (1, .int od_24), (2, .int po_25), (0, .ref h0)]) hx hb d_M_goes_311 hl (by decide) rfl (fun ls hl => ?_)
  refine lv_aload_n hx hb d_M_goes_313 rfl (lv_at hl 7 rfl) ?_
  refine va_get (D := D) (ci := 5) (v := .ref q6) (C := R_Model) (T := F_Model) (N := 14) hx hb htg i_Model hown hK hP 0 rfl rfl 7 (by decide) (htg _ tm_405) (fun _ h9 => h9) rfl d_M_goes_314 ?_
  refine lv_iconst (v := (5 : Int32)) hx hb d_M_goes_317 (by decide) ?_
  refine va_lald hx hb hK hP 1 0 rfl rfl (i := (5 : Int32)) (inb_in ix_5_6) d_M_goes_318 ?_
  refine lv_lstore (lv' := [(13, .long (ax_27 (5 : Int32).toNatClampNeg)), (11, .long (ax_27 (4 : Int32).toNatClampNeg)), (9, .long (ax_27 (3 : Int32).toNatClampNeg)), (7, .long (ax_27 (2 : Int32).toNatClampNeg)), (5, .long (ax_27 (1 : Int32).toNatClampNeg)), (3, .long (ax_27 (0 : Int32).toNatClampNeg)), (1, .int od_24), (2, .int po_25), (0, .ref h0)]) hx hb d_M_goes_319 hl (by decide) rfl (fun ls hl => ?_)
  refine lv_lload hx hb d_M_goes_321 (lv_at hl 2 rfl) ?_
  refine vp_callSl (va_Run.run (va_runS (As := [.long (ax_27 (3 : Int32).toNatClampNeg)]) (rest := []) ⟨hx, hb, hml, hown, htg⟩ (c_M_size l D ct ([(h0, .inr (5, [.ref q1, .ref q2, .ref q3, .ref q4, .ref q5, .int cm, .int stp_28, .ref q6, .ref q7, .ref q8, .int mus, .int mc_, .int mb_, .ref q9])), (q6, .inl (ct.1, 6, .inr (.inl ax_27)))] ++ wt)  (ax_27 (3 : Int32).toNatClampNeg)   _ rfl) (cwS 1 htg (giS tm_463 tm_464 tm_34 g_M_size) rfl rfl rfl (by decide +kernel) ⟨Nat.le_of_ble_eq_true rfl, Nat.le_of_ble_eq_true rfl⟩) (preS hP hKK) rfl rfl hl.1 rfl (lv_room (Nat.le_of_ble_eq_true rfl)) d_M_goes_323 ⟨Nat.le_of_ble_eq_true rfl, Nat.le_of_ble_eq_true rfl⟩)) (fun r9 hr9 => ?_)
  have hr9 := hr9.symm
  subst hr9
  refine lv_lload hx hb d_M_goes_326 (lv_at hl 4 rfl) ?_
  refine W.lcmp hx hb d_M_goes_328 ?_
  refine lv_if_gt (tgt := 368) hx hb d_M_goes_329 (by decide) (fun c_30 => ?_) (fun c_30 => ?_)
  · rw [if_pos c_30] at h
    exact J_M_goes_368 h0 q1 q2 q3 q4 q5 q6 q7 q8 q9 cm mus mc_ mb_ r0 hx hb hr hml hown htg hlocks hKK hA (ax_27 (0 : Int32).toNatClampNeg) (ax_27 (1 : Int32).toNatClampNeg) (ax_27 (2 : Int32).toNatClampNeg) (ax_27 (3 : Int32).toNatClampNeg) (ax_27 (4 : Int32).toNatClampNeg) (ax_27 (5 : Int32).toNatClampNeg) ax_27 stp_28 h _ _ hP hD hS ls (lv_sub hl [5, 4, 3, 2, 1, 0, 8] rfl)
  · rw [if_neg c_30] at h
    refine lv_lload hx hb d_M_goes_332 (lv_at hl 2 rfl) ?_
    refine lv_lload hx hb d_M_goes_334 (lv_at hl 4 rfl) ?_
    refine W.lcmp hx hb d_M_goes_336 ?_
    refine lv_if_ne (tgt := 352) hx hb d_M_goes_337 (by decide) (fun c_32 => ?_) (fun c_32 => ?_)
    · rw [if_neg c_32] at h
      refine lv_lload hx hb d_M_goes_352 (lv_at hl 2 rfl) ?_
      refine lv_lload hx hb d_M_goes_354 (lv_at hl 4 rfl) ?_
      refine lv_lneg hx hb d_M_goes_356 ?_
      refine W.lcmp hx hb d_M_goes_357 ?_
      refine lv_if_ne (tgt := 445) hx hb d_M_goes_358 (by decide) (fun c_33 => ?_) (fun c_33 => ?_)
      · rw [if_neg c_33] at h
        exact J_M_goes_445 h0 q1 q2 q3 q4 q5 q6 q7 q8 q9 cm mus mc_ mb_ r0 hx hb hr hml hown htg hlocks hKK hA (ax_27 (0 : Int32).toNatClampNeg) (ax_27 (1 : Int32).toNatClampNeg) (ax_27 (2 : Int32).toNatClampNeg) (ax_27 (3 : Int32).toNatClampNeg) (ax_27 (4 : Int32).toNatClampNeg) (ax_27 (5 : Int32).toNatClampNeg) ax_27 stp_28 h _ _ hP hD hS ls (lv_sub hl [5, 4, 3, 2, 1, 0, 8] rfl)
      · rw [if_pos c_33] at h
        refine lv_lload hx hb d_M_goes_361 (lv_at hl 0 rfl) ?_
        refine lv_lconst (v := (0 : Int64)) hx hb d_M_goes_363 (by decide) ?_
        refine W.lcmp hx hb d_M_goes_364 ?_
        refine lv_if_ge (tgt := 445) hx hb d_M_goes_365 (by decide) (fun c_53 => ?_) (fun c_53 => ?_)
        · rw [if_pos c_53] at h
          exact J_M_goes_445 h0 q1 q2 q3 q4 q5 q6 q7 q8 q9 cm mus mc_ mb_ r0 hx hb hr hml hown htg hlocks hKK hA (ax_27 (0 : Int32).toNatClampNeg) (ax_27 (1 : Int32).toNatClampNeg) (ax_27 (2 : Int32).toNatClampNeg) (ax_27 (3 : Int32).toNatClampNeg) (ax_27 (4 : Int32).toNatClampNeg) (ax_27 (5 : Int32).toNatClampNeg) ax_27 stp_28 h _ _ hP hD hS ls (lv_sub hl [5, 4, 3, 2, 1, 0, 8] rfl)
        · rw [if_neg c_53] at h
          exact J_M_goes_368 h0 q1 q2 q3 q4 q5 q6 q7 q8 q9 cm mus mc_ mb_ r0 hx hb hr hml hown htg hlocks hKK hA (ax_27 (0 : Int32).toNatClampNeg) (ax_27 (1 : Int32).toNatClampNeg) (ax_27 (2 : Int32).toNatClampNeg) (ax_27 (3 : Int32).toNatClampNeg) (ax_27 (4 : Int32).toNatClampNeg) (ax_27 (5 : Int32).toNatClampNeg) ax_27 stp_28 h _ _ hP hD hS ls (lv_sub hl [5, 4, 3, 2, 1, 0, 8] rfl)
    · rw [if_pos c_32] at h
      refine lv_ldc2 (v := (2 : Int64)) hx hb hown (htg _ tm_458) d_M_goes_340 ?_
      refine lv_lload hx hb d_M_goes_343 (lv_at hl 1 rfl) ?_
      refine lv_lmul hx hb d_M_goes_345 ?_
      refine lv_lload hx hb d_M_goes_346 (lv_at hl 0 rfl) ?_
      refine W.lcmp hx hb d_M_goes_348 ?_
      refine lv_if_lt (tgt := 368) hx hb d_M_goes_349 (by decide) (fun c_54 => ?_) (fun c_54 => ?_)
      · rw [if_pos c_54] at h
        exact J_M_goes_368 h0 q1 q2 q3 q4 q5 q6 q7 q8 q9 cm mus mc_ mb_ r0 hx hb hr hml hown htg hlocks hKK hA (ax_27 (0 : Int32).toNatClampNeg) (ax_27 (1 : Int32).toNatClampNeg) (ax_27 (2 : Int32).toNatClampNeg) (ax_27 (3 : Int32).toNatClampNeg) (ax_27 (4 : Int32).toNatClampNeg) (ax_27 (5 : Int32).toNatClampNeg) ax_27 stp_28 h _ _ hP hD hS ls (lv_sub hl [5, 4, 3, 2, 1, 0, 8] rfl)
      · rw [if_neg c_54] at h
        refine lv_lload hx hb d_M_goes_352 (lv_at hl 2 rfl) ?_
        refine lv_lload hx hb d_M_goes_354 (lv_at hl 4 rfl) ?_
        refine lv_lneg hx hb d_M_goes_356 ?_
        refine W.lcmp hx hb d_M_goes_357 ?_
        refine lv_if_ne (tgt := 445) hx hb d_M_goes_358 (by decide) (fun c_55 => ?_) (fun c_55 => ?_)
        · rw [if_neg c_55] at h
          exact J_M_goes_445 h0 q1 q2 q3 q4 q5 q6 q7 q8 q9 cm mus mc_ mb_ r0 hx hb hr hml hown htg hlocks hKK hA (ax_27 (0 : Int32).toNatClampNeg) (ax_27 (1 : Int32).toNatClampNeg) (ax_27 (2 : Int32).toNatClampNeg) (ax_27 (3 : Int32).toNatClampNeg) (ax_27 (4 : Int32).toNatClampNeg) (ax_27 (5 : Int32).toNatClampNeg) ax_27 stp_28 h _ _ hP hD hS ls (lv_sub hl [5, 4, 3, 2, 1, 0, 8] rfl)
        · rw [if_pos c_55] at h
          refine lv_lload hx hb d_M_goes_361 (lv_at hl 0 rfl) ?_
          refine lv_lconst (v := (0 : Int64)) hx hb d_M_goes_363 (by decide) ?_
          refine W.lcmp hx hb d_M_goes_364 ?_
          refine lv_if_ge (tgt := 445) hx hb d_M_goes_365 (by decide) (fun c_56 => ?_) (fun c_56 => ?_)
          · rw [if_pos c_56] at h
            exact J_M_goes_445 h0 q1 q2 q3 q4 q5 q6 q7 q8 q9 cm mus mc_ mb_ r0 hx hb hr hml hown htg hlocks hKK hA (ax_27 (0 : Int32).toNatClampNeg) (ax_27 (1 : Int32).toNatClampNeg) (ax_27 (2 : Int32).toNatClampNeg) (ax_27 (3 : Int32).toNatClampNeg) (ax_27 (4 : Int32).toNatClampNeg) (ax_27 (5 : Int32).toNatClampNeg) ax_27 stp_28 h _ _ hP hD hS ls (lv_sub hl [5, 4, 3, 2, 1, 0, 8] rfl)
          · rw [if_neg c_56] at h
            exact J_M_goes_368 h0 q1 q2 q3 q4 q5 q6 q7 q8 q9 cm mus mc_ mb_ r0 hx hb hr hml hown htg hlocks hKK hA (ax_27 (0 : Int32).toNatClampNeg) (ax_27 (1 : Int32).toNatClampNeg) (ax_27 (2 : Int32).toNatClampNeg) (ax_27 (3 : Int32).toNatClampNeg) (ax_27 (4 : Int32).toNatClampNeg) (ax_27 (5 : Int32).toNatClampNeg) ax_27 stp_28 h _ _ hP hD hS ls (lv_sub hl [5, 4, 3, 2, 1, 0, 8] rfl)
set_option maxHeartbeats 4000000 in
set_option maxRecDepth 100000 in
theorem J_M_goes_183 {p : Program} {l : Launch} {e : Env} {s : State} {m : MethodId} {below : List Frame} {meth : Method} {c : Code} {D : va_G} {ct : CT} {A : Nat → Prop} {wt : va_W} (h0 : Nat) (q1 : Nat) (q2 : Nat) (q3 : Nat) (q4 : Nat) (q5 : Nat) (q6 : Nat) (q7 : Nat) (q8 : Nat) (q9 : Nat) (cm : Int32) (mus : Int32) (mc_ : Int32) (mb_ : Int32) (r0 : Int32 × (Nat → Int64) × Int32) (hx : p.tables.exec = Jvm.exec) (hb : c.code = b_M_goes) (hr : meth.sig.returnType = (some .boolean)) (hml : c.maxLocals = 17) (hown : s.vm.findClass R_Model = some m.cls) (htg : ∀ w ∈ GW, w.before ([.ref h0] : List Value).toArray s = true) (hlocks : meth.locks = false) (hKK : KK D ct s) (hA : ∀ q : Nat, s.heap.size ≤ q → A q) : ∀ (k183_0 : Int32) (k183_1 : Int32) (ax : Nat → Int64) (stp : Int32), jn_M_goes_183  k183_0 k183_1 ax stp = some r0 → ∀ (H : Heap) (locs : List Loc), va_P D classes ([(h0, .inr (5, [.ref q1, .ref q2, .ref q3, .ref q4, .ref q5, .int cm, .int stp, .ref q6, .ref q7, .ref q8, .int mus, .int mc_, .int mb_, .ref q9])), (q6, .inl (ct.1, 6, .inr (.inl ax)))] ++ wt) H → va_D A ([(h0, .inr (5, [.ref q1, .ref q2, .ref q3, .ref q4, .ref q5, .int cm, .int stp, .ref q6, .ref q7, .ref q8, .int mus, .int mc_, .int mb_, .ref q9])), (q6, .inl (ct.1, 6, .inr (.inl ax)))] ++ wt) → va_S A s.heap H locs → ∀ (ls : Array Slot), lv_has ls 17 [(0, .ref h0)] → W p l e (headSpec w_M_goes rm_M_goes).room s m ([.ref h0] : List Value).toArray below meth c H locs 0 0 (MQ below (va_Qi (fun r u => (r, u) = r0) (fun (u : (Nat → Int64) × Int32) t => match u with | (ax', stp') => va_P D classes ([(h0, .inr (5, [.ref q1, .ref q2, .ref q3, .ref q4, .ref q5, .int cm, .int stp', .ref q6, .ref q7, .ref q8, .int mus, .int mc_, .int mb_, .ref q9])), (q6, .inl (ct.1, 6, .inr (.inl ax')))] ++ wt) t.heap ∧ va_D A ([(h0, .inr (5, [.ref q1, .ref q2, .ref q3, .ref q4, .ref q5, .int cm, .int stp', .ref q6, .ref q7, .ref q8, .int mus, .int mc_, .int mb_, .ref q9])), (q6, .inl (ct.1, 6, .inr (.inl ax')))] ++ wt)) A) ([.ref h0] : List Value).toArray s 0 0 A) (F0 m 183 ls [.int k183_0, .int k183_1]) := by
  have hK := hKK.1
  have hN := hKK.2.1
  have hO := hKK.2.2
  intro k183_0 k183_1 ax stp h H locs hP hD hS ls hl
  unfold jn_M_goes_183 at h
  refine lv_ixor hx hb d_M_goes_183 ?_
  refine lv_istore_n (lv' := [(1, .int (k183_1 ^^^ k183_0)), (0, .ref h0)]) hx hb d_M_goes_184 rfl hl (by decide) rfl (fun ls hl => ?_)
  refine lv_iload_n hx hb d_M_goes_185 rfl (lv_at hl 0 rfl) ?_
  refine lv_if_ne (tgt := 226) hx hb d_M_goes_186 (by decide) (fun c_17 => ?_) (fun c_17 => ?_)
  · rw [if_neg c_17] at h
    refine lv_iconst (v := (0 : Int32)) hx hb d_M_goes_226 (by decide) ?_
    exact J_M_goes_227 h0 q1 q2 q3 q4 q5 q6 q7 q8 q9 cm mus mc_ mb_ r0 hx hb hr hml hown htg hlocks hKK hA (k183_1 ^^^ k183_0) (0 : Int32) ax stp h _ _ hP hD hS ls (lv_sub hl [0, 1] rfl)
  · rw [if_pos c_17] at h
    refine lv_aload_n hx hb d_M_goes_189 rfl (lv_at hl 1 rfl) ?_
    refine va_get (D := D) (ci := 5) (v := .ref q6) (C := R_Model) (T := F_Model) (N := 14) hx hb htg i_Model hown hK hP 0 rfl rfl 7 (by decide) (htg _ tm_405) (fun _ h9 => h9) rfl d_M_goes_190 ?_
    refine lv_iconst (v := (3 : Int32)) hx hb d_M_goes_193 (by decide) ?_
    refine va_lald hx hb hK hP 1 0 rfl rfl (i := (3 : Int32)) (inb_in ix_3_6) d_M_goes_194 ?_
    refine lv_lconst (v := (0 : Int64)) hx hb d_M_goes_195 (by decide) ?_
    refine W.lcmp hx hb d_M_goes_196 ?_
    refine lv_if_eq (tgt := 226) hx hb d_M_goes_197 (by decide) (fun c_58 => ?_) (fun c_58 => ?_)
    · rw [if_pos c_58] at h
      refine lv_iconst (v := (0 : Int32)) hx hb d_M_goes_226 (by decide) ?_
      exact J_M_goes_227 h0 q1 q2 q3 q4 q5 q6 q7 q8 q9 cm mus mc_ mb_ r0 hx hb hr hml hown htg hlocks hKK hA (k183_1 ^^^ k183_0) (0 : Int32) ax stp h _ _ hP hD hS ls (lv_sub hl [0, 1] rfl)
    · rw [if_neg c_58] at h
      refine lv_aload_n hx hb d_M_goes_200 rfl (lv_at hl 1 rfl) ?_
      refine va_get (D := D) (ci := 5) (v := .ref q6) (C := R_Model) (T := F_Model) (N := 14) hx hb htg i_Model hown hK hP 0 rfl rfl 7 (by decide) (htg _ tm_405) (fun _ h9 => h9) rfl d_M_goes_201 ?_
      refine lv_iconst (v := (4 : Int32)) hx hb d_M_goes_204 (by decide) ?_
      refine va_lald hx hb hK hP 1 0 rfl rfl (i := (4 : Int32)) (inb_in ix_4_6) d_M_goes_205 ?_
      refine lv_lconst (v := (0 : Int64)) hx hb d_M_goes_206 (by decide) ?_
      refine W.lcmp hx hb d_M_goes_207 ?_
      refine lv_if_eq (tgt := 226) hx hb d_M_goes_208 (by decide) (fun c_59 => ?_) (fun c_59 => ?_)
      · rw [if_pos c_59] at h
        refine lv_iconst (v := (0 : Int32)) hx hb d_M_goes_226 (by decide) ?_
        exact J_M_goes_227 h0 q1 q2 q3 q4 q5 q6 q7 q8 q9 cm mus mc_ mb_ r0 hx hb hr hml hown htg hlocks hKK hA (k183_1 ^^^ k183_0) (0 : Int32) ax stp h _ _ hP hD hS ls (lv_sub hl [0, 1] rfl)
      · rw [if_neg c_59] at h
        refine lv_aload_n hx hb d_M_goes_211 rfl (lv_at hl 1 rfl) ?_
        refine va_get (D := D) (ci := 5) (v := .ref q6) (C := R_Model) (T := F_Model) (N := 14) hx hb htg i_Model hown hK hP 0 rfl rfl 7 (by decide) (htg _ tm_405) (fun _ h9 => h9) rfl d_M_goes_212 ?_
        refine lv_iconst (v := (5 : Int32)) hx hb d_M_goes_215 (by decide) ?_
        refine va_lald hx hb hK hP 1 0 rfl rfl (i := (5 : Int32)) (inb_in ix_5_6) d_M_goes_216 ?_
        refine lv_lconst (v := (0 : Int64)) hx hb d_M_goes_217 (by decide) ?_
        refine W.lcmp hx hb d_M_goes_218 ?_
        refine lv_if_eq (tgt := 226) hx hb d_M_goes_219 (by decide) (fun c_60 => ?_) (fun c_60 => ?_)
        · rw [if_pos c_60] at h
          refine lv_iconst (v := (0 : Int32)) hx hb d_M_goes_226 (by decide) ?_
          exact J_M_goes_227 h0 q1 q2 q3 q4 q5 q6 q7 q8 q9 cm mus mc_ mb_ r0 hx hb hr hml hown htg hlocks hKK hA (k183_1 ^^^ k183_0) (0 : Int32) ax stp h _ _ hP hD hS ls (lv_sub hl [0, 1] rfl)
        · rw [if_neg c_60] at h
          refine lv_iconst (v := (1 : Int32)) hx hb d_M_goes_222 (by decide) ?_
          refine lv_goto (tgt := 227) hx hb d_M_goes_223 (by decide) ?_
          exact J_M_goes_227 h0 q1 q2 q3 q4 q5 q6 q7 q8 q9 cm mus mc_ mb_ r0 hx hb hr hml hown htg hlocks hKK hA (k183_1 ^^^ k183_0) (1 : Int32) ax stp h _ _ hP hD hS ls (lv_sub hl [0, 1] rfl)
set_option maxHeartbeats 4000000 in
set_option maxRecDepth 100000 in
theorem J_M_goes_166 {p : Program} {l : Launch} {e : Env} {s : State} {m : MethodId} {below : List Frame} {meth : Method} {c : Code} {D : va_G} {ct : CT} {A : Nat → Prop} {wt : va_W} (h0 : Nat) (q1 : Nat) (q2 : Nat) (q3 : Nat) (q4 : Nat) (q5 : Nat) (q6 : Nat) (q7 : Nat) (q8 : Nat) (q9 : Nat) (cm : Int32) (mus : Int32) (mc_ : Int32) (mb_ : Int32) (r0 : Int32 × (Nat → Int64) × Int32) (hx : p.tables.exec = Jvm.exec) (hb : c.code = b_M_goes) (hr : meth.sig.returnType = (some .boolean)) (hml : c.maxLocals = 17) (hown : s.vm.findClass R_Model = some m.cls) (htg : ∀ w ∈ GW, w.before ([.ref h0] : List Value).toArray s = true) (hlocks : meth.locks = false) (hKK : KK D ct s) (hA : ∀ q : Nat, s.heap.size ≤ q → A q) : ∀ (k166_0 : Int32) (k166_1 : Int32) (ax : Nat → Int64) (stp : Int32), jn_M_goes_166  k166_0 k166_1 ax stp = some r0 → ∀ (H : Heap) (locs : List Loc), va_P D classes ([(h0, .inr (5, [.ref q1, .ref q2, .ref q3, .ref q4, .ref q5, .int cm, .int stp, .ref q6, .ref q7, .ref q8, .int mus, .int mc_, .int mb_, .ref q9])), (q6, .inl (ct.1, 6, .inr (.inl ax)))] ++ wt) H → va_D A ([(h0, .inr (5, [.ref q1, .ref q2, .ref q3, .ref q4, .ref q5, .int cm, .int stp, .ref q6, .ref q7, .ref q8, .int mus, .int mc_, .int mb_, .ref q9])), (q6, .inl (ct.1, 6, .inr (.inl ax)))] ++ wt) → va_S A s.heap H locs → ∀ (ls : Array Slot), lv_has ls 17 [(0, .ref h0)] → W p l e (headSpec w_M_goes rm_M_goes).room s m ([.ref h0] : List Value).toArray below meth c H locs 0 0 (MQ below (va_Qi (fun r u => (r, u) = r0) (fun (u : (Nat → Int64) × Int32) t => match u with | (ax', stp') => va_P D classes ([(h0, .inr (5, [.ref q1, .ref q2, .ref q3, .ref q4, .ref q5, .int cm, .int stp', .ref q6, .ref q7, .ref q8, .int mus, .int mc_, .int mb_, .ref q9])), (q6, .inl (ct.1, 6, .inr (.inl ax')))] ++ wt) t.heap ∧ va_D A ([(h0, .inr (5, [.ref q1, .ref q2, .ref q3, .ref q4, .ref q5, .int cm, .int stp', .ref q6, .ref q7, .ref q8, .int mus, .int mc_, .int mb_, .ref q9])), (q6, .inl (ct.1, 6, .inr (.inl ax')))] ++ wt)) A) ([.ref h0] : List Value).toArray s 0 0 A) (F0 m 166 ls [.int k166_0, .int k166_1]) := by
  have hK := hKK.1
  have hN := hKK.2.1
  have hO := hKK.2.2
  intro k166_0 k166_1 ax stp h H locs hP hD hS ls hl
  unfold jn_M_goes_166 at h
  refine lv_ixor hx hb d_M_goes_166 ?_
  refine lv_aload_n hx hb d_M_goes_167 rfl (lv_at hl 0 rfl) ?_
  refine va_get (D := D) (ci := 5) (v := .ref q6) (C := R_Model) (T := F_Model) (N := 14) hx hb htg i_Model hown hK hP 0 rfl rfl 7 (by decide) (htg _ tm_405) (fun _ h9 => h9) rfl d_M_goes_168 ?_
  refine lv_iconst (v := (5 : Int32)) hx hb d_M_goes_171 (by decide) ?_
  refine va_lald hx hb hK hP 1 0 rfl rfl (i := (5 : Int32)) (inb_in ix_5_6) d_M_goes_172 ?_
  refine lv_lconst (v := (0 : Int64)) hx hb d_M_goes_173 (by decide) ?_
  refine W.lcmp hx hb d_M_goes_174 ?_
  refine lv_if_ge (tgt := 182) hx hb d_M_goes_175 (by decide) (fun c_16 => ?_) (fun c_16 => ?_)
  · rw [if_pos c_16] at h
    refine lv_iconst (v := (0 : Int32)) hx hb d_M_goes_182 (by decide) ?_
    exact J_M_goes_183 h0 q1 q2 q3 q4 q5 q6 q7 q8 q9 cm mus mc_ mb_ r0 hx hb hr hml hown htg hlocks hKK hA (0 : Int32) (k166_1 ^^^ k166_0) ax stp h _ _ hP hD hS ls (lv_sub hl [0] rfl)
  · rw [if_neg c_16] at h
    refine lv_iconst (v := (1 : Int32)) hx hb d_M_goes_178 (by decide) ?_
    refine lv_goto (tgt := 183) hx hb d_M_goes_179 (by decide) ?_
    exact J_M_goes_183 h0 q1 q2 q3 q4 q5 q6 q7 q8 q9 cm mus mc_ mb_ r0 hx hb hr hml hown htg hlocks hKK hA (1 : Int32) (k166_1 ^^^ k166_0) ax stp h _ _ hP hD hS ls (lv_sub hl [0] rfl)
set_option maxHeartbeats 4000000 in
set_option maxRecDepth 100000 in
theorem J_M_goes_150 {p : Program} {l : Launch} {e : Env} {s : State} {m : MethodId} {below : List Frame} {meth : Method} {c : Code} {D : va_G} {ct : CT} {A : Nat → Prop} {wt : va_W} (h0 : Nat) (q1 : Nat) (q2 : Nat) (q3 : Nat) (q4 : Nat) (q5 : Nat) (q6 : Nat) (q7 : Nat) (q8 : Nat) (q9 : Nat) (cm : Int32) (mus : Int32) (mc_ : Int32) (mb_ : Int32) (r0 : Int32 × (Nat → Int64) × Int32) (hx : p.tables.exec = Jvm.exec) (hb : c.code = b_M_goes) (hr : meth.sig.returnType = (some .boolean)) (hml : c.maxLocals = 17) (hown : s.vm.findClass R_Model = some m.cls) (htg : ∀ w ∈ GW, w.before ([.ref h0] : List Value).toArray s = true) (hlocks : meth.locks = false) (hKK : KK D ct s) (hA : ∀ q : Nat, s.heap.size ≤ q → A q) : ∀ (k150_0 : Int32) (ax : Nat → Int64) (stp : Int32), jn_M_goes_150  k150_0 ax stp = some r0 → ∀ (H : Heap) (locs : List Loc), va_P D classes ([(h0, .inr (5, [.ref q1, .ref q2, .ref q3, .ref q4, .ref q5, .int cm, .int stp, .ref q6, .ref q7, .ref q8, .int mus, .int mc_, .int mb_, .ref q9])), (q6, .inl (ct.1, 6, .inr (.inl ax)))] ++ wt) H → va_D A ([(h0, .inr (5, [.ref q1, .ref q2, .ref q3, .ref q4, .ref q5, .int cm, .int stp, .ref q6, .ref q7, .ref q8, .int mus, .int mc_, .int mb_, .ref q9])), (q6, .inl (ct.1, 6, .inr (.inl ax)))] ++ wt) → va_S A s.heap H locs → ∀ (ls : Array Slot), lv_has ls 17 [(0, .ref h0)] → W p l e (headSpec w_M_goes rm_M_goes).room s m ([.ref h0] : List Value).toArray below meth c H locs 0 0 (MQ below (va_Qi (fun r u => (r, u) = r0) (fun (u : (Nat → Int64) × Int32) t => match u with | (ax', stp') => va_P D classes ([(h0, .inr (5, [.ref q1, .ref q2, .ref q3, .ref q4, .ref q5, .int cm, .int stp', .ref q6, .ref q7, .ref q8, .int mus, .int mc_, .int mb_, .ref q9])), (q6, .inl (ct.1, 6, .inr (.inl ax')))] ++ wt) t.heap ∧ va_D A ([(h0, .inr (5, [.ref q1, .ref q2, .ref q3, .ref q4, .ref q5, .int cm, .int stp', .ref q6, .ref q7, .ref q8, .int mus, .int mc_, .int mb_, .ref q9])), (q6, .inl (ct.1, 6, .inr (.inl ax')))] ++ wt)) A) ([.ref h0] : List Value).toArray s 0 0 A) (F0 m 150 ls [.int k150_0]) := by
  have hK := hKK.1
  have hN := hKK.2.1
  have hO := hKK.2.2
  intro k150_0 ax stp h H locs hP hD hS ls hl
  unfold jn_M_goes_150 at h
  refine lv_aload_n hx hb d_M_goes_150 rfl (lv_at hl 0 rfl) ?_
  refine va_get (D := D) (ci := 5) (v := .ref q6) (C := R_Model) (T := F_Model) (N := 14) hx hb htg i_Model hown hK hP 0 rfl rfl 7 (by decide) (htg _ tm_405) (fun _ h9 => h9) rfl d_M_goes_151 ?_
  refine lv_iconst (v := (4 : Int32)) hx hb d_M_goes_154 (by decide) ?_
  refine va_lald hx hb hK hP 1 0 rfl rfl (i := (4 : Int32)) (inb_in ix_4_6) d_M_goes_155 ?_
  refine lv_lconst (v := (0 : Int64)) hx hb d_M_goes_156 (by decide) ?_
  refine W.lcmp hx hb d_M_goes_157 ?_
  refine lv_if_ge (tgt := 165) hx hb d_M_goes_158 (by decide) (fun c_15 => ?_) (fun c_15 => ?_)
  · rw [if_pos c_15] at h
    refine lv_iconst (v := (0 : Int32)) hx hb d_M_goes_165 (by decide) ?_
    exact J_M_goes_166 h0 q1 q2 q3 q4 q5 q6 q7 q8 q9 cm mus mc_ mb_ r0 hx hb hr hml hown htg hlocks hKK hA (0 : Int32) k150_0 ax stp h _ _ hP hD hS ls (lv_sub hl [0] rfl)
  · rw [if_neg c_15] at h
    refine lv_iconst (v := (1 : Int32)) hx hb d_M_goes_161 (by decide) ?_
    refine lv_goto (tgt := 166) hx hb d_M_goes_162 (by decide) ?_
    exact J_M_goes_166 h0 q1 q2 q3 q4 q5 q6 q7 q8 q9 cm mus mc_ mb_ r0 hx hb hr hml hown htg hlocks hKK hA (1 : Int32) k150_0 ax stp h _ _ hP hD hS ls (lv_sub hl [0] rfl)
set_option maxHeartbeats 4000000 in
set_option maxRecDepth 100000 in
theorem J_M_goes_134 {p : Program} {l : Launch} {e : Env} {s : State} {m : MethodId} {below : List Frame} {meth : Method} {c : Code} {D : va_G} {ct : CT} {A : Nat → Prop} {wt : va_W} (h0 : Nat) (q1 : Nat) (q2 : Nat) (q3 : Nat) (q4 : Nat) (q5 : Nat) (q6 : Nat) (q7 : Nat) (q8 : Nat) (q9 : Nat) (cm : Int32) (mus : Int32) (mc_ : Int32) (mb_ : Int32) (r0 : Int32 × (Nat → Int64) × Int32) (hx : p.tables.exec = Jvm.exec) (hb : c.code = b_M_goes) (hr : meth.sig.returnType = (some .boolean)) (hml : c.maxLocals = 17) (hown : s.vm.findClass R_Model = some m.cls) (htg : ∀ w ∈ GW, w.before ([.ref h0] : List Value).toArray s = true) (hlocks : meth.locks = false) (hKK : KK D ct s) (hA : ∀ q : Nat, s.heap.size ≤ q → A q) : ∀ (ax : Nat → Int64) (stp : Int32), jn_M_goes_134  ax stp = some r0 → ∀ (H : Heap) (locs : List Loc), va_P D classes ([(h0, .inr (5, [.ref q1, .ref q2, .ref q3, .ref q4, .ref q5, .int cm, .int stp, .ref q6, .ref q7, .ref q8, .int mus, .int mc_, .int mb_, .ref q9])), (q6, .inl (ct.1, 6, .inr (.inl ax)))] ++ wt) H → va_D A ([(h0, .inr (5, [.ref q1, .ref q2, .ref q3, .ref q4, .ref q5, .int cm, .int stp, .ref q6, .ref q7, .ref q8, .int mus, .int mc_, .int mb_, .ref q9])), (q6, .inl (ct.1, 6, .inr (.inl ax)))] ++ wt) → va_S A s.heap H locs → ∀ (ls : Array Slot), lv_has ls 17 [(0, .ref h0)] → W p l e (headSpec w_M_goes rm_M_goes).room s m ([.ref h0] : List Value).toArray below meth c H locs 0 0 (MQ below (va_Qi (fun r u => (r, u) = r0) (fun (u : (Nat → Int64) × Int32) t => match u with | (ax', stp') => va_P D classes ([(h0, .inr (5, [.ref q1, .ref q2, .ref q3, .ref q4, .ref q5, .int cm, .int stp', .ref q6, .ref q7, .ref q8, .int mus, .int mc_, .int mb_, .ref q9])), (q6, .inl (ct.1, 6, .inr (.inl ax')))] ++ wt) t.heap ∧ va_D A ([(h0, .inr (5, [.ref q1, .ref q2, .ref q3, .ref q4, .ref q5, .int cm, .int stp', .ref q6, .ref q7, .ref q8, .int mus, .int mc_, .int mb_, .ref q9])), (q6, .inl (ct.1, 6, .inr (.inl ax')))] ++ wt)) A) ([.ref h0] : List Value).toArray s 0 0 A) (F0 m 134 ls []) := by
  have hK := hKK.1
  have hN := hKK.2.1
  have hO := hKK.2.2
  intro ax stp h H locs hP hD hS ls hl
  unfold jn_M_goes_134 at h
  refine lv_aload_n hx hb d_M_goes_134 rfl (lv_at hl 0 rfl) ?_
  refine va_get (D := D) (ci := 5) (v := .ref q6) (C := R_Model) (T := F_Model) (N := 14) hx hb htg i_Model hown hK hP 0 rfl rfl 7 (by decide) (htg _ tm_405) (fun _ h9 => h9) rfl d_M_goes_135 ?_
  refine lv_iconst (v := (3 : Int32)) hx hb d_M_goes_138 (by decide) ?_
  refine va_lald hx hb hK hP 1 0 rfl rfl (i := (3 : Int32)) (inb_in ix_3_6) d_M_goes_139 ?_
  refine lv_lconst (v := (0 : Int64)) hx hb d_M_goes_140 (by decide) ?_
  refine W.lcmp hx hb d_M_goes_141 ?_
  refine lv_if_ge (tgt := 149) hx hb d_M_goes_142 (by decide) (fun c_14 => ?_) (fun c_14 => ?_)
  · rw [if_pos c_14] at h
    refine lv_iconst (v := (0 : Int32)) hx hb d_M_goes_149 (by decide) ?_
    exact J_M_goes_150 h0 q1 q2 q3 q4 q5 q6 q7 q8 q9 cm mus mc_ mb_ r0 hx hb hr hml hown htg hlocks hKK hA (0 : Int32) ax stp h _ _ hP hD hS ls (lv_sub hl [0] rfl)
  · rw [if_neg c_14] at h
    refine lv_iconst (v := (1 : Int32)) hx hb d_M_goes_145 (by decide) ?_
    refine lv_goto (tgt := 150) hx hb d_M_goes_146 (by decide) ?_
    exact J_M_goes_150 h0 q1 q2 q3 q4 q5 q6 q7 q8 q9 cm mus mc_ mb_ r0 hx hb hr hml hown htg hlocks hKK hA (1 : Int32) ax stp h _ _ hP hD hS ls (lv_sub hl [0] rfl)
set_option maxHeartbeats 4000000 in
set_option maxRecDepth 100000 in
theorem J_M_goes_66 {p : Program} {l : Launch} {e : Env} {s : State} {m : MethodId} {below : List Frame} {meth : Method} {c : Code} {D : va_G} {ct : CT} {A : Nat → Prop} {wt : va_W} (h0 : Nat) (q1 : Nat) (q2 : Nat) (q3 : Nat) (q4 : Nat) (q5 : Nat) (q6 : Nat) (q7 : Nat) (q8 : Nat) (q9 : Nat) (cm : Int32) (mus : Int32) (mc_ : Int32) (mb_ : Int32) (r0 : Int32 × (Nat → Int64) × Int32) (hx : p.tables.exec = Jvm.exec) (hb : c.code = b_M_goes) (hr : meth.sig.returnType = (some .boolean)) (hml : c.maxLocals = 17) (hown : s.vm.findClass R_Model = some m.cls) (htg : ∀ w ∈ GW, w.before ([.ref h0] : List Value).toArray s = true) (hlocks : meth.locks = false) (hKK : KK D ct s) (hA : ∀ q : Nat, s.heap.size ≤ q → A q) : ∀ (ax : Nat → Int64) (stp : Int32), jn_M_goes_66  ax stp = some r0 → ∀ (H : Heap) (locs : List Loc), va_P D classes ([(h0, .inr (5, [.ref q1, .ref q2, .ref q3, .ref q4, .ref q5, .int cm, .int stp, .ref q6, .ref q7, .ref q8, .int mus, .int mc_, .int mb_, .ref q9])), (q6, .inl (ct.1, 6, .inr (.inl ax)))] ++ wt) H → va_D A ([(h0, .inr (5, [.ref q1, .ref q2, .ref q3, .ref q4, .ref q5, .int cm, .int stp, .ref q6, .ref q7, .ref q8, .int mus, .int mc_, .int mb_, .ref q9])), (q6, .inl (ct.1, 6, .inr (.inl ax)))] ++ wt) → va_S A s.heap H locs → ∀ (ls : Array Slot), lv_has ls 17 [(0, .ref h0)] → W p l e (headSpec w_M_goes rm_M_goes).room s m ([.ref h0] : List Value).toArray below meth c H locs 0 0 (MQ below (va_Qi (fun r u => (r, u) = r0) (fun (u : (Nat → Int64) × Int32) t => match u with | (ax', stp') => va_P D classes ([(h0, .inr (5, [.ref q1, .ref q2, .ref q3, .ref q4, .ref q5, .int cm, .int stp', .ref q6, .ref q7, .ref q8, .int mus, .int mc_, .int mb_, .ref q9])), (q6, .inl (ct.1, 6, .inr (.inl ax')))] ++ wt) t.heap ∧ va_D A ([(h0, .inr (5, [.ref q1, .ref q2, .ref q3, .ref q4, .ref q5, .int cm, .int stp', .ref q6, .ref q7, .ref q8, .int mus, .int mc_, .int mb_, .ref q9])), (q6, .inl (ct.1, 6, .inr (.inl ax')))] ++ wt)) A) ([.ref h0] : List Value).toArray s 0 0 A) (F0 m 66 ls []) := by
  have hK := hKK.1
  have hN := hKK.2.1
  have hO := hKK.2.2
  intro ax stp h H locs hP hD hS ls hl
  unfold jn_M_goes_66 at h
  refine lv_aload_n hx hb d_M_goes_66 rfl (lv_at hl 0 rfl) ?_
  refine va_get (D := D) (ci := 5) (v := .ref q6) (C := R_Model) (T := F_Model) (N := 14) hx hb htg i_Model hown hK hP 0 rfl rfl 7 (by decide) (htg _ tm_405) (fun _ h9 => h9) rfl d_M_goes_67 ?_
  refine lv_iconst (v := (1 : Int32)) hx hb d_M_goes_70 (by decide) ?_
  refine va_lald hx hb hK hP 1 0 rfl rfl (i := (1 : Int32)) (inb_in ix_1_6) d_M_goes_71 ?_
  refine lv_aload_n hx hb d_M_goes_72 rfl (lv_at hl 0 rfl) ?_
  refine va_get (D := D) (ci := 5) (v := .ref q6) (C := R_Model) (T := F_Model) (N := 14) hx hb htg i_Model hown hK hP 0 rfl rfl 7 (by decide) (htg _ tm_405) (fun _ h9 => h9) rfl d_M_goes_73 ?_
  refine lv_iconst (v := (2 : Int32)) hx hb d_M_goes_76 (by decide) ?_
  refine va_lald hx hb hK hP 1 0 rfl rfl (i := (2 : Int32)) (inb_in ix_2_6) d_M_goes_77 ?_
  refine W.lcmp hx hb d_M_goes_78 ?_
  refine lv_if_gt (tgt := 120) hx hb d_M_goes_79 (by decide) (fun c_6 => ?_) (fun c_6 => ?_)
  · rw [if_pos c_6] at h
    refine lv_aload_n hx hb d_M_goes_120 rfl (lv_at hl 0 rfl) ?_
    refine lv_iconst (v := (1 : Int32)) hx hb d_M_goes_121 (by decide) ?_
    refine lv_iconst (v := (2 : Int32)) hx hb d_M_goes_122 (by decide) ?_
    rcases e_8 : f_M_exch ax (1 : Int32) (2 : Int32) with _ | ax_7
    · rw [e_8] at h; cases h
    rw [e_8, Option.bind_some] at h
    try dsimp only at h
    refine va_callv (va_runV (As := [.int (1 : Int32), .int (2 : Int32)]) (rest := []) ⟨hx, hb, hml, hown, htg⟩ (c_M_exch l D ct A ([] ++ wt)  h0 q1 q2 q3 q4 q5 q6 q7 q8 q9 cm stp mus mc_ mb_ ax (1 : Int32) (2 : Int32)   _ e_8) (cwV 2 htg (giV tm_466 tm_468 tm_21 tm_34 g_M_exch) rfl rfl rfl (by decide +kernel) ⟨Nat.le_of_ble_eq_true rfl, Nat.le_of_ble_eq_true rfl⟩) (preVM hA hS hP hD hKK (va_recv hK hP (ci := 5) (q0 := 0) rfl rfl)) rfl rfl hl.1 rfl (lv_room (Nat.le_of_ble_eq_true rfl)) d_M_goes_123 ⟨Nat.le_of_ble_eq_true rfl, Nat.le_of_ble_eq_true rfl⟩) hS (fun q _ h9 => h9) (fun q h9 => h9) (fun u9 t9 H locs ht9 hvm9 hw9 hB9 hz9 hk9 hS => ?_)
    rw [hw9] at hB9
    obtain ⟨hP, hD⟩ := hB9
    rw [ht9] at hP
    have hP : va_P D classes ([(h0, .inr (5, [.ref q1, .ref q2, .ref q3, .ref q4, .ref q5, .int cm, .int stp, .ref q6, .ref q7, .ref q8, .int mus, .int mc_, .int mb_, .ref q9])), (q6, .inl (ct.1, 6, .inr (.inl ax_7)))] ++ wt) H := hP
    have hD : va_D A ([(h0, .inr (5, [.ref q1, .ref q2, .ref q3, .ref q4, .ref q5, .int cm, .int stp, .ref q6, .ref q7, .ref q8, .int mus, .int mc_, .int mb_, .ref q9])), (q6, .inl (ct.1, 6, .inr (.inl ax_7)))] ++ wt) := hD
    refine lv_aload_n hx hb d_M_goes_126 rfl (lv_at hl 0 rfl) ?_
    refine lv_iconst (v := (4 : Int32)) hx hb d_M_goes_127 (by decide) ?_
    refine lv_iconst (v := (5 : Int32)) hx hb d_M_goes_128 (by decide) ?_
    rcases e_10 : f_M_exch ax_7 (4 : Int32) (5 : Int32) with _ | ax_9
    · rw [e_10] at h; cases h
    rw [e_10, Option.bind_some] at h
    try dsimp only at h
    refine va_callv (va_runV (As := [.int (4 : Int32), .int (5 : Int32)]) (rest := []) ⟨hx, hb, hml, hown, htg⟩ (c_M_exch l D ct A ([] ++ wt)  h0 q1 q2 q3 q4 q5 q6 q7 q8 q9 cm stp mus mc_ mb_ ax_7 (4 : Int32) (5 : Int32)   _ e_10) (cwV 2 htg (giV tm_466 tm_468 tm_21 tm_34 g_M_exch) rfl rfl rfl (by decide +kernel) ⟨Nat.le_of_ble_eq_true rfl, Nat.le_of_ble_eq_true rfl⟩) (preVM hA hS hP hD hKK (va_recv hK hP (ci := 5) (q0 := 0) rfl rfl)) rfl rfl hl.1 rfl (lv_room (Nat.le_of_ble_eq_true rfl)) d_M_goes_129 ⟨Nat.le_of_ble_eq_true rfl, Nat.le_of_ble_eq_true rfl⟩) hS (fun q _ h9 => h9) (fun q h9 => h9) (fun u9 t9 H locs ht9 hvm9 hw9 hB9 hz9 hk9 hS => ?_)
    rw [hw9] at hB9
    obtain ⟨hP, hD⟩ := hB9
    rw [ht9] at hP
    have hP : va_P D classes ([(h0, .inr (5, [.ref q1, .ref q2, .ref q3, .ref q4, .ref q5, .int cm, .int stp, .ref q6, .ref q7, .ref q8, .int mus, .int mc_, .int mb_, .ref q9])), (q6, .inl (ct.1, 6, .inr (.inl ax_9)))] ++ wt) H := hP
    have hD : va_D A ([(h0, .inr (5, [.ref q1, .ref q2, .ref q3, .ref q4, .ref q5, .int cm, .int stp, .ref q6, .ref q7, .ref q8, .int mus, .int mc_, .int mb_, .ref q9])), (q6, .inl (ct.1, 6, .inr (.inl ax_9)))] ++ wt) := hD
    refine lv_iconst (v := (1 : Int32)) hx hb d_M_goes_132 (by decide) ?_
    exact W.zret (v := (1 : Int32)) (ty := .boolean) hx hb hr rfl (fun t ht hW => ⟨⟨(1 : Int32), (ax_9, stp), rfl, (Option.some.inj h), by rw [ht]; exact hP, hD⟩, hS.F ht⟩) hS.2.2 d_M_goes_133
  · rw [if_neg c_6] at h
    refine lv_aload_n hx hb d_M_goes_82 rfl (lv_at hl 0 rfl) ?_
    refine va_get (D := D) (ci := 5) (v := .ref q6) (C := R_Model) (T := F_Model) (N := 14) hx hb htg i_Model hown hK hP 0 rfl rfl 7 (by decide) (htg _ tm_405) (fun _ h9 => h9) rfl d_M_goes_83 ?_
    refine lv_iconst (v := (1 : Int32)) hx hb d_M_goes_86 (by decide) ?_
    refine va_lald hx hb hK hP 1 0 rfl rfl (i := (1 : Int32)) (inb_in ix_1_6) d_M_goes_87 ?_
    refine lv_aload_n hx hb d_M_goes_88 rfl (lv_at hl 0 rfl) ?_
    refine va_get (D := D) (ci := 5) (v := .ref q6) (C := R_Model) (T := F_Model) (N := 14) hx hb htg i_Model hown hK hP 0 rfl rfl 7 (by decide) (htg _ tm_405) (fun _ h9 => h9) rfl d_M_goes_89 ?_
    refine lv_iconst (v := (2 : Int32)) hx hb d_M_goes_92 (by decide) ?_
    refine va_lald hx hb hK hP 1 0 rfl rfl (i := (2 : Int32)) (inb_in ix_2_6) d_M_goes_93 ?_
    refine W.lcmp hx hb d_M_goes_94 ?_
    refine lv_if_ne (tgt := 134) hx hb d_M_goes_95 (by decide) (fun c_13 => ?_) (fun c_13 => ?_)
    · rw [if_neg c_13] at h
      exact J_M_goes_134 h0 q1 q2 q3 q4 q5 q6 q7 q8 q9 cm mus mc_ mb_ r0 hx hb hr hml hown htg hlocks hKK hA ax stp h _ _ hP hD hS ls (lv_sub hl [0] rfl)
    · rw [if_pos c_13] at h
      refine lv_aload_n hx hb d_M_goes_98 rfl (lv_at hl 0 rfl) ?_
      refine va_get (D := D) (ci := 5) (v := .ref q6) (C := R_Model) (T := F_Model) (N := 14) hx hb htg i_Model hown hK hP 0 rfl rfl 7 (by decide) (htg _ tm_405) (fun _ h9 => h9) rfl d_M_goes_99 ?_
      refine lv_iconst (v := (4 : Int32)) hx hb d_M_goes_102 (by decide) ?_
      refine va_lald hx hb hK hP 1 0 rfl rfl (i := (4 : Int32)) (inb_in ix_4_6) d_M_goes_103 ?_
      refine vp_callSl (va_Run.run (va_runS (As := [.long (ax (4 : Int32).toNatClampNeg)]) (rest := []) ⟨hx, hb, hml, hown, htg⟩ (c_M_size l D ct ([(h0, .inr (5, [.ref q1, .ref q2, .ref q3, .ref q4, .ref q5, .int cm, .int stp, .ref q6, .ref q7, .ref q8, .int mus, .int mc_, .int mb_, .ref q9])), (q6, .inl (ct.1, 6, .inr (.inl ax)))] ++ wt)  (ax (4 : Int32).toNatClampNeg)   _ rfl) (cwS 1 htg (giS tm_463 tm_464 tm_34 g_M_size) rfl rfl rfl (by decide +kernel) ⟨Nat.le_of_ble_eq_true rfl, Nat.le_of_ble_eq_true rfl⟩) (preS hP hKK) rfl rfl hl.1 rfl (lv_room (Nat.le_of_ble_eq_true rfl)) d_M_goes_104 ⟨Nat.le_of_ble_eq_true rfl, Nat.le_of_ble_eq_true rfl⟩)) (fun r9 hr9 => ?_)
      have hr9 := hr9.symm
      subst hr9
      refine lv_aload_n hx hb d_M_goes_107 rfl (lv_at hl 0 rfl) ?_
      refine va_get (D := D) (ci := 5) (v := .ref q6) (C := R_Model) (T := F_Model) (N := 14) hx hb htg i_Model hown hK hP 0 rfl rfl 7 (by decide) (htg _ tm_405) (fun _ h9 => h9) rfl d_M_goes_108 ?_
      refine lv_iconst (v := (5 : Int32)) hx hb d_M_goes_111 (by decide) ?_
      refine va_lald hx hb hK hP 1 0 rfl rfl (i := (5 : Int32)) (inb_in ix_5_6) d_M_goes_112 ?_
      refine vp_callSl (va_Run.run (va_runS (As := [.long (ax (5 : Int32).toNatClampNeg)]) (rest := [.long (f_M_size (ax (4 : Int32).toNatClampNeg))]) ⟨hx, hb, hml, hown, htg⟩ (c_M_size l D ct ([(h0, .inr (5, [.ref q1, .ref q2, .ref q3, .ref q4, .ref q5, .int cm, .int stp, .ref q6, .ref q7, .ref q8, .int mus, .int mc_, .int mb_, .ref q9])), (q6, .inl (ct.1, 6, .inr (.inl ax)))] ++ wt)  (ax (5 : Int32).toNatClampNeg)   _ rfl) (cwS 1 htg (giS tm_463 tm_464 tm_34 g_M_size) rfl rfl rfl (by decide +kernel) ⟨Nat.le_of_ble_eq_true rfl, Nat.le_of_ble_eq_true rfl⟩) (preS hP hKK) rfl rfl hl.1 rfl (lv_room (Nat.le_of_ble_eq_true rfl)) d_M_goes_113 ⟨Nat.le_of_ble_eq_true rfl, Nat.le_of_ble_eq_true rfl⟩)) (fun r9 hr9 => ?_)
      have hr9 := hr9.symm
      subst hr9
      refine W.lcmp hx hb d_M_goes_116 ?_
      refine lv_if_le (tgt := 134) hx hb d_M_goes_117 (by decide) (fun c_61 => ?_) (fun c_61 => ?_)
      · rw [if_pos c_61] at h
        exact J_M_goes_134 h0 q1 q2 q3 q4 q5 q6 q7 q8 q9 cm mus mc_ mb_ r0 hx hb hr hml hown htg hlocks hKK hA ax stp h _ _ hP hD hS ls (lv_sub hl [0] rfl)
      · rw [if_neg c_61] at h
        refine lv_aload_n hx hb d_M_goes_120 rfl (lv_at hl 0 rfl) ?_
        refine lv_iconst (v := (1 : Int32)) hx hb d_M_goes_121 (by decide) ?_
        refine lv_iconst (v := (2 : Int32)) hx hb d_M_goes_122 (by decide) ?_
        rcases e_63 : f_M_exch ax (1 : Int32) (2 : Int32) with _ | ax_62
        · rw [e_63] at h; cases h
        rw [e_63, Option.bind_some] at h
        try dsimp only at h
        refine va_callv (va_runV (As := [.int (1 : Int32), .int (2 : Int32)]) (rest := []) ⟨hx, hb, hml, hown, htg⟩ (c_M_exch l D ct A ([] ++ wt)  h0 q1 q2 q3 q4 q5 q6 q7 q8 q9 cm stp mus mc_ mb_ ax (1 : Int32) (2 : Int32)   _ e_63) (cwV 2 htg (giV tm_466 tm_468 tm_21 tm_34 g_M_exch) rfl rfl rfl (by decide +kernel) ⟨Nat.le_of_ble_eq_true rfl, Nat.le_of_ble_eq_true rfl⟩) (preVM hA hS hP hD hKK (va_recv hK hP (ci := 5) (q0 := 0) rfl rfl)) rfl rfl hl.1 rfl (lv_room (Nat.le_of_ble_eq_true rfl)) d_M_goes_123 ⟨Nat.le_of_ble_eq_true rfl, Nat.le_of_ble_eq_true rfl⟩) hS (fun q _ h9 => h9) (fun q h9 => h9) (fun u9 t9 H locs ht9 hvm9 hw9 hB9 hz9 hk9 hS => ?_)
        rw [hw9] at hB9
        obtain ⟨hP, hD⟩ := hB9
        rw [ht9] at hP
        have hP : va_P D classes ([(h0, .inr (5, [.ref q1, .ref q2, .ref q3, .ref q4, .ref q5, .int cm, .int stp, .ref q6, .ref q7, .ref q8, .int mus, .int mc_, .int mb_, .ref q9])), (q6, .inl (ct.1, 6, .inr (.inl ax_62)))] ++ wt) H := hP
        have hD : va_D A ([(h0, .inr (5, [.ref q1, .ref q2, .ref q3, .ref q4, .ref q5, .int cm, .int stp, .ref q6, .ref q7, .ref q8, .int mus, .int mc_, .int mb_, .ref q9])), (q6, .inl (ct.1, 6, .inr (.inl ax_62)))] ++ wt) := hD
        refine lv_aload_n hx hb d_M_goes_126 rfl (lv_at hl 0 rfl) ?_
        refine lv_iconst (v := (4 : Int32)) hx hb d_M_goes_127 (by decide) ?_
        refine lv_iconst (v := (5 : Int32)) hx hb d_M_goes_128 (by decide) ?_
        rcases e_65 : f_M_exch ax_62 (4 : Int32) (5 : Int32) with _ | ax_64
        · rw [e_65] at h; cases h
        rw [e_65, Option.bind_some] at h
        try dsimp only at h
        refine va_callv (va_runV (As := [.int (4 : Int32), .int (5 : Int32)]) (rest := []) ⟨hx, hb, hml, hown, htg⟩ (c_M_exch l D ct A ([] ++ wt)  h0 q1 q2 q3 q4 q5 q6 q7 q8 q9 cm stp mus mc_ mb_ ax_62 (4 : Int32) (5 : Int32)   _ e_65) (cwV 2 htg (giV tm_466 tm_468 tm_21 tm_34 g_M_exch) rfl rfl rfl (by decide +kernel) ⟨Nat.le_of_ble_eq_true rfl, Nat.le_of_ble_eq_true rfl⟩) (preVM hA hS hP hD hKK (va_recv hK hP (ci := 5) (q0 := 0) rfl rfl)) rfl rfl hl.1 rfl (lv_room (Nat.le_of_ble_eq_true rfl)) d_M_goes_129 ⟨Nat.le_of_ble_eq_true rfl, Nat.le_of_ble_eq_true rfl⟩) hS (fun q _ h9 => h9) (fun q h9 => h9) (fun u9 t9 H locs ht9 hvm9 hw9 hB9 hz9 hk9 hS => ?_)
        rw [hw9] at hB9
        obtain ⟨hP, hD⟩ := hB9
        rw [ht9] at hP
        have hP : va_P D classes ([(h0, .inr (5, [.ref q1, .ref q2, .ref q3, .ref q4, .ref q5, .int cm, .int stp, .ref q6, .ref q7, .ref q8, .int mus, .int mc_, .int mb_, .ref q9])), (q6, .inl (ct.1, 6, .inr (.inl ax_64)))] ++ wt) H := hP
        have hD : va_D A ([(h0, .inr (5, [.ref q1, .ref q2, .ref q3, .ref q4, .ref q5, .int cm, .int stp, .ref q6, .ref q7, .ref q8, .int mus, .int mc_, .int mb_, .ref q9])), (q6, .inl (ct.1, 6, .inr (.inl ax_64)))] ++ wt) := hD
        refine lv_iconst (v := (1 : Int32)) hx hb d_M_goes_132 (by decide) ?_
        exact W.zret (v := (1 : Int32)) (ty := .boolean) hx hb hr rfl (fun t ht hW => ⟨⟨(1 : Int32), (ax_64, stp), rfl, (Option.some.inj h), by rw [ht]; exact hP, hD⟩, hS.F ht⟩) hS.2.2 d_M_goes_133
set_option maxHeartbeats 4000000 in
set_option maxRecDepth 100000 in
theorem c_M_goes (l : Launch) (D : va_G) (ct : CT) (A : Nat → Prop) (wt : va_W)  (h0 : Nat) (q1 : Nat) (q2 : Nat) (q3 : Nat) (q4 : Nat) (q5 : Nat) (q6 : Nat) (q7 : Nat) (q8 : Nat) (q9 : Nat) (cm : Int32) (stp : Int32) (mus : Int32) (mc_ : Int32) (mb_ : Int32) (ax : Nat → Int64)   (r0 : Int32 × (Nat → Int64) × Int32) (h : f_M_goes ax stp = some r0) : Met l y_M_goes w_M_goes rm_M_goes (va_Pc [.ref h0] (PreM D ct A ([(h0, .inr (5, [.ref q1, .ref q2, .ref q3, .ref q4, .ref q5, .int cm, .int stp, .ref q6, .ref q7, .ref q8, .int mus, .int mc_, .int mb_, .ref q9])), (q6, .inl (ct.1, 6, .inr (.inl ax)))] ++ wt))) (va_Qi (fun r u => (r, u) = r0) (fun (u : (Nat → Int64) × Int32) t => match u with | (ax', stp') => va_P D classes ([(h0, .inr (5, [.ref q1, .ref q2, .ref q3, .ref q4, .ref q5, .int cm, .int stp', .ref q6, .ref q7, .ref q8, .int mus, .int mc_, .int mb_, .ref q9])), (q6, .inl (ct.1, 6, .inr (.inl ax')))] ++ wt) t.heap ∧ va_D A ([(h0, .inr (5, [.ref q1, .ref q2, .ref q3, .ref q4, .ref q5, .int cm, .int stp', .ref q6, .ref q7, .ref q8, .int mus, .int mc_, .int mb_, .ref q9])), (q6, .inl (ct.1, 6, .inr (.inl ax')))] ++ wt)) A) 0 0 A := by
  refine Met.ofW (cc := b_M_goes) (maxL := 17) (ret := (some .boolean)) (by decide) rfl ?_
  intro p e s m args below meth c s₁ B hml hv
  obtain ⟨rfl, hA, hP, hD, hKK⟩ := hv
  have hx := B.exec
  have hb := B.bytes
  have hr := B.returns
  have htg := ht_tl (atoms_spec (ws := w_M_goes) B.pre)
  have hown : s.vm.findClass R_Model = some m.cls := findClass_of_methodNamed B.named
  have hlocks := B.notSynchronized
  have hK := hKK.1
  have hN := hKK.2.1
  have hO := hKK.2.2
  have hS : va_S A s.heap s.heap [] := va_S.rf
  have hl := lv_entry ([.ref h0]) (n := 17) (Nat.le_of_ble_eq_true rfl)
  rw [lg_entry_eq]
  generalize (lg_sl ([.ref h0]) ++ List.replicate (17 - (lg_sl ([.ref h0])).length) Slot.unset).toArray = ls at hl ⊢
  have hl : lv_has ls 17 [(0, .ref h0)] := hl
  unfold f_M_goes at h
  refine lv_aload_n hx hb d_M_goes_0 rfl (lv_at hl 0 rfl) ?_
  refine va_get (D := D) (ci := 5) (v := .ref q6) (C := R_Model) (T := F_Model) (N := 14) hx hb htg i_Model hown hK hP 0 rfl rfl 7 (by decide) (htg _ tm_405) (fun _ h9 => h9) rfl d_M_goes_1 ?_
  refine lv_iconst (v := (0 : Int32)) hx hb d_M_goes_4 (by decide) ?_
  refine va_lald hx hb hK hP 1 0 rfl rfl (i := (0 : Int32)) (inb_in ix_0_6) d_M_goes_5 ?_
  refine lv_aload_n hx hb d_M_goes_6 rfl (lv_at hl 0 rfl) ?_
  refine va_get (D := D) (ci := 5) (v := .ref q6) (C := R_Model) (T := F_Model) (N := 14) hx hb htg i_Model hown hK hP 0 rfl rfl 7 (by decide) (htg _ tm_405) (fun _ h9 => h9) rfl d_M_goes_7 ?_
  refine lv_iconst (v := (1 : Int32)) hx hb d_M_goes_10 (by decide) ?_
  refine va_lald hx hb hK hP 1 0 rfl rfl (i := (1 : Int32)) (inb_in ix_1_6) d_M_goes_11 ?_
  refine W.lcmp hx hb d_M_goes_12 ?_
  refine lv_if_gt (tgt := 54) hx hb d_M_goes_13 (by decide) (fun c_1 => ?_) (fun c_1 => ?_)
  · rw [if_pos c_1] at h
    refine lv_aload_n hx hb d_M_goes_54 rfl (lv_at hl 0 rfl) ?_
    refine lv_iconst (v := (0 : Int32)) hx hb d_M_goes_55 (by decide) ?_
    refine lv_iconst (v := (1 : Int32)) hx hb d_M_goes_56 (by decide) ?_
    rcases e_3 : f_M_exch ax (0 : Int32) (1 : Int32) with _ | ax_2
    · rw [e_3] at h; cases h
    rw [e_3, Option.bind_some] at h
    try dsimp only at h
    refine va_callv (va_runV (As := [.int (0 : Int32), .int (1 : Int32)]) (rest := []) ⟨hx, hb, hml, hown, htg⟩ (c_M_exch l D ct A ([] ++ wt)  h0 q1 q2 q3 q4 q5 q6 q7 q8 q9 cm stp mus mc_ mb_ ax (0 : Int32) (1 : Int32)   _ e_3) (cwV 2 htg (giV tm_466 tm_468 tm_21 tm_34 g_M_exch) rfl rfl rfl (by decide +kernel) ⟨Nat.le_of_ble_eq_true rfl, Nat.le_of_ble_eq_true rfl⟩) (preVM hA hS hP hD hKK (va_recv hK hP (ci := 5) (q0 := 0) rfl rfl)) rfl rfl hl.1 rfl (lv_room (Nat.le_of_ble_eq_true rfl)) d_M_goes_57 ⟨Nat.le_of_ble_eq_true rfl, Nat.le_of_ble_eq_true rfl⟩) hS (fun q _ h9 => h9) (fun q h9 => h9) (fun u9 t9 H locs ht9 hvm9 hw9 hB9 hz9 hk9 hS => ?_)
    rw [hw9] at hB9
    obtain ⟨hP, hD⟩ := hB9
    rw [ht9] at hP
    have hP : va_P D classes ([(h0, .inr (5, [.ref q1, .ref q2, .ref q3, .ref q4, .ref q5, .int cm, .int stp, .ref q6, .ref q7, .ref q8, .int mus, .int mc_, .int mb_, .ref q9])), (q6, .inl (ct.1, 6, .inr (.inl ax_2)))] ++ wt) H := hP
    have hD : va_D A ([(h0, .inr (5, [.ref q1, .ref q2, .ref q3, .ref q4, .ref q5, .int cm, .int stp, .ref q6, .ref q7, .ref q8, .int mus, .int mc_, .int mb_, .ref q9])), (q6, .inl (ct.1, 6, .inr (.inl ax_2)))] ++ wt) := hD
    refine lv_aload_n hx hb d_M_goes_60 rfl (lv_at hl 0 rfl) ?_
    refine lv_iconst (v := (3 : Int32)) hx hb d_M_goes_61 (by decide) ?_
    refine lv_iconst (v := (4 : Int32)) hx hb d_M_goes_62 (by decide) ?_
    rcases e_5 : f_M_exch ax_2 (3 : Int32) (4 : Int32) with _ | ax_4
    · rw [e_5] at h; cases h
    rw [e_5, Option.bind_some] at h
    try dsimp only at h
    refine va_callv (va_runV (As := [.int (3 : Int32), .int (4 : Int32)]) (rest := []) ⟨hx, hb, hml, hown, htg⟩ (c_M_exch l D ct A ([] ++ wt)  h0 q1 q2 q3 q4 q5 q6 q7 q8 q9 cm stp mus mc_ mb_ ax_2 (3 : Int32) (4 : Int32)   _ e_5) (cwV 2 htg (giV tm_466 tm_468 tm_21 tm_34 g_M_exch) rfl rfl rfl (by decide +kernel) ⟨Nat.le_of_ble_eq_true rfl, Nat.le_of_ble_eq_true rfl⟩) (preVM hA hS hP hD hKK (va_recv hK hP (ci := 5) (q0 := 0) rfl rfl)) rfl rfl hl.1 rfl (lv_room (Nat.le_of_ble_eq_true rfl)) d_M_goes_63 ⟨Nat.le_of_ble_eq_true rfl, Nat.le_of_ble_eq_true rfl⟩) hS (fun q _ h9 => h9) (fun q h9 => h9) (fun u9 t9 H locs ht9 hvm9 hw9 hB9 hz9 hk9 hS => ?_)
    rw [hw9] at hB9
    obtain ⟨hP, hD⟩ := hB9
    rw [ht9] at hP
    have hP : va_P D classes ([(h0, .inr (5, [.ref q1, .ref q2, .ref q3, .ref q4, .ref q5, .int cm, .int stp, .ref q6, .ref q7, .ref q8, .int mus, .int mc_, .int mb_, .ref q9])), (q6, .inl (ct.1, 6, .inr (.inl ax_4)))] ++ wt) H := hP
    have hD : va_D A ([(h0, .inr (5, [.ref q1, .ref q2, .ref q3, .ref q4, .ref q5, .int cm, .int stp, .ref q6, .ref q7, .ref q8, .int mus, .int mc_, .int mb_, .ref q9])), (q6, .inl (ct.1, 6, .inr (.inl ax_4)))] ++ wt) := hD
    exact J_M_goes_66 h0 q1 q2 q3 q4 q5 q6 q7 q8 q9 cm mus mc_ mb_ r0 hx hb hr hml hown htg hlocks hKK hA ax_4 stp h _ _ hP hD hS ls (lv_sub hl [0] rfl)
  · rw [if_neg c_1] at h
    refine lv_aload_n hx hb d_M_goes_16 rfl (lv_at hl 0 rfl) ?_
    refine va_get (D := D) (ci := 5) (v := .ref q6) (C := R_Model) (T := F_Model) (N := 14) hx hb htg i_Model hown hK hP 0 rfl rfl 7 (by decide) (htg _ tm_405) (fun _ h9 => h9) rfl d_M_goes_17 ?_
    refine lv_iconst (v := (0 : Int32)) hx hb d_M_goes_20 (by decide) ?_
    refine va_lald hx hb hK hP 1 0 rfl rfl (i := (0 : Int32)) (inb_in ix_0_6) d_M_goes_21 ?_
    refine lv_aload_n hx hb d_M_goes_22 rfl (lv_at hl 0 rfl) ?_
    refine va_get (D := D) (ci := 5) (v := .ref q6) (C := R_Model) (T := F_Model) (N := 14) hx hb htg i_Model hown hK hP 0 rfl rfl 7 (by decide) (htg _ tm_405) (fun _ h9 => h9) rfl d_M_goes_23 ?_
    refine lv_iconst (v := (1 : Int32)) hx hb d_M_goes_26 (by decide) ?_
    refine va_lald hx hb hK hP 1 0 rfl rfl (i := (1 : Int32)) (inb_in ix_1_6) d_M_goes_27 ?_
    refine W.lcmp hx hb d_M_goes_28 ?_
    refine lv_if_ne (tgt := 66) hx hb d_M_goes_29 (by decide) (fun c_70 => ?_) (fun c_70 => ?_)
    · rw [if_neg c_70] at h
      exact J_M_goes_66 h0 q1 q2 q3 q4 q5 q6 q7 q8 q9 cm mus mc_ mb_ r0 hx hb hr hml hown htg hlocks hKK hA ax stp h _ _ hP hD hS ls (lv_sub hl [0] rfl)
    · rw [if_pos c_70] at h
      refine lv_aload_n hx hb d_M_goes_32 rfl (lv_at hl 0 rfl) ?_
      refine va_get (D := D) (ci := 5) (v := .ref q6) (C := R_Model) (T := F_Model) (N := 14) hx hb htg i_Model hown hK hP 0 rfl rfl 7 (by decide) (htg _ tm_405) (fun _ h9 => h9) rfl d_M_goes_33 ?_
      refine lv_iconst (v := (3 : Int32)) hx hb d_M_goes_36 (by decide) ?_
      refine va_lald hx hb hK hP 1 0 rfl rfl (i := (3 : Int32)) (inb_in ix_3_6) d_M_goes_37 ?_
      refine vp_callSl (va_Run.run (va_runS (As := [.long (ax (3 : Int32).toNatClampNeg)]) (rest := []) ⟨hx, hb, hml, hown, htg⟩ (c_M_size l D ct ([(h0, .inr (5, [.ref q1, .ref q2, .ref q3, .ref q4, .ref q5, .int cm, .int stp, .ref q6, .ref q7, .ref q8, .int mus, .int mc_, .int mb_, .ref q9])), (q6, .inl (ct.1, 6, .inr (.inl ax)))] ++ wt)  (ax (3 : Int32).toNatClampNeg)   _ rfl) (cwS 1 htg (giS tm_463 tm_464 tm_34 g_M_size) rfl rfl rfl (by decide +kernel) ⟨Nat.le_of_ble_eq_true rfl, Nat.le_of_ble_eq_true rfl⟩) (preS hP hKK) rfl rfl hl.1 rfl (lv_room (Nat.le_of_ble_eq_true rfl)) d_M_goes_38 ⟨Nat.le_of_ble_eq_true rfl, Nat.le_of_ble_eq_true rfl⟩)) (fun r9 hr9 => ?_)
      have hr9 := hr9.symm
      subst hr9
      refine lv_aload_n hx hb d_M_goes_41 rfl (lv_at hl 0 rfl) ?_
      refine va_get (D := D) (ci := 5) (v := .ref q6) (C := R_Model) (T := F_Model) (N := 14) hx hb htg i_Model hown hK hP 0 rfl rfl 7 (by decide) (htg _ tm_405) (fun _ h9 => h9) rfl d_M_goes_42 ?_
      refine lv_iconst (v := (4 : Int32)) hx hb d_M_goes_45 (by decide) ?_
      refine va_lald hx hb hK hP 1 0 rfl rfl (i := (4 : Int32)) (inb_in ix_4_6) d_M_goes_46 ?_
      refine vp_callSl (va_Run.run (va_runS (As := [.long (ax (4 : Int32).toNatClampNeg)]) (rest := [.long (f_M_size (ax (3 : Int32).toNatClampNeg))]) ⟨hx, hb, hml, hown, htg⟩ (c_M_size l D ct ([(h0, .inr (5, [.ref q1, .ref q2, .ref q3, .ref q4, .ref q5, .int cm, .int stp, .ref q6, .ref q7, .ref q8, .int mus, .int mc_, .int mb_, .ref q9])), (q6, .inl (ct.1, 6, .inr (.inl ax)))] ++ wt)  (ax (4 : Int32).toNatClampNeg)   _ rfl) (cwS 1 htg (giS tm_463 tm_464 tm_34 g_M_size) rfl rfl rfl (by decide +kernel) ⟨Nat.le_of_ble_eq_true rfl, Nat.le_of_ble_eq_true rfl⟩) (preS hP hKK) rfl rfl hl.1 rfl (lv_room (Nat.le_of_ble_eq_true rfl)) d_M_goes_47 ⟨Nat.le_of_ble_eq_true rfl, Nat.le_of_ble_eq_true rfl⟩)) (fun r9 hr9 => ?_)
      have hr9 := hr9.symm
      subst hr9
      refine W.lcmp hx hb d_M_goes_50 ?_
      refine lv_if_le (tgt := 66) hx hb d_M_goes_51 (by decide) (fun c_71 => ?_) (fun c_71 => ?_)
      · rw [if_pos c_71] at h
        exact J_M_goes_66 h0 q1 q2 q3 q4 q5 q6 q7 q8 q9 cm mus mc_ mb_ r0 hx hb hr hml hown htg hlocks hKK hA ax stp h _ _ hP hD hS ls (lv_sub hl [0] rfl)
      · rw [if_neg c_71] at h
        refine lv_aload_n hx hb d_M_goes_54 rfl (lv_at hl 0 rfl) ?_
        refine lv_iconst (v := (0 : Int32)) hx hb d_M_goes_55 (by decide) ?_
        refine lv_iconst (v := (1 : Int32)) hx hb d_M_goes_56 (by decide) ?_
        rcases e_73 : f_M_exch ax (0 : Int32) (1 : Int32) with _ | ax_72
        · rw [e_73] at h; cases h
        rw [e_73, Option.bind_some] at h
        try dsimp only at h
        refine va_callv (va_runV (As := [.int (0 : Int32), .int (1 : Int32)]) (rest := []) ⟨hx, hb, hml, hown, htg⟩ (c_M_exch l D ct A ([] ++ wt)  h0 q1 q2 q3 q4 q5 q6 q7 q8 q9 cm stp mus mc_ mb_ ax (0 : Int32) (1 : Int32)   _ e_73) (cwV 2 htg (giV tm_466 tm_468 tm_21 tm_34 g_M_exch) rfl rfl rfl (by decide +kernel) ⟨Nat.le_of_ble_eq_true rfl, Nat.le_of_ble_eq_true rfl⟩) (preVM hA hS hP hD hKK (va_recv hK hP (ci := 5) (q0 := 0) rfl rfl)) rfl rfl hl.1 rfl (lv_room (Nat.le_of_ble_eq_true rfl)) d_M_goes_57 ⟨Nat.le_of_ble_eq_true rfl, Nat.le_of_ble_eq_true rfl⟩) hS (fun q _ h9 => h9) (fun q h9 => h9) (fun u9 t9 H locs ht9 hvm9 hw9 hB9 hz9 hk9 hS => ?_)
        rw [hw9] at hB9
        obtain ⟨hP, hD⟩ := hB9
        rw [ht9] at hP
        have hP : va_P D classes ([(h0, .inr (5, [.ref q1, .ref q2, .ref q3, .ref q4, .ref q5, .int cm, .int stp, .ref q6, .ref q7, .ref q8, .int mus, .int mc_, .int mb_, .ref q9])), (q6, .inl (ct.1, 6, .inr (.inl ax_72)))] ++ wt) H := hP
        have hD : va_D A ([(h0, .inr (5, [.ref q1, .ref q2, .ref q3, .ref q4, .ref q5, .int cm, .int stp, .ref q6, .ref q7, .ref q8, .int mus, .int mc_, .int mb_, .ref q9])), (q6, .inl (ct.1, 6, .inr (.inl ax_72)))] ++ wt) := hD
        refine lv_aload_n hx hb d_M_goes_60 rfl (lv_at hl 0 rfl) ?_
        refine lv_iconst (v := (3 : Int32)) hx hb d_M_goes_61 (by decide) ?_
        refine lv_iconst (v := (4 : Int32)) hx hb d_M_goes_62 (by decide) ?_
        rcases e_75 : f_M_exch ax_72 (3 : Int32) (4 : Int32) with _ | ax_74
        · rw [e_75] at h; cases h
        rw [e_75, Option.bind_some] at h
        try dsimp only at h
        refine va_callv (va_runV (As := [.int (3 : Int32), .int (4 : Int32)]) (rest := []) ⟨hx, hb, hml, hown, htg⟩ (c_M_exch l D ct A ([] ++ wt)  h0 q1 q2 q3 q4 q5 q6 q7 q8 q9 cm stp mus mc_ mb_ ax_72 (3 : Int32) (4 : Int32)   _ e_75) (cwV 2 htg (giV tm_466 tm_468 tm_21 tm_34 g_M_exch) rfl rfl rfl (by decide +kernel) ⟨Nat.le_of_ble_eq_true rfl, Nat.le_of_ble_eq_true rfl⟩) (preVM hA hS hP hD hKK (va_recv hK hP (ci := 5) (q0 := 0) rfl rfl)) rfl rfl hl.1 rfl (lv_room (Nat.le_of_ble_eq_true rfl)) d_M_goes_63 ⟨Nat.le_of_ble_eq_true rfl, Nat.le_of_ble_eq_true rfl⟩) hS (fun q _ h9 => h9) (fun q h9 => h9) (fun u9 t9 H locs ht9 hvm9 hw9 hB9 hz9 hk9 hS => ?_)
        rw [hw9] at hB9
        obtain ⟨hP, hD⟩ := hB9
        rw [ht9] at hP
        have hP : va_P D classes ([(h0, .inr (5, [.ref q1, .ref q2, .ref q3, .ref q4, .ref q5, .int cm, .int stp, .ref q6, .ref q7, .ref q8, .int mus, .int mc_, .int mb_, .ref q9])), (q6, .inl (ct.1, 6, .inr (.inl ax_74)))] ++ wt) H := hP
        have hD : va_D A ([(h0, .inr (5, [.ref q1, .ref q2, .ref q3, .ref q4, .ref q5, .int cm, .int stp, .ref q6, .ref q7, .ref q8, .int mus, .int mc_, .int mb_, .ref q9])), (q6, .inl (ct.1, 6, .inr (.inl ax_74)))] ++ wt) := hD
        exact J_M_goes_66 h0 q1 q2 q3 q4 q5 q6 q7 q8 q9 cm mus mc_ mb_ r0 hx hb hr hml hown htg hlocks hKK hA ax_74 stp h _ _ hP hD hS ls (lv_sub hl [0] rfl)
-- CellBenchModel reduce ()V
def lp_M_reduce_2  : Nat → Int32 → (Nat → Int64) → Int32 → Option (Int32 × (Nat → Int64) × Int32)
  | 0, _, _, _ => none
  | n + 1, kk, ax, stp =>
    if (6 : Int32) ≤ kk then (some (kk, ax, stp)) else (if inb kk 6 = true then (if inb kk 6 = true then (lp_M_reduce_2  n (kk + (1 : Int32)) (vp_updL ax kk.toNatClampNeg ((2 : Int64) * (ax kk.toNatClampNeg))) stp) else none) else none)
def lp_M_reduce_32  : Nat → Int32 → (Nat → Int64) → Int32 → Option (Int32 × (Nat → Int64) × Int32)
  | 0, _, _, _ => none
  | n + 1, mo, ax, stp =>
    if mo = 0 then (some (mo, ax, stp)) else (Option.bind (f_M_goes ax stp) (fun z_13 => (lp_M_reduce_32  n z_13.1 z_13.2.1 z_13.2.2)))
def lp_M_reduce_46  : Nat → Int32 → Int32 → (Nat → Int64) → Int32 → Option ((Nat → Int64) × Int32)
  | 0, _, _, _, _ => none
  | n + 1, mo, kk, ax, stp =>
    if (6 : Int32) ≤ kk then (some (ax, stp)) else (if inb kk 6 = true then (if inb kk 6 = true then (lp_M_reduce_46  n mo (kk + (1 : Int32)) (vp_updL ax kk.toNatClampNeg ((ax kk.toNatClampNeg) / (2 : Int64))) stp) else none) else none)
def f_M_reduce (ax : Nat → Int64) (stp : Int32) : Option ((Nat → Int64) × Int32) :=
    Option.bind (lp_M_reduce_2  4 (3 : Int32) ax stp) (fun z_22 => (Option.bind (lp_M_reduce_32  1000000000 (1 : Int32) z_22.2.1 z_22.2.2) (fun z_21 => (lp_M_reduce_46  4 z_21.1 (3 : Int32) z_21.2.1 z_21.2.2))))
def w_M_reduce : List Cond := .code y_M_reduce b_M_reduce 3 none :: GW
abbrev rm_M_reduce : Room := { frames := 2, cells := 0, slots := 0, locals := 60 }
theorem g_M_reduce : GoodIn GW w_M_reduce := gi tm_457
set_option maxHeartbeats 4000000 in
set_option maxRecDepth 100000 in
theorem c_M_reduce (l : Launch) (D : va_G) (ct : CT) (A : Nat → Prop) (wt : va_W)  (h0 : Nat) (q1 : Nat) (q2 : Nat) (q3 : Nat) (q4 : Nat) (q5 : Nat) (q6 : Nat) (q7 : Nat) (q8 : Nat) (q9 : Nat) (cm : Int32) (stp : Int32) (mus : Int32) (mc_ : Int32) (mb_ : Int32) (ax : Nat → Int64)   (r0 : (Nat → Int64) × Int32) (h : f_M_reduce ax stp = some r0) : Met l y_M_reduce w_M_reduce rm_M_reduce (va_Pc [.ref h0] (PreM D ct A ([(h0, .inr (5, [.ref q1, .ref q2, .ref q3, .ref q4, .ref q5, .int cm, .int stp, .ref q6, .ref q7, .ref q8, .int mus, .int mc_, .int mb_, .ref q9])), (q6, .inl (ct.1, 6, .inr (.inl ax)))] ++ wt))) (va_Qv (fun u => u = r0) (fun (u : (Nat → Int64) × Int32) t => match u with | (ax', stp') => va_P D classes ([(h0, .inr (5, [.ref q1, .ref q2, .ref q3, .ref q4, .ref q5, .int cm, .int stp', .ref q6, .ref q7, .ref q8, .int mus, .int mc_, .int mb_, .ref q9])), (q6, .inl (ct.1, 6, .inr (.inl ax')))] ++ wt) t.heap ∧ va_D A ([(h0, .inr (5, [.ref q1, .ref q2, .ref q3, .ref q4, .ref q5, .int cm, .int stp', .ref q6, .ref q7, .ref q8, .int mus, .int mc_, .int mb_, .ref q9])), (q6, .inl (ct.1, 6, .inr (.inl ax')))] ++ wt)) A) 0 0 A := by
  refine Met.ofW (cc := b_M_reduce) (maxL := 3) (ret := none) (by decide) rfl ?_
  intro p e s m args below meth c s₁ B hml hv
  obtain ⟨rfl, hA, hP, hD, hKK⟩ := hv
  have hx := B.exec
  have hb := B.bytes
  have hr := B.returns
  have htg := ht_tl (atoms_spec (ws := w_M_reduce) B.pre)
  have hown : s.vm.findClass R_Model = some m.cls := findClass_of_methodNamed B.named
  have hlocks := B.notSynchronized
  have hK := hKK.1
  have hN := hKK.2.1
  have hO := hKK.2.2
  have hS : va_S A s.heap s.heap [] := va_S.rf
  have hl := lv_entry ([.ref h0]) (n := 3) (Nat.le_of_ble_eq_true rfl)
  rw [lg_entry_eq]
  generalize (lg_sl ([.ref h0]) ++ List.replicate (3 - (lg_sl ([.ref h0])).length) Slot.unset).toArray = ls at hl ⊢
  have hl : lv_has ls 3 [(0, .ref h0)] := hl
  unfold f_M_reduce at h
  refine lv_iconst (v := (3 : Int32)) hx hb d_M_reduce_0 (by decide) ?_
  refine lv_istore_n (lv' := [(1, .int (3 : Int32)), (0, .ref h0)]) hx hb d_M_reduce_1 rfl hl (by decide) rfl (fun ls hl => ?_)
  have L_2 : ∀ (n : Nat) (kk : Int32) (ax : Nat → Int64) (stp : Int32) (kk' : Int32) (ax' : Nat → Int64) (stp' : Int32), lp_M_reduce_2  n kk ax stp = some (kk', ax', stp') → ∀ (H : Heap) (locs : List Loc), va_P D classes ([(h0, .inr (5, [.ref q1, .ref q2, .ref q3, .ref q4, .ref q5, .int cm, .int stp, .ref q6, .ref q7, .ref q8, .int mus, .int mc_, .int mb_, .ref q9])), (q6, .inl (ct.1, 6, .inr (.inl ax)))] ++ wt) H → va_D A ([(h0, .inr (5, [.ref q1, .ref q2, .ref q3, .ref q4, .ref q5, .int cm, .int stp, .ref q6, .ref q7, .ref q8, .int mus, .int mc_, .int mb_, .ref q9])), (q6, .inl (ct.1, 6, .inr (.inl ax)))] ++ wt) → va_S A s.heap H locs → ∀ (ls : Array Slot), lv_has ls 3 [(1, .int kk), (0, .ref h0)] → (∀ (H : Heap) (locs : List Loc), va_P D classes ([(h0, .inr (5, [.ref q1, .ref q2, .ref q3, .ref q4, .ref q5, .int cm, .int stp', .ref q6, .ref q7, .ref q8, .int mus, .int mc_, .int mb_, .ref q9])), (q6, .inl (ct.1, 6, .inr (.inl ax')))] ++ wt) H → va_D A ([(h0, .inr (5, [.ref q1, .ref q2, .ref q3, .ref q4, .ref q5, .int cm, .int stp', .ref q6, .ref q7, .ref q8, .int mus, .int mc_, .int mb_, .ref q9])), (q6, .inl (ct.1, 6, .inr (.inl ax')))] ++ wt) → va_S A s.heap H locs → ∀ (ls : Array Slot), lv_has ls 3 [(1, .int kk'), (0, .ref h0)] → W p l e (headSpec w_M_reduce rm_M_reduce).room s m ([.ref h0] : List Value).toArray below meth c H locs 0 0 (MQ below (va_Qv (fun u => u = r0) (fun (u : (Nat → Int64) × Int32) t => match u with | (ax', stp') => va_P D classes ([(h0, .inr (5, [.ref q1, .ref q2, .ref q3, .ref q4, .ref q5, .int cm, .int stp', .ref q6, .ref q7, .ref q8, .int mus, .int mc_, .int mb_, .ref q9])), (q6, .inl (ct.1, 6, .inr (.inl ax')))] ++ wt) t.heap ∧ va_D A ([(h0, .inr (5, [.ref q1, .ref q2, .ref q3, .ref q4, .ref q5, .int cm, .int stp', .ref q6, .ref q7, .ref q8, .int mus, .int mc_, .int mb_, .ref q9])), (q6, .inl (ct.1, 6, .inr (.inl ax')))] ++ wt)) A) ([.ref h0] : List Value).toArray s 0 0 A) (F0 m 30 ls [])) → W p l e (headSpec w_M_reduce rm_M_reduce).room s m ([.ref h0] : List Value).toArray below meth c H locs 0 0 (MQ below (va_Qv (fun u => u = r0) (fun (u : (Nat → Int64) × Int32) t => match u with | (ax', stp') => va_P D classes ([(h0, .inr (5, [.ref q1, .ref q2, .ref q3, .ref q4, .ref q5, .int cm, .int stp', .ref q6, .ref q7, .ref q8, .int mus, .int mc_, .int mb_, .ref q9])), (q6, .inl (ct.1, 6, .inr (.inl ax')))] ++ wt) t.heap ∧ va_D A ([(h0, .inr (5, [.ref q1, .ref q2, .ref q3, .ref q4, .ref q5, .int cm, .int stp', .ref q6, .ref q7, .ref q8, .int mus, .int mc_, .int mb_, .ref q9])), (q6, .inl (ct.1, 6, .inr (.inl ax')))] ++ wt)) A) ([.ref h0] : List Value).toArray s 0 0 A) (F0 m 2 ls []) := by
    intro n
    induction n with
    | zero =>
      intro kk ax stp kk' ax' stp' h
      rw [lp_M_reduce_2] at h
      cases h
    | succ n ih =>
      intro kk ax stp kk' ax' stp' h H locs hP hD hS ls hl K
      rw [lp_M_reduce_2] at h
      refine lv_iload_n hx hb d_M_reduce_2 rfl (lv_at hl 0 rfl) ?_
      refine lv_bipush (v := (6 : Int32)) hx hb d_M_reduce_3 (by decide) ?_
      refine lv_icmp_ge (tgt := 30) hx hb d_M_reduce_5 (by decide) (fun c_1 => ?_) (fun c_1 => ?_)
      · rw [if_pos c_1] at h
        cases h
        exact K _ _ hP hD hS _ (lv_sub hl [0, 1] rfl)
      · rw [if_neg c_1] at h
        refine lv_aload_n hx hb d_M_reduce_8 rfl (lv_at hl 1 rfl) ?_
        refine va_get (D := D) (ci := 5) (v := .ref q6) (C := R_Model) (T := F_Model) (N := 14) hx hb htg i_Model hown hK hP 0 rfl rfl 7 (by decide) (htg _ tm_405) (fun _ h9 => h9) rfl d_M_reduce_9 ?_
        refine lv_iload_n hx hb d_M_reduce_12 rfl (lv_at hl 0 rfl) ?_
        refine lv_ldc2 (v := (2 : Int64)) hx hb hown (htg _ tm_458) d_M_reduce_13 ?_
        refine lv_aload_n hx hb d_M_reduce_16 rfl (lv_at hl 1 rfl) ?_
        refine va_get (D := D) (ci := 5) (v := .ref q6) (C := R_Model) (T := F_Model) (N := 14) hx hb htg i_Model hown hK hP 0 rfl rfl 7 (by decide) (htg _ tm_405) (fun _ h9 => h9) rfl d_M_reduce_17 ?_
        refine lv_iload_n hx hb d_M_reduce_20 rfl (lv_at hl 0 rfl) ?_
        by_cases b_2 : inb kk 6 = true
        rotate_left
        · rw [if_neg b_2] at h; cases h
        rw [if_pos b_2] at h
        refine va_lald hx hb hK hP 1 0 rfl rfl (inb_in b_2) d_M_reduce_21 ?_
        refine lv_lmul hx hb d_M_reduce_22 ?_
        by_cases b_3 : inb kk 6 = true
        rotate_left
        · rw [if_neg b_3] at h; cases h
        rw [if_pos b_3] at h
        refine va_last hx hb hK hP hD hS 1 0 rfl rfl (inb_in b_3) d_M_reduce_23 (fun H locs hP hD hS => ?_)
        have hP : va_P D classes ([(h0, .inr (5, [.ref q1, .ref q2, .ref q3, .ref q4, .ref q5, .int cm, .int stp, .ref q6, .ref q7, .ref q8, .int mus, .int mc_, .int mb_, .ref q9])), (q6, .inl (ct.1, 6, .inr (.inl (vp_updL ax kk.toNatClampNeg ((2 : Int64) * (ax kk.toNatClampNeg))))))] ++ wt) H := hP
        have hD : va_D A ([(h0, .inr (5, [.ref q1, .ref q2, .ref q3, .ref q4, .ref q5, .int cm, .int stp, .ref q6, .ref q7, .ref q8, .int mus, .int mc_, .int mb_, .ref q9])), (q6, .inl (ct.1, 6, .inr (.inl (vp_updL ax kk.toNatClampNeg ((2 : Int64) * (ax kk.toNatClampNeg))))))] ++ wt) := hD
        refine lv_iinc (v := kk + (1 : Int32)) (lv' := [(1, .int (kk + (1 : Int32))), (0, .ref h0)]) hx hb d_M_reduce_24 hl (k := 0) rfl rfl (by decide) rfl (fun ls hl => ?_)
        refine lv_goto (tgt := 2) hx hb d_M_reduce_27 (by decide) ?_
        exact ih (kk + (1 : Int32)) (vp_updL ax kk.toNatClampNeg ((2 : Int64) * (ax kk.toNatClampNeg))) stp _ _ _ h H locs hP hD hS ls (lv_sub hl [0, 1] rfl) K
  rcases e_7 : lp_M_reduce_2  4 (3 : Int32) ax stp with _ | ⟨kk_4, ax_5, stp_6⟩
  · rw [e_7] at h; cases h
  rw [e_7, Option.bind_some] at h
  try dsimp only at h
  refine L_2 4 (3 : Int32) ax stp kk_4 ax_5 stp_6 e_7 _ _ hP hD hS ls (lv_sub hl [0, 1] rfl) (fun H locs hP hD hS ls hl => ?_)
  refine lv_iconst (v := (1 : Int32)) hx hb d_M_reduce_30 (by decide) ?_
  refine lv_istore_n (lv' := [(1, .int (1 : Int32)), (0, .ref h0)]) hx hb d_M_reduce_31 rfl hl (by decide) rfl (fun ls hl => ?_)
  have L_32 : ∀ (n : Nat) (mo : Int32) (ax : Nat → Int64) (stp : Int32) (mo' : Int32) (ax' : Nat → Int64) (stp' : Int32), lp_M_reduce_32  n mo ax stp = some (mo', ax', stp') → ∀ (H : Heap) (locs : List Loc), va_P D classes ([(h0, .inr (5, [.ref q1, .ref q2, .ref q3, .ref q4, .ref q5, .int cm, .int stp, .ref q6, .ref q7, .ref q8, .int mus, .int mc_, .int mb_, .ref q9])), (q6, .inl (ct.1, 6, .inr (.inl ax)))] ++ wt) H → va_D A ([(h0, .inr (5, [.ref q1, .ref q2, .ref q3, .ref q4, .ref q5, .int cm, .int stp, .ref q6, .ref q7, .ref q8, .int mus, .int mc_, .int mb_, .ref q9])), (q6, .inl (ct.1, 6, .inr (.inl ax)))] ++ wt) → va_S A s.heap H locs → ∀ (ls : Array Slot), lv_has ls 3 [(1, .int mo), (0, .ref h0)] → (∀ (H : Heap) (locs : List Loc), va_P D classes ([(h0, .inr (5, [.ref q1, .ref q2, .ref q3, .ref q4, .ref q5, .int cm, .int stp', .ref q6, .ref q7, .ref q8, .int mus, .int mc_, .int mb_, .ref q9])), (q6, .inl (ct.1, 6, .inr (.inl ax')))] ++ wt) H → va_D A ([(h0, .inr (5, [.ref q1, .ref q2, .ref q3, .ref q4, .ref q5, .int cm, .int stp', .ref q6, .ref q7, .ref q8, .int mus, .int mc_, .int mb_, .ref q9])), (q6, .inl (ct.1, 6, .inr (.inl ax')))] ++ wt) → va_S A s.heap H locs → ∀ (ls : Array Slot), lv_has ls 3 [(1, .int mo'), (0, .ref h0)] → W p l e (headSpec w_M_reduce rm_M_reduce).room s m ([.ref h0] : List Value).toArray below meth c H locs 0 0 (MQ below (va_Qv (fun u => u = r0) (fun (u : (Nat → Int64) × Int32) t => match u with | (ax', stp') => va_P D classes ([(h0, .inr (5, [.ref q1, .ref q2, .ref q3, .ref q4, .ref q5, .int cm, .int stp', .ref q6, .ref q7, .ref q8, .int mus, .int mc_, .int mb_, .ref q9])), (q6, .inl (ct.1, 6, .inr (.inl ax')))] ++ wt) t.heap ∧ va_D A ([(h0, .inr (5, [.ref q1, .ref q2, .ref q3, .ref q4, .ref q5, .int cm, .int stp', .ref q6, .ref q7, .ref q8, .int mus, .int mc_, .int mb_, .ref q9])), (q6, .inl (ct.1, 6, .inr (.inl ax')))] ++ wt)) A) ([.ref h0] : List Value).toArray s 0 0 A) (F0 m 44 ls [])) → W p l e (headSpec w_M_reduce rm_M_reduce).room s m ([.ref h0] : List Value).toArray below meth c H locs 0 0 (MQ below (va_Qv (fun u => u = r0) (fun (u : (Nat → Int64) × Int32) t => match u with | (ax', stp') => va_P D classes ([(h0, .inr (5, [.ref q1, .ref q2, .ref q3, .ref q4, .ref q5, .int cm, .int stp', .ref q6, .ref q7, .ref q8, .int mus, .int mc_, .int mb_, .ref q9])), (q6, .inl (ct.1, 6, .inr (.inl ax')))] ++ wt) t.heap ∧ va_D A ([(h0, .inr (5, [.ref q1, .ref q2, .ref q3, .ref q4, .ref q5, .int cm, .int stp', .ref q6, .ref q7, .ref q8, .int mus, .int mc_, .int mb_, .ref q9])), (q6, .inl (ct.1, 6, .inr (.inl ax')))] ++ wt)) A) ([.ref h0] : List Value).toArray s 0 0 A) (F0 m 32 ls []) := by
    intro n
    induction n with
    | zero =>
      intro mo ax stp mo' ax' stp' h
      rw [lp_M_reduce_32] at h
      cases h
    | succ n ih =>
      intro mo ax stp mo' ax' stp' h H locs hP hD hS ls hl K
      rw [lp_M_reduce_32] at h
      refine lv_iload_n hx hb d_M_reduce_32 rfl (lv_at hl 0 rfl) ?_
      refine lv_if_eq (tgt := 44) hx hb d_M_reduce_33 (by decide) (fun c_8 => ?_) (fun c_8 => ?_)
      · rw [if_pos c_8] at h
        cases h
        exact K _ _ hP hD hS _ (lv_sub hl [0, 1] rfl)
      · rw [if_neg c_8] at h
        refine lv_aload_n hx hb d_M_reduce_36 rfl (lv_at hl 1 rfl) ?_
        rcases e_12 : f_M_goes ax stp with _ | ⟨r_9, ax_10, stp_11⟩
        · rw [e_12] at h; cases h
        rw [e_12, Option.bind_some] at h
        try dsimp only at h
        refine va_calli (va_runV (As := []) (rest := []) ⟨hx, hb, hml, hown, htg⟩ (c_M_goes l D ct A ([] ++ wt)  h0 q1 q2 q3 q4 q5 q6 q7 q8 q9 cm stp mus mc_ mb_ ax   _ e_12) (cwV 0 htg (giV tm_459 tm_461 tm_20 tm_34 g_M_goes) rfl rfl rfl (by decide +kernel) ⟨Nat.le_of_ble_eq_true rfl, Nat.le_of_ble_eq_true rfl⟩) (preVM hA hS hP hD hKK (va_recv hK hP (ci := 5) (q0 := 0) rfl rfl)) rfl rfl hl.1 rfl (lv_room (Nat.le_of_ble_eq_true rfl)) d_M_reduce_37 ⟨Nat.le_of_ble_eq_true rfl, Nat.le_of_ble_eq_true rfl⟩) hS (fun q _ h9 => h9) (fun q h9 => h9) (fun r9 u9 t9 H locs ht9 hvm9 hw9 hB9 hz9 hk9 hS => ?_)
        obtain ⟨hw8, hw9⟩ := Prod.mk.inj hw9
        rw [hw8]
        rw [hw9] at hB9
        obtain ⟨hP, hD⟩ := hB9
        rw [ht9] at hP
        have hP : va_P D classes ([(h0, .inr (5, [.ref q1, .ref q2, .ref q3, .ref q4, .ref q5, .int cm, .int stp_11, .ref q6, .ref q7, .ref q8, .int mus, .int mc_, .int mb_, .ref q9])), (q6, .inl (ct.1, 6, .inr (.inl ax_10)))] ++ wt) H := hP
        have hD : va_D A ([(h0, .inr (5, [.ref q1, .ref q2, .ref q3, .ref q4, .ref q5, .int cm, .int stp_11, .ref q6, .ref q7, .ref q8, .int mus, .int mc_, .int mb_, .ref q9])), (q6, .inl (ct.1, 6, .inr (.inl ax_10)))] ++ wt) := hD
        refine lv_istore_n (lv' := [(1, .int r_9), (0, .ref h0)]) hx hb d_M_reduce_40 rfl hl (by decide) rfl (fun ls hl => ?_)
        refine lv_goto (tgt := 32) hx hb d_M_reduce_41 (by decide) ?_
        exact ih r_9 ax_10 stp_11 _ _ _ h H locs hP hD hS ls (lv_sub hl [0, 1] rfl) K
  rcases e_17 : lp_M_reduce_32  1000000000 (1 : Int32) ax_5 stp_6 with _ | ⟨mo_14, ax_15, stp_16⟩
  · rw [e_17] at h; cases h
  rw [e_17, Option.bind_some] at h
  try dsimp only at h
  refine L_32 1000000000 (1 : Int32) ax_5 stp_6 mo_14 ax_15 stp_16 e_17 _ _ hP hD hS ls (lv_sub hl [0, 1] rfl) (fun H locs hP hD hS ls hl => ?_)
  refine lv_iconst (v := (3 : Int32)) hx hb d_M_reduce_44 (by decide) ?_
  refine lv_istore_n (lv' := [(2, .int (3 : Int32)), (1, .int mo_14), (0, .ref h0)]) hx hb d_M_reduce_45 rfl hl (by decide) rfl (fun ls hl => ?_)
  have L_46 : ∀ (n : Nat) (mo : Int32) (kk : Int32) (ax : Nat → Int64) (stp : Int32) , lp_M_reduce_46  n mo kk ax stp = some r0 → ∀ (H : Heap) (locs : List Loc), va_P D classes ([(h0, .inr (5, [.ref q1, .ref q2, .ref q3, .ref q4, .ref q5, .int cm, .int stp, .ref q6, .ref q7, .ref q8, .int mus, .int mc_, .int mb_, .ref q9])), (q6, .inl (ct.1, 6, .inr (.inl ax)))] ++ wt) H → va_D A ([(h0, .inr (5, [.ref q1, .ref q2, .ref q3, .ref q4, .ref q5, .int cm, .int stp, .ref q6, .ref q7, .ref q8, .int mus, .int mc_, .int mb_, .ref q9])), (q6, .inl (ct.1, 6, .inr (.inl ax)))] ++ wt) → va_S A s.heap H locs → ∀ (ls : Array Slot), lv_has ls 3 [(1, .int mo), (2, .int kk), (0, .ref h0)] → W p l e (headSpec w_M_reduce rm_M_reduce).room s m ([.ref h0] : List Value).toArray below meth c H locs 0 0 (MQ below (va_Qv (fun u => u = r0) (fun (u : (Nat → Int64) × Int32) t => match u with | (ax', stp') => va_P D classes ([(h0, .inr (5, [.ref q1, .ref q2, .ref q3, .ref q4, .ref q5, .int cm, .int stp', .ref q6, .ref q7, .ref q8, .int mus, .int mc_, .int mb_, .ref q9])), (q6, .inl (ct.1, 6, .inr (.inl ax')))] ++ wt) t.heap ∧ va_D A ([(h0, .inr (5, [.ref q1, .ref q2, .ref q3, .ref q4, .ref q5, .int cm, .int stp', .ref q6, .ref q7, .ref q8, .int mus, .int mc_, .int mb_, .ref q9])), (q6, .inl (ct.1, 6, .inr (.inl ax')))] ++ wt)) A) ([.ref h0] : List Value).toArray s 0 0 A) (F0 m 46 ls []) := by
    intro n
    induction n with
    | zero =>
      intro mo kk ax stp  h
      rw [lp_M_reduce_46] at h
      cases h
    | succ n ih =>
      intro mo kk ax stp  h H locs hP hD hS ls hl
      rw [lp_M_reduce_46] at h
      refine lv_iload_n hx hb d_M_reduce_46 rfl (lv_at hl 1 rfl) ?_
      refine lv_bipush (v := (6 : Int32)) hx hb d_M_reduce_47 (by decide) ?_
      refine lv_icmp_ge (tgt := 74) hx hb d_M_reduce_49 (by decide) (fun c_18 => ?_) (fun c_18 => ?_)
      · rw [if_pos c_18] at h
        exact W.vret hx hb hr (fun t ht hW => ⟨⟨(ax, stp), rfl, (Option.some.inj h), by rw [ht]; exact hP, hD⟩, hS.F ht⟩) hS.2.2 d_M_reduce_74
      · rw [if_neg c_18] at h
        refine lv_aload_n hx hb d_M_reduce_52 rfl (lv_at hl 2 rfl) ?_
        refine va_get (D := D) (ci := 5) (v := .ref q6) (C := R_Model) (T := F_Model) (N := 14) hx hb htg i_Model hown hK hP 0 rfl rfl 7 (by decide) (htg _ tm_405) (fun _ h9 => h9) rfl d_M_reduce_53 ?_
        refine lv_iload_n hx hb d_M_reduce_56 rfl (lv_at hl 1 rfl) ?_
        refine lv_aload_n hx hb d_M_reduce_57 rfl (lv_at hl 2 rfl) ?_
        refine va_get (D := D) (ci := 5) (v := .ref q6) (C := R_Model) (T := F_Model) (N := 14) hx hb htg i_Model hown hK hP 0 rfl rfl 7 (by decide) (htg _ tm_405) (fun _ h9 => h9) rfl d_M_reduce_58 ?_
        refine lv_iload_n hx hb d_M_reduce_61 rfl (lv_at hl 1 rfl) ?_
        by_cases b_19 : inb kk 6 = true
        rotate_left
        · rw [if_neg b_19] at h; cases h
        rw [if_pos b_19] at h
        refine va_lald hx hb hK hP 1 0 rfl rfl (inb_in b_19) d_M_reduce_62 ?_
        refine lv_ldc2 (v := (2 : Int64)) hx hb hown (htg _ tm_458) d_M_reduce_63 ?_
        refine lv_ldiv hx hb d_M_reduce_66 (by decide) ?_
        by_cases b_20 : inb kk 6 = true
        rotate_left
        · rw [if_neg b_20] at h; cases h
        rw [if_pos b_20] at h
        refine va_last hx hb hK hP hD hS 1 0 rfl rfl (inb_in b_20) d_M_reduce_67 (fun H locs hP hD hS => ?_)
        have hP : va_P D classes ([(h0, .inr (5, [.ref q1, .ref q2, .ref q3, .ref q4, .ref q5, .int cm, .int stp, .ref q6, .ref q7, .ref q8, .int mus, .int mc_, .int mb_, .ref q9])), (q6, .inl (ct.1, 6, .inr (.inl (vp_updL ax kk.toNatClampNeg ((ax kk.toNatClampNeg) / (2 : Int64))))))] ++ wt) H := hP
        have hD : va_D A ([(h0, .inr (5, [.ref q1, .ref q2, .ref q3, .ref q4, .ref q5, .int cm, .int stp, .ref q6, .ref q7, .ref q8, .int mus, .int mc_, .int mb_, .ref q9])), (q6, .inl (ct.1, 6, .inr (.inl (vp_updL ax kk.toNatClampNeg ((ax kk.toNatClampNeg) / (2 : Int64))))))] ++ wt) := hD
        refine lv_iinc (v := kk + (1 : Int32)) (lv' := [(2, .int (kk + (1 : Int32))), (1, .int mo), (0, .ref h0)]) hx hb d_M_reduce_68 hl (k := 1) rfl rfl (by decide) rfl (fun ls hl => ?_)
        refine lv_goto (tgt := 46) hx hb d_M_reduce_71 (by decide) ?_
        exact ih mo (kk + (1 : Int32)) (vp_updL ax kk.toNatClampNeg ((ax kk.toNatClampNeg) / (2 : Int64))) stp h H locs hP hD hS ls (lv_sub hl [1, 0, 2] rfl)
  exact L_46 4 mo_14 (3 : Int32) ax_15 stp_16 h _ _ hP hD hS ls (lv_sub hl [1, 0, 2] rfl)
