-- CellBenchModel cell (IIIIII)I
def lp_M_cell_217 (i1 : Int32) (i2 : Int32) (i3 : Int32) (i4 : Int32) (i5 : Int32) (i6 : Int32) : Nat → Int32 → Int32 → Int32 → Int32 → Int32 → (Nat → Int32) → (Nat → Int64) → (Nat → Int64) → (Nat → Int32) → (Nat → Int32) → (Nat → Int64) → Option (Int32 × Int32 × Int32 × Int32 × Int32 × (Nat → Int32) × (Nat → Int64) × (Nat → Int64) × (Nat → Int32) × (Nat → Int32) × (Nat → Int64))
  | 0, _, _, _, _, _, _, _, _, _, _, _ => none
  | n + 1, go, a0, kk, cm, stp, am, ac, al, ay, as_, ax =>
    if (6 : Int32) ≤ kk then (some (go, a0, kk, cm, stp, am, ac, al, ay, as_, ax)) else (if inb (a0 + kk) 240 = true then (if inb kk 6 = true then (lp_M_cell_217 i1 i2 i3 i4 i5 i6 n go a0 (kk + (1 : Int32)) cm stp am ac al ay as_ (vp_updL ax kk.toNatClampNeg (ac (a0 + kk).toNatClampNeg))) else none) else none)
def lp_M_cell_272 (i1 : Int32) (i2 : Int32) (i3 : Int32) (i4 : Int32) (i5 : Int32) (i6 : Int32) : Nat → Int32 → Int32 → Int32 → Int32 → Int32 → (Nat → Int32) → (Nat → Int64) → (Nat → Int64) → (Nat → Int32) → (Nat → Int32) → (Nat → Int64) → Option (Int32 × Int32 × Int32 × Int32 × Int32 × (Nat → Int32) × (Nat → Int64) × (Nat → Int64) × (Nat → Int32) × (Nat → Int32) × (Nat → Int64))
  | 0, _, _, _, _, _, _, _, _, _, _, _ => none
  | n + 1, go, a0, kk, cm, stp, am, ac, al, ay, as_, ax =>
    if (6 : Int32) ≤ kk then (some (go, a0, kk, cm, stp, am, ac, al, ay, as_, ax)) else (if inb kk 6 = true then (if inb (a0 + kk) 240 = true then (lp_M_cell_272 i1 i2 i3 i4 i5 i6 n go a0 (kk + (1 : Int32)) cm stp am ac (vp_updL al (a0 + kk).toNatClampNeg (ax kk.toNatClampNeg)) ay as_ ax) else none) else none)
def lp_M_cell_308 (i1 : Int32) (i2 : Int32) (i3 : Int32) (i4 : Int32) (i5 : Int32) (i6 : Int32) : Nat → Int32 → Int32 → Int32 → Int32 → Int32 → Int32 → (Nat → Int32) → (Nat → Int64) → (Nat → Int64) → (Nat → Int32) → (Nat → Int32) → (Nat → Int64) → Option (Int32 × Int32 × Int32 × (Nat → Int32) × (Nat → Int64) × (Nat → Int64) × (Nat → Int32) × (Nat → Int32) × (Nat → Int64))
  | 0, _, _, _, _, _, _, _, _, _, _, _, _ => none
  | n + 1, go, a0, nw, ni, cm, stp, am, ac, al, ay, as_, ax =>
    if (19683 : Int32) ≤ ni then (if inb cm 40 = true then (some ((cm + (1 : Int32)) - (1 : Int32), cm + (1 : Int32), stp, am, ac, al, upd ay cm.toNatClampNeg nw, as_, ax)) else none) else (Option.bind (f_M_open am ni) (fun z_55 => (Option.bind (f_M_keeps6 z_55 al a0) (fun z_54 => (if z_54 = 0 then (lp_M_cell_308 i1 i2 i3 i4 i5 i6 n go a0 (nw + (0 : Int32)) (ni + (1 : Int32)) cm stp z_55 ac al ay as_ ax) else (lp_M_cell_308 i1 i2 i3 i4 i5 i6 n go a0 (nw + (1 : Int32)) (ni + (1 : Int32)) cm stp z_55 ac al ay as_ ax))))))
def jn_M_cell_95 (i1 : Int32) (i2 : Int32) (i3 : Int32) (i4 : Int32) (i5 : Int32) (i6 : Int32) (k95_0 : Int32) (cm : Int32) (stp : Int32) (am : Nat → Int32) (ac : Nat → Int64) (al : Nat → Int64) (ay : Nat → Int32) (as_ : Nat → Int32) (ax : Nat → Int64) : Option (Int32 × Int32 × Int32 × (Nat → Int32) × (Nat → Int64) × (Nat → Int64) × (Nat → Int32) × (Nat → Int32) × (Nat → Int64)) :=
    if k95_0 = 0 then (some ((-1 : Int32), cm, stp, am, ac, al, ay, as_, ax)) else (if 0 < (lg_cmp (((i1.toInt64) * (i2.toInt64)) - ((i6.toInt64) * (i6.toInt64))) (0 : Int64)) then (if inb ((6 : Int32) * cm) 240 = true then (if inb (((6 : Int32) * cm) + (1 : Int32)) 240 = true then (if inb (((6 : Int32) * cm) + (2 : Int32)) 240 = true then (if inb (((6 : Int32) * cm) + (3 : Int32)) 240 = true then (if inb (((6 : Int32) * cm) + (4 : Int32)) 240 = true then (if inb (((6 : Int32) * cm) + (5 : Int32)) 240 = true then (Option.bind (f_M_det (vp_updL (vp_updL (vp_updL (vp_updL (vp_updL (vp_updL ac ((6 : Int32) * cm).toNatClampNeg (i1.toInt64)) (((6 : Int32) * cm) + (1 : Int32)).toNatClampNeg (i2.toInt64)) (((6 : Int32) * cm) + (2 : Int32)).toNatClampNeg (i3.toInt64)) (((6 : Int32) * cm) + (3 : Int32)).toNatClampNeg (i4.toInt64)) (((6 : Int32) * cm) + (4 : Int32)).toNatClampNeg (i5.toInt64)) (((6 : Int32) * cm) + (5 : Int32)).toNatClampNeg (i6.toInt64)) ((6 : Int32) * cm)) (fun z_59 => (if 0 < (lg_cmp z_59 (0 : Int64)) then (Option.bind (lp_M_cell_217 i1 i2 i3 i4 i5 i6 8 k95_0 ((6 : Int32) * cm) (0 : Int32) cm stp am (vp_updL (vp_updL (vp_updL (vp_updL (vp_updL (vp_updL ac ((6 : Int32) * cm).toNatClampNeg (i1.toInt64)) (((6 : Int32) * cm) + (1 : Int32)).toNatClampNeg (i2.toInt64)) (((6 : Int32) * cm) + (2 : Int32)).toNatClampNeg (i3.toInt64)) (((6 : Int32) * cm) + (3 : Int32)).toNatClampNeg (i4.toInt64)) (((6 : Int32) * cm) + (4 : Int32)).toNatClampNeg (i5.toInt64)) (((6 : Int32) * cm) + (5 : Int32)).toNatClampNeg (i6.toInt64)) al ay as_ ax) (fun z_58 => (Option.bind (f_M_reduce z_58.2.2.2.2.2.2.2.2.2.2 (0 : Int32)) (fun z_57 => (if inb z_58.2.2.2.1 40 = true then (Option.bind (lp_M_cell_272 i1 i2 i3 i4 i5 i6 8 z_58.1 z_58.2.1 (0 : Int32) z_58.2.2.2.1 z_57.2 z_58.2.2.2.2.2.1 z_58.2.2.2.2.2.2.1 z_58.2.2.2.2.2.2.2.1 z_58.2.2.2.2.2.2.2.2.1 (upd z_58.2.2.2.2.2.2.2.2.2.1 z_58.2.2.2.1.toNatClampNeg z_57.2) z_57.1) (fun z_56 => (lp_M_cell_308 i1 i2 i3 i4 i5 i6 19685 z_56.1 z_56.2.1 (0 : Int32) (0 : Int32) z_56.2.2.2.1 z_56.2.2.2.2.1 z_56.2.2.2.2.2.1 z_56.2.2.2.2.2.2.1 z_56.2.2.2.2.2.2.2.1 z_56.2.2.2.2.2.2.2.2.1 z_56.2.2.2.2.2.2.2.2.2.1 z_56.2.2.2.2.2.2.2.2.2.2))) else none))))) else (some ((-1 : Int32), cm, stp, am, vp_updL (vp_updL (vp_updL (vp_updL (vp_updL (vp_updL ac ((6 : Int32) * cm).toNatClampNeg (i1.toInt64)) (((6 : Int32) * cm) + (1 : Int32)).toNatClampNeg (i2.toInt64)) (((6 : Int32) * cm) + (2 : Int32)).toNatClampNeg (i3.toInt64)) (((6 : Int32) * cm) + (3 : Int32)).toNatClampNeg (i4.toInt64)) (((6 : Int32) * cm) + (4 : Int32)).toNatClampNeg (i5.toInt64)) (((6 : Int32) * cm) + (5 : Int32)).toNatClampNeg (i6.toInt64), al, ay, as_, ax))))) else none) else none) else none) else none) else none) else none) else (some ((-1 : Int32), cm, stp, am, ac, al, ay, as_, ax)))
def f_M_cell (cm : Int32) (stp : Int32) (am : Nat → Int32) (ac : Nat → Int64) (al : Nat → Int64) (ay : Nat → Int32) (as_ : Nat → Int32) (ax : Nat → Int64) (i1 : Int32) (i2 : Int32) (i3 : Int32) (i4 : Int32) (i5 : Int32) (i6 : Int32) : Option (Int32 × Int32 × Int32 × (Nat → Int32) × (Nat → Int64) × (Nat → Int64) × (Nat → Int32) × (Nat → Int32) × (Nat → Int64)) :=
    if (40 : Int32) ≤ cm then (jn_M_cell_95 i1 i2 i3 i4 i5 i6 (0 : Int32) cm stp am ac al ay as_ ax) else (if (f_M_between (i1.toInt64) (1 : Int64) (10000 : Int64)) = 0 then (jn_M_cell_95 i1 i2 i3 i4 i5 i6 (0 : Int32) cm stp am ac al ay as_ ax) else (if (f_M_between (i2.toInt64) (1 : Int64) (10000 : Int64)) = 0 then (jn_M_cell_95 i1 i2 i3 i4 i5 i6 (0 : Int32) cm stp am ac al ay as_ ax) else (if (f_M_between (i3.toInt64) (1 : Int64) (10000 : Int64)) = 0 then (jn_M_cell_95 i1 i2 i3 i4 i5 i6 (0 : Int32) cm stp am ac al ay as_ ax) else (if (f_M_between (i4.toInt64) (-10000 : Int64) (10000 : Int64)) = 0 then (jn_M_cell_95 i1 i2 i3 i4 i5 i6 (0 : Int32) cm stp am ac al ay as_ ax) else (if (f_M_between (i5.toInt64) (-10000 : Int64) (10000 : Int64)) = 0 then (jn_M_cell_95 i1 i2 i3 i4 i5 i6 (0 : Int32) cm stp am ac al ay as_ ax) else (if (f_M_between (i6.toInt64) (-10000 : Int64) (10000 : Int64)) = 0 then (jn_M_cell_95 i1 i2 i3 i4 i5 i6 (0 : Int32) cm stp am ac al ay as_ ax) else (jn_M_cell_95 i1 i2 i3 i4 i5 i6 (1 : Int32) cm stp am ac al ay as_ ax)))))))
def w_M_cell : List Cond := .code y_M_cell b_M_cell 11 (some .int) :: GW
abbrev rm_M_cell : Room := { frames := 3, cells := 0, slots := 0, locals := 82 }
theorem g_M_cell : GoodIn GW w_M_cell := gi tm_445
set_option maxHeartbeats 4000000 in
set_option maxRecDepth 100000 in
theorem J_M_cell_95 {p : Program} {l : Launch} {e : Env} {s : State} {m : MethodId} {below : List Frame} {meth : Method} {c : Code} {D : va_G} {ct : CT} {A : Nat → Prop} {wt : va_W} (h0 : Nat) (q1 : Nat) (q2 : Nat) (q3 : Nat) (q4 : Nat) (q5 : Nat) (q6 : Nat) (q7 : Nat) (q8 : Nat) (q9 : Nat) (mus : Int32) (mc_ : Int32) (mb_ : Int32) (i1 : Int32) (i2 : Int32) (i3 : Int32) (i4 : Int32) (i5 : Int32) (i6 : Int32) (r0 : Int32 × Int32 × Int32 × (Nat → Int32) × (Nat → Int64) × (Nat → Int64) × (Nat → Int32) × (Nat → Int32) × (Nat → Int64)) (hx : p.tables.exec = Jvm.exec) (hb : c.code = b_M_cell) (hr : meth.sig.returnType = (some .int)) (hml : c.maxLocals = 11) (hown : s.vm.findClass R_Model = some m.cls) (htg : ∀ w ∈ GW, w.before ([.ref h0, .int i1, .int i2, .int i3, .int i4, .int i5, .int i6] : List Value).toArray s = true) (hlocks : meth.locks = false) (hKK : KK D ct s) (hA : ∀ q : Nat, s.heap.size ≤ q → A q) : ∀ (k95_0 : Int32) (cm : Int32) (stp : Int32) (am : Nat → Int32) (ac : Nat → Int64) (al : Nat → Int64) (ay : Nat → Int32) (as_ : Nat → Int32) (ax : Nat → Int64), jn_M_cell_95 i1 i2 i3 i4 i5 i6 k95_0 cm stp am ac al ay as_ ax = some r0 → ∀ (H : Heap) (locs : List Loc), va_P D classes ([(h0, .inr (5, [.ref q1, .ref q2, .ref q3, .ref q4, .ref q5, .int cm, .int stp, .ref q6, .ref q7, .ref q8, .int mus, .int mc_, .int mb_, .ref q9])), (q1, .inl (ct.2.2, 9, .inl am)), (q2, .inl (ct.1, 240, .inr (.inl ac))), (q3, .inl (ct.1, 240, .inr (.inl al))), (q4, .inl (ct.2.2, 40, .inl ay)), (q5, .inl (ct.2.2, 40, .inl as_)), (q6, .inl (ct.1, 6, .inr (.inl ax)))] ++ wt) H → va_D A ([(h0, .inr (5, [.ref q1, .ref q2, .ref q3, .ref q4, .ref q5, .int cm, .int stp, .ref q6, .ref q7, .ref q8, .int mus, .int mc_, .int mb_, .ref q9])), (q1, .inl (ct.2.2, 9, .inl am)), (q2, .inl (ct.1, 240, .inr (.inl ac))), (q3, .inl (ct.1, 240, .inr (.inl al))), (q4, .inl (ct.2.2, 40, .inl ay)), (q5, .inl (ct.2.2, 40, .inl as_)), (q6, .inl (ct.1, 6, .inr (.inl ax)))] ++ wt) → va_S A s.heap H locs → ∀ (ls : Array Slot), lv_has ls 11 [(0, .ref h0), (1, .int i1), (2, .int i2), (3, .int i3), (4, .int i4), (5, .int i5), (6, .int i6)] → W p l e (headSpec w_M_cell rm_M_cell).room s m ([.ref h0, .int i1, .int i2, .int i3, .int i4, .int i5, .int i6] : List Value).toArray below meth c H locs 0 0 (MQ below (va_Qi (fun r u => (r, u) = r0) (fun (u : Int32 × Int32 × (Nat → Int32) × (Nat → Int64) × (Nat → Int64) × (Nat → Int32) × (Nat → Int32) × (Nat → Int64)) t => match u with | (cm', stp', am', ac', al', ay', as_', ax') => va_P D classes ([(h0, .inr (5, [.ref q1, .ref q2, .ref q3, .ref q4, .ref q5, .int cm', .int stp', .ref q6, .ref q7, .ref q8, .int mus, .int mc_, .int mb_, .ref q9])), (q1, .inl (ct.2.2, 9, .inl am')), (q2, .inl (ct.1, 240, .inr (.inl ac'))), (q3, .inl (ct.1, 240, .inr (.inl al'))), (q4, .inl (ct.2.2, 40, .inl ay')), (q5, .inl (ct.2.2, 40, .inl as_')), (q6, .inl (ct.1, 6, .inr (.inl ax')))] ++ wt) t.heap ∧ va_D A ([(h0, .inr (5, [.ref q1, .ref q2, .ref q3, .ref q4, .ref q5, .int cm', .int stp', .ref q6, .ref q7, .ref q8, .int mus, .int mc_, .int mb_, .ref q9])), (q1, .inl (ct.2.2, 9, .inl am')), (q2, .inl (ct.1, 240, .inr (.inl ac'))), (q3, .inl (ct.1, 240, .inr (.inl al'))), (q4, .inl (ct.2.2, 40, .inl ay')), (q5, .inl (ct.2.2, 40, .inl as_')), (q6, .inl (ct.1, 6, .inr (.inl ax')))] ++ wt)) A) ([.ref h0, .int i1, .int i2, .int i3, .int i4, .int i5, .int i6] : List Value).toArray s 0 0 A) (F0 m 95 ls [.int k95_0]) := by
  have hK := hKK.1
  have hN := hKK.2.1
  have hO := hKK.2.2
  intro k95_0 cm stp am ac al ay as_ ax h H locs hP hD hS ls hl
  unfold jn_M_cell_95 at h
  refine lv_istore (lv' := [(7, .int k95_0), (0, .ref h0), (1, .int i1), (2, .int i2), (3, .int i3), (4, .int i4), (5, .int i5), (6, .int i6)]) hx hb d_M_cell_95 hl (by decide) rfl (fun ls hl => ?_)
  refine lv_iload hx hb d_M_cell_97 (lv_at hl 0 rfl) ?_
  refine lv_if_eq (tgt := 120) hx hb d_M_cell_99 (by decide) (fun c_2 => ?_) (fun c_2 => ?_)
  · rw [if_pos c_2] at h
    refine lv_iconst (v := (-1 : Int32)) hx hb d_M_cell_120 (by decide) ?_
    exact W.iret (v := (-1 : Int32)) hx hb hr (fun t ht hW => ⟨⟨(-1 : Int32), (cm, stp, am, ac, al, ay, as_, ax), rfl, (Option.some.inj h), by rw [ht]; exact hP, hD⟩, hS.F ht⟩) hS.2.2 d_M_cell_121
  · rw [if_neg c_2] at h
    refine lv_iload_n hx hb d_M_cell_102 rfl (lv_at hl 2 rfl) ?_
    refine lv_i2l hx hb d_M_cell_103 rfl ?_
    refine lv_iload_n hx hb d_M_cell_104 rfl (lv_at hl 3 rfl) ?_
    refine lv_i2l hx hb d_M_cell_105 rfl ?_
    refine lv_lmul hx hb d_M_cell_106 ?_
    refine lv_iload hx hb d_M_cell_107 (lv_at hl 7 rfl) ?_
    refine lv_i2l hx hb d_M_cell_109 rfl ?_
    refine lv_iload hx hb d_M_cell_110 (lv_at hl 7 rfl) ?_
    refine lv_i2l hx hb d_M_cell_112 rfl ?_
    refine lv_lmul hx hb d_M_cell_113 ?_
    refine lv_lsub hx hb d_M_cell_114 ?_
    refine lv_lconst (v := (0 : Int64)) hx hb d_M_cell_115 (by decide) ?_
    refine W.lcmp hx hb d_M_cell_116 ?_
    refine lv_if_gt (tgt := 122) hx hb d_M_cell_117 (by decide) (fun c_3 => ?_) (fun c_3 => ?_)
    · rw [if_pos c_3] at h
      refine lv_bipush (v := (6 : Int32)) hx hb d_M_cell_122 (by decide) ?_
      refine lv_aload_n hx hb d_M_cell_124 rfl (lv_at hl 1 rfl) ?_
      refine va_get (D := D) (ci := 5) (v := .int cm) (C := R_Model) (T := F_Model) (N := 14) hx hb htg i_Model hown hK hP 0 rfl rfl 5 (by decide) (htg _ tm_403) (fun _ h9 => h9) rfl d_M_cell_125 ?_
      refine lv_imul hx hb d_M_cell_128 ?_
      refine lv_istore (lv' := [(8, .int ((6 : Int32) * cm)), (7, .int k95_0), (0, .ref h0), (1, .int i1), (2, .int i2), (3, .int i3), (4, .int i4), (5, .int i5), (6, .int i6)]) hx hb d_M_cell_129 hl (by decide) rfl (fun ls hl => ?_)
      refine lv_aload_n hx hb d_M_cell_131 rfl (lv_at hl 2 rfl) ?_
      refine va_get (D := D) (ci := 5) (v := .ref q2) (C := R_Model) (T := F_Model) (N := 14) hx hb htg i_Model hown hK hP 0 rfl rfl 1 (by decide) (htg _ tm_399) (fun _ h9 => h9) rfl d_M_cell_132 ?_
      refine lv_iload hx hb d_M_cell_135 (lv_at hl 0 rfl) ?_
      refine lv_iload_n hx hb d_M_cell_137 rfl (lv_at hl 3 rfl) ?_
      refine lv_i2l hx hb d_M_cell_138 rfl ?_
      by_cases b_4 : inb ((6 : Int32) * cm) 240 = true
      rotate_left
      · rw [if_neg b_4] at h; cases h
      rw [if_pos b_4] at h
      refine va_last hx hb hK hP hD hS 2 0 rfl rfl (inb_in b_4) d_M_cell_139 (fun H locs hP hD hS => ?_)
      have hP : va_P D classes ([(h0, .inr (5, [.ref q1, .ref q2, .ref q3, .ref q4, .ref q5, .int cm, .int stp, .ref q6, .ref q7, .ref q8, .int mus, .int mc_, .int mb_, .ref q9])), (q1, .inl (ct.2.2, 9, .inl am)), (q2, .inl (ct.1, 240, .inr (.inl (vp_updL ac ((6 : Int32) * cm).toNatClampNeg (i1.toInt64))))), (q3, .inl (ct.1, 240, .inr (.inl al))), (q4, .inl (ct.2.2, 40, .inl ay)), (q5, .inl (ct.2.2, 40, .inl as_)), (q6, .inl (ct.1, 6, .inr (.inl ax)))] ++ wt) H := hP
      have hD : va_D A ([(h0, .inr (5, [.ref q1, .ref q2, .ref q3, .ref q4, .ref q5, .int cm, .int stp, .ref q6, .ref q7, .ref q8, .int mus, .int mc_, .int mb_, .ref q9])), (q1, .inl (ct.2.2, 9, .inl am)), (q2, .inl (ct.1, 240, .inr (.inl (vp_updL ac ((6 : Int32) * cm).toNatClampNeg (i1.toInt64))))), (q3, .inl (ct.1, 240, .inr (.inl al))), (q4, .inl (ct.2.2, 40, .inl ay)), (q5, .inl (ct.2.2, 40, .inl as_)), (q6, .inl (ct.1, 6, .inr (.inl ax)))] ++ wt) := hD
      refine lv_aload_n hx hb d_M_cell_140 rfl (lv_at hl 2 rfl) ?_
      refine va_get (D := D) (ci := 5) (v := .ref q2) (C := R_Model) (T := F_Model) (N := 14) hx hb htg i_Model hown hK hP 0 rfl rfl 1 (by decide) (htg _ tm_399) (fun _ h9 => h9) rfl d_M_cell_141 ?_
      refine lv_iload hx hb d_M_cell_144 (lv_at hl 0 rfl) ?_
      refine lv_iconst (v := (1 : Int32)) hx hb d_M_cell_146 (by decide) ?_
      refine lv_iadd hx hb d_M_cell_147 ?_
      refine lv_iload_n hx hb d_M_cell_148 rfl (lv_at hl 4 rfl) ?_
      refine lv_i2l hx hb d_M_cell_149 rfl ?_
      by_cases b_5 : inb (((6 : Int32) * cm) + (1 : Int32)) 240 = true
      rotate_left
      · rw [if_neg b_5] at h; cases h
      rw [if_pos b_5] at h
      refine va_last hx hb hK hP hD hS 2 0 rfl rfl (inb_in b_5) d_M_cell_150 (fun H locs hP hD hS => ?_)
      have hP : va_P D classes ([(h0, .inr (5, [.ref q1, .ref q2, .ref q3, .ref q4, .ref q5, .int cm, .int stp, .ref q6, .ref q7, .ref q8, .int mus, .int mc_, .int mb_, .ref q9])), (q1, .inl (ct.2.2, 9, .inl am)), (q2, .inl (ct.1, 240, .inr (.inl (vp_updL (vp_updL ac ((6 : Int32) * cm).toNatClampNeg (i1.toInt64)) (((6 : Int32) * cm) + (1 : Int32)).toNatClampNeg (i2.toInt64))))), (q3, .inl (ct.1, 240, .inr (.inl al))), (q4, .inl (ct.2.2, 40, .inl ay)), (q5, .inl (ct.2.2, 40, .inl as_)), (q6, .inl (ct.1, 6, .inr (.inl ax)))] ++ wt) H := hP
      have hD : va_D A ([(h0, .inr (5, [.ref q1, .ref q2, .ref q3, .ref q4, .ref q5, .int cm, .int stp, .ref q6, .ref q7, .ref q8, .int mus, .int mc_, .int mb_, .ref q9])), (q1, .inl (ct.2.2, 9, .inl am)), (q2, .inl (ct.1, 240, .inr (.inl (vp_updL (vp_updL ac ((6 : Int32) * cm).toNatClampNeg (i1.toInt64)) (((6 : Int32) * cm) + (1 : Int32)).toNatClampNeg (i2.toInt64))))), (q3, .inl (ct.1, 240, .inr (.inl al))), (q4, .inl (ct.2.2, 40, .inl ay)), (q5, .inl (ct.2.2, 40, .inl as_)), (q6, .inl (ct.1, 6, .inr (.inl ax)))] ++ wt) := hD
      refine lv_aload_n hx hb d_M_cell_151 rfl (lv_at hl 2 rfl) ?_
      refine va_get (D := D) (ci := 5) (v := .ref q2) (C := R_Model) (T := F_Model) (N := 14) hx hb htg i_Model hown hK hP 0 rfl rfl 1 (by decide) (htg _ tm_399) (fun _ h9 => h9) rfl d_M_cell_152 ?_
      refine lv_iload hx hb d_M_cell_155 (lv_at hl 0 rfl) ?_
      refine lv_iconst (v := (2 : Int32)) hx hb d_M_cell_157 (by decide) ?_
      refine lv_iadd hx hb d_M_cell_158 ?_
      refine lv_iload_n hx hb d_M_cell_159 rfl (lv_at hl 5 rfl) ?_
      refine lv_i2l hx hb d_M_cell_160 rfl ?_
      by_cases b_6 : inb (((6 : Int32) * cm) + (2 : Int32)) 240 = true
      rotate_left
      · rw [if_neg b_6] at h; cases h
      rw [if_pos b_6] at h
      refine va_last hx hb hK hP hD hS 2 0 rfl rfl (inb_in b_6) d_M_cell_161 (fun H locs hP hD hS => ?_)
      have hP : va_P D classes ([(h0, .inr (5, [.ref q1, .ref q2, .ref q3, .ref q4, .ref q5, .int cm, .int stp, .ref q6, .ref q7, .ref q8, .int mus, .int mc_, .int mb_, .ref q9])), (q1, .inl (ct.2.2, 9, .inl am)), (q2, .inl (ct.1, 240, .inr (.inl (vp_updL (vp_updL (vp_updL ac ((6 : Int32) * cm).toNatClampNeg (i1.toInt64)) (((6 : Int32) * cm) + (1 : Int32)).toNatClampNeg (i2.toInt64)) (((6 : Int32) * cm) + (2 : Int32)).toNatClampNeg (i3.toInt64))))), (q3, .inl (ct.1, 240, .inr (.inl al))), (q4, .inl (ct.2.2, 40, .inl ay)), (q5, .inl (ct.2.2, 40, .inl as_)), (q6, .inl (ct.1, 6, .inr (.inl ax)))] ++ wt) H := hP
      have hD : va_D A ([(h0, .inr (5, [.ref q1, .ref q2, .ref q3, .ref q4, .ref q5, .int cm, .int stp, .ref q6, .ref q7, .ref q8, .int mus, .int mc_, .int mb_, .ref q9])), (q1, .inl (ct.2.2, 9, .inl am)), (q2, .inl (ct.1, 240, .inr (.inl (vp_updL (vp_updL (vp_updL ac ((6 : Int32) * cm).toNatClampNeg (i1.toInt64)) (((6 : Int32) * cm) + (1 : Int32)).toNatClampNeg (i2.toInt64)) (((6 : Int32) * cm) + (2 : Int32)).toNatClampNeg (i3.toInt64))))), (q3, .inl (ct.1, 240, .inr (.inl al))), (q4, .inl (ct.2.2, 40, .inl ay)), (q5, .inl (ct.2.2, 40, .inl as_)), (q6, .inl (ct.1, 6, .inr (.inl ax)))] ++ wt) := hD
      refine lv_aload_n hx hb d_M_cell_162 rfl (lv_at hl 2 rfl) ?_
      refine va_get (D := D) (ci := 5) (v := .ref q2) (C := R_Model) (T := F_Model) (N := 14) hx hb htg i_Model hown hK hP 0 rfl rfl 1 (by decide) (htg _ tm_399) (fun _ h9 => h9) rfl d_M_cell_163 ?_
      refine lv_iload hx hb d_M_cell_166 (lv_at hl 0 rfl) ?_
      refine lv_iconst (v := (3 : Int32)) hx hb d_M_cell_168 (by decide) ?_
      refine lv_iadd hx hb d_M_cell_169 ?_
      refine lv_iload hx hb d_M_cell_170 (lv_at hl 6 rfl) ?_
      refine lv_i2l hx hb d_M_cell_172 rfl ?_
      by_cases b_7 : inb (((6 : Int32) * cm) + (3 : Int32)) 240 = true
      rotate_left
      · rw [if_neg b_7] at h; cases h
      rw [if_pos b_7] at h
      refine va_last hx hb hK hP hD hS 2 0 rfl rfl (inb_in b_7) d_M_cell_173 (fun H locs hP hD hS => ?_)
      have hP : va_P D classes ([(h0, .inr (5, [.ref q1, .ref q2, .ref q3, .ref q4, .ref q5, .int cm, .int stp, .ref q6, .ref q7, .ref q8, .int mus, .int mc_, .int mb_, .ref q9])), (q1, .inl (ct.2.2, 9, .inl am)), (q2, .inl (ct.1, 240, .inr (.inl (vp_updL (vp_updL (vp_updL (vp_updL ac ((6 : Int32) * cm).toNatClampNeg (i1.toInt64)) (((6 : Int32) * cm) + (1 : Int32)).toNatClampNeg (i2.toInt64)) (((6 : Int32) * cm) + (2 : Int32)).toNatClampNeg (i3.toInt64)) (((6 : Int32) * cm) + (3 : Int32)).toNatClampNeg (i4.toInt64))))), (q3, .inl (ct.1, 240, .inr (.inl al))), (q4, .inl (ct.2.2, 40, .inl ay)), (q5, .inl (ct.2.2, 40, .inl as_)), (q6, .inl (ct.1, 6, .inr (.inl ax)))] ++ wt) H := hP
      have hD : va_D A ([(h0, .inr (5, [.ref q1, .ref q2, .ref q3, .ref q4, .ref q5, .int cm, .int stp, .ref q6, .ref q7, .ref q8, .int mus, .int mc_, .int mb_, .ref q9])), (q1, .inl (ct.2.2, 9, .inl am)), (q2, .inl (ct.1, 240, .inr (.inl (vp_updL (vp_updL (vp_updL (vp_updL ac ((6 : Int32) * cm).toNatClampNeg (i1.toInt64)) (((6 : Int32) * cm) + (1 : Int32)).toNatClampNeg (i2.toInt64)) (((6 : Int32) * cm) + (2 : Int32)).toNatClampNeg (i3.toInt64)) (((6 : Int32) * cm) + (3 : Int32)).toNatClampNeg (i4.toInt64))))), (q3, .inl (ct.1, 240, .inr (.inl al))), (q4, .inl (ct.2.2, 40, .inl ay)), (q5, .inl (ct.2.2, 40, .inl as_)), (q6, .inl (ct.1, 6, .inr (.inl ax)))] ++ wt) := hD
      refine lv_aload_n hx hb d_M_cell_174 rfl (lv_at hl 2 rfl) ?_
      refine va_get (D := D) (ci := 5) (v := .ref q2) (C := R_Model) (T := F_Model) (N := 14) hx hb htg i_Model hown hK hP 0 rfl rfl 1 (by decide) (htg _ tm_399) (fun _ h9 => h9) rfl d_M_cell_175 ?_
      refine lv_iload hx hb d_M_cell_178 (lv_at hl 0 rfl) ?_
      refine lv_iconst (v := (4 : Int32)) hx hb d_M_cell_180 (by decide) ?_
      refine lv_iadd hx hb d_M_cell_181 ?_
      refine lv_iload hx hb d_M_cell_182 (lv_at hl 7 rfl) ?_
      refine lv_i2l hx hb d_M_cell_184 rfl ?_
      by_cases b_8 : inb (((6 : Int32) * cm) + (4 : Int32)) 240 = true
      rotate_left
      · rw [if_neg b_8] at h; cases h
      rw [if_pos b_8] at h
      refine va_last hx hb hK hP hD hS 2 0 rfl rfl (inb_in b_8) d_M_cell_185 (fun H locs hP hD hS => ?_)
      have hP : va_P D classes ([(h0, .inr (5, [.ref q1, .ref q2, .ref q3, .ref q4, .ref q5, .int cm, .int stp, .ref q6, .ref q7, .ref q8, .int mus, .int mc_, .int mb_, .ref q9])), (q1, .inl (ct.2.2, 9, .inl am)), (q2, .inl (ct.1, 240, .inr (.inl (vp_updL (vp_updL (vp_updL (vp_updL (vp_updL ac ((6 : Int32) * cm).toNatClampNeg (i1.toInt64)) (((6 : Int32) * cm) + (1 : Int32)).toNatClampNeg (i2.toInt64)) (((6 : Int32) * cm) + (2 : Int32)).toNatClampNeg (i3.toInt64)) (((6 : Int32) * cm) + (3 : Int32)).toNatClampNeg (i4.toInt64)) (((6 : Int32) * cm) + (4 : Int32)).toNatClampNeg (i5.toInt64))))), (q3, .inl (ct.1, 240, .inr (.inl al))), (q4, .inl (ct.2.2, 40, .inl ay)), (q5, .inl (ct.2.2, 40, .inl as_)), (q6, .inl (ct.1, 6, .inr (.inl ax)))] ++ wt) H := hP
      have hD : va_D A ([(h0, .inr (5, [.ref q1, .ref q2, .ref q3, .ref q4, .ref q5, .int cm, .int stp, .ref q6, .ref q7, .ref q8, .int mus, .int mc_, .int mb_, .ref q9])), (q1, .inl (ct.2.2, 9, .inl am)), (q2, .inl (ct.1, 240, .inr (.inl (vp_updL (vp_updL (vp_updL (vp_updL (vp_updL ac ((6 : Int32) * cm).toNatClampNeg (i1.toInt64)) (((6 : Int32) * cm) + (1 : Int32)).toNatClampNeg (i2.toInt64)) (((6 : Int32) * cm) + (2 : Int32)).toNatClampNeg (i3.toInt64)) (((6 : Int32) * cm) + (3 : Int32)).toNatClampNeg (i4.toInt64)) (((6 : Int32) * cm) + (4 : Int32)).toNatClampNeg (i5.toInt64))))), (q3, .inl (ct.1, 240, .inr (.inl al))), (q4, .inl (ct.2.2, 40, .inl ay)), (q5, .inl (ct.2.2, 40, .inl as_)), (q6, .inl (ct.1, 6, .inr (.inl ax)))] ++ wt) := hD
      refine lv_aload_n hx hb d_M_cell_186 rfl (lv_at hl 2 rfl) ?_
      refine va_get (D := D) (ci := 5) (v := .ref q2) (C := R_Model) (T := F_Model) (N := 14) hx hb htg i_Model hown hK hP 0 rfl rfl 1 (by decide) (htg _ tm_399) (fun _ h9 => h9) rfl d_M_cell_187 ?_
      refine lv_iload hx hb d_M_cell_190 (lv_at hl 0 rfl) ?_
      refine lv_iconst (v := (5 : Int32)) hx hb d_M_cell_192 (by decide) ?_
      refine lv_iadd hx hb d_M_cell_193 ?_
      refine lv_iload hx hb d_M_cell_194 (lv_at hl 8 rfl) ?_
      refine lv_i2l hx hb d_M_cell_196 rfl ?_
      by_cases b_9 : inb (((6 : Int32) * cm) + (5 : Int32)) 240 = true
      rotate_left
      · rw [if_neg b_9] at h; cases h
      rw [if_pos b_9] at h
      refine va_last hx hb hK hP hD hS 2 0 rfl rfl (inb_in b_9) d_M_cell_197 (fun H locs hP hD hS => ?_)
      have hP : va_P D classes ([(h0, .inr (5, [.ref q1, .ref q2, .ref q3, .ref q4, .ref q5, .int cm, .int stp, .ref q6, .ref q7, .ref q8, .int mus, .int mc_, .int mb_, .ref q9])), (q1, .inl (ct.2.2, 9, .inl am)), (q2, .inl (ct.1, 240, .inr (.inl (vp_updL (vp_updL (vp_updL (vp_updL (vp_updL (vp_updL ac ((6 : Int32) * cm).toNatClampNeg (i1.toInt64)) (((6 : Int32) * cm) + (1 : Int32)).toNatClampNeg (i2.toInt64)) (((6 : Int32) * cm) + (2 : Int32)).toNatClampNeg (i3.toInt64)) (((6 : Int32) * cm) + (3 : Int32)).toNatClampNeg (i4.toInt64)) (((6 : Int32) * cm) + (4 : Int32)).toNatClampNeg (i5.toInt64)) (((6 : Int32) * cm) + (5 : Int32)).toNatClampNeg (i6.toInt64))))), (q3, .inl (ct.1, 240, .inr (.inl al))), (q4, .inl (ct.2.2, 40, .inl ay)), (q5, .inl (ct.2.2, 40, .inl as_)), (q6, .inl (ct.1, 6, .inr (.inl ax)))] ++ wt) H := hP
      have hD : va_D A ([(h0, .inr (5, [.ref q1, .ref q2, .ref q3, .ref q4, .ref q5, .int cm, .int stp, .ref q6, .ref q7, .ref q8, .int mus, .int mc_, .int mb_, .ref q9])), (q1, .inl (ct.2.2, 9, .inl am)), (q2, .inl (ct.1, 240, .inr (.inl (vp_updL (vp_updL (vp_updL (vp_updL (vp_updL (vp_updL ac ((6 : Int32) * cm).toNatClampNeg (i1.toInt64)) (((6 : Int32) * cm) + (1 : Int32)).toNatClampNeg (i2.toInt64)) (((6 : Int32) * cm) + (2 : Int32)).toNatClampNeg (i3.toInt64)) (((6 : Int32) * cm) + (3 : Int32)).toNatClampNeg (i4.toInt64)) (((6 : Int32) * cm) + (4 : Int32)).toNatClampNeg (i5.toInt64)) (((6 : Int32) * cm) + (5 : Int32)).toNatClampNeg (i6.toInt64))))), (q3, .inl (ct.1, 240, .inr (.inl al))), (q4, .inl (ct.2.2, 40, .inl ay)), (q5, .inl (ct.2.2, 40, .inl as_)), (q6, .inl (ct.1, 6, .inr (.inl ax)))] ++ wt) := hD
      refine lv_aload_n hx hb d_M_cell_198 rfl (lv_at hl 2 rfl) ?_
      refine va_get (D := D) (ci := 5) (v := .ref q2) (C := R_Model) (T := F_Model) (N := 14) hx hb htg i_Model hown hK hP 0 rfl rfl 1 (by decide) (htg _ tm_399) (fun _ h9 => h9) rfl d_M_cell_199 ?_
      refine lv_iload hx hb d_M_cell_202 (lv_at hl 0 rfl) ?_
      rcases e_10 : f_M_det (vp_updL (vp_updL (vp_updL (vp_updL (vp_updL (vp_updL ac ((6 : Int32) * cm).toNatClampNeg (i1.toInt64)) (((6 : Int32) * cm) + (1 : Int32)).toNatClampNeg (i2.toInt64)) (((6 : Int32) * cm) + (2 : Int32)).toNatClampNeg (i3.toInt64)) (((6 : Int32) * cm) + (3 : Int32)).toNatClampNeg (i4.toInt64)) (((6 : Int32) * cm) + (4 : Int32)).toNatClampNeg (i5.toInt64)) (((6 : Int32) * cm) + (5 : Int32)).toNatClampNeg (i6.toInt64)) ((6 : Int32) * cm) with _ | v_11
      · rw [e_10] at h; cases h
      rw [e_10, Option.bind_some] at h
      try dsimp only at h
      refine vp_callSl (va_Run.run (va_runS (As := [.ref q2, .int ((6 : Int32) * cm)]) (rest := []) ⟨hx, hb, hml, hown, htg⟩ (c_M_det l D ct ([(h0, .inr (5, [.ref q1, .ref q2, .ref q3, .ref q4, .ref q5, .int cm, .int stp, .ref q6, .ref q7, .ref q8, .int mus, .int mc_, .int mb_, .ref q9])), (q1, .inl (ct.2.2, 9, .inl am)), (q2, .inl (ct.1, 240, .inr (.inl (vp_updL (vp_updL (vp_updL (vp_updL (vp_updL (vp_updL ac ((6 : Int32) * cm).toNatClampNeg (i1.toInt64)) (((6 : Int32) * cm) + (1 : Int32)).toNatClampNeg (i2.toInt64)) (((6 : Int32) * cm) + (2 : Int32)).toNatClampNeg (i3.toInt64)) (((6 : Int32) * cm) + (3 : Int32)).toNatClampNeg (i4.toInt64)) (((6 : Int32) * cm) + (4 : Int32)).toNatClampNeg (i5.toInt64)) (((6 : Int32) * cm) + (5 : Int32)).toNatClampNeg (i6.toInt64))))), (q3, .inl (ct.1, 240, .inr (.inl al))), (q4, .inl (ct.2.2, 40, .inl ay)), (q5, .inl (ct.2.2, 40, .inl as_)), (q6, .inl (ct.1, 6, .inr (.inl ax)))] ++ wt) 2 q2 (vp_updL (vp_updL (vp_updL (vp_updL (vp_updL (vp_updL ac ((6 : Int32) * cm).toNatClampNeg (i1.toInt64)) (((6 : Int32) * cm) + (1 : Int32)).toNatClampNeg (i2.toInt64)) (((6 : Int32) * cm) + (2 : Int32)).toNatClampNeg (i3.toInt64)) (((6 : Int32) * cm) + (3 : Int32)).toNatClampNeg (i4.toInt64)) (((6 : Int32) * cm) + (4 : Int32)).toNatClampNeg (i5.toInt64)) (((6 : Int32) * cm) + (5 : Int32)).toNatClampNeg (i6.toInt64)) ((6 : Int32) * cm) rfl  _ e_10) (cwS 2 htg (giS tm_451 tm_452 tm_34 g_M_det) rfl rfl rfl (by decide +kernel) ⟨Nat.le_of_ble_eq_true rfl, Nat.le_of_ble_eq_true rfl⟩) (preS hP hKK) rfl rfl hl.1 rfl (lv_room (Nat.le_of_ble_eq_true rfl)) d_M_cell_204 ⟨Nat.le_of_ble_eq_true rfl, Nat.le_of_ble_eq_true rfl⟩)) (fun r9 hr9 => ?_)
      have hr9 := hr9.symm
      subst hr9
      refine lv_lconst (v := (0 : Int64)) hx hb d_M_cell_207 (by decide) ?_
      refine W.lcmp hx hb d_M_cell_208 ?_
      refine lv_if_gt (tgt := 214) hx hb d_M_cell_209 (by decide) (fun c_12 => ?_) (fun c_12 => ?_)
      · rw [if_pos c_12] at h
        refine lv_iconst (v := (0 : Int32)) hx hb d_M_cell_214 (by decide) ?_
        refine lv_istore (lv' := [(9, .int (0 : Int32)), (8, .int ((6 : Int32) * cm)), (7, .int k95_0), (0, .ref h0), (1, .int i1), (2, .int i2), (3, .int i3), (4, .int i4), (5, .int i5), (6, .int i6)]) hx hb d_M_cell_215 hl (by decide) rfl (fun ls hl => ?_)
        have L_217 : ∀ (n : Nat) (go : Int32) (a0 : Int32) (kk : Int32) (cm : Int32) (stp : Int32) (am : Nat → Int32) (ac : Nat → Int64) (al : Nat → Int64) (ay : Nat → Int32) (as_ : Nat → Int32) (ax : Nat → Int64) (go' : Int32) (a0' : Int32) (kk' : Int32) (cm' : Int32) (stp' : Int32) (am' : Nat → Int32) (ac' : Nat → Int64) (al' : Nat → Int64) (ay' : Nat → Int32) (as_' : Nat → Int32) (ax' : Nat → Int64), lp_M_cell_217 i1 i2 i3 i4 i5 i6 n go a0 kk cm stp am ac al ay as_ ax = some (go', a0', kk', cm', stp', am', ac', al', ay', as_', ax') → ∀ (H : Heap) (locs : List Loc), va_P D classes ([(h0, .inr (5, [.ref q1, .ref q2, .ref q3, .ref q4, .ref q5, .int cm, .int stp, .ref q6, .ref q7, .ref q8, .int mus, .int mc_, .int mb_, .ref q9])), (q1, .inl (ct.2.2, 9, .inl am)), (q2, .inl (ct.1, 240, .inr (.inl ac))), (q3, .inl (ct.1, 240, .inr (.inl al))), (q4, .inl (ct.2.2, 40, .inl ay)), (q5, .inl (ct.2.2, 40, .inl as_)), (q6, .inl (ct.1, 6, .inr (.inl ax)))] ++ wt) H → va_D A ([(h0, .inr (5, [.ref q1, .ref q2, .ref q3, .ref q4, .ref q5, .int cm, .int stp, .ref q6, .ref q7, .ref q8, .int mus, .int mc_, .int mb_, .ref q9])), (q1, .inl (ct.2.2, 9, .inl am)), (q2, .inl (ct.1, 240, .inr (.inl ac))), (q3, .inl (ct.1, 240, .inr (.inl al))), (q4, .inl (ct.2.2, 40, .inl ay)), (q5, .inl (ct.2.2, 40, .inl as_)), (q6, .inl (ct.1, 6, .inr (.inl ax)))] ++ wt) → va_S A s.heap H locs → ∀ (ls : Array Slot), lv_has ls 11 [(7, .int go), (8, .int a0), (9, .int kk), (0, .ref h0), (1, .int i1), (2, .int i2), (3, .int i3), (4, .int i4), (5, .int i5), (6, .int i6)] → (∀ (H : Heap) (locs : List Loc), va_P D classes ([(h0, .inr (5, [.ref q1, .ref q2, .ref q3, .ref q4, .ref q5, .int cm', .int stp', .ref q6, .ref q7, .ref q8, .int mus, .int mc_, .int mb_, .ref q9])), (q1, .inl (ct.2.2, 9, .inl am')), (q2, .inl (ct.1, 240, .inr (.inl ac'))), (q3, .inl (ct.1, 240, .inr (.inl al'))), (q4, .inl (ct.2.2, 40, .inl ay')), (q5, .inl (ct.2.2, 40, .inl as_')), (q6, .inl (ct.1, 6, .inr (.inl ax')))] ++ wt) H → va_D A ([(h0, .inr (5, [.ref q1, .ref q2, .ref q3, .ref q4, .ref q5, .int cm', .int stp', .ref q6, .ref q7, .ref q8, .int mus, .int mc_, .int mb_, .ref q9])), (q1, .inl (ct.2.2, 9, .inl am')), (q2, .inl (ct.1, 240, .inr (.inl ac'))), (q3, .inl (ct.1, 240, .inr (.inl al'))), (q4, .inl (ct.2.2, 40, .inl ay')), (q5, .inl (ct.2.2, 40, .inl as_')), (q6, .inl (ct.1, 6, .inr (.inl ax')))] ++ wt) → va_S A s.heap H locs → ∀ (ls : Array Slot), lv_has ls 11 [(7, .int go'), (8, .int a0'), (9, .int kk'), (0, .ref h0), (1, .int i1), (2, .int i2), (3, .int i3), (4, .int i4), (5, .int i5), (6, .int i6)] → W p l e (headSpec w_M_cell rm_M_cell).room s m ([.ref h0, .int i1, .int i2, .int i3, .int i4, .int i5, .int i6] : List Value).toArray below meth c H locs 0 0 (MQ below (va_Qi (fun r u => (r, u) = r0) (fun (u : Int32 × Int32 × (Nat → Int32) × (Nat → Int64) × (Nat → Int64) × (Nat → Int32) × (Nat → Int32) × (Nat → Int64)) t => match u with | (cm', stp', am', ac', al', ay', as_', ax') => va_P D classes ([(h0, .inr (5, [.ref q1, .ref q2, .ref q3, .ref q4, .ref q5, .int cm', .int stp', .ref q6, .ref q7, .ref q8, .int mus, .int mc_, .int mb_, .ref q9])), (q1, .inl (ct.2.2, 9, .inl am')), (q2, .inl (ct.1, 240, .inr (.inl ac'))), (q3, .inl (ct.1, 240, .inr (.inl al'))), (q4, .inl (ct.2.2, 40, .inl ay')), (q5, .inl (ct.2.2, 40, .inl as_')), (q6, .inl (ct.1, 6, .inr (.inl ax')))] ++ wt) t.heap ∧ va_D A ([(h0, .inr (5, [.ref q1, .ref q2, .ref q3, .ref q4, .ref q5, .int cm', .int stp', .ref q6, .ref q7, .ref q8, .int mus, .int mc_, .int mb_, .ref q9])), (q1, .inl (ct.2.2, 9, .inl am')), (q2, .inl (ct.1, 240, .inr (.inl ac'))), (q3, .inl (ct.1, 240, .inr (.inl al'))), (q4, .inl (ct.2.2, 40, .inl ay')), (q5, .inl (ct.2.2, 40, .inl as_')), (q6, .inl (ct.1, 6, .inr (.inl ax')))] ++ wt)) A) ([.ref h0, .int i1, .int i2, .int i3, .int i4, .int i5, .int i6] : List Value).toArray s 0 0 A) (F0 m 247 ls [])) → W p l e (headSpec w_M_cell rm_M_cell).room s m ([.ref h0, .int i1, .int i2, .int i3, .int i4, .int i5, .int i6] : List Value).toArray below meth c H locs 0 0 (MQ below (va_Qi (fun r u => (r, u) = r0) (fun (u : Int32 × Int32 × (Nat → Int32) × (Nat → Int64) × (Nat → Int64) × (Nat → Int32) × (Nat → Int32) × (Nat → Int64)) t => match u with | (cm', stp', am', ac', al', ay', as_', ax') => va_P D classes ([(h0, .inr (5, [.ref q1, .ref q2, .ref q3, .ref q4, .ref q5, .int cm', .int stp', .ref q6, .ref q7, .ref q8, .int mus, .int mc_, .int mb_, .ref q9])), (q1, .inl (ct.2.2, 9, .inl am')), (q2, .inl (ct.1, 240, .inr (.inl ac'))), (q3, .inl (ct.1, 240, .inr (.inl al'))), (q4, .inl (ct.2.2, 40, .inl ay')), (q5, .inl (ct.2.2, 40, .inl as_')), (q6, .inl (ct.1, 6, .inr (.inl ax')))] ++ wt) t.heap ∧ va_D A ([(h0, .inr (5, [.ref q1, .ref q2, .ref q3, .ref q4, .ref q5, .int cm', .int stp', .ref q6, .ref q7, .ref q8, .int mus, .int mc_, .int mb_, .ref q9])), (q1, .inl (ct.2.2, 9, .inl am')), (q2, .inl (ct.1, 240, .inr (.inl ac'))), (q3, .inl (ct.1, 240, .inr (.inl al'))), (q4, .inl (ct.2.2, 40, .inl ay')), (q5, .inl (ct.2.2, 40, .inl as_')), (q6, .inl (ct.1, 6, .inr (.inl ax')))] ++ wt)) A) ([.ref h0, .int i1, .int i2, .int i3, .int i4, .int i5, .int i6] : List Value).toArray s 0 0 A) (F0 m 217 ls []) := by
          intro n
          induction n with
          | zero =>
            intro go a0 kk cm stp am ac al ay as_ ax go' a0' kk' cm' stp' am' ac' al' ay' as_' ax' h
            rw [lp_M_cell_217] at h
            cases h
          | succ n ih =>
            intro go a0 kk cm stp am ac al ay as_ ax go' a0' kk' cm' stp' am' ac' al' ay' as_' ax' h H locs hP hD hS ls hl K
            rw [lp_M_cell_217] at h
            refine lv_iload hx hb d_M_cell_217 (lv_at hl 2 rfl) ?_
            refine lv_bipush (v := (6 : Int32)) hx hb d_M_cell_219 (by decide) ?_
            refine lv_icmp_ge (tgt := 247) hx hb d_M_cell_221 (by decide) (fun c_13 => ?_) (fun c_13 => ?_)
            · rw [if_pos c_13] at h
              cases h
              exact K _ _ hP hD hS _ (lv_sub hl [0, 1, 2, 3, 4, 5, 6, 7, 8, 9] rfl)
            · rw [if_neg c_13] at h
              refine lv_aload_n hx hb d_M_cell_224 rfl (lv_at hl 3 rfl) ?_
              refine va_get (D := D) (ci := 5) (v := .ref q6) (C := R_Model) (T := F_Model) (N := 14) hx hb htg i_Model hown hK hP 0 rfl rfl 7 (by decide) (htg _ tm_405) (fun _ h9 => h9) rfl d_M_cell_225 ?_
              refine lv_iload hx hb d_M_cell_228 (lv_at hl 2 rfl) ?_
              refine lv_aload_n hx hb d_M_cell_230 rfl (lv_at hl 3 rfl) ?_
              refine va_get (D := D) (ci := 5) (v := .ref q2) (C := R_Model) (T := F_Model) (N := 14) hx hb htg i_Model hown hK hP 0 rfl rfl 1 (by decide) (htg _ tm_399) (fun _ h9 => h9) rfl d_M_cell_231 ?_
              refine lv_iload hx hb d_M_cell_234 (lv_at hl 1 rfl) ?_
              refine lv_iload hx hb d_M_cell_236 (lv_at hl 2 rfl) ?_
              refine lv_iadd hx hb d_M_cell_238 ?_
              by_cases b_14 : inb (a0 + kk) 240 = true
              rotate_left
              · rw [if_neg b_14] at h; cases h
              rw [if_pos b_14] at h
              refine va_lald hx hb hK hP 2 0 rfl rfl (inb_in b_14) d_M_cell_239 ?_
              by_cases b_15 : inb kk 6 = true
              rotate_left
              · rw [if_neg b_15] at h; cases h
              rw [if_pos b_15] at h
              refine va_last hx hb hK hP hD hS 6 0 rfl rfl (inb_in b_15) d_M_cell_240 (fun H locs hP hD hS => ?_)
              have hP : va_P D classes ([(h0, .inr (5, [.ref q1, .ref q2, .ref q3, .ref q4, .ref q5, .int cm, .int stp, .ref q6, .ref q7, .ref q8, .int mus, .int mc_, .int mb_, .ref q9])), (q1, .inl (ct.2.2, 9, .inl am)), (q2, .inl (ct.1, 240, .inr (.inl ac))), (q3, .inl (ct.1, 240, .inr (.inl al))), (q4, .inl (ct.2.2, 40, .inl ay)), (q5, .inl (ct.2.2, 40, .inl as_)), (q6, .inl (ct.1, 6, .inr (.inl (vp_updL ax kk.toNatClampNeg (ac (a0 + kk).toNatClampNeg)))))] ++ wt) H := hP
              have hD : va_D A ([(h0, .inr (5, [.ref q1, .ref q2, .ref q3, .ref q4, .ref q5, .int cm, .int stp, .ref q6, .ref q7, .ref q8, .int mus, .int mc_, .int mb_, .ref q9])), (q1, .inl (ct.2.2, 9, .inl am)), (q2, .inl (ct.1, 240, .inr (.inl ac))), (q3, .inl (ct.1, 240, .inr (.inl al))), (q4, .inl (ct.2.2, 40, .inl ay)), (q5, .inl (ct.2.2, 40, .inl as_)), (q6, .inl (ct.1, 6, .inr (.inl (vp_updL ax kk.toNatClampNeg (ac (a0 + kk).toNatClampNeg)))))] ++ wt) := hD
              refine lv_iinc (v := kk + (1 : Int32)) (lv' := [(9, .int (kk + (1 : Int32))), (7, .int go), (8, .int a0), (0, .ref h0), (1, .int i1), (2, .int i2), (3, .int i3), (4, .int i4), (5, .int i5), (6, .int i6)]) hx hb d_M_cell_241 hl (k := 2) rfl rfl (by decide) rfl (fun ls hl => ?_)
              refine lv_goto (tgt := 217) hx hb d_M_cell_244 (by decide) ?_
              exact ih go a0 (kk + (1 : Int32)) cm stp am ac al ay as_ (vp_updL ax kk.toNatClampNeg (ac (a0 + kk).toNatClampNeg)) _ _ _ _ _ _ _ _ _ _ _ h H locs hP hD hS ls (lv_sub hl [1, 2, 0, 3, 4, 5, 6, 7, 8, 9] rfl) K
        rcases e_27 : lp_M_cell_217 i1 i2 i3 i4 i5 i6 8 k95_0 ((6 : Int32) * cm) (0 : Int32) cm stp am (vp_updL (vp_updL (vp_updL (vp_updL (vp_updL (vp_updL ac ((6 : Int32) * cm).toNatClampNeg (i1.toInt64)) (((6 : Int32) * cm) + (1 : Int32)).toNatClampNeg (i2.toInt64)) (((6 : Int32) * cm) + (2 : Int32)).toNatClampNeg (i3.toInt64)) (((6 : Int32) * cm) + (3 : Int32)).toNatClampNeg (i4.toInt64)) (((6 : Int32) * cm) + (4 : Int32)).toNatClampNeg (i5.toInt64)) (((6 : Int32) * cm) + (5 : Int32)).toNatClampNeg (i6.toInt64)) al ay as_ ax with _ | ⟨go_16, a0_17, kk_18, cm_19, stp_20, am_21, ac_22, al_23, ay_24, as__25, ax_26⟩
        · rw [e_27] at h; cases h
        rw [e_27, Option.bind_some] at h
        try dsimp only at h
        refine L_217 8 k95_0 ((6 : Int32) * cm) (0 : Int32) cm stp am (vp_updL (vp_updL (vp_updL (vp_updL (vp_updL (vp_updL ac ((6 : Int32) * cm).toNatClampNeg (i1.toInt64)) (((6 : Int32) * cm) + (1 : Int32)).toNatClampNeg (i2.toInt64)) (((6 : Int32) * cm) + (2 : Int32)).toNatClampNeg (i3.toInt64)) (((6 : Int32) * cm) + (3 : Int32)).toNatClampNeg (i4.toInt64)) (((6 : Int32) * cm) + (4 : Int32)).toNatClampNeg (i5.toInt64)) (((6 : Int32) * cm) + (5 : Int32)).toNatClampNeg (i6.toInt64)) al ay as_ ax go_16 a0_17 kk_18 cm_19 stp_20 am_21 ac_22 al_23 ay_24 as__25 ax_26 e_27 _ _ hP hD hS ls (lv_sub hl [2, 1, 0, 3, 4, 5, 6, 7, 8, 9] rfl) (fun H locs hP hD hS ls hl => ?_)
        refine lv_aload_n hx hb d_M_cell_247 rfl (lv_at hl 3 rfl) ?_
        refine lv_iconst (v := (0 : Int32)) hx hb d_M_cell_248 (by decide) ?_
        refine va_put (D := D) (ci := 5) (v := .int (0 : Int32)) (ty := .int) (C := R_Model) (T := F_Model) (N := 14) hx hb htg i_Model t_Model t_Model_ok n_Model hown hK hP hD hS 0 rfl rfl 6 (by decide) (htg _ tm_404) (fun _ h9 => h9) rfl (by decide +kernel) rfl rfl (Nat.le_of_ble_eq_true rfl) d_M_cell_249 (fun H locs hP hD hS => ?_)
        have hP : va_P D classes ([(h0, .inr (5, [.ref q1, .ref q2, .ref q3, .ref q4, .ref q5, .int cm_19, .int (0 : Int32), .ref q6, .ref q7, .ref q8, .int mus, .int mc_, .int mb_, .ref q9])), (q1, .inl (ct.2.2, 9, .inl am_21)), (q2, .inl (ct.1, 240, .inr (.inl ac_22))), (q3, .inl (ct.1, 240, .inr (.inl al_23))), (q4, .inl (ct.2.2, 40, .inl ay_24)), (q5, .inl (ct.2.2, 40, .inl as__25)), (q6, .inl (ct.1, 6, .inr (.inl ax_26)))] ++ wt) H := hP
        have hD : va_D A ([(h0, .inr (5, [.ref q1, .ref q2, .ref q3, .ref q4, .ref q5, .int cm_19, .int (0 : Int32), .ref q6, .ref q7, .ref q8, .int mus, .int mc_, .int mb_, .ref q9])), (q1, .inl (ct.2.2, 9, .inl am_21)), (q2, .inl (ct.1, 240, .inr (.inl ac_22))), (q3, .inl (ct.1, 240, .inr (.inl al_23))), (q4, .inl (ct.2.2, 40, .inl ay_24)), (q5, .inl (ct.2.2, 40, .inl as__25)), (q6, .inl (ct.1, 6, .inr (.inl ax_26)))] ++ wt) := hD
        refine lv_aload_n hx hb d_M_cell_252 rfl (lv_at hl 3 rfl) ?_
        have hP := va_P.part (cx := [(h0, .inr (5, [.ref q1, .ref q2, .ref q3, .ref q4, .ref q5, .int cm_19, .int (0 : Int32), .ref q6, .ref q7, .ref q8, .int mus, .int mc_, .int mb_, .ref q9])), (q6, .inl (ct.1, 6, .inr (.inl ax_26))), (q1, .inl (ct.2.2, 9, .inl am_21)), (q2, .inl (ct.1, 240, .inr (.inl ac_22))), (q3, .inl (ct.1, 240, .inr (.inl al_23))), (q4, .inl (ct.2.2, 40, .inl ay_24)), (q5, .inl (ct.2.2, 40, .inl as__25))]) hP [0, 6, 1, 2, 3, 4, 5] rfl
        have hD := va_D.part (cx := [(h0, .inr (5, [.ref q1, .ref q2, .ref q3, .ref q4, .ref q5, .int cm_19, .int (0 : Int32), .ref q6, .ref q7, .ref q8, .int mus, .int mc_, .int mb_, .ref q9])), (q6, .inl (ct.1, 6, .inr (.inl ax_26))), (q1, .inl (ct.2.2, 9, .inl am_21)), (q2, .inl (ct.1, 240, .inr (.inl ac_22))), (q3, .inl (ct.1, 240, .inr (.inl al_23))), (q4, .inl (ct.2.2, 40, .inl ay_24)), (q5, .inl (ct.2.2, 40, .inl as__25))]) hD [0, 6, 1, 2, 3, 4, 5] (by decide) rfl
        rcases e_30 : f_M_reduce ax_26 (0 : Int32) with _ | ⟨ax_28, stp_29⟩
        · rw [e_30] at h; cases h
        rw [e_30, Option.bind_some] at h
        try dsimp only at h
        refine va_callv (va_runV (As := []) (rest := []) ⟨hx, hb, hml, hown, htg⟩ (c_M_reduce l D ct A ([(q1, .inl (ct.2.2, 9, .inl am_21)), (q2, .inl (ct.1, 240, .inr (.inl ac_22))), (q3, .inl (ct.1, 240, .inr (.inl al_23))), (q4, .inl (ct.2.2, 40, .inl ay_24)), (q5, .inl (ct.2.2, 40, .inl as__25))] ++ wt)  h0 q1 q2 q3 q4 q5 q6 q7 q8 q9 cm_19 (0 : Int32) mus mc_ mb_ ax_26   _ e_30) (cwV 0 htg (giV tm_454 tm_456 tm_19 tm_34 g_M_reduce) rfl rfl rfl (by decide +kernel) ⟨Nat.le_of_ble_eq_true rfl, Nat.le_of_ble_eq_true rfl⟩) (preVM hA hS hP hD hKK (va_recv hK hP (ci := 5) (q0 := 0) rfl rfl)) rfl rfl hl.1 rfl (lv_room (Nat.le_of_ble_eq_true rfl)) d_M_cell_253 ⟨Nat.le_of_ble_eq_true rfl, Nat.le_of_ble_eq_true rfl⟩) hS (fun q _ h9 => h9) (fun q h9 => h9) (fun u9 t9 H locs ht9 hvm9 hw9 hB9 hz9 hk9 hS => ?_)
        rw [hw9] at hB9
        obtain ⟨hP, hD⟩ := hB9
        rw [ht9] at hP
        have hP : va_P D classes ([(h0, .inr (5, [.ref q1, .ref q2, .ref q3, .ref q4, .ref q5, .int cm_19, .int stp_29, .ref q6, .ref q7, .ref q8, .int mus, .int mc_, .int mb_, .ref q9])), (q6, .inl (ct.1, 6, .inr (.inl ax_28))), (q1, .inl (ct.2.2, 9, .inl am_21)), (q2, .inl (ct.1, 240, .inr (.inl ac_22))), (q3, .inl (ct.1, 240, .inr (.inl al_23))), (q4, .inl (ct.2.2, 40, .inl ay_24)), (q5, .inl (ct.2.2, 40, .inl as__25))] ++ wt) H := hP
        have hD : va_D A ([(h0, .inr (5, [.ref q1, .ref q2, .ref q3, .ref q4, .ref q5, .int cm_19, .int stp_29, .ref q6, .ref q7, .ref q8, .int mus, .int mc_, .int mb_, .ref q9])), (q6, .inl (ct.1, 6, .inr (.inl ax_28))), (q1, .inl (ct.2.2, 9, .inl am_21)), (q2, .inl (ct.1, 240, .inr (.inl ac_22))), (q3, .inl (ct.1, 240, .inr (.inl al_23))), (q4, .inl (ct.2.2, 40, .inl ay_24)), (q5, .inl (ct.2.2, 40, .inl as__25))] ++ wt) := hD
        refine lv_aload_n hx hb d_M_cell_256 rfl (lv_at hl 3 rfl) ?_
        refine va_get (D := D) (ci := 5) (v := .ref q5) (C := R_Model) (T := F_Model) (N := 14) hx hb htg i_Model hown hK hP 0 rfl rfl 4 (by decide) (htg _ tm_402) (fun _ h9 => h9) rfl d_M_cell_257 ?_
        refine lv_aload_n hx hb d_M_cell_260 rfl (lv_at hl 3 rfl) ?_
        refine va_get (D := D) (ci := 5) (v := .int cm_19) (C := R_Model) (T := F_Model) (N := 14) hx hb htg i_Model hown hK hP 0 rfl rfl 5 (by decide) (htg _ tm_403) (fun _ h9 => h9) rfl d_M_cell_261 ?_
        refine lv_aload_n hx hb d_M_cell_264 rfl (lv_at hl 3 rfl) ?_
        refine va_get (D := D) (ci := 5) (v := .int stp_29) (C := R_Model) (T := F_Model) (N := 14) hx hb htg i_Model hown hK hP 0 rfl rfl 6 (by decide) (htg _ tm_404) (fun _ h9 => h9) rfl d_M_cell_265 ?_
        by_cases b_31 : inb cm_19 40 = true
        rotate_left
        · rw [if_neg b_31] at h; cases h
        rw [if_pos b_31] at h
        refine va_iast hx hb hK hP hD hS 6 2 rfl rfl (inb_in b_31) d_M_cell_268 (fun H locs hP hD hS => ?_)
        have hP : va_P D classes ([(h0, .inr (5, [.ref q1, .ref q2, .ref q3, .ref q4, .ref q5, .int cm_19, .int stp_29, .ref q6, .ref q7, .ref q8, .int mus, .int mc_, .int mb_, .ref q9])), (q6, .inl (ct.1, 6, .inr (.inl ax_28))), (q1, .inl (ct.2.2, 9, .inl am_21)), (q2, .inl (ct.1, 240, .inr (.inl ac_22))), (q3, .inl (ct.1, 240, .inr (.inl al_23))), (q4, .inl (ct.2.2, 40, .inl ay_24)), (q5, .inl (ct.2.2, 40, .inl (upd as__25 cm_19.toNatClampNeg stp_29)))] ++ wt) H := hP
        have hD : va_D A ([(h0, .inr (5, [.ref q1, .ref q2, .ref q3, .ref q4, .ref q5, .int cm_19, .int stp_29, .ref q6, .ref q7, .ref q8, .int mus, .int mc_, .int mb_, .ref q9])), (q6, .inl (ct.1, 6, .inr (.inl ax_28))), (q1, .inl (ct.2.2, 9, .inl am_21)), (q2, .inl (ct.1, 240, .inr (.inl ac_22))), (q3, .inl (ct.1, 240, .inr (.inl al_23))), (q4, .inl (ct.2.2, 40, .inl ay_24)), (q5, .inl (ct.2.2, 40, .inl (upd as__25 cm_19.toNatClampNeg stp_29)))] ++ wt) := hD
        refine lv_iconst (v := (0 : Int32)) hx hb d_M_cell_269 (by decide) ?_
        refine lv_istore (lv' := [(9, .int (0 : Int32)), (7, .int go_16), (8, .int a0_17), (0, .ref h0), (1, .int i1), (2, .int i2), (3, .int i3), (4, .int i4), (5, .int i5), (6, .int i6)]) hx hb d_M_cell_270 hl (by decide) rfl (fun ls hl => ?_)
        have hP := va_P.part (cx := [(h0, .inr (5, [.ref q1, .ref q2, .ref q3, .ref q4, .ref q5, .int cm_19, .int stp_29, .ref q6, .ref q7, .ref q8, .int mus, .int mc_, .int mb_, .ref q9])), (q1, .inl (ct.2.2, 9, .inl am_21)), (q2, .inl (ct.1, 240, .inr (.inl ac_22))), (q3, .inl (ct.1, 240, .inr (.inl al_23))), (q4, .inl (ct.2.2, 40, .inl ay_24)), (q5, .inl (ct.2.2, 40, .inl (upd as__25 cm_19.toNatClampNeg stp_29))), (q6, .inl (ct.1, 6, .inr (.inl ax_28)))]) hP [0, 2, 3, 4, 5, 6, 1] rfl
        have hD := va_D.part (cx := [(h0, .inr (5, [.ref q1, .ref q2, .ref q3, .ref q4, .ref q5, .int cm_19, .int stp_29, .ref q6, .ref q7, .ref q8, .int mus, .int mc_, .int mb_, .ref q9])), (q1, .inl (ct.2.2, 9, .inl am_21)), (q2, .inl (ct.1, 240, .inr (.inl ac_22))), (q3, .inl (ct.1, 240, .inr (.inl al_23))), (q4, .inl (ct.2.2, 40, .inl ay_24)), (q5, .inl (ct.2.2, 40, .inl (upd as__25 cm_19.toNatClampNeg stp_29))), (q6, .inl (ct.1, 6, .inr (.inl ax_28)))]) hD [0, 2, 3, 4, 5, 6, 1] (by decide) rfl
        have L_272 : ∀ (n : Nat) (go : Int32) (a0 : Int32) (kk : Int32) (cm : Int32) (stp : Int32) (am : Nat → Int32) (ac : Nat → Int64) (al : Nat → Int64) (ay : Nat → Int32) (as_ : Nat → Int32) (ax : Nat → Int64) (go' : Int32) (a0' : Int32) (kk' : Int32) (cm' : Int32) (stp' : Int32) (am' : Nat → Int32) (ac' : Nat → Int64) (al' : Nat → Int64) (ay' : Nat → Int32) (as_' : Nat → Int32) (ax' : Nat → Int64), lp_M_cell_272 i1 i2 i3 i4 i5 i6 n go a0 kk cm stp am ac al ay as_ ax = some (go', a0', kk', cm', stp', am', ac', al', ay', as_', ax') → ∀ (H : Heap) (locs : List Loc), va_P D classes ([(h0, .inr (5, [.ref q1, .ref q2, .ref q3, .ref q4, .ref q5, .int cm, .int stp, .ref q6, .ref q7, .ref q8, .int mus, .int mc_, .int mb_, .ref q9])), (q1, .inl (ct.2.2, 9, .inl am)), (q2, .inl (ct.1, 240, .inr (.inl ac))), (q3, .inl (ct.1, 240, .inr (.inl al))), (q4, .inl (ct.2.2, 40, .inl ay)), (q5, .inl (ct.2.2, 40, .inl as_)), (q6, .inl (ct.1, 6, .inr (.inl ax)))] ++ wt) H → va_D A ([(h0, .inr (5, [.ref q1, .ref q2, .ref q3, .ref q4, .ref q5, .int cm, .int stp, .ref q6, .ref q7, .ref q8, .int mus, .int mc_, .int mb_, .ref q9])), (q1, .inl (ct.2.2, 9, .inl am)), (q2, .inl (ct.1, 240, .inr (.inl ac))), (q3, .inl (ct.1, 240, .inr (.inl al))), (q4, .inl (ct.2.2, 40, .inl ay)), (q5, .inl (ct.2.2, 40, .inl as_)), (q6, .inl (ct.1, 6, .inr (.inl ax)))] ++ wt) → va_S A s.heap H locs → ∀ (ls : Array Slot), lv_has ls 11 [(7, .int go), (8, .int a0), (9, .int kk), (0, .ref h0), (1, .int i1), (2, .int i2), (3, .int i3), (4, .int i4), (5, .int i5), (6, .int i6)] → (∀ (H : Heap) (locs : List Loc), va_P D classes ([(h0, .inr (5, [.ref q1, .ref q2, .ref q3, .ref q4, .ref q5, .int cm', .int stp', .ref q6, .ref q7, .ref q8, .int mus, .int mc_, .int mb_, .ref q9])), (q1, .inl (ct.2.2, 9, .inl am')), (q2, .inl (ct.1, 240, .inr (.inl ac'))), (q3, .inl (ct.1, 240, .inr (.inl al'))), (q4, .inl (ct.2.2, 40, .inl ay')), (q5, .inl (ct.2.2, 40, .inl as_')), (q6, .inl (ct.1, 6, .inr (.inl ax')))] ++ wt) H → va_D A ([(h0, .inr (5, [.ref q1, .ref q2, .ref q3, .ref q4, .ref q5, .int cm', .int stp', .ref q6, .ref q7, .ref q8, .int mus, .int mc_, .int mb_, .ref q9])), (q1, .inl (ct.2.2, 9, .inl am')), (q2, .inl (ct.1, 240, .inr (.inl ac'))), (q3, .inl (ct.1, 240, .inr (.inl al'))), (q4, .inl (ct.2.2, 40, .inl ay')), (q5, .inl (ct.2.2, 40, .inl as_')), (q6, .inl (ct.1, 6, .inr (.inl ax')))] ++ wt) → va_S A s.heap H locs → ∀ (ls : Array Slot), lv_has ls 11 [(7, .int go'), (8, .int a0'), (9, .int kk'), (0, .ref h0), (1, .int i1), (2, .int i2), (3, .int i3), (4, .int i4), (5, .int i5), (6, .int i6)] → W p l e (headSpec w_M_cell rm_M_cell).room s m ([.ref h0, .int i1, .int i2, .int i3, .int i4, .int i5, .int i6] : List Value).toArray below meth c H locs 0 0 (MQ below (va_Qi (fun r u => (r, u) = r0) (fun (u : Int32 × Int32 × (Nat → Int32) × (Nat → Int64) × (Nat → Int64) × (Nat → Int32) × (Nat → Int32) × (Nat → Int64)) t => match u with | (cm', stp', am', ac', al', ay', as_', ax') => va_P D classes ([(h0, .inr (5, [.ref q1, .ref q2, .ref q3, .ref q4, .ref q5, .int cm', .int stp', .ref q6, .ref q7, .ref q8, .int mus, .int mc_, .int mb_, .ref q9])), (q1, .inl (ct.2.2, 9, .inl am')), (q2, .inl (ct.1, 240, .inr (.inl ac'))), (q3, .inl (ct.1, 240, .inr (.inl al'))), (q4, .inl (ct.2.2, 40, .inl ay')), (q5, .inl (ct.2.2, 40, .inl as_')), (q6, .inl (ct.1, 6, .inr (.inl ax')))] ++ wt) t.heap ∧ va_D A ([(h0, .inr (5, [.ref q1, .ref q2, .ref q3, .ref q4, .ref q5, .int cm', .int stp', .ref q6, .ref q7, .ref q8, .int mus, .int mc_, .int mb_, .ref q9])), (q1, .inl (ct.2.2, 9, .inl am')), (q2, .inl (ct.1, 240, .inr (.inl ac'))), (q3, .inl (ct.1, 240, .inr (.inl al'))), (q4, .inl (ct.2.2, 40, .inl ay')), (q5, .inl (ct.2.2, 40, .inl as_')), (q6, .inl (ct.1, 6, .inr (.inl ax')))] ++ wt)) A) ([.ref h0, .int i1, .int i2, .int i3, .int i4, .int i5, .int i6] : List Value).toArray s 0 0 A) (F0 m 302 ls [])) → W p l e (headSpec w_M_cell rm_M_cell).room s m ([.ref h0, .int i1, .int i2, .int i3, .int i4, .int i5, .int i6] : List Value).toArray below meth c H locs 0 0 (MQ below (va_Qi (fun r u => (r, u) = r0) (fun (u : Int32 × Int32 × (Nat → Int32) × (Nat → Int64) × (Nat → Int64) × (Nat → Int32) × (Nat → Int32) × (Nat → Int64)) t => match u with | (cm', stp', am', ac', al', ay', as_', ax') => va_P D classes ([(h0, .inr (5, [.ref q1, .ref q2, .ref q3, .ref q4, .ref q5, .int cm', .int stp', .ref q6, .ref q7, .ref q8, .int mus, .int mc_, .int mb_, .ref q9])), (q1, .inl (ct.2.2, 9, .inl am')), (q2, .inl (ct.1, 240, .inr (.inl ac'))), (q3, .inl (ct.1, 240, .inr (.inl al'))), (q4, .inl (ct.2.2, 40, .inl ay')), (q5, .inl (ct.2.2, 40, .inl as_')), (q6, .inl (ct.1, 6, .inr (.inl ax')))] ++ wt) t.heap ∧ va_D A ([(h0, .inr (5, [.ref q1, .ref q2, .ref q3, .ref q4, .ref q5, .int cm', .int stp', .ref q6, .ref q7, .ref q8, .int mus, .int mc_, .int mb_, .ref q9])), (q1, .inl (ct.2.2, 9, .inl am')), (q2, .inl (ct.1, 240, .inr (.inl ac'))), (q3, .inl (ct.1, 240, .inr (.inl al'))), (q4, .inl (ct.2.2, 40, .inl ay')), (q5, .inl (ct.2.2, 40, .inl as_')), (q6, .inl (ct.1, 6, .inr (.inl ax')))] ++ wt)) A) ([.ref h0, .int i1, .int i2, .int i3, .int i4, .int i5, .int i6] : List Value).toArray s 0 0 A) (F0 m 272 ls []) := by
          intro n
          induction n with
          | zero =>
            intro go a0 kk cm stp am ac al ay as_ ax go' a0' kk' cm' stp' am' ac' al' ay' as_' ax' h
            rw [lp_M_cell_272] at h
            cases h
          | succ n ih =>
            intro go a0 kk cm stp am ac al ay as_ ax go' a0' kk' cm' stp' am' ac' al' ay' as_' ax' h H locs hP hD hS ls hl K
            rw [lp_M_cell_272] at h
            refine lv_iload hx hb d_M_cell_272 (lv_at hl 2 rfl) ?_
            refine lv_bipush (v := (6 : Int32)) hx hb d_M_cell_274 (by decide) ?_
            refine lv_icmp_ge (tgt := 302) hx hb d_M_cell_276 (by decide) (fun c_32 => ?_) (fun c_32 => ?_)
            · rw [if_pos c_32] at h
              cases h
              exact K _ _ hP hD hS _ (lv_sub hl [0, 1, 2, 3, 4, 5, 6, 7, 8, 9] rfl)
            · rw [if_neg c_32] at h
              refine lv_aload_n hx hb d_M_cell_279 rfl (lv_at hl 3 rfl) ?_
              refine va_get (D := D) (ci := 5) (v := .ref q3) (C := R_Model) (T := F_Model) (N := 14) hx hb htg i_Model hown hK hP 0 rfl rfl 2 (by decide) (htg _ tm_400) (fun _ h9 => h9) rfl d_M_cell_280 ?_
              refine lv_iload hx hb d_M_cell_283 (lv_at hl 1 rfl) ?_
              refine lv_iload hx hb d_M_cell_285 (lv_at hl 2 rfl) ?_
              refine lv_iadd hx hb d_M_cell_287 ?_
              refine lv_aload_n hx hb d_M_cell_288 rfl (lv_at hl 3 rfl) ?_
              refine va_get (D := D) (ci := 5) (v := .ref q6) (C := R_Model) (T := F_Model) (N := 14) hx hb htg i_Model hown hK hP 0 rfl rfl 7 (by decide) (htg _ tm_405) (fun _ h9 => h9) rfl d_M_cell_289 ?_
              refine lv_iload hx hb d_M_cell_292 (lv_at hl 2 rfl) ?_
              by_cases b_33 : inb kk 6 = true
              rotate_left
              · rw [if_neg b_33] at h; cases h
              rw [if_pos b_33] at h
              refine va_lald hx hb hK hP 6 0 rfl rfl (inb_in b_33) d_M_cell_294 ?_
              by_cases b_34 : inb (a0 + kk) 240 = true
              rotate_left
              · rw [if_neg b_34] at h; cases h
              rw [if_pos b_34] at h
              refine va_last hx hb hK hP hD hS 3 0 rfl rfl (inb_in b_34) d_M_cell_295 (fun H locs hP hD hS => ?_)
              have hP : va_P D classes ([(h0, .inr (5, [.ref q1, .ref q2, .ref q3, .ref q4, .ref q5, .int cm, .int stp, .ref q6, .ref q7, .ref q8, .int mus, .int mc_, .int mb_, .ref q9])), (q1, .inl (ct.2.2, 9, .inl am)), (q2, .inl (ct.1, 240, .inr (.inl ac))), (q3, .inl (ct.1, 240, .inr (.inl (vp_updL al (a0 + kk).toNatClampNeg (ax kk.toNatClampNeg))))), (q4, .inl (ct.2.2, 40, .inl ay)), (q5, .inl (ct.2.2, 40, .inl as_)), (q6, .inl (ct.1, 6, .inr (.inl ax)))] ++ wt) H := hP
              have hD : va_D A ([(h0, .inr (5, [.ref q1, .ref q2, .ref q3, .ref q4, .ref q5, .int cm, .int stp, .ref q6, .ref q7, .ref q8, .int mus, .int mc_, .int mb_, .ref q9])), (q1, .inl (ct.2.2, 9, .inl am)), (q2, .inl (ct.1, 240, .inr (.inl ac))), (q3, .inl (ct.1, 240, .inr (.inl (vp_updL al (a0 + kk).toNatClampNeg (ax kk.toNatClampNeg))))), (q4, .inl (ct.2.2, 40, .inl ay)), (q5, .inl (ct.2.2, 40, .inl as_)), (q6, .inl (ct.1, 6, .inr (.inl ax)))] ++ wt) := hD
              refine lv_iinc (v := kk + (1 : Int32)) (lv' := [(9, .int (kk + (1 : Int32))), (7, .int go), (8, .int a0), (0, .ref h0), (1, .int i1), (2, .int i2), (3, .int i3), (4, .int i4), (5, .int i5), (6, .int i6)]) hx hb d_M_cell_296 hl (k := 2) rfl rfl (by decide) rfl (fun ls hl => ?_)
              refine lv_goto (tgt := 272) hx hb d_M_cell_299 (by decide) ?_
              exact ih go a0 (kk + (1 : Int32)) cm stp am ac (vp_updL al (a0 + kk).toNatClampNeg (ax kk.toNatClampNeg)) ay as_ ax _ _ _ _ _ _ _ _ _ _ _ h H locs hP hD hS ls (lv_sub hl [1, 2, 0, 3, 4, 5, 6, 7, 8, 9] rfl) K
        rcases e_46 : lp_M_cell_272 i1 i2 i3 i4 i5 i6 8 go_16 a0_17 (0 : Int32) cm_19 stp_29 am_21 ac_22 al_23 ay_24 (upd as__25 cm_19.toNatClampNeg stp_29) ax_28 with _ | ⟨go_35, a0_36, kk_37, cm_38, stp_39, am_40, ac_41, al_42, ay_43, as__44, ax_45⟩
        · rw [e_46] at h; cases h
        rw [e_46, Option.bind_some] at h
        try dsimp only at h
        refine L_272 8 go_16 a0_17 (0 : Int32) cm_19 stp_29 am_21 ac_22 al_23 ay_24 (upd as__25 cm_19.toNatClampNeg stp_29) ax_28 go_35 a0_36 kk_37 cm_38 stp_39 am_40 ac_41 al_42 ay_43 as__44 ax_45 e_46 _ _ hP hD hS ls (lv_sub hl [1, 2, 0, 3, 4, 5, 6, 7, 8, 9] rfl) (fun H locs hP hD hS ls hl => ?_)
        refine lv_iconst (v := (0 : Int32)) hx hb d_M_cell_302 (by decide) ?_
        refine lv_istore (lv' := [(9, .int (0 : Int32)), (7, .int go_35), (8, .int a0_36), (0, .ref h0), (1, .int i1), (2, .int i2), (3, .int i3), (4, .int i4), (5, .int i5), (6, .int i6)]) hx hb d_M_cell_303 hl (by decide) rfl (fun ls hl => ?_)
        refine lv_iconst (v := (0 : Int32)) hx hb d_M_cell_305 (by decide) ?_
        refine lv_istore (lv' := [(10, .int (0 : Int32)), (9, .int (0 : Int32)), (7, .int go_35), (8, .int a0_36), (0, .ref h0), (1, .int i1), (2, .int i2), (3, .int i3), (4, .int i4), (5, .int i5), (6, .int i6)]) hx hb d_M_cell_306 hl (by decide) rfl (fun ls hl => ?_)
        have L_308 : ∀ (n : Nat) (go : Int32) (a0 : Int32) (nw : Int32) (ni : Int32) (cm : Int32) (stp : Int32) (am : Nat → Int32) (ac : Nat → Int64) (al : Nat → Int64) (ay : Nat → Int32) (as_ : Nat → Int32) (ax : Nat → Int64) , lp_M_cell_308 i1 i2 i3 i4 i5 i6 n go a0 nw ni cm stp am ac al ay as_ ax = some r0 → ∀ (H : Heap) (locs : List Loc), va_P D classes ([(h0, .inr (5, [.ref q1, .ref q2, .ref q3, .ref q4, .ref q5, .int cm, .int stp, .ref q6, .ref q7, .ref q8, .int mus, .int mc_, .int mb_, .ref q9])), (q1, .inl (ct.2.2, 9, .inl am)), (q2, .inl (ct.1, 240, .inr (.inl ac))), (q3, .inl (ct.1, 240, .inr (.inl al))), (q4, .inl (ct.2.2, 40, .inl ay)), (q5, .inl (ct.2.2, 40, .inl as_)), (q6, .inl (ct.1, 6, .inr (.inl ax)))] ++ wt) H → va_D A ([(h0, .inr (5, [.ref q1, .ref q2, .ref q3, .ref q4, .ref q5, .int cm, .int stp, .ref q6, .ref q7, .ref q8, .int mus, .int mc_, .int mb_, .ref q9])), (q1, .inl (ct.2.2, 9, .inl am)), (q2, .inl (ct.1, 240, .inr (.inl ac))), (q3, .inl (ct.1, 240, .inr (.inl al))), (q4, .inl (ct.2.2, 40, .inl ay)), (q5, .inl (ct.2.2, 40, .inl as_)), (q6, .inl (ct.1, 6, .inr (.inl ax)))] ++ wt) → va_S A s.heap H locs → ∀ (ls : Array Slot), lv_has ls 11 [(7, .int go), (8, .int a0), (9, .int nw), (10, .int ni), (0, .ref h0), (1, .int i1), (2, .int i2), (3, .int i3), (4, .int i4), (5, .int i5), (6, .int i6)] → W p l e (headSpec w_M_cell rm_M_cell).room s m ([.ref h0, .int i1, .int i2, .int i3, .int i4, .int i5, .int i6] : List Value).toArray below meth c H locs 0 0 (MQ below (va_Qi (fun r u => (r, u) = r0) (fun (u : Int32 × Int32 × (Nat → Int32) × (Nat → Int64) × (Nat → Int64) × (Nat → Int32) × (Nat → Int32) × (Nat → Int64)) t => match u with | (cm', stp', am', ac', al', ay', as_', ax') => va_P D classes ([(h0, .inr (5, [.ref q1, .ref q2, .ref q3, .ref q4, .ref q5, .int cm', .int stp', .ref q6, .ref q7, .ref q8, .int mus, .int mc_, .int mb_, .ref q9])), (q1, .inl (ct.2.2, 9, .inl am')), (q2, .inl (ct.1, 240, .inr (.inl ac'))), (q3, .inl (ct.1, 240, .inr (.inl al'))), (q4, .inl (ct.2.2, 40, .inl ay')), (q5, .inl (ct.2.2, 40, .inl as_')), (q6, .inl (ct.1, 6, .inr (.inl ax')))] ++ wt) t.heap ∧ va_D A ([(h0, .inr (5, [.ref q1, .ref q2, .ref q3, .ref q4, .ref q5, .int cm', .int stp', .ref q6, .ref q7, .ref q8, .int mus, .int mc_, .int mb_, .ref q9])), (q1, .inl (ct.2.2, 9, .inl am')), (q2, .inl (ct.1, 240, .inr (.inl ac'))), (q3, .inl (ct.1, 240, .inr (.inl al'))), (q4, .inl (ct.2.2, 40, .inl ay')), (q5, .inl (ct.2.2, 40, .inl as_')), (q6, .inl (ct.1, 6, .inr (.inl ax')))] ++ wt)) A) ([.ref h0, .int i1, .int i2, .int i3, .int i4, .int i5, .int i6] : List Value).toArray s 0 0 A) (F0 m 308 ls []) := by
          intro n
          induction n with
          | zero =>
            intro go a0 nw ni cm stp am ac al ay as_ ax  h
            rw [lp_M_cell_308] at h
            cases h
          | succ n ih =>
            intro go a0 nw ni cm stp am ac al ay as_ ax  h H locs hP hD hS ls hl
            rw [lp_M_cell_308] at h
            refine lv_iload hx hb d_M_cell_308 (lv_at hl 3 rfl) ?_
            refine lv_sipush (v := (19683 : Int32)) hx hb d_M_cell_310 (by decide) ?_
            refine lv_icmp_ge (tgt := 351) hx hb d_M_cell_313 (by decide) (fun c_47 => ?_) (fun c_47 => ?_)
            · rw [if_pos c_47] at h
              refine lv_aload_n hx hb d_M_cell_351 rfl (lv_at hl 4 rfl) ?_
              refine va_get (D := D) (ci := 5) (v := .ref q4) (C := R_Model) (T := F_Model) (N := 14) hx hb htg i_Model hown hK hP 0 rfl rfl 3 (by decide) (htg _ tm_401) (fun _ h9 => h9) rfl d_M_cell_352 ?_
              refine lv_aload_n hx hb d_M_cell_355 rfl (lv_at hl 4 rfl) ?_
              refine va_get (D := D) (ci := 5) (v := .int cm) (C := R_Model) (T := F_Model) (N := 14) hx hb htg i_Model hown hK hP 0 rfl rfl 5 (by decide) (htg _ tm_403) (fun _ h9 => h9) rfl d_M_cell_356 ?_
              refine lv_iload hx hb d_M_cell_359 (lv_at hl 2 rfl) ?_
              by_cases b_48 : inb cm 40 = true
              rotate_left
              · rw [if_neg b_48] at h; cases h
              rw [if_pos b_48] at h
              refine va_iast hx hb hK hP hD hS 4 2 rfl rfl (inb_in b_48) d_M_cell_361 (fun H locs hP hD hS => ?_)
              have hP : va_P D classes ([(h0, .inr (5, [.ref q1, .ref q2, .ref q3, .ref q4, .ref q5, .int cm, .int stp, .ref q6, .ref q7, .ref q8, .int mus, .int mc_, .int mb_, .ref q9])), (q1, .inl (ct.2.2, 9, .inl am)), (q2, .inl (ct.1, 240, .inr (.inl ac))), (q3, .inl (ct.1, 240, .inr (.inl al))), (q4, .inl (ct.2.2, 40, .inl (upd ay cm.toNatClampNeg nw))), (q5, .inl (ct.2.2, 40, .inl as_)), (q6, .inl (ct.1, 6, .inr (.inl ax)))] ++ wt) H := hP
              have hD : va_D A ([(h0, .inr (5, [.ref q1, .ref q2, .ref q3, .ref q4, .ref q5, .int cm, .int stp, .ref q6, .ref q7, .ref q8, .int mus, .int mc_, .int mb_, .ref q9])), (q1, .inl (ct.2.2, 9, .inl am)), (q2, .inl (ct.1, 240, .inr (.inl ac))), (q3, .inl (ct.1, 240, .inr (.inl al))), (q4, .inl (ct.2.2, 40, .inl (upd ay cm.toNatClampNeg nw))), (q5, .inl (ct.2.2, 40, .inl as_)), (q6, .inl (ct.1, 6, .inr (.inl ax)))] ++ wt) := hD
              refine lv_aload_n hx hb d_M_cell_362 rfl (lv_at hl 4 rfl) ?_
              refine lv_dup hx hb d_M_cell_363 rfl ?_
              refine va_get (D := D) (ci := 5) (v := .int cm) (C := R_Model) (T := F_Model) (N := 14) hx hb htg i_Model hown hK hP 0 rfl rfl 5 (by decide) (htg _ tm_403) (fun _ h9 => h9) rfl d_M_cell_364 ?_
              refine lv_iconst (v := (1 : Int32)) hx hb d_M_cell_367 (by decide) ?_
              refine lv_iadd hx hb d_M_cell_368 ?_
              refine va_put (D := D) (ci := 5) (v := .int (cm + (1 : Int32))) (ty := .int) (C := R_Model) (T := F_Model) (N := 14) hx hb htg i_Model t_Model t_Model_ok n_Model hown hK hP hD hS 0 rfl rfl 5 (by decide) (htg _ tm_403) (fun _ h9 => h9) rfl (by decide +kernel) rfl rfl (Nat.le_of_ble_eq_true rfl) d_M_cell_369 (fun H locs hP hD hS => ?_)
              have hP : va_P D classes ([(h0, .inr (5, [.ref q1, .ref q2, .ref q3, .ref q4, .ref q5, .int (cm + (1 : Int32)), .int stp, .ref q6, .ref q7, .ref q8, .int mus, .int mc_, .int mb_, .ref q9])), (q1, .inl (ct.2.2, 9, .inl am)), (q2, .inl (ct.1, 240, .inr (.inl ac))), (q3, .inl (ct.1, 240, .inr (.inl al))), (q4, .inl (ct.2.2, 40, .inl (upd ay cm.toNatClampNeg nw))), (q5, .inl (ct.2.2, 40, .inl as_)), (q6, .inl (ct.1, 6, .inr (.inl ax)))] ++ wt) H := hP
              have hD : va_D A ([(h0, .inr (5, [.ref q1, .ref q2, .ref q3, .ref q4, .ref q5, .int (cm + (1 : Int32)), .int stp, .ref q6, .ref q7, .ref q8, .int mus, .int mc_, .int mb_, .ref q9])), (q1, .inl (ct.2.2, 9, .inl am)), (q2, .inl (ct.1, 240, .inr (.inl ac))), (q3, .inl (ct.1, 240, .inr (.inl al))), (q4, .inl (ct.2.2, 40, .inl (upd ay cm.toNatClampNeg nw))), (q5, .inl (ct.2.2, 40, .inl as_)), (q6, .inl (ct.1, 6, .inr (.inl ax)))] ++ wt) := hD
              refine lv_aload_n hx hb d_M_cell_372 rfl (lv_at hl 4 rfl) ?_
              refine va_get (D := D) (ci := 5) (v := .int (cm + (1 : Int32))) (C := R_Model) (T := F_Model) (N := 14) hx hb htg i_Model hown hK hP 0 rfl rfl 5 (by decide) (htg _ tm_403) (fun _ h9 => h9) rfl d_M_cell_373 ?_
              refine lv_iconst (v := (1 : Int32)) hx hb d_M_cell_376 (by decide) ?_
              refine lv_isub hx hb d_M_cell_377 ?_
              exact W.iret (v := (cm + (1 : Int32)) - (1 : Int32)) hx hb hr (fun t ht hW => ⟨⟨(cm + (1 : Int32)) - (1 : Int32), (cm + (1 : Int32), stp, am, ac, al, upd ay cm.toNatClampNeg nw, as_, ax), rfl, (Option.some.inj h), by rw [ht]; exact hP, hD⟩, hS.F ht⟩) hS.2.2 d_M_cell_378
            · rw [if_neg c_47] at h
              refine lv_aload_n hx hb d_M_cell_316 rfl (lv_at hl 4 rfl) ?_
              refine lv_iload hx hb d_M_cell_317 (lv_at hl 3 rfl) ?_
              rcases e_50 : f_M_open am ni with _ | am_49
              · rw [e_50] at h; cases h
              rw [e_50, Option.bind_some] at h
              try dsimp only at h
              refine va_callv (va_runV (As := [.int ni]) (rest := []) ⟨hx, hb, hml, hown, htg⟩ (c_M_open l D ct A ([(q2, .inl (ct.1, 240, .inr (.inl ac))), (q3, .inl (ct.1, 240, .inr (.inl al))), (q4, .inl (ct.2.2, 40, .inl ay)), (q5, .inl (ct.2.2, 40, .inl as_)), (q6, .inl (ct.1, 6, .inr (.inl ax)))] ++ wt)  h0 q1 q2 q3 q4 q5 q6 q7 q8 q9 cm stp mus mc_ mb_ am ni   _ e_50) (cwV 1 htg (giV tm_471 tm_473 tm_22 tm_34 g_M_open) rfl rfl rfl (by decide +kernel) ⟨Nat.le_of_ble_eq_true rfl, Nat.le_of_ble_eq_true rfl⟩) (preVM hA hS hP hD hKK (va_recv hK hP (ci := 5) (q0 := 0) rfl rfl)) rfl rfl hl.1 rfl (lv_room (Nat.le_of_ble_eq_true rfl)) d_M_cell_319 ⟨Nat.le_of_ble_eq_true rfl, Nat.le_of_ble_eq_true rfl⟩) hS (fun q _ h9 => h9) (fun q h9 => h9) (fun u9 t9 H locs ht9 hvm9 hw9 hB9 hz9 hk9 hS => ?_)
              rw [hw9] at hB9
              obtain ⟨hP, hD⟩ := hB9
              rw [ht9] at hP
              have hP : va_P D classes ([(h0, .inr (5, [.ref q1, .ref q2, .ref q3, .ref q4, .ref q5, .int cm, .int stp, .ref q6, .ref q7, .ref q8, .int mus, .int mc_, .int mb_, .ref q9])), (q1, .inl (ct.2.2, 9, .inl am_49)), (q2, .inl (ct.1, 240, .inr (.inl ac))), (q3, .inl (ct.1, 240, .inr (.inl al))), (q4, .inl (ct.2.2, 40, .inl ay)), (q5, .inl (ct.2.2, 40, .inl as_)), (q6, .inl (ct.1, 6, .inr (.inl ax)))] ++ wt) H := hP
              have hD : va_D A ([(h0, .inr (5, [.ref q1, .ref q2, .ref q3, .ref q4, .ref q5, .int cm, .int stp, .ref q6, .ref q7, .ref q8, .int mus, .int mc_, .int mb_, .ref q9])), (q1, .inl (ct.2.2, 9, .inl am_49)), (q2, .inl (ct.1, 240, .inr (.inl ac))), (q3, .inl (ct.1, 240, .inr (.inl al))), (q4, .inl (ct.2.2, 40, .inl ay)), (q5, .inl (ct.2.2, 40, .inl as_)), (q6, .inl (ct.1, 6, .inr (.inl ax)))] ++ wt) := hD
              refine lv_iload hx hb d_M_cell_322 (lv_at hl 2 rfl) ?_
              refine lv_aload_n hx hb d_M_cell_324 rfl (lv_at hl 4 rfl) ?_
              refine lv_aload_n hx hb d_M_cell_325 rfl (lv_at hl 4 rfl) ?_
              refine va_get (D := D) (ci := 5) (v := .ref q3) (C := R_Model) (T := F_Model) (N := 14) hx hb htg i_Model hown hK hP 0 rfl rfl 2 (by decide) (htg _ tm_400) (fun _ h9 => h9) rfl d_M_cell_326 ?_
              refine lv_iload hx hb d_M_cell_329 (lv_at hl 1 rfl) ?_
              rcases e_51 : f_M_keeps6 am_49 al a0 with _ | v_52
              · rw [e_51] at h; cases h
              rw [e_51, Option.bind_some] at h
              try dsimp only at h
              refine vp_callSi (va_Run.run (va_runV (As := [.ref q3, .int a0]) (rest := [.int nw]) ⟨hx, hb, hml, hown, htg⟩ (c_M_keeps6 l D ct ([(h0, .inr (5, [.ref q1, .ref q2, .ref q3, .ref q4, .ref q5, .int cm, .int stp, .ref q6, .ref q7, .ref q8, .int mus, .int mc_, .int mb_, .ref q9])), (q1, .inl (ct.2.2, 9, .inl am_49)), (q2, .inl (ct.1, 240, .inr (.inl ac))), (q3, .inl (ct.1, 240, .inr (.inl al))), (q4, .inl (ct.2.2, 40, .inl ay)), (q5, .inl (ct.2.2, 40, .inl as_)), (q6, .inl (ct.1, 6, .inr (.inl ax)))] ++ wt) 0 1 3 h0 q1 q2 q3 q4 q5 q6 q7 q8 q9 cm stp mus mc_ mb_ am_49 q3 al a0 rfl rfl rfl  _ e_51) (cwV 2 htg (giV tm_475 tm_477 tm_23 tm_34 g_M_keeps6) rfl rfl rfl (by decide +kernel) ⟨Nat.le_of_ble_eq_true rfl, Nat.le_of_ble_eq_true rfl⟩) (preV hP hKK (va_recv hK hP (ci := 5) (q0 := 0) rfl rfl)) rfl rfl hl.1 rfl (lv_room (Nat.le_of_ble_eq_true rfl)) d_M_cell_331 ⟨Nat.le_of_ble_eq_true rfl, Nat.le_of_ble_eq_true rfl⟩)) (fun r9 hr9 => ?_)
              have hb_v_52 := hr9.2
              have hr9 := hr9.1.symm
              subst hr9
              refine lv_if_eq (tgt := 341) hx hb d_M_cell_334 (by decide) (fun c_53 => ?_) (fun c_53 => ?_)
              · rw [if_pos c_53] at h
                refine lv_iconst (v := (0 : Int32)) hx hb d_M_cell_341 (by decide) ?_
                refine lv_iadd hx hb d_M_cell_342 ?_
                refine lv_istore (lv' := [(9, .int (nw + (0 : Int32))), (7, .int go), (8, .int a0), (10, .int ni), (0, .ref h0), (1, .int i1), (2, .int i2), (3, .int i3), (4, .int i4), (5, .int i5), (6, .int i6)]) hx hb d_M_cell_343 hl (by decide) rfl (fun ls hl => ?_)
                refine lv_iinc (v := ni + (1 : Int32)) (lv' := [(10, .int (ni + (1 : Int32))), (9, .int (nw + (0 : Int32))), (7, .int go), (8, .int a0), (0, .ref h0), (1, .int i1), (2, .int i2), (3, .int i3), (4, .int i4), (5, .int i5), (6, .int i6)]) hx hb d_M_cell_345 hl (k := 3) rfl rfl (by decide) rfl (fun ls hl => ?_)
                refine lv_goto (tgt := 308) hx hb d_M_cell_348 (by decide) ?_
                exact ih go a0 (nw + (0 : Int32)) (ni + (1 : Int32)) cm stp am_49 ac al ay as_ ax h H locs hP hD hS ls (lv_sub hl [2, 3, 1, 0, 4, 5, 6, 7, 8, 9, 10] rfl)
              · rw [if_neg c_53] at h
                refine lv_iconst (v := (1 : Int32)) hx hb d_M_cell_337 (by decide) ?_
                refine lv_goto (tgt := 342) hx hb d_M_cell_338 (by decide) ?_
                refine lv_iadd hx hb d_M_cell_342 ?_
                refine lv_istore (lv' := [(9, .int (nw + (1 : Int32))), (7, .int go), (8, .int a0), (10, .int ni), (0, .ref h0), (1, .int i1), (2, .int i2), (3, .int i3), (4, .int i4), (5, .int i5), (6, .int i6)]) hx hb d_M_cell_343 hl (by decide) rfl (fun ls hl => ?_)
                refine lv_iinc (v := ni + (1 : Int32)) (lv' := [(10, .int (ni + (1 : Int32))), (9, .int (nw + (1 : Int32))), (7, .int go), (8, .int a0), (0, .ref h0), (1, .int i1), (2, .int i2), (3, .int i3), (4, .int i4), (5, .int i5), (6, .int i6)]) hx hb d_M_cell_345 hl (k := 3) rfl rfl (by decide) rfl (fun ls hl => ?_)
                refine lv_goto (tgt := 308) hx hb d_M_cell_348 (by decide) ?_
                exact ih go a0 (nw + (1 : Int32)) (ni + (1 : Int32)) cm stp am_49 ac al ay as_ ax h H locs hP hD hS ls (lv_sub hl [2, 3, 1, 0, 4, 5, 6, 7, 8, 9, 10] rfl)
        exact L_308 19685 go_35 a0_36 (0 : Int32) (0 : Int32) cm_38 stp_39 am_40 ac_41 al_42 ay_43 as__44 ax_45 h _ _ hP hD hS ls (lv_sub hl [2, 3, 1, 0, 4, 5, 6, 7, 8, 9, 10] rfl)
      · rw [if_neg c_12] at h
        refine lv_iconst (v := (-1 : Int32)) hx hb d_M_cell_212 (by decide) ?_
        exact W.iret (v := (-1 : Int32)) hx hb hr (fun t ht hW => ⟨⟨(-1 : Int32), (cm, stp, am, vp_updL (vp_updL (vp_updL (vp_updL (vp_updL (vp_updL ac ((6 : Int32) * cm).toNatClampNeg (i1.toInt64)) (((6 : Int32) * cm) + (1 : Int32)).toNatClampNeg (i2.toInt64)) (((6 : Int32) * cm) + (2 : Int32)).toNatClampNeg (i3.toInt64)) (((6 : Int32) * cm) + (3 : Int32)).toNatClampNeg (i4.toInt64)) (((6 : Int32) * cm) + (4 : Int32)).toNatClampNeg (i5.toInt64)) (((6 : Int32) * cm) + (5 : Int32)).toNatClampNeg (i6.toInt64), al, ay, as_, ax), rfl, (Option.some.inj h), by rw [ht]; exact hP, hD⟩, hS.F ht⟩) hS.2.2 d_M_cell_213
    · rw [if_neg c_3] at h
      refine lv_iconst (v := (-1 : Int32)) hx hb d_M_cell_120 (by decide) ?_
      exact W.iret (v := (-1 : Int32)) hx hb hr (fun t ht hW => ⟨⟨(-1 : Int32), (cm, stp, am, ac, al, ay, as_, ax), rfl, (Option.some.inj h), by rw [ht]; exact hP, hD⟩, hS.F ht⟩) hS.2.2 d_M_cell_121
set_option maxHeartbeats 4000000 in
set_option maxRecDepth 100000 in
theorem c_M_cell (l : Launch) (D : va_G) (ct : CT) (A : Nat → Prop) (wt : va_W)  (h0 : Nat) (q1 : Nat) (q2 : Nat) (q3 : Nat) (q4 : Nat) (q5 : Nat) (q6 : Nat) (q7 : Nat) (q8 : Nat) (q9 : Nat) (cm : Int32) (stp : Int32) (mus : Int32) (mc_ : Int32) (mb_ : Int32) (am : Nat → Int32) (ac : Nat → Int64) (al : Nat → Int64) (ay : Nat → Int32) (as_ : Nat → Int32) (ax : Nat → Int64) (i1 : Int32) (i2 : Int32) (i3 : Int32) (i4 : Int32) (i5 : Int32) (i6 : Int32)   (r0 : Int32 × Int32 × Int32 × (Nat → Int32) × (Nat → Int64) × (Nat → Int64) × (Nat → Int32) × (Nat → Int32) × (Nat → Int64)) (h : f_M_cell cm stp am ac al ay as_ ax i1 i2 i3 i4 i5 i6 = some r0) : Met l y_M_cell w_M_cell rm_M_cell (va_Pc [.ref h0, .int i1, .int i2, .int i3, .int i4, .int i5, .int i6] (PreM D ct A ([(h0, .inr (5, [.ref q1, .ref q2, .ref q3, .ref q4, .ref q5, .int cm, .int stp, .ref q6, .ref q7, .ref q8, .int mus, .int mc_, .int mb_, .ref q9])), (q1, .inl (ct.2.2, 9, .inl am)), (q2, .inl (ct.1, 240, .inr (.inl ac))), (q3, .inl (ct.1, 240, .inr (.inl al))), (q4, .inl (ct.2.2, 40, .inl ay)), (q5, .inl (ct.2.2, 40, .inl as_)), (q6, .inl (ct.1, 6, .inr (.inl ax)))] ++ wt))) (va_Qi (fun r u => (r, u) = r0) (fun (u : Int32 × Int32 × (Nat → Int32) × (Nat → Int64) × (Nat → Int64) × (Nat → Int32) × (Nat → Int32) × (Nat → Int64)) t => match u with | (cm', stp', am', ac', al', ay', as_', ax') => va_P D classes ([(h0, .inr (5, [.ref q1, .ref q2, .ref q3, .ref q4, .ref q5, .int cm', .int stp', .ref q6, .ref q7, .ref q8, .int mus, .int mc_, .int mb_, .ref q9])), (q1, .inl (ct.2.2, 9, .inl am')), (q2, .inl (ct.1, 240, .inr (.inl ac'))), (q3, .inl (ct.1, 240, .inr (.inl al'))), (q4, .inl (ct.2.2, 40, .inl ay')), (q5, .inl (ct.2.2, 40, .inl as_')), (q6, .inl (ct.1, 6, .inr (.inl ax')))] ++ wt) t.heap ∧ va_D A ([(h0, .inr (5, [.ref q1, .ref q2, .ref q3, .ref q4, .ref q5, .int cm', .int stp', .ref q6, .ref q7, .ref q8, .int mus, .int mc_, .int mb_, .ref q9])), (q1, .inl (ct.2.2, 9, .inl am')), (q2, .inl (ct.1, 240, .inr (.inl ac'))), (q3, .inl (ct.1, 240, .inr (.inl al'))), (q4, .inl (ct.2.2, 40, .inl ay')), (q5, .inl (ct.2.2, 40, .inl as_')), (q6, .inl (ct.1, 6, .inr (.inl ax')))] ++ wt)) A) 0 0 A := by
  refine Met.ofW (cc := b_M_cell) (maxL := 11) (ret := (some .int)) (by decide) rfl ?_
  intro p e s m args below meth c s₁ B hml hv
  obtain ⟨rfl, hA, hP, hD, hKK⟩ := hv
  have hx := B.exec
  have hb := B.bytes
  have hr := B.returns
  have htg := ht_tl (atoms_spec (ws := w_M_cell) B.pre)
  have hown : s.vm.findClass R_Model = some m.cls := findClass_of_methodNamed B.named
  have hlocks := B.notSynchronized
  have hK := hKK.1
  have hN := hKK.2.1
  have hO := hKK.2.2
  have hS : va_S A s.heap s.heap [] := va_S.rf
  have hl := lv_entry ([.ref h0, .int i1, .int i2, .int i3, .int i4, .int i5, .int i6]) (n := 11) (Nat.le_of_ble_eq_true rfl)
  rw [lg_entry_eq]
  generalize (lg_sl ([.ref h0, .int i1, .int i2, .int i3, .int i4, .int i5, .int i6]) ++ List.replicate (11 - (lg_sl ([.ref h0, .int i1, .int i2, .int i3, .int i4, .int i5, .int i6])).length) Slot.unset).toArray = ls at hl ⊢
  have hl : lv_has ls 11 [(0, .ref h0), (1, .int i1), (2, .int i2), (3, .int i3), (4, .int i4), (5, .int i5), (6, .int i6)] := hl
  unfold f_M_cell at h
  refine lv_aload_n hx hb d_M_cell_0 rfl (lv_at hl 0 rfl) ?_
  refine va_get (D := D) (ci := 5) (v := .int cm) (C := R_Model) (T := F_Model) (N := 14) hx hb htg i_Model hown hK hP 0 rfl rfl 5 (by decide) (htg _ tm_403) (fun _ h9 => h9) rfl d_M_cell_1 ?_
  refine lv_bipush (v := (40 : Int32)) hx hb d_M_cell_4 (by decide) ?_
  refine lv_icmp_ge (tgt := 94) hx hb d_M_cell_6 (by decide) (fun c_1 => ?_) (fun c_1 => ?_)
  · rw [if_pos c_1] at h
    refine lv_iconst (v := (0 : Int32)) hx hb d_M_cell_94 (by decide) ?_
    exact J_M_cell_95 h0 q1 q2 q3 q4 q5 q6 q7 q8 q9 mus mc_ mb_ i1 i2 i3 i4 i5 i6 r0 hx hb hr hml hown htg hlocks hKK hA (0 : Int32) cm stp am ac al ay as_ ax h _ _ hP hD hS ls (lv_sub hl [0, 1, 2, 3, 4, 5, 6] rfl)
  · rw [if_neg c_1] at h
    refine lv_iload_n hx hb d_M_cell_9 rfl (lv_at hl 1 rfl) ?_
    refine lv_i2l hx hb d_M_cell_10 rfl ?_
    refine lv_lconst (v := (1 : Int64)) hx hb d_M_cell_11 (by decide) ?_
    refine lv_ldc2 (v := (10000 : Int64)) hx hb hown (htg _ tm_446) d_M_cell_12 ?_
    refine vp_callSi (va_Run.run (va_runS (As := [.long (i1.toInt64), .long (1 : Int64), .long (10000 : Int64)]) (rest := []) ⟨hx, hb, hml, hown, htg⟩ (c_M_between l D ct ([(h0, .inr (5, [.ref q1, .ref q2, .ref q3, .ref q4, .ref q5, .int cm, .int stp, .ref q6, .ref q7, .ref q8, .int mus, .int mc_, .int mb_, .ref q9])), (q1, .inl (ct.2.2, 9, .inl am)), (q2, .inl (ct.1, 240, .inr (.inl ac))), (q3, .inl (ct.1, 240, .inr (.inl al))), (q4, .inl (ct.2.2, 40, .inl ay)), (q5, .inl (ct.2.2, 40, .inl as_)), (q6, .inl (ct.1, 6, .inr (.inl ax)))] ++ wt)  (i1.toInt64) (1 : Int64) (10000 : Int64)   _ rfl) (cwS 3 htg (giS tm_447 tm_448 tm_34 g_M_between) rfl rfl rfl (by decide +kernel) ⟨Nat.le_of_ble_eq_true rfl, Nat.le_of_ble_eq_true rfl⟩) (preS hP hKK) rfl rfl hl.1 rfl (lv_room (Nat.le_of_ble_eq_true rfl)) d_M_cell_15 ⟨Nat.le_of_ble_eq_true rfl, Nat.le_of_ble_eq_true rfl⟩)) (fun r9 hr9 => ?_)
    have hr9 := hr9.symm
    subst hr9
    refine lv_if_eq (tgt := 94) hx hb d_M_cell_18 (by decide) (fun c_60 => ?_) (fun c_60 => ?_)
    · rw [if_pos c_60] at h
      refine lv_iconst (v := (0 : Int32)) hx hb d_M_cell_94 (by decide) ?_
      exact J_M_cell_95 h0 q1 q2 q3 q4 q5 q6 q7 q8 q9 mus mc_ mb_ i1 i2 i3 i4 i5 i6 r0 hx hb hr hml hown htg hlocks hKK hA (0 : Int32) cm stp am ac al ay as_ ax h _ _ hP hD hS ls (lv_sub hl [0, 1, 2, 3, 4, 5, 6] rfl)
    · rw [if_neg c_60] at h
      refine lv_iload_n hx hb d_M_cell_21 rfl (lv_at hl 2 rfl) ?_
      refine lv_i2l hx hb d_M_cell_22 rfl ?_
      refine lv_lconst (v := (1 : Int64)) hx hb d_M_cell_23 (by decide) ?_
      refine lv_ldc2 (v := (10000 : Int64)) hx hb hown (htg _ tm_446) d_M_cell_24 ?_
      refine vp_callSi (va_Run.run (va_runS (As := [.long (i2.toInt64), .long (1 : Int64), .long (10000 : Int64)]) (rest := []) ⟨hx, hb, hml, hown, htg⟩ (c_M_between l D ct ([(h0, .inr (5, [.ref q1, .ref q2, .ref q3, .ref q4, .ref q5, .int cm, .int stp, .ref q6, .ref q7, .ref q8, .int mus, .int mc_, .int mb_, .ref q9])), (q1, .inl (ct.2.2, 9, .inl am)), (q2, .inl (ct.1, 240, .inr (.inl ac))), (q3, .inl (ct.1, 240, .inr (.inl al))), (q4, .inl (ct.2.2, 40, .inl ay)), (q5, .inl (ct.2.2, 40, .inl as_)), (q6, .inl (ct.1, 6, .inr (.inl ax)))] ++ wt)  (i2.toInt64) (1 : Int64) (10000 : Int64)   _ rfl) (cwS 3 htg (giS tm_447 tm_448 tm_34 g_M_between) rfl rfl rfl (by decide +kernel) ⟨Nat.le_of_ble_eq_true rfl, Nat.le_of_ble_eq_true rfl⟩) (preS hP hKK) rfl rfl hl.1 rfl (lv_room (Nat.le_of_ble_eq_true rfl)) d_M_cell_27 ⟨Nat.le_of_ble_eq_true rfl, Nat.le_of_ble_eq_true rfl⟩)) (fun r9 hr9 => ?_)
      have hr9 := hr9.symm
      subst hr9
      refine lv_if_eq (tgt := 94) hx hb d_M_cell_30 (by decide) (fun c_61 => ?_) (fun c_61 => ?_)
      · rw [if_pos c_61] at h
        refine lv_iconst (v := (0 : Int32)) hx hb d_M_cell_94 (by decide) ?_
        exact J_M_cell_95 h0 q1 q2 q3 q4 q5 q6 q7 q8 q9 mus mc_ mb_ i1 i2 i3 i4 i5 i6 r0 hx hb hr hml hown htg hlocks hKK hA (0 : Int32) cm stp am ac al ay as_ ax h _ _ hP hD hS ls (lv_sub hl [0, 1, 2, 3, 4, 5, 6] rfl)
      · rw [if_neg c_61] at h
        refine lv_iload_n hx hb d_M_cell_33 rfl (lv_at hl 3 rfl) ?_
        refine lv_i2l hx hb d_M_cell_34 rfl ?_
        refine lv_lconst (v := (1 : Int64)) hx hb d_M_cell_35 (by decide) ?_
        refine lv_ldc2 (v := (10000 : Int64)) hx hb hown (htg _ tm_446) d_M_cell_36 ?_
        refine vp_callSi (va_Run.run (va_runS (As := [.long (i3.toInt64), .long (1 : Int64), .long (10000 : Int64)]) (rest := []) ⟨hx, hb, hml, hown, htg⟩ (c_M_between l D ct ([(h0, .inr (5, [.ref q1, .ref q2, .ref q3, .ref q4, .ref q5, .int cm, .int stp, .ref q6, .ref q7, .ref q8, .int mus, .int mc_, .int mb_, .ref q9])), (q1, .inl (ct.2.2, 9, .inl am)), (q2, .inl (ct.1, 240, .inr (.inl ac))), (q3, .inl (ct.1, 240, .inr (.inl al))), (q4, .inl (ct.2.2, 40, .inl ay)), (q5, .inl (ct.2.2, 40, .inl as_)), (q6, .inl (ct.1, 6, .inr (.inl ax)))] ++ wt)  (i3.toInt64) (1 : Int64) (10000 : Int64)   _ rfl) (cwS 3 htg (giS tm_447 tm_448 tm_34 g_M_between) rfl rfl rfl (by decide +kernel) ⟨Nat.le_of_ble_eq_true rfl, Nat.le_of_ble_eq_true rfl⟩) (preS hP hKK) rfl rfl hl.1 rfl (lv_room (Nat.le_of_ble_eq_true rfl)) d_M_cell_39 ⟨Nat.le_of_ble_eq_true rfl, Nat.le_of_ble_eq_true rfl⟩)) (fun r9 hr9 => ?_)
        have hr9 := hr9.symm
        subst hr9
        refine lv_if_eq (tgt := 94) hx hb d_M_cell_42 (by decide) (fun c_62 => ?_) (fun c_62 => ?_)
        · rw [if_pos c_62] at h
          refine lv_iconst (v := (0 : Int32)) hx hb d_M_cell_94 (by decide) ?_
          exact J_M_cell_95 h0 q1 q2 q3 q4 q5 q6 q7 q8 q9 mus mc_ mb_ i1 i2 i3 i4 i5 i6 r0 hx hb hr hml hown htg hlocks hKK hA (0 : Int32) cm stp am ac al ay as_ ax h _ _ hP hD hS ls (lv_sub hl [0, 1, 2, 3, 4, 5, 6] rfl)
        · rw [if_neg c_62] at h
          refine lv_iload hx hb d_M_cell_45 (lv_at hl 4 rfl) ?_
          refine lv_i2l hx hb d_M_cell_47 rfl ?_
          refine lv_ldc2 (v := (-10000 : Int64)) hx hb hown (htg _ tm_450) d_M_cell_48 ?_
          refine lv_ldc2 (v := (10000 : Int64)) hx hb hown (htg _ tm_446) d_M_cell_51 ?_
          refine vp_callSi (va_Run.run (va_runS (As := [.long (i4.toInt64), .long (-10000 : Int64), .long (10000 : Int64)]) (rest := []) ⟨hx, hb, hml, hown, htg⟩ (c_M_between l D ct ([(h0, .inr (5, [.ref q1, .ref q2, .ref q3, .ref q4, .ref q5, .int cm, .int stp, .ref q6, .ref q7, .ref q8, .int mus, .int mc_, .int mb_, .ref q9])), (q1, .inl (ct.2.2, 9, .inl am)), (q2, .inl (ct.1, 240, .inr (.inl ac))), (q3, .inl (ct.1, 240, .inr (.inl al))), (q4, .inl (ct.2.2, 40, .inl ay)), (q5, .inl (ct.2.2, 40, .inl as_)), (q6, .inl (ct.1, 6, .inr (.inl ax)))] ++ wt)  (i4.toInt64) (-10000 : Int64) (10000 : Int64)   _ rfl) (cwS 3 htg (giS tm_447 tm_448 tm_34 g_M_between) rfl rfl rfl (by decide +kernel) ⟨Nat.le_of_ble_eq_true rfl, Nat.le_of_ble_eq_true rfl⟩) (preS hP hKK) rfl rfl hl.1 rfl (lv_room (Nat.le_of_ble_eq_true rfl)) d_M_cell_54 ⟨Nat.le_of_ble_eq_true rfl, Nat.le_of_ble_eq_true rfl⟩)) (fun r9 hr9 => ?_)
          have hr9 := hr9.symm
          subst hr9
          refine lv_if_eq (tgt := 94) hx hb d_M_cell_57 (by decide) (fun c_63 => ?_) (fun c_63 => ?_)
          · rw [if_pos c_63] at h
            refine lv_iconst (v := (0 : Int32)) hx hb d_M_cell_94 (by decide) ?_
            exact J_M_cell_95 h0 q1 q2 q3 q4 q5 q6 q7 q8 q9 mus mc_ mb_ i1 i2 i3 i4 i5 i6 r0 hx hb hr hml hown htg hlocks hKK hA (0 : Int32) cm stp am ac al ay as_ ax h _ _ hP hD hS ls (lv_sub hl [0, 1, 2, 3, 4, 5, 6] rfl)
          · rw [if_neg c_63] at h
            refine lv_iload hx hb d_M_cell_60 (lv_at hl 5 rfl) ?_
            refine lv_i2l hx hb d_M_cell_62 rfl ?_
            refine lv_ldc2 (v := (-10000 : Int64)) hx hb hown (htg _ tm_450) d_M_cell_63 ?_
            refine lv_ldc2 (v := (10000 : Int64)) hx hb hown (htg _ tm_446) d_M_cell_66 ?_
            refine vp_callSi (va_Run.run (va_runS (As := [.long (i5.toInt64), .long (-10000 : Int64), .long (10000 : Int64)]) (rest := []) ⟨hx, hb, hml, hown, htg⟩ (c_M_between l D ct ([(h0, .inr (5, [.ref q1, .ref q2, .ref q3, .ref q4, .ref q5, .int cm, .int stp, .ref q6, .ref q7, .ref q8, .int mus, .int mc_, .int mb_, .ref q9])), (q1, .inl (ct.2.2, 9, .inl am)), (q2, .inl (ct.1, 240, .inr (.inl ac))), (q3, .inl (ct.1, 240, .inr (.inl al))), (q4, .inl (ct.2.2, 40, .inl ay)), (q5, .inl (ct.2.2, 40, .inl as_)), (q6, .inl (ct.1, 6, .inr (.inl ax)))] ++ wt)  (i5.toInt64) (-10000 : Int64) (10000 : Int64)   _ rfl) (cwS 3 htg (giS tm_447 tm_448 tm_34 g_M_between) rfl rfl rfl (by decide +kernel) ⟨Nat.le_of_ble_eq_true rfl, Nat.le_of_ble_eq_true rfl⟩) (preS hP hKK) rfl rfl hl.1 rfl (lv_room (Nat.le_of_ble_eq_true rfl)) d_M_cell_69 ⟨Nat.le_of_ble_eq_true rfl, Nat.le_of_ble_eq_true rfl⟩)) (fun r9 hr9 => ?_)
            have hr9 := hr9.symm
            subst hr9
            refine lv_if_eq (tgt := 94) hx hb d_M_cell_72 (by decide) (fun c_64 => ?_) (fun c_64 => ?_)
            · rw [if_pos c_64] at h
              refine lv_iconst (v := (0 : Int32)) hx hb d_M_cell_94 (by decide) ?_
              exact J_M_cell_95 h0 q1 q2 q3 q4 q5 q6 q7 q8 q9 mus mc_ mb_ i1 i2 i3 i4 i5 i6 r0 hx hb hr hml hown htg hlocks hKK hA (0 : Int32) cm stp am ac al ay as_ ax h _ _ hP hD hS ls (lv_sub hl [0, 1, 2, 3, 4, 5, 6] rfl)
            · rw [if_neg c_64] at h
              refine lv_iload hx hb d_M_cell_75 (lv_at hl 6 rfl) ?_
              refine lv_i2l hx hb d_M_cell_77 rfl ?_
              refine lv_ldc2 (v := (-10000 : Int64)) hx hb hown (htg _ tm_450) d_M_cell_78 ?_
              refine lv_ldc2 (v := (10000 : Int64)) hx hb hown (htg _ tm_446) d_M_cell_81 ?_
              refine vp_callSi (va_Run.run (va_runS (As := [.long (i6.toInt64), .long (-10000 : Int64), .long (10000 : Int64)]) (rest := []) ⟨hx, hb, hml, hown, htg⟩ (c_M_between l D ct ([(h0, .inr (5, [.ref q1, .ref q2, .ref q3, .ref q4, .ref q5, .int cm, .int stp, .ref q6, .ref q7, .ref q8, .int mus, .int mc_, .int mb_, .ref q9])), (q1, .inl (ct.2.2, 9, .inl am)), (q2, .inl (ct.1, 240, .inr (.inl ac))), (q3, .inl (ct.1, 240, .inr (.inl al))), (q4, .inl (ct.2.2, 40, .inl ay)), (q5, .inl (ct.2.2, 40, .inl as_)), (q6, .inl (ct.1, 6, .inr (.inl ax)))] ++ wt)  (i6.toInt64) (-10000 : Int64) (10000 : Int64)   _ rfl) (cwS 3 htg (giS tm_447 tm_448 tm_34 g_M_between) rfl rfl rfl (by decide +kernel) ⟨Nat.le_of_ble_eq_true rfl, Nat.le_of_ble_eq_true rfl⟩) (preS hP hKK) rfl rfl hl.1 rfl (lv_room (Nat.le_of_ble_eq_true rfl)) d_M_cell_84 ⟨Nat.le_of_ble_eq_true rfl, Nat.le_of_ble_eq_true rfl⟩)) (fun r9 hr9 => ?_)
              have hr9 := hr9.symm
              subst hr9
              refine lv_if_eq (tgt := 94) hx hb d_M_cell_87 (by decide) (fun c_65 => ?_) (fun c_65 => ?_)
              · rw [if_pos c_65] at h
                refine lv_iconst (v := (0 : Int32)) hx hb d_M_cell_94 (by decide) ?_
                exact J_M_cell_95 h0 q1 q2 q3 q4 q5 q6 q7 q8 q9 mus mc_ mb_ i1 i2 i3 i4 i5 i6 r0 hx hb hr hml hown htg hlocks hKK hA (0 : Int32) cm stp am ac al ay as_ ax h _ _ hP hD hS ls (lv_sub hl [0, 1, 2, 3, 4, 5, 6] rfl)
              · rw [if_neg c_65] at h
                refine lv_iconst (v := (1 : Int32)) hx hb d_M_cell_90 (by decide) ?_
                refine lv_goto (tgt := 95) hx hb d_M_cell_91 (by decide) ?_
                exact J_M_cell_95 h0 q1 q2 q3 q4 q5 q6 q7 q8 q9 mus mc_ mb_ i1 i2 i3 i4 i5 i6 r0 hx hb hr hml hown htg hlocks hKK hA (1 : Int32) cm stp am ac al ay as_ ax h _ _ hP hD hS ls (lv_sub hl [0, 1, 2, 3, 4, 5, 6] rfl)
