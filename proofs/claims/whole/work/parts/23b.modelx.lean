-- CellBenchModel oneMultiple (IIIIIII)V
def lp_M_one_170 (ac : Nat → Int64) (a0 : Int32) (ep : Int32) (eq : Int32) (er : Int32) (es : Int32) (et : Int32) (eu : Int32) : Nat → Int32 → Int32 → Int32 → (Nat → Int64) → (Nat → Int64) → (Nat → Int32) → Option (Int32 × Int32 × Int32 × (Nat → Int64) × (Nat → Int64) × (Nat → Int32))
  | 0, _, _, _, _, _, _ => none
  | n + 1, ii, stp, mus, ax, au, ao =>
    if ii ≤ 0 then (some (ii, stp, mus, ax, au, ao)) else (Option.bind (f_M_comp ax au (ii - (1 : Int32))) (fun z_20 => (if 0 ≤ z_20 then (some (ii, stp, mus, ax, au, ao)) else (lp_M_one_170 ac a0 ep eq er es et eu n (ii + (-1 : Int32)) stp mus ax au ao))))
def lp_M_one_233 (ac : Nat → Int64) (a0 : Int32) (ep : Int32) (eq : Int32) (er : Int32) (es : Int32) (et : Int32) (eu : Int32) : Nat → Int32 → Int32 → Int32 → Int32 → (Nat → Int64) → (Nat → Int64) → (Nat → Int32) → Option (Int32 × Int32 × Int32 × Int32 × (Nat → Int64) × (Nat → Int64) × (Nat → Int32))
  | 0, _, _, _, _, _, _, _ => none
  | n + 1, ii, kk, stp, mus, ax, au, ao =>
    if kk < ((6 : Int32) * ii) then (some (ii, kk, stp, mus, ax, au, ao)) else (if inb kk 3000 = true then (if inb (kk + (6 : Int32)) 3000 = true then (lp_M_one_233 ac a0 ep eq er es et eu n ii (kk + (-1 : Int32)) stp mus ax (vp_updL au (kk + (6 : Int32)).toNatClampNeg (au kk.toNatClampNeg)) ao) else none) else none)
def lp_M_one_272 (ac : Nat → Int64) (a0 : Int32) (ep : Int32) (eq : Int32) (er : Int32) (es : Int32) (et : Int32) (eu : Int32) : Nat → Int32 → Int32 → Int32 → Int32 → (Nat → Int64) → (Nat → Int64) → (Nat → Int32) → Option (Int32 × Int32 × Int32 × Int32 × (Nat → Int64) × (Nat → Int64) × (Nat → Int32))
  | 0, _, _, _, _, _, _, _ => none
  | n + 1, ii, kk, stp, mus, ax, au, ao =>
    if kk ≤ ii then (some (ii, kk, stp, mus, ax, au, ao)) else (if inb (kk - (1 : Int32)) 500 = true then (if inb kk 500 = true then (lp_M_one_272 ac a0 ep eq er es et eu n ii (kk + (-1 : Int32)) stp mus ax au (upd ao kk.toNatClampNeg (ao (kk - (1 : Int32)).toNatClampNeg))) else none) else none)
def lp_M_one_312 (ac : Nat → Int64) (a0 : Int32) (ep : Int32) (eq : Int32) (er : Int32) (es : Int32) (et : Int32) (eu : Int32) : Nat → Int32 → Int32 → Int32 → Int32 → (Nat → Int64) → (Nat → Int64) → (Nat → Int32) → Option (Int32 × Int32 × (Nat → Int64) × (Nat → Int64) × (Nat → Int32))
  | 0, _, _, _, _, _, _, _ => none
  | n + 1, ii, kk, stp, mus, ax, au, ao =>
    if (6 : Int32) ≤ kk then (some (stp, mus + (1 : Int32), ax, au, ao)) else (if inb kk 6 = true then (if inb (((6 : Int32) * ii) + kk) 3000 = true then (lp_M_one_312 ac a0 ep eq er es et eu n ii (kk + (1 : Int32)) stp mus ax (vp_updL au (((6 : Int32) * ii) + kk).toNatClampNeg (ax kk.toNatClampNeg)) ao) else none) else none)
def f_M_one (ac : Nat → Int64) (stp : Int32) (mus : Int32) (ax : Nat → Int64) (au : Nat → Int64) (ao : Nat → Int32) (a0 : Int32) (ep : Int32) (eq : Int32) (er : Int32) (es : Int32) (et : Int32) (eu : Int32) : Option (Int32 × Int32 × (Nat → Int64) × (Nat → Int64) × (Nat → Int32)) :=
    Option.bind (f_M_dot ac a0 (ep.toInt64) (0 : Int64) (0 : Int64) (ep.toInt64) (0 : Int64) (0 : Int64)) (fun z_98 => (Option.bind (f_M_dot ac a0 (eq.toInt64) (er.toInt64) (0 : Int64) (eq.toInt64) (er.toInt64) (0 : Int64)) (fun z_97 => (Option.bind (f_M_dot ac a0 (es.toInt64) (et.toInt64) (eu.toInt64) (es.toInt64) (et.toInt64) (eu.toInt64)) (fun z_96 => (Option.bind (f_M_dot ac a0 (eq.toInt64) (er.toInt64) (0 : Int64) (es.toInt64) (et.toInt64) (eu.toInt64)) (fun z_95 => (Option.bind (f_M_dot ac a0 (ep.toInt64) (0 : Int64) (0 : Int64) (es.toInt64) (et.toInt64) (eu.toInt64)) (fun z_94 => (Option.bind (f_M_dot ac a0 (ep.toInt64) (0 : Int64) (0 : Int64) (eq.toInt64) (er.toInt64) (0 : Int64)) (fun z_93 => (Option.bind (f_M_reduce (vp_updL (vp_updL (vp_updL (vp_updL (vp_updL (vp_updL ax (0 : Int32).toNatClampNeg z_98) (1 : Int32).toNatClampNeg z_97) (2 : Int32).toNatClampNeg z_96) (3 : Int32).toNatClampNeg z_95) (4 : Int32).toNatClampNeg z_94) (5 : Int32).toNatClampNeg z_93) stp) (fun z_92 => (Option.bind (lp_M_one_170 ac a0 ep eq er es et eu 501 mus z_92.2 mus z_92.1 au ao) (fun z_91 => (if z_91.1 ≤ 0 then (Option.bind (lp_M_one_233 ac a0 ep eq er es et eu 3001 z_91.1 (((6 : Int32) * z_91.2.2.1) - (1 : Int32)) z_91.2.1 z_91.2.2.1 z_91.2.2.2.1 z_91.2.2.2.2.1 z_91.2.2.2.2.2) (fun z_56 => (Option.bind (lp_M_one_272 ac a0 ep eq er es et eu 501 z_56.1 z_56.2.2.2.1 z_56.2.2.1 z_56.2.2.2.1 z_56.2.2.2.2.1 z_56.2.2.2.2.2.1 z_56.2.2.2.2.2.2) (fun z_55 => (if inb z_55.1 500 = true then (lp_M_one_312 ac a0 ep eq er es et eu 8 z_55.1 (0 : Int32) z_55.2.2.1 z_55.2.2.2.1 z_55.2.2.2.2.1 z_55.2.2.2.2.2.1 (upd z_55.2.2.2.2.2.2 z_55.1.toNatClampNeg (1 : Int32))) else none))))) else (Option.bind (f_M_comp z_91.2.2.2.1 z_91.2.2.2.2.1 (z_91.1 - (1 : Int32))) (fun z_90 => (if z_90 = 0 then (if inb (z_91.1 - (1 : Int32)) 500 = true then (if inb (z_91.1 - (1 : Int32)) 500 = true then (some (z_91.2.1, z_91.2.2.1, z_91.2.2.2.1, z_91.2.2.2.2.1, upd z_91.2.2.2.2.2 (z_91.1 - (1 : Int32)).toNatClampNeg ((z_91.2.2.2.2.2 (z_91.1 - (1 : Int32)).toNatClampNeg) + (1 : Int32)))) else none) else none) else (Option.bind (lp_M_one_233 ac a0 ep eq er es et eu 3001 z_91.1 (((6 : Int32) * z_91.2.2.1) - (1 : Int32)) z_91.2.1 z_91.2.2.1 z_91.2.2.2.1 z_91.2.2.2.2.1 z_91.2.2.2.2.2) (fun z_87 => (Option.bind (lp_M_one_272 ac a0 ep eq er es et eu 501 z_87.1 z_87.2.2.2.1 z_87.2.2.1 z_87.2.2.2.1 z_87.2.2.2.2.1 z_87.2.2.2.2.2.1 z_87.2.2.2.2.2.2) (fun z_86 => (if inb z_86.1 500 = true then (lp_M_one_312 ac a0 ep eq er es et eu 8 z_86.1 (0 : Int32) z_86.2.2.1 z_86.2.2.2.1 z_86.2.2.2.2.1 z_86.2.2.2.2.2.1 (upd z_86.2.2.2.2.2.2 z_86.1.toNatClampNeg (1 : Int32))) else none))))))))))))))))))))))))
def w_M_one : List Cond := .code y_M_one b_M_one 10 none :: GW
abbrev rm_M_one : Room := { frames := 3, cells := 0, slots := 0, locals := 82 }
theorem g_M_one : GoodIn GW w_M_one := gi tm_517
set_option maxHeartbeats 4000000 in
set_option maxRecDepth 100000 in
theorem c_M_one (l : Launch) (D : va_G) (ct : CT) (A : Nat → Prop) (wt : va_W)  (h0 : Nat) (q1 : Nat) (q2 : Nat) (q3 : Nat) (q4 : Nat) (q5 : Nat) (q6 : Nat) (q7 : Nat) (q8 : Nat) (q9 : Nat) (cm : Int32) (stp : Int32) (mus : Int32) (mc_ : Int32) (mb_ : Int32) (ac : Nat → Int64) (ax : Nat → Int64) (au : Nat → Int64) (ao : Nat → Int32) (a0 : Int32) (ep : Int32) (eq : Int32) (er : Int32) (es : Int32) (et : Int32) (eu : Int32)   (r0 : Int32 × Int32 × (Nat → Int64) × (Nat → Int64) × (Nat → Int32)) (h : f_M_one ac stp mus ax au ao a0 ep eq er es et eu = some r0) : Met l y_M_one w_M_one rm_M_one (va_Pc [.ref h0, .int a0, .int ep, .int eq, .int er, .int es, .int et, .int eu] (PreM D ct A ([(h0, .inr (5, [.ref q1, .ref q2, .ref q3, .ref q4, .ref q5, .int cm, .int stp, .ref q6, .ref q7, .ref q8, .int mus, .int mc_, .int mb_, .ref q9])), (q2, .inl (ct.1, 240, .inr (.inl ac))), (q6, .inl (ct.1, 6, .inr (.inl ax))), (q7, .inl (ct.1, 3000, .inr (.inl au))), (q8, .inl (ct.2.2, 500, .inl ao))] ++ wt))) (va_Qv (fun u => u = r0) (fun (u : Int32 × Int32 × (Nat → Int64) × (Nat → Int64) × (Nat → Int32)) t => match u with | (stp', mus', ax', au', ao') => va_P D classes ([(h0, .inr (5, [.ref q1, .ref q2, .ref q3, .ref q4, .ref q5, .int cm, .int stp', .ref q6, .ref q7, .ref q8, .int mus', .int mc_, .int mb_, .ref q9])), (q2, .inl (ct.1, 240, .inr (.inl ac))), (q6, .inl (ct.1, 6, .inr (.inl ax'))), (q7, .inl (ct.1, 3000, .inr (.inl au'))), (q8, .inl (ct.2.2, 500, .inl ao'))] ++ wt) t.heap ∧ va_D A ([(h0, .inr (5, [.ref q1, .ref q2, .ref q3, .ref q4, .ref q5, .int cm, .int stp', .ref q6, .ref q7, .ref q8, .int mus', .int mc_, .int mb_, .ref q9])), (q2, .inl (ct.1, 240, .inr (.inl ac))), (q6, .inl (ct.1, 6, .inr (.inl ax'))), (q7, .inl (ct.1, 3000, .inr (.inl au'))), (q8, .inl (ct.2.2, 500, .inl ao'))] ++ wt)) A) 0 0 A := by
  refine Met.ofW (cc := b_M_one) (maxL := 10) (ret := none) (by decide) rfl ?_
  intro p e s m args below meth c s₁ B hml hv
  obtain ⟨rfl, hA, hP, hD, hKK⟩ := hv
  have hx := B.exec
  have hb := B.bytes
  have hr := B.returns
  have htg := ht_tl (atoms_spec (ws := w_M_one) B.pre)
  have hown : s.vm.findClass R_Model = some m.cls := findClass_of_methodNamed B.named
  have hlocks := B.notSynchronized
  have hK := hKK.1
  have hN := hKK.2.1
  have hO := hKK.2.2
  have hS : va_S A s.heap s.heap [] := va_S.rf
  have hl := lv_entry ([.ref h0, .int a0, .int ep, .int eq, .int er, .int es, .int et, .int eu]) (n := 10) (Nat.le_of_ble_eq_true rfl)
  rw [lg_entry_eq]
  generalize (lg_sl ([.ref h0, .int a0, .int ep, .int eq, .int er, .int es, .int et, .int eu]) ++ List.replicate (10 - (lg_sl ([.ref h0, .int a0, .int ep, .int eq, .int er, .int es, .int et, .int eu])).length) Slot.unset).toArray = ls at hl ⊢
  have hl : lv_has ls 10 [(0, .ref h0), (1, .int a0), (2, .int ep), (3, .int eq), (4, .int er), (5, .int es), (6, .int et), (7, .int eu)] := hl
  unfold f_M_one at h
  refine lv_aload_n hx hb d_M_one_0 rfl (lv_at hl 0 rfl) ?_
  refine va_get (D := D) (ci := 5) (v := .ref q6) (C := R_Model) (T := F_Model) (N := 14) hx hb htg i_Model hown hK hP 0 rfl rfl 7 (by decide) (htg _ tm_405) (fun _ h9 => h9) rfl d_M_one_1 ?_
  refine lv_iconst (v := (0 : Int32)) hx hb d_M_one_4 (by decide) ?_
  refine lv_aload_n hx hb d_M_one_5 rfl (lv_at hl 0 rfl) ?_
  refine va_get (D := D) (ci := 5) (v := .ref q2) (C := R_Model) (T := F_Model) (N := 14) hx hb htg i_Model hown hK hP 0 rfl rfl 1 (by decide) (htg _ tm_399) (fun _ h9 => h9) rfl d_M_one_6 ?_
  refine lv_iload_n hx hb d_M_one_9 rfl (lv_at hl 1 rfl) ?_
  refine lv_iload_n hx hb d_M_one_10 rfl (lv_at hl 2 rfl) ?_
  refine lv_i2l hx hb d_M_one_11 rfl ?_
  refine lv_lconst (v := (0 : Int64)) hx hb d_M_one_12 (by decide) ?_
  refine lv_lconst (v := (0 : Int64)) hx hb d_M_one_13 (by decide) ?_
  refine lv_iload_n hx hb d_M_one_14 rfl (lv_at hl 2 rfl) ?_
  refine lv_i2l hx hb d_M_one_15 rfl ?_
  refine lv_lconst (v := (0 : Int64)) hx hb d_M_one_16 (by decide) ?_
  refine lv_lconst (v := (0 : Int64)) hx hb d_M_one_17 (by decide) ?_
  rcases e_1 : f_M_dot ac a0 (ep.toInt64) (0 : Int64) (0 : Int64) (ep.toInt64) (0 : Int64) (0 : Int64) with _ | v_2
  · rw [e_1] at h; cases h
  rw [e_1, Option.bind_some] at h
  try dsimp only at h
  refine vp_callSl (va_Run.run (va_runS (As := [.ref q2, .int a0, .long (ep.toInt64), .long (0 : Int64), .long (0 : Int64), .long (ep.toInt64), .long (0 : Int64), .long (0 : Int64)]) (rest := [.int (0 : Int32), .ref q6]) ⟨hx, hb, hml, hown, htg⟩ (c_M_dot l D ct ([(h0, .inr (5, [.ref q1, .ref q2, .ref q3, .ref q4, .ref q5, .int cm, .int stp, .ref q6, .ref q7, .ref q8, .int mus, .int mc_, .int mb_, .ref q9])), (q2, .inl (ct.1, 240, .inr (.inl ac))), (q6, .inl (ct.1, 6, .inr (.inl ax))), (q7, .inl (ct.1, 3000, .inr (.inl au))), (q8, .inl (ct.2.2, 500, .inl ao))] ++ wt) 1 q2 ac a0 (ep.toInt64) (0 : Int64) (0 : Int64) (ep.toInt64) (0 : Int64) (0 : Int64) rfl  _ e_1) (cwS 8 htg (giS tm_479 tm_480 tm_34 g_M_dot) rfl rfl rfl (by decide +kernel) ⟨Nat.le_of_ble_eq_true rfl, Nat.le_of_ble_eq_true rfl⟩) (preS hP hKK) rfl rfl hl.1 rfl (lv_room (Nat.le_of_ble_eq_true rfl)) d_M_one_18 ⟨Nat.le_of_ble_eq_true rfl, Nat.le_of_ble_eq_true rfl⟩)) (fun r9 hr9 => ?_)
  have hr9 := hr9.symm
  subst hr9
  refine va_last hx hb hK hP hD hS 2 0 rfl rfl (i := (0 : Int32)) (inb_in ix_0_6) d_M_one_21 (fun H locs hP hD hS => ?_)
  have hP : va_P D classes ([(h0, .inr (5, [.ref q1, .ref q2, .ref q3, .ref q4, .ref q5, .int cm, .int stp, .ref q6, .ref q7, .ref q8, .int mus, .int mc_, .int mb_, .ref q9])), (q2, .inl (ct.1, 240, .inr (.inl ac))), (q6, .inl (ct.1, 6, .inr (.inl (vp_updL ax (0 : Int32).toNatClampNeg v_2)))), (q7, .inl (ct.1, 3000, .inr (.inl au))), (q8, .inl (ct.2.2, 500, .inl ao))] ++ wt) H := hP
  have hD : va_D A ([(h0, .inr (5, [.ref q1, .ref q2, .ref q3, .ref q4, .ref q5, .int cm, .int stp, .ref q6, .ref q7, .ref q8, .int mus, .int mc_, .int mb_, .ref q9])), (q2, .inl (ct.1, 240, .inr (.inl ac))), (q6, .inl (ct.1, 6, .inr (.inl (vp_updL ax (0 : Int32).toNatClampNeg v_2)))), (q7, .inl (ct.1, 3000, .inr (.inl au))), (q8, .inl (ct.2.2, 500, .inl ao))] ++ wt) := hD
  refine lv_aload_n hx hb d_M_one_22 rfl (lv_at hl 0 rfl) ?_
  refine va_get (D := D) (ci := 5) (v := .ref q6) (C := R_Model) (T := F_Model) (N := 14) hx hb htg i_Model hown hK hP 0 rfl rfl 7 (by decide) (htg _ tm_405) (fun _ h9 => h9) rfl d_M_one_23 ?_
  refine lv_iconst (v := (1 : Int32)) hx hb d_M_one_26 (by decide) ?_
  refine lv_aload_n hx hb d_M_one_27 rfl (lv_at hl 0 rfl) ?_
  refine va_get (D := D) (ci := 5) (v := .ref q2) (C := R_Model) (T := F_Model) (N := 14) hx hb htg i_Model hown hK hP 0 rfl rfl 1 (by decide) (htg _ tm_399) (fun _ h9 => h9) rfl d_M_one_28 ?_
  refine lv_iload_n hx hb d_M_one_31 rfl (lv_at hl 1 rfl) ?_
  refine lv_iload_n hx hb d_M_one_32 rfl (lv_at hl 3 rfl) ?_
  refine lv_i2l hx hb d_M_one_33 rfl ?_
  refine lv_iload hx hb d_M_one_34 (lv_at hl 4 rfl) ?_
  refine lv_i2l hx hb d_M_one_36 rfl ?_
  refine lv_lconst (v := (0 : Int64)) hx hb d_M_one_37 (by decide) ?_
  refine lv_iload_n hx hb d_M_one_38 rfl (lv_at hl 3 rfl) ?_
  refine lv_i2l hx hb d_M_one_39 rfl ?_
  refine lv_iload hx hb d_M_one_40 (lv_at hl 4 rfl) ?_
  refine lv_i2l hx hb d_M_one_42 rfl ?_
  refine lv_lconst (v := (0 : Int64)) hx hb d_M_one_43 (by decide) ?_
  rcases e_3 : f_M_dot ac a0 (eq.toInt64) (er.toInt64) (0 : Int64) (eq.toInt64) (er.toInt64) (0 : Int64) with _ | v_4
  · rw [e_3] at h; cases h
  rw [e_3, Option.bind_some] at h
  try dsimp only at h
  refine vp_callSl (va_Run.run (va_runS (As := [.ref q2, .int a0, .long (eq.toInt64), .long (er.toInt64), .long (0 : Int64), .long (eq.toInt64), .long (er.toInt64), .long (0 : Int64)]) (rest := [.int (1 : Int32), .ref q6]) ⟨hx, hb, hml, hown, htg⟩ (c_M_dot l D ct ([(h0, .inr (5, [.ref q1, .ref q2, .ref q3, .ref q4, .ref q5, .int cm, .int stp, .ref q6, .ref q7, .ref q8, .int mus, .int mc_, .int mb_, .ref q9])), (q2, .inl (ct.1, 240, .inr (.inl ac))), (q6, .inl (ct.1, 6, .inr (.inl (vp_updL ax (0 : Int32).toNatClampNeg v_2)))), (q7, .inl (ct.1, 3000, .inr (.inl au))), (q8, .inl (ct.2.2, 500, .inl ao))] ++ wt) 1 q2 ac a0 (eq.toInt64) (er.toInt64) (0 : Int64) (eq.toInt64) (er.toInt64) (0 : Int64) rfl  _ e_3) (cwS 8 htg (giS tm_479 tm_480 tm_34 g_M_dot) rfl rfl rfl (by decide +kernel) ⟨Nat.le_of_ble_eq_true rfl, Nat.le_of_ble_eq_true rfl⟩) (preS hP hKK) rfl rfl hl.1 rfl (lv_room (Nat.le_of_ble_eq_true rfl)) d_M_one_44 ⟨Nat.le_of_ble_eq_true rfl, Nat.le_of_ble_eq_true rfl⟩)) (fun r9 hr9 => ?_)
  have hr9 := hr9.symm
  subst hr9
  refine va_last hx hb hK hP hD hS 2 0 rfl rfl (i := (1 : Int32)) (inb_in ix_1_6) d_M_one_47 (fun H locs hP hD hS => ?_)
  have hP : va_P D classes ([(h0, .inr (5, [.ref q1, .ref q2, .ref q3, .ref q4, .ref q5, .int cm, .int stp, .ref q6, .ref q7, .ref q8, .int mus, .int mc_, .int mb_, .ref q9])), (q2, .inl (ct.1, 240, .inr (.inl ac))), (q6, .inl (ct.1, 6, .inr (.inl (vp_updL (vp_updL ax (0 : Int32).toNatClampNeg v_2) (1 : Int32).toNatClampNeg v_4)))), (q7, .inl (ct.1, 3000, .inr (.inl au))), (q8, .inl (ct.2.2, 500, .inl ao))] ++ wt) H := hP
  have hD : va_D A ([(h0, .inr (5, [.ref q1, .ref q2, .ref q3, .ref q4, .ref q5, .int cm, .int stp, .ref q6, .ref q7, .ref q8, .int mus, .int mc_, .int mb_, .ref q9])), (q2, .inl (ct.1, 240, .inr (.inl ac))), (q6, .inl (ct.1, 6, .inr (.inl (vp_updL (vp_updL ax (0 : Int32).toNatClampNeg v_2) (1 : Int32).toNatClampNeg v_4)))), (q7, .inl (ct.1, 3000, .inr (.inl au))), (q8, .inl (ct.2.2, 500, .inl ao))] ++ wt) := hD
  refine lv_aload_n hx hb d_M_one_48 rfl (lv_at hl 0 rfl) ?_
  refine va_get (D := D) (ci := 5) (v := .ref q6) (C := R_Model) (T := F_Model) (N := 14) hx hb htg i_Model hown hK hP 0 rfl rfl 7 (by decide) (htg _ tm_405) (fun _ h9 => h9) rfl d_M_one_49 ?_
  refine lv_iconst (v := (2 : Int32)) hx hb d_M_one_52 (by decide) ?_
  refine lv_aload_n hx hb d_M_one_53 rfl (lv_at hl 0 rfl) ?_
  refine va_get (D := D) (ci := 5) (v := .ref q2) (C := R_Model) (T := F_Model) (N := 14) hx hb htg i_Model hown hK hP 0 rfl rfl 1 (by decide) (htg _ tm_399) (fun _ h9 => h9) rfl d_M_one_54 ?_
  refine lv_iload_n hx hb d_M_one_57 rfl (lv_at hl 1 rfl) ?_
  refine lv_iload hx hb d_M_one_58 (lv_at hl 5 rfl) ?_
  refine lv_i2l hx hb d_M_one_60 rfl ?_
  refine lv_iload hx hb d_M_one_61 (lv_at hl 6 rfl) ?_
  refine lv_i2l hx hb d_M_one_63 rfl ?_
  refine lv_iload hx hb d_M_one_64 (lv_at hl 7 rfl) ?_
  refine lv_i2l hx hb d_M_one_66 rfl ?_
  refine lv_iload hx hb d_M_one_67 (lv_at hl 5 rfl) ?_
  refine lv_i2l hx hb d_M_one_69 rfl ?_
  refine lv_iload hx hb d_M_one_70 (lv_at hl 6 rfl) ?_
  refine lv_i2l hx hb d_M_one_72 rfl ?_
  refine lv_iload hx hb d_M_one_73 (lv_at hl 7 rfl) ?_
  refine lv_i2l hx hb d_M_one_75 rfl ?_
  rcases e_5 : f_M_dot ac a0 (es.toInt64) (et.toInt64) (eu.toInt64) (es.toInt64) (et.toInt64) (eu.toInt64) with _ | v_6
  · rw [e_5] at h; cases h
  rw [e_5, Option.bind_some] at h
  try dsimp only at h
  refine vp_callSl (va_Run.run (va_runS (As := [.ref q2, .int a0, .long (es.toInt64), .long (et.toInt64), .long (eu.toInt64), .long (es.toInt64), .long (et.toInt64), .long (eu.toInt64)]) (rest := [.int (2 : Int32), .ref q6]) ⟨hx, hb, hml, hown, htg⟩ (c_M_dot l D ct ([(h0, .inr (5, [.ref q1, .ref q2, .ref q3, .ref q4, .ref q5, .int cm, .int stp, .ref q6, .ref q7, .ref q8, .int mus, .int mc_, .int mb_, .ref q9])), (q2, .inl (ct.1, 240, .inr (.inl ac))), (q6, .inl (ct.1, 6, .inr (.inl (vp_updL (vp_updL ax (0 : Int32).toNatClampNeg v_2) (1 : Int32).toNatClampNeg v_4)))), (q7, .inl (ct.1, 3000, .inr (.inl au))), (q8, .inl (ct.2.2, 500, .inl ao))] ++ wt) 1 q2 ac a0 (es.toInt64) (et.toInt64) (eu.toInt64) (es.toInt64) (et.toInt64) (eu.toInt64) rfl  _ e_5) (cwS 8 htg (giS tm_479 tm_480 tm_34 g_M_dot) rfl rfl rfl (by decide +kernel) ⟨Nat.le_of_ble_eq_true rfl, Nat.le_of_ble_eq_true rfl⟩) (preS hP hKK) rfl rfl hl.1 rfl (lv_room (Nat.le_of_ble_eq_true rfl)) d_M_one_76 ⟨Nat.le_of_ble_eq_true rfl, Nat.le_of_ble_eq_true rfl⟩)) (fun r9 hr9 => ?_)
  have hr9 := hr9.symm
  subst hr9
  refine va_last hx hb hK hP hD hS 2 0 rfl rfl (i := (2 : Int32)) (inb_in ix_2_6) d_M_one_79 (fun H locs hP hD hS => ?_)
  have hP : va_P D classes ([(h0, .inr (5, [.ref q1, .ref q2, .ref q3, .ref q4, .ref q5, .int cm, .int stp, .ref q6, .ref q7, .ref q8, .int mus, .int mc_, .int mb_, .ref q9])), (q2, .inl (ct.1, 240, .inr (.inl ac))), (q6, .inl (ct.1, 6, .inr (.inl (vp_updL (vp_updL (vp_updL ax (0 : Int32).toNatClampNeg v_2) (1 : Int32).toNatClampNeg v_4) (2 : Int32).toNatClampNeg v_6)))), (q7, .inl (ct.1, 3000, .inr (.inl au))), (q8, .inl (ct.2.2, 500, .inl ao))] ++ wt) H := hP
  have hD : va_D A ([(h0, .inr (5, [.ref q1, .ref q2, .ref q3, .ref q4, .ref q5, .int cm, .int stp, .ref q6, .ref q7, .ref q8, .int mus, .int mc_, .int mb_, .ref q9])), (q2, .inl (ct.1, 240, .inr (.inl ac))), (q6, .inl (ct.1, 6, .inr (.inl (vp_updL (vp_updL (vp_updL ax (0 : Int32).toNatClampNeg v_2) (1 : Int32).toNatClampNeg v_4) (2 : Int32).toNatClampNeg v_6)))), (q7, .inl (ct.1, 3000, .inr (.inl au))), (q8, .inl (ct.2.2, 500, .inl ao))] ++ wt) := hD
  refine lv_aload_n hx hb d_M_one_80 rfl (lv_at hl 0 rfl) ?_
  refine va_get (D := D) (ci := 5) (v := .ref q6) (C := R_Model) (T := F_Model) (N := 14) hx hb htg i_Model hown hK hP 0 rfl rfl 7 (by decide) (htg _ tm_405) (fun _ h9 => h9) rfl d_M_one_81 ?_
  refine lv_iconst (v := (3 : Int32)) hx hb d_M_one_84 (by decide) ?_
  refine lv_aload_n hx hb d_M_one_85 rfl (lv_at hl 0 rfl) ?_
  refine va_get (D := D) (ci := 5) (v := .ref q2) (C := R_Model) (T := F_Model) (N := 14) hx hb htg i_Model hown hK hP 0 rfl rfl 1 (by decide) (htg _ tm_399) (fun _ h9 => h9) rfl d_M_one_86 ?_
  refine lv_iload_n hx hb d_M_one_89 rfl (lv_at hl 1 rfl) ?_
  refine lv_iload_n hx hb d_M_one_90 rfl (lv_at hl 3 rfl) ?_
  refine lv_i2l hx hb d_M_one_91 rfl ?_
  refine lv_iload hx hb d_M_one_92 (lv_at hl 4 rfl) ?_
  refine lv_i2l hx hb d_M_one_94 rfl ?_
  refine lv_lconst (v := (0 : Int64)) hx hb d_M_one_95 (by decide) ?_
  refine lv_iload hx hb d_M_one_96 (lv_at hl 5 rfl) ?_
  refine lv_i2l hx hb d_M_one_98 rfl ?_
  refine lv_iload hx hb d_M_one_99 (lv_at hl 6 rfl) ?_
  refine lv_i2l hx hb d_M_one_101 rfl ?_
  refine lv_iload hx hb d_M_one_102 (lv_at hl 7 rfl) ?_
  refine lv_i2l hx hb d_M_one_104 rfl ?_
  rcases e_7 : f_M_dot ac a0 (eq.toInt64) (er.toInt64) (0 : Int64) (es.toInt64) (et.toInt64) (eu.toInt64) with _ | v_8
  · rw [e_7] at h; cases h
  rw [e_7, Option.bind_some] at h
  try dsimp only at h
  refine vp_callSl (va_Run.run (va_runS (As := [.ref q2, .int a0, .long (eq.toInt64), .long (er.toInt64), .long (0 : Int64), .long (es.toInt64), .long (et.toInt64), .long (eu.toInt64)]) (rest := [.int (3 : Int32), .ref q6]) ⟨hx, hb, hml, hown, htg⟩ (c_M_dot l D ct ([(h0, .inr (5, [.ref q1, .ref q2, .ref q3, .ref q4, .ref q5, .int cm, .int stp, .ref q6, .ref q7, .ref q8, .int mus, .int mc_, .int mb_, .ref q9])), (q2, .inl (ct.1, 240, .inr (.inl ac))), (q6, .inl (ct.1, 6, .inr (.inl (vp_updL (vp_updL (vp_updL ax (0 : Int32).toNatClampNeg v_2) (1 : Int32).toNatClampNeg v_4) (2 : Int32).toNatClampNeg v_6)))), (q7, .inl (ct.1, 3000, .inr (.inl au))), (q8, .inl (ct.2.2, 500, .inl ao))] ++ wt) 1 q2 ac a0 (eq.toInt64) (er.toInt64) (0 : Int64) (es.toInt64) (et.toInt64) (eu.toInt64) rfl  _ e_7) (cwS 8 htg (giS tm_479 tm_480 tm_34 g_M_dot) rfl rfl rfl (by decide +kernel) ⟨Nat.le_of_ble_eq_true rfl, Nat.le_of_ble_eq_true rfl⟩) (preS hP hKK) rfl rfl hl.1 rfl (lv_room (Nat.le_of_ble_eq_true rfl)) d_M_one_105 ⟨Nat.le_of_ble_eq_true rfl, Nat.le_of_ble_eq_true rfl⟩)) (fun r9 hr9 => ?_)
  have hr9 := hr9.symm
  subst hr9
  refine va_last hx hb hK hP hD hS 2 0 rfl rfl (i := (3 : Int32)) (inb_in ix_3_6) d_M_one_108 (fun H locs hP hD hS => ?_)
  have hP : va_P D classes ([(h0, .inr (5, [.ref q1, .ref q2, .ref q3, .ref q4, .ref q5, .int cm, .int stp, .ref q6, .ref q7, .ref q8, .int mus, .int mc_, .int mb_, .ref q9])), (q2, .inl (ct.1, 240, .inr (.inl ac))), (q6, .inl (ct.1, 6, .inr (.inl (vp_updL (vp_updL (vp_updL (vp_updL ax (0 : Int32).toNatClampNeg v_2) (1 : Int32).toNatClampNeg v_4) (2 : Int32).toNatClampNeg v_6) (3 : Int32).toNatClampNeg v_8)))), (q7, .inl (ct.1, 3000, .inr (.inl au))), (q8, .inl (ct.2.2, 500, .inl ao))] ++ wt) H := hP
  have hD : va_D A ([(h0, .inr (5, [.ref q1, .ref q2, .ref q3, .ref q4, .ref q5, .int cm, .int stp, .ref q6, .ref q7, .ref q8, .int mus, .int mc_, .int mb_, .ref q9])), (q2, .inl (ct.1, 240, .inr (.inl ac))), (q6, .inl (ct.1, 6, .inr (.inl (vp_updL (vp_updL (vp_updL (vp_updL ax (0 : Int32).toNatClampNeg v_2) (1 : Int32).toNatClampNeg v_4) (2 : Int32).toNatClampNeg v_6) (3 : Int32).toNatClampNeg v_8)))), (q7, .inl (ct.1, 3000, .inr (.inl au))), (q8, .inl (ct.2.2, 500, .inl ao))] ++ wt) := hD
  refine lv_aload_n hx hb d_M_one_109 rfl (lv_at hl 0 rfl) ?_
  refine va_get (D := D) (ci := 5) (v := .ref q6) (C := R_Model) (T := F_Model) (N := 14) hx hb htg i_Model hown hK hP 0 rfl rfl 7 (by decide) (htg _ tm_405) (fun _ h9 => h9) rfl d_M_one_110 ?_
  refine lv_iconst (v := (4 : Int32)) hx hb d_M_one_113 (by decide) ?_
  refine lv_aload_n hx hb d_M_one_114 rfl (lv_at hl 0 rfl) ?_
  refine va_get (D := D) (ci := 5) (v := .ref q2) (C := R_Model) (T := F_Model) (N := 14) hx hb htg i_Model hown hK hP 0 rfl rfl 1 (by decide) (htg _ tm_399) (fun _ h9 => h9) rfl d_M_one_115 ?_
  refine lv_iload_n hx hb d_M_one_118 rfl (lv_at hl 1 rfl) ?_
  refine lv_iload_n hx hb d_M_one_119 rfl (lv_at hl 2 rfl) ?_
  refine lv_i2l hx hb d_M_one_120 rfl ?_
  refine lv_lconst (v := (0 : Int64)) hx hb d_M_one_121 (by decide) ?_
  refine lv_lconst (v := (0 : Int64)) hx hb d_M_one_122 (by decide) ?_
  refine lv_iload hx hb d_M_one_123 (lv_at hl 5 rfl) ?_
  refine lv_i2l hx hb d_M_one_125 rfl ?_
  refine lv_iload hx hb d_M_one_126 (lv_at hl 6 rfl) ?_
  refine lv_i2l hx hb d_M_one_128 rfl ?_
  refine lv_iload hx hb d_M_one_129 (lv_at hl 7 rfl) ?_
  refine lv_i2l hx hb d_M_one_131 rfl ?_
  rcases e_9 : f_M_dot ac a0 (ep.toInt64) (0 : Int64) (0 : Int64) (es.toInt64) (et.toInt64) (eu.toInt64) with _ | v_10
  · rw [e_9] at h; cases h
  rw [e_9, Option.bind_some] at h
  try dsimp only at h
  refine vp_callSl (va_Run.run (va_runS (As := [.ref q2, .int a0, .long (ep.toInt64), .long (0 : Int64), .long (0 : Int64), .long (es.toInt64), .long (et.toInt64), .long (eu.toInt64)]) (rest := [.int (4 : Int32), .ref q6]) ⟨hx, hb, hml, hown, htg⟩ (c_M_dot l D ct ([(h0, .inr (5, [.ref q1, .ref q2, .ref q3, .ref q4, .ref q5, .int cm, .int stp, .ref q6, .ref q7, .ref q8, .int mus, .int mc_, .int mb_, .ref q9])), (q2, .inl (ct.1, 240, .inr (.inl ac))), (q6, .inl (ct.1, 6, .inr (.inl (vp_updL (vp_updL (vp_updL (vp_updL ax (0 : Int32).toNatClampNeg v_2) (1 : Int32).toNatClampNeg v_4) (2 : Int32).toNatClampNeg v_6) (3 : Int32).toNatClampNeg v_8)))), (q7, .inl (ct.1, 3000, .inr (.inl au))), (q8, .inl (ct.2.2, 500, .inl ao))] ++ wt) 1 q2 ac a0 (ep.toInt64) (0 : Int64) (0 : Int64) (es.toInt64) (et.toInt64) (eu.toInt64) rfl  _ e_9) (cwS 8 htg (giS tm_479 tm_480 tm_34 g_M_dot) rfl rfl rfl (by decide +kernel) ⟨Nat.le_of_ble_eq_true rfl, Nat.le_of_ble_eq_true rfl⟩) (preS hP hKK) rfl rfl hl.1 rfl (lv_room (Nat.le_of_ble_eq_true rfl)) d_M_one_132 ⟨Nat.le_of_ble_eq_true rfl, Nat.le_of_ble_eq_true rfl⟩)) (fun r9 hr9 => ?_)
  have hr9 := hr9.symm
  subst hr9
  refine va_last hx hb hK hP hD hS 2 0 rfl rfl (i := (4 : Int32)) (inb_in ix_4_6) d_M_one_135 (fun H locs hP hD hS => ?_)
  have hP : va_P D classes ([(h0, .inr (5, [.ref q1, .ref q2, .ref q3, .ref q4, .ref q5, .int cm, .int stp, .ref q6, .ref q7, .ref q8, .int mus, .int mc_, .int mb_, .ref q9])), (q2, .inl (ct.1, 240, .inr (.inl ac))), (q6, .inl (ct.1, 6, .inr (.inl (vp_updL (vp_updL (vp_updL (vp_updL (vp_updL ax (0 : Int32).toNatClampNeg v_2) (1 : Int32).toNatClampNeg v_4) (2 : Int32).toNatClampNeg v_6) (3 : Int32).toNatClampNeg v_8) (4 : Int32).toNatClampNeg v_10)))), (q7, .inl (ct.1, 3000, .inr (.inl au))), (q8, .inl (ct.2.2, 500, .inl ao))] ++ wt) H := hP
  have hD : va_D A ([(h0, .inr (5, [.ref q1, .ref q2, .ref q3, .ref q4, .ref q5, .int cm, .int stp, .ref q6, .ref q7, .ref q8, .int mus, .int mc_, .int mb_, .ref q9])), (q2, .inl (ct.1, 240, .inr (.inl ac))), (q6, .inl (ct.1, 6, .inr (.inl (vp_updL (vp_updL (vp_updL (vp_updL (vp_updL ax (0 : Int32).toNatClampNeg v_2) (1 : Int32).toNatClampNeg v_4) (2 : Int32).toNatClampNeg v_6) (3 : Int32).toNatClampNeg v_8) (4 : Int32).toNatClampNeg v_10)))), (q7, .inl (ct.1, 3000, .inr (.inl au))), (q8, .inl (ct.2.2, 500, .inl ao))] ++ wt) := hD
  refine lv_aload_n hx hb d_M_one_136 rfl (lv_at hl 0 rfl) ?_
  refine va_get (D := D) (ci := 5) (v := .ref q6) (C := R_Model) (T := F_Model) (N := 14) hx hb htg i_Model hown hK hP 0 rfl rfl 7 (by decide) (htg _ tm_405) (fun _ h9 => h9) rfl d_M_one_137 ?_
  refine lv_iconst (v := (5 : Int32)) hx hb d_M_one_140 (by decide) ?_
  refine lv_aload_n hx hb d_M_one_141 rfl (lv_at hl 0 rfl) ?_
  refine va_get (D := D) (ci := 5) (v := .ref q2) (C := R_Model) (T := F_Model) (N := 14) hx hb htg i_Model hown hK hP 0 rfl rfl 1 (by decide) (htg _ tm_399) (fun _ h9 => h9) rfl d_M_one_142 ?_
  refine lv_iload_n hx hb d_M_one_145 rfl (lv_at hl 1 rfl) ?_
  refine lv_iload_n hx hb d_M_one_146 rfl (lv_at hl 2 rfl) ?_
  refine lv_i2l hx hb d_M_one_147 rfl ?_
  refine lv_lconst (v := (0 : Int64)) hx hb d_M_one_148 (by decide) ?_
  refine lv_lconst (v := (0 : Int64)) hx hb d_M_one_149 (by decide) ?_
  refine lv_iload_n hx hb d_M_one_150 rfl (lv_at hl 3 rfl) ?_
  refine lv_i2l hx hb d_M_one_151 rfl ?_
  refine lv_iload hx hb d_M_one_152 (lv_at hl 4 rfl) ?_
  refine lv_i2l hx hb d_M_one_154 rfl ?_
  refine lv_lconst (v := (0 : Int64)) hx hb d_M_one_155 (by decide) ?_
  rcases e_11 : f_M_dot ac a0 (ep.toInt64) (0 : Int64) (0 : Int64) (eq.toInt64) (er.toInt64) (0 : Int64) with _ | v_12
  · rw [e_11] at h; cases h
  rw [e_11, Option.bind_some] at h
  try dsimp only at h
  refine vp_callSl (va_Run.run (va_runS (As := [.ref q2, .int a0, .long (ep.toInt64), .long (0 : Int64), .long (0 : Int64), .long (eq.toInt64), .long (er.toInt64), .long (0 : Int64)]) (rest := [.int (5 : Int32), .ref q6]) ⟨hx, hb, hml, hown, htg⟩ (c_M_dot l D ct ([(h0, .inr (5, [.ref q1, .ref q2, .ref q3, .ref q4, .ref q5, .int cm, .int stp, .ref q6, .ref q7, .ref q8, .int mus, .int mc_, .int mb_, .ref q9])), (q2, .inl (ct.1, 240, .inr (.inl ac))), (q6, .inl (ct.1, 6, .inr (.inl (vp_updL (vp_updL (vp_updL (vp_updL (vp_updL ax (0 : Int32).toNatClampNeg v_2) (1 : Int32).toNatClampNeg v_4) (2 : Int32).toNatClampNeg v_6) (3 : Int32).toNatClampNeg v_8) (4 : Int32).toNatClampNeg v_10)))), (q7, .inl (ct.1, 3000, .inr (.inl au))), (q8, .inl (ct.2.2, 500, .inl ao))] ++ wt) 1 q2 ac a0 (ep.toInt64) (0 : Int64) (0 : Int64) (eq.toInt64) (er.toInt64) (0 : Int64) rfl  _ e_11) (cwS 8 htg (giS tm_479 tm_480 tm_34 g_M_dot) rfl rfl rfl (by decide +kernel) ⟨Nat.le_of_ble_eq_true rfl, Nat.le_of_ble_eq_true rfl⟩) (preS hP hKK) rfl rfl hl.1 rfl (lv_room (Nat.le_of_ble_eq_true rfl)) d_M_one_156 ⟨Nat.le_of_ble_eq_true rfl, Nat.le_of_ble_eq_true rfl⟩)) (fun r9 hr9 => ?_)
  have hr9 := hr9.symm
  subst hr9
  refine va_last hx hb hK hP hD hS 2 0 rfl rfl (i := (5 : Int32)) (inb_in ix_5_6) d_M_one_159 (fun H locs hP hD hS => ?_)
  have hP : va_P D classes ([(h0, .inr (5, [.ref q1, .ref q2, .ref q3, .ref q4, .ref q5, .int cm, .int stp, .ref q6, .ref q7, .ref q8, .int mus, .int mc_, .int mb_, .ref q9])), (q2, .inl (ct.1, 240, .inr (.inl ac))), (q6, .inl (ct.1, 6, .inr (.inl (vp_updL (vp_updL (vp_updL (vp_updL (vp_updL (vp_updL ax (0 : Int32).toNatClampNeg v_2) (1 : Int32).toNatClampNeg v_4) (2 : Int32).toNatClampNeg v_6) (3 : Int32).toNatClampNeg v_8) (4 : Int32).toNatClampNeg v_10) (5 : Int32).toNatClampNeg v_12)))), (q7, .inl (ct.1, 3000, .inr (.inl au))), (q8, .inl (ct.2.2, 500, .inl ao))] ++ wt) H := hP
  have hD : va_D A ([(h0, .inr (5, [.ref q1, .ref q2, .ref q3, .ref q4, .ref q5, .int cm, .int stp, .ref q6, .ref q7, .ref q8, .int mus, .int mc_, .int mb_, .ref q9])), (q2, .inl (ct.1, 240, .inr (.inl ac))), (q6, .inl (ct.1, 6, .inr (.inl (vp_updL (vp_updL (vp_updL (vp_updL (vp_updL (vp_updL ax (0 : Int32).toNatClampNeg v_2) (1 : Int32).toNatClampNeg v_4) (2 : Int32).toNatClampNeg v_6) (3 : Int32).toNatClampNeg v_8) (4 : Int32).toNatClampNeg v_10) (5 : Int32).toNatClampNeg v_12)))), (q7, .inl (ct.1, 3000, .inr (.inl au))), (q8, .inl (ct.2.2, 500, .inl ao))] ++ wt) := hD
  refine lv_aload_n hx hb d_M_one_160 rfl (lv_at hl 0 rfl) ?_
  have hP := va_P.part (cx := [(h0, .inr (5, [.ref q1, .ref q2, .ref q3, .ref q4, .ref q5, .int cm, .int stp, .ref q6, .ref q7, .ref q8, .int mus, .int mc_, .int mb_, .ref q9])), (q6, .inl (ct.1, 6, .inr (.inl (vp_updL (vp_updL (vp_updL (vp_updL (vp_updL (vp_updL ax (0 : Int32).toNatClampNeg v_2) (1 : Int32).toNatClampNeg v_4) (2 : Int32).toNatClampNeg v_6) (3 : Int32).toNatClampNeg v_8) (4 : Int32).toNatClampNeg v_10) (5 : Int32).toNatClampNeg v_12)))), (q2, .inl (ct.1, 240, .inr (.inl ac))), (q7, .inl (ct.1, 3000, .inr (.inl au))), (q8, .inl (ct.2.2, 500, .inl ao))]) hP [0, 2, 1, 3, 4] rfl
  have hD := va_D.part (cx := [(h0, .inr (5, [.ref q1, .ref q2, .ref q3, .ref q4, .ref q5, .int cm, .int stp, .ref q6, .ref q7, .ref q8, .int mus, .int mc_, .int mb_, .ref q9])), (q6, .inl (ct.1, 6, .inr (.inl (vp_updL (vp_updL (vp_updL (vp_updL (vp_updL (vp_updL ax (0 : Int32).toNatClampNeg v_2) (1 : Int32).toNatClampNeg v_4) (2 : Int32).toNatClampNeg v_6) (3 : Int32).toNatClampNeg v_8) (4 : Int32).toNatClampNeg v_10) (5 : Int32).toNatClampNeg v_12)))), (q2, .inl (ct.1, 240, .inr (.inl ac))), (q7, .inl (ct.1, 3000, .inr (.inl au))), (q8, .inl (ct.2.2, 500, .inl ao))]) hD [0, 2, 1, 3, 4] (by decide) rfl
  rcases e_15 : f_M_reduce (vp_updL (vp_updL (vp_updL (vp_updL (vp_updL (vp_updL ax (0 : Int32).toNatClampNeg v_2) (1 : Int32).toNatClampNeg v_4) (2 : Int32).toNatClampNeg v_6) (3 : Int32).toNatClampNeg v_8) (4 : Int32).toNatClampNeg v_10) (5 : Int32).toNatClampNeg v_12) stp with _ | ⟨ax_13, stp_14⟩
  · rw [e_15] at h; cases h
  rw [e_15, Option.bind_some] at h
  try dsimp only at h
  refine va_callv (va_runV (As := []) (rest := []) ⟨hx, hb, hml, hown, htg⟩ (c_M_reduce l D ct A ([(q2, .inl (ct.1, 240, .inr (.inl ac))), (q7, .inl (ct.1, 3000, .inr (.inl au))), (q8, .inl (ct.2.2, 500, .inl ao))] ++ wt)  h0 q1 q2 q3 q4 q5 q6 q7 q8 q9 cm stp mus mc_ mb_ (vp_updL (vp_updL (vp_updL (vp_updL (vp_updL (vp_updL ax (0 : Int32).toNatClampNeg v_2) (1 : Int32).toNatClampNeg v_4) (2 : Int32).toNatClampNeg v_6) (3 : Int32).toNatClampNeg v_8) (4 : Int32).toNatClampNeg v_10) (5 : Int32).toNatClampNeg v_12)   _ e_15) (cwV 0 htg (giV tm_454 tm_456 tm_19 tm_34 g_M_reduce) rfl rfl rfl (by decide +kernel) ⟨Nat.le_of_ble_eq_true rfl, Nat.le_of_ble_eq_true rfl⟩) (preVM hA hS hP hD hKK (va_recv hK hP (ci := 5) (q0 := 0) rfl rfl)) rfl rfl hl.1 rfl (lv_room (Nat.le_of_ble_eq_true rfl)) d_M_one_161 ⟨Nat.le_of_ble_eq_true rfl, Nat.le_of_ble_eq_true rfl⟩) hS (fun q _ h9 => h9) (fun q h9 => h9) (fun u9 t9 H locs ht9 hvm9 hw9 hB9 hz9 hk9 hS => ?_)
  rw [hw9] at hB9
  obtain ⟨hP, hD⟩ := hB9
  rw [ht9] at hP
  have hP : va_P D classes ([(h0, .inr (5, [.ref q1, .ref q2, .ref q3, .ref q4, .ref q5, .int cm, .int stp_14, .ref q6, .ref q7, .ref q8, .int mus, .int mc_, .int mb_, .ref q9])), (q6, .inl (ct.1, 6, .inr (.inl ax_13))), (q2, .inl (ct.1, 240, .inr (.inl ac))), (q7, .inl (ct.1, 3000, .inr (.inl au))), (q8, .inl (ct.2.2, 500, .inl ao))] ++ wt) H := hP
  have hD : va_D A ([(h0, .inr (5, [.ref q1, .ref q2, .ref q3, .ref q4, .ref q5, .int cm, .int stp_14, .ref q6, .ref q7, .ref q8, .int mus, .int mc_, .int mb_, .ref q9])), (q6, .inl (ct.1, 6, .inr (.inl ax_13))), (q2, .inl (ct.1, 240, .inr (.inl ac))), (q7, .inl (ct.1, 3000, .inr (.inl au))), (q8, .inl (ct.2.2, 500, .inl ao))] ++ wt) := hD
  refine lv_aload_n hx hb d_M_one_164 rfl (lv_at hl 0 rfl) ?_
  refine va_get (D := D) (ci := 5) (v := .int mus) (C := R_Model) (T := F_Model) (N := 14) hx hb htg i_Model hown hK hP 0 rfl rfl 10 (by decide) (htg _ tm_408) (fun _ h9 => h9) rfl d_M_one_165 ?_
  refine lv_istore (lv' := [(8, .int mus), (0, .ref h0), (1, .int a0), (2, .int ep), (3, .int eq), (4, .int er), (5, .int es), (6, .int et), (7, .int eu)]) hx hb d_M_one_168 hl (by decide) rfl (fun ls hl => ?_)
  have hP := va_P.part (cx := [(h0, .inr (5, [.ref q1, .ref q2, .ref q3, .ref q4, .ref q5, .int cm, .int stp_14, .ref q6, .ref q7, .ref q8, .int mus, .int mc_, .int mb_, .ref q9])), (q2, .inl (ct.1, 240, .inr (.inl ac))), (q6, .inl (ct.1, 6, .inr (.inl ax_13))), (q7, .inl (ct.1, 3000, .inr (.inl au))), (q8, .inl (ct.2.2, 500, .inl ao))]) hP [0, 2, 1, 3, 4] rfl
  have hD := va_D.part (cx := [(h0, .inr (5, [.ref q1, .ref q2, .ref q3, .ref q4, .ref q5, .int cm, .int stp_14, .ref q6, .ref q7, .ref q8, .int mus, .int mc_, .int mb_, .ref q9])), (q2, .inl (ct.1, 240, .inr (.inl ac))), (q6, .inl (ct.1, 6, .inr (.inl ax_13))), (q7, .inl (ct.1, 3000, .inr (.inl au))), (q8, .inl (ct.2.2, 500, .inl ao))]) hD [0, 2, 1, 3, 4] (by decide) rfl
  have L_170 : ∀ (n : Nat) (ii : Int32) (stp : Int32) (mus : Int32) (ax : Nat → Int64) (au : Nat → Int64) (ao : Nat → Int32) (ii' : Int32) (stp' : Int32) (mus' : Int32) (ax' : Nat → Int64) (au' : Nat → Int64) (ao' : Nat → Int32), lp_M_one_170 ac a0 ep eq er es et eu n ii stp mus ax au ao = some (ii', stp', mus', ax', au', ao') → ∀ (H : Heap) (locs : List Loc), va_P D classes ([(h0, .inr (5, [.ref q1, .ref q2, .ref q3, .ref q4, .ref q5, .int cm, .int stp, .ref q6, .ref q7, .ref q8, .int mus, .int mc_, .int mb_, .ref q9])), (q2, .inl (ct.1, 240, .inr (.inl ac))), (q6, .inl (ct.1, 6, .inr (.inl ax))), (q7, .inl (ct.1, 3000, .inr (.inl au))), (q8, .inl (ct.2.2, 500, .inl ao))] ++ wt) H → va_D A ([(h0, .inr (5, [.ref q1, .ref q2, .ref q3, .ref q4, .ref q5, .int cm, .int stp, .ref q6, .ref q7, .ref q8, .int mus, .int mc_, .int mb_, .ref q9])), (q2, .inl (ct.1, 240, .inr (.inl ac))), (q6, .inl (ct.1, 6, .inr (.inl ax))), (q7, .inl (ct.1, 3000, .inr (.inl au))), (q8, .inl (ct.2.2, 500, .inl ao))] ++ wt) → va_S A s.heap H locs → ∀ (ls : Array Slot), lv_has ls 10 [(8, .int ii), (0, .ref h0), (1, .int a0), (2, .int ep), (3, .int eq), (4, .int er), (5, .int es), (6, .int et), (7, .int eu)] → (∀ (H : Heap) (locs : List Loc), va_P D classes ([(h0, .inr (5, [.ref q1, .ref q2, .ref q3, .ref q4, .ref q5, .int cm, .int stp', .ref q6, .ref q7, .ref q8, .int mus', .int mc_, .int mb_, .ref q9])), (q2, .inl (ct.1, 240, .inr (.inl ac))), (q6, .inl (ct.1, 6, .inr (.inl ax'))), (q7, .inl (ct.1, 3000, .inr (.inl au'))), (q8, .inl (ct.2.2, 500, .inl ao'))] ++ wt) H → va_D A ([(h0, .inr (5, [.ref q1, .ref q2, .ref q3, .ref q4, .ref q5, .int cm, .int stp', .ref q6, .ref q7, .ref q8, .int mus', .int mc_, .int mb_, .ref q9])), (q2, .inl (ct.1, 240, .inr (.inl ac))), (q6, .inl (ct.1, 6, .inr (.inl ax'))), (q7, .inl (ct.1, 3000, .inr (.inl au'))), (q8, .inl (ct.2.2, 500, .inl ao'))] ++ wt) → va_S A s.heap H locs → ∀ (ls : Array Slot), lv_has ls 10 [(8, .int ii'), (0, .ref h0), (1, .int a0), (2, .int ep), (3, .int eq), (4, .int er), (5, .int es), (6, .int et), (7, .int eu)] → W p l e (headSpec w_M_one rm_M_one).room s m ([.ref h0, .int a0, .int ep, .int eq, .int er, .int es, .int et, .int eu] : List Value).toArray below meth c H locs 0 0 (MQ below (va_Qv (fun u => u = r0) (fun (u : Int32 × Int32 × (Nat → Int64) × (Nat → Int64) × (Nat → Int32)) t => match u with | (stp', mus', ax', au', ao') => va_P D classes ([(h0, .inr (5, [.ref q1, .ref q2, .ref q3, .ref q4, .ref q5, .int cm, .int stp', .ref q6, .ref q7, .ref q8, .int mus', .int mc_, .int mb_, .ref q9])), (q2, .inl (ct.1, 240, .inr (.inl ac))), (q6, .inl (ct.1, 6, .inr (.inl ax'))), (q7, .inl (ct.1, 3000, .inr (.inl au'))), (q8, .inl (ct.2.2, 500, .inl ao'))] ++ wt) t.heap ∧ va_D A ([(h0, .inr (5, [.ref q1, .ref q2, .ref q3, .ref q4, .ref q5, .int cm, .int stp', .ref q6, .ref q7, .ref q8, .int mus', .int mc_, .int mb_, .ref q9])), (q2, .inl (ct.1, 240, .inr (.inl ac))), (q6, .inl (ct.1, 6, .inr (.inl ax'))), (q7, .inl (ct.1, 3000, .inr (.inl au'))), (q8, .inl (ct.2.2, 500, .inl ao'))] ++ wt)) A) ([.ref h0, .int a0, .int ep, .int eq, .int er, .int es, .int et, .int eu] : List Value).toArray s 0 0 A) (F0 m 192 ls [])) → W p l e (headSpec w_M_one rm_M_one).room s m ([.ref h0, .int a0, .int ep, .int eq, .int er, .int es, .int et, .int eu] : List Value).toArray below meth c H locs 0 0 (MQ below (va_Qv (fun u => u = r0) (fun (u : Int32 × Int32 × (Nat → Int64) × (Nat → Int64) × (Nat → Int32)) t => match u with | (stp', mus', ax', au', ao') => va_P D classes ([(h0, .inr (5, [.ref q1, .ref q2, .ref q3, .ref q4, .ref q5, .int cm, .int stp', .ref q6, .ref q7, .ref q8, .int mus', .int mc_, .int mb_, .ref q9])), (q2, .inl (ct.1, 240, .inr (.inl ac))), (q6, .inl (ct.1, 6, .inr (.inl ax'))), (q7, .inl (ct.1, 3000, .inr (.inl au'))), (q8, .inl (ct.2.2, 500, .inl ao'))] ++ wt) t.heap ∧ va_D A ([(h0, .inr (5, [.ref q1, .ref q2, .ref q3, .ref q4, .ref q5, .int cm, .int stp', .ref q6, .ref q7, .ref q8, .int mus', .int mc_, .int mb_, .ref q9])), (q2, .inl (ct.1, 240, .inr (.inl ac))), (q6, .inl (ct.1, 6, .inr (.inl ax'))), (q7, .inl (ct.1, 3000, .inr (.inl au'))), (q8, .inl (ct.2.2, 500, .inl ao'))] ++ wt)) A) ([.ref h0, .int a0, .int ep, .int eq, .int er, .int es, .int et, .int eu] : List Value).toArray s 0 0 A) (F0 m 170 ls []) := by
    intro n
    induction n with
    | zero =>
      intro ii stp mus ax au ao ii' stp' mus' ax' au' ao' h
      rw [lp_M_one_170] at h
      cases h
    | succ n ih =>
      intro ii stp mus ax au ao ii' stp' mus' ax' au' ao' h H locs hP hD hS ls hl K
      rw [lp_M_one_170] at h
      refine lv_iload hx hb d_M_one_170 (lv_at hl 0 rfl) ?_
      refine lv_if_le (tgt := 192) hx hb d_M_one_172 (by decide) (fun c_16 => ?_) (fun c_16 => ?_)
      · rw [if_pos c_16] at h
        cases h
        exact K _ _ hP hD hS _ (lv_sub hl [0, 1, 2, 3, 4, 5, 6, 7, 8] rfl)
      · rw [if_neg c_16] at h
        refine lv_aload_n hx hb d_M_one_175 rfl (lv_at hl 1 rfl) ?_
        refine lv_iload hx hb d_M_one_176 (lv_at hl 0 rfl) ?_
        refine lv_iconst (v := (1 : Int32)) hx hb d_M_one_178 (by decide) ?_
        refine lv_isub hx hb d_M_one_179 ?_
        rcases e_17 : f_M_comp ax au (ii - (1 : Int32)) with _ | v_18
        · rw [e_17] at h; cases h
        rw [e_17, Option.bind_some] at h
        try dsimp only at h
        refine vp_callSi (va_Run.run (va_runV (As := [.int (ii - (1 : Int32))]) (rest := []) ⟨hx, hb, hml, hown, htg⟩ (c_M_comp l D ct ([(h0, .inr (5, [.ref q1, .ref q2, .ref q3, .ref q4, .ref q5, .int cm, .int stp, .ref q6, .ref q7, .ref q8, .int mus, .int mc_, .int mb_, .ref q9])), (q2, .inl (ct.1, 240, .inr (.inl ac))), (q6, .inl (ct.1, 6, .inr (.inl ax))), (q7, .inl (ct.1, 3000, .inr (.inl au))), (q8, .inl (ct.2.2, 500, .inl ao))] ++ wt) 0 2 3 h0 q1 q2 q3 q4 q5 q6 q7 q8 q9 cm stp mus mc_ mb_ ax au (ii - (1 : Int32)) rfl rfl rfl  _ e_17) (cwV 1 htg (giV tm_518 tm_520 tm_29 tm_34 g_M_comp) rfl rfl rfl (by decide +kernel) ⟨Nat.le_of_ble_eq_true rfl, Nat.le_of_ble_eq_true rfl⟩) (preV hP hKK (va_recv hK hP (ci := 5) (q0 := 0) rfl rfl)) rfl rfl hl.1 rfl (lv_room (Nat.le_of_ble_eq_true rfl)) d_M_one_180 ⟨Nat.le_of_ble_eq_true rfl, Nat.le_of_ble_eq_true rfl⟩)) (fun r9 hr9 => ?_)
        have hr9 := hr9.symm
        subst hr9
        refine lv_if_ge (tgt := 192) hx hb d_M_one_183 (by decide) (fun c_19 => ?_) (fun c_19 => ?_)
        · rw [if_pos c_19] at h
          cases h
          exact K _ _ hP hD hS _ (lv_sub hl [0, 1, 2, 3, 4, 5, 6, 7, 8] rfl)
        · rw [if_neg c_19] at h
          refine lv_iinc (v := ii + (-1 : Int32)) (lv' := [(8, .int (ii + (-1 : Int32))), (0, .ref h0), (1, .int a0), (2, .int ep), (3, .int eq), (4, .int er), (5, .int es), (6, .int et), (7, .int eu)]) hx hb d_M_one_186 hl (k := 0) rfl rfl (by decide) rfl (fun ls hl => ?_)
          refine lv_goto (tgt := 170) hx hb d_M_one_189 (by decide) ?_
          exact ih (ii + (-1 : Int32)) stp mus ax au ao _ _ _ _ _ _ h H locs hP hD hS ls (lv_sub hl [0, 1, 2, 3, 4, 5, 6, 7, 8] rfl) K
  rcases e_27 : lp_M_one_170 ac a0 ep eq er es et eu 501 mus stp_14 mus ax_13 au ao with _ | ⟨ii_21, stp_22, mus_23, ax_24, au_25, ao_26⟩
  · rw [e_27] at h; cases h
  rw [e_27, Option.bind_some] at h
  try dsimp only at h
  refine L_170 501 mus stp_14 mus ax_13 au ao ii_21 stp_22 mus_23 ax_24 au_25 ao_26 e_27 _ _ hP hD hS ls (lv_sub hl [0, 1, 2, 3, 4, 5, 6, 7, 8] rfl) (fun H locs hP hD hS ls hl => ?_)
  refine lv_iload hx hb d_M_one_192 (lv_at hl 0 rfl) ?_
  refine lv_if_le (tgt := 222) hx hb d_M_one_194 (by decide) (fun c_28 => ?_) (fun c_28 => ?_)
  · rw [if_pos c_28] at h
    refine lv_bipush (v := (6 : Int32)) hx hb d_M_one_222 (by decide) ?_
    refine lv_aload_n hx hb d_M_one_224 rfl (lv_at hl 1 rfl) ?_
    refine va_get (D := D) (ci := 5) (v := .int mus_23) (C := R_Model) (T := F_Model) (N := 14) hx hb htg i_Model hown hK hP 0 rfl rfl 10 (by decide) (htg _ tm_408) (fun _ h9 => h9) rfl d_M_one_225 ?_
    refine lv_imul hx hb d_M_one_228 ?_
    refine lv_iconst (v := (1 : Int32)) hx hb d_M_one_229 (by decide) ?_
    refine lv_isub hx hb d_M_one_230 ?_
    refine lv_istore (lv' := [(9, .int (((6 : Int32) * mus_23) - (1 : Int32))), (8, .int ii_21), (0, .ref h0), (1, .int a0), (2, .int ep), (3, .int eq), (4, .int er), (5, .int es), (6, .int et), (7, .int eu)]) hx hb d_M_one_231 hl (by decide) rfl (fun ls hl => ?_)
    have L_233 : ∀ (n : Nat) (ii : Int32) (kk : Int32) (stp : Int32) (mus : Int32) (ax : Nat → Int64) (au : Nat → Int64) (ao : Nat → Int32) (ii' : Int32) (kk' : Int32) (stp' : Int32) (mus' : Int32) (ax' : Nat → Int64) (au' : Nat → Int64) (ao' : Nat → Int32), lp_M_one_233 ac a0 ep eq er es et eu n ii kk stp mus ax au ao = some (ii', kk', stp', mus', ax', au', ao') → ∀ (H : Heap) (locs : List Loc), va_P D classes ([(h0, .inr (5, [.ref q1, .ref q2, .ref q3, .ref q4, .ref q5, .int cm, .int stp, .ref q6, .ref q7, .ref q8, .int mus, .int mc_, .int mb_, .ref q9])), (q2, .inl (ct.1, 240, .inr (.inl ac))), (q6, .inl (ct.1, 6, .inr (.inl ax))), (q7, .inl (ct.1, 3000, .inr (.inl au))), (q8, .inl (ct.2.2, 500, .inl ao))] ++ wt) H → va_D A ([(h0, .inr (5, [.ref q1, .ref q2, .ref q3, .ref q4, .ref q5, .int cm, .int stp, .ref q6, .ref q7, .ref q8, .int mus, .int mc_, .int mb_, .ref q9])), (q2, .inl (ct.1, 240, .inr (.inl ac))), (q6, .inl (ct.1, 6, .inr (.inl ax))), (q7, .inl (ct.1, 3000, .inr (.inl au))), (q8, .inl (ct.2.2, 500, .inl ao))] ++ wt) → va_S A s.heap H locs → ∀ (ls : Array Slot), lv_has ls 10 [(8, .int ii), (9, .int kk), (0, .ref h0), (1, .int a0), (2, .int ep), (3, .int eq), (4, .int er), (5, .int es), (6, .int et), (7, .int eu)] → (∀ (H : Heap) (locs : List Loc), va_P D classes ([(h0, .inr (5, [.ref q1, .ref q2, .ref q3, .ref q4, .ref q5, .int cm, .int stp', .ref q6, .ref q7, .ref q8, .int mus', .int mc_, .int mb_, .ref q9])), (q2, .inl (ct.1, 240, .inr (.inl ac))), (q6, .inl (ct.1, 6, .inr (.inl ax'))), (q7, .inl (ct.1, 3000, .inr (.inl au'))), (q8, .inl (ct.2.2, 500, .inl ao'))] ++ wt) H → va_D A ([(h0, .inr (5, [.ref q1, .ref q2, .ref q3, .ref q4, .ref q5, .int cm, .int stp', .ref q6, .ref q7, .ref q8, .int mus', .int mc_, .int mb_, .ref q9])), (q2, .inl (ct.1, 240, .inr (.inl ac))), (q6, .inl (ct.1, 6, .inr (.inl ax'))), (q7, .inl (ct.1, 3000, .inr (.inl au'))), (q8, .inl (ct.2.2, 500, .inl ao'))] ++ wt) → va_S A s.heap H locs → ∀ (ls : Array Slot), lv_has ls 10 [(8, .int ii'), (9, .int kk'), (0, .ref h0), (1, .int a0), (2, .int ep), (3, .int eq), (4, .int er), (5, .int es), (6, .int et), (7, .int eu)] → W p l e (headSpec w_M_one rm_M_one).room s m ([.ref h0, .int a0, .int ep, .int eq, .int er, .int es, .int et, .int eu] : List Value).toArray below meth c H locs 0 0 (MQ below (va_Qv (fun u => u = r0) (fun (u : Int32 × Int32 × (Nat → Int64) × (Nat → Int64) × (Nat → Int32)) t => match u with | (stp', mus', ax', au', ao') => va_P D classes ([(h0, .inr (5, [.ref q1, .ref q2, .ref q3, .ref q4, .ref q5, .int cm, .int stp', .ref q6, .ref q7, .ref q8, .int mus', .int mc_, .int mb_, .ref q9])), (q2, .inl (ct.1, 240, .inr (.inl ac))), (q6, .inl (ct.1, 6, .inr (.inl ax'))), (q7, .inl (ct.1, 3000, .inr (.inl au'))), (q8, .inl (ct.2.2, 500, .inl ao'))] ++ wt) t.heap ∧ va_D A ([(h0, .inr (5, [.ref q1, .ref q2, .ref q3, .ref q4, .ref q5, .int cm, .int stp', .ref q6, .ref q7, .ref q8, .int mus', .int mc_, .int mb_, .ref q9])), (q2, .inl (ct.1, 240, .inr (.inl ac))), (q6, .inl (ct.1, 6, .inr (.inl ax'))), (q7, .inl (ct.1, 3000, .inr (.inl au'))), (q8, .inl (ct.2.2, 500, .inl ao'))] ++ wt)) A) ([.ref h0, .int a0, .int ep, .int eq, .int er, .int es, .int et, .int eu] : List Value).toArray s 0 0 A) (F0 m 266 ls [])) → W p l e (headSpec w_M_one rm_M_one).room s m ([.ref h0, .int a0, .int ep, .int eq, .int er, .int es, .int et, .int eu] : List Value).toArray below meth c H locs 0 0 (MQ below (va_Qv (fun u => u = r0) (fun (u : Int32 × Int32 × (Nat → Int64) × (Nat → Int64) × (Nat → Int32)) t => match u with | (stp', mus', ax', au', ao') => va_P D classes ([(h0, .inr (5, [.ref q1, .ref q2, .ref q3, .ref q4, .ref q5, .int cm, .int stp', .ref q6, .ref q7, .ref q8, .int mus', .int mc_, .int mb_, .ref q9])), (q2, .inl (ct.1, 240, .inr (.inl ac))), (q6, .inl (ct.1, 6, .inr (.inl ax'))), (q7, .inl (ct.1, 3000, .inr (.inl au'))), (q8, .inl (ct.2.2, 500, .inl ao'))] ++ wt) t.heap ∧ va_D A ([(h0, .inr (5, [.ref q1, .ref q2, .ref q3, .ref q4, .ref q5, .int cm, .int stp', .ref q6, .ref q7, .ref q8, .int mus', .int mc_, .int mb_, .ref q9])), (q2, .inl (ct.1, 240, .inr (.inl ac))), (q6, .inl (ct.1, 6, .inr (.inl ax'))), (q7, .inl (ct.1, 3000, .inr (.inl au'))), (q8, .inl (ct.2.2, 500, .inl ao'))] ++ wt)) A) ([.ref h0, .int a0, .int ep, .int eq, .int er, .int es, .int et, .int eu] : List Value).toArray s 0 0 A) (F0 m 233 ls []) := by
      intro n
      induction n with
      | zero =>
        intro ii kk stp mus ax au ao ii' kk' stp' mus' ax' au' ao' h
        rw [lp_M_one_233] at h
        cases h
      | succ n ih =>
        intro ii kk stp mus ax au ao ii' kk' stp' mus' ax' au' ao' h H locs hP hD hS ls hl K
        rw [lp_M_one_233] at h
        refine lv_iload hx hb d_M_one_233 (lv_at hl 1 rfl) ?_
        refine lv_bipush (v := (6 : Int32)) hx hb d_M_one_235 (by decide) ?_
        refine lv_iload hx hb d_M_one_237 (lv_at hl 0 rfl) ?_
        refine lv_imul hx hb d_M_one_239 ?_
        refine lv_icmp_lt (tgt := 266) hx hb d_M_one_240 (by decide) (fun c_29 => ?_) (fun c_29 => ?_)
        · rw [if_pos c_29] at h
          cases h
          exact K _ _ hP hD hS _ (lv_sub hl [0, 1, 2, 3, 4, 5, 6, 7, 8, 9] rfl)
        · rw [if_neg c_29] at h
          refine lv_aload_n hx hb d_M_one_243 rfl (lv_at hl 2 rfl) ?_
          refine va_get (D := D) (ci := 5) (v := .ref q7) (C := R_Model) (T := F_Model) (N := 14) hx hb htg i_Model hown hK hP 0 rfl rfl 8 (by decide) (htg _ tm_406) (fun _ h9 => h9) rfl d_M_one_244 ?_
          refine lv_iload hx hb d_M_one_247 (lv_at hl 1 rfl) ?_
          refine lv_bipush (v := (6 : Int32)) hx hb d_M_one_249 (by decide) ?_
          refine lv_iadd hx hb d_M_one_251 ?_
          refine lv_aload_n hx hb d_M_one_252 rfl (lv_at hl 2 rfl) ?_
          refine va_get (D := D) (ci := 5) (v := .ref q7) (C := R_Model) (T := F_Model) (N := 14) hx hb htg i_Model hown hK hP 0 rfl rfl 8 (by decide) (htg _ tm_406) (fun _ h9 => h9) rfl d_M_one_253 ?_
          refine lv_iload hx hb d_M_one_256 (lv_at hl 1 rfl) ?_
          by_cases b_30 : inb kk 3000 = true
          rotate_left
          · rw [if_neg b_30] at h; cases h
          rw [if_pos b_30] at h
          refine va_lald hx hb hK hP 3 0 rfl rfl (inb_in b_30) d_M_one_258 ?_
          by_cases b_31 : inb (kk + (6 : Int32)) 3000 = true
          rotate_left
          · rw [if_neg b_31] at h; cases h
          rw [if_pos b_31] at h
          refine va_last hx hb hK hP hD hS 3 0 rfl rfl (inb_in b_31) d_M_one_259 (fun H locs hP hD hS => ?_)
          have hP : va_P D classes ([(h0, .inr (5, [.ref q1, .ref q2, .ref q3, .ref q4, .ref q5, .int cm, .int stp, .ref q6, .ref q7, .ref q8, .int mus, .int mc_, .int mb_, .ref q9])), (q2, .inl (ct.1, 240, .inr (.inl ac))), (q6, .inl (ct.1, 6, .inr (.inl ax))), (q7, .inl (ct.1, 3000, .inr (.inl (vp_updL au (kk + (6 : Int32)).toNatClampNeg (au kk.toNatClampNeg))))), (q8, .inl (ct.2.2, 500, .inl ao))] ++ wt) H := hP
          have hD : va_D A ([(h0, .inr (5, [.ref q1, .ref q2, .ref q3, .ref q4, .ref q5, .int cm, .int stp, .ref q6, .ref q7, .ref q8, .int mus, .int mc_, .int mb_, .ref q9])), (q2, .inl (ct.1, 240, .inr (.inl ac))), (q6, .inl (ct.1, 6, .inr (.inl ax))), (q7, .inl (ct.1, 3000, .inr (.inl (vp_updL au (kk + (6 : Int32)).toNatClampNeg (au kk.toNatClampNeg))))), (q8, .inl (ct.2.2, 500, .inl ao))] ++ wt) := hD
          refine lv_iinc (v := kk + (-1 : Int32)) (lv' := [(9, .int (kk + (-1 : Int32))), (8, .int ii), (0, .ref h0), (1, .int a0), (2, .int ep), (3, .int eq), (4, .int er), (5, .int es), (6, .int et), (7, .int eu)]) hx hb d_M_one_260 hl (k := 1) rfl rfl (by decide) rfl (fun ls hl => ?_)
          refine lv_goto (tgt := 233) hx hb d_M_one_263 (by decide) ?_
          exact ih ii (kk + (-1 : Int32)) stp mus ax (vp_updL au (kk + (6 : Int32)).toNatClampNeg (au kk.toNatClampNeg)) ao _ _ _ _ _ _ _ h H locs hP hD hS ls (lv_sub hl [1, 0, 2, 3, 4, 5, 6, 7, 8, 9] rfl) K
    rcases e_39 : lp_M_one_233 ac a0 ep eq er es et eu 3001 ii_21 (((6 : Int32) * mus_23) - (1 : Int32)) stp_22 mus_23 ax_24 au_25 ao_26 with _ | ⟨ii_32, kk_33, stp_34, mus_35, ax_36, au_37, ao_38⟩
    · rw [e_39] at h; cases h
    rw [e_39, Option.bind_some] at h
    try dsimp only at h
    refine L_233 3001 ii_21 (((6 : Int32) * mus_23) - (1 : Int32)) stp_22 mus_23 ax_24 au_25 ao_26 ii_32 kk_33 stp_34 mus_35 ax_36 au_37 ao_38 e_39 _ _ hP hD hS ls (lv_sub hl [1, 0, 2, 3, 4, 5, 6, 7, 8, 9] rfl) (fun H locs hP hD hS ls hl => ?_)
    refine lv_aload_n hx hb d_M_one_266 rfl (lv_at hl 2 rfl) ?_
    refine va_get (D := D) (ci := 5) (v := .int mus_35) (C := R_Model) (T := F_Model) (N := 14) hx hb htg i_Model hown hK hP 0 rfl rfl 10 (by decide) (htg _ tm_408) (fun _ h9 => h9) rfl d_M_one_267 ?_
    refine lv_istore (lv' := [(9, .int mus_35), (8, .int ii_32), (0, .ref h0), (1, .int a0), (2, .int ep), (3, .int eq), (4, .int er), (5, .int es), (6, .int et), (7, .int eu)]) hx hb d_M_one_270 hl (by decide) rfl (fun ls hl => ?_)
    have L_272 : ∀ (n : Nat) (ii : Int32) (kk : Int32) (stp : Int32) (mus : Int32) (ax : Nat → Int64) (au : Nat → Int64) (ao : Nat → Int32) (ii' : Int32) (kk' : Int32) (stp' : Int32) (mus' : Int32) (ax' : Nat → Int64) (au' : Nat → Int64) (ao' : Nat → Int32), lp_M_one_272 ac a0 ep eq er es et eu n ii kk stp mus ax au ao = some (ii', kk', stp', mus', ax', au', ao') → ∀ (H : Heap) (locs : List Loc), va_P D classes ([(h0, .inr (5, [.ref q1, .ref q2, .ref q3, .ref q4, .ref q5, .int cm, .int stp, .ref q6, .ref q7, .ref q8, .int mus, .int mc_, .int mb_, .ref q9])), (q2, .inl (ct.1, 240, .inr (.inl ac))), (q6, .inl (ct.1, 6, .inr (.inl ax))), (q7, .inl (ct.1, 3000, .inr (.inl au))), (q8, .inl (ct.2.2, 500, .inl ao))] ++ wt) H → va_D A ([(h0, .inr (5, [.ref q1, .ref q2, .ref q3, .ref q4, .ref q5, .int cm, .int stp, .ref q6, .ref q7, .ref q8, .int mus, .int mc_, .int mb_, .ref q9])), (q2, .inl (ct.1, 240, .inr (.inl ac))), (q6, .inl (ct.1, 6, .inr (.inl ax))), (q7, .inl (ct.1, 3000, .inr (.inl au))), (q8, .inl (ct.2.2, 500, .inl ao))] ++ wt) → va_S A s.heap H locs → ∀ (ls : Array Slot), lv_has ls 10 [(8, .int ii), (9, .int kk), (0, .ref h0), (1, .int a0), (2, .int ep), (3, .int eq), (4, .int er), (5, .int es), (6, .int et), (7, .int eu)] → (∀ (H : Heap) (locs : List Loc), va_P D classes ([(h0, .inr (5, [.ref q1, .ref q2, .ref q3, .ref q4, .ref q5, .int cm, .int stp', .ref q6, .ref q7, .ref q8, .int mus', .int mc_, .int mb_, .ref q9])), (q2, .inl (ct.1, 240, .inr (.inl ac))), (q6, .inl (ct.1, 6, .inr (.inl ax'))), (q7, .inl (ct.1, 3000, .inr (.inl au'))), (q8, .inl (ct.2.2, 500, .inl ao'))] ++ wt) H → va_D A ([(h0, .inr (5, [.ref q1, .ref q2, .ref q3, .ref q4, .ref q5, .int cm, .int stp', .ref q6, .ref q7, .ref q8, .int mus', .int mc_, .int mb_, .ref q9])), (q2, .inl (ct.1, 240, .inr (.inl ac))), (q6, .inl (ct.1, 6, .inr (.inl ax'))), (q7, .inl (ct.1, 3000, .inr (.inl au'))), (q8, .inl (ct.2.2, 500, .inl ao'))] ++ wt) → va_S A s.heap H locs → ∀ (ls : Array Slot), lv_has ls 10 [(8, .int ii'), (9, .int kk'), (0, .ref h0), (1, .int a0), (2, .int ep), (3, .int eq), (4, .int er), (5, .int es), (6, .int et), (7, .int eu)] → W p l e (headSpec w_M_one rm_M_one).room s m ([.ref h0, .int a0, .int ep, .int eq, .int er, .int es, .int et, .int eu] : List Value).toArray below meth c H locs 0 0 (MQ below (va_Qv (fun u => u = r0) (fun (u : Int32 × Int32 × (Nat → Int64) × (Nat → Int64) × (Nat → Int32)) t => match u with | (stp', mus', ax', au', ao') => va_P D classes ([(h0, .inr (5, [.ref q1, .ref q2, .ref q3, .ref q4, .ref q5, .int cm, .int stp', .ref q6, .ref q7, .ref q8, .int mus', .int mc_, .int mb_, .ref q9])), (q2, .inl (ct.1, 240, .inr (.inl ac))), (q6, .inl (ct.1, 6, .inr (.inl ax'))), (q7, .inl (ct.1, 3000, .inr (.inl au'))), (q8, .inl (ct.2.2, 500, .inl ao'))] ++ wt) t.heap ∧ va_D A ([(h0, .inr (5, [.ref q1, .ref q2, .ref q3, .ref q4, .ref q5, .int cm, .int stp', .ref q6, .ref q7, .ref q8, .int mus', .int mc_, .int mb_, .ref q9])), (q2, .inl (ct.1, 240, .inr (.inl ac))), (q6, .inl (ct.1, 6, .inr (.inl ax'))), (q7, .inl (ct.1, 3000, .inr (.inl au'))), (q8, .inl (ct.2.2, 500, .inl ao'))] ++ wt)) A) ([.ref h0, .int a0, .int ep, .int eq, .int er, .int es, .int et, .int eu] : List Value).toArray s 0 0 A) (F0 m 301 ls [])) → W p l e (headSpec w_M_one rm_M_one).room s m ([.ref h0, .int a0, .int ep, .int eq, .int er, .int es, .int et, .int eu] : List Value).toArray below meth c H locs 0 0 (MQ below (va_Qv (fun u => u = r0) (fun (u : Int32 × Int32 × (Nat → Int64) × (Nat → Int64) × (Nat → Int32)) t => match u with | (stp', mus', ax', au', ao') => va_P D classes ([(h0, .inr (5, [.ref q1, .ref q2, .ref q3, .ref q4, .ref q5, .int cm, .int stp', .ref q6, .ref q7, .ref q8, .int mus', .int mc_, .int mb_, .ref q9])), (q2, .inl (ct.1, 240, .inr (.inl ac))), (q6, .inl (ct.1, 6, .inr (.inl ax'))), (q7, .inl (ct.1, 3000, .inr (.inl au'))), (q8, .inl (ct.2.2, 500, .inl ao'))] ++ wt) t.heap ∧ va_D A ([(h0, .inr (5, [.ref q1, .ref q2, .ref q3, .ref q4, .ref q5, .int cm, .int stp', .ref q6, .ref q7, .ref q8, .int mus', .int mc_, .int mb_, .ref q9])), (q2, .inl (ct.1, 240, .inr (.inl ac))), (q6, .inl (ct.1, 6, .inr (.inl ax'))), (q7, .inl (ct.1, 3000, .inr (.inl au'))), (q8, .inl (ct.2.2, 500, .inl ao'))] ++ wt)) A) ([.ref h0, .int a0, .int ep, .int eq, .int er, .int es, .int et, .int eu] : List Value).toArray s 0 0 A) (F0 m 272 ls []) := by
      intro n
      induction n with
      | zero =>
        intro ii kk stp mus ax au ao ii' kk' stp' mus' ax' au' ao' h
        rw [lp_M_one_272] at h
        cases h
      | succ n ih =>
        intro ii kk stp mus ax au ao ii' kk' stp' mus' ax' au' ao' h H locs hP hD hS ls hl K
        rw [lp_M_one_272] at h
        refine lv_iload hx hb d_M_one_272 (lv_at hl 1 rfl) ?_
        refine lv_iload hx hb d_M_one_274 (lv_at hl 0 rfl) ?_
        refine lv_icmp_le (tgt := 301) hx hb d_M_one_276 (by decide) (fun c_40 => ?_) (fun c_40 => ?_)
        · rw [if_pos c_40] at h
          cases h
          exact K _ _ hP hD hS _ (lv_sub hl [0, 1, 2, 3, 4, 5, 6, 7, 8, 9] rfl)
        · rw [if_neg c_40] at h
          refine lv_aload_n hx hb d_M_one_279 rfl (lv_at hl 2 rfl) ?_
          refine va_get (D := D) (ci := 5) (v := .ref q8) (C := R_Model) (T := F_Model) (N := 14) hx hb htg i_Model hown hK hP 0 rfl rfl 9 (by decide) (htg _ tm_407) (fun _ h9 => h9) rfl d_M_one_280 ?_
          refine lv_iload hx hb d_M_one_283 (lv_at hl 1 rfl) ?_
          refine lv_aload_n hx hb d_M_one_285 rfl (lv_at hl 2 rfl) ?_
          refine va_get (D := D) (ci := 5) (v := .ref q8) (C := R_Model) (T := F_Model) (N := 14) hx hb htg i_Model hown hK hP 0 rfl rfl 9 (by decide) (htg _ tm_407) (fun _ h9 => h9) rfl d_M_one_286 ?_
          refine lv_iload hx hb d_M_one_289 (lv_at hl 1 rfl) ?_
          refine lv_iconst (v := (1 : Int32)) hx hb d_M_one_291 (by decide) ?_
          refine lv_isub hx hb d_M_one_292 ?_
          by_cases b_41 : inb (kk - (1 : Int32)) 500 = true
          rotate_left
          · rw [if_neg b_41] at h; cases h
          rw [if_pos b_41] at h
          refine va_iald hx hb hK hP 4 2 rfl rfl (inb_in b_41) d_M_one_293 ?_
          by_cases b_42 : inb kk 500 = true
          rotate_left
          · rw [if_neg b_42] at h; cases h
          rw [if_pos b_42] at h
          refine va_iast hx hb hK hP hD hS 4 2 rfl rfl (inb_in b_42) d_M_one_294 (fun H locs hP hD hS => ?_)
          have hP : va_P D classes ([(h0, .inr (5, [.ref q1, .ref q2, .ref q3, .ref q4, .ref q5, .int cm, .int stp, .ref q6, .ref q7, .ref q8, .int mus, .int mc_, .int mb_, .ref q9])), (q2, .inl (ct.1, 240, .inr (.inl ac))), (q6, .inl (ct.1, 6, .inr (.inl ax))), (q7, .inl (ct.1, 3000, .inr (.inl au))), (q8, .inl (ct.2.2, 500, .inl (upd ao kk.toNatClampNeg (ao (kk - (1 : Int32)).toNatClampNeg))))] ++ wt) H := hP
          have hD : va_D A ([(h0, .inr (5, [.ref q1, .ref q2, .ref q3, .ref q4, .ref q5, .int cm, .int stp, .ref q6, .ref q7, .ref q8, .int mus, .int mc_, .int mb_, .ref q9])), (q2, .inl (ct.1, 240, .inr (.inl ac))), (q6, .inl (ct.1, 6, .inr (.inl ax))), (q7, .inl (ct.1, 3000, .inr (.inl au))), (q8, .inl (ct.2.2, 500, .inl (upd ao kk.toNatClampNeg (ao (kk - (1 : Int32)).toNatClampNeg))))] ++ wt) := hD
          refine lv_iinc (v := kk + (-1 : Int32)) (lv' := [(9, .int (kk + (-1 : Int32))), (8, .int ii), (0, .ref h0), (1, .int a0), (2, .int ep), (3, .int eq), (4, .int er), (5, .int es), (6, .int et), (7, .int eu)]) hx hb d_M_one_295 hl (k := 1) rfl rfl (by decide) rfl (fun ls hl => ?_)
          refine lv_goto (tgt := 272) hx hb d_M_one_298 (by decide) ?_
          exact ih ii (kk + (-1 : Int32)) stp mus ax au (upd ao kk.toNatClampNeg (ao (kk - (1 : Int32)).toNatClampNeg)) _ _ _ _ _ _ _ h H locs hP hD hS ls (lv_sub hl [1, 0, 2, 3, 4, 5, 6, 7, 8, 9] rfl) K
    rcases e_50 : lp_M_one_272 ac a0 ep eq er es et eu 501 ii_32 mus_35 stp_34 mus_35 ax_36 au_37 ao_38 with _ | ⟨ii_43, kk_44, stp_45, mus_46, ax_47, au_48, ao_49⟩
    · rw [e_50] at h; cases h
    rw [e_50, Option.bind_some] at h
    try dsimp only at h
    refine L_272 501 ii_32 mus_35 stp_34 mus_35 ax_36 au_37 ao_38 ii_43 kk_44 stp_45 mus_46 ax_47 au_48 ao_49 e_50 _ _ hP hD hS ls (lv_sub hl [1, 0, 2, 3, 4, 5, 6, 7, 8, 9] rfl) (fun H locs hP hD hS ls hl => ?_)
    refine lv_aload_n hx hb d_M_one_301 rfl (lv_at hl 2 rfl) ?_
    refine va_get (D := D) (ci := 5) (v := .ref q8) (C := R_Model) (T := F_Model) (N := 14) hx hb htg i_Model hown hK hP 0 rfl rfl 9 (by decide) (htg _ tm_407) (fun _ h9 => h9) rfl d_M_one_302 ?_
    refine lv_iload hx hb d_M_one_305 (lv_at hl 0 rfl) ?_
    refine lv_iconst (v := (1 : Int32)) hx hb d_M_one_307 (by decide) ?_
    by_cases b_51 : inb ii_43 500 = true
    rotate_left
    · rw [if_neg b_51] at h; cases h
    rw [if_pos b_51] at h
    refine va_iast hx hb hK hP hD hS 4 2 rfl rfl (inb_in b_51) d_M_one_308 (fun H locs hP hD hS => ?_)
    have hP : va_P D classes ([(h0, .inr (5, [.ref q1, .ref q2, .ref q3, .ref q4, .ref q5, .int cm, .int stp_45, .ref q6, .ref q7, .ref q8, .int mus_46, .int mc_, .int mb_, .ref q9])), (q2, .inl (ct.1, 240, .inr (.inl ac))), (q6, .inl (ct.1, 6, .inr (.inl ax_47))), (q7, .inl (ct.1, 3000, .inr (.inl au_48))), (q8, .inl (ct.2.2, 500, .inl (upd ao_49 ii_43.toNatClampNeg (1 : Int32))))] ++ wt) H := hP
    have hD : va_D A ([(h0, .inr (5, [.ref q1, .ref q2, .ref q3, .ref q4, .ref q5, .int cm, .int stp_45, .ref q6, .ref q7, .ref q8, .int mus_46, .int mc_, .int mb_, .ref q9])), (q2, .inl (ct.1, 240, .inr (.inl ac))), (q6, .inl (ct.1, 6, .inr (.inl ax_47))), (q7, .inl (ct.1, 3000, .inr (.inl au_48))), (q8, .inl (ct.2.2, 500, .inl (upd ao_49 ii_43.toNatClampNeg (1 : Int32))))] ++ wt) := hD
    refine lv_iconst (v := (0 : Int32)) hx hb d_M_one_309 (by decide) ?_
    refine lv_istore (lv' := [(9, .int (0 : Int32)), (8, .int ii_43), (0, .ref h0), (1, .int a0), (2, .int ep), (3, .int eq), (4, .int er), (5, .int es), (6, .int et), (7, .int eu)]) hx hb d_M_one_310 hl (by decide) rfl (fun ls hl => ?_)
    have L_312 : ∀ (n : Nat) (ii : Int32) (kk : Int32) (stp : Int32) (mus : Int32) (ax : Nat → Int64) (au : Nat → Int64) (ao : Nat → Int32) , lp_M_one_312 ac a0 ep eq er es et eu n ii kk stp mus ax au ao = some r0 → ∀ (H : Heap) (locs : List Loc), va_P D classes ([(h0, .inr (5, [.ref q1, .ref q2, .ref q3, .ref q4, .ref q5, .int cm, .int stp, .ref q6, .ref q7, .ref q8, .int mus, .int mc_, .int mb_, .ref q9])), (q2, .inl (ct.1, 240, .inr (.inl ac))), (q6, .inl (ct.1, 6, .inr (.inl ax))), (q7, .inl (ct.1, 3000, .inr (.inl au))), (q8, .inl (ct.2.2, 500, .inl ao))] ++ wt) H → va_D A ([(h0, .inr (5, [.ref q1, .ref q2, .ref q3, .ref q4, .ref q5, .int cm, .int stp, .ref q6, .ref q7, .ref q8, .int mus, .int mc_, .int mb_, .ref q9])), (q2, .inl (ct.1, 240, .inr (.inl ac))), (q6, .inl (ct.1, 6, .inr (.inl ax))), (q7, .inl (ct.1, 3000, .inr (.inl au))), (q8, .inl (ct.2.2, 500, .inl ao))] ++ wt) → va_S A s.heap H locs → ∀ (ls : Array Slot), lv_has ls 10 [(8, .int ii), (9, .int kk), (0, .ref h0), (1, .int a0), (2, .int ep), (3, .int eq), (4, .int er), (5, .int es), (6, .int et), (7, .int eu)] → W p l e (headSpec w_M_one rm_M_one).room s m ([.ref h0, .int a0, .int ep, .int eq, .int er, .int es, .int et, .int eu] : List Value).toArray below meth c H locs 0 0 (MQ below (va_Qv (fun u => u = r0) (fun (u : Int32 × Int32 × (Nat → Int64) × (Nat → Int64) × (Nat → Int32)) t => match u with | (stp', mus', ax', au', ao') => va_P D classes ([(h0, .inr (5, [.ref q1, .ref q2, .ref q3, .ref q4, .ref q5, .int cm, .int stp', .ref q6, .ref q7, .ref q8, .int mus', .int mc_, .int mb_, .ref q9])), (q2, .inl (ct.1, 240, .inr (.inl ac))), (q6, .inl (ct.1, 6, .inr (.inl ax'))), (q7, .inl (ct.1, 3000, .inr (.inl au'))), (q8, .inl (ct.2.2, 500, .inl ao'))] ++ wt) t.heap ∧ va_D A ([(h0, .inr (5, [.ref q1, .ref q2, .ref q3, .ref q4, .ref q5, .int cm, .int stp', .ref q6, .ref q7, .ref q8, .int mus', .int mc_, .int mb_, .ref q9])), (q2, .inl (ct.1, 240, .inr (.inl ac))), (q6, .inl (ct.1, 6, .inr (.inl ax'))), (q7, .inl (ct.1, 3000, .inr (.inl au'))), (q8, .inl (ct.2.2, 500, .inl ao'))] ++ wt)) A) ([.ref h0, .int a0, .int ep, .int eq, .int er, .int es, .int et, .int eu] : List Value).toArray s 0 0 A) (F0 m 312 ls []) := by
      intro n
      induction n with
      | zero =>
        intro ii kk stp mus ax au ao  h
        rw [lp_M_one_312] at h
        cases h
      | succ n ih =>
        intro ii kk stp mus ax au ao  h H locs hP hD hS ls hl
        rw [lp_M_one_312] at h
        refine lv_iload hx hb d_M_one_312 (lv_at hl 1 rfl) ?_
        refine lv_bipush (v := (6 : Int32)) hx hb d_M_one_314 (by decide) ?_
        refine lv_icmp_ge (tgt := 345) hx hb d_M_one_316 (by decide) (fun c_52 => ?_) (fun c_52 => ?_)
        · rw [if_pos c_52] at h
          refine lv_aload_n hx hb d_M_one_345 rfl (lv_at hl 2 rfl) ?_
          refine lv_dup hx hb d_M_one_346 rfl ?_
          refine va_get (D := D) (ci := 5) (v := .int mus) (C := R_Model) (T := F_Model) (N := 14) hx hb htg i_Model hown hK hP 0 rfl rfl 10 (by decide) (htg _ tm_408) (fun _ h9 => h9) rfl d_M_one_347 ?_
          refine lv_iconst (v := (1 : Int32)) hx hb d_M_one_350 (by decide) ?_
          refine lv_iadd hx hb d_M_one_351 ?_
          refine va_put (D := D) (ci := 5) (v := .int (mus + (1 : Int32))) (ty := .int) (C := R_Model) (T := F_Model) (N := 14) hx hb htg i_Model t_Model t_Model_ok n_Model hown hK hP hD hS 0 rfl rfl 10 (by decide) (htg _ tm_408) (fun _ h9 => h9) rfl (by decide +kernel) rfl rfl (Nat.le_of_ble_eq_true rfl) d_M_one_352 (fun H locs hP hD hS => ?_)
          have hP : va_P D classes ([(h0, .inr (5, [.ref q1, .ref q2, .ref q3, .ref q4, .ref q5, .int cm, .int stp, .ref q6, .ref q7, .ref q8, .int (mus + (1 : Int32)), .int mc_, .int mb_, .ref q9])), (q2, .inl (ct.1, 240, .inr (.inl ac))), (q6, .inl (ct.1, 6, .inr (.inl ax))), (q7, .inl (ct.1, 3000, .inr (.inl au))), (q8, .inl (ct.2.2, 500, .inl ao))] ++ wt) H := hP
          have hD : va_D A ([(h0, .inr (5, [.ref q1, .ref q2, .ref q3, .ref q4, .ref q5, .int cm, .int stp, .ref q6, .ref q7, .ref q8, .int (mus + (1 : Int32)), .int mc_, .int mb_, .ref q9])), (q2, .inl (ct.1, 240, .inr (.inl ac))), (q6, .inl (ct.1, 6, .inr (.inl ax))), (q7, .inl (ct.1, 3000, .inr (.inl au))), (q8, .inl (ct.2.2, 500, .inl ao))] ++ wt) := hD
          exact W.vret hx hb hr (fun t ht hW => ⟨⟨(stp, mus + (1 : Int32), ax, au, ao), rfl, (Option.some.inj h), by rw [ht]; exact hP, hD⟩, hS.F ht⟩) hS.2.2 d_M_one_355
        · rw [if_neg c_52] at h
          refine lv_aload_n hx hb d_M_one_319 rfl (lv_at hl 2 rfl) ?_
          refine va_get (D := D) (ci := 5) (v := .ref q7) (C := R_Model) (T := F_Model) (N := 14) hx hb htg i_Model hown hK hP 0 rfl rfl 8 (by decide) (htg _ tm_406) (fun _ h9 => h9) rfl d_M_one_320 ?_
          refine lv_bipush (v := (6 : Int32)) hx hb d_M_one_323 (by decide) ?_
          refine lv_iload hx hb d_M_one_325 (lv_at hl 0 rfl) ?_
          refine lv_imul hx hb d_M_one_327 ?_
          refine lv_iload hx hb d_M_one_328 (lv_at hl 1 rfl) ?_
          refine lv_iadd hx hb d_M_one_330 ?_
          refine lv_aload_n hx hb d_M_one_331 rfl (lv_at hl 2 rfl) ?_
          refine va_get (D := D) (ci := 5) (v := .ref q6) (C := R_Model) (T := F_Model) (N := 14) hx hb htg i_Model hown hK hP 0 rfl rfl 7 (by decide) (htg _ tm_405) (fun _ h9 => h9) rfl d_M_one_332 ?_
          refine lv_iload hx hb d_M_one_335 (lv_at hl 1 rfl) ?_
          by_cases b_53 : inb kk 6 = true
          rotate_left
          · rw [if_neg b_53] at h; cases h
          rw [if_pos b_53] at h
          refine va_lald hx hb hK hP 2 0 rfl rfl (inb_in b_53) d_M_one_337 ?_
          by_cases b_54 : inb (((6 : Int32) * ii) + kk) 3000 = true
          rotate_left
          · rw [if_neg b_54] at h; cases h
          rw [if_pos b_54] at h
          refine va_last hx hb hK hP hD hS 3 0 rfl rfl (inb_in b_54) d_M_one_338 (fun H locs hP hD hS => ?_)
          have hP : va_P D classes ([(h0, .inr (5, [.ref q1, .ref q2, .ref q3, .ref q4, .ref q5, .int cm, .int stp, .ref q6, .ref q7, .ref q8, .int mus, .int mc_, .int mb_, .ref q9])), (q2, .inl (ct.1, 240, .inr (.inl ac))), (q6, .inl (ct.1, 6, .inr (.inl ax))), (q7, .inl (ct.1, 3000, .inr (.inl (vp_updL au (((6 : Int32) * ii) + kk).toNatClampNeg (ax kk.toNatClampNeg))))), (q8, .inl (ct.2.2, 500, .inl ao))] ++ wt) H := hP
          have hD : va_D A ([(h0, .inr (5, [.ref q1, .ref q2, .ref q3, .ref q4, .ref q5, .int cm, .int stp, .ref q6, .ref q7, .ref q8, .int mus, .int mc_, .int mb_, .ref q9])), (q2, .inl (ct.1, 240, .inr (.inl ac))), (q6, .inl (ct.1, 6, .inr (.inl ax))), (q7, .inl (ct.1, 3000, .inr (.inl (vp_updL au (((6 : Int32) * ii) + kk).toNatClampNeg (ax kk.toNatClampNeg))))), (q8, .inl (ct.2.2, 500, .inl ao))] ++ wt) := hD
          refine lv_iinc (v := kk + (1 : Int32)) (lv' := [(9, .int (kk + (1 : Int32))), (8, .int ii), (0, .ref h0), (1, .int a0), (2, .int ep), (3, .int eq), (4, .int er), (5, .int es), (6, .int et), (7, .int eu)]) hx hb d_M_one_339 hl (k := 1) rfl rfl (by decide) rfl (fun ls hl => ?_)
          refine lv_goto (tgt := 312) hx hb d_M_one_342 (by decide) ?_
          exact ih ii (kk + (1 : Int32)) stp mus ax (vp_updL au (((6 : Int32) * ii) + kk).toNatClampNeg (ax kk.toNatClampNeg)) ao h H locs hP hD hS ls (lv_sub hl [1, 0, 2, 3, 4, 5, 6, 7, 8, 9] rfl)
    exact L_312 8 ii_43 (0 : Int32) stp_45 mus_46 ax_47 au_48 (upd ao_49 ii_43.toNatClampNeg (1 : Int32)) h _ _ hP hD hS ls (lv_sub hl [1, 0, 2, 3, 4, 5, 6, 7, 8, 9] rfl)
  · rw [if_neg c_28] at h
    refine lv_aload_n hx hb d_M_one_197 rfl (lv_at hl 1 rfl) ?_
    refine lv_iload hx hb d_M_one_198 (lv_at hl 0 rfl) ?_
    refine lv_iconst (v := (1 : Int32)) hx hb d_M_one_200 (by decide) ?_
    refine lv_isub hx hb d_M_one_201 ?_
    rcases e_57 : f_M_comp ax_24 au_25 (ii_21 - (1 : Int32)) with _ | v_58
    · rw [e_57] at h; cases h
    rw [e_57, Option.bind_some] at h
    try dsimp only at h
    refine vp_callSi (va_Run.run (va_runV (As := [.int (ii_21 - (1 : Int32))]) (rest := []) ⟨hx, hb, hml, hown, htg⟩ (c_M_comp l D ct ([(h0, .inr (5, [.ref q1, .ref q2, .ref q3, .ref q4, .ref q5, .int cm, .int stp_22, .ref q6, .ref q7, .ref q8, .int mus_23, .int mc_, .int mb_, .ref q9])), (q2, .inl (ct.1, 240, .inr (.inl ac))), (q6, .inl (ct.1, 6, .inr (.inl ax_24))), (q7, .inl (ct.1, 3000, .inr (.inl au_25))), (q8, .inl (ct.2.2, 500, .inl ao_26))] ++ wt) 0 2 3 h0 q1 q2 q3 q4 q5 q6 q7 q8 q9 cm stp_22 mus_23 mc_ mb_ ax_24 au_25 (ii_21 - (1 : Int32)) rfl rfl rfl  _ e_57) (cwV 1 htg (giV tm_518 tm_520 tm_29 tm_34 g_M_comp) rfl rfl rfl (by decide +kernel) ⟨Nat.le_of_ble_eq_true rfl, Nat.le_of_ble_eq_true rfl⟩) (preV hP hKK (va_recv hK hP (ci := 5) (q0 := 0) rfl rfl)) rfl rfl hl.1 rfl (lv_room (Nat.le_of_ble_eq_true rfl)) d_M_one_202 ⟨Nat.le_of_ble_eq_true rfl, Nat.le_of_ble_eq_true rfl⟩)) (fun r9 hr9 => ?_)
    have hr9 := hr9.symm
    subst hr9
    refine lv_if_ne (tgt := 222) hx hb d_M_one_205 (by decide) (fun c_59 => ?_) (fun c_59 => ?_)
    · rw [if_neg c_59] at h
      refine lv_bipush (v := (6 : Int32)) hx hb d_M_one_222 (by decide) ?_
      refine lv_aload_n hx hb d_M_one_224 rfl (lv_at hl 1 rfl) ?_
      refine va_get (D := D) (ci := 5) (v := .int mus_23) (C := R_Model) (T := F_Model) (N := 14) hx hb htg i_Model hown hK hP 0 rfl rfl 10 (by decide) (htg _ tm_408) (fun _ h9 => h9) rfl d_M_one_225 ?_
      refine lv_imul hx hb d_M_one_228 ?_
      refine lv_iconst (v := (1 : Int32)) hx hb d_M_one_229 (by decide) ?_
      refine lv_isub hx hb d_M_one_230 ?_
      refine lv_istore (lv' := [(9, .int (((6 : Int32) * mus_23) - (1 : Int32))), (8, .int ii_21), (0, .ref h0), (1, .int a0), (2, .int ep), (3, .int eq), (4, .int er), (5, .int es), (6, .int et), (7, .int eu)]) hx hb d_M_one_231 hl (by decide) rfl (fun ls hl => ?_)
      have L_233 : ∀ (n : Nat) (ii : Int32) (kk : Int32) (stp : Int32) (mus : Int32) (ax : Nat → Int64) (au : Nat → Int64) (ao : Nat → Int32) (ii' : Int32) (kk' : Int32) (stp' : Int32) (mus' : Int32) (ax' : Nat → Int64) (au' : Nat → Int64) (ao' : Nat → Int32), lp_M_one_233 ac a0 ep eq er es et eu n ii kk stp mus ax au ao = some (ii', kk', stp', mus', ax', au', ao') → ∀ (H : Heap) (locs : List Loc), va_P D classes ([(h0, .inr (5, [.ref q1, .ref q2, .ref q3, .ref q4, .ref q5, .int cm, .int stp, .ref q6, .ref q7, .ref q8, .int mus, .int mc_, .int mb_, .ref q9])), (q2, .inl (ct.1, 240, .inr (.inl ac))), (q6, .inl (ct.1, 6, .inr (.inl ax))), (q7, .inl (ct.1, 3000, .inr (.inl au))), (q8, .inl (ct.2.2, 500, .inl ao))] ++ wt) H → va_D A ([(h0, .inr (5, [.ref q1, .ref q2, .ref q3, .ref q4, .ref q5, .int cm, .int stp, .ref q6, .ref q7, .ref q8, .int mus, .int mc_, .int mb_, .ref q9])), (q2, .inl (ct.1, 240, .inr (.inl ac))), (q6, .inl (ct.1, 6, .inr (.inl ax))), (q7, .inl (ct.1, 3000, .inr (.inl au))), (q8, .inl (ct.2.2, 500, .inl ao))] ++ wt) → va_S A s.heap H locs → ∀ (ls : Array Slot), lv_has ls 10 [(8, .int ii), (9, .int kk), (0, .ref h0), (1, .int a0), (2, .int ep), (3, .int eq), (4, .int er), (5, .int es), (6, .int et), (7, .int eu)] → (∀ (H : Heap) (locs : List Loc), va_P D classes ([(h0, .inr (5, [.ref q1, .ref q2, .ref q3, .ref q4, .ref q5, .int cm, .int stp', .ref q6, .ref q7, .ref q8, .int mus', .int mc_, .int mb_, .ref q9])), (q2, .inl (ct.1, 240, .inr (.inl ac))), (q6, .inl (ct.1, 6, .inr (.inl ax'))), (q7, .inl (ct.1, 3000, .inr (.inl au'))), (q8, .inl (ct.2.2, 500, .inl ao'))] ++ wt) H → va_D A ([(h0, .inr (5, [.ref q1, .ref q2, .ref q3, .ref q4, .ref q5, .int cm, .int stp', .ref q6, .ref q7, .ref q8, .int mus', .int mc_, .int mb_, .ref q9])), (q2, .inl (ct.1, 240, .inr (.inl ac))), (q6, .inl (ct.1, 6, .inr (.inl ax'))), (q7, .inl (ct.1, 3000, .inr (.inl au'))), (q8, .inl (ct.2.2, 500, .inl ao'))] ++ wt) → va_S A s.heap H locs → ∀ (ls : Array Slot), lv_has ls 10 [(8, .int ii'), (9, .int kk'), (0, .ref h0), (1, .int a0), (2, .int ep), (3, .int eq), (4, .int er), (5, .int es), (6, .int et), (7, .int eu)] → W p l e (headSpec w_M_one rm_M_one).room s m ([.ref h0, .int a0, .int ep, .int eq, .int er, .int es, .int et, .int eu] : List Value).toArray below meth c H locs 0 0 (MQ below (va_Qv (fun u => u = r0) (fun (u : Int32 × Int32 × (Nat → Int64) × (Nat → Int64) × (Nat → Int32)) t => match u with | (stp', mus', ax', au', ao') => va_P D classes ([(h0, .inr (5, [.ref q1, .ref q2, .ref q3, .ref q4, .ref q5, .int cm, .int stp', .ref q6, .ref q7, .ref q8, .int mus', .int mc_, .int mb_, .ref q9])), (q2, .inl (ct.1, 240, .inr (.inl ac))), (q6, .inl (ct.1, 6, .inr (.inl ax'))), (q7, .inl (ct.1, 3000, .inr (.inl au'))), (q8, .inl (ct.2.2, 500, .inl ao'))] ++ wt) t.heap ∧ va_D A ([(h0, .inr (5, [.ref q1, .ref q2, .ref q3, .ref q4, .ref q5, .int cm, .int stp', .ref q6, .ref q7, .ref q8, .int mus', .int mc_, .int mb_, .ref q9])), (q2, .inl (ct.1, 240, .inr (.inl ac))), (q6, .inl (ct.1, 6, .inr (.inl ax'))), (q7, .inl (ct.1, 3000, .inr (.inl au'))), (q8, .inl (ct.2.2, 500, .inl ao'))] ++ wt)) A) ([.ref h0, .int a0, .int ep, .int eq, .int er, .int es, .int et, .int eu] : List Value).toArray s 0 0 A) (F0 m 266 ls [])) → W p l e (headSpec w_M_one rm_M_one).room s m ([.ref h0, .int a0, .int ep, .int eq, .int er, .int es, .int et, .int eu] : List Value).toArray below meth c H locs 0 0 (MQ below (va_Qv (fun u => u = r0) (fun (u : Int32 × Int32 × (Nat → Int64) × (Nat → Int64) × (Nat → Int32)) t => match u with | (stp', mus', ax', au', ao') => va_P D classes ([(h0, .inr (5, [.ref q1, .ref q2, .ref q3, .ref q4, .ref q5, .int cm, .int stp', .ref q6, .ref q7, .ref q8, .int mus', .int mc_, .int mb_, .ref q9])), (q2, .inl (ct.1, 240, .inr (.inl ac))), (q6, .inl (ct.1, 6, .inr (.inl ax'))), (q7, .inl (ct.1, 3000, .inr (.inl au'))), (q8, .inl (ct.2.2, 500, .inl ao'))] ++ wt) t.heap ∧ va_D A ([(h0, .inr (5, [.ref q1, .ref q2, .ref q3, .ref q4, .ref q5, .int cm, .int stp', .ref q6, .ref q7, .ref q8, .int mus', .int mc_, .int mb_, .ref q9])), (q2, .inl (ct.1, 240, .inr (.inl ac))), (q6, .inl (ct.1, 6, .inr (.inl ax'))), (q7, .inl (ct.1, 3000, .inr (.inl au'))), (q8, .inl (ct.2.2, 500, .inl ao'))] ++ wt)) A) ([.ref h0, .int a0, .int ep, .int eq, .int er, .int es, .int et, .int eu] : List Value).toArray s 0 0 A) (F0 m 233 ls []) := by
        intro n
        induction n with
        | zero =>
          intro ii kk stp mus ax au ao ii' kk' stp' mus' ax' au' ao' h
          rw [lp_M_one_233] at h
          cases h
        | succ n ih =>
          intro ii kk stp mus ax au ao ii' kk' stp' mus' ax' au' ao' h H locs hP hD hS ls hl K
          rw [lp_M_one_233] at h
          refine lv_iload hx hb d_M_one_233 (lv_at hl 1 rfl) ?_
          refine lv_bipush (v := (6 : Int32)) hx hb d_M_one_235 (by decide) ?_
          refine lv_iload hx hb d_M_one_237 (lv_at hl 0 rfl) ?_
          refine lv_imul hx hb d_M_one_239 ?_
          refine lv_icmp_lt (tgt := 266) hx hb d_M_one_240 (by decide) (fun c_60 => ?_) (fun c_60 => ?_)
          · rw [if_pos c_60] at h
            cases h
            exact K _ _ hP hD hS _ (lv_sub hl [0, 1, 2, 3, 4, 5, 6, 7, 8, 9] rfl)
          · rw [if_neg c_60] at h
            refine lv_aload_n hx hb d_M_one_243 rfl (lv_at hl 2 rfl) ?_
            refine va_get (D := D) (ci := 5) (v := .ref q7) (C := R_Model) (T := F_Model) (N := 14) hx hb htg i_Model hown hK hP 0 rfl rfl 8 (by decide) (htg _ tm_406) (fun _ h9 => h9) rfl d_M_one_244 ?_
            refine lv_iload hx hb d_M_one_247 (lv_at hl 1 rfl) ?_
            refine lv_bipush (v := (6 : Int32)) hx hb d_M_one_249 (by decide) ?_
            refine lv_iadd hx hb d_M_one_251 ?_
            refine lv_aload_n hx hb d_M_one_252 rfl (lv_at hl 2 rfl) ?_
            refine va_get (D := D) (ci := 5) (v := .ref q7) (C := R_Model) (T := F_Model) (N := 14) hx hb htg i_Model hown hK hP 0 rfl rfl 8 (by decide) (htg _ tm_406) (fun _ h9 => h9) rfl d_M_one_253 ?_
            refine lv_iload hx hb d_M_one_256 (lv_at hl 1 rfl) ?_
            by_cases b_61 : inb kk 3000 = true
            rotate_left
            · rw [if_neg b_61] at h; cases h
            rw [if_pos b_61] at h
            refine va_lald hx hb hK hP 3 0 rfl rfl (inb_in b_61) d_M_one_258 ?_
            by_cases b_62 : inb (kk + (6 : Int32)) 3000 = true
            rotate_left
            · rw [if_neg b_62] at h; cases h
            rw [if_pos b_62] at h
            refine va_last hx hb hK hP hD hS 3 0 rfl rfl (inb_in b_62) d_M_one_259 (fun H locs hP hD hS => ?_)
            have hP : va_P D classes ([(h0, .inr (5, [.ref q1, .ref q2, .ref q3, .ref q4, .ref q5, .int cm, .int stp, .ref q6, .ref q7, .ref q8, .int mus, .int mc_, .int mb_, .ref q9])), (q2, .inl (ct.1, 240, .inr (.inl ac))), (q6, .inl (ct.1, 6, .inr (.inl ax))), (q7, .inl (ct.1, 3000, .inr (.inl (vp_updL au (kk + (6 : Int32)).toNatClampNeg (au kk.toNatClampNeg))))), (q8, .inl (ct.2.2, 500, .inl ao))] ++ wt) H := hP
            have hD : va_D A ([(h0, .inr (5, [.ref q1, .ref q2, .ref q3, .ref q4, .ref q5, .int cm, .int stp, .ref q6, .ref q7, .ref q8, .int mus, .int mc_, .int mb_, .ref q9])), (q2, .inl (ct.1, 240, .inr (.inl ac))), (q6, .inl (ct.1, 6, .inr (.inl ax))), (q7, .inl (ct.1, 3000, .inr (.inl (vp_updL au (kk + (6 : Int32)).toNatClampNeg (au kk.toNatClampNeg))))), (q8, .inl (ct.2.2, 500, .inl ao))] ++ wt) := hD
            refine lv_iinc (v := kk + (-1 : Int32)) (lv' := [(9, .int (kk + (-1 : Int32))), (8, .int ii), (0, .ref h0), (1, .int a0), (2, .int ep), (3, .int eq), (4, .int er), (5, .int es), (6, .int et), (7, .int eu)]) hx hb d_M_one_260 hl (k := 1) rfl rfl (by decide) rfl (fun ls hl => ?_)
            refine lv_goto (tgt := 233) hx hb d_M_one_263 (by decide) ?_
            exact ih ii (kk + (-1 : Int32)) stp mus ax (vp_updL au (kk + (6 : Int32)).toNatClampNeg (au kk.toNatClampNeg)) ao _ _ _ _ _ _ _ h H locs hP hD hS ls (lv_sub hl [1, 0, 2, 3, 4, 5, 6, 7, 8, 9] rfl) K
      rcases e_70 : lp_M_one_233 ac a0 ep eq er es et eu 3001 ii_21 (((6 : Int32) * mus_23) - (1 : Int32)) stp_22 mus_23 ax_24 au_25 ao_26 with _ | ⟨ii_63, kk_64, stp_65, mus_66, ax_67, au_68, ao_69⟩
      · rw [e_70] at h; cases h
      rw [e_70, Option.bind_some] at h
      try dsimp only at h
      refine L_233 3001 ii_21 (((6 : Int32) * mus_23) - (1 : Int32)) stp_22 mus_23 ax_24 au_25 ao_26 ii_63 kk_64 stp_65 mus_66 ax_67 au_68 ao_69 e_70 _ _ hP hD hS ls (lv_sub hl [1, 0, 2, 3, 4, 5, 6, 7, 8, 9] rfl) (fun H locs hP hD hS ls hl => ?_)
      refine lv_aload_n hx hb d_M_one_266 rfl (lv_at hl 2 rfl) ?_
      refine va_get (D := D) (ci := 5) (v := .int mus_66) (C := R_Model) (T := F_Model) (N := 14) hx hb htg i_Model hown hK hP 0 rfl rfl 10 (by decide) (htg _ tm_408) (fun _ h9 => h9) rfl d_M_one_267 ?_
      refine lv_istore (lv' := [(9, .int mus_66), (8, .int ii_63), (0, .ref h0), (1, .int a0), (2, .int ep), (3, .int eq), (4, .int er), (5, .int es), (6, .int et), (7, .int eu)]) hx hb d_M_one_270 hl (by decide) rfl (fun ls hl => ?_)
      have L_272 : ∀ (n : Nat) (ii : Int32) (kk : Int32) (stp : Int32) (mus : Int32) (ax : Nat → Int64) (au : Nat → Int64) (ao : Nat → Int32) (ii' : Int32) (kk' : Int32) (stp' : Int32) (mus' : Int32) (ax' : Nat → Int64) (au' : Nat → Int64) (ao' : Nat → Int32), lp_M_one_272 ac a0 ep eq er es et eu n ii kk stp mus ax au ao = some (ii', kk', stp', mus', ax', au', ao') → ∀ (H : Heap) (locs : List Loc), va_P D classes ([(h0, .inr (5, [.ref q1, .ref q2, .ref q3, .ref q4, .ref q5, .int cm, .int stp, .ref q6, .ref q7, .ref q8, .int mus, .int mc_, .int mb_, .ref q9])), (q2, .inl (ct.1, 240, .inr (.inl ac))), (q6, .inl (ct.1, 6, .inr (.inl ax))), (q7, .inl (ct.1, 3000, .inr (.inl au))), (q8, .inl (ct.2.2, 500, .inl ao))] ++ wt) H → va_D A ([(h0, .inr (5, [.ref q1, .ref q2, .ref q3, .ref q4, .ref q5, .int cm, .int stp, .ref q6, .ref q7, .ref q8, .int mus, .int mc_, .int mb_, .ref q9])), (q2, .inl (ct.1, 240, .inr (.inl ac))), (q6, .inl (ct.1, 6, .inr (.inl ax))), (q7, .inl (ct.1, 3000, .inr (.inl au))), (q8, .inl (ct.2.2, 500, .inl ao))] ++ wt) → va_S A s.heap H locs → ∀ (ls : Array Slot), lv_has ls 10 [(8, .int ii), (9, .int kk), (0, .ref h0), (1, .int a0), (2, .int ep), (3, .int eq), (4, .int er), (5, .int es), (6, .int et), (7, .int eu)] → (∀ (H : Heap) (locs : List Loc), va_P D classes ([(h0, .inr (5, [.ref q1, .ref q2, .ref q3, .ref q4, .ref q5, .int cm, .int stp', .ref q6, .ref q7, .ref q8, .int mus', .int mc_, .int mb_, .ref q9])), (q2, .inl (ct.1, 240, .inr (.inl ac))), (q6, .inl (ct.1, 6, .inr (.inl ax'))), (q7, .inl (ct.1, 3000, .inr (.inl au'))), (q8, .inl (ct.2.2, 500, .inl ao'))] ++ wt) H → va_D A ([(h0, .inr (5, [.ref q1, .ref q2, .ref q3, .ref q4, .ref q5, .int cm, .int stp', .ref q6, .ref q7, .ref q8, .int mus', .int mc_, .int mb_, .ref q9])), (q2, .inl (ct.1, 240, .inr (.inl ac))), (q6, .inl (ct.1, 6, .inr (.inl ax'))), (q7, .inl (ct.1, 3000, .inr (.inl au'))), (q8, .inl (ct.2.2, 500, .inl ao'))] ++ wt) → va_S A s.heap H locs → ∀ (ls : Array Slot), lv_has ls 10 [(8, .int ii'), (9, .int kk'), (0, .ref h0), (1, .int a0), (2, .int ep), (3, .int eq), (4, .int er), (5, .int es), (6, .int et), (7, .int eu)] → W p l e (headSpec w_M_one rm_M_one).room s m ([.ref h0, .int a0, .int ep, .int eq, .int er, .int es, .int et, .int eu] : List Value).toArray below meth c H locs 0 0 (MQ below (va_Qv (fun u => u = r0) (fun (u : Int32 × Int32 × (Nat → Int64) × (Nat → Int64) × (Nat → Int32)) t => match u with | (stp', mus', ax', au', ao') => va_P D classes ([(h0, .inr (5, [.ref q1, .ref q2, .ref q3, .ref q4, .ref q5, .int cm, .int stp', .ref q6, .ref q7, .ref q8, .int mus', .int mc_, .int mb_, .ref q9])), (q2, .inl (ct.1, 240, .inr (.inl ac))), (q6, .inl (ct.1, 6, .inr (.inl ax'))), (q7, .inl (ct.1, 3000, .inr (.inl au'))), (q8, .inl (ct.2.2, 500, .inl ao'))] ++ wt) t.heap ∧ va_D A ([(h0, .inr (5, [.ref q1, .ref q2, .ref q3, .ref q4, .ref q5, .int cm, .int stp', .ref q6, .ref q7, .ref q8, .int mus', .int mc_, .int mb_, .ref q9])), (q2, .inl (ct.1, 240, .inr (.inl ac))), (q6, .inl (ct.1, 6, .inr (.inl ax'))), (q7, .inl (ct.1, 3000, .inr (.inl au'))), (q8, .inl (ct.2.2, 500, .inl ao'))] ++ wt)) A) ([.ref h0, .int a0, .int ep, .int eq, .int er, .int es, .int et, .int eu] : List Value).toArray s 0 0 A) (F0 m 301 ls [])) → W p l e (headSpec w_M_one rm_M_one).room s m ([.ref h0, .int a0, .int ep, .int eq, .int er, .int es, .int et, .int eu] : List Value).toArray below meth c H locs 0 0 (MQ below (va_Qv (fun u => u = r0) (fun (u : Int32 × Int32 × (Nat → Int64) × (Nat → Int64) × (Nat → Int32)) t => match u with | (stp', mus', ax', au', ao') => va_P D classes ([(h0, .inr (5, [.ref q1, .ref q2, .ref q3, .ref q4, .ref q5, .int cm, .int stp', .ref q6, .ref q7, .ref q8, .int mus', .int mc_, .int mb_, .ref q9])), (q2, .inl (ct.1, 240, .inr (.inl ac))), (q6, .inl (ct.1, 6, .inr (.inl ax'))), (q7, .inl (ct.1, 3000, .inr (.inl au'))), (q8, .inl (ct.2.2, 500, .inl ao'))] ++ wt) t.heap ∧ va_D A ([(h0, .inr (5, [.ref q1, .ref q2, .ref q3, .ref q4, .ref q5, .int cm, .int stp', .ref q6, .ref q7, .ref q8, .int mus', .int mc_, .int mb_, .ref q9])), (q2, .inl (ct.1, 240, .inr (.inl ac))), (q6, .inl (ct.1, 6, .inr (.inl ax'))), (q7, .inl (ct.1, 3000, .inr (.inl au'))), (q8, .inl (ct.2.2, 500, .inl ao'))] ++ wt)) A) ([.ref h0, .int a0, .int ep, .int eq, .int er, .int es, .int et, .int eu] : List Value).toArray s 0 0 A) (F0 m 272 ls []) := by
        intro n
        induction n with
        | zero =>
          intro ii kk stp mus ax au ao ii' kk' stp' mus' ax' au' ao' h
          rw [lp_M_one_272] at h
          cases h
        | succ n ih =>
          intro ii kk stp mus ax au ao ii' kk' stp' mus' ax' au' ao' h H locs hP hD hS ls hl K
          rw [lp_M_one_272] at h
          refine lv_iload hx hb d_M_one_272 (lv_at hl 1 rfl) ?_
          refine lv_iload hx hb d_M_one_274 (lv_at hl 0 rfl) ?_
          refine lv_icmp_le (tgt := 301) hx hb d_M_one_276 (by decide) (fun c_71 => ?_) (fun c_71 => ?_)
          · rw [if_pos c_71] at h
            cases h
            exact K _ _ hP hD hS _ (lv_sub hl [0, 1, 2, 3, 4, 5, 6, 7, 8, 9] rfl)
          · rw [if_neg c_71] at h
            refine lv_aload_n hx hb d_M_one_279 rfl (lv_at hl 2 rfl) ?_
            refine va_get (D := D) (ci := 5) (v := .ref q8) (C := R_Model) (T := F_Model) (N := 14) hx hb htg i_Model hown hK hP 0 rfl rfl 9 (by decide) (htg _ tm_407) (fun _ h9 => h9) rfl d_M_one_280 ?_
            refine lv_iload hx hb d_M_one_283 (lv_at hl 1 rfl) ?_
            refine lv_aload_n hx hb d_M_one_285 rfl (lv_at hl 2 rfl) ?_
            refine va_get (D := D) (ci := 5) (v := .ref q8) (C := R_Model) (T := F_Model) (N := 14) hx hb htg i_Model hown hK hP 0 rfl rfl 9 (by decide) (htg _ tm_407) (fun _ h9 => h9) rfl d_M_one_286 ?_
            refine lv_iload hx hb d_M_one_289 (lv_at hl 1 rfl) ?_
            refine lv_iconst (v := (1 : Int32)) hx hb d_M_one_291 (by decide) ?_
            refine lv_isub hx hb d_M_one_292 ?_
            by_cases b_72 : inb (kk - (1 : Int32)) 500 = true
            rotate_left
            · rw [if_neg b_72] at h; cases h
            rw [if_pos b_72] at h
            refine va_iald hx hb hK hP 4 2 rfl rfl (inb_in b_72) d_M_one_293 ?_
            by_cases b_73 : inb kk 500 = true
            rotate_left
            · rw [if_neg b_73] at h; cases h
            rw [if_pos b_73] at h
            refine va_iast hx hb hK hP hD hS 4 2 rfl rfl (inb_in b_73) d_M_one_294 (fun H locs hP hD hS => ?_)
            have hP : va_P D classes ([(h0, .inr (5, [.ref q1, .ref q2, .ref q3, .ref q4, .ref q5, .int cm, .int stp, .ref q6, .ref q7, .ref q8, .int mus, .int mc_, .int mb_, .ref q9])), (q2, .inl (ct.1, 240, .inr (.inl ac))), (q6, .inl (ct.1, 6, .inr (.inl ax))), (q7, .inl (ct.1, 3000, .inr (.inl au))), (q8, .inl (ct.2.2, 500, .inl (upd ao kk.toNatClampNeg (ao (kk - (1 : Int32)).toNatClampNeg))))] ++ wt) H := hP
            have hD : va_D A ([(h0, .inr (5, [.ref q1, .ref q2, .ref q3, .ref q4, .ref q5, .int cm, .int stp, .ref q6, .ref q7, .ref q8, .int mus, .int mc_, .int mb_, .ref q9])), (q2, .inl (ct.1, 240, .inr (.inl ac))), (q6, .inl (ct.1, 6, .inr (.inl ax))), (q7, .inl (ct.1, 3000, .inr (.inl au))), (q8, .inl (ct.2.2, 500, .inl (upd ao kk.toNatClampNeg (ao (kk - (1 : Int32)).toNatClampNeg))))] ++ wt) := hD
            refine lv_iinc (v := kk + (-1 : Int32)) (lv' := [(9, .int (kk + (-1 : Int32))), (8, .int ii), (0, .ref h0), (1, .int a0), (2, .int ep), (3, .int eq), (4, .int er), (5, .int es), (6, .int et), (7, .int eu)]) hx hb d_M_one_295 hl (k := 1) rfl rfl (by decide) rfl (fun ls hl => ?_)
            refine lv_goto (tgt := 272) hx hb d_M_one_298 (by decide) ?_
            exact ih ii (kk + (-1 : Int32)) stp mus ax au (upd ao kk.toNatClampNeg (ao (kk - (1 : Int32)).toNatClampNeg)) _ _ _ _ _ _ _ h H locs hP hD hS ls (lv_sub hl [1, 0, 2, 3, 4, 5, 6, 7, 8, 9] rfl) K
      rcases e_81 : lp_M_one_272 ac a0 ep eq er es et eu 501 ii_63 mus_66 stp_65 mus_66 ax_67 au_68 ao_69 with _ | ⟨ii_74, kk_75, stp_76, mus_77, ax_78, au_79, ao_80⟩
      · rw [e_81] at h; cases h
      rw [e_81, Option.bind_some] at h
      try dsimp only at h
      refine L_272 501 ii_63 mus_66 stp_65 mus_66 ax_67 au_68 ao_69 ii_74 kk_75 stp_76 mus_77 ax_78 au_79 ao_80 e_81 _ _ hP hD hS ls (lv_sub hl [1, 0, 2, 3, 4, 5, 6, 7, 8, 9] rfl) (fun H locs hP hD hS ls hl => ?_)
      refine lv_aload_n hx hb d_M_one_301 rfl (lv_at hl 2 rfl) ?_
      refine va_get (D := D) (ci := 5) (v := .ref q8) (C := R_Model) (T := F_Model) (N := 14) hx hb htg i_Model hown hK hP 0 rfl rfl 9 (by decide) (htg _ tm_407) (fun _ h9 => h9) rfl d_M_one_302 ?_
      refine lv_iload hx hb d_M_one_305 (lv_at hl 0 rfl) ?_
      refine lv_iconst (v := (1 : Int32)) hx hb d_M_one_307 (by decide) ?_
      by_cases b_82 : inb ii_74 500 = true
      rotate_left
      · rw [if_neg b_82] at h; cases h
      rw [if_pos b_82] at h
      refine va_iast hx hb hK hP hD hS 4 2 rfl rfl (inb_in b_82) d_M_one_308 (fun H locs hP hD hS => ?_)
      have hP : va_P D classes ([(h0, .inr (5, [.ref q1, .ref q2, .ref q3, .ref q4, .ref q5, .int cm, .int stp_76, .ref q6, .ref q7, .ref q8, .int mus_77, .int mc_, .int mb_, .ref q9])), (q2, .inl (ct.1, 240, .inr (.inl ac))), (q6, .inl (ct.1, 6, .inr (.inl ax_78))), (q7, .inl (ct.1, 3000, .inr (.inl au_79))), (q8, .inl (ct.2.2, 500, .inl (upd ao_80 ii_74.toNatClampNeg (1 : Int32))))] ++ wt) H := hP
      have hD : va_D A ([(h0, .inr (5, [.ref q1, .ref q2, .ref q3, .ref q4, .ref q5, .int cm, .int stp_76, .ref q6, .ref q7, .ref q8, .int mus_77, .int mc_, .int mb_, .ref q9])), (q2, .inl (ct.1, 240, .inr (.inl ac))), (q6, .inl (ct.1, 6, .inr (.inl ax_78))), (q7, .inl (ct.1, 3000, .inr (.inl au_79))), (q8, .inl (ct.2.2, 500, .inl (upd ao_80 ii_74.toNatClampNeg (1 : Int32))))] ++ wt) := hD
      refine lv_iconst (v := (0 : Int32)) hx hb d_M_one_309 (by decide) ?_
      refine lv_istore (lv' := [(9, .int (0 : Int32)), (8, .int ii_74), (0, .ref h0), (1, .int a0), (2, .int ep), (3, .int eq), (4, .int er), (5, .int es), (6, .int et), (7, .int eu)]) hx hb d_M_one_310 hl (by decide) rfl (fun ls hl => ?_)
      have L_312 : ∀ (n : Nat) (ii : Int32) (kk : Int32) (stp : Int32) (mus : Int32) (ax : Nat → Int64) (au : Nat → Int64) (ao : Nat → Int32) , lp_M_one_312 ac a0 ep eq er es et eu n ii kk stp mus ax au ao = some r0 → ∀ (H : Heap) (locs : List Loc), va_P D classes ([(h0, .inr (5, [.ref q1, .ref q2, .ref q3, .ref q4, .ref q5, .int cm, .int stp, .ref q6, .ref q7, .ref q8, .int mus, .int mc_, .int mb_, .ref q9])), (q2, .inl (ct.1, 240, .inr (.inl ac))), (q6, .inl (ct.1, 6, .inr (.inl ax))), (q7, .inl (ct.1, 3000, .inr (.inl au))), (q8, .inl (ct.2.2, 500, .inl ao))] ++ wt) H → va_D A ([(h0, .inr (5, [.ref q1, .ref q2, .ref q3, .ref q4, .ref q5, .int cm, .int stp, .ref q6, .ref q7, .ref q8, .int mus, .int mc_, .int mb_, .ref q9])), (q2, .inl (ct.1, 240, .inr (.inl ac))), (q6, .inl (ct.1, 6, .inr (.inl ax))), (q7, .inl (ct.1, 3000, .inr (.inl au))), (q8, .inl (ct.2.2, 500, .inl ao))] ++ wt) → va_S A s.heap H locs → ∀ (ls : Array Slot), lv_has ls 10 [(8, .int ii), (9, .int kk), (0, .ref h0), (1, .int a0), (2, .int ep), (3, .int eq), (4, .int er), (5, .int es), (6, .int et), (7, .int eu)] → W p l e (headSpec w_M_one rm_M_one).room s m ([.ref h0, .int a0, .int ep, .int eq, .int er, .int es, .int et, .int eu] : List Value).toArray below meth c H locs 0 0 (MQ below (va_Qv (fun u => u = r0) (fun (u : Int32 × Int32 × (Nat → Int64) × (Nat → Int64) × (Nat → Int32)) t => match u with | (stp', mus', ax', au', ao') => va_P D classes ([(h0, .inr (5, [.ref q1, .ref q2, .ref q3, .ref q4, .ref q5, .int cm, .int stp', .ref q6, .ref q7, .ref q8, .int mus', .int mc_, .int mb_, .ref q9])), (q2, .inl (ct.1, 240, .inr (.inl ac))), (q6, .inl (ct.1, 6, .inr (.inl ax'))), (q7, .inl (ct.1, 3000, .inr (.inl au'))), (q8, .inl (ct.2.2, 500, .inl ao'))] ++ wt) t.heap ∧ va_D A ([(h0, .inr (5, [.ref q1, .ref q2, .ref q3, .ref q4, .ref q5, .int cm, .int stp', .ref q6, .ref q7, .ref q8, .int mus', .int mc_, .int mb_, .ref q9])), (q2, .inl (ct.1, 240, .inr (.inl ac))), (q6, .inl (ct.1, 6, .inr (.inl ax'))), (q7, .inl (ct.1, 3000, .inr (.inl au'))), (q8, .inl (ct.2.2, 500, .inl ao'))] ++ wt)) A) ([.ref h0, .int a0, .int ep, .int eq, .int er, .int es, .int et, .int eu] : List Value).toArray s 0 0 A) (F0 m 312 ls []) := by
        intro n
        induction n with
        | zero =>
          intro ii kk stp mus ax au ao  h
          rw [lp_M_one_312] at h
          cases h
        | succ n ih =>
          intro ii kk stp mus ax au ao  h H locs hP hD hS ls hl
          rw [lp_M_one_312] at h
          refine lv_iload hx hb d_M_one_312 (lv_at hl 1 rfl) ?_
          refine lv_bipush (v := (6 : Int32)) hx hb d_M_one_314 (by decide) ?_
          refine lv_icmp_ge (tgt := 345) hx hb d_M_one_316 (by decide) (fun c_83 => ?_) (fun c_83 => ?_)
          · rw [if_pos c_83] at h
            refine lv_aload_n hx hb d_M_one_345 rfl (lv_at hl 2 rfl) ?_
            refine lv_dup hx hb d_M_one_346 rfl ?_
            refine va_get (D := D) (ci := 5) (v := .int mus) (C := R_Model) (T := F_Model) (N := 14) hx hb htg i_Model hown hK hP 0 rfl rfl 10 (by decide) (htg _ tm_408) (fun _ h9 => h9) rfl d_M_one_347 ?_
            refine lv_iconst (v := (1 : Int32)) hx hb d_M_one_350 (by decide) ?_
            refine lv_iadd hx hb d_M_one_351 ?_
            refine va_put (D := D) (ci := 5) (v := .int (mus + (1 : Int32))) (ty := .int) (C := R_Model) (T := F_Model) (N := 14) hx hb htg i_Model t_Model t_Model_ok n_Model hown hK hP hD hS 0 rfl rfl 10 (by decide) (htg _ tm_408) (fun _ h9 => h9) rfl (by decide +kernel) rfl rfl (Nat.le_of_ble_eq_true rfl) d_M_one_352 (fun H locs hP hD hS => ?_)
            have hP : va_P D classes ([(h0, .inr (5, [.ref q1, .ref q2, .ref q3, .ref q4, .ref q5, .int cm, .int stp, .ref q6, .ref q7, .ref q8, .int (mus + (1 : Int32)), .int mc_, .int mb_, .ref q9])), (q2, .inl (ct.1, 240, .inr (.inl ac))), (q6, .inl (ct.1, 6, .inr (.inl ax))), (q7, .inl (ct.1, 3000, .inr (.inl au))), (q8, .inl (ct.2.2, 500, .inl ao))] ++ wt) H := hP
            have hD : va_D A ([(h0, .inr (5, [.ref q1, .ref q2, .ref q3, .ref q4, .ref q5, .int cm, .int stp, .ref q6, .ref q7, .ref q8, .int (mus + (1 : Int32)), .int mc_, .int mb_, .ref q9])), (q2, .inl (ct.1, 240, .inr (.inl ac))), (q6, .inl (ct.1, 6, .inr (.inl ax))), (q7, .inl (ct.1, 3000, .inr (.inl au))), (q8, .inl (ct.2.2, 500, .inl ao))] ++ wt) := hD
            exact W.vret hx hb hr (fun t ht hW => ⟨⟨(stp, mus + (1 : Int32), ax, au, ao), rfl, (Option.some.inj h), by rw [ht]; exact hP, hD⟩, hS.F ht⟩) hS.2.2 d_M_one_355
          · rw [if_neg c_83] at h
            refine lv_aload_n hx hb d_M_one_319 rfl (lv_at hl 2 rfl) ?_
            refine va_get (D := D) (ci := 5) (v := .ref q7) (C := R_Model) (T := F_Model) (N := 14) hx hb htg i_Model hown hK hP 0 rfl rfl 8 (by decide) (htg _ tm_406) (fun _ h9 => h9) rfl d_M_one_320 ?_
            refine lv_bipush (v := (6 : Int32)) hx hb d_M_one_323 (by decide) ?_
            refine lv_iload hx hb d_M_one_325 (lv_at hl 0 rfl) ?_
            refine lv_imul hx hb d_M_one_327 ?_
            refine lv_iload hx hb d_M_one_328 (lv_at hl 1 rfl) ?_
            refine lv_iadd hx hb d_M_one_330 ?_
            refine lv_aload_n hx hb d_M_one_331 rfl (lv_at hl 2 rfl) ?_
            refine va_get (D := D) (ci := 5) (v := .ref q6) (C := R_Model) (T := F_Model) (N := 14) hx hb htg i_Model hown hK hP 0 rfl rfl 7 (by decide) (htg _ tm_405) (fun _ h9 => h9) rfl d_M_one_332 ?_
            refine lv_iload hx hb d_M_one_335 (lv_at hl 1 rfl) ?_
            by_cases b_84 : inb kk 6 = true
            rotate_left
            · rw [if_neg b_84] at h; cases h
            rw [if_pos b_84] at h
            refine va_lald hx hb hK hP 2 0 rfl rfl (inb_in b_84) d_M_one_337 ?_
            by_cases b_85 : inb (((6 : Int32) * ii) + kk) 3000 = true
            rotate_left
            · rw [if_neg b_85] at h; cases h
            rw [if_pos b_85] at h
            refine va_last hx hb hK hP hD hS 3 0 rfl rfl (inb_in b_85) d_M_one_338 (fun H locs hP hD hS => ?_)
            have hP : va_P D classes ([(h0, .inr (5, [.ref q1, .ref q2, .ref q3, .ref q4, .ref q5, .int cm, .int stp, .ref q6, .ref q7, .ref q8, .int mus, .int mc_, .int mb_, .ref q9])), (q2, .inl (ct.1, 240, .inr (.inl ac))), (q6, .inl (ct.1, 6, .inr (.inl ax))), (q7, .inl (ct.1, 3000, .inr (.inl (vp_updL au (((6 : Int32) * ii) + kk).toNatClampNeg (ax kk.toNatClampNeg))))), (q8, .inl (ct.2.2, 500, .inl ao))] ++ wt) H := hP
            have hD : va_D A ([(h0, .inr (5, [.ref q1, .ref q2, .ref q3, .ref q4, .ref q5, .int cm, .int stp, .ref q6, .ref q7, .ref q8, .int mus, .int mc_, .int mb_, .ref q9])), (q2, .inl (ct.1, 240, .inr (.inl ac))), (q6, .inl (ct.1, 6, .inr (.inl ax))), (q7, .inl (ct.1, 3000, .inr (.inl (vp_updL au (((6 : Int32) * ii) + kk).toNatClampNeg (ax kk.toNatClampNeg))))), (q8, .inl (ct.2.2, 500, .inl ao))] ++ wt) := hD
            refine lv_iinc (v := kk + (1 : Int32)) (lv' := [(9, .int (kk + (1 : Int32))), (8, .int ii), (0, .ref h0), (1, .int a0), (2, .int ep), (3, .int eq), (4, .int er), (5, .int es), (6, .int et), (7, .int eu)]) hx hb d_M_one_339 hl (k := 1) rfl rfl (by decide) rfl (fun ls hl => ?_)
            refine lv_goto (tgt := 312) hx hb d_M_one_342 (by decide) ?_
            exact ih ii (kk + (1 : Int32)) stp mus ax (vp_updL au (((6 : Int32) * ii) + kk).toNatClampNeg (ax kk.toNatClampNeg)) ao h H locs hP hD hS ls (lv_sub hl [1, 0, 2, 3, 4, 5, 6, 7, 8, 9] rfl)
      exact L_312 8 ii_74 (0 : Int32) stp_76 mus_77 ax_78 au_79 (upd ao_80 ii_74.toNatClampNeg (1 : Int32)) h _ _ hP hD hS ls (lv_sub hl [1, 0, 2, 3, 4, 5, 6, 7, 8, 9] rfl)
    · rw [if_pos c_59] at h
      refine lv_aload_n hx hb d_M_one_208 rfl (lv_at hl 1 rfl) ?_
      refine va_get (D := D) (ci := 5) (v := .ref q8) (C := R_Model) (T := F_Model) (N := 14) hx hb htg i_Model hown hK hP 0 rfl rfl 9 (by decide) (htg _ tm_407) (fun _ h9 => h9) rfl d_M_one_209 ?_
      refine lv_iload hx hb d_M_one_212 (lv_at hl 0 rfl) ?_
      refine lv_iconst (v := (1 : Int32)) hx hb d_M_one_214 (by decide) ?_
      refine lv_isub hx hb d_M_one_215 ?_
      refine lv_dup2_11 hx hb d_M_one_216 rfl rfl ?_
      by_cases b_88 : inb (ii_21 - (1 : Int32)) 500 = true
      rotate_left
      · rw [if_neg b_88] at h; cases h
      rw [if_pos b_88] at h
      refine va_iald hx hb hK hP 4 2 rfl rfl (inb_in b_88) d_M_one_217 ?_
      refine lv_iconst (v := (1 : Int32)) hx hb d_M_one_218 (by decide) ?_
      refine lv_iadd hx hb d_M_one_219 ?_
      by_cases b_89 : inb (ii_21 - (1 : Int32)) 500 = true
      rotate_left
      · rw [if_neg b_89] at h; cases h
      rw [if_pos b_89] at h
      refine va_iast hx hb hK hP hD hS 4 2 rfl rfl (inb_in b_89) d_M_one_220 (fun H locs hP hD hS => ?_)
      have hP : va_P D classes ([(h0, .inr (5, [.ref q1, .ref q2, .ref q3, .ref q4, .ref q5, .int cm, .int stp_22, .ref q6, .ref q7, .ref q8, .int mus_23, .int mc_, .int mb_, .ref q9])), (q2, .inl (ct.1, 240, .inr (.inl ac))), (q6, .inl (ct.1, 6, .inr (.inl ax_24))), (q7, .inl (ct.1, 3000, .inr (.inl au_25))), (q8, .inl (ct.2.2, 500, .inl (upd ao_26 (ii_21 - (1 : Int32)).toNatClampNeg ((ao_26 (ii_21 - (1 : Int32)).toNatClampNeg) + (1 : Int32)))))] ++ wt) H := hP
      have hD : va_D A ([(h0, .inr (5, [.ref q1, .ref q2, .ref q3, .ref q4, .ref q5, .int cm, .int stp_22, .ref q6, .ref q7, .ref q8, .int mus_23, .int mc_, .int mb_, .ref q9])), (q2, .inl (ct.1, 240, .inr (.inl ac))), (q6, .inl (ct.1, 6, .inr (.inl ax_24))), (q7, .inl (ct.1, 3000, .inr (.inl au_25))), (q8, .inl (ct.2.2, 500, .inl (upd ao_26 (ii_21 - (1 : Int32)).toNatClampNeg ((ao_26 (ii_21 - (1 : Int32)).toNatClampNeg) + (1 : Int32)))))] ++ wt) := hD
      exact W.vret hx hb hr (fun t ht hW => ⟨⟨(stp_22, mus_23, ax_24, au_25, upd ao_26 (ii_21 - (1 : Int32)).toNatClampNeg ((ao_26 (ii_21 - (1 : Int32)).toNatClampNeg) + (1 : Int32))), rfl, (Option.some.inj h), by rw [ht]; exact hP, hD⟩, hS.F ht⟩) hS.2.2 d_M_one_221
-- CellBenchModel multiply (II)V
def lp_M_mult_100 (ac : Nat → Int64) (cl : Int32) (nn : Int32) : Nat → Int32 → Int32 → Int32 → Int32 → Int32 → Int32 → Int32 → Int32 → (Nat → Int64) → (Nat → Int64) → (Nat → Int32) → Int32 → Int32 → Option (Int32 × Int32 × Int32 × Int32 × Int32 × Int32 × Int32 × Int32 × (Nat → Int64) × (Nat → Int64) × (Nat → Int32) × Int32 × Int32)
  | 0, _, _, _, _, _, _, _, _, _, _, _, _, _ => none
  | n + 1, lp_, lr, lu, lq, ls_, lt, stp, mus, ax, au, ao, mc_, mb_ =>
    if lr ≤ lt then (some (lp_, lr, lu, lq, ls_, lt, stp, mus, ax, au, ao, mc_, mb_)) else (Option.bind (f_M_one ac stp mus ax au ao ((6 : Int32) * cl) lp_ lq lr ls_ lt lu) (fun z_21 => (lp_M_mult_100 ac cl nn n lp_ lr lu lq ls_ (lt + (1 : Int32)) z_21.1 z_21.2.1 z_21.2.2.1 z_21.2.2.2.1 z_21.2.2.2.2 mc_ mb_)))
def lp_M_mult_91 (ac : Nat → Int64) (cl : Int32) (nn : Int32) : Nat → Int32 → Int32 → Int32 → Int32 → Int32 → Int32 → Int32 → (Nat → Int64) → (Nat → Int64) → (Nat → Int32) → Int32 → Int32 → Option (Int32 × Int32 × Int32 × Int32 × Int32 × Int32 × Int32 × (Nat → Int64) × (Nat → Int64) × (Nat → Int32) × Int32 × Int32)
  | 0, _, _, _, _, _, _, _, _, _, _, _, _ => none
  | n + 1, lp_, lr, lu, lq, ls_, stp, mus, ax, au, ao, mc_, mb_ =>
    if lp_ ≤ ls_ then (some (lp_, lr, lu, lq, ls_, stp, mus, ax, au, ao, mc_, mb_)) else (Option.bind (lp_M_mult_100 ac cl nn 20 lp_ lr lu lq ls_ (0 : Int32) stp mus ax au ao mc_ mb_) (fun z_36 => (lp_M_mult_91 ac cl nn n z_36.1 z_36.2.1 z_36.2.2.1 z_36.2.2.2.1 (z_36.2.2.2.2.1 + (1 : Int32)) z_36.2.2.2.2.2.2.1 z_36.2.2.2.2.2.2.2.1 z_36.2.2.2.2.2.2.2.2.1 z_36.2.2.2.2.2.2.2.2.2.1 z_36.2.2.2.2.2.2.2.2.2.2.1 z_36.2.2.2.2.2.2.2.2.2.2.2.1 z_36.2.2.2.2.2.2.2.2.2.2.2.2)))
def lp_M_mult_82 (ac : Nat → Int64) (cl : Int32) (nn : Int32) : Nat → Int32 → Int32 → Int32 → Int32 → Int32 → Int32 → (Nat → Int64) → (Nat → Int64) → (Nat → Int32) → Int32 → Int32 → Option (Int32 × Int32 × Int32 × Int32 × Int32 × Int32 × (Nat → Int64) × (Nat → Int64) × (Nat → Int32) × Int32 × Int32)
  | 0, _, _, _, _, _, _, _, _, _, _, _ => none
  | n + 1, lp_, lr, lu, lq, stp, mus, ax, au, ao, mc_, mb_ =>
    if lp_ ≤ lq then (some (lp_, lr, lu, lq, stp, mus, ax, au, ao, mc_, mb_)) else (Option.bind (lp_M_mult_91 ac cl nn 20 lp_ lr lu lq (0 : Int32) stp mus ax au ao mc_ mb_) (fun z_50 => (lp_M_mult_82 ac cl nn n z_50.1 z_50.2.1 z_50.2.2.1 (z_50.2.2.2.1 + (1 : Int32)) z_50.2.2.2.2.2.1 z_50.2.2.2.2.2.2.1 z_50.2.2.2.2.2.2.2.1 z_50.2.2.2.2.2.2.2.2.1 z_50.2.2.2.2.2.2.2.2.2.1 z_50.2.2.2.2.2.2.2.2.2.2.1 z_50.2.2.2.2.2.2.2.2.2.2.2)))
def lp_M_mult_51 (ac : Nat → Int64) (cl : Int32) (nn : Int32) : Nat → Int32 → Int32 → Int32 → Int32 → (Nat → Int64) → (Nat → Int64) → (Nat → Int32) → Int32 → Int32 → Option (Int32 × Int32 × Int32 × Int32 × (Nat → Int64) × (Nat → Int64) × (Nat → Int32) × Int32 × Int32)
  | 0, _, _, _, _, _, _, _, _, _ => none
  | n + 1, lp_, lr, stp, mus, ax, au, ao, mc_, mb_ =>
    if lp_ = 0 then none else (if (nn / lp_) < lr then (some (lp_, lr, stp, mus, ax, au, ao, mc_, mb_)) else (if lp_ = 0 then none else (if lr = 0 then none else (if ((nn / lp_) - (nn / lp_) / lr * lr) = 0 then (if lp_ = 0 then none else (if lr = 0 then none else (Option.bind (lp_M_mult_82 ac cl nn 20 lp_ lr ((nn / lp_) / lr) (0 : Int32) stp mus ax au ao mc_ mb_) (fun z_63 => (lp_M_mult_51 ac cl nn n z_63.1 (z_63.2.1 + (1 : Int32)) z_63.2.2.2.2.1 z_63.2.2.2.2.2.1 z_63.2.2.2.2.2.2.1 z_63.2.2.2.2.2.2.2.1 z_63.2.2.2.2.2.2.2.2.1 z_63.2.2.2.2.2.2.2.2.2.1 z_63.2.2.2.2.2.2.2.2.2.2))))) else (lp_M_mult_51 ac cl nn n lp_ (lr + (1 : Int32)) stp mus ax au ao mc_ mb_)))))
def lp_M_mult_34 (ac : Nat → Int64) (cl : Int32) (nn : Int32) : Nat → Int32 → Int32 → Int32 → (Nat → Int64) → (Nat → Int64) → (Nat → Int32) → Int32 → Int32 → Option (Int32 × Int32 × (Nat → Int64) × (Nat → Int64) × (Nat → Int32) × Int32 × Int32)
  | 0, _, _, _, _, _, _, _, _ => none
  | n + 1, lp_, stp, mus, ax, au, ao, mc_, mb_ =>
    if nn < lp_ then (some (stp, mus, ax, au, ao, mc_, mb_)) else (if lp_ = 0 then none else (if (nn - nn / lp_ * lp_) = 0 then (Option.bind (lp_M_mult_51 ac cl nn 20 lp_ (1 : Int32) stp mus ax au ao mc_ mb_) (fun z_74 => (lp_M_mult_34 ac cl nn n (z_74.1 + (1 : Int32)) z_74.2.2.1 z_74.2.2.2.1 z_74.2.2.2.2.1 z_74.2.2.2.2.2.1 z_74.2.2.2.2.2.2.1 z_74.2.2.2.2.2.2.2.1 z_74.2.2.2.2.2.2.2.2))) else (lp_M_mult_34 ac cl nn n (lp_ + (1 : Int32)) stp mus ax au ao mc_ mb_)))
def f_M_mult (ac : Nat → Int64) (stp : Int32) (mus : Int32) (ax : Nat → Int64) (au : Nat → Int64) (ao : Nat → Int32) (mc_ : Int32) (mb_ : Int32) (cl : Int32) (nn : Int32) : Option (Int32 × Int32 × (Nat → Int64) × (Nat → Int64) × (Nat → Int32) × Int32 × Int32) :=
    if mc_ = cl then (if mb_ = nn then (some (stp, mus, ax, au, ao, mc_, mb_)) else (lp_M_mult_34 ac cl nn 20 (1 : Int32) stp (0 : Int32) ax au ao cl nn)) else (lp_M_mult_34 ac cl nn 20 (1 : Int32) stp (0 : Int32) ax au ao cl nn)
def w_M_mult : List Cond := .code y_M_mult b_M_mult 9 none :: GW
abbrev rm_M_mult : Room := { frames := 4, cells := 0, slots := 0, locals := 111 }
theorem g_M_mult : GoodIn GW w_M_mult := gi tm_513
set_option maxHeartbeats 4000000 in
set_option maxRecDepth 100000 in
theorem c_M_mult (l : Launch) (D : va_G) (ct : CT) (A : Nat → Prop) (wt : va_W)  (h0 : Nat) (q1 : Nat) (q2 : Nat) (q3 : Nat) (q4 : Nat) (q5 : Nat) (q6 : Nat) (q7 : Nat) (q8 : Nat) (q9 : Nat) (cm : Int32) (stp : Int32) (mus : Int32) (mc_ : Int32) (mb_ : Int32) (ac : Nat → Int64) (ax : Nat → Int64) (au : Nat → Int64) (ao : Nat → Int32) (cl : Int32) (nn : Int32)   (r0 : Int32 × Int32 × (Nat → Int64) × (Nat → Int64) × (Nat → Int32) × Int32 × Int32) (h : f_M_mult ac stp mus ax au ao mc_ mb_ cl nn = some r0) : Met l y_M_mult w_M_mult rm_M_mult (va_Pc [.ref h0, .int cl, .int nn] (PreM D ct A ([(h0, .inr (5, [.ref q1, .ref q2, .ref q3, .ref q4, .ref q5, .int cm, .int stp, .ref q6, .ref q7, .ref q8, .int mus, .int mc_, .int mb_, .ref q9])), (q2, .inl (ct.1, 240, .inr (.inl ac))), (q6, .inl (ct.1, 6, .inr (.inl ax))), (q7, .inl (ct.1, 3000, .inr (.inl au))), (q8, .inl (ct.2.2, 500, .inl ao))] ++ wt))) (va_Qv (fun u => u = r0) (fun (u : Int32 × Int32 × (Nat → Int64) × (Nat → Int64) × (Nat → Int32) × Int32 × Int32) t => match u with | (stp', mus', ax', au', ao', mc_', mb_') => va_P D classes ([(h0, .inr (5, [.ref q1, .ref q2, .ref q3, .ref q4, .ref q5, .int cm, .int stp', .ref q6, .ref q7, .ref q8, .int mus', .int mc_', .int mb_', .ref q9])), (q2, .inl (ct.1, 240, .inr (.inl ac))), (q6, .inl (ct.1, 6, .inr (.inl ax'))), (q7, .inl (ct.1, 3000, .inr (.inl au'))), (q8, .inl (ct.2.2, 500, .inl ao'))] ++ wt) t.heap ∧ va_D A ([(h0, .inr (5, [.ref q1, .ref q2, .ref q3, .ref q4, .ref q5, .int cm, .int stp', .ref q6, .ref q7, .ref q8, .int mus', .int mc_', .int mb_', .ref q9])), (q2, .inl (ct.1, 240, .inr (.inl ac))), (q6, .inl (ct.1, 6, .inr (.inl ax'))), (q7, .inl (ct.1, 3000, .inr (.inl au'))), (q8, .inl (ct.2.2, 500, .inl ao'))] ++ wt)) A) 0 0 A := by
  refine Met.ofW (cc := b_M_mult) (maxL := 9) (ret := none) (by decide) rfl ?_
  intro p e s m args below meth c s₁ B hml hv
  obtain ⟨rfl, hA, hP, hD, hKK⟩ := hv
  have hx := B.exec
  have hb := B.bytes
  have hr := B.returns
  have htg := ht_tl (atoms_spec (ws := w_M_mult) B.pre)
  have hown : s.vm.findClass R_Model = some m.cls := findClass_of_methodNamed B.named
  have hlocks := B.notSynchronized
  have hK := hKK.1
  have hN := hKK.2.1
  have hO := hKK.2.2
  have hS : va_S A s.heap s.heap [] := va_S.rf
  have hl := lv_entry ([.ref h0, .int cl, .int nn]) (n := 9) (Nat.le_of_ble_eq_true rfl)
  rw [lg_entry_eq]
  generalize (lg_sl ([.ref h0, .int cl, .int nn]) ++ List.replicate (9 - (lg_sl ([.ref h0, .int cl, .int nn])).length) Slot.unset).toArray = ls at hl ⊢
  have hl : lv_has ls 9 [(0, .ref h0), (1, .int cl), (2, .int nn)] := hl
  unfold f_M_mult at h
  refine lv_aload_n hx hb d_M_mult_0 rfl (lv_at hl 0 rfl) ?_
  refine va_get (D := D) (ci := 5) (v := .int mc_) (C := R_Model) (T := F_Model) (N := 14) hx hb htg i_Model hown hK hP 0 rfl rfl 11 (by decide) (htg _ tm_409) (fun _ h9 => h9) rfl d_M_mult_1 ?_
  refine lv_iload_n hx hb d_M_mult_4 rfl (lv_at hl 1 rfl) ?_
  refine lv_icmp_ne (tgt := 17) hx hb d_M_mult_5 (by decide) (fun c_1 => ?_) (fun c_1 => ?_)
  · rw [if_neg c_1] at h
    refine lv_aload_n hx hb d_M_mult_17 rfl (lv_at hl 0 rfl) ?_
    refine lv_iload_n hx hb d_M_mult_18 rfl (lv_at hl 1 rfl) ?_
    refine va_put (D := D) (ci := 5) (v := .int cl) (ty := .int) (C := R_Model) (T := F_Model) (N := 14) hx hb htg i_Model t_Model t_Model_ok n_Model hown hK hP hD hS 0 rfl rfl 11 (by decide) (htg _ tm_409) (fun _ h9 => h9) rfl (by decide +kernel) rfl rfl (Nat.le_of_ble_eq_true rfl) d_M_mult_19 (fun H locs hP hD hS => ?_)
    have hP : va_P D classes ([(h0, .inr (5, [.ref q1, .ref q2, .ref q3, .ref q4, .ref q5, .int cm, .int stp, .ref q6, .ref q7, .ref q8, .int mus, .int cl, .int mb_, .ref q9])), (q2, .inl (ct.1, 240, .inr (.inl ac))), (q6, .inl (ct.1, 6, .inr (.inl ax))), (q7, .inl (ct.1, 3000, .inr (.inl au))), (q8, .inl (ct.2.2, 500, .inl ao))] ++ wt) H := hP
    have hD : va_D A ([(h0, .inr (5, [.ref q1, .ref q2, .ref q3, .ref q4, .ref q5, .int cm, .int stp, .ref q6, .ref q7, .ref q8, .int mus, .int cl, .int mb_, .ref q9])), (q2, .inl (ct.1, 240, .inr (.inl ac))), (q6, .inl (ct.1, 6, .inr (.inl ax))), (q7, .inl (ct.1, 3000, .inr (.inl au))), (q8, .inl (ct.2.2, 500, .inl ao))] ++ wt) := hD
    refine lv_aload_n hx hb d_M_mult_22 rfl (lv_at hl 0 rfl) ?_
    refine lv_iload_n hx hb d_M_mult_23 rfl (lv_at hl 2 rfl) ?_
    refine va_put (D := D) (ci := 5) (v := .int nn) (ty := .int) (C := R_Model) (T := F_Model) (N := 14) hx hb htg i_Model t_Model t_Model_ok n_Model hown hK hP hD hS 0 rfl rfl 12 (by decide) (htg _ tm_410) (fun _ h9 => h9) rfl (by decide +kernel) rfl rfl (Nat.le_of_ble_eq_true rfl) d_M_mult_24 (fun H locs hP hD hS => ?_)
    have hP : va_P D classes ([(h0, .inr (5, [.ref q1, .ref q2, .ref q3, .ref q4, .ref q5, .int cm, .int stp, .ref q6, .ref q7, .ref q8, .int mus, .int cl, .int nn, .ref q9])), (q2, .inl (ct.1, 240, .inr (.inl ac))), (q6, .inl (ct.1, 6, .inr (.inl ax))), (q7, .inl (ct.1, 3000, .inr (.inl au))), (q8, .inl (ct.2.2, 500, .inl ao))] ++ wt) H := hP
    have hD : va_D A ([(h0, .inr (5, [.ref q1, .ref q2, .ref q3, .ref q4, .ref q5, .int cm, .int stp, .ref q6, .ref q7, .ref q8, .int mus, .int cl, .int nn, .ref q9])), (q2, .inl (ct.1, 240, .inr (.inl ac))), (q6, .inl (ct.1, 6, .inr (.inl ax))), (q7, .inl (ct.1, 3000, .inr (.inl au))), (q8, .inl (ct.2.2, 500, .inl ao))] ++ wt) := hD
    refine lv_aload_n hx hb d_M_mult_27 rfl (lv_at hl 0 rfl) ?_
    refine lv_iconst (v := (0 : Int32)) hx hb d_M_mult_28 (by decide) ?_
    refine va_put (D := D) (ci := 5) (v := .int (0 : Int32)) (ty := .int) (C := R_Model) (T := F_Model) (N := 14) hx hb htg i_Model t_Model t_Model_ok n_Model hown hK hP hD hS 0 rfl rfl 10 (by decide) (htg _ tm_408) (fun _ h9 => h9) rfl (by decide +kernel) rfl rfl (Nat.le_of_ble_eq_true rfl) d_M_mult_29 (fun H locs hP hD hS => ?_)
    have hP : va_P D classes ([(h0, .inr (5, [.ref q1, .ref q2, .ref q3, .ref q4, .ref q5, .int cm, .int stp, .ref q6, .ref q7, .ref q8, .int (0 : Int32), .int cl, .int nn, .ref q9])), (q2, .inl (ct.1, 240, .inr (.inl ac))), (q6, .inl (ct.1, 6, .inr (.inl ax))), (q7, .inl (ct.1, 3000, .inr (.inl au))), (q8, .inl (ct.2.2, 500, .inl ao))] ++ wt) H := hP
    have hD : va_D A ([(h0, .inr (5, [.ref q1, .ref q2, .ref q3, .ref q4, .ref q5, .int cm, .int stp, .ref q6, .ref q7, .ref q8, .int (0 : Int32), .int cl, .int nn, .ref q9])), (q2, .inl (ct.1, 240, .inr (.inl ac))), (q6, .inl (ct.1, 6, .inr (.inl ax))), (q7, .inl (ct.1, 3000, .inr (.inl au))), (q8, .inl (ct.2.2, 500, .inl ao))] ++ wt) := hD
    refine lv_iconst (v := (1 : Int32)) hx hb d_M_mult_32 (by decide) ?_
    refine lv_istore_n (lv' := [(3, .int (1 : Int32)), (0, .ref h0), (1, .int cl), (2, .int nn)]) hx hb d_M_mult_33 rfl hl (by decide) rfl (fun ls hl => ?_)
    have L_100 : ∀ (n : Nat) (lp_ : Int32) (lr : Int32) (lu : Int32) (lq : Int32) (ls_ : Int32) (lt : Int32) (stp : Int32) (mus : Int32) (ax : Nat → Int64) (au : Nat → Int64) (ao : Nat → Int32) (mc_ : Int32) (mb_ : Int32) (lp_' : Int32) (lr' : Int32) (lu' : Int32) (lq' : Int32) (ls_' : Int32) (lt' : Int32) (stp' : Int32) (mus' : Int32) (ax' : Nat → Int64) (au' : Nat → Int64) (ao' : Nat → Int32) (mc_' : Int32) (mb_' : Int32), lp_M_mult_100 ac cl nn n lp_ lr lu lq ls_ lt stp mus ax au ao mc_ mb_ = some (lp_', lr', lu', lq', ls_', lt', stp', mus', ax', au', ao', mc_', mb_') → ∀ (H : Heap) (locs : List Loc), va_P D classes ([(h0, .inr (5, [.ref q1, .ref q2, .ref q3, .ref q4, .ref q5, .int cm, .int stp, .ref q6, .ref q7, .ref q8, .int mus, .int mc_, .int mb_, .ref q9])), (q2, .inl (ct.1, 240, .inr (.inl ac))), (q6, .inl (ct.1, 6, .inr (.inl ax))), (q7, .inl (ct.1, 3000, .inr (.inl au))), (q8, .inl (ct.2.2, 500, .inl ao))] ++ wt) H → va_D A ([(h0, .inr (5, [.ref q1, .ref q2, .ref q3, .ref q4, .ref q5, .int cm, .int stp, .ref q6, .ref q7, .ref q8, .int mus, .int mc_, .int mb_, .ref q9])), (q2, .inl (ct.1, 240, .inr (.inl ac))), (q6, .inl (ct.1, 6, .inr (.inl ax))), (q7, .inl (ct.1, 3000, .inr (.inl au))), (q8, .inl (ct.2.2, 500, .inl ao))] ++ wt) → va_S A s.heap H locs → ∀ (ls : Array Slot), lv_has ls 9 [(3, .int lp_), (4, .int lr), (5, .int lu), (6, .int lq), (7, .int ls_), (8, .int lt), (0, .ref h0), (1, .int cl), (2, .int nn)] → (∀ (H : Heap) (locs : List Loc), va_P D classes ([(h0, .inr (5, [.ref q1, .ref q2, .ref q3, .ref q4, .ref q5, .int cm, .int stp', .ref q6, .ref q7, .ref q8, .int mus', .int mc_', .int mb_', .ref q9])), (q2, .inl (ct.1, 240, .inr (.inl ac))), (q6, .inl (ct.1, 6, .inr (.inl ax'))), (q7, .inl (ct.1, 3000, .inr (.inl au'))), (q8, .inl (ct.2.2, 500, .inl ao'))] ++ wt) H → va_D A ([(h0, .inr (5, [.ref q1, .ref q2, .ref q3, .ref q4, .ref q5, .int cm, .int stp', .ref q6, .ref q7, .ref q8, .int mus', .int mc_', .int mb_', .ref q9])), (q2, .inl (ct.1, 240, .inr (.inl ac))), (q6, .inl (ct.1, 6, .inr (.inl ax'))), (q7, .inl (ct.1, 3000, .inr (.inl au'))), (q8, .inl (ct.2.2, 500, .inl ao'))] ++ wt) → va_S A s.heap H locs → ∀ (ls : Array Slot), lv_has ls 9 [(3, .int lp_'), (4, .int lr'), (5, .int lu'), (6, .int lq'), (7, .int ls_'), (8, .int lt'), (0, .ref h0), (1, .int cl), (2, .int nn)] → W p l e (headSpec w_M_mult rm_M_mult).room s m ([.ref h0, .int cl, .int nn] : List Value).toArray below meth c H locs 0 0 (MQ below (va_Qv (fun u => u = r0) (fun (u : Int32 × Int32 × (Nat → Int64) × (Nat → Int64) × (Nat → Int32) × Int32 × Int32) t => match u with | (stp', mus', ax', au', ao', mc_', mb_') => va_P D classes ([(h0, .inr (5, [.ref q1, .ref q2, .ref q3, .ref q4, .ref q5, .int cm, .int stp', .ref q6, .ref q7, .ref q8, .int mus', .int mc_', .int mb_', .ref q9])), (q2, .inl (ct.1, 240, .inr (.inl ac))), (q6, .inl (ct.1, 6, .inr (.inl ax'))), (q7, .inl (ct.1, 3000, .inr (.inl au'))), (q8, .inl (ct.2.2, 500, .inl ao'))] ++ wt) t.heap ∧ va_D A ([(h0, .inr (5, [.ref q1, .ref q2, .ref q3, .ref q4, .ref q5, .int cm, .int stp', .ref q6, .ref q7, .ref q8, .int mus', .int mc_', .int mb_', .ref q9])), (q2, .inl (ct.1, 240, .inr (.inl ac))), (q6, .inl (ct.1, 6, .inr (.inl ax'))), (q7, .inl (ct.1, 3000, .inr (.inl au'))), (q8, .inl (ct.2.2, 500, .inl ao'))] ++ wt)) A) ([.ref h0, .int cl, .int nn] : List Value).toArray s 0 0 A) (F0 m 132 ls [])) → W p l e (headSpec w_M_mult rm_M_mult).room s m ([.ref h0, .int cl, .int nn] : List Value).toArray below meth c H locs 0 0 (MQ below (va_Qv (fun u => u = r0) (fun (u : Int32 × Int32 × (Nat → Int64) × (Nat → Int64) × (Nat → Int32) × Int32 × Int32) t => match u with | (stp', mus', ax', au', ao', mc_', mb_') => va_P D classes ([(h0, .inr (5, [.ref q1, .ref q2, .ref q3, .ref q4, .ref q5, .int cm, .int stp', .ref q6, .ref q7, .ref q8, .int mus', .int mc_', .int mb_', .ref q9])), (q2, .inl (ct.1, 240, .inr (.inl ac))), (q6, .inl (ct.1, 6, .inr (.inl ax'))), (q7, .inl (ct.1, 3000, .inr (.inl au'))), (q8, .inl (ct.2.2, 500, .inl ao'))] ++ wt) t.heap ∧ va_D A ([(h0, .inr (5, [.ref q1, .ref q2, .ref q3, .ref q4, .ref q5, .int cm, .int stp', .ref q6, .ref q7, .ref q8, .int mus', .int mc_', .int mb_', .ref q9])), (q2, .inl (ct.1, 240, .inr (.inl ac))), (q6, .inl (ct.1, 6, .inr (.inl ax'))), (q7, .inl (ct.1, 3000, .inr (.inl au'))), (q8, .inl (ct.2.2, 500, .inl ao'))] ++ wt)) A) ([.ref h0, .int cl, .int nn] : List Value).toArray s 0 0 A) (F0 m 100 ls []) := by
      intro n
      induction n with
      | zero =>
        intro lp_ lr lu lq ls_ lt stp mus ax au ao mc_ mb_ lp_' lr' lu' lq' ls_' lt' stp' mus' ax' au' ao' mc_' mb_' h
        rw [lp_M_mult_100] at h
        cases h
      | succ n ih =>
        intro lp_ lr lu lq ls_ lt stp mus ax au ao mc_ mb_ lp_' lr' lu' lq' ls_' lt' stp' mus' ax' au' ao' mc_' mb_' h H locs hP hD hS ls hl K
        rw [lp_M_mult_100] at h
        refine lv_iload hx hb d_M_mult_100 (lv_at hl 5 rfl) ?_
        refine lv_iload hx hb d_M_mult_102 (lv_at hl 1 rfl) ?_
        refine lv_icmp_ge (tgt := 132) hx hb d_M_mult_104 (by decide) (fun c_14 => ?_) (fun c_14 => ?_)
        · rw [if_pos c_14] at h
          cases h
          exact K _ _ hP hD hS _ (lv_sub hl [0, 1, 2, 3, 4, 5, 6, 7, 8] rfl)
        · rw [if_neg c_14] at h
          refine lv_aload_n hx hb d_M_mult_107 rfl (lv_at hl 6 rfl) ?_
          refine lv_bipush (v := (6 : Int32)) hx hb d_M_mult_108 (by decide) ?_
          refine lv_iload_n hx hb d_M_mult_110 rfl (lv_at hl 7 rfl) ?_
          refine lv_imul hx hb d_M_mult_111 ?_
          refine lv_iload_n hx hb d_M_mult_112 rfl (lv_at hl 0 rfl) ?_
          refine lv_iload hx hb d_M_mult_113 (lv_at hl 3 rfl) ?_
          refine lv_iload hx hb d_M_mult_115 (lv_at hl 1 rfl) ?_
          refine lv_iload hx hb d_M_mult_117 (lv_at hl 4 rfl) ?_
          refine lv_iload hx hb d_M_mult_119 (lv_at hl 5 rfl) ?_
          refine lv_iload hx hb d_M_mult_121 (lv_at hl 2 rfl) ?_
          rcases e_20 : f_M_one ac stp mus ax au ao ((6 : Int32) * cl) lp_ lq lr ls_ lt lu with _ | ⟨stp_15, mus_16, ax_17, au_18, ao_19⟩
          · rw [e_20] at h; cases h
          rw [e_20, Option.bind_some] at h
          try dsimp only at h
          refine va_callv (va_runV (As := [.int ((6 : Int32) * cl), .int lp_, .int lq, .int lr, .int ls_, .int lt, .int lu]) (rest := []) ⟨hx, hb, hml, hown, htg⟩ (c_M_one l D ct A ([] ++ wt)  h0 q1 q2 q3 q4 q5 q6 q7 q8 q9 cm stp mus mc_ mb_ ac ax au ao ((6 : Int32) * cl) lp_ lq lr ls_ lt lu   _ e_20) (cwV 7 htg (giV tm_514 tm_516 tm_28 tm_34 g_M_one) rfl rfl rfl (by decide +kernel) ⟨Nat.le_of_ble_eq_true rfl, Nat.le_of_ble_eq_true rfl⟩) (preVM hA hS hP hD hKK (va_recv hK hP (ci := 5) (q0 := 0) rfl rfl)) rfl rfl hl.1 rfl (lv_room (Nat.le_of_ble_eq_true rfl)) d_M_mult_123 ⟨Nat.le_of_ble_eq_true rfl, Nat.le_of_ble_eq_true rfl⟩) hS (fun q _ h9 => h9) (fun q h9 => h9) (fun u9 t9 H locs ht9 hvm9 hw9 hB9 hz9 hk9 hS => ?_)
          rw [hw9] at hB9
          obtain ⟨hP, hD⟩ := hB9
          rw [ht9] at hP
          have hP : va_P D classes ([(h0, .inr (5, [.ref q1, .ref q2, .ref q3, .ref q4, .ref q5, .int cm, .int stp_15, .ref q6, .ref q7, .ref q8, .int mus_16, .int mc_, .int mb_, .ref q9])), (q2, .inl (ct.1, 240, .inr (.inl ac))), (q6, .inl (ct.1, 6, .inr (.inl ax_17))), (q7, .inl (ct.1, 3000, .inr (.inl au_18))), (q8, .inl (ct.2.2, 500, .inl ao_19))] ++ wt) H := hP
          have hD : va_D A ([(h0, .inr (5, [.ref q1, .ref q2, .ref q3, .ref q4, .ref q5, .int cm, .int stp_15, .ref q6, .ref q7, .ref q8, .int mus_16, .int mc_, .int mb_, .ref q9])), (q2, .inl (ct.1, 240, .inr (.inl ac))), (q6, .inl (ct.1, 6, .inr (.inl ax_17))), (q7, .inl (ct.1, 3000, .inr (.inl au_18))), (q8, .inl (ct.2.2, 500, .inl ao_19))] ++ wt) := hD
          refine lv_iinc (v := lt + (1 : Int32)) (lv' := [(8, .int (lt + (1 : Int32))), (3, .int lp_), (4, .int lr), (5, .int lu), (6, .int lq), (7, .int ls_), (0, .ref h0), (1, .int cl), (2, .int nn)]) hx hb d_M_mult_126 hl (k := 5) rfl rfl (by decide) rfl (fun ls hl => ?_)
          refine lv_goto (tgt := 100) hx hb d_M_mult_129 (by decide) ?_
          exact ih lp_ lr lu lq ls_ (lt + (1 : Int32)) stp_15 mus_16 ax_17 au_18 ao_19 mc_ mb_ _ _ _ _ _ _ _ _ _ _ _ _ _ h H locs hP hD hS ls (lv_sub hl [1, 2, 3, 4, 5, 0, 6, 7, 8] rfl) K
    have L_91 : ∀ (n : Nat) (lp_ : Int32) (lr : Int32) (lu : Int32) (lq : Int32) (ls_ : Int32) (stp : Int32) (mus : Int32) (ax : Nat → Int64) (au : Nat → Int64) (ao : Nat → Int32) (mc_ : Int32) (mb_ : Int32) (lp_' : Int32) (lr' : Int32) (lu' : Int32) (lq' : Int32) (ls_' : Int32) (stp' : Int32) (mus' : Int32) (ax' : Nat → Int64) (au' : Nat → Int64) (ao' : Nat → Int32) (mc_' : Int32) (mb_' : Int32), lp_M_mult_91 ac cl nn n lp_ lr lu lq ls_ stp mus ax au ao mc_ mb_ = some (lp_', lr', lu', lq', ls_', stp', mus', ax', au', ao', mc_', mb_') → ∀ (H : Heap) (locs : List Loc), va_P D classes ([(h0, .inr (5, [.ref q1, .ref q2, .ref q3, .ref q4, .ref q5, .int cm, .int stp, .ref q6, .ref q7, .ref q8, .int mus, .int mc_, .int mb_, .ref q9])), (q2, .inl (ct.1, 240, .inr (.inl ac))), (q6, .inl (ct.1, 6, .inr (.inl ax))), (q7, .inl (ct.1, 3000, .inr (.inl au))), (q8, .inl (ct.2.2, 500, .inl ao))] ++ wt) H → va_D A ([(h0, .inr (5, [.ref q1, .ref q2, .ref q3, .ref q4, .ref q5, .int cm, .int stp, .ref q6, .ref q7, .ref q8, .int mus, .int mc_, .int mb_, .ref q9])), (q2, .inl (ct.1, 240, .inr (.inl ac))), (q6, .inl (ct.1, 6, .inr (.inl ax))), (q7, .inl (ct.1, 3000, .inr (.inl au))), (q8, .inl (ct.2.2, 500, .inl ao))] ++ wt) → va_S A s.heap H locs → ∀ (ls : Array Slot), lv_has ls 9 [(3, .int lp_), (4, .int lr), (5, .int lu), (6, .int lq), (7, .int ls_), (0, .ref h0), (1, .int cl), (2, .int nn)] → (∀ (H : Heap) (locs : List Loc), va_P D classes ([(h0, .inr (5, [.ref q1, .ref q2, .ref q3, .ref q4, .ref q5, .int cm, .int stp', .ref q6, .ref q7, .ref q8, .int mus', .int mc_', .int mb_', .ref q9])), (q2, .inl (ct.1, 240, .inr (.inl ac))), (q6, .inl (ct.1, 6, .inr (.inl ax'))), (q7, .inl (ct.1, 3000, .inr (.inl au'))), (q8, .inl (ct.2.2, 500, .inl ao'))] ++ wt) H → va_D A ([(h0, .inr (5, [.ref q1, .ref q2, .ref q3, .ref q4, .ref q5, .int cm, .int stp', .ref q6, .ref q7, .ref q8, .int mus', .int mc_', .int mb_', .ref q9])), (q2, .inl (ct.1, 240, .inr (.inl ac))), (q6, .inl (ct.1, 6, .inr (.inl ax'))), (q7, .inl (ct.1, 3000, .inr (.inl au'))), (q8, .inl (ct.2.2, 500, .inl ao'))] ++ wt) → va_S A s.heap H locs → ∀ (ls : Array Slot), lv_has ls 9 [(3, .int lp_'), (4, .int lr'), (5, .int lu'), (6, .int lq'), (7, .int ls_'), (0, .ref h0), (1, .int cl), (2, .int nn)] → W p l e (headSpec w_M_mult rm_M_mult).room s m ([.ref h0, .int cl, .int nn] : List Value).toArray below meth c H locs 0 0 (MQ below (va_Qv (fun u => u = r0) (fun (u : Int32 × Int32 × (Nat → Int64) × (Nat → Int64) × (Nat → Int32) × Int32 × Int32) t => match u with | (stp', mus', ax', au', ao', mc_', mb_') => va_P D classes ([(h0, .inr (5, [.ref q1, .ref q2, .ref q3, .ref q4, .ref q5, .int cm, .int stp', .ref q6, .ref q7, .ref q8, .int mus', .int mc_', .int mb_', .ref q9])), (q2, .inl (ct.1, 240, .inr (.inl ac))), (q6, .inl (ct.1, 6, .inr (.inl ax'))), (q7, .inl (ct.1, 3000, .inr (.inl au'))), (q8, .inl (ct.2.2, 500, .inl ao'))] ++ wt) t.heap ∧ va_D A ([(h0, .inr (5, [.ref q1, .ref q2, .ref q3, .ref q4, .ref q5, .int cm, .int stp', .ref q6, .ref q7, .ref q8, .int mus', .int mc_', .int mb_', .ref q9])), (q2, .inl (ct.1, 240, .inr (.inl ac))), (q6, .inl (ct.1, 6, .inr (.inl ax'))), (q7, .inl (ct.1, 3000, .inr (.inl au'))), (q8, .inl (ct.2.2, 500, .inl ao'))] ++ wt)) A) ([.ref h0, .int cl, .int nn] : List Value).toArray s 0 0 A) (F0 m 138 ls [])) → W p l e (headSpec w_M_mult rm_M_mult).room s m ([.ref h0, .int cl, .int nn] : List Value).toArray below meth c H locs 0 0 (MQ below (va_Qv (fun u => u = r0) (fun (u : Int32 × Int32 × (Nat → Int64) × (Nat → Int64) × (Nat → Int32) × Int32 × Int32) t => match u with | (stp', mus', ax', au', ao', mc_', mb_') => va_P D classes ([(h0, .inr (5, [.ref q1, .ref q2, .ref q3, .ref q4, .ref q5, .int cm, .int stp', .ref q6, .ref q7, .ref q8, .int mus', .int mc_', .int mb_', .ref q9])), (q2, .inl (ct.1, 240, .inr (.inl ac))), (q6, .inl (ct.1, 6, .inr (.inl ax'))), (q7, .inl (ct.1, 3000, .inr (.inl au'))), (q8, .inl (ct.2.2, 500, .inl ao'))] ++ wt) t.heap ∧ va_D A ([(h0, .inr (5, [.ref q1, .ref q2, .ref q3, .ref q4, .ref q5, .int cm, .int stp', .ref q6, .ref q7, .ref q8, .int mus', .int mc_', .int mb_', .ref q9])), (q2, .inl (ct.1, 240, .inr (.inl ac))), (q6, .inl (ct.1, 6, .inr (.inl ax'))), (q7, .inl (ct.1, 3000, .inr (.inl au'))), (q8, .inl (ct.2.2, 500, .inl ao'))] ++ wt)) A) ([.ref h0, .int cl, .int nn] : List Value).toArray s 0 0 A) (F0 m 91 ls []) := by
      intro n
      induction n with
      | zero =>
        intro lp_ lr lu lq ls_ stp mus ax au ao mc_ mb_ lp_' lr' lu' lq' ls_' stp' mus' ax' au' ao' mc_' mb_' h
        rw [lp_M_mult_91] at h
        cases h
      | succ n ih =>
        intro lp_ lr lu lq ls_ stp mus ax au ao mc_ mb_ lp_' lr' lu' lq' ls_' stp' mus' ax' au' ao' mc_' mb_' h H locs hP hD hS ls hl K
        rw [lp_M_mult_91] at h
        refine lv_iload hx hb d_M_mult_91 (lv_at hl 4 rfl) ?_
        refine lv_iload_n hx hb d_M_mult_93 rfl (lv_at hl 0 rfl) ?_
        refine lv_icmp_ge (tgt := 138) hx hb d_M_mult_94 (by decide) (fun c_13 => ?_) (fun c_13 => ?_)
        · rw [if_pos c_13] at h
          cases h
          exact K _ _ hP hD hS _ (lv_sub hl [0, 1, 2, 3, 4, 5, 6, 7] rfl)
        · rw [if_neg c_13] at h
          refine lv_iconst (v := (0 : Int32)) hx hb d_M_mult_97 (by decide) ?_
          refine lv_istore (lv' := [(8, .int (0 : Int32)), (3, .int lp_), (4, .int lr), (5, .int lu), (6, .int lq), (7, .int ls_), (0, .ref h0), (1, .int cl), (2, .int nn)]) hx hb d_M_mult_98 hl (by decide) rfl (fun ls hl => ?_)
          rcases e_35 : lp_M_mult_100 ac cl nn 20 lp_ lr lu lq ls_ (0 : Int32) stp mus ax au ao mc_ mb_ with _ | ⟨lp__22, lr_23, lu_24, lq_25, ls__26, lt_27, stp_28, mus_29, ax_30, au_31, ao_32, mc__33, mb__34⟩
          · rw [e_35] at h; cases h
          rw [e_35, Option.bind_some] at h
          try dsimp only at h
          refine L_100 20 lp_ lr lu lq ls_ (0 : Int32) stp mus ax au ao mc_ mb_ lp__22 lr_23 lu_24 lq_25 ls__26 lt_27 stp_28 mus_29 ax_30 au_31 ao_32 mc__33 mb__34 e_35 _ _ hP hD hS ls (lv_sub hl [1, 2, 3, 4, 5, 0, 6, 7, 8] rfl) (fun H locs hP hD hS ls hl => ?_)
          refine lv_iinc (v := ls__26 + (1 : Int32)) (lv' := [(7, .int (ls__26 + (1 : Int32))), (3, .int lp__22), (4, .int lr_23), (5, .int lu_24), (6, .int lq_25), (8, .int lt_27), (0, .ref h0), (1, .int cl), (2, .int nn)]) hx hb d_M_mult_132 hl (k := 4) rfl rfl (by decide) rfl (fun ls hl => ?_)
          refine lv_goto (tgt := 91) hx hb d_M_mult_135 (by decide) ?_
          exact ih lp__22 lr_23 lu_24 lq_25 (ls__26 + (1 : Int32)) stp_28 mus_29 ax_30 au_31 ao_32 mc__33 mb__34 _ _ _ _ _ _ _ _ _ _ _ _ h H locs hP hD hS ls (lv_sub hl [1, 2, 3, 4, 0, 6, 7, 8] rfl) K
    have L_82 : ∀ (n : Nat) (lp_ : Int32) (lr : Int32) (lu : Int32) (lq : Int32) (stp : Int32) (mus : Int32) (ax : Nat → Int64) (au : Nat → Int64) (ao : Nat → Int32) (mc_ : Int32) (mb_ : Int32) (lp_' : Int32) (lr' : Int32) (lu' : Int32) (lq' : Int32) (stp' : Int32) (mus' : Int32) (ax' : Nat → Int64) (au' : Nat → Int64) (ao' : Nat → Int32) (mc_' : Int32) (mb_' : Int32), lp_M_mult_82 ac cl nn n lp_ lr lu lq stp mus ax au ao mc_ mb_ = some (lp_', lr', lu', lq', stp', mus', ax', au', ao', mc_', mb_') → ∀ (H : Heap) (locs : List Loc), va_P D classes ([(h0, .inr (5, [.ref q1, .ref q2, .ref q3, .ref q4, .ref q5, .int cm, .int stp, .ref q6, .ref q7, .ref q8, .int mus, .int mc_, .int mb_, .ref q9])), (q2, .inl (ct.1, 240, .inr (.inl ac))), (q6, .inl (ct.1, 6, .inr (.inl ax))), (q7, .inl (ct.1, 3000, .inr (.inl au))), (q8, .inl (ct.2.2, 500, .inl ao))] ++ wt) H → va_D A ([(h0, .inr (5, [.ref q1, .ref q2, .ref q3, .ref q4, .ref q5, .int cm, .int stp, .ref q6, .ref q7, .ref q8, .int mus, .int mc_, .int mb_, .ref q9])), (q2, .inl (ct.1, 240, .inr (.inl ac))), (q6, .inl (ct.1, 6, .inr (.inl ax))), (q7, .inl (ct.1, 3000, .inr (.inl au))), (q8, .inl (ct.2.2, 500, .inl ao))] ++ wt) → va_S A s.heap H locs → ∀ (ls : Array Slot), lv_has ls 9 [(3, .int lp_), (4, .int lr), (5, .int lu), (6, .int lq), (0, .ref h0), (1, .int cl), (2, .int nn)] → (∀ (H : Heap) (locs : List Loc), va_P D classes ([(h0, .inr (5, [.ref q1, .ref q2, .ref q3, .ref q4, .ref q5, .int cm, .int stp', .ref q6, .ref q7, .ref q8, .int mus', .int mc_', .int mb_', .ref q9])), (q2, .inl (ct.1, 240, .inr (.inl ac))), (q6, .inl (ct.1, 6, .inr (.inl ax'))), (q7, .inl (ct.1, 3000, .inr (.inl au'))), (q8, .inl (ct.2.2, 500, .inl ao'))] ++ wt) H → va_D A ([(h0, .inr (5, [.ref q1, .ref q2, .ref q3, .ref q4, .ref q5, .int cm, .int stp', .ref q6, .ref q7, .ref q8, .int mus', .int mc_', .int mb_', .ref q9])), (q2, .inl (ct.1, 240, .inr (.inl ac))), (q6, .inl (ct.1, 6, .inr (.inl ax'))), (q7, .inl (ct.1, 3000, .inr (.inl au'))), (q8, .inl (ct.2.2, 500, .inl ao'))] ++ wt) → va_S A s.heap H locs → ∀ (ls : Array Slot), lv_has ls 9 [(3, .int lp_'), (4, .int lr'), (5, .int lu'), (6, .int lq'), (0, .ref h0), (1, .int cl), (2, .int nn)] → W p l e (headSpec w_M_mult rm_M_mult).room s m ([.ref h0, .int cl, .int nn] : List Value).toArray below meth c H locs 0 0 (MQ below (va_Qv (fun u => u = r0) (fun (u : Int32 × Int32 × (Nat → Int64) × (Nat → Int64) × (Nat → Int32) × Int32 × Int32) t => match u with | (stp', mus', ax', au', ao', mc_', mb_') => va_P D classes ([(h0, .inr (5, [.ref q1, .ref q2, .ref q3, .ref q4, .ref q5, .int cm, .int stp', .ref q6, .ref q7, .ref q8, .int mus', .int mc_', .int mb_', .ref q9])), (q2, .inl (ct.1, 240, .inr (.inl ac))), (q6, .inl (ct.1, 6, .inr (.inl ax'))), (q7, .inl (ct.1, 3000, .inr (.inl au'))), (q8, .inl (ct.2.2, 500, .inl ao'))] ++ wt) t.heap ∧ va_D A ([(h0, .inr (5, [.ref q1, .ref q2, .ref q3, .ref q4, .ref q5, .int cm, .int stp', .ref q6, .ref q7, .ref q8, .int mus', .int mc_', .int mb_', .ref q9])), (q2, .inl (ct.1, 240, .inr (.inl ac))), (q6, .inl (ct.1, 6, .inr (.inl ax'))), (q7, .inl (ct.1, 3000, .inr (.inl au'))), (q8, .inl (ct.2.2, 500, .inl ao'))] ++ wt)) A) ([.ref h0, .int cl, .int nn] : List Value).toArray s 0 0 A) (F0 m 144 ls [])) → W p l e (headSpec w_M_mult rm_M_mult).room s m ([.ref h0, .int cl, .int nn] : List Value).toArray below meth c H locs 0 0 (MQ below (va_Qv (fun u => u = r0) (fun (u : Int32 × Int32 × (Nat → Int64) × (Nat → Int64) × (Nat → Int32) × Int32 × Int32) t => match u with | (stp', mus', ax', au', ao', mc_', mb_') => va_P D classes ([(h0, .inr (5, [.ref q1, .ref q2, .ref q3, .ref q4, .ref q5, .int cm, .int stp', .ref q6, .ref q7, .ref q8, .int mus', .int mc_', .int mb_', .ref q9])), (q2, .inl (ct.1, 240, .inr (.inl ac))), (q6, .inl (ct.1, 6, .inr (.inl ax'))), (q7, .inl (ct.1, 3000, .inr (.inl au'))), (q8, .inl (ct.2.2, 500, .inl ao'))] ++ wt) t.heap ∧ va_D A ([(h0, .inr (5, [.ref q1, .ref q2, .ref q3, .ref q4, .ref q5, .int cm, .int stp', .ref q6, .ref q7, .ref q8, .int mus', .int mc_', .int mb_', .ref q9])), (q2, .inl (ct.1, 240, .inr (.inl ac))), (q6, .inl (ct.1, 6, .inr (.inl ax'))), (q7, .inl (ct.1, 3000, .inr (.inl au'))), (q8, .inl (ct.2.2, 500, .inl ao'))] ++ wt)) A) ([.ref h0, .int cl, .int nn] : List Value).toArray s 0 0 A) (F0 m 82 ls []) := by
      intro n
      induction n with
      | zero =>
        intro lp_ lr lu lq stp mus ax au ao mc_ mb_ lp_' lr' lu' lq' stp' mus' ax' au' ao' mc_' mb_' h
        rw [lp_M_mult_82] at h
        cases h
      | succ n ih =>
        intro lp_ lr lu lq stp mus ax au ao mc_ mb_ lp_' lr' lu' lq' stp' mus' ax' au' ao' mc_' mb_' h H locs hP hD hS ls hl K
        rw [lp_M_mult_82] at h
        refine lv_iload hx hb d_M_mult_82 (lv_at hl 3 rfl) ?_
        refine lv_iload_n hx hb d_M_mult_84 rfl (lv_at hl 0 rfl) ?_
        refine lv_icmp_ge (tgt := 144) hx hb d_M_mult_85 (by decide) (fun c_12 => ?_) (fun c_12 => ?_)
        · rw [if_pos c_12] at h
          cases h
          exact K _ _ hP hD hS _ (lv_sub hl [0, 1, 2, 3, 4, 5, 6] rfl)
        · rw [if_neg c_12] at h
          refine lv_iconst (v := (0 : Int32)) hx hb d_M_mult_88 (by decide) ?_
          refine lv_istore (lv' := [(7, .int (0 : Int32)), (3, .int lp_), (4, .int lr), (5, .int lu), (6, .int lq), (0, .ref h0), (1, .int cl), (2, .int nn)]) hx hb d_M_mult_89 hl (by decide) rfl (fun ls hl => ?_)
          rcases e_49 : lp_M_mult_91 ac cl nn 20 lp_ lr lu lq (0 : Int32) stp mus ax au ao mc_ mb_ with _ | ⟨lp__37, lr_38, lu_39, lq_40, ls__41, stp_42, mus_43, ax_44, au_45, ao_46, mc__47, mb__48⟩
          · rw [e_49] at h; cases h
          rw [e_49, Option.bind_some] at h
          try dsimp only at h
          refine L_91 20 lp_ lr lu lq (0 : Int32) stp mus ax au ao mc_ mb_ lp__37 lr_38 lu_39 lq_40 ls__41 stp_42 mus_43 ax_44 au_45 ao_46 mc__47 mb__48 e_49 _ _ hP hD hS ls (lv_sub hl [1, 2, 3, 4, 0, 5, 6, 7] rfl) (fun H locs hP hD hS ls hl => ?_)
          refine lv_iinc (v := lq_40 + (1 : Int32)) (lv' := [(6, .int (lq_40 + (1 : Int32))), (3, .int lp__37), (4, .int lr_38), (5, .int lu_39), (7, .int ls__41), (0, .ref h0), (1, .int cl), (2, .int nn)]) hx hb d_M_mult_138 hl (k := 3) rfl rfl (by decide) rfl (fun ls hl => ?_)
          refine lv_goto (tgt := 82) hx hb d_M_mult_141 (by decide) ?_
          exact ih lp__37 lr_38 lu_39 (lq_40 + (1 : Int32)) stp_42 mus_43 ax_44 au_45 ao_46 mc__47 mb__48 _ _ _ _ _ _ _ _ _ _ _ h H locs hP hD hS ls (lv_sub hl [1, 2, 3, 0, 5, 6, 7] rfl) K
    have L_51 : ∀ (n : Nat) (lp_ : Int32) (lr : Int32) (stp : Int32) (mus : Int32) (ax : Nat → Int64) (au : Nat → Int64) (ao : Nat → Int32) (mc_ : Int32) (mb_ : Int32) (lp_' : Int32) (lr' : Int32) (stp' : Int32) (mus' : Int32) (ax' : Nat → Int64) (au' : Nat → Int64) (ao' : Nat → Int32) (mc_' : Int32) (mb_' : Int32), lp_M_mult_51 ac cl nn n lp_ lr stp mus ax au ao mc_ mb_ = some (lp_', lr', stp', mus', ax', au', ao', mc_', mb_') → ∀ (H : Heap) (locs : List Loc), va_P D classes ([(h0, .inr (5, [.ref q1, .ref q2, .ref q3, .ref q4, .ref q5, .int cm, .int stp, .ref q6, .ref q7, .ref q8, .int mus, .int mc_, .int mb_, .ref q9])), (q2, .inl (ct.1, 240, .inr (.inl ac))), (q6, .inl (ct.1, 6, .inr (.inl ax))), (q7, .inl (ct.1, 3000, .inr (.inl au))), (q8, .inl (ct.2.2, 500, .inl ao))] ++ wt) H → va_D A ([(h0, .inr (5, [.ref q1, .ref q2, .ref q3, .ref q4, .ref q5, .int cm, .int stp, .ref q6, .ref q7, .ref q8, .int mus, .int mc_, .int mb_, .ref q9])), (q2, .inl (ct.1, 240, .inr (.inl ac))), (q6, .inl (ct.1, 6, .inr (.inl ax))), (q7, .inl (ct.1, 3000, .inr (.inl au))), (q8, .inl (ct.2.2, 500, .inl ao))] ++ wt) → va_S A s.heap H locs → ∀ (ls : Array Slot), lv_has ls 9 [(3, .int lp_), (4, .int lr), (0, .ref h0), (1, .int cl), (2, .int nn)] → (∀ (H : Heap) (locs : List Loc), va_P D classes ([(h0, .inr (5, [.ref q1, .ref q2, .ref q3, .ref q4, .ref q5, .int cm, .int stp', .ref q6, .ref q7, .ref q8, .int mus', .int mc_', .int mb_', .ref q9])), (q2, .inl (ct.1, 240, .inr (.inl ac))), (q6, .inl (ct.1, 6, .inr (.inl ax'))), (q7, .inl (ct.1, 3000, .inr (.inl au'))), (q8, .inl (ct.2.2, 500, .inl ao'))] ++ wt) H → va_D A ([(h0, .inr (5, [.ref q1, .ref q2, .ref q3, .ref q4, .ref q5, .int cm, .int stp', .ref q6, .ref q7, .ref q8, .int mus', .int mc_', .int mb_', .ref q9])), (q2, .inl (ct.1, 240, .inr (.inl ac))), (q6, .inl (ct.1, 6, .inr (.inl ax'))), (q7, .inl (ct.1, 3000, .inr (.inl au'))), (q8, .inl (ct.2.2, 500, .inl ao'))] ++ wt) → va_S A s.heap H locs → ∀ (ls : Array Slot), lv_has ls 9 [(3, .int lp_'), (4, .int lr'), (0, .ref h0), (1, .int cl), (2, .int nn)] → W p l e (headSpec w_M_mult rm_M_mult).room s m ([.ref h0, .int cl, .int nn] : List Value).toArray below meth c H locs 0 0 (MQ below (va_Qv (fun u => u = r0) (fun (u : Int32 × Int32 × (Nat → Int64) × (Nat → Int64) × (Nat → Int32) × Int32 × Int32) t => match u with | (stp', mus', ax', au', ao', mc_', mb_') => va_P D classes ([(h0, .inr (5, [.ref q1, .ref q2, .ref q3, .ref q4, .ref q5, .int cm, .int stp', .ref q6, .ref q7, .ref q8, .int mus', .int mc_', .int mb_', .ref q9])), (q2, .inl (ct.1, 240, .inr (.inl ac))), (q6, .inl (ct.1, 6, .inr (.inl ax'))), (q7, .inl (ct.1, 3000, .inr (.inl au'))), (q8, .inl (ct.2.2, 500, .inl ao'))] ++ wt) t.heap ∧ va_D A ([(h0, .inr (5, [.ref q1, .ref q2, .ref q3, .ref q4, .ref q5, .int cm, .int stp', .ref q6, .ref q7, .ref q8, .int mus', .int mc_', .int mb_', .ref q9])), (q2, .inl (ct.1, 240, .inr (.inl ac))), (q6, .inl (ct.1, 6, .inr (.inl ax'))), (q7, .inl (ct.1, 3000, .inr (.inl au'))), (q8, .inl (ct.2.2, 500, .inl ao'))] ++ wt)) A) ([.ref h0, .int cl, .int nn] : List Value).toArray s 0 0 A) (F0 m 150 ls [])) → W p l e (headSpec w_M_mult rm_M_mult).room s m ([.ref h0, .int cl, .int nn] : List Value).toArray below meth c H locs 0 0 (MQ below (va_Qv (fun u => u = r0) (fun (u : Int32 × Int32 × (Nat → Int64) × (Nat → Int64) × (Nat → Int32) × Int32 × Int32) t => match u with | (stp', mus', ax', au', ao', mc_', mb_') => va_P D classes ([(h0, .inr (5, [.ref q1, .ref q2, .ref q3, .ref q4, .ref q5, .int cm, .int stp', .ref q6, .ref q7, .ref q8, .int mus', .int mc_', .int mb_', .ref q9])), (q2, .inl (ct.1, 240, .inr (.inl ac))), (q6, .inl (ct.1, 6, .inr (.inl ax'))), (q7, .inl (ct.1, 3000, .inr (.inl au'))), (q8, .inl (ct.2.2, 500, .inl ao'))] ++ wt) t.heap ∧ va_D A ([(h0, .inr (5, [.ref q1, .ref q2, .ref q3, .ref q4, .ref q5, .int cm, .int stp', .ref q6, .ref q7, .ref q8, .int mus', .int mc_', .int mb_', .ref q9])), (q2, .inl (ct.1, 240, .inr (.inl ac))), (q6, .inl (ct.1, 6, .inr (.inl ax'))), (q7, .inl (ct.1, 3000, .inr (.inl au'))), (q8, .inl (ct.2.2, 500, .inl ao'))] ++ wt)) A) ([.ref h0, .int cl, .int nn] : List Value).toArray s 0 0 A) (F0 m 51 ls []) := by
      intro n
      induction n with
      | zero =>
        intro lp_ lr stp mus ax au ao mc_ mb_ lp_' lr' stp' mus' ax' au' ao' mc_' mb_' h
        rw [lp_M_mult_51] at h
        cases h
      | succ n ih =>
        intro lp_ lr stp mus ax au ao mc_ mb_ lp_' lr' stp' mus' ax' au' ao' mc_' mb_' h H locs hP hD hS ls hl K
        rw [lp_M_mult_51] at h
        refine lv_iload hx hb d_M_mult_51 (lv_at hl 1 rfl) ?_
        refine lv_iload_n hx hb d_M_mult_53 rfl (lv_at hl 4 rfl) ?_
        refine lv_iload_n hx hb d_M_mult_54 rfl (lv_at hl 0 rfl) ?_
        by_cases nz_5 : lp_ = 0
        · rw [if_pos nz_5] at h; cases h
        rw [if_neg nz_5] at h
        refine lv_idiv hx hb d_M_mult_55 nz_5 ?_
        refine lv_icmp_gt (tgt := 150) hx hb d_M_mult_56 (by decide) (fun c_6 => ?_) (fun c_6 => ?_)
        · rw [if_pos c_6] at h
          cases h
          exact K _ _ hP hD hS _ (lv_sub hl [0, 1, 2, 3, 4] rfl)
        · rw [if_neg c_6] at h
          refine lv_iload_n hx hb d_M_mult_59 rfl (lv_at hl 4 rfl) ?_
          refine lv_iload_n hx hb d_M_mult_60 rfl (lv_at hl 0 rfl) ?_
          by_cases nz_7 : lp_ = 0
          · rw [if_pos nz_7] at h; cases h
          rw [if_neg nz_7] at h
          refine lv_idiv hx hb d_M_mult_61 nz_7 ?_
          refine lv_iload hx hb d_M_mult_62 (lv_at hl 1 rfl) ?_
          by_cases nz_8 : lr = 0
          · rw [if_pos nz_8] at h; cases h
          rw [if_neg nz_8] at h
          refine lv_irem hx hb d_M_mult_64 nz_8 ?_
          refine lv_if_eq (tgt := 71) hx hb d_M_mult_65 (by decide) (fun c_9 => ?_) (fun c_9 => ?_)
          · rw [if_pos c_9] at h
            refine lv_iload_n hx hb d_M_mult_71 rfl (lv_at hl 4 rfl) ?_
            refine lv_iload_n hx hb d_M_mult_72 rfl (lv_at hl 0 rfl) ?_
            by_cases nz_10 : lp_ = 0
            · rw [if_pos nz_10] at h; cases h
            rw [if_neg nz_10] at h
            refine lv_idiv hx hb d_M_mult_73 nz_10 ?_
            refine lv_iload hx hb d_M_mult_74 (lv_at hl 1 rfl) ?_
            by_cases nz_11 : lr = 0
            · rw [if_pos nz_11] at h; cases h
            rw [if_neg nz_11] at h
            refine lv_idiv hx hb d_M_mult_76 nz_11 ?_
            refine lv_istore (lv' := [(5, .int ((nn / lp_) / lr)), (3, .int lp_), (4, .int lr), (0, .ref h0), (1, .int cl), (2, .int nn)]) hx hb d_M_mult_77 hl (by decide) rfl (fun ls hl => ?_)
            refine lv_iconst (v := (0 : Int32)) hx hb d_M_mult_79 (by decide) ?_
            refine lv_istore (lv' := [(6, .int (0 : Int32)), (5, .int ((nn / lp_) / lr)), (3, .int lp_), (4, .int lr), (0, .ref h0), (1, .int cl), (2, .int nn)]) hx hb d_M_mult_80 hl (by decide) rfl (fun ls hl => ?_)
            rcases e_62 : lp_M_mult_82 ac cl nn 20 lp_ lr ((nn / lp_) / lr) (0 : Int32) stp mus ax au ao mc_ mb_ with _ | ⟨lp__51, lr_52, lu_53, lq_54, stp_55, mus_56, ax_57, au_58, ao_59, mc__60, mb__61⟩
            · rw [e_62] at h; cases h
            rw [e_62, Option.bind_some] at h
            try dsimp only at h
            refine L_82 20 lp_ lr ((nn / lp_) / lr) (0 : Int32) stp mus ax au ao mc_ mb_ lp__51 lr_52 lu_53 lq_54 stp_55 mus_56 ax_57 au_58 ao_59 mc__60 mb__61 e_62 _ _ hP hD hS ls (lv_sub hl [2, 3, 1, 0, 4, 5, 6] rfl) (fun H locs hP hD hS ls hl => ?_)
            refine lv_iinc (v := lr_52 + (1 : Int32)) (lv' := [(4, .int (lr_52 + (1 : Int32))), (3, .int lp__51), (5, .int lu_53), (6, .int lq_54), (0, .ref h0), (1, .int cl), (2, .int nn)]) hx hb d_M_mult_144 hl (k := 1) rfl rfl (by decide) rfl (fun ls hl => ?_)
            refine lv_goto (tgt := 51) hx hb d_M_mult_147 (by decide) ?_
            exact ih lp__51 (lr_52 + (1 : Int32)) stp_55 mus_56 ax_57 au_58 ao_59 mc__60 mb__61 _ _ _ _ _ _ _ _ _ h H locs hP hD hS ls (lv_sub hl [1, 0, 4, 5, 6] rfl) K
          · rw [if_neg c_9] at h
            refine lv_goto (tgt := 144) hx hb d_M_mult_68 (by decide) ?_
            refine lv_iinc (v := lr + (1 : Int32)) (lv' := [(4, .int (lr + (1 : Int32))), (3, .int lp_), (0, .ref h0), (1, .int cl), (2, .int nn)]) hx hb d_M_mult_144 hl (k := 1) rfl rfl (by decide) rfl (fun ls hl => ?_)
            refine lv_goto (tgt := 51) hx hb d_M_mult_147 (by decide) ?_
            exact ih lp_ (lr + (1 : Int32)) stp mus ax au ao mc_ mb_ _ _ _ _ _ _ _ _ _ h H locs hP hD hS ls (lv_sub hl [1, 0, 2, 3, 4] rfl) K
    have L_34 : ∀ (n : Nat) (lp_ : Int32) (stp : Int32) (mus : Int32) (ax : Nat → Int64) (au : Nat → Int64) (ao : Nat → Int32) (mc_ : Int32) (mb_ : Int32) , lp_M_mult_34 ac cl nn n lp_ stp mus ax au ao mc_ mb_ = some r0 → ∀ (H : Heap) (locs : List Loc), va_P D classes ([(h0, .inr (5, [.ref q1, .ref q2, .ref q3, .ref q4, .ref q5, .int cm, .int stp, .ref q6, .ref q7, .ref q8, .int mus, .int mc_, .int mb_, .ref q9])), (q2, .inl (ct.1, 240, .inr (.inl ac))), (q6, .inl (ct.1, 6, .inr (.inl ax))), (q7, .inl (ct.1, 3000, .inr (.inl au))), (q8, .inl (ct.2.2, 500, .inl ao))] ++ wt) H → va_D A ([(h0, .inr (5, [.ref q1, .ref q2, .ref q3, .ref q4, .ref q5, .int cm, .int stp, .ref q6, .ref q7, .ref q8, .int mus, .int mc_, .int mb_, .ref q9])), (q2, .inl (ct.1, 240, .inr (.inl ac))), (q6, .inl (ct.1, 6, .inr (.inl ax))), (q7, .inl (ct.1, 3000, .inr (.inl au))), (q8, .inl (ct.2.2, 500, .inl ao))] ++ wt) → va_S A s.heap H locs → ∀ (ls : Array Slot), lv_has ls 9 [(3, .int lp_), (0, .ref h0), (1, .int cl), (2, .int nn)] → W p l e (headSpec w_M_mult rm_M_mult).room s m ([.ref h0, .int cl, .int nn] : List Value).toArray below meth c H locs 0 0 (MQ below (va_Qv (fun u => u = r0) (fun (u : Int32 × Int32 × (Nat → Int64) × (Nat → Int64) × (Nat → Int32) × Int32 × Int32) t => match u with | (stp', mus', ax', au', ao', mc_', mb_') => va_P D classes ([(h0, .inr (5, [.ref q1, .ref q2, .ref q3, .ref q4, .ref q5, .int cm, .int stp', .ref q6, .ref q7, .ref q8, .int mus', .int mc_', .int mb_', .ref q9])), (q2, .inl (ct.1, 240, .inr (.inl ac))), (q6, .inl (ct.1, 6, .inr (.inl ax'))), (q7, .inl (ct.1, 3000, .inr (.inl au'))), (q8, .inl (ct.2.2, 500, .inl ao'))] ++ wt) t.heap ∧ va_D A ([(h0, .inr (5, [.ref q1, .ref q2, .ref q3, .ref q4, .ref q5, .int cm, .int stp', .ref q6, .ref q7, .ref q8, .int mus', .int mc_', .int mb_', .ref q9])), (q2, .inl (ct.1, 240, .inr (.inl ac))), (q6, .inl (ct.1, 6, .inr (.inl ax'))), (q7, .inl (ct.1, 3000, .inr (.inl au'))), (q8, .inl (ct.2.2, 500, .inl ao'))] ++ wt)) A) ([.ref h0, .int cl, .int nn] : List Value).toArray s 0 0 A) (F0 m 34 ls []) := by
      intro n
      induction n with
      | zero =>
        intro lp_ stp mus ax au ao mc_ mb_  h
        rw [lp_M_mult_34] at h
        cases h
      | succ n ih =>
        intro lp_ stp mus ax au ao mc_ mb_  h H locs hP hD hS ls hl
        rw [lp_M_mult_34] at h
        refine lv_iload_n hx hb d_M_mult_34 rfl (lv_at hl 0 rfl) ?_
        refine lv_iload_n hx hb d_M_mult_35 rfl (lv_at hl 3 rfl) ?_
        refine lv_icmp_gt (tgt := 156) hx hb d_M_mult_36 (by decide) (fun c_2 => ?_) (fun c_2 => ?_)
        · rw [if_pos c_2] at h
          exact W.vret hx hb hr (fun t ht hW => ⟨⟨(stp, mus, ax, au, ao, mc_, mb_), rfl, (Option.some.inj h), by rw [ht]; exact hP, hD⟩, hS.F ht⟩) hS.2.2 d_M_mult_156
        · rw [if_neg c_2] at h
          refine lv_iload_n hx hb d_M_mult_39 rfl (lv_at hl 3 rfl) ?_
          refine lv_iload_n hx hb d_M_mult_40 rfl (lv_at hl 0 rfl) ?_
          by_cases nz_3 : lp_ = 0
          · rw [if_pos nz_3] at h; cases h
          rw [if_neg nz_3] at h
          refine lv_irem hx hb d_M_mult_41 nz_3 ?_
          refine lv_if_eq (tgt := 48) hx hb d_M_mult_42 (by decide) (fun c_4 => ?_) (fun c_4 => ?_)
          · rw [if_pos c_4] at h
            refine lv_iconst (v := (1 : Int32)) hx hb d_M_mult_48 (by decide) ?_
            refine lv_istore (lv' := [(4, .int (1 : Int32)), (3, .int lp_), (0, .ref h0), (1, .int cl), (2, .int nn)]) hx hb d_M_mult_49 hl (by decide) rfl (fun ls hl => ?_)
            rcases e_73 : lp_M_mult_51 ac cl nn 20 lp_ (1 : Int32) stp mus ax au ao mc_ mb_ with _ | ⟨lp__64, lr_65, stp_66, mus_67, ax_68, au_69, ao_70, mc__71, mb__72⟩
            · rw [e_73] at h; cases h
            rw [e_73, Option.bind_some] at h
            try dsimp only at h
            refine L_51 20 lp_ (1 : Int32) stp mus ax au ao mc_ mb_ lp__64 lr_65 stp_66 mus_67 ax_68 au_69 ao_70 mc__71 mb__72 e_73 _ _ hP hD hS ls (lv_sub hl [1, 0, 2, 3, 4] rfl) (fun H locs hP hD hS ls hl => ?_)
            refine lv_iinc (v := lp__64 + (1 : Int32)) (lv' := [(3, .int (lp__64 + (1 : Int32))), (4, .int lr_65), (0, .ref h0), (1, .int cl), (2, .int nn)]) hx hb d_M_mult_150 hl (k := 0) rfl rfl (by decide) rfl (fun ls hl => ?_)
            refine lv_goto (tgt := 34) hx hb d_M_mult_153 (by decide) ?_
            exact ih (lp__64 + (1 : Int32)) stp_66 mus_67 ax_68 au_69 ao_70 mc__71 mb__72 h H locs hP hD hS ls (lv_sub hl [0, 2, 3, 4] rfl)
          · rw [if_neg c_4] at h
            refine lv_goto (tgt := 150) hx hb d_M_mult_45 (by decide) ?_
            refine lv_iinc (v := lp_ + (1 : Int32)) (lv' := [(3, .int (lp_ + (1 : Int32))), (0, .ref h0), (1, .int cl), (2, .int nn)]) hx hb d_M_mult_150 hl (k := 0) rfl rfl (by decide) rfl (fun ls hl => ?_)
            refine lv_goto (tgt := 34) hx hb d_M_mult_153 (by decide) ?_
            exact ih (lp_ + (1 : Int32)) stp mus ax au ao mc_ mb_ h H locs hP hD hS ls (lv_sub hl [0, 1, 2, 3] rfl)
    exact L_34 20 (1 : Int32) stp (0 : Int32) ax au ao cl nn h _ _ hP hD hS ls (lv_sub hl [0, 1, 2, 3] rfl)
  · rw [if_pos c_1] at h
    refine lv_aload_n hx hb d_M_mult_8 rfl (lv_at hl 0 rfl) ?_
    refine va_get (D := D) (ci := 5) (v := .int mb_) (C := R_Model) (T := F_Model) (N := 14) hx hb htg i_Model hown hK hP 0 rfl rfl 12 (by decide) (htg _ tm_410) (fun _ h9 => h9) rfl d_M_mult_9 ?_
    refine lv_iload_n hx hb d_M_mult_12 rfl (lv_at hl 2 rfl) ?_
    refine lv_icmp_ne (tgt := 17) hx hb d_M_mult_13 (by decide) (fun c_75 => ?_) (fun c_75 => ?_)
    · rw [if_neg c_75] at h
      refine lv_aload_n hx hb d_M_mult_17 rfl (lv_at hl 0 rfl) ?_
      refine lv_iload_n hx hb d_M_mult_18 rfl (lv_at hl 1 rfl) ?_
      refine va_put (D := D) (ci := 5) (v := .int cl) (ty := .int) (C := R_Model) (T := F_Model) (N := 14) hx hb htg i_Model t_Model t_Model_ok n_Model hown hK hP hD hS 0 rfl rfl 11 (by decide) (htg _ tm_409) (fun _ h9 => h9) rfl (by decide +kernel) rfl rfl (Nat.le_of_ble_eq_true rfl) d_M_mult_19 (fun H locs hP hD hS => ?_)
      have hP : va_P D classes ([(h0, .inr (5, [.ref q1, .ref q2, .ref q3, .ref q4, .ref q5, .int cm, .int stp, .ref q6, .ref q7, .ref q8, .int mus, .int cl, .int mb_, .ref q9])), (q2, .inl (ct.1, 240, .inr (.inl ac))), (q6, .inl (ct.1, 6, .inr (.inl ax))), (q7, .inl (ct.1, 3000, .inr (.inl au))), (q8, .inl (ct.2.2, 500, .inl ao))] ++ wt) H := hP
      have hD : va_D A ([(h0, .inr (5, [.ref q1, .ref q2, .ref q3, .ref q4, .ref q5, .int cm, .int stp, .ref q6, .ref q7, .ref q8, .int mus, .int cl, .int mb_, .ref q9])), (q2, .inl (ct.1, 240, .inr (.inl ac))), (q6, .inl (ct.1, 6, .inr (.inl ax))), (q7, .inl (ct.1, 3000, .inr (.inl au))), (q8, .inl (ct.2.2, 500, .inl ao))] ++ wt) := hD
      refine lv_aload_n hx hb d_M_mult_22 rfl (lv_at hl 0 rfl) ?_
      refine lv_iload_n hx hb d_M_mult_23 rfl (lv_at hl 2 rfl) ?_
      refine va_put (D := D) (ci := 5) (v := .int nn) (ty := .int) (C := R_Model) (T := F_Model) (N := 14) hx hb htg i_Model t_Model t_Model_ok n_Model hown hK hP hD hS 0 rfl rfl 12 (by decide) (htg _ tm_410) (fun _ h9 => h9) rfl (by decide +kernel) rfl rfl (Nat.le_of_ble_eq_true rfl) d_M_mult_24 (fun H locs hP hD hS => ?_)
      have hP : va_P D classes ([(h0, .inr (5, [.ref q1, .ref q2, .ref q3, .ref q4, .ref q5, .int cm, .int stp, .ref q6, .ref q7, .ref q8, .int mus, .int cl, .int nn, .ref q9])), (q2, .inl (ct.1, 240, .inr (.inl ac))), (q6, .inl (ct.1, 6, .inr (.inl ax))), (q7, .inl (ct.1, 3000, .inr (.inl au))), (q8, .inl (ct.2.2, 500, .inl ao))] ++ wt) H := hP
      have hD : va_D A ([(h0, .inr (5, [.ref q1, .ref q2, .ref q3, .ref q4, .ref q5, .int cm, .int stp, .ref q6, .ref q7, .ref q8, .int mus, .int cl, .int nn, .ref q9])), (q2, .inl (ct.1, 240, .inr (.inl ac))), (q6, .inl (ct.1, 6, .inr (.inl ax))), (q7, .inl (ct.1, 3000, .inr (.inl au))), (q8, .inl (ct.2.2, 500, .inl ao))] ++ wt) := hD
      refine lv_aload_n hx hb d_M_mult_27 rfl (lv_at hl 0 rfl) ?_
      refine lv_iconst (v := (0 : Int32)) hx hb d_M_mult_28 (by decide) ?_
      refine va_put (D := D) (ci := 5) (v := .int (0 : Int32)) (ty := .int) (C := R_Model) (T := F_Model) (N := 14) hx hb htg i_Model t_Model t_Model_ok n_Model hown hK hP hD hS 0 rfl rfl 10 (by decide) (htg _ tm_408) (fun _ h9 => h9) rfl (by decide +kernel) rfl rfl (Nat.le_of_ble_eq_true rfl) d_M_mult_29 (fun H locs hP hD hS => ?_)
      have hP : va_P D classes ([(h0, .inr (5, [.ref q1, .ref q2, .ref q3, .ref q4, .ref q5, .int cm, .int stp, .ref q6, .ref q7, .ref q8, .int (0 : Int32), .int cl, .int nn, .ref q9])), (q2, .inl (ct.1, 240, .inr (.inl ac))), (q6, .inl (ct.1, 6, .inr (.inl ax))), (q7, .inl (ct.1, 3000, .inr (.inl au))), (q8, .inl (ct.2.2, 500, .inl ao))] ++ wt) H := hP
      have hD : va_D A ([(h0, .inr (5, [.ref q1, .ref q2, .ref q3, .ref q4, .ref q5, .int cm, .int stp, .ref q6, .ref q7, .ref q8, .int (0 : Int32), .int cl, .int nn, .ref q9])), (q2, .inl (ct.1, 240, .inr (.inl ac))), (q6, .inl (ct.1, 6, .inr (.inl ax))), (q7, .inl (ct.1, 3000, .inr (.inl au))), (q8, .inl (ct.2.2, 500, .inl ao))] ++ wt) := hD
      refine lv_iconst (v := (1 : Int32)) hx hb d_M_mult_32 (by decide) ?_
      refine lv_istore_n (lv' := [(3, .int (1 : Int32)), (0, .ref h0), (1, .int cl), (2, .int nn)]) hx hb d_M_mult_33 rfl hl (by decide) rfl (fun ls hl => ?_)
      have L_100 : ∀ (n : Nat) (lp_ : Int32) (lr : Int32) (lu : Int32) (lq : Int32) (ls_ : Int32) (lt : Int32) (stp : Int32) (mus : Int32) (ax : Nat → Int64) (au : Nat → Int64) (ao : Nat → Int32) (mc_ : Int32) (mb_ : Int32) (lp_' : Int32) (lr' : Int32) (lu' : Int32) (lq' : Int32) (ls_' : Int32) (lt' : Int32) (stp' : Int32) (mus' : Int32) (ax' : Nat → Int64) (au' : Nat → Int64) (ao' : Nat → Int32) (mc_' : Int32) (mb_' : Int32), lp_M_mult_100 ac cl nn n lp_ lr lu lq ls_ lt stp mus ax au ao mc_ mb_ = some (lp_', lr', lu', lq', ls_', lt', stp', mus', ax', au', ao', mc_', mb_') → ∀ (H : Heap) (locs : List Loc), va_P D classes ([(h0, .inr (5, [.ref q1, .ref q2, .ref q3, .ref q4, .ref q5, .int cm, .int stp, .ref q6, .ref q7, .ref q8, .int mus, .int mc_, .int mb_, .ref q9])), (q2, .inl (ct.1, 240, .inr (.inl ac))), (q6, .inl (ct.1, 6, .inr (.inl ax))), (q7, .inl (ct.1, 3000, .inr (.inl au))), (q8, .inl (ct.2.2, 500, .inl ao))] ++ wt) H → va_D A ([(h0, .inr (5, [.ref q1, .ref q2, .ref q3, .ref q4, .ref q5, .int cm, .int stp, .ref q6, .ref q7, .ref q8, .int mus, .int mc_, .int mb_, .ref q9])), (q2, .inl (ct.1, 240, .inr (.inl ac))), (q6, .inl (ct.1, 6, .inr (.inl ax))), (q7, .inl (ct.1, 3000, .inr (.inl au))), (q8, .inl (ct.2.2, 500, .inl ao))] ++ wt) → va_S A s.heap H locs → ∀ (ls : Array Slot), lv_has ls 9 [(3, .int lp_), (4, .int lr), (5, .int lu), (6, .int lq), (7, .int ls_), (8, .int lt), (0, .ref h0), (1, .int cl), (2, .int nn)] → (∀ (H : Heap) (locs : List Loc), va_P D classes ([(h0, .inr (5, [.ref q1, .ref q2, .ref q3, .ref q4, .ref q5, .int cm, .int stp', .ref q6, .ref q7, .ref q8, .int mus', .int mc_', .int mb_', .ref q9])), (q2, .inl (ct.1, 240, .inr (.inl ac))), (q6, .inl (ct.1, 6, .inr (.inl ax'))), (q7, .inl (ct.1, 3000, .inr (.inl au'))), (q8, .inl (ct.2.2, 500, .inl ao'))] ++ wt) H → va_D A ([(h0, .inr (5, [.ref q1, .ref q2, .ref q3, .ref q4, .ref q5, .int cm, .int stp', .ref q6, .ref q7, .ref q8, .int mus', .int mc_', .int mb_', .ref q9])), (q2, .inl (ct.1, 240, .inr (.inl ac))), (q6, .inl (ct.1, 6, .inr (.inl ax'))), (q7, .inl (ct.1, 3000, .inr (.inl au'))), (q8, .inl (ct.2.2, 500, .inl ao'))] ++ wt) → va_S A s.heap H locs → ∀ (ls : Array Slot), lv_has ls 9 [(3, .int lp_'), (4, .int lr'), (5, .int lu'), (6, .int lq'), (7, .int ls_'), (8, .int lt'), (0, .ref h0), (1, .int cl), (2, .int nn)] → W p l e (headSpec w_M_mult rm_M_mult).room s m ([.ref h0, .int cl, .int nn] : List Value).toArray below meth c H locs 0 0 (MQ below (va_Qv (fun u => u = r0) (fun (u : Int32 × Int32 × (Nat → Int64) × (Nat → Int64) × (Nat → Int32) × Int32 × Int32) t => match u with | (stp', mus', ax', au', ao', mc_', mb_') => va_P D classes ([(h0, .inr (5, [.ref q1, .ref q2, .ref q3, .ref q4, .ref q5, .int cm, .int stp', .ref q6, .ref q7, .ref q8, .int mus', .int mc_', .int mb_', .ref q9])), (q2, .inl (ct.1, 240, .inr (.inl ac))), (q6, .inl (ct.1, 6, .inr (.inl ax'))), (q7, .inl (ct.1, 3000, .inr (.inl au'))), (q8, .inl (ct.2.2, 500, .inl ao'))] ++ wt) t.heap ∧ va_D A ([(h0, .inr (5, [.ref q1, .ref q2, .ref q3, .ref q4, .ref q5, .int cm, .int stp', .ref q6, .ref q7, .ref q8, .int mus', .int mc_', .int mb_', .ref q9])), (q2, .inl (ct.1, 240, .inr (.inl ac))), (q6, .inl (ct.1, 6, .inr (.inl ax'))), (q7, .inl (ct.1, 3000, .inr (.inl au'))), (q8, .inl (ct.2.2, 500, .inl ao'))] ++ wt)) A) ([.ref h0, .int cl, .int nn] : List Value).toArray s 0 0 A) (F0 m 132 ls [])) → W p l e (headSpec w_M_mult rm_M_mult).room s m ([.ref h0, .int cl, .int nn] : List Value).toArray below meth c H locs 0 0 (MQ below (va_Qv (fun u => u = r0) (fun (u : Int32 × Int32 × (Nat → Int64) × (Nat → Int64) × (Nat → Int32) × Int32 × Int32) t => match u with | (stp', mus', ax', au', ao', mc_', mb_') => va_P D classes ([(h0, .inr (5, [.ref q1, .ref q2, .ref q3, .ref q4, .ref q5, .int cm, .int stp', .ref q6, .ref q7, .ref q8, .int mus', .int mc_', .int mb_', .ref q9])), (q2, .inl (ct.1, 240, .inr (.inl ac))), (q6, .inl (ct.1, 6, .inr (.inl ax'))), (q7, .inl (ct.1, 3000, .inr (.inl au'))), (q8, .inl (ct.2.2, 500, .inl ao'))] ++ wt) t.heap ∧ va_D A ([(h0, .inr (5, [.ref q1, .ref q2, .ref q3, .ref q4, .ref q5, .int cm, .int stp', .ref q6, .ref q7, .ref q8, .int mus', .int mc_', .int mb_', .ref q9])), (q2, .inl (ct.1, 240, .inr (.inl ac))), (q6, .inl (ct.1, 6, .inr (.inl ax'))), (q7, .inl (ct.1, 3000, .inr (.inl au'))), (q8, .inl (ct.2.2, 500, .inl ao'))] ++ wt)) A) ([.ref h0, .int cl, .int nn] : List Value).toArray s 0 0 A) (F0 m 100 ls []) := by
        intro n
        induction n with
        | zero =>
          intro lp_ lr lu lq ls_ lt stp mus ax au ao mc_ mb_ lp_' lr' lu' lq' ls_' lt' stp' mus' ax' au' ao' mc_' mb_' h
          rw [lp_M_mult_100] at h
          cases h
        | succ n ih =>
          intro lp_ lr lu lq ls_ lt stp mus ax au ao mc_ mb_ lp_' lr' lu' lq' ls_' lt' stp' mus' ax' au' ao' mc_' mb_' h H locs hP hD hS ls hl K
          rw [lp_M_mult_100] at h
          refine lv_iload hx hb d_M_mult_100 (lv_at hl 5 rfl) ?_
          refine lv_iload hx hb d_M_mult_102 (lv_at hl 1 rfl) ?_
          refine lv_icmp_ge (tgt := 132) hx hb d_M_mult_104 (by decide) (fun c_88 => ?_) (fun c_88 => ?_)
          · rw [if_pos c_88] at h
            cases h
            exact K _ _ hP hD hS _ (lv_sub hl [0, 1, 2, 3, 4, 5, 6, 7, 8] rfl)
          · rw [if_neg c_88] at h
            refine lv_aload_n hx hb d_M_mult_107 rfl (lv_at hl 6 rfl) ?_
            refine lv_bipush (v := (6 : Int32)) hx hb d_M_mult_108 (by decide) ?_
            refine lv_iload_n hx hb d_M_mult_110 rfl (lv_at hl 7 rfl) ?_
            refine lv_imul hx hb d_M_mult_111 ?_
            refine lv_iload_n hx hb d_M_mult_112 rfl (lv_at hl 0 rfl) ?_
            refine lv_iload hx hb d_M_mult_113 (lv_at hl 3 rfl) ?_
            refine lv_iload hx hb d_M_mult_115 (lv_at hl 1 rfl) ?_
            refine lv_iload hx hb d_M_mult_117 (lv_at hl 4 rfl) ?_
            refine lv_iload hx hb d_M_mult_119 (lv_at hl 5 rfl) ?_
            refine lv_iload hx hb d_M_mult_121 (lv_at hl 2 rfl) ?_
            rcases e_94 : f_M_one ac stp mus ax au ao ((6 : Int32) * cl) lp_ lq lr ls_ lt lu with _ | ⟨stp_89, mus_90, ax_91, au_92, ao_93⟩
            · rw [e_94] at h; cases h
            rw [e_94, Option.bind_some] at h
            try dsimp only at h
            refine va_callv (va_runV (As := [.int ((6 : Int32) * cl), .int lp_, .int lq, .int lr, .int ls_, .int lt, .int lu]) (rest := []) ⟨hx, hb, hml, hown, htg⟩ (c_M_one l D ct A ([] ++ wt)  h0 q1 q2 q3 q4 q5 q6 q7 q8 q9 cm stp mus mc_ mb_ ac ax au ao ((6 : Int32) * cl) lp_ lq lr ls_ lt lu   _ e_94) (cwV 7 htg (giV tm_514 tm_516 tm_28 tm_34 g_M_one) rfl rfl rfl (by decide +kernel) ⟨Nat.le_of_ble_eq_true rfl, Nat.le_of_ble_eq_true rfl⟩) (preVM hA hS hP hD hKK (va_recv hK hP (ci := 5) (q0 := 0) rfl rfl)) rfl rfl hl.1 rfl (lv_room (Nat.le_of_ble_eq_true rfl)) d_M_mult_123 ⟨Nat.le_of_ble_eq_true rfl, Nat.le_of_ble_eq_true rfl⟩) hS (fun q _ h9 => h9) (fun q h9 => h9) (fun u9 t9 H locs ht9 hvm9 hw9 hB9 hz9 hk9 hS => ?_)
            rw [hw9] at hB9
            obtain ⟨hP, hD⟩ := hB9
            rw [ht9] at hP
            have hP : va_P D classes ([(h0, .inr (5, [.ref q1, .ref q2, .ref q3, .ref q4, .ref q5, .int cm, .int stp_89, .ref q6, .ref q7, .ref q8, .int mus_90, .int mc_, .int mb_, .ref q9])), (q2, .inl (ct.1, 240, .inr (.inl ac))), (q6, .inl (ct.1, 6, .inr (.inl ax_91))), (q7, .inl (ct.1, 3000, .inr (.inl au_92))), (q8, .inl (ct.2.2, 500, .inl ao_93))] ++ wt) H := hP
            have hD : va_D A ([(h0, .inr (5, [.ref q1, .ref q2, .ref q3, .ref q4, .ref q5, .int cm, .int stp_89, .ref q6, .ref q7, .ref q8, .int mus_90, .int mc_, .int mb_, .ref q9])), (q2, .inl (ct.1, 240, .inr (.inl ac))), (q6, .inl (ct.1, 6, .inr (.inl ax_91))), (q7, .inl (ct.1, 3000, .inr (.inl au_92))), (q8, .inl (ct.2.2, 500, .inl ao_93))] ++ wt) := hD
            refine lv_iinc (v := lt + (1 : Int32)) (lv' := [(8, .int (lt + (1 : Int32))), (3, .int lp_), (4, .int lr), (5, .int lu), (6, .int lq), (7, .int ls_), (0, .ref h0), (1, .int cl), (2, .int nn)]) hx hb d_M_mult_126 hl (k := 5) rfl rfl (by decide) rfl (fun ls hl => ?_)
            refine lv_goto (tgt := 100) hx hb d_M_mult_129 (by decide) ?_
            exact ih lp_ lr lu lq ls_ (lt + (1 : Int32)) stp_89 mus_90 ax_91 au_92 ao_93 mc_ mb_ _ _ _ _ _ _ _ _ _ _ _ _ _ h H locs hP hD hS ls (lv_sub hl [1, 2, 3, 4, 5, 0, 6, 7, 8] rfl) K
      have L_91 : ∀ (n : Nat) (lp_ : Int32) (lr : Int32) (lu : Int32) (lq : Int32) (ls_ : Int32) (stp : Int32) (mus : Int32) (ax : Nat → Int64) (au : Nat → Int64) (ao : Nat → Int32) (mc_ : Int32) (mb_ : Int32) (lp_' : Int32) (lr' : Int32) (lu' : Int32) (lq' : Int32) (ls_' : Int32) (stp' : Int32) (mus' : Int32) (ax' : Nat → Int64) (au' : Nat → Int64) (ao' : Nat → Int32) (mc_' : Int32) (mb_' : Int32), lp_M_mult_91 ac cl nn n lp_ lr lu lq ls_ stp mus ax au ao mc_ mb_ = some (lp_', lr', lu', lq', ls_', stp', mus', ax', au', ao', mc_', mb_') → ∀ (H : Heap) (locs : List Loc), va_P D classes ([(h0, .inr (5, [.ref q1, .ref q2, .ref q3, .ref q4, .ref q5, .int cm, .int stp, .ref q6, .ref q7, .ref q8, .int mus, .int mc_, .int mb_, .ref q9])), (q2, .inl (ct.1, 240, .inr (.inl ac))), (q6, .inl (ct.1, 6, .inr (.inl ax))), (q7, .inl (ct.1, 3000, .inr (.inl au))), (q8, .inl (ct.2.2, 500, .inl ao))] ++ wt) H → va_D A ([(h0, .inr (5, [.ref q1, .ref q2, .ref q3, .ref q4, .ref q5, .int cm, .int stp, .ref q6, .ref q7, .ref q8, .int mus, .int mc_, .int mb_, .ref q9])), (q2, .inl (ct.1, 240, .inr (.inl ac))), (q6, .inl (ct.1, 6, .inr (.inl ax))), (q7, .inl (ct.1, 3000, .inr (.inl au))), (q8, .inl (ct.2.2, 500, .inl ao))] ++ wt) → va_S A s.heap H locs → ∀ (ls : Array Slot), lv_has ls 9 [(3, .int lp_), (4, .int lr), (5, .int lu), (6, .int lq), (7, .int ls_), (0, .ref h0), (1, .int cl), (2, .int nn)] → (∀ (H : Heap) (locs : List Loc), va_P D classes ([(h0, .inr (5, [.ref q1, .ref q2, .ref q3, .ref q4, .ref q5, .int cm, .int stp', .ref q6, .ref q7, .ref q8, .int mus', .int mc_', .int mb_', .ref q9])), (q2, .inl (ct.1, 240, .inr (.inl ac))), (q6, .inl (ct.1, 6, .inr (.inl ax'))), (q7, .inl (ct.1, 3000, .inr (.inl au'))), (q8, .inl (ct.2.2, 500, .inl ao'))] ++ wt) H → va_D A ([(h0, .inr (5, [.ref q1, .ref q2, .ref q3, .ref q4, .ref q5, .int cm, .int stp', .ref q6, .ref q7, .ref q8, .int mus', .int mc_', .int mb_', .ref q9])), (q2, .inl (ct.1, 240, .inr (.inl ac))), (q6, .inl (ct.1, 6, .inr (.inl ax'))), (q7, .inl (ct.1, 3000, .inr (.inl au'))), (q8, .inl (ct.2.2, 500, .inl ao'))] ++ wt) → va_S A s.heap H locs → ∀ (ls : Array Slot), lv_has ls 9 [(3, .int lp_'), (4, .int lr'), (5, .int lu'), (6, .int lq'), (7, .int ls_'), (0, .ref h0), (1, .int cl), (2, .int nn)] → W p l e (headSpec w_M_mult rm_M_mult).room s m ([.ref h0, .int cl, .int nn] : List Value).toArray below meth c H locs 0 0 (MQ below (va_Qv (fun u => u = r0) (fun (u : Int32 × Int32 × (Nat → Int64) × (Nat → Int64) × (Nat → Int32) × Int32 × Int32) t => match u with | (stp', mus', ax', au', ao', mc_', mb_') => va_P D classes ([(h0, .inr (5, [.ref q1, .ref q2, .ref q3, .ref q4, .ref q5, .int cm, .int stp', .ref q6, .ref q7, .ref q8, .int mus', .int mc_', .int mb_', .ref q9])), (q2, .inl (ct.1, 240, .inr (.inl ac))), (q6, .inl (ct.1, 6, .inr (.inl ax'))), (q7, .inl (ct.1, 3000, .inr (.inl au'))), (q8, .inl (ct.2.2, 500, .inl ao'))] ++ wt) t.heap ∧ va_D A ([(h0, .inr (5, [.ref q1, .ref q2, .ref q3, .ref q4, .ref q5, .int cm, .int stp', .ref q6, .ref q7, .ref q8, .int mus', .int mc_', .int mb_', .ref q9])), (q2, .inl (ct.1, 240, .inr (.inl ac))), (q6, .inl (ct.1, 6, .inr (.inl ax'))), (q7, .inl (ct.1, 3000, .inr (.inl au'))), (q8, .inl (ct.2.2, 500, .inl ao'))] ++ wt)) A) ([.ref h0, .int cl, .int nn] : List Value).toArray s 0 0 A) (F0 m 138 ls [])) → W p l e (headSpec w_M_mult rm_M_mult).room s m ([.ref h0, .int cl, .int nn] : List Value).toArray below meth c H locs 0 0 (MQ below (va_Qv (fun u => u = r0) (fun (u : Int32 × Int32 × (Nat → Int64) × (Nat → Int64) × (Nat → Int32) × Int32 × Int32) t => match u with | (stp', mus', ax', au', ao', mc_', mb_') => va_P D classes ([(h0, .inr (5, [.ref q1, .ref q2, .ref q3, .ref q4, .ref q5, .int cm, .int stp', .ref q6, .ref q7, .ref q8, .int mus', .int mc_', .int mb_', .ref q9])), (q2, .inl (ct.1, 240, .inr (.inl ac))), (q6, .inl (ct.1, 6, .inr (.inl ax'))), (q7, .inl (ct.1, 3000, .inr (.inl au'))), (q8, .inl (ct.2.2, 500, .inl ao'))] ++ wt) t.heap ∧ va_D A ([(h0, .inr (5, [.ref q1, .ref q2, .ref q3, .ref q4, .ref q5, .int cm, .int stp', .ref q6, .ref q7, .ref q8, .int mus', .int mc_', .int mb_', .ref q9])), (q2, .inl (ct.1, 240, .inr (.inl ac))), (q6, .inl (ct.1, 6, .inr (.inl ax'))), (q7, .inl (ct.1, 3000, .inr (.inl au'))), (q8, .inl (ct.2.2, 500, .inl ao'))] ++ wt)) A) ([.ref h0, .int cl, .int nn] : List Value).toArray s 0 0 A) (F0 m 91 ls []) := by
        intro n
        induction n with
        | zero =>
          intro lp_ lr lu lq ls_ stp mus ax au ao mc_ mb_ lp_' lr' lu' lq' ls_' stp' mus' ax' au' ao' mc_' mb_' h
          rw [lp_M_mult_91] at h
          cases h
        | succ n ih =>
          intro lp_ lr lu lq ls_ stp mus ax au ao mc_ mb_ lp_' lr' lu' lq' ls_' stp' mus' ax' au' ao' mc_' mb_' h H locs hP hD hS ls hl K
          rw [lp_M_mult_91] at h
          refine lv_iload hx hb d_M_mult_91 (lv_at hl 4 rfl) ?_
          refine lv_iload_n hx hb d_M_mult_93 rfl (lv_at hl 0 rfl) ?_
          refine lv_icmp_ge (tgt := 138) hx hb d_M_mult_94 (by decide) (fun c_87 => ?_) (fun c_87 => ?_)
          · rw [if_pos c_87] at h
            cases h
            exact K _ _ hP hD hS _ (lv_sub hl [0, 1, 2, 3, 4, 5, 6, 7] rfl)
          · rw [if_neg c_87] at h
            refine lv_iconst (v := (0 : Int32)) hx hb d_M_mult_97 (by decide) ?_
            refine lv_istore (lv' := [(8, .int (0 : Int32)), (3, .int lp_), (4, .int lr), (5, .int lu), (6, .int lq), (7, .int ls_), (0, .ref h0), (1, .int cl), (2, .int nn)]) hx hb d_M_mult_98 hl (by decide) rfl (fun ls hl => ?_)
            rcases e_109 : lp_M_mult_100 ac cl nn 20 lp_ lr lu lq ls_ (0 : Int32) stp mus ax au ao mc_ mb_ with _ | ⟨lp__96, lr_97, lu_98, lq_99, ls__100, lt_101, stp_102, mus_103, ax_104, au_105, ao_106, mc__107, mb__108⟩
            · rw [e_109] at h; cases h
            rw [e_109, Option.bind_some] at h
            try dsimp only at h
            refine L_100 20 lp_ lr lu lq ls_ (0 : Int32) stp mus ax au ao mc_ mb_ lp__96 lr_97 lu_98 lq_99 ls__100 lt_101 stp_102 mus_103 ax_104 au_105 ao_106 mc__107 mb__108 e_109 _ _ hP hD hS ls (lv_sub hl [1, 2, 3, 4, 5, 0, 6, 7, 8] rfl) (fun H locs hP hD hS ls hl => ?_)
            refine lv_iinc (v := ls__100 + (1 : Int32)) (lv' := [(7, .int (ls__100 + (1 : Int32))), (3, .int lp__96), (4, .int lr_97), (5, .int lu_98), (6, .int lq_99), (8, .int lt_101), (0, .ref h0), (1, .int cl), (2, .int nn)]) hx hb d_M_mult_132 hl (k := 4) rfl rfl (by decide) rfl (fun ls hl => ?_)
            refine lv_goto (tgt := 91) hx hb d_M_mult_135 (by decide) ?_
            exact ih lp__96 lr_97 lu_98 lq_99 (ls__100 + (1 : Int32)) stp_102 mus_103 ax_104 au_105 ao_106 mc__107 mb__108 _ _ _ _ _ _ _ _ _ _ _ _ h H locs hP hD hS ls (lv_sub hl [1, 2, 3, 4, 0, 6, 7, 8] rfl) K
      have L_82 : ∀ (n : Nat) (lp_ : Int32) (lr : Int32) (lu : Int32) (lq : Int32) (stp : Int32) (mus : Int32) (ax : Nat → Int64) (au : Nat → Int64) (ao : Nat → Int32) (mc_ : Int32) (mb_ : Int32) (lp_' : Int32) (lr' : Int32) (lu' : Int32) (lq' : Int32) (stp' : Int32) (mus' : Int32) (ax' : Nat → Int64) (au' : Nat → Int64) (ao' : Nat → Int32) (mc_' : Int32) (mb_' : Int32), lp_M_mult_82 ac cl nn n lp_ lr lu lq stp mus ax au ao mc_ mb_ = some (lp_', lr', lu', lq', stp', mus', ax', au', ao', mc_', mb_') → ∀ (H : Heap) (locs : List Loc), va_P D classes ([(h0, .inr (5, [.ref q1, .ref q2, .ref q3, .ref q4, .ref q5, .int cm, .int stp, .ref q6, .ref q7, .ref q8, .int mus, .int mc_, .int mb_, .ref q9])), (q2, .inl (ct.1, 240, .inr (.inl ac))), (q6, .inl (ct.1, 6, .inr (.inl ax))), (q7, .inl (ct.1, 3000, .inr (.inl au))), (q8, .inl (ct.2.2, 500, .inl ao))] ++ wt) H → va_D A ([(h0, .inr (5, [.ref q1, .ref q2, .ref q3, .ref q4, .ref q5, .int cm, .int stp, .ref q6, .ref q7, .ref q8, .int mus, .int mc_, .int mb_, .ref q9])), (q2, .inl (ct.1, 240, .inr (.inl ac))), (q6, .inl (ct.1, 6, .inr (.inl ax))), (q7, .inl (ct.1, 3000, .inr (.inl au))), (q8, .inl (ct.2.2, 500, .inl ao))] ++ wt) → va_S A s.heap H locs → ∀ (ls : Array Slot), lv_has ls 9 [(3, .int lp_), (4, .int lr), (5, .int lu), (6, .int lq), (0, .ref h0), (1, .int cl), (2, .int nn)] → (∀ (H : Heap) (locs : List Loc), va_P D classes ([(h0, .inr (5, [.ref q1, .ref q2, .ref q3, .ref q4, .ref q5, .int cm, .int stp', .ref q6, .ref q7, .ref q8, .int mus', .int mc_', .int mb_', .ref q9])), (q2, .inl (ct.1, 240, .inr (.inl ac))), (q6, .inl (ct.1, 6, .inr (.inl ax'))), (q7, .inl (ct.1, 3000, .inr (.inl au'))), (q8, .inl (ct.2.2, 500, .inl ao'))] ++ wt) H → va_D A ([(h0, .inr (5, [.ref q1, .ref q2, .ref q3, .ref q4, .ref q5, .int cm, .int stp', .ref q6, .ref q7, .ref q8, .int mus', .int mc_', .int mb_', .ref q9])), (q2, .inl (ct.1, 240, .inr (.inl ac))), (q6, .inl (ct.1, 6, .inr (.inl ax'))), (q7, .inl (ct.1, 3000, .inr (.inl au'))), (q8, .inl (ct.2.2, 500, .inl ao'))] ++ wt) → va_S A s.heap H locs → ∀ (ls : Array Slot), lv_has ls 9 [(3, .int lp_'), (4, .int lr'), (5, .int lu'), (6, .int lq'), (0, .ref h0), (1, .int cl), (2, .int nn)] → W p l e (headSpec w_M_mult rm_M_mult).room s m ([.ref h0, .int cl, .int nn] : List Value).toArray below meth c H locs 0 0 (MQ below (va_Qv (fun u => u = r0) (fun (u : Int32 × Int32 × (Nat → Int64) × (Nat → Int64) × (Nat → Int32) × Int32 × Int32) t => match u with | (stp', mus', ax', au', ao', mc_', mb_') => va_P D classes ([(h0, .inr (5, [.ref q1, .ref q2, .ref q3, .ref q4, .ref q5, .int cm, .int stp', .ref q6, .ref q7, .ref q8, .int mus', .int mc_', .int mb_', .ref q9])), (q2, .inl (ct.1, 240, .inr (.inl ac))), (q6, .inl (ct.1, 6, .inr (.inl ax'))), (q7, .inl (ct.1, 3000, .inr (.inl au'))), (q8, .inl (ct.2.2, 500, .inl ao'))] ++ wt) t.heap ∧ va_D A ([(h0, .inr (5, [.ref q1, .ref q2, .ref q3, .ref q4, .ref q5, .int cm, .int stp', .ref q6, .ref q7, .ref q8, .int mus', .int mc_', .int mb_', .ref q9])), (q2, .inl (ct.1, 240, .inr (.inl ac))), (q6, .inl (ct.1, 6, .inr (.inl ax'))), (q7, .inl (ct.1, 3000, .inr (.inl au'))), (q8, .inl (ct.2.2, 500, .inl ao'))] ++ wt)) A) ([.ref h0, .int cl, .int nn] : List Value).toArray s 0 0 A) (F0 m 144 ls [])) → W p l e (headSpec w_M_mult rm_M_mult).room s m ([.ref h0, .int cl, .int nn] : List Value).toArray below meth c H locs 0 0 (MQ below (va_Qv (fun u => u = r0) (fun (u : Int32 × Int32 × (Nat → Int64) × (Nat → Int64) × (Nat → Int32) × Int32 × Int32) t => match u with | (stp', mus', ax', au', ao', mc_', mb_') => va_P D classes ([(h0, .inr (5, [.ref q1, .ref q2, .ref q3, .ref q4, .ref q5, .int cm, .int stp', .ref q6, .ref q7, .ref q8, .int mus', .int mc_', .int mb_', .ref q9])), (q2, .inl (ct.1, 240, .inr (.inl ac))), (q6, .inl (ct.1, 6, .inr (.inl ax'))), (q7, .inl (ct.1, 3000, .inr (.inl au'))), (q8, .inl (ct.2.2, 500, .inl ao'))] ++ wt) t.heap ∧ va_D A ([(h0, .inr (5, [.ref q1, .ref q2, .ref q3, .ref q4, .ref q5, .int cm, .int stp', .ref q6, .ref q7, .ref q8, .int mus', .int mc_', .int mb_', .ref q9])), (q2, .inl (ct.1, 240, .inr (.inl ac))), (q6, .inl (ct.1, 6, .inr (.inl ax'))), (q7, .inl (ct.1, 3000, .inr (.inl au'))), (q8, .inl (ct.2.2, 500, .inl ao'))] ++ wt)) A) ([.ref h0, .int cl, .int nn] : List Value).toArray s 0 0 A) (F0 m 82 ls []) := by
        intro n
        induction n with
        | zero =>
          intro lp_ lr lu lq stp mus ax au ao mc_ mb_ lp_' lr' lu' lq' stp' mus' ax' au' ao' mc_' mb_' h
          rw [lp_M_mult_82] at h
          cases h
        | succ n ih =>
          intro lp_ lr lu lq stp mus ax au ao mc_ mb_ lp_' lr' lu' lq' stp' mus' ax' au' ao' mc_' mb_' h H locs hP hD hS ls hl K
          rw [lp_M_mult_82] at h
          refine lv_iload hx hb d_M_mult_82 (lv_at hl 3 rfl) ?_
          refine lv_iload_n hx hb d_M_mult_84 rfl (lv_at hl 0 rfl) ?_
          refine lv_icmp_ge (tgt := 144) hx hb d_M_mult_85 (by decide) (fun c_86 => ?_) (fun c_86 => ?_)
          · rw [if_pos c_86] at h
            cases h
            exact K _ _ hP hD hS _ (lv_sub hl [0, 1, 2, 3, 4, 5, 6] rfl)
          · rw [if_neg c_86] at h
            refine lv_iconst (v := (0 : Int32)) hx hb d_M_mult_88 (by decide) ?_
            refine lv_istore (lv' := [(7, .int (0 : Int32)), (3, .int lp_), (4, .int lr), (5, .int lu), (6, .int lq), (0, .ref h0), (1, .int cl), (2, .int nn)]) hx hb d_M_mult_89 hl (by decide) rfl (fun ls hl => ?_)
            rcases e_123 : lp_M_mult_91 ac cl nn 20 lp_ lr lu lq (0 : Int32) stp mus ax au ao mc_ mb_ with _ | ⟨lp__111, lr_112, lu_113, lq_114, ls__115, stp_116, mus_117, ax_118, au_119, ao_120, mc__121, mb__122⟩
            · rw [e_123] at h; cases h
            rw [e_123, Option.bind_some] at h
            try dsimp only at h
            refine L_91 20 lp_ lr lu lq (0 : Int32) stp mus ax au ao mc_ mb_ lp__111 lr_112 lu_113 lq_114 ls__115 stp_116 mus_117 ax_118 au_119 ao_120 mc__121 mb__122 e_123 _ _ hP hD hS ls (lv_sub hl [1, 2, 3, 4, 0, 5, 6, 7] rfl) (fun H locs hP hD hS ls hl => ?_)
            refine lv_iinc (v := lq_114 + (1 : Int32)) (lv' := [(6, .int (lq_114 + (1 : Int32))), (3, .int lp__111), (4, .int lr_112), (5, .int lu_113), (7, .int ls__115), (0, .ref h0), (1, .int cl), (2, .int nn)]) hx hb d_M_mult_138 hl (k := 3) rfl rfl (by decide) rfl (fun ls hl => ?_)
            refine lv_goto (tgt := 82) hx hb d_M_mult_141 (by decide) ?_
            exact ih lp__111 lr_112 lu_113 (lq_114 + (1 : Int32)) stp_116 mus_117 ax_118 au_119 ao_120 mc__121 mb__122 _ _ _ _ _ _ _ _ _ _ _ h H locs hP hD hS ls (lv_sub hl [1, 2, 3, 0, 5, 6, 7] rfl) K
      have L_51 : ∀ (n : Nat) (lp_ : Int32) (lr : Int32) (stp : Int32) (mus : Int32) (ax : Nat → Int64) (au : Nat → Int64) (ao : Nat → Int32) (mc_ : Int32) (mb_ : Int32) (lp_' : Int32) (lr' : Int32) (stp' : Int32) (mus' : Int32) (ax' : Nat → Int64) (au' : Nat → Int64) (ao' : Nat → Int32) (mc_' : Int32) (mb_' : Int32), lp_M_mult_51 ac cl nn n lp_ lr stp mus ax au ao mc_ mb_ = some (lp_', lr', stp', mus', ax', au', ao', mc_', mb_') → ∀ (H : Heap) (locs : List Loc), va_P D classes ([(h0, .inr (5, [.ref q1, .ref q2, .ref q3, .ref q4, .ref q5, .int cm, .int stp, .ref q6, .ref q7, .ref q8, .int mus, .int mc_, .int mb_, .ref q9])), (q2, .inl (ct.1, 240, .inr (.inl ac))), (q6, .inl (ct.1, 6, .inr (.inl ax))), (q7, .inl (ct.1, 3000, .inr (.inl au))), (q8, .inl (ct.2.2, 500, .inl ao))] ++ wt) H → va_D A ([(h0, .inr (5, [.ref q1, .ref q2, .ref q3, .ref q4, .ref q5, .int cm, .int stp, .ref q6, .ref q7, .ref q8, .int mus, .int mc_, .int mb_, .ref q9])), (q2, .inl (ct.1, 240, .inr (.inl ac))), (q6, .inl (ct.1, 6, .inr (.inl ax))), (q7, .inl (ct.1, 3000, .inr (.inl au))), (q8, .inl (ct.2.2, 500, .inl ao))] ++ wt) → va_S A s.heap H locs → ∀ (ls : Array Slot), lv_has ls 9 [(3, .int lp_), (4, .int lr), (0, .ref h0), (1, .int cl), (2, .int nn)] → (∀ (H : Heap) (locs : List Loc), va_P D classes ([(h0, .inr (5, [.ref q1, .ref q2, .ref q3, .ref q4, .ref q5, .int cm, .int stp', .ref q6, .ref q7, .ref q8, .int mus', .int mc_', .int mb_', .ref q9])), (q2, .inl (ct.1, 240, .inr (.inl ac))), (q6, .inl (ct.1, 6, .inr (.inl ax'))), (q7, .inl (ct.1, 3000, .inr (.inl au'))), (q8, .inl (ct.2.2, 500, .inl ao'))] ++ wt) H → va_D A ([(h0, .inr (5, [.ref q1, .ref q2, .ref q3, .ref q4, .ref q5, .int cm, .int stp', .ref q6, .ref q7, .ref q8, .int mus', .int mc_', .int mb_', .ref q9])), (q2, .inl (ct.1, 240, .inr (.inl ac))), (q6, .inl (ct.1, 6, .inr (.inl ax'))), (q7, .inl (ct.1, 3000, .inr (.inl au'))), (q8, .inl (ct.2.2, 500, .inl ao'))] ++ wt) → va_S A s.heap H locs → ∀ (ls : Array Slot), lv_has ls 9 [(3, .int lp_'), (4, .int lr'), (0, .ref h0), (1, .int cl), (2, .int nn)] → W p l e (headSpec w_M_mult rm_M_mult).room s m ([.ref h0, .int cl, .int nn] : List Value).toArray below meth c H locs 0 0 (MQ below (va_Qv (fun u => u = r0) (fun (u : Int32 × Int32 × (Nat → Int64) × (Nat → Int64) × (Nat → Int32) × Int32 × Int32) t => match u with | (stp', mus', ax', au', ao', mc_', mb_') => va_P D classes ([(h0, .inr (5, [.ref q1, .ref q2, .ref q3, .ref q4, .ref q5, .int cm, .int stp', .ref q6, .ref q7, .ref q8, .int mus', .int mc_', .int mb_', .ref q9])), (q2, .inl (ct.1, 240, .inr (.inl ac))), (q6, .inl (ct.1, 6, .inr (.inl ax'))), (q7, .inl (ct.1, 3000, .inr (.inl au'))), (q8, .inl (ct.2.2, 500, .inl ao'))] ++ wt) t.heap ∧ va_D A ([(h0, .inr (5, [.ref q1, .ref q2, .ref q3, .ref q4, .ref q5, .int cm, .int stp', .ref q6, .ref q7, .ref q8, .int mus', .int mc_', .int mb_', .ref q9])), (q2, .inl (ct.1, 240, .inr (.inl ac))), (q6, .inl (ct.1, 6, .inr (.inl ax'))), (q7, .inl (ct.1, 3000, .inr (.inl au'))), (q8, .inl (ct.2.2, 500, .inl ao'))] ++ wt)) A) ([.ref h0, .int cl, .int nn] : List Value).toArray s 0 0 A) (F0 m 150 ls [])) → W p l e (headSpec w_M_mult rm_M_mult).room s m ([.ref h0, .int cl, .int nn] : List Value).toArray below meth c H locs 0 0 (MQ below (va_Qv (fun u => u = r0) (fun (u : Int32 × Int32 × (Nat → Int64) × (Nat → Int64) × (Nat → Int32) × Int32 × Int32) t => match u with | (stp', mus', ax', au', ao', mc_', mb_') => va_P D classes ([(h0, .inr (5, [.ref q1, .ref q2, .ref q3, .ref q4, .ref q5, .int cm, .int stp', .ref q6, .ref q7, .ref q8, .int mus', .int mc_', .int mb_', .ref q9])), (q2, .inl (ct.1, 240, .inr (.inl ac))), (q6, .inl (ct.1, 6, .inr (.inl ax'))), (q7, .inl (ct.1, 3000, .inr (.inl au'))), (q8, .inl (ct.2.2, 500, .inl ao'))] ++ wt) t.heap ∧ va_D A ([(h0, .inr (5, [.ref q1, .ref q2, .ref q3, .ref q4, .ref q5, .int cm, .int stp', .ref q6, .ref q7, .ref q8, .int mus', .int mc_', .int mb_', .ref q9])), (q2, .inl (ct.1, 240, .inr (.inl ac))), (q6, .inl (ct.1, 6, .inr (.inl ax'))), (q7, .inl (ct.1, 3000, .inr (.inl au'))), (q8, .inl (ct.2.2, 500, .inl ao'))] ++ wt)) A) ([.ref h0, .int cl, .int nn] : List Value).toArray s 0 0 A) (F0 m 51 ls []) := by
        intro n
        induction n with
        | zero =>
          intro lp_ lr stp mus ax au ao mc_ mb_ lp_' lr' stp' mus' ax' au' ao' mc_' mb_' h
          rw [lp_M_mult_51] at h
          cases h
        | succ n ih =>
          intro lp_ lr stp mus ax au ao mc_ mb_ lp_' lr' stp' mus' ax' au' ao' mc_' mb_' h H locs hP hD hS ls hl K
          rw [lp_M_mult_51] at h
          refine lv_iload hx hb d_M_mult_51 (lv_at hl 1 rfl) ?_
          refine lv_iload_n hx hb d_M_mult_53 rfl (lv_at hl 4 rfl) ?_
          refine lv_iload_n hx hb d_M_mult_54 rfl (lv_at hl 0 rfl) ?_
          by_cases nz_79 : lp_ = 0
          · rw [if_pos nz_79] at h; cases h
          rw [if_neg nz_79] at h
          refine lv_idiv hx hb d_M_mult_55 nz_79 ?_
          refine lv_icmp_gt (tgt := 150) hx hb d_M_mult_56 (by decide) (fun c_80 => ?_) (fun c_80 => ?_)
          · rw [if_pos c_80] at h
            cases h
            exact K _ _ hP hD hS _ (lv_sub hl [0, 1, 2, 3, 4] rfl)
          · rw [if_neg c_80] at h
            refine lv_iload_n hx hb d_M_mult_59 rfl (lv_at hl 4 rfl) ?_
            refine lv_iload_n hx hb d_M_mult_60 rfl (lv_at hl 0 rfl) ?_
            by_cases nz_81 : lp_ = 0
            · rw [if_pos nz_81] at h; cases h
            rw [if_neg nz_81] at h
            refine lv_idiv hx hb d_M_mult_61 nz_81 ?_
            refine lv_iload hx hb d_M_mult_62 (lv_at hl 1 rfl) ?_
            by_cases nz_82 : lr = 0
            · rw [if_pos nz_82] at h; cases h
            rw [if_neg nz_82] at h
            refine lv_irem hx hb d_M_mult_64 nz_82 ?_
            refine lv_if_eq (tgt := 71) hx hb d_M_mult_65 (by decide) (fun c_83 => ?_) (fun c_83 => ?_)
            · rw [if_pos c_83] at h
              refine lv_iload_n hx hb d_M_mult_71 rfl (lv_at hl 4 rfl) ?_
              refine lv_iload_n hx hb d_M_mult_72 rfl (lv_at hl 0 rfl) ?_
              by_cases nz_84 : lp_ = 0
              · rw [if_pos nz_84] at h; cases h
              rw [if_neg nz_84] at h
              refine lv_idiv hx hb d_M_mult_73 nz_84 ?_
              refine lv_iload hx hb d_M_mult_74 (lv_at hl 1 rfl) ?_
              by_cases nz_85 : lr = 0
              · rw [if_pos nz_85] at h; cases h
              rw [if_neg nz_85] at h
              refine lv_idiv hx hb d_M_mult_76 nz_85 ?_
              refine lv_istore (lv' := [(5, .int ((nn / lp_) / lr)), (3, .int lp_), (4, .int lr), (0, .ref h0), (1, .int cl), (2, .int nn)]) hx hb d_M_mult_77 hl (by decide) rfl (fun ls hl => ?_)
              refine lv_iconst (v := (0 : Int32)) hx hb d_M_mult_79 (by decide) ?_
              refine lv_istore (lv' := [(6, .int (0 : Int32)), (5, .int ((nn / lp_) / lr)), (3, .int lp_), (4, .int lr), (0, .ref h0), (1, .int cl), (2, .int nn)]) hx hb d_M_mult_80 hl (by decide) rfl (fun ls hl => ?_)
              rcases e_136 : lp_M_mult_82 ac cl nn 20 lp_ lr ((nn / lp_) / lr) (0 : Int32) stp mus ax au ao mc_ mb_ with _ | ⟨lp__125, lr_126, lu_127, lq_128, stp_129, mus_130, ax_131, au_132, ao_133, mc__134, mb__135⟩
              · rw [e_136] at h; cases h
              rw [e_136, Option.bind_some] at h
              try dsimp only at h
              refine L_82 20 lp_ lr ((nn / lp_) / lr) (0 : Int32) stp mus ax au ao mc_ mb_ lp__125 lr_126 lu_127 lq_128 stp_129 mus_130 ax_131 au_132 ao_133 mc__134 mb__135 e_136 _ _ hP hD hS ls (lv_sub hl [2, 3, 1, 0, 4, 5, 6] rfl) (fun H locs hP hD hS ls hl => ?_)
              refine lv_iinc (v := lr_126 + (1 : Int32)) (lv' := [(4, .int (lr_126 + (1 : Int32))), (3, .int lp__125), (5, .int lu_127), (6, .int lq_128), (0, .ref h0), (1, .int cl), (2, .int nn)]) hx hb d_M_mult_144 hl (k := 1) rfl rfl (by decide) rfl (fun ls hl => ?_)
              refine lv_goto (tgt := 51) hx hb d_M_mult_147 (by decide) ?_
              exact ih lp__125 (lr_126 + (1 : Int32)) stp_129 mus_130 ax_131 au_132 ao_133 mc__134 mb__135 _ _ _ _ _ _ _ _ _ h H locs hP hD hS ls (lv_sub hl [1, 0, 4, 5, 6] rfl) K
            · rw [if_neg c_83] at h
              refine lv_goto (tgt := 144) hx hb d_M_mult_68 (by decide) ?_
              refine lv_iinc (v := lr + (1 : Int32)) (lv' := [(4, .int (lr + (1 : Int32))), (3, .int lp_), (0, .ref h0), (1, .int cl), (2, .int nn)]) hx hb d_M_mult_144 hl (k := 1) rfl rfl (by decide) rfl (fun ls hl => ?_)
              refine lv_goto (tgt := 51) hx hb d_M_mult_147 (by decide) ?_
              exact ih lp_ (lr + (1 : Int32)) stp mus ax au ao mc_ mb_ _ _ _ _ _ _ _ _ _ h H locs hP hD hS ls (lv_sub hl [1, 0, 2, 3, 4] rfl) K
      have L_34 : ∀ (n : Nat) (lp_ : Int32) (stp : Int32) (mus : Int32) (ax : Nat → Int64) (au : Nat → Int64) (ao : Nat → Int32) (mc_ : Int32) (mb_ : Int32) , lp_M_mult_34 ac cl nn n lp_ stp mus ax au ao mc_ mb_ = some r0 → ∀ (H : Heap) (locs : List Loc), va_P D classes ([(h0, .inr (5, [.ref q1, .ref q2, .ref q3, .ref q4, .ref q5, .int cm, .int stp, .ref q6, .ref q7, .ref q8, .int mus, .int mc_, .int mb_, .ref q9])), (q2, .inl (ct.1, 240, .inr (.inl ac))), (q6, .inl (ct.1, 6, .inr (.inl ax))), (q7, .inl (ct.1, 3000, .inr (.inl au))), (q8, .inl (ct.2.2, 500, .inl ao))] ++ wt) H → va_D A ([(h0, .inr (5, [.ref q1, .ref q2, .ref q3, .ref q4, .ref q5, .int cm, .int stp, .ref q6, .ref q7, .ref q8, .int mus, .int mc_, .int mb_, .ref q9])), (q2, .inl (ct.1, 240, .inr (.inl ac))), (q6, .inl (ct.1, 6, .inr (.inl ax))), (q7, .inl (ct.1, 3000, .inr (.inl au))), (q8, .inl (ct.2.2, 500, .inl ao))] ++ wt) → va_S A s.heap H locs → ∀ (ls : Array Slot), lv_has ls 9 [(3, .int lp_), (0, .ref h0), (1, .int cl), (2, .int nn)] → W p l e (headSpec w_M_mult rm_M_mult).room s m ([.ref h0, .int cl, .int nn] : List Value).toArray below meth c H locs 0 0 (MQ below (va_Qv (fun u => u = r0) (fun (u : Int32 × Int32 × (Nat → Int64) × (Nat → Int64) × (Nat → Int32) × Int32 × Int32) t => match u with | (stp', mus', ax', au', ao', mc_', mb_') => va_P D classes ([(h0, .inr (5, [.ref q1, .ref q2, .ref q3, .ref q4, .ref q5, .int cm, .int stp', .ref q6, .ref q7, .ref q8, .int mus', .int mc_', .int mb_', .ref q9])), (q2, .inl (ct.1, 240, .inr (.inl ac))), (q6, .inl (ct.1, 6, .inr (.inl ax'))), (q7, .inl (ct.1, 3000, .inr (.inl au'))), (q8, .inl (ct.2.2, 500, .inl ao'))] ++ wt) t.heap ∧ va_D A ([(h0, .inr (5, [.ref q1, .ref q2, .ref q3, .ref q4, .ref q5, .int cm, .int stp', .ref q6, .ref q7, .ref q8, .int mus', .int mc_', .int mb_', .ref q9])), (q2, .inl (ct.1, 240, .inr (.inl ac))), (q6, .inl (ct.1, 6, .inr (.inl ax'))), (q7, .inl (ct.1, 3000, .inr (.inl au'))), (q8, .inl (ct.2.2, 500, .inl ao'))] ++ wt)) A) ([.ref h0, .int cl, .int nn] : List Value).toArray s 0 0 A) (F0 m 34 ls []) := by
        intro n
        induction n with
        | zero =>
          intro lp_ stp mus ax au ao mc_ mb_  h
          rw [lp_M_mult_34] at h
          cases h
        | succ n ih =>
          intro lp_ stp mus ax au ao mc_ mb_  h H locs hP hD hS ls hl
          rw [lp_M_mult_34] at h
          refine lv_iload_n hx hb d_M_mult_34 rfl (lv_at hl 0 rfl) ?_
          refine lv_iload_n hx hb d_M_mult_35 rfl (lv_at hl 3 rfl) ?_
          refine lv_icmp_gt (tgt := 156) hx hb d_M_mult_36 (by decide) (fun c_76 => ?_) (fun c_76 => ?_)
          · rw [if_pos c_76] at h
            exact W.vret hx hb hr (fun t ht hW => ⟨⟨(stp, mus, ax, au, ao, mc_, mb_), rfl, (Option.some.inj h), by rw [ht]; exact hP, hD⟩, hS.F ht⟩) hS.2.2 d_M_mult_156
          · rw [if_neg c_76] at h
            refine lv_iload_n hx hb d_M_mult_39 rfl (lv_at hl 3 rfl) ?_
            refine lv_iload_n hx hb d_M_mult_40 rfl (lv_at hl 0 rfl) ?_
            by_cases nz_77 : lp_ = 0
            · rw [if_pos nz_77] at h; cases h
            rw [if_neg nz_77] at h
            refine lv_irem hx hb d_M_mult_41 nz_77 ?_
            refine lv_if_eq (tgt := 48) hx hb d_M_mult_42 (by decide) (fun c_78 => ?_) (fun c_78 => ?_)
            · rw [if_pos c_78] at h
              refine lv_iconst (v := (1 : Int32)) hx hb d_M_mult_48 (by decide) ?_
              refine lv_istore (lv' := [(4, .int (1 : Int32)), (3, .int lp_), (0, .ref h0), (1, .int cl), (2, .int nn)]) hx hb d_M_mult_49 hl (by decide) rfl (fun ls hl => ?_)
              rcases e_147 : lp_M_mult_51 ac cl nn 20 lp_ (1 : Int32) stp mus ax au ao mc_ mb_ with _ | ⟨lp__138, lr_139, stp_140, mus_141, ax_142, au_143, ao_144, mc__145, mb__146⟩
              · rw [e_147] at h; cases h
              rw [e_147, Option.bind_some] at h
              try dsimp only at h
              refine L_51 20 lp_ (1 : Int32) stp mus ax au ao mc_ mb_ lp__138 lr_139 stp_140 mus_141 ax_142 au_143 ao_144 mc__145 mb__146 e_147 _ _ hP hD hS ls (lv_sub hl [1, 0, 2, 3, 4] rfl) (fun H locs hP hD hS ls hl => ?_)
              refine lv_iinc (v := lp__138 + (1 : Int32)) (lv' := [(3, .int (lp__138 + (1 : Int32))), (4, .int lr_139), (0, .ref h0), (1, .int cl), (2, .int nn)]) hx hb d_M_mult_150 hl (k := 0) rfl rfl (by decide) rfl (fun ls hl => ?_)
              refine lv_goto (tgt := 34) hx hb d_M_mult_153 (by decide) ?_
              exact ih (lp__138 + (1 : Int32)) stp_140 mus_141 ax_142 au_143 ao_144 mc__145 mb__146 h H locs hP hD hS ls (lv_sub hl [0, 2, 3, 4] rfl)
            · rw [if_neg c_78] at h
              refine lv_goto (tgt := 150) hx hb d_M_mult_45 (by decide) ?_
              refine lv_iinc (v := lp_ + (1 : Int32)) (lv' := [(3, .int (lp_ + (1 : Int32))), (0, .ref h0), (1, .int cl), (2, .int nn)]) hx hb d_M_mult_150 hl (k := 0) rfl rfl (by decide) rfl (fun ls hl => ?_)
              refine lv_goto (tgt := 34) hx hb d_M_mult_153 (by decide) ?_
              exact ih (lp_ + (1 : Int32)) stp mus ax au ao mc_ mb_ h H locs hP hD hS ls (lv_sub hl [0, 1, 2, 3] rfl)
      exact L_34 20 (1 : Int32) stp (0 : Int32) ax au ao cl nn h _ _ hP hD hS ls (lv_sub hl [0, 1, 2, 3] rfl)
    · rw [if_pos c_75] at h
      exact W.vret hx hb hr (fun t ht hW => ⟨⟨(stp, mus, ax, au, ao, mc_, mb_), rfl, (Option.some.inj h), by rw [ht]; exact hP, hD⟩, hS.F ht⟩) hS.2.2 d_M_mult_16
-- CellBenchModel multiples (II)I
def f_M_multiples (cm : Int32) (ac : Nat → Int64) (stp : Int32) (mus : Int32) (ax : Nat → Int64) (au : Nat → Int64) (ao : Nat → Int32) (mc_ : Int32) (mb_ : Int32) (cl : Int32) (nn : Int32) : Option (Int32 × Int32 × Int32 × (Nat → Int64) × (Nat → Int64) × (Nat → Int32) × Int32 × Int32) :=
    if (f_M_isMul cm cl nn) = 0 then (some ((-1 : Int32), stp, mus, ax, au, ao, mc_, mb_)) else (Option.bind (f_M_mult ac stp mus ax au ao mc_ mb_ cl nn) (fun z_10 => (some (z_10.2.1, z_10.1, z_10.2.1, z_10.2.2.1, z_10.2.2.2.1, z_10.2.2.2.2.1, z_10.2.2.2.2.2.1, z_10.2.2.2.2.2.2))))
def w_M_multiples : List Cond := .code y_M_multiples b_M_multiples 3 (some .int) :: GW
abbrev rm_M_multiples : Room := { frames := 5, cells := 0, slots := 0, locals := 139 }
theorem g_M_multiples : GoodIn GW w_M_multiples := gi tm_505
set_option maxHeartbeats 4000000 in
set_option maxRecDepth 100000 in
theorem c_M_multiples (l : Launch) (D : va_G) (ct : CT) (A : Nat → Prop) (wt : va_W)  (h0 : Nat) (q1 : Nat) (q2 : Nat) (q3 : Nat) (q4 : Nat) (q5 : Nat) (q6 : Nat) (q7 : Nat) (q8 : Nat) (q9 : Nat) (cm : Int32) (stp : Int32) (mus : Int32) (mc_ : Int32) (mb_ : Int32) (ac : Nat → Int64) (ax : Nat → Int64) (au : Nat → Int64) (ao : Nat → Int32) (cl : Int32) (nn : Int32)   (r0 : Int32 × Int32 × Int32 × (Nat → Int64) × (Nat → Int64) × (Nat → Int32) × Int32 × Int32) (h : f_M_multiples cm ac stp mus ax au ao mc_ mb_ cl nn = some r0) : Met l y_M_multiples w_M_multiples rm_M_multiples (va_Pc [.ref h0, .int cl, .int nn] (PreM D ct A ([(h0, .inr (5, [.ref q1, .ref q2, .ref q3, .ref q4, .ref q5, .int cm, .int stp, .ref q6, .ref q7, .ref q8, .int mus, .int mc_, .int mb_, .ref q9])), (q2, .inl (ct.1, 240, .inr (.inl ac))), (q6, .inl (ct.1, 6, .inr (.inl ax))), (q7, .inl (ct.1, 3000, .inr (.inl au))), (q8, .inl (ct.2.2, 500, .inl ao))] ++ wt))) (va_Qi (fun r u => (r, u) = r0) (fun (u : Int32 × Int32 × (Nat → Int64) × (Nat → Int64) × (Nat → Int32) × Int32 × Int32) t => match u with | (stp', mus', ax', au', ao', mc_', mb_') => va_P D classes ([(h0, .inr (5, [.ref q1, .ref q2, .ref q3, .ref q4, .ref q5, .int cm, .int stp', .ref q6, .ref q7, .ref q8, .int mus', .int mc_', .int mb_', .ref q9])), (q2, .inl (ct.1, 240, .inr (.inl ac))), (q6, .inl (ct.1, 6, .inr (.inl ax'))), (q7, .inl (ct.1, 3000, .inr (.inl au'))), (q8, .inl (ct.2.2, 500, .inl ao'))] ++ wt) t.heap ∧ va_D A ([(h0, .inr (5, [.ref q1, .ref q2, .ref q3, .ref q4, .ref q5, .int cm, .int stp', .ref q6, .ref q7, .ref q8, .int mus', .int mc_', .int mb_', .ref q9])), (q2, .inl (ct.1, 240, .inr (.inl ac))), (q6, .inl (ct.1, 6, .inr (.inl ax'))), (q7, .inl (ct.1, 3000, .inr (.inl au'))), (q8, .inl (ct.2.2, 500, .inl ao'))] ++ wt)) A) 0 0 A := by
  refine Met.ofW (cc := b_M_multiples) (maxL := 3) (ret := (some .int)) (by decide) rfl ?_
  intro p e s m args below meth c s₁ B hml hv
  obtain ⟨rfl, hA, hP, hD, hKK⟩ := hv
  have hx := B.exec
  have hb := B.bytes
  have hr := B.returns
  have htg := ht_tl (atoms_spec (ws := w_M_multiples) B.pre)
  have hown : s.vm.findClass R_Model = some m.cls := findClass_of_methodNamed B.named
  have hlocks := B.notSynchronized
  have hK := hKK.1
  have hN := hKK.2.1
  have hO := hKK.2.2
  have hS : va_S A s.heap s.heap [] := va_S.rf
  have hl := lv_entry ([.ref h0, .int cl, .int nn]) (n := 3) (Nat.le_of_ble_eq_true rfl)
  rw [lg_entry_eq]
  generalize (lg_sl ([.ref h0, .int cl, .int nn]) ++ List.replicate (3 - (lg_sl ([.ref h0, .int cl, .int nn])).length) Slot.unset).toArray = ls at hl ⊢
  have hl : lv_has ls 3 [(0, .ref h0), (1, .int cl), (2, .int nn)] := hl
  unfold f_M_multiples at h
  refine lv_aload_n hx hb d_M_multiples_0 rfl (lv_at hl 0 rfl) ?_
  refine lv_iload_n hx hb d_M_multiples_1 rfl (lv_at hl 1 rfl) ?_
  refine lv_iload_n hx hb d_M_multiples_2 rfl (lv_at hl 2 rfl) ?_
  refine vp_callSi (va_Run.run (va_runV (As := [.int cl, .int nn]) (rest := []) ⟨hx, hb, hml, hown, htg⟩ (c_M_isMul l D ct ([(h0, .inr (5, [.ref q1, .ref q2, .ref q3, .ref q4, .ref q5, .int cm, .int stp, .ref q6, .ref q7, .ref q8, .int mus, .int mc_, .int mb_, .ref q9])), (q2, .inl (ct.1, 240, .inr (.inl ac))), (q6, .inl (ct.1, 6, .inr (.inl ax))), (q7, .inl (ct.1, 3000, .inr (.inl au))), (q8, .inl (ct.2.2, 500, .inl ao))] ++ wt) 0 h0 q1 q2 q3 q4 q5 q6 q7 q8 q9 cm stp mus mc_ mb_ cl nn rfl  _ rfl) (cwV 2 htg (giV tm_506 tm_508 tm_26 tm_34 g_M_isMul) rfl rfl rfl (by decide +kernel) ⟨Nat.le_of_ble_eq_true rfl, Nat.le_of_ble_eq_true rfl⟩) (preV hP hKK (va_recv hK hP (ci := 5) (q0 := 0) rfl rfl)) rfl rfl hl.1 rfl (lv_room (Nat.le_of_ble_eq_true rfl)) d_M_multiples_3 ⟨Nat.le_of_ble_eq_true rfl, Nat.le_of_ble_eq_true rfl⟩)) (fun r9 hr9 => ?_)
  have hr9 := hr9.symm
  subst hr9
  refine lv_if_ne (tgt := 11) hx hb d_M_multiples_6 (by decide) (fun c_1 => ?_) (fun c_1 => ?_)
  · rw [if_neg c_1] at h
    refine lv_aload_n hx hb d_M_multiples_11 rfl (lv_at hl 0 rfl) ?_
    refine lv_iload_n hx hb d_M_multiples_12 rfl (lv_at hl 1 rfl) ?_
    refine lv_iload_n hx hb d_M_multiples_13 rfl (lv_at hl 2 rfl) ?_
    rcases e_9 : f_M_mult ac stp mus ax au ao mc_ mb_ cl nn with _ | ⟨stp_2, mus_3, ax_4, au_5, ao_6, mc__7, mb__8⟩
    · rw [e_9] at h; cases h
    rw [e_9, Option.bind_some] at h
    try dsimp only at h
    refine va_callv (va_runV (As := [.int cl, .int nn]) (rest := []) ⟨hx, hb, hml, hown, htg⟩ (c_M_mult l D ct A ([] ++ wt)  h0 q1 q2 q3 q4 q5 q6 q7 q8 q9 cm stp mus mc_ mb_ ac ax au ao cl nn   _ e_9) (cwV 2 htg (giV tm_510 tm_512 tm_27 tm_34 g_M_mult) rfl rfl rfl (by decide +kernel) ⟨Nat.le_of_ble_eq_true rfl, Nat.le_of_ble_eq_true rfl⟩) (preVM hA hS hP hD hKK (va_recv hK hP (ci := 5) (q0 := 0) rfl rfl)) rfl rfl hl.1 rfl (lv_room (Nat.le_of_ble_eq_true rfl)) d_M_multiples_14 ⟨Nat.le_of_ble_eq_true rfl, Nat.le_of_ble_eq_true rfl⟩) hS (fun q _ h9 => h9) (fun q h9 => h9) (fun u9 t9 H locs ht9 hvm9 hw9 hB9 hz9 hk9 hS => ?_)
    rw [hw9] at hB9
    obtain ⟨hP, hD⟩ := hB9
    rw [ht9] at hP
    have hP : va_P D classes ([(h0, .inr (5, [.ref q1, .ref q2, .ref q3, .ref q4, .ref q5, .int cm, .int stp_2, .ref q6, .ref q7, .ref q8, .int mus_3, .int mc__7, .int mb__8, .ref q9])), (q2, .inl (ct.1, 240, .inr (.inl ac))), (q6, .inl (ct.1, 6, .inr (.inl ax_4))), (q7, .inl (ct.1, 3000, .inr (.inl au_5))), (q8, .inl (ct.2.2, 500, .inl ao_6))] ++ wt) H := hP
    have hD : va_D A ([(h0, .inr (5, [.ref q1, .ref q2, .ref q3, .ref q4, .ref q5, .int cm, .int stp_2, .ref q6, .ref q7, .ref q8, .int mus_3, .int mc__7, .int mb__8, .ref q9])), (q2, .inl (ct.1, 240, .inr (.inl ac))), (q6, .inl (ct.1, 6, .inr (.inl ax_4))), (q7, .inl (ct.1, 3000, .inr (.inl au_5))), (q8, .inl (ct.2.2, 500, .inl ao_6))] ++ wt) := hD
    refine lv_aload_n hx hb d_M_multiples_17 rfl (lv_at hl 0 rfl) ?_
    refine va_get (D := D) (ci := 5) (v := .int mus_3) (C := R_Model) (T := F_Model) (N := 14) hx hb htg i_Model hown hK hP 0 rfl rfl 10 (by decide) (htg _ tm_408) (fun _ h9 => h9) rfl d_M_multiples_18 ?_
    exact W.iret (v := mus_3) hx hb hr (fun t ht hW => ⟨⟨mus_3, (stp_2, mus_3, ax_4, au_5, ao_6, mc__7, mb__8), rfl, (Option.some.inj h), by rw [ht]; exact hP, hD⟩, hS.F ht⟩) hS.2.2 d_M_multiples_21
  · rw [if_pos c_1] at h
    refine lv_iconst (v := (-1 : Int32)) hx hb d_M_multiples_9 (by decide) ?_
    exact W.iret (v := (-1 : Int32)) hx hb hr (fun t ht hW => ⟨⟨(-1 : Int32), (stp, mus, ax, au, ao, mc_, mb_), rfl, (Option.some.inj h), by rw [ht]; exact hP, hD⟩, hS.F ht⟩) hS.2.2 d_M_multiples_10
-- CellBenchModel multiple (IIII)J
def f_M_multiple (cm : Int32) (ac : Nat → Int64) (stp : Int32) (mus : Int32) (ax : Nat → Int64) (au : Nat → Int64) (ao : Nat → Int32) (mc_ : Int32) (mb_ : Int32) (cl : Int32) (nn : Int32) (ki : Int32) (wh : Int32) : Option (Int64 × Int32 × Int32 × (Nat → Int64) × (Nat → Int64) × (Nat → Int32) × Int32 × Int32) :=
    if (f_M_isMul cm cl nn) = 0 then (some ((0 : Int64), stp, mus, ax, au, ao, mc_, mb_)) else (if wh < 0 then (some ((0 : Int64), stp, mus, ax, au, ao, mc_, mb_)) else (if (6 : Int32) < wh then (some ((0 : Int64), stp, mus, ax, au, ao, mc_, mb_)) else (if 0 ≤ ki then (Option.bind (f_M_mult ac stp mus ax au ao mc_ mb_ cl nn) (fun z_17 => (if ki < z_17.2.1 then (if (6 : Int32) ≤ wh then (if inb ki 500 = true then (some ((z_17.2.2.2.2.1 ki.toNatClampNeg).toInt64, z_17.1, z_17.2.1, z_17.2.2.1, z_17.2.2.2.1, z_17.2.2.2.2.1, z_17.2.2.2.2.2.1, z_17.2.2.2.2.2.2)) else none) else (if inb (((6 : Int32) * ki) + wh) 3000 = true then (some (z_17.2.2.2.1 (((6 : Int32) * ki) + wh).toNatClampNeg, z_17.1, z_17.2.1, z_17.2.2.1, z_17.2.2.2.1, z_17.2.2.2.2.1, z_17.2.2.2.2.2.1, z_17.2.2.2.2.2.2)) else none)) else (some ((0 : Int64), z_17.1, z_17.2.1, z_17.2.2.1, z_17.2.2.2.1, z_17.2.2.2.2.1, z_17.2.2.2.2.2.1, z_17.2.2.2.2.2.2))))) else (some ((0 : Int64), stp, mus, ax, au, ao, mc_, mb_)))))
def w_M_multiple : List Cond := .code y_M_multiple b_M_multiple 5 (some .long) :: GW
abbrev rm_M_multiple : Room := { frames := 5, cells := 0, slots := 0, locals := 139 }
theorem g_M_multiple : GoodIn GW w_M_multiple := gi tm_525
set_option maxHeartbeats 4000000 in
set_option maxRecDepth 100000 in
theorem c_M_multiple (l : Launch) (D : va_G) (ct : CT) (A : Nat → Prop) (wt : va_W)  (h0 : Nat) (q1 : Nat) (q2 : Nat) (q3 : Nat) (q4 : Nat) (q5 : Nat) (q6 : Nat) (q7 : Nat) (q8 : Nat) (q9 : Nat) (cm : Int32) (stp : Int32) (mus : Int32) (mc_ : Int32) (mb_ : Int32) (ac : Nat → Int64) (ax : Nat → Int64) (au : Nat → Int64) (ao : Nat → Int32) (cl : Int32) (nn : Int32) (ki : Int32) (wh : Int32)   (r0 : Int64 × Int32 × Int32 × (Nat → Int64) × (Nat → Int64) × (Nat → Int32) × Int32 × Int32) (h : f_M_multiple cm ac stp mus ax au ao mc_ mb_ cl nn ki wh = some r0) : Met l y_M_multiple w_M_multiple rm_M_multiple (va_Pc [.ref h0, .int cl, .int nn, .int ki, .int wh] (PreM D ct A ([(h0, .inr (5, [.ref q1, .ref q2, .ref q3, .ref q4, .ref q5, .int cm, .int stp, .ref q6, .ref q7, .ref q8, .int mus, .int mc_, .int mb_, .ref q9])), (q2, .inl (ct.1, 240, .inr (.inl ac))), (q6, .inl (ct.1, 6, .inr (.inl ax))), (q7, .inl (ct.1, 3000, .inr (.inl au))), (q8, .inl (ct.2.2, 500, .inl ao))] ++ wt))) (va_Ql (fun r u => (r, u) = r0) (fun (u : Int32 × Int32 × (Nat → Int64) × (Nat → Int64) × (Nat → Int32) × Int32 × Int32) t => match u with | (stp', mus', ax', au', ao', mc_', mb_') => va_P D classes ([(h0, .inr (5, [.ref q1, .ref q2, .ref q3, .ref q4, .ref q5, .int cm, .int stp', .ref q6, .ref q7, .ref q8, .int mus', .int mc_', .int mb_', .ref q9])), (q2, .inl (ct.1, 240, .inr (.inl ac))), (q6, .inl (ct.1, 6, .inr (.inl ax'))), (q7, .inl (ct.1, 3000, .inr (.inl au'))), (q8, .inl (ct.2.2, 500, .inl ao'))] ++ wt) t.heap ∧ va_D A ([(h0, .inr (5, [.ref q1, .ref q2, .ref q3, .ref q4, .ref q5, .int cm, .int stp', .ref q6, .ref q7, .ref q8, .int mus', .int mc_', .int mb_', .ref q9])), (q2, .inl (ct.1, 240, .inr (.inl ac))), (q6, .inl (ct.1, 6, .inr (.inl ax'))), (q7, .inl (ct.1, 3000, .inr (.inl au'))), (q8, .inl (ct.2.2, 500, .inl ao'))] ++ wt)) A) 0 0 A := by
  refine Met.ofW (cc := b_M_multiple) (maxL := 5) (ret := (some .long)) (by decide) rfl ?_
  intro p e s m args below meth c s₁ B hml hv
  obtain ⟨rfl, hA, hP, hD, hKK⟩ := hv
  have hx := B.exec
  have hb := B.bytes
  have hr := B.returns
  have htg := ht_tl (atoms_spec (ws := w_M_multiple) B.pre)
  have hown : s.vm.findClass R_Model = some m.cls := findClass_of_methodNamed B.named
  have hlocks := B.notSynchronized
  have hK := hKK.1
  have hN := hKK.2.1
  have hO := hKK.2.2
  have hS : va_S A s.heap s.heap [] := va_S.rf
  have hl := lv_entry ([.ref h0, .int cl, .int nn, .int ki, .int wh]) (n := 5) (Nat.le_of_ble_eq_true rfl)
  rw [lg_entry_eq]
  generalize (lg_sl ([.ref h0, .int cl, .int nn, .int ki, .int wh]) ++ List.replicate (5 - (lg_sl ([.ref h0, .int cl, .int nn, .int ki, .int wh])).length) Slot.unset).toArray = ls at hl ⊢
  have hl : lv_has ls 5 [(0, .ref h0), (1, .int cl), (2, .int nn), (3, .int ki), (4, .int wh)] := hl
  unfold f_M_multiple at h
  refine lv_aload_n hx hb d_M_multiple_0 rfl (lv_at hl 0 rfl) ?_
  refine lv_iload_n hx hb d_M_multiple_1 rfl (lv_at hl 1 rfl) ?_
  refine lv_iload_n hx hb d_M_multiple_2 rfl (lv_at hl 2 rfl) ?_
  refine vp_callSi (va_Run.run (va_runV (As := [.int cl, .int nn]) (rest := []) ⟨hx, hb, hml, hown, htg⟩ (c_M_isMul l D ct ([(h0, .inr (5, [.ref q1, .ref q2, .ref q3, .ref q4, .ref q5, .int cm, .int stp, .ref q6, .ref q7, .ref q8, .int mus, .int mc_, .int mb_, .ref q9])), (q2, .inl (ct.1, 240, .inr (.inl ac))), (q6, .inl (ct.1, 6, .inr (.inl ax))), (q7, .inl (ct.1, 3000, .inr (.inl au))), (q8, .inl (ct.2.2, 500, .inl ao))] ++ wt) 0 h0 q1 q2 q3 q4 q5 q6 q7 q8 q9 cm stp mus mc_ mb_ cl nn rfl  _ rfl) (cwV 2 htg (giV tm_506 tm_508 tm_26 tm_34 g_M_isMul) rfl rfl rfl (by decide +kernel) ⟨Nat.le_of_ble_eq_true rfl, Nat.le_of_ble_eq_true rfl⟩) (preV hP hKK (va_recv hK hP (ci := 5) (q0 := 0) rfl rfl)) rfl rfl hl.1 rfl (lv_room (Nat.le_of_ble_eq_true rfl)) d_M_multiple_3 ⟨Nat.le_of_ble_eq_true rfl, Nat.le_of_ble_eq_true rfl⟩)) (fun r9 hr9 => ?_)
  have hr9 := hr9.symm
  subst hr9
  refine lv_if_eq (tgt := 25) hx hb d_M_multiple_6 (by decide) (fun c_1 => ?_) (fun c_1 => ?_)
  · rw [if_pos c_1] at h
    refine lv_lconst (v := (0 : Int64)) hx hb d_M_multiple_25 (by decide) ?_
    exact W.lret (v := (0 : Int64)) hx hb hr (fun t ht hW => ⟨⟨(0 : Int64), (stp, mus, ax, au, ao, mc_, mb_), rfl, (Option.some.inj h), by rw [ht]; exact hP, hD⟩, hS.F ht⟩) hS.2.2 d_M_multiple_26
  · rw [if_neg c_1] at h
    refine lv_iload hx hb d_M_multiple_9 (lv_at hl 4 rfl) ?_
    refine lv_if_lt (tgt := 25) hx hb d_M_multiple_11 (by decide) (fun c_2 => ?_) (fun c_2 => ?_)
    · rw [if_pos c_2] at h
      refine lv_lconst (v := (0 : Int64)) hx hb d_M_multiple_25 (by decide) ?_
      exact W.lret (v := (0 : Int64)) hx hb hr (fun t ht hW => ⟨⟨(0 : Int64), (stp, mus, ax, au, ao, mc_, mb_), rfl, (Option.some.inj h), by rw [ht]; exact hP, hD⟩, hS.F ht⟩) hS.2.2 d_M_multiple_26
    · rw [if_neg c_2] at h
      refine lv_iload hx hb d_M_multiple_14 (lv_at hl 4 rfl) ?_
      refine lv_bipush (v := (6 : Int32)) hx hb d_M_multiple_16 (by decide) ?_
      refine lv_icmp_gt (tgt := 25) hx hb d_M_multiple_18 (by decide) (fun c_3 => ?_) (fun c_3 => ?_)
      · rw [if_pos c_3] at h
        refine lv_lconst (v := (0 : Int64)) hx hb d_M_multiple_25 (by decide) ?_
        exact W.lret (v := (0 : Int64)) hx hb hr (fun t ht hW => ⟨⟨(0 : Int64), (stp, mus, ax, au, ao, mc_, mb_), rfl, (Option.some.inj h), by rw [ht]; exact hP, hD⟩, hS.F ht⟩) hS.2.2 d_M_multiple_26
      · rw [if_neg c_3] at h
        refine lv_iload_n hx hb d_M_multiple_21 rfl (lv_at hl 3 rfl) ?_
        refine lv_if_ge (tgt := 27) hx hb d_M_multiple_22 (by decide) (fun c_4 => ?_) (fun c_4 => ?_)
        · rw [if_pos c_4] at h
          refine lv_aload_n hx hb d_M_multiple_27 rfl (lv_at hl 0 rfl) ?_
          refine lv_iload_n hx hb d_M_multiple_28 rfl (lv_at hl 1 rfl) ?_
          refine lv_iload_n hx hb d_M_multiple_29 rfl (lv_at hl 2 rfl) ?_
          rcases e_12 : f_M_mult ac stp mus ax au ao mc_ mb_ cl nn with _ | ⟨stp_5, mus_6, ax_7, au_8, ao_9, mc__10, mb__11⟩
          · rw [e_12] at h; cases h
          rw [e_12, Option.bind_some] at h
          try dsimp only at h
          refine va_callv (va_runV (As := [.int cl, .int nn]) (rest := []) ⟨hx, hb, hml, hown, htg⟩ (c_M_mult l D ct A ([] ++ wt)  h0 q1 q2 q3 q4 q5 q6 q7 q8 q9 cm stp mus mc_ mb_ ac ax au ao cl nn   _ e_12) (cwV 2 htg (giV tm_510 tm_512 tm_27 tm_34 g_M_mult) rfl rfl rfl (by decide +kernel) ⟨Nat.le_of_ble_eq_true rfl, Nat.le_of_ble_eq_true rfl⟩) (preVM hA hS hP hD hKK (va_recv hK hP (ci := 5) (q0 := 0) rfl rfl)) rfl rfl hl.1 rfl (lv_room (Nat.le_of_ble_eq_true rfl)) d_M_multiple_30 ⟨Nat.le_of_ble_eq_true rfl, Nat.le_of_ble_eq_true rfl⟩) hS (fun q _ h9 => h9) (fun q h9 => h9) (fun u9 t9 H locs ht9 hvm9 hw9 hB9 hz9 hk9 hS => ?_)
          rw [hw9] at hB9
          obtain ⟨hP, hD⟩ := hB9
          rw [ht9] at hP
          have hP : va_P D classes ([(h0, .inr (5, [.ref q1, .ref q2, .ref q3, .ref q4, .ref q5, .int cm, .int stp_5, .ref q6, .ref q7, .ref q8, .int mus_6, .int mc__10, .int mb__11, .ref q9])), (q2, .inl (ct.1, 240, .inr (.inl ac))), (q6, .inl (ct.1, 6, .inr (.inl ax_7))), (q7, .inl (ct.1, 3000, .inr (.inl au_8))), (q8, .inl (ct.2.2, 500, .inl ao_9))] ++ wt) H := hP
          have hD : va_D A ([(h0, .inr (5, [.ref q1, .ref q2, .ref q3, .ref q4, .ref q5, .int cm, .int stp_5, .ref q6, .ref q7, .ref q8, .int mus_6, .int mc__10, .int mb__11, .ref q9])), (q2, .inl (ct.1, 240, .inr (.inl ac))), (q6, .inl (ct.1, 6, .inr (.inl ax_7))), (q7, .inl (ct.1, 3000, .inr (.inl au_8))), (q8, .inl (ct.2.2, 500, .inl ao_9))] ++ wt) := hD
          refine lv_iload_n hx hb d_M_multiple_33 rfl (lv_at hl 3 rfl) ?_
          refine lv_aload_n hx hb d_M_multiple_34 rfl (lv_at hl 0 rfl) ?_
          refine va_get (D := D) (ci := 5) (v := .int mus_6) (C := R_Model) (T := F_Model) (N := 14) hx hb htg i_Model hown hK hP 0 rfl rfl 10 (by decide) (htg _ tm_408) (fun _ h9 => h9) rfl d_M_multiple_35 ?_
          refine lv_icmp_lt (tgt := 43) hx hb d_M_multiple_38 (by decide) (fun c_13 => ?_) (fun c_13 => ?_)
          · rw [if_pos c_13] at h
            refine lv_iload hx hb d_M_multiple_43 (lv_at hl 4 rfl) ?_
            refine lv_bipush (v := (6 : Int32)) hx hb d_M_multiple_45 (by decide) ?_
            refine lv_icmp_ge (tgt := 65) hx hb d_M_multiple_47 (by decide) (fun c_14 => ?_) (fun c_14 => ?_)
            · rw [if_pos c_14] at h
              refine lv_aload_n hx hb d_M_multiple_65 rfl (lv_at hl 0 rfl) ?_
              refine va_get (D := D) (ci := 5) (v := .ref q8) (C := R_Model) (T := F_Model) (N := 14) hx hb htg i_Model hown hK hP 0 rfl rfl 9 (by decide) (htg _ tm_407) (fun _ h9 => h9) rfl d_M_multiple_66 ?_
              refine lv_iload_n hx hb d_M_multiple_69 rfl (lv_at hl 3 rfl) ?_
              by_cases b_15 : inb ki 500 = true
              rotate_left
              · rw [if_neg b_15] at h; cases h
              rw [if_pos b_15] at h
              refine va_iald hx hb hK hP 4 2 rfl rfl (inb_in b_15) d_M_multiple_70 ?_
              refine lv_i2l hx hb d_M_multiple_71 rfl ?_
              exact W.lret (v := (ao_9 ki.toNatClampNeg).toInt64) hx hb hr (fun t ht hW => ⟨⟨(ao_9 ki.toNatClampNeg).toInt64, (stp_5, mus_6, ax_7, au_8, ao_9, mc__10, mb__11), rfl, (Option.some.inj h), by rw [ht]; exact hP, hD⟩, hS.F ht⟩) hS.2.2 d_M_multiple_72
            · rw [if_neg c_14] at h
              refine lv_aload_n hx hb d_M_multiple_50 rfl (lv_at hl 0 rfl) ?_
              refine va_get (D := D) (ci := 5) (v := .ref q7) (C := R_Model) (T := F_Model) (N := 14) hx hb htg i_Model hown hK hP 0 rfl rfl 8 (by decide) (htg _ tm_406) (fun _ h9 => h9) rfl d_M_multiple_51 ?_
              refine lv_bipush (v := (6 : Int32)) hx hb d_M_multiple_54 (by decide) ?_
              refine lv_iload_n hx hb d_M_multiple_56 rfl (lv_at hl 3 rfl) ?_
              refine lv_imul hx hb d_M_multiple_57 ?_
              refine lv_iload hx hb d_M_multiple_58 (lv_at hl 4 rfl) ?_
              refine lv_iadd hx hb d_M_multiple_60 ?_
              by_cases b_16 : inb (((6 : Int32) * ki) + wh) 3000 = true
              rotate_left
              · rw [if_neg b_16] at h; cases h
              rw [if_pos b_16] at h
              refine va_lald hx hb hK hP 3 0 rfl rfl (inb_in b_16) d_M_multiple_61 ?_
              refine lv_goto (tgt := 72) hx hb d_M_multiple_62 (by decide) ?_
              exact W.lret (v := au_8 (((6 : Int32) * ki) + wh).toNatClampNeg) hx hb hr (fun t ht hW => ⟨⟨au_8 (((6 : Int32) * ki) + wh).toNatClampNeg, (stp_5, mus_6, ax_7, au_8, ao_9, mc__10, mb__11), rfl, (Option.some.inj h), by rw [ht]; exact hP, hD⟩, hS.F ht⟩) hS.2.2 d_M_multiple_72
          · rw [if_neg c_13] at h
            refine lv_lconst (v := (0 : Int64)) hx hb d_M_multiple_41 (by decide) ?_
            exact W.lret (v := (0 : Int64)) hx hb hr (fun t ht hW => ⟨⟨(0 : Int64), (stp_5, mus_6, ax_7, au_8, ao_9, mc__10, mb__11), rfl, (Option.some.inj h), by rw [ht]; exact hP, hD⟩, hS.F ht⟩) hS.2.2 d_M_multiple_42
        · rw [if_neg c_4] at h
          refine lv_lconst (v := (0 : Int64)) hx hb d_M_multiple_25 (by decide) ?_
          exact W.lret (v := (0 : Int64)) hx hb hr (fun t ht hW => ⟨⟨(0 : Int64), (stp, mus, ax, au, ao, mc_, mb_), rfl, (Option.some.inj h), by rw [ht]; exact hP, hD⟩, hS.F ht⟩) hS.2.2 d_M_multiple_26
-- CellBenchModel common (IIII)I
def lp_M_common_37 (cm : Int32) (ac : Nat → Int64) (cl : Int32) (nn : Int32) (co : Int32) (mm : Int32) : Nat → Int32 → Int32 → Int32 → Int32 → (Nat → Int64) → (Nat → Int64) → (Nat → Int32) → Int32 → Int32 → (Nat → Int64) → Option (Int32 × Int32 × Int32 × Int32 × (Nat → Int64) × (Nat → Int64) × (Nat → Int32) × Int32 × Int32 × (Nat → Int64))
  | 0, _, _, _, _, _, _, _, _, _, _ => none
  | n + 1, many, al_, stp, mus, ax, au, ao, mc_, mb_, at_ =>
    if ((6 : Int32) * many) ≤ al_ then (some (many, al_, stp, mus, ax, au, ao, mc_, mb_, at_)) else (if inb al_ 3000 = true then (if inb al_ 3000 = true then (lp_M_common_37 cm ac cl nn co mm n many (al_ + (1 : Int32)) stp mus ax au ao mc_ mb_ (vp_updL at_ al_.toNatClampNeg (au al_.toNatClampNeg))) else none) else none)
def lp_M_common_112 (cm : Int32) (ac : Nat → Int64) (cl : Int32) (nn : Int32) (co : Int32) (mm : Int32) : Nat → Int32 → Int32 → Int32 → Int32 → Int32 → Int32 → Int32 → Int32 → (Nat → Int64) → (Nat → Int64) → (Nat → Int32) → Int32 → Int32 → (Nat → Int64) → Option (Int32 × Int32 × Int32 × Int32 × Int32 × Int32 × Int32 × Int32 × (Nat → Int64) × (Nat → Int64) × (Nat → Int32) × Int32 × Int32 × (Nat → Int64))
  | 0, _, _, _, _, _, _, _, _, _, _, _, _, _, _ => none
  | n + 1, many, al_, kk, th, ii, zz, stp, mus, ax, au, ao, mc_, mb_, at_ =>
    if (6 : Int32) ≤ zz then (some (many, al_, kk, th, ii, zz, stp, mus, ax, au, ao, mc_, mb_, at_)) else (if th = 0 then (some (many, al_, kk, th, ii, zz, stp, mus, ax, au, ao, mc_, mb_, at_)) else (if inb (((6 : Int32) * kk) + zz) 3000 = true then (if inb (((6 : Int32) * ii) + zz) 3000 = true then (if (lg_cmp (au (((6 : Int32) * kk) + zz).toNatClampNeg) (at_ (((6 : Int32) * ii) + zz).toNatClampNeg)) = 0 then (lp_M_common_112 cm ac cl nn co mm n many al_ kk (1 : Int32) ii (zz + (1 : Int32)) stp mus ax au ao mc_ mb_ at_) else (lp_M_common_112 cm ac cl nn co mm n many al_ kk (0 : Int32) ii (zz + (1 : Int32)) stp mus ax au ao mc_ mb_ at_)) else none) else none))
def lp_M_common_94 (cm : Int32) (ac : Nat → Int64) (cl : Int32) (nn : Int32) (co : Int32) (mm : Int32) : Nat → Int32 → Int32 → Int32 → Int32 → Int32 → Int32 → Int32 → (Nat → Int64) → (Nat → Int64) → (Nat → Int32) → Int32 → Int32 → (Nat → Int64) → Option (Int32 × Int32 × Int32 × Int32 × Int32 × Int32 × Int32 × (Nat → Int64) × (Nat → Int64) × (Nat → Int32) × Int32 × Int32 × (Nat → Int64))
  | 0, _, _, _, _, _, _, _, _, _, _, _, _, _ => none
  | n + 1, many, al_, kk, th, ii, stp, mus, ax, au, ao, mc_, mb_, at_ =>
    if many ≤ ii then (some (many, al_, kk, th, ii, stp, mus, ax, au, ao, mc_, mb_, at_)) else (if th = 0 then (Option.bind (lp_M_common_112 cm ac cl nn co mm 7 many al_ kk (1 : Int32) ii (0 : Int32) stp mus ax au ao mc_ mb_ at_) (fun z_56 => (lp_M_common_94 cm ac cl nn co mm n z_56.1 z_56.2.1 z_56.2.2.1 z_56.2.2.2.1 (z_56.2.2.2.2.1 + (1 : Int32)) z_56.2.2.2.2.2.2.1 z_56.2.2.2.2.2.2.2.1 z_56.2.2.2.2.2.2.2.2.1 z_56.2.2.2.2.2.2.2.2.2.1 z_56.2.2.2.2.2.2.2.2.2.2.1 z_56.2.2.2.2.2.2.2.2.2.2.2.1 z_56.2.2.2.2.2.2.2.2.2.2.2.2.1 z_56.2.2.2.2.2.2.2.2.2.2.2.2.2))) else (some (many, al_, kk, th, ii, stp, mus, ax, au, ao, mc_, mb_, at_)))
def lp_M_common_79 (cm : Int32) (ac : Nat → Int64) (cl : Int32) (nn : Int32) (co : Int32) (mm : Int32) : Nat → Int32 → Int32 → Int32 → Int32 → Int32 → (Nat → Int64) → (Nat → Int64) → (Nat → Int32) → Int32 → Int32 → (Nat → Int64) → Option (Int32 × Int32 × Int32 × (Nat → Int64) × (Nat → Int64) × (Nat → Int32) × Int32 × Int32 × (Nat → Int64))
  | 0, _, _, _, _, _, _, _, _, _, _, _ => none
  | n + 1, many, al_, kk, stp, mus, ax, au, ao, mc_, mb_, at_ =>
    if mus ≤ kk then (some (al_, stp, mus, ax, au, ao, mc_, mb_, at_)) else (Option.bind (lp_M_common_94 cm ac cl nn co mm 501 many al_ kk (0 : Int32) (0 : Int32) stp mus ax au ao mc_ mb_ at_) (fun z_72 => (if z_72.2.2.2.1 = 0 then (lp_M_common_79 cm ac cl nn co mm n z_72.1 (z_72.2.1 + (0 : Int32)) (z_72.2.2.1 + (1 : Int32)) z_72.2.2.2.2.2.1 z_72.2.2.2.2.2.2.1 z_72.2.2.2.2.2.2.2.1 z_72.2.2.2.2.2.2.2.2.1 z_72.2.2.2.2.2.2.2.2.2.1 z_72.2.2.2.2.2.2.2.2.2.2.1 z_72.2.2.2.2.2.2.2.2.2.2.2.1 z_72.2.2.2.2.2.2.2.2.2.2.2.2) else (lp_M_common_79 cm ac cl nn co mm n z_72.1 (z_72.2.1 + (1 : Int32)) (z_72.2.2.1 + (1 : Int32)) z_72.2.2.2.2.2.1 z_72.2.2.2.2.2.2.1 z_72.2.2.2.2.2.2.2.1 z_72.2.2.2.2.2.2.2.2.1 z_72.2.2.2.2.2.2.2.2.2.1 z_72.2.2.2.2.2.2.2.2.2.2.1 z_72.2.2.2.2.2.2.2.2.2.2.2.1 z_72.2.2.2.2.2.2.2.2.2.2.2.2))))
def f_M_common (cm : Int32) (ac : Nat → Int64) (stp : Int32) (mus : Int32) (ax : Nat → Int64) (au : Nat → Int64) (ao : Nat → Int32) (mc_ : Int32) (mb_ : Int32) (at_ : Nat → Int64) (cl : Int32) (nn : Int32) (co : Int32) (mm : Int32) : Option (Int32 × Int32 × Int32 × (Nat → Int64) × (Nat → Int64) × (Nat → Int32) × Int32 × Int32 × (Nat → Int64)) :=
    if (f_M_isMul cm cl nn) = 0 then (some ((-1 : Int32), stp, mus, ax, au, ao, mc_, mb_, at_)) else (if (f_M_isMul cm co mm) = 0 then (some ((-1 : Int32), stp, mus, ax, au, ao, mc_, mb_, at_)) else (Option.bind (f_M_mult ac stp mus ax au ao mc_ mb_ co mm) (fun z_75 => (Option.bind (lp_M_common_37 cm ac cl nn co mm 3001 z_75.2.1 (0 : Int32) z_75.1 z_75.2.1 z_75.2.2.1 z_75.2.2.2.1 z_75.2.2.2.2.1 z_75.2.2.2.2.2.1 z_75.2.2.2.2.2.2 at_) (fun z_74 => (Option.bind (f_M_mult ac z_74.2.2.1 z_74.2.2.2.1 z_74.2.2.2.2.1 z_74.2.2.2.2.2.1 z_74.2.2.2.2.2.2.1 z_74.2.2.2.2.2.2.2.1 z_74.2.2.2.2.2.2.2.2.1 cl nn) (fun z_73 => (lp_M_common_79 cm ac cl nn co mm 501 z_74.1 (0 : Int32) (0 : Int32) z_73.1 z_73.2.1 z_73.2.2.1 z_73.2.2.2.1 z_73.2.2.2.2.1 z_73.2.2.2.2.2.1 z_73.2.2.2.2.2.2 z_74.2.2.2.2.2.2.2.2.2))))))))
def w_M_common : List Cond := .code y_M_common b_M_common 11 (some .int) :: GW
abbrev rm_M_common : Room := { frames := 5, cells := 0, slots := 0, locals := 139 }
theorem g_M_common : GoodIn GW w_M_common := gi tm_529
set_option maxHeartbeats 4000000 in
set_option maxRecDepth 100000 in
theorem c_M_common (l : Launch) (D : va_G) (ct : CT) (A : Nat → Prop) (wt : va_W)  (h0 : Nat) (q1 : Nat) (q2 : Nat) (q3 : Nat) (q4 : Nat) (q5 : Nat) (q6 : Nat) (q7 : Nat) (q8 : Nat) (q9 : Nat) (cm : Int32) (stp : Int32) (mus : Int32) (mc_ : Int32) (mb_ : Int32) (ac : Nat → Int64) (ax : Nat → Int64) (au : Nat → Int64) (ao : Nat → Int32) (at_ : Nat → Int64) (cl : Int32) (nn : Int32) (co : Int32) (mm : Int32)   (r0 : Int32 × Int32 × Int32 × (Nat → Int64) × (Nat → Int64) × (Nat → Int32) × Int32 × Int32 × (Nat → Int64)) (h : f_M_common cm ac stp mus ax au ao mc_ mb_ at_ cl nn co mm = some r0) : Met l y_M_common w_M_common rm_M_common (va_Pc [.ref h0, .int cl, .int nn, .int co, .int mm] (PreM D ct A ([(h0, .inr (5, [.ref q1, .ref q2, .ref q3, .ref q4, .ref q5, .int cm, .int stp, .ref q6, .ref q7, .ref q8, .int mus, .int mc_, .int mb_, .ref q9])), (q2, .inl (ct.1, 240, .inr (.inl ac))), (q6, .inl (ct.1, 6, .inr (.inl ax))), (q7, .inl (ct.1, 3000, .inr (.inl au))), (q8, .inl (ct.2.2, 500, .inl ao)), (q9, .inl (ct.1, 3000, .inr (.inl at_)))] ++ wt))) (va_Qi (fun r u => (r, u) = r0) (fun (u : Int32 × Int32 × (Nat → Int64) × (Nat → Int64) × (Nat → Int32) × Int32 × Int32 × (Nat → Int64)) t => match u with | (stp', mus', ax', au', ao', mc_', mb_', at_') => va_P D classes ([(h0, .inr (5, [.ref q1, .ref q2, .ref q3, .ref q4, .ref q5, .int cm, .int stp', .ref q6, .ref q7, .ref q8, .int mus', .int mc_', .int mb_', .ref q9])), (q2, .inl (ct.1, 240, .inr (.inl ac))), (q6, .inl (ct.1, 6, .inr (.inl ax'))), (q7, .inl (ct.1, 3000, .inr (.inl au'))), (q8, .inl (ct.2.2, 500, .inl ao')), (q9, .inl (ct.1, 3000, .inr (.inl at_')))] ++ wt) t.heap ∧ va_D A ([(h0, .inr (5, [.ref q1, .ref q2, .ref q3, .ref q4, .ref q5, .int cm, .int stp', .ref q6, .ref q7, .ref q8, .int mus', .int mc_', .int mb_', .ref q9])), (q2, .inl (ct.1, 240, .inr (.inl ac))), (q6, .inl (ct.1, 6, .inr (.inl ax'))), (q7, .inl (ct.1, 3000, .inr (.inl au'))), (q8, .inl (ct.2.2, 500, .inl ao')), (q9, .inl (ct.1, 3000, .inr (.inl at_')))] ++ wt)) A) 0 0 A := by
  refine Met.ofW (cc := b_M_common) (maxL := 11) (ret := (some .int)) (by decide) rfl ?_
  intro p e s m args below meth c s₁ B hml hv
  obtain ⟨rfl, hA, hP, hD, hKK⟩ := hv
  have hx := B.exec
  have hb := B.bytes
  have hr := B.returns
  have htg := ht_tl (atoms_spec (ws := w_M_common) B.pre)
  have hown : s.vm.findClass R_Model = some m.cls := findClass_of_methodNamed B.named
  have hlocks := B.notSynchronized
  have hK := hKK.1
  have hN := hKK.2.1
  have hO := hKK.2.2
  have hS : va_S A s.heap s.heap [] := va_S.rf
  have hl := lv_entry ([.ref h0, .int cl, .int nn, .int co, .int mm]) (n := 11) (Nat.le_of_ble_eq_true rfl)
  rw [lg_entry_eq]
  generalize (lg_sl ([.ref h0, .int cl, .int nn, .int co, .int mm]) ++ List.replicate (11 - (lg_sl ([.ref h0, .int cl, .int nn, .int co, .int mm])).length) Slot.unset).toArray = ls at hl ⊢
  have hl : lv_has ls 11 [(0, .ref h0), (1, .int cl), (2, .int nn), (3, .int co), (4, .int mm)] := hl
  unfold f_M_common at h
  refine lv_aload_n hx hb d_M_common_0 rfl (lv_at hl 0 rfl) ?_
  refine lv_iload_n hx hb d_M_common_1 rfl (lv_at hl 1 rfl) ?_
  refine lv_iload_n hx hb d_M_common_2 rfl (lv_at hl 2 rfl) ?_
  refine vp_callSi (va_Run.run (va_runV (As := [.int cl, .int nn]) (rest := []) ⟨hx, hb, hml, hown, htg⟩ (c_M_isMul l D ct ([(h0, .inr (5, [.ref q1, .ref q2, .ref q3, .ref q4, .ref q5, .int cm, .int stp, .ref q6, .ref q7, .ref q8, .int mus, .int mc_, .int mb_, .ref q9])), (q2, .inl (ct.1, 240, .inr (.inl ac))), (q6, .inl (ct.1, 6, .inr (.inl ax))), (q7, .inl (ct.1, 3000, .inr (.inl au))), (q8, .inl (ct.2.2, 500, .inl ao)), (q9, .inl (ct.1, 3000, .inr (.inl at_)))] ++ wt) 0 h0 q1 q2 q3 q4 q5 q6 q7 q8 q9 cm stp mus mc_ mb_ cl nn rfl  _ rfl) (cwV 2 htg (giV tm_506 tm_508 tm_26 tm_34 g_M_isMul) rfl rfl rfl (by decide +kernel) ⟨Nat.le_of_ble_eq_true rfl, Nat.le_of_ble_eq_true rfl⟩) (preV hP hKK (va_recv hK hP (ci := 5) (q0 := 0) rfl rfl)) rfl rfl hl.1 rfl (lv_room (Nat.le_of_ble_eq_true rfl)) d_M_common_3 ⟨Nat.le_of_ble_eq_true rfl, Nat.le_of_ble_eq_true rfl⟩)) (fun r9 hr9 => ?_)
  have hr9 := hr9.symm
  subst hr9
  refine lv_if_eq (tgt := 19) hx hb d_M_common_6 (by decide) (fun c_1 => ?_) (fun c_1 => ?_)
  · rw [if_pos c_1] at h
    refine lv_iconst (v := (-1 : Int32)) hx hb d_M_common_19 (by decide) ?_
    exact W.iret (v := (-1 : Int32)) hx hb hr (fun t ht hW => ⟨⟨(-1 : Int32), (stp, mus, ax, au, ao, mc_, mb_, at_), rfl, (Option.some.inj h), by rw [ht]; exact hP, hD⟩, hS.F ht⟩) hS.2.2 d_M_common_20
  · rw [if_neg c_1] at h
    refine lv_aload_n hx hb d_M_common_9 rfl (lv_at hl 0 rfl) ?_
    refine lv_iload_n hx hb d_M_common_10 rfl (lv_at hl 3 rfl) ?_
    refine lv_iload hx hb d_M_common_11 (lv_at hl 4 rfl) ?_
    refine vp_callSi (va_Run.run (va_runV (As := [.int co, .int mm]) (rest := []) ⟨hx, hb, hml, hown, htg⟩ (c_M_isMul l D ct ([(h0, .inr (5, [.ref q1, .ref q2, .ref q3, .ref q4, .ref q5, .int cm, .int stp, .ref q6, .ref q7, .ref q8, .int mus, .int mc_, .int mb_, .ref q9])), (q2, .inl (ct.1, 240, .inr (.inl ac))), (q6, .inl (ct.1, 6, .inr (.inl ax))), (q7, .inl (ct.1, 3000, .inr (.inl au))), (q8, .inl (ct.2.2, 500, .inl ao)), (q9, .inl (ct.1, 3000, .inr (.inl at_)))] ++ wt) 0 h0 q1 q2 q3 q4 q5 q6 q7 q8 q9 cm stp mus mc_ mb_ co mm rfl  _ rfl) (cwV 2 htg (giV tm_506 tm_508 tm_26 tm_34 g_M_isMul) rfl rfl rfl (by decide +kernel) ⟨Nat.le_of_ble_eq_true rfl, Nat.le_of_ble_eq_true rfl⟩) (preV hP hKK (va_recv hK hP (ci := 5) (q0 := 0) rfl rfl)) rfl rfl hl.1 rfl (lv_room (Nat.le_of_ble_eq_true rfl)) d_M_common_13 ⟨Nat.le_of_ble_eq_true rfl, Nat.le_of_ble_eq_true rfl⟩)) (fun r9 hr9 => ?_)
    have hr9 := hr9.symm
    subst hr9
    refine lv_if_ne (tgt := 21) hx hb d_M_common_16 (by decide) (fun c_2 => ?_) (fun c_2 => ?_)
    · rw [if_neg c_2] at h
      refine lv_aload_n hx hb d_M_common_21 rfl (lv_at hl 0 rfl) ?_
      refine lv_iload_n hx hb d_M_common_22 rfl (lv_at hl 3 rfl) ?_
      refine lv_iload hx hb d_M_common_23 (lv_at hl 4 rfl) ?_
      rcases e_10 : f_M_mult ac stp mus ax au ao mc_ mb_ co mm with _ | ⟨stp_3, mus_4, ax_5, au_6, ao_7, mc__8, mb__9⟩
      · rw [e_10] at h; cases h
      rw [e_10, Option.bind_some] at h
      try dsimp only at h
      refine va_callv (va_runV (As := [.int co, .int mm]) (rest := []) ⟨hx, hb, hml, hown, htg⟩ (c_M_mult l D ct A ([(q9, .inl (ct.1, 3000, .inr (.inl at_)))] ++ wt)  h0 q1 q2 q3 q4 q5 q6 q7 q8 q9 cm stp mus mc_ mb_ ac ax au ao co mm   _ e_10) (cwV 2 htg (giV tm_510 tm_512 tm_27 tm_34 g_M_mult) rfl rfl rfl (by decide +kernel) ⟨Nat.le_of_ble_eq_true rfl, Nat.le_of_ble_eq_true rfl⟩) (preVM hA hS hP hD hKK (va_recv hK hP (ci := 5) (q0 := 0) rfl rfl)) rfl rfl hl.1 rfl (lv_room (Nat.le_of_ble_eq_true rfl)) d_M_common_25 ⟨Nat.le_of_ble_eq_true rfl, Nat.le_of_ble_eq_true rfl⟩) hS (fun q _ h9 => h9) (fun q h9 => h9) (fun u9 t9 H locs ht9 hvm9 hw9 hB9 hz9 hk9 hS => ?_)
      rw [hw9] at hB9
      obtain ⟨hP, hD⟩ := hB9
      rw [ht9] at hP
      have hP : va_P D classes ([(h0, .inr (5, [.ref q1, .ref q2, .ref q3, .ref q4, .ref q5, .int cm, .int stp_3, .ref q6, .ref q7, .ref q8, .int mus_4, .int mc__8, .int mb__9, .ref q9])), (q2, .inl (ct.1, 240, .inr (.inl ac))), (q6, .inl (ct.1, 6, .inr (.inl ax_5))), (q7, .inl (ct.1, 3000, .inr (.inl au_6))), (q8, .inl (ct.2.2, 500, .inl ao_7)), (q9, .inl (ct.1, 3000, .inr (.inl at_)))] ++ wt) H := hP
      have hD : va_D A ([(h0, .inr (5, [.ref q1, .ref q2, .ref q3, .ref q4, .ref q5, .int cm, .int stp_3, .ref q6, .ref q7, .ref q8, .int mus_4, .int mc__8, .int mb__9, .ref q9])), (q2, .inl (ct.1, 240, .inr (.inl ac))), (q6, .inl (ct.1, 6, .inr (.inl ax_5))), (q7, .inl (ct.1, 3000, .inr (.inl au_6))), (q8, .inl (ct.2.2, 500, .inl ao_7)), (q9, .inl (ct.1, 3000, .inr (.inl at_)))] ++ wt) := hD
      refine lv_aload_n hx hb d_M_common_28 rfl (lv_at hl 0 rfl) ?_
      refine va_get (D := D) (ci := 5) (v := .int mus_4) (C := R_Model) (T := F_Model) (N := 14) hx hb htg i_Model hown hK hP 0 rfl rfl 10 (by decide) (htg _ tm_408) (fun _ h9 => h9) rfl d_M_common_29 ?_
      refine lv_istore (lv' := [(5, .int mus_4), (0, .ref h0), (1, .int cl), (2, .int nn), (3, .int co), (4, .int mm)]) hx hb d_M_common_32 hl (by decide) rfl (fun ls hl => ?_)
      refine lv_iconst (v := (0 : Int32)) hx hb d_M_common_34 (by decide) ?_
      refine lv_istore (lv' := [(6, .int (0 : Int32)), (5, .int mus_4), (0, .ref h0), (1, .int cl), (2, .int nn), (3, .int co), (4, .int mm)]) hx hb d_M_common_35 hl (by decide) rfl (fun ls hl => ?_)
      have L_37 : ∀ (n : Nat) (many : Int32) (al_ : Int32) (stp : Int32) (mus : Int32) (ax : Nat → Int64) (au : Nat → Int64) (ao : Nat → Int32) (mc_ : Int32) (mb_ : Int32) (at_ : Nat → Int64) (many' : Int32) (al_' : Int32) (stp' : Int32) (mus' : Int32) (ax' : Nat → Int64) (au' : Nat → Int64) (ao' : Nat → Int32) (mc_' : Int32) (mb_' : Int32) (at_' : Nat → Int64), lp_M_common_37 cm ac cl nn co mm n many al_ stp mus ax au ao mc_ mb_ at_ = some (many', al_', stp', mus', ax', au', ao', mc_', mb_', at_') → ∀ (H : Heap) (locs : List Loc), va_P D classes ([(h0, .inr (5, [.ref q1, .ref q2, .ref q3, .ref q4, .ref q5, .int cm, .int stp, .ref q6, .ref q7, .ref q8, .int mus, .int mc_, .int mb_, .ref q9])), (q2, .inl (ct.1, 240, .inr (.inl ac))), (q6, .inl (ct.1, 6, .inr (.inl ax))), (q7, .inl (ct.1, 3000, .inr (.inl au))), (q8, .inl (ct.2.2, 500, .inl ao)), (q9, .inl (ct.1, 3000, .inr (.inl at_)))] ++ wt) H → va_D A ([(h0, .inr (5, [.ref q1, .ref q2, .ref q3, .ref q4, .ref q5, .int cm, .int stp, .ref q6, .ref q7, .ref q8, .int mus, .int mc_, .int mb_, .ref q9])), (q2, .inl (ct.1, 240, .inr (.inl ac))), (q6, .inl (ct.1, 6, .inr (.inl ax))), (q7, .inl (ct.1, 3000, .inr (.inl au))), (q8, .inl (ct.2.2, 500, .inl ao)), (q9, .inl (ct.1, 3000, .inr (.inl at_)))] ++ wt) → va_S A s.heap H locs → ∀ (ls : Array Slot), lv_has ls 11 [(5, .int many), (6, .int al_), (0, .ref h0), (1, .int cl), (2, .int nn), (3, .int co), (4, .int mm)] → (∀ (H : Heap) (locs : List Loc), va_P D classes ([(h0, .inr (5, [.ref q1, .ref q2, .ref q3, .ref q4, .ref q5, .int cm, .int stp', .ref q6, .ref q7, .ref q8, .int mus', .int mc_', .int mb_', .ref q9])), (q2, .inl (ct.1, 240, .inr (.inl ac))), (q6, .inl (ct.1, 6, .inr (.inl ax'))), (q7, .inl (ct.1, 3000, .inr (.inl au'))), (q8, .inl (ct.2.2, 500, .inl ao')), (q9, .inl (ct.1, 3000, .inr (.inl at_')))] ++ wt) H → va_D A ([(h0, .inr (5, [.ref q1, .ref q2, .ref q3, .ref q4, .ref q5, .int cm, .int stp', .ref q6, .ref q7, .ref q8, .int mus', .int mc_', .int mb_', .ref q9])), (q2, .inl (ct.1, 240, .inr (.inl ac))), (q6, .inl (ct.1, 6, .inr (.inl ax'))), (q7, .inl (ct.1, 3000, .inr (.inl au'))), (q8, .inl (ct.2.2, 500, .inl ao')), (q9, .inl (ct.1, 3000, .inr (.inl at_')))] ++ wt) → va_S A s.heap H locs → ∀ (ls : Array Slot), lv_has ls 11 [(5, .int many'), (6, .int al_'), (0, .ref h0), (1, .int cl), (2, .int nn), (3, .int co), (4, .int mm)] → W p l e (headSpec w_M_common rm_M_common).room s m ([.ref h0, .int cl, .int nn, .int co, .int mm] : List Value).toArray below meth c H locs 0 0 (MQ below (va_Qi (fun r u => (r, u) = r0) (fun (u : Int32 × Int32 × (Nat → Int64) × (Nat → Int64) × (Nat → Int32) × Int32 × Int32 × (Nat → Int64)) t => match u with | (stp', mus', ax', au', ao', mc_', mb_', at_') => va_P D classes ([(h0, .inr (5, [.ref q1, .ref q2, .ref q3, .ref q4, .ref q5, .int cm, .int stp', .ref q6, .ref q7, .ref q8, .int mus', .int mc_', .int mb_', .ref q9])), (q2, .inl (ct.1, 240, .inr (.inl ac))), (q6, .inl (ct.1, 6, .inr (.inl ax'))), (q7, .inl (ct.1, 3000, .inr (.inl au'))), (q8, .inl (ct.2.2, 500, .inl ao')), (q9, .inl (ct.1, 3000, .inr (.inl at_')))] ++ wt) t.heap ∧ va_D A ([(h0, .inr (5, [.ref q1, .ref q2, .ref q3, .ref q4, .ref q5, .int cm, .int stp', .ref q6, .ref q7, .ref q8, .int mus', .int mc_', .int mb_', .ref q9])), (q2, .inl (ct.1, 240, .inr (.inl ac))), (q6, .inl (ct.1, 6, .inr (.inl ax'))), (q7, .inl (ct.1, 3000, .inr (.inl au'))), (q8, .inl (ct.2.2, 500, .inl ao')), (q9, .inl (ct.1, 3000, .inr (.inl at_')))] ++ wt)) A) ([.ref h0, .int cl, .int nn, .int co, .int mm] : List Value).toArray s 0 0 A) (F0 m 67 ls [])) → W p l e (headSpec w_M_common rm_M_common).room s m ([.ref h0, .int cl, .int nn, .int co, .int mm] : List Value).toArray below meth c H locs 0 0 (MQ below (va_Qi (fun r u => (r, u) = r0) (fun (u : Int32 × Int32 × (Nat → Int64) × (Nat → Int64) × (Nat → Int32) × Int32 × Int32 × (Nat → Int64)) t => match u with | (stp', mus', ax', au', ao', mc_', mb_', at_') => va_P D classes ([(h0, .inr (5, [.ref q1, .ref q2, .ref q3, .ref q4, .ref q5, .int cm, .int stp', .ref q6, .ref q7, .ref q8, .int mus', .int mc_', .int mb_', .ref q9])), (q2, .inl (ct.1, 240, .inr (.inl ac))), (q6, .inl (ct.1, 6, .inr (.inl ax'))), (q7, .inl (ct.1, 3000, .inr (.inl au'))), (q8, .inl (ct.2.2, 500, .inl ao')), (q9, .inl (ct.1, 3000, .inr (.inl at_')))] ++ wt) t.heap ∧ va_D A ([(h0, .inr (5, [.ref q1, .ref q2, .ref q3, .ref q4, .ref q5, .int cm, .int stp', .ref q6, .ref q7, .ref q8, .int mus', .int mc_', .int mb_', .ref q9])), (q2, .inl (ct.1, 240, .inr (.inl ac))), (q6, .inl (ct.1, 6, .inr (.inl ax'))), (q7, .inl (ct.1, 3000, .inr (.inl au'))), (q8, .inl (ct.2.2, 500, .inl ao')), (q9, .inl (ct.1, 3000, .inr (.inl at_')))] ++ wt)) A) ([.ref h0, .int cl, .int nn, .int co, .int mm] : List Value).toArray s 0 0 A) (F0 m 37 ls []) := by
        intro n
        induction n with
        | zero =>
          intro many al_ stp mus ax au ao mc_ mb_ at_ many' al_' stp' mus' ax' au' ao' mc_' mb_' at_' h
          rw [lp_M_common_37] at h
          cases h
        | succ n ih =>
          intro many al_ stp mus ax au ao mc_ mb_ at_ many' al_' stp' mus' ax' au' ao' mc_' mb_' at_' h H locs hP hD hS ls hl K
          rw [lp_M_common_37] at h
          refine lv_iload hx hb d_M_common_37 (lv_at hl 1 rfl) ?_
          refine lv_bipush (v := (6 : Int32)) hx hb d_M_common_39 (by decide) ?_
          refine lv_iload hx hb d_M_common_41 (lv_at hl 0 rfl) ?_
          refine lv_imul hx hb d_M_common_43 ?_
          refine lv_icmp_ge (tgt := 67) hx hb d_M_common_44 (by decide) (fun c_11 => ?_) (fun c_11 => ?_)
          · rw [if_pos c_11] at h
            cases h
            exact K _ _ hP hD hS _ (lv_sub hl [0, 1, 2, 3, 4, 5, 6] rfl)
          · rw [if_neg c_11] at h
            refine lv_aload_n hx hb d_M_common_47 rfl (lv_at hl 2 rfl) ?_
            refine va_get (D := D) (ci := 5) (v := .ref q9) (C := R_Model) (T := F_Model) (N := 14) hx hb htg i_Model hown hK hP 0 rfl rfl 13 (by decide) (htg _ tm_411) (fun _ h9 => h9) rfl d_M_common_48 ?_
            refine lv_iload hx hb d_M_common_51 (lv_at hl 1 rfl) ?_
            refine lv_aload_n hx hb d_M_common_53 rfl (lv_at hl 2 rfl) ?_
            refine va_get (D := D) (ci := 5) (v := .ref q7) (C := R_Model) (T := F_Model) (N := 14) hx hb htg i_Model hown hK hP 0 rfl rfl 8 (by decide) (htg _ tm_406) (fun _ h9 => h9) rfl d_M_common_54 ?_
            refine lv_iload hx hb d_M_common_57 (lv_at hl 1 rfl) ?_
            by_cases b_12 : inb al_ 3000 = true
            rotate_left
            · rw [if_neg b_12] at h; cases h
            rw [if_pos b_12] at h
            refine va_lald hx hb hK hP 3 0 rfl rfl (inb_in b_12) d_M_common_59 ?_
            by_cases b_13 : inb al_ 3000 = true
            rotate_left
            · rw [if_neg b_13] at h; cases h
            rw [if_pos b_13] at h
            refine va_last hx hb hK hP hD hS 5 0 rfl rfl (inb_in b_13) d_M_common_60 (fun H locs hP hD hS => ?_)
            have hP : va_P D classes ([(h0, .inr (5, [.ref q1, .ref q2, .ref q3, .ref q4, .ref q5, .int cm, .int stp, .ref q6, .ref q7, .ref q8, .int mus, .int mc_, .int mb_, .ref q9])), (q2, .inl (ct.1, 240, .inr (.inl ac))), (q6, .inl (ct.1, 6, .inr (.inl ax))), (q7, .inl (ct.1, 3000, .inr (.inl au))), (q8, .inl (ct.2.2, 500, .inl ao)), (q9, .inl (ct.1, 3000, .inr (.inl (vp_updL at_ al_.toNatClampNeg (au al_.toNatClampNeg)))))] ++ wt) H := hP
            have hD : va_D A ([(h0, .inr (5, [.ref q1, .ref q2, .ref q3, .ref q4, .ref q5, .int cm, .int stp, .ref q6, .ref q7, .ref q8, .int mus, .int mc_, .int mb_, .ref q9])), (q2, .inl (ct.1, 240, .inr (.inl ac))), (q6, .inl (ct.1, 6, .inr (.inl ax))), (q7, .inl (ct.1, 3000, .inr (.inl au))), (q8, .inl (ct.2.2, 500, .inl ao)), (q9, .inl (ct.1, 3000, .inr (.inl (vp_updL at_ al_.toNatClampNeg (au al_.toNatClampNeg)))))] ++ wt) := hD
            refine lv_iinc (v := al_ + (1 : Int32)) (lv' := [(6, .int (al_ + (1 : Int32))), (5, .int many), (0, .ref h0), (1, .int cl), (2, .int nn), (3, .int co), (4, .int mm)]) hx hb d_M_common_61 hl (k := 1) rfl rfl (by decide) rfl (fun ls hl => ?_)
            refine lv_goto (tgt := 37) hx hb d_M_common_64 (by decide) ?_
            exact ih many (al_ + (1 : Int32)) stp mus ax au ao mc_ mb_ (vp_updL at_ al_.toNatClampNeg (au al_.toNatClampNeg)) _ _ _ _ _ _ _ _ _ _ h H locs hP hD hS ls (lv_sub hl [1, 0, 2, 3, 4, 5, 6] rfl) K
      rcases e_24 : lp_M_common_37 cm ac cl nn co mm 3001 mus_4 (0 : Int32) stp_3 mus_4 ax_5 au_6 ao_7 mc__8 mb__9 at_ with _ | ⟨many_14, al__15, stp_16, mus_17, ax_18, au_19, ao_20, mc__21, mb__22, at__23⟩
      · rw [e_24] at h; cases h
      rw [e_24, Option.bind_some] at h
      try dsimp only at h
      refine L_37 3001 mus_4 (0 : Int32) stp_3 mus_4 ax_5 au_6 ao_7 mc__8 mb__9 at_ many_14 al__15 stp_16 mus_17 ax_18 au_19 ao_20 mc__21 mb__22 at__23 e_24 _ _ hP hD hS ls (lv_sub hl [1, 0, 2, 3, 4, 5, 6] rfl) (fun H locs hP hD hS ls hl => ?_)
      refine lv_aload_n hx hb d_M_common_67 rfl (lv_at hl 2 rfl) ?_
      refine lv_iload_n hx hb d_M_common_68 rfl (lv_at hl 3 rfl) ?_
      refine lv_iload_n hx hb d_M_common_69 rfl (lv_at hl 4 rfl) ?_
      rcases e_32 : f_M_mult ac stp_16 mus_17 ax_18 au_19 ao_20 mc__21 mb__22 cl nn with _ | ⟨stp_25, mus_26, ax_27, au_28, ao_29, mc__30, mb__31⟩
      · rw [e_32] at h; cases h
      rw [e_32, Option.bind_some] at h
      try dsimp only at h
      refine va_callv (va_runV (As := [.int cl, .int nn]) (rest := []) ⟨hx, hb, hml, hown, htg⟩ (c_M_mult l D ct A ([(q9, .inl (ct.1, 3000, .inr (.inl at__23)))] ++ wt)  h0 q1 q2 q3 q4 q5 q6 q7 q8 q9 cm stp_16 mus_17 mc__21 mb__22 ac ax_18 au_19 ao_20 cl nn   _ e_32) (cwV 2 htg (giV tm_510 tm_512 tm_27 tm_34 g_M_mult) rfl rfl rfl (by decide +kernel) ⟨Nat.le_of_ble_eq_true rfl, Nat.le_of_ble_eq_true rfl⟩) (preVM hA hS hP hD hKK (va_recv hK hP (ci := 5) (q0 := 0) rfl rfl)) rfl rfl hl.1 rfl (lv_room (Nat.le_of_ble_eq_true rfl)) d_M_common_70 ⟨Nat.le_of_ble_eq_true rfl, Nat.le_of_ble_eq_true rfl⟩) hS (fun q _ h9 => h9) (fun q h9 => h9) (fun u9 t9 H locs ht9 hvm9 hw9 hB9 hz9 hk9 hS => ?_)
      rw [hw9] at hB9
      obtain ⟨hP, hD⟩ := hB9
      rw [ht9] at hP
      have hP : va_P D classes ([(h0, .inr (5, [.ref q1, .ref q2, .ref q3, .ref q4, .ref q5, .int cm, .int stp_25, .ref q6, .ref q7, .ref q8, .int mus_26, .int mc__30, .int mb__31, .ref q9])), (q2, .inl (ct.1, 240, .inr (.inl ac))), (q6, .inl (ct.1, 6, .inr (.inl ax_27))), (q7, .inl (ct.1, 3000, .inr (.inl au_28))), (q8, .inl (ct.2.2, 500, .inl ao_29)), (q9, .inl (ct.1, 3000, .inr (.inl at__23)))] ++ wt) H := hP
      have hD : va_D A ([(h0, .inr (5, [.ref q1, .ref q2, .ref q3, .ref q4, .ref q5, .int cm, .int stp_25, .ref q6, .ref q7, .ref q8, .int mus_26, .int mc__30, .int mb__31, .ref q9])), (q2, .inl (ct.1, 240, .inr (.inl ac))), (q6, .inl (ct.1, 6, .inr (.inl ax_27))), (q7, .inl (ct.1, 3000, .inr (.inl au_28))), (q8, .inl (ct.2.2, 500, .inl ao_29)), (q9, .inl (ct.1, 3000, .inr (.inl at__23)))] ++ wt) := hD
      refine lv_iconst (v := (0 : Int32)) hx hb d_M_common_73 (by decide) ?_
      refine lv_istore (lv' := [(6, .int (0 : Int32)), (5, .int many_14), (0, .ref h0), (1, .int cl), (2, .int nn), (3, .int co), (4, .int mm)]) hx hb d_M_common_74 hl (by decide) rfl (fun ls hl => ?_)
      refine lv_iconst (v := (0 : Int32)) hx hb d_M_common_76 (by decide) ?_
      refine lv_istore (lv' := [(7, .int (0 : Int32)), (6, .int (0 : Int32)), (5, .int many_14), (0, .ref h0), (1, .int cl), (2, .int nn), (3, .int co), (4, .int mm)]) hx hb d_M_common_77 hl (by decide) rfl (fun ls hl => ?_)
      have L_112 : ∀ (n : Nat) (many : Int32) (al_ : Int32) (kk : Int32) (th : Int32) (ii : Int32) (zz : Int32) (stp : Int32) (mus : Int32) (ax : Nat → Int64) (au : Nat → Int64) (ao : Nat → Int32) (mc_ : Int32) (mb_ : Int32) (at_ : Nat → Int64) (many' : Int32) (al_' : Int32) (kk' : Int32) (th' : Int32) (ii' : Int32) (zz' : Int32) (stp' : Int32) (mus' : Int32) (ax' : Nat → Int64) (au' : Nat → Int64) (ao' : Nat → Int32) (mc_' : Int32) (mb_' : Int32) (at_' : Nat → Int64), lp_M_common_112 cm ac cl nn co mm n many al_ kk th ii zz stp mus ax au ao mc_ mb_ at_ = some (many', al_', kk', th', ii', zz', stp', mus', ax', au', ao', mc_', mb_', at_') → ∀ (H : Heap) (locs : List Loc), va_P D classes ([(h0, .inr (5, [.ref q1, .ref q2, .ref q3, .ref q4, .ref q5, .int cm, .int stp, .ref q6, .ref q7, .ref q8, .int mus, .int mc_, .int mb_, .ref q9])), (q2, .inl (ct.1, 240, .inr (.inl ac))), (q6, .inl (ct.1, 6, .inr (.inl ax))), (q7, .inl (ct.1, 3000, .inr (.inl au))), (q8, .inl (ct.2.2, 500, .inl ao)), (q9, .inl (ct.1, 3000, .inr (.inl at_)))] ++ wt) H → va_D A ([(h0, .inr (5, [.ref q1, .ref q2, .ref q3, .ref q4, .ref q5, .int cm, .int stp, .ref q6, .ref q7, .ref q8, .int mus, .int mc_, .int mb_, .ref q9])), (q2, .inl (ct.1, 240, .inr (.inl ac))), (q6, .inl (ct.1, 6, .inr (.inl ax))), (q7, .inl (ct.1, 3000, .inr (.inl au))), (q8, .inl (ct.2.2, 500, .inl ao)), (q9, .inl (ct.1, 3000, .inr (.inl at_)))] ++ wt) → va_S A s.heap H locs → ∀ (ls : Array Slot), lv_has ls 11 [(5, .int many), (6, .int al_), (7, .int kk), (8, .int th), (9, .int ii), (10, .int zz), (0, .ref h0), (1, .int cl), (2, .int nn), (3, .int co), (4, .int mm)] → (∀ (H : Heap) (locs : List Loc), va_P D classes ([(h0, .inr (5, [.ref q1, .ref q2, .ref q3, .ref q4, .ref q5, .int cm, .int stp', .ref q6, .ref q7, .ref q8, .int mus', .int mc_', .int mb_', .ref q9])), (q2, .inl (ct.1, 240, .inr (.inl ac))), (q6, .inl (ct.1, 6, .inr (.inl ax'))), (q7, .inl (ct.1, 3000, .inr (.inl au'))), (q8, .inl (ct.2.2, 500, .inl ao')), (q9, .inl (ct.1, 3000, .inr (.inl at_')))] ++ wt) H → va_D A ([(h0, .inr (5, [.ref q1, .ref q2, .ref q3, .ref q4, .ref q5, .int cm, .int stp', .ref q6, .ref q7, .ref q8, .int mus', .int mc_', .int mb_', .ref q9])), (q2, .inl (ct.1, 240, .inr (.inl ac))), (q6, .inl (ct.1, 6, .inr (.inl ax'))), (q7, .inl (ct.1, 3000, .inr (.inl au'))), (q8, .inl (ct.2.2, 500, .inl ao')), (q9, .inl (ct.1, 3000, .inr (.inl at_')))] ++ wt) → va_S A s.heap H locs → ∀ (ls : Array Slot), lv_has ls 11 [(5, .int many'), (6, .int al_'), (7, .int kk'), (8, .int th'), (9, .int ii'), (10, .int zz'), (0, .ref h0), (1, .int cl), (2, .int nn), (3, .int co), (4, .int mm)] → W p l e (headSpec w_M_common rm_M_common).room s m ([.ref h0, .int cl, .int nn, .int co, .int mm] : List Value).toArray below meth c H locs 0 0 (MQ below (va_Qi (fun r u => (r, u) = r0) (fun (u : Int32 × Int32 × (Nat → Int64) × (Nat → Int64) × (Nat → Int32) × Int32 × Int32 × (Nat → Int64)) t => match u with | (stp', mus', ax', au', ao', mc_', mb_', at_') => va_P D classes ([(h0, .inr (5, [.ref q1, .ref q2, .ref q3, .ref q4, .ref q5, .int cm, .int stp', .ref q6, .ref q7, .ref q8, .int mus', .int mc_', .int mb_', .ref q9])), (q2, .inl (ct.1, 240, .inr (.inl ac))), (q6, .inl (ct.1, 6, .inr (.inl ax'))), (q7, .inl (ct.1, 3000, .inr (.inl au'))), (q8, .inl (ct.2.2, 500, .inl ao')), (q9, .inl (ct.1, 3000, .inr (.inl at_')))] ++ wt) t.heap ∧ va_D A ([(h0, .inr (5, [.ref q1, .ref q2, .ref q3, .ref q4, .ref q5, .int cm, .int stp', .ref q6, .ref q7, .ref q8, .int mus', .int mc_', .int mb_', .ref q9])), (q2, .inl (ct.1, 240, .inr (.inl ac))), (q6, .inl (ct.1, 6, .inr (.inl ax'))), (q7, .inl (ct.1, 3000, .inr (.inl au'))), (q8, .inl (ct.2.2, 500, .inl ao')), (q9, .inl (ct.1, 3000, .inr (.inl at_')))] ++ wt)) A) ([.ref h0, .int cl, .int nn, .int co, .int mm] : List Value).toArray s 0 0 A) (F0 m 167 ls [])) → W p l e (headSpec w_M_common rm_M_common).room s m ([.ref h0, .int cl, .int nn, .int co, .int mm] : List Value).toArray below meth c H locs 0 0 (MQ below (va_Qi (fun r u => (r, u) = r0) (fun (u : Int32 × Int32 × (Nat → Int64) × (Nat → Int64) × (Nat → Int32) × Int32 × Int32 × (Nat → Int64)) t => match u with | (stp', mus', ax', au', ao', mc_', mb_', at_') => va_P D classes ([(h0, .inr (5, [.ref q1, .ref q2, .ref q3, .ref q4, .ref q5, .int cm, .int stp', .ref q6, .ref q7, .ref q8, .int mus', .int mc_', .int mb_', .ref q9])), (q2, .inl (ct.1, 240, .inr (.inl ac))), (q6, .inl (ct.1, 6, .inr (.inl ax'))), (q7, .inl (ct.1, 3000, .inr (.inl au'))), (q8, .inl (ct.2.2, 500, .inl ao')), (q9, .inl (ct.1, 3000, .inr (.inl at_')))] ++ wt) t.heap ∧ va_D A ([(h0, .inr (5, [.ref q1, .ref q2, .ref q3, .ref q4, .ref q5, .int cm, .int stp', .ref q6, .ref q7, .ref q8, .int mus', .int mc_', .int mb_', .ref q9])), (q2, .inl (ct.1, 240, .inr (.inl ac))), (q6, .inl (ct.1, 6, .inr (.inl ax'))), (q7, .inl (ct.1, 3000, .inr (.inl au'))), (q8, .inl (ct.2.2, 500, .inl ao')), (q9, .inl (ct.1, 3000, .inr (.inl at_')))] ++ wt)) A) ([.ref h0, .int cl, .int nn, .int co, .int mm] : List Value).toArray s 0 0 A) (F0 m 112 ls []) := by
        intro n
        induction n with
        | zero =>
          intro many al_ kk th ii zz stp mus ax au ao mc_ mb_ at_ many' al_' kk' th' ii' zz' stp' mus' ax' au' ao' mc_' mb_' at_' h
          rw [lp_M_common_112] at h
          cases h
        | succ n ih =>
          intro many al_ kk th ii zz stp mus ax au ao mc_ mb_ at_ many' al_' kk' th' ii' zz' stp' mus' ax' au' ao' mc_' mb_' at_' h H locs hP hD hS ls hl K
          rw [lp_M_common_112] at h
          refine lv_iload hx hb d_M_common_112 (lv_at hl 5 rfl) ?_
          refine lv_bipush (v := (6 : Int32)) hx hb d_M_common_114 (by decide) ?_
          refine lv_icmp_ge (tgt := 167) hx hb d_M_common_116 (by decide) (fun c_36 => ?_) (fun c_36 => ?_)
          · rw [if_pos c_36] at h
            cases h
            exact K _ _ hP hD hS _ (lv_sub hl [0, 1, 2, 3, 4, 5, 6, 7, 8, 9, 10] rfl)
          · rw [if_neg c_36] at h
            refine lv_iload hx hb d_M_common_119 (lv_at hl 3 rfl) ?_
            refine lv_if_eq (tgt := 167) hx hb d_M_common_121 (by decide) (fun c_37 => ?_) (fun c_37 => ?_)
            · rw [if_pos c_37] at h
              cases h
              exact K _ _ hP hD hS _ (lv_sub hl [0, 1, 2, 3, 4, 5, 6, 7, 8, 9, 10] rfl)
            · rw [if_neg c_37] at h
              refine lv_aload_n hx hb d_M_common_124 rfl (lv_at hl 6 rfl) ?_
              refine va_get (D := D) (ci := 5) (v := .ref q7) (C := R_Model) (T := F_Model) (N := 14) hx hb htg i_Model hown hK hP 0 rfl rfl 8 (by decide) (htg _ tm_406) (fun _ h9 => h9) rfl d_M_common_125 ?_
              refine lv_bipush (v := (6 : Int32)) hx hb d_M_common_128 (by decide) ?_
              refine lv_iload hx hb d_M_common_130 (lv_at hl 2 rfl) ?_
              refine lv_imul hx hb d_M_common_132 ?_
              refine lv_iload hx hb d_M_common_133 (lv_at hl 5 rfl) ?_
              refine lv_iadd hx hb d_M_common_135 ?_
              by_cases b_38 : inb (((6 : Int32) * kk) + zz) 3000 = true
              rotate_left
              · rw [if_neg b_38] at h; cases h
              rw [if_pos b_38] at h
              refine va_lald hx hb hK hP 3 0 rfl rfl (inb_in b_38) d_M_common_136 ?_
              refine lv_aload_n hx hb d_M_common_137 rfl (lv_at hl 6 rfl) ?_
              refine va_get (D := D) (ci := 5) (v := .ref q9) (C := R_Model) (T := F_Model) (N := 14) hx hb htg i_Model hown hK hP 0 rfl rfl 13 (by decide) (htg _ tm_411) (fun _ h9 => h9) rfl d_M_common_138 ?_
              refine lv_bipush (v := (6 : Int32)) hx hb d_M_common_141 (by decide) ?_
              refine lv_iload hx hb d_M_common_143 (lv_at hl 4 rfl) ?_
              refine lv_imul hx hb d_M_common_145 ?_
              refine lv_iload hx hb d_M_common_146 (lv_at hl 5 rfl) ?_
              refine lv_iadd hx hb d_M_common_148 ?_
              by_cases b_39 : inb (((6 : Int32) * ii) + zz) 3000 = true
              rotate_left
              · rw [if_neg b_39] at h; cases h
              rw [if_pos b_39] at h
              refine va_lald hx hb hK hP 5 0 rfl rfl (inb_in b_39) d_M_common_149 ?_
              refine W.lcmp hx hb d_M_common_150 ?_
              refine lv_if_ne (tgt := 158) hx hb d_M_common_151 (by decide) (fun c_40 => ?_) (fun c_40 => ?_)
              · rw [if_neg c_40] at h
                refine lv_iconst (v := (0 : Int32)) hx hb d_M_common_158 (by decide) ?_
                refine lv_istore (lv' := [(8, .int (0 : Int32)), (5, .int many), (6, .int al_), (7, .int kk), (9, .int ii), (10, .int zz), (0, .ref h0), (1, .int cl), (2, .int nn), (3, .int co), (4, .int mm)]) hx hb d_M_common_159 hl (by decide) rfl (fun ls hl => ?_)
                refine lv_iinc (v := zz + (1 : Int32)) (lv' := [(10, .int (zz + (1 : Int32))), (8, .int (0 : Int32)), (5, .int many), (6, .int al_), (7, .int kk), (9, .int ii), (0, .ref h0), (1, .int cl), (2, .int nn), (3, .int co), (4, .int mm)]) hx hb d_M_common_161 hl (k := 5) rfl rfl (by decide) rfl (fun ls hl => ?_)
                refine lv_goto (tgt := 112) hx hb d_M_common_164 (by decide) ?_
                exact ih many al_ kk (0 : Int32) ii (zz + (1 : Int32)) stp mus ax au ao mc_ mb_ at_ _ _ _ _ _ _ _ _ _ _ _ _ _ _ h H locs hP hD hS ls (lv_sub hl [2, 3, 4, 1, 5, 0, 6, 7, 8, 9, 10] rfl) K
              · rw [if_pos c_40] at h
                refine lv_iconst (v := (1 : Int32)) hx hb d_M_common_154 (by decide) ?_
                refine lv_goto (tgt := 159) hx hb d_M_common_155 (by decide) ?_
                refine lv_istore (lv' := [(8, .int (1 : Int32)), (5, .int many), (6, .int al_), (7, .int kk), (9, .int ii), (10, .int zz), (0, .ref h0), (1, .int cl), (2, .int nn), (3, .int co), (4, .int mm)]) hx hb d_M_common_159 hl (by decide) rfl (fun ls hl => ?_)
                refine lv_iinc (v := zz + (1 : Int32)) (lv' := [(10, .int (zz + (1 : Int32))), (8, .int (1 : Int32)), (5, .int many), (6, .int al_), (7, .int kk), (9, .int ii), (0, .ref h0), (1, .int cl), (2, .int nn), (3, .int co), (4, .int mm)]) hx hb d_M_common_161 hl (k := 5) rfl rfl (by decide) rfl (fun ls hl => ?_)
                refine lv_goto (tgt := 112) hx hb d_M_common_164 (by decide) ?_
                exact ih many al_ kk (1 : Int32) ii (zz + (1 : Int32)) stp mus ax au ao mc_ mb_ at_ _ _ _ _ _ _ _ _ _ _ _ _ _ _ h H locs hP hD hS ls (lv_sub hl [2, 3, 4, 1, 5, 0, 6, 7, 8, 9, 10] rfl) K
      have L_94 : ∀ (n : Nat) (many : Int32) (al_ : Int32) (kk : Int32) (th : Int32) (ii : Int32) (stp : Int32) (mus : Int32) (ax : Nat → Int64) (au : Nat → Int64) (ao : Nat → Int32) (mc_ : Int32) (mb_ : Int32) (at_ : Nat → Int64) (many' : Int32) (al_' : Int32) (kk' : Int32) (th' : Int32) (ii' : Int32) (stp' : Int32) (mus' : Int32) (ax' : Nat → Int64) (au' : Nat → Int64) (ao' : Nat → Int32) (mc_' : Int32) (mb_' : Int32) (at_' : Nat → Int64), lp_M_common_94 cm ac cl nn co mm n many al_ kk th ii stp mus ax au ao mc_ mb_ at_ = some (many', al_', kk', th', ii', stp', mus', ax', au', ao', mc_', mb_', at_') → ∀ (H : Heap) (locs : List Loc), va_P D classes ([(h0, .inr (5, [.ref q1, .ref q2, .ref q3, .ref q4, .ref q5, .int cm, .int stp, .ref q6, .ref q7, .ref q8, .int mus, .int mc_, .int mb_, .ref q9])), (q2, .inl (ct.1, 240, .inr (.inl ac))), (q6, .inl (ct.1, 6, .inr (.inl ax))), (q7, .inl (ct.1, 3000, .inr (.inl au))), (q8, .inl (ct.2.2, 500, .inl ao)), (q9, .inl (ct.1, 3000, .inr (.inl at_)))] ++ wt) H → va_D A ([(h0, .inr (5, [.ref q1, .ref q2, .ref q3, .ref q4, .ref q5, .int cm, .int stp, .ref q6, .ref q7, .ref q8, .int mus, .int mc_, .int mb_, .ref q9])), (q2, .inl (ct.1, 240, .inr (.inl ac))), (q6, .inl (ct.1, 6, .inr (.inl ax))), (q7, .inl (ct.1, 3000, .inr (.inl au))), (q8, .inl (ct.2.2, 500, .inl ao)), (q9, .inl (ct.1, 3000, .inr (.inl at_)))] ++ wt) → va_S A s.heap H locs → ∀ (ls : Array Slot), lv_has ls 11 [(5, .int many), (6, .int al_), (7, .int kk), (8, .int th), (9, .int ii), (0, .ref h0), (1, .int cl), (2, .int nn), (3, .int co), (4, .int mm)] → (∀ (H : Heap) (locs : List Loc), va_P D classes ([(h0, .inr (5, [.ref q1, .ref q2, .ref q3, .ref q4, .ref q5, .int cm, .int stp', .ref q6, .ref q7, .ref q8, .int mus', .int mc_', .int mb_', .ref q9])), (q2, .inl (ct.1, 240, .inr (.inl ac))), (q6, .inl (ct.1, 6, .inr (.inl ax'))), (q7, .inl (ct.1, 3000, .inr (.inl au'))), (q8, .inl (ct.2.2, 500, .inl ao')), (q9, .inl (ct.1, 3000, .inr (.inl at_')))] ++ wt) H → va_D A ([(h0, .inr (5, [.ref q1, .ref q2, .ref q3, .ref q4, .ref q5, .int cm, .int stp', .ref q6, .ref q7, .ref q8, .int mus', .int mc_', .int mb_', .ref q9])), (q2, .inl (ct.1, 240, .inr (.inl ac))), (q6, .inl (ct.1, 6, .inr (.inl ax'))), (q7, .inl (ct.1, 3000, .inr (.inl au'))), (q8, .inl (ct.2.2, 500, .inl ao')), (q9, .inl (ct.1, 3000, .inr (.inl at_')))] ++ wt) → va_S A s.heap H locs → ∀ (ls : Array Slot), lv_has ls 11 [(5, .int many'), (6, .int al_'), (7, .int kk'), (8, .int th'), (9, .int ii'), (0, .ref h0), (1, .int cl), (2, .int nn), (3, .int co), (4, .int mm)] → W p l e (headSpec w_M_common rm_M_common).room s m ([.ref h0, .int cl, .int nn, .int co, .int mm] : List Value).toArray below meth c H locs 0 0 (MQ below (va_Qi (fun r u => (r, u) = r0) (fun (u : Int32 × Int32 × (Nat → Int64) × (Nat → Int64) × (Nat → Int32) × Int32 × Int32 × (Nat → Int64)) t => match u with | (stp', mus', ax', au', ao', mc_', mb_', at_') => va_P D classes ([(h0, .inr (5, [.ref q1, .ref q2, .ref q3, .ref q4, .ref q5, .int cm, .int stp', .ref q6, .ref q7, .ref q8, .int mus', .int mc_', .int mb_', .ref q9])), (q2, .inl (ct.1, 240, .inr (.inl ac))), (q6, .inl (ct.1, 6, .inr (.inl ax'))), (q7, .inl (ct.1, 3000, .inr (.inl au'))), (q8, .inl (ct.2.2, 500, .inl ao')), (q9, .inl (ct.1, 3000, .inr (.inl at_')))] ++ wt) t.heap ∧ va_D A ([(h0, .inr (5, [.ref q1, .ref q2, .ref q3, .ref q4, .ref q5, .int cm, .int stp', .ref q6, .ref q7, .ref q8, .int mus', .int mc_', .int mb_', .ref q9])), (q2, .inl (ct.1, 240, .inr (.inl ac))), (q6, .inl (ct.1, 6, .inr (.inl ax'))), (q7, .inl (ct.1, 3000, .inr (.inl au'))), (q8, .inl (ct.2.2, 500, .inl ao')), (q9, .inl (ct.1, 3000, .inr (.inl at_')))] ++ wt)) A) ([.ref h0, .int cl, .int nn, .int co, .int mm] : List Value).toArray s 0 0 A) (F0 m 173 ls [])) → W p l e (headSpec w_M_common rm_M_common).room s m ([.ref h0, .int cl, .int nn, .int co, .int mm] : List Value).toArray below meth c H locs 0 0 (MQ below (va_Qi (fun r u => (r, u) = r0) (fun (u : Int32 × Int32 × (Nat → Int64) × (Nat → Int64) × (Nat → Int32) × Int32 × Int32 × (Nat → Int64)) t => match u with | (stp', mus', ax', au', ao', mc_', mb_', at_') => va_P D classes ([(h0, .inr (5, [.ref q1, .ref q2, .ref q3, .ref q4, .ref q5, .int cm, .int stp', .ref q6, .ref q7, .ref q8, .int mus', .int mc_', .int mb_', .ref q9])), (q2, .inl (ct.1, 240, .inr (.inl ac))), (q6, .inl (ct.1, 6, .inr (.inl ax'))), (q7, .inl (ct.1, 3000, .inr (.inl au'))), (q8, .inl (ct.2.2, 500, .inl ao')), (q9, .inl (ct.1, 3000, .inr (.inl at_')))] ++ wt) t.heap ∧ va_D A ([(h0, .inr (5, [.ref q1, .ref q2, .ref q3, .ref q4, .ref q5, .int cm, .int stp', .ref q6, .ref q7, .ref q8, .int mus', .int mc_', .int mb_', .ref q9])), (q2, .inl (ct.1, 240, .inr (.inl ac))), (q6, .inl (ct.1, 6, .inr (.inl ax'))), (q7, .inl (ct.1, 3000, .inr (.inl au'))), (q8, .inl (ct.2.2, 500, .inl ao')), (q9, .inl (ct.1, 3000, .inr (.inl at_')))] ++ wt)) A) ([.ref h0, .int cl, .int nn, .int co, .int mm] : List Value).toArray s 0 0 A) (F0 m 94 ls []) := by
        intro n
        induction n with
        | zero =>
          intro many al_ kk th ii stp mus ax au ao mc_ mb_ at_ many' al_' kk' th' ii' stp' mus' ax' au' ao' mc_' mb_' at_' h
          rw [lp_M_common_94] at h
          cases h
        | succ n ih =>
          intro many al_ kk th ii stp mus ax au ao mc_ mb_ at_ many' al_' kk' th' ii' stp' mus' ax' au' ao' mc_' mb_' at_' h H locs hP hD hS ls hl K
          rw [lp_M_common_94] at h
          refine lv_iload hx hb d_M_common_94 (lv_at hl 4 rfl) ?_
          refine lv_iload hx hb d_M_common_96 (lv_at hl 0 rfl) ?_
          refine lv_icmp_ge (tgt := 173) hx hb d_M_common_98 (by decide) (fun c_34 => ?_) (fun c_34 => ?_)
          · rw [if_pos c_34] at h
            cases h
            exact K _ _ hP hD hS _ (lv_sub hl [0, 1, 2, 3, 4, 5, 6, 7, 8, 9] rfl)
          · rw [if_neg c_34] at h
            refine lv_iload hx hb d_M_common_101 (lv_at hl 3 rfl) ?_
            refine lv_if_ne (tgt := 173) hx hb d_M_common_103 (by decide) (fun c_35 => ?_) (fun c_35 => ?_)
            · rw [if_neg c_35] at h
              cases h
              exact K _ _ hP hD hS _ (lv_sub hl [0, 1, 2, 3, 4, 5, 6, 7, 8, 9] rfl)
            · rw [if_pos c_35] at h
              refine lv_iconst (v := (1 : Int32)) hx hb d_M_common_106 (by decide) ?_
              refine lv_istore (lv' := [(8, .int (1 : Int32)), (5, .int many), (6, .int al_), (7, .int kk), (9, .int ii), (0, .ref h0), (1, .int cl), (2, .int nn), (3, .int co), (4, .int mm)]) hx hb d_M_common_107 hl (by decide) rfl (fun ls hl => ?_)
              refine lv_iconst (v := (0 : Int32)) hx hb d_M_common_109 (by decide) ?_
              refine lv_istore (lv' := [(10, .int (0 : Int32)), (8, .int (1 : Int32)), (5, .int many), (6, .int al_), (7, .int kk), (9, .int ii), (0, .ref h0), (1, .int cl), (2, .int nn), (3, .int co), (4, .int mm)]) hx hb d_M_common_110 hl (by decide) rfl (fun ls hl => ?_)
              rcases e_55 : lp_M_common_112 cm ac cl nn co mm 7 many al_ kk (1 : Int32) ii (0 : Int32) stp mus ax au ao mc_ mb_ at_ with _ | ⟨many_41, al__42, kk_43, th_44, ii_45, zz_46, stp_47, mus_48, ax_49, au_50, ao_51, mc__52, mb__53, at__54⟩
              · rw [e_55] at h; cases h
              rw [e_55, Option.bind_some] at h
              try dsimp only at h
              refine L_112 7 many al_ kk (1 : Int32) ii (0 : Int32) stp mus ax au ao mc_ mb_ at_ many_41 al__42 kk_43 th_44 ii_45 zz_46 stp_47 mus_48 ax_49 au_50 ao_51 mc__52 mb__53 at__54 e_55 _ _ hP hD hS ls (lv_sub hl [2, 3, 4, 1, 5, 0, 6, 7, 8, 9, 10] rfl) (fun H locs hP hD hS ls hl => ?_)
              refine lv_iinc (v := ii_45 + (1 : Int32)) (lv' := [(9, .int (ii_45 + (1 : Int32))), (5, .int many_41), (6, .int al__42), (7, .int kk_43), (8, .int th_44), (10, .int zz_46), (0, .ref h0), (1, .int cl), (2, .int nn), (3, .int co), (4, .int mm)]) hx hb d_M_common_167 hl (k := 4) rfl rfl (by decide) rfl (fun ls hl => ?_)
              refine lv_goto (tgt := 94) hx hb d_M_common_170 (by decide) ?_
              exact ih many_41 al__42 kk_43 th_44 (ii_45 + (1 : Int32)) stp_47 mus_48 ax_49 au_50 ao_51 mc__52 mb__53 at__54 _ _ _ _ _ _ _ _ _ _ _ _ _ h H locs hP hD hS ls (lv_sub hl [1, 2, 3, 4, 0, 6, 7, 8, 9, 10] rfl) K
      have L_79 : ∀ (n : Nat) (many : Int32) (al_ : Int32) (kk : Int32) (stp : Int32) (mus : Int32) (ax : Nat → Int64) (au : Nat → Int64) (ao : Nat → Int32) (mc_ : Int32) (mb_ : Int32) (at_ : Nat → Int64) , lp_M_common_79 cm ac cl nn co mm n many al_ kk stp mus ax au ao mc_ mb_ at_ = some r0 → ∀ (H : Heap) (locs : List Loc), va_P D classes ([(h0, .inr (5, [.ref q1, .ref q2, .ref q3, .ref q4, .ref q5, .int cm, .int stp, .ref q6, .ref q7, .ref q8, .int mus, .int mc_, .int mb_, .ref q9])), (q2, .inl (ct.1, 240, .inr (.inl ac))), (q6, .inl (ct.1, 6, .inr (.inl ax))), (q7, .inl (ct.1, 3000, .inr (.inl au))), (q8, .inl (ct.2.2, 500, .inl ao)), (q9, .inl (ct.1, 3000, .inr (.inl at_)))] ++ wt) H → va_D A ([(h0, .inr (5, [.ref q1, .ref q2, .ref q3, .ref q4, .ref q5, .int cm, .int stp, .ref q6, .ref q7, .ref q8, .int mus, .int mc_, .int mb_, .ref q9])), (q2, .inl (ct.1, 240, .inr (.inl ac))), (q6, .inl (ct.1, 6, .inr (.inl ax))), (q7, .inl (ct.1, 3000, .inr (.inl au))), (q8, .inl (ct.2.2, 500, .inl ao)), (q9, .inl (ct.1, 3000, .inr (.inl at_)))] ++ wt) → va_S A s.heap H locs → ∀ (ls : Array Slot), lv_has ls 11 [(5, .int many), (6, .int al_), (7, .int kk), (0, .ref h0), (1, .int cl), (2, .int nn), (3, .int co), (4, .int mm)] → W p l e (headSpec w_M_common rm_M_common).room s m ([.ref h0, .int cl, .int nn, .int co, .int mm] : List Value).toArray below meth c H locs 0 0 (MQ below (va_Qi (fun r u => (r, u) = r0) (fun (u : Int32 × Int32 × (Nat → Int64) × (Nat → Int64) × (Nat → Int32) × Int32 × Int32 × (Nat → Int64)) t => match u with | (stp', mus', ax', au', ao', mc_', mb_', at_') => va_P D classes ([(h0, .inr (5, [.ref q1, .ref q2, .ref q3, .ref q4, .ref q5, .int cm, .int stp', .ref q6, .ref q7, .ref q8, .int mus', .int mc_', .int mb_', .ref q9])), (q2, .inl (ct.1, 240, .inr (.inl ac))), (q6, .inl (ct.1, 6, .inr (.inl ax'))), (q7, .inl (ct.1, 3000, .inr (.inl au'))), (q8, .inl (ct.2.2, 500, .inl ao')), (q9, .inl (ct.1, 3000, .inr (.inl at_')))] ++ wt) t.heap ∧ va_D A ([(h0, .inr (5, [.ref q1, .ref q2, .ref q3, .ref q4, .ref q5, .int cm, .int stp', .ref q6, .ref q7, .ref q8, .int mus', .int mc_', .int mb_', .ref q9])), (q2, .inl (ct.1, 240, .inr (.inl ac))), (q6, .inl (ct.1, 6, .inr (.inl ax'))), (q7, .inl (ct.1, 3000, .inr (.inl au'))), (q8, .inl (ct.2.2, 500, .inl ao')), (q9, .inl (ct.1, 3000, .inr (.inl at_')))] ++ wt)) A) ([.ref h0, .int cl, .int nn, .int co, .int mm] : List Value).toArray s 0 0 A) (F0 m 79 ls []) := by
        intro n
        induction n with
        | zero =>
          intro many al_ kk stp mus ax au ao mc_ mb_ at_  h
          rw [lp_M_common_79] at h
          cases h
        | succ n ih =>
          intro many al_ kk stp mus ax au ao mc_ mb_ at_  h H locs hP hD hS ls hl
          rw [lp_M_common_79] at h
          refine lv_iload hx hb d_M_common_79 (lv_at hl 2 rfl) ?_
          refine lv_aload_n hx hb d_M_common_81 rfl (lv_at hl 3 rfl) ?_
          refine va_get (D := D) (ci := 5) (v := .int mus) (C := R_Model) (T := F_Model) (N := 14) hx hb htg i_Model hown hK hP 0 rfl rfl 10 (by decide) (htg _ tm_408) (fun _ h9 => h9) rfl d_M_common_82 ?_
          refine lv_icmp_ge (tgt := 194) hx hb d_M_common_85 (by decide) (fun c_33 => ?_) (fun c_33 => ?_)
          · rw [if_pos c_33] at h
            refine lv_iload hx hb d_M_common_194 (lv_at hl 1 rfl) ?_
            exact W.iret (v := al_) hx hb hr (fun t ht hW => ⟨⟨al_, (stp, mus, ax, au, ao, mc_, mb_, at_), rfl, (Option.some.inj h), by rw [ht]; exact hP, hD⟩, hS.F ht⟩) hS.2.2 d_M_common_196
          · rw [if_neg c_33] at h
            refine lv_iconst (v := (0 : Int32)) hx hb d_M_common_88 (by decide) ?_
            refine lv_istore (lv' := [(8, .int (0 : Int32)), (5, .int many), (6, .int al_), (7, .int kk), (0, .ref h0), (1, .int cl), (2, .int nn), (3, .int co), (4, .int mm)]) hx hb d_M_common_89 hl (by decide) rfl (fun ls hl => ?_)
            refine lv_iconst (v := (0 : Int32)) hx hb d_M_common_91 (by decide) ?_
            refine lv_istore (lv' := [(9, .int (0 : Int32)), (8, .int (0 : Int32)), (5, .int many), (6, .int al_), (7, .int kk), (0, .ref h0), (1, .int cl), (2, .int nn), (3, .int co), (4, .int mm)]) hx hb d_M_common_92 hl (by decide) rfl (fun ls hl => ?_)
            rcases e_70 : lp_M_common_94 cm ac cl nn co mm 501 many al_ kk (0 : Int32) (0 : Int32) stp mus ax au ao mc_ mb_ at_ with _ | ⟨many_57, al__58, kk_59, th_60, ii_61, stp_62, mus_63, ax_64, au_65, ao_66, mc__67, mb__68, at__69⟩
            · rw [e_70] at h; cases h
            rw [e_70, Option.bind_some] at h
            try dsimp only at h
            refine L_94 501 many al_ kk (0 : Int32) (0 : Int32) stp mus ax au ao mc_ mb_ at_ many_57 al__58 kk_59 th_60 ii_61 stp_62 mus_63 ax_64 au_65 ao_66 mc__67 mb__68 at__69 e_70 _ _ hP hD hS ls (lv_sub hl [2, 3, 4, 1, 0, 5, 6, 7, 8, 9] rfl) (fun H locs hP hD hS ls hl => ?_)
            refine lv_iload hx hb d_M_common_173 (lv_at hl 1 rfl) ?_
            refine lv_iload hx hb d_M_common_175 (lv_at hl 3 rfl) ?_
            refine lv_if_eq (tgt := 184) hx hb d_M_common_177 (by decide) (fun c_71 => ?_) (fun c_71 => ?_)
            · rw [if_pos c_71] at h
              refine lv_iconst (v := (0 : Int32)) hx hb d_M_common_184 (by decide) ?_
              refine lv_iadd hx hb d_M_common_185 ?_
              refine lv_istore (lv' := [(6, .int (al__58 + (0 : Int32))), (5, .int many_57), (7, .int kk_59), (8, .int th_60), (9, .int ii_61), (0, .ref h0), (1, .int cl), (2, .int nn), (3, .int co), (4, .int mm)]) hx hb d_M_common_186 hl (by decide) rfl (fun ls hl => ?_)
              refine lv_iinc (v := kk_59 + (1 : Int32)) (lv' := [(7, .int (kk_59 + (1 : Int32))), (6, .int (al__58 + (0 : Int32))), (5, .int many_57), (8, .int th_60), (9, .int ii_61), (0, .ref h0), (1, .int cl), (2, .int nn), (3, .int co), (4, .int mm)]) hx hb d_M_common_188 hl (k := 2) rfl rfl (by decide) rfl (fun ls hl => ?_)
              refine lv_goto (tgt := 79) hx hb d_M_common_191 (by decide) ?_
              exact ih many_57 (al__58 + (0 : Int32)) (kk_59 + (1 : Int32)) stp_62 mus_63 ax_64 au_65 ao_66 mc__67 mb__68 at__69 h H locs hP hD hS ls (lv_sub hl [2, 1, 0, 5, 6, 7, 8, 9] rfl)
            · rw [if_neg c_71] at h
              refine lv_iconst (v := (1 : Int32)) hx hb d_M_common_180 (by decide) ?_
              refine lv_goto (tgt := 185) hx hb d_M_common_181 (by decide) ?_
              refine lv_iadd hx hb d_M_common_185 ?_
              refine lv_istore (lv' := [(6, .int (al__58 + (1 : Int32))), (5, .int many_57), (7, .int kk_59), (8, .int th_60), (9, .int ii_61), (0, .ref h0), (1, .int cl), (2, .int nn), (3, .int co), (4, .int mm)]) hx hb d_M_common_186 hl (by decide) rfl (fun ls hl => ?_)
              refine lv_iinc (v := kk_59 + (1 : Int32)) (lv' := [(7, .int (kk_59 + (1 : Int32))), (6, .int (al__58 + (1 : Int32))), (5, .int many_57), (8, .int th_60), (9, .int ii_61), (0, .ref h0), (1, .int cl), (2, .int nn), (3, .int co), (4, .int mm)]) hx hb d_M_common_188 hl (k := 2) rfl rfl (by decide) rfl (fun ls hl => ?_)
              refine lv_goto (tgt := 79) hx hb d_M_common_191 (by decide) ?_
              exact ih many_57 (al__58 + (1 : Int32)) (kk_59 + (1 : Int32)) stp_62 mus_63 ax_64 au_65 ao_66 mc__67 mb__68 at__69 h H locs hP hD hS ls (lv_sub hl [2, 1, 0, 5, 6, 7, 8, 9] rfl)
      exact L_79 501 many_14 (0 : Int32) (0 : Int32) stp_25 mus_26 ax_27 au_28 ao_29 mc__30 mb__31 at__23 h _ _ hP hD hS ls (lv_sub hl [2, 1, 0, 3, 4, 5, 6, 7] rfl)
    · rw [if_pos c_2] at h
      refine lv_iconst (v := (-1 : Int32)) hx hb d_M_common_19 (by decide) ?_
      exact W.iret (v := (-1 : Int32)) hx hb hr (fun t ht hW => ⟨⟨(-1 : Int32), (stp, mus, ax, au, ao, mc_, mb_, at_), rfl, (Option.some.inj h), by rw [ht]; exact hP, hD⟩, hS.F ht⟩) hS.2.2 d_M_common_20
