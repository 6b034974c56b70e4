-- CellBench reduced (II)J
def f_B_reduced (td : Nat → P6) (lw : Nat → P6) (sy : Nat → Int32) (sh : Nat → Int32) (kn : Nat) (cl : Int32) (wh : Int32) : Option (Int64) :=
    if inb cl kn = true then (if wh = (6 : Int32) then (some ((sy cl.toNatClampNeg).toInt64)) else (if wh = (7 : Int32) then (some (f_P_det ((lw cl.toNatClampNeg).1) ((lw cl.toNatClampNeg).2.1) ((lw cl.toNatClampNeg).2.2.1) ((lw cl.toNatClampNeg).2.2.2.1) ((lw cl.toNatClampNeg).2.2.2.2.1) ((lw cl.toNatClampNeg).2.2.2.2.2))) else (if wh = (8 : Int32) then (some ((sh cl.toNatClampNeg).toInt64)) else (some (f_P_at ((lw cl.toNatClampNeg).1) ((lw cl.toNatClampNeg).2.1) ((lw cl.toNatClampNeg).2.2.1) ((lw cl.toNatClampNeg).2.2.2.1) ((lw cl.toNatClampNeg).2.2.2.2.1) ((lw cl.toNatClampNeg).2.2.2.2.2) wh))))) else (some (0 : Int64))
def w_B_reduced : List Cond := .code y_B_reduced b_B_reduced 4 (some .long) :: GW
abbrev rm_B_reduced : Room := { frames := 1, cells := 0, slots := 0, locals := 21 }
theorem g_B_reduced : GoodIn GW w_B_reduced := gi tm_277
set_option maxHeartbeats 4000000 in
set_option maxRecDepth 100000 in
theorem c_B_reduced (l : Launch) (D : va_G) (ct : CT) (ws : va_W) (k0 : Nat) (k1 : Nat) (h0 : Nat) (h1 : Nat) (h2 : Nat) (h3 : Nat) (h5 : Nat) (ca : Nat → Nat) (ta : Nat → Nat) (la : Nat → Nat) (td : Nat → P6) (lw : Nat → P6) (sy : Nat → Int32) (sh : Nat → Int32) (kn : Nat) (cl : Int32) (wh : Int32) (hk0 : ws[k0]? = some (h0, .inr (4, [.ref h1, .ref h2, .ref h3, .ref h5, .int (nI kn)]))) (hk1 : ws[k1]? = some (h1, .inl (ct.2.1, 40, .inr (.inr (.inr (.inr (cfun kn ca))))))) (hk40 : kn ≤ 40) (hpool : PoolIn ws ca ta la td lw sy sh kn) (r0 : Int64) (h : f_B_reduced td lw sy sh kn cl wh = some r0) : Met l y_B_reduced w_B_reduced rm_B_reduced (va_Pc [.ref h0, .int cl, .int wh] (PreP D ct ws)) (vp_Sl (fun r => r = r0)) 0 0 (fun _ => False) := by
  refine Met.ofW (cc := b_B_reduced) (maxL := 4) (ret := (some .long)) (by decide) rfl ?_
  intro p e s m args below meth c s₁ B hml hv
  obtain ⟨rfl, hP, hKK⟩ := hv
  have hx := B.exec
  have hb := B.bytes
  have hr := B.returns
  have htg := ht_tl (atoms_spec (ws := w_B_reduced) B.pre)
  have hown : s.vm.findClass R_Bench = some m.cls := findClass_of_methodNamed B.named
  have hlocks := B.notSynchronized
  have hK := hKK.1
  have hN := hKK.2.1
  have hO := hKK.2.2
  have hl := lv_entry ([.ref h0, .int cl, .int wh]) (n := 4) (Nat.le_of_ble_eq_true rfl)
  rw [lg_entry_eq]
  generalize (lg_sl ([.ref h0, .int cl, .int wh]) ++ List.replicate (4 - (lg_sl ([.ref h0, .int cl, .int wh])).length) Slot.unset).toArray = ls at hl ⊢
  have hl : lv_has ls 4 [(0, .ref h0), (1, .int cl), (2, .int wh)] := hl
  unfold f_B_reduced at h
  refine lv_aload_n hx hb d_B_reduced_0 rfl (lv_at hl 0 rfl) ?_
  refine lv_iload_n hx hb d_B_reduced_1 rfl (lv_at hl 1 rfl) ?_
  by_cases b_1 : inb cl kn = true
  · rw [if_pos b_1] at h
    obtain ⟨⟨kc_2, hkc_2⟩, ⟨kt_3, hkt_3⟩, ⟨kl_4, hkl_4⟩⟩ := hpool cl.toNatClampNeg (inb_lt b_1)
    refine va_csq (va_Run.run (va_runV (As := [.int cl]) (rest := []) ⟨hx, hb, hml, hown, htg⟩ (c_B_find l D ct ws k0 k1 h0 h1 h2 h3 h5 (nI kn) (cfun kn ca) cl hk0 hk1 _ (find_in hk40 b_1)) (cwV 1 htg (giV tm_278 tm_280 tm_11 tm_31 g_B_find) rfl rfl rfl (by decide +kernel) ⟨Nat.le_of_ble_eq_true rfl, Nat.le_of_ble_eq_true rfl⟩) (preV hP hKK (va_recv hK hP (ci := 4) (q0 := k0) rfl hk0)) rfl rfl hl.1 rfl (lv_room (Nat.le_of_ble_eq_true rfl)) d_B_reduced_2 ⟨Nat.le_of_ble_eq_true rfl, Nat.le_of_ble_eq_true rfl⟩)) (fun r9 hr9 => ?_)
    subst hr9
    refine W.eq (g2 := F0 m 5 ls [.ref (ca cl.toNatClampNeg)]) rfl ?_
    refine lv_astore_n (lv' := [(3, .ref (ca cl.toNatClampNeg)), (0, .ref h0), (1, .int cl), (2, .int wh)]) hx hb d_B_reduced_5 rfl hl (by decide) rfl (fun ls hl => ?_)
    refine lv_aload_n hx hb d_B_reduced_6 rfl (lv_at hl 0 rfl) ?_
    refine lv_ifnonnull (tgt := 12) hx hb d_B_reduced_7 (by decide) ?_
    refine lv_iload_n hx hb d_B_reduced_12 rfl (lv_at hl 3 rfl) ?_
    by_cases c_5 : wh = (6 : Int32)
    · rw [if_pos c_5] at h
      refine lv_tableIn (off := 27) (tgt := 40) hx hb d_B_reduced_13 (by rw [c_5]; decide) (by rw [c_5]; decide) (by rw [c_5]; rfl) (by decide) ?_
      refine lv_aload_n hx hb d_B_reduced_40 rfl (lv_at hl 0 rfl) ?_
      refine va_get (D := D) (ci := 3) (v := .int (sy cl.toNatClampNeg)) (C := R_Cell) (T := F_Cell) (N := 4) hx hb htg i_Cell hown hK hP kc_2 hkc_2 rfl 2 (by decide) (htg _ tm_262) (fun _ h9 => h9) rfl d_B_reduced_41 ?_
      refine lv_i2l hx hb d_B_reduced_44 rfl ?_
      exact W.lret (v := (sy cl.toNatClampNeg).toInt64) hx hb hr (fun t ht hW => ⟨(sy cl.toNatClampNeg).toInt64, rfl, (Option.some.inj h), ht⟩) (fun q h => by cases h) d_B_reduced_45
    rw [if_neg c_5] at h
    by_cases c_6 : wh = (7 : Int32)
    · rw [if_pos c_6] at h
      refine lv_tableIn (off := 33) (tgt := 46) hx hb d_B_reduced_13 (by rw [c_6]; decide) (by rw [c_6]; decide) (by rw [c_6]; rfl) (by decide) ?_
      refine lv_aload_n hx hb d_B_reduced_46 rfl (lv_at hl 0 rfl) ?_
      refine va_get (D := D) (ci := 3) (v := .ref (la cl.toNatClampNeg)) (C := R_Cell) (T := F_Cell) (N := 4) hx hb htg i_Cell hown hK hP kc_2 hkc_2 rfl 1 (by decide) (htg _ tm_260) (fun _ h9 => h9) rfl d_B_reduced_47 ?_
      refine vp_callSl (va_Run.run (va_runV (As := []) (rest := []) ⟨hx, hb, hml, hown, htg⟩ (c_P_det l D ct ws kl_4 (la cl.toNatClampNeg) ((lw cl.toNatClampNeg).1) ((lw cl.toNatClampNeg).2.1) ((lw cl.toNatClampNeg).2.2.1) ((lw cl.toNatClampNeg).2.2.2.1) ((lw cl.toNatClampNeg).2.2.2.2.1) ((lw cl.toNatClampNeg).2.2.2.2.2) hkl_4  _ rfl) (cwV 0 htg (giV tm_282 tm_163 tm_164 tm_35 g_P_det) rfl rfl rfl (by decide +kernel) ⟨Nat.le_of_ble_eq_true rfl, Nat.le_of_ble_eq_true rfl⟩) (preV hP hKK (va_recv hK hP (ci := 0) (q0 := kl_4) rfl hkl_4)) rfl rfl hl.1 rfl (lv_room (Nat.le_of_ble_eq_true rfl)) d_B_reduced_50 ⟨Nat.le_of_ble_eq_true rfl, Nat.le_of_ble_eq_true rfl⟩)) (fun r9 hr9 => ?_)
      have hr9 := hr9.symm
      subst hr9
      exact W.lret (v := f_P_det ((lw cl.toNatClampNeg).1) ((lw cl.toNatClampNeg).2.1) ((lw cl.toNatClampNeg).2.2.1) ((lw cl.toNatClampNeg).2.2.2.1) ((lw cl.toNatClampNeg).2.2.2.2.1) ((lw cl.toNatClampNeg).2.2.2.2.2)) hx hb hr (fun t ht hW => ⟨f_P_det ((lw cl.toNatClampNeg).1) ((lw cl.toNatClampNeg).2.1) ((lw cl.toNatClampNeg).2.2.1) ((lw cl.toNatClampNeg).2.2.2.1) ((lw cl.toNatClampNeg).2.2.2.2.1) ((lw cl.toNatClampNeg).2.2.2.2.2), rfl, (Option.some.inj h), ht⟩) (fun q h => by cases h) d_B_reduced_53
    rw [if_neg c_6] at h
    by_cases c_7 : wh = (8 : Int32)
    · rw [if_pos c_7] at h
      refine lv_tableIn (off := 41) (tgt := 54) hx hb d_B_reduced_13 (by rw [c_7]; decide) (by rw [c_7]; decide) (by rw [c_7]; rfl) (by decide) ?_
      refine lv_aload_n hx hb d_B_reduced_54 rfl (lv_at hl 0 rfl) ?_
      refine va_get (D := D) (ci := 3) (v := .int (sh cl.toNatClampNeg)) (C := R_Cell) (T := F_Cell) (N := 4) hx hb htg i_Cell hown hK hP kc_2 hkc_2 rfl 3 (by decide) (htg _ tm_264) (fun _ h9 => h9) rfl d_B_reduced_55 ?_
      refine lv_i2l hx hb d_B_reduced_58 rfl ?_
      exact W.lret (v := (sh cl.toNatClampNeg).toInt64) hx hb hr (fun t ht hW => ⟨(sh cl.toNatClampNeg).toInt64, rfl, (Option.some.inj h), ht⟩) (fun q h => by cases h) d_B_reduced_59
    rw [if_neg c_7] at h
    refine lv_tableOut (tgt := 60) hx hb d_B_reduced_13 (by have z0 := lv_neT (a := 6) c_5 (by decide); have z1 := lv_neT (a := 7) c_6 (by decide); have z2 := lv_neT (a := 8) c_7 (by decide); omega) (by decide) ?_
    refine lv_aload_n hx hb d_B_reduced_60 rfl (lv_at hl 0 rfl) ?_
    refine va_get (D := D) (ci := 3) (v := .ref (la cl.toNatClampNeg)) (C := R_Cell) (T := F_Cell) (N := 4) hx hb htg i_Cell hown hK hP kc_2 hkc_2 rfl 1 (by decide) (htg _ tm_260) (fun _ h9 => h9) rfl d_B_reduced_61 ?_
    refine lv_iload_n hx hb d_B_reduced_64 rfl (lv_at hl 3 rfl) ?_
    refine vp_callSl (va_Run.run (va_runV (As := [.int wh]) (rest := []) ⟨hx, hb, hml, hown, htg⟩ (c_P_at l D ct ws kl_4 (la cl.toNatClampNeg) ((lw cl.toNatClampNeg).1) ((lw cl.toNatClampNeg).2.1) ((lw cl.toNatClampNeg).2.2.1) ((lw cl.toNatClampNeg).2.2.2.1) ((lw cl.toNatClampNeg).2.2.2.2.1) ((lw cl.toNatClampNeg).2.2.2.2.2) wh hkl_4  _ rfl) (cwV 1 htg (giV tm_283 tm_284 tm_285 tm_35 g_P_at) rfl rfl rfl (by decide +kernel) ⟨Nat.le_of_ble_eq_true rfl, Nat.le_of_ble_eq_true rfl⟩) (preV hP hKK (va_recv hK hP (ci := 0) (q0 := kl_4) rfl hkl_4)) rfl rfl hl.1 rfl (lv_room (Nat.le_of_ble_eq_true rfl)) d_B_reduced_65 ⟨Nat.le_of_ble_eq_true rfl, Nat.le_of_ble_eq_true rfl⟩)) (fun r9 hr9 => ?_)
    have hr9 := hr9.symm
    subst hr9
    exact W.lret (v := f_P_at ((lw cl.toNatClampNeg).1) ((lw cl.toNatClampNeg).2.1) ((lw cl.toNatClampNeg).2.2.1) ((lw cl.toNatClampNeg).2.2.2.1) ((lw cl.toNatClampNeg).2.2.2.2.1) ((lw cl.toNatClampNeg).2.2.2.2.2) wh) hx hb hr (fun t ht hW => ⟨f_P_at ((lw cl.toNatClampNeg).1) ((lw cl.toNatClampNeg).2.1) ((lw cl.toNatClampNeg).2.2.1) ((lw cl.toNatClampNeg).2.2.2.1) ((lw cl.toNatClampNeg).2.2.2.2.1) ((lw cl.toNatClampNeg).2.2.2.2.2) wh, rfl, (Option.some.inj h), ht⟩) (fun q h => by cases h) d_B_reduced_68
  · rw [if_neg b_1] at h
    refine va_csq (va_Run.run (va_runV (As := [.int cl]) (rest := []) ⟨hx, hb, hml, hown, htg⟩ (c_B_find l D ct ws k0 k1 h0 h1 h2 h3 h5 (nI kn) (cfun kn ca) cl hk0 hk1 _ (find_out hk40 b_1)) (cwV 1 htg (giV tm_278 tm_280 tm_11 tm_31 g_B_find) rfl rfl rfl (by decide +kernel) ⟨Nat.le_of_ble_eq_true rfl, Nat.le_of_ble_eq_true rfl⟩) (preV hP hKK (va_recv hK hP (ci := 4) (q0 := k0) rfl hk0)) rfl rfl hl.1 rfl (lv_room (Nat.le_of_ble_eq_true rfl)) d_B_reduced_2 ⟨Nat.le_of_ble_eq_true rfl, Nat.le_of_ble_eq_true rfl⟩)) (fun r9 hr9 => ?_)
    subst hr9
    refine W.eq (g2 := F0 m 5 ls [.null]) rfl ?_
    refine lv_astore_nN (lv' := [(3, .null), (0, .ref h0), (1, .int cl), (2, .int wh)]) hx hb d_B_reduced_5 rfl hl (by decide) rfl (fun ls hl => ?_)
    refine lv_aload_nN hx hb d_B_reduced_6 rfl (lv_at hl 0 rfl) ?_
    refine lv_ifnonnullN hx hb d_B_reduced_7 ?_
    refine lv_lconst (v := (0 : Int64)) hx hb d_B_reduced_10 (by decide) ?_
    exact W.lret (v := (0 : Int64)) hx hb hr (fun t ht hW => ⟨(0 : Int64), rfl, (Option.some.inj h), ht⟩) (fun q h => by cases h) d_B_reduced_11
-- CellBench keeps (II)Z
def f_B_keeps (td : Nat → P6) (lw : Nat → P6) (sy : Nat → Int32) (sh : Nat → Int32) (kn : Nat) (cl : Int32) (ni : Int32) : Option (Int32) :=
    if inb cl kn = true then (if ni < 0 then (some (0 : Int32)) else (if ni < (19683 : Int32) then (some (f_P_kept ((td cl.toNatClampNeg).1) ((td cl.toNatClampNeg).2.1) ((td cl.toNatClampNeg).2.2.1) ((td cl.toNatClampNeg).2.2.2.1) ((td cl.toNatClampNeg).2.2.2.2.1) ((td cl.toNatClampNeg).2.2.2.2.2) (f_columnAtEnd (ni / (9 : Int32))) (f_columnAtEnd (ni / (3 : Int32))) (f_columnAtEnd ni))) else (some (0 : Int32)))) else (some (0 : Int32))
def w_B_keeps : List Cond := .code y_B_keeps b_B_keeps 4 (some .boolean) :: GW
abbrev rm_B_keeps : Room := { frames := 4, cells := 0, slots := 0, locals := 100 }
theorem g_B_keeps : GoodIn GW w_B_keeps := gi tm_290
set_option maxHeartbeats 4000000 in
set_option maxRecDepth 100000 in
theorem c_B_keeps (l : Launch) (D : va_G) (ct : CT) (ws : va_W) (k0 : Nat) (k1 : Nat) (h0 : Nat) (h1 : Nat) (h2 : Nat) (h3 : Nat) (h5 : Nat) (ca : Nat → Nat) (ta : Nat → Nat) (la : Nat → Nat) (td : Nat → P6) (lw : Nat → P6) (sy : Nat → Int32) (sh : Nat → Int32) (kn : Nat) (cl : Int32) (ni : Int32) (hk0 : ws[k0]? = some (h0, .inr (4, [.ref h1, .ref h2, .ref h3, .ref h5, .int (nI kn)]))) (hk1 : ws[k1]? = some (h1, .inl (ct.2.1, 40, .inr (.inr (.inr (.inr (cfun kn ca))))))) (hk40 : kn ≤ 40) (hpool : PoolIn ws ca ta la td lw sy sh kn) (r0 : Int32) (h : f_B_keeps td lw sy sh kn cl ni = some r0) : Met l y_B_keeps w_B_keeps rm_B_keeps (va_Pc [.ref h0, .int cl, .int ni] (PreP D ct ws)) (vp_Si (fun r => r = r0 ∧ (r0 = 0 ∨ r0 = 1))) 0 0 (fun _ => False) := by
  refine Met.ofW (cc := b_B_keeps) (maxL := 4) (ret := (some .boolean)) (by decide) rfl ?_
  intro p e s m args below meth c s₁ B hml hv
  obtain ⟨rfl, hP, hKK⟩ := hv
  have hx := B.exec
  have hb := B.bytes
  have hr := B.returns
  have htg := ht_tl (atoms_spec (ws := w_B_keeps) B.pre)
  have hown : s.vm.findClass R_Bench = some m.cls := findClass_of_methodNamed B.named
  have hlocks := B.notSynchronized
  have hK := hKK.1
  have hN := hKK.2.1
  have hO := hKK.2.2
  have hl := lv_entry ([.ref h0, .int cl, .int ni]) (n := 4) (Nat.le_of_ble_eq_true rfl)
  rw [lg_entry_eq]
  generalize (lg_sl ([.ref h0, .int cl, .int ni]) ++ List.replicate (4 - (lg_sl ([.ref h0, .int cl, .int ni])).length) Slot.unset).toArray = ls at hl ⊢
  have hl : lv_has ls 4 [(0, .ref h0), (1, .int cl), (2, .int ni)] := hl
  unfold f_B_keeps at h
  refine lv_aload_n hx hb d_B_keeps_0 rfl (lv_at hl 0 rfl) ?_
  refine lv_iload_n hx hb d_B_keeps_1 rfl (lv_at hl 1 rfl) ?_
  by_cases b_1 : inb cl kn = true
  · rw [if_pos b_1] at h
    obtain ⟨⟨kc_2, hkc_2⟩, ⟨kt_3, hkt_3⟩, ⟨kl_4, hkl_4⟩⟩ := hpool cl.toNatClampNeg (inb_lt b_1)
    refine va_csq (va_Run.run (va_runV (As := [.int cl]) (rest := []) ⟨hx, hb, hml, hown, htg⟩ (c_B_find l D ct ws k0 k1 h0 h1 h2 h3 h5 (nI kn) (cfun kn ca) cl hk0 hk1 _ (find_in hk40 b_1)) (cwV 1 htg (giV tm_278 tm_280 tm_11 tm_31 g_B_find) rfl rfl rfl (by decide +kernel) ⟨Nat.le_of_ble_eq_true rfl, Nat.le_of_ble_eq_true rfl⟩) (preV hP hKK (va_recv hK hP (ci := 4) (q0 := k0) rfl hk0)) rfl rfl hl.1 rfl (lv_room (Nat.le_of_ble_eq_true rfl)) d_B_keeps_2 ⟨Nat.le_of_ble_eq_true rfl, Nat.le_of_ble_eq_true rfl⟩)) (fun r9 hr9 => ?_)
    subst hr9
    refine W.eq (g2 := F0 m 5 ls [.ref (ca cl.toNatClampNeg)]) rfl ?_
    refine lv_astore_n (lv' := [(3, .ref (ca cl.toNatClampNeg)), (0, .ref h0), (1, .int cl), (2, .int ni)]) hx hb d_B_keeps_5 rfl hl (by decide) rfl (fun ls hl => ?_)
    refine lv_aload_n hx hb d_B_keeps_6 rfl (lv_at hl 0 rfl) ?_
    refine lv_ifnull hx hb d_B_keeps_7 ?_
    refine lv_iload_n hx hb d_B_keeps_10 rfl (lv_at hl 3 rfl) ?_
    refine lv_if_lt (tgt := 21) hx hb d_B_keeps_11 (by decide) (fun c_5 => ?_) (fun c_5 => ?_)
    · rw [if_pos c_5] at h
      refine lv_iconst (v := (0 : Int32)) hx hb d_B_keeps_21 (by decide) ?_
      exact W.zret (v := (0 : Int32)) (ty := .boolean) hx hb hr rfl (fun t ht hW => ⟨(0 : Int32), rfl, ⟨(Option.some.inj h), Or.inl (Option.some.inj h).symm⟩, ht⟩) (fun q h => by cases h) d_B_keeps_22
    · rw [if_neg c_5] at h
      refine lv_iload_n hx hb d_B_keeps_14 rfl (lv_at hl 3 rfl) ?_
      refine lv_sipush (v := (19683 : Int32)) hx hb d_B_keeps_15 (by decide) ?_
      refine lv_icmp_lt (tgt := 23) hx hb d_B_keeps_18 (by decide) (fun c_6 => ?_) (fun c_6 => ?_)
      · rw [if_pos c_6] at h
        refine lv_aload_n hx hb d_B_keeps_23 rfl (lv_at hl 0 rfl) ?_
        refine va_get (D := D) (ci := 3) (v := .ref (ta cl.toNatClampNeg)) (C := R_Cell) (T := F_Cell) (N := 4) hx hb htg i_Cell hown hK hP kc_2 hkc_2 rfl 0 (by decide) (htg _ tm_258) (fun _ h9 => h9) rfl d_B_keeps_24 ?_
        refine lv_iload_n hx hb d_B_keeps_27 rfl (lv_at hl 3 rfl) ?_
        refine lv_bipush (v := (9 : Int32)) hx hb d_B_keeps_28 (by decide) ?_
        refine lv_idiv hx hb d_B_keeps_30 (by decide) ?_
        refine vp_callSi (va_Run.run (va_runS (As := [.int (ni / (9 : Int32))]) (rest := [.ref (ta cl.toNatClampNeg)]) ⟨hx, hb, hml, hown, htg⟩ (c_columnAtEnd l D ct ws  (ni / (9 : Int32))   _ rfl) (cwS 1 htg (giS tm_291 tm_292 tm_31 g_columnAtEnd) rfl rfl rfl (by decide +kernel) ⟨Nat.le_of_ble_eq_true rfl, Nat.le_of_ble_eq_true rfl⟩) (preS hP hKK) rfl rfl hl.1 rfl (lv_room (Nat.le_of_ble_eq_true rfl)) d_B_keeps_31 ⟨Nat.le_of_ble_eq_true rfl, Nat.le_of_ble_eq_true rfl⟩)) (fun r9 hr9 => ?_)
        have hr9 := hr9.symm
        subst hr9
        refine lv_iload_n hx hb d_B_keeps_34 rfl (lv_at hl 3 rfl) ?_
        refine lv_iconst (v := (3 : Int32)) hx hb d_B_keeps_35 (by decide) ?_
        refine lv_idiv hx hb d_B_keeps_36 (by decide) ?_
        refine vp_callSi (va_Run.run (va_runS (As := [.int (ni / (3 : Int32))]) (rest := [.int (f_columnAtEnd (ni / (9 : Int32))), .ref (ta cl.toNatClampNeg)]) ⟨hx, hb, hml, hown, htg⟩ (c_columnAtEnd l D ct ws  (ni / (3 : Int32))   _ rfl) (cwS 1 htg (giS tm_291 tm_292 tm_31 g_columnAtEnd) rfl rfl rfl (by decide +kernel) ⟨Nat.le_of_ble_eq_true rfl, Nat.le_of_ble_eq_true rfl⟩) (preS hP hKK) rfl rfl hl.1 rfl (lv_room (Nat.le_of_ble_eq_true rfl)) d_B_keeps_37 ⟨Nat.le_of_ble_eq_true rfl, Nat.le_of_ble_eq_true rfl⟩)) (fun r9 hr9 => ?_)
        have hr9 := hr9.symm
        subst hr9
        refine lv_iload_n hx hb d_B_keeps_40 rfl (lv_at hl 3 rfl) ?_
        refine vp_callSi (va_Run.run (va_runS (As := [.int ni]) (rest := [.int (f_columnAtEnd (ni / (3 : Int32))), .int (f_columnAtEnd (ni / (9 : Int32))), .ref (ta cl.toNatClampNeg)]) ⟨hx, hb, hml, hown, htg⟩ (c_columnAtEnd l D ct ws  ni   _ rfl) (cwS 1 htg (giS tm_291 tm_292 tm_31 g_columnAtEnd) rfl rfl rfl (by decide +kernel) ⟨Nat.le_of_ble_eq_true rfl, Nat.le_of_ble_eq_true rfl⟩) (preS hP hKK) rfl rfl hl.1 rfl (lv_room (Nat.le_of_ble_eq_true rfl)) d_B_keeps_41 ⟨Nat.le_of_ble_eq_true rfl, Nat.le_of_ble_eq_true rfl⟩)) (fun r9 hr9 => ?_)
        have hr9 := hr9.symm
        subst hr9
        refine vp_callSi (va_Run.run (va_runV (As := [.int (f_columnAtEnd (ni / (9 : Int32))), .int (f_columnAtEnd (ni / (3 : Int32))), .int (f_columnAtEnd ni)]) (rest := []) ⟨hx, hb, hml, hown, htg⟩ (c_P_kept l D ct ws kt_3 (ta cl.toNatClampNeg) ((td cl.toNatClampNeg).1) ((td cl.toNatClampNeg).2.1) ((td cl.toNatClampNeg).2.2.1) ((td cl.toNatClampNeg).2.2.2.1) ((td cl.toNatClampNeg).2.2.2.2.1) ((td cl.toNatClampNeg).2.2.2.2.2) (f_columnAtEnd (ni / (9 : Int32))) (f_columnAtEnd (ni / (3 : Int32))) (f_columnAtEnd ni) hkt_3  _ rfl) (cwV 3 htg (giV tm_294 tm_295 tm_296 tm_35 g_P_kept) rfl rfl rfl (by decide +kernel) ⟨Nat.le_of_ble_eq_true rfl, Nat.le_of_ble_eq_true rfl⟩) (preV hP hKK (va_recv hK hP (ci := 0) (q0 := kt_3) rfl hkt_3)) rfl rfl hl.1 rfl (lv_room (Nat.le_of_ble_eq_true rfl)) d_B_keeps_44 ⟨Nat.le_of_ble_eq_true rfl, Nat.le_of_ble_eq_true rfl⟩)) (fun r9 hr9 => ?_)
        have hr9 := hr9.symm
        subst hr9
        exact W.zret (v := f_P_kept ((td cl.toNatClampNeg).1) ((td cl.toNatClampNeg).2.1) ((td cl.toNatClampNeg).2.2.1) ((td cl.toNatClampNeg).2.2.2.1) ((td cl.toNatClampNeg).2.2.2.2.1) ((td cl.toNatClampNeg).2.2.2.2.2) (f_columnAtEnd (ni / (9 : Int32))) (f_columnAtEnd (ni / (3 : Int32))) (f_columnAtEnd ni)) (ty := .boolean) hx hb hr (nb_of (kept01 _ _ _ _ _ _ _ _ _)) (fun t ht hW => ⟨f_P_kept ((td cl.toNatClampNeg).1) ((td cl.toNatClampNeg).2.1) ((td cl.toNatClampNeg).2.2.1) ((td cl.toNatClampNeg).2.2.2.1) ((td cl.toNatClampNeg).2.2.2.2.1) ((td cl.toNatClampNeg).2.2.2.2.2) (f_columnAtEnd (ni / (9 : Int32))) (f_columnAtEnd (ni / (3 : Int32))) (f_columnAtEnd ni), rfl, ⟨(Option.some.inj h), (by rw [← (Option.some.inj h)]; exact (kept01 _ _ _ _ _ _ _ _ _))⟩, ht⟩) (fun q h => by cases h) d_B_keeps_47
      · rw [if_neg c_6] at h
        refine lv_iconst (v := (0 : Int32)) hx hb d_B_keeps_21 (by decide) ?_
        exact W.zret (v := (0 : Int32)) (ty := .boolean) hx hb hr rfl (fun t ht hW => ⟨(0 : Int32), rfl, ⟨(Option.some.inj h), Or.inl (Option.some.inj h).symm⟩, ht⟩) (fun q h => by cases h) d_B_keeps_22
  · rw [if_neg b_1] at h
    refine va_csq (va_Run.run (va_runV (As := [.int cl]) (rest := []) ⟨hx, hb, hml, hown, htg⟩ (c_B_find l D ct ws k0 k1 h0 h1 h2 h3 h5 (nI kn) (cfun kn ca) cl hk0 hk1 _ (find_out hk40 b_1)) (cwV 1 htg (giV tm_278 tm_280 tm_11 tm_31 g_B_find) rfl rfl rfl (by decide +kernel) ⟨Nat.le_of_ble_eq_true rfl, Nat.le_of_ble_eq_true rfl⟩) (preV hP hKK (va_recv hK hP (ci := 4) (q0 := k0) rfl hk0)) rfl rfl hl.1 rfl (lv_room (Nat.le_of_ble_eq_true rfl)) d_B_keeps_2 ⟨Nat.le_of_ble_eq_true rfl, Nat.le_of_ble_eq_true rfl⟩)) (fun r9 hr9 => ?_)
    subst hr9
    refine W.eq (g2 := F0 m 5 ls [.null]) rfl ?_
    refine lv_astore_nN (lv' := [(3, .null), (0, .ref h0), (1, .int cl), (2, .int ni)]) hx hb d_B_keeps_5 rfl hl (by decide) rfl (fun ls hl => ?_)
    refine lv_aload_nN hx hb d_B_keeps_6 rfl (lv_at hl 0 rfl) ?_
    refine lv_ifnullN (tgt := 21) hx hb d_B_keeps_7 (by decide) ?_
    refine lv_iconst (v := (0 : Int32)) hx hb d_B_keeps_21 (by decide) ?_
    exact W.zret (v := (0 : Int32)) (ty := .boolean) hx hb hr rfl (fun t ht hW => ⟨(0 : Int32), rfl, ⟨(Option.some.inj h), Or.inl (Option.some.inj h).symm⟩, ht⟩) (fun q h => by cases h) d_B_keeps_22
-- CellBench step (IIII)J
def f_B_step (td : Nat → P6) (lw : Nat → P6) (sy : Nat → Int32) (sh : Nat → Int32) (kn : Nat) (cl : Int32) (x_ : Int32) (y_ : Int32) (z_ : Int32) : Option (Int64) :=
    if inb cl kn = true then (if (f_isRouteNumber x_) = 0 then (some (0 : Int64)) else (if (f_isRouteNumber y_) = 0 then (some (0 : Int64)) else (if (f_isRouteNumber z_) = 0 then (some (0 : Int64)) else (some (f_P_prod ((td cl.toNatClampNeg).1) ((td cl.toNatClampNeg).2.1) ((td cl.toNatClampNeg).2.2.1) ((td cl.toNatClampNeg).2.2.2.1) ((td cl.toNatClampNeg).2.2.2.2.1) ((td cl.toNatClampNeg).2.2.2.2.2) (x_.toInt64) (y_.toInt64) (z_.toInt64) (x_.toInt64) (y_.toInt64) (z_.toInt64)))))) else (some (0 : Int64))
def w_B_step : List Cond := .code y_B_step b_B_step 6 (some .long) :: GW
abbrev rm_B_step : Room := { frames := 1, cells := 0, slots := 0, locals := 32 }
theorem g_B_step : GoodIn GW w_B_step := gi tm_383
set_option maxHeartbeats 4000000 in
set_option maxRecDepth 100000 in
theorem c_B_step (l : Launch) (D : va_G) (ct : CT) (ws : va_W) (k0 : Nat) (k1 : Nat) (h0 : Nat) (h1 : Nat) (h2 : Nat) (h3 : Nat) (h5 : Nat) (ca : Nat → Nat) (ta : Nat → Nat) (la : Nat → Nat) (td : Nat → P6) (lw : Nat → P6) (sy : Nat → Int32) (sh : Nat → Int32) (kn : Nat) (cl : Int32) (x_ : Int32) (y_ : Int32) (z_ : Int32) (hk0 : ws[k0]? = some (h0, .inr (4, [.ref h1, .ref h2, .ref h3, .ref h5, .int (nI kn)]))) (hk1 : ws[k1]? = some (h1, .inl (ct.2.1, 40, .inr (.inr (.inr (.inr (cfun kn ca))))))) (hk40 : kn ≤ 40) (hpool : PoolIn ws ca ta la td lw sy sh kn) (r0 : Int64) (h : f_B_step td lw sy sh kn cl x_ y_ z_ = some r0) : Met l y_B_step w_B_step rm_B_step (va_Pc [.ref h0, .int cl, .int x_, .int y_, .int z_] (PreP D ct ws)) (vp_Sl (fun r => r = r0)) 0 0 (fun _ => False) := by
  refine Met.ofW (cc := b_B_step) (maxL := 6) (ret := (some .long)) (by decide) rfl ?_
  intro p e s m args below meth c s₁ B hml hv
  obtain ⟨rfl, hP, hKK⟩ := hv
  have hx := B.exec
  have hb := B.bytes
  have hr := B.returns
  have htg := ht_tl (atoms_spec (ws := w_B_step) B.pre)
  have hown : s.vm.findClass R_Bench = some m.cls := findClass_of_methodNamed B.named
  have hlocks := B.notSynchronized
  have hK := hKK.1
  have hN := hKK.2.1
  have hO := hKK.2.2
  have hl := lv_entry ([.ref h0, .int cl, .int x_, .int y_, .int z_]) (n := 6) (Nat.le_of_ble_eq_true rfl)
  rw [lg_entry_eq]
  generalize (lg_sl ([.ref h0, .int cl, .int x_, .int y_, .int z_]) ++ List.replicate (6 - (lg_sl ([.ref h0, .int cl, .int x_, .int y_, .int z_])).length) Slot.unset).toArray = ls at hl ⊢
  have hl : lv_has ls 6 [(0, .ref h0), (1, .int cl), (2, .int x_), (3, .int y_), (4, .int z_)] := hl
  unfold f_B_step at h
  refine lv_aload_n hx hb d_B_step_0 rfl (lv_at hl 0 rfl) ?_
  refine lv_iload_n hx hb d_B_step_1 rfl (lv_at hl 1 rfl) ?_
  by_cases b_1 : inb cl kn = true
  · rw [if_pos b_1] at h
    obtain ⟨⟨kc_2, hkc_2⟩, ⟨kt_3, hkt_3⟩, ⟨kl_4, hkl_4⟩⟩ := hpool cl.toNatClampNeg (inb_lt b_1)
    refine va_csq (va_Run.run (va_runV (As := [.int cl]) (rest := []) ⟨hx, hb, hml, hown, htg⟩ (c_B_find l D ct ws k0 k1 h0 h1 h2 h3 h5 (nI kn) (cfun kn ca) cl hk0 hk1 _ (find_in hk40 b_1)) (cwV 1 htg (giV tm_278 tm_280 tm_11 tm_31 g_B_find) rfl rfl rfl (by decide +kernel) ⟨Nat.le_of_ble_eq_true rfl, Nat.le_of_ble_eq_true rfl⟩) (preV hP hKK (va_recv hK hP (ci := 4) (q0 := k0) rfl hk0)) rfl rfl hl.1 rfl (lv_room (Nat.le_of_ble_eq_true rfl)) d_B_step_2 ⟨Nat.le_of_ble_eq_true rfl, Nat.le_of_ble_eq_true rfl⟩)) (fun r9 hr9 => ?_)
    subst hr9
    refine W.eq (g2 := F0 m 5 ls [.ref (ca cl.toNatClampNeg)]) rfl ?_
    refine lv_astore (lv' := [(5, .ref (ca cl.toNatClampNeg)), (0, .ref h0), (1, .int cl), (2, .int x_), (3, .int y_), (4, .int z_)]) hx hb d_B_step_5 hl (by decide) rfl (fun ls hl => ?_)
    refine lv_aload hx hb d_B_step_7 (lv_at hl 0 rfl) ?_
    refine lv_ifnull hx hb d_B_step_9 ?_
    refine lv_iload_n hx hb d_B_step_12 rfl (lv_at hl 3 rfl) ?_
    refine vp_callSi (va_Run.run (va_runS (As := [.int x_]) (rest := []) ⟨hx, hb, hml, hown, htg⟩ (c_isRouteNumber l D ct ws  x_   _ rfl) (cwS 1 htg (giS tm_384 tm_385 tm_31 g_isRouteNumber) rfl rfl rfl (by decide +kernel) ⟨Nat.le_of_ble_eq_true rfl, Nat.le_of_ble_eq_true rfl⟩) (preS hP hKK) rfl rfl hl.1 rfl (lv_room (Nat.le_of_ble_eq_true rfl)) d_B_step_13 ⟨Nat.le_of_ble_eq_true rfl, Nat.le_of_ble_eq_true rfl⟩)) (fun r9 hr9 => ?_)
    have hr9 := hr9.symm
    subst hr9
    refine lv_if_eq (tgt := 34) hx hb d_B_step_16 (by decide) (fun c_5 => ?_) (fun c_5 => ?_)
    · rw [if_pos c_5] at h
      refine lv_lconst (v := (0 : Int64)) hx hb d_B_step_34 (by decide) ?_
      exact W.lret (v := (0 : Int64)) hx hb hr (fun t ht hW => ⟨(0 : Int64), rfl, (Option.some.inj h), ht⟩) (fun q h => by cases h) d_B_step_35
    · rw [if_neg c_5] at h
      refine lv_iload_n hx hb d_B_step_19 rfl (lv_at hl 4 rfl) ?_
      refine vp_callSi (va_Run.run (va_runS (As := [.int y_]) (rest := []) ⟨hx, hb, hml, hown, htg⟩ (c_isRouteNumber l D ct ws  y_   _ rfl) (cwS 1 htg (giS tm_384 tm_385 tm_31 g_isRouteNumber) rfl rfl rfl (by decide +kernel) ⟨Nat.le_of_ble_eq_true rfl, Nat.le_of_ble_eq_true rfl⟩) (preS hP hKK) rfl rfl hl.1 rfl (lv_room (Nat.le_of_ble_eq_true rfl)) d_B_step_20 ⟨Nat.le_of_ble_eq_true rfl, Nat.le_of_ble_eq_true rfl⟩)) (fun r9 hr9 => ?_)
      have hr9 := hr9.symm
      subst hr9
      refine lv_if_eq (tgt := 34) hx hb d_B_step_23 (by decide) (fun c_6 => ?_) (fun c_6 => ?_)
      · rw [if_pos c_6] at h
        refine lv_lconst (v := (0 : Int64)) hx hb d_B_step_34 (by decide) ?_
        exact W.lret (v := (0 : Int64)) hx hb hr (fun t ht hW => ⟨(0 : Int64), rfl, (Option.some.inj h), ht⟩) (fun q h => by cases h) d_B_step_35
      · rw [if_neg c_6] at h
        refine lv_iload hx hb d_B_step_26 (lv_at hl 5 rfl) ?_
        refine vp_callSi (va_Run.run (va_runS (As := [.int z_]) (rest := []) ⟨hx, hb, hml, hown, htg⟩ (c_isRouteNumber l D ct ws  z_   _ rfl) (cwS 1 htg (giS tm_384 tm_385 tm_31 g_isRouteNumber) rfl rfl rfl (by decide +kernel) ⟨Nat.le_of_ble_eq_true rfl, Nat.le_of_ble_eq_true rfl⟩) (preS hP hKK) rfl rfl hl.1 rfl (lv_room (Nat.le_of_ble_eq_true rfl)) d_B_step_28 ⟨Nat.le_of_ble_eq_true rfl, Nat.le_of_ble_eq_true rfl⟩)) (fun r9 hr9 => ?_)
        have hr9 := hr9.symm
        subst hr9
        refine lv_if_ne (tgt := 36) hx hb d_B_step_31 (by decide) (fun c_7 => ?_) (fun c_7 => ?_)
        · rw [if_neg c_7] at h
          refine lv_aload hx hb d_B_step_36 (lv_at hl 0 rfl) ?_
          refine va_get (D := D) (ci := 3) (v := .ref (ta cl.toNatClampNeg)) (C := R_Cell) (T := F_Cell) (N := 4) hx hb htg i_Cell hown hK hP kc_2 hkc_2 rfl 0 (by decide) (htg _ tm_258) (fun _ h9 => h9) rfl d_B_step_38 ?_
          refine lv_iload_n hx hb d_B_step_41 rfl (lv_at hl 3 rfl) ?_
          refine lv_i2l hx hb d_B_step_42 rfl ?_
          refine lv_iload_n hx hb d_B_step_43 rfl (lv_at hl 4 rfl) ?_
          refine lv_i2l hx hb d_B_step_44 rfl ?_
          refine lv_iload hx hb d_B_step_45 (lv_at hl 5 rfl) ?_
          refine lv_i2l hx hb d_B_step_47 rfl ?_
          refine lv_iload_n hx hb d_B_step_48 rfl (lv_at hl 3 rfl) ?_
          refine lv_i2l hx hb d_B_step_49 rfl ?_
          refine lv_iload_n hx hb d_B_step_50 rfl (lv_at hl 4 rfl) ?_
          refine lv_i2l hx hb d_B_step_51 rfl ?_
          refine lv_iload hx hb d_B_step_52 (lv_at hl 5 rfl) ?_
          refine lv_i2l hx hb d_B_step_54 rfl ?_
          refine vp_callSl (va_Run.run (va_runV (As := [.long (x_.toInt64), .long (y_.toInt64), .long (z_.toInt64), .long (x_.toInt64), .long (y_.toInt64), .long (z_.toInt64)]) (rest := []) ⟨hx, hb, hml, hown, htg⟩ (c_P_prod l D ct ws kt_3 (ta cl.toNatClampNeg) ((td cl.toNatClampNeg).1) ((td cl.toNatClampNeg).2.1) ((td cl.toNatClampNeg).2.2.1) ((td cl.toNatClampNeg).2.2.2.1) ((td cl.toNatClampNeg).2.2.2.2.1) ((td cl.toNatClampNeg).2.2.2.2.2) (x_.toInt64) (y_.toInt64) (z_.toInt64) (x_.toInt64) (y_.toInt64) (z_.toInt64) hkt_3  _ rfl) (cwV 6 htg (giV tm_387 tm_234 tm_235 tm_35 g_P_prod) rfl rfl rfl (by decide +kernel) ⟨Nat.le_of_ble_eq_true rfl, Nat.le_of_ble_eq_true rfl⟩) (preV hP hKK (va_recv hK hP (ci := 0) (q0 := kt_3) rfl hkt_3)) rfl rfl hl.1 rfl (lv_room (Nat.le_of_ble_eq_true rfl)) d_B_step_55 ⟨Nat.le_of_ble_eq_true rfl, Nat.le_of_ble_eq_true rfl⟩)) (fun r9 hr9 => ?_)
          have hr9 := hr9.symm
          subst hr9
          exact W.lret (v := f_P_prod ((td cl.toNatClampNeg).1) ((td cl.toNatClampNeg).2.1) ((td cl.toNatClampNeg).2.2.1) ((td cl.toNatClampNeg).2.2.2.1) ((td cl.toNatClampNeg).2.2.2.2.1) ((td cl.toNatClampNeg).2.2.2.2.2) (x_.toInt64) (y_.toInt64) (z_.toInt64) (x_.toInt64) (y_.toInt64) (z_.toInt64)) hx hb hr (fun t ht hW => ⟨f_P_prod ((td cl.toNatClampNeg).1) ((td cl.toNatClampNeg).2.1) ((td cl.toNatClampNeg).2.2.1) ((td cl.toNatClampNeg).2.2.2.1) ((td cl.toNatClampNeg).2.2.2.2.1) ((td cl.toNatClampNeg).2.2.2.2.2) (x_.toInt64) (y_.toInt64) (z_.toInt64) (x_.toInt64) (y_.toInt64) (z_.toInt64), rfl, (Option.some.inj h), ht⟩) (fun q h => by cases h) d_B_step_58
        · rw [if_pos c_7] at h
          refine lv_lconst (v := (0 : Int64)) hx hb d_B_step_34 (by decide) ?_
          exact W.lret (v := (0 : Int64)) hx hb hr (fun t ht hW => ⟨(0 : Int64), rfl, (Option.some.inj h), ht⟩) (fun q h => by cases h) d_B_step_35
  · rw [if_neg b_1] at h
    refine va_csq (va_Run.run (va_runV (As := [.int cl]) (rest := []) ⟨hx, hb, hml, hown, htg⟩ (c_B_find l D ct ws k0 k1 h0 h1 h2 h3 h5 (nI kn) (cfun kn ca) cl hk0 hk1 _ (find_out hk40 b_1)) (cwV 1 htg (giV tm_278 tm_280 tm_11 tm_31 g_B_find) rfl rfl rfl (by decide +kernel) ⟨Nat.le_of_ble_eq_true rfl, Nat.le_of_ble_eq_true rfl⟩) (preV hP hKK (va_recv hK hP (ci := 4) (q0 := k0) rfl hk0)) rfl rfl hl.1 rfl (lv_room (Nat.le_of_ble_eq_true rfl)) d_B_step_2 ⟨Nat.le_of_ble_eq_true rfl, Nat.le_of_ble_eq_true rfl⟩)) (fun r9 hr9 => ?_)
    subst hr9
    refine W.eq (g2 := F0 m 5 ls [.null]) rfl ?_
    refine lv_astoreN (lv' := [(5, .null), (0, .ref h0), (1, .int cl), (2, .int x_), (3, .int y_), (4, .int z_)]) hx hb d_B_step_5 hl (by decide) rfl (fun ls hl => ?_)
    refine lv_aloadN hx hb d_B_step_7 (lv_at hl 0 rfl) ?_
    refine lv_ifnullN (tgt := 34) hx hb d_B_step_9 (by decide) ?_
    refine lv_lconst (v := (0 : Int64)) hx hb d_B_step_34 (by decide) ?_
    exact W.lret (v := (0 : Int64)) hx hb hr (fun t ht hW => ⟨(0 : Int64), rfl, (Option.some.inj h), ht⟩) (fun q h => by cases h) d_B_step_35
-- CellBench same (I)I
def lp_B_same_14 (td : Nat → P6) (lw : Nat → P6) (sy : Nat → Int32) (sh : Nat → Int32) (kn : Nat) (cl : Int32) : Nat → Int32 → Option (Int32)
  | 0, _ => none
  | n + 1, ix =>
    if cl ≤ ix then (some cl) else (if inb ix kn = true then (Option.bind (f_P_order ((lw ix.toNatClampNeg).1) ((lw ix.toNatClampNeg).2.1) ((lw ix.toNatClampNeg).2.2.1) ((lw ix.toNatClampNeg).2.2.2.1) ((lw ix.toNatClampNeg).2.2.2.2.1) ((lw ix.toNatClampNeg).2.2.2.2.2) ((lw cl.toNatClampNeg).1) ((lw cl.toNatClampNeg).2.1) ((lw cl.toNatClampNeg).2.2.1) ((lw cl.toNatClampNeg).2.2.2.1) ((lw cl.toNatClampNeg).2.2.2.2.1) ((lw cl.toNatClampNeg).2.2.2.2.2)) (fun z_13 => (if z_13 = 0 then (some ix) else (lp_B_same_14 td lw sy sh kn cl n (ix + (1 : Int32)))))) else (lp_B_same_14 td lw sy sh kn cl n (ix + (1 : Int32))))
def f_B_same (td : Nat → P6) (lw : Nat → P6) (sy : Nat → Int32) (sh : Nat → Int32) (kn : Nat) (cl : Int32) : Option (Int32) :=
    if inb cl kn = true then (lp_B_same_14 td lw sy sh kn cl 50 (0 : Int32)) else (some (-1 : Int32))
def w_B_same : List Cond := .code y_B_same b_B_same 5 (some .int) :: GW
abbrev rm_B_same : Room := { frames := 2, cells := 0, slots := 0, locals := 46 }
theorem g_B_same : GoodIn GW w_B_same := gi tm_301
set_option maxHeartbeats 4000000 in
set_option maxRecDepth 100000 in
theorem c_B_same (l : Launch) (D : va_G) (ct : CT) (ws : va_W) (k0 : Nat) (k1 : Nat) (h0 : Nat) (h1 : Nat) (h2 : Nat) (h3 : Nat) (h5 : Nat) (ca : Nat → Nat) (ta : Nat → Nat) (la : Nat → Nat) (td : Nat → P6) (lw : Nat → P6) (sy : Nat → Int32) (sh : Nat → Int32) (kn : Nat) (cl : Int32) (hk0 : ws[k0]? = some (h0, .inr (4, [.ref h1, .ref h2, .ref h3, .ref h5, .int (nI kn)]))) (hk1 : ws[k1]? = some (h1, .inl (ct.2.1, 40, .inr (.inr (.inr (.inr (cfun kn ca))))))) (hk40 : kn ≤ 40) (hpool : PoolIn ws ca ta la td lw sy sh kn) (r0 : Int32) (h : f_B_same td lw sy sh kn cl = some r0) : Met l y_B_same w_B_same rm_B_same (va_Pc [.ref h0, .int cl] (PreP D ct ws)) (vp_Si (fun r => r = r0)) 0 0 (fun _ => False) := by
  refine Met.ofW (cc := b_B_same) (maxL := 5) (ret := (some .int)) (by decide) rfl ?_
  intro p e s m args below meth c s₁ B hml hv
  obtain ⟨rfl, hP, hKK⟩ := hv
  have hx := B.exec
  have hb := B.bytes
  have hr := B.returns
  have htg := ht_tl (atoms_spec (ws := w_B_same) B.pre)
  have hown : s.vm.findClass R_Bench = some m.cls := findClass_of_methodNamed B.named
  have hlocks := B.notSynchronized
  have hK := hKK.1
  have hN := hKK.2.1
  have hO := hKK.2.2
  have hl := lv_entry ([.ref h0, .int cl]) (n := 5) (Nat.le_of_ble_eq_true rfl)
  rw [lg_entry_eq]
  generalize (lg_sl ([.ref h0, .int cl]) ++ List.replicate (5 - (lg_sl ([.ref h0, .int cl])).length) Slot.unset).toArray = ls at hl ⊢
  have hl : lv_has ls 5 [(0, .ref h0), (1, .int cl)] := hl
  unfold f_B_same at h
  refine lv_aload_n hx hb d_B_same_0 rfl (lv_at hl 0 rfl) ?_
  refine lv_iload_n hx hb d_B_same_1 rfl (lv_at hl 1 rfl) ?_
  by_cases b_1 : inb cl kn = true
  · rw [if_pos b_1] at h
    obtain ⟨⟨kc_2, hkc_2⟩, ⟨kt_3, hkt_3⟩, ⟨kl_4, hkl_4⟩⟩ := hpool cl.toNatClampNeg (inb_lt b_1)
    refine va_csq (va_Run.run (va_runV (As := [.int cl]) (rest := []) ⟨hx, hb, hml, hown, htg⟩ (c_B_find l D ct ws k0 k1 h0 h1 h2 h3 h5 (nI kn) (cfun kn ca) cl hk0 hk1 _ (find_in hk40 b_1)) (cwV 1 htg (giV tm_278 tm_280 tm_11 tm_31 g_B_find) rfl rfl rfl (by decide +kernel) ⟨Nat.le_of_ble_eq_true rfl, Nat.le_of_ble_eq_true rfl⟩) (preV hP hKK (va_recv hK hP (ci := 4) (q0 := k0) rfl hk0)) rfl rfl hl.1 rfl (lv_room (Nat.le_of_ble_eq_true rfl)) d_B_same_2 ⟨Nat.le_of_ble_eq_true rfl, Nat.le_of_ble_eq_true rfl⟩)) (fun r9 hr9 => ?_)
    subst hr9
    refine W.eq (g2 := F0 m 5 ls [.ref (ca cl.toNatClampNeg)]) rfl ?_
    refine lv_astore_n (lv' := [(2, .ref (ca cl.toNatClampNeg)), (0, .ref h0), (1, .int cl)]) hx hb d_B_same_5 rfl hl (by decide) rfl (fun ls hl => ?_)
    refine lv_aload_n hx hb d_B_same_6 rfl (lv_at hl 0 rfl) ?_
    refine lv_ifnonnull (tgt := 12) hx hb d_B_same_7 (by decide) ?_
    refine lv_iconst (v := (0 : Int32)) hx hb d_B_same_12 (by decide) ?_
    refine lv_istore_n (lv' := [(3, .int (0 : Int32)), (2, .ref (ca cl.toNatClampNeg)), (0, .ref h0), (1, .int cl)]) hx hb d_B_same_13 rfl hl (by decide) rfl (fun ls hl => ?_)
    have L_14 : ∀ (n : Nat) (ix : Int32) , lp_B_same_14 td lw sy sh kn cl n ix = some r0 → ∀ (ls : Array Slot), lv_has ls 5 [(3, .int ix), (2, .ref (ca cl.toNatClampNeg)), (0, .ref h0), (1, .int cl)] → W p l e (headSpec w_B_same rm_B_same).room s m ([.ref h0, .int cl] : List Value).toArray below meth c s.heap [] 0 0 (MQ below (vp_Si (fun r => r = r0)) ([.ref h0, .int cl] : List Value).toArray s 0 0 (fun _ => False)) (F0 m 14 ls []) := by
      intro n
      induction n with
      | zero =>
        intro ix  h
        rw [lp_B_same_14] at h
        cases h
      | succ n ih =>
        intro ix  h ls hl
        rw [lp_B_same_14] at h
        refine lv_iload_n hx hb d_B_same_14 rfl (lv_at hl 0 rfl) ?_
        refine lv_iload_n hx hb d_B_same_15 rfl (lv_at hl 3 rfl) ?_
        refine lv_icmp_ge (tgt := 54) hx hb d_B_same_16 (by decide) (fun c_5 => ?_) (fun c_5 => ?_)
        · rw [if_pos c_5] at h
          refine lv_iload_n hx hb d_B_same_54 rfl (lv_at hl 3 rfl) ?_
          exact W.iret (v := cl) hx hb hr (fun t ht hW => ⟨cl, rfl, (Option.some.inj h), ht⟩) (fun q h => by cases h) d_B_same_55
        · rw [if_neg c_5] at h
          refine lv_aload_n hx hb d_B_same_19 rfl (lv_at hl 2 rfl) ?_
          refine lv_iload_n hx hb d_B_same_20 rfl (lv_at hl 0 rfl) ?_
          by_cases b_6 : inb ix kn = true
          · rw [if_pos b_6] at h
            obtain ⟨⟨kc_7, hkc_7⟩, ⟨kt_8, hkt_8⟩, ⟨kl_9, hkl_9⟩⟩ := hpool ix.toNatClampNeg (inb_lt b_6)
            refine va_csq (va_Run.run (va_runV (As := [.int ix]) (rest := []) ⟨hx, hb, hml, hown, htg⟩ (c_B_find l D ct ws k0 k1 h0 h1 h2 h3 h5 (nI kn) (cfun kn ca) ix hk0 hk1 _ (find_in hk40 b_6)) (cwV 1 htg (giV tm_278 tm_280 tm_11 tm_31 g_B_find) rfl rfl rfl (by decide +kernel) ⟨Nat.le_of_ble_eq_true rfl, Nat.le_of_ble_eq_true rfl⟩) (preV hP hKK (va_recv hK hP (ci := 4) (q0 := k0) rfl hk0)) rfl rfl hl.1 rfl (lv_room (Nat.le_of_ble_eq_true rfl)) d_B_same_21 ⟨Nat.le_of_ble_eq_true rfl, Nat.le_of_ble_eq_true rfl⟩)) (fun r9 hr9 => ?_)
            subst hr9
            refine W.eq (g2 := F0 m 24 ls [.ref (ca ix.toNatClampNeg)]) rfl ?_
            refine lv_astore (lv' := [(4, .ref (ca ix.toNatClampNeg)), (3, .int ix), (2, .ref (ca cl.toNatClampNeg)), (0, .ref h0), (1, .int cl)]) hx hb d_B_same_24 hl (by decide) rfl (fun ls hl => ?_)
            refine lv_aload hx hb d_B_same_26 (lv_at hl 0 rfl) ?_
            refine lv_ifnull hx hb d_B_same_28 ?_
            refine lv_aload hx hb d_B_same_31 (lv_at hl 0 rfl) ?_
            refine va_get (D := D) (ci := 3) (v := .ref (la ix.toNatClampNeg)) (C := R_Cell) (T := F_Cell) (N := 4) hx hb htg i_Cell hown hK hP kc_7 hkc_7 rfl 1 (by decide) (htg _ tm_260) (fun _ h9 => h9) rfl d_B_same_33 ?_
            refine lv_aload_n hx hb d_B_same_36 rfl (lv_at hl 2 rfl) ?_
            refine va_get (D := D) (ci := 3) (v := .ref (la cl.toNatClampNeg)) (C := R_Cell) (T := F_Cell) (N := 4) hx hb htg i_Cell hown hK hP kc_2 hkc_2 rfl 1 (by decide) (htg _ tm_260) (fun _ h9 => h9) rfl d_B_same_37 ?_
            rcases e_10 : f_P_order ((lw ix.toNatClampNeg).1) ((lw ix.toNatClampNeg).2.1) ((lw ix.toNatClampNeg).2.2.1) ((lw ix.toNatClampNeg).2.2.2.1) ((lw ix.toNatClampNeg).2.2.2.2.1) ((lw ix.toNatClampNeg).2.2.2.2.2) ((lw cl.toNatClampNeg).1) ((lw cl.toNatClampNeg).2.1) ((lw cl.toNatClampNeg).2.2.1) ((lw cl.toNatClampNeg).2.2.2.1) ((lw cl.toNatClampNeg).2.2.2.2.1) ((lw cl.toNatClampNeg).2.2.2.2.2) with _ | v_11
            · rw [e_10] at h; cases h
            rw [e_10, Option.bind_some] at h
            try dsimp only at h
            refine vp_callSi (va_Run.run (va_runV (As := [.ref (la cl.toNatClampNeg)]) (rest := []) ⟨hx, hb, hml, hown, htg⟩ (c_P_order l D ct ws kl_9 kl_4 (la ix.toNatClampNeg) ((lw ix.toNatClampNeg).1) ((lw ix.toNatClampNeg).2.1) ((lw ix.toNatClampNeg).2.2.1) ((lw ix.toNatClampNeg).2.2.2.1) ((lw ix.toNatClampNeg).2.2.2.2.1) ((lw ix.toNatClampNeg).2.2.2.2.2) (la cl.toNatClampNeg) ((lw cl.toNatClampNeg).1) ((lw cl.toNatClampNeg).2.1) ((lw cl.toNatClampNeg).2.2.1) ((lw cl.toNatClampNeg).2.2.2.1) ((lw cl.toNatClampNeg).2.2.2.2.1) ((lw cl.toNatClampNeg).2.2.2.2.2) hkl_9 hkl_4  _ e_10) (cwV 1 htg (giV tm_302 tm_303 tm_304 tm_35 g_P_order) rfl rfl rfl (by decide +kernel) ⟨Nat.le_of_ble_eq_true rfl, Nat.le_of_ble_eq_true rfl⟩) (preV hP hKK (va_recv hK hP (ci := 0) (q0 := kl_9) rfl hkl_9)) rfl rfl hl.1 rfl (lv_room (Nat.le_of_ble_eq_true rfl)) d_B_same_40 ⟨Nat.le_of_ble_eq_true rfl, Nat.le_of_ble_eq_true rfl⟩)) (fun r9 hr9 => ?_)
            have hr9 := hr9.symm
            subst hr9
            refine lv_if_ne (tgt := 48) hx hb d_B_same_43 (by decide) (fun c_12 => ?_) (fun c_12 => ?_)
            · rw [if_neg c_12] at h
              refine lv_iinc (v := ix + (1 : Int32)) (lv' := [(3, .int (ix + (1 : Int32))), (4, .ref (ca ix.toNatClampNeg)), (2, .ref (ca cl.toNatClampNeg)), (0, .ref h0), (1, .int cl)]) hx hb d_B_same_48 hl (k := 1) rfl rfl (by decide) rfl (fun ls hl => ?_)
              refine lv_goto (tgt := 14) hx hb d_B_same_51 (by decide) ?_
              exact ih (ix + (1 : Int32)) h ls (lv_sub hl [0, 2, 3, 4] rfl)
            · rw [if_pos c_12] at h
              refine lv_iload_n hx hb d_B_same_46 rfl (lv_at hl 1 rfl) ?_
              exact W.iret (v := ix) hx hb hr (fun t ht hW => ⟨ix, rfl, (Option.some.inj h), ht⟩) (fun q h => by cases h) d_B_same_47
          · rw [if_neg b_6] at h
            refine va_csq (va_Run.run (va_runV (As := [.int ix]) (rest := []) ⟨hx, hb, hml, hown, htg⟩ (c_B_find l D ct ws k0 k1 h0 h1 h2 h3 h5 (nI kn) (cfun kn ca) ix hk0 hk1 _ (find_out hk40 b_6)) (cwV 1 htg (giV tm_278 tm_280 tm_11 tm_31 g_B_find) rfl rfl rfl (by decide +kernel) ⟨Nat.le_of_ble_eq_true rfl, Nat.le_of_ble_eq_true rfl⟩) (preV hP hKK (va_recv hK hP (ci := 4) (q0 := k0) rfl hk0)) rfl rfl hl.1 rfl (lv_room (Nat.le_of_ble_eq_true rfl)) d_B_same_21 ⟨Nat.le_of_ble_eq_true rfl, Nat.le_of_ble_eq_true rfl⟩)) (fun r9 hr9 => ?_)
            subst hr9
            refine W.eq (g2 := F0 m 24 ls [.null]) rfl ?_
            refine lv_astoreN (lv' := [(4, .null), (3, .int ix), (2, .ref (ca cl.toNatClampNeg)), (0, .ref h0), (1, .int cl)]) hx hb d_B_same_24 hl (by decide) rfl (fun ls hl => ?_)
            refine lv_aloadN hx hb d_B_same_26 (lv_at hl 0 rfl) ?_
            refine lv_ifnullN (tgt := 48) hx hb d_B_same_28 (by decide) ?_
            refine lv_iinc (v := ix + (1 : Int32)) (lv' := [(3, .int (ix + (1 : Int32))), (4, .null), (2, .ref (ca cl.toNatClampNeg)), (0, .ref h0), (1, .int cl)]) hx hb d_B_same_48 hl (k := 1) rfl rfl (by decide) rfl (fun ls hl => ?_)
            refine lv_goto (tgt := 14) hx hb d_B_same_51 (by decide) ?_
            exact ih (ix + (1 : Int32)) h ls (lv_sub hl [0, 2, 3, 4] rfl)
    exact L_14 50 (0 : Int32) h ls (lv_sub hl [0, 1, 2, 3] rfl)
  · rw [if_neg b_1] at h
    refine va_csq (va_Run.run (va_runV (As := [.int cl]) (rest := []) ⟨hx, hb, hml, hown, htg⟩ (c_B_find l D ct ws k0 k1 h0 h1 h2 h3 h5 (nI kn) (cfun kn ca) cl hk0 hk1 _ (find_out hk40 b_1)) (cwV 1 htg (giV tm_278 tm_280 tm_11 tm_31 g_B_find) rfl rfl rfl (by decide +kernel) ⟨Nat.le_of_ble_eq_true rfl, Nat.le_of_ble_eq_true rfl⟩) (preV hP hKK (va_recv hK hP (ci := 4) (q0 := k0) rfl hk0)) rfl rfl hl.1 rfl (lv_room (Nat.le_of_ble_eq_true rfl)) d_B_same_2 ⟨Nat.le_of_ble_eq_true rfl, Nat.le_of_ble_eq_true rfl⟩)) (fun r9 hr9 => ?_)
    subst hr9
    refine W.eq (g2 := F0 m 5 ls [.null]) rfl ?_
    refine lv_astore_nN (lv' := [(2, .null), (0, .ref h0), (1, .int cl)]) hx hb d_B_same_5 rfl hl (by decide) rfl (fun ls hl => ?_)
    refine lv_aload_nN hx hb d_B_same_6 rfl (lv_at hl 0 rfl) ?_
    refine lv_ifnonnullN hx hb d_B_same_7 ?_
    refine lv_iconst (v := (-1 : Int32)) hx hb d_B_same_10 (by decide) ?_
    exact W.iret (v := (-1 : Int32)) hx hb hr (fun t ht hW => ⟨(-1 : Int32), rfl, (Option.some.inj h), ht⟩) (fun q h => by cases h) d_B_same_11
-- CellBench shorter (IJ)I
def lp_B_shorter_41 (td : Nat → P6) (lw : Nat → P6) (sy : Nat → Int32) (sh : Nat → Int32) (kn : Nat) (cl : Int32) (ra_ : Int64) : Nat → Int32 → Int32 → Int32 → Int32 → Option (Int32 × Int32 × Int32 × Int32)
  | 0, _, _, _, _ => none
  | n + 1, wi, lx, ly, lz =>
    if (4 : Int32) < lz then (some (wi, lx, ly, lz)) else (if lx = 0 then (if ly = 0 then (if lz = 0 then (if (0 : Int32) = 0 then (lp_B_shorter_41 td lw sy sh kn cl ra_ n wi lx ly (lz + (1 : Int32))) else (if 0 < (lg_cmp (f_P_prod ((td cl.toNatClampNeg).1) ((td cl.toNatClampNeg).2.1) ((td cl.toNatClampNeg).2.2.1) ((td cl.toNatClampNeg).2.2.2.1) ((td cl.toNatClampNeg).2.2.2.2.1) ((td cl.toNatClampNeg).2.2.2.2.2) (lx.toInt64) (ly.toInt64) (lz.toInt64) (lx.toInt64) (ly.toInt64) (lz.toInt64)) ra_) then (lp_B_shorter_41 td lw sy sh kn cl ra_ n wi lx ly (lz + (1 : Int32))) else (lp_B_shorter_41 td lw sy sh kn cl ra_ n (wi + (1 : Int32)) lx ly (lz + (1 : Int32))))) else (if (1 : Int32) = 0 then (lp_B_shorter_41 td lw sy sh kn cl ra_ n wi lx ly (lz + (1 : Int32))) else (if 0 < (lg_cmp (f_P_prod ((td cl.toNatClampNeg).1) ((td cl.toNatClampNeg).2.1) ((td cl.toNatClampNeg).2.2.1) ((td cl.toNatClampNeg).2.2.2.1) ((td cl.toNatClampNeg).2.2.2.2.1) ((td cl.toNatClampNeg).2.2.2.2.2) (lx.toInt64) (ly.toInt64) (lz.toInt64) (lx.toInt64) (ly.toInt64) (lz.toInt64)) ra_) then (lp_B_shorter_41 td lw sy sh kn cl ra_ n wi lx ly (lz + (1 : Int32))) else (lp_B_shorter_41 td lw sy sh kn cl ra_ n (wi + (1 : Int32)) lx ly (lz + (1 : Int32)))))) else (if (1 : Int32) = 0 then (lp_B_shorter_41 td lw sy sh kn cl ra_ n wi lx ly (lz + (1 : Int32))) else (if 0 < (lg_cmp (f_P_prod ((td cl.toNatClampNeg).1) ((td cl.toNatClampNeg).2.1) ((td cl.toNatClampNeg).2.2.1) ((td cl.toNatClampNeg).2.2.2.1) ((td cl.toNatClampNeg).2.2.2.2.1) ((td cl.toNatClampNeg).2.2.2.2.2) (lx.toInt64) (ly.toInt64) (lz.toInt64) (lx.toInt64) (ly.toInt64) (lz.toInt64)) ra_) then (lp_B_shorter_41 td lw sy sh kn cl ra_ n wi lx ly (lz + (1 : Int32))) else (lp_B_shorter_41 td lw sy sh kn cl ra_ n (wi + (1 : Int32)) lx ly (lz + (1 : Int32)))))) else (if (1 : Int32) = 0 then (lp_B_shorter_41 td lw sy sh kn cl ra_ n wi lx ly (lz + (1 : Int32))) else (if 0 < (lg_cmp (f_P_prod ((td cl.toNatClampNeg).1) ((td cl.toNatClampNeg).2.1) ((td cl.toNatClampNeg).2.2.1) ((td cl.toNatClampNeg).2.2.2.1) ((td cl.toNatClampNeg).2.2.2.2.1) ((td cl.toNatClampNeg).2.2.2.2.2) (lx.toInt64) (ly.toInt64) (lz.toInt64) (lx.toInt64) (ly.toInt64) (lz.toInt64)) ra_) then (lp_B_shorter_41 td lw sy sh kn cl ra_ n wi lx ly (lz + (1 : Int32))) else (lp_B_shorter_41 td lw sy sh kn cl ra_ n (wi + (1 : Int32)) lx ly (lz + (1 : Int32))))))
def lp_B_shorter_31 (td : Nat → P6) (lw : Nat → P6) (sy : Nat → Int32) (sh : Nat → Int32) (kn : Nat) (cl : Int32) (ra_ : Int64) : Nat → Int32 → Int32 → Int32 → Option (Int32 × Int32 × Int32)
  | 0, _, _, _ => none
  | n + 1, wi, lx, ly =>
    if (4 : Int32) < ly then (some (wi, lx, ly)) else (Option.bind (lp_B_shorter_41 td lw sy sh kn cl ra_ 10 wi lx ly (-4 : Int32)) (fun z_24 => (lp_B_shorter_31 td lw sy sh kn cl ra_ n z_24.1 z_24.2.1 (z_24.2.2.1 + (1 : Int32)))))
def lp_B_shorter_21 (td : Nat → P6) (lw : Nat → P6) (sy : Nat → Int32) (sh : Nat → Int32) (kn : Nat) (cl : Int32) (ra_ : Int64) : Nat → Int32 → Int32 → Option (Int32)
  | 0, _, _ => none
  | n + 1, wi, lx =>
    if (4 : Int32) < lx then (some wi) else (Option.bind (lp_B_shorter_31 td lw sy sh kn cl ra_ 10 wi lx (-4 : Int32)) (fun z_29 => (lp_B_shorter_21 td lw sy sh kn cl ra_ n z_29.1 (z_29.2.1 + (1 : Int32)))))
def f_B_shorter (td : Nat → P6) (lw : Nat → P6) (sy : Nat → Int32) (sh : Nat → Int32) (kn : Nat) (cl : Int32) (ra_ : Int64) : Option (Int32) :=
    if inb cl kn = true then (lp_B_shorter_21 td lw sy sh kn cl ra_ 10 (0 : Int32) (-4 : Int32)) else (some (-1 : Int32))
def w_B_shorter : List Cond := .code y_B_shorter b_B_shorter 10 (some .int) :: GW
abbrev rm_B_shorter : Room := { frames := 1, cells := 0, slots := 0, locals := 32 }
theorem g_B_shorter : GoodIn GW w_B_shorter := gi tm_391
set_option maxHeartbeats 4000000 in
set_option maxRecDepth 100000 in
theorem c_B_shorter (l : Launch) (D : va_G) (ct : CT) (ws : va_W) (k0 : Nat) (k1 : Nat) (h0 : Nat) (h1 : Nat) (h2 : Nat) (h3 : Nat) (h5 : Nat) (ca : Nat → Nat) (ta : Nat → Nat) (la : Nat → Nat) (td : Nat → P6) (lw : Nat → P6) (sy : Nat → Int32) (sh : Nat → Int32) (kn : Nat) (cl : Int32) (ra_ : Int64) (hk0 : ws[k0]? = some (h0, .inr (4, [.ref h1, .ref h2, .ref h3, .ref h5, .int (nI kn)]))) (hk1 : ws[k1]? = some (h1, .inl (ct.2.1, 40, .inr (.inr (.inr (.inr (cfun kn ca))))))) (hk40 : kn ≤ 40) (hpool : PoolIn ws ca ta la td lw sy sh kn) (r0 : Int32) (h : f_B_shorter td lw sy sh kn cl ra_ = some r0) : Met l y_B_shorter w_B_shorter rm_B_shorter (va_Pc [.ref h0, .int cl, .long ra_] (PreP D ct ws)) (vp_Si (fun r => r = r0)) 0 0 (fun _ => False) := by
  refine Met.ofW (cc := b_B_shorter) (maxL := 10) (ret := (some .int)) (by decide) rfl ?_
  intro p e s m args below meth c s₁ B hml hv
  obtain ⟨rfl, hP, hKK⟩ := hv
  have hx := B.exec
  have hb := B.bytes
  have hr := B.returns
  have htg := ht_tl (atoms_spec (ws := w_B_shorter) B.pre)
  have hown : s.vm.findClass R_Bench = some m.cls := findClass_of_methodNamed B.named
  have hlocks := B.notSynchronized
  have hK := hKK.1
  have hN := hKK.2.1
  have hO := hKK.2.2
  have hl := lv_entry ([.ref h0, .int cl, .long ra_]) (n := 10) (Nat.le_of_ble_eq_true rfl)
  rw [lg_entry_eq]
  generalize (lg_sl ([.ref h0, .int cl, .long ra_]) ++ List.replicate (10 - (lg_sl ([.ref h0, .int cl, .long ra_])).length) Slot.unset).toArray = ls at hl ⊢
  have hl : lv_has ls 10 [(0, .ref h0), (1, .int cl), (2, .long ra_)] := hl
  unfold f_B_shorter at h
  refine lv_aload_n hx hb d_B_shorter_0 rfl (lv_at hl 0 rfl) ?_
  refine lv_iload_n hx hb d_B_shorter_1 rfl (lv_at hl 1 rfl) ?_
  by_cases b_1 : inb cl kn = true
  · rw [if_pos b_1] at h
    obtain ⟨⟨kc_2, hkc_2⟩, ⟨kt_3, hkt_3⟩, ⟨kl_4, hkl_4⟩⟩ := hpool cl.toNatClampNeg (inb_lt b_1)
    refine va_csq (va_Run.run (va_runV (As := [.int cl]) (rest := []) ⟨hx, hb, hml, hown, htg⟩ (c_B_find l D ct ws k0 k1 h0 h1 h2 h3 h5 (nI kn) (cfun kn ca) cl hk0 hk1 _ (find_in hk40 b_1)) (cwV 1 htg (giV tm_278 tm_280 tm_11 tm_31 g_B_find) rfl rfl rfl (by decide +kernel) ⟨Nat.le_of_ble_eq_true rfl, Nat.le_of_ble_eq_true rfl⟩) (preV hP hKK (va_recv hK hP (ci := 4) (q0 := k0) rfl hk0)) rfl rfl hl.1 rfl (lv_room (Nat.le_of_ble_eq_true rfl)) d_B_shorter_2 ⟨Nat.le_of_ble_eq_true rfl, Nat.le_of_ble_eq_true rfl⟩)) (fun r9 hr9 => ?_)
    subst hr9
    refine W.eq (g2 := F0 m 5 ls [.ref (ca cl.toNatClampNeg)]) rfl ?_
    refine lv_astore (lv' := [(4, .ref (ca cl.toNatClampNeg)), (0, .ref h0), (1, .int cl), (2, .long ra_)]) hx hb d_B_shorter_5 hl (by decide) rfl (fun ls hl => ?_)
    refine lv_aload hx hb d_B_shorter_7 (lv_at hl 0 rfl) ?_
    refine lv_ifnonnull (tgt := 14) hx hb d_B_shorter_9 (by decide) ?_
    refine lv_iconst (v := (0 : Int32)) hx hb d_B_shorter_14 (by decide) ?_
    refine lv_istore (lv' := [(5, .int (0 : Int32)), (4, .ref (ca cl.toNatClampNeg)), (0, .ref h0), (1, .int cl), (2, .long ra_)]) hx hb d_B_shorter_15 hl (by decide) rfl (fun ls hl => ?_)
    refine lv_bipush (v := (-4 : Int32)) hx hb d_B_shorter_17 (by decide) ?_
    refine lv_istore (lv' := [(6, .int (-4 : Int32)), (5, .int (0 : Int32)), (4, .ref (ca cl.toNatClampNeg)), (0, .ref h0), (1, .int cl), (2, .long ra_)]) hx hb d_B_shorter_19 hl (by decide) rfl (fun ls hl => ?_)
    have L_41 : ∀ (n : Nat) (wi : Int32) (lx : Int32) (ly : Int32) (lz : Int32) (wi' : Int32) (lx' : Int32) (ly' : Int32) (lz' : Int32), lp_B_shorter_41 td lw sy sh kn cl ra_ n wi lx ly lz = some (wi', lx', ly', lz') → ∀ (ls : Array Slot), lv_has ls 10 [(5, .int wi), (6, .int lx), (7, .int ly), (8, .int lz), (4, .ref (ca cl.toNatClampNeg)), (0, .ref h0), (1, .int cl), (2, .long ra_)] → (∀ (ls : Array Slot), lv_has ls 10 [(5, .int wi'), (6, .int lx'), (7, .int ly'), (8, .int lz'), (4, .ref (ca cl.toNatClampNeg)), (0, .ref h0), (1, .int cl), (2, .long ra_)] → W p l e (headSpec w_B_shorter rm_B_shorter).room s m ([.ref h0, .int cl, .long ra_] : List Value).toArray below meth c s.heap [] 0 0 (MQ below (vp_Si (fun r => r = r0)) ([.ref h0, .int cl, .long ra_] : List Value).toArray s 0 0 (fun _ => False)) (F0 m 114 ls [])) → W p l e (headSpec w_B_shorter rm_B_shorter).room s m ([.ref h0, .int cl, .long ra_] : List Value).toArray below meth c s.heap [] 0 0 (MQ below (vp_Si (fun r => r = r0)) ([.ref h0, .int cl, .long ra_] : List Value).toArray s 0 0 (fun _ => False)) (F0 m 41 ls []) := by
      intro n
      induction n with
      | zero =>
        intro wi lx ly lz wi' lx' ly' lz' h
        rw [lp_B_shorter_41] at h
        cases h
      | succ n ih =>
        intro wi lx ly lz wi' lx' ly' lz' h ls hl K
        rw [lp_B_shorter_41] at h
        refine lv_iload hx hb d_B_shorter_41 (lv_at hl 3 rfl) ?_
        refine lv_iconst (v := (4 : Int32)) hx hb d_B_shorter_43 (by decide) ?_
        refine lv_icmp_gt (tgt := 114) hx hb d_B_shorter_44 (by decide) (fun c_7 => ?_) (fun c_7 => ?_)
        · rw [if_pos c_7] at h
          cases h
          exact K _ (lv_sub hl [0, 1, 2, 3, 4, 5, 6, 7] rfl)
        · rw [if_neg c_7] at h
          refine lv_iload hx hb d_B_shorter_47 (lv_at hl 1 rfl) ?_
          refine lv_if_ne (tgt := 62) hx hb d_B_shorter_49 (by decide) (fun c_8 => ?_) (fun c_8 => ?_)
          · rw [if_neg c_8] at h
            refine lv_iconst (v := (1 : Int32)) hx hb d_B_shorter_62 (by decide) ?_
            refine lv_goto (tgt := 67) hx hb d_B_shorter_63 (by decide) ?_
            refine lv_istore (lv' := [(9, .int (1 : Int32)), (5, .int wi), (6, .int lx), (7, .int ly), (8, .int lz), (4, .ref (ca cl.toNatClampNeg)), (0, .ref h0), (1, .int cl), (2, .long ra_)]) hx hb d_B_shorter_67 hl (by decide) rfl (fun ls hl => ?_)
            refine lv_iload hx hb d_B_shorter_69 (lv_at hl 0 rfl) ?_
            refine lv_if_eq (tgt := 108) hx hb d_B_shorter_71 (by decide) (fun c_9 => ?_) (fun c_9 => ?_)
            · rw [if_pos c_9] at h
              refine lv_iinc (v := lz + (1 : Int32)) (lv' := [(8, .int (lz + (1 : Int32))), (9, .int (1 : Int32)), (5, .int wi), (6, .int lx), (7, .int ly), (4, .ref (ca cl.toNatClampNeg)), (0, .ref h0), (1, .int cl), (2, .long ra_)]) hx hb d_B_shorter_108 hl (k := 4) rfl rfl (by decide) rfl (fun ls hl => ?_)
              refine lv_goto (tgt := 41) hx hb d_B_shorter_111 (by decide) ?_
              exact ih wi lx ly (lz + (1 : Int32)) _ _ _ _ h ls (lv_sub hl [2, 3, 4, 0, 5, 6, 7, 8] rfl) K
            · rw [if_neg c_9] at h
              refine lv_aload hx hb d_B_shorter_74 (lv_at hl 5 rfl) ?_
              refine va_get (D := D) (ci := 3) (v := .ref (ta cl.toNatClampNeg)) (C := R_Cell) (T := F_Cell) (N := 4) hx hb htg i_Cell hown hK hP kc_2 hkc_2 rfl 0 (by decide) (htg _ tm_258) (fun _ h9 => h9) rfl d_B_shorter_76 ?_
              refine lv_iload hx hb d_B_shorter_79 (lv_at hl 2 rfl) ?_
              refine lv_i2l hx hb d_B_shorter_81 rfl ?_
              refine lv_iload hx hb d_B_shorter_82 (lv_at hl 3 rfl) ?_
              refine lv_i2l hx hb d_B_shorter_84 rfl ?_
              refine lv_iload hx hb d_B_shorter_85 (lv_at hl 4 rfl) ?_
              refine lv_i2l hx hb d_B_shorter_87 rfl ?_
              refine lv_iload hx hb d_B_shorter_88 (lv_at hl 2 rfl) ?_
              refine lv_i2l hx hb d_B_shorter_90 rfl ?_
              refine lv_iload hx hb d_B_shorter_91 (lv_at hl 3 rfl) ?_
              refine lv_i2l hx hb d_B_shorter_93 rfl ?_
              refine lv_iload hx hb d_B_shorter_94 (lv_at hl 4 rfl) ?_
              refine lv_i2l hx hb d_B_shorter_96 rfl ?_
              refine vp_callSl (va_Run.run (va_runV (As := [.long (lx.toInt64), .long (ly.toInt64), .long (lz.toInt64), .long (lx.toInt64), .long (ly.toInt64), .long (lz.toInt64)]) (rest := []) ⟨hx, hb, hml, hown, htg⟩ (c_P_prod l D ct ws kt_3 (ta cl.toNatClampNeg) ((td cl.toNatClampNeg).1) ((td cl.toNatClampNeg).2.1) ((td cl.toNatClampNeg).2.2.1) ((td cl.toNatClampNeg).2.2.2.1) ((td cl.toNatClampNeg).2.2.2.2.1) ((td cl.toNatClampNeg).2.2.2.2.2) (lx.toInt64) (ly.toInt64) (lz.toInt64) (lx.toInt64) (ly.toInt64) (lz.toInt64) hkt_3  _ rfl) (cwV 6 htg (giV tm_387 tm_234 tm_235 tm_35 g_P_prod) rfl rfl rfl (by decide +kernel) ⟨Nat.le_of_ble_eq_true rfl, Nat.le_of_ble_eq_true rfl⟩) (preV hP hKK (va_recv hK hP (ci := 0) (q0 := kt_3) rfl hkt_3)) rfl rfl hl.1 rfl (lv_room (Nat.le_of_ble_eq_true rfl)) d_B_shorter_97 ⟨Nat.le_of_ble_eq_true rfl, Nat.le_of_ble_eq_true rfl⟩)) (fun r9 hr9 => ?_)
              have hr9 := hr9.symm
              subst hr9
              refine lv_lload_n hx hb d_B_shorter_100 rfl (lv_at hl 8 rfl) ?_
              refine W.lcmp hx hb d_B_shorter_101 ?_
              refine lv_if_gt (tgt := 108) hx hb d_B_shorter_102 (by decide) (fun c_10 => ?_) (fun c_10 => ?_)
              · rw [if_pos c_10] at h
                refine lv_iinc (v := lz + (1 : Int32)) (lv' := [(8, .int (lz + (1 : Int32))), (9, .int (1 : Int32)), (5, .int wi), (6, .int lx), (7, .int ly), (4, .ref (ca cl.toNatClampNeg)), (0, .ref h0), (1, .int cl), (2, .long ra_)]) hx hb d_B_shorter_108 hl (k := 4) rfl rfl (by decide) rfl (fun ls hl => ?_)
                refine lv_goto (tgt := 41) hx hb d_B_shorter_111 (by decide) ?_
                exact ih wi lx ly (lz + (1 : Int32)) _ _ _ _ h ls (lv_sub hl [2, 3, 4, 0, 5, 6, 7, 8] rfl) K
              · rw [if_neg c_10] at h
                refine lv_iinc (v := wi + (1 : Int32)) (lv' := [(5, .int (wi + (1 : Int32))), (9, .int (1 : Int32)), (6, .int lx), (7, .int ly), (8, .int lz), (4, .ref (ca cl.toNatClampNeg)), (0, .ref h0), (1, .int cl), (2, .long ra_)]) hx hb d_B_shorter_105 hl (k := 1) rfl rfl (by decide) rfl (fun ls hl => ?_)
                refine lv_iinc (v := lz + (1 : Int32)) (lv' := [(8, .int (lz + (1 : Int32))), (5, .int (wi + (1 : Int32))), (9, .int (1 : Int32)), (6, .int lx), (7, .int ly), (4, .ref (ca cl.toNatClampNeg)), (0, .ref h0), (1, .int cl), (2, .long ra_)]) hx hb d_B_shorter_108 hl (k := 4) rfl rfl (by decide) rfl (fun ls hl => ?_)
                refine lv_goto (tgt := 41) hx hb d_B_shorter_111 (by decide) ?_
                exact ih (wi + (1 : Int32)) lx ly (lz + (1 : Int32)) _ _ _ _ h ls (lv_sub hl [1, 3, 4, 0, 5, 6, 7, 8] rfl) K
          · rw [if_pos c_8] at h
            refine lv_iload hx hb d_B_shorter_52 (lv_at hl 2 rfl) ?_
            refine lv_if_ne (tgt := 62) hx hb d_B_shorter_54 (by decide) (fun c_11 => ?_) (fun c_11 => ?_)
            · rw [if_neg c_11] at h
              refine lv_iconst (v := (1 : Int32)) hx hb d_B_shorter_62 (by decide) ?_
              refine lv_goto (tgt := 67) hx hb d_B_shorter_63 (by decide) ?_
              refine lv_istore (lv' := [(9, .int (1 : Int32)), (5, .int wi), (6, .int lx), (7, .int ly), (8, .int lz), (4, .ref (ca cl.toNatClampNeg)), (0, .ref h0), (1, .int cl), (2, .long ra_)]) hx hb d_B_shorter_67 hl (by decide) rfl (fun ls hl => ?_)
              refine lv_iload hx hb d_B_shorter_69 (lv_at hl 0 rfl) ?_
              refine lv_if_eq (tgt := 108) hx hb d_B_shorter_71 (by decide) (fun c_12 => ?_) (fun c_12 => ?_)
              · rw [if_pos c_12] at h
                refine lv_iinc (v := lz + (1 : Int32)) (lv' := [(8, .int (lz + (1 : Int32))), (9, .int (1 : Int32)), (5, .int wi), (6, .int lx), (7, .int ly), (4, .ref (ca cl.toNatClampNeg)), (0, .ref h0), (1, .int cl), (2, .long ra_)]) hx hb d_B_shorter_108 hl (k := 4) rfl rfl (by decide) rfl (fun ls hl => ?_)
                refine lv_goto (tgt := 41) hx hb d_B_shorter_111 (by decide) ?_
                exact ih wi lx ly (lz + (1 : Int32)) _ _ _ _ h ls (lv_sub hl [2, 3, 4, 0, 5, 6, 7, 8] rfl) K
              · rw [if_neg c_12] at h
                refine lv_aload hx hb d_B_shorter_74 (lv_at hl 5 rfl) ?_
                refine va_get (D := D) (ci := 3) (v := .ref (ta cl.toNatClampNeg)) (C := R_Cell) (T := F_Cell) (N := 4) hx hb htg i_Cell hown hK hP kc_2 hkc_2 rfl 0 (by decide) (htg _ tm_258) (fun _ h9 => h9) rfl d_B_shorter_76 ?_
                refine lv_iload hx hb d_B_shorter_79 (lv_at hl 2 rfl) ?_
                refine lv_i2l hx hb d_B_shorter_81 rfl ?_
                refine lv_iload hx hb d_B_shorter_82 (lv_at hl 3 rfl) ?_
                refine lv_i2l hx hb d_B_shorter_84 rfl ?_
                refine lv_iload hx hb d_B_shorter_85 (lv_at hl 4 rfl) ?_
                refine lv_i2l hx hb d_B_shorter_87 rfl ?_
                refine lv_iload hx hb d_B_shorter_88 (lv_at hl 2 rfl) ?_
                refine lv_i2l hx hb d_B_shorter_90 rfl ?_
                refine lv_iload hx hb d_B_shorter_91 (lv_at hl 3 rfl) ?_
                refine lv_i2l hx hb d_B_shorter_93 rfl ?_
                refine lv_iload hx hb d_B_shorter_94 (lv_at hl 4 rfl) ?_
                refine lv_i2l hx hb d_B_shorter_96 rfl ?_
                refine vp_callSl (va_Run.run (va_runV (As := [.long (lx.toInt64), .long (ly.toInt64), .long (lz.toInt64), .long (lx.toInt64), .long (ly.toInt64), .long (lz.toInt64)]) (rest := []) ⟨hx, hb, hml, hown, htg⟩ (c_P_prod l D ct ws kt_3 (ta cl.toNatClampNeg) ((td cl.toNatClampNeg).1) ((td cl.toNatClampNeg).2.1) ((td cl.toNatClampNeg).2.2.1) ((td cl.toNatClampNeg).2.2.2.1) ((td cl.toNatClampNeg).2.2.2.2.1) ((td cl.toNatClampNeg).2.2.2.2.2) (lx.toInt64) (ly.toInt64) (lz.toInt64) (lx.toInt64) (ly.toInt64) (lz.toInt64) hkt_3  _ rfl) (cwV 6 htg (giV tm_387 tm_234 tm_235 tm_35 g_P_prod) rfl rfl rfl (by decide +kernel) ⟨Nat.le_of_ble_eq_true rfl, Nat.le_of_ble_eq_true rfl⟩) (preV hP hKK (va_recv hK hP (ci := 0) (q0 := kt_3) rfl hkt_3)) rfl rfl hl.1 rfl (lv_room (Nat.le_of_ble_eq_true rfl)) d_B_shorter_97 ⟨Nat.le_of_ble_eq_true rfl, Nat.le_of_ble_eq_true rfl⟩)) (fun r9 hr9 => ?_)
                have hr9 := hr9.symm
                subst hr9
                refine lv_lload_n hx hb d_B_shorter_100 rfl (lv_at hl 8 rfl) ?_
                refine W.lcmp hx hb d_B_shorter_101 ?_
                refine lv_if_gt (tgt := 108) hx hb d_B_shorter_102 (by decide) (fun c_13 => ?_) (fun c_13 => ?_)
                · rw [if_pos c_13] at h
                  refine lv_iinc (v := lz + (1 : Int32)) (lv' := [(8, .int (lz + (1 : Int32))), (9, .int (1 : Int32)), (5, .int wi), (6, .int lx), (7, .int ly), (4, .ref (ca cl.toNatClampNeg)), (0, .ref h0), (1, .int cl), (2, .long ra_)]) hx hb d_B_shorter_108 hl (k := 4) rfl rfl (by decide) rfl (fun ls hl => ?_)
                  refine lv_goto (tgt := 41) hx hb d_B_shorter_111 (by decide) ?_
                  exact ih wi lx ly (lz + (1 : Int32)) _ _ _ _ h ls (lv_sub hl [2, 3, 4, 0, 5, 6, 7, 8] rfl) K
                · rw [if_neg c_13] at h
                  refine lv_iinc (v := wi + (1 : Int32)) (lv' := [(5, .int (wi + (1 : Int32))), (9, .int (1 : Int32)), (6, .int lx), (7, .int ly), (8, .int lz), (4, .ref (ca cl.toNatClampNeg)), (0, .ref h0), (1, .int cl), (2, .long ra_)]) hx hb d_B_shorter_105 hl (k := 1) rfl rfl (by decide) rfl (fun ls hl => ?_)
                  refine lv_iinc (v := lz + (1 : Int32)) (lv' := [(8, .int (lz + (1 : Int32))), (5, .int (wi + (1 : Int32))), (9, .int (1 : Int32)), (6, .int lx), (7, .int ly), (4, .ref (ca cl.toNatClampNeg)), (0, .ref h0), (1, .int cl), (2, .long ra_)]) hx hb d_B_shorter_108 hl (k := 4) rfl rfl (by decide) rfl (fun ls hl => ?_)
                  refine lv_goto (tgt := 41) hx hb d_B_shorter_111 (by decide) ?_
                  exact ih (wi + (1 : Int32)) lx ly (lz + (1 : Int32)) _ _ _ _ h ls (lv_sub hl [1, 3, 4, 0, 5, 6, 7, 8] rfl) K
            · rw [if_pos c_11] at h
              refine lv_iload hx hb d_B_shorter_57 (lv_at hl 3 rfl) ?_
              refine lv_if_eq (tgt := 66) hx hb d_B_shorter_59 (by decide) (fun c_14 => ?_) (fun c_14 => ?_)
              · rw [if_pos c_14] at h
                refine lv_iconst (v := (0 : Int32)) hx hb d_B_shorter_66 (by decide) ?_
                refine lv_istore (lv' := [(9, .int (0 : Int32)), (5, .int wi), (6, .int lx), (7, .int ly), (8, .int lz), (4, .ref (ca cl.toNatClampNeg)), (0, .ref h0), (1, .int cl), (2, .long ra_)]) hx hb d_B_shorter_67 hl (by decide) rfl (fun ls hl => ?_)
                refine lv_iload hx hb d_B_shorter_69 (lv_at hl 0 rfl) ?_
                refine lv_if_eq (tgt := 108) hx hb d_B_shorter_71 (by decide) (fun c_15 => ?_) (fun c_15 => ?_)
                · rw [if_pos c_15] at h
                  refine lv_iinc (v := lz + (1 : Int32)) (lv' := [(8, .int (lz + (1 : Int32))), (9, .int (0 : Int32)), (5, .int wi), (6, .int lx), (7, .int ly), (4, .ref (ca cl.toNatClampNeg)), (0, .ref h0), (1, .int cl), (2, .long ra_)]) hx hb d_B_shorter_108 hl (k := 4) rfl rfl (by decide) rfl (fun ls hl => ?_)
                  refine lv_goto (tgt := 41) hx hb d_B_shorter_111 (by decide) ?_
                  exact ih wi lx ly (lz + (1 : Int32)) _ _ _ _ h ls (lv_sub hl [2, 3, 4, 0, 5, 6, 7, 8] rfl) K
                · rw [if_neg c_15] at h
                  refine lv_aload hx hb d_B_shorter_74 (lv_at hl 5 rfl) ?_
                  refine va_get (D := D) (ci := 3) (v := .ref (ta cl.toNatClampNeg)) (C := R_Cell) (T := F_Cell) (N := 4) hx hb htg i_Cell hown hK hP kc_2 hkc_2 rfl 0 (by decide) (htg _ tm_258) (fun _ h9 => h9) rfl d_B_shorter_76 ?_
                  refine lv_iload hx hb d_B_shorter_79 (lv_at hl 2 rfl) ?_
                  refine lv_i2l hx hb d_B_shorter_81 rfl ?_
                  refine lv_iload hx hb d_B_shorter_82 (lv_at hl 3 rfl) ?_
                  refine lv_i2l hx hb d_B_shorter_84 rfl ?_
                  refine lv_iload hx hb d_B_shorter_85 (lv_at hl 4 rfl) ?_
                  refine lv_i2l hx hb d_B_shorter_87 rfl ?_
                  refine lv_iload hx hb d_B_shorter_88 (lv_at hl 2 rfl) ?_
                  refine lv_i2l hx hb d_B_shorter_90 rfl ?_
                  refine lv_iload hx hb d_B_shorter_91 (lv_at hl 3 rfl) ?_
                  refine lv_i2l hx hb d_B_shorter_93 rfl ?_
                  refine lv_iload hx hb d_B_shorter_94 (lv_at hl 4 rfl) ?_
                  refine lv_i2l hx hb d_B_shorter_96 rfl ?_
                  refine vp_callSl (va_Run.run (va_runV (As := [.long (lx.toInt64), .long (ly.toInt64), .long (lz.toInt64), .long (lx.toInt64), .long (ly.toInt64), .long (lz.toInt64)]) (rest := []) ⟨hx, hb, hml, hown, htg⟩ (c_P_prod l D ct ws kt_3 (ta cl.toNatClampNeg) ((td cl.toNatClampNeg).1) ((td cl.toNatClampNeg).2.1) ((td cl.toNatClampNeg).2.2.1) ((td cl.toNatClampNeg).2.2.2.1) ((td cl.toNatClampNeg).2.2.2.2.1) ((td cl.toNatClampNeg).2.2.2.2.2) (lx.toInt64) (ly.toInt64) (lz.toInt64) (lx.toInt64) (ly.toInt64) (lz.toInt64) hkt_3  _ rfl) (cwV 6 htg (giV tm_387 tm_234 tm_235 tm_35 g_P_prod) rfl rfl rfl (by decide +kernel) ⟨Nat.le_of_ble_eq_true rfl, Nat.le_of_ble_eq_true rfl⟩) (preV hP hKK (va_recv hK hP (ci := 0) (q0 := kt_3) rfl hkt_3)) rfl rfl hl.1 rfl (lv_room (Nat.le_of_ble_eq_true rfl)) d_B_shorter_97 ⟨Nat.le_of_ble_eq_true rfl, Nat.le_of_ble_eq_true rfl⟩)) (fun r9 hr9 => ?_)
                  have hr9 := hr9.symm
                  subst hr9
                  refine lv_lload_n hx hb d_B_shorter_100 rfl (lv_at hl 8 rfl) ?_
                  refine W.lcmp hx hb d_B_shorter_101 ?_
                  refine lv_if_gt (tgt := 108) hx hb d_B_shorter_102 (by decide) (fun c_16 => ?_) (fun c_16 => ?_)
                  · rw [if_pos c_16] at h
                    refine lv_iinc (v := lz + (1 : Int32)) (lv' := [(8, .int (lz + (1 : Int32))), (9, .int (0 : Int32)), (5, .int wi), (6, .int lx), (7, .int ly), (4, .ref (ca cl.toNatClampNeg)), (0, .ref h0), (1, .int cl), (2, .long ra_)]) hx hb d_B_shorter_108 hl (k := 4) rfl rfl (by decide) rfl (fun ls hl => ?_)
                    refine lv_goto (tgt := 41) hx hb d_B_shorter_111 (by decide) ?_
                    exact ih wi lx ly (lz + (1 : Int32)) _ _ _ _ h ls (lv_sub hl [2, 3, 4, 0, 5, 6, 7, 8] rfl) K
                  · rw [if_neg c_16] at h
                    refine lv_iinc (v := wi + (1 : Int32)) (lv' := [(5, .int (wi + (1 : Int32))), (9, .int (0 : Int32)), (6, .int lx), (7, .int ly), (8, .int lz), (4, .ref (ca cl.toNatClampNeg)), (0, .ref h0), (1, .int cl), (2, .long ra_)]) hx hb d_B_shorter_105 hl (k := 1) rfl rfl (by decide) rfl (fun ls hl => ?_)
                    refine lv_iinc (v := lz + (1 : Int32)) (lv' := [(8, .int (lz + (1 : Int32))), (5, .int (wi + (1 : Int32))), (9, .int (0 : Int32)), (6, .int lx), (7, .int ly), (4, .ref (ca cl.toNatClampNeg)), (0, .ref h0), (1, .int cl), (2, .long ra_)]) hx hb d_B_shorter_108 hl (k := 4) rfl rfl (by decide) rfl (fun ls hl => ?_)
                    refine lv_goto (tgt := 41) hx hb d_B_shorter_111 (by decide) ?_
                    exact ih (wi + (1 : Int32)) lx ly (lz + (1 : Int32)) _ _ _ _ h ls (lv_sub hl [1, 3, 4, 0, 5, 6, 7, 8] rfl) K
              · rw [if_neg c_14] at h
                refine lv_iconst (v := (1 : Int32)) hx hb d_B_shorter_62 (by decide) ?_
                refine lv_goto (tgt := 67) hx hb d_B_shorter_63 (by decide) ?_
                refine lv_istore (lv' := [(9, .int (1 : Int32)), (5, .int wi), (6, .int lx), (7, .int ly), (8, .int lz), (4, .ref (ca cl.toNatClampNeg)), (0, .ref h0), (1, .int cl), (2, .long ra_)]) hx hb d_B_shorter_67 hl (by decide) rfl (fun ls hl => ?_)
                refine lv_iload hx hb d_B_shorter_69 (lv_at hl 0 rfl) ?_
                refine lv_if_eq (tgt := 108) hx hb d_B_shorter_71 (by decide) (fun c_17 => ?_) (fun c_17 => ?_)
                · rw [if_pos c_17] at h
                  refine lv_iinc (v := lz + (1 : Int32)) (lv' := [(8, .int (lz + (1 : Int32))), (9, .int (1 : Int32)), (5, .int wi), (6, .int lx), (7, .int ly), (4, .ref (ca cl.toNatClampNeg)), (0, .ref h0), (1, .int cl), (2, .long ra_)]) hx hb d_B_shorter_108 hl (k := 4) rfl rfl (by decide) rfl (fun ls hl => ?_)
                  refine lv_goto (tgt := 41) hx hb d_B_shorter_111 (by decide) ?_
                  exact ih wi lx ly (lz + (1 : Int32)) _ _ _ _ h ls (lv_sub hl [2, 3, 4, 0, 5, 6, 7, 8] rfl) K
                · rw [if_neg c_17] at h
                  refine lv_aload hx hb d_B_shorter_74 (lv_at hl 5 rfl) ?_
                  refine va_get (D := D) (ci := 3) (v := .ref (ta cl.toNatClampNeg)) (C := R_Cell) (T := F_Cell) (N := 4) hx hb htg i_Cell hown hK hP kc_2 hkc_2 rfl 0 (by decide) (htg _ tm_258) (fun _ h9 => h9) rfl d_B_shorter_76 ?_
                  refine lv_iload hx hb d_B_shorter_79 (lv_at hl 2 rfl) ?_
                  refine lv_i2l hx hb d_B_shorter_81 rfl ?_
                  refine lv_iload hx hb d_B_shorter_82 (lv_at hl 3 rfl) ?_
                  refine lv_i2l hx hb d_B_shorter_84 rfl ?_
                  refine lv_iload hx hb d_B_shorter_85 (lv_at hl 4 rfl) ?_
                  refine lv_i2l hx hb d_B_shorter_87 rfl ?_
                  refine lv_iload hx hb d_B_shorter_88 (lv_at hl 2 rfl) ?_
                  refine lv_i2l hx hb d_B_shorter_90 rfl ?_
                  refine lv_iload hx hb d_B_shorter_91 (lv_at hl 3 rfl) ?_
                  refine lv_i2l hx hb d_B_shorter_93 rfl ?_
                  refine lv_iload hx hb d_B_shorter_94 (lv_at hl 4 rfl) ?_
                  refine lv_i2l hx hb d_B_shorter_96 rfl ?_
                  refine vp_callSl (va_Run.run (va_runV (As := [.long (lx.toInt64), .long (ly.toInt64), .long (lz.toInt64), .long (lx.toInt64), .long (ly.toInt64), .long (lz.toInt64)]) (rest := []) ⟨hx, hb, hml, hown, htg⟩ (c_P_prod l D ct ws kt_3 (ta cl.toNatClampNeg) ((td cl.toNatClampNeg).1) ((td cl.toNatClampNeg).2.1) ((td cl.toNatClampNeg).2.2.1) ((td cl.toNatClampNeg).2.2.2.1) ((td cl.toNatClampNeg).2.2.2.2.1) ((td cl.toNatClampNeg).2.2.2.2.2) (lx.toInt64) (ly.toInt64) (lz.toInt64) (lx.toInt64) (ly.toInt64) (lz.toInt64) hkt_3  _ rfl) (cwV 6 htg (giV tm_387 tm_234 tm_235 tm_35 g_P_prod) rfl rfl rfl (by decide +kernel) ⟨Nat.le_of_ble_eq_true rfl, Nat.le_of_ble_eq_true rfl⟩) (preV hP hKK (va_recv hK hP (ci := 0) (q0 := kt_3) rfl hkt_3)) rfl rfl hl.1 rfl (lv_room (Nat.le_of_ble_eq_true rfl)) d_B_shorter_97 ⟨Nat.le_of_ble_eq_true rfl, Nat.le_of_ble_eq_true rfl⟩)) (fun r9 hr9 => ?_)
                  have hr9 := hr9.symm
                  subst hr9
                  refine lv_lload_n hx hb d_B_shorter_100 rfl (lv_at hl 8 rfl) ?_
                  refine W.lcmp hx hb d_B_shorter_101 ?_
                  refine lv_if_gt (tgt := 108) hx hb d_B_shorter_102 (by decide) (fun c_18 => ?_) (fun c_18 => ?_)
                  · rw [if_pos c_18] at h
                    refine lv_iinc (v := lz + (1 : Int32)) (lv' := [(8, .int (lz + (1 : Int32))), (9, .int (1 : Int32)), (5, .int wi), (6, .int lx), (7, .int ly), (4, .ref (ca cl.toNatClampNeg)), (0, .ref h0), (1, .int cl), (2, .long ra_)]) hx hb d_B_shorter_108 hl (k := 4) rfl rfl (by decide) rfl (fun ls hl => ?_)
                    refine lv_goto (tgt := 41) hx hb d_B_shorter_111 (by decide) ?_
                    exact ih wi lx ly (lz + (1 : Int32)) _ _ _ _ h ls (lv_sub hl [2, 3, 4, 0, 5, 6, 7, 8] rfl) K
                  · rw [if_neg c_18] at h
                    refine lv_iinc (v := wi + (1 : Int32)) (lv' := [(5, .int (wi + (1 : Int32))), (9, .int (1 : Int32)), (6, .int lx), (7, .int ly), (8, .int lz), (4, .ref (ca cl.toNatClampNeg)), (0, .ref h0), (1, .int cl), (2, .long ra_)]) hx hb d_B_shorter_105 hl (k := 1) rfl rfl (by decide) rfl (fun ls hl => ?_)
                    refine lv_iinc (v := lz + (1 : Int32)) (lv' := [(8, .int (lz + (1 : Int32))), (5, .int (wi + (1 : Int32))), (9, .int (1 : Int32)), (6, .int lx), (7, .int ly), (4, .ref (ca cl.toNatClampNeg)), (0, .ref h0), (1, .int cl), (2, .long ra_)]) hx hb d_B_shorter_108 hl (k := 4) rfl rfl (by decide) rfl (fun ls hl => ?_)
                    refine lv_goto (tgt := 41) hx hb d_B_shorter_111 (by decide) ?_
                    exact ih (wi + (1 : Int32)) lx ly (lz + (1 : Int32)) _ _ _ _ h ls (lv_sub hl [1, 3, 4, 0, 5, 6, 7, 8] rfl) K
    have L_31 : ∀ (n : Nat) (wi : Int32) (lx : Int32) (ly : Int32) (wi' : Int32) (lx' : Int32) (ly' : Int32), lp_B_shorter_31 td lw sy sh kn cl ra_ n wi lx ly = some (wi', lx', ly') → ∀ (ls : Array Slot), lv_has ls 10 [(5, .int wi), (6, .int lx), (7, .int ly), (4, .ref (ca cl.toNatClampNeg)), (0, .ref h0), (1, .int cl), (2, .long ra_)] → (∀ (ls : Array Slot), lv_has ls 10 [(5, .int wi'), (6, .int lx'), (7, .int ly'), (4, .ref (ca cl.toNatClampNeg)), (0, .ref h0), (1, .int cl), (2, .long ra_)] → W p l e (headSpec w_B_shorter rm_B_shorter).room s m ([.ref h0, .int cl, .long ra_] : List Value).toArray below meth c s.heap [] 0 0 (MQ below (vp_Si (fun r => r = r0)) ([.ref h0, .int cl, .long ra_] : List Value).toArray s 0 0 (fun _ => False)) (F0 m 120 ls [])) → W p l e (headSpec w_B_shorter rm_B_shorter).room s m ([.ref h0, .int cl, .long ra_] : List Value).toArray below meth c s.heap [] 0 0 (MQ below (vp_Si (fun r => r = r0)) ([.ref h0, .int cl, .long ra_] : List Value).toArray s 0 0 (fun _ => False)) (F0 m 31 ls []) := by
      intro n
      induction n with
      | zero =>
        intro wi lx ly wi' lx' ly' h
        rw [lp_B_shorter_31] at h
        cases h
      | succ n ih =>
        intro wi lx ly wi' lx' ly' h ls hl K
        rw [lp_B_shorter_31] at h
        refine lv_iload hx hb d_B_shorter_31 (lv_at hl 2 rfl) ?_
        refine lv_iconst (v := (4 : Int32)) hx hb d_B_shorter_33 (by decide) ?_
        refine lv_icmp_gt (tgt := 120) hx hb d_B_shorter_34 (by decide) (fun c_6 => ?_) (fun c_6 => ?_)
        · rw [if_pos c_6] at h
          cases h
          exact K _ (lv_sub hl [0, 1, 2, 3, 4, 5, 6] rfl)
        · rw [if_neg c_6] at h
          refine lv_bipush (v := (-4 : Int32)) hx hb d_B_shorter_37 (by decide) ?_
          refine lv_istore (lv' := [(8, .int (-4 : Int32)), (5, .int wi), (6, .int lx), (7, .int ly), (4, .ref (ca cl.toNatClampNeg)), (0, .ref h0), (1, .int cl), (2, .long ra_)]) hx hb d_B_shorter_39 hl (by decide) rfl (fun ls hl => ?_)
          rcases e_23 : lp_B_shorter_41 td lw sy sh kn cl ra_ 10 wi lx ly (-4 : Int32) with _ | ⟨wi_19, lx_20, ly_21, lz_22⟩
          · rw [e_23] at h; cases h
          rw [e_23, Option.bind_some] at h
          try dsimp only at h
          refine L_41 10 wi lx ly (-4 : Int32) wi_19 lx_20 ly_21 lz_22 e_23 ls (lv_sub hl [1, 2, 3, 0, 4, 5, 6, 7] rfl) (fun ls hl => ?_)
          refine lv_iinc (v := ly_21 + (1 : Int32)) (lv' := [(7, .int (ly_21 + (1 : Int32))), (5, .int wi_19), (6, .int lx_20), (8, .int lz_22), (4, .ref (ca cl.toNatClampNeg)), (0, .ref h0), (1, .int cl), (2, .long ra_)]) hx hb d_B_shorter_114 hl (k := 2) rfl rfl (by decide) rfl (fun ls hl => ?_)
          refine lv_goto (tgt := 31) hx hb d_B_shorter_117 (by decide) ?_
          exact ih wi_19 lx_20 (ly_21 + (1 : Int32)) _ _ _ h ls (lv_sub hl [1, 2, 0, 4, 5, 6, 7] rfl) K
    have L_21 : ∀ (n : Nat) (wi : Int32) (lx : Int32) , lp_B_shorter_21 td lw sy sh kn cl ra_ n wi lx = some r0 → ∀ (ls : Array Slot), lv_has ls 10 [(5, .int wi), (6, .int lx), (4, .ref (ca cl.toNatClampNeg)), (0, .ref h0), (1, .int cl), (2, .long ra_)] → W p l e (headSpec w_B_shorter rm_B_shorter).room s m ([.ref h0, .int cl, .long ra_] : List Value).toArray below meth c s.heap [] 0 0 (MQ below (vp_Si (fun r => r = r0)) ([.ref h0, .int cl, .long ra_] : List Value).toArray s 0 0 (fun _ => False)) (F0 m 21 ls []) := by
      intro n
      induction n with
      | zero =>
        intro wi lx  h
        rw [lp_B_shorter_21] at h
        cases h
      | succ n ih =>
        intro wi lx  h ls hl
        rw [lp_B_shorter_21] at h
        refine lv_iload hx hb d_B_shorter_21 (lv_at hl 1 rfl) ?_
        refine lv_iconst (v := (4 : Int32)) hx hb d_B_shorter_23 (by decide) ?_
        refine lv_icmp_gt (tgt := 126) hx hb d_B_shorter_24 (by decide) (fun c_5 => ?_) (fun c_5 => ?_)
        · rw [if_pos c_5] at h
          refine lv_iload hx hb d_B_shorter_126 (lv_at hl 0 rfl) ?_
          exact W.iret (v := wi) hx hb hr (fun t ht hW => ⟨wi, rfl, (Option.some.inj h), ht⟩) (fun q h => by cases h) d_B_shorter_128
        · rw [if_neg c_5] at h
          refine lv_bipush (v := (-4 : Int32)) hx hb d_B_shorter_27 (by decide) ?_
          refine lv_istore (lv' := [(7, .int (-4 : Int32)), (5, .int wi), (6, .int lx), (4, .ref (ca cl.toNatClampNeg)), (0, .ref h0), (1, .int cl), (2, .long ra_)]) hx hb d_B_shorter_29 hl (by decide) rfl (fun ls hl => ?_)
          rcases e_28 : lp_B_shorter_31 td lw sy sh kn cl ra_ 10 wi lx (-4 : Int32) with _ | ⟨wi_25, lx_26, ly_27⟩
          · rw [e_28] at h; cases h
          rw [e_28, Option.bind_some] at h
          try dsimp only at h
          refine L_31 10 wi lx (-4 : Int32) wi_25 lx_26 ly_27 e_28 ls (lv_sub hl [1, 2, 0, 3, 4, 5, 6] rfl) (fun ls hl => ?_)
          refine lv_iinc (v := lx_26 + (1 : Int32)) (lv' := [(6, .int (lx_26 + (1 : Int32))), (5, .int wi_25), (7, .int ly_27), (4, .ref (ca cl.toNatClampNeg)), (0, .ref h0), (1, .int cl), (2, .long ra_)]) hx hb d_B_shorter_120 hl (k := 1) rfl rfl (by decide) rfl (fun ls hl => ?_)
          refine lv_goto (tgt := 21) hx hb d_B_shorter_123 (by decide) ?_
          exact ih wi_25 (lx_26 + (1 : Int32)) h ls (lv_sub hl [1, 0, 3, 4, 5, 6] rfl)
    exact L_21 10 (0 : Int32) (-4 : Int32) h ls (lv_sub hl [1, 0, 2, 3, 4, 5] rfl)
  · rw [if_neg b_1] at h
    refine va_csq (va_Run.run (va_runV (As := [.int cl]) (rest := []) ⟨hx, hb, hml, hown, htg⟩ (c_B_find l D ct ws k0 k1 h0 h1 h2 h3 h5 (nI kn) (cfun kn ca) cl hk0 hk1 _ (find_out hk40 b_1)) (cwV 1 htg (giV tm_278 tm_280 tm_11 tm_31 g_B_find) rfl rfl rfl (by decide +kernel) ⟨Nat.le_of_ble_eq_true rfl, Nat.le_of_ble_eq_true rfl⟩) (preV hP hKK (va_recv hK hP (ci := 4) (q0 := k0) rfl hk0)) rfl rfl hl.1 rfl (lv_room (Nat.le_of_ble_eq_true rfl)) d_B_shorter_2 ⟨Nat.le_of_ble_eq_true rfl, Nat.le_of_ble_eq_true rfl⟩)) (fun r9 hr9 => ?_)
    subst hr9
    refine W.eq (g2 := F0 m 5 ls [.null]) rfl ?_
    refine lv_astoreN (lv' := [(4, .null), (0, .ref h0), (1, .int cl), (2, .long ra_)]) hx hb d_B_shorter_5 hl (by decide) rfl (fun ls hl => ?_)
    refine lv_aloadN hx hb d_B_shorter_7 (lv_at hl 0 rfl) ?_
    refine lv_ifnonnullN hx hb d_B_shorter_9 ?_
    refine lv_iconst (v := (-1 : Int32)) hx hb d_B_shorter_12 (by decide) ?_
    exact W.iret (v := (-1 : Int32)) hx hb hr (fun t ht hW => ⟨(-1 : Int32), rfl, (Option.some.inj h), ht⟩) (fun q h => by cases h) d_B_shorter_13
