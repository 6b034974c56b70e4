-- CellBenchModel between (JJJ)Z
def f_M_between (x1 : Int64) (x2 : Int64) (x3 : Int64) : Int32 :=
    if (lg_cmp x1 x2) < 0 then (0 : Int32) else (if 0 < (lg_cmp x1 x3) then (0 : Int32) else (1 : Int32))
def w_M_between : List Cond := .code y_M_between b_M_between 6 (some .boolean) :: GW
abbrev rm_M_between : Room := { frames := 0, cells := 0, slots := 0, locals := 0 }
theorem g_M_between : GoodIn GW w_M_between := gi tm_449
set_option maxHeartbeats 4000000 in
set_option maxRecDepth 100000 in
theorem c_M_between (l : Launch) (D : va_G) (ct : CT) (ws : va_W)  (x1 : Int64) (x2 : Int64) (x3 : Int64)   (r0 : Int32) (h : f_M_between x1 x2 x3 = r0) : Met l y_M_between w_M_between rm_M_between (va_Pc [.long x1, .long x2, .long x3] (PreP D ct ws)) (vp_Si (fun r => r = r0)) 0 0 (fun _ => False) := by
  refine Met.ofW (cc := b_M_between) (maxL := 6) (ret := (some .boolean)) (by decide) rfl ?_
  intro p e s m args below meth c s₁ B hml hv
  obtain ⟨rfl, hP, hKK⟩ := hv
  have hx := B.exec
  have hb := B.bytes
  have hr := B.returns
  have htg := ht_tl (atoms_spec (ws := w_M_between) B.pre)
  have hown : s.vm.findClass R_Model = some m.cls := findClass_of_methodNamed B.named
  have hlocks := B.notSynchronized
  have hK := hKK.1
  have hN := hKK.2.1
  have hO := hKK.2.2
  have hl := lv_entry ([.long x1, .long x2, .long x3]) (n := 6) (Nat.le_of_ble_eq_true rfl)
  rw [lg_entry_eq]
  generalize (lg_sl ([.long x1, .long x2, .long x3]) ++ List.replicate (6 - (lg_sl ([.long x1, .long x2, .long x3])).length) Slot.unset).toArray = ls at hl ⊢
  have hl : lv_has ls 6 [(0, .long x1), (2, .long x2), (4, .long x3)] := hl
  unfold f_M_between at h
  refine lv_lload_n hx hb d_M_between_0 rfl (lv_at hl 0 rfl) ?_
  refine lv_lload_n hx hb d_M_between_1 rfl (lv_at hl 1 rfl) ?_
  refine W.lcmp hx hb d_M_between_2 ?_
  refine lv_if_lt (tgt := 17) hx hb d_M_between_3 (by decide) (fun c_1 => ?_) (fun c_1 => ?_)
  · rw [if_pos c_1] at h
    refine lv_iconst (v := (0 : Int32)) hx hb d_M_between_17 (by decide) ?_
    exact W.zret (v := (0 : Int32)) (ty := .boolean) hx hb hr rfl (fun t ht hW => ⟨(0 : Int32), rfl, h, ht⟩) (fun q h => by cases h) d_M_between_18
  · rw [if_neg c_1] at h
    refine lv_lload_n hx hb d_M_between_6 rfl (lv_at hl 0 rfl) ?_
    refine lv_lload hx hb d_M_between_7 (lv_at hl 2 rfl) ?_
    refine W.lcmp hx hb d_M_between_9 ?_
    refine lv_if_gt (tgt := 17) hx hb d_M_between_10 (by decide) (fun c_2 => ?_) (fun c_2 => ?_)
    · rw [if_pos c_2] at h
      refine lv_iconst (v := (0 : Int32)) hx hb d_M_between_17 (by decide) ?_
      exact W.zret (v := (0 : Int32)) (ty := .boolean) hx hb hr rfl (fun t ht hW => ⟨(0 : Int32), rfl, h, ht⟩) (fun q h => by cases h) d_M_between_18
    · rw [if_neg c_2] at h
      refine lv_iconst (v := (1 : Int32)) hx hb d_M_between_13 (by decide) ?_
      refine lv_goto (tgt := 18) hx hb d_M_between_14 (by decide) ?_
      exact W.zret (v := (1 : Int32)) (ty := .boolean) hx hb hr rfl (fun t ht hW => ⟨(1 : Int32), rfl, h, ht⟩) (fun q h => by cases h) d_M_between_18
-- CellBenchModel size (J)J
def f_M_size (x1 : Int64) : Int64 :=
    if 0 ≤ (lg_cmp x1 (0 : Int64)) then x1 else (-x1)
def w_M_size : List Cond := .code y_M_size b_M_size 2 (some .long) :: GW
abbrev rm_M_size : Room := { frames := 0, cells := 0, slots := 0, locals := 0 }
theorem g_M_size : GoodIn GW w_M_size := gi tm_465
set_option maxHeartbeats 4000000 in
set_option maxRecDepth 100000 in
theorem c_M_size (l : Launch) (D : va_G) (ct : CT) (ws : va_W)  (x1 : Int64)   (r0 : Int64) (h : f_M_size x1 = r0) : Met l y_M_size w_M_size rm_M_size (va_Pc [.long x1] (PreP D ct ws)) (vp_Sl (fun r => r = r0)) 0 0 (fun _ => False) := by
  refine Met.ofW (cc := b_M_size) (maxL := 2) (ret := (some .long)) (by decide) rfl ?_
  intro p e s m args below meth c s₁ B hml hv
  obtain ⟨rfl, hP, hKK⟩ := hv
  have hx := B.exec
  have hb := B.bytes
  have hr := B.returns
  have htg := ht_tl (atoms_spec (ws := w_M_size) B.pre)
  have hown : s.vm.findClass R_Model = some m.cls := findClass_of_methodNamed B.named
  have hlocks := B.notSynchronized
  have hK := hKK.1
  have hN := hKK.2.1
  have hO := hKK.2.2
  have hl := lv_entry ([.long x1]) (n := 2) (Nat.le_of_ble_eq_true rfl)
  rw [lg_entry_eq]
  generalize (lg_sl ([.long x1]) ++ List.replicate (2 - (lg_sl ([.long x1])).length) Slot.unset).toArray = ls at hl ⊢
  have hl : lv_has ls 2 [(0, .long x1)] := hl
  unfold f_M_size at h
  refine lv_lload_n hx hb d_M_size_0 rfl (lv_at hl 0 rfl) ?_
  refine lv_lconst (v := (0 : Int64)) hx hb d_M_size_1 (by decide) ?_
  refine W.lcmp hx hb d_M_size_2 ?_
  refine lv_if_ge (tgt := 11) hx hb d_M_size_3 (by decide) (fun c_1 => ?_) (fun c_1 => ?_)
  · rw [if_pos c_1] at h
    refine lv_lload_n hx hb d_M_size_11 rfl (lv_at hl 0 rfl) ?_
    exact W.lret (v := x1) hx hb hr (fun t ht hW => ⟨x1, rfl, h, ht⟩) (fun q h => by cases h) d_M_size_12
  · rw [if_neg c_1] at h
    refine lv_lload_n hx hb d_M_size_6 rfl (lv_at hl 0 rfl) ?_
    refine lv_lneg hx hb d_M_size_7 ?_
    refine lv_goto (tgt := 12) hx hb d_M_size_8 (by decide) ?_
    exact W.lret (v := -x1) hx hb hr (fun t ht hW => ⟨-x1, rfl, h, ht⟩) (fun q h => by cases h) d_M_size_12
-- CellBenchModel determinantOf ([JI)J
def f_M_det (gf : Nat → Int64) (ix0 : Int32) : Option (Int64) :=
    if inb ix0 240 = true then (if inb (ix0 + (1 : Int32)) 240 = true then (if inb (ix0 + (2 : Int32)) 240 = true then (if inb (ix0 + (3 : Int32)) 240 = true then (if inb (ix0 + (4 : Int32)) 240 = true then (if inb (ix0 + (5 : Int32)) 240 = true then (some ((((gf ix0.toNatClampNeg) * (((gf (ix0 + (1 : Int32)).toNatClampNeg) * (gf (ix0 + (2 : Int32)).toNatClampNeg)) - ((gf (ix0 + (3 : Int32)).toNatClampNeg) * (gf (ix0 + (3 : Int32)).toNatClampNeg)))) - ((gf (ix0 + (5 : Int32)).toNatClampNeg) * (((gf (ix0 + (5 : Int32)).toNatClampNeg) * (gf (ix0 + (2 : Int32)).toNatClampNeg)) - ((gf (ix0 + (3 : Int32)).toNatClampNeg) * (gf (ix0 + (4 : Int32)).toNatClampNeg))))) + ((gf (ix0 + (4 : Int32)).toNatClampNeg) * (((gf (ix0 + (5 : Int32)).toNatClampNeg) * (gf (ix0 + (3 : Int32)).toNatClampNeg)) - ((gf (ix0 + (1 : Int32)).toNatClampNeg) * (gf (ix0 + (4 : Int32)).toNatClampNeg)))))) else none) else none) else none) else none) else none) else none
def w_M_det : List Cond := .code y_M_det b_M_det 14 (some .long) :: GW
abbrev rm_M_det : Room := { frames := 0, cells := 0, slots := 0, locals := 0 }
theorem g_M_det : GoodIn GW w_M_det := gi tm_453
set_option maxHeartbeats 4000000 in
set_option maxRecDepth 100000 in
theorem c_M_det (l : Launch) (D : va_G) (ct : CT) (ws : va_W) (k0 : Nat) (g1 : Nat) (gf : Nat → Int64) (ix0 : Int32) (hk0 : ws[k0]? = some (g1, .inl (ct.1, 240, .inr (.inl gf))))  (r0 : Int64) (h : f_M_det gf ix0 = some r0) : Met l y_M_det w_M_det rm_M_det (va_Pc [.ref g1, .int ix0] (PreP D ct ws)) (vp_Sl (fun r => r = r0)) 0 0 (fun _ => False) := by
  refine Met.ofW (cc := b_M_det) (maxL := 14) (ret := (some .long)) (by decide) rfl ?_
  intro p e s m args below meth c s₁ B hml hv
  obtain ⟨rfl, hP, hKK⟩ := hv
  have hx := B.exec
  have hb := B.bytes
  have hr := B.returns
  have htg := ht_tl (atoms_spec (ws := w_M_det) B.pre)
  have hown : s.vm.findClass R_Model = some m.cls := findClass_of_methodNamed B.named
  have hlocks := B.notSynchronized
  have hK := hKK.1
  have hN := hKK.2.1
  have hO := hKK.2.2
  have hl := lv_entry ([.ref g1, .int ix0]) (n := 14) (Nat.le_of_ble_eq_true rfl)
  rw [lg_entry_eq]
  generalize (lg_sl ([.ref g1, .int ix0]) ++ List.replicate (14 - (lg_sl ([.ref g1, .int ix0])).length) Slot.unset).toArray = ls at hl ⊢
  have hl : lv_has ls 14 [(0, .ref g1), (1, .int ix0)] := hl
  unfold f_M_det at h
  refine lv_aload_n hx hb d_M_det_0 rfl (lv_at hl 0 rfl) ?_
  refine lv_iload_n hx hb d_M_det_1 rfl (lv_at hl 1 rfl) ?_
  by_cases b_1 : inb ix0 240 = true
  rotate_left
  · rw [if_neg b_1] at h; cases h
  rw [if_pos b_1] at h
  refine va_lald hx hb hK hP k0 0 hk0 rfl (inb_in b_1) d_M_det_2 ?_
  refine lv_lstore_n (lv' := [(2, .long (gf ix0.toNatClampNeg)), (0, .ref g1), (1, .int ix0)]) hx hb d_M_det_3 rfl hl (by decide) rfl (fun ls hl => ?_)
  refine lv_aload_n hx hb d_M_det_4 rfl (lv_at hl 1 rfl) ?_
  refine lv_iload_n hx hb d_M_det_5 rfl (lv_at hl 2 rfl) ?_
  refine lv_iconst (v := (1 : Int32)) hx hb d_M_det_6 (by decide) ?_
  refine lv_iadd hx hb d_M_det_7 ?_
  by_cases b_2 : inb (ix0 + (1 : Int32)) 240 = true
  rotate_left
  · rw [if_neg b_2] at h; cases h
  rw [if_pos b_2] at h
  refine va_lald hx hb hK hP k0 0 hk0 rfl (inb_in b_2) d_M_det_8 ?_
  refine lv_lstore (lv' := [(4, .long (gf (ix0 + (1 : Int32)).toNatClampNeg)), (2, .long (gf ix0.toNatClampNeg)), (0, .ref g1), (1, .int ix0)]) hx hb d_M_det_9 hl (by decide) rfl (fun ls hl => ?_)
  refine lv_aload_n hx hb d_M_det_11 rfl (lv_at hl 2 rfl) ?_
  refine lv_iload_n hx hb d_M_det_12 rfl (lv_at hl 3 rfl) ?_
  refine lv_iconst (v := (2 : Int32)) hx hb d_M_det_13 (by decide) ?_
  refine lv_iadd hx hb d_M_det_14 ?_
  by_cases b_3 : inb (ix0 + (2 : Int32)) 240 = true
  rotate_left
  · rw [if_neg b_3] at h; cases h
  rw [if_pos b_3] at h
  refine va_lald hx hb hK hP k0 0 hk0 rfl (inb_in b_3) d_M_det_15 ?_
  refine lv_lstore (lv' := [(6, .long (gf (ix0 + (2 : Int32)).toNatClampNeg)), (4, .long (gf (ix0 + (1 : Int32)).toNatClampNeg)), (2, .long (gf ix0.toNatClampNeg)), (0, .ref g1), (1, .int ix0)]) hx hb d_M_det_16 hl (by decide) rfl (fun ls hl => ?_)
  refine lv_aload_n hx hb d_M_det_18 rfl (lv_at hl 3 rfl) ?_
  refine lv_iload_n hx hb d_M_det_19 rfl (lv_at hl 4 rfl) ?_
  refine lv_iconst (v := (3 : Int32)) hx hb d_M_det_20 (by decide) ?_
  refine lv_iadd hx hb d_M_det_21 ?_
  by_cases b_4 : inb (ix0 + (3 : Int32)) 240 = true
  rotate_left
  · rw [if_neg b_4] at h; cases h
  rw [if_pos b_4] at h
  refine va_lald hx hb hK hP k0 0 hk0 rfl (inb_in b_4) d_M_det_22 ?_
  refine lv_lstore (lv' := [(8, .long (gf (ix0 + (3 : Int32)).toNatClampNeg)), (6, .long (gf (ix0 + (2 : Int32)).toNatClampNeg)), (4, .long (gf (ix0 + (1 : Int32)).toNatClampNeg)), (2, .long (gf ix0.toNatClampNeg)), (0, .ref g1), (1, .int ix0)]) hx hb d_M_det_23 hl (by decide) rfl (fun ls hl => ?_)
  refine lv_aload_n hx hb d_M_det_25 rfl (lv_at hl 4 rfl) ?_
  refine lv_iload_n hx hb d_M_det_26 rfl (lv_at hl 5 rfl) ?_
  refine lv_iconst (v := (4 : Int32)) hx hb d_M_det_27 (by decide) ?_
  refine lv_iadd hx hb d_M_det_28 ?_
  by_cases b_5 : inb (ix0 + (4 : Int32)) 240 = true
  rotate_left
  · rw [if_neg b_5] at h; cases h
  rw [if_pos b_5] at h
  refine va_lald hx hb hK hP k0 0 hk0 rfl (inb_in b_5) d_M_det_29 ?_
  refine lv_lstore (lv' := [(10, .long (gf (ix0 + (4 : Int32)).toNatClampNeg)), (8, .long (gf (ix0 + (3 : Int32)).toNatClampNeg)), (6, .long (gf (ix0 + (2 : Int32)).toNatClampNeg)), (4, .long (gf (ix0 + (1 : Int32)).toNatClampNeg)), (2, .long (gf ix0.toNatClampNeg)), (0, .ref g1), (1, .int ix0)]) hx hb d_M_det_30 hl (by decide) rfl (fun ls hl => ?_)
  refine lv_aload_n hx hb d_M_det_32 rfl (lv_at hl 5 rfl) ?_
  refine lv_iload_n hx hb d_M_det_33 rfl (lv_at hl 6 rfl) ?_
  refine lv_iconst (v := (5 : Int32)) hx hb d_M_det_34 (by decide) ?_
  refine lv_iadd hx hb d_M_det_35 ?_
  by_cases b_6 : inb (ix0 + (5 : Int32)) 240 = true
  rotate_left
  · rw [if_neg b_6] at h; cases h
  rw [if_pos b_6] at h
  refine va_lald hx hb hK hP k0 0 hk0 rfl (inb_in b_6) d_M_det_36 ?_
  refine lv_lstore (lv' := [(12, .long (gf (ix0 + (5 : Int32)).toNatClampNeg)), (10, .long (gf (ix0 + (4 : Int32)).toNatClampNeg)), (8, .long (gf (ix0 + (3 : Int32)).toNatClampNeg)), (6, .long (gf (ix0 + (2 : Int32)).toNatClampNeg)), (4, .long (gf (ix0 + (1 : Int32)).toNatClampNeg)), (2, .long (gf ix0.toNatClampNeg)), (0, .ref g1), (1, .int ix0)]) hx hb d_M_det_37 hl (by decide) rfl (fun ls hl => ?_)
  refine lv_lload_n hx hb d_M_det_39 rfl (lv_at hl 5 rfl) ?_
  refine lv_lload hx hb d_M_det_40 (lv_at hl 4 rfl) ?_
  refine lv_lload hx hb d_M_det_42 (lv_at hl 3 rfl) ?_
  refine lv_lmul hx hb d_M_det_44 ?_
  refine lv_lload hx hb d_M_det_45 (lv_at hl 2 rfl) ?_
  refine lv_lload hx hb d_M_det_47 (lv_at hl 2 rfl) ?_
  refine lv_lmul hx hb d_M_det_49 ?_
  refine lv_lsub hx hb d_M_det_50 ?_
  refine lv_lmul hx hb d_M_det_51 ?_
  refine lv_lload hx hb d_M_det_52 (lv_at hl 0 rfl) ?_
  refine lv_lload hx hb d_M_det_54 (lv_at hl 0 rfl) ?_
  refine lv_lload hx hb d_M_det_56 (lv_at hl 3 rfl) ?_
  refine lv_lmul hx hb d_M_det_58 ?_
  refine lv_lload hx hb d_M_det_59 (lv_at hl 2 rfl) ?_
  refine lv_lload hx hb d_M_det_61 (lv_at hl 1 rfl) ?_
  refine lv_lmul hx hb d_M_det_63 ?_
  refine lv_lsub hx hb d_M_det_64 ?_
  refine lv_lmul hx hb d_M_det_65 ?_
  refine lv_lsub hx hb d_M_det_66 ?_
  refine lv_lload hx hb d_M_det_67 (lv_at hl 1 rfl) ?_
  refine lv_lload hx hb d_M_det_69 (lv_at hl 0 rfl) ?_
  refine lv_lload hx hb d_M_det_71 (lv_at hl 2 rfl) ?_
  refine lv_lmul hx hb d_M_det_73 ?_
  refine lv_lload hx hb d_M_det_74 (lv_at hl 4 rfl) ?_
  refine lv_lload hx hb d_M_det_76 (lv_at hl 1 rfl) ?_
  refine lv_lmul hx hb d_M_det_78 ?_
  refine lv_lsub hx hb d_M_det_79 ?_
  refine lv_lmul hx hb d_M_det_80 ?_
  refine lv_ladd hx hb d_M_det_81 ?_
  exact W.lret (v := (((gf ix0.toNatClampNeg) * (((gf (ix0 + (1 : Int32)).toNatClampNeg) * (gf (ix0 + (2 : Int32)).toNatClampNeg)) - ((gf (ix0 + (3 : Int32)).toNatClampNeg) * (gf (ix0 + (3 : Int32)).toNatClampNeg)))) - ((gf (ix0 + (5 : Int32)).toNatClampNeg) * (((gf (ix0 + (5 : Int32)).toNatClampNeg) * (gf (ix0 + (2 : Int32)).toNatClampNeg)) - ((gf (ix0 + (3 : Int32)).toNatClampNeg) * (gf (ix0 + (4 : Int32)).toNatClampNeg))))) + ((gf (ix0 + (4 : Int32)).toNatClampNeg) * (((gf (ix0 + (5 : Int32)).toNatClampNeg) * (gf (ix0 + (3 : Int32)).toNatClampNeg)) - ((gf (ix0 + (1 : Int32)).toNatClampNeg) * (gf (ix0 + (4 : Int32)).toNatClampNeg))))) hx hb hr (fun t ht hW => ⟨(((gf ix0.toNatClampNeg) * (((gf (ix0 + (1 : Int32)).toNatClampNeg) * (gf (ix0 + (2 : Int32)).toNatClampNeg)) - ((gf (ix0 + (3 : Int32)).toNatClampNeg) * (gf (ix0 + (3 : Int32)).toNatClampNeg)))) - ((gf (ix0 + (5 : Int32)).toNatClampNeg) * (((gf (ix0 + (5 : Int32)).toNatClampNeg) * (gf (ix0 + (2 : Int32)).toNatClampNeg)) - ((gf (ix0 + (3 : Int32)).toNatClampNeg) * (gf (ix0 + (4 : Int32)).toNatClampNeg))))) + ((gf (ix0 + (4 : Int32)).toNatClampNeg) * (((gf (ix0 + (5 : Int32)).toNatClampNeg) * (gf (ix0 + (3 : Int32)).toNatClampNeg)) - ((gf (ix0 + (1 : Int32)).toNatClampNeg) * (gf (ix0 + (4 : Int32)).toNatClampNeg)))), rfl, (Option.some.inj h), ht⟩) (fun q h => by cases h) d_M_det_82
-- CellBenchModel dot ([JIJJJJJJ)J
def f_M_dot (gf : Nat → Int64) (ix0 : Int32) (px : Int64) (py : Int64) (pz : Int64) (qx : Int64) (qy : Int64) (qz : Int64) : Option (Int64) :=
    if inb ix0 240 = true then (if inb (ix0 + (1 : Int32)) 240 = true then (if inb (ix0 + (2 : Int32)) 240 = true then (if inb (ix0 + (3 : Int32)) 240 = true then (if inb (ix0 + (4 : Int32)) 240 = true then (if inb (ix0 + (5 : Int32)) 240 = true then (some ((((((((gf ix0.toNatClampNeg) * px) * qx) + (((gf (ix0 + (1 : Int32)).toNatClampNeg) * py) * qy)) + (((gf (ix0 + (2 : Int32)).toNatClampNeg) * pz) * qz)) + ((gf (ix0 + (3 : Int32)).toNatClampNeg) * ((py * qz) + (pz * qy)))) + ((gf (ix0 + (4 : Int32)).toNatClampNeg) * ((px * qz) + (pz * qx)))) + ((gf (ix0 + (5 : Int32)).toNatClampNeg) * ((px * qy) + (py * qx))))) else none) else none) else none) else none) else none) else none
def w_M_dot : List Cond := .code y_M_dot b_M_dot 14 (some .long) :: GW
abbrev rm_M_dot : Room := { frames := 0, cells := 0, slots := 0, locals := 0 }
theorem g_M_dot : GoodIn GW w_M_dot := gi tm_481
set_option maxHeartbeats 4000000 in
set_option maxRecDepth 100000 in
theorem c_M_dot (l : Launch) (D : va_G) (ct : CT) (ws : va_W) (k0 : Nat) (g1 : Nat) (gf : Nat → Int64) (ix0 : Int32) (px : Int64) (py : Int64) (pz : Int64) (qx : Int64) (qy : Int64) (qz : Int64) (hk0 : ws[k0]? = some (g1, .inl (ct.1, 240, .inr (.inl gf))))  (r0 : Int64) (h : f_M_dot gf ix0 px py pz qx qy qz = some r0) : Met l y_M_dot w_M_dot rm_M_dot (va_Pc [.ref g1, .int ix0, .long px, .long py, .long pz, .long qx, .long qy, .long qz] (PreP D ct ws)) (vp_Sl (fun r => r = r0)) 0 0 (fun _ => False) := by
  refine Met.ofW (cc := b_M_dot) (maxL := 14) (ret := (some .long)) (by decide) rfl ?_
  intro p e s m args below meth c s₁ B hml hv
  obtain ⟨rfl, hP, hKK⟩ := hv
  have hx := B.exec
  have hb := B.bytes
  have hr := B.returns
  have htg := ht_tl (atoms_spec (ws := w_M_dot) B.pre)
  have hown : s.vm.findClass R_Model = some m.cls := findClass_of_methodNamed B.named
  have hlocks := B.notSynchronized
  have hK := hKK.1
  have hN := hKK.2.1
  have hO := hKK.2.2
  have hl := lv_entry ([.ref g1, .int ix0, .long px, .long py, .long pz, .long qx, .long qy, .long qz]) (n := 14) (Nat.le_of_ble_eq_true rfl)
  rw [lg_entry_eq]
  generalize (lg_sl ([.ref g1, .int ix0, .long px, .long py, .long pz, .long qx, .long qy, .long qz]) ++ List.replicate (14 - (lg_sl ([.ref g1, .int ix0, .long px, .long py, .long pz, .long qx, .long qy, .long qz])).length) Slot.unset).toArray = ls at hl ⊢
  have hl : lv_has ls 14 [(0, .ref g1), (1, .int ix0), (2, .long px), (4, .long py), (6, .long pz), (8, .long qx), (10, .long qy), (12, .long qz)] := hl
  unfold f_M_dot at h
  refine lv_aload_n hx hb d_M_dot_0 rfl (lv_at hl 0 rfl) ?_
  refine lv_iload_n hx hb d_M_dot_1 rfl (lv_at hl 1 rfl) ?_
  by_cases b_1 : inb ix0 240 = true
  rotate_left
  · rw [if_neg b_1] at h; cases h
  rw [if_pos b_1] at h
  refine va_lald hx hb hK hP k0 0 hk0 rfl (inb_in b_1) d_M_dot_2 ?_
  refine lv_lload_n hx hb d_M_dot_3 rfl (lv_at hl 2 rfl) ?_
  refine lv_lmul hx hb d_M_dot_4 ?_
  refine lv_lload hx hb d_M_dot_5 (lv_at hl 5 rfl) ?_
  refine lv_lmul hx hb d_M_dot_7 ?_
  refine lv_aload_n hx hb d_M_dot_8 rfl (lv_at hl 0 rfl) ?_
  refine lv_iload_n hx hb d_M_dot_9 rfl (lv_at hl 1 rfl) ?_
  refine lv_iconst (v := (1 : Int32)) hx hb d_M_dot_10 (by decide) ?_
  refine lv_iadd hx hb d_M_dot_11 ?_
  by_cases b_2 : inb (ix0 + (1 : Int32)) 240 = true
  rotate_left
  · rw [if_neg b_2] at h; cases h
  rw [if_pos b_2] at h
  refine va_lald hx hb hK hP k0 0 hk0 rfl (inb_in b_2) d_M_dot_12 ?_
  refine lv_lload hx hb d_M_dot_13 (lv_at hl 3 rfl) ?_
  refine lv_lmul hx hb d_M_dot_15 ?_
  refine lv_lload hx hb d_M_dot_16 (lv_at hl 6 rfl) ?_
  refine lv_lmul hx hb d_M_dot_18 ?_
  refine lv_ladd hx hb d_M_dot_19 ?_
  refine lv_aload_n hx hb d_M_dot_20 rfl (lv_at hl 0 rfl) ?_
  refine lv_iload_n hx hb d_M_dot_21 rfl (lv_at hl 1 rfl) ?_
  refine lv_iconst (v := (2 : Int32)) hx hb d_M_dot_22 (by decide) ?_
  refine lv_iadd hx hb d_M_dot_23 ?_
  by_cases b_3 : inb (ix0 + (2 : Int32)) 240 = true
  rotate_left
  · rw [if_neg b_3] at h; cases h
  rw [if_pos b_3] at h
  refine va_lald hx hb hK hP k0 0 hk0 rfl (inb_in b_3) d_M_dot_24 ?_
  refine lv_lload hx hb d_M_dot_25 (lv_at hl 4 rfl) ?_
  refine lv_lmul hx hb d_M_dot_27 ?_
  refine lv_lload hx hb d_M_dot_28 (lv_at hl 7 rfl) ?_
  refine lv_lmul hx hb d_M_dot_30 ?_
  refine lv_ladd hx hb d_M_dot_31 ?_
  refine lv_aload_n hx hb d_M_dot_32 rfl (lv_at hl 0 rfl) ?_
  refine lv_iload_n hx hb d_M_dot_33 rfl (lv_at hl 1 rfl) ?_
  refine lv_iconst (v := (3 : Int32)) hx hb d_M_dot_34 (by decide) ?_
  refine lv_iadd hx hb d_M_dot_35 ?_
  by_cases b_4 : inb (ix0 + (3 : Int32)) 240 = true
  rotate_left
  · rw [if_neg b_4] at h; cases h
  rw [if_pos b_4] at h
  refine va_lald hx hb hK hP k0 0 hk0 rfl (inb_in b_4) d_M_dot_36 ?_
  refine lv_lload hx hb d_M_dot_37 (lv_at hl 3 rfl) ?_
  refine lv_lload hx hb d_M_dot_39 (lv_at hl 7 rfl) ?_
  refine lv_lmul hx hb d_M_dot_41 ?_
  refine lv_lload hx hb d_M_dot_42 (lv_at hl 4 rfl) ?_
  refine lv_lload hx hb d_M_dot_44 (lv_at hl 6 rfl) ?_
  refine lv_lmul hx hb d_M_dot_46 ?_
  refine lv_ladd hx hb d_M_dot_47 ?_
  refine lv_lmul hx hb d_M_dot_48 ?_
  refine lv_ladd hx hb d_M_dot_49 ?_
  refine lv_aload_n hx hb d_M_dot_50 rfl (lv_at hl 0 rfl) ?_
  refine lv_iload_n hx hb d_M_dot_51 rfl (lv_at hl 1 rfl) ?_
  refine lv_iconst (v := (4 : Int32)) hx hb d_M_dot_52 (by decide) ?_
  refine lv_iadd hx hb d_M_dot_53 ?_
  by_cases b_5 : inb (ix0 + (4 : Int32)) 240 = true
  rotate_left
  · rw [if_neg b_5] at h; cases h
  rw [if_pos b_5] at h
  refine va_lald hx hb hK hP k0 0 hk0 rfl (inb_in b_5) d_M_dot_54 ?_
  refine lv_lload_n hx hb d_M_dot_55 rfl (lv_at hl 2 rfl) ?_
  refine lv_lload hx hb d_M_dot_56 (lv_at hl 7 rfl) ?_
  refine lv_lmul hx hb d_M_dot_58 ?_
  refine lv_lload hx hb d_M_dot_59 (lv_at hl 4 rfl) ?_
  refine lv_lload hx hb d_M_dot_61 (lv_at hl 5 rfl) ?_
  refine lv_lmul hx hb d_M_dot_63 ?_
  refine lv_ladd hx hb d_M_dot_64 ?_
  refine lv_lmul hx hb d_M_dot_65 ?_
  refine lv_ladd hx hb d_M_dot_66 ?_
  refine lv_aload_n hx hb d_M_dot_67 rfl (lv_at hl 0 rfl) ?_
  refine lv_iload_n hx hb d_M_dot_68 rfl (lv_at hl 1 rfl) ?_
  refine lv_iconst (v := (5 : Int32)) hx hb d_M_dot_69 (by decide) ?_
  refine lv_iadd hx hb d_M_dot_70 ?_
  by_cases b_6 : inb (ix0 + (5 : Int32)) 240 = true
  rotate_left
  · rw [if_neg b_6] at h; cases h
  rw [if_pos b_6] at h
  refine va_lald hx hb hK hP k0 0 hk0 rfl (inb_in b_6) d_M_dot_71 ?_
  refine lv_lload_n hx hb d_M_dot_72 rfl (lv_at hl 2 rfl) ?_
  refine lv_lload hx hb d_M_dot_73 (lv_at hl 6 rfl) ?_
  refine lv_lmul hx hb d_M_dot_75 ?_
  refine lv_lload hx hb d_M_dot_76 (lv_at hl 3 rfl) ?_
  refine lv_lload hx hb d_M_dot_78 (lv_at hl 5 rfl) ?_
  refine lv_lmul hx hb d_M_dot_80 ?_
  refine lv_ladd hx hb d_M_dot_81 ?_
  refine lv_lmul hx hb d_M_dot_82 ?_
  refine lv_ladd hx hb d_M_dot_83 ?_
  exact W.lret (v := (((((((gf ix0.toNatClampNeg) * px) * qx) + (((gf (ix0 + (1 : Int32)).toNatClampNeg) * py) * qy)) + (((gf (ix0 + (2 : Int32)).toNatClampNeg) * pz) * qz)) + ((gf (ix0 + (3 : Int32)).toNatClampNeg) * ((py * qz) + (pz * qy)))) + ((gf (ix0 + (4 : Int32)).toNatClampNeg) * ((px * qz) + (pz * qx)))) + ((gf (ix0 + (5 : Int32)).toNatClampNeg) * ((px * qy) + (py * qx)))) hx hb hr (fun t ht hW => ⟨(((((((gf ix0.toNatClampNeg) * px) * qx) + (((gf (ix0 + (1 : Int32)).toNatClampNeg) * py) * qy)) + (((gf (ix0 + (2 : Int32)).toNatClampNeg) * pz) * qz)) + ((gf (ix0 + (3 : Int32)).toNatClampNeg) * ((py * qz) + (pz * qy)))) + ((gf (ix0 + (4 : Int32)).toNatClampNeg) * ((px * qz) + (pz * qx)))) + ((gf (ix0 + (5 : Int32)).toNatClampNeg) * ((px * qy) + (py * qx))), rfl, (Option.some.inj h), ht⟩) (fun q h => by cases h) d_M_dot_84
-- CellBenchModel open (I)V
def lp_M_open_5 (ni : Int32) : Nat → Int32 → Int32 → (Nat → Int32) → Option ((Nat → Int32))
  | 0, _, _, _ => none
  | n + 1, vv, kk, am =>
    if kk < 0 then (some am) else (if inb kk 9 = true then (lp_M_open_5 ni n (vv / (3 : Int32)) (kk + (-1 : Int32)) (upd am kk.toNatClampNeg ((vv - vv / (3 : Int32) * (3 : Int32)) - (1 : Int32)))) else none)
def f_M_open (am : Nat → Int32) (ni : Int32) : Option ((Nat → Int32)) :=
    lp_M_open_5 ni 10 ni (8 : Int32) am
def w_M_open : List Cond := .code y_M_open b_M_open 4 none :: GW
abbrev rm_M_open : Room := { frames := 0, cells := 0, slots := 0, locals := 0 }
theorem g_M_open : GoodIn GW w_M_open := gi tm_474
set_option maxHeartbeats 4000000 in
set_option maxRecDepth 100000 in
theorem c_M_open (l : Launch) (D : va_G) (ct : CT) (A : Nat → Prop) (wt : va_W)  (h0 : Nat) (q1 : Nat) (q2 : Nat) (q3 : Nat) (q4 : Nat) (q5 : Nat) (q6 : Nat) (q7 : Nat) (q8 : Nat) (q9 : Nat) (cm : Int32) (stp : Int32) (mus : Int32) (mc_ : Int32) (mb_ : Int32) (am : Nat → Int32) (ni : Int32)   (r0 : (Nat → Int32)) (h : f_M_open am ni = some r0) : Met l y_M_open w_M_open rm_M_open (va_Pc [.ref h0, .int ni] (PreM D ct A ([(h0, .inr (5, [.ref q1, .ref q2, .ref q3, .ref q4, .ref q5, .int cm, .int stp, .ref q6, .ref q7, .ref q8, .int mus, .int mc_, .int mb_, .ref q9])), (q1, .inl (ct.2.2, 9, .inl am))] ++ wt))) (va_Qv (fun u => u = r0) (fun (u : (Nat → Int32)) t => match u with | am' => va_P D classes ([(h0, .inr (5, [.ref q1, .ref q2, .ref q3, .ref q4, .ref q5, .int cm, .int stp, .ref q6, .ref q7, .ref q8, .int mus, .int mc_, .int mb_, .ref q9])), (q1, .inl (ct.2.2, 9, .inl am'))] ++ wt) t.heap ∧ va_D A ([(h0, .inr (5, [.ref q1, .ref q2, .ref q3, .ref q4, .ref q5, .int cm, .int stp, .ref q6, .ref q7, .ref q8, .int mus, .int mc_, .int mb_, .ref q9])), (q1, .inl (ct.2.2, 9, .inl am'))] ++ wt)) A) 0 0 A := by
  refine Met.ofW (cc := b_M_open) (maxL := 4) (ret := none) (by decide) rfl ?_
  intro p e s m args below meth c s₁ B hml hv
  obtain ⟨rfl, hA, hP, hD, hKK⟩ := hv
  have hx := B.exec
  have hb := B.bytes
  have hr := B.returns
  have htg := ht_tl (atoms_spec (ws := w_M_open) B.pre)
  have hown : s.vm.findClass R_Model = some m.cls := findClass_of_methodNamed B.named
  have hlocks := B.notSynchronized
  have hK := hKK.1
  have hN := hKK.2.1
  have hO := hKK.2.2
  have hS : va_S A s.heap s.heap [] := va_S.rf
  have hl := lv_entry ([.ref h0, .int ni]) (n := 4) (Nat.le_of_ble_eq_true rfl)
  rw [lg_entry_eq]
  generalize (lg_sl ([.ref h0, .int ni]) ++ List.replicate (4 - (lg_sl ([.ref h0, .int ni])).length) Slot.unset).toArray = ls at hl ⊢
  have hl : lv_has ls 4 [(0, .ref h0), (1, .int ni)] := hl
  unfold f_M_open at h
  refine lv_iload_n hx hb d_M_open_0 rfl (lv_at hl 1 rfl) ?_
  refine lv_istore_n (lv' := [(2, .int ni), (0, .ref h0), (1, .int ni)]) hx hb d_M_open_1 rfl hl (by decide) rfl (fun ls hl => ?_)
  refine lv_bipush (v := (8 : Int32)) hx hb d_M_open_2 (by decide) ?_
  refine lv_istore_n (lv' := [(3, .int (8 : Int32)), (2, .int ni), (0, .ref h0), (1, .int ni)]) hx hb d_M_open_4 rfl hl (by decide) rfl (fun ls hl => ?_)
  have L_5 : ∀ (n : Nat) (vv : Int32) (kk : Int32) (am : Nat → Int32) , lp_M_open_5 ni n vv kk am = some r0 → ∀ (H : Heap) (locs : List Loc), va_P D classes ([(h0, .inr (5, [.ref q1, .ref q2, .ref q3, .ref q4, .ref q5, .int cm, .int stp, .ref q6, .ref q7, .ref q8, .int mus, .int mc_, .int mb_, .ref q9])), (q1, .inl (ct.2.2, 9, .inl am))] ++ wt) H → va_D A ([(h0, .inr (5, [.ref q1, .ref q2, .ref q3, .ref q4, .ref q5, .int cm, .int stp, .ref q6, .ref q7, .ref q8, .int mus, .int mc_, .int mb_, .ref q9])), (q1, .inl (ct.2.2, 9, .inl am))] ++ wt) → va_S A s.heap H locs → ∀ (ls : Array Slot), lv_has ls 4 [(2, .int vv), (3, .int kk), (0, .ref h0), (1, .int ni)] → W p l e (headSpec w_M_open rm_M_open).room s m ([.ref h0, .int ni] : List Value).toArray below meth c H locs 0 0 (MQ below (va_Qv (fun u => u = r0) (fun (u : (Nat → Int32)) t => match u with | am' => va_P D classes ([(h0, .inr (5, [.ref q1, .ref q2, .ref q3, .ref q4, .ref q5, .int cm, .int stp, .ref q6, .ref q7, .ref q8, .int mus, .int mc_, .int mb_, .ref q9])), (q1, .inl (ct.2.2, 9, .inl am'))] ++ wt) t.heap ∧ va_D A ([(h0, .inr (5, [.ref q1, .ref q2, .ref q3, .ref q4, .ref q5, .int cm, .int stp, .ref q6, .ref q7, .ref q8, .int mus, .int mc_, .int mb_, .ref q9])), (q1, .inl (ct.2.2, 9, .inl am'))] ++ wt)) A) ([.ref h0, .int ni] : List Value).toArray s 0 0 A) (F0 m 5 ls []) := by
    intro n
    induction n with
    | zero =>
      intro vv kk am  h
      rw [lp_M_open_5] at h
      cases h
    | succ n ih =>
      intro vv kk am  h H locs hP hD hS ls hl
      rw [lp_M_open_5] at h
      refine lv_iload_n hx hb d_M_open_5 rfl (lv_at hl 1 rfl) ?_
      refine lv_if_lt (tgt := 30) hx hb d_M_open_6 (by decide) (fun c_1 => ?_) (fun c_1 => ?_)
      · rw [if_pos c_1] at h
        exact W.vret hx hb hr (fun t ht hW => ⟨⟨am, rfl, (Option.some.inj h), by rw [ht]; exact hP, hD⟩, hS.F ht⟩) hS.2.2 d_M_open_30
      · rw [if_neg c_1] at h
        refine lv_aload_n hx hb d_M_open_9 rfl (lv_at hl 2 rfl) ?_
        refine va_get (D := D) (ci := 5) (v := .ref q1) (C := R_Model) (T := F_Model) (N := 14) hx hb htg i_Model hown hK hP 0 rfl rfl 0 (by decide) (htg _ tm_398) (fun _ h9 => h9) rfl d_M_open_10 ?_
        refine lv_iload_n hx hb d_M_open_13 rfl (lv_at hl 1 rfl) ?_
        refine lv_iload_n hx hb d_M_open_14 rfl (lv_at hl 0 rfl) ?_
        refine lv_iconst (v := (3 : Int32)) hx hb d_M_open_15 (by decide) ?_
        refine lv_irem hx hb d_M_open_16 (by decide) ?_
        refine lv_iconst (v := (1 : Int32)) hx hb d_M_open_17 (by decide) ?_
        refine lv_isub hx hb d_M_open_18 ?_
        by_cases b_2 : inb kk 9 = true
        rotate_left
        · rw [if_neg b_2] at h; cases h
        rw [if_pos b_2] at h
        refine va_iast hx hb hK hP hD hS 1 2 rfl rfl (inb_in b_2) d_M_open_19 (fun H locs hP hD hS => ?_)
        have hP : va_P D classes ([(h0, .inr (5, [.ref q1, .ref q2, .ref q3, .ref q4, .ref q5, .int cm, .int stp, .ref q6, .ref q7, .ref q8, .int mus, .int mc_, .int mb_, .ref q9])), (q1, .inl (ct.2.2, 9, .inl (upd am kk.toNatClampNeg ((vv - vv / (3 : Int32) * (3 : Int32)) - (1 : Int32)))))] ++ wt) H := hP
        have hD : va_D A ([(h0, .inr (5, [.ref q1, .ref q2, .ref q3, .ref q4, .ref q5, .int cm, .int stp, .ref q6, .ref q7, .ref q8, .int mus, .int mc_, .int mb_, .ref q9])), (q1, .inl (ct.2.2, 9, .inl (upd am kk.toNatClampNeg ((vv - vv / (3 : Int32) * (3 : Int32)) - (1 : Int32)))))] ++ wt) := hD
        refine lv_iload_n hx hb d_M_open_20 rfl (lv_at hl 0 rfl) ?_
        refine lv_iconst (v := (3 : Int32)) hx hb d_M_open_21 (by decide) ?_
        refine lv_idiv hx hb d_M_open_22 (by decide) ?_
        refine lv_istore_n (lv' := [(2, .int (vv / (3 : Int32))), (3, .int kk), (0, .ref h0), (1, .int ni)]) hx hb d_M_open_23 rfl hl (by decide) rfl (fun ls hl => ?_)
        refine lv_iinc (v := kk + (-1 : Int32)) (lv' := [(3, .int (kk + (-1 : Int32))), (2, .int (vv / (3 : Int32))), (0, .ref h0), (1, .int ni)]) hx hb d_M_open_24 hl (k := 1) rfl rfl (by decide) rfl (fun ls hl => ?_)
        refine lv_goto (tgt := 5) hx hb d_M_open_27 (by decide) ?_
        exact ih (vv / (3 : Int32)) (kk + (-1 : Int32)) (upd am kk.toNatClampNeg ((vv - vv / (3 : Int32) * (3 : Int32)) - (1 : Int32))) h H locs hP hD hS ls (lv_sub hl [1, 0, 2, 3] rfl)
  exact L_5 10 ni (8 : Int32) am h _ _ hP hD hS ls (lv_sub hl [1, 0, 2, 3] rfl)
-- CellBenchModel isCell (I)Z
def f_M_isCell (cm : Int32) (cl : Int32) : Int32 :=
    if cl < 0 then (0 : Int32) else (if cm ≤ cl then (0 : Int32) else (1 : Int32))
def w_M_isCell : List Cond := .code y_M_isCell b_M_isCell 2 (some .boolean) :: GW
abbrev rm_M_isCell : Room := { frames := 0, cells := 0, slots := 0, locals := 0 }
theorem g_M_isCell : GoodIn GW w_M_isCell := gi tm_489
set_option maxHeartbeats 4000000 in
set_option maxRecDepth 100000 in
theorem c_M_isCell (l : Launch) (D : va_G) (ct : CT) (ws : va_W) (k0 : Nat) (h0 : Nat) (q1 : Nat) (q2 : Nat) (q3 : Nat) (q4 : Nat) (q5 : Nat) (q6 : Nat) (q7 : Nat) (q8 : Nat) (q9 : Nat) (cm : Int32) (stp : Int32) (mus : Int32) (mc_ : Int32) (mb_ : Int32) (cl : Int32) (hk0 : ws[k0]? = some (h0, .inr (5, [.ref q1, .ref q2, .ref q3, .ref q4, .ref q5, .int cm, .int stp, .ref q6, .ref q7, .ref q8, .int mus, .int mc_, .int mb_, .ref q9])))  (r0 : Int32) (h : f_M_isCell cm cl = r0) : Met l y_M_isCell w_M_isCell rm_M_isCell (va_Pc [.ref h0, .int cl] (PreP D ct ws)) (vp_Si (fun r => r = r0)) 0 0 (fun _ => False) := by
  refine Met.ofW (cc := b_M_isCell) (maxL := 2) (ret := (some .boolean)) (by decide) rfl ?_
  intro p e s m args below meth c s₁ B hml hv
  obtain ⟨rfl, hP, hKK⟩ := hv
  have hx := B.exec
  have hb := B.bytes
  have hr := B.returns
  have htg := ht_tl (atoms_spec (ws := w_M_isCell) B.pre)
  have hown : s.vm.findClass R_Model = some m.cls := findClass_of_methodNamed B.named
  have hlocks := B.notSynchronized
  have hK := hKK.1
  have hN := hKK.2.1
  have hO := hKK.2.2
  have hl := lv_entry ([.ref h0, .int cl]) (n := 2) (Nat.le_of_ble_eq_true rfl)
  rw [lg_entry_eq]
  generalize (lg_sl ([.ref h0, .int cl]) ++ List.replicate (2 - (lg_sl ([.ref h0, .int cl])).length) Slot.unset).toArray = ls at hl ⊢
  have hl : lv_has ls 2 [(0, .ref h0), (1, .int cl)] := hl
  unfold f_M_isCell at h
  refine lv_iload_n hx hb d_M_isCell_0 rfl (lv_at hl 1 rfl) ?_
  refine lv_if_lt (tgt := 16) hx hb d_M_isCell_1 (by decide) (fun c_1 => ?_) (fun c_1 => ?_)
  · rw [if_pos c_1] at h
    refine lv_iconst (v := (0 : Int32)) hx hb d_M_isCell_16 (by decide) ?_
    exact W.zret (v := (0 : Int32)) (ty := .boolean) hx hb hr rfl (fun t ht hW => ⟨(0 : Int32), rfl, h, ht⟩) (fun q h => by cases h) d_M_isCell_17
  · rw [if_neg c_1] at h
    refine lv_iload_n hx hb d_M_isCell_4 rfl (lv_at hl 1 rfl) ?_
    refine lv_aload_n hx hb d_M_isCell_5 rfl (lv_at hl 0 rfl) ?_
    refine va_get (D := D) (ci := 5) (v := .int cm) (C := R_Model) (T := F_Model) (N := 14) hx hb htg i_Model hown hK hP k0 hk0 rfl 5 (by decide) (htg _ tm_403) (fun _ h9 => h9) rfl d_M_isCell_6 ?_
    refine lv_icmp_ge (tgt := 16) hx hb d_M_isCell_9 (by decide) (fun c_2 => ?_) (fun c_2 => ?_)
    · rw [if_pos c_2] at h
      refine lv_iconst (v := (0 : Int32)) hx hb d_M_isCell_16 (by decide) ?_
      exact W.zret (v := (0 : Int32)) (ty := .boolean) hx hb hr rfl (fun t ht hW => ⟨(0 : Int32), rfl, h, ht⟩) (fun q h => by cases h) d_M_isCell_17
    · rw [if_neg c_2] at h
      refine lv_iconst (v := (1 : Int32)) hx hb d_M_isCell_12 (by decide) ?_
      refine lv_goto (tgt := 17) hx hb d_M_isCell_13 (by decide) ?_
      exact W.zret (v := (1 : Int32)) (ty := .boolean) hx hb hr rfl (fun t ht hW => ⟨(1 : Int32), rfl, h, ht⟩) (fun q h => by cases h) d_M_isCell_17
-- CellBenchModel isMultiple (II)Z
def f_M_isMul (cm : Int32) (cl : Int32) (nn : Int32) : Int32 :=
    if (f_M_isCell cm cl) = 0 then (0 : Int32) else (if nn < (1 : Int32) then (0 : Int32) else (if (12 : Int32) < nn then (0 : Int32) else (1 : Int32)))
def w_M_isMul : List Cond := .code y_M_isMul b_M_isMul 3 (some .boolean) :: GW
abbrev rm_M_isMul : Room := { frames := 1, cells := 0, slots := 0, locals := 21 }
theorem g_M_isMul : GoodIn GW w_M_isMul := gi tm_509
set_option maxHeartbeats 4000000 in
set_option maxRecDepth 100000 in
theorem c_M_isMul (l : Launch) (D : va_G) (ct : CT) (ws : va_W) (k0 : Nat) (h0 : Nat) (q1 : Nat) (q2 : Nat) (q3 : Nat) (q4 : Nat) (q5 : Nat) (q6 : Nat) (q7 : Nat) (q8 : Nat) (q9 : Nat) (cm : Int32) (stp : Int32) (mus : Int32) (mc_ : Int32) (mb_ : Int32) (cl : Int32) (nn : Int32) (hk0 : ws[k0]? = some (h0, .inr (5, [.ref q1, .ref q2, .ref q3, .ref q4, .ref q5, .int cm, .int stp, .ref q6, .ref q7, .ref q8, .int mus, .int mc_, .int mb_, .ref q9])))  (r0 : Int32) (h : f_M_isMul cm cl nn = r0) : Met l y_M_isMul w_M_isMul rm_M_isMul (va_Pc [.ref h0, .int cl, .int nn] (PreP D ct ws)) (vp_Si (fun r => r = r0)) 0 0 (fun _ => False) := by
  refine Met.ofW (cc := b_M_isMul) (maxL := 3) (ret := (some .boolean)) (by decide) rfl ?_
  intro p e s m args below meth c s₁ B hml hv
  obtain ⟨rfl, hP, hKK⟩ := hv
  have hx := B.exec
  have hb := B.bytes
  have hr := B.returns
  have htg := ht_tl (atoms_spec (ws := w_M_isMul) B.pre)
  have hown : s.vm.findClass R_Model = some m.cls := findClass_of_methodNamed B.named
  have hlocks := B.notSynchronized
  have hK := hKK.1
  have hN := hKK.2.1
  have hO := hKK.2.2
  have hl := lv_entry ([.ref h0, .int cl, .int nn]) (n := 3) (Nat.le_of_ble_eq_true rfl)
  rw [lg_entry_eq]
  generalize (lg_sl ([.ref h0, .int cl, .int nn]) ++ List.replicate (3 - (lg_sl ([.ref h0, .int cl, .int nn])).length) Slot.unset).toArray = ls at hl ⊢
  have hl : lv_has ls 3 [(0, .ref h0), (1, .int cl), (2, .int nn)] := hl
  unfold f_M_isMul at h
  refine lv_aload_n hx hb d_M_isMul_0 rfl (lv_at hl 0 rfl) ?_
  refine lv_iload_n hx hb d_M_isMul_1 rfl (lv_at hl 1 rfl) ?_
  refine vp_callSi (va_Run.run (va_runV (As := [.int cl]) (rest := []) ⟨hx, hb, hml, hown, htg⟩ (c_M_isCell l D ct ws k0 h0 q1 q2 q3 q4 q5 q6 q7 q8 q9 cm stp mus mc_ mb_ cl hk0  _ rfl) (cwV 1 htg (giV tm_486 tm_488 tm_24 tm_34 g_M_isCell) rfl rfl rfl (by decide +kernel) ⟨Nat.le_of_ble_eq_true rfl, Nat.le_of_ble_eq_true rfl⟩) (preV hP hKK (va_recv hK hP (ci := 5) (q0 := k0) rfl hk0)) rfl rfl hl.1 rfl (lv_room (Nat.le_of_ble_eq_true rfl)) d_M_isMul_2 ⟨Nat.le_of_ble_eq_true rfl, Nat.le_of_ble_eq_true rfl⟩)) (fun r9 hr9 => ?_)
  have hr9 := hr9.symm
  subst hr9
  refine lv_if_eq (tgt := 23) hx hb d_M_isMul_5 (by decide) (fun c_1 => ?_) (fun c_1 => ?_)
  · rw [if_pos c_1] at h
    refine lv_iconst (v := (0 : Int32)) hx hb d_M_isMul_23 (by decide) ?_
    exact W.zret (v := (0 : Int32)) (ty := .boolean) hx hb hr rfl (fun t ht hW => ⟨(0 : Int32), rfl, h, ht⟩) (fun q h => by cases h) d_M_isMul_24
  · rw [if_neg c_1] at h
    refine lv_iload_n hx hb d_M_isMul_8 rfl (lv_at hl 2 rfl) ?_
    refine lv_iconst (v := (1 : Int32)) hx hb d_M_isMul_9 (by decide) ?_
    refine lv_icmp_lt (tgt := 23) hx hb d_M_isMul_10 (by decide) (fun c_2 => ?_) (fun c_2 => ?_)
    · rw [if_pos c_2] at h
      refine lv_iconst (v := (0 : Int32)) hx hb d_M_isMul_23 (by decide) ?_
      exact W.zret (v := (0 : Int32)) (ty := .boolean) hx hb hr rfl (fun t ht hW => ⟨(0 : Int32), rfl, h, ht⟩) (fun q h => by cases h) d_M_isMul_24
    · rw [if_neg c_2] at h
      refine lv_iload_n hx hb d_M_isMul_13 rfl (lv_at hl 2 rfl) ?_
      refine lv_bipush (v := (12 : Int32)) hx hb d_M_isMul_14 (by decide) ?_
      refine lv_icmp_gt (tgt := 23) hx hb d_M_isMul_16 (by decide) (fun c_3 => ?_) (fun c_3 => ?_)
      · rw [if_pos c_3] at h
        refine lv_iconst (v := (0 : Int32)) hx hb d_M_isMul_23 (by decide) ?_
        exact W.zret (v := (0 : Int32)) (ty := .boolean) hx hb hr rfl (fun t ht hW => ⟨(0 : Int32), rfl, h, ht⟩) (fun q h => by cases h) d_M_isMul_24
      · rw [if_neg c_3] at h
        refine lv_iconst (v := (1 : Int32)) hx hb d_M_isMul_19 (by decide) ?_
        refine lv_goto (tgt := 24) hx hb d_M_isMul_20 (by decide) ?_
        exact W.zret (v := (1 : Int32)) (ty := .boolean) hx hb hr rfl (fun t ht hW => ⟨(1 : Int32), rfl, h, ht⟩) (fun q h => by cases h) d_M_isMul_24
-- CellBenchModel keepsSix ([JI)Z
def f_M_keeps6 (am : Nat → Int32) (gf : Nat → Int64) (ix0 : Int32) : Option (Int32) :=
    Option.bind (f_M_dot gf ix0 ((am (0 : Int32).toNatClampNeg).toInt64) ((am (3 : Int32).toNatClampNeg).toInt64) ((am (6 : Int32).toNatClampNeg).toInt64) ((am (0 : Int32).toNatClampNeg).toInt64) ((am (3 : Int32).toNatClampNeg).toInt64) ((am (6 : Int32).toNatClampNeg).toInt64)) (fun z_30 => (if inb ix0 240 = true then (if (lg_cmp z_30 (gf ix0.toNatClampNeg)) = 0 then (Option.bind (f_M_dot gf ix0 ((am (1 : Int32).toNatClampNeg).toInt64) ((am (4 : Int32).toNatClampNeg).toInt64) ((am (7 : Int32).toNatClampNeg).toInt64) ((am (1 : Int32).toNatClampNeg).toInt64) ((am (4 : Int32).toNatClampNeg).toInt64) ((am (7 : Int32).toNatClampNeg).toInt64)) (fun z_29 => (if inb (ix0 + (1 : Int32)) 240 = true then (if (lg_cmp z_29 (gf (ix0 + (1 : Int32)).toNatClampNeg)) = 0 then (Option.bind (f_M_dot gf ix0 ((am (2 : Int32).toNatClampNeg).toInt64) ((am (5 : Int32).toNatClampNeg).toInt64) ((am (8 : Int32).toNatClampNeg).toInt64) ((am (2 : Int32).toNatClampNeg).toInt64) ((am (5 : Int32).toNatClampNeg).toInt64) ((am (8 : Int32).toNatClampNeg).toInt64)) (fun z_28 => (if inb (ix0 + (2 : Int32)) 240 = true then (if (lg_cmp z_28 (gf (ix0 + (2 : Int32)).toNatClampNeg)) = 0 then (Option.bind (f_M_dot gf ix0 ((am (1 : Int32).toNatClampNeg).toInt64) ((am (4 : Int32).toNatClampNeg).toInt64) ((am (7 : Int32).toNatClampNeg).toInt64) ((am (2 : Int32).toNatClampNeg).toInt64) ((am (5 : Int32).toNatClampNeg).toInt64) ((am (8 : Int32).toNatClampNeg).toInt64)) (fun z_27 => (if inb (ix0 + (3 : Int32)) 240 = true then (if (lg_cmp z_27 (gf (ix0 + (3 : Int32)).toNatClampNeg)) = 0 then (Option.bind (f_M_dot gf ix0 ((am (0 : Int32).toNatClampNeg).toInt64) ((am (3 : Int32).toNatClampNeg).toInt64) ((am (6 : Int32).toNatClampNeg).toInt64) ((am (2 : Int32).toNatClampNeg).toInt64) ((am (5 : Int32).toNatClampNeg).toInt64) ((am (8 : Int32).toNatClampNeg).toInt64)) (fun z_26 => (if inb (ix0 + (4 : Int32)) 240 = true then (if (lg_cmp z_26 (gf (ix0 + (4 : Int32)).toNatClampNeg)) = 0 then (Option.bind (f_M_dot gf ix0 ((am (0 : Int32).toNatClampNeg).toInt64) ((am (3 : Int32).toNatClampNeg).toInt64) ((am (6 : Int32).toNatClampNeg).toInt64) ((am (1 : Int32).toNatClampNeg).toInt64) ((am (4 : Int32).toNatClampNeg).toInt64) ((am (7 : Int32).toNatClampNeg).toInt64)) (fun z_25 => (if inb (ix0 + (5 : Int32)) 240 = true then (if (lg_cmp z_25 (gf (ix0 + (5 : Int32)).toNatClampNeg)) = 0 then (some (1 : Int32)) else (some (0 : Int32))) else none))) else (some (0 : Int32))) else none))) else (some (0 : Int32))) else none))) else (some (0 : Int32))) else none))) else (some (0 : Int32))) else none))) else (some (0 : Int32))) else none))
def w_M_keeps6 : List Cond := .code y_M_keeps6 b_M_keeps6 3 (some .boolean) :: GW
abbrev rm_M_keeps6 : Room := { frames := 1, cells := 0, slots := 0, locals := 33 }
theorem g_M_keeps6 : GoodIn GW w_M_keeps6 := gi tm_478
set_option maxHeartbeats 4000000 in
set_option maxRecDepth 100000 in
theorem c_M_keeps6 (l : Launch) (D : va_G) (ct : CT) (ws : va_W) (k0 : Nat) (k1 : Nat) (k2 : Nat) (h0 : Nat) (q1 : Nat) (q2 : Nat) (q3 : Nat) (q4 : Nat) (q5 : Nat) (q6 : Nat) (q7 : Nat) (q8 : Nat) (q9 : Nat) (cm : Int32) (stp : Int32) (mus : Int32) (mc_ : Int32) (mb_ : Int32) (am : Nat → Int32) (g1 : Nat) (gf : Nat → Int64) (ix0 : Int32) (hk0 : ws[k0]? = some (h0, .inr (5, [.ref q1, .ref q2, .ref q3, .ref q4, .ref q5, .int cm, .int stp, .ref q6, .ref q7, .ref q8, .int mus, .int mc_, .int mb_, .ref q9]))) (hk1 : ws[k1]? = some (q1, .inl (ct.2.2, 9, .inl am))) (hk2 : ws[k2]? = some (g1, .inl (ct.1, 240, .inr (.inl gf))))  (r0 : Int32) (h : f_M_keeps6 am gf ix0 = some r0) : Met l y_M_keeps6 w_M_keeps6 rm_M_keeps6 (va_Pc [.ref h0, .ref g1, .int ix0] (PreP D ct ws)) (vp_Si (fun r => r = r0 ∧ (r0 = 0 ∨ r0 = 1))) 0 0 (fun _ => False) := by
  refine Met.ofW (cc := b_M_keeps6) (maxL := 3) (ret := (some .boolean)) (by decide) rfl ?_
  intro p e s m args below meth c s₁ B hml hv
  obtain ⟨rfl, hP, hKK⟩ := hv
  have hx := B.exec
  have hb := B.bytes
  have hr := B.returns
  have htg := ht_tl (atoms_spec (ws := w_M_keeps6) B.pre)
  have hown : s.vm.findClass R_Model = some m.cls := findClass_of_methodNamed B.named
  have hlocks := B.notSynchronized
  have hK := hKK.1
  have hN := hKK.2.1
  have hO := hKK.2.2
  have hl := lv_entry ([.ref h0, .ref g1, .int ix0]) (n := 3) (Nat.le_of_ble_eq_true rfl)
  rw [lg_entry_eq]
  generalize (lg_sl ([.ref h0, .ref g1, .int ix0]) ++ List.replicate (3 - (lg_sl ([.ref h0, .ref g1, .int ix0])).length) Slot.unset).toArray = ls at hl ⊢
  have hl : lv_has ls 3 [(0, .ref h0), (1, .ref g1), (2, .int ix0)] := hl
  unfold f_M_keeps6 at h
  refine lv_aload_n hx hb d_M_keeps6_0 rfl (lv_at hl 1 rfl) ?_
  refine lv_iload_n hx hb d_M_keeps6_1 rfl (lv_at hl 2 rfl) ?_
  refine lv_aload_n hx hb d_M_keeps6_2 rfl (lv_at hl 0 rfl) ?_
  refine va_get (D := D) (ci := 5) (v := .ref q1) (C := R_Model) (T := F_Model) (N := 14) hx hb htg i_Model hown hK hP k0 hk0 rfl 0 (by decide) (htg _ tm_398) (fun _ h9 => h9) rfl d_M_keeps6_3 ?_
  refine lv_iconst (v := (0 : Int32)) hx hb d_M_keeps6_6 (by decide) ?_
  refine va_iald hx hb hK hP k1 2 hk1 rfl (i := (0 : Int32)) (inb_in ix_0_9) d_M_keeps6_7 ?_
  refine lv_i2l hx hb d_M_keeps6_8 rfl ?_
  refine lv_aload_n hx hb d_M_keeps6_9 rfl (lv_at hl 0 rfl) ?_
  refine va_get (D := D) (ci := 5) (v := .ref q1) (C := R_Model) (T := F_Model) (N := 14) hx hb htg i_Model hown hK hP k0 hk0 rfl 0 (by decide) (htg _ tm_398) (fun _ h9 => h9) rfl d_M_keeps6_10 ?_
  refine lv_iconst (v := (3 : Int32)) hx hb d_M_keeps6_13 (by decide) ?_
  refine va_iald hx hb hK hP k1 2 hk1 rfl (i := (3 : Int32)) (inb_in ix_3_9) d_M_keeps6_14 ?_
  refine lv_i2l hx hb d_M_keeps6_15 rfl ?_
  refine lv_aload_n hx hb d_M_keeps6_16 rfl (lv_at hl 0 rfl) ?_
  refine va_get (D := D) (ci := 5) (v := .ref q1) (C := R_Model) (T := F_Model) (N := 14) hx hb htg i_Model hown hK hP k0 hk0 rfl 0 (by decide) (htg _ tm_398) (fun _ h9 => h9) rfl d_M_keeps6_17 ?_
  refine lv_bipush (v := (6 : Int32)) hx hb d_M_keeps6_20 (by decide) ?_
  refine va_iald hx hb hK hP k1 2 hk1 rfl (i := (6 : Int32)) (inb_in ix_6_9) d_M_keeps6_22 ?_
  refine lv_i2l hx hb d_M_keeps6_23 rfl ?_
  refine lv_aload_n hx hb d_M_keeps6_24 rfl (lv_at hl 0 rfl) ?_
  refine va_get (D := D) (ci := 5) (v := .ref q1) (C := R_Model) (T := F_Model) (N := 14) hx hb htg i_Model hown hK hP k0 hk0 rfl 0 (by decide) (htg _ tm_398) (fun _ h9 => h9) rfl d_M_keeps6_25 ?_
  refine lv_iconst (v := (0 : Int32)) hx hb d_M_keeps6_28 (by decide) ?_
  refine va_iald hx hb hK hP k1 2 hk1 rfl (i := (0 : Int32)) (inb_in ix_0_9) d_M_keeps6_29 ?_
  refine lv_i2l hx hb d_M_keeps6_30 rfl ?_
  refine lv_aload_n hx hb d_M_keeps6_31 rfl (lv_at hl 0 rfl) ?_
  refine va_get (D := D) (ci := 5) (v := .ref q1) (C := R_Model) (T := F_Model) (N := 14) hx hb htg i_Model hown hK hP k0 hk0 rfl 0 (by decide) (htg _ tm_398) (fun _ h9 => h9) rfl d_M_keeps6_32 ?_
  refine lv_iconst (v := (3 : Int32)) hx hb d_M_keeps6_35 (by decide) ?_
  refine va_iald hx hb hK hP k1 2 hk1 rfl (i := (3 : Int32)) (inb_in ix_3_9) d_M_keeps6_36 ?_
  refine lv_i2l hx hb d_M_keeps6_37 rfl ?_
  refine lv_aload_n hx hb d_M_keeps6_38 rfl (lv_at hl 0 rfl) ?_
  refine va_get (D := D) (ci := 5) (v := .ref q1) (C := R_Model) (T := F_Model) (N := 14) hx hb htg i_Model hown hK hP k0 hk0 rfl 0 (by decide) (htg _ tm_398) (fun _ h9 => h9) rfl d_M_keeps6_39 ?_
  refine lv_bipush (v := (6 : Int32)) hx hb d_M_keeps6_42 (by decide) ?_
  refine va_iald hx hb hK hP k1 2 hk1 rfl (i := (6 : Int32)) (inb_in ix_6_9) d_M_keeps6_44 ?_
  refine lv_i2l hx hb d_M_keeps6_45 rfl ?_
  rcases e_1 : f_M_dot gf ix0 ((am (0 : Int32).toNatClampNeg).toInt64) ((am (3 : Int32).toNatClampNeg).toInt64) ((am (6 : Int32).toNatClampNeg).toInt64) ((am (0 : Int32).toNatClampNeg).toInt64) ((am (3 : Int32).toNatClampNeg).toInt64) ((am (6 : Int32).toNatClampNeg).toInt64) with _ | v_2
  · rw [e_1] at h; cases h
  rw [e_1, Option.bind_some] at h
  try dsimp only at h
  refine vp_callSl (va_Run.run (va_runS (As := [.ref g1, .int ix0, .long ((am (0 : Int32).toNatClampNeg).toInt64), .long ((am (3 : Int32).toNatClampNeg).toInt64), .long ((am (6 : Int32).toNatClampNeg).toInt64), .long ((am (0 : Int32).toNatClampNeg).toInt64), .long ((am (3 : Int32).toNatClampNeg).toInt64), .long ((am (6 : Int32).toNatClampNeg).toInt64)]) (rest := []) ⟨hx, hb, hml, hown, htg⟩ (c_M_dot l D ct ws k2 g1 gf ix0 ((am (0 : Int32).toNatClampNeg).toInt64) ((am (3 : Int32).toNatClampNeg).toInt64) ((am (6 : Int32).toNatClampNeg).toInt64) ((am (0 : Int32).toNatClampNeg).toInt64) ((am (3 : Int32).toNatClampNeg).toInt64) ((am (6 : Int32).toNatClampNeg).toInt64) hk2  _ e_1) (cwS 8 htg (giS tm_479 tm_480 tm_34 g_M_dot) rfl rfl rfl (by decide +kernel) ⟨Nat.le_of_ble_eq_true rfl, Nat.le_of_ble_eq_true rfl⟩) (preS hP hKK) rfl rfl hl.1 rfl (lv_room (Nat.le_of_ble_eq_true rfl)) d_M_keeps6_46 ⟨Nat.le_of_ble_eq_true rfl, Nat.le_of_ble_eq_true rfl⟩)) (fun r9 hr9 => ?_)
  have hr9 := hr9.symm
  subst hr9
  refine lv_aload_n hx hb d_M_keeps6_49 rfl (lv_at hl 1 rfl) ?_
  refine lv_iload_n hx hb d_M_keeps6_50 rfl (lv_at hl 2 rfl) ?_
  by_cases b_3 : inb ix0 240 = true
  rotate_left
  · rw [if_neg b_3] at h; cases h
  rw [if_pos b_3] at h
  refine va_lald hx hb hK hP k2 0 hk2 rfl (inb_in b_3) d_M_keeps6_51 ?_
  refine W.lcmp hx hb d_M_keeps6_52 ?_
  refine lv_if_ne (tgt := 350) hx hb d_M_keeps6_53 (by decide) (fun c_4 => ?_) (fun c_4 => ?_)
  · rw [if_neg c_4] at h
    refine lv_iconst (v := (0 : Int32)) hx hb d_M_keeps6_350 (by decide) ?_
    exact W.zret (v := (0 : Int32)) (ty := .boolean) hx hb hr rfl (fun t ht hW => ⟨(0 : Int32), rfl, ⟨(Option.some.inj h), Or.inl (Option.some.inj h).symm⟩, ht⟩) (fun q h => by cases h) d_M_keeps6_351
  · rw [if_pos c_4] at h
    refine lv_aload_n hx hb d_M_keeps6_56 rfl (lv_at hl 1 rfl) ?_
    refine lv_iload_n hx hb d_M_keeps6_57 rfl (lv_at hl 2 rfl) ?_
    refine lv_aload_n hx hb d_M_keeps6_58 rfl (lv_at hl 0 rfl) ?_
    refine va_get (D := D) (ci := 5) (v := .ref q1) (C := R_Model) (T := F_Model) (N := 14) hx hb htg i_Model hown hK hP k0 hk0 rfl 0 (by decide) (htg _ tm_398) (fun _ h9 => h9) rfl d_M_keeps6_59 ?_
    refine lv_iconst (v := (1 : Int32)) hx hb d_M_keeps6_62 (by decide) ?_
    refine va_iald hx hb hK hP k1 2 hk1 rfl (i := (1 : Int32)) (inb_in ix_1_9) d_M_keeps6_63 ?_
    refine lv_i2l hx hb d_M_keeps6_64 rfl ?_
    refine lv_aload_n hx hb d_M_keeps6_65 rfl (lv_at hl 0 rfl) ?_
    refine va_get (D := D) (ci := 5) (v := .ref q1) (C := R_Model) (T := F_Model) (N := 14) hx hb htg i_Model hown hK hP k0 hk0 rfl 0 (by decide) (htg _ tm_398) (fun _ h9 => h9) rfl d_M_keeps6_66 ?_
    refine lv_iconst (v := (4 : Int32)) hx hb d_M_keeps6_69 (by decide) ?_
    refine va_iald hx hb hK hP k1 2 hk1 rfl (i := (4 : Int32)) (inb_in ix_4_9) d_M_keeps6_70 ?_
    refine lv_i2l hx hb d_M_keeps6_71 rfl ?_
    refine lv_aload_n hx hb d_M_keeps6_72 rfl (lv_at hl 0 rfl) ?_
    refine va_get (D := D) (ci := 5) (v := .ref q1) (C := R_Model) (T := F_Model) (N := 14) hx hb htg i_Model hown hK hP k0 hk0 rfl 0 (by decide) (htg _ tm_398) (fun _ h9 => h9) rfl d_M_keeps6_73 ?_
    refine lv_bipush (v := (7 : Int32)) hx hb d_M_keeps6_76 (by decide) ?_
    refine va_iald hx hb hK hP k1 2 hk1 rfl (i := (7 : Int32)) (inb_in ix_7_9) d_M_keeps6_78 ?_
    refine lv_i2l hx hb d_M_keeps6_79 rfl ?_
    refine lv_aload_n hx hb d_M_keeps6_80 rfl (lv_at hl 0 rfl) ?_
    refine va_get (D := D) (ci := 5) (v := .ref q1) (C := R_Model) (T := F_Model) (N := 14) hx hb htg i_Model hown hK hP k0 hk0 rfl 0 (by decide) (htg _ tm_398) (fun _ h9 => h9) rfl d_M_keeps6_81 ?_
    refine lv_iconst (v := (1 : Int32)) hx hb d_M_keeps6_84 (by decide) ?_
    refine va_iald hx hb hK hP k1 2 hk1 rfl (i := (1 : Int32)) (inb_in ix_1_9) d_M_keeps6_85 ?_
    refine lv_i2l hx hb d_M_keeps6_86 rfl ?_
    refine lv_aload_n hx hb d_M_keeps6_87 rfl (lv_at hl 0 rfl) ?_
    refine va_get (D := D) (ci := 5) (v := .ref q1) (C := R_Model) (T := F_Model) (N := 14) hx hb htg i_Model hown hK hP k0 hk0 rfl 0 (by decide) (htg _ tm_398) (fun _ h9 => h9) rfl d_M_keeps6_88 ?_
    refine lv_iconst (v := (4 : Int32)) hx hb d_M_keeps6_91 (by decide) ?_
    refine va_iald hx hb hK hP k1 2 hk1 rfl (i := (4 : Int32)) (inb_in ix_4_9) d_M_keeps6_92 ?_
    refine lv_i2l hx hb d_M_keeps6_93 rfl ?_
    refine lv_aload_n hx hb d_M_keeps6_94 rfl (lv_at hl 0 rfl) ?_
    refine va_get (D := D) (ci := 5) (v := .ref q1) (C := R_Model) (T := F_Model) (N := 14) hx hb htg i_Model hown hK hP k0 hk0 rfl 0 (by decide) (htg _ tm_398) (fun _ h9 => h9) rfl d_M_keeps6_95 ?_
    refine lv_bipush (v := (7 : Int32)) hx hb d_M_keeps6_98 (by decide) ?_
    refine va_iald hx hb hK hP k1 2 hk1 rfl (i := (7 : Int32)) (inb_in ix_7_9) d_M_keeps6_100 ?_
    refine lv_i2l hx hb d_M_keeps6_101 rfl ?_
    rcases e_5 : f_M_dot gf ix0 ((am (1 : Int32).toNatClampNeg).toInt64) ((am (4 : Int32).toNatClampNeg).toInt64) ((am (7 : Int32).toNatClampNeg).toInt64) ((am (1 : Int32).toNatClampNeg).toInt64) ((am (4 : Int32).toNatClampNeg).toInt64) ((am (7 : Int32).toNatClampNeg).toInt64) with _ | v_6
    · rw [e_5] at h; cases h
    rw [e_5, Option.bind_some] at h
    try dsimp only at h
    refine vp_callSl (va_Run.run (va_runS (As := [.ref g1, .int ix0, .long ((am (1 : Int32).toNatClampNeg).toInt64), .long ((am (4 : Int32).toNatClampNeg).toInt64), .long ((am (7 : Int32).toNatClampNeg).toInt64), .long ((am (1 : Int32).toNatClampNeg).toInt64), .long ((am (4 : Int32).toNatClampNeg).toInt64), .long ((am (7 : Int32).toNatClampNeg).toInt64)]) (rest := []) ⟨hx, hb, hml, hown, htg⟩ (c_M_dot l D ct ws k2 g1 gf ix0 ((am (1 : Int32).toNatClampNeg).toInt64) ((am (4 : Int32).toNatClampNeg).toInt64) ((am (7 : Int32).toNatClampNeg).toInt64) ((am (1 : Int32).toNatClampNeg).toInt64) ((am (4 : Int32).toNatClampNeg).toInt64) ((am (7 : Int32).toNatClampNeg).toInt64) hk2  _ e_5) (cwS 8 htg (giS tm_479 tm_480 tm_34 g_M_dot) rfl rfl rfl (by decide +kernel) ⟨Nat.le_of_ble_eq_true rfl, Nat.le_of_ble_eq_true rfl⟩) (preS hP hKK) rfl rfl hl.1 rfl (lv_room (Nat.le_of_ble_eq_true rfl)) d_M_keeps6_102 ⟨Nat.le_of_ble_eq_true rfl, Nat.le_of_ble_eq_true rfl⟩)) (fun r9 hr9 => ?_)
    have hr9 := hr9.symm
    subst hr9
    refine lv_aload_n hx hb d_M_keeps6_105 rfl (lv_at hl 1 rfl) ?_
    refine lv_iload_n hx hb d_M_keeps6_106 rfl (lv_at hl 2 rfl) ?_
    refine lv_iconst (v := (1 : Int32)) hx hb d_M_keeps6_107 (by decide) ?_
    refine lv_iadd hx hb d_M_keeps6_108 ?_
    by_cases b_7 : inb (ix0 + (1 : Int32)) 240 = true
    rotate_left
    · rw [if_neg b_7] at h; cases h
    rw [if_pos b_7] at h
    refine va_lald hx hb hK hP k2 0 hk2 rfl (inb_in b_7) d_M_keeps6_109 ?_
    refine W.lcmp hx hb d_M_keeps6_110 ?_
    refine lv_if_ne (tgt := 350) hx hb d_M_keeps6_111 (by decide) (fun c_8 => ?_) (fun c_8 => ?_)
    · rw [if_neg c_8] at h
      refine lv_iconst (v := (0 : Int32)) hx hb d_M_keeps6_350 (by decide) ?_
      exact W.zret (v := (0 : Int32)) (ty := .boolean) hx hb hr rfl (fun t ht hW => ⟨(0 : Int32), rfl, ⟨(Option.some.inj h), Or.inl (Option.some.inj h).symm⟩, ht⟩) (fun q h => by cases h) d_M_keeps6_351
    · rw [if_pos c_8] at h
      refine lv_aload_n hx hb d_M_keeps6_114 rfl (lv_at hl 1 rfl) ?_
      refine lv_iload_n hx hb d_M_keeps6_115 rfl (lv_at hl 2 rfl) ?_
      refine lv_aload_n hx hb d_M_keeps6_116 rfl (lv_at hl 0 rfl) ?_
      refine va_get (D := D) (ci := 5) (v := .ref q1) (C := R_Model) (T := F_Model) (N := 14) hx hb htg i_Model hown hK hP k0 hk0 rfl 0 (by decide) (htg _ tm_398) (fun _ h9 => h9) rfl d_M_keeps6_117 ?_
      refine lv_iconst (v := (2 : Int32)) hx hb d_M_keeps6_120 (by decide) ?_
      refine va_iald hx hb hK hP k1 2 hk1 rfl (i := (2 : Int32)) (inb_in ix_2_9) d_M_keeps6_121 ?_
      refine lv_i2l hx hb d_M_keeps6_122 rfl ?_
      refine lv_aload_n hx hb d_M_keeps6_123 rfl (lv_at hl 0 rfl) ?_
      refine va_get (D := D) (ci := 5) (v := .ref q1) (C := R_Model) (T := F_Model) (N := 14) hx hb htg i_Model hown hK hP k0 hk0 rfl 0 (by decide) (htg _ tm_398) (fun _ h9 => h9) rfl d_M_keeps6_124 ?_
      refine lv_iconst (v := (5 : Int32)) hx hb d_M_keeps6_127 (by decide) ?_
      refine va_iald hx hb hK hP k1 2 hk1 rfl (i := (5 : Int32)) (inb_in ix_5_9) d_M_keeps6_128 ?_
      refine lv_i2l hx hb d_M_keeps6_129 rfl ?_
      refine lv_aload_n hx hb d_M_keeps6_130 rfl (lv_at hl 0 rfl) ?_
      refine va_get (D := D) (ci := 5) (v := .ref q1) (C := R_Model) (T := F_Model) (N := 14) hx hb htg i_Model hown hK hP k0 hk0 rfl 0 (by decide) (htg _ tm_398) (fun _ h9 => h9) rfl d_M_keeps6_131 ?_
      refine lv_bipush (v := (8 : Int32)) hx hb d_M_keeps6_134 (by decide) ?_
      refine va_iald hx hb hK hP k1 2 hk1 rfl (i := (8 : Int32)) (inb_in ix_8_9) d_M_keeps6_136 ?_
      refine lv_i2l hx hb d_M_keeps6_137 rfl ?_
      refine lv_aload_n hx hb d_M_keeps6_138 rfl (lv_at hl 0 rfl) ?_
      refine va_get (D := D) (ci := 5) (v := .ref q1) (C := R_Model) (T := F_Model) (N := 14) hx hb htg i_Model hown hK hP k0 hk0 rfl 0 (by decide) (htg _ tm_398) (fun _ h9 => h9) rfl d_M_keeps6_139 ?_
      refine lv_iconst (v := (2 : Int32)) hx hb d_M_keeps6_142 (by decide) ?_
      refine va_iald hx hb hK hP k1 2 hk1 rfl (i := (2 : Int32)) (inb_in ix_2_9) d_M_keeps6_143 ?_
      refine lv_i2l hx hb d_M_keeps6_144 rfl ?_
      refine lv_aload_n hx hb d_M_keeps6_145 rfl (lv_at hl 0 rfl) ?_
      refine va_get (D := D) (ci := 5) (v := .ref q1) (C := R_Model) (T := F_Model) (N := 14) hx hb htg i_Model hown hK hP k0 hk0 rfl 0 (by decide) (htg _ tm_398) (fun _ h9 => h9) rfl d_M_keeps6_146 ?_
      refine lv_iconst (v := (5 : Int32)) hx hb d_M_keeps6_149 (by decide) ?_
      refine va_iald hx hb hK hP k1 2 hk1 rfl (i := (5 : Int32)) (inb_in ix_5_9) d_M_keeps6_150 ?_
      refine lv_i2l hx hb d_M_keeps6_151 rfl ?_
      refine lv_aload_n hx hb d_M_keeps6_152 rfl (lv_at hl 0 rfl) ?_
      refine va_get (D := D) (ci := 5) (v := .ref q1) (C := R_Model) (T := F_Model) (N := 14) hx hb htg i_Model hown hK hP k0 hk0 rfl 0 (by decide) (htg _ tm_398) (fun _ h9 => h9) rfl d_M_keeps6_153 ?_
      refine lv_bipush (v := (8 : Int32)) hx hb d_M_keeps6_156 (by decide) ?_
      refine va_iald hx hb hK hP k1 2 hk1 rfl (i := (8 : Int32)) (inb_in ix_8_9) d_M_keeps6_158 ?_
      refine lv_i2l hx hb d_M_keeps6_159 rfl ?_
      rcases e_9 : f_M_dot gf ix0 ((am (2 : Int32).toNatClampNeg).toInt64) ((am (5 : Int32).toNatClampNeg).toInt64) ((am (8 : Int32).toNatClampNeg).toInt64) ((am (2 : Int32).toNatClampNeg).toInt64) ((am (5 : Int32).toNatClampNeg).toInt64) ((am (8 : Int32).toNatClampNeg).toInt64) with _ | v_10
      · rw [e_9] at h; cases h
      rw [e_9, Option.bind_some] at h
      try dsimp only at h
      refine vp_callSl (va_Run.run (va_runS (As := [.ref g1, .int ix0, .long ((am (2 : Int32).toNatClampNeg).toInt64), .long ((am (5 : Int32).toNatClampNeg).toInt64), .long ((am (8 : Int32).toNatClampNeg).toInt64), .long ((am (2 : Int32).toNatClampNeg).toInt64), .long ((am (5 : Int32).toNatClampNeg).toInt64), .long ((am (8 : Int32).toNatClampNeg).toInt64)]) (rest := []) ⟨hx, hb, hml, hown, htg⟩ (c_M_dot l D ct ws k2 g1 gf ix0 ((am (2 : Int32).toNatClampNeg).toInt64) ((am (5 : Int32).toNatClampNeg).toInt64) ((am (8 : Int32).toNatClampNeg).toInt64) ((am (2 : Int32).toNatClampNeg).toInt64) ((am (5 : Int32).toNatClampNeg).toInt64) ((am (8 : Int32).toNatClampNeg).toInt64) hk2  _ e_9) (cwS 8 htg (giS tm_479 tm_480 tm_34 g_M_dot) rfl rfl rfl (by decide +kernel) ⟨Nat.le_of_ble_eq_true rfl, Nat.le_of_ble_eq_true rfl⟩) (preS hP hKK) rfl rfl hl.1 rfl (lv_room (Nat.le_of_ble_eq_true rfl)) d_M_keeps6_160 ⟨Nat.le_of_ble_eq_true rfl, Nat.le_of_ble_eq_true rfl⟩)) (fun r9 hr9 => ?_)
      have hr9 := hr9.symm
      subst hr9
      refine lv_aload_n hx hb d_M_keeps6_163 rfl (lv_at hl 1 rfl) ?_
      refine lv_iload_n hx hb d_M_keeps6_164 rfl (lv_at hl 2 rfl) ?_
      refine lv_iconst (v := (2 : Int32)) hx hb d_M_keeps6_165 (by decide) ?_
      refine lv_iadd hx hb d_M_keeps6_166 ?_
      by_cases b_11 : inb (ix0 + (2 : Int32)) 240 = true
      rotate_left
      · rw [if_neg b_11] at h; cases h
      rw [if_pos b_11] at h
      refine va_lald hx hb hK hP k2 0 hk2 rfl (inb_in b_11) d_M_keeps6_167 ?_
      refine W.lcmp hx hb d_M_keeps6_168 ?_
      refine lv_if_ne (tgt := 350) hx hb d_M_keeps6_169 (by decide) (fun c_12 => ?_) (fun c_12 => ?_)
      · rw [if_neg c_12] at h
        refine lv_iconst (v := (0 : Int32)) hx hb d_M_keeps6_350 (by decide) ?_
        exact W.zret (v := (0 : Int32)) (ty := .boolean) hx hb hr rfl (fun t ht hW => ⟨(0 : Int32), rfl, ⟨(Option.some.inj h), Or.inl (Option.some.inj h).symm⟩, ht⟩) (fun q h => by cases h) d_M_keeps6_351
      · rw [if_pos c_12] at h
        refine lv_aload_n hx hb d_M_keeps6_172 rfl (lv_at hl 1 rfl) ?_
        refine lv_iload_n hx hb d_M_keeps6_173 rfl (lv_at hl 2 rfl) ?_
        refine lv_aload_n hx hb d_M_keeps6_174 rfl (lv_at hl 0 rfl) ?_
        refine va_get (D := D) (ci := 5) (v := .ref q1) (C := R_Model) (T := F_Model) (N := 14) hx hb htg i_Model hown hK hP k0 hk0 rfl 0 (by decide) (htg _ tm_398) (fun _ h9 => h9) rfl d_M_keeps6_175 ?_
        refine lv_iconst (v := (1 : Int32)) hx hb d_M_keeps6_178 (by decide) ?_
        refine va_iald hx hb hK hP k1 2 hk1 rfl (i := (1 : Int32)) (inb_in ix_1_9) d_M_keeps6_179 ?_
        refine lv_i2l hx hb d_M_keeps6_180 rfl ?_
        refine lv_aload_n hx hb d_M_keeps6_181 rfl (lv_at hl 0 rfl) ?_
        refine va_get (D := D) (ci := 5) (v := .ref q1) (C := R_Model) (T := F_Model) (N := 14) hx hb htg i_Model hown hK hP k0 hk0 rfl 0 (by decide) (htg _ tm_398) (fun _ h9 => h9) rfl d_M_keeps6_182 ?_
        refine lv_iconst (v := (4 : Int32)) hx hb d_M_keeps6_185 (by decide) ?_
        refine va_iald hx hb hK hP k1 2 hk1 rfl (i := (4 : Int32)) (inb_in ix_4_9) d_M_keeps6_186 ?_
        refine lv_i2l hx hb d_M_keeps6_187 rfl ?_
        refine lv_aload_n hx hb d_M_keeps6_188 rfl (lv_at hl 0 rfl) ?_
        refine va_get (D := D) (ci := 5) (v := .ref q1) (C := R_Model) (T := F_Model) (N := 14) hx hb htg i_Model hown hK hP k0 hk0 rfl 0 (by decide) (htg _ tm_398) (fun _ h9 => h9) rfl d_M_keeps6_189 ?_
        refine lv_bipush (v := (7 : Int32)) hx hb d_M_keeps6_192 (by decide) ?_
        refine va_iald hx hb hK hP k1 2 hk1 rfl (i := (7 : Int32)) (inb_in ix_7_9) d_M_keeps6_194 ?_
        refine lv_i2l hx hb d_M_keeps6_195 rfl ?_
        refine lv_aload_n hx hb d_M_keeps6_196 rfl (lv_at hl 0 rfl) ?_
        refine va_get (D := D) (ci := 5) (v := .ref q1) (C := R_Model) (T := F_Model) (N := 14) hx hb htg i_Model hown hK hP k0 hk0 rfl 0 (by decide) (htg _ tm_398) (fun _ h9 => h9) rfl d_M_keeps6_197 ?_
        refine lv_iconst (v := (2 : Int32)) hx hb d_M_keeps6_200 (by decide) ?_
        refine va_iald hx hb hK hP k1 2 hk1 rfl (i := (2 : Int32)) (inb_in ix_2_9) d_M_keeps6_201 ?_
        refine lv_i2l hx hb d_M_keeps6_202 rfl ?_
        refine lv_aload_n hx hb d_M_keeps6_203 rfl (lv_at hl 0 rfl) ?_
        refine va_get (D := D) (ci := 5) (v := .ref q1) (C := R_Model) (T := F_Model) (N := 14) hx hb htg i_Model hown hK hP k0 hk0 rfl 0 (by decide) (htg _ tm_398) (fun _ h9 => h9) rfl d_M_keeps6_204 ?_
        refine lv_iconst (v := (5 : Int32)) hx hb d_M_keeps6_207 (by decide) ?_
        refine va_iald hx hb hK hP k1 2 hk1 rfl (i := (5 : Int32)) (inb_in ix_5_9) d_M_keeps6_208 ?_
        refine lv_i2l hx hb d_M_keeps6_209 rfl ?_
        refine lv_aload_n hx hb d_M_keeps6_210 rfl (lv_at hl 0 rfl) ?_
        refine va_get (D := D) (ci := 5) (v := .ref q1) (C := R_Model) (T := F_Model) (N := 14) hx hb htg i_Model hown hK hP k0 hk0 rfl 0 (by decide) (htg _ tm_398) (fun _ h9 => h9) rfl d_M_keeps6_211 ?_
        refine lv_bipush (v := (8 : Int32)) hx hb d_M_keeps6_214 (by decide) ?_
        refine va_iald hx hb hK hP k1 2 hk1 rfl (i := (8 : Int32)) (inb_in ix_8_9) d_M_keeps6_216 ?_
        refine lv_i2l hx hb d_M_keeps6_217 rfl ?_
        rcases e_13 : f_M_dot gf ix0 ((am (1 : Int32).toNatClampNeg).toInt64) ((am (4 : Int32).toNatClampNeg).toInt64) ((am (7 : Int32).toNatClampNeg).toInt64) ((am (2 : Int32).toNatClampNeg).toInt64) ((am (5 : Int32).toNatClampNeg).toInt64) ((am (8 : Int32).toNatClampNeg).toInt64) with _ | v_14
        · rw [e_13] at h; cases h
        rw [e_13, Option.bind_some] at h
        try dsimp only at h
        refine vp_callSl (va_Run.run (va_runS (As := [.ref g1, .int ix0, .long ((am (1 : Int32).toNatClampNeg).toInt64), .long ((am (4 : Int32).toNatClampNeg).toInt64), .long ((am (7 : Int32).toNatClampNeg).toInt64), .long ((am (2 : Int32).toNatClampNeg).toInt64), .long ((am (5 : Int32).toNatClampNeg).toInt64), .long ((am (8 : Int32).toNatClampNeg).toInt64)]) (rest := []) ⟨hx, hb, hml, hown, htg⟩ (c_M_dot l D ct ws k2 g1 gf ix0 ((am (1 : Int32).toNatClampNeg).toInt64) ((am (4 : Int32).toNatClampNeg).toInt64) ((am (7 : Int32).toNatClampNeg).toInt64) ((am (2 : Int32).toNatClampNeg).toInt64) ((am (5 : Int32).toNatClampNeg).toInt64) ((am (8 : Int32).toNatClampNeg).toInt64) hk2  _ e_13) (cwS 8 htg (giS tm_479 tm_480 tm_34 g_M_dot) rfl rfl rfl (by decide +kernel) ⟨Nat.le_of_ble_eq_true rfl, Nat.le_of_ble_eq_true rfl⟩) (preS hP hKK) rfl rfl hl.1 rfl (lv_room (Nat.le_of_ble_eq_true rfl)) d_M_keeps6_218 ⟨Nat.le_of_ble_eq_true rfl, Nat.le_of_ble_eq_true rfl⟩)) (fun r9 hr9 => ?_)
        have hr9 := hr9.symm
        subst hr9
        refine lv_aload_n hx hb d_M_keeps6_221 rfl (lv_at hl 1 rfl) ?_
        refine lv_iload_n hx hb d_M_keeps6_222 rfl (lv_at hl 2 rfl) ?_
        refine lv_iconst (v := (3 : Int32)) hx hb d_M_keeps6_223 (by decide) ?_
        refine lv_iadd hx hb d_M_keeps6_224 ?_
        by_cases b_15 : inb (ix0 + (3 : Int32)) 240 = true
        rotate_left
        · rw [if_neg b_15] at h; cases h
        rw [if_pos b_15] at h
        refine va_lald hx hb hK hP k2 0 hk2 rfl (inb_in b_15) d_M_keeps6_225 ?_
        refine W.lcmp hx hb d_M_keeps6_226 ?_
        refine lv_if_ne (tgt := 350) hx hb d_M_keeps6_227 (by decide) (fun c_16 => ?_) (fun c_16 => ?_)
        · rw [if_neg c_16] at h
          refine lv_iconst (v := (0 : Int32)) hx hb d_M_keeps6_350 (by decide) ?_
          exact W.zret (v := (0 : Int32)) (ty := .boolean) hx hb hr rfl (fun t ht hW => ⟨(0 : Int32), rfl, ⟨(Option.some.inj h), Or.inl (Option.some.inj h).symm⟩, ht⟩) (fun q h => by cases h) d_M_keeps6_351
        · rw [if_pos c_16] at h
          refine lv_aload_n hx hb d_M_keeps6_230 rfl (lv_at hl 1 rfl) ?_
          refine lv_iload_n hx hb d_M_keeps6_231 rfl (lv_at hl 2 rfl) ?_
          refine lv_aload_n hx hb d_M_keeps6_232 rfl (lv_at hl 0 rfl) ?_
          refine va_get (D := D) (ci := 5) (v := .ref q1) (C := R_Model) (T := F_Model) (N := 14) hx hb htg i_Model hown hK hP k0 hk0 rfl 0 (by decide) (htg _ tm_398) (fun _ h9 => h9) rfl d_M_keeps6_233 ?_
          refine lv_iconst (v := (0 : Int32)) hx hb d_M_keeps6_236 (by decide) ?_
          refine va_iald hx hb hK hP k1 2 hk1 rfl (i := (0 : Int32)) (inb_in ix_0_9) d_M_keeps6_237 ?_
          refine lv_i2l hx hb d_M_keeps6_238 rfl ?_
          refine lv_aload_n hx hb d_M_keeps6_239 rfl (lv_at hl 0 rfl) ?_
          refine va_get (D := D) (ci := 5) (v := .ref q1) (C := R_Model) (T := F_Model) (N := 14) hx hb htg i_Model hown hK hP k0 hk0 rfl 0 (by decide) (htg _ tm_398) (fun _ h9 => h9) rfl d_M_keeps6_240 ?_
          refine lv_iconst (v := (3 : Int32)) hx hb d_M_keeps6_243 (by decide) ?_
          refine va_iald hx hb hK hP k1 2 hk1 rfl (i := (3 : Int32)) (inb_in ix_3_9) d_M_keeps6_244 ?_
          refine lv_i2l hx hb d_M_keeps6_245 rfl ?_
          refine lv_aload_n hx hb d_M_keeps6_246 rfl (lv_at hl 0 rfl) ?_
          refine va_get (D := D) (ci := 5) (v := .ref q1) (C := R_Model) (T := F_Model) (N := 14) hx hb htg i_Model hown hK hP k0 hk0 rfl 0 (by decide) (htg _ tm_398) (fun _ h9 => h9) rfl d_M_keeps6_247 ?_
          refine lv_bipush (v := (6 : Int32)) hx hb d_M_keeps6_250 (by decide) ?_
          refine va_iald hx hb hK hP k1 2 hk1 rfl (i := (6 : Int32)) (inb_in ix_6_9) d_M_keeps6_252 ?_
          refine lv_i2l hx hb d_M_keeps6_253 rfl ?_
          refine lv_aload_n hx hb d_M_keeps6_254 rfl (lv_at hl 0 rfl) ?_
          refine va_get (D := D) (ci := 5) (v := .ref q1) (C := R_Model) (T := F_Model) (N := 14) hx hb htg i_Model hown hK hP k0 hk0 rfl 0 (by decide) (htg _ tm_398) (fun _ h9 => h9) rfl d_M_keeps6_255 ?_
          refine lv_iconst (v := (2 : Int32)) hx hb d_M_keeps6_258 (by decide) ?_
          refine va_iald hx hb hK hP k1 2 hk1 rfl (i := (2 : Int32)) (inb_in ix_2_9) d_M_keeps6_259 ?_
          refine lv_i2l hx hb d_M_keeps6_260 rfl ?_
          refine lv_aload_n hx hb d_M_keeps6_261 rfl (lv_at hl 0 rfl) ?_
          refine va_get (D := D) (ci := 5) (v := .ref q1) (C := R_Model) (T := F_Model) (N := 14) hx hb htg i_Model hown hK hP k0 hk0 rfl 0 (by decide) (htg _ tm_398) (fun _ h9 => h9) rfl d_M_keeps6_262 ?_
          refine lv_iconst (v := (5 : Int32)) hx hb d_M_keeps6_265 (by decide) ?_
          refine va_iald hx hb hK hP k1 2 hk1 rfl (i := (5 : Int32)) (inb_in ix_5_9) d_M_keeps6_266 ?_
          refine lv_i2l hx hb d_M_keeps6_267 rfl ?_
          refine lv_aload_n hx hb d_M_keeps6_268 rfl (lv_at hl 0 rfl) ?_
          refine va_get (D := D) (ci := 5) (v := .ref q1) (C := R_Model) (T := F_Model) (N := 14) hx hb htg i_Model hown hK hP k0 hk0 rfl 0 (by decide) (htg _ tm_398) (fun _ h9 => h9) rfl d_M_keeps6_269 ?_
          refine lv_bipush (v := (8 : Int32)) hx hb d_M_keeps6_272 (by decide) ?_
          refine va_iald hx hb hK hP k1 2 hk1 rfl (i := (8 : Int32)) (inb_in ix_8_9) d_M_keeps6_274 ?_
          refine lv_i2l hx hb d_M_keeps6_275 rfl ?_
          rcases e_17 : f_M_dot gf ix0 ((am (0 : Int32).toNatClampNeg).toInt64) ((am (3 : Int32).toNatClampNeg).toInt64) ((am (6 : Int32).toNatClampNeg).toInt64) ((am (2 : Int32).toNatClampNeg).toInt64) ((am (5 : Int32).toNatClampNeg).toInt64) ((am (8 : Int32).toNatClampNeg).toInt64) with _ | v_18
          · rw [e_17] at h; cases h
          rw [e_17, Option.bind_some] at h
          try dsimp only at h
          refine vp_callSl (va_Run.run (va_runS (As := [.ref g1, .int ix0, .long ((am (0 : Int32).toNatClampNeg).toInt64), .long ((am (3 : Int32).toNatClampNeg).toInt64), .long ((am (6 : Int32).toNatClampNeg).toInt64), .long ((am (2 : Int32).toNatClampNeg).toInt64), .long ((am (5 : Int32).toNatClampNeg).toInt64), .long ((am (8 : Int32).toNatClampNeg).toInt64)]) (rest := []) ⟨hx, hb, hml, hown, htg⟩ (c_M_dot l D ct ws k2 g1 gf ix0 ((am (0 : Int32).toNatClampNeg).toInt64) ((am (3 : Int32).toNatClampNeg).toInt64) ((am (6 : Int32).toNatClampNeg).toInt64) ((am (2 : Int32).toNatClampNeg).toInt64) ((am (5 : Int32).toNatClampNeg).toInt64) ((am (8 : Int32).toNatClampNeg).toInt64) hk2  _ e_17) (cwS 8 htg (giS tm_479 tm_480 tm_34 g_M_dot) rfl rfl rfl (by decide +kernel) ⟨Nat.le_of_ble_eq_true rfl, Nat.le_of_ble_eq_true rfl⟩) (preS hP hKK) rfl rfl hl.1 rfl (lv_room (Nat.le_of_ble_eq_true rfl)) d_M_keeps6_276 ⟨Nat.le_of_ble_eq_true rfl, Nat.le_of_ble_eq_true rfl⟩)) (fun r9 hr9 => ?_)
          have hr9 := hr9.symm
          subst hr9
          refine lv_aload_n hx hb d_M_keeps6_279 rfl (lv_at hl 1 rfl) ?_
          refine lv_iload_n hx hb d_M_keeps6_280 rfl (lv_at hl 2 rfl) ?_
          refine lv_iconst (v := (4 : Int32)) hx hb d_M_keeps6_281 (by decide) ?_
          refine lv_iadd hx hb d_M_keeps6_282 ?_
          by_cases b_19 : inb (ix0 + (4 : Int32)) 240 = true
          rotate_left
          · rw [if_neg b_19] at h; cases h
          rw [if_pos b_19] at h
          refine va_lald hx hb hK hP k2 0 hk2 rfl (inb_in b_19) d_M_keeps6_283 ?_
          refine W.lcmp hx hb d_M_keeps6_284 ?_
          refine lv_if_ne (tgt := 350) hx hb d_M_keeps6_285 (by decide) (fun c_20 => ?_) (fun c_20 => ?_)
          · rw [if_neg c_20] at h
            refine lv_iconst (v := (0 : Int32)) hx hb d_M_keeps6_350 (by decide) ?_
            exact W.zret (v := (0 : Int32)) (ty := .boolean) hx hb hr rfl (fun t ht hW => ⟨(0 : Int32), rfl, ⟨(Option.some.inj h), Or.inl (Option.some.inj h).symm⟩, ht⟩) (fun q h => by cases h) d_M_keeps6_351
          · rw [if_pos c_20] at h
            refine lv_aload_n hx hb d_M_keeps6_288 rfl (lv_at hl 1 rfl) ?_
            refine lv_iload_n hx hb d_M_keeps6_289 rfl (lv_at hl 2 rfl) ?_
            refine lv_aload_n hx hb d_M_keeps6_290 rfl (lv_at hl 0 rfl) ?_
            refine va_get (D := D) (ci := 5) (v := .ref q1) (C := R_Model) (T := F_Model) (N := 14) hx hb htg i_Model hown hK hP k0 hk0 rfl 0 (by decide) (htg _ tm_398) (fun _ h9 => h9) rfl d_M_keeps6_291 ?_
            refine lv_iconst (v := (0 : Int32)) hx hb d_M_keeps6_294 (by decide) ?_
            refine va_iald hx hb hK hP k1 2 hk1 rfl (i := (0 : Int32)) (inb_in ix_0_9) d_M_keeps6_295 ?_
            refine lv_i2l hx hb d_M_keeps6_296 rfl ?_
            refine lv_aload_n hx hb d_M_keeps6_297 rfl (lv_at hl 0 rfl) ?_
            refine va_get (D := D) (ci := 5) (v := .ref q1) (C := R_Model) (T := F_Model) (N := 14) hx hb htg i_Model hown hK hP k0 hk0 rfl 0 (by decide) (htg _ tm_398) (fun _ h9 => h9) rfl d_M_keeps6_298 ?_
            refine lv_iconst (v := (3 : Int32)) hx hb d_M_keeps6_301 (by decide) ?_
            refine va_iald hx hb hK hP k1 2 hk1 rfl (i := (3 : Int32)) (inb_in ix_3_9) d_M_keeps6_302 ?_
            refine lv_i2l hx hb d_M_keeps6_303 rfl ?_
            refine lv_aload_n hx hb d_M_keeps6_304 rfl (lv_at hl 0 rfl) ?_
            refine va_get (D := D) (ci := 5) (v := .ref q1) (C := R_Model) (T := F_Model) (N := 14) hx hb htg i_Model hown hK hP k0 hk0 rfl 0 (by decide) (htg _ tm_398) (fun _ h9 => h9) rfl d_M_keeps6_305 ?_
            refine lv_bipush (v := (6 : Int32)) hx hb d_M_keeps6_308 (by decide) ?_
            refine va_iald hx hb hK hP k1 2 hk1 rfl (i := (6 : Int32)) (inb_in ix_6_9) d_M_keeps6_310 ?_
            refine lv_i2l hx hb d_M_keeps6_311 rfl ?_
            refine lv_aload_n hx hb d_M_keeps6_312 rfl (lv_at hl 0 rfl) ?_
            refine va_get (D := D) (ci := 5) (v := .ref q1) (C := R_Model) (T := F_Model) (N := 14) hx hb htg i_Model hown hK hP k0 hk0 rfl 0 (by decide) (htg _ tm_398) (fun _ h9 => h9) rfl d_M_keeps6_313 ?_
            refine lv_iconst (v := (1 : Int32)) hx hb d_M_keeps6_316 (by decide) ?_
            refine va_iald hx hb hK hP k1 2 hk1 rfl (i := (1 : Int32)) (inb_in ix_1_9) d_M_keeps6_317 ?_
            refine lv_i2l hx hb d_M_keeps6_318 rfl ?_
            refine lv_aload_n hx hb d_M_keeps6_319 rfl (lv_at hl 0 rfl) ?_
            refine va_get (D := D) (ci := 5) (v := .ref q1) (C := R_Model) (T := F_Model) (N := 14) hx hb htg i_Model hown hK hP k0 hk0 rfl 0 (by decide) (htg _ tm_398) (fun _ h9 => h9) rfl d_M_keeps6_320 ?_
            refine lv_iconst (v := (4 : Int32)) hx hb d_M_keeps6_323 (by decide) ?_
            refine va_iald hx hb hK hP k1 2 hk1 rfl (i := (4 : Int32)) (inb_in ix_4_9) d_M_keeps6_324 ?_
            refine lv_i2l hx hb d_M_keeps6_325 rfl ?_
            refine lv_aload_n hx hb d_M_keeps6_326 rfl (lv_at hl 0 rfl) ?_
            refine va_get (D := D) (ci := 5) (v := .ref q1) (C := R_Model) (T := F_Model) (N := 14) hx hb htg i_Model hown hK hP k0 hk0 rfl 0 (by decide) (htg _ tm_398) (fun _ h9 => h9) rfl d_M_keeps6_327 ?_
            refine lv_bipush (v := (7 : Int32)) hx hb d_M_keeps6_330 (by decide) ?_
            refine va_iald hx hb hK hP k1 2 hk1 rfl (i := (7 : Int32)) (inb_in ix_7_9) d_M_keeps6_332 ?_
            refine lv_i2l hx hb d_M_keeps6_333 rfl ?_
            rcases e_21 : f_M_dot gf ix0 ((am (0 : Int32).toNatClampNeg).toInt64) ((am (3 : Int32).toNatClampNeg).toInt64) ((am (6 : Int32).toNatClampNeg).toInt64) ((am (1 : Int32).toNatClampNeg).toInt64) ((am (4 : Int32).toNatClampNeg).toInt64) ((am (7 : Int32).toNatClampNeg).toInt64) with _ | v_22
            · rw [e_21] at h; cases h
            rw [e_21, Option.bind_some] at h
            try dsimp only at h
            refine vp_callSl (va_Run.run (va_runS (As := [.ref g1, .int ix0, .long ((am (0 : Int32).toNatClampNeg).toInt64), .long ((am (3 : Int32).toNatClampNeg).toInt64), .long ((am (6 : Int32).toNatClampNeg).toInt64), .long ((am (1 : Int32).toNatClampNeg).toInt64), .long ((am (4 : Int32).toNatClampNeg).toInt64), .long ((am (7 : Int32).toNatClampNeg).toInt64)]) (rest := []) ⟨hx, hb, hml, hown, htg⟩ (c_M_dot l D ct ws k2 g1 gf ix0 ((am (0 : Int32).toNatClampNeg).toInt64) ((am (3 : Int32).toNatClampNeg).toInt64) ((am (6 : Int32).toNatClampNeg).toInt64) ((am (1 : Int32).toNatClampNeg).toInt64) ((am (4 : Int32).toNatClampNeg).toInt64) ((am (7 : Int32).toNatClampNeg).toInt64) hk2  _ e_21) (cwS 8 htg (giS tm_479 tm_480 tm_34 g_M_dot) rfl rfl rfl (by decide +kernel) ⟨Nat.le_of_ble_eq_true rfl, Nat.le_of_ble_eq_true rfl⟩) (preS hP hKK) rfl rfl hl.1 rfl (lv_room (Nat.le_of_ble_eq_true rfl)) d_M_keeps6_334 ⟨Nat.le_of_ble_eq_true rfl, Nat.le_of_ble_eq_true rfl⟩)) (fun r9 hr9 => ?_)
            have hr9 := hr9.symm
            subst hr9
            refine lv_aload_n hx hb d_M_keeps6_337 rfl (lv_at hl 1 rfl) ?_
            refine lv_iload_n hx hb d_M_keeps6_338 rfl (lv_at hl 2 rfl) ?_
            refine lv_iconst (v := (5 : Int32)) hx hb d_M_keeps6_339 (by decide) ?_
            refine lv_iadd hx hb d_M_keeps6_340 ?_
            by_cases b_23 : inb (ix0 + (5 : Int32)) 240 = true
            rotate_left
            · rw [if_neg b_23] at h; cases h
            rw [if_pos b_23] at h
            refine va_lald hx hb hK hP k2 0 hk2 rfl (inb_in b_23) d_M_keeps6_341 ?_
            refine W.lcmp hx hb d_M_keeps6_342 ?_
            refine lv_if_ne (tgt := 350) hx hb d_M_keeps6_343 (by decide) (fun c_24 => ?_) (fun c_24 => ?_)
            · rw [if_neg c_24] at h
              refine lv_iconst (v := (0 : Int32)) hx hb d_M_keeps6_350 (by decide) ?_
              exact W.zret (v := (0 : Int32)) (ty := .boolean) hx hb hr rfl (fun t ht hW => ⟨(0 : Int32), rfl, ⟨(Option.some.inj h), Or.inl (Option.some.inj h).symm⟩, ht⟩) (fun q h => by cases h) d_M_keeps6_351
            · rw [if_pos c_24] at h
              refine lv_iconst (v := (1 : Int32)) hx hb d_M_keeps6_346 (by decide) ?_
              refine lv_goto (tgt := 351) hx hb d_M_keeps6_347 (by decide) ?_
              exact W.zret (v := (1 : Int32)) (ty := .boolean) hx hb hr rfl (fun t ht hW => ⟨(1 : Int32), rfl, ⟨(Option.some.inj h), Or.inr (Option.some.inj h).symm⟩, ht⟩) (fun q h => by cases h) d_M_keeps6_351
-- CellBenchModel exchange (II)V
def f_M_exch (ax : Nat → Int64) (ei : Int32) (ej : Int32) : Option ((Nat → Int64)) :=
    if inb ei 6 = true then (if inb ej 6 = true then (if inb ei 6 = true then (if inb ej 6 = true then (some (vp_updL (vp_updL ax ei.toNatClampNeg (ax ej.toNatClampNeg)) ej.toNatClampNeg (ax ei.toNatClampNeg))) else none) else none) else none) else none
def w_M_exch : List Cond := .code y_M_exch b_M_exch 5 none :: GW
abbrev rm_M_exch : Room := { frames := 0, cells := 0, slots := 0, locals := 0 }
theorem g_M_exch : GoodIn GW w_M_exch := gi tm_469
set_option maxHeartbeats 4000000 in
set_option maxRecDepth 100000 in
theorem c_M_exch (l : Launch) (D : va_G) (ct : CT) (A : Nat → Prop) (wt : va_W)  (h0 : Nat) (q1 : Nat) (q2 : Nat) (q3 : Nat) (q4 : Nat) (q5 : Nat) (q6 : Nat) (q7 : Nat) (q8 : Nat) (q9 : Nat) (cm : Int32) (stp : Int32) (mus : Int32) (mc_ : Int32) (mb_ : Int32) (ax : Nat → Int64) (ei : Int32) (ej : Int32)   (r0 : (Nat → Int64)) (h : f_M_exch ax ei ej = some r0) : Met l y_M_exch w_M_exch rm_M_exch (va_Pc [.ref h0, .int ei, .int ej] (PreM D ct A ([(h0, .inr (5, [.ref q1, .ref q2, .ref q3, .ref q4, .ref q5, .int cm, .int stp, .ref q6, .ref q7, .ref q8, .int mus, .int mc_, .int mb_, .ref q9])), (q6, .inl (ct.1, 6, .inr (.inl ax)))] ++ wt))) (va_Qv (fun u => u = r0) (fun (u : (Nat → Int64)) t => match u with | ax' => va_P D classes ([(h0, .inr (5, [.ref q1, .ref q2, .ref q3, .ref q4, .ref q5, .int cm, .int stp, .ref q6, .ref q7, .ref q8, .int mus, .int mc_, .int mb_, .ref q9])), (q6, .inl (ct.1, 6, .inr (.inl ax')))] ++ wt) t.heap ∧ va_D A ([(h0, .inr (5, [.ref q1, .ref q2, .ref q3, .ref q4, .ref q5, .int cm, .int stp, .ref q6, .ref q7, .ref q8, .int mus, .int mc_, .int mb_, .ref q9])), (q6, .inl (ct.1, 6, .inr (.inl ax')))] ++ wt)) A) 0 0 A := by
  refine Met.ofW (cc := b_M_exch) (maxL := 5) (ret := none) (by decide) rfl ?_
  intro p e s m args below meth c s₁ B hml hv
  obtain ⟨rfl, hA, hP, hD, hKK⟩ := hv
  have hx := B.exec
  have hb := B.bytes
  have hr := B.returns
  have htg := ht_tl (atoms_spec (ws := w_M_exch) B.pre)
  have hown : s.vm.findClass R_Model = some m.cls := findClass_of_methodNamed B.named
  have hlocks := B.notSynchronized
  have hK := hKK.1
  have hN := hKK.2.1
  have hO := hKK.2.2
  have hS : va_S A s.heap s.heap [] := va_S.rf
  have hl := lv_entry ([.ref h0, .int ei, .int ej]) (n := 5) (Nat.le_of_ble_eq_true rfl)
  rw [lg_entry_eq]
  generalize (lg_sl ([.ref h0, .int ei, .int ej]) ++ List.replicate (5 - (lg_sl ([.ref h0, .int ei, .int ej])).length) Slot.unset).toArray = ls at hl ⊢
  have hl : lv_has ls 5 [(0, .ref h0), (1, .int ei), (2, .int ej)] := hl
  unfold f_M_exch at h
  refine lv_aload_n hx hb d_M_exch_0 rfl (lv_at hl 0 rfl) ?_
  refine va_get (D := D) (ci := 5) (v := .ref q6) (C := R_Model) (T := F_Model) (N := 14) hx hb htg i_Model hown hK hP 0 rfl rfl 7 (by decide) (htg _ tm_405) (fun _ h9 => h9) rfl d_M_exch_1 ?_
  refine lv_iload_n hx hb d_M_exch_4 rfl (lv_at hl 1 rfl) ?_
  by_cases b_1 : inb ei 6 = true
  rotate_left
  · rw [if_neg b_1] at h; cases h
  rw [if_pos b_1] at h
  refine va_lald hx hb hK hP 1 0 rfl rfl (inb_in b_1) d_M_exch_5 ?_
  refine lv_lstore_n (lv' := [(3, .long (ax ei.toNatClampNeg)), (0, .ref h0), (1, .int ei), (2, .int ej)]) hx hb d_M_exch_6 rfl hl (by decide) rfl (fun ls hl => ?_)
  refine lv_aload_n hx hb d_M_exch_7 rfl (lv_at hl 1 rfl) ?_
  refine va_get (D := D) (ci := 5) (v := .ref q6) (C := R_Model) (T := F_Model) (N := 14) hx hb htg i_Model hown hK hP 0 rfl rfl 7 (by decide) (htg _ tm_405) (fun _ h9 => h9) rfl d_M_exch_8 ?_
  refine lv_iload_n hx hb d_M_exch_11 rfl (lv_at hl 2 rfl) ?_
  refine lv_aload_n hx hb d_M_exch_12 rfl (lv_at hl 1 rfl) ?_
  refine va_get (D := D) (ci := 5) (v := .ref q6) (C := R_Model) (T := F_Model) (N := 14) hx hb htg i_Model hown hK hP 0 rfl rfl 7 (by decide) (htg _ tm_405) (fun _ h9 => h9) rfl d_M_exch_13 ?_
  refine lv_iload_n hx hb d_M_exch_16 rfl (lv_at hl 3 rfl) ?_
  by_cases b_2 : inb ej 6 = true
  rotate_left
  · rw [if_neg b_2] at h; cases h
  rw [if_pos b_2] at h
  refine va_lald hx hb hK hP 1 0 rfl rfl (inb_in b_2) d_M_exch_17 ?_
  by_cases b_3 : inb ei 6 = true
  rotate_left
  · rw [if_neg b_3] at h; cases h
  rw [if_pos b_3] at h
  refine va_last hx hb hK hP hD hS 1 0 rfl rfl (inb_in b_3) d_M_exch_18 (fun H locs hP hD hS => ?_)
  have hP : va_P D classes ([(h0, .inr (5, [.ref q1, .ref q2, .ref q3, .ref q4, .ref q5, .int cm, .int stp, .ref q6, .ref q7, .ref q8, .int mus, .int mc_, .int mb_, .ref q9])), (q6, .inl (ct.1, 6, .inr (.inl (vp_updL ax ei.toNatClampNeg (ax ej.toNatClampNeg)))))] ++ wt) H := hP
  have hD : va_D A ([(h0, .inr (5, [.ref q1, .ref q2, .ref q3, .ref q4, .ref q5, .int cm, .int stp, .ref q6, .ref q7, .ref q8, .int mus, .int mc_, .int mb_, .ref q9])), (q6, .inl (ct.1, 6, .inr (.inl (vp_updL ax ei.toNatClampNeg (ax ej.toNatClampNeg)))))] ++ wt) := hD
  refine lv_aload_n hx hb d_M_exch_19 rfl (lv_at hl 1 rfl) ?_
  refine va_get (D := D) (ci := 5) (v := .ref q6) (C := R_Model) (T := F_Model) (N := 14) hx hb htg i_Model hown hK hP 0 rfl rfl 7 (by decide) (htg _ tm_405) (fun _ h9 => h9) rfl d_M_exch_20 ?_
  refine lv_iload_n hx hb d_M_exch_23 rfl (lv_at hl 3 rfl) ?_
  refine lv_lload_n hx hb d_M_exch_24 rfl (lv_at hl 0 rfl) ?_
  by_cases b_4 : inb ej 6 = true
  rotate_left
  · rw [if_neg b_4] at h; cases h
  rw [if_pos b_4] at h
  refine va_last hx hb hK hP hD hS 1 0 rfl rfl (inb_in b_4) d_M_exch_25 (fun H locs hP hD hS => ?_)
  have hP : va_P D classes ([(h0, .inr (5, [.ref q1, .ref q2, .ref q3, .ref q4, .ref q5, .int cm, .int stp, .ref q6, .ref q7, .ref q8, .int mus, .int mc_, .int mb_, .ref q9])), (q6, .inl (ct.1, 6, .inr (.inl (vp_updL (vp_updL ax ei.toNatClampNeg (ax ej.toNatClampNeg)) ej.toNatClampNeg (ax ei.toNatClampNeg)))))] ++ wt) H := hP
  have hD : va_D A ([(h0, .inr (5, [.ref q1, .ref q2, .ref q3, .ref q4, .ref q5, .int cm, .int stp, .ref q6, .ref q7, .ref q8, .int mus, .int mc_, .int mb_, .ref q9])), (q6, .inl (ct.1, 6, .inr (.inl (vp_updL (vp_updL ax ei.toNatClampNeg (ax ej.toNatClampNeg)) ej.toNatClampNeg (ax ei.toNatClampNeg)))))] ++ wt) := hD
  exact W.vret hx hb hr (fun t ht hW => ⟨⟨vp_updL (vp_updL ax ei.toNatClampNeg (ax ej.toNatClampNeg)) ej.toNatClampNeg (ax ei.toNatClampNeg), rfl, (Option.some.inj h), by rw [ht]; exact hP, hD⟩, hS.F ht⟩) hS.2.2 d_M_exch_26
-- CellBenchModel areSame (II)Z
def lp_M_areSame_2 (al : Nat → Int64) (ia : Int32) (ib : Int32) : Nat → Int32 → Option (Int32)
  | 0, _ => none
  | n + 1, kk =>
    if (6 : Int32) ≤ kk then (some (1 : Int32)) else (if inb (((6 : Int32) * ia) + kk) 240 = true then (if inb (((6 : Int32) * ib) + kk) 240 = true then (if (lg_cmp (al (((6 : Int32) * ia) + kk).toNatClampNeg) (al (((6 : Int32) * ib) + kk).toNatClampNeg)) = 0 then (lp_M_areSame_2 al ia ib n (kk + (1 : Int32))) else (some (0 : Int32))) else none) else none)
def f_M_areSame (al : Nat → Int64) (ia : Int32) (ib : Int32) : Option (Int32) :=
    lp_M_areSame_2 al ia ib 7 (0 : Int32)
def w_M_areSame : List Cond := .code y_M_areSame b_M_areSame 4 (some .boolean) :: GW
abbrev rm_M_areSame : Room := { frames := 0, cells := 0, slots := 0, locals := 0 }
theorem g_M_areSame : GoodIn GW w_M_areSame := gi tm_501
set_option maxHeartbeats 4000000 in
set_option maxRecDepth 100000 in
theorem c_M_areSame (l : Launch) (D : va_G) (ct : CT) (ws : va_W) (k0 : Nat) (k1 : Nat) (h0 : Nat) (q1 : Nat) (q2 : Nat) (q3 : Nat) (q4 : Nat) (q5 : Nat) (q6 : Nat) (q7 : Nat) (q8 : Nat) (q9 : Nat) (cm : Int32) (stp : Int32) (mus : Int32) (mc_ : Int32) (mb_ : Int32) (al : Nat → Int64) (ia : Int32) (ib : Int32) (hk0 : ws[k0]? = some (h0, .inr (5, [.ref q1, .ref q2, .ref q3, .ref q4, .ref q5, .int cm, .int stp, .ref q6, .ref q7, .ref q8, .int mus, .int mc_, .int mb_, .ref q9]))) (hk1 : ws[k1]? = some (q3, .inl (ct.1, 240, .inr (.inl al))))  (r0 : Int32) (h : f_M_areSame al ia ib = some r0) : Met l y_M_areSame w_M_areSame rm_M_areSame (va_Pc [.ref h0, .int ia, .int ib] (PreP D ct ws)) (vp_Si (fun r => r = r0 ∧ (r0 = 0 ∨ r0 = 1))) 0 0 (fun _ => False) := by
  refine Met.ofW (cc := b_M_areSame) (maxL := 4) (ret := (some .boolean)) (by decide) rfl ?_
  intro p e s m args below meth c s₁ B hml hv
  obtain ⟨rfl, hP, hKK⟩ := hv
  have hx := B.exec
  have hb := B.bytes
  have hr := B.returns
  have htg := ht_tl (atoms_spec (ws := w_M_areSame) B.pre)
  have hown : s.vm.findClass R_Model = some m.cls := findClass_of_methodNamed B.named
  have hlocks := B.notSynchronized
  have hK := hKK.1
  have hN := hKK.2.1
  have hO := hKK.2.2
  have hl := lv_entry ([.ref h0, .int ia, .int ib]) (n := 4) (Nat.le_of_ble_eq_true rfl)
  rw [lg_entry_eq]
  generalize (lg_sl ([.ref h0, .int ia, .int ib]) ++ List.replicate (4 - (lg_sl ([.ref h0, .int ia, .int ib])).length) Slot.unset).toArray = ls at hl ⊢
  have hl : lv_has ls 4 [(0, .ref h0), (1, .int ia), (2, .int ib)] := hl
  unfold f_M_areSame at h
  refine lv_iconst (v := (0 : Int32)) hx hb d_M_areSame_0 (by decide) ?_
  refine lv_istore_n (lv' := [(3, .int (0 : Int32)), (0, .ref h0), (1, .int ia), (2, .int ib)]) hx hb d_M_areSame_1 rfl hl (by decide) rfl (fun ls hl => ?_)
  have L_2 : ∀ (n : Nat) (kk : Int32) , lp_M_areSame_2 al ia ib n kk = some r0 → ∀ (ls : Array Slot), lv_has ls 4 [(3, .int kk), (0, .ref h0), (1, .int ia), (2, .int ib)] → W p l e (headSpec w_M_areSame rm_M_areSame).room s m ([.ref h0, .int ia, .int ib] : List Value).toArray below meth c s.heap [] 0 0 (MQ below (vp_Si (fun r => r = r0 ∧ (r0 = 0 ∨ r0 = 1))) ([.ref h0, .int ia, .int ib] : List Value).toArray s 0 0 (fun _ => False)) (F0 m 2 ls []) := by
    intro n
    induction n with
    | zero =>
      intro kk  h
      rw [lp_M_areSame_2] at h
      cases h
    | succ n ih =>
      intro kk  h ls hl
      rw [lp_M_areSame_2] at h
      refine lv_iload_n hx hb d_M_areSame_2 rfl (lv_at hl 0 rfl) ?_
      refine lv_bipush (v := (6 : Int32)) hx hb d_M_areSame_3 (by decide) ?_
      refine lv_icmp_ge (tgt := 42) hx hb d_M_areSame_5 (by decide) (fun c_1 => ?_) (fun c_1 => ?_)
      · rw [if_pos c_1] at h
        refine lv_iconst (v := (1 : Int32)) hx hb d_M_areSame_42 (by decide) ?_
        exact W.zret (v := (1 : Int32)) (ty := .boolean) hx hb hr rfl (fun t ht hW => ⟨(1 : Int32), rfl, ⟨(Option.some.inj h), Or.inr (Option.some.inj h).symm⟩, ht⟩) (fun q h => by cases h) d_M_areSame_43
      · rw [if_neg c_1] at h
        refine lv_aload_n hx hb d_M_areSame_8 rfl (lv_at hl 1 rfl) ?_
        refine va_get (D := D) (ci := 5) (v := .ref q3) (C := R_Model) (T := F_Model) (N := 14) hx hb htg i_Model hown hK hP k0 hk0 rfl 2 (by decide) (htg _ tm_400) (fun _ h9 => h9) rfl d_M_areSame_9 ?_
        refine lv_bipush (v := (6 : Int32)) hx hb d_M_areSame_12 (by decide) ?_
        refine lv_iload_n hx hb d_M_areSame_14 rfl (lv_at hl 2 rfl) ?_
        refine lv_imul hx hb d_M_areSame_15 ?_
        refine lv_iload_n hx hb d_M_areSame_16 rfl (lv_at hl 0 rfl) ?_
        refine lv_iadd hx hb d_M_areSame_17 ?_
        by_cases b_2 : inb (((6 : Int32) * ia) + kk) 240 = true
        rotate_left
        · rw [if_neg b_2] at h; cases h
        rw [if_pos b_2] at h
        refine va_lald hx hb hK hP k1 0 hk1 rfl (inb_in b_2) d_M_areSame_18 ?_
        refine lv_aload_n hx hb d_M_areSame_19 rfl (lv_at hl 1 rfl) ?_
        refine va_get (D := D) (ci := 5) (v := .ref q3) (C := R_Model) (T := F_Model) (N := 14) hx hb htg i_Model hown hK hP k0 hk0 rfl 2 (by decide) (htg _ tm_400) (fun _ h9 => h9) rfl d_M_areSame_20 ?_
        refine lv_bipush (v := (6 : Int32)) hx hb d_M_areSame_23 (by decide) ?_
        refine lv_iload_n hx hb d_M_areSame_25 rfl (lv_at hl 3 rfl) ?_
        refine lv_imul hx hb d_M_areSame_26 ?_
        refine lv_iload_n hx hb d_M_areSame_27 rfl (lv_at hl 0 rfl) ?_
        refine lv_iadd hx hb d_M_areSame_28 ?_
        by_cases b_3 : inb (((6 : Int32) * ib) + kk) 240 = true
        rotate_left
        · rw [if_neg b_3] at h; cases h
        rw [if_pos b_3] at h
        refine va_lald hx hb hK hP k1 0 hk1 rfl (inb_in b_3) d_M_areSame_29 ?_
        refine W.lcmp hx hb d_M_areSame_30 ?_
        refine lv_if_eq (tgt := 36) hx hb d_M_areSame_31 (by decide) (fun c_4 => ?_) (fun c_4 => ?_)
        · rw [if_pos c_4] at h
          refine lv_iinc (v := kk + (1 : Int32)) (lv' := [(3, .int (kk + (1 : Int32))), (0, .ref h0), (1, .int ia), (2, .int ib)]) hx hb d_M_areSame_36 hl (k := 0) rfl rfl (by decide) rfl (fun ls hl => ?_)
          refine lv_goto (tgt := 2) hx hb d_M_areSame_39 (by decide) ?_
          exact ih (kk + (1 : Int32)) h ls (lv_sub hl [0, 1, 2, 3] rfl)
        · rw [if_neg c_4] at h
          refine lv_iconst (v := (0 : Int32)) hx hb d_M_areSame_34 (by decide) ?_
          exact W.zret (v := (0 : Int32)) (ty := .boolean) hx hb hr rfl (fun t ht hW => ⟨(0 : Int32), rfl, ⟨(Option.some.inj h), Or.inl (Option.some.inj h).symm⟩, ht⟩) (fun q h => by cases h) d_M_areSame_35
  exact L_2 7 (0 : Int32) h ls (lv_sub hl [0, 1, 2, 3] rfl)
-- CellBenchModel same (I)I
def lp_M_same_12 (cm : Int32) (al : Nat → Int64) (cl : Int32) : Nat → Int32 → Option (Int32)
  | 0, _ => none
  | n + 1, kk =>
    Option.bind (f_M_areSame al kk cl) (fun z_5 => (if z_5 = 0 then (lp_M_same_12 cm al cl n (kk + (1 : Int32))) else (some kk)))
def f_M_same (cm : Int32) (al : Nat → Int64) (cl : Int32) : Option (Int32) :=
    if (f_M_isCell cm cl) = 0 then (some (-1 : Int32)) else (lp_M_same_12 cm al cl 50 (0 : Int32))
def w_M_same : List Cond := .code y_M_same b_M_same 3 (some .int) :: GW
abbrev rm_M_same : Room := { frames := 1, cells := 0, slots := 0, locals := 23 }
theorem g_M_same : GoodIn GW w_M_same := gi tm_497
set_option maxHeartbeats 4000000 in
set_option maxRecDepth 100000 in
theorem c_M_same (l : Launch) (D : va_G) (ct : CT) (ws : va_W) (k0 : Nat) (k1 : Nat) (h0 : Nat) (q1 : Nat) (q2 : Nat) (q3 : Nat) (q4 : Nat) (q5 : Nat) (q6 : Nat) (q7 : Nat) (q8 : Nat) (q9 : Nat) (cm : Int32) (stp : Int32) (mus : Int32) (mc_ : Int32) (mb_ : Int32) (al : Nat → Int64) (cl : Int32) (hk0 : ws[k0]? = some (h0, .inr (5, [.ref q1, .ref q2, .ref q3, .ref q4, .ref q5, .int cm, .int stp, .ref q6, .ref q7, .ref q8, .int mus, .int mc_, .int mb_, .ref q9]))) (hk1 : ws[k1]? = some (q3, .inl (ct.1, 240, .inr (.inl al))))  (r0 : Int32) (h : f_M_same cm al cl = some r0) : Met l y_M_same w_M_same rm_M_same (va_Pc [.ref h0, .int cl] (PreP D ct ws)) (vp_Si (fun r => r = r0)) 0 0 (fun _ => False) := by
  refine Met.ofW (cc := b_M_same) (maxL := 3) (ret := (some .int)) (by decide) rfl ?_
  intro p e s m args below meth c s₁ B hml hv
  obtain ⟨rfl, hP, hKK⟩ := hv
  have hx := B.exec
  have hb := B.bytes
  have hr := B.returns
  have htg := ht_tl (atoms_spec (ws := w_M_same) B.pre)
  have hown : s.vm.findClass R_Model = some m.cls := findClass_of_methodNamed B.named
  have hlocks := B.notSynchronized
  have hK := hKK.1
  have hN := hKK.2.1
  have hO := hKK.2.2
  have hl := lv_entry ([.ref h0, .int cl]) (n := 3) (Nat.le_of_ble_eq_true rfl)
  rw [lg_entry_eq]
  generalize (lg_sl ([.ref h0, .int cl]) ++ List.replicate (3 - (lg_sl ([.ref h0, .int cl])).length) Slot.unset).toArray = ls at hl ⊢
  have hl : lv_has ls 3 [(0, .ref h0), (1, .int cl)] := hl
  unfold f_M_same at h
  refine lv_aload_n hx hb d_M_same_0 rfl (lv_at hl 0 rfl) ?_
  refine lv_iload_n hx hb d_M_same_1 rfl (lv_at hl 1 rfl) ?_
  refine vp_callSi (va_Run.run (va_runV (As := [.int cl]) (rest := []) ⟨hx, hb, hml, hown, htg⟩ (c_M_isCell l D ct ws k0 h0 q1 q2 q3 q4 q5 q6 q7 q8 q9 cm stp mus mc_ mb_ cl hk0  _ rfl) (cwV 1 htg (giV tm_486 tm_488 tm_24 tm_34 g_M_isCell) rfl rfl rfl (by decide +kernel) ⟨Nat.le_of_ble_eq_true rfl, Nat.le_of_ble_eq_true rfl⟩) (preV hP hKK (va_recv hK hP (ci := 5) (q0 := k0) rfl hk0)) rfl rfl hl.1 rfl (lv_room (Nat.le_of_ble_eq_true rfl)) d_M_same_2 ⟨Nat.le_of_ble_eq_true rfl, Nat.le_of_ble_eq_true rfl⟩)) (fun r9 hr9 => ?_)
  have hr9 := hr9.symm
  subst hr9
  refine lv_if_ne (tgt := 10) hx hb d_M_same_5 (by decide) (fun c_1 => ?_) (fun c_1 => ?_)
  · rw [if_neg c_1] at h
    refine lv_iconst (v := (0 : Int32)) hx hb d_M_same_10 (by decide) ?_
    refine lv_istore_n (lv' := [(2, .int (0 : Int32)), (0, .ref h0), (1, .int cl)]) hx hb d_M_same_11 rfl hl (by decide) rfl (fun ls hl => ?_)
    have L_12 : ∀ (n : Nat) (kk : Int32) , lp_M_same_12 cm al cl n kk = some r0 → ∀ (ls : Array Slot), lv_has ls 3 [(2, .int kk), (0, .ref h0), (1, .int cl)] → W p l e (headSpec w_M_same rm_M_same).room s m ([.ref h0, .int cl] : List Value).toArray below meth c s.heap [] 0 0 (MQ below (vp_Si (fun r => r = r0)) ([.ref h0, .int cl] : List Value).toArray s 0 0 (fun _ => False)) (F0 m 12 ls []) := by
      intro n
      induction n with
      | zero =>
        intro kk  h
        rw [lp_M_same_12] at h
        cases h
      | succ n ih =>
        intro kk  h ls hl
        rw [lp_M_same_12] at h
        refine lv_aload_n hx hb d_M_same_12 rfl (lv_at hl 1 rfl) ?_
        refine lv_iload_n hx hb d_M_same_13 rfl (lv_at hl 0 rfl) ?_
        refine lv_iload_n hx hb d_M_same_14 rfl (lv_at hl 2 rfl) ?_
        rcases e_2 : f_M_areSame al kk cl with _ | v_3
        · rw [e_2] at h; cases h
        rw [e_2, Option.bind_some] at h
        try dsimp only at h
        refine vp_callSi (va_Run.run (va_runV (As := [.int kk, .int cl]) (rest := []) ⟨hx, hb, hml, hown, htg⟩ (c_M_areSame l D ct ws k0 k1 h0 q1 q2 q3 q4 q5 q6 q7 q8 q9 cm stp mus mc_ mb_ al kk cl hk0 hk1  _ e_2) (cwV 2 htg (giV tm_498 tm_500 tm_25 tm_34 g_M_areSame) rfl rfl rfl (by decide +kernel) ⟨Nat.le_of_ble_eq_true rfl, Nat.le_of_ble_eq_true rfl⟩) (preV hP hKK (va_recv hK hP (ci := 5) (q0 := k0) rfl hk0)) rfl rfl hl.1 rfl (lv_room (Nat.le_of_ble_eq_true rfl)) d_M_same_15 ⟨Nat.le_of_ble_eq_true rfl, Nat.le_of_ble_eq_true rfl⟩)) (fun r9 hr9 => ?_)
        have hb_v_3 := hr9.2
        have hr9 := hr9.1.symm
        subst hr9
        refine lv_if_ne (tgt := 27) hx hb d_M_same_18 (by decide) (fun c_4 => ?_) (fun c_4 => ?_)
        · rw [if_neg c_4] at h
          refine lv_iload_n hx hb d_M_same_27 rfl (lv_at hl 0 rfl) ?_
          exact W.iret (v := kk) hx hb hr (fun t ht hW => ⟨kk, rfl, (Option.some.inj h), ht⟩) (fun q h => by cases h) d_M_same_28
        · rw [if_pos c_4] at h
          refine lv_iinc (v := kk + (1 : Int32)) (lv' := [(2, .int (kk + (1 : Int32))), (0, .ref h0), (1, .int cl)]) hx hb d_M_same_21 hl (k := 0) rfl rfl (by decide) rfl (fun ls hl => ?_)
          refine lv_goto (tgt := 12) hx hb d_M_same_24 (by decide) ?_
          exact ih (kk + (1 : Int32)) h ls (lv_sub hl [0, 1, 2] rfl)
    exact L_12 50 (0 : Int32) h ls (lv_sub hl [0, 1, 2] rfl)
  · rw [if_pos c_1] at h
    refine lv_iconst (v := (-1 : Int32)) hx hb d_M_same_8 (by decide) ?_
    exact W.iret (v := (-1 : Int32)) hx hb hr (fun t ht hW => ⟨(-1 : Int32), rfl, (Option.some.inj h), ht⟩) (fun q h => by cases h) d_M_same_9
-- CellBenchModel reduced (II)J
def f_M_reduced (cm : Int32) (al : Nat → Int64) (ay : Nat → Int32) (as_ : Nat → Int32) (cl : Int32) (wh : Int32) : Option (Int64) :=
    if (f_M_isCell cm cl) = 0 then (some (0 : Int64)) else (if wh < 0 then (some (0 : Int64)) else (if wh ≤ (8 : Int32) then (if (6 : Int32) ≤ wh then (if wh = (6 : Int32) then (if inb cl 40 = true then (some ((ay cl.toNatClampNeg).toInt64)) else none) else (if wh = (7 : Int32) then (Option.bind (f_M_det al ((6 : Int32) * cl)) (fun z_10 => (some z_10))) else (if inb cl 40 = true then (some ((as_ cl.toNatClampNeg).toInt64)) else none))) else (if inb (((6 : Int32) * cl) + wh) 240 = true then (some (al (((6 : Int32) * cl) + wh).toNatClampNeg)) else none)) else (some (0 : Int64))))
def w_M_reduced : List Cond := .code y_M_reduced b_M_reduced 3 (some .long) :: GW
abbrev rm_M_reduced : Room := { frames := 1, cells := 0, slots := 0, locals := 33 }
theorem g_M_reduced : GoodIn GW w_M_reduced := gi tm_485
set_option maxHeartbeats 4000000 in
set_option maxRecDepth 100000 in
theorem c_M_reduced (l : Launch) (D : va_G) (ct : CT) (ws : va_W) (k0 : Nat) (k1 : Nat) (k2 : Nat) (k3 : Nat) (h0 : Nat) (q1 : Nat) (q2 : Nat) (q3 : Nat) (q4 : Nat) (q5 : Nat) (q6 : Nat) (q7 : Nat) (q8 : Nat) (q9 : Nat) (cm : Int32) (stp : Int32) (mus : Int32) (mc_ : Int32) (mb_ : Int32) (al : Nat → Int64) (ay : Nat → Int32) (as_ : Nat → Int32) (cl : Int32) (wh : Int32) (hk0 : ws[k0]? = some (h0, .inr (5, [.ref q1, .ref q2, .ref q3, .ref q4, .ref q5, .int cm, .int stp, .ref q6, .ref q7, .ref q8, .int mus, .int mc_, .int mb_, .ref q9]))) (hk1 : ws[k1]? = some (q3, .inl (ct.1, 240, .inr (.inl al)))) (hk2 : ws[k2]? = some (q4, .inl (ct.2.2, 40, .inl ay))) (hk3 : ws[k3]? = some (q5, .inl (ct.2.2, 40, .inl as_)))  (r0 : Int64) (h : f_M_reduced cm al ay as_ cl wh = some r0) : Met l y_M_reduced w_M_reduced rm_M_reduced (va_Pc [.ref h0, .int cl, .int wh] (PreP D ct ws)) (vp_Sl (fun r => r = r0)) 0 0 (fun _ => False) := by
  refine Met.ofW (cc := b_M_reduced) (maxL := 3) (ret := (some .long)) (by decide) rfl ?_
  intro p e s m args below meth c s₁ B hml hv
  obtain ⟨rfl, hP, hKK⟩ := hv
  have hx := B.exec
  have hb := B.bytes
  have hr := B.returns
  have htg := ht_tl (atoms_spec (ws := w_M_reduced) B.pre)
  have hown : s.vm.findClass R_Model = some m.cls := findClass_of_methodNamed B.named
  have hlocks := B.notSynchronized
  have hK := hKK.1
  have hN := hKK.2.1
  have hO := hKK.2.2
  have hl := lv_entry ([.ref h0, .int cl, .int wh]) (n := 3) (Nat.le_of_ble_eq_true rfl)
  rw [lg_entry_eq]
  generalize (lg_sl ([.ref h0, .int cl, .int wh]) ++ List.replicate (3 - (lg_sl ([.ref h0, .int cl, .int wh])).length) Slot.unset).toArray = ls at hl ⊢
  have hl : lv_has ls 3 [(0, .ref h0), (1, .int cl), (2, .int wh)] := hl
  unfold f_M_reduced at h
  refine lv_aload_n hx hb d_M_reduced_0 rfl (lv_at hl 0 rfl) ?_
  refine lv_iload_n hx hb d_M_reduced_1 rfl (lv_at hl 1 rfl) ?_
  refine vp_callSi (va_Run.run (va_runV (As := [.int cl]) (rest := []) ⟨hx, hb, hml, hown, htg⟩ (c_M_isCell l D ct ws k0 h0 q1 q2 q3 q4 q5 q6 q7 q8 q9 cm stp mus mc_ mb_ cl hk0  _ rfl) (cwV 1 htg (giV tm_486 tm_488 tm_24 tm_34 g_M_isCell) rfl rfl rfl (by decide +kernel) ⟨Nat.le_of_ble_eq_true rfl, Nat.le_of_ble_eq_true rfl⟩) (preV hP hKK (va_recv hK hP (ci := 5) (q0 := k0) rfl hk0)) rfl rfl hl.1 rfl (lv_room (Nat.le_of_ble_eq_true rfl)) d_M_reduced_2 ⟨Nat.le_of_ble_eq_true rfl, Nat.le_of_ble_eq_true rfl⟩)) (fun r9 hr9 => ?_)
  have hr9 := hr9.symm
  subst hr9
  refine lv_if_eq (tgt := 18) hx hb d_M_reduced_5 (by decide) (fun c_1 => ?_) (fun c_1 => ?_)
  · rw [if_pos c_1] at h
    refine lv_lconst (v := (0 : Int64)) hx hb d_M_reduced_18 (by decide) ?_
    exact W.lret (v := (0 : Int64)) hx hb hr (fun t ht hW => ⟨(0 : Int64), rfl, (Option.some.inj h), ht⟩) (fun q h => by cases h) d_M_reduced_19
  · rw [if_neg c_1] at h
    refine lv_iload_n hx hb d_M_reduced_8 rfl (lv_at hl 2 rfl) ?_
    refine lv_if_lt (tgt := 18) hx hb d_M_reduced_9 (by decide) (fun c_2 => ?_) (fun c_2 => ?_)
    · rw [if_pos c_2] at h
      refine lv_lconst (v := (0 : Int64)) hx hb d_M_reduced_18 (by decide) ?_
      exact W.lret (v := (0 : Int64)) hx hb hr (fun t ht hW => ⟨(0 : Int64), rfl, (Option.some.inj h), ht⟩) (fun q h => by cases h) d_M_reduced_19
    · rw [if_neg c_2] at h
      refine lv_iload_n hx hb d_M_reduced_12 rfl (lv_at hl 2 rfl) ?_
      refine lv_bipush (v := (8 : Int32)) hx hb d_M_reduced_13 (by decide) ?_
      refine lv_icmp_le (tgt := 20) hx hb d_M_reduced_15 (by decide) (fun c_3 => ?_) (fun c_3 => ?_)
      · rw [if_pos c_3] at h
        refine lv_iload_n hx hb d_M_reduced_20 rfl (lv_at hl 2 rfl) ?_
        refine lv_bipush (v := (6 : Int32)) hx hb d_M_reduced_21 (by decide) ?_
        refine lv_icmp_ge (tgt := 40) hx hb d_M_reduced_23 (by decide) (fun c_4 => ?_) (fun c_4 => ?_)
        · rw [if_pos c_4] at h
          refine lv_iload_n hx hb d_M_reduced_40 rfl (lv_at hl 2 rfl) ?_
          refine lv_bipush (v := (6 : Int32)) hx hb d_M_reduced_41 (by decide) ?_
          refine lv_icmp_ne (tgt := 56) hx hb d_M_reduced_43 (by decide) (fun c_5 => ?_) (fun c_5 => ?_)
          · rw [if_neg c_5] at h
            refine lv_iload_n hx hb d_M_reduced_56 rfl (lv_at hl 2 rfl) ?_
            refine lv_bipush (v := (7 : Int32)) hx hb d_M_reduced_57 (by decide) ?_
            refine lv_icmp_ne (tgt := 76) hx hb d_M_reduced_59 (by decide) (fun c_6 => ?_) (fun c_6 => ?_)
            · rw [if_neg c_6] at h
              refine lv_aload_n hx hb d_M_reduced_76 rfl (lv_at hl 0 rfl) ?_
              refine va_get (D := D) (ci := 5) (v := .ref q5) (C := R_Model) (T := F_Model) (N := 14) hx hb htg i_Model hown hK hP k0 hk0 rfl 4 (by decide) (htg _ tm_402) (fun _ h9 => h9) rfl d_M_reduced_77 ?_
              refine lv_iload_n hx hb d_M_reduced_80 rfl (lv_at hl 1 rfl) ?_
              by_cases b_7 : inb cl 40 = true
              rotate_left
              · rw [if_neg b_7] at h; cases h
              rw [if_pos b_7] at h
              refine va_iald hx hb hK hP k3 2 hk3 rfl (inb_in b_7) d_M_reduced_81 ?_
              refine lv_i2l hx hb d_M_reduced_82 rfl ?_
              exact W.lret (v := (as_ cl.toNatClampNeg).toInt64) hx hb hr (fun t ht hW => ⟨(as_ cl.toNatClampNeg).toInt64, rfl, (Option.some.inj h), ht⟩) (fun q h => by cases h) d_M_reduced_83
            · rw [if_pos c_6] at h
              refine lv_aload_n hx hb d_M_reduced_62 rfl (lv_at hl 0 rfl) ?_
              refine va_get (D := D) (ci := 5) (v := .ref q3) (C := R_Model) (T := F_Model) (N := 14) hx hb htg i_Model hown hK hP k0 hk0 rfl 2 (by decide) (htg _ tm_400) (fun _ h9 => h9) rfl d_M_reduced_63 ?_
              refine lv_bipush (v := (6 : Int32)) hx hb d_M_reduced_66 (by decide) ?_
              refine lv_iload_n hx hb d_M_reduced_68 rfl (lv_at hl 1 rfl) ?_
              refine lv_imul hx hb d_M_reduced_69 ?_
              rcases e_8 : f_M_det al ((6 : Int32) * cl) with _ | v_9
              · rw [e_8] at h; cases h
              rw [e_8, Option.bind_some] at h
              try dsimp only at h
              refine vp_callSl (va_Run.run (va_runS (As := [.ref q3, .int ((6 : Int32) * cl)]) (rest := []) ⟨hx, hb, hml, hown, htg⟩ (c_M_det l D ct ws k1 q3 al ((6 : Int32) * cl) hk1  _ e_8) (cwS 2 htg (giS tm_451 tm_452 tm_34 g_M_det) rfl rfl rfl (by decide +kernel) ⟨Nat.le_of_ble_eq_true rfl, Nat.le_of_ble_eq_true rfl⟩) (preS hP hKK) rfl rfl hl.1 rfl (lv_room (Nat.le_of_ble_eq_true rfl)) d_M_reduced_70 ⟨Nat.le_of_ble_eq_true rfl, Nat.le_of_ble_eq_true rfl⟩)) (fun r9 hr9 => ?_)
              have hr9 := hr9.symm
              subst hr9
              refine lv_goto (tgt := 83) hx hb d_M_reduced_73 (by decide) ?_
              exact W.lret (v := v_9) hx hb hr (fun t ht hW => ⟨v_9, rfl, (Option.some.inj h), ht⟩) (fun q h => by cases h) d_M_reduced_83
          · rw [if_pos c_5] at h
            refine lv_aload_n hx hb d_M_reduced_46 rfl (lv_at hl 0 rfl) ?_
            refine va_get (D := D) (ci := 5) (v := .ref q4) (C := R_Model) (T := F_Model) (N := 14) hx hb htg i_Model hown hK hP k0 hk0 rfl 3 (by decide) (htg _ tm_401) (fun _ h9 => h9) rfl d_M_reduced_47 ?_
            refine lv_iload_n hx hb d_M_reduced_50 rfl (lv_at hl 1 rfl) ?_
            by_cases b_11 : inb cl 40 = true
            rotate_left
            · rw [if_neg b_11] at h; cases h
            rw [if_pos b_11] at h
            refine va_iald hx hb hK hP k2 2 hk2 rfl (inb_in b_11) d_M_reduced_51 ?_
            refine lv_i2l hx hb d_M_reduced_52 rfl ?_
            refine lv_goto (tgt := 83) hx hb d_M_reduced_53 (by decide) ?_
            exact W.lret (v := (ay cl.toNatClampNeg).toInt64) hx hb hr (fun t ht hW => ⟨(ay cl.toNatClampNeg).toInt64, rfl, (Option.some.inj h), ht⟩) (fun q h => by cases h) d_M_reduced_83
        · rw [if_neg c_4] at h
          refine lv_aload_n hx hb d_M_reduced_26 rfl (lv_at hl 0 rfl) ?_
          refine va_get (D := D) (ci := 5) (v := .ref q3) (C := R_Model) (T := F_Model) (N := 14) hx hb htg i_Model hown hK hP k0 hk0 rfl 2 (by decide) (htg _ tm_400) (fun _ h9 => h9) rfl d_M_reduced_27 ?_
          refine lv_bipush (v := (6 : Int32)) hx hb d_M_reduced_30 (by decide) ?_
          refine lv_iload_n hx hb d_M_reduced_32 rfl (lv_at hl 1 rfl) ?_
          refine lv_imul hx hb d_M_reduced_33 ?_
          refine lv_iload_n hx hb d_M_reduced_34 rfl (lv_at hl 2 rfl) ?_
          refine lv_iadd hx hb d_M_reduced_35 ?_
          by_cases b_12 : inb (((6 : Int32) * cl) + wh) 240 = true
          rotate_left
          · rw [if_neg b_12] at h; cases h
          rw [if_pos b_12] at h
          refine va_lald hx hb hK hP k1 0 hk1 rfl (inb_in b_12) d_M_reduced_36 ?_
          refine lv_goto (tgt := 83) hx hb d_M_reduced_37 (by decide) ?_
          exact W.lret (v := al (((6 : Int32) * cl) + wh).toNatClampNeg) hx hb hr (fun t ht hW => ⟨al (((6 : Int32) * cl) + wh).toNatClampNeg, rfl, (Option.some.inj h), ht⟩) (fun q h => by cases h) d_M_reduced_83
      · rw [if_neg c_3] at h
        refine lv_lconst (v := (0 : Int64)) hx hb d_M_reduced_18 (by decide) ?_
        exact W.lret (v := (0 : Int64)) hx hb hr (fun t ht hW => ⟨(0 : Int64), rfl, (Option.some.inj h), ht⟩) (fun q h => by cases h) d_M_reduced_19
-- CellBenchModel step (IIII)J
def f_M_step (cm : Int32) (ac : Nat → Int64) (cl : Int32) (x_ : Int32) (y_ : Int32) (z_ : Int32) : Option (Int64) :=
    if (f_M_isCell cm cl) = 0 then (some (0 : Int64)) else (if (f_M_between (x_.toInt64) (-1000 : Int64) (1000 : Int64)) = 0 then (some (0 : Int64)) else (if (f_M_between (y_.toInt64) (-1000 : Int64) (1000 : Int64)) = 0 then (some (0 : Int64)) else (if (f_M_between (z_.toInt64) (-1000 : Int64) (1000 : Int64)) = 0 then (some (0 : Int64)) else (Option.bind (f_M_dot ac ((6 : Int32) * cl) (x_.toInt64) (y_.toInt64) (z_.toInt64) (x_.toInt64) (y_.toInt64) (z_.toInt64)) (fun z_7 => (some z_7))))))
def w_M_step : List Cond := .code y_M_step b_M_step 5 (some .long) :: GW
abbrev rm_M_step : Room := { frames := 1, cells := 0, slots := 0, locals := 33 }
theorem g_M_step : GoodIn GW w_M_step := gi tm_533
set_option maxHeartbeats 4000000 in
set_option maxRecDepth 100000 in
theorem c_M_step (l : Launch) (D : va_G) (ct : CT) (ws : va_W) (k0 : Nat) (k1 : Nat) (h0 : Nat) (q1 : Nat) (q2 : Nat) (q3 : Nat) (q4 : Nat) (q5 : Nat) (q6 : Nat) (q7 : Nat) (q8 : Nat) (q9 : Nat) (cm : Int32) (stp : Int32) (mus : Int32) (mc_ : Int32) (mb_ : Int32) (ac : Nat → Int64) (cl : Int32) (x_ : Int32) (y_ : Int32) (z_ : Int32) (hk0 : ws[k0]? = some (h0, .inr (5, [.ref q1, .ref q2, .ref q3, .ref q4, .ref q5, .int cm, .int stp, .ref q6, .ref q7, .ref q8, .int mus, .int mc_, .int mb_, .ref q9]))) (hk1 : ws[k1]? = some (q2, .inl (ct.1, 240, .inr (.inl ac))))  (r0 : Int64) (h : f_M_step cm ac cl x_ y_ z_ = some r0) : Met l y_M_step w_M_step rm_M_step (va_Pc [.ref h0, .int cl, .int x_, .int y_, .int z_] (PreP D ct ws)) (vp_Sl (fun r => r = r0)) 0 0 (fun _ => False) := by
  refine Met.ofW (cc := b_M_step) (maxL := 5) (ret := (some .long)) (by decide) rfl ?_
  intro p e s m args below meth c s₁ B hml hv
  obtain ⟨rfl, hP, hKK⟩ := hv
  have hx := B.exec
  have hb := B.bytes
  have hr := B.returns
  have htg := ht_tl (atoms_spec (ws := w_M_step) B.pre)
  have hown : s.vm.findClass R_Model = some m.cls := findClass_of_methodNamed B.named
  have hlocks := B.notSynchronized
  have hK := hKK.1
  have hN := hKK.2.1
  have hO := hKK.2.2
  have hl := lv_entry ([.ref h0, .int cl, .int x_, .int y_, .int z_]) (n := 5) (Nat.le_of_ble_eq_true rfl)
  rw [lg_entry_eq]
  generalize (lg_sl ([.ref h0, .int cl, .int x_, .int y_, .int z_]) ++ List.replicate (5 - (lg_sl ([.ref h0, .int cl, .int x_, .int y_, .int z_])).length) Slot.unset).toArray = ls at hl ⊢
  have hl : lv_has ls 5 [(0, .ref h0), (1, .int cl), (2, .int x_), (3, .int y_), (4, .int z_)] := hl
  unfold f_M_step at h
  refine lv_aload_n hx hb d_M_step_0 rfl (lv_at hl 0 rfl) ?_
  refine lv_iload_n hx hb d_M_step_1 rfl (lv_at hl 1 rfl) ?_
  refine vp_callSi (va_Run.run (va_runV (As := [.int cl]) (rest := []) ⟨hx, hb, hml, hown, htg⟩ (c_M_isCell l D ct ws k0 h0 q1 q2 q3 q4 q5 q6 q7 q8 q9 cm stp mus mc_ mb_ cl hk0  _ rfl) (cwV 1 htg (giV tm_486 tm_488 tm_24 tm_34 g_M_isCell) rfl rfl rfl (by decide +kernel) ⟨Nat.le_of_ble_eq_true rfl, Nat.le_of_ble_eq_true rfl⟩) (preV hP hKK (va_recv hK hP (ci := 5) (q0 := k0) rfl hk0)) rfl rfl hl.1 rfl (lv_room (Nat.le_of_ble_eq_true rfl)) d_M_step_2 ⟨Nat.le_of_ble_eq_true rfl, Nat.le_of_ble_eq_true rfl⟩)) (fun r9 hr9 => ?_)
  have hr9 := hr9.symm
  subst hr9
  refine lv_if_eq (tgt := 51) hx hb d_M_step_5 (by decide) (fun c_1 => ?_) (fun c_1 => ?_)
  · rw [if_pos c_1] at h
    refine lv_lconst (v := (0 : Int64)) hx hb d_M_step_51 (by decide) ?_
    exact W.lret (v := (0 : Int64)) hx hb hr (fun t ht hW => ⟨(0 : Int64), rfl, (Option.some.inj h), ht⟩) (fun q h => by cases h) d_M_step_52
  · rw [if_neg c_1] at h
    refine lv_iload_n hx hb d_M_step_8 rfl (lv_at hl 2 rfl) ?_
    refine lv_i2l hx hb d_M_step_9 rfl ?_
    refine lv_ldc2 (v := (-1000 : Int64)) hx hb hown (htg _ tm_534) d_M_step_10 ?_
    refine lv_ldc2 (v := (1000 : Int64)) hx hb hown (htg _ tm_535) d_M_step_13 ?_
    refine vp_callSi (va_Run.run (va_runS (As := [.long (x_.toInt64), .long (-1000 : Int64), .long (1000 : Int64)]) (rest := []) ⟨hx, hb, hml, hown, htg⟩ (c_M_between l D ct ws  (x_.toInt64) (-1000 : Int64) (1000 : Int64)   _ rfl) (cwS 3 htg (giS tm_447 tm_448 tm_34 g_M_between) rfl rfl rfl (by decide +kernel) ⟨Nat.le_of_ble_eq_true rfl, Nat.le_of_ble_eq_true rfl⟩) (preS hP hKK) rfl rfl hl.1 rfl (lv_room (Nat.le_of_ble_eq_true rfl)) d_M_step_16 ⟨Nat.le_of_ble_eq_true rfl, Nat.le_of_ble_eq_true rfl⟩)) (fun r9 hr9 => ?_)
    have hr9 := hr9.symm
    subst hr9
    refine lv_if_eq (tgt := 51) hx hb d_M_step_19 (by decide) (fun c_2 => ?_) (fun c_2 => ?_)
    · rw [if_pos c_2] at h
      refine lv_lconst (v := (0 : Int64)) hx hb d_M_step_51 (by decide) ?_
      exact W.lret (v := (0 : Int64)) hx hb hr (fun t ht hW => ⟨(0 : Int64), rfl, (Option.some.inj h), ht⟩) (fun q h => by cases h) d_M_step_52
    · rw [if_neg c_2] at h
      refine lv_iload_n hx hb d_M_step_22 rfl (lv_at hl 3 rfl) ?_
      refine lv_i2l hx hb d_M_step_23 rfl ?_
      refine lv_ldc2 (v := (-1000 : Int64)) hx hb hown (htg _ tm_534) d_M_step_24 ?_
      refine lv_ldc2 (v := (1000 : Int64)) hx hb hown (htg _ tm_535) d_M_step_27 ?_
      refine vp_callSi (va_Run.run (va_runS (As := [.long (y_.toInt64), .long (-1000 : Int64), .long (1000 : Int64)]) (rest := []) ⟨hx, hb, hml, hown, htg⟩ (c_M_between l D ct ws  (y_.toInt64) (-1000 : Int64) (1000 : Int64)   _ rfl) (cwS 3 htg (giS tm_447 tm_448 tm_34 g_M_between) rfl rfl rfl (by decide +kernel) ⟨Nat.le_of_ble_eq_true rfl, Nat.le_of_ble_eq_true rfl⟩) (preS hP hKK) rfl rfl hl.1 rfl (lv_room (Nat.le_of_ble_eq_true rfl)) d_M_step_30 ⟨Nat.le_of_ble_eq_true rfl, Nat.le_of_ble_eq_true rfl⟩)) (fun r9 hr9 => ?_)
      have hr9 := hr9.symm
      subst hr9
      refine lv_if_eq (tgt := 51) hx hb d_M_step_33 (by decide) (fun c_3 => ?_) (fun c_3 => ?_)
      · rw [if_pos c_3] at h
        refine lv_lconst (v := (0 : Int64)) hx hb d_M_step_51 (by decide) ?_
        exact W.lret (v := (0 : Int64)) hx hb hr (fun t ht hW => ⟨(0 : Int64), rfl, (Option.some.inj h), ht⟩) (fun q h => by cases h) d_M_step_52
      · rw [if_neg c_3] at h
        refine lv_iload hx hb d_M_step_36 (lv_at hl 4 rfl) ?_
        refine lv_i2l hx hb d_M_step_38 rfl ?_
        refine lv_ldc2 (v := (-1000 : Int64)) hx hb hown (htg _ tm_534) d_M_step_39 ?_
        refine lv_ldc2 (v := (1000 : Int64)) hx hb hown (htg _ tm_535) d_M_step_42 ?_
        refine vp_callSi (va_Run.run (va_runS (As := [.long (z_.toInt64), .long (-1000 : Int64), .long (1000 : Int64)]) (rest := []) ⟨hx, hb, hml, hown, htg⟩ (c_M_between l D ct ws  (z_.toInt64) (-1000 : Int64) (1000 : Int64)   _ rfl) (cwS 3 htg (giS tm_447 tm_448 tm_34 g_M_between) rfl rfl rfl (by decide +kernel) ⟨Nat.le_of_ble_eq_true rfl, Nat.le_of_ble_eq_true rfl⟩) (preS hP hKK) rfl rfl hl.1 rfl (lv_room (Nat.le_of_ble_eq_true rfl)) d_M_step_45 ⟨Nat.le_of_ble_eq_true rfl, Nat.le_of_ble_eq_true rfl⟩)) (fun r9 hr9 => ?_)
        have hr9 := hr9.symm
        subst hr9
        refine lv_if_ne (tgt := 53) hx hb d_M_step_48 (by decide) (fun c_4 => ?_) (fun c_4 => ?_)
        · rw [if_neg c_4] at h
          refine lv_aload_n hx hb d_M_step_53 rfl (lv_at hl 0 rfl) ?_
          refine va_get (D := D) (ci := 5) (v := .ref q2) (C := R_Model) (T := F_Model) (N := 14) hx hb htg i_Model hown hK hP k0 hk0 rfl 1 (by decide) (htg _ tm_399) (fun _ h9 => h9) rfl d_M_step_54 ?_
          refine lv_bipush (v := (6 : Int32)) hx hb d_M_step_57 (by decide) ?_
          refine lv_iload_n hx hb d_M_step_59 rfl (lv_at hl 1 rfl) ?_
          refine lv_imul hx hb d_M_step_60 ?_
          refine lv_iload_n hx hb d_M_step_61 rfl (lv_at hl 2 rfl) ?_
          refine lv_i2l hx hb d_M_step_62 rfl ?_
          refine lv_iload_n hx hb d_M_step_63 rfl (lv_at hl 3 rfl) ?_
          refine lv_i2l hx hb d_M_step_64 rfl ?_
          refine lv_iload hx hb d_M_step_65 (lv_at hl 4 rfl) ?_
          refine lv_i2l hx hb d_M_step_67 rfl ?_
          refine lv_iload_n hx hb d_M_step_68 rfl (lv_at hl 2 rfl) ?_
          refine lv_i2l hx hb d_M_step_69 rfl ?_
          refine lv_iload_n hx hb d_M_step_70 rfl (lv_at hl 3 rfl) ?_
          refine lv_i2l hx hb d_M_step_71 rfl ?_
          refine lv_iload hx hb d_M_step_72 (lv_at hl 4 rfl) ?_
          refine lv_i2l hx hb d_M_step_74 rfl ?_
          rcases e_5 : f_M_dot ac ((6 : Int32) * cl) (x_.toInt64) (y_.toInt64) (z_.toInt64) (x_.toInt64) (y_.toInt64) (z_.toInt64) with _ | v_6
          · rw [e_5] at h; cases h
          rw [e_5, Option.bind_some] at h
          try dsimp only at h
          refine vp_callSl (va_Run.run (va_runS (As := [.ref q2, .int ((6 : Int32) * cl), .long (x_.toInt64), .long (y_.toInt64), .long (z_.toInt64), .long (x_.toInt64), .long (y_.toInt64), .long (z_.toInt64)]) (rest := []) ⟨hx, hb, hml, hown, htg⟩ (c_M_dot l D ct ws k1 q2 ac ((6 : Int32) * cl) (x_.toInt64) (y_.toInt64) (z_.toInt64) (x_.toInt64) (y_.toInt64) (z_.toInt64) hk1  _ e_5) (cwS 8 htg (giS tm_479 tm_480 tm_34 g_M_dot) rfl rfl rfl (by decide +kernel) ⟨Nat.le_of_ble_eq_true rfl, Nat.le_of_ble_eq_true rfl⟩) (preS hP hKK) rfl rfl hl.1 rfl (lv_room (Nat.le_of_ble_eq_true rfl)) d_M_step_75 ⟨Nat.le_of_ble_eq_true rfl, Nat.le_of_ble_eq_true rfl⟩)) (fun r9 hr9 => ?_)
          have hr9 := hr9.symm
          subst hr9
          exact W.lret (v := v_6) hx hb hr (fun t ht hW => ⟨v_6, rfl, (Option.some.inj h), ht⟩) (fun q h => by cases h) d_M_step_78
        · rw [if_pos c_4] at h
          refine lv_lconst (v := (0 : Int64)) hx hb d_M_step_51 (by decide) ?_
          exact W.lret (v := (0 : Int64)) hx hb hr (fun t ht hW => ⟨(0 : Int64), rfl, (Option.some.inj h), ht⟩) (fun q h => by cases h) d_M_step_52
-- CellBenchModel compared (I)I
def lp_M_comp_2 (ax : Nat → Int64) (au : Nat → Int64) (ki : Int32) : Nat → Int32 → Option (Int32)
  | 0, _ => none
  | n + 1, ii =>
    if (6 : Int32) ≤ ii then (some (0 : Int32)) else (if inb ii 6 = true then (if inb (((6 : Int32) * ki) + ii) 3000 = true then (if (lg_cmp (ax ii.toNatClampNeg) (au (((6 : Int32) * ki) + ii).toNatClampNeg)) = 0 then (lp_M_comp_2 ax au ki n (ii + (1 : Int32))) else (if inb ii 6 = true then (if inb (((6 : Int32) * ki) + ii) 3000 = true then (if 0 ≤ (lg_cmp (ax ii.toNatClampNeg) (au (((6 : Int32) * ki) + ii).toNatClampNeg)) then (some (1 : Int32)) else (some (-1 : Int32))) else none) else none)) else none) else none)
def f_M_comp (ax : Nat → Int64) (au : Nat → Int64) (ki : Int32) : Option (Int32) :=
    lp_M_comp_2 ax au ki 7 (0 : Int32)
def w_M_comp : List Cond := .code y_M_comp b_M_comp 3 (some .int) :: GW
abbrev rm_M_comp : Room := { frames := 0, cells := 0, slots := 0, locals := 0 }
theorem g_M_comp : GoodIn GW w_M_comp := gi tm_521
set_option maxHeartbeats 4000000 in
set_option maxRecDepth 100000 in
theorem c_M_comp (l : Launch) (D : va_G) (ct : CT) (ws : va_W) (k0 : Nat) (k1 : Nat) (k2 : Nat) (h0 : Nat) (q1 : Nat) (q2 : Nat) (q3 : Nat) (q4 : Nat) (q5 : Nat) (q6 : Nat) (q7 : Nat) (q8 : Nat) (q9 : Nat) (cm : Int32) (stp : Int32) (mus : Int32) (mc_ : Int32) (mb_ : Int32) (ax : Nat → Int64) (au : Nat → Int64) (ki : Int32) (hk0 : ws[k0]? = some (h0, .inr (5, [.ref q1, .ref q2, .ref q3, .ref q4, .ref q5, .int cm, .int stp, .ref q6, .ref q7, .ref q8, .int mus, .int mc_, .int mb_, .ref q9]))) (hk1 : ws[k1]? = some (q6, .inl (ct.1, 6, .inr (.inl ax)))) (hk2 : ws[k2]? = some (q7, .inl (ct.1, 3000, .inr (.inl au))))  (r0 : Int32) (h : f_M_comp ax au ki = some r0) : Met l y_M_comp w_M_comp rm_M_comp (va_Pc [.ref h0, .int ki] (PreP D ct ws)) (vp_Si (fun r => r = r0)) 0 0 (fun _ => False) := by
  refine Met.ofW (cc := b_M_comp) (maxL := 3) (ret := (some .int)) (by decide) rfl ?_
  intro p e s m args below meth c s₁ B hml hv
  obtain ⟨rfl, hP, hKK⟩ := hv
  have hx := B.exec
  have hb := B.bytes
  have hr := B.returns
  have htg := ht_tl (atoms_spec (ws := w_M_comp) B.pre)
  have hown : s.vm.findClass R_Model = some m.cls := findClass_of_methodNamed B.named
  have hlocks := B.notSynchronized
  have hK := hKK.1
  have hN := hKK.2.1
  have hO := hKK.2.2
  have hl := lv_entry ([.ref h0, .int ki]) (n := 3) (Nat.le_of_ble_eq_true rfl)
  rw [lg_entry_eq]
  generalize (lg_sl ([.ref h0, .int ki]) ++ List.replicate (3 - (lg_sl ([.ref h0, .int ki])).length) Slot.unset).toArray = ls at hl ⊢
  have hl : lv_has ls 3 [(0, .ref h0), (1, .int ki)] := hl
  unfold f_M_comp at h
  refine lv_iconst (v := (0 : Int32)) hx hb d_M_comp_0 (by decide) ?_
  refine lv_istore_n (lv' := [(2, .int (0 : Int32)), (0, .ref h0), (1, .int ki)]) hx hb d_M_comp_1 rfl hl (by decide) rfl (fun ls hl => ?_)
  have L_2 : ∀ (n : Nat) (ii : Int32) , lp_M_comp_2 ax au ki n ii = some r0 → ∀ (ls : Array Slot), lv_has ls 3 [(2, .int ii), (0, .ref h0), (1, .int ki)] → W p l e (headSpec w_M_comp rm_M_comp).room s m ([.ref h0, .int ki] : List Value).toArray below meth c s.heap [] 0 0 (MQ below (vp_Si (fun r => r = r0)) ([.ref h0, .int ki] : List Value).toArray s 0 0 (fun _ => False)) (F0 m 2 ls []) := by
    intro n
    induction n with
    | zero =>
      intro ii  h
      rw [lp_M_comp_2] at h
      cases h
    | succ n ih =>
      intro ii  h ls hl
      rw [lp_M_comp_2] at h
      refine lv_iload_n hx hb d_M_comp_2 rfl (lv_at hl 0 rfl) ?_
      refine lv_bipush (v := (6 : Int32)) hx hb d_M_comp_3 (by decide) ?_
      refine lv_icmp_ge (tgt := 62) hx hb d_M_comp_5 (by decide) (fun c_1 => ?_) (fun c_1 => ?_)
      · rw [if_pos c_1] at h
        refine lv_iconst (v := (0 : Int32)) hx hb d_M_comp_62 (by decide) ?_
        exact W.iret (v := (0 : Int32)) hx hb hr (fun t ht hW => ⟨(0 : Int32), rfl, (Option.some.inj h), ht⟩) (fun q h => by cases h) d_M_comp_63
      · rw [if_neg c_1] at h
        refine lv_aload_n hx hb d_M_comp_8 rfl (lv_at hl 1 rfl) ?_
        refine va_get (D := D) (ci := 5) (v := .ref q6) (C := R_Model) (T := F_Model) (N := 14) hx hb htg i_Model hown hK hP k0 hk0 rfl 7 (by decide) (htg _ tm_405) (fun _ h9 => h9) rfl d_M_comp_9 ?_
        refine lv_iload_n hx hb d_M_comp_12 rfl (lv_at hl 0 rfl) ?_
        by_cases b_2 : inb ii 6 = true
        rotate_left
        · rw [if_neg b_2] at h; cases h
        rw [if_pos b_2] at h
        refine va_lald hx hb hK hP k1 0 hk1 rfl (inb_in b_2) d_M_comp_13 ?_
        refine lv_aload_n hx hb d_M_comp_14 rfl (lv_at hl 1 rfl) ?_
        refine va_get (D := D) (ci := 5) (v := .ref q7) (C := R_Model) (T := F_Model) (N := 14) hx hb htg i_Model hown hK hP k0 hk0 rfl 8 (by decide) (htg _ tm_406) (fun _ h9 => h9) rfl d_M_comp_15 ?_
        refine lv_bipush (v := (6 : Int32)) hx hb d_M_comp_18 (by decide) ?_
        refine lv_iload_n hx hb d_M_comp_20 rfl (lv_at hl 2 rfl) ?_
        refine lv_imul hx hb d_M_comp_21 ?_
        refine lv_iload_n hx hb d_M_comp_22 rfl (lv_at hl 0 rfl) ?_
        refine lv_iadd hx hb d_M_comp_23 ?_
        by_cases b_3 : inb (((6 : Int32) * ki) + ii) 3000 = true
        rotate_left
        · rw [if_neg b_3] at h; cases h
        rw [if_pos b_3] at h
        refine va_lald hx hb hK hP k2 0 hk2 rfl (inb_in b_3) d_M_comp_24 ?_
        refine W.lcmp hx hb d_M_comp_25 ?_
        refine lv_if_eq (tgt := 56) hx hb d_M_comp_26 (by decide) (fun c_4 => ?_) (fun c_4 => ?_)
        · rw [if_pos c_4] at h
          refine lv_iinc (v := ii + (1 : Int32)) (lv' := [(2, .int (ii + (1 : Int32))), (0, .ref h0), (1, .int ki)]) hx hb d_M_comp_56 hl (k := 0) rfl rfl (by decide) rfl (fun ls hl => ?_)
          refine lv_goto (tgt := 2) hx hb d_M_comp_59 (by decide) ?_
          exact ih (ii + (1 : Int32)) h ls (lv_sub hl [0, 1, 2] rfl)
        · rw [if_neg c_4] at h
          refine lv_aload_n hx hb d_M_comp_29 rfl (lv_at hl 1 rfl) ?_
          refine va_get (D := D) (ci := 5) (v := .ref q6) (C := R_Model) (T := F_Model) (N := 14) hx hb htg i_Model hown hK hP k0 hk0 rfl 7 (by decide) (htg _ tm_405) (fun _ h9 => h9) rfl d_M_comp_30 ?_
          refine lv_iload_n hx hb d_M_comp_33 rfl (lv_at hl 0 rfl) ?_
          by_cases b_5 : inb ii 6 = true
          rotate_left
          · rw [if_neg b_5] at h; cases h
          rw [if_pos b_5] at h
          refine va_lald hx hb hK hP k1 0 hk1 rfl (inb_in b_5) d_M_comp_34 ?_
          refine lv_aload_n hx hb d_M_comp_35 rfl (lv_at hl 1 rfl) ?_
          refine va_get (D := D) (ci := 5) (v := .ref q7) (C := R_Model) (T := F_Model) (N := 14) hx hb htg i_Model hown hK hP k0 hk0 rfl 8 (by decide) (htg _ tm_406) (fun _ h9 => h9) rfl d_M_comp_36 ?_
          refine lv_bipush (v := (6 : Int32)) hx hb d_M_comp_39 (by decide) ?_
          refine lv_iload_n hx hb d_M_comp_41 rfl (lv_at hl 2 rfl) ?_
          refine lv_imul hx hb d_M_comp_42 ?_
          refine lv_iload_n hx hb d_M_comp_43 rfl (lv_at hl 0 rfl) ?_
          refine lv_iadd hx hb d_M_comp_44 ?_
          by_cases b_6 : inb (((6 : Int32) * ki) + ii) 3000 = true
          rotate_left
          · rw [if_neg b_6] at h; cases h
          rw [if_pos b_6] at h
          refine va_lald hx hb hK hP k2 0 hk2 rfl (inb_in b_6) d_M_comp_45 ?_
          refine W.lcmp hx hb d_M_comp_46 ?_
          refine lv_if_ge (tgt := 54) hx hb d_M_comp_47 (by decide) (fun c_7 => ?_) (fun c_7 => ?_)
          · rw [if_pos c_7] at h
            refine lv_iconst (v := (1 : Int32)) hx hb d_M_comp_54 (by decide) ?_
            exact W.iret (v := (1 : Int32)) hx hb hr (fun t ht hW => ⟨(1 : Int32), rfl, (Option.some.inj h), ht⟩) (fun q h => by cases h) d_M_comp_55
          · rw [if_neg c_7] at h
            refine lv_iconst (v := (-1 : Int32)) hx hb d_M_comp_50 (by decide) ?_
            refine lv_goto (tgt := 55) hx hb d_M_comp_51 (by decide) ?_
            exact W.iret (v := (-1 : Int32)) hx hb hr (fun t ht hW => ⟨(-1 : Int32), rfl, (Option.some.inj h), ht⟩) (fun q h => by cases h) d_M_comp_55
  exact L_2 7 (0 : Int32) h ls (lv_sub hl [0, 1, 2] rfl)
