-- CellBench$Products at (I)J
def f_P_at (fa : Int64) (fb : Int64) (fc : Int64) (fd : Int64) (fe : Int64) (ff : Int64) (wh : Int32) : Int64 :=
    if wh = (0 : Int32) then fa else (if wh = (1 : Int32) then fb else (if wh = (2 : Int32) then fc else (if wh = (3 : Int32) then fd else (if wh = (4 : Int32) then fe else (if wh = (5 : Int32) then ff else (0 : Int64))))))
def w_P_at : List Cond := .code y_P_at b_P_at 2 (some .long) :: GW
abbrev rm_P_at : Room := { frames := 0, cells := 0, slots := 0, locals := 0 }
theorem g_P_at : GoodIn GW w_P_at := gi tm_286
set_option maxHeartbeats 4000000 in
set_option maxRecDepth 100000 in
theorem c_P_at (l : Launch) (D : va_G) (ct : CT) (ws : va_W) (k0 : Nat) (h0 : Nat) (fa : Int64) (fb : Int64) (fc : Int64) (fd : Int64) (fe : Int64) (ff : Int64) (wh : Int32) (hk0 : ws[k0]? = some (h0, .inr (0, [.long fa, .long fb, .long fc, .long fd, .long fe, .long ff])))  (r0 : Int64) (h : f_P_at fa fb fc fd fe ff wh = r0) : Met l y_P_at w_P_at rm_P_at (va_Pc [.ref h0, .int wh] (PreP D ct ws)) (vp_Sl (fun r => r = r0)) 0 0 (fun _ => False) := by
  refine Met.ofW (cc := b_P_at) (maxL := 2) (ret := (some .long)) (by decide) rfl ?_
  intro p e s m args below meth c s₁ B hml hv
  obtain ⟨rfl, hP, hKK⟩ := hv
  have hx := B.exec
  have hb := B.bytes
  have hr := B.returns
  have htg := ht_tl (atoms_spec (ws := w_P_at) B.pre)
  have hown : s.vm.findClass R_Products = some m.cls := findClass_of_methodNamed B.named
  have hlocks := B.notSynchronized
  have hK := hKK.1
  have hN := hKK.2.1
  have hO := hKK.2.2
  have hl := lv_entry ([.ref h0, .int wh]) (n := 2) (Nat.le_of_ble_eq_true rfl)
  rw [lg_entry_eq]
  generalize (lg_sl ([.ref h0, .int wh]) ++ List.replicate (2 - (lg_sl ([.ref h0, .int wh])).length) Slot.unset).toArray = ls at hl ⊢
  have hl : lv_has ls 2 [(0, .ref h0), (1, .int wh)] := hl
  unfold f_P_at at h
  refine lv_iload_n hx hb d_P_at_0 rfl (lv_at hl 1 rfl) ?_
  by_cases c_1 : wh = (0 : Int32)
  · rw [if_pos c_1] at h
    refine lv_tableIn (off := 39) (tgt := 40) hx hb d_P_at_1 (by rw [c_1]; decide) (by rw [c_1]; decide) (by rw [c_1]; rfl) (by decide) ?_
    refine lv_aload_n hx hb d_P_at_40 rfl (lv_at hl 0 rfl) ?_
    refine va_get (D := D) (ci := 0) (v := .long fa) (C := R_Products) (T := F_Products) (N := 6) hx hb htg i_Products hown hK hP k0 hk0 rfl 0 (by decide) (htg _ tm_133) (fun _ h9 => h9) rfl d_P_at_41 ?_
    exact W.lret (v := fa) hx hb hr (fun t ht hW => ⟨fa, rfl, h, ht⟩) (fun q h => by cases h) d_P_at_44
  rw [if_neg c_1] at h
  by_cases c_2 : wh = (1 : Int32)
  · rw [if_pos c_2] at h
    refine lv_tableIn (off := 44) (tgt := 45) hx hb d_P_at_1 (by rw [c_2]; decide) (by rw [c_2]; decide) (by rw [c_2]; rfl) (by decide) ?_
    refine lv_aload_n hx hb d_P_at_45 rfl (lv_at hl 0 rfl) ?_
    refine va_get (D := D) (ci := 0) (v := .long fb) (C := R_Products) (T := F_Products) (N := 6) hx hb htg i_Products hown hK hP k0 hk0 rfl 1 (by decide) (htg _ tm_135) (fun _ h9 => h9) rfl d_P_at_46 ?_
    exact W.lret (v := fb) hx hb hr (fun t ht hW => ⟨fb, rfl, h, ht⟩) (fun q h => by cases h) d_P_at_49
  rw [if_neg c_2] at h
  by_cases c_3 : wh = (2 : Int32)
  · rw [if_pos c_3] at h
    refine lv_tableIn (off := 49) (tgt := 50) hx hb d_P_at_1 (by rw [c_3]; decide) (by rw [c_3]; decide) (by rw [c_3]; rfl) (by decide) ?_
    refine lv_aload_n hx hb d_P_at_50 rfl (lv_at hl 0 rfl) ?_
    refine va_get (D := D) (ci := 0) (v := .long fc) (C := R_Products) (T := F_Products) (N := 6) hx hb htg i_Products hown hK hP k0 hk0 rfl 2 (by decide) (htg _ tm_137) (fun _ h9 => h9) rfl d_P_at_51 ?_
    exact W.lret (v := fc) hx hb hr (fun t ht hW => ⟨fc, rfl, h, ht⟩) (fun q h => by cases h) d_P_at_54
  rw [if_neg c_3] at h
  by_cases c_4 : wh = (3 : Int32)
  · rw [if_pos c_4] at h
    refine lv_tableIn (off := 54) (tgt := 55) hx hb d_P_at_1 (by rw [c_4]; decide) (by rw [c_4]; decide) (by rw [c_4]; rfl) (by decide) ?_
    refine lv_aload_n hx hb d_P_at_55 rfl (lv_at hl 0 rfl) ?_
    refine va_get (D := D) (ci := 0) (v := .long fd) (C := R_Products) (T := F_Products) (N := 6) hx hb htg i_Products hown hK hP k0 hk0 rfl 3 (by decide) (htg _ tm_139) (fun _ h9 => h9) rfl d_P_at_56 ?_
    exact W.lret (v := fd) hx hb hr (fun t ht hW => ⟨fd, rfl, h, ht⟩) (fun q h => by cases h) d_P_at_59
  rw [if_neg c_4] at h
  by_cases c_5 : wh = (4 : Int32)
  · rw [if_pos c_5] at h
    refine lv_tableIn (off := 59) (tgt := 60) hx hb d_P_at_1 (by rw [c_5]; decide) (by rw [c_5]; decide) (by rw [c_5]; rfl) (by decide) ?_
    refine lv_aload_n hx hb d_P_at_60 rfl (lv_at hl 0 rfl) ?_
    refine va_get (D := D) (ci := 0) (v := .long fe) (C := R_Products) (T := F_Products) (N := 6) hx hb htg i_Products hown hK hP k0 hk0 rfl 4 (by decide) (htg _ tm_141) (fun _ h9 => h9) rfl d_P_at_61 ?_
    exact W.lret (v := fe) hx hb hr (fun t ht hW => ⟨fe, rfl, h, ht⟩) (fun q h => by cases h) d_P_at_64
  rw [if_neg c_5] at h
  by_cases c_6 : wh = (5 : Int32)
  · rw [if_pos c_6] at h
    refine lv_tableIn (off := 64) (tgt := 65) hx hb d_P_at_1 (by rw [c_6]; decide) (by rw [c_6]; decide) (by rw [c_6]; rfl) (by decide) ?_
    refine lv_aload_n hx hb d_P_at_65 rfl (lv_at hl 0 rfl) ?_
    refine va_get (D := D) (ci := 0) (v := .long ff) (C := R_Products) (T := F_Products) (N := 6) hx hb htg i_Products hown hK hP k0 hk0 rfl 5 (by decide) (htg _ tm_143) (fun _ h9 => h9) rfl d_P_at_66 ?_
    exact W.lret (v := ff) hx hb hr (fun t ht hW => ⟨ff, rfl, h, ht⟩) (fun q h => by cases h) d_P_at_69
  rw [if_neg c_6] at h
  refine lv_tableOut (tgt := 70) hx hb d_P_at_1 (by have z0 := lv_neT (a := 0) c_1 (by decide); have z1 := lv_neT (a := 1) c_2 (by decide); have z2 := lv_neT (a := 2) c_3 (by decide); have z3 := lv_neT (a := 3) c_4 (by decide); have z4 := lv_neT (a := 4) c_5 (by decide); have z5 := lv_neT (a := 5) c_6 (by decide); omega) (by decide) ?_
  refine lv_lconst (v := (0 : Int64)) hx hb d_P_at_70 (by decide) ?_
  exact W.lret (v := (0 : Int64)) hx hb hr (fun t ht hW => ⟨(0 : Int64), rfl, h, ht⟩) (fun q h => by cases h) d_P_at_71
-- CellBench$Products determinant ()J
def f_P_det (fa : Int64) (fb : Int64) (fc : Int64) (fd : Int64) (fe : Int64) (ff : Int64) : Int64 :=
    ((fa * ((fb * fc) - (fd * fd))) - (ff * ((ff * fc) - (fd * fe)))) + (fe * ((ff * fd) - (fb * fe)))
def w_P_det : List Cond := .code y_P_det b_P_det 1 (some .long) :: GW
abbrev rm_P_det : Room := { frames := 0, cells := 0, slots := 0, locals := 0 }
theorem g_P_det : GoodIn GW w_P_det := gi tm_165
set_option maxHeartbeats 4000000 in
set_option maxRecDepth 100000 in
theorem c_P_det (l : Launch) (D : va_G) (ct : CT) (ws : va_W) (k0 : Nat) (h0 : Nat) (fa : Int64) (fb : Int64) (fc : Int64) (fd : Int64) (fe : Int64) (ff : Int64) (hk0 : ws[k0]? = some (h0, .inr (0, [.long fa, .long fb, .long fc, .long fd, .long fe, .long ff])))  (r0 : Int64) (h : f_P_det fa fb fc fd fe ff = r0) : Met l y_P_det w_P_det rm_P_det (va_Pc [.ref h0] (PreP D ct ws)) (vp_Sl (fun r => r = r0)) 0 0 (fun _ => False) := by
  refine Met.ofW (cc := b_P_det) (maxL := 1) (ret := (some .long)) (by decide) rfl ?_
  intro p e s m args below meth c s₁ B hml hv
  obtain ⟨rfl, hP, hKK⟩ := hv
  have hx := B.exec
  have hb := B.bytes
  have hr := B.returns
  have htg := ht_tl (atoms_spec (ws := w_P_det) B.pre)
  have hown : s.vm.findClass R_Products = some m.cls := findClass_of_methodNamed B.named
  have hlocks := B.notSynchronized
  have hK := hKK.1
  have hN := hKK.2.1
  have hO := hKK.2.2
  have hl := lv_entry ([.ref h0]) (n := 1) (Nat.le_of_ble_eq_true rfl)
  rw [lg_entry_eq]
  generalize (lg_sl ([.ref h0]) ++ List.replicate (1 - (lg_sl ([.ref h0])).length) Slot.unset).toArray = ls at hl ⊢
  have hl : lv_has ls 1 [(0, .ref h0)] := hl
  unfold f_P_det at h
  refine lv_aload_n hx hb d_P_det_0 rfl (lv_at hl 0 rfl) ?_
  refine va_get (D := D) (ci := 0) (v := .long fa) (C := R_Products) (T := F_Products) (N := 6) hx hb htg i_Products hown hK hP k0 hk0 rfl 0 (by decide) (htg _ tm_133) (fun _ h9 => h9) rfl d_P_det_1 ?_
  refine lv_aload_n hx hb d_P_det_4 rfl (lv_at hl 0 rfl) ?_
  refine va_get (D := D) (ci := 0) (v := .long fb) (C := R_Products) (T := F_Products) (N := 6) hx hb htg i_Products hown hK hP k0 hk0 rfl 1 (by decide) (htg _ tm_135) (fun _ h9 => h9) rfl d_P_det_5 ?_
  refine lv_aload_n hx hb d_P_det_8 rfl (lv_at hl 0 rfl) ?_
  refine va_get (D := D) (ci := 0) (v := .long fc) (C := R_Products) (T := F_Products) (N := 6) hx hb htg i_Products hown hK hP k0 hk0 rfl 2 (by decide) (htg _ tm_137) (fun _ h9 => h9) rfl d_P_det_9 ?_
  refine lv_lmul hx hb d_P_det_12 ?_
  refine lv_aload_n hx hb d_P_det_13 rfl (lv_at hl 0 rfl) ?_
  refine va_get (D := D) (ci := 0) (v := .long fd) (C := R_Products) (T := F_Products) (N := 6) hx hb htg i_Products hown hK hP k0 hk0 rfl 3 (by decide) (htg _ tm_139) (fun _ h9 => h9) rfl d_P_det_14 ?_
  refine lv_aload_n hx hb d_P_det_17 rfl (lv_at hl 0 rfl) ?_
  refine va_get (D := D) (ci := 0) (v := .long fd) (C := R_Products) (T := F_Products) (N := 6) hx hb htg i_Products hown hK hP k0 hk0 rfl 3 (by decide) (htg _ tm_139) (fun _ h9 => h9) rfl d_P_det_18 ?_
  refine lv_lmul hx hb d_P_det_21 ?_
  refine lv_lsub hx hb d_P_det_22 ?_
  refine lv_lmul hx hb d_P_det_23 ?_
  refine lv_aload_n hx hb d_P_det_24 rfl (lv_at hl 0 rfl) ?_
  refine va_get (D := D) (ci := 0) (v := .long ff) (C := R_Products) (T := F_Products) (N := 6) hx hb htg i_Products hown hK hP k0 hk0 rfl 5 (by decide) (htg _ tm_143) (fun _ h9 => h9) rfl d_P_det_25 ?_
  refine lv_aload_n hx hb d_P_det_28 rfl (lv_at hl 0 rfl) ?_
  refine va_get (D := D) (ci := 0) (v := .long ff) (C := R_Products) (T := F_Products) (N := 6) hx hb htg i_Products hown hK hP k0 hk0 rfl 5 (by decide) (htg _ tm_143) (fun _ h9 => h9) rfl d_P_det_29 ?_
  refine lv_aload_n hx hb d_P_det_32 rfl (lv_at hl 0 rfl) ?_
  refine va_get (D := D) (ci := 0) (v := .long fc) (C := R_Products) (T := F_Products) (N := 6) hx hb htg i_Products hown hK hP k0 hk0 rfl 2 (by decide) (htg _ tm_137) (fun _ h9 => h9) rfl d_P_det_33 ?_
  refine lv_lmul hx hb d_P_det_36 ?_
  refine lv_aload_n hx hb d_P_det_37 rfl (lv_at hl 0 rfl) ?_
  refine va_get (D := D) (ci := 0) (v := .long fd) (C := R_Products) (T := F_Products) (N := 6) hx hb htg i_Products hown hK hP k0 hk0 rfl 3 (by decide) (htg _ tm_139) (fun _ h9 => h9) rfl d_P_det_38 ?_
  refine lv_aload_n hx hb d_P_det_41 rfl (lv_at hl 0 rfl) ?_
  refine va_get (D := D) (ci := 0) (v := .long fe) (C := R_Products) (T := F_Products) (N := 6) hx hb htg i_Products hown hK hP k0 hk0 rfl 4 (by decide) (htg _ tm_141) (fun _ h9 => h9) rfl d_P_det_42 ?_
  refine lv_lmul hx hb d_P_det_45 ?_
  refine lv_lsub hx hb d_P_det_46 ?_
  refine lv_lmul hx hb d_P_det_47 ?_
  refine lv_lsub hx hb d_P_det_48 ?_
  refine lv_aload_n hx hb d_P_det_49 rfl (lv_at hl 0 rfl) ?_
  refine va_get (D := D) (ci := 0) (v := .long fe) (C := R_Products) (T := F_Products) (N := 6) hx hb htg i_Products hown hK hP k0 hk0 rfl 4 (by decide) (htg _ tm_141) (fun _ h9 => h9) rfl d_P_det_50 ?_
  refine lv_aload_n hx hb d_P_det_53 rfl (lv_at hl 0 rfl) ?_
  refine va_get (D := D) (ci := 0) (v := .long ff) (C := R_Products) (T := F_Products) (N := 6) hx hb htg i_Products hown hK hP k0 hk0 rfl 5 (by decide) (htg _ tm_143) (fun _ h9 => h9) rfl d_P_det_54 ?_
  refine lv_aload_n hx hb d_P_det_57 rfl (lv_at hl 0 rfl) ?_
  refine va_get (D := D) (ci := 0) (v := .long fd) (C := R_Products) (T := F_Products) (N := 6) hx hb htg i_Products hown hK hP k0 hk0 rfl 3 (by decide) (htg _ tm_139) (fun _ h9 => h9) rfl d_P_det_58 ?_
  refine lv_lmul hx hb d_P_det_61 ?_
  refine lv_aload_n hx hb d_P_det_62 rfl (lv_at hl 0 rfl) ?_
  refine va_get (D := D) (ci := 0) (v := .long fb) (C := R_Products) (T := F_Products) (N := 6) hx hb htg i_Products hown hK hP k0 hk0 rfl 1 (by decide) (htg _ tm_135) (fun _ h9 => h9) rfl d_P_det_63 ?_
  refine lv_aload_n hx hb d_P_det_66 rfl (lv_at hl 0 rfl) ?_
  refine va_get (D := D) (ci := 0) (v := .long fe) (C := R_Products) (T := F_Products) (N := 6) hx hb htg i_Products hown hK hP k0 hk0 rfl 4 (by decide) (htg _ tm_141) (fun _ h9 => h9) rfl d_P_det_67 ?_
  refine lv_lmul hx hb d_P_det_70 ?_
  refine lv_lsub hx hb d_P_det_71 ?_
  refine lv_lmul hx hb d_P_det_72 ?_
  refine lv_ladd hx hb d_P_det_73 ?_
  exact W.lret (v := ((fa * ((fb * fc) - (fd * fd))) - (ff * ((ff * fc) - (fd * fe)))) + (fe * ((ff * fd) - (fb * fe)))) hx hb hr (fun t ht hW => ⟨((fa * ((fb * fc) - (fd * fd))) - (ff * ((ff * fc) - (fd * fe)))) + (fe * ((ff * fd) - (fb * fe))), rfl, h, ht⟩) (fun q h => by cases h) d_P_det_74
-- CellBench$Products spanASpace ()Z
def f_P_span (fa : Int64) (fb : Int64) (fc : Int64) (fd : Int64) (fe : Int64) (ff : Int64) : Int32 :=
    if (lg_cmp ((fa * fb) - (ff * ff)) (0 : Int64)) ≤ 0 then (0 : Int32) else (if (lg_cmp (f_P_det fa fb fc fd fe ff) (0 : Int64)) ≤ 0 then (0 : Int32) else (1 : Int32))
def w_P_span : List Cond := .code y_P_span b_P_span 1 (some .boolean) :: GW
abbrev rm_P_span : Room := { frames := 1, cells := 0, slots := 0, locals := 20 }
theorem g_P_span : GoodIn GW w_P_span := gi tm_161
set_option maxHeartbeats 4000000 in
set_option maxRecDepth 100000 in
theorem c_P_span (l : Launch) (D : va_G) (ct : CT) (ws : va_W) (k0 : Nat) (h0 : Nat) (fa : Int64) (fb : Int64) (fc : Int64) (fd : Int64) (fe : Int64) (ff : Int64) (hk0 : ws[k0]? = some (h0, .inr (0, [.long fa, .long fb, .long fc, .long fd, .long fe, .long ff])))  (r0 : Int32) (h : f_P_span fa fb fc fd fe ff = r0) : Met l y_P_span w_P_span rm_P_span (va_Pc [.ref h0] (PreP D ct ws)) (vp_Si (fun r => r = r0)) 0 0 (fun _ => False) := by
  refine Met.ofW (cc := b_P_span) (maxL := 1) (ret := (some .boolean)) (by decide) rfl ?_
  intro p e s m args below meth c s₁ B hml hv
  obtain ⟨rfl, hP, hKK⟩ := hv
  have hx := B.exec
  have hb := B.bytes
  have hr := B.returns
  have htg := ht_tl (atoms_spec (ws := w_P_span) B.pre)
  have hown : s.vm.findClass R_Products = some m.cls := findClass_of_methodNamed B.named
  have hlocks := B.notSynchronized
  have hK := hKK.1
  have hN := hKK.2.1
  have hO := hKK.2.2
  have hl := lv_entry ([.ref h0]) (n := 1) (Nat.le_of_ble_eq_true rfl)
  rw [lg_entry_eq]
  generalize (lg_sl ([.ref h0]) ++ List.replicate (1 - (lg_sl ([.ref h0])).length) Slot.unset).toArray = ls at hl ⊢
  have hl : lv_has ls 1 [(0, .ref h0)] := hl
  unfold f_P_span at h
  refine lv_aload_n hx hb d_P_span_0 rfl (lv_at hl 0 rfl) ?_
  refine va_get (D := D) (ci := 0) (v := .long fa) (C := R_Products) (T := F_Products) (N := 6) hx hb htg i_Products hown hK hP k0 hk0 rfl 0 (by decide) (htg _ tm_133) (fun _ h9 => h9) rfl d_P_span_1 ?_
  refine lv_aload_n hx hb d_P_span_4 rfl (lv_at hl 0 rfl) ?_
  refine va_get (D := D) (ci := 0) (v := .long fb) (C := R_Products) (T := F_Products) (N := 6) hx hb htg i_Products hown hK hP k0 hk0 rfl 1 (by decide) (htg _ tm_135) (fun _ h9 => h9) rfl d_P_span_5 ?_
  refine lv_lmul hx hb d_P_span_8 ?_
  refine lv_aload_n hx hb d_P_span_9 rfl (lv_at hl 0 rfl) ?_
  refine va_get (D := D) (ci := 0) (v := .long ff) (C := R_Products) (T := F_Products) (N := 6) hx hb htg i_Products hown hK hP k0 hk0 rfl 5 (by decide) (htg _ tm_143) (fun _ h9 => h9) rfl d_P_span_10 ?_
  refine lv_aload_n hx hb d_P_span_13 rfl (lv_at hl 0 rfl) ?_
  refine va_get (D := D) (ci := 0) (v := .long ff) (C := R_Products) (T := F_Products) (N := 6) hx hb htg i_Products hown hK hP k0 hk0 rfl 5 (by decide) (htg _ tm_143) (fun _ h9 => h9) rfl d_P_span_14 ?_
  refine lv_lmul hx hb d_P_span_17 ?_
  refine lv_lsub hx hb d_P_span_18 ?_
  refine lv_lconst (v := (0 : Int64)) hx hb d_P_span_19 (by decide) ?_
  refine W.lcmp hx hb d_P_span_20 ?_
  refine lv_if_le (tgt := 37) hx hb d_P_span_21 (by decide) (fun c_1 => ?_) (fun c_1 => ?_)
  · rw [if_pos c_1] at h
    refine lv_iconst (v := (0 : Int32)) hx hb d_P_span_37 (by decide) ?_
    exact W.zret (v := (0 : Int32)) (ty := .boolean) hx hb hr rfl (fun t ht hW => ⟨(0 : Int32), rfl, h, ht⟩) (fun q h => by cases h) d_P_span_38
  · rw [if_neg c_1] at h
    refine lv_aload_n hx hb d_P_span_24 rfl (lv_at hl 0 rfl) ?_
    refine vp_callSl (va_Run.run (va_runV (As := []) (rest := []) ⟨hx, hb, hml, hown, htg⟩ (c_P_det l D ct ws k0 h0 fa fb fc fd fe ff hk0  _ rfl) (cwV 0 htg (giV tm_162 tm_163 tm_164 tm_35 g_P_det) rfl rfl rfl (by decide +kernel) ⟨Nat.le_of_ble_eq_true rfl, Nat.le_of_ble_eq_true rfl⟩) (preV hP hKK (va_recv hK hP (ci := 0) (q0 := k0) rfl hk0)) rfl rfl hl.1 rfl (lv_room (Nat.le_of_ble_eq_true rfl)) d_P_span_25 ⟨Nat.le_of_ble_eq_true rfl, Nat.le_of_ble_eq_true rfl⟩)) (fun r9 hr9 => ?_)
    have hr9 := hr9.symm
    subst hr9
    refine lv_lconst (v := (0 : Int64)) hx hb d_P_span_28 (by decide) ?_
    refine W.lcmp hx hb d_P_span_29 ?_
    refine lv_if_le (tgt := 37) hx hb d_P_span_30 (by decide) (fun c_2 => ?_) (fun c_2 => ?_)
    · rw [if_pos c_2] at h
      refine lv_iconst (v := (0 : Int32)) hx hb d_P_span_37 (by decide) ?_
      exact W.zret (v := (0 : Int32)) (ty := .boolean) hx hb hr rfl (fun t ht hW => ⟨(0 : Int32), rfl, h, ht⟩) (fun q h => by cases h) d_P_span_38
    · rw [if_neg c_2] at h
      refine lv_iconst (v := (1 : Int32)) hx hb d_P_span_33 (by decide) ?_
      refine lv_goto (tgt := 38) hx hb d_P_span_34 (by decide) ?_
      exact W.zret (v := (1 : Int32)) (ty := .boolean) hx hb hr rfl (fun t ht hW => ⟨(1 : Int32), rfl, h, ht⟩) (fun q h => by cases h) d_P_span_38
-- CellBench$Products product (JJJJJJ)J
def f_P_prod (fa : Int64) (fb : Int64) (fc : Int64) (fd : Int64) (fe : Int64) (ff : Int64) (px : Int64) (py : Int64) (pz : Int64) (qx : Int64) (qy : Int64) (qz : Int64) : Int64 :=
    ((((((fa * px) * qx) + ((fb * py) * qy)) + ((fc * pz) * qz)) + (fd * ((py * qz) + (pz * qy)))) + (fe * ((px * qz) + (pz * qx)))) + (ff * ((px * qy) + (py * qx)))
def w_P_prod : List Cond := .code y_P_prod b_P_prod 13 (some .long) :: GW
abbrev rm_P_prod : Room := { frames := 0, cells := 0, slots := 0, locals := 0 }
theorem g_P_prod : GoodIn GW w_P_prod := gi tm_236
set_option maxHeartbeats 4000000 in
set_option maxRecDepth 100000 in
theorem c_P_prod (l : Launch) (D : va_G) (ct : CT) (ws : va_W) (k0 : Nat) (h0 : Nat) (fa : Int64) (fb : Int64) (fc : Int64) (fd : Int64) (fe : Int64) (ff : Int64) (px : Int64) (py : Int64) (pz : Int64) (qx : Int64) (qy : Int64) (qz : Int64) (hk0 : ws[k0]? = some (h0, .inr (0, [.long fa, .long fb, .long fc, .long fd, .long fe, .long ff])))  (r0 : Int64) (h : f_P_prod fa fb fc fd fe ff px py pz qx qy qz = r0) : Met l y_P_prod w_P_prod rm_P_prod (va_Pc [.ref h0, .long px, .long py, .long pz, .long qx, .long qy, .long qz] (PreP D ct ws)) (vp_Sl (fun r => r = r0)) 0 0 (fun _ => False) := by
  refine Met.ofW (cc := b_P_prod) (maxL := 13) (ret := (some .long)) (by decide) rfl ?_
  intro p e s m args below meth c s₁ B hml hv
  obtain ⟨rfl, hP, hKK⟩ := hv
  have hx := B.exec
  have hb := B.bytes
  have hr := B.returns
  have htg := ht_tl (atoms_spec (ws := w_P_prod) B.pre)
  have hown : s.vm.findClass R_Products = some m.cls := findClass_of_methodNamed B.named
  have hlocks := B.notSynchronized
  have hK := hKK.1
  have hN := hKK.2.1
  have hO := hKK.2.2
  have hl := lv_entry ([.ref h0, .long px, .long py, .long pz, .long qx, .long qy, .long qz]) (n := 13) (Nat.le_of_ble_eq_true rfl)
  rw [lg_entry_eq]
  generalize (lg_sl ([.ref h0, .long px, .long py, .long pz, .long qx, .long qy, .long qz]) ++ List.replicate (13 - (lg_sl ([.ref h0, .long px, .long py, .long pz, .long qx, .long qy, .long qz])).length) Slot.unset).toArray = ls at hl ⊢
  have hl : lv_has ls 13 [(0, .ref h0), (1, .long px), (3, .long py), (5, .long pz), (7, .long qx), (9, .long qy), (11, .long qz)] := hl
  unfold f_P_prod at h
  refine lv_aload_n hx hb d_P_prod_0 rfl (lv_at hl 0 rfl) ?_
  refine va_get (D := D) (ci := 0) (v := .long fa) (C := R_Products) (T := F_Products) (N := 6) hx hb htg i_Products hown hK hP k0 hk0 rfl 0 (by decide) (htg _ tm_133) (fun _ h9 => h9) rfl d_P_prod_1 ?_
  refine lv_lload_n hx hb d_P_prod_4 rfl (lv_at hl 1 rfl) ?_
  refine lv_lmul hx hb d_P_prod_5 ?_
  refine lv_lload hx hb d_P_prod_6 (lv_at hl 4 rfl) ?_
  refine lv_lmul hx hb d_P_prod_8 ?_
  refine lv_aload_n hx hb d_P_prod_9 rfl (lv_at hl 0 rfl) ?_
  refine va_get (D := D) (ci := 0) (v := .long fb) (C := R_Products) (T := F_Products) (N := 6) hx hb htg i_Products hown hK hP k0 hk0 rfl 1 (by decide) (htg _ tm_135) (fun _ h9 => h9) rfl d_P_prod_10 ?_
  refine lv_lload_n hx hb d_P_prod_13 rfl (lv_at hl 2 rfl) ?_
  refine lv_lmul hx hb d_P_prod_14 ?_
  refine lv_lload hx hb d_P_prod_15 (lv_at hl 5 rfl) ?_
  refine lv_lmul hx hb d_P_prod_17 ?_
  refine lv_ladd hx hb d_P_prod_18 ?_
  refine lv_aload_n hx hb d_P_prod_19 rfl (lv_at hl 0 rfl) ?_
  refine va_get (D := D) (ci := 0) (v := .long fc) (C := R_Products) (T := F_Products) (N := 6) hx hb htg i_Products hown hK hP k0 hk0 rfl 2 (by decide) (htg _ tm_137) (fun _ h9 => h9) rfl d_P_prod_20 ?_
  refine lv_lload hx hb d_P_prod_23 (lv_at hl 3 rfl) ?_
  refine lv_lmul hx hb d_P_prod_25 ?_
  refine lv_lload hx hb d_P_prod_26 (lv_at hl 6 rfl) ?_
  refine lv_lmul hx hb d_P_prod_28 ?_
  refine lv_ladd hx hb d_P_prod_29 ?_
  refine lv_aload_n hx hb d_P_prod_30 rfl (lv_at hl 0 rfl) ?_
  refine va_get (D := D) (ci := 0) (v := .long fd) (C := R_Products) (T := F_Products) (N := 6) hx hb htg i_Products hown hK hP k0 hk0 rfl 3 (by decide) (htg _ tm_139) (fun _ h9 => h9) rfl d_P_prod_31 ?_
  refine lv_lload_n hx hb d_P_prod_34 rfl (lv_at hl 2 rfl) ?_
  refine lv_lload hx hb d_P_prod_35 (lv_at hl 6 rfl) ?_
  refine lv_lmul hx hb d_P_prod_37 ?_
  refine lv_lload hx hb d_P_prod_38 (lv_at hl 3 rfl) ?_
  refine lv_lload hx hb d_P_prod_40 (lv_at hl 5 rfl) ?_
  refine lv_lmul hx hb d_P_prod_42 ?_
  refine lv_ladd hx hb d_P_prod_43 ?_
  refine lv_lmul hx hb d_P_prod_44 ?_
  refine lv_ladd hx hb d_P_prod_45 ?_
  refine lv_aload_n hx hb d_P_prod_46 rfl (lv_at hl 0 rfl) ?_
  refine va_get (D := D) (ci := 0) (v := .long fe) (C := R_Products) (T := F_Products) (N := 6) hx hb htg i_Products hown hK hP k0 hk0 rfl 4 (by decide) (htg _ tm_141) (fun _ h9 => h9) rfl d_P_prod_47 ?_
  refine lv_lload_n hx hb d_P_prod_50 rfl (lv_at hl 1 rfl) ?_
  refine lv_lload hx hb d_P_prod_51 (lv_at hl 6 rfl) ?_
  refine lv_lmul hx hb d_P_prod_53 ?_
  refine lv_lload hx hb d_P_prod_54 (lv_at hl 3 rfl) ?_
  refine lv_lload hx hb d_P_prod_56 (lv_at hl 4 rfl) ?_
  refine lv_lmul hx hb d_P_prod_58 ?_
  refine lv_ladd hx hb d_P_prod_59 ?_
  refine lv_lmul hx hb d_P_prod_60 ?_
  refine lv_ladd hx hb d_P_prod_61 ?_
  refine lv_aload_n hx hb d_P_prod_62 rfl (lv_at hl 0 rfl) ?_
  refine va_get (D := D) (ci := 0) (v := .long ff) (C := R_Products) (T := F_Products) (N := 6) hx hb htg i_Products hown hK hP k0 hk0 rfl 5 (by decide) (htg _ tm_143) (fun _ h9 => h9) rfl d_P_prod_63 ?_
  refine lv_lload_n hx hb d_P_prod_66 rfl (lv_at hl 1 rfl) ?_
  refine lv_lload hx hb d_P_prod_67 (lv_at hl 5 rfl) ?_
  refine lv_lmul hx hb d_P_prod_69 ?_
  refine lv_lload_n hx hb d_P_prod_70 rfl (lv_at hl 2 rfl) ?_
  refine lv_lload hx hb d_P_prod_71 (lv_at hl 4 rfl) ?_
  refine lv_lmul hx hb d_P_prod_73 ?_
  refine lv_ladd hx hb d_P_prod_74 ?_
  refine lv_lmul hx hb d_P_prod_75 ?_
  refine lv_ladd hx hb d_P_prod_76 ?_
  exact W.lret (v := ((((((fa * px) * qx) + ((fb * py) * qy)) + ((fc * pz) * qz)) + (fd * ((py * qz) + (pz * qy)))) + (fe * ((px * qz) + (pz * qx)))) + (ff * ((px * qy) + (py * qx)))) hx hb hr (fun t ht hW => ⟨((((((fa * px) * qx) + ((fb * py) * qy)) + ((fc * pz) * qz)) + (fd * ((py * qz) + (pz * qy)))) + (fe * ((px * qz) + (pz * qx)))) + (ff * ((px * qy) + (py * qx))), rfl, h, ht⟩) (fun q h => by cases h) d_P_prod_77
-- CellBench$Products columnProduct (II)J
def f_P_colp (fa : Int64) (fb : Int64) (fc : Int64) (fd : Int64) (fe : Int64) (ff : Int64) (lf : Int32) (rg : Int32) : Int64 :=
    f_P_prod fa fb fc fd fe ff ((((lf / (9 : Int32)) - (lf / (9 : Int32)) / (3 : Int32) * (3 : Int32)) - (1 : Int32)).toInt64) ((((lf / (3 : Int32)) - (lf / (3 : Int32)) / (3 : Int32) * (3 : Int32)) - (1 : Int32)).toInt64) (((lf - lf / (3 : Int32) * (3 : Int32)) - (1 : Int32)).toInt64) ((((rg / (9 : Int32)) - (rg / (9 : Int32)) / (3 : Int32) * (3 : Int32)) - (1 : Int32)).toInt64) ((((rg / (3 : Int32)) - (rg / (3 : Int32)) / (3 : Int32) * (3 : Int32)) - (1 : Int32)).toInt64) (((rg - rg / (3 : Int32) * (3 : Int32)) - (1 : Int32)).toInt64)
def w_P_colp : List Cond := .code y_P_colp b_P_colp 3 (some .long) :: GW
abbrev rm_P_colp : Room := { frames := 1, cells := 0, slots := 0, locals := 32 }
theorem g_P_colp : GoodIn GW w_P_colp := gi tm_232
set_option maxHeartbeats 4000000 in
set_option maxRecDepth 100000 in
theorem c_P_colp (l : Launch) (D : va_G) (ct : CT) (ws : va_W) (k0 : Nat) (h0 : Nat) (fa : Int64) (fb : Int64) (fc : Int64) (fd : Int64) (fe : Int64) (ff : Int64) (lf : Int32) (rg : Int32) (hk0 : ws[k0]? = some (h0, .inr (0, [.long fa, .long fb, .long fc, .long fd, .long fe, .long ff])))  (r0 : Int64) (h : f_P_colp fa fb fc fd fe ff lf rg = r0) : Met l y_P_colp w_P_colp rm_P_colp (va_Pc [.ref h0, .int lf, .int rg] (PreP D ct ws)) (vp_Sl (fun r => r = r0)) 0 0 (fun _ => False) := by
  refine Met.ofW (cc := b_P_colp) (maxL := 3) (ret := (some .long)) (by decide) rfl ?_
  intro p e s m args below meth c s₁ B hml hv
  obtain ⟨rfl, hP, hKK⟩ := hv
  have hx := B.exec
  have hb := B.bytes
  have hr := B.returns
  have htg := ht_tl (atoms_spec (ws := w_P_colp) B.pre)
  have hown : s.vm.findClass R_Products = some m.cls := findClass_of_methodNamed B.named
  have hlocks := B.notSynchronized
  have hK := hKK.1
  have hN := hKK.2.1
  have hO := hKK.2.2
  have hl := lv_entry ([.ref h0, .int lf, .int rg]) (n := 3) (Nat.le_of_ble_eq_true rfl)
  rw [lg_entry_eq]
  generalize (lg_sl ([.ref h0, .int lf, .int rg]) ++ List.replicate (3 - (lg_sl ([.ref h0, .int lf, .int rg])).length) Slot.unset).toArray = ls at hl ⊢
  have hl : lv_has ls 3 [(0, .ref h0), (1, .int lf), (2, .int rg)] := hl
  unfold f_P_colp at h
  refine lv_aload_n hx hb d_P_colp_0 rfl (lv_at hl 0 rfl) ?_
  refine lv_iload_n hx hb d_P_colp_1 rfl (lv_at hl 1 rfl) ?_
  refine lv_bipush (v := (9 : Int32)) hx hb d_P_colp_2 (by decide) ?_
  refine lv_idiv hx hb d_P_colp_4 (by decide) ?_
  refine lv_iconst (v := (3 : Int32)) hx hb d_P_colp_5 (by decide) ?_
  refine lv_irem hx hb d_P_colp_6 (by decide) ?_
  refine lv_iconst (v := (1 : Int32)) hx hb d_P_colp_7 (by decide) ?_
  refine lv_isub hx hb d_P_colp_8 ?_
  refine lv_i2l hx hb d_P_colp_9 rfl ?_
  refine lv_iload_n hx hb d_P_colp_10 rfl (lv_at hl 1 rfl) ?_
  refine lv_iconst (v := (3 : Int32)) hx hb d_P_colp_11 (by decide) ?_
  refine lv_idiv hx hb d_P_colp_12 (by decide) ?_
  refine lv_iconst (v := (3 : Int32)) hx hb d_P_colp_13 (by decide) ?_
  refine lv_irem hx hb d_P_colp_14 (by decide) ?_
  refine lv_iconst (v := (1 : Int32)) hx hb d_P_colp_15 (by decide) ?_
  refine lv_isub hx hb d_P_colp_16 ?_
  refine lv_i2l hx hb d_P_colp_17 rfl ?_
  refine lv_iload_n hx hb d_P_colp_18 rfl (lv_at hl 1 rfl) ?_
  refine lv_iconst (v := (3 : Int32)) hx hb d_P_colp_19 (by decide) ?_
  refine lv_irem hx hb d_P_colp_20 (by decide) ?_
  refine lv_iconst (v := (1 : Int32)) hx hb d_P_colp_21 (by decide) ?_
  refine lv_isub hx hb d_P_colp_22 ?_
  refine lv_i2l hx hb d_P_colp_23 rfl ?_
  refine lv_iload_n hx hb d_P_colp_24 rfl (lv_at hl 2 rfl) ?_
  refine lv_bipush (v := (9 : Int32)) hx hb d_P_colp_25 (by decide) ?_
  refine lv_idiv hx hb d_P_colp_27 (by decide) ?_
  refine lv_iconst (v := (3 : Int32)) hx hb d_P_colp_28 (by decide) ?_
  refine lv_irem hx hb d_P_colp_29 (by decide) ?_
  refine lv_iconst (v := (1 : Int32)) hx hb d_P_colp_30 (by decide) ?_
  refine lv_isub hx hb d_P_colp_31 ?_
  refine lv_i2l hx hb d_P_colp_32 rfl ?_
  refine lv_iload_n hx hb d_P_colp_33 rfl (lv_at hl 2 rfl) ?_
  refine lv_iconst (v := (3 : Int32)) hx hb d_P_colp_34 (by decide) ?_
  refine lv_idiv hx hb d_P_colp_35 (by decide) ?_
  refine lv_iconst (v := (3 : Int32)) hx hb d_P_colp_36 (by decide) ?_
  refine lv_irem hx hb d_P_colp_37 (by decide) ?_
  refine lv_iconst (v := (1 : Int32)) hx hb d_P_colp_38 (by decide) ?_
  refine lv_isub hx hb d_P_colp_39 ?_
  refine lv_i2l hx hb d_P_colp_40 rfl ?_
  refine lv_iload_n hx hb d_P_colp_41 rfl (lv_at hl 2 rfl) ?_
  refine lv_iconst (v := (3 : Int32)) hx hb d_P_colp_42 (by decide) ?_
  refine lv_irem hx hb d_P_colp_43 (by decide) ?_
  refine lv_iconst (v := (1 : Int32)) hx hb d_P_colp_44 (by decide) ?_
  refine lv_isub hx hb d_P_colp_45 ?_
  refine lv_i2l hx hb d_P_colp_46 rfl ?_
  refine vp_callSl (va_Run.run (va_runV (As := [.long ((((lf / (9 : Int32)) - (lf / (9 : Int32)) / (3 : Int32) * (3 : Int32)) - (1 : Int32)).toInt64), .long ((((lf / (3 : Int32)) - (lf / (3 : Int32)) / (3 : Int32) * (3 : Int32)) - (1 : Int32)).toInt64), .long (((lf - lf / (3 : Int32) * (3 : Int32)) - (1 : Int32)).toInt64), .long ((((rg / (9 : Int32)) - (rg / (9 : Int32)) / (3 : Int32) * (3 : Int32)) - (1 : Int32)).toInt64), .long ((((rg / (3 : Int32)) - (rg / (3 : Int32)) / (3 : Int32) * (3 : Int32)) - (1 : Int32)).toInt64), .long (((rg - rg / (3 : Int32) * (3 : Int32)) - (1 : Int32)).toInt64)]) (rest := []) ⟨hx, hb, hml, hown, htg⟩ (c_P_prod l D ct ws k0 h0 fa fb fc fd fe ff ((((lf / (9 : Int32)) - (lf / (9 : Int32)) / (3 : Int32) * (3 : Int32)) - (1 : Int32)).toInt64) ((((lf / (3 : Int32)) - (lf / (3 : Int32)) / (3 : Int32) * (3 : Int32)) - (1 : Int32)).toInt64) (((lf - lf / (3 : Int32) * (3 : Int32)) - (1 : Int32)).toInt64) ((((rg / (9 : Int32)) - (rg / (9 : Int32)) / (3 : Int32) * (3 : Int32)) - (1 : Int32)).toInt64) ((((rg / (3 : Int32)) - (rg / (3 : Int32)) / (3 : Int32) * (3 : Int32)) - (1 : Int32)).toInt64) (((rg - rg / (3 : Int32) * (3 : Int32)) - (1 : Int32)).toInt64) hk0  _ rfl) (cwV 6 htg (giV tm_233 tm_234 tm_235 tm_35 g_P_prod) rfl rfl rfl (by decide +kernel) ⟨Nat.le_of_ble_eq_true rfl, Nat.le_of_ble_eq_true rfl⟩) (preV hP hKK (va_recv hK hP (ci := 0) (q0 := k0) rfl hk0)) rfl rfl hl.1 rfl (lv_room (Nat.le_of_ble_eq_true rfl)) d_P_colp_47 ⟨Nat.le_of_ble_eq_true rfl, Nat.le_of_ble_eq_true rfl⟩)) (fun r9 hr9 => ?_)
  have hr9 := hr9.symm
  subst hr9
  exact W.lret (v := f_P_prod fa fb fc fd fe ff ((((lf / (9 : Int32)) - (lf / (9 : Int32)) / (3 : Int32) * (3 : Int32)) - (1 : Int32)).toInt64) ((((lf / (3 : Int32)) - (lf / (3 : Int32)) / (3 : Int32) * (3 : Int32)) - (1 : Int32)).toInt64) (((lf - lf / (3 : Int32) * (3 : Int32)) - (1 : Int32)).toInt64) ((((rg / (9 : Int32)) - (rg / (9 : Int32)) / (3 : Int32) * (3 : Int32)) - (1 : Int32)).toInt64) ((((rg / (3 : Int32)) - (rg / (3 : Int32)) / (3 : Int32) * (3 : Int32)) - (1 : Int32)).toInt64) (((rg - rg / (3 : Int32) * (3 : Int32)) - (1 : Int32)).toInt64)) hx hb hr (fun t ht hW => ⟨f_P_prod fa fb fc fd fe ff ((((lf / (9 : Int32)) - (lf / (9 : Int32)) / (3 : Int32) * (3 : Int32)) - (1 : Int32)).toInt64) ((((lf / (3 : Int32)) - (lf / (3 : Int32)) / (3 : Int32) * (3 : Int32)) - (1 : Int32)).toInt64) (((lf - lf / (3 : Int32) * (3 : Int32)) - (1 : Int32)).toInt64) ((((rg / (9 : Int32)) - (rg / (9 : Int32)) / (3 : Int32) * (3 : Int32)) - (1 : Int32)).toInt64) ((((rg / (3 : Int32)) - (rg / (3 : Int32)) / (3 : Int32) * (3 : Int32)) - (1 : Int32)).toInt64) (((rg - rg / (3 : Int32) * (3 : Int32)) - (1 : Int32)).toInt64), rfl, h, ht⟩) (fun q h => by cases h) d_P_colp_50
-- CellBench$Products fitsSecond (II)Z
def f_P_fit2 (fa : Int64) (fb : Int64) (fc : Int64) (fd : Int64) (fe : Int64) (ff : Int64) (i1 : Int32) (i2 : Int32) : Int32 :=
    if (lg_cmp (f_P_colp fa fb fc fd fe ff i2 i2) fb) = 0 then (if (lg_cmp (f_P_colp fa fb fc fd fe ff i1 i2) ff) = 0 then (1 : Int32) else (0 : Int32)) else (0 : Int32)
def w_P_fit2 : List Cond := .code y_P_fit2 b_P_fit2 3 (some .boolean) :: GW
abbrev rm_P_fit2 : Room := { frames := 2, cells := 0, slots := 0, locals := 54 }
theorem g_P_fit2 : GoodIn GW w_P_fit2 := gi tm_240
set_option maxHeartbeats 4000000 in
set_option maxRecDepth 100000 in
theorem c_P_fit2 (l : Launch) (D : va_G) (ct : CT) (ws : va_W) (k0 : Nat) (h0 : Nat) (fa : Int64) (fb : Int64) (fc : Int64) (fd : Int64) (fe : Int64) (ff : Int64) (i1 : Int32) (i2 : Int32) (hk0 : ws[k0]? = some (h0, .inr (0, [.long fa, .long fb, .long fc, .long fd, .long fe, .long ff])))  (r0 : Int32) (h : f_P_fit2 fa fb fc fd fe ff i1 i2 = r0) : Met l y_P_fit2 w_P_fit2 rm_P_fit2 (va_Pc [.ref h0, .int i1, .int i2] (PreP D ct ws)) (vp_Si (fun r => r = r0)) 0 0 (fun _ => False) := by
  refine Met.ofW (cc := b_P_fit2) (maxL := 3) (ret := (some .boolean)) (by decide) rfl ?_
  intro p e s m args below meth c s₁ B hml hv
  obtain ⟨rfl, hP, hKK⟩ := hv
  have hx := B.exec
  have hb := B.bytes
  have hr := B.returns
  have htg := ht_tl (atoms_spec (ws := w_P_fit2) B.pre)
  have hown : s.vm.findClass R_Products = some m.cls := findClass_of_methodNamed B.named
  have hlocks := B.notSynchronized
  have hK := hKK.1
  have hN := hKK.2.1
  have hO := hKK.2.2
  have hl := lv_entry ([.ref h0, .int i1, .int i2]) (n := 3) (Nat.le_of_ble_eq_true rfl)
  rw [lg_entry_eq]
  generalize (lg_sl ([.ref h0, .int i1, .int i2]) ++ List.replicate (3 - (lg_sl ([.ref h0, .int i1, .int i2])).length) Slot.unset).toArray = ls at hl ⊢
  have hl : lv_has ls 3 [(0, .ref h0), (1, .int i1), (2, .int i2)] := hl
  unfold f_P_fit2 at h
  refine lv_aload_n hx hb d_P_fit2_0 rfl (lv_at hl 0 rfl) ?_
  refine lv_iload_n hx hb d_P_fit2_1 rfl (lv_at hl 2 rfl) ?_
  refine lv_iload_n hx hb d_P_fit2_2 rfl (lv_at hl 2 rfl) ?_
  refine vp_callSl (va_Run.run (va_runV (As := [.int i2, .int i2]) (rest := []) ⟨hx, hb, hml, hown, htg⟩ (c_P_colp l D ct ws k0 h0 fa fb fc fd fe ff i2 i2 hk0  _ rfl) (cwV 2 htg (giV tm_229 tm_231 tm_7 tm_35 g_P_colp) rfl rfl rfl (by decide +kernel) ⟨Nat.le_of_ble_eq_true rfl, Nat.le_of_ble_eq_true rfl⟩) (preV hP hKK (va_recv hK hP (ci := 0) (q0 := k0) rfl hk0)) rfl rfl hl.1 rfl (lv_room (Nat.le_of_ble_eq_true rfl)) d_P_fit2_3 ⟨Nat.le_of_ble_eq_true rfl, Nat.le_of_ble_eq_true rfl⟩)) (fun r9 hr9 => ?_)
  have hr9 := hr9.symm
  subst hr9
  refine lv_aload_n hx hb d_P_fit2_6 rfl (lv_at hl 0 rfl) ?_
  refine va_get (D := D) (ci := 0) (v := .long fb) (C := R_Products) (T := F_Products) (N := 6) hx hb htg i_Products hown hK hP k0 hk0 rfl 1 (by decide) (htg _ tm_135) (fun _ h9 => h9) rfl d_P_fit2_7 ?_
  refine W.lcmp hx hb d_P_fit2_10 ?_
  refine lv_if_ne (tgt := 32) hx hb d_P_fit2_11 (by decide) (fun c_1 => ?_) (fun c_1 => ?_)
  · rw [if_neg c_1] at h
    refine lv_iconst (v := (0 : Int32)) hx hb d_P_fit2_32 (by decide) ?_
    exact W.zret (v := (0 : Int32)) (ty := .boolean) hx hb hr rfl (fun t ht hW => ⟨(0 : Int32), rfl, h, ht⟩) (fun q h => by cases h) d_P_fit2_33
  · rw [if_pos c_1] at h
    refine lv_aload_n hx hb d_P_fit2_14 rfl (lv_at hl 0 rfl) ?_
    refine lv_iload_n hx hb d_P_fit2_15 rfl (lv_at hl 1 rfl) ?_
    refine lv_iload_n hx hb d_P_fit2_16 rfl (lv_at hl 2 rfl) ?_
    refine vp_callSl (va_Run.run (va_runV (As := [.int i1, .int i2]) (rest := []) ⟨hx, hb, hml, hown, htg⟩ (c_P_colp l D ct ws k0 h0 fa fb fc fd fe ff i1 i2 hk0  _ rfl) (cwV 2 htg (giV tm_229 tm_231 tm_7 tm_35 g_P_colp) rfl rfl rfl (by decide +kernel) ⟨Nat.le_of_ble_eq_true rfl, Nat.le_of_ble_eq_true rfl⟩) (preV hP hKK (va_recv hK hP (ci := 0) (q0 := k0) rfl hk0)) rfl rfl hl.1 rfl (lv_room (Nat.le_of_ble_eq_true rfl)) d_P_fit2_17 ⟨Nat.le_of_ble_eq_true rfl, Nat.le_of_ble_eq_true rfl⟩)) (fun r9 hr9 => ?_)
    have hr9 := hr9.symm
    subst hr9
    refine lv_aload_n hx hb d_P_fit2_20 rfl (lv_at hl 0 rfl) ?_
    refine va_get (D := D) (ci := 0) (v := .long ff) (C := R_Products) (T := F_Products) (N := 6) hx hb htg i_Products hown hK hP k0 hk0 rfl 5 (by decide) (htg _ tm_143) (fun _ h9 => h9) rfl d_P_fit2_21 ?_
    refine W.lcmp hx hb d_P_fit2_24 ?_
    refine lv_if_ne (tgt := 32) hx hb d_P_fit2_25 (by decide) (fun c_2 => ?_) (fun c_2 => ?_)
    · rw [if_neg c_2] at h
      refine lv_iconst (v := (0 : Int32)) hx hb d_P_fit2_32 (by decide) ?_
      exact W.zret (v := (0 : Int32)) (ty := .boolean) hx hb hr rfl (fun t ht hW => ⟨(0 : Int32), rfl, h, ht⟩) (fun q h => by cases h) d_P_fit2_33
    · rw [if_pos c_2] at h
      refine lv_iconst (v := (1 : Int32)) hx hb d_P_fit2_28 (by decide) ?_
      refine lv_goto (tgt := 33) hx hb d_P_fit2_29 (by decide) ?_
      exact W.zret (v := (1 : Int32)) (ty := .boolean) hx hb hr rfl (fun t ht hW => ⟨(1 : Int32), rfl, h, ht⟩) (fun q h => by cases h) d_P_fit2_33
-- CellBench$Products fitsThird (III)Z
def f_P_fit3 (fa : Int64) (fb : Int64) (fc : Int64) (fd : Int64) (fe : Int64) (ff : Int64) (i1 : Int32) (i2 : Int32) (i3 : Int32) : Int32 :=
    if (lg_cmp (f_P_colp fa fb fc fd fe ff i3 i3) fc) = 0 then (if (lg_cmp (f_P_colp fa fb fc fd fe ff i1 i3) fe) = 0 then (if (lg_cmp (f_P_colp fa fb fc fd fe ff i2 i3) fd) = 0 then (1 : Int32) else (0 : Int32)) else (0 : Int32)) else (0 : Int32)
def w_P_fit3 : List Cond := .code y_P_fit3 b_P_fit3 4 (some .boolean) :: GW
abbrev rm_P_fit3 : Room := { frames := 2, cells := 0, slots := 0, locals := 54 }
theorem g_P_fit3 : GoodIn GW w_P_fit3 := gi tm_248
set_option maxHeartbeats 4000000 in
set_option maxRecDepth 100000 in
theorem c_P_fit3 (l : Launch) (D : va_G) (ct : CT) (ws : va_W) (k0 : Nat) (h0 : Nat) (fa : Int64) (fb : Int64) (fc : Int64) (fd : Int64) (fe : Int64) (ff : Int64) (i1 : Int32) (i2 : Int32) (i3 : Int32) (hk0 : ws[k0]? = some (h0, .inr (0, [.long fa, .long fb, .long fc, .long fd, .long fe, .long ff])))  (r0 : Int32) (h : f_P_fit3 fa fb fc fd fe ff i1 i2 i3 = r0) : Met l y_P_fit3 w_P_fit3 rm_P_fit3 (va_Pc [.ref h0, .int i1, .int i2, .int i3] (PreP D ct ws)) (vp_Si (fun r => r = r0)) 0 0 (fun _ => False) := by
  refine Met.ofW (cc := b_P_fit3) (maxL := 4) (ret := (some .boolean)) (by decide) rfl ?_
  intro p e s m args below meth c s₁ B hml hv
  obtain ⟨rfl, hP, hKK⟩ := hv
  have hx := B.exec
  have hb := B.bytes
  have hr := B.returns
  have htg := ht_tl (atoms_spec (ws := w_P_fit3) B.pre)
  have hown : s.vm.findClass R_Products = some m.cls := findClass_of_methodNamed B.named
  have hlocks := B.notSynchronized
  have hK := hKK.1
  have hN := hKK.2.1
  have hO := hKK.2.2
  have hl := lv_entry ([.ref h0, .int i1, .int i2, .int i3]) (n := 4) (Nat.le_of_ble_eq_true rfl)
  rw [lg_entry_eq]
  generalize (lg_sl ([.ref h0, .int i1, .int i2, .int i3]) ++ List.replicate (4 - (lg_sl ([.ref h0, .int i1, .int i2, .int i3])).length) Slot.unset).toArray = ls at hl ⊢
  have hl : lv_has ls 4 [(0, .ref h0), (1, .int i1), (2, .int i2), (3, .int i3)] := hl
  unfold f_P_fit3 at h
  refine lv_aload_n hx hb d_P_fit3_0 rfl (lv_at hl 0 rfl) ?_
  refine lv_iload_n hx hb d_P_fit3_1 rfl (lv_at hl 3 rfl) ?_
  refine lv_iload_n hx hb d_P_fit3_2 rfl (lv_at hl 3 rfl) ?_
  refine vp_callSl (va_Run.run (va_runV (As := [.int i3, .int i3]) (rest := []) ⟨hx, hb, hml, hown, htg⟩ (c_P_colp l D ct ws k0 h0 fa fb fc fd fe ff i3 i3 hk0  _ rfl) (cwV 2 htg (giV tm_229 tm_231 tm_7 tm_35 g_P_colp) rfl rfl rfl (by decide +kernel) ⟨Nat.le_of_ble_eq_true rfl, Nat.le_of_ble_eq_true rfl⟩) (preV hP hKK (va_recv hK hP (ci := 0) (q0 := k0) rfl hk0)) rfl rfl hl.1 rfl (lv_room (Nat.le_of_ble_eq_true rfl)) d_P_fit3_3 ⟨Nat.le_of_ble_eq_true rfl, Nat.le_of_ble_eq_true rfl⟩)) (fun r9 hr9 => ?_)
  have hr9 := hr9.symm
  subst hr9
  refine lv_aload_n hx hb d_P_fit3_6 rfl (lv_at hl 0 rfl) ?_
  refine va_get (D := D) (ci := 0) (v := .long fc) (C := R_Products) (T := F_Products) (N := 6) hx hb htg i_Products hown hK hP k0 hk0 rfl 2 (by decide) (htg _ tm_137) (fun _ h9 => h9) rfl d_P_fit3_7 ?_
  refine W.lcmp hx hb d_P_fit3_10 ?_
  refine lv_if_ne (tgt := 46) hx hb d_P_fit3_11 (by decide) (fun c_1 => ?_) (fun c_1 => ?_)
  · rw [if_neg c_1] at h
    refine lv_iconst (v := (0 : Int32)) hx hb d_P_fit3_46 (by decide) ?_
    exact W.zret (v := (0 : Int32)) (ty := .boolean) hx hb hr rfl (fun t ht hW => ⟨(0 : Int32), rfl, h, ht⟩) (fun q h => by cases h) d_P_fit3_47
  · rw [if_pos c_1] at h
    refine lv_aload_n hx hb d_P_fit3_14 rfl (lv_at hl 0 rfl) ?_
    refine lv_iload_n hx hb d_P_fit3_15 rfl (lv_at hl 1 rfl) ?_
    refine lv_iload_n hx hb d_P_fit3_16 rfl (lv_at hl 3 rfl) ?_
    refine vp_callSl (va_Run.run (va_runV (As := [.int i1, .int i3]) (rest := []) ⟨hx, hb, hml, hown, htg⟩ (c_P_colp l D ct ws k0 h0 fa fb fc fd fe ff i1 i3 hk0  _ rfl) (cwV 2 htg (giV tm_229 tm_231 tm_7 tm_35 g_P_colp) rfl rfl rfl (by decide +kernel) ⟨Nat.le_of_ble_eq_true rfl, Nat.le_of_ble_eq_true rfl⟩) (preV hP hKK (va_recv hK hP (ci := 0) (q0 := k0) rfl hk0)) rfl rfl hl.1 rfl (lv_room (Nat.le_of_ble_eq_true rfl)) d_P_fit3_17 ⟨Nat.le_of_ble_eq_true rfl, Nat.le_of_ble_eq_true rfl⟩)) (fun r9 hr9 => ?_)
    have hr9 := hr9.symm
    subst hr9
    refine lv_aload_n hx hb d_P_fit3_20 rfl (lv_at hl 0 rfl) ?_
    refine va_get (D := D) (ci := 0) (v := .long fe) (C := R_Products) (T := F_Products) (N := 6) hx hb htg i_Products hown hK hP k0 hk0 rfl 4 (by decide) (htg _ tm_141) (fun _ h9 => h9) rfl d_P_fit3_21 ?_
    refine W.lcmp hx hb d_P_fit3_24 ?_
    refine lv_if_ne (tgt := 46) hx hb d_P_fit3_25 (by decide) (fun c_2 => ?_) (fun c_2 => ?_)
    · rw [if_neg c_2] at h
      refine lv_iconst (v := (0 : Int32)) hx hb d_P_fit3_46 (by decide) ?_
      exact W.zret (v := (0 : Int32)) (ty := .boolean) hx hb hr rfl (fun t ht hW => ⟨(0 : Int32), rfl, h, ht⟩) (fun q h => by cases h) d_P_fit3_47
    · rw [if_pos c_2] at h
      refine lv_aload_n hx hb d_P_fit3_28 rfl (lv_at hl 0 rfl) ?_
      refine lv_iload_n hx hb d_P_fit3_29 rfl (lv_at hl 2 rfl) ?_
      refine lv_iload_n hx hb d_P_fit3_30 rfl (lv_at hl 3 rfl) ?_
      refine vp_callSl (va_Run.run (va_runV (As := [.int i2, .int i3]) (rest := []) ⟨hx, hb, hml, hown, htg⟩ (c_P_colp l D ct ws k0 h0 fa fb fc fd fe ff i2 i3 hk0  _ rfl) (cwV 2 htg (giV tm_229 tm_231 tm_7 tm_35 g_P_colp) rfl rfl rfl (by decide +kernel) ⟨Nat.le_of_ble_eq_true rfl, Nat.le_of_ble_eq_true rfl⟩) (preV hP hKK (va_recv hK hP (ci := 0) (q0 := k0) rfl hk0)) rfl rfl hl.1 rfl (lv_room (Nat.le_of_ble_eq_true rfl)) d_P_fit3_31 ⟨Nat.le_of_ble_eq_true rfl, Nat.le_of_ble_eq_true rfl⟩)) (fun r9 hr9 => ?_)
      have hr9 := hr9.symm
      subst hr9
      refine lv_aload_n hx hb d_P_fit3_34 rfl (lv_at hl 0 rfl) ?_
      refine va_get (D := D) (ci := 0) (v := .long fd) (C := R_Products) (T := F_Products) (N := 6) hx hb htg i_Products hown hK hP k0 hk0 rfl 3 (by decide) (htg _ tm_139) (fun _ h9 => h9) rfl d_P_fit3_35 ?_
      refine W.lcmp hx hb d_P_fit3_38 ?_
      refine lv_if_ne (tgt := 46) hx hb d_P_fit3_39 (by decide) (fun c_3 => ?_) (fun c_3 => ?_)
      · rw [if_neg c_3] at h
        refine lv_iconst (v := (0 : Int32)) hx hb d_P_fit3_46 (by decide) ?_
        exact W.zret (v := (0 : Int32)) (ty := .boolean) hx hb hr rfl (fun t ht hW => ⟨(0 : Int32), rfl, h, ht⟩) (fun q h => by cases h) d_P_fit3_47
      · rw [if_pos c_3] at h
        refine lv_iconst (v := (1 : Int32)) hx hb d_P_fit3_42 (by decide) ?_
        refine lv_goto (tgt := 47) hx hb d_P_fit3_43 (by decide) ?_
        exact W.zret (v := (1 : Int32)) (ty := .boolean) hx hb hr rfl (fun t ht hW => ⟨(1 : Int32), rfl, h, ht⟩) (fun q h => by cases h) d_P_fit3_47
-- CellBench$Products areKeptBy (III)Z
def f_P_kept (fa : Int64) (fb : Int64) (fc : Int64) (fd : Int64) (fe : Int64) (ff : Int64) (i1 : Int32) (i2 : Int32) (i3 : Int32) : Int32 :=
    if (lg_cmp (f_P_colp fa fb fc fd fe ff i1 i1) fa) = 0 then (if (f_P_fit2 fa fb fc fd fe ff i1 i2) = 0 then (0 : Int32) else (if (f_P_fit3 fa fb fc fd fe ff i1 i2 i3) = 0 then (0 : Int32) else (1 : Int32))) else (0 : Int32)
def w_P_kept : List Cond := .code y_P_kept b_P_kept 4 (some .boolean) :: GW
abbrev rm_P_kept : Room := { frames := 3, cells := 0, slots := 0, locals := 77 }
theorem g_P_kept : GoodIn GW w_P_kept := gi tm_297
set_option maxHeartbeats 4000000 in
set_option maxRecDepth 100000 in
theorem c_P_kept (l : Launch) (D : va_G) (ct : CT) (ws : va_W) (k0 : Nat) (h0 : Nat) (fa : Int64) (fb : Int64) (fc : Int64) (fd : Int64) (fe : Int64) (ff : Int64) (i1 : Int32) (i2 : Int32) (i3 : Int32) (hk0 : ws[k0]? = some (h0, .inr (0, [.long fa, .long fb, .long fc, .long fd, .long fe, .long ff])))  (r0 : Int32) (h : f_P_kept fa fb fc fd fe ff i1 i2 i3 = r0) : Met l y_P_kept w_P_kept rm_P_kept (va_Pc [.ref h0, .int i1, .int i2, .int i3] (PreP D ct ws)) (vp_Si (fun r => r = r0)) 0 0 (fun _ => False) := by
  refine Met.ofW (cc := b_P_kept) (maxL := 4) (ret := (some .boolean)) (by decide) rfl ?_
  intro p e s m args below meth c s₁ B hml hv
  obtain ⟨rfl, hP, hKK⟩ := hv
  have hx := B.exec
  have hb := B.bytes
  have hr := B.returns
  have htg := ht_tl (atoms_spec (ws := w_P_kept) B.pre)
  have hown : s.vm.findClass R_Products = some m.cls := findClass_of_methodNamed B.named
  have hlocks := B.notSynchronized
  have hK := hKK.1
  have hN := hKK.2.1
  have hO := hKK.2.2
  have hl := lv_entry ([.ref h0, .int i1, .int i2, .int i3]) (n := 4) (Nat.le_of_ble_eq_true rfl)
  rw [lg_entry_eq]
  generalize (lg_sl ([.ref h0, .int i1, .int i2, .int i3]) ++ List.replicate (4 - (lg_sl ([.ref h0, .int i1, .int i2, .int i3])).length) Slot.unset).toArray = ls at hl ⊢
  have hl : lv_has ls 4 [(0, .ref h0), (1, .int i1), (2, .int i2), (3, .int i3)] := hl
  unfold f_P_kept at h
  refine lv_aload_n hx hb d_P_kept_0 rfl (lv_at hl 0 rfl) ?_
  refine lv_iload_n hx hb d_P_kept_1 rfl (lv_at hl 1 rfl) ?_
  refine lv_iload_n hx hb d_P_kept_2 rfl (lv_at hl 1 rfl) ?_
  refine vp_callSl (va_Run.run (va_runV (As := [.int i1, .int i1]) (rest := []) ⟨hx, hb, hml, hown, htg⟩ (c_P_colp l D ct ws k0 h0 fa fb fc fd fe ff i1 i1 hk0  _ rfl) (cwV 2 htg (giV tm_229 tm_231 tm_7 tm_35 g_P_colp) rfl rfl rfl (by decide +kernel) ⟨Nat.le_of_ble_eq_true rfl, Nat.le_of_ble_eq_true rfl⟩) (preV hP hKK (va_recv hK hP (ci := 0) (q0 := k0) rfl hk0)) rfl rfl hl.1 rfl (lv_room (Nat.le_of_ble_eq_true rfl)) d_P_kept_3 ⟨Nat.le_of_ble_eq_true rfl, Nat.le_of_ble_eq_true rfl⟩)) (fun r9 hr9 => ?_)
  have hr9 := hr9.symm
  subst hr9
  refine lv_aload_n hx hb d_P_kept_6 rfl (lv_at hl 0 rfl) ?_
  refine va_get (D := D) (ci := 0) (v := .long fa) (C := R_Products) (T := F_Products) (N := 6) hx hb htg i_Products hown hK hP k0 hk0 rfl 0 (by decide) (htg _ tm_133) (fun _ h9 => h9) rfl d_P_kept_7 ?_
  refine W.lcmp hx hb d_P_kept_10 ?_
  refine lv_if_ne (tgt := 37) hx hb d_P_kept_11 (by decide) (fun c_1 => ?_) (fun c_1 => ?_)
  · rw [if_neg c_1] at h
    refine lv_iconst (v := (0 : Int32)) hx hb d_P_kept_37 (by decide) ?_
    exact W.zret (v := (0 : Int32)) (ty := .boolean) hx hb hr rfl (fun t ht hW => ⟨(0 : Int32), rfl, h, ht⟩) (fun q h => by cases h) d_P_kept_38
  · rw [if_pos c_1] at h
    refine lv_aload_n hx hb d_P_kept_14 rfl (lv_at hl 0 rfl) ?_
    refine lv_iload_n hx hb d_P_kept_15 rfl (lv_at hl 1 rfl) ?_
    refine lv_iload_n hx hb d_P_kept_16 rfl (lv_at hl 2 rfl) ?_
    refine vp_callSi (va_Run.run (va_runV (As := [.int i1, .int i2]) (rest := []) ⟨hx, hb, hml, hown, htg⟩ (c_P_fit2 l D ct ws k0 h0 fa fb fc fd fe ff i1 i2 hk0  _ rfl) (cwV 2 htg (giV tm_237 tm_239 tm_8 tm_35 g_P_fit2) rfl rfl rfl (by decide +kernel) ⟨Nat.le_of_ble_eq_true rfl, Nat.le_of_ble_eq_true rfl⟩) (preV hP hKK (va_recv hK hP (ci := 0) (q0 := k0) rfl hk0)) rfl rfl hl.1 rfl (lv_room (Nat.le_of_ble_eq_true rfl)) d_P_kept_17 ⟨Nat.le_of_ble_eq_true rfl, Nat.le_of_ble_eq_true rfl⟩)) (fun r9 hr9 => ?_)
    have hr9 := hr9.symm
    subst hr9
    refine lv_if_eq (tgt := 37) hx hb d_P_kept_20 (by decide) (fun c_2 => ?_) (fun c_2 => ?_)
    · rw [if_pos c_2] at h
      refine lv_iconst (v := (0 : Int32)) hx hb d_P_kept_37 (by decide) ?_
      exact W.zret (v := (0 : Int32)) (ty := .boolean) hx hb hr rfl (fun t ht hW => ⟨(0 : Int32), rfl, h, ht⟩) (fun q h => by cases h) d_P_kept_38
    · rw [if_neg c_2] at h
      refine lv_aload_n hx hb d_P_kept_23 rfl (lv_at hl 0 rfl) ?_
      refine lv_iload_n hx hb d_P_kept_24 rfl (lv_at hl 1 rfl) ?_
      refine lv_iload_n hx hb d_P_kept_25 rfl (lv_at hl 2 rfl) ?_
      refine lv_iload_n hx hb d_P_kept_26 rfl (lv_at hl 3 rfl) ?_
      refine vp_callSi (va_Run.run (va_runV (As := [.int i1, .int i2, .int i3]) (rest := []) ⟨hx, hb, hml, hown, htg⟩ (c_P_fit3 l D ct ws k0 h0 fa fb fc fd fe ff i1 i2 i3 hk0  _ rfl) (cwV 3 htg (giV tm_245 tm_247 tm_10 tm_35 g_P_fit3) rfl rfl rfl (by decide +kernel) ⟨Nat.le_of_ble_eq_true rfl, Nat.le_of_ble_eq_true rfl⟩) (preV hP hKK (va_recv hK hP (ci := 0) (q0 := k0) rfl hk0)) rfl rfl hl.1 rfl (lv_room (Nat.le_of_ble_eq_true rfl)) d_P_kept_27 ⟨Nat.le_of_ble_eq_true rfl, Nat.le_of_ble_eq_true rfl⟩)) (fun r9 hr9 => ?_)
      have hr9 := hr9.symm
      subst hr9
      refine lv_if_eq (tgt := 37) hx hb d_P_kept_30 (by decide) (fun c_3 => ?_) (fun c_3 => ?_)
      · rw [if_pos c_3] at h
        refine lv_iconst (v := (0 : Int32)) hx hb d_P_kept_37 (by decide) ?_
        exact W.zret (v := (0 : Int32)) (ty := .boolean) hx hb hr rfl (fun t ht hW => ⟨(0 : Int32), rfl, h, ht⟩) (fun q h => by cases h) d_P_kept_38
      · rw [if_neg c_3] at h
        refine lv_iconst (v := (1 : Int32)) hx hb d_P_kept_33 (by decide) ?_
        refine lv_goto (tgt := 38) hx hb d_P_kept_34 (by decide) ?_
        exact W.zret (v := (1 : Int32)) (ty := .boolean) hx hb hr rfl (fun t ht hW => ⟨(1 : Int32), rfl, h, ht⟩) (fun q h => by cases h) d_P_kept_38
-- CellBench$Products countThirds (II)I
def lp_P_thirds_5 (fa : Int64) (fb : Int64) (fc : Int64) (fd : Int64) (fe : Int64) (ff : Int64) (i1 : Int32) (i2 : Int32) : Nat → Int32 → Int32 → Option (Int32)
  | 0, _, _ => none
  | n + 1, th, ix =>
    if (27 : Int32) ≤ ix then (some th) else (if (f_P_fit3 fa fb fc fd fe ff i1 i2 ix) = 0 then (lp_P_thirds_5 fa fb fc fd fe ff i1 i2 n th (ix + (1 : Int32))) else (lp_P_thirds_5 fa fb fc fd fe ff i1 i2 n (th + (1 : Int32)) (ix + (1 : Int32))))
def f_P_thirds (fa : Int64) (fb : Int64) (fc : Int64) (fd : Int64) (fe : Int64) (ff : Int64) (i1 : Int32) (i2 : Int32) : Option (Int32) :=
    lp_P_thirds_5 fa fb fc fd fe ff i1 i2 28 (0 : Int32) (0 : Int32)
def w_P_thirds : List Cond := .code y_P_thirds b_P_thirds 5 (some .int) :: GW
abbrev rm_P_thirds : Room := { frames := 3, cells := 0, slots := 0, locals := 77 }
theorem g_P_thirds : GoodIn GW w_P_thirds := gi tm_244
set_option maxHeartbeats 4000000 in
set_option maxRecDepth 100000 in
theorem c_P_thirds (l : Launch) (D : va_G) (ct : CT) (ws : va_W) (k0 : Nat) (h0 : Nat) (fa : Int64) (fb : Int64) (fc : Int64) (fd : Int64) (fe : Int64) (ff : Int64) (i1 : Int32) (i2 : Int32) (hk0 : ws[k0]? = some (h0, .inr (0, [.long fa, .long fb, .long fc, .long fd, .long fe, .long ff])))  (r0 : Int32) (h : f_P_thirds fa fb fc fd fe ff i1 i2 = some r0) : Met l y_P_thirds w_P_thirds rm_P_thirds (va_Pc [.ref h0, .int i1, .int i2] (PreP D ct ws)) (vp_Si (fun r => r = r0)) 0 0 (fun _ => False) := by
  refine Met.ofW (cc := b_P_thirds) (maxL := 5) (ret := (some .int)) (by decide) rfl ?_
  intro p e s m args below meth c s₁ B hml hv
  obtain ⟨rfl, hP, hKK⟩ := hv
  have hx := B.exec
  have hb := B.bytes
  have hr := B.returns
  have htg := ht_tl (atoms_spec (ws := w_P_thirds) B.pre)
  have hown : s.vm.findClass R_Products = some m.cls := findClass_of_methodNamed B.named
  have hlocks := B.notSynchronized
  have hK := hKK.1
  have hN := hKK.2.1
  have hO := hKK.2.2
  have hl := lv_entry ([.ref h0, .int i1, .int i2]) (n := 5) (Nat.le_of_ble_eq_true rfl)
  rw [lg_entry_eq]
  generalize (lg_sl ([.ref h0, .int i1, .int i2]) ++ List.replicate (5 - (lg_sl ([.ref h0, .int i1, .int i2])).length) Slot.unset).toArray = ls at hl ⊢
  have hl : lv_has ls 5 [(0, .ref h0), (1, .int i1), (2, .int i2)] := hl
  unfold f_P_thirds at h
  refine lv_iconst (v := (0 : Int32)) hx hb d_P_thirds_0 (by decide) ?_
  refine lv_istore_n (lv' := [(3, .int (0 : Int32)), (0, .ref h0), (1, .int i1), (2, .int i2)]) hx hb d_P_thirds_1 rfl hl (by decide) rfl (fun ls hl => ?_)
  refine lv_iconst (v := (0 : Int32)) hx hb d_P_thirds_2 (by decide) ?_
  refine lv_istore (lv' := [(4, .int (0 : Int32)), (3, .int (0 : Int32)), (0, .ref h0), (1, .int i1), (2, .int i2)]) hx hb d_P_thirds_3 hl (by decide) rfl (fun ls hl => ?_)
  have L_5 : ∀ (n : Nat) (th : Int32) (ix : Int32) , lp_P_thirds_5 fa fb fc fd fe ff i1 i2 n th ix = some r0 → ∀ (ls : Array Slot), lv_has ls 5 [(3, .int th), (4, .int ix), (0, .ref h0), (1, .int i1), (2, .int i2)] → W p l e (headSpec w_P_thirds rm_P_thirds).room s m ([.ref h0, .int i1, .int i2] : List Value).toArray below meth c s.heap [] 0 0 (MQ below (vp_Si (fun r => r = r0)) ([.ref h0, .int i1, .int i2] : List Value).toArray s 0 0 (fun _ => False)) (F0 m 5 ls []) := by
    intro n
    induction n with
    | zero =>
      intro th ix  h
      rw [lp_P_thirds_5] at h
      cases h
    | succ n ih =>
      intro th ix  h ls hl
      rw [lp_P_thirds_5] at h
      refine lv_iload hx hb d_P_thirds_5 (lv_at hl 1 rfl) ?_
      refine lv_bipush (v := (27 : Int32)) hx hb d_P_thirds_7 (by decide) ?_
      refine lv_icmp_ge (tgt := 32) hx hb d_P_thirds_9 (by decide) (fun c_1 => ?_) (fun c_1 => ?_)
      · rw [if_pos c_1] at h
        refine lv_iload_n hx hb d_P_thirds_32 rfl (lv_at hl 0 rfl) ?_
        exact W.iret (v := th) hx hb hr (fun t ht hW => ⟨th, rfl, (Option.some.inj h), ht⟩) (fun q h => by cases h) d_P_thirds_33
      · rw [if_neg c_1] at h
        refine lv_aload_n hx hb d_P_thirds_12 rfl (lv_at hl 2 rfl) ?_
        refine lv_iload_n hx hb d_P_thirds_13 rfl (lv_at hl 3 rfl) ?_
        refine lv_iload_n hx hb d_P_thirds_14 rfl (lv_at hl 4 rfl) ?_
        refine lv_iload hx hb d_P_thirds_15 (lv_at hl 1 rfl) ?_
        refine vp_callSi (va_Run.run (va_runV (As := [.int i1, .int i2, .int ix]) (rest := []) ⟨hx, hb, hml, hown, htg⟩ (c_P_fit3 l D ct ws k0 h0 fa fb fc fd fe ff i1 i2 ix hk0  _ rfl) (cwV 3 htg (giV tm_245 tm_247 tm_10 tm_35 g_P_fit3) rfl rfl rfl (by decide +kernel) ⟨Nat.le_of_ble_eq_true rfl, Nat.le_of_ble_eq_true rfl⟩) (preV hP hKK (va_recv hK hP (ci := 0) (q0 := k0) rfl hk0)) rfl rfl hl.1 rfl (lv_room (Nat.le_of_ble_eq_true rfl)) d_P_thirds_17 ⟨Nat.le_of_ble_eq_true rfl, Nat.le_of_ble_eq_true rfl⟩)) (fun r9 hr9 => ?_)
        have hr9 := hr9.symm
        subst hr9
        refine lv_if_eq (tgt := 26) hx hb d_P_thirds_20 (by decide) (fun c_2 => ?_) (fun c_2 => ?_)
        · rw [if_pos c_2] at h
          refine lv_iinc (v := ix + (1 : Int32)) (lv' := [(4, .int (ix + (1 : Int32))), (3, .int th), (0, .ref h0), (1, .int i1), (2, .int i2)]) hx hb d_P_thirds_26 hl (k := 1) rfl rfl (by decide) rfl (fun ls hl => ?_)
          refine lv_goto (tgt := 5) hx hb d_P_thirds_29 (by decide) ?_
          exact ih th (ix + (1 : Int32)) h ls (lv_sub hl [1, 0, 2, 3, 4] rfl)
        · rw [if_neg c_2] at h
          refine lv_iinc (v := th + (1 : Int32)) (lv' := [(3, .int (th + (1 : Int32))), (4, .int ix), (0, .ref h0), (1, .int i1), (2, .int i2)]) hx hb d_P_thirds_23 hl (k := 0) rfl rfl (by decide) rfl (fun ls hl => ?_)
          refine lv_iinc (v := ix + (1 : Int32)) (lv' := [(4, .int (ix + (1 : Int32))), (3, .int (th + (1 : Int32))), (0, .ref h0), (1, .int i1), (2, .int i2)]) hx hb d_P_thirds_26 hl (k := 1) rfl rfl (by decide) rfl (fun ls hl => ?_)
          refine lv_goto (tgt := 5) hx hb d_P_thirds_29 (by decide) ?_
          exact ih (th + (1 : Int32)) (ix + (1 : Int32)) h ls (lv_sub hl [1, 0, 2, 3, 4] rfl)
  exact L_5 28 (0 : Int32) (0 : Int32) h ls (lv_sub hl [1, 0, 2, 3, 4] rfl)
-- CellBench$Products countKeepers ()I
def lp_P_keepers_29 (fa : Int64) (fb : Int64) (fc : Int64) (fd : Int64) (fe : Int64) (ff : Int64) : Nat → Int32 → Int32 → Int32 → Option (Int32 × Int32 × Int32)
  | 0, _, _, _ => none
  | n + 1, ks, fi, se =>
    if (27 : Int32) ≤ se then (some (ks, fi, se)) else (if (f_P_fit2 fa fb fc fd fe ff fi se) = 0 then (lp_P_keepers_29 fa fb fc fd fe ff n ks fi (se + (1 : Int32))) else (Option.bind (f_P_thirds fa fb fc fd fe ff fi se) (fun z_7 => (lp_P_keepers_29 fa fb fc fd fe ff n (ks + z_7) fi (se + (1 : Int32))))))
def lp_P_keepers_4 (fa : Int64) (fb : Int64) (fc : Int64) (fd : Int64) (fe : Int64) (ff : Int64) : Nat → Int32 → Int32 → Option (Int32)
  | 0, _, _ => none
  | n + 1, ks, fi =>
    if (27 : Int32) ≤ fi then (some ks) else (if (lg_cmp (f_P_colp fa fb fc fd fe ff fi fi) fa) = 0 then (Option.bind (lp_P_keepers_29 fa fb fc fd fe ff 28 ks fi (0 : Int32)) (fun z_12 => (lp_P_keepers_4 fa fb fc fd fe ff n z_12.1 (z_12.2.1 + (1 : Int32))))) else (lp_P_keepers_4 fa fb fc fd fe ff n ks (fi + (1 : Int32))))
def f_P_keepers (fa : Int64) (fb : Int64) (fc : Int64) (fd : Int64) (fe : Int64) (ff : Int64) : Option (Int32) :=
    lp_P_keepers_4 fa fb fc fd fe ff 28 (0 : Int32) (0 : Int32)
def w_P_keepers : List Cond := .code y_P_keepers b_P_keepers 4 (some .int) :: GW
abbrev rm_P_keepers : Room := { frames := 4, cells := 0, slots := 0, locals := 101 }
theorem g_P_keepers : GoodIn GW w_P_keepers := gi tm_228
set_option maxHeartbeats 4000000 in
set_option maxRecDepth 100000 in
theorem c_P_keepers (l : Launch) (D : va_G) (ct : CT) (ws : va_W) (k0 : Nat) (h0 : Nat) (fa : Int64) (fb : Int64) (fc : Int64) (fd : Int64) (fe : Int64) (ff : Int64) (hk0 : ws[k0]? = some (h0, .inr (0, [.long fa, .long fb, .long fc, .long fd, .long fe, .long ff])))  (r0 : Int32) (h : f_P_keepers fa fb fc fd fe ff = some r0) : Met l y_P_keepers w_P_keepers rm_P_keepers (va_Pc [.ref h0] (PreP D ct ws)) (vp_Si (fun r => r = r0)) 0 0 (fun _ => False) := by
  refine Met.ofW (cc := b_P_keepers) (maxL := 4) (ret := (some .int)) (by decide) rfl ?_
  intro p e s m args below meth c s₁ B hml hv
  obtain ⟨rfl, hP, hKK⟩ := hv
  have hx := B.exec
  have hb := B.bytes
  have hr := B.returns
  have htg := ht_tl (atoms_spec (ws := w_P_keepers) B.pre)
  have hown : s.vm.findClass R_Products = some m.cls := findClass_of_methodNamed B.named
  have hlocks := B.notSynchronized
  have hK := hKK.1
  have hN := hKK.2.1
  have hO := hKK.2.2
  have hl := lv_entry ([.ref h0]) (n := 4) (Nat.le_of_ble_eq_true rfl)
  rw [lg_entry_eq]
  generalize (lg_sl ([.ref h0]) ++ List.replicate (4 - (lg_sl ([.ref h0])).length) Slot.unset).toArray = ls at hl ⊢
  have hl : lv_has ls 4 [(0, .ref h0)] := hl
  unfold f_P_keepers at h
  refine lv_iconst (v := (0 : Int32)) hx hb d_P_keepers_0 (by decide) ?_
  refine lv_istore_n (lv' := [(1, .int (0 : Int32)), (0, .ref h0)]) hx hb d_P_keepers_1 rfl hl (by decide) rfl (fun ls hl => ?_)
  refine lv_iconst (v := (0 : Int32)) hx hb d_P_keepers_2 (by decide) ?_
  refine lv_istore_n (lv' := [(2, .int (0 : Int32)), (1, .int (0 : Int32)), (0, .ref h0)]) hx hb d_P_keepers_3 rfl hl (by decide) rfl (fun ls hl => ?_)
  have L_29 : ∀ (n : Nat) (ks : Int32) (fi : Int32) (se : Int32) (ks' : Int32) (fi' : Int32) (se' : Int32), lp_P_keepers_29 fa fb fc fd fe ff n ks fi se = some (ks', fi', se') → ∀ (ls : Array Slot), lv_has ls 4 [(1, .int ks), (2, .int fi), (3, .int se), (0, .ref h0)] → (∀ (ls : Array Slot), lv_has ls 4 [(1, .int ks'), (2, .int fi'), (3, .int se'), (0, .ref h0)] → W p l e (headSpec w_P_keepers rm_P_keepers).room s m ([.ref h0] : List Value).toArray below meth c s.heap [] 0 0 (MQ below (vp_Si (fun r => r = r0)) ([.ref h0] : List Value).toArray s 0 0 (fun _ => False)) (F0 m 59 ls [])) → W p l e (headSpec w_P_keepers rm_P_keepers).room s m ([.ref h0] : List Value).toArray below meth c s.heap [] 0 0 (MQ below (vp_Si (fun r => r = r0)) ([.ref h0] : List Value).toArray s 0 0 (fun _ => False)) (F0 m 29 ls []) := by
    intro n
    induction n with
    | zero =>
      intro ks fi se ks' fi' se' h
      rw [lp_P_keepers_29] at h
      cases h
    | succ n ih =>
      intro ks fi se ks' fi' se' h ls hl K
      rw [lp_P_keepers_29] at h
      refine lv_iload_n hx hb d_P_keepers_29 rfl (lv_at hl 2 rfl) ?_
      refine lv_bipush (v := (27 : Int32)) hx hb d_P_keepers_30 (by decide) ?_
      refine lv_icmp_ge (tgt := 59) hx hb d_P_keepers_32 (by decide) (fun c_3 => ?_) (fun c_3 => ?_)
      · rw [if_pos c_3] at h
        cases h
        exact K _ (lv_sub hl [0, 1, 2, 3] rfl)
      · rw [if_neg c_3] at h
        refine lv_aload_n hx hb d_P_keepers_35 rfl (lv_at hl 3 rfl) ?_
        refine lv_iload_n hx hb d_P_keepers_36 rfl (lv_at hl 1 rfl) ?_
        refine lv_iload_n hx hb d_P_keepers_37 rfl (lv_at hl 2 rfl) ?_
        refine vp_callSi (va_Run.run (va_runV (As := [.int fi, .int se]) (rest := []) ⟨hx, hb, hml, hown, htg⟩ (c_P_fit2 l D ct ws k0 h0 fa fb fc fd fe ff fi se hk0  _ rfl) (cwV 2 htg (giV tm_237 tm_239 tm_8 tm_35 g_P_fit2) rfl rfl rfl (by decide +kernel) ⟨Nat.le_of_ble_eq_true rfl, Nat.le_of_ble_eq_true rfl⟩) (preV hP hKK (va_recv hK hP (ci := 0) (q0 := k0) rfl hk0)) rfl rfl hl.1 rfl (lv_room (Nat.le_of_ble_eq_true rfl)) d_P_keepers_38 ⟨Nat.le_of_ble_eq_true rfl, Nat.le_of_ble_eq_true rfl⟩)) (fun r9 hr9 => ?_)
        have hr9 := hr9.symm
        subst hr9
        refine lv_if_eq (tgt := 53) hx hb d_P_keepers_41 (by decide) (fun c_4 => ?_) (fun c_4 => ?_)
        · rw [if_pos c_4] at h
          refine lv_iinc (v := se + (1 : Int32)) (lv' := [(3, .int (se + (1 : Int32))), (1, .int ks), (2, .int fi), (0, .ref h0)]) hx hb d_P_keepers_53 hl (k := 2) rfl rfl (by decide) rfl (fun ls hl => ?_)
          refine lv_goto (tgt := 29) hx hb d_P_keepers_56 (by decide) ?_
          exact ih ks fi (se + (1 : Int32)) _ _ _ h ls (lv_sub hl [1, 2, 0, 3] rfl) K
        · rw [if_neg c_4] at h
          refine lv_iload_n hx hb d_P_keepers_44 rfl (lv_at hl 0 rfl) ?_
          refine lv_aload_n hx hb d_P_keepers_45 rfl (lv_at hl 3 rfl) ?_
          refine lv_iload_n hx hb d_P_keepers_46 rfl (lv_at hl 1 rfl) ?_
          refine lv_iload_n hx hb d_P_keepers_47 rfl (lv_at hl 2 rfl) ?_
          rcases e_5 : f_P_thirds fa fb fc fd fe ff fi se with _ | v_6
          · rw [e_5] at h; cases h
          rw [e_5, Option.bind_some] at h
          try dsimp only at h
          refine vp_callSi (va_Run.run (va_runV (As := [.int fi, .int se]) (rest := [.int ks]) ⟨hx, hb, hml, hown, htg⟩ (c_P_thirds l D ct ws k0 h0 fa fb fc fd fe ff fi se hk0  _ e_5) (cwV 2 htg (giV tm_241 tm_243 tm_9 tm_35 g_P_thirds) rfl rfl rfl (by decide +kernel) ⟨Nat.le_of_ble_eq_true rfl, Nat.le_of_ble_eq_true rfl⟩) (preV hP hKK (va_recv hK hP (ci := 0) (q0 := k0) rfl hk0)) rfl rfl hl.1 rfl (lv_room (Nat.le_of_ble_eq_true rfl)) d_P_keepers_48 ⟨Nat.le_of_ble_eq_true rfl, Nat.le_of_ble_eq_true rfl⟩)) (fun r9 hr9 => ?_)
          have hr9 := hr9.symm
          subst hr9
          refine lv_iadd hx hb d_P_keepers_51 ?_
          refine lv_istore_n (lv' := [(1, .int (ks + v_6)), (2, .int fi), (3, .int se), (0, .ref h0)]) hx hb d_P_keepers_52 rfl hl (by decide) rfl (fun ls hl => ?_)
          refine lv_iinc (v := se + (1 : Int32)) (lv' := [(3, .int (se + (1 : Int32))), (1, .int (ks + v_6)), (2, .int fi), (0, .ref h0)]) hx hb d_P_keepers_53 hl (k := 2) rfl rfl (by decide) rfl (fun ls hl => ?_)
          refine lv_goto (tgt := 29) hx hb d_P_keepers_56 (by decide) ?_
          exact ih (ks + v_6) fi (se + (1 : Int32)) _ _ _ h ls (lv_sub hl [1, 2, 0, 3] rfl) K
  have L_4 : ∀ (n : Nat) (ks : Int32) (fi : Int32) , lp_P_keepers_4 fa fb fc fd fe ff n ks fi = some r0 → ∀ (ls : Array Slot), lv_has ls 4 [(1, .int ks), (2, .int fi), (0, .ref h0)] → W p l e (headSpec w_P_keepers rm_P_keepers).room s m ([.ref h0] : List Value).toArray below meth c s.heap [] 0 0 (MQ below (vp_Si (fun r => r = r0)) ([.ref h0] : List Value).toArray s 0 0 (fun _ => False)) (F0 m 4 ls []) := by
    intro n
    induction n with
    | zero =>
      intro ks fi  h
      rw [lp_P_keepers_4] at h
      cases h
    | succ n ih =>
      intro ks fi  h ls hl
      rw [lp_P_keepers_4] at h
      refine lv_iload_n hx hb d_P_keepers_4 rfl (lv_at hl 1 rfl) ?_
      refine lv_bipush (v := (27 : Int32)) hx hb d_P_keepers_5 (by decide) ?_
      refine lv_icmp_ge (tgt := 65) hx hb d_P_keepers_7 (by decide) (fun c_1 => ?_) (fun c_1 => ?_)
      · rw [if_pos c_1] at h
        refine lv_iload_n hx hb d_P_keepers_65 rfl (lv_at hl 0 rfl) ?_
        exact W.iret (v := ks) hx hb hr (fun t ht hW => ⟨ks, rfl, (Option.some.inj h), ht⟩) (fun q h => by cases h) d_P_keepers_66
      · rw [if_neg c_1] at h
        refine lv_aload_n hx hb d_P_keepers_10 rfl (lv_at hl 2 rfl) ?_
        refine lv_iload_n hx hb d_P_keepers_11 rfl (lv_at hl 1 rfl) ?_
        refine lv_iload_n hx hb d_P_keepers_12 rfl (lv_at hl 1 rfl) ?_
        refine vp_callSl (va_Run.run (va_runV (As := [.int fi, .int fi]) (rest := []) ⟨hx, hb, hml, hown, htg⟩ (c_P_colp l D ct ws k0 h0 fa fb fc fd fe ff fi fi hk0  _ rfl) (cwV 2 htg (giV tm_229 tm_231 tm_7 tm_35 g_P_colp) rfl rfl rfl (by decide +kernel) ⟨Nat.le_of_ble_eq_true rfl, Nat.le_of_ble_eq_true rfl⟩) (preV hP hKK (va_recv hK hP (ci := 0) (q0 := k0) rfl hk0)) rfl rfl hl.1 rfl (lv_room (Nat.le_of_ble_eq_true rfl)) d_P_keepers_13 ⟨Nat.le_of_ble_eq_true rfl, Nat.le_of_ble_eq_true rfl⟩)) (fun r9 hr9 => ?_)
        have hr9 := hr9.symm
        subst hr9
        refine lv_aload_n hx hb d_P_keepers_16 rfl (lv_at hl 2 rfl) ?_
        refine va_get (D := D) (ci := 0) (v := .long fa) (C := R_Products) (T := F_Products) (N := 6) hx hb htg i_Products hown hK hP k0 hk0 rfl 0 (by decide) (htg _ tm_133) (fun _ h9 => h9) rfl d_P_keepers_17 ?_
        refine W.lcmp hx hb d_P_keepers_20 ?_
        refine lv_if_eq (tgt := 27) hx hb d_P_keepers_21 (by decide) (fun c_2 => ?_) (fun c_2 => ?_)
        · rw [if_pos c_2] at h
          refine lv_iconst (v := (0 : Int32)) hx hb d_P_keepers_27 (by decide) ?_
          refine lv_istore_n (lv' := [(3, .int (0 : Int32)), (1, .int ks), (2, .int fi), (0, .ref h0)]) hx hb d_P_keepers_28 rfl hl (by decide) rfl (fun ls hl => ?_)
          rcases e_11 : lp_P_keepers_29 fa fb fc fd fe ff 28 ks fi (0 : Int32) with _ | ⟨ks_8, fi_9, se_10⟩
          · rw [e_11] at h; cases h
          rw [e_11, Option.bind_some] at h
          try dsimp only at h
          refine L_29 28 ks fi (0 : Int32) ks_8 fi_9 se_10 e_11 ls (lv_sub hl [1, 2, 0, 3] rfl) (fun ls hl => ?_)
          refine lv_iinc (v := fi_9 + (1 : Int32)) (lv' := [(2, .int (fi_9 + (1 : Int32))), (1, .int ks_8), (3, .int se_10), (0, .ref h0)]) hx hb d_P_keepers_59 hl (k := 1) rfl rfl (by decide) rfl (fun ls hl => ?_)
          refine lv_goto (tgt := 4) hx hb d_P_keepers_62 (by decide) ?_
          exact ih ks_8 (fi_9 + (1 : Int32)) h ls (lv_sub hl [1, 0, 3] rfl)
        · rw [if_neg c_2] at h
          refine lv_goto (tgt := 59) hx hb d_P_keepers_24 (by decide) ?_
          refine lv_iinc (v := fi + (1 : Int32)) (lv' := [(2, .int (fi + (1 : Int32))), (1, .int ks), (0, .ref h0)]) hx hb d_P_keepers_59 hl (k := 1) rfl rfl (by decide) rfl (fun ls hl => ?_)
          refine lv_goto (tgt := 4) hx hb d_P_keepers_62 (by decide) ?_
          exact ih ks (fi + (1 : Int32)) h ls (lv_sub hl [1, 0, 2] rfl)
  exact L_4 28 (0 : Int32) (0 : Int32) h ls (lv_sub hl [1, 0, 2] rfl)
-- CellBench$Products order (LCellBench$Products;)I
def lp_P_order_2 (fa : Int64) (fb : Int64) (fc : Int64) (fd : Int64) (fe : Int64) (ff : Int64) (ga : Int64) (gb : Int64) (gc : Int64) (gd : Int64) (ge : Int64) (gf : Int64) : Nat → Int32 → Option (Int32)
  | 0, _ => none
  | n + 1, wh =>
    if (6 : Int32) ≤ wh then (some (0 : Int32)) else (if (f_Long_cmp (f_P_at fa fb fc fd fe ff wh) (f_P_at ga gb gc gd ge gf wh)) = 0 then (lp_P_order_2 fa fb fc fd fe ff ga gb gc gd ge gf n (wh + (1 : Int32))) else (some (f_Long_cmp (f_P_at fa fb fc fd fe ff wh) (f_P_at ga gb gc gd ge gf wh))))
def f_P_order (fa : Int64) (fb : Int64) (fc : Int64) (fd : Int64) (fe : Int64) (ff : Int64) (ga : Int64) (gb : Int64) (gc : Int64) (gd : Int64) (ge : Int64) (gf : Int64) : Option (Int32) :=
    lp_P_order_2 fa fb fc fd fe ff ga gb gc gd ge gf 7 (0 : Int32)
def w_P_order : List Cond := .code y_P_order b_P_order 4 (some .int) :: GW
abbrev rm_P_order : Room := { frames := 1, cells := 0, slots := 0, locals := 23 }
theorem g_P_order : GoodIn GW w_P_order := gi tm_305
set_option maxHeartbeats 4000000 in
set_option maxRecDepth 100000 in
theorem c_P_order (l : Launch) (D : va_G) (ct : CT) (ws : va_W) (k0 : Nat) (k1 : Nat) (h0 : Nat) (fa : Int64) (fb : Int64) (fc : Int64) (fd : Int64) (fe : Int64) (ff : Int64) (h1 : Nat) (ga : Int64) (gb : Int64) (gc : Int64) (gd : Int64) (ge : Int64) (gf : Int64) (hk0 : ws[k0]? = some (h0, .inr (0, [.long fa, .long fb, .long fc, .long fd, .long fe, .long ff]))) (hk1 : ws[k1]? = some (h1, .inr (0, [.long ga, .long gb, .long gc, .long gd, .long ge, .long gf])))  (r0 : Int32) (h : f_P_order fa fb fc fd fe ff ga gb gc gd ge gf = some r0) : Met l y_P_order w_P_order rm_P_order (va_Pc [.ref h0, .ref h1] (PreP D ct ws)) (vp_Si (fun r => r = r0)) 0 0 (fun _ => False) := by
  refine Met.ofW (cc := b_P_order) (maxL := 4) (ret := (some .int)) (by decide) rfl ?_
  intro p e s m args below meth c s₁ B hml hv
  obtain ⟨rfl, hP, hKK⟩ := hv
  have hx := B.exec
  have hb := B.bytes
  have hr := B.returns
  have htg := ht_tl (atoms_spec (ws := w_P_order) B.pre)
  have hown : s.vm.findClass R_Products = some m.cls := findClass_of_methodNamed B.named
  have hlocks := B.notSynchronized
  have hK := hKK.1
  have hN := hKK.2.1
  have hO := hKK.2.2
  have hl := lv_entry ([.ref h0, .ref h1]) (n := 4) (Nat.le_of_ble_eq_true rfl)
  rw [lg_entry_eq]
  generalize (lg_sl ([.ref h0, .ref h1]) ++ List.replicate (4 - (lg_sl ([.ref h0, .ref h1])).length) Slot.unset).toArray = ls at hl ⊢
  have hl : lv_has ls 4 [(0, .ref h0), (1, .ref h1)] := hl
  unfold f_P_order at h
  refine lv_iconst (v := (0 : Int32)) hx hb d_P_order_0 (by decide) ?_
  refine lv_istore_n (lv' := [(2, .int (0 : Int32)), (0, .ref h0), (1, .ref h1)]) hx hb d_P_order_1 rfl hl (by decide) rfl (fun ls hl => ?_)
  have L_2 : ∀ (n : Nat) (wh : Int32) , lp_P_order_2 fa fb fc fd fe ff ga gb gc gd ge gf n wh = some r0 → ∀ (ls : Array Slot), lv_has ls 4 [(2, .int wh), (0, .ref h0), (1, .ref h1)] → W p l e (headSpec w_P_order rm_P_order).room s m ([.ref h0, .ref h1] : List Value).toArray below meth c s.heap [] 0 0 (MQ below (vp_Si (fun r => r = r0)) ([.ref h0, .ref h1] : List Value).toArray s 0 0 (fun _ => False)) (F0 m 2 ls []) := by
    intro n
    induction n with
    | zero =>
      intro wh  h
      rw [lp_P_order_2] at h
      cases h
    | succ n ih =>
      intro wh  h ls hl
      rw [lp_P_order_2] at h
      refine lv_iload_n hx hb d_P_order_2 rfl (lv_at hl 0 rfl) ?_
      refine lv_bipush (v := (6 : Int32)) hx hb d_P_order_3 (by decide) ?_
      refine lv_icmp_ge (tgt := 34) hx hb d_P_order_5 (by decide) (fun c_1 => ?_) (fun c_1 => ?_)
      · rw [if_pos c_1] at h
        refine lv_iconst (v := (0 : Int32)) hx hb d_P_order_34 (by decide) ?_
        exact W.iret (v := (0 : Int32)) hx hb hr (fun t ht hW => ⟨(0 : Int32), rfl, (Option.some.inj h), ht⟩) (fun q h => by cases h) d_P_order_35
      · rw [if_neg c_1] at h
        refine lv_aload_n hx hb d_P_order_8 rfl (lv_at hl 1 rfl) ?_
        refine lv_iload_n hx hb d_P_order_9 rfl (lv_at hl 0 rfl) ?_
        refine vp_callSl (va_Run.run (va_runV (As := [.int wh]) (rest := []) ⟨hx, hb, hml, hown, htg⟩ (c_P_at l D ct ws k0 h0 fa fb fc fd fe ff wh hk0  _ rfl) (cwV 1 htg (giV tm_306 tm_284 tm_285 tm_35 g_P_at) rfl rfl rfl (by decide +kernel) ⟨Nat.le_of_ble_eq_true rfl, Nat.le_of_ble_eq_true rfl⟩) (preV hP hKK (va_recv hK hP (ci := 0) (q0 := k0) rfl hk0)) rfl rfl hl.1 rfl (lv_room (Nat.le_of_ble_eq_true rfl)) d_P_order_10 ⟨Nat.le_of_ble_eq_true rfl, Nat.le_of_ble_eq_true rfl⟩)) (fun r9 hr9 => ?_)
        have hr9 := hr9.symm
        subst hr9
        refine lv_aload_n hx hb d_P_order_13 rfl (lv_at hl 2 rfl) ?_
        refine lv_iload_n hx hb d_P_order_14 rfl (lv_at hl 0 rfl) ?_
        refine vp_callSl (va_Run.run (va_runV (As := [.int wh]) (rest := [.long (f_P_at fa fb fc fd fe ff wh)]) ⟨hx, hb, hml, hown, htg⟩ (c_P_at l D ct ws k1 h1 ga gb gc gd ge gf wh hk1  _ rfl) (cwV 1 htg (giV tm_306 tm_284 tm_285 tm_35 g_P_at) rfl rfl rfl (by decide +kernel) ⟨Nat.le_of_ble_eq_true rfl, Nat.le_of_ble_eq_true rfl⟩) (preV hP hKK (va_recv hK hP (ci := 0) (q0 := k1) rfl hk1)) rfl rfl hl.1 rfl (lv_room (Nat.le_of_ble_eq_true rfl)) d_P_order_15 ⟨Nat.le_of_ble_eq_true rfl, Nat.le_of_ble_eq_true rfl⟩)) (fun r9 hr9 => ?_)
        have hr9 := hr9.symm
        subst hr9
        refine vp_callSi (va_Run.run (va_runS (As := [.long (f_P_at fa fb fc fd fe ff wh), .long (f_P_at ga gb gc gd ge gf wh)]) (rest := []) ⟨hx, hb, hml, hown, htg⟩ (c_Long_cmp l D ct ws  (f_P_at fa fb fc fd fe ff wh) (f_P_at ga gb gc gd ge gf wh)   _ rfl) ⟨callB_of 2 htg g_Long_cmp rfl rfl rfl (htg _ tm_37) (htg _ tm_307) (by decide +kernel) ⟨Nat.le_of_ble_eq_true rfl, Nat.le_of_ble_eq_true rfl⟩, (htg _ tm_200)⟩ (preS hP hKK) rfl rfl hl.1 rfl (lv_room (Nat.le_of_ble_eq_true rfl)) d_P_order_18 ⟨Nat.le_of_ble_eq_true rfl, Nat.le_of_ble_eq_true rfl⟩)) (fun r9 hr9 => ?_)
        have hr9 := hr9.symm
        subst hr9
        refine lv_istore_n (lv' := [(3, .int (f_Long_cmp (f_P_at fa fb fc fd fe ff wh) (f_P_at ga gb gc gd ge gf wh))), (2, .int wh), (0, .ref h0), (1, .ref h1)]) hx hb d_P_order_21 rfl hl (by decide) rfl (fun ls hl => ?_)
        refine lv_iload_n hx hb d_P_order_22 rfl (lv_at hl 0 rfl) ?_
        refine lv_if_eq (tgt := 28) hx hb d_P_order_23 (by decide) (fun c_2 => ?_) (fun c_2 => ?_)
        · rw [if_pos c_2] at h
          refine lv_iinc (v := wh + (1 : Int32)) (lv' := [(2, .int (wh + (1 : Int32))), (3, .int (f_Long_cmp (f_P_at fa fb fc fd fe ff wh) (f_P_at ga gb gc gd ge gf wh))), (0, .ref h0), (1, .ref h1)]) hx hb d_P_order_28 hl (k := 1) rfl rfl (by decide) rfl (fun ls hl => ?_)
          refine lv_goto (tgt := 2) hx hb d_P_order_31 (by decide) ?_
          exact ih (wh + (1 : Int32)) h ls (lv_sub hl [0, 2, 3] rfl)
        · rw [if_neg c_2] at h
          refine lv_iload_n hx hb d_P_order_26 rfl (lv_at hl 0 rfl) ?_
          exact W.iret (v := f_Long_cmp (f_P_at fa fb fc fd fe ff wh) (f_P_at ga gb gc gd ge gf wh)) hx hb hr (fun t ht hW => ⟨f_Long_cmp (f_P_at fa fb fc fd fe ff wh) (f_P_at ga gb gc gd ge gf wh), rfl, (Option.some.inj h), ht⟩) (fun q h => by cases h) d_P_order_27
  exact L_2 7 (0 : Int32) h ls (lv_sub hl [0, 1, 2] rfl)
-- CellBench$Products <init> (JJJJJJ)V
def f_P_init (n1 : Int64) (n2 : Int64) (n3 : Int64) (n4 : Int64) (n5 : Int64) (n6 : Int64) : Int64 × Int64 × Int64 × Int64 × Int64 × Int64 :=
    (n1, n2, n3, n4, n5, n6)
def w_P_init : List Cond := .code y_P_init b_P_init 13 none :: GW
abbrev rm_P_init : Room := { frames := 1, cells := 0, slots := 0, locals := 12 }
theorem g_P_init : GoodIn GW w_P_init := gi tm_131
set_option maxHeartbeats 4000000 in
set_option maxRecDepth 100000 in
theorem c_P_init (l : Launch) (D : va_G) (ct : CT) (A : Nat → Prop) (wt : va_W)  (h0 : Nat) (fa : Int64) (fb : Int64) (fc : Int64) (fd : Int64) (fe : Int64) (ff : Int64) (n1 : Int64) (n2 : Int64) (n3 : Int64) (n4 : Int64) (n5 : Int64) (n6 : Int64)   (r0 : Int64 × Int64 × Int64 × Int64 × Int64 × Int64) (h : f_P_init n1 n2 n3 n4 n5 n6 = r0) : Met l y_P_init w_P_init rm_P_init (va_Pc [.ref h0, .long n1, .long n2, .long n3, .long n4, .long n5, .long n6] (PreM D ct A ([(h0, .inr (0, [.long fa, .long fb, .long fc, .long fd, .long fe, .long ff]))] ++ wt))) (va_Qv (fun u => u = r0) (fun (u : Int64 × Int64 × Int64 × Int64 × Int64 × Int64) t => match u with | (fa', fb', fc', fd', fe', ff') => va_P D classes ([(h0, .inr (0, [.long fa', .long fb', .long fc', .long fd', .long fe', .long ff']))] ++ wt) t.heap ∧ va_D A ([(h0, .inr (0, [.long fa', .long fb', .long fc', .long fd', .long fe', .long ff']))] ++ wt)) A) 0 0 A := by
  refine Met.ofW (cc := b_P_init) (maxL := 13) (ret := none) (by decide) rfl ?_
  intro p e s m args below meth c s₁ B hml hv
  obtain ⟨rfl, hA, hP, hD, hKK⟩ := hv
  have hx := B.exec
  have hb := B.bytes
  have hr := B.returns
  have htg := ht_tl (atoms_spec (ws := w_P_init) B.pre)
  have hown : s.vm.findClass R_Products = some m.cls := findClass_of_methodNamed B.named
  have hlocks := B.notSynchronized
  have hin : meth.name = "<init>" := (name_of_methodNamed B.named B.method).1
  have hK := hKK.1
  have hN := hKK.2.1
  have hO := hKK.2.2
  have hS : va_S A s.heap s.heap [] := va_S.rf
  have hl := lv_entry ([.ref h0, .long n1, .long n2, .long n3, .long n4, .long n5, .long n6]) (n := 13) (Nat.le_of_ble_eq_true rfl)
  rw [lg_entry_eq]
  generalize (lg_sl ([.ref h0, .long n1, .long n2, .long n3, .long n4, .long n5, .long n6]) ++ List.replicate (13 - (lg_sl ([.ref h0, .long n1, .long n2, .long n3, .long n4, .long n5, .long n6])).length) Slot.unset).toArray = ls at hl ⊢
  have hl : lv_has ls 13 [(0, .ref h0), (1, .long n1), (3, .long n2), (5, .long n3), (7, .long n4), (9, .long n5), (11, .long n6)] := hl
  unfold f_P_init at h
  refine lv_aload_n hx hb d_P_init_0 rfl (lv_at hl 0 rfl) ?_
  refine W.objInit hx hb hown (htg _ tm_132) (htg _ tm_46) (htg _ tm_47) rfl (by rw [hml]; exact hl.1) rfl d_P_init_1 (Nat.le_of_ble_eq_true rfl) (Nat.le_of_ble_eq_true rfl) ?_
  refine W.eq (g2 := F0 m 4 ls []) rfl ?_
  refine lv_aload_n hx hb d_P_init_4 rfl (lv_at hl 0 rfl) ?_
  refine lv_lload_n hx hb d_P_init_5 rfl (lv_at hl 1 rfl) ?_
  refine va_putF (D := D) (ci := 0) (v := .long n1) (ty := .long) (C := R_Products) (T := F_Products) (N := 6) hx hb htg i_Products t_Products t_Products_ok n_Products hown hK hP hD hS 0 rfl rfl 0 (by decide) (htg _ tm_133) (fun _ h9 => h9) rfl hin rfl (by decide +kernel) rfl rfl (Nat.le_of_ble_eq_true rfl) d_P_init_6 (fun H locs hP hD hS => ?_)
  have hP : va_P D classes ([(h0, .inr (0, [.long n1, .long fb, .long fc, .long fd, .long fe, .long ff]))] ++ wt) H := hP
  have hD : va_D A ([(h0, .inr (0, [.long n1, .long fb, .long fc, .long fd, .long fe, .long ff]))] ++ wt) := hD
  refine lv_aload_n hx hb d_P_init_9 rfl (lv_at hl 0 rfl) ?_
  refine lv_lload_n hx hb d_P_init_10 rfl (lv_at hl 2 rfl) ?_
  refine va_putF (D := D) (ci := 0) (v := .long n2) (ty := .long) (C := R_Products) (T := F_Products) (N := 6) hx hb htg i_Products t_Products t_Products_ok n_Products hown hK hP hD hS 0 rfl rfl 1 (by decide) (htg _ tm_135) (fun _ h9 => h9) rfl hin rfl (by decide +kernel) rfl rfl (Nat.le_of_ble_eq_true rfl) d_P_init_11 (fun H locs hP hD hS => ?_)
  have hP : va_P D classes ([(h0, .inr (0, [.long n1, .long n2, .long fc, .long fd, .long fe, .long ff]))] ++ wt) H := hP
  have hD : va_D A ([(h0, .inr (0, [.long n1, .long n2, .long fc, .long fd, .long fe, .long ff]))] ++ wt) := hD
  refine lv_aload_n hx hb d_P_init_14 rfl (lv_at hl 0 rfl) ?_
  refine lv_lload hx hb d_P_init_15 (lv_at hl 3 rfl) ?_
  refine va_putF (D := D) (ci := 0) (v := .long n3) (ty := .long) (C := R_Products) (T := F_Products) (N := 6) hx hb htg i_Products t_Products t_Products_ok n_Products hown hK hP hD hS 0 rfl rfl 2 (by decide) (htg _ tm_137) (fun _ h9 => h9) rfl hin rfl (by decide +kernel) rfl rfl (Nat.le_of_ble_eq_true rfl) d_P_init_17 (fun H locs hP hD hS => ?_)
  have hP : va_P D classes ([(h0, .inr (0, [.long n1, .long n2, .long n3, .long fd, .long fe, .long ff]))] ++ wt) H := hP
  have hD : va_D A ([(h0, .inr (0, [.long n1, .long n2, .long n3, .long fd, .long fe, .long ff]))] ++ wt) := hD
  refine lv_aload_n hx hb d_P_init_20 rfl (lv_at hl 0 rfl) ?_
  refine lv_lload hx hb d_P_init_21 (lv_at hl 4 rfl) ?_
  refine va_putF (D := D) (ci := 0) (v := .long n4) (ty := .long) (C := R_Products) (T := F_Products) (N := 6) hx hb htg i_Products t_Products t_Products_ok n_Products hown hK hP hD hS 0 rfl rfl 3 (by decide) (htg _ tm_139) (fun _ h9 => h9) rfl hin rfl (by decide +kernel) rfl rfl (Nat.le_of_ble_eq_true rfl) d_P_init_23 (fun H locs hP hD hS => ?_)
  have hP : va_P D classes ([(h0, .inr (0, [.long n1, .long n2, .long n3, .long n4, .long fe, .long ff]))] ++ wt) H := hP
  have hD : va_D A ([(h0, .inr (0, [.long n1, .long n2, .long n3, .long n4, .long fe, .long ff]))] ++ wt) := hD
  refine lv_aload_n hx hb d_P_init_26 rfl (lv_at hl 0 rfl) ?_
  refine lv_lload hx hb d_P_init_27 (lv_at hl 5 rfl) ?_
  refine va_putF (D := D) (ci := 0) (v := .long n5) (ty := .long) (C := R_Products) (T := F_Products) (N := 6) hx hb htg i_Products t_Products t_Products_ok n_Products hown hK hP hD hS 0 rfl rfl 4 (by decide) (htg _ tm_141) (fun _ h9 => h9) rfl hin rfl (by decide +kernel) rfl rfl (Nat.le_of_ble_eq_true rfl) d_P_init_29 (fun H locs hP hD hS => ?_)
  have hP : va_P D classes ([(h0, .inr (0, [.long n1, .long n2, .long n3, .long n4, .long n5, .long ff]))] ++ wt) H := hP
  have hD : va_D A ([(h0, .inr (0, [.long n1, .long n2, .long n3, .long n4, .long n5, .long ff]))] ++ wt) := hD
  refine lv_aload_n hx hb d_P_init_32 rfl (lv_at hl 0 rfl) ?_
  refine lv_lload hx hb d_P_init_33 (lv_at hl 6 rfl) ?_
  refine va_putF (D := D) (ci := 0) (v := .long n6) (ty := .long) (C := R_Products) (T := F_Products) (N := 6) hx hb htg i_Products t_Products t_Products_ok n_Products hown hK hP hD hS 0 rfl rfl 5 (by decide) (htg _ tm_143) (fun _ h9 => h9) rfl hin rfl (by decide +kernel) rfl rfl (Nat.le_of_ble_eq_true rfl) d_P_init_35 (fun H locs hP hD hS => ?_)
  have hP : va_P D classes ([(h0, .inr (0, [.long n1, .long n2, .long n3, .long n4, .long n5, .long n6]))] ++ wt) H := hP
  have hD : va_D A ([(h0, .inr (0, [.long n1, .long n2, .long n3, .long n4, .long n5, .long n6]))] ++ wt) := hD
  exact W.vret hx hb hr (fun t ht hW => ⟨⟨(n1, n2, n3, n4, n5, n6), rfl, h, by rw [ht]; exact hP, hD⟩, hS.F ht⟩) hS.2.2 d_P_init_38
