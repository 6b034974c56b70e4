-- CellBench isSquare (I)Z
def f_isSquare (v : Int32) : Int32 :=
    if v < (1 : Int32) then (0 : Int32) else (if (10000 : Int32) < v then (0 : Int32) else (1 : Int32))
def w_isSquare : List Cond := .code y_isSquare b_isSquare 1 (some .boolean) :: GW
abbrev rm_isSquare : Room := { frames := 0, cells := 0, slots := 0, locals := 0 }
theorem g_isSquare : GoodIn GW w_isSquare := gi tm_123
set_option maxHeartbeats 4000000 in
set_option maxRecDepth 100000 in
theorem c_isSquare (l : Launch) (D : va_G) (ct : CT) (ws : va_W)  (v : Int32)   (r0 : Int32) (h : f_isSquare v = r0) : Met l y_isSquare w_isSquare rm_isSquare (va_Pc [.int v] (PreP D ct ws)) (vp_Si (fun r => r = r0)) 0 0 (fun _ => False) := by
  refine Met.ofW (cc := b_isSquare) (maxL := 1) (ret := (some .boolean)) (by decide) rfl ?_
  intro p e s m args below meth c s₁ B hml hv
  obtain ⟨rfl, hP, hKK⟩ := hv
  have hx := B.exec
  have hb := B.bytes
  have hr := B.returns
  have htg := ht_tl (atoms_spec (ws := w_isSquare) B.pre)
  have hown : s.vm.findClass R_Bench = some m.cls := findClass_of_methodNamed B.named
  have hlocks := B.notSynchronized
  have hK := hKK.1
  have hN := hKK.2.1
  have hO := hKK.2.2
  have hl := lv_entry ([.int v]) (n := 1) (Nat.le_of_ble_eq_true rfl)
  rw [lg_entry_eq]
  generalize (lg_sl ([.int v]) ++ List.replicate (1 - (lg_sl ([.int v])).length) Slot.unset).toArray = ls at hl ⊢
  have hl : lv_has ls 1 [(0, .int v)] := hl
  unfold f_isSquare at h
  refine lv_iload_n hx hb d_isSquare_0 rfl (lv_at hl 0 rfl) ?_
  refine lv_iconst (v := (1 : Int32)) hx hb d_isSquare_1 (by decide) ?_
  refine lv_icmp_lt (tgt := 16) hx hb d_isSquare_2 (by decide) (fun c_1 => ?_) (fun c_1 => ?_)
  · rw [if_pos c_1] at h
    refine lv_iconst (v := (0 : Int32)) hx hb d_isSquare_16 (by decide) ?_
    exact W.zret (v := (0 : Int32)) (ty := .boolean) hx hb hr rfl (fun t ht hW => ⟨(0 : Int32), rfl, h, ht⟩) (fun q h => by cases h) d_isSquare_17
  · rw [if_neg c_1] at h
    refine lv_iload_n hx hb d_isSquare_5 rfl (lv_at hl 0 rfl) ?_
    refine lv_sipush (v := (10000 : Int32)) hx hb d_isSquare_6 (by decide) ?_
    refine lv_icmp_gt (tgt := 16) hx hb d_isSquare_9 (by decide) (fun c_2 => ?_) (fun c_2 => ?_)
    · rw [if_pos c_2] at h
      refine lv_iconst (v := (0 : Int32)) hx hb d_isSquare_16 (by decide) ?_
      exact W.zret (v := (0 : Int32)) (ty := .boolean) hx hb hr rfl (fun t ht hW => ⟨(0 : Int32), rfl, h, ht⟩) (fun q h => by cases h) d_isSquare_17
    · rw [if_neg c_2] at h
      refine lv_iconst (v := (1 : Int32)) hx hb d_isSquare_12 (by decide) ?_
      refine lv_goto (tgt := 17) hx hb d_isSquare_13 (by decide) ?_
      exact W.zret (v := (1 : Int32)) (ty := .boolean) hx hb hr rfl (fun t ht hW => ⟨(1 : Int32), rfl, h, ht⟩) (fun q h => by cases h) d_isSquare_17
-- CellBench isMixed (I)Z
def f_isMixed (v : Int32) : Int32 :=
    if v < (-10000 : Int32) then (0 : Int32) else (if (10000 : Int32) < v then (0 : Int32) else (1 : Int32))
def w_isMixed : List Cond := .code y_isMixed b_isMixed 1 (some .boolean) :: GW
abbrev rm_isMixed : Room := { frames := 0, cells := 0, slots := 0, locals := 0 }
theorem g_isMixed : GoodIn GW w_isMixed := gi tm_126
set_option maxHeartbeats 4000000 in
set_option maxRecDepth 100000 in
theorem c_isMixed (l : Launch) (D : va_G) (ct : CT) (ws : va_W)  (v : Int32)   (r0 : Int32) (h : f_isMixed v = r0) : Met l y_isMixed w_isMixed rm_isMixed (va_Pc [.int v] (PreP D ct ws)) (vp_Si (fun r => r = r0)) 0 0 (fun _ => False) := by
  refine Met.ofW (cc := b_isMixed) (maxL := 1) (ret := (some .boolean)) (by decide) rfl ?_
  intro p e s m args below meth c s₁ B hml hv
  obtain ⟨rfl, hP, hKK⟩ := hv
  have hx := B.exec
  have hb := B.bytes
  have hr := B.returns
  have htg := ht_tl (atoms_spec (ws := w_isMixed) B.pre)
  have hown : s.vm.findClass R_Bench = some m.cls := findClass_of_methodNamed B.named
  have hlocks := B.notSynchronized
  have hK := hKK.1
  have hN := hKK.2.1
  have hO := hKK.2.2
  have hl := lv_entry ([.int v]) (n := 1) (Nat.le_of_ble_eq_true rfl)
  rw [lg_entry_eq]
  generalize (lg_sl ([.int v]) ++ List.replicate (1 - (lg_sl ([.int v])).length) Slot.unset).toArray = ls at hl ⊢
  have hl : lv_has ls 1 [(0, .int v)] := hl
  unfold f_isMixed at h
  refine lv_iload_n hx hb d_isMixed_0 rfl (lv_at hl 0 rfl) ?_
  refine lv_sipush (v := (-10000 : Int32)) hx hb d_isMixed_1 (by decide) ?_
  refine lv_icmp_lt (tgt := 18) hx hb d_isMixed_4 (by decide) (fun c_1 => ?_) (fun c_1 => ?_)
  · rw [if_pos c_1] at h
    refine lv_iconst (v := (0 : Int32)) hx hb d_isMixed_18 (by decide) ?_
    exact W.zret (v := (0 : Int32)) (ty := .boolean) hx hb hr rfl (fun t ht hW => ⟨(0 : Int32), rfl, h, ht⟩) (fun q h => by cases h) d_isMixed_19
  · rw [if_neg c_1] at h
    refine lv_iload_n hx hb d_isMixed_7 rfl (lv_at hl 0 rfl) ?_
    refine lv_sipush (v := (10000 : Int32)) hx hb d_isMixed_8 (by decide) ?_
    refine lv_icmp_gt (tgt := 18) hx hb d_isMixed_11 (by decide) (fun c_2 => ?_) (fun c_2 => ?_)
    · rw [if_pos c_2] at h
      refine lv_iconst (v := (0 : Int32)) hx hb d_isMixed_18 (by decide) ?_
      exact W.zret (v := (0 : Int32)) (ty := .boolean) hx hb hr rfl (fun t ht hW => ⟨(0 : Int32), rfl, h, ht⟩) (fun q h => by cases h) d_isMixed_19
    · rw [if_neg c_2] at h
      refine lv_iconst (v := (1 : Int32)) hx hb d_isMixed_14 (by decide) ?_
      refine lv_goto (tgt := 19) hx hb d_isMixed_15 (by decide) ?_
      exact W.zret (v := (1 : Int32)) (ty := .boolean) hx hb hr rfl (fun t ht hW => ⟨(1 : Int32), rfl, h, ht⟩) (fun q h => by cases h) d_isMixed_19
-- CellBench isMultiplier (I)Z
def f_isMultiplier (v : Int32) : Int32 :=
    if v < (1 : Int32) then (0 : Int32) else (if (12 : Int32) < v then (0 : Int32) else (1 : Int32))
def w_isMultiplier : List Cond := .code y_isMultiplier b_isMultiplier 1 (some .boolean) :: GW
abbrev rm_isMultiplier : Room := { frames := 0, cells := 0, slots := 0, locals := 0 }
theorem g_isMultiplier : GoodIn GW w_isMultiplier := gi tm_314
set_option maxHeartbeats 4000000 in
set_option maxRecDepth 100000 in
theorem c_isMultiplier (l : Launch) (D : va_G) (ct : CT) (ws : va_W)  (v : Int32)   (r0 : Int32) (h : f_isMultiplier v = r0) : Met l y_isMultiplier w_isMultiplier rm_isMultiplier (va_Pc [.int v] (PreP D ct ws)) (vp_Si (fun r => r = r0)) 0 0 (fun _ => False) := by
  refine Met.ofW (cc := b_isMultiplier) (maxL := 1) (ret := (some .boolean)) (by decide) rfl ?_
  intro p e s m args below meth c s₁ B hml hv
  obtain ⟨rfl, hP, hKK⟩ := hv
  have hx := B.exec
  have hb := B.bytes
  have hr := B.returns
  have htg := ht_tl (atoms_spec (ws := w_isMultiplier) B.pre)
  have hown : s.vm.findClass R_Bench = some m.cls := findClass_of_methodNamed B.named
  have hlocks := B.notSynchronized
  have hK := hKK.1
  have hN := hKK.2.1
  have hO := hKK.2.2
  have hl := lv_entry ([.int v]) (n := 1) (Nat.le_of_ble_eq_true rfl)
  rw [lg_entry_eq]
  generalize (lg_sl ([.int v]) ++ List.replicate (1 - (lg_sl ([.int v])).length) Slot.unset).toArray = ls at hl ⊢
  have hl : lv_has ls 1 [(0, .int v)] := hl
  unfold f_isMultiplier at h
  refine lv_iload_n hx hb d_isMultiplier_0 rfl (lv_at hl 0 rfl) ?_
  refine lv_iconst (v := (1 : Int32)) hx hb d_isMultiplier_1 (by decide) ?_
  refine lv_icmp_lt (tgt := 15) hx hb d_isMultiplier_2 (by decide) (fun c_1 => ?_) (fun c_1 => ?_)
  · rw [if_pos c_1] at h
    refine lv_iconst (v := (0 : Int32)) hx hb d_isMultiplier_15 (by decide) ?_
    exact W.zret (v := (0 : Int32)) (ty := .boolean) hx hb hr rfl (fun t ht hW => ⟨(0 : Int32), rfl, h, ht⟩) (fun q h => by cases h) d_isMultiplier_16
  · rw [if_neg c_1] at h
    refine lv_iload_n hx hb d_isMultiplier_5 rfl (lv_at hl 0 rfl) ?_
    refine lv_bipush (v := (12 : Int32)) hx hb d_isMultiplier_6 (by decide) ?_
    refine lv_icmp_gt (tgt := 15) hx hb d_isMultiplier_8 (by decide) (fun c_2 => ?_) (fun c_2 => ?_)
    · rw [if_pos c_2] at h
      refine lv_iconst (v := (0 : Int32)) hx hb d_isMultiplier_15 (by decide) ?_
      exact W.zret (v := (0 : Int32)) (ty := .boolean) hx hb hr rfl (fun t ht hW => ⟨(0 : Int32), rfl, h, ht⟩) (fun q h => by cases h) d_isMultiplier_16
    · rw [if_neg c_2] at h
      refine lv_iconst (v := (1 : Int32)) hx hb d_isMultiplier_11 (by decide) ?_
      refine lv_goto (tgt := 16) hx hb d_isMultiplier_12 (by decide) ?_
      exact W.zret (v := (1 : Int32)) (ty := .boolean) hx hb hr rfl (fun t ht hW => ⟨(1 : Int32), rfl, h, ht⟩) (fun q h => by cases h) d_isMultiplier_16
-- CellBench isRouteNumber (I)Z
def f_isRouteNumber (v : Int32) : Int32 :=
    if v < (-1000 : Int32) then (0 : Int32) else (if (1000 : Int32) < v then (0 : Int32) else (1 : Int32))
def w_isRouteNumber : List Cond := .code y_isRouteNumber b_isRouteNumber 1 (some .boolean) :: GW
abbrev rm_isRouteNumber : Room := { frames := 0, cells := 0, slots := 0, locals := 0 }
theorem g_isRouteNumber : GoodIn GW w_isRouteNumber := gi tm_386
set_option maxHeartbeats 4000000 in
set_option maxRecDepth 100000 in
theorem c_isRouteNumber (l : Launch) (D : va_G) (ct : CT) (ws : va_W)  (v : Int32)   (r0 : Int32) (h : f_isRouteNumber v = r0) : Met l y_isRouteNumber w_isRouteNumber rm_isRouteNumber (va_Pc [.int v] (PreP D ct ws)) (vp_Si (fun r => r = r0)) 0 0 (fun _ => False) := by
  refine Met.ofW (cc := b_isRouteNumber) (maxL := 1) (ret := (some .boolean)) (by decide) rfl ?_
  intro p e s m args below meth c s₁ B hml hv
  obtain ⟨rfl, hP, hKK⟩ := hv
  have hx := B.exec
  have hb := B.bytes
  have hr := B.returns
  have htg := ht_tl (atoms_spec (ws := w_isRouteNumber) B.pre)
  have hown : s.vm.findClass R_Bench = some m.cls := findClass_of_methodNamed B.named
  have hlocks := B.notSynchronized
  have hK := hKK.1
  have hN := hKK.2.1
  have hO := hKK.2.2
  have hl := lv_entry ([.int v]) (n := 1) (Nat.le_of_ble_eq_true rfl)
  rw [lg_entry_eq]
  generalize (lg_sl ([.int v]) ++ List.replicate (1 - (lg_sl ([.int v])).length) Slot.unset).toArray = ls at hl ⊢
  have hl : lv_has ls 1 [(0, .int v)] := hl
  unfold f_isRouteNumber at h
  refine lv_iload_n hx hb d_isRouteNumber_0 rfl (lv_at hl 0 rfl) ?_
  refine lv_sipush (v := (-1000 : Int32)) hx hb d_isRouteNumber_1 (by decide) ?_
  refine lv_icmp_lt (tgt := 18) hx hb d_isRouteNumber_4 (by decide) (fun c_1 => ?_) (fun c_1 => ?_)
  · rw [if_pos c_1] at h
    refine lv_iconst (v := (0 : Int32)) hx hb d_isRouteNumber_18 (by decide) ?_
    exact W.zret (v := (0 : Int32)) (ty := .boolean) hx hb hr rfl (fun t ht hW => ⟨(0 : Int32), rfl, h, ht⟩) (fun q h => by cases h) d_isRouteNumber_19
  · rw [if_neg c_1] at h
    refine lv_iload_n hx hb d_isRouteNumber_7 rfl (lv_at hl 0 rfl) ?_
    refine lv_sipush (v := (1000 : Int32)) hx hb d_isRouteNumber_8 (by decide) ?_
    refine lv_icmp_gt (tgt := 18) hx hb d_isRouteNumber_11 (by decide) (fun c_2 => ?_) (fun c_2 => ?_)
    · rw [if_pos c_2] at h
      refine lv_iconst (v := (0 : Int32)) hx hb d_isRouteNumber_18 (by decide) ?_
      exact W.zret (v := (0 : Int32)) (ty := .boolean) hx hb hr rfl (fun t ht hW => ⟨(0 : Int32), rfl, h, ht⟩) (fun q h => by cases h) d_isRouteNumber_19
    · rw [if_neg c_2] at h
      refine lv_iconst (v := (1 : Int32)) hx hb d_isRouteNumber_14 (by decide) ?_
      refine lv_goto (tgt := 19) hx hb d_isRouteNumber_15 (by decide) ?_
      exact W.zret (v := (1 : Int32)) (ty := .boolean) hx hb hr rfl (fun t ht hW => ⟨(1 : Int32), rfl, h, ht⟩) (fun q h => by cases h) d_isRouteNumber_19
-- CellBench columnAtEnd (I)I
def f_columnAtEnd (v : Int32) : Int32 :=
    ((((v / (729 : Int32)) - (v / (729 : Int32)) / (3 : Int32) * (3 : Int32)) * (9 : Int32)) + (((v / (27 : Int32)) - (v / (27 : Int32)) / (3 : Int32) * (3 : Int32)) * (3 : Int32))) + (v - v / (3 : Int32) * (3 : Int32))
def w_columnAtEnd : List Cond := .code y_columnAtEnd b_columnAtEnd 1 (some .int) :: GW
abbrev rm_columnAtEnd : Room := { frames := 0, cells := 0, slots := 0, locals := 0 }
theorem g_columnAtEnd : GoodIn GW w_columnAtEnd := gi tm_293
set_option maxHeartbeats 4000000 in
set_option maxRecDepth 100000 in
theorem c_columnAtEnd (l : Launch) (D : va_G) (ct : CT) (ws : va_W)  (v : Int32)   (r0 : Int32) (h : f_columnAtEnd v = r0) : Met l y_columnAtEnd w_columnAtEnd rm_columnAtEnd (va_Pc [.int v] (PreP D ct ws)) (vp_Si (fun r => r = r0)) 0 0 (fun _ => False) := by
  refine Met.ofW (cc := b_columnAtEnd) (maxL := 1) (ret := (some .int)) (by decide) rfl ?_
  intro p e s m args below meth c s₁ B hml hv
  obtain ⟨rfl, hP, hKK⟩ := hv
  have hx := B.exec
  have hb := B.bytes
  have hr := B.returns
  have htg := ht_tl (atoms_spec (ws := w_columnAtEnd) B.pre)
  have hown : s.vm.findClass R_Bench = some m.cls := findClass_of_methodNamed B.named
  have hlocks := B.notSynchronized
  have hK := hKK.1
  have hN := hKK.2.1
  have hO := hKK.2.2
  have hl := lv_entry ([.int v]) (n := 1) (Nat.le_of_ble_eq_true rfl)
  rw [lg_entry_eq]
  generalize (lg_sl ([.int v]) ++ List.replicate (1 - (lg_sl ([.int v])).length) Slot.unset).toArray = ls at hl ⊢
  have hl : lv_has ls 1 [(0, .int v)] := hl
  unfold f_columnAtEnd at h
  refine lv_iload_n hx hb d_columnAtEnd_0 rfl (lv_at hl 0 rfl) ?_
  refine lv_sipush (v := (729 : Int32)) hx hb d_columnAtEnd_1 (by decide) ?_
  refine lv_idiv hx hb d_columnAtEnd_4 (by decide) ?_
  refine lv_iconst (v := (3 : Int32)) hx hb d_columnAtEnd_5 (by decide) ?_
  refine lv_irem hx hb d_columnAtEnd_6 (by decide) ?_
  refine lv_bipush (v := (9 : Int32)) hx hb d_columnAtEnd_7 (by decide) ?_
  refine lv_imul hx hb d_columnAtEnd_9 ?_
  refine lv_iload_n hx hb d_columnAtEnd_10 rfl (lv_at hl 0 rfl) ?_
  refine lv_bipush (v := (27 : Int32)) hx hb d_columnAtEnd_11 (by decide) ?_
  refine lv_idiv hx hb d_columnAtEnd_13 (by decide) ?_
  refine lv_iconst (v := (3 : Int32)) hx hb d_columnAtEnd_14 (by decide) ?_
  refine lv_irem hx hb d_columnAtEnd_15 (by decide) ?_
  refine lv_iconst (v := (3 : Int32)) hx hb d_columnAtEnd_16 (by decide) ?_
  refine lv_imul hx hb d_columnAtEnd_17 ?_
  refine lv_iadd hx hb d_columnAtEnd_18 ?_
  refine lv_iload_n hx hb d_columnAtEnd_19 rfl (lv_at hl 0 rfl) ?_
  refine lv_iconst (v := (3 : Int32)) hx hb d_columnAtEnd_20 (by decide) ?_
  refine lv_irem hx hb d_columnAtEnd_21 (by decide) ?_
  refine lv_iadd hx hb d_columnAtEnd_22 ?_
  exact W.iret (v := ((((v / (729 : Int32)) - (v / (729 : Int32)) / (3 : Int32) * (3 : Int32)) * (9 : Int32)) + (((v / (27 : Int32)) - (v / (27 : Int32)) / (3 : Int32) * (3 : Int32)) * (3 : Int32))) + (v - v / (3 : Int32) * (3 : Int32))) hx hb hr (fun t ht hW => ⟨((((v / (729 : Int32)) - (v / (729 : Int32)) / (3 : Int32) * (3 : Int32)) * (9 : Int32)) + (((v / (27 : Int32)) - (v / (27 : Int32)) / (3 : Int32) * (3 : Int32)) * (3 : Int32))) + (v - v / (3 : Int32) * (3 : Int32)), rfl, h, ht⟩) (fun q h => by cases h) d_columnAtEnd_23
-- java/lang/Long compare (JJ)I
def f_Long_cmp (x1 : Int64) (x2 : Int64) : Int32 :=
    if 0 ≤ (lg_cmp x1 x2) then (if (lg_cmp x1 x2) = 0 then (0 : Int32) else (1 : Int32)) else (-1 : Int32)
def w_Long_cmp : List Cond := .code y_Long_cmp b_Long_cmp 4 (some .int) :: GW
abbrev rm_Long_cmp : Room := { frames := 0, cells := 0, slots := 0, locals := 0 }
theorem g_Long_cmp : GoodIn GW w_Long_cmp := gi tm_201
set_option maxHeartbeats 4000000 in
set_option maxRecDepth 100000 in
theorem c_Long_cmp (l : Launch) (D : va_G) (ct : CT) (ws : va_W)  (x1 : Int64) (x2 : Int64)   (r0 : Int32) (h : f_Long_cmp x1 x2 = r0) : Met l y_Long_cmp w_Long_cmp rm_Long_cmp (va_Pc [.long x1, .long x2] (PreP D ct ws)) (vp_Si (fun r => r = r0)) 0 0 (fun _ => False) := by
  refine Met.ofW (cc := b_Long_cmp) (maxL := 4) (ret := (some .int)) (by decide) rfl ?_
  intro p e s m args below meth c s₁ B hml hv
  obtain ⟨rfl, hP, hKK⟩ := hv
  have hx := B.exec
  have hb := B.bytes
  have hr := B.returns
  have htg := ht_tl (atoms_spec (ws := w_Long_cmp) B.pre)
  have hown : s.vm.findClass "java/lang/Long" = some m.cls := findClass_of_methodNamed B.named
  have hlocks := B.notSynchronized
  have hK := hKK.1
  have hN := hKK.2.1
  have hO := hKK.2.2
  have hl := lv_entry ([.long x1, .long x2]) (n := 4) (Nat.le_of_ble_eq_true rfl)
  rw [lg_entry_eq]
  generalize (lg_sl ([.long x1, .long x2]) ++ List.replicate (4 - (lg_sl ([.long x1, .long x2])).length) Slot.unset).toArray = ls at hl ⊢
  have hl : lv_has ls 4 [(0, .long x1), (2, .long x2)] := hl
  unfold f_Long_cmp at h
  refine lv_lload_n hx hb d_Long_cmp_0 rfl (lv_at hl 0 rfl) ?_
  refine lv_lload_n hx hb d_Long_cmp_1 rfl (lv_at hl 1 rfl) ?_
  refine W.lcmp hx hb d_Long_cmp_2 ?_
  refine lv_if_ge (tgt := 10) hx hb d_Long_cmp_3 (by decide) (fun c_1 => ?_) (fun c_1 => ?_)
  · rw [if_pos c_1] at h
    refine lv_lload_n hx hb d_Long_cmp_10 rfl (lv_at hl 0 rfl) ?_
    refine lv_lload_n hx hb d_Long_cmp_11 rfl (lv_at hl 1 rfl) ?_
    refine W.lcmp hx hb d_Long_cmp_12 ?_
    refine lv_if_ne (tgt := 20) hx hb d_Long_cmp_13 (by decide) (fun c_2 => ?_) (fun c_2 => ?_)
    · rw [if_neg c_2] at h
      refine lv_iconst (v := (1 : Int32)) hx hb d_Long_cmp_20 (by decide) ?_
      exact W.iret (v := (1 : Int32)) hx hb hr (fun t ht hW => ⟨(1 : Int32), rfl, h, ht⟩) (fun q h => by cases h) d_Long_cmp_21
    · rw [if_pos c_2] at h
      refine lv_iconst (v := (0 : Int32)) hx hb d_Long_cmp_16 (by decide) ?_
      refine lv_goto (tgt := 21) hx hb d_Long_cmp_17 (by decide) ?_
      exact W.iret (v := (0 : Int32)) hx hb hr (fun t ht hW => ⟨(0 : Int32), rfl, h, ht⟩) (fun q h => by cases h) d_Long_cmp_21
  · rw [if_neg c_1] at h
    refine lv_iconst (v := (-1 : Int32)) hx hb d_Long_cmp_6 (by decide) ?_
    refine lv_goto (tgt := 21) hx hb d_Long_cmp_7 (by decide) ?_
    exact W.iret (v := (-1 : Int32)) hx hb hr (fun t ht hW => ⟨(-1 : Int32), rfl, h, ht⟩) (fun q h => by cases h) d_Long_cmp_21
