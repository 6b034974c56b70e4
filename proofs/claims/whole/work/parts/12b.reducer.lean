-- CellBench$Reducer <init> ()V
def f_R_init (ra : Int64) (rb : Int64) (rc : Int64) (rx : Int64) (ry : Int64) (rz : Int64) (rs : Int32) : Int64 × Int64 × Int64 × Int64 × Int64 × Int64 × Int32 :=
    (ra, rb, rc, rx, ry, rz, (0 : Int32))
def w_R_init : List Cond := .code y_R_init b_R_init 1 none :: GW
abbrev rm_R_init : Room := { frames := 1, cells := 0, slots := 0, locals := 12 }
theorem g_R_init : GoodIn GW w_R_init := gi tm_54
set_option maxHeartbeats 4000000 in
set_option maxRecDepth 100000 in
theorem c_R_init (l : Launch) (D : va_G) (ct : CT) (A : Nat → Prop) (wt : va_W)  (h0 : Nat) (ra : Int64) (rb : Int64) (rc : Int64) (rx : Int64) (ry : Int64) (rz : Int64) (rs : Int32)   (r0 : Int64 × Int64 × Int64 × Int64 × Int64 × Int64 × Int32) (h : f_R_init ra rb rc rx ry rz rs = r0) : Met l y_R_init w_R_init rm_R_init (va_Pc [.ref h0] (PreM D ct A ([(h0, .inr (1, [.long ra, .long rb, .long rc, .long rx, .long ry, .long rz, .int rs]))] ++ wt))) (va_Qv (fun u => u = r0) (fun (u : Int64 × Int64 × Int64 × Int64 × Int64 × Int64 × Int32) t => match u with | (ra', rb', rc', rx', ry', rz', rs') => va_P D classes ([(h0, .inr (1, [.long ra', .long rb', .long rc', .long rx', .long ry', .long rz', .int rs']))] ++ wt) t.heap ∧ va_D A ([(h0, .inr (1, [.long ra', .long rb', .long rc', .long rx', .long ry', .long rz', .int rs']))] ++ wt)) A) 0 0 A := by
  refine Met.ofW (cc := b_R_init) (maxL := 1) (ret := none) (by decide) rfl ?_
  intro p e s m args below meth c s₁ B hml hv
  obtain ⟨rfl, hA, hP, hD, hKK⟩ := hv
  have hx := B.exec
  have hb := B.bytes
  have hr := B.returns
  have htg := ht_tl (atoms_spec (ws := w_R_init) B.pre)
  have hown : s.vm.findClass R_Reducer = some m.cls := findClass_of_methodNamed B.named
  have hlocks := B.notSynchronized
  have hin : meth.name = "<init>" := (name_of_methodNamed B.named B.method).1
  have hK := hKK.1
  have hN := hKK.2.1
  have hO := hKK.2.2
  have hS : va_S A s.heap s.heap [] := va_S.rf
  have hl := lv_entry ([.ref h0]) (n := 1) (Nat.le_of_ble_eq_true rfl)
  rw [lg_entry_eq]
  generalize (lg_sl ([.ref h0]) ++ List.replicate (1 - (lg_sl ([.ref h0])).length) Slot.unset).toArray = ls at hl ⊢
  have hl : lv_has ls 1 [(0, .ref h0)] := hl
  unfold f_R_init at h
  refine lv_aload_n hx hb d_R_init_0 rfl (lv_at hl 0 rfl) ?_
  refine W.objInit hx hb hown (htg _ tm_55) (htg _ tm_46) (htg _ tm_47) rfl (by rw [hml]; exact hl.1) rfl d_R_init_1 (Nat.le_of_ble_eq_true rfl) (Nat.le_of_ble_eq_true rfl) ?_
  refine W.eq (g2 := F0 m 4 ls []) rfl ?_
  refine lv_aload_n hx hb d_R_init_4 rfl (lv_at hl 0 rfl) ?_
  refine lv_iconst (v := (0 : Int32)) hx hb d_R_init_5 (by decide) ?_
  refine va_put (D := D) (ci := 1) (v := .int (0 : Int32)) (ty := .int) (C := R_Reducer) (T := F_Reducer) (N := 7) hx hb htg i_Reducer t_Reducer t_Reducer_ok n_Reducer hown hK hP hD hS 0 rfl rfl 6 (by decide) (htg _ tm_62) (fun _ h9 => h9) rfl (by decide +kernel) rfl rfl (Nat.le_of_ble_eq_true rfl) d_R_init_6 (fun H locs hP hD hS => ?_)
  have hP : va_P D classes ([(h0, .inr (1, [.long ra, .long rb, .long rc, .long rx, .long ry, .long rz, .int (0 : Int32)]))] ++ wt) H := hP
  have hD : va_D A ([(h0, .inr (1, [.long ra, .long rb, .long rc, .long rx, .long ry, .long rz, .int (0 : Int32)]))] ++ wt) := hD
  exact W.vret hx hb hr (fun t ht hW => ⟨⟨(ra, rb, rc, rx, ry, rz, (0 : Int32)), rfl, h, by rw [ht]; exact hP, hD⟩, hS.F ht⟩) hS.2.2 d_R_init_9
-- CellBench$Reducer setSquares (JJJ)V
def f_R_setSq (ra : Int64) (rb : Int64) (rc : Int64) (rx : Int64) (ry : Int64) (rz : Int64) (rs : Int32) (n1 : Int64) (n2 : Int64) (n3 : Int64) : Int64 × Int64 × Int64 × Int64 × Int64 × Int64 × Int32 :=
    (n1, n2, n3, rx, ry, rz, rs)
def w_R_setSq : List Cond := .code y_R_setSq b_R_setSq 7 none :: GW
abbrev rm_R_setSq : Room := { frames := 0, cells := 0, slots := 0, locals := 0 }
theorem g_R_setSq : GoodIn GW w_R_setSq := gi tm_173
set_option maxHeartbeats 4000000 in
set_option maxRecDepth 100000 in
theorem c_R_setSq (l : Launch) (D : va_G) (ct : CT) (A : Nat → Prop) (wt : va_W)  (h0 : Nat) (ra : Int64) (rb : Int64) (rc : Int64) (rx : Int64) (ry : Int64) (rz : Int64) (rs : Int32) (n1 : Int64) (n2 : Int64) (n3 : Int64)   (r0 : Int64 × Int64 × Int64 × Int64 × Int64 × Int64 × Int32) (h : f_R_setSq ra rb rc rx ry rz rs n1 n2 n3 = r0) : Met l y_R_setSq w_R_setSq rm_R_setSq (va_Pc [.ref h0, .long n1, .long n2, .long n3] (PreM D ct A ([(h0, .inr (1, [.long ra, .long rb, .long rc, .long rx, .long ry, .long rz, .int rs]))] ++ wt))) (va_Qv (fun u => u = r0) (fun (u : Int64 × Int64 × Int64 × Int64 × Int64 × Int64 × Int32) t => match u with | (ra', rb', rc', rx', ry', rz', rs') => va_P D classes ([(h0, .inr (1, [.long ra', .long rb', .long rc', .long rx', .long ry', .long rz', .int rs']))] ++ wt) t.heap ∧ va_D A ([(h0, .inr (1, [.long ra', .long rb', .long rc', .long rx', .long ry', .long rz', .int rs']))] ++ wt)) A) 0 0 A := by
  refine Met.ofW (cc := b_R_setSq) (maxL := 7) (ret := none) (by decide) rfl ?_
  intro p e s m args below meth c s₁ B hml hv
  obtain ⟨rfl, hA, hP, hD, hKK⟩ := hv
  have hx := B.exec
  have hb := B.bytes
  have hr := B.returns
  have htg := ht_tl (atoms_spec (ws := w_R_setSq) B.pre)
  have hown : s.vm.findClass R_Reducer = some m.cls := findClass_of_methodNamed B.named
  have hlocks := B.notSynchronized
  have hK := hKK.1
  have hN := hKK.2.1
  have hO := hKK.2.2
  have hS : va_S A s.heap s.heap [] := va_S.rf
  have hl := lv_entry ([.ref h0, .long n1, .long n2, .long n3]) (n := 7) (Nat.le_of_ble_eq_true rfl)
  rw [lg_entry_eq]
  generalize (lg_sl ([.ref h0, .long n1, .long n2, .long n3]) ++ List.replicate (7 - (lg_sl ([.ref h0, .long n1, .long n2, .long n3])).length) Slot.unset).toArray = ls at hl ⊢
  have hl : lv_has ls 7 [(0, .ref h0), (1, .long n1), (3, .long n2), (5, .long n3)] := hl
  unfold f_R_setSq at h
  refine lv_aload_n hx hb d_R_setSq_0 rfl (lv_at hl 0 rfl) ?_
  refine lv_lload_n hx hb d_R_setSq_1 rfl (lv_at hl 1 rfl) ?_
  refine va_put (D := D) (ci := 1) (v := .long n1) (ty := .long) (C := R_Reducer) (T := F_Reducer) (N := 7) hx hb htg i_Reducer t_Reducer t_Reducer_ok n_Reducer hown hK hP hD hS 0 rfl rfl 0 (by decide) (htg _ tm_56) (fun _ h9 => h9) rfl (by decide +kernel) rfl rfl (Nat.le_of_ble_eq_true rfl) d_R_setSq_2 (fun H locs hP hD hS => ?_)
  have hP : va_P D classes ([(h0, .inr (1, [.long n1, .long rb, .long rc, .long rx, .long ry, .long rz, .int rs]))] ++ wt) H := hP
  have hD : va_D A ([(h0, .inr (1, [.long n1, .long rb, .long rc, .long rx, .long ry, .long rz, .int rs]))] ++ wt) := hD
  refine lv_aload_n hx hb d_R_setSq_5 rfl (lv_at hl 0 rfl) ?_
  refine lv_lload_n hx hb d_R_setSq_6 rfl (lv_at hl 2 rfl) ?_
  refine va_put (D := D) (ci := 1) (v := .long n2) (ty := .long) (C := R_Reducer) (T := F_Reducer) (N := 7) hx hb htg i_Reducer t_Reducer t_Reducer_ok n_Reducer hown hK hP hD hS 0 rfl rfl 1 (by decide) (htg _ tm_57) (fun _ h9 => h9) rfl (by decide +kernel) rfl rfl (Nat.le_of_ble_eq_true rfl) d_R_setSq_7 (fun H locs hP hD hS => ?_)
  have hP : va_P D classes ([(h0, .inr (1, [.long n1, .long n2, .long rc, .long rx, .long ry, .long rz, .int rs]))] ++ wt) H := hP
  have hD : va_D A ([(h0, .inr (1, [.long n1, .long n2, .long rc, .long rx, .long ry, .long rz, .int rs]))] ++ wt) := hD
  refine lv_aload_n hx hb d_R_setSq_10 rfl (lv_at hl 0 rfl) ?_
  refine lv_lload hx hb d_R_setSq_11 (lv_at hl 3 rfl) ?_
  refine va_put (D := D) (ci := 1) (v := .long n3) (ty := .long) (C := R_Reducer) (T := F_Reducer) (N := 7) hx hb htg i_Reducer t_Reducer t_Reducer_ok n_Reducer hown hK hP hD hS 0 rfl rfl 2 (by decide) (htg _ tm_58) (fun _ h9 => h9) rfl (by decide +kernel) rfl rfl (Nat.le_of_ble_eq_true rfl) d_R_setSq_13 (fun H locs hP hD hS => ?_)
  have hP : va_P D classes ([(h0, .inr (1, [.long n1, .long n2, .long n3, .long rx, .long ry, .long rz, .int rs]))] ++ wt) H := hP
  have hD : va_D A ([(h0, .inr (1, [.long n1, .long n2, .long n3, .long rx, .long ry, .long rz, .int rs]))] ++ wt) := hD
  exact W.vret hx hb hr (fun t ht hW => ⟨⟨(n1, n2, n3, rx, ry, rz, rs), rfl, h, by rw [ht]; exact hP, hD⟩, hS.F ht⟩) hS.2.2 d_R_setSq_16
-- CellBench$Reducer setMixed (JJJ)V
def f_R_setMx (ra : Int64) (rb : Int64) (rc : Int64) (rx : Int64) (ry : Int64) (rz : Int64) (rs : Int32) (n1 : Int64) (n2 : Int64) (n3 : Int64) : Int64 × Int64 × Int64 × Int64 × Int64 × Int64 × Int32 :=
    (ra, rb, rc, (2 : Int64) * n1, (2 : Int64) * n2, (2 : Int64) * n3, rs)
def w_R_setMx : List Cond := .code y_R_setMx b_R_setMx 7 none :: GW
abbrev rm_R_setMx : Room := { frames := 0, cells := 0, slots := 0, locals := 0 }
theorem g_R_setMx : GoodIn GW w_R_setMx := gi tm_177
set_option maxHeartbeats 4000000 in
set_option maxRecDepth 100000 in
theorem c_R_setMx (l : Launch) (D : va_G) (ct : CT) (A : Nat → Prop) (wt : va_W)  (h0 : Nat) (ra : Int64) (rb : Int64) (rc : Int64) (rx : Int64) (ry : Int64) (rz : Int64) (rs : Int32) (n1 : Int64) (n2 : Int64) (n3 : Int64)   (r0 : Int64 × Int64 × Int64 × Int64 × Int64 × Int64 × Int32) (h : f_R_setMx ra rb rc rx ry rz rs n1 n2 n3 = r0) : Met l y_R_setMx w_R_setMx rm_R_setMx (va_Pc [.ref h0, .long n1, .long n2, .long n3] (PreM D ct A ([(h0, .inr (1, [.long ra, .long rb, .long rc, .long rx, .long ry, .long rz, .int rs]))] ++ wt))) (va_Qv (fun u => u = r0) (fun (u : Int64 × Int64 × Int64 × Int64 × Int64 × Int64 × Int32) t => match u with | (ra', rb', rc', rx', ry', rz', rs') => va_P D classes ([(h0, .inr (1, [.long ra', .long rb', .long rc', .long rx', .long ry', .long rz', .int rs']))] ++ wt) t.heap ∧ va_D A ([(h0, .inr (1, [.long ra', .long rb', .long rc', .long rx', .long ry', .long rz', .int rs']))] ++ wt)) A) 0 0 A := by
  refine Met.ofW (cc := b_R_setMx) (maxL := 7) (ret := none) (by decide) rfl ?_
  intro p e s m args below meth c s₁ B hml hv
  obtain ⟨rfl, hA, hP, hD, hKK⟩ := hv
  have hx := B.exec
  have hb := B.bytes
  have hr := B.returns
  have htg := ht_tl (atoms_spec (ws := w_R_setMx) B.pre)
  have hown : s.vm.findClass R_Reducer = some m.cls := findClass_of_methodNamed B.named
  have hlocks := B.notSynchronized
  have hK := hKK.1
  have hN := hKK.2.1
  have hO := hKK.2.2
  have hS : va_S A s.heap s.heap [] := va_S.rf
  have hl := lv_entry ([.ref h0, .long n1, .long n2, .long n3]) (n := 7) (Nat.le_of_ble_eq_true rfl)
  rw [lg_entry_eq]
  generalize (lg_sl ([.ref h0, .long n1, .long n2, .long n3]) ++ List.replicate (7 - (lg_sl ([.ref h0, .long n1, .long n2, .long n3])).length) Slot.unset).toArray = ls at hl ⊢
  have hl : lv_has ls 7 [(0, .ref h0), (1, .long n1), (3, .long n2), (5, .long n3)] := hl
  unfold f_R_setMx at h
  refine lv_aload_n hx hb d_R_setMx_0 rfl (lv_at hl 0 rfl) ?_
  refine lv_ldc2 (v := (2 : Int64)) hx hb hown (htg _ tm_178) d_R_setMx_1 ?_
  refine lv_lload_n hx hb d_R_setMx_4 rfl (lv_at hl 1 rfl) ?_
  refine lv_lmul hx hb d_R_setMx_5 ?_
  refine va_put (D := D) (ci := 1) (v := .long ((2 : Int64) * n1)) (ty := .long) (C := R_Reducer) (T := F_Reducer) (N := 7) hx hb htg i_Reducer t_Reducer t_Reducer_ok n_Reducer hown hK hP hD hS 0 rfl rfl 3 (by decide) (htg _ tm_59) (fun _ h9 => h9) rfl (by decide +kernel) rfl rfl (Nat.le_of_ble_eq_true rfl) d_R_setMx_6 (fun H locs hP hD hS => ?_)
  have hP : va_P D classes ([(h0, .inr (1, [.long ra, .long rb, .long rc, .long ((2 : Int64) * n1), .long ry, .long rz, .int rs]))] ++ wt) H := hP
  have hD : va_D A ([(h0, .inr (1, [.long ra, .long rb, .long rc, .long ((2 : Int64) * n1), .long ry, .long rz, .int rs]))] ++ wt) := hD
  refine lv_aload_n hx hb d_R_setMx_9 rfl (lv_at hl 0 rfl) ?_
  refine lv_ldc2 (v := (2 : Int64)) hx hb hown (htg _ tm_178) d_R_setMx_10 ?_
  refine lv_lload_n hx hb d_R_setMx_13 rfl (lv_at hl 2 rfl) ?_
  refine lv_lmul hx hb d_R_setMx_14 ?_
  refine va_put (D := D) (ci := 1) (v := .long ((2 : Int64) * n2)) (ty := .long) (C := R_Reducer) (T := F_Reducer) (N := 7) hx hb htg i_Reducer t_Reducer t_Reducer_ok n_Reducer hown hK hP hD hS 0 rfl rfl 4 (by decide) (htg _ tm_60) (fun _ h9 => h9) rfl (by decide +kernel) rfl rfl (Nat.le_of_ble_eq_true rfl) d_R_setMx_15 (fun H locs hP hD hS => ?_)
  have hP : va_P D classes ([(h0, .inr (1, [.long ra, .long rb, .long rc, .long ((2 : Int64) * n1), .long ((2 : Int64) * n2), .long rz, .int rs]))] ++ wt) H := hP
  have hD : va_D A ([(h0, .inr (1, [.long ra, .long rb, .long rc, .long ((2 : Int64) * n1), .long ((2 : Int64) * n2), .long rz, .int rs]))] ++ wt) := hD
  refine lv_aload_n hx hb d_R_setMx_18 rfl (lv_at hl 0 rfl) ?_
  refine lv_ldc2 (v := (2 : Int64)) hx hb hown (htg _ tm_178) d_R_setMx_19 ?_
  refine lv_lload hx hb d_R_setMx_22 (lv_at hl 3 rfl) ?_
  refine lv_lmul hx hb d_R_setMx_24 ?_
  refine va_put (D := D) (ci := 1) (v := .long ((2 : Int64) * n3)) (ty := .long) (C := R_Reducer) (T := F_Reducer) (N := 7) hx hb htg i_Reducer t_Reducer t_Reducer_ok n_Reducer hown hK hP hD hS 0 rfl rfl 5 (by decide) (htg _ tm_61) (fun _ h9 => h9) rfl (by decide +kernel) rfl rfl (Nat.le_of_ble_eq_true rfl) d_R_setMx_25 (fun H locs hP hD hS => ?_)
  have hP : va_P D classes ([(h0, .inr (1, [.long ra, .long rb, .long rc, .long ((2 : Int64) * n1), .long ((2 : Int64) * n2), .long ((2 : Int64) * n3), .int rs]))] ++ wt) H := hP
  have hD : va_D A ([(h0, .inr (1, [.long ra, .long rb, .long rc, .long ((2 : Int64) * n1), .long ((2 : Int64) * n2), .long ((2 : Int64) * n3), .int rs]))] ++ wt) := hD
  exact W.vret hx hb hr (fun t ht hW => ⟨⟨(ra, rb, rc, (2 : Int64) * n1, (2 : Int64) * n2, (2 : Int64) * n3, rs), rfl, h, by rw [ht]; exact hP, hD⟩, hS.F ht⟩) hS.2.2 d_R_setMx_28
-- CellBench$Reducer shears ()I
def f_R_shears (ra : Int64) (rb : Int64) (rc : Int64) (rx : Int64) (ry : Int64) (rz : Int64) (rs : Int32) : Int32 :=
    rs
def w_R_shears : List Cond := .code y_R_shears b_R_shears 1 (some .int) :: GW
abbrev rm_R_shears : Room := { frames := 0, cells := 0, slots := 0, locals := 0 }
theorem g_R_shears : GoodIn GW w_R_shears := gi tm_252
set_option maxHeartbeats 4000000 in
set_option maxRecDepth 100000 in
theorem c_R_shears (l : Launch) (D : va_G) (ct : CT) (ws : va_W) (k0 : Nat) (h0 : Nat) (ra : Int64) (rb : Int64) (rc : Int64) (rx : Int64) (ry : Int64) (rz : Int64) (rs : Int32) (hk0 : ws[k0]? = some (h0, .inr (1, [.long ra, .long rb, .long rc, .long rx, .long ry, .long rz, .int rs])))  (r0 : Int32) (h : f_R_shears ra rb rc rx ry rz rs = r0) : Met l y_R_shears w_R_shears rm_R_shears (va_Pc [.ref h0] (PreP D ct ws)) (vp_Si (fun r => r = r0)) 0 0 (fun _ => False) := by
  refine Met.ofW (cc := b_R_shears) (maxL := 1) (ret := (some .int)) (by decide) rfl ?_
  intro p e s m args below meth c s₁ B hml hv
  obtain ⟨rfl, hP, hKK⟩ := hv
  have hx := B.exec
  have hb := B.bytes
  have hr := B.returns
  have htg := ht_tl (atoms_spec (ws := w_R_shears) B.pre)
  have hown : s.vm.findClass R_Reducer = some m.cls := findClass_of_methodNamed B.named
  have hlocks := B.notSynchronized
  have hK := hKK.1
  have hN := hKK.2.1
  have hO := hKK.2.2
  have hl := lv_entry ([.ref h0]) (n := 1) (Nat.le_of_ble_eq_true rfl)
  rw [lg_entry_eq]
  generalize (lg_sl ([.ref h0]) ++ List.replicate (1 - (lg_sl ([.ref h0])).length) Slot.unset).toArray = ls at hl ⊢
  have hl : lv_has ls 1 [(0, .ref h0)] := hl
  unfold f_R_shears at h
  refine lv_aload_n hx hb d_R_shears_0 rfl (lv_at hl 0 rfl) ?_
  refine va_get (D := D) (ci := 1) (v := .int rs) (C := R_Reducer) (T := F_Reducer) (N := 7) hx hb htg i_Reducer hown hK hP k0 hk0 rfl 6 (by decide) (htg _ tm_62) (fun _ h9 => h9) rfl d_R_shears_1 ?_
  exact W.iret (v := rs) hx hb hr (fun t ht hW => ⟨rs, rfl, h, ht⟩) (fun q h => by cases h) d_R_shears_4
-- CellBench$Reducer at (I)J
def f_R_at (ra : Int64) (rb : Int64) (rc : Int64) (rx : Int64) (ry : Int64) (rz : Int64) (rs : Int32) (wh : Int32) : Int64 :=
    if wh = (0 : Int32) then ra else (if wh = (1 : Int32) then rb else (if wh = (2 : Int32) then rc else (if wh = (3 : Int32) then (rx / (2 : Int64)) else (if wh = (4 : Int32) then (ry / (2 : Int64)) else (if wh = (5 : Int32) then (rz / (2 : Int64)) else (0 : Int64))))))
def w_R_at : List Cond := .code y_R_at b_R_at 2 (some .long) :: GW
abbrev rm_R_at : Room := { frames := 0, cells := 0, slots := 0, locals := 0 }
theorem g_R_at : GoodIn GW w_R_at := gi tm_350
set_option maxHeartbeats 4000000 in
set_option maxRecDepth 100000 in
theorem c_R_at (l : Launch) (D : va_G) (ct : CT) (ws : va_W) (k0 : Nat) (h0 : Nat) (ra : Int64) (rb : Int64) (rc : Int64) (rx : Int64) (ry : Int64) (rz : Int64) (rs : Int32) (wh : Int32) (hk0 : ws[k0]? = some (h0, .inr (1, [.long ra, .long rb, .long rc, .long rx, .long ry, .long rz, .int rs])))  (r0 : Int64) (h : f_R_at ra rb rc rx ry rz rs wh = r0) : Met l y_R_at w_R_at rm_R_at (va_Pc [.ref h0, .int wh] (PreP D ct ws)) (vp_Sl (fun r => r = r0)) 0 0 (fun _ => False) := by
  refine Met.ofW (cc := b_R_at) (maxL := 2) (ret := (some .long)) (by decide) rfl ?_
  intro p e s m args below meth c s₁ B hml hv
  obtain ⟨rfl, hP, hKK⟩ := hv
  have hx := B.exec
  have hb := B.bytes
  have hr := B.returns
  have htg := ht_tl (atoms_spec (ws := w_R_at) B.pre)
  have hown : s.vm.findClass R_Reducer = some m.cls := findClass_of_methodNamed B.named
  have hlocks := B.notSynchronized
  have hK := hKK.1
  have hN := hKK.2.1
  have hO := hKK.2.2
  have hl := lv_entry ([.ref h0, .int wh]) (n := 2) (Nat.le_of_ble_eq_true rfl)
  rw [lg_entry_eq]
  generalize (lg_sl ([.ref h0, .int wh]) ++ List.replicate (2 - (lg_sl ([.ref h0, .int wh])).length) Slot.unset).toArray = ls at hl ⊢
  have hl : lv_has ls 2 [(0, .ref h0), (1, .int wh)] := hl
  unfold f_R_at at h
  refine lv_iload_n hx hb d_R_at_0 rfl (lv_at hl 1 rfl) ?_
  by_cases c_1 : wh = (0 : Int32)
  · rw [if_pos c_1] at h
    refine lv_tableIn (off := 39) (tgt := 40) hx hb d_R_at_1 (by rw [c_1]; decide) (by rw [c_1]; decide) (by rw [c_1]; rfl) (by decide) ?_
    refine lv_aload_n hx hb d_R_at_40 rfl (lv_at hl 0 rfl) ?_
    refine va_get (D := D) (ci := 1) (v := .long ra) (C := R_Reducer) (T := F_Reducer) (N := 7) hx hb htg i_Reducer hown hK hP k0 hk0 rfl 0 (by decide) (htg _ tm_56) (fun _ h9 => h9) rfl d_R_at_41 ?_
    exact W.lret (v := ra) hx hb hr (fun t ht hW => ⟨ra, rfl, h, ht⟩) (fun q h => by cases h) d_R_at_44
  rw [if_neg c_1] at h
  by_cases c_2 : wh = (1 : Int32)
  · rw [if_pos c_2] at h
    refine lv_tableIn (off := 44) (tgt := 45) hx hb d_R_at_1 (by rw [c_2]; decide) (by rw [c_2]; decide) (by rw [c_2]; rfl) (by decide) ?_
    refine lv_aload_n hx hb d_R_at_45 rfl (lv_at hl 0 rfl) ?_
    refine va_get (D := D) (ci := 1) (v := .long rb) (C := R_Reducer) (T := F_Reducer) (N := 7) hx hb htg i_Reducer hown hK hP k0 hk0 rfl 1 (by decide) (htg _ tm_57) (fun _ h9 => h9) rfl d_R_at_46 ?_
    exact W.lret (v := rb) hx hb hr (fun t ht hW => ⟨rb, rfl, h, ht⟩) (fun q h => by cases h) d_R_at_49
  rw [if_neg c_2] at h
  by_cases c_3 : wh = (2 : Int32)
  · rw [if_pos c_3] at h
    refine lv_tableIn (off := 49) (tgt := 50) hx hb d_R_at_1 (by rw [c_3]; decide) (by rw [c_3]; decide) (by rw [c_3]; rfl) (by decide) ?_
    refine lv_aload_n hx hb d_R_at_50 rfl (lv_at hl 0 rfl) ?_
    refine va_get (D := D) (ci := 1) (v := .long rc) (C := R_Reducer) (T := F_Reducer) (N := 7) hx hb htg i_Reducer hown hK hP k0 hk0 rfl 2 (by decide) (htg _ tm_58) (fun _ h9 => h9) rfl d_R_at_51 ?_
    exact W.lret (v := rc) hx hb hr (fun t ht hW => ⟨rc, rfl, h, ht⟩) (fun q h => by cases h) d_R_at_54
  rw [if_neg c_3] at h
  by_cases c_4 : wh = (3 : Int32)
  · rw [if_pos c_4] at h
    refine lv_tableIn (off := 54) (tgt := 55) hx hb d_R_at_1 (by rw [c_4]; decide) (by rw [c_4]; decide) (by rw [c_4]; rfl) (by decide) ?_
    refine lv_aload_n hx hb d_R_at_55 rfl (lv_at hl 0 rfl) ?_
    refine va_get (D := D) (ci := 1) (v := .long rx) (C := R_Reducer) (T := F_Reducer) (N := 7) hx hb htg i_Reducer hown hK hP k0 hk0 rfl 3 (by decide) (htg _ tm_59) (fun _ h9 => h9) rfl d_R_at_56 ?_
    refine lv_ldc2 (v := (2 : Int64)) hx hb hown (htg _ tm_178) d_R_at_59 ?_
    refine lv_ldiv hx hb d_R_at_62 (by decide) ?_
    exact W.lret (v := rx / (2 : Int64)) hx hb hr (fun t ht hW => ⟨rx / (2 : Int64), rfl, h, ht⟩) (fun q h => by cases h) d_R_at_63
  rw [if_neg c_4] at h
  by_cases c_5 : wh = (4 : Int32)
  · rw [if_pos c_5] at h
    refine lv_tableIn (off := 63) (tgt := 64) hx hb d_R_at_1 (by rw [c_5]; decide) (by rw [c_5]; decide) (by rw [c_5]; rfl) (by decide) ?_
    refine lv_aload_n hx hb d_R_at_64 rfl (lv_at hl 0 rfl) ?_
    refine va_get (D := D) (ci := 1) (v := .long ry) (C := R_Reducer) (T := F_Reducer) (N := 7) hx hb htg i_Reducer hown hK hP k0 hk0 rfl 4 (by decide) (htg _ tm_60) (fun _ h9 => h9) rfl d_R_at_65 ?_
    refine lv_ldc2 (v := (2 : Int64)) hx hb hown (htg _ tm_178) d_R_at_68 ?_
    refine lv_ldiv hx hb d_R_at_71 (by decide) ?_
    exact W.lret (v := ry / (2 : Int64)) hx hb hr (fun t ht hW => ⟨ry / (2 : Int64), rfl, h, ht⟩) (fun q h => by cases h) d_R_at_72
  rw [if_neg c_5] at h
  by_cases c_6 : wh = (5 : Int32)
  · rw [if_pos c_6] at h
    refine lv_tableIn (off := 72) (tgt := 73) hx hb d_R_at_1 (by rw [c_6]; decide) (by rw [c_6]; decide) (by rw [c_6]; rfl) (by decide) ?_
    refine lv_aload_n hx hb d_R_at_73 rfl (lv_at hl 0 rfl) ?_
    refine va_get (D := D) (ci := 1) (v := .long rz) (C := R_Reducer) (T := F_Reducer) (N := 7) hx hb htg i_Reducer hown hK hP k0 hk0 rfl 5 (by decide) (htg _ tm_61) (fun _ h9 => h9) rfl d_R_at_74 ?_
    refine lv_ldc2 (v := (2 : Int64)) hx hb hown (htg _ tm_178) d_R_at_77 ?_
    refine lv_ldiv hx hb d_R_at_80 (by decide) ?_
    exact W.lret (v := rz / (2 : Int64)) hx hb hr (fun t ht hW => ⟨rz / (2 : Int64), rfl, h, ht⟩) (fun q h => by cases h) d_R_at_81
  rw [if_neg c_6] at h
  refine lv_tableOut (tgt := 82) hx hb d_R_at_1 (by have z0 := lv_neT (a := 0) c_1 (by decide); have z1 := lv_neT (a := 1) c_2 (by decide); have z2 := lv_neT (a := 2) c_3 (by decide); have z3 := lv_neT (a := 3) c_4 (by decide); have z4 := lv_neT (a := 4) c_5 (by decide); have z5 := lv_neT (a := 5) c_6 (by decide); omega) (by decide) ?_
  refine lv_lconst (v := (0 : Int64)) hx hb d_R_at_82 (by decide) ?_
  exact W.lret (v := (0 : Int64)) hx hb hr (fun t ht hW => ⟨(0 : Int64), rfl, h, ht⟩) (fun q h => by cases h) d_R_at_83
-- CellBench$Reducer orderFirstTwo ()V
def f_R_ord1 (ra : Int64) (rb : Int64) (rc : Int64) (rx : Int64) (ry : Int64) (rz : Int64) (rs : Int32) : Int64 × Int64 × Int64 × Int64 × Int64 × Int64 × Int32 :=
    if 0 < (lg_cmp ra rb) then (rb, ra, rc, ry, rx, rz, rs) else (if (lg_cmp ra rb) = 0 then (if (lg_cmp (if 0 < rx then rx else -rx) (if 0 < ry then ry else -ry)) ≤ 0 then (ra, rb, rc, rx, ry, rz, rs) else (rb, ra, rc, ry, rx, rz, rs)) else (ra, rb, rc, rx, ry, rz, rs))
def w_R_ord1 : List Cond := .code y_R_ord1 b_R_ord1 5 none :: GW
abbrev rm_R_ord1 : Room := { frames := 1, cells := 0, slots := 0, locals := 15 }
theorem g_R_ord1 : GoodIn GW w_R_ord1 := gi tm_187
set_option maxHeartbeats 4000000 in
set_option maxRecDepth 100000 in
theorem c_R_ord1 (l : Launch) (D : va_G) (ct : CT) (A : Nat → Prop) (wt : va_W)  (h0 : Nat) (ra : Int64) (rb : Int64) (rc : Int64) (rx : Int64) (ry : Int64) (rz : Int64) (rs : Int32)   (r0 : Int64 × Int64 × Int64 × Int64 × Int64 × Int64 × Int32) (h : f_R_ord1 ra rb rc rx ry rz rs = r0) : Met l y_R_ord1 w_R_ord1 rm_R_ord1 (va_Pc [.ref h0] (PreM D ct A ([(h0, .inr (1, [.long ra, .long rb, .long rc, .long rx, .long ry, .long rz, .int rs]))] ++ wt))) (va_Qv (fun u => u = r0) (fun (u : Int64 × Int64 × Int64 × Int64 × Int64 × Int64 × Int32) t => match u with | (ra', rb', rc', rx', ry', rz', rs') => va_P D classes ([(h0, .inr (1, [.long ra', .long rb', .long rc', .long rx', .long ry', .long rz', .int rs']))] ++ wt) t.heap ∧ va_D A ([(h0, .inr (1, [.long ra', .long rb', .long rc', .long rx', .long ry', .long rz', .int rs']))] ++ wt)) A) 0 0 A := by
  refine Met.ofW (cc := b_R_ord1) (maxL := 5) (ret := none) (by decide) rfl ?_
  intro p e s m args below meth c s₁ B hml hv
  obtain ⟨rfl, hA, hP, hD, hKK⟩ := hv
  have hx := B.exec
  have hb := B.bytes
  have hr := B.returns
  have htg := ht_tl (atoms_spec (ws := w_R_ord1) B.pre)
  have hown : s.vm.findClass R_Reducer = some m.cls := findClass_of_methodNamed B.named
  have hlocks := B.notSynchronized
  have hK := hKK.1
  have hN := hKK.2.1
  have hO := hKK.2.2
  have hS : va_S A s.heap s.heap [] := va_S.rf
  have hl := lv_entry ([.ref h0]) (n := 5) (Nat.le_of_ble_eq_true rfl)
  rw [lg_entry_eq]
  generalize (lg_sl ([.ref h0]) ++ List.replicate (5 - (lg_sl ([.ref h0])).length) Slot.unset).toArray = ls at hl ⊢
  have hl : lv_has ls 5 [(0, .ref h0)] := hl
  unfold f_R_ord1 at h
  refine lv_aload_n hx hb d_R_ord1_0 rfl (lv_at hl 0 rfl) ?_
  refine va_get (D := D) (ci := 1) (v := .long ra) (C := R_Reducer) (T := F_Reducer) (N := 7) hx hb htg i_Reducer hown hK hP 0 rfl rfl 0 (by decide) (htg _ tm_56) (fun _ h9 => h9) rfl d_R_ord1_1 ?_
  refine lv_aload_n hx hb d_R_ord1_4 rfl (lv_at hl 0 rfl) ?_
  refine va_get (D := D) (ci := 1) (v := .long rb) (C := R_Reducer) (T := F_Reducer) (N := 7) hx hb htg i_Reducer hown hK hP 0 rfl rfl 1 (by decide) (htg _ tm_57) (fun _ h9 => h9) rfl d_R_ord1_5 ?_
  refine W.lcmp hx hb d_R_ord1_8 ?_
  refine lv_if_gt (tgt := 42) hx hb d_R_ord1_9 (by decide) (fun c_1 => ?_) (fun c_1 => ?_)
  · rw [if_pos c_1] at h
    refine lv_aload_n hx hb d_R_ord1_42 rfl (lv_at hl 0 rfl) ?_
    refine va_get (D := D) (ci := 1) (v := .long ra) (C := R_Reducer) (T := F_Reducer) (N := 7) hx hb htg i_Reducer hown hK hP 0 rfl rfl 0 (by decide) (htg _ tm_56) (fun _ h9 => h9) rfl d_R_ord1_43 ?_
    refine lv_lstore_n (lv' := [(1, .long ra), (0, .ref h0)]) hx hb d_R_ord1_46 rfl hl (by decide) rfl (fun ls hl => ?_)
    refine lv_aload_n hx hb d_R_ord1_47 rfl (lv_at hl 1 rfl) ?_
    refine lv_aload_n hx hb d_R_ord1_48 rfl (lv_at hl 1 rfl) ?_
    refine va_get (D := D) (ci := 1) (v := .long rb) (C := R_Reducer) (T := F_Reducer) (N := 7) hx hb htg i_Reducer hown hK hP 0 rfl rfl 1 (by decide) (htg _ tm_57) (fun _ h9 => h9) rfl d_R_ord1_49 ?_
    refine va_put (D := D) (ci := 1) (v := .long rb) (ty := .long) (C := R_Reducer) (T := F_Reducer) (N := 7) hx hb htg i_Reducer t_Reducer t_Reducer_ok n_Reducer hown hK hP hD hS 0 rfl rfl 0 (by decide) (htg _ tm_56) (fun _ h9 => h9) rfl (by decide +kernel) rfl rfl (Nat.le_of_ble_eq_true rfl) d_R_ord1_52 (fun H locs hP hD hS => ?_)
    have hP : va_P D classes ([(h0, .inr (1, [.long rb, .long rb, .long rc, .long rx, .long ry, .long rz, .int rs]))] ++ wt) H := hP
    have hD : va_D A ([(h0, .inr (1, [.long rb, .long rb, .long rc, .long rx, .long ry, .long rz, .int rs]))] ++ wt) := hD
    refine lv_aload_n hx hb d_R_ord1_55 rfl (lv_at hl 1 rfl) ?_
    refine lv_lload_n hx hb d_R_ord1_56 rfl (lv_at hl 0 rfl) ?_
    refine va_put (D := D) (ci := 1) (v := .long ra) (ty := .long) (C := R_Reducer) (T := F_Reducer) (N := 7) hx hb htg i_Reducer t_Reducer t_Reducer_ok n_Reducer hown hK hP hD hS 0 rfl rfl 1 (by decide) (htg _ tm_57) (fun _ h9 => h9) rfl (by decide +kernel) rfl rfl (Nat.le_of_ble_eq_true rfl) d_R_ord1_57 (fun H locs hP hD hS => ?_)
    have hP : va_P D classes ([(h0, .inr (1, [.long rb, .long ra, .long rc, .long rx, .long ry, .long rz, .int rs]))] ++ wt) H := hP
    have hD : va_D A ([(h0, .inr (1, [.long rb, .long ra, .long rc, .long rx, .long ry, .long rz, .int rs]))] ++ wt) := hD
    refine lv_aload_n hx hb d_R_ord1_60 rfl (lv_at hl 1 rfl) ?_
    refine va_get (D := D) (ci := 1) (v := .long rx) (C := R_Reducer) (T := F_Reducer) (N := 7) hx hb htg i_Reducer hown hK hP 0 rfl rfl 3 (by decide) (htg _ tm_59) (fun _ h9 => h9) rfl d_R_ord1_61 ?_
    refine lv_lstore_n (lv' := [(3, .long rx), (1, .long ra), (0, .ref h0)]) hx hb d_R_ord1_64 rfl hl (by decide) rfl (fun ls hl => ?_)
    refine lv_aload_n hx hb d_R_ord1_65 rfl (lv_at hl 2 rfl) ?_
    refine lv_aload_n hx hb d_R_ord1_66 rfl (lv_at hl 2 rfl) ?_
    refine va_get (D := D) (ci := 1) (v := .long ry) (C := R_Reducer) (T := F_Reducer) (N := 7) hx hb htg i_Reducer hown hK hP 0 rfl rfl 4 (by decide) (htg _ tm_60) (fun _ h9 => h9) rfl d_R_ord1_67 ?_
    refine va_put (D := D) (ci := 1) (v := .long ry) (ty := .long) (C := R_Reducer) (T := F_Reducer) (N := 7) hx hb htg i_Reducer t_Reducer t_Reducer_ok n_Reducer hown hK hP hD hS 0 rfl rfl 3 (by decide) (htg _ tm_59) (fun _ h9 => h9) rfl (by decide +kernel) rfl rfl (Nat.le_of_ble_eq_true rfl) d_R_ord1_70 (fun H locs hP hD hS => ?_)
    have hP : va_P D classes ([(h0, .inr (1, [.long rb, .long ra, .long rc, .long ry, .long ry, .long rz, .int rs]))] ++ wt) H := hP
    have hD : va_D A ([(h0, .inr (1, [.long rb, .long ra, .long rc, .long ry, .long ry, .long rz, .int rs]))] ++ wt) := hD
    refine lv_aload_n hx hb d_R_ord1_73 rfl (lv_at hl 2 rfl) ?_
    refine lv_lload_n hx hb d_R_ord1_74 rfl (lv_at hl 0 rfl) ?_
    refine va_put (D := D) (ci := 1) (v := .long rx) (ty := .long) (C := R_Reducer) (T := F_Reducer) (N := 7) hx hb htg i_Reducer t_Reducer t_Reducer_ok n_Reducer hown hK hP hD hS 0 rfl rfl 4 (by decide) (htg _ tm_60) (fun _ h9 => h9) rfl (by decide +kernel) rfl rfl (Nat.le_of_ble_eq_true rfl) d_R_ord1_75 (fun H locs hP hD hS => ?_)
    have hP : va_P D classes ([(h0, .inr (1, [.long rb, .long ra, .long rc, .long ry, .long rx, .long rz, .int rs]))] ++ wt) H := hP
    have hD : va_D A ([(h0, .inr (1, [.long rb, .long ra, .long rc, .long ry, .long rx, .long rz, .int rs]))] ++ wt) := hD
    exact W.vret hx hb hr (fun t ht hW => ⟨⟨(rb, ra, rc, ry, rx, rz, rs), rfl, h, by rw [ht]; exact hP, hD⟩, hS.F ht⟩) hS.2.2 d_R_ord1_78
  · rw [if_neg c_1] at h
    refine lv_aload_n hx hb d_R_ord1_12 rfl (lv_at hl 0 rfl) ?_
    refine va_get (D := D) (ci := 1) (v := .long ra) (C := R_Reducer) (T := F_Reducer) (N := 7) hx hb htg i_Reducer hown hK hP 0 rfl rfl 0 (by decide) (htg _ tm_56) (fun _ h9 => h9) rfl d_R_ord1_13 ?_
    refine lv_aload_n hx hb d_R_ord1_16 rfl (lv_at hl 0 rfl) ?_
    refine va_get (D := D) (ci := 1) (v := .long rb) (C := R_Reducer) (T := F_Reducer) (N := 7) hx hb htg i_Reducer hown hK hP 0 rfl rfl 1 (by decide) (htg _ tm_57) (fun _ h9 => h9) rfl d_R_ord1_17 ?_
    refine W.lcmp hx hb d_R_ord1_20 ?_
    refine lv_if_ne (tgt := 78) hx hb d_R_ord1_21 (by decide) (fun c_2 => ?_) (fun c_2 => ?_)
    · rw [if_neg c_2] at h
      exact W.vret hx hb hr (fun t ht hW => ⟨⟨(ra, rb, rc, rx, ry, rz, rs), rfl, h, by rw [ht]; exact hP, hD⟩, hS.F ht⟩) hS.2.2 d_R_ord1_78
    · rw [if_pos c_2] at h
      refine lv_aload_n hx hb d_R_ord1_24 rfl (lv_at hl 0 rfl) ?_
      refine va_get (D := D) (ci := 1) (v := .long rx) (C := R_Reducer) (T := F_Reducer) (N := 7) hx hb htg i_Reducer hown hK hP 0 rfl rfl 3 (by decide) (htg _ tm_59) (fun _ h9 => h9) rfl d_R_ord1_25 ?_
      refine va_mabs_long hx hb (by rw [hml]; exact hl.1.symm) hown (htg _ tm_188) (htg _ tm_189) (htg _ tm_36) (htg _ tm_190) (Nat.le_of_ble_eq_true rfl) (Nat.le_of_ble_eq_true rfl) (Nat.le_of_ble_eq_true rfl) (Nat.le_of_ble_eq_true rfl) d_R_ord1_28 ?_
      refine lv_aload_n hx hb d_R_ord1_31 rfl (lv_at hl 0 rfl) ?_
      refine va_get (D := D) (ci := 1) (v := .long ry) (C := R_Reducer) (T := F_Reducer) (N := 7) hx hb htg i_Reducer hown hK hP 0 rfl rfl 4 (by decide) (htg _ tm_60) (fun _ h9 => h9) rfl d_R_ord1_32 ?_
      refine va_mabs_long hx hb (by rw [hml]; exact hl.1.symm) hown (htg _ tm_188) (htg _ tm_189) (htg _ tm_36) (htg _ tm_190) (Nat.le_of_ble_eq_true rfl) (Nat.le_of_ble_eq_true rfl) (Nat.le_of_ble_eq_true rfl) (Nat.le_of_ble_eq_true rfl) d_R_ord1_35 ?_
      refine W.lcmp hx hb d_R_ord1_38 ?_
      refine lv_if_le (tgt := 78) hx hb d_R_ord1_39 (by decide) (fun c_3 => ?_) (fun c_3 => ?_)
      · rw [if_pos c_3] at h
        exact W.vret hx hb hr (fun t ht hW => ⟨⟨(ra, rb, rc, rx, ry, rz, rs), rfl, h, by rw [ht]; exact hP, hD⟩, hS.F ht⟩) hS.2.2 d_R_ord1_78
      · rw [if_neg c_3] at h
        refine lv_aload_n hx hb d_R_ord1_42 rfl (lv_at hl 0 rfl) ?_
        refine va_get (D := D) (ci := 1) (v := .long ra) (C := R_Reducer) (T := F_Reducer) (N := 7) hx hb htg i_Reducer hown hK hP 0 rfl rfl 0 (by decide) (htg _ tm_56) (fun _ h9 => h9) rfl d_R_ord1_43 ?_
        refine lv_lstore_n (lv' := [(1, .long ra), (0, .ref h0)]) hx hb d_R_ord1_46 rfl hl (by decide) rfl (fun ls hl => ?_)
        refine lv_aload_n hx hb d_R_ord1_47 rfl (lv_at hl 1 rfl) ?_
        refine lv_aload_n hx hb d_R_ord1_48 rfl (lv_at hl 1 rfl) ?_
        refine va_get (D := D) (ci := 1) (v := .long rb) (C := R_Reducer) (T := F_Reducer) (N := 7) hx hb htg i_Reducer hown hK hP 0 rfl rfl 1 (by decide) (htg _ tm_57) (fun _ h9 => h9) rfl d_R_ord1_49 ?_
        refine va_put (D := D) (ci := 1) (v := .long rb) (ty := .long) (C := R_Reducer) (T := F_Reducer) (N := 7) hx hb htg i_Reducer t_Reducer t_Reducer_ok n_Reducer hown hK hP hD hS 0 rfl rfl 0 (by decide) (htg _ tm_56) (fun _ h9 => h9) rfl (by decide +kernel) rfl rfl (Nat.le_of_ble_eq_true rfl) d_R_ord1_52 (fun H locs hP hD hS => ?_)
        have hP : va_P D classes ([(h0, .inr (1, [.long rb, .long rb, .long rc, .long rx, .long ry, .long rz, .int rs]))] ++ wt) H := hP
        have hD : va_D A ([(h0, .inr (1, [.long rb, .long rb, .long rc, .long rx, .long ry, .long rz, .int rs]))] ++ wt) := hD
        refine lv_aload_n hx hb d_R_ord1_55 rfl (lv_at hl 1 rfl) ?_
        refine lv_lload_n hx hb d_R_ord1_56 rfl (lv_at hl 0 rfl) ?_
        refine va_put (D := D) (ci := 1) (v := .long ra) (ty := .long) (C := R_Reducer) (T := F_Reducer) (N := 7) hx hb htg i_Reducer t_Reducer t_Reducer_ok n_Reducer hown hK hP hD hS 0 rfl rfl 1 (by decide) (htg _ tm_57) (fun _ h9 => h9) rfl (by decide +kernel) rfl rfl (Nat.le_of_ble_eq_true rfl) d_R_ord1_57 (fun H locs hP hD hS => ?_)
        have hP : va_P D classes ([(h0, .inr (1, [.long rb, .long ra, .long rc, .long rx, .long ry, .long rz, .int rs]))] ++ wt) H := hP
        have hD : va_D A ([(h0, .inr (1, [.long rb, .long ra, .long rc, .long rx, .long ry, .long rz, .int rs]))] ++ wt) := hD
        refine lv_aload_n hx hb d_R_ord1_60 rfl (lv_at hl 1 rfl) ?_
        refine va_get (D := D) (ci := 1) (v := .long rx) (C := R_Reducer) (T := F_Reducer) (N := 7) hx hb htg i_Reducer hown hK hP 0 rfl rfl 3 (by decide) (htg _ tm_59) (fun _ h9 => h9) rfl d_R_ord1_61 ?_
        refine lv_lstore_n (lv' := [(3, .long rx), (1, .long ra), (0, .ref h0)]) hx hb d_R_ord1_64 rfl hl (by decide) rfl (fun ls hl => ?_)
        refine lv_aload_n hx hb d_R_ord1_65 rfl (lv_at hl 2 rfl) ?_
        refine lv_aload_n hx hb d_R_ord1_66 rfl (lv_at hl 2 rfl) ?_
        refine va_get (D := D) (ci := 1) (v := .long ry) (C := R_Reducer) (T := F_Reducer) (N := 7) hx hb htg i_Reducer hown hK hP 0 rfl rfl 4 (by decide) (htg _ tm_60) (fun _ h9 => h9) rfl d_R_ord1_67 ?_
        refine va_put (D := D) (ci := 1) (v := .long ry) (ty := .long) (C := R_Reducer) (T := F_Reducer) (N := 7) hx hb htg i_Reducer t_Reducer t_Reducer_ok n_Reducer hown hK hP hD hS 0 rfl rfl 3 (by decide) (htg _ tm_59) (fun _ h9 => h9) rfl (by decide +kernel) rfl rfl (Nat.le_of_ble_eq_true rfl) d_R_ord1_70 (fun H locs hP hD hS => ?_)
        have hP : va_P D classes ([(h0, .inr (1, [.long rb, .long ra, .long rc, .long ry, .long ry, .long rz, .int rs]))] ++ wt) H := hP
        have hD : va_D A ([(h0, .inr (1, [.long rb, .long ra, .long rc, .long ry, .long ry, .long rz, .int rs]))] ++ wt) := hD
        refine lv_aload_n hx hb d_R_ord1_73 rfl (lv_at hl 2 rfl) ?_
        refine lv_lload_n hx hb d_R_ord1_74 rfl (lv_at hl 0 rfl) ?_
        refine va_put (D := D) (ci := 1) (v := .long rx) (ty := .long) (C := R_Reducer) (T := F_Reducer) (N := 7) hx hb htg i_Reducer t_Reducer t_Reducer_ok n_Reducer hown hK hP hD hS 0 rfl rfl 4 (by decide) (htg _ tm_60) (fun _ h9 => h9) rfl (by decide +kernel) rfl rfl (Nat.le_of_ble_eq_true rfl) d_R_ord1_75 (fun H locs hP hD hS => ?_)
        have hP : va_P D classes ([(h0, .inr (1, [.long rb, .long ra, .long rc, .long ry, .long rx, .long rz, .int rs]))] ++ wt) H := hP
        have hD : va_D A ([(h0, .inr (1, [.long rb, .long ra, .long rc, .long ry, .long rx, .long rz, .int rs]))] ++ wt) := hD
        exact W.vret hx hb hr (fun t ht hW => ⟨⟨(rb, ra, rc, ry, rx, rz, rs), rfl, h, by rw [ht]; exact hP, hD⟩, hS.F ht⟩) hS.2.2 d_R_ord1_78
-- CellBench$Reducer orderLastTwo ()Z
def f_R_ord2 (ra : Int64) (rb : Int64) (rc : Int64) (rx : Int64) (ry : Int64) (rz : Int64) (rs : Int32) : Int32 × Int64 × Int64 × Int64 × Int64 × Int64 × Int64 × Int32 :=
    if 0 < (lg_cmp rb rc) then ((1 : Int32), ra, rc, rb, rx, rz, ry, rs) else (if (lg_cmp rb rc) = 0 then (if (lg_cmp (if 0 < ry then ry else -ry) (if 0 < rz then rz else -rz)) ≤ 0 then ((0 : Int32), ra, rb, rc, rx, ry, rz, rs) else ((1 : Int32), ra, rc, rb, rx, rz, ry, rs)) else ((0 : Int32), ra, rb, rc, rx, ry, rz, rs))
def w_R_ord2 : List Cond := .code y_R_ord2 b_R_ord2 5 (some .boolean) :: GW
abbrev rm_R_ord2 : Room := { frames := 1, cells := 0, slots := 0, locals := 15 }
theorem g_R_ord2 : GoodIn GW w_R_ord2 := gi tm_194
set_option maxHeartbeats 4000000 in
set_option maxRecDepth 100000 in
theorem c_R_ord2 (l : Launch) (D : va_G) (ct : CT) (A : Nat → Prop) (wt : va_W)  (h0 : Nat) (ra : Int64) (rb : Int64) (rc : Int64) (rx : Int64) (ry : Int64) (rz : Int64) (rs : Int32)   (r0 : Int32 × Int64 × Int64 × Int64 × Int64 × Int64 × Int64 × Int32) (h : f_R_ord2 ra rb rc rx ry rz rs = r0) : Met l y_R_ord2 w_R_ord2 rm_R_ord2 (va_Pc [.ref h0] (PreM D ct A ([(h0, .inr (1, [.long ra, .long rb, .long rc, .long rx, .long ry, .long rz, .int rs]))] ++ wt))) (va_Qi (fun r u => (r, u) = r0) (fun (u : Int64 × Int64 × Int64 × Int64 × Int64 × Int64 × Int32) t => match u with | (ra', rb', rc', rx', ry', rz', rs') => va_P D classes ([(h0, .inr (1, [.long ra', .long rb', .long rc', .long rx', .long ry', .long rz', .int rs']))] ++ wt) t.heap ∧ va_D A ([(h0, .inr (1, [.long ra', .long rb', .long rc', .long rx', .long ry', .long rz', .int rs']))] ++ wt)) A) 0 0 A := by
  refine Met.ofW (cc := b_R_ord2) (maxL := 5) (ret := (some .boolean)) (by decide) rfl ?_
  intro p e s m args below meth c s₁ B hml hv
  obtain ⟨rfl, hA, hP, hD, hKK⟩ := hv
  have hx := B.exec
  have hb := B.bytes
  have hr := B.returns
  have htg := ht_tl (atoms_spec (ws := w_R_ord2) B.pre)
  have hown : s.vm.findClass R_Reducer = some m.cls := findClass_of_methodNamed B.named
  have hlocks := B.notSynchronized
  have hK := hKK.1
  have hN := hKK.2.1
  have hO := hKK.2.2
  have hS : va_S A s.heap s.heap [] := va_S.rf
  have hl := lv_entry ([.ref h0]) (n := 5) (Nat.le_of_ble_eq_true rfl)
  rw [lg_entry_eq]
  generalize (lg_sl ([.ref h0]) ++ List.replicate (5 - (lg_sl ([.ref h0])).length) Slot.unset).toArray = ls at hl ⊢
  have hl : lv_has ls 5 [(0, .ref h0)] := hl
  unfold f_R_ord2 at h
  refine lv_aload_n hx hb d_R_ord2_0 rfl (lv_at hl 0 rfl) ?_
  refine va_get (D := D) (ci := 1) (v := .long rb) (C := R_Reducer) (T := F_Reducer) (N := 7) hx hb htg i_Reducer hown hK hP 0 rfl rfl 1 (by decide) (htg _ tm_57) (fun _ h9 => h9) rfl d_R_ord2_1 ?_
  refine lv_aload_n hx hb d_R_ord2_4 rfl (lv_at hl 0 rfl) ?_
  refine va_get (D := D) (ci := 1) (v := .long rc) (C := R_Reducer) (T := F_Reducer) (N := 7) hx hb htg i_Reducer hown hK hP 0 rfl rfl 2 (by decide) (htg _ tm_58) (fun _ h9 => h9) rfl d_R_ord2_5 ?_
  refine W.lcmp hx hb d_R_ord2_8 ?_
  refine lv_if_gt (tgt := 42) hx hb d_R_ord2_9 (by decide) (fun c_1 => ?_) (fun c_1 => ?_)
  · rw [if_pos c_1] at h
    refine lv_aload_n hx hb d_R_ord2_42 rfl (lv_at hl 0 rfl) ?_
    refine va_get (D := D) (ci := 1) (v := .long rb) (C := R_Reducer) (T := F_Reducer) (N := 7) hx hb htg i_Reducer hown hK hP 0 rfl rfl 1 (by decide) (htg _ tm_57) (fun _ h9 => h9) rfl d_R_ord2_43 ?_
    refine lv_lstore_n (lv' := [(1, .long rb), (0, .ref h0)]) hx hb d_R_ord2_46 rfl hl (by decide) rfl (fun ls hl => ?_)
    refine lv_aload_n hx hb d_R_ord2_47 rfl (lv_at hl 1 rfl) ?_
    refine lv_aload_n hx hb d_R_ord2_48 rfl (lv_at hl 1 rfl) ?_
    refine va_get (D := D) (ci := 1) (v := .long rc) (C := R_Reducer) (T := F_Reducer) (N := 7) hx hb htg i_Reducer hown hK hP 0 rfl rfl 2 (by decide) (htg _ tm_58) (fun _ h9 => h9) rfl d_R_ord2_49 ?_
    refine va_put (D := D) (ci := 1) (v := .long rc) (ty := .long) (C := R_Reducer) (T := F_Reducer) (N := 7) hx hb htg i_Reducer t_Reducer t_Reducer_ok n_Reducer hown hK hP hD hS 0 rfl rfl 1 (by decide) (htg _ tm_57) (fun _ h9 => h9) rfl (by decide +kernel) rfl rfl (Nat.le_of_ble_eq_true rfl) d_R_ord2_52 (fun H locs hP hD hS => ?_)
    have hP : va_P D classes ([(h0, .inr (1, [.long ra, .long rc, .long rc, .long rx, .long ry, .long rz, .int rs]))] ++ wt) H := hP
    have hD : va_D A ([(h0, .inr (1, [.long ra, .long rc, .long rc, .long rx, .long ry, .long rz, .int rs]))] ++ wt) := hD
    refine lv_aload_n hx hb d_R_ord2_55 rfl (lv_at hl 1 rfl) ?_
    refine lv_lload_n hx hb d_R_ord2_56 rfl (lv_at hl 0 rfl) ?_
    refine va_put (D := D) (ci := 1) (v := .long rb) (ty := .long) (C := R_Reducer) (T := F_Reducer) (N := 7) hx hb htg i_Reducer t_Reducer t_Reducer_ok n_Reducer hown hK hP hD hS 0 rfl rfl 2 (by decide) (htg _ tm_58) (fun _ h9 => h9) rfl (by decide +kernel) rfl rfl (Nat.le_of_ble_eq_true rfl) d_R_ord2_57 (fun H locs hP hD hS => ?_)
    have hP : va_P D classes ([(h0, .inr (1, [.long ra, .long rc, .long rb, .long rx, .long ry, .long rz, .int rs]))] ++ wt) H := hP
    have hD : va_D A ([(h0, .inr (1, [.long ra, .long rc, .long rb, .long rx, .long ry, .long rz, .int rs]))] ++ wt) := hD
    refine lv_aload_n hx hb d_R_ord2_60 rfl (lv_at hl 1 rfl) ?_
    refine va_get (D := D) (ci := 1) (v := .long ry) (C := R_Reducer) (T := F_Reducer) (N := 7) hx hb htg i_Reducer hown hK hP 0 rfl rfl 4 (by decide) (htg _ tm_60) (fun _ h9 => h9) rfl d_R_ord2_61 ?_
    refine lv_lstore_n (lv' := [(3, .long ry), (1, .long rb), (0, .ref h0)]) hx hb d_R_ord2_64 rfl hl (by decide) rfl (fun ls hl => ?_)
    refine lv_aload_n hx hb d_R_ord2_65 rfl (lv_at hl 2 rfl) ?_
    refine lv_aload_n hx hb d_R_ord2_66 rfl (lv_at hl 2 rfl) ?_
    refine va_get (D := D) (ci := 1) (v := .long rz) (C := R_Reducer) (T := F_Reducer) (N := 7) hx hb htg i_Reducer hown hK hP 0 rfl rfl 5 (by decide) (htg _ tm_61) (fun _ h9 => h9) rfl d_R_ord2_67 ?_
    refine va_put (D := D) (ci := 1) (v := .long rz) (ty := .long) (C := R_Reducer) (T := F_Reducer) (N := 7) hx hb htg i_Reducer t_Reducer t_Reducer_ok n_Reducer hown hK hP hD hS 0 rfl rfl 4 (by decide) (htg _ tm_60) (fun _ h9 => h9) rfl (by decide +kernel) rfl rfl (Nat.le_of_ble_eq_true rfl) d_R_ord2_70 (fun H locs hP hD hS => ?_)
    have hP : va_P D classes ([(h0, .inr (1, [.long ra, .long rc, .long rb, .long rx, .long rz, .long rz, .int rs]))] ++ wt) H := hP
    have hD : va_D A ([(h0, .inr (1, [.long ra, .long rc, .long rb, .long rx, .long rz, .long rz, .int rs]))] ++ wt) := hD
    refine lv_aload_n hx hb d_R_ord2_73 rfl (lv_at hl 2 rfl) ?_
    refine lv_lload_n hx hb d_R_ord2_74 rfl (lv_at hl 0 rfl) ?_
    refine va_put (D := D) (ci := 1) (v := .long ry) (ty := .long) (C := R_Reducer) (T := F_Reducer) (N := 7) hx hb htg i_Reducer t_Reducer t_Reducer_ok n_Reducer hown hK hP hD hS 0 rfl rfl 5 (by decide) (htg _ tm_61) (fun _ h9 => h9) rfl (by decide +kernel) rfl rfl (Nat.le_of_ble_eq_true rfl) d_R_ord2_75 (fun H locs hP hD hS => ?_)
    have hP : va_P D classes ([(h0, .inr (1, [.long ra, .long rc, .long rb, .long rx, .long rz, .long ry, .int rs]))] ++ wt) H := hP
    have hD : va_D A ([(h0, .inr (1, [.long ra, .long rc, .long rb, .long rx, .long rz, .long ry, .int rs]))] ++ wt) := hD
    refine lv_iconst (v := (1 : Int32)) hx hb d_R_ord2_78 (by decide) ?_
    exact W.zret (v := (1 : Int32)) (ty := .boolean) hx hb hr rfl (fun t ht hW => ⟨⟨(1 : Int32), (ra, rc, rb, rx, rz, ry, rs), rfl, h, by rw [ht]; exact hP, hD⟩, hS.F ht⟩) hS.2.2 d_R_ord2_79
  · rw [if_neg c_1] at h
    refine lv_aload_n hx hb d_R_ord2_12 rfl (lv_at hl 0 rfl) ?_
    refine va_get (D := D) (ci := 1) (v := .long rb) (C := R_Reducer) (T := F_Reducer) (N := 7) hx hb htg i_Reducer hown hK hP 0 rfl rfl 1 (by decide) (htg _ tm_57) (fun _ h9 => h9) rfl d_R_ord2_13 ?_
    refine lv_aload_n hx hb d_R_ord2_16 rfl (lv_at hl 0 rfl) ?_
    refine va_get (D := D) (ci := 1) (v := .long rc) (C := R_Reducer) (T := F_Reducer) (N := 7) hx hb htg i_Reducer hown hK hP 0 rfl rfl 2 (by decide) (htg _ tm_58) (fun _ h9 => h9) rfl d_R_ord2_17 ?_
    refine W.lcmp hx hb d_R_ord2_20 ?_
    refine lv_if_ne (tgt := 80) hx hb d_R_ord2_21 (by decide) (fun c_2 => ?_) (fun c_2 => ?_)
    · rw [if_neg c_2] at h
      refine lv_iconst (v := (0 : Int32)) hx hb d_R_ord2_80 (by decide) ?_
      exact W.zret (v := (0 : Int32)) (ty := .boolean) hx hb hr rfl (fun t ht hW => ⟨⟨(0 : Int32), (ra, rb, rc, rx, ry, rz, rs), rfl, h, by rw [ht]; exact hP, hD⟩, hS.F ht⟩) hS.2.2 d_R_ord2_81
    · rw [if_pos c_2] at h
      refine lv_aload_n hx hb d_R_ord2_24 rfl (lv_at hl 0 rfl) ?_
      refine va_get (D := D) (ci := 1) (v := .long ry) (C := R_Reducer) (T := F_Reducer) (N := 7) hx hb htg i_Reducer hown hK hP 0 rfl rfl 4 (by decide) (htg _ tm_60) (fun _ h9 => h9) rfl d_R_ord2_25 ?_
      refine va_mabs_long hx hb (by rw [hml]; exact hl.1.symm) hown (htg _ tm_188) (htg _ tm_189) (htg _ tm_36) (htg _ tm_190) (Nat.le_of_ble_eq_true rfl) (Nat.le_of_ble_eq_true rfl) (Nat.le_of_ble_eq_true rfl) (Nat.le_of_ble_eq_true rfl) d_R_ord2_28 ?_
      refine lv_aload_n hx hb d_R_ord2_31 rfl (lv_at hl 0 rfl) ?_
      refine va_get (D := D) (ci := 1) (v := .long rz) (C := R_Reducer) (T := F_Reducer) (N := 7) hx hb htg i_Reducer hown hK hP 0 rfl rfl 5 (by decide) (htg _ tm_61) (fun _ h9 => h9) rfl d_R_ord2_32 ?_
      refine va_mabs_long hx hb (by rw [hml]; exact hl.1.symm) hown (htg _ tm_188) (htg _ tm_189) (htg _ tm_36) (htg _ tm_190) (Nat.le_of_ble_eq_true rfl) (Nat.le_of_ble_eq_true rfl) (Nat.le_of_ble_eq_true rfl) (Nat.le_of_ble_eq_true rfl) d_R_ord2_35 ?_
      refine W.lcmp hx hb d_R_ord2_38 ?_
      refine lv_if_le (tgt := 80) hx hb d_R_ord2_39 (by decide) (fun c_3 => ?_) (fun c_3 => ?_)
      · rw [if_pos c_3] at h
        refine lv_iconst (v := (0 : Int32)) hx hb d_R_ord2_80 (by decide) ?_
        exact W.zret (v := (0 : Int32)) (ty := .boolean) hx hb hr rfl (fun t ht hW => ⟨⟨(0 : Int32), (ra, rb, rc, rx, ry, rz, rs), rfl, h, by rw [ht]; exact hP, hD⟩, hS.F ht⟩) hS.2.2 d_R_ord2_81
      · rw [if_neg c_3] at h
        refine lv_aload_n hx hb d_R_ord2_42 rfl (lv_at hl 0 rfl) ?_
        refine va_get (D := D) (ci := 1) (v := .long rb) (C := R_Reducer) (T := F_Reducer) (N := 7) hx hb htg i_Reducer hown hK hP 0 rfl rfl 1 (by decide) (htg _ tm_57) (fun _ h9 => h9) rfl d_R_ord2_43 ?_
        refine lv_lstore_n (lv' := [(1, .long rb), (0, .ref h0)]) hx hb d_R_ord2_46 rfl hl (by decide) rfl (fun ls hl => ?_)
        refine lv_aload_n hx hb d_R_ord2_47 rfl (lv_at hl 1 rfl) ?_
        refine lv_aload_n hx hb d_R_ord2_48 rfl (lv_at hl 1 rfl) ?_
        refine va_get (D := D) (ci := 1) (v := .long rc) (C := R_Reducer) (T := F_Reducer) (N := 7) hx hb htg i_Reducer hown hK hP 0 rfl rfl 2 (by decide) (htg _ tm_58) (fun _ h9 => h9) rfl d_R_ord2_49 ?_
        refine va_put (D := D) (ci := 1) (v := .long rc) (ty := .long) (C := R_Reducer) (T := F_Reducer) (N := 7) hx hb htg i_Reducer t_Reducer t_Reducer_ok n_Reducer hown hK hP hD hS 0 rfl rfl 1 (by decide) (htg _ tm_57) (fun _ h9 => h9) rfl (by decide +kernel) rfl rfl (Nat.le_of_ble_eq_true rfl) d_R_ord2_52 (fun H locs hP hD hS => ?_)
        have hP : va_P D classes ([(h0, .inr (1, [.long ra, .long rc, .long rc, .long rx, .long ry, .long rz, .int rs]))] ++ wt) H := hP
        have hD : va_D A ([(h0, .inr (1, [.long ra, .long rc, .long rc, .long rx, .long ry, .long rz, .int rs]))] ++ wt) := hD
        refine lv_aload_n hx hb d_R_ord2_55 rfl (lv_at hl 1 rfl) ?_
        refine lv_lload_n hx hb d_R_ord2_56 rfl (lv_at hl 0 rfl) ?_
        refine va_put (D := D) (ci := 1) (v := .long rb) (ty := .long) (C := R_Reducer) (T := F_Reducer) (N := 7) hx hb htg i_Reducer t_Reducer t_Reducer_ok n_Reducer hown hK hP hD hS 0 rfl rfl 2 (by decide) (htg _ tm_58) (fun _ h9 => h9) rfl (by decide +kernel) rfl rfl (Nat.le_of_ble_eq_true rfl) d_R_ord2_57 (fun H locs hP hD hS => ?_)
        have hP : va_P D classes ([(h0, .inr (1, [.long ra, .long rc, .long rb, .long rx, .long ry, .long rz, .int rs]))] ++ wt) H := hP
        have hD : va_D A ([(h0, .inr (1, [.long ra, .long rc, .long rb, .long rx, .long ry, .long rz, .int rs]))] ++ wt) := hD
        refine lv_aload_n hx hb d_R_ord2_60 rfl (lv_at hl 1 rfl) ?_
        refine va_get (D := D) (ci := 1) (v := .long ry) (C := R_Reducer) (T := F_Reducer) (N := 7) hx hb htg i_Reducer hown hK hP 0 rfl rfl 4 (by decide) (htg _ tm_60) (fun _ h9 => h9) rfl d_R_ord2_61 ?_
        refine lv_lstore_n (lv' := [(3, .long ry), (1, .long rb), (0, .ref h0)]) hx hb d_R_ord2_64 rfl hl (by decide) rfl (fun ls hl => ?_)
        refine lv_aload_n hx hb d_R_ord2_65 rfl (lv_at hl 2 rfl) ?_
        refine lv_aload_n hx hb d_R_ord2_66 rfl (lv_at hl 2 rfl) ?_
        refine va_get (D := D) (ci := 1) (v := .long rz) (C := R_Reducer) (T := F_Reducer) (N := 7) hx hb htg i_Reducer hown hK hP 0 rfl rfl 5 (by decide) (htg _ tm_61) (fun _ h9 => h9) rfl d_R_ord2_67 ?_
        refine va_put (D := D) (ci := 1) (v := .long rz) (ty := .long) (C := R_Reducer) (T := F_Reducer) (N := 7) hx hb htg i_Reducer t_Reducer t_Reducer_ok n_Reducer hown hK hP hD hS 0 rfl rfl 4 (by decide) (htg _ tm_60) (fun _ h9 => h9) rfl (by decide +kernel) rfl rfl (Nat.le_of_ble_eq_true rfl) d_R_ord2_70 (fun H locs hP hD hS => ?_)
        have hP : va_P D classes ([(h0, .inr (1, [.long ra, .long rc, .long rb, .long rx, .long rz, .long rz, .int rs]))] ++ wt) H := hP
        have hD : va_D A ([(h0, .inr (1, [.long ra, .long rc, .long rb, .long rx, .long rz, .long rz, .int rs]))] ++ wt) := hD
        refine lv_aload_n hx hb d_R_ord2_73 rfl (lv_at hl 2 rfl) ?_
        refine lv_lload_n hx hb d_R_ord2_74 rfl (lv_at hl 0 rfl) ?_
        refine va_put (D := D) (ci := 1) (v := .long ry) (ty := .long) (C := R_Reducer) (T := F_Reducer) (N := 7) hx hb htg i_Reducer t_Reducer t_Reducer_ok n_Reducer hown hK hP hD hS 0 rfl rfl 5 (by decide) (htg _ tm_61) (fun _ h9 => h9) rfl (by decide +kernel) rfl rfl (Nat.le_of_ble_eq_true rfl) d_R_ord2_75 (fun H locs hP hD hS => ?_)
        have hP : va_P D classes ([(h0, .inr (1, [.long ra, .long rc, .long rb, .long rx, .long rz, .long ry, .int rs]))] ++ wt) H := hP
        have hD : va_D A ([(h0, .inr (1, [.long ra, .long rc, .long rb, .long rx, .long rz, .long ry, .int rs]))] ++ wt) := hD
        refine lv_iconst (v := (1 : Int32)) hx hb d_R_ord2_78 (by decide) ?_
        exact W.zret (v := (1 : Int32)) (ty := .boolean) hx hb hr rfl (fun t ht hW => ⟨⟨(1 : Int32), (ra, rc, rb, rx, rz, ry, rs), rfl, h, by rw [ht]; exact hP, hD⟩, hS.F ht⟩) hS.2.2 d_R_ord2_79
-- CellBench$Reducer alignSigns ()V
def f_R_align (ra : Int64) (rb : Int64) (rc : Int64) (rx : Int64) (ry : Int64) (rz : Int64) (rs : Int32) : Int64 × Int64 × Int64 × Int64 × Int64 × Int64 × Int32 :=
    if (((f_Long_cmp rx (0 : Int64)) * (f_Long_cmp ry (0 : Int64))) * (f_Long_cmp rz (0 : Int64))) ≤ 0 then (ra, rb, rc, ((-1 : Int32).toInt64) * (if 0 < rx then rx else -rx), ((-1 : Int32).toInt64) * (if 0 < ry then ry else -ry), ((-1 : Int32).toInt64) * (if 0 < rz then rz else -rz), rs) else (ra, rb, rc, ((1 : Int32).toInt64) * (if 0 < rx then rx else -rx), ((1 : Int32).toInt64) * (if 0 < ry then ry else -ry), ((1 : Int32).toInt64) * (if 0 < rz then rz else -rz), rs)
def w_R_align : List Cond := .code y_R_align b_R_align 3 none :: GW
abbrev rm_R_align : Room := { frames := 1, cells := 0, slots := 0, locals := 23 }
theorem g_R_align : GoodIn GW w_R_align := gi tm_198
set_option maxHeartbeats 4000000 in
set_option maxRecDepth 100000 in
theorem c_R_align (l : Launch) (D : va_G) (ct : CT) (A : Nat → Prop) (wt : va_W)  (h0 : Nat) (ra : Int64) (rb : Int64) (rc : Int64) (rx : Int64) (ry : Int64) (rz : Int64) (rs : Int32)   (r0 : Int64 × Int64 × Int64 × Int64 × Int64 × Int64 × Int32) (h : f_R_align ra rb rc rx ry rz rs = r0) : Met l y_R_align w_R_align rm_R_align (va_Pc [.ref h0] (PreM D ct A ([(h0, .inr (1, [.long ra, .long rb, .long rc, .long rx, .long ry, .long rz, .int rs]))] ++ wt))) (va_Qv (fun u => u = r0) (fun (u : Int64 × Int64 × Int64 × Int64 × Int64 × Int64 × Int32) t => match u with | (ra', rb', rc', rx', ry', rz', rs') => va_P D classes ([(h0, .inr (1, [.long ra', .long rb', .long rc', .long rx', .long ry', .long rz', .int rs']))] ++ wt) t.heap ∧ va_D A ([(h0, .inr (1, [.long ra', .long rb', .long rc', .long rx', .long ry', .long rz', .int rs']))] ++ wt)) A) 0 0 A := by
  refine Met.ofW (cc := b_R_align) (maxL := 3) (ret := none) (by decide) rfl ?_
  intro p e s m args below meth c s₁ B hml hv
  obtain ⟨rfl, hA, hP, hD, hKK⟩ := hv
  have hx := B.exec
  have hb := B.bytes
  have hr := B.returns
  have htg := ht_tl (atoms_spec (ws := w_R_align) B.pre)
  have hown : s.vm.findClass R_Reducer = some m.cls := findClass_of_methodNamed B.named
  have hlocks := B.notSynchronized
  have hK := hKK.1
  have hN := hKK.2.1
  have hO := hKK.2.2
  have hS : va_S A s.heap s.heap [] := va_S.rf
  have hl := lv_entry ([.ref h0]) (n := 3) (Nat.le_of_ble_eq_true rfl)
  rw [lg_entry_eq]
  generalize (lg_sl ([.ref h0]) ++ List.replicate (3 - (lg_sl ([.ref h0])).length) Slot.unset).toArray = ls at hl ⊢
  have hl : lv_has ls 3 [(0, .ref h0)] := hl
  unfold f_R_align at h
  refine lv_aload_n hx hb d_R_align_0 rfl (lv_at hl 0 rfl) ?_
  refine va_get (D := D) (ci := 1) (v := .long rx) (C := R_Reducer) (T := F_Reducer) (N := 7) hx hb htg i_Reducer hown hK hP 0 rfl rfl 3 (by decide) (htg _ tm_59) (fun _ h9 => h9) rfl d_R_align_1 ?_
  refine lv_lconst (v := (0 : Int64)) hx hb d_R_align_4 (by decide) ?_
  refine vp_callSi (va_Run.run (va_runS (As := [.long rx, .long (0 : Int64)]) (rest := []) ⟨hx, hb, hml, hown, htg⟩ (c_Long_cmp l D ct ([(h0, .inr (1, [.long ra, .long rb, .long rc, .long rx, .long ry, .long rz, .int rs]))] ++ wt)  rx (0 : Int64)   _ rfl) ⟨callB_of 2 htg g_Long_cmp rfl rfl rfl (htg _ tm_37) (htg _ tm_199) (by decide +kernel) ⟨Nat.le_of_ble_eq_true rfl, Nat.le_of_ble_eq_true rfl⟩, (htg _ tm_200)⟩ (preS hP hKK) rfl rfl hl.1 rfl (lv_room (Nat.le_of_ble_eq_true rfl)) d_R_align_5 ⟨Nat.le_of_ble_eq_true rfl, Nat.le_of_ble_eq_true rfl⟩)) (fun r9 hr9 => ?_)
  have hr9 := hr9.symm
  subst hr9
  refine lv_aload_n hx hb d_R_align_8 rfl (lv_at hl 0 rfl) ?_
  refine va_get (D := D) (ci := 1) (v := .long ry) (C := R_Reducer) (T := F_Reducer) (N := 7) hx hb htg i_Reducer hown hK hP 0 rfl rfl 4 (by decide) (htg _ tm_60) (fun _ h9 => h9) rfl d_R_align_9 ?_
  refine lv_lconst (v := (0 : Int64)) hx hb d_R_align_12 (by decide) ?_
  refine vp_callSi (va_Run.run (va_runS (As := [.long ry, .long (0 : Int64)]) (rest := [.int (f_Long_cmp rx (0 : Int64))]) ⟨hx, hb, hml, hown, htg⟩ (c_Long_cmp l D ct ([(h0, .inr (1, [.long ra, .long rb, .long rc, .long rx, .long ry, .long rz, .int rs]))] ++ wt)  ry (0 : Int64)   _ rfl) ⟨callB_of 2 htg g_Long_cmp rfl rfl rfl (htg _ tm_37) (htg _ tm_199) (by decide +kernel) ⟨Nat.le_of_ble_eq_true rfl, Nat.le_of_ble_eq_true rfl⟩, (htg _ tm_200)⟩ (preS hP hKK) rfl rfl hl.1 rfl (lv_room (Nat.le_of_ble_eq_true rfl)) d_R_align_13 ⟨Nat.le_of_ble_eq_true rfl, Nat.le_of_ble_eq_true rfl⟩)) (fun r9 hr9 => ?_)
  have hr9 := hr9.symm
  subst hr9
  refine lv_imul hx hb d_R_align_16 ?_
  refine lv_aload_n hx hb d_R_align_17 rfl (lv_at hl 0 rfl) ?_
  refine va_get (D := D) (ci := 1) (v := .long rz) (C := R_Reducer) (T := F_Reducer) (N := 7) hx hb htg i_Reducer hown hK hP 0 rfl rfl 5 (by decide) (htg _ tm_61) (fun _ h9 => h9) rfl d_R_align_18 ?_
  refine lv_lconst (v := (0 : Int64)) hx hb d_R_align_21 (by decide) ?_
  refine vp_callSi (va_Run.run (va_runS (As := [.long rz, .long (0 : Int64)]) (rest := [.int ((f_Long_cmp rx (0 : Int64)) * (f_Long_cmp ry (0 : Int64)))]) ⟨hx, hb, hml, hown, htg⟩ (c_Long_cmp l D ct ([(h0, .inr (1, [.long ra, .long rb, .long rc, .long rx, .long ry, .long rz, .int rs]))] ++ wt)  rz (0 : Int64)   _ rfl) ⟨callB_of 2 htg g_Long_cmp rfl rfl rfl (htg _ tm_37) (htg _ tm_199) (by decide +kernel) ⟨Nat.le_of_ble_eq_true rfl, Nat.le_of_ble_eq_true rfl⟩, (htg _ tm_200)⟩ (preS hP hKK) rfl rfl hl.1 rfl (lv_room (Nat.le_of_ble_eq_true rfl)) d_R_align_22 ⟨Nat.le_of_ble_eq_true rfl, Nat.le_of_ble_eq_true rfl⟩)) (fun r9 hr9 => ?_)
  have hr9 := hr9.symm
  subst hr9
  refine lv_imul hx hb d_R_align_25 ?_
  refine lv_istore_n (lv' := [(1, .int (((f_Long_cmp rx (0 : Int64)) * (f_Long_cmp ry (0 : Int64))) * (f_Long_cmp rz (0 : Int64)))), (0, .ref h0)]) hx hb d_R_align_26 rfl hl (by decide) rfl (fun ls hl => ?_)
  refine lv_iload_n hx hb d_R_align_27 rfl (lv_at hl 0 rfl) ?_
  refine lv_if_le (tgt := 35) hx hb d_R_align_28 (by decide) (fun c_1 => ?_) (fun c_1 => ?_)
  · rw [if_pos c_1] at h
    refine lv_iconst (v := (-1 : Int32)) hx hb d_R_align_35 (by decide) ?_
    refine lv_istore_n (lv' := [(2, .int (-1 : Int32)), (1, .int (((f_Long_cmp rx (0 : Int64)) * (f_Long_cmp ry (0 : Int64))) * (f_Long_cmp rz (0 : Int64)))), (0, .ref h0)]) hx hb d_R_align_36 rfl hl (by decide) rfl (fun ls hl => ?_)
    refine lv_aload_n hx hb d_R_align_37 rfl (lv_at hl 2 rfl) ?_
    refine lv_iload_n hx hb d_R_align_38 rfl (lv_at hl 0 rfl) ?_
    refine lv_i2l hx hb d_R_align_39 rfl ?_
    refine lv_aload_n hx hb d_R_align_40 rfl (lv_at hl 2 rfl) ?_
    refine va_get (D := D) (ci := 1) (v := .long rx) (C := R_Reducer) (T := F_Reducer) (N := 7) hx hb htg i_Reducer hown hK hP 0 rfl rfl 3 (by decide) (htg _ tm_59) (fun _ h9 => h9) rfl d_R_align_41 ?_
    refine va_mabs_long hx hb (by rw [hml]; exact hl.1.symm) hown (htg _ tm_188) (htg _ tm_189) (htg _ tm_36) (htg _ tm_190) (Nat.le_of_ble_eq_true rfl) (Nat.le_of_ble_eq_true rfl) (Nat.le_of_ble_eq_true rfl) (Nat.le_of_ble_eq_true rfl) d_R_align_44 ?_
    refine lv_lmul hx hb d_R_align_47 ?_
    refine va_put (D := D) (ci := 1) (v := .long (((-1 : Int32).toInt64) * (if 0 < rx then rx else -rx))) (ty := .long) (C := R_Reducer) (T := F_Reducer) (N := 7) hx hb htg i_Reducer t_Reducer t_Reducer_ok n_Reducer hown hK hP hD hS 0 rfl rfl 3 (by decide) (htg _ tm_59) (fun _ h9 => h9) rfl (by decide +kernel) rfl rfl (Nat.le_of_ble_eq_true rfl) d_R_align_48 (fun H locs hP hD hS => ?_)
    have hP : va_P D classes ([(h0, .inr (1, [.long ra, .long rb, .long rc, .long (((-1 : Int32).toInt64) * (if 0 < rx then rx else -rx)), .long ry, .long rz, .int rs]))] ++ wt) H := hP
    have hD : va_D A ([(h0, .inr (1, [.long ra, .long rb, .long rc, .long (((-1 : Int32).toInt64) * (if 0 < rx then rx else -rx)), .long ry, .long rz, .int rs]))] ++ wt) := hD
    refine lv_aload_n hx hb d_R_align_51 rfl (lv_at hl 2 rfl) ?_
    refine lv_iload_n hx hb d_R_align_52 rfl (lv_at hl 0 rfl) ?_
    refine lv_i2l hx hb d_R_align_53 rfl ?_
    refine lv_aload_n hx hb d_R_align_54 rfl (lv_at hl 2 rfl) ?_
    refine va_get (D := D) (ci := 1) (v := .long ry) (C := R_Reducer) (T := F_Reducer) (N := 7) hx hb htg i_Reducer hown hK hP 0 rfl rfl 4 (by decide) (htg _ tm_60) (fun _ h9 => h9) rfl d_R_align_55 ?_
    refine va_mabs_long hx hb (by rw [hml]; exact hl.1.symm) hown (htg _ tm_188) (htg _ tm_189) (htg _ tm_36) (htg _ tm_190) (Nat.le_of_ble_eq_true rfl) (Nat.le_of_ble_eq_true rfl) (Nat.le_of_ble_eq_true rfl) (Nat.le_of_ble_eq_true rfl) d_R_align_58 ?_
    refine lv_lmul hx hb d_R_align_61 ?_
    refine va_put (D := D) (ci := 1) (v := .long (((-1 : Int32).toInt64) * (if 0 < ry then ry else -ry))) (ty := .long) (C := R_Reducer) (T := F_Reducer) (N := 7) hx hb htg i_Reducer t_Reducer t_Reducer_ok n_Reducer hown hK hP hD hS 0 rfl rfl 4 (by decide) (htg _ tm_60) (fun _ h9 => h9) rfl (by decide +kernel) rfl rfl (Nat.le_of_ble_eq_true rfl) d_R_align_62 (fun H locs hP hD hS => ?_)
    have hP : va_P D classes ([(h0, .inr (1, [.long ra, .long rb, .long rc, .long (((-1 : Int32).toInt64) * (if 0 < rx then rx else -rx)), .long (((-1 : Int32).toInt64) * (if 0 < ry then ry else -ry)), .long rz, .int rs]))] ++ wt) H := hP
    have hD : va_D A ([(h0, .inr (1, [.long ra, .long rb, .long rc, .long (((-1 : Int32).toInt64) * (if 0 < rx then rx else -rx)), .long (((-1 : Int32).toInt64) * (if 0 < ry then ry else -ry)), .long rz, .int rs]))] ++ wt) := hD
    refine lv_aload_n hx hb d_R_align_65 rfl (lv_at hl 2 rfl) ?_
    refine lv_iload_n hx hb d_R_align_66 rfl (lv_at hl 0 rfl) ?_
    refine lv_i2l hx hb d_R_align_67 rfl ?_
    refine lv_aload_n hx hb d_R_align_68 rfl (lv_at hl 2 rfl) ?_
    refine va_get (D := D) (ci := 1) (v := .long rz) (C := R_Reducer) (T := F_Reducer) (N := 7) hx hb htg i_Reducer hown hK hP 0 rfl rfl 5 (by decide) (htg _ tm_61) (fun _ h9 => h9) rfl d_R_align_69 ?_
    refine va_mabs_long hx hb (by rw [hml]; exact hl.1.symm) hown (htg _ tm_188) (htg _ tm_189) (htg _ tm_36) (htg _ tm_190) (Nat.le_of_ble_eq_true rfl) (Nat.le_of_ble_eq_true rfl) (Nat.le_of_ble_eq_true rfl) (Nat.le_of_ble_eq_true rfl) d_R_align_72 ?_
    refine lv_lmul hx hb d_R_align_75 ?_
    refine va_put (D := D) (ci := 1) (v := .long (((-1 : Int32).toInt64) * (if 0 < rz then rz else -rz))) (ty := .long) (C := R_Reducer) (T := F_Reducer) (N := 7) hx hb htg i_Reducer t_Reducer t_Reducer_ok n_Reducer hown hK hP hD hS 0 rfl rfl 5 (by decide) (htg _ tm_61) (fun _ h9 => h9) rfl (by decide +kernel) rfl rfl (Nat.le_of_ble_eq_true rfl) d_R_align_76 (fun H locs hP hD hS => ?_)
    have hP : va_P D classes ([(h0, .inr (1, [.long ra, .long rb, .long rc, .long (((-1 : Int32).toInt64) * (if 0 < rx then rx else -rx)), .long (((-1 : Int32).toInt64) * (if 0 < ry then ry else -ry)), .long (((-1 : Int32).toInt64) * (if 0 < rz then rz else -rz)), .int rs]))] ++ wt) H := hP
    have hD : va_D A ([(h0, .inr (1, [.long ra, .long rb, .long rc, .long (((-1 : Int32).toInt64) * (if 0 < rx then rx else -rx)), .long (((-1 : Int32).toInt64) * (if 0 < ry then ry else -ry)), .long (((-1 : Int32).toInt64) * (if 0 < rz then rz else -rz)), .int rs]))] ++ wt) := hD
    exact W.vret hx hb hr (fun t ht hW => ⟨⟨(ra, rb, rc, ((-1 : Int32).toInt64) * (if 0 < rx then rx else -rx), ((-1 : Int32).toInt64) * (if 0 < ry then ry else -ry), ((-1 : Int32).toInt64) * (if 0 < rz then rz else -rz), rs), rfl, h, by rw [ht]; exact hP, hD⟩, hS.F ht⟩) hS.2.2 d_R_align_79
  · rw [if_neg c_1] at h
    refine lv_iconst (v := (1 : Int32)) hx hb d_R_align_31 (by decide) ?_
    refine lv_goto (tgt := 36) hx hb d_R_align_32 (by decide) ?_
    refine lv_istore_n (lv' := [(2, .int (1 : Int32)), (1, .int (((f_Long_cmp rx (0 : Int64)) * (f_Long_cmp ry (0 : Int64))) * (f_Long_cmp rz (0 : Int64)))), (0, .ref h0)]) hx hb d_R_align_36 rfl hl (by decide) rfl (fun ls hl => ?_)
    refine lv_aload_n hx hb d_R_align_37 rfl (lv_at hl 2 rfl) ?_
    refine lv_iload_n hx hb d_R_align_38 rfl (lv_at hl 0 rfl) ?_
    refine lv_i2l hx hb d_R_align_39 rfl ?_
    refine lv_aload_n hx hb d_R_align_40 rfl (lv_at hl 2 rfl) ?_
    refine va_get (D := D) (ci := 1) (v := .long rx) (C := R_Reducer) (T := F_Reducer) (N := 7) hx hb htg i_Reducer hown hK hP 0 rfl rfl 3 (by decide) (htg _ tm_59) (fun _ h9 => h9) rfl d_R_align_41 ?_
    refine va_mabs_long hx hb (by rw [hml]; exact hl.1.symm) hown (htg _ tm_188) (htg _ tm_189) (htg _ tm_36) (htg _ tm_190) (Nat.le_of_ble_eq_true rfl) (Nat.le_of_ble_eq_true rfl) (Nat.le_of_ble_eq_true rfl) (Nat.le_of_ble_eq_true rfl) d_R_align_44 ?_
    refine lv_lmul hx hb d_R_align_47 ?_
    refine va_put (D := D) (ci := 1) (v := .long (((1 : Int32).toInt64) * (if 0 < rx then rx else -rx))) (ty := .long) (C := R_Reducer) (T := F_Reducer) (N := 7) hx hb htg i_Reducer t_Reducer t_Reducer_ok n_Reducer hown hK hP hD hS 0 rfl rfl 3 (by decide) (htg _ tm_59) (fun _ h9 => h9) rfl (by decide +kernel) rfl rfl (Nat.le_of_ble_eq_true rfl) d_R_align_48 (fun H locs hP hD hS => ?_)
    have hP : va_P D classes ([(h0, .inr (1, [.long ra, .long rb, .long rc, .long (((1 : Int32).toInt64) * (if 0 < rx then rx else -rx)), .long ry, .long rz, .int rs]))] ++ wt) H := hP
    have hD : va_D A ([(h0, .inr (1, [.long ra, .long rb, .long rc, .long (((1 : Int32).toInt64) * (if 0 < rx then rx else -rx)), .long ry, .long rz, .int rs]))] ++ wt) := hD
    refine lv_aload_n hx hb d_R_align_51 rfl (lv_at hl 2 rfl) ?_
    refine lv_iload_n hx hb d_R_align_52 rfl (lv_at hl 0 rfl) ?_
    refine lv_i2l hx hb d_R_align_53 rfl ?_
    refine lv_aload_n hx hb d_R_align_54 rfl (lv_at hl 2 rfl) ?_
    refine va_get (D := D) (ci := 1) (v := .long ry) (C := R_Reducer) (T := F_Reducer) (N := 7) hx hb htg i_Reducer hown hK hP 0 rfl rfl 4 (by decide) (htg _ tm_60) (fun _ h9 => h9) rfl d_R_align_55 ?_
    refine va_mabs_long hx hb (by rw [hml]; exact hl.1.symm) hown (htg _ tm_188) (htg _ tm_189) (htg _ tm_36) (htg _ tm_190) (Nat.le_of_ble_eq_true rfl) (Nat.le_of_ble_eq_true rfl) (Nat.le_of_ble_eq_true rfl) (Nat.le_of_ble_eq_true rfl) d_R_align_58 ?_
    refine lv_lmul hx hb d_R_align_61 ?_
    refine va_put (D := D) (ci := 1) (v := .long (((1 : Int32).toInt64) * (if 0 < ry then ry else -ry))) (ty := .long) (C := R_Reducer) (T := F_Reducer) (N := 7) hx hb htg i_Reducer t_Reducer t_Reducer_ok n_Reducer hown hK hP hD hS 0 rfl rfl 4 (by decide) (htg _ tm_60) (fun _ h9 => h9) rfl (by decide +kernel) rfl rfl (Nat.le_of_ble_eq_true rfl) d_R_align_62 (fun H locs hP hD hS => ?_)
    have hP : va_P D classes ([(h0, .inr (1, [.long ra, .long rb, .long rc, .long (((1 : Int32).toInt64) * (if 0 < rx then rx else -rx)), .long (((1 : Int32).toInt64) * (if 0 < ry then ry else -ry)), .long rz, .int rs]))] ++ wt) H := hP
    have hD : va_D A ([(h0, .inr (1, [.long ra, .long rb, .long rc, .long (((1 : Int32).toInt64) * (if 0 < rx then rx else -rx)), .long (((1 : Int32).toInt64) * (if 0 < ry then ry else -ry)), .long rz, .int rs]))] ++ wt) := hD
    refine lv_aload_n hx hb d_R_align_65 rfl (lv_at hl 2 rfl) ?_
    refine lv_iload_n hx hb d_R_align_66 rfl (lv_at hl 0 rfl) ?_
    refine lv_i2l hx hb d_R_align_67 rfl ?_
    refine lv_aload_n hx hb d_R_align_68 rfl (lv_at hl 2 rfl) ?_
    refine va_get (D := D) (ci := 1) (v := .long rz) (C := R_Reducer) (T := F_Reducer) (N := 7) hx hb htg i_Reducer hown hK hP 0 rfl rfl 5 (by decide) (htg _ tm_61) (fun _ h9 => h9) rfl d_R_align_69 ?_
    refine va_mabs_long hx hb (by rw [hml]; exact hl.1.symm) hown (htg _ tm_188) (htg _ tm_189) (htg _ tm_36) (htg _ tm_190) (Nat.le_of_ble_eq_true rfl) (Nat.le_of_ble_eq_true rfl) (Nat.le_of_ble_eq_true rfl) (Nat.le_of_ble_eq_true rfl) d_R_align_72 ?_
    refine lv_lmul hx hb d_R_align_75 ?_
    refine va_put (D := D) (ci := 1) (v := .long (((1 : Int32).toInt64) * (if 0 < rz then rz else -rz))) (ty := .long) (C := R_Reducer) (T := F_Reducer) (N := 7) hx hb htg i_Reducer t_Reducer t_Reducer_ok n_Reducer hown hK hP hD hS 0 rfl rfl 5 (by decide) (htg _ tm_61) (fun _ h9 => h9) rfl (by decide +kernel) rfl rfl (Nat.le_of_ble_eq_true rfl) d_R_align_76 (fun H locs hP hD hS => ?_)
    have hP : va_P D classes ([(h0, .inr (1, [.long ra, .long rb, .long rc, .long (((1 : Int32).toInt64) * (if 0 < rx then rx else -rx)), .long (((1 : Int32).toInt64) * (if 0 < ry then ry else -ry)), .long (((1 : Int32).toInt64) * (if 0 < rz then rz else -rz)), .int rs]))] ++ wt) H := hP
    have hD : va_D A ([(h0, .inr (1, [.long ra, .long rb, .long rc, .long (((1 : Int32).toInt64) * (if 0 < rx then rx else -rx)), .long (((1 : Int32).toInt64) * (if 0 < ry then ry else -ry)), .long (((1 : Int32).toInt64) * (if 0 < rz then rz else -rz)), .int rs]))] ++ wt) := hD
    exact W.vret hx hb hr (fun t ht hW => ⟨⟨(ra, rb, rc, ((1 : Int32).toInt64) * (if 0 < rx then rx else -rx), ((1 : Int32).toInt64) * (if 0 < ry then ry else -ry), ((1 : Int32).toInt64) * (if 0 < rz then rz else -rz), rs), rfl, h, by rw [ht]; exact hP, hD⟩, hS.F ht⟩) hS.2.2 d_R_align_79
