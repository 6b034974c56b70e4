-- CellBench$Reducer shearByX ()Z
def f_R_shX (ra : Int64) (rb : Int64) (rc : Int64) (rx : Int64) (ry : Int64) (rz : Int64) (rs : Int32) : Int32 × Int64 × Int64 × Int64 × Int64 × Int64 × Int64 × Int32 :=
    if 0 < (lg_cmp (if 0 < rx then rx else -rx) rb) then (if (lg_cmp rx (0 : Int64)) ≤ 0 then ((1 : Int32), ra, rb, (rb + rc) - (((-1 : Int32).toInt64) * rx), rx - ((((2 : Int32) * (-1 : Int32)).toInt64) * rb), ry - (((-1 : Int32).toInt64) * rz), rz, rs) else ((1 : Int32), ra, rb, (rb + rc) - (((1 : Int32).toInt64) * rx), rx - ((((2 : Int32) * (1 : Int32)).toInt64) * rb), ry - (((1 : Int32).toInt64) * rz), rz, rs)) else (if (lg_cmp rx rb) = 0 then (if (lg_cmp ((2 : Int64) * ry) rz) < 0 then (if (lg_cmp rx (0 : Int64)) ≤ 0 then ((1 : Int32), ra, rb, (rb + rc) - (((-1 : Int32).toInt64) * rx), rx - ((((2 : Int32) * (-1 : Int32)).toInt64) * rb), ry - (((-1 : Int32).toInt64) * rz), rz, rs) else ((1 : Int32), ra, rb, (rb + rc) - (((1 : Int32).toInt64) * rx), rx - ((((2 : Int32) * (1 : Int32)).toInt64) * rb), ry - (((1 : Int32).toInt64) * rz), rz, rs)) else (if (lg_cmp rx (-rb)) = 0 then (if 0 ≤ (lg_cmp rz (0 : Int64)) then ((0 : Int32), ra, rb, rc, rx, ry, rz, rs) else (if (lg_cmp rx (0 : Int64)) ≤ 0 then ((1 : Int32), ra, rb, (rb + rc) - (((-1 : Int32).toInt64) * rx), rx - ((((2 : Int32) * (-1 : Int32)).toInt64) * rb), ry - (((-1 : Int32).toInt64) * rz), rz, rs) else ((1 : Int32), ra, rb, (rb + rc) - (((1 : Int32).toInt64) * rx), rx - ((((2 : Int32) * (1 : Int32)).toInt64) * rb), ry - (((1 : Int32).toInt64) * rz), rz, rs))) else ((0 : Int32), ra, rb, rc, rx, ry, rz, rs))) else (if (lg_cmp rx (-rb)) = 0 then (if 0 ≤ (lg_cmp rz (0 : Int64)) then ((0 : Int32), ra, rb, rc, rx, ry, rz, rs) else (if (lg_cmp rx (0 : Int64)) ≤ 0 then ((1 : Int32), ra, rb, (rb + rc) - (((-1 : Int32).toInt64) * rx), rx - ((((2 : Int32) * (-1 : Int32)).toInt64) * rb), ry - (((-1 : Int32).toInt64) * rz), rz, rs) else ((1 : Int32), ra, rb, (rb + rc) - (((1 : Int32).toInt64) * rx), rx - ((((2 : Int32) * (1 : Int32)).toInt64) * rb), ry - (((1 : Int32).toInt64) * rz), rz, rs))) else ((0 : Int32), ra, rb, rc, rx, ry, rz, rs)))
def w_R_shX : List Cond := .code y_R_shX b_R_shX 2 (some .boolean) :: GW
abbrev rm_R_shX : Room := { frames := 1, cells := 0, slots := 0, locals := 13 }
theorem g_R_shX : GoodIn GW w_R_shX := gi tm_205
set_option maxHeartbeats 4000000 in
set_option maxRecDepth 100000 in
theorem c_R_shX (l : Launch) (D : va_G) (ct : CT) (A : Nat → Prop) (wt : va_W)  (h0 : Nat) (ra : Int64) (rb : Int64) (rc : Int64) (rx : Int64) (ry : Int64) (rz : Int64) (rs : Int32)   (r0 : Int32 × Int64 × Int64 × Int64 × Int64 × Int64 × Int64 × Int32) (h : f_R_shX ra rb rc rx ry rz rs = r0) : Met l y_R_shX w_R_shX rm_R_shX (va_Pc [.ref h0] (PreM D ct A ([(h0, .inr (1, [.long ra, .long rb, .long rc, .long rx, .long ry, .long rz, .int rs]))] ++ wt))) (va_Qi (fun r u => (r, u) = r0) (fun (u : Int64 × Int64 × Int64 × Int64 × Int64 × Int64 × Int32) t => match u with | (ra', rb', rc', rx', ry', rz', rs') => va_P D classes ([(h0, .inr (1, [.long ra', .long rb', .long rc', .long rx', .long ry', .long rz', .int rs']))] ++ wt) t.heap ∧ va_D A ([(h0, .inr (1, [.long ra', .long rb', .long rc', .long rx', .long ry', .long rz', .int rs']))] ++ wt)) A) 0 0 A := by
  refine Met.ofW (cc := b_R_shX) (maxL := 2) (ret := (some .boolean)) (by decide) rfl ?_
  intro p e s m args below meth c s₁ B hml hv
  obtain ⟨rfl, hA, hP, hD, hKK⟩ := hv
  have hx := B.exec
  have hb := B.bytes
  have hr := B.returns
  have htg := ht_tl (atoms_spec (ws := w_R_shX) B.pre)
  have hown : s.vm.findClass R_Reducer = some m.cls := findClass_of_methodNamed B.named
  have hlocks := B.notSynchronized
  have hK := hKK.1
  have hN := hKK.2.1
  have hO := hKK.2.2
  have hS : va_S A s.heap s.heap [] := va_S.rf
  have hl := lv_entry ([.ref h0]) (n := 2) (Nat.le_of_ble_eq_true rfl)
  rw [lg_entry_eq]
  generalize (lg_sl ([.ref h0]) ++ List.replicate (2 - (lg_sl ([.ref h0])).length) Slot.unset).toArray = ls at hl ⊢
  have hl : lv_has ls 2 [(0, .ref h0)] := hl
  unfold f_R_shX at h
  refine lv_aload_n hx hb d_R_shX_0 rfl (lv_at hl 0 rfl) ?_
  refine va_get (D := D) (ci := 1) (v := .long rx) (C := R_Reducer) (T := F_Reducer) (N := 7) hx hb htg i_Reducer hown hK hP 0 rfl rfl 3 (by decide) (htg _ tm_59) (fun _ h9 => h9) rfl d_R_shX_1 ?_
  refine va_mabs_long hx hb (by rw [hml]; exact hl.1.symm) hown (htg _ tm_188) (htg _ tm_189) (htg _ tm_36) (htg _ tm_190) (Nat.le_of_ble_eq_true rfl) (Nat.le_of_ble_eq_true rfl) (Nat.le_of_ble_eq_true rfl) (Nat.le_of_ble_eq_true rfl) d_R_shX_4 ?_
  refine lv_aload_n hx hb d_R_shX_7 rfl (lv_at hl 0 rfl) ?_
  refine va_get (D := D) (ci := 1) (v := .long rb) (C := R_Reducer) (T := F_Reducer) (N := 7) hx hb htg i_Reducer hown hK hP 0 rfl rfl 1 (by decide) (htg _ tm_57) (fun _ h9 => h9) rfl d_R_shX_8 ?_
  refine W.lcmp hx hb d_R_shX_11 ?_
  refine lv_if_gt (tgt := 65) hx hb d_R_shX_12 (by decide) (fun c_1 => ?_) (fun c_1 => ?_)
  · rw [if_pos c_1] at h
    refine lv_aload_n hx hb d_R_shX_65 rfl (lv_at hl 0 rfl) ?_
    refine va_get (D := D) (ci := 1) (v := .long rx) (C := R_Reducer) (T := F_Reducer) (N := 7) hx hb htg i_Reducer hown hK hP 0 rfl rfl 3 (by decide) (htg _ tm_59) (fun _ h9 => h9) rfl d_R_shX_66 ?_
    refine lv_lconst (v := (0 : Int64)) hx hb d_R_shX_69 (by decide) ?_
    refine W.lcmp hx hb d_R_shX_70 ?_
    refine lv_if_le (tgt := 78) hx hb d_R_shX_71 (by decide) (fun c_2 => ?_) (fun c_2 => ?_)
    · rw [if_pos c_2] at h
      refine lv_iconst (v := (-1 : Int32)) hx hb d_R_shX_78 (by decide) ?_
      refine lv_istore_n (lv' := [(1, .int (-1 : Int32)), (0, .ref h0)]) hx hb d_R_shX_79 rfl hl (by decide) rfl (fun ls hl => ?_)
      refine lv_aload_n hx hb d_R_shX_80 rfl (lv_at hl 1 rfl) ?_
      refine lv_aload_n hx hb d_R_shX_81 rfl (lv_at hl 1 rfl) ?_
      refine va_get (D := D) (ci := 1) (v := .long rb) (C := R_Reducer) (T := F_Reducer) (N := 7) hx hb htg i_Reducer hown hK hP 0 rfl rfl 1 (by decide) (htg _ tm_57) (fun _ h9 => h9) rfl d_R_shX_82 ?_
      refine lv_aload_n hx hb d_R_shX_85 rfl (lv_at hl 1 rfl) ?_
      refine va_get (D := D) (ci := 1) (v := .long rc) (C := R_Reducer) (T := F_Reducer) (N := 7) hx hb htg i_Reducer hown hK hP 0 rfl rfl 2 (by decide) (htg _ tm_58) (fun _ h9 => h9) rfl d_R_shX_86 ?_
      refine lv_ladd hx hb d_R_shX_89 ?_
      refine lv_iload_n hx hb d_R_shX_90 rfl (lv_at hl 0 rfl) ?_
      refine lv_i2l hx hb d_R_shX_91 rfl ?_
      refine lv_aload_n hx hb d_R_shX_92 rfl (lv_at hl 1 rfl) ?_
      refine va_get (D := D) (ci := 1) (v := .long rx) (C := R_Reducer) (T := F_Reducer) (N := 7) hx hb htg i_Reducer hown hK hP 0 rfl rfl 3 (by decide) (htg _ tm_59) (fun _ h9 => h9) rfl d_R_shX_93 ?_
      refine lv_lmul hx hb d_R_shX_96 ?_
      refine lv_lsub hx hb d_R_shX_97 ?_
      refine va_put (D := D) (ci := 1) (v := .long ((rb + rc) - (((-1 : Int32).toInt64) * rx))) (ty := .long) (C := R_Reducer) (T := F_Reducer) (N := 7) hx hb htg i_Reducer t_Reducer t_Reducer_ok n_Reducer hown hK hP hD hS 0 rfl rfl 2 (by decide) (htg _ tm_58) (fun _ h9 => h9) rfl (by decide +kernel) rfl rfl (Nat.le_of_ble_eq_true rfl) d_R_shX_98 (fun H locs hP hD hS => ?_)
      have hP : va_P D classes ([(h0, .inr (1, [.long ra, .long rb, .long ((rb + rc) - (((-1 : Int32).toInt64) * rx)), .long rx, .long ry, .long rz, .int rs]))] ++ wt) H := hP
      have hD : va_D A ([(h0, .inr (1, [.long ra, .long rb, .long ((rb + rc) - (((-1 : Int32).toInt64) * rx)), .long rx, .long ry, .long rz, .int rs]))] ++ wt) := hD
      refine lv_aload_n hx hb d_R_shX_101 rfl (lv_at hl 1 rfl) ?_
      refine lv_aload_n hx hb d_R_shX_102 rfl (lv_at hl 1 rfl) ?_
      refine va_get (D := D) (ci := 1) (v := .long ry) (C := R_Reducer) (T := F_Reducer) (N := 7) hx hb htg i_Reducer hown hK hP 0 rfl rfl 4 (by decide) (htg _ tm_60) (fun _ h9 => h9) rfl d_R_shX_103 ?_
      refine lv_iload_n hx hb d_R_shX_106 rfl (lv_at hl 0 rfl) ?_
      refine lv_i2l hx hb d_R_shX_107 rfl ?_
      refine lv_aload_n hx hb d_R_shX_108 rfl (lv_at hl 1 rfl) ?_
      refine va_get (D := D) (ci := 1) (v := .long rz) (C := R_Reducer) (T := F_Reducer) (N := 7) hx hb htg i_Reducer hown hK hP 0 rfl rfl 5 (by decide) (htg _ tm_61) (fun _ h9 => h9) rfl d_R_shX_109 ?_
      refine lv_lmul hx hb d_R_shX_112 ?_
      refine lv_lsub hx hb d_R_shX_113 ?_
      refine va_put (D := D) (ci := 1) (v := .long (ry - (((-1 : Int32).toInt64) * rz))) (ty := .long) (C := R_Reducer) (T := F_Reducer) (N := 7) hx hb htg i_Reducer t_Reducer t_Reducer_ok n_Reducer hown hK hP hD hS 0 rfl rfl 4 (by decide) (htg _ tm_60) (fun _ h9 => h9) rfl (by decide +kernel) rfl rfl (Nat.le_of_ble_eq_true rfl) d_R_shX_114 (fun H locs hP hD hS => ?_)
      have hP : va_P D classes ([(h0, .inr (1, [.long ra, .long rb, .long ((rb + rc) - (((-1 : Int32).toInt64) * rx)), .long rx, .long (ry - (((-1 : Int32).toInt64) * rz)), .long rz, .int rs]))] ++ wt) H := hP
      have hD : va_D A ([(h0, .inr (1, [.long ra, .long rb, .long ((rb + rc) - (((-1 : Int32).toInt64) * rx)), .long rx, .long (ry - (((-1 : Int32).toInt64) * rz)), .long rz, .int rs]))] ++ wt) := hD
      refine lv_aload_n hx hb d_R_shX_117 rfl (lv_at hl 1 rfl) ?_
      refine lv_aload_n hx hb d_R_shX_118 rfl (lv_at hl 1 rfl) ?_
      refine va_get (D := D) (ci := 1) (v := .long rx) (C := R_Reducer) (T := F_Reducer) (N := 7) hx hb htg i_Reducer hown hK hP 0 rfl rfl 3 (by decide) (htg _ tm_59) (fun _ h9 => h9) rfl d_R_shX_119 ?_
      refine lv_iconst (v := (2 : Int32)) hx hb d_R_shX_122 (by decide) ?_
      refine lv_iload_n hx hb d_R_shX_123 rfl (lv_at hl 0 rfl) ?_
      refine lv_imul hx hb d_R_shX_124 ?_
      refine lv_i2l hx hb d_R_shX_125 rfl ?_
      refine lv_aload_n hx hb d_R_shX_126 rfl (lv_at hl 1 rfl) ?_
      refine va_get (D := D) (ci := 1) (v := .long rb) (C := R_Reducer) (T := F_Reducer) (N := 7) hx hb htg i_Reducer hown hK hP 0 rfl rfl 1 (by decide) (htg _ tm_57) (fun _ h9 => h9) rfl d_R_shX_127 ?_
      refine lv_lmul hx hb d_R_shX_130 ?_
      refine lv_lsub hx hb d_R_shX_131 ?_
      refine va_put (D := D) (ci := 1) (v := .long (rx - ((((2 : Int32) * (-1 : Int32)).toInt64) * rb))) (ty := .long) (C := R_Reducer) (T := F_Reducer) (N := 7) hx hb htg i_Reducer t_Reducer t_Reducer_ok n_Reducer hown hK hP hD hS 0 rfl rfl 3 (by decide) (htg _ tm_59) (fun _ h9 => h9) rfl (by decide +kernel) rfl rfl (Nat.le_of_ble_eq_true rfl) d_R_shX_132 (fun H locs hP hD hS => ?_)
      have hP : va_P D classes ([(h0, .inr (1, [.long ra, .long rb, .long ((rb + rc) - (((-1 : Int32).toInt64) * rx)), .long (rx - ((((2 : Int32) * (-1 : Int32)).toInt64) * rb)), .long (ry - (((-1 : Int32).toInt64) * rz)), .long rz, .int rs]))] ++ wt) H := hP
      have hD : va_D A ([(h0, .inr (1, [.long ra, .long rb, .long ((rb + rc) - (((-1 : Int32).toInt64) * rx)), .long (rx - ((((2 : Int32) * (-1 : Int32)).toInt64) * rb)), .long (ry - (((-1 : Int32).toInt64) * rz)), .long rz, .int rs]))] ++ wt) := hD
      refine lv_iconst (v := (1 : Int32)) hx hb d_R_shX_135 (by decide) ?_
      exact W.zret (v := (1 : Int32)) (ty := .boolean) hx hb hr rfl (fun t ht hW => ⟨⟨(1 : Int32), (ra, rb, (rb + rc) - (((-1 : Int32).toInt64) * rx), rx - ((((2 : Int32) * (-1 : Int32)).toInt64) * rb), ry - (((-1 : Int32).toInt64) * rz), rz, rs), rfl, h, by rw [ht]; exact hP, hD⟩, hS.F ht⟩) hS.2.2 d_R_shX_136
    · rw [if_neg c_2] at h
      refine lv_iconst (v := (1 : Int32)) hx hb d_R_shX_74 (by decide) ?_
      refine lv_goto (tgt := 79) hx hb d_R_shX_75 (by decide) ?_
      refine lv_istore_n (lv' := [(1, .int (1 : Int32)), (0, .ref h0)]) hx hb d_R_shX_79 rfl hl (by decide) rfl (fun ls hl => ?_)
      refine lv_aload_n hx hb d_R_shX_80 rfl (lv_at hl 1 rfl) ?_
      refine lv_aload_n hx hb d_R_shX_81 rfl (lv_at hl 1 rfl) ?_
      refine va_get (D := D) (ci := 1) (v := .long rb) (C := R_Reducer) (T := F_Reducer) (N := 7) hx hb htg i_Reducer hown hK hP 0 rfl rfl 1 (by decide) (htg _ tm_57) (fun _ h9 => h9) rfl d_R_shX_82 ?_
      refine lv_aload_n hx hb d_R_shX_85 rfl (lv_at hl 1 rfl) ?_
      refine va_get (D := D) (ci := 1) (v := .long rc) (C := R_Reducer) (T := F_Reducer) (N := 7) hx hb htg i_Reducer hown hK hP 0 rfl rfl 2 (by decide) (htg _ tm_58) (fun _ h9 => h9) rfl d_R_shX_86 ?_
      refine lv_ladd hx hb d_R_shX_89 ?_
      refine lv_iload_n hx hb d_R_shX_90 rfl (lv_at hl 0 rfl) ?_
      refine lv_i2l hx hb d_R_shX_91 rfl ?_
      refine lv_aload_n hx hb d_R_shX_92 rfl (lv_at hl 1 rfl) ?_
      refine va_get (D := D) (ci := 1) (v := .long rx) (C := R_Reducer) (T := F_Reducer) (N := 7) hx hb htg i_Reducer hown hK hP 0 rfl rfl 3 (by decide) (htg _ tm_59) (fun _ h9 => h9) rfl d_R_shX_93 ?_
      refine lv_lmul hx hb d_R_shX_96 ?_
      refine lv_lsub hx hb d_R_shX_97 ?_
      refine va_put (D := D) (ci := 1) (v := .long ((rb + rc) - (((1 : Int32).toInt64) * rx))) (ty := .long) (C := R_Reducer) (T := F_Reducer) (N := 7) hx hb htg i_Reducer t_Reducer t_Reducer_ok n_Reducer hown hK hP hD hS 0 rfl rfl 2 (by decide) (htg _ tm_58) (fun _ h9 => h9) rfl (by decide +kernel) rfl rfl (Nat.le_of_ble_eq_true rfl) d_R_shX_98 (fun H locs hP hD hS => ?_)
      have hP : va_P D classes ([(h0, .inr (1, [.long ra, .long rb, .long ((rb + rc) - (((1 : Int32).toInt64) * rx)), .long rx, .long ry, .long rz, .int rs]))] ++ wt) H := hP
      have hD : va_D A ([(h0, .inr (1, [.long ra, .long rb, .long ((rb + rc) - (((1 : Int32).toInt64) * rx)), .long rx, .long ry, .long rz, .int rs]))] ++ wt) := hD
      refine lv_aload_n hx hb d_R_shX_101 rfl (lv_at hl 1 rfl) ?_
      refine lv_aload_n hx hb d_R_shX_102 rfl (lv_at hl 1 rfl) ?_
      refine va_get (D := D) (ci := 1) (v := .long ry) (C := R_Reducer) (T := F_Reducer) (N := 7) hx hb htg i_Reducer hown hK hP 0 rfl rfl 4 (by decide) (htg _ tm_60) (fun _ h9 => h9) rfl d_R_shX_103 ?_
      refine lv_iload_n hx hb d_R_shX_106 rfl (lv_at hl 0 rfl) ?_
      refine lv_i2l hx hb d_R_shX_107 rfl ?_
      refine lv_aload_n hx hb d_R_shX_108 rfl (lv_at hl 1 rfl) ?_
      refine va_get (D := D) (ci := 1) (v := .long rz) (C := R_Reducer) (T := F_Reducer) (N := 7) hx hb htg i_Reducer hown hK hP 0 rfl rfl 5 (by decide) (htg _ tm_61) (fun _ h9 => h9) rfl d_R_shX_109 ?_
      refine lv_lmul hx hb d_R_shX_112 ?_
      refine lv_lsub hx hb d_R_shX_113 ?_
      refine va_put (D := D) (ci := 1) (v := .long (ry - (((1 : Int32).toInt64) * rz))) (ty := .long) (C := R_Reducer) (T := F_Reducer) (N := 7) hx hb htg i_Reducer t_Reducer t_Reducer_ok n_Reducer hown hK hP hD hS 0 rfl rfl 4 (by decide) (htg _ tm_60) (fun _ h9 => h9) rfl (by decide +kernel) rfl rfl (Nat.le_of_ble_eq_true rfl) d_R_shX_114 (fun H locs hP hD hS => ?_)
      have hP : va_P D classes ([(h0, .inr (1, [.long ra, .long rb, .long ((rb + rc) - (((1 : Int32).toInt64) * rx)), .long rx, .long (ry - (((1 : Int32).toInt64) * rz)), .long rz, .int rs]))] ++ wt) H := hP
      have hD : va_D A ([(h0, .inr (1, [.long ra, .long rb, .long ((rb + rc) - (((1 : Int32).toInt64) * rx)), .long rx, .long (ry - (((1 : Int32).toInt64) * rz)), .long rz, .int rs]))] ++ wt) := hD
      refine lv_aload_n hx hb d_R_shX_117 rfl (lv_at hl 1 rfl) ?_
      refine lv_aload_n hx hb d_R_shX_118 rfl (lv_at hl 1 rfl) ?_
      refine va_get (D := D) (ci := 1) (v := .long rx) (C := R_Reducer) (T := F_Reducer) (N := 7) hx hb htg i_Reducer hown hK hP 0 rfl rfl 3 (by decide) (htg _ tm_59) (fun _ h9 => h9) rfl d_R_shX_119 ?_
      refine lv_iconst (v := (2 : Int32)) hx hb d_R_shX_122 (by decide) ?_
      refine lv_iload_n hx hb d_R_shX_123 rfl (lv_at hl 0 rfl) ?_
      refine lv_imul hx hb d_R_shX_124 ?_
      refine lv_i2l hx hb d_R_shX_125 rfl ?_
      refine lv_aload_n hx hb d_R_shX_126 rfl (lv_at hl 1 rfl) ?_
      refine va_get (D := D) (ci := 1) (v := .long rb) (C := R_Reducer) (T := F_Reducer) (N := 7) hx hb htg i_Reducer hown hK hP 0 rfl rfl 1 (by decide) (htg _ tm_57) (fun _ h9 => h9) rfl d_R_shX_127 ?_
      refine lv_lmul hx hb d_R_shX_130 ?_
      refine lv_lsub hx hb d_R_shX_131 ?_
      refine va_put (D := D) (ci := 1) (v := .long (rx - ((((2 : Int32) * (1 : Int32)).toInt64) * rb))) (ty := .long) (C := R_Reducer) (T := F_Reducer) (N := 7) hx hb htg i_Reducer t_Reducer t_Reducer_ok n_Reducer hown hK hP hD hS 0 rfl rfl 3 (by decide) (htg _ tm_59) (fun _ h9 => h9) rfl (by decide +kernel) rfl rfl (Nat.le_of_ble_eq_true rfl) d_R_shX_132 (fun H locs hP hD hS => ?_)
      have hP : va_P D classes ([(h0, .inr (1, [.long ra, .long rb, .long ((rb + rc) - (((1 : Int32).toInt64) * rx)), .long (rx - ((((2 : Int32) * (1 : Int32)).toInt64) * rb)), .long (ry - (((1 : Int32).toInt64) * rz)), .long rz, .int rs]))] ++ wt) H := hP
      have hD : va_D A ([(h0, .inr (1, [.long ra, .long rb, .long ((rb + rc) - (((1 : Int32).toInt64) * rx)), .long (rx - ((((2 : Int32) * (1 : Int32)).toInt64) * rb)), .long (ry - (((1 : Int32).toInt64) * rz)), .long rz, .int rs]))] ++ wt) := hD
      refine lv_iconst (v := (1 : Int32)) hx hb d_R_shX_135 (by decide) ?_
      exact W.zret (v := (1 : Int32)) (ty := .boolean) hx hb hr rfl (fun t ht hW => ⟨⟨(1 : Int32), (ra, rb, (rb + rc) - (((1 : Int32).toInt64) * rx), rx - ((((2 : Int32) * (1 : Int32)).toInt64) * rb), ry - (((1 : Int32).toInt64) * rz), rz, rs), rfl, h, by rw [ht]; exact hP, hD⟩, hS.F ht⟩) hS.2.2 d_R_shX_136
  · rw [if_neg c_1] at h
    refine lv_aload_n hx hb d_R_shX_15 rfl (lv_at hl 0 rfl) ?_
    refine va_get (D := D) (ci := 1) (v := .long rx) (C := R_Reducer) (T := F_Reducer) (N := 7) hx hb htg i_Reducer hown hK hP 0 rfl rfl 3 (by decide) (htg _ tm_59) (fun _ h9 => h9) rfl d_R_shX_16 ?_
    refine lv_aload_n hx hb d_R_shX_19 rfl (lv_at hl 0 rfl) ?_
    refine va_get (D := D) (ci := 1) (v := .long rb) (C := R_Reducer) (T := F_Reducer) (N := 7) hx hb htg i_Reducer hown hK hP 0 rfl rfl 1 (by decide) (htg _ tm_57) (fun _ h9 => h9) rfl d_R_shX_20 ?_
    refine W.lcmp hx hb d_R_shX_23 ?_
    refine lv_if_ne (tgt := 43) hx hb d_R_shX_24 (by decide) (fun c_3 => ?_) (fun c_3 => ?_)
    · rw [if_neg c_3] at h
      refine lv_aload_n hx hb d_R_shX_43 rfl (lv_at hl 0 rfl) ?_
      refine va_get (D := D) (ci := 1) (v := .long rx) (C := R_Reducer) (T := F_Reducer) (N := 7) hx hb htg i_Reducer hown hK hP 0 rfl rfl 3 (by decide) (htg _ tm_59) (fun _ h9 => h9) rfl d_R_shX_44 ?_
      refine lv_aload_n hx hb d_R_shX_47 rfl (lv_at hl 0 rfl) ?_
      refine va_get (D := D) (ci := 1) (v := .long rb) (C := R_Reducer) (T := F_Reducer) (N := 7) hx hb htg i_Reducer hown hK hP 0 rfl rfl 1 (by decide) (htg _ tm_57) (fun _ h9 => h9) rfl d_R_shX_48 ?_
      refine lv_lneg hx hb d_R_shX_51 ?_
      refine W.lcmp hx hb d_R_shX_52 ?_
      refine lv_if_ne (tgt := 137) hx hb d_R_shX_53 (by decide) (fun c_4 => ?_) (fun c_4 => ?_)
      · rw [if_neg c_4] at h
        refine lv_iconst (v := (0 : Int32)) hx hb d_R_shX_137 (by decide) ?_
        exact W.zret (v := (0 : Int32)) (ty := .boolean) hx hb hr rfl (fun t ht hW => ⟨⟨(0 : Int32), (ra, rb, rc, rx, ry, rz, rs), rfl, h, by rw [ht]; exact hP, hD⟩, hS.F ht⟩) hS.2.2 d_R_shX_138
      · rw [if_pos c_4] at h
        refine lv_aload_n hx hb d_R_shX_56 rfl (lv_at hl 0 rfl) ?_
        refine va_get (D := D) (ci := 1) (v := .long rz) (C := R_Reducer) (T := F_Reducer) (N := 7) hx hb htg i_Reducer hown hK hP 0 rfl rfl 5 (by decide) (htg _ tm_61) (fun _ h9 => h9) rfl d_R_shX_57 ?_
        refine lv_lconst (v := (0 : Int64)) hx hb d_R_shX_60 (by decide) ?_
        refine W.lcmp hx hb d_R_shX_61 ?_
        refine lv_if_ge (tgt := 137) hx hb d_R_shX_62 (by decide) (fun c_5 => ?_) (fun c_5 => ?_)
        · rw [if_pos c_5] at h
          refine lv_iconst (v := (0 : Int32)) hx hb d_R_shX_137 (by decide) ?_
          exact W.zret (v := (0 : Int32)) (ty := .boolean) hx hb hr rfl (fun t ht hW => ⟨⟨(0 : Int32), (ra, rb, rc, rx, ry, rz, rs), rfl, h, by rw [ht]; exact hP, hD⟩, hS.F ht⟩) hS.2.2 d_R_shX_138
        · rw [if_neg c_5] at h
          refine lv_aload_n hx hb d_R_shX_65 rfl (lv_at hl 0 rfl) ?_
          refine va_get (D := D) (ci := 1) (v := .long rx) (C := R_Reducer) (T := F_Reducer) (N := 7) hx hb htg i_Reducer hown hK hP 0 rfl rfl 3 (by decide) (htg _ tm_59) (fun _ h9 => h9) rfl d_R_shX_66 ?_
          refine lv_lconst (v := (0 : Int64)) hx hb d_R_shX_69 (by decide) ?_
          refine W.lcmp hx hb d_R_shX_70 ?_
          refine lv_if_le (tgt := 78) hx hb d_R_shX_71 (by decide) (fun c_6 => ?_) (fun c_6 => ?_)
          · rw [if_pos c_6] at h
            refine lv_iconst (v := (-1 : Int32)) hx hb d_R_shX_78 (by decide) ?_
            refine lv_istore_n (lv' := [(1, .int (-1 : Int32)), (0, .ref h0)]) hx hb d_R_shX_79 rfl hl (by decide) rfl (fun ls hl => ?_)
            refine lv_aload_n hx hb d_R_shX_80 rfl (lv_at hl 1 rfl) ?_
            refine lv_aload_n hx hb d_R_shX_81 rfl (lv_at hl 1 rfl) ?_
            refine va_get (D := D) (ci := 1) (v := .long rb) (C := R_Reducer) (T := F_Reducer) (N := 7) hx hb htg i_Reducer hown hK hP 0 rfl rfl 1 (by decide) (htg _ tm_57) (fun _ h9 => h9) rfl d_R_shX_82 ?_
            refine lv_aload_n hx hb d_R_shX_85 rfl (lv_at hl 1 rfl) ?_
            refine va_get (D := D) (ci := 1) (v := .long rc) (C := R_Reducer) (T := F_Reducer) (N := 7) hx hb htg i_Reducer hown hK hP 0 rfl rfl 2 (by decide) (htg _ tm_58) (fun _ h9 => h9) rfl d_R_shX_86 ?_
            refine lv_ladd hx hb d_R_shX_89 ?_
            refine lv_iload_n hx hb d_R_shX_90 rfl (lv_at hl 0 rfl) ?_
            refine lv_i2l hx hb d_R_shX_91 rfl ?_
            refine lv_aload_n hx hb d_R_shX_92 rfl (lv_at hl 1 rfl) ?_
            refine va_get (D := D) (ci := 1) (v := .long rx) (C := R_Reducer) (T := F_Reducer) (N := 7) hx hb htg i_Reducer hown hK hP 0 rfl rfl 3 (by decide) (htg _ tm_59) (fun _ h9 => h9) rfl d_R_shX_93 ?_
            refine lv_lmul hx hb d_R_shX_96 ?_
            refine lv_lsub hx hb d_R_shX_97 ?_
            refine va_put (D := D) (ci := 1) (v := .long ((rb + rc) - (((-1 : Int32).toInt64) * rx))) (ty := .long) (C := R_Reducer) (T := F_Reducer) (N := 7) hx hb htg i_Reducer t_Reducer t_Reducer_ok n_Reducer hown hK hP hD hS 0 rfl rfl 2 (by decide) (htg _ tm_58) (fun _ h9 => h9) rfl (by decide +kernel) rfl rfl (Nat.le_of_ble_eq_true rfl) d_R_shX_98 (fun H locs hP hD hS => ?_)
            have hP : va_P D classes ([(h0, .inr (1, [.long ra, .long rb, .long ((rb + rc) - (((-1 : Int32).toInt64) * rx)), .long rx, .long ry, .long rz, .int rs]))] ++ wt) H := hP
            have hD : va_D A ([(h0, .inr (1, [.long ra, .long rb, .long ((rb + rc) - (((-1 : Int32).toInt64) * rx)), .long rx, .long ry, .long rz, .int rs]))] ++ wt) := hD
            refine lv_aload_n hx hb d_R_shX_101 rfl (lv_at hl 1 rfl) ?_
            refine lv_aload_n hx hb d_R_shX_102 rfl (lv_at hl 1 rfl) ?_
            refine va_get (D := D) (ci := 1) (v := .long ry) (C := R_Reducer) (T := F_Reducer) (N := 7) hx hb htg i_Reducer hown hK hP 0 rfl rfl 4 (by decide) (htg _ tm_60) (fun _ h9 => h9) rfl d_R_shX_103 ?_
            refine lv_iload_n hx hb d_R_shX_106 rfl (lv_at hl 0 rfl) ?_
            refine lv_i2l hx hb d_R_shX_107 rfl ?_
            refine lv_aload_n hx hb d_R_shX_108 rfl (lv_at hl 1 rfl) ?_
            refine va_get (D := D) (ci := 1) (v := .long rz) (C := R_Reducer) (T := F_Reducer) (N := 7) hx hb htg i_Reducer hown hK hP 0 rfl rfl 5 (by decide) (htg _ tm_61) (fun _ h9 => h9) rfl d_R_shX_109 ?_
            refine lv_lmul hx hb d_R_shX_112 ?_
            refine lv_lsub hx hb d_R_shX_113 ?_
            refine va_put (D := D) (ci := 1) (v := .long (ry - (((-1 : Int32).toInt64) * rz))) (ty := .long) (C := R_Reducer) (T := F_Reducer) (N := 7) hx hb htg i_Reducer t_Reducer t_Reducer_ok n_Reducer hown hK hP hD hS 0 rfl rfl 4 (by decide) (htg _ tm_60) (fun _ h9 => h9) rfl (by decide +kernel) rfl rfl (Nat.le_of_ble_eq_true rfl) d_R_shX_114 (fun H locs hP hD hS => ?_)
            have hP : va_P D classes ([(h0, .inr (1, [.long ra, .long rb, .long ((rb + rc) - (((-1 : Int32).toInt64) * rx)), .long rx, .long (ry - (((-1 : Int32).toInt64) * rz)), .long rz, .int rs]))] ++ wt) H := hP
            have hD : va_D A ([(h0, .inr (1, [.long ra, .long rb, .long ((rb + rc) - (((-1 : Int32).toInt64) * rx)), .long rx, .long (ry - (((-1 : Int32).toInt64) * rz)), .long rz, .int rs]))] ++ wt) := hD
            refine lv_aload_n hx hb d_R_shX_117 rfl (lv_at hl 1 rfl) ?_
            refine lv_aload_n hx hb d_R_shX_118 rfl (lv_at hl 1 rfl) ?_
            refine va_get (D := D) (ci := 1) (v := .long rx) (C := R_Reducer) (T := F_Reducer) (N := 7) hx hb htg i_Reducer hown hK hP 0 rfl rfl 3 (by decide) (htg _ tm_59) (fun _ h9 => h9) rfl d_R_shX_119 ?_
            refine lv_iconst (v := (2 : Int32)) hx hb d_R_shX_122 (by decide) ?_
            refine lv_iload_n hx hb d_R_shX_123 rfl (lv_at hl 0 rfl) ?_
            refine lv_imul hx hb d_R_shX_124 ?_
            refine lv_i2l hx hb d_R_shX_125 rfl ?_
            refine lv_aload_n hx hb d_R_shX_126 rfl (lv_at hl 1 rfl) ?_
            refine va_get (D := D) (ci := 1) (v := .long rb) (C := R_Reducer) (T := F_Reducer) (N := 7) hx hb htg i_Reducer hown hK hP 0 rfl rfl 1 (by decide) (htg _ tm_57) (fun _ h9 => h9) rfl d_R_shX_127 ?_
            refine lv_lmul hx hb d_R_shX_130 ?_
            refine lv_lsub hx hb d_R_shX_131 ?_
            refine va_put (D := D) (ci := 1) (v := .long (rx - ((((2 : Int32) * (-1 : Int32)).toInt64) * rb))) (ty := .long) (C := R_Reducer) (T := F_Reducer) (N := 7) hx hb htg i_Reducer t_Reducer t_Reducer_ok n_Reducer hown hK hP hD hS 0 rfl rfl 3 (by decide) (htg _ tm_59) (fun _ h9 => h9) rfl (by decide +kernel) rfl rfl (Nat.le_of_ble_eq_true rfl) d_R_shX_132 (fun H locs hP hD hS => ?_)
            have hP : va_P D classes ([(h0, .inr (1, [.long ra, .long rb, .long ((rb + rc) - (((-1 : Int32).toInt64) * rx)), .long (rx - ((((2 : Int32) * (-1 : Int32)).toInt64) * rb)), .long (ry - (((-1 : Int32).toInt64) * rz)), .long rz, .int rs]))] ++ wt) H := hP
            have hD : va_D A ([(h0, .inr (1, [.long ra, .long rb, .long ((rb + rc) - (((-1 : Int32).toInt64) * rx)), .long (rx - ((((2 : Int32) * (-1 : Int32)).toInt64) * rb)), .long (ry - (((-1 : Int32).toInt64) * rz)), .long rz, .int rs]))] ++ wt) := hD
            refine lv_iconst (v := (1 : Int32)) hx hb d_R_shX_135 (by decide) ?_
            exact W.zret (v := (1 : Int32)) (ty := .boolean) hx hb hr rfl (fun t ht hW => ⟨⟨(1 : Int32), (ra, rb, (rb + rc) - (((-1 : Int32).toInt64) * rx), rx - ((((2 : Int32) * (-1 : Int32)).toInt64) * rb), ry - (((-1 : Int32).toInt64) * rz), rz, rs), rfl, h, by rw [ht]; exact hP, hD⟩, hS.F ht⟩) hS.2.2 d_R_shX_136
          · rw [if_neg c_6] at h
            refine lv_iconst (v := (1 : Int32)) hx hb d_R_shX_74 (by decide) ?_
            refine lv_goto (tgt := 79) hx hb d_R_shX_75 (by decide) ?_
            refine lv_istore_n (lv' := [(1, .int (1 : Int32)), (0, .ref h0)]) hx hb d_R_shX_79 rfl hl (by decide) rfl (fun ls hl => ?_)
            refine lv_aload_n hx hb d_R_shX_80 rfl (lv_at hl 1 rfl) ?_
            refine lv_aload_n hx hb d_R_shX_81 rfl (lv_at hl 1 rfl) ?_
            refine va_get (D := D) (ci := 1) (v := .long rb) (C := R_Reducer) (T := F_Reducer) (N := 7) hx hb htg i_Reducer hown hK hP 0 rfl rfl 1 (by decide) (htg _ tm_57) (fun _ h9 => h9) rfl d_R_shX_82 ?_
            refine lv_aload_n hx hb d_R_shX_85 rfl (lv_at hl 1 rfl) ?_
            refine va_get (D := D) (ci := 1) (v := .long rc) (C := R_Reducer) (T := F_Reducer) (N := 7) hx hb htg i_Reducer hown hK hP 0 rfl rfl 2 (by decide) (htg _ tm_58) (fun _ h9 => h9) rfl d_R_shX_86 ?_
            refine lv_ladd hx hb d_R_shX_89 ?_
            refine lv_iload_n hx hb d_R_shX_90 rfl (lv_at hl 0 rfl) ?_
            refine lv_i2l hx hb d_R_shX_91 rfl ?_
            refine lv_aload_n hx hb d_R_shX_92 rfl (lv_at hl 1 rfl) ?_
            refine va_get (D := D) (ci := 1) (v := .long rx) (C := R_Reducer) (T := F_Reducer) (N := 7) hx hb htg i_Reducer hown hK hP 0 rfl rfl 3 (by decide) (htg _ tm_59) (fun _ h9 => h9) rfl d_R_shX_93 ?_
            refine lv_lmul hx hb d_R_shX_96 ?_
            refine lv_lsub hx hb d_R_shX_97 ?_
            refine va_put (D := D) (ci := 1) (v := .long ((rb + rc) - (((1 : Int32).toInt64) * rx))) (ty := .long) (C := R_Reducer) (T := F_Reducer) (N := 7) hx hb htg i_Reducer t_Reducer t_Reducer_ok n_Reducer hown hK hP hD hS 0 rfl rfl 2 (by decide) (htg _ tm_58) (fun _ h9 => h9) rfl (by decide +kernel) rfl rfl (Nat.le_of_ble_eq_true rfl) d_R_shX_98 (fun H locs hP hD hS => ?_)
            have hP : va_P D classes ([(h0, .inr (1, [.long ra, .long rb, .long ((rb + rc) - (((1 : Int32).toInt64) * rx)), .long rx, .long ry, .long rz, .int rs]))] ++ wt) H := hP
            have hD : va_D A ([(h0, .inr (1, [.long ra, .long rb, .long ((rb + rc) - (((1 : Int32).toInt64) * rx)), .long rx, .long ry, .long rz, .int rs]))] ++ wt) := hD
            refine lv_aload_n hx hb d_R_shX_101 rfl (lv_at hl 1 rfl) ?_
            refine lv_aload_n hx hb d_R_shX_102 rfl (lv_at hl 1 rfl) ?_
            refine va_get (D := D) (ci := 1) (v := .long ry) (C := R_Reducer) (T := F_Reducer) (N := 7) hx hb htg i_Reducer hown hK hP 0 rfl rfl 4 (by decide) (htg _ tm_60) (fun _ h9 => h9) rfl d_R_shX_103 ?_
            refine lv_iload_n hx hb d_R_shX_106 rfl (lv_at hl 0 rfl) ?_
            refine lv_i2l hx hb d_R_shX_107 rfl ?_
            refine lv_aload_n hx hb d_R_shX_108 rfl (lv_at hl 1 rfl) ?_
            refine va_get (D := D) (ci := 1) (v := .long rz) (C := R_Reducer) (T := F_Reducer) (N := 7) hx hb htg i_Reducer hown hK hP 0 rfl rfl 5 (by decide) (htg _ tm_61) (fun _ h9 => h9) rfl d_R_shX_109 ?_
            refine lv_lmul hx hb d_R_shX_112 ?_
            refine lv_lsub hx hb d_R_shX_113 ?_
            refine va_put (D := D) (ci := 1) (v := .long (ry - (((1 : Int32).toInt64) * rz))) (ty := .long) (C := R_Reducer) (T := F_Reducer) (N := 7) hx hb htg i_Reducer t_Reducer t_Reducer_ok n_Reducer hown hK hP hD hS 0 rfl rfl 4 (by decide) (htg _ tm_60) (fun _ h9 => h9) rfl (by decide +kernel) rfl rfl (Nat.le_of_ble_eq_true rfl) d_R_shX_114 (fun H locs hP hD hS => ?_)
            have hP : va_P D classes ([(h0, .inr (1, [.long ra, .long rb, .long ((rb + rc) - (((1 : Int32).toInt64) * rx)), .long rx, .long (ry - (((1 : Int32).toInt64) * rz)), .long rz, .int rs]))] ++ wt) H := hP
            have hD : va_D A ([(h0, .inr (1, [.long ra, .long rb, .long ((rb + rc) - (((1 : Int32).toInt64) * rx)), .long rx, .long (ry - (((1 : Int32).toInt64) * rz)), .long rz, .int rs]))] ++ wt) := hD
            refine lv_aload_n hx hb d_R_shX_117 rfl (lv_at hl 1 rfl) ?_
            refine lv_aload_n hx hb d_R_shX_118 rfl (lv_at hl 1 rfl) ?_
            refine va_get (D := D) (ci := 1) (v := .long rx) (C := R_Reducer) (T := F_Reducer) (N := 7) hx hb htg i_Reducer hown hK hP 0 rfl rfl 3 (by decide) (htg _ tm_59) (fun _ h9 => h9) rfl d_R_shX_119 ?_
            refine lv_iconst (v := (2 : Int32)) hx hb d_R_shX_122 (by decide) ?_
            refine lv_iload_n hx hb d_R_shX_123 rfl (lv_at hl 0 rfl) ?_
            refine lv_imul hx hb d_R_shX_124 ?_
            refine lv_i2l hx hb d_R_shX_125 rfl ?_
            refine lv_aload_n hx hb d_R_shX_126 rfl (lv_at hl 1 rfl) ?_
            refine va_get (D := D) (ci := 1) (v := .long rb) (C := R_Reducer) (T := F_Reducer) (N := 7) hx hb htg i_Reducer hown hK hP 0 rfl rfl 1 (by decide) (htg _ tm_57) (fun _ h9 => h9) rfl d_R_shX_127 ?_
            refine lv_lmul hx hb d_R_shX_130 ?_
            refine lv_lsub hx hb d_R_shX_131 ?_
            refine va_put (D := D) (ci := 1) (v := .long (rx - ((((2 : Int32) * (1 : Int32)).toInt64) * rb))) (ty := .long) (C := R_Reducer) (T := F_Reducer) (N := 7) hx hb htg i_Reducer t_Reducer t_Reducer_ok n_Reducer hown hK hP hD hS 0 rfl rfl 3 (by decide) (htg _ tm_59) (fun _ h9 => h9) rfl (by decide +kernel) rfl rfl (Nat.le_of_ble_eq_true rfl) d_R_shX_132 (fun H locs hP hD hS => ?_)
            have hP : va_P D classes ([(h0, .inr (1, [.long ra, .long rb, .long ((rb + rc) - (((1 : Int32).toInt64) * rx)), .long (rx - ((((2 : Int32) * (1 : Int32)).toInt64) * rb)), .long (ry - (((1 : Int32).toInt64) * rz)), .long rz, .int rs]))] ++ wt) H := hP
            have hD : va_D A ([(h0, .inr (1, [.long ra, .long rb, .long ((rb + rc) - (((1 : Int32).toInt64) * rx)), .long (rx - ((((2 : Int32) * (1 : Int32)).toInt64) * rb)), .long (ry - (((1 : Int32).toInt64) * rz)), .long rz, .int rs]))] ++ wt) := hD
            refine lv_iconst (v := (1 : Int32)) hx hb d_R_shX_135 (by decide) ?_
            exact W.zret (v := (1 : Int32)) (ty := .boolean) hx hb hr rfl (fun t ht hW => ⟨⟨(1 : Int32), (ra, rb, (rb + rc) - (((1 : Int32).toInt64) * rx), rx - ((((2 : Int32) * (1 : Int32)).toInt64) * rb), ry - (((1 : Int32).toInt64) * rz), rz, rs), rfl, h, by rw [ht]; exact hP, hD⟩, hS.F ht⟩) hS.2.2 d_R_shX_136
    · rw [if_pos c_3] at h
      refine lv_ldc2 (v := (2 : Int64)) hx hb hown (htg _ tm_178) d_R_shX_27 ?_
      refine lv_aload_n hx hb d_R_shX_30 rfl (lv_at hl 0 rfl) ?_
      refine va_get (D := D) (ci := 1) (v := .long ry) (C := R_Reducer) (T := F_Reducer) (N := 7) hx hb htg i_Reducer hown hK hP 0 rfl rfl 4 (by decide) (htg _ tm_60) (fun _ h9 => h9) rfl d_R_shX_31 ?_
      refine lv_lmul hx hb d_R_shX_34 ?_
      refine lv_aload_n hx hb d_R_shX_35 rfl (lv_at hl 0 rfl) ?_
      refine va_get (D := D) (ci := 1) (v := .long rz) (C := R_Reducer) (T := F_Reducer) (N := 7) hx hb htg i_Reducer hown hK hP 0 rfl rfl 5 (by decide) (htg _ tm_61) (fun _ h9 => h9) rfl d_R_shX_36 ?_
      refine W.lcmp hx hb d_R_shX_39 ?_
      refine lv_if_lt (tgt := 65) hx hb d_R_shX_40 (by decide) (fun c_7 => ?_) (fun c_7 => ?_)
      · rw [if_pos c_7] at h
        refine lv_aload_n hx hb d_R_shX_65 rfl (lv_at hl 0 rfl) ?_
        refine va_get (D := D) (ci := 1) (v := .long rx) (C := R_Reducer) (T := F_Reducer) (N := 7) hx hb htg i_Reducer hown hK hP 0 rfl rfl 3 (by decide) (htg _ tm_59) (fun _ h9 => h9) rfl d_R_shX_66 ?_
        refine lv_lconst (v := (0 : Int64)) hx hb d_R_shX_69 (by decide) ?_
        refine W.lcmp hx hb d_R_shX_70 ?_
        refine lv_if_le (tgt := 78) hx hb d_R_shX_71 (by decide) (fun c_8 => ?_) (fun c_8 => ?_)
        · rw [if_pos c_8] at h
          refine lv_iconst (v := (-1 : Int32)) hx hb d_R_shX_78 (by decide) ?_
          refine lv_istore_n (lv' := [(1, .int (-1 : Int32)), (0, .ref h0)]) hx hb d_R_shX_79 rfl hl (by decide) rfl (fun ls hl => ?_)
          refine lv_aload_n hx hb d_R_shX_80 rfl (lv_at hl 1 rfl) ?_
          refine lv_aload_n hx hb d_R_shX_81 rfl (lv_at hl 1 rfl) ?_
          refine va_get (D := D) (ci := 1) (v := .long rb) (C := R_Reducer) (T := F_Reducer) (N := 7) hx hb htg i_Reducer hown hK hP 0 rfl rfl 1 (by decide) (htg _ tm_57) (fun _ h9 => h9) rfl d_R_shX_82 ?_
          refine lv_aload_n hx hb d_R_shX_85 rfl (lv_at hl 1 rfl) ?_
          refine va_get (D := D) (ci := 1) (v := .long rc) (C := R_Reducer) (T := F_Reducer) (N := 7) hx hb htg i_Reducer hown hK hP 0 rfl rfl 2 (by decide) (htg _ tm_58) (fun _ h9 => h9) rfl d_R_shX_86 ?_
          refine lv_ladd hx hb d_R_shX_89 ?_
          refine lv_iload_n hx hb d_R_shX_90 rfl (lv_at hl 0 rfl) ?_
          refine lv_i2l hx hb d_R_shX_91 rfl ?_
          refine lv_aload_n hx hb d_R_shX_92 rfl (lv_at hl 1 rfl) ?_
          refine va_get (D := D) (ci := 1) (v := .long rx) (C := R_Reducer) (T := F_Reducer) (N := 7) hx hb htg i_Reducer hown hK hP 0 rfl rfl 3 (by decide) (htg _ tm_59) (fun _ h9 => h9) rfl d_R_shX_93 ?_
          refine lv_lmul hx hb d_R_shX_96 ?_
          refine lv_lsub hx hb d_R_shX_97 ?_
          refine va_put (D := D) (ci := 1) (v := .long ((rb + rc) - (((-1 : Int32).toInt64) * rx))) (ty := .long) (C := R_Reducer) (T := F_Reducer) (N := 7) hx hb htg i_Reducer t_Reducer t_Reducer_ok n_Reducer hown hK hP hD hS 0 rfl rfl 2 (by decide) (htg _ tm_58) (fun _ h9 => h9) rfl (by decide +kernel) rfl rfl (Nat.le_of_ble_eq_true rfl) d_R_shX_98 (fun H locs hP hD hS => ?_)
          have hP : va_P D classes ([(h0, .inr (1, [.long ra, .long rb, .long ((rb + rc) - (((-1 : Int32).toInt64) * rx)), .long rx, .long ry, .long rz, .int rs]))] ++ wt) H := hP
          have hD : va_D A ([(h0, .inr (1, [.long ra, .long rb, .long ((rb + rc) - (((-1 : Int32).toInt64) * rx)), .long rx, .long ry, .long rz, .int rs]))] ++ wt) := hD
          refine lv_aload_n hx hb d_R_shX_101 rfl (lv_at hl 1 rfl) ?_
          refine lv_aload_n hx hb d_R_shX_102 rfl (lv_at hl 1 rfl) ?_
          refine va_get (D := D) (ci := 1) (v := .long ry) (C := R_Reducer) (T := F_Reducer) (N := 7) hx hb htg i_Reducer hown hK hP 0 rfl rfl 4 (by decide) (htg _ tm_60) (fun _ h9 => h9) rfl d_R_shX_103 ?_
          refine lv_iload_n hx hb d_R_shX_106 rfl (lv_at hl 0 rfl) ?_
          refine lv_i2l hx hb d_R_shX_107 rfl ?_
          refine lv_aload_n hx hb d_R_shX_108 rfl (lv_at hl 1 rfl) ?_
          refine va_get (D := D) (ci := 1) (v := .long rz) (C := R_Reducer) (T := F_Reducer) (N := 7) hx hb htg i_Reducer hown hK hP 0 rfl rfl 5 (by decide) (htg _ tm_61) (fun _ h9 => h9) rfl d_R_shX_109 ?_
          refine lv_lmul hx hb d_R_shX_112 ?_
          refine lv_lsub hx hb d_R_shX_113 ?_
          refine va_put (D := D) (ci := 1) (v := .long (ry - (((-1 : Int32).toInt64) * rz))) (ty := .long) (C := R_Reducer) (T := F_Reducer) (N := 7) hx hb htg i_Reducer t_Reducer t_Reducer_ok n_Reducer hown hK hP hD hS 0 rfl rfl 4 (by decide) (htg _ tm_60) (fun _ h9 => h9) rfl (by decide +kernel) rfl rfl (Nat.le_of_ble_eq_true rfl) d_R_shX_114 (fun H locs hP hD hS => ?_)
          have hP : va_P D classes ([(h0, .inr (1, [.long ra, .long rb, .long ((rb + rc) - (((-1 : Int32).toInt64) * rx)), .long rx, .long (ry - (((-1 : Int32).toInt64) * rz)), .long rz, .int rs]))] ++ wt) H := hP
          have hD : va_D A ([(h0, .inr (1, [.long ra, .long rb, .long ((rb + rc) - (((-1 : Int32).toInt64) * rx)), .long rx, .long (ry - (((-1 : Int32).toInt64) * rz)), .long rz, .int rs]))] ++ wt) := hD
          refine lv_aload_n hx hb d_R_shX_117 rfl (lv_at hl 1 rfl) ?_
          refine lv_aload_n hx hb d_R_shX_118 rfl (lv_at hl 1 rfl) ?_
          refine va_get (D := D) (ci := 1) (v := .long rx) (C := R_Reducer) (T := F_Reducer) (N := 7) hx hb htg i_Reducer hown hK hP 0 rfl rfl 3 (by decide) (htg _ tm_59) (fun _ h9 => h9) rfl d_R_shX_119 ?_
          refine lv_iconst (v := (2 : Int32)) hx hb d_R_shX_122 (by decide) ?_
          refine lv_iload_n hx hb d_R_shX_123 rfl (lv_at hl 0 rfl) ?_
          refine lv_imul hx hb d_R_shX_124 ?_
          refine lv_i2l hx hb d_R_shX_125 rfl ?_
          refine lv_aload_n hx hb d_R_shX_126 rfl (lv_at hl 1 rfl) ?_
          refine va_get (D := D) (ci := 1) (v := .long rb) (C := R_Reducer) (T := F_Reducer) (N := 7) hx hb htg i_Reducer hown hK hP 0 rfl rfl 1 (by decide) (htg _ tm_57) (fun _ h9 => h9) rfl d_R_shX_127 ?_
          refine lv_lmul hx hb d_R_shX_130 ?_
          refine lv_lsub hx hb d_R_shX_131 ?_
          refine va_put (D := D) (ci := 1) (v := .long (rx - ((((2 : Int32) * (-1 : Int32)).toInt64) * rb))) (ty := .long) (C := R_Reducer) (T := F_Reducer) (N := 7) hx hb htg i_Reducer t_Reducer t_Reducer_ok n_Reducer hown hK hP hD hS 0 rfl rfl 3 (by decide) (htg _ tm_59) (fun _ h9 => h9) rfl (by decide +kernel) rfl rfl (Nat.le_of_ble_eq_true rfl) d_R_shX_132 (fun H locs hP hD hS => ?_)
          have hP : va_P D classes ([(h0, .inr (1, [.long ra, .long rb, .long ((rb + rc) - (((-1 : Int32).toInt64) * rx)), .long (rx - ((((2 : Int32) * (-1 : Int32)).toInt64) * rb)), .long (ry - (((-1 : Int32).toInt64) * rz)), .long rz, .int rs]))] ++ wt) H := hP
          have hD : va_D A ([(h0, .inr (1, [.long ra, .long rb, .long ((rb + rc) - (((-1 : Int32).toInt64) * rx)), .long (rx - ((((2 : Int32) * (-1 : Int32)).toInt64) * rb)), .long (ry - (((-1 : Int32).toInt64) * rz)), .long rz, .int rs]))] ++ wt) := hD
          refine lv_iconst (v := (1 : Int32)) hx hb d_R_shX_135 (by decide) ?_
          exact W.zret (v := (1 : Int32)) (ty := .boolean) hx hb hr rfl (fun t ht hW => ⟨⟨(1 : Int32), (ra, rb, (rb + rc) - (((-1 : Int32).toInt64) * rx), rx - ((((2 : Int32) * (-1 : Int32)).toInt64) * rb), ry - (((-1 : Int32).toInt64) * rz), rz, rs), rfl, h, by rw [ht]; exact hP, hD⟩, hS.F ht⟩) hS.2.2 d_R_shX_136
        · rw [if_neg c_8] at h
          refine lv_iconst (v := (1 : Int32)) hx hb d_R_shX_74 (by decide) ?_
          refine lv_goto (tgt := 79) hx hb d_R_shX_75 (by decide) ?_
          refine lv_istore_n (lv' := [(1, .int (1 : Int32)), (0, .ref h0)]) hx hb d_R_shX_79 rfl hl (by decide) rfl (fun ls hl => ?_)
          refine lv_aload_n hx hb d_R_shX_80 rfl (lv_at hl 1 rfl) ?_
          refine lv_aload_n hx hb d_R_shX_81 rfl (lv_at hl 1 rfl) ?_
          refine va_get (D := D) (ci := 1) (v := .long rb) (C := R_Reducer) (T := F_Reducer) (N := 7) hx hb htg i_Reducer hown hK hP 0 rfl rfl 1 (by decide) (htg _ tm_57) (fun _ h9 => h9) rfl d_R_shX_82 ?_
          refine lv_aload_n hx hb d_R_shX_85 rfl (lv_at hl 1 rfl) ?_
          refine va_get (D := D) (ci := 1) (v := .long rc) (C := R_Reducer) (T := F_Reducer) (N := 7) hx hb htg i_Reducer hown hK hP 0 rfl rfl 2 (by decide) (htg _ tm_58) (fun _ h9 => h9) rfl d_R_shX_86 ?_
          refine lv_ladd hx hb d_R_shX_89 ?_
          refine lv_iload_n hx hb d_R_shX_90 rfl (lv_at hl 0 rfl) ?_
          refine lv_i2l hx hb d_R_shX_91 rfl ?_
          refine lv_aload_n hx hb d_R_shX_92 rfl (lv_at hl 1 rfl) ?_
          refine va_get (D := D) (ci := 1) (v := .long rx) (C := R_Reducer) (T := F_Reducer) (N := 7) hx hb htg i_Reducer hown hK hP 0 rfl rfl 3 (by decide) (htg _ tm_59) (fun _ h9 => h9) rfl d_R_shX_93 ?_
          refine lv_lmul hx hb d_R_shX_96 ?_
          refine lv_lsub hx hb d_R_shX_97 ?_
          refine va_put (D := D) (ci := 1) (v := .long ((rb + rc) - (((1 : Int32).toInt64) * rx))) (ty := .long) (C := R_Reducer) (T := F_Reducer) (N := 7) hx hb htg i_Reducer t_Reducer t_Reducer_ok n_Reducer hown hK hP hD hS 0 rfl rfl 2 (by decide) (htg _ tm_58) (fun _ h9 => h9) rfl (by decide +kernel) rfl rfl (Nat.le_of_ble_eq_true rfl) d_R_shX_98 (fun H locs hP hD hS => ?_)
          have hP : va_P D classes ([(h0, .inr (1, [.long ra, .long rb, .long ((rb + rc) - (((1 : Int32).toInt64) * rx)), .long rx, .long ry, .long rz, .int rs]))] ++ wt) H := hP
          have hD : va_D A ([(h0, .inr (1, [.long ra, .long rb, .long ((rb + rc) - (((1 : Int32).toInt64) * rx)), .long rx, .long ry, .long rz, .int rs]))] ++ wt) := hD
          refine lv_aload_n hx hb d_R_shX_101 rfl (lv_at hl 1 rfl) ?_
          refine lv_aload_n hx hb d_R_shX_102 rfl (lv_at hl 1 rfl) ?_
          refine va_get (D := D) (ci := 1) (v := .long ry) (C := R_Reducer) (T := F_Reducer) (N := 7) hx hb htg i_Reducer hown hK hP 0 rfl rfl 4 (by decide) (htg _ tm_60) (fun _ h9 => h9) rfl d_R_shX_103 ?_
          refine lv_iload_n hx hb d_R_shX_106 rfl (lv_at hl 0 rfl) ?_
          refine lv_i2l hx hb d_R_shX_107 rfl ?_
          refine lv_aload_n hx hb d_R_shX_108 rfl (lv_at hl 1 rfl) ?_
          refine va_get (D := D) (ci := 1) (v := .long rz) (C := R_Reducer) (T := F_Reducer) (N := 7) hx hb htg i_Reducer hown hK hP 0 rfl rfl 5 (by decide) (htg _ tm_61) (fun _ h9 => h9) rfl d_R_shX_109 ?_
          refine lv_lmul hx hb d_R_shX_112 ?_
          refine lv_lsub hx hb d_R_shX_113 ?_
          refine va_put (D := D) (ci := 1) (v := .long (ry - (((1 : Int32).toInt64) * rz))) (ty := .long) (C := R_Reducer) (T := F_Reducer) (N := 7) hx hb htg i_Reducer t_Reducer t_Reducer_ok n_Reducer hown hK hP hD hS 0 rfl rfl 4 (by decide) (htg _ tm_60) (fun _ h9 => h9) rfl (by decide +kernel) rfl rfl (Nat.le_of_ble_eq_true rfl) d_R_shX_114 (fun H locs hP hD hS => ?_)
          have hP : va_P D classes ([(h0, .inr (1, [.long ra, .long rb, .long ((rb + rc) - (((1 : Int32).toInt64) * rx)), .long rx, .long (ry - (((1 : Int32).toInt64) * rz)), .long rz, .int rs]))] ++ wt) H := hP
          have hD : va_D A ([(h0, .inr (1, [.long ra, .long rb, .long ((rb + rc) - (((1 : Int32).toInt64) * rx)), .long rx, .long (ry - (((1 : Int32).toInt64) * rz)), .long rz, .int rs]))] ++ wt) := hD
          refine lv_aload_n hx hb d_R_shX_117 rfl (lv_at hl 1 rfl) ?_
          refine lv_aload_n hx hb d_R_shX_118 rfl (lv_at hl 1 rfl) ?_
          refine va_get (D := D) (ci := 1) (v := .long rx) (C := R_Reducer) (T := F_Reducer) (N := 7) hx hb htg i_Reducer hown hK hP 0 rfl rfl 3 (by decide) (htg _ tm_59) (fun _ h9 => h9) rfl d_R_shX_119 ?_
          refine lv_iconst (v := (2 : Int32)) hx hb d_R_shX_122 (by decide) ?_
          refine lv_iload_n hx hb d_R_shX_123 rfl (lv_at hl 0 rfl) ?_
          refine lv_imul hx hb d_R_shX_124 ?_
          refine lv_i2l hx hb d_R_shX_125 rfl ?_
          refine lv_aload_n hx hb d_R_shX_126 rfl (lv_at hl 1 rfl) ?_
          refine va_get (D := D) (ci := 1) (v := .long rb) (C := R_Reducer) (T := F_Reducer) (N := 7) hx hb htg i_Reducer hown hK hP 0 rfl rfl 1 (by decide) (htg _ tm_57) (fun _ h9 => h9) rfl d_R_shX_127 ?_
          refine lv_lmul hx hb d_R_shX_130 ?_
          refine lv_lsub hx hb d_R_shX_131 ?_
          refine va_put (D := D) (ci := 1) (v := .long (rx - ((((2 : Int32) * (1 : Int32)).toInt64) * rb))) (ty := .long) (C := R_Reducer) (T := F_Reducer) (N := 7) hx hb htg i_Reducer t_Reducer t_Reducer_ok n_Reducer hown hK hP hD hS 0 rfl rfl 3 (by decide) (htg _ tm_59) (fun _ h9 => h9) rfl (by decide +kernel) rfl rfl (Nat.le_of_ble_eq_true rfl) d_R_shX_132 (fun H locs hP hD hS => ?_)
          have hP : va_P D classes ([(h0, .inr (1, [.long ra, .long rb, .long ((rb + rc) - (((1 : Int32).toInt64) * rx)), .long (rx - ((((2 : Int32) * (1 : Int32)).toInt64) * rb)), .long (ry - (((1 : Int32).toInt64) * rz)), .long rz, .int rs]))] ++ wt) H := hP
          have hD : va_D A ([(h0, .inr (1, [.long ra, .long rb, .long ((rb + rc) - (((1 : Int32).toInt64) * rx)), .long (rx - ((((2 : Int32) * (1 : Int32)).toInt64) * rb)), .long (ry - (((1 : Int32).toInt64) * rz)), .long rz, .int rs]))] ++ wt) := hD
          refine lv_iconst (v := (1 : Int32)) hx hb d_R_shX_135 (by decide) ?_
          exact W.zret (v := (1 : Int32)) (ty := .boolean) hx hb hr rfl (fun t ht hW => ⟨⟨(1 : Int32), (ra, rb, (rb + rc) - (((1 : Int32).toInt64) * rx), rx - ((((2 : Int32) * (1 : Int32)).toInt64) * rb), ry - (((1 : Int32).toInt64) * rz), rz, rs), rfl, h, by rw [ht]; exact hP, hD⟩, hS.F ht⟩) hS.2.2 d_R_shX_136
      · rw [if_neg c_7] at h
        refine lv_aload_n hx hb d_R_shX_43 rfl (lv_at hl 0 rfl) ?_
        refine va_get (D := D) (ci := 1) (v := .long rx) (C := R_Reducer) (T := F_Reducer) (N := 7) hx hb htg i_Reducer hown hK hP 0 rfl rfl 3 (by decide) (htg _ tm_59) (fun _ h9 => h9) rfl d_R_shX_44 ?_
        refine lv_aload_n hx hb d_R_shX_47 rfl (lv_at hl 0 rfl) ?_
        refine va_get (D := D) (ci := 1) (v := .long rb) (C := R_Reducer) (T := F_Reducer) (N := 7) hx hb htg i_Reducer hown hK hP 0 rfl rfl 1 (by decide) (htg _ tm_57) (fun _ h9 => h9) rfl d_R_shX_48 ?_
        refine lv_lneg hx hb d_R_shX_51 ?_
        refine W.lcmp hx hb d_R_shX_52 ?_
        refine lv_if_ne (tgt := 137) hx hb d_R_shX_53 (by decide) (fun c_9 => ?_) (fun c_9 => ?_)
        · rw [if_neg c_9] at h
          refine lv_iconst (v := (0 : Int32)) hx hb d_R_shX_137 (by decide) ?_
          exact W.zret (v := (0 : Int32)) (ty := .boolean) hx hb hr rfl (fun t ht hW => ⟨⟨(0 : Int32), (ra, rb, rc, rx, ry, rz, rs), rfl, h, by rw [ht]; exact hP, hD⟩, hS.F ht⟩) hS.2.2 d_R_shX_138
        · rw [if_pos c_9] at h
          refine lv_aload_n hx hb d_R_shX_56 rfl (lv_at hl 0 rfl) ?_
          refine va_get (D := D) (ci := 1) (v := .long rz) (C := R_Reducer) (T := F_Reducer) (N := 7) hx hb htg i_Reducer hown hK hP 0 rfl rfl 5 (by decide) (htg _ tm_61) (fun _ h9 => h9) rfl d_R_shX_57 ?_
          refine lv_lconst (v := (0 : Int64)) hx hb d_R_shX_60 (by decide) ?_
          refine W.lcmp hx hb d_R_shX_61 ?_
          refine lv_if_ge (tgt := 137) hx hb d_R_shX_62 (by decide) (fun c_10 => ?_) (fun c_10 => ?_)
          · rw [if_pos c_10] at h
            refine lv_iconst (v := (0 : Int32)) hx hb d_R_shX_137 (by decide) ?_
            exact W.zret (v := (0 : Int32)) (ty := .boolean) hx hb hr rfl (fun t ht hW => ⟨⟨(0 : Int32), (ra, rb, rc, rx, ry, rz, rs), rfl, h, by rw [ht]; exact hP, hD⟩, hS.F ht⟩) hS.2.2 d_R_shX_138
          · rw [if_neg c_10] at h
            refine lv_aload_n hx hb d_R_shX_65 rfl (lv_at hl 0 rfl) ?_
            refine va_get (D := D) (ci := 1) (v := .long rx) (C := R_Reducer) (T := F_Reducer) (N := 7) hx hb htg i_Reducer hown hK hP 0 rfl rfl 3 (by decide) (htg _ tm_59) (fun _ h9 => h9) rfl d_R_shX_66 ?_
            refine lv_lconst (v := (0 : Int64)) hx hb d_R_shX_69 (by decide) ?_
            refine W.lcmp hx hb d_R_shX_70 ?_
            refine lv_if_le (tgt := 78) hx hb d_R_shX_71 (by decide) (fun c_11 => ?_) (fun c_11 => ?_)
            · rw [if_pos c_11] at h
              refine lv_iconst (v := (-1 : Int32)) hx hb d_R_shX_78 (by decide) ?_
              refine lv_istore_n (lv' := [(1, .int (-1 : Int32)), (0, .ref h0)]) hx hb d_R_shX_79 rfl hl (by decide) rfl (fun ls hl => ?_)
              refine lv_aload_n hx hb d_R_shX_80 rfl (lv_at hl 1 rfl) ?_
              refine lv_aload_n hx hb d_R_shX_81 rfl (lv_at hl 1 rfl) ?_
              refine va_get (D := D) (ci := 1) (v := .long rb) (C := R_Reducer) (T := F_Reducer) (N := 7) hx hb htg i_Reducer hown hK hP 0 rfl rfl 1 (by decide) (htg _ tm_57) (fun _ h9 => h9) rfl d_R_shX_82 ?_
              refine lv_aload_n hx hb d_R_shX_85 rfl (lv_at hl 1 rfl) ?_
              refine va_get (D := D) (ci := 1) (v := .long rc) (C := R_Reducer) (T := F_Reducer) (N := 7) hx hb htg i_Reducer hown hK hP 0 rfl rfl 2 (by decide) (htg _ tm_58) (fun _ h9 => h9) rfl d_R_shX_86 ?_
              refine lv_ladd hx hb d_R_shX_89 ?_
              refine lv_iload_n hx hb d_R_shX_90 rfl (lv_at hl 0 rfl) ?_
              refine lv_i2l hx hb d_R_shX_91 rfl ?_
              refine lv_aload_n hx hb d_R_shX_92 rfl (lv_at hl 1 rfl) ?_
              refine va_get (D := D) (ci := 1) (v := .long rx) (C := R_Reducer) (T := F_Reducer) (N := 7) hx hb htg i_Reducer hown hK hP 0 rfl rfl 3 (by decide) (htg _ tm_59) (fun _ h9 => h9) rfl d_R_shX_93 ?_
              refine lv_lmul hx hb d_R_shX_96 ?_
              refine lv_lsub hx hb d_R_shX_97 ?_
              refine va_put (D := D) (ci := 1) (v := .long ((rb + rc) - (((-1 : Int32).toInt64) * rx))) (ty := .long) (C := R_Reducer) (T := F_Reducer) (N := 7) hx hb htg i_Reducer t_Reducer t_Reducer_ok n_Reducer hown hK hP hD hS 0 rfl rfl 2 (by decide) (htg _ tm_58) (fun _ h9 => h9) rfl (by decide +kernel) rfl rfl (Nat.le_of_ble_eq_true rfl) d_R_shX_98 (fun H locs hP hD hS => ?_)
              have hP : va_P D classes ([(h0, .inr (1, [.long ra, .long rb, .long ((rb + rc) - (((-1 : Int32).toInt64) * rx)), .long rx, .long ry, .long rz, .int rs]))] ++ wt) H := hP
              have hD : va_D A ([(h0, .inr (1, [.long ra, .long rb, .long ((rb + rc) - (((-1 : Int32).toInt64) * rx)), .long rx, .long ry, .long rz, .int rs]))] ++ wt) := hD
              refine lv_aload_n hx hb d_R_shX_101 rfl (lv_at hl 1 rfl) ?_
              refine lv_aload_n hx hb d_R_shX_102 rfl (lv_at hl 1 rfl) ?_
              refine va_get (D := D) (ci := 1) (v := .long ry) (C := R_Reducer) (T := F_Reducer) (N := 7) hx hb htg i_Reducer hown hK hP 0 rfl rfl 4 (by decide) (htg _ tm_60) (fun _ h9 => h9) rfl d_R_shX_103 ?_
              refine lv_iload_n hx hb d_R_shX_106 rfl (lv_at hl 0 rfl) ?_
              refine lv_i2l hx hb d_R_shX_107 rfl ?_
              refine lv_aload_n hx hb d_R_shX_108 rfl (lv_at hl 1 rfl) ?_
              refine va_get (D := D) (ci := 1) (v := .long rz) (C := R_Reducer) (T := F_Reducer) (N := 7) hx hb htg i_Reducer hown hK hP 0 rfl rfl 5 (by decide) (htg _ tm_61) (fun _ h9 => h9) rfl d_R_shX_109 ?_
              refine lv_lmul hx hb d_R_shX_112 ?_
              refine lv_lsub hx hb d_R_shX_113 ?_
              refine va_put (D := D) (ci := 1) (v := .long (ry - (((-1 : Int32).toInt64) * rz))) (ty := .long) (C := R_Reducer) (T := F_Reducer) (N := 7) hx hb htg i_Reducer t_Reducer t_Reducer_ok n_Reducer hown hK hP hD hS 0 rfl rfl 4 (by decide) (htg _ tm_60) (fun _ h9 => h9) rfl (by decide +kernel) rfl rfl (Nat.le_of_ble_eq_true rfl) d_R_shX_114 (fun H locs hP hD hS => ?_)
              have hP : va_P D classes ([(h0, .inr (1, [.long ra, .long rb, .long ((rb + rc) - (((-1 : Int32).toInt64) * rx)), .long rx, .long (ry - (((-1 : Int32).toInt64) * rz)), .long rz, .int rs]))] ++ wt) H := hP
              have hD : va_D A ([(h0, .inr (1, [.long ra, .long rb, .long ((rb + rc) - (((-1 : Int32).toInt64) * rx)), .long rx, .long (ry - (((-1 : Int32).toInt64) * rz)), .long rz, .int rs]))] ++ wt) := hD
              refine lv_aload_n hx hb d_R_shX_117 rfl (lv_at hl 1 rfl) ?_
              refine lv_aload_n hx hb d_R_shX_118 rfl (lv_at hl 1 rfl) ?_
              refine va_get (D := D) (ci := 1) (v := .long rx) (C := R_Reducer) (T := F_Reducer) (N := 7) hx hb htg i_Reducer hown hK hP 0 rfl rfl 3 (by decide) (htg _ tm_59) (fun _ h9 => h9) rfl d_R_shX_119 ?_
              refine lv_iconst (v := (2 : Int32)) hx hb d_R_shX_122 (by decide) ?_
              refine lv_iload_n hx hb d_R_shX_123 rfl (lv_at hl 0 rfl) ?_
              refine lv_imul hx hb d_R_shX_124 ?_
              refine lv_i2l hx hb d_R_shX_125 rfl ?_
              refine lv_aload_n hx hb d_R_shX_126 rfl (lv_at hl 1 rfl) ?_
              refine va_get (D := D) (ci := 1) (v := .long rb) (C := R_Reducer) (T := F_Reducer) (N := 7) hx hb htg i_Reducer hown hK hP 0 rfl rfl 1 (by decide) (htg _ tm_57) (fun _ h9 => h9) rfl d_R_shX_127 ?_
              refine lv_lmul hx hb d_R_shX_130 ?_
              refine lv_lsub hx hb d_R_shX_131 ?_
              refine va_put (D := D) (ci := 1) (v := .long (rx - ((((2 : Int32) * (-1 : Int32)).toInt64) * rb))) (ty := .long) (C := R_Reducer) (T := F_Reducer) (N := 7) hx hb htg i_Reducer t_Reducer t_Reducer_ok n_Reducer hown hK hP hD hS 0 rfl rfl 3 (by decide) (htg _ tm_59) (fun _ h9 => h9) rfl (by decide +kernel) rfl rfl (Nat.le_of_ble_eq_true rfl) d_R_shX_132 (fun H locs hP hD hS => ?_)
              have hP : va_P D classes ([(h0, .inr (1, [.long ra, .long rb, .long ((rb + rc) - (((-1 : Int32).toInt64) * rx)), .long (rx - ((((2 : Int32) * (-1 : Int32)).toInt64) * rb)), .long (ry - (((-1 : Int32).toInt64) * rz)), .long rz, .int rs]))] ++ wt) H := hP
              have hD : va_D A ([(h0, .inr (1, [.long ra, .long rb, .long ((rb + rc) - (((-1 : Int32).toInt64) * rx)), .long (rx - ((((2 : Int32) * (-1 : Int32)).toInt64) * rb)), .long (ry - (((-1 : Int32).toInt64) * rz)), .long rz, .int rs]))] ++ wt) := hD
              refine lv_iconst (v := (1 : Int32)) hx hb d_R_shX_135 (by decide) ?_
              exact W.zret (v := (1 : Int32)) (ty := .boolean) hx hb hr rfl (fun t ht hW => ⟨⟨(1 : Int32), (ra, rb, (rb + rc) - (((-1 : Int32).toInt64) * rx), rx - ((((2 : Int32) * (-1 : Int32)).toInt64) * rb), ry - (((-1 : Int32).toInt64) * rz), rz, rs), rfl, h, by rw [ht]; exact hP, hD⟩, hS.F ht⟩) hS.2.2 d_R_shX_136
            · rw [if_neg c_11] at h
              refine lv_iconst (v := (1 : Int32)) hx hb d_R_shX_74 (by decide) ?_
              refine lv_goto (tgt := 79) hx hb d_R_shX_75 (by decide) ?_
              refine lv_istore_n (lv' := [(1, .int (1 : Int32)), (0, .ref h0)]) hx hb d_R_shX_79 rfl hl (by decide) rfl (fun ls hl => ?_)
              refine lv_aload_n hx hb d_R_shX_80 rfl (lv_at hl 1 rfl) ?_
              refine lv_aload_n hx hb d_R_shX_81 rfl (lv_at hl 1 rfl) ?_
              refine va_get (D := D) (ci := 1) (v := .long rb) (C := R_Reducer) (T := F_Reducer) (N := 7) hx hb htg i_Reducer hown hK hP 0 rfl rfl 1 (by decide) (htg _ tm_57) (fun _ h9 => h9) rfl d_R_shX_82 ?_
              refine lv_aload_n hx hb d_R_shX_85 rfl (lv_at hl 1 rfl) ?_
              refine va_get (D := D) (ci := 1) (v := .long rc) (C := R_Reducer) (T := F_Reducer) (N := 7) hx hb htg i_Reducer hown hK hP 0 rfl rfl 2 (by decide) (htg _ tm_58) (fun _ h9 => h9) rfl d_R_shX_86 ?_
              refine lv_ladd hx hb d_R_shX_89 ?_
              refine lv_iload_n hx hb d_R_shX_90 rfl (lv_at hl 0 rfl) ?_
              refine lv_i2l hx hb d_R_shX_91 rfl ?_
              refine lv_aload_n hx hb d_R_shX_92 rfl (lv_at hl 1 rfl) ?_
              refine va_get (D := D) (ci := 1) (v := .long rx) (C := R_Reducer) (T := F_Reducer) (N := 7) hx hb htg i_Reducer hown hK hP 0 rfl rfl 3 (by decide) (htg _ tm_59) (fun _ h9 => h9) rfl d_R_shX_93 ?_
              refine lv_lmul hx hb d_R_shX_96 ?_
              refine lv_lsub hx hb d_R_shX_97 ?_
              refine va_put (D := D) (ci := 1) (v := .long ((rb + rc) - (((1 : Int32).toInt64) * rx))) (ty := .long) (C := R_Reducer) (T := F_Reducer) (N := 7) hx hb htg i_Reducer t_Reducer t_Reducer_ok n_Reducer hown hK hP hD hS 0 rfl rfl 2 (by decide) (htg _ tm_58) (fun _ h9 => h9) rfl (by decide +kernel) rfl rfl (Nat.le_of_ble_eq_true rfl) d_R_shX_98 (fun H locs hP hD hS => ?_)
              have hP : va_P D classes ([(h0, .inr (1, [.long ra, .long rb, .long ((rb + rc) - (((1 : Int32).toInt64) * rx)), .long rx, .long ry, .long rz, .int rs]))] ++ wt) H := hP
              have hD : va_D A ([(h0, .inr (1, [.long ra, .long rb, .long ((rb + rc) - (((1 : Int32).toInt64) * rx)), .long rx, .long ry, .long rz, .int rs]))] ++ wt) := hD
              refine lv_aload_n hx hb d_R_shX_101 rfl (lv_at hl 1 rfl) ?_
              refine lv_aload_n hx hb d_R_shX_102 rfl (lv_at hl 1 rfl) ?_
              refine va_get (D := D) (ci := 1) (v := .long ry) (C := R_Reducer) (T := F_Reducer) (N := 7) hx hb htg i_Reducer hown hK hP 0 rfl rfl 4 (by decide) (htg _ tm_60) (fun _ h9 => h9) rfl d_R_shX_103 ?_
              refine lv_iload_n hx hb d_R_shX_106 rfl (lv_at hl 0 rfl) ?_
              refine lv_i2l hx hb d_R_shX_107 rfl ?_
              refine lv_aload_n hx hb d_R_shX_108 rfl (lv_at hl 1 rfl) ?_
              refine va_get (D := D) (ci := 1) (v := .long rz) (C := R_Reducer) (T := F_Reducer) (N := 7) hx hb htg i_Reducer hown hK hP 0 rfl rfl 5 (by decide) (htg _ tm_61) (fun _ h9 => h9) rfl d_R_shX_109 ?_
              refine lv_lmul hx hb d_R_shX_112 ?_
              refine lv_lsub hx hb d_R_shX_113 ?_
              refine va_put (D := D) (ci := 1) (v := .long (ry - (((1 : Int32).toInt64) * rz))) (ty := .long) (C := R_Reducer) (T := F_Reducer) (N := 7) hx hb htg i_Reducer t_Reducer t_Reducer_ok n_Reducer hown hK hP hD hS 0 rfl rfl 4 (by decide) (htg _ tm_60) (fun _ h9 => h9) rfl (by decide +kernel) rfl rfl (Nat.le_of_ble_eq_true rfl) d_R_shX_114 (fun H locs hP hD hS => ?_)
              have hP : va_P D classes ([(h0, .inr (1, [.long ra, .long rb, .long ((rb + rc) - (((1 : Int32).toInt64) * rx)), .long rx, .long (ry - (((1 : Int32).toInt64) * rz)), .long rz, .int rs]))] ++ wt) H := hP
              have hD : va_D A ([(h0, .inr (1, [.long ra, .long rb, .long ((rb + rc) - (((1 : Int32).toInt64) * rx)), .long rx, .long (ry - (((1 : Int32).toInt64) * rz)), .long rz, .int rs]))] ++ wt) := hD
              refine lv_aload_n hx hb d_R_shX_117 rfl (lv_at hl 1 rfl) ?_
              refine lv_aload_n hx hb d_R_shX_118 rfl (lv_at hl 1 rfl) ?_
              refine va_get (D := D) (ci := 1) (v := .long rx) (C := R_Reducer) (T := F_Reducer) (N := 7) hx hb htg i_Reducer hown hK hP 0 rfl rfl 3 (by decide) (htg _ tm_59) (fun _ h9 => h9) rfl d_R_shX_119 ?_
              refine lv_iconst (v := (2 : Int32)) hx hb d_R_shX_122 (by decide) ?_
              refine lv_iload_n hx hb d_R_shX_123 rfl (lv_at hl 0 rfl) ?_
              refine lv_imul hx hb d_R_shX_124 ?_
              refine lv_i2l hx hb d_R_shX_125 rfl ?_
              refine lv_aload_n hx hb d_R_shX_126 rfl (lv_at hl 1 rfl) ?_
              refine va_get (D := D) (ci := 1) (v := .long rb) (C := R_Reducer) (T := F_Reducer) (N := 7) hx hb htg i_Reducer hown hK hP 0 rfl rfl 1 (by decide) (htg _ tm_57) (fun _ h9 => h9) rfl d_R_shX_127 ?_
              refine lv_lmul hx hb d_R_shX_130 ?_
              refine lv_lsub hx hb d_R_shX_131 ?_
              refine va_put (D := D) (ci := 1) (v := .long (rx - ((((2 : Int32) * (1 : Int32)).toInt64) * rb))) (ty := .long) (C := R_Reducer) (T := F_Reducer) (N := 7) hx hb htg i_Reducer t_Reducer t_Reducer_ok n_Reducer hown hK hP hD hS 0 rfl rfl 3 (by decide) (htg _ tm_59) (fun _ h9 => h9) rfl (by decide +kernel) rfl rfl (Nat.le_of_ble_eq_true rfl) d_R_shX_132 (fun H locs hP hD hS => ?_)
              have hP : va_P D classes ([(h0, .inr (1, [.long ra, .long rb, .long ((rb + rc) - (((1 : Int32).toInt64) * rx)), .long (rx - ((((2 : Int32) * (1 : Int32)).toInt64) * rb)), .long (ry - (((1 : Int32).toInt64) * rz)), .long rz, .int rs]))] ++ wt) H := hP
              have hD : va_D A ([(h0, .inr (1, [.long ra, .long rb, .long ((rb + rc) - (((1 : Int32).toInt64) * rx)), .long (rx - ((((2 : Int32) * (1 : Int32)).toInt64) * rb)), .long (ry - (((1 : Int32).toInt64) * rz)), .long rz, .int rs]))] ++ wt) := hD
              refine lv_iconst (v := (1 : Int32)) hx hb d_R_shX_135 (by decide) ?_
              exact W.zret (v := (1 : Int32)) (ty := .boolean) hx hb hr rfl (fun t ht hW => ⟨⟨(1 : Int32), (ra, rb, (rb + rc) - (((1 : Int32).toInt64) * rx), rx - ((((2 : Int32) * (1 : Int32)).toInt64) * rb), ry - (((1 : Int32).toInt64) * rz), rz, rs), rfl, h, by rw [ht]; exact hP, hD⟩, hS.F ht⟩) hS.2.2 d_R_shX_136
-- CellBench$Reducer shearByY ()Z
def f_R_shY (ra : Int64) (rb : Int64) (rc : Int64) (rx : Int64) (ry : Int64) (rz : Int64) (rs : Int32) : Int32 × Int64 × Int64 × Int64 × Int64 × Int64 × Int64 × Int32 :=
    if 0 < (lg_cmp (if 0 < ry then ry else -ry) ra) then (if (lg_cmp ry (0 : Int64)) ≤ 0 then ((1 : Int32), ra, rb, (ra + rc) - (((-1 : Int32).toInt64) * ry), rx - (((-1 : Int32).toInt64) * rz), ry - ((((2 : Int32) * (-1 : Int32)).toInt64) * ra), rz, rs) else ((1 : Int32), ra, rb, (ra + rc) - (((1 : Int32).toInt64) * ry), rx - (((1 : Int32).toInt64) * rz), ry - ((((2 : Int32) * (1 : Int32)).toInt64) * ra), rz, rs)) else (if (lg_cmp ry ra) = 0 then (if (lg_cmp ((2 : Int64) * rx) rz) < 0 then (if (lg_cmp ry (0 : Int64)) ≤ 0 then ((1 : Int32), ra, rb, (ra + rc) - (((-1 : Int32).toInt64) * ry), rx - (((-1 : Int32).toInt64) * rz), ry - ((((2 : Int32) * (-1 : Int32)).toInt64) * ra), rz, rs) else ((1 : Int32), ra, rb, (ra + rc) - (((1 : Int32).toInt64) * ry), rx - (((1 : Int32).toInt64) * rz), ry - ((((2 : Int32) * (1 : Int32)).toInt64) * ra), rz, rs)) else (if (lg_cmp ry (-ra)) = 0 then (if 0 ≤ (lg_cmp rz (0 : Int64)) then ((0 : Int32), ra, rb, rc, rx, ry, rz, rs) else (if (lg_cmp ry (0 : Int64)) ≤ 0 then ((1 : Int32), ra, rb, (ra + rc) - (((-1 : Int32).toInt64) * ry), rx - (((-1 : Int32).toInt64) * rz), ry - ((((2 : Int32) * (-1 : Int32)).toInt64) * ra), rz, rs) else ((1 : Int32), ra, rb, (ra + rc) - (((1 : Int32).toInt64) * ry), rx - (((1 : Int32).toInt64) * rz), ry - ((((2 : Int32) * (1 : Int32)).toInt64) * ra), rz, rs))) else ((0 : Int32), ra, rb, rc, rx, ry, rz, rs))) else (if (lg_cmp ry (-ra)) = 0 then (if 0 ≤ (lg_cmp rz (0 : Int64)) then ((0 : Int32), ra, rb, rc, rx, ry, rz, rs) else (if (lg_cmp ry (0 : Int64)) ≤ 0 then ((1 : Int32), ra, rb, (ra + rc) - (((-1 : Int32).toInt64) * ry), rx - (((-1 : Int32).toInt64) * rz), ry - ((((2 : Int32) * (-1 : Int32)).toInt64) * ra), rz, rs) else ((1 : Int32), ra, rb, (ra + rc) - (((1 : Int32).toInt64) * ry), rx - (((1 : Int32).toInt64) * rz), ry - ((((2 : Int32) * (1 : Int32)).toInt64) * ra), rz, rs))) else ((0 : Int32), ra, rb, rc, rx, ry, rz, rs)))
def w_R_shY : List Cond := .code y_R_shY b_R_shY 2 (some .boolean) :: GW
abbrev rm_R_shY : Room := { frames := 1, cells := 0, slots := 0, locals := 13 }
theorem g_R_shY : GoodIn GW w_R_shY := gi tm_209
set_option maxHeartbeats 4000000 in
set_option maxRecDepth 100000 in
theorem c_R_shY (l : Launch) (D : va_G) (ct : CT) (A : Nat → Prop) (wt : va_W)  (h0 : Nat) (ra : Int64) (rb : Int64) (rc : Int64) (rx : Int64) (ry : Int64) (rz : Int64) (rs : Int32)   (r0 : Int32 × Int64 × Int64 × Int64 × Int64 × Int64 × Int64 × Int32) (h : f_R_shY ra rb rc rx ry rz rs = r0) : Met l y_R_shY w_R_shY rm_R_shY (va_Pc [.ref h0] (PreM D ct A ([(h0, .inr (1, [.long ra, .long rb, .long rc, .long rx, .long ry, .long rz, .int rs]))] ++ wt))) (va_Qi (fun r u => (r, u) = r0) (fun (u : Int64 × Int64 × Int64 × Int64 × Int64 × Int64 × Int32) t => match u with | (ra', rb', rc', rx', ry', rz', rs') => va_P D classes ([(h0, .inr (1, [.long ra', .long rb', .long rc', .long rx', .long ry', .long rz', .int rs']))] ++ wt) t.heap ∧ va_D A ([(h0, .inr (1, [.long ra', .long rb', .long rc', .long rx', .long ry', .long rz', .int rs']))] ++ wt)) A) 0 0 A := by
  refine Met.ofW (cc := b_R_shY) (maxL := 2) (ret := (some .boolean)) (by decide) rfl ?_
  intro p e s m args below meth c s₁ B hml hv
  obtain ⟨rfl, hA, hP, hD, hKK⟩ := hv
  have hx := B.exec
  have hb := B.bytes
  have hr := B.returns
  have htg := ht_tl (atoms_spec (ws := w_R_shY) B.pre)
  have hown : s.vm.findClass R_Reducer = some m.cls := findClass_of_methodNamed B.named
  have hlocks := B.notSynchronized
  have hK := hKK.1
  have hN := hKK.2.1
  have hO := hKK.2.2
  have hS : va_S A s.heap s.heap [] := va_S.rf
  have hl := lv_entry ([.ref h0]) (n := 2) (Nat.le_of_ble_eq_true rfl)
  rw [lg_entry_eq]
  generalize (lg_sl ([.ref h0]) ++ List.replicate (2 - (lg_sl ([.ref h0])).length) Slot.unset).toArray = ls at hl ⊢
  have hl : lv_has ls 2 [(0, .ref h0)] := hl
  unfold f_R_shY at h
  refine lv_aload_n hx hb d_R_shY_0 rfl (lv_at hl 0 rfl) ?_
  refine va_get (D := D) (ci := 1) (v := .long ry) (C := R_Reducer) (T := F_Reducer) (N := 7) hx hb htg i_Reducer hown hK hP 0 rfl rfl 4 (by decide) (htg _ tm_60) (fun _ h9 => h9) rfl d_R_shY_1 ?_
  refine va_mabs_long hx hb (by rw [hml]; exact hl.1.symm) hown (htg _ tm_188) (htg _ tm_189) (htg _ tm_36) (htg _ tm_190) (Nat.le_of_ble_eq_true rfl) (Nat.le_of_ble_eq_true rfl) (Nat.le_of_ble_eq_true rfl) (Nat.le_of_ble_eq_true rfl) d_R_shY_4 ?_
  refine lv_aload_n hx hb d_R_shY_7 rfl (lv_at hl 0 rfl) ?_
  refine va_get (D := D) (ci := 1) (v := .long ra) (C := R_Reducer) (T := F_Reducer) (N := 7) hx hb htg i_Reducer hown hK hP 0 rfl rfl 0 (by decide) (htg _ tm_56) (fun _ h9 => h9) rfl d_R_shY_8 ?_
  refine W.lcmp hx hb d_R_shY_11 ?_
  refine lv_if_gt (tgt := 65) hx hb d_R_shY_12 (by decide) (fun c_1 => ?_) (fun c_1 => ?_)
  · rw [if_pos c_1] at h
    refine lv_aload_n hx hb d_R_shY_65 rfl (lv_at hl 0 rfl) ?_
    refine va_get (D := D) (ci := 1) (v := .long ry) (C := R_Reducer) (T := F_Reducer) (N := 7) hx hb htg i_Reducer hown hK hP 0 rfl rfl 4 (by decide) (htg _ tm_60) (fun _ h9 => h9) rfl d_R_shY_66 ?_
    refine lv_lconst (v := (0 : Int64)) hx hb d_R_shY_69 (by decide) ?_
    refine W.lcmp hx hb d_R_shY_70 ?_
    refine lv_if_le (tgt := 78) hx hb d_R_shY_71 (by decide) (fun c_2 => ?_) (fun c_2 => ?_)
    · rw [if_pos c_2] at h
      refine lv_iconst (v := (-1 : Int32)) hx hb d_R_shY_78 (by decide) ?_
      refine lv_istore_n (lv' := [(1, .int (-1 : Int32)), (0, .ref h0)]) hx hb d_R_shY_79 rfl hl (by decide) rfl (fun ls hl => ?_)
      refine lv_aload_n hx hb d_R_shY_80 rfl (lv_at hl 1 rfl) ?_
      refine lv_aload_n hx hb d_R_shY_81 rfl (lv_at hl 1 rfl) ?_
      refine va_get (D := D) (ci := 1) (v := .long ra) (C := R_Reducer) (T := F_Reducer) (N := 7) hx hb htg i_Reducer hown hK hP 0 rfl rfl 0 (by decide) (htg _ tm_56) (fun _ h9 => h9) rfl d_R_shY_82 ?_
      refine lv_aload_n hx hb d_R_shY_85 rfl (lv_at hl 1 rfl) ?_
      refine va_get (D := D) (ci := 1) (v := .long rc) (C := R_Reducer) (T := F_Reducer) (N := 7) hx hb htg i_Reducer hown hK hP 0 rfl rfl 2 (by decide) (htg _ tm_58) (fun _ h9 => h9) rfl d_R_shY_86 ?_
      refine lv_ladd hx hb d_R_shY_89 ?_
      refine lv_iload_n hx hb d_R_shY_90 rfl (lv_at hl 0 rfl) ?_
      refine lv_i2l hx hb d_R_shY_91 rfl ?_
      refine lv_aload_n hx hb d_R_shY_92 rfl (lv_at hl 1 rfl) ?_
      refine va_get (D := D) (ci := 1) (v := .long ry) (C := R_Reducer) (T := F_Reducer) (N := 7) hx hb htg i_Reducer hown hK hP 0 rfl rfl 4 (by decide) (htg _ tm_60) (fun _ h9 => h9) rfl d_R_shY_93 ?_
      refine lv_lmul hx hb d_R_shY_96 ?_
      refine lv_lsub hx hb d_R_shY_97 ?_
      refine va_put (D := D) (ci := 1) (v := .long ((ra + rc) - (((-1 : Int32).toInt64) * ry))) (ty := .long) (C := R_Reducer) (T := F_Reducer) (N := 7) hx hb htg i_Reducer t_Reducer t_Reducer_ok n_Reducer hown hK hP hD hS 0 rfl rfl 2 (by decide) (htg _ tm_58) (fun _ h9 => h9) rfl (by decide +kernel) rfl rfl (Nat.le_of_ble_eq_true rfl) d_R_shY_98 (fun H locs hP hD hS => ?_)
      have hP : va_P D classes ([(h0, .inr (1, [.long ra, .long rb, .long ((ra + rc) - (((-1 : Int32).toInt64) * ry)), .long rx, .long ry, .long rz, .int rs]))] ++ wt) H := hP
      have hD : va_D A ([(h0, .inr (1, [.long ra, .long rb, .long ((ra + rc) - (((-1 : Int32).toInt64) * ry)), .long rx, .long ry, .long rz, .int rs]))] ++ wt) := hD
      refine lv_aload_n hx hb d_R_shY_101 rfl (lv_at hl 1 rfl) ?_
      refine lv_aload_n hx hb d_R_shY_102 rfl (lv_at hl 1 rfl) ?_
      refine va_get (D := D) (ci := 1) (v := .long rx) (C := R_Reducer) (T := F_Reducer) (N := 7) hx hb htg i_Reducer hown hK hP 0 rfl rfl 3 (by decide) (htg _ tm_59) (fun _ h9 => h9) rfl d_R_shY_103 ?_
      refine lv_iload_n hx hb d_R_shY_106 rfl (lv_at hl 0 rfl) ?_
      refine lv_i2l hx hb d_R_shY_107 rfl ?_
      refine lv_aload_n hx hb d_R_shY_108 rfl (lv_at hl 1 rfl) ?_
      refine va_get (D := D) (ci := 1) (v := .long rz) (C := R_Reducer) (T := F_Reducer) (N := 7) hx hb htg i_Reducer hown hK hP 0 rfl rfl 5 (by decide) (htg _ tm_61) (fun _ h9 => h9) rfl d_R_shY_109 ?_
      refine lv_lmul hx hb d_R_shY_112 ?_
      refine lv_lsub hx hb d_R_shY_113 ?_
      refine va_put (D := D) (ci := 1) (v := .long (rx - (((-1 : Int32).toInt64) * rz))) (ty := .long) (C := R_Reducer) (T := F_Reducer) (N := 7) hx hb htg i_Reducer t_Reducer t_Reducer_ok n_Reducer hown hK hP hD hS 0 rfl rfl 3 (by decide) (htg _ tm_59) (fun _ h9 => h9) rfl (by decide +kernel) rfl rfl (Nat.le_of_ble_eq_true rfl) d_R_shY_114 (fun H locs hP hD hS => ?_)
      have hP : va_P D classes ([(h0, .inr (1, [.long ra, .long rb, .long ((ra + rc) - (((-1 : Int32).toInt64) * ry)), .long (rx - (((-1 : Int32).toInt64) * rz)), .long ry, .long rz, .int rs]))] ++ wt) H := hP
      have hD : va_D A ([(h0, .inr (1, [.long ra, .long rb, .long ((ra + rc) - (((-1 : Int32).toInt64) * ry)), .long (rx - (((-1 : Int32).toInt64) * rz)), .long ry, .long rz, .int rs]))] ++ wt) := hD
      refine lv_aload_n hx hb d_R_shY_117 rfl (lv_at hl 1 rfl) ?_
      refine lv_aload_n hx hb d_R_shY_118 rfl (lv_at hl 1 rfl) ?_
      refine va_get (D := D) (ci := 1) (v := .long ry) (C := R_Reducer) (T := F_Reducer) (N := 7) hx hb htg i_Reducer hown hK hP 0 rfl rfl 4 (by decide) (htg _ tm_60) (fun _ h9 => h9) rfl d_R_shY_119 ?_
      refine lv_iconst (v := (2 : Int32)) hx hb d_R_shY_122 (by decide) ?_
      refine lv_iload_n hx hb d_R_shY_123 rfl (lv_at hl 0 rfl) ?_
      refine lv_imul hx hb d_R_shY_124 ?_
      refine lv_i2l hx hb d_R_shY_125 rfl ?_
      refine lv_aload_n hx hb d_R_shY_126 rfl (lv_at hl 1 rfl) ?_
      refine va_get (D := D) (ci := 1) (v := .long ra) (C := R_Reducer) (T := F_Reducer) (N := 7) hx hb htg i_Reducer hown hK hP 0 rfl rfl 0 (by decide) (htg _ tm_56) (fun _ h9 => h9) rfl d_R_shY_127 ?_
      refine lv_lmul hx hb d_R_shY_130 ?_
      refine lv_lsub hx hb d_R_shY_131 ?_
      refine va_put (D := D) (ci := 1) (v := .long (ry - ((((2 : Int32) * (-1 : Int32)).toInt64) * ra))) (ty := .long) (C := R_Reducer) (T := F_Reducer) (N := 7) hx hb htg i_Reducer t_Reducer t_Reducer_ok n_Reducer hown hK hP hD hS 0 rfl rfl 4 (by decide) (htg _ tm_60) (fun _ h9 => h9) rfl (by decide +kernel) rfl rfl (Nat.le_of_ble_eq_true rfl) d_R_shY_132 (fun H locs hP hD hS => ?_)
      have hP : va_P D classes ([(h0, .inr (1, [.long ra, .long rb, .long ((ra + rc) - (((-1 : Int32).toInt64) * ry)), .long (rx - (((-1 : Int32).toInt64) * rz)), .long (ry - ((((2 : Int32) * (-1 : Int32)).toInt64) * ra)), .long rz, .int rs]))] ++ wt) H := hP
      have hD : va_D A ([(h0, .inr (1, [.long ra, .long rb, .long ((ra + rc) - (((-1 : Int32).toInt64) * ry)), .long (rx - (((-1 : Int32).toInt64) * rz)), .long (ry - ((((2 : Int32) * (-1 : Int32)).toInt64) * ra)), .long rz, .int rs]))] ++ wt) := hD
      refine lv_iconst (v := (1 : Int32)) hx hb d_R_shY_135 (by decide) ?_
      exact W.zret (v := (1 : Int32)) (ty := .boolean) hx hb hr rfl (fun t ht hW => ⟨⟨(1 : Int32), (ra, rb, (ra + rc) - (((-1 : Int32).toInt64) * ry), rx - (((-1 : Int32).toInt64) * rz), ry - ((((2 : Int32) * (-1 : Int32)).toInt64) * ra), rz, rs), rfl, h, by rw [ht]; exact hP, hD⟩, hS.F ht⟩) hS.2.2 d_R_shY_136
    · rw [if_neg c_2] at h
      refine lv_iconst (v := (1 : Int32)) hx hb d_R_shY_74 (by decide) ?_
      refine lv_goto (tgt := 79) hx hb d_R_shY_75 (by decide) ?_
      refine lv_istore_n (lv' := [(1, .int (1 : Int32)), (0, .ref h0)]) hx hb d_R_shY_79 rfl hl (by decide) rfl (fun ls hl => ?_)
      refine lv_aload_n hx hb d_R_shY_80 rfl (lv_at hl 1 rfl) ?_
      refine lv_aload_n hx hb d_R_shY_81 rfl (lv_at hl 1 rfl) ?_
      refine va_get (D := D) (ci := 1) (v := .long ra) (C := R_Reducer) (T := F_Reducer) (N := 7) hx hb htg i_Reducer hown hK hP 0 rfl rfl 0 (by decide) (htg _ tm_56) (fun _ h9 => h9) rfl d_R_shY_82 ?_
      refine lv_aload_n hx hb d_R_shY_85 rfl (lv_at hl 1 rfl) ?_
      refine va_get (D := D) (ci := 1) (v := .long rc) (C := R_Reducer) (T := F_Reducer) (N := 7) hx hb htg i_Reducer hown hK hP 0 rfl rfl 2 (by decide) (htg _ tm_58) (fun _ h9 => h9) rfl d_R_shY_86 ?_
      refine lv_ladd hx hb d_R_shY_89 ?_
      refine lv_iload_n hx hb d_R_shY_90 rfl (lv_at hl 0 rfl) ?_
      refine lv_i2l hx hb d_R_shY_91 rfl ?_
      refine lv_aload_n hx hb d_R_shY_92 rfl (lv_at hl 1 rfl) ?_
      refine va_get (D := D) (ci := 1) (v := .long ry) (C := R_Reducer) (T := F_Reducer) (N := 7) hx hb htg i_Reducer hown hK hP 0 rfl rfl 4 (by decide) (htg _ tm_60) (fun _ h9 => h9) rfl d_R_shY_93 ?_
      refine lv_lmul hx hb d_R_shY_96 ?_
      refine lv_lsub hx hb d_R_shY_97 ?_
      refine va_put (D := D) (ci := 1) (v := .long ((ra + rc) - (((1 : Int32).toInt64) * ry))) (ty := .long) (C := R_Reducer) (T := F_Reducer) (N := 7) hx hb htg i_Reducer t_Reducer t_Reducer_ok n_Reducer hown hK hP hD hS 0 rfl rfl 2 (by decide) (htg _ tm_58) (fun _ h9 => h9) rfl (by decide +kernel) rfl rfl (Nat.le_of_ble_eq_true rfl) d_R_shY_98 (fun H locs hP hD hS => ?_)
      have hP : va_P D classes ([(h0, .inr (1, [.long ra, .long rb, .long ((ra + rc) - (((1 : Int32).toInt64) * ry)), .long rx, .long ry, .long rz, .int rs]))] ++ wt) H := hP
      have hD : va_D A ([(h0, .inr (1, [.long ra, .long rb, .long ((ra + rc) - (((1 : Int32).toInt64) * ry)), .long rx, .long ry, .long rz, .int rs]))] ++ wt) := hD
      refine lv_aload_n hx hb d_R_shY_101 rfl (lv_at hl 1 rfl) ?_
      refine lv_aload_n hx hb d_R_shY_102 rfl (lv_at hl 1 rfl) ?_
      refine va_get (D := D) (ci := 1) (v := .long rx) (C := R_Reducer) (T := F_Reducer) (N := 7) hx hb htg i_Reducer hown hK hP 0 rfl rfl 3 (by decide) (htg _ tm_59) (fun _ h9 => h9) rfl d_R_shY_103 ?_
      refine lv_iload_n hx hb d_R_shY_106 rfl (lv_at hl 0 rfl) ?_
      refine lv_i2l hx hb d_R_shY_107 rfl ?_
      refine lv_aload_n hx hb d_R_shY_108 rfl (lv_at hl 1 rfl) ?_
      refine va_get (D := D) (ci := 1) (v := .long rz) (C := R_Reducer) (T := F_Reducer) (N := 7) hx hb htg i_Reducer hown hK hP 0 rfl rfl 5 (by decide) (htg _ tm_61) (fun _ h9 => h9) rfl d_R_shY_109 ?_
      refine lv_lmul hx hb d_R_shY_112 ?_
      refine lv_lsub hx hb d_R_shY_113 ?_
      refine va_put (D := D) (ci := 1) (v := .long (rx - (((1 : Int32).toInt64) * rz))) (ty := .long) (C := R_Reducer) (T := F_Reducer) (N := 7) hx hb htg i_Reducer t_Reducer t_Reducer_ok n_Reducer hown hK hP hD hS 0 rfl rfl 3 (by decide) (htg _ tm_59) (fun _ h9 => h9) rfl (by decide +kernel) rfl rfl (Nat.le_of_ble_eq_true rfl) d_R_shY_114 (fun H locs hP hD hS => ?_)
      have hP : va_P D classes ([(h0, .inr (1, [.long ra, .long rb, .long ((ra + rc) - (((1 : Int32).toInt64) * ry)), .long (rx - (((1 : Int32).toInt64) * rz)), .long ry, .long rz, .int rs]))] ++ wt) H := hP
      have hD : va_D A ([(h0, .inr (1, [.long ra, .long rb, .long ((ra + rc) - (((1 : Int32).toInt64) * ry)), .long (rx - (((1 : Int32).toInt64) * rz)), .long ry, .long rz, .int rs]))] ++ wt) := hD
      refine lv_aload_n hx hb d_R_shY_117 rfl (lv_at hl 1 rfl) ?_
      refine lv_aload_n hx hb d_R_shY_118 rfl (lv_at hl 1 rfl) ?_
      refine va_get (D := D) (ci := 1) (v := .long ry) (C := R_Reducer) (T := F_Reducer) (N := 7) hx hb htg i_Reducer hown hK hP 0 rfl rfl 4 (by decide) (htg _ tm_60) (fun _ h9 => h9) rfl d_R_shY_119 ?_
      refine lv_iconst (v := (2 : Int32)) hx hb d_R_shY_122 (by decide) ?_
      refine lv_iload_n hx hb d_R_shY_123 rfl (lv_at hl 0 rfl) ?_
      refine lv_imul hx hb d_R_shY_124 ?_
      refine lv_i2l hx hb d_R_shY_125 rfl ?_
      refine lv_aload_n hx hb d_R_shY_126 rfl (lv_at hl 1 rfl) ?_
      refine va_get (D := D) (ci := 1) (v := .long ra) (C := R_Reducer) (T := F_Reducer) (N := 7) hx hb htg i_Reducer hown hK hP 0 rfl rfl 0 (by decide) (htg _ tm_56) (fun _ h9 => h9) rfl d_R_shY_127 ?_
      refine lv_lmul hx hb d_R_shY_130 ?_
      refine lv_lsub hx hb d_R_shY_131 ?_
      refine va_put (D := D) (ci := 1) (v := .long (ry - ((((2 : Int32) * (1 : Int32)).toInt64) * ra))) (ty := .long) (C := R_Reducer) (T := F_Reducer) (N := 7) hx hb htg i_Reducer t_Reducer t_Reducer_ok n_Reducer hown hK hP hD hS 0 rfl rfl 4 (by decide) (htg _ tm_60) (fun _ h9 => h9) rfl (by decide +kernel) rfl rfl (Nat.le_of_ble_eq_true rfl) d_R_shY_132 (fun H locs hP hD hS => ?_)
      have hP : va_P D classes ([(h0, .inr (1, [.long ra, .long rb, .long ((ra + rc) - (((1 : Int32).toInt64) * ry)), .long (rx - (((1 : Int32).toInt64) * rz)), .long (ry - ((((2 : Int32) * (1 : Int32)).toInt64) * ra)), .long rz, .int rs]))] ++ wt) H := hP
      have hD : va_D A ([(h0, .inr (1, [.long ra, .long rb, .long ((ra + rc) - (((1 : Int32).toInt64) * ry)), .long (rx - (((1 : Int32).toInt64) * rz)), .long (ry - ((((2 : Int32) * (1 : Int32)).toInt64) * ra)), .long rz, .int rs]))] ++ wt) := hD
      refine lv_iconst (v := (1 : Int32)) hx hb d_R_shY_135 (by decide) ?_
      exact W.zret (v := (1 : Int32)) (ty := .boolean) hx hb hr rfl (fun t ht hW => ⟨⟨(1 : Int32), (ra, rb, (ra + rc) - (((1 : Int32).toInt64) * ry), rx - (((1 : Int32).toInt64) * rz), ry - ((((2 : Int32) * (1 : Int32)).toInt64) * ra), rz, rs), rfl, h, by rw [ht]; exact hP, hD⟩, hS.F ht⟩) hS.2.2 d_R_shY_136
  · rw [if_neg c_1] at h
    refine lv_aload_n hx hb d_R_shY_15 rfl (lv_at hl 0 rfl) ?_
    refine va_get (D := D) (ci := 1) (v := .long ry) (C := R_Reducer) (T := F_Reducer) (N := 7) hx hb htg i_Reducer hown hK hP 0 rfl rfl 4 (by decide) (htg _ tm_60) (fun _ h9 => h9) rfl d_R_shY_16 ?_
    refine lv_aload_n hx hb d_R_shY_19 rfl (lv_at hl 0 rfl) ?_
    refine va_get (D := D) (ci := 1) (v := .long ra) (C := R_Reducer) (T := F_Reducer) (N := 7) hx hb htg i_Reducer hown hK hP 0 rfl rfl 0 (by decide) (htg _ tm_56) (fun _ h9 => h9) rfl d_R_shY_20 ?_
    refine W.lcmp hx hb d_R_shY_23 ?_
    refine lv_if_ne (tgt := 43) hx hb d_R_shY_24 (by decide) (fun c_3 => ?_) (fun c_3 => ?_)
    · rw [if_neg c_3] at h
      refine lv_aload_n hx hb d_R_shY_43 rfl (lv_at hl 0 rfl) ?_
      refine va_get (D := D) (ci := 1) (v := .long ry) (C := R_Reducer) (T := F_Reducer) (N := 7) hx hb htg i_Reducer hown hK hP 0 rfl rfl 4 (by decide) (htg _ tm_60) (fun _ h9 => h9) rfl d_R_shY_44 ?_
      refine lv_aload_n hx hb d_R_shY_47 rfl (lv_at hl 0 rfl) ?_
      refine va_get (D := D) (ci := 1) (v := .long ra) (C := R_Reducer) (T := F_Reducer) (N := 7) hx hb htg i_Reducer hown hK hP 0 rfl rfl 0 (by decide) (htg _ tm_56) (fun _ h9 => h9) rfl d_R_shY_48 ?_
      refine lv_lneg hx hb d_R_shY_51 ?_
      refine W.lcmp hx hb d_R_shY_52 ?_
      refine lv_if_ne (tgt := 137) hx hb d_R_shY_53 (by decide) (fun c_4 => ?_) (fun c_4 => ?_)
      · rw [if_neg c_4] at h
        refine lv_iconst (v := (0 : Int32)) hx hb d_R_shY_137 (by decide) ?_
        exact W.zret (v := (0 : Int32)) (ty := .boolean) hx hb hr rfl (fun t ht hW => ⟨⟨(0 : Int32), (ra, rb, rc, rx, ry, rz, rs), rfl, h, by rw [ht]; exact hP, hD⟩, hS.F ht⟩) hS.2.2 d_R_shY_138
      · rw [if_pos c_4] at h
        refine lv_aload_n hx hb d_R_shY_56 rfl (lv_at hl 0 rfl) ?_
        refine va_get (D := D) (ci := 1) (v := .long rz) (C := R_Reducer) (T := F_Reducer) (N := 7) hx hb htg i_Reducer hown hK hP 0 rfl rfl 5 (by decide) (htg _ tm_61) (fun _ h9 => h9) rfl d_R_shY_57 ?_
        refine lv_lconst (v := (0 : Int64)) hx hb d_R_shY_60 (by decide) ?_
        refine W.lcmp hx hb d_R_shY_61 ?_
        refine lv_if_ge (tgt := 137) hx hb d_R_shY_62 (by decide) (fun c_5 => ?_) (fun c_5 => ?_)
        · rw [if_pos c_5] at h
          refine lv_iconst (v := (0 : Int32)) hx hb d_R_shY_137 (by decide) ?_
          exact W.zret (v := (0 : Int32)) (ty := .boolean) hx hb hr rfl (fun t ht hW => ⟨⟨(0 : Int32), (ra, rb, rc, rx, ry, rz, rs), rfl, h, by rw [ht]; exact hP, hD⟩, hS.F ht⟩) hS.2.2 d_R_shY_138
        · rw [if_neg c_5] at h
          refine lv_aload_n hx hb d_R_shY_65 rfl (lv_at hl 0 rfl) ?_
          refine va_get (D := D) (ci := 1) (v := .long ry) (C := R_Reducer) (T := F_Reducer) (N := 7) hx hb htg i_Reducer hown hK hP 0 rfl rfl 4 (by decide) (htg _ tm_60) (fun _ h9 => h9) rfl d_R_shY_66 ?_
          refine lv_lconst (v := (0 : Int64)) hx hb d_R_shY_69 (by decide) ?_
          refine W.lcmp hx hb d_R_shY_70 ?_
          refine lv_if_le (tgt := 78) hx hb d_R_shY_71 (by decide) (fun c_6 => ?_) (fun c_6 => ?_)
          · rw [if_pos c_6] at h
            refine lv_iconst (v := (-1 : Int32)) hx hb d_R_shY_78 (by decide) ?_
            refine lv_istore_n (lv' := [(1, .int (-1 : Int32)), (0, .ref h0)]) hx hb d_R_shY_79 rfl hl (by decide) rfl (fun ls hl => ?_)
            refine lv_aload_n hx hb d_R_shY_80 rfl (lv_at hl 1 rfl) ?_
            refine lv_aload_n hx hb d_R_shY_81 rfl (lv_at hl 1 rfl) ?_
            refine va_get (D := D) (ci := 1) (v := .long ra) (C := R_Reducer) (T := F_Reducer) (N := 7) hx hb htg i_Reducer hown hK hP 0 rfl rfl 0 (by decide) (htg _ tm_56) (fun _ h9 => h9) rfl d_R_shY_82 ?_
            refine lv_aload_n hx hb d_R_shY_85 rfl (lv_at hl 1 rfl) ?_
            refine va_get (D := D) (ci := 1) (v := .long rc) (C := R_Reducer) (T := F_Reducer) (N := 7) hx hb htg i_Reducer hown hK hP 0 rfl rfl 2 (by decide) (htg _ tm_58) (fun _ h9 => h9) rfl d_R_shY_86 ?_
            refine lv_ladd hx hb d_R_shY_89 ?_
            refine lv_iload_n hx hb d_R_shY_90 rfl (lv_at hl 0 rfl) ?_
            refine lv_i2l hx hb d_R_shY_91 rfl ?_
            refine lv_aload_n hx hb d_R_shY_92 rfl (lv_at hl 1 rfl) ?_
            refine va_get (D := D) (ci := 1) (v := .long ry) (C := R_Reducer) (T := F_Reducer) (N := 7) hx hb htg i_Reducer hown hK hP 0 rfl rfl 4 (by decide) (htg _ tm_60) (fun _ h9 => h9) rfl d_R_shY_93 ?_
            refine lv_lmul hx hb d_R_shY_96 ?_
            refine lv_lsub hx hb d_R_shY_97 ?_
            refine va_put (D := D) (ci := 1) (v := .long ((ra + rc) - (((-1 : Int32).toInt64) * ry))) (ty := .long) (C := R_Reducer) (T := F_Reducer) (N := 7) hx hb htg i_Reducer t_Reducer t_Reducer_ok n_Reducer hown hK hP hD hS 0 rfl rfl 2 (by decide) (htg _ tm_58) (fun _ h9 => h9) rfl (by decide +kernel) rfl rfl (Nat.le_of_ble_eq_true rfl) d_R_shY_98 (fun H locs hP hD hS => ?_)
            have hP : va_P D classes ([(h0, .inr (1, [.long ra, .long rb, .long ((ra + rc) - (((-1 : Int32).toInt64) * ry)), .long rx, .long ry, .long rz, .int rs]))] ++ wt) H := hP
            have hD : va_D A ([(h0, .inr (1, [.long ra, .long rb, .long ((ra + rc) - (((-1 : Int32).toInt64) * ry)), .long rx, .long ry, .long rz, .int rs]))] ++ wt) := hD
            refine lv_aload_n hx hb d_R_shY_101 rfl (lv_at hl 1 rfl) ?_
            refine lv_aload_n hx hb d_R_shY_102 rfl (lv_at hl 1 rfl) ?_
            refine va_get (D := D) (ci := 1) (v := .long rx) (C := R_Reducer) (T := F_Reducer) (N := 7) hx hb htg i_Reducer hown hK hP 0 rfl rfl 3 (by decide) (htg _ tm_59) (fun _ h9 => h9) rfl d_R_shY_103 ?_
            refine lv_iload_n hx hb d_R_shY_106 rfl (lv_at hl 0 rfl) ?_
            refine lv_i2l hx hb d_R_shY_107 rfl ?_
            refine lv_aload_n hx hb d_R_shY_108 rfl (lv_at hl 1 rfl) ?_
            refine va_get (D := D) (ci := 1) (v := .long rz) (C := R_Reducer) (T := F_Reducer) (N := 7) hx hb htg i_Reducer hown hK hP 0 rfl rfl 5 (by decide) (htg _ tm_61) (fun _ h9 => h9) rfl d_R_shY_109 ?_
            refine lv_lmul hx hb d_R_shY_112 ?_
            refine lv_lsub hx hb d_R_shY_113 ?_
            refine va_put (D := D) (ci := 1) (v := .long (rx - (((-1 : Int32).toInt64) * rz))) (ty := .long) (C := R_Reducer) (T := F_Reducer) (N := 7) hx hb htg i_Reducer t_Reducer t_Reducer_ok n_Reducer hown hK hP hD hS 0 rfl rfl 3 (by decide) (htg _ tm_59) (fun _ h9 => h9) rfl (by decide +kernel) rfl rfl (Nat.le_of_ble_eq_true rfl) d_R_shY_114 (fun H locs hP hD hS => ?_)
            have hP : va_P D classes ([(h0, .inr (1, [.long ra, .long rb, .long ((ra + rc) - (((-1 : Int32).toInt64) * ry)), .long (rx - (((-1 : Int32).toInt64) * rz)), .long ry, .long rz, .int rs]))] ++ wt) H := hP
            have hD : va_D A ([(h0, .inr (1, [.long ra, .long rb, .long ((ra + rc) - (((-1 : Int32).toInt64) * ry)), .long (rx - (((-1 : Int32).toInt64) * rz)), .long ry, .long rz, .int rs]))] ++ wt) := hD
            refine lv_aload_n hx hb d_R_shY_117 rfl (lv_at hl 1 rfl) ?_
            refine lv_aload_n hx hb d_R_shY_118 rfl (lv_at hl 1 rfl) ?_
            refine va_get (D := D) (ci := 1) (v := .long ry) (C := R_Reducer) (T := F_Reducer) (N := 7) hx hb htg i_Reducer hown hK hP 0 rfl rfl 4 (by decide) (htg _ tm_60) (fun _ h9 => h9) rfl d_R_shY_119 ?_
            refine lv_iconst (v := (2 : Int32)) hx hb d_R_shY_122 (by decide) ?_
            refine lv_iload_n hx hb d_R_shY_123 rfl (lv_at hl 0 rfl) ?_
            refine lv_imul hx hb d_R_shY_124 ?_
            refine lv_i2l hx hb d_R_shY_125 rfl ?_
            refine lv_aload_n hx hb d_R_shY_126 rfl (lv_at hl 1 rfl) ?_
            refine va_get (D := D) (ci := 1) (v := .long ra) (C := R_Reducer) (T := F_Reducer) (N := 7) hx hb htg i_Reducer hown hK hP 0 rfl rfl 0 (by decide) (htg _ tm_56) (fun _ h9 => h9) rfl d_R_shY_127 ?_
            refine lv_lmul hx hb d_R_shY_130 ?_
            refine lv_lsub hx hb d_R_shY_131 ?_
            refine va_put (D := D) (ci := 1) (v := .long (ry - ((((2 : Int32) * (-1 : Int32)).toInt64) * ra))) (ty := .long) (C := R_Reducer) (T := F_Reducer) (N := 7) hx hb htg i_Reducer t_Reducer t_Reducer_ok n_Reducer hown hK hP hD hS 0 rfl rfl 4 (by decide) (htg _ tm_60) (fun _ h9 => h9) rfl (by decide +kernel) rfl rfl (Nat.le_of_ble_eq_true rfl) d_R_shY_132 (fun H locs hP hD hS => ?_)
            have hP : va_P D classes ([(h0, .inr (1, [.long ra, .long rb, .long ((ra + rc) - (((-1 : Int32).toInt64) * ry)), .long (rx - (((-1 : Int32).toInt64) * rz)), .long (ry - ((((2 : Int32) * (-1 : Int32)).toInt64) * ra)), .long rz, .int rs]))] ++ wt) H := hP
            have hD : va_D A ([(h0, .inr (1, [.long ra, .long rb, .long ((ra + rc) - (((-1 : Int32).toInt64) * ry)), .long (rx - (((-1 : Int32).toInt64) * rz)), .long (ry - ((((2 : Int32) * (-1 : Int32)).toInt64) * ra)), .long rz, .int rs]))] ++ wt) := hD
            refine lv_iconst (v := (1 : Int32)) hx hb d_R_shY_135 (by decide) ?_
            exact W.zret (v := (1 : Int32)) (ty := .boolean) hx hb hr rfl (fun t ht hW => ⟨⟨(1 : Int32), (ra, rb, (ra + rc) - (((-1 : Int32).toInt64) * ry), rx - (((-1 : Int32).toInt64) * rz), ry - ((((2 : Int32) * (-1 : Int32)).toInt64) * ra), rz, rs), rfl, h, by rw [ht]; exact hP, hD⟩, hS.F ht⟩) hS.2.2 d_R_shY_136
          · rw [if_neg c_6] at h
            refine lv_iconst (v := (1 : Int32)) hx hb d_R_shY_74 (by decide) ?_
            refine lv_goto (tgt := 79) hx hb d_R_shY_75 (by decide) ?_
            refine lv_istore_n (lv' := [(1, .int (1 : Int32)), (0, .ref h0)]) hx hb d_R_shY_79 rfl hl (by decide) rfl (fun ls hl => ?_)
            refine lv_aload_n hx hb d_R_shY_80 rfl (lv_at hl 1 rfl) ?_
            refine lv_aload_n hx hb d_R_shY_81 rfl (lv_at hl 1 rfl) ?_
            refine va_get (D := D) (ci := 1) (v := .long ra) (C := R_Reducer) (T := F_Reducer) (N := 7) hx hb htg i_Reducer hown hK hP 0 rfl rfl 0 (by decide) (htg _ tm_56) (fun _ h9 => h9) rfl d_R_shY_82 ?_
            refine lv_aload_n hx hb d_R_shY_85 rfl (lv_at hl 1 rfl) ?_
            refine va_get (D := D) (ci := 1) (v := .long rc) (C := R_Reducer) (T := F_Reducer) (N := 7) hx hb htg i_Reducer hown hK hP 0 rfl rfl 2 (by decide) (htg _ tm_58) (fun _ h9 => h9) rfl d_R_shY_86 ?_
            refine lv_ladd hx hb d_R_shY_89 ?_
            refine lv_iload_n hx hb d_R_shY_90 rfl (lv_at hl 0 rfl) ?_
            refine lv_i2l hx hb d_R_shY_91 rfl ?_
            refine lv_aload_n hx hb d_R_shY_92 rfl (lv_at hl 1 rfl) ?_
            refine va_get (D := D) (ci := 1) (v := .long ry) (C := R_Reducer) (T := F_Reducer) (N := 7) hx hb htg i_Reducer hown hK hP 0 rfl rfl 4 (by decide) (htg _ tm_60) (fun _ h9 => h9) rfl d_R_shY_93 ?_
            refine lv_lmul hx hb d_R_shY_96 ?_
            refine lv_lsub hx hb d_R_shY_97 ?_
            refine va_put (D := D) (ci := 1) (v := .long ((ra + rc) - (((1 : Int32).toInt64) * ry))) (ty := .long) (C := R_Reducer) (T := F_Reducer) (N := 7) hx hb htg i_Reducer t_Reducer t_Reducer_ok n_Reducer hown hK hP hD hS 0 rfl rfl 2 (by decide) (htg _ tm_58) (fun _ h9 => h9) rfl (by decide +kernel) rfl rfl (Nat.le_of_ble_eq_true rfl) d_R_shY_98 (fun H locs hP hD hS => ?_)
            have hP : va_P D classes ([(h0, .inr (1, [.long ra, .long rb, .long ((ra + rc) - (((1 : Int32).toInt64) * ry)), .long rx, .long ry, .long rz, .int rs]))] ++ wt) H := hP
            have hD : va_D A ([(h0, .inr (1, [.long ra, .long rb, .long ((ra + rc) - (((1 : Int32).toInt64) * ry)), .long rx, .long ry, .long rz, .int rs]))] ++ wt) := hD
            refine lv_aload_n hx hb d_R_shY_101 rfl (lv_at hl 1 rfl) ?_
            refine lv_aload_n hx hb d_R_shY_102 rfl (lv_at hl 1 rfl) ?_
            refine va_get (D := D) (ci := 1) (v := .long rx) (C := R_Reducer) (T := F_Reducer) (N := 7) hx hb htg i_Reducer hown hK hP 0 rfl rfl 3 (by decide) (htg _ tm_59) (fun _ h9 => h9) rfl d_R_shY_103 ?_
            refine lv_iload_n hx hb d_R_shY_106 rfl (lv_at hl 0 rfl) ?_
            refine lv_i2l hx hb d_R_shY_107 rfl ?_
            refine lv_aload_n hx hb d_R_shY_108 rfl (lv_at hl 1 rfl) ?_
            refine va_get (D := D) (ci := 1) (v := .long rz) (C := R_Reducer) (T := F_Reducer) (N := 7) hx hb htg i_Reducer hown hK hP 0 rfl rfl 5 (by decide) (htg _ tm_61) (fun _ h9 => h9) rfl d_R_shY_109 ?_
            refine lv_lmul hx hb d_R_shY_112 ?_
            refine lv_lsub hx hb d_R_shY_113 ?_
            refine va_put (D := D) (ci := 1) (v := .long (rx - (((1 : Int32).toInt64) * rz))) (ty := .long) (C := R_Reducer) (T := F_Reducer) (N := 7) hx hb htg i_Reducer t_Reducer t_Reducer_ok n_Reducer hown hK hP hD hS 0 rfl rfl 3 (by decide) (htg _ tm_59) (fun _ h9 => h9) rfl (by decide +kernel) rfl rfl (Nat.le_of_ble_eq_true rfl) d_R_shY_114 (fun H locs hP hD hS => ?_)
            have hP : va_P D classes ([(h0, .inr (1, [.long ra, .long rb, .long ((ra + rc) - (((1 : Int32).toInt64) * ry)), .long (rx - (((1 : Int32).toInt64) * rz)), .long ry, .long rz, .int rs]))] ++ wt) H := hP
            have hD : va_D A ([(h0, .inr (1, [.long ra, .long rb, .long ((ra + rc) - (((1 : Int32).toInt64) * ry)), .long (rx - (((1 : Int32).toInt64) * rz)), .long ry, .long rz, .int rs]))] ++ wt) := hD
            refine lv_aload_n hx hb d_R_shY_117 rfl (lv_at hl 1 rfl) ?_
            refine lv_aload_n hx hb d_R_shY_118 rfl (lv_at hl 1 rfl) ?_
            refine va_get (D := D) (ci := 1) (v := .long ry) (C := R_Reducer) (T := F_Reducer) (N := 7) hx hb htg i_Reducer hown hK hP 0 rfl rfl 4 (by decide) (htg _ tm_60) (fun _ h9 => h9) rfl d_R_shY_119 ?_
            refine lv_iconst (v := (2 : Int32)) hx hb d_R_shY_122 (by decide) ?_
            refine lv_iload_n hx hb d_R_shY_123 rfl (lv_at hl 0 rfl) ?_
            refine lv_imul hx hb d_R_shY_124 ?_
            refine lv_i2l hx hb d_R_shY_125 rfl ?_
            refine lv_aload_n hx hb d_R_shY_126 rfl (lv_at hl 1 rfl) ?_
            refine va_get (D := D) (ci := 1) (v := .long ra) (C := R_Reducer) (T := F_Reducer) (N := 7) hx hb htg i_Reducer hown hK hP 0 rfl rfl 0 (by decide) (htg _ tm_56) (fun _ h9 => h9) rfl d_R_shY_127 ?_
            refine lv_lmul hx hb d_R_shY_130 ?_
            refine lv_lsub hx hb d_R_shY_131 ?_
            refine va_put (D := D) (ci := 1) (v := .long (ry - ((((2 : Int32) * (1 : Int32)).toInt64) * ra))) (ty := .long) (C := R_Reducer) (T := F_Reducer) (N := 7) hx hb htg i_Reducer t_Reducer t_Reducer_ok n_Reducer hown hK hP hD hS 0 rfl rfl 4 (by decide) (htg _ tm_60) (fun _ h9 => h9) rfl (by decide +kernel) rfl rfl (Nat.le_of_ble_eq_true rfl) d_R_shY_132 (fun H locs hP hD hS => ?_)
            have hP : va_P D classes ([(h0, .inr (1, [.long ra, .long rb, .long ((ra + rc) - (((1 : Int32).toInt64) * ry)), .long (rx - (((1 : Int32).toInt64) * rz)), .long (ry - ((((2 : Int32) * (1 : Int32)).toInt64) * ra)), .long rz, .int rs]))] ++ wt) H := hP
            have hD : va_D A ([(h0, .inr (1, [.long ra, .long rb, .long ((ra + rc) - (((1 : Int32).toInt64) * ry)), .long (rx - (((1 : Int32).toInt64) * rz)), .long (ry - ((((2 : Int32) * (1 : Int32)).toInt64) * ra)), .long rz, .int rs]))] ++ wt) := hD
            refine lv_iconst (v := (1 : Int32)) hx hb d_R_shY_135 (by decide) ?_
            exact W.zret (v := (1 : Int32)) (ty := .boolean) hx hb hr rfl (fun t ht hW => ⟨⟨(1 : Int32), (ra, rb, (ra + rc) - (((1 : Int32).toInt64) * ry), rx - (((1 : Int32).toInt64) * rz), ry - ((((2 : Int32) * (1 : Int32)).toInt64) * ra), rz, rs), rfl, h, by rw [ht]; exact hP, hD⟩, hS.F ht⟩) hS.2.2 d_R_shY_136
    · rw [if_pos c_3] at h
      refine lv_ldc2 (v := (2 : Int64)) hx hb hown (htg _ tm_178) d_R_shY_27 ?_
      refine lv_aload_n hx hb d_R_shY_30 rfl (lv_at hl 0 rfl) ?_
      refine va_get (D := D) (ci := 1) (v := .long rx) (C := R_Reducer) (T := F_Reducer) (N := 7) hx hb htg i_Reducer hown hK hP 0 rfl rfl 3 (by decide) (htg _ tm_59) (fun _ h9 => h9) rfl d_R_shY_31 ?_
      refine lv_lmul hx hb d_R_shY_34 ?_
      refine lv_aload_n hx hb d_R_shY_35 rfl (lv_at hl 0 rfl) ?_
      refine va_get (D := D) (ci := 1) (v := .long rz) (C := R_Reducer) (T := F_Reducer) (N := 7) hx hb htg i_Reducer hown hK hP 0 rfl rfl 5 (by decide) (htg _ tm_61) (fun _ h9 => h9) rfl d_R_shY_36 ?_
      refine W.lcmp hx hb d_R_shY_39 ?_
      refine lv_if_lt (tgt := 65) hx hb d_R_shY_40 (by decide) (fun c_7 => ?_) (fun c_7 => ?_)
      · rw [if_pos c_7] at h
        refine lv_aload_n hx hb d_R_shY_65 rfl (lv_at hl 0 rfl) ?_
        refine va_get (D := D) (ci := 1) (v := .long ry) (C := R_Reducer) (T := F_Reducer) (N := 7) hx hb htg i_Reducer hown hK hP 0 rfl rfl 4 (by decide) (htg _ tm_60) (fun _ h9 => h9) rfl d_R_shY_66 ?_
        refine lv_lconst (v := (0 : Int64)) hx hb d_R_shY_69 (by decide) ?_
        refine W.lcmp hx hb d_R_shY_70 ?_
        refine lv_if_le (tgt := 78) hx hb d_R_shY_71 (by decide) (fun c_8 => ?_) (fun c_8 => ?_)
        · rw [if_pos c_8] at h
          refine lv_iconst (v := (-1 : Int32)) hx hb d_R_shY_78 (by decide) ?_
          refine lv_istore_n (lv' := [(1, .int (-1 : Int32)), (0, .ref h0)]) hx hb d_R_shY_79 rfl hl (by decide) rfl (fun ls hl => ?_)
          refine lv_aload_n hx hb d_R_shY_80 rfl (lv_at hl 1 rfl) ?_
          refine lv_aload_n hx hb d_R_shY_81 rfl (lv_at hl 1 rfl) ?_
          refine va_get (D := D) (ci := 1) (v := .long ra) (C := R_Reducer) (T := F_Reducer) (N := 7) hx hb htg i_Reducer hown hK hP 0 rfl rfl 0 (by decide) (htg _ tm_56) (fun _ h9 => h9) rfl d_R_shY_82 ?_
          refine lv_aload_n hx hb d_R_shY_85 rfl (lv_at hl 1 rfl) ?_
          refine va_get (D := D) (ci := 1) (v := .long rc) (C := R_Reducer) (T := F_Reducer) (N := 7) hx hb htg i_Reducer hown hK hP 0 rfl rfl 2 (by decide) (htg _ tm_58) (fun _ h9 => h9) rfl d_R_shY_86 ?_
          refine lv_ladd hx hb d_R_shY_89 ?_
          refine lv_iload_n hx hb d_R_shY_90 rfl (lv_at hl 0 rfl) ?_
          refine lv_i2l hx hb d_R_shY_91 rfl ?_
          refine lv_aload_n hx hb d_R_shY_92 rfl (lv_at hl 1 rfl) ?_
          refine va_get (D := D) (ci := 1) (v := .long ry) (C := R_Reducer) (T := F_Reducer) (N := 7) hx hb htg i_Reducer hown hK hP 0 rfl rfl 4 (by decide) (htg _ tm_60) (fun _ h9 => h9) rfl d_R_shY_93 ?_
          refine lv_lmul hx hb d_R_shY_96 ?_
          refine lv_lsub hx hb d_R_shY_97 ?_
          refine va_put (D := D) (ci := 1) (v := .long ((ra + rc) - (((-1 : Int32).toInt64) * ry))) (ty := .long) (C := R_Reducer) (T := F_Reducer) (N := 7) hx hb htg i_Reducer t_Reducer t_Reducer_ok n_Reducer hown hK hP hD hS 0 rfl rfl 2 (by decide) (htg _ tm_58) (fun _ h9 => h9) rfl (by decide +kernel) rfl rfl (Nat.le_of_ble_eq_true rfl) d_R_shY_98 (fun H locs hP hD hS => ?_)
          have hP : va_P D classes ([(h0, .inr (1, [.long ra, .long rb, .long ((ra + rc) - (((-1 : Int32).toInt64) * ry)), .long rx, .long ry, .long rz, .int rs]))] ++ wt) H := hP
          have hD : va_D A ([(h0, .inr (1, [.long ra, .long rb, .long ((ra + rc) - (((-1 : Int32).toInt64) * ry)), .long rx, .long ry, .long rz, .int rs]))] ++ wt) := hD
          refine lv_aload_n hx hb d_R_shY_101 rfl (lv_at hl 1 rfl) ?_
          refine lv_aload_n hx hb d_R_shY_102 rfl (lv_at hl 1 rfl) ?_
          refine va_get (D := D) (ci := 1) (v := .long rx) (C := R_Reducer) (T := F_Reducer) (N := 7) hx hb htg i_Reducer hown hK hP 0 rfl rfl 3 (by decide) (htg _ tm_59) (fun _ h9 => h9) rfl d_R_shY_103 ?_
          refine lv_iload_n hx hb d_R_shY_106 rfl (lv_at hl 0 rfl) ?_
          refine lv_i2l hx hb d_R_shY_107 rfl ?_
          refine lv_aload_n hx hb d_R_shY_108 rfl (lv_at hl 1 rfl) ?_
          refine va_get (D := D) (ci := 1) (v := .long rz) (C := R_Reducer) (T := F_Reducer) (N := 7) hx hb htg i_Reducer hown hK hP 0 rfl rfl 5 (by decide) (htg _ tm_61) (fun _ h9 => h9) rfl d_R_shY_109 ?_
          refine lv_lmul hx hb d_R_shY_112 ?_
          refine lv_lsub hx hb d_R_shY_113 ?_
          refine va_put (D := D) (ci := 1) (v := .long (rx - (((-1 : Int32).toInt64) * rz))) (ty := .long) (C := R_Reducer) (T := F_Reducer) (N := 7) hx hb htg i_Reducer t_Reducer t_Reducer_ok n_Reducer hown hK hP hD hS 0 rfl rfl 3 (by decide) (htg _ tm_59) (fun _ h9 => h9) rfl (by decide +kernel) rfl rfl (Nat.le_of_ble_eq_true rfl) d_R_shY_114 (fun H locs hP hD hS => ?_)
          have hP : va_P D classes ([(h0, .inr (1, [.long ra, .long rb, .long ((ra + rc) - (((-1 : Int32).toInt64) * ry)), .long (rx - (((-1 : Int32).toInt64) * rz)), .long ry, .long rz, .int rs]))] ++ wt) H := hP
          have hD : va_D A ([(h0, .inr (1, [.long ra, .long rb, .long ((ra + rc) - (((-1 : Int32).toInt64) * ry)), .long (rx - (((-1 : Int32).toInt64) * rz)), .long ry, .long rz, .int rs]))] ++ wt) := hD
          refine lv_aload_n hx hb d_R_shY_117 rfl (lv_at hl 1 rfl) ?_
          refine lv_aload_n hx hb d_R_shY_118 rfl (lv_at hl 1 rfl) ?_
          refine va_get (D := D) (ci := 1) (v := .long ry) (C := R_Reducer) (T := F_Reducer) (N := 7) hx hb htg i_Reducer hown hK hP 0 rfl rfl 4 (by decide) (htg _ tm_60) (fun _ h9 => h9) rfl d_R_shY_119 ?_
          refine lv_iconst (v := (2 : Int32)) hx hb d_R_shY_122 (by decide) ?_
          refine lv_iload_n hx hb d_R_shY_123 rfl (lv_at hl 0 rfl) ?_
          refine lv_imul hx hb d_R_shY_124 ?_
          refine lv_i2l hx hb d_R_shY_125 rfl ?_
          refine lv_aload_n hx hb d_R_shY_126 rfl (lv_at hl 1 rfl) ?_
          refine va_get (D := D) (ci := 1) (v := .long ra) (C := R_Reducer) (T := F_Reducer) (N := 7) hx hb htg i_Reducer hown hK hP 0 rfl rfl 0 (by decide) (htg _ tm_56) (fun _ h9 => h9) rfl d_R_shY_127 ?_
          refine lv_lmul hx hb d_R_shY_130 ?_
          refine lv_lsub hx hb d_R_shY_131 ?_
          refine va_put (D := D) (ci := 1) (v := .long (ry - ((((2 : Int32) * (-1 : Int32)).toInt64) * ra))) (ty := .long) (C := R_Reducer) (T := F_Reducer) (N := 7) hx hb htg i_Reducer t_Reducer t_Reducer_ok n_Reducer hown hK hP hD hS 0 rfl rfl 4 (by decide) (htg _ tm_60) (fun _ h9 => h9) rfl (by decide +kernel) rfl rfl (Nat.le_of_ble_eq_true rfl) d_R_shY_132 (fun H locs hP hD hS => ?_)
          have hP : va_P D classes ([(h0, .inr (1, [.long ra, .long rb, .long ((ra + rc) - (((-1 : Int32).toInt64) * ry)), .long (rx - (((-1 : Int32).toInt64) * rz)), .long (ry - ((((2 : Int32) * (-1 : Int32)).toInt64) * ra)), .long rz, .int rs]))] ++ wt) H := hP
          have hD : va_D A ([(h0, .inr (1, [.long ra, .long rb, .long ((ra + rc) - (((-1 : Int32).toInt64) * ry)), .long (rx - (((-1 : Int32).toInt64) * rz)), .long (ry - ((((2 : Int32) * (-1 : Int32)).toInt64) * ra)), .long rz, .int rs]))] ++ wt) := hD
          refine lv_iconst (v := (1 : Int32)) hx hb d_R_shY_135 (by decide) ?_
          exact W.zret (v := (1 : Int32)) (ty := .boolean) hx hb hr rfl (fun t ht hW => ⟨⟨(1 : Int32), (ra, rb, (ra + rc) - (((-1 : Int32).toInt64) * ry), rx - (((-1 : Int32).toInt64) * rz), ry - ((((2 : Int32) * (-1 : Int32)).toInt64) * ra), rz, rs), rfl, h, by rw [ht]; exact hP, hD⟩, hS.F ht⟩) hS.2.2 d_R_shY_136
        · rw [if_neg c_8] at h
          refine lv_iconst (v := (1 : Int32)) hx hb d_R_shY_74 (by decide) ?_
          refine lv_goto (tgt := 79) hx hb d_R_shY_75 (by decide) ?_
          refine lv_istore_n (lv' := [(1, .int (1 : Int32)), (0, .ref h0)]) hx hb d_R_shY_79 rfl hl (by decide) rfl (fun ls hl => ?_)
          refine lv_aload_n hx hb d_R_shY_80 rfl (lv_at hl 1 rfl) ?_
          refine lv_aload_n hx hb d_R_shY_81 rfl (lv_at hl 1 rfl) ?_
          refine va_get (D := D) (ci := 1) (v := .long ra) (C := R_Reducer) (T := F_Reducer) (N := 7) hx hb htg i_Reducer hown hK hP 0 rfl rfl 0 (by decide) (htg _ tm_56) (fun _ h9 => h9) rfl d_R_shY_82 ?_
          refine lv_aload_n hx hb d_R_shY_85 rfl (lv_at hl 1 rfl) ?_
          refine va_get (D := D) (ci := 1) (v := .long rc) (C := R_Reducer) (T := F_Reducer) (N := 7) hx hb htg i_Reducer hown hK hP 0 rfl rfl 2 (by decide) (htg _ tm_58) (fun _ h9 => h9) rfl d_R_shY_86 ?_
          refine lv_ladd hx hb d_R_shY_89 ?_
          refine lv_iload_n hx hb d_R_shY_90 rfl (lv_at hl 0 rfl) ?_
          refine lv_i2l hx hb d_R_shY_91 rfl ?_
          refine lv_aload_n hx hb d_R_shY_92 rfl (lv_at hl 1 rfl) ?_
          refine va_get (D := D) (ci := 1) (v := .long ry) (C := R_Reducer) (T := F_Reducer) (N := 7) hx hb htg i_Reducer hown hK hP 0 rfl rfl 4 (by decide) (htg _ tm_60) (fun _ h9 => h9) rfl d_R_shY_93 ?_
          refine lv_lmul hx hb d_R_shY_96 ?_
          refine lv_lsub hx hb d_R_shY_97 ?_
          refine va_put (D := D) (ci := 1) (v := .long ((ra + rc) - (((1 : Int32).toInt64) * ry))) (ty := .long) (C := R_Reducer) (T := F_Reducer) (N := 7) hx hb htg i_Reducer t_Reducer t_Reducer_ok n_Reducer hown hK hP hD hS 0 rfl rfl 2 (by decide) (htg _ tm_58) (fun _ h9 => h9) rfl (by decide +kernel) rfl rfl (Nat.le_of_ble_eq_true rfl) d_R_shY_98 (fun H locs hP hD hS => ?_)
          have hP : va_P D classes ([(h0, .inr (1, [.long ra, .long rb, .long ((ra + rc) - (((1 : Int32).toInt64) * ry)), .long rx, .long ry, .long rz, .int rs]))] ++ wt) H := hP
          have hD : va_D A ([(h0, .inr (1, [.long ra, .long rb, .long ((ra + rc) - (((1 : Int32).toInt64) * ry)), .long rx, .long ry, .long rz, .int rs]))] ++ wt) := hD
          refine lv_aload_n hx hb d_R_shY_101 rfl (lv_at hl 1 rfl) ?_
          refine lv_aload_n hx hb d_R_shY_102 rfl (lv_at hl 1 rfl) ?_
          refine va_get (D := D) (ci := 1) (v := .long rx) (C := R_Reducer) (T := F_Reducer) (N := 7) hx hb htg i_Reducer hown hK hP 0 rfl rfl 3 (by decide) (htg _ tm_59) (fun _ h9 => h9) rfl d_R_shY_103 ?_
          refine lv_iload_n hx hb d_R_shY_106 rfl (lv_at hl 0 rfl) ?_
          refine lv_i2l hx hb d_R_shY_107 rfl ?_
          refine lv_aload_n hx hb d_R_shY_108 rfl (lv_at hl 1 rfl) ?_
          refine va_get (D := D) (ci := 1) (v := .long rz) (C := R_Reducer) (T := F_Reducer) (N := 7) hx hb htg i_Reducer hown hK hP 0 rfl rfl 5 (by decide) (htg _ tm_61) (fun _ h9 => h9) rfl d_R_shY_109 ?_
          refine lv_lmul hx hb d_R_shY_112 ?_
          refine lv_lsub hx hb d_R_shY_113 ?_
          refine va_put (D := D) (ci := 1) (v := .long (rx - (((1 : Int32).toInt64) * rz))) (ty := .long) (C := R_Reducer) (T := F_Reducer) (N := 7) hx hb htg i_Reducer t_Reducer t_Reducer_ok n_Reducer hown hK hP hD hS 0 rfl rfl 3 (by decide) (htg _ tm_59) (fun _ h9 => h9) rfl (by decide +kernel) rfl rfl (Nat.le_of_ble_eq_true rfl) d_R_shY_114 (fun H locs hP hD hS => ?_)
          have hP : va_P D classes ([(h0, .inr (1, [.long ra, .long rb, .long ((ra + rc) - (((1 : Int32).toInt64) * ry)), .long (rx - (((1 : Int32).toInt64) * rz)), .long ry, .long rz, .int rs]))] ++ wt) H := hP
          have hD : va_D A ([(h0, .inr (1, [.long ra, .long rb, .long ((ra + rc) - (((1 : Int32).toInt64) * ry)), .long (rx - (((1 : Int32).toInt64) * rz)), .long ry, .long rz, .int rs]))] ++ wt) := hD
          refine lv_aload_n hx hb d_R_shY_117 rfl (lv_at hl 1 rfl) ?_
          refine lv_aload_n hx hb d_R_shY_118 rfl (lv_at hl 1 rfl) ?_
          refine va_get (D := D) (ci := 1) (v := .long ry) (C := R_Reducer) (T := F_Reducer) (N := 7) hx hb htg i_Reducer hown hK hP 0 rfl rfl 4 (by decide) (htg _ tm_60) (fun _ h9 => h9) rfl d_R_shY_119 ?_
          refine lv_iconst (v := (2 : Int32)) hx hb d_R_shY_122 (by decide) ?_
          refine lv_iload_n hx hb d_R_shY_123 rfl (lv_at hl 0 rfl) ?_
          refine lv_imul hx hb d_R_shY_124 ?_
          refine lv_i2l hx hb d_R_shY_125 rfl ?_
          refine lv_aload_n hx hb d_R_shY_126 rfl (lv_at hl 1 rfl) ?_
          refine va_get (D := D) (ci := 1) (v := .long ra) (C := R_Reducer) (T := F_Reducer) (N := 7) hx hb htg i_Reducer hown hK hP 0 rfl rfl 0 (by decide) (htg _ tm_56) (fun _ h9 => h9) rfl d_R_shY_127 ?_
          refine lv_lmul hx hb d_R_shY_130 ?_
          refine lv_lsub hx hb d_R_shY_131 ?_
          refine va_put (D := D) (ci := 1) (v := .long (ry - ((((2 : Int32) * (1 : Int32)).toInt64) * ra))) (ty := .long) (C := R_Reducer) (T := F_Reducer) (N := 7) hx hb htg i_Reducer t_Reducer t_Reducer_ok n_Reducer hown hK hP hD hS 0 rfl rfl 4 (by decide) (htg _ tm_60) (fun _ h9 => h9) rfl (by decide +kernel) rfl rfl (Nat.le_of_ble_eq_true rfl) d_R_shY_132 (fun H locs hP hD hS => ?_)
          have hP : va_P D classes ([(h0, .inr (1, [.long ra, .long rb, .long ((ra + rc) - (((1 : Int32).toInt64) * ry)), .long (rx - (((1 : Int32).toInt64) * rz)), .long (ry - ((((2 : Int32) * (1 : Int32)).toInt64) * ra)), .long rz, .int rs]))] ++ wt) H := hP
          have hD : va_D A ([(h0, .inr (1, [.long ra, .long rb, .long ((ra + rc) - (((1 : Int32).toInt64) * ry)), .long (rx - (((1 : Int32).toInt64) * rz)), .long (ry - ((((2 : Int32) * (1 : Int32)).toInt64) * ra)), .long rz, .int rs]))] ++ wt) := hD
          refine lv_iconst (v := (1 : Int32)) hx hb d_R_shY_135 (by decide) ?_
          exact W.zret (v := (1 : Int32)) (ty := .boolean) hx hb hr rfl (fun t ht hW => ⟨⟨(1 : Int32), (ra, rb, (ra + rc) - (((1 : Int32).toInt64) * ry), rx - (((1 : Int32).toInt64) * rz), ry - ((((2 : Int32) * (1 : Int32)).toInt64) * ra), rz, rs), rfl, h, by rw [ht]; exact hP, hD⟩, hS.F ht⟩) hS.2.2 d_R_shY_136
      · rw [if_neg c_7] at h
        refine lv_aload_n hx hb d_R_shY_43 rfl (lv_at hl 0 rfl) ?_
        refine va_get (D := D) (ci := 1) (v := .long ry) (C := R_Reducer) (T := F_Reducer) (N := 7) hx hb htg i_Reducer hown hK hP 0 rfl rfl 4 (by decide) (htg _ tm_60) (fun _ h9 => h9) rfl d_R_shY_44 ?_
        refine lv_aload_n hx hb d_R_shY_47 rfl (lv_at hl 0 rfl) ?_
        refine va_get (D := D) (ci := 1) (v := .long ra) (C := R_Reducer) (T := F_Reducer) (N := 7) hx hb htg i_Reducer hown hK hP 0 rfl rfl 0 (by decide) (htg _ tm_56) (fun _ h9 => h9) rfl d_R_shY_48 ?_
        refine lv_lneg hx hb d_R_shY_51 ?_
        refine W.lcmp hx hb d_R_shY_52 ?_
        refine lv_if_ne (tgt := 137) hx hb d_R_shY_53 (by decide) (fun c_9 => ?_) (fun c_9 => ?_)
        · rw [if_neg c_9] at h
          refine lv_iconst (v := (0 : Int32)) hx hb d_R_shY_137 (by decide) ?_
          exact W.zret (v := (0 : Int32)) (ty := .boolean) hx hb hr rfl (fun t ht hW => ⟨⟨(0 : Int32), (ra, rb, rc, rx, ry, rz, rs), rfl, h, by rw [ht]; exact hP, hD⟩, hS.F ht⟩) hS.2.2 d_R_shY_138
        · rw [if_pos c_9] at h
          refine lv_aload_n hx hb d_R_shY_56 rfl (lv_at hl 0 rfl) ?_
          refine va_get (D := D) (ci := 1) (v := .long rz) (C := R_Reducer) (T := F_Reducer) (N := 7) hx hb htg i_Reducer hown hK hP 0 rfl rfl 5 (by decide) (htg _ tm_61) (fun _ h9 => h9) rfl d_R_shY_57 ?_
          refine lv_lconst (v := (0 : Int64)) hx hb d_R_shY_60 (by decide) ?_
          refine W.lcmp hx hb d_R_shY_61 ?_
          refine lv_if_ge (tgt := 137) hx hb d_R_shY_62 (by decide) (fun c_10 => ?_) (fun c_10 => ?_)
          · rw [if_pos c_10] at h
            refine lv_iconst (v := (0 : Int32)) hx hb d_R_shY_137 (by decide) ?_
            exact W.zret (v := (0 : Int32)) (ty := .boolean) hx hb hr rfl (fun t ht hW => ⟨⟨(0 : Int32), (ra, rb, rc, rx, ry, rz, rs), rfl, h, by rw [ht]; exact hP, hD⟩, hS.F ht⟩) hS.2.2 d_R_shY_138
          · rw [if_neg c_10] at h
            refine lv_aload_n hx hb d_R_shY_65 rfl (lv_at hl 0 rfl) ?_
            refine va_get (D := D) (ci := 1) (v := .long ry) (C := R_Reducer) (T := F_Reducer) (N := 7) hx hb htg i_Reducer hown hK hP 0 rfl rfl 4 (by decide) (htg _ tm_60) (fun _ h9 => h9) rfl d_R_shY_66 ?_
            refine lv_lconst (v := (0 : Int64)) hx hb d_R_shY_69 (by decide) ?_
            refine W.lcmp hx hb d_R_shY_70 ?_
            refine lv_if_le (tgt := 78) hx hb d_R_shY_71 (by decide) (fun c_11 => ?_) (fun c_11 => ?_)
            · rw [if_pos c_11] at h
              refine lv_iconst (v := (-1 : Int32)) hx hb d_R_shY_78 (by decide) ?_
              refine lv_istore_n (lv' := [(1, .int (-1 : Int32)), (0, .ref h0)]) hx hb d_R_shY_79 rfl hl (by decide) rfl (fun ls hl => ?_)
              refine lv_aload_n hx hb d_R_shY_80 rfl (lv_at hl 1 rfl) ?_
              refine lv_aload_n hx hb d_R_shY_81 rfl (lv_at hl 1 rfl) ?_
              refine va_get (D := D) (ci := 1) (v := .long ra) (C := R_Reducer) (T := F_Reducer) (N := 7) hx hb htg i_Reducer hown hK hP 0 rfl rfl 0 (by decide) (htg _ tm_56) (fun _ h9 => h9) rfl d_R_shY_82 ?_
              refine lv_aload_n hx hb d_R_shY_85 rfl (lv_at hl 1 rfl) ?_
              refine va_get (D := D) (ci := 1) (v := .long rc) (C := R_Reducer) (T := F_Reducer) (N := 7) hx hb htg i_Reducer hown hK hP 0 rfl rfl 2 (by decide) (htg _ tm_58) (fun _ h9 => h9) rfl d_R_shY_86 ?_
              refine lv_ladd hx hb d_R_shY_89 ?_
              refine lv_iload_n hx hb d_R_shY_90 rfl (lv_at hl 0 rfl) ?_
              refine lv_i2l hx hb d_R_shY_91 rfl ?_
              refine lv_aload_n hx hb d_R_shY_92 rfl (lv_at hl 1 rfl) ?_
              refine va_get (D := D) (ci := 1) (v := .long ry) (C := R_Reducer) (T := F_Reducer) (N := 7) hx hb htg i_Reducer hown hK hP 0 rfl rfl 4 (by decide) (htg _ tm_60) (fun _ h9 => h9) rfl d_R_shY_93 ?_
              refine lv_lmul hx hb d_R_shY_96 ?_
              refine lv_lsub hx hb d_R_shY_97 ?_
              refine va_put (D := D) (ci := 1) (v := .long ((ra + rc) - (((-1 : Int32).toInt64) * ry))) (ty := .long) (C := R_Reducer) (T := F_Reducer) (N := 7) hx hb htg i_Reducer t_Reducer t_Reducer_ok n_Reducer hown hK hP hD hS 0 rfl rfl 2 (by decide) (htg _ tm_58) (fun _ h9 => h9) rfl (by decide +kernel) rfl rfl (Nat.le_of_ble_eq_true rfl) d_R_shY_98 (fun H locs hP hD hS => ?_)
              have hP : va_P D classes ([(h0, .inr (1, [.long ra, .long rb, .long ((ra + rc) - (((-1 : Int32).toInt64) * ry)), .long rx, .long ry, .long rz, .int rs]))] ++ wt) H := hP
              have hD : va_D A ([(h0, .inr (1, [.long ra, .long rb, .long ((ra + rc) - (((-1 : Int32).toInt64) * ry)), .long rx, .long ry, .long rz, .int rs]))] ++ wt) := hD
              refine lv_aload_n hx hb d_R_shY_101 rfl (lv_at hl 1 rfl) ?_
              refine lv_aload_n hx hb d_R_shY_102 rfl (lv_at hl 1 rfl) ?_
              refine va_get (D := D) (ci := 1) (v := .long rx) (C := R_Reducer) (T := F_Reducer) (N := 7) hx hb htg i_Reducer hown hK hP 0 rfl rfl 3 (by decide) (htg _ tm_59) (fun _ h9 => h9) rfl d_R_shY_103 ?_
              refine lv_iload_n hx hb d_R_shY_106 rfl (lv_at hl 0 rfl) ?_
              refine lv_i2l hx hb d_R_shY_107 rfl ?_
              refine lv_aload_n hx hb d_R_shY_108 rfl (lv_at hl 1 rfl) ?_
              refine va_get (D := D) (ci := 1) (v := .long rz) (C := R_Reducer) (T := F_Reducer) (N := 7) hx hb htg i_Reducer hown hK hP 0 rfl rfl 5 (by decide) (htg _ tm_61) (fun _ h9 => h9) rfl d_R_shY_109 ?_
              refine lv_lmul hx hb d_R_shY_112 ?_
              refine lv_lsub hx hb d_R_shY_113 ?_
              refine va_put (D := D) (ci := 1) (v := .long (rx - (((-1 : Int32).toInt64) * rz))) (ty := .long) (C := R_Reducer) (T := F_Reducer) (N := 7) hx hb htg i_Reducer t_Reducer t_Reducer_ok n_Reducer hown hK hP hD hS 0 rfl rfl 3 (by decide) (htg _ tm_59) (fun _ h9 => h9) rfl (by decide +kernel) rfl rfl (Nat.le_of_ble_eq_true rfl) d_R_shY_114 (fun H locs hP hD hS => ?_)
              have hP : va_P D classes ([(h0, .inr (1, [.long ra, .long rb, .long ((ra + rc) - (((-1 : Int32).toInt64) * ry)), .long (rx - (((-1 : Int32).toInt64) * rz)), .long ry, .long rz, .int rs]))] ++ wt) H := hP
              have hD : va_D A ([(h0, .inr (1, [.long ra, .long rb, .long ((ra + rc) - (((-1 : Int32).toInt64) * ry)), .long (rx - (((-1 : Int32).toInt64) * rz)), .long ry, .long rz, .int rs]))] ++ wt) := hD
              refine lv_aload_n hx hb d_R_shY_117 rfl (lv_at hl 1 rfl) ?_
              refine lv_aload_n hx hb d_R_shY_118 rfl (lv_at hl 1 rfl) ?_
              refine va_get (D := D) (ci := 1) (v := .long ry) (C := R_Reducer) (T := F_Reducer) (N := 7) hx hb htg i_Reducer hown hK hP 0 rfl rfl 4 (by decide) (htg _ tm_60) (fun _ h9 => h9) rfl d_R_shY_119 ?_
              refine lv_iconst (v := (2 : Int32)) hx hb d_R_shY_122 (by decide) ?_
              refine lv_iload_n hx hb d_R_shY_123 rfl (lv_at hl 0 rfl) ?_
              refine lv_imul hx hb d_R_shY_124 ?_
              refine lv_i2l hx hb d_R_shY_125 rfl ?_
              refine lv_aload_n hx hb d_R_shY_126 rfl (lv_at hl 1 rfl) ?_
              refine va_get (D := D) (ci := 1) (v := .long ra) (C := R_Reducer) (T := F_Reducer) (N := 7) hx hb htg i_Reducer hown hK hP 0 rfl rfl 0 (by decide) (htg _ tm_56) (fun _ h9 => h9) rfl d_R_shY_127 ?_
              refine lv_lmul hx hb d_R_shY_130 ?_
              refine lv_lsub hx hb d_R_shY_131 ?_
              refine va_put (D := D) (ci := 1) (v := .long (ry - ((((2 : Int32) * (-1 : Int32)).toInt64) * ra))) (ty := .long) (C := R_Reducer) (T := F_Reducer) (N := 7) hx hb htg i_Reducer t_Reducer t_Reducer_ok n_Reducer hown hK hP hD hS 0 rfl rfl 4 (by decide) (htg _ tm_60) (fun _ h9 => h9) rfl (by decide +kernel) rfl rfl (Nat.le_of_ble_eq_true rfl) d_R_shY_132 (fun H locs hP hD hS => ?_)
              have hP : va_P D classes ([(h0, .inr (1, [.long ra, .long rb, .long ((ra + rc) - (((-1 : Int32).toInt64) * ry)), .long (rx - (((-1 : Int32).toInt64) * rz)), .long (ry - ((((2 : Int32) * (-1 : Int32)).toInt64) * ra)), .long rz, .int rs]))] ++ wt) H := hP
              have hD : va_D A ([(h0, .inr (1, [.long ra, .long rb, .long ((ra + rc) - (((-1 : Int32).toInt64) * ry)), .long (rx - (((-1 : Int32).toInt64) * rz)), .long (ry - ((((2 : Int32) * (-1 : Int32)).toInt64) * ra)), .long rz, .int rs]))] ++ wt) := hD
              refine lv_iconst (v := (1 : Int32)) hx hb d_R_shY_135 (by decide) ?_
              exact W.zret (v := (1 : Int32)) (ty := .boolean) hx hb hr rfl (fun t ht hW => ⟨⟨(1 : Int32), (ra, rb, (ra + rc) - (((-1 : Int32).toInt64) * ry), rx - (((-1 : Int32).toInt64) * rz), ry - ((((2 : Int32) * (-1 : Int32)).toInt64) * ra), rz, rs), rfl, h, by rw [ht]; exact hP, hD⟩, hS.F ht⟩) hS.2.2 d_R_shY_136
            · rw [if_neg c_11] at h
              refine lv_iconst (v := (1 : Int32)) hx hb d_R_shY_74 (by decide) ?_
              refine lv_goto (tgt := 79) hx hb d_R_shY_75 (by decide) ?_
              refine lv_istore_n (lv' := [(1, .int (1 : Int32)), (0, .ref h0)]) hx hb d_R_shY_79 rfl hl (by decide) rfl (fun ls hl => ?_)
              refine lv_aload_n hx hb d_R_shY_80 rfl (lv_at hl 1 rfl) ?_
              refine lv_aload_n hx hb d_R_shY_81 rfl (lv_at hl 1 rfl) ?_
              refine va_get (D := D) (ci := 1) (v := .long ra) (C := R_Reducer) (T := F_Reducer) (N := 7) hx hb htg i_Reducer hown hK hP 0 rfl rfl 0 (by decide) (htg _ tm_56) (fun _ h9 => h9) rfl d_R_shY_82 ?_
              refine lv_aload_n hx hb d_R_shY_85 rfl (lv_at hl 1 rfl) ?_
              refine va_get (D := D) (ci := 1) (v := .long rc) (C := R_Reducer) (T := F_Reducer) (N := 7) hx hb htg i_Reducer hown hK hP 0 rfl rfl 2 (by decide) (htg _ tm_58) (fun _ h9 => h9) rfl d_R_shY_86 ?_
              refine lv_ladd hx hb d_R_shY_89 ?_
              refine lv_iload_n hx hb d_R_shY_90 rfl (lv_at hl 0 rfl) ?_
              refine lv_i2l hx hb d_R_shY_91 rfl ?_
              refine lv_aload_n hx hb d_R_shY_92 rfl (lv_at hl 1 rfl) ?_
              refine va_get (D := D) (ci := 1) (v := .long ry) (C := R_Reducer) (T := F_Reducer) (N := 7) hx hb htg i_Reducer hown hK hP 0 rfl rfl 4 (by decide) (htg _ tm_60) (fun _ h9 => h9) rfl d_R_shY_93 ?_
              refine lv_lmul hx hb d_R_shY_96 ?_
              refine lv_lsub hx hb d_R_shY_97 ?_
              refine va_put (D := D) (ci := 1) (v := .long ((ra + rc) - (((1 : Int32).toInt64) * ry))) (ty := .long) (C := R_Reducer) (T := F_Reducer) (N := 7) hx hb htg i_Reducer t_Reducer t_Reducer_ok n_Reducer hown hK hP hD hS 0 rfl rfl 2 (by decide) (htg _ tm_58) (fun _ h9 => h9) rfl (by decide +kernel) rfl rfl (Nat.le_of_ble_eq_true rfl) d_R_shY_98 (fun H locs hP hD hS => ?_)
              have hP : va_P D classes ([(h0, .inr (1, [.long ra, .long rb, .long ((ra + rc) - (((1 : Int32).toInt64) * ry)), .long rx, .long ry, .long rz, .int rs]))] ++ wt) H := hP
              have hD : va_D A ([(h0, .inr (1, [.long ra, .long rb, .long ((ra + rc) - (((1 : Int32).toInt64) * ry)), .long rx, .long ry, .long rz, .int rs]))] ++ wt) := hD
              refine lv_aload_n hx hb d_R_shY_101 rfl (lv_at hl 1 rfl) ?_
              refine lv_aload_n hx hb d_R_shY_102 rfl (lv_at hl 1 rfl) ?_
              refine va_get (D := D) (ci := 1) (v := .long rx) (C := R_Reducer) (T := F_Reducer) (N := 7) hx hb htg i_Reducer hown hK hP 0 rfl rfl 3 (by decide) (htg _ tm_59) (fun _ h9 => h9) rfl d_R_shY_103 ?_
              refine lv_iload_n hx hb d_R_shY_106 rfl (lv_at hl 0 rfl) ?_
              refine lv_i2l hx hb d_R_shY_107 rfl ?_
              refine lv_aload_n hx hb d_R_shY_108 rfl (lv_at hl 1 rfl) ?_
              refine va_get (D := D) (ci := 1) (v := .long rz) (C := R_Reducer) (T := F_Reducer) (N := 7) hx hb htg i_Reducer hown hK hP 0 rfl rfl 5 (by decide) (htg _ tm_61) (fun _ h9 => h9) rfl d_R_shY_109 ?_
              refine lv_lmul hx hb d_R_shY_112 ?_
              refine lv_lsub hx hb d_R_shY_113 ?_
              refine va_put (D := D) (ci := 1) (v := .long (rx - (((1 : Int32).toInt64) * rz))) (ty := .long) (C := R_Reducer) (T := F_Reducer) (N := 7) hx hb htg i_Reducer t_Reducer t_Reducer_ok n_Reducer hown hK hP hD hS 0 rfl rfl 3 (by decide) (htg _ tm_59) (fun _ h9 => h9) rfl (by decide +kernel) rfl rfl (Nat.le_of_ble_eq_true rfl) d_R_shY_114 (fun H locs hP hD hS => ?_)
              have hP : va_P D classes ([(h0, .inr (1, [.long ra, .long rb, .long ((ra + rc) - (((1 : Int32).toInt64) * ry)), .long (rx - (((1 : Int32).toInt64) * rz)), .long ry, .long rz, .int rs]))] ++ wt) H := hP
              have hD : va_D A ([(h0, .inr (1, [.long ra, .long rb, .long ((ra + rc) - (((1 : Int32).toInt64) * ry)), .long (rx - (((1 : Int32).toInt64) * rz)), .long ry, .long rz, .int rs]))] ++ wt) := hD
              refine lv_aload_n hx hb d_R_shY_117 rfl (lv_at hl 1 rfl) ?_
              refine lv_aload_n hx hb d_R_shY_118 rfl (lv_at hl 1 rfl) ?_
              refine va_get (D := D) (ci := 1) (v := .long ry) (C := R_Reducer) (T := F_Reducer) (N := 7) hx hb htg i_Reducer hown hK hP 0 rfl rfl 4 (by decide) (htg _ tm_60) (fun _ h9 => h9) rfl d_R_shY_119 ?_
              refine lv_iconst (v := (2 : Int32)) hx hb d_R_shY_122 (by decide) ?_
              refine lv_iload_n hx hb d_R_shY_123 rfl (lv_at hl 0 rfl) ?_
              refine lv_imul hx hb d_R_shY_124 ?_
              refine lv_i2l hx hb d_R_shY_125 rfl ?_
              refine lv_aload_n hx hb d_R_shY_126 rfl (lv_at hl 1 rfl) ?_
              refine va_get (D := D) (ci := 1) (v := .long ra) (C := R_Reducer) (T := F_Reducer) (N := 7) hx hb htg i_Reducer hown hK hP 0 rfl rfl 0 (by decide) (htg _ tm_56) (fun _ h9 => h9) rfl d_R_shY_127 ?_
              refine lv_lmul hx hb d_R_shY_130 ?_
              refine lv_lsub hx hb d_R_shY_131 ?_
              refine va_put (D := D) (ci := 1) (v := .long (ry - ((((2 : Int32) * (1 : Int32)).toInt64) * ra))) (ty := .long) (C := R_Reducer) (T := F_Reducer) (N := 7) hx hb htg i_Reducer t_Reducer t_Reducer_ok n_Reducer hown hK hP hD hS 0 rfl rfl 4 (by decide) (htg _ tm_60) (fun _ h9 => h9) rfl (by decide +kernel) rfl rfl (Nat.le_of_ble_eq_true rfl) d_R_shY_132 (fun H locs hP hD hS => ?_)
              have hP : va_P D classes ([(h0, .inr (1, [.long ra, .long rb, .long ((ra + rc) - (((1 : Int32).toInt64) * ry)), .long (rx - (((1 : Int32).toInt64) * rz)), .long (ry - ((((2 : Int32) * (1 : Int32)).toInt64) * ra)), .long rz, .int rs]))] ++ wt) H := hP
              have hD : va_D A ([(h0, .inr (1, [.long ra, .long rb, .long ((ra + rc) - (((1 : Int32).toInt64) * ry)), .long (rx - (((1 : Int32).toInt64) * rz)), .long (ry - ((((2 : Int32) * (1 : Int32)).toInt64) * ra)), .long rz, .int rs]))] ++ wt) := hD
              refine lv_iconst (v := (1 : Int32)) hx hb d_R_shY_135 (by decide) ?_
              exact W.zret (v := (1 : Int32)) (ty := .boolean) hx hb hr rfl (fun t ht hW => ⟨⟨(1 : Int32), (ra, rb, (ra + rc) - (((1 : Int32).toInt64) * ry), rx - (((1 : Int32).toInt64) * rz), ry - ((((2 : Int32) * (1 : Int32)).toInt64) * ra), rz, rs), rfl, h, by rw [ht]; exact hP, hD⟩, hS.F ht⟩) hS.2.2 d_R_shY_136
-- CellBench$Reducer shearByZ ()Z
def f_R_shZ (ra : Int64) (rb : Int64) (rc : Int64) (rx : Int64) (ry : Int64) (rz : Int64) (rs : Int32) : Int32 × Int64 × Int64 × Int64 × Int64 × Int64 × Int64 × Int32 :=
    if 0 < (lg_cmp (if 0 < rz then rz else -rz) ra) then (if (lg_cmp rz (0 : Int64)) ≤ 0 then ((1 : Int32), ra, (ra + rb) - (((-1 : Int32).toInt64) * rz), rc, rx - (((-1 : Int32).toInt64) * ry), ry, rz - ((((2 : Int32) * (-1 : Int32)).toInt64) * ra), rs) else ((1 : Int32), ra, (ra + rb) - (((1 : Int32).toInt64) * rz), rc, rx - (((1 : Int32).toInt64) * ry), ry, rz - ((((2 : Int32) * (1 : Int32)).toInt64) * ra), rs)) else (if (lg_cmp rz ra) = 0 then (if (lg_cmp ((2 : Int64) * rx) ry) < 0 then (if (lg_cmp rz (0 : Int64)) ≤ 0 then ((1 : Int32), ra, (ra + rb) - (((-1 : Int32).toInt64) * rz), rc, rx - (((-1 : Int32).toInt64) * ry), ry, rz - ((((2 : Int32) * (-1 : Int32)).toInt64) * ra), rs) else ((1 : Int32), ra, (ra + rb) - (((1 : Int32).toInt64) * rz), rc, rx - (((1 : Int32).toInt64) * ry), ry, rz - ((((2 : Int32) * (1 : Int32)).toInt64) * ra), rs)) else (if (lg_cmp rz (-ra)) = 0 then (if 0 ≤ (lg_cmp ry (0 : Int64)) then ((0 : Int32), ra, rb, rc, rx, ry, rz, rs) else (if (lg_cmp rz (0 : Int64)) ≤ 0 then ((1 : Int32), ra, (ra + rb) - (((-1 : Int32).toInt64) * rz), rc, rx - (((-1 : Int32).toInt64) * ry), ry, rz - ((((2 : Int32) * (-1 : Int32)).toInt64) * ra), rs) else ((1 : Int32), ra, (ra + rb) - (((1 : Int32).toInt64) * rz), rc, rx - (((1 : Int32).toInt64) * ry), ry, rz - ((((2 : Int32) * (1 : Int32)).toInt64) * ra), rs))) else ((0 : Int32), ra, rb, rc, rx, ry, rz, rs))) else (if (lg_cmp rz (-ra)) = 0 then (if 0 ≤ (lg_cmp ry (0 : Int64)) then ((0 : Int32), ra, rb, rc, rx, ry, rz, rs) else (if (lg_cmp rz (0 : Int64)) ≤ 0 then ((1 : Int32), ra, (ra + rb) - (((-1 : Int32).toInt64) * rz), rc, rx - (((-1 : Int32).toInt64) * ry), ry, rz - ((((2 : Int32) * (-1 : Int32)).toInt64) * ra), rs) else ((1 : Int32), ra, (ra + rb) - (((1 : Int32).toInt64) * rz), rc, rx - (((1 : Int32).toInt64) * ry), ry, rz - ((((2 : Int32) * (1 : Int32)).toInt64) * ra), rs))) else ((0 : Int32), ra, rb, rc, rx, ry, rz, rs)))
def w_R_shZ : List Cond := .code y_R_shZ b_R_shZ 2 (some .boolean) :: GW
abbrev rm_R_shZ : Room := { frames := 1, cells := 0, slots := 0, locals := 13 }
theorem g_R_shZ : GoodIn GW w_R_shZ := gi tm_213
set_option maxHeartbeats 4000000 in
set_option maxRecDepth 100000 in
theorem c_R_shZ (l : Launch) (D : va_G) (ct : CT) (A : Nat → Prop) (wt : va_W)  (h0 : Nat) (ra : Int64) (rb : Int64) (rc : Int64) (rx : Int64) (ry : Int64) (rz : Int64) (rs : Int32)   (r0 : Int32 × Int64 × Int64 × Int64 × Int64 × Int64 × Int64 × Int32) (h : f_R_shZ ra rb rc rx ry rz rs = r0) : Met l y_R_shZ w_R_shZ rm_R_shZ (va_Pc [.ref h0] (PreM D ct A ([(h0, .inr (1, [.long ra, .long rb, .long rc, .long rx, .long ry, .long rz, .int rs]))] ++ wt))) (va_Qi (fun r u => (r, u) = r0) (fun (u : Int64 × Int64 × Int64 × Int64 × Int64 × Int64 × Int32) t => match u with | (ra', rb', rc', rx', ry', rz', rs') => va_P D classes ([(h0, .inr (1, [.long ra', .long rb', .long rc', .long rx', .long ry', .long rz', .int rs']))] ++ wt) t.heap ∧ va_D A ([(h0, .inr (1, [.long ra', .long rb', .long rc', .long rx', .long ry', .long rz', .int rs']))] ++ wt)) A) 0 0 A := by
  refine Met.ofW (cc := b_R_shZ) (maxL := 2) (ret := (some .boolean)) (by decide) rfl ?_
  intro p e s m args below meth c s₁ B hml hv
  obtain ⟨rfl, hA, hP, hD, hKK⟩ := hv
  have hx := B.exec
  have hb := B.bytes
  have hr := B.returns
  have htg := ht_tl (atoms_spec (ws := w_R_shZ) B.pre)
  have hown : s.vm.findClass R_Reducer = some m.cls := findClass_of_methodNamed B.named
  have hlocks := B.notSynchronized
  have hK := hKK.1
  have hN := hKK.2.1
  have hO := hKK.2.2
  have hS : va_S A s.heap s.heap [] := va_S.rf
  have hl := lv_entry ([.ref h0]) (n := 2) (Nat.le_of_ble_eq_true rfl)
  rw [lg_entry_eq]
  generalize (lg_sl ([.ref h0]) ++ List.replicate (2 - (lg_sl ([.ref h0])).length) Slot.unset).toArray = ls at hl ⊢
  have hl : lv_has ls 2 [(0, .ref h0)] := hl
  unfold f_R_shZ at h
  refine lv_aload_n hx hb d_R_shZ_0 rfl (lv_at hl 0 rfl) ?_
  refine va_get (D := D) (ci := 1) (v := .long rz) (C := R_Reducer) (T := F_Reducer) (N := 7) hx hb htg i_Reducer hown hK hP 0 rfl rfl 5 (by decide) (htg _ tm_61) (fun _ h9 => h9) rfl d_R_shZ_1 ?_
  refine va_mabs_long hx hb (by rw [hml]; exact hl.1.symm) hown (htg _ tm_188) (htg _ tm_189) (htg _ tm_36) (htg _ tm_190) (Nat.le_of_ble_eq_true rfl) (Nat.le_of_ble_eq_true rfl) (Nat.le_of_ble_eq_true rfl) (Nat.le_of_ble_eq_true rfl) d_R_shZ_4 ?_
  refine lv_aload_n hx hb d_R_shZ_7 rfl (lv_at hl 0 rfl) ?_
  refine va_get (D := D) (ci := 1) (v := .long ra) (C := R_Reducer) (T := F_Reducer) (N := 7) hx hb htg i_Reducer hown hK hP 0 rfl rfl 0 (by decide) (htg _ tm_56) (fun _ h9 => h9) rfl d_R_shZ_8 ?_
  refine W.lcmp hx hb d_R_shZ_11 ?_
  refine lv_if_gt (tgt := 65) hx hb d_R_shZ_12 (by decide) (fun c_1 => ?_) (fun c_1 => ?_)
  · rw [if_pos c_1] at h
    refine lv_aload_n hx hb d_R_shZ_65 rfl (lv_at hl 0 rfl) ?_
    refine va_get (D := D) (ci := 1) (v := .long rz) (C := R_Reducer) (T := F_Reducer) (N := 7) hx hb htg i_Reducer hown hK hP 0 rfl rfl 5 (by decide) (htg _ tm_61) (fun _ h9 => h9) rfl d_R_shZ_66 ?_
    refine lv_lconst (v := (0 : Int64)) hx hb d_R_shZ_69 (by decide) ?_
    refine W.lcmp hx hb d_R_shZ_70 ?_
    refine lv_if_le (tgt := 78) hx hb d_R_shZ_71 (by decide) (fun c_2 => ?_) (fun c_2 => ?_)
    · rw [if_pos c_2] at h
      refine lv_iconst (v := (-1 : Int32)) hx hb d_R_shZ_78 (by decide) ?_
      refine lv_istore_n (lv' := [(1, .int (-1 : Int32)), (0, .ref h0)]) hx hb d_R_shZ_79 rfl hl (by decide) rfl (fun ls hl => ?_)
      refine lv_aload_n hx hb d_R_shZ_80 rfl (lv_at hl 1 rfl) ?_
      refine lv_aload_n hx hb d_R_shZ_81 rfl (lv_at hl 1 rfl) ?_
      refine va_get (D := D) (ci := 1) (v := .long ra) (C := R_Reducer) (T := F_Reducer) (N := 7) hx hb htg i_Reducer hown hK hP 0 rfl rfl 0 (by decide) (htg _ tm_56) (fun _ h9 => h9) rfl d_R_shZ_82 ?_
      refine lv_aload_n hx hb d_R_shZ_85 rfl (lv_at hl 1 rfl) ?_
      refine va_get (D := D) (ci := 1) (v := .long rb) (C := R_Reducer) (T := F_Reducer) (N := 7) hx hb htg i_Reducer hown hK hP 0 rfl rfl 1 (by decide) (htg _ tm_57) (fun _ h9 => h9) rfl d_R_shZ_86 ?_
      refine lv_ladd hx hb d_R_shZ_89 ?_
      refine lv_iload_n hx hb d_R_shZ_90 rfl (lv_at hl 0 rfl) ?_
      refine lv_i2l hx hb d_R_shZ_91 rfl ?_
      refine lv_aload_n hx hb d_R_shZ_92 rfl (lv_at hl 1 rfl) ?_
      refine va_get (D := D) (ci := 1) (v := .long rz) (C := R_Reducer) (T := F_Reducer) (N := 7) hx hb htg i_Reducer hown hK hP 0 rfl rfl 5 (by decide) (htg _ tm_61) (fun _ h9 => h9) rfl d_R_shZ_93 ?_
      refine lv_lmul hx hb d_R_shZ_96 ?_
      refine lv_lsub hx hb d_R_shZ_97 ?_
      refine va_put (D := D) (ci := 1) (v := .long ((ra + rb) - (((-1 : Int32).toInt64) * rz))) (ty := .long) (C := R_Reducer) (T := F_Reducer) (N := 7) hx hb htg i_Reducer t_Reducer t_Reducer_ok n_Reducer hown hK hP hD hS 0 rfl rfl 1 (by decide) (htg _ tm_57) (fun _ h9 => h9) rfl (by decide +kernel) rfl rfl (Nat.le_of_ble_eq_true rfl) d_R_shZ_98 (fun H locs hP hD hS => ?_)
      have hP : va_P D classes ([(h0, .inr (1, [.long ra, .long ((ra + rb) - (((-1 : Int32).toInt64) * rz)), .long rc, .long rx, .long ry, .long rz, .int rs]))] ++ wt) H := hP
      have hD : va_D A ([(h0, .inr (1, [.long ra, .long ((ra + rb) - (((-1 : Int32).toInt64) * rz)), .long rc, .long rx, .long ry, .long rz, .int rs]))] ++ wt) := hD
      refine lv_aload_n hx hb d_R_shZ_101 rfl (lv_at hl 1 rfl) ?_
      refine lv_aload_n hx hb d_R_shZ_102 rfl (lv_at hl 1 rfl) ?_
      refine va_get (D := D) (ci := 1) (v := .long rx) (C := R_Reducer) (T := F_Reducer) (N := 7) hx hb htg i_Reducer hown hK hP 0 rfl rfl 3 (by decide) (htg _ tm_59) (fun _ h9 => h9) rfl d_R_shZ_103 ?_
      refine lv_iload_n hx hb d_R_shZ_106 rfl (lv_at hl 0 rfl) ?_
      refine lv_i2l hx hb d_R_shZ_107 rfl ?_
      refine lv_aload_n hx hb d_R_shZ_108 rfl (lv_at hl 1 rfl) ?_
      refine va_get (D := D) (ci := 1) (v := .long ry) (C := R_Reducer) (T := F_Reducer) (N := 7) hx hb htg i_Reducer hown hK hP 0 rfl rfl 4 (by decide) (htg _ tm_60) (fun _ h9 => h9) rfl d_R_shZ_109 ?_
      refine lv_lmul hx hb d_R_shZ_112 ?_
      refine lv_lsub hx hb d_R_shZ_113 ?_
      refine va_put (D := D) (ci := 1) (v := .long (rx - (((-1 : Int32).toInt64) * ry))) (ty := .long) (C := R_Reducer) (T := F_Reducer) (N := 7) hx hb htg i_Reducer t_Reducer t_Reducer_ok n_Reducer hown hK hP hD hS 0 rfl rfl 3 (by decide) (htg _ tm_59) (fun _ h9 => h9) rfl (by decide +kernel) rfl rfl (Nat.le_of_ble_eq_true rfl) d_R_shZ_114 (fun H locs hP hD hS => ?_)
      have hP : va_P D classes ([(h0, .inr (1, [.long ra, .long ((ra + rb) - (((-1 : Int32).toInt64) * rz)), .long rc, .long (rx - (((-1 : Int32).toInt64) * ry)), .long ry, .long rz, .int rs]))] ++ wt) H := hP
      have hD : va_D A ([(h0, .inr (1, [.long ra, .long ((ra + rb) - (((-1 : Int32).toInt64) * rz)), .long rc, .long (rx - (((-1 : Int32).toInt64) * ry)), .long ry, .long rz, .int rs]))] ++ wt) := hD
      refine lv_aload_n hx hb d_R_shZ_117 rfl (lv_at hl 1 rfl) ?_
      refine lv_aload_n hx hb d_R_shZ_118 rfl (lv_at hl 1 rfl) ?_
      refine va_get (D := D) (ci := 1) (v := .long rz) (C := R_Reducer) (T := F_Reducer) (N := 7) hx hb htg i_Reducer hown hK hP 0 rfl rfl 5 (by decide) (htg _ tm_61) (fun _ h9 => h9) rfl d_R_shZ_119 ?_
      refine lv_iconst (v := (2 : Int32)) hx hb d_R_shZ_122 (by decide) ?_
      refine lv_iload_n hx hb d_R_shZ_123 rfl (lv_at hl 0 rfl) ?_
      refine lv_imul hx hb d_R_shZ_124 ?_
      refine lv_i2l hx hb d_R_shZ_125 rfl ?_
      refine lv_aload_n hx hb d_R_shZ_126 rfl (lv_at hl 1 rfl) ?_
      refine va_get (D := D) (ci := 1) (v := .long ra) (C := R_Reducer) (T := F_Reducer) (N := 7) hx hb htg i_Reducer hown hK hP 0 rfl rfl 0 (by decide) (htg _ tm_56) (fun _ h9 => h9) rfl d_R_shZ_127 ?_
      refine lv_lmul hx hb d_R_shZ_130 ?_
      refine lv_lsub hx hb d_R_shZ_131 ?_
      refine va_put (D := D) (ci := 1) (v := .long (rz - ((((2 : Int32) * (-1 : Int32)).toInt64) * ra))) (ty := .long) (C := R_Reducer) (T := F_Reducer) (N := 7) hx hb htg i_Reducer t_Reducer t_Reducer_ok n_Reducer hown hK hP hD hS 0 rfl rfl 5 (by decide) (htg _ tm_61) (fun _ h9 => h9) rfl (by decide +kernel) rfl rfl (Nat.le_of_ble_eq_true rfl) d_R_shZ_132 (fun H locs hP hD hS => ?_)
      have hP : va_P D classes ([(h0, .inr (1, [.long ra, .long ((ra + rb) - (((-1 : Int32).toInt64) * rz)), .long rc, .long (rx - (((-1 : Int32).toInt64) * ry)), .long ry, .long (rz - ((((2 : Int32) * (-1 : Int32)).toInt64) * ra)), .int rs]))] ++ wt) H := hP
      have hD : va_D A ([(h0, .inr (1, [.long ra, .long ((ra + rb) - (((-1 : Int32).toInt64) * rz)), .long rc, .long (rx - (((-1 : Int32).toInt64) * ry)), .long ry, .long (rz - ((((2 : Int32) * (-1 : Int32)).toInt64) * ra)), .int rs]))] ++ wt) := hD
      refine lv_iconst (v := (1 : Int32)) hx hb d_R_shZ_135 (by decide) ?_
      exact W.zret (v := (1 : Int32)) (ty := .boolean) hx hb hr rfl (fun t ht hW => ⟨⟨(1 : Int32), (ra, (ra + rb) - (((-1 : Int32).toInt64) * rz), rc, rx - (((-1 : Int32).toInt64) * ry), ry, rz - ((((2 : Int32) * (-1 : Int32)).toInt64) * ra), rs), rfl, h, by rw [ht]; exact hP, hD⟩, hS.F ht⟩) hS.2.2 d_R_shZ_136
    · rw [if_neg c_2] at h
      refine lv_iconst (v := (1 : Int32)) hx hb d_R_shZ_74 (by decide) ?_
      refine lv_goto (tgt := 79) hx hb d_R_shZ_75 (by decide) ?_
      refine lv_istore_n (lv' := [(1, .int (1 : Int32)), (0, .ref h0)]) hx hb d_R_shZ_79 rfl hl (by decide) rfl (fun ls hl => ?_)
      refine lv_aload_n hx hb d_R_shZ_80 rfl (lv_at hl 1 rfl) ?_
      refine lv_aload_n hx hb d_R_shZ_81 rfl (lv_at hl 1 rfl) ?_
      refine va_get (D := D) (ci := 1) (v := .long ra) (C := R_Reducer) (T := F_Reducer) (N := 7) hx hb htg i_Reducer hown hK hP 0 rfl rfl 0 (by decide) (htg _ tm_56) (fun _ h9 => h9) rfl d_R_shZ_82 ?_
      refine lv_aload_n hx hb d_R_shZ_85 rfl (lv_at hl 1 rfl) ?_
      refine va_get (D := D) (ci := 1) (v := .long rb) (C := R_Reducer) (T := F_Reducer) (N := 7) hx hb htg i_Reducer hown hK hP 0 rfl rfl 1 (by decide) (htg _ tm_57) (fun _ h9 => h9) rfl d_R_shZ_86 ?_
      refine lv_ladd hx hb d_R_shZ_89 ?_
      refine lv_iload_n hx hb d_R_shZ_90 rfl (lv_at hl 0 rfl) ?_
      refine lv_i2l hx hb d_R_shZ_91 rfl ?_
      refine lv_aload_n hx hb d_R_shZ_92 rfl (lv_at hl 1 rfl) ?_
      refine va_get (D := D) (ci := 1) (v := .long rz) (C := R_Reducer) (T := F_Reducer) (N := 7) hx hb htg i_Reducer hown hK hP 0 rfl rfl 5 (by decide) (htg _ tm_61) (fun _ h9 => h9) rfl d_R_shZ_93 ?_
      refine lv_lmul hx hb d_R_shZ_96 ?_
      refine lv_lsub hx hb d_R_shZ_97 ?_
      refine va_put (D := D) (ci := 1) (v := .long ((ra + rb) - (((1 : Int32).toInt64) * rz))) (ty := .long) (C := R_Reducer) (T := F_Reducer) (N := 7) hx hb htg i_Reducer t_Reducer t_Reducer_ok n_Reducer hown hK hP hD hS 0 rfl rfl 1 (by decide) (htg _ tm_57) (fun _ h9 => h9) rfl (by decide +kernel) rfl rfl (Nat.le_of_ble_eq_true rfl) d_R_shZ_98 (fun H locs hP hD hS => ?_)
      have hP : va_P D classes ([(h0, .inr (1, [.long ra, .long ((ra + rb) - (((1 : Int32).toInt64) * rz)), .long rc, .long rx, .long ry, .long rz, .int rs]))] ++ wt) H := hP
      have hD : va_D A ([(h0, .inr (1, [.long ra, .long ((ra + rb) - (((1 : Int32).toInt64) * rz)), .long rc, .long rx, .long ry, .long rz, .int rs]))] ++ wt) := hD
      refine lv_aload_n hx hb d_R_shZ_101 rfl (lv_at hl 1 rfl) ?_
      refine lv_aload_n hx hb d_R_shZ_102 rfl (lv_at hl 1 rfl) ?_
      refine va_get (D := D) (ci := 1) (v := .long rx) (C := R_Reducer) (T := F_Reducer) (N := 7) hx hb htg i_Reducer hown hK hP 0 rfl rfl 3 (by decide) (htg _ tm_59) (fun _ h9 => h9) rfl d_R_shZ_103 ?_
      refine lv_iload_n hx hb d_R_shZ_106 rfl (lv_at hl 0 rfl) ?_
      refine lv_i2l hx hb d_R_shZ_107 rfl ?_
      refine lv_aload_n hx hb d_R_shZ_108 rfl (lv_at hl 1 rfl) ?_
      refine va_get (D := D) (ci := 1) (v := .long ry) (C := R_Reducer) (T := F_Reducer) (N := 7) hx hb htg i_Reducer hown hK hP 0 rfl rfl 4 (by decide) (htg _ tm_60) (fun _ h9 => h9) rfl d_R_shZ_109 ?_
      refine lv_lmul hx hb d_R_shZ_112 ?_
      refine lv_lsub hx hb d_R_shZ_113 ?_
      refine va_put (D := D) (ci := 1) (v := .long (rx - (((1 : Int32).toInt64) * ry))) (ty := .long) (C := R_Reducer) (T := F_Reducer) (N := 7) hx hb htg i_Reducer t_Reducer t_Reducer_ok n_Reducer hown hK hP hD hS 0 rfl rfl 3 (by decide) (htg _ tm_59) (fun _ h9 => h9) rfl (by decide +kernel) rfl rfl (Nat.le_of_ble_eq_true rfl) d_R_shZ_114 (fun H locs hP hD hS => ?_)
      have hP : va_P D classes ([(h0, .inr (1, [.long ra, .long ((ra + rb) - (((1 : Int32).toInt64) * rz)), .long rc, .long (rx - (((1 : Int32).toInt64) * ry)), .long ry, .long rz, .int rs]))] ++ wt) H := hP
      have hD : va_D A ([(h0, .inr (1, [.long ra, .long ((ra + rb) - (((1 : Int32).toInt64) * rz)), .long rc, .long (rx - (((1 : Int32).toInt64) * ry)), .long ry, .long rz, .int rs]))] ++ wt) := hD
      refine lv_aload_n hx hb d_R_shZ_117 rfl (lv_at hl 1 rfl) ?_
      refine lv_aload_n hx hb d_R_shZ_118 rfl (lv_at hl 1 rfl) ?_
      refine va_get (D := D) (ci := 1) (v := .long rz) (C := R_Reducer) (T := F_Reducer) (N := 7) hx hb htg i_Reducer hown hK hP 0 rfl rfl 5 (by decide) (htg _ tm_61) (fun _ h9 => h9) rfl d_R_shZ_119 ?_
      refine lv_iconst (v := (2 : Int32)) hx hb d_R_shZ_122 (by decide) ?_
      refine lv_iload_n hx hb d_R_shZ_123 rfl (lv_at hl 0 rfl) ?_
      refine lv_imul hx hb d_R_shZ_124 ?_
      refine lv_i2l hx hb d_R_shZ_125 rfl ?_
      refine lv_aload_n hx hb d_R_shZ_126 rfl (lv_at hl 1 rfl) ?_
      refine va_get (D := D) (ci := 1) (v := .long ra) (C := R_Reducer) (T := F_Reducer) (N := 7) hx hb htg i_Reducer hown hK hP 0 rfl rfl 0 (by decide) (htg _ tm_56) (fun _ h9 => h9) rfl d_R_shZ_127 ?_
      refine lv_lmul hx hb d_R_shZ_130 ?_
      refine lv_lsub hx hb d_R_shZ_131 ?_
      refine va_put (D := D) (ci := 1) (v := .long (rz - ((((2 : Int32) * (1 : Int32)).toInt64) * ra))) (ty := .long) (C := R_Reducer) (T := F_Reducer) (N := 7) hx hb htg i_Reducer t_Reducer t_Reducer_ok n_Reducer hown hK hP hD hS 0 rfl rfl 5 (by decide) (htg _ tm_61) (fun _ h9 => h9) rfl (by decide +kernel) rfl rfl (Nat.le_of_ble_eq_true rfl) d_R_shZ_132 (fun H locs hP hD hS => ?_)
      have hP : va_P D classes ([(h0, .inr (1, [.long ra, .long ((ra + rb) - (((1 : Int32).toInt64) * rz)), .long rc, .long (rx - (((1 : Int32).toInt64) * ry)), .long ry, .long (rz - ((((2 : Int32) * (1 : Int32)).toInt64) * ra)), .int rs]))] ++ wt) H := hP
      have hD : va_D A ([(h0, .inr (1, [.long ra, .long ((ra + rb) - (((1 : Int32).toInt64) * rz)), .long rc, .long (rx - (((1 : Int32).toInt64) * ry)), .long ry, .long (rz - ((((2 : Int32) * (1 : Int32)).toInt64) * ra)), .int rs]))] ++ wt) := hD
      refine lv_iconst (v := (1 : Int32)) hx hb d_R_shZ_135 (by decide) ?_
      exact W.zret (v := (1 : Int32)) (ty := .boolean) hx hb hr rfl (fun t ht hW => ⟨⟨(1 : Int32), (ra, (ra + rb) - (((1 : Int32).toInt64) * rz), rc, rx - (((1 : Int32).toInt64) * ry), ry, rz - ((((2 : Int32) * (1 : Int32)).toInt64) * ra), rs), rfl, h, by rw [ht]; exact hP, hD⟩, hS.F ht⟩) hS.2.2 d_R_shZ_136
  · rw [if_neg c_1] at h
    refine lv_aload_n hx hb d_R_shZ_15 rfl (lv_at hl 0 rfl) ?_
    refine va_get (D := D) (ci := 1) (v := .long rz) (C := R_Reducer) (T := F_Reducer) (N := 7) hx hb htg i_Reducer hown hK hP 0 rfl rfl 5 (by decide) (htg _ tm_61) (fun _ h9 => h9) rfl d_R_shZ_16 ?_
    refine lv_aload_n hx hb d_R_shZ_19 rfl (lv_at hl 0 rfl) ?_
    refine va_get (D := D) (ci := 1) (v := .long ra) (C := R_Reducer) (T := F_Reducer) (N := 7) hx hb htg i_Reducer hown hK hP 0 rfl rfl 0 (by decide) (htg _ tm_56) (fun _ h9 => h9) rfl d_R_shZ_20 ?_
    refine W.lcmp hx hb d_R_shZ_23 ?_
    refine lv_if_ne (tgt := 43) hx hb d_R_shZ_24 (by decide) (fun c_3 => ?_) (fun c_3 => ?_)
    · rw [if_neg c_3] at h
      refine lv_aload_n hx hb d_R_shZ_43 rfl (lv_at hl 0 rfl) ?_
      refine va_get (D := D) (ci := 1) (v := .long rz) (C := R_Reducer) (T := F_Reducer) (N := 7) hx hb htg i_Reducer hown hK hP 0 rfl rfl 5 (by decide) (htg _ tm_61) (fun _ h9 => h9) rfl d_R_shZ_44 ?_
      refine lv_aload_n hx hb d_R_shZ_47 rfl (lv_at hl 0 rfl) ?_
      refine va_get (D := D) (ci := 1) (v := .long ra) (C := R_Reducer) (T := F_Reducer) (N := 7) hx hb htg i_Reducer hown hK hP 0 rfl rfl 0 (by decide) (htg _ tm_56) (fun _ h9 => h9) rfl d_R_shZ_48 ?_
      refine lv_lneg hx hb d_R_shZ_51 ?_
      refine W.lcmp hx hb d_R_shZ_52 ?_
      refine lv_if_ne (tgt := 137) hx hb d_R_shZ_53 (by decide) (fun c_4 => ?_) (fun c_4 => ?_)
      · rw [if_neg c_4] at h
        refine lv_iconst (v := (0 : Int32)) hx hb d_R_shZ_137 (by decide) ?_
        exact W.zret (v := (0 : Int32)) (ty := .boolean) hx hb hr rfl (fun t ht hW => ⟨⟨(0 : Int32), (ra, rb, rc, rx, ry, rz, rs), rfl, h, by rw [ht]; exact hP, hD⟩, hS.F ht⟩) hS.2.2 d_R_shZ_138
      · rw [if_pos c_4] at h
        refine lv_aload_n hx hb d_R_shZ_56 rfl (lv_at hl 0 rfl) ?_
        refine va_get (D := D) (ci := 1) (v := .long ry) (C := R_Reducer) (T := F_Reducer) (N := 7) hx hb htg i_Reducer hown hK hP 0 rfl rfl 4 (by decide) (htg _ tm_60) (fun _ h9 => h9) rfl d_R_shZ_57 ?_
        refine lv_lconst (v := (0 : Int64)) hx hb d_R_shZ_60 (by decide) ?_
        refine W.lcmp hx hb d_R_shZ_61 ?_
        refine lv_if_ge (tgt := 137) hx hb d_R_shZ_62 (by decide) (fun c_5 => ?_) (fun c_5 => ?_)
        · rw [if_pos c_5] at h
          refine lv_iconst (v := (0 : Int32)) hx hb d_R_shZ_137 (by decide) ?_
          exact W.zret (v := (0 : Int32)) (ty := .boolean) hx hb hr rfl (fun t ht hW => ⟨⟨(0 : Int32), (ra, rb, rc, rx, ry, rz, rs), rfl, h, by rw [ht]; exact hP, hD⟩, hS.F ht⟩) hS.2.2 d_R_shZ_138
        · rw [if_neg c_5] at h
          refine lv_aload_n hx hb d_R_shZ_65 rfl (lv_at hl 0 rfl) ?_
          refine va_get (D := D) (ci := 1) (v := .long rz) (C := R_Reducer) (T := F_Reducer) (N := 7) hx hb htg i_Reducer hown hK hP 0 rfl rfl 5 (by decide) (htg _ tm_61) (fun _ h9 => h9) rfl d_R_shZ_66 ?_
          refine lv_lconst (v := (0 : Int64)) hx hb d_R_shZ_69 (by decide) ?_
          refine W.lcmp hx hb d_R_shZ_70 ?_
          refine lv_if_le (tgt := 78) hx hb d_R_shZ_71 (by decide) (fun c_6 => ?_) (fun c_6 => ?_)
          · rw [if_pos c_6] at h
            refine lv_iconst (v := (-1 : Int32)) hx hb d_R_shZ_78 (by decide) ?_
            refine lv_istore_n (lv' := [(1, .int (-1 : Int32)), (0, .ref h0)]) hx hb d_R_shZ_79 rfl hl (by decide) rfl (fun ls hl => ?_)
            refine lv_aload_n hx hb d_R_shZ_80 rfl (lv_at hl 1 rfl) ?_
            refine lv_aload_n hx hb d_R_shZ_81 rfl (lv_at hl 1 rfl) ?_
            refine va_get (D := D) (ci := 1) (v := .long ra) (C := R_Reducer) (T := F_Reducer) (N := 7) hx hb htg i_Reducer hown hK hP 0 rfl rfl 0 (by decide) (htg _ tm_56) (fun _ h9 => h9) rfl d_R_shZ_82 ?_
            refine lv_aload_n hx hb d_R_shZ_85 rfl (lv_at hl 1 rfl) ?_
            refine va_get (D := D) (ci := 1) (v := .long rb) (C := R_Reducer) (T := F_Reducer) (N := 7) hx hb htg i_Reducer hown hK hP 0 rfl rfl 1 (by decide) (htg _ tm_57) (fun _ h9 => h9) rfl d_R_shZ_86 ?_
            refine lv_ladd hx hb d_R_shZ_89 ?_
            refine lv_iload_n hx hb d_R_shZ_90 rfl (lv_at hl 0 rfl) ?_
            refine lv_i2l hx hb d_R_shZ_91 rfl ?_
            refine lv_aload_n hx hb d_R_shZ_92 rfl (lv_at hl 1 rfl) ?_
            refine va_get (D := D) (ci := 1) (v := .long rz) (C := R_Reducer) (T := F_Reducer) (N := 7) hx hb htg i_Reducer hown hK hP 0 rfl rfl 5 (by decide) (htg _ tm_61) (fun _ h9 => h9) rfl d_R_shZ_93 ?_
            refine lv_lmul hx hb d_R_shZ_96 ?_
            refine lv_lsub hx hb d_R_shZ_97 ?_
            refine va_put (D := D) (ci := 1) (v := .long ((ra + rb) - (((-1 : Int32).toInt64) * rz))) (ty := .long) (C := R_Reducer) (T := F_Reducer) (N := 7) hx hb htg i_Reducer t_Reducer t_Reducer_ok n_Reducer hown hK hP hD hS 0 rfl rfl 1 (by decide) (htg _ tm_57) (fun _ h9 => h9) rfl (by decide +kernel) rfl rfl (Nat.le_of_ble_eq_true rfl) d_R_shZ_98 (fun H locs hP hD hS => ?_)
            have hP : va_P D classes ([(h0, .inr (1, [.long ra, .long ((ra + rb) - (((-1 : Int32).toInt64) * rz)), .long rc, .long rx, .long ry, .long rz, .int rs]))] ++ wt) H := hP
            have hD : va_D A ([(h0, .inr (1, [.long ra, .long ((ra + rb) - (((-1 : Int32).toInt64) * rz)), .long rc, .long rx, .long ry, .long rz, .int rs]))] ++ wt) := hD
            refine lv_aload_n hx hb d_R_shZ_101 rfl (lv_at hl 1 rfl) ?_
            refine lv_aload_n hx hb d_R_shZ_102 rfl (lv_at hl 1 rfl) ?_
            refine va_get (D := D) (ci := 1) (v := .long rx) (C := R_Reducer) (T := F_Reducer) (N := 7) hx hb htg i_Reducer hown hK hP 0 rfl rfl 3 (by decide) (htg _ tm_59) (fun _ h9 => h9) rfl d_R_shZ_103 ?_
            refine lv_iload_n hx hb d_R_shZ_106 rfl (lv_at hl 0 rfl) ?_
            refine lv_i2l hx hb d_R_shZ_107 rfl ?_
            refine lv_aload_n hx hb d_R_shZ_108 rfl (lv_at hl 1 rfl) ?_
            refine va_get (D := D) (ci := 1) (v := .long ry) (C := R_Reducer) (T := F_Reducer) (N := 7) hx hb htg i_Reducer hown hK hP 0 rfl rfl 4 (by decide) (htg _ tm_60) (fun _ h9 => h9) rfl d_R_shZ_109 ?_
            refine lv_lmul hx hb d_R_shZ_112 ?_
            refine lv_lsub hx hb d_R_shZ_113 ?_
            refine va_put (D := D) (ci := 1) (v := .long (rx - (((-1 : Int32).toInt64) * ry))) (ty := .long) (C := R_Reducer) (T := F_Reducer) (N := 7) hx hb htg i_Reducer t_Reducer t_Reducer_ok n_Reducer hown hK hP hD hS 0 rfl rfl 3 (by decide) (htg _ tm_59) (fun _ h9 => h9) rfl (by decide +kernel) rfl rfl (Nat.le_of_ble_eq_true rfl) d_R_shZ_114 (fun H locs hP hD hS => ?_)
            have hP : va_P D classes ([(h0, .inr (1, [.long ra, .long ((ra + rb) - (((-1 : Int32).toInt64) * rz)), .long rc, .long (rx - (((-1 : Int32).toInt64) * ry)), .long ry, .long rz, .int rs]))] ++ wt) H := hP
            have hD : va_D A ([(h0, .inr (1, [.long ra, .long ((ra + rb) - (((-1 : Int32).toInt64) * rz)), .long rc, .long (rx - (((-1 : Int32).toInt64) * ry)), .long ry, .long rz, .int rs]))] ++ wt) := hD
            refine lv_aload_n hx hb d_R_shZ_117 rfl (lv_at hl 1 rfl) ?_
            refine lv_aload_n hx hb d_R_shZ_118 rfl (lv_at hl 1 rfl) ?_
            refine va_get (D := D) (ci := 1) (v := .long rz) (C := R_Reducer) (T := F_Reducer) (N := 7) hx hb htg i_Reducer hown hK hP 0 rfl rfl 5 (by decide) (htg _ tm_61) (fun _ h9 => h9) rfl d_R_shZ_119 ?_
            refine lv_iconst (v := (2 : Int32)) hx hb d_R_shZ_122 (by decide) ?_
            refine lv_iload_n hx hb d_R_shZ_123 rfl (lv_at hl 0 rfl) ?_
            refine lv_imul hx hb d_R_shZ_124 ?_
            refine lv_i2l hx hb d_R_shZ_125 rfl ?_
            refine lv_aload_n hx hb d_R_shZ_126 rfl (lv_at hl 1 rfl) ?_
            refine va_get (D := D) (ci := 1) (v := .long ra) (C := R_Reducer) (T := F_Reducer) (N := 7) hx hb htg i_Reducer hown hK hP 0 rfl rfl 0 (by decide) (htg _ tm_56) (fun _ h9 => h9) rfl d_R_shZ_127 ?_
            refine lv_lmul hx hb d_R_shZ_130 ?_
            refine lv_lsub hx hb d_R_shZ_131 ?_
            refine va_put (D := D) (ci := 1) (v := .long (rz - ((((2 : Int32) * (-1 : Int32)).toInt64) * ra))) (ty := .long) (C := R_Reducer) (T := F_Reducer) (N := 7) hx hb htg i_Reducer t_Reducer t_Reducer_ok n_Reducer hown hK hP hD hS 0 rfl rfl 5 (by decide) (htg _ tm_61) (fun _ h9 => h9) rfl (by decide +kernel) rfl rfl (Nat.le_of_ble_eq_true rfl) d_R_shZ_132 (fun H locs hP hD hS => ?_)
            have hP : va_P D classes ([(h0, .inr (1, [.long ra, .long ((ra + rb) - (((-1 : Int32).toInt64) * rz)), .long rc, .long (rx - (((-1 : Int32).toInt64) * ry)), .long ry, .long (rz - ((((2 : Int32) * (-1 : Int32)).toInt64) * ra)), .int rs]))] ++ wt) H := hP
            have hD : va_D A ([(h0, .inr (1, [.long ra, .long ((ra + rb) - (((-1 : Int32).toInt64) * rz)), .long rc, .long (rx - (((-1 : Int32).toInt64) * ry)), .long ry, .long (rz - ((((2 : Int32) * (-1 : Int32)).toInt64) * ra)), .int rs]))] ++ wt) := hD
            refine lv_iconst (v := (1 : Int32)) hx hb d_R_shZ_135 (by decide) ?_
            exact W.zret (v := (1 : Int32)) (ty := .boolean) hx hb hr rfl (fun t ht hW => ⟨⟨(1 : Int32), (ra, (ra + rb) - (((-1 : Int32).toInt64) * rz), rc, rx - (((-1 : Int32).toInt64) * ry), ry, rz - ((((2 : Int32) * (-1 : Int32)).toInt64) * ra), rs), rfl, h, by rw [ht]; exact hP, hD⟩, hS.F ht⟩) hS.2.2 d_R_shZ_136
          · rw [if_neg c_6] at h
            refine lv_iconst (v := (1 : Int32)) hx hb d_R_shZ_74 (by decide) ?_
            refine lv_goto (tgt := 79) hx hb d_R_shZ_75 (by decide) ?_
            refine lv_istore_n (lv' := [(1, .int (1 : Int32)), (0, .ref h0)]) hx hb d_R_shZ_79 rfl hl (by decide) rfl (fun ls hl => ?_)
            refine lv_aload_n hx hb d_R_shZ_80 rfl (lv_at hl 1 rfl) ?_
            refine lv_aload_n hx hb d_R_shZ_81 rfl (lv_at hl 1 rfl) ?_
            refine va_get (D := D) (ci := 1) (v := .long ra) (C := R_Reducer) (T := F_Reducer) (N := 7) hx hb htg i_Reducer hown hK hP 0 rfl rfl 0 (by decide) (htg _ tm_56) (fun _ h9 => h9) rfl d_R_shZ_82 ?_
            refine lv_aload_n hx hb d_R_shZ_85 rfl (lv_at hl 1 rfl) ?_
            refine va_get (D := D) (ci := 1) (v := .long rb) (C := R_Reducer) (T := F_Reducer) (N := 7) hx hb htg i_Reducer hown hK hP 0 rfl rfl 1 (by decide) (htg _ tm_57) (fun _ h9 => h9) rfl d_R_shZ_86 ?_
            refine lv_ladd hx hb d_R_shZ_89 ?_
            refine lv_iload_n hx hb d_R_shZ_90 rfl (lv_at hl 0 rfl) ?_
            refine lv_i2l hx hb d_R_shZ_91 rfl ?_
            refine lv_aload_n hx hb d_R_shZ_92 rfl (lv_at hl 1 rfl) ?_
            refine va_get (D := D) (ci := 1) (v := .long rz) (C := R_Reducer) (T := F_Reducer) (N := 7) hx hb htg i_Reducer hown hK hP 0 rfl rfl 5 (by decide) (htg _ tm_61) (fun _ h9 => h9) rfl d_R_shZ_93 ?_
            refine lv_lmul hx hb d_R_shZ_96 ?_
            refine lv_lsub hx hb d_R_shZ_97 ?_
            refine va_put (D := D) (ci := 1) (v := .long ((ra + rb) - (((1 : Int32).toInt64) * rz))) (ty := .long) (C := R_Reducer) (T := F_Reducer) (N := 7) hx hb htg i_Reducer t_Reducer t_Reducer_ok n_Reducer hown hK hP hD hS 0 rfl rfl 1 (by decide) (htg _ tm_57) (fun _ h9 => h9) rfl (by decide +kernel) rfl rfl (Nat.le_of_ble_eq_true rfl) d_R_shZ_98 (fun H locs hP hD hS => ?_)
            have hP : va_P D classes ([(h0, .inr (1, [.long ra, .long ((ra + rb) - (((1 : Int32).toInt64) * rz)), .long rc, .long rx, .long ry, .long rz, .int rs]))] ++ wt) H := hP
            have hD : va_D A ([(h0, .inr (1, [.long ra, .long ((ra + rb) - (((1 : Int32).toInt64) * rz)), .long rc, .long rx, .long ry, .long rz, .int rs]))] ++ wt) := hD
            refine lv_aload_n hx hb d_R_shZ_101 rfl (lv_at hl 1 rfl) ?_
            refine lv_aload_n hx hb d_R_shZ_102 rfl (lv_at hl 1 rfl) ?_
            refine va_get (D := D) (ci := 1) (v := .long rx) (C := R_Reducer) (T := F_Reducer) (N := 7) hx hb htg i_Reducer hown hK hP 0 rfl rfl 3 (by decide) (htg _ tm_59) (fun _ h9 => h9) rfl d_R_shZ_103 ?_
            refine lv_iload_n hx hb d_R_shZ_106 rfl (lv_at hl 0 rfl) ?_
            refine lv_i2l hx hb d_R_shZ_107 rfl ?_
            refine lv_aload_n hx hb d_R_shZ_108 rfl (lv_at hl 1 rfl) ?_
            refine va_get (D := D) (ci := 1) (v := .long ry) (C := R_Reducer) (T := F_Reducer) (N := 7) hx hb htg i_Reducer hown hK hP 0 rfl rfl 4 (by decide) (htg _ tm_60) (fun _ h9 => h9) rfl d_R_shZ_109 ?_
            refine lv_lmul hx hb d_R_shZ_112 ?_
            refine lv_lsub hx hb d_R_shZ_113 ?_
            refine va_put (D := D) (ci := 1) (v := .long (rx - (((1 : Int32).toInt64) * ry))) (ty := .long) (C := R_Reducer) (T := F_Reducer) (N := 7) hx hb htg i_Reducer t_Reducer t_Reducer_ok n_Reducer hown hK hP hD hS 0 rfl rfl 3 (by decide) (htg _ tm_59) (fun _ h9 => h9) rfl (by decide +kernel) rfl rfl (Nat.le_of_ble_eq_true rfl) d_R_shZ_114 (fun H locs hP hD hS => ?_)
            have hP : va_P D classes ([(h0, .inr (1, [.long ra, .long ((ra + rb) - (((1 : Int32).toInt64) * rz)), .long rc, .long (rx - (((1 : Int32).toInt64) * ry)), .long ry, .long rz, .int rs]))] ++ wt) H := hP
            have hD : va_D A ([(h0, .inr (1, [.long ra, .long ((ra + rb) - (((1 : Int32).toInt64) * rz)), .long rc, .long (rx - (((1 : Int32).toInt64) * ry)), .long ry, .long rz, .int rs]))] ++ wt) := hD
            refine lv_aload_n hx hb d_R_shZ_117 rfl (lv_at hl 1 rfl) ?_
            refine lv_aload_n hx hb d_R_shZ_118 rfl (lv_at hl 1 rfl) ?_
            refine va_get (D := D) (ci := 1) (v := .long rz) (C := R_Reducer) (T := F_Reducer) (N := 7) hx hb htg i_Reducer hown hK hP 0 rfl rfl 5 (by decide) (htg _ tm_61) (fun _ h9 => h9) rfl d_R_shZ_119 ?_
            refine lv_iconst (v := (2 : Int32)) hx hb d_R_shZ_122 (by decide) ?_
            refine lv_iload_n hx hb d_R_shZ_123 rfl (lv_at hl 0 rfl) ?_
            refine lv_imul hx hb d_R_shZ_124 ?_
            refine lv_i2l hx hb d_R_shZ_125 rfl ?_
            refine lv_aload_n hx hb d_R_shZ_126 rfl (lv_at hl 1 rfl) ?_
            refine va_get (D := D) (ci := 1) (v := .long ra) (C := R_Reducer) (T := F_Reducer) (N := 7) hx hb htg i_Reducer hown hK hP 0 rfl rfl 0 (by decide) (htg _ tm_56) (fun _ h9 => h9) rfl d_R_shZ_127 ?_
            refine lv_lmul hx hb d_R_shZ_130 ?_
            refine lv_lsub hx hb d_R_shZ_131 ?_
            refine va_put (D := D) (ci := 1) (v := .long (rz - ((((2 : Int32) * (1 : Int32)).toInt64) * ra))) (ty := .long) (C := R_Reducer) (T := F_Reducer) (N := 7) hx hb htg i_Reducer t_Reducer t_Reducer_ok n_Reducer hown hK hP hD hS 0 rfl rfl 5 (by decide) (htg _ tm_61) (fun _ h9 => h9) rfl (by decide +kernel) rfl rfl (Nat.le_of_ble_eq_true rfl) d_R_shZ_132 (fun H locs hP hD hS => ?_)
            have hP : va_P D classes ([(h0, .inr (1, [.long ra, .long ((ra + rb) - (((1 : Int32).toInt64) * rz)), .long rc, .long (rx - (((1 : Int32).toInt64) * ry)), .long ry, .long (rz - ((((2 : Int32) * (1 : Int32)).toInt64) * ra)), .int rs]))] ++ wt) H := hP
            have hD : va_D A ([(h0, .inr (1, [.long ra, .long ((ra + rb) - (((1 : Int32).toInt64) * rz)), .long rc, .long (rx - (((1 : Int32).toInt64) * ry)), .long ry, .long (rz - ((((2 : Int32) * (1 : Int32)).toInt64) * ra)), .int rs]))] ++ wt) := hD
            refine lv_iconst (v := (1 : Int32)) hx hb d_R_shZ_135 (by decide) ?_
            exact W.zret (v := (1 : Int32)) (ty := .boolean) hx hb hr rfl (fun t ht hW => ⟨⟨(1 : Int32), (ra, (ra + rb) - (((1 : Int32).toInt64) * rz), rc, rx - (((1 : Int32).toInt64) * ry), ry, rz - ((((2 : Int32) * (1 : Int32)).toInt64) * ra), rs), rfl, h, by rw [ht]; exact hP, hD⟩, hS.F ht⟩) hS.2.2 d_R_shZ_136
    · rw [if_pos c_3] at h
      refine lv_ldc2 (v := (2 : Int64)) hx hb hown (htg _ tm_178) d_R_shZ_27 ?_
      refine lv_aload_n hx hb d_R_shZ_30 rfl (lv_at hl 0 rfl) ?_
      refine va_get (D := D) (ci := 1) (v := .long rx) (C := R_Reducer) (T := F_Reducer) (N := 7) hx hb htg i_Reducer hown hK hP 0 rfl rfl 3 (by decide) (htg _ tm_59) (fun _ h9 => h9) rfl d_R_shZ_31 ?_
      refine lv_lmul hx hb d_R_shZ_34 ?_
      refine lv_aload_n hx hb d_R_shZ_35 rfl (lv_at hl 0 rfl) ?_
      refine va_get (D := D) (ci := 1) (v := .long ry) (C := R_Reducer) (T := F_Reducer) (N := 7) hx hb htg i_Reducer hown hK hP 0 rfl rfl 4 (by decide) (htg _ tm_60) (fun _ h9 => h9) rfl d_R_shZ_36 ?_
      refine W.lcmp hx hb d_R_shZ_39 ?_
      refine lv_if_lt (tgt := 65) hx hb d_R_shZ_40 (by decide) (fun c_7 => ?_) (fun c_7 => ?_)
      · rw [if_pos c_7] at h
        refine lv_aload_n hx hb d_R_shZ_65 rfl (lv_at hl 0 rfl) ?_
        refine va_get (D := D) (ci := 1) (v := .long rz) (C := R_Reducer) (T := F_Reducer) (N := 7) hx hb htg i_Reducer hown hK hP 0 rfl rfl 5 (by decide) (htg _ tm_61) (fun _ h9 => h9) rfl d_R_shZ_66 ?_
        refine lv_lconst (v := (0 : Int64)) hx hb d_R_shZ_69 (by decide) ?_
        refine W.lcmp hx hb d_R_shZ_70 ?_
        refine lv_if_le (tgt := 78) hx hb d_R_shZ_71 (by decide) (fun c_8 => ?_) (fun c_8 => ?_)
        · rw [if_pos c_8] at h
          refine lv_iconst (v := (-1 : Int32)) hx hb d_R_shZ_78 (by decide) ?_
          refine lv_istore_n (lv' := [(1, .int (-1 : Int32)), (0, .ref h0)]) hx hb d_R_shZ_79 rfl hl (by decide) rfl (fun ls hl => ?_)
          refine lv_aload_n hx hb d_R_shZ_80 rfl (lv_at hl 1 rfl) ?_
          refine lv_aload_n hx hb d_R_shZ_81 rfl (lv_at hl 1 rfl) ?_
          refine va_get (D := D) (ci := 1) (v := .long ra) (C := R_Reducer) (T := F_Reducer) (N := 7) hx hb htg i_Reducer hown hK hP 0 rfl rfl 0 (by decide) (htg _ tm_56) (fun _ h9 => h9) rfl d_R_shZ_82 ?_
          refine lv_aload_n hx hb d_R_shZ_85 rfl (lv_at hl 1 rfl) ?_
          refine va_get (D := D) (ci := 1) (v := .long rb) (C := R_Reducer) (T := F_Reducer) (N := 7) hx hb htg i_Reducer hown hK hP 0 rfl rfl 1 (by decide) (htg _ tm_57) (fun _ h9 => h9) rfl d_R_shZ_86 ?_
          refine lv_ladd hx hb d_R_shZ_89 ?_
          refine lv_iload_n hx hb d_R_shZ_90 rfl (lv_at hl 0 rfl) ?_
          refine lv_i2l hx hb d_R_shZ_91 rfl ?_
          refine lv_aload_n hx hb d_R_shZ_92 rfl (lv_at hl 1 rfl) ?_
          refine va_get (D := D) (ci := 1) (v := .long rz) (C := R_Reducer) (T := F_Reducer) (N := 7) hx hb htg i_Reducer hown hK hP 0 rfl rfl 5 (by decide) (htg _ tm_61) (fun _ h9 => h9) rfl d_R_shZ_93 ?_
          refine lv_lmul hx hb d_R_shZ_96 ?_
          refine lv_lsub hx hb d_R_shZ_97 ?_
          refine va_put (D := D) (ci := 1) (v := .long ((ra + rb) - (((-1 : Int32).toInt64) * rz))) (ty := .long) (C := R_Reducer) (T := F_Reducer) (N := 7) hx hb htg i_Reducer t_Reducer t_Reducer_ok n_Reducer hown hK hP hD hS 0 rfl rfl 1 (by decide) (htg _ tm_57) (fun _ h9 => h9) rfl (by decide +kernel) rfl rfl (Nat.le_of_ble_eq_true rfl) d_R_shZ_98 (fun H locs hP hD hS => ?_)
          have hP : va_P D classes ([(h0, .inr (1, [.long ra, .long ((ra + rb) - (((-1 : Int32).toInt64) * rz)), .long rc, .long rx, .long ry, .long rz, .int rs]))] ++ wt) H := hP
          have hD : va_D A ([(h0, .inr (1, [.long ra, .long ((ra + rb) - (((-1 : Int32).toInt64) * rz)), .long rc, .long rx, .long ry, .long rz, .int rs]))] ++ wt) := hD
          refine lv_aload_n hx hb d_R_shZ_101 rfl (lv_at hl 1 rfl) ?_
          refine lv_aload_n hx hb d_R_shZ_102 rfl (lv_at hl 1 rfl) ?_
          refine va_get (D := D) (ci := 1) (v := .long rx) (C := R_Reducer) (T := F_Reducer) (N := 7) hx hb htg i_Reducer hown hK hP 0 rfl rfl 3 (by decide) (htg _ tm_59) (fun _ h9 => h9) rfl d_R_shZ_103 ?_
          refine lv_iload_n hx hb d_R_shZ_106 rfl (lv_at hl 0 rfl) ?_
          refine lv_i2l hx hb d_R_shZ_107 rfl ?_
          refine lv_aload_n hx hb d_R_shZ_108 rfl (lv_at hl 1 rfl) ?_
          refine va_get (D := D) (ci := 1) (v := .long ry) (C := R_Reducer) (T := F_Reducer) (N := 7) hx hb htg i_Reducer hown hK hP 0 rfl rfl 4 (by decide) (htg _ tm_60) (fun _ h9 => h9) rfl d_R_shZ_109 ?_
          refine lv_lmul hx hb d_R_shZ_112 ?_
          refine lv_lsub hx hb d_R_shZ_113 ?_
          refine va_put (D := D) (ci := 1) (v := .long (rx - (((-1 : Int32).toInt64) * ry))) (ty := .long) (C := R_Reducer) (T := F_Reducer) (N := 7) hx hb htg i_Reducer t_Reducer t_Reducer_ok n_Reducer hown hK hP hD hS 0 rfl rfl 3 (by decide) (htg _ tm_59) (fun _ h9 => h9) rfl (by decide +kernel) rfl rfl (Nat.le_of_ble_eq_true rfl) d_R_shZ_114 (fun H locs hP hD hS => ?_)
          have hP : va_P D classes ([(h0, .inr (1, [.long ra, .long ((ra + rb) - (((-1 : Int32).toInt64) * rz)), .long rc, .long (rx - (((-1 : Int32).toInt64) * ry)), .long ry, .long rz, .int rs]))] ++ wt) H := hP
          have hD : va_D A ([(h0, .inr (1, [.long ra, .long ((ra + rb) - (((-1 : Int32).toInt64) * rz)), .long rc, .long (rx - (((-1 : Int32).toInt64) * ry)), .long ry, .long rz, .int rs]))] ++ wt) := hD
          refine lv_aload_n hx hb d_R_shZ_117 rfl (lv_at hl 1 rfl) ?_
          refine lv_aload_n hx hb d_R_shZ_118 rfl (lv_at hl 1 rfl) ?_
          refine va_get (D := D) (ci := 1) (v := .long rz) (C := R_Reducer) (T := F_Reducer) (N := 7) hx hb htg i_Reducer hown hK hP 0 rfl rfl 5 (by decide) (htg _ tm_61) (fun _ h9 => h9) rfl d_R_shZ_119 ?_
          refine lv_iconst (v := (2 : Int32)) hx hb d_R_shZ_122 (by decide) ?_
          refine lv_iload_n hx hb d_R_shZ_123 rfl (lv_at hl 0 rfl) ?_
          refine lv_imul hx hb d_R_shZ_124 ?_
          refine lv_i2l hx hb d_R_shZ_125 rfl ?_
          refine lv_aload_n hx hb d_R_shZ_126 rfl (lv_at hl 1 rfl) ?_
          refine va_get (D := D) (ci := 1) (v := .long ra) (C := R_Reducer) (T := F_Reducer) (N := 7) hx hb htg i_Reducer hown hK hP 0 rfl rfl 0 (by decide) (htg _ tm_56) (fun _ h9 => h9) rfl d_R_shZ_127 ?_
          refine lv_lmul hx hb d_R_shZ_130 ?_
          refine lv_lsub hx hb d_R_shZ_131 ?_
          refine va_put (D := D) (ci := 1) (v := .long (rz - ((((2 : Int32) * (-1 : Int32)).toInt64) * ra))) (ty := .long) (C := R_Reducer) (T := F_Reducer) (N := 7) hx hb htg i_Reducer t_Reducer t_Reducer_ok n_Reducer hown hK hP hD hS 0 rfl rfl 5 (by decide) (htg _ tm_61) (fun _ h9 => h9) rfl (by decide +kernel) rfl rfl (Nat.le_of_ble_eq_true rfl) d_R_shZ_132 (fun H locs hP hD hS => ?_)
          have hP : va_P D classes ([(h0, .inr (1, [.long ra, .long ((ra + rb) - (((-1 : Int32).toInt64) * rz)), .long rc, .long (rx - (((-1 : Int32).toInt64) * ry)), .long ry, .long (rz - ((((2 : Int32) * (-1 : Int32)).toInt64) * ra)), .int rs]))] ++ wt) H := hP
          have hD : va_D A ([(h0, .inr (1, [.long ra, .long ((ra + rb) - (((-1 : Int32).toInt64) * rz)), .long rc, .long (rx - (((-1 : Int32).toInt64) * ry)), .long ry, .long (rz - ((((2 : Int32) * (-1 : Int32)).toInt64) * ra)), .int rs]))] ++ wt) := hD
          refine lv_iconst (v := (1 : Int32)) hx hb d_R_shZ_135 (by decide) ?_
          exact W.zret (v := (1 : Int32)) (ty := .boolean) hx hb hr rfl (fun t ht hW => ⟨⟨(1 : Int32), (ra, (ra + rb) - (((-1 : Int32).toInt64) * rz), rc, rx - (((-1 : Int32).toInt64) * ry), ry, rz - ((((2 : Int32) * (-1 : Int32)).toInt64) * ra), rs), rfl, h, by rw [ht]; exact hP, hD⟩, hS.F ht⟩) hS.2.2 d_R_shZ_136
        · rw [if_neg c_8] at h
          refine lv_iconst (v := (1 : Int32)) hx hb d_R_shZ_74 (by decide) ?_
          refine lv_goto (tgt := 79) hx hb d_R_shZ_75 (by decide) ?_
          refine lv_istore_n (lv' := [(1, .int (1 : Int32)), (0, .ref h0)]) hx hb d_R_shZ_79 rfl hl (by decide) rfl (fun ls hl => ?_)
          refine lv_aload_n hx hb d_R_shZ_80 rfl (lv_at hl 1 rfl) ?_
          refine lv_aload_n hx hb d_R_shZ_81 rfl (lv_at hl 1 rfl) ?_
          refine va_get (D := D) (ci := 1) (v := .long ra) (C := R_Reducer) (T := F_Reducer) (N := 7) hx hb htg i_Reducer hown hK hP 0 rfl rfl 0 (by decide) (htg _ tm_56) (fun _ h9 => h9) rfl d_R_shZ_82 ?_
          refine lv_aload_n hx hb d_R_shZ_85 rfl (lv_at hl 1 rfl) ?_
          refine va_get (D := D) (ci := 1) (v := .long rb) (C := R_Reducer) (T := F_Reducer) (N := 7) hx hb htg i_Reducer hown hK hP 0 rfl rfl 1 (by decide) (htg _ tm_57) (fun _ h9 => h9) rfl d_R_shZ_86 ?_
          refine lv_ladd hx hb d_R_shZ_89 ?_
          refine lv_iload_n hx hb d_R_shZ_90 rfl (lv_at hl 0 rfl) ?_
          refine lv_i2l hx hb d_R_shZ_91 rfl ?_
          refine lv_aload_n hx hb d_R_shZ_92 rfl (lv_at hl 1 rfl) ?_
          refine va_get (D := D) (ci := 1) (v := .long rz) (C := R_Reducer) (T := F_Reducer) (N := 7) hx hb htg i_Reducer hown hK hP 0 rfl rfl 5 (by decide) (htg _ tm_61) (fun _ h9 => h9) rfl d_R_shZ_93 ?_
          refine lv_lmul hx hb d_R_shZ_96 ?_
          refine lv_lsub hx hb d_R_shZ_97 ?_
          refine va_put (D := D) (ci := 1) (v := .long ((ra + rb) - (((1 : Int32).toInt64) * rz))) (ty := .long) (C := R_Reducer) (T := F_Reducer) (N := 7) hx hb htg i_Reducer t_Reducer t_Reducer_ok n_Reducer hown hK hP hD hS 0 rfl rfl 1 (by decide) (htg _ tm_57) (fun _ h9 => h9) rfl (by decide +kernel) rfl rfl (Nat.le_of_ble_eq_true rfl) d_R_shZ_98 (fun H locs hP hD hS => ?_)
          have hP : va_P D classes ([(h0, .inr (1, [.long ra, .long ((ra + rb) - (((1 : Int32).toInt64) * rz)), .long rc, .long rx, .long ry, .long rz, .int rs]))] ++ wt) H := hP
          have hD : va_D A ([(h0, .inr (1, [.long ra, .long ((ra + rb) - (((1 : Int32).toInt64) * rz)), .long rc, .long rx, .long ry, .long rz, .int rs]))] ++ wt) := hD
          refine lv_aload_n hx hb d_R_shZ_101 rfl (lv_at hl 1 rfl) ?_
          refine lv_aload_n hx hb d_R_shZ_102 rfl (lv_at hl 1 rfl) ?_
          refine va_get (D := D) (ci := 1) (v := .long rx) (C := R_Reducer) (T := F_Reducer) (N := 7) hx hb htg i_Reducer hown hK hP 0 rfl rfl 3 (by decide) (htg _ tm_59) (fun _ h9 => h9) rfl d_R_shZ_103 ?_
          refine lv_iload_n hx hb d_R_shZ_106 rfl (lv_at hl 0 rfl) ?_
          refine lv_i2l hx hb d_R_shZ_107 rfl ?_
          refine lv_aload_n hx hb d_R_shZ_108 rfl (lv_at hl 1 rfl) ?_
          refine va_get (D := D) (ci := 1) (v := .long ry) (C := R_Reducer) (T := F_Reducer) (N := 7) hx hb htg i_Reducer hown hK hP 0 rfl rfl 4 (by decide) (htg _ tm_60) (fun _ h9 => h9) rfl d_R_shZ_109 ?_
          refine lv_lmul hx hb d_R_shZ_112 ?_
          refine lv_lsub hx hb d_R_shZ_113 ?_
          refine va_put (D := D) (ci := 1) (v := .long (rx - (((1 : Int32).toInt64) * ry))) (ty := .long) (C := R_Reducer) (T := F_Reducer) (N := 7) hx hb htg i_Reducer t_Reducer t_Reducer_ok n_Reducer hown hK hP hD hS 0 rfl rfl 3 (by decide) (htg _ tm_59) (fun _ h9 => h9) rfl (by decide +kernel) rfl rfl (Nat.le_of_ble_eq_true rfl) d_R_shZ_114 (fun H locs hP hD hS => ?_)
          have hP : va_P D classes ([(h0, .inr (1, [.long ra, .long ((ra + rb) - (((1 : Int32).toInt64) * rz)), .long rc, .long (rx - (((1 : Int32).toInt64) * ry)), .long ry, .long rz, .int rs]))] ++ wt) H := hP
          have hD : va_D A ([(h0, .inr (1, [.long ra, .long ((ra + rb) - (((1 : Int32).toInt64) * rz)), .long rc, .long (rx - (((1 : Int32).toInt64) * ry)), .long ry, .long rz, .int rs]))] ++ wt) := hD
          refine lv_aload_n hx hb d_R_shZ_117 rfl (lv_at hl 1 rfl) ?_
          refine lv_aload_n hx hb d_R_shZ_118 rfl (lv_at hl 1 rfl) ?_
          refine va_get (D := D) (ci := 1) (v := .long rz) (C := R_Reducer) (T := F_Reducer) (N := 7) hx hb htg i_Reducer hown hK hP 0 rfl rfl 5 (by decide) (htg _ tm_61) (fun _ h9 => h9) rfl d_R_shZ_119 ?_
          refine lv_iconst (v := (2 : Int32)) hx hb d_R_shZ_122 (by decide) ?_
          refine lv_iload_n hx hb d_R_shZ_123 rfl (lv_at hl 0 rfl) ?_
          refine lv_imul hx hb d_R_shZ_124 ?_
          refine lv_i2l hx hb d_R_shZ_125 rfl ?_
          refine lv_aload_n hx hb d_R_shZ_126 rfl (lv_at hl 1 rfl) ?_
          refine va_get (D := D) (ci := 1) (v := .long ra) (C := R_Reducer) (T := F_Reducer) (N := 7) hx hb htg i_Reducer hown hK hP 0 rfl rfl 0 (by decide) (htg _ tm_56) (fun _ h9 => h9) rfl d_R_shZ_127 ?_
          refine lv_lmul hx hb d_R_shZ_130 ?_
          refine lv_lsub hx hb d_R_shZ_131 ?_
          refine va_put (D := D) (ci := 1) (v := .long (rz - ((((2 : Int32) * (1 : Int32)).toInt64) * ra))) (ty := .long) (C := R_Reducer) (T := F_Reducer) (N := 7) hx hb htg i_Reducer t_Reducer t_Reducer_ok n_Reducer hown hK hP hD hS 0 rfl rfl 5 (by decide) (htg _ tm_61) (fun _ h9 => h9) rfl (by decide +kernel) rfl rfl (Nat.le_of_ble_eq_true rfl) d_R_shZ_132 (fun H locs hP hD hS => ?_)
          have hP : va_P D classes ([(h0, .inr (1, [.long ra, .long ((ra + rb) - (((1 : Int32).toInt64) * rz)), .long rc, .long (rx - (((1 : Int32).toInt64) * ry)), .long ry, .long (rz - ((((2 : Int32) * (1 : Int32)).toInt64) * ra)), .int rs]))] ++ wt) H := hP
          have hD : va_D A ([(h0, .inr (1, [.long ra, .long ((ra + rb) - (((1 : Int32).toInt64) * rz)), .long rc, .long (rx - (((1 : Int32).toInt64) * ry)), .long ry, .long (rz - ((((2 : Int32) * (1 : Int32)).toInt64) * ra)), .int rs]))] ++ wt) := hD
          refine lv_iconst (v := (1 : Int32)) hx hb d_R_shZ_135 (by decide) ?_
          exact W.zret (v := (1 : Int32)) (ty := .boolean) hx hb hr rfl (fun t ht hW => ⟨⟨(1 : Int32), (ra, (ra + rb) - (((1 : Int32).toInt64) * rz), rc, rx - (((1 : Int32).toInt64) * ry), ry, rz - ((((2 : Int32) * (1 : Int32)).toInt64) * ra), rs), rfl, h, by rw [ht]; exact hP, hD⟩, hS.F ht⟩) hS.2.2 d_R_shZ_136
      · rw [if_neg c_7] at h
        refine lv_aload_n hx hb d_R_shZ_43 rfl (lv_at hl 0 rfl) ?_
        refine va_get (D := D) (ci := 1) (v := .long rz) (C := R_Reducer) (T := F_Reducer) (N := 7) hx hb htg i_Reducer hown hK hP 0 rfl rfl 5 (by decide) (htg _ tm_61) (fun _ h9 => h9) rfl d_R_shZ_44 ?_
        refine lv_aload_n hx hb d_R_shZ_47 rfl (lv_at hl 0 rfl) ?_
        refine va_get (D := D) (ci := 1) (v := .long ra) (C := R_Reducer) (T := F_Reducer) (N := 7) hx hb htg i_Reducer hown hK hP 0 rfl rfl 0 (by decide) (htg _ tm_56) (fun _ h9 => h9) rfl d_R_shZ_48 ?_
        refine lv_lneg hx hb d_R_shZ_51 ?_
        refine W.lcmp hx hb d_R_shZ_52 ?_
        refine lv_if_ne (tgt := 137) hx hb d_R_shZ_53 (by decide) (fun c_9 => ?_) (fun c_9 => ?_)
        · rw [if_neg c_9] at h
          refine lv_iconst (v := (0 : Int32)) hx hb d_R_shZ_137 (by decide) ?_
          exact W.zret (v := (0 : Int32)) (ty := .boolean) hx hb hr rfl (fun t ht hW => ⟨⟨(0 : Int32), (ra, rb, rc, rx, ry, rz, rs), rfl, h, by rw [ht]; exact hP, hD⟩, hS.F ht⟩) hS.2.2 d_R_shZ_138
        · rw [if_pos c_9] at h
          refine lv_aload_n hx hb d_R_shZ_56 rfl (lv_at hl 0 rfl) ?_
          refine va_get (D := D) (ci := 1) (v := .long ry) (C := R_Reducer) (T := F_Reducer) (N := 7) hx hb htg i_Reducer hown hK hP 0 rfl rfl 4 (by decide) (htg _ tm_60) (fun _ h9 => h9) rfl d_R_shZ_57 ?_
          refine lv_lconst (v := (0 : Int64)) hx hb d_R_shZ_60 (by decide) ?_
          refine W.lcmp hx hb d_R_shZ_61 ?_
          refine lv_if_ge (tgt := 137) hx hb d_R_shZ_62 (by decide) (fun c_10 => ?_) (fun c_10 => ?_)
          · rw [if_pos c_10] at h
            refine lv_iconst (v := (0 : Int32)) hx hb d_R_shZ_137 (by decide) ?_
            exact W.zret (v := (0 : Int32)) (ty := .boolean) hx hb hr rfl (fun t ht hW => ⟨⟨(0 : Int32), (ra, rb, rc, rx, ry, rz, rs), rfl, h, by rw [ht]; exact hP, hD⟩, hS.F ht⟩) hS.2.2 d_R_shZ_138
          · rw [if_neg c_10] at h
            refine lv_aload_n hx hb d_R_shZ_65 rfl (lv_at hl 0 rfl) ?_
            refine va_get (D := D) (ci := 1) (v := .long rz) (C := R_Reducer) (T := F_Reducer) (N := 7) hx hb htg i_Reducer hown hK hP 0 rfl rfl 5 (by decide) (htg _ tm_61) (fun _ h9 => h9) rfl d_R_shZ_66 ?_
            refine lv_lconst (v := (0 : Int64)) hx hb d_R_shZ_69 (by decide) ?_
            refine W.lcmp hx hb d_R_shZ_70 ?_
            refine lv_if_le (tgt := 78) hx hb d_R_shZ_71 (by decide) (fun c_11 => ?_) (fun c_11 => ?_)
            · rw [if_pos c_11] at h
              refine lv_iconst (v := (-1 : Int32)) hx hb d_R_shZ_78 (by decide) ?_
              refine lv_istore_n (lv' := [(1, .int (-1 : Int32)), (0, .ref h0)]) hx hb d_R_shZ_79 rfl hl (by decide) rfl (fun ls hl => ?_)
              refine lv_aload_n hx hb d_R_shZ_80 rfl (lv_at hl 1 rfl) ?_
              refine lv_aload_n hx hb d_R_shZ_81 rfl (lv_at hl 1 rfl) ?_
              refine va_get (D := D) (ci := 1) (v := .long ra) (C := R_Reducer) (T := F_Reducer) (N := 7) hx hb htg i_Reducer hown hK hP 0 rfl rfl 0 (by decide) (htg _ tm_56) (fun _ h9 => h9) rfl d_R_shZ_82 ?_
              refine lv_aload_n hx hb d_R_shZ_85 rfl (lv_at hl 1 rfl) ?_
              refine va_get (D := D) (ci := 1) (v := .long rb) (C := R_Reducer) (T := F_Reducer) (N := 7) hx hb htg i_Reducer hown hK hP 0 rfl rfl 1 (by decide) (htg _ tm_57) (fun _ h9 => h9) rfl d_R_shZ_86 ?_
              refine lv_ladd hx hb d_R_shZ_89 ?_
              refine lv_iload_n hx hb d_R_shZ_90 rfl (lv_at hl 0 rfl) ?_
              refine lv_i2l hx hb d_R_shZ_91 rfl ?_
              refine lv_aload_n hx hb d_R_shZ_92 rfl (lv_at hl 1 rfl) ?_
              refine va_get (D := D) (ci := 1) (v := .long rz) (C := R_Reducer) (T := F_Reducer) (N := 7) hx hb htg i_Reducer hown hK hP 0 rfl rfl 5 (by decide) (htg _ tm_61) (fun _ h9 => h9) rfl d_R_shZ_93 ?_
              refine lv_lmul hx hb d_R_shZ_96 ?_
              refine lv_lsub hx hb d_R_shZ_97 ?_
              refine va_put (D := D) (ci := 1) (v := .long ((ra + rb) - (((-1 : Int32).toInt64) * rz))) (ty := .long) (C := R_Reducer) (T := F_Reducer) (N := 7) hx hb htg i_Reducer t_Reducer t_Reducer_ok n_Reducer hown hK hP hD hS 0 rfl rfl 1 (by decide) (htg _ tm_57) (fun _ h9 => h9) rfl (by decide +kernel) rfl rfl (Nat.le_of_ble_eq_true rfl) d_R_shZ_98 (fun H locs hP hD hS => ?_)
              have hP : va_P D classes ([(h0, .inr (1, [.long ra, .long ((ra + rb) - (((-1 : Int32).toInt64) * rz)), .long rc, .long rx, .long ry, .long rz, .int rs]))] ++ wt) H := hP
              have hD : va_D A ([(h0, .inr (1, [.long ra, .long ((ra + rb) - (((-1 : Int32).toInt64) * rz)), .long rc, .long rx, .long ry, .long rz, .int rs]))] ++ wt) := hD
              refine lv_aload_n hx hb d_R_shZ_101 rfl (lv_at hl 1 rfl) ?_
              refine lv_aload_n hx hb d_R_shZ_102 rfl (lv_at hl 1 rfl) ?_
              refine va_get (D := D) (ci := 1) (v := .long rx) (C := R_Reducer) (T := F_Reducer) (N := 7) hx hb htg i_Reducer hown hK hP 0 rfl rfl 3 (by decide) (htg _ tm_59) (fun _ h9 => h9) rfl d_R_shZ_103 ?_
              refine lv_iload_n hx hb d_R_shZ_106 rfl (lv_at hl 0 rfl) ?_
              refine lv_i2l hx hb d_R_shZ_107 rfl ?_
              refine lv_aload_n hx hb d_R_shZ_108 rfl (lv_at hl 1 rfl) ?_
              refine va_get (D := D) (ci := 1) (v := .long ry) (C := R_Reducer) (T := F_Reducer) (N := 7) hx hb htg i_Reducer hown hK hP 0 rfl rfl 4 (by decide) (htg _ tm_60) (fun _ h9 => h9) rfl d_R_shZ_109 ?_
              refine lv_lmul hx hb d_R_shZ_112 ?_
              refine lv_lsub hx hb d_R_shZ_113 ?_
              refine va_put (D := D) (ci := 1) (v := .long (rx - (((-1 : Int32).toInt64) * ry))) (ty := .long) (C := R_Reducer) (T := F_Reducer) (N := 7) hx hb htg i_Reducer t_Reducer t_Reducer_ok n_Reducer hown hK hP hD hS 0 rfl rfl 3 (by decide) (htg _ tm_59) (fun _ h9 => h9) rfl (by decide +kernel) rfl rfl (Nat.le_of_ble_eq_true rfl) d_R_shZ_114 (fun H locs hP hD hS => ?_)
              have hP : va_P D classes ([(h0, .inr (1, [.long ra, .long ((ra + rb) - (((-1 : Int32).toInt64) * rz)), .long rc, .long (rx - (((-1 : Int32).toInt64) * ry)), .long ry, .long rz, .int rs]))] ++ wt) H := hP
              have hD : va_D A ([(h0, .inr (1, [.long ra, .long ((ra + rb) - (((-1 : Int32).toInt64) * rz)), .long rc, .long (rx - (((-1 : Int32).toInt64) * ry)), .long ry, .long rz, .int rs]))] ++ wt) := hD
              refine lv_aload_n hx hb d_R_shZ_117 rfl (lv_at hl 1 rfl) ?_
              refine lv_aload_n hx hb d_R_shZ_118 rfl (lv_at hl 1 rfl) ?_
              refine va_get (D := D) (ci := 1) (v := .long rz) (C := R_Reducer) (T := F_Reducer) (N := 7) hx hb htg i_Reducer hown hK hP 0 rfl rfl 5 (by decide) (htg _ tm_61) (fun _ h9 => h9) rfl d_R_shZ_119 ?_
              refine lv_iconst (v := (2 : Int32)) hx hb d_R_shZ_122 (by decide) ?_
              refine lv_iload_n hx hb d_R_shZ_123 rfl (lv_at hl 0 rfl) ?_
              refine lv_imul hx hb d_R_shZ_124 ?_
              refine lv_i2l hx hb d_R_shZ_125 rfl ?_
              refine lv_aload_n hx hb d_R_shZ_126 rfl (lv_at hl 1 rfl) ?_
              refine va_get (D := D) (ci := 1) (v := .long ra) (C := R_Reducer) (T := F_Reducer) (N := 7) hx hb htg i_Reducer hown hK hP 0 rfl rfl 0 (by decide) (htg _ tm_56) (fun _ h9 => h9) rfl d_R_shZ_127 ?_
              refine lv_lmul hx hb d_R_shZ_130 ?_
              refine lv_lsub hx hb d_R_shZ_131 ?_
              refine va_put (D := D) (ci := 1) (v := .long (rz - ((((2 : Int32) * (-1 : Int32)).toInt64) * ra))) (ty := .long) (C := R_Reducer) (T := F_Reducer) (N := 7) hx hb htg i_Reducer t_Reducer t_Reducer_ok n_Reducer hown hK hP hD hS 0 rfl rfl 5 (by decide) (htg _ tm_61) (fun _ h9 => h9) rfl (by decide +kernel) rfl rfl (Nat.le_of_ble_eq_true rfl) d_R_shZ_132 (fun H locs hP hD hS => ?_)
              have hP : va_P D classes ([(h0, .inr (1, [.long ra, .long ((ra + rb) - (((-1 : Int32).toInt64) * rz)), .long rc, .long (rx - (((-1 : Int32).toInt64) * ry)), .long ry, .long (rz - ((((2 : Int32) * (-1 : Int32)).toInt64) * ra)), .int rs]))] ++ wt) H := hP
              have hD : va_D A ([(h0, .inr (1, [.long ra, .long ((ra + rb) - (((-1 : Int32).toInt64) * rz)), .long rc, .long (rx - (((-1 : Int32).toInt64) * ry)), .long ry, .long (rz - ((((2 : Int32) * (-1 : Int32)).toInt64) * ra)), .int rs]))] ++ wt) := hD
              refine lv_iconst (v := (1 : Int32)) hx hb d_R_shZ_135 (by decide) ?_
              exact W.zret (v := (1 : Int32)) (ty := .boolean) hx hb hr rfl (fun t ht hW => ⟨⟨(1 : Int32), (ra, (ra + rb) - (((-1 : Int32).toInt64) * rz), rc, rx - (((-1 : Int32).toInt64) * ry), ry, rz - ((((2 : Int32) * (-1 : Int32)).toInt64) * ra), rs), rfl, h, by rw [ht]; exact hP, hD⟩, hS.F ht⟩) hS.2.2 d_R_shZ_136
            · rw [if_neg c_11] at h
              refine lv_iconst (v := (1 : Int32)) hx hb d_R_shZ_74 (by decide) ?_
              refine lv_goto (tgt := 79) hx hb d_R_shZ_75 (by decide) ?_
              refine lv_istore_n (lv' := [(1, .int (1 : Int32)), (0, .ref h0)]) hx hb d_R_shZ_79 rfl hl (by decide) rfl (fun ls hl => ?_)
              refine lv_aload_n hx hb d_R_shZ_80 rfl (lv_at hl 1 rfl) ?_
              refine lv_aload_n hx hb d_R_shZ_81 rfl (lv_at hl 1 rfl) ?_
              refine va_get (D := D) (ci := 1) (v := .long ra) (C := R_Reducer) (T := F_Reducer) (N := 7) hx hb htg i_Reducer hown hK hP 0 rfl rfl 0 (by decide) (htg _ tm_56) (fun _ h9 => h9) rfl d_R_shZ_82 ?_
              refine lv_aload_n hx hb d_R_shZ_85 rfl (lv_at hl 1 rfl) ?_
              refine va_get (D := D) (ci := 1) (v := .long rb) (C := R_Reducer) (T := F_Reducer) (N := 7) hx hb htg i_Reducer hown hK hP 0 rfl rfl 1 (by decide) (htg _ tm_57) (fun _ h9 => h9) rfl d_R_shZ_86 ?_
              refine lv_ladd hx hb d_R_shZ_89 ?_
              refine lv_iload_n hx hb d_R_shZ_90 rfl (lv_at hl 0 rfl) ?_
              refine lv_i2l hx hb d_R_shZ_91 rfl ?_
              refine lv_aload_n hx hb d_R_shZ_92 rfl (lv_at hl 1 rfl) ?_
              refine va_get (D := D) (ci := 1) (v := .long rz) (C := R_Reducer) (T := F_Reducer) (N := 7) hx hb htg i_Reducer hown hK hP 0 rfl rfl 5 (by decide) (htg _ tm_61) (fun _ h9 => h9) rfl d_R_shZ_93 ?_
              refine lv_lmul hx hb d_R_shZ_96 ?_
              refine lv_lsub hx hb d_R_shZ_97 ?_
              refine va_put (D := D) (ci := 1) (v := .long ((ra + rb) - (((1 : Int32).toInt64) * rz))) (ty := .long) (C := R_Reducer) (T := F_Reducer) (N := 7) hx hb htg i_Reducer t_Reducer t_Reducer_ok n_Reducer hown hK hP hD hS 0 rfl rfl 1 (by decide) (htg _ tm_57) (fun _ h9 => h9) rfl (by decide +kernel) rfl rfl (Nat.le_of_ble_eq_true rfl) d_R_shZ_98 (fun H locs hP hD hS => ?_)
              have hP : va_P D classes ([(h0, .inr (1, [.long ra, .long ((ra + rb) - (((1 : Int32).toInt64) * rz)), .long rc, .long rx, .long ry, .long rz, .int rs]))] ++ wt) H := hP
              have hD : va_D A ([(h0, .inr (1, [.long ra, .long ((ra + rb) - (((1 : Int32).toInt64) * rz)), .long rc, .long rx, .long ry, .long rz, .int rs]))] ++ wt) := hD
              refine lv_aload_n hx hb d_R_shZ_101 rfl (lv_at hl 1 rfl) ?_
              refine lv_aload_n hx hb d_R_shZ_102 rfl (lv_at hl 1 rfl) ?_
              refine va_get (D := D) (ci := 1) (v := .long rx) (C := R_Reducer) (T := F_Reducer) (N := 7) hx hb htg i_Reducer hown hK hP 0 rfl rfl 3 (by decide) (htg _ tm_59) (fun _ h9 => h9) rfl d_R_shZ_103 ?_
              refine lv_iload_n hx hb d_R_shZ_106 rfl (lv_at hl 0 rfl) ?_
              refine lv_i2l hx hb d_R_shZ_107 rfl ?_
              refine lv_aload_n hx hb d_R_shZ_108 rfl (lv_at hl 1 rfl) ?_
              refine va_get (D := D) (ci := 1) (v := .long ry) (C := R_Reducer) (T := F_Reducer) (N := 7) hx hb htg i_Reducer hown hK hP 0 rfl rfl 4 (by decide) (htg _ tm_60) (fun _ h9 => h9) rfl d_R_shZ_109 ?_
              refine lv_lmul hx hb d_R_shZ_112 ?_
              refine lv_lsub hx hb d_R_shZ_113 ?_
              refine va_put (D := D) (ci := 1) (v := .long (rx - (((1 : Int32).toInt64) * ry))) (ty := .long) (C := R_Reducer) (T := F_Reducer) (N := 7) hx hb htg i_Reducer t_Reducer t_Reducer_ok n_Reducer hown hK hP hD hS 0 rfl rfl 3 (by decide) (htg _ tm_59) (fun _ h9 => h9) rfl (by decide +kernel) rfl rfl (Nat.le_of_ble_eq_true rfl) d_R_shZ_114 (fun H locs hP hD hS => ?_)
              have hP : va_P D classes ([(h0, .inr (1, [.long ra, .long ((ra + rb) - (((1 : Int32).toInt64) * rz)), .long rc, .long (rx - (((1 : Int32).toInt64) * ry)), .long ry, .long rz, .int rs]))] ++ wt) H := hP
              have hD : va_D A ([(h0, .inr (1, [.long ra, .long ((ra + rb) - (((1 : Int32).toInt64) * rz)), .long rc, .long (rx - (((1 : Int32).toInt64) * ry)), .long ry, .long rz, .int rs]))] ++ wt) := hD
              refine lv_aload_n hx hb d_R_shZ_117 rfl (lv_at hl 1 rfl) ?_
              refine lv_aload_n hx hb d_R_shZ_118 rfl (lv_at hl 1 rfl) ?_
              refine va_get (D := D) (ci := 1) (v := .long rz) (C := R_Reducer) (T := F_Reducer) (N := 7) hx hb htg i_Reducer hown hK hP 0 rfl rfl 5 (by decide) (htg _ tm_61) (fun _ h9 => h9) rfl d_R_shZ_119 ?_
              refine lv_iconst (v := (2 : Int32)) hx hb d_R_shZ_122 (by decide) ?_
              refine lv_iload_n hx hb d_R_shZ_123 rfl (lv_at hl 0 rfl) ?_
              refine lv_imul hx hb d_R_shZ_124 ?_
              refine lv_i2l hx hb d_R_shZ_125 rfl ?_
              refine lv_aload_n hx hb d_R_shZ_126 rfl (lv_at hl 1 rfl) ?_
              refine va_get (D := D) (ci := 1) (v := .long ra) (C := R_Reducer) (T := F_Reducer) (N := 7) hx hb htg i_Reducer hown hK hP 0 rfl rfl 0 (by decide) (htg _ tm_56) (fun _ h9 => h9) rfl d_R_shZ_127 ?_
              refine lv_lmul hx hb d_R_shZ_130 ?_
              refine lv_lsub hx hb d_R_shZ_131 ?_
              refine va_put (D := D) (ci := 1) (v := .long (rz - ((((2 : Int32) * (1 : Int32)).toInt64) * ra))) (ty := .long) (C := R_Reducer) (T := F_Reducer) (N := 7) hx hb htg i_Reducer t_Reducer t_Reducer_ok n_Reducer hown hK hP hD hS 0 rfl rfl 5 (by decide) (htg _ tm_61) (fun _ h9 => h9) rfl (by decide +kernel) rfl rfl (Nat.le_of_ble_eq_true rfl) d_R_shZ_132 (fun H locs hP hD hS => ?_)
              have hP : va_P D classes ([(h0, .inr (1, [.long ra, .long ((ra + rb) - (((1 : Int32).toInt64) * rz)), .long rc, .long (rx - (((1 : Int32).toInt64) * ry)), .long ry, .long (rz - ((((2 : Int32) * (1 : Int32)).toInt64) * ra)), .int rs]))] ++ wt) H := hP
              have hD : va_D A ([(h0, .inr (1, [.long ra, .long ((ra + rb) - (((1 : Int32).toInt64) * rz)), .long rc, .long (rx - (((1 : Int32).toInt64) * ry)), .long ry, .long (rz - ((((2 : Int32) * (1 : Int32)).toInt64) * ra)), .int rs]))] ++ wt) := hD
              refine lv_iconst (v := (1 : Int32)) hx hb d_R_shZ_135 (by decide) ?_
              exact W.zret (v := (1 : Int32)) (ty := .boolean) hx hb hr rfl (fun t ht hW => ⟨⟨(1 : Int32), (ra, (ra + rb) - (((1 : Int32).toInt64) * rz), rc, rx - (((1 : Int32).toInt64) * ry), ry, rz - ((((2 : Int32) * (1 : Int32)).toInt64) * ra), rs), rfl, h, by rw [ht]; exact hP, hD⟩, hS.F ht⟩) hS.2.2 d_R_shZ_136
-- CellBench$Reducer shearBySum ()Z
def f_R_shS (ra : Int64) (rb : Int64) (rc : Int64) (rx : Int64) (ry : Int64) (rz : Int64) (rs : Int32) : Int32 × Int64 × Int64 × Int64 × Int64 × Int64 × Int64 × Int32 :=
    if (lg_cmp ((((rx + ry) + rz) + ra) + rb) (0 : Int64)) < 0 then ((1 : Int32), ra, rb, rc + ((((rx + ry) + rz) + ra) + rb), (((2 : Int64) * rb) + rx) + rz, (((2 : Int64) * ra) + ry) + rz, rz, rs) else (if (lg_cmp ((((rx + ry) + rz) + ra) + rb) (0 : Int64)) = 0 then (if (lg_cmp (((2 : Int64) * (ra + ry)) + rz) (0 : Int64)) ≤ 0 then ((0 : Int32), ra, rb, rc, rx, ry, rz, rs) else ((1 : Int32), ra, rb, rc + ((((rx + ry) + rz) + ra) + rb), (((2 : Int64) * rb) + rx) + rz, (((2 : Int64) * ra) + ry) + rz, rz, rs)) else ((0 : Int32), ra, rb, rc, rx, ry, rz, rs))
def w_R_shS : List Cond := .code y_R_shS b_R_shS 3 (some .boolean) :: GW
abbrev rm_R_shS : Room := { frames := 0, cells := 0, slots := 0, locals := 0 }
theorem g_R_shS : GoodIn GW w_R_shS := gi tm_217
set_option maxHeartbeats 4000000 in
set_option maxRecDepth 100000 in
theorem c_R_shS (l : Launch) (D : va_G) (ct : CT) (A : Nat → Prop) (wt : va_W)  (h0 : Nat) (ra : Int64) (rb : Int64) (rc : Int64) (rx : Int64) (ry : Int64) (rz : Int64) (rs : Int32)   (r0 : Int32 × Int64 × Int64 × Int64 × Int64 × Int64 × Int64 × Int32) (h : f_R_shS ra rb rc rx ry rz rs = r0) : Met l y_R_shS w_R_shS rm_R_shS (va_Pc [.ref h0] (PreM D ct A ([(h0, .inr (1, [.long ra, .long rb, .long rc, .long rx, .long ry, .long rz, .int rs]))] ++ wt))) (va_Qi (fun r u => (r, u) = r0) (fun (u : Int64 × Int64 × Int64 × Int64 × Int64 × Int64 × Int32) t => match u with | (ra', rb', rc', rx', ry', rz', rs') => va_P D classes ([(h0, .inr (1, [.long ra', .long rb', .long rc', .long rx', .long ry', .long rz', .int rs']))] ++ wt) t.heap ∧ va_D A ([(h0, .inr (1, [.long ra', .long rb', .long rc', .long rx', .long ry', .long rz', .int rs']))] ++ wt)) A) 0 0 A := by
  refine Met.ofW (cc := b_R_shS) (maxL := 3) (ret := (some .boolean)) (by decide) rfl ?_
  intro p e s m args below meth c s₁ B hml hv
  obtain ⟨rfl, hA, hP, hD, hKK⟩ := hv
  have hx := B.exec
  have hb := B.bytes
  have hr := B.returns
  have htg := ht_tl (atoms_spec (ws := w_R_shS) B.pre)
  have hown : s.vm.findClass R_Reducer = some m.cls := findClass_of_methodNamed B.named
  have hlocks := B.notSynchronized
  have hK := hKK.1
  have hN := hKK.2.1
  have hO := hKK.2.2
  have hS : va_S A s.heap s.heap [] := va_S.rf
  have hl := lv_entry ([.ref h0]) (n := 3) (Nat.le_of_ble_eq_true rfl)
  rw [lg_entry_eq]
  generalize (lg_sl ([.ref h0]) ++ List.replicate (3 - (lg_sl ([.ref h0])).length) Slot.unset).toArray = ls at hl ⊢
  have hl : lv_has ls 3 [(0, .ref h0)] := hl
  unfold f_R_shS at h
  refine lv_aload_n hx hb d_R_shS_0 rfl (lv_at hl 0 rfl) ?_
  refine va_get (D := D) (ci := 1) (v := .long rx) (C := R_Reducer) (T := F_Reducer) (N := 7) hx hb htg i_Reducer hown hK hP 0 rfl rfl 3 (by decide) (htg _ tm_59) (fun _ h9 => h9) rfl d_R_shS_1 ?_
  refine lv_aload_n hx hb d_R_shS_4 rfl (lv_at hl 0 rfl) ?_
  refine va_get (D := D) (ci := 1) (v := .long ry) (C := R_Reducer) (T := F_Reducer) (N := 7) hx hb htg i_Reducer hown hK hP 0 rfl rfl 4 (by decide) (htg _ tm_60) (fun _ h9 => h9) rfl d_R_shS_5 ?_
  refine lv_ladd hx hb d_R_shS_8 ?_
  refine lv_aload_n hx hb d_R_shS_9 rfl (lv_at hl 0 rfl) ?_
  refine va_get (D := D) (ci := 1) (v := .long rz) (C := R_Reducer) (T := F_Reducer) (N := 7) hx hb htg i_Reducer hown hK hP 0 rfl rfl 5 (by decide) (htg _ tm_61) (fun _ h9 => h9) rfl d_R_shS_10 ?_
  refine lv_ladd hx hb d_R_shS_13 ?_
  refine lv_aload_n hx hb d_R_shS_14 rfl (lv_at hl 0 rfl) ?_
  refine va_get (D := D) (ci := 1) (v := .long ra) (C := R_Reducer) (T := F_Reducer) (N := 7) hx hb htg i_Reducer hown hK hP 0 rfl rfl 0 (by decide) (htg _ tm_56) (fun _ h9 => h9) rfl d_R_shS_15 ?_
  refine lv_ladd hx hb d_R_shS_18 ?_
  refine lv_aload_n hx hb d_R_shS_19 rfl (lv_at hl 0 rfl) ?_
  refine va_get (D := D) (ci := 1) (v := .long rb) (C := R_Reducer) (T := F_Reducer) (N := 7) hx hb htg i_Reducer hown hK hP 0 rfl rfl 1 (by decide) (htg _ tm_57) (fun _ h9 => h9) rfl d_R_shS_20 ?_
  refine lv_ladd hx hb d_R_shS_23 ?_
  refine lv_lstore_n (lv' := [(1, .long ((((rx + ry) + rz) + ra) + rb)), (0, .ref h0)]) hx hb d_R_shS_24 rfl hl (by decide) rfl (fun ls hl => ?_)
  refine lv_lload_n hx hb d_R_shS_25 rfl (lv_at hl 0 rfl) ?_
  refine lv_lconst (v := (0 : Int64)) hx hb d_R_shS_26 (by decide) ?_
  refine W.lcmp hx hb d_R_shS_27 ?_
  refine lv_if_lt (tgt := 60) hx hb d_R_shS_28 (by decide) (fun c_1 => ?_) (fun c_1 => ?_)
  · rw [if_pos c_1] at h
    refine lv_aload_n hx hb d_R_shS_60 rfl (lv_at hl 1 rfl) ?_
    refine lv_aload_n hx hb d_R_shS_61 rfl (lv_at hl 1 rfl) ?_
    refine va_get (D := D) (ci := 1) (v := .long rc) (C := R_Reducer) (T := F_Reducer) (N := 7) hx hb htg i_Reducer hown hK hP 0 rfl rfl 2 (by decide) (htg _ tm_58) (fun _ h9 => h9) rfl d_R_shS_62 ?_
    refine lv_lload_n hx hb d_R_shS_65 rfl (lv_at hl 0 rfl) ?_
    refine lv_ladd hx hb d_R_shS_66 ?_
    refine va_put (D := D) (ci := 1) (v := .long (rc + ((((rx + ry) + rz) + ra) + rb))) (ty := .long) (C := R_Reducer) (T := F_Reducer) (N := 7) hx hb htg i_Reducer t_Reducer t_Reducer_ok n_Reducer hown hK hP hD hS 0 rfl rfl 2 (by decide) (htg _ tm_58) (fun _ h9 => h9) rfl (by decide +kernel) rfl rfl (Nat.le_of_ble_eq_true rfl) d_R_shS_67 (fun H locs hP hD hS => ?_)
    have hP : va_P D classes ([(h0, .inr (1, [.long ra, .long rb, .long (rc + ((((rx + ry) + rz) + ra) + rb)), .long rx, .long ry, .long rz, .int rs]))] ++ wt) H := hP
    have hD : va_D A ([(h0, .inr (1, [.long ra, .long rb, .long (rc + ((((rx + ry) + rz) + ra) + rb)), .long rx, .long ry, .long rz, .int rs]))] ++ wt) := hD
    refine lv_aload_n hx hb d_R_shS_70 rfl (lv_at hl 1 rfl) ?_
    refine lv_ldc2 (v := (2 : Int64)) hx hb hown (htg _ tm_178) d_R_shS_71 ?_
    refine lv_aload_n hx hb d_R_shS_74 rfl (lv_at hl 1 rfl) ?_
    refine va_get (D := D) (ci := 1) (v := .long rb) (C := R_Reducer) (T := F_Reducer) (N := 7) hx hb htg i_Reducer hown hK hP 0 rfl rfl 1 (by decide) (htg _ tm_57) (fun _ h9 => h9) rfl d_R_shS_75 ?_
    refine lv_lmul hx hb d_R_shS_78 ?_
    refine lv_aload_n hx hb d_R_shS_79 rfl (lv_at hl 1 rfl) ?_
    refine va_get (D := D) (ci := 1) (v := .long rx) (C := R_Reducer) (T := F_Reducer) (N := 7) hx hb htg i_Reducer hown hK hP 0 rfl rfl 3 (by decide) (htg _ tm_59) (fun _ h9 => h9) rfl d_R_shS_80 ?_
    refine lv_ladd hx hb d_R_shS_83 ?_
    refine lv_aload_n hx hb d_R_shS_84 rfl (lv_at hl 1 rfl) ?_
    refine va_get (D := D) (ci := 1) (v := .long rz) (C := R_Reducer) (T := F_Reducer) (N := 7) hx hb htg i_Reducer hown hK hP 0 rfl rfl 5 (by decide) (htg _ tm_61) (fun _ h9 => h9) rfl d_R_shS_85 ?_
    refine lv_ladd hx hb d_R_shS_88 ?_
    refine va_put (D := D) (ci := 1) (v := .long ((((2 : Int64) * rb) + rx) + rz)) (ty := .long) (C := R_Reducer) (T := F_Reducer) (N := 7) hx hb htg i_Reducer t_Reducer t_Reducer_ok n_Reducer hown hK hP hD hS 0 rfl rfl 3 (by decide) (htg _ tm_59) (fun _ h9 => h9) rfl (by decide +kernel) rfl rfl (Nat.le_of_ble_eq_true rfl) d_R_shS_89 (fun H locs hP hD hS => ?_)
    have hP : va_P D classes ([(h0, .inr (1, [.long ra, .long rb, .long (rc + ((((rx + ry) + rz) + ra) + rb)), .long ((((2 : Int64) * rb) + rx) + rz), .long ry, .long rz, .int rs]))] ++ wt) H := hP
    have hD : va_D A ([(h0, .inr (1, [.long ra, .long rb, .long (rc + ((((rx + ry) + rz) + ra) + rb)), .long ((((2 : Int64) * rb) + rx) + rz), .long ry, .long rz, .int rs]))] ++ wt) := hD
    refine lv_aload_n hx hb d_R_shS_92 rfl (lv_at hl 1 rfl) ?_
    refine lv_ldc2 (v := (2 : Int64)) hx hb hown (htg _ tm_178) d_R_shS_93 ?_
    refine lv_aload_n hx hb d_R_shS_96 rfl (lv_at hl 1 rfl) ?_
    refine va_get (D := D) (ci := 1) (v := .long ra) (C := R_Reducer) (T := F_Reducer) (N := 7) hx hb htg i_Reducer hown hK hP 0 rfl rfl 0 (by decide) (htg _ tm_56) (fun _ h9 => h9) rfl d_R_shS_97 ?_
    refine lv_lmul hx hb d_R_shS_100 ?_
    refine lv_aload_n hx hb d_R_shS_101 rfl (lv_at hl 1 rfl) ?_
    refine va_get (D := D) (ci := 1) (v := .long ry) (C := R_Reducer) (T := F_Reducer) (N := 7) hx hb htg i_Reducer hown hK hP 0 rfl rfl 4 (by decide) (htg _ tm_60) (fun _ h9 => h9) rfl d_R_shS_102 ?_
    refine lv_ladd hx hb d_R_shS_105 ?_
    refine lv_aload_n hx hb d_R_shS_106 rfl (lv_at hl 1 rfl) ?_
    refine va_get (D := D) (ci := 1) (v := .long rz) (C := R_Reducer) (T := F_Reducer) (N := 7) hx hb htg i_Reducer hown hK hP 0 rfl rfl 5 (by decide) (htg _ tm_61) (fun _ h9 => h9) rfl d_R_shS_107 ?_
    refine lv_ladd hx hb d_R_shS_110 ?_
    refine va_put (D := D) (ci := 1) (v := .long ((((2 : Int64) * ra) + ry) + rz)) (ty := .long) (C := R_Reducer) (T := F_Reducer) (N := 7) hx hb htg i_Reducer t_Reducer t_Reducer_ok n_Reducer hown hK hP hD hS 0 rfl rfl 4 (by decide) (htg _ tm_60) (fun _ h9 => h9) rfl (by decide +kernel) rfl rfl (Nat.le_of_ble_eq_true rfl) d_R_shS_111 (fun H locs hP hD hS => ?_)
    have hP : va_P D classes ([(h0, .inr (1, [.long ra, .long rb, .long (rc + ((((rx + ry) + rz) + ra) + rb)), .long ((((2 : Int64) * rb) + rx) + rz), .long ((((2 : Int64) * ra) + ry) + rz), .long rz, .int rs]))] ++ wt) H := hP
    have hD : va_D A ([(h0, .inr (1, [.long ra, .long rb, .long (rc + ((((rx + ry) + rz) + ra) + rb)), .long ((((2 : Int64) * rb) + rx) + rz), .long ((((2 : Int64) * ra) + ry) + rz), .long rz, .int rs]))] ++ wt) := hD
    refine lv_iconst (v := (1 : Int32)) hx hb d_R_shS_114 (by decide) ?_
    exact W.zret (v := (1 : Int32)) (ty := .boolean) hx hb hr rfl (fun t ht hW => ⟨⟨(1 : Int32), (ra, rb, rc + ((((rx + ry) + rz) + ra) + rb), (((2 : Int64) * rb) + rx) + rz, (((2 : Int64) * ra) + ry) + rz, rz, rs), rfl, h, by rw [ht]; exact hP, hD⟩, hS.F ht⟩) hS.2.2 d_R_shS_115
  · rw [if_neg c_1] at h
    refine lv_lload_n hx hb d_R_shS_31 rfl (lv_at hl 0 rfl) ?_
    refine lv_lconst (v := (0 : Int64)) hx hb d_R_shS_32 (by decide) ?_
    refine W.lcmp hx hb d_R_shS_33 ?_
    refine lv_if_ne (tgt := 116) hx hb d_R_shS_34 (by decide) (fun c_2 => ?_) (fun c_2 => ?_)
    · rw [if_neg c_2] at h
      refine lv_iconst (v := (0 : Int32)) hx hb d_R_shS_116 (by decide) ?_
      exact W.zret (v := (0 : Int32)) (ty := .boolean) hx hb hr rfl (fun t ht hW => ⟨⟨(0 : Int32), (ra, rb, rc, rx, ry, rz, rs), rfl, h, by rw [ht]; exact hP, hD⟩, hS.F ht⟩) hS.2.2 d_R_shS_117
    · rw [if_pos c_2] at h
      refine lv_ldc2 (v := (2 : Int64)) hx hb hown (htg _ tm_178) d_R_shS_37 ?_
      refine lv_aload_n hx hb d_R_shS_40 rfl (lv_at hl 1 rfl) ?_
      refine va_get (D := D) (ci := 1) (v := .long ra) (C := R_Reducer) (T := F_Reducer) (N := 7) hx hb htg i_Reducer hown hK hP 0 rfl rfl 0 (by decide) (htg _ tm_56) (fun _ h9 => h9) rfl d_R_shS_41 ?_
      refine lv_aload_n hx hb d_R_shS_44 rfl (lv_at hl 1 rfl) ?_
      refine va_get (D := D) (ci := 1) (v := .long ry) (C := R_Reducer) (T := F_Reducer) (N := 7) hx hb htg i_Reducer hown hK hP 0 rfl rfl 4 (by decide) (htg _ tm_60) (fun _ h9 => h9) rfl d_R_shS_45 ?_
      refine lv_ladd hx hb d_R_shS_48 ?_
      refine lv_lmul hx hb d_R_shS_49 ?_
      refine lv_aload_n hx hb d_R_shS_50 rfl (lv_at hl 1 rfl) ?_
      refine va_get (D := D) (ci := 1) (v := .long rz) (C := R_Reducer) (T := F_Reducer) (N := 7) hx hb htg i_Reducer hown hK hP 0 rfl rfl 5 (by decide) (htg _ tm_61) (fun _ h9 => h9) rfl d_R_shS_51 ?_
      refine lv_ladd hx hb d_R_shS_54 ?_
      refine lv_lconst (v := (0 : Int64)) hx hb d_R_shS_55 (by decide) ?_
      refine W.lcmp hx hb d_R_shS_56 ?_
      refine lv_if_le (tgt := 116) hx hb d_R_shS_57 (by decide) (fun c_3 => ?_) (fun c_3 => ?_)
      · rw [if_pos c_3] at h
        refine lv_iconst (v := (0 : Int32)) hx hb d_R_shS_116 (by decide) ?_
        exact W.zret (v := (0 : Int32)) (ty := .boolean) hx hb hr rfl (fun t ht hW => ⟨⟨(0 : Int32), (ra, rb, rc, rx, ry, rz, rs), rfl, h, by rw [ht]; exact hP, hD⟩, hS.F ht⟩) hS.2.2 d_R_shS_117
      · rw [if_neg c_3] at h
        refine lv_aload_n hx hb d_R_shS_60 rfl (lv_at hl 1 rfl) ?_
        refine lv_aload_n hx hb d_R_shS_61 rfl (lv_at hl 1 rfl) ?_
        refine va_get (D := D) (ci := 1) (v := .long rc) (C := R_Reducer) (T := F_Reducer) (N := 7) hx hb htg i_Reducer hown hK hP 0 rfl rfl 2 (by decide) (htg _ tm_58) (fun _ h9 => h9) rfl d_R_shS_62 ?_
        refine lv_lload_n hx hb d_R_shS_65 rfl (lv_at hl 0 rfl) ?_
        refine lv_ladd hx hb d_R_shS_66 ?_
        refine va_put (D := D) (ci := 1) (v := .long (rc + ((((rx + ry) + rz) + ra) + rb))) (ty := .long) (C := R_Reducer) (T := F_Reducer) (N := 7) hx hb htg i_Reducer t_Reducer t_Reducer_ok n_Reducer hown hK hP hD hS 0 rfl rfl 2 (by decide) (htg _ tm_58) (fun _ h9 => h9) rfl (by decide +kernel) rfl rfl (Nat.le_of_ble_eq_true rfl) d_R_shS_67 (fun H locs hP hD hS => ?_)
        have hP : va_P D classes ([(h0, .inr (1, [.long ra, .long rb, .long (rc + ((((rx + ry) + rz) + ra) + rb)), .long rx, .long ry, .long rz, .int rs]))] ++ wt) H := hP
        have hD : va_D A ([(h0, .inr (1, [.long ra, .long rb, .long (rc + ((((rx + ry) + rz) + ra) + rb)), .long rx, .long ry, .long rz, .int rs]))] ++ wt) := hD
        refine lv_aload_n hx hb d_R_shS_70 rfl (lv_at hl 1 rfl) ?_
        refine lv_ldc2 (v := (2 : Int64)) hx hb hown (htg _ tm_178) d_R_shS_71 ?_
        refine lv_aload_n hx hb d_R_shS_74 rfl (lv_at hl 1 rfl) ?_
        refine va_get (D := D) (ci := 1) (v := .long rb) (C := R_Reducer) (T := F_Reducer) (N := 7) hx hb htg i_Reducer hown hK hP 0 rfl rfl 1 (by decide) (htg _ tm_57) (fun _ h9 => h9) rfl d_R_shS_75 ?_
        refine lv_lmul hx hb d_R_shS_78 ?_
        refine lv_aload_n hx hb d_R_shS_79 rfl (lv_at hl 1 rfl) ?_
        refine va_get (D := D) (ci := 1) (v := .long rx) (C := R_Reducer) (T := F_Reducer) (N := 7) hx hb htg i_Reducer hown hK hP 0 rfl rfl 3 (by decide) (htg _ tm_59) (fun _ h9 => h9) rfl d_R_shS_80 ?_
        refine lv_ladd hx hb d_R_shS_83 ?_
        refine lv_aload_n hx hb d_R_shS_84 rfl (lv_at hl 1 rfl) ?_
        refine va_get (D := D) (ci := 1) (v := .long rz) (C := R_Reducer) (T := F_Reducer) (N := 7) hx hb htg i_Reducer hown hK hP 0 rfl rfl 5 (by decide) (htg _ tm_61) (fun _ h9 => h9) rfl d_R_shS_85 ?_
        refine lv_ladd hx hb d_R_shS_88 ?_
        refine va_put (D := D) (ci := 1) (v := .long ((((2 : Int64) * rb) + rx) + rz)) (ty := .long) (C := R_Reducer) (T := F_Reducer) (N := 7) hx hb htg i_Reducer t_Reducer t_Reducer_ok n_Reducer hown hK hP hD hS 0 rfl rfl 3 (by decide) (htg _ tm_59) (fun _ h9 => h9) rfl (by decide +kernel) rfl rfl (Nat.le_of_ble_eq_true rfl) d_R_shS_89 (fun H locs hP hD hS => ?_)
        have hP : va_P D classes ([(h0, .inr (1, [.long ra, .long rb, .long (rc + ((((rx + ry) + rz) + ra) + rb)), .long ((((2 : Int64) * rb) + rx) + rz), .long ry, .long rz, .int rs]))] ++ wt) H := hP
        have hD : va_D A ([(h0, .inr (1, [.long ra, .long rb, .long (rc + ((((rx + ry) + rz) + ra) + rb)), .long ((((2 : Int64) * rb) + rx) + rz), .long ry, .long rz, .int rs]))] ++ wt) := hD
        refine lv_aload_n hx hb d_R_shS_92 rfl (lv_at hl 1 rfl) ?_
        refine lv_ldc2 (v := (2 : Int64)) hx hb hown (htg _ tm_178) d_R_shS_93 ?_
        refine lv_aload_n hx hb d_R_shS_96 rfl (lv_at hl 1 rfl) ?_
        refine va_get (D := D) (ci := 1) (v := .long ra) (C := R_Reducer) (T := F_Reducer) (N := 7) hx hb htg i_Reducer hown hK hP 0 rfl rfl 0 (by decide) (htg _ tm_56) (fun _ h9 => h9) rfl d_R_shS_97 ?_
        refine lv_lmul hx hb d_R_shS_100 ?_
        refine lv_aload_n hx hb d_R_shS_101 rfl (lv_at hl 1 rfl) ?_
        refine va_get (D := D) (ci := 1) (v := .long ry) (C := R_Reducer) (T := F_Reducer) (N := 7) hx hb htg i_Reducer hown hK hP 0 rfl rfl 4 (by decide) (htg _ tm_60) (fun _ h9 => h9) rfl d_R_shS_102 ?_
        refine lv_ladd hx hb d_R_shS_105 ?_
        refine lv_aload_n hx hb d_R_shS_106 rfl (lv_at hl 1 rfl) ?_
        refine va_get (D := D) (ci := 1) (v := .long rz) (C := R_Reducer) (T := F_Reducer) (N := 7) hx hb htg i_Reducer hown hK hP 0 rfl rfl 5 (by decide) (htg _ tm_61) (fun _ h9 => h9) rfl d_R_shS_107 ?_
        refine lv_ladd hx hb d_R_shS_110 ?_
        refine va_put (D := D) (ci := 1) (v := .long ((((2 : Int64) * ra) + ry) + rz)) (ty := .long) (C := R_Reducer) (T := F_Reducer) (N := 7) hx hb htg i_Reducer t_Reducer t_Reducer_ok n_Reducer hown hK hP hD hS 0 rfl rfl 4 (by decide) (htg _ tm_60) (fun _ h9 => h9) rfl (by decide +kernel) rfl rfl (Nat.le_of_ble_eq_true rfl) d_R_shS_111 (fun H locs hP hD hS => ?_)
        have hP : va_P D classes ([(h0, .inr (1, [.long ra, .long rb, .long (rc + ((((rx + ry) + rz) + ra) + rb)), .long ((((2 : Int64) * rb) + rx) + rz), .long ((((2 : Int64) * ra) + ry) + rz), .long rz, .int rs]))] ++ wt) H := hP
        have hD : va_D A ([(h0, .inr (1, [.long ra, .long rb, .long (rc + ((((rx + ry) + rz) + ra) + rb)), .long ((((2 : Int64) * rb) + rx) + rz), .long ((((2 : Int64) * ra) + ry) + rz), .long rz, .int rs]))] ++ wt) := hD
        refine lv_iconst (v := (1 : Int32)) hx hb d_R_shS_114 (by decide) ?_
        exact W.zret (v := (1 : Int32)) (ty := .boolean) hx hb hr rfl (fun t ht hW => ⟨⟨(1 : Int32), (ra, rb, rc + ((((rx + ry) + rz) + ra) + rb), (((2 : Int64) * rb) + rx) + rz, (((2 : Int64) * ra) + ry) + rz, rz, rs), rfl, h, by rw [ht]; exact hP, hD⟩, hS.F ht⟩) hS.2.2 d_R_shS_115
