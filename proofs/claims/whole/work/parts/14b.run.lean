-- CellBench$Reducer run ()V
def lp_R_run_7  : Nat → Int32 → Int64 → Int64 → Int64 → Int64 → Int64 → Int64 → Int32 → Option (Int64 × Int64 × Int64 × Int64 × Int64 × Int64 × Int32)
  | 0, _, _, _, _, _, _, _, _ => none
  | n + 1, tu, ra, rb, rc, rx, ry, rz, rs =>
    if (1000000 : Int32) ≤ tu then (some (ra, rb, rc, rx, ry, rz, rs)) else (bnd (f_R_ord1 ra rb rc rx ry rz rs) (fun z_74 => (bnd (f_R_ord2 z_74.1 z_74.2.1 z_74.2.2.1 z_74.2.2.2.1 z_74.2.2.2.2.1 z_74.2.2.2.2.2.1 z_74.2.2.2.2.2.2) (fun z_73 => (if z_73.1 = 0 then (bnd (f_R_align z_73.2.1 z_73.2.2.1 z_73.2.2.2.1 z_73.2.2.2.2.1 z_73.2.2.2.2.2.1 z_73.2.2.2.2.2.2.1 z_73.2.2.2.2.2.2.2) (fun z_72 => (bnd (f_R_shX z_72.1 z_72.2.1 z_72.2.2.1 z_72.2.2.2.1 z_72.2.2.2.2.1 z_72.2.2.2.2.2.1 z_72.2.2.2.2.2.2) (fun z_71 => (if z_71.1 = 0 then (bnd (f_R_shY z_71.2.1 z_71.2.2.1 z_71.2.2.2.1 z_71.2.2.2.2.1 z_71.2.2.2.2.2.1 z_71.2.2.2.2.2.2.1 z_71.2.2.2.2.2.2.2) (fun z_70 => (if z_70.1 = 0 then (bnd (f_R_shZ z_70.2.1 z_70.2.2.1 z_70.2.2.2.1 z_70.2.2.2.2.1 z_70.2.2.2.2.2.1 z_70.2.2.2.2.2.2.1 z_70.2.2.2.2.2.2.2) (fun z_69 => (if z_69.1 = 0 then (bnd (f_R_shS z_69.2.1 z_69.2.2.1 z_69.2.2.2.1 z_69.2.2.2.2.1 z_69.2.2.2.2.2.1 z_69.2.2.2.2.2.2.1 z_69.2.2.2.2.2.2.2) (fun z_68 => (if z_68.1 = 0 then (some (z_68.2.1, z_68.2.2.1, z_68.2.2.2.1, z_68.2.2.2.2.1, z_68.2.2.2.2.2.1, z_68.2.2.2.2.2.2.1, z_68.2.2.2.2.2.2.2)) else (lp_R_run_7  n (tu + (1 : Int32)) z_68.2.1 z_68.2.2.1 z_68.2.2.2.1 z_68.2.2.2.2.1 z_68.2.2.2.2.2.1 z_68.2.2.2.2.2.2.1 (z_68.2.2.2.2.2.2.2 + (1 : Int32)))))) else (lp_R_run_7  n (tu + (1 : Int32)) z_69.2.1 z_69.2.2.1 z_69.2.2.2.1 z_69.2.2.2.2.1 z_69.2.2.2.2.2.1 z_69.2.2.2.2.2.2.1 (z_69.2.2.2.2.2.2.2 + (1 : Int32)))))) else (lp_R_run_7  n (tu + (1 : Int32)) z_70.2.1 z_70.2.2.1 z_70.2.2.2.1 z_70.2.2.2.2.1 z_70.2.2.2.2.2.1 z_70.2.2.2.2.2.2.1 (z_70.2.2.2.2.2.2.2 + (1 : Int32)))))) else (lp_R_run_7  n (tu + (1 : Int32)) z_71.2.1 z_71.2.2.1 z_71.2.2.2.1 z_71.2.2.2.2.1 z_71.2.2.2.2.2.1 z_71.2.2.2.2.2.2.1 (z_71.2.2.2.2.2.2.2 + (1 : Int32)))))))) else (lp_R_run_7  n (tu + (1 : Int32)) z_73.2.1 z_73.2.2.1 z_73.2.2.2.1 z_73.2.2.2.2.1 z_73.2.2.2.2.2.1 z_73.2.2.2.2.2.2.1 z_73.2.2.2.2.2.2.2))))))
def f_R_run (ra : Int64) (rb : Int64) (rc : Int64) (rx : Int64) (ry : Int64) (rz : Int64) (rs : Int32) : Option (Int64 × Int64 × Int64 × Int64 × Int64 × Int64 × Int32) :=
    lp_R_run_7  1000001 (0 : Int32) ra rb rc rx ry rz (0 : Int32)
def w_R_run : List Cond := .code y_R_run b_R_run 2 none :: GW
abbrev rm_R_run : Room := { frames := 2, cells := 0, slots := 0, locals := 45 }
theorem g_R_run : GoodIn GW w_R_run := gi tm_182
set_option maxHeartbeats 4000000 in
set_option maxRecDepth 100000 in
theorem c_R_run (l : Launch) (D : va_G) (ct : CT) (A : Nat → Prop) (wt : va_W)  (h0 : Nat) (ra : Int64) (rb : Int64) (rc : Int64) (rx : Int64) (ry : Int64) (rz : Int64) (rs : Int32)   (r0 : Int64 × Int64 × Int64 × Int64 × Int64 × Int64 × Int32) (h : f_R_run ra rb rc rx ry rz rs = some r0) : Met l y_R_run w_R_run rm_R_run (va_Pc [.ref h0] (PreM D ct A ([(h0, .inr (1, [.long ra, .long rb, .long rc, .long rx, .long ry, .long rz, .int rs]))] ++ wt))) (va_Qv (fun u => u = r0) (fun (u : Int64 × Int64 × Int64 × Int64 × Int64 × Int64 × Int32) t => match u with | (ra', rb', rc', rx', ry', rz', rs') => va_P D classes ([(h0, .inr (1, [.long ra', .long rb', .long rc', .long rx', .long ry', .long rz', .int rs']))] ++ wt) t.heap ∧ va_D A ([(h0, .inr (1, [.long ra', .long rb', .long rc', .long rx', .long ry', .long rz', .int rs']))] ++ wt)) A) 0 0 A := by
  refine Met.ofW (cc := b_R_run) (maxL := 2) (ret := none) (by decide) rfl ?_
  intro p e s m args below meth c s₁ B hml hv
  obtain ⟨rfl, hA, hP, hD, hKK⟩ := hv
  have hx := B.exec
  have hb := B.bytes
  have hr := B.returns
  have htg := ht_tl (atoms_spec (ws := w_R_run) B.pre)
  have hown : s.vm.findClass R_Reducer = some m.cls := findClass_of_methodNamed B.named
  have hlocks := B.notSynchronized
  have hK := hKK.1
  have hN := hKK.2.1
  have hO := hKK.2.2
  have hS : va_S A s.heap s.heap [] := va_S.rf
  have hl := lv_entry ([.ref h0]) (n := 2) (Nat.le_of_ble_eq_true rfl)
  rw [lg_entry_eq]
  generalize (lg_sl ([.ref h0]) ++ List.replicate (2 - (lg_sl ([.ref h0])).length) Slot.unset).toArray = ls at hl ⊢
  have hl : lv_has ls 2 [(0, .ref h0)] := hl
  unfold f_R_run at h
  refine lv_aload_n hx hb d_R_run_0 rfl (lv_at hl 0 rfl) ?_
  refine lv_iconst (v := (0 : Int32)) hx hb d_R_run_1 (by decide) ?_
  refine va_put (D := D) (ci := 1) (v := .int (0 : Int32)) (ty := .int) (C := R_Reducer) (T := F_Reducer) (N := 7) hx hb htg i_Reducer t_Reducer t_Reducer_ok n_Reducer hown hK hP hD hS 0 rfl rfl 6 (by decide) (htg _ tm_62) (fun _ h9 => h9) rfl (by decide +kernel) rfl rfl (Nat.le_of_ble_eq_true rfl) d_R_run_2 (fun H locs hP hD hS => ?_)
  have hP : va_P D classes ([(h0, .inr (1, [.long ra, .long rb, .long rc, .long rx, .long ry, .long rz, .int (0 : Int32)]))] ++ wt) H := hP
  have hD : va_D A ([(h0, .inr (1, [.long ra, .long rb, .long rc, .long rx, .long ry, .long rz, .int (0 : Int32)]))] ++ wt) := hD
  refine lv_iconst (v := (0 : Int32)) hx hb d_R_run_5 (by decide) ?_
  refine lv_istore_n (lv' := [(1, .int (0 : Int32)), (0, .ref h0)]) hx hb d_R_run_6 rfl hl (by decide) rfl (fun ls hl => ?_)
  have L_7 : ∀ (n : Nat) (tu : Int32) (ra : Int64) (rb : Int64) (rc : Int64) (rx : Int64) (ry : Int64) (rz : Int64) (rs : Int32) , lp_R_run_7  n tu ra rb rc rx ry rz rs = some r0 → ∀ (H : Heap) (locs : List Loc), va_P D classes ([(h0, .inr (1, [.long ra, .long rb, .long rc, .long rx, .long ry, .long rz, .int rs]))] ++ wt) H → va_D A ([(h0, .inr (1, [.long ra, .long rb, .long rc, .long rx, .long ry, .long rz, .int rs]))] ++ wt) → va_S A s.heap H locs → ∀ (ls : Array Slot), lv_has ls 2 [(1, .int tu), (0, .ref h0)] → W p l e (headSpec w_R_run rm_R_run).room s m ([.ref h0] : List Value).toArray below meth c H locs 0 0 (MQ below (va_Qv (fun u => u = r0) (fun (u : Int64 × Int64 × Int64 × Int64 × Int64 × Int64 × Int32) t => match u with | (ra', rb', rc', rx', ry', rz', rs') => va_P D classes ([(h0, .inr (1, [.long ra', .long rb', .long rc', .long rx', .long ry', .long rz', .int rs']))] ++ wt) t.heap ∧ va_D A ([(h0, .inr (1, [.long ra', .long rb', .long rc', .long rx', .long ry', .long rz', .int rs']))] ++ wt)) A) ([.ref h0] : List Value).toArray s 0 0 A) (F0 m 7 ls []) := by
    intro n
    induction n with
    | zero =>
      intro tu ra rb rc rx ry rz rs  h
      rw [lp_R_run_7] at h
      cases h
    | succ n ih =>
      intro tu ra rb rc rx ry rz rs  h H locs hP hD hS ls hl
      rw [lp_R_run_7] at h
      refine lv_iload_n hx hb d_R_run_7 rfl (lv_at hl 0 rfl) ?_
      refine lv_ldc (v := (1000000 : Int32)) hx hb hown (htg _ tm_183) d_R_run_8 ?_
      refine lv_icmp_ge (tgt := 76) hx hb d_R_run_10 (by decide) (fun c_1 => ?_) (fun c_1 => ?_)
      · rw [if_pos c_1] at h
        exact W.vret hx hb hr (fun t ht hW => ⟨⟨(ra, rb, rc, rx, ry, rz, rs), rfl, (Option.some.inj h), by rw [ht]; exact hP, hD⟩, hS.F ht⟩) hS.2.2 d_R_run_76
      · rw [if_neg c_1] at h
        refine lv_aload_n hx hb d_R_run_13 rfl (lv_at hl 1 rfl) ?_
        obtain ⟨⟨ra_2, rb_3, rc_4, rx_5, ry_6, rz_7, rs_8⟩, e_9⟩ : ∃ v, f_R_ord1 ra rb rc rx ry rz rs = v := ⟨_, rfl⟩
        rw [e_9, bnd_eq] at h
        try dsimp only at h
        refine va_callv (va_runV (As := []) (rest := []) ⟨hx, hb, hml, hown, htg⟩ (c_R_ord1 l D ct A ([] ++ wt)  h0 ra rb rc rx ry rz rs   _ e_9) (cwV 0 htg (giV tm_184 tm_186 tm_0 tm_32 g_R_ord1) rfl rfl rfl (by decide +kernel) ⟨Nat.le_of_ble_eq_true rfl, Nat.le_of_ble_eq_true rfl⟩) (preVM hA hS hP hD hKK (va_recv hK hP (ci := 1) (q0 := 0) rfl rfl)) rfl rfl hl.1 rfl (lv_room (Nat.le_of_ble_eq_true rfl)) d_R_run_14 ⟨Nat.le_of_ble_eq_true rfl, Nat.le_of_ble_eq_true rfl⟩) hS (fun q _ h9 => h9) (fun q h9 => h9) (fun u9 t9 H locs ht9 hvm9 hw9 hB9 hz9 hk9 hS => ?_)
        rw [hw9] at hB9
        obtain ⟨hP, hD⟩ := hB9
        rw [ht9] at hP
        have hP : va_P D classes ([(h0, .inr (1, [.long ra_2, .long rb_3, .long rc_4, .long rx_5, .long ry_6, .long rz_7, .int rs_8]))] ++ wt) H := hP
        have hD : va_D A ([(h0, .inr (1, [.long ra_2, .long rb_3, .long rc_4, .long rx_5, .long ry_6, .long rz_7, .int rs_8]))] ++ wt) := hD
        refine lv_aload_n hx hb d_R_run_17 rfl (lv_at hl 1 rfl) ?_
        obtain ⟨⟨r_10, ra_11, rb_12, rc_13, rx_14, ry_15, rz_16, rs_17⟩, e_18⟩ : ∃ v, f_R_ord2 ra_2 rb_3 rc_4 rx_5 ry_6 rz_7 rs_8 = v := ⟨_, rfl⟩
        rw [e_18, bnd_eq] at h
        try dsimp only at h
        refine va_calli (va_runV (As := []) (rest := []) ⟨hx, hb, hml, hown, htg⟩ (c_R_ord2 l D ct A ([] ++ wt)  h0 ra_2 rb_3 rc_4 rx_5 ry_6 rz_7 rs_8   _ e_18) (cwV 0 htg (giV tm_191 tm_193 tm_1 tm_32 g_R_ord2) rfl rfl rfl (by decide +kernel) ⟨Nat.le_of_ble_eq_true rfl, Nat.le_of_ble_eq_true rfl⟩) (preVM hA hS hP hD hKK (va_recv hK hP (ci := 1) (q0 := 0) rfl rfl)) rfl rfl hl.1 rfl (lv_room (Nat.le_of_ble_eq_true rfl)) d_R_run_18 ⟨Nat.le_of_ble_eq_true rfl, Nat.le_of_ble_eq_true rfl⟩) hS (fun q _ h9 => h9) (fun q h9 => h9) (fun r9 u9 t9 H locs ht9 hvm9 hw9 hB9 hz9 hk9 hS => ?_)
        obtain ⟨hw8, hw9⟩ := Prod.mk.inj hw9
        rw [hw8]
        rw [hw9] at hB9
        obtain ⟨hP, hD⟩ := hB9
        rw [ht9] at hP
        have hP : va_P D classes ([(h0, .inr (1, [.long ra_11, .long rb_12, .long rc_13, .long rx_14, .long ry_15, .long rz_16, .int rs_17]))] ++ wt) H := hP
        have hD : va_D A ([(h0, .inr (1, [.long ra_11, .long rb_12, .long rc_13, .long rx_14, .long ry_15, .long rz_16, .int rs_17]))] ++ wt) := hD
        refine lv_if_eq (tgt := 27) hx hb d_R_run_21 (by decide) (fun c_19 => ?_) (fun c_19 => ?_)
        · rw [if_pos c_19] at h
          refine lv_aload_n hx hb d_R_run_27 rfl (lv_at hl 1 rfl) ?_
          obtain ⟨⟨ra_20, rb_21, rc_22, rx_23, ry_24, rz_25, rs_26⟩, e_27⟩ : ∃ v, f_R_align ra_11 rb_12 rc_13 rx_14 ry_15 rz_16 rs_17 = v := ⟨_, rfl⟩
          rw [e_27, bnd_eq] at h
          try dsimp only at h
          refine va_callv (va_runV (As := []) (rest := []) ⟨hx, hb, hml, hown, htg⟩ (c_R_align l D ct A ([] ++ wt)  h0 ra_11 rb_12 rc_13 rx_14 ry_15 rz_16 rs_17   _ e_27) (cwV 0 htg (giV tm_195 tm_197 tm_2 tm_32 g_R_align) rfl rfl rfl (by decide +kernel) ⟨Nat.le_of_ble_eq_true rfl, Nat.le_of_ble_eq_true rfl⟩) (preVM hA hS hP hD hKK (va_recv hK hP (ci := 1) (q0 := 0) rfl rfl)) rfl rfl hl.1 rfl (lv_room (Nat.le_of_ble_eq_true rfl)) d_R_run_28 ⟨Nat.le_of_ble_eq_true rfl, Nat.le_of_ble_eq_true rfl⟩) hS (fun q _ h9 => h9) (fun q h9 => h9) (fun u9 t9 H locs ht9 hvm9 hw9 hB9 hz9 hk9 hS => ?_)
          rw [hw9] at hB9
          obtain ⟨hP, hD⟩ := hB9
          rw [ht9] at hP
          have hP : va_P D classes ([(h0, .inr (1, [.long ra_20, .long rb_21, .long rc_22, .long rx_23, .long ry_24, .long rz_25, .int rs_26]))] ++ wt) H := hP
          have hD : va_D A ([(h0, .inr (1, [.long ra_20, .long rb_21, .long rc_22, .long rx_23, .long ry_24, .long rz_25, .int rs_26]))] ++ wt) := hD
          refine lv_aload_n hx hb d_R_run_31 rfl (lv_at hl 1 rfl) ?_
          obtain ⟨⟨r_28, ra_29, rb_30, rc_31, rx_32, ry_33, rz_34, rs_35⟩, e_36⟩ : ∃ v, f_R_shX ra_20 rb_21 rc_22 rx_23 ry_24 rz_25 rs_26 = v := ⟨_, rfl⟩
          rw [e_36, bnd_eq] at h
          try dsimp only at h
          refine va_calli (va_runV (As := []) (rest := []) ⟨hx, hb, hml, hown, htg⟩ (c_R_shX l D ct A ([] ++ wt)  h0 ra_20 rb_21 rc_22 rx_23 ry_24 rz_25 rs_26   _ e_36) (cwV 0 htg (giV tm_202 tm_204 tm_3 tm_32 g_R_shX) rfl rfl rfl (by decide +kernel) ⟨Nat.le_of_ble_eq_true rfl, Nat.le_of_ble_eq_true rfl⟩) (preVM hA hS hP hD hKK (va_recv hK hP (ci := 1) (q0 := 0) rfl rfl)) rfl rfl hl.1 rfl (lv_room (Nat.le_of_ble_eq_true rfl)) d_R_run_32 ⟨Nat.le_of_ble_eq_true rfl, Nat.le_of_ble_eq_true rfl⟩) hS (fun q _ h9 => h9) (fun q h9 => h9) (fun r9 u9 t9 H locs ht9 hvm9 hw9 hB9 hz9 hk9 hS => ?_)
          obtain ⟨hw8, hw9⟩ := Prod.mk.inj hw9
          rw [hw8]
          rw [hw9] at hB9
          obtain ⟨hP, hD⟩ := hB9
          rw [ht9] at hP
          have hP : va_P D classes ([(h0, .inr (1, [.long ra_29, .long rb_30, .long rc_31, .long rx_32, .long ry_33, .long rz_34, .int rs_35]))] ++ wt) H := hP
          have hD : va_D A ([(h0, .inr (1, [.long ra_29, .long rb_30, .long rc_31, .long rx_32, .long ry_33, .long rz_34, .int rs_35]))] ++ wt) := hD
          refine lv_if_ne (tgt := 60) hx hb d_R_run_35 (by decide) (fun c_37 => ?_) (fun c_37 => ?_)
          · rw [if_neg c_37] at h
            refine lv_aload_n hx hb d_R_run_60 rfl (lv_at hl 1 rfl) ?_
            refine lv_dup hx hb d_R_run_61 rfl ?_
            refine va_get (D := D) (ci := 1) (v := .int rs_35) (C := R_Reducer) (T := F_Reducer) (N := 7) hx hb htg i_Reducer hown hK hP 0 rfl rfl 6 (by decide) (htg _ tm_62) (fun _ h9 => h9) rfl d_R_run_62 ?_
            refine lv_iconst (v := (1 : Int32)) hx hb d_R_run_65 (by decide) ?_
            refine lv_iadd hx hb d_R_run_66 ?_
            refine va_put (D := D) (ci := 1) (v := .int (rs_35 + (1 : Int32))) (ty := .int) (C := R_Reducer) (T := F_Reducer) (N := 7) hx hb htg i_Reducer t_Reducer t_Reducer_ok n_Reducer hown hK hP hD hS 0 rfl rfl 6 (by decide) (htg _ tm_62) (fun _ h9 => h9) rfl (by decide +kernel) rfl rfl (Nat.le_of_ble_eq_true rfl) d_R_run_67 (fun H locs hP hD hS => ?_)
            have hP : va_P D classes ([(h0, .inr (1, [.long ra_29, .long rb_30, .long rc_31, .long rx_32, .long ry_33, .long rz_34, .int (rs_35 + (1 : Int32))]))] ++ wt) H := hP
            have hD : va_D A ([(h0, .inr (1, [.long ra_29, .long rb_30, .long rc_31, .long rx_32, .long ry_33, .long rz_34, .int (rs_35 + (1 : Int32))]))] ++ wt) := hD
            refine lv_iinc (v := tu + (1 : Int32)) (lv' := [(1, .int (tu + (1 : Int32))), (0, .ref h0)]) hx hb d_R_run_70 hl (k := 0) rfl rfl (by decide) rfl (fun ls hl => ?_)
            refine lv_goto (tgt := 7) hx hb d_R_run_73 (by decide) ?_
            exact ih (tu + (1 : Int32)) ra_29 rb_30 rc_31 rx_32 ry_33 rz_34 (rs_35 + (1 : Int32)) h H locs hP hD hS ls (lv_sub hl [0, 1] rfl)
          · rw [if_pos c_37] at h
            refine lv_aload_n hx hb d_R_run_38 rfl (lv_at hl 1 rfl) ?_
            obtain ⟨⟨r_38, ra_39, rb_40, rc_41, rx_42, ry_43, rz_44, rs_45⟩, e_46⟩ : ∃ v, f_R_shY ra_29 rb_30 rc_31 rx_32 ry_33 rz_34 rs_35 = v := ⟨_, rfl⟩
            rw [e_46, bnd_eq] at h
            try dsimp only at h
            refine va_calli (va_runV (As := []) (rest := []) ⟨hx, hb, hml, hown, htg⟩ (c_R_shY l D ct A ([] ++ wt)  h0 ra_29 rb_30 rc_31 rx_32 ry_33 rz_34 rs_35   _ e_46) (cwV 0 htg (giV tm_206 tm_208 tm_4 tm_32 g_R_shY) rfl rfl rfl (by decide +kernel) ⟨Nat.le_of_ble_eq_true rfl, Nat.le_of_ble_eq_true rfl⟩) (preVM hA hS hP hD hKK (va_recv hK hP (ci := 1) (q0 := 0) rfl rfl)) rfl rfl hl.1 rfl (lv_room (Nat.le_of_ble_eq_true rfl)) d_R_run_39 ⟨Nat.le_of_ble_eq_true rfl, Nat.le_of_ble_eq_true rfl⟩) hS (fun q _ h9 => h9) (fun q h9 => h9) (fun r9 u9 t9 H locs ht9 hvm9 hw9 hB9 hz9 hk9 hS => ?_)
            obtain ⟨hw8, hw9⟩ := Prod.mk.inj hw9
            rw [hw8]
            rw [hw9] at hB9
            obtain ⟨hP, hD⟩ := hB9
            rw [ht9] at hP
            have hP : va_P D classes ([(h0, .inr (1, [.long ra_39, .long rb_40, .long rc_41, .long rx_42, .long ry_43, .long rz_44, .int rs_45]))] ++ wt) H := hP
            have hD : va_D A ([(h0, .inr (1, [.long ra_39, .long rb_40, .long rc_41, .long rx_42, .long ry_43, .long rz_44, .int rs_45]))] ++ wt) := hD
            refine lv_if_ne (tgt := 60) hx hb d_R_run_42 (by decide) (fun c_47 => ?_) (fun c_47 => ?_)
            · rw [if_neg c_47] at h
              refine lv_aload_n hx hb d_R_run_60 rfl (lv_at hl 1 rfl) ?_
              refine lv_dup hx hb d_R_run_61 rfl ?_
              refine va_get (D := D) (ci := 1) (v := .int rs_45) (C := R_Reducer) (T := F_Reducer) (N := 7) hx hb htg i_Reducer hown hK hP 0 rfl rfl 6 (by decide) (htg _ tm_62) (fun _ h9 => h9) rfl d_R_run_62 ?_
              refine lv_iconst (v := (1 : Int32)) hx hb d_R_run_65 (by decide) ?_
              refine lv_iadd hx hb d_R_run_66 ?_
              refine va_put (D := D) (ci := 1) (v := .int (rs_45 + (1 : Int32))) (ty := .int) (C := R_Reducer) (T := F_Reducer) (N := 7) hx hb htg i_Reducer t_Reducer t_Reducer_ok n_Reducer hown hK hP hD hS 0 rfl rfl 6 (by decide) (htg _ tm_62) (fun _ h9 => h9) rfl (by decide +kernel) rfl rfl (Nat.le_of_ble_eq_true rfl) d_R_run_67 (fun H locs hP hD hS => ?_)
              have hP : va_P D classes ([(h0, .inr (1, [.long ra_39, .long rb_40, .long rc_41, .long rx_42, .long ry_43, .long rz_44, .int (rs_45 + (1 : Int32))]))] ++ wt) H := hP
              have hD : va_D A ([(h0, .inr (1, [.long ra_39, .long rb_40, .long rc_41, .long rx_42, .long ry_43, .long rz_44, .int (rs_45 + (1 : Int32))]))] ++ wt) := hD
              refine lv_iinc (v := tu + (1 : Int32)) (lv' := [(1, .int (tu + (1 : Int32))), (0, .ref h0)]) hx hb d_R_run_70 hl (k := 0) rfl rfl (by decide) rfl (fun ls hl => ?_)
              refine lv_goto (tgt := 7) hx hb d_R_run_73 (by decide) ?_
              exact ih (tu + (1 : Int32)) ra_39 rb_40 rc_41 rx_42 ry_43 rz_44 (rs_45 + (1 : Int32)) h H locs hP hD hS ls (lv_sub hl [0, 1] rfl)
            · rw [if_pos c_47] at h
              refine lv_aload_n hx hb d_R_run_45 rfl (lv_at hl 1 rfl) ?_
              obtain ⟨⟨r_48, ra_49, rb_50, rc_51, rx_52, ry_53, rz_54, rs_55⟩, e_56⟩ : ∃ v, f_R_shZ ra_39 rb_40 rc_41 rx_42 ry_43 rz_44 rs_45 = v := ⟨_, rfl⟩
              rw [e_56, bnd_eq] at h
              try dsimp only at h
              refine va_calli (va_runV (As := []) (rest := []) ⟨hx, hb, hml, hown, htg⟩ (c_R_shZ l D ct A ([] ++ wt)  h0 ra_39 rb_40 rc_41 rx_42 ry_43 rz_44 rs_45   _ e_56) (cwV 0 htg (giV tm_210 tm_212 tm_5 tm_32 g_R_shZ) rfl rfl rfl (by decide +kernel) ⟨Nat.le_of_ble_eq_true rfl, Nat.le_of_ble_eq_true rfl⟩) (preVM hA hS hP hD hKK (va_recv hK hP (ci := 1) (q0 := 0) rfl rfl)) rfl rfl hl.1 rfl (lv_room (Nat.le_of_ble_eq_true rfl)) d_R_run_46 ⟨Nat.le_of_ble_eq_true rfl, Nat.le_of_ble_eq_true rfl⟩) hS (fun q _ h9 => h9) (fun q h9 => h9) (fun r9 u9 t9 H locs ht9 hvm9 hw9 hB9 hz9 hk9 hS => ?_)
              obtain ⟨hw8, hw9⟩ := Prod.mk.inj hw9
              rw [hw8]
              rw [hw9] at hB9
              obtain ⟨hP, hD⟩ := hB9
              rw [ht9] at hP
              have hP : va_P D classes ([(h0, .inr (1, [.long ra_49, .long rb_50, .long rc_51, .long rx_52, .long ry_53, .long rz_54, .int rs_55]))] ++ wt) H := hP
              have hD : va_D A ([(h0, .inr (1, [.long ra_49, .long rb_50, .long rc_51, .long rx_52, .long ry_53, .long rz_54, .int rs_55]))] ++ wt) := hD
              refine lv_if_ne (tgt := 60) hx hb d_R_run_49 (by decide) (fun c_57 => ?_) (fun c_57 => ?_)
              · rw [if_neg c_57] at h
                refine lv_aload_n hx hb d_R_run_60 rfl (lv_at hl 1 rfl) ?_
                refine lv_dup hx hb d_R_run_61 rfl ?_
                refine va_get (D := D) (ci := 1) (v := .int rs_55) (C := R_Reducer) (T := F_Reducer) (N := 7) hx hb htg i_Reducer hown hK hP 0 rfl rfl 6 (by decide) (htg _ tm_62) (fun _ h9 => h9) rfl d_R_run_62 ?_
                refine lv_iconst (v := (1 : Int32)) hx hb d_R_run_65 (by decide) ?_
                refine lv_iadd hx hb d_R_run_66 ?_
                refine va_put (D := D) (ci := 1) (v := .int (rs_55 + (1 : Int32))) (ty := .int) (C := R_Reducer) (T := F_Reducer) (N := 7) hx hb htg i_Reducer t_Reducer t_Reducer_ok n_Reducer hown hK hP hD hS 0 rfl rfl 6 (by decide) (htg _ tm_62) (fun _ h9 => h9) rfl (by decide +kernel) rfl rfl (Nat.le_of_ble_eq_true rfl) d_R_run_67 (fun H locs hP hD hS => ?_)
                have hP : va_P D classes ([(h0, .inr (1, [.long ra_49, .long rb_50, .long rc_51, .long rx_52, .long ry_53, .long rz_54, .int (rs_55 + (1 : Int32))]))] ++ wt) H := hP
                have hD : va_D A ([(h0, .inr (1, [.long ra_49, .long rb_50, .long rc_51, .long rx_52, .long ry_53, .long rz_54, .int (rs_55 + (1 : Int32))]))] ++ wt) := hD
                refine lv_iinc (v := tu + (1 : Int32)) (lv' := [(1, .int (tu + (1 : Int32))), (0, .ref h0)]) hx hb d_R_run_70 hl (k := 0) rfl rfl (by decide) rfl (fun ls hl => ?_)
                refine lv_goto (tgt := 7) hx hb d_R_run_73 (by decide) ?_
                exact ih (tu + (1 : Int32)) ra_49 rb_50 rc_51 rx_52 ry_53 rz_54 (rs_55 + (1 : Int32)) h H locs hP hD hS ls (lv_sub hl [0, 1] rfl)
              · rw [if_pos c_57] at h
                refine lv_aload_n hx hb d_R_run_52 rfl (lv_at hl 1 rfl) ?_
                obtain ⟨⟨r_58, ra_59, rb_60, rc_61, rx_62, ry_63, rz_64, rs_65⟩, e_66⟩ : ∃ v, f_R_shS ra_49 rb_50 rc_51 rx_52 ry_53 rz_54 rs_55 = v := ⟨_, rfl⟩
                rw [e_66, bnd_eq] at h
                try dsimp only at h
                refine va_calli (va_runV (As := []) (rest := []) ⟨hx, hb, hml, hown, htg⟩ (c_R_shS l D ct A ([] ++ wt)  h0 ra_49 rb_50 rc_51 rx_52 ry_53 rz_54 rs_55   _ e_66) (cwV 0 htg (giV tm_214 tm_216 tm_6 tm_32 g_R_shS) rfl rfl rfl (by decide +kernel) ⟨Nat.le_of_ble_eq_true rfl, Nat.le_of_ble_eq_true rfl⟩) (preVM hA hS hP hD hKK (va_recv hK hP (ci := 1) (q0 := 0) rfl rfl)) rfl rfl hl.1 rfl (lv_room (Nat.le_of_ble_eq_true rfl)) d_R_run_53 ⟨Nat.le_of_ble_eq_true rfl, Nat.le_of_ble_eq_true rfl⟩) hS (fun q _ h9 => h9) (fun q h9 => h9) (fun r9 u9 t9 H locs ht9 hvm9 hw9 hB9 hz9 hk9 hS => ?_)
                obtain ⟨hw8, hw9⟩ := Prod.mk.inj hw9
                rw [hw8]
                rw [hw9] at hB9
                obtain ⟨hP, hD⟩ := hB9
                rw [ht9] at hP
                have hP : va_P D classes ([(h0, .inr (1, [.long ra_59, .long rb_60, .long rc_61, .long rx_62, .long ry_63, .long rz_64, .int rs_65]))] ++ wt) H := hP
                have hD : va_D A ([(h0, .inr (1, [.long ra_59, .long rb_60, .long rc_61, .long rx_62, .long ry_63, .long rz_64, .int rs_65]))] ++ wt) := hD
                refine lv_if_ne (tgt := 60) hx hb d_R_run_56 (by decide) (fun c_67 => ?_) (fun c_67 => ?_)
                · rw [if_neg c_67] at h
                  refine lv_aload_n hx hb d_R_run_60 rfl (lv_at hl 1 rfl) ?_
                  refine lv_dup hx hb d_R_run_61 rfl ?_
                  refine va_get (D := D) (ci := 1) (v := .int rs_65) (C := R_Reducer) (T := F_Reducer) (N := 7) hx hb htg i_Reducer hown hK hP 0 rfl rfl 6 (by decide) (htg _ tm_62) (fun _ h9 => h9) rfl d_R_run_62 ?_
                  refine lv_iconst (v := (1 : Int32)) hx hb d_R_run_65 (by decide) ?_
                  refine lv_iadd hx hb d_R_run_66 ?_
                  refine va_put (D := D) (ci := 1) (v := .int (rs_65 + (1 : Int32))) (ty := .int) (C := R_Reducer) (T := F_Reducer) (N := 7) hx hb htg i_Reducer t_Reducer t_Reducer_ok n_Reducer hown hK hP hD hS 0 rfl rfl 6 (by decide) (htg _ tm_62) (fun _ h9 => h9) rfl (by decide +kernel) rfl rfl (Nat.le_of_ble_eq_true rfl) d_R_run_67 (fun H locs hP hD hS => ?_)
                  have hP : va_P D classes ([(h0, .inr (1, [.long ra_59, .long rb_60, .long rc_61, .long rx_62, .long ry_63, .long rz_64, .int (rs_65 + (1 : Int32))]))] ++ wt) H := hP
                  have hD : va_D A ([(h0, .inr (1, [.long ra_59, .long rb_60, .long rc_61, .long rx_62, .long ry_63, .long rz_64, .int (rs_65 + (1 : Int32))]))] ++ wt) := hD
                  refine lv_iinc (v := tu + (1 : Int32)) (lv' := [(1, .int (tu + (1 : Int32))), (0, .ref h0)]) hx hb d_R_run_70 hl (k := 0) rfl rfl (by decide) rfl (fun ls hl => ?_)
                  refine lv_goto (tgt := 7) hx hb d_R_run_73 (by decide) ?_
                  exact ih (tu + (1 : Int32)) ra_59 rb_60 rc_61 rx_62 ry_63 rz_64 (rs_65 + (1 : Int32)) h H locs hP hD hS ls (lv_sub hl [0, 1] rfl)
                · rw [if_pos c_67] at h
                  exact W.vret hx hb hr (fun t ht hW => ⟨⟨(ra_59, rb_60, rc_61, rx_62, ry_63, rz_64, rs_65), rfl, (Option.some.inj h), by rw [ht]; exact hP, hD⟩, hS.F ht⟩) hS.2.2 d_R_run_59
        · rw [if_neg c_19] at h
          refine lv_goto (tgt := 70) hx hb d_R_run_24 (by decide) ?_
          refine lv_iinc (v := tu + (1 : Int32)) (lv' := [(1, .int (tu + (1 : Int32))), (0, .ref h0)]) hx hb d_R_run_70 hl (k := 0) rfl rfl (by decide) rfl (fun ls hl => ?_)
          refine lv_goto (tgt := 7) hx hb d_R_run_73 (by decide) ?_
          exact ih (tu + (1 : Int32)) ra_11 rb_12 rc_13 rx_14 ry_15 rz_16 rs_17 h H locs hP hD hS ls (lv_sub hl [0, 1] rfl)
  exact L_7 1000001 (0 : Int32) ra rb rc rx ry rz (0 : Int32) h _ _ hP hD hS ls (lv_sub hl [0, 1] rfl)
-- CellBench$Reducer reduce (LCellBench$Products;)V
def f_R_reduce (ra : Int64) (rb : Int64) (rc : Int64) (rx : Int64) (ry : Int64) (rz : Int64) (rs : Int32) (fa : Int64) (fb : Int64) (fc : Int64) (fd : Int64) (fe : Int64) (ff : Int64) : Option (Int64 × Int64 × Int64 × Int64 × Int64 × Int64 × Int32) :=
    bnd (f_R_setSq ra rb rc rx ry rz rs fa fb fc) (fun z_27 => (bnd (f_R_setMx z_27.1 z_27.2.1 z_27.2.2.1 z_27.2.2.2.1 z_27.2.2.2.2.1 z_27.2.2.2.2.2.1 z_27.2.2.2.2.2.2 fd fe ff) (fun z_26 => (Option.bind (f_R_run z_26.1 z_26.2.1 z_26.2.2.1 z_26.2.2.2.1 z_26.2.2.2.2.1 z_26.2.2.2.2.2.1 z_26.2.2.2.2.2.2) (fun z_25 => (some (z_25.1, z_25.2.1, z_25.2.2.1, z_25.2.2.2.1, z_25.2.2.2.2.1, z_25.2.2.2.2.2.1, z_25.2.2.2.2.2.2)))))))
def w_R_reduce : List Cond := .code y_R_reduce b_R_reduce 2 none :: GW
abbrev rm_R_reduce : Room := { frames := 3, cells := 0, slots := 0, locals := 66 }
theorem g_R_reduce : GoodIn GW w_R_reduce := gi tm_169
set_option maxHeartbeats 4000000 in
set_option maxRecDepth 100000 in
theorem c_R_reduce (l : Launch) (D : va_G) (ct : CT) (A : Nat → Prop) (wt : va_W) (k1 : Nat) (h0 : Nat) (ra : Int64) (rb : Int64) (rc : Int64) (rx : Int64) (ry : Int64) (rz : Int64) (rs : Int32) (h1 : Nat) (fa : Int64) (fb : Int64) (fc : Int64) (fd : Int64) (fe : Int64) (ff : Int64) (hk1 : wt[k1]? = some (h1, .inr (0, [.long fa, .long fb, .long fc, .long fd, .long fe, .long ff])))  (r0 : Int64 × Int64 × Int64 × Int64 × Int64 × Int64 × Int32) (h : f_R_reduce ra rb rc rx ry rz rs fa fb fc fd fe ff = some r0) : Met l y_R_reduce w_R_reduce rm_R_reduce (va_Pc [.ref h0, .ref h1] (PreM D ct A ([(h0, .inr (1, [.long ra, .long rb, .long rc, .long rx, .long ry, .long rz, .int rs]))] ++ wt))) (va_Qv (fun u => u = r0) (fun (u : Int64 × Int64 × Int64 × Int64 × Int64 × Int64 × Int32) t => match u with | (ra', rb', rc', rx', ry', rz', rs') => va_P D classes ([(h0, .inr (1, [.long ra', .long rb', .long rc', .long rx', .long ry', .long rz', .int rs']))] ++ wt) t.heap ∧ va_D A ([(h0, .inr (1, [.long ra', .long rb', .long rc', .long rx', .long ry', .long rz', .int rs']))] ++ wt)) A) 0 0 A := by
  refine Met.ofW (cc := b_R_reduce) (maxL := 2) (ret := none) (by decide) rfl ?_
  intro p e s m args below meth c s₁ B hml hv
  obtain ⟨rfl, hA, hP, hD, hKK⟩ := hv
  have hx := B.exec
  have hb := B.bytes
  have hr := B.returns
  have htg := ht_tl (atoms_spec (ws := w_R_reduce) B.pre)
  have hown : s.vm.findClass R_Reducer = some m.cls := findClass_of_methodNamed B.named
  have hlocks := B.notSynchronized
  have hK := hKK.1
  have hN := hKK.2.1
  have hO := hKK.2.2
  have hS : va_S A s.heap s.heap [] := va_S.rf
  have hl := lv_entry ([.ref h0, .ref h1]) (n := 2) (Nat.le_of_ble_eq_true rfl)
  rw [lg_entry_eq]
  generalize (lg_sl ([.ref h0, .ref h1]) ++ List.replicate (2 - (lg_sl ([.ref h0, .ref h1])).length) Slot.unset).toArray = ls at hl ⊢
  have hl : lv_has ls 2 [(0, .ref h0), (1, .ref h1)] := hl
  unfold f_R_reduce at h
  refine lv_aload_n hx hb d_R_reduce_0 rfl (lv_at hl 0 rfl) ?_
  refine lv_aload_n hx hb d_R_reduce_1 rfl (lv_at hl 1 rfl) ?_
  refine va_getN (D := D) (ci := 0) (v := .long fa) (C := R_Products) (T := F_Products) (N := 6) hx hb htg i_Products hown hK hP (k1 + 1) hk1 rfl 0 (by decide) (va_Nw.use rfl (hN.of nm_0)) (fun _ h9 => h9) rfl d_R_reduce_2 ?_
  refine lv_aload_n hx hb d_R_reduce_5 rfl (lv_at hl 1 rfl) ?_
  refine va_getN (D := D) (ci := 0) (v := .long fb) (C := R_Products) (T := F_Products) (N := 6) hx hb htg i_Products hown hK hP (k1 + 1) hk1 rfl 1 (by decide) (va_Nw.use rfl (hN.of nm_1)) (fun _ h9 => h9) rfl d_R_reduce_6 ?_
  refine lv_aload_n hx hb d_R_reduce_9 rfl (lv_at hl 1 rfl) ?_
  refine va_getN (D := D) (ci := 0) (v := .long fc) (C := R_Products) (T := F_Products) (N := 6) hx hb htg i_Products hown hK hP (k1 + 1) hk1 rfl 2 (by decide) (va_Nw.use rfl (hN.of nm_2)) (fun _ h9 => h9) rfl d_R_reduce_10 ?_
  obtain ⟨⟨ra_1, rb_2, rc_3, rx_4, ry_5, rz_6, rs_7⟩, e_8⟩ : ∃ v, f_R_setSq ra rb rc rx ry rz rs fa fb fc = v := ⟨_, rfl⟩
  rw [e_8, bnd_eq] at h
  try dsimp only at h
  refine va_callv (va_runV (As := [.long fa, .long fb, .long fc]) (rest := []) ⟨hx, hb, hml, hown, htg⟩ (c_R_setSq l D ct A ([] ++ wt)  h0 ra rb rc rx ry rz rs fa fb fc   _ e_8) (cwV 3 htg (giV tm_170 tm_171 tm_172 tm_32 g_R_setSq) rfl rfl rfl (by decide +kernel) ⟨Nat.le_of_ble_eq_true rfl, Nat.le_of_ble_eq_true rfl⟩) (preVM hA hS hP hD hKK (va_recv hK hP (ci := 1) (q0 := 0) rfl rfl)) rfl rfl hl.1 rfl (lv_room (Nat.le_of_ble_eq_true rfl)) d_R_reduce_13 ⟨Nat.le_of_ble_eq_true rfl, Nat.le_of_ble_eq_true rfl⟩) hS (fun q _ h9 => h9) (fun q h9 => h9) (fun u9 t9 H locs ht9 hvm9 hw9 hB9 hz9 hk9 hS => ?_)
  rw [hw9] at hB9
  obtain ⟨hP, hD⟩ := hB9
  rw [ht9] at hP
  have hP : va_P D classes ([(h0, .inr (1, [.long ra_1, .long rb_2, .long rc_3, .long rx_4, .long ry_5, .long rz_6, .int rs_7]))] ++ wt) H := hP
  have hD : va_D A ([(h0, .inr (1, [.long ra_1, .long rb_2, .long rc_3, .long rx_4, .long ry_5, .long rz_6, .int rs_7]))] ++ wt) := hD
  refine lv_aload_n hx hb d_R_reduce_16 rfl (lv_at hl 0 rfl) ?_
  refine lv_aload_n hx hb d_R_reduce_17 rfl (lv_at hl 1 rfl) ?_
  refine va_getN (D := D) (ci := 0) (v := .long fd) (C := R_Products) (T := F_Products) (N := 6) hx hb htg i_Products hown hK hP (k1 + 1) hk1 rfl 3 (by decide) (va_Nw.use rfl (hN.of nm_3)) (fun _ h9 => h9) rfl d_R_reduce_18 ?_
  refine lv_aload_n hx hb d_R_reduce_21 rfl (lv_at hl 1 rfl) ?_
  refine va_getN (D := D) (ci := 0) (v := .long fe) (C := R_Products) (T := F_Products) (N := 6) hx hb htg i_Products hown hK hP (k1 + 1) hk1 rfl 4 (by decide) (va_Nw.use rfl (hN.of nm_4)) (fun _ h9 => h9) rfl d_R_reduce_22 ?_
  refine lv_aload_n hx hb d_R_reduce_25 rfl (lv_at hl 1 rfl) ?_
  refine va_getN (D := D) (ci := 0) (v := .long ff) (C := R_Products) (T := F_Products) (N := 6) hx hb htg i_Products hown hK hP (k1 + 1) hk1 rfl 5 (by decide) (va_Nw.use rfl (hN.of nm_5)) (fun _ h9 => h9) rfl d_R_reduce_26 ?_
  obtain ⟨⟨ra_9, rb_10, rc_11, rx_12, ry_13, rz_14, rs_15⟩, e_16⟩ : ∃ v, f_R_setMx ra_1 rb_2 rc_3 rx_4 ry_5 rz_6 rs_7 fd fe ff = v := ⟨_, rfl⟩
  rw [e_16, bnd_eq] at h
  try dsimp only at h
  refine va_callv (va_runV (As := [.long fd, .long fe, .long ff]) (rest := []) ⟨hx, hb, hml, hown, htg⟩ (c_R_setMx l D ct A ([] ++ wt)  h0 ra_1 rb_2 rc_3 rx_4 ry_5 rz_6 rs_7 fd fe ff   _ e_16) (cwV 3 htg (giV tm_174 tm_175 tm_176 tm_32 g_R_setMx) rfl rfl rfl (by decide +kernel) ⟨Nat.le_of_ble_eq_true rfl, Nat.le_of_ble_eq_true rfl⟩) (preVM hA hS hP hD hKK (va_recv hK hP (ci := 1) (q0 := 0) rfl rfl)) rfl rfl hl.1 rfl (lv_room (Nat.le_of_ble_eq_true rfl)) d_R_reduce_29 ⟨Nat.le_of_ble_eq_true rfl, Nat.le_of_ble_eq_true rfl⟩) hS (fun q _ h9 => h9) (fun q h9 => h9) (fun u9 t9 H locs ht9 hvm9 hw9 hB9 hz9 hk9 hS => ?_)
  rw [hw9] at hB9
  obtain ⟨hP, hD⟩ := hB9
  rw [ht9] at hP
  have hP : va_P D classes ([(h0, .inr (1, [.long ra_9, .long rb_10, .long rc_11, .long rx_12, .long ry_13, .long rz_14, .int rs_15]))] ++ wt) H := hP
  have hD : va_D A ([(h0, .inr (1, [.long ra_9, .long rb_10, .long rc_11, .long rx_12, .long ry_13, .long rz_14, .int rs_15]))] ++ wt) := hD
  refine lv_aload_n hx hb d_R_reduce_32 rfl (lv_at hl 0 rfl) ?_
  rcases e_24 : f_R_run ra_9 rb_10 rc_11 rx_12 ry_13 rz_14 rs_15 with _ | ⟨ra_17, rb_18, rc_19, rx_20, ry_21, rz_22, rs_23⟩
  · rw [e_24] at h; cases h
  rw [e_24, Option.bind_some] at h
  try dsimp only at h
  refine va_callv (va_runV (As := []) (rest := []) ⟨hx, hb, hml, hown, htg⟩ (c_R_run l D ct A ([] ++ wt)  h0 ra_9 rb_10 rc_11 rx_12 ry_13 rz_14 rs_15   _ e_24) (cwV 0 htg (giV tm_179 tm_180 tm_181 tm_32 g_R_run) rfl rfl rfl (by decide +kernel) ⟨Nat.le_of_ble_eq_true rfl, Nat.le_of_ble_eq_true rfl⟩) (preVM hA hS hP hD hKK (va_recv hK hP (ci := 1) (q0 := 0) rfl rfl)) rfl rfl hl.1 rfl (lv_room (Nat.le_of_ble_eq_true rfl)) d_R_reduce_33 ⟨Nat.le_of_ble_eq_true rfl, Nat.le_of_ble_eq_true rfl⟩) hS (fun q _ h9 => h9) (fun q h9 => h9) (fun u9 t9 H locs ht9 hvm9 hw9 hB9 hz9 hk9 hS => ?_)
  rw [hw9] at hB9
  obtain ⟨hP, hD⟩ := hB9
  rw [ht9] at hP
  have hP : va_P D classes ([(h0, .inr (1, [.long ra_17, .long rb_18, .long rc_19, .long rx_20, .long ry_21, .long rz_22, .int rs_23]))] ++ wt) H := hP
  have hD : va_D A ([(h0, .inr (1, [.long ra_17, .long rb_18, .long rc_19, .long rx_20, .long ry_21, .long rz_22, .int rs_23]))] ++ wt) := hD
  exact W.vret hx hb hr (fun t ht hW => ⟨⟨(ra_17, rb_18, rc_19, rx_20, ry_21, rz_22, rs_23), rfl, (Option.some.inj h), by rw [ht]; exact hP, hD⟩, hS.F ht⟩) hS.2.2 d_R_reduce_36
-- CellBench$Reducer result ()LCellBench$Products;
def f_R_result (ra : Int64) (rb : Int64) (rc : Int64) (rx : Int64) (ry : Int64) (rz : Int64) (rs : Int32) : Int64 × Int64 × Int64 × Int64 × Int64 × Int64 :=
    bnd (f_P_init ra rb rc (rx / (2 : Int64)) (ry / (2 : Int64)) (rz / (2 : Int64))) (fun z_9 => (z_9.1, z_9.2.1, z_9.2.2.1, z_9.2.2.2.1, z_9.2.2.2.2.1, z_9.2.2.2.2.2))
def w_R_result : List Cond := .code y_R_result b_R_result 1 (some (.object "CellBench$Products")) :: GW
abbrev rm_R_result : Room := { frames := 2, cells := 1, slots := 6, locals := 44 }
theorem g_R_result : GoodIn GW w_R_result := gi tm_221
set_option maxHeartbeats 4000000 in
set_option maxRecDepth 100000 in
theorem c_R_result (l : Launch) (D : va_G) (ct : CT) (A : Nat → Prop) (wt : va_W)  (h0 : Nat) (ra : Int64) (rb : Int64) (rc : Int64) (rx : Int64) (ry : Int64) (rz : Int64) (rs : Int32)   (r0 : Int64 × Int64 × Int64 × Int64 × Int64 × Int64) (h : f_R_result ra rb rc rx ry rz rs = r0) : Met l y_R_result w_R_result rm_R_result (va_Pc [.ref h0] (PreM D ct A ([(h0, .inr (1, [.long ra, .long rb, .long rc, .long rx, .long ry, .long rz, .int rs]))] ++ wt))) (va_Qr (fun u => u = r0) (fun (u : Int64 × Int64 × Int64 × Int64 × Int64 × Int64) qa t => match u with | (fa', fb', fc', fd', fe', ff') => va_P D classes ([(h0, .inr (1, [.long ra, .long rb, .long rc, .long rx, .long ry, .long rz, .int rs])), (qa, .inr (0, [.long fa', .long fb', .long fc', .long fd', .long fe', .long ff']))] ++ wt) t.heap ∧ va_D A ([(h0, .inr (1, [.long ra, .long rb, .long rc, .long rx, .long ry, .long rz, .int rs])), (qa, .inr (0, [.long fa', .long fb', .long fc', .long fd', .long fe', .long ff']))] ++ wt)) A) 1 6 A := by
  refine Met.ofW (cc := b_R_result) (maxL := 1) (ret := (some (.object "CellBench$Products"))) (by decide) rfl ?_
  intro p e s m args below meth c s₁ B hml hv
  obtain ⟨rfl, hA, hP, hD, hKK⟩ := hv
  have hx := B.exec
  have hb := B.bytes
  have hr := B.returns
  have htg := ht_tl (atoms_spec (ws := w_R_result) B.pre)
  have hown : s.vm.findClass R_Reducer = some m.cls := findClass_of_methodNamed B.named
  have hlocks := B.notSynchronized
  have hK := hKK.1
  have hN := hKK.2.1
  have hO := hKK.2.2
  have hS : va_S A s.heap s.heap [] := va_S.rf
  have hl := lv_entry ([.ref h0]) (n := 1) (Nat.le_of_ble_eq_true rfl)
  rw [lg_entry_eq]
  generalize (lg_sl ([.ref h0]) ++ List.replicate (1 - (lg_sl ([.ref h0])).length) Slot.unset).toArray = ls at hl ⊢
  have hl : lv_has ls 1 [(0, .ref h0)] := hl
  unfold f_R_result at h
  refine va_new (ci := 0) (fs := [.long (0 : Int64), .long (0 : Int64), .long (0 : Int64), .long (0 : Int64), .long (0 : Int64), .long (0 : Int64)]) (C := R_Products) (T := F_Products) (N := 6) hx hb htg i_Products t_Products t_Products_ok hown (htg _ tm_222) (htg _ tm_128) (htg _ tm_35) hK hP hD hS hA rfl (fun j hj => by rcases (show j = 0 ∨ j = 1 ∨ j = 2 ∨ j = 3 ∨ j = 4 ∨ j = 5 by omega) with rfl | rfl | rfl | rfl | rfl | rfl <;> rfl) (Nat.le_of_ble_eq_true rfl) (Nat.le_of_ble_eq_true rfl) d_R_result_0 (fun q_1 H hP hD hS => ?_)
  have hP := hP.swap
  have hD := hD.swap
  have hP : va_P D classes ([(h0, .inr (1, [.long ra, .long rb, .long rc, .long rx, .long ry, .long rz, .int rs])), (q_1, .inr (0, [.long (0 : Int64), .long (0 : Int64), .long (0 : Int64), .long (0 : Int64), .long (0 : Int64), .long (0 : Int64)]))] ++ wt) H := hP
  have hD : va_D A ([(h0, .inr (1, [.long ra, .long rb, .long rc, .long rx, .long ry, .long rz, .int rs])), (q_1, .inr (0, [.long (0 : Int64), .long (0 : Int64), .long (0 : Int64), .long (0 : Int64), .long (0 : Int64), .long (0 : Int64)]))] ++ wt) := hD
  refine W.widen (k := 1) (n := 6) (Nat.le_refl _) (Nat.le_refl _) ?_
  refine lv_dup hx hb d_R_result_3 rfl ?_
  refine lv_aload_n hx hb d_R_result_4 rfl (lv_at hl 0 rfl) ?_
  refine va_get (D := D) (ci := 1) (v := .long ra) (C := R_Reducer) (T := F_Reducer) (N := 7) hx hb htg i_Reducer hown hK hP 0 rfl rfl 0 (by decide) (htg _ tm_56) (fun _ h9 => h9) rfl d_R_result_5 ?_
  refine lv_aload_n hx hb d_R_result_8 rfl (lv_at hl 0 rfl) ?_
  refine va_get (D := D) (ci := 1) (v := .long rb) (C := R_Reducer) (T := F_Reducer) (N := 7) hx hb htg i_Reducer hown hK hP 0 rfl rfl 1 (by decide) (htg _ tm_57) (fun _ h9 => h9) rfl d_R_result_9 ?_
  refine lv_aload_n hx hb d_R_result_12 rfl (lv_at hl 0 rfl) ?_
  refine va_get (D := D) (ci := 1) (v := .long rc) (C := R_Reducer) (T := F_Reducer) (N := 7) hx hb htg i_Reducer hown hK hP 0 rfl rfl 2 (by decide) (htg _ tm_58) (fun _ h9 => h9) rfl d_R_result_13 ?_
  refine lv_aload_n hx hb d_R_result_16 rfl (lv_at hl 0 rfl) ?_
  refine va_get (D := D) (ci := 1) (v := .long rx) (C := R_Reducer) (T := F_Reducer) (N := 7) hx hb htg i_Reducer hown hK hP 0 rfl rfl 3 (by decide) (htg _ tm_59) (fun _ h9 => h9) rfl d_R_result_17 ?_
  refine lv_ldc2 (v := (2 : Int64)) hx hb hown (htg _ tm_178) d_R_result_20 ?_
  refine lv_ldiv hx hb d_R_result_23 (by decide) ?_
  refine lv_aload_n hx hb d_R_result_24 rfl (lv_at hl 0 rfl) ?_
  refine va_get (D := D) (ci := 1) (v := .long ry) (C := R_Reducer) (T := F_Reducer) (N := 7) hx hb htg i_Reducer hown hK hP 0 rfl rfl 4 (by decide) (htg _ tm_60) (fun _ h9 => h9) rfl d_R_result_25 ?_
  refine lv_ldc2 (v := (2 : Int64)) hx hb hown (htg _ tm_178) d_R_result_28 ?_
  refine lv_ldiv hx hb d_R_result_31 (by decide) ?_
  refine lv_aload_n hx hb d_R_result_32 rfl (lv_at hl 0 rfl) ?_
  refine va_get (D := D) (ci := 1) (v := .long rz) (C := R_Reducer) (T := F_Reducer) (N := 7) hx hb htg i_Reducer hown hK hP 0 rfl rfl 5 (by decide) (htg _ tm_61) (fun _ h9 => h9) rfl d_R_result_33 ?_
  refine lv_ldc2 (v := (2 : Int64)) hx hb hown (htg _ tm_178) d_R_result_36 ?_
  refine lv_ldiv hx hb d_R_result_39 (by decide) ?_
  have hP := va_P.part (cx := [(q_1, .inr (0, [.long (0 : Int64), .long (0 : Int64), .long (0 : Int64), .long (0 : Int64), .long (0 : Int64), .long (0 : Int64)])), (h0, .inr (1, [.long ra, .long rb, .long rc, .long rx, .long ry, .long rz, .int rs]))]) hP [1, 0] rfl
  have hD := va_D.part (cx := [(q_1, .inr (0, [.long (0 : Int64), .long (0 : Int64), .long (0 : Int64), .long (0 : Int64), .long (0 : Int64), .long (0 : Int64)])), (h0, .inr (1, [.long ra, .long rb, .long rc, .long rx, .long ry, .long rz, .int rs]))]) hD [1, 0] (by decide) rfl
  obtain ⟨⟨fa_2, fb_3, fc_4, fd_5, fe_6, ff_7⟩, e_8⟩ : ∃ v, f_P_init ra rb rc (rx / (2 : Int64)) (ry / (2 : Int64)) (rz / (2 : Int64)) = v := ⟨_, rfl⟩
  rw [e_8, bnd_eq] at h
  try dsimp only at h
  refine va_callv (va_runI (As := [.long ra, .long rb, .long rc, .long (rx / (2 : Int64)), .long (ry / (2 : Int64)), .long (rz / (2 : Int64))]) (rest := [.ref q_1]) ⟨hx, hb, hml, hown, htg⟩ (c_P_init l D ct A ([(h0, .inr (1, [.long ra, .long rb, .long rc, .long rx, .long ry, .long rz, .int rs]))] ++ wt)  q_1 (0 : Int64) (0 : Int64) (0 : Int64) (0 : Int64) (0 : Int64) (0 : Int64) ra rb rc (rx / (2 : Int64)) (ry / (2 : Int64)) (rz / (2 : Int64))   _ e_8) (cwI 6 htg g_P_init rfl rfl rfl (htg _ tm_35) (htg _ tm_223) (htg _ tm_130) rfl (by decide +kernel) ⟨Nat.le_of_ble_eq_true rfl, Nat.le_of_ble_eq_true rfl⟩) (preSM hA hS hP hD hKK) rfl rfl hl.1 rfl (lv_room (Nat.le_of_ble_eq_true rfl)) d_R_result_40 ⟨Nat.le_of_ble_eq_true rfl, Nat.le_of_ble_eq_true rfl⟩) hS (fun q _ h9 => h9) (fun q h9 => h9) (fun u9 t9 H locs ht9 hvm9 hw9 hB9 hz9 hk9 hS => ?_)
  rw [hw9] at hB9
  obtain ⟨hP, hD⟩ := hB9
  rw [ht9] at hP
  have hP : va_P D classes ([(q_1, .inr (0, [.long fa_2, .long fb_3, .long fc_4, .long fd_5, .long fe_6, .long ff_7])), (h0, .inr (1, [.long ra, .long rb, .long rc, .long rx, .long ry, .long rz, .int rs]))] ++ wt) H := hP
  have hD : va_D A ([(q_1, .inr (0, [.long fa_2, .long fb_3, .long fc_4, .long fd_5, .long fe_6, .long ff_7])), (h0, .inr (1, [.long ra, .long rb, .long rc, .long rx, .long ry, .long rz, .int rs]))] ++ wt) := hD
  have hP := va_P.part (cx := [(h0, .inr (1, [.long ra, .long rb, .long rc, .long rx, .long ry, .long rz, .int rs])), (q_1, .inr (0, [.long fa_2, .long fb_3, .long fc_4, .long fd_5, .long fe_6, .long ff_7]))]) hP [1, 0] rfl
  have hD := va_D.part (cx := [(h0, .inr (1, [.long ra, .long rb, .long rc, .long rx, .long ry, .long rz, .int rs])), (q_1, .inr (0, [.long fa_2, .long fb_3, .long fc_4, .long fd_5, .long fe_6, .long ff_7]))]) hD [1, 0] (by decide) rfl
  exact W.aret (v := .ref q_1) hx hb hr (Or.inl ⟨_, rfl⟩) (Or.inr ⟨_, rfl⟩) (fun t ht hW => ⟨⟨(fa_2, fb_3, fc_4, fd_5, fe_6, ff_7), q_1, rfl, h, by rw [ht]; exact hP, hD⟩, hS.F ht⟩) hS.2.2 d_R_result_43
