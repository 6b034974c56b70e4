-- CellBench$MultipleTable size ()I
def f_T_size (sz : Int32) : Int32 :=
    sz
def w_T_size : List Cond := .code y_T_size b_T_size 1 (some .int) :: GW
abbrev rm_T_size : Room := { frames := 0, cells := 0, slots := 0, locals := 0 }
theorem g_T_size : GoodIn GW w_T_size := gi tm_362
set_option maxHeartbeats 4000000 in
set_option maxRecDepth 100000 in
theorem c_T_size (l : Launch) (D : va_G) (ct : CT) (ws : va_W) (k0 : Nat) (h0 : Nat) (h2 : Nat) (h1 : Nat) (sz : Int32) (fc_ : Int32) (fn_ : Int32) (hk0 : ws[k0]? = some (h0, .inr (2, [.ref h2, .ref h1, .int sz, .int fc_, .int fn_])))  (r0 : Int32) (h : f_T_size sz = r0) : Met l y_T_size w_T_size rm_T_size (va_Pc [.ref h0] (PreP D ct ws)) (vp_Si (fun r => r = r0)) 0 0 (fun _ => False) := by
  refine Met.ofW (cc := b_T_size) (maxL := 1) (ret := (some .int)) (by decide) rfl ?_
  intro p e s m args below meth c s₁ B hml hv
  obtain ⟨rfl, hP, hKK⟩ := hv
  have hx := B.exec
  have hb := B.bytes
  have hr := B.returns
  have htg := ht_tl (atoms_spec (ws := w_T_size) B.pre)
  have hown : s.vm.findClass R_Table = some m.cls := findClass_of_methodNamed B.named
  have hlocks := B.notSynchronized
  have hK := hKK.1
  have hN := hKK.2.1
  have hO := hKK.2.2
  have hl := lv_entry ([.ref h0]) (n := 1) (Nat.le_of_ble_eq_true rfl)
  rw [lg_entry_eq]
  generalize (lg_sl ([.ref h0]) ++ List.replicate (1 - (lg_sl ([.ref h0])).length) Slot.unset).toArray = ls at hl ⊢
  have hl : lv_has ls 1 [(0, .ref h0)] := hl
  unfold f_T_size at h
  refine lv_aload_n hx hb d_T_size_0 rfl (lv_at hl 0 rfl) ?_
  refine va_get (D := D) (ci := 2) (v := .int sz) (C := R_Table) (T := F_Table) (N := 5) hx hb htg i_Table hown hK hP k0 hk0 rfl 2 (by decide) (htg _ tm_86) (fun _ h9 => h9) rfl d_T_size_1 ?_
  exact W.iret (v := sz) hx hb hr (fun t ht hW => ⟨sz, rfl, h, ht⟩) (fun q h => by cases h) d_T_size_4
-- CellBench$MultipleTable at (II)J
def f_T_at (sz : Int32) (ro : Nat → Int64) (rw : Int32) (wh : Int32) : Option (Int64) :=
    if rw < 0 then (some (0 : Int64)) else (if sz ≤ rw then (some (0 : Int64)) else (if (455 : Int32) ≤ rw then (some (0 : Int64)) else (if wh < 0 then (some (0 : Int64)) else (if wh < (7 : Int32) then (if inb ((rw * (7 : Int32)) + wh) 3185 = true then (some (ro ((rw * (7 : Int32)) + wh).toNatClampNeg)) else none) else (some (0 : Int64))))))
def w_T_at : List Cond := .code y_T_at b_T_at 3 (some .long) :: GW
abbrev rm_T_at : Room := { frames := 0, cells := 0, slots := 0, locals := 0 }
theorem g_T_at : GoodIn GW w_T_at := gi tm_346
set_option maxHeartbeats 4000000 in
set_option maxRecDepth 100000 in
theorem c_T_at (l : Launch) (D : va_G) (ct : CT) (ws : va_W) (k0 : Nat) (k1 : Nat) (h0 : Nat) (h2 : Nat) (h1 : Nat) (sz : Int32) (fc_ : Int32) (fn_ : Int32) (ro : Nat → Int64) (rw : Int32) (wh : Int32) (hk0 : ws[k0]? = some (h0, .inr (2, [.ref h2, .ref h1, .int sz, .int fc_, .int fn_]))) (hk1 : ws[k1]? = some (h1, .inl (ct.1, 3185, .inr (.inl ro))))  (r0 : Int64) (h : f_T_at sz ro rw wh = some r0) : Met l y_T_at w_T_at rm_T_at (va_Pc [.ref h0, .int rw, .int wh] (PreP D ct ws)) (vp_Sl (fun r => r = r0)) 0 0 (fun _ => False) := by
  refine Met.ofW (cc := b_T_at) (maxL := 3) (ret := (some .long)) (by decide) rfl ?_
  intro p e s m args below meth c s₁ B hml hv
  obtain ⟨rfl, hP, hKK⟩ := hv
  have hx := B.exec
  have hb := B.bytes
  have hr := B.returns
  have htg := ht_tl (atoms_spec (ws := w_T_at) B.pre)
  have hown : s.vm.findClass R_Table = some m.cls := findClass_of_methodNamed B.named
  have hlocks := B.notSynchronized
  have hK := hKK.1
  have hN := hKK.2.1
  have hO := hKK.2.2
  have hl := lv_entry ([.ref h0, .int rw, .int wh]) (n := 3) (Nat.le_of_ble_eq_true rfl)
  rw [lg_entry_eq]
  generalize (lg_sl ([.ref h0, .int rw, .int wh]) ++ List.replicate (3 - (lg_sl ([.ref h0, .int rw, .int wh])).length) Slot.unset).toArray = ls at hl ⊢
  have hl : lv_has ls 3 [(0, .ref h0), (1, .int rw), (2, .int wh)] := hl
  unfold f_T_at at h
  refine lv_iload_n hx hb d_T_at_0 rfl (lv_at hl 1 rfl) ?_
  refine lv_if_lt (tgt := 29) hx hb d_T_at_1 (by decide) (fun c_1 => ?_) (fun c_1 => ?_)
  · rw [if_pos c_1] at h
    refine lv_lconst (v := (0 : Int64)) hx hb d_T_at_29 (by decide) ?_
    exact W.lret (v := (0 : Int64)) hx hb hr (fun t ht hW => ⟨(0 : Int64), rfl, (Option.some.inj h), ht⟩) (fun q h => by cases h) d_T_at_30
  · rw [if_neg c_1] at h
    refine lv_iload_n hx hb d_T_at_4 rfl (lv_at hl 1 rfl) ?_
    refine lv_aload_n hx hb d_T_at_5 rfl (lv_at hl 0 rfl) ?_
    refine va_get (D := D) (ci := 2) (v := .int sz) (C := R_Table) (T := F_Table) (N := 5) hx hb htg i_Table hown hK hP k0 hk0 rfl 2 (by decide) (htg _ tm_86) (fun _ h9 => h9) rfl d_T_at_6 ?_
    refine lv_icmp_ge (tgt := 29) hx hb d_T_at_9 (by decide) (fun c_2 => ?_) (fun c_2 => ?_)
    · rw [if_pos c_2] at h
      refine lv_lconst (v := (0 : Int64)) hx hb d_T_at_29 (by decide) ?_
      exact W.lret (v := (0 : Int64)) hx hb hr (fun t ht hW => ⟨(0 : Int64), rfl, (Option.some.inj h), ht⟩) (fun q h => by cases h) d_T_at_30
    · rw [if_neg c_2] at h
      refine lv_iload_n hx hb d_T_at_12 rfl (lv_at hl 1 rfl) ?_
      refine lv_sipush (v := (455 : Int32)) hx hb d_T_at_13 (by decide) ?_
      refine lv_icmp_ge (tgt := 29) hx hb d_T_at_16 (by decide) (fun c_3 => ?_) (fun c_3 => ?_)
      · rw [if_pos c_3] at h
        refine lv_lconst (v := (0 : Int64)) hx hb d_T_at_29 (by decide) ?_
        exact W.lret (v := (0 : Int64)) hx hb hr (fun t ht hW => ⟨(0 : Int64), rfl, (Option.some.inj h), ht⟩) (fun q h => by cases h) d_T_at_30
      · rw [if_neg c_3] at h
        refine lv_iload_n hx hb d_T_at_19 rfl (lv_at hl 2 rfl) ?_
        refine lv_if_lt (tgt := 29) hx hb d_T_at_20 (by decide) (fun c_4 => ?_) (fun c_4 => ?_)
        · rw [if_pos c_4] at h
          refine lv_lconst (v := (0 : Int64)) hx hb d_T_at_29 (by decide) ?_
          exact W.lret (v := (0 : Int64)) hx hb hr (fun t ht hW => ⟨(0 : Int64), rfl, (Option.some.inj h), ht⟩) (fun q h => by cases h) d_T_at_30
        · rw [if_neg c_4] at h
          refine lv_iload_n hx hb d_T_at_23 rfl (lv_at hl 2 rfl) ?_
          refine lv_bipush (v := (7 : Int32)) hx hb d_T_at_24 (by decide) ?_
          refine lv_icmp_lt (tgt := 31) hx hb d_T_at_26 (by decide) (fun c_5 => ?_) (fun c_5 => ?_)
          · rw [if_pos c_5] at h
            refine lv_aload_n hx hb d_T_at_31 rfl (lv_at hl 0 rfl) ?_
            refine va_get (D := D) (ci := 2) (v := .ref h1) (C := R_Table) (T := F_Table) (N := 5) hx hb htg i_Table hown hK hP k0 hk0 rfl 1 (by decide) (htg _ tm_85) (fun _ h9 => h9) rfl d_T_at_32 ?_
            refine lv_iload_n hx hb d_T_at_35 rfl (lv_at hl 1 rfl) ?_
            refine lv_bipush (v := (7 : Int32)) hx hb d_T_at_36 (by decide) ?_
            refine lv_imul hx hb d_T_at_38 ?_
            refine lv_iload_n hx hb d_T_at_39 rfl (lv_at hl 2 rfl) ?_
            refine lv_iadd hx hb d_T_at_40 ?_
            by_cases b_6 : inb ((rw * (7 : Int32)) + wh) 3185 = true
            rotate_left
            · rw [if_neg b_6] at h; cases h
            rw [if_pos b_6] at h
            refine va_lald hx hb hK hP k1 0 hk1 rfl (inb_in b_6) d_T_at_41 ?_
            exact W.lret (v := ro ((rw * (7 : Int32)) + wh).toNatClampNeg) hx hb hr (fun t ht hW => ⟨ro ((rw * (7 : Int32)) + wh).toNatClampNeg, rfl, (Option.some.inj h), ht⟩) (fun q h => by cases h) d_T_at_42
          · rw [if_neg c_5] at h
            refine lv_lconst (v := (0 : Int64)) hx hb d_T_at_29 (by decide) ?_
            exact W.lret (v := (0 : Int64)) hx hb hr (fun t ht hW => ⟨(0 : Int64), rfl, (Option.some.inj h), ht⟩) (fun q h => by cases h) d_T_at_30
-- CellBench$MultipleTable orderToReduced (I)I
def lp_T_ordR_2 (sz : Int32) (ro : Nat → Int64) (ra : Int64) (rb : Int64) (rc : Int64) (rx : Int64) (ry : Int64) (rz : Int64) (rs : Int32) (rw : Int32) : Nat → Int32 → Option (Int32)
  | 0, _ => none
  | n + 1, wh =>
    if (6 : Int32) ≤ wh then (some (0 : Int32)) else (Option.bind (f_T_at sz ro rw wh) (fun z_5 => (if (f_Long_cmp z_5 (f_R_at ra rb rc rx ry rz rs wh)) = 0 then (lp_T_ordR_2 sz ro ra rb rc rx ry rz rs rw n (wh + (1 : Int32))) else (some (f_Long_cmp z_5 (f_R_at ra rb rc rx ry rz rs wh))))))
def f_T_ordR (sz : Int32) (ro : Nat → Int64) (ra : Int64) (rb : Int64) (rc : Int64) (rx : Int64) (ry : Int64) (rz : Int64) (rs : Int32) (rw : Int32) : Option (Int32) :=
    lp_T_ordR_2 sz ro ra rb rc rx ry rz rs rw 7 (0 : Int32)
def w_T_ordR : List Cond := .code y_T_ordR b_T_ordR 4 (some .int) :: GW
abbrev rm_T_ordR : Room := { frames := 1, cells := 0, slots := 0, locals := 23 }
theorem g_T_ordR : GoodIn GW w_T_ordR := gi tm_342
set_option maxHeartbeats 4000000 in
set_option maxRecDepth 100000 in
theorem c_T_ordR (l : Launch) (D : va_G) (ct : CT) (ws : va_W) (k0 : Nat) (k1 : Nat) (k2 : Nat) (h0 : Nat) (h2 : Nat) (h1 : Nat) (sz : Int32) (fc_ : Int32) (fn_ : Int32) (ro : Nat → Int64) (ra : Int64) (rb : Int64) (rc : Int64) (rx : Int64) (ry : Int64) (rz : Int64) (rs : Int32) (rw : Int32) (hk0 : ws[k0]? = some (h0, .inr (2, [.ref h2, .ref h1, .int sz, .int fc_, .int fn_]))) (hk1 : ws[k1]? = some (h1, .inl (ct.1, 3185, .inr (.inl ro)))) (hk2 : ws[k2]? = some (h2, .inr (1, [.long ra, .long rb, .long rc, .long rx, .long ry, .long rz, .int rs])))  (r0 : Int32) (h : f_T_ordR sz ro ra rb rc rx ry rz rs rw = some r0) : Met l y_T_ordR w_T_ordR rm_T_ordR (va_Pc [.ref h0, .int rw] (PreP D ct ws)) (vp_Si (fun r => r = r0)) 0 0 (fun _ => False) := by
  refine Met.ofW (cc := b_T_ordR) (maxL := 4) (ret := (some .int)) (by decide) rfl ?_
  intro p e s m args below meth c s₁ B hml hv
  obtain ⟨rfl, hP, hKK⟩ := hv
  have hx := B.exec
  have hb := B.bytes
  have hr := B.returns
  have htg := ht_tl (atoms_spec (ws := w_T_ordR) B.pre)
  have hown : s.vm.findClass R_Table = some m.cls := findClass_of_methodNamed B.named
  have hlocks := B.notSynchronized
  have hK := hKK.1
  have hN := hKK.2.1
  have hO := hKK.2.2
  have hl := lv_entry ([.ref h0, .int rw]) (n := 4) (Nat.le_of_ble_eq_true rfl)
  rw [lg_entry_eq]
  generalize (lg_sl ([.ref h0, .int rw]) ++ List.replicate (4 - (lg_sl ([.ref h0, .int rw])).length) Slot.unset).toArray = ls at hl ⊢
  have hl : lv_has ls 4 [(0, .ref h0), (1, .int rw)] := hl
  unfold f_T_ordR at h
  refine lv_iconst (v := (0 : Int32)) hx hb d_T_ordR_0 (by decide) ?_
  refine lv_istore_n (lv' := [(2, .int (0 : Int32)), (0, .ref h0), (1, .int rw)]) hx hb d_T_ordR_1 rfl hl (by decide) rfl (fun ls hl => ?_)
  have L_2 : ∀ (n : Nat) (wh : Int32) , lp_T_ordR_2 sz ro ra rb rc rx ry rz rs rw n wh = some r0 → ∀ (ls : Array Slot), lv_has ls 4 [(2, .int wh), (0, .ref h0), (1, .int rw)] → W p l e (headSpec w_T_ordR rm_T_ordR).room s m ([.ref h0, .int rw] : List Value).toArray below meth c s.heap [] 0 0 (MQ below (vp_Si (fun r => r = r0)) ([.ref h0, .int rw] : List Value).toArray s 0 0 (fun _ => False)) (F0 m 2 ls []) := by
    intro n
    induction n with
    | zero =>
      intro wh  h
      rw [lp_T_ordR_2] at h
      cases h
    | succ n ih =>
      intro wh  h ls hl
      rw [lp_T_ordR_2] at h
      refine lv_iload_n hx hb d_T_ordR_2 rfl (lv_at hl 0 rfl) ?_
      refine lv_bipush (v := (6 : Int32)) hx hb d_T_ordR_3 (by decide) ?_
      refine lv_icmp_ge (tgt := 38) hx hb d_T_ordR_5 (by decide) (fun c_1 => ?_) (fun c_1 => ?_)
      · rw [if_pos c_1] at h
        refine lv_iconst (v := (0 : Int32)) hx hb d_T_ordR_38 (by decide) ?_
        exact W.iret (v := (0 : Int32)) hx hb hr (fun t ht hW => ⟨(0 : Int32), rfl, (Option.some.inj h), ht⟩) (fun q h => by cases h) d_T_ordR_39
      · rw [if_neg c_1] at h
        refine lv_aload_n hx hb d_T_ordR_8 rfl (lv_at hl 1 rfl) ?_
        refine lv_iload_n hx hb d_T_ordR_9 rfl (lv_at hl 2 rfl) ?_
        refine lv_iload_n hx hb d_T_ordR_10 rfl (lv_at hl 0 rfl) ?_
        rcases e_2 : f_T_at sz ro rw wh with _ | v_3
        · rw [e_2] at h; cases h
        rw [e_2, Option.bind_some] at h
        try dsimp only at h
        refine vp_callSl (va_Run.run (va_runV (As := [.int rw, .int wh]) (rest := []) ⟨hx, hb, hml, hown, htg⟩ (c_T_at l D ct ws k0 k1 h0 h2 h1 sz fc_ fn_ ro rw wh hk0 hk1  _ e_2) (cwV 2 htg (giV tm_343 tm_344 tm_345 tm_33 g_T_at) rfl rfl rfl (by decide +kernel) ⟨Nat.le_of_ble_eq_true rfl, Nat.le_of_ble_eq_true rfl⟩) (preV hP hKK (va_recv hK hP (ci := 2) (q0 := k0) rfl hk0)) rfl rfl hl.1 rfl (lv_room (Nat.le_of_ble_eq_true rfl)) d_T_ordR_11 ⟨Nat.le_of_ble_eq_true rfl, Nat.le_of_ble_eq_true rfl⟩)) (fun r9 hr9 => ?_)
        have hr9 := hr9.symm
        subst hr9
        refine lv_aload_n hx hb d_T_ordR_14 rfl (lv_at hl 1 rfl) ?_
        refine va_get (D := D) (ci := 2) (v := .ref h2) (C := R_Table) (T := F_Table) (N := 5) hx hb htg i_Table hown hK hP k0 hk0 rfl 0 (by decide) (htg _ tm_84) (fun _ h9 => h9) rfl d_T_ordR_15 ?_
        refine lv_iload_n hx hb d_T_ordR_18 rfl (lv_at hl 0 rfl) ?_
        refine vp_callSl (va_Run.run (va_runV (As := [.int wh]) (rest := [.long v_3]) ⟨hx, hb, hml, hown, htg⟩ (c_R_at l D ct ws k2 h2 ra rb rc rx ry rz rs wh hk2  _ rfl) (cwV 1 htg (giV tm_347 tm_348 tm_349 tm_32 g_R_at) rfl rfl rfl (by decide +kernel) ⟨Nat.le_of_ble_eq_true rfl, Nat.le_of_ble_eq_true rfl⟩) (preV hP hKK (va_recv hK hP (ci := 1) (q0 := k2) rfl hk2)) rfl rfl hl.1 rfl (lv_room (Nat.le_of_ble_eq_true rfl)) d_T_ordR_19 ⟨Nat.le_of_ble_eq_true rfl, Nat.le_of_ble_eq_true rfl⟩)) (fun r9 hr9 => ?_)
        have hr9 := hr9.symm
        subst hr9
        refine vp_callSi (va_Run.run (va_runS (As := [.long v_3, .long (f_R_at ra rb rc rx ry rz rs wh)]) (rest := []) ⟨hx, hb, hml, hown, htg⟩ (c_Long_cmp l D ct ws  v_3 (f_R_at ra rb rc rx ry rz rs wh)   _ rfl) ⟨callB_of 2 htg g_Long_cmp rfl rfl rfl (htg _ tm_37) (htg _ tm_351) (by decide +kernel) ⟨Nat.le_of_ble_eq_true rfl, Nat.le_of_ble_eq_true rfl⟩, (htg _ tm_200)⟩ (preS hP hKK) rfl rfl hl.1 rfl (lv_room (Nat.le_of_ble_eq_true rfl)) d_T_ordR_22 ⟨Nat.le_of_ble_eq_true rfl, Nat.le_of_ble_eq_true rfl⟩)) (fun r9 hr9 => ?_)
        have hr9 := hr9.symm
        subst hr9
        refine lv_istore_n (lv' := [(3, .int (f_Long_cmp v_3 (f_R_at ra rb rc rx ry rz rs wh))), (2, .int wh), (0, .ref h0), (1, .int rw)]) hx hb d_T_ordR_25 rfl hl (by decide) rfl (fun ls hl => ?_)
        refine lv_iload_n hx hb d_T_ordR_26 rfl (lv_at hl 0 rfl) ?_
        refine lv_if_eq (tgt := 32) hx hb d_T_ordR_27 (by decide) (fun c_4 => ?_) (fun c_4 => ?_)
        · rw [if_pos c_4] at h
          refine lv_iinc (v := wh + (1 : Int32)) (lv' := [(2, .int (wh + (1 : Int32))), (3, .int (f_Long_cmp v_3 (f_R_at ra rb rc rx ry rz rs wh))), (0, .ref h0), (1, .int rw)]) hx hb d_T_ordR_32 hl (k := 1) rfl rfl (by decide) rfl (fun ls hl => ?_)
          refine lv_goto (tgt := 2) hx hb d_T_ordR_35 (by decide) ?_
          exact ih (wh + (1 : Int32)) h ls (lv_sub hl [0, 2, 3] rfl)
        · rw [if_neg c_4] at h
          refine lv_iload_n hx hb d_T_ordR_30 rfl (lv_at hl 0 rfl) ?_
          exact W.iret (v := f_Long_cmp v_3 (f_R_at ra rb rc rx ry rz rs wh)) hx hb hr (fun t ht hW => ⟨f_Long_cmp v_3 (f_R_at ra rb rc rx ry rz rs wh), rfl, (Option.some.inj h), ht⟩) (fun q h => by cases h) d_T_ordR_31
  exact L_2 7 (0 : Int32) h ls (lv_sub hl [0, 1, 2] rfl)
-- CellBench$MultipleTable firstNotBelow ()I
def lp_T_first_7 (sz : Int32) (ro : Nat → Int64) (ra : Int64) (rb : Int64) (rc : Int64) (rx : Int64) (ry : Int64) (rz : Int64) (rs : Int32) : Nat → Int32 → Int32 → Option (Int32)
  | 0, _, _ => none
  | n + 1, fr, sp =>
    if sp ≤ 0 then (some fr) else (Option.bind (f_T_ordR sz ro ra rb rc rx ry rz rs (fr + (sp / (2 : Int32)))) (fun z_5 => (if 0 ≤ z_5 then (lp_T_first_7 sz ro ra rb rc rx ry rz rs n fr (sp / (2 : Int32))) else (lp_T_first_7 sz ro ra rb rc rx ry rz rs n (fr + ((sp / (2 : Int32)) + (1 : Int32))) (sp - ((sp / (2 : Int32)) + (1 : Int32)))))))
def f_T_first (sz : Int32) (ro : Nat → Int64) (ra : Int64) (rb : Int64) (rc : Int64) (rx : Int64) (ry : Int64) (rz : Int64) (rs : Int32) : Option (Int32) :=
    lp_T_first_7 sz ro ra rb rc rx ry rz rs 500 (0 : Int32) sz
def w_T_first : List Cond := .code y_T_first b_T_first 4 (some .int) :: GW
abbrev rm_T_first : Room := { frames := 2, cells := 0, slots := 0, locals := 46 }
theorem g_T_first : GoodIn GW w_T_first := gi tm_338
set_option maxHeartbeats 4000000 in
set_option maxRecDepth 100000 in
theorem c_T_first (l : Launch) (D : va_G) (ct : CT) (ws : va_W) (k0 : Nat) (k1 : Nat) (k2 : Nat) (h0 : Nat) (h2 : Nat) (h1 : Nat) (sz : Int32) (fc_ : Int32) (fn_ : Int32) (ro : Nat → Int64) (ra : Int64) (rb : Int64) (rc : Int64) (rx : Int64) (ry : Int64) (rz : Int64) (rs : Int32) (hk0 : ws[k0]? = some (h0, .inr (2, [.ref h2, .ref h1, .int sz, .int fc_, .int fn_]))) (hk1 : ws[k1]? = some (h1, .inl (ct.1, 3185, .inr (.inl ro)))) (hk2 : ws[k2]? = some (h2, .inr (1, [.long ra, .long rb, .long rc, .long rx, .long ry, .long rz, .int rs])))  (r0 : Int32) (h : f_T_first sz ro ra rb rc rx ry rz rs = some r0) : Met l y_T_first w_T_first rm_T_first (va_Pc [.ref h0] (PreP D ct ws)) (vp_Si (fun r => r = r0)) 0 0 (fun _ => False) := by
  refine Met.ofW (cc := b_T_first) (maxL := 4) (ret := (some .int)) (by decide) rfl ?_
  intro p e s m args below meth c s₁ B hml hv
  obtain ⟨rfl, hP, hKK⟩ := hv
  have hx := B.exec
  have hb := B.bytes
  have hr := B.returns
  have htg := ht_tl (atoms_spec (ws := w_T_first) B.pre)
  have hown : s.vm.findClass R_Table = some m.cls := findClass_of_methodNamed B.named
  have hlocks := B.notSynchronized
  have hK := hKK.1
  have hN := hKK.2.1
  have hO := hKK.2.2
  have hl := lv_entry ([.ref h0]) (n := 4) (Nat.le_of_ble_eq_true rfl)
  rw [lg_entry_eq]
  generalize (lg_sl ([.ref h0]) ++ List.replicate (4 - (lg_sl ([.ref h0])).length) Slot.unset).toArray = ls at hl ⊢
  have hl : lv_has ls 4 [(0, .ref h0)] := hl
  unfold f_T_first at h
  refine lv_iconst (v := (0 : Int32)) hx hb d_T_first_0 (by decide) ?_
  refine lv_istore_n (lv' := [(1, .int (0 : Int32)), (0, .ref h0)]) hx hb d_T_first_1 rfl hl (by decide) rfl (fun ls hl => ?_)
  refine lv_aload_n hx hb d_T_first_2 rfl (lv_at hl 1 rfl) ?_
  refine va_get (D := D) (ci := 2) (v := .int sz) (C := R_Table) (T := F_Table) (N := 5) hx hb htg i_Table hown hK hP k0 hk0 rfl 2 (by decide) (htg _ tm_86) (fun _ h9 => h9) rfl d_T_first_3 ?_
  refine lv_istore_n (lv' := [(2, .int sz), (1, .int (0 : Int32)), (0, .ref h0)]) hx hb d_T_first_6 rfl hl (by decide) rfl (fun ls hl => ?_)
  have L_7 : ∀ (n : Nat) (fr : Int32) (sp : Int32) , lp_T_first_7 sz ro ra rb rc rx ry rz rs n fr sp = some r0 → ∀ (ls : Array Slot), lv_has ls 4 [(1, .int fr), (2, .int sp), (0, .ref h0)] → W p l e (headSpec w_T_first rm_T_first).room s m ([.ref h0] : List Value).toArray below meth c s.heap [] 0 0 (MQ below (vp_Si (fun r => r = r0)) ([.ref h0] : List Value).toArray s 0 0 (fun _ => False)) (F0 m 7 ls []) := by
    intro n
    induction n with
    | zero =>
      intro fr sp  h
      rw [lp_T_first_7] at h
      cases h
    | succ n ih =>
      intro fr sp  h ls hl
      rw [lp_T_first_7] at h
      refine lv_iload_n hx hb d_T_first_7 rfl (lv_at hl 1 rfl) ?_
      refine lv_if_le (tgt := 45) hx hb d_T_first_8 (by decide) (fun c_1 => ?_) (fun c_1 => ?_)
      · rw [if_pos c_1] at h
        refine lv_iload_n hx hb d_T_first_45 rfl (lv_at hl 0 rfl) ?_
        exact W.iret (v := fr) hx hb hr (fun t ht hW => ⟨fr, rfl, (Option.some.inj h), ht⟩) (fun q h => by cases h) d_T_first_46
      · rw [if_neg c_1] at h
        refine lv_iload_n hx hb d_T_first_11 rfl (lv_at hl 1 rfl) ?_
        refine lv_iconst (v := (2 : Int32)) hx hb d_T_first_12 (by decide) ?_
        refine lv_idiv hx hb d_T_first_13 (by decide) ?_
        refine lv_istore_n (lv' := [(3, .int (sp / (2 : Int32))), (1, .int fr), (2, .int sp), (0, .ref h0)]) hx hb d_T_first_14 rfl hl (by decide) rfl (fun ls hl => ?_)
        refine lv_aload_n hx hb d_T_first_15 rfl (lv_at hl 3 rfl) ?_
        refine lv_iload_n hx hb d_T_first_16 rfl (lv_at hl 1 rfl) ?_
        refine lv_iload_n hx hb d_T_first_17 rfl (lv_at hl 0 rfl) ?_
        refine lv_iadd hx hb d_T_first_18 ?_
        rcases e_2 : f_T_ordR sz ro ra rb rc rx ry rz rs (fr + (sp / (2 : Int32))) with _ | v_3
        · rw [e_2] at h; cases h
        rw [e_2, Option.bind_some] at h
        try dsimp only at h
        refine vp_callSi (va_Run.run (va_runV (As := [.int (fr + (sp / (2 : Int32)))]) (rest := []) ⟨hx, hb, hml, hown, htg⟩ (c_T_ordR l D ct ws k0 k1 k2 h0 h2 h1 sz fc_ fn_ ro ra rb rc rx ry rz rs (fr + (sp / (2 : Int32))) hk0 hk1 hk2  _ e_2) (cwV 1 htg (giV tm_339 tm_341 tm_16 tm_33 g_T_ordR) rfl rfl rfl (by decide +kernel) ⟨Nat.le_of_ble_eq_true rfl, Nat.le_of_ble_eq_true rfl⟩) (preV hP hKK (va_recv hK hP (ci := 2) (q0 := k0) rfl hk0)) rfl rfl hl.1 rfl (lv_room (Nat.le_of_ble_eq_true rfl)) d_T_first_19 ⟨Nat.le_of_ble_eq_true rfl, Nat.le_of_ble_eq_true rfl⟩)) (fun r9 hr9 => ?_)
        have hr9 := hr9.symm
        subst hr9
        refine lv_if_ge (tgt := 40) hx hb d_T_first_22 (by decide) (fun c_4 => ?_) (fun c_4 => ?_)
        · rw [if_pos c_4] at h
          refine lv_iload_n hx hb d_T_first_40 rfl (lv_at hl 0 rfl) ?_
          refine lv_istore_n (lv' := [(2, .int (sp / (2 : Int32))), (3, .int (sp / (2 : Int32))), (1, .int fr), (0, .ref h0)]) hx hb d_T_first_41 rfl hl (by decide) rfl (fun ls hl => ?_)
          refine lv_goto (tgt := 7) hx hb d_T_first_42 (by decide) ?_
          exact ih fr (sp / (2 : Int32)) h ls (lv_sub hl [2, 0, 3] rfl)
        · rw [if_neg c_4] at h
          refine lv_iload_n hx hb d_T_first_25 rfl (lv_at hl 1 rfl) ?_
          refine lv_iload_n hx hb d_T_first_26 rfl (lv_at hl 0 rfl) ?_
          refine lv_iconst (v := (1 : Int32)) hx hb d_T_first_27 (by decide) ?_
          refine lv_iadd hx hb d_T_first_28 ?_
          refine lv_iadd hx hb d_T_first_29 ?_
          refine lv_istore_n (lv' := [(1, .int (fr + ((sp / (2 : Int32)) + (1 : Int32)))), (3, .int (sp / (2 : Int32))), (2, .int sp), (0, .ref h0)]) hx hb d_T_first_30 rfl hl (by decide) rfl (fun ls hl => ?_)
          refine lv_iload_n hx hb d_T_first_31 rfl (lv_at hl 2 rfl) ?_
          refine lv_iload_n hx hb d_T_first_32 rfl (lv_at hl 1 rfl) ?_
          refine lv_iconst (v := (1 : Int32)) hx hb d_T_first_33 (by decide) ?_
          refine lv_iadd hx hb d_T_first_34 ?_
          refine lv_isub hx hb d_T_first_35 ?_
          refine lv_istore_n (lv' := [(2, .int (sp - ((sp / (2 : Int32)) + (1 : Int32)))), (1, .int (fr + ((sp / (2 : Int32)) + (1 : Int32)))), (3, .int (sp / (2 : Int32))), (0, .ref h0)]) hx hb d_T_first_36 rfl hl (by decide) rfl (fun ls hl => ?_)
          refine lv_goto (tgt := 42) hx hb d_T_first_37 (by decide) ?_
          refine lv_goto (tgt := 7) hx hb d_T_first_42 (by decide) ?_
          exact ih (fr + ((sp / (2 : Int32)) + (1 : Int32))) (sp - ((sp / (2 : Int32)) + (1 : Int32))) h ls (lv_sub hl [1, 0, 3] rfl)
  exact L_7 500 (0 : Int32) sz h ls (lv_sub hl [1, 0, 2] rfl)
-- CellBench$MultipleTable insert (I)V
def lp_T_insert_32 (ra : Int64) (rb : Int64) (rc : Int64) (rx : Int64) (ry : Int64) (rz : Int64) (rs : Int32) (rw : Int32) : Nat → Int32 → Int32 → (Nat → Int64) → Int32 → Option ((Nat → Int64) × Int32)
  | 0, _, _, _, _ => none
  | n + 1, fr, wh, ro, sz =>
    if (6 : Int32) ≤ wh then (if inb (fr + (6 : Int32)) 3185 = true then (some (vp_updL ro (fr + (6 : Int32)).toNatClampNeg (0 : Int64), sz + (1 : Int32))) else none) else (if inb (fr + wh) 3185 = true then (lp_T_insert_32 ra rb rc rx ry rz rs rw n fr (wh + (1 : Int32)) (vp_updL ro (fr + wh).toNatClampNeg (f_R_at ra rb rc rx ry rz rs wh)) sz) else none)
def f_T_insert (sz : Int32) (ro : Nat → Int64) (ra : Int64) (rb : Int64) (rc : Int64) (rx : Int64) (ry : Int64) (rz : Int64) (rs : Int32) (rw : Int32) : Option ((Nat → Int64) × Int32) :=
    if cpk (rw * (7 : Int32)) ((rw * (7 : Int32)) + (7 : Int32)) ((sz - rw) * (7 : Int32)) 3185 3185 = true then (lp_T_insert_32 ra rb rc rx ry rz rs rw 7 (rw * (7 : Int32)) (0 : Int32) (va_cpy ro ro (rw * (7 : Int32)).toNatClampNeg ((rw * (7 : Int32)) + (7 : Int32)).toNatClampNeg ((sz - rw) * (7 : Int32)).toNatClampNeg) sz) else none
def w_T_insert : List Cond := .code y_T_insert b_T_insert 4 none :: GW
abbrev rm_T_insert : Room := { frames := 1, cells := 0, slots := 0, locals := 60 }
theorem g_T_insert : GoodIn GW w_T_insert := gi tm_355
set_option maxHeartbeats 4000000 in
set_option maxRecDepth 100000 in
theorem c_T_insert (l : Launch) (D : va_G) (ct : CT) (A : Nat → Prop) (wt : va_W)  (h0 : Nat) (h2 : Nat) (h1 : Nat) (sz : Int32) (fc_ : Int32) (fn_ : Int32) (ro : Nat → Int64) (ra : Int64) (rb : Int64) (rc : Int64) (rx : Int64) (ry : Int64) (rz : Int64) (rs : Int32) (rw : Int32)   (r0 : (Nat → Int64) × Int32) (h : f_T_insert sz ro ra rb rc rx ry rz rs rw = some r0) : Met l y_T_insert w_T_insert rm_T_insert (va_Pc [.ref h0, .int rw] (PreM D ct A ([(h0, .inr (2, [.ref h2, .ref h1, .int sz, .int fc_, .int fn_])), (h1, .inl (ct.1, 3185, .inr (.inl ro))), (h2, .inr (1, [.long ra, .long rb, .long rc, .long rx, .long ry, .long rz, .int rs]))] ++ wt))) (va_Qv (fun u => u = r0) (fun (u : (Nat → Int64) × Int32) t => match u with | (ro', sz') => va_P D classes ([(h0, .inr (2, [.ref h2, .ref h1, .int sz', .int fc_, .int fn_])), (h1, .inl (ct.1, 3185, .inr (.inl ro'))), (h2, .inr (1, [.long ra, .long rb, .long rc, .long rx, .long ry, .long rz, .int rs]))] ++ wt) t.heap ∧ va_D A ([(h0, .inr (2, [.ref h2, .ref h1, .int sz', .int fc_, .int fn_])), (h1, .inl (ct.1, 3185, .inr (.inl ro'))), (h2, .inr (1, [.long ra, .long rb, .long rc, .long rx, .long ry, .long rz, .int rs]))] ++ wt)) A) 0 0 A := by
  refine Met.ofW (cc := b_T_insert) (maxL := 4) (ret := none) (by decide) rfl ?_
  intro p e s m args below meth c s₁ B hml hv
  obtain ⟨rfl, hA, hP, hD, hKK⟩ := hv
  have hx := B.exec
  have hb := B.bytes
  have hr := B.returns
  have htg := ht_tl (atoms_spec (ws := w_T_insert) B.pre)
  have hown : s.vm.findClass R_Table = some m.cls := findClass_of_methodNamed B.named
  have hlocks := B.notSynchronized
  have hK := hKK.1
  have hN := hKK.2.1
  have hO := hKK.2.2
  have hS : va_S A s.heap s.heap [] := va_S.rf
  have hl := lv_entry ([.ref h0, .int rw]) (n := 4) (Nat.le_of_ble_eq_true rfl)
  rw [lg_entry_eq]
  generalize (lg_sl ([.ref h0, .int rw]) ++ List.replicate (4 - (lg_sl ([.ref h0, .int rw])).length) Slot.unset).toArray = ls at hl ⊢
  have hl : lv_has ls 4 [(0, .ref h0), (1, .int rw)] := hl
  unfold f_T_insert at h
  refine lv_iload_n hx hb d_T_insert_0 rfl (lv_at hl 1 rfl) ?_
  refine lv_bipush (v := (7 : Int32)) hx hb d_T_insert_1 (by decide) ?_
  refine lv_imul hx hb d_T_insert_3 ?_
  refine lv_istore_n (lv' := [(2, .int (rw * (7 : Int32))), (0, .ref h0), (1, .int rw)]) hx hb d_T_insert_4 rfl hl (by decide) rfl (fun ls hl => ?_)
  refine lv_aload_n hx hb d_T_insert_5 rfl (lv_at hl 1 rfl) ?_
  refine va_get (D := D) (ci := 2) (v := .ref h1) (C := R_Table) (T := F_Table) (N := 5) hx hb htg i_Table hown hK hP 0 rfl rfl 1 (by decide) (htg _ tm_85) (fun _ h9 => h9) rfl d_T_insert_6 ?_
  refine lv_iload_n hx hb d_T_insert_9 rfl (lv_at hl 0 rfl) ?_
  refine lv_aload_n hx hb d_T_insert_10 rfl (lv_at hl 1 rfl) ?_
  refine va_get (D := D) (ci := 2) (v := .ref h1) (C := R_Table) (T := F_Table) (N := 5) hx hb htg i_Table hown hK hP 0 rfl rfl 1 (by decide) (htg _ tm_85) (fun _ h9 => h9) rfl d_T_insert_11 ?_
  refine lv_iload_n hx hb d_T_insert_14 rfl (lv_at hl 0 rfl) ?_
  refine lv_bipush (v := (7 : Int32)) hx hb d_T_insert_15 (by decide) ?_
  refine lv_iadd hx hb d_T_insert_17 ?_
  refine lv_aload_n hx hb d_T_insert_18 rfl (lv_at hl 1 rfl) ?_
  refine va_get (D := D) (ci := 2) (v := .int sz) (C := R_Table) (T := F_Table) (N := 5) hx hb htg i_Table hown hK hP 0 rfl rfl 2 (by decide) (htg _ tm_86) (fun _ h9 => h9) rfl d_T_insert_19 ?_
  refine lv_iload_n hx hb d_T_insert_22 rfl (lv_at hl 2 rfl) ?_
  refine lv_isub hx hb d_T_insert_23 ?_
  refine lv_bipush (v := (7 : Int32)) hx hb d_T_insert_24 (by decide) ?_
  refine lv_imul hx hb d_T_insert_26 ?_
  by_cases b_1 : cpk (rw * (7 : Int32)) ((rw * (7 : Int32)) + (7 : Int32)) ((sz - rw) * (7 : Int32)) 3185 3185 = true
  rotate_left
  · rw [if_neg b_1] at h; cases h
  rw [if_pos b_1] at h
  refine va_copyl (ty := .long) hx hb (by rw [hml]; exact hl.1.symm) hown (htg _ tm_356) (htg _ tm_358) (htg _ tm_357) (htg _ tm_39) hK hP hD hS 1 1 0 0 rfl rfl rfl rfl rfl (cpk_1 b_1) (cpk_2 b_1) (cpk_3 b_1) (cpk_4 b_1) (cpk_5 b_1) (fun _ _ => rfl) (Nat.le_of_ble_eq_true rfl) (Nat.le_of_ble_eq_true rfl) d_T_insert_27 (fun H locs hP hD hS => ?_)
  have hP : va_P D classes ([(h0, .inr (2, [.ref h2, .ref h1, .int sz, .int fc_, .int fn_])), (h1, .inl (ct.1, 3185, .inr (.inl (va_cpy ro ro (rw * (7 : Int32)).toNatClampNeg ((rw * (7 : Int32)) + (7 : Int32)).toNatClampNeg ((sz - rw) * (7 : Int32)).toNatClampNeg)))), (h2, .inr (1, [.long ra, .long rb, .long rc, .long rx, .long ry, .long rz, .int rs]))] ++ wt) H := hP
  have hD : va_D A ([(h0, .inr (2, [.ref h2, .ref h1, .int sz, .int fc_, .int fn_])), (h1, .inl (ct.1, 3185, .inr (.inl (va_cpy ro ro (rw * (7 : Int32)).toNatClampNeg ((rw * (7 : Int32)) + (7 : Int32)).toNatClampNeg ((sz - rw) * (7 : Int32)).toNatClampNeg)))), (h2, .inr (1, [.long ra, .long rb, .long rc, .long rx, .long ry, .long rz, .int rs]))] ++ wt) := hD
  refine lv_iconst (v := (0 : Int32)) hx hb d_T_insert_30 (by decide) ?_
  refine lv_istore_n (lv' := [(3, .int (0 : Int32)), (2, .int (rw * (7 : Int32))), (0, .ref h0), (1, .int rw)]) hx hb d_T_insert_31 rfl hl (by decide) rfl (fun ls hl => ?_)
  have L_32 : ∀ (n : Nat) (fr : Int32) (wh : Int32) (ro : Nat → Int64) (sz : Int32) , lp_T_insert_32 ra rb rc rx ry rz rs rw n fr wh ro sz = some r0 → ∀ (H : Heap) (locs : List Loc), va_P D classes ([(h0, .inr (2, [.ref h2, .ref h1, .int sz, .int fc_, .int fn_])), (h1, .inl (ct.1, 3185, .inr (.inl ro))), (h2, .inr (1, [.long ra, .long rb, .long rc, .long rx, .long ry, .long rz, .int rs]))] ++ wt) H → va_D A ([(h0, .inr (2, [.ref h2, .ref h1, .int sz, .int fc_, .int fn_])), (h1, .inl (ct.1, 3185, .inr (.inl ro))), (h2, .inr (1, [.long ra, .long rb, .long rc, .long rx, .long ry, .long rz, .int rs]))] ++ wt) → va_S A s.heap H locs → ∀ (ls : Array Slot), lv_has ls 4 [(2, .int fr), (3, .int wh), (0, .ref h0), (1, .int rw)] → W p l e (headSpec w_T_insert rm_T_insert).room s m ([.ref h0, .int rw] : List Value).toArray below meth c H locs 0 0 (MQ below (va_Qv (fun u => u = r0) (fun (u : (Nat → Int64) × Int32) t => match u with | (ro', sz') => va_P D classes ([(h0, .inr (2, [.ref h2, .ref h1, .int sz', .int fc_, .int fn_])), (h1, .inl (ct.1, 3185, .inr (.inl ro'))), (h2, .inr (1, [.long ra, .long rb, .long rc, .long rx, .long ry, .long rz, .int rs]))] ++ wt) t.heap ∧ va_D A ([(h0, .inr (2, [.ref h2, .ref h1, .int sz', .int fc_, .int fn_])), (h1, .inl (ct.1, 3185, .inr (.inl ro'))), (h2, .inr (1, [.long ra, .long rb, .long rc, .long rx, .long ry, .long rz, .int rs]))] ++ wt)) A) ([.ref h0, .int rw] : List Value).toArray s 0 0 A) (F0 m 32 ls []) := by
    intro n
    induction n with
    | zero =>
      intro fr wh ro sz  h
      rw [lp_T_insert_32] at h
      cases h
    | succ n ih =>
      intro fr wh ro sz  h H locs hP hD hS ls hl
      rw [lp_T_insert_32] at h
      refine lv_iload_n hx hb d_T_insert_32 rfl (lv_at hl 1 rfl) ?_
      refine lv_bipush (v := (6 : Int32)) hx hb d_T_insert_33 (by decide) ?_
      refine lv_icmp_ge (tgt := 60) hx hb d_T_insert_35 (by decide) (fun c_2 => ?_) (fun c_2 => ?_)
      · rw [if_pos c_2] at h
        refine lv_aload_n hx hb d_T_insert_60 rfl (lv_at hl 2 rfl) ?_
        refine va_get (D := D) (ci := 2) (v := .ref h1) (C := R_Table) (T := F_Table) (N := 5) hx hb htg i_Table hown hK hP 0 rfl rfl 1 (by decide) (htg _ tm_85) (fun _ h9 => h9) rfl d_T_insert_61 ?_
        refine lv_iload_n hx hb d_T_insert_64 rfl (lv_at hl 0 rfl) ?_
        refine lv_bipush (v := (6 : Int32)) hx hb d_T_insert_65 (by decide) ?_
        refine lv_iadd hx hb d_T_insert_67 ?_
        refine lv_lconst (v := (0 : Int64)) hx hb d_T_insert_68 (by decide) ?_
        by_cases b_3 : inb (fr + (6 : Int32)) 3185 = true
        rotate_left
        · rw [if_neg b_3] at h; cases h
        rw [if_pos b_3] at h
        refine va_last hx hb hK hP hD hS 1 0 rfl rfl (inb_in b_3) d_T_insert_69 (fun H locs hP hD hS => ?_)
        have hP : va_P D classes ([(h0, .inr (2, [.ref h2, .ref h1, .int sz, .int fc_, .int fn_])), (h1, .inl (ct.1, 3185, .inr (.inl (vp_updL ro (fr + (6 : Int32)).toNatClampNeg (0 : Int64))))), (h2, .inr (1, [.long ra, .long rb, .long rc, .long rx, .long ry, .long rz, .int rs]))] ++ wt) H := hP
        have hD : va_D A ([(h0, .inr (2, [.ref h2, .ref h1, .int sz, .int fc_, .int fn_])), (h1, .inl (ct.1, 3185, .inr (.inl (vp_updL ro (fr + (6 : Int32)).toNatClampNeg (0 : Int64))))), (h2, .inr (1, [.long ra, .long rb, .long rc, .long rx, .long ry, .long rz, .int rs]))] ++ wt) := hD
        refine lv_aload_n hx hb d_T_insert_70 rfl (lv_at hl 2 rfl) ?_
        refine lv_dup hx hb d_T_insert_71 rfl ?_
        refine va_get (D := D) (ci := 2) (v := .int sz) (C := R_Table) (T := F_Table) (N := 5) hx hb htg i_Table hown hK hP 0 rfl rfl 2 (by decide) (htg _ tm_86) (fun _ h9 => h9) rfl d_T_insert_72 ?_
        refine lv_iconst (v := (1 : Int32)) hx hb d_T_insert_75 (by decide) ?_
        refine lv_iadd hx hb d_T_insert_76 ?_
        refine va_put (D := D) (ci := 2) (v := .int (sz + (1 : Int32))) (ty := .int) (C := R_Table) (T := F_Table) (N := 5) hx hb htg i_Table t_Table t_Table_ok n_Table hown hK hP hD hS 0 rfl rfl 2 (by decide) (htg _ tm_86) (fun _ h9 => h9) rfl (by decide +kernel) rfl rfl (Nat.le_of_ble_eq_true rfl) d_T_insert_77 (fun H locs hP hD hS => ?_)
        have hP : va_P D classes ([(h0, .inr (2, [.ref h2, .ref h1, .int (sz + (1 : Int32)), .int fc_, .int fn_])), (h1, .inl (ct.1, 3185, .inr (.inl (vp_updL ro (fr + (6 : Int32)).toNatClampNeg (0 : Int64))))), (h2, .inr (1, [.long ra, .long rb, .long rc, .long rx, .long ry, .long rz, .int rs]))] ++ wt) H := hP
        have hD : va_D A ([(h0, .inr (2, [.ref h2, .ref h1, .int (sz + (1 : Int32)), .int fc_, .int fn_])), (h1, .inl (ct.1, 3185, .inr (.inl (vp_updL ro (fr + (6 : Int32)).toNatClampNeg (0 : Int64))))), (h2, .inr (1, [.long ra, .long rb, .long rc, .long rx, .long ry, .long rz, .int rs]))] ++ wt) := hD
        exact W.vret hx hb hr (fun t ht hW => ⟨⟨(vp_updL ro (fr + (6 : Int32)).toNatClampNeg (0 : Int64), sz + (1 : Int32)), rfl, (Option.some.inj h), by rw [ht]; exact hP, hD⟩, hS.F ht⟩) hS.2.2 d_T_insert_80
      · rw [if_neg c_2] at h
        refine lv_aload_n hx hb d_T_insert_38 rfl (lv_at hl 2 rfl) ?_
        refine va_get (D := D) (ci := 2) (v := .ref h1) (C := R_Table) (T := F_Table) (N := 5) hx hb htg i_Table hown hK hP 0 rfl rfl 1 (by decide) (htg _ tm_85) (fun _ h9 => h9) rfl d_T_insert_39 ?_
        refine lv_iload_n hx hb d_T_insert_42 rfl (lv_at hl 0 rfl) ?_
        refine lv_iload_n hx hb d_T_insert_43 rfl (lv_at hl 1 rfl) ?_
        refine lv_iadd hx hb d_T_insert_44 ?_
        refine lv_aload_n hx hb d_T_insert_45 rfl (lv_at hl 2 rfl) ?_
        refine va_get (D := D) (ci := 2) (v := .ref h2) (C := R_Table) (T := F_Table) (N := 5) hx hb htg i_Table hown hK hP 0 rfl rfl 0 (by decide) (htg _ tm_84) (fun _ h9 => h9) rfl d_T_insert_46 ?_
        refine lv_iload_n hx hb d_T_insert_49 rfl (lv_at hl 1 rfl) ?_
        refine vp_callSl (va_Run.run (va_runV (As := [.int wh]) (rest := [.int (fr + wh), .ref h1]) ⟨hx, hb, hml, hown, htg⟩ (c_R_at l D ct ([(h0, .inr (2, [.ref h2, .ref h1, .int sz, .int fc_, .int fn_])), (h1, .inl (ct.1, 3185, .inr (.inl ro))), (h2, .inr (1, [.long ra, .long rb, .long rc, .long rx, .long ry, .long rz, .int rs]))] ++ wt) 2 h2 ra rb rc rx ry rz rs wh rfl  _ rfl) (cwV 1 htg (giV tm_347 tm_348 tm_349 tm_32 g_R_at) rfl rfl rfl (by decide +kernel) ⟨Nat.le_of_ble_eq_true rfl, Nat.le_of_ble_eq_true rfl⟩) (preV hP hKK (va_recv hK hP (ci := 1) (q0 := 2) rfl rfl)) rfl rfl hl.1 rfl (lv_room (Nat.le_of_ble_eq_true rfl)) d_T_insert_50 ⟨Nat.le_of_ble_eq_true rfl, Nat.le_of_ble_eq_true rfl⟩)) (fun r9 hr9 => ?_)
        have hr9 := hr9.symm
        subst hr9
        by_cases b_4 : inb (fr + wh) 3185 = true
        rotate_left
        · rw [if_neg b_4] at h; cases h
        rw [if_pos b_4] at h
        refine va_last hx hb hK hP hD hS 1 0 rfl rfl (inb_in b_4) d_T_insert_53 (fun H locs hP hD hS => ?_)
        have hP : va_P D classes ([(h0, .inr (2, [.ref h2, .ref h1, .int sz, .int fc_, .int fn_])), (h1, .inl (ct.1, 3185, .inr (.inl (vp_updL ro (fr + wh).toNatClampNeg (f_R_at ra rb rc rx ry rz rs wh))))), (h2, .inr (1, [.long ra, .long rb, .long rc, .long rx, .long ry, .long rz, .int rs]))] ++ wt) H := hP
        have hD : va_D A ([(h0, .inr (2, [.ref h2, .ref h1, .int sz, .int fc_, .int fn_])), (h1, .inl (ct.1, 3185, .inr (.inl (vp_updL ro (fr + wh).toNatClampNeg (f_R_at ra rb rc rx ry rz rs wh))))), (h2, .inr (1, [.long ra, .long rb, .long rc, .long rx, .long ry, .long rz, .int rs]))] ++ wt) := hD
        refine lv_iinc (v := wh + (1 : Int32)) (lv' := [(3, .int (wh + (1 : Int32))), (2, .int fr), (0, .ref h0), (1, .int rw)]) hx hb d_T_insert_54 hl (k := 1) rfl rfl (by decide) rfl (fun ls hl => ?_)
        refine lv_goto (tgt := 32) hx hb d_T_insert_57 (by decide) ?_
        exact ih fr (wh + (1 : Int32)) (vp_updL ro (fr + wh).toNatClampNeg (f_R_at ra rb rc rx ry rz rs wh)) sz h H locs hP hD hS ls (lv_sub hl [1, 0, 2, 3] rfl)
  exact L_32 7 (rw * (7 : Int32)) (0 : Int32) (va_cpy ro ro (rw * (7 : Int32)).toNatClampNeg ((rw * (7 : Int32)) + (7 : Int32)).toNatClampNeg ((sz - rw) * (7 : Int32)).toNatClampNeg) sz h _ _ hP hD hS ls (lv_sub hl [1, 0, 2, 3] rfl)
-- CellBench$MultipleTable countReduced ()V
def f_T_count (sz : Int32) (ro : Nat → Int64) (ra : Int64) (rb : Int64) (rc : Int64) (rx : Int64) (ry : Int64) (rz : Int64) (rs : Int32) : Option ((Nat → Int64) × Int32) :=
    Option.bind (f_T_first sz ro ra rb rc rx ry rz rs) (fun z_26 => (if z_26 < 0 then (some (ro, sz)) else (if z_26 < (455 : Int32) then (if sz ≤ z_26 then (if sz < (455 : Int32) then (Option.bind (f_T_insert sz ro ra rb rc rx ry rz rs z_26) (fun z_12 => (if inb ((z_26 * (7 : Int32)) + (6 : Int32)) 3185 = true then (if inb ((z_26 * (7 : Int32)) + (6 : Int32)) 3185 = true then (some (vp_updL z_12.1 ((z_26 * (7 : Int32)) + (6 : Int32)).toNatClampNeg ((z_12.1 ((z_26 * (7 : Int32)) + (6 : Int32)).toNatClampNeg) + (1 : Int64)), z_12.2)) else none) else none))) else (some (ro, sz))) else (Option.bind (f_T_ordR sz ro ra rb rc rx ry rz rs z_26) (fun z_25 => (if z_25 = 0 then (if inb ((z_26 * (7 : Int32)) + (6 : Int32)) 3185 = true then (if inb ((z_26 * (7 : Int32)) + (6 : Int32)) 3185 = true then (some (vp_updL ro ((z_26 * (7 : Int32)) + (6 : Int32)).toNatClampNeg ((ro ((z_26 * (7 : Int32)) + (6 : Int32)).toNatClampNeg) + (1 : Int64)), sz)) else none) else none) else (if sz < (455 : Int32) then (Option.bind (f_T_insert sz ro ra rb rc rx ry rz rs z_26) (fun z_24 => (if inb ((z_26 * (7 : Int32)) + (6 : Int32)) 3185 = true then (if inb ((z_26 * (7 : Int32)) + (6 : Int32)) 3185 = true then (some (vp_updL z_24.1 ((z_26 * (7 : Int32)) + (6 : Int32)).toNatClampNeg ((z_24.1 ((z_26 * (7 : Int32)) + (6 : Int32)).toNatClampNeg) + (1 : Int64)), z_24.2)) else none) else none))) else (some (ro, sz))))))) else (some (ro, sz)))))
def w_T_count : List Cond := .code y_T_count b_T_count 2 none :: GW
abbrev rm_T_count : Room := { frames := 3, cells := 0, slots := 0, locals := 83 }
theorem g_T_count : GoodIn GW w_T_count := gi tm_334
set_option maxHeartbeats 4000000 in
set_option maxRecDepth 100000 in
theorem c_T_count (l : Launch) (D : va_G) (ct : CT) (A : Nat → Prop) (wt : va_W)  (h0 : Nat) (h2 : Nat) (h1 : Nat) (sz : Int32) (fc_ : Int32) (fn_ : Int32) (ro : Nat → Int64) (ra : Int64) (rb : Int64) (rc : Int64) (rx : Int64) (ry : Int64) (rz : Int64) (rs : Int32)   (r0 : (Nat → Int64) × Int32) (h : f_T_count sz ro ra rb rc rx ry rz rs = some r0) : Met l y_T_count w_T_count rm_T_count (va_Pc [.ref h0] (PreM D ct A ([(h0, .inr (2, [.ref h2, .ref h1, .int sz, .int fc_, .int fn_])), (h1, .inl (ct.1, 3185, .inr (.inl ro))), (h2, .inr (1, [.long ra, .long rb, .long rc, .long rx, .long ry, .long rz, .int rs]))] ++ wt))) (va_Qv (fun u => u = r0) (fun (u : (Nat → Int64) × Int32) t => match u with | (ro', sz') => va_P D classes ([(h0, .inr (2, [.ref h2, .ref h1, .int sz', .int fc_, .int fn_])), (h1, .inl (ct.1, 3185, .inr (.inl ro'))), (h2, .inr (1, [.long ra, .long rb, .long rc, .long rx, .long ry, .long rz, .int rs]))] ++ wt) t.heap ∧ va_D A ([(h0, .inr (2, [.ref h2, .ref h1, .int sz', .int fc_, .int fn_])), (h1, .inl (ct.1, 3185, .inr (.inl ro'))), (h2, .inr (1, [.long ra, .long rb, .long rc, .long rx, .long ry, .long rz, .int rs]))] ++ wt)) A) 0 0 A := by
  refine Met.ofW (cc := b_T_count) (maxL := 2) (ret := none) (by decide) rfl ?_
  intro p e s m args below meth c s₁ B hml hv
  obtain ⟨rfl, hA, hP, hD, hKK⟩ := hv
  have hx := B.exec
  have hb := B.bytes
  have hr := B.returns
  have htg := ht_tl (atoms_spec (ws := w_T_count) B.pre)
  have hown : s.vm.findClass R_Table = some m.cls := findClass_of_methodNamed B.named
  have hlocks := B.notSynchronized
  have hK := hKK.1
  have hN := hKK.2.1
  have hO := hKK.2.2
  have hS : va_S A s.heap s.heap [] := va_S.rf
  have hl := lv_entry ([.ref h0]) (n := 2) (Nat.le_of_ble_eq_true rfl)
  rw [lg_entry_eq]
  generalize (lg_sl ([.ref h0]) ++ List.replicate (2 - (lg_sl ([.ref h0])).length) Slot.unset).toArray = ls at hl ⊢
  have hl : lv_has ls 2 [(0, .ref h0)] := hl
  unfold f_T_count at h
  refine lv_aload_n hx hb d_T_count_0 rfl (lv_at hl 0 rfl) ?_
  rcases e_1 : f_T_first sz ro ra rb rc rx ry rz rs with _ | v_2
  · rw [e_1] at h; cases h
  rw [e_1, Option.bind_some] at h
  try dsimp only at h
  refine vp_callSi (va_Run.run (va_runV (As := []) (rest := []) ⟨hx, hb, hml, hown, htg⟩ (c_T_first l D ct ([(h0, .inr (2, [.ref h2, .ref h1, .int sz, .int fc_, .int fn_])), (h1, .inl (ct.1, 3185, .inr (.inl ro))), (h2, .inr (1, [.long ra, .long rb, .long rc, .long rx, .long ry, .long rz, .int rs]))] ++ wt) 0 1 2 h0 h2 h1 sz fc_ fn_ ro ra rb rc rx ry rz rs rfl rfl rfl  _ e_1) (cwV 0 htg (giV tm_335 tm_337 tm_15 tm_33 g_T_first) rfl rfl rfl (by decide +kernel) ⟨Nat.le_of_ble_eq_true rfl, Nat.le_of_ble_eq_true rfl⟩) (preV hP hKK (va_recv hK hP (ci := 2) (q0 := 0) rfl rfl)) rfl rfl hl.1 rfl (lv_room (Nat.le_of_ble_eq_true rfl)) d_T_count_1 ⟨Nat.le_of_ble_eq_true rfl, Nat.le_of_ble_eq_true rfl⟩)) (fun r9 hr9 => ?_)
  have hr9 := hr9.symm
  subst hr9
  refine lv_istore_n (lv' := [(1, .int v_2), (0, .ref h0)]) hx hb d_T_count_4 rfl hl (by decide) rfl (fun ls hl => ?_)
  refine lv_iload_n hx hb d_T_count_5 rfl (lv_at hl 0 rfl) ?_
  refine lv_if_lt (tgt := 16) hx hb d_T_count_6 (by decide) (fun c_3 => ?_) (fun c_3 => ?_)
  · rw [if_pos c_3] at h
    exact W.vret hx hb hr (fun t ht hW => ⟨⟨(ro, sz), rfl, (Option.some.inj h), by rw [ht]; exact hP, hD⟩, hS.F ht⟩) hS.2.2 d_T_count_16
  · rw [if_neg c_3] at h
    refine lv_iload_n hx hb d_T_count_9 rfl (lv_at hl 0 rfl) ?_
    refine lv_sipush (v := (455 : Int32)) hx hb d_T_count_10 (by decide) ?_
    refine lv_icmp_lt (tgt := 17) hx hb d_T_count_13 (by decide) (fun c_4 => ?_) (fun c_4 => ?_)
    · rw [if_pos c_4] at h
      refine lv_iload_n hx hb d_T_count_17 rfl (lv_at hl 0 rfl) ?_
      refine lv_aload_n hx hb d_T_count_18 rfl (lv_at hl 1 rfl) ?_
      refine va_get (D := D) (ci := 2) (v := .int sz) (C := R_Table) (T := F_Table) (N := 5) hx hb htg i_Table hown hK hP 0 rfl rfl 2 (by decide) (htg _ tm_86) (fun _ h9 => h9) rfl d_T_count_19 ?_
      refine lv_icmp_ge (tgt := 33) hx hb d_T_count_22 (by decide) (fun c_5 => ?_) (fun c_5 => ?_)
      · rw [if_pos c_5] at h
        refine lv_aload_n hx hb d_T_count_33 rfl (lv_at hl 1 rfl) ?_
        refine va_get (D := D) (ci := 2) (v := .int sz) (C := R_Table) (T := F_Table) (N := 5) hx hb htg i_Table hown hK hP 0 rfl rfl 2 (by decide) (htg _ tm_86) (fun _ h9 => h9) rfl d_T_count_34 ?_
        refine lv_sipush (v := (455 : Int32)) hx hb d_T_count_37 (by decide) ?_
        refine lv_icmp_lt (tgt := 44) hx hb d_T_count_40 (by decide) (fun c_6 => ?_) (fun c_6 => ?_)
        · rw [if_pos c_6] at h
          refine lv_aload_n hx hb d_T_count_44 rfl (lv_at hl 1 rfl) ?_
          refine lv_iload_n hx hb d_T_count_45 rfl (lv_at hl 0 rfl) ?_
          rcases e_9 : f_T_insert sz ro ra rb rc rx ry rz rs v_2 with _ | ⟨ro_7, sz_8⟩
          · rw [e_9] at h; cases h
          rw [e_9, Option.bind_some] at h
          try dsimp only at h
          refine va_callv (va_runV (As := [.int v_2]) (rest := []) ⟨hx, hb, hml, hown, htg⟩ (c_T_insert l D ct A ([] ++ wt)  h0 h2 h1 sz fc_ fn_ ro ra rb rc rx ry rz rs v_2   _ e_9) (cwV 1 htg (giV tm_352 tm_354 tm_17 tm_33 g_T_insert) rfl rfl rfl (by decide +kernel) ⟨Nat.le_of_ble_eq_true rfl, Nat.le_of_ble_eq_true rfl⟩) (preVM hA hS hP hD hKK (va_recv hK hP (ci := 2) (q0 := 0) rfl rfl)) rfl rfl hl.1 rfl (lv_room (Nat.le_of_ble_eq_true rfl)) d_T_count_46 ⟨Nat.le_of_ble_eq_true rfl, Nat.le_of_ble_eq_true rfl⟩) hS (fun q _ h9 => h9) (fun q h9 => h9) (fun u9 t9 H locs ht9 hvm9 hw9 hB9 hz9 hk9 hS => ?_)
          rw [hw9] at hB9
          obtain ⟨hP, hD⟩ := hB9
          rw [ht9] at hP
          have hP : va_P D classes ([(h0, .inr (2, [.ref h2, .ref h1, .int sz_8, .int fc_, .int fn_])), (h1, .inl (ct.1, 3185, .inr (.inl ro_7))), (h2, .inr (1, [.long ra, .long rb, .long rc, .long rx, .long ry, .long rz, .int rs]))] ++ wt) H := hP
          have hD : va_D A ([(h0, .inr (2, [.ref h2, .ref h1, .int sz_8, .int fc_, .int fn_])), (h1, .inl (ct.1, 3185, .inr (.inl ro_7))), (h2, .inr (1, [.long ra, .long rb, .long rc, .long rx, .long ry, .long rz, .int rs]))] ++ wt) := hD
          refine lv_aload_n hx hb d_T_count_49 rfl (lv_at hl 1 rfl) ?_
          refine va_get (D := D) (ci := 2) (v := .ref h1) (C := R_Table) (T := F_Table) (N := 5) hx hb htg i_Table hown hK hP 0 rfl rfl 1 (by decide) (htg _ tm_85) (fun _ h9 => h9) rfl d_T_count_50 ?_
          refine lv_iload_n hx hb d_T_count_53 rfl (lv_at hl 0 rfl) ?_
          refine lv_bipush (v := (7 : Int32)) hx hb d_T_count_54 (by decide) ?_
          refine lv_imul hx hb d_T_count_56 ?_
          refine lv_bipush (v := (6 : Int32)) hx hb d_T_count_57 (by decide) ?_
          refine lv_iadd hx hb d_T_count_59 ?_
          refine lv_dup2_11 hx hb d_T_count_60 rfl rfl ?_
          by_cases b_10 : inb ((v_2 * (7 : Int32)) + (6 : Int32)) 3185 = true
          rotate_left
          · rw [if_neg b_10] at h; cases h
          rw [if_pos b_10] at h
          refine va_lald hx hb hK hP 1 0 rfl rfl (inb_in b_10) d_T_count_61 ?_
          refine lv_lconst (v := (1 : Int64)) hx hb d_T_count_62 (by decide) ?_
          refine lv_ladd hx hb d_T_count_63 ?_
          by_cases b_11 : inb ((v_2 * (7 : Int32)) + (6 : Int32)) 3185 = true
          rotate_left
          · rw [if_neg b_11] at h; cases h
          rw [if_pos b_11] at h
          refine va_last hx hb hK hP hD hS 1 0 rfl rfl (inb_in b_11) d_T_count_64 (fun H locs hP hD hS => ?_)
          have hP : va_P D classes ([(h0, .inr (2, [.ref h2, .ref h1, .int sz_8, .int fc_, .int fn_])), (h1, .inl (ct.1, 3185, .inr (.inl (vp_updL ro_7 ((v_2 * (7 : Int32)) + (6 : Int32)).toNatClampNeg ((ro_7 ((v_2 * (7 : Int32)) + (6 : Int32)).toNatClampNeg) + (1 : Int64)))))), (h2, .inr (1, [.long ra, .long rb, .long rc, .long rx, .long ry, .long rz, .int rs]))] ++ wt) H := hP
          have hD : va_D A ([(h0, .inr (2, [.ref h2, .ref h1, .int sz_8, .int fc_, .int fn_])), (h1, .inl (ct.1, 3185, .inr (.inl (vp_updL ro_7 ((v_2 * (7 : Int32)) + (6 : Int32)).toNatClampNeg ((ro_7 ((v_2 * (7 : Int32)) + (6 : Int32)).toNatClampNeg) + (1 : Int64)))))), (h2, .inr (1, [.long ra, .long rb, .long rc, .long rx, .long ry, .long rz, .int rs]))] ++ wt) := hD
          exact W.vret hx hb hr (fun t ht hW => ⟨⟨(vp_updL ro_7 ((v_2 * (7 : Int32)) + (6 : Int32)).toNatClampNeg ((ro_7 ((v_2 * (7 : Int32)) + (6 : Int32)).toNatClampNeg) + (1 : Int64)), sz_8), rfl, (Option.some.inj h), by rw [ht]; exact hP, hD⟩, hS.F ht⟩) hS.2.2 d_T_count_65
        · rw [if_neg c_6] at h
          exact W.vret hx hb hr (fun t ht hW => ⟨⟨(ro, sz), rfl, (Option.some.inj h), by rw [ht]; exact hP, hD⟩, hS.F ht⟩) hS.2.2 d_T_count_43
      · rw [if_neg c_5] at h
        refine lv_aload_n hx hb d_T_count_25 rfl (lv_at hl 1 rfl) ?_
        refine lv_iload_n hx hb d_T_count_26 rfl (lv_at hl 0 rfl) ?_
        rcases e_13 : f_T_ordR sz ro ra rb rc rx ry rz rs v_2 with _ | v_14
        · rw [e_13] at h; cases h
        rw [e_13, Option.bind_some] at h
        try dsimp only at h
        refine vp_callSi (va_Run.run (va_runV (As := [.int v_2]) (rest := []) ⟨hx, hb, hml, hown, htg⟩ (c_T_ordR l D ct ([(h0, .inr (2, [.ref h2, .ref h1, .int sz, .int fc_, .int fn_])), (h1, .inl (ct.1, 3185, .inr (.inl ro))), (h2, .inr (1, [.long ra, .long rb, .long rc, .long rx, .long ry, .long rz, .int rs]))] ++ wt) 0 1 2 h0 h2 h1 sz fc_ fn_ ro ra rb rc rx ry rz rs v_2 rfl rfl rfl  _ e_13) (cwV 1 htg (giV tm_339 tm_341 tm_16 tm_33 g_T_ordR) rfl rfl rfl (by decide +kernel) ⟨Nat.le_of_ble_eq_true rfl, Nat.le_of_ble_eq_true rfl⟩) (preV hP hKK (va_recv hK hP (ci := 2) (q0 := 0) rfl rfl)) rfl rfl hl.1 rfl (lv_room (Nat.le_of_ble_eq_true rfl)) d_T_count_27 ⟨Nat.le_of_ble_eq_true rfl, Nat.le_of_ble_eq_true rfl⟩)) (fun r9 hr9 => ?_)
        have hr9 := hr9.symm
        subst hr9
        refine lv_if_eq (tgt := 49) hx hb d_T_count_30 (by decide) (fun c_15 => ?_) (fun c_15 => ?_)
        · rw [if_pos c_15] at h
          refine lv_aload_n hx hb d_T_count_49 rfl (lv_at hl 1 rfl) ?_
          refine va_get (D := D) (ci := 2) (v := .ref h1) (C := R_Table) (T := F_Table) (N := 5) hx hb htg i_Table hown hK hP 0 rfl rfl 1 (by decide) (htg _ tm_85) (fun _ h9 => h9) rfl d_T_count_50 ?_
          refine lv_iload_n hx hb d_T_count_53 rfl (lv_at hl 0 rfl) ?_
          refine lv_bipush (v := (7 : Int32)) hx hb d_T_count_54 (by decide) ?_
          refine lv_imul hx hb d_T_count_56 ?_
          refine lv_bipush (v := (6 : Int32)) hx hb d_T_count_57 (by decide) ?_
          refine lv_iadd hx hb d_T_count_59 ?_
          refine lv_dup2_11 hx hb d_T_count_60 rfl rfl ?_
          by_cases b_16 : inb ((v_2 * (7 : Int32)) + (6 : Int32)) 3185 = true
          rotate_left
          · rw [if_neg b_16] at h; cases h
          rw [if_pos b_16] at h
          refine va_lald hx hb hK hP 1 0 rfl rfl (inb_in b_16) d_T_count_61 ?_
          refine lv_lconst (v := (1 : Int64)) hx hb d_T_count_62 (by decide) ?_
          refine lv_ladd hx hb d_T_count_63 ?_
          by_cases b_17 : inb ((v_2 * (7 : Int32)) + (6 : Int32)) 3185 = true
          rotate_left
          · rw [if_neg b_17] at h; cases h
          rw [if_pos b_17] at h
          refine va_last hx hb hK hP hD hS 1 0 rfl rfl (inb_in b_17) d_T_count_64 (fun H locs hP hD hS => ?_)
          have hP : va_P D classes ([(h0, .inr (2, [.ref h2, .ref h1, .int sz, .int fc_, .int fn_])), (h1, .inl (ct.1, 3185, .inr (.inl (vp_updL ro ((v_2 * (7 : Int32)) + (6 : Int32)).toNatClampNeg ((ro ((v_2 * (7 : Int32)) + (6 : Int32)).toNatClampNeg) + (1 : Int64)))))), (h2, .inr (1, [.long ra, .long rb, .long rc, .long rx, .long ry, .long rz, .int rs]))] ++ wt) H := hP
          have hD : va_D A ([(h0, .inr (2, [.ref h2, .ref h1, .int sz, .int fc_, .int fn_])), (h1, .inl (ct.1, 3185, .inr (.inl (vp_updL ro ((v_2 * (7 : Int32)) + (6 : Int32)).toNatClampNeg ((ro ((v_2 * (7 : Int32)) + (6 : Int32)).toNatClampNeg) + (1 : Int64)))))), (h2, .inr (1, [.long ra, .long rb, .long rc, .long rx, .long ry, .long rz, .int rs]))] ++ wt) := hD
          exact W.vret hx hb hr (fun t ht hW => ⟨⟨(vp_updL ro ((v_2 * (7 : Int32)) + (6 : Int32)).toNatClampNeg ((ro ((v_2 * (7 : Int32)) + (6 : Int32)).toNatClampNeg) + (1 : Int64)), sz), rfl, (Option.some.inj h), by rw [ht]; exact hP, hD⟩, hS.F ht⟩) hS.2.2 d_T_count_65
        · rw [if_neg c_15] at h
          refine lv_aload_n hx hb d_T_count_33 rfl (lv_at hl 1 rfl) ?_
          refine va_get (D := D) (ci := 2) (v := .int sz) (C := R_Table) (T := F_Table) (N := 5) hx hb htg i_Table hown hK hP 0 rfl rfl 2 (by decide) (htg _ tm_86) (fun _ h9 => h9) rfl d_T_count_34 ?_
          refine lv_sipush (v := (455 : Int32)) hx hb d_T_count_37 (by decide) ?_
          refine lv_icmp_lt (tgt := 44) hx hb d_T_count_40 (by decide) (fun c_18 => ?_) (fun c_18 => ?_)
          · rw [if_pos c_18] at h
            refine lv_aload_n hx hb d_T_count_44 rfl (lv_at hl 1 rfl) ?_
            refine lv_iload_n hx hb d_T_count_45 rfl (lv_at hl 0 rfl) ?_
            rcases e_21 : f_T_insert sz ro ra rb rc rx ry rz rs v_2 with _ | ⟨ro_19, sz_20⟩
            · rw [e_21] at h; cases h
            rw [e_21, Option.bind_some] at h
            try dsimp only at h
            refine va_callv (va_runV (As := [.int v_2]) (rest := []) ⟨hx, hb, hml, hown, htg⟩ (c_T_insert l D ct A ([] ++ wt)  h0 h2 h1 sz fc_ fn_ ro ra rb rc rx ry rz rs v_2   _ e_21) (cwV 1 htg (giV tm_352 tm_354 tm_17 tm_33 g_T_insert) rfl rfl rfl (by decide +kernel) ⟨Nat.le_of_ble_eq_true rfl, Nat.le_of_ble_eq_true rfl⟩) (preVM hA hS hP hD hKK (va_recv hK hP (ci := 2) (q0 := 0) rfl rfl)) rfl rfl hl.1 rfl (lv_room (Nat.le_of_ble_eq_true rfl)) d_T_count_46 ⟨Nat.le_of_ble_eq_true rfl, Nat.le_of_ble_eq_true rfl⟩) hS (fun q _ h9 => h9) (fun q h9 => h9) (fun u9 t9 H locs ht9 hvm9 hw9 hB9 hz9 hk9 hS => ?_)
            rw [hw9] at hB9
            obtain ⟨hP, hD⟩ := hB9
            rw [ht9] at hP
            have hP : va_P D classes ([(h0, .inr (2, [.ref h2, .ref h1, .int sz_20, .int fc_, .int fn_])), (h1, .inl (ct.1, 3185, .inr (.inl ro_19))), (h2, .inr (1, [.long ra, .long rb, .long rc, .long rx, .long ry, .long rz, .int rs]))] ++ wt) H := hP
            have hD : va_D A ([(h0, .inr (2, [.ref h2, .ref h1, .int sz_20, .int fc_, .int fn_])), (h1, .inl (ct.1, 3185, .inr (.inl ro_19))), (h2, .inr (1, [.long ra, .long rb, .long rc, .long rx, .long ry, .long rz, .int rs]))] ++ wt) := hD
            refine lv_aload_n hx hb d_T_count_49 rfl (lv_at hl 1 rfl) ?_
            refine va_get (D := D) (ci := 2) (v := .ref h1) (C := R_Table) (T := F_Table) (N := 5) hx hb htg i_Table hown hK hP 0 rfl rfl 1 (by decide) (htg _ tm_85) (fun _ h9 => h9) rfl d_T_count_50 ?_
            refine lv_iload_n hx hb d_T_count_53 rfl (lv_at hl 0 rfl) ?_
            refine lv_bipush (v := (7 : Int32)) hx hb d_T_count_54 (by decide) ?_
            refine lv_imul hx hb d_T_count_56 ?_
            refine lv_bipush (v := (6 : Int32)) hx hb d_T_count_57 (by decide) ?_
            refine lv_iadd hx hb d_T_count_59 ?_
            refine lv_dup2_11 hx hb d_T_count_60 rfl rfl ?_
            by_cases b_22 : inb ((v_2 * (7 : Int32)) + (6 : Int32)) 3185 = true
            rotate_left
            · rw [if_neg b_22] at h; cases h
            rw [if_pos b_22] at h
            refine va_lald hx hb hK hP 1 0 rfl rfl (inb_in b_22) d_T_count_61 ?_
            refine lv_lconst (v := (1 : Int64)) hx hb d_T_count_62 (by decide) ?_
            refine lv_ladd hx hb d_T_count_63 ?_
            by_cases b_23 : inb ((v_2 * (7 : Int32)) + (6 : Int32)) 3185 = true
            rotate_left
            · rw [if_neg b_23] at h; cases h
            rw [if_pos b_23] at h
            refine va_last hx hb hK hP hD hS 1 0 rfl rfl (inb_in b_23) d_T_count_64 (fun H locs hP hD hS => ?_)
            have hP : va_P D classes ([(h0, .inr (2, [.ref h2, .ref h1, .int sz_20, .int fc_, .int fn_])), (h1, .inl (ct.1, 3185, .inr (.inl (vp_updL ro_19 ((v_2 * (7 : Int32)) + (6 : Int32)).toNatClampNeg ((ro_19 ((v_2 * (7 : Int32)) + (6 : Int32)).toNatClampNeg) + (1 : Int64)))))), (h2, .inr (1, [.long ra, .long rb, .long rc, .long rx, .long ry, .long rz, .int rs]))] ++ wt) H := hP
            have hD : va_D A ([(h0, .inr (2, [.ref h2, .ref h1, .int sz_20, .int fc_, .int fn_])), (h1, .inl (ct.1, 3185, .inr (.inl (vp_updL ro_19 ((v_2 * (7 : Int32)) + (6 : Int32)).toNatClampNeg ((ro_19 ((v_2 * (7 : Int32)) + (6 : Int32)).toNatClampNeg) + (1 : Int64)))))), (h2, .inr (1, [.long ra, .long rb, .long rc, .long rx, .long ry, .long rz, .int rs]))] ++ wt) := hD
            exact W.vret hx hb hr (fun t ht hW => ⟨⟨(vp_updL ro_19 ((v_2 * (7 : Int32)) + (6 : Int32)).toNatClampNeg ((ro_19 ((v_2 * (7 : Int32)) + (6 : Int32)).toNatClampNeg) + (1 : Int64)), sz_20), rfl, (Option.some.inj h), by rw [ht]; exact hP, hD⟩, hS.F ht⟩) hS.2.2 d_T_count_65
          · rw [if_neg c_18] at h
            exact W.vret hx hb hr (fun t ht hW => ⟨⟨(ro, sz), rfl, (Option.some.inj h), by rw [ht]; exact hP, hD⟩, hS.F ht⟩) hS.2.2 d_T_count_43
    · rw [if_neg c_4] at h
      exact W.vret hx hb hr (fun t ht hW => ⟨⟨(ro, sz), rfl, (Option.some.inj h), by rw [ht]; exact hP, hD⟩, hS.F ht⟩) hS.2.2 d_T_count_16
-- CellBench$MultipleTable reduceEdges (LCellBench$Products;IIIIII)V
def f_T_edges (ra : Int64) (rb : Int64) (rc : Int64) (rx : Int64) (ry : Int64) (rz : Int64) (rs : Int32) (fa : Int64) (fb : Int64) (fc : Int64) (fd : Int64) (fe : Int64) (ff : Int64) (ep : Int32) (eq : Int32) (er : Int32) (es : Int32) (et : Int32) (eu : Int32) : Option (Int64 × Int64 × Int64 × Int64 × Int64 × Int64 × Int32) :=
    bnd (f_R_setSq ra rb rc rx ry rz rs (f_P_prod fa fb fc fd fe ff (ep.toInt64) (0 : Int64) (0 : Int64) (ep.toInt64) (0 : Int64) (0 : Int64)) (f_P_prod fa fb fc fd fe ff (eq.toInt64) (er.toInt64) (0 : Int64) (eq.toInt64) (er.toInt64) (0 : Int64)) (f_P_prod fa fb fc fd fe ff (es.toInt64) (et.toInt64) (eu.toInt64) (es.toInt64) (et.toInt64) (eu.toInt64))) (fun z_27 => (bnd (f_R_setMx z_27.1 z_27.2.1 z_27.2.2.1 z_27.2.2.2.1 z_27.2.2.2.2.1 z_27.2.2.2.2.2.1 z_27.2.2.2.2.2.2 (f_P_prod fa fb fc fd fe ff (eq.toInt64) (er.toInt64) (0 : Int64) (es.toInt64) (et.toInt64) (eu.toInt64)) (f_P_prod fa fb fc fd fe ff (ep.toInt64) (0 : Int64) (0 : Int64) (es.toInt64) (et.toInt64) (eu.toInt64)) (f_P_prod fa fb fc fd fe ff (ep.toInt64) (0 : Int64) (0 : Int64) (eq.toInt64) (er.toInt64) (0 : Int64))) (fun z_26 => (Option.bind (f_R_run z_26.1 z_26.2.1 z_26.2.2.1 z_26.2.2.2.1 z_26.2.2.2.2.1 z_26.2.2.2.2.2.1 z_26.2.2.2.2.2.2) (fun z_25 => (some (z_25.1, z_25.2.1, z_25.2.2.1, z_25.2.2.2.1, z_25.2.2.2.2.1, z_25.2.2.2.2.2.1, z_25.2.2.2.2.2.2)))))))
def w_T_edges : List Cond := .code y_T_edges b_T_edges 8 none :: GW
abbrev rm_T_edges : Room := { frames := 3, cells := 0, slots := 0, locals := 66 }
theorem g_T_edges : GoodIn GW w_T_edges := gi tm_326
set_option maxHeartbeats 4000000 in
set_option maxRecDepth 100000 in
theorem c_T_edges (l : Launch) (D : va_G) (ct : CT) (A : Nat → Prop) (wt : va_W) (k2 : Nat) (h0 : Nat) (h2 : Nat) (h1 : Nat) (sz : Int32) (fc_ : Int32) (fn_ : Int32) (ra : Int64) (rb : Int64) (rc : Int64) (rx : Int64) (ry : Int64) (rz : Int64) (rs : Int32) (h3 : Nat) (fa : Int64) (fb : Int64) (fc : Int64) (fd : Int64) (fe : Int64) (ff : Int64) (ep : Int32) (eq : Int32) (er : Int32) (es : Int32) (et : Int32) (eu : Int32) (hk2 : wt[k2]? = some (h3, .inr (0, [.long fa, .long fb, .long fc, .long fd, .long fe, .long ff])))  (r0 : Int64 × Int64 × Int64 × Int64 × Int64 × Int64 × Int32) (h : f_T_edges ra rb rc rx ry rz rs fa fb fc fd fe ff ep eq er es et eu = some r0) : Met l y_T_edges w_T_edges rm_T_edges (va_Pc [.ref h0, .ref h3, .int ep, .int eq, .int er, .int es, .int et, .int eu] (PreM D ct A ([(h0, .inr (2, [.ref h2, .ref h1, .int sz, .int fc_, .int fn_])), (h2, .inr (1, [.long ra, .long rb, .long rc, .long rx, .long ry, .long rz, .int rs]))] ++ wt))) (va_Qv (fun u => u = r0) (fun (u : Int64 × Int64 × Int64 × Int64 × Int64 × Int64 × Int32) t => match u with | (ra', rb', rc', rx', ry', rz', rs') => va_P D classes ([(h0, .inr (2, [.ref h2, .ref h1, .int sz, .int fc_, .int fn_])), (h2, .inr (1, [.long ra', .long rb', .long rc', .long rx', .long ry', .long rz', .int rs']))] ++ wt) t.heap ∧ va_D A ([(h0, .inr (2, [.ref h2, .ref h1, .int sz, .int fc_, .int fn_])), (h2, .inr (1, [.long ra', .long rb', .long rc', .long rx', .long ry', .long rz', .int rs']))] ++ wt)) A) 0 0 A := by
  refine Met.ofW (cc := b_T_edges) (maxL := 8) (ret := none) (by decide) rfl ?_
  intro p e s m args below meth c s₁ B hml hv
  obtain ⟨rfl, hA, hP, hD, hKK⟩ := hv
  have hx := B.exec
  have hb := B.bytes
  have hr := B.returns
  have htg := ht_tl (atoms_spec (ws := w_T_edges) B.pre)
  have hown : s.vm.findClass R_Table = some m.cls := findClass_of_methodNamed B.named
  have hlocks := B.notSynchronized
  have hK := hKK.1
  have hN := hKK.2.1
  have hO := hKK.2.2
  have hS : va_S A s.heap s.heap [] := va_S.rf
  have hl := lv_entry ([.ref h0, .ref h3, .int ep, .int eq, .int er, .int es, .int et, .int eu]) (n := 8) (Nat.le_of_ble_eq_true rfl)
  rw [lg_entry_eq]
  generalize (lg_sl ([.ref h0, .ref h3, .int ep, .int eq, .int er, .int es, .int et, .int eu]) ++ List.replicate (8 - (lg_sl ([.ref h0, .ref h3, .int ep, .int eq, .int er, .int es, .int et, .int eu])).length) Slot.unset).toArray = ls at hl ⊢
  have hl : lv_has ls 8 [(0, .ref h0), (1, .ref h3), (2, .int ep), (3, .int eq), (4, .int er), (5, .int es), (6, .int et), (7, .int eu)] := hl
  unfold f_T_edges at h
  refine lv_aload_n hx hb d_T_edges_0 rfl (lv_at hl 0 rfl) ?_
  refine va_get (D := D) (ci := 2) (v := .ref h2) (C := R_Table) (T := F_Table) (N := 5) hx hb htg i_Table hown hK hP 0 rfl rfl 0 (by decide) (htg _ tm_84) (fun _ h9 => h9) rfl d_T_edges_1 ?_
  refine lv_aload_n hx hb d_T_edges_4 rfl (lv_at hl 1 rfl) ?_
  refine lv_iload_n hx hb d_T_edges_5 rfl (lv_at hl 2 rfl) ?_
  refine lv_i2l hx hb d_T_edges_6 rfl ?_
  refine lv_lconst (v := (0 : Int64)) hx hb d_T_edges_7 (by decide) ?_
  refine lv_lconst (v := (0 : Int64)) hx hb d_T_edges_8 (by decide) ?_
  refine lv_iload_n hx hb d_T_edges_9 rfl (lv_at hl 2 rfl) ?_
  refine lv_i2l hx hb d_T_edges_10 rfl ?_
  refine lv_lconst (v := (0 : Int64)) hx hb d_T_edges_11 (by decide) ?_
  refine lv_lconst (v := (0 : Int64)) hx hb d_T_edges_12 (by decide) ?_
  refine vp_callSl (va_Run.run (va_runV (As := [.long (ep.toInt64), .long (0 : Int64), .long (0 : Int64), .long (ep.toInt64), .long (0 : Int64), .long (0 : Int64)]) (rest := [.ref h2]) ⟨hx, hb, hml, hown, htg⟩ (c_P_prod l D ct ([(h0, .inr (2, [.ref h2, .ref h1, .int sz, .int fc_, .int fn_])), (h2, .inr (1, [.long ra, .long rb, .long rc, .long rx, .long ry, .long rz, .int rs]))] ++ wt) (k2 + 2) h3 fa fb fc fd fe ff (ep.toInt64) (0 : Int64) (0 : Int64) (ep.toInt64) (0 : Int64) (0 : Int64) hk2  _ rfl) (cwV 6 htg (giV tm_327 tm_234 tm_235 tm_35 g_P_prod) rfl rfl rfl (by decide +kernel) ⟨Nat.le_of_ble_eq_true rfl, Nat.le_of_ble_eq_true rfl⟩) (preV hP hKK (va_recv hK hP (ci := 0) (q0 := (k2 + 2)) rfl hk2)) rfl rfl hl.1 rfl (lv_room (Nat.le_of_ble_eq_true rfl)) d_T_edges_13 ⟨Nat.le_of_ble_eq_true rfl, Nat.le_of_ble_eq_true rfl⟩)) (fun r9 hr9 => ?_)
  have hr9 := hr9.symm
  subst hr9
  refine lv_aload_n hx hb d_T_edges_16 rfl (lv_at hl 1 rfl) ?_
  refine lv_iload_n hx hb d_T_edges_17 rfl (lv_at hl 3 rfl) ?_
  refine lv_i2l hx hb d_T_edges_18 rfl ?_
  refine lv_iload hx hb d_T_edges_19 (lv_at hl 4 rfl) ?_
  refine lv_i2l hx hb d_T_edges_21 rfl ?_
  refine lv_lconst (v := (0 : Int64)) hx hb d_T_edges_22 (by decide) ?_
  refine lv_iload_n hx hb d_T_edges_23 rfl (lv_at hl 3 rfl) ?_
  refine lv_i2l hx hb d_T_edges_24 rfl ?_
  refine lv_iload hx hb d_T_edges_25 (lv_at hl 4 rfl) ?_
  refine lv_i2l hx hb d_T_edges_27 rfl ?_
  refine lv_lconst (v := (0 : Int64)) hx hb d_T_edges_28 (by decide) ?_
  refine vp_callSl (va_Run.run (va_runV (As := [.long (eq.toInt64), .long (er.toInt64), .long (0 : Int64), .long (eq.toInt64), .long (er.toInt64), .long (0 : Int64)]) (rest := [.long (f_P_prod fa fb fc fd fe ff (ep.toInt64) (0 : Int64) (0 : Int64) (ep.toInt64) (0 : Int64) (0 : Int64)), .ref h2]) ⟨hx, hb, hml, hown, htg⟩ (c_P_prod l D ct ([(h0, .inr (2, [.ref h2, .ref h1, .int sz, .int fc_, .int fn_])), (h2, .inr (1, [.long ra, .long rb, .long rc, .long rx, .long ry, .long rz, .int rs]))] ++ wt) (k2 + 2) h3 fa fb fc fd fe ff (eq.toInt64) (er.toInt64) (0 : Int64) (eq.toInt64) (er.toInt64) (0 : Int64) hk2  _ rfl) (cwV 6 htg (giV tm_327 tm_234 tm_235 tm_35 g_P_prod) rfl rfl rfl (by decide +kernel) ⟨Nat.le_of_ble_eq_true rfl, Nat.le_of_ble_eq_true rfl⟩) (preV hP hKK (va_recv hK hP (ci := 0) (q0 := (k2 + 2)) rfl hk2)) rfl rfl hl.1 rfl (lv_room (Nat.le_of_ble_eq_true rfl)) d_T_edges_29 ⟨Nat.le_of_ble_eq_true rfl, Nat.le_of_ble_eq_true rfl⟩)) (fun r9 hr9 => ?_)
  have hr9 := hr9.symm
  subst hr9
  refine lv_aload_n hx hb d_T_edges_32 rfl (lv_at hl 1 rfl) ?_
  refine lv_iload hx hb d_T_edges_33 (lv_at hl 5 rfl) ?_
  refine lv_i2l hx hb d_T_edges_35 rfl ?_
  refine lv_iload hx hb d_T_edges_36 (lv_at hl 6 rfl) ?_
  refine lv_i2l hx hb d_T_edges_38 rfl ?_
  refine lv_iload hx hb d_T_edges_39 (lv_at hl 7 rfl) ?_
  refine lv_i2l hx hb d_T_edges_41 rfl ?_
  refine lv_iload hx hb d_T_edges_42 (lv_at hl 5 rfl) ?_
  refine lv_i2l hx hb d_T_edges_44 rfl ?_
  refine lv_iload hx hb d_T_edges_45 (lv_at hl 6 rfl) ?_
  refine lv_i2l hx hb d_T_edges_47 rfl ?_
  refine lv_iload hx hb d_T_edges_48 (lv_at hl 7 rfl) ?_
  refine lv_i2l hx hb d_T_edges_50 rfl ?_
  refine vp_callSl (va_Run.run (va_runV (As := [.long (es.toInt64), .long (et.toInt64), .long (eu.toInt64), .long (es.toInt64), .long (et.toInt64), .long (eu.toInt64)]) (rest := [.long (f_P_prod fa fb fc fd fe ff (eq.toInt64) (er.toInt64) (0 : Int64) (eq.toInt64) (er.toInt64) (0 : Int64)), .long (f_P_prod fa fb fc fd fe ff (ep.toInt64) (0 : Int64) (0 : Int64) (ep.toInt64) (0 : Int64) (0 : Int64)), .ref h2]) ⟨hx, hb, hml, hown, htg⟩ (c_P_prod l D ct ([(h0, .inr (2, [.ref h2, .ref h1, .int sz, .int fc_, .int fn_])), (h2, .inr (1, [.long ra, .long rb, .long rc, .long rx, .long ry, .long rz, .int rs]))] ++ wt) (k2 + 2) h3 fa fb fc fd fe ff (es.toInt64) (et.toInt64) (eu.toInt64) (es.toInt64) (et.toInt64) (eu.toInt64) hk2  _ rfl) (cwV 6 htg (giV tm_327 tm_234 tm_235 tm_35 g_P_prod) rfl rfl rfl (by decide +kernel) ⟨Nat.le_of_ble_eq_true rfl, Nat.le_of_ble_eq_true rfl⟩) (preV hP hKK (va_recv hK hP (ci := 0) (q0 := (k2 + 2)) rfl hk2)) rfl rfl hl.1 rfl (lv_room (Nat.le_of_ble_eq_true rfl)) d_T_edges_51 ⟨Nat.le_of_ble_eq_true rfl, Nat.le_of_ble_eq_true rfl⟩)) (fun r9 hr9 => ?_)
  have hr9 := hr9.symm
  subst hr9
  have hP := va_P.part (cx := [(h2, .inr (1, [.long ra, .long rb, .long rc, .long rx, .long ry, .long rz, .int rs])), (h0, .inr (2, [.ref h2, .ref h1, .int sz, .int fc_, .int fn_]))]) hP [1, 0] rfl
  have hD := va_D.part (cx := [(h2, .inr (1, [.long ra, .long rb, .long rc, .long rx, .long ry, .long rz, .int rs])), (h0, .inr (2, [.ref h2, .ref h1, .int sz, .int fc_, .int fn_]))]) hD [1, 0] (by decide) rfl
  obtain ⟨⟨ra_1, rb_2, rc_3, rx_4, ry_5, rz_6, rs_7⟩, e_8⟩ : ∃ v, f_R_setSq ra rb rc rx ry rz rs (f_P_prod fa fb fc fd fe ff (ep.toInt64) (0 : Int64) (0 : Int64) (ep.toInt64) (0 : Int64) (0 : Int64)) (f_P_prod fa fb fc fd fe ff (eq.toInt64) (er.toInt64) (0 : Int64) (eq.toInt64) (er.toInt64) (0 : Int64)) (f_P_prod fa fb fc fd fe ff (es.toInt64) (et.toInt64) (eu.toInt64) (es.toInt64) (et.toInt64) (eu.toInt64)) = v := ⟨_, rfl⟩
  rw [e_8, bnd_eq] at h
  try dsimp only at h
  refine va_callv (va_runV (As := [.long (f_P_prod fa fb fc fd fe ff (ep.toInt64) (0 : Int64) (0 : Int64) (ep.toInt64) (0 : Int64) (0 : Int64)), .long (f_P_prod fa fb fc fd fe ff (eq.toInt64) (er.toInt64) (0 : Int64) (eq.toInt64) (er.toInt64) (0 : Int64)), .long (f_P_prod fa fb fc fd fe ff (es.toInt64) (et.toInt64) (eu.toInt64) (es.toInt64) (et.toInt64) (eu.toInt64))]) (rest := []) ⟨hx, hb, hml, hown, htg⟩ (c_R_setSq l D ct A ([(h0, .inr (2, [.ref h2, .ref h1, .int sz, .int fc_, .int fn_]))] ++ wt)  h2 ra rb rc rx ry rz rs (f_P_prod fa fb fc fd fe ff (ep.toInt64) (0 : Int64) (0 : Int64) (ep.toInt64) (0 : Int64) (0 : Int64)) (f_P_prod fa fb fc fd fe ff (eq.toInt64) (er.toInt64) (0 : Int64) (eq.toInt64) (er.toInt64) (0 : Int64)) (f_P_prod fa fb fc fd fe ff (es.toInt64) (et.toInt64) (eu.toInt64) (es.toInt64) (et.toInt64) (eu.toInt64))   _ e_8) (cwV 3 htg (giV tm_328 tm_171 tm_172 tm_32 g_R_setSq) rfl rfl rfl (by decide +kernel) ⟨Nat.le_of_ble_eq_true rfl, Nat.le_of_ble_eq_true rfl⟩) (preVM hA hS hP hD hKK (va_recv hK hP (ci := 1) (q0 := 0) rfl rfl)) rfl rfl hl.1 rfl (lv_room (Nat.le_of_ble_eq_true rfl)) d_T_edges_54 ⟨Nat.le_of_ble_eq_true rfl, Nat.le_of_ble_eq_true rfl⟩) hS (fun q _ h9 => h9) (fun q h9 => h9) (fun u9 t9 H locs ht9 hvm9 hw9 hB9 hz9 hk9 hS => ?_)
  rw [hw9] at hB9
  obtain ⟨hP, hD⟩ := hB9
  rw [ht9] at hP
  have hP : va_P D classes ([(h2, .inr (1, [.long ra_1, .long rb_2, .long rc_3, .long rx_4, .long ry_5, .long rz_6, .int rs_7])), (h0, .inr (2, [.ref h2, .ref h1, .int sz, .int fc_, .int fn_]))] ++ wt) H := hP
  have hD : va_D A ([(h2, .inr (1, [.long ra_1, .long rb_2, .long rc_3, .long rx_4, .long ry_5, .long rz_6, .int rs_7])), (h0, .inr (2, [.ref h2, .ref h1, .int sz, .int fc_, .int fn_]))] ++ wt) := hD
  refine lv_aload_n hx hb d_T_edges_57 rfl (lv_at hl 0 rfl) ?_
  refine va_get (D := D) (ci := 2) (v := .ref h2) (C := R_Table) (T := F_Table) (N := 5) hx hb htg i_Table hown hK hP 1 rfl rfl 0 (by decide) (htg _ tm_84) (fun _ h9 => h9) rfl d_T_edges_58 ?_
  refine lv_aload_n hx hb d_T_edges_61 rfl (lv_at hl 1 rfl) ?_
  refine lv_iload_n hx hb d_T_edges_62 rfl (lv_at hl 3 rfl) ?_
  refine lv_i2l hx hb d_T_edges_63 rfl ?_
  refine lv_iload hx hb d_T_edges_64 (lv_at hl 4 rfl) ?_
  refine lv_i2l hx hb d_T_edges_66 rfl ?_
  refine lv_lconst (v := (0 : Int64)) hx hb d_T_edges_67 (by decide) ?_
  refine lv_iload hx hb d_T_edges_68 (lv_at hl 5 rfl) ?_
  refine lv_i2l hx hb d_T_edges_70 rfl ?_
  refine lv_iload hx hb d_T_edges_71 (lv_at hl 6 rfl) ?_
  refine lv_i2l hx hb d_T_edges_73 rfl ?_
  refine lv_iload hx hb d_T_edges_74 (lv_at hl 7 rfl) ?_
  refine lv_i2l hx hb d_T_edges_76 rfl ?_
  refine vp_callSl (va_Run.run (va_runV (As := [.long (eq.toInt64), .long (er.toInt64), .long (0 : Int64), .long (es.toInt64), .long (et.toInt64), .long (eu.toInt64)]) (rest := [.ref h2]) ⟨hx, hb, hml, hown, htg⟩ (c_P_prod l D ct ([(h2, .inr (1, [.long ra_1, .long rb_2, .long rc_3, .long rx_4, .long ry_5, .long rz_6, .int rs_7])), (h0, .inr (2, [.ref h2, .ref h1, .int sz, .int fc_, .int fn_]))] ++ wt) (k2 + 2) h3 fa fb fc fd fe ff (eq.toInt64) (er.toInt64) (0 : Int64) (es.toInt64) (et.toInt64) (eu.toInt64) hk2  _ rfl) (cwV 6 htg (giV tm_327 tm_234 tm_235 tm_35 g_P_prod) rfl rfl rfl (by decide +kernel) ⟨Nat.le_of_ble_eq_true rfl, Nat.le_of_ble_eq_true rfl⟩) (preV hP hKK (va_recv hK hP (ci := 0) (q0 := (k2 + 2)) rfl hk2)) rfl rfl hl.1 rfl (lv_room (Nat.le_of_ble_eq_true rfl)) d_T_edges_77 ⟨Nat.le_of_ble_eq_true rfl, Nat.le_of_ble_eq_true rfl⟩)) (fun r9 hr9 => ?_)
  have hr9 := hr9.symm
  subst hr9
  refine lv_aload_n hx hb d_T_edges_80 rfl (lv_at hl 1 rfl) ?_
  refine lv_iload_n hx hb d_T_edges_81 rfl (lv_at hl 2 rfl) ?_
  refine lv_i2l hx hb d_T_edges_82 rfl ?_
  refine lv_lconst (v := (0 : Int64)) hx hb d_T_edges_83 (by decide) ?_
  refine lv_lconst (v := (0 : Int64)) hx hb d_T_edges_84 (by decide) ?_
  refine lv_iload hx hb d_T_edges_85 (lv_at hl 5 rfl) ?_
  refine lv_i2l hx hb d_T_edges_87 rfl ?_
  refine lv_iload hx hb d_T_edges_88 (lv_at hl 6 rfl) ?_
  refine lv_i2l hx hb d_T_edges_90 rfl ?_
  refine lv_iload hx hb d_T_edges_91 (lv_at hl 7 rfl) ?_
  refine lv_i2l hx hb d_T_edges_93 rfl ?_
  refine vp_callSl (va_Run.run (va_runV (As := [.long (ep.toInt64), .long (0 : Int64), .long (0 : Int64), .long (es.toInt64), .long (et.toInt64), .long (eu.toInt64)]) (rest := [.long (f_P_prod fa fb fc fd fe ff (eq.toInt64) (er.toInt64) (0 : Int64) (es.toInt64) (et.toInt64) (eu.toInt64)), .ref h2]) ⟨hx, hb, hml, hown, htg⟩ (c_P_prod l D ct ([(h2, .inr (1, [.long ra_1, .long rb_2, .long rc_3, .long rx_4, .long ry_5, .long rz_6, .int rs_7])), (h0, .inr (2, [.ref h2, .ref h1, .int sz, .int fc_, .int fn_]))] ++ wt) (k2 + 2) h3 fa fb fc fd fe ff (ep.toInt64) (0 : Int64) (0 : Int64) (es.toInt64) (et.toInt64) (eu.toInt64) hk2  _ rfl) (cwV 6 htg (giV tm_327 tm_234 tm_235 tm_35 g_P_prod) rfl rfl rfl (by decide +kernel) ⟨Nat.le_of_ble_eq_true rfl, Nat.le_of_ble_eq_true rfl⟩) (preV hP hKK (va_recv hK hP (ci := 0) (q0 := (k2 + 2)) rfl hk2)) rfl rfl hl.1 rfl (lv_room (Nat.le_of_ble_eq_true rfl)) d_T_edges_94 ⟨Nat.le_of_ble_eq_true rfl, Nat.le_of_ble_eq_true rfl⟩)) (fun r9 hr9 => ?_)
  have hr9 := hr9.symm
  subst hr9
  refine lv_aload_n hx hb d_T_edges_97 rfl (lv_at hl 1 rfl) ?_
  refine lv_iload_n hx hb d_T_edges_98 rfl (lv_at hl 2 rfl) ?_
  refine lv_i2l hx hb d_T_edges_99 rfl ?_
  refine lv_lconst (v := (0 : Int64)) hx hb d_T_edges_100 (by decide) ?_
  refine lv_lconst (v := (0 : Int64)) hx hb d_T_edges_101 (by decide) ?_
  refine lv_iload_n hx hb d_T_edges_102 rfl (lv_at hl 3 rfl) ?_
  refine lv_i2l hx hb d_T_edges_103 rfl ?_
  refine lv_iload hx hb d_T_edges_104 (lv_at hl 4 rfl) ?_
  refine lv_i2l hx hb d_T_edges_106 rfl ?_
  refine lv_lconst (v := (0 : Int64)) hx hb d_T_edges_107 (by decide) ?_
  refine vp_callSl (va_Run.run (va_runV (As := [.long (ep.toInt64), .long (0 : Int64), .long (0 : Int64), .long (eq.toInt64), .long (er.toInt64), .long (0 : Int64)]) (rest := [.long (f_P_prod fa fb fc fd fe ff (ep.toInt64) (0 : Int64) (0 : Int64) (es.toInt64) (et.toInt64) (eu.toInt64)), .long (f_P_prod fa fb fc fd fe ff (eq.toInt64) (er.toInt64) (0 : Int64) (es.toInt64) (et.toInt64) (eu.toInt64)), .ref h2]) ⟨hx, hb, hml, hown, htg⟩ (c_P_prod l D ct ([(h2, .inr (1, [.long ra_1, .long rb_2, .long rc_3, .long rx_4, .long ry_5, .long rz_6, .int rs_7])), (h0, .inr (2, [.ref h2, .ref h1, .int sz, .int fc_, .int fn_]))] ++ wt) (k2 + 2) h3 fa fb fc fd fe ff (ep.toInt64) (0 : Int64) (0 : Int64) (eq.toInt64) (er.toInt64) (0 : Int64) hk2  _ rfl) (cwV 6 htg (giV tm_327 tm_234 tm_235 tm_35 g_P_prod) rfl rfl rfl (by decide +kernel) ⟨Nat.le_of_ble_eq_true rfl, Nat.le_of_ble_eq_true rfl⟩) (preV hP hKK (va_recv hK hP (ci := 0) (q0 := (k2 + 2)) rfl hk2)) rfl rfl hl.1 rfl (lv_room (Nat.le_of_ble_eq_true rfl)) d_T_edges_108 ⟨Nat.le_of_ble_eq_true rfl, Nat.le_of_ble_eq_true rfl⟩)) (fun r9 hr9 => ?_)
  have hr9 := hr9.symm
  subst hr9
  obtain ⟨⟨ra_9, rb_10, rc_11, rx_12, ry_13, rz_14, rs_15⟩, e_16⟩ : ∃ v, f_R_setMx ra_1 rb_2 rc_3 rx_4 ry_5 rz_6 rs_7 (f_P_prod fa fb fc fd fe ff (eq.toInt64) (er.toInt64) (0 : Int64) (es.toInt64) (et.toInt64) (eu.toInt64)) (f_P_prod fa fb fc fd fe ff (ep.toInt64) (0 : Int64) (0 : Int64) (es.toInt64) (et.toInt64) (eu.toInt64)) (f_P_prod fa fb fc fd fe ff (ep.toInt64) (0 : Int64) (0 : Int64) (eq.toInt64) (er.toInt64) (0 : Int64)) = v := ⟨_, rfl⟩
  rw [e_16, bnd_eq] at h
  try dsimp only at h
  refine va_callv (va_runV (As := [.long (f_P_prod fa fb fc fd fe ff (eq.toInt64) (er.toInt64) (0 : Int64) (es.toInt64) (et.toInt64) (eu.toInt64)), .long (f_P_prod fa fb fc fd fe ff (ep.toInt64) (0 : Int64) (0 : Int64) (es.toInt64) (et.toInt64) (eu.toInt64)), .long (f_P_prod fa fb fc fd fe ff (ep.toInt64) (0 : Int64) (0 : Int64) (eq.toInt64) (er.toInt64) (0 : Int64))]) (rest := []) ⟨hx, hb, hml, hown, htg⟩ (c_R_setMx l D ct A ([(h0, .inr (2, [.ref h2, .ref h1, .int sz, .int fc_, .int fn_]))] ++ wt)  h2 ra_1 rb_2 rc_3 rx_4 ry_5 rz_6 rs_7 (f_P_prod fa fb fc fd fe ff (eq.toInt64) (er.toInt64) (0 : Int64) (es.toInt64) (et.toInt64) (eu.toInt64)) (f_P_prod fa fb fc fd fe ff (ep.toInt64) (0 : Int64) (0 : Int64) (es.toInt64) (et.toInt64) (eu.toInt64)) (f_P_prod fa fb fc fd fe ff (ep.toInt64) (0 : Int64) (0 : Int64) (eq.toInt64) (er.toInt64) (0 : Int64))   _ e_16) (cwV 3 htg (giV tm_329 tm_175 tm_176 tm_32 g_R_setMx) rfl rfl rfl (by decide +kernel) ⟨Nat.le_of_ble_eq_true rfl, Nat.le_of_ble_eq_true rfl⟩) (preVM hA hS hP hD hKK (va_recv hK hP (ci := 1) (q0 := 0) rfl rfl)) rfl rfl hl.1 rfl (lv_room (Nat.le_of_ble_eq_true rfl)) d_T_edges_111 ⟨Nat.le_of_ble_eq_true rfl, Nat.le_of_ble_eq_true rfl⟩) hS (fun q _ h9 => h9) (fun q h9 => h9) (fun u9 t9 H locs ht9 hvm9 hw9 hB9 hz9 hk9 hS => ?_)
  rw [hw9] at hB9
  obtain ⟨hP, hD⟩ := hB9
  rw [ht9] at hP
  have hP : va_P D classes ([(h2, .inr (1, [.long ra_9, .long rb_10, .long rc_11, .long rx_12, .long ry_13, .long rz_14, .int rs_15])), (h0, .inr (2, [.ref h2, .ref h1, .int sz, .int fc_, .int fn_]))] ++ wt) H := hP
  have hD : va_D A ([(h2, .inr (1, [.long ra_9, .long rb_10, .long rc_11, .long rx_12, .long ry_13, .long rz_14, .int rs_15])), (h0, .inr (2, [.ref h2, .ref h1, .int sz, .int fc_, .int fn_]))] ++ wt) := hD
  refine lv_aload_n hx hb d_T_edges_114 rfl (lv_at hl 0 rfl) ?_
  refine va_get (D := D) (ci := 2) (v := .ref h2) (C := R_Table) (T := F_Table) (N := 5) hx hb htg i_Table hown hK hP 1 rfl rfl 0 (by decide) (htg _ tm_84) (fun _ h9 => h9) rfl d_T_edges_115 ?_
  rcases e_24 : f_R_run ra_9 rb_10 rc_11 rx_12 ry_13 rz_14 rs_15 with _ | ⟨ra_17, rb_18, rc_19, rx_20, ry_21, rz_22, rs_23⟩
  · rw [e_24] at h; cases h
  rw [e_24, Option.bind_some] at h
  try dsimp only at h
  refine va_callv (va_runV (As := []) (rest := []) ⟨hx, hb, hml, hown, htg⟩ (c_R_run l D ct A ([(h0, .inr (2, [.ref h2, .ref h1, .int sz, .int fc_, .int fn_]))] ++ wt)  h2 ra_9 rb_10 rc_11 rx_12 ry_13 rz_14 rs_15   _ e_24) (cwV 0 htg (giV tm_330 tm_180 tm_181 tm_32 g_R_run) rfl rfl rfl (by decide +kernel) ⟨Nat.le_of_ble_eq_true rfl, Nat.le_of_ble_eq_true rfl⟩) (preVM hA hS hP hD hKK (va_recv hK hP (ci := 1) (q0 := 0) rfl rfl)) rfl rfl hl.1 rfl (lv_room (Nat.le_of_ble_eq_true rfl)) d_T_edges_118 ⟨Nat.le_of_ble_eq_true rfl, Nat.le_of_ble_eq_true rfl⟩) hS (fun q _ h9 => h9) (fun q h9 => h9) (fun u9 t9 H locs ht9 hvm9 hw9 hB9 hz9 hk9 hS => ?_)
  rw [hw9] at hB9
  obtain ⟨hP, hD⟩ := hB9
  rw [ht9] at hP
  have hP : va_P D classes ([(h2, .inr (1, [.long ra_17, .long rb_18, .long rc_19, .long rx_20, .long ry_21, .long rz_22, .int rs_23])), (h0, .inr (2, [.ref h2, .ref h1, .int sz, .int fc_, .int fn_]))] ++ wt) H := hP
  have hD : va_D A ([(h2, .inr (1, [.long ra_17, .long rb_18, .long rc_19, .long rx_20, .long ry_21, .long rz_22, .int rs_23])), (h0, .inr (2, [.ref h2, .ref h1, .int sz, .int fc_, .int fn_]))] ++ wt) := hD
  have hP := va_P.part (cx := [(h0, .inr (2, [.ref h2, .ref h1, .int sz, .int fc_, .int fn_])), (h2, .inr (1, [.long ra_17, .long rb_18, .long rc_19, .long rx_20, .long ry_21, .long rz_22, .int rs_23]))]) hP [1, 0] rfl
  have hD := va_D.part (cx := [(h0, .inr (2, [.ref h2, .ref h1, .int sz, .int fc_, .int fn_])), (h2, .inr (1, [.long ra_17, .long rb_18, .long rc_19, .long rx_20, .long ry_21, .long rz_22, .int rs_23]))]) hD [1, 0] (by decide) rfl
  exact W.vret hx hb hr (fun t ht hW => ⟨⟨(ra_17, rb_18, rc_19, rx_20, ry_21, rz_22, rs_23), rfl, (Option.some.inj h), by rw [ht]; exact hP, hD⟩, hS.F ht⟩) hS.2.2 d_T_edges_121
-- CellBench$MultipleTable addAll (LCellBench$Products;III)V
def lp_T_addAll_21 (fa : Int64) (fb : Int64) (fc : Int64) (fd : Int64) (fe : Int64) (ff : Int64) (ep : Int32) (er : Int32) (eu : Int32) : Nat → Int32 → Int32 → Int32 → (Nat → Int64) → Int32 → Int64 → Int64 → Int64 → Int64 → Int64 → Int64 → Int32 → Option (Int32 × Int32 × Int32 × (Nat → Int64) × Int32 × Int64 × Int64 × Int64 × Int64 × Int64 × Int64 × Int32)
  | 0, _, _, _, _, _, _, _, _, _, _, _, _ => none
  | n + 1, lq, ls_, lt, ro, sz, ra, rb, rc, rx, ry, rz, rs =>
    if er ≤ lt then (some (lq, ls_, lt, ro, sz, ra, rb, rc, rx, ry, rz, rs)) else (Option.bind (f_T_edges ra rb rc rx ry rz rs fa fb fc fd fe ff ep lq er ls_ lt eu) (fun z_16 => (Option.bind (f_T_count sz ro z_16.1 z_16.2.1 z_16.2.2.1 z_16.2.2.2.1 z_16.2.2.2.2.1 z_16.2.2.2.2.2.1 z_16.2.2.2.2.2.2) (fun z_15 => (lp_T_addAll_21 fa fb fc fd fe ff ep er eu n lq ls_ (lt + (1 : Int32)) z_15.1 z_15.2 z_16.1 z_16.2.1 z_16.2.2.1 z_16.2.2.2.1 z_16.2.2.2.2.1 z_16.2.2.2.2.2.1 z_16.2.2.2.2.2.2)))))
def lp_T_addAll_12 (fa : Int64) (fb : Int64) (fc : Int64) (fd : Int64) (fe : Int64) (ff : Int64) (ep : Int32) (er : Int32) (eu : Int32) : Nat → Int32 → Int32 → (Nat → Int64) → Int32 → Int64 → Int64 → Int64 → Int64 → Int64 → Int64 → Int32 → Option (Int32 × Int32 × (Nat → Int64) × Int32 × Int64 × Int64 × Int64 × Int64 × Int64 × Int64 × Int32)
  | 0, _, _, _, _, _, _, _, _, _, _, _ => none
  | n + 1, lq, ls_, ro, sz, ra, rb, rc, rx, ry, rz, rs =>
    if ep ≤ ls_ then (some (lq, ls_, ro, sz, ra, rb, rc, rx, ry, rz, rs)) else (Option.bind (lp_T_addAll_21 fa fb fc fd fe ff ep er eu 20 lq ls_ (0 : Int32) ro sz ra rb rc rx ry rz rs) (fun z_30 => (lp_T_addAll_12 fa fb fc fd fe ff ep er eu n z_30.1 (z_30.2.1 + (1 : Int32)) z_30.2.2.2.1 z_30.2.2.2.2.1 z_30.2.2.2.2.2.1 z_30.2.2.2.2.2.2.1 z_30.2.2.2.2.2.2.2.1 z_30.2.2.2.2.2.2.2.2.1 z_30.2.2.2.2.2.2.2.2.2.1 z_30.2.2.2.2.2.2.2.2.2.2.1 z_30.2.2.2.2.2.2.2.2.2.2.2)))
def lp_T_addAll_3 (fa : Int64) (fb : Int64) (fc : Int64) (fd : Int64) (fe : Int64) (ff : Int64) (ep : Int32) (er : Int32) (eu : Int32) : Nat → Int32 → (Nat → Int64) → Int32 → Int64 → Int64 → Int64 → Int64 → Int64 → Int64 → Int32 → Option ((Nat → Int64) × Int32 × Int64 × Int64 × Int64 × Int64 × Int64 × Int64 × Int32)
  | 0, _, _, _, _, _, _, _, _, _, _ => none
  | n + 1, lq, ro, sz, ra, rb, rc, rx, ry, rz, rs =>
    if ep ≤ lq then (some (ro, sz, ra, rb, rc, rx, ry, rz, rs)) else (Option.bind (lp_T_addAll_12 fa fb fc fd fe ff ep er eu 20 lq (0 : Int32) ro sz ra rb rc rx ry rz rs) (fun z_43 => (lp_T_addAll_3 fa fb fc fd fe ff ep er eu n (z_43.1 + (1 : Int32)) z_43.2.2.1 z_43.2.2.2.1 z_43.2.2.2.2.1 z_43.2.2.2.2.2.1 z_43.2.2.2.2.2.2.1 z_43.2.2.2.2.2.2.2.1 z_43.2.2.2.2.2.2.2.2.1 z_43.2.2.2.2.2.2.2.2.2.1 z_43.2.2.2.2.2.2.2.2.2.2)))
def f_T_addAll (sz : Int32) (ro : Nat → Int64) (ra : Int64) (rb : Int64) (rc : Int64) (rx : Int64) (ry : Int64) (rz : Int64) (rs : Int32) (fa : Int64) (fb : Int64) (fc : Int64) (fd : Int64) (fe : Int64) (ff : Int64) (ep : Int32) (er : Int32) (eu : Int32) : Option ((Nat → Int64) × Int32 × Int64 × Int64 × Int64 × Int64 × Int64 × Int64 × Int32) :=
    lp_T_addAll_3 fa fb fc fd fe ff ep er eu 20 (0 : Int32) ro sz ra rb rc rx ry rz rs
def w_T_addAll : List Cond := .code y_T_addAll b_T_addAll 8 none :: GW
abbrev rm_T_addAll : Room := { frames := 4, cells := 0, slots := 0, locals := 104 }
theorem g_T_addAll : GoodIn GW w_T_addAll := gi tm_322
set_option maxHeartbeats 4000000 in
set_option maxRecDepth 100000 in
theorem c_T_addAll (l : Launch) (D : va_G) (ct : CT) (A : Nat → Prop) (wt : va_W) (k3 : Nat) (h0 : Nat) (h2 : Nat) (h1 : Nat) (sz : Int32) (fc_ : Int32) (fn_ : Int32) (ro : Nat → Int64) (ra : Int64) (rb : Int64) (rc : Int64) (rx : Int64) (ry : Int64) (rz : Int64) (rs : Int32) (h3 : Nat) (fa : Int64) (fb : Int64) (fc : Int64) (fd : Int64) (fe : Int64) (ff : Int64) (ep : Int32) (er : Int32) (eu : Int32) (hk3 : wt[k3]? = some (h3, .inr (0, [.long fa, .long fb, .long fc, .long fd, .long fe, .long ff])))  (r0 : (Nat → Int64) × Int32 × Int64 × Int64 × Int64 × Int64 × Int64 × Int64 × Int32) (h : f_T_addAll sz ro ra rb rc rx ry rz rs fa fb fc fd fe ff ep er eu = some r0) : Met l y_T_addAll w_T_addAll rm_T_addAll (va_Pc [.ref h0, .ref h3, .int ep, .int er, .int eu] (PreM D ct A ([(h0, .inr (2, [.ref h2, .ref h1, .int sz, .int fc_, .int fn_])), (h1, .inl (ct.1, 3185, .inr (.inl ro))), (h2, .inr (1, [.long ra, .long rb, .long rc, .long rx, .long ry, .long rz, .int rs]))] ++ wt))) (va_Qv (fun u => u = r0) (fun (u : (Nat → Int64) × Int32 × Int64 × Int64 × Int64 × Int64 × Int64 × Int64 × Int32) t => match u with | (ro', sz', ra', rb', rc', rx', ry', rz', rs') => va_P D classes ([(h0, .inr (2, [.ref h2, .ref h1, .int sz', .int fc_, .int fn_])), (h1, .inl (ct.1, 3185, .inr (.inl ro'))), (h2, .inr (1, [.long ra', .long rb', .long rc', .long rx', .long ry', .long rz', .int rs']))] ++ wt) t.heap ∧ va_D A ([(h0, .inr (2, [.ref h2, .ref h1, .int sz', .int fc_, .int fn_])), (h1, .inl (ct.1, 3185, .inr (.inl ro'))), (h2, .inr (1, [.long ra', .long rb', .long rc', .long rx', .long ry', .long rz', .int rs']))] ++ wt)) A) 0 0 A := by
  refine Met.ofW (cc := b_T_addAll) (maxL := 8) (ret := none) (by decide) rfl ?_
  intro p e s m args below meth c s₁ B hml hv
  obtain ⟨rfl, hA, hP, hD, hKK⟩ := hv
  have hx := B.exec
  have hb := B.bytes
  have hr := B.returns
  have htg := ht_tl (atoms_spec (ws := w_T_addAll) B.pre)
  have hown : s.vm.findClass R_Table = some m.cls := findClass_of_methodNamed B.named
  have hlocks := B.notSynchronized
  have hK := hKK.1
  have hN := hKK.2.1
  have hO := hKK.2.2
  have hS : va_S A s.heap s.heap [] := va_S.rf
  have hl := lv_entry ([.ref h0, .ref h3, .int ep, .int er, .int eu]) (n := 8) (Nat.le_of_ble_eq_true rfl)
  rw [lg_entry_eq]
  generalize (lg_sl ([.ref h0, .ref h3, .int ep, .int er, .int eu]) ++ List.replicate (8 - (lg_sl ([.ref h0, .ref h3, .int ep, .int er, .int eu])).length) Slot.unset).toArray = ls at hl ⊢
  have hl : lv_has ls 8 [(0, .ref h0), (1, .ref h3), (2, .int ep), (3, .int er), (4, .int eu)] := hl
  unfold f_T_addAll at h
  refine lv_iconst (v := (0 : Int32)) hx hb d_T_addAll_0 (by decide) ?_
  refine lv_istore (lv' := [(5, .int (0 : Int32)), (0, .ref h0), (1, .ref h3), (2, .int ep), (3, .int er), (4, .int eu)]) hx hb d_T_addAll_1 hl (by decide) rfl (fun ls hl => ?_)
  have L_21 : ∀ (n : Nat) (lq : Int32) (ls_ : Int32) (lt : Int32) (ro : Nat → Int64) (sz : Int32) (ra : Int64) (rb : Int64) (rc : Int64) (rx : Int64) (ry : Int64) (rz : Int64) (rs : Int32) (lq' : Int32) (ls_' : Int32) (lt' : Int32) (ro' : Nat → Int64) (sz' : Int32) (ra' : Int64) (rb' : Int64) (rc' : Int64) (rx' : Int64) (ry' : Int64) (rz' : Int64) (rs' : Int32), lp_T_addAll_21 fa fb fc fd fe ff ep er eu n lq ls_ lt ro sz ra rb rc rx ry rz rs = some (lq', ls_', lt', ro', sz', ra', rb', rc', rx', ry', rz', rs') → ∀ (H : Heap) (locs : List Loc), va_P D classes ([(h0, .inr (2, [.ref h2, .ref h1, .int sz, .int fc_, .int fn_])), (h1, .inl (ct.1, 3185, .inr (.inl ro))), (h2, .inr (1, [.long ra, .long rb, .long rc, .long rx, .long ry, .long rz, .int rs]))] ++ wt) H → va_D A ([(h0, .inr (2, [.ref h2, .ref h1, .int sz, .int fc_, .int fn_])), (h1, .inl (ct.1, 3185, .inr (.inl ro))), (h2, .inr (1, [.long ra, .long rb, .long rc, .long rx, .long ry, .long rz, .int rs]))] ++ wt) → va_S A s.heap H locs → ∀ (ls : Array Slot), lv_has ls 8 [(5, .int lq), (6, .int ls_), (7, .int lt), (0, .ref h0), (1, .ref h3), (2, .int ep), (3, .int er), (4, .int eu)] → (∀ (H : Heap) (locs : List Loc), va_P D classes ([(h0, .inr (2, [.ref h2, .ref h1, .int sz', .int fc_, .int fn_])), (h1, .inl (ct.1, 3185, .inr (.inl ro'))), (h2, .inr (1, [.long ra', .long rb', .long rc', .long rx', .long ry', .long rz', .int rs']))] ++ wt) H → va_D A ([(h0, .inr (2, [.ref h2, .ref h1, .int sz', .int fc_, .int fn_])), (h1, .inl (ct.1, 3185, .inr (.inl ro'))), (h2, .inr (1, [.long ra', .long rb', .long rc', .long rx', .long ry', .long rz', .int rs']))] ++ wt) → va_S A s.heap H locs → ∀ (ls : Array Slot), lv_has ls 8 [(5, .int lq'), (6, .int ls_'), (7, .int lt'), (0, .ref h0), (1, .ref h3), (2, .int ep), (3, .int er), (4, .int eu)] → W p l e (headSpec w_T_addAll rm_T_addAll).room s m ([.ref h0, .ref h3, .int ep, .int er, .int eu] : List Value).toArray below meth c H locs 0 0 (MQ below (va_Qv (fun u => u = r0) (fun (u : (Nat → Int64) × Int32 × Int64 × Int64 × Int64 × Int64 × Int64 × Int64 × Int32) t => match u with | (ro', sz', ra', rb', rc', rx', ry', rz', rs') => va_P D classes ([(h0, .inr (2, [.ref h2, .ref h1, .int sz', .int fc_, .int fn_])), (h1, .inl (ct.1, 3185, .inr (.inl ro'))), (h2, .inr (1, [.long ra', .long rb', .long rc', .long rx', .long ry', .long rz', .int rs']))] ++ wt) t.heap ∧ va_D A ([(h0, .inr (2, [.ref h2, .ref h1, .int sz', .int fc_, .int fn_])), (h1, .inl (ct.1, 3185, .inr (.inl ro'))), (h2, .inr (1, [.long ra', .long rb', .long rc', .long rx', .long ry', .long rz', .int rs']))] ++ wt)) A) ([.ref h0, .ref h3, .int ep, .int er, .int eu] : List Value).toArray s 0 0 A) (F0 m 52 ls [])) → W p l e (headSpec w_T_addAll rm_T_addAll).room s m ([.ref h0, .ref h3, .int ep, .int er, .int eu] : List Value).toArray below meth c H locs 0 0 (MQ below (va_Qv (fun u => u = r0) (fun (u : (Nat → Int64) × Int32 × Int64 × Int64 × Int64 × Int64 × Int64 × Int64 × Int32) t => match u with | (ro', sz', ra', rb', rc', rx', ry', rz', rs') => va_P D classes ([(h0, .inr (2, [.ref h2, .ref h1, .int sz', .int fc_, .int fn_])), (h1, .inl (ct.1, 3185, .inr (.inl ro'))), (h2, .inr (1, [.long ra', .long rb', .long rc', .long rx', .long ry', .long rz', .int rs']))] ++ wt) t.heap ∧ va_D A ([(h0, .inr (2, [.ref h2, .ref h1, .int sz', .int fc_, .int fn_])), (h1, .inl (ct.1, 3185, .inr (.inl ro'))), (h2, .inr (1, [.long ra', .long rb', .long rc', .long rx', .long ry', .long rz', .int rs']))] ++ wt)) A) ([.ref h0, .ref h3, .int ep, .int er, .int eu] : List Value).toArray s 0 0 A) (F0 m 21 ls []) := by
    intro n
    induction n with
    | zero =>
      intro lq ls_ lt ro sz ra rb rc rx ry rz rs lq' ls_' lt' ro' sz' ra' rb' rc' rx' ry' rz' rs' h
      rw [lp_T_addAll_21] at h
      cases h
    | succ n ih =>
      intro lq ls_ lt ro sz ra rb rc rx ry rz rs lq' ls_' lt' ro' sz' ra' rb' rc' rx' ry' rz' rs' h H locs hP hD hS ls hl K
      rw [lp_T_addAll_21] at h
      refine lv_iload hx hb d_T_addAll_21 (lv_at hl 2 rfl) ?_
      refine lv_iload_n hx hb d_T_addAll_23 rfl (lv_at hl 6 rfl) ?_
      refine lv_icmp_ge (tgt := 52) hx hb d_T_addAll_24 (by decide) (fun c_3 => ?_) (fun c_3 => ?_)
      · rw [if_pos c_3] at h
        cases h
        exact K _ _ hP hD hS _ (lv_sub hl [0, 1, 2, 3, 4, 5, 6, 7] rfl)
      · rw [if_neg c_3] at h
        refine lv_aload_n hx hb d_T_addAll_27 rfl (lv_at hl 3 rfl) ?_
        refine lv_aload_n hx hb d_T_addAll_28 rfl (lv_at hl 4 rfl) ?_
        refine lv_iload_n hx hb d_T_addAll_29 rfl (lv_at hl 5 rfl) ?_
        refine lv_iload hx hb d_T_addAll_30 (lv_at hl 0 rfl) ?_
        refine lv_iload_n hx hb d_T_addAll_32 rfl (lv_at hl 6 rfl) ?_
        refine lv_iload hx hb d_T_addAll_33 (lv_at hl 1 rfl) ?_
        refine lv_iload hx hb d_T_addAll_35 (lv_at hl 2 rfl) ?_
        refine lv_iload hx hb d_T_addAll_37 (lv_at hl 7 rfl) ?_
        have hP := va_P.part (cx := [(h0, .inr (2, [.ref h2, .ref h1, .int sz, .int fc_, .int fn_])), (h2, .inr (1, [.long ra, .long rb, .long rc, .long rx, .long ry, .long rz, .int rs])), (h1, .inl (ct.1, 3185, .inr (.inl ro)))]) hP [0, 2, 1] rfl
        have hD := va_D.part (cx := [(h0, .inr (2, [.ref h2, .ref h1, .int sz, .int fc_, .int fn_])), (h2, .inr (1, [.long ra, .long rb, .long rc, .long rx, .long ry, .long rz, .int rs])), (h1, .inl (ct.1, 3185, .inr (.inl ro)))]) hD [0, 2, 1] (by decide) rfl
        rcases e_11 : f_T_edges ra rb rc rx ry rz rs fa fb fc fd fe ff ep lq er ls_ lt eu with _ | ⟨ra_4, rb_5, rc_6, rx_7, ry_8, rz_9, rs_10⟩
        · rw [e_11] at h; cases h
        rw [e_11, Option.bind_some] at h
        try dsimp only at h
        refine va_callv (va_runV (As := [.ref h3, .int ep, .int lq, .int er, .int ls_, .int lt, .int eu]) (rest := []) ⟨hx, hb, hml, hown, htg⟩ (c_T_edges l D ct A ([(h1, .inl (ct.1, 3185, .inr (.inl ro)))] ++ wt) (k3 + 1) h0 h2 h1 sz fc_ fn_ ra rb rc rx ry rz rs h3 fa fb fc fd fe ff ep lq er ls_ lt eu hk3  _ e_11) (cwV 7 htg (giV tm_323 tm_325 tm_13 tm_33 g_T_edges) rfl rfl rfl (by decide +kernel) ⟨Nat.le_of_ble_eq_true rfl, Nat.le_of_ble_eq_true rfl⟩) (preVM hA hS hP hD hKK (va_recv hK hP (ci := 2) (q0 := 0) rfl rfl)) rfl rfl hl.1 rfl (lv_room (Nat.le_of_ble_eq_true rfl)) d_T_addAll_39 ⟨Nat.le_of_ble_eq_true rfl, Nat.le_of_ble_eq_true rfl⟩) hS (fun q _ h9 => h9) (fun q h9 => h9) (fun u9 t9 H locs ht9 hvm9 hw9 hB9 hz9 hk9 hS => ?_)
        rw [hw9] at hB9
        obtain ⟨hP, hD⟩ := hB9
        rw [ht9] at hP
        have hP : va_P D classes ([(h0, .inr (2, [.ref h2, .ref h1, .int sz, .int fc_, .int fn_])), (h2, .inr (1, [.long ra_4, .long rb_5, .long rc_6, .long rx_7, .long ry_8, .long rz_9, .int rs_10])), (h1, .inl (ct.1, 3185, .inr (.inl ro)))] ++ wt) H := hP
        have hD : va_D A ([(h0, .inr (2, [.ref h2, .ref h1, .int sz, .int fc_, .int fn_])), (h2, .inr (1, [.long ra_4, .long rb_5, .long rc_6, .long rx_7, .long ry_8, .long rz_9, .int rs_10])), (h1, .inl (ct.1, 3185, .inr (.inl ro)))] ++ wt) := hD
        refine lv_aload_n hx hb d_T_addAll_42 rfl (lv_at hl 3 rfl) ?_
        have hP := va_P.part (cx := [(h0, .inr (2, [.ref h2, .ref h1, .int sz, .int fc_, .int fn_])), (h1, .inl (ct.1, 3185, .inr (.inl ro))), (h2, .inr (1, [.long ra_4, .long rb_5, .long rc_6, .long rx_7, .long ry_8, .long rz_9, .int rs_10]))]) hP [0, 2, 1] rfl
        have hD := va_D.part (cx := [(h0, .inr (2, [.ref h2, .ref h1, .int sz, .int fc_, .int fn_])), (h1, .inl (ct.1, 3185, .inr (.inl ro))), (h2, .inr (1, [.long ra_4, .long rb_5, .long rc_6, .long rx_7, .long ry_8, .long rz_9, .int rs_10]))]) hD [0, 2, 1] (by decide) rfl
        rcases e_14 : f_T_count sz ro ra_4 rb_5 rc_6 rx_7 ry_8 rz_9 rs_10 with _ | ⟨ro_12, sz_13⟩
        · rw [e_14] at h; cases h
        rw [e_14, Option.bind_some] at h
        try dsimp only at h
        refine va_callv (va_runV (As := []) (rest := []) ⟨hx, hb, hml, hown, htg⟩ (c_T_count l D ct A ([] ++ wt)  h0 h2 h1 sz fc_ fn_ ro ra_4 rb_5 rc_6 rx_7 ry_8 rz_9 rs_10   _ e_14) (cwV 0 htg (giV tm_331 tm_333 tm_14 tm_33 g_T_count) rfl rfl rfl (by decide +kernel) ⟨Nat.le_of_ble_eq_true rfl, Nat.le_of_ble_eq_true rfl⟩) (preVM hA hS hP hD hKK (va_recv hK hP (ci := 2) (q0 := 0) rfl rfl)) rfl rfl hl.1 rfl (lv_room (Nat.le_of_ble_eq_true rfl)) d_T_addAll_43 ⟨Nat.le_of_ble_eq_true rfl, Nat.le_of_ble_eq_true rfl⟩) hS (fun q _ h9 => h9) (fun q h9 => h9) (fun u9 t9 H locs ht9 hvm9 hw9 hB9 hz9 hk9 hS => ?_)
        rw [hw9] at hB9
        obtain ⟨hP, hD⟩ := hB9
        rw [ht9] at hP
        have hP : va_P D classes ([(h0, .inr (2, [.ref h2, .ref h1, .int sz_13, .int fc_, .int fn_])), (h1, .inl (ct.1, 3185, .inr (.inl ro_12))), (h2, .inr (1, [.long ra_4, .long rb_5, .long rc_6, .long rx_7, .long ry_8, .long rz_9, .int rs_10]))] ++ wt) H := hP
        have hD : va_D A ([(h0, .inr (2, [.ref h2, .ref h1, .int sz_13, .int fc_, .int fn_])), (h1, .inl (ct.1, 3185, .inr (.inl ro_12))), (h2, .inr (1, [.long ra_4, .long rb_5, .long rc_6, .long rx_7, .long ry_8, .long rz_9, .int rs_10]))] ++ wt) := hD
        refine lv_iinc (v := lt + (1 : Int32)) (lv' := [(7, .int (lt + (1 : Int32))), (5, .int lq), (6, .int ls_), (0, .ref h0), (1, .ref h3), (2, .int ep), (3, .int er), (4, .int eu)]) hx hb d_T_addAll_46 hl (k := 2) rfl rfl (by decide) rfl (fun ls hl => ?_)
        refine lv_goto (tgt := 21) hx hb d_T_addAll_49 (by decide) ?_
        exact ih lq ls_ (lt + (1 : Int32)) ro_12 sz_13 ra_4 rb_5 rc_6 rx_7 ry_8 rz_9 rs_10 _ _ _ _ _ _ _ _ _ _ _ _ h H locs hP hD hS ls (lv_sub hl [1, 2, 0, 3, 4, 5, 6, 7] rfl) K
  have L_12 : ∀ (n : Nat) (lq : Int32) (ls_ : Int32) (ro : Nat → Int64) (sz : Int32) (ra : Int64) (rb : Int64) (rc : Int64) (rx : Int64) (ry : Int64) (rz : Int64) (rs : Int32) (lq' : Int32) (ls_' : Int32) (ro' : Nat → Int64) (sz' : Int32) (ra' : Int64) (rb' : Int64) (rc' : Int64) (rx' : Int64) (ry' : Int64) (rz' : Int64) (rs' : Int32), lp_T_addAll_12 fa fb fc fd fe ff ep er eu n lq ls_ ro sz ra rb rc rx ry rz rs = some (lq', ls_', ro', sz', ra', rb', rc', rx', ry', rz', rs') → ∀ (H : Heap) (locs : List Loc), va_P D classes ([(h0, .inr (2, [.ref h2, .ref h1, .int sz, .int fc_, .int fn_])), (h1, .inl (ct.1, 3185, .inr (.inl ro))), (h2, .inr (1, [.long ra, .long rb, .long rc, .long rx, .long ry, .long rz, .int rs]))] ++ wt) H → va_D A ([(h0, .inr (2, [.ref h2, .ref h1, .int sz, .int fc_, .int fn_])), (h1, .inl (ct.1, 3185, .inr (.inl ro))), (h2, .inr (1, [.long ra, .long rb, .long rc, .long rx, .long ry, .long rz, .int rs]))] ++ wt) → va_S A s.heap H locs → ∀ (ls : Array Slot), lv_has ls 8 [(5, .int lq), (6, .int ls_), (0, .ref h0), (1, .ref h3), (2, .int ep), (3, .int er), (4, .int eu)] → (∀ (H : Heap) (locs : List Loc), va_P D classes ([(h0, .inr (2, [.ref h2, .ref h1, .int sz', .int fc_, .int fn_])), (h1, .inl (ct.1, 3185, .inr (.inl ro'))), (h2, .inr (1, [.long ra', .long rb', .long rc', .long rx', .long ry', .long rz', .int rs']))] ++ wt) H → va_D A ([(h0, .inr (2, [.ref h2, .ref h1, .int sz', .int fc_, .int fn_])), (h1, .inl (ct.1, 3185, .inr (.inl ro'))), (h2, .inr (1, [.long ra', .long rb', .long rc', .long rx', .long ry', .long rz', .int rs']))] ++ wt) → va_S A s.heap H locs → ∀ (ls : Array Slot), lv_has ls 8 [(5, .int lq'), (6, .int ls_'), (0, .ref h0), (1, .ref h3), (2, .int ep), (3, .int er), (4, .int eu)] → W p l e (headSpec w_T_addAll rm_T_addAll).room s m ([.ref h0, .ref h3, .int ep, .int er, .int eu] : List Value).toArray below meth c H locs 0 0 (MQ below (va_Qv (fun u => u = r0) (fun (u : (Nat → Int64) × Int32 × Int64 × Int64 × Int64 × Int64 × Int64 × Int64 × Int32) t => match u with | (ro', sz', ra', rb', rc', rx', ry', rz', rs') => va_P D classes ([(h0, .inr (2, [.ref h2, .ref h1, .int sz', .int fc_, .int fn_])), (h1, .inl (ct.1, 3185, .inr (.inl ro'))), (h2, .inr (1, [.long ra', .long rb', .long rc', .long rx', .long ry', .long rz', .int rs']))] ++ wt) t.heap ∧ va_D A ([(h0, .inr (2, [.ref h2, .ref h1, .int sz', .int fc_, .int fn_])), (h1, .inl (ct.1, 3185, .inr (.inl ro'))), (h2, .inr (1, [.long ra', .long rb', .long rc', .long rx', .long ry', .long rz', .int rs']))] ++ wt)) A) ([.ref h0, .ref h3, .int ep, .int er, .int eu] : List Value).toArray s 0 0 A) (F0 m 58 ls [])) → W p l e (headSpec w_T_addAll rm_T_addAll).room s m ([.ref h0, .ref h3, .int ep, .int er, .int eu] : List Value).toArray below meth c H locs 0 0 (MQ below (va_Qv (fun u => u = r0) (fun (u : (Nat → Int64) × Int32 × Int64 × Int64 × Int64 × Int64 × Int64 × Int64 × Int32) t => match u with | (ro', sz', ra', rb', rc', rx', ry', rz', rs') => va_P D classes ([(h0, .inr (2, [.ref h2, .ref h1, .int sz', .int fc_, .int fn_])), (h1, .inl (ct.1, 3185, .inr (.inl ro'))), (h2, .inr (1, [.long ra', .long rb', .long rc', .long rx', .long ry', .long rz', .int rs']))] ++ wt) t.heap ∧ va_D A ([(h0, .inr (2, [.ref h2, .ref h1, .int sz', .int fc_, .int fn_])), (h1, .inl (ct.1, 3185, .inr (.inl ro'))), (h2, .inr (1, [.long ra', .long rb', .long rc', .long rx', .long ry', .long rz', .int rs']))] ++ wt)) A) ([.ref h0, .ref h3, .int ep, .int er, .int eu] : List Value).toArray s 0 0 A) (F0 m 12 ls []) := by
    intro n
    induction n with
    | zero =>
      intro lq ls_ ro sz ra rb rc rx ry rz rs lq' ls_' ro' sz' ra' rb' rc' rx' ry' rz' rs' h
      rw [lp_T_addAll_12] at h
      cases h
    | succ n ih =>
      intro lq ls_ ro sz ra rb rc rx ry rz rs lq' ls_' ro' sz' ra' rb' rc' rx' ry' rz' rs' h H locs hP hD hS ls hl K
      rw [lp_T_addAll_12] at h
      refine lv_iload hx hb d_T_addAll_12 (lv_at hl 1 rfl) ?_
      refine lv_iload_n hx hb d_T_addAll_14 rfl (lv_at hl 4 rfl) ?_
      refine lv_icmp_ge (tgt := 58) hx hb d_T_addAll_15 (by decide) (fun c_2 => ?_) (fun c_2 => ?_)
      · rw [if_pos c_2] at h
        cases h
        exact K _ _ hP hD hS _ (lv_sub hl [0, 1, 2, 3, 4, 5, 6] rfl)
      · rw [if_neg c_2] at h
        refine lv_iconst (v := (0 : Int32)) hx hb d_T_addAll_18 (by decide) ?_
        refine lv_istore (lv' := [(7, .int (0 : Int32)), (5, .int lq), (6, .int ls_), (0, .ref h0), (1, .ref h3), (2, .int ep), (3, .int er), (4, .int eu)]) hx hb d_T_addAll_19 hl (by decide) rfl (fun ls hl => ?_)
        rcases e_29 : lp_T_addAll_21 fa fb fc fd fe ff ep er eu 20 lq ls_ (0 : Int32) ro sz ra rb rc rx ry rz rs with _ | ⟨lq_17, ls__18, lt_19, ro_20, sz_21, ra_22, rb_23, rc_24, rx_25, ry_26, rz_27, rs_28⟩
        · rw [e_29] at h; cases h
        rw [e_29, Option.bind_some] at h
        try dsimp only at h
        refine L_21 20 lq ls_ (0 : Int32) ro sz ra rb rc rx ry rz rs lq_17 ls__18 lt_19 ro_20 sz_21 ra_22 rb_23 rc_24 rx_25 ry_26 rz_27 rs_28 e_29 _ _ hP hD hS ls (lv_sub hl [1, 2, 0, 3, 4, 5, 6, 7] rfl) (fun H locs hP hD hS ls hl => ?_)
        refine lv_iinc (v := ls__18 + (1 : Int32)) (lv' := [(6, .int (ls__18 + (1 : Int32))), (5, .int lq_17), (7, .int lt_19), (0, .ref h0), (1, .ref h3), (2, .int ep), (3, .int er), (4, .int eu)]) hx hb d_T_addAll_52 hl (k := 1) rfl rfl (by decide) rfl (fun ls hl => ?_)
        refine lv_goto (tgt := 12) hx hb d_T_addAll_55 (by decide) ?_
        exact ih lq_17 (ls__18 + (1 : Int32)) ro_20 sz_21 ra_22 rb_23 rc_24 rx_25 ry_26 rz_27 rs_28 _ _ _ _ _ _ _ _ _ _ _ h H locs hP hD hS ls (lv_sub hl [1, 0, 3, 4, 5, 6, 7] rfl) K
  have L_3 : ∀ (n : Nat) (lq : Int32) (ro : Nat → Int64) (sz : Int32) (ra : Int64) (rb : Int64) (rc : Int64) (rx : Int64) (ry : Int64) (rz : Int64) (rs : Int32) , lp_T_addAll_3 fa fb fc fd fe ff ep er eu n lq ro sz ra rb rc rx ry rz rs = some r0 → ∀ (H : Heap) (locs : List Loc), va_P D classes ([(h0, .inr (2, [.ref h2, .ref h1, .int sz, .int fc_, .int fn_])), (h1, .inl (ct.1, 3185, .inr (.inl ro))), (h2, .inr (1, [.long ra, .long rb, .long rc, .long rx, .long ry, .long rz, .int rs]))] ++ wt) H → va_D A ([(h0, .inr (2, [.ref h2, .ref h1, .int sz, .int fc_, .int fn_])), (h1, .inl (ct.1, 3185, .inr (.inl ro))), (h2, .inr (1, [.long ra, .long rb, .long rc, .long rx, .long ry, .long rz, .int rs]))] ++ wt) → va_S A s.heap H locs → ∀ (ls : Array Slot), lv_has ls 8 [(5, .int lq), (0, .ref h0), (1, .ref h3), (2, .int ep), (3, .int er), (4, .int eu)] → W p l e (headSpec w_T_addAll rm_T_addAll).room s m ([.ref h0, .ref h3, .int ep, .int er, .int eu] : List Value).toArray below meth c H locs 0 0 (MQ below (va_Qv (fun u => u = r0) (fun (u : (Nat → Int64) × Int32 × Int64 × Int64 × Int64 × Int64 × Int64 × Int64 × Int32) t => match u with | (ro', sz', ra', rb', rc', rx', ry', rz', rs') => va_P D classes ([(h0, .inr (2, [.ref h2, .ref h1, .int sz', .int fc_, .int fn_])), (h1, .inl (ct.1, 3185, .inr (.inl ro'))), (h2, .inr (1, [.long ra', .long rb', .long rc', .long rx', .long ry', .long rz', .int rs']))] ++ wt) t.heap ∧ va_D A ([(h0, .inr (2, [.ref h2, .ref h1, .int sz', .int fc_, .int fn_])), (h1, .inl (ct.1, 3185, .inr (.inl ro'))), (h2, .inr (1, [.long ra', .long rb', .long rc', .long rx', .long ry', .long rz', .int rs']))] ++ wt)) A) ([.ref h0, .ref h3, .int ep, .int er, .int eu] : List Value).toArray s 0 0 A) (F0 m 3 ls []) := by
    intro n
    induction n with
    | zero =>
      intro lq ro sz ra rb rc rx ry rz rs  h
      rw [lp_T_addAll_3] at h
      cases h
    | succ n ih =>
      intro lq ro sz ra rb rc rx ry rz rs  h H locs hP hD hS ls hl
      rw [lp_T_addAll_3] at h
      refine lv_iload hx hb d_T_addAll_3 (lv_at hl 0 rfl) ?_
      refine lv_iload_n hx hb d_T_addAll_5 rfl (lv_at hl 3 rfl) ?_
      refine lv_icmp_ge (tgt := 64) hx hb d_T_addAll_6 (by decide) (fun c_1 => ?_) (fun c_1 => ?_)
      · rw [if_pos c_1] at h
        exact W.vret hx hb hr (fun t ht hW => ⟨⟨(ro, sz, ra, rb, rc, rx, ry, rz, rs), rfl, (Option.some.inj h), by rw [ht]; exact hP, hD⟩, hS.F ht⟩) hS.2.2 d_T_addAll_64
      · rw [if_neg c_1] at h
        refine lv_iconst (v := (0 : Int32)) hx hb d_T_addAll_9 (by decide) ?_
        refine lv_istore (lv' := [(6, .int (0 : Int32)), (5, .int lq), (0, .ref h0), (1, .ref h3), (2, .int ep), (3, .int er), (4, .int eu)]) hx hb d_T_addAll_10 hl (by decide) rfl (fun ls hl => ?_)
        rcases e_42 : lp_T_addAll_12 fa fb fc fd fe ff ep er eu 20 lq (0 : Int32) ro sz ra rb rc rx ry rz rs with _ | ⟨lq_31, ls__32, ro_33, sz_34, ra_35, rb_36, rc_37, rx_38, ry_39, rz_40, rs_41⟩
        · rw [e_42] at h; cases h
        rw [e_42, Option.bind_some] at h
        try dsimp only at h
        refine L_12 20 lq (0 : Int32) ro sz ra rb rc rx ry rz rs lq_31 ls__32 ro_33 sz_34 ra_35 rb_36 rc_37 rx_38 ry_39 rz_40 rs_41 e_42 _ _ hP hD hS ls (lv_sub hl [1, 0, 2, 3, 4, 5, 6] rfl) (fun H locs hP hD hS ls hl => ?_)
        refine lv_iinc (v := lq_31 + (1 : Int32)) (lv' := [(5, .int (lq_31 + (1 : Int32))), (6, .int ls__32), (0, .ref h0), (1, .ref h3), (2, .int ep), (3, .int er), (4, .int eu)]) hx hb d_T_addAll_58 hl (k := 0) rfl rfl (by decide) rfl (fun ls hl => ?_)
        refine lv_goto (tgt := 3) hx hb d_T_addAll_61 (by decide) ?_
        exact ih (lq_31 + (1 : Int32)) ro_33 sz_34 ra_35 rb_36 rc_37 rx_38 ry_39 rz_40 rs_41 h H locs hP hD hS ls (lv_sub hl [0, 2, 3, 4, 5, 6] rfl)
  exact L_3 20 (0 : Int32) ro sz ra rb rc rx ry rz rs h _ _ hP hD hS ls (lv_sub hl [0, 1, 2, 3, 4, 5] rfl)
-- CellBench$MultipleTable fill (ILCellBench$Products;I)V
def lp_T_fill_44 (fa : Int64) (fb : Int64) (fc : Int64) (fd : Int64) (fe : Int64) (ff : Int64) (cl : Int32) (nn : Int32) : Nat → Int32 → Int32 → (Nat → Int64) → Int32 → Int32 → Int32 → Int64 → Int64 → Int64 → Int64 → Int64 → Int64 → Int32 → Option (Int32 × Int32 × (Nat → Int64) × Int32 × Int32 × Int32 × Int64 × Int64 × Int64 × Int64 × Int64 × Int64 × Int32)
  | 0, _, _, _, _, _, _, _, _, _, _, _, _, _ => none
  | n + 1, lp_, lr, ro, sz, fc_, fn_, ra, rb, rc, rx, ry, rz, rs =>
    if nn < (lp_ * lr) then (some (lp_, lr, ro, sz, fc_, fn_, ra, rb, rc, rx, ry, rz, rs)) else (if lp_ * lr = 0 then none else (if (nn - nn / (lp_ * lr) * (lp_ * lr)) = 0 then (if lp_ * lr = 0 then none else (Option.bind (f_T_addAll sz ro ra rb rc rx ry rz rs fa fb fc fd fe ff lp_ lr (nn / (lp_ * lr))) (fun z_17 => (lp_T_fill_44 fa fb fc fd fe ff cl nn n lp_ (lr + (1 : Int32)) z_17.1 z_17.2.1 fc_ fn_ z_17.2.2.1 z_17.2.2.2.1 z_17.2.2.2.2.1 z_17.2.2.2.2.2.1 z_17.2.2.2.2.2.2.1 z_17.2.2.2.2.2.2.2.1 z_17.2.2.2.2.2.2.2.2)))) else (lp_T_fill_44 fa fb fc fd fe ff cl nn n lp_ (lr + (1 : Int32)) ro sz fc_ fn_ ra rb rc rx ry rz rs)))
def lp_T_fill_35 (fa : Int64) (fb : Int64) (fc : Int64) (fd : Int64) (fe : Int64) (ff : Int64) (cl : Int32) (nn : Int32) : Nat → Int32 → (Nat → Int64) → Int32 → Int32 → Int32 → Int64 → Int64 → Int64 → Int64 → Int64 → Int64 → Int32 → Option ((Nat → Int64) × Int32 × Int32 × Int32 × Int64 × Int64 × Int64 × Int64 × Int64 × Int64 × Int32)
  | 0, _, _, _, _, _, _, _, _, _, _, _, _ => none
  | n + 1, lp_, ro, sz, fc_, fn_, ra, rb, rc, rx, ry, rz, rs =>
    if nn < lp_ then (some (ro, sz, fc_, fn_, ra, rb, rc, rx, ry, rz, rs)) else (Option.bind (lp_T_fill_44 fa fb fc fd fe ff cl nn 20 lp_ (1 : Int32) ro sz fc_ fn_ ra rb rc rx ry rz rs) (fun z_32 => (lp_T_fill_35 fa fb fc fd fe ff cl nn n (z_32.1 + (1 : Int32)) z_32.2.2.1 z_32.2.2.2.1 z_32.2.2.2.2.1 z_32.2.2.2.2.2.1 z_32.2.2.2.2.2.2.1 z_32.2.2.2.2.2.2.2.1 z_32.2.2.2.2.2.2.2.2.1 z_32.2.2.2.2.2.2.2.2.2.1 z_32.2.2.2.2.2.2.2.2.2.2.1 z_32.2.2.2.2.2.2.2.2.2.2.2.1 z_32.2.2.2.2.2.2.2.2.2.2.2.2)))
def f_T_fill (sz : Int32) (fc_ : Int32) (fn_ : Int32) (ro : Nat → Int64) (ra : Int64) (rb : Int64) (rc : Int64) (rx : Int64) (ry : Int64) (rz : Int64) (rs : Int32) (fa : Int64) (fb : Int64) (fc : Int64) (fd : Int64) (fe : Int64) (ff : Int64) (cl : Int32) (nn : Int32) : Option ((Nat → Int64) × Int32 × Int32 × Int32 × Int64 × Int64 × Int64 × Int64 × Int64 × Int64 × Int32) :=
    if fc_ = cl then (if fn_ = nn then (some (ro, sz, fc_, fn_, ra, rb, rc, rx, ry, rz, rs)) else (lp_T_fill_35 fa fb fc fd fe ff cl nn 20 (1 : Int32) ro (0 : Int32) cl nn ra rb rc rx ry rz rs)) else (lp_T_fill_35 fa fb fc fd fe ff cl nn 20 (1 : Int32) ro (0 : Int32) cl nn ra rb rc rx ry rz rs)
def w_T_fill : List Cond := .code y_T_fill b_T_fill 6 none :: GW
abbrev rm_T_fill : Room := { frames := 5, cells := 0, slots := 0, locals := 131 }
theorem g_T_fill : GoodIn GW w_T_fill := gi tm_318
set_option maxHeartbeats 4000000 in
set_option maxRecDepth 100000 in
theorem c_T_fill (l : Launch) (D : va_G) (ct : CT) (A : Nat → Prop) (wt : va_W) (k3 : Nat) (h0 : Nat) (h2 : Nat) (h1 : Nat) (sz : Int32) (fc_ : Int32) (fn_ : Int32) (ro : Nat → Int64) (ra : Int64) (rb : Int64) (rc : Int64) (rx : Int64) (ry : Int64) (rz : Int64) (rs : Int32) (h3 : Nat) (fa : Int64) (fb : Int64) (fc : Int64) (fd : Int64) (fe : Int64) (ff : Int64) (cl : Int32) (nn : Int32) (hk3 : wt[k3]? = some (h3, .inr (0, [.long fa, .long fb, .long fc, .long fd, .long fe, .long ff])))  (r0 : (Nat → Int64) × Int32 × Int32 × Int32 × Int64 × Int64 × Int64 × Int64 × Int64 × Int64 × Int32) (h : f_T_fill sz fc_ fn_ ro ra rb rc rx ry rz rs fa fb fc fd fe ff cl nn = some r0) : Met l y_T_fill w_T_fill rm_T_fill (va_Pc [.ref h0, .int cl, .ref h3, .int nn] (PreM D ct A ([(h0, .inr (2, [.ref h2, .ref h1, .int sz, .int fc_, .int fn_])), (h1, .inl (ct.1, 3185, .inr (.inl ro))), (h2, .inr (1, [.long ra, .long rb, .long rc, .long rx, .long ry, .long rz, .int rs]))] ++ wt))) (va_Qv (fun u => u = r0) (fun (u : (Nat → Int64) × Int32 × Int32 × Int32 × Int64 × Int64 × Int64 × Int64 × Int64 × Int64 × Int32) t => match u with | (ro', sz', fc_', fn_', ra', rb', rc', rx', ry', rz', rs') => va_P D classes ([(h0, .inr (2, [.ref h2, .ref h1, .int sz', .int fc_', .int fn_'])), (h1, .inl (ct.1, 3185, .inr (.inl ro'))), (h2, .inr (1, [.long ra', .long rb', .long rc', .long rx', .long ry', .long rz', .int rs']))] ++ wt) t.heap ∧ va_D A ([(h0, .inr (2, [.ref h2, .ref h1, .int sz', .int fc_', .int fn_'])), (h1, .inl (ct.1, 3185, .inr (.inl ro'))), (h2, .inr (1, [.long ra', .long rb', .long rc', .long rx', .long ry', .long rz', .int rs']))] ++ wt)) A) 0 0 A := by
  refine Met.ofW (cc := b_T_fill) (maxL := 6) (ret := none) (by decide) rfl ?_
  intro p e s m args below meth c s₁ B hml hv
  obtain ⟨rfl, hA, hP, hD, hKK⟩ := hv
  have hx := B.exec
  have hb := B.bytes
  have hr := B.returns
  have htg := ht_tl (atoms_spec (ws := w_T_fill) B.pre)
  have hown : s.vm.findClass R_Table = some m.cls := findClass_of_methodNamed B.named
  have hlocks := B.notSynchronized
  have hK := hKK.1
  have hN := hKK.2.1
  have hO := hKK.2.2
  have hS : va_S A s.heap s.heap [] := va_S.rf
  have hl := lv_entry ([.ref h0, .int cl, .ref h3, .int nn]) (n := 6) (Nat.le_of_ble_eq_true rfl)
  rw [lg_entry_eq]
  generalize (lg_sl ([.ref h0, .int cl, .ref h3, .int nn]) ++ List.replicate (6 - (lg_sl ([.ref h0, .int cl, .ref h3, .int nn])).length) Slot.unset).toArray = ls at hl ⊢
  have hl : lv_has ls 6 [(0, .ref h0), (1, .int cl), (2, .ref h3), (3, .int nn)] := hl
  unfold f_T_fill at h
  refine lv_aload_n hx hb d_T_fill_0 rfl (lv_at hl 0 rfl) ?_
  refine va_get (D := D) (ci := 2) (v := .int fc_) (C := R_Table) (T := F_Table) (N := 5) hx hb htg i_Table hown hK hP 0 rfl rfl 3 (by decide) (htg _ tm_87) (fun _ h9 => h9) rfl d_T_fill_1 ?_
  refine lv_iload_n hx hb d_T_fill_4 rfl (lv_at hl 1 rfl) ?_
  refine lv_icmp_ne (tgt := 17) hx hb d_T_fill_5 (by decide) (fun c_1 => ?_) (fun c_1 => ?_)
  · rw [if_neg c_1] at h
    refine lv_aload_n hx hb d_T_fill_17 rfl (lv_at hl 0 rfl) ?_
    refine lv_iload_n hx hb d_T_fill_18 rfl (lv_at hl 1 rfl) ?_
    refine va_put (D := D) (ci := 2) (v := .int cl) (ty := .int) (C := R_Table) (T := F_Table) (N := 5) hx hb htg i_Table t_Table t_Table_ok n_Table hown hK hP hD hS 0 rfl rfl 3 (by decide) (htg _ tm_87) (fun _ h9 => h9) rfl (by decide +kernel) rfl rfl (Nat.le_of_ble_eq_true rfl) d_T_fill_19 (fun H locs hP hD hS => ?_)
    have hP : va_P D classes ([(h0, .inr (2, [.ref h2, .ref h1, .int sz, .int cl, .int fn_])), (h1, .inl (ct.1, 3185, .inr (.inl ro))), (h2, .inr (1, [.long ra, .long rb, .long rc, .long rx, .long ry, .long rz, .int rs]))] ++ wt) H := hP
    have hD : va_D A ([(h0, .inr (2, [.ref h2, .ref h1, .int sz, .int cl, .int fn_])), (h1, .inl (ct.1, 3185, .inr (.inl ro))), (h2, .inr (1, [.long ra, .long rb, .long rc, .long rx, .long ry, .long rz, .int rs]))] ++ wt) := hD
    refine lv_aload_n hx hb d_T_fill_22 rfl (lv_at hl 0 rfl) ?_
    refine lv_iload_n hx hb d_T_fill_23 rfl (lv_at hl 3 rfl) ?_
    refine va_put (D := D) (ci := 2) (v := .int nn) (ty := .int) (C := R_Table) (T := F_Table) (N := 5) hx hb htg i_Table t_Table t_Table_ok n_Table hown hK hP hD hS 0 rfl rfl 4 (by decide) (htg _ tm_88) (fun _ h9 => h9) rfl (by decide +kernel) rfl rfl (Nat.le_of_ble_eq_true rfl) d_T_fill_24 (fun H locs hP hD hS => ?_)
    have hP : va_P D classes ([(h0, .inr (2, [.ref h2, .ref h1, .int sz, .int cl, .int nn])), (h1, .inl (ct.1, 3185, .inr (.inl ro))), (h2, .inr (1, [.long ra, .long rb, .long rc, .long rx, .long ry, .long rz, .int rs]))] ++ wt) H := hP
    have hD : va_D A ([(h0, .inr (2, [.ref h2, .ref h1, .int sz, .int cl, .int nn])), (h1, .inl (ct.1, 3185, .inr (.inl ro))), (h2, .inr (1, [.long ra, .long rb, .long rc, .long rx, .long ry, .long rz, .int rs]))] ++ wt) := hD
    refine lv_aload_n hx hb d_T_fill_27 rfl (lv_at hl 0 rfl) ?_
    refine lv_iconst (v := (0 : Int32)) hx hb d_T_fill_28 (by decide) ?_
    refine va_put (D := D) (ci := 2) (v := .int (0 : Int32)) (ty := .int) (C := R_Table) (T := F_Table) (N := 5) hx hb htg i_Table t_Table t_Table_ok n_Table hown hK hP hD hS 0 rfl rfl 2 (by decide) (htg _ tm_86) (fun _ h9 => h9) rfl (by decide +kernel) rfl rfl (Nat.le_of_ble_eq_true rfl) d_T_fill_29 (fun H locs hP hD hS => ?_)
    have hP : va_P D classes ([(h0, .inr (2, [.ref h2, .ref h1, .int (0 : Int32), .int cl, .int nn])), (h1, .inl (ct.1, 3185, .inr (.inl ro))), (h2, .inr (1, [.long ra, .long rb, .long rc, .long rx, .long ry, .long rz, .int rs]))] ++ wt) H := hP
    have hD : va_D A ([(h0, .inr (2, [.ref h2, .ref h1, .int (0 : Int32), .int cl, .int nn])), (h1, .inl (ct.1, 3185, .inr (.inl ro))), (h2, .inr (1, [.long ra, .long rb, .long rc, .long rx, .long ry, .long rz, .int rs]))] ++ wt) := hD
    refine lv_iconst (v := (1 : Int32)) hx hb d_T_fill_32 (by decide) ?_
    refine lv_istore (lv' := [(4, .int (1 : Int32)), (0, .ref h0), (1, .int cl), (2, .ref h3), (3, .int nn)]) hx hb d_T_fill_33 hl (by decide) rfl (fun ls hl => ?_)
    have L_44 : ∀ (n : Nat) (lp_ : Int32) (lr : Int32) (ro : Nat → Int64) (sz : Int32) (fc_ : Int32) (fn_ : Int32) (ra : Int64) (rb : Int64) (rc : Int64) (rx : Int64) (ry : Int64) (rz : Int64) (rs : Int32) (lp_' : Int32) (lr' : Int32) (ro' : Nat → Int64) (sz' : Int32) (fc_' : Int32) (fn_' : Int32) (ra' : Int64) (rb' : Int64) (rc' : Int64) (rx' : Int64) (ry' : Int64) (rz' : Int64) (rs' : Int32), lp_T_fill_44 fa fb fc fd fe ff cl nn n lp_ lr ro sz fc_ fn_ ra rb rc rx ry rz rs = some (lp_', lr', ro', sz', fc_', fn_', ra', rb', rc', rx', ry', rz', rs') → ∀ (H : Heap) (locs : List Loc), va_P D classes ([(h0, .inr (2, [.ref h2, .ref h1, .int sz, .int fc_, .int fn_])), (h1, .inl (ct.1, 3185, .inr (.inl ro))), (h2, .inr (1, [.long ra, .long rb, .long rc, .long rx, .long ry, .long rz, .int rs]))] ++ wt) H → va_D A ([(h0, .inr (2, [.ref h2, .ref h1, .int sz, .int fc_, .int fn_])), (h1, .inl (ct.1, 3185, .inr (.inl ro))), (h2, .inr (1, [.long ra, .long rb, .long rc, .long rx, .long ry, .long rz, .int rs]))] ++ wt) → va_S A s.heap H locs → ∀ (ls : Array Slot), lv_has ls 6 [(4, .int lp_), (5, .int lr), (0, .ref h0), (1, .int cl), (2, .ref h3), (3, .int nn)] → (∀ (H : Heap) (locs : List Loc), va_P D classes ([(h0, .inr (2, [.ref h2, .ref h1, .int sz', .int fc_', .int fn_'])), (h1, .inl (ct.1, 3185, .inr (.inl ro'))), (h2, .inr (1, [.long ra', .long rb', .long rc', .long rx', .long ry', .long rz', .int rs']))] ++ wt) H → va_D A ([(h0, .inr (2, [.ref h2, .ref h1, .int sz', .int fc_', .int fn_'])), (h1, .inl (ct.1, 3185, .inr (.inl ro'))), (h2, .inr (1, [.long ra', .long rb', .long rc', .long rx', .long ry', .long rz', .int rs']))] ++ wt) → va_S A s.heap H locs → ∀ (ls : Array Slot), lv_has ls 6 [(4, .int lp_'), (5, .int lr'), (0, .ref h0), (1, .int cl), (2, .ref h3), (3, .int nn)] → W p l e (headSpec w_T_fill rm_T_fill).room s m ([.ref h0, .int cl, .ref h3, .int nn] : List Value).toArray below meth c H locs 0 0 (MQ below (va_Qv (fun u => u = r0) (fun (u : (Nat → Int64) × Int32 × Int32 × Int32 × Int64 × Int64 × Int64 × Int64 × Int64 × Int64 × Int32) t => match u with | (ro', sz', fc_', fn_', ra', rb', rc', rx', ry', rz', rs') => va_P D classes ([(h0, .inr (2, [.ref h2, .ref h1, .int sz', .int fc_', .int fn_'])), (h1, .inl (ct.1, 3185, .inr (.inl ro'))), (h2, .inr (1, [.long ra', .long rb', .long rc', .long rx', .long ry', .long rz', .int rs']))] ++ wt) t.heap ∧ va_D A ([(h0, .inr (2, [.ref h2, .ref h1, .int sz', .int fc_', .int fn_'])), (h1, .inl (ct.1, 3185, .inr (.inl ro'))), (h2, .inr (1, [.long ra', .long rb', .long rc', .long rx', .long ry', .long rz', .int rs']))] ++ wt)) A) ([.ref h0, .int cl, .ref h3, .int nn] : List Value).toArray s 0 0 A) (F0 m 85 ls [])) → W p l e (headSpec w_T_fill rm_T_fill).room s m ([.ref h0, .int cl, .ref h3, .int nn] : List Value).toArray below meth c H locs 0 0 (MQ below (va_Qv (fun u => u = r0) (fun (u : (Nat → Int64) × Int32 × Int32 × Int32 × Int64 × Int64 × Int64 × Int64 × Int64 × Int64 × Int32) t => match u with | (ro', sz', fc_', fn_', ra', rb', rc', rx', ry', rz', rs') => va_P D classes ([(h0, .inr (2, [.ref h2, .ref h1, .int sz', .int fc_', .int fn_'])), (h1, .inl (ct.1, 3185, .inr (.inl ro'))), (h2, .inr (1, [.long ra', .long rb', .long rc', .long rx', .long ry', .long rz', .int rs']))] ++ wt) t.heap ∧ va_D A ([(h0, .inr (2, [.ref h2, .ref h1, .int sz', .int fc_', .int fn_'])), (h1, .inl (ct.1, 3185, .inr (.inl ro'))), (h2, .inr (1, [.long ra', .long rb', .long rc', .long rx', .long ry', .long rz', .int rs']))] ++ wt)) A) ([.ref h0, .int cl, .ref h3, .int nn] : List Value).toArray s 0 0 A) (F0 m 44 ls []) := by
      intro n
      induction n with
      | zero =>
        intro lp_ lr ro sz fc_ fn_ ra rb rc rx ry rz rs lp_' lr' ro' sz' fc_' fn_' ra' rb' rc' rx' ry' rz' rs' h
        rw [lp_T_fill_44] at h
        cases h
      | succ n ih =>
        intro lp_ lr ro sz fc_ fn_ ra rb rc rx ry rz rs lp_' lr' ro' sz' fc_' fn_' ra' rb' rc' rx' ry' rz' rs' h H locs hP hD hS ls hl K
        rw [lp_T_fill_44] at h
        refine lv_iload hx hb d_T_fill_44 (lv_at hl 0 rfl) ?_
        refine lv_iload hx hb d_T_fill_46 (lv_at hl 1 rfl) ?_
        refine lv_imul hx hb d_T_fill_48 ?_
        refine lv_iload_n hx hb d_T_fill_49 rfl (lv_at hl 5 rfl) ?_
        refine lv_icmp_gt (tgt := 85) hx hb d_T_fill_50 (by decide) (fun c_3 => ?_) (fun c_3 => ?_)
        · rw [if_pos c_3] at h
          cases h
          exact K _ _ hP hD hS _ (lv_sub hl [0, 1, 2, 3, 4, 5] rfl)
        · rw [if_neg c_3] at h
          refine lv_iload_n hx hb d_T_fill_53 rfl (lv_at hl 5 rfl) ?_
          refine lv_iload hx hb d_T_fill_54 (lv_at hl 0 rfl) ?_
          refine lv_iload hx hb d_T_fill_56 (lv_at hl 1 rfl) ?_
          refine lv_imul hx hb d_T_fill_58 ?_
          by_cases nz_4 : lp_ * lr = 0
          · rw [if_pos nz_4] at h; cases h
          rw [if_neg nz_4] at h
          refine lv_irem hx hb d_T_fill_59 nz_4 ?_
          refine lv_if_ne (tgt := 79) hx hb d_T_fill_60 (by decide) (fun c_5 => ?_) (fun c_5 => ?_)
          · rw [if_neg c_5] at h
            refine lv_iinc (v := lr + (1 : Int32)) (lv' := [(5, .int (lr + (1 : Int32))), (4, .int lp_), (0, .ref h0), (1, .int cl), (2, .ref h3), (3, .int nn)]) hx hb d_T_fill_79 hl (k := 1) rfl rfl (by decide) rfl (fun ls hl => ?_)
            refine lv_goto (tgt := 44) hx hb d_T_fill_82 (by decide) ?_
            exact ih lp_ (lr + (1 : Int32)) ro sz fc_ fn_ ra rb rc rx ry rz rs _ _ _ _ _ _ _ _ _ _ _ _ _ h H locs hP hD hS ls (lv_sub hl [1, 0, 2, 3, 4, 5] rfl) K
          · rw [if_pos c_5] at h
            refine lv_aload_n hx hb d_T_fill_63 rfl (lv_at hl 2 rfl) ?_
            refine lv_aload_n hx hb d_T_fill_64 rfl (lv_at hl 4 rfl) ?_
            refine lv_iload hx hb d_T_fill_65 (lv_at hl 0 rfl) ?_
            refine lv_iload hx hb d_T_fill_67 (lv_at hl 1 rfl) ?_
            refine lv_iload_n hx hb d_T_fill_69 rfl (lv_at hl 5 rfl) ?_
            refine lv_iload hx hb d_T_fill_70 (lv_at hl 0 rfl) ?_
            refine lv_iload hx hb d_T_fill_72 (lv_at hl 1 rfl) ?_
            refine lv_imul hx hb d_T_fill_74 ?_
            by_cases nz_6 : lp_ * lr = 0
            · rw [if_pos nz_6] at h; cases h
            rw [if_neg nz_6] at h
            refine lv_idiv hx hb d_T_fill_75 nz_6 ?_
            rcases e_16 : f_T_addAll sz ro ra rb rc rx ry rz rs fa fb fc fd fe ff lp_ lr (nn / (lp_ * lr)) with _ | ⟨ro_7, sz_8, ra_9, rb_10, rc_11, rx_12, ry_13, rz_14, rs_15⟩
            · rw [e_16] at h; cases h
            rw [e_16, Option.bind_some] at h
            try dsimp only at h
            refine va_callv (va_runV (As := [.ref h3, .int lp_, .int lr, .int (nn / (lp_ * lr))]) (rest := []) ⟨hx, hb, hml, hown, htg⟩ (c_T_addAll l D ct A ([] ++ wt) k3 h0 h2 h1 sz fc_ fn_ ro ra rb rc rx ry rz rs h3 fa fb fc fd fe ff lp_ lr (nn / (lp_ * lr)) hk3  _ e_16) (cwV 4 htg (giV tm_319 tm_321 tm_12 tm_33 g_T_addAll) rfl rfl rfl (by decide +kernel) ⟨Nat.le_of_ble_eq_true rfl, Nat.le_of_ble_eq_true rfl⟩) (preVM hA hS hP hD hKK (va_recv hK hP (ci := 2) (q0 := 0) rfl rfl)) rfl rfl hl.1 rfl (lv_room (Nat.le_of_ble_eq_true rfl)) d_T_fill_76 ⟨Nat.le_of_ble_eq_true rfl, Nat.le_of_ble_eq_true rfl⟩) hS (fun q _ h9 => h9) (fun q h9 => h9) (fun u9 t9 H locs ht9 hvm9 hw9 hB9 hz9 hk9 hS => ?_)
            rw [hw9] at hB9
            obtain ⟨hP, hD⟩ := hB9
            rw [ht9] at hP
            have hP : va_P D classes ([(h0, .inr (2, [.ref h2, .ref h1, .int sz_8, .int fc_, .int fn_])), (h1, .inl (ct.1, 3185, .inr (.inl ro_7))), (h2, .inr (1, [.long ra_9, .long rb_10, .long rc_11, .long rx_12, .long ry_13, .long rz_14, .int rs_15]))] ++ wt) H := hP
            have hD : va_D A ([(h0, .inr (2, [.ref h2, .ref h1, .int sz_8, .int fc_, .int fn_])), (h1, .inl (ct.1, 3185, .inr (.inl ro_7))), (h2, .inr (1, [.long ra_9, .long rb_10, .long rc_11, .long rx_12, .long ry_13, .long rz_14, .int rs_15]))] ++ wt) := hD
            refine lv_iinc (v := lr + (1 : Int32)) (lv' := [(5, .int (lr + (1 : Int32))), (4, .int lp_), (0, .ref h0), (1, .int cl), (2, .ref h3), (3, .int nn)]) hx hb d_T_fill_79 hl (k := 1) rfl rfl (by decide) rfl (fun ls hl => ?_)
            refine lv_goto (tgt := 44) hx hb d_T_fill_82 (by decide) ?_
            exact ih lp_ (lr + (1 : Int32)) ro_7 sz_8 fc_ fn_ ra_9 rb_10 rc_11 rx_12 ry_13 rz_14 rs_15 _ _ _ _ _ _ _ _ _ _ _ _ _ h H locs hP hD hS ls (lv_sub hl [1, 0, 2, 3, 4, 5] rfl) K
    have L_35 : ∀ (n : Nat) (lp_ : Int32) (ro : Nat → Int64) (sz : Int32) (fc_ : Int32) (fn_ : Int32) (ra : Int64) (rb : Int64) (rc : Int64) (rx : Int64) (ry : Int64) (rz : Int64) (rs : Int32) , lp_T_fill_35 fa fb fc fd fe ff cl nn n lp_ ro sz fc_ fn_ ra rb rc rx ry rz rs = some r0 → ∀ (H : Heap) (locs : List Loc), va_P D classes ([(h0, .inr (2, [.ref h2, .ref h1, .int sz, .int fc_, .int fn_])), (h1, .inl (ct.1, 3185, .inr (.inl ro))), (h2, .inr (1, [.long ra, .long rb, .long rc, .long rx, .long ry, .long rz, .int rs]))] ++ wt) H → va_D A ([(h0, .inr (2, [.ref h2, .ref h1, .int sz, .int fc_, .int fn_])), (h1, .inl (ct.1, 3185, .inr (.inl ro))), (h2, .inr (1, [.long ra, .long rb, .long rc, .long rx, .long ry, .long rz, .int rs]))] ++ wt) → va_S A s.heap H locs → ∀ (ls : Array Slot), lv_has ls 6 [(4, .int lp_), (0, .ref h0), (1, .int cl), (2, .ref h3), (3, .int nn)] → W p l e (headSpec w_T_fill rm_T_fill).room s m ([.ref h0, .int cl, .ref h3, .int nn] : List Value).toArray below meth c H locs 0 0 (MQ below (va_Qv (fun u => u = r0) (fun (u : (Nat → Int64) × Int32 × Int32 × Int32 × Int64 × Int64 × Int64 × Int64 × Int64 × Int64 × Int32) t => match u with | (ro', sz', fc_', fn_', ra', rb', rc', rx', ry', rz', rs') => va_P D classes ([(h0, .inr (2, [.ref h2, .ref h1, .int sz', .int fc_', .int fn_'])), (h1, .inl (ct.1, 3185, .inr (.inl ro'))), (h2, .inr (1, [.long ra', .long rb', .long rc', .long rx', .long ry', .long rz', .int rs']))] ++ wt) t.heap ∧ va_D A ([(h0, .inr (2, [.ref h2, .ref h1, .int sz', .int fc_', .int fn_'])), (h1, .inl (ct.1, 3185, .inr (.inl ro'))), (h2, .inr (1, [.long ra', .long rb', .long rc', .long rx', .long ry', .long rz', .int rs']))] ++ wt)) A) ([.ref h0, .int cl, .ref h3, .int nn] : List Value).toArray s 0 0 A) (F0 m 35 ls []) := by
      intro n
      induction n with
      | zero =>
        intro lp_ ro sz fc_ fn_ ra rb rc rx ry rz rs  h
        rw [lp_T_fill_35] at h
        cases h
      | succ n ih =>
        intro lp_ ro sz fc_ fn_ ra rb rc rx ry rz rs  h H locs hP hD hS ls hl
        rw [lp_T_fill_35] at h
        refine lv_iload hx hb d_T_fill_35 (lv_at hl 0 rfl) ?_
        refine lv_iload_n hx hb d_T_fill_37 rfl (lv_at hl 4 rfl) ?_
        refine lv_icmp_gt (tgt := 91) hx hb d_T_fill_38 (by decide) (fun c_2 => ?_) (fun c_2 => ?_)
        · rw [if_pos c_2] at h
          exact W.vret hx hb hr (fun t ht hW => ⟨⟨(ro, sz, fc_, fn_, ra, rb, rc, rx, ry, rz, rs), rfl, (Option.some.inj h), by rw [ht]; exact hP, hD⟩, hS.F ht⟩) hS.2.2 d_T_fill_91
        · rw [if_neg c_2] at h
          refine lv_iconst (v := (1 : Int32)) hx hb d_T_fill_41 (by decide) ?_
          refine lv_istore (lv' := [(5, .int (1 : Int32)), (4, .int lp_), (0, .ref h0), (1, .int cl), (2, .ref h3), (3, .int nn)]) hx hb d_T_fill_42 hl (by decide) rfl (fun ls hl => ?_)
          rcases e_31 : lp_T_fill_44 fa fb fc fd fe ff cl nn 20 lp_ (1 : Int32) ro sz fc_ fn_ ra rb rc rx ry rz rs with _ | ⟨lp__18, lr_19, ro_20, sz_21, fc__22, fn__23, ra_24, rb_25, rc_26, rx_27, ry_28, rz_29, rs_30⟩
          · rw [e_31] at h; cases h
          rw [e_31, Option.bind_some] at h
          try dsimp only at h
          refine L_44 20 lp_ (1 : Int32) ro sz fc_ fn_ ra rb rc rx ry rz rs lp__18 lr_19 ro_20 sz_21 fc__22 fn__23 ra_24 rb_25 rc_26 rx_27 ry_28 rz_29 rs_30 e_31 _ _ hP hD hS ls (lv_sub hl [1, 0, 2, 3, 4, 5] rfl) (fun H locs hP hD hS ls hl => ?_)
          refine lv_iinc (v := lp__18 + (1 : Int32)) (lv' := [(4, .int (lp__18 + (1 : Int32))), (5, .int lr_19), (0, .ref h0), (1, .int cl), (2, .ref h3), (3, .int nn)]) hx hb d_T_fill_85 hl (k := 0) rfl rfl (by decide) rfl (fun ls hl => ?_)
          refine lv_goto (tgt := 35) hx hb d_T_fill_88 (by decide) ?_
          exact ih (lp__18 + (1 : Int32)) ro_20 sz_21 fc__22 fn__23 ra_24 rb_25 rc_26 rx_27 ry_28 rz_29 rs_30 h H locs hP hD hS ls (lv_sub hl [0, 2, 3, 4, 5] rfl)
    exact L_35 20 (1 : Int32) ro (0 : Int32) cl nn ra rb rc rx ry rz rs h _ _ hP hD hS ls (lv_sub hl [0, 1, 2, 3, 4] rfl)
  · rw [if_pos c_1] at h
    refine lv_aload_n hx hb d_T_fill_8 rfl (lv_at hl 0 rfl) ?_
    refine va_get (D := D) (ci := 2) (v := .int fn_) (C := R_Table) (T := F_Table) (N := 5) hx hb htg i_Table hown hK hP 0 rfl rfl 4 (by decide) (htg _ tm_88) (fun _ h9 => h9) rfl d_T_fill_9 ?_
    refine lv_iload_n hx hb d_T_fill_12 rfl (lv_at hl 3 rfl) ?_
    refine lv_icmp_ne (tgt := 17) hx hb d_T_fill_13 (by decide) (fun c_33 => ?_) (fun c_33 => ?_)
    · rw [if_neg c_33] at h
      refine lv_aload_n hx hb d_T_fill_17 rfl (lv_at hl 0 rfl) ?_
      refine lv_iload_n hx hb d_T_fill_18 rfl (lv_at hl 1 rfl) ?_
      refine va_put (D := D) (ci := 2) (v := .int cl) (ty := .int) (C := R_Table) (T := F_Table) (N := 5) hx hb htg i_Table t_Table t_Table_ok n_Table hown hK hP hD hS 0 rfl rfl 3 (by decide) (htg _ tm_87) (fun _ h9 => h9) rfl (by decide +kernel) rfl rfl (Nat.le_of_ble_eq_true rfl) d_T_fill_19 (fun H locs hP hD hS => ?_)
      have hP : va_P D classes ([(h0, .inr (2, [.ref h2, .ref h1, .int sz, .int cl, .int fn_])), (h1, .inl (ct.1, 3185, .inr (.inl ro))), (h2, .inr (1, [.long ra, .long rb, .long rc, .long rx, .long ry, .long rz, .int rs]))] ++ wt) H := hP
      have hD : va_D A ([(h0, .inr (2, [.ref h2, .ref h1, .int sz, .int cl, .int fn_])), (h1, .inl (ct.1, 3185, .inr (.inl ro))), (h2, .inr (1, [.long ra, .long rb, .long rc, .long rx, .long ry, .long rz, .int rs]))] ++ wt) := hD
      refine lv_aload_n hx hb d_T_fill_22 rfl (lv_at hl 0 rfl) ?_
      refine lv_iload_n hx hb d_T_fill_23 rfl (lv_at hl 3 rfl) ?_
      refine va_put (D := D) (ci := 2) (v := .int nn) (ty := .int) (C := R_Table) (T := F_Table) (N := 5) hx hb htg i_Table t_Table t_Table_ok n_Table hown hK hP hD hS 0 rfl rfl 4 (by decide) (htg _ tm_88) (fun _ h9 => h9) rfl (by decide +kernel) rfl rfl (Nat.le_of_ble_eq_true rfl) d_T_fill_24 (fun H locs hP hD hS => ?_)
      have hP : va_P D classes ([(h0, .inr (2, [.ref h2, .ref h1, .int sz, .int cl, .int nn])), (h1, .inl (ct.1, 3185, .inr (.inl ro))), (h2, .inr (1, [.long ra, .long rb, .long rc, .long rx, .long ry, .long rz, .int rs]))] ++ wt) H := hP
      have hD : va_D A ([(h0, .inr (2, [.ref h2, .ref h1, .int sz, .int cl, .int nn])), (h1, .inl (ct.1, 3185, .inr (.inl ro))), (h2, .inr (1, [.long ra, .long rb, .long rc, .long rx, .long ry, .long rz, .int rs]))] ++ wt) := hD
      refine lv_aload_n hx hb d_T_fill_27 rfl (lv_at hl 0 rfl) ?_
      refine lv_iconst (v := (0 : Int32)) hx hb d_T_fill_28 (by decide) ?_
      refine va_put (D := D) (ci := 2) (v := .int (0 : Int32)) (ty := .int) (C := R_Table) (T := F_Table) (N := 5) hx hb htg i_Table t_Table t_Table_ok n_Table hown hK hP hD hS 0 rfl rfl 2 (by decide) (htg _ tm_86) (fun _ h9 => h9) rfl (by decide +kernel) rfl rfl (Nat.le_of_ble_eq_true rfl) d_T_fill_29 (fun H locs hP hD hS => ?_)
      have hP : va_P D classes ([(h0, .inr (2, [.ref h2, .ref h1, .int (0 : Int32), .int cl, .int nn])), (h1, .inl (ct.1, 3185, .inr (.inl ro))), (h2, .inr (1, [.long ra, .long rb, .long rc, .long rx, .long ry, .long rz, .int rs]))] ++ wt) H := hP
      have hD : va_D A ([(h0, .inr (2, [.ref h2, .ref h1, .int (0 : Int32), .int cl, .int nn])), (h1, .inl (ct.1, 3185, .inr (.inl ro))), (h2, .inr (1, [.long ra, .long rb, .long rc, .long rx, .long ry, .long rz, .int rs]))] ++ wt) := hD
      refine lv_iconst (v := (1 : Int32)) hx hb d_T_fill_32 (by decide) ?_
      refine lv_istore (lv' := [(4, .int (1 : Int32)), (0, .ref h0), (1, .int cl), (2, .ref h3), (3, .int nn)]) hx hb d_T_fill_33 hl (by decide) rfl (fun ls hl => ?_)
      have L_44 : ∀ (n : Nat) (lp_ : Int32) (lr : Int32) (ro : Nat → Int64) (sz : Int32) (fc_ : Int32) (fn_ : Int32) (ra : Int64) (rb : Int64) (rc : Int64) (rx : Int64) (ry : Int64) (rz : Int64) (rs : Int32) (lp_' : Int32) (lr' : Int32) (ro' : Nat → Int64) (sz' : Int32) (fc_' : Int32) (fn_' : Int32) (ra' : Int64) (rb' : Int64) (rc' : Int64) (rx' : Int64) (ry' : Int64) (rz' : Int64) (rs' : Int32), lp_T_fill_44 fa fb fc fd fe ff cl nn n lp_ lr ro sz fc_ fn_ ra rb rc rx ry rz rs = some (lp_', lr', ro', sz', fc_', fn_', ra', rb', rc', rx', ry', rz', rs') → ∀ (H : Heap) (locs : List Loc), va_P D classes ([(h0, .inr (2, [.ref h2, .ref h1, .int sz, .int fc_, .int fn_])), (h1, .inl (ct.1, 3185, .inr (.inl ro))), (h2, .inr (1, [.long ra, .long rb, .long rc, .long rx, .long ry, .long rz, .int rs]))] ++ wt) H → va_D A ([(h0, .inr (2, [.ref h2, .ref h1, .int sz, .int fc_, .int fn_])), (h1, .inl (ct.1, 3185, .inr (.inl ro))), (h2, .inr (1, [.long ra, .long rb, .long rc, .long rx, .long ry, .long rz, .int rs]))] ++ wt) → va_S A s.heap H locs → ∀ (ls : Array Slot), lv_has ls 6 [(4, .int lp_), (5, .int lr), (0, .ref h0), (1, .int cl), (2, .ref h3), (3, .int nn)] → (∀ (H : Heap) (locs : List Loc), va_P D classes ([(h0, .inr (2, [.ref h2, .ref h1, .int sz', .int fc_', .int fn_'])), (h1, .inl (ct.1, 3185, .inr (.inl ro'))), (h2, .inr (1, [.long ra', .long rb', .long rc', .long rx', .long ry', .long rz', .int rs']))] ++ wt) H → va_D A ([(h0, .inr (2, [.ref h2, .ref h1, .int sz', .int fc_', .int fn_'])), (h1, .inl (ct.1, 3185, .inr (.inl ro'))), (h2, .inr (1, [.long ra', .long rb', .long rc', .long rx', .long ry', .long rz', .int rs']))] ++ wt) → va_S A s.heap H locs → ∀ (ls : Array Slot), lv_has ls 6 [(4, .int lp_'), (5, .int lr'), (0, .ref h0), (1, .int cl), (2, .ref h3), (3, .int nn)] → W p l e (headSpec w_T_fill rm_T_fill).room s m ([.ref h0, .int cl, .ref h3, .int nn] : List Value).toArray below meth c H locs 0 0 (MQ below (va_Qv (fun u => u = r0) (fun (u : (Nat → Int64) × Int32 × Int32 × Int32 × Int64 × Int64 × Int64 × Int64 × Int64 × Int64 × Int32) t => match u with | (ro', sz', fc_', fn_', ra', rb', rc', rx', ry', rz', rs') => va_P D classes ([(h0, .inr (2, [.ref h2, .ref h1, .int sz', .int fc_', .int fn_'])), (h1, .inl (ct.1, 3185, .inr (.inl ro'))), (h2, .inr (1, [.long ra', .long rb', .long rc', .long rx', .long ry', .long rz', .int rs']))] ++ wt) t.heap ∧ va_D A ([(h0, .inr (2, [.ref h2, .ref h1, .int sz', .int fc_', .int fn_'])), (h1, .inl (ct.1, 3185, .inr (.inl ro'))), (h2, .inr (1, [.long ra', .long rb', .long rc', .long rx', .long ry', .long rz', .int rs']))] ++ wt)) A) ([.ref h0, .int cl, .ref h3, .int nn] : List Value).toArray s 0 0 A) (F0 m 85 ls [])) → W p l e (headSpec w_T_fill rm_T_fill).room s m ([.ref h0, .int cl, .ref h3, .int nn] : List Value).toArray below meth c H locs 0 0 (MQ below (va_Qv (fun u => u = r0) (fun (u : (Nat → Int64) × Int32 × Int32 × Int32 × Int64 × Int64 × Int64 × Int64 × Int64 × Int64 × Int32) t => match u with | (ro', sz', fc_', fn_', ra', rb', rc', rx', ry', rz', rs') => va_P D classes ([(h0, .inr (2, [.ref h2, .ref h1, .int sz', .int fc_', .int fn_'])), (h1, .inl (ct.1, 3185, .inr (.inl ro'))), (h2, .inr (1, [.long ra', .long rb', .long rc', .long rx', .long ry', .long rz', .int rs']))] ++ wt) t.heap ∧ va_D A ([(h0, .inr (2, [.ref h2, .ref h1, .int sz', .int fc_', .int fn_'])), (h1, .inl (ct.1, 3185, .inr (.inl ro'))), (h2, .inr (1, [.long ra', .long rb', .long rc', .long rx', .long ry', .long rz', .int rs']))] ++ wt)) A) ([.ref h0, .int cl, .ref h3, .int nn] : List Value).toArray s 0 0 A) (F0 m 44 ls []) := by
        intro n
        induction n with
        | zero =>
          intro lp_ lr ro sz fc_ fn_ ra rb rc rx ry rz rs lp_' lr' ro' sz' fc_' fn_' ra' rb' rc' rx' ry' rz' rs' h
          rw [lp_T_fill_44] at h
          cases h
        | succ n ih =>
          intro lp_ lr ro sz fc_ fn_ ra rb rc rx ry rz rs lp_' lr' ro' sz' fc_' fn_' ra' rb' rc' rx' ry' rz' rs' h H locs hP hD hS ls hl K
          rw [lp_T_fill_44] at h
          refine lv_iload hx hb d_T_fill_44 (lv_at hl 0 rfl) ?_
          refine lv_iload hx hb d_T_fill_46 (lv_at hl 1 rfl) ?_
          refine lv_imul hx hb d_T_fill_48 ?_
          refine lv_iload_n hx hb d_T_fill_49 rfl (lv_at hl 5 rfl) ?_
          refine lv_icmp_gt (tgt := 85) hx hb d_T_fill_50 (by decide) (fun c_35 => ?_) (fun c_35 => ?_)
          · rw [if_pos c_35] at h
            cases h
            exact K _ _ hP hD hS _ (lv_sub hl [0, 1, 2, 3, 4, 5] rfl)
          · rw [if_neg c_35] at h
            refine lv_iload_n hx hb d_T_fill_53 rfl (lv_at hl 5 rfl) ?_
            refine lv_iload hx hb d_T_fill_54 (lv_at hl 0 rfl) ?_
            refine lv_iload hx hb d_T_fill_56 (lv_at hl 1 rfl) ?_
            refine lv_imul hx hb d_T_fill_58 ?_
            by_cases nz_36 : lp_ * lr = 0
            · rw [if_pos nz_36] at h; cases h
            rw [if_neg nz_36] at h
            refine lv_irem hx hb d_T_fill_59 nz_36 ?_
            refine lv_if_ne (tgt := 79) hx hb d_T_fill_60 (by decide) (fun c_37 => ?_) (fun c_37 => ?_)
            · rw [if_neg c_37] at h
              refine lv_iinc (v := lr + (1 : Int32)) (lv' := [(5, .int (lr + (1 : Int32))), (4, .int lp_), (0, .ref h0), (1, .int cl), (2, .ref h3), (3, .int nn)]) hx hb d_T_fill_79 hl (k := 1) rfl rfl (by decide) rfl (fun ls hl => ?_)
              refine lv_goto (tgt := 44) hx hb d_T_fill_82 (by decide) ?_
              exact ih lp_ (lr + (1 : Int32)) ro sz fc_ fn_ ra rb rc rx ry rz rs _ _ _ _ _ _ _ _ _ _ _ _ _ h H locs hP hD hS ls (lv_sub hl [1, 0, 2, 3, 4, 5] rfl) K
            · rw [if_pos c_37] at h
              refine lv_aload_n hx hb d_T_fill_63 rfl (lv_at hl 2 rfl) ?_
              refine lv_aload_n hx hb d_T_fill_64 rfl (lv_at hl 4 rfl) ?_
              refine lv_iload hx hb d_T_fill_65 (lv_at hl 0 rfl) ?_
              refine lv_iload hx hb d_T_fill_67 (lv_at hl 1 rfl) ?_
              refine lv_iload_n hx hb d_T_fill_69 rfl (lv_at hl 5 rfl) ?_
              refine lv_iload hx hb d_T_fill_70 (lv_at hl 0 rfl) ?_
              refine lv_iload hx hb d_T_fill_72 (lv_at hl 1 rfl) ?_
              refine lv_imul hx hb d_T_fill_74 ?_
              by_cases nz_38 : lp_ * lr = 0
              · rw [if_pos nz_38] at h; cases h
              rw [if_neg nz_38] at h
              refine lv_idiv hx hb d_T_fill_75 nz_38 ?_
              rcases e_48 : f_T_addAll sz ro ra rb rc rx ry rz rs fa fb fc fd fe ff lp_ lr (nn / (lp_ * lr)) with _ | ⟨ro_39, sz_40, ra_41, rb_42, rc_43, rx_44, ry_45, rz_46, rs_47⟩
              · rw [e_48] at h; cases h
              rw [e_48, Option.bind_some] at h
              try dsimp only at h
              refine va_callv (va_runV (As := [.ref h3, .int lp_, .int lr, .int (nn / (lp_ * lr))]) (rest := []) ⟨hx, hb, hml, hown, htg⟩ (c_T_addAll l D ct A ([] ++ wt) k3 h0 h2 h1 sz fc_ fn_ ro ra rb rc rx ry rz rs h3 fa fb fc fd fe ff lp_ lr (nn / (lp_ * lr)) hk3  _ e_48) (cwV 4 htg (giV tm_319 tm_321 tm_12 tm_33 g_T_addAll) rfl rfl rfl (by decide +kernel) ⟨Nat.le_of_ble_eq_true rfl, Nat.le_of_ble_eq_true rfl⟩) (preVM hA hS hP hD hKK (va_recv hK hP (ci := 2) (q0 := 0) rfl rfl)) rfl rfl hl.1 rfl (lv_room (Nat.le_of_ble_eq_true rfl)) d_T_fill_76 ⟨Nat.le_of_ble_eq_true rfl, Nat.le_of_ble_eq_true rfl⟩) hS (fun q _ h9 => h9) (fun q h9 => h9) (fun u9 t9 H locs ht9 hvm9 hw9 hB9 hz9 hk9 hS => ?_)
              rw [hw9] at hB9
              obtain ⟨hP, hD⟩ := hB9
              rw [ht9] at hP
              have hP : va_P D classes ([(h0, .inr (2, [.ref h2, .ref h1, .int sz_40, .int fc_, .int fn_])), (h1, .inl (ct.1, 3185, .inr (.inl ro_39))), (h2, .inr (1, [.long ra_41, .long rb_42, .long rc_43, .long rx_44, .long ry_45, .long rz_46, .int rs_47]))] ++ wt) H := hP
              have hD : va_D A ([(h0, .inr (2, [.ref h2, .ref h1, .int sz_40, .int fc_, .int fn_])), (h1, .inl (ct.1, 3185, .inr (.inl ro_39))), (h2, .inr (1, [.long ra_41, .long rb_42, .long rc_43, .long rx_44, .long ry_45, .long rz_46, .int rs_47]))] ++ wt) := hD
              refine lv_iinc (v := lr + (1 : Int32)) (lv' := [(5, .int (lr + (1 : Int32))), (4, .int lp_), (0, .ref h0), (1, .int cl), (2, .ref h3), (3, .int nn)]) hx hb d_T_fill_79 hl (k := 1) rfl rfl (by decide) rfl (fun ls hl => ?_)
              refine lv_goto (tgt := 44) hx hb d_T_fill_82 (by decide) ?_
              exact ih lp_ (lr + (1 : Int32)) ro_39 sz_40 fc_ fn_ ra_41 rb_42 rc_43 rx_44 ry_45 rz_46 rs_47 _ _ _ _ _ _ _ _ _ _ _ _ _ h H locs hP hD hS ls (lv_sub hl [1, 0, 2, 3, 4, 5] rfl) K
      have L_35 : ∀ (n : Nat) (lp_ : Int32) (ro : Nat → Int64) (sz : Int32) (fc_ : Int32) (fn_ : Int32) (ra : Int64) (rb : Int64) (rc : Int64) (rx : Int64) (ry : Int64) (rz : Int64) (rs : Int32) , lp_T_fill_35 fa fb fc fd fe ff cl nn n lp_ ro sz fc_ fn_ ra rb rc rx ry rz rs = some r0 → ∀ (H : Heap) (locs : List Loc), va_P D classes ([(h0, .inr (2, [.ref h2, .ref h1, .int sz, .int fc_, .int fn_])), (h1, .inl (ct.1, 3185, .inr (.inl ro))), (h2, .inr (1, [.long ra, .long rb, .long rc, .long rx, .long ry, .long rz, .int rs]))] ++ wt) H → va_D A ([(h0, .inr (2, [.ref h2, .ref h1, .int sz, .int fc_, .int fn_])), (h1, .inl (ct.1, 3185, .inr (.inl ro))), (h2, .inr (1, [.long ra, .long rb, .long rc, .long rx, .long ry, .long rz, .int rs]))] ++ wt) → va_S A s.heap H locs → ∀ (ls : Array Slot), lv_has ls 6 [(4, .int lp_), (0, .ref h0), (1, .int cl), (2, .ref h3), (3, .int nn)] → W p l e (headSpec w_T_fill rm_T_fill).room s m ([.ref h0, .int cl, .ref h3, .int nn] : List Value).toArray below meth c H locs 0 0 (MQ below (va_Qv (fun u => u = r0) (fun (u : (Nat → Int64) × Int32 × Int32 × Int32 × Int64 × Int64 × Int64 × Int64 × Int64 × Int64 × Int32) t => match u with | (ro', sz', fc_', fn_', ra', rb', rc', rx', ry', rz', rs') => va_P D classes ([(h0, .inr (2, [.ref h2, .ref h1, .int sz', .int fc_', .int fn_'])), (h1, .inl (ct.1, 3185, .inr (.inl ro'))), (h2, .inr (1, [.long ra', .long rb', .long rc', .long rx', .long ry', .long rz', .int rs']))] ++ wt) t.heap ∧ va_D A ([(h0, .inr (2, [.ref h2, .ref h1, .int sz', .int fc_', .int fn_'])), (h1, .inl (ct.1, 3185, .inr (.inl ro'))), (h2, .inr (1, [.long ra', .long rb', .long rc', .long rx', .long ry', .long rz', .int rs']))] ++ wt)) A) ([.ref h0, .int cl, .ref h3, .int nn] : List Value).toArray s 0 0 A) (F0 m 35 ls []) := by
        intro n
        induction n with
        | zero =>
          intro lp_ ro sz fc_ fn_ ra rb rc rx ry rz rs  h
          rw [lp_T_fill_35] at h
          cases h
        | succ n ih =>
          intro lp_ ro sz fc_ fn_ ra rb rc rx ry rz rs  h H locs hP hD hS ls hl
          rw [lp_T_fill_35] at h
          refine lv_iload hx hb d_T_fill_35 (lv_at hl 0 rfl) ?_
          refine lv_iload_n hx hb d_T_fill_37 rfl (lv_at hl 4 rfl) ?_
          refine lv_icmp_gt (tgt := 91) hx hb d_T_fill_38 (by decide) (fun c_34 => ?_) (fun c_34 => ?_)
          · rw [if_pos c_34] at h
            exact W.vret hx hb hr (fun t ht hW => ⟨⟨(ro, sz, fc_, fn_, ra, rb, rc, rx, ry, rz, rs), rfl, (Option.some.inj h), by rw [ht]; exact hP, hD⟩, hS.F ht⟩) hS.2.2 d_T_fill_91
          · rw [if_neg c_34] at h
            refine lv_iconst (v := (1 : Int32)) hx hb d_T_fill_41 (by decide) ?_
            refine lv_istore (lv' := [(5, .int (1 : Int32)), (4, .int lp_), (0, .ref h0), (1, .int cl), (2, .ref h3), (3, .int nn)]) hx hb d_T_fill_42 hl (by decide) rfl (fun ls hl => ?_)
            rcases e_63 : lp_T_fill_44 fa fb fc fd fe ff cl nn 20 lp_ (1 : Int32) ro sz fc_ fn_ ra rb rc rx ry rz rs with _ | ⟨lp__50, lr_51, ro_52, sz_53, fc__54, fn__55, ra_56, rb_57, rc_58, rx_59, ry_60, rz_61, rs_62⟩
            · rw [e_63] at h; cases h
            rw [e_63, Option.bind_some] at h
            try dsimp only at h
            refine L_44 20 lp_ (1 : Int32) ro sz fc_ fn_ ra rb rc rx ry rz rs lp__50 lr_51 ro_52 sz_53 fc__54 fn__55 ra_56 rb_57 rc_58 rx_59 ry_60 rz_61 rs_62 e_63 _ _ hP hD hS ls (lv_sub hl [1, 0, 2, 3, 4, 5] rfl) (fun H locs hP hD hS ls hl => ?_)
            refine lv_iinc (v := lp__50 + (1 : Int32)) (lv' := [(4, .int (lp__50 + (1 : Int32))), (5, .int lr_51), (0, .ref h0), (1, .int cl), (2, .ref h3), (3, .int nn)]) hx hb d_T_fill_85 hl (k := 0) rfl rfl (by decide) rfl (fun ls hl => ?_)
            refine lv_goto (tgt := 35) hx hb d_T_fill_88 (by decide) ?_
            exact ih (lp__50 + (1 : Int32)) ro_52 sz_53 fc__54 fn__55 ra_56 rb_57 rc_58 rx_59 ry_60 rz_61 rs_62 h H locs hP hD hS ls (lv_sub hl [0, 2, 3, 4, 5] rfl)
      exact L_35 20 (1 : Int32) ro (0 : Int32) cl nn ra rb rc rx ry rz rs h _ _ hP hD hS ls (lv_sub hl [0, 1, 2, 3, 4] rfl)
    · rw [if_pos c_33] at h
      exact W.vret hx hb hr (fun t ht hW => ⟨⟨(ro, sz, fc_, fn_, ra, rb, rc, rx, ry, rz, rs), rfl, (Option.some.inj h), by rw [ht]; exact hP, hD⟩, hS.F ht⟩) hS.2.2 d_T_fill_16
-- CellBench$MultipleTable orderToOther (ILCellBench$MultipleTable;I)I
def lp_T_ordO_3 (sz : Int32) (ro : Nat → Int64) (sy : Int32) (rp : Nat → Int64) (rw : Int32) (ow : Int32) : Nat → Int32 → Option (Int32)
  | 0, _ => none
  | n + 1, wh =>
    if (6 : Int32) ≤ wh then (some (0 : Int32)) else (Option.bind (f_T_at sz ro rw wh) (fun z_8 => (Option.bind (f_T_at sy rp ow wh) (fun z_7 => (if (f_Long_cmp z_8 z_7) = 0 then (lp_T_ordO_3 sz ro sy rp rw ow n (wh + (1 : Int32))) else (some (f_Long_cmp z_8 z_7)))))))
def f_T_ordO (sz : Int32) (ro : Nat → Int64) (sy : Int32) (rp : Nat → Int64) (rw : Int32) (ow : Int32) : Option (Int32) :=
    lp_T_ordO_3 sz ro sy rp rw ow 7 (0 : Int32)
def w_T_ordO : List Cond := .code y_T_ordO b_T_ordO 6 (some .int) :: GW
abbrev rm_T_ordO : Room := { frames := 1, cells := 0, slots := 0, locals := 23 }
theorem g_T_ordO : GoodIn GW w_T_ordO := gi tm_379
set_option maxHeartbeats 4000000 in
set_option maxRecDepth 100000 in
theorem c_T_ordO (l : Launch) (D : va_G) (ct : CT) (ws : va_W) (k0 : Nat) (k1 : Nat) (k2 : Nat) (k3 : Nat) (h0 : Nat) (h2 : Nat) (h1 : Nat) (sz : Int32) (fc_ : Int32) (fn_ : Int32) (ro : Nat → Int64) (g0 : Nat) (g1 : Nat) (sy : Int32) (gc_ : Int32) (gn_ : Int32) (rp : Nat → Int64) (rw : Int32) (ow : Int32) (hk0 : ws[k0]? = some (h0, .inr (2, [.ref h2, .ref h1, .int sz, .int fc_, .int fn_]))) (hk1 : ws[k1]? = some (h1, .inl (ct.1, 3185, .inr (.inl ro)))) (hk2 : ws[k2]? = some (g0, .inr (2, [.ref h2, .ref g1, .int sy, .int gc_, .int gn_]))) (hk3 : ws[k3]? = some (g1, .inl (ct.1, 3185, .inr (.inl rp))))  (r0 : Int32) (h : f_T_ordO sz ro sy rp rw ow = some r0) : Met l y_T_ordO w_T_ordO rm_T_ordO (va_Pc [.ref h0, .int rw, .ref g0, .int ow] (PreP D ct ws)) (vp_Si (fun r => r = r0)) 0 0 (fun _ => False) := by
  refine Met.ofW (cc := b_T_ordO) (maxL := 6) (ret := (some .int)) (by decide) rfl ?_
  intro p e s m args below meth c s₁ B hml hv
  obtain ⟨rfl, hP, hKK⟩ := hv
  have hx := B.exec
  have hb := B.bytes
  have hr := B.returns
  have htg := ht_tl (atoms_spec (ws := w_T_ordO) B.pre)
  have hown : s.vm.findClass R_Table = some m.cls := findClass_of_methodNamed B.named
  have hlocks := B.notSynchronized
  have hK := hKK.1
  have hN := hKK.2.1
  have hO := hKK.2.2
  have hl := lv_entry ([.ref h0, .int rw, .ref g0, .int ow]) (n := 6) (Nat.le_of_ble_eq_true rfl)
  rw [lg_entry_eq]
  generalize (lg_sl ([.ref h0, .int rw, .ref g0, .int ow]) ++ List.replicate (6 - (lg_sl ([.ref h0, .int rw, .ref g0, .int ow])).length) Slot.unset).toArray = ls at hl ⊢
  have hl : lv_has ls 6 [(0, .ref h0), (1, .int rw), (2, .ref g0), (3, .int ow)] := hl
  unfold f_T_ordO at h
  refine lv_iconst (v := (0 : Int32)) hx hb d_T_ordO_0 (by decide) ?_
  refine lv_istore (lv' := [(4, .int (0 : Int32)), (0, .ref h0), (1, .int rw), (2, .ref g0), (3, .int ow)]) hx hb d_T_ordO_1 hl (by decide) rfl (fun ls hl => ?_)
  have L_3 : ∀ (n : Nat) (wh : Int32) , lp_T_ordO_3 sz ro sy rp rw ow n wh = some r0 → ∀ (ls : Array Slot), lv_has ls 6 [(4, .int wh), (0, .ref h0), (1, .int rw), (2, .ref g0), (3, .int ow)] → W p l e (headSpec w_T_ordO rm_T_ordO).room s m ([.ref h0, .int rw, .ref g0, .int ow] : List Value).toArray below meth c s.heap [] 0 0 (MQ below (vp_Si (fun r => r = r0)) ([.ref h0, .int rw, .ref g0, .int ow] : List Value).toArray s 0 0 (fun _ => False)) (F0 m 3 ls []) := by
    intro n
    induction n with
    | zero =>
      intro wh  h
      rw [lp_T_ordO_3] at h
      cases h
    | succ n ih =>
      intro wh  h ls hl
      rw [lp_T_ordO_3] at h
      refine lv_iload hx hb d_T_ordO_3 (lv_at hl 0 rfl) ?_
      refine lv_bipush (v := (6 : Int32)) hx hb d_T_ordO_5 (by decide) ?_
      refine lv_icmp_ge (tgt := 43) hx hb d_T_ordO_7 (by decide) (fun c_1 => ?_) (fun c_1 => ?_)
      · rw [if_pos c_1] at h
        refine lv_iconst (v := (0 : Int32)) hx hb d_T_ordO_43 (by decide) ?_
        exact W.iret (v := (0 : Int32)) hx hb hr (fun t ht hW => ⟨(0 : Int32), rfl, (Option.some.inj h), ht⟩) (fun q h => by cases h) d_T_ordO_44
      · rw [if_neg c_1] at h
        refine lv_aload_n hx hb d_T_ordO_10 rfl (lv_at hl 1 rfl) ?_
        refine lv_iload_n hx hb d_T_ordO_11 rfl (lv_at hl 2 rfl) ?_
        refine lv_iload hx hb d_T_ordO_12 (lv_at hl 0 rfl) ?_
        rcases e_2 : f_T_at sz ro rw wh with _ | v_3
        · rw [e_2] at h; cases h
        rw [e_2, Option.bind_some] at h
        try dsimp only at h
        refine vp_callSl (va_Run.run (va_runV (As := [.int rw, .int wh]) (rest := []) ⟨hx, hb, hml, hown, htg⟩ (c_T_at l D ct ws k0 k1 h0 h2 h1 sz fc_ fn_ ro rw wh hk0 hk1  _ e_2) (cwV 2 htg (giV tm_343 tm_344 tm_345 tm_33 g_T_at) rfl rfl rfl (by decide +kernel) ⟨Nat.le_of_ble_eq_true rfl, Nat.le_of_ble_eq_true rfl⟩) (preV hP hKK (va_recv hK hP (ci := 2) (q0 := k0) rfl hk0)) rfl rfl hl.1 rfl (lv_room (Nat.le_of_ble_eq_true rfl)) d_T_ordO_14 ⟨Nat.le_of_ble_eq_true rfl, Nat.le_of_ble_eq_true rfl⟩)) (fun r9 hr9 => ?_)
        have hr9 := hr9.symm
        subst hr9
        refine lv_aload_n hx hb d_T_ordO_17 rfl (lv_at hl 3 rfl) ?_
        refine lv_iload_n hx hb d_T_ordO_18 rfl (lv_at hl 4 rfl) ?_
        refine lv_iload hx hb d_T_ordO_19 (lv_at hl 0 rfl) ?_
        rcases e_4 : f_T_at sy rp ow wh with _ | v_5
        · rw [e_4] at h; cases h
        rw [e_4, Option.bind_some] at h
        try dsimp only at h
        refine vp_callSl (va_Run.run (va_runV (As := [.int ow, .int wh]) (rest := [.long v_3]) ⟨hx, hb, hml, hown, htg⟩ (c_T_at l D ct ws k2 k3 g0 h2 g1 sy gc_ gn_ rp ow wh hk2 hk3  _ e_4) (cwV 2 htg (giV tm_343 tm_344 tm_345 tm_33 g_T_at) rfl rfl rfl (by decide +kernel) ⟨Nat.le_of_ble_eq_true rfl, Nat.le_of_ble_eq_true rfl⟩) (preV hP hKK (va_recv hK hP (ci := 2) (q0 := k2) rfl hk2)) rfl rfl hl.1 rfl (lv_room (Nat.le_of_ble_eq_true rfl)) d_T_ordO_21 ⟨Nat.le_of_ble_eq_true rfl, Nat.le_of_ble_eq_true rfl⟩)) (fun r9 hr9 => ?_)
        have hr9 := hr9.symm
        subst hr9
        refine vp_callSi (va_Run.run (va_runS (As := [.long v_3, .long v_5]) (rest := []) ⟨hx, hb, hml, hown, htg⟩ (c_Long_cmp l D ct ws  v_3 v_5   _ rfl) ⟨callB_of 2 htg g_Long_cmp rfl rfl rfl (htg _ tm_37) (htg _ tm_351) (by decide +kernel) ⟨Nat.le_of_ble_eq_true rfl, Nat.le_of_ble_eq_true rfl⟩, (htg _ tm_200)⟩ (preS hP hKK) rfl rfl hl.1 rfl (lv_room (Nat.le_of_ble_eq_true rfl)) d_T_ordO_24 ⟨Nat.le_of_ble_eq_true rfl, Nat.le_of_ble_eq_true rfl⟩)) (fun r9 hr9 => ?_)
        have hr9 := hr9.symm
        subst hr9
        refine lv_istore (lv' := [(5, .int (f_Long_cmp v_3 v_5)), (4, .int wh), (0, .ref h0), (1, .int rw), (2, .ref g0), (3, .int ow)]) hx hb d_T_ordO_27 hl (by decide) rfl (fun ls hl => ?_)
        refine lv_iload hx hb d_T_ordO_29 (lv_at hl 0 rfl) ?_
        refine lv_if_eq (tgt := 37) hx hb d_T_ordO_31 (by decide) (fun c_6 => ?_) (fun c_6 => ?_)
        · rw [if_pos c_6] at h
          refine lv_iinc (v := wh + (1 : Int32)) (lv' := [(4, .int (wh + (1 : Int32))), (5, .int (f_Long_cmp v_3 v_5)), (0, .ref h0), (1, .int rw), (2, .ref g0), (3, .int ow)]) hx hb d_T_ordO_37 hl (k := 1) rfl rfl (by decide) rfl (fun ls hl => ?_)
          refine lv_goto (tgt := 3) hx hb d_T_ordO_40 (by decide) ?_
          exact ih (wh + (1 : Int32)) h ls (lv_sub hl [0, 2, 3, 4, 5] rfl)
        · rw [if_neg c_6] at h
          refine lv_iload hx hb d_T_ordO_34 (lv_at hl 0 rfl) ?_
          exact W.iret (v := f_Long_cmp v_3 v_5) hx hb hr (fun t ht hW => ⟨f_Long_cmp v_3 v_5, rfl, (Option.some.inj h), ht⟩) (fun q h => by cases h) d_T_ordO_36
  exact L_3 7 (0 : Int32) h ls (lv_sub hl [0, 1, 2, 3, 4] rfl)
-- CellBench$MultipleTable countShared (LCellBench$MultipleTable;)I
def lp_T_shared_16 (sz : Int32) (ro : Nat → Int64) (sy : Int32) (rp : Nat → Int64) : Nat → Int32 → Int32 → Int32 → Option (Int32 × Int32 × Int32)
  | 0, _, _, _ => none
  | n + 1, shd, thr, mn =>
    if sy ≤ thr then (some (shd, thr, mn)) else (Option.bind (f_T_ordO sz ro sy rp mn thr) (fun z_6 => (if z_6 ≤ 0 then (some (shd, thr, mn)) else (lp_T_shared_16 sz ro sy rp n shd (thr + (1 : Int32)) mn))))
def lp_T_shared_7 (sz : Int32) (ro : Nat → Int64) (sy : Int32) (rp : Nat → Int64) : Nat → Int32 → Int32 → Int32 → Option (Int32)
  | 0, _, _, _ => none
  | n + 1, shd, thr, mn =>
    if sz ≤ mn then (some shd) else (Option.bind (lp_T_shared_16 sz ro sy rp 500 shd thr mn) (fun z_16 => (if sy ≤ z_16.2.1 then (lp_T_shared_7 sz ro sy rp n z_16.1 z_16.2.1 (z_16.2.2 + (1 : Int32))) else (Option.bind (f_T_ordO sz ro sy rp z_16.2.2 z_16.2.1) (fun z_15 => (if z_15 = 0 then (lp_T_shared_7 sz ro sy rp n (z_16.1 + (1 : Int32)) z_16.2.1 (z_16.2.2 + (1 : Int32))) else (lp_T_shared_7 sz ro sy rp n z_16.1 z_16.2.1 (z_16.2.2 + (1 : Int32)))))))))
def f_T_shared (sz : Int32) (ro : Nat → Int64) (sy : Int32) (rp : Nat → Int64) : Option (Int32) :=
    lp_T_shared_7 sz ro sy rp 500 (0 : Int32) (0 : Int32) (0 : Int32)
def w_T_shared : List Cond := .code y_T_shared b_T_shared 5 (some .int) :: GW
abbrev rm_T_shared : Room := { frames := 2, cells := 0, slots := 0, locals := 48 }
theorem g_T_shared : GoodIn GW w_T_shared := gi tm_375
set_option maxHeartbeats 4000000 in
set_option maxRecDepth 100000 in
theorem c_T_shared (l : Launch) (D : va_G) (ct : CT) (ws : va_W) (k0 : Nat) (k1 : Nat) (k2 : Nat) (k3 : Nat) (h0 : Nat) (h2 : Nat) (h1 : Nat) (sz : Int32) (fc_ : Int32) (fn_ : Int32) (ro : Nat → Int64) (g0 : Nat) (g1 : Nat) (sy : Int32) (gc_ : Int32) (gn_ : Int32) (rp : Nat → Int64) (hk0 : ws[k0]? = some (h0, .inr (2, [.ref h2, .ref h1, .int sz, .int fc_, .int fn_]))) (hk1 : ws[k1]? = some (h1, .inl (ct.1, 3185, .inr (.inl ro)))) (hk2 : ws[k2]? = some (g0, .inr (2, [.ref h2, .ref g1, .int sy, .int gc_, .int gn_]))) (hk3 : ws[k3]? = some (g1, .inl (ct.1, 3185, .inr (.inl rp))))  (r0 : Int32) (h : f_T_shared sz ro sy rp = some r0) : Met l y_T_shared w_T_shared rm_T_shared (va_Pc [.ref h0, .ref g0] (PreP D ct ws)) (vp_Si (fun r => r = r0)) 0 0 (fun _ => False) := by
  refine Met.ofW (cc := b_T_shared) (maxL := 5) (ret := (some .int)) (by decide) rfl ?_
  intro p e s m args below meth c s₁ B hml hv
  obtain ⟨rfl, hP, hKK⟩ := hv
  have hx := B.exec
  have hb := B.bytes
  have hr := B.returns
  have htg := ht_tl (atoms_spec (ws := w_T_shared) B.pre)
  have hown : s.vm.findClass R_Table = some m.cls := findClass_of_methodNamed B.named
  have hlocks := B.notSynchronized
  have hK := hKK.1
  have hN := hKK.2.1
  have hO := hKK.2.2
  have hl := lv_entry ([.ref h0, .ref g0]) (n := 5) (Nat.le_of_ble_eq_true rfl)
  rw [lg_entry_eq]
  generalize (lg_sl ([.ref h0, .ref g0]) ++ List.replicate (5 - (lg_sl ([.ref h0, .ref g0])).length) Slot.unset).toArray = ls at hl ⊢
  have hl : lv_has ls 5 [(0, .ref h0), (1, .ref g0)] := hl
  unfold f_T_shared at h
  refine lv_iconst (v := (0 : Int32)) hx hb d_T_shared_0 (by decide) ?_
  refine lv_istore_n (lv' := [(2, .int (0 : Int32)), (0, .ref h0), (1, .ref g0)]) hx hb d_T_shared_1 rfl hl (by decide) rfl (fun ls hl => ?_)
  refine lv_iconst (v := (0 : Int32)) hx hb d_T_shared_2 (by decide) ?_
  refine lv_istore_n (lv' := [(3, .int (0 : Int32)), (2, .int (0 : Int32)), (0, .ref h0), (1, .ref g0)]) hx hb d_T_shared_3 rfl hl (by decide) rfl (fun ls hl => ?_)
  refine lv_iconst (v := (0 : Int32)) hx hb d_T_shared_4 (by decide) ?_
  refine lv_istore (lv' := [(4, .int (0 : Int32)), (3, .int (0 : Int32)), (2, .int (0 : Int32)), (0, .ref h0), (1, .ref g0)]) hx hb d_T_shared_5 hl (by decide) rfl (fun ls hl => ?_)
  have L_16 : ∀ (n : Nat) (shd : Int32) (thr : Int32) (mn : Int32) (shd' : Int32) (thr' : Int32) (mn' : Int32), lp_T_shared_16 sz ro sy rp n shd thr mn = some (shd', thr', mn') → ∀ (ls : Array Slot), lv_has ls 5 [(2, .int shd), (3, .int thr), (4, .int mn), (0, .ref h0), (1, .ref g0)] → (∀ (ls : Array Slot), lv_has ls 5 [(2, .int shd'), (3, .int thr'), (4, .int mn'), (0, .ref h0), (1, .ref g0)] → W p l e (headSpec w_T_shared rm_T_shared).room s m ([.ref h0, .ref g0] : List Value).toArray below meth c s.heap [] 0 0 (MQ below (vp_Si (fun r => r = r0)) ([.ref h0, .ref g0] : List Value).toArray s 0 0 (fun _ => False)) (F0 m 41 ls [])) → W p l e (headSpec w_T_shared rm_T_shared).room s m ([.ref h0, .ref g0] : List Value).toArray below meth c s.heap [] 0 0 (MQ below (vp_Si (fun r => r = r0)) ([.ref h0, .ref g0] : List Value).toArray s 0 0 (fun _ => False)) (F0 m 16 ls []) := by
    intro n
    induction n with
    | zero =>
      intro shd thr mn shd' thr' mn' h
      rw [lp_T_shared_16] at h
      cases h
    | succ n ih =>
      intro shd thr mn shd' thr' mn' h ls hl K
      rw [lp_T_shared_16] at h
      refine lv_iload_n hx hb d_T_shared_16 rfl (lv_at hl 1 rfl) ?_
      refine lv_aload_n hx hb d_T_shared_17 rfl (lv_at hl 4 rfl) ?_
      refine va_get (D := D) (ci := 2) (v := .int sy) (C := R_Table) (T := F_Table) (N := 5) hx hb htg i_Table hown hK hP k2 hk2 rfl 2 (by decide) (htg _ tm_86) (fun _ h9 => h9) rfl d_T_shared_18 ?_
      refine lv_icmp_ge (tgt := 41) hx hb d_T_shared_21 (by decide) (fun c_2 => ?_) (fun c_2 => ?_)
      · rw [if_pos c_2] at h
        cases h
        exact K _ (lv_sub hl [0, 1, 2, 3, 4] rfl)
      · rw [if_neg c_2] at h
        refine lv_aload_n hx hb d_T_shared_24 rfl (lv_at hl 3 rfl) ?_
        refine lv_iload hx hb d_T_shared_25 (lv_at hl 2 rfl) ?_
        refine lv_aload_n hx hb d_T_shared_27 rfl (lv_at hl 4 rfl) ?_
        refine lv_iload_n hx hb d_T_shared_28 rfl (lv_at hl 1 rfl) ?_
        rcases e_3 : f_T_ordO sz ro sy rp mn thr with _ | v_4
        · rw [e_3] at h; cases h
        rw [e_3, Option.bind_some] at h
        try dsimp only at h
        refine vp_callSi (va_Run.run (va_runV (As := [.int mn, .ref g0, .int thr]) (rest := []) ⟨hx, hb, hml, hown, htg⟩ (c_T_ordO l D ct ws k0 k1 k2 k3 h0 h2 h1 sz fc_ fn_ ro g0 g1 sy gc_ gn_ rp mn thr hk0 hk1 hk2 hk3  _ e_3) (cwV 3 htg (giV tm_376 tm_378 tm_18 tm_33 g_T_ordO) rfl rfl rfl (by decide +kernel) ⟨Nat.le_of_ble_eq_true rfl, Nat.le_of_ble_eq_true rfl⟩) (preV hP hKK (va_recv hK hP (ci := 2) (q0 := k0) rfl hk0)) rfl rfl hl.1 rfl (lv_room (Nat.le_of_ble_eq_true rfl)) d_T_shared_29 ⟨Nat.le_of_ble_eq_true rfl, Nat.le_of_ble_eq_true rfl⟩)) (fun r9 hr9 => ?_)
        have hr9 := hr9.symm
        subst hr9
        refine lv_if_le (tgt := 41) hx hb d_T_shared_32 (by decide) (fun c_5 => ?_) (fun c_5 => ?_)
        · rw [if_pos c_5] at h
          cases h
          exact K _ (lv_sub hl [0, 1, 2, 3, 4] rfl)
        · rw [if_neg c_5] at h
          refine lv_iinc (v := thr + (1 : Int32)) (lv' := [(3, .int (thr + (1 : Int32))), (2, .int shd), (4, .int mn), (0, .ref h0), (1, .ref g0)]) hx hb d_T_shared_35 hl (k := 1) rfl rfl (by decide) rfl (fun ls hl => ?_)
          refine lv_goto (tgt := 16) hx hb d_T_shared_38 (by decide) ?_
          exact ih shd (thr + (1 : Int32)) mn _ _ _ h ls (lv_sub hl [1, 0, 2, 3, 4] rfl) K
  have L_7 : ∀ (n : Nat) (shd : Int32) (thr : Int32) (mn : Int32) , lp_T_shared_7 sz ro sy rp n shd thr mn = some r0 → ∀ (ls : Array Slot), lv_has ls 5 [(2, .int shd), (3, .int thr), (4, .int mn), (0, .ref h0), (1, .ref g0)] → W p l e (headSpec w_T_shared rm_T_shared).room s m ([.ref h0, .ref g0] : List Value).toArray below meth c s.heap [] 0 0 (MQ below (vp_Si (fun r => r = r0)) ([.ref h0, .ref g0] : List Value).toArray s 0 0 (fun _ => False)) (F0 m 7 ls []) := by
    intro n
    induction n with
    | zero =>
      intro shd thr mn  h
      rw [lp_T_shared_7] at h
      cases h
    | succ n ih =>
      intro shd thr mn  h ls hl
      rw [lp_T_shared_7] at h
      refine lv_iload hx hb d_T_shared_7 (lv_at hl 2 rfl) ?_
      refine lv_aload_n hx hb d_T_shared_9 rfl (lv_at hl 3 rfl) ?_
      refine va_get (D := D) (ci := 2) (v := .int sz) (C := R_Table) (T := F_Table) (N := 5) hx hb htg i_Table hown hK hP k0 hk0 rfl 2 (by decide) (htg _ tm_86) (fun _ h9 => h9) rfl d_T_shared_10 ?_
      refine lv_icmp_ge (tgt := 69) hx hb d_T_shared_13 (by decide) (fun c_1 => ?_) (fun c_1 => ?_)
      · rw [if_pos c_1] at h
        refine lv_iload_n hx hb d_T_shared_69 rfl (lv_at hl 0 rfl) ?_
        exact W.iret (v := shd) hx hb hr (fun t ht hW => ⟨shd, rfl, (Option.some.inj h), ht⟩) (fun q h => by cases h) d_T_shared_70
      · rw [if_neg c_1] at h
        rcases e_10 : lp_T_shared_16 sz ro sy rp 500 shd thr mn with _ | ⟨shd_7, thr_8, mn_9⟩
        · rw [e_10] at h; cases h
        rw [e_10, Option.bind_some] at h
        try dsimp only at h
        refine L_16 500 shd thr mn shd_7 thr_8 mn_9 e_10 ls (lv_sub hl [0, 1, 2, 3, 4] rfl) (fun ls hl => ?_)
        refine lv_iload_n hx hb d_T_shared_41 rfl (lv_at hl 1 rfl) ?_
        refine lv_aload_n hx hb d_T_shared_42 rfl (lv_at hl 4 rfl) ?_
        refine va_get (D := D) (ci := 2) (v := .int sy) (C := R_Table) (T := F_Table) (N := 5) hx hb htg i_Table hown hK hP k2 hk2 rfl 2 (by decide) (htg _ tm_86) (fun _ h9 => h9) rfl d_T_shared_43 ?_
        refine lv_icmp_ge (tgt := 63) hx hb d_T_shared_46 (by decide) (fun c_11 => ?_) (fun c_11 => ?_)
        · rw [if_pos c_11] at h
          refine lv_iinc (v := mn_9 + (1 : Int32)) (lv' := [(4, .int (mn_9 + (1 : Int32))), (2, .int shd_7), (3, .int thr_8), (0, .ref h0), (1, .ref g0)]) hx hb d_T_shared_63 hl (k := 2) rfl rfl (by decide) rfl (fun ls hl => ?_)
          refine lv_goto (tgt := 7) hx hb d_T_shared_66 (by decide) ?_
          exact ih shd_7 thr_8 (mn_9 + (1 : Int32)) h ls (lv_sub hl [1, 2, 0, 3, 4] rfl)
        · rw [if_neg c_11] at h
          refine lv_aload_n hx hb d_T_shared_49 rfl (lv_at hl 3 rfl) ?_
          refine lv_iload hx hb d_T_shared_50 (lv_at hl 2 rfl) ?_
          refine lv_aload_n hx hb d_T_shared_52 rfl (lv_at hl 4 rfl) ?_
          refine lv_iload_n hx hb d_T_shared_53 rfl (lv_at hl 1 rfl) ?_
          rcases e_12 : f_T_ordO sz ro sy rp mn_9 thr_8 with _ | v_13
          · rw [e_12] at h; cases h
          rw [e_12, Option.bind_some] at h
          try dsimp only at h
          refine vp_callSi (va_Run.run (va_runV (As := [.int mn_9, .ref g0, .int thr_8]) (rest := []) ⟨hx, hb, hml, hown, htg⟩ (c_T_ordO l D ct ws k0 k1 k2 k3 h0 h2 h1 sz fc_ fn_ ro g0 g1 sy gc_ gn_ rp mn_9 thr_8 hk0 hk1 hk2 hk3  _ e_12) (cwV 3 htg (giV tm_376 tm_378 tm_18 tm_33 g_T_ordO) rfl rfl rfl (by decide +kernel) ⟨Nat.le_of_ble_eq_true rfl, Nat.le_of_ble_eq_true rfl⟩) (preV hP hKK (va_recv hK hP (ci := 2) (q0 := k0) rfl hk0)) rfl rfl hl.1 rfl (lv_room (Nat.le_of_ble_eq_true rfl)) d_T_shared_54 ⟨Nat.le_of_ble_eq_true rfl, Nat.le_of_ble_eq_true rfl⟩)) (fun r9 hr9 => ?_)
          have hr9 := hr9.symm
          subst hr9
          refine lv_if_ne (tgt := 63) hx hb d_T_shared_57 (by decide) (fun c_14 => ?_) (fun c_14 => ?_)
          · rw [if_neg c_14] at h
            refine lv_iinc (v := mn_9 + (1 : Int32)) (lv' := [(4, .int (mn_9 + (1 : Int32))), (2, .int shd_7), (3, .int thr_8), (0, .ref h0), (1, .ref g0)]) hx hb d_T_shared_63 hl (k := 2) rfl rfl (by decide) rfl (fun ls hl => ?_)
            refine lv_goto (tgt := 7) hx hb d_T_shared_66 (by decide) ?_
            exact ih shd_7 thr_8 (mn_9 + (1 : Int32)) h ls (lv_sub hl [1, 2, 0, 3, 4] rfl)
          · rw [if_pos c_14] at h
            refine lv_iinc (v := shd_7 + (1 : Int32)) (lv' := [(2, .int (shd_7 + (1 : Int32))), (3, .int thr_8), (4, .int mn_9), (0, .ref h0), (1, .ref g0)]) hx hb d_T_shared_60 hl (k := 0) rfl rfl (by decide) rfl (fun ls hl => ?_)
            refine lv_iinc (v := mn_9 + (1 : Int32)) (lv' := [(4, .int (mn_9 + (1 : Int32))), (2, .int (shd_7 + (1 : Int32))), (3, .int thr_8), (0, .ref h0), (1, .ref g0)]) hx hb d_T_shared_63 hl (k := 2) rfl rfl (by decide) rfl (fun ls hl => ?_)
            refine lv_goto (tgt := 7) hx hb d_T_shared_66 (by decide) ?_
            exact ih (shd_7 + (1 : Int32)) thr_8 (mn_9 + (1 : Int32)) h ls (lv_sub hl [1, 2, 0, 3, 4] rfl)
  exact L_7 500 (0 : Int32) (0 : Int32) (0 : Int32) h ls (lv_sub hl [2, 1, 0, 3, 4] rfl)
-- CellBench$MultipleTable <init> (LCellBench$Reducer;)V
def f_T_init  : Int32 × Int32 × Int32 × (Nat → Int64) :=
    ((0 : Int32), (-1 : Int32), (0 : Int32), (fun _ => 0))
def w_T_init : List Cond := .code y_T_init b_T_init 2 none :: GW
abbrev rm_T_init : Room := { frames := 1, cells := 1, slots := 3185, locals := 12 }
theorem g_T_init : GoodIn GW w_T_init := gi tm_82
set_option maxHeartbeats 4000000 in
set_option maxRecDepth 100000 in
theorem c_T_init (l : Launch) (D : va_G) (ct : CT) (A : Nat → Prop) (wt : va_W)  (h0 : Nat) (h2 : Nat) (sz : Int32) (fc_ : Int32) (fn_ : Int32)   (r0 : Int32 × Int32 × Int32 × (Nat → Int64)) (h : f_T_init  = r0) : Met l y_T_init w_T_init rm_T_init (va_Pc [.ref h0, .ref h2] (PreM D ct A ([(h0, .inr (2, [.null, .null, .int sz, .int fc_, .int fn_]))] ++ wt))) (va_Qv (fun u => u = r0) (fun (u : Int32 × Int32 × Int32 × (Nat → Int64)) t => match u with | (sz', fc_', fn_', ro') => ∃ q1 : Nat, va_P D classes ([(h0, .inr (2, [.ref h2, .ref q1, .int sz', .int fc_', .int fn_'])), (q1, .inl (ct.1, 3185, .inr (.inl ro')))] ++ wt) t.heap ∧ va_D A ([(h0, .inr (2, [.ref h2, .ref q1, .int sz', .int fc_', .int fn_'])), (q1, .inl (ct.1, 3185, .inr (.inl ro')))] ++ wt)) A) 1 3185 A := by
  refine Met.ofW (cc := b_T_init) (maxL := 2) (ret := none) (by decide) rfl ?_
  intro p e s m args below meth c s₁ B hml hv
  obtain ⟨rfl, hA, hP, hD, hKK⟩ := hv
  have hx := B.exec
  have hb := B.bytes
  have hr := B.returns
  have htg := ht_tl (atoms_spec (ws := w_T_init) B.pre)
  have hown : s.vm.findClass R_Table = some m.cls := findClass_of_methodNamed B.named
  have hlocks := B.notSynchronized
  have hin : meth.name = "<init>" := (name_of_methodNamed B.named B.method).1
  have hK := hKK.1
  have hN := hKK.2.1
  have hO := hKK.2.2
  have hS : va_S A s.heap s.heap [] := va_S.rf
  have hl := lv_entry ([.ref h0, .ref h2]) (n := 2) (Nat.le_of_ble_eq_true rfl)
  rw [lg_entry_eq]
  generalize (lg_sl ([.ref h0, .ref h2]) ++ List.replicate (2 - (lg_sl ([.ref h0, .ref h2])).length) Slot.unset).toArray = ls at hl ⊢
  have hl : lv_has ls 2 [(0, .ref h0), (1, .ref h2)] := hl
  unfold f_T_init at h
  refine lv_aload_n hx hb d_T_init_0 rfl (lv_at hl 0 rfl) ?_
  refine W.objInit hx hb hown (htg _ tm_83) (htg _ tm_46) (htg _ tm_47) rfl (by rw [hml]; exact hl.1) rfl d_T_init_1 (Nat.le_of_ble_eq_true rfl) (Nat.le_of_ble_eq_true rfl) ?_
  refine W.eq (g2 := F0 m 4 ls []) rfl ?_
  refine lv_aload_n hx hb d_T_init_4 rfl (lv_at hl 0 rfl) ?_
  refine lv_aload_n hx hb d_T_init_5 rfl (lv_at hl 1 rfl) ?_
  refine va_putF (D := D) (ci := 2) (v := .ref h2) (ty := .object "CellBench$Reducer") (C := R_Table) (T := F_Table) (N := 5) hx hb htg i_Table t_Table t_Table_ok n_Table hown hK hP hD hS 0 rfl rfl 0 (by decide) (htg _ tm_84) (fun _ h9 => h9) rfl hin rfl (by decide +kernel) rfl rfl (Nat.le_of_ble_eq_true rfl) d_T_init_6 (fun H locs hP hD hS => ?_)
  have hP : va_P D classes ([(h0, .inr (2, [.ref h2, .null, .int sz, .int fc_, .int fn_]))] ++ wt) H := hP
  have hD : va_D A ([(h0, .inr (2, [.ref h2, .null, .int sz, .int fc_, .int fn_]))] ++ wt) := hD
  refine lv_aload_n hx hb d_T_init_9 rfl (lv_at hl 0 rfl) ?_
  refine lv_sipush (v := (3185 : Int32)) hx hb d_T_init_10 (by decide) ?_
  refine va_newa (atype := .long) (ty := .long) (N' := 3185) (a0 := (3185, .inr (.inl (fun _ => 0)))) hx hb (htg _ tm_100) rfl hK hP hD hS hA (fun _ => rfl) (by decide) (by decide) (by decide) (Nat.le_of_ble_eq_true rfl) (Nat.le_of_ble_eq_true rfl) d_T_init_13 (fun q_1 cA9 H hK9 hP hD hS => ?_)
  have hc9 := newJ hK9
  subst hc9
  have hP := hP.swap
  have hD := hD.swap
  have hP : va_P D classes ([(h0, .inr (2, [.ref h2, .null, .int sz, .int fc_, .int fn_])), (q_1, .inl (ct.1, 3185, .inr (.inl (fun _ => 0))))] ++ wt) H := hP
  have hD : va_D A ([(h0, .inr (2, [.ref h2, .null, .int sz, .int fc_, .int fn_])), (q_1, .inl (ct.1, 3185, .inr (.inl (fun _ => 0))))] ++ wt) := hD
  refine W.widen (k := 1) (n := 3185) (Nat.le_refl _) (Nat.le_refl _) ?_
  refine va_putF (D := D) (ci := 2) (v := .ref q_1) (ty := .array .long) (C := R_Table) (T := F_Table) (N := 5) hx hb htg i_Table t_Table t_Table_ok n_Table hown hK hP hD hS 0 rfl rfl 1 (by decide) (htg _ tm_85) (fun _ h9 => h9) rfl hin rfl (by decide +kernel) rfl rfl (Nat.le_of_ble_eq_true rfl) d_T_init_15 (fun H locs hP hD hS => ?_)
  have hP : va_P D classes ([(h0, .inr (2, [.ref h2, .ref q_1, .int sz, .int fc_, .int fn_])), (q_1, .inl (ct.1, 3185, .inr (.inl (fun _ => 0))))] ++ wt) H := hP
  have hD : va_D A ([(h0, .inr (2, [.ref h2, .ref q_1, .int sz, .int fc_, .int fn_])), (q_1, .inl (ct.1, 3185, .inr (.inl (fun _ => 0))))] ++ wt) := hD
  refine lv_aload_n hx hb d_T_init_18 rfl (lv_at hl 0 rfl) ?_
  refine lv_iconst (v := (0 : Int32)) hx hb d_T_init_19 (by decide) ?_
  refine va_put (D := D) (ci := 2) (v := .int (0 : Int32)) (ty := .int) (C := R_Table) (T := F_Table) (N := 5) hx hb htg i_Table t_Table t_Table_ok n_Table hown hK hP hD hS 0 rfl rfl 2 (by decide) (htg _ tm_86) (fun _ h9 => h9) rfl (by decide +kernel) rfl rfl (Nat.le_of_ble_eq_true rfl) d_T_init_20 (fun H locs hP hD hS => ?_)
  have hP : va_P D classes ([(h0, .inr (2, [.ref h2, .ref q_1, .int (0 : Int32), .int fc_, .int fn_])), (q_1, .inl (ct.1, 3185, .inr (.inl (fun _ => 0))))] ++ wt) H := hP
  have hD : va_D A ([(h0, .inr (2, [.ref h2, .ref q_1, .int (0 : Int32), .int fc_, .int fn_])), (q_1, .inl (ct.1, 3185, .inr (.inl (fun _ => 0))))] ++ wt) := hD
  refine lv_aload_n hx hb d_T_init_23 rfl (lv_at hl 0 rfl) ?_
  refine lv_iconst (v := (-1 : Int32)) hx hb d_T_init_24 (by decide) ?_
  refine va_put (D := D) (ci := 2) (v := .int (-1 : Int32)) (ty := .int) (C := R_Table) (T := F_Table) (N := 5) hx hb htg i_Table t_Table t_Table_ok n_Table hown hK hP hD hS 0 rfl rfl 3 (by decide) (htg _ tm_87) (fun _ h9 => h9) rfl (by decide +kernel) rfl rfl (Nat.le_of_ble_eq_true rfl) d_T_init_25 (fun H locs hP hD hS => ?_)
  have hP : va_P D classes ([(h0, .inr (2, [.ref h2, .ref q_1, .int (0 : Int32), .int (-1 : Int32), .int fn_])), (q_1, .inl (ct.1, 3185, .inr (.inl (fun _ => 0))))] ++ wt) H := hP
  have hD : va_D A ([(h0, .inr (2, [.ref h2, .ref q_1, .int (0 : Int32), .int (-1 : Int32), .int fn_])), (q_1, .inl (ct.1, 3185, .inr (.inl (fun _ => 0))))] ++ wt) := hD
  refine lv_aload_n hx hb d_T_init_28 rfl (lv_at hl 0 rfl) ?_
  refine lv_iconst (v := (0 : Int32)) hx hb d_T_init_29 (by decide) ?_
  refine va_put (D := D) (ci := 2) (v := .int (0 : Int32)) (ty := .int) (C := R_Table) (T := F_Table) (N := 5) hx hb htg i_Table t_Table t_Table_ok n_Table hown hK hP hD hS 0 rfl rfl 4 (by decide) (htg _ tm_88) (fun _ h9 => h9) rfl (by decide +kernel) rfl rfl (Nat.le_of_ble_eq_true rfl) d_T_init_30 (fun H locs hP hD hS => ?_)
  have hP : va_P D classes ([(h0, .inr (2, [.ref h2, .ref q_1, .int (0 : Int32), .int (-1 : Int32), .int (0 : Int32)])), (q_1, .inl (ct.1, 3185, .inr (.inl (fun _ => 0))))] ++ wt) H := hP
  have hD : va_D A ([(h0, .inr (2, [.ref h2, .ref q_1, .int (0 : Int32), .int (-1 : Int32), .int (0 : Int32)])), (q_1, .inl (ct.1, 3185, .inr (.inl (fun _ => 0))))] ++ wt) := hD
  exact W.vret hx hb hr (fun t ht hW => ⟨⟨((0 : Int32), (-1 : Int32), (0 : Int32), (fun _ => 0)), rfl, h, q_1, by rw [ht]; exact hP, hD⟩, hS.F ht⟩) hS.2.2 d_T_init_33
