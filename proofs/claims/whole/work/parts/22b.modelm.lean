-- CellBenchModel shorter (IJ)I
def lp_M_shorter_37 (cm : Int32) (ac : Nat → Int64) (cl : Int32) (ra_ : Int64) : Nat → Int32 → Int32 → Int32 → Int32 → Option (Int32 × Int32 × Int32 × Int32)
  | 0, _, _, _, _ => none
  | n + 1, wi, lx, ly, lz =>
    if (4 : Int32) < lz then (some (wi, lx, ly, lz)) else (if lx = 0 then (if ly = 0 then (if lz = 0 then (lp_M_shorter_37 cm ac cl ra_ n wi lx ly (lz + (1 : Int32))) else (Option.bind (f_M_dot ac ((6 : Int32) * cl) (lx.toInt64) (ly.toInt64) (lz.toInt64) (lx.toInt64) (ly.toInt64) (lz.toInt64)) (fun z_19 => (if 0 < (lg_cmp z_19 ra_) then (lp_M_shorter_37 cm ac cl ra_ n (wi + (0 : Int32)) lx ly (lz + (1 : Int32))) else (lp_M_shorter_37 cm ac cl ra_ n (wi + (1 : Int32)) lx ly (lz + (1 : Int32))))))) else (Option.bind (f_M_dot ac ((6 : Int32) * cl) (lx.toInt64) (ly.toInt64) (lz.toInt64) (lx.toInt64) (ly.toInt64) (lz.toInt64)) (fun z_14 => (if 0 < (lg_cmp z_14 ra_) then (lp_M_shorter_37 cm ac cl ra_ n (wi + (0 : Int32)) lx ly (lz + (1 : Int32))) else (lp_M_shorter_37 cm ac cl ra_ n (wi + (1 : Int32)) lx ly (lz + (1 : Int32))))))) else (Option.bind (f_M_dot ac ((6 : Int32) * cl) (lx.toInt64) (ly.toInt64) (lz.toInt64) (lx.toInt64) (ly.toInt64) (lz.toInt64)) (fun z_9 => (if 0 < (lg_cmp z_9 ra_) then (lp_M_shorter_37 cm ac cl ra_ n (wi + (0 : Int32)) lx ly (lz + (1 : Int32))) else (lp_M_shorter_37 cm ac cl ra_ n (wi + (1 : Int32)) lx ly (lz + (1 : Int32)))))))
def lp_M_shorter_27 (cm : Int32) (ac : Nat → Int64) (cl : Int32) (ra_ : Int64) : Nat → Int32 → Int32 → Int32 → Option (Int32 × Int32 × Int32)
  | 0, _, _, _ => none
  | n + 1, wi, lx, ly =>
    if (4 : Int32) < ly then (some (wi, lx, ly)) else (Option.bind (lp_M_shorter_37 cm ac cl ra_ 10 wi lx ly (-4 : Int32)) (fun z_25 => (lp_M_shorter_27 cm ac cl ra_ n z_25.1 z_25.2.1 (z_25.2.2.1 + (1 : Int32)))))
def lp_M_shorter_17 (cm : Int32) (ac : Nat → Int64) (cl : Int32) (ra_ : Int64) : Nat → Int32 → Int32 → Option (Int32)
  | 0, _, _ => none
  | n + 1, wi, lx =>
    if (4 : Int32) < lx then (some wi) else (Option.bind (lp_M_shorter_27 cm ac cl ra_ 10 wi lx (-4 : Int32)) (fun z_30 => (lp_M_shorter_17 cm ac cl ra_ n z_30.1 (z_30.2.1 + (1 : Int32)))))
def f_M_shorter (cm : Int32) (ac : Nat → Int64) (cl : Int32) (ra_ : Int64) : Option (Int32) :=
    if (f_M_isCell cm cl) = 0 then (some (-1 : Int32)) else (lp_M_shorter_17 cm ac cl ra_ 10 (0 : Int32) (-4 : Int32))
def w_M_shorter : List Cond := .code y_M_shorter b_M_shorter 8 (some .int) :: GW
abbrev rm_M_shorter : Room := { frames := 1, cells := 0, slots := 0, locals := 33 }
theorem g_M_shorter : GoodIn GW w_M_shorter := gi tm_539
set_option maxHeartbeats 4000000 in
set_option maxRecDepth 100000 in
theorem c_M_shorter (l : Launch) (D : va_G) (ct : CT) (ws : va_W) (k0 : Nat) (k1 : Nat) (h0 : Nat) (q1 : Nat) (q2 : Nat) (q3 : Nat) (q4 : Nat) (q5 : Nat) (q6 : Nat) (q7 : Nat) (q8 : Nat) (q9 : Nat) (cm : Int32) (stp : Int32) (mus : Int32) (mc_ : Int32) (mb_ : Int32) (ac : Nat → Int64) (cl : Int32) (ra_ : Int64) (hk0 : ws[k0]? = some (h0, .inr (5, [.ref q1, .ref q2, .ref q3, .ref q4, .ref q5, .int cm, .int stp, .ref q6, .ref q7, .ref q8, .int mus, .int mc_, .int mb_, .ref q9]))) (hk1 : ws[k1]? = some (q2, .inl (ct.1, 240, .inr (.inl ac))))  (r0 : Int32) (h : f_M_shorter cm ac cl ra_ = some r0) : Met l y_M_shorter w_M_shorter rm_M_shorter (va_Pc [.ref h0, .int cl, .long ra_] (PreP D ct ws)) (vp_Si (fun r => r = r0)) 0 0 (fun _ => False) := by
  refine Met.ofW (cc := b_M_shorter) (maxL := 8) (ret := (some .int)) (by decide) rfl ?_
  intro p e s m args below meth c s₁ B hml hv
  obtain ⟨rfl, hP, hKK⟩ := hv
  have hx := B.exec
  have hb := B.bytes
  have hr := B.returns
  have htg := ht_tl (atoms_spec (ws := w_M_shorter) B.pre)
  have hown : s.vm.findClass R_Model = some m.cls := findClass_of_methodNamed B.named
  have hlocks := B.notSynchronized
  have hK := hKK.1
  have hN := hKK.2.1
  have hO := hKK.2.2
  have hl := lv_entry ([.ref h0, .int cl, .long ra_]) (n := 8) (Nat.le_of_ble_eq_true rfl)
  rw [lg_entry_eq]
  generalize (lg_sl ([.ref h0, .int cl, .long ra_]) ++ List.replicate (8 - (lg_sl ([.ref h0, .int cl, .long ra_])).length) Slot.unset).toArray = ls at hl ⊢
  have hl : lv_has ls 8 [(0, .ref h0), (1, .int cl), (2, .long ra_)] := hl
  unfold f_M_shorter at h
  refine lv_aload_n hx hb d_M_shorter_0 rfl (lv_at hl 0 rfl) ?_
  refine lv_iload_n hx hb d_M_shorter_1 rfl (lv_at hl 1 rfl) ?_
  refine vp_callSi (va_Run.run (va_runV (As := [.int cl]) (rest := []) ⟨hx, hb, hml, hown, htg⟩ (c_M_isCell l D ct ws k0 h0 q1 q2 q3 q4 q5 q6 q7 q8 q9 cm stp mus mc_ mb_ cl hk0  _ rfl) (cwV 1 htg (giV tm_486 tm_488 tm_24 tm_34 g_M_isCell) rfl rfl rfl (by decide +kernel) ⟨Nat.le_of_ble_eq_true rfl, Nat.le_of_ble_eq_true rfl⟩) (preV hP hKK (va_recv hK hP (ci := 5) (q0 := k0) rfl hk0)) rfl rfl hl.1 rfl (lv_room (Nat.le_of_ble_eq_true rfl)) d_M_shorter_2 ⟨Nat.le_of_ble_eq_true rfl, Nat.le_of_ble_eq_true rfl⟩)) (fun r9 hr9 => ?_)
  have hr9 := hr9.symm
  subst hr9
  refine lv_if_ne (tgt := 10) hx hb d_M_shorter_5 (by decide) (fun c_1 => ?_) (fun c_1 => ?_)
  · rw [if_neg c_1] at h
    refine lv_iconst (v := (0 : Int32)) hx hb d_M_shorter_10 (by decide) ?_
    refine lv_istore (lv' := [(4, .int (0 : Int32)), (0, .ref h0), (1, .int cl), (2, .long ra_)]) hx hb d_M_shorter_11 hl (by decide) rfl (fun ls hl => ?_)
    refine lv_bipush (v := (-4 : Int32)) hx hb d_M_shorter_13 (by decide) ?_
    refine lv_istore (lv' := [(5, .int (-4 : Int32)), (4, .int (0 : Int32)), (0, .ref h0), (1, .int cl), (2, .long ra_)]) hx hb d_M_shorter_15 hl (by decide) rfl (fun ls hl => ?_)
    have L_37 : ∀ (n : Nat) (wi : Int32) (lx : Int32) (ly : Int32) (lz : Int32) (wi' : Int32) (lx' : Int32) (ly' : Int32) (lz' : Int32), lp_M_shorter_37 cm ac cl ra_ n wi lx ly lz = some (wi', lx', ly', lz') → ∀ (ls : Array Slot), lv_has ls 8 [(4, .int wi), (5, .int lx), (6, .int ly), (7, .int lz), (0, .ref h0), (1, .int cl), (2, .long ra_)] → (∀ (ls : Array Slot), lv_has ls 8 [(4, .int wi'), (5, .int lx'), (6, .int ly'), (7, .int lz'), (0, .ref h0), (1, .int cl), (2, .long ra_)] → W p l e (headSpec w_M_shorter rm_M_shorter).room s m ([.ref h0, .int cl, .long ra_] : List Value).toArray below meth c s.heap [] 0 0 (MQ below (vp_Si (fun r => r = r0)) ([.ref h0, .int cl, .long ra_] : List Value).toArray s 0 0 (fun _ => False)) (F0 m 111 ls [])) → W p l e (headSpec w_M_shorter rm_M_shorter).room s m ([.ref h0, .int cl, .long ra_] : List Value).toArray below meth c s.heap [] 0 0 (MQ below (vp_Si (fun r => r = r0)) ([.ref h0, .int cl, .long ra_] : List Value).toArray s 0 0 (fun _ => False)) (F0 m 37 ls []) := by
      intro n
      induction n with
      | zero =>
        intro wi lx ly lz wi' lx' ly' lz' h
        rw [lp_M_shorter_37] at h
        cases h
      | succ n ih =>
        intro wi lx ly lz wi' lx' ly' lz' h ls hl K
        rw [lp_M_shorter_37] at h
        refine lv_iload hx hb d_M_shorter_37 (lv_at hl 3 rfl) ?_
        refine lv_iconst (v := (4 : Int32)) hx hb d_M_shorter_39 (by decide) ?_
        refine lv_icmp_gt (tgt := 111) hx hb d_M_shorter_40 (by decide) (fun c_4 => ?_) (fun c_4 => ?_)
        · rw [if_pos c_4] at h
          cases h
          exact K _ (lv_sub hl [0, 1, 2, 3, 4, 5, 6] rfl)
        · rw [if_neg c_4] at h
          refine lv_iload hx hb d_M_shorter_43 (lv_at hl 1 rfl) ?_
          refine lv_if_ne (tgt := 61) hx hb d_M_shorter_45 (by decide) (fun c_5 => ?_) (fun c_5 => ?_)
          · rw [if_neg c_5] at h
            refine lv_iload hx hb d_M_shorter_61 (lv_at hl 0 rfl) ?_
            refine lv_aload_n hx hb d_M_shorter_63 rfl (lv_at hl 4 rfl) ?_
            refine va_get (D := D) (ci := 5) (v := .ref q2) (C := R_Model) (T := F_Model) (N := 14) hx hb htg i_Model hown hK hP k0 hk0 rfl 1 (by decide) (htg _ tm_399) (fun _ h9 => h9) rfl d_M_shorter_64 ?_
            refine lv_bipush (v := (6 : Int32)) hx hb d_M_shorter_67 (by decide) ?_
            refine lv_iload_n hx hb d_M_shorter_69 rfl (lv_at hl 5 rfl) ?_
            refine lv_imul hx hb d_M_shorter_70 ?_
            refine lv_iload hx hb d_M_shorter_71 (lv_at hl 1 rfl) ?_
            refine lv_i2l hx hb d_M_shorter_73 rfl ?_
            refine lv_iload hx hb d_M_shorter_74 (lv_at hl 2 rfl) ?_
            refine lv_i2l hx hb d_M_shorter_76 rfl ?_
            refine lv_iload hx hb d_M_shorter_77 (lv_at hl 3 rfl) ?_
            refine lv_i2l hx hb d_M_shorter_79 rfl ?_
            refine lv_iload hx hb d_M_shorter_80 (lv_at hl 1 rfl) ?_
            refine lv_i2l hx hb d_M_shorter_82 rfl ?_
            refine lv_iload hx hb d_M_shorter_83 (lv_at hl 2 rfl) ?_
            refine lv_i2l hx hb d_M_shorter_85 rfl ?_
            refine lv_iload hx hb d_M_shorter_86 (lv_at hl 3 rfl) ?_
            refine lv_i2l hx hb d_M_shorter_88 rfl ?_
            rcases e_6 : f_M_dot ac ((6 : Int32) * cl) (lx.toInt64) (ly.toInt64) (lz.toInt64) (lx.toInt64) (ly.toInt64) (lz.toInt64) with _ | v_7
            · rw [e_6] at h; cases h
            rw [e_6, Option.bind_some] at h
            try dsimp only at h
            refine vp_callSl (va_Run.run (va_runS (As := [.ref q2, .int ((6 : Int32) * cl), .long (lx.toInt64), .long (ly.toInt64), .long (lz.toInt64), .long (lx.toInt64), .long (ly.toInt64), .long (lz.toInt64)]) (rest := [.int wi]) ⟨hx, hb, hml, hown, htg⟩ (c_M_dot l D ct ws k1 q2 ac ((6 : Int32) * cl) (lx.toInt64) (ly.toInt64) (lz.toInt64) (lx.toInt64) (ly.toInt64) (lz.toInt64) hk1  _ e_6) (cwS 8 htg (giS tm_479 tm_480 tm_34 g_M_dot) rfl rfl rfl (by decide +kernel) ⟨Nat.le_of_ble_eq_true rfl, Nat.le_of_ble_eq_true rfl⟩) (preS hP hKK) rfl rfl hl.1 rfl (lv_room (Nat.le_of_ble_eq_true rfl)) d_M_shorter_89 ⟨Nat.le_of_ble_eq_true rfl, Nat.le_of_ble_eq_true rfl⟩)) (fun r9 hr9 => ?_)
            have hr9 := hr9.symm
            subst hr9
            refine lv_lload_n hx hb d_M_shorter_92 rfl (lv_at hl 6 rfl) ?_
            refine W.lcmp hx hb d_M_shorter_93 ?_
            refine lv_if_gt (tgt := 101) hx hb d_M_shorter_94 (by decide) (fun c_8 => ?_) (fun c_8 => ?_)
            · rw [if_pos c_8] at h
              refine lv_iconst (v := (0 : Int32)) hx hb d_M_shorter_101 (by decide) ?_
              refine lv_iadd hx hb d_M_shorter_102 ?_
              refine lv_istore (lv' := [(4, .int (wi + (0 : Int32))), (5, .int lx), (6, .int ly), (7, .int lz), (0, .ref h0), (1, .int cl), (2, .long ra_)]) hx hb d_M_shorter_103 hl (by decide) rfl (fun ls hl => ?_)
              refine lv_iinc (v := lz + (1 : Int32)) (lv' := [(7, .int (lz + (1 : Int32))), (4, .int (wi + (0 : Int32))), (5, .int lx), (6, .int ly), (0, .ref h0), (1, .int cl), (2, .long ra_)]) hx hb d_M_shorter_105 hl (k := 3) rfl rfl (by decide) rfl (fun ls hl => ?_)
              refine lv_goto (tgt := 37) hx hb d_M_shorter_108 (by decide) ?_
              exact ih (wi + (0 : Int32)) lx ly (lz + (1 : Int32)) _ _ _ _ h ls (lv_sub hl [1, 2, 3, 0, 4, 5, 6] rfl) K
            · rw [if_neg c_8] at h
              refine lv_iconst (v := (1 : Int32)) hx hb d_M_shorter_97 (by decide) ?_
              refine lv_goto (tgt := 102) hx hb d_M_shorter_98 (by decide) ?_
              refine lv_iadd hx hb d_M_shorter_102 ?_
              refine lv_istore (lv' := [(4, .int (wi + (1 : Int32))), (5, .int lx), (6, .int ly), (7, .int lz), (0, .ref h0), (1, .int cl), (2, .long ra_)]) hx hb d_M_shorter_103 hl (by decide) rfl (fun ls hl => ?_)
              refine lv_iinc (v := lz + (1 : Int32)) (lv' := [(7, .int (lz + (1 : Int32))), (4, .int (wi + (1 : Int32))), (5, .int lx), (6, .int ly), (0, .ref h0), (1, .int cl), (2, .long ra_)]) hx hb d_M_shorter_105 hl (k := 3) rfl rfl (by decide) rfl (fun ls hl => ?_)
              refine lv_goto (tgt := 37) hx hb d_M_shorter_108 (by decide) ?_
              exact ih (wi + (1 : Int32)) lx ly (lz + (1 : Int32)) _ _ _ _ h ls (lv_sub hl [1, 2, 3, 0, 4, 5, 6] rfl) K
          · rw [if_pos c_5] at h
            refine lv_iload hx hb d_M_shorter_48 (lv_at hl 2 rfl) ?_
            refine lv_if_ne (tgt := 61) hx hb d_M_shorter_50 (by decide) (fun c_10 => ?_) (fun c_10 => ?_)
            · rw [if_neg c_10] at h
              refine lv_iload hx hb d_M_shorter_61 (lv_at hl 0 rfl) ?_
              refine lv_aload_n hx hb d_M_shorter_63 rfl (lv_at hl 4 rfl) ?_
              refine va_get (D := D) (ci := 5) (v := .ref q2) (C := R_Model) (T := F_Model) (N := 14) hx hb htg i_Model hown hK hP k0 hk0 rfl 1 (by decide) (htg _ tm_399) (fun _ h9 => h9) rfl d_M_shorter_64 ?_
              refine lv_bipush (v := (6 : Int32)) hx hb d_M_shorter_67 (by decide) ?_
              refine lv_iload_n hx hb d_M_shorter_69 rfl (lv_at hl 5 rfl) ?_
              refine lv_imul hx hb d_M_shorter_70 ?_
              refine lv_iload hx hb d_M_shorter_71 (lv_at hl 1 rfl) ?_
              refine lv_i2l hx hb d_M_shorter_73 rfl ?_
              refine lv_iload hx hb d_M_shorter_74 (lv_at hl 2 rfl) ?_
              refine lv_i2l hx hb d_M_shorter_76 rfl ?_
              refine lv_iload hx hb d_M_shorter_77 (lv_at hl 3 rfl) ?_
              refine lv_i2l hx hb d_M_shorter_79 rfl ?_
              refine lv_iload hx hb d_M_shorter_80 (lv_at hl 1 rfl) ?_
              refine lv_i2l hx hb d_M_shorter_82 rfl ?_
              refine lv_iload hx hb d_M_shorter_83 (lv_at hl 2 rfl) ?_
              refine lv_i2l hx hb d_M_shorter_85 rfl ?_
              refine lv_iload hx hb d_M_shorter_86 (lv_at hl 3 rfl) ?_
              refine lv_i2l hx hb d_M_shorter_88 rfl ?_
              rcases e_11 : f_M_dot ac ((6 : Int32) * cl) (lx.toInt64) (ly.toInt64) (lz.toInt64) (lx.toInt64) (ly.toInt64) (lz.toInt64) with _ | v_12
              · rw [e_11] at h; cases h
              rw [e_11, Option.bind_some] at h
              try dsimp only at h
              refine vp_callSl (va_Run.run (va_runS (As := [.ref q2, .int ((6 : Int32) * cl), .long (lx.toInt64), .long (ly.toInt64), .long (lz.toInt64), .long (lx.toInt64), .long (ly.toInt64), .long (lz.toInt64)]) (rest := [.int wi]) ⟨hx, hb, hml, hown, htg⟩ (c_M_dot l D ct ws k1 q2 ac ((6 : Int32) * cl) (lx.toInt64) (ly.toInt64) (lz.toInt64) (lx.toInt64) (ly.toInt64) (lz.toInt64) hk1  _ e_11) (cwS 8 htg (giS tm_479 tm_480 tm_34 g_M_dot) rfl rfl rfl (by decide +kernel) ⟨Nat.le_of_ble_eq_true rfl, Nat.le_of_ble_eq_true rfl⟩) (preS hP hKK) rfl rfl hl.1 rfl (lv_room (Nat.le_of_ble_eq_true rfl)) d_M_shorter_89 ⟨Nat.le_of_ble_eq_true rfl, Nat.le_of_ble_eq_true rfl⟩)) (fun r9 hr9 => ?_)
              have hr9 := hr9.symm
              subst hr9
              refine lv_lload_n hx hb d_M_shorter_92 rfl (lv_at hl 6 rfl) ?_
              refine W.lcmp hx hb d_M_shorter_93 ?_
              refine lv_if_gt (tgt := 101) hx hb d_M_shorter_94 (by decide) (fun c_13 => ?_) (fun c_13 => ?_)
              · rw [if_pos c_13] at h
                refine lv_iconst (v := (0 : Int32)) hx hb d_M_shorter_101 (by decide) ?_
                refine lv_iadd hx hb d_M_shorter_102 ?_
                refine lv_istore (lv' := [(4, .int (wi + (0 : Int32))), (5, .int lx), (6, .int ly), (7, .int lz), (0, .ref h0), (1, .int cl), (2, .long ra_)]) hx hb d_M_shorter_103 hl (by decide) rfl (fun ls hl => ?_)
                refine lv_iinc (v := lz + (1 : Int32)) (lv' := [(7, .int (lz + (1 : Int32))), (4, .int (wi + (0 : Int32))), (5, .int lx), (6, .int ly), (0, .ref h0), (1, .int cl), (2, .long ra_)]) hx hb d_M_shorter_105 hl (k := 3) rfl rfl (by decide) rfl (fun ls hl => ?_)
                refine lv_goto (tgt := 37) hx hb d_M_shorter_108 (by decide) ?_
                exact ih (wi + (0 : Int32)) lx ly (lz + (1 : Int32)) _ _ _ _ h ls (lv_sub hl [1, 2, 3, 0, 4, 5, 6] rfl) K
              · rw [if_neg c_13] at h
                refine lv_iconst (v := (1 : Int32)) hx hb d_M_shorter_97 (by decide) ?_
                refine lv_goto (tgt := 102) hx hb d_M_shorter_98 (by decide) ?_
                refine lv_iadd hx hb d_M_shorter_102 ?_
                refine lv_istore (lv' := [(4, .int (wi + (1 : Int32))), (5, .int lx), (6, .int ly), (7, .int lz), (0, .ref h0), (1, .int cl), (2, .long ra_)]) hx hb d_M_shorter_103 hl (by decide) rfl (fun ls hl => ?_)
                refine lv_iinc (v := lz + (1 : Int32)) (lv' := [(7, .int (lz + (1 : Int32))), (4, .int (wi + (1 : Int32))), (5, .int lx), (6, .int ly), (0, .ref h0), (1, .int cl), (2, .long ra_)]) hx hb d_M_shorter_105 hl (k := 3) rfl rfl (by decide) rfl (fun ls hl => ?_)
                refine lv_goto (tgt := 37) hx hb d_M_shorter_108 (by decide) ?_
                exact ih (wi + (1 : Int32)) lx ly (lz + (1 : Int32)) _ _ _ _ h ls (lv_sub hl [1, 2, 3, 0, 4, 5, 6] rfl) K
            · rw [if_pos c_10] at h
              refine lv_iload hx hb d_M_shorter_53 (lv_at hl 3 rfl) ?_
              refine lv_if_ne (tgt := 61) hx hb d_M_shorter_55 (by decide) (fun c_15 => ?_) (fun c_15 => ?_)
              · rw [if_neg c_15] at h
                refine lv_iload hx hb d_M_shorter_61 (lv_at hl 0 rfl) ?_
                refine lv_aload_n hx hb d_M_shorter_63 rfl (lv_at hl 4 rfl) ?_
                refine va_get (D := D) (ci := 5) (v := .ref q2) (C := R_Model) (T := F_Model) (N := 14) hx hb htg i_Model hown hK hP k0 hk0 rfl 1 (by decide) (htg _ tm_399) (fun _ h9 => h9) rfl d_M_shorter_64 ?_
                refine lv_bipush (v := (6 : Int32)) hx hb d_M_shorter_67 (by decide) ?_
                refine lv_iload_n hx hb d_M_shorter_69 rfl (lv_at hl 5 rfl) ?_
                refine lv_imul hx hb d_M_shorter_70 ?_
                refine lv_iload hx hb d_M_shorter_71 (lv_at hl 1 rfl) ?_
                refine lv_i2l hx hb d_M_shorter_73 rfl ?_
                refine lv_iload hx hb d_M_shorter_74 (lv_at hl 2 rfl) ?_
                refine lv_i2l hx hb d_M_shorter_76 rfl ?_
                refine lv_iload hx hb d_M_shorter_77 (lv_at hl 3 rfl) ?_
                refine lv_i2l hx hb d_M_shorter_79 rfl ?_
                refine lv_iload hx hb d_M_shorter_80 (lv_at hl 1 rfl) ?_
                refine lv_i2l hx hb d_M_shorter_82 rfl ?_
                refine lv_iload hx hb d_M_shorter_83 (lv_at hl 2 rfl) ?_
                refine lv_i2l hx hb d_M_shorter_85 rfl ?_
                refine lv_iload hx hb d_M_shorter_86 (lv_at hl 3 rfl) ?_
                refine lv_i2l hx hb d_M_shorter_88 rfl ?_
                rcases e_16 : f_M_dot ac ((6 : Int32) * cl) (lx.toInt64) (ly.toInt64) (lz.toInt64) (lx.toInt64) (ly.toInt64) (lz.toInt64) with _ | v_17
                · rw [e_16] at h; cases h
                rw [e_16, Option.bind_some] at h
                try dsimp only at h
                refine vp_callSl (va_Run.run (va_runS (As := [.ref q2, .int ((6 : Int32) * cl), .long (lx.toInt64), .long (ly.toInt64), .long (lz.toInt64), .long (lx.toInt64), .long (ly.toInt64), .long (lz.toInt64)]) (rest := [.int wi]) ⟨hx, hb, hml, hown, htg⟩ (c_M_dot l D ct ws k1 q2 ac ((6 : Int32) * cl) (lx.toInt64) (ly.toInt64) (lz.toInt64) (lx.toInt64) (ly.toInt64) (lz.toInt64) hk1  _ e_16) (cwS 8 htg (giS tm_479 tm_480 tm_34 g_M_dot) rfl rfl rfl (by decide +kernel) ⟨Nat.le_of_ble_eq_true rfl, Nat.le_of_ble_eq_true rfl⟩) (preS hP hKK) rfl rfl hl.1 rfl (lv_room (Nat.le_of_ble_eq_true rfl)) d_M_shorter_89 ⟨Nat.le_of_ble_eq_true rfl, Nat.le_of_ble_eq_true rfl⟩)) (fun r9 hr9 => ?_)
                have hr9 := hr9.symm
                subst hr9
                refine lv_lload_n hx hb d_M_shorter_92 rfl (lv_at hl 6 rfl) ?_
                refine W.lcmp hx hb d_M_shorter_93 ?_
                refine lv_if_gt (tgt := 101) hx hb d_M_shorter_94 (by decide) (fun c_18 => ?_) (fun c_18 => ?_)
                · rw [if_pos c_18] at h
                  refine lv_iconst (v := (0 : Int32)) hx hb d_M_shorter_101 (by decide) ?_
                  refine lv_iadd hx hb d_M_shorter_102 ?_
                  refine lv_istore (lv' := [(4, .int (wi + (0 : Int32))), (5, .int lx), (6, .int ly), (7, .int lz), (0, .ref h0), (1, .int cl), (2, .long ra_)]) hx hb d_M_shorter_103 hl (by decide) rfl (fun ls hl => ?_)
                  refine lv_iinc (v := lz + (1 : Int32)) (lv' := [(7, .int (lz + (1 : Int32))), (4, .int (wi + (0 : Int32))), (5, .int lx), (6, .int ly), (0, .ref h0), (1, .int cl), (2, .long ra_)]) hx hb d_M_shorter_105 hl (k := 3) rfl rfl (by decide) rfl (fun ls hl => ?_)
                  refine lv_goto (tgt := 37) hx hb d_M_shorter_108 (by decide) ?_
                  exact ih (wi + (0 : Int32)) lx ly (lz + (1 : Int32)) _ _ _ _ h ls (lv_sub hl [1, 2, 3, 0, 4, 5, 6] rfl) K
                · rw [if_neg c_18] at h
                  refine lv_iconst (v := (1 : Int32)) hx hb d_M_shorter_97 (by decide) ?_
                  refine lv_goto (tgt := 102) hx hb d_M_shorter_98 (by decide) ?_
                  refine lv_iadd hx hb d_M_shorter_102 ?_
                  refine lv_istore (lv' := [(4, .int (wi + (1 : Int32))), (5, .int lx), (6, .int ly), (7, .int lz), (0, .ref h0), (1, .int cl), (2, .long ra_)]) hx hb d_M_shorter_103 hl (by decide) rfl (fun ls hl => ?_)
                  refine lv_iinc (v := lz + (1 : Int32)) (lv' := [(7, .int (lz + (1 : Int32))), (4, .int (wi + (1 : Int32))), (5, .int lx), (6, .int ly), (0, .ref h0), (1, .int cl), (2, .long ra_)]) hx hb d_M_shorter_105 hl (k := 3) rfl rfl (by decide) rfl (fun ls hl => ?_)
                  refine lv_goto (tgt := 37) hx hb d_M_shorter_108 (by decide) ?_
                  exact ih (wi + (1 : Int32)) lx ly (lz + (1 : Int32)) _ _ _ _ h ls (lv_sub hl [1, 2, 3, 0, 4, 5, 6] rfl) K
              · rw [if_pos c_15] at h
                refine lv_goto (tgt := 105) hx hb d_M_shorter_58 (by decide) ?_
                refine lv_iinc (v := lz + (1 : Int32)) (lv' := [(7, .int (lz + (1 : Int32))), (4, .int wi), (5, .int lx), (6, .int ly), (0, .ref h0), (1, .int cl), (2, .long ra_)]) hx hb d_M_shorter_105 hl (k := 3) rfl rfl (by decide) rfl (fun ls hl => ?_)
                refine lv_goto (tgt := 37) hx hb d_M_shorter_108 (by decide) ?_
                exact ih wi lx ly (lz + (1 : Int32)) _ _ _ _ h ls (lv_sub hl [1, 2, 3, 0, 4, 5, 6] rfl) K
    have L_27 : ∀ (n : Nat) (wi : Int32) (lx : Int32) (ly : Int32) (wi' : Int32) (lx' : Int32) (ly' : Int32), lp_M_shorter_27 cm ac cl ra_ n wi lx ly = some (wi', lx', ly') → ∀ (ls : Array Slot), lv_has ls 8 [(4, .int wi), (5, .int lx), (6, .int ly), (0, .ref h0), (1, .int cl), (2, .long ra_)] → (∀ (ls : Array Slot), lv_has ls 8 [(4, .int wi'), (5, .int lx'), (6, .int ly'), (0, .ref h0), (1, .int cl), (2, .long ra_)] → W p l e (headSpec w_M_shorter rm_M_shorter).room s m ([.ref h0, .int cl, .long ra_] : List Value).toArray below meth c s.heap [] 0 0 (MQ below (vp_Si (fun r => r = r0)) ([.ref h0, .int cl, .long ra_] : List Value).toArray s 0 0 (fun _ => False)) (F0 m 117 ls [])) → W p l e (headSpec w_M_shorter rm_M_shorter).room s m ([.ref h0, .int cl, .long ra_] : List Value).toArray below meth c s.heap [] 0 0 (MQ below (vp_Si (fun r => r = r0)) ([.ref h0, .int cl, .long ra_] : List Value).toArray s 0 0 (fun _ => False)) (F0 m 27 ls []) := by
      intro n
      induction n with
      | zero =>
        intro wi lx ly wi' lx' ly' h
        rw [lp_M_shorter_27] at h
        cases h
      | succ n ih =>
        intro wi lx ly wi' lx' ly' h ls hl K
        rw [lp_M_shorter_27] at h
        refine lv_iload hx hb d_M_shorter_27 (lv_at hl 2 rfl) ?_
        refine lv_iconst (v := (4 : Int32)) hx hb d_M_shorter_29 (by decide) ?_
        refine lv_icmp_gt (tgt := 117) hx hb d_M_shorter_30 (by decide) (fun c_3 => ?_) (fun c_3 => ?_)
        · rw [if_pos c_3] at h
          cases h
          exact K _ (lv_sub hl [0, 1, 2, 3, 4, 5] rfl)
        · rw [if_neg c_3] at h
          refine lv_bipush (v := (-4 : Int32)) hx hb d_M_shorter_33 (by decide) ?_
          refine lv_istore (lv' := [(7, .int (-4 : Int32)), (4, .int wi), (5, .int lx), (6, .int ly), (0, .ref h0), (1, .int cl), (2, .long ra_)]) hx hb d_M_shorter_35 hl (by decide) rfl (fun ls hl => ?_)
          rcases e_24 : lp_M_shorter_37 cm ac cl ra_ 10 wi lx ly (-4 : Int32) with _ | ⟨wi_20, lx_21, ly_22, lz_23⟩
          · rw [e_24] at h; cases h
          rw [e_24, Option.bind_some] at h
          try dsimp only at h
          refine L_37 10 wi lx ly (-4 : Int32) wi_20 lx_21 ly_22 lz_23 e_24 ls (lv_sub hl [1, 2, 3, 0, 4, 5, 6] rfl) (fun ls hl => ?_)
          refine lv_iinc (v := ly_22 + (1 : Int32)) (lv' := [(6, .int (ly_22 + (1 : Int32))), (4, .int wi_20), (5, .int lx_21), (7, .int lz_23), (0, .ref h0), (1, .int cl), (2, .long ra_)]) hx hb d_M_shorter_111 hl (k := 2) rfl rfl (by decide) rfl (fun ls hl => ?_)
          refine lv_goto (tgt := 27) hx hb d_M_shorter_114 (by decide) ?_
          exact ih wi_20 lx_21 (ly_22 + (1 : Int32)) _ _ _ h ls (lv_sub hl [1, 2, 0, 4, 5, 6] rfl) K
    have L_17 : ∀ (n : Nat) (wi : Int32) (lx : Int32) , lp_M_shorter_17 cm ac cl ra_ n wi lx = some r0 → ∀ (ls : Array Slot), lv_has ls 8 [(4, .int wi), (5, .int lx), (0, .ref h0), (1, .int cl), (2, .long ra_)] → W p l e (headSpec w_M_shorter rm_M_shorter).room s m ([.ref h0, .int cl, .long ra_] : List Value).toArray below meth c s.heap [] 0 0 (MQ below (vp_Si (fun r => r = r0)) ([.ref h0, .int cl, .long ra_] : List Value).toArray s 0 0 (fun _ => False)) (F0 m 17 ls []) := by
      intro n
      induction n with
      | zero =>
        intro wi lx  h
        rw [lp_M_shorter_17] at h
        cases h
      | succ n ih =>
        intro wi lx  h ls hl
        rw [lp_M_shorter_17] at h
        refine lv_iload hx hb d_M_shorter_17 (lv_at hl 1 rfl) ?_
        refine lv_iconst (v := (4 : Int32)) hx hb d_M_shorter_19 (by decide) ?_
        refine lv_icmp_gt (tgt := 123) hx hb d_M_shorter_20 (by decide) (fun c_2 => ?_) (fun c_2 => ?_)
        · rw [if_pos c_2] at h
          refine lv_iload hx hb d_M_shorter_123 (lv_at hl 0 rfl) ?_
          exact W.iret (v := wi) hx hb hr (fun t ht hW => ⟨wi, rfl, (Option.some.inj h), ht⟩) (fun q h => by cases h) d_M_shorter_125
        · rw [if_neg c_2] at h
          refine lv_bipush (v := (-4 : Int32)) hx hb d_M_shorter_23 (by decide) ?_
          refine lv_istore (lv' := [(6, .int (-4 : Int32)), (4, .int wi), (5, .int lx), (0, .ref h0), (1, .int cl), (2, .long ra_)]) hx hb d_M_shorter_25 hl (by decide) rfl (fun ls hl => ?_)
          rcases e_29 : lp_M_shorter_27 cm ac cl ra_ 10 wi lx (-4 : Int32) with _ | ⟨wi_26, lx_27, ly_28⟩
          · rw [e_29] at h; cases h
          rw [e_29, Option.bind_some] at h
          try dsimp only at h
          refine L_27 10 wi lx (-4 : Int32) wi_26 lx_27 ly_28 e_29 ls (lv_sub hl [1, 2, 0, 3, 4, 5] rfl) (fun ls hl => ?_)
          refine lv_iinc (v := lx_27 + (1 : Int32)) (lv' := [(5, .int (lx_27 + (1 : Int32))), (4, .int wi_26), (6, .int ly_28), (0, .ref h0), (1, .int cl), (2, .long ra_)]) hx hb d_M_shorter_117 hl (k := 1) rfl rfl (by decide) rfl (fun ls hl => ?_)
          refine lv_goto (tgt := 17) hx hb d_M_shorter_120 (by decide) ?_
          exact ih wi_26 (lx_27 + (1 : Int32)) h ls (lv_sub hl [1, 0, 3, 4, 5] rfl)
    exact L_17 10 (0 : Int32) (-4 : Int32) h ls (lv_sub hl [1, 0, 2, 3, 4] rfl)
  · rw [if_pos c_1] at h
    refine lv_iconst (v := (-1 : Int32)) hx hb d_M_shorter_8 (by decide) ?_
    exact W.iret (v := (-1 : Int32)) hx hb hr (fun t ht hW => ⟨(-1 : Int32), rfl, (Option.some.inj h), ht⟩) (fun q h => by cases h) d_M_shorter_9
-- CellBenchModel keeps (II)Z
def f_M_keeps (cm : Int32) (am : Nat → Int32) (ac : Nat → Int64) (cl : Int32) (ni : Int32) : Option (Int32 × (Nat → Int32)) :=
    if (f_M_isCell cm cl) = 0 then (some ((0 : Int32), am)) else (if ni < 0 then (some ((0 : Int32), am)) else (if ni < (19683 : Int32) then (Option.bind (f_M_open am ni) (fun z_9 => (Option.bind (f_M_keeps6 z_9 ac ((6 : Int32) * cl)) (fun z_8 => (some (z_8, z_9)))))) else (some ((0 : Int32), am))))
def w_M_keeps : List Cond := .code y_M_keeps b_M_keeps 3 (some .boolean) :: GW
abbrev rm_M_keeps : Room := { frames := 2, cells := 0, slots := 0, locals := 55 }
theorem g_M_keeps : GoodIn GW w_M_keeps := gi tm_493
set_option maxHeartbeats 4000000 in
set_option maxRecDepth 100000 in
theorem c_M_keeps (l : Launch) (D : va_G) (ct : CT) (A : Nat → Prop) (wt : va_W)  (h0 : Nat) (q1 : Nat) (q2 : Nat) (q3 : Nat) (q4 : Nat) (q5 : Nat) (q6 : Nat) (q7 : Nat) (q8 : Nat) (q9 : Nat) (cm : Int32) (stp : Int32) (mus : Int32) (mc_ : Int32) (mb_ : Int32) (am : Nat → Int32) (ac : Nat → Int64) (cl : Int32) (ni : Int32)   (r0 : Int32 × (Nat → Int32)) (h : f_M_keeps cm am ac cl ni = some r0) : Met l y_M_keeps w_M_keeps rm_M_keeps (va_Pc [.ref h0, .int cl, .int ni] (PreM D ct A ([(h0, .inr (5, [.ref q1, .ref q2, .ref q3, .ref q4, .ref q5, .int cm, .int stp, .ref q6, .ref q7, .ref q8, .int mus, .int mc_, .int mb_, .ref q9])), (q1, .inl (ct.2.2, 9, .inl am)), (q2, .inl (ct.1, 240, .inr (.inl ac)))] ++ wt))) (va_Qi (fun r u => (r, u) = r0) (fun (u : (Nat → Int32)) t => match u with | am' => va_P D classes ([(h0, .inr (5, [.ref q1, .ref q2, .ref q3, .ref q4, .ref q5, .int cm, .int stp, .ref q6, .ref q7, .ref q8, .int mus, .int mc_, .int mb_, .ref q9])), (q1, .inl (ct.2.2, 9, .inl am')), (q2, .inl (ct.1, 240, .inr (.inl ac)))] ++ wt) t.heap ∧ va_D A ([(h0, .inr (5, [.ref q1, .ref q2, .ref q3, .ref q4, .ref q5, .int cm, .int stp, .ref q6, .ref q7, .ref q8, .int mus, .int mc_, .int mb_, .ref q9])), (q1, .inl (ct.2.2, 9, .inl am')), (q2, .inl (ct.1, 240, .inr (.inl ac)))] ++ wt)) A) 0 0 A := by
  refine Met.ofW (cc := b_M_keeps) (maxL := 3) (ret := (some .boolean)) (by decide) rfl ?_
  intro p e s m args below meth c s₁ B hml hv
  obtain ⟨rfl, hA, hP, hD, hKK⟩ := hv
  have hx := B.exec
  have hb := B.bytes
  have hr := B.returns
  have htg := ht_tl (atoms_spec (ws := w_M_keeps) B.pre)
  have hown : s.vm.findClass R_Model = some m.cls := findClass_of_methodNamed B.named
  have hlocks := B.notSynchronized
  have hK := hKK.1
  have hN := hKK.2.1
  have hO := hKK.2.2
  have hS : va_S A s.heap s.heap [] := va_S.rf
  have hl := lv_entry ([.ref h0, .int cl, .int ni]) (n := 3) (Nat.le_of_ble_eq_true rfl)
  rw [lg_entry_eq]
  generalize (lg_sl ([.ref h0, .int cl, .int ni]) ++ List.replicate (3 - (lg_sl ([.ref h0, .int cl, .int ni])).length) Slot.unset).toArray = ls at hl ⊢
  have hl : lv_has ls 3 [(0, .ref h0), (1, .int cl), (2, .int ni)] := hl
  unfold f_M_keeps at h
  refine lv_aload_n hx hb d_M_keeps_0 rfl (lv_at hl 0 rfl) ?_
  refine lv_iload_n hx hb d_M_keeps_1 rfl (lv_at hl 1 rfl) ?_
  refine vp_callSi (va_Run.run (va_runV (As := [.int cl]) (rest := []) ⟨hx, hb, hml, hown, htg⟩ (c_M_isCell l D ct ([(h0, .inr (5, [.ref q1, .ref q2, .ref q3, .ref q4, .ref q5, .int cm, .int stp, .ref q6, .ref q7, .ref q8, .int mus, .int mc_, .int mb_, .ref q9])), (q1, .inl (ct.2.2, 9, .inl am)), (q2, .inl (ct.1, 240, .inr (.inl ac)))] ++ wt) 0 h0 q1 q2 q3 q4 q5 q6 q7 q8 q9 cm stp mus mc_ mb_ cl rfl  _ rfl) (cwV 1 htg (giV tm_486 tm_488 tm_24 tm_34 g_M_isCell) rfl rfl rfl (by decide +kernel) ⟨Nat.le_of_ble_eq_true rfl, Nat.le_of_ble_eq_true rfl⟩) (preV hP hKK (va_recv hK hP (ci := 5) (q0 := 0) rfl rfl)) rfl rfl hl.1 rfl (lv_room (Nat.le_of_ble_eq_true rfl)) d_M_keeps_2 ⟨Nat.le_of_ble_eq_true rfl, Nat.le_of_ble_eq_true rfl⟩)) (fun r9 hr9 => ?_)
  have hr9 := hr9.symm
  subst hr9
  refine lv_if_eq (tgt := 19) hx hb d_M_keeps_5 (by decide) (fun c_1 => ?_) (fun c_1 => ?_)
  · rw [if_pos c_1] at h
    refine lv_iconst (v := (0 : Int32)) hx hb d_M_keeps_19 (by decide) ?_
    exact W.zret (v := (0 : Int32)) (ty := .boolean) hx hb hr rfl (fun t ht hW => ⟨⟨(0 : Int32), am, rfl, (Option.some.inj h), by rw [ht]; exact hP, hD⟩, hS.F ht⟩) hS.2.2 d_M_keeps_20
  · rw [if_neg c_1] at h
    refine lv_iload_n hx hb d_M_keeps_8 rfl (lv_at hl 2 rfl) ?_
    refine lv_if_lt (tgt := 19) hx hb d_M_keeps_9 (by decide) (fun c_2 => ?_) (fun c_2 => ?_)
    · rw [if_pos c_2] at h
      refine lv_iconst (v := (0 : Int32)) hx hb d_M_keeps_19 (by decide) ?_
      exact W.zret (v := (0 : Int32)) (ty := .boolean) hx hb hr rfl (fun t ht hW => ⟨⟨(0 : Int32), am, rfl, (Option.some.inj h), by rw [ht]; exact hP, hD⟩, hS.F ht⟩) hS.2.2 d_M_keeps_20
    · rw [if_neg c_2] at h
      refine lv_iload_n hx hb d_M_keeps_12 rfl (lv_at hl 2 rfl) ?_
      refine lv_sipush (v := (19683 : Int32)) hx hb d_M_keeps_13 (by decide) ?_
      refine lv_icmp_lt (tgt := 21) hx hb d_M_keeps_16 (by decide) (fun c_3 => ?_) (fun c_3 => ?_)
      · rw [if_pos c_3] at h
        refine lv_aload_n hx hb d_M_keeps_21 rfl (lv_at hl 0 rfl) ?_
        refine lv_iload_n hx hb d_M_keeps_22 rfl (lv_at hl 2 rfl) ?_
        rcases e_5 : f_M_open am ni with _ | am_4
        · rw [e_5] at h; cases h
        rw [e_5, Option.bind_some] at h
        try dsimp only at h
        refine va_callv (va_runV (As := [.int ni]) (rest := []) ⟨hx, hb, hml, hown, htg⟩ (c_M_open l D ct A ([(q2, .inl (ct.1, 240, .inr (.inl ac)))] ++ wt)  h0 q1 q2 q3 q4 q5 q6 q7 q8 q9 cm stp mus mc_ mb_ am ni   _ e_5) (cwV 1 htg (giV tm_471 tm_473 tm_22 tm_34 g_M_open) rfl rfl rfl (by decide +kernel) ⟨Nat.le_of_ble_eq_true rfl, Nat.le_of_ble_eq_true rfl⟩) (preVM hA hS hP hD hKK (va_recv hK hP (ci := 5) (q0 := 0) rfl rfl)) rfl rfl hl.1 rfl (lv_room (Nat.le_of_ble_eq_true rfl)) d_M_keeps_23 ⟨Nat.le_of_ble_eq_true rfl, Nat.le_of_ble_eq_true rfl⟩) hS (fun q _ h9 => h9) (fun q h9 => h9) (fun u9 t9 H locs ht9 hvm9 hw9 hB9 hz9 hk9 hS => ?_)
        rw [hw9] at hB9
        obtain ⟨hP, hD⟩ := hB9
        rw [ht9] at hP
        have hP : va_P D classes ([(h0, .inr (5, [.ref q1, .ref q2, .ref q3, .ref q4, .ref q5, .int cm, .int stp, .ref q6, .ref q7, .ref q8, .int mus, .int mc_, .int mb_, .ref q9])), (q1, .inl (ct.2.2, 9, .inl am_4)), (q2, .inl (ct.1, 240, .inr (.inl ac)))] ++ wt) H := hP
        have hD : va_D A ([(h0, .inr (5, [.ref q1, .ref q2, .ref q3, .ref q4, .ref q5, .int cm, .int stp, .ref q6, .ref q7, .ref q8, .int mus, .int mc_, .int mb_, .ref q9])), (q1, .inl (ct.2.2, 9, .inl am_4)), (q2, .inl (ct.1, 240, .inr (.inl ac)))] ++ wt) := hD
        refine lv_aload_n hx hb d_M_keeps_26 rfl (lv_at hl 0 rfl) ?_
        refine lv_aload_n hx hb d_M_keeps_27 rfl (lv_at hl 0 rfl) ?_
        refine va_get (D := D) (ci := 5) (v := .ref q2) (C := R_Model) (T := F_Model) (N := 14) hx hb htg i_Model hown hK hP 0 rfl rfl 1 (by decide) (htg _ tm_399) (fun _ h9 => h9) rfl d_M_keeps_28 ?_
        refine lv_bipush (v := (6 : Int32)) hx hb d_M_keeps_31 (by decide) ?_
        refine lv_iload_n hx hb d_M_keeps_33 rfl (lv_at hl 1 rfl) ?_
        refine lv_imul hx hb d_M_keeps_34 ?_
        rcases e_6 : f_M_keeps6 am_4 ac ((6 : Int32) * cl) with _ | v_7
        · rw [e_6] at h; cases h
        rw [e_6, Option.bind_some] at h
        try dsimp only at h
        refine vp_callSi (va_Run.run (va_runV (As := [.ref q2, .int ((6 : Int32) * cl)]) (rest := []) ⟨hx, hb, hml, hown, htg⟩ (c_M_keeps6 l D ct ([(h0, .inr (5, [.ref q1, .ref q2, .ref q3, .ref q4, .ref q5, .int cm, .int stp, .ref q6, .ref q7, .ref q8, .int mus, .int mc_, .int mb_, .ref q9])), (q1, .inl (ct.2.2, 9, .inl am_4)), (q2, .inl (ct.1, 240, .inr (.inl ac)))] ++ wt) 0 1 2 h0 q1 q2 q3 q4 q5 q6 q7 q8 q9 cm stp mus mc_ mb_ am_4 q2 ac ((6 : Int32) * cl) rfl rfl rfl  _ e_6) (cwV 2 htg (giV tm_475 tm_477 tm_23 tm_34 g_M_keeps6) rfl rfl rfl (by decide +kernel) ⟨Nat.le_of_ble_eq_true rfl, Nat.le_of_ble_eq_true rfl⟩) (preV hP hKK (va_recv hK hP (ci := 5) (q0 := 0) rfl rfl)) rfl rfl hl.1 rfl (lv_room (Nat.le_of_ble_eq_true rfl)) d_M_keeps_35 ⟨Nat.le_of_ble_eq_true rfl, Nat.le_of_ble_eq_true rfl⟩)) (fun r9 hr9 => ?_)
        have hb_v_7 := hr9.2
        have hr9 := hr9.1.symm
        subst hr9
        exact W.zret (v := v_7) (ty := .boolean) hx hb hr (nb_of hb_v_7) (fun t ht hW => ⟨⟨v_7, am_4, rfl, (Option.some.inj h), by rw [ht]; exact hP, hD⟩, hS.F ht⟩) hS.2.2 d_M_keeps_38
      · rw [if_neg c_3] at h
        refine lv_iconst (v := (0 : Int32)) hx hb d_M_keeps_19 (by decide) ?_
        exact W.zret (v := (0 : Int32)) (ty := .boolean) hx hb hr rfl (fun t ht hW => ⟨⟨(0 : Int32), am, rfl, (Option.some.inj h), by rw [ht]; exact hP, hD⟩, hS.F ht⟩) hS.2.2 d_M_keeps_20
-- CellBenchModel <init> ()V
def f_M_init (cm : Int32) (stp : Int32) (mus : Int32) (mc_ : Int32) (mb_ : Int32) : Int32 × Int32 × Int32 × Int32 × Int32 × (Nat → Int32) × (Nat → Int64) × (Nat → Int64) × (Nat → Int32) × (Nat → Int32) × (Nat → Int64) × (Nat → Int64) × (Nat → Int32) × (Nat → Int64) :=
    (cm, stp, mus, (-1 : Int32), mb_, (fun _ => 0), (fun _ => 0), (fun _ => 0), (fun _ => 0), (fun _ => 0), (fun _ => 0), (fun _ => 0), (fun _ => 0), (fun _ => 0))
def w_M_init : List Cond := .code y_M_init b_M_init 1 none :: GW
abbrev rm_M_init : Room := { frames := 1, cells := 9, slots := 7075, locals := 12 }
theorem g_M_init : GoodIn GW w_M_init := gi tm_396
set_option maxHeartbeats 4000000 in
set_option maxRecDepth 100000 in
theorem c_M_init (l : Launch) (D : va_G) (ct : CT) (A : Nat → Prop) (wt : va_W)  (h0 : Nat) (cm : Int32) (stp : Int32) (mus : Int32) (mc_ : Int32) (mb_ : Int32)   (r0 : Int32 × Int32 × Int32 × Int32 × Int32 × (Nat → Int32) × (Nat → Int64) × (Nat → Int64) × (Nat → Int32) × (Nat → Int32) × (Nat → Int64) × (Nat → Int64) × (Nat → Int32) × (Nat → Int64)) (h : f_M_init cm stp mus mc_ mb_ = r0) : Met l y_M_init w_M_init rm_M_init (va_Pc [.ref h0] (PreM D ct A ([(h0, .inr (5, [.null, .null, .null, .null, .null, .int cm, .int stp, .null, .null, .null, .int mus, .int mc_, .int mb_, .null]))] ++ wt))) (va_Qv (fun u => u = r0) (fun (u : Int32 × Int32 × Int32 × Int32 × Int32 × (Nat → Int32) × (Nat → Int64) × (Nat → Int64) × (Nat → Int32) × (Nat → Int32) × (Nat → Int64) × (Nat → Int64) × (Nat → Int32) × (Nat → Int64)) t => match u with | (cm', stp', mus', mc_', mb_', am', ac', al', ay', as_', ax', au', ao', at_') => ∃ q1 : Nat, ∃ q2 : Nat, ∃ q3 : Nat, ∃ q4 : Nat, ∃ q5 : Nat, ∃ q6 : Nat, ∃ q7 : Nat, ∃ q8 : Nat, ∃ q9 : Nat, va_P D classes ([(h0, .inr (5, [.ref q1, .ref q2, .ref q3, .ref q4, .ref q5, .int cm', .int stp', .ref q6, .ref q7, .ref q8, .int mus', .int mc_', .int mb_', .ref q9])), (q1, .inl (ct.2.2, 9, .inl am')), (q2, .inl (ct.1, 240, .inr (.inl ac'))), (q3, .inl (ct.1, 240, .inr (.inl al'))), (q4, .inl (ct.2.2, 40, .inl ay')), (q5, .inl (ct.2.2, 40, .inl as_')), (q6, .inl (ct.1, 6, .inr (.inl ax'))), (q7, .inl (ct.1, 3000, .inr (.inl au'))), (q8, .inl (ct.2.2, 500, .inl ao')), (q9, .inl (ct.1, 3000, .inr (.inl at_')))] ++ wt) t.heap ∧ va_D A ([(h0, .inr (5, [.ref q1, .ref q2, .ref q3, .ref q4, .ref q5, .int cm', .int stp', .ref q6, .ref q7, .ref q8, .int mus', .int mc_', .int mb_', .ref q9])), (q1, .inl (ct.2.2, 9, .inl am')), (q2, .inl (ct.1, 240, .inr (.inl ac'))), (q3, .inl (ct.1, 240, .inr (.inl al'))), (q4, .inl (ct.2.2, 40, .inl ay')), (q5, .inl (ct.2.2, 40, .inl as_')), (q6, .inl (ct.1, 6, .inr (.inl ax'))), (q7, .inl (ct.1, 3000, .inr (.inl au'))), (q8, .inl (ct.2.2, 500, .inl ao')), (q9, .inl (ct.1, 3000, .inr (.inl at_')))] ++ wt)) A) 9 7075 A := by
  refine Met.ofW (cc := b_M_init) (maxL := 1) (ret := none) (by decide) rfl ?_
  intro p e s m args below meth c s₁ B hml hv
  obtain ⟨rfl, hA, hP, hD, hKK⟩ := hv
  have hx := B.exec
  have hb := B.bytes
  have hr := B.returns
  have htg := ht_tl (atoms_spec (ws := w_M_init) B.pre)
  have hown : s.vm.findClass R_Model = some m.cls := findClass_of_methodNamed B.named
  have hlocks := B.notSynchronized
  have hin : meth.name = "<init>" := (name_of_methodNamed B.named B.method).1
  have hK := hKK.1
  have hN := hKK.2.1
  have hO := hKK.2.2
  have hS : va_S A s.heap s.heap [] := va_S.rf
  have hl := lv_entry ([.ref h0]) (n := 1) (Nat.le_of_ble_eq_true rfl)
  rw [lg_entry_eq]
  generalize (lg_sl ([.ref h0]) ++ List.replicate (1 - (lg_sl ([.ref h0])).length) Slot.unset).toArray = ls at hl ⊢
  have hl : lv_has ls 1 [(0, .ref h0)] := hl
  unfold f_M_init at h
  refine lv_aload_n hx hb d_M_init_0 rfl (lv_at hl 0 rfl) ?_
  refine W.objInit hx hb hown (htg _ tm_397) (htg _ tm_46) (htg _ tm_47) rfl (by rw [hml]; exact hl.1) rfl d_M_init_1 (Nat.le_of_ble_eq_true rfl) (Nat.le_of_ble_eq_true rfl) ?_
  refine W.eq (g2 := F0 m 4 ls []) rfl ?_
  refine lv_aload_n hx hb d_M_init_4 rfl (lv_at hl 0 rfl) ?_
  refine lv_bipush (v := (9 : Int32)) hx hb d_M_init_5 (by decide) ?_
  refine va_newa (atype := .int) (ty := .int) (N' := 9) (a0 := (9, .inl (fun _ => 0))) hx hb (htg _ tm_441) rfl hK hP hD hS hA (fun _ => rfl) (by decide) (by decide) (by decide) (Nat.le_of_ble_eq_true rfl) (Nat.le_of_ble_eq_true rfl) d_M_init_7 (fun q_1 cA9 H hK9 hP hD hS => ?_)
  have hc9 := newI hK9
  subst hc9
  have hP := hP.swap
  have hD := hD.swap
  have hP : va_P D classes ([(h0, .inr (5, [.null, .null, .null, .null, .null, .int cm, .int stp, .null, .null, .null, .int mus, .int mc_, .int mb_, .null])), (q_1, .inl (ct.2.2, 9, .inl (fun _ => 0)))] ++ wt) H := hP
  have hD : va_D A ([(h0, .inr (5, [.null, .null, .null, .null, .null, .int cm, .int stp, .null, .null, .null, .int mus, .int mc_, .int mb_, .null])), (q_1, .inl (ct.2.2, 9, .inl (fun _ => 0)))] ++ wt) := hD
  refine W.widen (k := 1) (n := 9) (Nat.le_refl _) (Nat.le_refl _) ?_
  refine va_putF (D := D) (ci := 5) (v := .ref q_1) (ty := .array .int) (C := R_Model) (T := F_Model) (N := 14) hx hb htg i_Model t_Model t_Model_ok n_Model hown hK hP hD hS 0 rfl rfl 0 (by decide) (htg _ tm_398) (fun _ h9 => h9) rfl hin rfl (by decide +kernel) rfl rfl (Nat.le_of_ble_eq_true rfl) d_M_init_9 (fun H locs hP hD hS => ?_)
  have hP : va_P D classes ([(h0, .inr (5, [.ref q_1, .null, .null, .null, .null, .int cm, .int stp, .null, .null, .null, .int mus, .int mc_, .int mb_, .null])), (q_1, .inl (ct.2.2, 9, .inl (fun _ => 0)))] ++ wt) H := hP
  have hD : va_D A ([(h0, .inr (5, [.ref q_1, .null, .null, .null, .null, .int cm, .int stp, .null, .null, .null, .int mus, .int mc_, .int mb_, .null])), (q_1, .inl (ct.2.2, 9, .inl (fun _ => 0)))] ++ wt) := hD
  refine lv_aload_n hx hb d_M_init_12 rfl (lv_at hl 0 rfl) ?_
  refine lv_sipush (v := (240 : Int32)) hx hb d_M_init_13 (by decide) ?_
  refine va_newa (atype := .long) (ty := .long) (N' := 240) (a0 := (240, .inr (.inl (fun _ => 0)))) hx hb (htg _ tm_100) rfl hK hP hD hS hA (fun _ => rfl) (by decide) (by decide) (by decide) (Nat.le_of_ble_eq_true rfl) (Nat.le_of_ble_eq_true rfl) d_M_init_16 (fun q_2 cA9 H hK9 hP hD hS => ?_)
  have hc9 := newJ hK9
  subst hc9
  have hP := hP.swap
  have hD := hD.swap
  have hP : va_P D classes ([(h0, .inr (5, [.ref q_1, .null, .null, .null, .null, .int cm, .int stp, .null, .null, .null, .int mus, .int mc_, .int mb_, .null])), (q_1, .inl (ct.2.2, 9, .inl (fun _ => 0))), (q_2, .inl (ct.1, 240, .inr (.inl (fun _ => 0))))] ++ wt) H := hP
  have hD : va_D A ([(h0, .inr (5, [.ref q_1, .null, .null, .null, .null, .int cm, .int stp, .null, .null, .null, .int mus, .int mc_, .int mb_, .null])), (q_1, .inl (ct.2.2, 9, .inl (fun _ => 0))), (q_2, .inl (ct.1, 240, .inr (.inl (fun _ => 0))))] ++ wt) := hD
  refine W.widen (k := 2) (n := 249) (Nat.le_refl _) (Nat.le_refl _) ?_
  refine va_putF (D := D) (ci := 5) (v := .ref q_2) (ty := .array .long) (C := R_Model) (T := F_Model) (N := 14) hx hb htg i_Model t_Model t_Model_ok n_Model hown hK hP hD hS 0 rfl rfl 1 (by decide) (htg _ tm_399) (fun _ h9 => h9) rfl hin rfl (by decide +kernel) rfl rfl (Nat.le_of_ble_eq_true rfl) d_M_init_18 (fun H locs hP hD hS => ?_)
  have hP : va_P D classes ([(h0, .inr (5, [.ref q_1, .ref q_2, .null, .null, .null, .int cm, .int stp, .null, .null, .null, .int mus, .int mc_, .int mb_, .null])), (q_1, .inl (ct.2.2, 9, .inl (fun _ => 0))), (q_2, .inl (ct.1, 240, .inr (.inl (fun _ => 0))))] ++ wt) H := hP
  have hD : va_D A ([(h0, .inr (5, [.ref q_1, .ref q_2, .null, .null, .null, .int cm, .int stp, .null, .null, .null, .int mus, .int mc_, .int mb_, .null])), (q_1, .inl (ct.2.2, 9, .inl (fun _ => 0))), (q_2, .inl (ct.1, 240, .inr (.inl (fun _ => 0))))] ++ wt) := hD
  refine lv_aload_n hx hb d_M_init_21 rfl (lv_at hl 0 rfl) ?_
  refine lv_sipush (v := (240 : Int32)) hx hb d_M_init_22 (by decide) ?_
  refine va_newa (atype := .long) (ty := .long) (N' := 240) (a0 := (240, .inr (.inl (fun _ => 0)))) hx hb (htg _ tm_100) rfl hK hP hD hS hA (fun _ => rfl) (by decide) (by decide) (by decide) (Nat.le_of_ble_eq_true rfl) (Nat.le_of_ble_eq_true rfl) d_M_init_25 (fun q_3 cA9 H hK9 hP hD hS => ?_)
  have hc9 := newJ hK9
  subst hc9
  have hP := hP.swap
  have hD := hD.swap
  have hP : va_P D classes ([(h0, .inr (5, [.ref q_1, .ref q_2, .null, .null, .null, .int cm, .int stp, .null, .null, .null, .int mus, .int mc_, .int mb_, .null])), (q_1, .inl (ct.2.2, 9, .inl (fun _ => 0))), (q_2, .inl (ct.1, 240, .inr (.inl (fun _ => 0)))), (q_3, .inl (ct.1, 240, .inr (.inl (fun _ => 0))))] ++ wt) H := hP
  have hD : va_D A ([(h0, .inr (5, [.ref q_1, .ref q_2, .null, .null, .null, .int cm, .int stp, .null, .null, .null, .int mus, .int mc_, .int mb_, .null])), (q_1, .inl (ct.2.2, 9, .inl (fun _ => 0))), (q_2, .inl (ct.1, 240, .inr (.inl (fun _ => 0)))), (q_3, .inl (ct.1, 240, .inr (.inl (fun _ => 0))))] ++ wt) := hD
  refine W.widen (k := 3) (n := 489) (Nat.le_refl _) (Nat.le_refl _) ?_
  refine va_putF (D := D) (ci := 5) (v := .ref q_3) (ty := .array .long) (C := R_Model) (T := F_Model) (N := 14) hx hb htg i_Model t_Model t_Model_ok n_Model hown hK hP hD hS 0 rfl rfl 2 (by decide) (htg _ tm_400) (fun _ h9 => h9) rfl hin rfl (by decide +kernel) rfl rfl (Nat.le_of_ble_eq_true rfl) d_M_init_27 (fun H locs hP hD hS => ?_)
  have hP : va_P D classes ([(h0, .inr (5, [.ref q_1, .ref q_2, .ref q_3, .null, .null, .int cm, .int stp, .null, .null, .null, .int mus, .int mc_, .int mb_, .null])), (q_1, .inl (ct.2.2, 9, .inl (fun _ => 0))), (q_2, .inl (ct.1, 240, .inr (.inl (fun _ => 0)))), (q_3, .inl (ct.1, 240, .inr (.inl (fun _ => 0))))] ++ wt) H := hP
  have hD : va_D A ([(h0, .inr (5, [.ref q_1, .ref q_2, .ref q_3, .null, .null, .int cm, .int stp, .null, .null, .null, .int mus, .int mc_, .int mb_, .null])), (q_1, .inl (ct.2.2, 9, .inl (fun _ => 0))), (q_2, .inl (ct.1, 240, .inr (.inl (fun _ => 0)))), (q_3, .inl (ct.1, 240, .inr (.inl (fun _ => 0))))] ++ wt) := hD
  refine lv_aload_n hx hb d_M_init_30 rfl (lv_at hl 0 rfl) ?_
  refine lv_bipush (v := (40 : Int32)) hx hb d_M_init_31 (by decide) ?_
  refine va_newa (atype := .int) (ty := .int) (N' := 40) (a0 := (40, .inl (fun _ => 0))) hx hb (htg _ tm_441) rfl hK hP hD hS hA (fun _ => rfl) (by decide) (by decide) (by decide) (Nat.le_of_ble_eq_true rfl) (Nat.le_of_ble_eq_true rfl) d_M_init_33 (fun q_4 cA9 H hK9 hP hD hS => ?_)
  have hc9 := newI hK9
  subst hc9
  have hP := hP.swap
  have hD := hD.swap
  have hP : va_P D classes ([(h0, .inr (5, [.ref q_1, .ref q_2, .ref q_3, .null, .null, .int cm, .int stp, .null, .null, .null, .int mus, .int mc_, .int mb_, .null])), (q_1, .inl (ct.2.2, 9, .inl (fun _ => 0))), (q_2, .inl (ct.1, 240, .inr (.inl (fun _ => 0)))), (q_3, .inl (ct.1, 240, .inr (.inl (fun _ => 0)))), (q_4, .inl (ct.2.2, 40, .inl (fun _ => 0)))] ++ wt) H := hP
  have hD : va_D A ([(h0, .inr (5, [.ref q_1, .ref q_2, .ref q_3, .null, .null, .int cm, .int stp, .null, .null, .null, .int mus, .int mc_, .int mb_, .null])), (q_1, .inl (ct.2.2, 9, .inl (fun _ => 0))), (q_2, .inl (ct.1, 240, .inr (.inl (fun _ => 0)))), (q_3, .inl (ct.1, 240, .inr (.inl (fun _ => 0)))), (q_4, .inl (ct.2.2, 40, .inl (fun _ => 0)))] ++ wt) := hD
  refine W.widen (k := 4) (n := 529) (Nat.le_refl _) (Nat.le_refl _) ?_
  refine va_putF (D := D) (ci := 5) (v := .ref q_4) (ty := .array .int) (C := R_Model) (T := F_Model) (N := 14) hx hb htg i_Model t_Model t_Model_ok n_Model hown hK hP hD hS 0 rfl rfl 3 (by decide) (htg _ tm_401) (fun _ h9 => h9) rfl hin rfl (by decide +kernel) rfl rfl (Nat.le_of_ble_eq_true rfl) d_M_init_35 (fun H locs hP hD hS => ?_)
  have hP : va_P D classes ([(h0, .inr (5, [.ref q_1, .ref q_2, .ref q_3, .ref q_4, .null, .int cm, .int stp, .null, .null, .null, .int mus, .int mc_, .int mb_, .null])), (q_1, .inl (ct.2.2, 9, .inl (fun _ => 0))), (q_2, .inl (ct.1, 240, .inr (.inl (fun _ => 0)))), (q_3, .inl (ct.1, 240, .inr (.inl (fun _ => 0)))), (q_4, .inl (ct.2.2, 40, .inl (fun _ => 0)))] ++ wt) H := hP
  have hD : va_D A ([(h0, .inr (5, [.ref q_1, .ref q_2, .ref q_3, .ref q_4, .null, .int cm, .int stp, .null, .null, .null, .int mus, .int mc_, .int mb_, .null])), (q_1, .inl (ct.2.2, 9, .inl (fun _ => 0))), (q_2, .inl (ct.1, 240, .inr (.inl (fun _ => 0)))), (q_3, .inl (ct.1, 240, .inr (.inl (fun _ => 0)))), (q_4, .inl (ct.2.2, 40, .inl (fun _ => 0)))] ++ wt) := hD
  refine lv_aload_n hx hb d_M_init_38 rfl (lv_at hl 0 rfl) ?_
  refine lv_bipush (v := (40 : Int32)) hx hb d_M_init_39 (by decide) ?_
  refine va_newa (atype := .int) (ty := .int) (N' := 40) (a0 := (40, .inl (fun _ => 0))) hx hb (htg _ tm_441) rfl hK hP hD hS hA (fun _ => rfl) (by decide) (by decide) (by decide) (Nat.le_of_ble_eq_true rfl) (Nat.le_of_ble_eq_true rfl) d_M_init_41 (fun q_5 cA9 H hK9 hP hD hS => ?_)
  have hc9 := newI hK9
  subst hc9
  have hP := hP.swap
  have hD := hD.swap
  have hP : va_P D classes ([(h0, .inr (5, [.ref q_1, .ref q_2, .ref q_3, .ref q_4, .null, .int cm, .int stp, .null, .null, .null, .int mus, .int mc_, .int mb_, .null])), (q_1, .inl (ct.2.2, 9, .inl (fun _ => 0))), (q_2, .inl (ct.1, 240, .inr (.inl (fun _ => 0)))), (q_3, .inl (ct.1, 240, .inr (.inl (fun _ => 0)))), (q_4, .inl (ct.2.2, 40, .inl (fun _ => 0))), (q_5, .inl (ct.2.2, 40, .inl (fun _ => 0)))] ++ wt) H := hP
  have hD : va_D A ([(h0, .inr (5, [.ref q_1, .ref q_2, .ref q_3, .ref q_4, .null, .int cm, .int stp, .null, .null, .null, .int mus, .int mc_, .int mb_, .null])), (q_1, .inl (ct.2.2, 9, .inl (fun _ => 0))), (q_2, .inl (ct.1, 240, .inr (.inl (fun _ => 0)))), (q_3, .inl (ct.1, 240, .inr (.inl (fun _ => 0)))), (q_4, .inl (ct.2.2, 40, .inl (fun _ => 0))), (q_5, .inl (ct.2.2, 40, .inl (fun _ => 0)))] ++ wt) := hD
  refine W.widen (k := 5) (n := 569) (Nat.le_refl _) (Nat.le_refl _) ?_
  refine va_putF (D := D) (ci := 5) (v := .ref q_5) (ty := .array .int) (C := R_Model) (T := F_Model) (N := 14) hx hb htg i_Model t_Model t_Model_ok n_Model hown hK hP hD hS 0 rfl rfl 4 (by decide) (htg _ tm_402) (fun _ h9 => h9) rfl hin rfl (by decide +kernel) rfl rfl (Nat.le_of_ble_eq_true rfl) d_M_init_43 (fun H locs hP hD hS => ?_)
  have hP : va_P D classes ([(h0, .inr (5, [.ref q_1, .ref q_2, .ref q_3, .ref q_4, .ref q_5, .int cm, .int stp, .null, .null, .null, .int mus, .int mc_, .int mb_, .null])), (q_1, .inl (ct.2.2, 9, .inl (fun _ => 0))), (q_2, .inl (ct.1, 240, .inr (.inl (fun _ => 0)))), (q_3, .inl (ct.1, 240, .inr (.inl (fun _ => 0)))), (q_4, .inl (ct.2.2, 40, .inl (fun _ => 0))), (q_5, .inl (ct.2.2, 40, .inl (fun _ => 0)))] ++ wt) H := hP
  have hD : va_D A ([(h0, .inr (5, [.ref q_1, .ref q_2, .ref q_3, .ref q_4, .ref q_5, .int cm, .int stp, .null, .null, .null, .int mus, .int mc_, .int mb_, .null])), (q_1, .inl (ct.2.2, 9, .inl (fun _ => 0))), (q_2, .inl (ct.1, 240, .inr (.inl (fun _ => 0)))), (q_3, .inl (ct.1, 240, .inr (.inl (fun _ => 0)))), (q_4, .inl (ct.2.2, 40, .inl (fun _ => 0))), (q_5, .inl (ct.2.2, 40, .inl (fun _ => 0)))] ++ wt) := hD
  refine lv_aload_n hx hb d_M_init_46 rfl (lv_at hl 0 rfl) ?_
  refine lv_bipush (v := (6 : Int32)) hx hb d_M_init_47 (by decide) ?_
  refine va_newa (atype := .long) (ty := .long) (N' := 6) (a0 := (6, .inr (.inl (fun _ => 0)))) hx hb (htg _ tm_100) rfl hK hP hD hS hA (fun _ => rfl) (by decide) (by decide) (by decide) (Nat.le_of_ble_eq_true rfl) (Nat.le_of_ble_eq_true rfl) d_M_init_49 (fun q_6 cA9 H hK9 hP hD hS => ?_)
  have hc9 := newJ hK9
  subst hc9
  have hP := hP.swap
  have hD := hD.swap
  have hP : va_P D classes ([(h0, .inr (5, [.ref q_1, .ref q_2, .ref q_3, .ref q_4, .ref q_5, .int cm, .int stp, .null, .null, .null, .int mus, .int mc_, .int mb_, .null])), (q_1, .inl (ct.2.2, 9, .inl (fun _ => 0))), (q_2, .inl (ct.1, 240, .inr (.inl (fun _ => 0)))), (q_3, .inl (ct.1, 240, .inr (.inl (fun _ => 0)))), (q_4, .inl (ct.2.2, 40, .inl (fun _ => 0))), (q_5, .inl (ct.2.2, 40, .inl (fun _ => 0))), (q_6, .inl (ct.1, 6, .inr (.inl (fun _ => 0))))] ++ wt) H := hP
  have hD : va_D A ([(h0, .inr (5, [.ref q_1, .ref q_2, .ref q_3, .ref q_4, .ref q_5, .int cm, .int stp, .null, .null, .null, .int mus, .int mc_, .int mb_, .null])), (q_1, .inl (ct.2.2, 9, .inl (fun _ => 0))), (q_2, .inl (ct.1, 240, .inr (.inl (fun _ => 0)))), (q_3, .inl (ct.1, 240, .inr (.inl (fun _ => 0)))), (q_4, .inl (ct.2.2, 40, .inl (fun _ => 0))), (q_5, .inl (ct.2.2, 40, .inl (fun _ => 0))), (q_6, .inl (ct.1, 6, .inr (.inl (fun _ => 0))))] ++ wt) := hD
  refine W.widen (k := 6) (n := 575) (Nat.le_refl _) (Nat.le_refl _) ?_
  refine va_putF (D := D) (ci := 5) (v := .ref q_6) (ty := .array .long) (C := R_Model) (T := F_Model) (N := 14) hx hb htg i_Model t_Model t_Model_ok n_Model hown hK hP hD hS 0 rfl rfl 7 (by decide) (htg _ tm_405) (fun _ h9 => h9) rfl hin rfl (by decide +kernel) rfl rfl (Nat.le_of_ble_eq_true rfl) d_M_init_51 (fun H locs hP hD hS => ?_)
  have hP : va_P D classes ([(h0, .inr (5, [.ref q_1, .ref q_2, .ref q_3, .ref q_4, .ref q_5, .int cm, .int stp, .ref q_6, .null, .null, .int mus, .int mc_, .int mb_, .null])), (q_1, .inl (ct.2.2, 9, .inl (fun _ => 0))), (q_2, .inl (ct.1, 240, .inr (.inl (fun _ => 0)))), (q_3, .inl (ct.1, 240, .inr (.inl (fun _ => 0)))), (q_4, .inl (ct.2.2, 40, .inl (fun _ => 0))), (q_5, .inl (ct.2.2, 40, .inl (fun _ => 0))), (q_6, .inl (ct.1, 6, .inr (.inl (fun _ => 0))))] ++ wt) H := hP
  have hD : va_D A ([(h0, .inr (5, [.ref q_1, .ref q_2, .ref q_3, .ref q_4, .ref q_5, .int cm, .int stp, .ref q_6, .null, .null, .int mus, .int mc_, .int mb_, .null])), (q_1, .inl (ct.2.2, 9, .inl (fun _ => 0))), (q_2, .inl (ct.1, 240, .inr (.inl (fun _ => 0)))), (q_3, .inl (ct.1, 240, .inr (.inl (fun _ => 0)))), (q_4, .inl (ct.2.2, 40, .inl (fun _ => 0))), (q_5, .inl (ct.2.2, 40, .inl (fun _ => 0))), (q_6, .inl (ct.1, 6, .inr (.inl (fun _ => 0))))] ++ wt) := hD
  refine lv_aload_n hx hb d_M_init_54 rfl (lv_at hl 0 rfl) ?_
  refine lv_sipush (v := (3000 : Int32)) hx hb d_M_init_55 (by decide) ?_
  refine va_newa (atype := .long) (ty := .long) (N' := 3000) (a0 := (3000, .inr (.inl (fun _ => 0)))) hx hb (htg _ tm_100) rfl hK hP hD hS hA (fun _ => rfl) (by decide) (by decide) (by decide) (Nat.le_of_ble_eq_true rfl) (Nat.le_of_ble_eq_true rfl) d_M_init_58 (fun q_7 cA9 H hK9 hP hD hS => ?_)
  have hc9 := newJ hK9
  subst hc9
  have hP := hP.swap
  have hD := hD.swap
  have hP : va_P D classes ([(h0, .inr (5, [.ref q_1, .ref q_2, .ref q_3, .ref q_4, .ref q_5, .int cm, .int stp, .ref q_6, .null, .null, .int mus, .int mc_, .int mb_, .null])), (q_1, .inl (ct.2.2, 9, .inl (fun _ => 0))), (q_2, .inl (ct.1, 240, .inr (.inl (fun _ => 0)))), (q_3, .inl (ct.1, 240, .inr (.inl (fun _ => 0)))), (q_4, .inl (ct.2.2, 40, .inl (fun _ => 0))), (q_5, .inl (ct.2.2, 40, .inl (fun _ => 0))), (q_6, .inl (ct.1, 6, .inr (.inl (fun _ => 0)))), (q_7, .inl (ct.1, 3000, .inr (.inl (fun _ => 0))))] ++ wt) H := hP
  have hD : va_D A ([(h0, .inr (5, [.ref q_1, .ref q_2, .ref q_3, .ref q_4, .ref q_5, .int cm, .int stp, .ref q_6, .null, .null, .int mus, .int mc_, .int mb_, .null])), (q_1, .inl (ct.2.2, 9, .inl (fun _ => 0))), (q_2, .inl (ct.1, 240, .inr (.inl (fun _ => 0)))), (q_3, .inl (ct.1, 240, .inr (.inl (fun _ => 0)))), (q_4, .inl (ct.2.2, 40, .inl (fun _ => 0))), (q_5, .inl (ct.2.2, 40, .inl (fun _ => 0))), (q_6, .inl (ct.1, 6, .inr (.inl (fun _ => 0)))), (q_7, .inl (ct.1, 3000, .inr (.inl (fun _ => 0))))] ++ wt) := hD
  refine W.widen (k := 7) (n := 3575) (Nat.le_refl _) (Nat.le_refl _) ?_
  refine va_putF (D := D) (ci := 5) (v := .ref q_7) (ty := .array .long) (C := R_Model) (T := F_Model) (N := 14) hx hb htg i_Model t_Model t_Model_ok n_Model hown hK hP hD hS 0 rfl rfl 8 (by decide) (htg _ tm_406) (fun _ h9 => h9) rfl hin rfl (by decide +kernel) rfl rfl (Nat.le_of_ble_eq_true rfl) d_M_init_60 (fun H locs hP hD hS => ?_)
  have hP : va_P D classes ([(h0, .inr (5, [.ref q_1, .ref q_2, .ref q_3, .ref q_4, .ref q_5, .int cm, .int stp, .ref q_6, .ref q_7, .null, .int mus, .int mc_, .int mb_, .null])), (q_1, .inl (ct.2.2, 9, .inl (fun _ => 0))), (q_2, .inl (ct.1, 240, .inr (.inl (fun _ => 0)))), (q_3, .inl (ct.1, 240, .inr (.inl (fun _ => 0)))), (q_4, .inl (ct.2.2, 40, .inl (fun _ => 0))), (q_5, .inl (ct.2.2, 40, .inl (fun _ => 0))), (q_6, .inl (ct.1, 6, .inr (.inl (fun _ => 0)))), (q_7, .inl (ct.1, 3000, .inr (.inl (fun _ => 0))))] ++ wt) H := hP
  have hD : va_D A ([(h0, .inr (5, [.ref q_1, .ref q_2, .ref q_3, .ref q_4, .ref q_5, .int cm, .int stp, .ref q_6, .ref q_7, .null, .int mus, .int mc_, .int mb_, .null])), (q_1, .inl (ct.2.2, 9, .inl (fun _ => 0))), (q_2, .inl (ct.1, 240, .inr (.inl (fun _ => 0)))), (q_3, .inl (ct.1, 240, .inr (.inl (fun _ => 0)))), (q_4, .inl (ct.2.2, 40, .inl (fun _ => 0))), (q_5, .inl (ct.2.2, 40, .inl (fun _ => 0))), (q_6, .inl (ct.1, 6, .inr (.inl (fun _ => 0)))), (q_7, .inl (ct.1, 3000, .inr (.inl (fun _ => 0))))] ++ wt) := hD
  refine lv_aload_n hx hb d_M_init_63 rfl (lv_at hl 0 rfl) ?_
  refine lv_sipush (v := (500 : Int32)) hx hb d_M_init_64 (by decide) ?_
  refine va_newa (atype := .int) (ty := .int) (N' := 500) (a0 := (500, .inl (fun _ => 0))) hx hb (htg _ tm_441) rfl hK hP hD hS hA (fun _ => rfl) (by decide) (by decide) (by decide) (Nat.le_of_ble_eq_true rfl) (Nat.le_of_ble_eq_true rfl) d_M_init_67 (fun q_8 cA9 H hK9 hP hD hS => ?_)
  have hc9 := newI hK9
  subst hc9
  have hP := hP.swap
  have hD := hD.swap
  have hP : va_P D classes ([(h0, .inr (5, [.ref q_1, .ref q_2, .ref q_3, .ref q_4, .ref q_5, .int cm, .int stp, .ref q_6, .ref q_7, .null, .int mus, .int mc_, .int mb_, .null])), (q_1, .inl (ct.2.2, 9, .inl (fun _ => 0))), (q_2, .inl (ct.1, 240, .inr (.inl (fun _ => 0)))), (q_3, .inl (ct.1, 240, .inr (.inl (fun _ => 0)))), (q_4, .inl (ct.2.2, 40, .inl (fun _ => 0))), (q_5, .inl (ct.2.2, 40, .inl (fun _ => 0))), (q_6, .inl (ct.1, 6, .inr (.inl (fun _ => 0)))), (q_7, .inl (ct.1, 3000, .inr (.inl (fun _ => 0)))), (q_8, .inl (ct.2.2, 500, .inl (fun _ => 0)))] ++ wt) H := hP
  have hD : va_D A ([(h0, .inr (5, [.ref q_1, .ref q_2, .ref q_3, .ref q_4, .ref q_5, .int cm, .int stp, .ref q_6, .ref q_7, .null, .int mus, .int mc_, .int mb_, .null])), (q_1, .inl (ct.2.2, 9, .inl (fun _ => 0))), (q_2, .inl (ct.1, 240, .inr (.inl (fun _ => 0)))), (q_3, .inl (ct.1, 240, .inr (.inl (fun _ => 0)))), (q_4, .inl (ct.2.2, 40, .inl (fun _ => 0))), (q_5, .inl (ct.2.2, 40, .inl (fun _ => 0))), (q_6, .inl (ct.1, 6, .inr (.inl (fun _ => 0)))), (q_7, .inl (ct.1, 3000, .inr (.inl (fun _ => 0)))), (q_8, .inl (ct.2.2, 500, .inl (fun _ => 0)))] ++ wt) := hD
  refine W.widen (k := 8) (n := 4075) (Nat.le_refl _) (Nat.le_refl _) ?_
  refine va_putF (D := D) (ci := 5) (v := .ref q_8) (ty := .array .int) (C := R_Model) (T := F_Model) (N := 14) hx hb htg i_Model t_Model t_Model_ok n_Model hown hK hP hD hS 0 rfl rfl 9 (by decide) (htg _ tm_407) (fun _ h9 => h9) rfl hin rfl (by decide +kernel) rfl rfl (Nat.le_of_ble_eq_true rfl) d_M_init_69 (fun H locs hP hD hS => ?_)
  have hP : va_P D classes ([(h0, .inr (5, [.ref q_1, .ref q_2, .ref q_3, .ref q_4, .ref q_5, .int cm, .int stp, .ref q_6, .ref q_7, .ref q_8, .int mus, .int mc_, .int mb_, .null])), (q_1, .inl (ct.2.2, 9, .inl (fun _ => 0))), (q_2, .inl (ct.1, 240, .inr (.inl (fun _ => 0)))), (q_3, .inl (ct.1, 240, .inr (.inl (fun _ => 0)))), (q_4, .inl (ct.2.2, 40, .inl (fun _ => 0))), (q_5, .inl (ct.2.2, 40, .inl (fun _ => 0))), (q_6, .inl (ct.1, 6, .inr (.inl (fun _ => 0)))), (q_7, .inl (ct.1, 3000, .inr (.inl (fun _ => 0)))), (q_8, .inl (ct.2.2, 500, .inl (fun _ => 0)))] ++ wt) H := hP
  have hD : va_D A ([(h0, .inr (5, [.ref q_1, .ref q_2, .ref q_3, .ref q_4, .ref q_5, .int cm, .int stp, .ref q_6, .ref q_7, .ref q_8, .int mus, .int mc_, .int mb_, .null])), (q_1, .inl (ct.2.2, 9, .inl (fun _ => 0))), (q_2, .inl (ct.1, 240, .inr (.inl (fun _ => 0)))), (q_3, .inl (ct.1, 240, .inr (.inl (fun _ => 0)))), (q_4, .inl (ct.2.2, 40, .inl (fun _ => 0))), (q_5, .inl (ct.2.2, 40, .inl (fun _ => 0))), (q_6, .inl (ct.1, 6, .inr (.inl (fun _ => 0)))), (q_7, .inl (ct.1, 3000, .inr (.inl (fun _ => 0)))), (q_8, .inl (ct.2.2, 500, .inl (fun _ => 0)))] ++ wt) := hD
  refine lv_aload_n hx hb d_M_init_72 rfl (lv_at hl 0 rfl) ?_
  refine lv_iconst (v := (-1 : Int32)) hx hb d_M_init_73 (by decide) ?_
  refine va_put (D := D) (ci := 5) (v := .int (-1 : Int32)) (ty := .int) (C := R_Model) (T := F_Model) (N := 14) hx hb htg i_Model t_Model t_Model_ok n_Model hown hK hP hD hS 0 rfl rfl 11 (by decide) (htg _ tm_409) (fun _ h9 => h9) rfl (by decide +kernel) rfl rfl (Nat.le_of_ble_eq_true rfl) d_M_init_74 (fun H locs hP hD hS => ?_)
  have hP : va_P D classes ([(h0, .inr (5, [.ref q_1, .ref q_2, .ref q_3, .ref q_4, .ref q_5, .int cm, .int stp, .ref q_6, .ref q_7, .ref q_8, .int mus, .int (-1 : Int32), .int mb_, .null])), (q_1, .inl (ct.2.2, 9, .inl (fun _ => 0))), (q_2, .inl (ct.1, 240, .inr (.inl (fun _ => 0)))), (q_3, .inl (ct.1, 240, .inr (.inl (fun _ => 0)))), (q_4, .inl (ct.2.2, 40, .inl (fun _ => 0))), (q_5, .inl (ct.2.2, 40, .inl (fun _ => 0))), (q_6, .inl (ct.1, 6, .inr (.inl (fun _ => 0)))), (q_7, .inl (ct.1, 3000, .inr (.inl (fun _ => 0)))), (q_8, .inl (ct.2.2, 500, .inl (fun _ => 0)))] ++ wt) H := hP
  have hD : va_D A ([(h0, .inr (5, [.ref q_1, .ref q_2, .ref q_3, .ref q_4, .ref q_5, .int cm, .int stp, .ref q_6, .ref q_7, .ref q_8, .int mus, .int (-1 : Int32), .int mb_, .null])), (q_1, .inl (ct.2.2, 9, .inl (fun _ => 0))), (q_2, .inl (ct.1, 240, .inr (.inl (fun _ => 0)))), (q_3, .inl (ct.1, 240, .inr (.inl (fun _ => 0)))), (q_4, .inl (ct.2.2, 40, .inl (fun _ => 0))), (q_5, .inl (ct.2.2, 40, .inl (fun _ => 0))), (q_6, .inl (ct.1, 6, .inr (.inl (fun _ => 0)))), (q_7, .inl (ct.1, 3000, .inr (.inl (fun _ => 0)))), (q_8, .inl (ct.2.2, 500, .inl (fun _ => 0)))] ++ wt) := hD
  refine lv_aload_n hx hb d_M_init_77 rfl (lv_at hl 0 rfl) ?_
  refine lv_sipush (v := (3000 : Int32)) hx hb d_M_init_78 (by decide) ?_
  refine va_newa (atype := .long) (ty := .long) (N' := 3000) (a0 := (3000, .inr (.inl (fun _ => 0)))) hx hb (htg _ tm_100) rfl hK hP hD hS hA (fun _ => rfl) (by decide) (by decide) (by decide) (Nat.le_of_ble_eq_true rfl) (Nat.le_of_ble_eq_true rfl) d_M_init_81 (fun q_9 cA9 H hK9 hP hD hS => ?_)
  have hc9 := newJ hK9
  subst hc9
  have hP := hP.swap
  have hD := hD.swap
  have hP : va_P D classes ([(h0, .inr (5, [.ref q_1, .ref q_2, .ref q_3, .ref q_4, .ref q_5, .int cm, .int stp, .ref q_6, .ref q_7, .ref q_8, .int mus, .int (-1 : Int32), .int mb_, .null])), (q_1, .inl (ct.2.2, 9, .inl (fun _ => 0))), (q_2, .inl (ct.1, 240, .inr (.inl (fun _ => 0)))), (q_3, .inl (ct.1, 240, .inr (.inl (fun _ => 0)))), (q_4, .inl (ct.2.2, 40, .inl (fun _ => 0))), (q_5, .inl (ct.2.2, 40, .inl (fun _ => 0))), (q_6, .inl (ct.1, 6, .inr (.inl (fun _ => 0)))), (q_7, .inl (ct.1, 3000, .inr (.inl (fun _ => 0)))), (q_8, .inl (ct.2.2, 500, .inl (fun _ => 0))), (q_9, .inl (ct.1, 3000, .inr (.inl (fun _ => 0))))] ++ wt) H := hP
  have hD : va_D A ([(h0, .inr (5, [.ref q_1, .ref q_2, .ref q_3, .ref q_4, .ref q_5, .int cm, .int stp, .ref q_6, .ref q_7, .ref q_8, .int mus, .int (-1 : Int32), .int mb_, .null])), (q_1, .inl (ct.2.2, 9, .inl (fun _ => 0))), (q_2, .inl (ct.1, 240, .inr (.inl (fun _ => 0)))), (q_3, .inl (ct.1, 240, .inr (.inl (fun _ => 0)))), (q_4, .inl (ct.2.2, 40, .inl (fun _ => 0))), (q_5, .inl (ct.2.2, 40, .inl (fun _ => 0))), (q_6, .inl (ct.1, 6, .inr (.inl (fun _ => 0)))), (q_7, .inl (ct.1, 3000, .inr (.inl (fun _ => 0)))), (q_8, .inl (ct.2.2, 500, .inl (fun _ => 0))), (q_9, .inl (ct.1, 3000, .inr (.inl (fun _ => 0))))] ++ wt) := hD
  refine W.widen (k := 9) (n := 7075) (Nat.le_refl _) (Nat.le_refl _) ?_
  refine va_putF (D := D) (ci := 5) (v := .ref q_9) (ty := .array .long) (C := R_Model) (T := F_Model) (N := 14) hx hb htg i_Model t_Model t_Model_ok n_Model hown hK hP hD hS 0 rfl rfl 13 (by decide) (htg _ tm_411) (fun _ h9 => h9) rfl hin rfl (by decide +kernel) rfl rfl (Nat.le_of_ble_eq_true rfl) d_M_init_83 (fun H locs hP hD hS => ?_)
  have hP : va_P D classes ([(h0, .inr (5, [.ref q_1, .ref q_2, .ref q_3, .ref q_4, .ref q_5, .int cm, .int stp, .ref q_6, .ref q_7, .ref q_8, .int mus, .int (-1 : Int32), .int mb_, .ref q_9])), (q_1, .inl (ct.2.2, 9, .inl (fun _ => 0))), (q_2, .inl (ct.1, 240, .inr (.inl (fun _ => 0)))), (q_3, .inl (ct.1, 240, .inr (.inl (fun _ => 0)))), (q_4, .inl (ct.2.2, 40, .inl (fun _ => 0))), (q_5, .inl (ct.2.2, 40, .inl (fun _ => 0))), (q_6, .inl (ct.1, 6, .inr (.inl (fun _ => 0)))), (q_7, .inl (ct.1, 3000, .inr (.inl (fun _ => 0)))), (q_8, .inl (ct.2.2, 500, .inl (fun _ => 0))), (q_9, .inl (ct.1, 3000, .inr (.inl (fun _ => 0))))] ++ wt) H := hP
  have hD : va_D A ([(h0, .inr (5, [.ref q_1, .ref q_2, .ref q_3, .ref q_4, .ref q_5, .int cm, .int stp, .ref q_6, .ref q_7, .ref q_8, .int mus, .int (-1 : Int32), .int mb_, .ref q_9])), (q_1, .inl (ct.2.2, 9, .inl (fun _ => 0))), (q_2, .inl (ct.1, 240, .inr (.inl (fun _ => 0)))), (q_3, .inl (ct.1, 240, .inr (.inl (fun _ => 0)))), (q_4, .inl (ct.2.2, 40, .inl (fun _ => 0))), (q_5, .inl (ct.2.2, 40, .inl (fun _ => 0))), (q_6, .inl (ct.1, 6, .inr (.inl (fun _ => 0)))), (q_7, .inl (ct.1, 3000, .inr (.inl (fun _ => 0)))), (q_8, .inl (ct.2.2, 500, .inl (fun _ => 0))), (q_9, .inl (ct.1, 3000, .inr (.inl (fun _ => 0))))] ++ wt) := hD
  exact W.vret hx hb hr (fun t ht hW => ⟨⟨(cm, stp, mus, (-1 : Int32), mb_, (fun _ => 0), (fun _ => 0), (fun _ => 0), (fun _ => 0), (fun _ => 0), (fun _ => 0), (fun _ => 0), (fun _ => 0), (fun _ => 0)), rfl, h, q_1, q_2, q_3, q_4, q_5, q_6, q_7, q_8, q_9, by rw [ht]; exact hP, hD⟩, hS.F ht⟩) hS.2.2 d_M_init_86
