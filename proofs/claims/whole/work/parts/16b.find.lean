-- CellBench find (I)LCellBench$Cell;
def f_B_find (cnt : Int32) (cf : Nat → Option Nat) (nb : Int32) : Option (Option Nat) :=
    if nb < 0 then (some none) else (if cnt ≤ nb then (some none) else (if nb < (Int32.ofNat 40) then (if inb nb 40 = true then (some (cf nb.toNatClampNeg)) else none) else (some none)))
def w_B_find : List Cond := .code y_B_find b_B_find 2 (some (.object "CellBench$Cell")) :: GW
abbrev rm_B_find : Room := { frames := 0, cells := 0, slots := 0, locals := 0 }
theorem g_B_find : GoodIn GW w_B_find := gi tm_281
set_option maxHeartbeats 4000000 in
set_option maxRecDepth 100000 in
theorem c_B_find (l : Launch) (D : va_G) (ct : CT) (ws : va_W) (k0 : Nat) (k1 : Nat) (h0 : Nat) (h1 : Nat) (h2 : Nat) (h3 : Nat) (h5 : Nat) (cnt : Int32) (cf : Nat → Option Nat) (nb : Int32) (hk0 : ws[k0]? = some (h0, .inr (4, [.ref h1, .ref h2, .ref h3, .ref h5, .int cnt]))) (hk1 : ws[k1]? = some (h1, .inl (ct.2.1, 40, .inr (.inr (.inr (.inr cf))))))  (r0 : Option Nat) (h : f_B_find cnt cf nb = some r0) : Met l y_B_find w_B_find rm_B_find (va_Pc [.ref h0, .int nb] (PreP D ct ws)) (va_Sq (fun r => r = r0)) 0 0 (fun _ => False) := by
  refine Met.ofW (cc := b_B_find) (maxL := 2) (ret := (some (.object "CellBench$Cell"))) (by decide) rfl ?_
  intro p e s m args below meth c s₁ B hml hv
  obtain ⟨rfl, hP, hKK⟩ := hv
  have hx := B.exec
  have hb := B.bytes
  have hr := B.returns
  have htg := ht_tl (atoms_spec (ws := w_B_find) B.pre)
  have hown : s.vm.findClass R_Bench = some m.cls := findClass_of_methodNamed B.named
  have hlocks := B.notSynchronized
  have hK := hKK.1
  have hN := hKK.2.1
  have hO := hKK.2.2
  have hl := lv_entry ([.ref h0, .int nb]) (n := 2) (Nat.le_of_ble_eq_true rfl)
  rw [lg_entry_eq]
  generalize (lg_sl ([.ref h0, .int nb]) ++ List.replicate (2 - (lg_sl ([.ref h0, .int nb])).length) Slot.unset).toArray = ls at hl ⊢
  have hl : lv_has ls 2 [(0, .ref h0), (1, .int nb)] := hl
  unfold f_B_find at h
  refine lv_iload_n hx hb d_B_find_0 rfl (lv_at hl 1 rfl) ?_
  refine lv_if_lt (tgt := 21) hx hb d_B_find_1 (by decide) (fun c_1 => ?_) (fun c_1 => ?_)
  · rw [if_pos c_1] at h
    refine lv_null hx hb d_B_find_21 ?_
    exact W.aret (v := .null) hx hb hr (Or.inl ⟨_, rfl⟩) (Or.inl rfl) (fun t ht hW => ⟨none, rfl, (Option.some.inj h), ht⟩) (fun q h => by cases h) d_B_find_22
  · rw [if_neg c_1] at h
    refine lv_iload_n hx hb d_B_find_4 rfl (lv_at hl 1 rfl) ?_
    refine lv_aload_n hx hb d_B_find_5 rfl (lv_at hl 0 rfl) ?_
    refine va_get (D := D) (ci := 4) (v := .int cnt) (C := R_Bench) (T := F_Bench) (N := 5) hx hb htg i_Bench hown hK hP k0 hk0 rfl 4 (by decide) (htg _ tm_105) (fun _ h9 => h9) rfl d_B_find_6 ?_
    refine lv_icmp_ge (tgt := 21) hx hb d_B_find_9 (by decide) (fun c_2 => ?_) (fun c_2 => ?_)
    · rw [if_pos c_2] at h
      refine lv_null hx hb d_B_find_21 ?_
      exact W.aret (v := .null) hx hb hr (Or.inl ⟨_, rfl⟩) (Or.inl rfl) (fun t ht hW => ⟨none, rfl, (Option.some.inj h), ht⟩) (fun q h => by cases h) d_B_find_22
    · rw [if_neg c_2] at h
      refine lv_iload_n hx hb d_B_find_12 rfl (lv_at hl 1 rfl) ?_
      refine lv_aload_n hx hb d_B_find_13 rfl (lv_at hl 0 rfl) ?_
      refine va_get (D := D) (ci := 4) (v := .ref h1) (C := R_Bench) (T := F_Bench) (N := 5) hx hb htg i_Bench hown hK hP k0 hk0 rfl 0 (by decide) (htg _ tm_101) (fun _ h9 => h9) rfl d_B_find_14 ?_
      refine va_alen (v := Int32.ofNat 40) hx hb hK hP k1 1 hk1 rfl rfl d_B_find_17 ?_
      refine lv_icmp_lt (tgt := 23) hx hb d_B_find_18 (by decide) (fun c_3 => ?_) (fun c_3 => ?_)
      · rw [if_pos c_3] at h
        refine lv_aload_n hx hb d_B_find_23 rfl (lv_at hl 0 rfl) ?_
        refine va_get (D := D) (ci := 4) (v := .ref h1) (C := R_Bench) (T := F_Bench) (N := 5) hx hb htg i_Bench hown hK hP k0 hk0 rfl 0 (by decide) (htg _ tm_101) (fun _ h9 => h9) rfl d_B_find_24 ?_
        refine lv_iload_n hx hb d_B_find_27 rfl (lv_at hl 1 rfl) ?_
        by_cases b_4 : inb nb 40 = true
        rotate_left
        · rw [if_neg b_4] at h; cases h
        rw [if_pos b_4] at h
        refine va_aldq hx hb hK hP k1 1 hk1 rfl (inb_in b_4) d_B_find_28 ?_
        exact W.aret (v := va_rf (cf nb.toNatClampNeg)) hx hb hr (Or.inl ⟨_, rfl⟩) (va_rf_or _) (fun t ht hW => ⟨cf nb.toNatClampNeg, rfl, (Option.some.inj h), ht⟩) (fun q h => by cases h) d_B_find_29
      · rw [if_neg c_3] at h
        refine lv_null hx hb d_B_find_21 ?_
        exact W.aret (v := .null) hx hb hr (Or.inl ⟨_, rfl⟩) (Or.inl rfl) (fun t ht hW => ⟨none, rfl, (Option.some.inj h), ht⟩) (fun q h => by cases h) d_B_find_22
