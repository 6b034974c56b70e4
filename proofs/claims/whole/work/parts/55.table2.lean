-- the program's insert and count
section TI
variable {ro : Nat → Int64} {ra rb rc rx ry rz : Int64} {rs : Int32}
theorem in_step {rw_ : Int32} {fr n k : Nat} {sz : Int32} (hf : fr + 6 < 3185) (hk : k < 6) : lp_T_insert_32 ra rb rc rx ry rz rs rw_ (n + 1) (nI fr) (nI k) ro sz = lp_T_insert_32 ra rb rc rx ry rz rs rw_ n (nI fr) (nI (k + 1)) (vp_updL ro (fr + k) (a6 (ky ra rb rc rx ry rz) k)) sz := by
  rw [lp_T_insert_32, if_neg (six_le hk), nI_add, if_pos (inb_nI (by omega) (by omega)), nI_1, nI_clamp (by omega)]
  rfl
/-- seven numbers written to a row: a new six, 0 times -/
def W7 (ro : Nat → Int64) (fr : Nat) (t : P6) : Nat → Int64 := vp_updL (vp_updL (vp_updL (vp_updL (vp_updL (vp_updL (vp_updL ro (fr + 0) (a6 t 0)) (fr + 1) (a6 t 1)) (fr + 2) (a6 t 2)) (fr + 3) (a6 t 3)) (fr + 4) (a6 t 4)) (fr + 5) (a6 t 5)) (fr + 6) 0
theorem W7_k {fr k : Nat} {t : P6} (hk : k < 6) : W7 ro fr t (fr + k) = a6 t k := by
  unfold W7
  match k, hk with
  | 0, _ => rw [up_n (by omega), up_n (by omega), up_n (by omega), up_n (by omega), up_n (by omega), up_n (by omega), up_s]
  | 1, _ => rw [up_n (by omega), up_n (by omega), up_n (by omega), up_n (by omega), up_n (by omega), up_s]
  | 2, _ => rw [up_n (by omega), up_n (by omega), up_n (by omega), up_n (by omega), up_s]
  | 3, _ => rw [up_n (by omega), up_n (by omega), up_n (by omega), up_s]
  | 4, _ => rw [up_n (by omega), up_n (by omega), up_s]
  | 5, _ => rw [up_n (by omega), up_s]
theorem W7_6 {fr : Nat} {t : P6} : W7 ro fr t (fr + 6) = 0 := up_s
theorem W7_o {fr j : Nat} {t : P6} (h : j < fr ∨ fr + 7 ≤ j) : W7 ro fr t j = ro j := by
  unfold W7
  rw [up_n (by omega), up_n (by omega), up_n (by omega), up_n (by omega), up_n (by omega), up_n (by omega), up_n (by omega)]
theorem insert_s {len pos : Nat} (hl : len < 455) (hp : pos ≤ len) : f_T_insert (nI len) ro ra rb rc rx ry rz rs (nI pos) = some (W7 (va_cpy ro ro (pos * 7) (pos * 7 + 7) ((len - pos) * 7)) (pos * 7) (ky ra rb rc rx ry rz), nI (len + 1)) := by
  unfold f_T_insert
  have hc : cpk (nI (pos * 7)) (nI (pos * 7 + 7)) (nI ((len - pos) * 7)) 3185 3185 = true := by
    unfold cpk
    rw [nI_clamp (by omega), nI_clamp (by omega), nI_clamp (by omega)]
    exact decide_eq_true ⟨⟨⟨nI_pos (by omega), nI_pos (by omega)⟩, nI_pos (by omega)⟩, by omega, by omega⟩
  rw [nI_7, nI_p7, nI_sub' hp, nI_7, if_pos hc, nI_clamp (by omega), nI_clamp (by omega), nI_clamp (by omega), show (0 : Int32) = nI 0 from rfl, in_step (by omega) (by decide), in_step (by omega) (by decide), in_step (by omega) (by decide), in_step (by omega) (by decide), in_step (by omega) (by decide), in_step (by omega) (by decide), lp_T_insert_32, if_pos (show (6 : Int32) ≤ nI (0 + 1 + 1 + 1 + 1 + 1 + 1) by decide), nI_p6, if_pos (inb_nI (by omega) (by omega)), nI_1, nI_clamp (by omega)]
  rfl
theorem zL_s (c : Nat) : zL (c : Int) + 1 = zL ((c + 1 : Nat) : Int) := by
  rw [zL_p1, zL_add, Int.natCast_add]
  rfl
/-- the table after a new row -/
theorem TR_new {L : List (P6 × Nat)} {pos : Nat} {K : P6} (h : TR ro (nI L.length) L) (hl : L.length < 455) (hp : pos ≤ L.length) :
    TR (vp_updL (W7 (va_cpy ro ro (pos * 7) (pos * 7 + 7) ((L.length - pos) * 7)) (pos * 7) K) (pos * 7 + 6) (W7 (va_cpy ro ro (pos * 7) (pos * 7 + 7) ((L.length - pos) * 7)) (pos * 7) K (pos * 7 + 6) + 1)) (nI (L.length + 1)) (L.take pos ++ (K, 1) :: L.drop pos) := by
  have hlen : (L.take pos ++ (K, 1) :: L.drop pos).length = L.length + 1 := by
    rw [List.length_append, List.length_cons, List.length_take, List.length_drop]; omega
  refine ⟨by rw [hlen], by omega, fun i p hip => ?_⟩
  rw [get_ins hp] at hip
  by_cases c1 : i < pos
  · rw [if_pos c1] at hip
    have hr := h.2.2 i p hip
    refine ⟨fun k hk => ?_, ?_⟩
    · rw [up_n (by omega), W7_o (by omega)]
      unfold va_cpy
      rw [if_neg (by omega)]
      exact hr.1 k hk
    · rw [up_n (by omega), W7_o (by omega)]
      unfold va_cpy
      rw [if_neg (by omega)]
      exact hr.2
  rw [if_neg c1] at hip
  by_cases c2 : i = pos
  · rw [if_pos c2] at hip
    subst c2
    cases hip
    refine ⟨fun k hk => ?_, ?_⟩
    · rw [up_n (by omega)]
      exact W7_k hk
    · rw [up_s, W7_6]
      rfl
  · rw [if_neg c2] at hip
    have hi1 : i - 1 < L.length := (List.getElem?_eq_some_iff.mp hip).1
    have hr := h.2.2 (i - 1) p hip
    have key : ∀ k, k < 7 → vp_updL (W7 (va_cpy ro ro (pos * 7) (pos * 7 + 7) ((L.length - pos) * 7)) (pos * 7) K) (pos * 7 + 6) (W7 (va_cpy ro ro (pos * 7) (pos * 7 + 7) ((L.length - pos) * 7)) (pos * 7) K (pos * 7 + 6) + 1) (i * 7 + k) = ro ((i - 1) * 7 + k) := fun k hk => by
      rw [up_n (by omega), W7_o (by omega)]
      unfold va_cpy
      rw [if_pos (by omega), show pos * 7 + (i * 7 + k - (pos * 7 + 7)) = (i - 1) * 7 + k by omega]
    refine ⟨fun k hk => ?_, ?_⟩
    · rw [key k (by omega)]; exact hr.1 k hk
    · rw [key 6 (by omega)]; exact hr.2
theorem TR_inc {L : List (P6 × Nat)} {pos c : Nat} {K : P6} (h : TR ro (nI L.length) L) (hp : L[pos]? = some (K, c)) : TR (vp_updL ro (pos * 7 + 6) (ro (pos * 7 + 6) + 1)) (nI L.length) (L.set pos (K, c + 1)) := by
  refine ⟨by rw [List.length_set], by rw [List.length_set]; exact h.2.1, fun i p hip => ?_⟩
  rw [List.getElem?_set] at hip
  have hlt : pos < L.length := (List.getElem?_eq_some_iff.mp hp).1
  have hr := h.2.2 pos _ hp
  by_cases e : pos = i
  · subst e
    rw [if_pos rfl, if_pos hlt] at hip
    cases hip
    refine ⟨fun k hk => ?_, ?_⟩
    · rw [up_n (by omega)]; exact hr.1 k hk
    · rw [up_s, hr.2]; exact zL_s c
  · rw [if_neg e] at hip
    have hr' := h.2.2 i p hip
    refine ⟨fun k hk => ?_, ?_⟩
    · rw [up_n (by omega)]; exact hr'.1 k hk
    · rw [up_n (by omega)]; exact hr'.2
/-- one reduced six counted -/
theorem count_s {L : List (P6 × Nat)} (h : TR ro (nI L.length) L) (hs : srt L) (hl : (ins L (ky ra rb rc rx ry rz)).length ≤ 455) : ∃ ro', f_T_count (nI L.length) ro ra rb rc rx ry rz rs = some (ro', nI (ins L (ky ra rb rc rx ry rz)).length) ∧ TR ro' (nI (ins L (ky ra rb rc rx ry rz)).length) (ins L (ky ra rb rc rx ry rz)) := by
  obtain ⟨pos, hpos, e1, h1, h2⟩ := first_lp (rs := rs) h hs L.length 0 500 (by omega) (by have := h.2.1; omega) (fun i p hi => absurd hi (Nat.not_lt_zero i)) (fun i p hi hp => absurd (List.getElem?_eq_some_iff.mp hp).1 (by omega))
  have e0 : f_T_first (nI L.length) ro ra rb rc rx ry rz rs = some (nI pos) := e1
  have hlen := h.2.1
  unfold f_T_count
  rw [e0, Option.bind_some, if_neg (nI_pos (by omega))]
  by_cases hin : pos < L.length
  · rw [if_pos (show nI pos < (455 : Int32) from nI_lt (a := pos) (b := 455) (by omega) (by decide)), if_neg (nI_ge hin (by omega))]
    obtain ⟨p, hp⟩ : ∃ p, L[pos]? = some p := ⟨_, List.getElem?_eq_getElem hin⟩
    rw [oR_s hlen hin (h.2.2 _ p hp), Option.bind_some]
    by_cases ce : lx p.1 (ky ra rb rc rx ry rz) = 0
    · have hpe : p = (ky ra rb rc rx ry rz, p.2) := by rw [← lx_eq.mp ce]
      rw [hpe] at hp
      rw [if_pos ce, nI_7, nI_p6, if_pos (inb_nI (by omega) (by omega)), if_pos (inb_nI (by omega) (by omega)), nI_clamp (by omega), ins_at pos h1 hp, List.length_set]
      exact ⟨_, rfl, TR_inc h hp⟩
    · have hK : lt6 (ky ra rb rc rx ry rz) p.1 := by
        rcases lt6_tri p.1 (ky ra rb rc rx ry rz) with q | q | q
        · exact absurd q (h2 pos p (Nat.le_refl _) hp)
        · exact absurd (lx_eq.mpr q) ce
        · exact q
      have en := ins_new pos hpos h1 (fun q hq => by rw [hp] at hq; cases hq; exact hK)
      have hlen2 : (L.take pos ++ (ky ra rb rc rx ry rz, 1) :: L.drop pos).length = L.length + 1 := by
        rw [List.length_append, List.length_cons, List.length_take, List.length_drop]; omega
      rw [en, hlen2] at hl
      rw [if_neg ce, if_pos (show nI L.length < (455 : Int32) from nI_lt (a := L.length) (b := 455) (by omega) (by decide)), insert_s (by omega) hpos, Option.bind_some]
      dsimp only
      rw [nI_7, nI_p6, if_pos (inb_nI (by omega) (by omega)), if_pos (inb_nI (by omega) (by omega)), nI_clamp (by omega), en, hlen2]
      exact ⟨_, rfl, TR_new h (by omega) hpos⟩
  · have hpe : pos = L.length := by omega
    have en := ins_new (K := ky ra rb rc rx ry rz) pos hpos h1 (fun q hq => absurd (List.getElem?_eq_some_iff.mp hq).1 (by omega))
    have hlen2 : (L.take pos ++ (ky ra rb rc rx ry rz, 1) :: L.drop pos).length = L.length + 1 := by
      rw [List.length_append, List.length_cons, List.length_take, List.length_drop]; omega
    rw [en, hlen2] at hl
    rw [if_pos (show nI pos < (455 : Int32) from nI_lt (a := pos) (b := 455) (by omega) (by decide)), if_pos (nI_le (by omega) (by omega)), if_pos (show nI L.length < (455 : Int32) from nI_lt (a := L.length) (b := 455) (by omega) (by decide)), insert_s (by omega) hpos, Option.bind_some]
    dsimp only
    rw [nI_7, nI_p6, if_pos (inb_nI (by omega) (by omega)), if_pos (inb_nI (by omega) (by omega)), nI_clamp (by omega), en, hlen2]
    exact ⟨_, rfl, TR_new h (by omega) hpos⟩
end TI

