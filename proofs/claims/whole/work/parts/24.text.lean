theorem ap_1 {T TB : Int → Int} {tn nq vq k L : Int} (h : ∀ j : Int, T j = if tn ≤ j ∧ j < tn + (nq - 1 - k) then byteV vq (nq - 1 - (j - tn)) else TB j) (hL : L = tn + (nq - 1 - k)) (hk : 0 ≤ k ∧ k ≤ nq - 1) : ∀ j : Int, iu T L (byteV vq k) j = if tn ≤ j ∧ j < tn + (nq - 1 - (k + (-1))) then byteV vq (nq - 1 - (j - tn)) else TB j := by
  intro j
  by_cases c : j = L
  · rw [iu_e c, if_pos (by omega), show nq - 1 - (j - tn) = k by omega]
  · rw [iu_n c, h j]
    by_cases q : tn ≤ j ∧ j < tn + (nq - 1 - k)
    · rw [if_pos q, if_pos (by omega)]
    · rw [if_neg q, if_neg (by omega)]
set_option maxHeartbeats 8000000 in
set_option maxRecDepth 100000 in
theorem c_X10_append_full (l : Launch) (D : va_G) (y : Nat → ClassId) (t0 : Nat) (ta : Nat) (tn : Int) (TB : Int → Int) (nq : Int) (vq : Int) (hq : 0 ≤ tn ∧ tn ≤ 40 ∧ 1 ≤ nq ∧ nq ≤ 8 ∧ 40 < tn + nq) : Met l yX10_append wsX10_append ({ frames := 0, cells := 0, slots := 0, locals := 0 } : Room) (pPc D y [(t0, .inr (9, [.ref ta, zi tn])), (ta, .inl (y 0, 40, .inl (cI TB)))] [.ref t0, zi nq, zl vq]) (qV (zi (-4))) 0 0 (fun _ => False) := by
  refine P_of (own := RX10) (cc := cX10_append) (maxL := 5) (ret := some .int) (by decide) rfl rfl (Nat.le_of_ble_eq_true rfl) (fun p e s m below meth c ls hx hb hr hC hlocks hPr hG hl => ?_)
  have hC0 := hC
  obtain ⟨-, -, hml, hown, hts⟩ := hC0
  have hK := hG.1
  have hinX10 : ∀ w ∈ wsX100, w ∈ wsX10_append := fun _ h => List.mem_cons_of_mem _ (List.mem_append_right _ h)
  have k1 := hts (.fieldLink RX10 15 "BoatsOfPaper$Text" "length" "I") (List.mem_of_getElem? (i := 1) rfl)
  have k2 := hts (.fieldLink RX10 9 "BoatsOfPaper$Text" "bytes" "[I") (List.mem_of_getElem? (i := 2) rfl)
  have hl : lv_has ls 5 [(0, .ref t0), (1, zi nq), (2, zl vq)] := hl
  refine lv_aload_n hx hb dX10_append_0 rfl (lv_at hl 0 rfl) ?_
  refine va_get hx hb hts hinX10 hown hK hPr 0 rfl rfl 1 (by decide) k1 (fun _ h => h) rfl dX10_append_1 ?_
  refine lv_iload_n hx hb dX10_append_4 rfl (lv_at hl 1 rfl) ?_
  refine z_iadd hx hb dX10_append_5 ?_
  refine lv_aload_n hx hb dX10_append_6 rfl (lv_at hl 0 rfl) ?_
  refine va_get hx hb hts hinX10 hown hK hPr 0 rfl rfl 0 (by decide) k2 (fun _ h => h) rfl dX10_append_7 ?_
  refine va_alen (v := iI 40) hx hb hK hPr 1 0 rfl rfl rfl dX10_append_10 ?_
  refine z_icmp_le (tgt := 17) hx hb (by omega) (by omega) dX10_append_11 (by decide) (fun c_11 => ?_) (fun c_11 => ?_)
  · exfalso; omega
  ·
    refine z_bipush hx hb dX10_append_14 (by decide) ?_
    exact z_iret0 hx hb hr hlocks (rfl) dX10_append_16
set_option maxHeartbeats 8000000 in
set_option maxRecDepth 100000 in
theorem c_X10_append (l : Launch) (D : va_G) (y : Nat → ClassId) (t0 : Nat) (ta : Nat) (tn : Int) (TB : Int → Int) (nq : Int) (vq : Int) (hq : 0 ≤ tn ∧ tn ≤ 40 ∧ 1 ≤ nq ∧ nq ≤ 8 ∧ tn + nq ≤ 40) (hvq : rL vq) (sz : Nat) : Met l yX10_append wsX10_append ({ frames := 0, cells := 0, slots := 0, locals := 0 } : Room) (wPc D y [] [(t0, .inr (9, [.ref ta, zi tn])), (ta, .inl (y 0, 40, .inl (cI TB)))] sz [.ref t0, zi nq, zl vq]) (wQ D (fun (TB2 : (Int → Int)) => some (zi (tn + nq))) (fun (TB2 : (Int → Int)) => (∀ j : Int, TB2 j = if tn ≤ j ∧ j < tn + nq then byteV vq (nq - 1 - (j - tn)) else TB j)) (fun (TB2 : (Int → Int)) => [(t0, .inr (9, [.ref ta, zi (tn + nq)])), (ta, .inl (y 0, 40, .inl (cI TB2)))]) (va_A [(t0, .inr (9, [.ref ta, zi tn])), (ta, .inl (y 0, 40, .inl (cI TB)))] sz)) 0 0 (va_A [(t0, .inr (9, [.ref ta, zi tn])), (ta, .inl (y 0, 40, .inl (cI TB)))] sz) := by
  refine W_of (own := RX10) (cc := cX10_append) (maxL := 5) (ret := some .int) (by decide) rfl rfl (Nat.le_of_ble_eq_true rfl) (fun p e s m below meth c ls A hx hb hr hC hlocks hin0 hR0 hN hP hD hA hG hl => ?_)
  have hC0 := hC
  obtain ⟨-, -, hml, hown, hts⟩ := hC0
  have hK := hG.1
  have hS : va_S A s.heap s.heap [] := va_S.rf
  have hPr := hR0
  have hinX10 : ∀ w ∈ wsX100, w ∈ wsX10_append := fun _ h => List.mem_cons_of_mem _ (List.mem_append_right _ h)
  have k1 := hts (.fieldLink RX10 15 "BoatsOfPaper$Text" "length" "I") (List.mem_of_getElem? (i := 1) rfl)
  have k2 := hts (.fieldLink RX10 9 "BoatsOfPaper$Text" "bytes" "[I") (List.mem_of_getElem? (i := 2) rfl)
  have k3 := hts (.constantLong RX10 19 (255)) (List.mem_of_getElem? (i := 3) rfl)
  have hl : lv_has ls 5 [(0, .ref t0), (1, zi nq), (2, zl vq)] := hl
  refine lv_aload_n hx hb dX10_append_0 rfl (lv_at hl 0 rfl) ?_
  refine va_get hx hb hts hinX10 hown hK hP 0 rfl rfl 1 (by decide) k1 (fun _ h => h) rfl dX10_append_1 ?_
  refine lv_iload_n hx hb dX10_append_4 rfl (lv_at hl 1 rfl) ?_
  refine z_iadd hx hb dX10_append_5 ?_
  refine lv_aload_n hx hb dX10_append_6 rfl (lv_at hl 0 rfl) ?_
  refine va_get hx hb hts hinX10 hown hK hP 0 rfl rfl 0 (by decide) k2 (fun _ h => h) rfl dX10_append_7 ?_
  refine va_alen (v := iI 40) hx hb hK hP 1 0 rfl rfl rfl dX10_append_10 ?_
  refine z_icmp_le (tgt := 17) hx hb (by omega) (by omega) dX10_append_11 (by decide) (fun c_11 => ?_) (fun c_11 => ?_)
  ·
    refine lv_iload_n hx hb dX10_append_17 rfl (lv_at hl 1 rfl) ?_
    refine z_iconst hx hb dX10_append_18 ?_
    refine z_isub hx hb dX10_append_19 ?_
    refine lv_istore (lv' := [(4, zi (nq - 1)), (0, .ref t0), (1, zi nq), (2, zl vq)]) hx hb dX10_append_20 hl (by decide) rfl (fun ls hl => ?_)
    refine z_loop (σ := Int × Int × (Int → Int)) (fun x9 H lc ls => match x9 with | (k, L9, T1) => ((-1 ≤ k ∧ k ≤ nq - 1 ∧ L9 = tn + (nq - 1 - k)) ∧ (∀ j : Int, T1 j = if tn ≤ j ∧ j < tn + (nq - 1 - k) then byteV vq (nq - 1 - (j - tn)) else TB j)) ∧ lv_has ls 5 [(4, zi k), (0, .ref t0), (1, zi nq), (2, zl vq)] ∧ va_P D vwCl [(t0, .inr (9, [.ref ta, zi L9])), (ta, .inl (y 0, 40, .inl (cI T1)))] H ∧ va_D A [(t0, .inr (9, [.ref ta, zi L9])), (ta, .inl (y 0, 40, .inl (cI T1)))] ∧ va_S A s.heap H lc) (fun x9  => match x9 with | (k, L9, T1) => ((k + 1).toNat)) ?_ (nq - 1, tn, TB) ⟨⟨by omega, fun j => (if_neg (by omega)).symm⟩, lv_sub hl [0, 1, 2, 3] rfl, hP.sub [0, 1] rfl, hD.sub [0, 1] (by decide) rfl, hS⟩
    rintro ⟨k, L9, T1⟩ H lc ls ⟨hi22, hl, hP, hD, hS⟩ ih22
    have hP : va_P D vwCl [(t0, .inr (9, [.ref ta, zi L9])), (ta, .inl (y 0, 40, .inl (cI T1)))] H := hP
    have hD : va_D A [(t0, .inr (9, [.ref ta, zi L9])), (ta, .inl (y 0, 40, .inl (cI T1)))] := hD
    refine lv_iload hx hb dX10_append_22 (lv_at hl 0 rfl) ?_
    refine z_if_lt (tgt := 64) hx hb (by omega) dX10_append_24 (by decide) (fun c_24 => ?_) (fun c_24 => ?_)
    ·
      have hP : va_P D vwCl [(t0, .inr (9, [.ref ta, zi (tn + nq)])), (ta, .inl (y 0, 40, .inl (cI T1)))] H := by rw [show tn + nq = L9 by omega]; exact hP
      have hD : va_D A [(t0, .inr (9, [.ref ta, zi (tn + nq)])), (ta, .inl (y 0, 40, .inl (cI T1)))] := by rw [show tn + nq = L9 by omega]; exact hD
      refine lv_aload_n hx hb dX10_append_64 rfl (lv_at hl 1 rfl) ?_
      refine va_get hx hb hts hinX10 hown hK hP 0 rfl rfl 1 (by decide) k1 (fun _ h => h) rfl dX10_append_65 ?_
      exact z_iretW hx hb hr hlocks T1 (rfl) (fun j => by rw [hi22.2 j, show nq - 1 - k = nq by omega]) (hP.sub [0, 1] rfl) (hD.sub [0, 1] (by decide) rfl) hS dX10_append_68
    ·
      refine lv_aload_n hx hb dX10_append_27 rfl (lv_at hl 1 rfl) ?_
      refine va_get hx hb hts hinX10 hown hK hP 0 rfl rfl 0 (by decide) k2 (fun _ h => h) rfl dX10_append_28 ?_
      refine lv_aload_n hx hb dX10_append_31 rfl (lv_at hl 1 rfl) ?_
      refine va_get hx hb hts hinX10 hown hK hP 0 rfl rfl 1 (by decide) k1 (fun _ h => h) rfl dX10_append_32 ?_
      refine lv_lload_n hx hb dX10_append_35 rfl (lv_at hl 3 rfl) ?_
      refine z_bipush hx hb dX10_append_36 (by decide) ?_
      refine lv_iload hx hb dX10_append_38 (lv_at hl 0 rfl) ?_
      refine z_imul hx hb dX10_append_40 ?_
      refine z_byteU hx hb hown k3 (by omega) dX10_append_41 dX10_append_42 dX10_append_45 dX10_append_46 ?_
      refine z_iast hx hb hK hP hD hS 1 0 rfl rfl (by omega) (by decide) dX10_append_47 (fun H locs hP hD hS => ?_)
      have hP : va_P D vwCl [(t0, .inr (9, [.ref ta, zi L9])), (ta, .inl (y 0, 40, .inl (cI (iu T1 L9 (byteV vq k)))))] H := hP
      have hD : va_D A [(t0, .inr (9, [.ref ta, zi L9])), (ta, .inl (y 0, 40, .inl (cI (iu T1 L9 (byteV vq k)))))] := hD
      refine lv_aload_n hx hb dX10_append_48 rfl (lv_at hl 1 rfl) ?_
      refine lv_dup hx hb dX10_append_49 rfl ?_
      refine va_get hx hb hts hinX10 hown hK hP 0 rfl rfl 1 (by decide) k1 (fun _ h => h) rfl dX10_append_50 ?_
      refine z_iconst hx hb dX10_append_53 ?_
      refine z_iadd hx hb dX10_append_54 ?_
      refine va_put hx hb hts hinX10 tyX10 tyX10_ok nmX10 hown hK hP hD hS 0 rfl rfl 1 (by decide) k1 (fun _ h => h) rfl (tyX10_ok 1 (by decide)) rfl rfl (Nat.le_of_ble_eq_true rfl) dX10_append_55 (fun H locs hP hD hS => ?_)
      have hP : va_P D vwCl [(t0, .inr (9, [.ref ta, zi (L9 + 1)])), (ta, .inl (y 0, 40, .inl (cI (iu T1 L9 (byteV vq k)))))] H := hP
      have hD : va_D A [(t0, .inr (9, [.ref ta, zi (L9 + 1)])), (ta, .inl (y 0, 40, .inl (cI (iu T1 L9 (byteV vq k)))))] := hD
      refine z_iinc (k := 0) (lv' := [(4, zi (k + (-1))), (0, .ref t0), (1, zi nq), (2, zl vq)]) hx hb dX10_append_58 hl rfl (by decide) rfl (fun ls hl => ?_)
      refine lv_goto (tgt := 22) hx hb dX10_append_61 (by decide) ?_
      exact ih22 (k + (-1), L9 + 1, iu T1 L9 (byteV vq k)) _ _ _ (by first | (dsimp only; omega) | omega) ⟨⟨by omega, ap_1 hi22.2 hi22.1.2.2 (by omega)⟩, lv_sub hl [0, 1, 2, 3] rfl, hP.sub [0, 1] rfl, hD.sub [0, 1] (by decide) rfl, hS⟩
  · exfalso; omega
