set_option maxHeartbeats 8000000 in
set_option maxRecDepth 100000 in
theorem c_X11_write_no (l : Launch) (D : va_G) (y : Nat → ClassId) (x0 : Nat) (t0 : Nat) (g0 : Nat) (f0 : Nat) (r0 : Nat) (sl0 : Nat) (n0 : Nat) (d0 : Nat) (w0 : Nat) (c0 : Nat) (nq : Int) (vq : Int) (hr9 : rI nq) (hq : ¬ (1 ≤ nq ∧ nq ≤ 8)) : Met l yX11_write wsX11_write ({ frames := 0, cells := 0, slots := 0, locals := 0 } : Room) (pPc D y [(x0, .inr (10, [.ref t0, .ref g0, .ref f0, .ref r0, .ref sl0, .ref n0, .ref d0, .ref w0, .ref c0]))] [.ref x0, zi nq, zl vq]) (qV (zi (-2))) 0 0 (fun _ => False) := by
  refine P_of (own := RX11) (cc := cX11_write) (maxL := 4) (ret := some .int) (by decide) rfl rfl (Nat.le_of_ble_eq_true rfl) (fun p e s m below meth c ls hx hb hr hC hlocks hPr hG hl => ?_)
  have hC0 := hC
  obtain ⟨-, -, hml, hown, hts⟩ := hC0
  have hK := hG.1
  have hl : lv_has ls 4 [(0, .ref x0), (1, zi nq), (2, zl vq)] := hl
  refine lv_iload_n hx hb dX11_write_0 rfl (lv_at hl 1 rfl) ?_
  refine z_iconst hx hb dX11_write_1 ?_
  refine z_icmp_lt (tgt := 11) hx hb (by omega) (by omega) dX11_write_2 (by decide) (fun c_2 => ?_) (fun c_2 => ?_)
  ·
    refine z_bipush hx hb dX11_write_11 (by decide) ?_
    exact z_iret0 hx hb hr hlocks (rfl) dX11_write_13
  ·
    refine lv_iload_n hx hb dX11_write_5 rfl (lv_at hl 1 rfl) ?_
    refine z_bipush hx hb dX11_write_6 (by decide) ?_
    refine z_icmp_le (tgt := 14) hx hb (by omega) (by omega) dX11_write_8 (by decide) (fun c_8 => ?_) (fun c_8 => ?_)
    · exfalso; omega
    ·
      refine z_bipush hx hb dX11_write_11 (by decide) ?_
      exact z_iret0 hx hb hr hlocks (rfl) dX11_write_13
set_option maxHeartbeats 8000000 in
set_option maxRecDepth 100000 in
theorem c_X11_write_full (l : Launch) (D : va_G) (y : Nat → ClassId) (x0 : Nat) (t0 : Nat) (g0 : Nat) (f0 : Nat) (r0 : Nat) (sl0 : Nat) (n0 : Nat) (d0 : Nat) (w0 : Nat) (c0 : Nat) (ta : Nat) (tn : Int) (TB : Int → Int) (nq : Int) (vq : Int) (hq : 0 ≤ tn ∧ tn ≤ 40 ∧ 1 ≤ nq ∧ nq ≤ 8 ∧ 40 < tn + nq) : Met l yX11_write wsX11_write ({ frames := 1, cells := 0, slots := 0, locals := 24 } : Room) (pPc D y [(x0, .inr (10, [.ref t0, .ref g0, .ref f0, .ref r0, .ref sl0, .ref n0, .ref d0, .ref w0, .ref c0])), (t0, .inr (9, [.ref ta, zi tn])), (ta, .inl (y 0, 40, .inl (cI TB)))] [.ref x0, zi nq, zl vq]) (qV (zi (-4))) 0 0 (fun _ => False) := by
  refine P_of (own := RX11) (cc := cX11_write) (maxL := 4) (ret := some .int) (by decide) rfl rfl (Nat.le_of_ble_eq_true rfl) (fun p e s m below meth c ls hx hb hr hC hlocks hPr hG hl => ?_)
  have hC0 := hC
  obtain ⟨-, -, hml, hown, hts⟩ := hC0
  have hK := hG.1
  have hinX11 : ∀ w ∈ wsX110, w ∈ wsX11_write := fun _ h => List.mem_cons_of_mem _ (List.mem_append_left _ (List.mem_append_right _ h))
  have k1 := hts (.fieldLink RX11 10 "BoatsOfPaper" "theText" "LBoatsOfPaper$Text;") (List.mem_of_getElem? (i := 1) rfl)
  have hl : lv_has ls 4 [(0, .ref x0), (1, zi nq), (2, zl vq)] := hl
  refine lv_iload_n hx hb dX11_write_0 rfl (lv_at hl 1 rfl) ?_
  refine z_iconst hx hb dX11_write_1 ?_
  refine z_icmp_lt (tgt := 11) hx hb (by omega) (by omega) dX11_write_2 (by decide) (fun c_2 => ?_) (fun c_2 => ?_)
  · exfalso; omega
  ·
    refine lv_iload_n hx hb dX11_write_5 rfl (lv_at hl 1 rfl) ?_
    refine z_bipush hx hb dX11_write_6 (by decide) ?_
    refine z_icmp_le (tgt := 14) hx hb (by omega) (by omega) dX11_write_8 (by decide) (fun c_8 => ?_) (fun c_8 => ?_)
    ·
      refine lv_aload_n hx hb dX11_write_14 rfl (lv_at hl 0 rfl) ?_
      refine va_get hx hb hts hinX11 hown hK hPr 0 rfl rfl 0 (by decide) k1 (fun _ h => h) rfl dX11_write_15 ?_
      refine lv_iload_n hx hb dX11_write_18 rfl (lv_at hl 1 rfl) ?_
      refine lv_lload_n hx hb dX11_write_19 rfl (lv_at hl 2 rfl) ?_
      refine z_pV (As := [zi nq, zl vq]) (rest := []) hC (c_X10_append_full l D y t0 ta tn TB nq vq (by first | assumption | omega)) (cwV 2 hts gX11_write_X10_append rfl rfl rfl (by decide +kernel) ⟨Nat.le_of_ble_eq_true rfl, Nat.le_of_ble_eq_true rfl⟩) hG (hPr.sub (ws' := [(t0, .inr (9, [.ref ta, zi tn])), (ta, .inl (y 0, 40, .inl (cI TB)))]) [1, 2] rfl) 0 rfl rfl rfl hl.1 rfl (Nat.le_of_ble_eq_true rfl) dX11_write_20 ⟨Nat.le_of_ble_eq_true rfl, Nat.le_of_ble_eq_true rfl⟩ ?_
      exact z_iret0 hx hb hr hlocks (rfl) dX11_write_23
    · exfalso; omega
set_option maxHeartbeats 8000000 in
set_option maxRecDepth 100000 in
theorem c_X11_write (l : Launch) (D : va_G) (y : Nat → ClassId) (x0 : Nat) (t0 : Nat) (g0 : Nat) (f0 : Nat) (r0 : Nat) (sl0 : Nat) (n0 : Nat) (d0 : Nat) (w0 : Nat) (c0 : Nat) (ta : Nat) (tn : Int) (TB : Int → Int) (nq : Int) (vq : Int) (hq : 0 ≤ tn ∧ tn ≤ 40 ∧ 1 ≤ nq ∧ nq ≤ 8 ∧ tn + nq ≤ 40) (hvq : rL vq) (sz : Nat) : Met l yX11_write wsX11_write ({ frames := 1, cells := 0, slots := 0, locals := 24 } : Room) (wPc D y [(x0, .inr (10, [.ref t0, .ref g0, .ref f0, .ref r0, .ref sl0, .ref n0, .ref d0, .ref w0, .ref c0]))] [(t0, .inr (9, [.ref ta, zi tn])), (ta, .inl (y 0, 40, .inl (cI TB)))] sz [.ref x0, zi nq, zl vq]) (wQ D (fun (TB2 : (Int → Int)) => some (zi (tn + nq))) (fun (TB2 : (Int → Int)) => (∀ j : Int, TB2 j = if tn ≤ j ∧ j < tn + nq then byteV vq (nq - 1 - (j - tn)) else TB j)) (fun (TB2 : (Int → Int)) => [(t0, .inr (9, [.ref ta, zi (tn + nq)])), (ta, .inl (y 0, 40, .inl (cI TB2)))]) (va_A [(t0, .inr (9, [.ref ta, zi tn])), (ta, .inl (y 0, 40, .inl (cI TB)))] sz)) 0 0 (va_A [(t0, .inr (9, [.ref ta, zi tn])), (ta, .inl (y 0, 40, .inl (cI TB)))] sz) := by
  refine W_of (own := RX11) (cc := cX11_write) (maxL := 4) (ret := some .int) (by decide) rfl rfl (Nat.le_of_ble_eq_true rfl) (fun p e s m below meth c ls A hx hb hr hC hlocks hin0 hR0 hN hP hD hA hG hl => ?_)
  have hC0 := hC
  obtain ⟨-, -, hml, hown, hts⟩ := hC0
  have hK := hG.1
  have hS : va_S A s.heap s.heap [] := va_S.rf
  have hPr := hR0
  have hinX11 : ∀ w ∈ wsX110, w ∈ wsX11_write := fun _ h => List.mem_cons_of_mem _ (List.mem_append_left _ (List.mem_append_right _ h))
  have k1 := hts (.fieldLink RX11 10 "BoatsOfPaper" "theText" "LBoatsOfPaper$Text;") (List.mem_of_getElem? (i := 1) rfl)
  have hl : lv_has ls 4 [(0, .ref x0), (1, zi nq), (2, zl vq)] := hl
  refine lv_iload_n hx hb dX11_write_0 rfl (lv_at hl 1 rfl) ?_
  refine z_iconst hx hb dX11_write_1 ?_
  refine z_icmp_lt (tgt := 11) hx hb (by omega) (by omega) dX11_write_2 (by decide) (fun c_2 => ?_) (fun c_2 => ?_)
  · exfalso; omega
  ·
    refine lv_iload_n hx hb dX11_write_5 rfl (lv_at hl 1 rfl) ?_
    refine z_bipush hx hb dX11_write_6 (by decide) ?_
    refine z_icmp_le (tgt := 14) hx hb (by omega) (by omega) dX11_write_8 (by decide) (fun c_8 => ?_) (fun c_8 => ?_)
    ·
      refine lv_aload_n hx hb dX11_write_14 rfl (lv_at hl 0 rfl) ?_
      refine va_get hx hb hts hinX11 hown hK hPr 0 rfl rfl 0 (by decide) k1 (fun _ h => h) rfl dX11_write_15 ?_
      refine lv_iload_n hx hb dX11_write_18 rfl (lv_at hl 1 rfl) ?_
      refine lv_lload_n hx hb dX11_write_19 rfl (lv_at hl 2 rfl) ?_
      refine z_wV (As := [zi nq, zl vq]) (rest := []) (wc := [(t0, .inr (9, [.ref ta, zi tn])), (ta, .inl (y 0, 40, .inl (cI TB)))]) (wrest := []) hC (c_X10_append l D y t0 ta tn TB nq vq (by first | assumption | omega) (by first | assumption | omega) _) (cwV 2 hts gX11_write_X10_append rfl rfl rfl (by decide +kernel) ⟨Nat.le_of_ble_eq_true rfl, Nat.le_of_ble_eq_true rfl⟩) hG hP hD hS hA [0, 1] [] rfl rfl (by decide) (by decide) (by decide) va_P_nil ro_nil 0 rfl rfl rfl hl.1 rfl (Nat.le_of_ble_eq_true rfl) dX11_write_20 ⟨Nat.le_of_ble_eq_true rfl, Nat.le_of_ble_eq_true rfl⟩ (fun u9 H locs hw_2 hP hD hS => ?_)
      obtain ⟨TB2, rfl⟩ : ∃ z9, z9 = u9 := ⟨_, rfl⟩
      have hw_2 : (∀ j : Int, TB2 j = if tn ≤ j ∧ j < tn + nq then byteV vq (nq - 1 - (j - tn)) else TB j) := hw_2
      have hP : va_P D vwCl [(t0, .inr (9, [.ref ta, zi (tn + nq)])), (ta, .inl (y 0, 40, .inl (cI TB2)))] H := hP
      have hD : va_D A [(t0, .inr (9, [.ref ta, zi (tn + nq)])), (ta, .inl (y 0, 40, .inl (cI TB2)))] := hD
      have hPr := ro_now hR0 hN hS
      have hap := hw_2
      exact z_iretW hx hb hr hlocks TB2 (rfl) (hap) (hP.sub [0, 1] rfl) (hD.sub [0, 1] (by decide) rfl) hS dX11_write_23
    · exfalso; omega
set_option maxHeartbeats 8000000 in
set_option maxRecDepth 100000 in
theorem c_X11_wipe (l : Launch) (D : va_G) (y : Nat → ClassId) (x0 : Nat) (t0 : Nat) (g0 : Nat) (f0 : Nat) (r0 : Nat) (sl0 : Nat) (n0 : Nat) (d0 : Nat) (w0 : Nat) (c0 : Nat) (ta : Nat) (tn : Int) (TB : Int → Int)  (sz : Nat) : Met l yX11_wipe wsX11_wipe ({ frames := 0, cells := 0, slots := 0, locals := 0 } : Room) (wPc D y [(x0, .inr (10, [.ref t0, .ref g0, .ref f0, .ref r0, .ref sl0, .ref n0, .ref d0, .ref w0, .ref c0]))] [(t0, .inr (9, [.ref ta, zi tn])), (ta, .inl (y 0, 40, .inl (cI TB)))] sz [.ref x0]) (wQ D (fun (_ : Unit) => some (zi tn)) (fun (_ : Unit) => True) (fun (_ : Unit) => [(t0, .inr (9, [.ref ta, zi 0])), (ta, .inl (y 0, 40, .inl (cI TB)))]) (va_A [(t0, .inr (9, [.ref ta, zi tn])), (ta, .inl (y 0, 40, .inl (cI TB)))] sz)) 0 0 (va_A [(t0, .inr (9, [.ref ta, zi tn])), (ta, .inl (y 0, 40, .inl (cI TB)))] sz) := by
  refine W_of (own := RX11) (cc := cX11_wipe) (maxL := 2) (ret := some .int) (by decide) rfl rfl (Nat.le_of_ble_eq_true rfl) (fun p e s m below meth c ls A hx hb hr hC hlocks hin0 hR0 hN hP hD hA hG hl => ?_)
  have hC0 := hC
  obtain ⟨-, -, hml, hown, hts⟩ := hC0
  have hK := hG.1
  have hS : va_S A s.heap s.heap [] := va_S.rf
  have hPr := hR0
  have hinX11 : ∀ w ∈ wsX110, w ∈ wsX11_wipe := fun _ h => List.mem_cons_of_mem _ (List.mem_append_left _ (List.mem_append_right _ h))
  have hinX10 : ∀ w ∈ wsX100, w ∈ wsX11_wipe := fun _ h => List.mem_cons_of_mem _ (List.mem_append_right _ h)
  have k1 := hts (.fieldLink RX11 10 "BoatsOfPaper" "theText" "LBoatsOfPaper$Text;") (List.mem_of_getElem? (i := 1) rfl)
  have k2 := hts (.fieldLink RX11 76 "BoatsOfPaper$Text" "length" "I") (List.mem_of_getElem? (i := 2) rfl)
  have hl : lv_has ls 2 [(0, .ref x0)] := hl
  refine lv_aload_n hx hb dX11_wipe_0 rfl (lv_at hl 0 rfl) ?_
  refine va_get hx hb hts hinX11 hown hK hPr 0 rfl rfl 0 (by decide) k1 (fun _ h => h) rfl dX11_wipe_1 ?_
  refine va_get hx hb hts hinX10 hown hK hP 0 rfl rfl 1 (by decide) k2 (fun _ h => h) rfl dX11_wipe_4 ?_
  refine lv_istore_n (lv' := [(1, zi tn), (0, .ref x0)]) hx hb dX11_wipe_7 rfl hl (by decide) rfl (fun ls hl => ?_)
  refine lv_aload_n hx hb dX11_wipe_8 rfl (lv_at hl 1 rfl) ?_
  refine va_get hx hb hts hinX11 hown hK hPr 0 rfl rfl 0 (by decide) k1 (fun _ h => h) rfl dX11_wipe_9 ?_
  refine z_iconst hx hb dX11_wipe_12 ?_
  refine va_put hx hb hts hinX10 tyX10 tyX10_ok nmX10 hown hK hP hD hS 0 rfl rfl 1 (by decide) k2 (fun _ h => h) rfl (tyX10_ok 1 (by decide)) rfl rfl (Nat.le_of_ble_eq_true rfl) dX11_wipe_13 (fun H locs hP hD hS => ?_)
  have hP : va_P D vwCl [(t0, .inr (9, [.ref ta, zi 0])), (ta, .inl (y 0, 40, .inl (cI TB)))] H := hP
  have hD : va_D A [(t0, .inr (9, [.ref ta, zi 0])), (ta, .inl (y 0, 40, .inl (cI TB)))] := hD
  have hPr := ro_now hR0 hN hS
  refine lv_iload_n hx hb dX11_wipe_16 rfl (lv_at hl 0 rfl) ?_
  exact z_iretW hx hb hr hlocks () (rfl) (trivial) (hP.sub [0, 1] rfl) (hD.sub [0, 1] (by decide) rfl) hS dX11_wipe_17
set_option maxHeartbeats 8000000 in
set_option maxRecDepth 100000 in
theorem c_X11_fault (l : Launch) (D : va_G) (y : Nat → ClassId) (x0 : Nat) (t0 : Nat) (g0 : Nat) (f0 : Nat) (r0 : Nat) (sl0 : Nat) (n0 : Nat) (d0 : Nat) (w0 : Nat) (c0 : Nat) (ta : Nat) (tn : Int) (TB : Int → Int) (ht : tOK tn TB) : Met l yX11_fault wsX11_fault ({ frames := 2, cells := 0, slots := 0, locals := 46 } : Room) (pPc D y [(x0, .inr (10, [.ref t0, .ref g0, .ref f0, .ref r0, .ref sl0, .ref n0, .ref d0, .ref w0, .ref c0])), (t0, .inr (9, [.ref ta, zi tn])), (ta, .inl (y 0, 40, .inl (cI TB)))] [.ref x0]) (qV (zi (faultV tn TB))) 0 0 (fun _ => False) := by
  refine P_of (own := RX11) (cc := cX11_fault) (maxL := 1) (ret := some .int) (by decide) rfl rfl (Nat.le_of_ble_eq_true rfl) (fun p e s m below meth c ls hx hb hr hC hlocks hPr hG hl => ?_)
  have hC0 := hC
  obtain ⟨-, -, hml, hown, hts⟩ := hC0
  have hK := hG.1
  have hinX11 : ∀ w ∈ wsX110, w ∈ wsX11_fault := fun _ h => List.mem_cons_of_mem _ (List.mem_append_left _ (List.mem_append_right _ h))
  have k1 := hts (.fieldLink RX11 10 "BoatsOfPaper" "theText" "LBoatsOfPaper$Text;") (List.mem_of_getElem? (i := 1) rfl)
  have hl : lv_has ls 1 [(0, .ref x0)] := hl
  refine lv_aload_n hx hb dX11_fault_0 rfl (lv_at hl 0 rfl) ?_
  refine va_get hx hb hts hinX11 hown hK hPr 0 rfl rfl 0 (by decide) k1 (fun _ h => h) rfl dX11_fault_1 ?_
  refine z_pV (As := []) (rest := []) hC (c_X10_firstFault l D y t0 ta tn TB (by first | assumption | omega)) (cwV 0 hts gX11_fault_X10_firstFault rfl rfl rfl (by decide +kernel) ⟨Nat.le_of_ble_eq_true rfl, Nat.le_of_ble_eq_true rfl⟩) hG (hPr.sub (ws' := [(t0, .inr (9, [.ref ta, zi tn])), (ta, .inl (y 0, 40, .inl (cI TB)))]) [1, 2] rfl) 0 rfl rfl rfl hl.1 rfl (Nat.le_of_ble_eq_true rfl) dX11_fault_4 ⟨Nat.le_of_ble_eq_true rfl, Nat.le_of_ble_eq_true rfl⟩ ?_
  exact z_iret0 hx hb hr hlocks (rfl) dX11_fault_7
set_option maxHeartbeats 8000000 in
set_option maxRecDepth 100000 in
theorem c_X11_gutter_no (l : Launch) (D : va_G) (y : Nat → ClassId) (x0 : Nat) (t0 : Nat) (g0 : Nat) (f0 : Nat) (r0 : Nat) (sl0 : Nat) (n0 : Nat) (d0 : Nat) (w0 : Nat) (c0 : Nat) (ta : Nat) (tn : Int) (TB : Int → Int) (ht : tOK tn TB) (hf : faultV tn TB ≠ -9) : Met l yX11_gutter wsX11_gutter ({ frames := 2, cells := 0, slots := 0, locals := 46 } : Room) (pPc D y [(x0, .inr (10, [.ref t0, .ref g0, .ref f0, .ref r0, .ref sl0, .ref n0, .ref d0, .ref w0, .ref c0])), (t0, .inr (9, [.ref ta, zi tn])), (ta, .inl (y 0, 40, .inl (cI TB)))] [.ref x0]) (qV (zi (-3))) 0 0 (fun _ => False) := by
  refine P_of (own := RX11) (cc := cX11_gutter) (maxL := 1) (ret := some .int) (by decide) rfl rfl (Nat.le_of_ble_eq_true rfl) (fun p e s m below meth c ls hx hb hr hC hlocks hPr hG hl => ?_)
  have hC0 := hC
  obtain ⟨-, -, hml, hown, hts⟩ := hC0
  have hK := hG.1
  have hinX11 : ∀ w ∈ wsX110, w ∈ wsX11_gutter := fun _ h => List.mem_cons_of_mem _ (List.mem_append_left _ (List.mem_append_left _ (List.mem_append_right _ h)))
  have k1 := hts (.fieldLink RX11 10 "BoatsOfPaper" "theText" "LBoatsOfPaper$Text;") (List.mem_of_getElem? (i := 1) rfl)
  have hl : lv_has ls 1 [(0, .ref x0)] := hl
  have fb := faultV_bd (T := TB) ht.1.1
  have u1 := ht.1
  refine lv_aload_n hx hb dX11_gutter_0 rfl (lv_at hl 0 rfl) ?_
  refine va_get hx hb hts hinX11 hown hK hPr 0 rfl rfl 0 (by decide) k1 (fun _ h => h) rfl dX11_gutter_1 ?_
  refine z_pV (As := []) (rest := []) hC (c_X10_firstFault l D y t0 ta tn TB (by first | assumption | omega)) (cwV 0 hts gX11_gutter_X10_firstFault rfl rfl rfl (by decide +kernel) ⟨Nat.le_of_ble_eq_true rfl, Nat.le_of_ble_eq_true rfl⟩) hG (hPr.sub (ws' := [(t0, .inr (9, [.ref ta, zi tn])), (ta, .inl (y 0, 40, .inl (cI TB)))]) [1, 2] rfl) 0 rfl rfl rfl hl.1 rfl (Nat.le_of_ble_eq_true rfl) dX11_gutter_4 ⟨Nat.le_of_ble_eq_true rfl, Nat.le_of_ble_eq_true rfl⟩ ?_
  refine z_bipush hx hb dX11_gutter_7 (by decide) ?_
  refine z_icmp_eq (tgt := 15) hx hb (by omega) (by omega) dX11_gutter_9 (by decide) (fun c_9 => ?_) (fun c_9 => ?_)
  · exfalso; omega
  ·
    refine z_bipush hx hb dX11_gutter_12 (by decide) ?_
    exact z_iret0 hx hb hr hlocks (rfl) dX11_gutter_14
set_option maxHeartbeats 8000000 in
set_option maxRecDepth 100000 in
theorem c_X11_gutter (l : Launch) (D : va_G) (y : Nat → ClassId) (x0 : Nat) (t0 : Nat) (g0 : Nat) (f0 : Nat) (r0 : Nat) (sl0 : Nat) (n0 : Nat) (d0 : Nat) (w0 : Nat) (c0 : Nat) (ga : Nat) (gl : Int) (gp : Int) (gx : Int) (gy : Int) (GK : Int → Int) (ta : Nat) (tn : Int) (TB : Int → Int) (hg : gOK gl gp gx gy GK) (ht : tOK tn TB) (hf : faultV tn TB = -9) (sz : Nat) : Met l yX11_gutter wsX11_gutter ({ frames := 2, cells := 0, slots := 0, locals := 46 } : Room) (wPc D y [(x0, .inr (10, [.ref t0, .ref g0, .ref f0, .ref r0, .ref sl0, .ref n0, .ref d0, .ref w0, .ref c0])), (t0, .inr (9, [.ref ta, zi tn])), (ta, .inl (y 0, 40, .inl (cI TB)))] [(g0, .inr (5, [.ref ga, zi gl, zi gp, zi gx, zi gy])), (ga, .inl (y 0, 36, .inl (cI GK)))] sz [.ref x0]) (wQ D (fun (x9 : Int × Int × (Int → Int)) => match x9 with | (gl2, gp2, GK2) => some (zi (100 * gl2 + gp2))) (fun (x9 : Int × Int × (Int → Int)) => match x9 with | (gl2, gp2, GK2) => gf TB tn.toNat 0 0 0 GK = (gl2 - 1, gp2, GK2)) (fun (x9 : Int × Int × (Int → Int)) => match x9 with | (gl2, gp2, GK2) => [(g0, .inr (5, [.ref ga, zi gl2, zi gp2, zi gx, zi gy])), (ga, .inl (y 0, 36, .inl (cI GK2)))]) (va_A [(g0, .inr (5, [.ref ga, zi gl, zi gp, zi gx, zi gy])), (ga, .inl (y 0, 36, .inl (cI GK)))] sz)) 0 0 (va_A [(g0, .inr (5, [.ref ga, zi gl, zi gp, zi gx, zi gy])), (ga, .inl (y 0, 36, .inl (cI GK)))] sz) := by
  refine W_of (own := RX11) (cc := cX11_gutter) (maxL := 1) (ret := some .int) (by decide) rfl rfl (Nat.le_of_ble_eq_true rfl) (fun p e s m below meth c ls A hx hb hr hC hlocks hin0 hR0 hN hP hD hA hG hl => ?_)
  have hC0 := hC
  obtain ⟨-, -, hml, hown, hts⟩ := hC0
  have hK := hG.1
  have hS : va_S A s.heap s.heap [] := va_S.rf
  have hPr := hR0
  have hinX11 : ∀ w ∈ wsX110, w ∈ wsX11_gutter := fun _ h => List.mem_cons_of_mem _ (List.mem_append_left _ (List.mem_append_left _ (List.mem_append_right _ h)))
  have hinX6 : ∀ w ∈ wsX60, w ∈ wsX11_gutter := fun _ h => List.mem_cons_of_mem _ (List.mem_append_left _ (List.mem_append_right _ h))
  have k1 := hts (.fieldLink RX11 10 "BoatsOfPaper" "theText" "LBoatsOfPaper$Text;") (List.mem_of_getElem? (i := 1) rfl)
  have k2 := hts (.fieldLink RX11 19 "BoatsOfPaper" "theGutter" "LBoatsOfPaper$Gutter;") (List.mem_of_getElem? (i := 2) rfl)
  have k3 := hts (.fieldLink RX11 88 "BoatsOfPaper$Gutter" "lanes" "I") (List.mem_of_getElem? (i := 3) rfl)
  have k4 := hts (.fieldLink RX11 91 "BoatsOfPaper$Gutter" "places" "I") (List.mem_of_getElem? (i := 4) rfl)
  have hl : lv_has ls 1 [(0, .ref x0)] := hl
  have fb := faultV_bd (T := TB) ht.1.1
  have u1 := ht.1
  refine lv_aload_n hx hb dX11_gutter_0 rfl (lv_at hl 0 rfl) ?_
  refine va_get hx hb hts hinX11 hown hK hPr 0 rfl rfl 0 (by decide) k1 (fun _ h => h) rfl dX11_gutter_1 ?_
  refine z_pV (As := []) (rest := []) hC (c_X10_firstFault l D y t0 ta tn TB (by first | assumption | omega)) (cwV 0 hts gX11_gutter_X10_firstFault rfl rfl rfl (by decide +kernel) ⟨Nat.le_of_ble_eq_true rfl, Nat.le_of_ble_eq_true rfl⟩) hG (hPr.sub (ws' := [(t0, .inr (9, [.ref ta, zi tn])), (ta, .inl (y 0, 40, .inl (cI TB)))]) [1, 2] rfl) 0 rfl rfl rfl hl.1 rfl (Nat.le_of_ble_eq_true rfl) dX11_gutter_4 ⟨Nat.le_of_ble_eq_true rfl, Nat.le_of_ble_eq_true rfl⟩ ?_
  refine z_bipush hx hb dX11_gutter_7 (by decide) ?_
  refine z_icmp_eq (tgt := 15) hx hb (by omega) (by omega) dX11_gutter_9 (by decide) (fun c_9 => ?_) (fun c_9 => ?_)
  ·
    refine lv_aload_n hx hb dX11_gutter_15 rfl (lv_at hl 0 rfl) ?_
    refine va_get hx hb hts hinX11 hown hK hPr 0 rfl rfl 1 (by decide) k2 (fun _ h => h) rfl dX11_gutter_16 ?_
    refine lv_aload_n hx hb dX11_gutter_19 rfl (lv_at hl 0 rfl) ?_
    refine va_get hx hb hts hinX11 hown hK hPr 0 rfl rfl 0 (by decide) k1 (fun _ h => h) rfl dX11_gutter_20 ?_
    refine z_wV (As := [.ref t0]) (rest := []) (wc := [(g0, .inr (5, [.ref ga, zi gl, zi gp, zi gx, zi gy])), (ga, .inl (y 0, 36, .inl (cI GK)))]) (wrest := []) hC (c_X6_readFrom l D y g0 ga gl gp gx gy GK t0 ta tn TB (by first | assumption | omega) (by first | assumption | omega) (by first | assumption | omega) _) (cwV 1 hts gX11_gutter_X6_readFrom rfl rfl rfl (by decide +kernel) ⟨Nat.le_of_ble_eq_true rfl, Nat.le_of_ble_eq_true rfl⟩) hG hP hD hS hA [0, 1] [] rfl rfl (by decide) (by decide) (by decide) (hPr.sub (ws' := [(t0, .inr (9, [.ref ta, zi tn])), (ta, .inl (y 0, 40, .inl (cI TB)))]) [1, 2] rfl) (fun k q hk z => ro_sub (wr' := [(t0, .inr (9, [.ref ta, zi tn])), (ta, .inl (y 0, 40, .inl (cI TB)))]) hN [1, 2] rfl k q hk (va_free (wc := [(g0, .inr (5, [.ref ga, zi gl, zi gp, zi gx, zi gy])), (ga, .inl (y 0, 36, .inl (cI GK)))]) hD hS hA [0, 1] rfl q.1 z)) 0 rfl rfl rfl hl.1 rfl (Nat.le_of_ble_eq_true rfl) dX11_gutter_23 ⟨Nat.le_of_ble_eq_true rfl, Nat.le_of_ble_eq_true rfl⟩ (fun u9 H locs hw_4 hP hD hS => ?_)
    obtain ⟨gl2, gp2, GK2⟩ := u9
    have hw_4 : gf TB tn.toNat 0 0 0 GK = (gl2 - 1, gp2, GK2) := hw_4
    have hP : va_P D vwCl [(g0, .inr (5, [.ref ga, zi gl2, zi gp2, zi gx, zi gy])), (ga, .inl (y 0, 36, .inl (cI GK2)))] H := hP
    have hD : va_D A [(g0, .inr (5, [.ref ga, zi gl2, zi gp2, zi gx, zi gy])), (ga, .inl (y 0, 36, .inl (cI GK2)))] := hD
    have hPr := ro_now hR0 hN hS
    have hgf := hw_4
    refine z_bipush hx hb dX11_gutter_26 (by decide) ?_
    refine lv_aload_n hx hb dX11_gutter_28 rfl (lv_at hl 0 rfl) ?_
    refine va_get hx hb hts hinX11 hown hK hPr 0 rfl rfl 1 (by decide) k2 (fun _ h => h) rfl dX11_gutter_29 ?_
    refine va_get hx hb hts hinX6 hown hK hP 0 rfl rfl 1 (by decide) k3 (fun _ h => h) rfl dX11_gutter_32 ?_
    refine z_imul hx hb dX11_gutter_35 ?_
    refine lv_aload_n hx hb dX11_gutter_36 rfl (lv_at hl 0 rfl) ?_
    refine va_get hx hb hts hinX11 hown hK hPr 0 rfl rfl 1 (by decide) k2 (fun _ h => h) rfl dX11_gutter_37 ?_
    refine va_get hx hb hts hinX6 hown hK hP 0 rfl rfl 2 (by decide) k4 (fun _ h => h) rfl dX11_gutter_40 ?_
    refine z_iadd hx hb dX11_gutter_43 ?_
    exact z_iretW hx hb hr hlocks (gl2, gp2, GK2) (rfl) (hgf) (hP.sub [0, 1] rfl) (hD.sub [0, 1] (by decide) rfl) hS dX11_gutter_44
  · exfalso; omega
set_option maxHeartbeats 8000000 in
set_option maxRecDepth 100000 in
theorem c_X11_place (l : Launch) (D : va_G) (y : Nat → ClassId) (x0 : Nat) (t0 : Nat) (g0 : Nat) (f0 : Nat) (r0 : Nat) (sl0 : Nat) (n0 : Nat) (d0 : Nat) (w0 : Nat) (c0 : Nat) (ga : Nat) (gl : Int) (gp : Int) (gx : Int) (gy : Int) (GK : Int → Int) (la : Int) (pl : Int) (hg : gOK gl gp gx gy GK) (hla : rI la) (hpl : rI pl) : Met l yX11_place wsX11_place ({ frames := 3, cells := 0, slots := 0, locals := 65 } : Room) (pPc D y [(x0, .inr (10, [.ref t0, .ref g0, .ref f0, .ref r0, .ref sl0, .ref n0, .ref d0, .ref w0, .ref c0])), (g0, .inr (5, [.ref ga, zi gl, zi gp, zi gx, zi gy])), (ga, .inl (y 0, 36, .inl (cI GK)))] [.ref x0, zi la, zi pl]) (qV (zi (if 0 ≤ la ∧ la < gl ∧ 0 ≤ pl ∧ pl < gp then GK (12 * la + pl) else -1))) 0 0 (fun _ => False) := by
  refine P_of (own := RX11) (cc := cX11_place) (maxL := 3) (ret := some .int) (by decide) rfl rfl (Nat.le_of_ble_eq_true rfl) (fun p e s m below meth c ls hx hb hr hC hlocks hPr hG hl => ?_)
  have hC0 := hC
  obtain ⟨-, -, hml, hown, hts⟩ := hC0
  have hK := hG.1
  have hinX11 : ∀ w ∈ wsX110, w ∈ wsX11_place := fun _ h => List.mem_cons_of_mem _ (List.mem_append_left _ (List.mem_append_right _ h))
  have k1 := hts (.fieldLink RX11 19 "BoatsOfPaper" "theGutter" "LBoatsOfPaper$Gutter;") (List.mem_of_getElem? (i := 1) rfl)
  have hl : lv_has ls 3 [(0, .ref x0), (1, zi la), (2, zi pl)] := hl
  obtain ⟨u1, u2, u3, u4, uk⟩ := id hg
  refine lv_aload_n hx hb dX11_place_0 rfl (lv_at hl 0 rfl) ?_
  refine va_get hx hb hts hinX11 hown hK hPr 0 rfl rfl 1 (by decide) k1 (fun _ h => h) rfl dX11_place_1 ?_
  refine lv_iload_n hx hb dX11_place_4 rfl (lv_at hl 1 rfl) ?_
  refine lv_iload_n hx hb dX11_place_5 rfl (lv_at hl 2 rfl) ?_
  refine z_pV (As := [zi la, zi pl]) (rest := []) hC (c_X6_has l D y g0 ga gl gp gx gy GK la pl (by first | assumption | omega) (by first | assumption | omega) (by first | assumption | omega)) (cwV 2 hts gX11_place_X6_has rfl rfl rfl (by decide +kernel) ⟨Nat.le_of_ble_eq_true rfl, Nat.le_of_ble_eq_true rfl⟩) hG (hPr.sub (ws' := [(g0, .inr (5, [.ref ga, zi gl, zi gp, zi gx, zi gy])), (ga, .inl (y 0, 36, .inl (cI GK)))]) [1, 2] rfl) 0 rfl rfl rfl hl.1 rfl (Nat.le_of_ble_eq_true rfl) dX11_place_6 ⟨Nat.le_of_ble_eq_true rfl, Nat.le_of_ble_eq_true rfl⟩ ?_
  refine z_ifB_ne (tgt := 14) hx hb dX11_place_9 (by decide) (fun c_9 => ?_) (fun c_9 => ?_)
  ·
    refine lv_aload_n hx hb dX11_place_14 rfl (lv_at hl 0 rfl) ?_
    refine va_get hx hb hts hinX11 hown hK hPr 0 rfl rfl 1 (by decide) k1 (fun _ h => h) rfl dX11_place_15 ?_
    refine lv_iload_n hx hb dX11_place_18 rfl (lv_at hl 1 rfl) ?_
    refine lv_iload_n hx hb dX11_place_19 rfl (lv_at hl 2 rfl) ?_
    refine z_pV (As := [zi la, zi pl]) (rest := []) hC (c_X6_kindAt l D y g0 ga gl gp gx gy GK la pl (by first | assumption | omega) (by first | assumption | omega) (by first | assumption | omega)) (cwV 2 hts gX11_place_X6_kindAt rfl rfl rfl (by decide +kernel) ⟨Nat.le_of_ble_eq_true rfl, Nat.le_of_ble_eq_true rfl⟩) hG (hPr.sub (ws' := [(g0, .inr (5, [.ref ga, zi gl, zi gp, zi gx, zi gy])), (ga, .inl (y 0, 36, .inl (cI GK)))]) [1, 2] rfl) 0 rfl rfl rfl hl.1 rfl (Nat.le_of_ble_eq_true rfl) dX11_place_20 ⟨Nat.le_of_ble_eq_true rfl, Nat.le_of_ble_eq_true rfl⟩ ?_
    exact z_iret0 hx hb hr hlocks (by first | exact ((if_pos (by omega)).trans (kAt_in (by omega)).symm).symm | exact (if_neg (by omega)).symm) dX11_place_23
  ·
    refine z_iconst hx hb dX11_place_12 ?_
    exact z_iret0 hx hb hr hlocks (by first | exact ((if_pos (by omega)).trans (kAt_in (by omega)).symm).symm | exact (if_neg (by omega)).symm) dX11_place_13
set_option maxHeartbeats 8000000 in
set_option maxRecDepth 100000 in
theorem c_X11_mishap_no (l : Launch) (D : va_G) (y : Nat → ClassId) (x0 : Nat) (t0 : Nat) (g0 : Nat) (f0 : Nat) (r0 : Nat) (sl0 : Nat) (n0 : Nat) (d0 : Nat) (w0 : Nat) (c0 : Nat) (xq : Int) (yq : Int) (hx9 : rI xq) (hy9 : rI yq) (hq : ¬ (0 ≤ xq ∧ xq ≤ 9 ∧ 0 ≤ yq ∧ yq ≤ 9)) : Met l yX11_mishap wsX11_mishap ({ frames := 1, cells := 0, slots := 0, locals := 22 } : Room) (pPc D y [(x0, .inr (10, [.ref t0, .ref g0, .ref f0, .ref r0, .ref sl0, .ref n0, .ref d0, .ref w0, .ref c0]))] [.ref x0, zi xq, zi yq]) (qV (zi (-2))) 0 0 (fun _ => False) := by
  refine P_of (own := RX11) (cc := cX11_mishap) (maxL := 4) (ret := some .int) (by decide) rfl rfl (Nat.le_of_ble_eq_true rfl) (fun p e s m below meth c ls hx hb hr hC hlocks hPr hG hl => ?_)
  have hC0 := hC
  obtain ⟨-, -, hml, hown, hts⟩ := hC0
  have hK := hG.1
  have hl : lv_has ls 4 [(0, .ref x0), (1, zi xq), (2, zi yq)] := hl
  refine lv_iload_n hx hb dX11_mishap_0 rfl (lv_at hl 1 rfl) ?_
  refine z_iconst hx hb dX11_mishap_1 ?_
  refine z_bipush hx hb dX11_mishap_2 (by decide) ?_
  refine z_pS (As := [zi xq, zi 0, zi 9]) (rest := []) hC (c_X11_isWithin l D y xq 0 9 (by first | assumption | omega)) (va_cwS 3 hts gX11_mishap_X11_isWithin rfl rfl rfl (by decide +kernel) ⟨Nat.le_of_ble_eq_true rfl, Nat.le_of_ble_eq_true rfl⟩) hG va_P_nil rfl hl.1 rfl (Nat.le_of_ble_eq_true rfl) dX11_mishap_4 ⟨Nat.le_of_ble_eq_true rfl, Nat.le_of_ble_eq_true rfl⟩ ?_
  refine z_ifB_eq (tgt := 20) hx hb dX11_mishap_7 (by decide) (fun c_7 => ?_) (fun c_7 => ?_)
  ·
    refine z_bipush hx hb dX11_mishap_20 (by decide) ?_
    exact z_iret0 hx hb hr hlocks (rfl) dX11_mishap_22
  ·
    refine lv_iload_n hx hb dX11_mishap_10 rfl (lv_at hl 2 rfl) ?_
    refine z_iconst hx hb dX11_mishap_11 ?_
    refine z_bipush hx hb dX11_mishap_12 (by decide) ?_
    refine z_pS (As := [zi yq, zi 0, zi 9]) (rest := []) hC (c_X11_isWithin l D y yq 0 9 (by first | assumption | omega)) (va_cwS 3 hts gX11_mishap_X11_isWithin rfl rfl rfl (by decide +kernel) ⟨Nat.le_of_ble_eq_true rfl, Nat.le_of_ble_eq_true rfl⟩) hG va_P_nil rfl hl.1 rfl (Nat.le_of_ble_eq_true rfl) dX11_mishap_14 ⟨Nat.le_of_ble_eq_true rfl, Nat.le_of_ble_eq_true rfl⟩ ?_
    refine z_ifB_ne (tgt := 23) hx hb dX11_mishap_17 (by decide) (fun c_17 => ?_) (fun c_17 => ?_)
    · exfalso; omega
    ·
      refine z_bipush hx hb dX11_mishap_20 (by decide) ?_
      exact z_iret0 hx hb hr hlocks (rfl) dX11_mishap_22
set_option maxHeartbeats 8000000 in
set_option maxRecDepth 100000 in
theorem c_X11_mishap (l : Launch) (D : va_G) (y : Nat → ClassId) (x0 : Nat) (t0 : Nat) (g0 : Nat) (f0 : Nat) (r0 : Nat) (sl0 : Nat) (n0 : Nat) (d0 : Nat) (w0 : Nat) (c0 : Nat) (ga : Nat) (gl : Int) (gp : Int) (gx : Int) (gy : Int) (GK : Int → Int) (xq : Int) (yq : Int) (hq : 0 ≤ xq ∧ xq ≤ 9 ∧ 0 ≤ yq ∧ yq ≤ 9) (sz : Nat) : Met l yX11_mishap wsX11_mishap ({ frames := 1, cells := 0, slots := 0, locals := 22 } : Room) (wPc D y [(x0, .inr (10, [.ref t0, .ref g0, .ref f0, .ref r0, .ref sl0, .ref n0, .ref d0, .ref w0, .ref c0]))] [(g0, .inr (5, [.ref ga, zi gl, zi gp, zi gx, zi gy])), (ga, .inl (y 0, 36, .inl (cI GK)))] sz [.ref x0, zi xq, zi yq]) (wQ D (fun (_ : Unit) => some (zi (10 * gx + gy))) (fun (_ : Unit) => True) (fun (_ : Unit) => [(g0, .inr (5, [.ref ga, zi gl, zi gp, zi xq, zi yq])), (ga, .inl (y 0, 36, .inl (cI GK)))]) (va_A [(g0, .inr (5, [.ref ga, zi gl, zi gp, zi gx, zi gy])), (ga, .inl (y 0, 36, .inl (cI GK)))] sz)) 0 0 (va_A [(g0, .inr (5, [.ref ga, zi gl, zi gp, zi gx, zi gy])), (ga, .inl (y 0, 36, .inl (cI GK)))] sz) := by
  refine W_of (own := RX11) (cc := cX11_mishap) (maxL := 4) (ret := some .int) (by decide) rfl rfl (Nat.le_of_ble_eq_true rfl) (fun p e s m below meth c ls A hx hb hr hC hlocks hin0 hR0 hN hP hD hA hG hl => ?_)
  have hC0 := hC
  obtain ⟨-, -, hml, hown, hts⟩ := hC0
  have hK := hG.1
  have hS : va_S A s.heap s.heap [] := va_S.rf
  have hPr := hR0
  have hinX11 : ∀ w ∈ wsX110, w ∈ wsX11_mishap := fun _ h => List.mem_cons_of_mem _ (List.mem_append_left _ (List.mem_append_right _ h))
  have hinX6 : ∀ w ∈ wsX60, w ∈ wsX11_mishap := fun _ h => List.mem_cons_of_mem _ (List.mem_append_right _ h)
  have k1 := hts (.fieldLink RX11 19 "BoatsOfPaper" "theGutter" "LBoatsOfPaper$Gutter;") (List.mem_of_getElem? (i := 1) rfl)
  have k2 := hts (.fieldLink RX11 106 "BoatsOfPaper$Gutter" "leafTenths" "I") (List.mem_of_getElem? (i := 2) rfl)
  have k3 := hts (.fieldLink RX11 109 "BoatsOfPaper$Gutter" "drainTenths" "I") (List.mem_of_getElem? (i := 3) rfl)
  have hl : lv_has ls 4 [(0, .ref x0), (1, zi xq), (2, zi yq)] := hl
  refine lv_iload_n hx hb dX11_mishap_0 rfl (lv_at hl 1 rfl) ?_
  refine z_iconst hx hb dX11_mishap_1 ?_
  refine z_bipush hx hb dX11_mishap_2 (by decide) ?_
  refine z_pS (As := [zi xq, zi 0, zi 9]) (rest := []) hC (c_X11_isWithin l D y xq 0 9 (by first | assumption | omega)) (va_cwS 3 hts gX11_mishap_X11_isWithin rfl rfl rfl (by decide +kernel) ⟨Nat.le_of_ble_eq_true rfl, Nat.le_of_ble_eq_true rfl⟩) hG va_P_nil rfl hl.1 rfl (Nat.le_of_ble_eq_true rfl) dX11_mishap_4 ⟨Nat.le_of_ble_eq_true rfl, Nat.le_of_ble_eq_true rfl⟩ ?_
  refine z_ifB_eq (tgt := 20) hx hb dX11_mishap_7 (by decide) (fun c_7 => ?_) (fun c_7 => ?_)
  · exfalso; omega
  ·
    refine lv_iload_n hx hb dX11_mishap_10 rfl (lv_at hl 2 rfl) ?_
    refine z_iconst hx hb dX11_mishap_11 ?_
    refine z_bipush hx hb dX11_mishap_12 (by decide) ?_
    refine z_pS (As := [zi yq, zi 0, zi 9]) (rest := []) hC (c_X11_isWithin l D y yq 0 9 (by first | assumption | omega)) (va_cwS 3 hts gX11_mishap_X11_isWithin rfl rfl rfl (by decide +kernel) ⟨Nat.le_of_ble_eq_true rfl, Nat.le_of_ble_eq_true rfl⟩) hG va_P_nil rfl hl.1 rfl (Nat.le_of_ble_eq_true rfl) dX11_mishap_14 ⟨Nat.le_of_ble_eq_true rfl, Nat.le_of_ble_eq_true rfl⟩ ?_
    refine z_ifB_ne (tgt := 23) hx hb dX11_mishap_17 (by decide) (fun c_17 => ?_) (fun c_17 => ?_)
    ·
      refine z_bipush hx hb dX11_mishap_23 (by decide) ?_
      refine lv_aload_n hx hb dX11_mishap_25 rfl (lv_at hl 0 rfl) ?_
      refine va_get hx hb hts hinX11 hown hK hPr 0 rfl rfl 1 (by decide) k1 (fun _ h => h) rfl dX11_mishap_26 ?_
      refine va_get hx hb hts hinX6 hown hK hP 0 rfl rfl 3 (by decide) k2 (fun _ h => h) rfl dX11_mishap_29 ?_
      refine z_imul hx hb dX11_mishap_32 ?_
      refine lv_aload_n hx hb dX11_mishap_33 rfl (lv_at hl 0 rfl) ?_
      refine va_get hx hb hts hinX11 hown hK hPr 0 rfl rfl 1 (by decide) k1 (fun _ h => h) rfl dX11_mishap_34 ?_
      refine va_get hx hb hts hinX6 hown hK hP 0 rfl rfl 4 (by decide) k3 (fun _ h => h) rfl dX11_mishap_37 ?_
      refine z_iadd hx hb dX11_mishap_40 ?_
      refine lv_istore_n (lv' := [(3, zi ((10 * gx) + gy)), (0, .ref x0), (1, zi xq), (2, zi yq)]) hx hb dX11_mishap_41 rfl hl (by decide) rfl (fun ls hl => ?_)
      refine lv_aload_n hx hb dX11_mishap_42 rfl (lv_at hl 1 rfl) ?_
      refine va_get hx hb hts hinX11 hown hK hPr 0 rfl rfl 1 (by decide) k1 (fun _ h => h) rfl dX11_mishap_43 ?_
      refine lv_iload_n hx hb dX11_mishap_46 rfl (lv_at hl 2 rfl) ?_
      refine va_put hx hb hts hinX6 tyX6 tyX6_ok nmX6 hown hK hP hD hS 0 rfl rfl 3 (by decide) k2 (fun _ h => h) rfl (tyX6_ok 3 (by decide)) rfl rfl (Nat.le_of_ble_eq_true rfl) dX11_mishap_47 (fun H locs hP hD hS => ?_)
      have hP : va_P D vwCl [(g0, .inr (5, [.ref ga, zi gl, zi gp, zi xq, zi gy])), (ga, .inl (y 0, 36, .inl (cI GK)))] H := hP
      have hD : va_D A [(g0, .inr (5, [.ref ga, zi gl, zi gp, zi xq, zi gy])), (ga, .inl (y 0, 36, .inl (cI GK)))] := hD
      have hPr := ro_now hR0 hN hS
      refine lv_aload_n hx hb dX11_mishap_50 rfl (lv_at hl 1 rfl) ?_
      refine va_get hx hb hts hinX11 hown hK hPr 0 rfl rfl 1 (by decide) k1 (fun _ h => h) rfl dX11_mishap_51 ?_
      refine lv_iload_n hx hb dX11_mishap_54 rfl (lv_at hl 3 rfl) ?_
      refine va_put hx hb hts hinX6 tyX6 tyX6_ok nmX6 hown hK hP hD hS 0 rfl rfl 4 (by decide) k3 (fun _ h => h) rfl (tyX6_ok 4 (by decide)) rfl rfl (Nat.le_of_ble_eq_true rfl) dX11_mishap_55 (fun H locs hP hD hS => ?_)
      have hP : va_P D vwCl [(g0, .inr (5, [.ref ga, zi gl, zi gp, zi xq, zi yq])), (ga, .inl (y 0, 36, .inl (cI GK)))] H := hP
      have hD : va_D A [(g0, .inr (5, [.ref ga, zi gl, zi gp, zi xq, zi yq])), (ga, .inl (y 0, 36, .inl (cI GK)))] := hD
      have hPr := ro_now hR0 hN hS
      refine lv_iload_n hx hb dX11_mishap_58 rfl (lv_at hl 0 rfl) ?_
      exact z_iretW hx hb hr hlocks () (rfl) (trivial) (hP.sub [0, 1] rfl) (hD.sub [0, 1] (by decide) rfl) hS dX11_mishap_59
    · exfalso; omega
set_option maxHeartbeats 8000000 in
set_option maxRecDepth 100000 in
theorem c_X11_boat_out (l : Launch) (D : va_G) (y : Nat → ClassId) (x0 : Nat) (t0 : Nat) (g0 : Nat) (f0 : Nat) (r0 : Nat) (sl0 : Nat) (n0 : Nat) (d0 : Nat) (w0 : Nat) (c0 : Nat) (xl : Int) (xw : Int) (xt : Int) (xh : Int) (hr9 : rI xl ∧ rI xw ∧ rI xt ∧ rI xh) (hq : ¬ ((3 ≤ xl ∧ xl ≤ 20) ∧ (3 ≤ xw ∧ xw ≤ 20) ∧ (1 ≤ xt ∧ xt ≤ 9) ∧ 1 ≤ xh ∧ xh ≤ 9 ∧ 1 ≤ xl - 2 * xh ∧ 1 ≤ xw - 2 * xh)) : Met l yX11_boat wsX11_boat ({ frames := 2, cells := 0, slots := 0, locals := 44 } : Room) (pPc D y [(x0, .inr (10, [.ref t0, .ref g0, .ref f0, .ref r0, .ref sl0, .ref n0, .ref d0, .ref w0, .ref c0]))] [.ref x0, zi xl, zi xw, zi xt, zi xh]) (qV (zi (-2))) 0 0 (fun _ => False) := by
  refine P_of (own := RX11) (cc := cX11_boat) (maxL := 5) (ret := some .int) (by decide) rfl rfl (Nat.le_of_ble_eq_true rfl) (fun p e s m below meth c ls hx hb hr hC hlocks hPr hG hl => ?_)
  have hC0 := hC
  obtain ⟨-, -, hml, hown, hts⟩ := hC0
  have hK := hG.1
  have hl : lv_has ls 5 [(0, .ref x0), (1, zi xl), (2, zi xw), (3, zi xt), (4, zi xh)] := hl
  refine lv_iload_n hx hb dX11_boat_0 rfl (lv_at hl 1 rfl) ?_
  refine z_iconst hx hb dX11_boat_1 ?_
  refine z_bipush hx hb dX11_boat_2 (by decide) ?_
  refine z_pS (As := [zi xl, zi 3, zi 20]) (rest := []) hC (c_X11_isWithin l D y xl 3 20 (by first | assumption | omega)) (va_cwS 3 hts gX11_boat_X11_isWithin rfl rfl rfl (by decide +kernel) ⟨Nat.le_of_ble_eq_true rfl, Nat.le_of_ble_eq_true rfl⟩) hG va_P_nil rfl hl.1 rfl (Nat.le_of_ble_eq_true rfl) dX11_boat_4 ⟨Nat.le_of_ble_eq_true rfl, Nat.le_of_ble_eq_true rfl⟩ ?_
  refine z_ifB_eq (tgt := 40) hx hb dX11_boat_7 (by decide) (fun c_7 => ?_) (fun c_7 => ?_)
  ·
    refine z_bipush hx hb dX11_boat_40 (by decide) ?_
    exact z_iret0 hx hb hr hlocks (rfl) dX11_boat_42
  ·
    refine lv_iload_n hx hb dX11_boat_10 rfl (lv_at hl 2 rfl) ?_
    refine z_iconst hx hb dX11_boat_11 ?_
    refine z_bipush hx hb dX11_boat_12 (by decide) ?_
    refine z_pS (As := [zi xw, zi 3, zi 20]) (rest := []) hC (c_X11_isWithin l D y xw 3 20 (by first | assumption | omega)) (va_cwS 3 hts gX11_boat_X11_isWithin rfl rfl rfl (by decide +kernel) ⟨Nat.le_of_ble_eq_true rfl, Nat.le_of_ble_eq_true rfl⟩) hG va_P_nil rfl hl.1 rfl (Nat.le_of_ble_eq_true rfl) dX11_boat_14 ⟨Nat.le_of_ble_eq_true rfl, Nat.le_of_ble_eq_true rfl⟩ ?_
    refine z_ifB_eq (tgt := 40) hx hb dX11_boat_17 (by decide) (fun c_17 => ?_) (fun c_17 => ?_)
    ·
      refine z_bipush hx hb dX11_boat_40 (by decide) ?_
      exact z_iret0 hx hb hr hlocks (rfl) dX11_boat_42
    ·
      refine lv_iload_n hx hb dX11_boat_20 rfl (lv_at hl 3 rfl) ?_
      refine z_iconst hx hb dX11_boat_21 ?_
      refine z_bipush hx hb dX11_boat_22 (by decide) ?_
      refine z_pS (As := [zi xt, zi 1, zi 9]) (rest := []) hC (c_X11_isWithin l D y xt 1 9 (by first | assumption | omega)) (va_cwS 3 hts gX11_boat_X11_isWithin rfl rfl rfl (by decide +kernel) ⟨Nat.le_of_ble_eq_true rfl, Nat.le_of_ble_eq_true rfl⟩) hG va_P_nil rfl hl.1 rfl (Nat.le_of_ble_eq_true rfl) dX11_boat_24 ⟨Nat.le_of_ble_eq_true rfl, Nat.le_of_ble_eq_true rfl⟩ ?_
      refine z_ifB_eq (tgt := 40) hx hb dX11_boat_27 (by decide) (fun c_27 => ?_) (fun c_27 => ?_)
      ·
        refine z_bipush hx hb dX11_boat_40 (by decide) ?_
        exact z_iret0 hx hb hr hlocks (rfl) dX11_boat_42
      ·
        refine lv_iload_n hx hb dX11_boat_30 rfl (lv_at hl 1 rfl) ?_
        refine lv_iload_n hx hb dX11_boat_31 rfl (lv_at hl 2 rfl) ?_
        refine lv_iload hx hb dX11_boat_32 (lv_at hl 4 rfl) ?_
        refine z_pS (As := [zi xl, zi xw, zi xh]) (rest := []) hC (c_X11_canFold l D y xl xw xh (by first | assumption | omega)) (va_cwS 3 hts gX11_boat_X11_canFold rfl rfl rfl (by decide +kernel) ⟨Nat.le_of_ble_eq_true rfl, Nat.le_of_ble_eq_true rfl⟩) hG va_P_nil rfl hl.1 rfl (Nat.le_of_ble_eq_true rfl) dX11_boat_34 ⟨Nat.le_of_ble_eq_true rfl, Nat.le_of_ble_eq_true rfl⟩ ?_
        refine z_ifB_ne (tgt := 43) hx hb dX11_boat_37 (by decide) (fun c_37 => ?_) (fun c_37 => ?_)
        · exfalso; omega
        ·
          refine z_bipush hx hb dX11_boat_40 (by decide) ?_
          exact z_iret0 hx hb hr hlocks (rfl) dX11_boat_42
set_option maxHeartbeats 8000000 in
set_option maxRecDepth 100000 in
theorem c_X11_boat_full (l : Launch) (D : va_G) (y : Nat → ClassId) (x0 : Nat) (t0 : Nat) (g0 : Nat) (f0 : Nat) (r0 : Nat) (sl0 : Nat) (n0 : Nat) (d0 : Nat) (w0 : Nat) (c0 : Nat) (fa : Nat) (fn : Int) (fr : Nat → Option Nat) (xl : Int) (xw : Int) (xt : Int) (xh : Int) (hq : (3 ≤ xl ∧ xl ≤ 20) ∧ (3 ≤ xw ∧ xw ≤ 20) ∧ (1 ≤ xt ∧ xt ≤ 9) ∧ 1 ≤ xh ∧ xh ≤ 9 ∧ 1 ≤ xl - 2 * xh ∧ 1 ≤ xw - 2 * xh) (hf : fn = 6) : Met l yX11_boat wsX11_boat ({ frames := 2, cells := 0, slots := 0, locals := 44 } : Room) (pPc D y [(x0, .inr (10, [.ref t0, .ref g0, .ref f0, .ref r0, .ref sl0, .ref n0, .ref d0, .ref w0, .ref c0])), (f0, .inr (4, [.ref fa, zi fn])), (fa, .inl (y 3, 6, .inr (.inr (.inr (.inr fr)))))] [.ref x0, zi xl, zi xw, zi xt, zi xh]) (qV (zi (-4))) 0 0 (fun _ => False) := by
  refine P_of (own := RX11) (cc := cX11_boat) (maxL := 5) (ret := some .int) (by decide) rfl rfl (Nat.le_of_ble_eq_true rfl) (fun p e s m below meth c ls hx hb hr hC hlocks hPr hG hl => ?_)
  have hC0 := hC
  obtain ⟨-, -, hml, hown, hts⟩ := hC0
  have hK := hG.1
  have hinX11 : ∀ w ∈ wsX110, w ∈ wsX11_boat := fun _ h => List.mem_cons_of_mem _ (List.mem_append_left _ (List.mem_append_left _ (List.mem_append_right _ h)))
  have k1 := hts (.fieldLink RX11 26 "BoatsOfPaper" "theFleet" "LBoatsOfPaper$Fleet;") (List.mem_of_getElem? (i := 1) rfl)
  have hl : lv_has ls 5 [(0, .ref x0), (1, zi xl), (2, zi xw), (3, zi xt), (4, zi xh)] := hl
  refine lv_iload_n hx hb dX11_boat_0 rfl (lv_at hl 1 rfl) ?_
  refine z_iconst hx hb dX11_boat_1 ?_
  refine z_bipush hx hb dX11_boat_2 (by decide) ?_
  refine z_pS (As := [zi xl, zi 3, zi 20]) (rest := []) hC (c_X11_isWithin l D y xl 3 20 (by first | assumption | omega)) (va_cwS 3 hts gX11_boat_X11_isWithin rfl rfl rfl (by decide +kernel) ⟨Nat.le_of_ble_eq_true rfl, Nat.le_of_ble_eq_true rfl⟩) hG va_P_nil rfl hl.1 rfl (Nat.le_of_ble_eq_true rfl) dX11_boat_4 ⟨Nat.le_of_ble_eq_true rfl, Nat.le_of_ble_eq_true rfl⟩ ?_
  refine z_ifB_eq (tgt := 40) hx hb dX11_boat_7 (by decide) (fun c_7 => ?_) (fun c_7 => ?_)
  · exfalso; omega
  ·
    refine lv_iload_n hx hb dX11_boat_10 rfl (lv_at hl 2 rfl) ?_
    refine z_iconst hx hb dX11_boat_11 ?_
    refine z_bipush hx hb dX11_boat_12 (by decide) ?_
    refine z_pS (As := [zi xw, zi 3, zi 20]) (rest := []) hC (c_X11_isWithin l D y xw 3 20 (by first | assumption | omega)) (va_cwS 3 hts gX11_boat_X11_isWithin rfl rfl rfl (by decide +kernel) ⟨Nat.le_of_ble_eq_true rfl, Nat.le_of_ble_eq_true rfl⟩) hG va_P_nil rfl hl.1 rfl (Nat.le_of_ble_eq_true rfl) dX11_boat_14 ⟨Nat.le_of_ble_eq_true rfl, Nat.le_of_ble_eq_true rfl⟩ ?_
    refine z_ifB_eq (tgt := 40) hx hb dX11_boat_17 (by decide) (fun c_17 => ?_) (fun c_17 => ?_)
    · exfalso; omega
    ·
      refine lv_iload_n hx hb dX11_boat_20 rfl (lv_at hl 3 rfl) ?_
      refine z_iconst hx hb dX11_boat_21 ?_
      refine z_bipush hx hb dX11_boat_22 (by decide) ?_
      refine z_pS (As := [zi xt, zi 1, zi 9]) (rest := []) hC (c_X11_isWithin l D y xt 1 9 (by first | assumption | omega)) (va_cwS 3 hts gX11_boat_X11_isWithin rfl rfl rfl (by decide +kernel) ⟨Nat.le_of_ble_eq_true rfl, Nat.le_of_ble_eq_true rfl⟩) hG va_P_nil rfl hl.1 rfl (Nat.le_of_ble_eq_true rfl) dX11_boat_24 ⟨Nat.le_of_ble_eq_true rfl, Nat.le_of_ble_eq_true rfl⟩ ?_
      refine z_ifB_eq (tgt := 40) hx hb dX11_boat_27 (by decide) (fun c_27 => ?_) (fun c_27 => ?_)
      · exfalso; omega
      ·
        refine lv_iload_n hx hb dX11_boat_30 rfl (lv_at hl 1 rfl) ?_
        refine lv_iload_n hx hb dX11_boat_31 rfl (lv_at hl 2 rfl) ?_
        refine lv_iload hx hb dX11_boat_32 (lv_at hl 4 rfl) ?_
        refine z_pS (As := [zi xl, zi xw, zi xh]) (rest := []) hC (c_X11_canFold l D y xl xw xh (by first | assumption | omega)) (va_cwS 3 hts gX11_boat_X11_canFold rfl rfl rfl (by decide +kernel) ⟨Nat.le_of_ble_eq_true rfl, Nat.le_of_ble_eq_true rfl⟩) hG va_P_nil rfl hl.1 rfl (Nat.le_of_ble_eq_true rfl) dX11_boat_34 ⟨Nat.le_of_ble_eq_true rfl, Nat.le_of_ble_eq_true rfl⟩ ?_
        refine z_ifB_ne (tgt := 43) hx hb dX11_boat_37 (by decide) (fun c_37 => ?_) (fun c_37 => ?_)
        ·
          refine lv_aload_n hx hb dX11_boat_43 rfl (lv_at hl 0 rfl) ?_
          refine va_get hx hb hts hinX11 hown hK hPr 0 rfl rfl 2 (by decide) k1 (fun _ h => h) rfl dX11_boat_44 ?_
          refine lv_iload_n hx hb dX11_boat_47 rfl (lv_at hl 1 rfl) ?_
          refine lv_iload_n hx hb dX11_boat_48 rfl (lv_at hl 2 rfl) ?_
          refine lv_iload_n hx hb dX11_boat_49 rfl (lv_at hl 3 rfl) ?_
          refine lv_iload hx hb dX11_boat_50 (lv_at hl 4 rfl) ?_
          refine z_pV (As := [zi xl, zi xw, zi xt, zi xh]) (rest := []) hC (c_X4_launch_full l D y f0 fa fn fr xl xw xt xh (by first | assumption | omega)) (cwV 4 hts gX11_boat_X4_launch rfl rfl rfl (by decide +kernel) ⟨Nat.le_of_ble_eq_true rfl, Nat.le_of_ble_eq_true rfl⟩) hG (hPr.sub (ws' := [(f0, .inr (4, [.ref fa, zi fn])), (fa, .inl (y 3, 6, .inr (.inr (.inr (.inr fr)))))]) [1, 2] rfl) 0 rfl rfl rfl hl.1 rfl (Nat.le_of_ble_eq_true rfl) dX11_boat_52 ⟨Nat.le_of_ble_eq_true rfl, Nat.le_of_ble_eq_true rfl⟩ ?_
          exact z_iret0 hx hb hr hlocks (rfl) dX11_boat_55
        · exfalso; omega
set_option maxHeartbeats 8000000 in
set_option maxRecDepth 100000 in
theorem c_X11_boat (l : Launch) (D : va_G) (y : Nat → ClassId) (x0 : Nat) (t0 : Nat) (g0 : Nat) (f0 : Nat) (r0 : Nat) (sl0 : Nat) (n0 : Nat) (d0 : Nat) (w0 : Nat) (c0 : Nat) (fa : Nat) (fn : Int) (fr : Nat → Option Nat) (h0 : Nat) (a1 : Nat) (a2 : Nat) (a3 : Nat) (bl : Int) (bw : Int) (bt : Int) (bh : Int) (bd : Int) (bx : Int) (bn : Int) (xl : Int) (xw : Int) (xt : Int) (xh : Int) (hq : (3 ≤ xl ∧ xl ≤ 20) ∧ (3 ≤ xw ∧ xw ≤ 20) ∧ (1 ≤ xt ∧ xt ≤ 9) ∧ 1 ≤ xh ∧ xh ≤ 9 ∧ 1 ≤ xl - 2 * xh ∧ 1 ≤ xw - 2 * xh) (hf : 0 ≤ fn ∧ fn < 6) (hfr : fr fn.toNat = some h0) (sz : Nat) : Met l yX11_boat wsX11_boat ({ frames := 2, cells := 0, slots := 0, locals := 48 } : Room) (wPc D y [(x0, .inr (10, [.ref t0, .ref g0, .ref f0, .ref r0, .ref sl0, .ref n0, .ref d0, .ref w0, .ref c0])), (fa, .inl (y 3, 6, .inr (.inr (.inr (.inr fr)))))] [(f0, .inr (4, [.ref fa, zi fn])), (h0, .inr (1, [zi bl, zi bw, zi bt, zi bh, zi bd, zi bx, zi bn, .ref a1, .ref a2, .ref a3]))] sz [.ref x0, zi xl, zi xw, zi xt, zi xh]) (wQ D (fun (_ : Unit) => some (zi fn)) (fun (_ : Unit) => True) (fun (_ : Unit) => [(f0, .inr (4, [.ref fa, zi (fn + 1)])), (h0, .inr (1, [zi xl, zi xw, zi xt, zi xh, zi 10, zi 0, zi 0, .ref a1, .ref a2, .ref a3]))]) (va_A [(f0, .inr (4, [.ref fa, zi fn])), (h0, .inr (1, [zi bl, zi bw, zi bt, zi bh, zi bd, zi bx, zi bn, .ref a1, .ref a2, .ref a3]))] sz)) 0 0 (va_A [(f0, .inr (4, [.ref fa, zi fn])), (h0, .inr (1, [zi bl, zi bw, zi bt, zi bh, zi bd, zi bx, zi bn, .ref a1, .ref a2, .ref a3]))] sz) := by
  refine W_of (own := RX11) (cc := cX11_boat) (maxL := 5) (ret := some .int) (by decide) rfl rfl (Nat.le_of_ble_eq_true rfl) (fun p e s m below meth c ls A hx hb hr hC hlocks hin0 hR0 hN hP hD hA hG hl => ?_)
  have hC0 := hC
  obtain ⟨-, -, hml, hown, hts⟩ := hC0
  have hK := hG.1
  have hS : va_S A s.heap s.heap [] := va_S.rf
  have hPr := hR0
  have hinX11 : ∀ w ∈ wsX110, w ∈ wsX11_boat := fun _ h => List.mem_cons_of_mem _ (List.mem_append_left _ (List.mem_append_left _ (List.mem_append_right _ h)))
  have k1 := hts (.fieldLink RX11 26 "BoatsOfPaper" "theFleet" "LBoatsOfPaper$Fleet;") (List.mem_of_getElem? (i := 1) rfl)
  have hl : lv_has ls 5 [(0, .ref x0), (1, zi xl), (2, zi xw), (3, zi xt), (4, zi xh)] := hl
  refine lv_iload_n hx hb dX11_boat_0 rfl (lv_at hl 1 rfl) ?_
  refine z_iconst hx hb dX11_boat_1 ?_
  refine z_bipush hx hb dX11_boat_2 (by decide) ?_
  refine z_pS (As := [zi xl, zi 3, zi 20]) (rest := []) hC (c_X11_isWithin l D y xl 3 20 (by first | assumption | omega)) (va_cwS 3 hts gX11_boat_X11_isWithin rfl rfl rfl (by decide +kernel) ⟨Nat.le_of_ble_eq_true rfl, Nat.le_of_ble_eq_true rfl⟩) hG va_P_nil rfl hl.1 rfl (Nat.le_of_ble_eq_true rfl) dX11_boat_4 ⟨Nat.le_of_ble_eq_true rfl, Nat.le_of_ble_eq_true rfl⟩ ?_
  refine z_ifB_eq (tgt := 40) hx hb dX11_boat_7 (by decide) (fun c_7 => ?_) (fun c_7 => ?_)
  · exfalso; omega
  ·
    refine lv_iload_n hx hb dX11_boat_10 rfl (lv_at hl 2 rfl) ?_
    refine z_iconst hx hb dX11_boat_11 ?_
    refine z_bipush hx hb dX11_boat_12 (by decide) ?_
    refine z_pS (As := [zi xw, zi 3, zi 20]) (rest := []) hC (c_X11_isWithin l D y xw 3 20 (by first | assumption | omega)) (va_cwS 3 hts gX11_boat_X11_isWithin rfl rfl rfl (by decide +kernel) ⟨Nat.le_of_ble_eq_true rfl, Nat.le_of_ble_eq_true rfl⟩) hG va_P_nil rfl hl.1 rfl (Nat.le_of_ble_eq_true rfl) dX11_boat_14 ⟨Nat.le_of_ble_eq_true rfl, Nat.le_of_ble_eq_true rfl⟩ ?_
    refine z_ifB_eq (tgt := 40) hx hb dX11_boat_17 (by decide) (fun c_17 => ?_) (fun c_17 => ?_)
    · exfalso; omega
    ·
      refine lv_iload_n hx hb dX11_boat_20 rfl (lv_at hl 3 rfl) ?_
      refine z_iconst hx hb dX11_boat_21 ?_
      refine z_bipush hx hb dX11_boat_22 (by decide) ?_
      refine z_pS (As := [zi xt, zi 1, zi 9]) (rest := []) hC (c_X11_isWithin l D y xt 1 9 (by first | assumption | omega)) (va_cwS 3 hts gX11_boat_X11_isWithin rfl rfl rfl (by decide +kernel) ⟨Nat.le_of_ble_eq_true rfl, Nat.le_of_ble_eq_true rfl⟩) hG va_P_nil rfl hl.1 rfl (Nat.le_of_ble_eq_true rfl) dX11_boat_24 ⟨Nat.le_of_ble_eq_true rfl, Nat.le_of_ble_eq_true rfl⟩ ?_
      refine z_ifB_eq (tgt := 40) hx hb dX11_boat_27 (by decide) (fun c_27 => ?_) (fun c_27 => ?_)
      · exfalso; omega
      ·
        refine lv_iload_n hx hb dX11_boat_30 rfl (lv_at hl 1 rfl) ?_
        refine lv_iload_n hx hb dX11_boat_31 rfl (lv_at hl 2 rfl) ?_
        refine lv_iload hx hb dX11_boat_32 (lv_at hl 4 rfl) ?_
        refine z_pS (As := [zi xl, zi xw, zi xh]) (rest := []) hC (c_X11_canFold l D y xl xw xh (by first | assumption | omega)) (va_cwS 3 hts gX11_boat_X11_canFold rfl rfl rfl (by decide +kernel) ⟨Nat.le_of_ble_eq_true rfl, Nat.le_of_ble_eq_true rfl⟩) hG va_P_nil rfl hl.1 rfl (Nat.le_of_ble_eq_true rfl) dX11_boat_34 ⟨Nat.le_of_ble_eq_true rfl, Nat.le_of_ble_eq_true rfl⟩ ?_
        refine z_ifB_ne (tgt := 43) hx hb dX11_boat_37 (by decide) (fun c_37 => ?_) (fun c_37 => ?_)
        ·
          refine lv_aload_n hx hb dX11_boat_43 rfl (lv_at hl 0 rfl) ?_
          refine va_get hx hb hts hinX11 hown hK hPr 0 rfl rfl 2 (by decide) k1 (fun _ h => h) rfl dX11_boat_44 ?_
          refine lv_iload_n hx hb dX11_boat_47 rfl (lv_at hl 1 rfl) ?_
          refine lv_iload_n hx hb dX11_boat_48 rfl (lv_at hl 2 rfl) ?_
          refine lv_iload_n hx hb dX11_boat_49 rfl (lv_at hl 3 rfl) ?_
          refine lv_iload hx hb dX11_boat_50 (lv_at hl 4 rfl) ?_
          refine z_wV (As := [zi xl, zi xw, zi xt, zi xh]) (rest := []) (wc := [(f0, .inr (4, [.ref fa, zi fn])), (h0, .inr (1, [zi bl, zi bw, zi bt, zi bh, zi bd, zi bx, zi bn, .ref a1, .ref a2, .ref a3]))]) (wrest := []) hC (c_X4_launch l D y f0 fa fn fr h0 a1 a2 a3 bl bw bt bh bd bx bn xl xw xt xh (by first | assumption | omega) hfr _) (cwV 4 hts gX11_boat_X4_launch rfl rfl rfl (by decide +kernel) ⟨Nat.le_of_ble_eq_true rfl, Nat.le_of_ble_eq_true rfl⟩) hG hP hD hS hA [0, 1] [] rfl rfl (by decide) (by decide) (by decide) (hPr.sub (ws' := [(fa, .inl (y 3, 6, .inr (.inr (.inr (.inr fr)))))]) [1] rfl) (fun k q hk z => ro_sub (wr' := [(fa, .inl (y 3, 6, .inr (.inr (.inr (.inr fr)))))]) hN [1] rfl k q hk (va_free (wc := [(f0, .inr (4, [.ref fa, zi fn])), (h0, .inr (1, [zi bl, zi bw, zi bt, zi bh, zi bd, zi bx, zi bn, .ref a1, .ref a2, .ref a3]))]) hD hS hA [0, 1] rfl q.1 z)) 0 rfl rfl rfl hl.1 rfl (Nat.le_of_ble_eq_true rfl) dX11_boat_52 ⟨Nat.le_of_ble_eq_true rfl, Nat.le_of_ble_eq_true rfl⟩ (fun u9 H locs hw_1 hP hD hS => ?_)
          have hw_1 : True := hw_1
          have hP : va_P D vwCl [(f0, .inr (4, [.ref fa, zi (fn + 1)])), (h0, .inr (1, [zi xl, zi xw, zi xt, zi xh, zi 10, zi 0, zi 0, .ref a1, .ref a2, .ref a3]))] H := hP
          have hD : va_D A [(f0, .inr (4, [.ref fa, zi (fn + 1)])), (h0, .inr (1, [zi xl, zi xw, zi xt, zi xh, zi 10, zi 0, zi 0, .ref a1, .ref a2, .ref a3]))] := hD
          have hPr := ro_now hR0 hN hS
          exact z_iretW hx hb hr hlocks () (rfl) (trivial) (hP.sub [0, 1] rfl) (hD.sub [0, 1] (by decide) rfl) hS dX11_boat_55
        · exfalso; omega
set_option maxHeartbeats 8000000 in
set_option maxRecDepth 100000 in
theorem c_X11_wax_no (l : Launch) (D : va_G) (y : Nat → ClassId) (x0 : Nat) (t0 : Nat) (g0 : Nat) (f0 : Nat) (r0 : Nat) (sl0 : Nat) (n0 : Nat) (d0 : Nat) (w0 : Nat) (c0 : Nat) (fa : Nat) (fn : Int) (fr : Nat → Option Nat) (qb : Int) (dr : Int) (wx : Int) (hqb : rI qb ∧ 0 ≤ fn ∧ fn ≤ 6 ∧ ¬ (0 ≤ qb ∧ qb < fn)) : Met l yX11_wax wsX11_wax ({ frames := 1, cells := 0, slots := 0, locals := 21 } : Room) (pPc D y [(x0, .inr (10, [.ref t0, .ref g0, .ref f0, .ref r0, .ref sl0, .ref n0, .ref d0, .ref w0, .ref c0])), (f0, .inr (4, [.ref fa, zi fn])), (fa, .inl (y 3, 6, .inr (.inr (.inr (.inr fr)))))] [.ref x0, zi qb, zi dr, zi wx]) (qV (zi (-1))) 0 0 (fun _ => False) := by
  refine P_of (own := RX11) (cc := cX11_wax) (maxL := 6) (ret := some .int) (by decide) rfl rfl (Nat.le_of_ble_eq_true rfl) (fun p e s m below meth c ls hx hb hr hC hlocks hPr hG hl => ?_)
  have hC0 := hC
  obtain ⟨-, -, hml, hown, hts⟩ := hC0
  have hK := hG.1
  have hinX11 : ∀ w ∈ wsX110, w ∈ wsX11_wax := fun _ h => List.mem_cons_of_mem _ (List.mem_append_left _ (List.mem_append_left _ (List.mem_append_right _ h)))
  have k1 := hts (.fieldLink RX11 26 "BoatsOfPaper" "theFleet" "LBoatsOfPaper$Fleet;") (List.mem_of_getElem? (i := 1) rfl)
  have hl : lv_has ls 6 [(0, .ref x0), (1, zi qb), (2, zi dr), (3, zi wx)] := hl
  refine lv_aload_n hx hb dX11_wax_0 rfl (lv_at hl 0 rfl) ?_
  refine va_get hx hb hts hinX11 hown hK hPr 0 rfl rfl 2 (by decide) k1 (fun _ h => h) rfl dX11_wax_1 ?_
  refine lv_iload_n hx hb dX11_wax_4 rfl (lv_at hl 1 rfl) ?_
  refine z_pV (As := [zi qb]) (rest := []) hC (c_X4_find_no l D y f0 fa fn fr qb (by first | assumption | omega)) (cwV 1 hts gX11_wax_X4_find rfl rfl rfl (by decide +kernel) ⟨Nat.le_of_ble_eq_true rfl, Nat.le_of_ble_eq_true rfl⟩) hG (hPr.sub (ws' := [(f0, .inr (4, [.ref fa, zi fn])), (fa, .inl (y 3, 6, .inr (.inr (.inr (.inr fr)))))]) [1, 2] rfl) 0 rfl rfl rfl hl.1 rfl (Nat.le_of_ble_eq_true rfl) dX11_wax_5 ⟨Nat.le_of_ble_eq_true rfl, Nat.le_of_ble_eq_true rfl⟩ ?_
  refine lv_astoreN (lv' := [(4, .null), (0, .ref x0), (1, zi qb), (2, zi dr), (3, zi wx)]) hx hb dX11_wax_8 hl (by decide) rfl (fun ls hl => ?_)
  refine lv_aloadN hx hb dX11_wax_10 (lv_at hl 0 rfl) ?_
  refine lv_ifnonnullN hx hb dX11_wax_12 ?_
  refine z_iconst hx hb dX11_wax_15 ?_
  exact z_iret0 hx hb hr hlocks (rfl) dX11_wax_16
set_option maxHeartbeats 8000000 in
set_option maxRecDepth 100000 in
theorem c_X11_wax_out (l : Launch) (D : va_G) (y : Nat → ClassId) (x0 : Nat) (t0 : Nat) (g0 : Nat) (f0 : Nat) (r0 : Nat) (sl0 : Nat) (n0 : Nat) (d0 : Nat) (w0 : Nat) (c0 : Nat) (fa : Nat) (fn : Int) (fr : Nat → Option Nat) (qb : Int) (h0 : Nat) (a1 : Nat) (a2 : Nat) (a3 : Nat) (bl : Int) (bw : Int) (bt : Int) (bh : Int) (bd : Int) (bx : Int) (bn : Int) (CI : Int → Int) (CJ : Int → Int) (CW : Int → Int) (dr : Int) (wx : Int) (hqb : 0 ≤ fn ∧ fn ≤ 6 ∧ 0 ≤ qb ∧ qb < fn) (hfr : fr qb.toNat = some h0) (hB : bOK bl bw bt bh bd bx bn CI CJ CW) (hr9 : rI dr ∧ rI wx) (hq : ¬ ((0 ≤ dr ∧ dr ≤ 99) ∧ 0 ≤ wx ∧ wx ≤ 9)) : Met l yX11_wax wsX11_wax ({ frames := 1, cells := 0, slots := 0, locals := 22 } : Room) (pPc D y [(x0, .inr (10, [.ref t0, .ref g0, .ref f0, .ref r0, .ref sl0, .ref n0, .ref d0, .ref w0, .ref c0])), (f0, .inr (4, [.ref fa, zi fn])), (fa, .inl (y 3, 6, .inr (.inr (.inr (.inr fr))))), (h0, .inr (1, [zi bl, zi bw, zi bt, zi bh, zi bd, zi bx, zi bn, .ref a1, .ref a2, .ref a3])), (a1, .inl (y 0, 8, .inl (cI CI))), (a2, .inl (y 0, 8, .inl (cI CJ))), (a3, .inl (y 0, 8, .inl (cI CW)))] [.ref x0, zi qb, zi dr, zi wx]) (qV (zi (-2))) 0 0 (fun _ => False) := by
  refine P_of (own := RX11) (cc := cX11_wax) (maxL := 6) (ret := some .int) (by decide) rfl rfl (Nat.le_of_ble_eq_true rfl) (fun p e s m below meth c ls hx hb hr hC hlocks hPr hG hl => ?_)
  have hC0 := hC
  obtain ⟨-, -, hml, hown, hts⟩ := hC0
  have hK := hG.1
  have hinX11 : ∀ w ∈ wsX110, w ∈ wsX11_wax := fun _ h => List.mem_cons_of_mem _ (List.mem_append_left _ (List.mem_append_left _ (List.mem_append_right _ h)))
  have k1 := hts (.fieldLink RX11 26 "BoatsOfPaper" "theFleet" "LBoatsOfPaper$Fleet;") (List.mem_of_getElem? (i := 1) rfl)
  have hl : lv_has ls 6 [(0, .ref x0), (1, zi qb), (2, zi dr), (3, zi wx)] := hl
  obtain ⟨q1, q2, q3, q4, q5, q6, q7, q8, q9, qc⟩ := id hB
  refine lv_aload_n hx hb dX11_wax_0 rfl (lv_at hl 0 rfl) ?_
  refine va_get hx hb hts hinX11 hown hK hPr 0 rfl rfl 2 (by decide) k1 (fun _ h => h) rfl dX11_wax_1 ?_
  refine lv_iload_n hx hb dX11_wax_4 rfl (lv_at hl 1 rfl) ?_
  refine z_pV (As := [zi qb]) (rest := []) hC (c_X4_find l D y f0 fa fn fr qb h0 (by first | assumption | omega) hfr) (cwV 1 hts gX11_wax_X4_find rfl rfl rfl (by decide +kernel) ⟨Nat.le_of_ble_eq_true rfl, Nat.le_of_ble_eq_true rfl⟩) hG (hPr.sub (ws' := [(f0, .inr (4, [.ref fa, zi fn])), (fa, .inl (y 3, 6, .inr (.inr (.inr (.inr fr)))))]) [1, 2] rfl) 0 rfl rfl rfl hl.1 rfl (Nat.le_of_ble_eq_true rfl) dX11_wax_5 ⟨Nat.le_of_ble_eq_true rfl, Nat.le_of_ble_eq_true rfl⟩ ?_
  refine lv_astore (lv' := [(4, .ref h0), (0, .ref x0), (1, zi qb), (2, zi dr), (3, zi wx)]) hx hb dX11_wax_8 hl (by decide) rfl (fun ls hl => ?_)
  refine lv_aload hx hb dX11_wax_10 (lv_at hl 0 rfl) ?_
  refine lv_ifnonnull (tgt := 17) hx hb dX11_wax_12 (by decide) ?_
  refine lv_iload_n hx hb dX11_wax_17 rfl (lv_at hl 3 rfl) ?_
  refine z_iconst hx hb dX11_wax_18 ?_
  refine z_bipush hx hb dX11_wax_19 (by decide) ?_
  refine z_pS (As := [zi dr, zi 0, zi 99]) (rest := []) hC (c_X11_isWithin l D y dr 0 99 (by first | assumption | omega)) (va_cwS 3 hts gX11_wax_X11_isWithin rfl rfl rfl (by decide +kernel) ⟨Nat.le_of_ble_eq_true rfl, Nat.le_of_ble_eq_true rfl⟩) hG va_P_nil rfl hl.1 rfl (Nat.le_of_ble_eq_true rfl) dX11_wax_21 ⟨Nat.le_of_ble_eq_true rfl, Nat.le_of_ble_eq_true rfl⟩ ?_
  refine z_ifB_eq (tgt := 37) hx hb dX11_wax_24 (by decide) (fun c_24 => ?_) (fun c_24 => ?_)
  ·
    refine z_bipush hx hb dX11_wax_37 (by decide) ?_
    exact z_iret0 hx hb hr hlocks (rfl) dX11_wax_39
  ·
    refine lv_iload_n hx hb dX11_wax_27 rfl (lv_at hl 4 rfl) ?_
    refine z_iconst hx hb dX11_wax_28 ?_
    refine z_bipush hx hb dX11_wax_29 (by decide) ?_
    refine z_pS (As := [zi wx, zi 0, zi 9]) (rest := []) hC (c_X11_isWithin l D y wx 0 9 (by first | assumption | omega)) (va_cwS 3 hts gX11_wax_X11_isWithin rfl rfl rfl (by decide +kernel) ⟨Nat.le_of_ble_eq_true rfl, Nat.le_of_ble_eq_true rfl⟩) hG va_P_nil rfl hl.1 rfl (Nat.le_of_ble_eq_true rfl) dX11_wax_31 ⟨Nat.le_of_ble_eq_true rfl, Nat.le_of_ble_eq_true rfl⟩ ?_
    refine z_ifB_ne (tgt := 40) hx hb dX11_wax_34 (by decide) (fun c_34 => ?_) (fun c_34 => ?_)
    · exfalso; omega
    ·
      refine z_bipush hx hb dX11_wax_37 (by decide) ?_
      exact z_iret0 hx hb hr hlocks (rfl) dX11_wax_39
set_option maxHeartbeats 8000000 in
set_option maxRecDepth 100000 in
theorem c_X11_wax (l : Launch) (D : va_G) (y : Nat → ClassId) (x0 : Nat) (t0 : Nat) (g0 : Nat) (f0 : Nat) (r0 : Nat) (sl0 : Nat) (n0 : Nat) (d0 : Nat) (w0 : Nat) (c0 : Nat) (fa : Nat) (fn : Int) (fr : Nat → Option Nat) (qb : Int) (h0 : Nat) (a1 : Nat) (a2 : Nat) (a3 : Nat) (bl : Int) (bw : Int) (bt : Int) (bh : Int) (bd : Int) (bx : Int) (bn : Int) (CI : Int → Int) (CJ : Int → Int) (CW : Int → Int) (dr : Int) (wx : Int) (hqb : 0 ≤ fn ∧ fn ≤ 6 ∧ 0 ≤ qb ∧ qb < fn) (hfr : fr qb.toNat = some h0) (hq : (0 ≤ dr ∧ dr ≤ 99) ∧ 0 ≤ wx ∧ wx ≤ 9) (sz : Nat) : Met l yX11_wax wsX11_wax ({ frames := 1, cells := 0, slots := 0, locals := 22 } : Room) (wPc D y [(x0, .inr (10, [.ref t0, .ref g0, .ref f0, .ref r0, .ref sl0, .ref n0, .ref d0, .ref w0, .ref c0])), (f0, .inr (4, [.ref fa, zi fn])), (fa, .inl (y 3, 6, .inr (.inr (.inr (.inr fr)))))] [(h0, .inr (1, [zi bl, zi bw, zi bt, zi bh, zi bd, zi bx, zi bn, .ref a1, .ref a2, .ref a3]))] sz [.ref x0, zi qb, zi dr, zi wx]) (wQ D (fun (_ : Unit) => some (zi bx)) (fun (_ : Unit) => True) (fun (_ : Unit) => [(h0, .inr (1, [zi bl, zi bw, zi bt, zi bh, zi dr, zi wx, zi bn, .ref a1, .ref a2, .ref a3]))]) (va_A [(h0, .inr (1, [zi bl, zi bw, zi bt, zi bh, zi bd, zi bx, zi bn, .ref a1, .ref a2, .ref a3]))] sz)) 0 0 (va_A [(h0, .inr (1, [zi bl, zi bw, zi bt, zi bh, zi bd, zi bx, zi bn, .ref a1, .ref a2, .ref a3]))] sz) := by
  refine W_of (own := RX11) (cc := cX11_wax) (maxL := 6) (ret := some .int) (by decide) rfl rfl (Nat.le_of_ble_eq_true rfl) (fun p e s m below meth c ls A hx hb hr hC hlocks hin0 hR0 hN hP hD hA hG hl => ?_)
  have hC0 := hC
  obtain ⟨-, -, hml, hown, hts⟩ := hC0
  have hK := hG.1
  have hS : va_S A s.heap s.heap [] := va_S.rf
  have hPr := hR0
  have hinX11 : ∀ w ∈ wsX110, w ∈ wsX11_wax := fun _ h => List.mem_cons_of_mem _ (List.mem_append_left _ (List.mem_append_left _ (List.mem_append_right _ h)))
  have hinX1 : ∀ w ∈ wsX10, w ∈ wsX11_wax := fun _ h => List.mem_cons_of_mem _ (List.mem_append_left _ (List.mem_append_right _ h))
  have k1 := hts (.fieldLink RX11 26 "BoatsOfPaper" "theFleet" "LBoatsOfPaper$Fleet;") (List.mem_of_getElem? (i := 1) rfl)
  have k2 := hts (.fieldLink RX11 123 "BoatsOfPaper$Boat" "waxed" "I") (List.mem_of_getElem? (i := 2) rfl)
  have k3 := hts (.fieldLink RX11 128 "BoatsOfPaper$Boat" "drinks" "I") (List.mem_of_getElem? (i := 3) rfl)
  have hl : lv_has ls 6 [(0, .ref x0), (1, zi qb), (2, zi dr), (3, zi wx)] := hl
  refine lv_aload_n hx hb dX11_wax_0 rfl (lv_at hl 0 rfl) ?_
  refine va_get hx hb hts hinX11 hown hK hPr 0 rfl rfl 2 (by decide) k1 (fun _ h => h) rfl dX11_wax_1 ?_
  refine lv_iload_n hx hb dX11_wax_4 rfl (lv_at hl 1 rfl) ?_
  refine z_pV (As := [zi qb]) (rest := []) hC (c_X4_find l D y f0 fa fn fr qb h0 (by first | assumption | omega) hfr) (cwV 1 hts gX11_wax_X4_find rfl rfl rfl (by decide +kernel) ⟨Nat.le_of_ble_eq_true rfl, Nat.le_of_ble_eq_true rfl⟩) hG (hPr.sub (ws' := [(f0, .inr (4, [.ref fa, zi fn])), (fa, .inl (y 3, 6, .inr (.inr (.inr (.inr fr)))))]) [1, 2] rfl) 0 rfl rfl rfl hl.1 rfl (Nat.le_of_ble_eq_true rfl) dX11_wax_5 ⟨Nat.le_of_ble_eq_true rfl, Nat.le_of_ble_eq_true rfl⟩ ?_
  refine lv_astore (lv' := [(4, .ref h0), (0, .ref x0), (1, zi qb), (2, zi dr), (3, zi wx)]) hx hb dX11_wax_8 hl (by decide) rfl (fun ls hl => ?_)
  refine lv_aload hx hb dX11_wax_10 (lv_at hl 0 rfl) ?_
  refine lv_ifnonnull (tgt := 17) hx hb dX11_wax_12 (by decide) ?_
  refine lv_iload_n hx hb dX11_wax_17 rfl (lv_at hl 3 rfl) ?_
  refine z_iconst hx hb dX11_wax_18 ?_
  refine z_bipush hx hb dX11_wax_19 (by decide) ?_
  refine z_pS (As := [zi dr, zi 0, zi 99]) (rest := []) hC (c_X11_isWithin l D y dr 0 99 (by first | assumption | omega)) (va_cwS 3 hts gX11_wax_X11_isWithin rfl rfl rfl (by decide +kernel) ⟨Nat.le_of_ble_eq_true rfl, Nat.le_of_ble_eq_true rfl⟩) hG va_P_nil rfl hl.1 rfl (Nat.le_of_ble_eq_true rfl) dX11_wax_21 ⟨Nat.le_of_ble_eq_true rfl, Nat.le_of_ble_eq_true rfl⟩ ?_
  refine z_ifB_eq (tgt := 37) hx hb dX11_wax_24 (by decide) (fun c_24 => ?_) (fun c_24 => ?_)
  · exfalso; omega
  ·
    refine lv_iload_n hx hb dX11_wax_27 rfl (lv_at hl 4 rfl) ?_
    refine z_iconst hx hb dX11_wax_28 ?_
    refine z_bipush hx hb dX11_wax_29 (by decide) ?_
    refine z_pS (As := [zi wx, zi 0, zi 9]) (rest := []) hC (c_X11_isWithin l D y wx 0 9 (by first | assumption | omega)) (va_cwS 3 hts gX11_wax_X11_isWithin rfl rfl rfl (by decide +kernel) ⟨Nat.le_of_ble_eq_true rfl, Nat.le_of_ble_eq_true rfl⟩) hG va_P_nil rfl hl.1 rfl (Nat.le_of_ble_eq_true rfl) dX11_wax_31 ⟨Nat.le_of_ble_eq_true rfl, Nat.le_of_ble_eq_true rfl⟩ ?_
    refine z_ifB_ne (tgt := 40) hx hb dX11_wax_34 (by decide) (fun c_34 => ?_) (fun c_34 => ?_)
    ·
      refine lv_aload hx hb dX11_wax_40 (lv_at hl 0 rfl) ?_
      refine va_get hx hb hts hinX1 hown hK hP 0 rfl rfl 5 (by decide) k2 (fun _ h => h) rfl dX11_wax_42 ?_
      refine lv_istore (lv' := [(5, zi bx), (4, .ref h0), (0, .ref x0), (1, zi qb), (2, zi dr), (3, zi wx)]) hx hb dX11_wax_45 hl (by decide) rfl (fun ls hl => ?_)
      refine lv_aload hx hb dX11_wax_47 (lv_at hl 1 rfl) ?_
      refine lv_iload_n hx hb dX11_wax_49 rfl (lv_at hl 4 rfl) ?_
      refine va_put hx hb hts hinX1 tyX1 tyX1_ok nmX1 hown hK hP hD hS 0 rfl rfl 4 (by decide) k3 (fun _ h => h) rfl (tyX1_ok 4 (by decide)) rfl rfl (Nat.le_of_ble_eq_true rfl) dX11_wax_50 (fun H locs hP hD hS => ?_)
      have hP : va_P D vwCl [(h0, .inr (1, [zi bl, zi bw, zi bt, zi bh, zi dr, zi bx, zi bn, .ref a1, .ref a2, .ref a3]))] H := hP
      have hD : va_D A [(h0, .inr (1, [zi bl, zi bw, zi bt, zi bh, zi dr, zi bx, zi bn, .ref a1, .ref a2, .ref a3]))] := hD
      have hPr := ro_now hR0 hN hS
      refine lv_aload hx hb dX11_wax_53 (lv_at hl 1 rfl) ?_
      refine lv_iload_n hx hb dX11_wax_55 rfl (lv_at hl 5 rfl) ?_
      refine va_put hx hb hts hinX1 tyX1 tyX1_ok nmX1 hown hK hP hD hS 0 rfl rfl 5 (by decide) k2 (fun _ h => h) rfl (tyX1_ok 5 (by decide)) rfl rfl (Nat.le_of_ble_eq_true rfl) dX11_wax_56 (fun H locs hP hD hS => ?_)
      have hP : va_P D vwCl [(h0, .inr (1, [zi bl, zi bw, zi bt, zi bh, zi dr, zi wx, zi bn, .ref a1, .ref a2, .ref a3]))] H := hP
      have hD : va_D A [(h0, .inr (1, [zi bl, zi bw, zi bt, zi bh, zi dr, zi wx, zi bn, .ref a1, .ref a2, .ref a3]))] := hD
      have hPr := ro_now hR0 hN hS
      refine lv_iload hx hb dX11_wax_59 (lv_at hl 0 rfl) ?_
      exact z_iretW hx hb hr hlocks () (rfl) (trivial) (hP.sub [0] rfl) (hD.sub [0] (by decide) rfl) hS dX11_wax_61
    · exfalso; omega
set_option maxHeartbeats 8000000 in
set_option maxRecDepth 100000 in
theorem c_X11_coin_no (l : Launch) (D : va_G) (y : Nat → ClassId) (x0 : Nat) (t0 : Nat) (g0 : Nat) (f0 : Nat) (r0 : Nat) (sl0 : Nat) (n0 : Nat) (d0 : Nat) (w0 : Nat) (c0 : Nat) (fa : Nat) (fn : Int) (fr : Nat → Option Nat) (qb : Int) (ci : Int) (cj : Int) (cw : Int) (hqb : rI qb ∧ 0 ≤ fn ∧ fn ≤ 6 ∧ ¬ (0 ≤ qb ∧ qb < fn)) : Met l yX11_coin wsX11_coin ({ frames := 1, cells := 0, slots := 0, locals := 21 } : Room) (pPc D y [(x0, .inr (10, [.ref t0, .ref g0, .ref f0, .ref r0, .ref sl0, .ref n0, .ref d0, .ref w0, .ref c0])), (f0, .inr (4, [.ref fa, zi fn])), (fa, .inl (y 3, 6, .inr (.inr (.inr (.inr fr)))))] [.ref x0, zi qb, zi ci, zi cj, zi cw]) (qV (zi (-1))) 0 0 (fun _ => False) := by
  refine P_of (own := RX11) (cc := cX11_coin) (maxL := 6) (ret := some .int) (by decide) rfl rfl (Nat.le_of_ble_eq_true rfl) (fun p e s m below meth c ls hx hb hr hC hlocks hPr hG hl => ?_)
  have hC0 := hC
  obtain ⟨-, -, hml, hown, hts⟩ := hC0
  have hK := hG.1
  have hinX11 : ∀ w ∈ wsX110, w ∈ wsX11_coin := fun _ h => List.mem_cons_of_mem _ (List.mem_append_left _ (List.mem_append_left _ (List.mem_append_right _ h)))
  have k1 := hts (.fieldLink RX11 26 "BoatsOfPaper" "theFleet" "LBoatsOfPaper$Fleet;") (List.mem_of_getElem? (i := 1) rfl)
  have hl : lv_has ls 6 [(0, .ref x0), (1, zi qb), (2, zi ci), (3, zi cj), (4, zi cw)] := hl
  refine lv_aload_n hx hb dX11_coin_0 rfl (lv_at hl 0 rfl) ?_
  refine va_get hx hb hts hinX11 hown hK hPr 0 rfl rfl 2 (by decide) k1 (fun _ h => h) rfl dX11_coin_1 ?_
  refine lv_iload_n hx hb dX11_coin_4 rfl (lv_at hl 1 rfl) ?_
  refine z_pV (As := [zi qb]) (rest := []) hC (c_X4_find_no l D y f0 fa fn fr qb (by first | assumption | omega)) (cwV 1 hts gX11_coin_X4_find rfl rfl rfl (by decide +kernel) ⟨Nat.le_of_ble_eq_true rfl, Nat.le_of_ble_eq_true rfl⟩) hG (hPr.sub (ws' := [(f0, .inr (4, [.ref fa, zi fn])), (fa, .inl (y 3, 6, .inr (.inr (.inr (.inr fr)))))]) [1, 2] rfl) 0 rfl rfl rfl hl.1 rfl (Nat.le_of_ble_eq_true rfl) dX11_coin_5 ⟨Nat.le_of_ble_eq_true rfl, Nat.le_of_ble_eq_true rfl⟩ ?_
  refine lv_astoreN (lv' := [(5, .null), (0, .ref x0), (1, zi qb), (2, zi ci), (3, zi cj), (4, zi cw)]) hx hb dX11_coin_8 hl (by decide) rfl (fun ls hl => ?_)
  refine lv_aloadN hx hb dX11_coin_10 (lv_at hl 0 rfl) ?_
  refine lv_ifnonnullN hx hb dX11_coin_12 ?_
  refine z_iconst hx hb dX11_coin_15 ?_
  exact z_iret0 hx hb hr hlocks (rfl) dX11_coin_16
set_option maxHeartbeats 8000000 in
set_option maxRecDepth 100000 in
theorem c_X11_coin_out (l : Launch) (D : va_G) (y : Nat → ClassId) (x0 : Nat) (t0 : Nat) (g0 : Nat) (f0 : Nat) (r0 : Nat) (sl0 : Nat) (n0 : Nat) (d0 : Nat) (w0 : Nat) (c0 : Nat) (fa : Nat) (fn : Int) (fr : Nat → Option Nat) (qb : Int) (h0 : Nat) (a1 : Nat) (a2 : Nat) (a3 : Nat) (bl : Int) (bw : Int) (bt : Int) (bh : Int) (bd : Int) (bx : Int) (bn : Int) (CI : Int → Int) (CJ : Int → Int) (CW : Int → Int) (ci : Int) (cj : Int) (cw : Int) (hqb : 0 ≤ fn ∧ fn ≤ 6 ∧ 0 ≤ qb ∧ qb < fn) (hfr : fr qb.toNat = some h0) (hB : bOK bl bw bt bh bd bx bn CI CJ CW) (hr9 : rI ci ∧ rI cj ∧ rI cw) (hq : ¬ ((0 ≤ ci ∧ ci < (bl - 2 * bh)) ∧ (0 ≤ cj ∧ cj < (bw - 2 * bh)) ∧ 1 ≤ cw ∧ cw ≤ 99)) : Met l yX11_coin wsX11_coin ({ frames := 1, cells := 0, slots := 0, locals := 22 } : Room) (pPc D y [(x0, .inr (10, [.ref t0, .ref g0, .ref f0, .ref r0, .ref sl0, .ref n0, .ref d0, .ref w0, .ref c0])), (f0, .inr (4, [.ref fa, zi fn])), (fa, .inl (y 3, 6, .inr (.inr (.inr (.inr fr))))), (h0, .inr (1, [zi bl, zi bw, zi bt, zi bh, zi bd, zi bx, zi bn, .ref a1, .ref a2, .ref a3])), (a1, .inl (y 0, 8, .inl (cI CI))), (a2, .inl (y 0, 8, .inl (cI CJ))), (a3, .inl (y 0, 8, .inl (cI CW)))] [.ref x0, zi qb, zi ci, zi cj, zi cw]) (qV (zi (-2))) 0 0 (fun _ => False) := by
  refine P_of (own := RX11) (cc := cX11_coin) (maxL := 6) (ret := some .int) (by decide) rfl rfl (Nat.le_of_ble_eq_true rfl) (fun p e s m below meth c ls hx hb hr hC hlocks hPr hG hl => ?_)
  have hC0 := hC
  obtain ⟨-, -, hml, hown, hts⟩ := hC0
  have hK := hG.1
  have hinX11 : ∀ w ∈ wsX110, w ∈ wsX11_coin := fun _ h => List.mem_cons_of_mem _ (List.mem_append_left _ (List.mem_append_left _ (List.mem_append_right _ h)))
  have k1 := hts (.fieldLink RX11 26 "BoatsOfPaper" "theFleet" "LBoatsOfPaper$Fleet;") (List.mem_of_getElem? (i := 1) rfl)
  have hl : lv_has ls 6 [(0, .ref x0), (1, zi qb), (2, zi ci), (3, zi cj), (4, zi cw)] := hl
  obtain ⟨q1, q2, q3, q4, q5, q6, q7, q8, q9, qc⟩ := id hB
  refine lv_aload_n hx hb dX11_coin_0 rfl (lv_at hl 0 rfl) ?_
  refine va_get hx hb hts hinX11 hown hK hPr 0 rfl rfl 2 (by decide) k1 (fun _ h => h) rfl dX11_coin_1 ?_
  refine lv_iload_n hx hb dX11_coin_4 rfl (lv_at hl 1 rfl) ?_
  refine z_pV (As := [zi qb]) (rest := []) hC (c_X4_find l D y f0 fa fn fr qb h0 (by first | assumption | omega) hfr) (cwV 1 hts gX11_coin_X4_find rfl rfl rfl (by decide +kernel) ⟨Nat.le_of_ble_eq_true rfl, Nat.le_of_ble_eq_true rfl⟩) hG (hPr.sub (ws' := [(f0, .inr (4, [.ref fa, zi fn])), (fa, .inl (y 3, 6, .inr (.inr (.inr (.inr fr)))))]) [1, 2] rfl) 0 rfl rfl rfl hl.1 rfl (Nat.le_of_ble_eq_true rfl) dX11_coin_5 ⟨Nat.le_of_ble_eq_true rfl, Nat.le_of_ble_eq_true rfl⟩ ?_
  refine lv_astore (lv' := [(5, .ref h0), (0, .ref x0), (1, zi qb), (2, zi ci), (3, zi cj), (4, zi cw)]) hx hb dX11_coin_8 hl (by decide) rfl (fun ls hl => ?_)
  refine lv_aload hx hb dX11_coin_10 (lv_at hl 0 rfl) ?_
  refine lv_ifnonnull (tgt := 17) hx hb dX11_coin_12 (by decide) ?_
  refine lv_iload_n hx hb dX11_coin_17 rfl (lv_at hl 3 rfl) ?_
  refine z_iconst hx hb dX11_coin_18 ?_
  refine lv_aload hx hb dX11_coin_19 (lv_at hl 0 rfl) ?_
  refine z_pV (As := []) (rest := [zi 0, zi ci]) hC (c_X1_a l D y h0 a1 a2 a3 bl bw bt bh bd bx bn CI CJ CW (by first | assumption | omega)) (cwV 0 hts gX11_coin_X1_a rfl rfl rfl (by decide +kernel) ⟨Nat.le_of_ble_eq_true rfl, Nat.le_of_ble_eq_true rfl⟩) hG (hPr.sub (ws' := [(h0, .inr (1, [zi bl, zi bw, zi bt, zi bh, zi bd, zi bx, zi bn, .ref a1, .ref a2, .ref a3])), (a1, .inl (y 0, 8, .inl (cI CI))), (a2, .inl (y 0, 8, .inl (cI CJ))), (a3, .inl (y 0, 8, .inl (cI CW)))]) [3, 4, 5, 6] rfl) 0 rfl rfl rfl hl.1 rfl (Nat.le_of_ble_eq_true rfl) dX11_coin_21 ⟨Nat.le_of_ble_eq_true rfl, Nat.le_of_ble_eq_true rfl⟩ ?_
  refine z_iconst hx hb dX11_coin_24 ?_
  refine z_isub hx hb dX11_coin_25 ?_
  refine z_pS (As := [zi ci, zi 0, zi ((bl - 2 * bh) - 1)]) (rest := []) hC (c_X11_isWithin l D y ci 0 ((bl - 2 * bh) - 1) (by first | assumption | omega)) (va_cwS 3 hts gX11_coin_X11_isWithin rfl rfl rfl (by decide +kernel) ⟨Nat.le_of_ble_eq_true rfl, Nat.le_of_ble_eq_true rfl⟩) hG va_P_nil rfl hl.1 rfl (Nat.le_of_ble_eq_true rfl) dX11_coin_26 ⟨Nat.le_of_ble_eq_true rfl, Nat.le_of_ble_eq_true rfl⟩ ?_
  refine z_ifB_eq (tgt := 58) hx hb dX11_coin_29 (by decide) (fun c_29 => ?_) (fun c_29 => ?_)
  ·
    refine z_bipush hx hb dX11_coin_58 (by decide) ?_
    exact z_iret0 hx hb hr hlocks (rfl) dX11_coin_60
  ·
    refine lv_iload_n hx hb dX11_coin_32 rfl (lv_at hl 4 rfl) ?_
    refine z_iconst hx hb dX11_coin_33 ?_
    refine lv_aload hx hb dX11_coin_34 (lv_at hl 0 rfl) ?_
    refine z_pV (As := []) (rest := [zi 0, zi cj]) hC (c_X1_b l D y h0 a1 a2 a3 bl bw bt bh bd bx bn CI CJ CW (by first | assumption | omega)) (cwV 0 hts gX11_coin_X1_b rfl rfl rfl (by decide +kernel) ⟨Nat.le_of_ble_eq_true rfl, Nat.le_of_ble_eq_true rfl⟩) hG (hPr.sub (ws' := [(h0, .inr (1, [zi bl, zi bw, zi bt, zi bh, zi bd, zi bx, zi bn, .ref a1, .ref a2, .ref a3])), (a1, .inl (y 0, 8, .inl (cI CI))), (a2, .inl (y 0, 8, .inl (cI CJ))), (a3, .inl (y 0, 8, .inl (cI CW)))]) [3, 4, 5, 6] rfl) 0 rfl rfl rfl hl.1 rfl (Nat.le_of_ble_eq_true rfl) dX11_coin_36 ⟨Nat.le_of_ble_eq_true rfl, Nat.le_of_ble_eq_true rfl⟩ ?_
    refine z_iconst hx hb dX11_coin_39 ?_
    refine z_isub hx hb dX11_coin_40 ?_
    refine z_pS (As := [zi cj, zi 0, zi ((bw - 2 * bh) - 1)]) (rest := []) hC (c_X11_isWithin l D y cj 0 ((bw - 2 * bh) - 1) (by first | assumption | omega)) (va_cwS 3 hts gX11_coin_X11_isWithin rfl rfl rfl (by decide +kernel) ⟨Nat.le_of_ble_eq_true rfl, Nat.le_of_ble_eq_true rfl⟩) hG va_P_nil rfl hl.1 rfl (Nat.le_of_ble_eq_true rfl) dX11_coin_41 ⟨Nat.le_of_ble_eq_true rfl, Nat.le_of_ble_eq_true rfl⟩ ?_
    refine z_ifB_eq (tgt := 58) hx hb dX11_coin_44 (by decide) (fun c_44 => ?_) (fun c_44 => ?_)
    ·
      refine z_bipush hx hb dX11_coin_58 (by decide) ?_
      exact z_iret0 hx hb hr hlocks (rfl) dX11_coin_60
    ·
      refine lv_iload hx hb dX11_coin_47 (lv_at hl 5 rfl) ?_
      refine z_iconst hx hb dX11_coin_49 ?_
      refine z_bipush hx hb dX11_coin_50 (by decide) ?_
      refine z_pS (As := [zi cw, zi 1, zi 99]) (rest := []) hC (c_X11_isWithin l D y cw 1 99 (by first | assumption | omega)) (va_cwS 3 hts gX11_coin_X11_isWithin rfl rfl rfl (by decide +kernel) ⟨Nat.le_of_ble_eq_true rfl, Nat.le_of_ble_eq_true rfl⟩) hG va_P_nil rfl hl.1 rfl (Nat.le_of_ble_eq_true rfl) dX11_coin_52 ⟨Nat.le_of_ble_eq_true rfl, Nat.le_of_ble_eq_true rfl⟩ ?_
      refine z_ifB_ne (tgt := 61) hx hb dX11_coin_55 (by decide) (fun c_55 => ?_) (fun c_55 => ?_)
      · exfalso; omega
      ·
        refine z_bipush hx hb dX11_coin_58 (by decide) ?_
        exact z_iret0 hx hb hr hlocks (rfl) dX11_coin_60
set_option maxHeartbeats 8000000 in
set_option maxRecDepth 100000 in
theorem c_X11_coin_full (l : Launch) (D : va_G) (y : Nat → ClassId) (x0 : Nat) (t0 : Nat) (g0 : Nat) (f0 : Nat) (r0 : Nat) (sl0 : Nat) (n0 : Nat) (d0 : Nat) (w0 : Nat) (c0 : Nat) (fa : Nat) (fn : Int) (fr : Nat → Option Nat) (qb : Int) (h0 : Nat) (a1 : Nat) (a2 : Nat) (a3 : Nat) (bl : Int) (bw : Int) (bt : Int) (bh : Int) (bd : Int) (bx : Int) (bn : Int) (CI : Int → Int) (CJ : Int → Int) (CW : Int → Int) (ci : Int) (cj : Int) (cw : Int) (hqb : 0 ≤ fn ∧ fn ≤ 6 ∧ 0 ≤ qb ∧ qb < fn) (hfr : fr qb.toNat = some h0) (hB : bOK bl bw bt bh bd bx bn CI CJ CW) (hq : (0 ≤ ci ∧ ci < (bl - 2 * bh)) ∧ (0 ≤ cj ∧ cj < (bw - 2 * bh)) ∧ 1 ≤ cw ∧ cw ≤ 99) (hf : bn = 8) : Met l yX11_coin wsX11_coin ({ frames := 1, cells := 0, slots := 0, locals := 23 } : Room) (pPc D y [(x0, .inr (10, [.ref t0, .ref g0, .ref f0, .ref r0, .ref sl0, .ref n0, .ref d0, .ref w0, .ref c0])), (f0, .inr (4, [.ref fa, zi fn])), (fa, .inl (y 3, 6, .inr (.inr (.inr (.inr fr))))), (h0, .inr (1, [zi bl, zi bw, zi bt, zi bh, zi bd, zi bx, zi bn, .ref a1, .ref a2, .ref a3])), (a1, .inl (y 0, 8, .inl (cI CI))), (a2, .inl (y 0, 8, .inl (cI CJ))), (a3, .inl (y 0, 8, .inl (cI CW)))] [.ref x0, zi qb, zi ci, zi cj, zi cw]) (qV (zi (-4))) 0 0 (fun _ => False) := by
  refine P_of (own := RX11) (cc := cX11_coin) (maxL := 6) (ret := some .int) (by decide) rfl rfl (Nat.le_of_ble_eq_true rfl) (fun p e s m below meth c ls hx hb hr hC hlocks hPr hG hl => ?_)
  have hC0 := hC
  obtain ⟨-, -, hml, hown, hts⟩ := hC0
  have hK := hG.1
  have hinX11 : ∀ w ∈ wsX110, w ∈ wsX11_coin := fun _ h => List.mem_cons_of_mem _ (List.mem_append_left _ (List.mem_append_left _ (List.mem_append_right _ h)))
  have k1 := hts (.fieldLink RX11 26 "BoatsOfPaper" "theFleet" "LBoatsOfPaper$Fleet;") (List.mem_of_getElem? (i := 1) rfl)
  have hl : lv_has ls 6 [(0, .ref x0), (1, zi qb), (2, zi ci), (3, zi cj), (4, zi cw)] := hl
  obtain ⟨q1, q2, q3, q4, q5, q6, q7, q8, q9, qc⟩ := id hB
  refine lv_aload_n hx hb dX11_coin_0 rfl (lv_at hl 0 rfl) ?_
  refine va_get hx hb hts hinX11 hown hK hPr 0 rfl rfl 2 (by decide) k1 (fun _ h => h) rfl dX11_coin_1 ?_
  refine lv_iload_n hx hb dX11_coin_4 rfl (lv_at hl 1 rfl) ?_
  refine z_pV (As := [zi qb]) (rest := []) hC (c_X4_find l D y f0 fa fn fr qb h0 (by first | assumption | omega) hfr) (cwV 1 hts gX11_coin_X4_find rfl rfl rfl (by decide +kernel) ⟨Nat.le_of_ble_eq_true rfl, Nat.le_of_ble_eq_true rfl⟩) hG (hPr.sub (ws' := [(f0, .inr (4, [.ref fa, zi fn])), (fa, .inl (y 3, 6, .inr (.inr (.inr (.inr fr)))))]) [1, 2] rfl) 0 rfl rfl rfl hl.1 rfl (Nat.le_of_ble_eq_true rfl) dX11_coin_5 ⟨Nat.le_of_ble_eq_true rfl, Nat.le_of_ble_eq_true rfl⟩ ?_
  refine lv_astore (lv' := [(5, .ref h0), (0, .ref x0), (1, zi qb), (2, zi ci), (3, zi cj), (4, zi cw)]) hx hb dX11_coin_8 hl (by decide) rfl (fun ls hl => ?_)
  refine lv_aload hx hb dX11_coin_10 (lv_at hl 0 rfl) ?_
  refine lv_ifnonnull (tgt := 17) hx hb dX11_coin_12 (by decide) ?_
  refine lv_iload_n hx hb dX11_coin_17 rfl (lv_at hl 3 rfl) ?_
  refine z_iconst hx hb dX11_coin_18 ?_
  refine lv_aload hx hb dX11_coin_19 (lv_at hl 0 rfl) ?_
  refine z_pV (As := []) (rest := [zi 0, zi ci]) hC (c_X1_a l D y h0 a1 a2 a3 bl bw bt bh bd bx bn CI CJ CW (by first | assumption | omega)) (cwV 0 hts gX11_coin_X1_a rfl rfl rfl (by decide +kernel) ⟨Nat.le_of_ble_eq_true rfl, Nat.le_of_ble_eq_true rfl⟩) hG (hPr.sub (ws' := [(h0, .inr (1, [zi bl, zi bw, zi bt, zi bh, zi bd, zi bx, zi bn, .ref a1, .ref a2, .ref a3])), (a1, .inl (y 0, 8, .inl (cI CI))), (a2, .inl (y 0, 8, .inl (cI CJ))), (a3, .inl (y 0, 8, .inl (cI CW)))]) [3, 4, 5, 6] rfl) 0 rfl rfl rfl hl.1 rfl (Nat.le_of_ble_eq_true rfl) dX11_coin_21 ⟨Nat.le_of_ble_eq_true rfl, Nat.le_of_ble_eq_true rfl⟩ ?_
  refine z_iconst hx hb dX11_coin_24 ?_
  refine z_isub hx hb dX11_coin_25 ?_
  refine z_pS (As := [zi ci, zi 0, zi ((bl - 2 * bh) - 1)]) (rest := []) hC (c_X11_isWithin l D y ci 0 ((bl - 2 * bh) - 1) (by first | assumption | omega)) (va_cwS 3 hts gX11_coin_X11_isWithin rfl rfl rfl (by decide +kernel) ⟨Nat.le_of_ble_eq_true rfl, Nat.le_of_ble_eq_true rfl⟩) hG va_P_nil rfl hl.1 rfl (Nat.le_of_ble_eq_true rfl) dX11_coin_26 ⟨Nat.le_of_ble_eq_true rfl, Nat.le_of_ble_eq_true rfl⟩ ?_
  refine z_ifB_eq (tgt := 58) hx hb dX11_coin_29 (by decide) (fun c_29 => ?_) (fun c_29 => ?_)
  · exfalso; omega
  ·
    refine lv_iload_n hx hb dX11_coin_32 rfl (lv_at hl 4 rfl) ?_
    refine z_iconst hx hb dX11_coin_33 ?_
    refine lv_aload hx hb dX11_coin_34 (lv_at hl 0 rfl) ?_
    refine z_pV (As := []) (rest := [zi 0, zi cj]) hC (c_X1_b l D y h0 a1 a2 a3 bl bw bt bh bd bx bn CI CJ CW (by first | assumption | omega)) (cwV 0 hts gX11_coin_X1_b rfl rfl rfl (by decide +kernel) ⟨Nat.le_of_ble_eq_true rfl, Nat.le_of_ble_eq_true rfl⟩) hG (hPr.sub (ws' := [(h0, .inr (1, [zi bl, zi bw, zi bt, zi bh, zi bd, zi bx, zi bn, .ref a1, .ref a2, .ref a3])), (a1, .inl (y 0, 8, .inl (cI CI))), (a2, .inl (y 0, 8, .inl (cI CJ))), (a3, .inl (y 0, 8, .inl (cI CW)))]) [3, 4, 5, 6] rfl) 0 rfl rfl rfl hl.1 rfl (Nat.le_of_ble_eq_true rfl) dX11_coin_36 ⟨Nat.le_of_ble_eq_true rfl, Nat.le_of_ble_eq_true rfl⟩ ?_
    refine z_iconst hx hb dX11_coin_39 ?_
    refine z_isub hx hb dX11_coin_40 ?_
    refine z_pS (As := [zi cj, zi 0, zi ((bw - 2 * bh) - 1)]) (rest := []) hC (c_X11_isWithin l D y cj 0 ((bw - 2 * bh) - 1) (by first | assumption | omega)) (va_cwS 3 hts gX11_coin_X11_isWithin rfl rfl rfl (by decide +kernel) ⟨Nat.le_of_ble_eq_true rfl, Nat.le_of_ble_eq_true rfl⟩) hG va_P_nil rfl hl.1 rfl (Nat.le_of_ble_eq_true rfl) dX11_coin_41 ⟨Nat.le_of_ble_eq_true rfl, Nat.le_of_ble_eq_true rfl⟩ ?_
    refine z_ifB_eq (tgt := 58) hx hb dX11_coin_44 (by decide) (fun c_44 => ?_) (fun c_44 => ?_)
    · exfalso; omega
    ·
      refine lv_iload hx hb dX11_coin_47 (lv_at hl 5 rfl) ?_
      refine z_iconst hx hb dX11_coin_49 ?_
      refine z_bipush hx hb dX11_coin_50 (by decide) ?_
      refine z_pS (As := [zi cw, zi 1, zi 99]) (rest := []) hC (c_X11_isWithin l D y cw 1 99 (by first | assumption | omega)) (va_cwS 3 hts gX11_coin_X11_isWithin rfl rfl rfl (by decide +kernel) ⟨Nat.le_of_ble_eq_true rfl, Nat.le_of_ble_eq_true rfl⟩) hG va_P_nil rfl hl.1 rfl (Nat.le_of_ble_eq_true rfl) dX11_coin_52 ⟨Nat.le_of_ble_eq_true rfl, Nat.le_of_ble_eq_true rfl⟩ ?_
      refine z_ifB_ne (tgt := 61) hx hb dX11_coin_55 (by decide) (fun c_55 => ?_) (fun c_55 => ?_)
      ·
        refine lv_aload hx hb dX11_coin_61 (lv_at hl 0 rfl) ?_
        refine lv_iload_n hx hb dX11_coin_63 rfl (lv_at hl 3 rfl) ?_
        refine lv_iload_n hx hb dX11_coin_64 rfl (lv_at hl 4 rfl) ?_
        refine lv_iload hx hb dX11_coin_65 (lv_at hl 5 rfl) ?_
        refine z_pV (As := [zi ci, zi cj, zi cw]) (rest := []) hC (c_X1_lay_full l D y h0 a1 a2 a3 bl bw bt bh bd bx bn CI CJ CW ci cj cw (by first | assumption | omega)) (cwV 3 hts gX11_coin_X1_lay rfl rfl rfl (by decide +kernel) ⟨Nat.le_of_ble_eq_true rfl, Nat.le_of_ble_eq_true rfl⟩) hG (hPr.sub (ws' := [(h0, .inr (1, [zi bl, zi bw, zi bt, zi bh, zi bd, zi bx, zi bn, .ref a1, .ref a2, .ref a3])), (a1, .inl (y 0, 8, .inl (cI CI))), (a2, .inl (y 0, 8, .inl (cI CJ))), (a3, .inl (y 0, 8, .inl (cI CW)))]) [3, 4, 5, 6] rfl) 0 rfl rfl rfl hl.1 rfl (Nat.le_of_ble_eq_true rfl) dX11_coin_67 ⟨Nat.le_of_ble_eq_true rfl, Nat.le_of_ble_eq_true rfl⟩ ?_
        exact z_iret0 hx hb hr hlocks (rfl) dX11_coin_70
      · exfalso; omega
set_option maxHeartbeats 8000000 in
set_option maxRecDepth 100000 in
theorem c_X11_coin (l : Launch) (D : va_G) (y : Nat → ClassId) (x0 : Nat) (t0 : Nat) (g0 : Nat) (f0 : Nat) (r0 : Nat) (sl0 : Nat) (n0 : Nat) (d0 : Nat) (w0 : Nat) (c0 : Nat) (fa : Nat) (fn : Int) (fr : Nat → Option Nat) (qb : Int) (h0 : Nat) (a1 : Nat) (a2 : Nat) (a3 : Nat) (bl : Int) (bw : Int) (bt : Int) (bh : Int) (bd : Int) (bx : Int) (bn : Int) (CI : Int → Int) (CJ : Int → Int) (CW : Int → Int) (ci : Int) (cj : Int) (cw : Int) (hqb : 0 ≤ fn ∧ fn ≤ 6 ∧ 0 ≤ qb ∧ qb < fn) (hfr : fr qb.toNat = some h0) (hB : bOK bl bw bt bh bd bx bn CI CJ CW) (hq : (0 ≤ ci ∧ ci < (bl - 2 * bh)) ∧ (0 ≤ cj ∧ cj < (bw - 2 * bh)) ∧ 1 ≤ cw ∧ cw ≤ 99) (hf : bn < 8) (sz : Nat) : Met l yX11_coin wsX11_coin ({ frames := 1, cells := 0, slots := 0, locals := 23 } : Room) (wPc D y [(x0, .inr (10, [.ref t0, .ref g0, .ref f0, .ref r0, .ref sl0, .ref n0, .ref d0, .ref w0, .ref c0])), (f0, .inr (4, [.ref fa, zi fn])), (fa, .inl (y 3, 6, .inr (.inr (.inr (.inr fr)))))] [(h0, .inr (1, [zi bl, zi bw, zi bt, zi bh, zi bd, zi bx, zi bn, .ref a1, .ref a2, .ref a3])), (a1, .inl (y 0, 8, .inl (cI CI))), (a2, .inl (y 0, 8, .inl (cI CJ))), (a3, .inl (y 0, 8, .inl (cI CW)))] sz [.ref x0, zi qb, zi ci, zi cj, zi cw]) (wQ D (fun (_ : Unit) => some (zi bn)) (fun (_ : Unit) => True) (fun (_ : Unit) => [(h0, .inr (1, [zi bl, zi bw, zi bt, zi bh, zi bd, zi bx, zi (bn + 1), .ref a1, .ref a2, .ref a3])), (a1, .inl (y 0, 8, .inl (cI (iu CI bn ci)))), (a2, .inl (y 0, 8, .inl (cI (iu CJ bn cj)))), (a3, .inl (y 0, 8, .inl (cI (iu CW bn cw))))]) (va_A [(h0, .inr (1, [zi bl, zi bw, zi bt, zi bh, zi bd, zi bx, zi bn, .ref a1, .ref a2, .ref a3])), (a1, .inl (y 0, 8, .inl (cI CI))), (a2, .inl (y 0, 8, .inl (cI CJ))), (a3, .inl (y 0, 8, .inl (cI CW)))] sz)) 0 0 (va_A [(h0, .inr (1, [zi bl, zi bw, zi bt, zi bh, zi bd, zi bx, zi bn, .ref a1, .ref a2, .ref a3])), (a1, .inl (y 0, 8, .inl (cI CI))), (a2, .inl (y 0, 8, .inl (cI CJ))), (a3, .inl (y 0, 8, .inl (cI CW)))] sz) := by
  refine W_of (own := RX11) (cc := cX11_coin) (maxL := 6) (ret := some .int) (by decide) rfl rfl (Nat.le_of_ble_eq_true rfl) (fun p e s m below meth c ls A hx hb hr hC hlocks hin0 hR0 hN hP hD hA hG hl => ?_)
  have hC0 := hC
  obtain ⟨-, -, hml, hown, hts⟩ := hC0
  have hK := hG.1
  have hS : va_S A s.heap s.heap [] := va_S.rf
  have hPr := hR0
  have hinX11 : ∀ w ∈ wsX110, w ∈ wsX11_coin := fun _ h => List.mem_cons_of_mem _ (List.mem_append_left _ (List.mem_append_left _ (List.mem_append_right _ h)))
  have k1 := hts (.fieldLink RX11 26 "BoatsOfPaper" "theFleet" "LBoatsOfPaper$Fleet;") (List.mem_of_getElem? (i := 1) rfl)
  have hl : lv_has ls 6 [(0, .ref x0), (1, zi qb), (2, zi ci), (3, zi cj), (4, zi cw)] := hl
  obtain ⟨q1, q2, q3, q4, q5, q6, q7, q8, q9, qc⟩ := id hB
  refine lv_aload_n hx hb dX11_coin_0 rfl (lv_at hl 0 rfl) ?_
  refine va_get hx hb hts hinX11 hown hK hPr 0 rfl rfl 2 (by decide) k1 (fun _ h => h) rfl dX11_coin_1 ?_
  refine lv_iload_n hx hb dX11_coin_4 rfl (lv_at hl 1 rfl) ?_
  refine z_pV (As := [zi qb]) (rest := []) hC (c_X4_find l D y f0 fa fn fr qb h0 (by first | assumption | omega) hfr) (cwV 1 hts gX11_coin_X4_find rfl rfl rfl (by decide +kernel) ⟨Nat.le_of_ble_eq_true rfl, Nat.le_of_ble_eq_true rfl⟩) hG (hPr.sub (ws' := [(f0, .inr (4, [.ref fa, zi fn])), (fa, .inl (y 3, 6, .inr (.inr (.inr (.inr fr)))))]) [1, 2] rfl) 0 rfl rfl rfl hl.1 rfl (Nat.le_of_ble_eq_true rfl) dX11_coin_5 ⟨Nat.le_of_ble_eq_true rfl, Nat.le_of_ble_eq_true rfl⟩ ?_
  refine lv_astore (lv' := [(5, .ref h0), (0, .ref x0), (1, zi qb), (2, zi ci), (3, zi cj), (4, zi cw)]) hx hb dX11_coin_8 hl (by decide) rfl (fun ls hl => ?_)
  refine lv_aload hx hb dX11_coin_10 (lv_at hl 0 rfl) ?_
  refine lv_ifnonnull (tgt := 17) hx hb dX11_coin_12 (by decide) ?_
  refine lv_iload_n hx hb dX11_coin_17 rfl (lv_at hl 3 rfl) ?_
  refine z_iconst hx hb dX11_coin_18 ?_
  refine lv_aload hx hb dX11_coin_19 (lv_at hl 0 rfl) ?_
  refine z_pV (As := []) (rest := [zi 0, zi ci]) hC (c_X1_a l D y h0 a1 a2 a3 bl bw bt bh bd bx bn CI CJ CW (by first | assumption | omega)) (cwV 0 hts gX11_coin_X1_a rfl rfl rfl (by decide +kernel) ⟨Nat.le_of_ble_eq_true rfl, Nat.le_of_ble_eq_true rfl⟩) hG (hP.sub (ws' := [(h0, .inr (1, [zi bl, zi bw, zi bt, zi bh, zi bd, zi bx, zi bn, .ref a1, .ref a2, .ref a3])), (a1, .inl (y 0, 8, .inl (cI CI))), (a2, .inl (y 0, 8, .inl (cI CJ))), (a3, .inl (y 0, 8, .inl (cI CW)))]) [0, 1, 2, 3] rfl) 0 rfl rfl rfl hl.1 rfl (Nat.le_of_ble_eq_true rfl) dX11_coin_21 ⟨Nat.le_of_ble_eq_true rfl, Nat.le_of_ble_eq_true rfl⟩ ?_
  refine z_iconst hx hb dX11_coin_24 ?_
  refine z_isub hx hb dX11_coin_25 ?_
  refine z_pS (As := [zi ci, zi 0, zi ((bl - 2 * bh) - 1)]) (rest := []) hC (c_X11_isWithin l D y ci 0 ((bl - 2 * bh) - 1) (by first | assumption | omega)) (va_cwS 3 hts gX11_coin_X11_isWithin rfl rfl rfl (by decide +kernel) ⟨Nat.le_of_ble_eq_true rfl, Nat.le_of_ble_eq_true rfl⟩) hG va_P_nil rfl hl.1 rfl (Nat.le_of_ble_eq_true rfl) dX11_coin_26 ⟨Nat.le_of_ble_eq_true rfl, Nat.le_of_ble_eq_true rfl⟩ ?_
  refine z_ifB_eq (tgt := 58) hx hb dX11_coin_29 (by decide) (fun c_29 => ?_) (fun c_29 => ?_)
  · exfalso; omega
  ·
    refine lv_iload_n hx hb dX11_coin_32 rfl (lv_at hl 4 rfl) ?_
    refine z_iconst hx hb dX11_coin_33 ?_
    refine lv_aload hx hb dX11_coin_34 (lv_at hl 0 rfl) ?_
    refine z_pV (As := []) (rest := [zi 0, zi cj]) hC (c_X1_b l D y h0 a1 a2 a3 bl bw bt bh bd bx bn CI CJ CW (by first | assumption | omega)) (cwV 0 hts gX11_coin_X1_b rfl rfl rfl (by decide +kernel) ⟨Nat.le_of_ble_eq_true rfl, Nat.le_of_ble_eq_true rfl⟩) hG (hP.sub (ws' := [(h0, .inr (1, [zi bl, zi bw, zi bt, zi bh, zi bd, zi bx, zi bn, .ref a1, .ref a2, .ref a3])), (a1, .inl (y 0, 8, .inl (cI CI))), (a2, .inl (y 0, 8, .inl (cI CJ))), (a3, .inl (y 0, 8, .inl (cI CW)))]) [0, 1, 2, 3] rfl) 0 rfl rfl rfl hl.1 rfl (Nat.le_of_ble_eq_true rfl) dX11_coin_36 ⟨Nat.le_of_ble_eq_true rfl, Nat.le_of_ble_eq_true rfl⟩ ?_
    refine z_iconst hx hb dX11_coin_39 ?_
    refine z_isub hx hb dX11_coin_40 ?_
    refine z_pS (As := [zi cj, zi 0, zi ((bw - 2 * bh) - 1)]) (rest := []) hC (c_X11_isWithin l D y cj 0 ((bw - 2 * bh) - 1) (by first | assumption | omega)) (va_cwS 3 hts gX11_coin_X11_isWithin rfl rfl rfl (by decide +kernel) ⟨Nat.le_of_ble_eq_true rfl, Nat.le_of_ble_eq_true rfl⟩) hG va_P_nil rfl hl.1 rfl (Nat.le_of_ble_eq_true rfl) dX11_coin_41 ⟨Nat.le_of_ble_eq_true rfl, Nat.le_of_ble_eq_true rfl⟩ ?_
    refine z_ifB_eq (tgt := 58) hx hb dX11_coin_44 (by decide) (fun c_44 => ?_) (fun c_44 => ?_)
    · exfalso; omega
    ·
      refine lv_iload hx hb dX11_coin_47 (lv_at hl 5 rfl) ?_
      refine z_iconst hx hb dX11_coin_49 ?_
      refine z_bipush hx hb dX11_coin_50 (by decide) ?_
      refine z_pS (As := [zi cw, zi 1, zi 99]) (rest := []) hC (c_X11_isWithin l D y cw 1 99 (by first | assumption | omega)) (va_cwS 3 hts gX11_coin_X11_isWithin rfl rfl rfl (by decide +kernel) ⟨Nat.le_of_ble_eq_true rfl, Nat.le_of_ble_eq_true rfl⟩) hG va_P_nil rfl hl.1 rfl (Nat.le_of_ble_eq_true rfl) dX11_coin_52 ⟨Nat.le_of_ble_eq_true rfl, Nat.le_of_ble_eq_true rfl⟩ ?_
      refine z_ifB_ne (tgt := 61) hx hb dX11_coin_55 (by decide) (fun c_55 => ?_) (fun c_55 => ?_)
      ·
        refine lv_aload hx hb dX11_coin_61 (lv_at hl 0 rfl) ?_
        refine lv_iload_n hx hb dX11_coin_63 rfl (lv_at hl 3 rfl) ?_
        refine lv_iload_n hx hb dX11_coin_64 rfl (lv_at hl 4 rfl) ?_
        refine lv_iload hx hb dX11_coin_65 (lv_at hl 5 rfl) ?_
        refine z_wV (As := [zi ci, zi cj, zi cw]) (rest := []) (wc := [(h0, .inr (1, [zi bl, zi bw, zi bt, zi bh, zi bd, zi bx, zi bn, .ref a1, .ref a2, .ref a3])), (a1, .inl (y 0, 8, .inl (cI CI))), (a2, .inl (y 0, 8, .inl (cI CJ))), (a3, .inl (y 0, 8, .inl (cI CW)))]) (wrest := []) hC (c_X1_lay l D y h0 a1 a2 a3 bl bw bt bh bd bx bn CI CJ CW ci cj cw (by first | assumption | omega) _) (cwV 3 hts gX11_coin_X1_lay rfl rfl rfl (by decide +kernel) ⟨Nat.le_of_ble_eq_true rfl, Nat.le_of_ble_eq_true rfl⟩) hG hP hD hS hA [0, 1, 2, 3] [] rfl rfl (by decide) (by decide) (by decide) va_P_nil ro_nil 0 rfl rfl rfl hl.1 rfl (Nat.le_of_ble_eq_true rfl) dX11_coin_67 ⟨Nat.le_of_ble_eq_true rfl, Nat.le_of_ble_eq_true rfl⟩ (fun u9 H locs hw_1 hP hD hS => ?_)
        have hw_1 : True := hw_1
        have hP : va_P D vwCl [(h0, .inr (1, [zi bl, zi bw, zi bt, zi bh, zi bd, zi bx, zi (bn + 1), .ref a1, .ref a2, .ref a3])), (a1, .inl (y 0, 8, .inl (cI (iu CI bn ci)))), (a2, .inl (y 0, 8, .inl (cI (iu CJ bn cj)))), (a3, .inl (y 0, 8, .inl (cI (iu CW bn cw))))] H := hP
        have hD : va_D A [(h0, .inr (1, [zi bl, zi bw, zi bt, zi bh, zi bd, zi bx, zi (bn + 1), .ref a1, .ref a2, .ref a3])), (a1, .inl (y 0, 8, .inl (cI (iu CI bn ci)))), (a2, .inl (y 0, 8, .inl (cI (iu CJ bn cj)))), (a3, .inl (y 0, 8, .inl (cI (iu CW bn cw))))] := hD
        have hPr := ro_now hR0 hN hS
        exact z_iretW hx hb hr hlocks () (rfl) (trivial) (hP.sub [0, 1, 2, 3] rfl) (hD.sub [0, 1, 2, 3] (by decide) rfl) hS dX11_coin_70
      · exfalso; omega
set_option maxHeartbeats 8000000 in
set_option maxRecDepth 100000 in
theorem c_X11_empty_no (l : Launch) (D : va_G) (y : Nat → ClassId) (x0 : Nat) (t0 : Nat) (g0 : Nat) (f0 : Nat) (r0 : Nat) (sl0 : Nat) (n0 : Nat) (d0 : Nat) (w0 : Nat) (c0 : Nat) (fa : Nat) (fn : Int) (fr : Nat → Option Nat) (qb : Int) (hqb : rI qb ∧ 0 ≤ fn ∧ fn ≤ 6 ∧ ¬ (0 ≤ qb ∧ qb < fn)) : Met l yX11_empty wsX11_empty ({ frames := 1, cells := 0, slots := 0, locals := 21 } : Room) (pPc D y [(x0, .inr (10, [.ref t0, .ref g0, .ref f0, .ref r0, .ref sl0, .ref n0, .ref d0, .ref w0, .ref c0])), (f0, .inr (4, [.ref fa, zi fn])), (fa, .inl (y 3, 6, .inr (.inr (.inr (.inr fr)))))] [.ref x0, zi qb]) (qV (zi (-1))) 0 0 (fun _ => False) := by
  refine P_of (own := RX11) (cc := cX11_empty) (maxL := 4) (ret := some .int) (by decide) rfl rfl (Nat.le_of_ble_eq_true rfl) (fun p e s m below meth c ls hx hb hr hC hlocks hPr hG hl => ?_)
  have hC0 := hC
  obtain ⟨-, -, hml, hown, hts⟩ := hC0
  have hK := hG.1
  have hinX11 : ∀ w ∈ wsX110, w ∈ wsX11_empty := fun _ h => List.mem_cons_of_mem _ (List.mem_append_left _ (List.mem_append_left _ (List.mem_append_right _ h)))
  have k1 := hts (.fieldLink RX11 26 "BoatsOfPaper" "theFleet" "LBoatsOfPaper$Fleet;") (List.mem_of_getElem? (i := 1) rfl)
  have hl : lv_has ls 4 [(0, .ref x0), (1, zi qb)] := hl
  refine lv_aload_n hx hb dX11_empty_0 rfl (lv_at hl 0 rfl) ?_
  refine va_get hx hb hts hinX11 hown hK hPr 0 rfl rfl 2 (by decide) k1 (fun _ h => h) rfl dX11_empty_1 ?_
  refine lv_iload_n hx hb dX11_empty_4 rfl (lv_at hl 1 rfl) ?_
  refine z_pV (As := [zi qb]) (rest := []) hC (c_X4_find_no l D y f0 fa fn fr qb (by first | assumption | omega)) (cwV 1 hts gX11_empty_X4_find rfl rfl rfl (by decide +kernel) ⟨Nat.le_of_ble_eq_true rfl, Nat.le_of_ble_eq_true rfl⟩) hG (hPr.sub (ws' := [(f0, .inr (4, [.ref fa, zi fn])), (fa, .inl (y 3, 6, .inr (.inr (.inr (.inr fr)))))]) [1, 2] rfl) 0 rfl rfl rfl hl.1 rfl (Nat.le_of_ble_eq_true rfl) dX11_empty_5 ⟨Nat.le_of_ble_eq_true rfl, Nat.le_of_ble_eq_true rfl⟩ ?_
  refine lv_astore_nN (lv' := [(2, .null), (0, .ref x0), (1, zi qb)]) hx hb dX11_empty_8 rfl hl (by decide) rfl (fun ls hl => ?_)
  refine lv_aload_nN hx hb dX11_empty_9 rfl (lv_at hl 0 rfl) ?_
  refine lv_ifnonnullN hx hb dX11_empty_10 ?_
  refine z_iconst hx hb dX11_empty_13 ?_
  exact z_iret0 hx hb hr hlocks (rfl) dX11_empty_14
set_option maxHeartbeats 8000000 in
set_option maxRecDepth 100000 in
theorem c_X11_empty (l : Launch) (D : va_G) (y : Nat → ClassId) (x0 : Nat) (t0 : Nat) (g0 : Nat) (f0 : Nat) (r0 : Nat) (sl0 : Nat) (n0 : Nat) (d0 : Nat) (w0 : Nat) (c0 : Nat) (fa : Nat) (fn : Int) (fr : Nat → Option Nat) (qb : Int) (h0 : Nat) (a1 : Nat) (a2 : Nat) (a3 : Nat) (bl : Int) (bw : Int) (bt : Int) (bh : Int) (bd : Int) (bx : Int) (bn : Int) (CI : Int → Int) (CJ : Int → Int) (CW : Int → Int) (hqb : 0 ≤ fn ∧ fn ≤ 6 ∧ 0 ≤ qb ∧ qb < fn) (hfr : fr qb.toNat = some h0) (sz : Nat) : Met l yX11_empty wsX11_empty ({ frames := 1, cells := 0, slots := 0, locals := 21 } : Room) (wPc D y [(x0, .inr (10, [.ref t0, .ref g0, .ref f0, .ref r0, .ref sl0, .ref n0, .ref d0, .ref w0, .ref c0])), (f0, .inr (4, [.ref fa, zi fn])), (fa, .inl (y 3, 6, .inr (.inr (.inr (.inr fr)))))] [(h0, .inr (1, [zi bl, zi bw, zi bt, zi bh, zi bd, zi bx, zi bn, .ref a1, .ref a2, .ref a3]))] sz [.ref x0, zi qb]) (wQ D (fun (_ : Unit) => some (zi bn)) (fun (_ : Unit) => True) (fun (_ : Unit) => [(h0, .inr (1, [zi bl, zi bw, zi bt, zi bh, zi bd, zi bx, zi 0, .ref a1, .ref a2, .ref a3]))]) (va_A [(h0, .inr (1, [zi bl, zi bw, zi bt, zi bh, zi bd, zi bx, zi bn, .ref a1, .ref a2, .ref a3]))] sz)) 0 0 (va_A [(h0, .inr (1, [zi bl, zi bw, zi bt, zi bh, zi bd, zi bx, zi bn, .ref a1, .ref a2, .ref a3]))] sz) := by
  refine W_of (own := RX11) (cc := cX11_empty) (maxL := 4) (ret := some .int) (by decide) rfl rfl (Nat.le_of_ble_eq_true rfl) (fun p e s m below meth c ls A hx hb hr hC hlocks hin0 hR0 hN hP hD hA hG hl => ?_)
  have hC0 := hC
  obtain ⟨-, -, hml, hown, hts⟩ := hC0
  have hK := hG.1
  have hS : va_S A s.heap s.heap [] := va_S.rf
  have hPr := hR0
  have hinX11 : ∀ w ∈ wsX110, w ∈ wsX11_empty := fun _ h => List.mem_cons_of_mem _ (List.mem_append_left _ (List.mem_append_left _ (List.mem_append_right _ h)))
  have hinX1 : ∀ w ∈ wsX10, w ∈ wsX11_empty := fun _ h => List.mem_cons_of_mem _ (List.mem_append_left _ (List.mem_append_right _ h))
  have k1 := hts (.fieldLink RX11 26 "BoatsOfPaper" "theFleet" "LBoatsOfPaper$Fleet;") (List.mem_of_getElem? (i := 1) rfl)
  have k2 := hts (.fieldLink RX11 141 "BoatsOfPaper$Boat" "coins" "I") (List.mem_of_getElem? (i := 2) rfl)
  have hl : lv_has ls 4 [(0, .ref x0), (1, zi qb)] := hl
  refine lv_aload_n hx hb dX11_empty_0 rfl (lv_at hl 0 rfl) ?_
  refine va_get hx hb hts hinX11 hown hK hPr 0 rfl rfl 2 (by decide) k1 (fun _ h => h) rfl dX11_empty_1 ?_
  refine lv_iload_n hx hb dX11_empty_4 rfl (lv_at hl 1 rfl) ?_
  refine z_pV (As := [zi qb]) (rest := []) hC (c_X4_find l D y f0 fa fn fr qb h0 (by first | assumption | omega) hfr) (cwV 1 hts gX11_empty_X4_find rfl rfl rfl (by decide +kernel) ⟨Nat.le_of_ble_eq_true rfl, Nat.le_of_ble_eq_true rfl⟩) hG (hPr.sub (ws' := [(f0, .inr (4, [.ref fa, zi fn])), (fa, .inl (y 3, 6, .inr (.inr (.inr (.inr fr)))))]) [1, 2] rfl) 0 rfl rfl rfl hl.1 rfl (Nat.le_of_ble_eq_true rfl) dX11_empty_5 ⟨Nat.le_of_ble_eq_true rfl, Nat.le_of_ble_eq_true rfl⟩ ?_
  refine lv_astore_n (lv' := [(2, .ref h0), (0, .ref x0), (1, zi qb)]) hx hb dX11_empty_8 rfl hl (by decide) rfl (fun ls hl => ?_)
  refine lv_aload_n hx hb dX11_empty_9 rfl (lv_at hl 0 rfl) ?_
  refine lv_ifnonnull (tgt := 15) hx hb dX11_empty_10 (by decide) ?_
  refine lv_aload_n hx hb dX11_empty_15 rfl (lv_at hl 0 rfl) ?_
  refine va_get hx hb hts hinX1 hown hK hP 0 rfl rfl 6 (by decide) k2 (fun _ h => h) rfl dX11_empty_16 ?_
  refine lv_istore_n (lv' := [(3, zi bn), (2, .ref h0), (0, .ref x0), (1, zi qb)]) hx hb dX11_empty_19 rfl hl (by decide) rfl (fun ls hl => ?_)
  refine lv_aload_n hx hb dX11_empty_20 rfl (lv_at hl 1 rfl) ?_
  refine z_iconst hx hb dX11_empty_21 ?_
  refine va_put hx hb hts hinX1 tyX1 tyX1_ok nmX1 hown hK hP hD hS 0 rfl rfl 6 (by decide) k2 (fun _ h => h) rfl (tyX1_ok 6 (by decide)) rfl rfl (Nat.le_of_ble_eq_true rfl) dX11_empty_22 (fun H locs hP hD hS => ?_)
  have hP : va_P D vwCl [(h0, .inr (1, [zi bl, zi bw, zi bt, zi bh, zi bd, zi bx, zi 0, .ref a1, .ref a2, .ref a3]))] H := hP
  have hD : va_D A [(h0, .inr (1, [zi bl, zi bw, zi bt, zi bh, zi bd, zi bx, zi 0, .ref a1, .ref a2, .ref a3]))] := hD
  have hPr := ro_now hR0 hN hS
  refine lv_iload_n hx hb dX11_empty_25 rfl (lv_at hl 0 rfl) ?_
  exact z_iretW hx hb hr hlocks () (rfl) (trivial) (hP.sub [0] rfl) (hD.sub [0] (by decide) rfl) hS dX11_empty_26
set_option maxHeartbeats 8000000 in
set_option maxRecDepth 100000 in
theorem c_X11_about_no (l : Launch) (D : va_G) (y : Nat → ClassId) (x0 : Nat) (t0 : Nat) (g0 : Nat) (f0 : Nat) (r0 : Nat) (sl0 : Nat) (n0 : Nat) (d0 : Nat) (w0 : Nat) (c0 : Nat) (fa : Nat) (fn : Int) (fr : Nat → Option Nat) (qb : Int) (wq : Int) (hqb : rI qb ∧ 0 ≤ fn ∧ fn ≤ 6 ∧ ¬ (0 ≤ qb ∧ qb < fn)) : Met l yX11_about wsX11_about ({ frames := 1, cells := 0, slots := 0, locals := 21 } : Room) (pPc D y [(x0, .inr (10, [.ref t0, .ref g0, .ref f0, .ref r0, .ref sl0, .ref n0, .ref d0, .ref w0, .ref c0])), (f0, .inr (4, [.ref fa, zi fn])), (fa, .inl (y 3, 6, .inr (.inr (.inr (.inr fr)))))] [.ref x0, zi qb, zi wq]) (qV (zi (-1))) 0 0 (fun _ => False) := by
  refine P_of (own := RX11) (cc := cX11_about) (maxL := 4) (ret := some .int) (by decide) rfl rfl (Nat.le_of_ble_eq_true rfl) (fun p e s m below meth c ls hx hb hr hC hlocks hPr hG hl => ?_)
  have hC0 := hC
  obtain ⟨-, -, hml, hown, hts⟩ := hC0
  have hK := hG.1
  have hinX11 : ∀ w ∈ wsX110, w ∈ wsX11_about := fun _ h => List.mem_cons_of_mem _ (List.mem_append_left _ (List.mem_append_left _ (List.mem_append_right _ h)))
  have k1 := hts (.fieldLink RX11 26 "BoatsOfPaper" "theFleet" "LBoatsOfPaper$Fleet;") (List.mem_of_getElem? (i := 1) rfl)
  have hl : lv_has ls 4 [(0, .ref x0), (1, zi qb), (2, zi wq)] := hl
  refine lv_aload_n hx hb dX11_about_0 rfl (lv_at hl 0 rfl) ?_
  refine va_get hx hb hts hinX11 hown hK hPr 0 rfl rfl 2 (by decide) k1 (fun _ h => h) rfl dX11_about_1 ?_
  refine lv_iload_n hx hb dX11_about_4 rfl (lv_at hl 1 rfl) ?_
  refine z_pV (As := [zi qb]) (rest := []) hC (c_X4_find_no l D y f0 fa fn fr qb (by first | assumption | omega)) (cwV 1 hts gX11_about_X4_find rfl rfl rfl (by decide +kernel) ⟨Nat.le_of_ble_eq_true rfl, Nat.le_of_ble_eq_true rfl⟩) hG (hPr.sub (ws' := [(f0, .inr (4, [.ref fa, zi fn])), (fa, .inl (y 3, 6, .inr (.inr (.inr (.inr fr)))))]) [1, 2] rfl) 0 rfl rfl rfl hl.1 rfl (Nat.le_of_ble_eq_true rfl) dX11_about_5 ⟨Nat.le_of_ble_eq_true rfl, Nat.le_of_ble_eq_true rfl⟩ ?_
  refine lv_astore_nN (lv' := [(3, .null), (0, .ref x0), (1, zi qb), (2, zi wq)]) hx hb dX11_about_8 rfl hl (by decide) rfl (fun ls hl => ?_)
  refine lv_aload_nN hx hb dX11_about_9 rfl (lv_at hl 0 rfl) ?_
  refine lv_ifnonnullN hx hb dX11_about_10 ?_
  refine z_iconst hx hb dX11_about_13 ?_
  exact z_iret0 hx hb hr hlocks (rfl) dX11_about_14
set_option maxHeartbeats 8000000 in
set_option maxRecDepth 100000 in
theorem c_X11_about (l : Launch) (D : va_G) (y : Nat → ClassId) (x0 : Nat) (t0 : Nat) (g0 : Nat) (f0 : Nat) (r0 : Nat) (sl0 : Nat) (n0 : Nat) (d0 : Nat) (w0 : Nat) (c0 : Nat) (fa : Nat) (fn : Int) (fr : Nat → Option Nat) (qb : Int) (h0 : Nat) (a1 : Nat) (a2 : Nat) (a3 : Nat) (bl : Int) (bw : Int) (bt : Int) (bh : Int) (bd : Int) (bx : Int) (bn : Int) (CI : Int → Int) (CJ : Int → Int) (CW : Int → Int) (wq : Int) (hqb : 0 ≤ fn ∧ fn ≤ 6 ∧ 0 ≤ qb ∧ qb < fn) (hfr : fr qb.toNat = some h0) (hB : bOK bl bw bt bh bd bx bn CI CJ CW) (hwq : rI wq) : Met l yX11_about wsX11_about ({ frames := 3, cells := 0, slots := 0, locals := 63 } : Room) (pPc D y [(x0, .inr (10, [.ref t0, .ref g0, .ref f0, .ref r0, .ref sl0, .ref n0, .ref d0, .ref w0, .ref c0])), (f0, .inr (4, [.ref fa, zi fn])), (fa, .inl (y 3, 6, .inr (.inr (.inr (.inr fr))))), (h0, .inr (1, [zi bl, zi bw, zi bt, zi bh, zi bd, zi bx, zi bn, .ref a1, .ref a2, .ref a3])), (a1, .inl (y 0, 8, .inl (cI CI))), (a2, .inl (y 0, 8, .inl (cI CJ))), (a3, .inl (y 0, 8, .inl (cI CW)))] [.ref x0, zi qb, zi wq]) (qV (zi (abV bl bw bt bh bd bx bn (momV bn (bl - 2 * bh) CI CW) (momV bn (bw - 2 * bh) CJ CW) wq))) 0 0 (fun _ => False) := by
  refine P_of (own := RX11) (cc := cX11_about) (maxL := 4) (ret := some .int) (by decide) rfl rfl (Nat.le_of_ble_eq_true rfl) (fun p e s m below meth c ls hx hb hr hC hlocks hPr hG hl => ?_)
  have hC0 := hC
  obtain ⟨-, -, hml, hown, hts⟩ := hC0
  have hK := hG.1
  have hinX11 : ∀ w ∈ wsX110, w ∈ wsX11_about := fun _ h => List.mem_cons_of_mem _ (List.mem_append_left _ (List.mem_append_left _ (List.mem_append_right _ h)))
  have hinX1 : ∀ w ∈ wsX10, w ∈ wsX11_about := fun _ h => List.mem_cons_of_mem _ (List.mem_append_left _ (List.mem_append_right _ h))
  have k1 := hts (.fieldLink RX11 26 "BoatsOfPaper" "theFleet" "LBoatsOfPaper$Fleet;") (List.mem_of_getElem? (i := 1) rfl)
  have k2 := hts (.fieldLink RX11 144 "BoatsOfPaper$Boat" "l" "I") (List.mem_of_getElem? (i := 2) rfl)
  have k3 := hts (.fieldLink RX11 147 "BoatsOfPaper$Boat" "w" "I") (List.mem_of_getElem? (i := 3) rfl)
  have k4 := hts (.fieldLink RX11 150 "BoatsOfPaper$Boat" "t" "I") (List.mem_of_getElem? (i := 4) rfl)
  have k5 := hts (.fieldLink RX11 153 "BoatsOfPaper$Boat" "h" "I") (List.mem_of_getElem? (i := 5) rfl)
  have k6 := hts (.fieldLink RX11 128 "BoatsOfPaper$Boat" "drinks" "I") (List.mem_of_getElem? (i := 6) rfl)
  have k7 := hts (.fieldLink RX11 123 "BoatsOfPaper$Boat" "waxed" "I") (List.mem_of_getElem? (i := 7) rfl)
  have k8 := hts (.fieldLink RX11 141 "BoatsOfPaper$Boat" "coins" "I") (List.mem_of_getElem? (i := 8) rfl)
  have k9 := hts (.constant RX11 156 (100000)) (List.mem_of_getElem? (i := 9) rfl)
  have hl : lv_has ls 4 [(0, .ref x0), (1, zi qb), (2, zi wq)] := hl
  obtain ⟨q1, q2, q3, q4, q5, q6, q7, q8, q9, qc⟩ := id hB
  refine lv_aload_n hx hb dX11_about_0 rfl (lv_at hl 0 rfl) ?_
  refine va_get hx hb hts hinX11 hown hK hPr 0 rfl rfl 2 (by decide) k1 (fun _ h => h) rfl dX11_about_1 ?_
  refine lv_iload_n hx hb dX11_about_4 rfl (lv_at hl 1 rfl) ?_
  refine z_pV (As := [zi qb]) (rest := []) hC (c_X4_find l D y f0 fa fn fr qb h0 (by first | assumption | omega) hfr) (cwV 1 hts gX11_about_X4_find rfl rfl rfl (by decide +kernel) ⟨Nat.le_of_ble_eq_true rfl, Nat.le_of_ble_eq_true rfl⟩) hG (hPr.sub (ws' := [(f0, .inr (4, [.ref fa, zi fn])), (fa, .inl (y 3, 6, .inr (.inr (.inr (.inr fr)))))]) [1, 2] rfl) 0 rfl rfl rfl hl.1 rfl (Nat.le_of_ble_eq_true rfl) dX11_about_5 ⟨Nat.le_of_ble_eq_true rfl, Nat.le_of_ble_eq_true rfl⟩ ?_
  refine lv_astore_n (lv' := [(3, .ref h0), (0, .ref x0), (1, zi qb), (2, zi wq)]) hx hb dX11_about_8 rfl hl (by decide) rfl (fun ls hl => ?_)
  refine lv_aload_n hx hb dX11_about_9 rfl (lv_at hl 0 rfl) ?_
  refine lv_ifnonnull (tgt := 15) hx hb dX11_about_10 (by decide) ?_
  refine lv_iload_n hx hb dX11_about_15 rfl (lv_at hl 3 rfl) ?_
  by_cases c16_0 : wq = 0
  · refine lv_tableIn (off := 60) (tgt := 76) hx hb dX11_about_16 (by rw [iI_t (by omega), c16_0]; decide) (by rw [iI_t (by omega), c16_0]; decide) (by rw [iI_t (by omega), c16_0]; rfl) (by decide) ?_
    refine lv_aload_n hx hb dX11_about_76 rfl (lv_at hl 0 rfl) ?_
    refine va_get hx hb hts hinX1 hown hK hPr 3 rfl rfl 0 (by decide) k2 (fun _ h => h) rfl dX11_about_77 ?_
    exact z_iret0 hx hb hr hlocks (by unfold abV; (repeat' split) <;> omega) dX11_about_80
  by_cases c16_1 : wq = 1
  · refine lv_tableIn (off := 65) (tgt := 81) hx hb dX11_about_16 (by rw [iI_t (by omega), c16_1]; decide) (by rw [iI_t (by omega), c16_1]; decide) (by rw [iI_t (by omega), c16_1]; rfl) (by decide) ?_
    refine lv_aload_n hx hb dX11_about_81 rfl (lv_at hl 0 rfl) ?_
    refine va_get hx hb hts hinX1 hown hK hPr 3 rfl rfl 1 (by decide) k3 (fun _ h => h) rfl dX11_about_82 ?_
    exact z_iret0 hx hb hr hlocks (by unfold abV; (repeat' split) <;> omega) dX11_about_85
  by_cases c16_2 : wq = 2
  · refine lv_tableIn (off := 70) (tgt := 86) hx hb dX11_about_16 (by rw [iI_t (by omega), c16_2]; decide) (by rw [iI_t (by omega), c16_2]; decide) (by rw [iI_t (by omega), c16_2]; rfl) (by decide) ?_
    refine lv_aload_n hx hb dX11_about_86 rfl (lv_at hl 0 rfl) ?_
    refine va_get hx hb hts hinX1 hown hK hPr 3 rfl rfl 2 (by decide) k4 (fun _ h => h) rfl dX11_about_87 ?_
    exact z_iret0 hx hb hr hlocks (by unfold abV; (repeat' split) <;> omega) dX11_about_90
  by_cases c16_3 : wq = 3
  · refine lv_tableIn (off := 75) (tgt := 91) hx hb dX11_about_16 (by rw [iI_t (by omega), c16_3]; decide) (by rw [iI_t (by omega), c16_3]; decide) (by rw [iI_t (by omega), c16_3]; rfl) (by decide) ?_
    refine lv_aload_n hx hb dX11_about_91 rfl (lv_at hl 0 rfl) ?_
    refine va_get hx hb hts hinX1 hown hK hPr 3 rfl rfl 3 (by decide) k5 (fun _ h => h) rfl dX11_about_92 ?_
    exact z_iret0 hx hb hr hlocks (by unfold abV; (repeat' split) <;> omega) dX11_about_95
  by_cases c16_4 : wq = 4
  · refine lv_tableIn (off := 80) (tgt := 96) hx hb dX11_about_16 (by rw [iI_t (by omega), c16_4]; decide) (by rw [iI_t (by omega), c16_4]; decide) (by rw [iI_t (by omega), c16_4]; rfl) (by decide) ?_
    refine lv_aload_n hx hb dX11_about_96 rfl (lv_at hl 0 rfl) ?_
    refine z_pV (As := []) (rest := []) hC (c_X1_a l D y h0 a1 a2 a3 bl bw bt bh bd bx bn CI CJ CW (by first | assumption | omega)) (cwV 0 hts gX11_about_X1_a rfl rfl rfl (by decide +kernel) ⟨Nat.le_of_ble_eq_true rfl, Nat.le_of_ble_eq_true rfl⟩) hG (hPr.sub (ws' := [(h0, .inr (1, [zi bl, zi bw, zi bt, zi bh, zi bd, zi bx, zi bn, .ref a1, .ref a2, .ref a3])), (a1, .inl (y 0, 8, .inl (cI CI))), (a2, .inl (y 0, 8, .inl (cI CJ))), (a3, .inl (y 0, 8, .inl (cI CW)))]) [3, 4, 5, 6] rfl) 0 rfl rfl rfl hl.1 rfl (Nat.le_of_ble_eq_true rfl) dX11_about_97 ⟨Nat.le_of_ble_eq_true rfl, Nat.le_of_ble_eq_true rfl⟩ ?_
    exact z_iret0 hx hb hr hlocks (by unfold abV; (repeat' split) <;> omega) dX11_about_100
  by_cases c16_5 : wq = 5
  · refine lv_tableIn (off := 85) (tgt := 101) hx hb dX11_about_16 (by rw [iI_t (by omega), c16_5]; decide) (by rw [iI_t (by omega), c16_5]; decide) (by rw [iI_t (by omega), c16_5]; rfl) (by decide) ?_
    refine lv_aload_n hx hb dX11_about_101 rfl (lv_at hl 0 rfl) ?_
    refine z_pV (As := []) (rest := []) hC (c_X1_b l D y h0 a1 a2 a3 bl bw bt bh bd bx bn CI CJ CW (by first | assumption | omega)) (cwV 0 hts gX11_about_X1_b rfl rfl rfl (by decide +kernel) ⟨Nat.le_of_ble_eq_true rfl, Nat.le_of_ble_eq_true rfl⟩) hG (hPr.sub (ws' := [(h0, .inr (1, [zi bl, zi bw, zi bt, zi bh, zi bd, zi bx, zi bn, .ref a1, .ref a2, .ref a3])), (a1, .inl (y 0, 8, .inl (cI CI))), (a2, .inl (y 0, 8, .inl (cI CJ))), (a3, .inl (y 0, 8, .inl (cI CW)))]) [3, 4, 5, 6] rfl) 0 rfl rfl rfl hl.1 rfl (Nat.le_of_ble_eq_true rfl) dX11_about_102 ⟨Nat.le_of_ble_eq_true rfl, Nat.le_of_ble_eq_true rfl⟩ ?_
    exact z_iret0 hx hb hr hlocks (by unfold abV; (repeat' split) <;> omega) dX11_about_105
  by_cases c16_6 : wq = 6
  · refine lv_tableIn (off := 90) (tgt := 106) hx hb dX11_about_16 (by rw [iI_t (by omega), c16_6]; decide) (by rw [iI_t (by omega), c16_6]; decide) (by rw [iI_t (by omega), c16_6]; rfl) (by decide) ?_
    refine lv_aload_n hx hb dX11_about_106 rfl (lv_at hl 0 rfl) ?_
    refine va_get hx hb hts hinX1 hown hK hPr 3 rfl rfl 4 (by decide) k6 (fun _ h => h) rfl dX11_about_107 ?_
    exact z_iret0 hx hb hr hlocks (by unfold abV; (repeat' split) <;> omega) dX11_about_110
  by_cases c16_7 : wq = 7
  · refine lv_tableIn (off := 95) (tgt := 111) hx hb dX11_about_16 (by rw [iI_t (by omega), c16_7]; decide) (by rw [iI_t (by omega), c16_7]; decide) (by rw [iI_t (by omega), c16_7]; rfl) (by decide) ?_
    refine lv_aload_n hx hb dX11_about_111 rfl (lv_at hl 0 rfl) ?_
    refine va_get hx hb hts hinX1 hown hK hPr 3 rfl rfl 5 (by decide) k7 (fun _ h => h) rfl dX11_about_112 ?_
    exact z_iret0 hx hb hr hlocks (by unfold abV; (repeat' split) <;> omega) dX11_about_115
  by_cases c16_8 : wq = 8
  · refine lv_tableIn (off := 100) (tgt := 116) hx hb dX11_about_16 (by rw [iI_t (by omega), c16_8]; decide) (by rw [iI_t (by omega), c16_8]; decide) (by rw [iI_t (by omega), c16_8]; rfl) (by decide) ?_
    refine lv_aload_n hx hb dX11_about_116 rfl (lv_at hl 0 rfl) ?_
    refine va_get hx hb hts hinX1 hown hK hPr 3 rfl rfl 6 (by decide) k8 (fun _ h => h) rfl dX11_about_117 ?_
    exact z_iret0 hx hb hr hlocks (by unfold abV; (repeat' split) <;> omega) dX11_about_120
  by_cases c16_9 : wq = 9
  · refine lv_tableIn (off := 105) (tgt := 121) hx hb dX11_about_16 (by rw [iI_t (by omega), c16_9]; decide) (by rw [iI_t (by omega), c16_9]; decide) (by rw [iI_t (by omega), c16_9]; rfl) (by decide) ?_
    refine lv_ldc (v := iI 100000) hx hb hown k9 dX11_about_121 ?_
    refine lv_aload_n hx hb dX11_about_123 rfl (lv_at hl 0 rfl) ?_
    refine z_pV (As := []) (rest := [zi 100000]) hC (c_X1_momentM l D y h0 a1 a2 a3 bl bw bt bh bd bx bn CI CJ CW (by first | assumption | omega)) (cwV 0 hts gX11_about_X1_momentM rfl rfl rfl (by decide +kernel) ⟨Nat.le_of_ble_eq_true rfl, Nat.le_of_ble_eq_true rfl⟩) hG (hPr.sub (ws' := [(h0, .inr (1, [zi bl, zi bw, zi bt, zi bh, zi bd, zi bx, zi bn, .ref a1, .ref a2, .ref a3])), (a1, .inl (y 0, 8, .inl (cI CI))), (a2, .inl (y 0, 8, .inl (cI CJ))), (a3, .inl (y 0, 8, .inl (cI CW)))]) [3, 4, 5, 6] rfl) 0 rfl rfl rfl hl.1 rfl (Nat.le_of_ble_eq_true rfl) dX11_about_124 ⟨Nat.le_of_ble_eq_true rfl, Nat.le_of_ble_eq_true rfl⟩ ?_
    refine z_iadd hx hb dX11_about_127 ?_
    exact z_iret0 hx hb hr hlocks (by unfold abV; (repeat' split) <;> omega) dX11_about_128
  by_cases c16_10 : wq = 10
  · refine lv_tableIn (off := 113) (tgt := 129) hx hb dX11_about_16 (by rw [iI_t (by omega), c16_10]; decide) (by rw [iI_t (by omega), c16_10]; decide) (by rw [iI_t (by omega), c16_10]; rfl) (by decide) ?_
    refine lv_ldc (v := iI 100000) hx hb hown k9 dX11_about_129 ?_
    refine lv_aload_n hx hb dX11_about_131 rfl (lv_at hl 0 rfl) ?_
    refine z_pV (As := []) (rest := [zi 100000]) hC (c_X1_momentN l D y h0 a1 a2 a3 bl bw bt bh bd bx bn CI CJ CW (by first | assumption | omega)) (cwV 0 hts gX11_about_X1_momentN rfl rfl rfl (by decide +kernel) ⟨Nat.le_of_ble_eq_true rfl, Nat.le_of_ble_eq_true rfl⟩) hG (hPr.sub (ws' := [(h0, .inr (1, [zi bl, zi bw, zi bt, zi bh, zi bd, zi bx, zi bn, .ref a1, .ref a2, .ref a3])), (a1, .inl (y 0, 8, .inl (cI CI))), (a2, .inl (y 0, 8, .inl (cI CJ))), (a3, .inl (y 0, 8, .inl (cI CW)))]) [3, 4, 5, 6] rfl) 0 rfl rfl rfl hl.1 rfl (Nat.le_of_ble_eq_true rfl) dX11_about_132 ⟨Nat.le_of_ble_eq_true rfl, Nat.le_of_ble_eq_true rfl⟩ ?_
    refine z_iadd hx hb dX11_about_135 ?_
    exact z_iret0 hx hb hr hlocks (by unfold abV; (repeat' split) <;> omega) dX11_about_136
  refine lv_tableOut (tgt := 137) hx hb dX11_about_16 (by rw [iI_t (by omega)]; omega) (by decide) ?_
  refine z_bipush hx hb dX11_about_137 (by decide) ?_
  exact z_iret0 hx hb hr hlocks (by unfold abV; (repeat' split) <;> omega) dX11_about_139
set_option maxHeartbeats 8000000 in
set_option maxRecDepth 100000 in
theorem c_X11_deep_no (l : Launch) (D : va_G) (y : Nat → ClassId) (x0 : Nat) (t0 : Nat) (g0 : Nat) (f0 : Nat) (r0 : Nat) (sl0 : Nat) (n0 : Nat) (d0 : Nat) (w0 : Nat) (c0 : Nat) (fa : Nat) (fn : Int) (fr : Nat → Option Nat) (qb : Int) (ts : Int) (uq : Int) (hqb : rI qb ∧ 0 ≤ fn ∧ fn ≤ 6 ∧ ¬ (0 ≤ qb ∧ qb < fn)) : Met l yX11_deep wsX11_deep ({ frames := 1, cells := 0, slots := 0, locals := 21 } : Room) (pPc D y [(x0, .inr (10, [.ref t0, .ref g0, .ref f0, .ref r0, .ref sl0, .ref n0, .ref d0, .ref w0, .ref c0])), (f0, .inr (4, [.ref fa, zi fn])), (fa, .inl (y 3, 6, .inr (.inr (.inr (.inr fr)))))] [.ref x0, zi qb, zi ts, zi uq]) (qV (zl (-1))) 0 0 (fun _ => False) := by
  refine P_of (own := RX11) (cc := cX11_deep) (maxL := 5) (ret := some .long) (by decide) rfl rfl (Nat.le_of_ble_eq_true rfl) (fun p e s m below meth c ls hx hb hr hC hlocks hPr hG hl => ?_)
  have hC0 := hC
  obtain ⟨-, -, hml, hown, hts⟩ := hC0
  have hK := hG.1
  have hinX11 : ∀ w ∈ wsX110, w ∈ wsX11_deep := fun _ h => List.mem_cons_of_mem _ (List.mem_append_left _ (List.mem_append_left _ (List.mem_append_right _ h)))
  have k1 := hts (.fieldLink RX11 26 "BoatsOfPaper" "theFleet" "LBoatsOfPaper$Fleet;") (List.mem_of_getElem? (i := 1) rfl)
  have k2 := hts (.constantLong RX11 163 (-1)) (List.mem_of_getElem? (i := 2) rfl)
  have hl : lv_has ls 5 [(0, .ref x0), (1, zi qb), (2, zi ts), (3, zi uq)] := hl
  refine lv_aload_n hx hb dX11_deep_0 rfl (lv_at hl 0 rfl) ?_
  refine va_get hx hb hts hinX11 hown hK hPr 0 rfl rfl 2 (by decide) k1 (fun _ h => h) rfl dX11_deep_1 ?_
  refine lv_iload_n hx hb dX11_deep_4 rfl (lv_at hl 1 rfl) ?_
  refine z_pV (As := [zi qb]) (rest := []) hC (c_X4_find_no l D y f0 fa fn fr qb (by first | assumption | omega)) (cwV 1 hts gX11_deep_X4_find rfl rfl rfl (by decide +kernel) ⟨Nat.le_of_ble_eq_true rfl, Nat.le_of_ble_eq_true rfl⟩) hG (hPr.sub (ws' := [(f0, .inr (4, [.ref fa, zi fn])), (fa, .inl (y 3, 6, .inr (.inr (.inr (.inr fr)))))]) [1, 2] rfl) 0 rfl rfl rfl hl.1 rfl (Nat.le_of_ble_eq_true rfl) dX11_deep_5 ⟨Nat.le_of_ble_eq_true rfl, Nat.le_of_ble_eq_true rfl⟩ ?_
  refine lv_astoreN (lv' := [(4, .null), (0, .ref x0), (1, zi qb), (2, zi ts), (3, zi uq)]) hx hb dX11_deep_8 hl (by decide) rfl (fun ls hl => ?_)
  refine lv_aloadN hx hb dX11_deep_10 (lv_at hl 0 rfl) ?_
  refine lv_ifnonnullN hx hb dX11_deep_12 ?_
  refine lv_ldc2 (v := iL (-1)) hx hb hown k2 dX11_deep_15 ?_
  exact z_lret0 hx hb hr hlocks (rfl) dX11_deep_18
set_option maxHeartbeats 8000000 in
set_option maxRecDepth 100000 in
theorem c_X11_deep_out (l : Launch) (D : va_G) (y : Nat → ClassId) (x0 : Nat) (t0 : Nat) (g0 : Nat) (f0 : Nat) (r0 : Nat) (sl0 : Nat) (n0 : Nat) (d0 : Nat) (w0 : Nat) (c0 : Nat) (fa : Nat) (fn : Int) (fr : Nat → Option Nat) (qb : Int) (h0 : Nat) (a1 : Nat) (a2 : Nat) (a3 : Nat) (bl : Int) (bw : Int) (bt : Int) (bh : Int) (bd : Int) (bx : Int) (bn : Int) (CI : Int → Int) (CJ : Int → Int) (CW : Int → Int) (ts : Int) (uq : Int) (hqb : 0 ≤ fn ∧ fn ≤ 6 ∧ 0 ≤ qb ∧ qb < fn) (hfr : fr qb.toNat = some h0) (hB : bOK bl bw bt bh bd bx bn CI CJ CW) (hr9 : rI ts) (hq : ¬ (0 ≤ ts ∧ ts ≤ 999)) : Met l yX11_deep wsX11_deep ({ frames := 1, cells := 0, slots := 0, locals := 22 } : Room) (pPc D y [(x0, .inr (10, [.ref t0, .ref g0, .ref f0, .ref r0, .ref sl0, .ref n0, .ref d0, .ref w0, .ref c0])), (f0, .inr (4, [.ref fa, zi fn])), (fa, .inl (y 3, 6, .inr (.inr (.inr (.inr fr))))), (h0, .inr (1, [zi bl, zi bw, zi bt, zi bh, zi bd, zi bx, zi bn, .ref a1, .ref a2, .ref a3])), (a1, .inl (y 0, 8, .inl (cI CI))), (a2, .inl (y 0, 8, .inl (cI CJ))), (a3, .inl (y 0, 8, .inl (cI CW)))] [.ref x0, zi qb, zi ts, zi uq]) (qV (zl (-2))) 0 0 (fun _ => False) := by
  refine P_of (own := RX11) (cc := cX11_deep) (maxL := 5) (ret := some .long) (by decide) rfl rfl (Nat.le_of_ble_eq_true rfl) (fun p e s m below meth c ls hx hb hr hC hlocks hPr hG hl => ?_)
  have hC0 := hC
  obtain ⟨-, -, hml, hown, hts⟩ := hC0
  have hK := hG.1
  have hinX11 : ∀ w ∈ wsX110, w ∈ wsX11_deep := fun _ h => List.mem_cons_of_mem _ (List.mem_append_left _ (List.mem_append_left _ (List.mem_append_right _ h)))
  have k1 := hts (.fieldLink RX11 26 "BoatsOfPaper" "theFleet" "LBoatsOfPaper$Fleet;") (List.mem_of_getElem? (i := 1) rfl)
  have k3 := hts (.constantLong RX11 165 (-2)) (List.mem_of_getElem? (i := 3) rfl)
  have hl : lv_has ls 5 [(0, .ref x0), (1, zi qb), (2, zi ts), (3, zi uq)] := hl
  obtain ⟨q1, q2, q3, q4, q5, q6, q7, q8, q9, qc⟩ := id hB
  refine lv_aload_n hx hb dX11_deep_0 rfl (lv_at hl 0 rfl) ?_
  refine va_get hx hb hts hinX11 hown hK hPr 0 rfl rfl 2 (by decide) k1 (fun _ h => h) rfl dX11_deep_1 ?_
  refine lv_iload_n hx hb dX11_deep_4 rfl (lv_at hl 1 rfl) ?_
  refine z_pV (As := [zi qb]) (rest := []) hC (c_X4_find l D y f0 fa fn fr qb h0 (by first | assumption | omega) hfr) (cwV 1 hts gX11_deep_X4_find rfl rfl rfl (by decide +kernel) ⟨Nat.le_of_ble_eq_true rfl, Nat.le_of_ble_eq_true rfl⟩) hG (hPr.sub (ws' := [(f0, .inr (4, [.ref fa, zi fn])), (fa, .inl (y 3, 6, .inr (.inr (.inr (.inr fr)))))]) [1, 2] rfl) 0 rfl rfl rfl hl.1 rfl (Nat.le_of_ble_eq_true rfl) dX11_deep_5 ⟨Nat.le_of_ble_eq_true rfl, Nat.le_of_ble_eq_true rfl⟩ ?_
  refine lv_astore (lv' := [(4, .ref h0), (0, .ref x0), (1, zi qb), (2, zi ts), (3, zi uq)]) hx hb dX11_deep_8 hl (by decide) rfl (fun ls hl => ?_)
  refine lv_aload hx hb dX11_deep_10 (lv_at hl 0 rfl) ?_
  refine lv_ifnonnull (tgt := 19) hx hb dX11_deep_12 (by decide) ?_
  refine lv_iload_n hx hb dX11_deep_19 rfl (lv_at hl 3 rfl) ?_
  refine z_iconst hx hb dX11_deep_20 ?_
  refine z_sipush hx hb dX11_deep_21 (by decide) ?_
  refine z_pS (As := [zi ts, zi 0, zi 999]) (rest := []) hC (c_X11_isWithin l D y ts 0 999 (by first | assumption | omega)) (va_cwS 3 hts gX11_deep_X11_isWithin rfl rfl rfl (by decide +kernel) ⟨Nat.le_of_ble_eq_true rfl, Nat.le_of_ble_eq_true rfl⟩) hG va_P_nil rfl hl.1 rfl (Nat.le_of_ble_eq_true rfl) dX11_deep_24 ⟨Nat.le_of_ble_eq_true rfl, Nat.le_of_ble_eq_true rfl⟩ ?_
  refine z_ifB_ne (tgt := 34) hx hb dX11_deep_27 (by decide) (fun c_27 => ?_) (fun c_27 => ?_)
  · exfalso; omega
  ·
    refine lv_ldc2 (v := iL (-2)) hx hb hown k3 dX11_deep_30 ?_
    exact z_lret0 hx hb hr hlocks (rfl) dX11_deep_33
set_option maxHeartbeats 8000000 in
set_option maxRecDepth 100000 in
theorem c_X11_deep (l : Launch) (D : va_G) (y : Nat → ClassId) (x0 : Nat) (t0 : Nat) (g0 : Nat) (f0 : Nat) (r0 : Nat) (sl0 : Nat) (n0 : Nat) (d0 : Nat) (w0 : Nat) (c0 : Nat) (fa : Nat) (fn : Int) (fr : Nat → Option Nat) (qb : Int) (h0 : Nat) (a1 : Nat) (a2 : Nat) (a3 : Nat) (bl : Int) (bw : Int) (bt : Int) (bh : Int) (bd : Int) (bx : Int) (bn : Int) (CI : Int → Int) (CJ : Int → Int) (CW : Int → Int) (ts : Int) (uq : Int) (hqb : 0 ≤ fn ∧ fn ≤ 6 ∧ 0 ≤ qb ∧ qb < fn) (hfr : fr qb.toNat = some h0) (hB : bOK bl bw bt bh bd bx bn CI CJ CW) (hs : 0 ≤ ts ∧ ts ≤ 999) (huq : uq = 0 ∨ uq = 1) : Met l yX11_deep wsX11_deep ({ frames := 2, cells := 0, slots := 0, locals := 56 } : Room) (pPc D y [(x0, .inr (10, [.ref t0, .ref g0, .ref f0, .ref r0, .ref sl0, .ref n0, .ref d0, .ref w0, .ref c0])), (f0, .inr (4, [.ref fa, zi fn])), (fa, .inl (y 3, 6, .inr (.inr (.inr (.inr fr))))), (h0, .inr (1, [zi bl, zi bw, zi bt, zi bh, zi bd, zi bx, zi bn, .ref a1, .ref a2, .ref a3])), (a1, .inl (y 0, 8, .inl (cI CI))), (a2, .inl (y 0, 8, .inl (cI CJ))), (a3, .inl (y 0, 8, .inl (cI CW)))] [.ref x0, zi qb, zi ts, zi uq]) (qV (zl (tellV (wAt bl bw bt bd bn CW ts) (100 * ((bl - 2 * bh) * (bw - 2 * bh))) uq))) 0 0 (fun _ => False) := by
  refine P_of (own := RX11) (cc := cX11_deep) (maxL := 5) (ret := some .long) (by decide) rfl rfl (Nat.le_of_ble_eq_true rfl) (fun p e s m below meth c ls hx hb hr hC hlocks hPr hG hl => ?_)
  have hC0 := hC
  obtain ⟨-, -, hml, hown, hts⟩ := hC0
  have hK := hG.1
  have hinX11 : ∀ w ∈ wsX110, w ∈ wsX11_deep := fun _ h => List.mem_cons_of_mem _ (List.mem_append_left _ (List.mem_append_left _ (List.mem_append_right _ h)))
  have k1 := hts (.fieldLink RX11 26 "BoatsOfPaper" "theFleet" "LBoatsOfPaper$Fleet;") (List.mem_of_getElem? (i := 1) rfl)
  have k4 := hts (.constantLong RX11 171 (100)) (List.mem_of_getElem? (i := 4) rfl)
  have hl : lv_has ls 5 [(0, .ref x0), (1, zi qb), (2, zi ts), (3, zi uq)] := hl
  obtain ⟨q1, q2, q3, q4, q5, q6, q7, q8, q9, qc⟩ := id hB
  have b1 := bOK_cells hB
  have b2 := wAt_bd hB hs
  refine lv_aload_n hx hb dX11_deep_0 rfl (lv_at hl 0 rfl) ?_
  refine va_get hx hb hts hinX11 hown hK hPr 0 rfl rfl 2 (by decide) k1 (fun _ h => h) rfl dX11_deep_1 ?_
  refine lv_iload_n hx hb dX11_deep_4 rfl (lv_at hl 1 rfl) ?_
  refine z_pV (As := [zi qb]) (rest := []) hC (c_X4_find l D y f0 fa fn fr qb h0 (by first | assumption | omega) hfr) (cwV 1 hts gX11_deep_X4_find rfl rfl rfl (by decide +kernel) ⟨Nat.le_of_ble_eq_true rfl, Nat.le_of_ble_eq_true rfl⟩) hG (hPr.sub (ws' := [(f0, .inr (4, [.ref fa, zi fn])), (fa, .inl (y 3, 6, .inr (.inr (.inr (.inr fr)))))]) [1, 2] rfl) 0 rfl rfl rfl hl.1 rfl (Nat.le_of_ble_eq_true rfl) dX11_deep_5 ⟨Nat.le_of_ble_eq_true rfl, Nat.le_of_ble_eq_true rfl⟩ ?_
  refine lv_astore (lv' := [(4, .ref h0), (0, .ref x0), (1, zi qb), (2, zi ts), (3, zi uq)]) hx hb dX11_deep_8 hl (by decide) rfl (fun ls hl => ?_)
  refine lv_aload hx hb dX11_deep_10 (lv_at hl 0 rfl) ?_
  refine lv_ifnonnull (tgt := 19) hx hb dX11_deep_12 (by decide) ?_
  refine lv_iload_n hx hb dX11_deep_19 rfl (lv_at hl 3 rfl) ?_
  refine z_iconst hx hb dX11_deep_20 ?_
  refine z_sipush hx hb dX11_deep_21 (by decide) ?_
  refine z_pS (As := [zi ts, zi 0, zi 999]) (rest := []) hC (c_X11_isWithin l D y ts 0 999 (by first | assumption | omega)) (va_cwS 3 hts gX11_deep_X11_isWithin rfl rfl rfl (by decide +kernel) ⟨Nat.le_of_ble_eq_true rfl, Nat.le_of_ble_eq_true rfl⟩) hG va_P_nil rfl hl.1 rfl (Nat.le_of_ble_eq_true rfl) dX11_deep_24 ⟨Nat.le_of_ble_eq_true rfl, Nat.le_of_ble_eq_true rfl⟩ ?_
  refine z_ifB_ne (tgt := 34) hx hb dX11_deep_27 (by decide) (fun c_27 => ?_) (fun c_27 => ?_)
  ·
    refine lv_aload hx hb dX11_deep_34 (lv_at hl 0 rfl) ?_
    refine lv_iload_n hx hb dX11_deep_36 rfl (lv_at hl 3 rfl) ?_
    refine z_pV (As := [zi ts]) (rest := []) hC (c_X1_weightAt l D y h0 a1 a2 a3 bl bw bt bh bd bx bn CI CJ CW ts (by first | assumption | omega) (by first | assumption | omega)) (cwV 1 hts gX11_deep_X1_weightAt rfl rfl rfl (by decide +kernel) ⟨Nat.le_of_ble_eq_true rfl, Nat.le_of_ble_eq_true rfl⟩) hG (hPr.sub (ws' := [(h0, .inr (1, [zi bl, zi bw, zi bt, zi bh, zi bd, zi bx, zi bn, .ref a1, .ref a2, .ref a3])), (a1, .inl (y 0, 8, .inl (cI CI))), (a2, .inl (y 0, 8, .inl (cI CJ))), (a3, .inl (y 0, 8, .inl (cI CW)))]) [3, 4, 5, 6] rfl) 0 rfl rfl rfl hl.1 rfl (Nat.le_of_ble_eq_true rfl) dX11_deep_37 ⟨Nat.le_of_ble_eq_true rfl, Nat.le_of_ble_eq_true rfl⟩ ?_
    refine z_i2l hx hb (by omega) dX11_deep_40 ?_
    refine lv_ldc2 (v := iL 100) hx hb hown k4 dX11_deep_41 ?_
    refine lv_aload hx hb dX11_deep_44 (lv_at hl 0 rfl) ?_
    refine z_pV (As := []) (rest := [zl 100, zl (wAt bl bw bt bd bn CW ts)]) hC (c_X1_cells l D y h0 a1 a2 a3 bl bw bt bh bd bx bn CI CJ CW (by first | assumption | omega)) (cwV 0 hts gX11_deep_X1_cells rfl rfl rfl (by decide +kernel) ⟨Nat.le_of_ble_eq_true rfl, Nat.le_of_ble_eq_true rfl⟩) hG (hPr.sub (ws' := [(h0, .inr (1, [zi bl, zi bw, zi bt, zi bh, zi bd, zi bx, zi bn, .ref a1, .ref a2, .ref a3])), (a1, .inl (y 0, 8, .inl (cI CI))), (a2, .inl (y 0, 8, .inl (cI CJ))), (a3, .inl (y 0, 8, .inl (cI CW)))]) [3, 4, 5, 6] rfl) 0 rfl rfl rfl hl.1 rfl (Nat.le_of_ble_eq_true rfl) dX11_deep_46 ⟨Nat.le_of_ble_eq_true rfl, Nat.le_of_ble_eq_true rfl⟩ ?_
    refine z_i2l hx hb (by omega) dX11_deep_49 ?_
    refine z_lmul hx hb dX11_deep_50 ?_
    refine lv_iload_n hx hb dX11_deep_51 rfl (lv_at hl 4 rfl) ?_
    refine z_pS (As := [zl (wAt bl bw bt bd bn CW ts), zl (100 * ((bl - 2 * bh) * (bw - 2 * bh))), zi uq]) (rest := []) hC (c_X5_tell l D y (wAt bl bw bt bd bn CW ts) (100 * ((bl - 2 * bh) * (bw - 2 * bh))) uq (by first | assumption | omega) (by first | assumption | omega)) (va_cwS 3 hts gX11_deep_X5_tell rfl rfl rfl (by decide +kernel) ⟨Nat.le_of_ble_eq_true rfl, Nat.le_of_ble_eq_true rfl⟩) hG va_P_nil rfl hl.1 rfl (Nat.le_of_ble_eq_true rfl) dX11_deep_52 ⟨Nat.le_of_ble_eq_true rfl, Nat.le_of_ble_eq_true rfl⟩ ?_
    exact z_lret0 hx hb hr hlocks (rfl) dX11_deep_55
  · exfalso; omega
set_option maxHeartbeats 8000000 in
set_option maxRecDepth 100000 in
theorem c_X11_corner_no (l : Launch) (D : va_G) (y : Nat → ClassId) (x0 : Nat) (t0 : Nat) (g0 : Nat) (f0 : Nat) (r0 : Nat) (sl0 : Nat) (n0 : Nat) (d0 : Nat) (w0 : Nat) (c0 : Nat) (fa : Nat) (fn : Int) (fr : Nat → Option Nat) (qb : Int) (ts : Int) (uq : Int) (hqb : rI qb ∧ 0 ≤ fn ∧ fn ≤ 6 ∧ ¬ (0 ≤ qb ∧ qb < fn)) : Met l yX11_corner wsX11_corner ({ frames := 1, cells := 0, slots := 0, locals := 21 } : Room) (pPc D y [(x0, .inr (10, [.ref t0, .ref g0, .ref f0, .ref r0, .ref sl0, .ref n0, .ref d0, .ref w0, .ref c0])), (f0, .inr (4, [.ref fa, zi fn])), (fa, .inl (y 3, 6, .inr (.inr (.inr (.inr fr)))))] [.ref x0, zi qb, zi ts, zi uq]) (qV (zl (-1))) 0 0 (fun _ => False) := by
  refine P_of (own := RX11) (cc := cX11_corner) (maxL := 5) (ret := some .long) (by decide) rfl rfl (Nat.le_of_ble_eq_true rfl) (fun p e s m below meth c ls hx hb hr hC hlocks hPr hG hl => ?_)
  have hC0 := hC
  obtain ⟨-, -, hml, hown, hts⟩ := hC0
  have hK := hG.1
  have hinX11 : ∀ w ∈ wsX110, w ∈ wsX11_corner := fun _ h => List.mem_cons_of_mem _ (List.mem_append_left _ (List.mem_append_left _ (List.mem_append_right _ h)))
  have k1 := hts (.fieldLink RX11 26 "BoatsOfPaper" "theFleet" "LBoatsOfPaper$Fleet;") (List.mem_of_getElem? (i := 1) rfl)
  have k2 := hts (.constantLong RX11 163 (-1)) (List.mem_of_getElem? (i := 2) rfl)
  have hl : lv_has ls 5 [(0, .ref x0), (1, zi qb), (2, zi ts), (3, zi uq)] := hl
  refine lv_aload_n hx hb dX11_corner_0 rfl (lv_at hl 0 rfl) ?_
  refine va_get hx hb hts hinX11 hown hK hPr 0 rfl rfl 2 (by decide) k1 (fun _ h => h) rfl dX11_corner_1 ?_
  refine lv_iload_n hx hb dX11_corner_4 rfl (lv_at hl 1 rfl) ?_
  refine z_pV (As := [zi qb]) (rest := []) hC (c_X4_find_no l D y f0 fa fn fr qb (by first | assumption | omega)) (cwV 1 hts gX11_corner_X4_find rfl rfl rfl (by decide +kernel) ⟨Nat.le_of_ble_eq_true rfl, Nat.le_of_ble_eq_true rfl⟩) hG (hPr.sub (ws' := [(f0, .inr (4, [.ref fa, zi fn])), (fa, .inl (y 3, 6, .inr (.inr (.inr (.inr fr)))))]) [1, 2] rfl) 0 rfl rfl rfl hl.1 rfl (Nat.le_of_ble_eq_true rfl) dX11_corner_5 ⟨Nat.le_of_ble_eq_true rfl, Nat.le_of_ble_eq_true rfl⟩ ?_
  refine lv_astoreN (lv' := [(4, .null), (0, .ref x0), (1, zi qb), (2, zi ts), (3, zi uq)]) hx hb dX11_corner_8 hl (by decide) rfl (fun ls hl => ?_)
  refine lv_aloadN hx hb dX11_corner_10 (lv_at hl 0 rfl) ?_
  refine lv_ifnonnullN hx hb dX11_corner_12 ?_
  refine lv_ldc2 (v := iL (-1)) hx hb hown k2 dX11_corner_15 ?_
  exact z_lret0 hx hb hr hlocks (rfl) dX11_corner_18
set_option maxHeartbeats 8000000 in
set_option maxRecDepth 100000 in
theorem c_X11_corner_out (l : Launch) (D : va_G) (y : Nat → ClassId) (x0 : Nat) (t0 : Nat) (g0 : Nat) (f0 : Nat) (r0 : Nat) (sl0 : Nat) (n0 : Nat) (d0 : Nat) (w0 : Nat) (c0 : Nat) (fa : Nat) (fn : Int) (fr : Nat → Option Nat) (qb : Int) (h0 : Nat) (a1 : Nat) (a2 : Nat) (a3 : Nat) (bl : Int) (bw : Int) (bt : Int) (bh : Int) (bd : Int) (bx : Int) (bn : Int) (CI : Int → Int) (CJ : Int → Int) (CW : Int → Int) (ts : Int) (uq : Int) (hqb : 0 ≤ fn ∧ fn ≤ 6 ∧ 0 ≤ qb ∧ qb < fn) (hfr : fr qb.toNat = some h0) (hB : bOK bl bw bt bh bd bx bn CI CJ CW) (hr9 : rI ts) (hq : ¬ (0 ≤ ts ∧ ts ≤ 999)) : Met l yX11_corner wsX11_corner ({ frames := 1, cells := 0, slots := 0, locals := 22 } : Room) (pPc D y [(x0, .inr (10, [.ref t0, .ref g0, .ref f0, .ref r0, .ref sl0, .ref n0, .ref d0, .ref w0, .ref c0])), (f0, .inr (4, [.ref fa, zi fn])), (fa, .inl (y 3, 6, .inr (.inr (.inr (.inr fr))))), (h0, .inr (1, [zi bl, zi bw, zi bt, zi bh, zi bd, zi bx, zi bn, .ref a1, .ref a2, .ref a3])), (a1, .inl (y 0, 8, .inl (cI CI))), (a2, .inl (y 0, 8, .inl (cI CJ))), (a3, .inl (y 0, 8, .inl (cI CW)))] [.ref x0, zi qb, zi ts, zi uq]) (qV (zl (-2))) 0 0 (fun _ => False) := by
  refine P_of (own := RX11) (cc := cX11_corner) (maxL := 5) (ret := some .long) (by decide) rfl rfl (Nat.le_of_ble_eq_true rfl) (fun p e s m below meth c ls hx hb hr hC hlocks hPr hG hl => ?_)
  have hC0 := hC
  obtain ⟨-, -, hml, hown, hts⟩ := hC0
  have hK := hG.1
  have hinX11 : ∀ w ∈ wsX110, w ∈ wsX11_corner := fun _ h => List.mem_cons_of_mem _ (List.mem_append_left _ (List.mem_append_left _ (List.mem_append_right _ h)))
  have k1 := hts (.fieldLink RX11 26 "BoatsOfPaper" "theFleet" "LBoatsOfPaper$Fleet;") (List.mem_of_getElem? (i := 1) rfl)
  have k3 := hts (.constantLong RX11 165 (-2)) (List.mem_of_getElem? (i := 3) rfl)
  have hl : lv_has ls 5 [(0, .ref x0), (1, zi qb), (2, zi ts), (3, zi uq)] := hl
  obtain ⟨q1, q2, q3, q4, q5, q6, q7, q8, q9, qc⟩ := id hB
  refine lv_aload_n hx hb dX11_corner_0 rfl (lv_at hl 0 rfl) ?_
  refine va_get hx hb hts hinX11 hown hK hPr 0 rfl rfl 2 (by decide) k1 (fun _ h => h) rfl dX11_corner_1 ?_
  refine lv_iload_n hx hb dX11_corner_4 rfl (lv_at hl 1 rfl) ?_
  refine z_pV (As := [zi qb]) (rest := []) hC (c_X4_find l D y f0 fa fn fr qb h0 (by first | assumption | omega) hfr) (cwV 1 hts gX11_corner_X4_find rfl rfl rfl (by decide +kernel) ⟨Nat.le_of_ble_eq_true rfl, Nat.le_of_ble_eq_true rfl⟩) hG (hPr.sub (ws' := [(f0, .inr (4, [.ref fa, zi fn])), (fa, .inl (y 3, 6, .inr (.inr (.inr (.inr fr)))))]) [1, 2] rfl) 0 rfl rfl rfl hl.1 rfl (Nat.le_of_ble_eq_true rfl) dX11_corner_5 ⟨Nat.le_of_ble_eq_true rfl, Nat.le_of_ble_eq_true rfl⟩ ?_
  refine lv_astore (lv' := [(4, .ref h0), (0, .ref x0), (1, zi qb), (2, zi ts), (3, zi uq)]) hx hb dX11_corner_8 hl (by decide) rfl (fun ls hl => ?_)
  refine lv_aload hx hb dX11_corner_10 (lv_at hl 0 rfl) ?_
  refine lv_ifnonnull (tgt := 19) hx hb dX11_corner_12 (by decide) ?_
  refine lv_iload_n hx hb dX11_corner_19 rfl (lv_at hl 3 rfl) ?_
  refine z_iconst hx hb dX11_corner_20 ?_
  refine z_sipush hx hb dX11_corner_21 (by decide) ?_
  refine z_pS (As := [zi ts, zi 0, zi 999]) (rest := []) hC (c_X11_isWithin l D y ts 0 999 (by first | assumption | omega)) (va_cwS 3 hts gX11_corner_X11_isWithin rfl rfl rfl (by decide +kernel) ⟨Nat.le_of_ble_eq_true rfl, Nat.le_of_ble_eq_true rfl⟩) hG va_P_nil rfl hl.1 rfl (Nat.le_of_ble_eq_true rfl) dX11_corner_24 ⟨Nat.le_of_ble_eq_true rfl, Nat.le_of_ble_eq_true rfl⟩ ?_
  refine z_ifB_ne (tgt := 34) hx hb dX11_corner_27 (by decide) (fun c_27 => ?_) (fun c_27 => ?_)
  · exfalso; omega
  ·
    refine lv_ldc2 (v := iL (-2)) hx hb hown k3 dX11_corner_30 ?_
    exact z_lret0 hx hb hr hlocks (rfl) dX11_corner_33
set_option maxHeartbeats 8000000 in
set_option maxRecDepth 100000 in
theorem c_X11_corner (l : Launch) (D : va_G) (y : Nat → ClassId) (x0 : Nat) (t0 : Nat) (g0 : Nat) (f0 : Nat) (r0 : Nat) (sl0 : Nat) (n0 : Nat) (d0 : Nat) (w0 : Nat) (c0 : Nat) (fa : Nat) (fn : Int) (fr : Nat → Option Nat) (qb : Int) (h0 : Nat) (a1 : Nat) (a2 : Nat) (a3 : Nat) (bl : Int) (bw : Int) (bt : Int) (bh : Int) (bd : Int) (bx : Int) (bn : Int) (CI : Int → Int) (CJ : Int → Int) (CW : Int → Int) (ts : Int) (uq : Int) (hqb : 0 ≤ fn ∧ fn ≤ 6 ∧ 0 ≤ qb ∧ qb < fn) (hfr : fr qb.toNat = some h0) (hB : bOK bl bw bt bh bd bx bn CI CJ CW) (hs : 0 ≤ ts ∧ ts ≤ 999) (huq : uq = 0 ∨ uq = 1) : Met l yX11_corner wsX11_corner ({ frames := 4, cells := 0, slots := 0, locals := 84 } : Room) (pPc D y [(x0, .inr (10, [.ref t0, .ref g0, .ref f0, .ref r0, .ref sl0, .ref n0, .ref d0, .ref w0, .ref c0])), (f0, .inr (4, [.ref fa, zi fn])), (fa, .inl (y 3, 6, .inr (.inr (.inr (.inr fr))))), (h0, .inr (1, [zi bl, zi bw, zi bt, zi bh, zi bd, zi bx, zi bn, .ref a1, .ref a2, .ref a3])), (a1, .inl (y 0, 8, .inl (cI CI))), (a2, .inl (y 0, 8, .inl (cI CJ))), (a3, .inl (y 0, 8, .inl (cI CW)))] [.ref x0, zi qb, zi ts, zi uq]) (qV (zl (tellV (corAt bl bw bt bh bd bn CI CJ CW ts) (unitV (bl - 2 * bh) (bw - 2 * bh)) uq))) 0 0 (fun _ => False) := by
  refine P_of (own := RX11) (cc := cX11_corner) (maxL := 5) (ret := some .long) (by decide) rfl rfl (Nat.le_of_ble_eq_true rfl) (fun p e s m below meth c ls hx hb hr hC hlocks hPr hG hl => ?_)
  have hC0 := hC
  obtain ⟨-, -, hml, hown, hts⟩ := hC0
  have hK := hG.1
  have hinX11 : ∀ w ∈ wsX110, w ∈ wsX11_corner := fun _ h => List.mem_cons_of_mem _ (List.mem_append_left _ (List.mem_append_left _ (List.mem_append_right _ h)))
  have k1 := hts (.fieldLink RX11 26 "BoatsOfPaper" "theFleet" "LBoatsOfPaper$Fleet;") (List.mem_of_getElem? (i := 1) rfl)
  have hl : lv_has ls 5 [(0, .ref x0), (1, zi qb), (2, zi ts), (3, zi uq)] := hl
  obtain ⟨q1, q2, q3, q4, q5, q6, q7, q8, q9, qc⟩ := id hB
  have b1 := bOK_cells hB
  have b2 := wAt_bd hB hs
  have b3 := corAt_bd hB hs
  have b4 := unit_bd (a := bl - 2 * bh) (b := bw - 2 * bh) (by omega) (by omega)
  refine lv_aload_n hx hb dX11_corner_0 rfl (lv_at hl 0 rfl) ?_
  refine va_get hx hb hts hinX11 hown hK hPr 0 rfl rfl 2 (by decide) k1 (fun _ h => h) rfl dX11_corner_1 ?_
  refine lv_iload_n hx hb dX11_corner_4 rfl (lv_at hl 1 rfl) ?_
  refine z_pV (As := [zi qb]) (rest := []) hC (c_X4_find l D y f0 fa fn fr qb h0 (by first | assumption | omega) hfr) (cwV 1 hts gX11_corner_X4_find rfl rfl rfl (by decide +kernel) ⟨Nat.le_of_ble_eq_true rfl, Nat.le_of_ble_eq_true rfl⟩) hG (hPr.sub (ws' := [(f0, .inr (4, [.ref fa, zi fn])), (fa, .inl (y 3, 6, .inr (.inr (.inr (.inr fr)))))]) [1, 2] rfl) 0 rfl rfl rfl hl.1 rfl (Nat.le_of_ble_eq_true rfl) dX11_corner_5 ⟨Nat.le_of_ble_eq_true rfl, Nat.le_of_ble_eq_true rfl⟩ ?_
  refine lv_astore (lv' := [(4, .ref h0), (0, .ref x0), (1, zi qb), (2, zi ts), (3, zi uq)]) hx hb dX11_corner_8 hl (by decide) rfl (fun ls hl => ?_)
  refine lv_aload hx hb dX11_corner_10 (lv_at hl 0 rfl) ?_
  refine lv_ifnonnull (tgt := 19) hx hb dX11_corner_12 (by decide) ?_
  refine lv_iload_n hx hb dX11_corner_19 rfl (lv_at hl 3 rfl) ?_
  refine z_iconst hx hb dX11_corner_20 ?_
  refine z_sipush hx hb dX11_corner_21 (by decide) ?_
  refine z_pS (As := [zi ts, zi 0, zi 999]) (rest := []) hC (c_X11_isWithin l D y ts 0 999 (by first | assumption | omega)) (va_cwS 3 hts gX11_corner_X11_isWithin rfl rfl rfl (by decide +kernel) ⟨Nat.le_of_ble_eq_true rfl, Nat.le_of_ble_eq_true rfl⟩) hG va_P_nil rfl hl.1 rfl (Nat.le_of_ble_eq_true rfl) dX11_corner_24 ⟨Nat.le_of_ble_eq_true rfl, Nat.le_of_ble_eq_true rfl⟩ ?_
  refine z_ifB_ne (tgt := 34) hx hb dX11_corner_27 (by decide) (fun c_27 => ?_) (fun c_27 => ?_)
  ·
    refine lv_aload hx hb dX11_corner_34 (lv_at hl 0 rfl) ?_
    refine lv_iload_n hx hb dX11_corner_36 rfl (lv_at hl 3 rfl) ?_
    refine z_pV (As := [zi ts]) (rest := []) hC (c_X1_cornerAt l D y h0 a1 a2 a3 bl bw bt bh bd bx bn CI CJ CW ts (by first | assumption | omega) (by first | assumption | omega)) (cwV 1 hts gX11_corner_X1_cornerAt rfl rfl rfl (by decide +kernel) ⟨Nat.le_of_ble_eq_true rfl, Nat.le_of_ble_eq_true rfl⟩) hG (hPr.sub (ws' := [(h0, .inr (1, [zi bl, zi bw, zi bt, zi bh, zi bd, zi bx, zi bn, .ref a1, .ref a2, .ref a3])), (a1, .inl (y 0, 8, .inl (cI CI))), (a2, .inl (y 0, 8, .inl (cI CJ))), (a3, .inl (y 0, 8, .inl (cI CW)))]) [3, 4, 5, 6] rfl) 0 rfl rfl rfl hl.1 rfl (Nat.le_of_ble_eq_true rfl) dX11_corner_37 ⟨Nat.le_of_ble_eq_true rfl, Nat.le_of_ble_eq_true rfl⟩ ?_
    refine lv_aload hx hb dX11_corner_40 (lv_at hl 0 rfl) ?_
    refine z_pV (As := []) (rest := [zl (corAt bl bw bt bh bd bn CI CJ CW ts)]) hC (c_X1_cornerUnit l D y h0 a1 a2 a3 bl bw bt bh bd bx bn CI CJ CW (by first | assumption | omega)) (cwV 0 hts gX11_corner_X1_cornerUnit rfl rfl rfl (by decide +kernel) ⟨Nat.le_of_ble_eq_true rfl, Nat.le_of_ble_eq_true rfl⟩) hG (hPr.sub (ws' := [(h0, .inr (1, [zi bl, zi bw, zi bt, zi bh, zi bd, zi bx, zi bn, .ref a1, .ref a2, .ref a3])), (a1, .inl (y 0, 8, .inl (cI CI))), (a2, .inl (y 0, 8, .inl (cI CJ))), (a3, .inl (y 0, 8, .inl (cI CW)))]) [3, 4, 5, 6] rfl) 0 rfl rfl rfl hl.1 rfl (Nat.le_of_ble_eq_true rfl) dX11_corner_42 ⟨Nat.le_of_ble_eq_true rfl, Nat.le_of_ble_eq_true rfl⟩ ?_
    refine lv_iload_n hx hb dX11_corner_45 rfl (lv_at hl 4 rfl) ?_
    refine z_pS (As := [zl (corAt bl bw bt bh bd bn CI CJ CW ts), zl (unitV (bl - 2 * bh) (bw - 2 * bh)), zi uq]) (rest := []) hC (c_X5_tell l D y (corAt bl bw bt bh bd bn CI CJ CW ts) (unitV (bl - 2 * bh) (bw - 2 * bh)) uq (by first | assumption | omega) (by first | assumption | omega)) (va_cwS 3 hts gX11_corner_X5_tell rfl rfl rfl (by decide +kernel) ⟨Nat.le_of_ble_eq_true rfl, Nat.le_of_ble_eq_true rfl⟩) hG va_P_nil rfl hl.1 rfl (Nat.le_of_ble_eq_true rfl) dX11_corner_46 ⟨Nat.le_of_ble_eq_true rfl, Nat.le_of_ble_eq_true rfl⟩ ?_
    exact z_lret0 hx hb hr hlocks (rfl) dX11_corner_49
  · exfalso; omega
set_option maxHeartbeats 8000000 in
set_option maxRecDepth 100000 in
theorem c_X11_under_no (l : Launch) (D : va_G) (y : Nat → ClassId) (x0 : Nat) (t0 : Nat) (g0 : Nat) (f0 : Nat) (r0 : Nat) (sl0 : Nat) (n0 : Nat) (d0 : Nat) (w0 : Nat) (c0 : Nat) (fa : Nat) (fn : Int) (fr : Nat → Option Nat) (qb : Int) (ts : Int) (hqb : rI qb ∧ 0 ≤ fn ∧ fn ≤ 6 ∧ ¬ (0 ≤ qb ∧ qb < fn)) : Met l yX11_under wsX11_under ({ frames := 1, cells := 0, slots := 0, locals := 21 } : Room) (pPc D y [(x0, .inr (10, [.ref t0, .ref g0, .ref f0, .ref r0, .ref sl0, .ref n0, .ref d0, .ref w0, .ref c0])), (f0, .inr (4, [.ref fa, zi fn])), (fa, .inl (y 3, 6, .inr (.inr (.inr (.inr fr)))))] [.ref x0, zi qb, zi ts]) (qV (zi (-1))) 0 0 (fun _ => False) := by
  refine P_of (own := RX11) (cc := cX11_under) (maxL := 4) (ret := some .int) (by decide) rfl rfl (Nat.le_of_ble_eq_true rfl) (fun p e s m below meth c ls hx hb hr hC hlocks hPr hG hl => ?_)
  have hC0 := hC
  obtain ⟨-, -, hml, hown, hts⟩ := hC0
  have hK := hG.1
  have hinX11 : ∀ w ∈ wsX110, w ∈ wsX11_under := fun _ h => List.mem_cons_of_mem _ (List.mem_append_left _ (List.mem_append_left _ (List.mem_append_right _ h)))
  have k1 := hts (.fieldLink RX11 26 "BoatsOfPaper" "theFleet" "LBoatsOfPaper$Fleet;") (List.mem_of_getElem? (i := 1) rfl)
  have hl : lv_has ls 4 [(0, .ref x0), (1, zi qb), (2, zi ts)] := hl
  refine lv_aload_n hx hb dX11_under_0 rfl (lv_at hl 0 rfl) ?_
  refine va_get hx hb hts hinX11 hown hK hPr 0 rfl rfl 2 (by decide) k1 (fun _ h => h) rfl dX11_under_1 ?_
  refine lv_iload_n hx hb dX11_under_4 rfl (lv_at hl 1 rfl) ?_
  refine z_pV (As := [zi qb]) (rest := []) hC (c_X4_find_no l D y f0 fa fn fr qb (by first | assumption | omega)) (cwV 1 hts gX11_under_X4_find rfl rfl rfl (by decide +kernel) ⟨Nat.le_of_ble_eq_true rfl, Nat.le_of_ble_eq_true rfl⟩) hG (hPr.sub (ws' := [(f0, .inr (4, [.ref fa, zi fn])), (fa, .inl (y 3, 6, .inr (.inr (.inr (.inr fr)))))]) [1, 2] rfl) 0 rfl rfl rfl hl.1 rfl (Nat.le_of_ble_eq_true rfl) dX11_under_5 ⟨Nat.le_of_ble_eq_true rfl, Nat.le_of_ble_eq_true rfl⟩ ?_
  refine lv_astore_nN (lv' := [(3, .null), (0, .ref x0), (1, zi qb), (2, zi ts)]) hx hb dX11_under_8 rfl hl (by decide) rfl (fun ls hl => ?_)
  refine lv_aload_nN hx hb dX11_under_9 rfl (lv_at hl 0 rfl) ?_
  refine lv_ifnonnullN hx hb dX11_under_10 ?_
  refine z_iconst hx hb dX11_under_13 ?_
  exact z_iret0 hx hb hr hlocks (rfl) dX11_under_14
set_option maxHeartbeats 8000000 in
set_option maxRecDepth 100000 in
theorem c_X11_under_out (l : Launch) (D : va_G) (y : Nat → ClassId) (x0 : Nat) (t0 : Nat) (g0 : Nat) (f0 : Nat) (r0 : Nat) (sl0 : Nat) (n0 : Nat) (d0 : Nat) (w0 : Nat) (c0 : Nat) (fa : Nat) (fn : Int) (fr : Nat → Option Nat) (qb : Int) (h0 : Nat) (a1 : Nat) (a2 : Nat) (a3 : Nat) (bl : Int) (bw : Int) (bt : Int) (bh : Int) (bd : Int) (bx : Int) (bn : Int) (CI : Int → Int) (CJ : Int → Int) (CW : Int → Int) (ts : Int) (hqb : 0 ≤ fn ∧ fn ≤ 6 ∧ 0 ≤ qb ∧ qb < fn) (hfr : fr qb.toNat = some h0) (hB : bOK bl bw bt bh bd bx bn CI CJ CW) (hr9 : rI ts) (hq : ¬ (0 ≤ ts ∧ ts ≤ 999)) : Met l yX11_under wsX11_under ({ frames := 1, cells := 0, slots := 0, locals := 22 } : Room) (pPc D y [(x0, .inr (10, [.ref t0, .ref g0, .ref f0, .ref r0, .ref sl0, .ref n0, .ref d0, .ref w0, .ref c0])), (f0, .inr (4, [.ref fa, zi fn])), (fa, .inl (y 3, 6, .inr (.inr (.inr (.inr fr))))), (h0, .inr (1, [zi bl, zi bw, zi bt, zi bh, zi bd, zi bx, zi bn, .ref a1, .ref a2, .ref a3])), (a1, .inl (y 0, 8, .inl (cI CI))), (a2, .inl (y 0, 8, .inl (cI CJ))), (a3, .inl (y 0, 8, .inl (cI CW)))] [.ref x0, zi qb, zi ts]) (qV (zi (-2))) 0 0 (fun _ => False) := by
  refine P_of (own := RX11) (cc := cX11_under) (maxL := 4) (ret := some .int) (by decide) rfl rfl (Nat.le_of_ble_eq_true rfl) (fun p e s m below meth c ls hx hb hr hC hlocks hPr hG hl => ?_)
  have hC0 := hC
  obtain ⟨-, -, hml, hown, hts⟩ := hC0
  have hK := hG.1
  have hinX11 : ∀ w ∈ wsX110, w ∈ wsX11_under := fun _ h => List.mem_cons_of_mem _ (List.mem_append_left _ (List.mem_append_left _ (List.mem_append_right _ h)))
  have k1 := hts (.fieldLink RX11 26 "BoatsOfPaper" "theFleet" "LBoatsOfPaper$Fleet;") (List.mem_of_getElem? (i := 1) rfl)
  have hl : lv_has ls 4 [(0, .ref x0), (1, zi qb), (2, zi ts)] := hl
  obtain ⟨q1, q2, q3, q4, q5, q6, q7, q8, q9, qc⟩ := id hB
  refine lv_aload_n hx hb dX11_under_0 rfl (lv_at hl 0 rfl) ?_
  refine va_get hx hb hts hinX11 hown hK hPr 0 rfl rfl 2 (by decide) k1 (fun _ h => h) rfl dX11_under_1 ?_
  refine lv_iload_n hx hb dX11_under_4 rfl (lv_at hl 1 rfl) ?_
  refine z_pV (As := [zi qb]) (rest := []) hC (c_X4_find l D y f0 fa fn fr qb h0 (by first | assumption | omega) hfr) (cwV 1 hts gX11_under_X4_find rfl rfl rfl (by decide +kernel) ⟨Nat.le_of_ble_eq_true rfl, Nat.le_of_ble_eq_true rfl⟩) hG (hPr.sub (ws' := [(f0, .inr (4, [.ref fa, zi fn])), (fa, .inl (y 3, 6, .inr (.inr (.inr (.inr fr)))))]) [1, 2] rfl) 0 rfl rfl rfl hl.1 rfl (Nat.le_of_ble_eq_true rfl) dX11_under_5 ⟨Nat.le_of_ble_eq_true rfl, Nat.le_of_ble_eq_true rfl⟩ ?_
  refine lv_astore_n (lv' := [(3, .ref h0), (0, .ref x0), (1, zi qb), (2, zi ts)]) hx hb dX11_under_8 rfl hl (by decide) rfl (fun ls hl => ?_)
  refine lv_aload_n hx hb dX11_under_9 rfl (lv_at hl 0 rfl) ?_
  refine lv_ifnonnull (tgt := 15) hx hb dX11_under_10 (by decide) ?_
  refine lv_iload_n hx hb dX11_under_15 rfl (lv_at hl 3 rfl) ?_
  refine z_iconst hx hb dX11_under_16 ?_
  refine z_sipush hx hb dX11_under_17 (by decide) ?_
  refine z_pS (As := [zi ts, zi 0, zi 999]) (rest := []) hC (c_X11_isWithin l D y ts 0 999 (by first | assumption | omega)) (va_cwS 3 hts gX11_under_X11_isWithin rfl rfl rfl (by decide +kernel) ⟨Nat.le_of_ble_eq_true rfl, Nat.le_of_ble_eq_true rfl⟩) hG va_P_nil rfl hl.1 rfl (Nat.le_of_ble_eq_true rfl) dX11_under_20 ⟨Nat.le_of_ble_eq_true rfl, Nat.le_of_ble_eq_true rfl⟩ ?_
  refine z_ifB_ne (tgt := 29) hx hb dX11_under_23 (by decide) (fun c_23 => ?_) (fun c_23 => ?_)
  · exfalso; omega
  ·
    refine z_bipush hx hb dX11_under_26 (by decide) ?_
    exact z_iret0 hx hb hr hlocks (rfl) dX11_under_28
set_option maxHeartbeats 8000000 in
set_option maxRecDepth 100000 in
theorem c_X11_under (l : Launch) (D : va_G) (y : Nat → ClassId) (x0 : Nat) (t0 : Nat) (g0 : Nat) (f0 : Nat) (r0 : Nat) (sl0 : Nat) (n0 : Nat) (d0 : Nat) (w0 : Nat) (c0 : Nat) (fa : Nat) (fn : Int) (fr : Nat → Option Nat) (qb : Int) (h0 : Nat) (a1 : Nat) (a2 : Nat) (a3 : Nat) (bl : Int) (bw : Int) (bt : Int) (bh : Int) (bd : Int) (bx : Int) (bn : Int) (CI : Int → Int) (CJ : Int → Int) (CW : Int → Int) (ts : Int) (hqb : 0 ≤ fn ∧ fn ≤ 6 ∧ 0 ≤ qb ∧ qb < fn) (hfr : fr qb.toNat = some h0) (hB : bOK bl bw bt bh bd bx bn CI CJ CW) (hs : 0 ≤ ts ∧ ts ≤ 999) : Met l yX11_under wsX11_under ({ frames := 4, cells := 0, slots := 0, locals := 84 } : Room) (pPc D y [(x0, .inr (10, [.ref t0, .ref g0, .ref f0, .ref r0, .ref sl0, .ref n0, .ref d0, .ref w0, .ref c0])), (f0, .inr (4, [.ref fa, zi fn])), (fa, .inl (y 3, 6, .inr (.inr (.inr (.inr fr))))), (h0, .inr (1, [zi bl, zi bw, zi bt, zi bh, zi bd, zi bx, zi bn, .ref a1, .ref a2, .ref a3])), (a1, .inl (y 0, 8, .inl (cI CI))), (a2, .inl (y 0, 8, .inl (cI CJ))), (a3, .inl (y 0, 8, .inl (cI CW)))] [.ref x0, zi qb, zi ts]) (qV (zi (bI (roomV (bl - 2 * bh) (bw - 2 * bh) bh (corAt bl bw bt bh bd bn CI CJ CW ts) < 0)))) 0 0 (fun _ => False) := by
  refine P_of (own := RX11) (cc := cX11_under) (maxL := 4) (ret := some .int) (by decide) rfl rfl (Nat.le_of_ble_eq_true rfl) (fun p e s m below meth c ls hx hb hr hC hlocks hPr hG hl => ?_)
  have hC0 := hC
  obtain ⟨-, -, hml, hown, hts⟩ := hC0
  have hK := hG.1
  have hinX11 : ∀ w ∈ wsX110, w ∈ wsX11_under := fun _ h => List.mem_cons_of_mem _ (List.mem_append_left _ (List.mem_append_left _ (List.mem_append_right _ h)))
  have k1 := hts (.fieldLink RX11 26 "BoatsOfPaper" "theFleet" "LBoatsOfPaper$Fleet;") (List.mem_of_getElem? (i := 1) rfl)
  have hl : lv_has ls 4 [(0, .ref x0), (1, zi qb), (2, zi ts)] := hl
  obtain ⟨q1, q2, q3, q4, q5, q6, q7, q8, q9, qc⟩ := id hB
  have b1 := bOK_cells hB
  have b2 := wAt_bd hB hs
  have b3 := corAt_bd hB hs
  have b4 := unit_bd (a := bl - 2 * bh) (b := bw - 2 * bh) (by omega) (by omega)
  have b5 := room_bd (a := bl - 2 * bh) (b := bw - 2 * bh) (bh := bh) (by omega) (by omega) (by omega) b3
  refine lv_aload_n hx hb dX11_under_0 rfl (lv_at hl 0 rfl) ?_
  refine va_get hx hb hts hinX11 hown hK hPr 0 rfl rfl 2 (by decide) k1 (fun _ h => h) rfl dX11_under_1 ?_
  refine lv_iload_n hx hb dX11_under_4 rfl (lv_at hl 1 rfl) ?_
  refine z_pV (As := [zi qb]) (rest := []) hC (c_X4_find l D y f0 fa fn fr qb h0 (by first | assumption | omega) hfr) (cwV 1 hts gX11_under_X4_find rfl rfl rfl (by decide +kernel) ⟨Nat.le_of_ble_eq_true rfl, Nat.le_of_ble_eq_true rfl⟩) hG (hPr.sub (ws' := [(f0, .inr (4, [.ref fa, zi fn])), (fa, .inl (y 3, 6, .inr (.inr (.inr (.inr fr)))))]) [1, 2] rfl) 0 rfl rfl rfl hl.1 rfl (Nat.le_of_ble_eq_true rfl) dX11_under_5 ⟨Nat.le_of_ble_eq_true rfl, Nat.le_of_ble_eq_true rfl⟩ ?_
  refine lv_astore_n (lv' := [(3, .ref h0), (0, .ref x0), (1, zi qb), (2, zi ts)]) hx hb dX11_under_8 rfl hl (by decide) rfl (fun ls hl => ?_)
  refine lv_aload_n hx hb dX11_under_9 rfl (lv_at hl 0 rfl) ?_
  refine lv_ifnonnull (tgt := 15) hx hb dX11_under_10 (by decide) ?_
  refine lv_iload_n hx hb dX11_under_15 rfl (lv_at hl 3 rfl) ?_
  refine z_iconst hx hb dX11_under_16 ?_
  refine z_sipush hx hb dX11_under_17 (by decide) ?_
  refine z_pS (As := [zi ts, zi 0, zi 999]) (rest := []) hC (c_X11_isWithin l D y ts 0 999 (by first | assumption | omega)) (va_cwS 3 hts gX11_under_X11_isWithin rfl rfl rfl (by decide +kernel) ⟨Nat.le_of_ble_eq_true rfl, Nat.le_of_ble_eq_true rfl⟩) hG va_P_nil rfl hl.1 rfl (Nat.le_of_ble_eq_true rfl) dX11_under_20 ⟨Nat.le_of_ble_eq_true rfl, Nat.le_of_ble_eq_true rfl⟩ ?_
  refine z_ifB_ne (tgt := 29) hx hb dX11_under_23 (by decide) (fun c_23 => ?_) (fun c_23 => ?_)
  ·
    refine lv_aload_n hx hb dX11_under_29 rfl (lv_at hl 0 rfl) ?_
    refine lv_aload_n hx hb dX11_under_30 rfl (lv_at hl 0 rfl) ?_
    refine lv_iload_n hx hb dX11_under_31 rfl (lv_at hl 3 rfl) ?_
    refine z_pV (As := [zi ts]) (rest := [.ref h0]) hC (c_X1_cornerAt l D y h0 a1 a2 a3 bl bw bt bh bd bx bn CI CJ CW ts (by first | assumption | omega) (by first | assumption | omega)) (cwV 1 hts gX11_under_X1_cornerAt rfl rfl rfl (by decide +kernel) ⟨Nat.le_of_ble_eq_true rfl, Nat.le_of_ble_eq_true rfl⟩) hG (hPr.sub (ws' := [(h0, .inr (1, [zi bl, zi bw, zi bt, zi bh, zi bd, zi bx, zi bn, .ref a1, .ref a2, .ref a3])), (a1, .inl (y 0, 8, .inl (cI CI))), (a2, .inl (y 0, 8, .inl (cI CJ))), (a3, .inl (y 0, 8, .inl (cI CW)))]) [3, 4, 5, 6] rfl) 0 rfl rfl rfl hl.1 rfl (Nat.le_of_ble_eq_true rfl) dX11_under_32 ⟨Nat.le_of_ble_eq_true rfl, Nat.le_of_ble_eq_true rfl⟩ ?_
    refine z_pV (As := [zl (corAt bl bw bt bh bd bn CI CJ CW ts)]) (rest := []) hC (c_X1_room l D y h0 a1 a2 a3 bl bw bt bh bd bx bn CI CJ CW (corAt bl bw bt bh bd bn CI CJ CW ts) (by first | assumption | omega)) (cwV 1 hts gX11_under_X1_room rfl rfl rfl (by decide +kernel) ⟨Nat.le_of_ble_eq_true rfl, Nat.le_of_ble_eq_true rfl⟩) hG (hPr.sub (ws' := [(h0, .inr (1, [zi bl, zi bw, zi bt, zi bh, zi bd, zi bx, zi bn, .ref a1, .ref a2, .ref a3])), (a1, .inl (y 0, 8, .inl (cI CI))), (a2, .inl (y 0, 8, .inl (cI CJ))), (a3, .inl (y 0, 8, .inl (cI CW)))]) [3, 4, 5, 6] rfl) 0 rfl rfl rfl hl.1 rfl (Nat.le_of_ble_eq_true rfl) dX11_under_35 ⟨Nat.le_of_ble_eq_true rfl, Nat.le_of_ble_eq_true rfl⟩ ?_
    refine lv_lconst (v := iL 0) hx hb dX11_under_38 rfl ?_
    refine z_lcmp_ge (tgt := 47) hx hb (by omega) (by omega) dX11_under_39 dX11_under_40 (by decide) (fun c_39 => ?_) (fun c_39 => ?_)
    ·
      refine z_iconst hx hb dX11_under_47 ?_
      exact z_iret0 hx hb hr hlocks (by first | exact (bI_t (by omega)).symm | exact (bI_f (by omega)).symm) dX11_under_48
    ·
      refine z_iconst hx hb dX11_under_43 ?_
      refine lv_goto (tgt := 48) hx hb dX11_under_44 (by decide) ?_
      exact z_iret0 hx hb hr hlocks (by first | exact (bI_t (by omega)).symm | exact (bI_f (by omega)).symm) dX11_under_48
  · exfalso; omega
set_option maxHeartbeats 8000000 in
set_option maxRecDepth 100000 in
theorem c_X11_life_no (l : Launch) (D : va_G) (y : Nat → ClassId) (x0 : Nat) (t0 : Nat) (g0 : Nat) (f0 : Nat) (r0 : Nat) (sl0 : Nat) (n0 : Nat) (d0 : Nat) (w0 : Nat) (c0 : Nat) (fa : Nat) (fn : Int) (fr : Nat → Option Nat) (qb : Int) (hqb : rI qb ∧ 0 ≤ fn ∧ fn ≤ 6 ∧ ¬ (0 ≤ qb ∧ qb < fn)) : Met l yX11_life wsX11_life ({ frames := 1, cells := 0, slots := 0, locals := 21 } : Room) (pPc D y [(x0, .inr (10, [.ref t0, .ref g0, .ref f0, .ref r0, .ref sl0, .ref n0, .ref d0, .ref w0, .ref c0])), (f0, .inr (4, [.ref fa, zi fn])), (fa, .inl (y 3, 6, .inr (.inr (.inr (.inr fr)))))] [.ref x0, zi qb]) (qV (zi (-1))) 0 0 (fun _ => False) := by
  refine P_of (own := RX11) (cc := cX11_life) (maxL := 3) (ret := some .int) (by decide) rfl rfl (Nat.le_of_ble_eq_true rfl) (fun p e s m below meth c ls hx hb hr hC hlocks hPr hG hl => ?_)
  have hC0 := hC
  obtain ⟨-, -, hml, hown, hts⟩ := hC0
  have hK := hG.1
  have hinX11 : ∀ w ∈ wsX110, w ∈ wsX11_life := fun _ h => List.mem_cons_of_mem _ (List.mem_append_left _ (List.mem_append_left _ (List.mem_append_right _ h)))
  have k1 := hts (.fieldLink RX11 26 "BoatsOfPaper" "theFleet" "LBoatsOfPaper$Fleet;") (List.mem_of_getElem? (i := 1) rfl)
  have hl : lv_has ls 3 [(0, .ref x0), (1, zi qb)] := hl
  refine lv_aload_n hx hb dX11_life_0 rfl (lv_at hl 0 rfl) ?_
  refine va_get hx hb hts hinX11 hown hK hPr 0 rfl rfl 2 (by decide) k1 (fun _ h => h) rfl dX11_life_1 ?_
  refine lv_iload_n hx hb dX11_life_4 rfl (lv_at hl 1 rfl) ?_
  refine z_pV (As := [zi qb]) (rest := []) hC (c_X4_find_no l D y f0 fa fn fr qb (by first | assumption | omega)) (cwV 1 hts gX11_life_X4_find rfl rfl rfl (by decide +kernel) ⟨Nat.le_of_ble_eq_true rfl, Nat.le_of_ble_eq_true rfl⟩) hG (hPr.sub (ws' := [(f0, .inr (4, [.ref fa, zi fn])), (fa, .inl (y 3, 6, .inr (.inr (.inr (.inr fr)))))]) [1, 2] rfl) 0 rfl rfl rfl hl.1 rfl (Nat.le_of_ble_eq_true rfl) dX11_life_5 ⟨Nat.le_of_ble_eq_true rfl, Nat.le_of_ble_eq_true rfl⟩ ?_
  refine lv_astore_nN (lv' := [(2, .null), (0, .ref x0), (1, zi qb)]) hx hb dX11_life_8 rfl hl (by decide) rfl (fun ls hl => ?_)
  refine lv_aload_nN hx hb dX11_life_9 rfl (lv_at hl 0 rfl) ?_
  refine lv_ifnonnullN hx hb dX11_life_10 ?_
  refine z_iconst hx hb dX11_life_13 ?_
  exact z_iret0 hx hb hr hlocks (rfl) dX11_life_14
set_option maxHeartbeats 8000000 in
set_option maxRecDepth 100000 in
theorem c_X11_life (l : Launch) (D : va_G) (y : Nat → ClassId) (x0 : Nat) (t0 : Nat) (g0 : Nat) (f0 : Nat) (r0 : Nat) (sl0 : Nat) (n0 : Nat) (d0 : Nat) (w0 : Nat) (c0 : Nat) (fa : Nat) (fn : Int) (fr : Nat → Option Nat) (qb : Int) (h0 : Nat) (a1 : Nat) (a2 : Nat) (a3 : Nat) (bl : Int) (bw : Int) (bt : Int) (bh : Int) (bd : Int) (bx : Int) (bn : Int) (CI : Int → Int) (CJ : Int → Int) (CW : Int → Int) (hqb : 0 ≤ fn ∧ fn ≤ 6 ∧ 0 ≤ qb ∧ qb < fn) (hfr : fr qb.toNat = some h0) (hB : bOK bl bw bt bh bd bx bn CI CJ CW) : Met l yX11_life wsX11_life ({ frames := 5, cells := 0, slots := 0, locals := 109 } : Room) (pPc D y [(x0, .inr (10, [.ref t0, .ref g0, .ref f0, .ref r0, .ref sl0, .ref n0, .ref d0, .ref w0, .ref c0])), (f0, .inr (4, [.ref fa, zi fn])), (fa, .inl (y 3, 6, .inr (.inr (.inr (.inr fr))))), (h0, .inr (1, [zi bl, zi bw, zi bt, zi bh, zi bd, zi bx, zi bn, .ref a1, .ref a2, .ref a3])), (a1, .inl (y 0, 8, .inl (cI CI))), (a2, .inl (y 0, 8, .inl (cI CJ))), (a3, .inl (y 0, 8, .inl (cI CW)))] [.ref x0, zi qb]) (qV (zi (lifeV bl bw bt bh bd bx bn CI CJ CW))) 0 0 (fun _ => False) := by
  refine P_of (own := RX11) (cc := cX11_life) (maxL := 3) (ret := some .int) (by decide) rfl rfl (Nat.le_of_ble_eq_true rfl) (fun p e s m below meth c ls hx hb hr hC hlocks hPr hG hl => ?_)
  have hC0 := hC
  obtain ⟨-, -, hml, hown, hts⟩ := hC0
  have hK := hG.1
  have hinX11 : ∀ w ∈ wsX110, w ∈ wsX11_life := fun _ h => List.mem_cons_of_mem _ (List.mem_append_left _ (List.mem_append_left _ (List.mem_append_right _ h)))
  have k1 := hts (.fieldLink RX11 26 "BoatsOfPaper" "theFleet" "LBoatsOfPaper$Fleet;") (List.mem_of_getElem? (i := 1) rfl)
  have hl : lv_has ls 3 [(0, .ref x0), (1, zi qb)] := hl
  obtain ⟨q1, q2, q3, q4, q5, q6, q7, q8, q9, qc⟩ := id hB
  refine lv_aload_n hx hb dX11_life_0 rfl (lv_at hl 0 rfl) ?_
  refine va_get hx hb hts hinX11 hown hK hPr 0 rfl rfl 2 (by decide) k1 (fun _ h => h) rfl dX11_life_1 ?_
  refine lv_iload_n hx hb dX11_life_4 rfl (lv_at hl 1 rfl) ?_
  refine z_pV (As := [zi qb]) (rest := []) hC (c_X4_find l D y f0 fa fn fr qb h0 (by first | assumption | omega) hfr) (cwV 1 hts gX11_life_X4_find rfl rfl rfl (by decide +kernel) ⟨Nat.le_of_ble_eq_true rfl, Nat.le_of_ble_eq_true rfl⟩) hG (hPr.sub (ws' := [(f0, .inr (4, [.ref fa, zi fn])), (fa, .inl (y 3, 6, .inr (.inr (.inr (.inr fr)))))]) [1, 2] rfl) 0 rfl rfl rfl hl.1 rfl (Nat.le_of_ble_eq_true rfl) dX11_life_5 ⟨Nat.le_of_ble_eq_true rfl, Nat.le_of_ble_eq_true rfl⟩ ?_
  refine lv_astore_n (lv' := [(2, .ref h0), (0, .ref x0), (1, zi qb)]) hx hb dX11_life_8 rfl hl (by decide) rfl (fun ls hl => ?_)
  refine lv_aload_n hx hb dX11_life_9 rfl (lv_at hl 0 rfl) ?_
  refine lv_ifnonnull (tgt := 15) hx hb dX11_life_10 (by decide) ?_
  refine lv_aload_n hx hb dX11_life_15 rfl (lv_at hl 0 rfl) ?_
  refine z_pV (As := []) (rest := []) hC (c_X1_lastSecond l D y h0 a1 a2 a3 bl bw bt bh bd bx bn CI CJ CW (by first | assumption | omega)) (cwV 0 hts gX11_life_X1_lastSecond rfl rfl rfl (by decide +kernel) ⟨Nat.le_of_ble_eq_true rfl, Nat.le_of_ble_eq_true rfl⟩) hG (hPr.sub (ws' := [(h0, .inr (1, [zi bl, zi bw, zi bt, zi bh, zi bd, zi bx, zi bn, .ref a1, .ref a2, .ref a3])), (a1, .inl (y 0, 8, .inl (cI CI))), (a2, .inl (y 0, 8, .inl (cI CJ))), (a3, .inl (y 0, 8, .inl (cI CW)))]) [3, 4, 5, 6] rfl) 0 rfl rfl rfl hl.1 rfl (Nat.le_of_ble_eq_true rfl) dX11_life_16 ⟨Nat.le_of_ble_eq_true rfl, Nat.le_of_ble_eq_true rfl⟩ ?_
  exact z_iret0 hx hb hr hlocks (rfl) dX11_life_19
set_option maxHeartbeats 8000000 in
set_option maxRecDepth 100000 in
theorem c_X11_bears_no (l : Launch) (D : va_G) (y : Nat → ClassId) (x0 : Nat) (t0 : Nat) (g0 : Nat) (f0 : Nat) (r0 : Nat) (sl0 : Nat) (n0 : Nat) (d0 : Nat) (w0 : Nat) (c0 : Nat) (fa : Nat) (fn : Int) (fr : Nat → Option Nat) (qb : Int) (rm : Int) (wt : Int) (hqb : rI qb ∧ 0 ≤ fn ∧ fn ≤ 6 ∧ ¬ (0 ≤ qb ∧ qb < fn)) : Met l yX11_bears wsX11_bears ({ frames := 1, cells := 0, slots := 0, locals := 21 } : Room) (pPc D y [(x0, .inr (10, [.ref t0, .ref g0, .ref f0, .ref r0, .ref sl0, .ref n0, .ref d0, .ref w0, .ref c0])), (f0, .inr (4, [.ref fa, zi fn])), (fa, .inl (y 3, 6, .inr (.inr (.inr (.inr fr)))))] [.ref x0, zi qb, zi rm, zi wt]) (qV (zi (-1))) 0 0 (fun _ => False) := by
  refine P_of (own := RX11) (cc := cX11_bears) (maxL := 5) (ret := some .int) (by decide) rfl rfl (Nat.le_of_ble_eq_true rfl) (fun p e s m below meth c ls hx hb hr hC hlocks hPr hG hl => ?_)
  have hC0 := hC
  obtain ⟨-, -, hml, hown, hts⟩ := hC0
  have hK := hG.1
  have hinX11 : ∀ w ∈ wsX110, w ∈ wsX11_bears := fun _ h => List.mem_cons_of_mem _ (List.mem_append_left _ (List.mem_append_left _ (List.mem_append_right _ h)))
  have k1 := hts (.fieldLink RX11 26 "BoatsOfPaper" "theFleet" "LBoatsOfPaper$Fleet;") (List.mem_of_getElem? (i := 1) rfl)
  have hl : lv_has ls 5 [(0, .ref x0), (1, zi qb), (2, zi rm), (3, zi wt)] := hl
  refine lv_aload_n hx hb dX11_bears_0 rfl (lv_at hl 0 rfl) ?_
  refine va_get hx hb hts hinX11 hown hK hPr 0 rfl rfl 2 (by decide) k1 (fun _ h => h) rfl dX11_bears_1 ?_
  refine lv_iload_n hx hb dX11_bears_4 rfl (lv_at hl 1 rfl) ?_
  refine z_pV (As := [zi qb]) (rest := []) hC (c_X4_find_no l D y f0 fa fn fr qb (by first | assumption | omega)) (cwV 1 hts gX11_bears_X4_find rfl rfl rfl (by decide +kernel) ⟨Nat.le_of_ble_eq_true rfl, Nat.le_of_ble_eq_true rfl⟩) hG (hPr.sub (ws' := [(f0, .inr (4, [.ref fa, zi fn])), (fa, .inl (y 3, 6, .inr (.inr (.inr (.inr fr)))))]) [1, 2] rfl) 0 rfl rfl rfl hl.1 rfl (Nat.le_of_ble_eq_true rfl) dX11_bears_5 ⟨Nat.le_of_ble_eq_true rfl, Nat.le_of_ble_eq_true rfl⟩ ?_
  refine lv_astoreN (lv' := [(4, .null), (0, .ref x0), (1, zi qb), (2, zi rm), (3, zi wt)]) hx hb dX11_bears_8 hl (by decide) rfl (fun ls hl => ?_)
  refine lv_aloadN hx hb dX11_bears_10 (lv_at hl 0 rfl) ?_
  refine lv_ifnonnullN hx hb dX11_bears_12 ?_
  refine z_iconst hx hb dX11_bears_15 ?_
  exact z_iret0 hx hb hr hlocks (rfl) dX11_bears_16
set_option maxHeartbeats 8000000 in
set_option maxRecDepth 100000 in
theorem c_X11_bears_out (l : Launch) (D : va_G) (y : Nat → ClassId) (x0 : Nat) (t0 : Nat) (g0 : Nat) (f0 : Nat) (r0 : Nat) (sl0 : Nat) (n0 : Nat) (d0 : Nat) (w0 : Nat) (c0 : Nat) (fa : Nat) (fn : Int) (fr : Nat → Option Nat) (qb : Int) (h0 : Nat) (a1 : Nat) (a2 : Nat) (a3 : Nat) (bl : Int) (bw : Int) (bt : Int) (bh : Int) (bd : Int) (bx : Int) (bn : Int) (CI : Int → Int) (CJ : Int → Int) (CW : Int → Int) (rm : Int) (wt : Int) (hqb : 0 ≤ fn ∧ fn ≤ 6 ∧ 0 ≤ qb ∧ qb < fn) (hfr : fr qb.toNat = some h0) (hB : bOK bl bw bt bh bd bx bn CI CJ CW) (hr9 : rI rm ∧ rI wt) (hq : ¬ ((1 ≤ rm ∧ rm ≤ 9 ∧ 1 ≤ bl - 2 * rm ∧ 1 ≤ bw - 2 * rm) ∧ 1 ≤ wt ∧ wt ≤ 99)) : Met l yX11_bears wsX11_bears ({ frames := 2, cells := 0, slots := 0, locals := 44 } : Room) (pPc D y [(x0, .inr (10, [.ref t0, .ref g0, .ref f0, .ref r0, .ref sl0, .ref n0, .ref d0, .ref w0, .ref c0])), (f0, .inr (4, [.ref fa, zi fn])), (fa, .inl (y 3, 6, .inr (.inr (.inr (.inr fr))))), (h0, .inr (1, [zi bl, zi bw, zi bt, zi bh, zi bd, zi bx, zi bn, .ref a1, .ref a2, .ref a3])), (a1, .inl (y 0, 8, .inl (cI CI))), (a2, .inl (y 0, 8, .inl (cI CJ))), (a3, .inl (y 0, 8, .inl (cI CW)))] [.ref x0, zi qb, zi rm, zi wt]) (qV (zi (-2))) 0 0 (fun _ => False) := by
  refine P_of (own := RX11) (cc := cX11_bears) (maxL := 5) (ret := some .int) (by decide) rfl rfl (Nat.le_of_ble_eq_true rfl) (fun p e s m below meth c ls hx hb hr hC hlocks hPr hG hl => ?_)
  have hC0 := hC
  obtain ⟨-, -, hml, hown, hts⟩ := hC0
  have hK := hG.1
  have hinX11 : ∀ w ∈ wsX110, w ∈ wsX11_bears := fun _ h => List.mem_cons_of_mem _ (List.mem_append_left _ (List.mem_append_left _ (List.mem_append_right _ h)))
  have hinX1 : ∀ w ∈ wsX10, w ∈ wsX11_bears := fun _ h => List.mem_cons_of_mem _ (List.mem_append_left _ (List.mem_append_right _ h))
  have k1 := hts (.fieldLink RX11 26 "BoatsOfPaper" "theFleet" "LBoatsOfPaper$Fleet;") (List.mem_of_getElem? (i := 1) rfl)
  have k2 := hts (.fieldLink RX11 144 "BoatsOfPaper$Boat" "l" "I") (List.mem_of_getElem? (i := 2) rfl)
  have k3 := hts (.fieldLink RX11 147 "BoatsOfPaper$Boat" "w" "I") (List.mem_of_getElem? (i := 3) rfl)
  have hl : lv_has ls 5 [(0, .ref x0), (1, zi qb), (2, zi rm), (3, zi wt)] := hl
  obtain ⟨q1, q2, q3, q4, q5, q6, q7, q8, q9, qc⟩ := id hB
  refine lv_aload_n hx hb dX11_bears_0 rfl (lv_at hl 0 rfl) ?_
  refine va_get hx hb hts hinX11 hown hK hPr 0 rfl rfl 2 (by decide) k1 (fun _ h => h) rfl dX11_bears_1 ?_
  refine lv_iload_n hx hb dX11_bears_4 rfl (lv_at hl 1 rfl) ?_
  refine z_pV (As := [zi qb]) (rest := []) hC (c_X4_find l D y f0 fa fn fr qb h0 (by first | assumption | omega) hfr) (cwV 1 hts gX11_bears_X4_find rfl rfl rfl (by decide +kernel) ⟨Nat.le_of_ble_eq_true rfl, Nat.le_of_ble_eq_true rfl⟩) hG (hPr.sub (ws' := [(f0, .inr (4, [.ref fa, zi fn])), (fa, .inl (y 3, 6, .inr (.inr (.inr (.inr fr)))))]) [1, 2] rfl) 0 rfl rfl rfl hl.1 rfl (Nat.le_of_ble_eq_true rfl) dX11_bears_5 ⟨Nat.le_of_ble_eq_true rfl, Nat.le_of_ble_eq_true rfl⟩ ?_
  refine lv_astore (lv' := [(4, .ref h0), (0, .ref x0), (1, zi qb), (2, zi rm), (3, zi wt)]) hx hb dX11_bears_8 hl (by decide) rfl (fun ls hl => ?_)
  refine lv_aload hx hb dX11_bears_10 (lv_at hl 0 rfl) ?_
  refine lv_ifnonnull (tgt := 17) hx hb dX11_bears_12 (by decide) ?_
  refine lv_aload hx hb dX11_bears_17 (lv_at hl 0 rfl) ?_
  refine va_get hx hb hts hinX1 hown hK hPr 3 rfl rfl 0 (by decide) k2 (fun _ h => h) rfl dX11_bears_19 ?_
  refine lv_aload hx hb dX11_bears_22 (lv_at hl 0 rfl) ?_
  refine va_get hx hb hts hinX1 hown hK hPr 3 rfl rfl 1 (by decide) k3 (fun _ h => h) rfl dX11_bears_24 ?_
  refine lv_iload_n hx hb dX11_bears_27 rfl (lv_at hl 3 rfl) ?_
  refine z_pS (As := [zi bl, zi bw, zi rm]) (rest := []) hC (c_X11_canFold l D y bl bw rm (by first | assumption | omega)) (va_cwS 3 hts gX11_bears_X11_canFold rfl rfl rfl (by decide +kernel) ⟨Nat.le_of_ble_eq_true rfl, Nat.le_of_ble_eq_true rfl⟩) hG va_P_nil rfl hl.1 rfl (Nat.le_of_ble_eq_true rfl) dX11_bears_28 ⟨Nat.le_of_ble_eq_true rfl, Nat.le_of_ble_eq_true rfl⟩ ?_
  refine z_ifB_eq (tgt := 44) hx hb dX11_bears_31 (by decide) (fun c_31 => ?_) (fun c_31 => ?_)
  ·
    refine z_bipush hx hb dX11_bears_44 (by decide) ?_
    exact z_iret0 hx hb hr hlocks (rfl) dX11_bears_46
  ·
    refine lv_iload_n hx hb dX11_bears_34 rfl (lv_at hl 4 rfl) ?_
    refine z_iconst hx hb dX11_bears_35 ?_
    refine z_bipush hx hb dX11_bears_36 (by decide) ?_
    refine z_pS (As := [zi wt, zi 1, zi 99]) (rest := []) hC (c_X11_isWithin l D y wt 1 99 (by first | assumption | omega)) (va_cwS 3 hts gX11_bears_X11_isWithin rfl rfl rfl (by decide +kernel) ⟨Nat.le_of_ble_eq_true rfl, Nat.le_of_ble_eq_true rfl⟩) hG va_P_nil rfl hl.1 rfl (Nat.le_of_ble_eq_true rfl) dX11_bears_38 ⟨Nat.le_of_ble_eq_true rfl, Nat.le_of_ble_eq_true rfl⟩ ?_
    refine z_ifB_ne (tgt := 47) hx hb dX11_bears_41 (by decide) (fun c_41 => ?_) (fun c_41 => ?_)
    · exfalso; omega
    ·
      refine z_bipush hx hb dX11_bears_44 (by decide) ?_
      exact z_iret0 hx hb hr hlocks (rfl) dX11_bears_46
set_option maxHeartbeats 8000000 in
set_option maxRecDepth 100000 in
theorem c_X11_bears (l : Launch) (D : va_G) (y : Nat → ClassId) (x0 : Nat) (t0 : Nat) (g0 : Nat) (f0 : Nat) (r0 : Nat) (sl0 : Nat) (n0 : Nat) (d0 : Nat) (w0 : Nat) (c0 : Nat) (fa : Nat) (fn : Int) (fr : Nat → Option Nat) (qb : Int) (h0 : Nat) (a1 : Nat) (a2 : Nat) (a3 : Nat) (bl : Int) (bw : Int) (bt : Int) (bh : Int) (bd : Int) (bx : Int) (bn : Int) (CI : Int → Int) (CJ : Int → Int) (CW : Int → Int) (rm : Int) (wt : Int) (hqb : 0 ≤ fn ∧ fn ≤ 6 ∧ 0 ≤ qb ∧ qb < fn) (hfr : fr qb.toNat = some h0) (hB : bOK bl bw bt bh bd bx bn CI CJ CW) (hq : 1 ≤ rm ∧ rm ≤ 9 ∧ 1 ≤ bl - 2 * rm ∧ 1 ≤ bw - 2 * rm) (hwt : 1 ≤ wt ∧ wt ≤ 99) : Met l yX11_bears wsX11_bears ({ frames := 2, cells := 0, slots := 0, locals := 44 } : Room) (pPc D y [(x0, .inr (10, [.ref t0, .ref g0, .ref f0, .ref r0, .ref sl0, .ref n0, .ref d0, .ref w0, .ref c0])), (f0, .inr (4, [.ref fa, zi fn])), (fa, .inl (y 3, 6, .inr (.inr (.inr (.inr fr))))), (h0, .inr (1, [zi bl, zi bw, zi bt, zi bh, zi bd, zi bx, zi bn, .ref a1, .ref a2, .ref a3])), (a1, .inl (y 0, 8, .inl (cI CI))), (a2, .inl (y 0, 8, .inl (cI CJ))), (a3, .inl (y 0, 8, .inl (cI CW)))] [.ref x0, zi qb, zi rm, zi wt]) (qV (zi (loadV bl bw bt rm wt))) 0 0 (fun _ => False) := by
  refine P_of (own := RX11) (cc := cX11_bears) (maxL := 5) (ret := some .int) (by decide) rfl rfl (Nat.le_of_ble_eq_true rfl) (fun p e s m below meth c ls hx hb hr hC hlocks hPr hG hl => ?_)
  have hC0 := hC
  obtain ⟨-, -, hml, hown, hts⟩ := hC0
  have hK := hG.1
  have hinX11 : ∀ w ∈ wsX110, w ∈ wsX11_bears := fun _ h => List.mem_cons_of_mem _ (List.mem_append_left _ (List.mem_append_left _ (List.mem_append_right _ h)))
  have hinX1 : ∀ w ∈ wsX10, w ∈ wsX11_bears := fun _ h => List.mem_cons_of_mem _ (List.mem_append_left _ (List.mem_append_right _ h))
  have k1 := hts (.fieldLink RX11 26 "BoatsOfPaper" "theFleet" "LBoatsOfPaper$Fleet;") (List.mem_of_getElem? (i := 1) rfl)
  have k2 := hts (.fieldLink RX11 144 "BoatsOfPaper$Boat" "l" "I") (List.mem_of_getElem? (i := 2) rfl)
  have k3 := hts (.fieldLink RX11 147 "BoatsOfPaper$Boat" "w" "I") (List.mem_of_getElem? (i := 3) rfl)
  have hl : lv_has ls 5 [(0, .ref x0), (1, zi qb), (2, zi rm), (3, zi wt)] := hl
  obtain ⟨q1, q2, q3, q4, q5, q6, q7, q8, q9, qc⟩ := id hB
  refine lv_aload_n hx hb dX11_bears_0 rfl (lv_at hl 0 rfl) ?_
  refine va_get hx hb hts hinX11 hown hK hPr 0 rfl rfl 2 (by decide) k1 (fun _ h => h) rfl dX11_bears_1 ?_
  refine lv_iload_n hx hb dX11_bears_4 rfl (lv_at hl 1 rfl) ?_
  refine z_pV (As := [zi qb]) (rest := []) hC (c_X4_find l D y f0 fa fn fr qb h0 (by first | assumption | omega) hfr) (cwV 1 hts gX11_bears_X4_find rfl rfl rfl (by decide +kernel) ⟨Nat.le_of_ble_eq_true rfl, Nat.le_of_ble_eq_true rfl⟩) hG (hPr.sub (ws' := [(f0, .inr (4, [.ref fa, zi fn])), (fa, .inl (y 3, 6, .inr (.inr (.inr (.inr fr)))))]) [1, 2] rfl) 0 rfl rfl rfl hl.1 rfl (Nat.le_of_ble_eq_true rfl) dX11_bears_5 ⟨Nat.le_of_ble_eq_true rfl, Nat.le_of_ble_eq_true rfl⟩ ?_
  refine lv_astore (lv' := [(4, .ref h0), (0, .ref x0), (1, zi qb), (2, zi rm), (3, zi wt)]) hx hb dX11_bears_8 hl (by decide) rfl (fun ls hl => ?_)
  refine lv_aload hx hb dX11_bears_10 (lv_at hl 0 rfl) ?_
  refine lv_ifnonnull (tgt := 17) hx hb dX11_bears_12 (by decide) ?_
  refine lv_aload hx hb dX11_bears_17 (lv_at hl 0 rfl) ?_
  refine va_get hx hb hts hinX1 hown hK hPr 3 rfl rfl 0 (by decide) k2 (fun _ h => h) rfl dX11_bears_19 ?_
  refine lv_aload hx hb dX11_bears_22 (lv_at hl 0 rfl) ?_
  refine va_get hx hb hts hinX1 hown hK hPr 3 rfl rfl 1 (by decide) k3 (fun _ h => h) rfl dX11_bears_24 ?_
  refine lv_iload_n hx hb dX11_bears_27 rfl (lv_at hl 3 rfl) ?_
  refine z_pS (As := [zi bl, zi bw, zi rm]) (rest := []) hC (c_X11_canFold l D y bl bw rm (by first | assumption | omega)) (va_cwS 3 hts gX11_bears_X11_canFold rfl rfl rfl (by decide +kernel) ⟨Nat.le_of_ble_eq_true rfl, Nat.le_of_ble_eq_true rfl⟩) hG va_P_nil rfl hl.1 rfl (Nat.le_of_ble_eq_true rfl) dX11_bears_28 ⟨Nat.le_of_ble_eq_true rfl, Nat.le_of_ble_eq_true rfl⟩ ?_
  refine z_ifB_eq (tgt := 44) hx hb dX11_bears_31 (by decide) (fun c_31 => ?_) (fun c_31 => ?_)
  · exfalso; omega
  ·
    refine lv_iload_n hx hb dX11_bears_34 rfl (lv_at hl 4 rfl) ?_
    refine z_iconst hx hb dX11_bears_35 ?_
    refine z_bipush hx hb dX11_bears_36 (by decide) ?_
    refine z_pS (As := [zi wt, zi 1, zi 99]) (rest := []) hC (c_X11_isWithin l D y wt 1 99 (by first | assumption | omega)) (va_cwS 3 hts gX11_bears_X11_isWithin rfl rfl rfl (by decide +kernel) ⟨Nat.le_of_ble_eq_true rfl, Nat.le_of_ble_eq_true rfl⟩) hG va_P_nil rfl hl.1 rfl (Nat.le_of_ble_eq_true rfl) dX11_bears_38 ⟨Nat.le_of_ble_eq_true rfl, Nat.le_of_ble_eq_true rfl⟩ ?_
    refine z_ifB_ne (tgt := 47) hx hb dX11_bears_41 (by decide) (fun c_41 => ?_) (fun c_41 => ?_)
    ·
      refine lv_aload hx hb dX11_bears_47 (lv_at hl 0 rfl) ?_
      refine lv_iload_n hx hb dX11_bears_49 rfl (lv_at hl 3 rfl) ?_
      refine lv_iload_n hx hb dX11_bears_50 rfl (lv_at hl 4 rfl) ?_
      refine z_pV (As := [zi rm, zi wt]) (rest := []) hC (c_X1_load l D y h0 a1 a2 a3 bl bw bt bh bd bx bn CI CJ CW rm wt (by first | assumption | omega) (by first | assumption | omega) (by first | assumption | omega)) (cwV 2 hts gX11_bears_X1_load rfl rfl rfl (by decide +kernel) ⟨Nat.le_of_ble_eq_true rfl, Nat.le_of_ble_eq_true rfl⟩) hG (hPr.sub (ws' := [(h0, .inr (1, [zi bl, zi bw, zi bt, zi bh, zi bd, zi bx, zi bn, .ref a1, .ref a2, .ref a3])), (a1, .inl (y 0, 8, .inl (cI CI))), (a2, .inl (y 0, 8, .inl (cI CJ))), (a3, .inl (y 0, 8, .inl (cI CW)))]) [3, 4, 5, 6] rfl) 0 rfl rfl rfl hl.1 rfl (Nat.le_of_ble_eq_true rfl) dX11_bears_51 ⟨Nat.le_of_ble_eq_true rfl, Nat.le_of_ble_eq_true rfl⟩ ?_
      exact z_iret0 hx hb hr hlocks (rfl) dX11_bears_54
    · exfalso; omega
set_option maxHeartbeats 8000000 in
set_option maxRecDepth 100000 in
theorem c_X11_rim_no (l : Launch) (D : va_G) (y : Nat → ClassId) (x0 : Nat) (t0 : Nat) (g0 : Nat) (f0 : Nat) (r0 : Nat) (sl0 : Nat) (n0 : Nat) (d0 : Nat) (w0 : Nat) (c0 : Nat) (fa : Nat) (fn : Int) (fr : Nat → Option Nat) (qb : Int) (wt : Int) (hqb : rI qb ∧ 0 ≤ fn ∧ fn ≤ 6 ∧ ¬ (0 ≤ qb ∧ qb < fn)) : Met l yX11_rim wsX11_rim ({ frames := 1, cells := 0, slots := 0, locals := 21 } : Room) (pPc D y [(x0, .inr (10, [.ref t0, .ref g0, .ref f0, .ref r0, .ref sl0, .ref n0, .ref d0, .ref w0, .ref c0])), (f0, .inr (4, [.ref fa, zi fn])), (fa, .inl (y 3, 6, .inr (.inr (.inr (.inr fr)))))] [.ref x0, zi qb, zi wt]) (qV (zi (-1))) 0 0 (fun _ => False) := by
  refine P_of (own := RX11) (cc := cX11_rim) (maxL := 4) (ret := some .int) (by decide) rfl rfl (Nat.le_of_ble_eq_true rfl) (fun p e s m below meth c ls hx hb hr hC hlocks hPr hG hl => ?_)
  have hC0 := hC
  obtain ⟨-, -, hml, hown, hts⟩ := hC0
  have hK := hG.1
  have hinX11 : ∀ w ∈ wsX110, w ∈ wsX11_rim := fun _ h => List.mem_cons_of_mem _ (List.mem_append_left _ (List.mem_append_left _ (List.mem_append_right _ h)))
  have k1 := hts (.fieldLink RX11 26 "BoatsOfPaper" "theFleet" "LBoatsOfPaper$Fleet;") (List.mem_of_getElem? (i := 1) rfl)
  have hl : lv_has ls 4 [(0, .ref x0), (1, zi qb), (2, zi wt)] := hl
  refine lv_aload_n hx hb dX11_rim_0 rfl (lv_at hl 0 rfl) ?_
  refine va_get hx hb hts hinX11 hown hK hPr 0 rfl rfl 2 (by decide) k1 (fun _ h => h) rfl dX11_rim_1 ?_
  refine lv_iload_n hx hb dX11_rim_4 rfl (lv_at hl 1 rfl) ?_
  refine z_pV (As := [zi qb]) (rest := []) hC (c_X4_find_no l D y f0 fa fn fr qb (by first | assumption | omega)) (cwV 1 hts gX11_rim_X4_find rfl rfl rfl (by decide +kernel) ⟨Nat.le_of_ble_eq_true rfl, Nat.le_of_ble_eq_true rfl⟩) hG (hPr.sub (ws' := [(f0, .inr (4, [.ref fa, zi fn])), (fa, .inl (y 3, 6, .inr (.inr (.inr (.inr fr)))))]) [1, 2] rfl) 0 rfl rfl rfl hl.1 rfl (Nat.le_of_ble_eq_true rfl) dX11_rim_5 ⟨Nat.le_of_ble_eq_true rfl, Nat.le_of_ble_eq_true rfl⟩ ?_
  refine lv_astore_nN (lv' := [(3, .null), (0, .ref x0), (1, zi qb), (2, zi wt)]) hx hb dX11_rim_8 rfl hl (by decide) rfl (fun ls hl => ?_)
  refine lv_aload_nN hx hb dX11_rim_9 rfl (lv_at hl 0 rfl) ?_
  refine lv_ifnonnullN hx hb dX11_rim_10 ?_
  refine z_iconst hx hb dX11_rim_13 ?_
  exact z_iret0 hx hb hr hlocks (rfl) dX11_rim_14
set_option maxHeartbeats 8000000 in
set_option maxRecDepth 100000 in
theorem c_X11_rim_out (l : Launch) (D : va_G) (y : Nat → ClassId) (x0 : Nat) (t0 : Nat) (g0 : Nat) (f0 : Nat) (r0 : Nat) (sl0 : Nat) (n0 : Nat) (d0 : Nat) (w0 : Nat) (c0 : Nat) (fa : Nat) (fn : Int) (fr : Nat → Option Nat) (qb : Int) (h0 : Nat) (a1 : Nat) (a2 : Nat) (a3 : Nat) (bl : Int) (bw : Int) (bt : Int) (bh : Int) (bd : Int) (bx : Int) (bn : Int) (CI : Int → Int) (CJ : Int → Int) (CW : Int → Int) (wt : Int) (hqb : 0 ≤ fn ∧ fn ≤ 6 ∧ 0 ≤ qb ∧ qb < fn) (hfr : fr qb.toNat = some h0) (hB : bOK bl bw bt bh bd bx bn CI CJ CW) (hr9 : rI wt) (hq : ¬ (1 ≤ wt ∧ wt ≤ 99)) : Met l yX11_rim wsX11_rim ({ frames := 1, cells := 0, slots := 0, locals := 22 } : Room) (pPc D y [(x0, .inr (10, [.ref t0, .ref g0, .ref f0, .ref r0, .ref sl0, .ref n0, .ref d0, .ref w0, .ref c0])), (f0, .inr (4, [.ref fa, zi fn])), (fa, .inl (y 3, 6, .inr (.inr (.inr (.inr fr))))), (h0, .inr (1, [zi bl, zi bw, zi bt, zi bh, zi bd, zi bx, zi bn, .ref a1, .ref a2, .ref a3])), (a1, .inl (y 0, 8, .inl (cI CI))), (a2, .inl (y 0, 8, .inl (cI CJ))), (a3, .inl (y 0, 8, .inl (cI CW)))] [.ref x0, zi qb, zi wt]) (qV (zi (-2))) 0 0 (fun _ => False) := by
  refine P_of (own := RX11) (cc := cX11_rim) (maxL := 4) (ret := some .int) (by decide) rfl rfl (Nat.le_of_ble_eq_true rfl) (fun p e s m below meth c ls hx hb hr hC hlocks hPr hG hl => ?_)
  have hC0 := hC
  obtain ⟨-, -, hml, hown, hts⟩ := hC0
  have hK := hG.1
  have hinX11 : ∀ w ∈ wsX110, w ∈ wsX11_rim := fun _ h => List.mem_cons_of_mem _ (List.mem_append_left _ (List.mem_append_left _ (List.mem_append_right _ h)))
  have k1 := hts (.fieldLink RX11 26 "BoatsOfPaper" "theFleet" "LBoatsOfPaper$Fleet;") (List.mem_of_getElem? (i := 1) rfl)
  have hl : lv_has ls 4 [(0, .ref x0), (1, zi qb), (2, zi wt)] := hl
  obtain ⟨q1, q2, q3, q4, q5, q6, q7, q8, q9, qc⟩ := id hB
  refine lv_aload_n hx hb dX11_rim_0 rfl (lv_at hl 0 rfl) ?_
  refine va_get hx hb hts hinX11 hown hK hPr 0 rfl rfl 2 (by decide) k1 (fun _ h => h) rfl dX11_rim_1 ?_
  refine lv_iload_n hx hb dX11_rim_4 rfl (lv_at hl 1 rfl) ?_
  refine z_pV (As := [zi qb]) (rest := []) hC (c_X4_find l D y f0 fa fn fr qb h0 (by first | assumption | omega) hfr) (cwV 1 hts gX11_rim_X4_find rfl rfl rfl (by decide +kernel) ⟨Nat.le_of_ble_eq_true rfl, Nat.le_of_ble_eq_true rfl⟩) hG (hPr.sub (ws' := [(f0, .inr (4, [.ref fa, zi fn])), (fa, .inl (y 3, 6, .inr (.inr (.inr (.inr fr)))))]) [1, 2] rfl) 0 rfl rfl rfl hl.1 rfl (Nat.le_of_ble_eq_true rfl) dX11_rim_5 ⟨Nat.le_of_ble_eq_true rfl, Nat.le_of_ble_eq_true rfl⟩ ?_
  refine lv_astore_n (lv' := [(3, .ref h0), (0, .ref x0), (1, zi qb), (2, zi wt)]) hx hb dX11_rim_8 rfl hl (by decide) rfl (fun ls hl => ?_)
  refine lv_aload_n hx hb dX11_rim_9 rfl (lv_at hl 0 rfl) ?_
  refine lv_ifnonnull (tgt := 15) hx hb dX11_rim_10 (by decide) ?_
  refine lv_iload_n hx hb dX11_rim_15 rfl (lv_at hl 3 rfl) ?_
  refine z_iconst hx hb dX11_rim_16 ?_
  refine z_bipush hx hb dX11_rim_17 (by decide) ?_
  refine z_pS (As := [zi wt, zi 1, zi 99]) (rest := []) hC (c_X11_isWithin l D y wt 1 99 (by first | assumption | omega)) (va_cwS 3 hts gX11_rim_X11_isWithin rfl rfl rfl (by decide +kernel) ⟨Nat.le_of_ble_eq_true rfl, Nat.le_of_ble_eq_true rfl⟩) hG va_P_nil rfl hl.1 rfl (Nat.le_of_ble_eq_true rfl) dX11_rim_19 ⟨Nat.le_of_ble_eq_true rfl, Nat.le_of_ble_eq_true rfl⟩ ?_
  refine z_ifB_ne (tgt := 28) hx hb dX11_rim_22 (by decide) (fun c_22 => ?_) (fun c_22 => ?_)
  · exfalso; omega
  ·
    refine z_bipush hx hb dX11_rim_25 (by decide) ?_
    exact z_iret0 hx hb hr hlocks (rfl) dX11_rim_27
set_option maxHeartbeats 8000000 in
set_option maxRecDepth 100000 in
theorem c_X11_rim (l : Launch) (D : va_G) (y : Nat → ClassId) (x0 : Nat) (t0 : Nat) (g0 : Nat) (f0 : Nat) (r0 : Nat) (sl0 : Nat) (n0 : Nat) (d0 : Nat) (w0 : Nat) (c0 : Nat) (fa : Nat) (fn : Int) (fr : Nat → Option Nat) (qb : Int) (h0 : Nat) (a1 : Nat) (a2 : Nat) (a3 : Nat) (bl : Int) (bw : Int) (bt : Int) (bh : Int) (bd : Int) (bx : Int) (bn : Int) (CI : Int → Int) (CJ : Int → Int) (CW : Int → Int) (wt : Int) (hqb : 0 ≤ fn ∧ fn ≤ 6 ∧ 0 ≤ qb ∧ qb < fn) (hfr : fr qb.toNat = some h0) (hB : bOK bl bw bt bh bd bx bn CI CJ CW) (hwt : 1 ≤ wt ∧ wt ≤ 99) : Met l yX11_rim wsX11_rim ({ frames := 3, cells := 0, slots := 0, locals := 67 } : Room) (pPc D y [(x0, .inr (10, [.ref t0, .ref g0, .ref f0, .ref r0, .ref sl0, .ref n0, .ref d0, .ref w0, .ref c0])), (f0, .inr (4, [.ref fa, zi fn])), (fa, .inl (y 3, 6, .inr (.inr (.inr (.inr fr))))), (h0, .inr (1, [zi bl, zi bw, zi bt, zi bh, zi bd, zi bx, zi bn, .ref a1, .ref a2, .ref a3])), (a1, .inl (y 0, 8, .inl (cI CI))), (a2, .inl (y 0, 8, .inl (cI CJ))), (a3, .inl (y 0, 8, .inl (cI CW)))] [.ref x0, zi qb, zi wt]) (qV (zi (rimV (fun r => loadV bl bw bt r wt) bl bw))) 0 0 (fun _ => False) := by
  refine P_of (own := RX11) (cc := cX11_rim) (maxL := 4) (ret := some .int) (by decide) rfl rfl (Nat.le_of_ble_eq_true rfl) (fun p e s m below meth c ls hx hb hr hC hlocks hPr hG hl => ?_)
  have hC0 := hC
  obtain ⟨-, -, hml, hown, hts⟩ := hC0
  have hK := hG.1
  have hinX11 : ∀ w ∈ wsX110, w ∈ wsX11_rim := fun _ h => List.mem_cons_of_mem _ (List.mem_append_left _ (List.mem_append_left _ (List.mem_append_right _ h)))
  have k1 := hts (.fieldLink RX11 26 "BoatsOfPaper" "theFleet" "LBoatsOfPaper$Fleet;") (List.mem_of_getElem? (i := 1) rfl)
  have hl : lv_has ls 4 [(0, .ref x0), (1, zi qb), (2, zi wt)] := hl
  obtain ⟨q1, q2, q3, q4, q5, q6, q7, q8, q9, qc⟩ := id hB
  refine lv_aload_n hx hb dX11_rim_0 rfl (lv_at hl 0 rfl) ?_
  refine va_get hx hb hts hinX11 hown hK hPr 0 rfl rfl 2 (by decide) k1 (fun _ h => h) rfl dX11_rim_1 ?_
  refine lv_iload_n hx hb dX11_rim_4 rfl (lv_at hl 1 rfl) ?_
  refine z_pV (As := [zi qb]) (rest := []) hC (c_X4_find l D y f0 fa fn fr qb h0 (by first | assumption | omega) hfr) (cwV 1 hts gX11_rim_X4_find rfl rfl rfl (by decide +kernel) ⟨Nat.le_of_ble_eq_true rfl, Nat.le_of_ble_eq_true rfl⟩) hG (hPr.sub (ws' := [(f0, .inr (4, [.ref fa, zi fn])), (fa, .inl (y 3, 6, .inr (.inr (.inr (.inr fr)))))]) [1, 2] rfl) 0 rfl rfl rfl hl.1 rfl (Nat.le_of_ble_eq_true rfl) dX11_rim_5 ⟨Nat.le_of_ble_eq_true rfl, Nat.le_of_ble_eq_true rfl⟩ ?_
  refine lv_astore_n (lv' := [(3, .ref h0), (0, .ref x0), (1, zi qb), (2, zi wt)]) hx hb dX11_rim_8 rfl hl (by decide) rfl (fun ls hl => ?_)
  refine lv_aload_n hx hb dX11_rim_9 rfl (lv_at hl 0 rfl) ?_
  refine lv_ifnonnull (tgt := 15) hx hb dX11_rim_10 (by decide) ?_
  refine lv_iload_n hx hb dX11_rim_15 rfl (lv_at hl 3 rfl) ?_
  refine z_iconst hx hb dX11_rim_16 ?_
  refine z_bipush hx hb dX11_rim_17 (by decide) ?_
  refine z_pS (As := [zi wt, zi 1, zi 99]) (rest := []) hC (c_X11_isWithin l D y wt 1 99 (by first | assumption | omega)) (va_cwS 3 hts gX11_rim_X11_isWithin rfl rfl rfl (by decide +kernel) ⟨Nat.le_of_ble_eq_true rfl, Nat.le_of_ble_eq_true rfl⟩) hG va_P_nil rfl hl.1 rfl (Nat.le_of_ble_eq_true rfl) dX11_rim_19 ⟨Nat.le_of_ble_eq_true rfl, Nat.le_of_ble_eq_true rfl⟩ ?_
  refine z_ifB_ne (tgt := 28) hx hb dX11_rim_22 (by decide) (fun c_22 => ?_) (fun c_22 => ?_)
  ·
    refine lv_aload_n hx hb dX11_rim_28 rfl (lv_at hl 0 rfl) ?_
    refine lv_iload_n hx hb dX11_rim_29 rfl (lv_at hl 3 rfl) ?_
    refine z_pV (As := [zi wt]) (rest := []) hC (c_X1_strongestRim l D y h0 a1 a2 a3 bl bw bt bh bd bx bn CI CJ CW wt (by first | assumption | omega) (by first | assumption | omega)) (cwV 1 hts gX11_rim_X1_strongestRim rfl rfl rfl (by decide +kernel) ⟨Nat.le_of_ble_eq_true rfl, Nat.le_of_ble_eq_true rfl⟩) hG (hPr.sub (ws' := [(h0, .inr (1, [zi bl, zi bw, zi bt, zi bh, zi bd, zi bx, zi bn, .ref a1, .ref a2, .ref a3])), (a1, .inl (y 0, 8, .inl (cI CI))), (a2, .inl (y 0, 8, .inl (cI CJ))), (a3, .inl (y 0, 8, .inl (cI CW)))]) [3, 4, 5, 6] rfl) 0 rfl rfl rfl hl.1 rfl (Nat.le_of_ble_eq_true rfl) dX11_rim_30 ⟨Nat.le_of_ble_eq_true rfl, Nat.le_of_ble_eq_true rfl⟩ ?_
    exact z_iret0 hx hb hr hlocks (rfl) dX11_rim_33
  · exfalso; omega
set_option maxHeartbeats 8000000 in
set_option maxRecDepth 100000 in
theorem c_X11_orders_no (l : Launch) (D : va_G) (y : Nat → ClassId) (x0 : Nat) (t0 : Nat) (g0 : Nat) (f0 : Nat) (r0 : Nat) (sl0 : Nat) (n0 : Nat) (d0 : Nat) (w0 : Nat) (c0 : Nat) (fa : Nat) (fn : Int) (fr : Nat → Option Nat) (qb : Int) (hqb : rI qb ∧ 0 ≤ fn ∧ fn ≤ 6 ∧ ¬ (0 ≤ qb ∧ qb < fn)) : Met l yX11_orders wsX11_orders ({ frames := 1, cells := 0, slots := 0, locals := 21 } : Room) (pPc D y [(x0, .inr (10, [.ref t0, .ref g0, .ref f0, .ref r0, .ref sl0, .ref n0, .ref d0, .ref w0, .ref c0])), (f0, .inr (4, [.ref fa, zi fn])), (fa, .inl (y 3, 6, .inr (.inr (.inr (.inr fr)))))] [.ref x0, zi qb]) (qV (zi (-1))) 0 0 (fun _ => False) := by
  refine P_of (own := RX11) (cc := cX11_orders) (maxL := 3) (ret := some .int) (by decide) rfl rfl (Nat.le_of_ble_eq_true rfl) (fun p e s m below meth c ls hx hb hr hC hlocks hPr hG hl => ?_)
  have hC0 := hC
  obtain ⟨-, -, hml, hown, hts⟩ := hC0
  have hK := hG.1
  have hinX11 : ∀ w ∈ wsX110, w ∈ wsX11_orders := fun _ h => List.mem_cons_of_mem _ (List.mem_append_left _ (List.mem_append_left _ (List.mem_append_left _ (List.mem_append_right _ h))))
  have k1 := hts (.fieldLink RX11 26 "BoatsOfPaper" "theFleet" "LBoatsOfPaper$Fleet;") (List.mem_of_getElem? (i := 1) rfl)
  have hl : lv_has ls 3 [(0, .ref x0), (1, zi qb)] := hl
  refine lv_aload_n hx hb dX11_orders_0 rfl (lv_at hl 0 rfl) ?_
  refine va_get hx hb hts hinX11 hown hK hPr 0 rfl rfl 2 (by decide) k1 (fun _ h => h) rfl dX11_orders_1 ?_
  refine lv_iload_n hx hb dX11_orders_4 rfl (lv_at hl 1 rfl) ?_
  refine z_pV (As := [zi qb]) (rest := []) hC (c_X4_find_no l D y f0 fa fn fr qb (by first | assumption | omega)) (cwV 1 hts gX11_orders_X4_find rfl rfl rfl (by decide +kernel) ⟨Nat.le_of_ble_eq_true rfl, Nat.le_of_ble_eq_true rfl⟩) hG (hPr.sub (ws' := [(f0, .inr (4, [.ref fa, zi fn])), (fa, .inl (y 3, 6, .inr (.inr (.inr (.inr fr)))))]) [1, 2] rfl) 0 rfl rfl rfl hl.1 rfl (Nat.le_of_ble_eq_true rfl) dX11_orders_5 ⟨Nat.le_of_ble_eq_true rfl, Nat.le_of_ble_eq_true rfl⟩ ?_
  refine lv_astore_nN (lv' := [(2, .null), (0, .ref x0), (1, zi qb)]) hx hb dX11_orders_8 rfl hl (by decide) rfl (fun ls hl => ?_)
  refine lv_aload_nN hx hb dX11_orders_9 rfl (lv_at hl 0 rfl) ?_
  refine lv_ifnonnullN hx hb dX11_orders_10 ?_
  refine z_iconst hx hb dX11_orders_13 ?_
  exact z_iret0 hx hb hr hlocks (rfl) dX11_orders_14
set_option maxHeartbeats 8000000 in
set_option maxRecDepth 100000 in
theorem c_X11_orders (l : Launch) (D : va_G) (y : Nat → ClassId) (x0 : Nat) (t0 : Nat) (g0 : Nat) (f0 : Nat) (r0 : Nat) (sl0 : Nat) (n0 : Nat) (d0 : Nat) (w0 : Nat) (c0 : Nat) (fa : Nat) (fn : Int) (fr : Nat → Option Nat) (qb : Int) (h0 : Nat) (a1 : Nat) (a2 : Nat) (a3 : Nat) (bl : Int) (bw : Int) (bt : Int) (bh : Int) (bd : Int) (bx : Int) (bn : Int) (CI : Int → Int) (CJ : Int → Int) (CW : Int → Int) (na : Nat) (nb : Nat) (nc : Nat) (nd : Nat) (WA : Int → Int) (PM : Int → Int) (PN : Int → Int) (WY : Int → Int) (hqb : 0 ≤ fn ∧ fn ≤ 6 ∧ 0 ≤ qb ∧ qb < fn) (hfr : fr qb.toNat = some h0) (hB : bOK bl bw bt bh bd bx bn CI CJ CW) (sz : Nat) : Met l yX11_orders wsX11_orders ({ frames := 6, cells := 0, slots := 0, locals := 131 } : Room) (wPc D y [(x0, .inr (10, [.ref t0, .ref g0, .ref f0, .ref r0, .ref sl0, .ref n0, .ref d0, .ref w0, .ref c0])), (f0, .inr (4, [.ref fa, zi fn])), (fa, .inl (y 3, 6, .inr (.inr (.inr (.inr fr))))), (h0, .inr (1, [zi bl, zi bw, zi bt, zi bh, zi bd, zi bx, zi bn, .ref a1, .ref a2, .ref a3])), (a1, .inl (y 0, 8, .inl (cI CI))), (a2, .inl (y 0, 8, .inl (cI CJ))), (a3, .inl (y 0, 8, .inl (cI CW)))] [(n0, .inr (6, [.ref na, .ref nb, .ref nc, .ref nd])), (na, .inl (y 0, 256, .inl (cI WA))), (nb, .inl (y 0, 256, .inl (cI PM))), (nc, .inl (y 0, 256, .inl (cI PN))), (nd, .inl (y 0, 256, .inl (cI WY)))] sz [.ref x0, zi qb]) (wQ D (fun (x9 : (Int → Int) × (Int → Int) × (Int → Int) × (Int → Int)) => match x9 with | (WA2, PM2, PN2, WY2) => some (zi (wV (okB bl bw bt bh bn CI CJ CW) bn 0))) (fun (x9 : (Int → Int) × (Int → Int) × (Int → Int) × (Int → Int)) => match x9 with | (WA2, PM2, PN2, WY2) => True) (fun (x9 : (Int → Int) × (Int → Int) × (Int → Int) × (Int → Int)) => match x9 with | (WA2, PM2, PN2, WY2) => [(n0, .inr (6, [.ref na, .ref nb, .ref nc, .ref nd])), (na, .inl (y 0, 256, .inl (cI WA2))), (nb, .inl (y 0, 256, .inl (cI PM2))), (nc, .inl (y 0, 256, .inl (cI PN2))), (nd, .inl (y 0, 256, .inl (cI WY2)))]) (va_A [(n0, .inr (6, [.ref na, .ref nb, .ref nc, .ref nd])), (na, .inl (y 0, 256, .inl (cI WA))), (nb, .inl (y 0, 256, .inl (cI PM))), (nc, .inl (y 0, 256, .inl (cI PN))), (nd, .inl (y 0, 256, .inl (cI WY)))] sz)) 0 0 (va_A [(n0, .inr (6, [.ref na, .ref nb, .ref nc, .ref nd])), (na, .inl (y 0, 256, .inl (cI WA))), (nb, .inl (y 0, 256, .inl (cI PM))), (nc, .inl (y 0, 256, .inl (cI PN))), (nd, .inl (y 0, 256, .inl (cI WY)))] sz) := by
  refine W_of (own := RX11) (cc := cX11_orders) (maxL := 3) (ret := some .int) (by decide) rfl rfl (Nat.le_of_ble_eq_true rfl) (fun p e s m below meth c ls A hx hb hr hC hlocks hin0 hR0 hN hP hD hA hG hl => ?_)
  have hC0 := hC
  obtain ⟨-, -, hml, hown, hts⟩ := hC0
  have hK := hG.1
  have hS : va_S A s.heap s.heap [] := va_S.rf
  have hPr := hR0
  have hinX11 : ∀ w ∈ wsX110, w ∈ wsX11_orders := fun _ h => List.mem_cons_of_mem _ (List.mem_append_left _ (List.mem_append_left _ (List.mem_append_left _ (List.mem_append_right _ h))))
  have k1 := hts (.fieldLink RX11 26 "BoatsOfPaper" "theFleet" "LBoatsOfPaper$Fleet;") (List.mem_of_getElem? (i := 1) rfl)
  have k2 := hts (.fieldLink RX11 46 "BoatsOfPaper" "laying" "LBoatsOfPaper$Laying;") (List.mem_of_getElem? (i := 2) rfl)
  have hl : lv_has ls 3 [(0, .ref x0), (1, zi qb)] := hl
  obtain ⟨q1, q2, q3, q4, q5, q6, q7, q8, q9, qc⟩ := id hB
  refine lv_aload_n hx hb dX11_orders_0 rfl (lv_at hl 0 rfl) ?_
  refine va_get hx hb hts hinX11 hown hK hPr 0 rfl rfl 2 (by decide) k1 (fun _ h => h) rfl dX11_orders_1 ?_
  refine lv_iload_n hx hb dX11_orders_4 rfl (lv_at hl 1 rfl) ?_
  refine z_pV (As := [zi qb]) (rest := []) hC (c_X4_find l D y f0 fa fn fr qb h0 (by first | assumption | omega) hfr) (cwV 1 hts gX11_orders_X4_find rfl rfl rfl (by decide +kernel) ⟨Nat.le_of_ble_eq_true rfl, Nat.le_of_ble_eq_true rfl⟩) hG (hPr.sub (ws' := [(f0, .inr (4, [.ref fa, zi fn])), (fa, .inl (y 3, 6, .inr (.inr (.inr (.inr fr)))))]) [1, 2] rfl) 0 rfl rfl rfl hl.1 rfl (Nat.le_of_ble_eq_true rfl) dX11_orders_5 ⟨Nat.le_of_ble_eq_true rfl, Nat.le_of_ble_eq_true rfl⟩ ?_
  refine lv_astore_n (lv' := [(2, .ref h0), (0, .ref x0), (1, zi qb)]) hx hb dX11_orders_8 rfl hl (by decide) rfl (fun ls hl => ?_)
  refine lv_aload_n hx hb dX11_orders_9 rfl (lv_at hl 0 rfl) ?_
  refine lv_ifnonnull (tgt := 15) hx hb dX11_orders_10 (by decide) ?_
  refine lv_aload_n hx hb dX11_orders_15 rfl (lv_at hl 1 rfl) ?_
  refine va_get hx hb hts hinX11 hown hK hPr 0 rfl rfl 5 (by decide) k2 (fun _ h => h) rfl dX11_orders_16 ?_
  refine lv_aload_n hx hb dX11_orders_19 rfl (lv_at hl 0 rfl) ?_
  refine z_wV (As := [.ref h0]) (rest := []) (wc := [(n0, .inr (6, [.ref na, .ref nb, .ref nc, .ref nd])), (na, .inl (y 0, 256, .inl (cI WA))), (nb, .inl (y 0, 256, .inl (cI PM))), (nc, .inl (y 0, 256, .inl (cI PN))), (nd, .inl (y 0, 256, .inl (cI WY)))]) (wrest := []) hC (c_X7_countAll l D y n0 na nb nc nd WA PM PN WY h0 a1 a2 a3 bl bw bt bh bd bx bn CI CJ CW (by first | assumption | omega) _) (cwV 1 hts gX11_orders_X7_countAll rfl rfl rfl (by decide +kernel) ⟨Nat.le_of_ble_eq_true rfl, Nat.le_of_ble_eq_true rfl⟩) hG hP hD hS hA [0, 1, 2, 3, 4] [] rfl rfl (by decide) (by decide) (by decide) (hPr.sub (ws' := [(h0, .inr (1, [zi bl, zi bw, zi bt, zi bh, zi bd, zi bx, zi bn, .ref a1, .ref a2, .ref a3])), (a1, .inl (y 0, 8, .inl (cI CI))), (a2, .inl (y 0, 8, .inl (cI CJ))), (a3, .inl (y 0, 8, .inl (cI CW)))]) [3, 4, 5, 6] rfl) (fun k q hk z => ro_sub (wr' := [(h0, .inr (1, [zi bl, zi bw, zi bt, zi bh, zi bd, zi bx, zi bn, .ref a1, .ref a2, .ref a3])), (a1, .inl (y 0, 8, .inl (cI CI))), (a2, .inl (y 0, 8, .inl (cI CJ))), (a3, .inl (y 0, 8, .inl (cI CW)))]) hN [3, 4, 5, 6] rfl k q hk (va_free (wc := [(n0, .inr (6, [.ref na, .ref nb, .ref nc, .ref nd])), (na, .inl (y 0, 256, .inl (cI WA))), (nb, .inl (y 0, 256, .inl (cI PM))), (nc, .inl (y 0, 256, .inl (cI PN))), (nd, .inl (y 0, 256, .inl (cI WY)))]) hD hS hA [0, 1, 2, 3, 4] rfl q.1 z)) 0 rfl rfl rfl hl.1 rfl (Nat.le_of_ble_eq_true rfl) dX11_orders_20 ⟨Nat.le_of_ble_eq_true rfl, Nat.le_of_ble_eq_true rfl⟩ (fun u9 H locs hw_5 hP hD hS => ?_)
  obtain ⟨WA2_1, PM2_2, PN2_3, WY2_4⟩ := u9
  have hw_5 : ∀ t : Int, 0 ≤ t → t ≤ 1 * 2 ^ bn.toNat - 1 → WY2_4 t = wV (okB bl bw bt bh bn CI CJ CW) bn t := hw_5
  have hP : va_P D vwCl [(n0, .inr (6, [.ref na, .ref nb, .ref nc, .ref nd])), (na, .inl (y 0, 256, .inl (cI WA2_1))), (nb, .inl (y 0, 256, .inl (cI PM2_2))), (nc, .inl (y 0, 256, .inl (cI PN2_3))), (nd, .inl (y 0, 256, .inl (cI WY2_4)))] H := hP
  have hD : va_D A [(n0, .inr (6, [.ref na, .ref nb, .ref nc, .ref nd])), (na, .inl (y 0, 256, .inl (cI WA2_1))), (nb, .inl (y 0, 256, .inl (cI PM2_2))), (nc, .inl (y 0, 256, .inl (cI PN2_3))), (nd, .inl (y 0, 256, .inl (cI WY2_4)))] := hD
  have hPr := ro_now hR0 hN hS
  exact z_iretW hx hb hr hlocks (WA2_1, PM2_2, PN2_3, WY2_4) (rfl) (trivial) (hP.sub [0, 1, 2, 3, 4] rfl) (hD.sub [0, 1, 2, 3, 4] (by decide) rfl) hS dX11_orders_23
set_option maxHeartbeats 8000000 in
set_option maxRecDepth 100000 in
theorem c_X11_order_no (l : Launch) (D : va_G) (y : Nat → ClassId) (x0 : Nat) (t0 : Nat) (g0 : Nat) (f0 : Nat) (r0 : Nat) (sl0 : Nat) (n0 : Nat) (d0 : Nat) (w0 : Nat) (c0 : Nat) (fa : Nat) (fn : Int) (fr : Nat → Option Nat) (qb : Int) (kq : Int) (hqb : rI qb ∧ 0 ≤ fn ∧ fn ≤ 6 ∧ ¬ (0 ≤ qb ∧ qb < fn)) : Met l yX11_order wsX11_order ({ frames := 1, cells := 0, slots := 0, locals := 21 } : Room) (pPc D y [(x0, .inr (10, [.ref t0, .ref g0, .ref f0, .ref r0, .ref sl0, .ref n0, .ref d0, .ref w0, .ref c0])), (f0, .inr (4, [.ref fa, zi fn])), (fa, .inl (y 3, 6, .inr (.inr (.inr (.inr fr)))))] [.ref x0, zi qb, zi kq]) (qV (zi (-1))) 0 0 (fun _ => False) := by
  refine P_of (own := RX11) (cc := cX11_order) (maxL := 4) (ret := some .int) (by decide) rfl rfl (Nat.le_of_ble_eq_true rfl) (fun p e s m below meth c ls hx hb hr hC hlocks hPr hG hl => ?_)
  have hC0 := hC
  obtain ⟨-, -, hml, hown, hts⟩ := hC0
  have hK := hG.1
  have hinX11 : ∀ w ∈ wsX110, w ∈ wsX11_order := fun _ h => List.mem_cons_of_mem _ (List.mem_append_left _ (List.mem_append_left _ (List.mem_append_left _ (List.mem_append_right _ h))))
  have k1 := hts (.fieldLink RX11 26 "BoatsOfPaper" "theFleet" "LBoatsOfPaper$Fleet;") (List.mem_of_getElem? (i := 1) rfl)
  have hl : lv_has ls 4 [(0, .ref x0), (1, zi qb), (2, zi kq)] := hl
  refine lv_aload_n hx hb dX11_order_0 rfl (lv_at hl 0 rfl) ?_
  refine va_get hx hb hts hinX11 hown hK hPr 0 rfl rfl 2 (by decide) k1 (fun _ h => h) rfl dX11_order_1 ?_
  refine lv_iload_n hx hb dX11_order_4 rfl (lv_at hl 1 rfl) ?_
  refine z_pV (As := [zi qb]) (rest := []) hC (c_X4_find_no l D y f0 fa fn fr qb (by first | assumption | omega)) (cwV 1 hts gX11_order_X4_find rfl rfl rfl (by decide +kernel) ⟨Nat.le_of_ble_eq_true rfl, Nat.le_of_ble_eq_true rfl⟩) hG (hPr.sub (ws' := [(f0, .inr (4, [.ref fa, zi fn])), (fa, .inl (y 3, 6, .inr (.inr (.inr (.inr fr)))))]) [1, 2] rfl) 0 rfl rfl rfl hl.1 rfl (Nat.le_of_ble_eq_true rfl) dX11_order_5 ⟨Nat.le_of_ble_eq_true rfl, Nat.le_of_ble_eq_true rfl⟩ ?_
  refine lv_astore_nN (lv' := [(3, .null), (0, .ref x0), (1, zi qb), (2, zi kq)]) hx hb dX11_order_8 rfl hl (by decide) rfl (fun ls hl => ?_)
  refine lv_aload_nN hx hb dX11_order_9 rfl (lv_at hl 0 rfl) ?_
  refine lv_ifnonnullN hx hb dX11_order_10 ?_
  refine z_iconst hx hb dX11_order_13 ?_
  exact z_iret0 hx hb hr hlocks (rfl) dX11_order_14
set_option maxHeartbeats 8000000 in
set_option maxRecDepth 100000 in
theorem c_X11_order (l : Launch) (D : va_G) (y : Nat → ClassId) (x0 : Nat) (t0 : Nat) (g0 : Nat) (f0 : Nat) (r0 : Nat) (sl0 : Nat) (n0 : Nat) (d0 : Nat) (w0 : Nat) (c0 : Nat) (fa : Nat) (fn : Int) (fr : Nat → Option Nat) (qb : Int) (h0 : Nat) (a1 : Nat) (a2 : Nat) (a3 : Nat) (bl : Int) (bw : Int) (bt : Int) (bh : Int) (bd : Int) (bx : Int) (bn : Int) (CI : Int → Int) (CJ : Int → Int) (CW : Int → Int) (kq : Int) (na : Nat) (nb : Nat) (nc : Nat) (nd : Nat) (WA : Int → Int) (PM : Int → Int) (PN : Int → Int) (WY : Int → Int) (hqb : 0 ≤ fn ∧ fn ≤ 6 ∧ 0 ≤ qb ∧ qb < fn) (hfr : fr qb.toNat = some h0) (hB : bOK bl bw bt bh bd bx bn CI CJ CW) (hk : rI kq) (sz : Nat) : Met l yX11_order wsX11_order ({ frames := 7, cells := 0, slots := 0, locals := 156 } : Room) (wPc D y [(x0, .inr (10, [.ref t0, .ref g0, .ref f0, .ref r0, .ref sl0, .ref n0, .ref d0, .ref w0, .ref c0])), (f0, .inr (4, [.ref fa, zi fn])), (fa, .inl (y 3, 6, .inr (.inr (.inr (.inr fr))))), (h0, .inr (1, [zi bl, zi bw, zi bt, zi bh, zi bd, zi bx, zi bn, .ref a1, .ref a2, .ref a3])), (a1, .inl (y 0, 8, .inl (cI CI))), (a2, .inl (y 0, 8, .inl (cI CJ))), (a3, .inl (y 0, 8, .inl (cI CW)))] [(n0, .inr (6, [.ref na, .ref nb, .ref nc, .ref nd])), (na, .inl (y 0, 256, .inl (cI WA))), (nb, .inl (y 0, 256, .inl (cI PM))), (nc, .inl (y 0, 256, .inl (cI PN))), (nd, .inl (y 0, 256, .inl (cI WY)))] sz [.ref x0, zi qb, zi kq]) (wQ D (fun (x9 : (Int → Int) × (Int → Int) × (Int → Int) × (Int → Int)) => match x9 with | (WA2, PM2, PN2, WY2) => some (zi (ordV (okB bl bw bt bh bn CI CJ CW) bn kq))) (fun (x9 : (Int → Int) × (Int → Int) × (Int → Int) × (Int → Int)) => match x9 with | (WA2, PM2, PN2, WY2) => True) (fun (x9 : (Int → Int) × (Int → Int) × (Int → Int) × (Int → Int)) => match x9 with | (WA2, PM2, PN2, WY2) => [(n0, .inr (6, [.ref na, .ref nb, .ref nc, .ref nd])), (na, .inl (y 0, 256, .inl (cI WA2))), (nb, .inl (y 0, 256, .inl (cI PM2))), (nc, .inl (y 0, 256, .inl (cI PN2))), (nd, .inl (y 0, 256, .inl (cI WY2)))]) (va_A [(n0, .inr (6, [.ref na, .ref nb, .ref nc, .ref nd])), (na, .inl (y 0, 256, .inl (cI WA))), (nb, .inl (y 0, 256, .inl (cI PM))), (nc, .inl (y 0, 256, .inl (cI PN))), (nd, .inl (y 0, 256, .inl (cI WY)))] sz)) 0 0 (va_A [(n0, .inr (6, [.ref na, .ref nb, .ref nc, .ref nd])), (na, .inl (y 0, 256, .inl (cI WA))), (nb, .inl (y 0, 256, .inl (cI PM))), (nc, .inl (y 0, 256, .inl (cI PN))), (nd, .inl (y 0, 256, .inl (cI WY)))] sz) := by
  refine W_of (own := RX11) (cc := cX11_order) (maxL := 4) (ret := some .int) (by decide) rfl rfl (Nat.le_of_ble_eq_true rfl) (fun p e s m below meth c ls A hx hb hr hC hlocks hin0 hR0 hN hP hD hA hG hl => ?_)
  have hC0 := hC
  obtain ⟨-, -, hml, hown, hts⟩ := hC0
  have hK := hG.1
  have hS : va_S A s.heap s.heap [] := va_S.rf
  have hPr := hR0
  have hinX11 : ∀ w ∈ wsX110, w ∈ wsX11_order := fun _ h => List.mem_cons_of_mem _ (List.mem_append_left _ (List.mem_append_left _ (List.mem_append_left _ (List.mem_append_right _ h))))
  have k1 := hts (.fieldLink RX11 26 "BoatsOfPaper" "theFleet" "LBoatsOfPaper$Fleet;") (List.mem_of_getElem? (i := 1) rfl)
  have k2 := hts (.fieldLink RX11 46 "BoatsOfPaper" "laying" "LBoatsOfPaper$Laying;") (List.mem_of_getElem? (i := 2) rfl)
  have hl : lv_has ls 4 [(0, .ref x0), (1, zi qb), (2, zi kq)] := hl
  obtain ⟨q1, q2, q3, q4, q5, q6, q7, q8, q9, qc⟩ := id hB
  refine lv_aload_n hx hb dX11_order_0 rfl (lv_at hl 0 rfl) ?_
  refine va_get hx hb hts hinX11 hown hK hPr 0 rfl rfl 2 (by decide) k1 (fun _ h => h) rfl dX11_order_1 ?_
  refine lv_iload_n hx hb dX11_order_4 rfl (lv_at hl 1 rfl) ?_
  refine z_pV (As := [zi qb]) (rest := []) hC (c_X4_find l D y f0 fa fn fr qb h0 (by first | assumption | omega) hfr) (cwV 1 hts gX11_order_X4_find rfl rfl rfl (by decide +kernel) ⟨Nat.le_of_ble_eq_true rfl, Nat.le_of_ble_eq_true rfl⟩) hG (hPr.sub (ws' := [(f0, .inr (4, [.ref fa, zi fn])), (fa, .inl (y 3, 6, .inr (.inr (.inr (.inr fr)))))]) [1, 2] rfl) 0 rfl rfl rfl hl.1 rfl (Nat.le_of_ble_eq_true rfl) dX11_order_5 ⟨Nat.le_of_ble_eq_true rfl, Nat.le_of_ble_eq_true rfl⟩ ?_
  refine lv_astore_n (lv' := [(3, .ref h0), (0, .ref x0), (1, zi qb), (2, zi kq)]) hx hb dX11_order_8 rfl hl (by decide) rfl (fun ls hl => ?_)
  refine lv_aload_n hx hb dX11_order_9 rfl (lv_at hl 0 rfl) ?_
  refine lv_ifnonnull (tgt := 15) hx hb dX11_order_10 (by decide) ?_
  refine lv_aload_n hx hb dX11_order_15 rfl (lv_at hl 1 rfl) ?_
  refine va_get hx hb hts hinX11 hown hK hPr 0 rfl rfl 5 (by decide) k2 (fun _ h => h) rfl dX11_order_16 ?_
  refine lv_aload_n hx hb dX11_order_19 rfl (lv_at hl 0 rfl) ?_
  refine lv_iload_n hx hb dX11_order_20 rfl (lv_at hl 3 rfl) ?_
  refine z_wV (As := [.ref h0, zi kq]) (rest := []) (wc := [(n0, .inr (6, [.ref na, .ref nb, .ref nc, .ref nd])), (na, .inl (y 0, 256, .inl (cI WA))), (nb, .inl (y 0, 256, .inl (cI PM))), (nc, .inl (y 0, 256, .inl (cI PN))), (nd, .inl (y 0, 256, .inl (cI WY)))]) (wrest := []) hC (c_X7_coinAt l D y n0 na nb nc nd WA PM PN WY h0 a1 a2 a3 bl bw bt bh bd bx bn CI CJ CW kq (by first | assumption | omega) (by first | assumption | omega) _) (cwV 2 hts gX11_order_X7_coinAt rfl rfl rfl (by decide +kernel) ⟨Nat.le_of_ble_eq_true rfl, Nat.le_of_ble_eq_true rfl⟩) hG hP hD hS hA [0, 1, 2, 3, 4] [] rfl rfl (by decide) (by decide) (by decide) (hPr.sub (ws' := [(h0, .inr (1, [zi bl, zi bw, zi bt, zi bh, zi bd, zi bx, zi bn, .ref a1, .ref a2, .ref a3])), (a1, .inl (y 0, 8, .inl (cI CI))), (a2, .inl (y 0, 8, .inl (cI CJ))), (a3, .inl (y 0, 8, .inl (cI CW)))]) [3, 4, 5, 6] rfl) (fun k q hk z => ro_sub (wr' := [(h0, .inr (1, [zi bl, zi bw, zi bt, zi bh, zi bd, zi bx, zi bn, .ref a1, .ref a2, .ref a3])), (a1, .inl (y 0, 8, .inl (cI CI))), (a2, .inl (y 0, 8, .inl (cI CJ))), (a3, .inl (y 0, 8, .inl (cI CW)))]) hN [3, 4, 5, 6] rfl k q hk (va_free (wc := [(n0, .inr (6, [.ref na, .ref nb, .ref nc, .ref nd])), (na, .inl (y 0, 256, .inl (cI WA))), (nb, .inl (y 0, 256, .inl (cI PM))), (nc, .inl (y 0, 256, .inl (cI PN))), (nd, .inl (y 0, 256, .inl (cI WY)))]) hD hS hA [0, 1, 2, 3, 4] rfl q.1 z)) 0 rfl rfl rfl hl.1 rfl (Nat.le_of_ble_eq_true rfl) dX11_order_21 ⟨Nat.le_of_ble_eq_true rfl, Nat.le_of_ble_eq_true rfl⟩ (fun u9 H locs hw_5 hP hD hS => ?_)
  obtain ⟨WA2_1, PM2_2, PN2_3, WY2_4⟩ := u9
  have hw_5 : True := hw_5
  have hP : va_P D vwCl [(n0, .inr (6, [.ref na, .ref nb, .ref nc, .ref nd])), (na, .inl (y 0, 256, .inl (cI WA2_1))), (nb, .inl (y 0, 256, .inl (cI PM2_2))), (nc, .inl (y 0, 256, .inl (cI PN2_3))), (nd, .inl (y 0, 256, .inl (cI WY2_4)))] H := hP
  have hD : va_D A [(n0, .inr (6, [.ref na, .ref nb, .ref nc, .ref nd])), (na, .inl (y 0, 256, .inl (cI WA2_1))), (nb, .inl (y 0, 256, .inl (cI PM2_2))), (nc, .inl (y 0, 256, .inl (cI PN2_3))), (nd, .inl (y 0, 256, .inl (cI WY2_4)))] := hD
  have hPr := ro_now hR0 hN hS
  exact z_iretW hx hb hr hlocks (WA2_1, PM2_2, PN2_3, WY2_4) (rfl) (trivial) (hP.sub [0, 1, 2, 3, 4] rfl) (hD.sub [0, 1, 2, 3, 4] (by decide) rfl) hS dX11_order_24
set_option maxHeartbeats 8000000 in
set_option maxRecDepth 100000 in
theorem c_X11_needs_no (l : Launch) (D : va_G) (y : Nat → ClassId) (x0 : Nat) (t0 : Nat) (g0 : Nat) (f0 : Nat) (r0 : Nat) (sl0 : Nat) (n0 : Nat) (d0 : Nat) (w0 : Nat) (c0 : Nat) (fa : Nat) (fn : Int) (fr : Nat → Option Nat) (qb : Int) (ts : Int) (hqb : rI qb ∧ 0 ≤ fn ∧ fn ≤ 6 ∧ ¬ (0 ≤ qb ∧ qb < fn)) : Met l yX11_needs wsX11_needs ({ frames := 1, cells := 0, slots := 0, locals := 21 } : Room) (pPc D y [(x0, .inr (10, [.ref t0, .ref g0, .ref f0, .ref r0, .ref sl0, .ref n0, .ref d0, .ref w0, .ref c0])), (f0, .inr (4, [.ref fa, zi fn])), (fa, .inl (y 3, 6, .inr (.inr (.inr (.inr fr)))))] [.ref x0, zi qb, zi ts]) (qV (zi (-1))) 0 0 (fun _ => False) := by
  refine P_of (own := RX11) (cc := cX11_needs) (maxL := 4) (ret := some .int) (by decide) rfl rfl (Nat.le_of_ble_eq_true rfl) (fun p e s m below meth c ls hx hb hr hC hlocks hPr hG hl => ?_)
  have hC0 := hC
  obtain ⟨-, -, hml, hown, hts⟩ := hC0
  have hK := hG.1
  have hinX11 : ∀ w ∈ wsX110, w ∈ wsX11_needs := fun _ h => List.mem_cons_of_mem _ (List.mem_append_left _ (List.mem_append_left _ (List.mem_append_right _ h)))
  have k1 := hts (.fieldLink RX11 26 "BoatsOfPaper" "theFleet" "LBoatsOfPaper$Fleet;") (List.mem_of_getElem? (i := 1) rfl)
  have hl : lv_has ls 4 [(0, .ref x0), (1, zi qb), (2, zi ts)] := hl
  refine lv_aload_n hx hb dX11_needs_0 rfl (lv_at hl 0 rfl) ?_
  refine va_get hx hb hts hinX11 hown hK hPr 0 rfl rfl 2 (by decide) k1 (fun _ h => h) rfl dX11_needs_1 ?_
  refine lv_iload_n hx hb dX11_needs_4 rfl (lv_at hl 1 rfl) ?_
  refine z_pV (As := [zi qb]) (rest := []) hC (c_X4_find_no l D y f0 fa fn fr qb (by first | assumption | omega)) (cwV 1 hts gX11_needs_X4_find rfl rfl rfl (by decide +kernel) ⟨Nat.le_of_ble_eq_true rfl, Nat.le_of_ble_eq_true rfl⟩) hG (hPr.sub (ws' := [(f0, .inr (4, [.ref fa, zi fn])), (fa, .inl (y 3, 6, .inr (.inr (.inr (.inr fr)))))]) [1, 2] rfl) 0 rfl rfl rfl hl.1 rfl (Nat.le_of_ble_eq_true rfl) dX11_needs_5 ⟨Nat.le_of_ble_eq_true rfl, Nat.le_of_ble_eq_true rfl⟩ ?_
  refine lv_astore_nN (lv' := [(3, .null), (0, .ref x0), (1, zi qb), (2, zi ts)]) hx hb dX11_needs_8 rfl hl (by decide) rfl (fun ls hl => ?_)
  refine lv_aload_nN hx hb dX11_needs_9 rfl (lv_at hl 0 rfl) ?_
  refine lv_ifnonnullN hx hb dX11_needs_10 ?_
  refine z_iconst hx hb dX11_needs_13 ?_
  exact z_iret0 hx hb hr hlocks (rfl) dX11_needs_14
set_option maxHeartbeats 8000000 in
set_option maxRecDepth 100000 in
theorem c_X11_needs_out (l : Launch) (D : va_G) (y : Nat → ClassId) (x0 : Nat) (t0 : Nat) (g0 : Nat) (f0 : Nat) (r0 : Nat) (sl0 : Nat) (n0 : Nat) (d0 : Nat) (w0 : Nat) (c0 : Nat) (fa : Nat) (fn : Int) (fr : Nat → Option Nat) (qb : Int) (h0 : Nat) (a1 : Nat) (a2 : Nat) (a3 : Nat) (bl : Int) (bw : Int) (bt : Int) (bh : Int) (bd : Int) (bx : Int) (bn : Int) (CI : Int → Int) (CJ : Int → Int) (CW : Int → Int) (ts : Int) (hqb : 0 ≤ fn ∧ fn ≤ 6 ∧ 0 ≤ qb ∧ qb < fn) (hfr : fr qb.toNat = some h0) (hB : bOK bl bw bt bh bd bx bn CI CJ CW) (hr9 : rI ts) (hq : ¬ (0 ≤ ts ∧ ts ≤ 99)) : Met l yX11_needs wsX11_needs ({ frames := 1, cells := 0, slots := 0, locals := 22 } : Room) (pPc D y [(x0, .inr (10, [.ref t0, .ref g0, .ref f0, .ref r0, .ref sl0, .ref n0, .ref d0, .ref w0, .ref c0])), (f0, .inr (4, [.ref fa, zi fn])), (fa, .inl (y 3, 6, .inr (.inr (.inr (.inr fr))))), (h0, .inr (1, [zi bl, zi bw, zi bt, zi bh, zi bd, zi bx, zi bn, .ref a1, .ref a2, .ref a3])), (a1, .inl (y 0, 8, .inl (cI CI))), (a2, .inl (y 0, 8, .inl (cI CJ))), (a3, .inl (y 0, 8, .inl (cI CW)))] [.ref x0, zi qb, zi ts]) (qV (zi (-2))) 0 0 (fun _ => False) := by
  refine P_of (own := RX11) (cc := cX11_needs) (maxL := 4) (ret := some .int) (by decide) rfl rfl (Nat.le_of_ble_eq_true rfl) (fun p e s m below meth c ls hx hb hr hC hlocks hPr hG hl => ?_)
  have hC0 := hC
  obtain ⟨-, -, hml, hown, hts⟩ := hC0
  have hK := hG.1
  have hinX11 : ∀ w ∈ wsX110, w ∈ wsX11_needs := fun _ h => List.mem_cons_of_mem _ (List.mem_append_left _ (List.mem_append_left _ (List.mem_append_right _ h)))
  have k1 := hts (.fieldLink RX11 26 "BoatsOfPaper" "theFleet" "LBoatsOfPaper$Fleet;") (List.mem_of_getElem? (i := 1) rfl)
  have hl : lv_has ls 4 [(0, .ref x0), (1, zi qb), (2, zi ts)] := hl
  obtain ⟨q1, q2, q3, q4, q5, q6, q7, q8, q9, qc⟩ := id hB
  refine lv_aload_n hx hb dX11_needs_0 rfl (lv_at hl 0 rfl) ?_
  refine va_get hx hb hts hinX11 hown hK hPr 0 rfl rfl 2 (by decide) k1 (fun _ h => h) rfl dX11_needs_1 ?_
  refine lv_iload_n hx hb dX11_needs_4 rfl (lv_at hl 1 rfl) ?_
  refine z_pV (As := [zi qb]) (rest := []) hC (c_X4_find l D y f0 fa fn fr qb h0 (by first | assumption | omega) hfr) (cwV 1 hts gX11_needs_X4_find rfl rfl rfl (by decide +kernel) ⟨Nat.le_of_ble_eq_true rfl, Nat.le_of_ble_eq_true rfl⟩) hG (hPr.sub (ws' := [(f0, .inr (4, [.ref fa, zi fn])), (fa, .inl (y 3, 6, .inr (.inr (.inr (.inr fr)))))]) [1, 2] rfl) 0 rfl rfl rfl hl.1 rfl (Nat.le_of_ble_eq_true rfl) dX11_needs_5 ⟨Nat.le_of_ble_eq_true rfl, Nat.le_of_ble_eq_true rfl⟩ ?_
  refine lv_astore_n (lv' := [(3, .ref h0), (0, .ref x0), (1, zi qb), (2, zi ts)]) hx hb dX11_needs_8 rfl hl (by decide) rfl (fun ls hl => ?_)
  refine lv_aload_n hx hb dX11_needs_9 rfl (lv_at hl 0 rfl) ?_
  refine lv_ifnonnull (tgt := 15) hx hb dX11_needs_10 (by decide) ?_
  refine lv_iload_n hx hb dX11_needs_15 rfl (lv_at hl 3 rfl) ?_
  refine z_iconst hx hb dX11_needs_16 ?_
  refine z_bipush hx hb dX11_needs_17 (by decide) ?_
  refine z_pS (As := [zi ts, zi 0, zi 99]) (rest := []) hC (c_X11_isWithin l D y ts 0 99 (by first | assumption | omega)) (va_cwS 3 hts gX11_needs_X11_isWithin rfl rfl rfl (by decide +kernel) ⟨Nat.le_of_ble_eq_true rfl, Nat.le_of_ble_eq_true rfl⟩) hG va_P_nil rfl hl.1 rfl (Nat.le_of_ble_eq_true rfl) dX11_needs_19 ⟨Nat.le_of_ble_eq_true rfl, Nat.le_of_ble_eq_true rfl⟩ ?_
  refine z_ifB_ne (tgt := 28) hx hb dX11_needs_22 (by decide) (fun c_22 => ?_) (fun c_22 => ?_)
  · exfalso; omega
  ·
    refine z_bipush hx hb dX11_needs_25 (by decide) ?_
    exact z_iret0 hx hb hr hlocks (rfl) dX11_needs_27
set_option maxHeartbeats 8000000 in
set_option maxRecDepth 100000 in
theorem c_X11_needs (l : Launch) (D : va_G) (y : Nat → ClassId) (x0 : Nat) (t0 : Nat) (g0 : Nat) (f0 : Nat) (r0 : Nat) (sl0 : Nat) (n0 : Nat) (d0 : Nat) (w0 : Nat) (c0 : Nat) (fa : Nat) (fn : Int) (fr : Nat → Option Nat) (qb : Int) (h0 : Nat) (a1 : Nat) (a2 : Nat) (a3 : Nat) (bl : Int) (bw : Int) (bt : Int) (bh : Int) (bd : Int) (bx : Int) (bn : Int) (CI : Int → Int) (CJ : Int → Int) (CW : Int → Int) (ts : Int) (hqb : 0 ≤ fn ∧ fn ≤ 6 ∧ 0 ≤ qb ∧ qb < fn) (hfr : fr qb.toNat = some h0) (hB : bOK bl bw bt bh bd bx bn CI CJ CW) (hs : 0 ≤ ts ∧ ts ≤ 99) : Met l yX11_needs wsX11_needs ({ frames := 2, cells := 0, slots := 0, locals := 43 } : Room) (pPc D y [(x0, .inr (10, [.ref t0, .ref g0, .ref f0, .ref r0, .ref sl0, .ref n0, .ref d0, .ref w0, .ref c0])), (f0, .inr (4, [.ref fa, zi fn])), (fa, .inl (y 3, 6, .inr (.inr (.inr (.inr fr))))), (h0, .inr (1, [zi bl, zi bw, zi bt, zi bh, zi bd, zi bx, zi bn, .ref a1, .ref a2, .ref a3])), (a1, .inl (y 0, 8, .inl (cI CI))), (a2, .inl (y 0, 8, .inl (cI CJ))), (a3, .inl (y 0, 8, .inl (cI CW)))] [.ref x0, zi qb, zi ts]) (qV (zi (lwaxV bt ts))) 0 0 (fun _ => False) := by
  refine P_of (own := RX11) (cc := cX11_needs) (maxL := 4) (ret := some .int) (by decide) rfl rfl (Nat.le_of_ble_eq_true rfl) (fun p e s m below meth c ls hx hb hr hC hlocks hPr hG hl => ?_)
  have hC0 := hC
  obtain ⟨-, -, hml, hown, hts⟩ := hC0
  have hK := hG.1
  have hinX11 : ∀ w ∈ wsX110, w ∈ wsX11_needs := fun _ h => List.mem_cons_of_mem _ (List.mem_append_left _ (List.mem_append_left _ (List.mem_append_right _ h)))
  have k1 := hts (.fieldLink RX11 26 "BoatsOfPaper" "theFleet" "LBoatsOfPaper$Fleet;") (List.mem_of_getElem? (i := 1) rfl)
  have hl : lv_has ls 4 [(0, .ref x0), (1, zi qb), (2, zi ts)] := hl
  obtain ⟨q1, q2, q3, q4, q5, q6, q7, q8, q9, qc⟩ := id hB
  refine lv_aload_n hx hb dX11_needs_0 rfl (lv_at hl 0 rfl) ?_
  refine va_get hx hb hts hinX11 hown hK hPr 0 rfl rfl 2 (by decide) k1 (fun _ h => h) rfl dX11_needs_1 ?_
  refine lv_iload_n hx hb dX11_needs_4 rfl (lv_at hl 1 rfl) ?_
  refine z_pV (As := [zi qb]) (rest := []) hC (c_X4_find l D y f0 fa fn fr qb h0 (by first | assumption | omega) hfr) (cwV 1 hts gX11_needs_X4_find rfl rfl rfl (by decide +kernel) ⟨Nat.le_of_ble_eq_true rfl, Nat.le_of_ble_eq_true rfl⟩) hG (hPr.sub (ws' := [(f0, .inr (4, [.ref fa, zi fn])), (fa, .inl (y 3, 6, .inr (.inr (.inr (.inr fr)))))]) [1, 2] rfl) 0 rfl rfl rfl hl.1 rfl (Nat.le_of_ble_eq_true rfl) dX11_needs_5 ⟨Nat.le_of_ble_eq_true rfl, Nat.le_of_ble_eq_true rfl⟩ ?_
  refine lv_astore_n (lv' := [(3, .ref h0), (0, .ref x0), (1, zi qb), (2, zi ts)]) hx hb dX11_needs_8 rfl hl (by decide) rfl (fun ls hl => ?_)
  refine lv_aload_n hx hb dX11_needs_9 rfl (lv_at hl 0 rfl) ?_
  refine lv_ifnonnull (tgt := 15) hx hb dX11_needs_10 (by decide) ?_
  refine lv_iload_n hx hb dX11_needs_15 rfl (lv_at hl 3 rfl) ?_
  refine z_iconst hx hb dX11_needs_16 ?_
  refine z_bipush hx hb dX11_needs_17 (by decide) ?_
  refine z_pS (As := [zi ts, zi 0, zi 99]) (rest := []) hC (c_X11_isWithin l D y ts 0 99 (by first | assumption | omega)) (va_cwS 3 hts gX11_needs_X11_isWithin rfl rfl rfl (by decide +kernel) ⟨Nat.le_of_ble_eq_true rfl, Nat.le_of_ble_eq_true rfl⟩) hG va_P_nil rfl hl.1 rfl (Nat.le_of_ble_eq_true rfl) dX11_needs_19 ⟨Nat.le_of_ble_eq_true rfl, Nat.le_of_ble_eq_true rfl⟩ ?_
  refine z_ifB_ne (tgt := 28) hx hb dX11_needs_22 (by decide) (fun c_22 => ?_) (fun c_22 => ?_)
  ·
    refine lv_aload_n hx hb dX11_needs_28 rfl (lv_at hl 0 rfl) ?_
    refine lv_iload_n hx hb dX11_needs_29 rfl (lv_at hl 3 rfl) ?_
    refine z_pV (As := [zi ts]) (rest := []) hC (c_X1_leastWax l D y h0 a1 a2 a3 bl bw bt bh bd bx bn CI CJ CW ts (by first | assumption | omega) (by first | assumption | omega)) (cwV 1 hts gX11_needs_X1_leastWax rfl rfl rfl (by decide +kernel) ⟨Nat.le_of_ble_eq_true rfl, Nat.le_of_ble_eq_true rfl⟩) hG (hPr.sub (ws' := [(h0, .inr (1, [zi bl, zi bw, zi bt, zi bh, zi bd, zi bx, zi bn, .ref a1, .ref a2, .ref a3])), (a1, .inl (y 0, 8, .inl (cI CI))), (a2, .inl (y 0, 8, .inl (cI CJ))), (a3, .inl (y 0, 8, .inl (cI CW)))]) [3, 4, 5, 6] rfl) 0 rfl rfl rfl hl.1 rfl (Nat.le_of_ble_eq_true rfl) dX11_needs_30 ⟨Nat.le_of_ble_eq_true rfl, Nat.le_of_ble_eq_true rfl⟩ ?_
    exact z_iret0 hx hb hr hlocks (rfl) dX11_needs_33
  · exfalso; omega
