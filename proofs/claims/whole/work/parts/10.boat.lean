set_option maxHeartbeats 8000000 in
set_option maxRecDepth 100000 in
theorem c_X11_isWithin (l : Launch) (D : va_G) (y : Nat → ClassId) (wn : Int) (wa : Int) (wb : Int) (hq : rI wn ∧ rI wa ∧ rI wb) : Met l yX11_isWithin wsX11_isWithin ({ frames := 0, cells := 0, slots := 0, locals := 0 } : Room) (pPc D y [] [zi wn, zi wa, zi wb]) (qV (zi (bI (wa ≤ wn ∧ wn ≤ wb)))) 0 0 (fun _ => False) := by
  refine P_of (own := RX11) (cc := cX11_isWithin) (maxL := 3) (ret := some .boolean) (by decide) rfl rfl (Nat.le_of_ble_eq_true rfl) (fun p e s m below meth c ls hx hb hr hC hlocks hPr hG hl => ?_)
  have hC0 := hC
  obtain ⟨-, -, hml, hown, hts⟩ := hC0
  have hK := hG.1
  have hl : lv_has ls 3 [(0, zi wn), (1, zi wa), (2, zi wb)] := hl
  refine lv_iload_n hx hb dX11_isWithin_0 rfl (lv_at hl 0 rfl) ?_
  refine lv_iload_n hx hb dX11_isWithin_1 rfl (lv_at hl 1 rfl) ?_
  refine z_icmp_lt (tgt := 14) hx hb (by omega) (by omega) dX11_isWithin_2 (by decide) (fun c_2 => ?_) (fun c_2 => ?_)
  ·
    refine z_iconst hx hb dX11_isWithin_14 ?_
    exact z_zret0 hx hb hr hlocks (by omega) (by first | exact (bI_t (by omega)).symm | exact (bI_f (by omega)).symm) dX11_isWithin_15
  ·
    refine lv_iload_n hx hb dX11_isWithin_5 rfl (lv_at hl 0 rfl) ?_
    refine lv_iload_n hx hb dX11_isWithin_6 rfl (lv_at hl 2 rfl) ?_
    refine z_icmp_gt (tgt := 14) hx hb (by omega) (by omega) dX11_isWithin_7 (by decide) (fun c_7 => ?_) (fun c_7 => ?_)
    ·
      refine z_iconst hx hb dX11_isWithin_14 ?_
      exact z_zret0 hx hb hr hlocks (by omega) (by first | exact (bI_t (by omega)).symm | exact (bI_f (by omega)).symm) dX11_isWithin_15
    ·
      refine z_iconst hx hb dX11_isWithin_10 ?_
      refine lv_goto (tgt := 15) hx hb dX11_isWithin_11 (by decide) ?_
      exact z_zret0 hx hb hr hlocks (by omega) (by first | exact (bI_t (by omega)).symm | exact (bI_f (by omega)).symm) dX11_isWithin_15
set_option maxHeartbeats 8000000 in
set_option maxRecDepth 100000 in
theorem c_X11_canFold (l : Launch) (D : va_G) (y : Nat → ClassId) (fl : Int) (fw : Int) (fh : Int) (hq : (0 ≤ fl ∧ fl ≤ 100) ∧ (0 ≤ fw ∧ fw ≤ 100) ∧ rI fh) : Met l yX11_canFold wsX11_canFold ({ frames := 1, cells := 0, slots := 0, locals := 22 } : Room) (pPc D y [] [zi fl, zi fw, zi fh]) (qV (zi (bI (1 ≤ fh ∧ fh ≤ 9 ∧ 1 ≤ fl - 2 * fh ∧ 1 ≤ fw - 2 * fh)))) 0 0 (fun _ => False) := by
  refine P_of (own := RX11) (cc := cX11_canFold) (maxL := 3) (ret := some .boolean) (by decide) rfl rfl (Nat.le_of_ble_eq_true rfl) (fun p e s m below meth c ls hx hb hr hC hlocks hPr hG hl => ?_)
  have hC0 := hC
  obtain ⟨-, -, hml, hown, hts⟩ := hC0
  have hK := hG.1
  have hl : lv_has ls 3 [(0, zi fl), (1, zi fw), (2, zi fh)] := hl
  refine lv_iload_n hx hb dX11_canFold_0 rfl (lv_at hl 2 rfl) ?_
  refine z_iconst hx hb dX11_canFold_1 ?_
  refine z_bipush hx hb dX11_canFold_2 (by decide) ?_
  refine z_pS (As := [zi fh, zi 1, zi 9]) (rest := []) hC (c_X11_isWithin l D y fh 1 9 (by first | assumption | omega)) (va_cwS 3 hts gX11_canFold_X11_isWithin rfl rfl rfl (by decide +kernel) ⟨Nat.le_of_ble_eq_true rfl, Nat.le_of_ble_eq_true rfl⟩) hG va_P_nil rfl hl.1 rfl (Nat.le_of_ble_eq_true rfl) dX11_canFold_4 ⟨Nat.le_of_ble_eq_true rfl, Nat.le_of_ble_eq_true rfl⟩ ?_
  refine z_ifB_eq (tgt := 32) hx hb dX11_canFold_7 (by decide) (fun c_7 => ?_) (fun c_7 => ?_)
  ·
    refine z_iconst hx hb dX11_canFold_32 ?_
    exact z_zret0 hx hb hr hlocks (by omega) (by first | exact (bI_t (by omega)).symm | exact (bI_f (by omega)).symm) dX11_canFold_33
  ·
    refine lv_iload_n hx hb dX11_canFold_10 rfl (lv_at hl 0 rfl) ?_
    refine z_iconst hx hb dX11_canFold_11 ?_
    refine lv_iload_n hx hb dX11_canFold_12 rfl (lv_at hl 2 rfl) ?_
    refine z_imul hx hb dX11_canFold_13 ?_
    refine z_isub hx hb dX11_canFold_14 ?_
    refine z_iconst hx hb dX11_canFold_15 ?_
    refine z_icmp_lt (tgt := 32) hx hb (by omega) (by omega) dX11_canFold_16 (by decide) (fun c_16 => ?_) (fun c_16 => ?_)
    ·
      refine z_iconst hx hb dX11_canFold_32 ?_
      exact z_zret0 hx hb hr hlocks (by omega) (by first | exact (bI_t (by omega)).symm | exact (bI_f (by omega)).symm) dX11_canFold_33
    ·
      refine lv_iload_n hx hb dX11_canFold_19 rfl (lv_at hl 1 rfl) ?_
      refine z_iconst hx hb dX11_canFold_20 ?_
      refine lv_iload_n hx hb dX11_canFold_21 rfl (lv_at hl 2 rfl) ?_
      refine z_imul hx hb dX11_canFold_22 ?_
      refine z_isub hx hb dX11_canFold_23 ?_
      refine z_iconst hx hb dX11_canFold_24 ?_
      refine z_icmp_lt (tgt := 32) hx hb (by omega) (by omega) dX11_canFold_25 (by decide) (fun c_25 => ?_) (fun c_25 => ?_)
      ·
        refine z_iconst hx hb dX11_canFold_32 ?_
        exact z_zret0 hx hb hr hlocks (by omega) (by first | exact (bI_t (by omega)).symm | exact (bI_f (by omega)).symm) dX11_canFold_33
      ·
        refine z_iconst hx hb dX11_canFold_28 ?_
        refine lv_goto (tgt := 33) hx hb dX11_canFold_29 (by decide) ?_
        exact z_zret0 hx hb hr hlocks (by omega) (by first | exact (bI_t (by omega)).symm | exact (bI_f (by omega)).symm) dX11_canFold_33
set_option maxHeartbeats 8000000 in
set_option maxRecDepth 100000 in
theorem c_X1_a (l : Launch) (D : va_G) (y : Nat → ClassId) (h0 : Nat) (a1 : Nat) (a2 : Nat) (a3 : Nat) (bl : Int) (bw : Int) (bt : Int) (bh : Int) (bd : Int) (bx : Int) (bn : Int) (CI : Int → Int) (CJ : Int → Int) (CW : Int → Int) (hB : bOK bl bw bt bh bd bx bn CI CJ CW) : Met l yX1_a wsX1_a ({ frames := 0, cells := 0, slots := 0, locals := 0 } : Room) (pPc D y [(h0, .inr (1, [zi bl, zi bw, zi bt, zi bh, zi bd, zi bx, zi bn, .ref a1, .ref a2, .ref a3])), (a1, .inl (y 0, 8, .inl (cI CI))), (a2, .inl (y 0, 8, .inl (cI CJ))), (a3, .inl (y 0, 8, .inl (cI CW)))] [.ref h0]) (qV (zi (bl - 2 * bh))) 0 0 (fun _ => False) := by
  refine P_of (own := RX1) (cc := cX1_a) (maxL := 1) (ret := some .int) (by decide) rfl rfl (Nat.le_of_ble_eq_true rfl) (fun p e s m below meth c ls hx hb hr hC hlocks hPr hG hl => ?_)
  have hC0 := hC
  obtain ⟨-, -, hml, hown, hts⟩ := hC0
  have hK := hG.1
  have hinX1 : ∀ w ∈ wsX10, w ∈ wsX1_a := fun _ h => List.mem_cons_of_mem _ (List.mem_append_right _ h)
  have k1 := hts (.fieldLink RX1 9 "BoatsOfPaper$Boat" "l" "I") (List.mem_of_getElem? (i := 1) rfl)
  have k2 := hts (.fieldLink RX1 21 "BoatsOfPaper$Boat" "h" "I") (List.mem_of_getElem? (i := 2) rfl)
  have hl : lv_has ls 1 [(0, .ref h0)] := hl
  obtain ⟨q1, q2, q3, q4, q5, q6, q7, q8, q9, qc⟩ := id hB
  refine lv_aload_n hx hb dX1_a_0 rfl (lv_at hl 0 rfl) ?_
  refine va_get hx hb hts hinX1 hown hK hPr 0 rfl rfl 0 (by decide) k1 (fun _ h => h) rfl dX1_a_1 ?_
  refine z_iconst hx hb dX1_a_4 ?_
  refine lv_aload_n hx hb dX1_a_5 rfl (lv_at hl 0 rfl) ?_
  refine va_get hx hb hts hinX1 hown hK hPr 0 rfl rfl 3 (by decide) k2 (fun _ h => h) rfl dX1_a_6 ?_
  refine z_imul hx hb dX1_a_9 ?_
  refine z_isub hx hb dX1_a_10 ?_
  exact z_iret0 hx hb hr hlocks (rfl) dX1_a_11
set_option maxHeartbeats 8000000 in
set_option maxRecDepth 100000 in
theorem c_X1_b (l : Launch) (D : va_G) (y : Nat → ClassId) (h0 : Nat) (a1 : Nat) (a2 : Nat) (a3 : Nat) (bl : Int) (bw : Int) (bt : Int) (bh : Int) (bd : Int) (bx : Int) (bn : Int) (CI : Int → Int) (CJ : Int → Int) (CW : Int → Int) (hB : bOK bl bw bt bh bd bx bn CI CJ CW) : Met l yX1_b wsX1_b ({ frames := 0, cells := 0, slots := 0, locals := 0 } : Room) (pPc D y [(h0, .inr (1, [zi bl, zi bw, zi bt, zi bh, zi bd, zi bx, zi bn, .ref a1, .ref a2, .ref a3])), (a1, .inl (y 0, 8, .inl (cI CI))), (a2, .inl (y 0, 8, .inl (cI CJ))), (a3, .inl (y 0, 8, .inl (cI CW)))] [.ref h0]) (qV (zi (bw - 2 * bh))) 0 0 (fun _ => False) := by
  refine P_of (own := RX1) (cc := cX1_b) (maxL := 1) (ret := some .int) (by decide) rfl rfl (Nat.le_of_ble_eq_true rfl) (fun p e s m below meth c ls hx hb hr hC hlocks hPr hG hl => ?_)
  have hC0 := hC
  obtain ⟨-, -, hml, hown, hts⟩ := hC0
  have hK := hG.1
  have hinX1 : ∀ w ∈ wsX10, w ∈ wsX1_b := fun _ h => List.mem_cons_of_mem _ (List.mem_append_right _ h)
  have k1 := hts (.fieldLink RX1 15 "BoatsOfPaper$Boat" "w" "I") (List.mem_of_getElem? (i := 1) rfl)
  have k2 := hts (.fieldLink RX1 21 "BoatsOfPaper$Boat" "h" "I") (List.mem_of_getElem? (i := 2) rfl)
  have hl : lv_has ls 1 [(0, .ref h0)] := hl
  obtain ⟨q1, q2, q3, q4, q5, q6, q7, q8, q9, qc⟩ := id hB
  refine lv_aload_n hx hb dX1_b_0 rfl (lv_at hl 0 rfl) ?_
  refine va_get hx hb hts hinX1 hown hK hPr 0 rfl rfl 1 (by decide) k1 (fun _ h => h) rfl dX1_b_1 ?_
  refine z_iconst hx hb dX1_b_4 ?_
  refine lv_aload_n hx hb dX1_b_5 rfl (lv_at hl 0 rfl) ?_
  refine va_get hx hb hts hinX1 hown hK hPr 0 rfl rfl 3 (by decide) k2 (fun _ h => h) rfl dX1_b_6 ?_
  refine z_imul hx hb dX1_b_9 ?_
  refine z_isub hx hb dX1_b_10 ?_
  exact z_iret0 hx hb hr hlocks (rfl) dX1_b_11
set_option maxHeartbeats 8000000 in
set_option maxRecDepth 100000 in
theorem c_X1_cells (l : Launch) (D : va_G) (y : Nat → ClassId) (h0 : Nat) (a1 : Nat) (a2 : Nat) (a3 : Nat) (bl : Int) (bw : Int) (bt : Int) (bh : Int) (bd : Int) (bx : Int) (bn : Int) (CI : Int → Int) (CJ : Int → Int) (CW : Int → Int) (hB : bOK bl bw bt bh bd bx bn CI CJ CW) : Met l yX1_cells wsX1_cells ({ frames := 1, cells := 0, slots := 0, locals := 20 } : Room) (pPc D y [(h0, .inr (1, [zi bl, zi bw, zi bt, zi bh, zi bd, zi bx, zi bn, .ref a1, .ref a2, .ref a3])), (a1, .inl (y 0, 8, .inl (cI CI))), (a2, .inl (y 0, 8, .inl (cI CJ))), (a3, .inl (y 0, 8, .inl (cI CW)))] [.ref h0]) (qV (zi ((bl - 2 * bh) * (bw - 2 * bh)))) 0 0 (fun _ => False) := by
  refine P_of (own := RX1) (cc := cX1_cells) (maxL := 1) (ret := some .int) (by decide) rfl rfl (Nat.le_of_ble_eq_true rfl) (fun p e s m below meth c ls hx hb hr hC hlocks hPr hG hl => ?_)
  have hC0 := hC
  obtain ⟨-, -, hml, hown, hts⟩ := hC0
  have hK := hG.1
  have hl : lv_has ls 1 [(0, .ref h0)] := hl
  obtain ⟨q1, q2, q3, q4, q5, q6, q7, q8, q9, qc⟩ := id hB
  refine lv_aload_n hx hb dX1_cells_0 rfl (lv_at hl 0 rfl) ?_
  refine z_pV (As := []) (rest := []) hC (c_X1_a l D y h0 a1 a2 a3 bl bw bt bh bd bx bn CI CJ CW (by first | assumption | omega)) (cwV 0 hts gX1_cells_X1_a rfl rfl rfl (by decide +kernel) ⟨Nat.le_of_ble_eq_true rfl, Nat.le_of_ble_eq_true rfl⟩) hG (hPr.sub (ws' := [(h0, .inr (1, [zi bl, zi bw, zi bt, zi bh, zi bd, zi bx, zi bn, .ref a1, .ref a2, .ref a3])), (a1, .inl (y 0, 8, .inl (cI CI))), (a2, .inl (y 0, 8, .inl (cI CJ))), (a3, .inl (y 0, 8, .inl (cI CW)))]) [0, 1, 2, 3] rfl) 0 rfl rfl rfl hl.1 rfl (Nat.le_of_ble_eq_true rfl) dX1_cells_1 ⟨Nat.le_of_ble_eq_true rfl, Nat.le_of_ble_eq_true rfl⟩ ?_
  refine lv_aload_n hx hb dX1_cells_4 rfl (lv_at hl 0 rfl) ?_
  refine z_pV (As := []) (rest := [zi (bl - 2 * bh)]) hC (c_X1_b l D y h0 a1 a2 a3 bl bw bt bh bd bx bn CI CJ CW (by first | assumption | omega)) (cwV 0 hts gX1_cells_X1_b rfl rfl rfl (by decide +kernel) ⟨Nat.le_of_ble_eq_true rfl, Nat.le_of_ble_eq_true rfl⟩) hG (hPr.sub (ws' := [(h0, .inr (1, [zi bl, zi bw, zi bt, zi bh, zi bd, zi bx, zi bn, .ref a1, .ref a2, .ref a3])), (a1, .inl (y 0, 8, .inl (cI CI))), (a2, .inl (y 0, 8, .inl (cI CJ))), (a3, .inl (y 0, 8, .inl (cI CW)))]) [0, 1, 2, 3] rfl) 0 rfl rfl rfl hl.1 rfl (Nat.le_of_ble_eq_true rfl) dX1_cells_5 ⟨Nat.le_of_ble_eq_true rfl, Nat.le_of_ble_eq_true rfl⟩ ?_
  refine z_imul hx hb dX1_cells_8 ?_
  exact z_iret0 hx hb hr hlocks (rfl) dX1_cells_9
set_option maxHeartbeats 8000000 in
set_option maxRecDepth 100000 in
theorem c_X1_weightOf (l : Launch) (D : va_G) (y : Nat → ClassId) (h0 : Nat) (a1 : Nat) (a2 : Nat) (a3 : Nat) (bl : Int) (bw : Int) (bt : Int) (bh : Int) (bd : Int) (bx : Int) (bn : Int) (CI : Int → Int) (CJ : Int → Int) (CW : Int → Int) (cn : Int) (hB : bOK bl bw bt bh bd bx bn CI CJ CW) (hcn : rI cn) : Met l yX1_weightOf wsX1_weightOf ({ frames := 0, cells := 0, slots := 0, locals := 0 } : Room) (pPc D y [(h0, .inr (1, [zi bl, zi bw, zi bt, zi bh, zi bd, zi bx, zi bn, .ref a1, .ref a2, .ref a3])), (a1, .inl (y 0, 8, .inl (cI CI))), (a2, .inl (y 0, 8, .inl (cI CJ))), (a3, .inl (y 0, 8, .inl (cI CW)))] [.ref h0, zi cn]) (qV (zi (wOf bn CW cn))) 0 0 (fun _ => False) := by
  refine P_of (own := RX1) (cc := cX1_weightOf) (maxL := 2) (ret := some .int) (by decide) rfl rfl (Nat.le_of_ble_eq_true rfl) (fun p e s m below meth c ls hx hb hr hC hlocks hPr hG hl => ?_)
  have hC0 := hC
  obtain ⟨-, -, hml, hown, hts⟩ := hC0
  have hK := hG.1
  have hinX1 : ∀ w ∈ wsX10, w ∈ wsX1_weightOf := fun _ h => List.mem_cons_of_mem _ (List.mem_append_right _ h)
  have k1 := hts (.fieldLink RX1 30 "BoatsOfPaper$Boat" "coins" "I") (List.mem_of_getElem? (i := 1) rfl)
  have k2 := hts (.fieldLink RX1 40 "BoatsOfPaper$Boat" "coinWeight" "[I") (List.mem_of_getElem? (i := 2) rfl)
  have hl : lv_has ls 2 [(0, .ref h0), (1, zi cn)] := hl
  obtain ⟨q1, q2, q3, q4, q5, q6, q7, q8, q9, qc⟩ := id hB
  refine lv_iload_n hx hb dX1_weightOf_0 rfl (lv_at hl 1 rfl) ?_
  refine z_if_lt (tgt := 12) hx hb (by omega) dX1_weightOf_1 (by decide) (fun c_1 => ?_) (fun c_1 => ?_)
  ·
    refine z_iconst hx hb dX1_weightOf_12 ?_
    refine lv_goto (tgt := 22) hx hb dX1_weightOf_13 (by decide) ?_
    exact z_iret0 hx hb hr hlocks (by first | exact (if_pos (by omega)).symm | exact (if_neg (by omega)).symm) dX1_weightOf_22
  ·
    refine lv_iload_n hx hb dX1_weightOf_4 rfl (lv_at hl 1 rfl) ?_
    refine lv_aload_n hx hb dX1_weightOf_5 rfl (lv_at hl 0 rfl) ?_
    refine va_get hx hb hts hinX1 hown hK hPr 0 rfl rfl 6 (by decide) k1 (fun _ h => h) rfl dX1_weightOf_6 ?_
    refine z_icmp_lt (tgt := 16) hx hb (by omega) (by omega) dX1_weightOf_9 (by decide) (fun c_9 => ?_) (fun c_9 => ?_)
    ·
      refine lv_aload_n hx hb dX1_weightOf_16 rfl (lv_at hl 0 rfl) ?_
      refine va_get hx hb hts hinX1 hown hK hPr 0 rfl rfl 9 (by decide) k2 (fun _ h => h) rfl dX1_weightOf_17 ?_
      refine lv_iload_n hx hb dX1_weightOf_20 rfl (lv_at hl 1 rfl) ?_
      refine z_iald hx hb hK hPr 3 0 rfl rfl (by omega) (by decide) dX1_weightOf_21 ?_
      exact z_iret0 hx hb hr hlocks (by first | exact (if_pos (by omega)).symm | exact (if_neg (by omega)).symm) dX1_weightOf_22
    ·
      refine z_iconst hx hb dX1_weightOf_12 ?_
      refine lv_goto (tgt := 22) hx hb dX1_weightOf_13 (by decide) ?_
      exact z_iret0 hx hb hr hlocks (by first | exact (if_pos (by omega)).symm | exact (if_neg (by omega)).symm) dX1_weightOf_22
set_option maxHeartbeats 8000000 in
set_option maxRecDepth 100000 in
theorem c_X1_pullM (l : Launch) (D : va_G) (y : Nat → ClassId) (h0 : Nat) (a1 : Nat) (a2 : Nat) (a3 : Nat) (bl : Int) (bw : Int) (bt : Int) (bh : Int) (bd : Int) (bx : Int) (bn : Int) (CI : Int → Int) (CJ : Int → Int) (CW : Int → Int) (cn : Int) (hB : bOK bl bw bt bh bd bx bn CI CJ CW) (hcn : rI cn) : Met l yX1_pullM wsX1_pullM ({ frames := 1, cells := 0, slots := 0, locals := 20 } : Room) (pPc D y [(h0, .inr (1, [zi bl, zi bw, zi bt, zi bh, zi bd, zi bx, zi bn, .ref a1, .ref a2, .ref a3])), (a1, .inl (y 0, 8, .inl (cI CI))), (a2, .inl (y 0, 8, .inl (cI CJ))), (a3, .inl (y 0, 8, .inl (cI CW)))] [.ref h0, zi cn]) (qV (zi (pullV bn (bl - 2 * bh) CI CW cn))) 0 0 (fun _ => False) := by
  refine P_of (own := RX1) (cc := cX1_pullM) (maxL := 2) (ret := some .int) (by decide) rfl rfl (Nat.le_of_ble_eq_true rfl) (fun p e s m below meth c ls hx hb hr hC hlocks hPr hG hl => ?_)
  have hC0 := hC
  obtain ⟨-, -, hml, hown, hts⟩ := hC0
  have hK := hG.1
  have hinX1 : ∀ w ∈ wsX10, w ∈ wsX1_pullM := fun _ h => List.mem_cons_of_mem _ (List.mem_append_right _ h)
  have k1 := hts (.fieldLink RX1 30 "BoatsOfPaper$Boat" "coins" "I") (List.mem_of_getElem? (i := 1) rfl)
  have k2 := hts (.fieldLink RX1 40 "BoatsOfPaper$Boat" "coinWeight" "[I") (List.mem_of_getElem? (i := 2) rfl)
  have k3 := hts (.fieldLink RX1 33 "BoatsOfPaper$Boat" "coinI" "[I") (List.mem_of_getElem? (i := 3) rfl)
  have hl : lv_has ls 2 [(0, .ref h0), (1, zi cn)] := hl
  obtain ⟨q1, q2, q3, q4, q5, q6, q7, q8, q9, qc⟩ := id hB
  refine lv_iload_n hx hb dX1_pullM_0 rfl (lv_at hl 1 rfl) ?_
  refine z_if_lt (tgt := 12) hx hb (by omega) dX1_pullM_1 (by decide) (fun c_1 => ?_) (fun c_1 => ?_)
  ·
    refine z_iconst hx hb dX1_pullM_12 ?_
    refine lv_goto (tgt := 38) hx hb dX1_pullM_13 (by decide) ?_
    exact z_iret0 hx hb hr hlocks (by first | exact (if_pos (by omega)).symm | exact (if_neg (by omega)).symm) dX1_pullM_38
  ·
    refine lv_iload_n hx hb dX1_pullM_4 rfl (lv_at hl 1 rfl) ?_
    refine lv_aload_n hx hb dX1_pullM_5 rfl (lv_at hl 0 rfl) ?_
    refine va_get hx hb hts hinX1 hown hK hPr 0 rfl rfl 6 (by decide) k1 (fun _ h => h) rfl dX1_pullM_6 ?_
    refine z_icmp_lt (tgt := 16) hx hb (by omega) (by omega) dX1_pullM_9 (by decide) (fun c_9 => ?_) (fun c_9 => ?_)
    ·
      refine lv_aload_n hx hb dX1_pullM_16 rfl (lv_at hl 0 rfl) ?_
      refine va_get hx hb hts hinX1 hown hK hPr 0 rfl rfl 9 (by decide) k2 (fun _ h => h) rfl dX1_pullM_17 ?_
      refine lv_iload_n hx hb dX1_pullM_20 rfl (lv_at hl 1 rfl) ?_
      refine z_iald hx hb hK hPr 3 0 rfl rfl (by omega) (by decide) dX1_pullM_21 ?_
      refine z_iconst hx hb dX1_pullM_22 ?_
      refine lv_aload_n hx hb dX1_pullM_23 rfl (lv_at hl 0 rfl) ?_
      refine va_get hx hb hts hinX1 hown hK hPr 0 rfl rfl 7 (by decide) k3 (fun _ h => h) rfl dX1_pullM_24 ?_
      refine lv_iload_n hx hb dX1_pullM_27 rfl (lv_at hl 1 rfl) ?_
      refine z_iald hx hb hK hPr 1 0 rfl rfl (by omega) (by decide) dX1_pullM_28 ?_
      refine z_imul hx hb dX1_pullM_29 ?_
      refine z_iconst hx hb dX1_pullM_30 ?_
      refine z_iadd hx hb dX1_pullM_31 ?_
      refine lv_aload_n hx hb dX1_pullM_32 rfl (lv_at hl 0 rfl) ?_
      refine z_pV (As := []) (rest := [zi ((2 * (CI cn)) + 1), zi (CW cn)]) hC (c_X1_a l D y h0 a1 a2 a3 bl bw bt bh bd bx bn CI CJ CW (by first | assumption | omega)) (cwV 0 hts gX1_pullM_X1_a rfl rfl rfl (by decide +kernel) ⟨Nat.le_of_ble_eq_true rfl, Nat.le_of_ble_eq_true rfl⟩) hG (hPr.sub (ws' := [(h0, .inr (1, [zi bl, zi bw, zi bt, zi bh, zi bd, zi bx, zi bn, .ref a1, .ref a2, .ref a3])), (a1, .inl (y 0, 8, .inl (cI CI))), (a2, .inl (y 0, 8, .inl (cI CJ))), (a3, .inl (y 0, 8, .inl (cI CW)))]) [0, 1, 2, 3] rfl) 0 rfl rfl rfl hl.1 rfl (Nat.le_of_ble_eq_true rfl) dX1_pullM_33 ⟨Nat.le_of_ble_eq_true rfl, Nat.le_of_ble_eq_true rfl⟩ ?_
      refine z_isub hx hb dX1_pullM_36 ?_
      refine z_imul hx hb dX1_pullM_37 ?_
      exact z_iret0 hx hb hr hlocks (by first | exact (if_pos (by omega)).symm | exact (if_neg (by omega)).symm) dX1_pullM_38
    ·
      refine z_iconst hx hb dX1_pullM_12 ?_
      refine lv_goto (tgt := 38) hx hb dX1_pullM_13 (by decide) ?_
      exact z_iret0 hx hb hr hlocks (by first | exact (if_pos (by omega)).symm | exact (if_neg (by omega)).symm) dX1_pullM_38
set_option maxHeartbeats 8000000 in
set_option maxRecDepth 100000 in
theorem c_X1_pullN (l : Launch) (D : va_G) (y : Nat → ClassId) (h0 : Nat) (a1 : Nat) (a2 : Nat) (a3 : Nat) (bl : Int) (bw : Int) (bt : Int) (bh : Int) (bd : Int) (bx : Int) (bn : Int) (CI : Int → Int) (CJ : Int → Int) (CW : Int → Int) (cn : Int) (hB : bOK bl bw bt bh bd bx bn CI CJ CW) (hcn : rI cn) : Met l yX1_pullN wsX1_pullN ({ frames := 1, cells := 0, slots := 0, locals := 20 } : Room) (pPc D y [(h0, .inr (1, [zi bl, zi bw, zi bt, zi bh, zi bd, zi bx, zi bn, .ref a1, .ref a2, .ref a3])), (a1, .inl (y 0, 8, .inl (cI CI))), (a2, .inl (y 0, 8, .inl (cI CJ))), (a3, .inl (y 0, 8, .inl (cI CW)))] [.ref h0, zi cn]) (qV (zi (pullV bn (bw - 2 * bh) CJ CW cn))) 0 0 (fun _ => False) := by
  refine P_of (own := RX1) (cc := cX1_pullN) (maxL := 2) (ret := some .int) (by decide) rfl rfl (Nat.le_of_ble_eq_true rfl) (fun p e s m below meth c ls hx hb hr hC hlocks hPr hG hl => ?_)
  have hC0 := hC
  obtain ⟨-, -, hml, hown, hts⟩ := hC0
  have hK := hG.1
  have hinX1 : ∀ w ∈ wsX10, w ∈ wsX1_pullN := fun _ h => List.mem_cons_of_mem _ (List.mem_append_right _ h)
  have k1 := hts (.fieldLink RX1 30 "BoatsOfPaper$Boat" "coins" "I") (List.mem_of_getElem? (i := 1) rfl)
  have k2 := hts (.fieldLink RX1 40 "BoatsOfPaper$Boat" "coinWeight" "[I") (List.mem_of_getElem? (i := 2) rfl)
  have k3 := hts (.fieldLink RX1 37 "BoatsOfPaper$Boat" "coinJ" "[I") (List.mem_of_getElem? (i := 3) rfl)
  have hl : lv_has ls 2 [(0, .ref h0), (1, zi cn)] := hl
  obtain ⟨q1, q2, q3, q4, q5, q6, q7, q8, q9, qc⟩ := id hB
  refine lv_iload_n hx hb dX1_pullN_0 rfl (lv_at hl 1 rfl) ?_
  refine z_if_lt (tgt := 12) hx hb (by omega) dX1_pullN_1 (by decide) (fun c_1 => ?_) (fun c_1 => ?_)
  ·
    refine z_iconst hx hb dX1_pullN_12 ?_
    refine lv_goto (tgt := 38) hx hb dX1_pullN_13 (by decide) ?_
    exact z_iret0 hx hb hr hlocks (by first | exact (if_pos (by omega)).symm | exact (if_neg (by omega)).symm) dX1_pullN_38
  ·
    refine lv_iload_n hx hb dX1_pullN_4 rfl (lv_at hl 1 rfl) ?_
    refine lv_aload_n hx hb dX1_pullN_5 rfl (lv_at hl 0 rfl) ?_
    refine va_get hx hb hts hinX1 hown hK hPr 0 rfl rfl 6 (by decide) k1 (fun _ h => h) rfl dX1_pullN_6 ?_
    refine z_icmp_lt (tgt := 16) hx hb (by omega) (by omega) dX1_pullN_9 (by decide) (fun c_9 => ?_) (fun c_9 => ?_)
    ·
      refine lv_aload_n hx hb dX1_pullN_16 rfl (lv_at hl 0 rfl) ?_
      refine va_get hx hb hts hinX1 hown hK hPr 0 rfl rfl 9 (by decide) k2 (fun _ h => h) rfl dX1_pullN_17 ?_
      refine lv_iload_n hx hb dX1_pullN_20 rfl (lv_at hl 1 rfl) ?_
      refine z_iald hx hb hK hPr 3 0 rfl rfl (by omega) (by decide) dX1_pullN_21 ?_
      refine z_iconst hx hb dX1_pullN_22 ?_
      refine lv_aload_n hx hb dX1_pullN_23 rfl (lv_at hl 0 rfl) ?_
      refine va_get hx hb hts hinX1 hown hK hPr 0 rfl rfl 8 (by decide) k3 (fun _ h => h) rfl dX1_pullN_24 ?_
      refine lv_iload_n hx hb dX1_pullN_27 rfl (lv_at hl 1 rfl) ?_
      refine z_iald hx hb hK hPr 2 0 rfl rfl (by omega) (by decide) dX1_pullN_28 ?_
      refine z_imul hx hb dX1_pullN_29 ?_
      refine z_iconst hx hb dX1_pullN_30 ?_
      refine z_iadd hx hb dX1_pullN_31 ?_
      refine lv_aload_n hx hb dX1_pullN_32 rfl (lv_at hl 0 rfl) ?_
      refine z_pV (As := []) (rest := [zi ((2 * (CJ cn)) + 1), zi (CW cn)]) hC (c_X1_b l D y h0 a1 a2 a3 bl bw bt bh bd bx bn CI CJ CW (by first | assumption | omega)) (cwV 0 hts gX1_pullN_X1_b rfl rfl rfl (by decide +kernel) ⟨Nat.le_of_ble_eq_true rfl, Nat.le_of_ble_eq_true rfl⟩) hG (hPr.sub (ws' := [(h0, .inr (1, [zi bl, zi bw, zi bt, zi bh, zi bd, zi bx, zi bn, .ref a1, .ref a2, .ref a3])), (a1, .inl (y 0, 8, .inl (cI CI))), (a2, .inl (y 0, 8, .inl (cI CJ))), (a3, .inl (y 0, 8, .inl (cI CW)))]) [0, 1, 2, 3] rfl) 0 rfl rfl rfl hl.1 rfl (Nat.le_of_ble_eq_true rfl) dX1_pullN_33 ⟨Nat.le_of_ble_eq_true rfl, Nat.le_of_ble_eq_true rfl⟩ ?_
      refine z_isub hx hb dX1_pullN_36 ?_
      refine z_imul hx hb dX1_pullN_37 ?_
      exact z_iret0 hx hb hr hlocks (by first | exact (if_pos (by omega)).symm | exact (if_neg (by omega)).symm) dX1_pullN_38
    ·
      refine z_iconst hx hb dX1_pullN_12 ?_
      refine lv_goto (tgt := 38) hx hb dX1_pullN_13 (by decide) ?_
      exact z_iret0 hx hb hr hlocks (by first | exact (if_pos (by omega)).symm | exact (if_neg (by omega)).symm) dX1_pullN_38
set_option maxHeartbeats 8000000 in
set_option maxRecDepth 100000 in
theorem c_X1_momentM (l : Launch) (D : va_G) (y : Nat → ClassId) (h0 : Nat) (a1 : Nat) (a2 : Nat) (a3 : Nat) (bl : Int) (bw : Int) (bt : Int) (bh : Int) (bd : Int) (bx : Int) (bn : Int) (CI : Int → Int) (CJ : Int → Int) (CW : Int → Int) (hB : bOK bl bw bt bh bd bx bn CI CJ CW) : Met l yX1_momentM wsX1_momentM ({ frames := 2, cells := 0, slots := 0, locals := 41 } : Room) (pPc D y [(h0, .inr (1, [zi bl, zi bw, zi bt, zi bh, zi bd, zi bx, zi bn, .ref a1, .ref a2, .ref a3])), (a1, .inl (y 0, 8, .inl (cI CI))), (a2, .inl (y 0, 8, .inl (cI CJ))), (a3, .inl (y 0, 8, .inl (cI CW)))] [.ref h0]) (qV (zi (momV bn (bl - 2 * bh) CI CW))) 0 0 (fun _ => False) := by
  refine P_of (own := RX1) (cc := cX1_momentM) (maxL := 3) (ret := some .int) (by decide) rfl rfl (Nat.le_of_ble_eq_true rfl) (fun p e s m below meth c ls hx hb hr hC hlocks hPr hG hl => ?_)
  have hC0 := hC
  obtain ⟨-, -, hml, hown, hts⟩ := hC0
  have hK := hG.1
  have hinX1 : ∀ w ∈ wsX10, w ∈ wsX1_momentM := fun _ h => List.mem_cons_of_mem _ (List.mem_append_right _ h)
  have k1 := hts (.fieldLink RX1 30 "BoatsOfPaper$Boat" "coins" "I") (List.mem_of_getElem? (i := 1) rfl)
  have hl : lv_has ls 3 [(0, .ref h0)] := hl
  obtain ⟨q1, q2, q3, q4, q5, q6, q7, q8, q9, qc⟩ := id hB
  refine z_iconst hx hb dX1_momentM_0 ?_
  refine lv_istore_n (lv' := [(1, zi 0), (0, .ref h0)]) hx hb dX1_momentM_1 rfl hl (by decide) rfl (fun ls hl => ?_)
  refine z_iconst hx hb dX1_momentM_2 ?_
  refine lv_istore_n (lv' := [(2, zi 0), (1, zi 0), (0, .ref h0)]) hx hb dX1_momentM_3 rfl hl (by decide) rfl (fun ls hl => ?_)
  refine z_loop (σ := Int × Int) (fun x9 H lc ls => match x9 with | (v, k) => (0 ≤ k ∧ k ≤ bn ∧ v = sgI (pullV bn (bl - 2 * bh) CI CW) k) ∧ lv_has ls 3 [(2, zi k), (1, zi v), (0, .ref h0)] ∧ H = s.heap ∧ lc = []) (fun x9  => match x9 with | (v, k) => ((bn - k).toNat)) ?_ (0, 0) ⟨⟨by omega, by omega, rfl⟩, lv_sub hl [0, 1, 2] rfl, rfl, rfl⟩
  rintro ⟨v, k⟩ H lc ls ⟨hi4, hl, rfl, rfl⟩ ih4
  refine lv_iload_n hx hb dX1_momentM_4 rfl (lv_at hl 0 rfl) ?_
  refine lv_aload_n hx hb dX1_momentM_5 rfl (lv_at hl 2 rfl) ?_
  refine va_get hx hb hts hinX1 hown hK hPr 0 rfl rfl 6 (by decide) k1 (fun _ h => h) rfl dX1_momentM_6 ?_
  refine z_icmp_ge (tgt := 26) hx hb (by omega) (by omega) dX1_momentM_9 (by decide) (fun c_9 => ?_) (fun c_9 => ?_)
  ·
    refine lv_iload_n hx hb dX1_momentM_26 rfl (lv_at hl 1 rfl) ?_
    exact z_iret0 hx hb hr hlocks (hi4.2.2.trans (by rw [show k = bn by omega]; rfl)) dX1_momentM_27
  ·
    refine lv_iload_n hx hb dX1_momentM_12 rfl (lv_at hl 1 rfl) ?_
    refine lv_aload_n hx hb dX1_momentM_13 rfl (lv_at hl 2 rfl) ?_
    refine lv_iload_n hx hb dX1_momentM_14 rfl (lv_at hl 0 rfl) ?_
    refine z_pV (As := [zi k]) (rest := [zi v]) hC (c_X1_pullM l D y h0 a1 a2 a3 bl bw bt bh bd bx bn CI CJ CW k (by first | assumption | omega) (by first | assumption | omega)) (cwV 1 hts gX1_momentM_X1_pullM rfl rfl rfl (by decide +kernel) ⟨Nat.le_of_ble_eq_true rfl, Nat.le_of_ble_eq_true rfl⟩) hG (hPr.sub (ws' := [(h0, .inr (1, [zi bl, zi bw, zi bt, zi bh, zi bd, zi bx, zi bn, .ref a1, .ref a2, .ref a3])), (a1, .inl (y 0, 8, .inl (cI CI))), (a2, .inl (y 0, 8, .inl (cI CJ))), (a3, .inl (y 0, 8, .inl (cI CW)))]) [0, 1, 2, 3] rfl) 0 rfl rfl rfl hl.1 rfl (Nat.le_of_ble_eq_true rfl) dX1_momentM_15 ⟨Nat.le_of_ble_eq_true rfl, Nat.le_of_ble_eq_true rfl⟩ ?_
    refine z_iadd hx hb dX1_momentM_18 ?_
    refine lv_istore_n (lv' := [(1, zi (v + (pullV bn (bl - 2 * bh) CI CW k))), (2, zi k), (0, .ref h0)]) hx hb dX1_momentM_19 rfl hl (by decide) rfl (fun ls hl => ?_)
    refine z_iinc (k := 1) (lv' := [(2, zi (k + 1)), (1, zi (v + (pullV bn (bl - 2 * bh) CI CW k))), (0, .ref h0)]) hx hb dX1_momentM_20 hl rfl (by decide) rfl (fun ls hl => ?_)
    refine lv_goto (tgt := 4) hx hb dX1_momentM_23 (by decide) ?_
    exact ih4 (v + (pullV bn (bl - 2 * bh) CI CW k), k + 1) _ _ _ (by first | (dsimp only; omega) | omega) ⟨⟨by omega, by omega, by rw [sgI_s _ (by omega)]; omega⟩, lv_sub hl [0, 1, 2] rfl, rfl, rfl⟩
set_option maxHeartbeats 8000000 in
set_option maxRecDepth 100000 in
theorem c_X1_momentN (l : Launch) (D : va_G) (y : Nat → ClassId) (h0 : Nat) (a1 : Nat) (a2 : Nat) (a3 : Nat) (bl : Int) (bw : Int) (bt : Int) (bh : Int) (bd : Int) (bx : Int) (bn : Int) (CI : Int → Int) (CJ : Int → Int) (CW : Int → Int) (hB : bOK bl bw bt bh bd bx bn CI CJ CW) : Met l yX1_momentN wsX1_momentN ({ frames := 2, cells := 0, slots := 0, locals := 41 } : Room) (pPc D y [(h0, .inr (1, [zi bl, zi bw, zi bt, zi bh, zi bd, zi bx, zi bn, .ref a1, .ref a2, .ref a3])), (a1, .inl (y 0, 8, .inl (cI CI))), (a2, .inl (y 0, 8, .inl (cI CJ))), (a3, .inl (y 0, 8, .inl (cI CW)))] [.ref h0]) (qV (zi (momV bn (bw - 2 * bh) CJ CW))) 0 0 (fun _ => False) := by
  refine P_of (own := RX1) (cc := cX1_momentN) (maxL := 3) (ret := some .int) (by decide) rfl rfl (Nat.le_of_ble_eq_true rfl) (fun p e s m below meth c ls hx hb hr hC hlocks hPr hG hl => ?_)
  have hC0 := hC
  obtain ⟨-, -, hml, hown, hts⟩ := hC0
  have hK := hG.1
  have hinX1 : ∀ w ∈ wsX10, w ∈ wsX1_momentN := fun _ h => List.mem_cons_of_mem _ (List.mem_append_right _ h)
  have k1 := hts (.fieldLink RX1 30 "BoatsOfPaper$Boat" "coins" "I") (List.mem_of_getElem? (i := 1) rfl)
  have hl : lv_has ls 3 [(0, .ref h0)] := hl
  obtain ⟨q1, q2, q3, q4, q5, q6, q7, q8, q9, qc⟩ := id hB
  refine z_iconst hx hb dX1_momentN_0 ?_
  refine lv_istore_n (lv' := [(1, zi 0), (0, .ref h0)]) hx hb dX1_momentN_1 rfl hl (by decide) rfl (fun ls hl => ?_)
  refine z_iconst hx hb dX1_momentN_2 ?_
  refine lv_istore_n (lv' := [(2, zi 0), (1, zi 0), (0, .ref h0)]) hx hb dX1_momentN_3 rfl hl (by decide) rfl (fun ls hl => ?_)
  refine z_loop (σ := Int × Int) (fun x9 H lc ls => match x9 with | (v, k) => (0 ≤ k ∧ k ≤ bn ∧ v = sgI (pullV bn (bw - 2 * bh) CJ CW) k) ∧ lv_has ls 3 [(2, zi k), (1, zi v), (0, .ref h0)] ∧ H = s.heap ∧ lc = []) (fun x9  => match x9 with | (v, k) => ((bn - k).toNat)) ?_ (0, 0) ⟨⟨by omega, by omega, rfl⟩, lv_sub hl [0, 1, 2] rfl, rfl, rfl⟩
  rintro ⟨v, k⟩ H lc ls ⟨hi4, hl, rfl, rfl⟩ ih4
  refine lv_iload_n hx hb dX1_momentN_4 rfl (lv_at hl 0 rfl) ?_
  refine lv_aload_n hx hb dX1_momentN_5 rfl (lv_at hl 2 rfl) ?_
  refine va_get hx hb hts hinX1 hown hK hPr 0 rfl rfl 6 (by decide) k1 (fun _ h => h) rfl dX1_momentN_6 ?_
  refine z_icmp_ge (tgt := 26) hx hb (by omega) (by omega) dX1_momentN_9 (by decide) (fun c_9 => ?_) (fun c_9 => ?_)
  ·
    refine lv_iload_n hx hb dX1_momentN_26 rfl (lv_at hl 1 rfl) ?_
    exact z_iret0 hx hb hr hlocks (hi4.2.2.trans (by rw [show k = bn by omega]; rfl)) dX1_momentN_27
  ·
    refine lv_iload_n hx hb dX1_momentN_12 rfl (lv_at hl 1 rfl) ?_
    refine lv_aload_n hx hb dX1_momentN_13 rfl (lv_at hl 2 rfl) ?_
    refine lv_iload_n hx hb dX1_momentN_14 rfl (lv_at hl 0 rfl) ?_
    refine z_pV (As := [zi k]) (rest := [zi v]) hC (c_X1_pullN l D y h0 a1 a2 a3 bl bw bt bh bd bx bn CI CJ CW k (by first | assumption | omega) (by first | assumption | omega)) (cwV 1 hts gX1_momentN_X1_pullN rfl rfl rfl (by decide +kernel) ⟨Nat.le_of_ble_eq_true rfl, Nat.le_of_ble_eq_true rfl⟩) hG (hPr.sub (ws' := [(h0, .inr (1, [zi bl, zi bw, zi bt, zi bh, zi bd, zi bx, zi bn, .ref a1, .ref a2, .ref a3])), (a1, .inl (y 0, 8, .inl (cI CI))), (a2, .inl (y 0, 8, .inl (cI CJ))), (a3, .inl (y 0, 8, .inl (cI CW)))]) [0, 1, 2, 3] rfl) 0 rfl rfl rfl hl.1 rfl (Nat.le_of_ble_eq_true rfl) dX1_momentN_15 ⟨Nat.le_of_ble_eq_true rfl, Nat.le_of_ble_eq_true rfl⟩ ?_
    refine z_iadd hx hb dX1_momentN_18 ?_
    refine lv_istore_n (lv' := [(1, zi (v + (pullV bn (bw - 2 * bh) CJ CW k))), (2, zi k), (0, .ref h0)]) hx hb dX1_momentN_19 rfl hl (by decide) rfl (fun ls hl => ?_)
    refine z_iinc (k := 1) (lv' := [(2, zi (k + 1)), (1, zi (v + (pullV bn (bw - 2 * bh) CJ CW k))), (0, .ref h0)]) hx hb dX1_momentN_20 hl rfl (by decide) rfl (fun ls hl => ?_)
    refine lv_goto (tgt := 4) hx hb dX1_momentN_23 (by decide) ?_
    exact ih4 (v + (pullV bn (bw - 2 * bh) CJ CW k), k + 1) _ _ _ (by first | (dsimp only; omega) | omega) ⟨⟨by omega, by omega, by rw [sgI_s _ (by omega)]; omega⟩, lv_sub hl [0, 1, 2] rfl, rfl, rfl⟩
set_option maxHeartbeats 8000000 in
set_option maxRecDepth 100000 in
theorem c_X1_weightEmpty (l : Launch) (D : va_G) (y : Nat → ClassId) (h0 : Nat) (a1 : Nat) (a2 : Nat) (a3 : Nat) (bl : Int) (bw : Int) (bt : Int) (bh : Int) (bd : Int) (bx : Int) (bn : Int) (CI : Int → Int) (CJ : Int → Int) (CW : Int → Int) (hB : bOK bl bw bt bh bd bx bn CI CJ CW) : Met l yX1_weightEmpty wsX1_weightEmpty ({ frames := 0, cells := 0, slots := 0, locals := 0 } : Room) (pPc D y [(h0, .inr (1, [zi bl, zi bw, zi bt, zi bh, zi bd, zi bx, zi bn, .ref a1, .ref a2, .ref a3])), (a1, .inl (y 0, 8, .inl (cI CI))), (a2, .inl (y 0, 8, .inl (cI CJ))), (a3, .inl (y 0, 8, .inl (cI CW)))] [.ref h0]) (qV (zi (bl * bw * bt))) 0 0 (fun _ => False) := by
  refine P_of (own := RX1) (cc := cX1_weightEmpty) (maxL := 1) (ret := some .int) (by decide) rfl rfl (Nat.le_of_ble_eq_true rfl) (fun p e s m below meth c ls hx hb hr hC hlocks hPr hG hl => ?_)
  have hC0 := hC
  obtain ⟨-, -, hml, hown, hts⟩ := hC0
  have hK := hG.1
  have hinX1 : ∀ w ∈ wsX10, w ∈ wsX1_weightEmpty := fun _ h => List.mem_cons_of_mem _ (List.mem_append_right _ h)
  have k1 := hts (.fieldLink RX1 9 "BoatsOfPaper$Boat" "l" "I") (List.mem_of_getElem? (i := 1) rfl)
  have k2 := hts (.fieldLink RX1 15 "BoatsOfPaper$Boat" "w" "I") (List.mem_of_getElem? (i := 2) rfl)
  have k3 := hts (.fieldLink RX1 18 "BoatsOfPaper$Boat" "t" "I") (List.mem_of_getElem? (i := 3) rfl)
  have hl : lv_has ls 1 [(0, .ref h0)] := hl
  obtain ⟨q1, q2, q3, q4, q5, q6, q7, q8, q9, qc⟩ := id hB
  refine lv_aload_n hx hb dX1_weightEmpty_0 rfl (lv_at hl 0 rfl) ?_
  refine va_get hx hb hts hinX1 hown hK hPr 0 rfl rfl 0 (by decide) k1 (fun _ h => h) rfl dX1_weightEmpty_1 ?_
  refine lv_aload_n hx hb dX1_weightEmpty_4 rfl (lv_at hl 0 rfl) ?_
  refine va_get hx hb hts hinX1 hown hK hPr 0 rfl rfl 1 (by decide) k2 (fun _ h => h) rfl dX1_weightEmpty_5 ?_
  refine z_imul hx hb dX1_weightEmpty_8 ?_
  refine lv_aload_n hx hb dX1_weightEmpty_9 rfl (lv_at hl 0 rfl) ?_
  refine va_get hx hb hts hinX1 hown hK hPr 0 rfl rfl 2 (by decide) k3 (fun _ h => h) rfl dX1_weightEmpty_10 ?_
  refine z_imul hx hb dX1_weightEmpty_13 ?_
  exact z_iret0 hx hb hr hlocks (rfl) dX1_weightEmpty_14
set_option maxHeartbeats 8000000 in
set_option maxRecDepth 100000 in
theorem c_X1_weightAt (l : Launch) (D : va_G) (y : Nat → ClassId) (h0 : Nat) (a1 : Nat) (a2 : Nat) (a3 : Nat) (bl : Int) (bw : Int) (bt : Int) (bh : Int) (bd : Int) (bx : Int) (bn : Int) (CI : Int → Int) (CJ : Int → Int) (CW : Int → Int) (sc : Int) (hB : bOK bl bw bt bh bd bx bn CI CJ CW) (hsc : rI sc) : Met l yX1_weightAt wsX1_weightAt ({ frames := 1, cells := 0, slots := 0, locals := 21 } : Room) (pPc D y [(h0, .inr (1, [zi bl, zi bw, zi bt, zi bh, zi bd, zi bx, zi bn, .ref a1, .ref a2, .ref a3])), (a1, .inl (y 0, 8, .inl (cI CI))), (a2, .inl (y 0, 8, .inl (cI CJ))), (a3, .inl (y 0, 8, .inl (cI CW)))] [.ref h0, zi sc]) (qV (zi (wAt bl bw bt bd bn CW sc))) 0 0 (fun _ => False) := by
  refine P_of (own := RX1) (cc := cX1_weightAt) (maxL := 4) (ret := some .int) (by decide) rfl rfl (Nat.le_of_ble_eq_true rfl) (fun p e s m below meth c ls hx hb hr hC hlocks hPr hG hl => ?_)
  have hC0 := hC
  obtain ⟨-, -, hml, hown, hts⟩ := hC0
  have hK := hG.1
  have hinX1 : ∀ w ∈ wsX10, w ∈ wsX1_weightAt := fun _ h => List.mem_cons_of_mem _ (List.mem_append_right _ h)
  have k1 := hts (.fieldLink RX1 24 "BoatsOfPaper$Boat" "drinks" "I") (List.mem_of_getElem? (i := 1) rfl)
  have k2 := hts (.fieldLink RX1 30 "BoatsOfPaper$Boat" "coins" "I") (List.mem_of_getElem? (i := 2) rfl)
  have hl : lv_has ls 4 [(0, .ref h0), (1, zi sc)] := hl
  obtain ⟨q1, q2, q3, q4, q5, q6, q7, q8, q9, qc⟩ := id hB
  refine lv_aload_n hx hb dX1_weightAt_0 rfl (lv_at hl 0 rfl) ?_
  refine z_pV (As := []) (rest := []) hC (c_X1_weightEmpty l D y h0 a1 a2 a3 bl bw bt bh bd bx bn CI CJ CW (by first | assumption | omega)) (cwV 0 hts gX1_weightAt_X1_weightEmpty rfl rfl rfl (by decide +kernel) ⟨Nat.le_of_ble_eq_true rfl, Nat.le_of_ble_eq_true rfl⟩) hG (hPr.sub (ws' := [(h0, .inr (1, [zi bl, zi bw, zi bt, zi bh, zi bd, zi bx, zi bn, .ref a1, .ref a2, .ref a3])), (a1, .inl (y 0, 8, .inl (cI CI))), (a2, .inl (y 0, 8, .inl (cI CJ))), (a3, .inl (y 0, 8, .inl (cI CW)))]) [0, 1, 2, 3] rfl) 0 rfl rfl rfl hl.1 rfl (Nat.le_of_ble_eq_true rfl) dX1_weightAt_1 ⟨Nat.le_of_ble_eq_true rfl, Nat.le_of_ble_eq_true rfl⟩ ?_
  refine lv_iload_n hx hb dX1_weightAt_4 rfl (lv_at hl 1 rfl) ?_
  refine lv_aload_n hx hb dX1_weightAt_5 rfl (lv_at hl 0 rfl) ?_
  refine va_get hx hb hts hinX1 hown hK hPr 0 rfl rfl 4 (by decide) k1 (fun _ h => h) rfl dX1_weightAt_6 ?_
  refine z_imul hx hb dX1_weightAt_9 ?_
  refine z_iadd hx hb dX1_weightAt_10 ?_
  refine lv_istore_n (lv' := [(2, zi ((bl * bw * bt) + (sc * bd))), (0, .ref h0), (1, zi sc)]) hx hb dX1_weightAt_11 rfl hl (by decide) rfl (fun ls hl => ?_)
  refine z_iconst hx hb dX1_weightAt_12 ?_
  refine lv_istore_n (lv' := [(3, zi 0), (2, zi ((bl * bw * bt) + (sc * bd))), (0, .ref h0), (1, zi sc)]) hx hb dX1_weightAt_13 rfl hl (by decide) rfl (fun ls hl => ?_)
  refine z_loop (σ := Int × Int) (fun x9 H lc ls => match x9 with | (v, k) => (0 ≤ k ∧ k ≤ bn ∧ v = bl * bw * bt + sc * bd + sgI (wOf bn CW) k) ∧ lv_has ls 4 [(3, zi k), (2, zi v), (0, .ref h0), (1, zi sc)] ∧ H = s.heap ∧ lc = []) (fun x9  => match x9 with | (v, k) => ((bn - k).toNat)) ?_ ((bl * bw * bt) + (sc * bd), 0) ⟨⟨by omega, by omega, by rw [sgI_0]; omega⟩, lv_sub hl [0, 1, 2, 3] rfl, rfl, rfl⟩
  rintro ⟨v, k⟩ H lc ls ⟨hi14, hl, rfl, rfl⟩ ih14
  refine lv_iload_n hx hb dX1_weightAt_14 rfl (lv_at hl 0 rfl) ?_
  refine lv_aload_n hx hb dX1_weightAt_15 rfl (lv_at hl 2 rfl) ?_
  refine va_get hx hb hts hinX1 hown hK hPr 0 rfl rfl 6 (by decide) k2 (fun _ h => h) rfl dX1_weightAt_16 ?_
  refine z_icmp_ge (tgt := 36) hx hb (by omega) (by omega) dX1_weightAt_19 (by decide) (fun c_19 => ?_) (fun c_19 => ?_)
  ·
    refine lv_iload_n hx hb dX1_weightAt_36 rfl (lv_at hl 1 rfl) ?_
    exact z_iret0 hx hb hr hlocks (hi14.2.2.trans (by rw [show k = bn by omega]; rfl)) dX1_weightAt_37
  ·
    refine lv_iload_n hx hb dX1_weightAt_22 rfl (lv_at hl 1 rfl) ?_
    refine lv_aload_n hx hb dX1_weightAt_23 rfl (lv_at hl 2 rfl) ?_
    refine lv_iload_n hx hb dX1_weightAt_24 rfl (lv_at hl 0 rfl) ?_
    refine z_pV (As := [zi k]) (rest := [zi v]) hC (c_X1_weightOf l D y h0 a1 a2 a3 bl bw bt bh bd bx bn CI CJ CW k (by first | assumption | omega) (by first | assumption | omega)) (cwV 1 hts gX1_weightAt_X1_weightOf rfl rfl rfl (by decide +kernel) ⟨Nat.le_of_ble_eq_true rfl, Nat.le_of_ble_eq_true rfl⟩) hG (hPr.sub (ws' := [(h0, .inr (1, [zi bl, zi bw, zi bt, zi bh, zi bd, zi bx, zi bn, .ref a1, .ref a2, .ref a3])), (a1, .inl (y 0, 8, .inl (cI CI))), (a2, .inl (y 0, 8, .inl (cI CJ))), (a3, .inl (y 0, 8, .inl (cI CW)))]) [0, 1, 2, 3] rfl) 0 rfl rfl rfl hl.1 rfl (Nat.le_of_ble_eq_true rfl) dX1_weightAt_25 ⟨Nat.le_of_ble_eq_true rfl, Nat.le_of_ble_eq_true rfl⟩ ?_
    refine z_iadd hx hb dX1_weightAt_28 ?_
    refine lv_istore_n (lv' := [(2, zi (v + (wOf bn CW k))), (3, zi k), (0, .ref h0), (1, zi sc)]) hx hb dX1_weightAt_29 rfl hl (by decide) rfl (fun ls hl => ?_)
    refine z_iinc (k := 1) (lv' := [(3, zi (k + 1)), (2, zi (v + (wOf bn CW k))), (0, .ref h0), (1, zi sc)]) hx hb dX1_weightAt_30 hl rfl (by decide) rfl (fun ls hl => ?_)
    refine lv_goto (tgt := 14) hx hb dX1_weightAt_33 (by decide) ?_
    exact ih14 (v + (wOf bn CW k), k + 1) _ _ _ (by first | (dsimp only; omega) | omega) ⟨⟨by omega, by omega, by rw [sgI_s _ (by omega)]; omega⟩, lv_sub hl [0, 1, 2, 3] rfl, rfl, rfl⟩
set_option maxHeartbeats 8000000 in
set_option maxRecDepth 100000 in
theorem c_X1_cornerOf (l : Launch) (D : va_G) (y : Nat → ClassId) (h0 : Nat) (a1 : Nat) (a2 : Nat) (a3 : Nat) (bl : Int) (bw : Int) (bt : Int) (bh : Int) (bd : Int) (bx : Int) (bn : Int) (CI : Int → Int) (CJ : Int → Int) (CW : Int → Int) (wt : Int) (mm : Int) (mn : Int) (hB : bOK bl bw bt bh bd bx bn CI CJ CW) (hq : (0 ≤ wt ∧ wt ≤ 200000) ∧ (-20000 ≤ mm ∧ mm ≤ 20000) ∧ (-20000 ≤ mn ∧ mn ≤ 20000)) : Met l yX1_cornerOf wsX1_cornerOf ({ frames := 2, cells := 0, slots := 0, locals := 40 } : Room) (pPc D y [(h0, .inr (1, [zi bl, zi bw, zi bt, zi bh, zi bd, zi bx, zi bn, .ref a1, .ref a2, .ref a3])), (a1, .inl (y 0, 8, .inl (cI CI))), (a2, .inl (y 0, 8, .inl (cI CJ))), (a3, .inl (y 0, 8, .inl (cI CW)))] [.ref h0, zi wt, zi mm, zi mn]) (qV (zl (corV (bl - 2 * bh) (bw - 2 * bh) wt mm mn))) 0 0 (fun _ => False) := by
  refine P_of (own := RX1) (cc := cX1_cornerOf) (maxL := 4) (ret := some .long) (by decide) rfl rfl (Nat.le_of_ble_eq_true rfl) (fun p e s m below meth c ls hx hb hr hC hlocks hPr hG hl => ?_)
  have hC0 := hC
  obtain ⟨-, -, hml, hown, hts⟩ := hC0
  have hK := hG.1
  have k1 := hts (.constantLong RX1 74 (3)) (List.mem_of_getElem? (i := 1) rfl)
  have k2 := hts (.methodLink RX1 76 Lib.Math.abs.name) (List.mem_of_getElem? (i := 2) rfl)
  have k3 := hts (.static Lib.Math.abs.name) (List.mem_of_getElem? (i := 3) rfl)
  have k4 := hts (.initialized "java/lang/Math") (List.mem_of_getElem? (i := 4) rfl)
  have hl : lv_has ls 4 [(0, .ref h0), (1, zi wt), (2, zi mm), (3, zi mn)] := hl
  obtain ⟨q1, q2, q3, q4, q5, q6, q7, q8, q9, qc⟩ := id hB
  have b1 := bOK_cells hB
  refine lv_iload_n hx hb dX1_cornerOf_0 rfl (lv_at hl 1 rfl) ?_
  refine z_i2l hx hb (by omega) dX1_cornerOf_1 ?_
  refine lv_aload_n hx hb dX1_cornerOf_2 rfl (lv_at hl 0 rfl) ?_
  refine z_pV (As := []) (rest := [zl wt]) hC (c_X1_cells l D y h0 a1 a2 a3 bl bw bt bh bd bx bn CI CJ CW (by first | assumption | omega)) (cwV 0 hts gX1_cornerOf_X1_cells rfl rfl rfl (by decide +kernel) ⟨Nat.le_of_ble_eq_true rfl, Nat.le_of_ble_eq_true rfl⟩) hG (hPr.sub (ws' := [(h0, .inr (1, [zi bl, zi bw, zi bt, zi bh, zi bd, zi bx, zi bn, .ref a1, .ref a2, .ref a3])), (a1, .inl (y 0, 8, .inl (cI CI))), (a2, .inl (y 0, 8, .inl (cI CJ))), (a3, .inl (y 0, 8, .inl (cI CW)))]) [0, 1, 2, 3] rfl) 0 rfl rfl rfl hl.1 rfl (Nat.le_of_ble_eq_true rfl) dX1_cornerOf_3 ⟨Nat.le_of_ble_eq_true rfl, Nat.le_of_ble_eq_true rfl⟩ ?_
  refine z_i2l hx hb (by omega) dX1_cornerOf_6 ?_
  refine z_lmul hx hb dX1_cornerOf_7 ?_
  refine lv_ldc2 (v := iL 3) hx hb hown k1 dX1_cornerOf_8 ?_
  refine lv_iload_n hx hb dX1_cornerOf_11 rfl (lv_at hl 2 rfl) ?_
  refine z_mabs hx hb (hml.trans hl.1.symm) hown k2 k3 k4 (hts _ (List.mem_of_getElem? (i := 5) rfl)) (Nat.le_of_ble_eq_true rfl) (Nat.le_of_ble_eq_true rfl) (Nat.le_of_ble_eq_true rfl) (Nat.le_of_ble_eq_true rfl) (by omega) dX1_cornerOf_12 ?_
  refine z_i2l hx hb (by omega) dX1_cornerOf_15 ?_
  refine z_lmul hx hb dX1_cornerOf_16 ?_
  refine lv_aload_n hx hb dX1_cornerOf_17 rfl (lv_at hl 0 rfl) ?_
  refine z_pV (As := []) (rest := [zl (3 * (max mm (-mm))), zl (wt * ((bl - 2 * bh) * (bw - 2 * bh)))]) hC (c_X1_b l D y h0 a1 a2 a3 bl bw bt bh bd bx bn CI CJ CW (by first | assumption | omega)) (cwV 0 hts gX1_cornerOf_X1_b rfl rfl rfl (by decide +kernel) ⟨Nat.le_of_ble_eq_true rfl, Nat.le_of_ble_eq_true rfl⟩) hG (hPr.sub (ws' := [(h0, .inr (1, [zi bl, zi bw, zi bt, zi bh, zi bd, zi bx, zi bn, .ref a1, .ref a2, .ref a3])), (a1, .inl (y 0, 8, .inl (cI CI))), (a2, .inl (y 0, 8, .inl (cI CJ))), (a3, .inl (y 0, 8, .inl (cI CW)))]) [0, 1, 2, 3] rfl) 0 rfl rfl rfl hl.1 rfl (Nat.le_of_ble_eq_true rfl) dX1_cornerOf_18 ⟨Nat.le_of_ble_eq_true rfl, Nat.le_of_ble_eq_true rfl⟩ ?_
  refine z_i2l hx hb (by omega) dX1_cornerOf_21 ?_
  refine z_lmul hx hb dX1_cornerOf_22 ?_
  refine z_ladd hx hb dX1_cornerOf_23 ?_
  refine lv_ldc2 (v := iL 3) hx hb hown k1 dX1_cornerOf_24 ?_
  refine lv_iload_n hx hb dX1_cornerOf_27 rfl (lv_at hl 3 rfl) ?_
  refine z_mabs hx hb (hml.trans hl.1.symm) hown k2 k3 k4 (hts _ (List.mem_of_getElem? (i := 5) rfl)) (Nat.le_of_ble_eq_true rfl) (Nat.le_of_ble_eq_true rfl) (Nat.le_of_ble_eq_true rfl) (Nat.le_of_ble_eq_true rfl) (by omega) dX1_cornerOf_28 ?_
  refine z_i2l hx hb (by omega) dX1_cornerOf_31 ?_
  refine z_lmul hx hb dX1_cornerOf_32 ?_
  refine lv_aload_n hx hb dX1_cornerOf_33 rfl (lv_at hl 0 rfl) ?_
  refine z_pV (As := []) (rest := [zl (3 * (max mn (-mn))), zl ((wt * ((bl - 2 * bh) * (bw - 2 * bh))) + ((3 * (max mm (-mm))) * (bw - 2 * bh)))]) hC (c_X1_a l D y h0 a1 a2 a3 bl bw bt bh bd bx bn CI CJ CW (by first | assumption | omega)) (cwV 0 hts gX1_cornerOf_X1_a rfl rfl rfl (by decide +kernel) ⟨Nat.le_of_ble_eq_true rfl, Nat.le_of_ble_eq_true rfl⟩) hG (hPr.sub (ws' := [(h0, .inr (1, [zi bl, zi bw, zi bt, zi bh, zi bd, zi bx, zi bn, .ref a1, .ref a2, .ref a3])), (a1, .inl (y 0, 8, .inl (cI CI))), (a2, .inl (y 0, 8, .inl (cI CJ))), (a3, .inl (y 0, 8, .inl (cI CW)))]) [0, 1, 2, 3] rfl) 0 rfl rfl rfl hl.1 rfl (Nat.le_of_ble_eq_true rfl) dX1_cornerOf_34 ⟨Nat.le_of_ble_eq_true rfl, Nat.le_of_ble_eq_true rfl⟩ ?_
  refine z_i2l hx hb (by omega) dX1_cornerOf_37 ?_
  refine z_lmul hx hb dX1_cornerOf_38 ?_
  refine z_ladd hx hb dX1_cornerOf_39 ?_
  exact z_lret0 hx hb hr hlocks (rfl) dX1_cornerOf_40
set_option maxHeartbeats 8000000 in
set_option maxRecDepth 100000 in
theorem c_X1_cornerAt (l : Launch) (D : va_G) (y : Nat → ClassId) (h0 : Nat) (a1 : Nat) (a2 : Nat) (a3 : Nat) (bl : Int) (bw : Int) (bt : Int) (bh : Int) (bd : Int) (bx : Int) (bn : Int) (CI : Int → Int) (CJ : Int → Int) (CW : Int → Int) (sc : Int) (hB : bOK bl bw bt bh bd bx bn CI CJ CW) (hsc : 0 ≤ sc ∧ sc ≤ 999) : Met l yX1_cornerAt wsX1_cornerAt ({ frames := 3, cells := 0, slots := 0, locals := 63 } : Room) (pPc D y [(h0, .inr (1, [zi bl, zi bw, zi bt, zi bh, zi bd, zi bx, zi bn, .ref a1, .ref a2, .ref a3])), (a1, .inl (y 0, 8, .inl (cI CI))), (a2, .inl (y 0, 8, .inl (cI CJ))), (a3, .inl (y 0, 8, .inl (cI CW)))] [.ref h0, zi sc]) (qV (zl (corAt bl bw bt bh bd bn CI CJ CW sc))) 0 0 (fun _ => False) := by
  refine P_of (own := RX1) (cc := cX1_cornerAt) (maxL := 2) (ret := some .long) (by decide) rfl rfl (Nat.le_of_ble_eq_true rfl) (fun p e s m below meth c ls hx hb hr hC hlocks hPr hG hl => ?_)
  have hC0 := hC
  obtain ⟨-, -, hml, hown, hts⟩ := hC0
  have hK := hG.1
  have hl : lv_has ls 2 [(0, .ref h0), (1, zi sc)] := hl
  obtain ⟨q1, q2, q3, q4, q5, q6, q7, q8, q9, qc⟩ := id hB
  have b1 := wAt_bd hB hsc
  have b2 := bOK_m hB
  have b3 := bOK_n hB
  refine lv_aload_n hx hb dX1_cornerAt_0 rfl (lv_at hl 0 rfl) ?_
  refine lv_aload_n hx hb dX1_cornerAt_1 rfl (lv_at hl 0 rfl) ?_
  refine lv_iload_n hx hb dX1_cornerAt_2 rfl (lv_at hl 1 rfl) ?_
  refine z_pV (As := [zi sc]) (rest := [.ref h0]) hC (c_X1_weightAt l D y h0 a1 a2 a3 bl bw bt bh bd bx bn CI CJ CW sc (by first | assumption | omega) (by first | assumption | omega)) (cwV 1 hts gX1_cornerAt_X1_weightAt rfl rfl rfl (by decide +kernel) ⟨Nat.le_of_ble_eq_true rfl, Nat.le_of_ble_eq_true rfl⟩) hG (hPr.sub (ws' := [(h0, .inr (1, [zi bl, zi bw, zi bt, zi bh, zi bd, zi bx, zi bn, .ref a1, .ref a2, .ref a3])), (a1, .inl (y 0, 8, .inl (cI CI))), (a2, .inl (y 0, 8, .inl (cI CJ))), (a3, .inl (y 0, 8, .inl (cI CW)))]) [0, 1, 2, 3] rfl) 0 rfl rfl rfl hl.1 rfl (Nat.le_of_ble_eq_true rfl) dX1_cornerAt_3 ⟨Nat.le_of_ble_eq_true rfl, Nat.le_of_ble_eq_true rfl⟩ ?_
  refine lv_aload_n hx hb dX1_cornerAt_6 rfl (lv_at hl 0 rfl) ?_
  refine z_pV (As := []) (rest := [zi (wAt bl bw bt bd bn CW sc), .ref h0]) hC (c_X1_momentM l D y h0 a1 a2 a3 bl bw bt bh bd bx bn CI CJ CW (by first | assumption | omega)) (cwV 0 hts gX1_cornerAt_X1_momentM rfl rfl rfl (by decide +kernel) ⟨Nat.le_of_ble_eq_true rfl, Nat.le_of_ble_eq_true rfl⟩) hG (hPr.sub (ws' := [(h0, .inr (1, [zi bl, zi bw, zi bt, zi bh, zi bd, zi bx, zi bn, .ref a1, .ref a2, .ref a3])), (a1, .inl (y 0, 8, .inl (cI CI))), (a2, .inl (y 0, 8, .inl (cI CJ))), (a3, .inl (y 0, 8, .inl (cI CW)))]) [0, 1, 2, 3] rfl) 0 rfl rfl rfl hl.1 rfl (Nat.le_of_ble_eq_true rfl) dX1_cornerAt_7 ⟨Nat.le_of_ble_eq_true rfl, Nat.le_of_ble_eq_true rfl⟩ ?_
  refine lv_aload_n hx hb dX1_cornerAt_10 rfl (lv_at hl 0 rfl) ?_
  refine z_pV (As := []) (rest := [zi (momV bn (bl - 2 * bh) CI CW), zi (wAt bl bw bt bd bn CW sc), .ref h0]) hC (c_X1_momentN l D y h0 a1 a2 a3 bl bw bt bh bd bx bn CI CJ CW (by first | assumption | omega)) (cwV 0 hts gX1_cornerAt_X1_momentN rfl rfl rfl (by decide +kernel) ⟨Nat.le_of_ble_eq_true rfl, Nat.le_of_ble_eq_true rfl⟩) hG (hPr.sub (ws' := [(h0, .inr (1, [zi bl, zi bw, zi bt, zi bh, zi bd, zi bx, zi bn, .ref a1, .ref a2, .ref a3])), (a1, .inl (y 0, 8, .inl (cI CI))), (a2, .inl (y 0, 8, .inl (cI CJ))), (a3, .inl (y 0, 8, .inl (cI CW)))]) [0, 1, 2, 3] rfl) 0 rfl rfl rfl hl.1 rfl (Nat.le_of_ble_eq_true rfl) dX1_cornerAt_11 ⟨Nat.le_of_ble_eq_true rfl, Nat.le_of_ble_eq_true rfl⟩ ?_
  refine z_pV (As := [zi (wAt bl bw bt bd bn CW sc), zi (momV bn (bl - 2 * bh) CI CW), zi (momV bn (bw - 2 * bh) CJ CW)]) (rest := []) hC (c_X1_cornerOf l D y h0 a1 a2 a3 bl bw bt bh bd bx bn CI CJ CW (wAt bl bw bt bd bn CW sc) (momV bn (bl - 2 * bh) CI CW) (momV bn (bw - 2 * bh) CJ CW) (by first | assumption | omega) (by first | assumption | omega)) (cwV 3 hts gX1_cornerAt_X1_cornerOf rfl rfl rfl (by decide +kernel) ⟨Nat.le_of_ble_eq_true rfl, Nat.le_of_ble_eq_true rfl⟩) hG (hPr.sub (ws' := [(h0, .inr (1, [zi bl, zi bw, zi bt, zi bh, zi bd, zi bx, zi bn, .ref a1, .ref a2, .ref a3])), (a1, .inl (y 0, 8, .inl (cI CI))), (a2, .inl (y 0, 8, .inl (cI CJ))), (a3, .inl (y 0, 8, .inl (cI CW)))]) [0, 1, 2, 3] rfl) 0 rfl rfl rfl hl.1 rfl (Nat.le_of_ble_eq_true rfl) dX1_cornerAt_14 ⟨Nat.le_of_ble_eq_true rfl, Nat.le_of_ble_eq_true rfl⟩ ?_
  exact z_lret0 hx hb hr hlocks (rfl) dX1_cornerAt_17
set_option maxHeartbeats 8000000 in
set_option maxRecDepth 100000 in
theorem c_X1_cornerUnit (l : Launch) (D : va_G) (y : Nat → ClassId) (h0 : Nat) (a1 : Nat) (a2 : Nat) (a3 : Nat) (bl : Int) (bw : Int) (bt : Int) (bh : Int) (bd : Int) (bx : Int) (bn : Int) (CI : Int → Int) (CJ : Int → Int) (CW : Int → Int) (hB : bOK bl bw bt bh bd bx bn CI CJ CW) : Met l yX1_cornerUnit wsX1_cornerUnit ({ frames := 2, cells := 0, slots := 0, locals := 40 } : Room) (pPc D y [(h0, .inr (1, [zi bl, zi bw, zi bt, zi bh, zi bd, zi bx, zi bn, .ref a1, .ref a2, .ref a3])), (a1, .inl (y 0, 8, .inl (cI CI))), (a2, .inl (y 0, 8, .inl (cI CJ))), (a3, .inl (y 0, 8, .inl (cI CW)))] [.ref h0]) (qV (zl (unitV (bl - 2 * bh) (bw - 2 * bh)))) 0 0 (fun _ => False) := by
  refine P_of (own := RX1) (cc := cX1_cornerUnit) (maxL := 1) (ret := some .long) (by decide) rfl rfl (Nat.le_of_ble_eq_true rfl) (fun p e s m below meth c ls hx hb hr hC hlocks hPr hG hl => ?_)
  have hC0 := hC
  obtain ⟨-, -, hml, hown, hts⟩ := hC0
  have hK := hG.1
  have k1 := hts (.constantLong RX1 94 (100)) (List.mem_of_getElem? (i := 1) rfl)
  have hl : lv_has ls 1 [(0, .ref h0)] := hl
  obtain ⟨q1, q2, q3, q4, q5, q6, q7, q8, q9, qc⟩ := id hB
  have b1 := bOK_cells hB
  refine lv_ldc2 (v := iL 100) hx hb hown k1 dX1_cornerUnit_0 ?_
  refine lv_aload_n hx hb dX1_cornerUnit_3 rfl (lv_at hl 0 rfl) ?_
  refine z_pV (As := []) (rest := [zl 100]) hC (c_X1_cells l D y h0 a1 a2 a3 bl bw bt bh bd bx bn CI CJ CW (by first | assumption | omega)) (cwV 0 hts gX1_cornerUnit_X1_cells rfl rfl rfl (by decide +kernel) ⟨Nat.le_of_ble_eq_true rfl, Nat.le_of_ble_eq_true rfl⟩) hG (hPr.sub (ws' := [(h0, .inr (1, [zi bl, zi bw, zi bt, zi bh, zi bd, zi bx, zi bn, .ref a1, .ref a2, .ref a3])), (a1, .inl (y 0, 8, .inl (cI CI))), (a2, .inl (y 0, 8, .inl (cI CJ))), (a3, .inl (y 0, 8, .inl (cI CW)))]) [0, 1, 2, 3] rfl) 0 rfl rfl rfl hl.1 rfl (Nat.le_of_ble_eq_true rfl) dX1_cornerUnit_4 ⟨Nat.le_of_ble_eq_true rfl, Nat.le_of_ble_eq_true rfl⟩ ?_
  refine z_i2l hx hb (by omega) dX1_cornerUnit_7 ?_
  refine z_lmul hx hb dX1_cornerUnit_8 ?_
  refine lv_aload_n hx hb dX1_cornerUnit_9 rfl (lv_at hl 0 rfl) ?_
  refine z_pV (As := []) (rest := [zl (100 * ((bl - 2 * bh) * (bw - 2 * bh)))]) hC (c_X1_cells l D y h0 a1 a2 a3 bl bw bt bh bd bx bn CI CJ CW (by first | assumption | omega)) (cwV 0 hts gX1_cornerUnit_X1_cells rfl rfl rfl (by decide +kernel) ⟨Nat.le_of_ble_eq_true rfl, Nat.le_of_ble_eq_true rfl⟩) hG (hPr.sub (ws' := [(h0, .inr (1, [zi bl, zi bw, zi bt, zi bh, zi bd, zi bx, zi bn, .ref a1, .ref a2, .ref a3])), (a1, .inl (y 0, 8, .inl (cI CI))), (a2, .inl (y 0, 8, .inl (cI CJ))), (a3, .inl (y 0, 8, .inl (cI CW)))]) [0, 1, 2, 3] rfl) 0 rfl rfl rfl hl.1 rfl (Nat.le_of_ble_eq_true rfl) dX1_cornerUnit_10 ⟨Nat.le_of_ble_eq_true rfl, Nat.le_of_ble_eq_true rfl⟩ ?_
  refine z_i2l hx hb (by omega) dX1_cornerUnit_13 ?_
  refine z_lmul hx hb dX1_cornerUnit_14 ?_
  exact z_lret0 hx hb hr hlocks (rfl) dX1_cornerUnit_15
set_option maxHeartbeats 8000000 in
set_option maxRecDepth 100000 in
theorem c_X1_room (l : Launch) (D : va_G) (y : Nat → ClassId) (h0 : Nat) (a1 : Nat) (a2 : Nat) (a3 : Nat) (bl : Int) (bw : Int) (bt : Int) (bh : Int) (bd : Int) (bx : Int) (bn : Int) (CI : Int → Int) (CJ : Int → Int) (CW : Int → Int) (co : Int) (hB : bOK bl bw bt bh bd bx bn CI CJ CW) : Met l yX1_room wsX1_room ({ frames := 3, cells := 0, slots := 0, locals := 60 } : Room) (pPc D y [(h0, .inr (1, [zi bl, zi bw, zi bt, zi bh, zi bd, zi bx, zi bn, .ref a1, .ref a2, .ref a3])), (a1, .inl (y 0, 8, .inl (cI CI))), (a2, .inl (y 0, 8, .inl (cI CJ))), (a3, .inl (y 0, 8, .inl (cI CW)))] [.ref h0, zl co]) (qV (zl (roomV (bl - 2 * bh) (bw - 2 * bh) bh co))) 0 0 (fun _ => False) := by
  refine P_of (own := RX1) (cc := cX1_room) (maxL := 3) (ret := some .long) (by decide) rfl rfl (Nat.le_of_ble_eq_true rfl) (fun p e s m below meth c ls hx hb hr hC hlocks hPr hG hl => ?_)
  have hC0 := hC
  obtain ⟨-, -, hml, hown, hts⟩ := hC0
  have hK := hG.1
  have hinX1 : ∀ w ∈ wsX10, w ∈ wsX1_room := fun _ h => List.mem_cons_of_mem _ (List.mem_append_right _ h)
  have k1 := hts (.fieldLink RX1 21 "BoatsOfPaper$Boat" "h" "I") (List.mem_of_getElem? (i := 1) rfl)
  have hl : lv_has ls 3 [(0, .ref h0), (1, zl co)] := hl
  obtain ⟨q1, q2, q3, q4, q5, q6, q7, q8, q9, qc⟩ := id hB
  refine lv_aload_n hx hb dX1_room_0 rfl (lv_at hl 0 rfl) ?_
  refine va_get hx hb hts hinX1 hown hK hPr 0 rfl rfl 3 (by decide) k1 (fun _ h => h) rfl dX1_room_1 ?_
  refine z_i2l hx hb (by omega) dX1_room_4 ?_
  refine lv_aload_n hx hb dX1_room_5 rfl (lv_at hl 0 rfl) ?_
  refine z_pV (As := []) (rest := [zl bh]) hC (c_X1_cornerUnit l D y h0 a1 a2 a3 bl bw bt bh bd bx bn CI CJ CW (by first | assumption | omega)) (cwV 0 hts gX1_room_X1_cornerUnit rfl rfl rfl (by decide +kernel) ⟨Nat.le_of_ble_eq_true rfl, Nat.le_of_ble_eq_true rfl⟩) hG (hPr.sub (ws' := [(h0, .inr (1, [zi bl, zi bw, zi bt, zi bh, zi bd, zi bx, zi bn, .ref a1, .ref a2, .ref a3])), (a1, .inl (y 0, 8, .inl (cI CI))), (a2, .inl (y 0, 8, .inl (cI CJ))), (a3, .inl (y 0, 8, .inl (cI CW)))]) [0, 1, 2, 3] rfl) 0 rfl rfl rfl hl.1 rfl (Nat.le_of_ble_eq_true rfl) dX1_room_6 ⟨Nat.le_of_ble_eq_true rfl, Nat.le_of_ble_eq_true rfl⟩ ?_
  refine z_lmul hx hb dX1_room_9 ?_
  refine lv_lload_n hx hb dX1_room_10 rfl (lv_at hl 1 rfl) ?_
  refine z_lsub hx hb dX1_room_11 ?_
  exact z_lret0 hx hb hr hlocks (rfl) dX1_room_12
set_option maxHeartbeats 8000000 in
set_option maxRecDepth 100000 in
theorem c_X1_lastFirmSecond (l : Launch) (D : va_G) (y : Nat → ClassId) (h0 : Nat) (a1 : Nat) (a2 : Nat) (a3 : Nat) (bl : Int) (bw : Int) (bt : Int) (bh : Int) (bd : Int) (bx : Int) (bn : Int) (CI : Int → Int) (CJ : Int → Int) (CW : Int → Int) (wx : Int) (hB : bOK bl bw bt bh bd bx bn CI CJ CW) : Met l yX1_lastFirmSecond wsX1_lastFirmSecond ({ frames := 0, cells := 0, slots := 0, locals := 0 } : Room) (pPc D y [(h0, .inr (1, [zi bl, zi bw, zi bt, zi bh, zi bd, zi bx, zi bn, .ref a1, .ref a2, .ref a3])), (a1, .inl (y 0, 8, .inl (cI CI))), (a2, .inl (y 0, 8, .inl (cI CJ))), (a3, .inl (y 0, 8, .inl (cI CW)))] [.ref h0, zi wx]) (qV (zi (10 * bt + 5 * wx))) 0 0 (fun _ => False) := by
  refine P_of (own := RX1) (cc := cX1_lastFirmSecond) (maxL := 2) (ret := some .int) (by decide) rfl rfl (Nat.le_of_ble_eq_true rfl) (fun p e s m below meth c ls hx hb hr hC hlocks hPr hG hl => ?_)
  have hC0 := hC
  obtain ⟨-, -, hml, hown, hts⟩ := hC0
  have hK := hG.1
  have hinX1 : ∀ w ∈ wsX10, w ∈ wsX1_lastFirmSecond := fun _ h => List.mem_cons_of_mem _ (List.mem_append_right _ h)
  have k1 := hts (.fieldLink RX1 18 "BoatsOfPaper$Boat" "t" "I") (List.mem_of_getElem? (i := 1) rfl)
  have hl : lv_has ls 2 [(0, .ref h0), (1, zi wx)] := hl
  obtain ⟨q1, q2, q3, q4, q5, q6, q7, q8, q9, qc⟩ := id hB
  refine z_bipush hx hb dX1_lastFirmSecond_0 (by decide) ?_
  refine lv_aload_n hx hb dX1_lastFirmSecond_2 rfl (lv_at hl 0 rfl) ?_
  refine va_get hx hb hts hinX1 hown hK hPr 0 rfl rfl 2 (by decide) k1 (fun _ h => h) rfl dX1_lastFirmSecond_3 ?_
  refine z_imul hx hb dX1_lastFirmSecond_6 ?_
  refine z_iconst hx hb dX1_lastFirmSecond_7 ?_
  refine lv_iload_n hx hb dX1_lastFirmSecond_8 rfl (lv_at hl 1 rfl) ?_
  refine z_imul hx hb dX1_lastFirmSecond_9 ?_
  refine z_iadd hx hb dX1_lastFirmSecond_10 ?_
  exact z_iret0 hx hb hr hlocks (rfl) dX1_lastFirmSecond_11
set_option maxHeartbeats 8000000 in
set_option maxRecDepth 100000 in
theorem c_X1_lastSecond (l : Launch) (D : va_G) (y : Nat → ClassId) (h0 : Nat) (a1 : Nat) (a2 : Nat) (a3 : Nat) (bl : Int) (bw : Int) (bt : Int) (bh : Int) (bd : Int) (bx : Int) (bn : Int) (CI : Int → Int) (CJ : Int → Int) (CW : Int → Int) (hB : bOK bl bw bt bh bd bx bn CI CJ CW) : Met l yX1_lastSecond wsX1_lastSecond ({ frames := 4, cells := 0, slots := 0, locals := 84 } : Room) (pPc D y [(h0, .inr (1, [zi bl, zi bw, zi bt, zi bh, zi bd, zi bx, zi bn, .ref a1, .ref a2, .ref a3])), (a1, .inl (y 0, 8, .inl (cI CI))), (a2, .inl (y 0, 8, .inl (cI CJ))), (a3, .inl (y 0, 8, .inl (cI CW)))] [.ref h0]) (qV (zi (lifeV bl bw bt bh bd bx bn CI CJ CW))) 0 0 (fun _ => False) := by
  refine P_of (own := RX1) (cc := cX1_lastSecond) (maxL := 6) (ret := some .int) (by decide) rfl rfl (Nat.le_of_ble_eq_true rfl) (fun p e s m below meth c ls hx hb hr hC hlocks hPr hG hl => ?_)
  have hC0 := hC
  obtain ⟨-, -, hml, hown, hts⟩ := hC0
  have hK := hG.1
  have hinX1 : ∀ w ∈ wsX10, w ∈ wsX1_lastSecond := fun _ h => List.mem_cons_of_mem _ (List.mem_append_right _ h)
  have k1 := hts (.fieldLink RX1 27 "BoatsOfPaper$Boat" "waxed" "I") (List.mem_of_getElem? (i := 1) rfl)
  have k2 := hts (.fieldLink RX1 24 "BoatsOfPaper$Boat" "drinks" "I") (List.mem_of_getElem? (i := 2) rfl)
  have k3 := hts (.methodLink RX1 111 Lib.MathLoose.min_long.x) (List.mem_of_getElem? (i := 3) rfl)
  have k4 := hts (.static Lib.MathLoose.min_long.x) (List.mem_of_getElem? (i := 4) rfl)
  have k5 := hts (.initialized "java/lang/Math") (List.mem_of_getElem? (i := 5) rfl)
  have hl : lv_has ls 6 [(0, .ref h0)] := hl
  obtain ⟨q1, q2, q3, q4, q5, q6, q7, q8, q9, qc⟩ := id hB
  have b1 := bOK_cells hB
  have b2 := corAt_bd hB (s := 0) (by omega)
  have b3 := room_bd (a := bl - 2 * bh) (b := bw - 2 * bh) (bh := bh) (by omega) (by omega) (by omega) b2
  have b4 : leftV bl bw bt bh bd bn CI CJ CW = roomV (bl - 2 * bh) (bw - 2 * bh) bh (corAt bl bw bt bh bd bn CI CJ CW 0) := rfl
  have b5 := mul_bd (a := bd) (b := (bl - 2 * bh) * (bw - 2 * bh)) (A := 99) (B := 324) (by omega) (by omega) (by omega) (by omega)
  refine lv_aload_n hx hb dX1_lastSecond_0 rfl (lv_at hl 0 rfl) ?_
  refine lv_aload_n hx hb dX1_lastSecond_1 rfl (lv_at hl 0 rfl) ?_
  refine z_iconst hx hb dX1_lastSecond_2 ?_
  refine z_pV (As := [zi 0]) (rest := [.ref h0]) hC (c_X1_cornerAt l D y h0 a1 a2 a3 bl bw bt bh bd bx bn CI CJ CW 0 (by first | assumption | omega) (by first | assumption | omega)) (cwV 1 hts gX1_lastSecond_X1_cornerAt rfl rfl rfl (by decide +kernel) ⟨Nat.le_of_ble_eq_true rfl, Nat.le_of_ble_eq_true rfl⟩) hG (hPr.sub (ws' := [(h0, .inr (1, [zi bl, zi bw, zi bt, zi bh, zi bd, zi bx, zi bn, .ref a1, .ref a2, .ref a3])), (a1, .inl (y 0, 8, .inl (cI CI))), (a2, .inl (y 0, 8, .inl (cI CJ))), (a3, .inl (y 0, 8, .inl (cI CW)))]) [0, 1, 2, 3] rfl) 0 rfl rfl rfl hl.1 rfl (Nat.le_of_ble_eq_true rfl) dX1_lastSecond_3 ⟨Nat.le_of_ble_eq_true rfl, Nat.le_of_ble_eq_true rfl⟩ ?_
  refine z_pV (As := [zl (corAt bl bw bt bh bd bn CI CJ CW 0)]) (rest := []) hC (c_X1_room l D y h0 a1 a2 a3 bl bw bt bh bd bx bn CI CJ CW (corAt bl bw bt bh bd bn CI CJ CW 0) (by first | assumption | omega)) (cwV 1 hts gX1_lastSecond_X1_room rfl rfl rfl (by decide +kernel) ⟨Nat.le_of_ble_eq_true rfl, Nat.le_of_ble_eq_true rfl⟩) hG (hPr.sub (ws' := [(h0, .inr (1, [zi bl, zi bw, zi bt, zi bh, zi bd, zi bx, zi bn, .ref a1, .ref a2, .ref a3])), (a1, .inl (y 0, 8, .inl (cI CI))), (a2, .inl (y 0, 8, .inl (cI CJ))), (a3, .inl (y 0, 8, .inl (cI CW)))]) [0, 1, 2, 3] rfl) 0 rfl rfl rfl hl.1 rfl (Nat.le_of_ble_eq_true rfl) dX1_lastSecond_6 ⟨Nat.le_of_ble_eq_true rfl, Nat.le_of_ble_eq_true rfl⟩ ?_
  refine lv_lstore_n (lv' := [(1, zl (roomV (bl - 2 * bh) (bw - 2 * bh) bh (corAt bl bw bt bh bd bn CI CJ CW 0))), (0, .ref h0)]) hx hb dX1_lastSecond_9 rfl hl (by decide) rfl (fun ls hl => ?_)
  refine lv_lload_n hx hb dX1_lastSecond_10 rfl (lv_at hl 0 rfl) ?_
  refine lv_lconst (v := iL 0) hx hb dX1_lastSecond_11 rfl ?_
  refine z_lcmp_ge (tgt := 19) hx hb (by omega) (by omega) dX1_lastSecond_12 dX1_lastSecond_13 (by decide) (fun c_12 => ?_) (fun c_12 => ?_)
  ·
    refine lv_aload_n hx hb dX1_lastSecond_19 rfl (lv_at hl 1 rfl) ?_
    refine lv_aload_n hx hb dX1_lastSecond_20 rfl (lv_at hl 1 rfl) ?_
    refine va_get hx hb hts hinX1 hown hK hPr 0 rfl rfl 5 (by decide) k1 (fun _ h => h) rfl dX1_lastSecond_21 ?_
    refine z_pV (As := [zi bx]) (rest := []) hC (c_X1_lastFirmSecond l D y h0 a1 a2 a3 bl bw bt bh bd bx bn CI CJ CW bx (by first | assumption | omega)) (cwV 1 hts gX1_lastSecond_X1_lastFirmSecond rfl rfl rfl (by decide +kernel) ⟨Nat.le_of_ble_eq_true rfl, Nat.le_of_ble_eq_true rfl⟩) hG (hPr.sub (ws' := [(h0, .inr (1, [zi bl, zi bw, zi bt, zi bh, zi bd, zi bx, zi bn, .ref a1, .ref a2, .ref a3])), (a1, .inl (y 0, 8, .inl (cI CI))), (a2, .inl (y 0, 8, .inl (cI CJ))), (a3, .inl (y 0, 8, .inl (cI CW)))]) [0, 1, 2, 3] rfl) 0 rfl rfl rfl hl.1 rfl (Nat.le_of_ble_eq_true rfl) dX1_lastSecond_24 ⟨Nat.le_of_ble_eq_true rfl, Nat.le_of_ble_eq_true rfl⟩ ?_
    refine lv_istore_n (lv' := [(3, zi (10 * bt + 5 * bx)), (1, zl (roomV (bl - 2 * bh) (bw - 2 * bh) bh (corAt bl bw bt bh bd bn CI CJ CW 0))), (0, .ref h0)]) hx hb dX1_lastSecond_27 rfl hl (by decide) rfl (fun ls hl => ?_)
    refine lv_aload_n hx hb dX1_lastSecond_28 rfl (lv_at hl 2 rfl) ?_
    refine va_get hx hb hts hinX1 hown hK hPr 0 rfl rfl 4 (by decide) k2 (fun _ h => h) rfl dX1_lastSecond_29 ?_
    refine z_i2l hx hb (by omega) dX1_lastSecond_32 ?_
    refine lv_aload_n hx hb dX1_lastSecond_33 rfl (lv_at hl 2 rfl) ?_
    refine z_pV (As := []) (rest := [zl bd]) hC (c_X1_cells l D y h0 a1 a2 a3 bl bw bt bh bd bx bn CI CJ CW (by first | assumption | omega)) (cwV 0 hts gX1_lastSecond_X1_cells rfl rfl rfl (by decide +kernel) ⟨Nat.le_of_ble_eq_true rfl, Nat.le_of_ble_eq_true rfl⟩) hG (hPr.sub (ws' := [(h0, .inr (1, [zi bl, zi bw, zi bt, zi bh, zi bd, zi bx, zi bn, .ref a1, .ref a2, .ref a3])), (a1, .inl (y 0, 8, .inl (cI CI))), (a2, .inl (y 0, 8, .inl (cI CJ))), (a3, .inl (y 0, 8, .inl (cI CW)))]) [0, 1, 2, 3] rfl) 0 rfl rfl rfl hl.1 rfl (Nat.le_of_ble_eq_true rfl) dX1_lastSecond_34 ⟨Nat.le_of_ble_eq_true rfl, Nat.le_of_ble_eq_true rfl⟩ ?_
    refine z_i2l hx hb (by omega) dX1_lastSecond_37 ?_
    refine z_lmul hx hb dX1_lastSecond_38 ?_
    refine lv_lstore (lv' := [(4, zl (bd * ((bl - 2 * bh) * (bw - 2 * bh)))), (3, zi (10 * bt + 5 * bx)), (1, zl (roomV (bl - 2 * bh) (bw - 2 * bh) bh (corAt bl bw bt bh bd bn CI CJ CW 0))), (0, .ref h0)]) hx hb dX1_lastSecond_39 hl (by decide) rfl (fun ls hl => ?_)
    refine lv_lload hx hb dX1_lastSecond_41 (lv_at hl 0 rfl) ?_
    refine lv_lconst (v := iL 1) hx hb dX1_lastSecond_43 rfl ?_
    refine z_lcmp_ge (tgt := 50) hx hb (by omega) (by omega) dX1_lastSecond_44 dX1_lastSecond_45 (by decide) (fun c_44 => ?_) (fun c_44 => ?_)
    ·
      refine lv_iload_n hx hb dX1_lastSecond_50 rfl (lv_at hl 1 rfl) ?_
      refine z_i2l hx hb (by omega) dX1_lastSecond_51 ?_
      refine lv_lload_n hx hb dX1_lastSecond_52 rfl (lv_at hl 2 rfl) ?_
      have b6 := Int.ediv_nonneg (a := roomV (bl - 2 * bh) (bw - 2 * bh) bh (corAt bl bw bt bh bd bn CI CJ CW 0)) (b := bd * ((bl - 2 * bh) * (bw - 2 * bh))) (by omega) (by omega)
      have b7 := Int.ediv_le_self (a := roomV (bl - 2 * bh) (bw - 2 * bh) bh (corAt bl bw bt bh bd bn CI CJ CW 0)) (bd * ((bl - 2 * bh) * (bw - 2 * bh))) (by omega)
      refine lv_lload hx hb dX1_lastSecond_53 (lv_at hl 0 rfl) ?_
      refine z_ldiv hx hb (by omega) dX1_lastSecond_55 ?_
      refine z_mminl hx hb (hml.trans hl.1.symm) hown k3 k4 k5 (hts _ (List.mem_of_getElem? (i := 6) rfl)) (Nat.le_of_ble_eq_true rfl) (Nat.le_of_ble_eq_true rfl) (Nat.le_of_ble_eq_true rfl) (Nat.le_of_ble_eq_true rfl) (by omega) dX1_lastSecond_56 ?_
      refine z_l2i hx hb dX1_lastSecond_59 ?_
      exact z_iret0 hx hb hr hlocks (((if_neg (by omega)).trans (if_neg (by omega))).symm) dX1_lastSecond_60
    ·
      refine lv_iload_n hx hb dX1_lastSecond_48 rfl (lv_at hl 1 rfl) ?_
      exact z_iret0 hx hb hr hlocks (((if_neg (by omega)).trans (if_pos (by omega))).symm) dX1_lastSecond_49
  ·
    refine z_bipush hx hb dX1_lastSecond_16 (by decide) ?_
    exact z_iret0 hx hb hr hlocks ((if_pos (by omega)).symm) dX1_lastSecond_18
set_option maxHeartbeats 8000000 in
set_option maxRecDepth 100000 in
theorem c_X1_leastWax (l : Launch) (D : va_G) (y : Nat → ClassId) (h0 : Nat) (a1 : Nat) (a2 : Nat) (a3 : Nat) (bl : Int) (bw : Int) (bt : Int) (bh : Int) (bd : Int) (bx : Int) (bn : Int) (CI : Int → Int) (CJ : Int → Int) (CW : Int → Int) (sc : Int) (hB : bOK bl bw bt bh bd bx bn CI CJ CW) (hsc : 0 ≤ sc ∧ sc ≤ 99) : Met l yX1_leastWax wsX1_leastWax ({ frames := 1, cells := 0, slots := 0, locals := 21 } : Room) (pPc D y [(h0, .inr (1, [zi bl, zi bw, zi bt, zi bh, zi bd, zi bx, zi bn, .ref a1, .ref a2, .ref a3])), (a1, .inl (y 0, 8, .inl (cI CI))), (a2, .inl (y 0, 8, .inl (cI CJ))), (a3, .inl (y 0, 8, .inl (cI CW)))] [.ref h0, zi sc]) (qV (zi (lwaxV bt sc))) 0 0 (fun _ => False) := by
  refine P_of (own := RX1) (cc := cX1_leastWax) (maxL := 3) (ret := some .int) (by decide) rfl rfl (Nat.le_of_ble_eq_true rfl) (fun p e s m below meth c ls hx hb hr hC hlocks hPr hG hl => ?_)
  have hC0 := hC
  obtain ⟨-, -, hml, hown, hts⟩ := hC0
  have hK := hG.1
  have hl : lv_has ls 3 [(0, .ref h0), (1, zi sc)] := hl
  obtain ⟨q1, q2, q3, q4, q5, q6, q7, q8, q9, qc⟩ := id hB
  refine z_iconst hx hb dX1_leastWax_0 ?_
  refine lv_istore_n (lv' := [(2, zi 0), (0, .ref h0), (1, zi sc)]) hx hb dX1_leastWax_1 rfl hl (by decide) rfl (fun ls hl => ?_)
  refine z_loop (σ := Int) (fun k H lc ls => (0 ≤ k ∧ k ≤ 10 ∧ (k = 0 ∨ 10 * bt + 5 * (k - 1) < sc)) ∧ lv_has ls 3 [(2, zi k), (0, .ref h0), (1, zi sc)] ∧ H = s.heap ∧ lc = []) (fun k  => ((10 - k).toNat)) ?_ 0 ⟨(by omega), lv_sub hl [0, 1, 2] rfl, rfl, rfl⟩
  rintro k H lc ls ⟨hi2, hl, rfl, rfl⟩ ih2
  refine lv_iload_n hx hb dX1_leastWax_2 rfl (lv_at hl 0 rfl) ?_
  refine z_bipush hx hb dX1_leastWax_3 (by decide) ?_
  refine z_icmp_gt (tgt := 25) hx hb (by omega) (by omega) dX1_leastWax_5 (by decide) (fun c_5 => ?_) (fun c_5 => ?_)
  ·
    refine z_bipush hx hb dX1_leastWax_25 (by decide) ?_
    exact z_iret0 hx hb hr hlocks (by unfold lwaxV; split <;> first | omega | (split <;> omega)) dX1_leastWax_27
  ·
    refine lv_iload_n hx hb dX1_leastWax_8 rfl (lv_at hl 2 rfl) ?_
    refine lv_aload_n hx hb dX1_leastWax_9 rfl (lv_at hl 1 rfl) ?_
    refine lv_iload_n hx hb dX1_leastWax_10 rfl (lv_at hl 0 rfl) ?_
    refine z_pV (As := [zi k]) (rest := [zi sc]) hC (c_X1_lastFirmSecond l D y h0 a1 a2 a3 bl bw bt bh bd bx bn CI CJ CW k (by first | assumption | omega)) (cwV 1 hts gX1_leastWax_X1_lastFirmSecond rfl rfl rfl (by decide +kernel) ⟨Nat.le_of_ble_eq_true rfl, Nat.le_of_ble_eq_true rfl⟩) hG (hPr.sub (ws' := [(h0, .inr (1, [zi bl, zi bw, zi bt, zi bh, zi bd, zi bx, zi bn, .ref a1, .ref a2, .ref a3])), (a1, .inl (y 0, 8, .inl (cI CI))), (a2, .inl (y 0, 8, .inl (cI CJ))), (a3, .inl (y 0, 8, .inl (cI CW)))]) [0, 1, 2, 3] rfl) 0 rfl rfl rfl hl.1 rfl (Nat.le_of_ble_eq_true rfl) dX1_leastWax_11 ⟨Nat.le_of_ble_eq_true rfl, Nat.le_of_ble_eq_true rfl⟩ ?_
    refine z_icmp_gt (tgt := 19) hx hb (by omega) (by omega) dX1_leastWax_14 (by decide) (fun c_14 => ?_) (fun c_14 => ?_)
    ·
      refine z_iinc (k := 0) (lv' := [(2, zi (k + 1)), (0, .ref h0), (1, zi sc)]) hx hb dX1_leastWax_19 hl rfl (by decide) rfl (fun ls hl => ?_)
      refine lv_goto (tgt := 2) hx hb dX1_leastWax_22 (by decide) ?_
      exact ih2 (k + 1) _ _ _ (by first | (dsimp only; omega) | omega) ⟨(by omega), lv_sub hl [0, 1, 2] rfl, rfl, rfl⟩
    ·
      refine lv_iload_n hx hb dX1_leastWax_17 rfl (lv_at hl 0 rfl) ?_
      exact z_iret0 hx hb hr hlocks (by unfold lwaxV; split <;> first | omega | (split <;> omega)) dX1_leastWax_18
set_option maxHeartbeats 8000000 in
set_option maxRecDepth 100000 in
theorem c_X1_load (l : Launch) (D : va_G) (y : Nat → ClassId) (h0 : Nat) (a1 : Nat) (a2 : Nat) (a3 : Nat) (bl : Int) (bw : Int) (bt : Int) (bh : Int) (bd : Int) (bx : Int) (bn : Int) (CI : Int → Int) (CJ : Int → Int) (CW : Int → Int) (rm : Int) (wt : Int) (hB : bOK bl bw bt bh bd bx bn CI CJ CW) (hq : 1 ≤ rm ∧ rm ≤ 9 ∧ 1 ≤ bl - 2 * rm ∧ 1 ≤ bw - 2 * rm) (hwt : rI wt) : Met l yX1_load wsX1_load ({ frames := 1, cells := 0, slots := 0, locals := 20 } : Room) (pPc D y [(h0, .inr (1, [zi bl, zi bw, zi bt, zi bh, zi bd, zi bx, zi bn, .ref a1, .ref a2, .ref a3])), (a1, .inl (y 0, 8, .inl (cI CI))), (a2, .inl (y 0, 8, .inl (cI CJ))), (a3, .inl (y 0, 8, .inl (cI CW)))] [.ref h0, zi rm, zi wt]) (qV (zi (loadV bl bw bt rm wt))) 0 0 (fun _ => False) := by
  refine P_of (own := RX1) (cc := cX1_load) (maxL := 5) (ret := some .int) (by decide) rfl rfl (Nat.le_of_ble_eq_true rfl) (fun p e s m below meth c ls hx hb hr hC hlocks hPr hG hl => ?_)
  have hC0 := hC
  obtain ⟨-, -, hml, hown, hts⟩ := hC0
  have hK := hG.1
  have hinX1 : ∀ w ∈ wsX10, w ∈ wsX1_load := fun _ h => List.mem_cons_of_mem _ (List.mem_append_right _ h)
  have k1 := hts (.fieldLink RX1 9 "BoatsOfPaper$Boat" "l" "I") (List.mem_of_getElem? (i := 1) rfl)
  have k2 := hts (.fieldLink RX1 15 "BoatsOfPaper$Boat" "w" "I") (List.mem_of_getElem? (i := 2) rfl)
  have hl : lv_has ls 5 [(0, .ref h0), (1, zi rm), (2, zi wt)] := hl
  obtain ⟨q1, q2, q3, q4, q5, q6, q7, q8, q9, qc⟩ := id hB
  have b1 := load_bd (bl := bl) (bw := bw) (bt := bt) (rm := rm) (by omega) (by omega) (by omega) hq
  refine lv_aload_n hx hb dX1_load_0 rfl (lv_at hl 0 rfl) ?_
  refine va_get hx hb hts hinX1 hown hK hPr 0 rfl rfl 0 (by decide) k1 (fun _ h => h) rfl dX1_load_1 ?_
  refine z_iconst hx hb dX1_load_4 ?_
  refine lv_iload_n hx hb dX1_load_5 rfl (lv_at hl 1 rfl) ?_
  refine z_imul hx hb dX1_load_6 ?_
  refine z_isub hx hb dX1_load_7 ?_
  refine lv_aload_n hx hb dX1_load_8 rfl (lv_at hl 0 rfl) ?_
  refine va_get hx hb hts hinX1 hown hK hPr 0 rfl rfl 1 (by decide) k2 (fun _ h => h) rfl dX1_load_9 ?_
  refine z_iconst hx hb dX1_load_12 ?_
  refine lv_iload_n hx hb dX1_load_13 rfl (lv_at hl 1 rfl) ?_
  refine z_imul hx hb dX1_load_14 ?_
  refine z_isub hx hb dX1_load_15 ?_
  refine z_imul hx hb dX1_load_16 ?_
  refine lv_istore_n (lv' := [(3, zi ((bl - (2 * rm)) * (bw - (2 * rm)))), (0, .ref h0), (1, zi rm), (2, zi wt)]) hx hb dX1_load_17 rfl hl (by decide) rfl (fun ls hl => ?_)
  refine z_bipush hx hb dX1_load_18 (by decide) ?_
  refine lv_iload_n hx hb dX1_load_20 rfl (lv_at hl 0 rfl) ?_
  refine z_imul hx hb dX1_load_21 ?_
  refine lv_iload_n hx hb dX1_load_22 rfl (lv_at hl 2 rfl) ?_
  refine z_imul hx hb dX1_load_23 ?_
  refine lv_aload_n hx hb dX1_load_24 rfl (lv_at hl 1 rfl) ?_
  refine z_pV (As := []) (rest := [zi ((100 * ((bl - (2 * rm)) * (bw - (2 * rm)))) * rm)]) hC (c_X1_weightEmpty l D y h0 a1 a2 a3 bl bw bt bh bd bx bn CI CJ CW (by first | assumption | omega)) (cwV 0 hts gX1_load_X1_weightEmpty rfl rfl rfl (by decide +kernel) ⟨Nat.le_of_ble_eq_true rfl, Nat.le_of_ble_eq_true rfl⟩) hG (hPr.sub (ws' := [(h0, .inr (1, [zi bl, zi bw, zi bt, zi bh, zi bd, zi bx, zi bn, .ref a1, .ref a2, .ref a3])), (a1, .inl (y 0, 8, .inl (cI CI))), (a2, .inl (y 0, 8, .inl (cI CJ))), (a3, .inl (y 0, 8, .inl (cI CW)))]) [0, 1, 2, 3] rfl) 0 rfl rfl rfl hl.1 rfl (Nat.le_of_ble_eq_true rfl) dX1_load_25 ⟨Nat.le_of_ble_eq_true rfl, Nat.le_of_ble_eq_true rfl⟩ ?_
  refine z_isub hx hb dX1_load_28 ?_
  refine lv_istore (lv' := [(4, zi (((100 * ((bl - (2 * rm)) * (bw - (2 * rm)))) * rm) - (bl * bw * bt))), (3, zi ((bl - (2 * rm)) * (bw - (2 * rm)))), (0, .ref h0), (1, zi rm), (2, zi wt)]) hx hb dX1_load_29 hl (by decide) rfl (fun ls hl => ?_)
  refine lv_iload hx hb dX1_load_31 (lv_at hl 0 rfl) ?_
  refine z_if_lt (tgt := 41) hx hb (by omega) dX1_load_33 (by decide) (fun c_33 => ?_) (fun c_33 => ?_)
  ·
    refine z_iconst hx hb dX1_load_41 ?_
    exact z_iret0 hx hb hr hlocks ((if_pos (by omega)).symm) dX1_load_42
  ·
    refine lv_iload_n hx hb dX1_load_36 rfl (lv_at hl 4 rfl) ?_
    refine z_iconst hx hb dX1_load_37 ?_
    refine z_icmp_ge (tgt := 43) hx hb (by omega) (by omega) dX1_load_38 (by decide) (fun c_38 => ?_) (fun c_38 => ?_)
    ·
      refine lv_iload hx hb dX1_load_43 (lv_at hl 0 rfl) ?_
      refine lv_iload_n hx hb dX1_load_45 rfl (lv_at hl 4 rfl) ?_
      refine z_idiv hx hb (by omega) dX1_load_46 ?_
      exact z_iret0 hx hb hr hlocks ((if_neg (by omega)).symm) dX1_load_47
    ·
      refine z_iconst hx hb dX1_load_41 ?_
      exact z_iret0 hx hb hr hlocks ((if_pos (by omega)).symm) dX1_load_42
set_option maxHeartbeats 8000000 in
set_option maxRecDepth 100000 in
theorem c_X1_strongestRim (l : Launch) (D : va_G) (y : Nat → ClassId) (h0 : Nat) (a1 : Nat) (a2 : Nat) (a3 : Nat) (bl : Int) (bw : Int) (bt : Int) (bh : Int) (bd : Int) (bx : Int) (bn : Int) (CI : Int → Int) (CJ : Int → Int) (CW : Int → Int) (wt : Int) (hB : bOK bl bw bt bh bd bx bn CI CJ CW) (hwt : 1 ≤ wt ∧ wt ≤ 99) : Met l yX1_strongestRim wsX1_strongestRim ({ frames := 2, cells := 0, slots := 0, locals := 44 } : Room) (pPc D y [(h0, .inr (1, [zi bl, zi bw, zi bt, zi bh, zi bd, zi bx, zi bn, .ref a1, .ref a2, .ref a3])), (a1, .inl (y 0, 8, .inl (cI CI))), (a2, .inl (y 0, 8, .inl (cI CJ))), (a3, .inl (y 0, 8, .inl (cI CW)))] [.ref h0, zi wt]) (qV (zi (rimV (fun r => loadV bl bw bt r wt) bl bw))) 0 0 (fun _ => False) := by
  refine P_of (own := RX1) (cc := cX1_strongestRim) (maxL := 4) (ret := some .int) (by decide) rfl rfl (Nat.le_of_ble_eq_true rfl) (fun p e s m below meth c ls hx hb hr hC hlocks hPr hG hl => ?_)
  have hC0 := hC
  obtain ⟨-, -, hml, hown, hts⟩ := hC0
  have hK := hG.1
  have hinX1 : ∀ w ∈ wsX10, w ∈ wsX1_strongestRim := fun _ h => List.mem_cons_of_mem _ (List.mem_append_right _ h)
  have k1 := hts (.fieldLink RX1 9 "BoatsOfPaper$Boat" "l" "I") (List.mem_of_getElem? (i := 1) rfl)
  have k2 := hts (.fieldLink RX1 15 "BoatsOfPaper$Boat" "w" "I") (List.mem_of_getElem? (i := 2) rfl)
  have k3 := hts (.static yX11_canFold) (List.mem_of_getElem? (i := 3) rfl)
  have k4 := hts (.initialized RX11) (List.mem_of_getElem? (i := 4) rfl)
  have hl : lv_has ls 4 [(0, .ref h0), (1, zi wt)] := hl
  obtain ⟨q1, q2, q3, q4, q5, q6, q7, q8, q9, qc⟩ := id hB
  refine z_iconst hx hb dX1_strongestRim_0 ?_
  refine lv_istore_n (lv' := [(2, zi 1), (0, .ref h0), (1, zi wt)]) hx hb dX1_strongestRim_1 rfl hl (by decide) rfl (fun ls hl => ?_)
  refine z_iconst hx hb dX1_strongestRim_2 ?_
  refine lv_istore_n (lv' := [(3, zi 2), (2, zi 1), (0, .ref h0), (1, zi wt)]) hx hb dX1_strongestRim_3 rfl hl (by decide) rfl (fun ls hl => ?_)
  refine z_loop (σ := Int × Int) (fun x9 H lc ls => match x9 with | (v, k) => (2 ≤ k ∧ k ≤ (min bl bw - 1) / 2 + 1 ∧ v = rimF (fun r => loadV bl bw bt r wt) (k - 2).toNat) ∧ lv_has ls 4 [(3, zi k), (2, zi v), (0, .ref h0), (1, zi wt)] ∧ H = s.heap ∧ lc = []) (fun x9  => match x9 with | (v, k) => ((10 - k).toNat)) ?_ (1, 2) ⟨⟨by omega, by omega, rfl⟩, lv_sub hl [0, 1, 2, 3] rfl, rfl, rfl⟩
  rintro ⟨v, k⟩ H lc ls ⟨hi4, hl, rfl, rfl⟩ ih4
  have b1 := rimF_bd (fun r => loadV bl bw bt r wt) (k - 2).toNat
  refine lv_iload_n hx hb dX1_strongestRim_4 rfl (lv_at hl 0 rfl) ?_
  refine z_bipush hx hb dX1_strongestRim_5 (by decide) ?_
  refine z_icmp_gt (tgt := 48) hx hb (by omega) (by omega) dX1_strongestRim_7 (by decide) (fun c_7 => ?_) (fun c_7 => ?_)
  ·
    refine lv_iload_n hx hb dX1_strongestRim_48 rfl (lv_at hl 1 rfl) ?_
    exact z_iret0 hx hb hr hlocks (hi4.2.2.trans (by rw [show k = (min bl bw - 1) / 2 + 1 by omega]; unfold rimV; congr 2; omega)) dX1_strongestRim_49
  ·
    refine lv_aload_n hx hb dX1_strongestRim_10 rfl (lv_at hl 2 rfl) ?_
    refine va_get hx hb hts hinX1 hown hK hPr 0 rfl rfl 0 (by decide) k1 (fun _ h => h) rfl dX1_strongestRim_11 ?_
    refine lv_aload_n hx hb dX1_strongestRim_14 rfl (lv_at hl 2 rfl) ?_
    refine va_get hx hb hts hinX1 hown hK hPr 0 rfl rfl 1 (by decide) k2 (fun _ h => h) rfl dX1_strongestRim_15 ?_
    refine lv_iload_n hx hb dX1_strongestRim_18 rfl (lv_at hl 0 rfl) ?_
    refine z_pSN (As := [zi bl, zi bw, zi k]) (rest := []) hC (c_X11_canFold l D y bl bw k (by first | assumption | omega)) ⟨va_cnB (host := RX11) 3 hts gX1_strongestRim_X11_canFold_n115 rfl rfl rfl (hG.2.1 (RX1, 115, yX11_canFold, RX11) (by decide +kernel)) (k4) (by decide +kernel) ⟨Nat.le_of_ble_eq_true rfl, Nat.le_of_ble_eq_true rfl⟩, k3, trivial⟩ hG va_P_nil rfl hl.1 rfl (Nat.le_of_ble_eq_true rfl) dX1_strongestRim_19 ⟨Nat.le_of_ble_eq_true rfl, Nat.le_of_ble_eq_true rfl⟩ ?_
    refine z_ifB_eq (tgt := 48) hx hb dX1_strongestRim_22 (by decide) (fun c_22 => ?_) (fun c_22 => ?_)
    ·
      refine lv_iload_n hx hb dX1_strongestRim_48 rfl (lv_at hl 1 rfl) ?_
      exact z_iret0 hx hb hr hlocks (hi4.2.2.trans (by rw [show k = (min bl bw - 1) / 2 + 1 by omega]; unfold rimV; congr 2; omega)) dX1_strongestRim_49
    ·
      refine lv_aload_n hx hb dX1_strongestRim_25 rfl (lv_at hl 2 rfl) ?_
      refine lv_iload_n hx hb dX1_strongestRim_26 rfl (lv_at hl 0 rfl) ?_
      refine lv_iload_n hx hb dX1_strongestRim_27 rfl (lv_at hl 3 rfl) ?_
      have b3 := load_bd2 (bl := bl) (bw := bw) (bt := bt) (wt := wt) (rm := k) (by omega) (by omega) (by omega) (by omega) hwt
      refine z_pV (As := [zi k, zi wt]) (rest := []) hC (c_X1_load l D y h0 a1 a2 a3 bl bw bt bh bd bx bn CI CJ CW k wt (by first | assumption | omega) (by first | assumption | omega) (by first | assumption | omega)) (cwV 2 hts gX1_strongestRim_X1_load rfl rfl rfl (by decide +kernel) ⟨Nat.le_of_ble_eq_true rfl, Nat.le_of_ble_eq_true rfl⟩) hG (hPr.sub (ws' := [(h0, .inr (1, [zi bl, zi bw, zi bt, zi bh, zi bd, zi bx, zi bn, .ref a1, .ref a2, .ref a3])), (a1, .inl (y 0, 8, .inl (cI CI))), (a2, .inl (y 0, 8, .inl (cI CJ))), (a3, .inl (y 0, 8, .inl (cI CW)))]) [0, 1, 2, 3] rfl) 0 rfl rfl rfl hl.1 rfl (Nat.le_of_ble_eq_true rfl) dX1_strongestRim_28 ⟨Nat.le_of_ble_eq_true rfl, Nat.le_of_ble_eq_true rfl⟩ ?_
      refine lv_aload_n hx hb dX1_strongestRim_31 rfl (lv_at hl 2 rfl) ?_
      refine lv_iload_n hx hb dX1_strongestRim_32 rfl (lv_at hl 1 rfl) ?_
      refine lv_iload_n hx hb dX1_strongestRim_33 rfl (lv_at hl 3 rfl) ?_
      have b4 := load_bd2 (bl := bl) (bw := bw) (bt := bt) (wt := wt) (rm := v) (by omega) (by omega) (by omega) (by omega) hwt
      refine z_pV (As := [zi v, zi wt]) (rest := [zi (loadV bl bw bt k wt)]) hC (c_X1_load l D y h0 a1 a2 a3 bl bw bt bh bd bx bn CI CJ CW v wt (by first | assumption | omega) (by first | assumption | omega) (by first | assumption | omega)) (cwV 2 hts gX1_strongestRim_X1_load rfl rfl rfl (by decide +kernel) ⟨Nat.le_of_ble_eq_true rfl, Nat.le_of_ble_eq_true rfl⟩) hG (hPr.sub (ws' := [(h0, .inr (1, [zi bl, zi bw, zi bt, zi bh, zi bd, zi bx, zi bn, .ref a1, .ref a2, .ref a3])), (a1, .inl (y 0, 8, .inl (cI CI))), (a2, .inl (y 0, 8, .inl (cI CJ))), (a3, .inl (y 0, 8, .inl (cI CW)))]) [0, 1, 2, 3] rfl) 0 rfl rfl rfl hl.1 rfl (Nat.le_of_ble_eq_true rfl) dX1_strongestRim_34 ⟨Nat.le_of_ble_eq_true rfl, Nat.le_of_ble_eq_true rfl⟩ ?_
      refine z_icmp_le (tgt := 42) hx hb (by omega) (by omega) dX1_strongestRim_37 (by decide) (fun c_37 => ?_) (fun c_37 => ?_)
      ·
        refine z_iinc (k := 0) (lv' := [(3, zi (k + 1)), (2, zi v), (0, .ref h0), (1, zi wt)]) hx hb dX1_strongestRim_42 hl rfl (by decide) rfl (fun ls hl => ?_)
        refine lv_goto (tgt := 4) hx hb dX1_strongestRim_45 (by decide) ?_
        exact ih4 (v, k + 1) _ _ _ (by first | (dsimp only; omega) | omega) ⟨⟨by omega, by omega, by rw [rimF_s _ (by omega), ← hi4.2.2]; first | exact (if_pos (by omega)).symm | exact (if_neg (by omega)).symm⟩, lv_sub hl [0, 1, 2, 3] rfl, rfl, rfl⟩
      ·
        refine lv_iload_n hx hb dX1_strongestRim_40 rfl (lv_at hl 0 rfl) ?_
        refine lv_istore_n (lv' := [(2, zi k), (3, zi k), (0, .ref h0), (1, zi wt)]) hx hb dX1_strongestRim_41 rfl hl (by decide) rfl (fun ls hl => ?_)
        refine z_iinc (k := 1) (lv' := [(3, zi (k + 1)), (2, zi k), (0, .ref h0), (1, zi wt)]) hx hb dX1_strongestRim_42 hl rfl (by decide) rfl (fun ls hl => ?_)
        refine lv_goto (tgt := 4) hx hb dX1_strongestRim_45 (by decide) ?_
        exact ih4 (k, k + 1) _ _ _ (by first | (dsimp only; omega) | omega) ⟨⟨by omega, by omega, by rw [rimF_s _ (by omega), ← hi4.2.2]; first | exact (if_pos (by omega)).symm | exact (if_neg (by omega)).symm⟩, lv_sub hl [0, 1, 2, 3] rfl, rfl, rfl⟩
