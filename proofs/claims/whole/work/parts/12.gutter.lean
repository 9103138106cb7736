set_option maxHeartbeats 8000000 in
set_option maxRecDepth 100000 in
theorem c_X6_kindOf (l : Launch) (D : va_G) (y : Nat → ClassId) (kb : Int) (hq : rI kb) : Met l yX6_kindOf wsX6_kindOf ({ frames := 0, cells := 0, slots := 0, locals := 0 } : Room) (pPc D y [] [zi kb]) (qV (zi (kindV kb))) 0 0 (fun _ => False) := by
  refine P_of (own := RX6) (cc := cX6_kindOf) (maxL := 1) (ret := some .int) (by decide) rfl rfl (Nat.le_of_ble_eq_true rfl) (fun p e s m below meth c ls hx hb hr hC hlocks hPr hG hl => ?_)
  have hC0 := hC
  obtain ⟨-, -, hml, hown, hts⟩ := hC0
  have hK := hG.1
  have hl : lv_has ls 1 [(0, zi kb)] := hl
  refine lv_iload_n hx hb dX6_kindOf_0 rfl (lv_at hl 0 rfl) ?_
  refine z_bipush hx hb dX6_kindOf_1 (by decide) ?_
  refine z_icmp_lt (tgt := 17) hx hb (by omega) (by omega) dX6_kindOf_3 (by decide) (fun c_3 => ?_) (fun c_3 => ?_)
  ·
    refine lv_iload_n hx hb dX6_kindOf_17 rfl (lv_at hl 0 rfl) ?_
    by_cases c18_0 : kb = 68
    · refine z_lookup (off := 37) (tgt := 55) hx hb (by omega) dX6_kindOf_18 rfl (by rw [c18_0]; rfl) (by decide) ?_
      refine z_bipush hx hb dX6_kindOf_55 (by decide) ?_
      exact z_iret0 hx hb hr hlocks (by unfold kindV; (repeat' split) <;> omega) dX6_kindOf_57
    by_cases c18_1 : kb = 76
    · refine z_lookup (off := 34) (tgt := 52) hx hb (by omega) dX6_kindOf_18 rfl (by rw [c18_1]; rfl) (by decide) ?_
      refine z_bipush hx hb dX6_kindOf_52 (by decide) ?_
      exact z_iret0 hx hb hr hlocks (by unfold kindV; (repeat' split) <;> omega) dX6_kindOf_54
    by_cases c18_2 : kb = 87
    · refine z_lookup (off := 40) (tgt := 58) hx hb (by omega) dX6_kindOf_18 rfl (by rw [c18_2]; rfl) (by decide) ?_
      refine z_bipush hx hb dX6_kindOf_58 (by decide) ?_
      exact z_iret0 hx hb hr hlocks (by unfold kindV; (repeat' split) <;> omega) dX6_kindOf_60
    have nc18_0 : ¬ (68 : Int) = kb := fun h => c18_0 h.symm
    have nc18_1 : ¬ (76 : Int) = kb := fun h => c18_1 h.symm
    have nc18_2 : ¬ (87 : Int) = kb := fun h => c18_2 h.symm
    refine z_lookup (off := 43) (tgt := 61) hx hb (by omega) dX6_kindOf_18 rfl (by simp [Op.lookupswitch.offset, nc18_0, nc18_1, nc18_2]) (by decide) ?_
    refine z_iconst hx hb dX6_kindOf_61 ?_
    exact z_iret0 hx hb hr hlocks (by unfold kindV; (repeat' split) <;> omega) dX6_kindOf_62
  ·
    refine lv_iload_n hx hb dX6_kindOf_6 rfl (lv_at hl 0 rfl) ?_
    refine z_bipush hx hb dX6_kindOf_7 (by decide) ?_
    refine z_icmp_gt (tgt := 17) hx hb (by omega) (by omega) dX6_kindOf_9 (by decide) (fun c_9 => ?_) (fun c_9 => ?_)
    ·
      refine lv_iload_n hx hb dX6_kindOf_17 rfl (lv_at hl 0 rfl) ?_
      by_cases c18_0 : kb = 68
      · refine z_lookup (off := 37) (tgt := 55) hx hb (by omega) dX6_kindOf_18 rfl (by rw [c18_0]; rfl) (by decide) ?_
        refine z_bipush hx hb dX6_kindOf_55 (by decide) ?_
        exact z_iret0 hx hb hr hlocks (by unfold kindV; (repeat' split) <;> omega) dX6_kindOf_57
      by_cases c18_1 : kb = 76
      · refine z_lookup (off := 34) (tgt := 52) hx hb (by omega) dX6_kindOf_18 rfl (by rw [c18_1]; rfl) (by decide) ?_
        refine z_bipush hx hb dX6_kindOf_52 (by decide) ?_
        exact z_iret0 hx hb hr hlocks (by unfold kindV; (repeat' split) <;> omega) dX6_kindOf_54
      by_cases c18_2 : kb = 87
      · refine z_lookup (off := 40) (tgt := 58) hx hb (by omega) dX6_kindOf_18 rfl (by rw [c18_2]; rfl) (by decide) ?_
        refine z_bipush hx hb dX6_kindOf_58 (by decide) ?_
        exact z_iret0 hx hb hr hlocks (by unfold kindV; (repeat' split) <;> omega) dX6_kindOf_60
      have nc18_0 : ¬ (68 : Int) = kb := fun h => c18_0 h.symm
      have nc18_1 : ¬ (76 : Int) = kb := fun h => c18_1 h.symm
      have nc18_2 : ¬ (87 : Int) = kb := fun h => c18_2 h.symm
      refine z_lookup (off := 43) (tgt := 61) hx hb (by omega) dX6_kindOf_18 rfl (by simp [Op.lookupswitch.offset, nc18_0, nc18_1, nc18_2]) (by decide) ?_
      refine z_iconst hx hb dX6_kindOf_61 ?_
      exact z_iret0 hx hb hr hlocks (by unfold kindV; (repeat' split) <;> omega) dX6_kindOf_62
    ·
      refine lv_iload_n hx hb dX6_kindOf_12 rfl (lv_at hl 0 rfl) ?_
      refine z_bipush hx hb dX6_kindOf_13 (by decide) ?_
      refine z_isub hx hb dX6_kindOf_15 ?_
      exact z_iret0 hx hb hr hlocks (by unfold kindV; (repeat' split) <;> omega) dX6_kindOf_16
set_option maxHeartbeats 8000000 in
set_option maxRecDepth 100000 in
theorem c_X6_hasLane (l : Launch) (D : va_G) (y : Nat → ClassId) (g0 : Nat) (ga : Nat) (gl : Int) (gp : Int) (gx : Int) (gy : Int) (GK : Int → Int) (la : Int) (hg : gOK gl gp gx gy GK) (hla : rI la) : Met l yX6_hasLane wsX6_hasLane ({ frames := 0, cells := 0, slots := 0, locals := 0 } : Room) (pPc D y [(g0, .inr (5, [.ref ga, zi gl, zi gp, zi gx, zi gy])), (ga, .inl (y 0, 36, .inl (cI GK)))] [.ref g0, zi la]) (qV (zi (bI (0 ≤ la ∧ la < gl)))) 0 0 (fun _ => False) := by
  refine P_of (own := RX6) (cc := cX6_hasLane) (maxL := 2) (ret := some .boolean) (by decide) rfl rfl (Nat.le_of_ble_eq_true rfl) (fun p e s m below meth c ls hx hb hr hC hlocks hPr hG hl => ?_)
  have hC0 := hC
  obtain ⟨-, -, hml, hown, hts⟩ := hC0
  have hK := hG.1
  have hinX6 : ∀ w ∈ wsX60, w ∈ wsX6_hasLane := fun _ h => List.mem_cons_of_mem _ (List.mem_append_right _ h)
  have k1 := hts (.fieldLink RX6 15 "BoatsOfPaper$Gutter" "lanes" "I") (List.mem_of_getElem? (i := 1) rfl)
  have hl : lv_has ls 2 [(0, .ref g0), (1, zi la)] := hl
  obtain ⟨u1, u2, u3, u4, uk⟩ := id hg
  refine lv_iload_n hx hb dX6_hasLane_0 rfl (lv_at hl 1 rfl) ?_
  refine z_if_lt (tgt := 16) hx hb (by omega) dX6_hasLane_1 (by decide) (fun c_1 => ?_) (fun c_1 => ?_)
  ·
    refine z_iconst hx hb dX6_hasLane_16 ?_
    exact z_zret0 hx hb hr hlocks (by omega) (by first | exact (bI_t (by omega)).symm | exact (bI_f (by omega)).symm) dX6_hasLane_17
  ·
    refine lv_iload_n hx hb dX6_hasLane_4 rfl (lv_at hl 1 rfl) ?_
    refine lv_aload_n hx hb dX6_hasLane_5 rfl (lv_at hl 0 rfl) ?_
    refine va_get hx hb hts hinX6 hown hK hPr 0 rfl rfl 1 (by decide) k1 (fun _ h => h) rfl dX6_hasLane_6 ?_
    refine z_icmp_ge (tgt := 16) hx hb (by omega) (by omega) dX6_hasLane_9 (by decide) (fun c_9 => ?_) (fun c_9 => ?_)
    ·
      refine z_iconst hx hb dX6_hasLane_16 ?_
      exact z_zret0 hx hb hr hlocks (by omega) (by first | exact (bI_t (by omega)).symm | exact (bI_f (by omega)).symm) dX6_hasLane_17
    ·
      refine z_iconst hx hb dX6_hasLane_12 ?_
      refine lv_goto (tgt := 17) hx hb dX6_hasLane_13 (by decide) ?_
      exact z_zret0 hx hb hr hlocks (by omega) (by first | exact (bI_t (by omega)).symm | exact (bI_f (by omega)).symm) dX6_hasLane_17
set_option maxHeartbeats 8000000 in
set_option maxRecDepth 100000 in
theorem c_X6_has (l : Launch) (D : va_G) (y : Nat → ClassId) (g0 : Nat) (ga : Nat) (gl : Int) (gp : Int) (gx : Int) (gy : Int) (GK : Int → Int) (la : Int) (pl : Int) (hg : gOK gl gp gx gy GK) (hla : rI la) (hpl : rI pl) : Met l yX6_has wsX6_has ({ frames := 1, cells := 0, slots := 0, locals := 21 } : Room) (pPc D y [(g0, .inr (5, [.ref ga, zi gl, zi gp, zi gx, zi gy])), (ga, .inl (y 0, 36, .inl (cI GK)))] [.ref g0, zi la, zi pl]) (qV (zi (bI (0 ≤ la ∧ la < gl ∧ 0 ≤ pl ∧ pl < gp)))) 0 0 (fun _ => False) := by
  refine P_of (own := RX6) (cc := cX6_has) (maxL := 3) (ret := some .boolean) (by decide) rfl rfl (Nat.le_of_ble_eq_true rfl) (fun p e s m below meth c ls hx hb hr hC hlocks hPr hG hl => ?_)
  have hC0 := hC
  obtain ⟨-, -, hml, hown, hts⟩ := hC0
  have hK := hG.1
  have hinX6 : ∀ w ∈ wsX60, w ∈ wsX6_has := fun _ h => List.mem_cons_of_mem _ (List.mem_append_right _ h)
  have k1 := hts (.fieldLink RX6 19 "BoatsOfPaper$Gutter" "places" "I") (List.mem_of_getElem? (i := 1) rfl)
  have hl : lv_has ls 3 [(0, .ref g0), (1, zi la), (2, zi pl)] := hl
  obtain ⟨u1, u2, u3, u4, uk⟩ := id hg
  refine lv_aload_n hx hb dX6_has_0 rfl (lv_at hl 0 rfl) ?_
  refine lv_iload_n hx hb dX6_has_1 rfl (lv_at hl 1 rfl) ?_
  refine z_pV (As := [zi la]) (rest := []) hC (c_X6_hasLane l D y g0 ga gl gp gx gy GK la (by first | assumption | omega) (by first | assumption | omega)) (cwV 1 hts gX6_has_X6_hasLane rfl rfl rfl (by decide +kernel) ⟨Nat.le_of_ble_eq_true rfl, Nat.le_of_ble_eq_true rfl⟩) hG (hPr.sub (ws' := [(g0, .inr (5, [.ref ga, zi gl, zi gp, zi gx, zi gy])), (ga, .inl (y 0, 36, .inl (cI GK)))]) [0, 1] rfl) 0 rfl rfl rfl hl.1 rfl (Nat.le_of_ble_eq_true rfl) dX6_has_2 ⟨Nat.le_of_ble_eq_true rfl, Nat.le_of_ble_eq_true rfl⟩ ?_
  refine z_ifB_eq (tgt := 24) hx hb dX6_has_5 (by decide) (fun c_5 => ?_) (fun c_5 => ?_)
  ·
    refine z_iconst hx hb dX6_has_24 ?_
    exact z_zret0 hx hb hr hlocks (by omega) (by first | exact (bI_t (by omega)).symm | exact (bI_f (by omega)).symm) dX6_has_25
  ·
    refine lv_iload_n hx hb dX6_has_8 rfl (lv_at hl 2 rfl) ?_
    refine z_if_lt (tgt := 24) hx hb (by omega) dX6_has_9 (by decide) (fun c_9 => ?_) (fun c_9 => ?_)
    ·
      refine z_iconst hx hb dX6_has_24 ?_
      exact z_zret0 hx hb hr hlocks (by omega) (by first | exact (bI_t (by omega)).symm | exact (bI_f (by omega)).symm) dX6_has_25
    ·
      refine lv_iload_n hx hb dX6_has_12 rfl (lv_at hl 2 rfl) ?_
      refine lv_aload_n hx hb dX6_has_13 rfl (lv_at hl 0 rfl) ?_
      refine va_get hx hb hts hinX6 hown hK hPr 0 rfl rfl 2 (by decide) k1 (fun _ h => h) rfl dX6_has_14 ?_
      refine z_icmp_ge (tgt := 24) hx hb (by omega) (by omega) dX6_has_17 (by decide) (fun c_17 => ?_) (fun c_17 => ?_)
      ·
        refine z_iconst hx hb dX6_has_24 ?_
        exact z_zret0 hx hb hr hlocks (by omega) (by first | exact (bI_t (by omega)).symm | exact (bI_f (by omega)).symm) dX6_has_25
      ·
        refine z_iconst hx hb dX6_has_20 ?_
        refine lv_goto (tgt := 25) hx hb dX6_has_21 (by decide) ?_
        exact z_zret0 hx hb hr hlocks (by omega) (by first | exact (bI_t (by omega)).symm | exact (bI_f (by omega)).symm) dX6_has_25
set_option maxHeartbeats 8000000 in
set_option maxRecDepth 100000 in
theorem c_X6_kindAt (l : Launch) (D : va_G) (y : Nat → ClassId) (g0 : Nat) (ga : Nat) (gl : Int) (gp : Int) (gx : Int) (gy : Int) (GK : Int → Int) (la : Int) (pl : Int) (hg : gOK gl gp gx gy GK) (hla : rI la) (hpl : rI pl) : Met l yX6_kindAt wsX6_kindAt ({ frames := 2, cells := 0, slots := 0, locals := 43 } : Room) (pPc D y [(g0, .inr (5, [.ref ga, zi gl, zi gp, zi gx, zi gy])), (ga, .inl (y 0, 36, .inl (cI GK)))] [.ref g0, zi la, zi pl]) (qV (zi (kAt gl gp GK la pl))) 0 0 (fun _ => False) := by
  refine P_of (own := RX6) (cc := cX6_kindAt) (maxL := 3) (ret := some .int) (by decide) rfl rfl (Nat.le_of_ble_eq_true rfl) (fun p e s m below meth c ls hx hb hr hC hlocks hPr hG hl => ?_)
  have hC0 := hC
  obtain ⟨-, -, hml, hown, hts⟩ := hC0
  have hK := hG.1
  have hinX6 : ∀ w ∈ wsX60, w ∈ wsX6_kindAt := fun _ h => List.mem_cons_of_mem _ (List.mem_append_right _ h)
  have k1 := hts (.fieldLink RX6 9 "BoatsOfPaper$Gutter" "kinds" "[I") (List.mem_of_getElem? (i := 1) rfl)
  have hl : lv_has ls 3 [(0, .ref g0), (1, zi la), (2, zi pl)] := hl
  obtain ⟨u1, u2, u3, u4, uk⟩ := id hg
  refine lv_aload_n hx hb dX6_kindAt_0 rfl (lv_at hl 0 rfl) ?_
  refine lv_iload_n hx hb dX6_kindAt_1 rfl (lv_at hl 1 rfl) ?_
  refine lv_iload_n hx hb dX6_kindAt_2 rfl (lv_at hl 2 rfl) ?_
  refine z_pV (As := [zi la, zi pl]) (rest := []) hC (c_X6_has l D y g0 ga gl gp gx gy GK la pl (by first | assumption | omega) (by first | assumption | omega) (by first | assumption | omega)) (cwV 2 hts gX6_kindAt_X6_has rfl rfl rfl (by decide +kernel) ⟨Nat.le_of_ble_eq_true rfl, Nat.le_of_ble_eq_true rfl⟩) hG (hPr.sub (ws' := [(g0, .inr (5, [.ref ga, zi gl, zi gp, zi gx, zi gy])), (ga, .inl (y 0, 36, .inl (cI GK)))]) [0, 1] rfl) 0 rfl rfl rfl hl.1 rfl (Nat.le_of_ble_eq_true rfl) dX6_kindAt_3 ⟨Nat.le_of_ble_eq_true rfl, Nat.le_of_ble_eq_true rfl⟩ ?_
  refine z_ifB_ne (tgt := 12) hx hb dX6_kindAt_6 (by decide) (fun c_6 => ?_) (fun c_6 => ?_)
  ·
    refine lv_aload_n hx hb dX6_kindAt_12 rfl (lv_at hl 0 rfl) ?_
    refine va_get hx hb hts hinX6 hown hK hPr 0 rfl rfl 0 (by decide) k1 (fun _ h => h) rfl dX6_kindAt_13 ?_
    refine lv_iload_n hx hb dX6_kindAt_16 rfl (lv_at hl 1 rfl) ?_
    refine z_bipush hx hb dX6_kindAt_17 (by decide) ?_
    refine z_imul hx hb dX6_kindAt_19 ?_
    refine lv_iload_n hx hb dX6_kindAt_20 rfl (lv_at hl 2 rfl) ?_
    refine z_iadd hx hb dX6_kindAt_21 ?_
    refine z_iald hx hb hK hPr 1 0 rfl rfl (by omega) (by decide) dX6_kindAt_22 ?_
    exact z_iret0 hx hb hr hlocks (by rw [show la * 12 + pl = 12 * la + pl by omega]; exact (if_pos (by omega)).symm) dX6_kindAt_23
  ·
    refine z_bipush hx hb dX6_kindAt_9 (by decide) ?_
    exact z_iret0 hx hb hr hlocks ((if_neg (by omega)).symm) dX6_kindAt_11
set_option maxHeartbeats 8000000 in
set_option maxRecDepth 100000 in
theorem c_X6_secondsAt (l : Launch) (D : va_G) (y : Nat → ClassId) (g0 : Nat) (ga : Nat) (gl : Int) (gp : Int) (gx : Int) (gy : Int) (GK : Int → Int) (la : Int) (pl : Int) (hg : gOK gl gp gx gy GK) (hla : rI la) (hpl : rI pl) : Met l yX6_secondsAt wsX6_secondsAt ({ frames := 3, cells := 0, slots := 0, locals := 65 } : Room) (pPc D y [(g0, .inr (5, [.ref ga, zi gl, zi gp, zi gx, zi gy])), (ga, .inl (y 0, 36, .inl (cI GK)))] [.ref g0, zi la, zi pl]) (qV (zi (secV (kAt gl gp GK la pl)))) 0 0 (fun _ => False) := by
  refine P_of (own := RX6) (cc := cX6_secondsAt) (maxL := 4) (ret := some .int) (by decide) rfl rfl (Nat.le_of_ble_eq_true rfl) (fun p e s m below meth c ls hx hb hr hC hlocks hPr hG hl => ?_)
  have hC0 := hC
  obtain ⟨-, -, hml, hown, hts⟩ := hC0
  have hK := hG.1
  have hl : lv_has ls 4 [(0, .ref g0), (1, zi la), (2, zi pl)] := hl
  obtain ⟨u1, u2, u3, u4, uk⟩ := id hg
  have b1 := kAt_bd hg la pl
  refine lv_aload_n hx hb dX6_secondsAt_0 rfl (lv_at hl 0 rfl) ?_
  refine lv_iload_n hx hb dX6_secondsAt_1 rfl (lv_at hl 1 rfl) ?_
  refine lv_iload_n hx hb dX6_secondsAt_2 rfl (lv_at hl 2 rfl) ?_
  refine z_pV (As := [zi la, zi pl]) (rest := []) hC (c_X6_kindAt l D y g0 ga gl gp gx gy GK la pl (by first | assumption | omega) (by first | assumption | omega) (by first | assumption | omega)) (cwV 2 hts gX6_secondsAt_X6_kindAt rfl rfl rfl (by decide +kernel) ⟨Nat.le_of_ble_eq_true rfl, Nat.le_of_ble_eq_true rfl⟩) hG (hPr.sub (ws' := [(g0, .inr (5, [.ref ga, zi gl, zi gp, zi gx, zi gy])), (ga, .inl (y 0, 36, .inl (cI GK)))]) [0, 1] rfl) 0 rfl rfl rfl hl.1 rfl (Nat.le_of_ble_eq_true rfl) dX6_secondsAt_3 ⟨Nat.le_of_ble_eq_true rfl, Nat.le_of_ble_eq_true rfl⟩ ?_
  refine lv_istore_n (lv' := [(3, zi (kAt gl gp GK la pl)), (0, .ref g0), (1, zi la), (2, zi pl)]) hx hb dX6_secondsAt_6 rfl hl (by decide) rfl (fun ls hl => ?_)
  refine lv_iload_n hx hb dX6_secondsAt_7 rfl (lv_at hl 0 rfl) ?_
  by_cases c8_0 : kAt gl gp GK la pl = 10
  · refine lv_tableIn (off := 28) (tgt := 36) hx hb dX6_secondsAt_8 (by rw [iI_t (by omega), c8_0]; decide) (by rw [iI_t (by omega), c8_0]; decide) (by rw [iI_t (by omega), c8_0]; rfl) (by decide) ?_
    refine z_iconst hx hb dX6_secondsAt_36 ?_
    exact z_iret0 hx hb hr hlocks (by unfold secV; (repeat' split) <;> omega) dX6_secondsAt_37
  by_cases c8_1 : kAt gl gp GK la pl = 11
  · refine lv_tableIn (off := 30) (tgt := 38) hx hb dX6_secondsAt_8 (by rw [iI_t (by omega), c8_1]; decide) (by rw [iI_t (by omega), c8_1]; decide) (by rw [iI_t (by omega), c8_1]; rfl) (by decide) ?_
    refine z_iconst hx hb dX6_secondsAt_38 ?_
    exact z_iret0 hx hb hr hlocks (by unfold secV; (repeat' split) <;> omega) dX6_secondsAt_39
  by_cases c8_2 : kAt gl gp GK la pl = 12
  · refine lv_tableIn (off := 32) (tgt := 40) hx hb dX6_secondsAt_8 (by rw [iI_t (by omega), c8_2]; decide) (by rw [iI_t (by omega), c8_2]; decide) (by rw [iI_t (by omega), c8_2]; rfl) (by decide) ?_
    refine z_iconst hx hb dX6_secondsAt_40 ?_
    exact z_iret0 hx hb hr hlocks (by unfold secV; (repeat' split) <;> omega) dX6_secondsAt_41
  refine lv_tableOut (tgt := 42) hx hb dX6_secondsAt_8 (by rw [iI_t (by omega)]; omega) (by decide) ?_
  refine lv_iload_n hx hb dX6_secondsAt_42 rfl (lv_at hl 0 rfl) ?_
  exact z_iret0 hx hb hr hlocks (by unfold secV; (repeat' split) <;> omega) dX6_secondsAt_43
set_option maxHeartbeats 8000000 in
set_option maxRecDepth 100000 in
theorem c_X6_tenthsAcross (l : Launch) (D : va_G) (y : Nat → ClassId) (g0 : Nat) (ga : Nat) (gl : Int) (gp : Int) (gx : Int) (gy : Int) (GK : Int → Int) (la : Int) (pl : Int) (hg : gOK gl gp gx gy GK) (hla : rI la) (hpl : rI pl) : Met l yX6_tenthsAcross wsX6_tenthsAcross ({ frames := 3, cells := 0, slots := 0, locals := 65 } : Room) (pPc D y [(g0, .inr (5, [.ref ga, zi gl, zi gp, zi gx, zi gy])), (ga, .inl (y 0, 36, .inl (cI GK)))] [.ref g0, zi la, zi pl]) (qV (zi (acrV gx gy (kAt gl gp GK la pl)))) 0 0 (fun _ => False) := by
  refine P_of (own := RX6) (cc := cX6_tenthsAcross) (maxL := 3) (ret := some .int) (by decide) rfl rfl (Nat.le_of_ble_eq_true rfl) (fun p e s m below meth c ls hx hb hr hC hlocks hPr hG hl => ?_)
  have hC0 := hC
  obtain ⟨-, -, hml, hown, hts⟩ := hC0
  have hK := hG.1
  have hinX6 : ∀ w ∈ wsX60, w ∈ wsX6_tenthsAcross := fun _ h => List.mem_cons_of_mem _ (List.mem_append_right _ h)
  have k1 := hts (.fieldLink RX6 22 "BoatsOfPaper$Gutter" "leafTenths" "I") (List.mem_of_getElem? (i := 1) rfl)
  have k2 := hts (.fieldLink RX6 25 "BoatsOfPaper$Gutter" "drainTenths" "I") (List.mem_of_getElem? (i := 2) rfl)
  have hl : lv_has ls 3 [(0, .ref g0), (1, zi la), (2, zi pl)] := hl
  obtain ⟨u1, u2, u3, u4, uk⟩ := id hg
  have b1 := kAt_bd hg la pl
  refine lv_aload_n hx hb dX6_tenthsAcross_0 rfl (lv_at hl 0 rfl) ?_
  refine lv_iload_n hx hb dX6_tenthsAcross_1 rfl (lv_at hl 1 rfl) ?_
  refine lv_iload_n hx hb dX6_tenthsAcross_2 rfl (lv_at hl 2 rfl) ?_
  refine z_pV (As := [zi la, zi pl]) (rest := []) hC (c_X6_kindAt l D y g0 ga gl gp gx gy GK la pl (by first | assumption | omega) (by first | assumption | omega) (by first | assumption | omega)) (cwV 2 hts gX6_tenthsAcross_X6_kindAt rfl rfl rfl (by decide +kernel) ⟨Nat.le_of_ble_eq_true rfl, Nat.le_of_ble_eq_true rfl⟩) hG (hPr.sub (ws' := [(g0, .inr (5, [.ref ga, zi gl, zi gp, zi gx, zi gy])), (ga, .inl (y 0, 36, .inl (cI GK)))]) [0, 1] rfl) 0 rfl rfl rfl hl.1 rfl (Nat.le_of_ble_eq_true rfl) dX6_tenthsAcross_3 ⟨Nat.le_of_ble_eq_true rfl, Nat.le_of_ble_eq_true rfl⟩ ?_
  by_cases c6_0 : kAt gl gp GK la pl = 10
  · refine lv_tableIn (off := 26) (tgt := 32) hx hb dX6_tenthsAcross_6 (by rw [iI_t (by omega), c6_0]; decide) (by rw [iI_t (by omega), c6_0]; decide) (by rw [iI_t (by omega), c6_0]; rfl) (by decide) ?_
    refine z_bipush hx hb dX6_tenthsAcross_32 (by decide) ?_
    refine lv_aload_n hx hb dX6_tenthsAcross_34 rfl (lv_at hl 0 rfl) ?_
    refine va_get hx hb hts hinX6 hown hK hPr 0 rfl rfl 3 (by decide) k1 (fun _ h => h) rfl dX6_tenthsAcross_35 ?_
    refine z_isub hx hb dX6_tenthsAcross_38 ?_
    exact z_iret0 hx hb hr hlocks (by unfold acrV; (repeat' split) <;> omega) dX6_tenthsAcross_39
  by_cases c6_1 : kAt gl gp GK la pl = 11
  · refine lv_tableIn (off := 34) (tgt := 40) hx hb dX6_tenthsAcross_6 (by rw [iI_t (by omega), c6_1]; decide) (by rw [iI_t (by omega), c6_1]; decide) (by rw [iI_t (by omega), c6_1]; rfl) (by decide) ?_
    refine z_bipush hx hb dX6_tenthsAcross_40 (by decide) ?_
    refine lv_aload_n hx hb dX6_tenthsAcross_42 rfl (lv_at hl 0 rfl) ?_
    refine va_get hx hb hts hinX6 hown hK hPr 0 rfl rfl 4 (by decide) k2 (fun _ h => h) rfl dX6_tenthsAcross_43 ?_
    refine z_isub hx hb dX6_tenthsAcross_46 ?_
    exact z_iret0 hx hb hr hlocks (by unfold acrV; (repeat' split) <;> omega) dX6_tenthsAcross_47
  by_cases c6_2 : kAt gl gp GK la pl = 12
  · refine lv_tableIn (off := 42) (tgt := 48) hx hb dX6_tenthsAcross_6 (by rw [iI_t (by omega), c6_2]; decide) (by rw [iI_t (by omega), c6_2]; decide) (by rw [iI_t (by omega), c6_2]; rfl) (by decide) ?_
    refine z_iconst hx hb dX6_tenthsAcross_48 ?_
    exact z_iret0 hx hb hr hlocks (by unfold acrV; (repeat' split) <;> omega) dX6_tenthsAcross_49
  refine lv_tableOut (tgt := 50) hx hb dX6_tenthsAcross_6 (by rw [iI_t (by omega)]; omega) (by decide) ?_
  refine z_bipush hx hb dX6_tenthsAcross_50 (by decide) ?_
  exact z_iret0 hx hb hr hlocks (by unfold acrV; (repeat' split) <;> omega) dX6_tenthsAcross_52
set_option maxHeartbeats 8000000 in
set_option maxRecDepth 100000 in
theorem c_X6_hasWall (l : Launch) (D : va_G) (y : Nat → ClassId) (g0 : Nat) (ga : Nat) (gl : Int) (gp : Int) (gx : Int) (gy : Int) (GK : Int → Int) (la : Int) (hg : gOK gl gp gx gy GK) (hla : rI la) : Met l yX6_hasWall wsX6_hasWall ({ frames := 3, cells := 0, slots := 0, locals := 65 } : Room) (pPc D y [(g0, .inr (5, [.ref ga, zi gl, zi gp, zi gx, zi gy])), (ga, .inl (y 0, 36, .inl (cI GK)))] [.ref g0, zi la]) (qV (zi (bI (0 < wallN gl gp GK la)))) 0 0 (fun _ => False) := by
  refine P_of (own := RX6) (cc := cX6_hasWall) (maxL := 3) (ret := some .boolean) (by decide) rfl rfl (Nat.le_of_ble_eq_true rfl) (fun p e s m below meth c ls hx hb hr hC hlocks hPr hG hl => ?_)
  have hC0 := hC
  obtain ⟨-, -, hml, hown, hts⟩ := hC0
  have hK := hG.1
  have hinX6 : ∀ w ∈ wsX60, w ∈ wsX6_hasWall := fun _ h => List.mem_cons_of_mem _ (List.mem_append_right _ h)
  have k1 := hts (.fieldLink RX6 19 "BoatsOfPaper$Gutter" "places" "I") (List.mem_of_getElem? (i := 1) rfl)
  have hl : lv_has ls 3 [(0, .ref g0), (1, zi la)] := hl
  obtain ⟨u1, u2, u3, u4, uk⟩ := id hg
  refine z_iconst hx hb dX6_hasWall_0 ?_
  refine lv_istore_n (lv' := [(2, zi 0), (0, .ref g0), (1, zi la)]) hx hb dX6_hasWall_1 rfl hl (by decide) rfl (fun ls hl => ?_)
  refine z_loop (σ := Int) (fun k H lc ls => (0 ≤ k ∧ k ≤ gp ∧ sgI (fun p => bI (kAt gl gp GK la p = 12)) k = 0) ∧ lv_has ls 3 [(2, zi k), (0, .ref g0), (1, zi la)] ∧ H = s.heap ∧ lc = []) (fun k  => ((gp - k).toNat)) ?_ 0 ⟨⟨by omega, by omega, rfl⟩, lv_sub hl [0, 1, 2] rfl, rfl, rfl⟩
  rintro k H lc ls ⟨hi2, hl, rfl, rfl⟩ ih2
  have b1 := kAt_bd hg la k
  refine lv_iload_n hx hb dX6_hasWall_2 rfl (lv_at hl 0 rfl) ?_
  refine lv_aload_n hx hb dX6_hasWall_3 rfl (lv_at hl 1 rfl) ?_
  refine va_get hx hb hts hinX6 hown hK hPr 0 rfl rfl 2 (by decide) k1 (fun _ h => h) rfl dX6_hasWall_4 ?_
  refine z_icmp_ge (tgt := 29) hx hb (by omega) (by omega) dX6_hasWall_7 (by decide) (fun c_7 => ?_) (fun c_7 => ?_)
  ·
    refine z_iconst hx hb dX6_hasWall_29 ?_
    exact z_zret0 hx hb hr hlocks (by omega) ((bI_f (by have h9 := hi2.2.2; rw [show k = gp by omega] at h9; show ¬ 0 < sgI _ gp; omega)).symm) dX6_hasWall_30
  ·
    refine lv_aload_n hx hb dX6_hasWall_10 rfl (lv_at hl 1 rfl) ?_
    refine lv_iload_n hx hb dX6_hasWall_11 rfl (lv_at hl 2 rfl) ?_
    refine lv_iload_n hx hb dX6_hasWall_12 rfl (lv_at hl 0 rfl) ?_
    refine z_pV (As := [zi la, zi k]) (rest := []) hC (c_X6_kindAt l D y g0 ga gl gp gx gy GK la k (by first | assumption | omega) (by first | assumption | omega) (by first | assumption | omega)) (cwV 2 hts gX6_hasWall_X6_kindAt rfl rfl rfl (by decide +kernel) ⟨Nat.le_of_ble_eq_true rfl, Nat.le_of_ble_eq_true rfl⟩) hG (hPr.sub (ws' := [(g0, .inr (5, [.ref ga, zi gl, zi gp, zi gx, zi gy])), (ga, .inl (y 0, 36, .inl (cI GK)))]) [0, 1] rfl) 0 rfl rfl rfl hl.1 rfl (Nat.le_of_ble_eq_true rfl) dX6_hasWall_13 ⟨Nat.le_of_ble_eq_true rfl, Nat.le_of_ble_eq_true rfl⟩ ?_
    refine z_bipush hx hb dX6_hasWall_16 (by decide) ?_
    refine z_icmp_ne (tgt := 23) hx hb (by omega) (by omega) dX6_hasWall_18 (by decide) (fun c_18 => ?_) (fun c_18 => ?_)
    ·
      refine z_iinc (k := 0) (lv' := [(2, zi (k + 1)), (0, .ref g0), (1, zi la)]) hx hb dX6_hasWall_23 hl rfl (by decide) rfl (fun ls hl => ?_)
      refine lv_goto (tgt := 2) hx hb dX6_hasWall_26 (by decide) ?_
      exact ih2 (k + 1) _ _ _ (by first | (dsimp only; omega) | omega) ⟨⟨by omega, by omega, by rw [sgI_s _ (by omega), hi2.2.2, Int.zero_add]; exact bI_f (by omega)⟩, lv_sub hl [0, 1, 2] rfl, rfl, rfl⟩
    ·
      refine z_iconst hx hb dX6_hasWall_21 ?_
      exact z_zret0 hx hb hr hlocks (by omega) ((bI_t (wall_pos (k := k) (by omega) (by omega) (by omega))).symm) dX6_hasWall_22
set_option maxHeartbeats 8000000 in
set_option maxRecDepth 100000 in
theorem c_X6_laneSeconds (l : Launch) (D : va_G) (y : Nat → ClassId) (g0 : Nat) (ga : Nat) (gl : Int) (gp : Int) (gx : Int) (gy : Int) (GK : Int → Int) (la : Int) (hg : gOK gl gp gx gy GK) (hla : rI la) : Met l yX6_laneSeconds wsX6_laneSeconds ({ frames := 4, cells := 0, slots := 0, locals := 88 } : Room) (pPc D y [(g0, .inr (5, [.ref ga, zi gl, zi gp, zi gx, zi gy])), (ga, .inl (y 0, 36, .inl (cI GK)))] [.ref g0, zi la]) (qV (zi (laneS gl gp GK la))) 0 0 (fun _ => False) := by
  refine P_of (own := RX6) (cc := cX6_laneSeconds) (maxL := 4) (ret := some .int) (by decide) rfl rfl (Nat.le_of_ble_eq_true rfl) (fun p e s m below meth c ls hx hb hr hC hlocks hPr hG hl => ?_)
  have hC0 := hC
  obtain ⟨-, -, hml, hown, hts⟩ := hC0
  have hK := hG.1
  have hinX6 : ∀ w ∈ wsX60, w ∈ wsX6_laneSeconds := fun _ h => List.mem_cons_of_mem _ (List.mem_append_right _ h)
  have k1 := hts (.fieldLink RX6 19 "BoatsOfPaper$Gutter" "places" "I") (List.mem_of_getElem? (i := 1) rfl)
  have hl : lv_has ls 4 [(0, .ref g0), (1, zi la)] := hl
  obtain ⟨u1, u2, u3, u4, uk⟩ := id hg
  refine z_iconst hx hb dX6_laneSeconds_0 ?_
  refine lv_istore_n (lv' := [(2, zi 0), (0, .ref g0), (1, zi la)]) hx hb dX6_laneSeconds_1 rfl hl (by decide) rfl (fun ls hl => ?_)
  refine z_iconst hx hb dX6_laneSeconds_2 ?_
  refine lv_istore_n (lv' := [(3, zi 0), (2, zi 0), (0, .ref g0), (1, zi la)]) hx hb dX6_laneSeconds_3 rfl hl (by decide) rfl (fun ls hl => ?_)
  refine z_loop (σ := Int × Int) (fun x9 H lc ls => match x9 with | (v, k) => (0 ≤ k ∧ k ≤ gp ∧ v = sgI (fun p => secV (kAt gl gp GK la p)) k) ∧ lv_has ls 4 [(3, zi k), (2, zi v), (0, .ref g0), (1, zi la)] ∧ H = s.heap ∧ lc = []) (fun x9  => match x9 with | (v, k) => ((gp - k).toNat)) ?_ (0, 0) ⟨⟨by omega, by omega, rfl⟩, lv_sub hl [0, 1, 2, 3] rfl, rfl, rfl⟩
  rintro ⟨v, k⟩ H lc ls ⟨hi4, hl, rfl, rfl⟩ ih4
  refine lv_iload_n hx hb dX6_laneSeconds_4 rfl (lv_at hl 0 rfl) ?_
  refine lv_aload_n hx hb dX6_laneSeconds_5 rfl (lv_at hl 2 rfl) ?_
  refine va_get hx hb hts hinX6 hown hK hPr 0 rfl rfl 2 (by decide) k1 (fun _ h => h) rfl dX6_laneSeconds_6 ?_
  refine z_icmp_ge (tgt := 27) hx hb (by omega) (by omega) dX6_laneSeconds_9 (by decide) (fun c_9 => ?_) (fun c_9 => ?_)
  ·
    refine lv_iload_n hx hb dX6_laneSeconds_27 rfl (lv_at hl 1 rfl) ?_
    exact z_iret0 hx hb hr hlocks (hi4.2.2.trans (by rw [show k = gp by omega]; rfl)) dX6_laneSeconds_28
  ·
    refine lv_iload_n hx hb dX6_laneSeconds_12 rfl (lv_at hl 1 rfl) ?_
    refine lv_aload_n hx hb dX6_laneSeconds_13 rfl (lv_at hl 2 rfl) ?_
    refine lv_iload_n hx hb dX6_laneSeconds_14 rfl (lv_at hl 3 rfl) ?_
    refine lv_iload_n hx hb dX6_laneSeconds_15 rfl (lv_at hl 0 rfl) ?_
    refine z_pV (As := [zi la, zi k]) (rest := [zi v]) hC (c_X6_secondsAt l D y g0 ga gl gp gx gy GK la k (by first | assumption | omega) (by first | assumption | omega) (by first | assumption | omega)) (cwV 2 hts gX6_laneSeconds_X6_secondsAt rfl rfl rfl (by decide +kernel) ⟨Nat.le_of_ble_eq_true rfl, Nat.le_of_ble_eq_true rfl⟩) hG (hPr.sub (ws' := [(g0, .inr (5, [.ref ga, zi gl, zi gp, zi gx, zi gy])), (ga, .inl (y 0, 36, .inl (cI GK)))]) [0, 1] rfl) 0 rfl rfl rfl hl.1 rfl (Nat.le_of_ble_eq_true rfl) dX6_laneSeconds_16 ⟨Nat.le_of_ble_eq_true rfl, Nat.le_of_ble_eq_true rfl⟩ ?_
    refine z_iadd hx hb dX6_laneSeconds_19 ?_
    refine lv_istore_n (lv' := [(2, zi (v + (secV (kAt gl gp GK la k)))), (3, zi k), (0, .ref g0), (1, zi la)]) hx hb dX6_laneSeconds_20 rfl hl (by decide) rfl (fun ls hl => ?_)
    refine z_iinc (k := 1) (lv' := [(3, zi (k + 1)), (2, zi (v + (secV (kAt gl gp GK la k)))), (0, .ref g0), (1, zi la)]) hx hb dX6_laneSeconds_21 hl rfl (by decide) rfl (fun ls hl => ?_)
    refine lv_goto (tgt := 4) hx hb dX6_laneSeconds_24 (by decide) ?_
    exact ih4 (v + (secV (kAt gl gp GK la k)), k + 1) _ _ _ (by first | (dsimp only; omega) | omega) ⟨⟨by omega, by omega, by rw [sgI_s _ (by omega)]; omega⟩, lv_sub hl [0, 1, 2, 3] rfl, rfl, rfl⟩
set_option maxHeartbeats 8000000 in
set_option maxRecDepth 100000 in
theorem c_X10_isWhole (l : Launch) (D : va_G) (y : Nat → ClassId) (wl : Int) (wp : Int) (ww : Int) (hq : rI wl ∧ rI wp ∧ rI ww) : Met l yX10_isWhole wsX10_isWhole ({ frames := 0, cells := 0, slots := 0, locals := 0 } : Room) (pPc D y [] [zi wl, zi wp, zi ww]) (qV (zi (bI (whP wl wp ww)))) 0 0 (fun _ => False) := by
  refine P_of (own := RX10) (cc := cX10_isWhole) (maxL := 3) (ret := some .boolean) (by decide) rfl rfl (Nat.le_of_ble_eq_true rfl) (fun p e s m below meth c ls hx hb hr hC hlocks hPr hG hl => ?_)
  have hC0 := hC
  obtain ⟨-, -, hml, hown, hts⟩ := hC0
  have hK := hG.1
  have hl : lv_has ls 3 [(0, zi wl), (1, zi wp), (2, zi ww)] := hl
  refine lv_iload_n hx hb dX10_isWhole_0 rfl (lv_at hl 0 rfl) ?_
  refine z_if_ne (tgt := 16) hx hb (by omega) dX10_isWhole_1 (by decide) (fun c_1 => ?_) (fun c_1 => ?_)
  ·
    refine lv_iload_n hx hb dX10_isWhole_16 rfl (lv_at hl 1 rfl) ?_
    refine lv_iload_n hx hb dX10_isWhole_17 rfl (lv_at hl 2 rfl) ?_
    refine z_icmp_ne (tgt := 25) hx hb (by omega) (by omega) dX10_isWhole_18 (by decide) (fun c_18 => ?_) (fun c_18 => ?_)
    ·
      refine z_iconst hx hb dX10_isWhole_25 ?_
      exact z_zret0 hx hb hr hlocks (by omega) (by first | exact (bI_t (by omega)).symm | exact (bI_f (by omega)).symm) dX10_isWhole_26
    ·
      refine z_iconst hx hb dX10_isWhole_21 ?_
      refine lv_goto (tgt := 26) hx hb dX10_isWhole_22 (by decide) ?_
      exact z_zret0 hx hb hr hlocks (by omega) (by first | exact (bI_t (by omega)).symm | exact (bI_f (by omega)).symm) dX10_isWhole_26
  ·
    refine lv_iload_n hx hb dX10_isWhole_4 rfl (lv_at hl 1 rfl) ?_
    refine z_if_le (tgt := 12) hx hb (by omega) dX10_isWhole_5 (by decide) (fun c_5 => ?_) (fun c_5 => ?_)
    ·
      refine z_iconst hx hb dX10_isWhole_12 ?_
      refine lv_goto (tgt := 26) hx hb dX10_isWhole_13 (by decide) ?_
      exact z_zret0 hx hb hr hlocks (by omega) (by first | exact (bI_t (by omega)).symm | exact (bI_f (by omega)).symm) dX10_isWhole_26
    ·
      refine z_iconst hx hb dX10_isWhole_8 ?_
      refine lv_goto (tgt := 26) hx hb dX10_isWhole_9 (by decide) ?_
      exact z_zret0 hx hb hr hlocks (by omega) (by first | exact (bI_t (by omega)).symm | exact (bI_f (by omega)).symm) dX10_isWhole_26
set_option maxHeartbeats 8000000 in
set_option maxRecDepth 100000 in
theorem c_X10_firstFault (l : Launch) (D : va_G) (y : Nat → ClassId) (t0 : Nat) (ta : Nat) (tn : Int) (TB : Int → Int) (ht : tOK tn TB) : Met l yX10_firstFault wsX10_firstFault ({ frames := 1, cells := 0, slots := 0, locals := 22 } : Room) (pPc D y [(t0, .inr (9, [.ref ta, zi tn])), (ta, .inl (y 0, 40, .inl (cI TB)))] [.ref t0]) (qV (zi (faultV tn TB))) 0 0 (fun _ => False) := by
  refine P_of (own := RX10) (cc := cX10_firstFault) (maxL := 5) (ret := some .int) (by decide) rfl rfl (Nat.le_of_ble_eq_true rfl) (fun p e s m below meth c ls hx hb hr hC hlocks hPr hG hl => ?_)
  have hC0 := hC
  obtain ⟨-, -, hml, hown, hts⟩ := hC0
  have hK := hG.1
  have hinX10 : ∀ w ∈ wsX100, w ∈ wsX10_firstFault := fun _ h => List.mem_cons_of_mem _ (List.mem_append_right _ h)
  have k1 := hts (.fieldLink RX10 15 "BoatsOfPaper$Text" "length" "I") (List.mem_of_getElem? (i := 1) rfl)
  have k2 := hts (.fieldLink RX10 9 "BoatsOfPaper$Text" "bytes" "[I") (List.mem_of_getElem? (i := 2) rfl)
  have hl : lv_has ls 5 [(0, .ref t0)] := hl
  obtain ⟨u1, uk⟩ := id ht
  refine z_iconst hx hb dX10_firstFault_0 ?_
  refine lv_istore_n (lv' := [(1, zi 0), (0, .ref t0)]) hx hb dX10_firstFault_1 rfl hl (by decide) rfl (fun ls hl => ?_)
  refine z_iconst hx hb dX10_firstFault_2 ?_
  refine lv_istore_n (lv' := [(2, zi 0), (1, zi 0), (0, .ref t0)]) hx hb dX10_firstFault_3 rfl hl (by decide) rfl (fun ls hl => ?_)
  refine z_bipush hx hb dX10_firstFault_4 (by decide) ?_
  refine lv_istore_n (lv' := [(3, zi 12), (2, zi 0), (1, zi 0), (0, .ref t0)]) hx hb dX10_firstFault_6 rfl hl (by decide) rfl (fun ls hl => ?_)
  refine z_iconst hx hb dX10_firstFault_7 ?_
  refine lv_istore (lv' := [(4, zi 0), (3, zi 12), (2, zi 0), (1, zi 0), (0, .ref t0)]) hx hb dX10_firstFault_8 hl (by decide) rfl (fun ls hl => ?_)
  refine z_loop (σ := Int × Int × Int × Int) (fun x9 H lc ls => match x9 with | (ln, pl, wd, k) => ((0 ≤ k ∧ k ≤ tn ∧ 0 ≤ ln ∧ ln ≤ 2 ∧ 0 ≤ pl ∧ pl ≤ wd ∧ 1 ≤ wd ∧ wd ≤ 12) ∧ faultV tn TB = fl TB (tn - k).toNat k ln pl wd) ∧ lv_has ls 5 [(4, zi k), (3, zi wd), (2, zi pl), (1, zi ln), (0, .ref t0)] ∧ H = s.heap ∧ lc = []) (fun x9  => match x9 with | (ln, pl, wd, k) => ((tn - k).toNat)) ?_ (0, 0, 12, 0) ⟨⟨by omega, by rw [Int.sub_zero]; rfl⟩, lv_sub hl [0, 1, 2, 3, 4] rfl, rfl, rfl⟩
  rintro ⟨ln, pl, wd, k⟩ H lc ls ⟨hi10, hl, rfl, rfl⟩ ih10
  refine lv_iload hx hb dX10_firstFault_10 (lv_at hl 0 rfl) ?_
  refine lv_aload_n hx hb dX10_firstFault_12 rfl (lv_at hl 4 rfl) ?_
  refine va_get hx hb hts hinX10 hown hK hPr 0 rfl rfl 1 (by decide) k1 (fun _ h => h) rfl dX10_firstFault_13 ?_
  refine z_icmp_ge (tgt := 88) hx hb (by omega) (by omega) dX10_firstFault_16 (by decide) (fun c_16 => ?_) (fun c_16 => ?_)
  ·
    refine lv_iload_n hx hb dX10_firstFault_88 rfl (lv_at hl 3 rfl) ?_
    refine lv_iload_n hx hb dX10_firstFault_89 rfl (lv_at hl 2 rfl) ?_
    refine lv_iload_n hx hb dX10_firstFault_90 rfl (lv_at hl 1 rfl) ?_
    refine z_pS (As := [zi ln, zi pl, zi wd]) (rest := []) hC (c_X10_isWhole l D y ln pl wd (by first | assumption | omega)) (va_cwS 3 hts gX10_firstFault_X10_isWhole rfl rfl rfl (by decide +kernel) ⟨Nat.le_of_ble_eq_true rfl, Nat.le_of_ble_eq_true rfl⟩) hG va_P_nil rfl hl.1 rfl (Nat.le_of_ble_eq_true rfl) dX10_firstFault_91 ⟨Nat.le_of_ble_eq_true rfl, Nat.le_of_ble_eq_true rfl⟩ ?_
    refine z_ifB_eq (tgt := 102) hx hb dX10_firstFault_94 (by decide) (fun c_94 => ?_) (fun c_94 => ?_)
    ·
      refine lv_aload_n hx hb dX10_firstFault_102 rfl (lv_at hl 4 rfl) ?_
      refine va_get hx hb hts hinX10 hown hK hPr 0 rfl rfl 1 (by decide) k1 (fun _ h => h) rfl dX10_firstFault_103 ?_
      exact z_iret0 hx hb hr hlocks (by rw [hi10.2, fl_0 TB (by omega)]; first | rw [if_pos (by omega)] | (rw [if_neg (by omega)]; omega)) dX10_firstFault_106
    ·
      refine z_bipush hx hb dX10_firstFault_97 (by decide) ?_
      refine lv_goto (tgt := 106) hx hb dX10_firstFault_99 (by decide) ?_
      exact z_iret0 hx hb hr hlocks (by rw [hi10.2, fl_0 TB (by omega)]; first | rw [if_pos (by omega)] | (rw [if_neg (by omega)]; omega)) dX10_firstFault_106
  ·
    have b1 := uk k (by omega) (by omega)
    refine lv_aload_n hx hb dX10_firstFault_19 rfl (lv_at hl 4 rfl) ?_
    refine va_get hx hb hts hinX10 hown hK hPr 0 rfl rfl 0 (by decide) k2 (fun _ h => h) rfl dX10_firstFault_20 ?_
    refine lv_iload hx hb dX10_firstFault_23 (lv_at hl 0 rfl) ?_
    refine z_iald hx hb hK hPr 1 0 rfl rfl (by omega) (by decide) dX10_firstFault_25 ?_
    refine z_bipush hx hb dX10_firstFault_26 (by decide) ?_
    refine z_icmp_ne (tgt := 58) hx hb (by omega) (by omega) dX10_firstFault_28 (by decide) (fun c_28 => ?_) (fun c_28 => ?_)
    ·
      refine lv_iload_n hx hb dX10_firstFault_58 rfl (lv_at hl 2 rfl) ?_
      refine lv_iload_n hx hb dX10_firstFault_59 rfl (lv_at hl 1 rfl) ?_
      refine z_icmp_eq (tgt := 76) hx hb (by omega) (by omega) dX10_firstFault_60 (by decide) (fun c_60 => ?_) (fun c_60 => ?_)
      ·
        refine lv_iload hx hb dX10_firstFault_76 (lv_at hl 0 rfl) ?_
        exact z_iret0 hx hb hr hlocks (by rw [hi10.2, fl_s TB (by omega), if_neg (by omega), if_pos (by omega)]) dX10_firstFault_78
      ·
        refine lv_aload_n hx hb dX10_firstFault_63 rfl (lv_at hl 4 rfl) ?_
        refine va_get hx hb hts hinX10 hown hK hPr 0 rfl rfl 0 (by decide) k2 (fun _ h => h) rfl dX10_firstFault_64 ?_
        refine lv_iload hx hb dX10_firstFault_67 (lv_at hl 0 rfl) ?_
        refine z_iald hx hb hK hPr 1 0 rfl rfl (by omega) (by decide) dX10_firstFault_69 ?_
        refine z_pS (As := [zi (TB k)]) (rest := []) hC (c_X6_kindOf l D y (TB k) (by first | assumption | omega)) (va_cwS 1 hts gX10_firstFault_X6_kindOf rfl rfl rfl (by decide +kernel) ⟨Nat.le_of_ble_eq_true rfl, Nat.le_of_ble_eq_true rfl⟩) hG va_P_nil rfl hl.1 rfl (Nat.le_of_ble_eq_true rfl) dX10_firstFault_70 ⟨Nat.le_of_ble_eq_true rfl, Nat.le_of_ble_eq_true rfl⟩ ?_
        have b2 := kindV_bd (TB k)
        refine z_if_ne (tgt := 79) hx hb (by omega) dX10_firstFault_73 (by decide) (fun c_73 => ?_) (fun c_73 => ?_)
        ·
          refine z_iinc (k := 2) (lv' := [(2, zi (pl + 1)), (4, zi k), (3, zi wd), (1, zi ln), (0, .ref t0)]) hx hb dX10_firstFault_79 hl rfl (by decide) rfl (fun ls hl => ?_)
          refine z_iinc (k := 1) (lv' := [(4, zi (k + 1)), (2, zi (pl + 1)), (3, zi wd), (1, zi ln), (0, .ref t0)]) hx hb dX10_firstFault_82 hl rfl (by decide) rfl (fun ls hl => ?_)
          refine lv_goto (tgt := 10) hx hb dX10_firstFault_85 (by decide) ?_
          exact ih10 (ln, pl + 1, wd, k + 1) _ _ _ (by first | (dsimp only; omega) | omega) ⟨⟨by omega, by rw [hi10.2, fl_s TB (by omega)]; first | rw [if_pos (by omega), if_neg (by omega)] | rw [if_neg (by omega), if_neg (by omega)]⟩, lv_sub hl [0, 2, 1, 3, 4] rfl, rfl, rfl⟩
        ·
          refine lv_iload hx hb dX10_firstFault_76 (lv_at hl 0 rfl) ?_
          exact z_iret0 hx hb hr hlocks (by rw [hi10.2, fl_s TB (by omega), if_neg (by omega), if_pos (by omega)]) dX10_firstFault_78
    ·
      refine lv_iload_n hx hb dX10_firstFault_31 rfl (lv_at hl 3 rfl) ?_
      refine z_iconst hx hb dX10_firstFault_32 ?_
      refine z_icmp_eq (tgt := 45) hx hb (by omega) (by omega) dX10_firstFault_33 (by decide) (fun c_33 => ?_) (fun c_33 => ?_)
      ·
        refine lv_iload hx hb dX10_firstFault_45 (lv_at hl 0 rfl) ?_
        exact z_iret0 hx hb hr hlocks (by rw [hi10.2, fl_s TB (by omega), if_pos (by omega), if_pos (by omega)]) dX10_firstFault_47
      ·
        refine lv_iload_n hx hb dX10_firstFault_36 rfl (lv_at hl 3 rfl) ?_
        refine lv_iload_n hx hb dX10_firstFault_37 rfl (lv_at hl 2 rfl) ?_
        refine lv_iload_n hx hb dX10_firstFault_38 rfl (lv_at hl 1 rfl) ?_
        refine z_pS (As := [zi ln, zi pl, zi wd]) (rest := []) hC (c_X10_isWhole l D y ln pl wd (by first | assumption | omega)) (va_cwS 3 hts gX10_firstFault_X10_isWhole rfl rfl rfl (by decide +kernel) ⟨Nat.le_of_ble_eq_true rfl, Nat.le_of_ble_eq_true rfl⟩) hG va_P_nil rfl hl.1 rfl (Nat.le_of_ble_eq_true rfl) dX10_firstFault_39 ⟨Nat.le_of_ble_eq_true rfl, Nat.le_of_ble_eq_true rfl⟩ ?_
        refine z_ifB_ne (tgt := 48) hx hb dX10_firstFault_42 (by decide) (fun c_42 => ?_) (fun c_42 => ?_)
        ·
          refine lv_iload_n hx hb dX10_firstFault_48 rfl (lv_at hl 2 rfl) ?_
          refine lv_istore_n (lv' := [(3, zi pl), (4, zi k), (2, zi pl), (1, zi ln), (0, .ref t0)]) hx hb dX10_firstFault_49 rfl hl (by decide) rfl (fun ls hl => ?_)
          refine z_iinc (k := 3) (lv' := [(1, zi (ln + 1)), (3, zi pl), (4, zi k), (2, zi pl), (0, .ref t0)]) hx hb dX10_firstFault_50 hl rfl (by decide) rfl (fun ls hl => ?_)
          refine z_iconst hx hb dX10_firstFault_53 ?_
          refine lv_istore_n (lv' := [(2, zi 0), (1, zi (ln + 1)), (3, zi pl), (4, zi k), (0, .ref t0)]) hx hb dX10_firstFault_54 rfl hl (by decide) rfl (fun ls hl => ?_)
          refine lv_goto (tgt := 82) hx hb dX10_firstFault_55 (by decide) ?_
          refine z_iinc (k := 3) (lv' := [(4, zi (k + 1)), (2, zi 0), (1, zi (ln + 1)), (3, zi pl), (0, .ref t0)]) hx hb dX10_firstFault_82 hl rfl (by decide) rfl (fun ls hl => ?_)
          refine lv_goto (tgt := 10) hx hb dX10_firstFault_85 (by decide) ?_
          exact ih10 (ln + 1, 0, pl, k + 1) _ _ _ (by first | (dsimp only; omega) | omega) ⟨⟨by omega, by rw [hi10.2, fl_s TB (by omega)]; first | rw [if_pos (by omega), if_neg (by omega)] | rw [if_neg (by omega), if_neg (by omega)]⟩, lv_sub hl [0, 3, 1, 2, 4] rfl, rfl, rfl⟩
        ·
          refine lv_iload hx hb dX10_firstFault_45 (lv_at hl 0 rfl) ?_
          exact z_iret0 hx hb hr hlocks (by rw [hi10.2, fl_s TB (by omega), if_pos (by omega), if_pos (by omega)]) dX10_firstFault_47
set_option maxHeartbeats 8000000 in
set_option maxRecDepth 100000 in
theorem c_X6_readFrom (l : Launch) (D : va_G) (y : Nat → ClassId) (g0 : Nat) (ga : Nat) (gl : Int) (gp : Int) (gx : Int) (gy : Int) (GK : Int → Int) (t0 : Nat) (ta : Nat) (tn : Int) (TB : Int → Int) (hg : gOK gl gp gx gy GK) (ht : tOK tn TB) (hf : faultV tn TB = -9) (sz : Nat) : Met l yX6_readFrom wsX6_readFrom ({ frames := 1, cells := 0, slots := 0, locals := 20 } : Room) (wPc D y [(t0, .inr (9, [.ref ta, zi tn])), (ta, .inl (y 0, 40, .inl (cI TB)))] [(g0, .inr (5, [.ref ga, zi gl, zi gp, zi gx, zi gy])), (ga, .inl (y 0, 36, .inl (cI GK)))] sz [.ref g0, .ref t0]) (wQ D (fun (x9 : Int × Int × (Int → Int)) => match x9 with | (gl2, gp2, GK2) => none) (fun (x9 : Int × Int × (Int → Int)) => match x9 with | (gl2, gp2, GK2) => gf TB tn.toNat 0 0 0 GK = (gl2 - 1, gp2, GK2)) (fun (x9 : Int × Int × (Int → Int)) => match x9 with | (gl2, gp2, GK2) => [(g0, .inr (5, [.ref ga, zi gl2, zi gp2, zi gx, zi gy])), (ga, .inl (y 0, 36, .inl (cI GK2)))]) (va_A [(g0, .inr (5, [.ref ga, zi gl, zi gp, zi gx, zi gy])), (ga, .inl (y 0, 36, .inl (cI GK)))] sz)) 0 0 (va_A [(g0, .inr (5, [.ref ga, zi gl, zi gp, zi gx, zi gy])), (ga, .inl (y 0, 36, .inl (cI GK)))] sz) := by
  refine W_of (own := RX6) (cc := cX6_readFrom) (maxL := 5) (ret := none) (by decide) rfl rfl (Nat.le_of_ble_eq_true rfl) (fun p e s m below meth c ls A hx hb hr hC hlocks hin0 hR0 hN hP hD hA hG hl => ?_)
  have hC0 := hC
  obtain ⟨-, -, hml, hown, hts⟩ := hC0
  have hK := hG.1
  have hS : va_S A s.heap s.heap [] := va_S.rf
  have hPr := hR0
  have hinX10 : ∀ w ∈ wsX100, w ∈ wsX6_readFrom := fun _ h => List.mem_cons_of_mem _ (List.mem_append_left _ (List.mem_append_right _ h))
  have hinX6 : ∀ w ∈ wsX60, w ∈ wsX6_readFrom := fun _ h => List.mem_cons_of_mem _ (List.mem_append_right _ h)
  have k1 := hts (.fieldLink RX6 28 "BoatsOfPaper$Text" "length" "I") (List.mem_of_getElem? (i := 1) rfl)
  have k2 := hts (.fieldLink RX6 33 "BoatsOfPaper$Text" "bytes" "[I") (List.mem_of_getElem? (i := 2) rfl)
  have k3 := hts (.fieldLink RX6 9 "BoatsOfPaper$Gutter" "kinds" "[I") (List.mem_of_getElem? (i := 3) rfl)
  have k4 := hts (.fieldLink RX6 15 "BoatsOfPaper$Gutter" "lanes" "I") (List.mem_of_getElem? (i := 4) rfl)
  have k5 := hts (.fieldLink RX6 19 "BoatsOfPaper$Gutter" "places" "I") (List.mem_of_getElem? (i := 5) rfl)
  have hl : lv_has ls 5 [(0, .ref g0), (1, .ref t0)] := hl
  obtain ⟨u1, uk⟩ := id ht
  refine z_iconst hx hb dX6_readFrom_0 ?_
  refine lv_istore_n (lv' := [(2, zi 0), (0, .ref g0), (1, .ref t0)]) hx hb dX6_readFrom_1 rfl hl (by decide) rfl (fun ls hl => ?_)
  refine z_iconst hx hb dX6_readFrom_2 ?_
  refine lv_istore_n (lv' := [(3, zi 0), (2, zi 0), (0, .ref g0), (1, .ref t0)]) hx hb dX6_readFrom_3 rfl hl (by decide) rfl (fun ls hl => ?_)
  refine z_iconst hx hb dX6_readFrom_4 ?_
  refine lv_istore (lv' := [(4, zi 0), (3, zi 0), (2, zi 0), (0, .ref g0), (1, .ref t0)]) hx hb dX6_readFrom_5 hl (by decide) rfl (fun ls hl => ?_)
  refine z_loop (σ := Int × Int × Int × (Int → Int)) (fun x9 H lc ls => match x9 with | (ln, pl, k, G) => ((0 ≤ k ∧ k ≤ tn ∧ 0 ≤ ln ∧ ln ≤ 2 ∧ 0 ≤ pl) ∧ (∃ wd : Int, pl ≤ wd ∧ 1 ≤ wd ∧ wd ≤ 12 ∧ fl TB (tn - k).toNat k ln pl wd = -9) ∧ gf TB tn.toNat 0 0 0 GK = gf TB (tn - k).toNat k ln pl G) ∧ lv_has ls 5 [(4, zi k), (3, zi pl), (2, zi ln), (0, .ref g0), (1, .ref t0)] ∧ va_P D vwCl [(g0, .inr (5, [.ref ga, zi gl, zi gp, zi gx, zi gy])), (ga, .inl (y 0, 36, .inl (cI G)))] H ∧ va_D A [(g0, .inr (5, [.ref ga, zi gl, zi gp, zi gx, zi gy])), (ga, .inl (y 0, 36, .inl (cI G)))] ∧ va_S A s.heap H lc) (fun x9  => match x9 with | (ln, pl, k, G) => ((tn - k).toNat)) ?_ (0, 0, 0, GK) ⟨⟨by omega, ⟨12, by omega, by omega, by omega, by rw [Int.sub_zero]; exact hf⟩, by rw [Int.sub_zero]⟩, lv_sub hl [0, 1, 2, 3, 4] rfl, hP.sub [0, 1] rfl, hD.sub [0, 1] (by decide) rfl, hS⟩
  rintro ⟨ln, pl, k, G⟩ H lc ls ⟨hi7, hl, hP, hD, hS⟩ ih7
  have hP : va_P D vwCl [(g0, .inr (5, [.ref ga, zi gl, zi gp, zi gx, zi gy])), (ga, .inl (y 0, 36, .inl (cI G)))] H := hP
  have hD : va_D A [(g0, .inr (5, [.ref ga, zi gl, zi gp, zi gx, zi gy])), (ga, .inl (y 0, 36, .inl (cI G)))] := hD
  have hPr := ro_now hR0 hN hS
  obtain ⟨j1, ⟨wd, j2, j3, j4, j5⟩, j6⟩ := hi7
  refine lv_iload hx hb dX6_readFrom_7 (lv_at hl 0 rfl) ?_
  refine lv_aload_n hx hb dX6_readFrom_9 rfl (lv_at hl 4 rfl) ?_
  refine va_get hx hb hts hinX10 hown hK hPr 0 rfl rfl 1 (by decide) k1 (fun _ h => h) rfl dX6_readFrom_10 ?_
  refine z_icmp_ge (tgt := 77) hx hb (by omega) (by omega) dX6_readFrom_13 (by decide) (fun c_13 => ?_) (fun c_13 => ?_)
  ·
    refine lv_aload_n hx hb dX6_readFrom_77 rfl (lv_at hl 3 rfl) ?_
    refine lv_iload_n hx hb dX6_readFrom_78 rfl (lv_at hl 2 rfl) ?_
    refine z_iconst hx hb dX6_readFrom_79 ?_
    refine z_iadd hx hb dX6_readFrom_80 ?_
    refine va_put hx hb hts hinX6 tyX6 tyX6_ok nmX6 hown hK hP hD hS 0 rfl rfl 1 (by decide) k4 (fun _ h => h) rfl (tyX6_ok 1 (by decide)) rfl rfl (Nat.le_of_ble_eq_true rfl) dX6_readFrom_81 (fun H locs hP hD hS => ?_)
    have hP : va_P D vwCl [(g0, .inr (5, [.ref ga, zi (ln + 1), zi gp, zi gx, zi gy])), (ga, .inl (y 0, 36, .inl (cI G)))] H := hP
    have hD : va_D A [(g0, .inr (5, [.ref ga, zi (ln + 1), zi gp, zi gx, zi gy])), (ga, .inl (y 0, 36, .inl (cI G)))] := hD
    have hPr := ro_now hR0 hN hS
    refine lv_aload_n hx hb dX6_readFrom_84 rfl (lv_at hl 3 rfl) ?_
    refine lv_iload_n hx hb dX6_readFrom_85 rfl (lv_at hl 1 rfl) ?_
    refine va_put hx hb hts hinX6 tyX6 tyX6_ok nmX6 hown hK hP hD hS 0 rfl rfl 2 (by decide) k5 (fun _ h => h) rfl (tyX6_ok 2 (by decide)) rfl rfl (Nat.le_of_ble_eq_true rfl) dX6_readFrom_86 (fun H locs hP hD hS => ?_)
    have hP : va_P D vwCl [(g0, .inr (5, [.ref ga, zi (ln + 1), zi pl, zi gx, zi gy])), (ga, .inl (y 0, 36, .inl (cI G)))] H := hP
    have hD : va_D A [(g0, .inr (5, [.ref ga, zi (ln + 1), zi pl, zi gx, zi gy])), (ga, .inl (y 0, 36, .inl (cI G)))] := hD
    have hPr := ro_now hR0 hN hS
    exact z_vretW hx hb hr hlocks (ln + 1, pl, G) rfl (by rw [j6, gf_0 TB (by omega)]; dsimp only; rw [show ln + 1 - 1 = ln by omega]) (hP.sub [0, 1] rfl) (hD.sub [0, 1] (by decide) rfl) hS dX6_readFrom_89
  ·
    have b1 := uk k (by omega) (by omega)
    rw [fl_s TB (by omega)] at j5
    refine lv_aload_n hx hb dX6_readFrom_16 rfl (lv_at hl 4 rfl) ?_
    refine va_get hx hb hts hinX10 hown hK hPr 0 rfl rfl 0 (by decide) k2 (fun _ h => h) rfl dX6_readFrom_17 ?_
    refine lv_iload hx hb dX6_readFrom_20 (lv_at hl 0 rfl) ?_
    refine z_iald hx hb hK hPr 1 0 rfl rfl (by omega) (by decide) dX6_readFrom_22 ?_
    refine z_bipush hx hb dX6_readFrom_23 (by decide) ?_
    refine z_icmp_ne (tgt := 36) hx hb (by omega) (by omega) dX6_readFrom_25 (by decide) (fun c_25 => ?_) (fun c_25 => ?_)
    ·
      rw [if_neg (by omega)] at j5
      by_cases c9 : pl = wd ∨ kindV (TB k) = 0
      · rw [if_pos c9] at j5; omega
      rw [if_neg c9] at j5
      have j7 := j5
      refine lv_iload_n hx hb dX6_readFrom_36 rfl (lv_at hl 2 rfl) ?_
      refine z_iconst hx hb dX6_readFrom_37 ?_
      refine z_icmp_ge (tgt := 71) hx hb (by omega) (by omega) dX6_readFrom_38 (by decide) (fun c_38 => ?_) (fun c_38 => ?_)
      · exfalso; omega
      ·
        refine lv_iload_n hx hb dX6_readFrom_41 rfl (lv_at hl 1 rfl) ?_
        refine z_bipush hx hb dX6_readFrom_42 (by decide) ?_
        refine z_icmp_ge (tgt := 71) hx hb (by omega) (by omega) dX6_readFrom_44 (by decide) (fun c_44 => ?_) (fun c_44 => ?_)
        · exfalso; omega
        ·
          refine lv_aload_n hx hb dX6_readFrom_47 rfl (lv_at hl 3 rfl) ?_
          refine va_get hx hb hts hinX6 hown hK hP 0 rfl rfl 0 (by decide) k3 (fun _ h => h) rfl dX6_readFrom_48 ?_
          refine lv_iload_n hx hb dX6_readFrom_51 rfl (lv_at hl 2 rfl) ?_
          refine z_bipush hx hb dX6_readFrom_52 (by decide) ?_
          refine z_imul hx hb dX6_readFrom_54 ?_
          refine lv_iload_n hx hb dX6_readFrom_55 rfl (lv_at hl 1 rfl) ?_
          refine z_iadd hx hb dX6_readFrom_56 ?_
          refine lv_aload_n hx hb dX6_readFrom_57 rfl (lv_at hl 4 rfl) ?_
          refine va_get hx hb hts hinX10 hown hK hPr 0 rfl rfl 0 (by decide) k2 (fun _ h => h) rfl dX6_readFrom_58 ?_
          refine lv_iload hx hb dX6_readFrom_61 (lv_at hl 0 rfl) ?_
          refine z_iald hx hb hK hPr 1 0 rfl rfl (by omega) (by decide) dX6_readFrom_63 ?_
          refine z_pS (As := [zi (TB k)]) (rest := [zi ((ln * 12) + pl), .ref ga]) hC (c_X6_kindOf l D y (TB k) (by first | assumption | omega)) (va_cwS 1 hts gX6_readFrom_X6_kindOf rfl rfl rfl (by decide +kernel) ⟨Nat.le_of_ble_eq_true rfl, Nat.le_of_ble_eq_true rfl⟩) hG va_P_nil rfl hl.1 rfl (Nat.le_of_ble_eq_true rfl) dX6_readFrom_64 ⟨Nat.le_of_ble_eq_true rfl, Nat.le_of_ble_eq_true rfl⟩ ?_
          refine z_iast hx hb hK hP hD hS 1 0 rfl rfl (by omega) (by decide) dX6_readFrom_67 (fun H locs hP hD hS => ?_)
          have hP : va_P D vwCl [(g0, .inr (5, [.ref ga, zi gl, zi gp, zi gx, zi gy])), (ga, .inl (y 0, 36, .inl (cI (iu G ((ln * 12) + pl) (kindV (TB k))))))] H := hP
          have hD : va_D A [(g0, .inr (5, [.ref ga, zi gl, zi gp, zi gx, zi gy])), (ga, .inl (y 0, 36, .inl (cI (iu G ((ln * 12) + pl) (kindV (TB k))))))] := hD
          have hPr := ro_now hR0 hN hS
          refine z_iinc (k := 1) (lv' := [(3, zi (pl + 1)), (4, zi k), (2, zi ln), (0, .ref g0), (1, .ref t0)]) hx hb dX6_readFrom_68 hl rfl (by decide) rfl (fun ls hl => ?_)
          refine z_iinc (k := 1) (lv' := [(4, zi (k + 1)), (3, zi (pl + 1)), (2, zi ln), (0, .ref g0), (1, .ref t0)]) hx hb dX6_readFrom_71 hl rfl (by decide) rfl (fun ls hl => ?_)
          refine lv_goto (tgt := 7) hx hb dX6_readFrom_74 (by decide) ?_
          exact ih7 (ln, pl + 1, k + 1, iu G ((ln * 12) + pl) (kindV (TB k))) _ _ _ (by first | (dsimp only; omega) | omega) ⟨⟨by omega, ⟨_, by omega, by omega, by omega, j7⟩, by rw [j6, gf_s TB (by omega)]; first | rw [if_pos (by omega)] | (rw [if_neg (by omega), show 12 * ln + pl = ln * 12 + pl by omega])⟩, lv_sub hl [0, 1, 2, 3, 4] rfl, hP.sub [0, 1] rfl, hD.sub [0, 1] (by decide) rfl, hS⟩
    ·
      rw [if_pos (by omega)] at j5
      by_cases c9 : ln = 2 ∨ ¬ whP ln pl wd
      · rw [if_pos c9] at j5; omega
      rw [if_neg c9] at j5
      have j7 := j5
      refine z_iinc (k := 2) (lv' := [(2, zi (ln + 1)), (4, zi k), (3, zi pl), (0, .ref g0), (1, .ref t0)]) hx hb dX6_readFrom_28 hl rfl (by decide) rfl (fun ls hl => ?_)
      refine z_iconst hx hb dX6_readFrom_31 ?_
      refine lv_istore_n (lv' := [(3, zi 0), (2, zi (ln + 1)), (4, zi k), (0, .ref g0), (1, .ref t0)]) hx hb dX6_readFrom_32 rfl hl (by decide) rfl (fun ls hl => ?_)
      refine lv_goto (tgt := 71) hx hb dX6_readFrom_33 (by decide) ?_
      refine z_iinc (k := 2) (lv' := [(4, zi (k + 1)), (3, zi 0), (2, zi (ln + 1)), (0, .ref g0), (1, .ref t0)]) hx hb dX6_readFrom_71 hl rfl (by decide) rfl (fun ls hl => ?_)
      refine lv_goto (tgt := 7) hx hb dX6_readFrom_74 (by decide) ?_
      exact ih7 (ln + 1, 0, k + 1, G) _ _ _ (by first | (dsimp only; omega) | omega) ⟨⟨by omega, ⟨_, by omega, by omega, by omega, j7⟩, by rw [j6, gf_s TB (by omega)]; first | rw [if_pos (by omega)] | (rw [if_neg (by omega), show 12 * ln + pl = ln * 12 + pl by omega])⟩, lv_sub hl [0, 1, 2, 3, 4] rfl, hP.sub [0, 1] rfl, hD.sub [0, 1] (by decide) rfl, hS⟩
