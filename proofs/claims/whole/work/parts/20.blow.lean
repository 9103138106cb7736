set_option maxHeartbeats 8000000 in
set_option maxRecDepth 100000 in
theorem c_X0_chanceIn (l : Launch) (D : va_G) (y : Nat → ClassId) (w0 : Nat) (wh : Nat) (wb : Nat) (wl : Int) (BE : Int → Int) (g0 : Nat) (ga : Nat) (gl : Int) (gp : Int) (gx : Int) (gy : Int) (GK : Int → Int) (la : Int) (sq : Int) (hg : gOK gl gp gx gy GK) (hBE : wOK BE) (hwl : -9 ≤ wl ∧ wl ≤ 135) (hla : rI la) (hsq : rI sq) : Met l yX0_chanceIn wsX0_chanceIn ({ frames := 1, cells := 0, slots := 0, locals := 21 } : Room) (pPc D y [(w0, .inr (0, [.ref wh, .ref wb, zi wl])), (wb, .inl (y 1, 408, .inr (.inl (cL BE)))), (g0, .inr (5, [.ref ga, zi gl, zi gp, zi gx, zi gy])), (ga, .inl (y 0, 36, .inl (cI GK)))] [.ref w0, .ref g0, zi la, zi sq]) (qV (zl (chI gl wl (tab BE) la sq))) 0 0 (fun _ => False) := by
  refine P_of (own := RX0) (cc := cX0_chanceIn) (maxL := 4) (ret := some .long) (by decide) rfl rfl (Nat.le_of_ble_eq_true rfl) (fun p e s m below meth c ls hx hb hr hC hlocks hPr hG hl => ?_)
  have hC0 := hC
  obtain ⟨-, -, hml, hown, hts⟩ := hC0
  have hK := hG.1
  have hinX0 : ∀ w ∈ wsX00, w ∈ wsX0_chanceIn := fun _ h => List.mem_cons_of_mem _ (List.mem_append_left _ (List.mem_append_right _ h))
  have k1 := hts (.fieldLink RX0 18 "BoatsOfPaper$Blowing" "life" "I") (List.mem_of_getElem? (i := 1) rfl)
  have k2 := hts (.fieldLink RX0 15 "BoatsOfPaper$Blowing" "behind" "[J") (List.mem_of_getElem? (i := 2) rfl)
  have hl : lv_has ls 4 [(0, .ref w0), (1, .ref g0), (2, zi la), (3, zi sq)] := hl
  obtain ⟨u1, u2, u3, u4, uk⟩ := id hg
  refine lv_aload_n hx hb dX0_chanceIn_0 rfl (lv_at hl 1 rfl) ?_
  refine lv_iload_n hx hb dX0_chanceIn_1 rfl (lv_at hl 2 rfl) ?_
  refine z_pV (As := [zi la]) (rest := []) hC (c_X6_hasLane l D y g0 ga gl gp gx gy GK la (by first | assumption | omega) (by first | assumption | omega)) (cwV 1 hts gX0_chanceIn_X6_hasLane rfl rfl rfl (by decide +kernel) ⟨Nat.le_of_ble_eq_true rfl, Nat.le_of_ble_eq_true rfl⟩) hG (hPr.sub (ws' := [(g0, .inr (5, [.ref ga, zi gl, zi gp, zi gx, zi gy])), (ga, .inl (y 0, 36, .inl (cI GK)))]) [2, 3] rfl) 0 rfl rfl rfl hl.1 rfl (Nat.le_of_ble_eq_true rfl) dX0_chanceIn_2 ⟨Nat.le_of_ble_eq_true rfl, Nat.le_of_ble_eq_true rfl⟩ ?_
  refine z_ifB_eq (tgt := 20) hx hb dX0_chanceIn_5 (by decide) (fun c_5 => ?_) (fun c_5 => ?_)
  ·
    refine lv_lconst (v := iL 0) hx hb dX0_chanceIn_20 rfl ?_
    exact z_lret0 hx hb hr hlocks (by unfold chI; first | (rw [if_pos (by omega)]; rfl) | rw [if_neg (by omega)]) dX0_chanceIn_21
  ·
    refine lv_iload_n hx hb dX0_chanceIn_8 rfl (lv_at hl 3 rfl) ?_
    refine z_if_lt (tgt := 20) hx hb (by omega) dX0_chanceIn_9 (by decide) (fun c_9 => ?_) (fun c_9 => ?_)
    ·
      refine lv_lconst (v := iL 0) hx hb dX0_chanceIn_20 rfl ?_
      exact z_lret0 hx hb hr hlocks (by unfold chI; first | (rw [if_pos (by omega)]; rfl) | rw [if_neg (by omega)]) dX0_chanceIn_21
    ·
      refine lv_iload_n hx hb dX0_chanceIn_12 rfl (lv_at hl 3 rfl) ?_
      refine lv_aload_n hx hb dX0_chanceIn_13 rfl (lv_at hl 0 rfl) ?_
      refine va_get hx hb hts hinX0 hown hK hPr 0 rfl rfl 2 (by decide) k1 (fun _ h => h) rfl dX0_chanceIn_14 ?_
      refine z_icmp_le (tgt := 22) hx hb (by omega) (by omega) dX0_chanceIn_17 (by decide) (fun c_17 => ?_) (fun c_17 => ?_)
      ·
        refine lv_aload_n hx hb dX0_chanceIn_22 rfl (lv_at hl 0 rfl) ?_
        refine va_get hx hb hts hinX0 hown hK hPr 0 rfl rfl 1 (by decide) k2 (fun _ h => h) rfl dX0_chanceIn_23 ?_
        refine lv_iload_n hx hb dX0_chanceIn_26 rfl (lv_at hl 2 rfl) ?_
        refine z_sipush hx hb dX0_chanceIn_27 (by decide) ?_
        refine z_imul hx hb dX0_chanceIn_30 ?_
        refine lv_iload_n hx hb dX0_chanceIn_31 rfl (lv_at hl 3 rfl) ?_
        refine z_iadd hx hb dX0_chanceIn_32 ?_
        refine z_lald hx hb hK hPr 1 1 rfl rfl (by omega) (by decide) dX0_chanceIn_33 ?_
        exact z_lret0 hx hb hr hlocks (by unfold chI; first | (rw [if_pos (by omega)]; rfl) | rw [if_neg (by omega)]) dX0_chanceIn_34
      ·
        refine lv_lconst (v := iL 0) hx hb dX0_chanceIn_20 rfl ?_
        exact z_lret0 hx hb hr hlocks (by unfold chI; first | (rw [if_pos (by omega)]; rfl) | rw [if_neg (by omega)]) dX0_chanceIn_21
set_option maxHeartbeats 8000000 in
set_option maxRecDepth 100000 in
theorem c_X0_chanceBehind (l : Launch) (D : va_G) (y : Nat → ClassId) (w0 : Nat) (wh : Nat) (wb : Nat) (wl : Int) (BE : Int → Int) (g0 : Nat) (ga : Nat) (gl : Int) (gp : Int) (gx : Int) (gy : Int) (GK : Int → Int) (la : Int) (pl : Int) (sq : Int) (hg : gOK gl gp gx gy GK) (hBE : wOK BE) (hwl : -9 ≤ wl ∧ wl ≤ 135) (hla : -10 ≤ la ∧ la ≤ 10) (hpl : rI pl) (hsq : 0 ≤ sq ∧ sq ≤ 1000) : Met l yX0_chanceBehind wsX0_chanceBehind ({ frames := 2, cells := 0, slots := 0, locals := 44 } : Room) (pPc D y [(w0, .inr (0, [.ref wh, .ref wb, zi wl])), (wb, .inl (y 1, 408, .inr (.inl (cL BE)))), (g0, .inr (5, [.ref ga, zi gl, zi gp, zi gx, zi gy])), (ga, .inl (y 0, 36, .inl (cI GK)))] [.ref w0, .ref g0, zi la, zi pl, zi sq]) (qV (zl (chB gl wl (pl = gp - 1) (tab BE) la sq))) 0 0 (fun _ => False) := by
  refine P_of (own := RX0) (cc := cX0_chanceBehind) (maxL := 11) (ret := some .long) (by decide) rfl rfl (Nat.le_of_ble_eq_true rfl) (fun p e s m below meth c ls hx hb hr hC hlocks hPr hG hl => ?_)
  have hC0 := hC
  obtain ⟨-, -, hml, hown, hts⟩ := hC0
  have hK := hG.1
  have hinX0 : ∀ w ∈ wsX00, w ∈ wsX0_chanceBehind := fun _ h => List.mem_cons_of_mem _ (List.mem_append_left _ (List.mem_append_right _ h))
  have hinX6 : ∀ w ∈ wsX60, w ∈ wsX0_chanceBehind := fun _ h => List.mem_cons_of_mem _ (List.mem_append_right _ h)
  have k1 := hts (.fieldLink RX0 18 "BoatsOfPaper$Blowing" "life" "I") (List.mem_of_getElem? (i := 1) rfl)
  have k2 := hts (.fieldLink RX0 28 "BoatsOfPaper$Gutter" "places" "I") (List.mem_of_getElem? (i := 2) rfl)
  have k3 := hts (.methodLink RX0 54 Lib.MathLoose.max_long.x) (List.mem_of_getElem? (i := 3) rfl)
  have k4 := hts (.static Lib.MathLoose.max_long.x) (List.mem_of_getElem? (i := 4) rfl)
  have k5 := hts (.initialized "java/lang/Math") (List.mem_of_getElem? (i := 5) rfl)
  have hl : lv_has ls 11 [(0, .ref w0), (1, .ref g0), (2, zi la), (3, zi pl), (4, zi sq)] := hl
  obtain ⟨u1, u2, u3, u4, uk⟩ := id hg
  have b0 := tab_bd hBE (gl := gl) (lf := wl) (by omega) (by omega)
  have b1 := chI_bd (B := 10000000000000) (by omega) b0 la sq
  have b2 := chI_bd (B := 10000000000000) (by omega) b0 (la - 1) (sq + 1)
  have b3 := chI_bd (B := 10000000000000) (by omega) b0 (la + 1) (sq + 1)
  refine lv_iload hx hb dX0_chanceBehind_0 (lv_at hl 4 rfl) ?_
  refine lv_aload_n hx hb dX0_chanceBehind_2 rfl (lv_at hl 0 rfl) ?_
  refine va_get hx hb hts hinX0 hown hK hPr 0 rfl rfl 2 (by decide) k1 (fun _ h => h) rfl dX0_chanceBehind_3 ?_
  refine z_icmp_le (tgt := 11) hx hb (by omega) (by omega) dX0_chanceBehind_6 (by decide) (fun c_6 => ?_) (fun c_6 => ?_)
  ·
    refine lv_iload_n hx hb dX0_chanceBehind_11 rfl (lv_at hl 3 rfl) ?_
    refine lv_aload_n hx hb dX0_chanceBehind_12 rfl (lv_at hl 1 rfl) ?_
    refine va_get hx hb hts hinX6 hown hK hPr 2 rfl rfl 2 (by decide) k2 (fun _ h => h) rfl dX0_chanceBehind_13 ?_
    refine z_iconst hx hb dX0_chanceBehind_16 ?_
    refine z_isub hx hb dX0_chanceBehind_17 ?_
    refine z_icmp_ne (tgt := 23) hx hb (by omega) (by omega) dX0_chanceBehind_18 (by decide) (fun c_18 => ?_) (fun c_18 => ?_)
    ·
      refine lv_aload_n hx hb dX0_chanceBehind_23 rfl (lv_at hl 0 rfl) ?_
      refine lv_aload_n hx hb dX0_chanceBehind_24 rfl (lv_at hl 1 rfl) ?_
      refine lv_iload_n hx hb dX0_chanceBehind_25 rfl (lv_at hl 2 rfl) ?_
      refine lv_iload hx hb dX0_chanceBehind_26 (lv_at hl 4 rfl) ?_
      refine z_pV (As := [.ref g0, zi la, zi sq]) (rest := []) hC (c_X0_chanceIn l D y w0 wh wb wl BE g0 ga gl gp gx gy GK la sq (by first | assumption | omega) (by first | assumption | omega) (by first | assumption | omega) (by first | assumption | omega) (by first | assumption | omega)) (cwV 3 hts gX0_chanceBehind_X0_chanceIn rfl rfl rfl (by decide +kernel) ⟨Nat.le_of_ble_eq_true rfl, Nat.le_of_ble_eq_true rfl⟩) hG (hPr.sub (ws' := [(w0, .inr (0, [.ref wh, .ref wb, zi wl])), (wb, .inl (y 1, 408, .inr (.inl (cL BE)))), (g0, .inr (5, [.ref ga, zi gl, zi gp, zi gx, zi gy])), (ga, .inl (y 0, 36, .inl (cI GK)))]) [0, 1, 2, 3] rfl) 0 rfl rfl rfl hl.1 rfl (Nat.le_of_ble_eq_true rfl) dX0_chanceBehind_28 ⟨Nat.le_of_ble_eq_true rfl, Nat.le_of_ble_eq_true rfl⟩ ?_
      refine lv_lstore (lv' := [(5, zl (chI gl wl (tab BE) la sq)), (0, .ref w0), (1, .ref g0), (2, zi la), (3, zi pl), (4, zi sq)]) hx hb dX0_chanceBehind_31 hl (by decide) rfl (fun ls hl => ?_)
      refine lv_aload_n hx hb dX0_chanceBehind_33 rfl (lv_at hl 1 rfl) ?_
      refine lv_aload_n hx hb dX0_chanceBehind_34 rfl (lv_at hl 2 rfl) ?_
      refine lv_iload_n hx hb dX0_chanceBehind_35 rfl (lv_at hl 3 rfl) ?_
      refine z_iconst hx hb dX0_chanceBehind_36 ?_
      refine z_isub hx hb dX0_chanceBehind_37 ?_
      refine lv_iload hx hb dX0_chanceBehind_38 (lv_at hl 5 rfl) ?_
      refine z_iconst hx hb dX0_chanceBehind_40 ?_
      refine z_iadd hx hb dX0_chanceBehind_41 ?_
      refine z_pV (As := [.ref g0, zi (la - 1), zi (sq + 1)]) (rest := []) hC (c_X0_chanceIn l D y w0 wh wb wl BE g0 ga gl gp gx gy GK (la - 1) (sq + 1) (by first | assumption | omega) (by first | assumption | omega) (by first | assumption | omega) (by first | assumption | omega) (by first | assumption | omega)) (cwV 3 hts gX0_chanceBehind_X0_chanceIn rfl rfl rfl (by decide +kernel) ⟨Nat.le_of_ble_eq_true rfl, Nat.le_of_ble_eq_true rfl⟩) hG (hPr.sub (ws' := [(w0, .inr (0, [.ref wh, .ref wb, zi wl])), (wb, .inl (y 1, 408, .inr (.inl (cL BE)))), (g0, .inr (5, [.ref ga, zi gl, zi gp, zi gx, zi gy])), (ga, .inl (y 0, 36, .inl (cI GK)))]) [0, 1, 2, 3] rfl) 0 rfl rfl rfl hl.1 rfl (Nat.le_of_ble_eq_true rfl) dX0_chanceBehind_42 ⟨Nat.le_of_ble_eq_true rfl, Nat.le_of_ble_eq_true rfl⟩ ?_
      refine lv_lstore (lv' := [(7, zl (chI gl wl (tab BE) (la - 1) (sq + 1))), (5, zl (chI gl wl (tab BE) la sq)), (0, .ref w0), (1, .ref g0), (2, zi la), (3, zi pl), (4, zi sq)]) hx hb dX0_chanceBehind_45 hl (by decide) rfl (fun ls hl => ?_)
      refine lv_aload_n hx hb dX0_chanceBehind_47 rfl (lv_at hl 2 rfl) ?_
      refine lv_aload_n hx hb dX0_chanceBehind_48 rfl (lv_at hl 3 rfl) ?_
      refine lv_iload_n hx hb dX0_chanceBehind_49 rfl (lv_at hl 4 rfl) ?_
      refine z_iconst hx hb dX0_chanceBehind_50 ?_
      refine z_iadd hx hb dX0_chanceBehind_51 ?_
      refine lv_iload hx hb dX0_chanceBehind_52 (lv_at hl 6 rfl) ?_
      refine z_iconst hx hb dX0_chanceBehind_54 ?_
      refine z_iadd hx hb dX0_chanceBehind_55 ?_
      refine z_pV (As := [.ref g0, zi (la + 1), zi (sq + 1)]) (rest := []) hC (c_X0_chanceIn l D y w0 wh wb wl BE g0 ga gl gp gx gy GK (la + 1) (sq + 1) (by first | assumption | omega) (by first | assumption | omega) (by first | assumption | omega) (by first | assumption | omega) (by first | assumption | omega)) (cwV 3 hts gX0_chanceBehind_X0_chanceIn rfl rfl rfl (by decide +kernel) ⟨Nat.le_of_ble_eq_true rfl, Nat.le_of_ble_eq_true rfl⟩) hG (hPr.sub (ws' := [(w0, .inr (0, [.ref wh, .ref wb, zi wl])), (wb, .inl (y 1, 408, .inr (.inl (cL BE)))), (g0, .inr (5, [.ref ga, zi gl, zi gp, zi gx, zi gy])), (ga, .inl (y 0, 36, .inl (cI GK)))]) [0, 1, 2, 3] rfl) 0 rfl rfl rfl hl.1 rfl (Nat.le_of_ble_eq_true rfl) dX0_chanceBehind_56 ⟨Nat.le_of_ble_eq_true rfl, Nat.le_of_ble_eq_true rfl⟩ ?_
      refine lv_lstore (lv' := [(9, zl (chI gl wl (tab BE) (la + 1) (sq + 1))), (7, zl (chI gl wl (tab BE) (la - 1) (sq + 1))), (5, zl (chI gl wl (tab BE) la sq)), (0, .ref w0), (1, .ref g0), (2, zi la), (3, zi pl), (4, zi sq)]) hx hb dX0_chanceBehind_59 hl (by decide) rfl (fun ls hl => ?_)
      refine lv_lload hx hb dX0_chanceBehind_61 (lv_at hl 2 rfl) ?_
      refine lv_lload hx hb dX0_chanceBehind_63 (lv_at hl 1 rfl) ?_
      refine lv_lload hx hb dX0_chanceBehind_65 (lv_at hl 0 rfl) ?_
      refine z_mmaxl hx hb (hml.trans hl.1.symm) hown k3 k4 k5 (hts _ (List.mem_of_getElem? (i := 6) rfl)) (Nat.le_of_ble_eq_true rfl) (Nat.le_of_ble_eq_true rfl) (Nat.le_of_ble_eq_true rfl) (Nat.le_of_ble_eq_true rfl) (by omega) dX0_chanceBehind_67 ?_
      refine z_mmaxl hx hb (hml.trans hl.1.symm) hown k3 k4 k5 (hts _ (List.mem_of_getElem? (i := 6) rfl)) (Nat.le_of_ble_eq_true rfl) (Nat.le_of_ble_eq_true rfl) (Nat.le_of_ble_eq_true rfl) (Nat.le_of_ble_eq_true rfl) (by omega) dX0_chanceBehind_70 ?_
      exact z_lret0 hx hb hr hlocks (by unfold chB; first | rw [if_pos (by omega)] | (rw [if_neg (by omega)]; first | rw [if_pos (by omega)] | rw [if_neg (by omega)])) dX0_chanceBehind_73
    ·
      refine lv_lconst (v := iL 1) hx hb dX0_chanceBehind_21 rfl ?_
      exact z_lret0 hx hb hr hlocks (by unfold chB; first | rw [if_pos (by omega)] | (rw [if_neg (by omega)]; first | rw [if_pos (by omega)] | rw [if_neg (by omega)])) dX0_chanceBehind_22
  ·
    refine lv_lconst (v := iL 0) hx hb dX0_chanceBehind_9 rfl ?_
    exact z_lret0 hx hb hr hlocks (by unfold chB; first | rw [if_pos (by omega)] | (rw [if_neg (by omega)]; first | rw [if_pos (by omega)] | rw [if_neg (by omega)])) dX0_chanceBehind_10
set_option maxHeartbeats 8000000 in
set_option maxRecDepth 100000 in
theorem c_X0_homeFrom (l : Launch) (D : va_G) (y : Nat → ClassId) (w0 : Nat) (wh : Nat) (wb : Nat) (wl : Int) (BE : Int → Int) (g0 : Nat) (ga : Nat) (gl : Int) (gp : Int) (gx : Int) (gy : Int) (GK : Int → Int) (la : Int) (hg : gOK gl gp gx gy GK) (hBE : wOK BE) (hwl : -9 ≤ wl ∧ wl ≤ 135) (hv : vld gl gp gx gy GK wl 1 BE) (hla : 0 ≤ la ∧ la < gl) : Met l yX0_homeFrom wsX0_homeFrom ({ frames := 4, cells := 0, slots := 0, locals := 88 } : Room) (pPc D y [(w0, .inr (0, [.ref wh, .ref wb, zi wl])), (wb, .inl (y 1, 408, .inr (.inl (cL BE)))), (g0, .inr (5, [.ref ga, zi gl, zi gp, zi gx, zi gy])), (ga, .inl (y 0, 36, .inl (cI GK)))] [.ref w0, .ref g0, zi la]) (qV (zl (chH gl gp gx gy GK wl gp.toNat la 0))) 0 0 (fun _ => False) := by
  refine P_of (own := RX0) (cc := cX0_homeFrom) (maxL := 3) (ret := some .long) (by decide) rfl rfl (Nat.le_of_ble_eq_true rfl) (fun p e s m below meth c ls hx hb hr hC hlocks hPr hG hl => ?_)
  have hC0 := hC
  obtain ⟨-, -, hml, hown, hts⟩ := hC0
  have hK := hG.1
  have hl : lv_has ls 3 [(0, .ref w0), (1, .ref g0), (2, zi la)] := hl
  obtain ⟨u1, u2, u3, u4, uk⟩ := id hg
  have b1 := acrV_bd (k := kAt gl gp GK la 0) u3 u4
  have b2 := secV_bd (kAt_bd hg la 0)
  refine lv_aload_n hx hb dX0_homeFrom_0 rfl (lv_at hl 1 rfl) ?_
  refine lv_iload_n hx hb dX0_homeFrom_1 rfl (lv_at hl 2 rfl) ?_
  refine z_iconst hx hb dX0_homeFrom_2 ?_
  refine z_pV (As := [zi la, zi 0]) (rest := []) hC (c_X6_tenthsAcross l D y g0 ga gl gp gx gy GK la 0 (by first | assumption | omega) (by first | assumption | omega) (by first | assumption | omega)) (cwV 2 hts gX0_homeFrom_X6_tenthsAcross rfl rfl rfl (by decide +kernel) ⟨Nat.le_of_ble_eq_true rfl, Nat.le_of_ble_eq_true rfl⟩) hG (hPr.sub (ws' := [(g0, .inr (5, [.ref ga, zi gl, zi gp, zi gx, zi gy])), (ga, .inl (y 0, 36, .inl (cI GK)))]) [2, 3] rfl) 0 rfl rfl rfl hl.1 rfl (Nat.le_of_ble_eq_true rfl) dX0_homeFrom_3 ⟨Nat.le_of_ble_eq_true rfl, Nat.le_of_ble_eq_true rfl⟩ ?_
  refine z_i2l hx hb (by omega) dX0_homeFrom_6 ?_
  refine lv_aload_n hx hb dX0_homeFrom_7 rfl (lv_at hl 0 rfl) ?_
  refine lv_aload_n hx hb dX0_homeFrom_8 rfl (lv_at hl 1 rfl) ?_
  refine lv_iload_n hx hb dX0_homeFrom_9 rfl (lv_at hl 2 rfl) ?_
  refine z_iconst hx hb dX0_homeFrom_10 ?_
  refine lv_aload_n hx hb dX0_homeFrom_11 rfl (lv_at hl 1 rfl) ?_
  refine lv_iload_n hx hb dX0_homeFrom_12 rfl (lv_at hl 2 rfl) ?_
  refine z_iconst hx hb dX0_homeFrom_13 ?_
  refine z_pV (As := [zi la, zi 0]) (rest := [zi 0, zi la, .ref g0, .ref w0, zl (acrV gx gy (kAt gl gp GK la 0))]) hC (c_X6_secondsAt l D y g0 ga gl gp gx gy GK la 0 (by first | assumption | omega) (by first | assumption | omega) (by first | assumption | omega)) (cwV 2 hts gX0_homeFrom_X6_secondsAt rfl rfl rfl (by decide +kernel) ⟨Nat.le_of_ble_eq_true rfl, Nat.le_of_ble_eq_true rfl⟩) hG (hPr.sub (ws' := [(g0, .inr (5, [.ref ga, zi gl, zi gp, zi gx, zi gy])), (ga, .inl (y 0, 36, .inl (cI GK)))]) [2, 3] rfl) 0 rfl rfl rfl hl.1 rfl (Nat.le_of_ble_eq_true rfl) dX0_homeFrom_14 ⟨Nat.le_of_ble_eq_true rfl, Nat.le_of_ble_eq_true rfl⟩ ?_
  refine z_pV (As := [.ref g0, zi la, zi 0, zi (secV (kAt gl gp GK la 0))]) (rest := [zl (acrV gx gy (kAt gl gp GK la 0))]) hC (c_X0_chanceBehind l D y w0 wh wb wl BE g0 ga gl gp gx gy GK la 0 (secV (kAt gl gp GK la 0)) (by first | assumption | omega) (by first | assumption | omega) (by first | assumption | omega) (by first | assumption | omega) (by first | assumption | omega) (by first | assumption | omega)) (cwV 4 hts gX0_homeFrom_X0_chanceBehind rfl rfl rfl (by decide +kernel) ⟨Nat.le_of_ble_eq_true rfl, Nat.le_of_ble_eq_true rfl⟩) hG (hPr.sub (ws' := [(w0, .inr (0, [.ref wh, .ref wb, zi wl])), (wb, .inl (y 1, 408, .inr (.inl (cL BE)))), (g0, .inr (5, [.ref ga, zi gl, zi gp, zi gx, zi gy])), (ga, .inl (y 0, 36, .inl (cI GK)))]) [0, 1, 2, 3] rfl) 0 rfl rfl rfl hl.1 rfl (Nat.le_of_ble_eq_true rfl) dX0_homeFrom_17 ⟨Nat.le_of_ble_eq_true rfl, Nat.le_of_ble_eq_true rfl⟩ ?_
  refine z_lmul hx hb dX0_homeFrom_20 ?_
  exact z_lret0 hx hb hr hlocks (home_tab hg hv la) dX0_homeFrom_21
set_option maxHeartbeats 8000000 in
set_option maxRecDepth 100000 in
theorem c_X0_bestLane (l : Launch) (D : va_G) (y : Nat → ClassId) (w0 : Nat) (wh : Nat) (wb : Nat) (wl : Int) (BE : Int → Int) (g0 : Nat) (ga : Nat) (gl : Int) (gp : Int) (gx : Int) (gy : Int) (GK : Int → Int) (hg : gOK gl gp gx gy GK) (hBE : wOK BE) (hwl : -9 ≤ wl ∧ wl ≤ 135) (hv : vld gl gp gx gy GK wl 1 BE) : Met l yX0_bestLane wsX0_bestLane ({ frames := 5, cells := 0, slots := 0, locals := 110 } : Room) (pPc D y [(w0, .inr (0, [.ref wh, .ref wb, zi wl])), (wb, .inl (y 1, 408, .inr (.inl (cL BE)))), (g0, .inr (5, [.ref ga, zi gl, zi gp, zi gx, zi gy])), (ga, .inl (y 0, 36, .inl (cI GK)))] [.ref w0, .ref g0]) (qV (zi (bstF (fun la => chH gl gp gx gy GK wl gp.toNat la 0) (gl - 1).toNat))) 0 0 (fun _ => False) := by
  refine P_of (own := RX0) (cc := cX0_bestLane) (maxL := 4) (ret := some .int) (by decide) rfl rfl (Nat.le_of_ble_eq_true rfl) (fun p e s m below meth c ls hx hb hr hC hlocks hPr hG hl => ?_)
  have hC0 := hC
  obtain ⟨-, -, hml, hown, hts⟩ := hC0
  have hK := hG.1
  have hinX6 : ∀ w ∈ wsX60, w ∈ wsX0_bestLane := fun _ h => List.mem_cons_of_mem _ (List.mem_append_left _ (List.mem_append_right _ h))
  have k1 := hts (.fieldLink RX0 33 "BoatsOfPaper$Gutter" "lanes" "I") (List.mem_of_getElem? (i := 1) rfl)
  have hl : lv_has ls 4 [(0, .ref w0), (1, .ref g0)] := hl
  obtain ⟨u1, u2, u3, u4, uk⟩ := id hg
  have b1 := ten12 (r := gp.toNat) (by omega)
  refine z_iconst hx hb dX0_bestLane_0 ?_
  refine lv_istore_n (lv' := [(2, zi 0), (0, .ref w0), (1, .ref g0)]) hx hb dX0_bestLane_1 rfl hl (by decide) rfl (fun ls hl => ?_)
  refine z_iconst hx hb dX0_bestLane_2 ?_
  refine lv_istore_n (lv' := [(3, zi 1), (2, zi 0), (0, .ref w0), (1, .ref g0)]) hx hb dX0_bestLane_3 rfl hl (by decide) rfl (fun ls hl => ?_)
  refine z_loop (σ := Int × Int) (fun x9 H lc ls => match x9 with | (v, k) => ((1 ≤ k ∧ k ≤ gl) ∧ v = bstF (fun la => chH gl gp gx gy GK wl gp.toNat la 0) (k - 1).toNat) ∧ lv_has ls 4 [(3, zi k), (2, zi v), (0, .ref w0), (1, .ref g0)] ∧ H = s.heap ∧ lc = []) (fun x9  => match x9 with | (v, k) => ((gl - k).toNat)) ?_ (0, 1) ⟨⟨by omega, rfl⟩, lv_sub hl [0, 1, 2, 3] rfl, rfl, rfl⟩
  rintro ⟨v, k⟩ H lc ls ⟨hi4, hl, rfl, rfl⟩ ih4
  have b2 := bstF_bd (fun la => chH gl gp gx gy GK wl gp.toNat la 0) (k - 1).toNat
  refine lv_iload_n hx hb dX0_bestLane_4 rfl (lv_at hl 0 rfl) ?_
  refine lv_aload_n hx hb dX0_bestLane_5 rfl (lv_at hl 3 rfl) ?_
  refine va_get hx hb hts hinX6 hown hK hPr 2 rfl rfl 1 (by decide) k1 (fun _ h => h) rfl dX0_bestLane_6 ?_
  refine z_icmp_ge (tgt := 36) hx hb (by omega) (by omega) dX0_bestLane_9 (by decide) (fun c_9 => ?_) (fun c_9 => ?_)
  ·
    refine lv_iload_n hx hb dX0_bestLane_36 rfl (lv_at hl 1 rfl) ?_
    exact z_iret0 hx hb hr hlocks (by rw [hi4.2, show k = gl by omega]) dX0_bestLane_37
  ·
    refine lv_aload_n hx hb dX0_bestLane_12 rfl (lv_at hl 2 rfl) ?_
    refine lv_aload_n hx hb dX0_bestLane_13 rfl (lv_at hl 3 rfl) ?_
    refine lv_iload_n hx hb dX0_bestLane_14 rfl (lv_at hl 0 rfl) ?_
    refine z_pV (As := [.ref g0, zi k]) (rest := []) hC (c_X0_homeFrom l D y w0 wh wb wl BE g0 ga gl gp gx gy GK k (by first | assumption | omega) (by first | assumption | omega) (by first | assumption | omega) (by first | assumption | omega) (by first | assumption | omega)) (cwV 2 hts gX0_bestLane_X0_homeFrom rfl rfl rfl (by decide +kernel) ⟨Nat.le_of_ble_eq_true rfl, Nat.le_of_ble_eq_true rfl⟩) hG (hPr.sub (ws' := [(w0, .inr (0, [.ref wh, .ref wb, zi wl])), (wb, .inl (y 1, 408, .inr (.inl (cL BE)))), (g0, .inr (5, [.ref ga, zi gl, zi gp, zi gx, zi gy])), (ga, .inl (y 0, 36, .inl (cI GK)))]) [0, 1, 2, 3] rfl) 0 rfl rfl rfl hl.1 rfl (Nat.le_of_ble_eq_true rfl) dX0_bestLane_15 ⟨Nat.le_of_ble_eq_true rfl, Nat.le_of_ble_eq_true rfl⟩ ?_
    refine lv_aload_n hx hb dX0_bestLane_18 rfl (lv_at hl 2 rfl) ?_
    refine lv_aload_n hx hb dX0_bestLane_19 rfl (lv_at hl 3 rfl) ?_
    refine lv_iload_n hx hb dX0_bestLane_20 rfl (lv_at hl 1 rfl) ?_
    refine z_pV (As := [.ref g0, zi v]) (rest := [zl (chH gl gp gx gy GK wl gp.toNat k 0)]) hC (c_X0_homeFrom l D y w0 wh wb wl BE g0 ga gl gp gx gy GK v (by first | assumption | omega) (by first | assumption | omega) (by first | assumption | omega) (by first | assumption | omega) (by first | assumption | omega)) (cwV 2 hts gX0_bestLane_X0_homeFrom rfl rfl rfl (by decide +kernel) ⟨Nat.le_of_ble_eq_true rfl, Nat.le_of_ble_eq_true rfl⟩) hG (hPr.sub (ws' := [(w0, .inr (0, [.ref wh, .ref wb, zi wl])), (wb, .inl (y 1, 408, .inr (.inl (cL BE)))), (g0, .inr (5, [.ref ga, zi gl, zi gp, zi gx, zi gy])), (ga, .inl (y 0, 36, .inl (cI GK)))]) [0, 1, 2, 3] rfl) 0 rfl rfl rfl hl.1 rfl (Nat.le_of_ble_eq_true rfl) dX0_bestLane_21 ⟨Nat.le_of_ble_eq_true rfl, Nat.le_of_ble_eq_true rfl⟩ ?_
    have b3 := chH_bd hg wl gp.toNat k 0
    have b4 := chH_bd hg wl gp.toNat v 0
    refine z_lcmp_le (tgt := 30) hx hb (by omega) (by omega) dX0_bestLane_24 dX0_bestLane_25 (by decide) (fun c_24 => ?_) (fun c_24 => ?_)
    ·
      refine z_iinc (k := 0) (lv' := [(3, zi (k + 1)), (2, zi v), (0, .ref w0), (1, .ref g0)]) hx hb dX0_bestLane_30 hl rfl (by decide) rfl (fun ls hl => ?_)
      refine lv_goto (tgt := 4) hx hb dX0_bestLane_33 (by decide) ?_
      exact ih4 (v, k + 1) _ _ _ (by first | (dsimp only; omega) | omega) ⟨⟨by omega, by rw [bstF_s _ (by omega), ← hi4.2]; first | exact (if_pos (by omega)).symm | exact (if_neg (by omega)).symm⟩, lv_sub hl [0, 1, 2, 3] rfl, rfl, rfl⟩
    ·
      refine lv_iload_n hx hb dX0_bestLane_28 rfl (lv_at hl 0 rfl) ?_
      refine lv_istore_n (lv' := [(2, zi k), (3, zi k), (0, .ref w0), (1, .ref g0)]) hx hb dX0_bestLane_29 rfl hl (by decide) rfl (fun ls hl => ?_)
      refine z_iinc (k := 1) (lv' := [(3, zi (k + 1)), (2, zi k), (0, .ref w0), (1, .ref g0)]) hx hb dX0_bestLane_30 hl rfl (by decide) rfl (fun ls hl => ?_)
      refine lv_goto (tgt := 4) hx hb dX0_bestLane_33 (by decide) ?_
      exact ih4 (k, k + 1) _ _ _ (by first | (dsimp only; omega) | omega) ⟨⟨by omega, by rw [bstF_s _ (by omega), ← hi4.2]; first | exact (if_pos (by omega)).symm | exact (if_neg (by omega)).symm⟩, lv_sub hl [0, 1, 2, 3] rfl, rfl, rfl⟩
set_option maxHeartbeats 8000000 in
set_option maxRecDepth 100000 in
theorem c_X0_laneBehindFirst (l : Launch) (D : va_G) (y : Nat → ClassId) (w0 : Nat) (wh : Nat) (wb : Nat) (wl : Int) (BE : Int → Int) (g0 : Nat) (ga : Nat) (gl : Int) (gp : Int) (gx : Int) (gy : Int) (GK : Int → Int) (la : Int) (hg : gOK gl gp gx gy GK) (hBE : wOK BE) (hwl : -9 ≤ wl ∧ wl ≤ 135) (hv : vld gl gp gx gy GK wl 1 BE) (hla : 0 ≤ la ∧ la < gl) (hgp : 2 ≤ gp) : Met l yX0_laneBehindFirst wsX0_laneBehindFirst ({ frames := 5, cells := 0, slots := 0, locals := 110 } : Room) (pPc D y [(w0, .inr (0, [.ref wh, .ref wb, zi wl])), (wb, .inl (y 1, 408, .inr (.inl (cL BE)))), (g0, .inr (5, [.ref ga, zi gl, zi gp, zi gx, zi gy])), (ga, .inl (y 0, 36, .inl (cI GK)))] [.ref w0, .ref g0, zi la]) (qV (zi (frsV gl gp gx gy GK wl la))) 0 0 (fun _ => False) := by
  refine P_of (own := RX0) (cc := cX0_laneBehindFirst) (maxL := 10) (ret := some .int) (by decide) rfl rfl (Nat.le_of_ble_eq_true rfl) (fun p e s m below meth c ls hx hb hr hC hlocks hPr hG hl => ?_)
  have hC0 := hC
  obtain ⟨-, -, hml, hown, hts⟩ := hC0
  have hK := hG.1
  have hl : lv_has ls 10 [(0, .ref w0), (1, .ref g0), (2, zi la)] := hl
  obtain ⟨u1, u2, u3, u4, uk⟩ := id hg
  have b1 := ten12 (r := gp.toNat) (by omega)
  have b2 := chH_bd hg wl gp.toNat la 0
  have b3 := secV_bd (kAt_bd hg la 0)
  have b0 := tab_bd hBE (gl := gl) (lf := wl) (by omega) (by omega)
  have d1 := chI_bd (B := 10000000000000) (by omega) b0 la (secV (kAt gl gp GK la 0))
  have d2 := chI_bd (B := 10000000000000) (by omega) b0 (la - 1) (secV (kAt gl gp GK la 0) + 1)
  have d3 := chI_bd (B := 10000000000000) (by omega) b0 (la + 1) (secV (kAt gl gp GK la 0) + 1)
  have z0 : chH gl gp gx gy GK wl gp.toNat la 0 ≠ 0 → 1 ≤ secV (kAt gl gp GK la 0) := fun q => by
    rcases sec_acr u3 u4 (kAt_bd hg la 0) with z | z
    · rw [← home_tab hg hv la, z, Int.zero_mul] at q; exact absurd rfl q
    · exact z.1
  refine lv_aload_n hx hb dX0_laneBehindFirst_0 rfl (lv_at hl 0 rfl) ?_
  refine lv_aload_n hx hb dX0_laneBehindFirst_1 rfl (lv_at hl 1 rfl) ?_
  refine lv_iload_n hx hb dX0_laneBehindFirst_2 rfl (lv_at hl 2 rfl) ?_
  refine z_pV (As := [.ref g0, zi la]) (rest := []) hC (c_X0_homeFrom l D y w0 wh wb wl BE g0 ga gl gp gx gy GK la (by first | assumption | omega) (by first | assumption | omega) (by first | assumption | omega) (by first | assumption | omega) (by first | assumption | omega)) (cwV 2 hts gX0_laneBehindFirst_X0_homeFrom rfl rfl rfl (by decide +kernel) ⟨Nat.le_of_ble_eq_true rfl, Nat.le_of_ble_eq_true rfl⟩) hG (hPr.sub (ws' := [(w0, .inr (0, [.ref wh, .ref wb, zi wl])), (wb, .inl (y 1, 408, .inr (.inl (cL BE)))), (g0, .inr (5, [.ref ga, zi gl, zi gp, zi gx, zi gy])), (ga, .inl (y 0, 36, .inl (cI GK)))]) [0, 1, 2, 3] rfl) 0 rfl rfl rfl hl.1 rfl (Nat.le_of_ble_eq_true rfl) dX0_laneBehindFirst_3 ⟨Nat.le_of_ble_eq_true rfl, Nat.le_of_ble_eq_true rfl⟩ ?_
  refine lv_lconst (v := iL 0) hx hb dX0_laneBehindFirst_6 rfl ?_
  refine z_lcmp_ne (tgt := 13) hx hb (by omega) (by omega) dX0_laneBehindFirst_7 dX0_laneBehindFirst_8 (by decide) (fun c_7 => ?_) (fun c_7 => ?_)
  ·
    have z1 := z0 (by omega)
    have t1 := chI_tab (la := la) (s := secV (kAt gl gp GK la 0)) hv (by omega) (by omega) (by omega)
    have t2 := chI_tab (la := la - 1) (s := secV (kAt gl gp GK la 0) + 1) hv (by omega) (by omega) (by omega)
    have t3 := chI_tab (la := la + 1) (s := secV (kAt gl gp GK la 0) + 1) hv (by omega) (by omega) (by omega)
    refine lv_aload_n hx hb dX0_laneBehindFirst_13 rfl (lv_at hl 1 rfl) ?_
    refine lv_iload_n hx hb dX0_laneBehindFirst_14 rfl (lv_at hl 2 rfl) ?_
    refine z_iconst hx hb dX0_laneBehindFirst_15 ?_
    refine z_pV (As := [zi la, zi 0]) (rest := []) hC (c_X6_secondsAt l D y g0 ga gl gp gx gy GK la 0 (by first | assumption | omega) (by first | assumption | omega) (by first | assumption | omega)) (cwV 2 hts gX0_laneBehindFirst_X6_secondsAt rfl rfl rfl (by decide +kernel) ⟨Nat.le_of_ble_eq_true rfl, Nat.le_of_ble_eq_true rfl⟩) hG (hPr.sub (ws' := [(g0, .inr (5, [.ref ga, zi gl, zi gp, zi gx, zi gy])), (ga, .inl (y 0, 36, .inl (cI GK)))]) [2, 3] rfl) 0 rfl rfl rfl hl.1 rfl (Nat.le_of_ble_eq_true rfl) dX0_laneBehindFirst_16 ⟨Nat.le_of_ble_eq_true rfl, Nat.le_of_ble_eq_true rfl⟩ ?_
    refine lv_istore_n (lv' := [(3, zi (secV (kAt gl gp GK la 0))), (0, .ref w0), (1, .ref g0), (2, zi la)]) hx hb dX0_laneBehindFirst_19 rfl hl (by decide) rfl (fun ls hl => ?_)
    refine lv_aload_n hx hb dX0_laneBehindFirst_20 rfl (lv_at hl 1 rfl) ?_
    refine lv_aload_n hx hb dX0_laneBehindFirst_21 rfl (lv_at hl 2 rfl) ?_
    refine lv_iload_n hx hb dX0_laneBehindFirst_22 rfl (lv_at hl 3 rfl) ?_
    refine lv_iload_n hx hb dX0_laneBehindFirst_23 rfl (lv_at hl 0 rfl) ?_
    refine z_pV (As := [.ref g0, zi la, zi (secV (kAt gl gp GK la 0))]) (rest := []) hC (c_X0_chanceIn l D y w0 wh wb wl BE g0 ga gl gp gx gy GK la (secV (kAt gl gp GK la 0)) (by first | assumption | omega) (by first | assumption | omega) (by first | assumption | omega) (by first | assumption | omega) (by first | assumption | omega)) (cwV 3 hts gX0_laneBehindFirst_X0_chanceIn rfl rfl rfl (by decide +kernel) ⟨Nat.le_of_ble_eq_true rfl, Nat.le_of_ble_eq_true rfl⟩) hG (hPr.sub (ws' := [(w0, .inr (0, [.ref wh, .ref wb, zi wl])), (wb, .inl (y 1, 408, .inr (.inl (cL BE)))), (g0, .inr (5, [.ref ga, zi gl, zi gp, zi gx, zi gy])), (ga, .inl (y 0, 36, .inl (cI GK)))]) [0, 1, 2, 3] rfl) 0 rfl rfl rfl hl.1 rfl (Nat.le_of_ble_eq_true rfl) dX0_laneBehindFirst_24 ⟨Nat.le_of_ble_eq_true rfl, Nat.le_of_ble_eq_true rfl⟩ ?_
    refine lv_lstore (lv' := [(4, zl (chI gl wl (tab BE) la (secV (kAt gl gp GK la 0)))), (3, zi (secV (kAt gl gp GK la 0))), (0, .ref w0), (1, .ref g0), (2, zi la)]) hx hb dX0_laneBehindFirst_27 hl (by decide) rfl (fun ls hl => ?_)
    refine lv_aload_n hx hb dX0_laneBehindFirst_29 rfl (lv_at hl 2 rfl) ?_
    refine lv_aload_n hx hb dX0_laneBehindFirst_30 rfl (lv_at hl 3 rfl) ?_
    refine lv_iload_n hx hb dX0_laneBehindFirst_31 rfl (lv_at hl 4 rfl) ?_
    refine z_iconst hx hb dX0_laneBehindFirst_32 ?_
    refine z_isub hx hb dX0_laneBehindFirst_33 ?_
    refine lv_iload_n hx hb dX0_laneBehindFirst_34 rfl (lv_at hl 1 rfl) ?_
    refine z_iconst hx hb dX0_laneBehindFirst_35 ?_
    refine z_iadd hx hb dX0_laneBehindFirst_36 ?_
    refine z_pV (As := [.ref g0, zi (la - 1), zi ((secV (kAt gl gp GK la 0)) + 1)]) (rest := []) hC (c_X0_chanceIn l D y w0 wh wb wl BE g0 ga gl gp gx gy GK (la - 1) ((secV (kAt gl gp GK la 0)) + 1) (by first | assumption | omega) (by first | assumption | omega) (by first | assumption | omega) (by first | assumption | omega) (by first | assumption | omega)) (cwV 3 hts gX0_laneBehindFirst_X0_chanceIn rfl rfl rfl (by decide +kernel) ⟨Nat.le_of_ble_eq_true rfl, Nat.le_of_ble_eq_true rfl⟩) hG (hPr.sub (ws' := [(w0, .inr (0, [.ref wh, .ref wb, zi wl])), (wb, .inl (y 1, 408, .inr (.inl (cL BE)))), (g0, .inr (5, [.ref ga, zi gl, zi gp, zi gx, zi gy])), (ga, .inl (y 0, 36, .inl (cI GK)))]) [0, 1, 2, 3] rfl) 0 rfl rfl rfl hl.1 rfl (Nat.le_of_ble_eq_true rfl) dX0_laneBehindFirst_37 ⟨Nat.le_of_ble_eq_true rfl, Nat.le_of_ble_eq_true rfl⟩ ?_
    refine lv_lstore (lv' := [(6, zl (chI gl wl (tab BE) (la - 1) ((secV (kAt gl gp GK la 0)) + 1))), (4, zl (chI gl wl (tab BE) la (secV (kAt gl gp GK la 0)))), (3, zi (secV (kAt gl gp GK la 0))), (0, .ref w0), (1, .ref g0), (2, zi la)]) hx hb dX0_laneBehindFirst_40 hl (by decide) rfl (fun ls hl => ?_)
    refine lv_aload_n hx hb dX0_laneBehindFirst_42 rfl (lv_at hl 3 rfl) ?_
    refine lv_aload_n hx hb dX0_laneBehindFirst_43 rfl (lv_at hl 4 rfl) ?_
    refine lv_iload_n hx hb dX0_laneBehindFirst_44 rfl (lv_at hl 5 rfl) ?_
    refine z_iconst hx hb dX0_laneBehindFirst_45 ?_
    refine z_iadd hx hb dX0_laneBehindFirst_46 ?_
    refine lv_iload_n hx hb dX0_laneBehindFirst_47 rfl (lv_at hl 2 rfl) ?_
    refine z_iconst hx hb dX0_laneBehindFirst_48 ?_
    refine z_iadd hx hb dX0_laneBehindFirst_49 ?_
    refine z_pV (As := [.ref g0, zi (la + 1), zi ((secV (kAt gl gp GK la 0)) + 1)]) (rest := []) hC (c_X0_chanceIn l D y w0 wh wb wl BE g0 ga gl gp gx gy GK (la + 1) ((secV (kAt gl gp GK la 0)) + 1) (by first | assumption | omega) (by first | assumption | omega) (by first | assumption | omega) (by first | assumption | omega) (by first | assumption | omega)) (cwV 3 hts gX0_laneBehindFirst_X0_chanceIn rfl rfl rfl (by decide +kernel) ⟨Nat.le_of_ble_eq_true rfl, Nat.le_of_ble_eq_true rfl⟩) hG (hPr.sub (ws' := [(w0, .inr (0, [.ref wh, .ref wb, zi wl])), (wb, .inl (y 1, 408, .inr (.inl (cL BE)))), (g0, .inr (5, [.ref ga, zi gl, zi gp, zi gx, zi gy])), (ga, .inl (y 0, 36, .inl (cI GK)))]) [0, 1, 2, 3] rfl) 0 rfl rfl rfl hl.1 rfl (Nat.le_of_ble_eq_true rfl) dX0_laneBehindFirst_50 ⟨Nat.le_of_ble_eq_true rfl, Nat.le_of_ble_eq_true rfl⟩ ?_
    refine lv_lstore (lv' := [(8, zl (chI gl wl (tab BE) (la + 1) ((secV (kAt gl gp GK la 0)) + 1))), (6, zl (chI gl wl (tab BE) (la - 1) ((secV (kAt gl gp GK la 0)) + 1))), (4, zl (chI gl wl (tab BE) la (secV (kAt gl gp GK la 0)))), (3, zi (secV (kAt gl gp GK la 0))), (0, .ref w0), (1, .ref g0), (2, zi la)]) hx hb dX0_laneBehindFirst_53 hl (by decide) rfl (fun ls hl => ?_)
    refine lv_lload hx hb dX0_laneBehindFirst_55 (lv_at hl 2 rfl) ?_
    refine lv_lload hx hb dX0_laneBehindFirst_57 (lv_at hl 1 rfl) ?_
    refine z_lcmp_lt (tgt := 73) hx hb (by omega) (by omega) dX0_laneBehindFirst_59 dX0_laneBehindFirst_60 (by decide) (fun c_59 => ?_) (fun c_59 => ?_)
    ·
      refine lv_lload hx hb dX0_laneBehindFirst_73 (lv_at hl 1 rfl) ?_
      refine lv_lload hx hb dX0_laneBehindFirst_75 (lv_at hl 0 rfl) ?_
      refine z_lcmp_lt (tgt := 87) hx hb (by omega) (by omega) dX0_laneBehindFirst_77 dX0_laneBehindFirst_78 (by decide) (fun c_77 => ?_) (fun c_77 => ?_)
      ·
        refine lv_iload_n hx hb dX0_laneBehindFirst_87 rfl (lv_at hl 6 rfl) ?_
        refine z_iconst hx hb dX0_laneBehindFirst_88 ?_
        refine z_iadd hx hb dX0_laneBehindFirst_89 ?_
        exact z_iret0 hx hb hr hlocks (by unfold frsV; rw [if_neg (by omega), ← t1, ← t2, ← t3]; (repeat' split) <;> omega) dX0_laneBehindFirst_90
      ·
        refine lv_iload_n hx hb dX0_laneBehindFirst_81 rfl (lv_at hl 6 rfl) ?_
        refine z_iconst hx hb dX0_laneBehindFirst_82 ?_
        refine z_isub hx hb dX0_laneBehindFirst_83 ?_
        refine lv_goto (tgt := 90) hx hb dX0_laneBehindFirst_84 (by decide) ?_
        exact z_iret0 hx hb hr hlocks (by unfold frsV; rw [if_neg (by omega), ← t1, ← t2, ← t3]; (repeat' split) <;> omega) dX0_laneBehindFirst_90
    ·
      refine lv_lload hx hb dX0_laneBehindFirst_63 (lv_at hl 2 rfl) ?_
      refine lv_lload hx hb dX0_laneBehindFirst_65 (lv_at hl 0 rfl) ?_
      refine z_lcmp_lt (tgt := 73) hx hb (by omega) (by omega) dX0_laneBehindFirst_67 dX0_laneBehindFirst_68 (by decide) (fun c_67 => ?_) (fun c_67 => ?_)
      ·
        refine lv_lload hx hb dX0_laneBehindFirst_73 (lv_at hl 1 rfl) ?_
        refine lv_lload hx hb dX0_laneBehindFirst_75 (lv_at hl 0 rfl) ?_
        refine z_lcmp_lt (tgt := 87) hx hb (by omega) (by omega) dX0_laneBehindFirst_77 dX0_laneBehindFirst_78 (by decide) (fun c_77 => ?_) (fun c_77 => ?_)
        ·
          refine lv_iload_n hx hb dX0_laneBehindFirst_87 rfl (lv_at hl 6 rfl) ?_
          refine z_iconst hx hb dX0_laneBehindFirst_88 ?_
          refine z_iadd hx hb dX0_laneBehindFirst_89 ?_
          exact z_iret0 hx hb hr hlocks (by unfold frsV; rw [if_neg (by omega), ← t1, ← t2, ← t3]; (repeat' split) <;> omega) dX0_laneBehindFirst_90
        ·
          refine lv_iload_n hx hb dX0_laneBehindFirst_81 rfl (lv_at hl 6 rfl) ?_
          refine z_iconst hx hb dX0_laneBehindFirst_82 ?_
          refine z_isub hx hb dX0_laneBehindFirst_83 ?_
          refine lv_goto (tgt := 90) hx hb dX0_laneBehindFirst_84 (by decide) ?_
          exact z_iret0 hx hb hr hlocks (by unfold frsV; rw [if_neg (by omega), ← t1, ← t2, ← t3]; (repeat' split) <;> omega) dX0_laneBehindFirst_90
      ·
        refine lv_iload_n hx hb dX0_laneBehindFirst_71 rfl (lv_at hl 6 rfl) ?_
        exact z_iret0 hx hb hr hlocks (by unfold frsV; rw [if_neg (by omega), ← t1, ← t2, ← t3]; (repeat' split) <;> omega) dX0_laneBehindFirst_72
  ·
    refine lv_iload_n hx hb dX0_laneBehindFirst_11 rfl (lv_at hl 2 rfl) ?_
    exact z_iret0 hx hb hr hlocks (by unfold frsV; rw [if_pos (by omega)]) dX0_laneBehindFirst_12
set_option maxHeartbeats 8000000 in
set_option maxRecDepth 100000 in
theorem c_X0_lookFrom (l : Launch) (D : va_G) (y : Nat → ClassId) (w0 : Nat) (wh : Nat) (wb : Nat) (wl : Int) (HE : Int → Int) (BE : Int → Int) (g0 : Nat) (ga : Nat) (gl : Int) (gp : Int) (gx : Int) (gy : Int) (GK : Int → Int) (la : Int) (pl : Int) (hg : gOK gl gp gx gy GK) (hHE : wOK HE) (hBE : wOK BE) (hwl : -9 ≤ wl ∧ wl ≤ 135) (hv : vld gl gp gx gy GK wl (pl + 1) BE) (hla : 0 ≤ la ∧ la < gl) (hpl : 1 ≤ pl ∧ pl < gp) (sz : Nat) : Met l yX0_lookFrom wsX0_lookFrom ({ frames := 4, cells := 0, slots := 0, locals := 88 } : Room) (wPc D y [(g0, .inr (5, [.ref ga, zi gl, zi gp, zi gx, zi gy])), (ga, .inl (y 0, 36, .inl (cI GK)))] [(w0, .inr (0, [.ref wh, .ref wb, zi wl])), (wh, .inl (y 1, 408, .inr (.inl (cL HE)))), (wb, .inl (y 1, 408, .inr (.inl (cL BE))))] sz [.ref w0, .ref g0, zi la, zi pl]) (wQ D (fun (HE2 : (Int → Int)) => none) (fun (HE2 : (Int → Int)) => wOK HE2 ∧ (∀ t : Int, pl ≤ t → t ≤ wl → t ≤ 10 * pl → HE2 (la * 136 + t) = chH gl gp gx gy GK wl (gp - pl).toNat la t) ∧ ∀ i : Int, ¬ (la * 136 ≤ i ∧ i < la * 136 + 136) → HE2 i = HE i) (fun (HE2 : (Int → Int)) => [(w0, .inr (0, [.ref wh, .ref wb, zi wl])), (wh, .inl (y 1, 408, .inr (.inl (cL HE2)))), (wb, .inl (y 1, 408, .inr (.inl (cL BE))))]) (va_A [(w0, .inr (0, [.ref wh, .ref wb, zi wl])), (wh, .inl (y 1, 408, .inr (.inl (cL HE)))), (wb, .inl (y 1, 408, .inr (.inl (cL BE))))] sz)) 0 0 (va_A [(w0, .inr (0, [.ref wh, .ref wb, zi wl])), (wh, .inl (y 1, 408, .inr (.inl (cL HE)))), (wb, .inl (y 1, 408, .inr (.inl (cL BE))))] sz) := by
  refine W_of (own := RX0) (cc := cX0_lookFrom) (maxL := 8) (ret := none) (by decide) rfl rfl (Nat.le_of_ble_eq_true rfl) (fun p e s m below meth c ls A hx hb hr hC hlocks hin0 hR0 hN hP hD hA hG hl => ?_)
  have hC0 := hC
  obtain ⟨-, -, hml, hown, hts⟩ := hC0
  have hK := hG.1
  have hS : va_S A s.heap s.heap [] := va_S.rf
  have hPr := hR0
  have hinX0 : ∀ w ∈ wsX00, w ∈ wsX0_lookFrom := fun _ h => List.mem_cons_of_mem _ (List.mem_append_left _ (List.mem_append_right _ h))
  have k1 := hts (.fieldLink RX0 18 "BoatsOfPaper$Blowing" "life" "I") (List.mem_of_getElem? (i := 1) rfl)
  have k2 := hts (.methodLink RX0 22 Lib.Math.min.name) (List.mem_of_getElem? (i := 2) rfl)
  have k3 := hts (.static Lib.Math.min.name) (List.mem_of_getElem? (i := 3) rfl)
  have k4 := hts (.initialized "java/lang/Math") (List.mem_of_getElem? (i := 4) rfl)
  have k6 := hts (.fieldLink RX0 11 "BoatsOfPaper$Blowing" "here" "[J") (List.mem_of_getElem? (i := 6) rfl)
  have hl : lv_has ls 8 [(0, .ref w0), (1, .ref g0), (2, zi la), (3, zi pl)] := hl
  obtain ⟨u1, u2, u3, u4, uk⟩ := id hg
  have b1 := acrV_bd (k := kAt gl gp GK la pl) u3 u4
  have b2 := secV_bd (kAt_bd hg la pl)
  refine lv_aload_n hx hb dX0_lookFrom_0 rfl (lv_at hl 1 rfl) ?_
  refine lv_iload_n hx hb dX0_lookFrom_1 rfl (lv_at hl 2 rfl) ?_
  refine lv_iload_n hx hb dX0_lookFrom_2 rfl (lv_at hl 3 rfl) ?_
  refine z_pV (As := [zi la, zi pl]) (rest := []) hC (c_X6_secondsAt l D y g0 ga gl gp gx gy GK la pl (by first | assumption | omega) (by first | assumption | omega) (by first | assumption | omega)) (cwV 2 hts gX0_lookFrom_X6_secondsAt rfl rfl rfl (by decide +kernel) ⟨Nat.le_of_ble_eq_true rfl, Nat.le_of_ble_eq_true rfl⟩) hG (hPr.sub (ws' := [(g0, .inr (5, [.ref ga, zi gl, zi gp, zi gx, zi gy])), (ga, .inl (y 0, 36, .inl (cI GK)))]) [0, 1] rfl) 0 rfl rfl rfl hl.1 rfl (Nat.le_of_ble_eq_true rfl) dX0_lookFrom_3 ⟨Nat.le_of_ble_eq_true rfl, Nat.le_of_ble_eq_true rfl⟩ ?_
  refine lv_istore (lv' := [(4, zi (secV (kAt gl gp GK la pl))), (0, .ref w0), (1, .ref g0), (2, zi la), (3, zi pl)]) hx hb dX0_lookFrom_6 hl (by decide) rfl (fun ls hl => ?_)
  refine lv_aload_n hx hb dX0_lookFrom_8 rfl (lv_at hl 2 rfl) ?_
  refine lv_iload_n hx hb dX0_lookFrom_9 rfl (lv_at hl 3 rfl) ?_
  refine lv_iload_n hx hb dX0_lookFrom_10 rfl (lv_at hl 4 rfl) ?_
  refine z_pV (As := [zi la, zi pl]) (rest := []) hC (c_X6_tenthsAcross l D y g0 ga gl gp gx gy GK la pl (by first | assumption | omega) (by first | assumption | omega) (by first | assumption | omega)) (cwV 2 hts gX0_lookFrom_X6_tenthsAcross rfl rfl rfl (by decide +kernel) ⟨Nat.le_of_ble_eq_true rfl, Nat.le_of_ble_eq_true rfl⟩) hG (hPr.sub (ws' := [(g0, .inr (5, [.ref ga, zi gl, zi gp, zi gx, zi gy])), (ga, .inl (y 0, 36, .inl (cI GK)))]) [0, 1] rfl) 0 rfl rfl rfl hl.1 rfl (Nat.le_of_ble_eq_true rfl) dX0_lookFrom_11 ⟨Nat.le_of_ble_eq_true rfl, Nat.le_of_ble_eq_true rfl⟩ ?_
  refine lv_istore (lv' := [(5, zi (acrV gx gy (kAt gl gp GK la pl))), (4, zi (secV (kAt gl gp GK la pl))), (0, .ref w0), (1, .ref g0), (2, zi la), (3, zi pl)]) hx hb dX0_lookFrom_14 hl (by decide) rfl (fun ls hl => ?_)
  refine lv_aload_n hx hb dX0_lookFrom_16 rfl (lv_at hl 2 rfl) ?_
  refine va_get hx hb hts hinX0 hown hK hP 0 rfl rfl 2 (by decide) k1 (fun _ h => h) rfl dX0_lookFrom_17 ?_
  refine z_bipush hx hb dX0_lookFrom_20 (by decide) ?_
  refine lv_iload_n hx hb dX0_lookFrom_22 rfl (lv_at hl 5 rfl) ?_
  refine z_imul hx hb dX0_lookFrom_23 ?_
  refine z_mmin hx hb (hml.trans hl.1.symm) hown k2 k3 k4 (hts _ (List.mem_of_getElem? (i := 5) rfl)) (Nat.le_of_ble_eq_true rfl) (Nat.le_of_ble_eq_true rfl) (Nat.le_of_ble_eq_true rfl) (Nat.le_of_ble_eq_true rfl) (by omega) dX0_lookFrom_24 ?_
  refine lv_istore (lv' := [(6, zi (min wl (10 * pl))), (5, zi (acrV gx gy (kAt gl gp GK la pl))), (4, zi (secV (kAt gl gp GK la pl))), (0, .ref w0), (1, .ref g0), (2, zi la), (3, zi pl)]) hx hb dX0_lookFrom_27 hl (by decide) rfl (fun ls hl => ?_)
  refine lv_iload_n hx hb dX0_lookFrom_29 rfl (lv_at hl 6 rfl) ?_
  refine lv_istore (lv' := [(7, zi pl), (6, zi (min wl (10 * pl))), (5, zi (acrV gx gy (kAt gl gp GK la pl))), (4, zi (secV (kAt gl gp GK la pl))), (0, .ref w0), (1, .ref g0), (2, zi la), (3, zi pl)]) hx hb dX0_lookFrom_30 hl (by decide) rfl (fun ls hl => ?_)
  refine z_loop (σ := Int × (Int → Int)) (fun x9 H lc ls => match x9 with | (k, E1) => ((pl ≤ k ∧ k ≤ 200) ∧ wOK E1 ∧ (∀ t : Int, pl ≤ t → t < k → E1 (la * 136 + t) = chH gl gp gx gy GK wl (gp - pl).toNat la t) ∧ ∀ i : Int, ¬ (la * 136 ≤ i ∧ i < la * 136 + 136) → E1 i = HE i) ∧ lv_has ls 8 [(7, zi k), (6, zi (min wl (10 * pl))), (5, zi (acrV gx gy (kAt gl gp GK la pl))), (4, zi (secV (kAt gl gp GK la pl))), (0, .ref w0), (1, .ref g0), (2, zi la), (3, zi pl)] ∧ va_P D vwCl [(w0, .inr (0, [.ref wh, .ref wb, zi wl])), (wh, .inl (y 1, 408, .inr (.inl (cL E1)))), (wb, .inl (y 1, 408, .inr (.inl (cL BE))))] H ∧ va_D A [(w0, .inr (0, [.ref wh, .ref wb, zi wl])), (wh, .inl (y 1, 408, .inr (.inl (cL E1)))), (wb, .inl (y 1, 408, .inr (.inl (cL BE))))] ∧ va_S A s.heap H lc) (fun x9  => match x9 with | (k, E1) => ((min wl (10 * pl) + 1 - k).toNat)) ?_ (pl, HE) ⟨⟨by omega, hHE, fun t _ _ => by omega, fun i _ => rfl⟩, lv_sub hl [0, 1, 2, 3, 4, 5, 6, 7] rfl, hP.sub [0, 1, 2] rfl, hD.sub [0, 1, 2] (by decide) rfl, hS⟩
  rintro ⟨k, E1⟩ H lc ls ⟨hi32, hl, hP, hD, hS⟩ ih32
  have hP : va_P D vwCl [(w0, .inr (0, [.ref wh, .ref wb, zi wl])), (wh, .inl (y 1, 408, .inr (.inl (cL E1)))), (wb, .inl (y 1, 408, .inr (.inl (cL BE))))] H := hP
  have hD : va_D A [(w0, .inr (0, [.ref wh, .ref wb, zi wl])), (wh, .inl (y 1, 408, .inr (.inl (cL E1)))), (wb, .inl (y 1, 408, .inr (.inl (cL BE))))] := hD
  have hPr := ro_now hR0 hN hS
  obtain ⟨j1, j2, j3, j4⟩ := hi32
  refine lv_iload hx hb dX0_lookFrom_32 (lv_at hl 0 rfl) ?_
  refine lv_iload hx hb dX0_lookFrom_34 (lv_at hl 1 rfl) ?_
  refine z_icmp_gt (tgt := 74) hx hb (by omega) (by omega) dX0_lookFrom_36 (by decide) (fun c_36 => ?_) (fun c_36 => ?_)
  ·
    exact z_vretW hx hb hr hlocks E1 rfl (⟨j2, fun t t0 t1 t2 => j3 t t0 (by omega), j4⟩) (hP.sub [0, 1, 2] rfl) (hD.sub [0, 1, 2] (by decide) rfl) hS dX0_lookFrom_74
  ·
    refine lv_aload_n hx hb dX0_lookFrom_39 rfl (lv_at hl 4 rfl) ?_
    refine va_get hx hb hts hinX0 hown hK hP 0 rfl rfl 0 (by decide) k6 (fun _ h => h) rfl dX0_lookFrom_40 ?_
    refine lv_iload_n hx hb dX0_lookFrom_43 rfl (lv_at hl 6 rfl) ?_
    refine z_sipush hx hb dX0_lookFrom_44 (by decide) ?_
    refine z_imul hx hb dX0_lookFrom_47 ?_
    refine lv_iload hx hb dX0_lookFrom_48 (lv_at hl 0 rfl) ?_
    refine z_iadd hx hb dX0_lookFrom_50 ?_
    refine lv_iload hx hb dX0_lookFrom_51 (lv_at hl 2 rfl) ?_
    refine z_i2l hx hb (by omega) dX0_lookFrom_53 ?_
    refine lv_aload_n hx hb dX0_lookFrom_54 rfl (lv_at hl 4 rfl) ?_
    refine lv_aload_n hx hb dX0_lookFrom_55 rfl (lv_at hl 5 rfl) ?_
    refine lv_iload_n hx hb dX0_lookFrom_56 rfl (lv_at hl 6 rfl) ?_
    refine lv_iload_n hx hb dX0_lookFrom_57 rfl (lv_at hl 7 rfl) ?_
    refine lv_iload hx hb dX0_lookFrom_58 (lv_at hl 0 rfl) ?_
    refine lv_iload hx hb dX0_lookFrom_60 (lv_at hl 3 rfl) ?_
    refine z_iadd hx hb dX0_lookFrom_62 ?_
    refine z_pV (As := [.ref g0, zi la, zi pl, zi (k + (secV (kAt gl gp GK la pl)))]) (rest := [zl (acrV gx gy (kAt gl gp GK la pl)), zi ((la * 136) + k), .ref wh]) hC (c_X0_chanceBehind l D y w0 wh wb wl BE g0 ga gl gp gx gy GK la pl (k + (secV (kAt gl gp GK la pl))) (by first | assumption | omega) (by first | assumption | omega) (by first | assumption | omega) (by first | assumption | omega) (by first | assumption | omega) (by first | assumption | omega)) (cwV 4 hts gX0_lookFrom_X0_chanceBehind rfl rfl rfl (by decide +kernel) ⟨Nat.le_of_ble_eq_true rfl, Nat.le_of_ble_eq_true rfl⟩) hG ((hP.sub [0, 2] rfl).app (hPr.sub [0, 1] rfl)) 0 rfl rfl rfl hl.1 rfl (Nat.le_of_ble_eq_true rfl) dX0_lookFrom_63 ⟨Nat.le_of_ble_eq_true rfl, Nat.le_of_ble_eq_true rfl⟩ ?_
    refine z_lmul hx hb dX0_lookFrom_66 ?_
    refine z_last hx hb hK hP hD hS 1 1 rfl rfl (by omega) (by decide) dX0_lookFrom_67 (fun H locs hP hD hS => ?_)
    have hP : va_P D vwCl [(w0, .inr (0, [.ref wh, .ref wb, zi wl])), (wh, .inl (y 1, 408, .inr (.inl (cL (iu E1 ((la * 136) + k) ((acrV gx gy (kAt gl gp GK la pl)) * (chB gl wl (pl = gp - 1) (tab BE) la (k + (secV (kAt gl gp GK la pl)))))))))), (wb, .inl (y 1, 408, .inr (.inl (cL BE))))] H := hP
    have hD : va_D A [(w0, .inr (0, [.ref wh, .ref wb, zi wl])), (wh, .inl (y 1, 408, .inr (.inl (cL (iu E1 ((la * 136) + k) ((acrV gx gy (kAt gl gp GK la pl)) * (chB gl wl (pl = gp - 1) (tab BE) la (k + (secV (kAt gl gp GK la pl)))))))))), (wb, .inl (y 1, 408, .inr (.inl (cL BE))))] := hD
    have hPr := ro_now hR0 hN hS
    have m2 := chH_tab (la := la) (s := k) hg hv (by omega) (by omega) j1.1 (by omega)
    have m3 := chH_bd hg wl (gp - pl).toNat la k
    have m4 := ten12 (r := (gp - pl).toNat) (by omega)
    have m1 : 0 ≤ acrV gx gy (kAt gl gp GK la pl) * chB gl wl (pl = gp - 1) (tab BE) la (k + secV (kAt gl gp GK la pl)) ∧ acrV gx gy (kAt gl gp GK la pl) * chB gl wl (pl = gp - 1) (tab BE) la (k + secV (kAt gl gp GK la pl)) ≤ 10000000000000 := (by rw [m2]; omega)
    refine z_iinc (k := 0) (lv' := [(7, zi (k + 1)), (6, zi (min wl (10 * pl))), (5, zi (acrV gx gy (kAt gl gp GK la pl))), (4, zi (secV (kAt gl gp GK la pl))), (0, .ref w0), (1, .ref g0), (2, zi la), (3, zi pl)]) hx hb dX0_lookFrom_68 hl rfl (by decide) rfl (fun ls hl => ?_)
    refine lv_goto (tgt := 32) hx hb dX0_lookFrom_71 (by decide) ?_
    exact ih32 (k + 1, iu E1 ((la * 136) + k) ((acrV gx gy (kAt gl gp GK la pl)) * (chB gl wl (pl = gp - 1) (tab BE) la (k + (secV (kAt gl gp GK la pl)))))) _ _ _ (by first | (dsimp only; omega) | omega) ⟨⟨by omega, lk_1 j2 m1 (by omega), lk_2 j3 m2, lk_3 j4 (by omega)⟩, lv_sub hl [0, 1, 2, 3, 4, 5, 6, 7] rfl, hP.sub [0, 1, 2] rfl, hD.sub [0, 1, 2] (by decide) rfl, hS⟩
set_option maxHeartbeats 8000000 in
set_option maxRecDepth 100000 in
theorem c_X0_lookAhead (l : Launch) (D : va_G) (y : Nat → ClassId) (w0 : Nat) (wh : Nat) (wb : Nat) (wl : Int) (HE : Int → Int) (BE : Int → Int) (g0 : Nat) (ga : Nat) (gl : Int) (gp : Int) (gx : Int) (gy : Int) (GK : Int → Int) (lf : Int) (hg : gOK gl gp gx gy GK) (hHE : wOK HE) (hBE : wOK BE) (hlf : -9 ≤ lf ∧ lf ≤ 135) (sz : Nat) : Met l yX0_lookAhead wsX0_lookAhead ({ frames := 5, cells := 0, slots := 0, locals := 115 } : Room) (wPc D y [(g0, .inr (5, [.ref ga, zi gl, zi gp, zi gx, zi gy])), (ga, .inl (y 0, 36, .inl (cI GK)))] [(w0, .inr (0, [.ref wh, .ref wb, zi wl])), (wh, .inl (y 1, 408, .inr (.inl (cL HE)))), (wb, .inl (y 1, 408, .inr (.inl (cL BE))))] sz [.ref w0, .ref g0, zi lf]) (wQ D (fun (x9 : Nat × Nat × (Int → Int) × (Int → Int)) => match x9 with | (p1, p2, E1, E2) => none) (fun (x9 : Nat × Nat × (Int → Int) × (Int → Int)) => match x9 with | (p1, p2, E1, E2) => wOK E1 ∧ wOK E2 ∧ vld gl gp gx gy GK lf 1 E2) (fun (x9 : Nat × Nat × (Int → Int) × (Int → Int)) => match x9 with | (p1, p2, E1, E2) => [(w0, .inr (0, [.ref p1, .ref p2, zi lf])), (p1, .inl (y 1, 408, .inr (.inl (cL E1)))), (p2, .inl (y 1, 408, .inr (.inl (cL E2))))]) (va_A [(w0, .inr (0, [.ref wh, .ref wb, zi wl])), (wh, .inl (y 1, 408, .inr (.inl (cL HE)))), (wb, .inl (y 1, 408, .inr (.inl (cL BE))))] sz)) 0 0 (va_A [(w0, .inr (0, [.ref wh, .ref wb, zi wl])), (wh, .inl (y 1, 408, .inr (.inl (cL HE)))), (wb, .inl (y 1, 408, .inr (.inl (cL BE))))] sz) := by
  refine W_of (own := RX0) (cc := cX0_lookAhead) (maxL := 5) (ret := none) (by decide) rfl rfl (Nat.le_of_ble_eq_true rfl) (fun p e s m below meth c ls A hx hb hr hC hlocks hin0 hR0 hN hP hD hA hG hl => ?_)
  have hC0 := hC
  obtain ⟨-, -, hml, hown, hts⟩ := hC0
  have hK := hG.1
  have hS : va_S A s.heap s.heap [] := va_S.rf
  have hPr := hR0
  have hinX0 : ∀ w ∈ wsX00, w ∈ wsX0_lookAhead := fun _ h => List.mem_cons_of_mem _ (List.mem_append_left _ (List.mem_append_right _ h))
  have hinX6 : ∀ w ∈ wsX60, w ∈ wsX0_lookAhead := fun _ h => List.mem_cons_of_mem _ (List.mem_append_right _ h)
  have k1 := hts (.methodLink RX0 22 Lib.Math.min.name) (List.mem_of_getElem? (i := 1) rfl)
  have k2 := hts (.static Lib.Math.min.name) (List.mem_of_getElem? (i := 2) rfl)
  have k3 := hts (.initialized "java/lang/Math") (List.mem_of_getElem? (i := 3) rfl)
  have k5 := hts (.fieldLink RX0 18 "BoatsOfPaper$Blowing" "life" "I") (List.mem_of_getElem? (i := 5) rfl)
  have k6 := hts (.fieldLink RX0 28 "BoatsOfPaper$Gutter" "places" "I") (List.mem_of_getElem? (i := 6) rfl)
  have k7 := hts (.fieldLink RX0 33 "BoatsOfPaper$Gutter" "lanes" "I") (List.mem_of_getElem? (i := 7) rfl)
  have k8 := hts (.fieldLink RX0 15 "BoatsOfPaper$Blowing" "behind" "[J") (List.mem_of_getElem? (i := 8) rfl)
  have k9 := hts (.fieldLink RX0 11 "BoatsOfPaper$Blowing" "here" "[J") (List.mem_of_getElem? (i := 9) rfl)
  have hl : lv_has ls 5 [(0, .ref w0), (1, .ref g0), (2, zi lf)] := hl
  obtain ⟨u1, u2, u3, u4, uk⟩ := id hg
  have e0 : min lf 135 = lf := (by omega)
  refine lv_aload_n hx hb dX0_lookAhead_0 rfl (lv_at hl 0 rfl) ?_
  refine lv_iload_n hx hb dX0_lookAhead_1 rfl (lv_at hl 2 rfl) ?_
  refine z_sipush hx hb dX0_lookAhead_2 (by decide) ?_
  refine z_mmin hx hb (hml.trans hl.1.symm) hown k1 k2 k3 (hts _ (List.mem_of_getElem? (i := 4) rfl)) (Nat.le_of_ble_eq_true rfl) (Nat.le_of_ble_eq_true rfl) (Nat.le_of_ble_eq_true rfl) (Nat.le_of_ble_eq_true rfl) (by omega) dX0_lookAhead_5 ?_
  refine va_put hx hb hts hinX0 tyX0 tyX0_ok nmX0 hown hK hP hD hS 0 rfl rfl 2 (by decide) k5 (fun _ h => h) rfl (tyX0_ok 2 (by decide)) rfl rfl (Nat.le_of_ble_eq_true rfl) dX0_lookAhead_8 (fun H locs hP hD hS => ?_)
  have hP : va_P D vwCl [(w0, .inr (0, [.ref wh, .ref wb, zi (min lf 135)])), (wh, .inl (y 1, 408, .inr (.inl (cL HE)))), (wb, .inl (y 1, 408, .inr (.inl (cL BE))))] H := hP
  have hD : va_D A [(w0, .inr (0, [.ref wh, .ref wb, zi (min lf 135)])), (wh, .inl (y 1, 408, .inr (.inl (cL HE)))), (wb, .inl (y 1, 408, .inr (.inl (cL BE))))] := hD
  have hPr := ro_now hR0 hN hS
  have hP : va_P D vwCl [(w0, .inr (0, [.ref wh, .ref wb, zi lf])), (wh, .inl (y 1, 408, .inr (.inl (cL HE)))), (wb, .inl (y 1, 408, .inr (.inl (cL BE))))] H := by rw [show lf = min lf 135 by omega]; exact hP
  have hD : va_D A [(w0, .inr (0, [.ref wh, .ref wb, zi lf])), (wh, .inl (y 1, 408, .inr (.inl (cL HE)))), (wb, .inl (y 1, 408, .inr (.inl (cL BE))))] := by rw [show lf = min lf 135 by omega]; exact hD
  refine lv_aload_n hx hb dX0_lookAhead_11 rfl (lv_at hl 1 rfl) ?_
  refine va_get hx hb hts hinX6 hown hK hPr 0 rfl rfl 2 (by decide) k6 (fun _ h => h) rfl dX0_lookAhead_12 ?_
  refine z_iconst hx hb dX0_lookAhead_15 ?_
  refine z_isub hx hb dX0_lookAhead_16 ?_
  refine lv_istore_n (lv' := [(3, zi (gp - 1)), (0, .ref w0), (1, .ref g0), (2, zi lf)]) hx hb dX0_lookAhead_17 rfl hl (by decide) rfl (fun ls hl => ?_)
  refine z_loop (σ := Int × Nat × Nat × (Int → Int) × (Int → Int)) (fun x9 H lc ls => match x9 with | (k, p1, p2, E1, E2) => ((0 ≤ k ∧ k ≤ gp - 1) ∧ wOK E1 ∧ wOK E2 ∧ vld gl gp gx gy GK lf (k + 1) E2) ∧ lv_has ls 5 [(3, zi k), (0, .ref w0), (1, .ref g0), (2, zi lf)] ∧ va_P D vwCl [(w0, .inr (0, [.ref p1, .ref p2, zi lf])), (p1, .inl (y 1, 408, .inr (.inl (cL E1)))), (p2, .inl (y 1, 408, .inr (.inl (cL E2))))] H ∧ va_D A [(w0, .inr (0, [.ref p1, .ref p2, zi lf])), (p1, .inl (y 1, 408, .inr (.inl (cL E1)))), (p2, .inl (y 1, 408, .inr (.inl (cL E2))))] ∧ va_S A s.heap H lc) (fun x9  => match x9 with | (k, p1, p2, E1, E2) => (k.toNat)) ?_ (gp - 1, wh, wb, HE, BE) ⟨⟨by omega, hHE, hBE, fun q => absurd q (by omega)⟩, lv_sub hl [0, 1, 2, 3] rfl, hP.sub [0, 1, 2] rfl, hD.sub [0, 1, 2] (by decide) rfl, hS⟩
  rintro ⟨k, p1, p2, E1, E2⟩ H lc ls ⟨hi18, hl, hP, hD, hS⟩ ih18
  have hP : va_P D vwCl [(w0, .inr (0, [.ref p1, .ref p2, zi lf])), (p1, .inl (y 1, 408, .inr (.inl (cL E1)))), (p2, .inl (y 1, 408, .inr (.inl (cL E2))))] H := hP
  have hD : va_D A [(w0, .inr (0, [.ref p1, .ref p2, zi lf])), (p1, .inl (y 1, 408, .inr (.inl (cL E1)))), (p2, .inl (y 1, 408, .inr (.inl (cL E2))))] := hD
  have hPr := ro_now hR0 hN hS
  obtain ⟨j1, j2, j3, j4⟩ := hi18
  refine lv_iload_n hx hb dX0_lookAhead_18 rfl (lv_at hl 0 rfl) ?_
  refine z_iconst hx hb dX0_lookAhead_19 ?_
  refine z_icmp_lt (tgt := 75) hx hb (by omega) (by omega) dX0_lookAhead_20 (by decide) (fun c_20 => ?_) (fun c_20 => ?_)
  ·
    exact z_vretW hx hb hr hlocks (p1, p2, E1, E2) rfl (⟨j2, j3, by rw [show k = 0 by omega] at j4; exact j4⟩) (hP.sub [0, 1, 2] rfl) (hD.sub [0, 1, 2] (by decide) rfl) hS dX0_lookAhead_75
  ·
    refine z_iconst hx hb dX0_lookAhead_23 ?_
    refine lv_istore (lv' := [(4, zi 0), (3, zi k), (0, .ref w0), (1, .ref g0), (2, zi lf)]) hx hb dX0_lookAhead_24 hl (by decide) rfl (fun ls hl => ?_)
    refine z_loop (σ := Int × (Int → Int)) (fun x9 H lc ls => match x9 with | (j, E1) => ((0 ≤ j ∧ j ≤ gl) ∧ wOK E1 ∧ ∀ la t : Int, 0 ≤ la → la < j → k ≤ t → t ≤ lf → t ≤ 10 * k → E1 (la * 136 + t) = chH gl gp gx gy GK lf (gp - k).toNat la t) ∧ lv_has ls 5 [(4, zi j), (3, zi k), (0, .ref w0), (1, .ref g0), (2, zi lf)] ∧ va_P D vwCl [(w0, .inr (0, [.ref p1, .ref p2, zi lf])), (p1, .inl (y 1, 408, .inr (.inl (cL E1)))), (p2, .inl (y 1, 408, .inr (.inl (cL E2))))] H ∧ va_D A [(w0, .inr (0, [.ref p1, .ref p2, zi lf])), (p1, .inl (y 1, 408, .inr (.inl (cL E1)))), (p2, .inl (y 1, 408, .inr (.inl (cL E2))))] ∧ va_S A s.heap H lc) (fun x9  => match x9 with | (j, E1) => ((gl - j).toNat)) ?_ (0, E1) ⟨⟨by omega, j2, fun la t _ _ => by omega⟩, lv_sub hl [0, 1, 2, 3, 4] rfl, hP.sub [0, 1, 2] rfl, hD.sub [0, 1, 2] (by decide) rfl, hS⟩
    rintro ⟨j, E1⟩ H lc ls ⟨hi26, hl, hP, hD, hS⟩ ih26
    have hP : va_P D vwCl [(w0, .inr (0, [.ref p1, .ref p2, zi lf])), (p1, .inl (y 1, 408, .inr (.inl (cL E1)))), (p2, .inl (y 1, 408, .inr (.inl (cL E2))))] H := hP
    have hD : va_D A [(w0, .inr (0, [.ref p1, .ref p2, zi lf])), (p1, .inl (y 1, 408, .inr (.inl (cL E1)))), (p2, .inl (y 1, 408, .inr (.inl (cL E2))))] := hD
    have hPr := ro_now hR0 hN hS
    obtain ⟨i1, i2, i3⟩ := hi26
    refine lv_iload hx hb dX0_lookAhead_26 (lv_at hl 0 rfl) ?_
    refine lv_aload_n hx hb dX0_lookAhead_28 rfl (lv_at hl 3 rfl) ?_
    refine va_get hx hb hts hinX6 hown hK hPr 0 rfl rfl 1 (by decide) k7 (fun _ h => h) rfl dX0_lookAhead_29 ?_
    refine z_icmp_ge (tgt := 49) hx hb (by omega) (by omega) dX0_lookAhead_32 (by decide) (fun c_32 => ?_) (fun c_32 => ?_)
    ·
      refine lv_aload_n hx hb dX0_lookAhead_49 rfl (lv_at hl 2 rfl) ?_
      refine va_get hx hb hts hinX0 hown hK hP 0 rfl rfl 1 (by decide) k8 (fun _ h => h) rfl dX0_lookAhead_50 ?_
      refine lv_astore (lv' := [(4, .ref p2), (3, zi k), (0, .ref w0), (1, .ref g0), (2, zi lf)]) hx hb dX0_lookAhead_53 hl (by decide) rfl (fun ls hl => ?_)
      refine lv_aload_n hx hb dX0_lookAhead_55 rfl (lv_at hl 2 rfl) ?_
      refine lv_aload_n hx hb dX0_lookAhead_56 rfl (lv_at hl 2 rfl) ?_
      refine va_get hx hb hts hinX0 hown hK hP 0 rfl rfl 0 (by decide) k9 (fun _ h => h) rfl dX0_lookAhead_57 ?_
      refine va_put hx hb hts hinX0 tyX0 tyX0_ok nmX0 hown hK hP hD hS 0 rfl rfl 1 (by decide) k8 (fun _ h => h) rfl (tyX0_ok 1 (by decide)) rfl rfl (Nat.le_of_ble_eq_true rfl) dX0_lookAhead_60 (fun H locs hP hD hS => ?_)
      have hP : va_P D vwCl [(w0, .inr (0, [.ref p1, .ref p1, zi lf])), (p1, .inl (y 1, 408, .inr (.inl (cL E1)))), (p2, .inl (y 1, 408, .inr (.inl (cL E2))))] H := hP
      have hD : va_D A [(w0, .inr (0, [.ref p1, .ref p1, zi lf])), (p1, .inl (y 1, 408, .inr (.inl (cL E1)))), (p2, .inl (y 1, 408, .inr (.inl (cL E2))))] := hD
      have hPr := ro_now hR0 hN hS
      refine lv_aload_n hx hb dX0_lookAhead_63 rfl (lv_at hl 2 rfl) ?_
      refine lv_aload hx hb dX0_lookAhead_64 (lv_at hl 0 rfl) ?_
      refine va_put hx hb hts hinX0 tyX0 tyX0_ok nmX0 hown hK hP hD hS 0 rfl rfl 0 (by decide) k9 (fun _ h => h) rfl (tyX0_ok 0 (by decide)) rfl rfl (Nat.le_of_ble_eq_true rfl) dX0_lookAhead_66 (fun H locs hP hD hS => ?_)
      have hP : va_P D vwCl [(w0, .inr (0, [.ref p2, .ref p1, zi lf])), (p1, .inl (y 1, 408, .inr (.inl (cL E1)))), (p2, .inl (y 1, 408, .inr (.inl (cL E2))))] H := hP
      have hD : va_D A [(w0, .inr (0, [.ref p2, .ref p1, zi lf])), (p1, .inl (y 1, 408, .inr (.inl (cL E1)))), (p2, .inl (y 1, 408, .inr (.inl (cL E2))))] := hD
      have hPr := ro_now hR0 hN hS
      refine z_iinc (k := 1) (lv' := [(3, zi (k + (-1))), (4, .ref p2), (0, .ref w0), (1, .ref g0), (2, zi lf)]) hx hb dX0_lookAhead_69 hl rfl (by decide) rfl (fun ls hl => ?_)
      refine lv_goto (tgt := 18) hx hb dX0_lookAhead_72 (by decide) ?_
      exact ih18 (k + (-1), p2, p1, E2, E1) _ _ _ (by first | (dsimp only; omega) | omega) ⟨⟨by omega, j3, i2, by rw [show k + (-1) + 1 = k by omega]; exact fun _ la s a b d e9 f => i3 la s a (by omega) d e9 f⟩, lv_sub hl [0, 2, 3, 4] rfl, hP.sub [0, 2, 1] rfl, hD.sub [0, 2, 1] (by decide) rfl, hS⟩
    ·
      refine lv_aload_n hx hb dX0_lookAhead_35 rfl (lv_at hl 2 rfl) ?_
      refine lv_aload_n hx hb dX0_lookAhead_36 rfl (lv_at hl 3 rfl) ?_
      refine lv_iload hx hb dX0_lookAhead_37 (lv_at hl 0 rfl) ?_
      refine lv_iload_n hx hb dX0_lookAhead_39 rfl (lv_at hl 1 rfl) ?_
      refine z_wV (As := [.ref g0, zi j, zi k]) (rest := []) (wc := [(w0, .inr (0, [.ref p1, .ref p2, zi lf])), (p1, .inl (y 1, 408, .inr (.inl (cL E1)))), (p2, .inl (y 1, 408, .inr (.inl (cL E2))))]) (wrest := []) hC (c_X0_lookFrom l D y w0 p1 p2 lf E1 E2 g0 ga gl gp gx gy GK j k (by first | assumption | omega) (by first | assumption | omega) (by first | assumption | omega) (by first | assumption | omega) j4 (by first | assumption | omega) (by first | assumption | omega) _) (cwV 3 hts gX0_lookAhead_X0_lookFrom rfl rfl rfl (by decide +kernel) ⟨Nat.le_of_ble_eq_true rfl, Nat.le_of_ble_eq_true rfl⟩) hG hP hD hS hA [0, 1, 2] [] rfl rfl (by decide) (by decide) (by decide) (hPr.sub (ws' := [(g0, .inr (5, [.ref ga, zi gl, zi gp, zi gx, zi gy])), (ga, .inl (y 0, 36, .inl (cI GK)))]) [0, 1] rfl) (fun k q hk z => ro_sub (wr' := [(g0, .inr (5, [.ref ga, zi gl, zi gp, zi gx, zi gy])), (ga, .inl (y 0, 36, .inl (cI GK)))]) hN [0, 1] rfl k q hk (va_free (wc := [(w0, .inr (0, [.ref p1, .ref p2, zi lf])), (p1, .inl (y 1, 408, .inr (.inl (cL E1)))), (p2, .inl (y 1, 408, .inr (.inl (cL E2))))]) hD hS hA [0, 1, 2] rfl q.1 z)) 0 rfl rfl rfl hl.1 rfl (Nat.le_of_ble_eq_true rfl) dX0_lookAhead_40 ⟨Nat.le_of_ble_eq_true rfl, Nat.le_of_ble_eq_true rfl⟩ (fun u9 H locs hw_2 hP hD hS => ?_)
      obtain ⟨HE2, rfl⟩ : ∃ z9, z9 = u9 := ⟨_, rfl⟩
      have hw_2 : wOK HE2 ∧ (∀ t : Int, k ≤ t → t ≤ lf → t ≤ 10 * k → HE2 (j * 136 + t) = chH gl gp gx gy GK lf (gp - k).toNat j t) ∧ ∀ i : Int, ¬ (j * 136 ≤ i ∧ i < j * 136 + 136) → HE2 i = E1 i := hw_2
      have hP : va_P D vwCl [(w0, .inr (0, [.ref p1, .ref p2, zi lf])), (p1, .inl (y 1, 408, .inr (.inl (cL HE2)))), (p2, .inl (y 1, 408, .inr (.inl (cL E2))))] H := hP
      have hD : va_D A [(w0, .inr (0, [.ref p1, .ref p2, zi lf])), (p1, .inl (y 1, 408, .inr (.inl (cL HE2)))), (p2, .inl (y 1, 408, .inr (.inl (cL E2))))] := hD
      have hPr := ro_now hR0 hN hS
      obtain ⟨x1, x2, x3⟩ := hw_2
      refine z_iinc (k := 0) (lv' := [(4, zi (j + 1)), (3, zi k), (0, .ref w0), (1, .ref g0), (2, zi lf)]) hx hb dX0_lookAhead_43 hl rfl (by decide) rfl (fun ls hl => ?_)
      refine lv_goto (tgt := 26) hx hb dX0_lookAhead_46 (by decide) ?_
      exact ih26 (j + 1, HE2) _ _ _ (by first | (dsimp only; omega) | omega) ⟨⟨by omega, x1, lk_4 i3 x2 x3 (by omega) (by omega)⟩, lv_sub hl [0, 1, 2, 3, 4] rfl, hP.sub [0, 1, 2] rfl, hD.sub [0, 1, 2] (by decide) rfl, hS⟩
