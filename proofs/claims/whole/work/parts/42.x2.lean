/-! ===== the class' own ===== -/
theorem laneS_b3 {gl gp gx gy : Int} {GK : Int → Int} (h : gOK gl gp gx gy GK) (la : Int) : 0 ≤ laneS gl gp GK la ∧ laneS gl gp GK la ≤ 108 := by
  have b := laneS_bd h la (k := gp) (by have := h.2.1; omega) (by omega)
  have e : sgI (fun p => secV (kAt gl gp GK la p)) gp = laneS gl gp GK la := rfl
  have := h.2.1
  omega
theorem rs_congr {OP TM OP' TM' : Int → Int} (h1 : ∀ j : Int, 0 ≤ j → j < 3 → OP j = OP' j) (h2 : ∀ j : Int, 0 ≤ j → j < 3 → TM j = TM' j) (n c : Int) : rsP OP TM n c = rsP OP' TM' n c := by
  funext a b
  have a0 := h1 0 (by omega) (by omega)
  have a1 := h1 1 (by omega) (by omega)
  have a2 := h1 2 (by omega) (by omega)
  have b0 := h2 0 (by omega) (by omega)
  have b1 := h2 1 (by omega) (by omega)
  have b2 := h2 2 (by omega) (by omega)
  unfold rsP arB ar1B
  simp only [wlP, wl1, a0, a1, a2, b0, b1, b2]
set_option maxHeartbeats 8000000 in
set_option maxRecDepth 100000 in
theorem c_X11_time_nob (l : Launch) (D : va_G) (y : Nat → ClassId) (x0 : Nat) (t0 : Nat) (g0 : Nat) (f0 : Nat) (r0 : Nat) (sl0 : Nat) (n0 : Nat) (d0 : Nat) (w0 : Nat) (c0 : Nat) (fa : Nat) (fn : Int) (fr : Nat → Option Nat) (qb : Int) (la : Int) (hqb : rI qb ∧ 0 ≤ fn ∧ fn ≤ 6 ∧ ¬ (0 ≤ qb ∧ qb < fn)) : Met l yX11_time wsX11_time ({ frames := 1, cells := 0, slots := 0, locals := 21 } : Room) (pPc D y [(x0, .inr (10, [.ref t0, .ref g0, .ref f0, .ref r0, .ref sl0, .ref n0, .ref d0, .ref w0, .ref c0])), (f0, .inr (4, [.ref fa, zi fn])), (fa, .inl (y 3, 6, .inr (.inr (.inr (.inr fr)))))] [.ref x0, zi qb, zi la]) (qV (zi (-1))) 0 0 (fun _ => False) := by
  refine P_of (own := RX11) (cc := cX11_time) (maxL := 5) (ret := some .int) (by decide) rfl rfl (Nat.le_of_ble_eq_true rfl) (fun p e s m below meth c ls hx hb hr hC hlocks hPr hG hl => ?_)
  have hC0 := hC
  obtain ⟨-, -, hml, hown, hts⟩ := hC0
  have hK := hG.1
  have hinX11 : ∀ w ∈ wsX110, w ∈ wsX11_time := fun _ h => List.mem_cons_of_mem _ (List.mem_append_left _ (List.mem_append_left _ (List.mem_append_left _ (List.mem_append_right _ h))))
  have k1 := hts (.fieldLink RX11 26 "BoatsOfPaper" "theFleet" "LBoatsOfPaper$Fleet;") (List.mem_of_getElem? (i := 1) rfl)
  have hl : lv_has ls 5 [(0, .ref x0), (1, zi qb), (2, zi la)] := hl
  refine lv_aload_n hx hb dX11_time_0 rfl (lv_at hl 0 rfl) ?_
  refine va_get hx hb hts hinX11 hown hK hPr 0 rfl rfl 2 (by decide) k1 (fun _ h => h) rfl dX11_time_1 ?_
  refine lv_iload_n hx hb dX11_time_4 rfl (lv_at hl 1 rfl) ?_
  refine z_pV (As := [zi qb]) (rest := []) hC (c_X4_find_no l D y f0 fa fn fr qb (by first | assumption | omega)) (cwV 1 hts gX11_time_X4_find rfl rfl rfl (by decide +kernel) ⟨Nat.le_of_ble_eq_true rfl, Nat.le_of_ble_eq_true rfl⟩) hG (hPr.sub (ws' := [(f0, .inr (4, [.ref fa, zi fn])), (fa, .inl (y 3, 6, .inr (.inr (.inr (.inr fr)))))]) [1, 2] rfl) 0 rfl rfl rfl hl.1 rfl (Nat.le_of_ble_eq_true rfl) dX11_time_5 ⟨Nat.le_of_ble_eq_true rfl, Nat.le_of_ble_eq_true rfl⟩ ?_
  refine lv_astore_nN (lv' := [(3, .null), (0, .ref x0), (1, zi qb), (2, zi la)]) hx hb dX11_time_8 rfl hl (by decide) rfl (fun ls hl => ?_)
  refine lv_aload_nN hx hb dX11_time_9 rfl (lv_at hl 0 rfl) ?_
  refine lv_ifnullN (tgt := 24) hx hb dX11_time_10 (by decide) ?_
  refine z_iconst hx hb dX11_time_24 ?_
  exact z_iret0 hx hb hr hlocks (rfl) dX11_time_25
set_option maxHeartbeats 8000000 in
set_option maxRecDepth 100000 in
theorem c_X11_time_nol (l : Launch) (D : va_G) (y : Nat → ClassId) (x0 : Nat) (t0 : Nat) (g0 : Nat) (f0 : Nat) (r0 : Nat) (sl0 : Nat) (n0 : Nat) (d0 : Nat) (w0 : Nat) (c0 : Nat) (fa : Nat) (fn : Int) (fr : Nat → Option Nat) (qb : Int) (h0 : Nat) (a1 : Nat) (a2 : Nat) (a3 : Nat) (bl : Int) (bw : Int) (bt : Int) (bh : Int) (bd : Int) (bx : Int) (bn : Int) (CI : Int → Int) (CJ : Int → Int) (CW : Int → Int) (la : Int) (ga : Nat) (gl : Int) (gp : Int) (gx : Int) (gy : Int) (GK : Int → Int) (hqb : 0 ≤ fn ∧ fn ≤ 6 ∧ 0 ≤ qb ∧ qb < fn) (hfr : fr qb.toNat = some h0) (hB : bOK bl bw bt bh bd bx bn CI CJ CW) (hg : gOK gl gp gx gy GK) (hla : rI la) (hq : ¬ (0 ≤ la ∧ la < gl)) : Met l yX11_time wsX11_time ({ frames := 1, cells := 0, slots := 0, locals := 21 } : Room) (pPc D y [(x0, .inr (10, [.ref t0, .ref g0, .ref f0, .ref r0, .ref sl0, .ref n0, .ref d0, .ref w0, .ref c0])), (f0, .inr (4, [.ref fa, zi fn])), (fa, .inl (y 3, 6, .inr (.inr (.inr (.inr fr))))), (h0, .inr (1, [zi bl, zi bw, zi bt, zi bh, zi bd, zi bx, zi bn, .ref a1, .ref a2, .ref a3])), (a1, .inl (y 0, 8, .inl (cI CI))), (a2, .inl (y 0, 8, .inl (cI CJ))), (a3, .inl (y 0, 8, .inl (cI CW))), (g0, .inr (5, [.ref ga, zi gl, zi gp, zi gx, zi gy])), (ga, .inl (y 0, 36, .inl (cI GK)))] [.ref x0, zi qb, zi la]) (qV (zi (-1))) 0 0 (fun _ => False) := by
  refine P_of (own := RX11) (cc := cX11_time) (maxL := 5) (ret := some .int) (by decide) rfl rfl (Nat.le_of_ble_eq_true rfl) (fun p e s m below meth c ls hx hb hr hC hlocks hPr hG hl => ?_)
  have hC0 := hC
  obtain ⟨-, -, hml, hown, hts⟩ := hC0
  have hK := hG.1
  have hinX11 : ∀ w ∈ wsX110, w ∈ wsX11_time := fun _ h => List.mem_cons_of_mem _ (List.mem_append_left _ (List.mem_append_left _ (List.mem_append_left _ (List.mem_append_right _ h))))
  have k1 := hts (.fieldLink RX11 26 "BoatsOfPaper" "theFleet" "LBoatsOfPaper$Fleet;") (List.mem_of_getElem? (i := 1) rfl)
  have k2 := hts (.fieldLink RX11 19 "BoatsOfPaper" "theGutter" "LBoatsOfPaper$Gutter;") (List.mem_of_getElem? (i := 2) rfl)
  have hl : lv_has ls 5 [(0, .ref x0), (1, zi qb), (2, zi la)] := hl
  obtain ⟨q1, q2, q3, q4, q5, q6, q7, q8, q9, qc⟩ := id hB
  obtain ⟨u1, u2, u3, u4, uk⟩ := id hg
  refine lv_aload_n hx hb dX11_time_0 rfl (lv_at hl 0 rfl) ?_
  refine va_get hx hb hts hinX11 hown hK hPr 0 rfl rfl 2 (by decide) k1 (fun _ h => h) rfl dX11_time_1 ?_
  refine lv_iload_n hx hb dX11_time_4 rfl (lv_at hl 1 rfl) ?_
  refine z_pV (As := [zi qb]) (rest := []) hC (c_X4_find l D y f0 fa fn fr qb h0 (by first | assumption | omega) hfr) (cwV 1 hts gX11_time_X4_find rfl rfl rfl (by decide +kernel) ⟨Nat.le_of_ble_eq_true rfl, Nat.le_of_ble_eq_true rfl⟩) hG (hPr.sub (ws' := [(f0, .inr (4, [.ref fa, zi fn])), (fa, .inl (y 3, 6, .inr (.inr (.inr (.inr fr)))))]) [1, 2] rfl) 0 rfl rfl rfl hl.1 rfl (Nat.le_of_ble_eq_true rfl) dX11_time_5 ⟨Nat.le_of_ble_eq_true rfl, Nat.le_of_ble_eq_true rfl⟩ ?_
  refine lv_astore_n (lv' := [(3, .ref h0), (0, .ref x0), (1, zi qb), (2, zi la)]) hx hb dX11_time_8 rfl hl (by decide) rfl (fun ls hl => ?_)
  refine lv_aload_n hx hb dX11_time_9 rfl (lv_at hl 0 rfl) ?_
  refine lv_ifnull hx hb dX11_time_10 ?_
  refine lv_aload_n hx hb dX11_time_13 rfl (lv_at hl 1 rfl) ?_
  refine va_get hx hb hts hinX11 hown hK hPr 0 rfl rfl 1 (by decide) k2 (fun _ h => h) rfl dX11_time_14 ?_
  refine lv_iload_n hx hb dX11_time_17 rfl (lv_at hl 3 rfl) ?_
  refine z_pV (As := [zi la]) (rest := []) hC (c_X6_hasLane l D y g0 ga gl gp gx gy GK la (by first | assumption | omega) (by first | assumption | omega)) (cwV 1 hts gX11_time_X6_hasLane rfl rfl rfl (by decide +kernel) ⟨Nat.le_of_ble_eq_true rfl, Nat.le_of_ble_eq_true rfl⟩) hG (hPr.sub (ws' := [(g0, .inr (5, [.ref ga, zi gl, zi gp, zi gx, zi gy])), (ga, .inl (y 0, 36, .inl (cI GK)))]) [7, 8] rfl) 0 rfl rfl rfl hl.1 rfl (Nat.le_of_ble_eq_true rfl) dX11_time_18 ⟨Nat.le_of_ble_eq_true rfl, Nat.le_of_ble_eq_true rfl⟩ ?_
  refine z_ifB_ne (tgt := 26) hx hb dX11_time_21 (by decide) (fun c_21 => ?_) (fun c_21 => ?_)
  · exfalso; omega
  ·
    refine z_iconst hx hb dX11_time_24 ?_
    exact z_iret0 hx hb hr hlocks (rfl) dX11_time_25
set_option maxHeartbeats 8000000 in
set_option maxRecDepth 100000 in
theorem c_X11_time (l : Launch) (D : va_G) (y : Nat → ClassId) (x0 : Nat) (t0 : Nat) (g0 : Nat) (f0 : Nat) (r0 : Nat) (sl0 : Nat) (n0 : Nat) (d0 : Nat) (w0 : Nat) (c0 : Nat) (fa : Nat) (fn : Int) (fr : Nat → Option Nat) (qb : Int) (h0 : Nat) (a1 : Nat) (a2 : Nat) (a3 : Nat) (bl : Int) (bw : Int) (bt : Int) (bh : Int) (bd : Int) (bx : Int) (bn : Int) (CI : Int → Int) (CJ : Int → Int) (CW : Int → Int) (la : Int) (ga : Nat) (gl : Int) (gp : Int) (gx : Int) (gy : Int) (GK : Int → Int) (hqb : 0 ≤ fn ∧ fn ≤ 6 ∧ 0 ≤ qb ∧ qb < fn) (hfr : fr qb.toNat = some h0) (hB : bOK bl bw bt bh bd bx bn CI CJ CW) (hg : gOK gl gp gx gy GK) (hla : 0 ≤ la ∧ la < gl) : Met l yX11_time wsX11_time ({ frames := 5, cells := 0, slots := 0, locals := 111 } : Room) (pPc D y [(x0, .inr (10, [.ref t0, .ref g0, .ref f0, .ref r0, .ref sl0, .ref n0, .ref d0, .ref w0, .ref c0])), (f0, .inr (4, [.ref fa, zi fn])), (fa, .inl (y 3, 6, .inr (.inr (.inr (.inr fr))))), (h0, .inr (1, [zi bl, zi bw, zi bt, zi bh, zi bd, zi bx, zi bn, .ref a1, .ref a2, .ref a3])), (a1, .inl (y 0, 8, .inl (cI CI))), (a2, .inl (y 0, 8, .inl (cI CJ))), (a3, .inl (y 0, 8, .inl (cI CW))), (g0, .inr (5, [.ref ga, zi gl, zi gp, zi gx, zi gy])), (ga, .inl (y 0, 36, .inl (cI GK)))] [.ref x0, zi qb, zi la]) (qV (zi (timeV gl gp GK la (lifeV bl bw bt bh bd bx bn CI CJ CW)))) 0 0 (fun _ => False) := by
  refine P_of (own := RX11) (cc := cX11_time) (maxL := 5) (ret := some .int) (by decide) rfl rfl (Nat.le_of_ble_eq_true rfl) (fun p e s m below meth c ls hx hb hr hC hlocks hPr hG hl => ?_)
  have hC0 := hC
  obtain ⟨-, -, hml, hown, hts⟩ := hC0
  have hK := hG.1
  have hinX11 : ∀ w ∈ wsX110, w ∈ wsX11_time := fun _ h => List.mem_cons_of_mem _ (List.mem_append_left _ (List.mem_append_left _ (List.mem_append_left _ (List.mem_append_right _ h))))
  have k1 := hts (.fieldLink RX11 26 "BoatsOfPaper" "theFleet" "LBoatsOfPaper$Fleet;") (List.mem_of_getElem? (i := 1) rfl)
  have k2 := hts (.fieldLink RX11 19 "BoatsOfPaper" "theGutter" "LBoatsOfPaper$Gutter;") (List.mem_of_getElem? (i := 2) rfl)
  have hl : lv_has ls 5 [(0, .ref x0), (1, zi qb), (2, zi la)] := hl
  obtain ⟨q1, q2, q3, q4, q5, q6, q7, q8, q9, qc⟩ := id hB
  obtain ⟨u1, u2, u3, u4, uk⟩ := id hg
  have hl9 := lifeV_bd hB
  have l1 := laneS_bd hg la (k := gp) (by omega) (by omega)
  have l2 : sgI (fun p => secV (kAt gl gp GK la p)) gp = laneS gl gp GK la := rfl
  refine lv_aload_n hx hb dX11_time_0 rfl (lv_at hl 0 rfl) ?_
  refine va_get hx hb hts hinX11 hown hK hPr 0 rfl rfl 2 (by decide) k1 (fun _ h => h) rfl dX11_time_1 ?_
  refine lv_iload_n hx hb dX11_time_4 rfl (lv_at hl 1 rfl) ?_
  refine z_pV (As := [zi qb]) (rest := []) hC (c_X4_find l D y f0 fa fn fr qb h0 (by first | assumption | omega) hfr) (cwV 1 hts gX11_time_X4_find rfl rfl rfl (by decide +kernel) ⟨Nat.le_of_ble_eq_true rfl, Nat.le_of_ble_eq_true rfl⟩) hG (hPr.sub (ws' := [(f0, .inr (4, [.ref fa, zi fn])), (fa, .inl (y 3, 6, .inr (.inr (.inr (.inr fr)))))]) [1, 2] rfl) 0 rfl rfl rfl hl.1 rfl (Nat.le_of_ble_eq_true rfl) dX11_time_5 ⟨Nat.le_of_ble_eq_true rfl, Nat.le_of_ble_eq_true rfl⟩ ?_
  refine lv_astore_n (lv' := [(3, .ref h0), (0, .ref x0), (1, zi qb), (2, zi la)]) hx hb dX11_time_8 rfl hl (by decide) rfl (fun ls hl => ?_)
  refine lv_aload_n hx hb dX11_time_9 rfl (lv_at hl 0 rfl) ?_
  refine lv_ifnull hx hb dX11_time_10 ?_
  refine lv_aload_n hx hb dX11_time_13 rfl (lv_at hl 1 rfl) ?_
  refine va_get hx hb hts hinX11 hown hK hPr 0 rfl rfl 1 (by decide) k2 (fun _ h => h) rfl dX11_time_14 ?_
  refine lv_iload_n hx hb dX11_time_17 rfl (lv_at hl 3 rfl) ?_
  refine z_pV (As := [zi la]) (rest := []) hC (c_X6_hasLane l D y g0 ga gl gp gx gy GK la (by first | assumption | omega) (by first | assumption | omega)) (cwV 1 hts gX11_time_X6_hasLane rfl rfl rfl (by decide +kernel) ⟨Nat.le_of_ble_eq_true rfl, Nat.le_of_ble_eq_true rfl⟩) hG (hPr.sub (ws' := [(g0, .inr (5, [.ref ga, zi gl, zi gp, zi gx, zi gy])), (ga, .inl (y 0, 36, .inl (cI GK)))]) [7, 8] rfl) 0 rfl rfl rfl hl.1 rfl (Nat.le_of_ble_eq_true rfl) dX11_time_18 ⟨Nat.le_of_ble_eq_true rfl, Nat.le_of_ble_eq_true rfl⟩ ?_
  refine z_ifB_ne (tgt := 26) hx hb dX11_time_21 (by decide) (fun c_21 => ?_) (fun c_21 => ?_)
  ·
    refine lv_aload_n hx hb dX11_time_26 rfl (lv_at hl 1 rfl) ?_
    refine va_get hx hb hts hinX11 hown hK hPr 0 rfl rfl 1 (by decide) k2 (fun _ h => h) rfl dX11_time_27 ?_
    refine lv_iload_n hx hb dX11_time_30 rfl (lv_at hl 3 rfl) ?_
    refine z_pV (As := [zi la]) (rest := []) hC (c_X6_laneSeconds l D y g0 ga gl gp gx gy GK la (by first | assumption | omega) (by first | assumption | omega)) (cwV 1 hts gX11_time_X6_laneSeconds rfl rfl rfl (by decide +kernel) ⟨Nat.le_of_ble_eq_true rfl, Nat.le_of_ble_eq_true rfl⟩) hG (hPr.sub (ws' := [(g0, .inr (5, [.ref ga, zi gl, zi gp, zi gx, zi gy])), (ga, .inl (y 0, 36, .inl (cI GK)))]) [7, 8] rfl) 0 rfl rfl rfl hl.1 rfl (Nat.le_of_ble_eq_true rfl) dX11_time_31 ⟨Nat.le_of_ble_eq_true rfl, Nat.le_of_ble_eq_true rfl⟩ ?_
    refine lv_istore (lv' := [(4, zi (laneS gl gp GK la)), (3, .ref h0), (0, .ref x0), (1, zi qb), (2, zi la)]) hx hb dX11_time_34 hl (by decide) rfl (fun ls hl => ?_)
    refine lv_aload_n hx hb dX11_time_36 rfl (lv_at hl 2 rfl) ?_
    refine va_get hx hb hts hinX11 hown hK hPr 0 rfl rfl 1 (by decide) k2 (fun _ h => h) rfl dX11_time_37 ?_
    refine lv_iload_n hx hb dX11_time_40 rfl (lv_at hl 4 rfl) ?_
    refine z_pV (As := [zi la]) (rest := []) hC (c_X6_hasWall l D y g0 ga gl gp gx gy GK la (by first | assumption | omega) (by first | assumption | omega)) (cwV 1 hts gX11_time_X6_hasWall rfl rfl rfl (by decide +kernel) ⟨Nat.le_of_ble_eq_true rfl, Nat.le_of_ble_eq_true rfl⟩) hG (hPr.sub (ws' := [(g0, .inr (5, [.ref ga, zi gl, zi gp, zi gx, zi gy])), (ga, .inl (y 0, 36, .inl (cI GK)))]) [7, 8] rfl) 0 rfl rfl rfl hl.1 rfl (Nat.le_of_ble_eq_true rfl) dX11_time_41 ⟨Nat.le_of_ble_eq_true rfl, Nat.le_of_ble_eq_true rfl⟩ ?_
    refine z_ifB_ne (tgt := 56) hx hb dX11_time_44 (by decide) (fun c_44 => ?_) (fun c_44 => ?_)
    ·
      refine z_bipush hx hb dX11_time_56 (by decide) ?_
      exact z_iret0 hx hb hr hlocks (by unfold timeV; (repeat' split) <;> omega) dX11_time_58
    ·
      refine lv_iload hx hb dX11_time_47 (lv_at hl 0 rfl) ?_
      refine lv_aload_n hx hb dX11_time_49 rfl (lv_at hl 1 rfl) ?_
      refine z_pV (As := []) (rest := [zi (laneS gl gp GK la)]) hC (c_X1_lastSecond l D y h0 a1 a2 a3 bl bw bt bh bd bx bn CI CJ CW (by first | assumption | omega)) (cwV 0 hts gX11_time_X1_lastSecond rfl rfl rfl (by decide +kernel) ⟨Nat.le_of_ble_eq_true rfl, Nat.le_of_ble_eq_true rfl⟩) hG (hPr.sub (ws' := [(h0, .inr (1, [zi bl, zi bw, zi bt, zi bh, zi bd, zi bx, zi bn, .ref a1, .ref a2, .ref a3])), (a1, .inl (y 0, 8, .inl (cI CI))), (a2, .inl (y 0, 8, .inl (cI CJ))), (a3, .inl (y 0, 8, .inl (cI CW)))]) [3, 4, 5, 6] rfl) 0 rfl rfl rfl hl.1 rfl (Nat.le_of_ble_eq_true rfl) dX11_time_50 ⟨Nat.le_of_ble_eq_true rfl, Nat.le_of_ble_eq_true rfl⟩ ?_
      refine z_icmp_le (tgt := 59) hx hb (by omega) (by omega) dX11_time_53 (by decide) (fun c_53 => ?_) (fun c_53 => ?_)
      ·
        refine lv_iload hx hb dX11_time_59 (lv_at hl 0 rfl) ?_
        exact z_iret0 hx hb hr hlocks (by unfold timeV; (repeat' split) <;> omega) dX11_time_61
      ·
        refine z_bipush hx hb dX11_time_56 (by decide) ?_
        exact z_iret0 hx hb hr hlocks (by unfold timeV; (repeat' split) <;> omega) dX11_time_58
  · exfalso; omega
set_option maxHeartbeats 8000000 in
set_option maxRecDepth 100000 in
theorem c_X11_far_nob (l : Launch) (D : va_G) (y : Nat → ClassId) (x0 : Nat) (t0 : Nat) (g0 : Nat) (f0 : Nat) (r0 : Nat) (sl0 : Nat) (n0 : Nat) (d0 : Nat) (w0 : Nat) (c0 : Nat) (fa : Nat) (fn : Int) (fr : Nat → Option Nat) (qb : Int) (la : Int) (uq : Int) (hqb : rI qb ∧ 0 ≤ fn ∧ fn ≤ 6 ∧ ¬ (0 ≤ qb ∧ qb < fn)) : Met l yX11_far wsX11_far ({ frames := 1, cells := 0, slots := 0, locals := 21 } : Room) (pPc D y [(x0, .inr (10, [.ref t0, .ref g0, .ref f0, .ref r0, .ref sl0, .ref n0, .ref d0, .ref w0, .ref c0])), (f0, .inr (4, [.ref fa, zi fn])), (fa, .inl (y 3, 6, .inr (.inr (.inr (.inr fr)))))] [.ref x0, zi qb, zi la, zi uq]) (qV (zl (-1))) 0 0 (fun _ => False) := by
  refine P_of (own := RX11) (cc := cX11_far) (maxL := 5) (ret := some .long) (by decide) rfl rfl (Nat.le_of_ble_eq_true rfl) (fun p e s m below meth c ls hx hb hr hC hlocks hPr hG hl => ?_)
  have hC0 := hC
  obtain ⟨-, -, hml, hown, hts⟩ := hC0
  have hK := hG.1
  have hinX11 : ∀ w ∈ wsX110, w ∈ wsX11_far := fun _ h => List.mem_cons_of_mem _ (List.mem_append_left _ (List.mem_append_left _ (List.mem_append_left _ (List.mem_append_left _ (List.mem_append_right _ h)))))
  have k1 := hts (.fieldLink RX11 26 "BoatsOfPaper" "theFleet" "LBoatsOfPaper$Fleet;") (List.mem_of_getElem? (i := 1) rfl)
  have k3 := hts (.constantLong RX11 163 (-1)) (List.mem_of_getElem? (i := 3) rfl)
  have hl : lv_has ls 5 [(0, .ref x0), (1, zi qb), (2, zi la), (3, zi uq)] := hl
  refine lv_aload_n hx hb dX11_far_0 rfl (lv_at hl 0 rfl) ?_
  refine va_get hx hb hts hinX11 hown hK hPr 0 rfl rfl 2 (by decide) k1 (fun _ h => h) rfl dX11_far_1 ?_
  refine lv_iload_n hx hb dX11_far_4 rfl (lv_at hl 1 rfl) ?_
  refine z_pV (As := [zi qb]) (rest := []) hC (c_X4_find_no l D y f0 fa fn fr qb (by first | assumption | omega)) (cwV 1 hts gX11_far_X4_find rfl rfl rfl (by decide +kernel) ⟨Nat.le_of_ble_eq_true rfl, Nat.le_of_ble_eq_true rfl⟩) hG (hPr.sub (ws' := [(f0, .inr (4, [.ref fa, zi fn])), (fa, .inl (y 3, 6, .inr (.inr (.inr (.inr fr)))))]) [1, 2] rfl) 0 rfl rfl rfl hl.1 rfl (Nat.le_of_ble_eq_true rfl) dX11_far_5 ⟨Nat.le_of_ble_eq_true rfl, Nat.le_of_ble_eq_true rfl⟩ ?_
  refine lv_astoreN (lv' := [(4, .null), (0, .ref x0), (1, zi qb), (2, zi la), (3, zi uq)]) hx hb dX11_far_8 hl (by decide) rfl (fun ls hl => ?_)
  refine lv_aloadN hx hb dX11_far_10 (lv_at hl 0 rfl) ?_
  refine lv_ifnullN (tgt := 26) hx hb dX11_far_12 (by decide) ?_
  refine lv_ldc2 (v := iL (-1)) hx hb hown k3 dX11_far_26 ?_
  exact z_lret0 hx hb hr hlocks (rfl) dX11_far_29
set_option maxHeartbeats 8000000 in
set_option maxRecDepth 100000 in
theorem c_X11_far_nol (l : Launch) (D : va_G) (y : Nat → ClassId) (x0 : Nat) (t0 : Nat) (g0 : Nat) (f0 : Nat) (r0 : Nat) (sl0 : Nat) (n0 : Nat) (d0 : Nat) (w0 : Nat) (c0 : Nat) (fa : Nat) (fn : Int) (fr : Nat → Option Nat) (qb : Int) (h0 : Nat) (a1 : Nat) (a2 : Nat) (a3 : Nat) (bl : Int) (bw : Int) (bt : Int) (bh : Int) (bd : Int) (bx : Int) (bn : Int) (CI : Int → Int) (CJ : Int → Int) (CW : Int → Int) (la : Int) (uq : Int) (ga : Nat) (gl : Int) (gp : Int) (gx : Int) (gy : Int) (GK : Int → Int) (hqb : 0 ≤ fn ∧ fn ≤ 6 ∧ 0 ≤ qb ∧ qb < fn) (hfr : fr qb.toNat = some h0) (hB : bOK bl bw bt bh bd bx bn CI CJ CW) (hg : gOK gl gp gx gy GK) (hla : rI la) (hq : ¬ (0 ≤ la ∧ la < gl)) : Met l yX11_far wsX11_far ({ frames := 1, cells := 0, slots := 0, locals := 21 } : Room) (pPc D y [(x0, .inr (10, [.ref t0, .ref g0, .ref f0, .ref r0, .ref sl0, .ref n0, .ref d0, .ref w0, .ref c0])), (f0, .inr (4, [.ref fa, zi fn])), (fa, .inl (y 3, 6, .inr (.inr (.inr (.inr fr))))), (h0, .inr (1, [zi bl, zi bw, zi bt, zi bh, zi bd, zi bx, zi bn, .ref a1, .ref a2, .ref a3])), (a1, .inl (y 0, 8, .inl (cI CI))), (a2, .inl (y 0, 8, .inl (cI CJ))), (a3, .inl (y 0, 8, .inl (cI CW))), (g0, .inr (5, [.ref ga, zi gl, zi gp, zi gx, zi gy])), (ga, .inl (y 0, 36, .inl (cI GK)))] [.ref x0, zi qb, zi la, zi uq]) (qV (zl (-1))) 0 0 (fun _ => False) := by
  refine P_of (own := RX11) (cc := cX11_far) (maxL := 5) (ret := some .long) (by decide) rfl rfl (Nat.le_of_ble_eq_true rfl) (fun p e s m below meth c ls hx hb hr hC hlocks hPr hG hl => ?_)
  have hC0 := hC
  obtain ⟨-, -, hml, hown, hts⟩ := hC0
  have hK := hG.1
  have hinX11 : ∀ w ∈ wsX110, w ∈ wsX11_far := fun _ h => List.mem_cons_of_mem _ (List.mem_append_left _ (List.mem_append_left _ (List.mem_append_left _ (List.mem_append_left _ (List.mem_append_right _ h)))))
  have k1 := hts (.fieldLink RX11 26 "BoatsOfPaper" "theFleet" "LBoatsOfPaper$Fleet;") (List.mem_of_getElem? (i := 1) rfl)
  have k2 := hts (.fieldLink RX11 19 "BoatsOfPaper" "theGutter" "LBoatsOfPaper$Gutter;") (List.mem_of_getElem? (i := 2) rfl)
  have k3 := hts (.constantLong RX11 163 (-1)) (List.mem_of_getElem? (i := 3) rfl)
  have hl : lv_has ls 5 [(0, .ref x0), (1, zi qb), (2, zi la), (3, zi uq)] := hl
  obtain ⟨q1, q2, q3, q4, q5, q6, q7, q8, q9, qc⟩ := id hB
  obtain ⟨u1, u2, u3, u4, uk⟩ := id hg
  refine lv_aload_n hx hb dX11_far_0 rfl (lv_at hl 0 rfl) ?_
  refine va_get hx hb hts hinX11 hown hK hPr 0 rfl rfl 2 (by decide) k1 (fun _ h => h) rfl dX11_far_1 ?_
  refine lv_iload_n hx hb dX11_far_4 rfl (lv_at hl 1 rfl) ?_
  refine z_pV (As := [zi qb]) (rest := []) hC (c_X4_find l D y f0 fa fn fr qb h0 (by first | assumption | omega) hfr) (cwV 1 hts gX11_far_X4_find rfl rfl rfl (by decide +kernel) ⟨Nat.le_of_ble_eq_true rfl, Nat.le_of_ble_eq_true rfl⟩) hG (hPr.sub (ws' := [(f0, .inr (4, [.ref fa, zi fn])), (fa, .inl (y 3, 6, .inr (.inr (.inr (.inr fr)))))]) [1, 2] rfl) 0 rfl rfl rfl hl.1 rfl (Nat.le_of_ble_eq_true rfl) dX11_far_5 ⟨Nat.le_of_ble_eq_true rfl, Nat.le_of_ble_eq_true rfl⟩ ?_
  refine lv_astore (lv' := [(4, .ref h0), (0, .ref x0), (1, zi qb), (2, zi la), (3, zi uq)]) hx hb dX11_far_8 hl (by decide) rfl (fun ls hl => ?_)
  refine lv_aload hx hb dX11_far_10 (lv_at hl 0 rfl) ?_
  refine lv_ifnull hx hb dX11_far_12 ?_
  refine lv_aload_n hx hb dX11_far_15 rfl (lv_at hl 1 rfl) ?_
  refine va_get hx hb hts hinX11 hown hK hPr 0 rfl rfl 1 (by decide) k2 (fun _ h => h) rfl dX11_far_16 ?_
  refine lv_iload_n hx hb dX11_far_19 rfl (lv_at hl 3 rfl) ?_
  refine z_pV (As := [zi la]) (rest := []) hC (c_X6_hasLane l D y g0 ga gl gp gx gy GK la (by first | assumption | omega) (by first | assumption | omega)) (cwV 1 hts gX11_far_X6_hasLane rfl rfl rfl (by decide +kernel) ⟨Nat.le_of_ble_eq_true rfl, Nat.le_of_ble_eq_true rfl⟩) hG (hPr.sub (ws' := [(g0, .inr (5, [.ref ga, zi gl, zi gp, zi gx, zi gy])), (ga, .inl (y 0, 36, .inl (cI GK)))]) [7, 8] rfl) 0 rfl rfl rfl hl.1 rfl (Nat.le_of_ble_eq_true rfl) dX11_far_20 ⟨Nat.le_of_ble_eq_true rfl, Nat.le_of_ble_eq_true rfl⟩ ?_
  refine z_ifB_ne (tgt := 30) hx hb dX11_far_23 (by decide) (fun c_23 => ?_) (fun c_23 => ?_)
  · exfalso; omega
  ·
    refine lv_ldc2 (v := iL (-1)) hx hb hown k3 dX11_far_26 ?_
    exact z_lret0 hx hb hr hlocks (rfl) dX11_far_29
set_option maxHeartbeats 8000000 in
set_option maxRecDepth 100000 in
theorem c_X11_far (l : Launch) (D : va_G) (y : Nat → ClassId) (x0 : Nat) (t0 : Nat) (g0 : Nat) (f0 : Nat) (r0 : Nat) (sl0 : Nat) (n0 : Nat) (d0 : Nat) (w0 : Nat) (c0 : Nat) (fa : Nat) (fn : Int) (fr : Nat → Option Nat) (qb : Int) (h0 : Nat) (a1 : Nat) (a2 : Nat) (a3 : Nat) (bl : Int) (bw : Int) (bt : Int) (bh : Int) (bd : Int) (bx : Int) (bn : Int) (CI : Int → Int) (CJ : Int → Int) (CW : Int → Int) (la : Int) (uq : Int) (ga : Nat) (gl : Int) (gp : Int) (gx : Int) (gy : Int) (GK : Int → Int) (da : Nat) (dc : Int) (DE : Int → Int) (hqb : 0 ≤ fn ∧ fn ≤ 6 ∧ 0 ≤ qb ∧ qb < fn) (hfr : fr qb.toNat = some h0) (hB : bOK bl bw bt bh bd bx bn CI CJ CW) (hg : gOK gl gp gx gy GK) (hla : 0 ≤ la ∧ la < gl) (huq : uq = 0 ∨ uq = 1) (sz : Nat) : Met l yX11_far wsX11_far ({ frames := 5, cells := 0, slots := 0, locals := 116 } : Room) (wPc D y [(x0, .inr (10, [.ref t0, .ref g0, .ref f0, .ref r0, .ref sl0, .ref n0, .ref d0, .ref w0, .ref c0])), (f0, .inr (4, [.ref fa, zi fn])), (fa, .inl (y 3, 6, .inr (.inr (.inr (.inr fr))))), (h0, .inr (1, [zi bl, zi bw, zi bt, zi bh, zi bd, zi bx, zi bn, .ref a1, .ref a2, .ref a3])), (a1, .inl (y 0, 8, .inl (cI CI))), (a2, .inl (y 0, 8, .inl (cI CJ))), (a3, .inl (y 0, 8, .inl (cI CW))), (g0, .inr (5, [.ref ga, zi gl, zi gp, zi gx, zi gy])), (ga, .inl (y 0, 36, .inl (cI GK)))] [(d0, .inr (3, [.ref da, zl dc])), (da, .inl (y 1, 12, .inr (.inl (cL DE))))] sz [.ref x0, zi qb, zi la, zi uq]) (wQ D (fun (x9 : Int × (Int → Int)) => match x9 with | (dc2, DE2) => some (zl (tellV (crF (acx gl gp gx gy GK la (lifeV bl bw bt bh bd bx bn CI CJ CW)) gp.toNat) (10 ^ gp.toNat) uq))) (fun (x9 : Int × (Int → Int)) => match x9 with | (dc2, DE2) => True) (fun (x9 : Int × (Int → Int)) => match x9 with | (dc2, DE2) => [(d0, .inr (3, [.ref da, zl dc2])), (da, .inl (y 1, 12, .inr (.inl (cL DE2))))]) (va_A [(d0, .inr (3, [.ref da, zl dc])), (da, .inl (y 1, 12, .inr (.inl (cL DE))))] sz)) 0 0 (va_A [(d0, .inr (3, [.ref da, zl dc])), (da, .inl (y 1, 12, .inr (.inl (cL DE))))] sz) := by
  refine W_of (own := RX11) (cc := cX11_far) (maxL := 5) (ret := some .long) (by decide) rfl rfl (Nat.le_of_ble_eq_true rfl) (fun p e s m below meth c ls A hx hb hr hC hlocks hin0 hR0 hN hP hD hA hG hl => ?_)
  have hC0 := hC
  obtain ⟨-, -, hml, hown, hts⟩ := hC0
  have hK := hG.1
  have hS : va_S A s.heap s.heap [] := va_S.rf
  have hPr := hR0
  have hinX11 : ∀ w ∈ wsX110, w ∈ wsX11_far := fun _ h => List.mem_cons_of_mem _ (List.mem_append_left _ (List.mem_append_left _ (List.mem_append_left _ (List.mem_append_left _ (List.mem_append_right _ h)))))
  have hinX3 : ∀ w ∈ wsX30, w ∈ wsX11_far := fun _ h => List.mem_cons_of_mem _ (List.mem_append_left _ (List.mem_append_left _ (List.mem_append_left _ (List.mem_append_right _ h))))
  have hinX6 : ∀ w ∈ wsX60, w ∈ wsX11_far := fun _ h => List.mem_cons_of_mem _ (List.mem_append_left _ (List.mem_append_left _ (List.mem_append_right _ h)))
  have k1 := hts (.fieldLink RX11 26 "BoatsOfPaper" "theFleet" "LBoatsOfPaper$Fleet;") (List.mem_of_getElem? (i := 1) rfl)
  have k2 := hts (.fieldLink RX11 19 "BoatsOfPaper" "theGutter" "LBoatsOfPaper$Gutter;") (List.mem_of_getElem? (i := 2) rfl)
  have k4 := hts (.fieldLink RX11 53 "BoatsOfPaper" "drift" "LBoatsOfPaper$Drift;") (List.mem_of_getElem? (i := 4) rfl)
  have k5 := hts (.fieldLink RX11 228 "BoatsOfPaper$Drift" "crossed" "J") (List.mem_of_getElem? (i := 5) rfl)
  have k6 := hts (.fieldLink RX11 91 "BoatsOfPaper$Gutter" "places" "I") (List.mem_of_getElem? (i := 6) rfl)
  have hl : lv_has ls 5 [(0, .ref x0), (1, zi qb), (2, zi la), (3, zi uq)] := hl
  obtain ⟨q1, q2, q3, q4, q5, q6, q7, q8, q9, qc⟩ := id hB
  obtain ⟨u1, u2, u3, u4, uk⟩ := id hg
  have hl9 := lifeV_bd hB
  have ha := acx_bd hg la (lifeV bl bw bt bh bd bx bn CI CJ CW)
  have t1 := ten12 (r := gp.toNat) (by omega)
  have t2 := ten_p gp.toNat
  have t3 := crF_bd ha gp.toNat
  have t4 := mul_bd (a := (gp.toNat : Int)) (b := 10 ^ gp.toNat) (A := 12) (B := 1000000000000) (by omega) (by omega) (by omega) (by omega)
  refine lv_aload_n hx hb dX11_far_0 rfl (lv_at hl 0 rfl) ?_
  refine va_get hx hb hts hinX11 hown hK hPr 0 rfl rfl 2 (by decide) k1 (fun _ h => h) rfl dX11_far_1 ?_
  refine lv_iload_n hx hb dX11_far_4 rfl (lv_at hl 1 rfl) ?_
  refine z_pV (As := [zi qb]) (rest := []) hC (c_X4_find l D y f0 fa fn fr qb h0 (by first | assumption | omega) hfr) (cwV 1 hts gX11_far_X4_find rfl rfl rfl (by decide +kernel) ⟨Nat.le_of_ble_eq_true rfl, Nat.le_of_ble_eq_true rfl⟩) hG (hPr.sub (ws' := [(f0, .inr (4, [.ref fa, zi fn])), (fa, .inl (y 3, 6, .inr (.inr (.inr (.inr fr)))))]) [1, 2] rfl) 0 rfl rfl rfl hl.1 rfl (Nat.le_of_ble_eq_true rfl) dX11_far_5 ⟨Nat.le_of_ble_eq_true rfl, Nat.le_of_ble_eq_true rfl⟩ ?_
  refine lv_astore (lv' := [(4, .ref h0), (0, .ref x0), (1, zi qb), (2, zi la), (3, zi uq)]) hx hb dX11_far_8 hl (by decide) rfl (fun ls hl => ?_)
  refine lv_aload hx hb dX11_far_10 (lv_at hl 0 rfl) ?_
  refine lv_ifnull hx hb dX11_far_12 ?_
  refine lv_aload_n hx hb dX11_far_15 rfl (lv_at hl 1 rfl) ?_
  refine va_get hx hb hts hinX11 hown hK hPr 0 rfl rfl 1 (by decide) k2 (fun _ h => h) rfl dX11_far_16 ?_
  refine lv_iload_n hx hb dX11_far_19 rfl (lv_at hl 3 rfl) ?_
  refine z_pV (As := [zi la]) (rest := []) hC (c_X6_hasLane l D y g0 ga gl gp gx gy GK la (by first | assumption | omega) (by first | assumption | omega)) (cwV 1 hts gX11_far_X6_hasLane rfl rfl rfl (by decide +kernel) ⟨Nat.le_of_ble_eq_true rfl, Nat.le_of_ble_eq_true rfl⟩) hG (hPr.sub (ws' := [(g0, .inr (5, [.ref ga, zi gl, zi gp, zi gx, zi gy])), (ga, .inl (y 0, 36, .inl (cI GK)))]) [7, 8] rfl) 0 rfl rfl rfl hl.1 rfl (Nat.le_of_ble_eq_true rfl) dX11_far_20 ⟨Nat.le_of_ble_eq_true rfl, Nat.le_of_ble_eq_true rfl⟩ ?_
  refine z_ifB_ne (tgt := 30) hx hb dX11_far_23 (by decide) (fun c_23 => ?_) (fun c_23 => ?_)
  ·
    refine lv_aload_n hx hb dX11_far_30 rfl (lv_at hl 1 rfl) ?_
    refine va_get hx hb hts hinX11 hown hK hPr 0 rfl rfl 6 (by decide) k4 (fun _ h => h) rfl dX11_far_31 ?_
    refine lv_aload_n hx hb dX11_far_34 rfl (lv_at hl 1 rfl) ?_
    refine va_get hx hb hts hinX11 hown hK hPr 0 rfl rfl 1 (by decide) k2 (fun _ h => h) rfl dX11_far_35 ?_
    refine lv_iload_n hx hb dX11_far_38 rfl (lv_at hl 3 rfl) ?_
    refine lv_aload hx hb dX11_far_39 (lv_at hl 0 rfl) ?_
    refine z_pV (As := []) (rest := [zi la, .ref g0, .ref d0]) hC (c_X1_lastSecond l D y h0 a1 a2 a3 bl bw bt bh bd bx bn CI CJ CW (by first | assumption | omega)) (cwV 0 hts gX11_far_X1_lastSecond rfl rfl rfl (by decide +kernel) ⟨Nat.le_of_ble_eq_true rfl, Nat.le_of_ble_eq_true rfl⟩) hG (hPr.sub (ws' := [(h0, .inr (1, [zi bl, zi bw, zi bt, zi bh, zi bd, zi bx, zi bn, .ref a1, .ref a2, .ref a3])), (a1, .inl (y 0, 8, .inl (cI CI))), (a2, .inl (y 0, 8, .inl (cI CJ))), (a3, .inl (y 0, 8, .inl (cI CW)))]) [3, 4, 5, 6] rfl) 0 rfl rfl rfl hl.1 rfl (Nat.le_of_ble_eq_true rfl) dX11_far_41 ⟨Nat.le_of_ble_eq_true rfl, Nat.le_of_ble_eq_true rfl⟩ ?_
    refine z_wV (As := [.ref g0, zi la, zi (lifeV bl bw bt bh bd bx bn CI CJ CW)]) (rest := []) (wc := [(d0, .inr (3, [.ref da, zl dc])), (da, .inl (y 1, 12, .inr (.inl (cL DE))))]) (wrest := []) hC (c_X3_follow l D y d0 da dc DE g0 ga gl gp gx gy GK la (lifeV bl bw bt bh bd bx bn CI CJ CW) (by first | assumption | omega) (by first | assumption | omega) (by first | assumption | omega) _) (cwV 3 hts gX11_far_X3_follow rfl rfl rfl (by decide +kernel) ⟨Nat.le_of_ble_eq_true rfl, Nat.le_of_ble_eq_true rfl⟩) hG hP hD hS hA [0, 1] [] rfl rfl (by decide) (by decide) (by decide) (hPr.sub (ws' := [(g0, .inr (5, [.ref ga, zi gl, zi gp, zi gx, zi gy])), (ga, .inl (y 0, 36, .inl (cI GK)))]) [7, 8] rfl) (fun k q hk z => ro_sub (wr' := [(g0, .inr (5, [.ref ga, zi gl, zi gp, zi gx, zi gy])), (ga, .inl (y 0, 36, .inl (cI GK)))]) hN [7, 8] rfl k q hk (va_free (wc := [(d0, .inr (3, [.ref da, zl dc])), (da, .inl (y 1, 12, .inr (.inl (cL DE))))]) hD hS hA [0, 1] rfl q.1 z)) 0 rfl rfl rfl hl.1 rfl (Nat.le_of_ble_eq_true rfl) dX11_far_44 ⟨Nat.le_of_ble_eq_true rfl, Nat.le_of_ble_eq_true rfl⟩ (fun u9 H locs hw_3 hP hD hS => ?_)
    obtain ⟨dc2, DE2⟩ := u9
    have hw_3 : dc2 = crF (acx gl gp gx gy GK la (lifeV bl bw bt bh bd bx bn CI CJ CW)) gp.toNat ∧ ∀ j : Int, 0 ≤ j → j < gp → DE2 j = enF (acx gl gp gx gy GK la (lifeV bl bw bt bh bd bx bn CI CJ CW)) j := hw_3
    have hP : va_P D vwCl [(d0, .inr (3, [.ref da, zl dc2])), (da, .inl (y 1, 12, .inr (.inl (cL DE2))))] H := hP
    have hD : va_D A [(d0, .inr (3, [.ref da, zl dc2])), (da, .inl (y 1, 12, .inr (.inl (cL DE2))))] := hD
    have hPr := ro_now hR0 hN hS
    obtain ⟨f1, f2⟩ := hw_3
    refine lv_aload_n hx hb dX11_far_47 rfl (lv_at hl 1 rfl) ?_
    refine va_get hx hb hts hinX11 hown hK hPr 0 rfl rfl 6 (by decide) k4 (fun _ h => h) rfl dX11_far_48 ?_
    refine va_get hx hb hts hinX3 hown hK hP 0 rfl rfl 1 (by decide) k5 (fun _ h => h) rfl dX11_far_51 ?_
    refine lv_aload_n hx hb dX11_far_54 rfl (lv_at hl 1 rfl) ?_
    refine va_get hx hb hts hinX11 hown hK hPr 0 rfl rfl 1 (by decide) k2 (fun _ h => h) rfl dX11_far_55 ?_
    refine va_get hx hb hts hinX6 hown hK hPr 7 rfl rfl 2 (by decide) k6 (fun _ h => h) rfl dX11_far_58 ?_
    refine z_pS (As := [zi gp]) (rest := [zl dc2]) hC (c_X5_powerOfTen l D y gp (by first | assumption | omega)) (va_cwS 1 hts gX11_far_X5_powerOfTen rfl rfl rfl (by decide +kernel) ⟨Nat.le_of_ble_eq_true rfl, Nat.le_of_ble_eq_true rfl⟩) hG va_P_nil rfl hl.1 rfl (Nat.le_of_ble_eq_true rfl) dX11_far_61 ⟨Nat.le_of_ble_eq_true rfl, Nat.le_of_ble_eq_true rfl⟩ ?_
    refine lv_iload_n hx hb dX11_far_64 rfl (lv_at hl 4 rfl) ?_
    refine z_pS (As := [zl dc2, zl (10 ^ gp.toNat), zi uq]) (rest := []) hC (c_X5_tell l D y dc2 (10 ^ gp.toNat) uq (by first | assumption | omega) (by first | assumption | omega)) (va_cwS 3 hts gX11_far_X5_tell rfl rfl rfl (by decide +kernel) ⟨Nat.le_of_ble_eq_true rfl, Nat.le_of_ble_eq_true rfl⟩) hG va_P_nil rfl hl.1 rfl (Nat.le_of_ble_eq_true rfl) dX11_far_65 ⟨Nat.le_of_ble_eq_true rfl, Nat.le_of_ble_eq_true rfl⟩ ?_
    exact z_lretW hx hb hr hlocks (dc2, DE2) (by exact congrArg (fun z => some (zl z)) (by rw [f1])) (trivial) (hP.sub [0, 1] rfl) (hD.sub [0, 1] (by decide) rfl) hS dX11_far_68
  · exfalso; omega
set_option maxHeartbeats 8000000 in
set_option maxRecDepth 100000 in
theorem c_X11_ended_nob (l : Launch) (D : va_G) (y : Nat → ClassId) (x0 : Nat) (t0 : Nat) (g0 : Nat) (f0 : Nat) (r0 : Nat) (sl0 : Nat) (n0 : Nat) (d0 : Nat) (w0 : Nat) (c0 : Nat) (fa : Nat) (fn : Int) (fr : Nat → Option Nat) (qb : Int) (la : Int) (pl : Int) (uq : Int) (hqb : rI qb ∧ 0 ≤ fn ∧ fn ≤ 6 ∧ ¬ (0 ≤ qb ∧ qb < fn)) : Met l yX11_ended wsX11_ended ({ frames := 1, cells := 0, slots := 0, locals := 21 } : Room) (pPc D y [(x0, .inr (10, [.ref t0, .ref g0, .ref f0, .ref r0, .ref sl0, .ref n0, .ref d0, .ref w0, .ref c0])), (f0, .inr (4, [.ref fa, zi fn])), (fa, .inl (y 3, 6, .inr (.inr (.inr (.inr fr)))))] [.ref x0, zi qb, zi la, zi pl, zi uq]) (qV (zl (-1))) 0 0 (fun _ => False) := by
  refine P_of (own := RX11) (cc := cX11_ended) (maxL := 6) (ret := some .long) (by decide) rfl rfl (Nat.le_of_ble_eq_true rfl) (fun p e s m below meth c ls hx hb hr hC hlocks hPr hG hl => ?_)
  have hC0 := hC
  obtain ⟨-, -, hml, hown, hts⟩ := hC0
  have hK := hG.1
  have hinX11 : ∀ w ∈ wsX110, w ∈ wsX11_ended := fun _ h => List.mem_cons_of_mem _ (List.mem_append_left _ (List.mem_append_left _ (List.mem_append_left _ (List.mem_append_left _ (List.mem_append_right _ h)))))
  have k1 := hts (.fieldLink RX11 26 "BoatsOfPaper" "theFleet" "LBoatsOfPaper$Fleet;") (List.mem_of_getElem? (i := 1) rfl)
  have k3 := hts (.constantLong RX11 163 (-1)) (List.mem_of_getElem? (i := 3) rfl)
  have hl : lv_has ls 6 [(0, .ref x0), (1, zi qb), (2, zi la), (3, zi pl), (4, zi uq)] := hl
  refine lv_aload_n hx hb dX11_ended_0 rfl (lv_at hl 0 rfl) ?_
  refine va_get hx hb hts hinX11 hown hK hPr 0 rfl rfl 2 (by decide) k1 (fun _ h => h) rfl dX11_ended_1 ?_
  refine lv_iload_n hx hb dX11_ended_4 rfl (lv_at hl 1 rfl) ?_
  refine z_pV (As := [zi qb]) (rest := []) hC (c_X4_find_no l D y f0 fa fn fr qb (by first | assumption | omega)) (cwV 1 hts gX11_ended_X4_find rfl rfl rfl (by decide +kernel) ⟨Nat.le_of_ble_eq_true rfl, Nat.le_of_ble_eq_true rfl⟩) hG (hPr.sub (ws' := [(f0, .inr (4, [.ref fa, zi fn])), (fa, .inl (y 3, 6, .inr (.inr (.inr (.inr fr)))))]) [1, 2] rfl) 0 rfl rfl rfl hl.1 rfl (Nat.le_of_ble_eq_true rfl) dX11_ended_5 ⟨Nat.le_of_ble_eq_true rfl, Nat.le_of_ble_eq_true rfl⟩ ?_
  refine lv_astoreN (lv' := [(5, .null), (0, .ref x0), (1, zi qb), (2, zi la), (3, zi pl), (4, zi uq)]) hx hb dX11_ended_8 hl (by decide) rfl (fun ls hl => ?_)
  refine lv_aloadN hx hb dX11_ended_10 (lv_at hl 0 rfl) ?_
  refine lv_ifnullN (tgt := 27) hx hb dX11_ended_12 (by decide) ?_
  refine lv_ldc2 (v := iL (-1)) hx hb hown k3 dX11_ended_27 ?_
  exact z_lret0 hx hb hr hlocks (rfl) dX11_ended_30
set_option maxHeartbeats 8000000 in
set_option maxRecDepth 100000 in
theorem c_X11_ended_nol (l : Launch) (D : va_G) (y : Nat → ClassId) (x0 : Nat) (t0 : Nat) (g0 : Nat) (f0 : Nat) (r0 : Nat) (sl0 : Nat) (n0 : Nat) (d0 : Nat) (w0 : Nat) (c0 : Nat) (fa : Nat) (fn : Int) (fr : Nat → Option Nat) (qb : Int) (h0 : Nat) (a1 : Nat) (a2 : Nat) (a3 : Nat) (bl : Int) (bw : Int) (bt : Int) (bh : Int) (bd : Int) (bx : Int) (bn : Int) (CI : Int → Int) (CJ : Int → Int) (CW : Int → Int) (la : Int) (pl : Int) (uq : Int) (ga : Nat) (gl : Int) (gp : Int) (gx : Int) (gy : Int) (GK : Int → Int) (hqb : 0 ≤ fn ∧ fn ≤ 6 ∧ 0 ≤ qb ∧ qb < fn) (hfr : fr qb.toNat = some h0) (hB : bOK bl bw bt bh bd bx bn CI CJ CW) (hg : gOK gl gp gx gy GK) (hla : rI la) (hpl : rI pl) (hq : ¬ (0 ≤ la ∧ la < gl ∧ 0 ≤ pl ∧ pl < gp)) : Met l yX11_ended wsX11_ended ({ frames := 2, cells := 0, slots := 0, locals := 43 } : Room) (pPc D y [(x0, .inr (10, [.ref t0, .ref g0, .ref f0, .ref r0, .ref sl0, .ref n0, .ref d0, .ref w0, .ref c0])), (f0, .inr (4, [.ref fa, zi fn])), (fa, .inl (y 3, 6, .inr (.inr (.inr (.inr fr))))), (h0, .inr (1, [zi bl, zi bw, zi bt, zi bh, zi bd, zi bx, zi bn, .ref a1, .ref a2, .ref a3])), (a1, .inl (y 0, 8, .inl (cI CI))), (a2, .inl (y 0, 8, .inl (cI CJ))), (a3, .inl (y 0, 8, .inl (cI CW))), (g0, .inr (5, [.ref ga, zi gl, zi gp, zi gx, zi gy])), (ga, .inl (y 0, 36, .inl (cI GK)))] [.ref x0, zi qb, zi la, zi pl, zi uq]) (qV (zl (-1))) 0 0 (fun _ => False) := by
  refine P_of (own := RX11) (cc := cX11_ended) (maxL := 6) (ret := some .long) (by decide) rfl rfl (Nat.le_of_ble_eq_true rfl) (fun p e s m below meth c ls hx hb hr hC hlocks hPr hG hl => ?_)
  have hC0 := hC
  obtain ⟨-, -, hml, hown, hts⟩ := hC0
  have hK := hG.1
  have hinX11 : ∀ w ∈ wsX110, w ∈ wsX11_ended := fun _ h => List.mem_cons_of_mem _ (List.mem_append_left _ (List.mem_append_left _ (List.mem_append_left _ (List.mem_append_left _ (List.mem_append_right _ h)))))
  have k1 := hts (.fieldLink RX11 26 "BoatsOfPaper" "theFleet" "LBoatsOfPaper$Fleet;") (List.mem_of_getElem? (i := 1) rfl)
  have k2 := hts (.fieldLink RX11 19 "BoatsOfPaper" "theGutter" "LBoatsOfPaper$Gutter;") (List.mem_of_getElem? (i := 2) rfl)
  have k3 := hts (.constantLong RX11 163 (-1)) (List.mem_of_getElem? (i := 3) rfl)
  have hl : lv_has ls 6 [(0, .ref x0), (1, zi qb), (2, zi la), (3, zi pl), (4, zi uq)] := hl
  obtain ⟨q1, q2, q3, q4, q5, q6, q7, q8, q9, qc⟩ := id hB
  obtain ⟨u1, u2, u3, u4, uk⟩ := id hg
  refine lv_aload_n hx hb dX11_ended_0 rfl (lv_at hl 0 rfl) ?_
  refine va_get hx hb hts hinX11 hown hK hPr 0 rfl rfl 2 (by decide) k1 (fun _ h => h) rfl dX11_ended_1 ?_
  refine lv_iload_n hx hb dX11_ended_4 rfl (lv_at hl 1 rfl) ?_
  refine z_pV (As := [zi qb]) (rest := []) hC (c_X4_find l D y f0 fa fn fr qb h0 (by first | assumption | omega) hfr) (cwV 1 hts gX11_ended_X4_find rfl rfl rfl (by decide +kernel) ⟨Nat.le_of_ble_eq_true rfl, Nat.le_of_ble_eq_true rfl⟩) hG (hPr.sub (ws' := [(f0, .inr (4, [.ref fa, zi fn])), (fa, .inl (y 3, 6, .inr (.inr (.inr (.inr fr)))))]) [1, 2] rfl) 0 rfl rfl rfl hl.1 rfl (Nat.le_of_ble_eq_true rfl) dX11_ended_5 ⟨Nat.le_of_ble_eq_true rfl, Nat.le_of_ble_eq_true rfl⟩ ?_
  refine lv_astore (lv' := [(5, .ref h0), (0, .ref x0), (1, zi qb), (2, zi la), (3, zi pl), (4, zi uq)]) hx hb dX11_ended_8 hl (by decide) rfl (fun ls hl => ?_)
  refine lv_aload hx hb dX11_ended_10 (lv_at hl 0 rfl) ?_
  refine lv_ifnull hx hb dX11_ended_12 ?_
  refine lv_aload_n hx hb dX11_ended_15 rfl (lv_at hl 1 rfl) ?_
  refine va_get hx hb hts hinX11 hown hK hPr 0 rfl rfl 1 (by decide) k2 (fun _ h => h) rfl dX11_ended_16 ?_
  refine lv_iload_n hx hb dX11_ended_19 rfl (lv_at hl 3 rfl) ?_
  refine lv_iload_n hx hb dX11_ended_20 rfl (lv_at hl 4 rfl) ?_
  refine z_pV (As := [zi la, zi pl]) (rest := []) hC (c_X6_has l D y g0 ga gl gp gx gy GK la pl (by first | assumption | omega) (by first | assumption | omega) (by first | assumption | omega)) (cwV 2 hts gX11_ended_X6_has rfl rfl rfl (by decide +kernel) ⟨Nat.le_of_ble_eq_true rfl, Nat.le_of_ble_eq_true rfl⟩) hG (hPr.sub (ws' := [(g0, .inr (5, [.ref ga, zi gl, zi gp, zi gx, zi gy])), (ga, .inl (y 0, 36, .inl (cI GK)))]) [7, 8] rfl) 0 rfl rfl rfl hl.1 rfl (Nat.le_of_ble_eq_true rfl) dX11_ended_21 ⟨Nat.le_of_ble_eq_true rfl, Nat.le_of_ble_eq_true rfl⟩ ?_
  refine z_ifB_ne (tgt := 31) hx hb dX11_ended_24 (by decide) (fun c_24 => ?_) (fun c_24 => ?_)
  · exfalso; omega
  ·
    refine lv_ldc2 (v := iL (-1)) hx hb hown k3 dX11_ended_27 ?_
    exact z_lret0 hx hb hr hlocks (rfl) dX11_ended_30
set_option maxHeartbeats 8000000 in
set_option maxRecDepth 100000 in
theorem c_X11_ended (l : Launch) (D : va_G) (y : Nat → ClassId) (x0 : Nat) (t0 : Nat) (g0 : Nat) (f0 : Nat) (r0 : Nat) (sl0 : Nat) (n0 : Nat) (d0 : Nat) (w0 : Nat) (c0 : Nat) (fa : Nat) (fn : Int) (fr : Nat → Option Nat) (qb : Int) (h0 : Nat) (a1 : Nat) (a2 : Nat) (a3 : Nat) (bl : Int) (bw : Int) (bt : Int) (bh : Int) (bd : Int) (bx : Int) (bn : Int) (CI : Int → Int) (CJ : Int → Int) (CW : Int → Int) (la : Int) (pl : Int) (uq : Int) (ga : Nat) (gl : Int) (gp : Int) (gx : Int) (gy : Int) (GK : Int → Int) (da : Nat) (dc : Int) (DE : Int → Int) (hqb : 0 ≤ fn ∧ fn ≤ 6 ∧ 0 ≤ qb ∧ qb < fn) (hfr : fr qb.toNat = some h0) (hB : bOK bl bw bt bh bd bx bn CI CJ CW) (hg : gOK gl gp gx gy GK) (hla : 0 ≤ la ∧ la < gl) (hpl : 0 ≤ pl ∧ pl < gp) (huq : uq = 0 ∨ uq = 1) (sz : Nat) : Met l yX11_ended wsX11_ended ({ frames := 5, cells := 0, slots := 0, locals := 116 } : Room) (wPc D y [(x0, .inr (10, [.ref t0, .ref g0, .ref f0, .ref r0, .ref sl0, .ref n0, .ref d0, .ref w0, .ref c0])), (f0, .inr (4, [.ref fa, zi fn])), (fa, .inl (y 3, 6, .inr (.inr (.inr (.inr fr))))), (h0, .inr (1, [zi bl, zi bw, zi bt, zi bh, zi bd, zi bx, zi bn, .ref a1, .ref a2, .ref a3])), (a1, .inl (y 0, 8, .inl (cI CI))), (a2, .inl (y 0, 8, .inl (cI CJ))), (a3, .inl (y 0, 8, .inl (cI CW))), (g0, .inr (5, [.ref ga, zi gl, zi gp, zi gx, zi gy])), (ga, .inl (y 0, 36, .inl (cI GK)))] [(d0, .inr (3, [.ref da, zl dc])), (da, .inl (y 1, 12, .inr (.inl (cL DE))))] sz [.ref x0, zi qb, zi la, zi pl, zi uq]) (wQ D (fun (x9 : Int × (Int → Int)) => match x9 with | (dc2, DE2) => some (zl (tellV (enF (acx gl gp gx gy GK la (lifeV bl bw bt bh bd bx bn CI CJ CW)) pl) (10 ^ (pl + 1).toNat) uq))) (fun (x9 : Int × (Int → Int)) => match x9 with | (dc2, DE2) => True) (fun (x9 : Int × (Int → Int)) => match x9 with | (dc2, DE2) => [(d0, .inr (3, [.ref da, zl dc2])), (da, .inl (y 1, 12, .inr (.inl (cL DE2))))]) (va_A [(d0, .inr (3, [.ref da, zl dc])), (da, .inl (y 1, 12, .inr (.inl (cL DE))))] sz)) 0 0 (va_A [(d0, .inr (3, [.ref da, zl dc])), (da, .inl (y 1, 12, .inr (.inl (cL DE))))] sz) := by
  refine W_of (own := RX11) (cc := cX11_ended) (maxL := 6) (ret := some .long) (by decide) rfl rfl (Nat.le_of_ble_eq_true rfl) (fun p e s m below meth c ls A hx hb hr hC hlocks hin0 hR0 hN hP hD hA hG hl => ?_)
  have hC0 := hC
  obtain ⟨-, -, hml, hown, hts⟩ := hC0
  have hK := hG.1
  have hS : va_S A s.heap s.heap [] := va_S.rf
  have hPr := hR0
  have hinX11 : ∀ w ∈ wsX110, w ∈ wsX11_ended := fun _ h => List.mem_cons_of_mem _ (List.mem_append_left _ (List.mem_append_left _ (List.mem_append_left _ (List.mem_append_left _ (List.mem_append_right _ h)))))
  have k1 := hts (.fieldLink RX11 26 "BoatsOfPaper" "theFleet" "LBoatsOfPaper$Fleet;") (List.mem_of_getElem? (i := 1) rfl)
  have k2 := hts (.fieldLink RX11 19 "BoatsOfPaper" "theGutter" "LBoatsOfPaper$Gutter;") (List.mem_of_getElem? (i := 2) rfl)
  have k4 := hts (.fieldLink RX11 53 "BoatsOfPaper" "drift" "LBoatsOfPaper$Drift;") (List.mem_of_getElem? (i := 4) rfl)
  have hl : lv_has ls 6 [(0, .ref x0), (1, zi qb), (2, zi la), (3, zi pl), (4, zi uq)] := hl
  obtain ⟨q1, q2, q3, q4, q5, q6, q7, q8, q9, qc⟩ := id hB
  obtain ⟨u1, u2, u3, u4, uk⟩ := id hg
  have hl9 := lifeV_bd hB
  have ha := acx_bd hg la (lifeV bl bw bt bh bd bx bn CI CJ CW)
  have t1 := ten12 (r := gp.toNat) (by omega)
  have t2 := ten_p gp.toNat
  have e1 := enF_bd ha hpl.1
  have e2 := ten12 (r := (pl + 1).toNat) (by omega)
  have e3 := ten_p (pl + 1).toNat
  refine lv_aload_n hx hb dX11_ended_0 rfl (lv_at hl 0 rfl) ?_
  refine va_get hx hb hts hinX11 hown hK hPr 0 rfl rfl 2 (by decide) k1 (fun _ h => h) rfl dX11_ended_1 ?_
  refine lv_iload_n hx hb dX11_ended_4 rfl (lv_at hl 1 rfl) ?_
  refine z_pV (As := [zi qb]) (rest := []) hC (c_X4_find l D y f0 fa fn fr qb h0 (by first | assumption | omega) hfr) (cwV 1 hts gX11_ended_X4_find rfl rfl rfl (by decide +kernel) ⟨Nat.le_of_ble_eq_true rfl, Nat.le_of_ble_eq_true rfl⟩) hG (hPr.sub (ws' := [(f0, .inr (4, [.ref fa, zi fn])), (fa, .inl (y 3, 6, .inr (.inr (.inr (.inr fr)))))]) [1, 2] rfl) 0 rfl rfl rfl hl.1 rfl (Nat.le_of_ble_eq_true rfl) dX11_ended_5 ⟨Nat.le_of_ble_eq_true rfl, Nat.le_of_ble_eq_true rfl⟩ ?_
  refine lv_astore (lv' := [(5, .ref h0), (0, .ref x0), (1, zi qb), (2, zi la), (3, zi pl), (4, zi uq)]) hx hb dX11_ended_8 hl (by decide) rfl (fun ls hl => ?_)
  refine lv_aload hx hb dX11_ended_10 (lv_at hl 0 rfl) ?_
  refine lv_ifnull hx hb dX11_ended_12 ?_
  refine lv_aload_n hx hb dX11_ended_15 rfl (lv_at hl 1 rfl) ?_
  refine va_get hx hb hts hinX11 hown hK hPr 0 rfl rfl 1 (by decide) k2 (fun _ h => h) rfl dX11_ended_16 ?_
  refine lv_iload_n hx hb dX11_ended_19 rfl (lv_at hl 3 rfl) ?_
  refine lv_iload_n hx hb dX11_ended_20 rfl (lv_at hl 4 rfl) ?_
  refine z_pV (As := [zi la, zi pl]) (rest := []) hC (c_X6_has l D y g0 ga gl gp gx gy GK la pl (by first | assumption | omega) (by first | assumption | omega) (by first | assumption | omega)) (cwV 2 hts gX11_ended_X6_has rfl rfl rfl (by decide +kernel) ⟨Nat.le_of_ble_eq_true rfl, Nat.le_of_ble_eq_true rfl⟩) hG (hPr.sub (ws' := [(g0, .inr (5, [.ref ga, zi gl, zi gp, zi gx, zi gy])), (ga, .inl (y 0, 36, .inl (cI GK)))]) [7, 8] rfl) 0 rfl rfl rfl hl.1 rfl (Nat.le_of_ble_eq_true rfl) dX11_ended_21 ⟨Nat.le_of_ble_eq_true rfl, Nat.le_of_ble_eq_true rfl⟩ ?_
  refine z_ifB_ne (tgt := 31) hx hb dX11_ended_24 (by decide) (fun c_24 => ?_) (fun c_24 => ?_)
  ·
    refine lv_aload_n hx hb dX11_ended_31 rfl (lv_at hl 1 rfl) ?_
    refine va_get hx hb hts hinX11 hown hK hPr 0 rfl rfl 6 (by decide) k4 (fun _ h => h) rfl dX11_ended_32 ?_
    refine lv_aload_n hx hb dX11_ended_35 rfl (lv_at hl 1 rfl) ?_
    refine va_get hx hb hts hinX11 hown hK hPr 0 rfl rfl 1 (by decide) k2 (fun _ h => h) rfl dX11_ended_36 ?_
    refine lv_iload_n hx hb dX11_ended_39 rfl (lv_at hl 3 rfl) ?_
    refine lv_aload hx hb dX11_ended_40 (lv_at hl 0 rfl) ?_
    refine z_pV (As := []) (rest := [zi la, .ref g0, .ref d0]) hC (c_X1_lastSecond l D y h0 a1 a2 a3 bl bw bt bh bd bx bn CI CJ CW (by first | assumption | omega)) (cwV 0 hts gX11_ended_X1_lastSecond rfl rfl rfl (by decide +kernel) ⟨Nat.le_of_ble_eq_true rfl, Nat.le_of_ble_eq_true rfl⟩) hG (hPr.sub (ws' := [(h0, .inr (1, [zi bl, zi bw, zi bt, zi bh, zi bd, zi bx, zi bn, .ref a1, .ref a2, .ref a3])), (a1, .inl (y 0, 8, .inl (cI CI))), (a2, .inl (y 0, 8, .inl (cI CJ))), (a3, .inl (y 0, 8, .inl (cI CW)))]) [3, 4, 5, 6] rfl) 0 rfl rfl rfl hl.1 rfl (Nat.le_of_ble_eq_true rfl) dX11_ended_42 ⟨Nat.le_of_ble_eq_true rfl, Nat.le_of_ble_eq_true rfl⟩ ?_
    refine z_wV (As := [.ref g0, zi la, zi (lifeV bl bw bt bh bd bx bn CI CJ CW)]) (rest := []) (wc := [(d0, .inr (3, [.ref da, zl dc])), (da, .inl (y 1, 12, .inr (.inl (cL DE))))]) (wrest := []) hC (c_X3_follow l D y d0 da dc DE g0 ga gl gp gx gy GK la (lifeV bl bw bt bh bd bx bn CI CJ CW) (by first | assumption | omega) (by first | assumption | omega) (by first | assumption | omega) _) (cwV 3 hts gX11_ended_X3_follow rfl rfl rfl (by decide +kernel) ⟨Nat.le_of_ble_eq_true rfl, Nat.le_of_ble_eq_true rfl⟩) hG hP hD hS hA [0, 1] [] rfl rfl (by decide) (by decide) (by decide) (hPr.sub (ws' := [(g0, .inr (5, [.ref ga, zi gl, zi gp, zi gx, zi gy])), (ga, .inl (y 0, 36, .inl (cI GK)))]) [7, 8] rfl) (fun k q hk z => ro_sub (wr' := [(g0, .inr (5, [.ref ga, zi gl, zi gp, zi gx, zi gy])), (ga, .inl (y 0, 36, .inl (cI GK)))]) hN [7, 8] rfl k q hk (va_free (wc := [(d0, .inr (3, [.ref da, zl dc])), (da, .inl (y 1, 12, .inr (.inl (cL DE))))]) hD hS hA [0, 1] rfl q.1 z)) 0 rfl rfl rfl hl.1 rfl (Nat.le_of_ble_eq_true rfl) dX11_ended_45 ⟨Nat.le_of_ble_eq_true rfl, Nat.le_of_ble_eq_true rfl⟩ (fun u9 H locs hw_3 hP hD hS => ?_)
    obtain ⟨dc2, DE2⟩ := u9
    have hw_3 : dc2 = crF (acx gl gp gx gy GK la (lifeV bl bw bt bh bd bx bn CI CJ CW)) gp.toNat ∧ ∀ j : Int, 0 ≤ j → j < gp → DE2 j = enF (acx gl gp gx gy GK la (lifeV bl bw bt bh bd bx bn CI CJ CW)) j := hw_3
    have hP : va_P D vwCl [(d0, .inr (3, [.ref da, zl dc2])), (da, .inl (y 1, 12, .inr (.inl (cL DE2))))] H := hP
    have hD : va_D A [(d0, .inr (3, [.ref da, zl dc2])), (da, .inl (y 1, 12, .inr (.inl (cL DE2))))] := hD
    have hPr := ro_now hR0 hN hS
    obtain ⟨f1, f2⟩ := hw_3
    have f3 := f2 pl hpl.1 hpl.2
    refine lv_aload_n hx hb dX11_ended_48 rfl (lv_at hl 1 rfl) ?_
    refine va_get hx hb hts hinX11 hown hK hPr 0 rfl rfl 6 (by decide) k4 (fun _ h => h) rfl dX11_ended_49 ?_
    refine lv_iload_n hx hb dX11_ended_52 rfl (lv_at hl 4 rfl) ?_
    refine z_pV (As := [zi pl]) (rest := []) hC (c_X3_endedAt l D y d0 da dc2 DE2 pl (by first | assumption | omega)) (cwV 1 hts gX11_ended_X3_endedAt rfl rfl rfl (by decide +kernel) ⟨Nat.le_of_ble_eq_true rfl, Nat.le_of_ble_eq_true rfl⟩) hG (hP.sub (ws' := [(d0, .inr (3, [.ref da, zl dc2])), (da, .inl (y 1, 12, .inr (.inl (cL DE2))))]) [0, 1] rfl) 0 rfl rfl rfl hl.1 rfl (Nat.le_of_ble_eq_true rfl) dX11_ended_53 ⟨Nat.le_of_ble_eq_true rfl, Nat.le_of_ble_eq_true rfl⟩ ?_
    refine lv_iload_n hx hb dX11_ended_56 rfl (lv_at hl 4 rfl) ?_
    refine z_iconst hx hb dX11_ended_57 ?_
    refine z_iadd hx hb dX11_ended_58 ?_
    refine z_pS (As := [zi (pl + 1)]) (rest := [zl (DE2 pl)]) hC (c_X5_powerOfTen l D y (pl + 1) (by first | assumption | omega)) (va_cwS 1 hts gX11_ended_X5_powerOfTen rfl rfl rfl (by decide +kernel) ⟨Nat.le_of_ble_eq_true rfl, Nat.le_of_ble_eq_true rfl⟩) hG va_P_nil rfl hl.1 rfl (Nat.le_of_ble_eq_true rfl) dX11_ended_59 ⟨Nat.le_of_ble_eq_true rfl, Nat.le_of_ble_eq_true rfl⟩ ?_
    refine lv_iload hx hb dX11_ended_62 (lv_at hl 5 rfl) ?_
    refine z_pS (As := [zl (DE2 pl), zl (10 ^ (pl + 1).toNat), zi uq]) (rest := []) hC (c_X5_tell l D y (DE2 pl) (10 ^ (pl + 1).toNat) uq (by first | assumption | omega) (by first | assumption | omega)) (va_cwS 3 hts gX11_ended_X5_tell rfl rfl rfl (by decide +kernel) ⟨Nat.le_of_ble_eq_true rfl, Nat.le_of_ble_eq_true rfl⟩) hG va_P_nil rfl hl.1 rfl (Nat.le_of_ble_eq_true rfl) dX11_ended_64 ⟨Nat.le_of_ble_eq_true rfl, Nat.le_of_ble_eq_true rfl⟩ ?_
    exact z_lretW hx hb hr hlocks (dc2, DE2) (by exact congrArg (fun z => some (zl z)) (by rw [f3])) (trivial) (hP.sub [0, 1] rfl) (hD.sub [0, 1] (by decide) rfl) hS dX11_ended_67
  · exfalso; omega
set_option maxHeartbeats 8000000 in
set_option maxRecDepth 100000 in
theorem c_X11_home_nob (l : Launch) (D : va_G) (y : Nat → ClassId) (x0 : Nat) (t0 : Nat) (g0 : Nat) (f0 : Nat) (r0 : Nat) (sl0 : Nat) (n0 : Nat) (d0 : Nat) (w0 : Nat) (c0 : Nat) (fa : Nat) (fn : Int) (fr : Nat → Option Nat) (qb : Int) (la : Int) (uq : Int) (hqb : rI qb ∧ 0 ≤ fn ∧ fn ≤ 6 ∧ ¬ (0 ≤ qb ∧ qb < fn)) : Met l yX11_home wsX11_home ({ frames := 1, cells := 0, slots := 0, locals := 21 } : Room) (pPc D y [(x0, .inr (10, [.ref t0, .ref g0, .ref f0, .ref r0, .ref sl0, .ref n0, .ref d0, .ref w0, .ref c0])), (f0, .inr (4, [.ref fa, zi fn])), (fa, .inl (y 3, 6, .inr (.inr (.inr (.inr fr)))))] [.ref x0, zi qb, zi la, zi uq]) (qV (zl (-1))) 0 0 (fun _ => False) := by
  refine P_of (own := RX11) (cc := cX11_home) (maxL := 5) (ret := some .long) (by decide) rfl rfl (Nat.le_of_ble_eq_true rfl) (fun p e s m below meth c ls hx hb hr hC hlocks hPr hG hl => ?_)
  have hC0 := hC
  obtain ⟨-, -, hml, hown, hts⟩ := hC0
  have hK := hG.1
  have hinX11 : ∀ w ∈ wsX110, w ∈ wsX11_home := fun _ h => List.mem_cons_of_mem _ (List.mem_append_left _ (List.mem_append_left _ (List.mem_append_left _ (List.mem_append_left _ (List.mem_append_right _ h)))))
  have k1 := hts (.fieldLink RX11 26 "BoatsOfPaper" "theFleet" "LBoatsOfPaper$Fleet;") (List.mem_of_getElem? (i := 1) rfl)
  have k3 := hts (.constantLong RX11 163 (-1)) (List.mem_of_getElem? (i := 3) rfl)
  have hl : lv_has ls 5 [(0, .ref x0), (1, zi qb), (2, zi la), (3, zi uq)] := hl
  refine lv_aload_n hx hb dX11_home_0 rfl (lv_at hl 0 rfl) ?_
  refine va_get hx hb hts hinX11 hown hK hPr 0 rfl rfl 2 (by decide) k1 (fun _ h => h) rfl dX11_home_1 ?_
  refine lv_iload_n hx hb dX11_home_4 rfl (lv_at hl 1 rfl) ?_
  refine z_pV (As := [zi qb]) (rest := []) hC (c_X4_find_no l D y f0 fa fn fr qb (by first | assumption | omega)) (cwV 1 hts gX11_home_X4_find rfl rfl rfl (by decide +kernel) ⟨Nat.le_of_ble_eq_true rfl, Nat.le_of_ble_eq_true rfl⟩) hG (hPr.sub (ws' := [(f0, .inr (4, [.ref fa, zi fn])), (fa, .inl (y 3, 6, .inr (.inr (.inr (.inr fr)))))]) [1, 2] rfl) 0 rfl rfl rfl hl.1 rfl (Nat.le_of_ble_eq_true rfl) dX11_home_5 ⟨Nat.le_of_ble_eq_true rfl, Nat.le_of_ble_eq_true rfl⟩ ?_
  refine lv_astoreN (lv' := [(4, .null), (0, .ref x0), (1, zi qb), (2, zi la), (3, zi uq)]) hx hb dX11_home_8 hl (by decide) rfl (fun ls hl => ?_)
  refine lv_aloadN hx hb dX11_home_10 (lv_at hl 0 rfl) ?_
  refine lv_ifnullN (tgt := 26) hx hb dX11_home_12 (by decide) ?_
  refine lv_ldc2 (v := iL (-1)) hx hb hown k3 dX11_home_26 ?_
  exact z_lret0 hx hb hr hlocks (rfl) dX11_home_29
set_option maxHeartbeats 8000000 in
set_option maxRecDepth 100000 in
theorem c_X11_home_nol (l : Launch) (D : va_G) (y : Nat → ClassId) (x0 : Nat) (t0 : Nat) (g0 : Nat) (f0 : Nat) (r0 : Nat) (sl0 : Nat) (n0 : Nat) (d0 : Nat) (w0 : Nat) (c0 : Nat) (fa : Nat) (fn : Int) (fr : Nat → Option Nat) (qb : Int) (h0 : Nat) (a1 : Nat) (a2 : Nat) (a3 : Nat) (bl : Int) (bw : Int) (bt : Int) (bh : Int) (bd : Int) (bx : Int) (bn : Int) (CI : Int → Int) (CJ : Int → Int) (CW : Int → Int) (la : Int) (uq : Int) (ga : Nat) (gl : Int) (gp : Int) (gx : Int) (gy : Int) (GK : Int → Int) (hqb : 0 ≤ fn ∧ fn ≤ 6 ∧ 0 ≤ qb ∧ qb < fn) (hfr : fr qb.toNat = some h0) (hB : bOK bl bw bt bh bd bx bn CI CJ CW) (hg : gOK gl gp gx gy GK) (hla : rI la) (hq : ¬ (0 ≤ la ∧ la < gl)) : Met l yX11_home wsX11_home ({ frames := 1, cells := 0, slots := 0, locals := 21 } : Room) (pPc D y [(x0, .inr (10, [.ref t0, .ref g0, .ref f0, .ref r0, .ref sl0, .ref n0, .ref d0, .ref w0, .ref c0])), (f0, .inr (4, [.ref fa, zi fn])), (fa, .inl (y 3, 6, .inr (.inr (.inr (.inr fr))))), (h0, .inr (1, [zi bl, zi bw, zi bt, zi bh, zi bd, zi bx, zi bn, .ref a1, .ref a2, .ref a3])), (a1, .inl (y 0, 8, .inl (cI CI))), (a2, .inl (y 0, 8, .inl (cI CJ))), (a3, .inl (y 0, 8, .inl (cI CW))), (g0, .inr (5, [.ref ga, zi gl, zi gp, zi gx, zi gy])), (ga, .inl (y 0, 36, .inl (cI GK)))] [.ref x0, zi qb, zi la, zi uq]) (qV (zl (-1))) 0 0 (fun _ => False) := by
  refine P_of (own := RX11) (cc := cX11_home) (maxL := 5) (ret := some .long) (by decide) rfl rfl (Nat.le_of_ble_eq_true rfl) (fun p e s m below meth c ls hx hb hr hC hlocks hPr hG hl => ?_)
  have hC0 := hC
  obtain ⟨-, -, hml, hown, hts⟩ := hC0
  have hK := hG.1
  have hinX11 : ∀ w ∈ wsX110, w ∈ wsX11_home := fun _ h => List.mem_cons_of_mem _ (List.mem_append_left _ (List.mem_append_left _ (List.mem_append_left _ (List.mem_append_left _ (List.mem_append_right _ h)))))
  have k1 := hts (.fieldLink RX11 26 "BoatsOfPaper" "theFleet" "LBoatsOfPaper$Fleet;") (List.mem_of_getElem? (i := 1) rfl)
  have k2 := hts (.fieldLink RX11 19 "BoatsOfPaper" "theGutter" "LBoatsOfPaper$Gutter;") (List.mem_of_getElem? (i := 2) rfl)
  have k3 := hts (.constantLong RX11 163 (-1)) (List.mem_of_getElem? (i := 3) rfl)
  have hl : lv_has ls 5 [(0, .ref x0), (1, zi qb), (2, zi la), (3, zi uq)] := hl
  obtain ⟨q1, q2, q3, q4, q5, q6, q7, q8, q9, qc⟩ := id hB
  obtain ⟨u1, u2, u3, u4, uk⟩ := id hg
  refine lv_aload_n hx hb dX11_home_0 rfl (lv_at hl 0 rfl) ?_
  refine va_get hx hb hts hinX11 hown hK hPr 0 rfl rfl 2 (by decide) k1 (fun _ h => h) rfl dX11_home_1 ?_
  refine lv_iload_n hx hb dX11_home_4 rfl (lv_at hl 1 rfl) ?_
  refine z_pV (As := [zi qb]) (rest := []) hC (c_X4_find l D y f0 fa fn fr qb h0 (by first | assumption | omega) hfr) (cwV 1 hts gX11_home_X4_find rfl rfl rfl (by decide +kernel) ⟨Nat.le_of_ble_eq_true rfl, Nat.le_of_ble_eq_true rfl⟩) hG (hPr.sub (ws' := [(f0, .inr (4, [.ref fa, zi fn])), (fa, .inl (y 3, 6, .inr (.inr (.inr (.inr fr)))))]) [1, 2] rfl) 0 rfl rfl rfl hl.1 rfl (Nat.le_of_ble_eq_true rfl) dX11_home_5 ⟨Nat.le_of_ble_eq_true rfl, Nat.le_of_ble_eq_true rfl⟩ ?_
  refine lv_astore (lv' := [(4, .ref h0), (0, .ref x0), (1, zi qb), (2, zi la), (3, zi uq)]) hx hb dX11_home_8 hl (by decide) rfl (fun ls hl => ?_)
  refine lv_aload hx hb dX11_home_10 (lv_at hl 0 rfl) ?_
  refine lv_ifnull hx hb dX11_home_12 ?_
  refine lv_aload_n hx hb dX11_home_15 rfl (lv_at hl 1 rfl) ?_
  refine va_get hx hb hts hinX11 hown hK hPr 0 rfl rfl 1 (by decide) k2 (fun _ h => h) rfl dX11_home_16 ?_
  refine lv_iload_n hx hb dX11_home_19 rfl (lv_at hl 3 rfl) ?_
  refine z_pV (As := [zi la]) (rest := []) hC (c_X6_hasLane l D y g0 ga gl gp gx gy GK la (by first | assumption | omega) (by first | assumption | omega)) (cwV 1 hts gX11_home_X6_hasLane rfl rfl rfl (by decide +kernel) ⟨Nat.le_of_ble_eq_true rfl, Nat.le_of_ble_eq_true rfl⟩) hG (hPr.sub (ws' := [(g0, .inr (5, [.ref ga, zi gl, zi gp, zi gx, zi gy])), (ga, .inl (y 0, 36, .inl (cI GK)))]) [7, 8] rfl) 0 rfl rfl rfl hl.1 rfl (Nat.le_of_ble_eq_true rfl) dX11_home_20 ⟨Nat.le_of_ble_eq_true rfl, Nat.le_of_ble_eq_true rfl⟩ ?_
  refine z_ifB_ne (tgt := 30) hx hb dX11_home_23 (by decide) (fun c_23 => ?_) (fun c_23 => ?_)
  · exfalso; omega
  ·
    refine lv_ldc2 (v := iL (-1)) hx hb hown k3 dX11_home_26 ?_
    exact z_lret0 hx hb hr hlocks (rfl) dX11_home_29
set_option maxHeartbeats 8000000 in
set_option maxRecDepth 100000 in
theorem c_X11_home (l : Launch) (D : va_G) (y : Nat → ClassId) (x0 : Nat) (t0 : Nat) (g0 : Nat) (f0 : Nat) (r0 : Nat) (sl0 : Nat) (n0 : Nat) (d0 : Nat) (w0 : Nat) (c0 : Nat) (fa : Nat) (fn : Int) (fr : Nat → Option Nat) (qb : Int) (h0 : Nat) (a1 : Nat) (a2 : Nat) (a3 : Nat) (bl : Int) (bw : Int) (bt : Int) (bh : Int) (bd : Int) (bx : Int) (bn : Int) (CI : Int → Int) (CJ : Int → Int) (CW : Int → Int) (la : Int) (uq : Int) (ga : Nat) (gl : Int) (gp : Int) (gx : Int) (gy : Int) (GK : Int → Int) (wh : Nat) (wb : Nat) (wl : Int) (HE : Int → Int) (BE : Int → Int) (hqb : 0 ≤ fn ∧ fn ≤ 6 ∧ 0 ≤ qb ∧ qb < fn) (hfr : fr qb.toNat = some h0) (hB : bOK bl bw bt bh bd bx bn CI CJ CW) (hg : gOK gl gp gx gy GK) (hla : 0 ≤ la ∧ la < gl) (huq : uq = 0 ∨ uq = 1) (hHE : wOK HE) (hBE : wOK BE) (sz : Nat) : Met l yX11_home wsX11_home ({ frames := 6, cells := 0, slots := 0, locals := 139 } : Room) (wPc D y [(x0, .inr (10, [.ref t0, .ref g0, .ref f0, .ref r0, .ref sl0, .ref n0, .ref d0, .ref w0, .ref c0])), (f0, .inr (4, [.ref fa, zi fn])), (fa, .inl (y 3, 6, .inr (.inr (.inr (.inr fr))))), (h0, .inr (1, [zi bl, zi bw, zi bt, zi bh, zi bd, zi bx, zi bn, .ref a1, .ref a2, .ref a3])), (a1, .inl (y 0, 8, .inl (cI CI))), (a2, .inl (y 0, 8, .inl (cI CJ))), (a3, .inl (y 0, 8, .inl (cI CW))), (g0, .inr (5, [.ref ga, zi gl, zi gp, zi gx, zi gy])), (ga, .inl (y 0, 36, .inl (cI GK)))] [(w0, .inr (0, [.ref wh, .ref wb, zi wl])), (wh, .inl (y 1, 408, .inr (.inl (cL HE)))), (wb, .inl (y 1, 408, .inr (.inl (cL BE))))] sz [.ref x0, zi qb, zi la, zi uq]) (wQ D (fun (x9 : Nat × Nat × (Int → Int) × (Int → Int)) => match x9 with | (p1, p2, E1, E2) => some (zl (tellV (chH gl gp gx gy GK (lifeV bl bw bt bh bd bx bn CI CJ CW) gp.toNat la 0) (10 ^ gp.toNat) uq))) (fun (x9 : Nat × Nat × (Int → Int) × (Int → Int)) => match x9 with | (p1, p2, E1, E2) => wOK E1 ∧ wOK E2) (fun (x9 : Nat × Nat × (Int → Int) × (Int → Int)) => match x9 with | (p1, p2, E1, E2) => [(w0, .inr (0, [.ref p1, .ref p2, zi (lifeV bl bw bt bh bd bx bn CI CJ CW)])), (p1, .inl (y 1, 408, .inr (.inl (cL E1)))), (p2, .inl (y 1, 408, .inr (.inl (cL E2))))]) (va_A [(w0, .inr (0, [.ref wh, .ref wb, zi wl])), (wh, .inl (y 1, 408, .inr (.inl (cL HE)))), (wb, .inl (y 1, 408, .inr (.inl (cL BE))))] sz)) 0 0 (va_A [(w0, .inr (0, [.ref wh, .ref wb, zi wl])), (wh, .inl (y 1, 408, .inr (.inl (cL HE)))), (wb, .inl (y 1, 408, .inr (.inl (cL BE))))] sz) := by
  refine W_of (own := RX11) (cc := cX11_home) (maxL := 5) (ret := some .long) (by decide) rfl rfl (Nat.le_of_ble_eq_true rfl) (fun p e s m below meth c ls A hx hb hr hC hlocks hin0 hR0 hN hP hD hA hG hl => ?_)
  have hC0 := hC
  obtain ⟨-, -, hml, hown, hts⟩ := hC0
  have hK := hG.1
  have hS : va_S A s.heap s.heap [] := va_S.rf
  have hPr := hR0
  have hinX11 : ∀ w ∈ wsX110, w ∈ wsX11_home := fun _ h => List.mem_cons_of_mem _ (List.mem_append_left _ (List.mem_append_left _ (List.mem_append_left _ (List.mem_append_left _ (List.mem_append_right _ h)))))
  have hinX6 : ∀ w ∈ wsX60, w ∈ wsX11_home := fun _ h => List.mem_cons_of_mem _ (List.mem_append_left _ (List.mem_append_left _ (List.mem_append_left _ (List.mem_append_right _ h))))
  have k1 := hts (.fieldLink RX11 26 "BoatsOfPaper" "theFleet" "LBoatsOfPaper$Fleet;") (List.mem_of_getElem? (i := 1) rfl)
  have k2 := hts (.fieldLink RX11 19 "BoatsOfPaper" "theGutter" "LBoatsOfPaper$Gutter;") (List.mem_of_getElem? (i := 2) rfl)
  have k4 := hts (.fieldLink RX11 60 "BoatsOfPaper" "blowing" "LBoatsOfPaper$Blowing;") (List.mem_of_getElem? (i := 4) rfl)
  have k5 := hts (.fieldLink RX11 91 "BoatsOfPaper$Gutter" "places" "I") (List.mem_of_getElem? (i := 5) rfl)
  have hl : lv_has ls 5 [(0, .ref x0), (1, zi qb), (2, zi la), (3, zi uq)] := hl
  obtain ⟨q1, q2, q3, q4, q5, q6, q7, q8, q9, qc⟩ := id hB
  obtain ⟨u1, u2, u3, u4, uk⟩ := id hg
  have hl9 := lifeV_bd hB
  have t1 := ten12 (r := gp.toNat) (by omega)
  have t2 := ten_p gp.toNat
  have t3 := chH_bd hg (lifeV bl bw bt bh bd bx bn CI CJ CW) gp.toNat la 0
  refine lv_aload_n hx hb dX11_home_0 rfl (lv_at hl 0 rfl) ?_
  refine va_get hx hb hts hinX11 hown hK hPr 0 rfl rfl 2 (by decide) k1 (fun _ h => h) rfl dX11_home_1 ?_
  refine lv_iload_n hx hb dX11_home_4 rfl (lv_at hl 1 rfl) ?_
  refine z_pV (As := [zi qb]) (rest := []) hC (c_X4_find l D y f0 fa fn fr qb h0 (by first | assumption | omega) hfr) (cwV 1 hts gX11_home_X4_find rfl rfl rfl (by decide +kernel) ⟨Nat.le_of_ble_eq_true rfl, Nat.le_of_ble_eq_true rfl⟩) hG (hPr.sub (ws' := [(f0, .inr (4, [.ref fa, zi fn])), (fa, .inl (y 3, 6, .inr (.inr (.inr (.inr fr)))))]) [1, 2] rfl) 0 rfl rfl rfl hl.1 rfl (Nat.le_of_ble_eq_true rfl) dX11_home_5 ⟨Nat.le_of_ble_eq_true rfl, Nat.le_of_ble_eq_true rfl⟩ ?_
  refine lv_astore (lv' := [(4, .ref h0), (0, .ref x0), (1, zi qb), (2, zi la), (3, zi uq)]) hx hb dX11_home_8 hl (by decide) rfl (fun ls hl => ?_)
  refine lv_aload hx hb dX11_home_10 (lv_at hl 0 rfl) ?_
  refine lv_ifnull hx hb dX11_home_12 ?_
  refine lv_aload_n hx hb dX11_home_15 rfl (lv_at hl 1 rfl) ?_
  refine va_get hx hb hts hinX11 hown hK hPr 0 rfl rfl 1 (by decide) k2 (fun _ h => h) rfl dX11_home_16 ?_
  refine lv_iload_n hx hb dX11_home_19 rfl (lv_at hl 3 rfl) ?_
  refine z_pV (As := [zi la]) (rest := []) hC (c_X6_hasLane l D y g0 ga gl gp gx gy GK la (by first | assumption | omega) (by first | assumption | omega)) (cwV 1 hts gX11_home_X6_hasLane rfl rfl rfl (by decide +kernel) ⟨Nat.le_of_ble_eq_true rfl, Nat.le_of_ble_eq_true rfl⟩) hG (hPr.sub (ws' := [(g0, .inr (5, [.ref ga, zi gl, zi gp, zi gx, zi gy])), (ga, .inl (y 0, 36, .inl (cI GK)))]) [7, 8] rfl) 0 rfl rfl rfl hl.1 rfl (Nat.le_of_ble_eq_true rfl) dX11_home_20 ⟨Nat.le_of_ble_eq_true rfl, Nat.le_of_ble_eq_true rfl⟩ ?_
  refine z_ifB_ne (tgt := 30) hx hb dX11_home_23 (by decide) (fun c_23 => ?_) (fun c_23 => ?_)
  ·
    refine lv_aload_n hx hb dX11_home_30 rfl (lv_at hl 1 rfl) ?_
    refine va_get hx hb hts hinX11 hown hK hPr 0 rfl rfl 7 (by decide) k4 (fun _ h => h) rfl dX11_home_31 ?_
    refine lv_aload_n hx hb dX11_home_34 rfl (lv_at hl 1 rfl) ?_
    refine va_get hx hb hts hinX11 hown hK hPr 0 rfl rfl 1 (by decide) k2 (fun _ h => h) rfl dX11_home_35 ?_
    refine lv_aload hx hb dX11_home_38 (lv_at hl 0 rfl) ?_
    refine z_pV (As := []) (rest := [.ref g0, .ref w0]) hC (c_X1_lastSecond l D y h0 a1 a2 a3 bl bw bt bh bd bx bn CI CJ CW (by first | assumption | omega)) (cwV 0 hts gX11_home_X1_lastSecond rfl rfl rfl (by decide +kernel) ⟨Nat.le_of_ble_eq_true rfl, Nat.le_of_ble_eq_true rfl⟩) hG (hPr.sub (ws' := [(h0, .inr (1, [zi bl, zi bw, zi bt, zi bh, zi bd, zi bx, zi bn, .ref a1, .ref a2, .ref a3])), (a1, .inl (y 0, 8, .inl (cI CI))), (a2, .inl (y 0, 8, .inl (cI CJ))), (a3, .inl (y 0, 8, .inl (cI CW)))]) [3, 4, 5, 6] rfl) 0 rfl rfl rfl hl.1 rfl (Nat.le_of_ble_eq_true rfl) dX11_home_40 ⟨Nat.le_of_ble_eq_true rfl, Nat.le_of_ble_eq_true rfl⟩ ?_
    refine z_wV (As := [.ref g0, zi (lifeV bl bw bt bh bd bx bn CI CJ CW)]) (rest := []) (wc := [(w0, .inr (0, [.ref wh, .ref wb, zi wl])), (wh, .inl (y 1, 408, .inr (.inl (cL HE)))), (wb, .inl (y 1, 408, .inr (.inl (cL BE))))]) (wrest := []) hC (c_X0_lookAhead l D y w0 wh wb wl HE BE g0 ga gl gp gx gy GK (lifeV bl bw bt bh bd bx bn CI CJ CW) (by first | assumption | omega) (by first | assumption | omega) (by first | assumption | omega) (by first | assumption | omega) _) (cwV 2 hts gX11_home_X0_lookAhead rfl rfl rfl (by decide +kernel) ⟨Nat.le_of_ble_eq_true rfl, Nat.le_of_ble_eq_true rfl⟩) hG hP hD hS hA [0, 1, 2] [] rfl rfl (by decide) (by decide) (by decide) (hPr.sub (ws' := [(g0, .inr (5, [.ref ga, zi gl, zi gp, zi gx, zi gy])), (ga, .inl (y 0, 36, .inl (cI GK)))]) [7, 8] rfl) (fun k q hk z => ro_sub (wr' := [(g0, .inr (5, [.ref ga, zi gl, zi gp, zi gx, zi gy])), (ga, .inl (y 0, 36, .inl (cI GK)))]) hN [7, 8] rfl k q hk (va_free (wc := [(w0, .inr (0, [.ref wh, .ref wb, zi wl])), (wh, .inl (y 1, 408, .inr (.inl (cL HE)))), (wb, .inl (y 1, 408, .inr (.inl (cL BE))))]) hD hS hA [0, 1, 2] rfl q.1 z)) 0 rfl rfl rfl hl.1 rfl (Nat.le_of_ble_eq_true rfl) dX11_home_43 ⟨Nat.le_of_ble_eq_true rfl, Nat.le_of_ble_eq_true rfl⟩ (fun u9 H locs hw_5 hP hD hS => ?_)
    obtain ⟨p1, p2, E1, E2⟩ := u9
    have hw_5 : wOK E1 ∧ wOK E2 ∧ vld gl gp gx gy GK (lifeV bl bw bt bh bd bx bn CI CJ CW) 1 E2 := hw_5
    have hP : va_P D vwCl [(w0, .inr (0, [.ref p1, .ref p2, zi (lifeV bl bw bt bh bd bx bn CI CJ CW)])), (p1, .inl (y 1, 408, .inr (.inl (cL E1)))), (p2, .inl (y 1, 408, .inr (.inl (cL E2))))] H := hP
    have hD : va_D A [(w0, .inr (0, [.ref p1, .ref p2, zi (lifeV bl bw bt bh bd bx bn CI CJ CW)])), (p1, .inl (y 1, 408, .inr (.inl (cL E1)))), (p2, .inl (y 1, 408, .inr (.inl (cL E2))))] := hD
    have hPr := ro_now hR0 hN hS
    obtain ⟨v1, v2, v3⟩ := hw_5
    refine lv_aload_n hx hb dX11_home_46 rfl (lv_at hl 1 rfl) ?_
    refine va_get hx hb hts hinX11 hown hK hPr 0 rfl rfl 7 (by decide) k4 (fun _ h => h) rfl dX11_home_47 ?_
    refine lv_aload_n hx hb dX11_home_50 rfl (lv_at hl 1 rfl) ?_
    refine va_get hx hb hts hinX11 hown hK hPr 0 rfl rfl 1 (by decide) k2 (fun _ h => h) rfl dX11_home_51 ?_
    refine lv_iload_n hx hb dX11_home_54 rfl (lv_at hl 3 rfl) ?_
    refine z_pV (As := [.ref g0, zi la]) (rest := []) hC (c_X0_homeFrom l D y w0 p1 p2 (lifeV bl bw bt bh bd bx bn CI CJ CW) E2 g0 ga gl gp gx gy GK la (by first | assumption | omega) (by first | assumption | omega) (by first | assumption | omega) (by first | assumption | omega) (by first | assumption | omega)) (cwV 2 hts gX11_home_X0_homeFrom rfl rfl rfl (by decide +kernel) ⟨Nat.le_of_ble_eq_true rfl, Nat.le_of_ble_eq_true rfl⟩) hG ((hP.sub [0, 2] rfl).app (hPr.sub [7, 8] rfl)) 0 rfl rfl rfl hl.1 rfl (Nat.le_of_ble_eq_true rfl) dX11_home_55 ⟨Nat.le_of_ble_eq_true rfl, Nat.le_of_ble_eq_true rfl⟩ ?_
    refine lv_aload_n hx hb dX11_home_58 rfl (lv_at hl 1 rfl) ?_
    refine va_get hx hb hts hinX11 hown hK hPr 0 rfl rfl 1 (by decide) k2 (fun _ h => h) rfl dX11_home_59 ?_
    refine va_get hx hb hts hinX6 hown hK hPr 7 rfl rfl 2 (by decide) k5 (fun _ h => h) rfl dX11_home_62 ?_
    refine z_pS (As := [zi gp]) (rest := [zl (chH gl gp gx gy GK (lifeV bl bw bt bh bd bx bn CI CJ CW) gp.toNat la 0)]) hC (c_X5_powerOfTen l D y gp (by first | assumption | omega)) (va_cwS 1 hts gX11_home_X5_powerOfTen rfl rfl rfl (by decide +kernel) ⟨Nat.le_of_ble_eq_true rfl, Nat.le_of_ble_eq_true rfl⟩) hG va_P_nil rfl hl.1 rfl (Nat.le_of_ble_eq_true rfl) dX11_home_65 ⟨Nat.le_of_ble_eq_true rfl, Nat.le_of_ble_eq_true rfl⟩ ?_
    refine lv_iload_n hx hb dX11_home_68 rfl (lv_at hl 4 rfl) ?_
    refine z_pS (As := [zl (chH gl gp gx gy GK (lifeV bl bw bt bh bd bx bn CI CJ CW) gp.toNat la 0), zl (10 ^ gp.toNat), zi uq]) (rest := []) hC (c_X5_tell l D y (chH gl gp gx gy GK (lifeV bl bw bt bh bd bx bn CI CJ CW) gp.toNat la 0) (10 ^ gp.toNat) uq (by first | assumption | omega) (by first | assumption | omega)) (va_cwS 3 hts gX11_home_X5_tell rfl rfl rfl (by decide +kernel) ⟨Nat.le_of_ble_eq_true rfl, Nat.le_of_ble_eq_true rfl⟩) hG va_P_nil rfl hl.1 rfl (Nat.le_of_ble_eq_true rfl) dX11_home_69 ⟨Nat.le_of_ble_eq_true rfl, Nat.le_of_ble_eq_true rfl⟩ ?_
    exact z_lretW hx hb hr hlocks (p1, p2, E1, E2) (rfl) (⟨v1, v2⟩) (hP.sub [0, 1, 2] rfl) (hD.sub [0, 1, 2] (by decide) rfl) hS dX11_home_72
  · exfalso; omega
set_option maxHeartbeats 8000000 in
set_option maxRecDepth 100000 in
theorem c_X11_first_nob (l : Launch) (D : va_G) (y : Nat → ClassId) (x0 : Nat) (t0 : Nat) (g0 : Nat) (f0 : Nat) (r0 : Nat) (sl0 : Nat) (n0 : Nat) (d0 : Nat) (w0 : Nat) (c0 : Nat) (fa : Nat) (fn : Int) (fr : Nat → Option Nat) (qb : Int) (la : Int) (hqb : rI qb ∧ 0 ≤ fn ∧ fn ≤ 6 ∧ ¬ (0 ≤ qb ∧ qb < fn)) : Met l yX11_first wsX11_first ({ frames := 1, cells := 0, slots := 0, locals := 21 } : Room) (pPc D y [(x0, .inr (10, [.ref t0, .ref g0, .ref f0, .ref r0, .ref sl0, .ref n0, .ref d0, .ref w0, .ref c0])), (f0, .inr (4, [.ref fa, zi fn])), (fa, .inl (y 3, 6, .inr (.inr (.inr (.inr fr)))))] [.ref x0, zi qb, zi la]) (qV (zi (-1))) 0 0 (fun _ => False) := by
  refine P_of (own := RX11) (cc := cX11_first) (maxL := 4) (ret := some .int) (by decide) rfl rfl (Nat.le_of_ble_eq_true rfl) (fun p e s m below meth c ls hx hb hr hC hlocks hPr hG hl => ?_)
  have hC0 := hC
  obtain ⟨-, -, hml, hown, hts⟩ := hC0
  have hK := hG.1
  have hinX11 : ∀ w ∈ wsX110, w ∈ wsX11_first := fun _ h => List.mem_cons_of_mem _ (List.mem_append_left _ (List.mem_append_left _ (List.mem_append_left _ (List.mem_append_left _ (List.mem_append_right _ h)))))
  have k1 := hts (.fieldLink RX11 26 "BoatsOfPaper" "theFleet" "LBoatsOfPaper$Fleet;") (List.mem_of_getElem? (i := 1) rfl)
  have hl : lv_has ls 4 [(0, .ref x0), (1, zi qb), (2, zi la)] := hl
  refine lv_aload_n hx hb dX11_first_0 rfl (lv_at hl 0 rfl) ?_
  refine va_get hx hb hts hinX11 hown hK hPr 0 rfl rfl 2 (by decide) k1 (fun _ h => h) rfl dX11_first_1 ?_
  refine lv_iload_n hx hb dX11_first_4 rfl (lv_at hl 1 rfl) ?_
  refine z_pV (As := [zi qb]) (rest := []) hC (c_X4_find_no l D y f0 fa fn fr qb (by first | assumption | omega)) (cwV 1 hts gX11_first_X4_find rfl rfl rfl (by decide +kernel) ⟨Nat.le_of_ble_eq_true rfl, Nat.le_of_ble_eq_true rfl⟩) hG (hPr.sub (ws' := [(f0, .inr (4, [.ref fa, zi fn])), (fa, .inl (y 3, 6, .inr (.inr (.inr (.inr fr)))))]) [1, 2] rfl) 0 rfl rfl rfl hl.1 rfl (Nat.le_of_ble_eq_true rfl) dX11_first_5 ⟨Nat.le_of_ble_eq_true rfl, Nat.le_of_ble_eq_true rfl⟩ ?_
  refine lv_astore_nN (lv' := [(3, .null), (0, .ref x0), (1, zi qb), (2, zi la)]) hx hb dX11_first_8 rfl hl (by decide) rfl (fun ls hl => ?_)
  refine lv_aload_nN hx hb dX11_first_9 rfl (lv_at hl 0 rfl) ?_
  refine lv_ifnullN (tgt := 24) hx hb dX11_first_10 (by decide) ?_
  refine z_iconst hx hb dX11_first_24 ?_
  exact z_iret0 hx hb hr hlocks (rfl) dX11_first_25
set_option maxHeartbeats 8000000 in
set_option maxRecDepth 100000 in
theorem c_X11_first_nol (l : Launch) (D : va_G) (y : Nat → ClassId) (x0 : Nat) (t0 : Nat) (g0 : Nat) (f0 : Nat) (r0 : Nat) (sl0 : Nat) (n0 : Nat) (d0 : Nat) (w0 : Nat) (c0 : Nat) (fa : Nat) (fn : Int) (fr : Nat → Option Nat) (qb : Int) (h0 : Nat) (a1 : Nat) (a2 : Nat) (a3 : Nat) (bl : Int) (bw : Int) (bt : Int) (bh : Int) (bd : Int) (bx : Int) (bn : Int) (CI : Int → Int) (CJ : Int → Int) (CW : Int → Int) (la : Int) (ga : Nat) (gl : Int) (gp : Int) (gx : Int) (gy : Int) (GK : Int → Int) (hqb : 0 ≤ fn ∧ fn ≤ 6 ∧ 0 ≤ qb ∧ qb < fn) (hfr : fr qb.toNat = some h0) (hB : bOK bl bw bt bh bd bx bn CI CJ CW) (hg : gOK gl gp gx gy GK) (hla : rI la) (hq : ¬ (0 ≤ la ∧ la < gl)) : Met l yX11_first wsX11_first ({ frames := 1, cells := 0, slots := 0, locals := 21 } : Room) (pPc D y [(x0, .inr (10, [.ref t0, .ref g0, .ref f0, .ref r0, .ref sl0, .ref n0, .ref d0, .ref w0, .ref c0])), (f0, .inr (4, [.ref fa, zi fn])), (fa, .inl (y 3, 6, .inr (.inr (.inr (.inr fr))))), (h0, .inr (1, [zi bl, zi bw, zi bt, zi bh, zi bd, zi bx, zi bn, .ref a1, .ref a2, .ref a3])), (a1, .inl (y 0, 8, .inl (cI CI))), (a2, .inl (y 0, 8, .inl (cI CJ))), (a3, .inl (y 0, 8, .inl (cI CW))), (g0, .inr (5, [.ref ga, zi gl, zi gp, zi gx, zi gy])), (ga, .inl (y 0, 36, .inl (cI GK)))] [.ref x0, zi qb, zi la]) (qV (zi (-1))) 0 0 (fun _ => False) := by
  refine P_of (own := RX11) (cc := cX11_first) (maxL := 4) (ret := some .int) (by decide) rfl rfl (Nat.le_of_ble_eq_true rfl) (fun p e s m below meth c ls hx hb hr hC hlocks hPr hG hl => ?_)
  have hC0 := hC
  obtain ⟨-, -, hml, hown, hts⟩ := hC0
  have hK := hG.1
  have hinX11 : ∀ w ∈ wsX110, w ∈ wsX11_first := fun _ h => List.mem_cons_of_mem _ (List.mem_append_left _ (List.mem_append_left _ (List.mem_append_left _ (List.mem_append_left _ (List.mem_append_right _ h)))))
  have k1 := hts (.fieldLink RX11 26 "BoatsOfPaper" "theFleet" "LBoatsOfPaper$Fleet;") (List.mem_of_getElem? (i := 1) rfl)
  have k2 := hts (.fieldLink RX11 19 "BoatsOfPaper" "theGutter" "LBoatsOfPaper$Gutter;") (List.mem_of_getElem? (i := 2) rfl)
  have hl : lv_has ls 4 [(0, .ref x0), (1, zi qb), (2, zi la)] := hl
  obtain ⟨q1, q2, q3, q4, q5, q6, q7, q8, q9, qc⟩ := id hB
  obtain ⟨u1, u2, u3, u4, uk⟩ := id hg
  refine lv_aload_n hx hb dX11_first_0 rfl (lv_at hl 0 rfl) ?_
  refine va_get hx hb hts hinX11 hown hK hPr 0 rfl rfl 2 (by decide) k1 (fun _ h => h) rfl dX11_first_1 ?_
  refine lv_iload_n hx hb dX11_first_4 rfl (lv_at hl 1 rfl) ?_
  refine z_pV (As := [zi qb]) (rest := []) hC (c_X4_find l D y f0 fa fn fr qb h0 (by first | assumption | omega) hfr) (cwV 1 hts gX11_first_X4_find rfl rfl rfl (by decide +kernel) ⟨Nat.le_of_ble_eq_true rfl, Nat.le_of_ble_eq_true rfl⟩) hG (hPr.sub (ws' := [(f0, .inr (4, [.ref fa, zi fn])), (fa, .inl (y 3, 6, .inr (.inr (.inr (.inr fr)))))]) [1, 2] rfl) 0 rfl rfl rfl hl.1 rfl (Nat.le_of_ble_eq_true rfl) dX11_first_5 ⟨Nat.le_of_ble_eq_true rfl, Nat.le_of_ble_eq_true rfl⟩ ?_
  refine lv_astore_n (lv' := [(3, .ref h0), (0, .ref x0), (1, zi qb), (2, zi la)]) hx hb dX11_first_8 rfl hl (by decide) rfl (fun ls hl => ?_)
  refine lv_aload_n hx hb dX11_first_9 rfl (lv_at hl 0 rfl) ?_
  refine lv_ifnull hx hb dX11_first_10 ?_
  refine lv_aload_n hx hb dX11_first_13 rfl (lv_at hl 1 rfl) ?_
  refine va_get hx hb hts hinX11 hown hK hPr 0 rfl rfl 1 (by decide) k2 (fun _ h => h) rfl dX11_first_14 ?_
  refine lv_iload_n hx hb dX11_first_17 rfl (lv_at hl 3 rfl) ?_
  refine z_pV (As := [zi la]) (rest := []) hC (c_X6_hasLane l D y g0 ga gl gp gx gy GK la (by first | assumption | omega) (by first | assumption | omega)) (cwV 1 hts gX11_first_X6_hasLane rfl rfl rfl (by decide +kernel) ⟨Nat.le_of_ble_eq_true rfl, Nat.le_of_ble_eq_true rfl⟩) hG (hPr.sub (ws' := [(g0, .inr (5, [.ref ga, zi gl, zi gp, zi gx, zi gy])), (ga, .inl (y 0, 36, .inl (cI GK)))]) [7, 8] rfl) 0 rfl rfl rfl hl.1 rfl (Nat.le_of_ble_eq_true rfl) dX11_first_18 ⟨Nat.le_of_ble_eq_true rfl, Nat.le_of_ble_eq_true rfl⟩ ?_
  refine z_ifB_ne (tgt := 26) hx hb dX11_first_21 (by decide) (fun c_21 => ?_) (fun c_21 => ?_)
  · exfalso; omega
  ·
    refine z_iconst hx hb dX11_first_24 ?_
    exact z_iret0 hx hb hr hlocks (rfl) dX11_first_25
set_option maxHeartbeats 8000000 in
set_option maxRecDepth 100000 in
theorem c_X11_first_one (l : Launch) (D : va_G) (y : Nat → ClassId) (x0 : Nat) (t0 : Nat) (g0 : Nat) (f0 : Nat) (r0 : Nat) (sl0 : Nat) (n0 : Nat) (d0 : Nat) (w0 : Nat) (c0 : Nat) (fa : Nat) (fn : Int) (fr : Nat → Option Nat) (qb : Int) (h0 : Nat) (a1 : Nat) (a2 : Nat) (a3 : Nat) (bl : Int) (bw : Int) (bt : Int) (bh : Int) (bd : Int) (bx : Int) (bn : Int) (CI : Int → Int) (CJ : Int → Int) (CW : Int → Int) (la : Int) (ga : Nat) (gl : Int) (gp : Int) (gx : Int) (gy : Int) (GK : Int → Int) (hqb : 0 ≤ fn ∧ fn ≤ 6 ∧ 0 ≤ qb ∧ qb < fn) (hfr : fr qb.toNat = some h0) (hB : bOK bl bw bt bh bd bx bn CI CJ CW) (hg : gOK gl gp gx gy GK) (hla : 0 ≤ la ∧ la < gl) (hgp : gp = 1) : Met l yX11_first wsX11_first ({ frames := 1, cells := 0, slots := 0, locals := 21 } : Room) (pPc D y [(x0, .inr (10, [.ref t0, .ref g0, .ref f0, .ref r0, .ref sl0, .ref n0, .ref d0, .ref w0, .ref c0])), (f0, .inr (4, [.ref fa, zi fn])), (fa, .inl (y 3, 6, .inr (.inr (.inr (.inr fr))))), (h0, .inr (1, [zi bl, zi bw, zi bt, zi bh, zi bd, zi bx, zi bn, .ref a1, .ref a2, .ref a3])), (a1, .inl (y 0, 8, .inl (cI CI))), (a2, .inl (y 0, 8, .inl (cI CJ))), (a3, .inl (y 0, 8, .inl (cI CW))), (g0, .inr (5, [.ref ga, zi gl, zi gp, zi gx, zi gy])), (ga, .inl (y 0, 36, .inl (cI GK)))] [.ref x0, zi qb, zi la]) (qV (zi (-3))) 0 0 (fun _ => False) := by
  refine P_of (own := RX11) (cc := cX11_first) (maxL := 4) (ret := some .int) (by decide) rfl rfl (Nat.le_of_ble_eq_true rfl) (fun p e s m below meth c ls hx hb hr hC hlocks hPr hG hl => ?_)
  have hC0 := hC
  obtain ⟨-, -, hml, hown, hts⟩ := hC0
  have hK := hG.1
  have hinX11 : ∀ w ∈ wsX110, w ∈ wsX11_first := fun _ h => List.mem_cons_of_mem _ (List.mem_append_left _ (List.mem_append_left _ (List.mem_append_left _ (List.mem_append_left _ (List.mem_append_right _ h)))))
  have hinX6 : ∀ w ∈ wsX60, w ∈ wsX11_first := fun _ h => List.mem_cons_of_mem _ (List.mem_append_left _ (List.mem_append_left _ (List.mem_append_left _ (List.mem_append_right _ h))))
  have k1 := hts (.fieldLink RX11 26 "BoatsOfPaper" "theFleet" "LBoatsOfPaper$Fleet;") (List.mem_of_getElem? (i := 1) rfl)
  have k2 := hts (.fieldLink RX11 19 "BoatsOfPaper" "theGutter" "LBoatsOfPaper$Gutter;") (List.mem_of_getElem? (i := 2) rfl)
  have k3 := hts (.fieldLink RX11 91 "BoatsOfPaper$Gutter" "places" "I") (List.mem_of_getElem? (i := 3) rfl)
  have hl : lv_has ls 4 [(0, .ref x0), (1, zi qb), (2, zi la)] := hl
  obtain ⟨q1, q2, q3, q4, q5, q6, q7, q8, q9, qc⟩ := id hB
  obtain ⟨u1, u2, u3, u4, uk⟩ := id hg
  refine lv_aload_n hx hb dX11_first_0 rfl (lv_at hl 0 rfl) ?_
  refine va_get hx hb hts hinX11 hown hK hPr 0 rfl rfl 2 (by decide) k1 (fun _ h => h) rfl dX11_first_1 ?_
  refine lv_iload_n hx hb dX11_first_4 rfl (lv_at hl 1 rfl) ?_
  refine z_pV (As := [zi qb]) (rest := []) hC (c_X4_find l D y f0 fa fn fr qb h0 (by first | assumption | omega) hfr) (cwV 1 hts gX11_first_X4_find rfl rfl rfl (by decide +kernel) ⟨Nat.le_of_ble_eq_true rfl, Nat.le_of_ble_eq_true rfl⟩) hG (hPr.sub (ws' := [(f0, .inr (4, [.ref fa, zi fn])), (fa, .inl (y 3, 6, .inr (.inr (.inr (.inr fr)))))]) [1, 2] rfl) 0 rfl rfl rfl hl.1 rfl (Nat.le_of_ble_eq_true rfl) dX11_first_5 ⟨Nat.le_of_ble_eq_true rfl, Nat.le_of_ble_eq_true rfl⟩ ?_
  refine lv_astore_n (lv' := [(3, .ref h0), (0, .ref x0), (1, zi qb), (2, zi la)]) hx hb dX11_first_8 rfl hl (by decide) rfl (fun ls hl => ?_)
  refine lv_aload_n hx hb dX11_first_9 rfl (lv_at hl 0 rfl) ?_
  refine lv_ifnull hx hb dX11_first_10 ?_
  refine lv_aload_n hx hb dX11_first_13 rfl (lv_at hl 1 rfl) ?_
  refine va_get hx hb hts hinX11 hown hK hPr 0 rfl rfl 1 (by decide) k2 (fun _ h => h) rfl dX11_first_14 ?_
  refine lv_iload_n hx hb dX11_first_17 rfl (lv_at hl 3 rfl) ?_
  refine z_pV (As := [zi la]) (rest := []) hC (c_X6_hasLane l D y g0 ga gl gp gx gy GK la (by first | assumption | omega) (by first | assumption | omega)) (cwV 1 hts gX11_first_X6_hasLane rfl rfl rfl (by decide +kernel) ⟨Nat.le_of_ble_eq_true rfl, Nat.le_of_ble_eq_true rfl⟩) hG (hPr.sub (ws' := [(g0, .inr (5, [.ref ga, zi gl, zi gp, zi gx, zi gy])), (ga, .inl (y 0, 36, .inl (cI GK)))]) [7, 8] rfl) 0 rfl rfl rfl hl.1 rfl (Nat.le_of_ble_eq_true rfl) dX11_first_18 ⟨Nat.le_of_ble_eq_true rfl, Nat.le_of_ble_eq_true rfl⟩ ?_
  refine z_ifB_ne (tgt := 26) hx hb dX11_first_21 (by decide) (fun c_21 => ?_) (fun c_21 => ?_)
  ·
    refine lv_aload_n hx hb dX11_first_26 rfl (lv_at hl 1 rfl) ?_
    refine va_get hx hb hts hinX11 hown hK hPr 0 rfl rfl 1 (by decide) k2 (fun _ h => h) rfl dX11_first_27 ?_
    refine va_get hx hb hts hinX6 hown hK hPr 7 rfl rfl 2 (by decide) k3 (fun _ h => h) rfl dX11_first_30 ?_
    refine z_iconst hx hb dX11_first_33 ?_
    refine z_icmp_ne (tgt := 40) hx hb (by omega) (by omega) dX11_first_34 (by decide) (fun c_34 => ?_) (fun c_34 => ?_)
    · exfalso; omega
    ·
      refine z_bipush hx hb dX11_first_37 (by decide) ?_
      exact z_iret0 hx hb hr hlocks (rfl) dX11_first_39
  · exfalso; omega
set_option maxHeartbeats 8000000 in
set_option maxRecDepth 100000 in
theorem c_X11_first (l : Launch) (D : va_G) (y : Nat → ClassId) (x0 : Nat) (t0 : Nat) (g0 : Nat) (f0 : Nat) (r0 : Nat) (sl0 : Nat) (n0 : Nat) (d0 : Nat) (w0 : Nat) (c0 : Nat) (fa : Nat) (fn : Int) (fr : Nat → Option Nat) (qb : Int) (h0 : Nat) (a1 : Nat) (a2 : Nat) (a3 : Nat) (bl : Int) (bw : Int) (bt : Int) (bh : Int) (bd : Int) (bx : Int) (bn : Int) (CI : Int → Int) (CJ : Int → Int) (CW : Int → Int) (la : Int) (ga : Nat) (gl : Int) (gp : Int) (gx : Int) (gy : Int) (GK : Int → Int) (wh : Nat) (wb : Nat) (wl : Int) (HE : Int → Int) (BE : Int → Int) (hqb : 0 ≤ fn ∧ fn ≤ 6 ∧ 0 ≤ qb ∧ qb < fn) (hfr : fr qb.toNat = some h0) (hB : bOK bl bw bt bh bd bx bn CI CJ CW) (hg : gOK gl gp gx gy GK) (hla : 0 ≤ la ∧ la < gl) (hHE : wOK HE) (hBE : wOK BE) (hgp : 2 ≤ gp) (sz : Nat) : Met l yX11_first wsX11_first ({ frames := 6, cells := 0, slots := 0, locals := 139 } : Room) (wPc D y [(x0, .inr (10, [.ref t0, .ref g0, .ref f0, .ref r0, .ref sl0, .ref n0, .ref d0, .ref w0, .ref c0])), (f0, .inr (4, [.ref fa, zi fn])), (fa, .inl (y 3, 6, .inr (.inr (.inr (.inr fr))))), (h0, .inr (1, [zi bl, zi bw, zi bt, zi bh, zi bd, zi bx, zi bn, .ref a1, .ref a2, .ref a3])), (a1, .inl (y 0, 8, .inl (cI CI))), (a2, .inl (y 0, 8, .inl (cI CJ))), (a3, .inl (y 0, 8, .inl (cI CW))), (g0, .inr (5, [.ref ga, zi gl, zi gp, zi gx, zi gy])), (ga, .inl (y 0, 36, .inl (cI GK)))] [(w0, .inr (0, [.ref wh, .ref wb, zi wl])), (wh, .inl (y 1, 408, .inr (.inl (cL HE)))), (wb, .inl (y 1, 408, .inr (.inl (cL BE))))] sz [.ref x0, zi qb, zi la]) (wQ D (fun (x9 : Nat × Nat × (Int → Int) × (Int → Int)) => match x9 with | (p1, p2, E1, E2) => some (zi (frsV gl gp gx gy GK (lifeV bl bw bt bh bd bx bn CI CJ CW) la))) (fun (x9 : Nat × Nat × (Int → Int) × (Int → Int)) => match x9 with | (p1, p2, E1, E2) => wOK E1 ∧ wOK E2) (fun (x9 : Nat × Nat × (Int → Int) × (Int → Int)) => match x9 with | (p1, p2, E1, E2) => [(w0, .inr (0, [.ref p1, .ref p2, zi (lifeV bl bw bt bh bd bx bn CI CJ CW)])), (p1, .inl (y 1, 408, .inr (.inl (cL E1)))), (p2, .inl (y 1, 408, .inr (.inl (cL E2))))]) (va_A [(w0, .inr (0, [.ref wh, .ref wb, zi wl])), (wh, .inl (y 1, 408, .inr (.inl (cL HE)))), (wb, .inl (y 1, 408, .inr (.inl (cL BE))))] sz)) 0 0 (va_A [(w0, .inr (0, [.ref wh, .ref wb, zi wl])), (wh, .inl (y 1, 408, .inr (.inl (cL HE)))), (wb, .inl (y 1, 408, .inr (.inl (cL BE))))] sz) := by
  refine W_of (own := RX11) (cc := cX11_first) (maxL := 4) (ret := some .int) (by decide) rfl rfl (Nat.le_of_ble_eq_true rfl) (fun p e s m below meth c ls A hx hb hr hC hlocks hin0 hR0 hN hP hD hA hG hl => ?_)
  have hC0 := hC
  obtain ⟨-, -, hml, hown, hts⟩ := hC0
  have hK := hG.1
  have hS : va_S A s.heap s.heap [] := va_S.rf
  have hPr := hR0
  have hinX11 : ∀ w ∈ wsX110, w ∈ wsX11_first := fun _ h => List.mem_cons_of_mem _ (List.mem_append_left _ (List.mem_append_left _ (List.mem_append_left _ (List.mem_append_left _ (List.mem_append_right _ h)))))
  have hinX6 : ∀ w ∈ wsX60, w ∈ wsX11_first := fun _ h => List.mem_cons_of_mem _ (List.mem_append_left _ (List.mem_append_left _ (List.mem_append_left _ (List.mem_append_right _ h))))
  have k1 := hts (.fieldLink RX11 26 "BoatsOfPaper" "theFleet" "LBoatsOfPaper$Fleet;") (List.mem_of_getElem? (i := 1) rfl)
  have k2 := hts (.fieldLink RX11 19 "BoatsOfPaper" "theGutter" "LBoatsOfPaper$Gutter;") (List.mem_of_getElem? (i := 2) rfl)
  have k3 := hts (.fieldLink RX11 91 "BoatsOfPaper$Gutter" "places" "I") (List.mem_of_getElem? (i := 3) rfl)
  have k4 := hts (.fieldLink RX11 60 "BoatsOfPaper" "blowing" "LBoatsOfPaper$Blowing;") (List.mem_of_getElem? (i := 4) rfl)
  have hl : lv_has ls 4 [(0, .ref x0), (1, zi qb), (2, zi la)] := hl
  obtain ⟨q1, q2, q3, q4, q5, q6, q7, q8, q9, qc⟩ := id hB
  obtain ⟨u1, u2, u3, u4, uk⟩ := id hg
  have hl9 := lifeV_bd hB
  refine lv_aload_n hx hb dX11_first_0 rfl (lv_at hl 0 rfl) ?_
  refine va_get hx hb hts hinX11 hown hK hPr 0 rfl rfl 2 (by decide) k1 (fun _ h => h) rfl dX11_first_1 ?_
  refine lv_iload_n hx hb dX11_first_4 rfl (lv_at hl 1 rfl) ?_
  refine z_pV (As := [zi qb]) (rest := []) hC (c_X4_find l D y f0 fa fn fr qb h0 (by first | assumption | omega) hfr) (cwV 1 hts gX11_first_X4_find rfl rfl rfl (by decide +kernel) ⟨Nat.le_of_ble_eq_true rfl, Nat.le_of_ble_eq_true rfl⟩) hG (hPr.sub (ws' := [(f0, .inr (4, [.ref fa, zi fn])), (fa, .inl (y 3, 6, .inr (.inr (.inr (.inr fr)))))]) [1, 2] rfl) 0 rfl rfl rfl hl.1 rfl (Nat.le_of_ble_eq_true rfl) dX11_first_5 ⟨Nat.le_of_ble_eq_true rfl, Nat.le_of_ble_eq_true rfl⟩ ?_
  refine lv_astore_n (lv' := [(3, .ref h0), (0, .ref x0), (1, zi qb), (2, zi la)]) hx hb dX11_first_8 rfl hl (by decide) rfl (fun ls hl => ?_)
  refine lv_aload_n hx hb dX11_first_9 rfl (lv_at hl 0 rfl) ?_
  refine lv_ifnull hx hb dX11_first_10 ?_
  refine lv_aload_n hx hb dX11_first_13 rfl (lv_at hl 1 rfl) ?_
  refine va_get hx hb hts hinX11 hown hK hPr 0 rfl rfl 1 (by decide) k2 (fun _ h => h) rfl dX11_first_14 ?_
  refine lv_iload_n hx hb dX11_first_17 rfl (lv_at hl 3 rfl) ?_
  refine z_pV (As := [zi la]) (rest := []) hC (c_X6_hasLane l D y g0 ga gl gp gx gy GK la (by first | assumption | omega) (by first | assumption | omega)) (cwV 1 hts gX11_first_X6_hasLane rfl rfl rfl (by decide +kernel) ⟨Nat.le_of_ble_eq_true rfl, Nat.le_of_ble_eq_true rfl⟩) hG (hPr.sub (ws' := [(g0, .inr (5, [.ref ga, zi gl, zi gp, zi gx, zi gy])), (ga, .inl (y 0, 36, .inl (cI GK)))]) [7, 8] rfl) 0 rfl rfl rfl hl.1 rfl (Nat.le_of_ble_eq_true rfl) dX11_first_18 ⟨Nat.le_of_ble_eq_true rfl, Nat.le_of_ble_eq_true rfl⟩ ?_
  refine z_ifB_ne (tgt := 26) hx hb dX11_first_21 (by decide) (fun c_21 => ?_) (fun c_21 => ?_)
  ·
    refine lv_aload_n hx hb dX11_first_26 rfl (lv_at hl 1 rfl) ?_
    refine va_get hx hb hts hinX11 hown hK hPr 0 rfl rfl 1 (by decide) k2 (fun _ h => h) rfl dX11_first_27 ?_
    refine va_get hx hb hts hinX6 hown hK hPr 7 rfl rfl 2 (by decide) k3 (fun _ h => h) rfl dX11_first_30 ?_
    refine z_iconst hx hb dX11_first_33 ?_
    refine z_icmp_ne (tgt := 40) hx hb (by omega) (by omega) dX11_first_34 (by decide) (fun c_34 => ?_) (fun c_34 => ?_)
    ·
      refine lv_aload_n hx hb dX11_first_40 rfl (lv_at hl 1 rfl) ?_
      refine va_get hx hb hts hinX11 hown hK hPr 0 rfl rfl 7 (by decide) k4 (fun _ h => h) rfl dX11_first_41 ?_
      refine lv_aload_n hx hb dX11_first_44 rfl (lv_at hl 1 rfl) ?_
      refine va_get hx hb hts hinX11 hown hK hPr 0 rfl rfl 1 (by decide) k2 (fun _ h => h) rfl dX11_first_45 ?_
      refine lv_aload_n hx hb dX11_first_48 rfl (lv_at hl 0 rfl) ?_
      refine z_pV (As := []) (rest := [.ref g0, .ref w0]) hC (c_X1_lastSecond l D y h0 a1 a2 a3 bl bw bt bh bd bx bn CI CJ CW (by first | assumption | omega)) (cwV 0 hts gX11_first_X1_lastSecond rfl rfl rfl (by decide +kernel) ⟨Nat.le_of_ble_eq_true rfl, Nat.le_of_ble_eq_true rfl⟩) hG (hPr.sub (ws' := [(h0, .inr (1, [zi bl, zi bw, zi bt, zi bh, zi bd, zi bx, zi bn, .ref a1, .ref a2, .ref a3])), (a1, .inl (y 0, 8, .inl (cI CI))), (a2, .inl (y 0, 8, .inl (cI CJ))), (a3, .inl (y 0, 8, .inl (cI CW)))]) [3, 4, 5, 6] rfl) 0 rfl rfl rfl hl.1 rfl (Nat.le_of_ble_eq_true rfl) dX11_first_49 ⟨Nat.le_of_ble_eq_true rfl, Nat.le_of_ble_eq_true rfl⟩ ?_
      refine z_wV (As := [.ref g0, zi (lifeV bl bw bt bh bd bx bn CI CJ CW)]) (rest := []) (wc := [(w0, .inr (0, [.ref wh, .ref wb, zi wl])), (wh, .inl (y 1, 408, .inr (.inl (cL HE)))), (wb, .inl (y 1, 408, .inr (.inl (cL BE))))]) (wrest := []) hC (c_X0_lookAhead l D y w0 wh wb wl HE BE g0 ga gl gp gx gy GK (lifeV bl bw bt bh bd bx bn CI CJ CW) (by first | assumption | omega) (by first | assumption | omega) (by first | assumption | omega) (by first | assumption | omega) _) (cwV 2 hts gX11_first_X0_lookAhead rfl rfl rfl (by decide +kernel) ⟨Nat.le_of_ble_eq_true rfl, Nat.le_of_ble_eq_true rfl⟩) hG hP hD hS hA [0, 1, 2] [] rfl rfl (by decide) (by decide) (by decide) (hPr.sub (ws' := [(g0, .inr (5, [.ref ga, zi gl, zi gp, zi gx, zi gy])), (ga, .inl (y 0, 36, .inl (cI GK)))]) [7, 8] rfl) (fun k q hk z => ro_sub (wr' := [(g0, .inr (5, [.ref ga, zi gl, zi gp, zi gx, zi gy])), (ga, .inl (y 0, 36, .inl (cI GK)))]) hN [7, 8] rfl k q hk (va_free (wc := [(w0, .inr (0, [.ref wh, .ref wb, zi wl])), (wh, .inl (y 1, 408, .inr (.inl (cL HE)))), (wb, .inl (y 1, 408, .inr (.inl (cL BE))))]) hD hS hA [0, 1, 2] rfl q.1 z)) 0 rfl rfl rfl hl.1 rfl (Nat.le_of_ble_eq_true rfl) dX11_first_52 ⟨Nat.le_of_ble_eq_true rfl, Nat.le_of_ble_eq_true rfl⟩ (fun u9 H locs hw_5 hP hD hS => ?_)
      obtain ⟨p1, p2, E1, E2⟩ := u9
      have hw_5 : wOK E1 ∧ wOK E2 ∧ vld gl gp gx gy GK (lifeV bl bw bt bh bd bx bn CI CJ CW) 1 E2 := hw_5
      have hP : va_P D vwCl [(w0, .inr (0, [.ref p1, .ref p2, zi (lifeV bl bw bt bh bd bx bn CI CJ CW)])), (p1, .inl (y 1, 408, .inr (.inl (cL E1)))), (p2, .inl (y 1, 408, .inr (.inl (cL E2))))] H := hP
      have hD : va_D A [(w0, .inr (0, [.ref p1, .ref p2, zi (lifeV bl bw bt bh bd bx bn CI CJ CW)])), (p1, .inl (y 1, 408, .inr (.inl (cL E1)))), (p2, .inl (y 1, 408, .inr (.inl (cL E2))))] := hD
      have hPr := ro_now hR0 hN hS
      obtain ⟨v1, v2, v3⟩ := hw_5
      refine lv_aload_n hx hb dX11_first_55 rfl (lv_at hl 1 rfl) ?_
      refine va_get hx hb hts hinX11 hown hK hPr 0 rfl rfl 7 (by decide) k4 (fun _ h => h) rfl dX11_first_56 ?_
      refine lv_aload_n hx hb dX11_first_59 rfl (lv_at hl 1 rfl) ?_
      refine va_get hx hb hts hinX11 hown hK hPr 0 rfl rfl 1 (by decide) k2 (fun _ h => h) rfl dX11_first_60 ?_
      refine lv_iload_n hx hb dX11_first_63 rfl (lv_at hl 3 rfl) ?_
      refine z_pV (As := [.ref g0, zi la]) (rest := []) hC (c_X0_laneBehindFirst l D y w0 p1 p2 (lifeV bl bw bt bh bd bx bn CI CJ CW) E2 g0 ga gl gp gx gy GK la (by first | assumption | omega) (by first | assumption | omega) (by first | assumption | omega) (by first | assumption | omega) (by first | assumption | omega) (by first | assumption | omega)) (cwV 2 hts gX11_first_X0_laneBehindFirst rfl rfl rfl (by decide +kernel) ⟨Nat.le_of_ble_eq_true rfl, Nat.le_of_ble_eq_true rfl⟩) hG ((hP.sub [0, 2] rfl).app (hPr.sub [7, 8] rfl)) 0 rfl rfl rfl hl.1 rfl (Nat.le_of_ble_eq_true rfl) dX11_first_64 ⟨Nat.le_of_ble_eq_true rfl, Nat.le_of_ble_eq_true rfl⟩ ?_
      exact z_iretW hx hb hr hlocks (p1, p2, E1, E2) (rfl) (⟨v1, v2⟩) (hP.sub [0, 1, 2] rfl) (hD.sub [0, 1, 2] (by decide) rfl) hS dX11_first_67
    · exfalso; omega
  · exfalso; omega
set_option maxHeartbeats 8000000 in
set_option maxRecDepth 100000 in
theorem c_X11_best_no (l : Launch) (D : va_G) (y : Nat → ClassId) (x0 : Nat) (t0 : Nat) (g0 : Nat) (f0 : Nat) (r0 : Nat) (sl0 : Nat) (n0 : Nat) (d0 : Nat) (w0 : Nat) (c0 : Nat) (fa : Nat) (fn : Int) (fr : Nat → Option Nat) (qb : Int) (hqb : rI qb ∧ 0 ≤ fn ∧ fn ≤ 6 ∧ ¬ (0 ≤ qb ∧ qb < fn)) : Met l yX11_best wsX11_best ({ frames := 1, cells := 0, slots := 0, locals := 21 } : Room) (pPc D y [(x0, .inr (10, [.ref t0, .ref g0, .ref f0, .ref r0, .ref sl0, .ref n0, .ref d0, .ref w0, .ref c0])), (f0, .inr (4, [.ref fa, zi fn])), (fa, .inl (y 3, 6, .inr (.inr (.inr (.inr fr)))))] [.ref x0, zi qb]) (qV (zi (-1))) 0 0 (fun _ => False) := by
  refine P_of (own := RX11) (cc := cX11_best) (maxL := 3) (ret := some .int) (by decide) rfl rfl (Nat.le_of_ble_eq_true rfl) (fun p e s m below meth c ls hx hb hr hC hlocks hPr hG hl => ?_)
  have hC0 := hC
  obtain ⟨-, -, hml, hown, hts⟩ := hC0
  have hK := hG.1
  have hinX11 : ∀ w ∈ wsX110, w ∈ wsX11_best := fun _ h => List.mem_cons_of_mem _ (List.mem_append_left _ (List.mem_append_left _ (List.mem_append_left _ (List.mem_append_left _ (List.mem_append_right _ h)))))
  have k1 := hts (.fieldLink RX11 26 "BoatsOfPaper" "theFleet" "LBoatsOfPaper$Fleet;") (List.mem_of_getElem? (i := 1) rfl)
  have hl : lv_has ls 3 [(0, .ref x0), (1, zi qb)] := hl
  refine lv_aload_n hx hb dX11_best_0 rfl (lv_at hl 0 rfl) ?_
  refine va_get hx hb hts hinX11 hown hK hPr 0 rfl rfl 2 (by decide) k1 (fun _ h => h) rfl dX11_best_1 ?_
  refine lv_iload_n hx hb dX11_best_4 rfl (lv_at hl 1 rfl) ?_
  refine z_pV (As := [zi qb]) (rest := []) hC (c_X4_find_no l D y f0 fa fn fr qb (by first | assumption | omega)) (cwV 1 hts gX11_best_X4_find rfl rfl rfl (by decide +kernel) ⟨Nat.le_of_ble_eq_true rfl, Nat.le_of_ble_eq_true rfl⟩) hG (hPr.sub (ws' := [(f0, .inr (4, [.ref fa, zi fn])), (fa, .inl (y 3, 6, .inr (.inr (.inr (.inr fr)))))]) [1, 2] rfl) 0 rfl rfl rfl hl.1 rfl (Nat.le_of_ble_eq_true rfl) dX11_best_5 ⟨Nat.le_of_ble_eq_true rfl, Nat.le_of_ble_eq_true rfl⟩ ?_
  refine lv_astore_nN (lv' := [(2, .null), (0, .ref x0), (1, zi qb)]) hx hb dX11_best_8 rfl hl (by decide) rfl (fun ls hl => ?_)
  refine lv_aload_nN hx hb dX11_best_9 rfl (lv_at hl 0 rfl) ?_
  refine lv_ifnonnullN hx hb dX11_best_10 ?_
  refine z_iconst hx hb dX11_best_13 ?_
  exact z_iret0 hx hb hr hlocks (rfl) dX11_best_14
set_option maxHeartbeats 8000000 in
set_option maxRecDepth 100000 in
theorem c_X11_best (l : Launch) (D : va_G) (y : Nat → ClassId) (x0 : Nat) (t0 : Nat) (g0 : Nat) (f0 : Nat) (r0 : Nat) (sl0 : Nat) (n0 : Nat) (d0 : Nat) (w0 : Nat) (c0 : Nat) (fa : Nat) (fn : Int) (fr : Nat → Option Nat) (qb : Int) (h0 : Nat) (a1 : Nat) (a2 : Nat) (a3 : Nat) (bl : Int) (bw : Int) (bt : Int) (bh : Int) (bd : Int) (bx : Int) (bn : Int) (CI : Int → Int) (CJ : Int → Int) (CW : Int → Int) (ga : Nat) (gl : Int) (gp : Int) (gx : Int) (gy : Int) (GK : Int → Int) (wh : Nat) (wb : Nat) (wl : Int) (HE : Int → Int) (BE : Int → Int) (hqb : 0 ≤ fn ∧ fn ≤ 6 ∧ 0 ≤ qb ∧ qb < fn) (hfr : fr qb.toNat = some h0) (hB : bOK bl bw bt bh bd bx bn CI CJ CW) (hg : gOK gl gp gx gy GK) (hHE : wOK HE) (hBE : wOK BE) (sz : Nat) : Met l yX11_best wsX11_best ({ frames := 6, cells := 0, slots := 0, locals := 139 } : Room) (wPc D y [(x0, .inr (10, [.ref t0, .ref g0, .ref f0, .ref r0, .ref sl0, .ref n0, .ref d0, .ref w0, .ref c0])), (f0, .inr (4, [.ref fa, zi fn])), (fa, .inl (y 3, 6, .inr (.inr (.inr (.inr fr))))), (h0, .inr (1, [zi bl, zi bw, zi bt, zi bh, zi bd, zi bx, zi bn, .ref a1, .ref a2, .ref a3])), (a1, .inl (y 0, 8, .inl (cI CI))), (a2, .inl (y 0, 8, .inl (cI CJ))), (a3, .inl (y 0, 8, .inl (cI CW))), (g0, .inr (5, [.ref ga, zi gl, zi gp, zi gx, zi gy])), (ga, .inl (y 0, 36, .inl (cI GK)))] [(w0, .inr (0, [.ref wh, .ref wb, zi wl])), (wh, .inl (y 1, 408, .inr (.inl (cL HE)))), (wb, .inl (y 1, 408, .inr (.inl (cL BE))))] sz [.ref x0, zi qb]) (wQ D (fun (x9 : Nat × Nat × (Int → Int) × (Int → Int)) => match x9 with | (p1, p2, E1, E2) => some (zi (bstF (fun la => chH gl gp gx gy GK (lifeV bl bw bt bh bd bx bn CI CJ CW) gp.toNat la 0) (gl - 1).toNat))) (fun (x9 : Nat × Nat × (Int → Int) × (Int → Int)) => match x9 with | (p1, p2, E1, E2) => wOK E1 ∧ wOK E2) (fun (x9 : Nat × Nat × (Int → Int) × (Int → Int)) => match x9 with | (p1, p2, E1, E2) => [(w0, .inr (0, [.ref p1, .ref p2, zi (lifeV bl bw bt bh bd bx bn CI CJ CW)])), (p1, .inl (y 1, 408, .inr (.inl (cL E1)))), (p2, .inl (y 1, 408, .inr (.inl (cL E2))))]) (va_A [(w0, .inr (0, [.ref wh, .ref wb, zi wl])), (wh, .inl (y 1, 408, .inr (.inl (cL HE)))), (wb, .inl (y 1, 408, .inr (.inl (cL BE))))] sz)) 0 0 (va_A [(w0, .inr (0, [.ref wh, .ref wb, zi wl])), (wh, .inl (y 1, 408, .inr (.inl (cL HE)))), (wb, .inl (y 1, 408, .inr (.inl (cL BE))))] sz) := by
  refine W_of (own := RX11) (cc := cX11_best) (maxL := 3) (ret := some .int) (by decide) rfl rfl (Nat.le_of_ble_eq_true rfl) (fun p e s m below meth c ls A hx hb hr hC hlocks hin0 hR0 hN hP hD hA hG hl => ?_)
  have hC0 := hC
  obtain ⟨-, -, hml, hown, hts⟩ := hC0
  have hK := hG.1
  have hS : va_S A s.heap s.heap [] := va_S.rf
  have hPr := hR0
  have hinX11 : ∀ w ∈ wsX110, w ∈ wsX11_best := fun _ h => List.mem_cons_of_mem _ (List.mem_append_left _ (List.mem_append_left _ (List.mem_append_left _ (List.mem_append_left _ (List.mem_append_right _ h)))))
  have k1 := hts (.fieldLink RX11 26 "BoatsOfPaper" "theFleet" "LBoatsOfPaper$Fleet;") (List.mem_of_getElem? (i := 1) rfl)
  have k2 := hts (.fieldLink RX11 60 "BoatsOfPaper" "blowing" "LBoatsOfPaper$Blowing;") (List.mem_of_getElem? (i := 2) rfl)
  have k3 := hts (.fieldLink RX11 19 "BoatsOfPaper" "theGutter" "LBoatsOfPaper$Gutter;") (List.mem_of_getElem? (i := 3) rfl)
  have hl : lv_has ls 3 [(0, .ref x0), (1, zi qb)] := hl
  obtain ⟨q1, q2, q3, q4, q5, q6, q7, q8, q9, qc⟩ := id hB
  obtain ⟨u1, u2, u3, u4, uk⟩ := id hg
  have hl9 := lifeV_bd hB
  refine lv_aload_n hx hb dX11_best_0 rfl (lv_at hl 0 rfl) ?_
  refine va_get hx hb hts hinX11 hown hK hPr 0 rfl rfl 2 (by decide) k1 (fun _ h => h) rfl dX11_best_1 ?_
  refine lv_iload_n hx hb dX11_best_4 rfl (lv_at hl 1 rfl) ?_
  refine z_pV (As := [zi qb]) (rest := []) hC (c_X4_find l D y f0 fa fn fr qb h0 (by first | assumption | omega) hfr) (cwV 1 hts gX11_best_X4_find rfl rfl rfl (by decide +kernel) ⟨Nat.le_of_ble_eq_true rfl, Nat.le_of_ble_eq_true rfl⟩) hG (hPr.sub (ws' := [(f0, .inr (4, [.ref fa, zi fn])), (fa, .inl (y 3, 6, .inr (.inr (.inr (.inr fr)))))]) [1, 2] rfl) 0 rfl rfl rfl hl.1 rfl (Nat.le_of_ble_eq_true rfl) dX11_best_5 ⟨Nat.le_of_ble_eq_true rfl, Nat.le_of_ble_eq_true rfl⟩ ?_
  refine lv_astore_n (lv' := [(2, .ref h0), (0, .ref x0), (1, zi qb)]) hx hb dX11_best_8 rfl hl (by decide) rfl (fun ls hl => ?_)
  refine lv_aload_n hx hb dX11_best_9 rfl (lv_at hl 0 rfl) ?_
  refine lv_ifnonnull (tgt := 15) hx hb dX11_best_10 (by decide) ?_
  refine lv_aload_n hx hb dX11_best_15 rfl (lv_at hl 1 rfl) ?_
  refine va_get hx hb hts hinX11 hown hK hPr 0 rfl rfl 7 (by decide) k2 (fun _ h => h) rfl dX11_best_16 ?_
  refine lv_aload_n hx hb dX11_best_19 rfl (lv_at hl 1 rfl) ?_
  refine va_get hx hb hts hinX11 hown hK hPr 0 rfl rfl 1 (by decide) k3 (fun _ h => h) rfl dX11_best_20 ?_
  refine lv_aload_n hx hb dX11_best_23 rfl (lv_at hl 0 rfl) ?_
  refine z_pV (As := []) (rest := [.ref g0, .ref w0]) hC (c_X1_lastSecond l D y h0 a1 a2 a3 bl bw bt bh bd bx bn CI CJ CW (by first | assumption | omega)) (cwV 0 hts gX11_best_X1_lastSecond rfl rfl rfl (by decide +kernel) ⟨Nat.le_of_ble_eq_true rfl, Nat.le_of_ble_eq_true rfl⟩) hG (hPr.sub (ws' := [(h0, .inr (1, [zi bl, zi bw, zi bt, zi bh, zi bd, zi bx, zi bn, .ref a1, .ref a2, .ref a3])), (a1, .inl (y 0, 8, .inl (cI CI))), (a2, .inl (y 0, 8, .inl (cI CJ))), (a3, .inl (y 0, 8, .inl (cI CW)))]) [3, 4, 5, 6] rfl) 0 rfl rfl rfl hl.1 rfl (Nat.le_of_ble_eq_true rfl) dX11_best_24 ⟨Nat.le_of_ble_eq_true rfl, Nat.le_of_ble_eq_true rfl⟩ ?_
  refine z_wV (As := [.ref g0, zi (lifeV bl bw bt bh bd bx bn CI CJ CW)]) (rest := []) (wc := [(w0, .inr (0, [.ref wh, .ref wb, zi wl])), (wh, .inl (y 1, 408, .inr (.inl (cL HE)))), (wb, .inl (y 1, 408, .inr (.inl (cL BE))))]) (wrest := []) hC (c_X0_lookAhead l D y w0 wh wb wl HE BE g0 ga gl gp gx gy GK (lifeV bl bw bt bh bd bx bn CI CJ CW) (by first | assumption | omega) (by first | assumption | omega) (by first | assumption | omega) (by first | assumption | omega) _) (cwV 2 hts gX11_best_X0_lookAhead rfl rfl rfl (by decide +kernel) ⟨Nat.le_of_ble_eq_true rfl, Nat.le_of_ble_eq_true rfl⟩) hG hP hD hS hA [0, 1, 2] [] rfl rfl (by decide) (by decide) (by decide) (hPr.sub (ws' := [(g0, .inr (5, [.ref ga, zi gl, zi gp, zi gx, zi gy])), (ga, .inl (y 0, 36, .inl (cI GK)))]) [7, 8] rfl) (fun k q hk z => ro_sub (wr' := [(g0, .inr (5, [.ref ga, zi gl, zi gp, zi gx, zi gy])), (ga, .inl (y 0, 36, .inl (cI GK)))]) hN [7, 8] rfl k q hk (va_free (wc := [(w0, .inr (0, [.ref wh, .ref wb, zi wl])), (wh, .inl (y 1, 408, .inr (.inl (cL HE)))), (wb, .inl (y 1, 408, .inr (.inl (cL BE))))]) hD hS hA [0, 1, 2] rfl q.1 z)) 0 rfl rfl rfl hl.1 rfl (Nat.le_of_ble_eq_true rfl) dX11_best_27 ⟨Nat.le_of_ble_eq_true rfl, Nat.le_of_ble_eq_true rfl⟩ (fun u9 H locs hw_5 hP hD hS => ?_)
  obtain ⟨p1, p2, E1, E2⟩ := u9
  have hw_5 : wOK E1 ∧ wOK E2 ∧ vld gl gp gx gy GK (lifeV bl bw bt bh bd bx bn CI CJ CW) 1 E2 := hw_5
  have hP : va_P D vwCl [(w0, .inr (0, [.ref p1, .ref p2, zi (lifeV bl bw bt bh bd bx bn CI CJ CW)])), (p1, .inl (y 1, 408, .inr (.inl (cL E1)))), (p2, .inl (y 1, 408, .inr (.inl (cL E2))))] H := hP
  have hD : va_D A [(w0, .inr (0, [.ref p1, .ref p2, zi (lifeV bl bw bt bh bd bx bn CI CJ CW)])), (p1, .inl (y 1, 408, .inr (.inl (cL E1)))), (p2, .inl (y 1, 408, .inr (.inl (cL E2))))] := hD
  have hPr := ro_now hR0 hN hS
  obtain ⟨v1, v2, v3⟩ := hw_5
  refine lv_aload_n hx hb dX11_best_30 rfl (lv_at hl 1 rfl) ?_
  refine va_get hx hb hts hinX11 hown hK hPr 0 rfl rfl 7 (by decide) k2 (fun _ h => h) rfl dX11_best_31 ?_
  refine lv_aload_n hx hb dX11_best_34 rfl (lv_at hl 1 rfl) ?_
  refine va_get hx hb hts hinX11 hown hK hPr 0 rfl rfl 1 (by decide) k3 (fun _ h => h) rfl dX11_best_35 ?_
  refine z_pV (As := [.ref g0]) (rest := []) hC (c_X0_bestLane l D y w0 p1 p2 (lifeV bl bw bt bh bd bx bn CI CJ CW) E2 g0 ga gl gp gx gy GK (by first | assumption | omega) (by first | assumption | omega) (by first | assumption | omega) (by first | assumption | omega)) (cwV 1 hts gX11_best_X0_bestLane rfl rfl rfl (by decide +kernel) ⟨Nat.le_of_ble_eq_true rfl, Nat.le_of_ble_eq_true rfl⟩) hG ((hP.sub [0, 2] rfl).app (hPr.sub [7, 8] rfl)) 0 rfl rfl rfl hl.1 rfl (Nat.le_of_ble_eq_true rfl) dX11_best_38 ⟨Nat.le_of_ble_eq_true rfl, Nat.le_of_ble_eq_true rfl⟩ ?_
  exact z_iretW hx hb hr hlocks (p1, p2, E1, E2) (rfl) (⟨v1, v2⟩) (hP.sub [0, 1, 2] rfl) (hD.sub [0, 1, 2] (by decide) rfl) hS dX11_best_41
set_option maxHeartbeats 8000000 in
set_option maxRecDepth 100000 in
theorem c_X11_wreckShare (l : Launch) (D : va_G) (y : Nat → ClassId) (x0 : Nat) (t0 : Nat) (g0 : Nat) (f0 : Nat) (r0 : Nat) (sl0 : Nat) (n0 : Nat) (d0 : Nat) (w0 : Nat) (c0 : Nat) (fa : Nat) (fn : Int) (fr : Nat → Option Nat) (qb : Int) (h0 : Nat) (a1 : Nat) (a2 : Nat) (a3 : Nat) (bl : Int) (bw : Int) (bt : Int) (bh : Int) (bd : Int) (bx : Int) (bn : Int) (CI : Int → Int) (CJ : Int → Int) (CW : Int → Int) (la : Int) (pl : Int) (ga : Nat) (gl : Int) (gp : Int) (gx : Int) (gy : Int) (GK : Int → Int) (da : Nat) (dc : Int) (DE : Int → Int) (hqb : 0 ≤ fn ∧ fn ≤ 6 ∧ 0 ≤ qb ∧ qb < fn) (hfr : fr qb.toNat = some h0) (hB : bOK bl bw bt bh bd bx bn CI CJ CW) (hg : gOK gl gp gx gy GK) (hla : 0 ≤ la ∧ la < gl) (hpl : 0 ≤ pl ∧ pl < gp) (sz : Nat) : Met l yX11_wreckShare wsX11_wreckShare ({ frames := 5, cells := 0, slots := 0, locals := 116 } : Room) (wPc D y [(x0, .inr (10, [.ref t0, .ref g0, .ref f0, .ref r0, .ref sl0, .ref n0, .ref d0, .ref w0, .ref c0])), (f0, .inr (4, [.ref fa, zi fn])), (fa, .inl (y 3, 6, .inr (.inr (.inr (.inr fr))))), (h0, .inr (1, [zi bl, zi bw, zi bt, zi bh, zi bd, zi bx, zi bn, .ref a1, .ref a2, .ref a3])), (a1, .inl (y 0, 8, .inl (cI CI))), (a2, .inl (y 0, 8, .inl (cI CJ))), (a3, .inl (y 0, 8, .inl (cI CW))), (g0, .inr (5, [.ref ga, zi gl, zi gp, zi gx, zi gy])), (ga, .inl (y 0, 36, .inl (cI GK)))] [(d0, .inr (3, [.ref da, zl dc])), (da, .inl (y 1, 12, .inr (.inl (cL DE))))] sz [.ref x0, zi qb, zi la, zi pl]) (wQ D (fun (x9 : Int × (Int → Int)) => match x9 with | (dc2, DE2) => some (zl (enF (acx gl gp gx gy GK la (lifeV bl bw bt bh bd bx bn CI CJ CW)) pl))) (fun (x9 : Int × (Int → Int)) => match x9 with | (dc2, DE2) => True) (fun (x9 : Int × (Int → Int)) => match x9 with | (dc2, DE2) => [(d0, .inr (3, [.ref da, zl dc2])), (da, .inl (y 1, 12, .inr (.inl (cL DE2))))]) (va_A [(d0, .inr (3, [.ref da, zl dc])), (da, .inl (y 1, 12, .inr (.inl (cL DE))))] sz)) 0 0 (va_A [(d0, .inr (3, [.ref da, zl dc])), (da, .inl (y 1, 12, .inr (.inl (cL DE))))] sz) := by
  refine W_of (own := RX11) (cc := cX11_wreckShare) (maxL := 5) (ret := some .long) (by decide) rfl rfl (Nat.le_of_ble_eq_true rfl) (fun p e s m below meth c ls A hx hb hr hC hlocks hin0 hR0 hN hP hD hA hG hl => ?_)
  have hC0 := hC
  obtain ⟨-, -, hml, hown, hts⟩ := hC0
  have hK := hG.1
  have hS : va_S A s.heap s.heap [] := va_S.rf
  have hPr := hR0
  have hinX11 : ∀ w ∈ wsX110, w ∈ wsX11_wreckShare := fun _ h => List.mem_cons_of_mem _ (List.mem_append_left _ (List.mem_append_left _ (List.mem_append_left _ (List.mem_append_left _ (List.mem_append_right _ h)))))
  have k1 := hts (.fieldLink RX11 26 "BoatsOfPaper" "theFleet" "LBoatsOfPaper$Fleet;") (List.mem_of_getElem? (i := 1) rfl)
  have k2 := hts (.fieldLink RX11 53 "BoatsOfPaper" "drift" "LBoatsOfPaper$Drift;") (List.mem_of_getElem? (i := 2) rfl)
  have k3 := hts (.fieldLink RX11 19 "BoatsOfPaper" "theGutter" "LBoatsOfPaper$Gutter;") (List.mem_of_getElem? (i := 3) rfl)
  have hl : lv_has ls 5 [(0, .ref x0), (1, zi qb), (2, zi la), (3, zi pl)] := hl
  obtain ⟨q1, q2, q3, q4, q5, q6, q7, q8, q9, qc⟩ := id hB
  obtain ⟨u1, u2, u3, u4, uk⟩ := id hg
  have hl9 := lifeV_bd hB
  have ha := acx_bd hg la (lifeV bl bw bt bh bd bx bn CI CJ CW)
  have t1 := ten12 (r := gp.toNat) (by omega)
  have t2 := ten_p gp.toNat
  have e1 := enF_bd ha hpl.1
  have e2 := ten12 (r := (pl + 1).toNat) (by omega)
  have e3 := ten_p (pl + 1).toNat
  refine lv_aload_n hx hb dX11_wreckShare_0 rfl (lv_at hl 0 rfl) ?_
  refine va_get hx hb hts hinX11 hown hK hPr 0 rfl rfl 2 (by decide) k1 (fun _ h => h) rfl dX11_wreckShare_1 ?_
  refine lv_iload_n hx hb dX11_wreckShare_4 rfl (lv_at hl 1 rfl) ?_
  refine z_pV (As := [zi qb]) (rest := []) hC (c_X4_find l D y f0 fa fn fr qb h0 (by first | assumption | omega) hfr) (cwV 1 hts gX11_wreckShare_X4_find rfl rfl rfl (by decide +kernel) ⟨Nat.le_of_ble_eq_true rfl, Nat.le_of_ble_eq_true rfl⟩) hG (hPr.sub (ws' := [(f0, .inr (4, [.ref fa, zi fn])), (fa, .inl (y 3, 6, .inr (.inr (.inr (.inr fr)))))]) [1, 2] rfl) 0 rfl rfl rfl hl.1 rfl (Nat.le_of_ble_eq_true rfl) dX11_wreckShare_5 ⟨Nat.le_of_ble_eq_true rfl, Nat.le_of_ble_eq_true rfl⟩ ?_
  refine lv_astore (lv' := [(4, .ref h0), (0, .ref x0), (1, zi qb), (2, zi la), (3, zi pl)]) hx hb dX11_wreckShare_8 hl (by decide) rfl (fun ls hl => ?_)
  refine lv_aload hx hb dX11_wreckShare_10 (lv_at hl 0 rfl) ?_
  refine lv_ifnonnull (tgt := 17) hx hb dX11_wreckShare_12 (by decide) ?_
  refine lv_aload_n hx hb dX11_wreckShare_17 rfl (lv_at hl 1 rfl) ?_
  refine va_get hx hb hts hinX11 hown hK hPr 0 rfl rfl 6 (by decide) k2 (fun _ h => h) rfl dX11_wreckShare_18 ?_
  refine lv_aload_n hx hb dX11_wreckShare_21 rfl (lv_at hl 1 rfl) ?_
  refine va_get hx hb hts hinX11 hown hK hPr 0 rfl rfl 1 (by decide) k3 (fun _ h => h) rfl dX11_wreckShare_22 ?_
  refine lv_iload_n hx hb dX11_wreckShare_25 rfl (lv_at hl 3 rfl) ?_
  refine lv_aload hx hb dX11_wreckShare_26 (lv_at hl 0 rfl) ?_
  refine z_pV (As := []) (rest := [zi la, .ref g0, .ref d0]) hC (c_X1_lastSecond l D y h0 a1 a2 a3 bl bw bt bh bd bx bn CI CJ CW (by first | assumption | omega)) (cwV 0 hts gX11_wreckShare_X1_lastSecond rfl rfl rfl (by decide +kernel) ⟨Nat.le_of_ble_eq_true rfl, Nat.le_of_ble_eq_true rfl⟩) hG (hPr.sub (ws' := [(h0, .inr (1, [zi bl, zi bw, zi bt, zi bh, zi bd, zi bx, zi bn, .ref a1, .ref a2, .ref a3])), (a1, .inl (y 0, 8, .inl (cI CI))), (a2, .inl (y 0, 8, .inl (cI CJ))), (a3, .inl (y 0, 8, .inl (cI CW)))]) [3, 4, 5, 6] rfl) 0 rfl rfl rfl hl.1 rfl (Nat.le_of_ble_eq_true rfl) dX11_wreckShare_28 ⟨Nat.le_of_ble_eq_true rfl, Nat.le_of_ble_eq_true rfl⟩ ?_
  refine z_wV (As := [.ref g0, zi la, zi (lifeV bl bw bt bh bd bx bn CI CJ CW)]) (rest := []) (wc := [(d0, .inr (3, [.ref da, zl dc])), (da, .inl (y 1, 12, .inr (.inl (cL DE))))]) (wrest := []) hC (c_X3_follow l D y d0 da dc DE g0 ga gl gp gx gy GK la (lifeV bl bw bt bh bd bx bn CI CJ CW) (by first | assumption | omega) (by first | assumption | omega) (by first | assumption | omega) _) (cwV 3 hts gX11_wreckShare_X3_follow rfl rfl rfl (by decide +kernel) ⟨Nat.le_of_ble_eq_true rfl, Nat.le_of_ble_eq_true rfl⟩) hG hP hD hS hA [0, 1] [] rfl rfl (by decide) (by decide) (by decide) (hPr.sub (ws' := [(g0, .inr (5, [.ref ga, zi gl, zi gp, zi gx, zi gy])), (ga, .inl (y 0, 36, .inl (cI GK)))]) [7, 8] rfl) (fun k q hk z => ro_sub (wr' := [(g0, .inr (5, [.ref ga, zi gl, zi gp, zi gx, zi gy])), (ga, .inl (y 0, 36, .inl (cI GK)))]) hN [7, 8] rfl k q hk (va_free (wc := [(d0, .inr (3, [.ref da, zl dc])), (da, .inl (y 1, 12, .inr (.inl (cL DE))))]) hD hS hA [0, 1] rfl q.1 z)) 0 rfl rfl rfl hl.1 rfl (Nat.le_of_ble_eq_true rfl) dX11_wreckShare_31 ⟨Nat.le_of_ble_eq_true rfl, Nat.le_of_ble_eq_true rfl⟩ (fun u9 H locs hw_3 hP hD hS => ?_)
  obtain ⟨dc2, DE2⟩ := u9
  have hw_3 : dc2 = crF (acx gl gp gx gy GK la (lifeV bl bw bt bh bd bx bn CI CJ CW)) gp.toNat ∧ ∀ j : Int, 0 ≤ j → j < gp → DE2 j = enF (acx gl gp gx gy GK la (lifeV bl bw bt bh bd bx bn CI CJ CW)) j := hw_3
  have hP : va_P D vwCl [(d0, .inr (3, [.ref da, zl dc2])), (da, .inl (y 1, 12, .inr (.inl (cL DE2))))] H := hP
  have hD : va_D A [(d0, .inr (3, [.ref da, zl dc2])), (da, .inl (y 1, 12, .inr (.inl (cL DE2))))] := hD
  have hPr := ro_now hR0 hN hS
  obtain ⟨f1, f2⟩ := hw_3
  have f3 := f2 pl hpl.1 hpl.2
  refine lv_aload_n hx hb dX11_wreckShare_34 rfl (lv_at hl 1 rfl) ?_
  refine va_get hx hb hts hinX11 hown hK hPr 0 rfl rfl 6 (by decide) k2 (fun _ h => h) rfl dX11_wreckShare_35 ?_
  refine lv_iload_n hx hb dX11_wreckShare_38 rfl (lv_at hl 4 rfl) ?_
  refine z_pV (As := [zi pl]) (rest := []) hC (c_X3_endedAt l D y d0 da dc2 DE2 pl (by first | assumption | omega)) (cwV 1 hts gX11_wreckShare_X3_endedAt rfl rfl rfl (by decide +kernel) ⟨Nat.le_of_ble_eq_true rfl, Nat.le_of_ble_eq_true rfl⟩) hG (hP.sub (ws' := [(d0, .inr (3, [.ref da, zl dc2])), (da, .inl (y 1, 12, .inr (.inl (cL DE2))))]) [0, 1] rfl) 0 rfl rfl rfl hl.1 rfl (Nat.le_of_ble_eq_true rfl) dX11_wreckShare_39 ⟨Nat.le_of_ble_eq_true rfl, Nat.le_of_ble_eq_true rfl⟩ ?_
  exact z_lretW hx hb hr hlocks (dc2, DE2) (by exact congrArg (fun z => some (zl z)) (by rw [f3])) (trivial) (hP.sub [0, 1] rfl) (hD.sub [0, 1] (by decide) rfl) hS dX11_wreckShare_42
set_option maxHeartbeats 8000000 in
set_option maxRecDepth 100000 in
theorem c_X11_rests_out (l : Launch) (D : va_G) (y : Nat → ClassId) (x0 : Nat) (t0 : Nat) (g0 : Nat) (f0 : Nat) (r0 : Nat) (sl0 : Nat) (n0 : Nat) (d0 : Nat) (w0 : Nat) (c0 : Nat) (nq : Int) (cq : Int) (hr9 : rI nq ∧ rI cq) (hq : ¬ ((1 ≤ nq ∧ nq ≤ 9) ∧ 0 ≤ cq ∧ cq ≤ 9)) : Met l yX11_rests wsX11_rests ({ frames := 1, cells := 0, slots := 0, locals := 22 } : Room) (pPc D y [(x0, .inr (10, [.ref t0, .ref g0, .ref f0, .ref r0, .ref sl0, .ref n0, .ref d0, .ref w0, .ref c0]))] [.ref x0, zi nq, zi cq]) (qV (zi (-2))) 0 0 (fun _ => False) := by
  refine P_of (own := RX11) (cc := cX11_rests) (maxL := 3) (ret := some .int) (by decide) rfl rfl (Nat.le_of_ble_eq_true rfl) (fun p e s m below meth c ls hx hb hr hC hlocks hPr hG hl => ?_)
  have hC0 := hC
  obtain ⟨-, -, hml, hown, hts⟩ := hC0
  have hK := hG.1
  have hl : lv_has ls 3 [(0, .ref x0), (1, zi nq), (2, zi cq)] := hl
  refine lv_iload_n hx hb dX11_rests_0 rfl (lv_at hl 1 rfl) ?_
  refine z_iconst hx hb dX11_rests_1 ?_
  refine z_bipush hx hb dX11_rests_2 (by decide) ?_
  refine z_pS (As := [zi nq, zi 1, zi 9]) (rest := []) hC (c_X11_isWithin l D y nq 1 9 (by first | assumption | omega)) (va_cwS 3 hts gX11_rests_X11_isWithin rfl rfl rfl (by decide +kernel) ⟨Nat.le_of_ble_eq_true rfl, Nat.le_of_ble_eq_true rfl⟩) hG va_P_nil rfl hl.1 rfl (Nat.le_of_ble_eq_true rfl) dX11_rests_4 ⟨Nat.le_of_ble_eq_true rfl, Nat.le_of_ble_eq_true rfl⟩ ?_
  refine z_ifB_eq (tgt := 20) hx hb dX11_rests_7 (by decide) (fun c_7 => ?_) (fun c_7 => ?_)
  ·
    refine z_bipush hx hb dX11_rests_20 (by decide) ?_
    exact z_iret0 hx hb hr hlocks (rfl) dX11_rests_22
  ·
    refine lv_iload_n hx hb dX11_rests_10 rfl (lv_at hl 2 rfl) ?_
    refine z_iconst hx hb dX11_rests_11 ?_
    refine z_bipush hx hb dX11_rests_12 (by decide) ?_
    refine z_pS (As := [zi cq, zi 0, zi 9]) (rest := []) hC (c_X11_isWithin l D y cq 0 9 (by first | assumption | omega)) (va_cwS 3 hts gX11_rests_X11_isWithin rfl rfl rfl (by decide +kernel) ⟨Nat.le_of_ble_eq_true rfl, Nat.le_of_ble_eq_true rfl⟩) hG va_P_nil rfl hl.1 rfl (Nat.le_of_ble_eq_true rfl) dX11_rests_14 ⟨Nat.le_of_ble_eq_true rfl, Nat.le_of_ble_eq_true rfl⟩ ?_
    refine z_ifB_ne (tgt := 23) hx hb dX11_rests_17 (by decide) (fun c_17 => ?_) (fun c_17 => ?_)
    · exfalso; omega
    ·
      refine z_bipush hx hb dX11_rests_20 (by decide) ?_
      exact z_iret0 hx hb hr hlocks (rfl) dX11_rests_22
set_option maxHeartbeats 8000000 in
set_option maxRecDepth 100000 in
theorem c_X11_rests (l : Launch) (D : va_G) (y : Nat → ClassId) (x0 : Nat) (t0 : Nat) (g0 : Nat) (f0 : Nat) (r0 : Nat) (sl0 : Nat) (n0 : Nat) (d0 : Nat) (w0 : Nat) (c0 : Nat) (ga : Nat) (gl : Int) (gp : Int) (gx : Int) (gy : Int) (GK : Int → Int) (co : Nat) (ct : Nat) (cs : Nat) (ck : Int) (cf : Int) (OP : Int → Int) (TM : Int → Int) (SH : Int → Int) (nq : Int) (cq : Int) (hg : gOK gl gp gx gy GK) (hnc : (1 ≤ nq ∧ nq ≤ 9) ∧ 0 ≤ cq ∧ cq ≤ 9) (sz : Nat) : Met l yX11_rests wsX11_rests ({ frames := 6, cells := 0, slots := 0, locals := 134 } : Room) (wPc D y [(x0, .inr (10, [.ref t0, .ref g0, .ref f0, .ref r0, .ref sl0, .ref n0, .ref d0, .ref w0, .ref c0])), (g0, .inr (5, [.ref ga, zi gl, zi gp, zi gx, zi gy])), (ga, .inl (y 0, 36, .inl (cI GK)))] [(c0, .inr (2, [.ref co, .ref ct, .ref cs, zi ck, zi cf])), (co, .inl (y 2, 3, .inl (cI OP))), (ct, .inl (y 0, 3, .inl (cI TM))), (cs, .inl (y 0, 3, .inl (cI SH)))] sz [.ref x0, zi nq, zi cq]) (wQ D (fun (x9 : (Int → Int) × (Int → Int) × (Int → Int) × Int × Int) => match x9 with | (OP2, TM2, SH2, ck2, cf2) => some (zi (if 0 < sgI (opV gl gp GK) 3 then (spT (rsP (opV gl gp GK) (laneS gl gp GK) nq cq) nq).1 else -3))) (fun (x9 : (Int → Int) × (Int → Int) × (Int → Int) × Int × Int) => match x9 with | (OP2, TM2, SH2, ck2, cf2) => True) (fun (x9 : (Int → Int) × (Int → Int) × (Int → Int) × Int × Int) => match x9 with | (OP2, TM2, SH2, ck2, cf2) => [(c0, .inr (2, [.ref co, .ref ct, .ref cs, zi ck2, zi cf2])), (co, .inl (y 2, 3, .inl (cI OP2))), (ct, .inl (y 0, 3, .inl (cI TM2))), (cs, .inl (y 0, 3, .inl (cI SH2)))]) (va_A [(c0, .inr (2, [.ref co, .ref ct, .ref cs, zi ck, zi cf])), (co, .inl (y 2, 3, .inl (cI OP))), (ct, .inl (y 0, 3, .inl (cI TM))), (cs, .inl (y 0, 3, .inl (cI SH)))] sz)) 0 0 (va_A [(c0, .inr (2, [.ref co, .ref ct, .ref cs, zi ck, zi cf])), (co, .inl (y 2, 3, .inl (cI OP))), (ct, .inl (y 0, 3, .inl (cI TM))), (cs, .inl (y 0, 3, .inl (cI SH)))] sz) := by
  refine W_of (own := RX11) (cc := cX11_rests) (maxL := 3) (ret := some .int) (by decide) rfl rfl (Nat.le_of_ble_eq_true rfl) (fun p e s m below meth c ls A hx hb hr hC hlocks hin0 hR0 hN hP hD hA hG hl => ?_)
  have hC0 := hC
  obtain ⟨-, -, hml, hown, hts⟩ := hC0
  have hK := hG.1
  have hS : va_S A s.heap s.heap [] := va_S.rf
  have hPr := hR0
  have hinX11 : ∀ w ∈ wsX110, w ∈ wsX11_rests := fun _ h => List.mem_cons_of_mem _ (List.mem_append_left _ (List.mem_append_left _ (List.mem_append_right _ h)))
  have hinX2 : ∀ w ∈ wsX20, w ∈ wsX11_rests := fun _ h => List.mem_cons_of_mem _ (List.mem_append_left _ (List.mem_append_right _ h))
  have k1 := hts (.fieldLink RX11 67 "BoatsOfPaper" "crowd" "LBoatsOfPaper$Crowd;") (List.mem_of_getElem? (i := 1) rfl)
  have k2 := hts (.fieldLink RX11 19 "BoatsOfPaper" "theGutter" "LBoatsOfPaper$Gutter;") (List.mem_of_getElem? (i := 2) rfl)
  have k3 := hts (.fieldLink RX11 271 "BoatsOfPaper$Crowd" "restCount" "I") (List.mem_of_getElem? (i := 3) rfl)
  have hl : lv_has ls 3 [(0, .ref x0), (1, zi nq), (2, zi cq)] := hl
  obtain ⟨u1, u2, u3, u4, uk⟩ := id hg
  refine lv_iload_n hx hb dX11_rests_0 rfl (lv_at hl 1 rfl) ?_
  refine z_iconst hx hb dX11_rests_1 ?_
  refine z_bipush hx hb dX11_rests_2 (by decide) ?_
  refine z_pS (As := [zi nq, zi 1, zi 9]) (rest := []) hC (c_X11_isWithin l D y nq 1 9 (by first | assumption | omega)) (va_cwS 3 hts gX11_rests_X11_isWithin rfl rfl rfl (by decide +kernel) ⟨Nat.le_of_ble_eq_true rfl, Nat.le_of_ble_eq_true rfl⟩) hG va_P_nil rfl hl.1 rfl (Nat.le_of_ble_eq_true rfl) dX11_rests_4 ⟨Nat.le_of_ble_eq_true rfl, Nat.le_of_ble_eq_true rfl⟩ ?_
  refine z_ifB_eq (tgt := 20) hx hb dX11_rests_7 (by decide) (fun c_7 => ?_) (fun c_7 => ?_)
  · exfalso; omega
  ·
    refine lv_iload_n hx hb dX11_rests_10 rfl (lv_at hl 2 rfl) ?_
    refine z_iconst hx hb dX11_rests_11 ?_
    refine z_bipush hx hb dX11_rests_12 (by decide) ?_
    refine z_pS (As := [zi cq, zi 0, zi 9]) (rest := []) hC (c_X11_isWithin l D y cq 0 9 (by first | assumption | omega)) (va_cwS 3 hts gX11_rests_X11_isWithin rfl rfl rfl (by decide +kernel) ⟨Nat.le_of_ble_eq_true rfl, Nat.le_of_ble_eq_true rfl⟩) hG va_P_nil rfl hl.1 rfl (Nat.le_of_ble_eq_true rfl) dX11_rests_14 ⟨Nat.le_of_ble_eq_true rfl, Nat.le_of_ble_eq_true rfl⟩ ?_
    refine z_ifB_ne (tgt := 23) hx hb dX11_rests_17 (by decide) (fun c_17 => ?_) (fun c_17 => ?_)
    ·
      refine lv_aload_n hx hb dX11_rests_23 rfl (lv_at hl 0 rfl) ?_
      refine va_get hx hb hts hinX11 hown hK hPr 0 rfl rfl 8 (by decide) k1 (fun _ h => h) rfl dX11_rests_24 ?_
      refine lv_aload_n hx hb dX11_rests_27 rfl (lv_at hl 0 rfl) ?_
      refine va_get hx hb hts hinX11 hown hK hPr 0 rfl rfl 1 (by decide) k2 (fun _ h => h) rfl dX11_rests_28 ?_
      refine z_wV (As := [.ref g0]) (rest := []) (wc := [(c0, .inr (2, [.ref co, .ref ct, .ref cs, zi ck, zi cf])), (co, .inl (y 2, 3, .inl (cI OP))), (ct, .inl (y 0, 3, .inl (cI TM))), (cs, .inl (y 0, 3, .inl (cI SH)))]) (wrest := []) hC (c_X2_look l D y c0 co ct cs ck cf OP TM SH g0 ga gl gp gx gy GK (by first | assumption | omega) _) (cwV 1 hts gX11_rests_X2_look rfl rfl rfl (by decide +kernel) ⟨Nat.le_of_ble_eq_true rfl, Nat.le_of_ble_eq_true rfl⟩) hG hP hD hS hA [0, 1, 2, 3] [] rfl rfl (by decide) (by decide) (by decide) (hPr.sub (ws' := [(g0, .inr (5, [.ref ga, zi gl, zi gp, zi gx, zi gy])), (ga, .inl (y 0, 36, .inl (cI GK)))]) [1, 2] rfl) (fun k q hk z => ro_sub (wr' := [(g0, .inr (5, [.ref ga, zi gl, zi gp, zi gx, zi gy])), (ga, .inl (y 0, 36, .inl (cI GK)))]) hN [1, 2] rfl k q hk (va_free (wc := [(c0, .inr (2, [.ref co, .ref ct, .ref cs, zi ck, zi cf])), (co, .inl (y 2, 3, .inl (cI OP))), (ct, .inl (y 0, 3, .inl (cI TM))), (cs, .inl (y 0, 3, .inl (cI SH)))]) hD hS hA [0, 1, 2, 3] rfl q.1 z)) 0 rfl rfl rfl hl.1 rfl (Nat.le_of_ble_eq_true rfl) dX11_rests_31 ⟨Nat.le_of_ble_eq_true rfl, Nat.le_of_ble_eq_true rfl⟩ (fun u9 H locs hw_3 hP hD hS => ?_)
      obtain ⟨OP2, TM2⟩ := u9
      have hw_3 : (∀ j : Int, 0 ≤ j → j < 3 → OP2 j = opV gl gp GK j) ∧ ∀ j : Int, 0 ≤ j → j < 3 → TM2 j = laneS gl gp GK j := hw_3
      have hP : va_P D vwCl [(c0, .inr (2, [.ref co, .ref ct, .ref cs, zi ck, zi cf])), (co, .inl (y 2, 3, .inl (cI OP2))), (ct, .inl (y 0, 3, .inl (cI TM2))), (cs, .inl (y 0, 3, .inl (cI SH)))] H := hP
      have hD : va_D A [(c0, .inr (2, [.ref co, .ref ct, .ref cs, zi ck, zi cf])), (co, .inl (y 2, 3, .inl (cI OP2))), (ct, .inl (y 0, 3, .inl (cI TM2))), (cs, .inl (y 0, 3, .inl (cI SH)))] := hD
      have hPr := ro_now hR0 hN hS
      obtain ⟨o1, o2⟩ := hw_3
      have o3 : ∀ j : Int, 0 ≤ j → j < 3 → OP2 j = 0 ∨ OP2 j = 1 := fun j a b => by rw [o1 j a b]; exact bI01 _
      have o4 : ∀ j : Int, 0 ≤ j → j < 3 → 0 ≤ TM2 j ∧ TM2 j ≤ 108 := fun j a b => by rw [o2 j a b]; exact laneS_b3 hg j
      have o5 := rs_congr o1 o2 nq cq
      refine z_ifB_ne (tgt := 40) hx hb dX11_rests_34 (by decide) (fun c_34 => ?_) (fun c_34 => ?_)
      ·
        refine lv_aload_n hx hb dX11_rests_40 rfl (lv_at hl 0 rfl) ?_
        refine va_get hx hb hts hinX11 hown hK hPr 0 rfl rfl 8 (by decide) k1 (fun _ h => h) rfl dX11_rests_41 ?_
        refine lv_iload_n hx hb dX11_rests_44 rfl (lv_at hl 1 rfl) ?_
        refine lv_iload_n hx hb dX11_rests_45 rfl (lv_at hl 2 rfl) ?_
        refine z_wV (As := [zi nq, zi cq]) (rest := []) (wc := [(c0, .inr (2, [.ref co, .ref ct, .ref cs, zi ck, zi cf])), (co, .inl (y 2, 3, .inl (cI OP2))), (ct, .inl (y 0, 3, .inl (cI TM2))), (cs, .inl (y 0, 3, .inl (cI SH)))]) (wrest := []) hC (c_X2_splitAll l D y c0 co ct cs ck cf OP2 TM2 SH nq cq o3 o4 (by first | assumption | omega) (by first | assumption | omega) _) (cwV 2 hts gX11_rests_X2_splitAll rfl rfl rfl (by decide +kernel) ⟨Nat.le_of_ble_eq_true rfl, Nat.le_of_ble_eq_true rfl⟩) hG hP hD hS hA [0, 1, 2, 3] [] rfl rfl (by decide) (by decide) (by decide) va_P_nil ro_nil 0 rfl rfl rfl hl.1 rfl (Nat.le_of_ble_eq_true rfl) dX11_rests_46 ⟨Nat.le_of_ble_eq_true rfl, Nat.le_of_ble_eq_true rfl⟩ (fun u9 H locs hw_7 hP hD hS => ?_)
        obtain ⟨ck2, cf2, SH2⟩ := u9
        have hw_7 : (ck2, cf2) = spT (rsP OP2 TM2 nq cq) nq := hw_7
        have hP : va_P D vwCl [(c0, .inr (2, [.ref co, .ref ct, .ref cs, zi ck2, zi cf2])), (co, .inl (y 2, 3, .inl (cI OP2))), (ct, .inl (y 0, 3, .inl (cI TM2))), (cs, .inl (y 0, 3, .inl (cI SH2)))] H := hP
        have hD : va_D A [(c0, .inr (2, [.ref co, .ref ct, .ref cs, zi ck2, zi cf2])), (co, .inl (y 2, 3, .inl (cI OP2))), (ct, .inl (y 0, 3, .inl (cI TM2))), (cs, .inl (y 0, 3, .inl (cI SH2)))] := hD
        have hPr := ro_now hR0 hN hS
        have hs := hw_7
        rw [o5] at hs
        refine lv_aload_n hx hb dX11_rests_49 rfl (lv_at hl 0 rfl) ?_
        refine va_get hx hb hts hinX11 hown hK hPr 0 rfl rfl 8 (by decide) k1 (fun _ h => h) rfl dX11_rests_50 ?_
        refine va_get hx hb hts hinX2 hown hK hP 0 rfl rfl 3 (by decide) k3 (fun _ h => h) rfl dX11_rests_53 ?_
        exact z_iretW hx hb hr hlocks (OP2, TM2, SH2, ck2, cf2) (by first | exact congrArg (fun z => some (zi z)) (if_neg (by assumption)) | exact congrArg (fun z => some (zi z)) ((if_pos (by assumption)).trans (congrArg Prod.fst hs).symm)) (trivial) (hP.sub [0, 1, 2, 3] rfl) (hD.sub [0, 1, 2, 3] (by decide) rfl) hS dX11_rests_56
      ·
        refine z_bipush hx hb dX11_rests_37 (by decide) ?_
        exact z_iretW hx hb hr hlocks (OP2, TM2, SH, ck, cf) (by first | exact congrArg (fun z => some (zi z)) (if_neg (by assumption)) | exact congrArg (fun z => some (zi z)) ((if_pos (by assumption)).trans (congrArg Prod.fst hs).symm)) (trivial) (hP.sub [0, 1, 2, 3] rfl) (hD.sub [0, 1, 2, 3] (by decide) rfl) hS dX11_rests_39
    · exfalso; omega
set_option maxHeartbeats 8000000 in
set_option maxRecDepth 100000 in
theorem c_X11_split_out (l : Launch) (D : va_G) (y : Nat → ClassId) (x0 : Nat) (t0 : Nat) (g0 : Nat) (f0 : Nat) (r0 : Nat) (sl0 : Nat) (n0 : Nat) (d0 : Nat) (w0 : Nat) (c0 : Nat) (nq : Int) (cq : Int) (hr9 : rI nq ∧ rI cq) (hq : ¬ ((1 ≤ nq ∧ nq ≤ 9) ∧ 0 ≤ cq ∧ cq ≤ 9)) : Met l yX11_split wsX11_split ({ frames := 1, cells := 0, slots := 0, locals := 22 } : Room) (pPc D y [(x0, .inr (10, [.ref t0, .ref g0, .ref f0, .ref r0, .ref sl0, .ref n0, .ref d0, .ref w0, .ref c0]))] [.ref x0, zi nq, zi cq]) (qV (zi (-2))) 0 0 (fun _ => False) := by
  refine P_of (own := RX11) (cc := cX11_split) (maxL := 3) (ret := some .int) (by decide) rfl rfl (Nat.le_of_ble_eq_true rfl) (fun p e s m below meth c ls hx hb hr hC hlocks hPr hG hl => ?_)
  have hC0 := hC
  obtain ⟨-, -, hml, hown, hts⟩ := hC0
  have hK := hG.1
  have hl : lv_has ls 3 [(0, .ref x0), (1, zi nq), (2, zi cq)] := hl
  refine lv_iload_n hx hb dX11_split_0 rfl (lv_at hl 1 rfl) ?_
  refine z_iconst hx hb dX11_split_1 ?_
  refine z_bipush hx hb dX11_split_2 (by decide) ?_
  refine z_pS (As := [zi nq, zi 1, zi 9]) (rest := []) hC (c_X11_isWithin l D y nq 1 9 (by first | assumption | omega)) (va_cwS 3 hts gX11_split_X11_isWithin rfl rfl rfl (by decide +kernel) ⟨Nat.le_of_ble_eq_true rfl, Nat.le_of_ble_eq_true rfl⟩) hG va_P_nil rfl hl.1 rfl (Nat.le_of_ble_eq_true rfl) dX11_split_4 ⟨Nat.le_of_ble_eq_true rfl, Nat.le_of_ble_eq_true rfl⟩ ?_
  refine z_ifB_eq (tgt := 20) hx hb dX11_split_7 (by decide) (fun c_7 => ?_) (fun c_7 => ?_)
  ·
    refine z_bipush hx hb dX11_split_20 (by decide) ?_
    exact z_iret0 hx hb hr hlocks (rfl) dX11_split_22
  ·
    refine lv_iload_n hx hb dX11_split_10 rfl (lv_at hl 2 rfl) ?_
    refine z_iconst hx hb dX11_split_11 ?_
    refine z_bipush hx hb dX11_split_12 (by decide) ?_
    refine z_pS (As := [zi cq, zi 0, zi 9]) (rest := []) hC (c_X11_isWithin l D y cq 0 9 (by first | assumption | omega)) (va_cwS 3 hts gX11_split_X11_isWithin rfl rfl rfl (by decide +kernel) ⟨Nat.le_of_ble_eq_true rfl, Nat.le_of_ble_eq_true rfl⟩) hG va_P_nil rfl hl.1 rfl (Nat.le_of_ble_eq_true rfl) dX11_split_14 ⟨Nat.le_of_ble_eq_true rfl, Nat.le_of_ble_eq_true rfl⟩ ?_
    refine z_ifB_ne (tgt := 23) hx hb dX11_split_17 (by decide) (fun c_17 => ?_) (fun c_17 => ?_)
    · exfalso; omega
    ·
      refine z_bipush hx hb dX11_split_20 (by decide) ?_
      exact z_iret0 hx hb hr hlocks (rfl) dX11_split_22
set_option maxHeartbeats 8000000 in
set_option maxRecDepth 100000 in
theorem c_X11_split (l : Launch) (D : va_G) (y : Nat → ClassId) (x0 : Nat) (t0 : Nat) (g0 : Nat) (f0 : Nat) (r0 : Nat) (sl0 : Nat) (n0 : Nat) (d0 : Nat) (w0 : Nat) (c0 : Nat) (ga : Nat) (gl : Int) (gp : Int) (gx : Int) (gy : Int) (GK : Int → Int) (co : Nat) (ct : Nat) (cs : Nat) (ck : Int) (cf : Int) (OP : Int → Int) (TM : Int → Int) (SH : Int → Int) (nq : Int) (cq : Int) (hg : gOK gl gp gx gy GK) (hnc : (1 ≤ nq ∧ nq ≤ 9) ∧ 0 ≤ cq ∧ cq ≤ 9) (sz : Nat) : Met l yX11_split wsX11_split ({ frames := 6, cells := 0, slots := 0, locals := 134 } : Room) (wPc D y [(x0, .inr (10, [.ref t0, .ref g0, .ref f0, .ref r0, .ref sl0, .ref n0, .ref d0, .ref w0, .ref c0])), (g0, .inr (5, [.ref ga, zi gl, zi gp, zi gx, zi gy])), (ga, .inl (y 0, 36, .inl (cI GK)))] [(c0, .inr (2, [.ref co, .ref ct, .ref cs, zi ck, zi cf])), (co, .inl (y 2, 3, .inl (cI OP))), (ct, .inl (y 0, 3, .inl (cI TM))), (cs, .inl (y 0, 3, .inl (cI SH)))] sz [.ref x0, zi nq, zi cq]) (wQ D (fun (x9 : (Int → Int) × (Int → Int) × (Int → Int) × Int × Int) => match x9 with | (OP2, TM2, SH2, ck2, cf2) => some (zi (if 0 < sgI (opV gl gp GK) 3 then (spT (rsP (opV gl gp GK) (laneS gl gp GK) nq cq) nq).2 else -3))) (fun (x9 : (Int → Int) × (Int → Int) × (Int → Int) × Int × Int) => match x9 with | (OP2, TM2, SH2, ck2, cf2) => True) (fun (x9 : (Int → Int) × (Int → Int) × (Int → Int) × Int × Int) => match x9 with | (OP2, TM2, SH2, ck2, cf2) => [(c0, .inr (2, [.ref co, .ref ct, .ref cs, zi ck2, zi cf2])), (co, .inl (y 2, 3, .inl (cI OP2))), (ct, .inl (y 0, 3, .inl (cI TM2))), (cs, .inl (y 0, 3, .inl (cI SH2)))]) (va_A [(c0, .inr (2, [.ref co, .ref ct, .ref cs, zi ck, zi cf])), (co, .inl (y 2, 3, .inl (cI OP))), (ct, .inl (y 0, 3, .inl (cI TM))), (cs, .inl (y 0, 3, .inl (cI SH)))] sz)) 0 0 (va_A [(c0, .inr (2, [.ref co, .ref ct, .ref cs, zi ck, zi cf])), (co, .inl (y 2, 3, .inl (cI OP))), (ct, .inl (y 0, 3, .inl (cI TM))), (cs, .inl (y 0, 3, .inl (cI SH)))] sz) := by
  refine W_of (own := RX11) (cc := cX11_split) (maxL := 3) (ret := some .int) (by decide) rfl rfl (Nat.le_of_ble_eq_true rfl) (fun p e s m below meth c ls A hx hb hr hC hlocks hin0 hR0 hN hP hD hA hG hl => ?_)
  have hC0 := hC
  obtain ⟨-, -, hml, hown, hts⟩ := hC0
  have hK := hG.1
  have hS : va_S A s.heap s.heap [] := va_S.rf
  have hPr := hR0
  have hinX11 : ∀ w ∈ wsX110, w ∈ wsX11_split := fun _ h => List.mem_cons_of_mem _ (List.mem_append_left _ (List.mem_append_left _ (List.mem_append_right _ h)))
  have hinX2 : ∀ w ∈ wsX20, w ∈ wsX11_split := fun _ h => List.mem_cons_of_mem _ (List.mem_append_left _ (List.mem_append_right _ h))
  have k1 := hts (.fieldLink RX11 67 "BoatsOfPaper" "crowd" "LBoatsOfPaper$Crowd;") (List.mem_of_getElem? (i := 1) rfl)
  have k2 := hts (.fieldLink RX11 19 "BoatsOfPaper" "theGutter" "LBoatsOfPaper$Gutter;") (List.mem_of_getElem? (i := 2) rfl)
  have k3 := hts (.fieldLink RX11 274 "BoatsOfPaper$Crowd" "firstRest" "I") (List.mem_of_getElem? (i := 3) rfl)
  have hl : lv_has ls 3 [(0, .ref x0), (1, zi nq), (2, zi cq)] := hl
  obtain ⟨u1, u2, u3, u4, uk⟩ := id hg
  refine lv_iload_n hx hb dX11_split_0 rfl (lv_at hl 1 rfl) ?_
  refine z_iconst hx hb dX11_split_1 ?_
  refine z_bipush hx hb dX11_split_2 (by decide) ?_
  refine z_pS (As := [zi nq, zi 1, zi 9]) (rest := []) hC (c_X11_isWithin l D y nq 1 9 (by first | assumption | omega)) (va_cwS 3 hts gX11_split_X11_isWithin rfl rfl rfl (by decide +kernel) ⟨Nat.le_of_ble_eq_true rfl, Nat.le_of_ble_eq_true rfl⟩) hG va_P_nil rfl hl.1 rfl (Nat.le_of_ble_eq_true rfl) dX11_split_4 ⟨Nat.le_of_ble_eq_true rfl, Nat.le_of_ble_eq_true rfl⟩ ?_
  refine z_ifB_eq (tgt := 20) hx hb dX11_split_7 (by decide) (fun c_7 => ?_) (fun c_7 => ?_)
  · exfalso; omega
  ·
    refine lv_iload_n hx hb dX11_split_10 rfl (lv_at hl 2 rfl) ?_
    refine z_iconst hx hb dX11_split_11 ?_
    refine z_bipush hx hb dX11_split_12 (by decide) ?_
    refine z_pS (As := [zi cq, zi 0, zi 9]) (rest := []) hC (c_X11_isWithin l D y cq 0 9 (by first | assumption | omega)) (va_cwS 3 hts gX11_split_X11_isWithin rfl rfl rfl (by decide +kernel) ⟨Nat.le_of_ble_eq_true rfl, Nat.le_of_ble_eq_true rfl⟩) hG va_P_nil rfl hl.1 rfl (Nat.le_of_ble_eq_true rfl) dX11_split_14 ⟨Nat.le_of_ble_eq_true rfl, Nat.le_of_ble_eq_true rfl⟩ ?_
    refine z_ifB_ne (tgt := 23) hx hb dX11_split_17 (by decide) (fun c_17 => ?_) (fun c_17 => ?_)
    ·
      refine lv_aload_n hx hb dX11_split_23 rfl (lv_at hl 0 rfl) ?_
      refine va_get hx hb hts hinX11 hown hK hPr 0 rfl rfl 8 (by decide) k1 (fun _ h => h) rfl dX11_split_24 ?_
      refine lv_aload_n hx hb dX11_split_27 rfl (lv_at hl 0 rfl) ?_
      refine va_get hx hb hts hinX11 hown hK hPr 0 rfl rfl 1 (by decide) k2 (fun _ h => h) rfl dX11_split_28 ?_
      refine z_wV (As := [.ref g0]) (rest := []) (wc := [(c0, .inr (2, [.ref co, .ref ct, .ref cs, zi ck, zi cf])), (co, .inl (y 2, 3, .inl (cI OP))), (ct, .inl (y 0, 3, .inl (cI TM))), (cs, .inl (y 0, 3, .inl (cI SH)))]) (wrest := []) hC (c_X2_look l D y c0 co ct cs ck cf OP TM SH g0 ga gl gp gx gy GK (by first | assumption | omega) _) (cwV 1 hts gX11_split_X2_look rfl rfl rfl (by decide +kernel) ⟨Nat.le_of_ble_eq_true rfl, Nat.le_of_ble_eq_true rfl⟩) hG hP hD hS hA [0, 1, 2, 3] [] rfl rfl (by decide) (by decide) (by decide) (hPr.sub (ws' := [(g0, .inr (5, [.ref ga, zi gl, zi gp, zi gx, zi gy])), (ga, .inl (y 0, 36, .inl (cI GK)))]) [1, 2] rfl) (fun k q hk z => ro_sub (wr' := [(g0, .inr (5, [.ref ga, zi gl, zi gp, zi gx, zi gy])), (ga, .inl (y 0, 36, .inl (cI GK)))]) hN [1, 2] rfl k q hk (va_free (wc := [(c0, .inr (2, [.ref co, .ref ct, .ref cs, zi ck, zi cf])), (co, .inl (y 2, 3, .inl (cI OP))), (ct, .inl (y 0, 3, .inl (cI TM))), (cs, .inl (y 0, 3, .inl (cI SH)))]) hD hS hA [0, 1, 2, 3] rfl q.1 z)) 0 rfl rfl rfl hl.1 rfl (Nat.le_of_ble_eq_true rfl) dX11_split_31 ⟨Nat.le_of_ble_eq_true rfl, Nat.le_of_ble_eq_true rfl⟩ (fun u9 H locs hw_3 hP hD hS => ?_)
      obtain ⟨OP2, TM2⟩ := u9
      have hw_3 : (∀ j : Int, 0 ≤ j → j < 3 → OP2 j = opV gl gp GK j) ∧ ∀ j : Int, 0 ≤ j → j < 3 → TM2 j = laneS gl gp GK j := hw_3
      have hP : va_P D vwCl [(c0, .inr (2, [.ref co, .ref ct, .ref cs, zi ck, zi cf])), (co, .inl (y 2, 3, .inl (cI OP2))), (ct, .inl (y 0, 3, .inl (cI TM2))), (cs, .inl (y 0, 3, .inl (cI SH)))] H := hP
      have hD : va_D A [(c0, .inr (2, [.ref co, .ref ct, .ref cs, zi ck, zi cf])), (co, .inl (y 2, 3, .inl (cI OP2))), (ct, .inl (y 0, 3, .inl (cI TM2))), (cs, .inl (y 0, 3, .inl (cI SH)))] := hD
      have hPr := ro_now hR0 hN hS
      obtain ⟨o1, o2⟩ := hw_3
      have o3 : ∀ j : Int, 0 ≤ j → j < 3 → OP2 j = 0 ∨ OP2 j = 1 := fun j a b => by rw [o1 j a b]; exact bI01 _
      have o4 : ∀ j : Int, 0 ≤ j → j < 3 → 0 ≤ TM2 j ∧ TM2 j ≤ 108 := fun j a b => by rw [o2 j a b]; exact laneS_b3 hg j
      have o5 := rs_congr o1 o2 nq cq
      refine z_ifB_ne (tgt := 40) hx hb dX11_split_34 (by decide) (fun c_34 => ?_) (fun c_34 => ?_)
      ·
        refine lv_aload_n hx hb dX11_split_40 rfl (lv_at hl 0 rfl) ?_
        refine va_get hx hb hts hinX11 hown hK hPr 0 rfl rfl 8 (by decide) k1 (fun _ h => h) rfl dX11_split_41 ?_
        refine lv_iload_n hx hb dX11_split_44 rfl (lv_at hl 1 rfl) ?_
        refine lv_iload_n hx hb dX11_split_45 rfl (lv_at hl 2 rfl) ?_
        refine z_wV (As := [zi nq, zi cq]) (rest := []) (wc := [(c0, .inr (2, [.ref co, .ref ct, .ref cs, zi ck, zi cf])), (co, .inl (y 2, 3, .inl (cI OP2))), (ct, .inl (y 0, 3, .inl (cI TM2))), (cs, .inl (y 0, 3, .inl (cI SH)))]) (wrest := []) hC (c_X2_splitAll l D y c0 co ct cs ck cf OP2 TM2 SH nq cq o3 o4 (by first | assumption | omega) (by first | assumption | omega) _) (cwV 2 hts gX11_split_X2_splitAll rfl rfl rfl (by decide +kernel) ⟨Nat.le_of_ble_eq_true rfl, Nat.le_of_ble_eq_true rfl⟩) hG hP hD hS hA [0, 1, 2, 3] [] rfl rfl (by decide) (by decide) (by decide) va_P_nil ro_nil 0 rfl rfl rfl hl.1 rfl (Nat.le_of_ble_eq_true rfl) dX11_split_46 ⟨Nat.le_of_ble_eq_true rfl, Nat.le_of_ble_eq_true rfl⟩ (fun u9 H locs hw_7 hP hD hS => ?_)
        obtain ⟨ck2, cf2, SH2⟩ := u9
        have hw_7 : (ck2, cf2) = spT (rsP OP2 TM2 nq cq) nq := hw_7
        have hP : va_P D vwCl [(c0, .inr (2, [.ref co, .ref ct, .ref cs, zi ck2, zi cf2])), (co, .inl (y 2, 3, .inl (cI OP2))), (ct, .inl (y 0, 3, .inl (cI TM2))), (cs, .inl (y 0, 3, .inl (cI SH2)))] H := hP
        have hD : va_D A [(c0, .inr (2, [.ref co, .ref ct, .ref cs, zi ck2, zi cf2])), (co, .inl (y 2, 3, .inl (cI OP2))), (ct, .inl (y 0, 3, .inl (cI TM2))), (cs, .inl (y 0, 3, .inl (cI SH2)))] := hD
        have hPr := ro_now hR0 hN hS
        have hs := hw_7
        rw [o5] at hs
        refine lv_aload_n hx hb dX11_split_49 rfl (lv_at hl 0 rfl) ?_
        refine va_get hx hb hts hinX11 hown hK hPr 0 rfl rfl 8 (by decide) k1 (fun _ h => h) rfl dX11_split_50 ?_
        refine va_get hx hb hts hinX2 hown hK hP 0 rfl rfl 4 (by decide) k3 (fun _ h => h) rfl dX11_split_53 ?_
        exact z_iretW hx hb hr hlocks (OP2, TM2, SH2, ck2, cf2) (by first | exact congrArg (fun z => some (zi z)) (if_neg (by assumption)) | exact congrArg (fun z => some (zi z)) ((if_pos (by assumption)).trans (congrArg Prod.snd hs).symm)) (trivial) (hP.sub [0, 1, 2, 3] rfl) (hD.sub [0, 1, 2, 3] (by decide) rfl) hS dX11_split_56
      ·
        refine z_bipush hx hb dX11_split_37 (by decide) ?_
        exact z_iretW hx hb hr hlocks (OP2, TM2, SH, ck, cf) (by first | exact congrArg (fun z => some (zi z)) (if_neg (by assumption)) | exact congrArg (fun z => some (zi z)) ((if_pos (by assumption)).trans (congrArg Prod.snd hs).symm)) (trivial) (hP.sub [0, 1, 2, 3] rfl) (hD.sub [0, 1, 2, 3] (by decide) rfl) hS dX11_split_39
    · exfalso; omega
set_option maxHeartbeats 8000000 in
set_option maxRecDepth 100000 in
theorem c_X11_run_out (l : Launch) (D : va_G) (y : Nat → ClassId) (x0 : Nat) (t0 : Nat) (g0 : Nat) (f0 : Nat) (r0 : Nat) (sl0 : Nat) (n0 : Nat) (d0 : Nat) (w0 : Nat) (c0 : Nat) (xf : Int) (xr : Int) (hr9 : rI xf) (hq : ¬ (0 ≤ xf ∧ xf ≤ 99)) : Met l yX11_run wsX11_run ({ frames := 1, cells := 0, slots := 0, locals := 22 } : Room) (pPc D y [(x0, .inr (10, [.ref t0, .ref g0, .ref f0, .ref r0, .ref sl0, .ref n0, .ref d0, .ref w0, .ref c0]))] [.ref x0, zi xf, zi xr]) (qV (zi (-2))) 0 0 (fun _ => False) := by
  refine P_of (own := RX11) (cc := cX11_run) (maxL := 3) (ret := some .int) (by decide) rfl rfl (Nat.le_of_ble_eq_true rfl) (fun p e s m below meth c ls hx hb hr hC hlocks hPr hG hl => ?_)
  have hC0 := hC
  obtain ⟨-, -, hml, hown, hts⟩ := hC0
  have hK := hG.1
  have hl : lv_has ls 3 [(0, .ref x0), (1, zi xf), (2, zi xr)] := hl
  refine lv_iload_n hx hb dX11_run_0 rfl (lv_at hl 1 rfl) ?_
  refine z_iconst hx hb dX11_run_1 ?_
  refine z_bipush hx hb dX11_run_2 (by decide) ?_
  refine z_pS (As := [zi xf, zi 0, zi 99]) (rest := []) hC (c_X11_isWithin l D y xf 0 99 (by first | assumption | omega)) (va_cwS 3 hts gX11_run_X11_isWithin rfl rfl rfl (by decide +kernel) ⟨Nat.le_of_ble_eq_true rfl, Nat.le_of_ble_eq_true rfl⟩) hG va_P_nil rfl hl.1 rfl (Nat.le_of_ble_eq_true rfl) dX11_run_4 ⟨Nat.le_of_ble_eq_true rfl, Nat.le_of_ble_eq_true rfl⟩ ?_
  refine z_ifB_ne (tgt := 13) hx hb dX11_run_7 (by decide) (fun c_7 => ?_) (fun c_7 => ?_)
  · exfalso; omega
  ·
    refine z_bipush hx hb dX11_run_10 (by decide) ?_
    exact z_iret0 hx hb hr hlocks (rfl) dX11_run_12
set_option maxHeartbeats 8000000 in
set_option maxRecDepth 100000 in
theorem c_X11_run_full (l : Launch) (D : va_G) (y : Nat → ClassId) (x0 : Nat) (t0 : Nat) (g0 : Nat) (f0 : Nat) (r0 : Nat) (sl0 : Nat) (n0 : Nat) (d0 : Nat) (w0 : Nat) (c0 : Nat) (rl : Nat) (rr : Nat) (rn : Int) (rk : Int) (ra : Int) (RF : Int → Int) (RB : Int → Int) (xf : Int) (xr : Int) (hq : 0 ≤ xf ∧ xf ≤ 99) (hf : rn = 12) : Met l yX11_run wsX11_run ({ frames := 1, cells := 0, slots := 0, locals := 22 } : Room) (pPc D y [(x0, .inr (10, [.ref t0, .ref g0, .ref f0, .ref r0, .ref sl0, .ref n0, .ref d0, .ref w0, .ref c0])), (r0, .inr (7, [.ref rl, .ref rr, zi rn, zi rk, zi ra])), (rl, .inl (y 0, 12, .inl (cI RF))), (rr, .inl (y 2, 12, .inl (cI RB)))] [.ref x0, zi xf, zi xr]) (qV (zi (-4))) 0 0 (fun _ => False) := by
  refine P_of (own := RX11) (cc := cX11_run) (maxL := 3) (ret := some .int) (by decide) rfl rfl (Nat.le_of_ble_eq_true rfl) (fun p e s m below meth c ls hx hb hr hC hlocks hPr hG hl => ?_)
  have hC0 := hC
  obtain ⟨-, -, hml, hown, hts⟩ := hC0
  have hK := hG.1
  have hinX11 : ∀ w ∈ wsX110, w ∈ wsX11_run := fun _ h => List.mem_cons_of_mem _ (List.mem_append_left _ (List.mem_append_right _ h))
  have k1 := hts (.fieldLink RX11 33 "BoatsOfPaper" "theRuns" "LBoatsOfPaper$Runs;") (List.mem_of_getElem? (i := 1) rfl)
  have hl : lv_has ls 3 [(0, .ref x0), (1, zi xf), (2, zi xr)] := hl
  refine lv_iload_n hx hb dX11_run_0 rfl (lv_at hl 1 rfl) ?_
  refine z_iconst hx hb dX11_run_1 ?_
  refine z_bipush hx hb dX11_run_2 (by decide) ?_
  refine z_pS (As := [zi xf, zi 0, zi 99]) (rest := []) hC (c_X11_isWithin l D y xf 0 99 (by first | assumption | omega)) (va_cwS 3 hts gX11_run_X11_isWithin rfl rfl rfl (by decide +kernel) ⟨Nat.le_of_ble_eq_true rfl, Nat.le_of_ble_eq_true rfl⟩) hG va_P_nil rfl hl.1 rfl (Nat.le_of_ble_eq_true rfl) dX11_run_4 ⟨Nat.le_of_ble_eq_true rfl, Nat.le_of_ble_eq_true rfl⟩ ?_
  refine z_ifB_ne (tgt := 13) hx hb dX11_run_7 (by decide) (fun c_7 => ?_) (fun c_7 => ?_)
  ·
    refine lv_aload_n hx hb dX11_run_13 rfl (lv_at hl 0 rfl) ?_
    refine va_get hx hb hts hinX11 hown hK hPr 0 rfl rfl 3 (by decide) k1 (fun _ h => h) rfl dX11_run_14 ?_
    refine lv_iload_n hx hb dX11_run_17 rfl (lv_at hl 1 rfl) ?_
    refine lv_iload_n hx hb dX11_run_18 rfl (lv_at hl 2 rfl) ?_
    refine z_pV (As := [zi xf, zi xr]) (rest := []) hC (c_X8_add_full l D y r0 rl rr rn rk ra RF RB xf xr (by first | assumption | omega)) (cwV 2 hts gX11_run_X8_add rfl rfl rfl (by decide +kernel) ⟨Nat.le_of_ble_eq_true rfl, Nat.le_of_ble_eq_true rfl⟩) hG (hPr.sub (ws' := [(r0, .inr (7, [.ref rl, .ref rr, zi rn, zi rk, zi ra])), (rl, .inl (y 0, 12, .inl (cI RF))), (rr, .inl (y 2, 12, .inl (cI RB)))]) [1, 2, 3] rfl) 0 rfl rfl rfl hl.1 rfl (Nat.le_of_ble_eq_true rfl) dX11_run_19 ⟨Nat.le_of_ble_eq_true rfl, Nat.le_of_ble_eq_true rfl⟩ ?_
    exact z_iret0 hx hb hr hlocks (rfl) dX11_run_22
  · exfalso; omega
set_option maxHeartbeats 8000000 in
set_option maxRecDepth 100000 in
theorem c_X11_run (l : Launch) (D : va_G) (y : Nat → ClassId) (x0 : Nat) (t0 : Nat) (g0 : Nat) (f0 : Nat) (r0 : Nat) (sl0 : Nat) (n0 : Nat) (d0 : Nat) (w0 : Nat) (c0 : Nat) (rl : Nat) (rr : Nat) (rn : Int) (rk : Int) (ra : Int) (RF : Int → Int) (RB : Int → Int) (xf : Int) (xr : Int) (hq : 0 ≤ xf ∧ xf ≤ 99) (hf : 0 ≤ rn ∧ rn < 12) (hx9 : xr = 0 ∨ xr = 1) (sz : Nat) : Met l yX11_run wsX11_run ({ frames := 1, cells := 0, slots := 0, locals := 22 } : Room) (wPc D y [(x0, .inr (10, [.ref t0, .ref g0, .ref f0, .ref r0, .ref sl0, .ref n0, .ref d0, .ref w0, .ref c0]))] [(r0, .inr (7, [.ref rl, .ref rr, zi rn, zi rk, zi ra])), (rl, .inl (y 0, 12, .inl (cI RF))), (rr, .inl (y 2, 12, .inl (cI RB)))] sz [.ref x0, zi xf, zi xr]) (wQ D (fun (_ : Unit) => some (zi (rn + 1))) (fun (_ : Unit) => True) (fun (_ : Unit) => [(r0, .inr (7, [.ref rl, .ref rr, zi (rn + 1), zi rk, zi ra])), (rl, .inl (y 0, 12, .inl (cI (iu RF rn xf)))), (rr, .inl (y 2, 12, .inl (cI (iu RB rn xr))))]) (va_A [(r0, .inr (7, [.ref rl, .ref rr, zi rn, zi rk, zi ra])), (rl, .inl (y 0, 12, .inl (cI RF))), (rr, .inl (y 2, 12, .inl (cI RB)))] sz)) 0 0 (va_A [(r0, .inr (7, [.ref rl, .ref rr, zi rn, zi rk, zi ra])), (rl, .inl (y 0, 12, .inl (cI RF))), (rr, .inl (y 2, 12, .inl (cI RB)))] sz) := by
  refine W_of (own := RX11) (cc := cX11_run) (maxL := 3) (ret := some .int) (by decide) rfl rfl (Nat.le_of_ble_eq_true rfl) (fun p e s m below meth c ls A hx hb hr hC hlocks hin0 hR0 hN hP hD hA hG hl => ?_)
  have hC0 := hC
  obtain ⟨-, -, hml, hown, hts⟩ := hC0
  have hK := hG.1
  have hS : va_S A s.heap s.heap [] := va_S.rf
  have hPr := hR0
  have hinX11 : ∀ w ∈ wsX110, w ∈ wsX11_run := fun _ h => List.mem_cons_of_mem _ (List.mem_append_left _ (List.mem_append_right _ h))
  have k1 := hts (.fieldLink RX11 33 "BoatsOfPaper" "theRuns" "LBoatsOfPaper$Runs;") (List.mem_of_getElem? (i := 1) rfl)
  have hl : lv_has ls 3 [(0, .ref x0), (1, zi xf), (2, zi xr)] := hl
  refine lv_iload_n hx hb dX11_run_0 rfl (lv_at hl 1 rfl) ?_
  refine z_iconst hx hb dX11_run_1 ?_
  refine z_bipush hx hb dX11_run_2 (by decide) ?_
  refine z_pS (As := [zi xf, zi 0, zi 99]) (rest := []) hC (c_X11_isWithin l D y xf 0 99 (by first | assumption | omega)) (va_cwS 3 hts gX11_run_X11_isWithin rfl rfl rfl (by decide +kernel) ⟨Nat.le_of_ble_eq_true rfl, Nat.le_of_ble_eq_true rfl⟩) hG va_P_nil rfl hl.1 rfl (Nat.le_of_ble_eq_true rfl) dX11_run_4 ⟨Nat.le_of_ble_eq_true rfl, Nat.le_of_ble_eq_true rfl⟩ ?_
  refine z_ifB_ne (tgt := 13) hx hb dX11_run_7 (by decide) (fun c_7 => ?_) (fun c_7 => ?_)
  ·
    refine lv_aload_n hx hb dX11_run_13 rfl (lv_at hl 0 rfl) ?_
    refine va_get hx hb hts hinX11 hown hK hPr 0 rfl rfl 3 (by decide) k1 (fun _ h => h) rfl dX11_run_14 ?_
    refine lv_iload_n hx hb dX11_run_17 rfl (lv_at hl 1 rfl) ?_
    refine lv_iload_n hx hb dX11_run_18 rfl (lv_at hl 2 rfl) ?_
    refine z_wV (As := [zi xf, zi xr]) (rest := []) (wc := [(r0, .inr (7, [.ref rl, .ref rr, zi rn, zi rk, zi ra])), (rl, .inl (y 0, 12, .inl (cI RF))), (rr, .inl (y 2, 12, .inl (cI RB)))]) (wrest := []) hC (c_X8_add l D y r0 rl rr rn rk ra RF RB xf xr (by first | assumption | omega) (by first | assumption | omega) _) (cwV 2 hts gX11_run_X8_add rfl rfl rfl (by decide +kernel) ⟨Nat.le_of_ble_eq_true rfl, Nat.le_of_ble_eq_true rfl⟩) hG hP hD hS hA [0, 1, 2] [] rfl rfl (by decide) (by decide) (by decide) va_P_nil ro_nil 0 rfl rfl rfl hl.1 rfl (Nat.le_of_ble_eq_true rfl) dX11_run_19 ⟨Nat.le_of_ble_eq_true rfl, Nat.le_of_ble_eq_true rfl⟩ (fun u9 H locs hw_1 hP hD hS => ?_)
    have hw_1 : True := hw_1
    have hP : va_P D vwCl [(r0, .inr (7, [.ref rl, .ref rr, zi (rn + 1), zi rk, zi ra])), (rl, .inl (y 0, 12, .inl (cI (iu RF rn xf)))), (rr, .inl (y 2, 12, .inl (cI (iu RB rn xr))))] H := hP
    have hD : va_D A [(r0, .inr (7, [.ref rl, .ref rr, zi (rn + 1), zi rk, zi ra])), (rl, .inl (y 0, 12, .inl (cI (iu RF rn xf)))), (rr, .inl (y 2, 12, .inl (cI (iu RB rn xr))))] := hD
    have hPr := ro_now hR0 hN hS
    exact z_iretW hx hb hr hlocks () (rfl) (trivial) (hP.sub [0, 1, 2] rfl) (hD.sub [0, 1, 2] (by decide) rfl) hS dX11_run_22
  · exfalso; omega
set_option maxHeartbeats 8000000 in
set_option maxRecDepth 100000 in
theorem c_X11_unrun (l : Launch) (D : va_G) (y : Nat → ClassId) (x0 : Nat) (t0 : Nat) (g0 : Nat) (f0 : Nat) (r0 : Nat) (sl0 : Nat) (n0 : Nat) (d0 : Nat) (w0 : Nat) (c0 : Nat) (rl : Nat) (rr : Nat) (rn : Int) (rk : Int) (ra : Int) (RF : Int → Int) (RB : Int → Int)  (sz : Nat) : Met l yX11_unrun wsX11_unrun ({ frames := 0, cells := 0, slots := 0, locals := 0 } : Room) (wPc D y [(x0, .inr (10, [.ref t0, .ref g0, .ref f0, .ref r0, .ref sl0, .ref n0, .ref d0, .ref w0, .ref c0]))] [(r0, .inr (7, [.ref rl, .ref rr, zi rn, zi rk, zi ra])), (rl, .inl (y 0, 12, .inl (cI RF))), (rr, .inl (y 2, 12, .inl (cI RB)))] sz [.ref x0]) (wQ D (fun (_ : Unit) => some (zi rn)) (fun (_ : Unit) => True) (fun (_ : Unit) => [(r0, .inr (7, [.ref rl, .ref rr, zi 0, zi rk, zi ra])), (rl, .inl (y 0, 12, .inl (cI RF))), (rr, .inl (y 2, 12, .inl (cI RB)))]) (va_A [(r0, .inr (7, [.ref rl, .ref rr, zi rn, zi rk, zi ra])), (rl, .inl (y 0, 12, .inl (cI RF))), (rr, .inl (y 2, 12, .inl (cI RB)))] sz)) 0 0 (va_A [(r0, .inr (7, [.ref rl, .ref rr, zi rn, zi rk, zi ra])), (rl, .inl (y 0, 12, .inl (cI RF))), (rr, .inl (y 2, 12, .inl (cI RB)))] sz) := by
  refine W_of (own := RX11) (cc := cX11_unrun) (maxL := 2) (ret := some .int) (by decide) rfl rfl (Nat.le_of_ble_eq_true rfl) (fun p e s m below meth c ls A hx hb hr hC hlocks hin0 hR0 hN hP hD hA hG hl => ?_)
  have hC0 := hC
  obtain ⟨-, -, hml, hown, hts⟩ := hC0
  have hK := hG.1
  have hS : va_S A s.heap s.heap [] := va_S.rf
  have hPr := hR0
  have hinX11 : ∀ w ∈ wsX110, w ∈ wsX11_unrun := fun _ h => List.mem_cons_of_mem _ (List.mem_append_left _ (List.mem_append_right _ h))
  have hinX8 : ∀ w ∈ wsX80, w ∈ wsX11_unrun := fun _ h => List.mem_cons_of_mem _ (List.mem_append_right _ h)
  have k1 := hts (.fieldLink RX11 33 "BoatsOfPaper" "theRuns" "LBoatsOfPaper$Runs;") (List.mem_of_getElem? (i := 1) rfl)
  have k2 := hts (.fieldLink RX11 281 "BoatsOfPaper$Runs" "size" "I") (List.mem_of_getElem? (i := 2) rfl)
  have hl : lv_has ls 2 [(0, .ref x0)] := hl
  refine lv_aload_n hx hb dX11_unrun_0 rfl (lv_at hl 0 rfl) ?_
  refine va_get hx hb hts hinX11 hown hK hPr 0 rfl rfl 3 (by decide) k1 (fun _ h => h) rfl dX11_unrun_1 ?_
  refine va_get hx hb hts hinX8 hown hK hP 0 rfl rfl 2 (by decide) k2 (fun _ h => h) rfl dX11_unrun_4 ?_
  refine lv_istore_n (lv' := [(1, zi rn), (0, .ref x0)]) hx hb dX11_unrun_7 rfl hl (by decide) rfl (fun ls hl => ?_)
  refine lv_aload_n hx hb dX11_unrun_8 rfl (lv_at hl 1 rfl) ?_
  refine va_get hx hb hts hinX11 hown hK hPr 0 rfl rfl 3 (by decide) k1 (fun _ h => h) rfl dX11_unrun_9 ?_
  refine z_iconst hx hb dX11_unrun_12 ?_
  refine va_put hx hb hts hinX8 tyX8 tyX8_ok nmX8 hown hK hP hD hS 0 rfl rfl 2 (by decide) k2 (fun _ h => h) rfl (tyX8_ok 2 (by decide)) rfl rfl (Nat.le_of_ble_eq_true rfl) dX11_unrun_13 (fun H locs hP hD hS => ?_)
  have hP : va_P D vwCl [(r0, .inr (7, [.ref rl, .ref rr, zi 0, zi rk, zi ra])), (rl, .inl (y 0, 12, .inl (cI RF))), (rr, .inl (y 2, 12, .inl (cI RB)))] H := hP
  have hD : va_D A [(r0, .inr (7, [.ref rl, .ref rr, zi 0, zi rk, zi ra])), (rl, .inl (y 0, 12, .inl (cI RF))), (rr, .inl (y 2, 12, .inl (cI RB)))] := hD
  have hPr := ro_now hR0 hN hS
  refine lv_iload_n hx hb dX11_unrun_16 rfl (lv_at hl 0 rfl) ?_
  exact z_iretW hx hb hr hlocks () (rfl) (trivial) (hP.sub [0, 1, 2] rfl) (hD.sub [0, 1, 2] (by decide) rfl) hS dX11_unrun_17
set_option maxHeartbeats 8000000 in
set_option maxRecDepth 100000 in
theorem c_X11_red (l : Launch) (D : va_G) (y : Nat → ClassId) (x0 : Nat) (t0 : Nat) (g0 : Nat) (f0 : Nat) (r0 : Nat) (sl0 : Nat) (n0 : Nat) (d0 : Nat) (w0 : Nat) (c0 : Nat) (rl : Nat) (rr : Nat) (rn : Int) (rk : Int) (ra : Int) (RF : Int → Int) (RB : Int → Int) (uq : Int) (hr0 : rOK rn RF RB) (huq : uq = 0 ∨ uq = 1) (sz : Nat) : Met l yX11_red wsX11_red ({ frames := 2, cells := 0, slots := 0, locals := 56 } : Room) (wPc D y [(x0, .inr (10, [.ref t0, .ref g0, .ref f0, .ref r0, .ref sl0, .ref n0, .ref d0, .ref w0, .ref c0]))] [(r0, .inr (7, [.ref rl, .ref rr, zi rn, zi rk, zi ra])), (rl, .inl (y 0, 12, .inl (cI RF))), (rr, .inl (y 2, 12, .inl (cI RB)))] sz [.ref x0, zi uq]) (wQ D (fun (x9 : Int × Int) => match x9 with | (rk2, ra2) => some (zl (tellV (luckV rn RF (popI (rset RB rn)) (sumF rn RF (rset RB rn))) (allV rn (popI (rset RB rn))) uq))) (fun (x9 : Int × Int) => match x9 with | (rk2, ra2) => True) (fun (x9 : Int × Int) => match x9 with | (rk2, ra2) => [(r0, .inr (7, [.ref rl, .ref rr, zi rn, zi rk2, zi ra2])), (rl, .inl (y 0, 12, .inl (cI RF))), (rr, .inl (y 2, 12, .inl (cI RB)))]) (va_A [(r0, .inr (7, [.ref rl, .ref rr, zi rn, zi rk, zi ra])), (rl, .inl (y 0, 12, .inl (cI RF))), (rr, .inl (y 2, 12, .inl (cI RB)))] sz)) 0 0 (va_A [(r0, .inr (7, [.ref rl, .ref rr, zi rn, zi rk, zi ra])), (rl, .inl (y 0, 12, .inl (cI RF))), (rr, .inl (y 2, 12, .inl (cI RB)))] sz) := by
  refine W_of (own := RX11) (cc := cX11_red) (maxL := 2) (ret := some .long) (by decide) rfl rfl (Nat.le_of_ble_eq_true rfl) (fun p e s m below meth c ls A hx hb hr hC hlocks hin0 hR0 hN hP hD hA hG hl => ?_)
  have hC0 := hC
  obtain ⟨-, -, hml, hown, hts⟩ := hC0
  have hK := hG.1
  have hS : va_S A s.heap s.heap [] := va_S.rf
  have hPr := hR0
  have hinX11 : ∀ w ∈ wsX110, w ∈ wsX11_red := fun _ h => List.mem_cons_of_mem _ (List.mem_append_left _ (List.mem_append_right _ h))
  have hinX8 : ∀ w ∈ wsX80, w ∈ wsX11_red := fun _ h => List.mem_cons_of_mem _ (List.mem_append_right _ h)
  have k1 := hts (.fieldLink RX11 33 "BoatsOfPaper" "theRuns" "LBoatsOfPaper$Runs;") (List.mem_of_getElem? (i := 1) rfl)
  have k2 := hts (.fieldLink RX11 285 "BoatsOfPaper$Runs" "luckyDeals" "I") (List.mem_of_getElem? (i := 2) rfl)
  have k3 := hts (.fieldLink RX11 288 "BoatsOfPaper$Runs" "allDeals" "I") (List.mem_of_getElem? (i := 3) rfl)
  have hl : lv_has ls 2 [(0, .ref x0), (1, zi uq)] := hl
  have qn := hr0.1
  have qr : ∀ k : Int, 0 ≤ k → k < rn → RB k = 0 ∨ RB k = 1 := fun k a b => (hr0.2 k a b).2
  have p1 := pow12 (n := rn) qn
  have p2 := all_pos qn qr
  have p3 := sgb_bd (fun t => popI t = popI (rset RB rn)) (n := 1 * 2 ^ rn.toNat) (by omega)
  have p4 := sgb_bd (fun t => popI t = popI (rset RB rn) ∧ (sumF rn RF (rset RB rn)) ≤ sumF rn RF t) (n := 1 * 2 ^ rn.toNat) (by omega)
  have p6 : allV rn (popI (rset RB rn)) = sgI (fun t => bI (popI t = popI (rset RB rn))) (1 * 2 ^ rn.toNat) := rfl
  have p7 : luckV rn RF (popI (rset RB rn)) (sumF rn RF (rset RB rn)) = sgI (fun t => bI (popI t = popI (rset RB rn) ∧ (sumF rn RF (rset RB rn)) ≤ sumF rn RF t)) (1 * 2 ^ rn.toNat) := rfl
  refine lv_aload_n hx hb dX11_red_0 rfl (lv_at hl 0 rfl) ?_
  refine va_get hx hb hts hinX11 hown hK hPr 0 rfl rfl 3 (by decide) k1 (fun _ h => h) rfl dX11_red_1 ?_
  refine z_wV (As := []) (rest := []) (wc := [(r0, .inr (7, [.ref rl, .ref rr, zi rn, zi rk, zi ra])), (rl, .inl (y 0, 12, .inl (cI RF))), (rr, .inl (y 2, 12, .inl (cI RB)))]) (wrest := []) hC (c_X8_dealAll l D y r0 rl rr rn rk ra RF RB (by first | assumption | omega) _) (cwV 0 hts gX11_red_X8_dealAll rfl rfl rfl (by decide +kernel) ⟨Nat.le_of_ble_eq_true rfl, Nat.le_of_ble_eq_true rfl⟩) hG hP hD hS hA [0, 1, 2] [] rfl rfl (by decide) (by decide) (by decide) va_P_nil ro_nil 0 rfl rfl rfl hl.1 rfl (Nat.le_of_ble_eq_true rfl) dX11_red_4 ⟨Nat.le_of_ble_eq_true rfl, Nat.le_of_ble_eq_true rfl⟩ (fun u9 H locs hw_1 hP hD hS => ?_)
  have hw_1 : True := hw_1
  have hP : va_P D vwCl [(r0, .inr (7, [.ref rl, .ref rr, zi rn, zi (luckV rn RF (popI (rset RB rn)) (sumF rn RF (rset RB rn))), zi (allV rn (popI (rset RB rn)))])), (rl, .inl (y 0, 12, .inl (cI RF))), (rr, .inl (y 2, 12, .inl (cI RB)))] H := hP
  have hD : va_D A [(r0, .inr (7, [.ref rl, .ref rr, zi rn, zi (luckV rn RF (popI (rset RB rn)) (sumF rn RF (rset RB rn))), zi (allV rn (popI (rset RB rn)))])), (rl, .inl (y 0, 12, .inl (cI RF))), (rr, .inl (y 2, 12, .inl (cI RB)))] := hD
  have hPr := ro_now hR0 hN hS
  refine lv_aload_n hx hb dX11_red_7 rfl (lv_at hl 0 rfl) ?_
  refine va_get hx hb hts hinX11 hown hK hPr 0 rfl rfl 3 (by decide) k1 (fun _ h => h) rfl dX11_red_8 ?_
  refine va_get hx hb hts hinX8 hown hK hP 0 rfl rfl 3 (by decide) k2 (fun _ h => h) rfl dX11_red_11 ?_
  refine z_i2l hx hb (by omega) dX11_red_14 ?_
  refine lv_aload_n hx hb dX11_red_15 rfl (lv_at hl 0 rfl) ?_
  refine va_get hx hb hts hinX11 hown hK hPr 0 rfl rfl 3 (by decide) k1 (fun _ h => h) rfl dX11_red_16 ?_
  refine va_get hx hb hts hinX8 hown hK hP 0 rfl rfl 4 (by decide) k3 (fun _ h => h) rfl dX11_red_19 ?_
  refine z_i2l hx hb (by omega) dX11_red_22 ?_
  refine lv_iload_n hx hb dX11_red_23 rfl (lv_at hl 1 rfl) ?_
  refine z_pS (As := [zl (luckV rn RF (popI (rset RB rn)) (sumF rn RF (rset RB rn))), zl (allV rn (popI (rset RB rn))), zi uq]) (rest := []) hC (c_X5_tell l D y (luckV rn RF (popI (rset RB rn)) (sumF rn RF (rset RB rn))) (allV rn (popI (rset RB rn))) uq (by first | assumption | omega) (by first | assumption | omega)) (va_cwS 3 hts gX11_red_X5_tell rfl rfl rfl (by decide +kernel) ⟨Nat.le_of_ble_eq_true rfl, Nat.le_of_ble_eq_true rfl⟩) hG va_P_nil rfl hl.1 rfl (Nat.le_of_ble_eq_true rfl) dX11_red_24 ⟨Nat.le_of_ble_eq_true rfl, Nat.le_of_ble_eq_true rfl⟩ ?_
  exact z_lretW hx hb hr hlocks (luckV rn RF (popI (rset RB rn)) (sumF rn RF (rset RB rn)), allV rn (popI (rset RB rn))) (rfl) (trivial) (hP.sub [0, 1, 2] rfl) (hD.sub [0, 1, 2] (by decide) rfl) hS dX11_red_27
