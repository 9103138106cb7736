set_option maxHeartbeats 8000000 in
set_option maxRecDepth 100000 in
theorem c_X12_secondsOf (l : Launch) (D : va_G) (y : Nat → ClassId) (kb : Int) (hq : 1 ≤ kb ∧ kb ≤ 12) : Met l yX12_secondsOf wsX12_secondsOf ({ frames := 0, cells := 0, slots := 0, locals := 0 } : Room) (pPc D y [] [zi kb]) (qV (zi (msV kb))) 0 0 (fun _ => False) := by
  refine P_of (own := RX12) (cc := cX12_secondsOf) (maxL := 1) (ret := some .int) (by decide) rfl rfl (Nat.le_of_ble_eq_true rfl) (fun p e s m below meth c ls hx hb hr hC hlocks hPr hG hl => ?_)
  have hC0 := hC
  obtain ⟨-, -, hml, hown, hts⟩ := hC0
  have hK := hG.1
  have k1 := hts (.constant RX12 150 (100000)) (List.mem_of_getElem? (i := 1) rfl)
  have hl : lv_has ls 1 [(0, zi kb)] := hl
  refine lv_iload_n hx hb dX12_secondsOf_0 rfl (lv_at hl 0 rfl) ?_
  refine z_bipush hx hb dX12_secondsOf_1 (by decide) ?_
  refine z_icmp_ge (tgt := 10) hx hb (by omega) (by omega) dX12_secondsOf_3 (by decide) (fun c_3 => ?_) (fun c_3 => ?_)
  ·
    refine lv_iload_n hx hb dX12_secondsOf_10 rfl (lv_at hl 0 rfl) ?_
    refine z_bipush hx hb dX12_secondsOf_11 (by decide) ?_
    refine z_icmp_ne (tgt := 20) hx hb (by omega) (by omega) dX12_secondsOf_13 (by decide) (fun c_13 => ?_) (fun c_13 => ?_)
    ·
      refine lv_iload_n hx hb dX12_secondsOf_20 rfl (lv_at hl 0 rfl) ?_
      refine z_bipush hx hb dX12_secondsOf_21 (by decide) ?_
      refine z_icmp_ne (tgt := 30) hx hb (by omega) (by omega) dX12_secondsOf_23 (by decide) (fun c_23 => ?_) (fun c_23 => ?_)
      ·
        refine lv_ldc (v := iI 100000) hx hb hown k1 dX12_secondsOf_30 ?_
        exact z_iret0 hx hb hr hlocks (by unfold msV secV; (repeat' split) <;> omega) dX12_secondsOf_32
      ·
        refine z_iconst hx hb dX12_secondsOf_26 ?_
        refine lv_goto (tgt := 32) hx hb dX12_secondsOf_27 (by decide) ?_
        exact z_iret0 hx hb hr hlocks (by unfold msV secV; (repeat' split) <;> omega) dX12_secondsOf_32
    ·
      refine z_iconst hx hb dX12_secondsOf_16 ?_
      refine lv_goto (tgt := 32) hx hb dX12_secondsOf_17 (by decide) ?_
      exact z_iret0 hx hb hr hlocks (by unfold msV secV; (repeat' split) <;> omega) dX12_secondsOf_32
  ·
    refine lv_iload_n hx hb dX12_secondsOf_6 rfl (lv_at hl 0 rfl) ?_
    refine lv_goto (tgt := 32) hx hb dX12_secondsOf_7 (by decide) ?_
    exact z_iret0 hx hb hr hlocks (by unfold msV secV; (repeat' split) <;> omega) dX12_secondsOf_32
set_option maxHeartbeats 8000000 in
set_option maxRecDepth 100000 in
theorem c_X12_crosses (l : Launch) (D : va_G) (y : Nat → ClassId) (m0 : Nat) (m_read : Nat) (rl : Int) (rp : Int) (m_gut : Nat) (gl : Int) (gp : Int) (gx : Int) (gy : Int) (m_text : Nat) (tn : Int) (fn : Int) (m_boat : Nat) (m_coins : Nat) (vw : Int) (vm : Int) (vn : Int) (m_rest : Nat) (m_ends : Nat) (vc : Int) (m_chan : Nat) (m_spl : Nat) (fs : Int) (rn : Int) (m_rf : Nat) (m_rr : Nat) (m_ik : Nat) (m_km : Nat) (m_kb : Nat) (m_kc : Nat) (m_kf : Nat) (m_kr : Nat) (kb : Int) (hq : 1 ≤ kb ∧ kb ≤ 12) : Met l yX12_crosses wsX12_crosses ({ frames := 0, cells := 0, slots := 0, locals := 0 } : Room) (pPc D y [(m0, .inr (11, [.ref m_read, zi rl, zi rp, .ref m_gut, zi gl, zi gp, zi gx, zi gy, .ref m_text, zi tn, zi fn, .ref m_boat, .ref m_coins, zi vw, zi vm, zi vn, .ref m_rest, .ref m_ends, zl vc, .ref m_chan, .ref m_spl, zi fs, zi rn, .ref m_rf, .ref m_rr, .ref m_ik, .ref m_km, .ref m_kb, .ref m_kc, .ref m_kf, .ref m_kr]))] [.ref m0, zi kb]) (qV (zi (acrV gx gy kb))) 0 0 (fun _ => False) := by
  refine P_of (own := RX12) (cc := cX12_crosses) (maxL := 2) (ret := some .int) (by decide) rfl rfl (Nat.le_of_ble_eq_true rfl) (fun p e s m below meth c ls hx hb hr hC hlocks hPr hG hl => ?_)
  have hC0 := hC
  obtain ⟨-, -, hml, hown, hts⟩ := hC0
  have hK := hG.1
  have hinX12 : ∀ w ∈ wsX120, w ∈ wsX12_crosses := fun _ h => List.mem_cons_of_mem _ (List.mem_append_right _ h)
  have k1 := hts (.fieldLink RX12 70 "BoatsOfPaperModel" "leaf" "I") (List.mem_of_getElem? (i := 1) rfl)
  have k2 := hts (.fieldLink RX12 73 "BoatsOfPaperModel" "drain" "I") (List.mem_of_getElem? (i := 2) rfl)
  have hl : lv_has ls 2 [(0, .ref m0), (1, zi kb)] := hl
  refine lv_iload_n hx hb dX12_crosses_0 rfl (lv_at hl 1 rfl) ?_
  refine z_bipush hx hb dX12_crosses_1 (by decide) ?_
  refine z_icmp_ge (tgt := 11) hx hb (by omega) (by omega) dX12_crosses_3 (by decide) (fun c_3 => ?_) (fun c_3 => ?_)
  ·
    refine lv_iload_n hx hb dX12_crosses_11 rfl (lv_at hl 1 rfl) ?_
    refine z_bipush hx hb dX12_crosses_12 (by decide) ?_
    refine z_icmp_ne (tgt := 27) hx hb (by omega) (by omega) dX12_crosses_14 (by decide) (fun c_14 => ?_) (fun c_14 => ?_)
    ·
      refine lv_iload_n hx hb dX12_crosses_27 rfl (lv_at hl 1 rfl) ?_
      refine z_bipush hx hb dX12_crosses_28 (by decide) ?_
      refine z_icmp_ne (tgt := 43) hx hb (by omega) (by omega) dX12_crosses_30 (by decide) (fun c_30 => ?_) (fun c_30 => ?_)
      ·
        refine z_iconst hx hb dX12_crosses_43 ?_
        exact z_iret0 hx hb hr hlocks (by unfold acrV; (repeat' split) <;> omega) dX12_crosses_44
      ·
        refine z_bipush hx hb dX12_crosses_33 (by decide) ?_
        refine lv_aload_n hx hb dX12_crosses_35 rfl (lv_at hl 0 rfl) ?_
        refine va_get hx hb hts hinX12 hown hK hPr 0 rfl rfl 7 (by decide) k2 (fun _ h => h) rfl dX12_crosses_36 ?_
        refine z_isub hx hb dX12_crosses_39 ?_
        refine lv_goto (tgt := 44) hx hb dX12_crosses_40 (by decide) ?_
        exact z_iret0 hx hb hr hlocks (by unfold acrV; (repeat' split) <;> omega) dX12_crosses_44
    ·
      refine z_bipush hx hb dX12_crosses_17 (by decide) ?_
      refine lv_aload_n hx hb dX12_crosses_19 rfl (lv_at hl 0 rfl) ?_
      refine va_get hx hb hts hinX12 hown hK hPr 0 rfl rfl 6 (by decide) k1 (fun _ h => h) rfl dX12_crosses_20 ?_
      refine z_isub hx hb dX12_crosses_23 ?_
      refine lv_goto (tgt := 44) hx hb dX12_crosses_24 (by decide) ?_
      exact z_iret0 hx hb hr hlocks (by unfold acrV; (repeat' split) <;> omega) dX12_crosses_44
  ·
    refine z_bipush hx hb dX12_crosses_6 (by decide) ?_
    refine lv_goto (tgt := 44) hx hb dX12_crosses_8 (by decide) ?_
    exact z_iret0 hx hb hr hlocks (by unfold acrV; (repeat' split) <;> omega) dX12_crosses_44
set_option maxHeartbeats 8000000 in
set_option maxRecDepth 100000 in
theorem c_X12_laneTime (l : Launch) (D : va_G) (y : Nat → ClassId) (m0 : Nat) (m_read : Nat) (rl : Int) (rp : Int) (m_gut : Nat) (gl : Int) (gp : Int) (gx : Int) (gy : Int) (m_text : Nat) (tn : Int) (fn : Int) (m_boat : Nat) (m_coins : Nat) (vw : Int) (vm : Int) (vn : Int) (m_rest : Nat) (m_ends : Nat) (vc : Int) (m_chan : Nat) (m_spl : Nat) (fs : Int) (rn : Int) (m_rf : Nat) (m_rr : Nat) (m_ik : Nat) (m_km : Nat) (m_kb : Nat) (m_kc : Nat) (m_kf : Nat) (m_kr : Nat) (MG : Int → Int) (la : Int) (hg : gOK gl gp gx gy MG) (hla : 0 ≤ la ∧ la < gl) : Met l yX12_laneTime wsX12_laneTime ({ frames := 1, cells := 0, slots := 0, locals := 20 } : Room) (pPc D y [(m0, .inr (11, [.ref m_read, zi rl, zi rp, .ref m_gut, zi gl, zi gp, zi gx, zi gy, .ref m_text, zi tn, zi fn, .ref m_boat, .ref m_coins, zi vw, zi vm, zi vn, .ref m_rest, .ref m_ends, zl vc, .ref m_chan, .ref m_spl, zi fs, zi rn, .ref m_rf, .ref m_rr, .ref m_ik, .ref m_km, .ref m_kb, .ref m_kc, .ref m_kf, .ref m_kr])), (m_gut, .inl (y 0, 36, .inl (cI MG)))] [.ref m0, zi la]) (qV (zi (mtV gl gp MG la))) 0 0 (fun _ => False) := by
  refine P_of (own := RX12) (cc := cX12_laneTime) (maxL := 4) (ret := some .int) (by decide) rfl rfl (Nat.le_of_ble_eq_true rfl) (fun p e s m below meth c ls hx hb hr hC hlocks hPr hG hl => ?_)
  have hC0 := hC
  obtain ⟨-, -, hml, hown, hts⟩ := hC0
  have hK := hG.1
  have hinX12 : ∀ w ∈ wsX120, w ∈ wsX12_laneTime := fun _ h => List.mem_cons_of_mem _ (List.mem_append_right _ h)
  have k1 := hts (.fieldLink RX12 67 "BoatsOfPaperModel" "places" "I") (List.mem_of_getElem? (i := 1) rfl)
  have k2 := hts (.fieldLink RX12 13 "BoatsOfPaperModel" "gutter" "[I") (List.mem_of_getElem? (i := 2) rfl)
  have hl : lv_has ls 4 [(0, .ref m0), (1, zi la)] := hl
  obtain ⟨u1, u2, u3, u4, uk⟩ := id hg
  refine z_iconst hx hb dX12_laneTime_0 ?_
  refine lv_istore_n (lv' := [(2, zi 0), (0, .ref m0), (1, zi la)]) hx hb dX12_laneTime_1 rfl hl (by decide) rfl (fun ls hl => ?_)
  refine z_iconst hx hb dX12_laneTime_2 ?_
  refine lv_istore_n (lv' := [(3, zi 0), (2, zi 0), (0, .ref m0), (1, zi la)]) hx hb dX12_laneTime_3 rfl hl (by decide) rfl (fun ls hl => ?_)
  refine z_loop (σ := Int × Int) (fun x9 H lc ls => match x9 with | (v, k) => ((0 ≤ k ∧ k ≤ gp) ∧ v = sgI (fun p => secV (kAt gl gp MG la p)) k + 100000 * sgI (fun p => bI (kAt gl gp MG la p = 12)) k) ∧ lv_has ls 4 [(3, zi k), (2, zi v), (0, .ref m0), (1, zi la)] ∧ H = s.heap ∧ lc = []) (fun x9  => match x9 with | (v, k) => ((gp - k).toNat)) ?_ (0, 0) ⟨⟨by omega, rfl⟩, lv_sub hl [0, 1, 2, 3] rfl, rfl, rfl⟩
  rintro ⟨v, k⟩ H lc ls ⟨hi4, hl, rfl, rfl⟩ ih4
  refine lv_iload_n hx hb dX12_laneTime_4 rfl (lv_at hl 0 rfl) ?_
  refine lv_aload_n hx hb dX12_laneTime_5 rfl (lv_at hl 2 rfl) ?_
  refine va_get hx hb hts hinX12 hown hK hPr 0 rfl rfl 5 (by decide) k1 (fun _ h => h) rfl dX12_laneTime_6 ?_
  refine z_icmp_ge (tgt := 35) hx hb (by omega) (by omega) dX12_laneTime_9 (by decide) (fun c_9 => ?_) (fun c_9 => ?_)
  ·
    refine lv_iload_n hx hb dX12_laneTime_35 rfl (lv_at hl 1 rfl) ?_
    exact z_iret0 hx hb hr hlocks (by rw [hi4.2, show k = gp by omega]; rfl) dX12_laneTime_36
  ·
    have ek := kAt_in (gl := gl) (gp := gp) (GK := MG) (la := la) (pl := k) (by omega)
    have ekb := kAt_bd hg (la) (k)
    have em := msV_eq (kAt gl gp MG la k)
    refine lv_iload_n hx hb dX12_laneTime_12 rfl (lv_at hl 1 rfl) ?_
    refine lv_aload_n hx hb dX12_laneTime_13 rfl (lv_at hl 2 rfl) ?_
    refine va_get hx hb hts hinX12 hown hK hPr 0 rfl rfl 3 (by decide) k2 (fun _ h => h) rfl dX12_laneTime_14 ?_
    refine z_bipush hx hb dX12_laneTime_17 (by decide) ?_
    refine lv_iload_n hx hb dX12_laneTime_19 rfl (lv_at hl 3 rfl) ?_
    refine z_imul hx hb dX12_laneTime_20 ?_
    refine lv_iload_n hx hb dX12_laneTime_21 rfl (lv_at hl 0 rfl) ?_
    refine z_iadd hx hb dX12_laneTime_22 ?_
    refine z_iald hx hb hK hPr 1 0 rfl rfl (by omega) (by decide) dX12_laneTime_23 ?_
    refine z_pS (As := [zi (MG ((12 * la) + k))]) (rest := [zi v]) hC (c_X12_secondsOf l D y (MG ((12 * la) + k)) (by first | assumption | omega)) (va_cwS 1 hts gX12_laneTime_X12_secondsOf rfl rfl rfl (by decide +kernel) ⟨Nat.le_of_ble_eq_true rfl, Nat.le_of_ble_eq_true rfl⟩) hG va_P_nil rfl hl.1 rfl (Nat.le_of_ble_eq_true rfl) dX12_laneTime_24 ⟨Nat.le_of_ble_eq_true rfl, Nat.le_of_ble_eq_true rfl⟩ ?_
    refine z_iadd hx hb dX12_laneTime_27 ?_
    refine lv_istore_n (lv' := [(2, zi (v + (msV (MG ((12 * la) + k))))), (3, zi k), (0, .ref m0), (1, zi la)]) hx hb dX12_laneTime_28 rfl hl (by decide) rfl (fun ls hl => ?_)
    refine z_iinc (k := 1) (lv' := [(3, zi (k + 1)), (2, zi (v + (msV (MG ((12 * la) + k))))), (0, .ref m0), (1, zi la)]) hx hb dX12_laneTime_29 hl rfl (by decide) rfl (fun ls hl => ?_)
    refine lv_goto (tgt := 4) hx hb dX12_laneTime_32 (by decide) ?_
    exact ih4 (v + (msV (MG ((12 * la) + k))), k + 1) _ _ _ (by first | (dsimp only; omega) | omega) ⟨⟨by omega, by rw [sgI_s _ hi4.1.1, sgI_s _ hi4.1.1, ← ek]; omega⟩, lv_sub hl [0, 1, 2, 3] rfl, rfl, rfl⟩
set_option maxHeartbeats 8000000 in
set_option maxRecDepth 100000 in
theorem c_X12_time_no (l : Launch) (D : va_G) (y : Nat → ClassId) (m0 : Nat) (m_read : Nat) (rl : Int) (rp : Int) (m_gut : Nat) (gl : Int) (gp : Int) (gx : Int) (gy : Int) (m_text : Nat) (tn : Int) (fn : Int) (m_boat : Nat) (m_coins : Nat) (vw : Int) (vm : Int) (vn : Int) (m_rest : Nat) (m_ends : Nat) (vc : Int) (m_chan : Nat) (m_spl : Nat) (fs : Int) (rn : Int) (m_rf : Nat) (m_rr : Nat) (m_ik : Nat) (m_km : Nat) (m_kb : Nat) (m_kc : Nat) (m_kf : Nat) (m_kr : Nat) (bq : Int) (la : Int) (hbq : rI bq ∧ 0 ≤ fn ∧ fn ≤ 6) (hla : rI la ∧ 1 ≤ gl ∧ gl ≤ 3) (hq : ¬ (0 ≤ bq ∧ bq < fn) ∨ ¬ (0 ≤ la ∧ la < gl)) : Met l yX12_time wsX12_time ({ frames := 2, cells := 0, slots := 0, locals := 46 } : Room) (pPc D y [(m0, .inr (11, [.ref m_read, zi rl, zi rp, .ref m_gut, zi gl, zi gp, zi gx, zi gy, .ref m_text, zi tn, zi fn, .ref m_boat, .ref m_coins, zi vw, zi vm, zi vn, .ref m_rest, .ref m_ends, zl vc, .ref m_chan, .ref m_spl, zi fs, zi rn, .ref m_rf, .ref m_rr, .ref m_ik, .ref m_km, .ref m_kb, .ref m_kc, .ref m_kf, .ref m_kr]))] [.ref m0, zi bq, zi la]) (qV (zi (-1))) 0 0 (fun _ => False) := by
  refine P_of (own := RX12) (cc := cX12_time) (maxL := 3) (ret := some .int) (by decide) rfl rfl (Nat.le_of_ble_eq_true rfl) (fun p e s m below meth c ls hx hb hr hC hlocks hPr hG hl => ?_)
  have hC0 := hC
  obtain ⟨-, -, hml, hown, hts⟩ := hC0
  have hK := hG.1
  have hl : lv_has ls 3 [(0, .ref m0), (1, zi bq), (2, zi la)] := hl
  refine lv_aload_n hx hb dX12_time_0 rfl (lv_at hl 0 rfl) ?_
  refine lv_iload_n hx hb dX12_time_1 rfl (lv_at hl 1 rfl) ?_
  refine z_pV (As := [zi bq]) (rest := []) hC (c_X12_isBoat l D y m0 m_read rl rp m_gut gl gp gx gy m_text tn fn m_boat m_coins vw vm vn m_rest m_ends vc m_chan m_spl fs rn m_rf m_rr m_ik m_km m_kb m_kc m_kf m_kr bq (by first | assumption | omega) (by first | assumption | omega)) (cwV 1 hts gX12_time_X12_isBoat rfl rfl rfl (by decide +kernel) ⟨Nat.le_of_ble_eq_true rfl, Nat.le_of_ble_eq_true rfl⟩) hG (hPr.sub (ws' := [(m0, .inr (11, [.ref m_read, zi rl, zi rp, .ref m_gut, zi gl, zi gp, zi gx, zi gy, .ref m_text, zi tn, zi fn, .ref m_boat, .ref m_coins, zi vw, zi vm, zi vn, .ref m_rest, .ref m_ends, zl vc, .ref m_chan, .ref m_spl, zi fs, zi rn, .ref m_rf, .ref m_rr, .ref m_ik, .ref m_km, .ref m_kb, .ref m_kc, .ref m_kf, .ref m_kr]))]) [0] rfl) 0 rfl rfl rfl hl.1 rfl (Nat.le_of_ble_eq_true rfl) dX12_time_2 ⟨Nat.le_of_ble_eq_true rfl, Nat.le_of_ble_eq_true rfl⟩ ?_
  refine z_ifB_eq (tgt := 16) hx hb dX12_time_5 (by decide) (fun c_5 => ?_) (fun c_5 => ?_)
  ·
    refine z_iconst hx hb dX12_time_16 ?_
    exact z_iret0 hx hb hr hlocks (rfl) dX12_time_17
  ·
    refine lv_aload_n hx hb dX12_time_8 rfl (lv_at hl 0 rfl) ?_
    refine lv_iload_n hx hb dX12_time_9 rfl (lv_at hl 2 rfl) ?_
    refine z_pV (As := [zi la]) (rest := []) hC (c_X12_isLane l D y m0 m_read rl rp m_gut gl gp gx gy m_text tn fn m_boat m_coins vw vm vn m_rest m_ends vc m_chan m_spl fs rn m_rf m_rr m_ik m_km m_kb m_kc m_kf m_kr la (by first | assumption | omega) (by first | assumption | omega)) (cwV 1 hts gX12_time_X12_isLane rfl rfl rfl (by decide +kernel) ⟨Nat.le_of_ble_eq_true rfl, Nat.le_of_ble_eq_true rfl⟩) hG (hPr.sub (ws' := [(m0, .inr (11, [.ref m_read, zi rl, zi rp, .ref m_gut, zi gl, zi gp, zi gx, zi gy, .ref m_text, zi tn, zi fn, .ref m_boat, .ref m_coins, zi vw, zi vm, zi vn, .ref m_rest, .ref m_ends, zl vc, .ref m_chan, .ref m_spl, zi fs, zi rn, .ref m_rf, .ref m_rr, .ref m_ik, .ref m_km, .ref m_kb, .ref m_kc, .ref m_kf, .ref m_kr]))]) [0] rfl) 0 rfl rfl rfl hl.1 rfl (Nat.le_of_ble_eq_true rfl) dX12_time_10 ⟨Nat.le_of_ble_eq_true rfl, Nat.le_of_ble_eq_true rfl⟩ ?_
    refine z_ifB_ne (tgt := 18) hx hb dX12_time_13 (by decide) (fun c_13 => ?_) (fun c_13 => ?_)
    · exfalso; omega
    ·
      refine z_iconst hx hb dX12_time_16 ?_
      exact z_iret0 hx hb hr hlocks (rfl) dX12_time_17
set_option maxHeartbeats 8000000 in
set_option maxRecDepth 100000 in
theorem c_X12_time (l : Launch) (D : va_G) (y : Nat → ClassId) (m0 : Nat) (m_read : Nat) (rl : Int) (rp : Int) (m_gut : Nat) (gl : Int) (gp : Int) (gx : Int) (gy : Int) (m_text : Nat) (tn : Int) (fn : Int) (m_boat : Nat) (m_coins : Nat) (vw : Int) (vm : Int) (vn : Int) (m_rest : Nat) (m_ends : Nat) (vc : Int) (m_chan : Nat) (m_spl : Nat) (fs : Int) (rn : Int) (m_rf : Nat) (m_rr : Nat) (m_ik : Nat) (m_km : Nat) (m_kb : Nat) (m_kc : Nat) (m_kf : Nat) (m_kr : Nat) (MG : Int → Int) (MB : Int → Int) (MC : Int → Int) (bq : Int) (la : Int) (hM : mbOK fn MB MC) (hbq : 0 ≤ bq ∧ bq < fn) (hg : gOK gl gp gx gy MG) (hla : 0 ≤ la ∧ la < gl) (sz : Nat) : Met l yX12_time wsX12_time ({ frames := 4, cells := 0, slots := 0, locals := 94 } : Room) (wPc D y [] [(m0, .inr (11, [.ref m_read, zi rl, zi rp, .ref m_gut, zi gl, zi gp, zi gx, zi gy, .ref m_text, zi tn, zi fn, .ref m_boat, .ref m_coins, zi vw, zi vm, zi vn, .ref m_rest, .ref m_ends, zl vc, .ref m_chan, .ref m_spl, zi fs, zi rn, .ref m_rf, .ref m_rr, .ref m_ik, .ref m_km, .ref m_kb, .ref m_kc, .ref m_kf, .ref m_kr])), (m_gut, .inl (y 0, 36, .inl (cI MG))), (m_boat, .inl (y 0, 42, .inl (cI MB))), (m_coins, .inl (y 0, 144, .inl (cI MC)))] sz [.ref m0, zi bq, zi la]) (wQ D (fun (x9 : Int × Int × Int) => match x9 with | (vw2, vm2, vn2) => some (zi (timeV gl gp MG la (lifeV (MB (7 * bq)) (MB (7 * bq + 1)) (MB (7 * bq + 2)) (MB (7 * bq + 3)) (MB (7 * bq + 4)) (MB (7 * bq + 5)) (MB (7 * bq + 6)) (mCI MC bq) (mCJ MC bq) (mCW MC bq))))) (fun (x9 : Int × Int × Int) => match x9 with | (vw2, vm2, vn2) => True) (fun (x9 : Int × Int × Int) => match x9 with | (vw2, vm2, vn2) => [(m0, .inr (11, [.ref m_read, zi rl, zi rp, .ref m_gut, zi gl, zi gp, zi gx, zi gy, .ref m_text, zi tn, zi fn, .ref m_boat, .ref m_coins, zi vw2, zi vm2, zi vn2, .ref m_rest, .ref m_ends, zl vc, .ref m_chan, .ref m_spl, zi fs, zi rn, .ref m_rf, .ref m_rr, .ref m_ik, .ref m_km, .ref m_kb, .ref m_kc, .ref m_kf, .ref m_kr])), (m_gut, .inl (y 0, 36, .inl (cI MG))), (m_boat, .inl (y 0, 42, .inl (cI MB))), (m_coins, .inl (y 0, 144, .inl (cI MC)))]) (va_A [(m0, .inr (11, [.ref m_read, zi rl, zi rp, .ref m_gut, zi gl, zi gp, zi gx, zi gy, .ref m_text, zi tn, zi fn, .ref m_boat, .ref m_coins, zi vw, zi vm, zi vn, .ref m_rest, .ref m_ends, zl vc, .ref m_chan, .ref m_spl, zi fs, zi rn, .ref m_rf, .ref m_rr, .ref m_ik, .ref m_km, .ref m_kb, .ref m_kc, .ref m_kf, .ref m_kr])), (m_gut, .inl (y 0, 36, .inl (cI MG))), (m_boat, .inl (y 0, 42, .inl (cI MB))), (m_coins, .inl (y 0, 144, .inl (cI MC)))] sz)) 0 0 (va_A [(m0, .inr (11, [.ref m_read, zi rl, zi rp, .ref m_gut, zi gl, zi gp, zi gx, zi gy, .ref m_text, zi tn, zi fn, .ref m_boat, .ref m_coins, zi vw, zi vm, zi vn, .ref m_rest, .ref m_ends, zl vc, .ref m_chan, .ref m_spl, zi fs, zi rn, .ref m_rf, .ref m_rr, .ref m_ik, .ref m_km, .ref m_kb, .ref m_kc, .ref m_kf, .ref m_kr])), (m_gut, .inl (y 0, 36, .inl (cI MG))), (m_boat, .inl (y 0, 42, .inl (cI MB))), (m_coins, .inl (y 0, 144, .inl (cI MC)))] sz) := by
  refine W_of (own := RX12) (cc := cX12_time) (maxL := 3) (ret := some .int) (by decide) rfl rfl (Nat.le_of_ble_eq_true rfl) (fun p e s m below meth c ls A hx hb hr hC hlocks hin0 hR0 hN hP hD hA hG hl => ?_)
  have hC0 := hC
  obtain ⟨-, -, hml, hown, hts⟩ := hC0
  have hK := hG.1
  have hS : va_S A s.heap s.heap [] := va_S.rf
  have hPr := hR0
  have hl : lv_has ls 3 [(0, .ref m0), (1, zi bq), (2, zi la)] := hl
  have hB := hM.2 bq hbq.1 hbq.2
  obtain ⟨q1, q2, q3, q4, q5, q6, q7, q8, q9, qc⟩ := id hB
  have qf := hM.1
  obtain ⟨u1, u2, u3, u4, uk⟩ := id hg
  have l1 := laneS_bd hg la (k := gp) (by omega) (by omega)
  have l2 : sgI (fun p => secV (kAt gl gp MG la p)) gp = laneS gl gp MG la := rfl
  have l3 := wallN_bd (gl := gl) (GK := MG) (la := la) (gp := gp) (by omega)
  have l4 : mtV gl gp MG la = laneS gl gp MG la + 100000 * wallN gl gp MG la := rfl
  have hl9 := lifeV_bd hB
  refine lv_aload_n hx hb dX12_time_0 rfl (lv_at hl 0 rfl) ?_
  refine lv_iload_n hx hb dX12_time_1 rfl (lv_at hl 1 rfl) ?_
  refine z_pV (As := [zi bq]) (rest := []) hC (c_X12_isBoat l D y m0 m_read rl rp m_gut gl gp gx gy m_text tn fn m_boat m_coins vw vm vn m_rest m_ends vc m_chan m_spl fs rn m_rf m_rr m_ik m_km m_kb m_kc m_kf m_kr bq (by first | assumption | omega) (by first | assumption | omega)) (cwV 1 hts gX12_time_X12_isBoat rfl rfl rfl (by decide +kernel) ⟨Nat.le_of_ble_eq_true rfl, Nat.le_of_ble_eq_true rfl⟩) hG (hP.sub (ws' := [(m0, .inr (11, [.ref m_read, zi rl, zi rp, .ref m_gut, zi gl, zi gp, zi gx, zi gy, .ref m_text, zi tn, zi fn, .ref m_boat, .ref m_coins, zi vw, zi vm, zi vn, .ref m_rest, .ref m_ends, zl vc, .ref m_chan, .ref m_spl, zi fs, zi rn, .ref m_rf, .ref m_rr, .ref m_ik, .ref m_km, .ref m_kb, .ref m_kc, .ref m_kf, .ref m_kr]))]) [0] rfl) 0 rfl rfl rfl hl.1 rfl (Nat.le_of_ble_eq_true rfl) dX12_time_2 ⟨Nat.le_of_ble_eq_true rfl, Nat.le_of_ble_eq_true rfl⟩ ?_
  refine z_ifB_eq (tgt := 16) hx hb dX12_time_5 (by decide) (fun c_5 => ?_) (fun c_5 => ?_)
  · exfalso; omega
  ·
    refine lv_aload_n hx hb dX12_time_8 rfl (lv_at hl 0 rfl) ?_
    refine lv_iload_n hx hb dX12_time_9 rfl (lv_at hl 2 rfl) ?_
    refine z_pV (As := [zi la]) (rest := []) hC (c_X12_isLane l D y m0 m_read rl rp m_gut gl gp gx gy m_text tn fn m_boat m_coins vw vm vn m_rest m_ends vc m_chan m_spl fs rn m_rf m_rr m_ik m_km m_kb m_kc m_kf m_kr la (by first | assumption | omega) (by first | assumption | omega)) (cwV 1 hts gX12_time_X12_isLane rfl rfl rfl (by decide +kernel) ⟨Nat.le_of_ble_eq_true rfl, Nat.le_of_ble_eq_true rfl⟩) hG (hP.sub (ws' := [(m0, .inr (11, [.ref m_read, zi rl, zi rp, .ref m_gut, zi gl, zi gp, zi gx, zi gy, .ref m_text, zi tn, zi fn, .ref m_boat, .ref m_coins, zi vw, zi vm, zi vn, .ref m_rest, .ref m_ends, zl vc, .ref m_chan, .ref m_spl, zi fs, zi rn, .ref m_rf, .ref m_rr, .ref m_ik, .ref m_km, .ref m_kb, .ref m_kc, .ref m_kf, .ref m_kr]))]) [0] rfl) 0 rfl rfl rfl hl.1 rfl (Nat.le_of_ble_eq_true rfl) dX12_time_10 ⟨Nat.le_of_ble_eq_true rfl, Nat.le_of_ble_eq_true rfl⟩ ?_
    refine z_ifB_ne (tgt := 18) hx hb dX12_time_13 (by decide) (fun c_13 => ?_) (fun c_13 => ?_)
    ·
      refine lv_aload_n hx hb dX12_time_18 rfl (lv_at hl 0 rfl) ?_
      refine lv_iload_n hx hb dX12_time_19 rfl (lv_at hl 2 rfl) ?_
      refine z_pV (As := [zi la]) (rest := []) hC (c_X12_laneTime l D y m0 m_read rl rp m_gut gl gp gx gy m_text tn fn m_boat m_coins vw vm vn m_rest m_ends vc m_chan m_spl fs rn m_rf m_rr m_ik m_km m_kb m_kc m_kf m_kr MG la (by first | assumption | omega) (by first | assumption | omega)) (cwV 1 hts gX12_time_X12_laneTime rfl rfl rfl (by decide +kernel) ⟨Nat.le_of_ble_eq_true rfl, Nat.le_of_ble_eq_true rfl⟩) hG (hP.sub (ws' := [(m0, .inr (11, [.ref m_read, zi rl, zi rp, .ref m_gut, zi gl, zi gp, zi gx, zi gy, .ref m_text, zi tn, zi fn, .ref m_boat, .ref m_coins, zi vw, zi vm, zi vn, .ref m_rest, .ref m_ends, zl vc, .ref m_chan, .ref m_spl, zi fs, zi rn, .ref m_rf, .ref m_rr, .ref m_ik, .ref m_km, .ref m_kb, .ref m_kc, .ref m_kf, .ref m_kr])), (m_gut, .inl (y 0, 36, .inl (cI MG)))]) [0, 1] rfl) 0 rfl rfl rfl hl.1 rfl (Nat.le_of_ble_eq_true rfl) dX12_time_20 ⟨Nat.le_of_ble_eq_true rfl, Nat.le_of_ble_eq_true rfl⟩ ?_
      refine lv_aload_n hx hb dX12_time_23 rfl (lv_at hl 0 rfl) ?_
      refine lv_iload_n hx hb dX12_time_24 rfl (lv_at hl 1 rfl) ?_
      refine z_wV (As := [zi bq]) (rest := [zi (mtV gl gp MG la)]) (wc := [(m0, .inr (11, [.ref m_read, zi rl, zi rp, .ref m_gut, zi gl, zi gp, zi gx, zi gy, .ref m_text, zi tn, zi fn, .ref m_boat, .ref m_coins, zi vw, zi vm, zi vn, .ref m_rest, .ref m_ends, zl vc, .ref m_chan, .ref m_spl, zi fs, zi rn, .ref m_rf, .ref m_rr, .ref m_ik, .ref m_km, .ref m_kb, .ref m_kc, .ref m_kf, .ref m_kr])), (m_boat, .inl (y 0, 42, .inl (cI MB))), (m_coins, .inl (y 0, 144, .inl (cI MC)))]) (wrest := [(m_gut, .inl (y 0, 36, .inl (cI MG)))]) hC (c_X12_lifeOf l D y m0 m_read rl rp m_gut gl gp gx gy m_text tn fn m_boat m_coins vw vm vn m_rest m_ends vc m_chan m_spl fs rn m_rf m_rr m_ik m_km m_kb m_kc m_kf m_kr MB MC bq (by first | assumption | omega) (by first | assumption | omega) _) (cwV 1 hts gX12_time_X12_lifeOf rfl rfl rfl (by decide +kernel) ⟨Nat.le_of_ble_eq_true rfl, Nat.le_of_ble_eq_true rfl⟩) hG hP hD hS hA [0, 2, 3] [1] rfl rfl (by decide) (by decide) (by decide) va_P_nil ro_nil 0 rfl rfl rfl hl.1 rfl (Nat.le_of_ble_eq_true rfl) dX12_time_25 ⟨Nat.le_of_ble_eq_true rfl, Nat.le_of_ble_eq_true rfl⟩ (fun u9 H locs hw_4 hP hD hS => ?_)
      obtain ⟨vw2_1, vm2_2, vn2_3⟩ := u9
      have hw_4 : True := hw_4
      have hP : va_P D vwCl [(m_gut, .inl (y 0, 36, .inl (cI MG))), (m0, .inr (11, [.ref m_read, zi rl, zi rp, .ref m_gut, zi gl, zi gp, zi gx, zi gy, .ref m_text, zi tn, zi fn, .ref m_boat, .ref m_coins, zi vw2_1, zi vm2_2, zi vn2_3, .ref m_rest, .ref m_ends, zl vc, .ref m_chan, .ref m_spl, zi fs, zi rn, .ref m_rf, .ref m_rr, .ref m_ik, .ref m_km, .ref m_kb, .ref m_kc, .ref m_kf, .ref m_kr])), (m_boat, .inl (y 0, 42, .inl (cI MB))), (m_coins, .inl (y 0, 144, .inl (cI MC)))] H := hP
      have hD : va_D A [(m_gut, .inl (y 0, 36, .inl (cI MG))), (m0, .inr (11, [.ref m_read, zi rl, zi rp, .ref m_gut, zi gl, zi gp, zi gx, zi gy, .ref m_text, zi tn, zi fn, .ref m_boat, .ref m_coins, zi vw2_1, zi vm2_2, zi vn2_3, .ref m_rest, .ref m_ends, zl vc, .ref m_chan, .ref m_spl, zi fs, zi rn, .ref m_rf, .ref m_rr, .ref m_ik, .ref m_km, .ref m_kb, .ref m_kc, .ref m_kf, .ref m_kr])), (m_boat, .inl (y 0, 42, .inl (cI MB))), (m_coins, .inl (y 0, 144, .inl (cI MC)))] := hD
      refine z_icmp_gt (tgt := 39) hx hb (by omega) (by omega) dX12_time_28 (by decide) (fun c_28 => ?_) (fun c_28 => ?_)
      ·
        refine z_bipush hx hb dX12_time_39 (by decide) ?_
        exact z_iretW hx hb hr hlocks (vw2_1, vm2_2, vn2_3) (by exact congrArg (fun z => some (zi z)) (by unfold timeV; (repeat' split) <;> omega)) (trivial) (hP.sub [1, 0, 2, 3] rfl) (hD.sub [1, 0, 2, 3] (by decide) rfl) hS dX12_time_41
      ·
        refine lv_aload_n hx hb dX12_time_31 rfl (lv_at hl 0 rfl) ?_
        refine lv_iload_n hx hb dX12_time_32 rfl (lv_at hl 2 rfl) ?_
        refine z_pV (As := [zi la]) (rest := []) hC (c_X12_laneTime l D y m0 m_read rl rp m_gut gl gp gx gy m_text tn fn m_boat m_coins vw2_1 vm2_2 vn2_3 m_rest m_ends vc m_chan m_spl fs rn m_rf m_rr m_ik m_km m_kb m_kc m_kf m_kr MG la (by first | assumption | omega) (by first | assumption | omega)) (cwV 1 hts gX12_time_X12_laneTime rfl rfl rfl (by decide +kernel) ⟨Nat.le_of_ble_eq_true rfl, Nat.le_of_ble_eq_true rfl⟩) hG (hP.sub (ws' := [(m0, .inr (11, [.ref m_read, zi rl, zi rp, .ref m_gut, zi gl, zi gp, zi gx, zi gy, .ref m_text, zi tn, zi fn, .ref m_boat, .ref m_coins, zi vw2_1, zi vm2_2, zi vn2_3, .ref m_rest, .ref m_ends, zl vc, .ref m_chan, .ref m_spl, zi fs, zi rn, .ref m_rf, .ref m_rr, .ref m_ik, .ref m_km, .ref m_kb, .ref m_kc, .ref m_kf, .ref m_kr])), (m_gut, .inl (y 0, 36, .inl (cI MG)))]) [1, 0] rfl) 0 rfl rfl rfl hl.1 rfl (Nat.le_of_ble_eq_true rfl) dX12_time_33 ⟨Nat.le_of_ble_eq_true rfl, Nat.le_of_ble_eq_true rfl⟩ ?_
        refine lv_goto (tgt := 41) hx hb dX12_time_36 (by decide) ?_
        exact z_iretW hx hb hr hlocks (vw2_1, vm2_2, vn2_3) (by exact congrArg (fun z => some (zi z)) (by unfold timeV; (repeat' split) <;> omega)) (trivial) (hP.sub [1, 0, 2, 3] rfl) (hD.sub [1, 0, 2, 3] (by decide) rfl) hS dX12_time_41
    · exfalso; omega
set_option maxHeartbeats 8000000 in
set_option maxRecDepth 100000 in
theorem c_X12_whole (l : Launch) (D : va_G) (y : Nat → ClassId) (m0 : Nat) (m_read : Nat) (rl : Int) (rp : Int) (m_gut : Nat) (gl : Int) (gp : Int) (gx : Int) (gy : Int) (m_text : Nat) (tn : Int) (fn : Int) (m_boat : Nat) (m_coins : Nat) (vw : Int) (vm : Int) (vn : Int) (m_rest : Nat) (m_ends : Nat) (vc : Int) (m_chan : Nat) (m_spl : Nat) (fs : Int) (rn : Int) (m_rf : Nat) (m_rr : Nat) (m_ik : Nat) (m_km : Nat) (m_kb : Nat) (m_kc : Nat) (m_kf : Nat) (m_kr : Nat) (hq : 0 ≤ gp ∧ gp ≤ 12) : Met l yX12_whole wsX12_whole ({ frames := 0, cells := 0, slots := 0, locals := 0 } : Room) (pPc D y [(m0, .inr (11, [.ref m_read, zi rl, zi rp, .ref m_gut, zi gl, zi gp, zi gx, zi gy, .ref m_text, zi tn, zi fn, .ref m_boat, .ref m_coins, zi vw, zi vm, zi vn, .ref m_rest, .ref m_ends, zl vc, .ref m_chan, .ref m_spl, zi fs, zi rn, .ref m_rf, .ref m_rr, .ref m_ik, .ref m_km, .ref m_kb, .ref m_kc, .ref m_kf, .ref m_kr]))] [.ref m0]) (qV (zl (10 ^ gp.toNat))) 0 0 (fun _ => False) := by
  refine P_of (own := RX12) (cc := cX12_whole) (maxL := 4) (ret := some .long) (by decide) rfl rfl (Nat.le_of_ble_eq_true rfl) (fun p e s m below meth c ls hx hb hr hC hlocks hPr hG hl => ?_)
  have hC0 := hC
  obtain ⟨-, -, hml, hown, hts⟩ := hC0
  have hK := hG.1
  have hinX12 : ∀ w ∈ wsX120, w ∈ wsX12_whole := fun _ h => List.mem_cons_of_mem _ (List.mem_append_right _ h)
  have k1 := hts (.fieldLink RX12 67 "BoatsOfPaperModel" "places" "I") (List.mem_of_getElem? (i := 1) rfl)
  have k2 := hts (.constantLong RX12 193 (10)) (List.mem_of_getElem? (i := 2) rfl)
  have hl : lv_has ls 4 [(0, .ref m0)] := hl
  refine lv_lconst (v := iL 1) hx hb dX12_whole_0 rfl ?_
  refine lv_lstore_n (lv' := [(1, zl 1), (0, .ref m0)]) hx hb dX12_whole_1 rfl hl (by decide) rfl (fun ls hl => ?_)
  refine z_iconst hx hb dX12_whole_2 ?_
  refine lv_istore_n (lv' := [(3, zi 0), (1, zl 1), (0, .ref m0)]) hx hb dX12_whole_3 rfl hl (by decide) rfl (fun ls hl => ?_)
  refine z_loop (σ := Int × Int) (fun x9 H lc ls => match x9 with | (v, k) => (0 ≤ k ∧ k ≤ gp ∧ v = 10 ^ k.toNat) ∧ lv_has ls 4 [(3, zi k), (1, zl v), (0, .ref m0)] ∧ H = s.heap ∧ lc = []) (fun x9  => match x9 with | (v, k) => ((gp - k).toNat)) ?_ (1, 0) ⟨⟨by omega, by omega, rfl⟩, lv_sub hl [0, 1, 2] rfl, rfl, rfl⟩
  rintro ⟨v, k⟩ H lc ls ⟨hi4, hl, rfl, rfl⟩ ih4
  refine lv_iload_n hx hb dX12_whole_4 rfl (lv_at hl 0 rfl) ?_
  refine lv_aload_n hx hb dX12_whole_5 rfl (lv_at hl 2 rfl) ?_
  refine va_get hx hb hts hinX12 hown hK hPr 0 rfl rfl 5 (by decide) k1 (fun _ h => h) rfl dX12_whole_6 ?_
  refine z_icmp_ge (tgt := 24) hx hb (by omega) (by omega) dX12_whole_9 (by decide) (fun c_9 => ?_) (fun c_9 => ?_)
  ·
    refine lv_lload_n hx hb dX12_whole_24 rfl (lv_at hl 1 rfl) ?_
    exact z_lret0 hx hb hr hlocks (by rw [hi4.2.2, show k = gp by omega]) dX12_whole_25
  ·
    refine lv_lload_n hx hb dX12_whole_12 rfl (lv_at hl 1 rfl) ?_
    refine lv_ldc2 (v := iL 10) hx hb hown k2 dX12_whole_13 ?_
    refine z_lmul hx hb dX12_whole_16 ?_
    refine lv_lstore_n (lv' := [(1, zl (v * 10)), (3, zi k), (0, .ref m0)]) hx hb dX12_whole_17 rfl hl (by decide) rfl (fun ls hl => ?_)
    refine z_iinc (k := 1) (lv' := [(3, zi (k + 1)), (1, zl (v * 10)), (0, .ref m0)]) hx hb dX12_whole_18 hl rfl (by decide) rfl (fun ls hl => ?_)
    refine lv_goto (tgt := 4) hx hb dX12_whole_21 (by decide) ?_
    exact ih4 (v * 10, k + 1) _ _ _ (by first | (dsimp only; omega) | omega) ⟨⟨by omega, by omega, by rw [show (k + 1).toNat = k.toNat + 1 by omega, Int.pow_succ, hi4.2.2]⟩, lv_sub hl [0, 1, 2] rfl, rfl, rfl⟩
set_option maxHeartbeats 8000000 in
set_option maxRecDepth 100000 in
theorem c_X12_layDrift (l : Launch) (D : va_G) (y : Nat → ClassId) (m0 : Nat) (m_read : Nat) (rl : Int) (rp : Int) (m_gut : Nat) (gl : Int) (gp : Int) (gx : Int) (gy : Int) (m_text : Nat) (tn : Int) (fn : Int) (m_boat : Nat) (m_coins : Nat) (vw : Int) (vm : Int) (vn : Int) (m_rest : Nat) (m_ends : Nat) (vc : Int) (m_chan : Nat) (m_spl : Nat) (fs : Int) (rn : Int) (m_rf : Nat) (m_rr : Nat) (m_ik : Nat) (m_km : Nat) (m_kb : Nat) (m_kc : Nat) (m_kf : Nat) (m_kr : Nat) (MG : Int → Int) (MB : Int → Int) (MC : Int → Int) (ME : Int → Int) (bq : Int) (la : Int) (hM : mbOK fn MB MC) (hbq : 0 ≤ bq ∧ bq < fn) (hg : gOK gl gp gx gy MG) (hla : 0 ≤ la ∧ la < gl) (sz : Nat) : Met l yX12_layDrift wsX12_layDrift ({ frames := 4, cells := 0, slots := 0, locals := 94 } : Room) (wPc D y [] [(m0, .inr (11, [.ref m_read, zi rl, zi rp, .ref m_gut, zi gl, zi gp, zi gx, zi gy, .ref m_text, zi tn, zi fn, .ref m_boat, .ref m_coins, zi vw, zi vm, zi vn, .ref m_rest, .ref m_ends, zl vc, .ref m_chan, .ref m_spl, zi fs, zi rn, .ref m_rf, .ref m_rr, .ref m_ik, .ref m_km, .ref m_kb, .ref m_kc, .ref m_kf, .ref m_kr])), (m_gut, .inl (y 0, 36, .inl (cI MG))), (m_boat, .inl (y 0, 42, .inl (cI MB))), (m_coins, .inl (y 0, 144, .inl (cI MC))), (m_ends, .inl (y 1, 12, .inr (.inl (cL ME))))] sz [.ref m0, zi bq, zi la]) (wQ D (fun (x9 : Int × Int × Int × Int × (Int → Int)) => match x9 with | (vw2, vm2, vn2, vc2, ME2) => none) (fun (x9 : Int × Int × Int × Int × (Int → Int)) => match x9 with | (vw2, vm2, vn2, vc2, ME2) => vc2 = crF (acx gl gp gx gy MG la (lifeV (MB (7 * bq)) (MB (7 * bq + 1)) (MB (7 * bq + 2)) (MB (7 * bq + 3)) (MB (7 * bq + 4)) (MB (7 * bq + 5)) (MB (7 * bq + 6)) (mCI MC bq) (mCJ MC bq) (mCW MC bq))) gp.toNat ∧ ∀ j : Int, 0 ≤ j → j < gp → ME2 j = enF (acx gl gp gx gy MG la (lifeV (MB (7 * bq)) (MB (7 * bq + 1)) (MB (7 * bq + 2)) (MB (7 * bq + 3)) (MB (7 * bq + 4)) (MB (7 * bq + 5)) (MB (7 * bq + 6)) (mCI MC bq) (mCJ MC bq) (mCW MC bq))) j * 10 ^ (gp - (j + 1)).toNat) (fun (x9 : Int × Int × Int × Int × (Int → Int)) => match x9 with | (vw2, vm2, vn2, vc2, ME2) => [(m0, .inr (11, [.ref m_read, zi rl, zi rp, .ref m_gut, zi gl, zi gp, zi gx, zi gy, .ref m_text, zi tn, zi fn, .ref m_boat, .ref m_coins, zi vw2, zi vm2, zi vn2, .ref m_rest, .ref m_ends, zl vc2, .ref m_chan, .ref m_spl, zi fs, zi rn, .ref m_rf, .ref m_rr, .ref m_ik, .ref m_km, .ref m_kb, .ref m_kc, .ref m_kf, .ref m_kr])), (m_gut, .inl (y 0, 36, .inl (cI MG))), (m_boat, .inl (y 0, 42, .inl (cI MB))), (m_coins, .inl (y 0, 144, .inl (cI MC))), (m_ends, .inl (y 1, 12, .inr (.inl (cL ME2))))]) (va_A [(m0, .inr (11, [.ref m_read, zi rl, zi rp, .ref m_gut, zi gl, zi gp, zi gx, zi gy, .ref m_text, zi tn, zi fn, .ref m_boat, .ref m_coins, zi vw, zi vm, zi vn, .ref m_rest, .ref m_ends, zl vc, .ref m_chan, .ref m_spl, zi fs, zi rn, .ref m_rf, .ref m_rr, .ref m_ik, .ref m_km, .ref m_kb, .ref m_kc, .ref m_kf, .ref m_kr])), (m_gut, .inl (y 0, 36, .inl (cI MG))), (m_boat, .inl (y 0, 42, .inl (cI MB))), (m_coins, .inl (y 0, 144, .inl (cI MC))), (m_ends, .inl (y 1, 12, .inr (.inl (cL ME))))] sz)) 0 0 (va_A [(m0, .inr (11, [.ref m_read, zi rl, zi rp, .ref m_gut, zi gl, zi gp, zi gx, zi gy, .ref m_text, zi tn, zi fn, .ref m_boat, .ref m_coins, zi vw, zi vm, zi vn, .ref m_rest, .ref m_ends, zl vc, .ref m_chan, .ref m_spl, zi fs, zi rn, .ref m_rf, .ref m_rr, .ref m_ik, .ref m_km, .ref m_kb, .ref m_kc, .ref m_kf, .ref m_kr])), (m_gut, .inl (y 0, 36, .inl (cI MG))), (m_boat, .inl (y 0, 42, .inl (cI MB))), (m_coins, .inl (y 0, 144, .inl (cI MC))), (m_ends, .inl (y 1, 12, .inr (.inl (cL ME))))] sz) := by
  refine W_of (own := RX12) (cc := cX12_layDrift) (maxL := 11) (ret := none) (by decide) rfl rfl (Nat.le_of_ble_eq_true rfl) (fun p e s m below meth c ls A hx hb hr hC hlocks hin0 hR0 hN hP hD hA hG hl => ?_)
  have hC0 := hC
  obtain ⟨-, -, hml, hown, hts⟩ := hC0
  have hK := hG.1
  have hS : va_S A s.heap s.heap [] := va_S.rf
  have hPr := hR0
  have hinX12 : ∀ w ∈ wsX120, w ∈ wsX12_layDrift := fun _ h => List.mem_cons_of_mem _ (List.mem_append_right _ h)
  have k1 := hts (.fieldLink RX12 199 "BoatsOfPaperModel" "crossings" "J") (List.mem_of_getElem? (i := 1) rfl)
  have k2 := hts (.fieldLink RX12 67 "BoatsOfPaperModel" "places" "I") (List.mem_of_getElem? (i := 2) rfl)
  have k3 := hts (.fieldLink RX12 13 "BoatsOfPaperModel" "gutter" "[I") (List.mem_of_getElem? (i := 3) rfl)
  have k4 := hts (.constantLong RX12 193 (10)) (List.mem_of_getElem? (i := 4) rfl)
  have k5 := hts (.fieldLink RX12 28 "BoatsOfPaperModel" "ends" "[J") (List.mem_of_getElem? (i := 5) rfl)
  have hl : lv_has ls 11 [(0, .ref m0), (1, zi bq), (2, zi la)] := hl
  have hB := hM.2 bq hbq.1 hbq.2
  obtain ⟨q1, q2, q3, q4, q5, q6, q7, q8, q9, qc⟩ := id hB
  have qf := hM.1
  obtain ⟨u1, u2, u3, u4, uk⟩ := id hg
  have hl9 := lifeV_bd hB
  have ha := acx_bd hg la (lifeV (MB (7 * bq)) (MB (7 * bq + 1)) (MB (7 * bq + 2)) (MB (7 * bq + 3)) (MB (7 * bq + 4)) (MB (7 * bq + 5)) (MB (7 * bq + 6)) (mCI MC bq) (mCJ MC bq) (mCW MC bq))
  refine lv_aload_n hx hb dX12_layDrift_0 rfl (lv_at hl 0 rfl) ?_
  refine z_pV (As := []) (rest := []) hC (c_X12_whole l D y m0 m_read rl rp m_gut gl gp gx gy m_text tn fn m_boat m_coins vw vm vn m_rest m_ends vc m_chan m_spl fs rn m_rf m_rr m_ik m_km m_kb m_kc m_kf m_kr (by first | assumption | omega)) (cwV 0 hts gX12_layDrift_X12_whole rfl rfl rfl (by decide +kernel) ⟨Nat.le_of_ble_eq_true rfl, Nat.le_of_ble_eq_true rfl⟩) hG (hP.sub (ws' := [(m0, .inr (11, [.ref m_read, zi rl, zi rp, .ref m_gut, zi gl, zi gp, zi gx, zi gy, .ref m_text, zi tn, zi fn, .ref m_boat, .ref m_coins, zi vw, zi vm, zi vn, .ref m_rest, .ref m_ends, zl vc, .ref m_chan, .ref m_spl, zi fs, zi rn, .ref m_rf, .ref m_rr, .ref m_ik, .ref m_km, .ref m_kb, .ref m_kc, .ref m_kf, .ref m_kr]))]) [0] rfl) 0 rfl rfl rfl hl.1 rfl (Nat.le_of_ble_eq_true rfl) dX12_layDrift_1 ⟨Nat.le_of_ble_eq_true rfl, Nat.le_of_ble_eq_true rfl⟩ ?_
  refine lv_lstore_n (lv' := [(3, zl (10 ^ gp.toNat)), (0, .ref m0), (1, zi bq), (2, zi la)]) hx hb dX12_layDrift_4 rfl hl (by decide) rfl (fun ls hl => ?_)
  refine lv_aload_n hx hb dX12_layDrift_5 rfl (lv_at hl 1 rfl) ?_
  refine lv_iload_n hx hb dX12_layDrift_6 rfl (lv_at hl 2 rfl) ?_
  refine z_wV (As := [zi bq]) (rest := []) (wc := [(m0, .inr (11, [.ref m_read, zi rl, zi rp, .ref m_gut, zi gl, zi gp, zi gx, zi gy, .ref m_text, zi tn, zi fn, .ref m_boat, .ref m_coins, zi vw, zi vm, zi vn, .ref m_rest, .ref m_ends, zl vc, .ref m_chan, .ref m_spl, zi fs, zi rn, .ref m_rf, .ref m_rr, .ref m_ik, .ref m_km, .ref m_kb, .ref m_kc, .ref m_kf, .ref m_kr])), (m_boat, .inl (y 0, 42, .inl (cI MB))), (m_coins, .inl (y 0, 144, .inl (cI MC)))]) (wrest := [(m_gut, .inl (y 0, 36, .inl (cI MG))), (m_ends, .inl (y 1, 12, .inr (.inl (cL ME))))]) hC (c_X12_lifeOf l D y m0 m_read rl rp m_gut gl gp gx gy m_text tn fn m_boat m_coins vw vm vn m_rest m_ends vc m_chan m_spl fs rn m_rf m_rr m_ik m_km m_kb m_kc m_kf m_kr MB MC bq (by first | assumption | omega) (by first | assumption | omega) _) (cwV 1 hts gX12_layDrift_X12_lifeOf rfl rfl rfl (by decide +kernel) ⟨Nat.le_of_ble_eq_true rfl, Nat.le_of_ble_eq_true rfl⟩) hG hP hD hS hA [0, 2, 3] [1, 4] rfl rfl (by decide) (by decide) (by decide) va_P_nil ro_nil 0 rfl rfl rfl hl.1 rfl (Nat.le_of_ble_eq_true rfl) dX12_layDrift_7 ⟨Nat.le_of_ble_eq_true rfl, Nat.le_of_ble_eq_true rfl⟩ (fun u9 H locs hw_4 hP hD hS => ?_)
  obtain ⟨vw2, vm2, vn2⟩ := u9
  have hw_4 : True := hw_4
  have hP : va_P D vwCl [(m_gut, .inl (y 0, 36, .inl (cI MG))), (m_ends, .inl (y 1, 12, .inr (.inl (cL ME)))), (m0, .inr (11, [.ref m_read, zi rl, zi rp, .ref m_gut, zi gl, zi gp, zi gx, zi gy, .ref m_text, zi tn, zi fn, .ref m_boat, .ref m_coins, zi vw2, zi vm2, zi vn2, .ref m_rest, .ref m_ends, zl vc, .ref m_chan, .ref m_spl, zi fs, zi rn, .ref m_rf, .ref m_rr, .ref m_ik, .ref m_km, .ref m_kb, .ref m_kc, .ref m_kf, .ref m_kr])), (m_boat, .inl (y 0, 42, .inl (cI MB))), (m_coins, .inl (y 0, 144, .inl (cI MC)))] H := hP
  have hD : va_D A [(m_gut, .inl (y 0, 36, .inl (cI MG))), (m_ends, .inl (y 1, 12, .inr (.inl (cL ME)))), (m0, .inr (11, [.ref m_read, zi rl, zi rp, .ref m_gut, zi gl, zi gp, zi gx, zi gy, .ref m_text, zi tn, zi fn, .ref m_boat, .ref m_coins, zi vw2, zi vm2, zi vn2, .ref m_rest, .ref m_ends, zl vc, .ref m_chan, .ref m_spl, zi fs, zi rn, .ref m_rf, .ref m_rr, .ref m_ik, .ref m_km, .ref m_kb, .ref m_kc, .ref m_kf, .ref m_kr])), (m_boat, .inl (y 0, 42, .inl (cI MB))), (m_coins, .inl (y 0, 144, .inl (cI MC)))] := hD
  refine lv_istore (lv' := [(5, zi (lifeV (MB (7 * bq)) (MB (7 * bq + 1)) (MB (7 * bq + 2)) (MB (7 * bq + 3)) (MB (7 * bq + 4)) (MB (7 * bq + 5)) (MB (7 * bq + 6)) (mCI MC bq) (mCJ MC bq) (mCW MC bq))), (3, zl (10 ^ gp.toNat)), (0, .ref m0), (1, zi bq), (2, zi la)]) hx hb dX12_layDrift_10 hl (by decide) rfl (fun ls hl => ?_)
  refine z_iconst hx hb dX12_layDrift_12 ?_
  refine lv_istore (lv' := [(6, zi 0), (5, zi (lifeV (MB (7 * bq)) (MB (7 * bq + 1)) (MB (7 * bq + 2)) (MB (7 * bq + 3)) (MB (7 * bq + 4)) (MB (7 * bq + 5)) (MB (7 * bq + 6)) (mCI MC bq) (mCJ MC bq) (mCW MC bq))), (3, zl (10 ^ gp.toNat)), (0, .ref m0), (1, zi bq), (2, zi la)]) hx hb dX12_layDrift_13 hl (by decide) rfl (fun ls hl => ?_)
  refine lv_aload_n hx hb dX12_layDrift_15 rfl (lv_at hl 3 rfl) ?_
  refine lv_lconst (v := iL 0) hx hb dX12_layDrift_16 rfl ?_
  refine va_put hx hb hts hinX12 tyX12 tyX12_ok nmX12 hown hK hP hD hS 2 rfl rfl 18 (by decide) k1 (fun _ h => h) rfl (tyX12_ok 18 (by decide)) rfl rfl (Nat.le_of_ble_eq_true rfl) dX12_layDrift_17 (fun H locs hP hD hS => ?_)
  have hP : va_P D vwCl [(m_gut, .inl (y 0, 36, .inl (cI MG))), (m_ends, .inl (y 1, 12, .inr (.inl (cL ME)))), (m0, .inr (11, [.ref m_read, zi rl, zi rp, .ref m_gut, zi gl, zi gp, zi gx, zi gy, .ref m_text, zi tn, zi fn, .ref m_boat, .ref m_coins, zi vw2, zi vm2, zi vn2, .ref m_rest, .ref m_ends, zl 0, .ref m_chan, .ref m_spl, zi fs, zi rn, .ref m_rf, .ref m_rr, .ref m_ik, .ref m_km, .ref m_kb, .ref m_kc, .ref m_kf, .ref m_kr])), (m_boat, .inl (y 0, 42, .inl (cI MB))), (m_coins, .inl (y 0, 144, .inl (cI MC)))] H := hP
  have hD : va_D A [(m_gut, .inl (y 0, 36, .inl (cI MG))), (m_ends, .inl (y 1, 12, .inr (.inl (cL ME)))), (m0, .inr (11, [.ref m_read, zi rl, zi rp, .ref m_gut, zi gl, zi gp, zi gx, zi gy, .ref m_text, zi tn, zi fn, .ref m_boat, .ref m_coins, zi vw2, zi vm2, zi vn2, .ref m_rest, .ref m_ends, zl 0, .ref m_chan, .ref m_spl, zi fs, zi rn, .ref m_rf, .ref m_rr, .ref m_ik, .ref m_km, .ref m_kb, .ref m_kc, .ref m_kf, .ref m_kr])), (m_boat, .inl (y 0, 42, .inl (cI MB))), (m_coins, .inl (y 0, 144, .inl (cI MC)))] := hD
  refine z_iconst hx hb dX12_layDrift_20 ?_
  refine lv_istore (lv' := [(7, zi 0), (6, zi 0), (5, zi (lifeV (MB (7 * bq)) (MB (7 * bq + 1)) (MB (7 * bq + 2)) (MB (7 * bq + 3)) (MB (7 * bq + 4)) (MB (7 * bq + 5)) (MB (7 * bq + 6)) (mCI MC bq) (mCJ MC bq) (mCW MC bq))), (3, zl (10 ^ gp.toNat)), (0, .ref m0), (1, zi bq), (2, zi la)]) hx hb dX12_layDrift_21 hl (by decide) rfl (fun ls hl => ?_)
  refine z_loop (σ := Int × Int × Int × Int × (Int → Int)) (fun x9 H lc ls => match x9 with | (cm, sv, k, cr, E) => ((0 ≤ k ∧ k ≤ gp) ∧ cm = cmF (acx gl gp gx gy MG la (lifeV (MB (7 * bq)) (MB (7 * bq + 1)) (MB (7 * bq + 2)) (MB (7 * bq + 3)) (MB (7 * bq + 4)) (MB (7 * bq + 5)) (MB (7 * bq + 6)) (mCI MC bq) (mCJ MC bq) (mCW MC bq))) k.toNat * 10 ^ (gp - k).toNat ∧ (sv = sgI (fun p => secV (kAt gl gp MG la p)) k + 100000 * sgI (fun p => bI (kAt gl gp MG la p = 12)) k) ∧ (0 < sgI (fun p => bI (kAt gl gp MG la p = 12)) k → cmF (acx gl gp gx gy MG la (lifeV (MB (7 * bq)) (MB (7 * bq + 1)) (MB (7 * bq + 2)) (MB (7 * bq + 3)) (MB (7 * bq + 4)) (MB (7 * bq + 5)) (MB (7 * bq + 6)) (mCI MC bq) (mCJ MC bq) (mCW MC bq))) k.toNat = 0) ∧ cr = crF (acx gl gp gx gy MG la (lifeV (MB (7 * bq)) (MB (7 * bq + 1)) (MB (7 * bq + 2)) (MB (7 * bq + 3)) (MB (7 * bq + 4)) (MB (7 * bq + 5)) (MB (7 * bq + 6)) (mCI MC bq) (mCJ MC bq) (mCW MC bq))) k.toNat * 10 ^ (gp - k).toNat ∧ ∀ j : Int, 0 ≤ j → j < k → E j = enF (acx gl gp gx gy MG la (lifeV (MB (7 * bq)) (MB (7 * bq + 1)) (MB (7 * bq + 2)) (MB (7 * bq + 3)) (MB (7 * bq + 4)) (MB (7 * bq + 5)) (MB (7 * bq + 6)) (mCI MC bq) (mCJ MC bq) (mCW MC bq))) j * 10 ^ (gp - (j + 1)).toNat) ∧ lv_has ls 11 [(7, zi k), (6, zi sv), (5, zi (lifeV (MB (7 * bq)) (MB (7 * bq + 1)) (MB (7 * bq + 2)) (MB (7 * bq + 3)) (MB (7 * bq + 4)) (MB (7 * bq + 5)) (MB (7 * bq + 6)) (mCI MC bq) (mCJ MC bq) (mCW MC bq))), (3, zl cm), (0, .ref m0), (1, zi bq), (2, zi la)] ∧ va_P D vwCl [(m_gut, .inl (y 0, 36, .inl (cI MG))), (m_ends, .inl (y 1, 12, .inr (.inl (cL E)))), (m0, .inr (11, [.ref m_read, zi rl, zi rp, .ref m_gut, zi gl, zi gp, zi gx, zi gy, .ref m_text, zi tn, zi fn, .ref m_boat, .ref m_coins, zi vw2, zi vm2, zi vn2, .ref m_rest, .ref m_ends, zl cr, .ref m_chan, .ref m_spl, zi fs, zi rn, .ref m_rf, .ref m_rr, .ref m_ik, .ref m_km, .ref m_kb, .ref m_kc, .ref m_kf, .ref m_kr])), (m_boat, .inl (y 0, 42, .inl (cI MB))), (m_coins, .inl (y 0, 144, .inl (cI MC)))] H ∧ va_D A [(m_gut, .inl (y 0, 36, .inl (cI MG))), (m_ends, .inl (y 1, 12, .inr (.inl (cL E)))), (m0, .inr (11, [.ref m_read, zi rl, zi rp, .ref m_gut, zi gl, zi gp, zi gx, zi gy, .ref m_text, zi tn, zi fn, .ref m_boat, .ref m_coins, zi vw2, zi vm2, zi vn2, .ref m_rest, .ref m_ends, zl cr, .ref m_chan, .ref m_spl, zi fs, zi rn, .ref m_rf, .ref m_rr, .ref m_ik, .ref m_km, .ref m_kb, .ref m_kc, .ref m_kf, .ref m_kr])), (m_boat, .inl (y 0, 42, .inl (cI MB))), (m_coins, .inl (y 0, 144, .inl (cI MC)))] ∧ va_S A s.heap H lc) (fun x9  => match x9 with | (cm, sv, k, cr, E) => ((gp - k).toNat)) ?_ (10 ^ gp.toNat, 0, 0, 0, ME) ⟨⟨by omega, by rw [show (gp - 0).toNat = gp.toNat by omega]; show _ = 1 * _; rw [Int.one_mul], rfl, fun q => (by rw [sgI_0] at q; omega), by rw [show (0 : Int).toNat = 0 by rfl]; show _ = 0 * _; rw [Int.zero_mul], fun j _ _ => by omega⟩, lv_sub hl [0, 1, 2, 3, 4, 5, 6] rfl, hP.sub [0, 1, 2, 3, 4] rfl, hD.sub [0, 1, 2, 3, 4] (by decide) rfl, hS⟩
  rintro ⟨cm, sv, k, cr, E⟩ H lc ls ⟨hi23, hl, hP, hD, hS⟩ ih23
  have hP : va_P D vwCl [(m_gut, .inl (y 0, 36, .inl (cI MG))), (m_ends, .inl (y 1, 12, .inr (.inl (cL E)))), (m0, .inr (11, [.ref m_read, zi rl, zi rp, .ref m_gut, zi gl, zi gp, zi gx, zi gy, .ref m_text, zi tn, zi fn, .ref m_boat, .ref m_coins, zi vw2, zi vm2, zi vn2, .ref m_rest, .ref m_ends, zl cr, .ref m_chan, .ref m_spl, zi fs, zi rn, .ref m_rf, .ref m_rr, .ref m_ik, .ref m_km, .ref m_kb, .ref m_kc, .ref m_kf, .ref m_kr])), (m_boat, .inl (y 0, 42, .inl (cI MB))), (m_coins, .inl (y 0, 144, .inl (cI MC)))] H := hP
  have hD : va_D A [(m_gut, .inl (y 0, 36, .inl (cI MG))), (m_ends, .inl (y 1, 12, .inr (.inl (cL E)))), (m0, .inr (11, [.ref m_read, zi rl, zi rp, .ref m_gut, zi gl, zi gp, zi gx, zi gy, .ref m_text, zi tn, zi fn, .ref m_boat, .ref m_coins, zi vw2, zi vm2, zi vn2, .ref m_rest, .ref m_ends, zl cr, .ref m_chan, .ref m_spl, zi fs, zi rn, .ref m_rf, .ref m_rr, .ref m_ik, .ref m_km, .ref m_kb, .ref m_kc, .ref m_kf, .ref m_kr])), (m_boat, .inl (y 0, 42, .inl (cI MB))), (m_coins, .inl (y 0, 144, .inl (cI MC)))] := hD
  obtain ⟨j1, j2, j3, j4, j5, j6⟩ := hi23
  refine lv_iload hx hb dX12_layDrift_23 (lv_at hl 0 rfl) ?_
  refine lv_aload_n hx hb dX12_layDrift_25 rfl (lv_at hl 4 rfl) ?_
  refine va_get hx hb hts hinX12 hown hK hP 2 rfl rfl 5 (by decide) k2 (fun _ h => h) rfl dX12_layDrift_26 ?_
  refine z_icmp_ge (tgt := 113) hx hb (by omega) (by omega) dX12_layDrift_29 (by decide) (fun c_29 => ?_) (fun c_29 => ?_)
  ·
    exact z_vretW hx hb hr hlocks (vw2, vm2, vn2, cr, E) rfl (by have e9 : k = gp := (by omega); rw [e9] at j5 j6; rw [show (gp - gp).toNat = 0 by omega] at j5; exact ⟨by rw [j5]; exact Int.mul_one _, j6⟩) (hP.sub [2, 0, 3, 4, 1] rfl) (hD.sub [2, 0, 3, 4, 1] (by decide) rfl) hS dX12_layDrift_113
  ·
    have ek := kAt_in (gl := gl) (gp := gp) (GK := MG) (la := la) (pl := k) (by omega)
    have ekb := kAt_bd hg (la) (k)
    have em := msV_eq (kAt gl gp MG la k)
    have ems : msV (MG (12 * la + k)) = secV (kAt gl gp MG la k) + 100000 * bI (kAt gl gp MG la k = 12) := (by rw [← ek]; exact em)
    have b1 := laneS_bd hg la (k := k + 1) (by omega) (by omega)
    rw [sgI_s _ j1.1] at b1
    have b2 := sgI_mono (f := fun p => bI (kAt gl gp MG la p = 12)) (fun k _ => bI_nn _) j1.1
    rw [sgI_0] at b2
    have jt : cm = cmF (acx gl gp gx gy MG la (lifeV (MB (7 * bq)) (MB (7 * bq + 1)) (MB (7 * bq + 2)) (MB (7 * bq + 3)) (MB (7 * bq + 4)) (MB (7 * bq + 5)) (MB (7 * bq + 6)) (mCI MC bq) (mCJ MC bq) (mCW MC bq))) k.toNat * (10 * 10 ^ (gp - (k + 1)).toNat) := (by rw [j2, ten_s j1.1 (by omega)])
    have w1 : kAt gl gp MG la k = 12 → (acx gl gp gx gy MG la (lifeV (MB (7 * bq)) (MB (7 * bq + 1)) (MB (7 * bq + 2)) (MB (7 * bq + 3)) (MB (7 * bq + 4)) (MB (7 * bq + 5)) (MB (7 * bq + 6)) (mCI MC bq) (mCJ MC bq) (mCW MC bq))) k = 0 := fun q => (by unfold acx; split <;> first | rfl | (rw [q]; rfl))
    have b3 := sgb_bd (fun p => kAt gl gp MG la p = 12) (n := k) j1.1
    have w2 : 0 < sgI (fun p => bI (kAt gl gp MG la p = 12)) (k + 1) → cmF (acx gl gp gx gy MG la (lifeV (MB (7 * bq)) (MB (7 * bq + 1)) (MB (7 * bq + 2)) (MB (7 * bq + 3)) (MB (7 * bq + 4)) (MB (7 * bq + 5)) (MB (7 * bq + 6)) (mCI MC bq) (mCJ MC bq) (mCW MC bq))) (k + 1).toNat = 0 := (by
        intro q
        rw [sgI_s _ j1.1] at q
        rw [cmF_s _ j1.1]
        by_cases q2 : kAt gl gp MG la k = 12
        · rw [w1 q2, Int.mul_zero]
        · have z : bI (kAt gl gp MG la k = 12) = 0 := bI_f q2
          rw [j4 (by omega), Int.zero_mul])
    have w3 := cmF_bd ha k.toNat
    have wz : 0 ≤ cm := (by rw [jt]; exact Int.mul_nonneg w3.1 (by have := ten_p (gp - (k + 1)).toNat; omega))
    have e0 := acrV_bd (k := MG (12 * la + k)) u3 u4
    have wy := scale_bd (t := 10 ^ (gp - k).toNat) (B := 10 ^ gp.toNat) (ten_p _) w3.1 w3.2 (Int.le_of_eq (by rw [← Int.pow_add]; congr 1; omega))
    rw [← j2] at wy
    have wx := ten12 (r := gp.toNat) (by omega)
    have w4 := bI_cases (kAt gl gp MG la k = 12)
    refine lv_aload_n hx hb dX12_layDrift_32 rfl (lv_at hl 4 rfl) ?_
    refine va_get hx hb hts hinX12 hown hK hP 2 rfl rfl 3 (by decide) k3 (fun _ h => h) rfl dX12_layDrift_33 ?_
    refine z_bipush hx hb dX12_layDrift_36 (by decide) ?_
    refine lv_iload_n hx hb dX12_layDrift_38 rfl (lv_at hl 6 rfl) ?_
    refine z_imul hx hb dX12_layDrift_39 ?_
    refine lv_iload hx hb dX12_layDrift_40 (lv_at hl 0 rfl) ?_
    refine z_iadd hx hb dX12_layDrift_42 ?_
    refine z_iald hx hb hK hP 0 0 rfl rfl (by omega) (by decide) dX12_layDrift_43 ?_
    refine lv_istore (lv' := [(8, zi (MG ((12 * la) + k))), (7, zi k), (6, zi sv), (5, zi (lifeV (MB (7 * bq)) (MB (7 * bq + 1)) (MB (7 * bq + 2)) (MB (7 * bq + 3)) (MB (7 * bq + 4)) (MB (7 * bq + 5)) (MB (7 * bq + 6)) (mCI MC bq) (mCJ MC bq) (mCW MC bq))), (3, zl cm), (0, .ref m0), (1, zi bq), (2, zi la)]) hx hb dX12_layDrift_44 hl (by decide) rfl (fun ls hl => ?_)
    refine lv_iload hx hb dX12_layDrift_46 (lv_at hl 2 rfl) ?_
    refine lv_iload hx hb dX12_layDrift_48 (lv_at hl 0 rfl) ?_
    refine z_pS (As := [zi (MG ((12 * la) + k))]) (rest := [zi sv]) hC (c_X12_secondsOf l D y (MG ((12 * la) + k)) (by first | assumption | omega)) (va_cwS 1 hts gX12_layDrift_X12_secondsOf rfl rfl rfl (by decide +kernel) ⟨Nat.le_of_ble_eq_true rfl, Nat.le_of_ble_eq_true rfl⟩) hG va_P_nil rfl hl.1 rfl (Nat.le_of_ble_eq_true rfl) dX12_layDrift_50 ⟨Nat.le_of_ble_eq_true rfl, Nat.le_of_ble_eq_true rfl⟩ ?_
    refine z_iadd hx hb dX12_layDrift_53 ?_
    refine lv_istore (lv' := [(6, zi (sv + (msV (MG ((12 * la) + k))))), (8, zi (MG ((12 * la) + k))), (7, zi k), (5, zi (lifeV (MB (7 * bq)) (MB (7 * bq + 1)) (MB (7 * bq + 2)) (MB (7 * bq + 3)) (MB (7 * bq + 4)) (MB (7 * bq + 5)) (MB (7 * bq + 6)) (mCI MC bq) (mCJ MC bq) (mCW MC bq))), (3, zl cm), (0, .ref m0), (1, zi bq), (2, zi la)]) hx hb dX12_layDrift_54 hl (by decide) rfl (fun ls hl => ?_)
    refine z_cut (σ := Int) 80 (fun go H lc ls st9 => (go = cmF (acx gl gp gx gy MG la (lifeV (MB (7 * bq)) (MB (7 * bq + 1)) (MB (7 * bq + 2)) (MB (7 * bq + 3)) (MB (7 * bq + 4)) (MB (7 * bq + 5)) (MB (7 * bq + 6)) (mCI MC bq) (mCJ MC bq) (mCW MC bq))) k.toNat * (acx gl gp gx gy MG la (lifeV (MB (7 * bq)) (MB (7 * bq + 1)) (MB (7 * bq + 2)) (MB (7 * bq + 3)) (MB (7 * bq + 4)) (MB (7 * bq + 5)) (MB (7 * bq + 6)) (mCI MC bq) (mCJ MC bq) (mCW MC bq))) k * 10 ^ (gp - (k + 1)).toNat) ∧ lv_has ls 11 [(6, zi (sv + (msV (MG ((12 * la) + k))))), (8, zi (MG ((12 * la) + k))), (7, zi k), (5, zi (lifeV (MB (7 * bq)) (MB (7 * bq + 1)) (MB (7 * bq + 2)) (MB (7 * bq + 3)) (MB (7 * bq + 4)) (MB (7 * bq + 5)) (MB (7 * bq + 6)) (mCI MC bq) (mCJ MC bq) (mCW MC bq))), (3, zl cm), (0, .ref m0), (1, zi bq), (2, zi la)] ∧ st9 = [zl go] ∧ va_P D vwCl [(m_gut, .inl (y 0, 36, .inl (cI MG))), (m_ends, .inl (y 1, 12, .inr (.inl (cL E)))), (m0, .inr (11, [.ref m_read, zi rl, zi rp, .ref m_gut, zi gl, zi gp, zi gx, zi gy, .ref m_text, zi tn, zi fn, .ref m_boat, .ref m_coins, zi vw2, zi vm2, zi vn2, .ref m_rest, .ref m_ends, zl cr, .ref m_chan, .ref m_spl, zi fs, zi rn, .ref m_rf, .ref m_rr, .ref m_ik, .ref m_km, .ref m_kb, .ref m_kc, .ref m_kf, .ref m_kr])), (m_boat, .inl (y 0, 42, .inl (cI MB))), (m_coins, .inl (y 0, 144, .inl (cI MC)))] H ∧ va_D A [(m_gut, .inl (y 0, 36, .inl (cI MG))), (m_ends, .inl (y 1, 12, .inr (.inl (cL E)))), (m0, .inr (11, [.ref m_read, zi rl, zi rp, .ref m_gut, zi gl, zi gp, zi gx, zi gy, .ref m_text, zi tn, zi fn, .ref m_boat, .ref m_coins, zi vw2, zi vm2, zi vn2, .ref m_rest, .ref m_ends, zl cr, .ref m_chan, .ref m_spl, zi fs, zi rn, .ref m_rf, .ref m_rr, .ref m_ik, .ref m_km, .ref m_kb, .ref m_kc, .ref m_kf, .ref m_kr])), (m_boat, .inl (y 0, 42, .inl (cI MB))), (m_coins, .inl (y 0, 144, .inl (cI MC)))] ∧ va_S A s.heap H lc) (fun hJ_5 => ?_) ?_
    ·
      refine lv_iload hx hb dX12_layDrift_56 (lv_at hl 0 rfl) ?_
      refine lv_iload hx hb dX12_layDrift_58 (lv_at hl 3 rfl) ?_
      refine z_icmp_gt (tgt := 79) hx hb (by omega) (by omega) dX12_layDrift_60 (by decide) (fun c_60 => ?_) (fun c_60 => ?_)
      ·
        have gz : (0 : Int) = cmF (acx gl gp gx gy MG la (lifeV (MB (7 * bq)) (MB (7 * bq + 1)) (MB (7 * bq + 2)) (MB (7 * bq + 3)) (MB (7 * bq + 4)) (MB (7 * bq + 5)) (MB (7 * bq + 6)) (mCI MC bq) (mCJ MC bq) (mCW MC bq))) k.toNat * (acx gl gp gx gy MG la (lifeV (MB (7 * bq)) (MB (7 * bq + 1)) (MB (7 * bq + 2)) (MB (7 * bq + 3)) (MB (7 * bq + 4)) (MB (7 * bq + 5)) (MB (7 * bq + 6)) (mCI MC bq) (mCJ MC bq) (mCW MC bq))) k * 10 ^ (gp - (k + 1)).toNat := (by
            by_cases q : 0 < sgI (fun p => bI (kAt gl gp MG la p = 12)) k
            · rw [j4 q, Int.zero_mul, Int.zero_mul]
            · by_cases q2 : kAt gl gp MG la k = 12
              · rw [w1 q2, Int.mul_zero, Int.zero_mul]
              · have z : bI (kAt gl gp MG la k = 12) = 0 := bI_f q2
                have z2 : (acx gl gp gx gy MG la (lifeV (MB (7 * bq)) (MB (7 * bq + 1)) (MB (7 * bq + 2)) (MB (7 * bq + 3)) (MB (7 * bq + 4)) (MB (7 * bq + 5)) (MB (7 * bq + 6)) (mCI MC bq) (mCJ MC bq) (mCW MC bq))) k = 0 := (by unfold acx; rw [sgI_s _ j1.1]; exact if_pos (by omega))
                rw [z2, Int.mul_zero, Int.zero_mul])
        refine lv_lconst (v := iL 0) hx hb dX12_layDrift_79 rfl ?_
        exact hJ_5 0 _ _ _ _ ⟨gz, lv_sub hl [0, 1, 2, 3, 4, 5, 6, 7] rfl, rfl, hP.sub [0, 1, 2, 3, 4] rfl, hD.sub [0, 1, 2, 3, 4] (by decide) rfl, hS⟩
      ·
        have gz : cm / 10 * acrV gx gy (MG (12 * la + k)) = cmF (acx gl gp gx gy MG la (lifeV (MB (7 * bq)) (MB (7 * bq + 1)) (MB (7 * bq + 2)) (MB (7 * bq + 3)) (MB (7 * bq + 4)) (MB (7 * bq + 5)) (MB (7 * bq + 6)) (mCI MC bq) (mCJ MC bq) (mCW MC bq))) k.toNat * (acx gl gp gx gy MG la (lifeV (MB (7 * bq)) (MB (7 * bq + 1)) (MB (7 * bq + 2)) (MB (7 * bq + 3)) (MB (7 * bq + 4)) (MB (7 * bq + 5)) (MB (7 * bq + 6)) (mCI MC bq) (mCJ MC bq) (mCW MC bq))) k * 10 ^ (gp - (k + 1)).toNat := (by
            rw [dr_1 jt]
            congr 2
            unfold acx
            rw [sgI_s _ j1.1, ← ek, if_neg (by omega)])
        refine lv_lload_n hx hb dX12_layDrift_63 rfl (lv_at hl 4 rfl) ?_
        refine lv_ldc2 (v := iL 10) hx hb hown k4 dX12_layDrift_64 ?_
        refine z_ldiv hx hb (by omega) dX12_layDrift_67 ?_
        refine lv_aload_n hx hb dX12_layDrift_68 rfl (lv_at hl 5 rfl) ?_
        refine lv_iload hx hb dX12_layDrift_69 (lv_at hl 1 rfl) ?_
        refine z_pV (As := [zi (MG ((12 * la) + k))]) (rest := [zl (cm / 10)]) hC (c_X12_crosses l D y m0 m_read rl rp m_gut gl gp gx gy m_text tn fn m_boat m_coins vw2 vm2 vn2 m_rest m_ends cr m_chan m_spl fs rn m_rf m_rr m_ik m_km m_kb m_kc m_kf m_kr (MG ((12 * la) + k)) (by first | assumption | omega)) (cwV 1 hts gX12_layDrift_X12_crosses rfl rfl rfl (by decide +kernel) ⟨Nat.le_of_ble_eq_true rfl, Nat.le_of_ble_eq_true rfl⟩) hG (hP.sub (ws' := [(m0, .inr (11, [.ref m_read, zi rl, zi rp, .ref m_gut, zi gl, zi gp, zi gx, zi gy, .ref m_text, zi tn, zi fn, .ref m_boat, .ref m_coins, zi vw2, zi vm2, zi vn2, .ref m_rest, .ref m_ends, zl cr, .ref m_chan, .ref m_spl, zi fs, zi rn, .ref m_rf, .ref m_rr, .ref m_ik, .ref m_km, .ref m_kb, .ref m_kc, .ref m_kf, .ref m_kr]))]) [2] rfl) 0 rfl rfl rfl hl.1 rfl (Nat.le_of_ble_eq_true rfl) dX12_layDrift_71 ⟨Nat.le_of_ble_eq_true rfl, Nat.le_of_ble_eq_true rfl⟩ ?_
        refine z_i2l hx hb (by omega) dX12_layDrift_74 ?_
        refine z_lmul hx hb dX12_layDrift_75 ?_
        refine lv_goto (tgt := 80) hx hb dX12_layDrift_76 (by decide) ?_
        exact hJ_5 ((cm / 10) * (acrV gx gy (MG ((12 * la) + k)))) _ _ _ _ ⟨gz, lv_sub hl [0, 1, 2, 3, 4, 5, 6, 7] rfl, rfl, hP.sub [0, 1, 2, 3, 4] rfl, hD.sub [0, 1, 2, 3, 4] (by decide) rfl, hS⟩
    ·
      rintro go H lc ls st9 ⟨hj_6, hl, rfl, hP, hD, hS⟩
      have hP : va_P D vwCl [(m_gut, .inl (y 0, 36, .inl (cI MG))), (m_ends, .inl (y 1, 12, .inr (.inl (cL E)))), (m0, .inr (11, [.ref m_read, zi rl, zi rp, .ref m_gut, zi gl, zi gp, zi gx, zi gy, .ref m_text, zi tn, zi fn, .ref m_boat, .ref m_coins, zi vw2, zi vm2, zi vn2, .ref m_rest, .ref m_ends, zl cr, .ref m_chan, .ref m_spl, zi fs, zi rn, .ref m_rf, .ref m_rr, .ref m_ik, .ref m_km, .ref m_kb, .ref m_kc, .ref m_kf, .ref m_kr])), (m_boat, .inl (y 0, 42, .inl (cI MB))), (m_coins, .inl (y 0, 144, .inl (cI MC)))] H := hP
      have hD : va_D A [(m_gut, .inl (y 0, 36, .inl (cI MG))), (m_ends, .inl (y 1, 12, .inr (.inl (cL E)))), (m0, .inr (11, [.ref m_read, zi rl, zi rp, .ref m_gut, zi gl, zi gp, zi gx, zi gy, .ref m_text, zi tn, zi fn, .ref m_boat, .ref m_coins, zi vw2, zi vm2, zi vn2, .ref m_rest, .ref m_ends, zl cr, .ref m_chan, .ref m_spl, zi fs, zi rn, .ref m_rf, .ref m_rr, .ref m_ik, .ref m_km, .ref m_kb, .ref m_kc, .ref m_kf, .ref m_kr])), (m_boat, .inl (y 0, 42, .inl (cI MB))), (m_coins, .inl (y 0, 144, .inl (cI MC)))] := hD
      have hgo := hj_6
      refine lv_lstore (lv' := [(9, zl go), (6, zi (sv + (msV (MG ((12 * la) + k))))), (8, zi (MG ((12 * la) + k))), (7, zi k), (5, zi (lifeV (MB (7 * bq)) (MB (7 * bq + 1)) (MB (7 * bq + 2)) (MB (7 * bq + 3)) (MB (7 * bq + 4)) (MB (7 * bq + 5)) (MB (7 * bq + 6)) (mCI MC bq) (mCJ MC bq) (mCW MC bq))), (3, zl cm), (0, .ref m0), (1, zi bq), (2, zi la)]) hx hb dX12_layDrift_80 hl (by decide) rfl (fun ls hl => ?_)
      refine lv_aload_n hx hb dX12_layDrift_82 rfl (lv_at hl 6 rfl) ?_
      refine va_get hx hb hts hinX12 hown hK hP 2 rfl rfl 17 (by decide) k5 (fun _ h => h) rfl dX12_layDrift_83 ?_
      refine lv_iload hx hb dX12_layDrift_86 (lv_at hl 3 rfl) ?_
      refine lv_lload_n hx hb dX12_layDrift_88 rfl (lv_at hl 5 rfl) ?_
      refine lv_lload hx hb dX12_layDrift_89 (lv_at hl 0 rfl) ?_
      refine z_lsub hx hb dX12_layDrift_91 ?_
      refine z_last hx hb hK hP hD hS 1 1 rfl rfl (by omega) (by decide) dX12_layDrift_92 (fun H locs hP hD hS => ?_)
      have hP : va_P D vwCl [(m_gut, .inl (y 0, 36, .inl (cI MG))), (m_ends, .inl (y 1, 12, .inr (.inl (cL (iu E k (cm - go)))))), (m0, .inr (11, [.ref m_read, zi rl, zi rp, .ref m_gut, zi gl, zi gp, zi gx, zi gy, .ref m_text, zi tn, zi fn, .ref m_boat, .ref m_coins, zi vw2, zi vm2, zi vn2, .ref m_rest, .ref m_ends, zl cr, .ref m_chan, .ref m_spl, zi fs, zi rn, .ref m_rf, .ref m_rr, .ref m_ik, .ref m_km, .ref m_kb, .ref m_kc, .ref m_kf, .ref m_kr])), (m_boat, .inl (y 0, 42, .inl (cI MB))), (m_coins, .inl (y 0, 144, .inl (cI MC)))] H := hP
      have hD : va_D A [(m_gut, .inl (y 0, 36, .inl (cI MG))), (m_ends, .inl (y 1, 12, .inr (.inl (cL (iu E k (cm - go)))))), (m0, .inr (11, [.ref m_read, zi rl, zi rp, .ref m_gut, zi gl, zi gp, zi gx, zi gy, .ref m_text, zi tn, zi fn, .ref m_boat, .ref m_coins, zi vw2, zi vm2, zi vn2, .ref m_rest, .ref m_ends, zl cr, .ref m_chan, .ref m_spl, zi fs, zi rn, .ref m_rf, .ref m_rr, .ref m_ik, .ref m_km, .ref m_kb, .ref m_kc, .ref m_kf, .ref m_kr])), (m_boat, .inl (y 0, 42, .inl (cI MB))), (m_coins, .inl (y 0, 144, .inl (cI MC)))] := hD
      refine lv_aload_n hx hb dX12_layDrift_93 rfl (lv_at hl 6 rfl) ?_
      refine lv_dup hx hb dX12_layDrift_94 rfl ?_
      refine va_get hx hb hts hinX12 hown hK hP 2 rfl rfl 18 (by decide) k1 (fun _ h => h) rfl dX12_layDrift_95 ?_
      refine lv_lload hx hb dX12_layDrift_98 (lv_at hl 0 rfl) ?_
      refine z_ladd hx hb dX12_layDrift_100 ?_
      refine va_put hx hb hts hinX12 tyX12 tyX12_ok nmX12 hown hK hP hD hS 2 rfl rfl 18 (by decide) k1 (fun _ h => h) rfl (tyX12_ok 18 (by decide)) rfl rfl (Nat.le_of_ble_eq_true rfl) dX12_layDrift_101 (fun H locs hP hD hS => ?_)
      have hP : va_P D vwCl [(m_gut, .inl (y 0, 36, .inl (cI MG))), (m_ends, .inl (y 1, 12, .inr (.inl (cL (iu E k (cm - go)))))), (m0, .inr (11, [.ref m_read, zi rl, zi rp, .ref m_gut, zi gl, zi gp, zi gx, zi gy, .ref m_text, zi tn, zi fn, .ref m_boat, .ref m_coins, zi vw2, zi vm2, zi vn2, .ref m_rest, .ref m_ends, zl (cr + go), .ref m_chan, .ref m_spl, zi fs, zi rn, .ref m_rf, .ref m_rr, .ref m_ik, .ref m_km, .ref m_kb, .ref m_kc, .ref m_kf, .ref m_kr])), (m_boat, .inl (y 0, 42, .inl (cI MB))), (m_coins, .inl (y 0, 144, .inl (cI MC)))] H := hP
      have hD : va_D A [(m_gut, .inl (y 0, 36, .inl (cI MG))), (m_ends, .inl (y 1, 12, .inr (.inl (cL (iu E k (cm - go)))))), (m0, .inr (11, [.ref m_read, zi rl, zi rp, .ref m_gut, zi gl, zi gp, zi gx, zi gy, .ref m_text, zi tn, zi fn, .ref m_boat, .ref m_coins, zi vw2, zi vm2, zi vn2, .ref m_rest, .ref m_ends, zl (cr + go), .ref m_chan, .ref m_spl, zi fs, zi rn, .ref m_rf, .ref m_rr, .ref m_ik, .ref m_km, .ref m_kb, .ref m_kc, .ref m_kf, .ref m_kr])), (m_boat, .inl (y 0, 42, .inl (cI MB))), (m_coins, .inl (y 0, 144, .inl (cI MC)))] := hD
      refine lv_lload hx hb dX12_layDrift_104 (lv_at hl 0 rfl) ?_
      refine lv_lstore_n (lv' := [(3, zl go), (9, zl go), (6, zi (sv + (msV (MG ((12 * la) + k))))), (8, zi (MG ((12 * la) + k))), (7, zi k), (5, zi (lifeV (MB (7 * bq)) (MB (7 * bq + 1)) (MB (7 * bq + 2)) (MB (7 * bq + 3)) (MB (7 * bq + 4)) (MB (7 * bq + 5)) (MB (7 * bq + 6)) (mCI MC bq) (mCJ MC bq) (mCW MC bq))), (0, .ref m0), (1, zi bq), (2, zi la)]) hx hb dX12_layDrift_106 rfl hl (by decide) rfl (fun ls hl => ?_)
      refine z_iinc (k := 4) (lv' := [(7, zi (k + 1)), (3, zl go), (9, zl go), (6, zi (sv + (msV (MG ((12 * la) + k))))), (8, zi (MG ((12 * la) + k))), (5, zi (lifeV (MB (7 * bq)) (MB (7 * bq + 1)) (MB (7 * bq + 2)) (MB (7 * bq + 3)) (MB (7 * bq + 4)) (MB (7 * bq + 5)) (MB (7 * bq + 6)) (mCI MC bq) (mCJ MC bq) (mCW MC bq))), (0, .ref m0), (1, zi bq), (2, zi la)]) hx hb dX12_layDrift_107 hl rfl (by decide) rfl (fun ls hl => ?_)
      refine lv_goto (tgt := 23) hx hb dX12_layDrift_110 (by decide) ?_
      exact ih23 (go, sv + (msV (MG ((12 * la) + k))), k + 1, cr + go, iu E k (cm - go)) _ _ _ (by first | (dsimp only; omega) | omega) ⟨⟨by omega, by rw [hgo, cmF_s _ j1.1], by rw [sgI_s _ j1.1, sgI_s _ j1.1, ← ek]; omega, w2, by rw [hgo, crF_s _ j1.1, cmF_s _ j1.1, j5, ten_s j1.1 (by omega)]; exact dr_3, iu_fillv j6 (by rw [hgo, dr_2 jt]; rfl)⟩, lv_sub hl [0, 3, 5, 1, 6, 7, 8] rfl, hP.sub [0, 1, 2, 3, 4] rfl, hD.sub [0, 1, 2, 3, 4] (by decide) rfl, hS⟩
set_option maxHeartbeats 8000000 in
set_option maxRecDepth 100000 in
theorem c_X12_far_no (l : Launch) (D : va_G) (y : Nat → ClassId) (m0 : Nat) (m_read : Nat) (rl : Int) (rp : Int) (m_gut : Nat) (gl : Int) (gp : Int) (gx : Int) (gy : Int) (m_text : Nat) (tn : Int) (fn : Int) (m_boat : Nat) (m_coins : Nat) (vw : Int) (vm : Int) (vn : Int) (m_rest : Nat) (m_ends : Nat) (vc : Int) (m_chan : Nat) (m_spl : Nat) (fs : Int) (rn : Int) (m_rf : Nat) (m_rr : Nat) (m_ik : Nat) (m_km : Nat) (m_kb : Nat) (m_kc : Nat) (m_kf : Nat) (m_kr : Nat) (bq : Int) (la : Int) (uq : Int) (hbq : rI bq ∧ 0 ≤ fn ∧ fn ≤ 6) (hla : rI la ∧ 1 ≤ gl ∧ gl ≤ 3) (hq : ¬ (0 ≤ bq ∧ bq < fn) ∨ ¬ (0 ≤ la ∧ la < gl)) : Met l yX12_far wsX12_far ({ frames := 2, cells := 0, slots := 0, locals := 46 } : Room) (pPc D y [(m0, .inr (11, [.ref m_read, zi rl, zi rp, .ref m_gut, zi gl, zi gp, zi gx, zi gy, .ref m_text, zi tn, zi fn, .ref m_boat, .ref m_coins, zi vw, zi vm, zi vn, .ref m_rest, .ref m_ends, zl vc, .ref m_chan, .ref m_spl, zi fs, zi rn, .ref m_rf, .ref m_rr, .ref m_ik, .ref m_km, .ref m_kb, .ref m_kc, .ref m_kf, .ref m_kr]))] [.ref m0, zi bq, zi la, zi uq]) (qV (zl (-1))) 0 0 (fun _ => False) := by
  refine P_of (own := RX12) (cc := cX12_far) (maxL := 4) (ret := some .long) (by decide) rfl rfl (Nat.le_of_ble_eq_true rfl) (fun p e s m below meth c ls hx hb hr hC hlocks hPr hG hl => ?_)
  have hC0 := hC
  obtain ⟨-, -, hml, hown, hts⟩ := hC0
  have hK := hG.1
  have k1 := hts (.constantLong RX12 151 (-1)) (List.mem_of_getElem? (i := 1) rfl)
  have hl : lv_has ls 4 [(0, .ref m0), (1, zi bq), (2, zi la), (3, zi uq)] := hl
  refine lv_aload_n hx hb dX12_far_0 rfl (lv_at hl 0 rfl) ?_
  refine lv_iload_n hx hb dX12_far_1 rfl (lv_at hl 1 rfl) ?_
  refine z_pV (As := [zi bq]) (rest := []) hC (c_X12_isBoat l D y m0 m_read rl rp m_gut gl gp gx gy m_text tn fn m_boat m_coins vw vm vn m_rest m_ends vc m_chan m_spl fs rn m_rf m_rr m_ik m_km m_kb m_kc m_kf m_kr bq (by first | assumption | omega) (by first | assumption | omega)) (cwV 1 hts gX12_far_X12_isBoat rfl rfl rfl (by decide +kernel) ⟨Nat.le_of_ble_eq_true rfl, Nat.le_of_ble_eq_true rfl⟩) hG (hPr.sub (ws' := [(m0, .inr (11, [.ref m_read, zi rl, zi rp, .ref m_gut, zi gl, zi gp, zi gx, zi gy, .ref m_text, zi tn, zi fn, .ref m_boat, .ref m_coins, zi vw, zi vm, zi vn, .ref m_rest, .ref m_ends, zl vc, .ref m_chan, .ref m_spl, zi fs, zi rn, .ref m_rf, .ref m_rr, .ref m_ik, .ref m_km, .ref m_kb, .ref m_kc, .ref m_kf, .ref m_kr]))]) [0] rfl) 0 rfl rfl rfl hl.1 rfl (Nat.le_of_ble_eq_true rfl) dX12_far_2 ⟨Nat.le_of_ble_eq_true rfl, Nat.le_of_ble_eq_true rfl⟩ ?_
  refine z_ifB_eq (tgt := 16) hx hb dX12_far_5 (by decide) (fun c_5 => ?_) (fun c_5 => ?_)
  ·
    refine lv_ldc2 (v := iL (-1)) hx hb hown k1 dX12_far_16 ?_
    exact z_lret0 hx hb hr hlocks (rfl) dX12_far_19
  ·
    refine lv_aload_n hx hb dX12_far_8 rfl (lv_at hl 0 rfl) ?_
    refine lv_iload_n hx hb dX12_far_9 rfl (lv_at hl 2 rfl) ?_
    refine z_pV (As := [zi la]) (rest := []) hC (c_X12_isLane l D y m0 m_read rl rp m_gut gl gp gx gy m_text tn fn m_boat m_coins vw vm vn m_rest m_ends vc m_chan m_spl fs rn m_rf m_rr m_ik m_km m_kb m_kc m_kf m_kr la (by first | assumption | omega) (by first | assumption | omega)) (cwV 1 hts gX12_far_X12_isLane rfl rfl rfl (by decide +kernel) ⟨Nat.le_of_ble_eq_true rfl, Nat.le_of_ble_eq_true rfl⟩) hG (hPr.sub (ws' := [(m0, .inr (11, [.ref m_read, zi rl, zi rp, .ref m_gut, zi gl, zi gp, zi gx, zi gy, .ref m_text, zi tn, zi fn, .ref m_boat, .ref m_coins, zi vw, zi vm, zi vn, .ref m_rest, .ref m_ends, zl vc, .ref m_chan, .ref m_spl, zi fs, zi rn, .ref m_rf, .ref m_rr, .ref m_ik, .ref m_km, .ref m_kb, .ref m_kc, .ref m_kf, .ref m_kr]))]) [0] rfl) 0 rfl rfl rfl hl.1 rfl (Nat.le_of_ble_eq_true rfl) dX12_far_10 ⟨Nat.le_of_ble_eq_true rfl, Nat.le_of_ble_eq_true rfl⟩ ?_
    refine z_ifB_ne (tgt := 20) hx hb dX12_far_13 (by decide) (fun c_13 => ?_) (fun c_13 => ?_)
    · exfalso; omega
    ·
      refine lv_ldc2 (v := iL (-1)) hx hb hown k1 dX12_far_16 ?_
      exact z_lret0 hx hb hr hlocks (rfl) dX12_far_19
set_option maxHeartbeats 8000000 in
set_option maxRecDepth 100000 in
theorem c_X12_far (l : Launch) (D : va_G) (y : Nat → ClassId) (m0 : Nat) (m_read : Nat) (rl : Int) (rp : Int) (m_gut : Nat) (gl : Int) (gp : Int) (gx : Int) (gy : Int) (m_text : Nat) (tn : Int) (fn : Int) (m_boat : Nat) (m_coins : Nat) (vw : Int) (vm : Int) (vn : Int) (m_rest : Nat) (m_ends : Nat) (vc : Int) (m_chan : Nat) (m_spl : Nat) (fs : Int) (rn : Int) (m_rf : Nat) (m_rr : Nat) (m_ik : Nat) (m_km : Nat) (m_kb : Nat) (m_kc : Nat) (m_kf : Nat) (m_kr : Nat) (MG : Int → Int) (MB : Int → Int) (MC : Int → Int) (ME : Int → Int) (bq : Int) (la : Int) (uq : Int) (hM : mbOK fn MB MC) (hbq : 0 ≤ bq ∧ bq < fn) (hg : gOK gl gp gx gy MG) (hla : 0 ≤ la ∧ la < gl) (huq : uq = 0 ∨ uq = 1) (sz : Nat) : Met l yX12_far wsX12_far ({ frames := 5, cells := 0, slots := 0, locals := 124 } : Room) (wPc D y [] [(m0, .inr (11, [.ref m_read, zi rl, zi rp, .ref m_gut, zi gl, zi gp, zi gx, zi gy, .ref m_text, zi tn, zi fn, .ref m_boat, .ref m_coins, zi vw, zi vm, zi vn, .ref m_rest, .ref m_ends, zl vc, .ref m_chan, .ref m_spl, zi fs, zi rn, .ref m_rf, .ref m_rr, .ref m_ik, .ref m_km, .ref m_kb, .ref m_kc, .ref m_kf, .ref m_kr])), (m_gut, .inl (y 0, 36, .inl (cI MG))), (m_boat, .inl (y 0, 42, .inl (cI MB))), (m_coins, .inl (y 0, 144, .inl (cI MC))), (m_ends, .inl (y 1, 12, .inr (.inl (cL ME))))] sz [.ref m0, zi bq, zi la, zi uq]) (wQ D (fun (x9 : Int × Int × Int × Int × (Int → Int)) => match x9 with | (vw2, vm2, vn2, vc2, ME2) => some (zl (tellV (crF (acx gl gp gx gy MG la (lifeV (MB (7 * bq)) (MB (7 * bq + 1)) (MB (7 * bq + 2)) (MB (7 * bq + 3)) (MB (7 * bq + 4)) (MB (7 * bq + 5)) (MB (7 * bq + 6)) (mCI MC bq) (mCJ MC bq) (mCW MC bq))) gp.toNat) (10 ^ gp.toNat) uq))) (fun (x9 : Int × Int × Int × Int × (Int → Int)) => match x9 with | (vw2, vm2, vn2, vc2, ME2) => True) (fun (x9 : Int × Int × Int × Int × (Int → Int)) => match x9 with | (vw2, vm2, vn2, vc2, ME2) => [(m0, .inr (11, [.ref m_read, zi rl, zi rp, .ref m_gut, zi gl, zi gp, zi gx, zi gy, .ref m_text, zi tn, zi fn, .ref m_boat, .ref m_coins, zi vw2, zi vm2, zi vn2, .ref m_rest, .ref m_ends, zl vc2, .ref m_chan, .ref m_spl, zi fs, zi rn, .ref m_rf, .ref m_rr, .ref m_ik, .ref m_km, .ref m_kb, .ref m_kc, .ref m_kf, .ref m_kr])), (m_gut, .inl (y 0, 36, .inl (cI MG))), (m_boat, .inl (y 0, 42, .inl (cI MB))), (m_coins, .inl (y 0, 144, .inl (cI MC))), (m_ends, .inl (y 1, 12, .inr (.inl (cL ME2))))]) (va_A [(m0, .inr (11, [.ref m_read, zi rl, zi rp, .ref m_gut, zi gl, zi gp, zi gx, zi gy, .ref m_text, zi tn, zi fn, .ref m_boat, .ref m_coins, zi vw, zi vm, zi vn, .ref m_rest, .ref m_ends, zl vc, .ref m_chan, .ref m_spl, zi fs, zi rn, .ref m_rf, .ref m_rr, .ref m_ik, .ref m_km, .ref m_kb, .ref m_kc, .ref m_kf, .ref m_kr])), (m_gut, .inl (y 0, 36, .inl (cI MG))), (m_boat, .inl (y 0, 42, .inl (cI MB))), (m_coins, .inl (y 0, 144, .inl (cI MC))), (m_ends, .inl (y 1, 12, .inr (.inl (cL ME))))] sz)) 0 0 (va_A [(m0, .inr (11, [.ref m_read, zi rl, zi rp, .ref m_gut, zi gl, zi gp, zi gx, zi gy, .ref m_text, zi tn, zi fn, .ref m_boat, .ref m_coins, zi vw, zi vm, zi vn, .ref m_rest, .ref m_ends, zl vc, .ref m_chan, .ref m_spl, zi fs, zi rn, .ref m_rf, .ref m_rr, .ref m_ik, .ref m_km, .ref m_kb, .ref m_kc, .ref m_kf, .ref m_kr])), (m_gut, .inl (y 0, 36, .inl (cI MG))), (m_boat, .inl (y 0, 42, .inl (cI MB))), (m_coins, .inl (y 0, 144, .inl (cI MC))), (m_ends, .inl (y 1, 12, .inr (.inl (cL ME))))] sz) := by
  refine W_of (own := RX12) (cc := cX12_far) (maxL := 4) (ret := some .long) (by decide) rfl rfl (Nat.le_of_ble_eq_true rfl) (fun p e s m below meth c ls A hx hb hr hC hlocks hin0 hR0 hN hP hD hA hG hl => ?_)
  have hC0 := hC
  obtain ⟨-, -, hml, hown, hts⟩ := hC0
  have hK := hG.1
  have hS : va_S A s.heap s.heap [] := va_S.rf
  have hPr := hR0
  have hinX12 : ∀ w ∈ wsX120, w ∈ wsX12_far := fun _ h => List.mem_cons_of_mem _ (List.mem_append_right _ h)
  have k2 := hts (.fieldLink RX12 199 "BoatsOfPaperModel" "crossings" "J") (List.mem_of_getElem? (i := 2) rfl)
  have hl : lv_has ls 4 [(0, .ref m0), (1, zi bq), (2, zi la), (3, zi uq)] := hl
  have hB := hM.2 bq hbq.1 hbq.2
  obtain ⟨q1, q2, q3, q4, q5, q6, q7, q8, q9, qc⟩ := id hB
  have qf := hM.1
  obtain ⟨u1, u2, u3, u4, uk⟩ := id hg
  have hl9 := lifeV_bd hB
  have ha := acx_bd hg la (lifeV (MB (7 * bq)) (MB (7 * bq + 1)) (MB (7 * bq + 2)) (MB (7 * bq + 3)) (MB (7 * bq + 4)) (MB (7 * bq + 5)) (MB (7 * bq + 6)) (mCI MC bq) (mCJ MC bq) (mCW MC bq))
  have t1 := ten12 (r := gp.toNat) (by omega)
  have t2 := ten_p gp.toNat
  have t3 := crF_bd ha gp.toNat
  have t4 := mul_bd (a := (gp.toNat : Int)) (b := 10 ^ gp.toNat) (A := 12) (B := 1000000000000) (by omega) (by omega) (by omega) (by omega)
  refine lv_aload_n hx hb dX12_far_0 rfl (lv_at hl 0 rfl) ?_
  refine lv_iload_n hx hb dX12_far_1 rfl (lv_at hl 1 rfl) ?_
  refine z_pV (As := [zi bq]) (rest := []) hC (c_X12_isBoat l D y m0 m_read rl rp m_gut gl gp gx gy m_text tn fn m_boat m_coins vw vm vn m_rest m_ends vc m_chan m_spl fs rn m_rf m_rr m_ik m_km m_kb m_kc m_kf m_kr bq (by first | assumption | omega) (by first | assumption | omega)) (cwV 1 hts gX12_far_X12_isBoat rfl rfl rfl (by decide +kernel) ⟨Nat.le_of_ble_eq_true rfl, Nat.le_of_ble_eq_true rfl⟩) hG (hP.sub (ws' := [(m0, .inr (11, [.ref m_read, zi rl, zi rp, .ref m_gut, zi gl, zi gp, zi gx, zi gy, .ref m_text, zi tn, zi fn, .ref m_boat, .ref m_coins, zi vw, zi vm, zi vn, .ref m_rest, .ref m_ends, zl vc, .ref m_chan, .ref m_spl, zi fs, zi rn, .ref m_rf, .ref m_rr, .ref m_ik, .ref m_km, .ref m_kb, .ref m_kc, .ref m_kf, .ref m_kr]))]) [0] rfl) 0 rfl rfl rfl hl.1 rfl (Nat.le_of_ble_eq_true rfl) dX12_far_2 ⟨Nat.le_of_ble_eq_true rfl, Nat.le_of_ble_eq_true rfl⟩ ?_
  refine z_ifB_eq (tgt := 16) hx hb dX12_far_5 (by decide) (fun c_5 => ?_) (fun c_5 => ?_)
  · exfalso; omega
  ·
    refine lv_aload_n hx hb dX12_far_8 rfl (lv_at hl 0 rfl) ?_
    refine lv_iload_n hx hb dX12_far_9 rfl (lv_at hl 2 rfl) ?_
    refine z_pV (As := [zi la]) (rest := []) hC (c_X12_isLane l D y m0 m_read rl rp m_gut gl gp gx gy m_text tn fn m_boat m_coins vw vm vn m_rest m_ends vc m_chan m_spl fs rn m_rf m_rr m_ik m_km m_kb m_kc m_kf m_kr la (by first | assumption | omega) (by first | assumption | omega)) (cwV 1 hts gX12_far_X12_isLane rfl rfl rfl (by decide +kernel) ⟨Nat.le_of_ble_eq_true rfl, Nat.le_of_ble_eq_true rfl⟩) hG (hP.sub (ws' := [(m0, .inr (11, [.ref m_read, zi rl, zi rp, .ref m_gut, zi gl, zi gp, zi gx, zi gy, .ref m_text, zi tn, zi fn, .ref m_boat, .ref m_coins, zi vw, zi vm, zi vn, .ref m_rest, .ref m_ends, zl vc, .ref m_chan, .ref m_spl, zi fs, zi rn, .ref m_rf, .ref m_rr, .ref m_ik, .ref m_km, .ref m_kb, .ref m_kc, .ref m_kf, .ref m_kr]))]) [0] rfl) 0 rfl rfl rfl hl.1 rfl (Nat.le_of_ble_eq_true rfl) dX12_far_10 ⟨Nat.le_of_ble_eq_true rfl, Nat.le_of_ble_eq_true rfl⟩ ?_
    refine z_ifB_ne (tgt := 20) hx hb dX12_far_13 (by decide) (fun c_13 => ?_) (fun c_13 => ?_)
    ·
      refine lv_aload_n hx hb dX12_far_20 rfl (lv_at hl 0 rfl) ?_
      refine lv_iload_n hx hb dX12_far_21 rfl (lv_at hl 1 rfl) ?_
      refine lv_iload_n hx hb dX12_far_22 rfl (lv_at hl 2 rfl) ?_
      refine z_wV (As := [zi bq, zi la]) (rest := []) (wc := [(m0, .inr (11, [.ref m_read, zi rl, zi rp, .ref m_gut, zi gl, zi gp, zi gx, zi gy, .ref m_text, zi tn, zi fn, .ref m_boat, .ref m_coins, zi vw, zi vm, zi vn, .ref m_rest, .ref m_ends, zl vc, .ref m_chan, .ref m_spl, zi fs, zi rn, .ref m_rf, .ref m_rr, .ref m_ik, .ref m_km, .ref m_kb, .ref m_kc, .ref m_kf, .ref m_kr])), (m_gut, .inl (y 0, 36, .inl (cI MG))), (m_boat, .inl (y 0, 42, .inl (cI MB))), (m_coins, .inl (y 0, 144, .inl (cI MC))), (m_ends, .inl (y 1, 12, .inr (.inl (cL ME))))]) (wrest := []) hC (c_X12_layDrift l D y m0 m_read rl rp m_gut gl gp gx gy m_text tn fn m_boat m_coins vw vm vn m_rest m_ends vc m_chan m_spl fs rn m_rf m_rr m_ik m_km m_kb m_kc m_kf m_kr MG MB MC ME bq la (by first | assumption | omega) (by first | assumption | omega) (by first | assumption | omega) (by first | assumption | omega) _) (cwV 2 hts gX12_far_X12_layDrift rfl rfl rfl (by decide +kernel) ⟨Nat.le_of_ble_eq_true rfl, Nat.le_of_ble_eq_true rfl⟩) hG hP hD hS hA [0, 1, 2, 3, 4] [] rfl rfl (by decide) (by decide) (by decide) va_P_nil ro_nil 0 rfl rfl rfl hl.1 rfl (Nat.le_of_ble_eq_true rfl) dX12_far_23 ⟨Nat.le_of_ble_eq_true rfl, Nat.le_of_ble_eq_true rfl⟩ (fun u9 H locs hw_6 hP hD hS => ?_)
      obtain ⟨vw2, vm2, vn2, vc2, ME2⟩ := u9
      have hw_6 : vc2 = crF (acx gl gp gx gy MG la (lifeV (MB (7 * bq)) (MB (7 * bq + 1)) (MB (7 * bq + 2)) (MB (7 * bq + 3)) (MB (7 * bq + 4)) (MB (7 * bq + 5)) (MB (7 * bq + 6)) (mCI MC bq) (mCJ MC bq) (mCW MC bq))) gp.toNat ∧ ∀ j : Int, 0 ≤ j → j < gp → ME2 j = enF (acx gl gp gx gy MG la (lifeV (MB (7 * bq)) (MB (7 * bq + 1)) (MB (7 * bq + 2)) (MB (7 * bq + 3)) (MB (7 * bq + 4)) (MB (7 * bq + 5)) (MB (7 * bq + 6)) (mCI MC bq) (mCJ MC bq) (mCW MC bq))) j * 10 ^ (gp - (j + 1)).toNat := hw_6
      have hP : va_P D vwCl [(m0, .inr (11, [.ref m_read, zi rl, zi rp, .ref m_gut, zi gl, zi gp, zi gx, zi gy, .ref m_text, zi tn, zi fn, .ref m_boat, .ref m_coins, zi vw2, zi vm2, zi vn2, .ref m_rest, .ref m_ends, zl vc2, .ref m_chan, .ref m_spl, zi fs, zi rn, .ref m_rf, .ref m_rr, .ref m_ik, .ref m_km, .ref m_kb, .ref m_kc, .ref m_kf, .ref m_kr])), (m_gut, .inl (y 0, 36, .inl (cI MG))), (m_boat, .inl (y 0, 42, .inl (cI MB))), (m_coins, .inl (y 0, 144, .inl (cI MC))), (m_ends, .inl (y 1, 12, .inr (.inl (cL ME2))))] H := hP
      have hD : va_D A [(m0, .inr (11, [.ref m_read, zi rl, zi rp, .ref m_gut, zi gl, zi gp, zi gx, zi gy, .ref m_text, zi tn, zi fn, .ref m_boat, .ref m_coins, zi vw2, zi vm2, zi vn2, .ref m_rest, .ref m_ends, zl vc2, .ref m_chan, .ref m_spl, zi fs, zi rn, .ref m_rf, .ref m_rr, .ref m_ik, .ref m_km, .ref m_kb, .ref m_kc, .ref m_kf, .ref m_kr])), (m_gut, .inl (y 0, 36, .inl (cI MG))), (m_boat, .inl (y 0, 42, .inl (cI MB))), (m_coins, .inl (y 0, 144, .inl (cI MC))), (m_ends, .inl (y 1, 12, .inr (.inl (cL ME2))))] := hD
      obtain ⟨f1, f2⟩ := hw_6
      refine lv_aload_n hx hb dX12_far_26 rfl (lv_at hl 0 rfl) ?_
      refine va_get hx hb hts hinX12 hown hK hP 0 rfl rfl 18 (by decide) k2 (fun _ h => h) rfl dX12_far_27 ?_
      refine lv_aload_n hx hb dX12_far_30 rfl (lv_at hl 0 rfl) ?_
      refine z_pV (As := []) (rest := [zl vc2]) hC (c_X12_whole l D y m0 m_read rl rp m_gut gl gp gx gy m_text tn fn m_boat m_coins vw2 vm2 vn2 m_rest m_ends vc2 m_chan m_spl fs rn m_rf m_rr m_ik m_km m_kb m_kc m_kf m_kr (by first | assumption | omega)) (cwV 0 hts gX12_far_X12_whole rfl rfl rfl (by decide +kernel) ⟨Nat.le_of_ble_eq_true rfl, Nat.le_of_ble_eq_true rfl⟩) hG (hP.sub (ws' := [(m0, .inr (11, [.ref m_read, zi rl, zi rp, .ref m_gut, zi gl, zi gp, zi gx, zi gy, .ref m_text, zi tn, zi fn, .ref m_boat, .ref m_coins, zi vw2, zi vm2, zi vn2, .ref m_rest, .ref m_ends, zl vc2, .ref m_chan, .ref m_spl, zi fs, zi rn, .ref m_rf, .ref m_rr, .ref m_ik, .ref m_km, .ref m_kb, .ref m_kc, .ref m_kf, .ref m_kr]))]) [0] rfl) 0 rfl rfl rfl hl.1 rfl (Nat.le_of_ble_eq_true rfl) dX12_far_31 ⟨Nat.le_of_ble_eq_true rfl, Nat.le_of_ble_eq_true rfl⟩ ?_
      refine lv_iload_n hx hb dX12_far_34 rfl (lv_at hl 3 rfl) ?_
      refine z_pS (As := [zl vc2, zl (10 ^ gp.toNat), zi uq]) (rest := []) hC (c_X12_part l D y vc2 (10 ^ gp.toNat) uq (by first | assumption | omega) (by first | assumption | omega)) (va_cwS 3 hts gX12_far_X12_part rfl rfl rfl (by decide +kernel) ⟨Nat.le_of_ble_eq_true rfl, Nat.le_of_ble_eq_true rfl⟩) hG va_P_nil rfl hl.1 rfl (Nat.le_of_ble_eq_true rfl) dX12_far_35 ⟨Nat.le_of_ble_eq_true rfl, Nat.le_of_ble_eq_true rfl⟩ ?_
      exact z_lretW hx hb hr hlocks (vw2, vm2, vn2, vc2, ME2) (by exact congrArg (fun z => some (zl z)) (by rw [f1])) (trivial) (hP.sub [0, 1, 2, 3, 4] rfl) (hD.sub [0, 1, 2, 3, 4] (by decide) rfl) hS dX12_far_38
    · exfalso; omega
set_option maxHeartbeats 8000000 in
set_option maxRecDepth 100000 in
theorem c_X12_ended_no (l : Launch) (D : va_G) (y : Nat → ClassId) (m0 : Nat) (m_read : Nat) (rl : Int) (rp : Int) (m_gut : Nat) (gl : Int) (gp : Int) (gx : Int) (gy : Int) (m_text : Nat) (tn : Int) (fn : Int) (m_boat : Nat) (m_coins : Nat) (vw : Int) (vm : Int) (vn : Int) (m_rest : Nat) (m_ends : Nat) (vc : Int) (m_chan : Nat) (m_spl : Nat) (fs : Int) (rn : Int) (m_rf : Nat) (m_rr : Nat) (m_ik : Nat) (m_km : Nat) (m_kb : Nat) (m_kc : Nat) (m_kf : Nat) (m_kr : Nat) (bq : Int) (la : Int) (pl : Int) (uq : Int) (hbq : rI bq ∧ 0 ≤ fn ∧ fn ≤ 6) (hla : rI la ∧ 1 ≤ gl ∧ gl ≤ 3) (hpl : rI pl ∧ 1 ≤ gp ∧ gp ≤ 12) (hq : ¬ (0 ≤ bq ∧ bq < fn) ∨ ¬ (0 ≤ la ∧ la < gl) ∨ ¬ (0 ≤ pl ∧ pl < gp)) : Met l yX12_ended wsX12_ended ({ frames := 2, cells := 0, slots := 0, locals := 46 } : Room) (pPc D y [(m0, .inr (11, [.ref m_read, zi rl, zi rp, .ref m_gut, zi gl, zi gp, zi gx, zi gy, .ref m_text, zi tn, zi fn, .ref m_boat, .ref m_coins, zi vw, zi vm, zi vn, .ref m_rest, .ref m_ends, zl vc, .ref m_chan, .ref m_spl, zi fs, zi rn, .ref m_rf, .ref m_rr, .ref m_ik, .ref m_km, .ref m_kb, .ref m_kc, .ref m_kf, .ref m_kr]))] [.ref m0, zi bq, zi la, zi pl, zi uq]) (qV (zl (-1))) 0 0 (fun _ => False) := by
  refine P_of (own := RX12) (cc := cX12_ended) (maxL := 5) (ret := some .long) (by decide) rfl rfl (Nat.le_of_ble_eq_true rfl) (fun p e s m below meth c ls hx hb hr hC hlocks hPr hG hl => ?_)
  have hC0 := hC
  obtain ⟨-, -, hml, hown, hts⟩ := hC0
  have hK := hG.1
  have k1 := hts (.constantLong RX12 151 (-1)) (List.mem_of_getElem? (i := 1) rfl)
  have hl : lv_has ls 5 [(0, .ref m0), (1, zi bq), (2, zi la), (3, zi pl), (4, zi uq)] := hl
  refine lv_aload_n hx hb dX12_ended_0 rfl (lv_at hl 0 rfl) ?_
  refine lv_iload_n hx hb dX12_ended_1 rfl (lv_at hl 1 rfl) ?_
  refine z_pV (As := [zi bq]) (rest := []) hC (c_X12_isBoat l D y m0 m_read rl rp m_gut gl gp gx gy m_text tn fn m_boat m_coins vw vm vn m_rest m_ends vc m_chan m_spl fs rn m_rf m_rr m_ik m_km m_kb m_kc m_kf m_kr bq (by first | assumption | omega) (by first | assumption | omega)) (cwV 1 hts gX12_ended_X12_isBoat rfl rfl rfl (by decide +kernel) ⟨Nat.le_of_ble_eq_true rfl, Nat.le_of_ble_eq_true rfl⟩) hG (hPr.sub (ws' := [(m0, .inr (11, [.ref m_read, zi rl, zi rp, .ref m_gut, zi gl, zi gp, zi gx, zi gy, .ref m_text, zi tn, zi fn, .ref m_boat, .ref m_coins, zi vw, zi vm, zi vn, .ref m_rest, .ref m_ends, zl vc, .ref m_chan, .ref m_spl, zi fs, zi rn, .ref m_rf, .ref m_rr, .ref m_ik, .ref m_km, .ref m_kb, .ref m_kc, .ref m_kf, .ref m_kr]))]) [0] rfl) 0 rfl rfl rfl hl.1 rfl (Nat.le_of_ble_eq_true rfl) dX12_ended_2 ⟨Nat.le_of_ble_eq_true rfl, Nat.le_of_ble_eq_true rfl⟩ ?_
  refine z_ifB_eq (tgt := 24) hx hb dX12_ended_5 (by decide) (fun c_5 => ?_) (fun c_5 => ?_)
  ·
    refine lv_ldc2 (v := iL (-1)) hx hb hown k1 dX12_ended_24 ?_
    exact z_lret0 hx hb hr hlocks (rfl) dX12_ended_27
  ·
    refine lv_aload_n hx hb dX12_ended_8 rfl (lv_at hl 0 rfl) ?_
    refine lv_iload_n hx hb dX12_ended_9 rfl (lv_at hl 2 rfl) ?_
    refine z_pV (As := [zi la]) (rest := []) hC (c_X12_isLane l D y m0 m_read rl rp m_gut gl gp gx gy m_text tn fn m_boat m_coins vw vm vn m_rest m_ends vc m_chan m_spl fs rn m_rf m_rr m_ik m_km m_kb m_kc m_kf m_kr la (by first | assumption | omega) (by first | assumption | omega)) (cwV 1 hts gX12_ended_X12_isLane rfl rfl rfl (by decide +kernel) ⟨Nat.le_of_ble_eq_true rfl, Nat.le_of_ble_eq_true rfl⟩) hG (hPr.sub (ws' := [(m0, .inr (11, [.ref m_read, zi rl, zi rp, .ref m_gut, zi gl, zi gp, zi gx, zi gy, .ref m_text, zi tn, zi fn, .ref m_boat, .ref m_coins, zi vw, zi vm, zi vn, .ref m_rest, .ref m_ends, zl vc, .ref m_chan, .ref m_spl, zi fs, zi rn, .ref m_rf, .ref m_rr, .ref m_ik, .ref m_km, .ref m_kb, .ref m_kc, .ref m_kf, .ref m_kr]))]) [0] rfl) 0 rfl rfl rfl hl.1 rfl (Nat.le_of_ble_eq_true rfl) dX12_ended_10 ⟨Nat.le_of_ble_eq_true rfl, Nat.le_of_ble_eq_true rfl⟩ ?_
    refine z_ifB_eq (tgt := 24) hx hb dX12_ended_13 (by decide) (fun c_13 => ?_) (fun c_13 => ?_)
    ·
      refine lv_ldc2 (v := iL (-1)) hx hb hown k1 dX12_ended_24 ?_
      exact z_lret0 hx hb hr hlocks (rfl) dX12_ended_27
    ·
      refine lv_aload_n hx hb dX12_ended_16 rfl (lv_at hl 0 rfl) ?_
      refine lv_iload_n hx hb dX12_ended_17 rfl (lv_at hl 3 rfl) ?_
      refine z_pV (As := [zi pl]) (rest := []) hC (c_X12_isPlace l D y m0 m_read rl rp m_gut gl gp gx gy m_text tn fn m_boat m_coins vw vm vn m_rest m_ends vc m_chan m_spl fs rn m_rf m_rr m_ik m_km m_kb m_kc m_kf m_kr pl (by first | assumption | omega) (by first | assumption | omega)) (cwV 1 hts gX12_ended_X12_isPlace rfl rfl rfl (by decide +kernel) ⟨Nat.le_of_ble_eq_true rfl, Nat.le_of_ble_eq_true rfl⟩) hG (hPr.sub (ws' := [(m0, .inr (11, [.ref m_read, zi rl, zi rp, .ref m_gut, zi gl, zi gp, zi gx, zi gy, .ref m_text, zi tn, zi fn, .ref m_boat, .ref m_coins, zi vw, zi vm, zi vn, .ref m_rest, .ref m_ends, zl vc, .ref m_chan, .ref m_spl, zi fs, zi rn, .ref m_rf, .ref m_rr, .ref m_ik, .ref m_km, .ref m_kb, .ref m_kc, .ref m_kf, .ref m_kr]))]) [0] rfl) 0 rfl rfl rfl hl.1 rfl (Nat.le_of_ble_eq_true rfl) dX12_ended_18 ⟨Nat.le_of_ble_eq_true rfl, Nat.le_of_ble_eq_true rfl⟩ ?_
      refine z_ifB_ne (tgt := 28) hx hb dX12_ended_21 (by decide) (fun c_21 => ?_) (fun c_21 => ?_)
      · exfalso; omega
      ·
        refine lv_ldc2 (v := iL (-1)) hx hb hown k1 dX12_ended_24 ?_
        exact z_lret0 hx hb hr hlocks (rfl) dX12_ended_27
set_option maxHeartbeats 8000000 in
set_option maxRecDepth 100000 in
theorem c_X12_ended (l : Launch) (D : va_G) (y : Nat → ClassId) (m0 : Nat) (m_read : Nat) (rl : Int) (rp : Int) (m_gut : Nat) (gl : Int) (gp : Int) (gx : Int) (gy : Int) (m_text : Nat) (tn : Int) (fn : Int) (m_boat : Nat) (m_coins : Nat) (vw : Int) (vm : Int) (vn : Int) (m_rest : Nat) (m_ends : Nat) (vc : Int) (m_chan : Nat) (m_spl : Nat) (fs : Int) (rn : Int) (m_rf : Nat) (m_rr : Nat) (m_ik : Nat) (m_km : Nat) (m_kb : Nat) (m_kc : Nat) (m_kf : Nat) (m_kr : Nat) (MG : Int → Int) (MB : Int → Int) (MC : Int → Int) (ME : Int → Int) (bq : Int) (la : Int) (pl : Int) (uq : Int) (hM : mbOK fn MB MC) (hbq : 0 ≤ bq ∧ bq < fn) (hg : gOK gl gp gx gy MG) (hla : 0 ≤ la ∧ la < gl) (hpl : 0 ≤ pl ∧ pl < gp) (huq : uq = 0 ∨ uq = 1) (sz : Nat) : Met l yX12_ended wsX12_ended ({ frames := 5, cells := 0, slots := 0, locals := 124 } : Room) (wPc D y [] [(m0, .inr (11, [.ref m_read, zi rl, zi rp, .ref m_gut, zi gl, zi gp, zi gx, zi gy, .ref m_text, zi tn, zi fn, .ref m_boat, .ref m_coins, zi vw, zi vm, zi vn, .ref m_rest, .ref m_ends, zl vc, .ref m_chan, .ref m_spl, zi fs, zi rn, .ref m_rf, .ref m_rr, .ref m_ik, .ref m_km, .ref m_kb, .ref m_kc, .ref m_kf, .ref m_kr])), (m_gut, .inl (y 0, 36, .inl (cI MG))), (m_boat, .inl (y 0, 42, .inl (cI MB))), (m_coins, .inl (y 0, 144, .inl (cI MC))), (m_ends, .inl (y 1, 12, .inr (.inl (cL ME))))] sz [.ref m0, zi bq, zi la, zi pl, zi uq]) (wQ D (fun (x9 : Int × Int × Int × Int × (Int → Int)) => match x9 with | (vw2, vm2, vn2, vc2, ME2) => some (zl (tellV (enF (acx gl gp gx gy MG la (lifeV (MB (7 * bq)) (MB (7 * bq + 1)) (MB (7 * bq + 2)) (MB (7 * bq + 3)) (MB (7 * bq + 4)) (MB (7 * bq + 5)) (MB (7 * bq + 6)) (mCI MC bq) (mCJ MC bq) (mCW MC bq))) pl) (10 ^ (pl + 1).toNat) uq))) (fun (x9 : Int × Int × Int × Int × (Int → Int)) => match x9 with | (vw2, vm2, vn2, vc2, ME2) => True) (fun (x9 : Int × Int × Int × Int × (Int → Int)) => match x9 with | (vw2, vm2, vn2, vc2, ME2) => [(m0, .inr (11, [.ref m_read, zi rl, zi rp, .ref m_gut, zi gl, zi gp, zi gx, zi gy, .ref m_text, zi tn, zi fn, .ref m_boat, .ref m_coins, zi vw2, zi vm2, zi vn2, .ref m_rest, .ref m_ends, zl vc2, .ref m_chan, .ref m_spl, zi fs, zi rn, .ref m_rf, .ref m_rr, .ref m_ik, .ref m_km, .ref m_kb, .ref m_kc, .ref m_kf, .ref m_kr])), (m_gut, .inl (y 0, 36, .inl (cI MG))), (m_boat, .inl (y 0, 42, .inl (cI MB))), (m_coins, .inl (y 0, 144, .inl (cI MC))), (m_ends, .inl (y 1, 12, .inr (.inl (cL ME2))))]) (va_A [(m0, .inr (11, [.ref m_read, zi rl, zi rp, .ref m_gut, zi gl, zi gp, zi gx, zi gy, .ref m_text, zi tn, zi fn, .ref m_boat, .ref m_coins, zi vw, zi vm, zi vn, .ref m_rest, .ref m_ends, zl vc, .ref m_chan, .ref m_spl, zi fs, zi rn, .ref m_rf, .ref m_rr, .ref m_ik, .ref m_km, .ref m_kb, .ref m_kc, .ref m_kf, .ref m_kr])), (m_gut, .inl (y 0, 36, .inl (cI MG))), (m_boat, .inl (y 0, 42, .inl (cI MB))), (m_coins, .inl (y 0, 144, .inl (cI MC))), (m_ends, .inl (y 1, 12, .inr (.inl (cL ME))))] sz)) 0 0 (va_A [(m0, .inr (11, [.ref m_read, zi rl, zi rp, .ref m_gut, zi gl, zi gp, zi gx, zi gy, .ref m_text, zi tn, zi fn, .ref m_boat, .ref m_coins, zi vw, zi vm, zi vn, .ref m_rest, .ref m_ends, zl vc, .ref m_chan, .ref m_spl, zi fs, zi rn, .ref m_rf, .ref m_rr, .ref m_ik, .ref m_km, .ref m_kb, .ref m_kc, .ref m_kf, .ref m_kr])), (m_gut, .inl (y 0, 36, .inl (cI MG))), (m_boat, .inl (y 0, 42, .inl (cI MB))), (m_coins, .inl (y 0, 144, .inl (cI MC))), (m_ends, .inl (y 1, 12, .inr (.inl (cL ME))))] sz) := by
  refine W_of (own := RX12) (cc := cX12_ended) (maxL := 5) (ret := some .long) (by decide) rfl rfl (Nat.le_of_ble_eq_true rfl) (fun p e s m below meth c ls A hx hb hr hC hlocks hin0 hR0 hN hP hD hA hG hl => ?_)
  have hC0 := hC
  obtain ⟨-, -, hml, hown, hts⟩ := hC0
  have hK := hG.1
  have hS : va_S A s.heap s.heap [] := va_S.rf
  have hPr := hR0
  have hinX12 : ∀ w ∈ wsX120, w ∈ wsX12_ended := fun _ h => List.mem_cons_of_mem _ (List.mem_append_right _ h)
  have k2 := hts (.fieldLink RX12 28 "BoatsOfPaperModel" "ends" "[J") (List.mem_of_getElem? (i := 2) rfl)
  have hl : lv_has ls 5 [(0, .ref m0), (1, zi bq), (2, zi la), (3, zi pl), (4, zi uq)] := hl
  have hB := hM.2 bq hbq.1 hbq.2
  obtain ⟨q1, q2, q3, q4, q5, q6, q7, q8, q9, qc⟩ := id hB
  have qf := hM.1
  obtain ⟨u1, u2, u3, u4, uk⟩ := id hg
  have hl9 := lifeV_bd hB
  have ha := acx_bd hg la (lifeV (MB (7 * bq)) (MB (7 * bq + 1)) (MB (7 * bq + 2)) (MB (7 * bq + 3)) (MB (7 * bq + 4)) (MB (7 * bq + 5)) (MB (7 * bq + 6)) (mCI MC bq) (mCJ MC bq) (mCW MC bq))
  have t1 := ten12 (r := gp.toNat) (by omega)
  have t2 := ten_p gp.toNat
  have t4 := scale_bd (t := 10 ^ (gp - (pl + 1)).toNat) (ten_p _) (enF_bd ha hpl.1).1 (enF_bd ha hpl.1).2 (Int.le_of_eq (ten_split hpl.1 hpl.2))
  refine lv_aload_n hx hb dX12_ended_0 rfl (lv_at hl 0 rfl) ?_
  refine lv_iload_n hx hb dX12_ended_1 rfl (lv_at hl 1 rfl) ?_
  refine z_pV (As := [zi bq]) (rest := []) hC (c_X12_isBoat l D y m0 m_read rl rp m_gut gl gp gx gy m_text tn fn m_boat m_coins vw vm vn m_rest m_ends vc m_chan m_spl fs rn m_rf m_rr m_ik m_km m_kb m_kc m_kf m_kr bq (by first | assumption | omega) (by first | assumption | omega)) (cwV 1 hts gX12_ended_X12_isBoat rfl rfl rfl (by decide +kernel) ⟨Nat.le_of_ble_eq_true rfl, Nat.le_of_ble_eq_true rfl⟩) hG (hP.sub (ws' := [(m0, .inr (11, [.ref m_read, zi rl, zi rp, .ref m_gut, zi gl, zi gp, zi gx, zi gy, .ref m_text, zi tn, zi fn, .ref m_boat, .ref m_coins, zi vw, zi vm, zi vn, .ref m_rest, .ref m_ends, zl vc, .ref m_chan, .ref m_spl, zi fs, zi rn, .ref m_rf, .ref m_rr, .ref m_ik, .ref m_km, .ref m_kb, .ref m_kc, .ref m_kf, .ref m_kr]))]) [0] rfl) 0 rfl rfl rfl hl.1 rfl (Nat.le_of_ble_eq_true rfl) dX12_ended_2 ⟨Nat.le_of_ble_eq_true rfl, Nat.le_of_ble_eq_true rfl⟩ ?_
  refine z_ifB_eq (tgt := 24) hx hb dX12_ended_5 (by decide) (fun c_5 => ?_) (fun c_5 => ?_)
  · exfalso; omega
  ·
    refine lv_aload_n hx hb dX12_ended_8 rfl (lv_at hl 0 rfl) ?_
    refine lv_iload_n hx hb dX12_ended_9 rfl (lv_at hl 2 rfl) ?_
    refine z_pV (As := [zi la]) (rest := []) hC (c_X12_isLane l D y m0 m_read rl rp m_gut gl gp gx gy m_text tn fn m_boat m_coins vw vm vn m_rest m_ends vc m_chan m_spl fs rn m_rf m_rr m_ik m_km m_kb m_kc m_kf m_kr la (by first | assumption | omega) (by first | assumption | omega)) (cwV 1 hts gX12_ended_X12_isLane rfl rfl rfl (by decide +kernel) ⟨Nat.le_of_ble_eq_true rfl, Nat.le_of_ble_eq_true rfl⟩) hG (hP.sub (ws' := [(m0, .inr (11, [.ref m_read, zi rl, zi rp, .ref m_gut, zi gl, zi gp, zi gx, zi gy, .ref m_text, zi tn, zi fn, .ref m_boat, .ref m_coins, zi vw, zi vm, zi vn, .ref m_rest, .ref m_ends, zl vc, .ref m_chan, .ref m_spl, zi fs, zi rn, .ref m_rf, .ref m_rr, .ref m_ik, .ref m_km, .ref m_kb, .ref m_kc, .ref m_kf, .ref m_kr]))]) [0] rfl) 0 rfl rfl rfl hl.1 rfl (Nat.le_of_ble_eq_true rfl) dX12_ended_10 ⟨Nat.le_of_ble_eq_true rfl, Nat.le_of_ble_eq_true rfl⟩ ?_
    refine z_ifB_eq (tgt := 24) hx hb dX12_ended_13 (by decide) (fun c_13 => ?_) (fun c_13 => ?_)
    · exfalso; omega
    ·
      refine lv_aload_n hx hb dX12_ended_16 rfl (lv_at hl 0 rfl) ?_
      refine lv_iload_n hx hb dX12_ended_17 rfl (lv_at hl 3 rfl) ?_
      refine z_pV (As := [zi pl]) (rest := []) hC (c_X12_isPlace l D y m0 m_read rl rp m_gut gl gp gx gy m_text tn fn m_boat m_coins vw vm vn m_rest m_ends vc m_chan m_spl fs rn m_rf m_rr m_ik m_km m_kb m_kc m_kf m_kr pl (by first | assumption | omega) (by first | assumption | omega)) (cwV 1 hts gX12_ended_X12_isPlace rfl rfl rfl (by decide +kernel) ⟨Nat.le_of_ble_eq_true rfl, Nat.le_of_ble_eq_true rfl⟩) hG (hP.sub (ws' := [(m0, .inr (11, [.ref m_read, zi rl, zi rp, .ref m_gut, zi gl, zi gp, zi gx, zi gy, .ref m_text, zi tn, zi fn, .ref m_boat, .ref m_coins, zi vw, zi vm, zi vn, .ref m_rest, .ref m_ends, zl vc, .ref m_chan, .ref m_spl, zi fs, zi rn, .ref m_rf, .ref m_rr, .ref m_ik, .ref m_km, .ref m_kb, .ref m_kc, .ref m_kf, .ref m_kr]))]) [0] rfl) 0 rfl rfl rfl hl.1 rfl (Nat.le_of_ble_eq_true rfl) dX12_ended_18 ⟨Nat.le_of_ble_eq_true rfl, Nat.le_of_ble_eq_true rfl⟩ ?_
      refine z_ifB_ne (tgt := 28) hx hb dX12_ended_21 (by decide) (fun c_21 => ?_) (fun c_21 => ?_)
      ·
        refine lv_aload_n hx hb dX12_ended_28 rfl (lv_at hl 0 rfl) ?_
        refine lv_iload_n hx hb dX12_ended_29 rfl (lv_at hl 1 rfl) ?_
        refine lv_iload_n hx hb dX12_ended_30 rfl (lv_at hl 2 rfl) ?_
        refine z_wV (As := [zi bq, zi la]) (rest := []) (wc := [(m0, .inr (11, [.ref m_read, zi rl, zi rp, .ref m_gut, zi gl, zi gp, zi gx, zi gy, .ref m_text, zi tn, zi fn, .ref m_boat, .ref m_coins, zi vw, zi vm, zi vn, .ref m_rest, .ref m_ends, zl vc, .ref m_chan, .ref m_spl, zi fs, zi rn, .ref m_rf, .ref m_rr, .ref m_ik, .ref m_km, .ref m_kb, .ref m_kc, .ref m_kf, .ref m_kr])), (m_gut, .inl (y 0, 36, .inl (cI MG))), (m_boat, .inl (y 0, 42, .inl (cI MB))), (m_coins, .inl (y 0, 144, .inl (cI MC))), (m_ends, .inl (y 1, 12, .inr (.inl (cL ME))))]) (wrest := []) hC (c_X12_layDrift l D y m0 m_read rl rp m_gut gl gp gx gy m_text tn fn m_boat m_coins vw vm vn m_rest m_ends vc m_chan m_spl fs rn m_rf m_rr m_ik m_km m_kb m_kc m_kf m_kr MG MB MC ME bq la (by first | assumption | omega) (by first | assumption | omega) (by first | assumption | omega) (by first | assumption | omega) _) (cwV 2 hts gX12_ended_X12_layDrift rfl rfl rfl (by decide +kernel) ⟨Nat.le_of_ble_eq_true rfl, Nat.le_of_ble_eq_true rfl⟩) hG hP hD hS hA [0, 1, 2, 3, 4] [] rfl rfl (by decide) (by decide) (by decide) va_P_nil ro_nil 0 rfl rfl rfl hl.1 rfl (Nat.le_of_ble_eq_true rfl) dX12_ended_31 ⟨Nat.le_of_ble_eq_true rfl, Nat.le_of_ble_eq_true rfl⟩ (fun u9 H locs hw_6 hP hD hS => ?_)
        obtain ⟨vw2, vm2, vn2, vc2, ME2⟩ := u9
        have hw_6 : vc2 = crF (acx gl gp gx gy MG la (lifeV (MB (7 * bq)) (MB (7 * bq + 1)) (MB (7 * bq + 2)) (MB (7 * bq + 3)) (MB (7 * bq + 4)) (MB (7 * bq + 5)) (MB (7 * bq + 6)) (mCI MC bq) (mCJ MC bq) (mCW MC bq))) gp.toNat ∧ ∀ j : Int, 0 ≤ j → j < gp → ME2 j = enF (acx gl gp gx gy MG la (lifeV (MB (7 * bq)) (MB (7 * bq + 1)) (MB (7 * bq + 2)) (MB (7 * bq + 3)) (MB (7 * bq + 4)) (MB (7 * bq + 5)) (MB (7 * bq + 6)) (mCI MC bq) (mCJ MC bq) (mCW MC bq))) j * 10 ^ (gp - (j + 1)).toNat := hw_6
        have hP : va_P D vwCl [(m0, .inr (11, [.ref m_read, zi rl, zi rp, .ref m_gut, zi gl, zi gp, zi gx, zi gy, .ref m_text, zi tn, zi fn, .ref m_boat, .ref m_coins, zi vw2, zi vm2, zi vn2, .ref m_rest, .ref m_ends, zl vc2, .ref m_chan, .ref m_spl, zi fs, zi rn, .ref m_rf, .ref m_rr, .ref m_ik, .ref m_km, .ref m_kb, .ref m_kc, .ref m_kf, .ref m_kr])), (m_gut, .inl (y 0, 36, .inl (cI MG))), (m_boat, .inl (y 0, 42, .inl (cI MB))), (m_coins, .inl (y 0, 144, .inl (cI MC))), (m_ends, .inl (y 1, 12, .inr (.inl (cL ME2))))] H := hP
        have hD : va_D A [(m0, .inr (11, [.ref m_read, zi rl, zi rp, .ref m_gut, zi gl, zi gp, zi gx, zi gy, .ref m_text, zi tn, zi fn, .ref m_boat, .ref m_coins, zi vw2, zi vm2, zi vn2, .ref m_rest, .ref m_ends, zl vc2, .ref m_chan, .ref m_spl, zi fs, zi rn, .ref m_rf, .ref m_rr, .ref m_ik, .ref m_km, .ref m_kb, .ref m_kc, .ref m_kf, .ref m_kr])), (m_gut, .inl (y 0, 36, .inl (cI MG))), (m_boat, .inl (y 0, 42, .inl (cI MB))), (m_coins, .inl (y 0, 144, .inl (cI MC))), (m_ends, .inl (y 1, 12, .inr (.inl (cL ME2))))] := hD
        obtain ⟨f1, f2⟩ := hw_6
        have f3 := f2 pl hpl.1 hpl.2
        refine lv_aload_n hx hb dX12_ended_34 rfl (lv_at hl 0 rfl) ?_
        refine va_get hx hb hts hinX12 hown hK hP 0 rfl rfl 17 (by decide) k2 (fun _ h => h) rfl dX12_ended_35 ?_
        refine lv_iload_n hx hb dX12_ended_38 rfl (lv_at hl 3 rfl) ?_
        refine z_lald hx hb hK hP 4 1 rfl rfl (by omega) (by decide) dX12_ended_39 ?_
        refine lv_aload_n hx hb dX12_ended_40 rfl (lv_at hl 0 rfl) ?_
        refine z_pV (As := []) (rest := [zl (ME2 pl)]) hC (c_X12_whole l D y m0 m_read rl rp m_gut gl gp gx gy m_text tn fn m_boat m_coins vw2 vm2 vn2 m_rest m_ends vc2 m_chan m_spl fs rn m_rf m_rr m_ik m_km m_kb m_kc m_kf m_kr (by first | assumption | omega)) (cwV 0 hts gX12_ended_X12_whole rfl rfl rfl (by decide +kernel) ⟨Nat.le_of_ble_eq_true rfl, Nat.le_of_ble_eq_true rfl⟩) hG (hP.sub (ws' := [(m0, .inr (11, [.ref m_read, zi rl, zi rp, .ref m_gut, zi gl, zi gp, zi gx, zi gy, .ref m_text, zi tn, zi fn, .ref m_boat, .ref m_coins, zi vw2, zi vm2, zi vn2, .ref m_rest, .ref m_ends, zl vc2, .ref m_chan, .ref m_spl, zi fs, zi rn, .ref m_rf, .ref m_rr, .ref m_ik, .ref m_km, .ref m_kb, .ref m_kc, .ref m_kf, .ref m_kr]))]) [0] rfl) 0 rfl rfl rfl hl.1 rfl (Nat.le_of_ble_eq_true rfl) dX12_ended_41 ⟨Nat.le_of_ble_eq_true rfl, Nat.le_of_ble_eq_true rfl⟩ ?_
        refine lv_iload hx hb dX12_ended_44 (lv_at hl 4 rfl) ?_
        refine z_pS (As := [zl (ME2 pl), zl (10 ^ gp.toNat), zi uq]) (rest := []) hC (c_X12_part l D y (ME2 pl) (10 ^ gp.toNat) uq (by first | assumption | omega) (by first | assumption | omega)) (va_cwS 3 hts gX12_ended_X12_part rfl rfl rfl (by decide +kernel) ⟨Nat.le_of_ble_eq_true rfl, Nat.le_of_ble_eq_true rfl⟩) hG va_P_nil rfl hl.1 rfl (Nat.le_of_ble_eq_true rfl) dX12_ended_46 ⟨Nat.le_of_ble_eq_true rfl, Nat.le_of_ble_eq_true rfl⟩ ?_
        exact z_lretW hx hb hr hlocks (vw2, vm2, vn2, vc2, ME2) (by exact congrArg (fun z => some (zl z)) (by rw [f3, tell_end (enF_bd ha hpl.1).1 hpl.1 hpl.2])) (trivial) (hP.sub [0, 1, 2, 3, 4] rfl) (hD.sub [0, 1, 2, 3, 4] (by decide) rfl) hS dX12_ended_49
      · exfalso; omega
