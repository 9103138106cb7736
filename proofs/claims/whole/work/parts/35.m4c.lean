set_option maxHeartbeats 8000000 in
set_option maxRecDepth 100000 in
theorem c_X12_run_out (l : Launch) (D : va_G) (y : Nat → ClassId) (m0 : Nat) (m_read : Nat) (rl : Int) (rp : Int) (m_gut : Nat) (gl : Int) (gp : Int) (gx : Int) (gy : Int) (m_text : Nat) (tn : Int) (fn : Int) (m_boat : Nat) (m_coins : Nat) (vw : Int) (vm : Int) (vn : Int) (m_rest : Nat) (m_ends : Nat) (vc : Int) (m_chan : Nat) (m_spl : Nat) (fs : Int) (rn : Int) (m_rf : Nat) (m_rr : Nat) (m_ik : Nat) (m_km : Nat) (m_kb : Nat) (m_kc : Nat) (m_kf : Nat) (m_kr : Nat) (xf : Int) (xr : Int) (hr9 : rI xf) (hq : ¬ (0 ≤ xf ∧ xf ≤ 99)) : Met l yX12_run wsX12_run ({ frames := 1, cells := 0, slots := 0, locals := 25 } : Room) (pPc D y [(m0, .inr (11, [.ref m_read, zi rl, zi rp, .ref m_gut, zi gl, zi gp, zi gx, zi gy, .ref m_text, zi tn, zi fn, .ref m_boat, .ref m_coins, zi vw, zi vm, zi vn, .ref m_rest, .ref m_ends, zl vc, .ref m_chan, .ref m_spl, zi fs, zi rn, .ref m_rf, .ref m_rr, .ref m_ik, .ref m_km, .ref m_kb, .ref m_kc, .ref m_kf, .ref m_kr]))] [.ref m0, zi xf, zi xr]) (qV (zi (-2))) 0 0 (fun _ => False) := by
  refine P_of (own := RX12) (cc := cX12_run) (maxL := 3) (ret := some .int) (by decide) rfl rfl (Nat.le_of_ble_eq_true rfl) (fun p e s m below meth c ls hx hb hr hC hlocks hPr hG hl => ?_)
  have hC0 := hC
  obtain ⟨-, -, hml, hown, hts⟩ := hC0
  have hK := hG.1
  have k1 := hts (.constantLong RX12 128 (99)) (List.mem_of_getElem? (i := 1) rfl)
  have hl : lv_has ls 3 [(0, .ref m0), (1, zi xf), (2, zi xr)] := hl
  refine lv_iload_n hx hb dX12_run_0 rfl (lv_at hl 1 rfl) ?_
  refine z_i2l hx hb (by omega) dX12_run_1 ?_
  refine lv_lconst (v := iL 0) hx hb dX12_run_2 rfl ?_
  refine lv_ldc2 (v := iL 99) hx hb hown k1 dX12_run_3 ?_
  refine z_pS (As := [zl xf, zl 0, zl 99]) (rest := []) hC (c_X12_in l D y xf 0 99 (by first | assumption | omega)) (va_cwS 3 hts gX12_run_X12_in rfl rfl rfl (by decide +kernel) ⟨Nat.le_of_ble_eq_true rfl, Nat.le_of_ble_eq_true rfl⟩) hG va_P_nil rfl hl.1 rfl (Nat.le_of_ble_eq_true rfl) dX12_run_6 ⟨Nat.le_of_ble_eq_true rfl, Nat.le_of_ble_eq_true rfl⟩ ?_
  refine z_ifB_ne (tgt := 15) hx hb dX12_run_9 (by decide) (fun c_9 => ?_) (fun c_9 => ?_)
  · exfalso; omega
  ·
    refine z_bipush hx hb dX12_run_12 (by decide) ?_
    exact z_iret0 hx hb hr hlocks (rfl) dX12_run_14
set_option maxHeartbeats 8000000 in
set_option maxRecDepth 100000 in
theorem c_X12_run_full (l : Launch) (D : va_G) (y : Nat → ClassId) (m0 : Nat) (m_read : Nat) (rl : Int) (rp : Int) (m_gut : Nat) (gl : Int) (gp : Int) (gx : Int) (gy : Int) (m_text : Nat) (tn : Int) (fn : Int) (m_boat : Nat) (m_coins : Nat) (vw : Int) (vm : Int) (vn : Int) (m_rest : Nat) (m_ends : Nat) (vc : Int) (m_chan : Nat) (m_spl : Nat) (fs : Int) (rn : Int) (m_rf : Nat) (m_rr : Nat) (m_ik : Nat) (m_km : Nat) (m_kb : Nat) (m_kc : Nat) (m_kf : Nat) (m_kr : Nat) (xf : Int) (xr : Int) (hq : 0 ≤ xf ∧ xf ≤ 99) (hf : rn = 12) : Met l yX12_run wsX12_run ({ frames := 1, cells := 0, slots := 0, locals := 25 } : Room) (pPc D y [(m0, .inr (11, [.ref m_read, zi rl, zi rp, .ref m_gut, zi gl, zi gp, zi gx, zi gy, .ref m_text, zi tn, zi fn, .ref m_boat, .ref m_coins, zi vw, zi vm, zi vn, .ref m_rest, .ref m_ends, zl vc, .ref m_chan, .ref m_spl, zi fs, zi rn, .ref m_rf, .ref m_rr, .ref m_ik, .ref m_km, .ref m_kb, .ref m_kc, .ref m_kf, .ref m_kr]))] [.ref m0, zi xf, zi xr]) (qV (zi (-4))) 0 0 (fun _ => False) := by
  refine P_of (own := RX12) (cc := cX12_run) (maxL := 3) (ret := some .int) (by decide) rfl rfl (Nat.le_of_ble_eq_true rfl) (fun p e s m below meth c ls hx hb hr hC hlocks hPr hG hl => ?_)
  have hC0 := hC
  obtain ⟨-, -, hml, hown, hts⟩ := hC0
  have hK := hG.1
  have hinX12 : ∀ w ∈ wsX120, w ∈ wsX12_run := fun _ h => List.mem_cons_of_mem _ (List.mem_append_right _ h)
  have k1 := hts (.constantLong RX12 128 (99)) (List.mem_of_getElem? (i := 1) rfl)
  have k2 := hts (.fieldLink RX12 241 "BoatsOfPaperModel" "runs" "I") (List.mem_of_getElem? (i := 2) rfl)
  have hl : lv_has ls 3 [(0, .ref m0), (1, zi xf), (2, zi xr)] := hl
  refine lv_iload_n hx hb dX12_run_0 rfl (lv_at hl 1 rfl) ?_
  refine z_i2l hx hb (by omega) dX12_run_1 ?_
  refine lv_lconst (v := iL 0) hx hb dX12_run_2 rfl ?_
  refine lv_ldc2 (v := iL 99) hx hb hown k1 dX12_run_3 ?_
  refine z_pS (As := [zl xf, zl 0, zl 99]) (rest := []) hC (c_X12_in l D y xf 0 99 (by first | assumption | omega)) (va_cwS 3 hts gX12_run_X12_in rfl rfl rfl (by decide +kernel) ⟨Nat.le_of_ble_eq_true rfl, Nat.le_of_ble_eq_true rfl⟩) hG va_P_nil rfl hl.1 rfl (Nat.le_of_ble_eq_true rfl) dX12_run_6 ⟨Nat.le_of_ble_eq_true rfl, Nat.le_of_ble_eq_true rfl⟩ ?_
  refine z_ifB_ne (tgt := 15) hx hb dX12_run_9 (by decide) (fun c_9 => ?_) (fun c_9 => ?_)
  ·
    refine lv_aload_n hx hb dX12_run_15 rfl (lv_at hl 0 rfl) ?_
    refine va_get hx hb hts hinX12 hown hK hPr 0 rfl rfl 22 (by decide) k2 (fun _ h => h) rfl dX12_run_16 ?_
    refine z_bipush hx hb dX12_run_19 (by decide) ?_
    refine z_icmp_ne (tgt := 27) hx hb (by omega) (by omega) dX12_run_21 (by decide) (fun c_21 => ?_) (fun c_21 => ?_)
    · exfalso; omega
    ·
      refine z_bipush hx hb dX12_run_24 (by decide) ?_
      exact z_iret0 hx hb hr hlocks (rfl) dX12_run_26
  · exfalso; omega
set_option maxHeartbeats 8000000 in
set_option maxRecDepth 100000 in
theorem c_X12_run (l : Launch) (D : va_G) (y : Nat → ClassId) (m0 : Nat) (m_read : Nat) (rl : Int) (rp : Int) (m_gut : Nat) (gl : Int) (gp : Int) (gx : Int) (gy : Int) (m_text : Nat) (tn : Int) (fn : Int) (m_boat : Nat) (m_coins : Nat) (vw : Int) (vm : Int) (vn : Int) (m_rest : Nat) (m_ends : Nat) (vc : Int) (m_chan : Nat) (m_spl : Nat) (fs : Int) (rn : Int) (m_rf : Nat) (m_rr : Nat) (m_ik : Nat) (m_km : Nat) (m_kb : Nat) (m_kc : Nat) (m_kf : Nat) (m_kr : Nat) (MF : Int → Int) (MRd : Int → Int) (xf : Int) (xr : Int) (hq : 0 ≤ xf ∧ xf ≤ 99) (hf : 0 ≤ rn ∧ rn < 12) (hx9 : xr = 0 ∨ xr = 1) (sz : Nat) : Met l yX12_run wsX12_run ({ frames := 1, cells := 0, slots := 0, locals := 25 } : Room) (wPc D y [] [(m0, .inr (11, [.ref m_read, zi rl, zi rp, .ref m_gut, zi gl, zi gp, zi gx, zi gy, .ref m_text, zi tn, zi fn, .ref m_boat, .ref m_coins, zi vw, zi vm, zi vn, .ref m_rest, .ref m_ends, zl vc, .ref m_chan, .ref m_spl, zi fs, zi rn, .ref m_rf, .ref m_rr, .ref m_ik, .ref m_km, .ref m_kb, .ref m_kc, .ref m_kf, .ref m_kr])), (m_rf, .inl (y 0, 12, .inl (cI MF))), (m_rr, .inl (y 2, 12, .inl (cI MRd)))] sz [.ref m0, zi xf, zi xr]) (wQ D (fun (_ : Unit) => some (zi (rn + 1))) (fun (_ : Unit) => True) (fun (_ : Unit) => [(m0, .inr (11, [.ref m_read, zi rl, zi rp, .ref m_gut, zi gl, zi gp, zi gx, zi gy, .ref m_text, zi tn, zi fn, .ref m_boat, .ref m_coins, zi vw, zi vm, zi vn, .ref m_rest, .ref m_ends, zl vc, .ref m_chan, .ref m_spl, zi fs, zi (rn + 1), .ref m_rf, .ref m_rr, .ref m_ik, .ref m_km, .ref m_kb, .ref m_kc, .ref m_kf, .ref m_kr])), (m_rf, .inl (y 0, 12, .inl (cI (iu MF rn xf)))), (m_rr, .inl (y 2, 12, .inl (cI (iu MRd rn xr))))]) (va_A [(m0, .inr (11, [.ref m_read, zi rl, zi rp, .ref m_gut, zi gl, zi gp, zi gx, zi gy, .ref m_text, zi tn, zi fn, .ref m_boat, .ref m_coins, zi vw, zi vm, zi vn, .ref m_rest, .ref m_ends, zl vc, .ref m_chan, .ref m_spl, zi fs, zi rn, .ref m_rf, .ref m_rr, .ref m_ik, .ref m_km, .ref m_kb, .ref m_kc, .ref m_kf, .ref m_kr])), (m_rf, .inl (y 0, 12, .inl (cI MF))), (m_rr, .inl (y 2, 12, .inl (cI MRd)))] sz)) 0 0 (va_A [(m0, .inr (11, [.ref m_read, zi rl, zi rp, .ref m_gut, zi gl, zi gp, zi gx, zi gy, .ref m_text, zi tn, zi fn, .ref m_boat, .ref m_coins, zi vw, zi vm, zi vn, .ref m_rest, .ref m_ends, zl vc, .ref m_chan, .ref m_spl, zi fs, zi rn, .ref m_rf, .ref m_rr, .ref m_ik, .ref m_km, .ref m_kb, .ref m_kc, .ref m_kf, .ref m_kr])), (m_rf, .inl (y 0, 12, .inl (cI MF))), (m_rr, .inl (y 2, 12, .inl (cI MRd)))] sz) := by
  refine W_of (own := RX12) (cc := cX12_run) (maxL := 3) (ret := some .int) (by decide) rfl rfl (Nat.le_of_ble_eq_true rfl) (fun p e s m below meth c ls A hx hb hr hC hlocks hin0 hR0 hN hP hD hA hG hl => ?_)
  have hC0 := hC
  obtain ⟨-, -, hml, hown, hts⟩ := hC0
  have hK := hG.1
  have hS : va_S A s.heap s.heap [] := va_S.rf
  have hPr := hR0
  have hinX12 : ∀ w ∈ wsX120, w ∈ wsX12_run := fun _ h => List.mem_cons_of_mem _ (List.mem_append_right _ h)
  have k1 := hts (.constantLong RX12 128 (99)) (List.mem_of_getElem? (i := 1) rfl)
  have k2 := hts (.fieldLink RX12 241 "BoatsOfPaperModel" "runs" "I") (List.mem_of_getElem? (i := 2) rfl)
  have k3 := hts (.fieldLink RX12 38 "BoatsOfPaperModel" "runFar" "[I") (List.mem_of_getElem? (i := 3) rfl)
  have k4 := hts (.fieldLink RX12 41 "BoatsOfPaperModel" "runRed" "[Z") (List.mem_of_getElem? (i := 4) rfl)
  have hl : lv_has ls 3 [(0, .ref m0), (1, zi xf), (2, zi xr)] := hl
  refine lv_iload_n hx hb dX12_run_0 rfl (lv_at hl 1 rfl) ?_
  refine z_i2l hx hb (by omega) dX12_run_1 ?_
  refine lv_lconst (v := iL 0) hx hb dX12_run_2 rfl ?_
  refine lv_ldc2 (v := iL 99) hx hb hown k1 dX12_run_3 ?_
  refine z_pS (As := [zl xf, zl 0, zl 99]) (rest := []) hC (c_X12_in l D y xf 0 99 (by first | assumption | omega)) (va_cwS 3 hts gX12_run_X12_in rfl rfl rfl (by decide +kernel) ⟨Nat.le_of_ble_eq_true rfl, Nat.le_of_ble_eq_true rfl⟩) hG va_P_nil rfl hl.1 rfl (Nat.le_of_ble_eq_true rfl) dX12_run_6 ⟨Nat.le_of_ble_eq_true rfl, Nat.le_of_ble_eq_true rfl⟩ ?_
  refine z_ifB_ne (tgt := 15) hx hb dX12_run_9 (by decide) (fun c_9 => ?_) (fun c_9 => ?_)
  ·
    refine lv_aload_n hx hb dX12_run_15 rfl (lv_at hl 0 rfl) ?_
    refine va_get hx hb hts hinX12 hown hK hP 0 rfl rfl 22 (by decide) k2 (fun _ h => h) rfl dX12_run_16 ?_
    refine z_bipush hx hb dX12_run_19 (by decide) ?_
    refine z_icmp_ne (tgt := 27) hx hb (by omega) (by omega) dX12_run_21 (by decide) (fun c_21 => ?_) (fun c_21 => ?_)
    ·
      refine lv_aload_n hx hb dX12_run_27 rfl (lv_at hl 0 rfl) ?_
      refine va_get hx hb hts hinX12 hown hK hP 0 rfl rfl 23 (by decide) k3 (fun _ h => h) rfl dX12_run_28 ?_
      refine lv_aload_n hx hb dX12_run_31 rfl (lv_at hl 0 rfl) ?_
      refine va_get hx hb hts hinX12 hown hK hP 0 rfl rfl 22 (by decide) k2 (fun _ h => h) rfl dX12_run_32 ?_
      refine lv_iload_n hx hb dX12_run_35 rfl (lv_at hl 1 rfl) ?_
      refine z_iast hx hb hK hP hD hS 1 0 rfl rfl (by omega) (by decide) dX12_run_36 (fun H locs hP hD hS => ?_)
      have hP : va_P D vwCl [(m0, .inr (11, [.ref m_read, zi rl, zi rp, .ref m_gut, zi gl, zi gp, zi gx, zi gy, .ref m_text, zi tn, zi fn, .ref m_boat, .ref m_coins, zi vw, zi vm, zi vn, .ref m_rest, .ref m_ends, zl vc, .ref m_chan, .ref m_spl, zi fs, zi rn, .ref m_rf, .ref m_rr, .ref m_ik, .ref m_km, .ref m_kb, .ref m_kc, .ref m_kf, .ref m_kr])), (m_rf, .inl (y 0, 12, .inl (cI (iu MF rn xf)))), (m_rr, .inl (y 2, 12, .inl (cI MRd)))] H := hP
      have hD : va_D A [(m0, .inr (11, [.ref m_read, zi rl, zi rp, .ref m_gut, zi gl, zi gp, zi gx, zi gy, .ref m_text, zi tn, zi fn, .ref m_boat, .ref m_coins, zi vw, zi vm, zi vn, .ref m_rest, .ref m_ends, zl vc, .ref m_chan, .ref m_spl, zi fs, zi rn, .ref m_rf, .ref m_rr, .ref m_ik, .ref m_km, .ref m_kb, .ref m_kc, .ref m_kf, .ref m_kr])), (m_rf, .inl (y 0, 12, .inl (cI (iu MF rn xf)))), (m_rr, .inl (y 2, 12, .inl (cI MRd)))] := hD
      refine lv_aload_n hx hb dX12_run_37 rfl (lv_at hl 0 rfl) ?_
      refine va_get hx hb hts hinX12 hown hK hP 0 rfl rfl 24 (by decide) k4 (fun _ h => h) rfl dX12_run_38 ?_
      refine lv_aload_n hx hb dX12_run_41 rfl (lv_at hl 0 rfl) ?_
      refine va_get hx hb hts hinX12 hown hK hP 0 rfl rfl 22 (by decide) k2 (fun _ h => h) rfl dX12_run_42 ?_
      refine lv_iload_n hx hb dX12_run_45 rfl (lv_at hl 2 rfl) ?_
      refine z_zast hx hb hK hP hD hS 2 2 rfl rfl (by omega) (by decide) (by omega) dX12_run_46 (fun H locs hP hD hS => ?_)
      have hP : va_P D vwCl [(m0, .inr (11, [.ref m_read, zi rl, zi rp, .ref m_gut, zi gl, zi gp, zi gx, zi gy, .ref m_text, zi tn, zi fn, .ref m_boat, .ref m_coins, zi vw, zi vm, zi vn, .ref m_rest, .ref m_ends, zl vc, .ref m_chan, .ref m_spl, zi fs, zi rn, .ref m_rf, .ref m_rr, .ref m_ik, .ref m_km, .ref m_kb, .ref m_kc, .ref m_kf, .ref m_kr])), (m_rf, .inl (y 0, 12, .inl (cI (iu MF rn xf)))), (m_rr, .inl (y 2, 12, .inl (cI (iu MRd rn xr))))] H := hP
      have hD : va_D A [(m0, .inr (11, [.ref m_read, zi rl, zi rp, .ref m_gut, zi gl, zi gp, zi gx, zi gy, .ref m_text, zi tn, zi fn, .ref m_boat, .ref m_coins, zi vw, zi vm, zi vn, .ref m_rest, .ref m_ends, zl vc, .ref m_chan, .ref m_spl, zi fs, zi rn, .ref m_rf, .ref m_rr, .ref m_ik, .ref m_km, .ref m_kb, .ref m_kc, .ref m_kf, .ref m_kr])), (m_rf, .inl (y 0, 12, .inl (cI (iu MF rn xf)))), (m_rr, .inl (y 2, 12, .inl (cI (iu MRd rn xr))))] := hD
      refine lv_aload_n hx hb dX12_run_47 rfl (lv_at hl 0 rfl) ?_
      refine lv_dup hx hb dX12_run_48 rfl ?_
      refine va_get hx hb hts hinX12 hown hK hP 0 rfl rfl 22 (by decide) k2 (fun _ h => h) rfl dX12_run_49 ?_
      refine z_iconst hx hb dX12_run_52 ?_
      refine z_iadd hx hb dX12_run_53 ?_
      refine va_put hx hb hts hinX12 tyX12 tyX12_ok nmX12 hown hK hP hD hS 0 rfl rfl 22 (by decide) k2 (fun _ h => h) rfl (tyX12_ok 22 (by decide)) rfl rfl (Nat.le_of_ble_eq_true rfl) dX12_run_54 (fun H locs hP hD hS => ?_)
      have hP : va_P D vwCl [(m0, .inr (11, [.ref m_read, zi rl, zi rp, .ref m_gut, zi gl, zi gp, zi gx, zi gy, .ref m_text, zi tn, zi fn, .ref m_boat, .ref m_coins, zi vw, zi vm, zi vn, .ref m_rest, .ref m_ends, zl vc, .ref m_chan, .ref m_spl, zi fs, zi (rn + 1), .ref m_rf, .ref m_rr, .ref m_ik, .ref m_km, .ref m_kb, .ref m_kc, .ref m_kf, .ref m_kr])), (m_rf, .inl (y 0, 12, .inl (cI (iu MF rn xf)))), (m_rr, .inl (y 2, 12, .inl (cI (iu MRd rn xr))))] H := hP
      have hD : va_D A [(m0, .inr (11, [.ref m_read, zi rl, zi rp, .ref m_gut, zi gl, zi gp, zi gx, zi gy, .ref m_text, zi tn, zi fn, .ref m_boat, .ref m_coins, zi vw, zi vm, zi vn, .ref m_rest, .ref m_ends, zl vc, .ref m_chan, .ref m_spl, zi fs, zi (rn + 1), .ref m_rf, .ref m_rr, .ref m_ik, .ref m_km, .ref m_kb, .ref m_kc, .ref m_kf, .ref m_kr])), (m_rf, .inl (y 0, 12, .inl (cI (iu MF rn xf)))), (m_rr, .inl (y 2, 12, .inl (cI (iu MRd rn xr))))] := hD
      refine lv_aload_n hx hb dX12_run_57 rfl (lv_at hl 0 rfl) ?_
      refine va_get hx hb hts hinX12 hown hK hP 0 rfl rfl 22 (by decide) k2 (fun _ h => h) rfl dX12_run_58 ?_
      exact z_iretW hx hb hr hlocks () (rfl) (trivial) (hP.sub [0, 1, 2] rfl) (hD.sub [0, 1, 2] (by decide) rfl) hS dX12_run_61
    · exfalso; omega
  · exfalso; omega
set_option maxHeartbeats 8000000 in
set_option maxRecDepth 100000 in
theorem c_X12_unrun (l : Launch) (D : va_G) (y : Nat → ClassId) (m0 : Nat) (m_read : Nat) (rl : Int) (rp : Int) (m_gut : Nat) (gl : Int) (gp : Int) (gx : Int) (gy : Int) (m_text : Nat) (tn : Int) (fn : Int) (m_boat : Nat) (m_coins : Nat) (vw : Int) (vm : Int) (vn : Int) (m_rest : Nat) (m_ends : Nat) (vc : Int) (m_chan : Nat) (m_spl : Nat) (fs : Int) (rn : Int) (m_rf : Nat) (m_rr : Nat) (m_ik : Nat) (m_km : Nat) (m_kb : Nat) (m_kc : Nat) (m_kf : Nat) (m_kr : Nat)  (sz : Nat) : Met l yX12_unrun wsX12_unrun ({ frames := 0, cells := 0, slots := 0, locals := 0 } : Room) (wPc D y [] [(m0, .inr (11, [.ref m_read, zi rl, zi rp, .ref m_gut, zi gl, zi gp, zi gx, zi gy, .ref m_text, zi tn, zi fn, .ref m_boat, .ref m_coins, zi vw, zi vm, zi vn, .ref m_rest, .ref m_ends, zl vc, .ref m_chan, .ref m_spl, zi fs, zi rn, .ref m_rf, .ref m_rr, .ref m_ik, .ref m_km, .ref m_kb, .ref m_kc, .ref m_kf, .ref m_kr]))] sz [.ref m0]) (wQ D (fun (_ : Unit) => some (zi rn)) (fun (_ : Unit) => True) (fun (_ : Unit) => [(m0, .inr (11, [.ref m_read, zi rl, zi rp, .ref m_gut, zi gl, zi gp, zi gx, zi gy, .ref m_text, zi tn, zi fn, .ref m_boat, .ref m_coins, zi vw, zi vm, zi vn, .ref m_rest, .ref m_ends, zl vc, .ref m_chan, .ref m_spl, zi fs, zi 0, .ref m_rf, .ref m_rr, .ref m_ik, .ref m_km, .ref m_kb, .ref m_kc, .ref m_kf, .ref m_kr]))]) (va_A [(m0, .inr (11, [.ref m_read, zi rl, zi rp, .ref m_gut, zi gl, zi gp, zi gx, zi gy, .ref m_text, zi tn, zi fn, .ref m_boat, .ref m_coins, zi vw, zi vm, zi vn, .ref m_rest, .ref m_ends, zl vc, .ref m_chan, .ref m_spl, zi fs, zi rn, .ref m_rf, .ref m_rr, .ref m_ik, .ref m_km, .ref m_kb, .ref m_kc, .ref m_kf, .ref m_kr]))] sz)) 0 0 (va_A [(m0, .inr (11, [.ref m_read, zi rl, zi rp, .ref m_gut, zi gl, zi gp, zi gx, zi gy, .ref m_text, zi tn, zi fn, .ref m_boat, .ref m_coins, zi vw, zi vm, zi vn, .ref m_rest, .ref m_ends, zl vc, .ref m_chan, .ref m_spl, zi fs, zi rn, .ref m_rf, .ref m_rr, .ref m_ik, .ref m_km, .ref m_kb, .ref m_kc, .ref m_kf, .ref m_kr]))] sz) := by
  refine W_of (own := RX12) (cc := cX12_unrun) (maxL := 2) (ret := some .int) (by decide) rfl rfl (Nat.le_of_ble_eq_true rfl) (fun p e s m below meth c ls A hx hb hr hC hlocks hin0 hR0 hN hP hD hA hG hl => ?_)
  have hC0 := hC
  obtain ⟨-, -, hml, hown, hts⟩ := hC0
  have hK := hG.1
  have hS : va_S A s.heap s.heap [] := va_S.rf
  have hPr := hR0
  have hinX12 : ∀ w ∈ wsX120, w ∈ wsX12_unrun := fun _ h => List.mem_cons_of_mem _ (List.mem_append_right _ h)
  have k1 := hts (.fieldLink RX12 241 "BoatsOfPaperModel" "runs" "I") (List.mem_of_getElem? (i := 1) rfl)
  have hl : lv_has ls 2 [(0, .ref m0)] := hl
  refine lv_aload_n hx hb dX12_unrun_0 rfl (lv_at hl 0 rfl) ?_
  refine va_get hx hb hts hinX12 hown hK hP 0 rfl rfl 22 (by decide) k1 (fun _ h => h) rfl dX12_unrun_1 ?_
  refine lv_istore_n (lv' := [(1, zi rn), (0, .ref m0)]) hx hb dX12_unrun_4 rfl hl (by decide) rfl (fun ls hl => ?_)
  refine lv_aload_n hx hb dX12_unrun_5 rfl (lv_at hl 1 rfl) ?_
  refine z_iconst hx hb dX12_unrun_6 ?_
  refine va_put hx hb hts hinX12 tyX12 tyX12_ok nmX12 hown hK hP hD hS 0 rfl rfl 22 (by decide) k1 (fun _ h => h) rfl (tyX12_ok 22 (by decide)) rfl rfl (Nat.le_of_ble_eq_true rfl) dX12_unrun_7 (fun H locs hP hD hS => ?_)
  have hP : va_P D vwCl [(m0, .inr (11, [.ref m_read, zi rl, zi rp, .ref m_gut, zi gl, zi gp, zi gx, zi gy, .ref m_text, zi tn, zi fn, .ref m_boat, .ref m_coins, zi vw, zi vm, zi vn, .ref m_rest, .ref m_ends, zl vc, .ref m_chan, .ref m_spl, zi fs, zi 0, .ref m_rf, .ref m_rr, .ref m_ik, .ref m_km, .ref m_kb, .ref m_kc, .ref m_kf, .ref m_kr]))] H := hP
  have hD : va_D A [(m0, .inr (11, [.ref m_read, zi rl, zi rp, .ref m_gut, zi gl, zi gp, zi gx, zi gy, .ref m_text, zi tn, zi fn, .ref m_boat, .ref m_coins, zi vw, zi vm, zi vn, .ref m_rest, .ref m_ends, zl vc, .ref m_chan, .ref m_spl, zi fs, zi 0, .ref m_rf, .ref m_rr, .ref m_ik, .ref m_km, .ref m_kb, .ref m_kc, .ref m_kf, .ref m_kr]))] := hD
  refine lv_iload_n hx hb dX12_unrun_10 rfl (lv_at hl 0 rfl) ?_
  exact z_iretW hx hb hr hlocks () (rfl) (trivial) (hP.sub [0] rfl) (hD.sub [0] (by decide) rfl) hS dX12_unrun_11
set_option maxHeartbeats 8000000 in
set_option maxRecDepth 100000 in
theorem c_X12_reds (l : Launch) (D : va_G) (y : Nat → ClassId) (m0 : Nat) (m_read : Nat) (rl : Int) (rp : Int) (m_gut : Nat) (gl : Int) (gp : Int) (gx : Int) (gy : Int) (m_text : Nat) (tn : Int) (fn : Int) (m_boat : Nat) (m_coins : Nat) (vw : Int) (vm : Int) (vn : Int) (m_rest : Nat) (m_ends : Nat) (vc : Int) (m_chan : Nat) (m_spl : Nat) (fs : Int) (rn : Int) (m_rf : Nat) (m_rr : Nat) (m_ik : Nat) (m_km : Nat) (m_kb : Nat) (m_kc : Nat) (m_kf : Nat) (m_kr : Nat) (MF : Int → Int) (MRd : Int → Int) (hr9 : rOK rn MF MRd) : Met l yX12_reds wsX12_reds ({ frames := 0, cells := 0, slots := 0, locals := 0 } : Room) (pPc D y [(m0, .inr (11, [.ref m_read, zi rl, zi rp, .ref m_gut, zi gl, zi gp, zi gx, zi gy, .ref m_text, zi tn, zi fn, .ref m_boat, .ref m_coins, zi vw, zi vm, zi vn, .ref m_rest, .ref m_ends, zl vc, .ref m_chan, .ref m_spl, zi fs, zi rn, .ref m_rf, .ref m_rr, .ref m_ik, .ref m_km, .ref m_kb, .ref m_kc, .ref m_kf, .ref m_kr])), (m_rf, .inl (y 0, 12, .inl (cI MF))), (m_rr, .inl (y 2, 12, .inl (cI MRd)))] [.ref m0]) (qV (zi (popI (rset MRd rn)))) 0 0 (fun _ => False) := by
  refine P_of (own := RX12) (cc := cX12_reds) (maxL := 3) (ret := some .int) (by decide) rfl rfl (Nat.le_of_ble_eq_true rfl) (fun p e s m below meth c ls hx hb hr hC hlocks hPr hG hl => ?_)
  have hC0 := hC
  obtain ⟨-, -, hml, hown, hts⟩ := hC0
  have hK := hG.1
  have hinX12 : ∀ w ∈ wsX120, w ∈ wsX12_reds := fun _ h => List.mem_cons_of_mem _ (List.mem_append_right _ h)
  have k1 := hts (.fieldLink RX12 241 "BoatsOfPaperModel" "runs" "I") (List.mem_of_getElem? (i := 1) rfl)
  have k2 := hts (.fieldLink RX12 41 "BoatsOfPaperModel" "runRed" "[Z") (List.mem_of_getElem? (i := 2) rfl)
  have hl : lv_has ls 3 [(0, .ref m0)] := hl
  have qn := hr9.1
  have qr : ∀ k : Int, 0 ≤ k → k < rn → MRd k = 0 ∨ MRd k = 1 := fun k a b => (hr9.2 k a b).2
  refine z_iconst hx hb dX12_reds_0 ?_
  refine lv_istore_n (lv' := [(1, zi 0), (0, .ref m0)]) hx hb dX12_reds_1 rfl hl (by decide) rfl (fun ls hl => ?_)
  refine z_iconst hx hb dX12_reds_2 ?_
  refine lv_istore_n (lv' := [(2, zi 0), (1, zi 0), (0, .ref m0)]) hx hb dX12_reds_3 rfl hl (by decide) rfl (fun ls hl => ?_)
  refine z_loop (σ := Int × Int) (fun x9 H lc ls => match x9 with | (v, k) => ((0 ≤ k ∧ k ≤ rn) ∧ v = sgI MRd k) ∧ lv_has ls 3 [(2, zi k), (1, zi v), (0, .ref m0)] ∧ H = s.heap ∧ lc = []) (fun x9  => match x9 with | (v, k) => ((rn - k).toNat)) ?_ (0, 0) ⟨⟨by omega, rfl⟩, lv_sub hl [0, 1, 2] rfl, rfl, rfl⟩
  rintro ⟨v, k⟩ H lc ls ⟨hi4, hl, rfl, rfl⟩ ih4
  refine lv_iload_n hx hb dX12_reds_4 rfl (lv_at hl 0 rfl) ?_
  refine lv_aload_n hx hb dX12_reds_5 rfl (lv_at hl 2 rfl) ?_
  refine va_get hx hb hts hinX12 hown hK hPr 0 rfl rfl 22 (by decide) k1 (fun _ h => h) rfl dX12_reds_6 ?_
  refine z_icmp_ge (tgt := 35) hx hb (by omega) (by omega) dX12_reds_9 (by decide) (fun c_9 => ?_) (fun c_9 => ?_)
  ·
    refine lv_iload_n hx hb dX12_reds_35 rfl (lv_at hl 1 rfl) ?_
    exact z_iret0 hx hb hr hlocks (by rw [hi4.2, show k = rn by omega]; exact (pop_rset qn qr).symm) dX12_reds_36
  ·
    have b1 := qr k (by omega) (by omega)
    refine lv_iload_n hx hb dX12_reds_12 rfl (lv_at hl 1 rfl) ?_
    refine lv_aload_n hx hb dX12_reds_13 rfl (lv_at hl 2 rfl) ?_
    refine va_get hx hb hts hinX12 hown hK hPr 0 rfl rfl 24 (by decide) k2 (fun _ h => h) rfl dX12_reds_14 ?_
    refine lv_iload_n hx hb dX12_reds_17 rfl (lv_at hl 0 rfl) ?_
    refine z_zald hx hb hK hPr 2 2 rfl rfl (by omega) (by decide) dX12_reds_18 ?_
    refine z_if_eq (tgt := 26) hx hb (by omega) dX12_reds_19 (by decide) (fun c_19 => ?_) (fun c_19 => ?_)
    ·
      refine z_iconst hx hb dX12_reds_26 ?_
      refine z_iadd hx hb dX12_reds_27 ?_
      refine lv_istore_n (lv' := [(1, zi (v + 0)), (2, zi k), (0, .ref m0)]) hx hb dX12_reds_28 rfl hl (by decide) rfl (fun ls hl => ?_)
      refine z_iinc (k := 1) (lv' := [(2, zi (k + 1)), (1, zi (v + 0)), (0, .ref m0)]) hx hb dX12_reds_29 hl rfl (by decide) rfl (fun ls hl => ?_)
      refine lv_goto (tgt := 4) hx hb dX12_reds_32 (by decide) ?_
      exact ih4 (v + 0, k + 1) _ _ _ (by first | (dsimp only; omega) | omega) ⟨⟨by omega, by rw [sgI_s _ hi4.1.1, ← hi4.2]; omega⟩, lv_sub hl [0, 1, 2] rfl, rfl, rfl⟩
    ·
      refine z_iconst hx hb dX12_reds_22 ?_
      refine lv_goto (tgt := 27) hx hb dX12_reds_23 (by decide) ?_
      refine z_iadd hx hb dX12_reds_27 ?_
      refine lv_istore_n (lv' := [(1, zi (v + 1)), (2, zi k), (0, .ref m0)]) hx hb dX12_reds_28 rfl hl (by decide) rfl (fun ls hl => ?_)
      refine z_iinc (k := 1) (lv' := [(2, zi (k + 1)), (1, zi (v + 1)), (0, .ref m0)]) hx hb dX12_reds_29 hl rfl (by decide) rfl (fun ls hl => ?_)
      refine lv_goto (tgt := 4) hx hb dX12_reds_32 (by decide) ?_
      exact ih4 (v + 1, k + 1) _ _ _ (by first | (dsimp only; omega) | omega) ⟨⟨by omega, by rw [sgI_s _ hi4.1.1, ← hi4.2]; omega⟩, lv_sub hl [0, 1, 2] rfl, rfl, rfl⟩
set_option maxHeartbeats 8000000 in
set_option maxRecDepth 100000 in
theorem c_X12_red (l : Launch) (D : va_G) (y : Nat → ClassId) (m0 : Nat) (m_read : Nat) (rl : Int) (rp : Int) (m_gut : Nat) (gl : Int) (gp : Int) (gx : Int) (gy : Int) (m_text : Nat) (tn : Int) (fn : Int) (m_boat : Nat) (m_coins : Nat) (vw : Int) (vm : Int) (vn : Int) (m_rest : Nat) (m_ends : Nat) (vc : Int) (m_chan : Nat) (m_spl : Nat) (fs : Int) (rn : Int) (m_rf : Nat) (m_rr : Nat) (m_ik : Nat) (m_km : Nat) (m_kb : Nat) (m_kc : Nat) (m_kf : Nat) (m_kr : Nat) (MF : Int → Int) (MRd : Int → Int) (uq : Int) (hr9 : rOK rn MF MRd) (huq : uq = 0 ∨ uq = 1) : Met l yX12_red wsX12_red ({ frames := 1, cells := 0, slots := 0, locals := 30 } : Room) (pPc D y [(m0, .inr (11, [.ref m_read, zi rl, zi rp, .ref m_gut, zi gl, zi gp, zi gx, zi gy, .ref m_text, zi tn, zi fn, .ref m_boat, .ref m_coins, zi vw, zi vm, zi vn, .ref m_rest, .ref m_ends, zl vc, .ref m_chan, .ref m_spl, zi fs, zi rn, .ref m_rf, .ref m_rr, .ref m_ik, .ref m_km, .ref m_kb, .ref m_kc, .ref m_kf, .ref m_kr])), (m_rf, .inl (y 0, 12, .inl (cI MF))), (m_rr, .inl (y 2, 12, .inl (cI MRd)))] [.ref m0, zi uq]) (qV (zl (tellV (luckV rn MF (popI (rset MRd rn)) (sumF rn MF (rset MRd rn))) (allV rn (popI (rset MRd rn))) uq))) 0 0 (fun _ => False) := by
  refine P_of (own := RX12) (cc := cX12_red) (maxL := 11) (ret := some .long) (by decide) rfl rfl (Nat.le_of_ble_eq_true rfl) (fun p e s m below meth c ls hx hb hr hC hlocks hPr hG hl => ?_)
  have hC0 := hC
  obtain ⟨-, -, hml, hown, hts⟩ := hC0
  have hK := hG.1
  have hinX12 : ∀ w ∈ wsX120, w ∈ wsX12_red := fun _ h => List.mem_cons_of_mem _ (List.mem_append_right _ h)
  have k1 := hts (.fieldLink RX12 241 "BoatsOfPaperModel" "runs" "I") (List.mem_of_getElem? (i := 1) rfl)
  have k2 := hts (.fieldLink RX12 41 "BoatsOfPaperModel" "runRed" "[Z") (List.mem_of_getElem? (i := 2) rfl)
  have k3 := hts (.fieldLink RX12 38 "BoatsOfPaperModel" "runFar" "[I") (List.mem_of_getElem? (i := 3) rfl)
  have hl : lv_has ls 11 [(0, .ref m0), (1, zi uq)] := hl
  have qn := hr9.1
  have qr : ∀ k : Int, 0 ≤ k → k < rn → MRd k = 0 ∨ MRd k = 1 := fun k a b => (hr9.2 k a b).2
  have p1 := pow12 (n := rn) qn
  have p2 := all_pos qn qr
  have p3 := sgb_bd (fun t => popI t = popI (rset MRd rn)) (n := 1 * 2 ^ rn.toNat) (by omega)
  have p4 := sgb_bd (fun t => popI t = popI (rset MRd rn) ∧ (sumF rn MF (rset MRd rn)) ≤ sumF rn MF t) (n := 1 * 2 ^ rn.toNat) (by omega)
  have p5 := popI_bd (rset MRd rn)
  have p6 : allV rn (popI (rset MRd rn)) = sgI (fun t => bI (popI t = popI (rset MRd rn))) (1 * 2 ^ rn.toNat) := rfl
  have p7 : luckV rn MF (popI (rset MRd rn)) (sumF rn MF (rset MRd rn)) = sgI (fun t => bI (popI t = popI (rset MRd rn) ∧ (sumF rn MF (rset MRd rn)) ≤ sumF rn MF t)) (1 * 2 ^ rn.toNat) := rfl
  have p8 := sumF_bd hr9 (rset MRd rn) (k := rn) (by omega) (by omega)
  have p9 : sgI (fun j => rset MRd rn / 2 ^ j.toNat % 2 * MF j) rn = sumF rn MF (rset MRd rn) := rfl
  refine z_iconst hx hb dX12_red_0 ?_
  refine lv_istore_n (lv' := [(2, zi 0), (0, .ref m0), (1, zi uq)]) hx hb dX12_red_1 rfl hl (by decide) rfl (fun ls hl => ?_)
  refine z_iconst hx hb dX12_red_2 ?_
  refine lv_istore_n (lv' := [(3, zi 0), (2, zi 0), (0, .ref m0), (1, zi uq)]) hx hb dX12_red_3 rfl hl (by decide) rfl (fun ls hl => ?_)
  refine z_loop (σ := Int × Int) (fun x9 H lc ls => match x9 with | (v, k) => ((0 ≤ k ∧ k ≤ rn) ∧ v = sgI (fun j => MRd j * MF j) k) ∧ lv_has ls 11 [(3, zi k), (2, zi v), (0, .ref m0), (1, zi uq)] ∧ H = s.heap ∧ lc = []) (fun x9  => match x9 with | (v, k) => ((rn - k).toNat)) ?_ (0, 0) ⟨⟨by omega, rfl⟩, lv_sub hl [0, 1, 2, 3] rfl, rfl, rfl⟩
  rintro ⟨v, k⟩ H lc ls ⟨hi4, hl, rfl, rfl⟩ ih4
  refine lv_iload_n hx hb dX12_red_4 rfl (lv_at hl 0 rfl) ?_
  refine lv_aload_n hx hb dX12_red_5 rfl (lv_at hl 2 rfl) ?_
  refine va_get hx hb hts hinX12 hown hK hPr 0 rfl rfl 22 (by decide) k1 (fun _ h => h) rfl dX12_red_6 ?_
  refine z_icmp_ge (tgt := 40) hx hb (by omega) (by omega) dX12_red_9 (by decide) (fun c_9 => ?_) (fun c_9 => ?_)
  ·
    have hs9 : v = (sumF rn MF (rset MRd rn)) := (by rw [hi4.2, show k = rn by omega]; exact (sum_rset qn qr).symm)
    refine lv_lconst (v := iL 0) hx hb dX12_red_40 rfl ?_
    refine lv_lstore_n (lv' := [(3, zl 0), (2, zi v), (0, .ref m0), (1, zi uq)]) hx hb dX12_red_41 rfl hl (by decide) rfl (fun ls hl => ?_)
    refine lv_lconst (v := iL 0) hx hb dX12_red_42 rfl ?_
    refine lv_lstore (lv' := [(5, zl 0), (3, zl 0), (2, zi v), (0, .ref m0), (1, zi uq)]) hx hb dX12_red_43 hl (by decide) rfl (fun ls hl => ?_)
    refine z_iconst hx hb dX12_red_45 ?_
    refine lv_istore (lv' := [(7, zi 0), (5, zl 0), (3, zl 0), (2, zi v), (0, .ref m0), (1, zi uq)]) hx hb dX12_red_46 hl (by decide) rfl (fun ls hl => ?_)
    refine z_loop (σ := Int × Int × Int) (fun x9 H lc ls => match x9 with | (va, vl, t9) => ((0 ≤ t9 ∧ t9 ≤ 1 * 2 ^ rn.toNat) ∧ va = sgI (fun t => bI (popI t = popI (rset MRd rn))) t9 ∧ vl = sgI (fun t => bI (popI t = popI (rset MRd rn) ∧ (sumF rn MF (rset MRd rn)) ≤ sumF rn MF t)) t9) ∧ lv_has ls 11 [(7, zi t9), (5, zl vl), (3, zl va), (2, zi v), (0, .ref m0), (1, zi uq)] ∧ H = s.heap ∧ lc = []) (fun x9  => match x9 with | (va, vl, t9) => ((1 * 2 ^ rn.toNat - t9).toNat)) ?_ (0, 0, 0) ⟨⟨by omega, rfl, rfl⟩, lv_sub hl [0, 1, 2, 3, 4, 5] rfl, rfl, rfl⟩
    rintro ⟨va, vl, t9⟩ H lc ls ⟨hi48, hl, rfl, rfl⟩ ih48
    obtain ⟨j1, j2, j3⟩ := hi48
    refine lv_iload hx hb dX12_red_48 (lv_at hl 0 rfl) ?_
    refine z_iconst hx hb dX12_red_50 ?_
    refine lv_aload_n hx hb dX12_red_51 rfl (lv_at hl 4 rfl) ?_
    refine va_get hx hb hts hinX12 hown hK hPr 0 rfl rfl 22 (by decide) k1 (fun _ h => h) rfl dX12_red_52 ?_
    refine z_ishl hx hb (by omega) dX12_red_55 ?_
    refine z_icmp_ge (tgt := 163) hx hb (by omega) (by omega) dX12_red_56 (by decide) (fun c_56 => ?_) (fun c_56 => ?_)
    ·
      have e9 : t9 = 1 * 2 ^ rn.toNat := (by omega)
      rw [e9] at j2 j3
      refine lv_lload hx hb dX12_red_163 (lv_at hl 1 rfl) ?_
      refine lv_lload_n hx hb dX12_red_165 rfl (lv_at hl 2 rfl) ?_
      refine lv_iload_n hx hb dX12_red_166 rfl (lv_at hl 5 rfl) ?_
      refine z_pS (As := [zl vl, zl va, zi uq]) (rest := []) hC (c_X12_part l D y vl va uq (by first | assumption | omega) (by first | assumption | omega)) (va_cwS 3 hts gX12_red_X12_part rfl rfl rfl (by decide +kernel) ⟨Nat.le_of_ble_eq_true rfl, Nat.le_of_ble_eq_true rfl⟩) hG va_P_nil rfl hl.1 rfl (Nat.le_of_ble_eq_true rfl) dX12_red_167 ⟨Nat.le_of_ble_eq_true rfl, Nat.le_of_ble_eq_true rfl⟩ ?_
      exact z_lret0 hx hb hr hlocks (by rw [j2, j3]; rfl) dX12_red_170
    ·
      refine z_iconst hx hb dX12_red_59 ?_
      refine lv_istore (lv' := [(8, zi 0), (7, zi t9), (5, zl vl), (3, zl va), (2, zi v), (0, .ref m0), (1, zi uq)]) hx hb dX12_red_60 hl (by decide) rfl (fun ls hl => ?_)
      refine z_iconst hx hb dX12_red_62 ?_
      refine lv_istore (lv' := [(9, zi 0), (8, zi 0), (7, zi t9), (5, zl vl), (3, zl va), (2, zi v), (0, .ref m0), (1, zi uq)]) hx hb dX12_red_63 hl (by decide) rfl (fun ls hl => ?_)
      refine z_iconst hx hb dX12_red_65 ?_
      refine lv_istore (lv' := [(10, zi 0), (9, zi 0), (8, zi 0), (7, zi t9), (5, zl vl), (3, zl va), (2, zi v), (0, .ref m0), (1, zi uq)]) hx hb dX12_red_66 hl (by decide) rfl (fun ls hl => ?_)
      refine z_loop (σ := Int × Int × Int) (fun x9 H lc ls => match x9 with | (vn9, vs9, k9) => ((0 ≤ k9 ∧ k9 ≤ rn) ∧ vn9 = sgI (fun j => t9 / 2 ^ j.toNat % 2) k9 ∧ vs9 = sgI (fun j => t9 / 2 ^ j.toNat % 2 * MF j) k9) ∧ lv_has ls 11 [(10, zi k9), (9, zi vs9), (8, zi vn9), (7, zi t9), (5, zl vl), (3, zl va), (2, zi v), (0, .ref m0), (1, zi uq)] ∧ H = s.heap ∧ lc = []) (fun x9  => match x9 with | (vn9, vs9, k9) => ((rn - k9).toNat)) ?_ (0, 0, 0) ⟨⟨by omega, rfl, rfl⟩, lv_sub hl [0, 1, 2, 3, 4, 5, 6, 7, 8] rfl, rfl, rfl⟩
      rintro ⟨vn9, vs9, k9⟩ H lc ls ⟨hi68, hl, rfl, rfl⟩ ih68
      refine lv_iload hx hb dX12_red_68 (lv_at hl 0 rfl) ?_
      refine lv_aload_n hx hb dX12_red_70 rfl (lv_at hl 7 rfl) ?_
      refine va_get hx hb hts hinX12 hown hK hPr 0 rfl rfl 22 (by decide) k1 (fun _ h => h) rfl dX12_red_71 ?_
      refine z_icmp_ge (tgt := 115) hx hb (by omega) (by omega) dX12_red_74 (by decide) (fun c_74 => ?_) (fun c_74 => ?_)
      ·
        have n9 : vn9 = popI t9 := (by rw [hi68.2.1, show k9 = rn by omega]; exact pop_lt qn j1.1 (by omega))
        have m9 : vs9 = sumF rn MF t9 := (by rw [hi68.2.2, show k9 = rn by omega]; rfl)
        have b10 := popI_bd t9
        have b11 := sumF_bd hr9 t9 (k := rn) (by omega) (by omega)
        have b12 : sgI (fun j => t9 / 2 ^ j.toNat % 2 * MF j) rn = sumF rn MF t9 := rfl
        refine lv_lload_n hx hb dX12_red_115 rfl (lv_at hl 5 rfl) ?_
        refine lv_iload hx hb dX12_red_116 (lv_at hl 2 rfl) ?_
        refine lv_aload_n hx hb dX12_red_118 rfl (lv_at hl 7 rfl) ?_
        refine z_pV (As := []) (rest := [zi vn9, zl va]) hC (c_X12_reds l D y m0 m_read rl rp m_gut gl gp gx gy m_text tn fn m_boat m_coins vw vm vn m_rest m_ends vc m_chan m_spl fs rn m_rf m_rr m_ik m_km m_kb m_kc m_kf m_kr MF MRd (by first | assumption | omega)) (cwV 0 hts gX12_red_X12_reds rfl rfl rfl (by decide +kernel) ⟨Nat.le_of_ble_eq_true rfl, Nat.le_of_ble_eq_true rfl⟩) hG (hPr.sub (ws' := [(m0, .inr (11, [.ref m_read, zi rl, zi rp, .ref m_gut, zi gl, zi gp, zi gx, zi gy, .ref m_text, zi tn, zi fn, .ref m_boat, .ref m_coins, zi vw, zi vm, zi vn, .ref m_rest, .ref m_ends, zl vc, .ref m_chan, .ref m_spl, zi fs, zi rn, .ref m_rf, .ref m_rr, .ref m_ik, .ref m_km, .ref m_kb, .ref m_kc, .ref m_kf, .ref m_kr])), (m_rf, .inl (y 0, 12, .inl (cI MF))), (m_rr, .inl (y 2, 12, .inl (cI MRd)))]) [0, 1, 2] rfl) 0 rfl rfl rfl hl.1 rfl (Nat.le_of_ble_eq_true rfl) dX12_red_119 ⟨Nat.le_of_ble_eq_true rfl, Nat.le_of_ble_eq_true rfl⟩ ?_
        refine z_icmp_ne (tgt := 129) hx hb (by omega) (by omega) dX12_red_122 (by decide) (fun c_122 => ?_) (fun c_122 => ?_)
        ·
          refine lv_lconst (v := iL 0) hx hb dX12_red_129 rfl ?_
          refine z_ladd hx hb dX12_red_130 ?_
          refine lv_lstore_n (lv' := [(3, zl (va + 0)), (10, zi k9), (9, zi vs9), (8, zi vn9), (7, zi t9), (5, zl vl), (2, zi v), (0, .ref m0), (1, zi uq)]) hx hb dX12_red_131 rfl hl (by decide) rfl (fun ls hl => ?_)
          refine lv_lload hx hb dX12_red_132 (lv_at hl 5 rfl) ?_
          refine lv_iload hx hb dX12_red_134 (lv_at hl 3 rfl) ?_
          refine lv_aload_n hx hb dX12_red_136 rfl (lv_at hl 7 rfl) ?_
          refine z_pV (As := []) (rest := [zi vn9, zl vl]) hC (c_X12_reds l D y m0 m_read rl rp m_gut gl gp gx gy m_text tn fn m_boat m_coins vw vm vn m_rest m_ends vc m_chan m_spl fs rn m_rf m_rr m_ik m_km m_kb m_kc m_kf m_kr MF MRd (by first | assumption | omega)) (cwV 0 hts gX12_red_X12_reds rfl rfl rfl (by decide +kernel) ⟨Nat.le_of_ble_eq_true rfl, Nat.le_of_ble_eq_true rfl⟩) hG (hPr.sub (ws' := [(m0, .inr (11, [.ref m_read, zi rl, zi rp, .ref m_gut, zi gl, zi gp, zi gx, zi gy, .ref m_text, zi tn, zi fn, .ref m_boat, .ref m_coins, zi vw, zi vm, zi vn, .ref m_rest, .ref m_ends, zl vc, .ref m_chan, .ref m_spl, zi fs, zi rn, .ref m_rf, .ref m_rr, .ref m_ik, .ref m_km, .ref m_kb, .ref m_kc, .ref m_kf, .ref m_kr])), (m_rf, .inl (y 0, 12, .inl (cI MF))), (m_rr, .inl (y 2, 12, .inl (cI MRd)))]) [0, 1, 2] rfl) 0 rfl rfl rfl hl.1 rfl (Nat.le_of_ble_eq_true rfl) dX12_red_137 ⟨Nat.le_of_ble_eq_true rfl, Nat.le_of_ble_eq_true rfl⟩ ?_
          refine z_icmp_ne (tgt := 153) hx hb (by omega) (by omega) dX12_red_140 (by decide) (fun c_140 => ?_) (fun c_140 => ?_)
          ·
            refine lv_lconst (v := iL 0) hx hb dX12_red_153 rfl ?_
            refine z_ladd hx hb dX12_red_154 ?_
            refine lv_lstore (lv' := [(5, zl (vl + 0)), (3, zl (va + 0)), (10, zi k9), (9, zi vs9), (8, zi vn9), (7, zi t9), (2, zi v), (0, .ref m0), (1, zi uq)]) hx hb dX12_red_155 hl (by decide) rfl (fun ls hl => ?_)
            refine z_iinc (k := 5) (lv' := [(7, zi (t9 + 1)), (5, zl (vl + 0)), (3, zl (va + 0)), (10, zi k9), (9, zi vs9), (8, zi vn9), (2, zi v), (0, .ref m0), (1, zi uq)]) hx hb dX12_red_157 hl rfl (by decide) rfl (fun ls hl => ?_)
            refine lv_goto (tgt := 48) hx hb dX12_red_160 (by decide) ?_
            exact ih48 (va + 0, vl + 0, t9 + 1) _ _ _ (by first | (dsimp only; omega) | omega) ⟨⟨by omega, by rw [sgI_s _ j1.1, ← j2]; first | (rw [bI_t (by omega)]; done) | (rw [bI_f (by omega)]; done) | (rw [bI_f (by omega)]; omega), by rw [sgI_s _ j1.1, ← j3]; first | (rw [bI_t (by omega)]; done) | (rw [bI_f (by omega)]; done) | (rw [bI_f (by omega)]; omega)⟩, lv_sub hl [0, 1, 2, 6, 7, 8] rfl, rfl, rfl⟩
          ·
            refine lv_iload hx hb dX12_red_143 (lv_at hl 2 rfl) ?_
            refine lv_iload_n hx hb dX12_red_145 rfl (lv_at hl 6 rfl) ?_
            refine z_icmp_lt (tgt := 153) hx hb (by omega) (by omega) dX12_red_146 (by decide) (fun c_146 => ?_) (fun c_146 => ?_)
            ·
              refine lv_lconst (v := iL 0) hx hb dX12_red_153 rfl ?_
              refine z_ladd hx hb dX12_red_154 ?_
              refine lv_lstore (lv' := [(5, zl (vl + 0)), (3, zl (va + 0)), (10, zi k9), (9, zi vs9), (8, zi vn9), (7, zi t9), (2, zi v), (0, .ref m0), (1, zi uq)]) hx hb dX12_red_155 hl (by decide) rfl (fun ls hl => ?_)
              refine z_iinc (k := 5) (lv' := [(7, zi (t9 + 1)), (5, zl (vl + 0)), (3, zl (va + 0)), (10, zi k9), (9, zi vs9), (8, zi vn9), (2, zi v), (0, .ref m0), (1, zi uq)]) hx hb dX12_red_157 hl rfl (by decide) rfl (fun ls hl => ?_)
              refine lv_goto (tgt := 48) hx hb dX12_red_160 (by decide) ?_
              exact ih48 (va + 0, vl + 0, t9 + 1) _ _ _ (by first | (dsimp only; omega) | omega) ⟨⟨by omega, by rw [sgI_s _ j1.1, ← j2]; first | (rw [bI_t (by omega)]; done) | (rw [bI_f (by omega)]; done) | (rw [bI_f (by omega)]; omega), by rw [sgI_s _ j1.1, ← j3]; first | (rw [bI_t (by omega)]; done) | (rw [bI_f (by omega)]; done) | (rw [bI_f (by omega)]; omega)⟩, lv_sub hl [0, 1, 2, 6, 7, 8] rfl, rfl, rfl⟩
            ·
              refine lv_lconst (v := iL 1) hx hb dX12_red_149 rfl ?_
              refine lv_goto (tgt := 154) hx hb dX12_red_150 (by decide) ?_
              refine z_ladd hx hb dX12_red_154 ?_
              refine lv_lstore (lv' := [(5, zl (vl + 1)), (3, zl (va + 0)), (10, zi k9), (9, zi vs9), (8, zi vn9), (7, zi t9), (2, zi v), (0, .ref m0), (1, zi uq)]) hx hb dX12_red_155 hl (by decide) rfl (fun ls hl => ?_)
              refine z_iinc (k := 5) (lv' := [(7, zi (t9 + 1)), (5, zl (vl + 1)), (3, zl (va + 0)), (10, zi k9), (9, zi vs9), (8, zi vn9), (2, zi v), (0, .ref m0), (1, zi uq)]) hx hb dX12_red_157 hl rfl (by decide) rfl (fun ls hl => ?_)
              refine lv_goto (tgt := 48) hx hb dX12_red_160 (by decide) ?_
              exact ih48 (va + 0, vl + 1, t9 + 1) _ _ _ (by first | (dsimp only; omega) | omega) ⟨⟨by omega, by rw [sgI_s _ j1.1, ← j2]; first | (rw [bI_t (by omega)]; done) | (rw [bI_f (by omega)]; done) | (rw [bI_f (by omega)]; omega), by rw [sgI_s _ j1.1, ← j3]; first | (rw [bI_t (by omega)]; done) | (rw [bI_f (by omega)]; done) | (rw [bI_f (by omega)]; omega)⟩, lv_sub hl [0, 1, 2, 6, 7, 8] rfl, rfl, rfl⟩
        ·
          refine lv_lconst (v := iL 1) hx hb dX12_red_125 rfl ?_
          refine lv_goto (tgt := 130) hx hb dX12_red_126 (by decide) ?_
          refine z_ladd hx hb dX12_red_130 ?_
          refine lv_lstore_n (lv' := [(3, zl (va + 1)), (10, zi k9), (9, zi vs9), (8, zi vn9), (7, zi t9), (5, zl vl), (2, zi v), (0, .ref m0), (1, zi uq)]) hx hb dX12_red_131 rfl hl (by decide) rfl (fun ls hl => ?_)
          refine lv_lload hx hb dX12_red_132 (lv_at hl 5 rfl) ?_
          refine lv_iload hx hb dX12_red_134 (lv_at hl 3 rfl) ?_
          refine lv_aload_n hx hb dX12_red_136 rfl (lv_at hl 7 rfl) ?_
          refine z_pV (As := []) (rest := [zi vn9, zl vl]) hC (c_X12_reds l D y m0 m_read rl rp m_gut gl gp gx gy m_text tn fn m_boat m_coins vw vm vn m_rest m_ends vc m_chan m_spl fs rn m_rf m_rr m_ik m_km m_kb m_kc m_kf m_kr MF MRd (by first | assumption | omega)) (cwV 0 hts gX12_red_X12_reds rfl rfl rfl (by decide +kernel) ⟨Nat.le_of_ble_eq_true rfl, Nat.le_of_ble_eq_true rfl⟩) hG (hPr.sub (ws' := [(m0, .inr (11, [.ref m_read, zi rl, zi rp, .ref m_gut, zi gl, zi gp, zi gx, zi gy, .ref m_text, zi tn, zi fn, .ref m_boat, .ref m_coins, zi vw, zi vm, zi vn, .ref m_rest, .ref m_ends, zl vc, .ref m_chan, .ref m_spl, zi fs, zi rn, .ref m_rf, .ref m_rr, .ref m_ik, .ref m_km, .ref m_kb, .ref m_kc, .ref m_kf, .ref m_kr])), (m_rf, .inl (y 0, 12, .inl (cI MF))), (m_rr, .inl (y 2, 12, .inl (cI MRd)))]) [0, 1, 2] rfl) 0 rfl rfl rfl hl.1 rfl (Nat.le_of_ble_eq_true rfl) dX12_red_137 ⟨Nat.le_of_ble_eq_true rfl, Nat.le_of_ble_eq_true rfl⟩ ?_
          refine z_icmp_ne (tgt := 153) hx hb (by omega) (by omega) dX12_red_140 (by decide) (fun c_140 => ?_) (fun c_140 => ?_)
          ·
            refine lv_lconst (v := iL 0) hx hb dX12_red_153 rfl ?_
            refine z_ladd hx hb dX12_red_154 ?_
            refine lv_lstore (lv' := [(5, zl (vl + 0)), (3, zl (va + 1)), (10, zi k9), (9, zi vs9), (8, zi vn9), (7, zi t9), (2, zi v), (0, .ref m0), (1, zi uq)]) hx hb dX12_red_155 hl (by decide) rfl (fun ls hl => ?_)
            refine z_iinc (k := 5) (lv' := [(7, zi (t9 + 1)), (5, zl (vl + 0)), (3, zl (va + 1)), (10, zi k9), (9, zi vs9), (8, zi vn9), (2, zi v), (0, .ref m0), (1, zi uq)]) hx hb dX12_red_157 hl rfl (by decide) rfl (fun ls hl => ?_)
            refine lv_goto (tgt := 48) hx hb dX12_red_160 (by decide) ?_
            exact ih48 (va + 1, vl + 0, t9 + 1) _ _ _ (by first | (dsimp only; omega) | omega) ⟨⟨by omega, by rw [sgI_s _ j1.1, ← j2]; first | (rw [bI_t (by omega)]; done) | (rw [bI_f (by omega)]; done) | (rw [bI_f (by omega)]; omega), by rw [sgI_s _ j1.1, ← j3]; first | (rw [bI_t (by omega)]; done) | (rw [bI_f (by omega)]; done) | (rw [bI_f (by omega)]; omega)⟩, lv_sub hl [0, 1, 2, 6, 7, 8] rfl, rfl, rfl⟩
          ·
            refine lv_iload hx hb dX12_red_143 (lv_at hl 2 rfl) ?_
            refine lv_iload_n hx hb dX12_red_145 rfl (lv_at hl 6 rfl) ?_
            refine z_icmp_lt (tgt := 153) hx hb (by omega) (by omega) dX12_red_146 (by decide) (fun c_146 => ?_) (fun c_146 => ?_)
            ·
              refine lv_lconst (v := iL 0) hx hb dX12_red_153 rfl ?_
              refine z_ladd hx hb dX12_red_154 ?_
              refine lv_lstore (lv' := [(5, zl (vl + 0)), (3, zl (va + 1)), (10, zi k9), (9, zi vs9), (8, zi vn9), (7, zi t9), (2, zi v), (0, .ref m0), (1, zi uq)]) hx hb dX12_red_155 hl (by decide) rfl (fun ls hl => ?_)
              refine z_iinc (k := 5) (lv' := [(7, zi (t9 + 1)), (5, zl (vl + 0)), (3, zl (va + 1)), (10, zi k9), (9, zi vs9), (8, zi vn9), (2, zi v), (0, .ref m0), (1, zi uq)]) hx hb dX12_red_157 hl rfl (by decide) rfl (fun ls hl => ?_)
              refine lv_goto (tgt := 48) hx hb dX12_red_160 (by decide) ?_
              exact ih48 (va + 1, vl + 0, t9 + 1) _ _ _ (by first | (dsimp only; omega) | omega) ⟨⟨by omega, by rw [sgI_s _ j1.1, ← j2]; first | (rw [bI_t (by omega)]; done) | (rw [bI_f (by omega)]; done) | (rw [bI_f (by omega)]; omega), by rw [sgI_s _ j1.1, ← j3]; first | (rw [bI_t (by omega)]; done) | (rw [bI_f (by omega)]; done) | (rw [bI_f (by omega)]; omega)⟩, lv_sub hl [0, 1, 2, 6, 7, 8] rfl, rfl, rfl⟩
            ·
              refine lv_lconst (v := iL 1) hx hb dX12_red_149 rfl ?_
              refine lv_goto (tgt := 154) hx hb dX12_red_150 (by decide) ?_
              refine z_ladd hx hb dX12_red_154 ?_
              refine lv_lstore (lv' := [(5, zl (vl + 1)), (3, zl (va + 1)), (10, zi k9), (9, zi vs9), (8, zi vn9), (7, zi t9), (2, zi v), (0, .ref m0), (1, zi uq)]) hx hb dX12_red_155 hl (by decide) rfl (fun ls hl => ?_)
              refine z_iinc (k := 5) (lv' := [(7, zi (t9 + 1)), (5, zl (vl + 1)), (3, zl (va + 1)), (10, zi k9), (9, zi vs9), (8, zi vn9), (2, zi v), (0, .ref m0), (1, zi uq)]) hx hb dX12_red_157 hl rfl (by decide) rfl (fun ls hl => ?_)
              refine lv_goto (tgt := 48) hx hb dX12_red_160 (by decide) ?_
              exact ih48 (va + 1, vl + 1, t9 + 1) _ _ _ (by first | (dsimp only; omega) | omega) ⟨⟨by omega, by rw [sgI_s _ j1.1, ← j2]; first | (rw [bI_t (by omega)]; done) | (rw [bI_f (by omega)]; done) | (rw [bI_f (by omega)]; omega), by rw [sgI_s _ j1.1, ← j3]; first | (rw [bI_t (by omega)]; done) | (rw [bI_f (by omega)]; done) | (rw [bI_f (by omega)]; omega)⟩, lv_sub hl [0, 1, 2, 6, 7, 8] rfl, rfl, rfl⟩
      ·
        refine lv_iload hx hb dX12_red_77 (lv_at hl 2 rfl) ?_
        refine lv_iload hx hb dX12_red_79 (lv_at hl 3 rfl) ?_
        refine lv_iload hx hb dX12_red_81 (lv_at hl 0 rfl) ?_
        refine z_ishr hx hb (by omega) dX12_red_83 ?_
        refine z_iconst hx hb dX12_red_84 ?_
        have d4 := Int.ediv_nonneg (a := t9) (b := 2 ^ k9.toNat) (by omega) (Int.le_of_lt (two_pos _))
        have d5 := Int.ediv_le_self (a := t9) (2 ^ k9.toNat) (by omega)
        refine z_iand1 hx hb (by omega) dX12_red_85 ?_
        refine z_iadd hx hb dX12_red_86 ?_
        refine lv_istore (lv' := [(8, zi (vn9 + ((t9 / 2 ^ k9.toNat) % 2))), (10, zi k9), (9, zi vs9), (7, zi t9), (5, zl vl), (3, zl va), (2, zi v), (0, .ref m0), (1, zi uq)]) hx hb dX12_red_87 hl (by decide) rfl (fun ls hl => ?_)
        refine lv_iload hx hb dX12_red_89 (lv_at hl 2 rfl) ?_
        refine lv_iload hx hb dX12_red_91 (lv_at hl 3 rfl) ?_
        refine lv_iload hx hb dX12_red_93 (lv_at hl 1 rfl) ?_
        refine z_ishr hx hb (by omega) dX12_red_95 ?_
        refine z_iconst hx hb dX12_red_96 ?_
        refine z_iand1 hx hb (by omega) dX12_red_97 ?_
        refine lv_aload_n hx hb dX12_red_98 rfl (lv_at hl 7 rfl) ?_
        refine va_get hx hb hts hinX12 hown hK hPr 0 rfl rfl 23 (by decide) k3 (fun _ h => h) rfl dX12_red_99 ?_
        refine lv_iload hx hb dX12_red_102 (lv_at hl 1 rfl) ?_
        refine z_iald hx hb hK hPr 1 0 rfl rfl (by omega) (by decide) dX12_red_104 ?_
        refine z_imul hx hb dX12_red_105 ?_
        refine z_iadd hx hb dX12_red_106 ?_
        refine lv_istore (lv' := [(9, zi (vs9 + (((t9 / 2 ^ k9.toNat) % 2) * (MF k9)))), (8, zi (vn9 + ((t9 / 2 ^ k9.toNat) % 2))), (10, zi k9), (7, zi t9), (5, zl vl), (3, zl va), (2, zi v), (0, .ref m0), (1, zi uq)]) hx hb dX12_red_107 hl (by decide) rfl (fun ls hl => ?_)
        refine z_iinc (k := 2) (lv' := [(10, zi (k9 + 1)), (9, zi (vs9 + (((t9 / 2 ^ k9.toNat) % 2) * (MF k9)))), (8, zi (vn9 + ((t9 / 2 ^ k9.toNat) % 2))), (7, zi t9), (5, zl vl), (3, zl va), (2, zi v), (0, .ref m0), (1, zi uq)]) hx hb dX12_red_109 hl rfl (by decide) rfl (fun ls hl => ?_)
        refine lv_goto (tgt := 68) hx hb dX12_red_112 (by decide) ?_
        exact ih68 (vn9 + ((t9 / 2 ^ k9.toNat) % 2), vs9 + (((t9 / 2 ^ k9.toNat) % 2) * (MF k9)), k9 + 1) _ _ _ (by first | (dsimp only; omega) | omega) ⟨⟨by omega, by rw [sgI_s _ hi68.1.1, ← hi68.2.1], by rw [sgI_s _ hi68.1.1, ← hi68.2.2]⟩, lv_sub hl [0, 1, 2, 3, 4, 5, 6, 7, 8] rfl, rfl, rfl⟩
  ·
    have b1 := qr k (by omega) (by omega)
    refine lv_iload_n hx hb dX12_red_12 rfl (lv_at hl 1 rfl) ?_
    refine lv_aload_n hx hb dX12_red_13 rfl (lv_at hl 2 rfl) ?_
    refine va_get hx hb hts hinX12 hown hK hPr 0 rfl rfl 24 (by decide) k2 (fun _ h => h) rfl dX12_red_14 ?_
    refine lv_iload_n hx hb dX12_red_17 rfl (lv_at hl 0 rfl) ?_
    refine z_zald hx hb hK hPr 2 2 rfl rfl (by omega) (by decide) dX12_red_18 ?_
    refine z_if_eq (tgt := 31) hx hb (by omega) dX12_red_19 (by decide) (fun c_19 => ?_) (fun c_19 => ?_)
    ·
      refine z_iconst hx hb dX12_red_31 ?_
      refine z_iadd hx hb dX12_red_32 ?_
      refine lv_istore_n (lv' := [(2, zi (v + 0)), (3, zi k), (0, .ref m0), (1, zi uq)]) hx hb dX12_red_33 rfl hl (by decide) rfl (fun ls hl => ?_)
      refine z_iinc (k := 1) (lv' := [(3, zi (k + 1)), (2, zi (v + 0)), (0, .ref m0), (1, zi uq)]) hx hb dX12_red_34 hl rfl (by decide) rfl (fun ls hl => ?_)
      refine lv_goto (tgt := 4) hx hb dX12_red_37 (by decide) ?_
      exact ih4 (v + 0, k + 1) _ _ _ (by first | (dsimp only; omega) | omega) ⟨⟨by omega, by rw [sgI_s _ hi4.1.1, ← hi4.2]; first | (rw [show MRd k = 1 by omega, Int.one_mul]; done) | (rw [show MRd k = 0 by omega, Int.zero_mul]; done)⟩, lv_sub hl [0, 1, 2, 3] rfl, rfl, rfl⟩
    ·
      refine lv_aload_n hx hb dX12_red_22 rfl (lv_at hl 2 rfl) ?_
      refine va_get hx hb hts hinX12 hown hK hPr 0 rfl rfl 23 (by decide) k3 (fun _ h => h) rfl dX12_red_23 ?_
      refine lv_iload_n hx hb dX12_red_26 rfl (lv_at hl 0 rfl) ?_
      refine z_iald hx hb hK hPr 1 0 rfl rfl (by omega) (by decide) dX12_red_27 ?_
      refine lv_goto (tgt := 32) hx hb dX12_red_28 (by decide) ?_
      refine z_iadd hx hb dX12_red_32 ?_
      refine lv_istore_n (lv' := [(2, zi (v + (MF k))), (3, zi k), (0, .ref m0), (1, zi uq)]) hx hb dX12_red_33 rfl hl (by decide) rfl (fun ls hl => ?_)
      refine z_iinc (k := 1) (lv' := [(3, zi (k + 1)), (2, zi (v + (MF k))), (0, .ref m0), (1, zi uq)]) hx hb dX12_red_34 hl rfl (by decide) rfl (fun ls hl => ?_)
      refine lv_goto (tgt := 4) hx hb dX12_red_37 (by decide) ?_
      exact ih4 (v + (MF k), k + 1) _ _ _ (by first | (dsimp only; omega) | omega) ⟨⟨by omega, by rw [sgI_s _ hi4.1.1, ← hi4.2]; first | (rw [show MRd k = 1 by omega, Int.one_mul]; done) | (rw [show MRd k = 0 by omega, Int.zero_mul]; done)⟩, lv_sub hl [0, 1, 2, 3] rfl, rfl, rfl⟩
set_option maxHeartbeats 8000000 in
set_option maxRecDepth 100000 in
theorem c_X12_keep_no (l : Launch) (D : va_G) (y : Nat → ClassId) (m0 : Nat) (m_read : Nat) (rl : Int) (rp : Int) (m_gut : Nat) (gl : Int) (gp : Int) (gx : Int) (gy : Int) (m_text : Nat) (tn : Int) (fn : Int) (m_boat : Nat) (m_coins : Nat) (vw : Int) (vm : Int) (vn : Int) (m_rest : Nat) (m_ends : Nat) (vc : Int) (m_chan : Nat) (m_spl : Nat) (fs : Int) (rn : Int) (m_rf : Nat) (m_rr : Nat) (m_ik : Nat) (m_km : Nat) (m_kb : Nat) (m_kc : Nat) (m_kf : Nat) (m_kr : Nat) (sq : Int) (hr9 : rI sq) (hq : ¬ (0 ≤ sq ∧ sq ≤ 1)) : Met l yX12_keep wsX12_keep ({ frames := 1, cells := 0, slots := 0, locals := 25 } : Room) (pPc D y [(m0, .inr (11, [.ref m_read, zi rl, zi rp, .ref m_gut, zi gl, zi gp, zi gx, zi gy, .ref m_text, zi tn, zi fn, .ref m_boat, .ref m_coins, zi vw, zi vm, zi vn, .ref m_rest, .ref m_ends, zl vc, .ref m_chan, .ref m_spl, zi fs, zi rn, .ref m_rf, .ref m_rr, .ref m_ik, .ref m_km, .ref m_kb, .ref m_kc, .ref m_kf, .ref m_kr]))] [.ref m0, zi sq]) (qV (zi (-1))) 0 0 (fun _ => False) := by
  refine P_of (own := RX12) (cc := cX12_keep) (maxL := 3) (ret := some .int) (by decide) rfl rfl (Nat.le_of_ble_eq_true rfl) (fun p e s m below meth c ls hx hb hr hC hlocks hPr hG hl => ?_)
  have hC0 := hC
  obtain ⟨-, -, hml, hown, hts⟩ := hC0
  have hK := hG.1
  have hl : lv_has ls 3 [(0, .ref m0), (1, zi sq)] := hl
  refine lv_iload_n hx hb dX12_keep_0 rfl (lv_at hl 1 rfl) ?_
  refine z_i2l hx hb (by omega) dX12_keep_1 ?_
  refine lv_lconst (v := iL 0) hx hb dX12_keep_2 rfl ?_
  refine lv_lconst (v := iL 1) hx hb dX12_keep_3 rfl ?_
  refine z_pS (As := [zl sq, zl 0, zl 1]) (rest := []) hC (c_X12_in l D y sq 0 1 (by first | assumption | omega)) (va_cwS 3 hts gX12_keep_X12_in rfl rfl rfl (by decide +kernel) ⟨Nat.le_of_ble_eq_true rfl, Nat.le_of_ble_eq_true rfl⟩) hG va_P_nil rfl hl.1 rfl (Nat.le_of_ble_eq_true rfl) dX12_keep_4 ⟨Nat.le_of_ble_eq_true rfl, Nat.le_of_ble_eq_true rfl⟩ ?_
  refine z_ifB_ne (tgt := 12) hx hb dX12_keep_7 (by decide) (fun c_7 => ?_) (fun c_7 => ?_)
  · exfalso; omega
  ·
    refine z_iconst hx hb dX12_keep_10 ?_
    exact z_iret0 hx hb hr hlocks (rfl) dX12_keep_11
set_option maxHeartbeats 8000000 in
set_option maxRecDepth 100000 in
theorem c_X12_keep (l : Launch) (D : va_G) (y : Nat → ClassId) (m0 : Nat) (m_read : Nat) (rl : Int) (rp : Int) (m_gut : Nat) (gl : Int) (gp : Int) (gx : Int) (gy : Int) (m_text : Nat) (tn : Int) (fn : Int) (m_boat : Nat) (m_coins : Nat) (vw : Int) (vm : Int) (vn : Int) (m_rest : Nat) (m_ends : Nat) (vc : Int) (m_chan : Nat) (m_spl : Nat) (fs : Int) (rn : Int) (m_rf : Nat) (m_rr : Nat) (m_ik : Nat) (m_km : Nat) (m_kb : Nat) (m_kc : Nat) (m_kf : Nat) (m_kr : Nat) (MB : Int → Int) (MC : Int → Int) (MF : Int → Int) (MRd : Int → Int) (MIk : Int → Int) (MKm : Int → Int) (MKb : Int → Int) (MKc : Int → Int) (MKf : Int → Int) (MKr : Int → Int) (sq : Int) (hq : 0 ≤ sq ∧ sq ≤ 1) (h01 : ∀ j : Int, 0 ≤ j → j < 12 → MRd j = 0 ∨ MRd j = 1) (sz : Nat) : Met l yX12_keep wsX12_keep ({ frames := 1, cells := 0, slots := 0, locals := 25 } : Room) (wPc D y [] [(m0, .inr (11, [.ref m_read, zi rl, zi rp, .ref m_gut, zi gl, zi gp, zi gx, zi gy, .ref m_text, zi tn, zi fn, .ref m_boat, .ref m_coins, zi vw, zi vm, zi vn, .ref m_rest, .ref m_ends, zl vc, .ref m_chan, .ref m_spl, zi fs, zi rn, .ref m_rf, .ref m_rr, .ref m_ik, .ref m_km, .ref m_kb, .ref m_kc, .ref m_kf, .ref m_kr])), (m_boat, .inl (y 0, 42, .inl (cI MB))), (m_coins, .inl (y 0, 144, .inl (cI MC))), (m_rf, .inl (y 0, 12, .inl (cI MF))), (m_rr, .inl (y 2, 12, .inl (cI MRd))), (m_ik, .inl (y 2, 2, .inl (cI MIk))), (m_km, .inl (y 0, 4, .inl (cI MKm))), (m_kb, .inl (y 0, 84, .inl (cI MKb))), (m_kc, .inl (y 0, 288, .inl (cI MKc))), (m_kf, .inl (y 0, 24, .inl (cI MKf))), (m_kr, .inl (y 2, 24, .inl (cI MKr)))] sz [.ref m0, zi sq]) (wQ D (fun (x9 : (Int → Int) × (Int → Int) × (Int → Int) × (Int → Int) × (Int → Int) × (Int → Int)) => match x9 with | (MIk2, MKm2, MKb2, MKc2, MKf2, MKr2) => some (zi fn)) (fun (x9 : (Int → Int) × (Int → Int) × (Int → Int) × (Int → Int) × (Int → Int) × (Int → Int)) => match x9 with | (MIk2, MKm2, MKb2, MKc2, MKf2, MKr2) => MIk2 = iu MIk sq 1 ∧ MKm2 = iu (iu MKm (2 * sq) fn) (2 * sq + 1) rn ∧ (∀ j : Int, MKb2 j = if 42 * sq ≤ j ∧ j < 42 * sq + 42 then MB (j - 42 * sq) else MKb j) ∧ (∀ j : Int, MKc2 j = if 144 * sq ≤ j ∧ j < 144 * sq + 144 then MC (j - 144 * sq) else MKc j) ∧ (∀ j : Int, MKf2 j = if 12 * sq ≤ j ∧ j < 12 * sq + 12 then MF (j - 12 * sq) else MKf j) ∧ (∀ j : Int, MKr2 j = if 12 * sq ≤ j ∧ j < 12 * sq + 12 then MRd (j - 12 * sq) else MKr j)) (fun (x9 : (Int → Int) × (Int → Int) × (Int → Int) × (Int → Int) × (Int → Int) × (Int → Int)) => match x9 with | (MIk2, MKm2, MKb2, MKc2, MKf2, MKr2) => [(m0, .inr (11, [.ref m_read, zi rl, zi rp, .ref m_gut, zi gl, zi gp, zi gx, zi gy, .ref m_text, zi tn, zi fn, .ref m_boat, .ref m_coins, zi vw, zi vm, zi vn, .ref m_rest, .ref m_ends, zl vc, .ref m_chan, .ref m_spl, zi fs, zi rn, .ref m_rf, .ref m_rr, .ref m_ik, .ref m_km, .ref m_kb, .ref m_kc, .ref m_kf, .ref m_kr])), (m_boat, .inl (y 0, 42, .inl (cI MB))), (m_coins, .inl (y 0, 144, .inl (cI MC))), (m_rf, .inl (y 0, 12, .inl (cI MF))), (m_rr, .inl (y 2, 12, .inl (cI MRd))), (m_ik, .inl (y 2, 2, .inl (cI MIk2))), (m_km, .inl (y 0, 4, .inl (cI MKm2))), (m_kb, .inl (y 0, 84, .inl (cI MKb2))), (m_kc, .inl (y 0, 288, .inl (cI MKc2))), (m_kf, .inl (y 0, 24, .inl (cI MKf2))), (m_kr, .inl (y 2, 24, .inl (cI MKr2)))]) (va_A [(m0, .inr (11, [.ref m_read, zi rl, zi rp, .ref m_gut, zi gl, zi gp, zi gx, zi gy, .ref m_text, zi tn, zi fn, .ref m_boat, .ref m_coins, zi vw, zi vm, zi vn, .ref m_rest, .ref m_ends, zl vc, .ref m_chan, .ref m_spl, zi fs, zi rn, .ref m_rf, .ref m_rr, .ref m_ik, .ref m_km, .ref m_kb, .ref m_kc, .ref m_kf, .ref m_kr])), (m_boat, .inl (y 0, 42, .inl (cI MB))), (m_coins, .inl (y 0, 144, .inl (cI MC))), (m_rf, .inl (y 0, 12, .inl (cI MF))), (m_rr, .inl (y 2, 12, .inl (cI MRd))), (m_ik, .inl (y 2, 2, .inl (cI MIk))), (m_km, .inl (y 0, 4, .inl (cI MKm))), (m_kb, .inl (y 0, 84, .inl (cI MKb))), (m_kc, .inl (y 0, 288, .inl (cI MKc))), (m_kf, .inl (y 0, 24, .inl (cI MKf))), (m_kr, .inl (y 2, 24, .inl (cI MKr)))] sz)) 0 0 (va_A [(m0, .inr (11, [.ref m_read, zi rl, zi rp, .ref m_gut, zi gl, zi gp, zi gx, zi gy, .ref m_text, zi tn, zi fn, .ref m_boat, .ref m_coins, zi vw, zi vm, zi vn, .ref m_rest, .ref m_ends, zl vc, .ref m_chan, .ref m_spl, zi fs, zi rn, .ref m_rf, .ref m_rr, .ref m_ik, .ref m_km, .ref m_kb, .ref m_kc, .ref m_kf, .ref m_kr])), (m_boat, .inl (y 0, 42, .inl (cI MB))), (m_coins, .inl (y 0, 144, .inl (cI MC))), (m_rf, .inl (y 0, 12, .inl (cI MF))), (m_rr, .inl (y 2, 12, .inl (cI MRd))), (m_ik, .inl (y 2, 2, .inl (cI MIk))), (m_km, .inl (y 0, 4, .inl (cI MKm))), (m_kb, .inl (y 0, 84, .inl (cI MKb))), (m_kc, .inl (y 0, 288, .inl (cI MKc))), (m_kf, .inl (y 0, 24, .inl (cI MKf))), (m_kr, .inl (y 2, 24, .inl (cI MKr)))] sz) := by
  refine W_of (own := RX12) (cc := cX12_keep) (maxL := 3) (ret := some .int) (by decide) rfl rfl (Nat.le_of_ble_eq_true rfl) (fun p e s m below meth c ls A hx hb hr hC hlocks hin0 hR0 hN hP hD hA hG hl => ?_)
  have hC0 := hC
  obtain ⟨-, -, hml, hown, hts⟩ := hC0
  have hK := hG.1
  have hS : va_S A s.heap s.heap [] := va_S.rf
  have hPr := hR0
  have hinX12 : ∀ w ∈ wsX120, w ∈ wsX12_keep := fun _ h => List.mem_cons_of_mem _ (List.mem_append_right _ h)
  have k1 := hts (.fieldLink RX12 45 "BoatsOfPaperModel" "isKept" "[Z") (List.mem_of_getElem? (i := 1) rfl)
  have k2 := hts (.fieldLink RX12 48 "BoatsOfPaperModel" "keptMany" "[I") (List.mem_of_getElem? (i := 2) rfl)
  have k3 := hts (.fieldLink RX12 114 "BoatsOfPaperModel" "boats" "I") (List.mem_of_getElem? (i := 3) rfl)
  have k4 := hts (.fieldLink RX12 241 "BoatsOfPaperModel" "runs" "I") (List.mem_of_getElem? (i := 4) rfl)
  have k5 := hts (.fieldLink RX12 51 "BoatsOfPaperModel" "keptBoat" "[I") (List.mem_of_getElem? (i := 5) rfl)
  have k6 := hts (.fieldLink RX12 19 "BoatsOfPaperModel" "boat" "[I") (List.mem_of_getElem? (i := 6) rfl)
  have k7 := hts (.fieldLink RX12 54 "BoatsOfPaperModel" "keptCoins" "[I") (List.mem_of_getElem? (i := 7) rfl)
  have k8 := hts (.fieldLink RX12 22 "BoatsOfPaperModel" "coins" "[I") (List.mem_of_getElem? (i := 8) rfl)
  have k9 := hts (.fieldLink RX12 57 "BoatsOfPaperModel" "keptFar" "[I") (List.mem_of_getElem? (i := 9) rfl)
  have k10 := hts (.fieldLink RX12 38 "BoatsOfPaperModel" "runFar" "[I") (List.mem_of_getElem? (i := 10) rfl)
  have k11 := hts (.fieldLink RX12 60 "BoatsOfPaperModel" "keptRed" "[Z") (List.mem_of_getElem? (i := 11) rfl)
  have k12 := hts (.fieldLink RX12 41 "BoatsOfPaperModel" "runRed" "[Z") (List.mem_of_getElem? (i := 12) rfl)
  have hl : lv_has ls 3 [(0, .ref m0), (1, zi sq)] := hl
  refine lv_iload_n hx hb dX12_keep_0 rfl (lv_at hl 1 rfl) ?_
  refine z_i2l hx hb (by omega) dX12_keep_1 ?_
  refine lv_lconst (v := iL 0) hx hb dX12_keep_2 rfl ?_
  refine lv_lconst (v := iL 1) hx hb dX12_keep_3 rfl ?_
  refine z_pS (As := [zl sq, zl 0, zl 1]) (rest := []) hC (c_X12_in l D y sq 0 1 (by first | assumption | omega)) (va_cwS 3 hts gX12_keep_X12_in rfl rfl rfl (by decide +kernel) ⟨Nat.le_of_ble_eq_true rfl, Nat.le_of_ble_eq_true rfl⟩) hG va_P_nil rfl hl.1 rfl (Nat.le_of_ble_eq_true rfl) dX12_keep_4 ⟨Nat.le_of_ble_eq_true rfl, Nat.le_of_ble_eq_true rfl⟩ ?_
  refine z_ifB_ne (tgt := 12) hx hb dX12_keep_7 (by decide) (fun c_7 => ?_) (fun c_7 => ?_)
  ·
    refine lv_aload_n hx hb dX12_keep_12 rfl (lv_at hl 0 rfl) ?_
    refine va_get hx hb hts hinX12 hown hK hP 0 rfl rfl 25 (by decide) k1 (fun _ h => h) rfl dX12_keep_13 ?_
    refine lv_iload_n hx hb dX12_keep_16 rfl (lv_at hl 1 rfl) ?_
    refine z_iconst hx hb dX12_keep_17 ?_
    refine z_zast hx hb hK hP hD hS 5 2 rfl rfl (by omega) (by decide) (by omega) dX12_keep_18 (fun H locs hP hD hS => ?_)
    have hP : va_P D vwCl [(m0, .inr (11, [.ref m_read, zi rl, zi rp, .ref m_gut, zi gl, zi gp, zi gx, zi gy, .ref m_text, zi tn, zi fn, .ref m_boat, .ref m_coins, zi vw, zi vm, zi vn, .ref m_rest, .ref m_ends, zl vc, .ref m_chan, .ref m_spl, zi fs, zi rn, .ref m_rf, .ref m_rr, .ref m_ik, .ref m_km, .ref m_kb, .ref m_kc, .ref m_kf, .ref m_kr])), (m_boat, .inl (y 0, 42, .inl (cI MB))), (m_coins, .inl (y 0, 144, .inl (cI MC))), (m_rf, .inl (y 0, 12, .inl (cI MF))), (m_rr, .inl (y 2, 12, .inl (cI MRd))), (m_ik, .inl (y 2, 2, .inl (cI (iu MIk sq 1)))), (m_km, .inl (y 0, 4, .inl (cI MKm))), (m_kb, .inl (y 0, 84, .inl (cI MKb))), (m_kc, .inl (y 0, 288, .inl (cI MKc))), (m_kf, .inl (y 0, 24, .inl (cI MKf))), (m_kr, .inl (y 2, 24, .inl (cI MKr)))] H := hP
    have hD : va_D A [(m0, .inr (11, [.ref m_read, zi rl, zi rp, .ref m_gut, zi gl, zi gp, zi gx, zi gy, .ref m_text, zi tn, zi fn, .ref m_boat, .ref m_coins, zi vw, zi vm, zi vn, .ref m_rest, .ref m_ends, zl vc, .ref m_chan, .ref m_spl, zi fs, zi rn, .ref m_rf, .ref m_rr, .ref m_ik, .ref m_km, .ref m_kb, .ref m_kc, .ref m_kf, .ref m_kr])), (m_boat, .inl (y 0, 42, .inl (cI MB))), (m_coins, .inl (y 0, 144, .inl (cI MC))), (m_rf, .inl (y 0, 12, .inl (cI MF))), (m_rr, .inl (y 2, 12, .inl (cI MRd))), (m_ik, .inl (y 2, 2, .inl (cI (iu MIk sq 1)))), (m_km, .inl (y 0, 4, .inl (cI MKm))), (m_kb, .inl (y 0, 84, .inl (cI MKb))), (m_kc, .inl (y 0, 288, .inl (cI MKc))), (m_kf, .inl (y 0, 24, .inl (cI MKf))), (m_kr, .inl (y 2, 24, .inl (cI MKr)))] := hD
    refine lv_aload_n hx hb dX12_keep_19 rfl (lv_at hl 0 rfl) ?_
    refine va_get hx hb hts hinX12 hown hK hP 0 rfl rfl 26 (by decide) k2 (fun _ h => h) rfl dX12_keep_20 ?_
    refine z_iconst hx hb dX12_keep_23 ?_
    refine lv_iload_n hx hb dX12_keep_24 rfl (lv_at hl 1 rfl) ?_
    refine z_imul hx hb dX12_keep_25 ?_
    refine lv_aload_n hx hb dX12_keep_26 rfl (lv_at hl 0 rfl) ?_
    refine va_get hx hb hts hinX12 hown hK hP 0 rfl rfl 10 (by decide) k3 (fun _ h => h) rfl dX12_keep_27 ?_
    refine z_iast hx hb hK hP hD hS 6 0 rfl rfl (by omega) (by decide) dX12_keep_30 (fun H locs hP hD hS => ?_)
    have hP : va_P D vwCl [(m0, .inr (11, [.ref m_read, zi rl, zi rp, .ref m_gut, zi gl, zi gp, zi gx, zi gy, .ref m_text, zi tn, zi fn, .ref m_boat, .ref m_coins, zi vw, zi vm, zi vn, .ref m_rest, .ref m_ends, zl vc, .ref m_chan, .ref m_spl, zi fs, zi rn, .ref m_rf, .ref m_rr, .ref m_ik, .ref m_km, .ref m_kb, .ref m_kc, .ref m_kf, .ref m_kr])), (m_boat, .inl (y 0, 42, .inl (cI MB))), (m_coins, .inl (y 0, 144, .inl (cI MC))), (m_rf, .inl (y 0, 12, .inl (cI MF))), (m_rr, .inl (y 2, 12, .inl (cI MRd))), (m_ik, .inl (y 2, 2, .inl (cI (iu MIk sq 1)))), (m_km, .inl (y 0, 4, .inl (cI (iu MKm (2 * sq) fn)))), (m_kb, .inl (y 0, 84, .inl (cI MKb))), (m_kc, .inl (y 0, 288, .inl (cI MKc))), (m_kf, .inl (y 0, 24, .inl (cI MKf))), (m_kr, .inl (y 2, 24, .inl (cI MKr)))] H := hP
    have hD : va_D A [(m0, .inr (11, [.ref m_read, zi rl, zi rp, .ref m_gut, zi gl, zi gp, zi gx, zi gy, .ref m_text, zi tn, zi fn, .ref m_boat, .ref m_coins, zi vw, zi vm, zi vn, .ref m_rest, .ref m_ends, zl vc, .ref m_chan, .ref m_spl, zi fs, zi rn, .ref m_rf, .ref m_rr, .ref m_ik, .ref m_km, .ref m_kb, .ref m_kc, .ref m_kf, .ref m_kr])), (m_boat, .inl (y 0, 42, .inl (cI MB))), (m_coins, .inl (y 0, 144, .inl (cI MC))), (m_rf, .inl (y 0, 12, .inl (cI MF))), (m_rr, .inl (y 2, 12, .inl (cI MRd))), (m_ik, .inl (y 2, 2, .inl (cI (iu MIk sq 1)))), (m_km, .inl (y 0, 4, .inl (cI (iu MKm (2 * sq) fn)))), (m_kb, .inl (y 0, 84, .inl (cI MKb))), (m_kc, .inl (y 0, 288, .inl (cI MKc))), (m_kf, .inl (y 0, 24, .inl (cI MKf))), (m_kr, .inl (y 2, 24, .inl (cI MKr)))] := hD
    refine lv_aload_n hx hb dX12_keep_31 rfl (lv_at hl 0 rfl) ?_
    refine va_get hx hb hts hinX12 hown hK hP 0 rfl rfl 26 (by decide) k2 (fun _ h => h) rfl dX12_keep_32 ?_
    refine z_iconst hx hb dX12_keep_35 ?_
    refine lv_iload_n hx hb dX12_keep_36 rfl (lv_at hl 1 rfl) ?_
    refine z_imul hx hb dX12_keep_37 ?_
    refine z_iconst hx hb dX12_keep_38 ?_
    refine z_iadd hx hb dX12_keep_39 ?_
    refine lv_aload_n hx hb dX12_keep_40 rfl (lv_at hl 0 rfl) ?_
    refine va_get hx hb hts hinX12 hown hK hP 0 rfl rfl 22 (by decide) k4 (fun _ h => h) rfl dX12_keep_41 ?_
    refine z_iast hx hb hK hP hD hS 6 0 rfl rfl (by omega) (by decide) dX12_keep_44 (fun H locs hP hD hS => ?_)
    have hP : va_P D vwCl [(m0, .inr (11, [.ref m_read, zi rl, zi rp, .ref m_gut, zi gl, zi gp, zi gx, zi gy, .ref m_text, zi tn, zi fn, .ref m_boat, .ref m_coins, zi vw, zi vm, zi vn, .ref m_rest, .ref m_ends, zl vc, .ref m_chan, .ref m_spl, zi fs, zi rn, .ref m_rf, .ref m_rr, .ref m_ik, .ref m_km, .ref m_kb, .ref m_kc, .ref m_kf, .ref m_kr])), (m_boat, .inl (y 0, 42, .inl (cI MB))), (m_coins, .inl (y 0, 144, .inl (cI MC))), (m_rf, .inl (y 0, 12, .inl (cI MF))), (m_rr, .inl (y 2, 12, .inl (cI MRd))), (m_ik, .inl (y 2, 2, .inl (cI (iu MIk sq 1)))), (m_km, .inl (y 0, 4, .inl (cI (iu (iu MKm (2 * sq) fn) ((2 * sq) + 1) rn)))), (m_kb, .inl (y 0, 84, .inl (cI MKb))), (m_kc, .inl (y 0, 288, .inl (cI MKc))), (m_kf, .inl (y 0, 24, .inl (cI MKf))), (m_kr, .inl (y 2, 24, .inl (cI MKr)))] H := hP
    have hD : va_D A [(m0, .inr (11, [.ref m_read, zi rl, zi rp, .ref m_gut, zi gl, zi gp, zi gx, zi gy, .ref m_text, zi tn, zi fn, .ref m_boat, .ref m_coins, zi vw, zi vm, zi vn, .ref m_rest, .ref m_ends, zl vc, .ref m_chan, .ref m_spl, zi fs, zi rn, .ref m_rf, .ref m_rr, .ref m_ik, .ref m_km, .ref m_kb, .ref m_kc, .ref m_kf, .ref m_kr])), (m_boat, .inl (y 0, 42, .inl (cI MB))), (m_coins, .inl (y 0, 144, .inl (cI MC))), (m_rf, .inl (y 0, 12, .inl (cI MF))), (m_rr, .inl (y 2, 12, .inl (cI MRd))), (m_ik, .inl (y 2, 2, .inl (cI (iu MIk sq 1)))), (m_km, .inl (y 0, 4, .inl (cI (iu (iu MKm (2 * sq) fn) ((2 * sq) + 1) rn)))), (m_kb, .inl (y 0, 84, .inl (cI MKb))), (m_kc, .inl (y 0, 288, .inl (cI MKc))), (m_kf, .inl (y 0, 24, .inl (cI MKf))), (m_kr, .inl (y 2, 24, .inl (cI MKr)))] := hD
    refine z_iconst hx hb dX12_keep_45 ?_
    refine lv_istore_n (lv' := [(2, zi 0), (0, .ref m0), (1, zi sq)]) hx hb dX12_keep_46 rfl hl (by decide) rfl (fun ls hl => ?_)
    refine z_loop (σ := Int × (Int → Int)) (fun x9 H lc ls => match x9 with | (k, B1) => ((0 ≤ k ∧ k ≤ 42) ∧ (∀ j : Int, B1 j = if 42 * sq ≤ j ∧ j < 42 * sq + k then MB (j - 42 * sq) else MKb j)) ∧ lv_has ls 3 [(2, zi k), (0, .ref m0), (1, zi sq)] ∧ va_P D vwCl [(m0, .inr (11, [.ref m_read, zi rl, zi rp, .ref m_gut, zi gl, zi gp, zi gx, zi gy, .ref m_text, zi tn, zi fn, .ref m_boat, .ref m_coins, zi vw, zi vm, zi vn, .ref m_rest, .ref m_ends, zl vc, .ref m_chan, .ref m_spl, zi fs, zi rn, .ref m_rf, .ref m_rr, .ref m_ik, .ref m_km, .ref m_kb, .ref m_kc, .ref m_kf, .ref m_kr])), (m_boat, .inl (y 0, 42, .inl (cI MB))), (m_coins, .inl (y 0, 144, .inl (cI MC))), (m_rf, .inl (y 0, 12, .inl (cI MF))), (m_rr, .inl (y 2, 12, .inl (cI MRd))), (m_ik, .inl (y 2, 2, .inl (cI (iu MIk sq 1)))), (m_km, .inl (y 0, 4, .inl (cI (iu (iu MKm (2 * sq) fn) ((2 * sq) + 1) rn)))), (m_kb, .inl (y 0, 84, .inl (cI B1))), (m_kc, .inl (y 0, 288, .inl (cI MKc))), (m_kf, .inl (y 0, 24, .inl (cI MKf))), (m_kr, .inl (y 2, 24, .inl (cI MKr)))] H ∧ va_D A [(m0, .inr (11, [.ref m_read, zi rl, zi rp, .ref m_gut, zi gl, zi gp, zi gx, zi gy, .ref m_text, zi tn, zi fn, .ref m_boat, .ref m_coins, zi vw, zi vm, zi vn, .ref m_rest, .ref m_ends, zl vc, .ref m_chan, .ref m_spl, zi fs, zi rn, .ref m_rf, .ref m_rr, .ref m_ik, .ref m_km, .ref m_kb, .ref m_kc, .ref m_kf, .ref m_kr])), (m_boat, .inl (y 0, 42, .inl (cI MB))), (m_coins, .inl (y 0, 144, .inl (cI MC))), (m_rf, .inl (y 0, 12, .inl (cI MF))), (m_rr, .inl (y 2, 12, .inl (cI MRd))), (m_ik, .inl (y 2, 2, .inl (cI (iu MIk sq 1)))), (m_km, .inl (y 0, 4, .inl (cI (iu (iu MKm (2 * sq) fn) ((2 * sq) + 1) rn)))), (m_kb, .inl (y 0, 84, .inl (cI B1))), (m_kc, .inl (y 0, 288, .inl (cI MKc))), (m_kf, .inl (y 0, 24, .inl (cI MKf))), (m_kr, .inl (y 2, 24, .inl (cI MKr)))] ∧ va_S A s.heap H lc) (fun x9  => match x9 with | (k, B1) => ((42 - k).toNat)) ?_ (0, MKb) ⟨⟨by omega, fun j => (if_neg (by omega)).symm⟩, lv_sub hl [0, 1, 2] rfl, hP.sub [0, 1, 2, 3, 4, 5, 6, 7, 8, 9, 10] rfl, hD.sub [0, 1, 2, 3, 4, 5, 6, 7, 8, 9, 10] (by decide) rfl, hS⟩
    rintro ⟨k, B1⟩ H lc ls ⟨hi47, hl, hP, hD, hS⟩ ih47
    have hP : va_P D vwCl [(m0, .inr (11, [.ref m_read, zi rl, zi rp, .ref m_gut, zi gl, zi gp, zi gx, zi gy, .ref m_text, zi tn, zi fn, .ref m_boat, .ref m_coins, zi vw, zi vm, zi vn, .ref m_rest, .ref m_ends, zl vc, .ref m_chan, .ref m_spl, zi fs, zi rn, .ref m_rf, .ref m_rr, .ref m_ik, .ref m_km, .ref m_kb, .ref m_kc, .ref m_kf, .ref m_kr])), (m_boat, .inl (y 0, 42, .inl (cI MB))), (m_coins, .inl (y 0, 144, .inl (cI MC))), (m_rf, .inl (y 0, 12, .inl (cI MF))), (m_rr, .inl (y 2, 12, .inl (cI MRd))), (m_ik, .inl (y 2, 2, .inl (cI (iu MIk sq 1)))), (m_km, .inl (y 0, 4, .inl (cI (iu (iu MKm (2 * sq) fn) ((2 * sq) + 1) rn)))), (m_kb, .inl (y 0, 84, .inl (cI B1))), (m_kc, .inl (y 0, 288, .inl (cI MKc))), (m_kf, .inl (y 0, 24, .inl (cI MKf))), (m_kr, .inl (y 2, 24, .inl (cI MKr)))] H := hP
    have hD : va_D A [(m0, .inr (11, [.ref m_read, zi rl, zi rp, .ref m_gut, zi gl, zi gp, zi gx, zi gy, .ref m_text, zi tn, zi fn, .ref m_boat, .ref m_coins, zi vw, zi vm, zi vn, .ref m_rest, .ref m_ends, zl vc, .ref m_chan, .ref m_spl, zi fs, zi rn, .ref m_rf, .ref m_rr, .ref m_ik, .ref m_km, .ref m_kb, .ref m_kc, .ref m_kf, .ref m_kr])), (m_boat, .inl (y 0, 42, .inl (cI MB))), (m_coins, .inl (y 0, 144, .inl (cI MC))), (m_rf, .inl (y 0, 12, .inl (cI MF))), (m_rr, .inl (y 2, 12, .inl (cI MRd))), (m_ik, .inl (y 2, 2, .inl (cI (iu MIk sq 1)))), (m_km, .inl (y 0, 4, .inl (cI (iu (iu MKm (2 * sq) fn) ((2 * sq) + 1) rn)))), (m_kb, .inl (y 0, 84, .inl (cI B1))), (m_kc, .inl (y 0, 288, .inl (cI MKc))), (m_kf, .inl (y 0, 24, .inl (cI MKf))), (m_kr, .inl (y 2, 24, .inl (cI MKr)))] := hD
    refine lv_iload_n hx hb dX12_keep_47 rfl (lv_at hl 0 rfl) ?_
    refine z_bipush hx hb dX12_keep_48 (by decide) ?_
    refine z_icmp_ge (tgt := 76) hx hb (by omega) (by omega) dX12_keep_50 (by decide) (fun c_50 => ?_) (fun c_50 => ?_)
    ·
      have kb9 : (∀ j : Int, B1 j = if 42 * sq ≤ j ∧ j < 42 * sq + 42 then MB (j - 42 * sq) else MKb j) := (by rw [show k = 42 by omega] at hi47; exact hi47.2)
      refine z_iconst hx hb dX12_keep_76 ?_
      refine lv_istore_n (lv' := [(2, zi 0), (0, .ref m0), (1, zi sq)]) hx hb dX12_keep_77 rfl hl (by decide) rfl (fun ls hl => ?_)
      refine z_loop (σ := Int × (Int → Int)) (fun x9 H lc ls => match x9 with | (k, C1) => ((0 ≤ k ∧ k ≤ 144) ∧ (∀ j : Int, C1 j = if 144 * sq ≤ j ∧ j < 144 * sq + k then MC (j - 144 * sq) else MKc j)) ∧ lv_has ls 3 [(2, zi k), (0, .ref m0), (1, zi sq)] ∧ va_P D vwCl [(m0, .inr (11, [.ref m_read, zi rl, zi rp, .ref m_gut, zi gl, zi gp, zi gx, zi gy, .ref m_text, zi tn, zi fn, .ref m_boat, .ref m_coins, zi vw, zi vm, zi vn, .ref m_rest, .ref m_ends, zl vc, .ref m_chan, .ref m_spl, zi fs, zi rn, .ref m_rf, .ref m_rr, .ref m_ik, .ref m_km, .ref m_kb, .ref m_kc, .ref m_kf, .ref m_kr])), (m_boat, .inl (y 0, 42, .inl (cI MB))), (m_coins, .inl (y 0, 144, .inl (cI MC))), (m_rf, .inl (y 0, 12, .inl (cI MF))), (m_rr, .inl (y 2, 12, .inl (cI MRd))), (m_ik, .inl (y 2, 2, .inl (cI (iu MIk sq 1)))), (m_km, .inl (y 0, 4, .inl (cI (iu (iu MKm (2 * sq) fn) ((2 * sq) + 1) rn)))), (m_kb, .inl (y 0, 84, .inl (cI B1))), (m_kc, .inl (y 0, 288, .inl (cI C1))), (m_kf, .inl (y 0, 24, .inl (cI MKf))), (m_kr, .inl (y 2, 24, .inl (cI MKr)))] H ∧ va_D A [(m0, .inr (11, [.ref m_read, zi rl, zi rp, .ref m_gut, zi gl, zi gp, zi gx, zi gy, .ref m_text, zi tn, zi fn, .ref m_boat, .ref m_coins, zi vw, zi vm, zi vn, .ref m_rest, .ref m_ends, zl vc, .ref m_chan, .ref m_spl, zi fs, zi rn, .ref m_rf, .ref m_rr, .ref m_ik, .ref m_km, .ref m_kb, .ref m_kc, .ref m_kf, .ref m_kr])), (m_boat, .inl (y 0, 42, .inl (cI MB))), (m_coins, .inl (y 0, 144, .inl (cI MC))), (m_rf, .inl (y 0, 12, .inl (cI MF))), (m_rr, .inl (y 2, 12, .inl (cI MRd))), (m_ik, .inl (y 2, 2, .inl (cI (iu MIk sq 1)))), (m_km, .inl (y 0, 4, .inl (cI (iu (iu MKm (2 * sq) fn) ((2 * sq) + 1) rn)))), (m_kb, .inl (y 0, 84, .inl (cI B1))), (m_kc, .inl (y 0, 288, .inl (cI C1))), (m_kf, .inl (y 0, 24, .inl (cI MKf))), (m_kr, .inl (y 2, 24, .inl (cI MKr)))] ∧ va_S A s.heap H lc) (fun x9  => match x9 with | (k, C1) => ((144 - k).toNat)) ?_ (0, MKc) ⟨⟨by omega, fun j => (if_neg (by omega)).symm⟩, lv_sub hl [0, 1, 2] rfl, hP.sub [0, 1, 2, 3, 4, 5, 6, 7, 8, 9, 10] rfl, hD.sub [0, 1, 2, 3, 4, 5, 6, 7, 8, 9, 10] (by decide) rfl, hS⟩
      rintro ⟨k, C1⟩ H lc ls ⟨hi78, hl, hP, hD, hS⟩ ih78
      have hP : va_P D vwCl [(m0, .inr (11, [.ref m_read, zi rl, zi rp, .ref m_gut, zi gl, zi gp, zi gx, zi gy, .ref m_text, zi tn, zi fn, .ref m_boat, .ref m_coins, zi vw, zi vm, zi vn, .ref m_rest, .ref m_ends, zl vc, .ref m_chan, .ref m_spl, zi fs, zi rn, .ref m_rf, .ref m_rr, .ref m_ik, .ref m_km, .ref m_kb, .ref m_kc, .ref m_kf, .ref m_kr])), (m_boat, .inl (y 0, 42, .inl (cI MB))), (m_coins, .inl (y 0, 144, .inl (cI MC))), (m_rf, .inl (y 0, 12, .inl (cI MF))), (m_rr, .inl (y 2, 12, .inl (cI MRd))), (m_ik, .inl (y 2, 2, .inl (cI (iu MIk sq 1)))), (m_km, .inl (y 0, 4, .inl (cI (iu (iu MKm (2 * sq) fn) ((2 * sq) + 1) rn)))), (m_kb, .inl (y 0, 84, .inl (cI B1))), (m_kc, .inl (y 0, 288, .inl (cI C1))), (m_kf, .inl (y 0, 24, .inl (cI MKf))), (m_kr, .inl (y 2, 24, .inl (cI MKr)))] H := hP
      have hD : va_D A [(m0, .inr (11, [.ref m_read, zi rl, zi rp, .ref m_gut, zi gl, zi gp, zi gx, zi gy, .ref m_text, zi tn, zi fn, .ref m_boat, .ref m_coins, zi vw, zi vm, zi vn, .ref m_rest, .ref m_ends, zl vc, .ref m_chan, .ref m_spl, zi fs, zi rn, .ref m_rf, .ref m_rr, .ref m_ik, .ref m_km, .ref m_kb, .ref m_kc, .ref m_kf, .ref m_kr])), (m_boat, .inl (y 0, 42, .inl (cI MB))), (m_coins, .inl (y 0, 144, .inl (cI MC))), (m_rf, .inl (y 0, 12, .inl (cI MF))), (m_rr, .inl (y 2, 12, .inl (cI MRd))), (m_ik, .inl (y 2, 2, .inl (cI (iu MIk sq 1)))), (m_km, .inl (y 0, 4, .inl (cI (iu (iu MKm (2 * sq) fn) ((2 * sq) + 1) rn)))), (m_kb, .inl (y 0, 84, .inl (cI B1))), (m_kc, .inl (y 0, 288, .inl (cI C1))), (m_kf, .inl (y 0, 24, .inl (cI MKf))), (m_kr, .inl (y 2, 24, .inl (cI MKr)))] := hD
      refine lv_iload_n hx hb dX12_keep_78 rfl (lv_at hl 0 rfl) ?_
      refine z_sipush hx hb dX12_keep_79 (by decide) ?_
      refine z_icmp_ge (tgt := 109) hx hb (by omega) (by omega) dX12_keep_82 (by decide) (fun c_82 => ?_) (fun c_82 => ?_)
      ·
        have kc9 : (∀ j : Int, C1 j = if 144 * sq ≤ j ∧ j < 144 * sq + 144 then MC (j - 144 * sq) else MKc j) := (by rw [show k = 144 by omega] at hi78; exact hi78.2)
        refine z_iconst hx hb dX12_keep_109 ?_
        refine lv_istore_n (lv' := [(2, zi 0), (0, .ref m0), (1, zi sq)]) hx hb dX12_keep_110 rfl hl (by decide) rfl (fun ls hl => ?_)
        refine z_loop (σ := Int × (Int → Int) × (Int → Int)) (fun x9 H lc ls => match x9 with | (k, F1, G1) => ((0 ≤ k ∧ k ≤ 12) ∧ (∀ j : Int, F1 j = if 12 * sq ≤ j ∧ j < 12 * sq + k then MF (j - 12 * sq) else MKf j) ∧ (∀ j : Int, G1 j = if 12 * sq ≤ j ∧ j < 12 * sq + k then MRd (j - 12 * sq) else MKr j)) ∧ lv_has ls 3 [(2, zi k), (0, .ref m0), (1, zi sq)] ∧ va_P D vwCl [(m0, .inr (11, [.ref m_read, zi rl, zi rp, .ref m_gut, zi gl, zi gp, zi gx, zi gy, .ref m_text, zi tn, zi fn, .ref m_boat, .ref m_coins, zi vw, zi vm, zi vn, .ref m_rest, .ref m_ends, zl vc, .ref m_chan, .ref m_spl, zi fs, zi rn, .ref m_rf, .ref m_rr, .ref m_ik, .ref m_km, .ref m_kb, .ref m_kc, .ref m_kf, .ref m_kr])), (m_boat, .inl (y 0, 42, .inl (cI MB))), (m_coins, .inl (y 0, 144, .inl (cI MC))), (m_rf, .inl (y 0, 12, .inl (cI MF))), (m_rr, .inl (y 2, 12, .inl (cI MRd))), (m_ik, .inl (y 2, 2, .inl (cI (iu MIk sq 1)))), (m_km, .inl (y 0, 4, .inl (cI (iu (iu MKm (2 * sq) fn) ((2 * sq) + 1) rn)))), (m_kb, .inl (y 0, 84, .inl (cI B1))), (m_kc, .inl (y 0, 288, .inl (cI C1))), (m_kf, .inl (y 0, 24, .inl (cI F1))), (m_kr, .inl (y 2, 24, .inl (cI G1)))] H ∧ va_D A [(m0, .inr (11, [.ref m_read, zi rl, zi rp, .ref m_gut, zi gl, zi gp, zi gx, zi gy, .ref m_text, zi tn, zi fn, .ref m_boat, .ref m_coins, zi vw, zi vm, zi vn, .ref m_rest, .ref m_ends, zl vc, .ref m_chan, .ref m_spl, zi fs, zi rn, .ref m_rf, .ref m_rr, .ref m_ik, .ref m_km, .ref m_kb, .ref m_kc, .ref m_kf, .ref m_kr])), (m_boat, .inl (y 0, 42, .inl (cI MB))), (m_coins, .inl (y 0, 144, .inl (cI MC))), (m_rf, .inl (y 0, 12, .inl (cI MF))), (m_rr, .inl (y 2, 12, .inl (cI MRd))), (m_ik, .inl (y 2, 2, .inl (cI (iu MIk sq 1)))), (m_km, .inl (y 0, 4, .inl (cI (iu (iu MKm (2 * sq) fn) ((2 * sq) + 1) rn)))), (m_kb, .inl (y 0, 84, .inl (cI B1))), (m_kc, .inl (y 0, 288, .inl (cI C1))), (m_kf, .inl (y 0, 24, .inl (cI F1))), (m_kr, .inl (y 2, 24, .inl (cI G1)))] ∧ va_S A s.heap H lc) (fun x9  => match x9 with | (k, F1, G1) => ((12 - k).toNat)) ?_ (0, MKf, MKr) ⟨⟨by omega, fun j => (if_neg (by omega)).symm, fun j => (if_neg (by omega)).symm⟩, lv_sub hl [0, 1, 2] rfl, hP.sub [0, 1, 2, 3, 4, 5, 6, 7, 8, 9, 10] rfl, hD.sub [0, 1, 2, 3, 4, 5, 6, 7, 8, 9, 10] (by decide) rfl, hS⟩
        rintro ⟨k, F1, G1⟩ H lc ls ⟨hi111, hl, hP, hD, hS⟩ ih111
        have hP : va_P D vwCl [(m0, .inr (11, [.ref m_read, zi rl, zi rp, .ref m_gut, zi gl, zi gp, zi gx, zi gy, .ref m_text, zi tn, zi fn, .ref m_boat, .ref m_coins, zi vw, zi vm, zi vn, .ref m_rest, .ref m_ends, zl vc, .ref m_chan, .ref m_spl, zi fs, zi rn, .ref m_rf, .ref m_rr, .ref m_ik, .ref m_km, .ref m_kb, .ref m_kc, .ref m_kf, .ref m_kr])), (m_boat, .inl (y 0, 42, .inl (cI MB))), (m_coins, .inl (y 0, 144, .inl (cI MC))), (m_rf, .inl (y 0, 12, .inl (cI MF))), (m_rr, .inl (y 2, 12, .inl (cI MRd))), (m_ik, .inl (y 2, 2, .inl (cI (iu MIk sq 1)))), (m_km, .inl (y 0, 4, .inl (cI (iu (iu MKm (2 * sq) fn) ((2 * sq) + 1) rn)))), (m_kb, .inl (y 0, 84, .inl (cI B1))), (m_kc, .inl (y 0, 288, .inl (cI C1))), (m_kf, .inl (y 0, 24, .inl (cI F1))), (m_kr, .inl (y 2, 24, .inl (cI G1)))] H := hP
        have hD : va_D A [(m0, .inr (11, [.ref m_read, zi rl, zi rp, .ref m_gut, zi gl, zi gp, zi gx, zi gy, .ref m_text, zi tn, zi fn, .ref m_boat, .ref m_coins, zi vw, zi vm, zi vn, .ref m_rest, .ref m_ends, zl vc, .ref m_chan, .ref m_spl, zi fs, zi rn, .ref m_rf, .ref m_rr, .ref m_ik, .ref m_km, .ref m_kb, .ref m_kc, .ref m_kf, .ref m_kr])), (m_boat, .inl (y 0, 42, .inl (cI MB))), (m_coins, .inl (y 0, 144, .inl (cI MC))), (m_rf, .inl (y 0, 12, .inl (cI MF))), (m_rr, .inl (y 2, 12, .inl (cI MRd))), (m_ik, .inl (y 2, 2, .inl (cI (iu MIk sq 1)))), (m_km, .inl (y 0, 4, .inl (cI (iu (iu MKm (2 * sq) fn) ((2 * sq) + 1) rn)))), (m_kb, .inl (y 0, 84, .inl (cI B1))), (m_kc, .inl (y 0, 288, .inl (cI C1))), (m_kf, .inl (y 0, 24, .inl (cI F1))), (m_kr, .inl (y 2, 24, .inl (cI G1)))] := hD
        refine lv_iload_n hx hb dX12_keep_111 rfl (lv_at hl 0 rfl) ?_
        refine z_bipush hx hb dX12_keep_112 (by decide) ?_
        refine z_icmp_ge (tgt := 157) hx hb (by omega) (by omega) dX12_keep_114 (by decide) (fun c_114 => ?_) (fun c_114 => ?_)
        ·
          refine lv_aload_n hx hb dX12_keep_157 rfl (lv_at hl 1 rfl) ?_
          refine va_get hx hb hts hinX12 hown hK hP 0 rfl rfl 10 (by decide) k3 (fun _ h => h) rfl dX12_keep_158 ?_
          exact z_iretW hx hb hr hlocks (iu MIk sq 1, iu (iu MKm (2 * sq) fn) ((2 * sq) + 1) rn, B1, C1, F1, G1) (rfl) (by rw [show k = 12 by omega] at hi111; exact ⟨rfl, rfl, kb9, kc9, hi111.2.1, hi111.2.2⟩) (hP.sub [0, 1, 2, 3, 4, 5, 6, 7, 8, 9, 10] rfl) (hD.sub [0, 1, 2, 3, 4, 5, 6, 7, 8, 9, 10] (by decide) rfl) hS dX12_keep_161
        ·
          refine lv_aload_n hx hb dX12_keep_117 rfl (lv_at hl 1 rfl) ?_
          refine va_get hx hb hts hinX12 hown hK hP 0 rfl rfl 29 (by decide) k9 (fun _ h => h) rfl dX12_keep_118 ?_
          refine z_bipush hx hb dX12_keep_121 (by decide) ?_
          refine lv_iload_n hx hb dX12_keep_123 rfl (lv_at hl 2 rfl) ?_
          refine z_imul hx hb dX12_keep_124 ?_
          refine lv_iload_n hx hb dX12_keep_125 rfl (lv_at hl 0 rfl) ?_
          refine z_iadd hx hb dX12_keep_126 ?_
          refine lv_aload_n hx hb dX12_keep_127 rfl (lv_at hl 1 rfl) ?_
          refine va_get hx hb hts hinX12 hown hK hP 0 rfl rfl 23 (by decide) k10 (fun _ h => h) rfl dX12_keep_128 ?_
          refine lv_iload_n hx hb dX12_keep_131 rfl (lv_at hl 0 rfl) ?_
          refine z_iald hx hb hK hP 3 0 rfl rfl (by omega) (by decide) dX12_keep_132 ?_
          refine z_iast hx hb hK hP hD hS 9 0 rfl rfl (by omega) (by decide) dX12_keep_133 (fun H locs hP hD hS => ?_)
          have hP : va_P D vwCl [(m0, .inr (11, [.ref m_read, zi rl, zi rp, .ref m_gut, zi gl, zi gp, zi gx, zi gy, .ref m_text, zi tn, zi fn, .ref m_boat, .ref m_coins, zi vw, zi vm, zi vn, .ref m_rest, .ref m_ends, zl vc, .ref m_chan, .ref m_spl, zi fs, zi rn, .ref m_rf, .ref m_rr, .ref m_ik, .ref m_km, .ref m_kb, .ref m_kc, .ref m_kf, .ref m_kr])), (m_boat, .inl (y 0, 42, .inl (cI MB))), (m_coins, .inl (y 0, 144, .inl (cI MC))), (m_rf, .inl (y 0, 12, .inl (cI MF))), (m_rr, .inl (y 2, 12, .inl (cI MRd))), (m_ik, .inl (y 2, 2, .inl (cI (iu MIk sq 1)))), (m_km, .inl (y 0, 4, .inl (cI (iu (iu MKm (2 * sq) fn) ((2 * sq) + 1) rn)))), (m_kb, .inl (y 0, 84, .inl (cI B1))), (m_kc, .inl (y 0, 288, .inl (cI C1))), (m_kf, .inl (y 0, 24, .inl (cI (iu F1 ((12 * sq) + k) (MF k))))), (m_kr, .inl (y 2, 24, .inl (cI G1)))] H := hP
          have hD : va_D A [(m0, .inr (11, [.ref m_read, zi rl, zi rp, .ref m_gut, zi gl, zi gp, zi gx, zi gy, .ref m_text, zi tn, zi fn, .ref m_boat, .ref m_coins, zi vw, zi vm, zi vn, .ref m_rest, .ref m_ends, zl vc, .ref m_chan, .ref m_spl, zi fs, zi rn, .ref m_rf, .ref m_rr, .ref m_ik, .ref m_km, .ref m_kb, .ref m_kc, .ref m_kf, .ref m_kr])), (m_boat, .inl (y 0, 42, .inl (cI MB))), (m_coins, .inl (y 0, 144, .inl (cI MC))), (m_rf, .inl (y 0, 12, .inl (cI MF))), (m_rr, .inl (y 2, 12, .inl (cI MRd))), (m_ik, .inl (y 2, 2, .inl (cI (iu MIk sq 1)))), (m_km, .inl (y 0, 4, .inl (cI (iu (iu MKm (2 * sq) fn) ((2 * sq) + 1) rn)))), (m_kb, .inl (y 0, 84, .inl (cI B1))), (m_kc, .inl (y 0, 288, .inl (cI C1))), (m_kf, .inl (y 0, 24, .inl (cI (iu F1 ((12 * sq) + k) (MF k))))), (m_kr, .inl (y 2, 24, .inl (cI G1)))] := hD
          have z01 := h01 k (by omega) (by omega)
          refine lv_aload_n hx hb dX12_keep_134 rfl (lv_at hl 1 rfl) ?_
          refine va_get hx hb hts hinX12 hown hK hP 0 rfl rfl 30 (by decide) k11 (fun _ h => h) rfl dX12_keep_135 ?_
          refine z_bipush hx hb dX12_keep_138 (by decide) ?_
          refine lv_iload_n hx hb dX12_keep_140 rfl (lv_at hl 2 rfl) ?_
          refine z_imul hx hb dX12_keep_141 ?_
          refine lv_iload_n hx hb dX12_keep_142 rfl (lv_at hl 0 rfl) ?_
          refine z_iadd hx hb dX12_keep_143 ?_
          refine lv_aload_n hx hb dX12_keep_144 rfl (lv_at hl 1 rfl) ?_
          refine va_get hx hb hts hinX12 hown hK hP 0 rfl rfl 24 (by decide) k12 (fun _ h => h) rfl dX12_keep_145 ?_
          refine lv_iload_n hx hb dX12_keep_148 rfl (lv_at hl 0 rfl) ?_
          refine z_zald hx hb hK hP 4 2 rfl rfl (by omega) (by decide) dX12_keep_149 ?_
          refine z_zast hx hb hK hP hD hS 10 2 rfl rfl (by omega) (by decide) (by omega) dX12_keep_150 (fun H locs hP hD hS => ?_)
          have hP : va_P D vwCl [(m0, .inr (11, [.ref m_read, zi rl, zi rp, .ref m_gut, zi gl, zi gp, zi gx, zi gy, .ref m_text, zi tn, zi fn, .ref m_boat, .ref m_coins, zi vw, zi vm, zi vn, .ref m_rest, .ref m_ends, zl vc, .ref m_chan, .ref m_spl, zi fs, zi rn, .ref m_rf, .ref m_rr, .ref m_ik, .ref m_km, .ref m_kb, .ref m_kc, .ref m_kf, .ref m_kr])), (m_boat, .inl (y 0, 42, .inl (cI MB))), (m_coins, .inl (y 0, 144, .inl (cI MC))), (m_rf, .inl (y 0, 12, .inl (cI MF))), (m_rr, .inl (y 2, 12, .inl (cI MRd))), (m_ik, .inl (y 2, 2, .inl (cI (iu MIk sq 1)))), (m_km, .inl (y 0, 4, .inl (cI (iu (iu MKm (2 * sq) fn) ((2 * sq) + 1) rn)))), (m_kb, .inl (y 0, 84, .inl (cI B1))), (m_kc, .inl (y 0, 288, .inl (cI C1))), (m_kf, .inl (y 0, 24, .inl (cI (iu F1 ((12 * sq) + k) (MF k))))), (m_kr, .inl (y 2, 24, .inl (cI (iu G1 ((12 * sq) + k) (MRd k)))))] H := hP
          have hD : va_D A [(m0, .inr (11, [.ref m_read, zi rl, zi rp, .ref m_gut, zi gl, zi gp, zi gx, zi gy, .ref m_text, zi tn, zi fn, .ref m_boat, .ref m_coins, zi vw, zi vm, zi vn, .ref m_rest, .ref m_ends, zl vc, .ref m_chan, .ref m_spl, zi fs, zi rn, .ref m_rf, .ref m_rr, .ref m_ik, .ref m_km, .ref m_kb, .ref m_kc, .ref m_kf, .ref m_kr])), (m_boat, .inl (y 0, 42, .inl (cI MB))), (m_coins, .inl (y 0, 144, .inl (cI MC))), (m_rf, .inl (y 0, 12, .inl (cI MF))), (m_rr, .inl (y 2, 12, .inl (cI MRd))), (m_ik, .inl (y 2, 2, .inl (cI (iu MIk sq 1)))), (m_km, .inl (y 0, 4, .inl (cI (iu (iu MKm (2 * sq) fn) ((2 * sq) + 1) rn)))), (m_kb, .inl (y 0, 84, .inl (cI B1))), (m_kc, .inl (y 0, 288, .inl (cI C1))), (m_kf, .inl (y 0, 24, .inl (cI (iu F1 ((12 * sq) + k) (MF k))))), (m_kr, .inl (y 2, 24, .inl (cI (iu G1 ((12 * sq) + k) (MRd k)))))] := hD
          refine z_iinc (k := 0) (lv' := [(2, zi (k + 1)), (0, .ref m0), (1, zi sq)]) hx hb dX12_keep_151 hl rfl (by decide) rfl (fun ls hl => ?_)
          refine lv_goto (tgt := 111) hx hb dX12_keep_154 (by decide) ?_
          exact ih111 (k + 1, iu F1 ((12 * sq) + k) (MF k), iu G1 ((12 * sq) + k) (MRd k)) _ _ _ (by first | (dsimp only; omega) | omega) ⟨⟨by omega, kp_s hi111.2.1 hi111.1.1, kp_s hi111.2.2 hi111.1.1⟩, lv_sub hl [0, 1, 2] rfl, hP.sub [0, 1, 2, 3, 4, 5, 6, 7, 8, 9, 10] rfl, hD.sub [0, 1, 2, 3, 4, 5, 6, 7, 8, 9, 10] (by decide) rfl, hS⟩
      ·
        refine lv_aload_n hx hb dX12_keep_85 rfl (lv_at hl 1 rfl) ?_
        refine va_get hx hb hts hinX12 hown hK hP 0 rfl rfl 28 (by decide) k7 (fun _ h => h) rfl dX12_keep_86 ?_
        refine z_sipush hx hb dX12_keep_89 (by decide) ?_
        refine lv_iload_n hx hb dX12_keep_92 rfl (lv_at hl 2 rfl) ?_
        refine z_imul hx hb dX12_keep_93 ?_
        refine lv_iload_n hx hb dX12_keep_94 rfl (lv_at hl 0 rfl) ?_
        refine z_iadd hx hb dX12_keep_95 ?_
        refine lv_aload_n hx hb dX12_keep_96 rfl (lv_at hl 1 rfl) ?_
        refine va_get hx hb hts hinX12 hown hK hP 0 rfl rfl 12 (by decide) k8 (fun _ h => h) rfl dX12_keep_97 ?_
        refine lv_iload_n hx hb dX12_keep_100 rfl (lv_at hl 0 rfl) ?_
        refine z_iald hx hb hK hP 2 0 rfl rfl (by omega) (by decide) dX12_keep_101 ?_
        refine z_iast hx hb hK hP hD hS 8 0 rfl rfl (by omega) (by decide) dX12_keep_102 (fun H locs hP hD hS => ?_)
        have hP : va_P D vwCl [(m0, .inr (11, [.ref m_read, zi rl, zi rp, .ref m_gut, zi gl, zi gp, zi gx, zi gy, .ref m_text, zi tn, zi fn, .ref m_boat, .ref m_coins, zi vw, zi vm, zi vn, .ref m_rest, .ref m_ends, zl vc, .ref m_chan, .ref m_spl, zi fs, zi rn, .ref m_rf, .ref m_rr, .ref m_ik, .ref m_km, .ref m_kb, .ref m_kc, .ref m_kf, .ref m_kr])), (m_boat, .inl (y 0, 42, .inl (cI MB))), (m_coins, .inl (y 0, 144, .inl (cI MC))), (m_rf, .inl (y 0, 12, .inl (cI MF))), (m_rr, .inl (y 2, 12, .inl (cI MRd))), (m_ik, .inl (y 2, 2, .inl (cI (iu MIk sq 1)))), (m_km, .inl (y 0, 4, .inl (cI (iu (iu MKm (2 * sq) fn) ((2 * sq) + 1) rn)))), (m_kb, .inl (y 0, 84, .inl (cI B1))), (m_kc, .inl (y 0, 288, .inl (cI (iu C1 ((144 * sq) + k) (MC k))))), (m_kf, .inl (y 0, 24, .inl (cI MKf))), (m_kr, .inl (y 2, 24, .inl (cI MKr)))] H := hP
        have hD : va_D A [(m0, .inr (11, [.ref m_read, zi rl, zi rp, .ref m_gut, zi gl, zi gp, zi gx, zi gy, .ref m_text, zi tn, zi fn, .ref m_boat, .ref m_coins, zi vw, zi vm, zi vn, .ref m_rest, .ref m_ends, zl vc, .ref m_chan, .ref m_spl, zi fs, zi rn, .ref m_rf, .ref m_rr, .ref m_ik, .ref m_km, .ref m_kb, .ref m_kc, .ref m_kf, .ref m_kr])), (m_boat, .inl (y 0, 42, .inl (cI MB))), (m_coins, .inl (y 0, 144, .inl (cI MC))), (m_rf, .inl (y 0, 12, .inl (cI MF))), (m_rr, .inl (y 2, 12, .inl (cI MRd))), (m_ik, .inl (y 2, 2, .inl (cI (iu MIk sq 1)))), (m_km, .inl (y 0, 4, .inl (cI (iu (iu MKm (2 * sq) fn) ((2 * sq) + 1) rn)))), (m_kb, .inl (y 0, 84, .inl (cI B1))), (m_kc, .inl (y 0, 288, .inl (cI (iu C1 ((144 * sq) + k) (MC k))))), (m_kf, .inl (y 0, 24, .inl (cI MKf))), (m_kr, .inl (y 2, 24, .inl (cI MKr)))] := hD
        refine z_iinc (k := 0) (lv' := [(2, zi (k + 1)), (0, .ref m0), (1, zi sq)]) hx hb dX12_keep_103 hl rfl (by decide) rfl (fun ls hl => ?_)
        refine lv_goto (tgt := 78) hx hb dX12_keep_106 (by decide) ?_
        exact ih78 (k + 1, iu C1 ((144 * sq) + k) (MC k)) _ _ _ (by first | (dsimp only; omega) | omega) ⟨⟨by omega, kp_s hi78.2 hi78.1.1⟩, lv_sub hl [0, 1, 2] rfl, hP.sub [0, 1, 2, 3, 4, 5, 6, 7, 8, 9, 10] rfl, hD.sub [0, 1, 2, 3, 4, 5, 6, 7, 8, 9, 10] (by decide) rfl, hS⟩
    ·
      refine lv_aload_n hx hb dX12_keep_53 rfl (lv_at hl 1 rfl) ?_
      refine va_get hx hb hts hinX12 hown hK hP 0 rfl rfl 27 (by decide) k5 (fun _ h => h) rfl dX12_keep_54 ?_
      refine z_bipush hx hb dX12_keep_57 (by decide) ?_
      refine lv_iload_n hx hb dX12_keep_59 rfl (lv_at hl 2 rfl) ?_
      refine z_imul hx hb dX12_keep_60 ?_
      refine lv_iload_n hx hb dX12_keep_61 rfl (lv_at hl 0 rfl) ?_
      refine z_iadd hx hb dX12_keep_62 ?_
      refine lv_aload_n hx hb dX12_keep_63 rfl (lv_at hl 1 rfl) ?_
      refine va_get hx hb hts hinX12 hown hK hP 0 rfl rfl 11 (by decide) k6 (fun _ h => h) rfl dX12_keep_64 ?_
      refine lv_iload_n hx hb dX12_keep_67 rfl (lv_at hl 0 rfl) ?_
      refine z_iald hx hb hK hP 1 0 rfl rfl (by omega) (by decide) dX12_keep_68 ?_
      refine z_iast hx hb hK hP hD hS 7 0 rfl rfl (by omega) (by decide) dX12_keep_69 (fun H locs hP hD hS => ?_)
      have hP : va_P D vwCl [(m0, .inr (11, [.ref m_read, zi rl, zi rp, .ref m_gut, zi gl, zi gp, zi gx, zi gy, .ref m_text, zi tn, zi fn, .ref m_boat, .ref m_coins, zi vw, zi vm, zi vn, .ref m_rest, .ref m_ends, zl vc, .ref m_chan, .ref m_spl, zi fs, zi rn, .ref m_rf, .ref m_rr, .ref m_ik, .ref m_km, .ref m_kb, .ref m_kc, .ref m_kf, .ref m_kr])), (m_boat, .inl (y 0, 42, .inl (cI MB))), (m_coins, .inl (y 0, 144, .inl (cI MC))), (m_rf, .inl (y 0, 12, .inl (cI MF))), (m_rr, .inl (y 2, 12, .inl (cI MRd))), (m_ik, .inl (y 2, 2, .inl (cI (iu MIk sq 1)))), (m_km, .inl (y 0, 4, .inl (cI (iu (iu MKm (2 * sq) fn) ((2 * sq) + 1) rn)))), (m_kb, .inl (y 0, 84, .inl (cI (iu B1 ((42 * sq) + k) (MB k))))), (m_kc, .inl (y 0, 288, .inl (cI MKc))), (m_kf, .inl (y 0, 24, .inl (cI MKf))), (m_kr, .inl (y 2, 24, .inl (cI MKr)))] H := hP
      have hD : va_D A [(m0, .inr (11, [.ref m_read, zi rl, zi rp, .ref m_gut, zi gl, zi gp, zi gx, zi gy, .ref m_text, zi tn, zi fn, .ref m_boat, .ref m_coins, zi vw, zi vm, zi vn, .ref m_rest, .ref m_ends, zl vc, .ref m_chan, .ref m_spl, zi fs, zi rn, .ref m_rf, .ref m_rr, .ref m_ik, .ref m_km, .ref m_kb, .ref m_kc, .ref m_kf, .ref m_kr])), (m_boat, .inl (y 0, 42, .inl (cI MB))), (m_coins, .inl (y 0, 144, .inl (cI MC))), (m_rf, .inl (y 0, 12, .inl (cI MF))), (m_rr, .inl (y 2, 12, .inl (cI MRd))), (m_ik, .inl (y 2, 2, .inl (cI (iu MIk sq 1)))), (m_km, .inl (y 0, 4, .inl (cI (iu (iu MKm (2 * sq) fn) ((2 * sq) + 1) rn)))), (m_kb, .inl (y 0, 84, .inl (cI (iu B1 ((42 * sq) + k) (MB k))))), (m_kc, .inl (y 0, 288, .inl (cI MKc))), (m_kf, .inl (y 0, 24, .inl (cI MKf))), (m_kr, .inl (y 2, 24, .inl (cI MKr)))] := hD
      refine z_iinc (k := 0) (lv' := [(2, zi (k + 1)), (0, .ref m0), (1, zi sq)]) hx hb dX12_keep_70 hl rfl (by decide) rfl (fun ls hl => ?_)
      refine lv_goto (tgt := 47) hx hb dX12_keep_73 (by decide) ?_
      exact ih47 (k + 1, iu B1 ((42 * sq) + k) (MB k)) _ _ _ (by first | (dsimp only; omega) | omega) ⟨⟨by omega, kp_s hi47.2 hi47.1.1⟩, lv_sub hl [0, 1, 2] rfl, hP.sub [0, 1, 2, 3, 4, 5, 6, 7, 8, 9, 10] rfl, hD.sub [0, 1, 2, 3, 4, 5, 6, 7, 8, 9, 10] (by decide) rfl, hS⟩
  · exfalso; omega
set_option maxHeartbeats 8000000 in
set_option maxRecDepth 100000 in
theorem c_X12_again_no (l : Launch) (D : va_G) (y : Nat → ClassId) (m0 : Nat) (m_read : Nat) (rl : Int) (rp : Int) (m_gut : Nat) (gl : Int) (gp : Int) (gx : Int) (gy : Int) (m_text : Nat) (tn : Int) (fn : Int) (m_boat : Nat) (m_coins : Nat) (vw : Int) (vm : Int) (vn : Int) (m_rest : Nat) (m_ends : Nat) (vc : Int) (m_chan : Nat) (m_spl : Nat) (fs : Int) (rn : Int) (m_rf : Nat) (m_rr : Nat) (m_ik : Nat) (m_km : Nat) (m_kb : Nat) (m_kc : Nat) (m_kf : Nat) (m_kr : Nat) (sq : Int) (hr9 : rI sq) (hq : ¬ (0 ≤ sq ∧ sq ≤ 1)) : Met l yX12_again wsX12_again ({ frames := 1, cells := 0, slots := 0, locals := 25 } : Room) (pPc D y [(m0, .inr (11, [.ref m_read, zi rl, zi rp, .ref m_gut, zi gl, zi gp, zi gx, zi gy, .ref m_text, zi tn, zi fn, .ref m_boat, .ref m_coins, zi vw, zi vm, zi vn, .ref m_rest, .ref m_ends, zl vc, .ref m_chan, .ref m_spl, zi fs, zi rn, .ref m_rf, .ref m_rr, .ref m_ik, .ref m_km, .ref m_kb, .ref m_kc, .ref m_kf, .ref m_kr]))] [.ref m0, zi sq]) (qV (zi (-1))) 0 0 (fun _ => False) := by
  refine P_of (own := RX12) (cc := cX12_again) (maxL := 3) (ret := some .int) (by decide) rfl rfl (Nat.le_of_ble_eq_true rfl) (fun p e s m below meth c ls hx hb hr hC hlocks hPr hG hl => ?_)
  have hC0 := hC
  obtain ⟨-, -, hml, hown, hts⟩ := hC0
  have hK := hG.1
  have hl : lv_has ls 3 [(0, .ref m0), (1, zi sq)] := hl
  refine lv_iload_n hx hb dX12_again_0 rfl (lv_at hl 1 rfl) ?_
  refine z_i2l hx hb (by omega) dX12_again_1 ?_
  refine lv_lconst (v := iL 0) hx hb dX12_again_2 rfl ?_
  refine lv_lconst (v := iL 1) hx hb dX12_again_3 rfl ?_
  refine z_pS (As := [zl sq, zl 0, zl 1]) (rest := []) hC (c_X12_in l D y sq 0 1 (by first | assumption | omega)) (va_cwS 3 hts gX12_again_X12_in rfl rfl rfl (by decide +kernel) ⟨Nat.le_of_ble_eq_true rfl, Nat.le_of_ble_eq_true rfl⟩) hG va_P_nil rfl hl.1 rfl (Nat.le_of_ble_eq_true rfl) dX12_again_4 ⟨Nat.le_of_ble_eq_true rfl, Nat.le_of_ble_eq_true rfl⟩ ?_
  refine z_ifB_ne (tgt := 12) hx hb dX12_again_7 (by decide) (fun c_7 => ?_) (fun c_7 => ?_)
  · exfalso; omega
  ·
    refine z_iconst hx hb dX12_again_10 ?_
    exact z_iret0 hx hb hr hlocks (rfl) dX12_again_11
set_option maxHeartbeats 8000000 in
set_option maxRecDepth 100000 in
theorem c_X12_again_not (l : Launch) (D : va_G) (y : Nat → ClassId) (m0 : Nat) (m_read : Nat) (rl : Int) (rp : Int) (m_gut : Nat) (gl : Int) (gp : Int) (gx : Int) (gy : Int) (m_text : Nat) (tn : Int) (fn : Int) (m_boat : Nat) (m_coins : Nat) (vw : Int) (vm : Int) (vn : Int) (m_rest : Nat) (m_ends : Nat) (vc : Int) (m_chan : Nat) (m_spl : Nat) (fs : Int) (rn : Int) (m_rf : Nat) (m_rr : Nat) (m_ik : Nat) (m_km : Nat) (m_kb : Nat) (m_kc : Nat) (m_kf : Nat) (m_kr : Nat) (MIk : Int → Int) (sq : Int) (hq : 0 ≤ sq ∧ sq ≤ 1) (hk : MIk sq = 0) : Met l yX12_again wsX12_again ({ frames := 1, cells := 0, slots := 0, locals := 25 } : Room) (pPc D y [(m0, .inr (11, [.ref m_read, zi rl, zi rp, .ref m_gut, zi gl, zi gp, zi gx, zi gy, .ref m_text, zi tn, zi fn, .ref m_boat, .ref m_coins, zi vw, zi vm, zi vn, .ref m_rest, .ref m_ends, zl vc, .ref m_chan, .ref m_spl, zi fs, zi rn, .ref m_rf, .ref m_rr, .ref m_ik, .ref m_km, .ref m_kb, .ref m_kc, .ref m_kf, .ref m_kr])), (m_ik, .inl (y 2, 2, .inl (cI MIk)))] [.ref m0, zi sq]) (qV (zi (-3))) 0 0 (fun _ => False) := by
  refine P_of (own := RX12) (cc := cX12_again) (maxL := 3) (ret := some .int) (by decide) rfl rfl (Nat.le_of_ble_eq_true rfl) (fun p e s m below meth c ls hx hb hr hC hlocks hPr hG hl => ?_)
  have hC0 := hC
  obtain ⟨-, -, hml, hown, hts⟩ := hC0
  have hK := hG.1
  have hinX12 : ∀ w ∈ wsX120, w ∈ wsX12_again := fun _ h => List.mem_cons_of_mem _ (List.mem_append_right _ h)
  have k1 := hts (.fieldLink RX12 45 "BoatsOfPaperModel" "isKept" "[Z") (List.mem_of_getElem? (i := 1) rfl)
  have hl : lv_has ls 3 [(0, .ref m0), (1, zi sq)] := hl
  refine lv_iload_n hx hb dX12_again_0 rfl (lv_at hl 1 rfl) ?_
  refine z_i2l hx hb (by omega) dX12_again_1 ?_
  refine lv_lconst (v := iL 0) hx hb dX12_again_2 rfl ?_
  refine lv_lconst (v := iL 1) hx hb dX12_again_3 rfl ?_
  refine z_pS (As := [zl sq, zl 0, zl 1]) (rest := []) hC (c_X12_in l D y sq 0 1 (by first | assumption | omega)) (va_cwS 3 hts gX12_again_X12_in rfl rfl rfl (by decide +kernel) ⟨Nat.le_of_ble_eq_true rfl, Nat.le_of_ble_eq_true rfl⟩) hG va_P_nil rfl hl.1 rfl (Nat.le_of_ble_eq_true rfl) dX12_again_4 ⟨Nat.le_of_ble_eq_true rfl, Nat.le_of_ble_eq_true rfl⟩ ?_
  refine z_ifB_ne (tgt := 12) hx hb dX12_again_7 (by decide) (fun c_7 => ?_) (fun c_7 => ?_)
  ·
    refine lv_aload_n hx hb dX12_again_12 rfl (lv_at hl 0 rfl) ?_
    refine va_get hx hb hts hinX12 hown hK hPr 0 rfl rfl 25 (by decide) k1 (fun _ h => h) rfl dX12_again_13 ?_
    refine lv_iload_n hx hb dX12_again_16 rfl (lv_at hl 1 rfl) ?_
    refine z_zald hx hb hK hPr 1 2 rfl rfl (by omega) (by decide) dX12_again_17 ?_
    refine z_if_ne (tgt := 24) hx hb (by omega) dX12_again_18 (by decide) (fun c_18 => ?_) (fun c_18 => ?_)
    · exfalso; omega
    ·
      refine z_bipush hx hb dX12_again_21 (by decide) ?_
      exact z_iret0 hx hb hr hlocks (rfl) dX12_again_23
  · exfalso; omega
set_option maxHeartbeats 8000000 in
set_option maxRecDepth 100000 in
theorem c_X12_again (l : Launch) (D : va_G) (y : Nat → ClassId) (m0 : Nat) (m_read : Nat) (rl : Int) (rp : Int) (m_gut : Nat) (gl : Int) (gp : Int) (gx : Int) (gy : Int) (m_text : Nat) (tn : Int) (fn : Int) (m_boat : Nat) (m_coins : Nat) (vw : Int) (vm : Int) (vn : Int) (m_rest : Nat) (m_ends : Nat) (vc : Int) (m_chan : Nat) (m_spl : Nat) (fs : Int) (rn : Int) (m_rf : Nat) (m_rr : Nat) (m_ik : Nat) (m_km : Nat) (m_kb : Nat) (m_kc : Nat) (m_kf : Nat) (m_kr : Nat) (MB : Int → Int) (MC : Int → Int) (MF : Int → Int) (MRd : Int → Int) (MIk : Int → Int) (MKm : Int → Int) (MKb : Int → Int) (MKc : Int → Int) (MKf : Int → Int) (MKr : Int → Int) (sq : Int) (hq : 0 ≤ sq ∧ sq ≤ 1) (hk : MIk sq = 1) (h01 : ∀ j : Int, 0 ≤ j → j < 24 → MKr j = 0 ∨ MKr j = 1) (sz : Nat) : Met l yX12_again wsX12_again ({ frames := 1, cells := 0, slots := 0, locals := 25 } : Room) (wPc D y [] [(m0, .inr (11, [.ref m_read, zi rl, zi rp, .ref m_gut, zi gl, zi gp, zi gx, zi gy, .ref m_text, zi tn, zi fn, .ref m_boat, .ref m_coins, zi vw, zi vm, zi vn, .ref m_rest, .ref m_ends, zl vc, .ref m_chan, .ref m_spl, zi fs, zi rn, .ref m_rf, .ref m_rr, .ref m_ik, .ref m_km, .ref m_kb, .ref m_kc, .ref m_kf, .ref m_kr])), (m_boat, .inl (y 0, 42, .inl (cI MB))), (m_coins, .inl (y 0, 144, .inl (cI MC))), (m_rf, .inl (y 0, 12, .inl (cI MF))), (m_rr, .inl (y 2, 12, .inl (cI MRd))), (m_ik, .inl (y 2, 2, .inl (cI MIk))), (m_km, .inl (y 0, 4, .inl (cI MKm))), (m_kb, .inl (y 0, 84, .inl (cI MKb))), (m_kc, .inl (y 0, 288, .inl (cI MKc))), (m_kf, .inl (y 0, 24, .inl (cI MKf))), (m_kr, .inl (y 2, 24, .inl (cI MKr)))] sz [.ref m0, zi sq]) (wQ D (fun (x9 : (Int → Int) × (Int → Int) × (Int → Int) × (Int → Int) × Int × Int) => match x9 with | (MB2, MC2, MF2, MRd2, fn2, rn2) => some (zi (MKm (2 * sq)))) (fun (x9 : (Int → Int) × (Int → Int) × (Int → Int) × (Int → Int) × Int × Int) => match x9 with | (MB2, MC2, MF2, MRd2, fn2, rn2) => fn2 = MKm (2 * sq) ∧ rn2 = MKm (2 * sq + 1) ∧ (∀ j : Int, 0 ≤ j → j < 42 → MB2 j = MKb (42 * sq + j)) ∧ (∀ j : Int, 0 ≤ j → j < 144 → MC2 j = MKc (144 * sq + j)) ∧ (∀ j : Int, 0 ≤ j → j < 12 → MF2 j = MKf (12 * sq + j)) ∧ (∀ j : Int, 0 ≤ j → j < 12 → MRd2 j = MKr (12 * sq + j))) (fun (x9 : (Int → Int) × (Int → Int) × (Int → Int) × (Int → Int) × Int × Int) => match x9 with | (MB2, MC2, MF2, MRd2, fn2, rn2) => [(m0, .inr (11, [.ref m_read, zi rl, zi rp, .ref m_gut, zi gl, zi gp, zi gx, zi gy, .ref m_text, zi tn, zi fn2, .ref m_boat, .ref m_coins, zi vw, zi vm, zi vn, .ref m_rest, .ref m_ends, zl vc, .ref m_chan, .ref m_spl, zi fs, zi rn2, .ref m_rf, .ref m_rr, .ref m_ik, .ref m_km, .ref m_kb, .ref m_kc, .ref m_kf, .ref m_kr])), (m_boat, .inl (y 0, 42, .inl (cI MB2))), (m_coins, .inl (y 0, 144, .inl (cI MC2))), (m_rf, .inl (y 0, 12, .inl (cI MF2))), (m_rr, .inl (y 2, 12, .inl (cI MRd2))), (m_ik, .inl (y 2, 2, .inl (cI MIk))), (m_km, .inl (y 0, 4, .inl (cI MKm))), (m_kb, .inl (y 0, 84, .inl (cI MKb))), (m_kc, .inl (y 0, 288, .inl (cI MKc))), (m_kf, .inl (y 0, 24, .inl (cI MKf))), (m_kr, .inl (y 2, 24, .inl (cI MKr)))]) (va_A [(m0, .inr (11, [.ref m_read, zi rl, zi rp, .ref m_gut, zi gl, zi gp, zi gx, zi gy, .ref m_text, zi tn, zi fn, .ref m_boat, .ref m_coins, zi vw, zi vm, zi vn, .ref m_rest, .ref m_ends, zl vc, .ref m_chan, .ref m_spl, zi fs, zi rn, .ref m_rf, .ref m_rr, .ref m_ik, .ref m_km, .ref m_kb, .ref m_kc, .ref m_kf, .ref m_kr])), (m_boat, .inl (y 0, 42, .inl (cI MB))), (m_coins, .inl (y 0, 144, .inl (cI MC))), (m_rf, .inl (y 0, 12, .inl (cI MF))), (m_rr, .inl (y 2, 12, .inl (cI MRd))), (m_ik, .inl (y 2, 2, .inl (cI MIk))), (m_km, .inl (y 0, 4, .inl (cI MKm))), (m_kb, .inl (y 0, 84, .inl (cI MKb))), (m_kc, .inl (y 0, 288, .inl (cI MKc))), (m_kf, .inl (y 0, 24, .inl (cI MKf))), (m_kr, .inl (y 2, 24, .inl (cI MKr)))] sz)) 0 0 (va_A [(m0, .inr (11, [.ref m_read, zi rl, zi rp, .ref m_gut, zi gl, zi gp, zi gx, zi gy, .ref m_text, zi tn, zi fn, .ref m_boat, .ref m_coins, zi vw, zi vm, zi vn, .ref m_rest, .ref m_ends, zl vc, .ref m_chan, .ref m_spl, zi fs, zi rn, .ref m_rf, .ref m_rr, .ref m_ik, .ref m_km, .ref m_kb, .ref m_kc, .ref m_kf, .ref m_kr])), (m_boat, .inl (y 0, 42, .inl (cI MB))), (m_coins, .inl (y 0, 144, .inl (cI MC))), (m_rf, .inl (y 0, 12, .inl (cI MF))), (m_rr, .inl (y 2, 12, .inl (cI MRd))), (m_ik, .inl (y 2, 2, .inl (cI MIk))), (m_km, .inl (y 0, 4, .inl (cI MKm))), (m_kb, .inl (y 0, 84, .inl (cI MKb))), (m_kc, .inl (y 0, 288, .inl (cI MKc))), (m_kf, .inl (y 0, 24, .inl (cI MKf))), (m_kr, .inl (y 2, 24, .inl (cI MKr)))] sz) := by
  refine W_of (own := RX12) (cc := cX12_again) (maxL := 3) (ret := some .int) (by decide) rfl rfl (Nat.le_of_ble_eq_true rfl) (fun p e s m below meth c ls A hx hb hr hC hlocks hin0 hR0 hN hP hD hA hG hl => ?_)
  have hC0 := hC
  obtain ⟨-, -, hml, hown, hts⟩ := hC0
  have hK := hG.1
  have hS : va_S A s.heap s.heap [] := va_S.rf
  have hPr := hR0
  have hinX12 : ∀ w ∈ wsX120, w ∈ wsX12_again := fun _ h => List.mem_cons_of_mem _ (List.mem_append_right _ h)
  have k1 := hts (.fieldLink RX12 45 "BoatsOfPaperModel" "isKept" "[Z") (List.mem_of_getElem? (i := 1) rfl)
  have k2 := hts (.fieldLink RX12 48 "BoatsOfPaperModel" "keptMany" "[I") (List.mem_of_getElem? (i := 2) rfl)
  have k3 := hts (.fieldLink RX12 114 "BoatsOfPaperModel" "boats" "I") (List.mem_of_getElem? (i := 3) rfl)
  have k4 := hts (.fieldLink RX12 241 "BoatsOfPaperModel" "runs" "I") (List.mem_of_getElem? (i := 4) rfl)
  have k5 := hts (.fieldLink RX12 19 "BoatsOfPaperModel" "boat" "[I") (List.mem_of_getElem? (i := 5) rfl)
  have k6 := hts (.fieldLink RX12 51 "BoatsOfPaperModel" "keptBoat" "[I") (List.mem_of_getElem? (i := 6) rfl)
  have k7 := hts (.fieldLink RX12 22 "BoatsOfPaperModel" "coins" "[I") (List.mem_of_getElem? (i := 7) rfl)
  have k8 := hts (.fieldLink RX12 54 "BoatsOfPaperModel" "keptCoins" "[I") (List.mem_of_getElem? (i := 8) rfl)
  have k9 := hts (.fieldLink RX12 38 "BoatsOfPaperModel" "runFar" "[I") (List.mem_of_getElem? (i := 9) rfl)
  have k10 := hts (.fieldLink RX12 57 "BoatsOfPaperModel" "keptFar" "[I") (List.mem_of_getElem? (i := 10) rfl)
  have k11 := hts (.fieldLink RX12 41 "BoatsOfPaperModel" "runRed" "[Z") (List.mem_of_getElem? (i := 11) rfl)
  have k12 := hts (.fieldLink RX12 60 "BoatsOfPaperModel" "keptRed" "[Z") (List.mem_of_getElem? (i := 12) rfl)
  have hl : lv_has ls 3 [(0, .ref m0), (1, zi sq)] := hl
  refine lv_iload_n hx hb dX12_again_0 rfl (lv_at hl 1 rfl) ?_
  refine z_i2l hx hb (by omega) dX12_again_1 ?_
  refine lv_lconst (v := iL 0) hx hb dX12_again_2 rfl ?_
  refine lv_lconst (v := iL 1) hx hb dX12_again_3 rfl ?_
  refine z_pS (As := [zl sq, zl 0, zl 1]) (rest := []) hC (c_X12_in l D y sq 0 1 (by first | assumption | omega)) (va_cwS 3 hts gX12_again_X12_in rfl rfl rfl (by decide +kernel) ⟨Nat.le_of_ble_eq_true rfl, Nat.le_of_ble_eq_true rfl⟩) hG va_P_nil rfl hl.1 rfl (Nat.le_of_ble_eq_true rfl) dX12_again_4 ⟨Nat.le_of_ble_eq_true rfl, Nat.le_of_ble_eq_true rfl⟩ ?_
  refine z_ifB_ne (tgt := 12) hx hb dX12_again_7 (by decide) (fun c_7 => ?_) (fun c_7 => ?_)
  ·
    refine lv_aload_n hx hb dX12_again_12 rfl (lv_at hl 0 rfl) ?_
    refine va_get hx hb hts hinX12 hown hK hP 0 rfl rfl 25 (by decide) k1 (fun _ h => h) rfl dX12_again_13 ?_
    refine lv_iload_n hx hb dX12_again_16 rfl (lv_at hl 1 rfl) ?_
    refine z_zald hx hb hK hP 5 2 rfl rfl (by omega) (by decide) dX12_again_17 ?_
    refine z_if_ne (tgt := 24) hx hb (by omega) dX12_again_18 (by decide) (fun c_18 => ?_) (fun c_18 => ?_)
    ·
      refine lv_aload_n hx hb dX12_again_24 rfl (lv_at hl 0 rfl) ?_
      refine lv_aload_n hx hb dX12_again_25 rfl (lv_at hl 0 rfl) ?_
      refine va_get hx hb hts hinX12 hown hK hP 0 rfl rfl 26 (by decide) k2 (fun _ h => h) rfl dX12_again_26 ?_
      refine z_iconst hx hb dX12_again_29 ?_
      refine lv_iload_n hx hb dX12_again_30 rfl (lv_at hl 1 rfl) ?_
      refine z_imul hx hb dX12_again_31 ?_
      refine z_iald hx hb hK hP 6 0 rfl rfl (by omega) (by decide) dX12_again_32 ?_
      refine va_put hx hb hts hinX12 tyX12 tyX12_ok nmX12 hown hK hP hD hS 0 rfl rfl 10 (by decide) k3 (fun _ h => h) rfl (tyX12_ok 10 (by decide)) rfl rfl (Nat.le_of_ble_eq_true rfl) dX12_again_33 (fun H locs hP hD hS => ?_)
      have hP : va_P D vwCl [(m0, .inr (11, [.ref m_read, zi rl, zi rp, .ref m_gut, zi gl, zi gp, zi gx, zi gy, .ref m_text, zi tn, zi (MKm (2 * sq)), .ref m_boat, .ref m_coins, zi vw, zi vm, zi vn, .ref m_rest, .ref m_ends, zl vc, .ref m_chan, .ref m_spl, zi fs, zi rn, .ref m_rf, .ref m_rr, .ref m_ik, .ref m_km, .ref m_kb, .ref m_kc, .ref m_kf, .ref m_kr])), (m_boat, .inl (y 0, 42, .inl (cI MB))), (m_coins, .inl (y 0, 144, .inl (cI MC))), (m_rf, .inl (y 0, 12, .inl (cI MF))), (m_rr, .inl (y 2, 12, .inl (cI MRd))), (m_ik, .inl (y 2, 2, .inl (cI MIk))), (m_km, .inl (y 0, 4, .inl (cI MKm))), (m_kb, .inl (y 0, 84, .inl (cI MKb))), (m_kc, .inl (y 0, 288, .inl (cI MKc))), (m_kf, .inl (y 0, 24, .inl (cI MKf))), (m_kr, .inl (y 2, 24, .inl (cI MKr)))] H := hP
      have hD : va_D A [(m0, .inr (11, [.ref m_read, zi rl, zi rp, .ref m_gut, zi gl, zi gp, zi gx, zi gy, .ref m_text, zi tn, zi (MKm (2 * sq)), .ref m_boat, .ref m_coins, zi vw, zi vm, zi vn, .ref m_rest, .ref m_ends, zl vc, .ref m_chan, .ref m_spl, zi fs, zi rn, .ref m_rf, .ref m_rr, .ref m_ik, .ref m_km, .ref m_kb, .ref m_kc, .ref m_kf, .ref m_kr])), (m_boat, .inl (y 0, 42, .inl (cI MB))), (m_coins, .inl (y 0, 144, .inl (cI MC))), (m_rf, .inl (y 0, 12, .inl (cI MF))), (m_rr, .inl (y 2, 12, .inl (cI MRd))), (m_ik, .inl (y 2, 2, .inl (cI MIk))), (m_km, .inl (y 0, 4, .inl (cI MKm))), (m_kb, .inl (y 0, 84, .inl (cI MKb))), (m_kc, .inl (y 0, 288, .inl (cI MKc))), (m_kf, .inl (y 0, 24, .inl (cI MKf))), (m_kr, .inl (y 2, 24, .inl (cI MKr)))] := hD
      refine lv_aload_n hx hb dX12_again_36 rfl (lv_at hl 0 rfl) ?_
      refine lv_aload_n hx hb dX12_again_37 rfl (lv_at hl 0 rfl) ?_
      refine va_get hx hb hts hinX12 hown hK hP 0 rfl rfl 26 (by decide) k2 (fun _ h => h) rfl dX12_again_38 ?_
      refine z_iconst hx hb dX12_again_41 ?_
      refine lv_iload_n hx hb dX12_again_42 rfl (lv_at hl 1 rfl) ?_
      refine z_imul hx hb dX12_again_43 ?_
      refine z_iconst hx hb dX12_again_44 ?_
      refine z_iadd hx hb dX12_again_45 ?_
      refine z_iald hx hb hK hP 6 0 rfl rfl (by omega) (by decide) dX12_again_46 ?_
      refine va_put hx hb hts hinX12 tyX12 tyX12_ok nmX12 hown hK hP hD hS 0 rfl rfl 22 (by decide) k4 (fun _ h => h) rfl (tyX12_ok 22 (by decide)) rfl rfl (Nat.le_of_ble_eq_true rfl) dX12_again_47 (fun H locs hP hD hS => ?_)
      have hP : va_P D vwCl [(m0, .inr (11, [.ref m_read, zi rl, zi rp, .ref m_gut, zi gl, zi gp, zi gx, zi gy, .ref m_text, zi tn, zi (MKm (2 * sq)), .ref m_boat, .ref m_coins, zi vw, zi vm, zi vn, .ref m_rest, .ref m_ends, zl vc, .ref m_chan, .ref m_spl, zi fs, zi (MKm ((2 * sq) + 1)), .ref m_rf, .ref m_rr, .ref m_ik, .ref m_km, .ref m_kb, .ref m_kc, .ref m_kf, .ref m_kr])), (m_boat, .inl (y 0, 42, .inl (cI MB))), (m_coins, .inl (y 0, 144, .inl (cI MC))), (m_rf, .inl (y 0, 12, .inl (cI MF))), (m_rr, .inl (y 2, 12, .inl (cI MRd))), (m_ik, .inl (y 2, 2, .inl (cI MIk))), (m_km, .inl (y 0, 4, .inl (cI MKm))), (m_kb, .inl (y 0, 84, .inl (cI MKb))), (m_kc, .inl (y 0, 288, .inl (cI MKc))), (m_kf, .inl (y 0, 24, .inl (cI MKf))), (m_kr, .inl (y 2, 24, .inl (cI MKr)))] H := hP
      have hD : va_D A [(m0, .inr (11, [.ref m_read, zi rl, zi rp, .ref m_gut, zi gl, zi gp, zi gx, zi gy, .ref m_text, zi tn, zi (MKm (2 * sq)), .ref m_boat, .ref m_coins, zi vw, zi vm, zi vn, .ref m_rest, .ref m_ends, zl vc, .ref m_chan, .ref m_spl, zi fs, zi (MKm ((2 * sq) + 1)), .ref m_rf, .ref m_rr, .ref m_ik, .ref m_km, .ref m_kb, .ref m_kc, .ref m_kf, .ref m_kr])), (m_boat, .inl (y 0, 42, .inl (cI MB))), (m_coins, .inl (y 0, 144, .inl (cI MC))), (m_rf, .inl (y 0, 12, .inl (cI MF))), (m_rr, .inl (y 2, 12, .inl (cI MRd))), (m_ik, .inl (y 2, 2, .inl (cI MIk))), (m_km, .inl (y 0, 4, .inl (cI MKm))), (m_kb, .inl (y 0, 84, .inl (cI MKb))), (m_kc, .inl (y 0, 288, .inl (cI MKc))), (m_kf, .inl (y 0, 24, .inl (cI MKf))), (m_kr, .inl (y 2, 24, .inl (cI MKr)))] := hD
      refine z_iconst hx hb dX12_again_50 ?_
      refine lv_istore_n (lv' := [(2, zi 0), (0, .ref m0), (1, zi sq)]) hx hb dX12_again_51 rfl hl (by decide) rfl (fun ls hl => ?_)
      refine z_loop (σ := Int × (Int → Int)) (fun x9 H lc ls => match x9 with | (k, B1) => ((0 ≤ k ∧ k ≤ 42) ∧ (∀ j : Int, 0 ≤ j → j < k → B1 j = MKb (42 * sq + j))) ∧ lv_has ls 3 [(2, zi k), (0, .ref m0), (1, zi sq)] ∧ va_P D vwCl [(m0, .inr (11, [.ref m_read, zi rl, zi rp, .ref m_gut, zi gl, zi gp, zi gx, zi gy, .ref m_text, zi tn, zi (MKm (2 * sq)), .ref m_boat, .ref m_coins, zi vw, zi vm, zi vn, .ref m_rest, .ref m_ends, zl vc, .ref m_chan, .ref m_spl, zi fs, zi (MKm ((2 * sq) + 1)), .ref m_rf, .ref m_rr, .ref m_ik, .ref m_km, .ref m_kb, .ref m_kc, .ref m_kf, .ref m_kr])), (m_boat, .inl (y 0, 42, .inl (cI B1))), (m_coins, .inl (y 0, 144, .inl (cI MC))), (m_rf, .inl (y 0, 12, .inl (cI MF))), (m_rr, .inl (y 2, 12, .inl (cI MRd))), (m_ik, .inl (y 2, 2, .inl (cI MIk))), (m_km, .inl (y 0, 4, .inl (cI MKm))), (m_kb, .inl (y 0, 84, .inl (cI MKb))), (m_kc, .inl (y 0, 288, .inl (cI MKc))), (m_kf, .inl (y 0, 24, .inl (cI MKf))), (m_kr, .inl (y 2, 24, .inl (cI MKr)))] H ∧ va_D A [(m0, .inr (11, [.ref m_read, zi rl, zi rp, .ref m_gut, zi gl, zi gp, zi gx, zi gy, .ref m_text, zi tn, zi (MKm (2 * sq)), .ref m_boat, .ref m_coins, zi vw, zi vm, zi vn, .ref m_rest, .ref m_ends, zl vc, .ref m_chan, .ref m_spl, zi fs, zi (MKm ((2 * sq) + 1)), .ref m_rf, .ref m_rr, .ref m_ik, .ref m_km, .ref m_kb, .ref m_kc, .ref m_kf, .ref m_kr])), (m_boat, .inl (y 0, 42, .inl (cI B1))), (m_coins, .inl (y 0, 144, .inl (cI MC))), (m_rf, .inl (y 0, 12, .inl (cI MF))), (m_rr, .inl (y 2, 12, .inl (cI MRd))), (m_ik, .inl (y 2, 2, .inl (cI MIk))), (m_km, .inl (y 0, 4, .inl (cI MKm))), (m_kb, .inl (y 0, 84, .inl (cI MKb))), (m_kc, .inl (y 0, 288, .inl (cI MKc))), (m_kf, .inl (y 0, 24, .inl (cI MKf))), (m_kr, .inl (y 2, 24, .inl (cI MKr)))] ∧ va_S A s.heap H lc) (fun x9  => match x9 with | (k, B1) => ((42 - k).toNat)) ?_ (0, MB) ⟨⟨by omega, fun j _ _ => by omega⟩, lv_sub hl [0, 1, 2] rfl, hP.sub [0, 1, 2, 3, 4, 5, 6, 7, 8, 9, 10] rfl, hD.sub [0, 1, 2, 3, 4, 5, 6, 7, 8, 9, 10] (by decide) rfl, hS⟩
      rintro ⟨k, B1⟩ H lc ls ⟨hi52, hl, hP, hD, hS⟩ ih52
      have hP : va_P D vwCl [(m0, .inr (11, [.ref m_read, zi rl, zi rp, .ref m_gut, zi gl, zi gp, zi gx, zi gy, .ref m_text, zi tn, zi (MKm (2 * sq)), .ref m_boat, .ref m_coins, zi vw, zi vm, zi vn, .ref m_rest, .ref m_ends, zl vc, .ref m_chan, .ref m_spl, zi fs, zi (MKm ((2 * sq) + 1)), .ref m_rf, .ref m_rr, .ref m_ik, .ref m_km, .ref m_kb, .ref m_kc, .ref m_kf, .ref m_kr])), (m_boat, .inl (y 0, 42, .inl (cI B1))), (m_coins, .inl (y 0, 144, .inl (cI MC))), (m_rf, .inl (y 0, 12, .inl (cI MF))), (m_rr, .inl (y 2, 12, .inl (cI MRd))), (m_ik, .inl (y 2, 2, .inl (cI MIk))), (m_km, .inl (y 0, 4, .inl (cI MKm))), (m_kb, .inl (y 0, 84, .inl (cI MKb))), (m_kc, .inl (y 0, 288, .inl (cI MKc))), (m_kf, .inl (y 0, 24, .inl (cI MKf))), (m_kr, .inl (y 2, 24, .inl (cI MKr)))] H := hP
      have hD : va_D A [(m0, .inr (11, [.ref m_read, zi rl, zi rp, .ref m_gut, zi gl, zi gp, zi gx, zi gy, .ref m_text, zi tn, zi (MKm (2 * sq)), .ref m_boat, .ref m_coins, zi vw, zi vm, zi vn, .ref m_rest, .ref m_ends, zl vc, .ref m_chan, .ref m_spl, zi fs, zi (MKm ((2 * sq) + 1)), .ref m_rf, .ref m_rr, .ref m_ik, .ref m_km, .ref m_kb, .ref m_kc, .ref m_kf, .ref m_kr])), (m_boat, .inl (y 0, 42, .inl (cI B1))), (m_coins, .inl (y 0, 144, .inl (cI MC))), (m_rf, .inl (y 0, 12, .inl (cI MF))), (m_rr, .inl (y 2, 12, .inl (cI MRd))), (m_ik, .inl (y 2, 2, .inl (cI MIk))), (m_km, .inl (y 0, 4, .inl (cI MKm))), (m_kb, .inl (y 0, 84, .inl (cI MKb))), (m_kc, .inl (y 0, 288, .inl (cI MKc))), (m_kf, .inl (y 0, 24, .inl (cI MKf))), (m_kr, .inl (y 2, 24, .inl (cI MKr)))] := hD
      refine lv_iload_n hx hb dX12_again_52 rfl (lv_at hl 0 rfl) ?_
      refine z_bipush hx hb dX12_again_53 (by decide) ?_
      refine z_icmp_ge (tgt := 81) hx hb (by omega) (by omega) dX12_again_55 (by decide) (fun c_55 => ?_) (fun c_55 => ?_)
      ·
        have kb9 : (∀ j : Int, 0 ≤ j → j < 42 → B1 j = MKb (42 * sq + j)) := (by rw [show k = 42 by omega] at hi52; exact hi52.2)
        refine z_iconst hx hb dX12_again_81 ?_
        refine lv_istore_n (lv' := [(2, zi 0), (0, .ref m0), (1, zi sq)]) hx hb dX12_again_82 rfl hl (by decide) rfl (fun ls hl => ?_)
        refine z_loop (σ := Int × (Int → Int)) (fun x9 H lc ls => match x9 with | (k, C1) => ((0 ≤ k ∧ k ≤ 144) ∧ (∀ j : Int, 0 ≤ j → j < k → C1 j = MKc (144 * sq + j))) ∧ lv_has ls 3 [(2, zi k), (0, .ref m0), (1, zi sq)] ∧ va_P D vwCl [(m0, .inr (11, [.ref m_read, zi rl, zi rp, .ref m_gut, zi gl, zi gp, zi gx, zi gy, .ref m_text, zi tn, zi (MKm (2 * sq)), .ref m_boat, .ref m_coins, zi vw, zi vm, zi vn, .ref m_rest, .ref m_ends, zl vc, .ref m_chan, .ref m_spl, zi fs, zi (MKm ((2 * sq) + 1)), .ref m_rf, .ref m_rr, .ref m_ik, .ref m_km, .ref m_kb, .ref m_kc, .ref m_kf, .ref m_kr])), (m_boat, .inl (y 0, 42, .inl (cI B1))), (m_coins, .inl (y 0, 144, .inl (cI C1))), (m_rf, .inl (y 0, 12, .inl (cI MF))), (m_rr, .inl (y 2, 12, .inl (cI MRd))), (m_ik, .inl (y 2, 2, .inl (cI MIk))), (m_km, .inl (y 0, 4, .inl (cI MKm))), (m_kb, .inl (y 0, 84, .inl (cI MKb))), (m_kc, .inl (y 0, 288, .inl (cI MKc))), (m_kf, .inl (y 0, 24, .inl (cI MKf))), (m_kr, .inl (y 2, 24, .inl (cI MKr)))] H ∧ va_D A [(m0, .inr (11, [.ref m_read, zi rl, zi rp, .ref m_gut, zi gl, zi gp, zi gx, zi gy, .ref m_text, zi tn, zi (MKm (2 * sq)), .ref m_boat, .ref m_coins, zi vw, zi vm, zi vn, .ref m_rest, .ref m_ends, zl vc, .ref m_chan, .ref m_spl, zi fs, zi (MKm ((2 * sq) + 1)), .ref m_rf, .ref m_rr, .ref m_ik, .ref m_km, .ref m_kb, .ref m_kc, .ref m_kf, .ref m_kr])), (m_boat, .inl (y 0, 42, .inl (cI B1))), (m_coins, .inl (y 0, 144, .inl (cI C1))), (m_rf, .inl (y 0, 12, .inl (cI MF))), (m_rr, .inl (y 2, 12, .inl (cI MRd))), (m_ik, .inl (y 2, 2, .inl (cI MIk))), (m_km, .inl (y 0, 4, .inl (cI MKm))), (m_kb, .inl (y 0, 84, .inl (cI MKb))), (m_kc, .inl (y 0, 288, .inl (cI MKc))), (m_kf, .inl (y 0, 24, .inl (cI MKf))), (m_kr, .inl (y 2, 24, .inl (cI MKr)))] ∧ va_S A s.heap H lc) (fun x9  => match x9 with | (k, C1) => ((144 - k).toNat)) ?_ (0, MC) ⟨⟨by omega, fun j _ _ => by omega⟩, lv_sub hl [0, 1, 2] rfl, hP.sub [0, 1, 2, 3, 4, 5, 6, 7, 8, 9, 10] rfl, hD.sub [0, 1, 2, 3, 4, 5, 6, 7, 8, 9, 10] (by decide) rfl, hS⟩
        rintro ⟨k, C1⟩ H lc ls ⟨hi83, hl, hP, hD, hS⟩ ih83
        have hP : va_P D vwCl [(m0, .inr (11, [.ref m_read, zi rl, zi rp, .ref m_gut, zi gl, zi gp, zi gx, zi gy, .ref m_text, zi tn, zi (MKm (2 * sq)), .ref m_boat, .ref m_coins, zi vw, zi vm, zi vn, .ref m_rest, .ref m_ends, zl vc, .ref m_chan, .ref m_spl, zi fs, zi (MKm ((2 * sq) + 1)), .ref m_rf, .ref m_rr, .ref m_ik, .ref m_km, .ref m_kb, .ref m_kc, .ref m_kf, .ref m_kr])), (m_boat, .inl (y 0, 42, .inl (cI B1))), (m_coins, .inl (y 0, 144, .inl (cI C1))), (m_rf, .inl (y 0, 12, .inl (cI MF))), (m_rr, .inl (y 2, 12, .inl (cI MRd))), (m_ik, .inl (y 2, 2, .inl (cI MIk))), (m_km, .inl (y 0, 4, .inl (cI MKm))), (m_kb, .inl (y 0, 84, .inl (cI MKb))), (m_kc, .inl (y 0, 288, .inl (cI MKc))), (m_kf, .inl (y 0, 24, .inl (cI MKf))), (m_kr, .inl (y 2, 24, .inl (cI MKr)))] H := hP
        have hD : va_D A [(m0, .inr (11, [.ref m_read, zi rl, zi rp, .ref m_gut, zi gl, zi gp, zi gx, zi gy, .ref m_text, zi tn, zi (MKm (2 * sq)), .ref m_boat, .ref m_coins, zi vw, zi vm, zi vn, .ref m_rest, .ref m_ends, zl vc, .ref m_chan, .ref m_spl, zi fs, zi (MKm ((2 * sq) + 1)), .ref m_rf, .ref m_rr, .ref m_ik, .ref m_km, .ref m_kb, .ref m_kc, .ref m_kf, .ref m_kr])), (m_boat, .inl (y 0, 42, .inl (cI B1))), (m_coins, .inl (y 0, 144, .inl (cI C1))), (m_rf, .inl (y 0, 12, .inl (cI MF))), (m_rr, .inl (y 2, 12, .inl (cI MRd))), (m_ik, .inl (y 2, 2, .inl (cI MIk))), (m_km, .inl (y 0, 4, .inl (cI MKm))), (m_kb, .inl (y 0, 84, .inl (cI MKb))), (m_kc, .inl (y 0, 288, .inl (cI MKc))), (m_kf, .inl (y 0, 24, .inl (cI MKf))), (m_kr, .inl (y 2, 24, .inl (cI MKr)))] := hD
        refine lv_iload_n hx hb dX12_again_83 rfl (lv_at hl 0 rfl) ?_
        refine z_sipush hx hb dX12_again_84 (by decide) ?_
        refine z_icmp_ge (tgt := 114) hx hb (by omega) (by omega) dX12_again_87 (by decide) (fun c_87 => ?_) (fun c_87 => ?_)
        ·
          have kc9 : (∀ j : Int, 0 ≤ j → j < 144 → C1 j = MKc (144 * sq + j)) := (by rw [show k = 144 by omega] at hi83; exact hi83.2)
          refine z_iconst hx hb dX12_again_114 ?_
          refine lv_istore_n (lv' := [(2, zi 0), (0, .ref m0), (1, zi sq)]) hx hb dX12_again_115 rfl hl (by decide) rfl (fun ls hl => ?_)
          refine z_loop (σ := Int × (Int → Int) × (Int → Int)) (fun x9 H lc ls => match x9 with | (k, F1, G1) => ((0 ≤ k ∧ k ≤ 12) ∧ (∀ j : Int, 0 ≤ j → j < k → F1 j = MKf (12 * sq + j)) ∧ (∀ j : Int, 0 ≤ j → j < k → G1 j = MKr (12 * sq + j))) ∧ lv_has ls 3 [(2, zi k), (0, .ref m0), (1, zi sq)] ∧ va_P D vwCl [(m0, .inr (11, [.ref m_read, zi rl, zi rp, .ref m_gut, zi gl, zi gp, zi gx, zi gy, .ref m_text, zi tn, zi (MKm (2 * sq)), .ref m_boat, .ref m_coins, zi vw, zi vm, zi vn, .ref m_rest, .ref m_ends, zl vc, .ref m_chan, .ref m_spl, zi fs, zi (MKm ((2 * sq) + 1)), .ref m_rf, .ref m_rr, .ref m_ik, .ref m_km, .ref m_kb, .ref m_kc, .ref m_kf, .ref m_kr])), (m_boat, .inl (y 0, 42, .inl (cI B1))), (m_coins, .inl (y 0, 144, .inl (cI C1))), (m_rf, .inl (y 0, 12, .inl (cI F1))), (m_rr, .inl (y 2, 12, .inl (cI G1))), (m_ik, .inl (y 2, 2, .inl (cI MIk))), (m_km, .inl (y 0, 4, .inl (cI MKm))), (m_kb, .inl (y 0, 84, .inl (cI MKb))), (m_kc, .inl (y 0, 288, .inl (cI MKc))), (m_kf, .inl (y 0, 24, .inl (cI MKf))), (m_kr, .inl (y 2, 24, .inl (cI MKr)))] H ∧ va_D A [(m0, .inr (11, [.ref m_read, zi rl, zi rp, .ref m_gut, zi gl, zi gp, zi gx, zi gy, .ref m_text, zi tn, zi (MKm (2 * sq)), .ref m_boat, .ref m_coins, zi vw, zi vm, zi vn, .ref m_rest, .ref m_ends, zl vc, .ref m_chan, .ref m_spl, zi fs, zi (MKm ((2 * sq) + 1)), .ref m_rf, .ref m_rr, .ref m_ik, .ref m_km, .ref m_kb, .ref m_kc, .ref m_kf, .ref m_kr])), (m_boat, .inl (y 0, 42, .inl (cI B1))), (m_coins, .inl (y 0, 144, .inl (cI C1))), (m_rf, .inl (y 0, 12, .inl (cI F1))), (m_rr, .inl (y 2, 12, .inl (cI G1))), (m_ik, .inl (y 2, 2, .inl (cI MIk))), (m_km, .inl (y 0, 4, .inl (cI MKm))), (m_kb, .inl (y 0, 84, .inl (cI MKb))), (m_kc, .inl (y 0, 288, .inl (cI MKc))), (m_kf, .inl (y 0, 24, .inl (cI MKf))), (m_kr, .inl (y 2, 24, .inl (cI MKr)))] ∧ va_S A s.heap H lc) (fun x9  => match x9 with | (k, F1, G1) => ((12 - k).toNat)) ?_ (0, MF, MRd) ⟨⟨by omega, fun j _ _ => by omega, fun j _ _ => by omega⟩, lv_sub hl [0, 1, 2] rfl, hP.sub [0, 1, 2, 3, 4, 5, 6, 7, 8, 9, 10] rfl, hD.sub [0, 1, 2, 3, 4, 5, 6, 7, 8, 9, 10] (by decide) rfl, hS⟩
          rintro ⟨k, F1, G1⟩ H lc ls ⟨hi116, hl, hP, hD, hS⟩ ih116
          have hP : va_P D vwCl [(m0, .inr (11, [.ref m_read, zi rl, zi rp, .ref m_gut, zi gl, zi gp, zi gx, zi gy, .ref m_text, zi tn, zi (MKm (2 * sq)), .ref m_boat, .ref m_coins, zi vw, zi vm, zi vn, .ref m_rest, .ref m_ends, zl vc, .ref m_chan, .ref m_spl, zi fs, zi (MKm ((2 * sq) + 1)), .ref m_rf, .ref m_rr, .ref m_ik, .ref m_km, .ref m_kb, .ref m_kc, .ref m_kf, .ref m_kr])), (m_boat, .inl (y 0, 42, .inl (cI B1))), (m_coins, .inl (y 0, 144, .inl (cI C1))), (m_rf, .inl (y 0, 12, .inl (cI F1))), (m_rr, .inl (y 2, 12, .inl (cI G1))), (m_ik, .inl (y 2, 2, .inl (cI MIk))), (m_km, .inl (y 0, 4, .inl (cI MKm))), (m_kb, .inl (y 0, 84, .inl (cI MKb))), (m_kc, .inl (y 0, 288, .inl (cI MKc))), (m_kf, .inl (y 0, 24, .inl (cI MKf))), (m_kr, .inl (y 2, 24, .inl (cI MKr)))] H := hP
          have hD : va_D A [(m0, .inr (11, [.ref m_read, zi rl, zi rp, .ref m_gut, zi gl, zi gp, zi gx, zi gy, .ref m_text, zi tn, zi (MKm (2 * sq)), .ref m_boat, .ref m_coins, zi vw, zi vm, zi vn, .ref m_rest, .ref m_ends, zl vc, .ref m_chan, .ref m_spl, zi fs, zi (MKm ((2 * sq) + 1)), .ref m_rf, .ref m_rr, .ref m_ik, .ref m_km, .ref m_kb, .ref m_kc, .ref m_kf, .ref m_kr])), (m_boat, .inl (y 0, 42, .inl (cI B1))), (m_coins, .inl (y 0, 144, .inl (cI C1))), (m_rf, .inl (y 0, 12, .inl (cI F1))), (m_rr, .inl (y 2, 12, .inl (cI G1))), (m_ik, .inl (y 2, 2, .inl (cI MIk))), (m_km, .inl (y 0, 4, .inl (cI MKm))), (m_kb, .inl (y 0, 84, .inl (cI MKb))), (m_kc, .inl (y 0, 288, .inl (cI MKc))), (m_kf, .inl (y 0, 24, .inl (cI MKf))), (m_kr, .inl (y 2, 24, .inl (cI MKr)))] := hD
          refine lv_iload_n hx hb dX12_again_116 rfl (lv_at hl 0 rfl) ?_
          refine z_bipush hx hb dX12_again_117 (by decide) ?_
          refine z_icmp_ge (tgt := 162) hx hb (by omega) (by omega) dX12_again_119 (by decide) (fun c_119 => ?_) (fun c_119 => ?_)
          ·
            refine lv_aload_n hx hb dX12_again_162 rfl (lv_at hl 1 rfl) ?_
            refine va_get hx hb hts hinX12 hown hK hP 0 rfl rfl 10 (by decide) k3 (fun _ h => h) rfl dX12_again_163 ?_
            exact z_iretW hx hb hr hlocks (B1, C1, F1, G1, MKm (2 * sq), MKm ((2 * sq) + 1)) (rfl) (by rw [show k = 12 by omega] at hi116; exact ⟨rfl, rfl, kb9, kc9, hi116.2.1, hi116.2.2⟩) (hP.sub [0, 1, 2, 3, 4, 5, 6, 7, 8, 9, 10] rfl) (hD.sub [0, 1, 2, 3, 4, 5, 6, 7, 8, 9, 10] (by decide) rfl) hS dX12_again_166
          ·
            refine lv_aload_n hx hb dX12_again_122 rfl (lv_at hl 1 rfl) ?_
            refine va_get hx hb hts hinX12 hown hK hP 0 rfl rfl 23 (by decide) k9 (fun _ h => h) rfl dX12_again_123 ?_
            refine lv_iload_n hx hb dX12_again_126 rfl (lv_at hl 0 rfl) ?_
            refine lv_aload_n hx hb dX12_again_127 rfl (lv_at hl 1 rfl) ?_
            refine va_get hx hb hts hinX12 hown hK hP 0 rfl rfl 29 (by decide) k10 (fun _ h => h) rfl dX12_again_128 ?_
            refine z_bipush hx hb dX12_again_131 (by decide) ?_
            refine lv_iload_n hx hb dX12_again_133 rfl (lv_at hl 2 rfl) ?_
            refine z_imul hx hb dX12_again_134 ?_
            refine lv_iload_n hx hb dX12_again_135 rfl (lv_at hl 0 rfl) ?_
            refine z_iadd hx hb dX12_again_136 ?_
            refine z_iald hx hb hK hP 9 0 rfl rfl (by omega) (by decide) dX12_again_137 ?_
            refine z_iast hx hb hK hP hD hS 3 0 rfl rfl (by omega) (by decide) dX12_again_138 (fun H locs hP hD hS => ?_)
            have hP : va_P D vwCl [(m0, .inr (11, [.ref m_read, zi rl, zi rp, .ref m_gut, zi gl, zi gp, zi gx, zi gy, .ref m_text, zi tn, zi (MKm (2 * sq)), .ref m_boat, .ref m_coins, zi vw, zi vm, zi vn, .ref m_rest, .ref m_ends, zl vc, .ref m_chan, .ref m_spl, zi fs, zi (MKm ((2 * sq) + 1)), .ref m_rf, .ref m_rr, .ref m_ik, .ref m_km, .ref m_kb, .ref m_kc, .ref m_kf, .ref m_kr])), (m_boat, .inl (y 0, 42, .inl (cI B1))), (m_coins, .inl (y 0, 144, .inl (cI C1))), (m_rf, .inl (y 0, 12, .inl (cI (iu F1 k (MKf ((12 * sq) + k)))))), (m_rr, .inl (y 2, 12, .inl (cI G1))), (m_ik, .inl (y 2, 2, .inl (cI MIk))), (m_km, .inl (y 0, 4, .inl (cI MKm))), (m_kb, .inl (y 0, 84, .inl (cI MKb))), (m_kc, .inl (y 0, 288, .inl (cI MKc))), (m_kf, .inl (y 0, 24, .inl (cI MKf))), (m_kr, .inl (y 2, 24, .inl (cI MKr)))] H := hP
            have hD : va_D A [(m0, .inr (11, [.ref m_read, zi rl, zi rp, .ref m_gut, zi gl, zi gp, zi gx, zi gy, .ref m_text, zi tn, zi (MKm (2 * sq)), .ref m_boat, .ref m_coins, zi vw, zi vm, zi vn, .ref m_rest, .ref m_ends, zl vc, .ref m_chan, .ref m_spl, zi fs, zi (MKm ((2 * sq) + 1)), .ref m_rf, .ref m_rr, .ref m_ik, .ref m_km, .ref m_kb, .ref m_kc, .ref m_kf, .ref m_kr])), (m_boat, .inl (y 0, 42, .inl (cI B1))), (m_coins, .inl (y 0, 144, .inl (cI C1))), (m_rf, .inl (y 0, 12, .inl (cI (iu F1 k (MKf ((12 * sq) + k)))))), (m_rr, .inl (y 2, 12, .inl (cI G1))), (m_ik, .inl (y 2, 2, .inl (cI MIk))), (m_km, .inl (y 0, 4, .inl (cI MKm))), (m_kb, .inl (y 0, 84, .inl (cI MKb))), (m_kc, .inl (y 0, 288, .inl (cI MKc))), (m_kf, .inl (y 0, 24, .inl (cI MKf))), (m_kr, .inl (y 2, 24, .inl (cI MKr)))] := hD
            have z01 := h01 (12 * sq + k) (by omega) (by omega)
            refine lv_aload_n hx hb dX12_again_139 rfl (lv_at hl 1 rfl) ?_
            refine va_get hx hb hts hinX12 hown hK hP 0 rfl rfl 24 (by decide) k11 (fun _ h => h) rfl dX12_again_140 ?_
            refine lv_iload_n hx hb dX12_again_143 rfl (lv_at hl 0 rfl) ?_
            refine lv_aload_n hx hb dX12_again_144 rfl (lv_at hl 1 rfl) ?_
            refine va_get hx hb hts hinX12 hown hK hP 0 rfl rfl 30 (by decide) k12 (fun _ h => h) rfl dX12_again_145 ?_
            refine z_bipush hx hb dX12_again_148 (by decide) ?_
            refine lv_iload_n hx hb dX12_again_150 rfl (lv_at hl 2 rfl) ?_
            refine z_imul hx hb dX12_again_151 ?_
            refine lv_iload_n hx hb dX12_again_152 rfl (lv_at hl 0 rfl) ?_
            refine z_iadd hx hb dX12_again_153 ?_
            refine z_zald hx hb hK hP 10 2 rfl rfl (by omega) (by decide) dX12_again_154 ?_
            refine z_zast hx hb hK hP hD hS 4 2 rfl rfl (by omega) (by decide) (by omega) dX12_again_155 (fun H locs hP hD hS => ?_)
            have hP : va_P D vwCl [(m0, .inr (11, [.ref m_read, zi rl, zi rp, .ref m_gut, zi gl, zi gp, zi gx, zi gy, .ref m_text, zi tn, zi (MKm (2 * sq)), .ref m_boat, .ref m_coins, zi vw, zi vm, zi vn, .ref m_rest, .ref m_ends, zl vc, .ref m_chan, .ref m_spl, zi fs, zi (MKm ((2 * sq) + 1)), .ref m_rf, .ref m_rr, .ref m_ik, .ref m_km, .ref m_kb, .ref m_kc, .ref m_kf, .ref m_kr])), (m_boat, .inl (y 0, 42, .inl (cI B1))), (m_coins, .inl (y 0, 144, .inl (cI C1))), (m_rf, .inl (y 0, 12, .inl (cI (iu F1 k (MKf ((12 * sq) + k)))))), (m_rr, .inl (y 2, 12, .inl (cI (iu G1 k (MKr ((12 * sq) + k)))))), (m_ik, .inl (y 2, 2, .inl (cI MIk))), (m_km, .inl (y 0, 4, .inl (cI MKm))), (m_kb, .inl (y 0, 84, .inl (cI MKb))), (m_kc, .inl (y 0, 288, .inl (cI MKc))), (m_kf, .inl (y 0, 24, .inl (cI MKf))), (m_kr, .inl (y 2, 24, .inl (cI MKr)))] H := hP
            have hD : va_D A [(m0, .inr (11, [.ref m_read, zi rl, zi rp, .ref m_gut, zi gl, zi gp, zi gx, zi gy, .ref m_text, zi tn, zi (MKm (2 * sq)), .ref m_boat, .ref m_coins, zi vw, zi vm, zi vn, .ref m_rest, .ref m_ends, zl vc, .ref m_chan, .ref m_spl, zi fs, zi (MKm ((2 * sq) + 1)), .ref m_rf, .ref m_rr, .ref m_ik, .ref m_km, .ref m_kb, .ref m_kc, .ref m_kf, .ref m_kr])), (m_boat, .inl (y 0, 42, .inl (cI B1))), (m_coins, .inl (y 0, 144, .inl (cI C1))), (m_rf, .inl (y 0, 12, .inl (cI (iu F1 k (MKf ((12 * sq) + k)))))), (m_rr, .inl (y 2, 12, .inl (cI (iu G1 k (MKr ((12 * sq) + k)))))), (m_ik, .inl (y 2, 2, .inl (cI MIk))), (m_km, .inl (y 0, 4, .inl (cI MKm))), (m_kb, .inl (y 0, 84, .inl (cI MKb))), (m_kc, .inl (y 0, 288, .inl (cI MKc))), (m_kf, .inl (y 0, 24, .inl (cI MKf))), (m_kr, .inl (y 2, 24, .inl (cI MKr)))] := hD
            refine z_iinc (k := 0) (lv' := [(2, zi (k + 1)), (0, .ref m0), (1, zi sq)]) hx hb dX12_again_156 hl rfl (by decide) rfl (fun ls hl => ?_)
            refine lv_goto (tgt := 116) hx hb dX12_again_159 (by decide) ?_
            exact ih116 (k + 1, iu F1 k (MKf ((12 * sq) + k)), iu G1 k (MKr ((12 * sq) + k))) _ _ _ (by first | (dsimp only; omega) | omega) ⟨⟨by omega, iu_fillv hi116.2.1 rfl, iu_fillv hi116.2.2 rfl⟩, lv_sub hl [0, 1, 2] rfl, hP.sub [0, 1, 2, 3, 4, 5, 6, 7, 8, 9, 10] rfl, hD.sub [0, 1, 2, 3, 4, 5, 6, 7, 8, 9, 10] (by decide) rfl, hS⟩
        ·
          refine lv_aload_n hx hb dX12_again_90 rfl (lv_at hl 1 rfl) ?_
          refine va_get hx hb hts hinX12 hown hK hP 0 rfl rfl 12 (by decide) k7 (fun _ h => h) rfl dX12_again_91 ?_
          refine lv_iload_n hx hb dX12_again_94 rfl (lv_at hl 0 rfl) ?_
          refine lv_aload_n hx hb dX12_again_95 rfl (lv_at hl 1 rfl) ?_
          refine va_get hx hb hts hinX12 hown hK hP 0 rfl rfl 28 (by decide) k8 (fun _ h => h) rfl dX12_again_96 ?_
          refine z_sipush hx hb dX12_again_99 (by decide) ?_
          refine lv_iload_n hx hb dX12_again_102 rfl (lv_at hl 2 rfl) ?_
          refine z_imul hx hb dX12_again_103 ?_
          refine lv_iload_n hx hb dX12_again_104 rfl (lv_at hl 0 rfl) ?_
          refine z_iadd hx hb dX12_again_105 ?_
          refine z_iald hx hb hK hP 8 0 rfl rfl (by omega) (by decide) dX12_again_106 ?_
          refine z_iast hx hb hK hP hD hS 2 0 rfl rfl (by omega) (by decide) dX12_again_107 (fun H locs hP hD hS => ?_)
          have hP : va_P D vwCl [(m0, .inr (11, [.ref m_read, zi rl, zi rp, .ref m_gut, zi gl, zi gp, zi gx, zi gy, .ref m_text, zi tn, zi (MKm (2 * sq)), .ref m_boat, .ref m_coins, zi vw, zi vm, zi vn, .ref m_rest, .ref m_ends, zl vc, .ref m_chan, .ref m_spl, zi fs, zi (MKm ((2 * sq) + 1)), .ref m_rf, .ref m_rr, .ref m_ik, .ref m_km, .ref m_kb, .ref m_kc, .ref m_kf, .ref m_kr])), (m_boat, .inl (y 0, 42, .inl (cI B1))), (m_coins, .inl (y 0, 144, .inl (cI (iu C1 k (MKc ((144 * sq) + k)))))), (m_rf, .inl (y 0, 12, .inl (cI MF))), (m_rr, .inl (y 2, 12, .inl (cI MRd))), (m_ik, .inl (y 2, 2, .inl (cI MIk))), (m_km, .inl (y 0, 4, .inl (cI MKm))), (m_kb, .inl (y 0, 84, .inl (cI MKb))), (m_kc, .inl (y 0, 288, .inl (cI MKc))), (m_kf, .inl (y 0, 24, .inl (cI MKf))), (m_kr, .inl (y 2, 24, .inl (cI MKr)))] H := hP
          have hD : va_D A [(m0, .inr (11, [.ref m_read, zi rl, zi rp, .ref m_gut, zi gl, zi gp, zi gx, zi gy, .ref m_text, zi tn, zi (MKm (2 * sq)), .ref m_boat, .ref m_coins, zi vw, zi vm, zi vn, .ref m_rest, .ref m_ends, zl vc, .ref m_chan, .ref m_spl, zi fs, zi (MKm ((2 * sq) + 1)), .ref m_rf, .ref m_rr, .ref m_ik, .ref m_km, .ref m_kb, .ref m_kc, .ref m_kf, .ref m_kr])), (m_boat, .inl (y 0, 42, .inl (cI B1))), (m_coins, .inl (y 0, 144, .inl (cI (iu C1 k (MKc ((144 * sq) + k)))))), (m_rf, .inl (y 0, 12, .inl (cI MF))), (m_rr, .inl (y 2, 12, .inl (cI MRd))), (m_ik, .inl (y 2, 2, .inl (cI MIk))), (m_km, .inl (y 0, 4, .inl (cI MKm))), (m_kb, .inl (y 0, 84, .inl (cI MKb))), (m_kc, .inl (y 0, 288, .inl (cI MKc))), (m_kf, .inl (y 0, 24, .inl (cI MKf))), (m_kr, .inl (y 2, 24, .inl (cI MKr)))] := hD
          refine z_iinc (k := 0) (lv' := [(2, zi (k + 1)), (0, .ref m0), (1, zi sq)]) hx hb dX12_again_108 hl rfl (by decide) rfl (fun ls hl => ?_)
          refine lv_goto (tgt := 83) hx hb dX12_again_111 (by decide) ?_
          exact ih83 (k + 1, iu C1 k (MKc ((144 * sq) + k))) _ _ _ (by first | (dsimp only; omega) | omega) ⟨⟨by omega, iu_fillv hi83.2 rfl⟩, lv_sub hl [0, 1, 2] rfl, hP.sub [0, 1, 2, 3, 4, 5, 6, 7, 8, 9, 10] rfl, hD.sub [0, 1, 2, 3, 4, 5, 6, 7, 8, 9, 10] (by decide) rfl, hS⟩
      ·
        refine lv_aload_n hx hb dX12_again_58 rfl (lv_at hl 1 rfl) ?_
        refine va_get hx hb hts hinX12 hown hK hP 0 rfl rfl 11 (by decide) k5 (fun _ h => h) rfl dX12_again_59 ?_
        refine lv_iload_n hx hb dX12_again_62 rfl (lv_at hl 0 rfl) ?_
        refine lv_aload_n hx hb dX12_again_63 rfl (lv_at hl 1 rfl) ?_
        refine va_get hx hb hts hinX12 hown hK hP 0 rfl rfl 27 (by decide) k6 (fun _ h => h) rfl dX12_again_64 ?_
        refine z_bipush hx hb dX12_again_67 (by decide) ?_
        refine lv_iload_n hx hb dX12_again_69 rfl (lv_at hl 2 rfl) ?_
        refine z_imul hx hb dX12_again_70 ?_
        refine lv_iload_n hx hb dX12_again_71 rfl (lv_at hl 0 rfl) ?_
        refine z_iadd hx hb dX12_again_72 ?_
        refine z_iald hx hb hK hP 7 0 rfl rfl (by omega) (by decide) dX12_again_73 ?_
        refine z_iast hx hb hK hP hD hS 1 0 rfl rfl (by omega) (by decide) dX12_again_74 (fun H locs hP hD hS => ?_)
        have hP : va_P D vwCl [(m0, .inr (11, [.ref m_read, zi rl, zi rp, .ref m_gut, zi gl, zi gp, zi gx, zi gy, .ref m_text, zi tn, zi (MKm (2 * sq)), .ref m_boat, .ref m_coins, zi vw, zi vm, zi vn, .ref m_rest, .ref m_ends, zl vc, .ref m_chan, .ref m_spl, zi fs, zi (MKm ((2 * sq) + 1)), .ref m_rf, .ref m_rr, .ref m_ik, .ref m_km, .ref m_kb, .ref m_kc, .ref m_kf, .ref m_kr])), (m_boat, .inl (y 0, 42, .inl (cI (iu B1 k (MKb ((42 * sq) + k)))))), (m_coins, .inl (y 0, 144, .inl (cI MC))), (m_rf, .inl (y 0, 12, .inl (cI MF))), (m_rr, .inl (y 2, 12, .inl (cI MRd))), (m_ik, .inl (y 2, 2, .inl (cI MIk))), (m_km, .inl (y 0, 4, .inl (cI MKm))), (m_kb, .inl (y 0, 84, .inl (cI MKb))), (m_kc, .inl (y 0, 288, .inl (cI MKc))), (m_kf, .inl (y 0, 24, .inl (cI MKf))), (m_kr, .inl (y 2, 24, .inl (cI MKr)))] H := hP
        have hD : va_D A [(m0, .inr (11, [.ref m_read, zi rl, zi rp, .ref m_gut, zi gl, zi gp, zi gx, zi gy, .ref m_text, zi tn, zi (MKm (2 * sq)), .ref m_boat, .ref m_coins, zi vw, zi vm, zi vn, .ref m_rest, .ref m_ends, zl vc, .ref m_chan, .ref m_spl, zi fs, zi (MKm ((2 * sq) + 1)), .ref m_rf, .ref m_rr, .ref m_ik, .ref m_km, .ref m_kb, .ref m_kc, .ref m_kf, .ref m_kr])), (m_boat, .inl (y 0, 42, .inl (cI (iu B1 k (MKb ((42 * sq) + k)))))), (m_coins, .inl (y 0, 144, .inl (cI MC))), (m_rf, .inl (y 0, 12, .inl (cI MF))), (m_rr, .inl (y 2, 12, .inl (cI MRd))), (m_ik, .inl (y 2, 2, .inl (cI MIk))), (m_km, .inl (y 0, 4, .inl (cI MKm))), (m_kb, .inl (y 0, 84, .inl (cI MKb))), (m_kc, .inl (y 0, 288, .inl (cI MKc))), (m_kf, .inl (y 0, 24, .inl (cI MKf))), (m_kr, .inl (y 2, 24, .inl (cI MKr)))] := hD
        refine z_iinc (k := 0) (lv' := [(2, zi (k + 1)), (0, .ref m0), (1, zi sq)]) hx hb dX12_again_75 hl rfl (by decide) rfl (fun ls hl => ?_)
        refine lv_goto (tgt := 52) hx hb dX12_again_78 (by decide) ?_
        exact ih52 (k + 1, iu B1 k (MKb ((42 * sq) + k))) _ _ _ (by first | (dsimp only; omega) | omega) ⟨⟨by omega, iu_fillv hi52.2 rfl⟩, lv_sub hl [0, 1, 2] rfl, hP.sub [0, 1, 2, 3, 4, 5, 6, 7, 8, 9, 10] rfl, hD.sub [0, 1, 2, 3, 4, 5, 6, 7, 8, 9, 10] (by decide) rfl, hS⟩
    · exfalso; omega
  · exfalso; omega
set_option maxHeartbeats 8000000 in
set_option maxRecDepth 100000 in
theorem c_X12_count (l : Launch) (D : va_G) (y : Nat → ClassId) (m0 : Nat) (m_read : Nat) (rl : Int) (rp : Int) (m_gut : Nat) (gl : Int) (gp : Int) (gx : Int) (gy : Int) (m_text : Nat) (tn : Int) (fn : Int) (m_boat : Nat) (m_coins : Nat) (vw : Int) (vm : Int) (vn : Int) (m_rest : Nat) (m_ends : Nat) (vc : Int) (m_chan : Nat) (m_spl : Nat) (fs : Int) (rn : Int) (m_rf : Nat) (m_rr : Nat) (m_ik : Nat) (m_km : Nat) (m_kb : Nat) (m_kc : Nat) (m_kf : Nat) (m_kr : Nat) (MB : Int → Int) (MC : Int → Int) (MF : Int → Int) (MRd : Int → Int) (wq : Int) (hM : mbOK fn MB MC) (hr9 : rOK rn MF MRd) (hwq : rI wq) : Met l yX12_count wsX12_count ({ frames := 1, cells := 0, slots := 0, locals := 22 } : Room) (pPc D y [(m0, .inr (11, [.ref m_read, zi rl, zi rp, .ref m_gut, zi gl, zi gp, zi gx, zi gy, .ref m_text, zi tn, zi fn, .ref m_boat, .ref m_coins, zi vw, zi vm, zi vn, .ref m_rest, .ref m_ends, zl vc, .ref m_chan, .ref m_spl, zi fs, zi rn, .ref m_rf, .ref m_rr, .ref m_ik, .ref m_km, .ref m_kb, .ref m_kc, .ref m_kf, .ref m_kr])), (m_boat, .inl (y 0, 42, .inl (cI MB))), (m_coins, .inl (y 0, 144, .inl (cI MC))), (m_rf, .inl (y 0, 12, .inl (cI MF))), (m_rr, .inl (y 2, 12, .inl (cI MRd)))] [.ref m0, zi wq]) (qV (zi (cntV tn fn (sgI (fun b => MB (7 * b + 6)) fn) rn (popI (rset MRd rn)) wq))) 0 0 (fun _ => False) := by
  refine P_of (own := RX12) (cc := cX12_count) (maxL := 4) (ret := some .int) (by decide) rfl rfl (Nat.le_of_ble_eq_true rfl) (fun p e s m below meth c ls hx hb hr hC hlocks hPr hG hl => ?_)
  have hC0 := hC
  obtain ⟨-, -, hml, hown, hts⟩ := hC0
  have hK := hG.1
  have hinX12 : ∀ w ∈ wsX120, w ∈ wsX12_count := fun _ h => List.mem_cons_of_mem _ (List.mem_append_right _ h)
  have k1 := hts (.fieldLink RX12 114 "BoatsOfPaperModel" "boats" "I") (List.mem_of_getElem? (i := 1) rfl)
  have k2 := hts (.fieldLink RX12 19 "BoatsOfPaperModel" "boat" "[I") (List.mem_of_getElem? (i := 2) rfl)
  have k3 := hts (.fieldLink RX12 82 "BoatsOfPaperModel" "length" "I") (List.mem_of_getElem? (i := 3) rfl)
  have k4 := hts (.fieldLink RX12 241 "BoatsOfPaperModel" "runs" "I") (List.mem_of_getElem? (i := 4) rfl)
  have hl : lv_has ls 4 [(0, .ref m0), (1, zi wq)] := hl
  have qn := hr9.1
  have qr : ∀ k : Int, 0 ≤ k → k < rn → MRd k = 0 ∨ MRd k = 1 := fun k a b => (hr9.2 k a b).2
  have qf := hM.1
  refine z_iconst hx hb dX12_count_0 ?_
  refine lv_istore_n (lv' := [(2, zi 0), (0, .ref m0), (1, zi wq)]) hx hb dX12_count_1 rfl hl (by decide) rfl (fun ls hl => ?_)
  refine z_iconst hx hb dX12_count_2 ?_
  refine lv_istore_n (lv' := [(3, zi 0), (2, zi 0), (0, .ref m0), (1, zi wq)]) hx hb dX12_count_3 rfl hl (by decide) rfl (fun ls hl => ?_)
  refine z_loop (σ := Int × Int) (fun x9 H lc ls => match x9 with | (v, k) => ((0 ≤ k ∧ k ≤ fn) ∧ v = sgI (fun b => MB (7 * b + 6)) k) ∧ lv_has ls 4 [(3, zi k), (2, zi v), (0, .ref m0), (1, zi wq)] ∧ H = s.heap ∧ lc = []) (fun x9  => match x9 with | (v, k) => ((fn - k).toNat)) ?_ (0, 0) ⟨⟨by omega, rfl⟩, lv_sub hl [0, 1, 2, 3] rfl, rfl, rfl⟩
  rintro ⟨v, k⟩ H lc ls ⟨hi4, hl, rfl, rfl⟩ ih4
  refine lv_iload_n hx hb dX12_count_4 rfl (lv_at hl 0 rfl) ?_
  refine lv_aload_n hx hb dX12_count_5 rfl (lv_at hl 2 rfl) ?_
  refine va_get hx hb hts hinX12 hown hK hPr 0 rfl rfl 10 (by decide) k1 (fun _ h => h) rfl dX12_count_6 ?_
  refine z_icmp_ge (tgt := 33) hx hb (by omega) (by omega) dX12_count_9 (by decide) (fun c_9 => ?_) (fun c_9 => ?_)
  ·
    have v9 : v = sgI (fun b => MB (7 * b + 6)) fn := (by rw [hi4.2, show k = fn by omega])
    refine lv_iload_n hx hb dX12_count_33 rfl (lv_at hl 3 rfl) ?_
    by_cases c34_0 : wq = 0
    · refine lv_tableIn (off := 34) (tgt := 68) hx hb dX12_count_34 (by rw [iI_t (by omega), c34_0]; decide) (by rw [iI_t (by omega), c34_0]; decide) (by rw [iI_t (by omega), c34_0]; rfl) (by decide) ?_
      refine lv_aload_n hx hb dX12_count_68 rfl (lv_at hl 2 rfl) ?_
      refine va_get hx hb hts hinX12 hown hK hPr 0 rfl rfl 9 (by decide) k3 (fun _ h => h) rfl dX12_count_69 ?_
      exact z_iret0 hx hb hr hlocks (by unfold cntV; (repeat' split) <;> omega) dX12_count_72
    by_cases c34_1 : wq = 1
    · refine lv_tableIn (off := 39) (tgt := 73) hx hb dX12_count_34 (by rw [iI_t (by omega), c34_1]; decide) (by rw [iI_t (by omega), c34_1]; decide) (by rw [iI_t (by omega), c34_1]; rfl) (by decide) ?_
      refine lv_aload_n hx hb dX12_count_73 rfl (lv_at hl 2 rfl) ?_
      refine va_get hx hb hts hinX12 hown hK hPr 0 rfl rfl 10 (by decide) k1 (fun _ h => h) rfl dX12_count_74 ?_
      exact z_iret0 hx hb hr hlocks (by unfold cntV; (repeat' split) <;> omega) dX12_count_77
    by_cases c34_2 : wq = 2
    · refine lv_tableIn (off := 44) (tgt := 78) hx hb dX12_count_34 (by rw [iI_t (by omega), c34_2]; decide) (by rw [iI_t (by omega), c34_2]; decide) (by rw [iI_t (by omega), c34_2]; rfl) (by decide) ?_
      refine lv_iload_n hx hb dX12_count_78 rfl (lv_at hl 1 rfl) ?_
      exact z_iret0 hx hb hr hlocks (by unfold cntV; (repeat' split) <;> omega) dX12_count_79
    by_cases c34_3 : wq = 3
    · refine lv_tableIn (off := 46) (tgt := 80) hx hb dX12_count_34 (by rw [iI_t (by omega), c34_3]; decide) (by rw [iI_t (by omega), c34_3]; decide) (by rw [iI_t (by omega), c34_3]; rfl) (by decide) ?_
      refine lv_aload_n hx hb dX12_count_80 rfl (lv_at hl 2 rfl) ?_
      refine va_get hx hb hts hinX12 hown hK hPr 0 rfl rfl 22 (by decide) k4 (fun _ h => h) rfl dX12_count_81 ?_
      exact z_iret0 hx hb hr hlocks (by unfold cntV; (repeat' split) <;> omega) dX12_count_84
    by_cases c34_4 : wq = 4
    · refine lv_tableIn (off := 51) (tgt := 85) hx hb dX12_count_34 (by rw [iI_t (by omega), c34_4]; decide) (by rw [iI_t (by omega), c34_4]; decide) (by rw [iI_t (by omega), c34_4]; rfl) (by decide) ?_
      refine lv_aload_n hx hb dX12_count_85 rfl (lv_at hl 2 rfl) ?_
      refine z_pV (As := []) (rest := []) hC (c_X12_reds l D y m0 m_read rl rp m_gut gl gp gx gy m_text tn fn m_boat m_coins vw vm vn m_rest m_ends vc m_chan m_spl fs rn m_rf m_rr m_ik m_km m_kb m_kc m_kf m_kr MF MRd (by first | assumption | omega)) (cwV 0 hts gX12_count_X12_reds rfl rfl rfl (by decide +kernel) ⟨Nat.le_of_ble_eq_true rfl, Nat.le_of_ble_eq_true rfl⟩) hG (hPr.sub (ws' := [(m0, .inr (11, [.ref m_read, zi rl, zi rp, .ref m_gut, zi gl, zi gp, zi gx, zi gy, .ref m_text, zi tn, zi fn, .ref m_boat, .ref m_coins, zi vw, zi vm, zi vn, .ref m_rest, .ref m_ends, zl vc, .ref m_chan, .ref m_spl, zi fs, zi rn, .ref m_rf, .ref m_rr, .ref m_ik, .ref m_km, .ref m_kb, .ref m_kc, .ref m_kf, .ref m_kr])), (m_rf, .inl (y 0, 12, .inl (cI MF))), (m_rr, .inl (y 2, 12, .inl (cI MRd)))]) [0, 3, 4] rfl) 0 rfl rfl rfl hl.1 rfl (Nat.le_of_ble_eq_true rfl) dX12_count_86 ⟨Nat.le_of_ble_eq_true rfl, Nat.le_of_ble_eq_true rfl⟩ ?_
      exact z_iret0 hx hb hr hlocks (by unfold cntV; (repeat' split) <;> omega) dX12_count_89
    refine lv_tableOut (tgt := 90) hx hb dX12_count_34 (by rw [iI_t (by omega)]; omega) (by decide) ?_
    refine z_bipush hx hb dX12_count_90 (by decide) ?_
    exact z_iret0 hx hb hr hlocks (by unfold cntV; (repeat' split) <;> omega) dX12_count_92
  ·
    refine lv_iload_n hx hb dX12_count_12 rfl (lv_at hl 1 rfl) ?_
    refine lv_aload_n hx hb dX12_count_13 rfl (lv_at hl 2 rfl) ?_
    refine va_get hx hb hts hinX12 hown hK hPr 0 rfl rfl 11 (by decide) k2 (fun _ h => h) rfl dX12_count_14 ?_
    refine z_bipush hx hb dX12_count_17 (by decide) ?_
    refine lv_iload_n hx hb dX12_count_19 rfl (lv_at hl 0 rfl) ?_
    refine z_imul hx hb dX12_count_20 ?_
    refine z_bipush hx hb dX12_count_21 (by decide) ?_
    refine z_iadd hx hb dX12_count_23 ?_
    refine z_iald hx hb hK hPr 1 0 rfl rfl (by omega) (by decide) dX12_count_24 ?_
    refine z_iadd hx hb dX12_count_25 ?_
    refine lv_istore_n (lv' := [(2, zi (v + (MB ((7 * k) + 6)))), (3, zi k), (0, .ref m0), (1, zi wq)]) hx hb dX12_count_26 rfl hl (by decide) rfl (fun ls hl => ?_)
    refine z_iinc (k := 1) (lv' := [(3, zi (k + 1)), (2, zi (v + (MB ((7 * k) + 6)))), (0, .ref m0), (1, zi wq)]) hx hb dX12_count_27 hl rfl (by decide) rfl (fun ls hl => ?_)
    refine lv_goto (tgt := 4) hx hb dX12_count_30 (by decide) ?_
    exact ih4 (v + (MB ((7 * k) + 6)), k + 1) _ _ _ (by first | (dsimp only; omega) | omega) ⟨⟨by omega, by rw [sgI_s _ hi4.1.1, ← hi4.2]⟩, lv_sub hl [0, 1, 2, 3] rfl, rfl, rfl⟩
