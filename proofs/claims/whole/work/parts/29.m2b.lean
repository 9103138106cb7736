set_option maxHeartbeats 8000000 in
set_option maxRecDepth 100000 in
theorem c_X12_layOrders (l : Launch) (D : va_G) (y : Nat → ClassId) (m0 : Nat) (m_read : Nat) (rl : Int) (rp : Int) (m_gut : Nat) (gl : Int) (gp : Int) (gx : Int) (gy : Int) (m_text : Nat) (tn : Int) (fn : Int) (m_boat : Nat) (m_coins : Nat) (vw : Int) (vm : Int) (vn : Int) (m_rest : Nat) (m_ends : Nat) (vc : Int) (m_chan : Nat) (m_spl : Nat) (fs : Int) (rn : Int) (m_rf : Nat) (m_rr : Nat) (m_ik : Nat) (m_km : Nat) (m_kb : Nat) (m_kc : Nat) (m_kf : Nat) (m_kr : Nat) (MB : Int → Int) (MC : Int → Int) (MRe : Int → Int) (bq : Int) (hM : mbOK fn MB MC) (hbq : 0 ≤ bq ∧ bq < fn) (sz : Nat) : Met l yX12_layOrders wsX12_layOrders ({ frames := 3, cells := 0, slots := 0, locals := 71 } : Room) (wPc D y [] [(m0, .inr (11, [.ref m_read, zi rl, zi rp, .ref m_gut, zi gl, zi gp, zi gx, zi gy, .ref m_text, zi tn, zi fn, .ref m_boat, .ref m_coins, zi vw, zi vm, zi vn, .ref m_rest, .ref m_ends, zl vc, .ref m_chan, .ref m_spl, zi fs, zi rn, .ref m_rf, .ref m_rr, .ref m_ik, .ref m_km, .ref m_kb, .ref m_kc, .ref m_kf, .ref m_kr])), (m_boat, .inl (y 0, 42, .inl (cI MB))), (m_coins, .inl (y 0, 144, .inl (cI MC))), (m_rest, .inl (y 0, 256, .inl (cI MRe)))] sz [.ref m0, zi bq]) (wQ D (fun (x9 : Int × Int × Int × (Int → Int)) => match x9 with | (vw2, vm2, vn2, MRe2) => some (zi (wV (okB (MB (7 * bq)) (MB (7 * bq + 1)) (MB (7 * bq + 2)) (MB (7 * bq + 3)) (MB (7 * bq + 6)) (mCI MC bq) (mCJ MC bq) (mCW MC bq)) (MB (7 * bq + 6)) 0))) (fun (x9 : Int × Int × Int × (Int → Int)) => match x9 with | (vw2, vm2, vn2, MRe2) => ∀ t : Int, 0 ≤ t → t ≤ 1 * 2 ^ (MB (7 * bq + 6)).toNat - 1 → MRe2 t = wV (okB (MB (7 * bq)) (MB (7 * bq + 1)) (MB (7 * bq + 2)) (MB (7 * bq + 3)) (MB (7 * bq + 6)) (mCI MC bq) (mCJ MC bq) (mCW MC bq)) (MB (7 * bq + 6)) t) (fun (x9 : Int × Int × Int × (Int → Int)) => match x9 with | (vw2, vm2, vn2, MRe2) => [(m0, .inr (11, [.ref m_read, zi rl, zi rp, .ref m_gut, zi gl, zi gp, zi gx, zi gy, .ref m_text, zi tn, zi fn, .ref m_boat, .ref m_coins, zi vw2, zi vm2, zi vn2, .ref m_rest, .ref m_ends, zl vc, .ref m_chan, .ref m_spl, zi fs, zi rn, .ref m_rf, .ref m_rr, .ref m_ik, .ref m_km, .ref m_kb, .ref m_kc, .ref m_kf, .ref m_kr])), (m_boat, .inl (y 0, 42, .inl (cI MB))), (m_coins, .inl (y 0, 144, .inl (cI MC))), (m_rest, .inl (y 0, 256, .inl (cI MRe2)))]) (va_A [(m0, .inr (11, [.ref m_read, zi rl, zi rp, .ref m_gut, zi gl, zi gp, zi gx, zi gy, .ref m_text, zi tn, zi fn, .ref m_boat, .ref m_coins, zi vw, zi vm, zi vn, .ref m_rest, .ref m_ends, zl vc, .ref m_chan, .ref m_spl, zi fs, zi rn, .ref m_rf, .ref m_rr, .ref m_ik, .ref m_km, .ref m_kb, .ref m_kc, .ref m_kf, .ref m_kr])), (m_boat, .inl (y 0, 42, .inl (cI MB))), (m_coins, .inl (y 0, 144, .inl (cI MC))), (m_rest, .inl (y 0, 256, .inl (cI MRe)))] sz)) 0 0 (va_A [(m0, .inr (11, [.ref m_read, zi rl, zi rp, .ref m_gut, zi gl, zi gp, zi gx, zi gy, .ref m_text, zi tn, zi fn, .ref m_boat, .ref m_coins, zi vw, zi vm, zi vn, .ref m_rest, .ref m_ends, zl vc, .ref m_chan, .ref m_spl, zi fs, zi rn, .ref m_rf, .ref m_rr, .ref m_ik, .ref m_km, .ref m_kb, .ref m_kc, .ref m_kf, .ref m_kr])), (m_boat, .inl (y 0, 42, .inl (cI MB))), (m_coins, .inl (y 0, 144, .inl (cI MC))), (m_rest, .inl (y 0, 256, .inl (cI MRe)))] sz) := by
  refine W_of (own := RX12) (cc := cX12_layOrders) (maxL := 5) (ret := some .int) (by decide) rfl rfl (Nat.le_of_ble_eq_true rfl) (fun p e s m below meth c ls A hx hb hr hC hlocks hin0 hR0 hN hP hD hA hG hl => ?_)
  have hC0 := hC
  obtain ⟨-, -, hml, hown, hts⟩ := hC0
  have hK := hG.1
  have hS : va_S A s.heap s.heap [] := va_S.rf
  have hPr := hR0
  have hinX12 : ∀ w ∈ wsX120, w ∈ wsX12_layOrders := fun _ h => List.mem_cons_of_mem _ (List.mem_append_right _ h)
  have k1 := hts (.fieldLink RX12 19 "BoatsOfPaperModel" "boat" "[I") (List.mem_of_getElem? (i := 1) rfl)
  have k2 := hts (.fieldLink RX12 25 "BoatsOfPaperModel" "rest" "[I") (List.mem_of_getElem? (i := 2) rfl)
  have hl : lv_has ls 5 [(0, .ref m0), (1, zi bq)] := hl
  have hB := hM.2 bq hbq.1 hbq.2
  obtain ⟨q1, q2, q3, q4, q5, q6, q7, q8, q9, qc⟩ := id hB
  have qf := hM.1
  have b2 := pow8 (k := MB (7 * bq + 6)) (by omega)
  have b1 := bOK_cells hB
  refine lv_aload_n hx hb dX12_layOrders_0 rfl (lv_at hl 0 rfl) ?_
  refine lv_iload_n hx hb dX12_layOrders_1 rfl (lv_at hl 1 rfl) ?_
  refine z_pV (As := [zi bq]) (rest := []) hC (c_X12_all l D y m0 m_read rl rp m_gut gl gp gx gy m_text tn fn m_boat m_coins vw vm vn m_rest m_ends vc m_chan m_spl fs rn m_rf m_rr m_ik m_km m_kb m_kc m_kf m_kr MB MC bq (by first | assumption | omega) (by first | assumption | omega)) (cwV 1 hts gX12_layOrders_X12_all rfl rfl rfl (by decide +kernel) ⟨Nat.le_of_ble_eq_true rfl, Nat.le_of_ble_eq_true rfl⟩) hG (hP.sub (ws' := [(m0, .inr (11, [.ref m_read, zi rl, zi rp, .ref m_gut, zi gl, zi gp, zi gx, zi gy, .ref m_text, zi tn, zi fn, .ref m_boat, .ref m_coins, zi vw, zi vm, zi vn, .ref m_rest, .ref m_ends, zl vc, .ref m_chan, .ref m_spl, zi fs, zi rn, .ref m_rf, .ref m_rr, .ref m_ik, .ref m_km, .ref m_kb, .ref m_kc, .ref m_kf, .ref m_kr])), (m_boat, .inl (y 0, 42, .inl (cI MB))), (m_coins, .inl (y 0, 144, .inl (cI MC)))]) [0, 1, 2] rfl) 0 rfl rfl rfl hl.1 rfl (Nat.le_of_ble_eq_true rfl) dX12_layOrders_2 ⟨Nat.le_of_ble_eq_true rfl, Nat.le_of_ble_eq_true rfl⟩ ?_
  refine lv_istore_n (lv' := [(2, zi (1 * 2 ^ (MB (7 * bq + 6)).toNat - 1)), (0, .ref m0), (1, zi bq)]) hx hb dX12_layOrders_5 rfl hl (by decide) rfl (fun ls hl => ?_)
  refine z_loop (σ := Int × Int × Int × Int × (Int → Int)) (fun x9 H lc ls => match x9 with | (k, w1, x1, z1, Y1) => ((-1 ≤ k ∧ k ≤ 1 * 2 ^ (MB (7 * bq + 6)).toNat - 1) ∧ ∀ t : Int, k < t → t ≤ 1 * 2 ^ (MB (7 * bq + 6)).toNat - 1 → Y1 t = wV (okB (MB (7 * bq)) (MB (7 * bq + 1)) (MB (7 * bq + 2)) (MB (7 * bq + 3)) (MB (7 * bq + 6)) (mCI MC bq) (mCJ MC bq) (mCW MC bq)) (MB (7 * bq + 6)) t) ∧ lv_has ls 5 [(2, zi k), (0, .ref m0), (1, zi bq)] ∧ va_P D vwCl [(m0, .inr (11, [.ref m_read, zi rl, zi rp, .ref m_gut, zi gl, zi gp, zi gx, zi gy, .ref m_text, zi tn, zi fn, .ref m_boat, .ref m_coins, zi w1, zi x1, zi z1, .ref m_rest, .ref m_ends, zl vc, .ref m_chan, .ref m_spl, zi fs, zi rn, .ref m_rf, .ref m_rr, .ref m_ik, .ref m_km, .ref m_kb, .ref m_kc, .ref m_kf, .ref m_kr])), (m_boat, .inl (y 0, 42, .inl (cI MB))), (m_coins, .inl (y 0, 144, .inl (cI MC))), (m_rest, .inl (y 0, 256, .inl (cI Y1)))] H ∧ va_D A [(m0, .inr (11, [.ref m_read, zi rl, zi rp, .ref m_gut, zi gl, zi gp, zi gx, zi gy, .ref m_text, zi tn, zi fn, .ref m_boat, .ref m_coins, zi w1, zi x1, zi z1, .ref m_rest, .ref m_ends, zl vc, .ref m_chan, .ref m_spl, zi fs, zi rn, .ref m_rf, .ref m_rr, .ref m_ik, .ref m_km, .ref m_kb, .ref m_kc, .ref m_kf, .ref m_kr])), (m_boat, .inl (y 0, 42, .inl (cI MB))), (m_coins, .inl (y 0, 144, .inl (cI MC))), (m_rest, .inl (y 0, 256, .inl (cI Y1)))] ∧ va_S A s.heap H lc) (fun x9  => match x9 with | (k, w1, x1, z1, Y1) => ((k + 1).toNat)) ?_ (1 * 2 ^ (MB (7 * bq + 6)).toNat - 1, vw, vm, vn, MRe) ⟨⟨by omega, fun t _ _ => by omega⟩, lv_sub hl [0, 1, 2] rfl, hP.sub [0, 1, 2, 3] rfl, hD.sub [0, 1, 2, 3] (by decide) rfl, hS⟩
  rintro ⟨k, w1, x1, z1, Y1⟩ H lc ls ⟨hi6, hl, hP, hD, hS⟩ ih6
  have hP : va_P D vwCl [(m0, .inr (11, [.ref m_read, zi rl, zi rp, .ref m_gut, zi gl, zi gp, zi gx, zi gy, .ref m_text, zi tn, zi fn, .ref m_boat, .ref m_coins, zi w1, zi x1, zi z1, .ref m_rest, .ref m_ends, zl vc, .ref m_chan, .ref m_spl, zi fs, zi rn, .ref m_rf, .ref m_rr, .ref m_ik, .ref m_km, .ref m_kb, .ref m_kc, .ref m_kf, .ref m_kr])), (m_boat, .inl (y 0, 42, .inl (cI MB))), (m_coins, .inl (y 0, 144, .inl (cI MC))), (m_rest, .inl (y 0, 256, .inl (cI Y1)))] H := hP
  have hD : va_D A [(m0, .inr (11, [.ref m_read, zi rl, zi rp, .ref m_gut, zi gl, zi gp, zi gx, zi gy, .ref m_text, zi tn, zi fn, .ref m_boat, .ref m_coins, zi w1, zi x1, zi z1, .ref m_rest, .ref m_ends, zl vc, .ref m_chan, .ref m_spl, zi fs, zi rn, .ref m_rf, .ref m_rr, .ref m_ik, .ref m_km, .ref m_kb, .ref m_kc, .ref m_kf, .ref m_kr])), (m_boat, .inl (y 0, 42, .inl (cI MB))), (m_coins, .inl (y 0, 144, .inl (cI MC))), (m_rest, .inl (y 0, 256, .inl (cI Y1)))] := hD
  refine lv_iload_n hx hb dX12_layOrders_6 rfl (lv_at hl 0 rfl) ?_
  refine z_if_lt (tgt := 105) hx hb (by omega) dX12_layOrders_7 (by decide) (fun c_7 => ?_) (fun c_7 => ?_)
  ·
    refine lv_aload_n hx hb dX12_layOrders_105 rfl (lv_at hl 1 rfl) ?_
    refine va_get hx hb hts hinX12 hown hK hP 0 rfl rfl 16 (by decide) k2 (fun _ h => h) rfl dX12_layOrders_106 ?_
    refine z_iconst hx hb dX12_layOrders_109 ?_
    refine z_iald hx hb hK hP 3 0 rfl rfl (by omega) (by decide) dX12_layOrders_110 ?_
    exact z_iretW hx hb hr hlocks (w1, x1, z1, Y1) (by show some (zi _) = some (zi _); rw [hi6.2 0 (by omega) (by omega)]) (fun t t0 t1 => hi6.2 t (by omega) t1) (hP.sub [0, 1, 2, 3] rfl) (hD.sub [0, 1, 2, 3] (by decide) rfl) hS dX12_layOrders_111
  ·
    have k0 : 0 ≤ k := by omega
    have b3 := bOK_set hB k
    refine lv_iload_n hx hb dX12_layOrders_10 rfl (lv_at hl 0 rfl) ?_
    refine lv_aload_n hx hb dX12_layOrders_11 rfl (lv_at hl 1 rfl) ?_
    refine lv_iload_n hx hb dX12_layOrders_12 rfl (lv_at hl 2 rfl) ?_
    refine z_pV (As := [zi bq]) (rest := [zi k]) hC (c_X12_all l D y m0 m_read rl rp m_gut gl gp gx gy m_text tn fn m_boat m_coins w1 x1 z1 m_rest m_ends vc m_chan m_spl fs rn m_rf m_rr m_ik m_km m_kb m_kc m_kf m_kr MB MC bq (by first | assumption | omega) (by first | assumption | omega)) (cwV 1 hts gX12_layOrders_X12_all rfl rfl rfl (by decide +kernel) ⟨Nat.le_of_ble_eq_true rfl, Nat.le_of_ble_eq_true rfl⟩) hG (hP.sub (ws' := [(m0, .inr (11, [.ref m_read, zi rl, zi rp, .ref m_gut, zi gl, zi gp, zi gx, zi gy, .ref m_text, zi tn, zi fn, .ref m_boat, .ref m_coins, zi w1, zi x1, zi z1, .ref m_rest, .ref m_ends, zl vc, .ref m_chan, .ref m_spl, zi fs, zi rn, .ref m_rf, .ref m_rr, .ref m_ik, .ref m_km, .ref m_kb, .ref m_kc, .ref m_kf, .ref m_kr])), (m_boat, .inl (y 0, 42, .inl (cI MB))), (m_coins, .inl (y 0, 144, .inl (cI MC)))]) [0, 1, 2] rfl) 0 rfl rfl rfl hl.1 rfl (Nat.le_of_ble_eq_true rfl) dX12_layOrders_13 ⟨Nat.le_of_ble_eq_true rfl, Nat.le_of_ble_eq_true rfl⟩ ?_
    refine z_icmp_ne (tgt := 23) hx hb (by omega) (by omega) dX12_layOrders_16 (by decide) (fun c_16 => ?_) (fun c_16 => ?_)
    ·
      refine z_iconst hx hb dX12_layOrders_23 ?_
      refine lv_istore_n (lv' := [(3, zi 0), (2, zi k), (0, .ref m0), (1, zi bq)]) hx hb dX12_layOrders_24 rfl hl (by decide) rfl (fun ls hl => ?_)
      refine z_iconst hx hb dX12_layOrders_25 ?_
      refine lv_istore (lv' := [(4, zi 0), (3, zi 0), (2, zi k), (0, .ref m0), (1, zi bq)]) hx hb dX12_layOrders_26 hl (by decide) rfl (fun ls hl => ?_)
      refine z_loop (σ := Int × Int) (fun x9 H lc ls => match x9 with | (vs, kc) => ((0 ≤ kc ∧ kc ≤ MB (7 * bq + 6)) ∧ vs = (if k = 1 * 2 ^ (MB (7 * bq + 6)).toNat - 1 then 1 else 0) + sgI (fun c => if k / 2 ^ c.toNat % 2 = 0 then wV (okB (MB (7 * bq)) (MB (7 * bq + 1)) (MB (7 * bq + 2)) (MB (7 * bq + 3)) (MB (7 * bq + 6)) (mCI MC bq) (mCJ MC bq) (mCW MC bq)) (MB (7 * bq + 6)) (bor k (1 * 2 ^ c.toNat)) else 0) kc) ∧ lv_has ls 5 [(4, zi kc), (3, zi vs), (2, zi k), (0, .ref m0), (1, zi bq)] ∧ va_P D vwCl [(m0, .inr (11, [.ref m_read, zi rl, zi rp, .ref m_gut, zi gl, zi gp, zi gx, zi gy, .ref m_text, zi tn, zi fn, .ref m_boat, .ref m_coins, zi w1, zi x1, zi z1, .ref m_rest, .ref m_ends, zl vc, .ref m_chan, .ref m_spl, zi fs, zi rn, .ref m_rf, .ref m_rr, .ref m_ik, .ref m_km, .ref m_kb, .ref m_kc, .ref m_kf, .ref m_kr])), (m_boat, .inl (y 0, 42, .inl (cI MB))), (m_coins, .inl (y 0, 144, .inl (cI MC))), (m_rest, .inl (y 0, 256, .inl (cI Y1)))] H ∧ va_D A [(m0, .inr (11, [.ref m_read, zi rl, zi rp, .ref m_gut, zi gl, zi gp, zi gx, zi gy, .ref m_text, zi tn, zi fn, .ref m_boat, .ref m_coins, zi w1, zi x1, zi z1, .ref m_rest, .ref m_ends, zl vc, .ref m_chan, .ref m_spl, zi fs, zi rn, .ref m_rf, .ref m_rr, .ref m_ik, .ref m_km, .ref m_kb, .ref m_kc, .ref m_kf, .ref m_kr])), (m_boat, .inl (y 0, 42, .inl (cI MB))), (m_coins, .inl (y 0, 144, .inl (cI MC))), (m_rest, .inl (y 0, 256, .inl (cI Y1)))] ∧ va_S A s.heap H lc) (fun x9  => match x9 with | (vs, kc) => ((MB (7 * bq + 6) - kc).toNat)) ?_ (0, 0) ⟨⟨by omega, by rw [sgI_0]; first | (rw [if_pos (by omega)]; omega) | (rw [if_neg (by omega)]; omega)⟩, lv_sub hl [0, 1, 2, 3, 4] rfl, hP.sub [0, 1, 2, 3] rfl, hD.sub [0, 1, 2, 3] (by decide) rfl, hS⟩
      rintro ⟨vs, kc⟩ H lc ls ⟨hi28, hl, hP, hD, hS⟩ ih28
      have hP : va_P D vwCl [(m0, .inr (11, [.ref m_read, zi rl, zi rp, .ref m_gut, zi gl, zi gp, zi gx, zi gy, .ref m_text, zi tn, zi fn, .ref m_boat, .ref m_coins, zi w1, zi x1, zi z1, .ref m_rest, .ref m_ends, zl vc, .ref m_chan, .ref m_spl, zi fs, zi rn, .ref m_rf, .ref m_rr, .ref m_ik, .ref m_km, .ref m_kb, .ref m_kc, .ref m_kf, .ref m_kr])), (m_boat, .inl (y 0, 42, .inl (cI MB))), (m_coins, .inl (y 0, 144, .inl (cI MC))), (m_rest, .inl (y 0, 256, .inl (cI Y1)))] H := hP
      have hD : va_D A [(m0, .inr (11, [.ref m_read, zi rl, zi rp, .ref m_gut, zi gl, zi gp, zi gx, zi gy, .ref m_text, zi tn, zi fn, .ref m_boat, .ref m_coins, zi w1, zi x1, zi z1, .ref m_rest, .ref m_ends, zl vc, .ref m_chan, .ref m_spl, zi fs, zi rn, .ref m_rf, .ref m_rr, .ref m_ik, .ref m_km, .ref m_kb, .ref m_kc, .ref m_kf, .ref m_kr])), (m_boat, .inl (y 0, 42, .inl (cI MB))), (m_coins, .inl (y 0, 144, .inl (cI MC))), (m_rest, .inl (y 0, 256, .inl (cI Y1)))] := hD
      refine lv_iload hx hb dX12_layOrders_28 (lv_at hl 0 rfl) ?_
      refine lv_aload_n hx hb dX12_layOrders_30 rfl (lv_at hl 3 rfl) ?_
      refine va_get hx hb hts hinX12 hown hK hP 0 rfl rfl 11 (by decide) k1 (fun _ h => h) rfl dX12_layOrders_31 ?_
      refine z_bipush hx hb dX12_layOrders_34 (by decide) ?_
      refine lv_iload_n hx hb dX12_layOrders_36 rfl (lv_at hl 4 rfl) ?_
      refine z_imul hx hb dX12_layOrders_37 ?_
      refine z_bipush hx hb dX12_layOrders_38 (by decide) ?_
      refine z_iadd hx hb dX12_layOrders_40 ?_
      refine z_iald hx hb hK hP 1 0 rfl rfl (by omega) (by decide) dX12_layOrders_41 ?_
      refine z_icmp_ge (tgt := 78) hx hb (by omega) (by omega) dX12_layOrders_42 (by decide) (fun c_42 => ?_) (fun c_42 => ?_)
      ·
        refine lv_aload_n hx hb dX12_layOrders_78 rfl (lv_at hl 3 rfl) ?_
        refine va_get hx hb hts hinX12 hown hK hP 0 rfl rfl 16 (by decide) k2 (fun _ h => h) rfl dX12_layOrders_79 ?_
        refine lv_iload_n hx hb dX12_layOrders_82 rfl (lv_at hl 2 rfl) ?_
        refine lv_aload_n hx hb dX12_layOrders_83 rfl (lv_at hl 3 rfl) ?_
        refine lv_iload_n hx hb dX12_layOrders_84 rfl (lv_at hl 4 rfl) ?_
        refine z_iconst hx hb dX12_layOrders_85 ?_
        refine lv_iload_n hx hb dX12_layOrders_86 rfl (lv_at hl 2 rfl) ?_
        refine z_wV (As := [zi bq, zi 0, zi k]) (rest := [zi k, .ref m_rest]) (wc := [(m0, .inr (11, [.ref m_read, zi rl, zi rp, .ref m_gut, zi gl, zi gp, zi gx, zi gy, .ref m_text, zi tn, zi fn, .ref m_boat, .ref m_coins, zi w1, zi x1, zi z1, .ref m_rest, .ref m_ends, zl vc, .ref m_chan, .ref m_spl, zi fs, zi rn, .ref m_rf, .ref m_rr, .ref m_ik, .ref m_km, .ref m_kb, .ref m_kc, .ref m_kf, .ref m_kr])), (m_boat, .inl (y 0, 42, .inl (cI MB))), (m_coins, .inl (y 0, 144, .inl (cI MC)))]) (wrest := [(m_rest, .inl (y 0, 256, .inl (cI Y1)))]) hC (c_X12_isUnder l D y m0 m_read rl rp m_gut gl gp gx gy m_text tn fn m_boat m_coins w1 x1 z1 m_rest m_ends vc m_chan m_spl fs rn m_rf m_rr m_ik m_km m_kb m_kc m_kf m_kr MB MC bq 0 k (by first | assumption | omega) (by first | assumption | omega) (by first | assumption | omega) (by first | assumption | omega) _) (cwV 3 hts gX12_layOrders_X12_isUnder rfl rfl rfl (by decide +kernel) ⟨Nat.le_of_ble_eq_true rfl, Nat.le_of_ble_eq_true rfl⟩) hG hP hD hS hA [0, 1, 2] [3] rfl rfl (by decide) (by decide) (by decide) va_P_nil ro_nil 0 rfl rfl rfl hl.1 rfl (Nat.le_of_ble_eq_true rfl) dX12_layOrders_87 ⟨Nat.le_of_ble_eq_true rfl, Nat.le_of_ble_eq_true rfl⟩ (fun u9 H locs hw_1 hP hD hS => ?_)
        have hw_1 : True := hw_1
        have hP : va_P D vwCl [(m_rest, .inl (y 0, 256, .inl (cI Y1))), (m0, .inr (11, [.ref m_read, zi rl, zi rp, .ref m_gut, zi gl, zi gp, zi gx, zi gy, .ref m_text, zi tn, zi fn, .ref m_boat, .ref m_coins, zi (bs (mCW MC bq) (MB (7 * bq + 6)) k), zi (bs (pullC ((MB (7 * bq)) - 2 * (MB (7 * bq + 3))) (mCI MC bq) (mCW MC bq)) (MB (7 * bq + 6)) k), zi (bs (pullC ((MB (7 * bq + 1)) - 2 * (MB (7 * bq + 3))) (mCJ MC bq) (mCW MC bq)) (MB (7 * bq + 6)) k), .ref m_rest, .ref m_ends, zl vc, .ref m_chan, .ref m_spl, zi fs, zi rn, .ref m_rf, .ref m_rr, .ref m_ik, .ref m_km, .ref m_kb, .ref m_kc, .ref m_kf, .ref m_kr])), (m_boat, .inl (y 0, 42, .inl (cI MB))), (m_coins, .inl (y 0, 144, .inl (cI MC)))] H := hP
        have hD : va_D A [(m_rest, .inl (y 0, 256, .inl (cI Y1))), (m0, .inr (11, [.ref m_read, zi rl, zi rp, .ref m_gut, zi gl, zi gp, zi gx, zi gy, .ref m_text, zi tn, zi fn, .ref m_boat, .ref m_coins, zi (bs (mCW MC bq) (MB (7 * bq + 6)) k), zi (bs (pullC ((MB (7 * bq)) - 2 * (MB (7 * bq + 3))) (mCI MC bq) (mCW MC bq)) (MB (7 * bq + 6)) k), zi (bs (pullC ((MB (7 * bq + 1)) - 2 * (MB (7 * bq + 3))) (mCJ MC bq) (mCW MC bq)) (MB (7 * bq + 6)) k), .ref m_rest, .ref m_ends, zl vc, .ref m_chan, .ref m_spl, zi fs, zi rn, .ref m_rf, .ref m_rr, .ref m_ik, .ref m_km, .ref m_kb, .ref m_kc, .ref m_kf, .ref m_kr])), (m_boat, .inl (y 0, 42, .inl (cI MB))), (m_coins, .inl (y 0, 144, .inl (cI MC)))] := hD
        refine z_ifB_eq (tgt := 97) hx hb dX12_layOrders_90 (by decide) (fun c_90 => ?_) (fun c_90 => ?_)
        ·
          refine lv_iload_n hx hb dX12_layOrders_97 rfl (lv_at hl 1 rfl) ?_
          refine z_iast hx hb hK hP hD hS 0 0 rfl rfl (by omega) (by decide) dX12_layOrders_98 (fun H locs hP hD hS => ?_)
          have hP : va_P D vwCl [(m_rest, .inl (y 0, 256, .inl (cI (iu Y1 k vs)))), (m0, .inr (11, [.ref m_read, zi rl, zi rp, .ref m_gut, zi gl, zi gp, zi gx, zi gy, .ref m_text, zi tn, zi fn, .ref m_boat, .ref m_coins, zi (bs (mCW MC bq) (MB (7 * bq + 6)) k), zi (bs (pullC ((MB (7 * bq)) - 2 * (MB (7 * bq + 3))) (mCI MC bq) (mCW MC bq)) (MB (7 * bq + 6)) k), zi (bs (pullC ((MB (7 * bq + 1)) - 2 * (MB (7 * bq + 3))) (mCJ MC bq) (mCW MC bq)) (MB (7 * bq + 6)) k), .ref m_rest, .ref m_ends, zl vc, .ref m_chan, .ref m_spl, zi fs, zi rn, .ref m_rf, .ref m_rr, .ref m_ik, .ref m_km, .ref m_kb, .ref m_kc, .ref m_kf, .ref m_kr])), (m_boat, .inl (y 0, 42, .inl (cI MB))), (m_coins, .inl (y 0, 144, .inl (cI MC)))] H := hP
          have hD : va_D A [(m_rest, .inl (y 0, 256, .inl (cI (iu Y1 k vs)))), (m0, .inr (11, [.ref m_read, zi rl, zi rp, .ref m_gut, zi gl, zi gp, zi gx, zi gy, .ref m_text, zi tn, zi fn, .ref m_boat, .ref m_coins, zi (bs (mCW MC bq) (MB (7 * bq + 6)) k), zi (bs (pullC ((MB (7 * bq)) - 2 * (MB (7 * bq + 3))) (mCI MC bq) (mCW MC bq)) (MB (7 * bq + 6)) k), zi (bs (pullC ((MB (7 * bq + 1)) - 2 * (MB (7 * bq + 3))) (mCJ MC bq) (mCW MC bq)) (MB (7 * bq + 6)) k), .ref m_rest, .ref m_ends, zl vc, .ref m_chan, .ref m_spl, zi fs, zi rn, .ref m_rf, .ref m_rr, .ref m_ik, .ref m_km, .ref m_kb, .ref m_kc, .ref m_kf, .ref m_kr])), (m_boat, .inl (y 0, 42, .inl (cI MB))), (m_coins, .inl (y 0, 144, .inl (cI MC)))] := hD
          refine z_iinc (k := 2) (lv' := [(2, zi (k + (-1))), (4, zi kc), (3, zi vs), (0, .ref m0), (1, zi bq)]) hx hb dX12_layOrders_99 hl rfl (by decide) rfl (fun ls hl => ?_)
          refine lv_goto (tgt := 6) hx hb dX12_layOrders_102 (by decide) ?_
          exact ih6 (k + (-1), bs (mCW MC bq) (MB (7 * bq + 6)) k, bs (pullC ((MB (7 * bq)) - 2 * (MB (7 * bq + 3))) (mCI MC bq) (mCW MC bq)) (MB (7 * bq + 6)) k, bs (pullC ((MB (7 * bq + 1)) - 2 * (MB (7 * bq + 3))) (mCJ MC bq) (mCW MC bq)) (MB (7 * bq + 6)) k, iu Y1 k vs) _ _ _ (by first | (dsimp only; omega) | omega) ⟨⟨by omega, iu_down hi6.2 (by rw [wV_s _ (by omega) k0 (by omega)]; first | (rw [if_pos (und_0.mp (by assumption))]; done) | (rw [if_neg (fun z => absurd (und_0.mpr z) (by assumption)), hi28.2, show kc = MB (7 * bq + 6) by omega]; by_cases ck : k = 1 * 2 ^ (MB (7 * bq + 6)).toNat - 1 <;> first | (rw [if_pos ck, if_pos (by omega), full_sum (by omega) k0 ck]; omega) | (rw [if_neg ck, if_neg (by omega), Int.zero_add])))⟩, lv_sub hl [0, 3, 4] rfl, hP.sub [1, 2, 3, 0] rfl, hD.sub [1, 2, 3, 0] (by decide) rfl, hS⟩
        ·
          refine z_iconst hx hb dX12_layOrders_93 ?_
          refine lv_goto (tgt := 98) hx hb dX12_layOrders_94 (by decide) ?_
          refine z_iast hx hb hK hP hD hS 0 0 rfl rfl (by omega) (by decide) dX12_layOrders_98 (fun H locs hP hD hS => ?_)
          have hP : va_P D vwCl [(m_rest, .inl (y 0, 256, .inl (cI (iu Y1 k 0)))), (m0, .inr (11, [.ref m_read, zi rl, zi rp, .ref m_gut, zi gl, zi gp, zi gx, zi gy, .ref m_text, zi tn, zi fn, .ref m_boat, .ref m_coins, zi (bs (mCW MC bq) (MB (7 * bq + 6)) k), zi (bs (pullC ((MB (7 * bq)) - 2 * (MB (7 * bq + 3))) (mCI MC bq) (mCW MC bq)) (MB (7 * bq + 6)) k), zi (bs (pullC ((MB (7 * bq + 1)) - 2 * (MB (7 * bq + 3))) (mCJ MC bq) (mCW MC bq)) (MB (7 * bq + 6)) k), .ref m_rest, .ref m_ends, zl vc, .ref m_chan, .ref m_spl, zi fs, zi rn, .ref m_rf, .ref m_rr, .ref m_ik, .ref m_km, .ref m_kb, .ref m_kc, .ref m_kf, .ref m_kr])), (m_boat, .inl (y 0, 42, .inl (cI MB))), (m_coins, .inl (y 0, 144, .inl (cI MC)))] H := hP
          have hD : va_D A [(m_rest, .inl (y 0, 256, .inl (cI (iu Y1 k 0)))), (m0, .inr (11, [.ref m_read, zi rl, zi rp, .ref m_gut, zi gl, zi gp, zi gx, zi gy, .ref m_text, zi tn, zi fn, .ref m_boat, .ref m_coins, zi (bs (mCW MC bq) (MB (7 * bq + 6)) k), zi (bs (pullC ((MB (7 * bq)) - 2 * (MB (7 * bq + 3))) (mCI MC bq) (mCW MC bq)) (MB (7 * bq + 6)) k), zi (bs (pullC ((MB (7 * bq + 1)) - 2 * (MB (7 * bq + 3))) (mCJ MC bq) (mCW MC bq)) (MB (7 * bq + 6)) k), .ref m_rest, .ref m_ends, zl vc, .ref m_chan, .ref m_spl, zi fs, zi rn, .ref m_rf, .ref m_rr, .ref m_ik, .ref m_km, .ref m_kb, .ref m_kc, .ref m_kf, .ref m_kr])), (m_boat, .inl (y 0, 42, .inl (cI MB))), (m_coins, .inl (y 0, 144, .inl (cI MC)))] := hD
          refine z_iinc (k := 2) (lv' := [(2, zi (k + (-1))), (4, zi kc), (3, zi vs), (0, .ref m0), (1, zi bq)]) hx hb dX12_layOrders_99 hl rfl (by decide) rfl (fun ls hl => ?_)
          refine lv_goto (tgt := 6) hx hb dX12_layOrders_102 (by decide) ?_
          exact ih6 (k + (-1), bs (mCW MC bq) (MB (7 * bq + 6)) k, bs (pullC ((MB (7 * bq)) - 2 * (MB (7 * bq + 3))) (mCI MC bq) (mCW MC bq)) (MB (7 * bq + 6)) k, bs (pullC ((MB (7 * bq + 1)) - 2 * (MB (7 * bq + 3))) (mCJ MC bq) (mCW MC bq)) (MB (7 * bq + 6)) k, iu Y1 k 0) _ _ _ (by first | (dsimp only; omega) | omega) ⟨⟨by omega, iu_down hi6.2 (by rw [wV_s _ (by omega) k0 (by omega)]; first | (rw [if_pos (und_0.mp (by assumption))]; done) | (rw [if_neg (fun z => absurd (und_0.mpr z) (by assumption)), hi28.2, show kc = MB (7 * bq + 6) by omega]; by_cases ck : k = 1 * 2 ^ (MB (7 * bq + 6)).toNat - 1 <;> first | (rw [if_pos ck, if_pos (by omega), full_sum (by omega) k0 ck]; omega) | (rw [if_neg ck, if_neg (by omega), Int.zero_add])))⟩, lv_sub hl [0, 3, 4] rfl, hP.sub [1, 2, 3, 0] rfl, hD.sub [1, 2, 3, 0] (by decide) rfl, hS⟩
      ·
        have b7 := pow7 (k := kc) (by omega)
        refine lv_iload_n hx hb dX12_layOrders_45 rfl (lv_at hl 1 rfl) ?_
        refine lv_iload_n hx hb dX12_layOrders_46 rfl (lv_at hl 2 rfl) ?_
        refine lv_iload hx hb dX12_layOrders_47 (lv_at hl 0 rfl) ?_
        refine z_ishr hx hb (by omega) dX12_layOrders_49 ?_
        refine z_iconst hx hb dX12_layOrders_50 ?_
        have d4 := Int.ediv_nonneg (a := k) (b := 2 ^ kc.toNat) (by omega) (Int.le_of_lt (two_pos _))
        have d5 := Int.ediv_le_self (a := k) (2 ^ kc.toNat) (by omega)
        refine z_iand1 hx hb (by omega) dX12_layOrders_51 ?_
        refine z_if_ne (tgt := 69) hx hb (by omega) dX12_layOrders_52 (by decide) (fun c_52 => ?_) (fun c_52 => ?_)
        ·
          refine z_iconst hx hb dX12_layOrders_69 ?_
          refine z_iadd hx hb dX12_layOrders_70 ?_
          refine lv_istore_n (lv' := [(3, zi (vs + 0)), (4, zi kc), (2, zi k), (0, .ref m0), (1, zi bq)]) hx hb dX12_layOrders_71 rfl hl (by decide) rfl (fun ls hl => ?_)
          refine z_iinc (k := 1) (lv' := [(4, zi (kc + 1)), (3, zi (vs + 0)), (2, zi k), (0, .ref m0), (1, zi bq)]) hx hb dX12_layOrders_72 hl rfl (by decide) rfl (fun ls hl => ?_)
          refine lv_goto (tgt := 28) hx hb dX12_layOrders_75 (by decide) ?_
          exact ih28 (vs + 0, kc + 1) _ _ _ (by first | (dsimp only; omega) | omega) ⟨⟨by omega, by rw [sgI_s _ hi28.1.1, ← Int.add_assoc, ← hi28.2]; first | (rw [if_pos (by have := bt01 k kc.toNat; omega), hi6.2 _ b10 b11]; done) | (rw [if_neg (by omega)]; done)⟩, lv_sub hl [0, 1, 2, 3, 4] rfl, hP.sub [0, 1, 2, 3] rfl, hD.sub [0, 1, 2, 3] (by decide) rfl, hS⟩
        ·
          have b8 := bor_lt (n := (MB (7 * bq + 6)).toNat) (c := kc.toNat) k0 (by omega) (by omega)
          have b9 := bor_nn k (1 * 2 ^ kc.toNat)
          have b10 := bor_gt (c := kc.toNat) k0 (by omega)
          have b11 : bor k (1 * 2 ^ kc.toNat) ≤ 1 * 2 ^ (MB (7 * bq + 6)).toNat - 1 := (by omega)
          refine lv_aload_n hx hb dX12_layOrders_55 rfl (lv_at hl 3 rfl) ?_
          refine va_get hx hb hts hinX12 hown hK hP 0 rfl rfl 16 (by decide) k2 (fun _ h => h) rfl dX12_layOrders_56 ?_
          refine lv_iload_n hx hb dX12_layOrders_59 rfl (lv_at hl 2 rfl) ?_
          refine z_iconst hx hb dX12_layOrders_60 ?_
          refine lv_iload hx hb dX12_layOrders_61 (lv_at hl 0 rfl) ?_
          refine z_ishl hx hb (by omega) dX12_layOrders_63 ?_
          refine z_ior hx hb (by omega) dX12_layOrders_64 ?_
          refine z_iald hx hb hK hP 3 0 rfl rfl (by omega) (by decide) dX12_layOrders_65 ?_
          refine lv_goto (tgt := 70) hx hb dX12_layOrders_66 (by decide) ?_
          refine z_iadd hx hb dX12_layOrders_70 ?_
          refine lv_istore_n (lv' := [(3, zi (vs + (Y1 (bor k (1 * 2 ^ kc.toNat))))), (4, zi kc), (2, zi k), (0, .ref m0), (1, zi bq)]) hx hb dX12_layOrders_71 rfl hl (by decide) rfl (fun ls hl => ?_)
          refine z_iinc (k := 1) (lv' := [(4, zi (kc + 1)), (3, zi (vs + (Y1 (bor k (1 * 2 ^ kc.toNat))))), (2, zi k), (0, .ref m0), (1, zi bq)]) hx hb dX12_layOrders_72 hl rfl (by decide) rfl (fun ls hl => ?_)
          refine lv_goto (tgt := 28) hx hb dX12_layOrders_75 (by decide) ?_
          exact ih28 (vs + (Y1 (bor k (1 * 2 ^ kc.toNat))), kc + 1) _ _ _ (by first | (dsimp only; omega) | omega) ⟨⟨by omega, by rw [sgI_s _ hi28.1.1, ← Int.add_assoc, ← hi28.2]; first | (rw [if_pos (by have := bt01 k kc.toNat; omega), hi6.2 _ b10 b11]; done) | (rw [if_neg (by omega)]; done)⟩, lv_sub hl [0, 1, 2, 3, 4] rfl, hP.sub [0, 1, 2, 3] rfl, hD.sub [0, 1, 2, 3] (by decide) rfl, hS⟩
    ·
      refine z_iconst hx hb dX12_layOrders_19 ?_
      refine lv_goto (tgt := 24) hx hb dX12_layOrders_20 (by decide) ?_
      refine lv_istore_n (lv' := [(3, zi 1), (2, zi k), (0, .ref m0), (1, zi bq)]) hx hb dX12_layOrders_24 rfl hl (by decide) rfl (fun ls hl => ?_)
      refine z_iconst hx hb dX12_layOrders_25 ?_
      refine lv_istore (lv' := [(4, zi 0), (3, zi 1), (2, zi k), (0, .ref m0), (1, zi bq)]) hx hb dX12_layOrders_26 hl (by decide) rfl (fun ls hl => ?_)
      refine z_loop (σ := Int × Int) (fun x9 H lc ls => match x9 with | (vs, kc) => ((0 ≤ kc ∧ kc ≤ MB (7 * bq + 6)) ∧ vs = (if k = 1 * 2 ^ (MB (7 * bq + 6)).toNat - 1 then 1 else 0) + sgI (fun c => if k / 2 ^ c.toNat % 2 = 0 then wV (okB (MB (7 * bq)) (MB (7 * bq + 1)) (MB (7 * bq + 2)) (MB (7 * bq + 3)) (MB (7 * bq + 6)) (mCI MC bq) (mCJ MC bq) (mCW MC bq)) (MB (7 * bq + 6)) (bor k (1 * 2 ^ c.toNat)) else 0) kc) ∧ lv_has ls 5 [(4, zi kc), (3, zi vs), (2, zi k), (0, .ref m0), (1, zi bq)] ∧ va_P D vwCl [(m0, .inr (11, [.ref m_read, zi rl, zi rp, .ref m_gut, zi gl, zi gp, zi gx, zi gy, .ref m_text, zi tn, zi fn, .ref m_boat, .ref m_coins, zi w1, zi x1, zi z1, .ref m_rest, .ref m_ends, zl vc, .ref m_chan, .ref m_spl, zi fs, zi rn, .ref m_rf, .ref m_rr, .ref m_ik, .ref m_km, .ref m_kb, .ref m_kc, .ref m_kf, .ref m_kr])), (m_boat, .inl (y 0, 42, .inl (cI MB))), (m_coins, .inl (y 0, 144, .inl (cI MC))), (m_rest, .inl (y 0, 256, .inl (cI Y1)))] H ∧ va_D A [(m0, .inr (11, [.ref m_read, zi rl, zi rp, .ref m_gut, zi gl, zi gp, zi gx, zi gy, .ref m_text, zi tn, zi fn, .ref m_boat, .ref m_coins, zi w1, zi x1, zi z1, .ref m_rest, .ref m_ends, zl vc, .ref m_chan, .ref m_spl, zi fs, zi rn, .ref m_rf, .ref m_rr, .ref m_ik, .ref m_km, .ref m_kb, .ref m_kc, .ref m_kf, .ref m_kr])), (m_boat, .inl (y 0, 42, .inl (cI MB))), (m_coins, .inl (y 0, 144, .inl (cI MC))), (m_rest, .inl (y 0, 256, .inl (cI Y1)))] ∧ va_S A s.heap H lc) (fun x9  => match x9 with | (vs, kc) => ((MB (7 * bq + 6) - kc).toNat)) ?_ (1, 0) ⟨⟨by omega, by rw [sgI_0]; first | (rw [if_pos (by omega)]; omega) | (rw [if_neg (by omega)]; omega)⟩, lv_sub hl [0, 1, 2, 3, 4] rfl, hP.sub [0, 1, 2, 3] rfl, hD.sub [0, 1, 2, 3] (by decide) rfl, hS⟩
      rintro ⟨vs, kc⟩ H lc ls ⟨hi28, hl, hP, hD, hS⟩ ih28
      have hP : va_P D vwCl [(m0, .inr (11, [.ref m_read, zi rl, zi rp, .ref m_gut, zi gl, zi gp, zi gx, zi gy, .ref m_text, zi tn, zi fn, .ref m_boat, .ref m_coins, zi w1, zi x1, zi z1, .ref m_rest, .ref m_ends, zl vc, .ref m_chan, .ref m_spl, zi fs, zi rn, .ref m_rf, .ref m_rr, .ref m_ik, .ref m_km, .ref m_kb, .ref m_kc, .ref m_kf, .ref m_kr])), (m_boat, .inl (y 0, 42, .inl (cI MB))), (m_coins, .inl (y 0, 144, .inl (cI MC))), (m_rest, .inl (y 0, 256, .inl (cI Y1)))] H := hP
      have hD : va_D A [(m0, .inr (11, [.ref m_read, zi rl, zi rp, .ref m_gut, zi gl, zi gp, zi gx, zi gy, .ref m_text, zi tn, zi fn, .ref m_boat, .ref m_coins, zi w1, zi x1, zi z1, .ref m_rest, .ref m_ends, zl vc, .ref m_chan, .ref m_spl, zi fs, zi rn, .ref m_rf, .ref m_rr, .ref m_ik, .ref m_km, .ref m_kb, .ref m_kc, .ref m_kf, .ref m_kr])), (m_boat, .inl (y 0, 42, .inl (cI MB))), (m_coins, .inl (y 0, 144, .inl (cI MC))), (m_rest, .inl (y 0, 256, .inl (cI Y1)))] := hD
      refine lv_iload hx hb dX12_layOrders_28 (lv_at hl 0 rfl) ?_
      refine lv_aload_n hx hb dX12_layOrders_30 rfl (lv_at hl 3 rfl) ?_
      refine va_get hx hb hts hinX12 hown hK hP 0 rfl rfl 11 (by decide) k1 (fun _ h => h) rfl dX12_layOrders_31 ?_
      refine z_bipush hx hb dX12_layOrders_34 (by decide) ?_
      refine lv_iload_n hx hb dX12_layOrders_36 rfl (lv_at hl 4 rfl) ?_
      refine z_imul hx hb dX12_layOrders_37 ?_
      refine z_bipush hx hb dX12_layOrders_38 (by decide) ?_
      refine z_iadd hx hb dX12_layOrders_40 ?_
      refine z_iald hx hb hK hP 1 0 rfl rfl (by omega) (by decide) dX12_layOrders_41 ?_
      refine z_icmp_ge (tgt := 78) hx hb (by omega) (by omega) dX12_layOrders_42 (by decide) (fun c_42 => ?_) (fun c_42 => ?_)
      ·
        refine lv_aload_n hx hb dX12_layOrders_78 rfl (lv_at hl 3 rfl) ?_
        refine va_get hx hb hts hinX12 hown hK hP 0 rfl rfl 16 (by decide) k2 (fun _ h => h) rfl dX12_layOrders_79 ?_
        refine lv_iload_n hx hb dX12_layOrders_82 rfl (lv_at hl 2 rfl) ?_
        refine lv_aload_n hx hb dX12_layOrders_83 rfl (lv_at hl 3 rfl) ?_
        refine lv_iload_n hx hb dX12_layOrders_84 rfl (lv_at hl 4 rfl) ?_
        refine z_iconst hx hb dX12_layOrders_85 ?_
        refine lv_iload_n hx hb dX12_layOrders_86 rfl (lv_at hl 2 rfl) ?_
        refine z_wV (As := [zi bq, zi 0, zi k]) (rest := [zi k, .ref m_rest]) (wc := [(m0, .inr (11, [.ref m_read, zi rl, zi rp, .ref m_gut, zi gl, zi gp, zi gx, zi gy, .ref m_text, zi tn, zi fn, .ref m_boat, .ref m_coins, zi w1, zi x1, zi z1, .ref m_rest, .ref m_ends, zl vc, .ref m_chan, .ref m_spl, zi fs, zi rn, .ref m_rf, .ref m_rr, .ref m_ik, .ref m_km, .ref m_kb, .ref m_kc, .ref m_kf, .ref m_kr])), (m_boat, .inl (y 0, 42, .inl (cI MB))), (m_coins, .inl (y 0, 144, .inl (cI MC)))]) (wrest := [(m_rest, .inl (y 0, 256, .inl (cI Y1)))]) hC (c_X12_isUnder l D y m0 m_read rl rp m_gut gl gp gx gy m_text tn fn m_boat m_coins w1 x1 z1 m_rest m_ends vc m_chan m_spl fs rn m_rf m_rr m_ik m_km m_kb m_kc m_kf m_kr MB MC bq 0 k (by first | assumption | omega) (by first | assumption | omega) (by first | assumption | omega) (by first | assumption | omega) _) (cwV 3 hts gX12_layOrders_X12_isUnder rfl rfl rfl (by decide +kernel) ⟨Nat.le_of_ble_eq_true rfl, Nat.le_of_ble_eq_true rfl⟩) hG hP hD hS hA [0, 1, 2] [3] rfl rfl (by decide) (by decide) (by decide) va_P_nil ro_nil 0 rfl rfl rfl hl.1 rfl (Nat.le_of_ble_eq_true rfl) dX12_layOrders_87 ⟨Nat.le_of_ble_eq_true rfl, Nat.le_of_ble_eq_true rfl⟩ (fun u9 H locs hw_2 hP hD hS => ?_)
        have hw_2 : True := hw_2
        have hP : va_P D vwCl [(m_rest, .inl (y 0, 256, .inl (cI Y1))), (m0, .inr (11, [.ref m_read, zi rl, zi rp, .ref m_gut, zi gl, zi gp, zi gx, zi gy, .ref m_text, zi tn, zi fn, .ref m_boat, .ref m_coins, zi (bs (mCW MC bq) (MB (7 * bq + 6)) k), zi (bs (pullC ((MB (7 * bq)) - 2 * (MB (7 * bq + 3))) (mCI MC bq) (mCW MC bq)) (MB (7 * bq + 6)) k), zi (bs (pullC ((MB (7 * bq + 1)) - 2 * (MB (7 * bq + 3))) (mCJ MC bq) (mCW MC bq)) (MB (7 * bq + 6)) k), .ref m_rest, .ref m_ends, zl vc, .ref m_chan, .ref m_spl, zi fs, zi rn, .ref m_rf, .ref m_rr, .ref m_ik, .ref m_km, .ref m_kb, .ref m_kc, .ref m_kf, .ref m_kr])), (m_boat, .inl (y 0, 42, .inl (cI MB))), (m_coins, .inl (y 0, 144, .inl (cI MC)))] H := hP
        have hD : va_D A [(m_rest, .inl (y 0, 256, .inl (cI Y1))), (m0, .inr (11, [.ref m_read, zi rl, zi rp, .ref m_gut, zi gl, zi gp, zi gx, zi gy, .ref m_text, zi tn, zi fn, .ref m_boat, .ref m_coins, zi (bs (mCW MC bq) (MB (7 * bq + 6)) k), zi (bs (pullC ((MB (7 * bq)) - 2 * (MB (7 * bq + 3))) (mCI MC bq) (mCW MC bq)) (MB (7 * bq + 6)) k), zi (bs (pullC ((MB (7 * bq + 1)) - 2 * (MB (7 * bq + 3))) (mCJ MC bq) (mCW MC bq)) (MB (7 * bq + 6)) k), .ref m_rest, .ref m_ends, zl vc, .ref m_chan, .ref m_spl, zi fs, zi rn, .ref m_rf, .ref m_rr, .ref m_ik, .ref m_km, .ref m_kb, .ref m_kc, .ref m_kf, .ref m_kr])), (m_boat, .inl (y 0, 42, .inl (cI MB))), (m_coins, .inl (y 0, 144, .inl (cI MC)))] := hD
        refine z_ifB_eq (tgt := 97) hx hb dX12_layOrders_90 (by decide) (fun c_90 => ?_) (fun c_90 => ?_)
        ·
          refine lv_iload_n hx hb dX12_layOrders_97 rfl (lv_at hl 1 rfl) ?_
          refine z_iast hx hb hK hP hD hS 0 0 rfl rfl (by omega) (by decide) dX12_layOrders_98 (fun H locs hP hD hS => ?_)
          have hP : va_P D vwCl [(m_rest, .inl (y 0, 256, .inl (cI (iu Y1 k vs)))), (m0, .inr (11, [.ref m_read, zi rl, zi rp, .ref m_gut, zi gl, zi gp, zi gx, zi gy, .ref m_text, zi tn, zi fn, .ref m_boat, .ref m_coins, zi (bs (mCW MC bq) (MB (7 * bq + 6)) k), zi (bs (pullC ((MB (7 * bq)) - 2 * (MB (7 * bq + 3))) (mCI MC bq) (mCW MC bq)) (MB (7 * bq + 6)) k), zi (bs (pullC ((MB (7 * bq + 1)) - 2 * (MB (7 * bq + 3))) (mCJ MC bq) (mCW MC bq)) (MB (7 * bq + 6)) k), .ref m_rest, .ref m_ends, zl vc, .ref m_chan, .ref m_spl, zi fs, zi rn, .ref m_rf, .ref m_rr, .ref m_ik, .ref m_km, .ref m_kb, .ref m_kc, .ref m_kf, .ref m_kr])), (m_boat, .inl (y 0, 42, .inl (cI MB))), (m_coins, .inl (y 0, 144, .inl (cI MC)))] H := hP
          have hD : va_D A [(m_rest, .inl (y 0, 256, .inl (cI (iu Y1 k vs)))), (m0, .inr (11, [.ref m_read, zi rl, zi rp, .ref m_gut, zi gl, zi gp, zi gx, zi gy, .ref m_text, zi tn, zi fn, .ref m_boat, .ref m_coins, zi (bs (mCW MC bq) (MB (7 * bq + 6)) k), zi (bs (pullC ((MB (7 * bq)) - 2 * (MB (7 * bq + 3))) (mCI MC bq) (mCW MC bq)) (MB (7 * bq + 6)) k), zi (bs (pullC ((MB (7 * bq + 1)) - 2 * (MB (7 * bq + 3))) (mCJ MC bq) (mCW MC bq)) (MB (7 * bq + 6)) k), .ref m_rest, .ref m_ends, zl vc, .ref m_chan, .ref m_spl, zi fs, zi rn, .ref m_rf, .ref m_rr, .ref m_ik, .ref m_km, .ref m_kb, .ref m_kc, .ref m_kf, .ref m_kr])), (m_boat, .inl (y 0, 42, .inl (cI MB))), (m_coins, .inl (y 0, 144, .inl (cI MC)))] := hD
          refine z_iinc (k := 2) (lv' := [(2, zi (k + (-1))), (4, zi kc), (3, zi vs), (0, .ref m0), (1, zi bq)]) hx hb dX12_layOrders_99 hl rfl (by decide) rfl (fun ls hl => ?_)
          refine lv_goto (tgt := 6) hx hb dX12_layOrders_102 (by decide) ?_
          exact ih6 (k + (-1), bs (mCW MC bq) (MB (7 * bq + 6)) k, bs (pullC ((MB (7 * bq)) - 2 * (MB (7 * bq + 3))) (mCI MC bq) (mCW MC bq)) (MB (7 * bq + 6)) k, bs (pullC ((MB (7 * bq + 1)) - 2 * (MB (7 * bq + 3))) (mCJ MC bq) (mCW MC bq)) (MB (7 * bq + 6)) k, iu Y1 k vs) _ _ _ (by first | (dsimp only; omega) | omega) ⟨⟨by omega, iu_down hi6.2 (by rw [wV_s _ (by omega) k0 (by omega)]; first | (rw [if_pos (und_0.mp (by assumption))]; done) | (rw [if_neg (fun z => absurd (und_0.mpr z) (by assumption)), hi28.2, show kc = MB (7 * bq + 6) by omega]; by_cases ck : k = 1 * 2 ^ (MB (7 * bq + 6)).toNat - 1 <;> first | (rw [if_pos ck, if_pos (by omega), full_sum (by omega) k0 ck]; omega) | (rw [if_neg ck, if_neg (by omega), Int.zero_add])))⟩, lv_sub hl [0, 3, 4] rfl, hP.sub [1, 2, 3, 0] rfl, hD.sub [1, 2, 3, 0] (by decide) rfl, hS⟩
        ·
          refine z_iconst hx hb dX12_layOrders_93 ?_
          refine lv_goto (tgt := 98) hx hb dX12_layOrders_94 (by decide) ?_
          refine z_iast hx hb hK hP hD hS 0 0 rfl rfl (by omega) (by decide) dX12_layOrders_98 (fun H locs hP hD hS => ?_)
          have hP : va_P D vwCl [(m_rest, .inl (y 0, 256, .inl (cI (iu Y1 k 0)))), (m0, .inr (11, [.ref m_read, zi rl, zi rp, .ref m_gut, zi gl, zi gp, zi gx, zi gy, .ref m_text, zi tn, zi fn, .ref m_boat, .ref m_coins, zi (bs (mCW MC bq) (MB (7 * bq + 6)) k), zi (bs (pullC ((MB (7 * bq)) - 2 * (MB (7 * bq + 3))) (mCI MC bq) (mCW MC bq)) (MB (7 * bq + 6)) k), zi (bs (pullC ((MB (7 * bq + 1)) - 2 * (MB (7 * bq + 3))) (mCJ MC bq) (mCW MC bq)) (MB (7 * bq + 6)) k), .ref m_rest, .ref m_ends, zl vc, .ref m_chan, .ref m_spl, zi fs, zi rn, .ref m_rf, .ref m_rr, .ref m_ik, .ref m_km, .ref m_kb, .ref m_kc, .ref m_kf, .ref m_kr])), (m_boat, .inl (y 0, 42, .inl (cI MB))), (m_coins, .inl (y 0, 144, .inl (cI MC)))] H := hP
          have hD : va_D A [(m_rest, .inl (y 0, 256, .inl (cI (iu Y1 k 0)))), (m0, .inr (11, [.ref m_read, zi rl, zi rp, .ref m_gut, zi gl, zi gp, zi gx, zi gy, .ref m_text, zi tn, zi fn, .ref m_boat, .ref m_coins, zi (bs (mCW MC bq) (MB (7 * bq + 6)) k), zi (bs (pullC ((MB (7 * bq)) - 2 * (MB (7 * bq + 3))) (mCI MC bq) (mCW MC bq)) (MB (7 * bq + 6)) k), zi (bs (pullC ((MB (7 * bq + 1)) - 2 * (MB (7 * bq + 3))) (mCJ MC bq) (mCW MC bq)) (MB (7 * bq + 6)) k), .ref m_rest, .ref m_ends, zl vc, .ref m_chan, .ref m_spl, zi fs, zi rn, .ref m_rf, .ref m_rr, .ref m_ik, .ref m_km, .ref m_kb, .ref m_kc, .ref m_kf, .ref m_kr])), (m_boat, .inl (y 0, 42, .inl (cI MB))), (m_coins, .inl (y 0, 144, .inl (cI MC)))] := hD
          refine z_iinc (k := 2) (lv' := [(2, zi (k + (-1))), (4, zi kc), (3, zi vs), (0, .ref m0), (1, zi bq)]) hx hb dX12_layOrders_99 hl rfl (by decide) rfl (fun ls hl => ?_)
          refine lv_goto (tgt := 6) hx hb dX12_layOrders_102 (by decide) ?_
          exact ih6 (k + (-1), bs (mCW MC bq) (MB (7 * bq + 6)) k, bs (pullC ((MB (7 * bq)) - 2 * (MB (7 * bq + 3))) (mCI MC bq) (mCW MC bq)) (MB (7 * bq + 6)) k, bs (pullC ((MB (7 * bq + 1)) - 2 * (MB (7 * bq + 3))) (mCJ MC bq) (mCW MC bq)) (MB (7 * bq + 6)) k, iu Y1 k 0) _ _ _ (by first | (dsimp only; omega) | omega) ⟨⟨by omega, iu_down hi6.2 (by rw [wV_s _ (by omega) k0 (by omega)]; first | (rw [if_pos (und_0.mp (by assumption))]; done) | (rw [if_neg (fun z => absurd (und_0.mpr z) (by assumption)), hi28.2, show kc = MB (7 * bq + 6) by omega]; by_cases ck : k = 1 * 2 ^ (MB (7 * bq + 6)).toNat - 1 <;> first | (rw [if_pos ck, if_pos (by omega), full_sum (by omega) k0 ck]; omega) | (rw [if_neg ck, if_neg (by omega), Int.zero_add])))⟩, lv_sub hl [0, 3, 4] rfl, hP.sub [1, 2, 3, 0] rfl, hD.sub [1, 2, 3, 0] (by decide) rfl, hS⟩
      ·
        have b7 := pow7 (k := kc) (by omega)
        refine lv_iload_n hx hb dX12_layOrders_45 rfl (lv_at hl 1 rfl) ?_
        refine lv_iload_n hx hb dX12_layOrders_46 rfl (lv_at hl 2 rfl) ?_
        refine lv_iload hx hb dX12_layOrders_47 (lv_at hl 0 rfl) ?_
        refine z_ishr hx hb (by omega) dX12_layOrders_49 ?_
        refine z_iconst hx hb dX12_layOrders_50 ?_
        have d4 := Int.ediv_nonneg (a := k) (b := 2 ^ kc.toNat) (by omega) (Int.le_of_lt (two_pos _))
        have d5 := Int.ediv_le_self (a := k) (2 ^ kc.toNat) (by omega)
        refine z_iand1 hx hb (by omega) dX12_layOrders_51 ?_
        refine z_if_ne (tgt := 69) hx hb (by omega) dX12_layOrders_52 (by decide) (fun c_52 => ?_) (fun c_52 => ?_)
        ·
          refine z_iconst hx hb dX12_layOrders_69 ?_
          refine z_iadd hx hb dX12_layOrders_70 ?_
          refine lv_istore_n (lv' := [(3, zi (vs + 0)), (4, zi kc), (2, zi k), (0, .ref m0), (1, zi bq)]) hx hb dX12_layOrders_71 rfl hl (by decide) rfl (fun ls hl => ?_)
          refine z_iinc (k := 1) (lv' := [(4, zi (kc + 1)), (3, zi (vs + 0)), (2, zi k), (0, .ref m0), (1, zi bq)]) hx hb dX12_layOrders_72 hl rfl (by decide) rfl (fun ls hl => ?_)
          refine lv_goto (tgt := 28) hx hb dX12_layOrders_75 (by decide) ?_
          exact ih28 (vs + 0, kc + 1) _ _ _ (by first | (dsimp only; omega) | omega) ⟨⟨by omega, by rw [sgI_s _ hi28.1.1, ← Int.add_assoc, ← hi28.2]; first | (rw [if_pos (by have := bt01 k kc.toNat; omega), hi6.2 _ b10 b11]; done) | (rw [if_neg (by omega)]; done)⟩, lv_sub hl [0, 1, 2, 3, 4] rfl, hP.sub [0, 1, 2, 3] rfl, hD.sub [0, 1, 2, 3] (by decide) rfl, hS⟩
        ·
          have b8 := bor_lt (n := (MB (7 * bq + 6)).toNat) (c := kc.toNat) k0 (by omega) (by omega)
          have b9 := bor_nn k (1 * 2 ^ kc.toNat)
          have b10 := bor_gt (c := kc.toNat) k0 (by omega)
          have b11 : bor k (1 * 2 ^ kc.toNat) ≤ 1 * 2 ^ (MB (7 * bq + 6)).toNat - 1 := (by omega)
          refine lv_aload_n hx hb dX12_layOrders_55 rfl (lv_at hl 3 rfl) ?_
          refine va_get hx hb hts hinX12 hown hK hP 0 rfl rfl 16 (by decide) k2 (fun _ h => h) rfl dX12_layOrders_56 ?_
          refine lv_iload_n hx hb dX12_layOrders_59 rfl (lv_at hl 2 rfl) ?_
          refine z_iconst hx hb dX12_layOrders_60 ?_
          refine lv_iload hx hb dX12_layOrders_61 (lv_at hl 0 rfl) ?_
          refine z_ishl hx hb (by omega) dX12_layOrders_63 ?_
          refine z_ior hx hb (by omega) dX12_layOrders_64 ?_
          refine z_iald hx hb hK hP 3 0 rfl rfl (by omega) (by decide) dX12_layOrders_65 ?_
          refine lv_goto (tgt := 70) hx hb dX12_layOrders_66 (by decide) ?_
          refine z_iadd hx hb dX12_layOrders_70 ?_
          refine lv_istore_n (lv' := [(3, zi (vs + (Y1 (bor k (1 * 2 ^ kc.toNat))))), (4, zi kc), (2, zi k), (0, .ref m0), (1, zi bq)]) hx hb dX12_layOrders_71 rfl hl (by decide) rfl (fun ls hl => ?_)
          refine z_iinc (k := 1) (lv' := [(4, zi (kc + 1)), (3, zi (vs + (Y1 (bor k (1 * 2 ^ kc.toNat))))), (2, zi k), (0, .ref m0), (1, zi bq)]) hx hb dX12_layOrders_72 hl rfl (by decide) rfl (fun ls hl => ?_)
          refine lv_goto (tgt := 28) hx hb dX12_layOrders_75 (by decide) ?_
          exact ih28 (vs + (Y1 (bor k (1 * 2 ^ kc.toNat))), kc + 1) _ _ _ (by first | (dsimp only; omega) | omega) ⟨⟨by omega, by rw [sgI_s _ hi28.1.1, ← Int.add_assoc, ← hi28.2]; first | (rw [if_pos (by have := bt01 k kc.toNat; omega), hi6.2 _ b10 b11]; done) | (rw [if_neg (by omega)]; done)⟩, lv_sub hl [0, 1, 2, 3, 4] rfl, hP.sub [0, 1, 2, 3] rfl, hD.sub [0, 1, 2, 3] (by decide) rfl, hS⟩
set_option maxHeartbeats 8000000 in
set_option maxRecDepth 100000 in
theorem c_X12_orders_no (l : Launch) (D : va_G) (y : Nat → ClassId) (m0 : Nat) (m_read : Nat) (rl : Int) (rp : Int) (m_gut : Nat) (gl : Int) (gp : Int) (gx : Int) (gy : Int) (m_text : Nat) (tn : Int) (fn : Int) (m_boat : Nat) (m_coins : Nat) (vw : Int) (vm : Int) (vn : Int) (m_rest : Nat) (m_ends : Nat) (vc : Int) (m_chan : Nat) (m_spl : Nat) (fs : Int) (rn : Int) (m_rf : Nat) (m_rr : Nat) (m_ik : Nat) (m_km : Nat) (m_kb : Nat) (m_kc : Nat) (m_kf : Nat) (m_kr : Nat) (bq : Int) (hbq : rI bq ∧ 0 ≤ fn ∧ fn ≤ 6 ∧ ¬ (0 ≤ bq ∧ bq < fn)) : Met l yX12_orders wsX12_orders ({ frames := 2, cells := 0, slots := 0, locals := 46 } : Room) (pPc D y [(m0, .inr (11, [.ref m_read, zi rl, zi rp, .ref m_gut, zi gl, zi gp, zi gx, zi gy, .ref m_text, zi tn, zi fn, .ref m_boat, .ref m_coins, zi vw, zi vm, zi vn, .ref m_rest, .ref m_ends, zl vc, .ref m_chan, .ref m_spl, zi fs, zi rn, .ref m_rf, .ref m_rr, .ref m_ik, .ref m_km, .ref m_kb, .ref m_kc, .ref m_kf, .ref m_kr]))] [.ref m0, zi bq]) (qV (zi (-1))) 0 0 (fun _ => False) := by
  refine P_of (own := RX12) (cc := cX12_orders) (maxL := 2) (ret := some .int) (by decide) rfl rfl (Nat.le_of_ble_eq_true rfl) (fun p e s m below meth c ls hx hb hr hC hlocks hPr hG hl => ?_)
  have hC0 := hC
  obtain ⟨-, -, hml, hown, hts⟩ := hC0
  have hK := hG.1
  have hl : lv_has ls 2 [(0, .ref m0), (1, zi bq)] := hl
  refine lv_aload_n hx hb dX12_orders_0 rfl (lv_at hl 0 rfl) ?_
  refine lv_iload_n hx hb dX12_orders_1 rfl (lv_at hl 1 rfl) ?_
  refine z_pV (As := [zi bq]) (rest := []) hC (c_X12_isBoat l D y m0 m_read rl rp m_gut gl gp gx gy m_text tn fn m_boat m_coins vw vm vn m_rest m_ends vc m_chan m_spl fs rn m_rf m_rr m_ik m_km m_kb m_kc m_kf m_kr bq (by first | assumption | omega) (by first | assumption | omega)) (cwV 1 hts gX12_orders_X12_isBoat rfl rfl rfl (by decide +kernel) ⟨Nat.le_of_ble_eq_true rfl, Nat.le_of_ble_eq_true rfl⟩) hG (hPr.sub (ws' := [(m0, .inr (11, [.ref m_read, zi rl, zi rp, .ref m_gut, zi gl, zi gp, zi gx, zi gy, .ref m_text, zi tn, zi fn, .ref m_boat, .ref m_coins, zi vw, zi vm, zi vn, .ref m_rest, .ref m_ends, zl vc, .ref m_chan, .ref m_spl, zi fs, zi rn, .ref m_rf, .ref m_rr, .ref m_ik, .ref m_km, .ref m_kb, .ref m_kc, .ref m_kf, .ref m_kr]))]) [0] rfl) 0 rfl rfl rfl hl.1 rfl (Nat.le_of_ble_eq_true rfl) dX12_orders_2 ⟨Nat.le_of_ble_eq_true rfl, Nat.le_of_ble_eq_true rfl⟩ ?_
  refine z_ifB_eq (tgt := 16) hx hb dX12_orders_5 (by decide) (fun c_5 => ?_) (fun c_5 => ?_)
  ·
    refine z_iconst hx hb dX12_orders_16 ?_
    exact z_iret0 hx hb hr hlocks (rfl) dX12_orders_17
  · exfalso; omega
set_option maxHeartbeats 8000000 in
set_option maxRecDepth 100000 in
theorem c_X12_orders (l : Launch) (D : va_G) (y : Nat → ClassId) (m0 : Nat) (m_read : Nat) (rl : Int) (rp : Int) (m_gut : Nat) (gl : Int) (gp : Int) (gx : Int) (gy : Int) (m_text : Nat) (tn : Int) (fn : Int) (m_boat : Nat) (m_coins : Nat) (vw : Int) (vm : Int) (vn : Int) (m_rest : Nat) (m_ends : Nat) (vc : Int) (m_chan : Nat) (m_spl : Nat) (fs : Int) (rn : Int) (m_rf : Nat) (m_rr : Nat) (m_ik : Nat) (m_km : Nat) (m_kb : Nat) (m_kc : Nat) (m_kf : Nat) (m_kr : Nat) (MB : Int → Int) (MC : Int → Int) (MRe : Int → Int) (bq : Int) (hM : mbOK fn MB MC) (hbq : 0 ≤ bq ∧ bq < fn) (sz : Nat) : Met l yX12_orders wsX12_orders ({ frames := 4, cells := 0, slots := 0, locals := 95 } : Room) (wPc D y [] [(m0, .inr (11, [.ref m_read, zi rl, zi rp, .ref m_gut, zi gl, zi gp, zi gx, zi gy, .ref m_text, zi tn, zi fn, .ref m_boat, .ref m_coins, zi vw, zi vm, zi vn, .ref m_rest, .ref m_ends, zl vc, .ref m_chan, .ref m_spl, zi fs, zi rn, .ref m_rf, .ref m_rr, .ref m_ik, .ref m_km, .ref m_kb, .ref m_kc, .ref m_kf, .ref m_kr])), (m_boat, .inl (y 0, 42, .inl (cI MB))), (m_coins, .inl (y 0, 144, .inl (cI MC))), (m_rest, .inl (y 0, 256, .inl (cI MRe)))] sz [.ref m0, zi bq]) (wQ D (fun (x9 : Int × Int × Int × (Int → Int)) => match x9 with | (vw2, vm2, vn2, MRe2) => some (zi (wV (okB (MB (7 * bq)) (MB (7 * bq + 1)) (MB (7 * bq + 2)) (MB (7 * bq + 3)) (MB (7 * bq + 6)) (mCI MC bq) (mCJ MC bq) (mCW MC bq)) (MB (7 * bq + 6)) 0))) (fun (x9 : Int × Int × Int × (Int → Int)) => match x9 with | (vw2, vm2, vn2, MRe2) => True) (fun (x9 : Int × Int × Int × (Int → Int)) => match x9 with | (vw2, vm2, vn2, MRe2) => [(m0, .inr (11, [.ref m_read, zi rl, zi rp, .ref m_gut, zi gl, zi gp, zi gx, zi gy, .ref m_text, zi tn, zi fn, .ref m_boat, .ref m_coins, zi vw2, zi vm2, zi vn2, .ref m_rest, .ref m_ends, zl vc, .ref m_chan, .ref m_spl, zi fs, zi rn, .ref m_rf, .ref m_rr, .ref m_ik, .ref m_km, .ref m_kb, .ref m_kc, .ref m_kf, .ref m_kr])), (m_boat, .inl (y 0, 42, .inl (cI MB))), (m_coins, .inl (y 0, 144, .inl (cI MC))), (m_rest, .inl (y 0, 256, .inl (cI MRe2)))]) (va_A [(m0, .inr (11, [.ref m_read, zi rl, zi rp, .ref m_gut, zi gl, zi gp, zi gx, zi gy, .ref m_text, zi tn, zi fn, .ref m_boat, .ref m_coins, zi vw, zi vm, zi vn, .ref m_rest, .ref m_ends, zl vc, .ref m_chan, .ref m_spl, zi fs, zi rn, .ref m_rf, .ref m_rr, .ref m_ik, .ref m_km, .ref m_kb, .ref m_kc, .ref m_kf, .ref m_kr])), (m_boat, .inl (y 0, 42, .inl (cI MB))), (m_coins, .inl (y 0, 144, .inl (cI MC))), (m_rest, .inl (y 0, 256, .inl (cI MRe)))] sz)) 0 0 (va_A [(m0, .inr (11, [.ref m_read, zi rl, zi rp, .ref m_gut, zi gl, zi gp, zi gx, zi gy, .ref m_text, zi tn, zi fn, .ref m_boat, .ref m_coins, zi vw, zi vm, zi vn, .ref m_rest, .ref m_ends, zl vc, .ref m_chan, .ref m_spl, zi fs, zi rn, .ref m_rf, .ref m_rr, .ref m_ik, .ref m_km, .ref m_kb, .ref m_kc, .ref m_kf, .ref m_kr])), (m_boat, .inl (y 0, 42, .inl (cI MB))), (m_coins, .inl (y 0, 144, .inl (cI MC))), (m_rest, .inl (y 0, 256, .inl (cI MRe)))] sz) := by
  refine W_of (own := RX12) (cc := cX12_orders) (maxL := 2) (ret := some .int) (by decide) rfl rfl (Nat.le_of_ble_eq_true rfl) (fun p e s m below meth c ls A hx hb hr hC hlocks hin0 hR0 hN hP hD hA hG hl => ?_)
  have hC0 := hC
  obtain ⟨-, -, hml, hown, hts⟩ := hC0
  have hK := hG.1
  have hS : va_S A s.heap s.heap [] := va_S.rf
  have hPr := hR0
  have hl : lv_has ls 2 [(0, .ref m0), (1, zi bq)] := hl
  have hB := hM.2 bq hbq.1 hbq.2
  obtain ⟨q1, q2, q3, q4, q5, q6, q7, q8, q9, qc⟩ := id hB
  have qf := hM.1
  refine lv_aload_n hx hb dX12_orders_0 rfl (lv_at hl 0 rfl) ?_
  refine lv_iload_n hx hb dX12_orders_1 rfl (lv_at hl 1 rfl) ?_
  refine z_pV (As := [zi bq]) (rest := []) hC (c_X12_isBoat l D y m0 m_read rl rp m_gut gl gp gx gy m_text tn fn m_boat m_coins vw vm vn m_rest m_ends vc m_chan m_spl fs rn m_rf m_rr m_ik m_km m_kb m_kc m_kf m_kr bq (by first | assumption | omega) (by first | assumption | omega)) (cwV 1 hts gX12_orders_X12_isBoat rfl rfl rfl (by decide +kernel) ⟨Nat.le_of_ble_eq_true rfl, Nat.le_of_ble_eq_true rfl⟩) hG (hP.sub (ws' := [(m0, .inr (11, [.ref m_read, zi rl, zi rp, .ref m_gut, zi gl, zi gp, zi gx, zi gy, .ref m_text, zi tn, zi fn, .ref m_boat, .ref m_coins, zi vw, zi vm, zi vn, .ref m_rest, .ref m_ends, zl vc, .ref m_chan, .ref m_spl, zi fs, zi rn, .ref m_rf, .ref m_rr, .ref m_ik, .ref m_km, .ref m_kb, .ref m_kc, .ref m_kf, .ref m_kr]))]) [0] rfl) 0 rfl rfl rfl hl.1 rfl (Nat.le_of_ble_eq_true rfl) dX12_orders_2 ⟨Nat.le_of_ble_eq_true rfl, Nat.le_of_ble_eq_true rfl⟩ ?_
  refine z_ifB_eq (tgt := 16) hx hb dX12_orders_5 (by decide) (fun c_5 => ?_) (fun c_5 => ?_)
  · exfalso; omega
  ·
    refine lv_aload_n hx hb dX12_orders_8 rfl (lv_at hl 0 rfl) ?_
    refine lv_iload_n hx hb dX12_orders_9 rfl (lv_at hl 1 rfl) ?_
    refine z_wV (As := [zi bq]) (rest := []) (wc := [(m0, .inr (11, [.ref m_read, zi rl, zi rp, .ref m_gut, zi gl, zi gp, zi gx, zi gy, .ref m_text, zi tn, zi fn, .ref m_boat, .ref m_coins, zi vw, zi vm, zi vn, .ref m_rest, .ref m_ends, zl vc, .ref m_chan, .ref m_spl, zi fs, zi rn, .ref m_rf, .ref m_rr, .ref m_ik, .ref m_km, .ref m_kb, .ref m_kc, .ref m_kf, .ref m_kr])), (m_boat, .inl (y 0, 42, .inl (cI MB))), (m_coins, .inl (y 0, 144, .inl (cI MC))), (m_rest, .inl (y 0, 256, .inl (cI MRe)))]) (wrest := []) hC (c_X12_layOrders l D y m0 m_read rl rp m_gut gl gp gx gy m_text tn fn m_boat m_coins vw vm vn m_rest m_ends vc m_chan m_spl fs rn m_rf m_rr m_ik m_km m_kb m_kc m_kf m_kr MB MC MRe bq (by first | assumption | omega) (by first | assumption | omega) _) (cwV 1 hts gX12_orders_X12_layOrders rfl rfl rfl (by decide +kernel) ⟨Nat.le_of_ble_eq_true rfl, Nat.le_of_ble_eq_true rfl⟩) hG hP hD hS hA [0, 1, 2, 3] [] rfl rfl (by decide) (by decide) (by decide) va_P_nil ro_nil 0 rfl rfl rfl hl.1 rfl (Nat.le_of_ble_eq_true rfl) dX12_orders_10 ⟨Nat.le_of_ble_eq_true rfl, Nat.le_of_ble_eq_true rfl⟩ (fun u9 H locs hw_5 hP hD hS => ?_)
    obtain ⟨vw2_1, vm2_2, vn2_3, MRe2_4⟩ := u9
    have hw_5 : ∀ t : Int, 0 ≤ t → t ≤ 1 * 2 ^ (MB (7 * bq + 6)).toNat - 1 → MRe2_4 t = wV (okB (MB (7 * bq)) (MB (7 * bq + 1)) (MB (7 * bq + 2)) (MB (7 * bq + 3)) (MB (7 * bq + 6)) (mCI MC bq) (mCJ MC bq) (mCW MC bq)) (MB (7 * bq + 6)) t := hw_5
    have hP : va_P D vwCl [(m0, .inr (11, [.ref m_read, zi rl, zi rp, .ref m_gut, zi gl, zi gp, zi gx, zi gy, .ref m_text, zi tn, zi fn, .ref m_boat, .ref m_coins, zi vw2_1, zi vm2_2, zi vn2_3, .ref m_rest, .ref m_ends, zl vc, .ref m_chan, .ref m_spl, zi fs, zi rn, .ref m_rf, .ref m_rr, .ref m_ik, .ref m_km, .ref m_kb, .ref m_kc, .ref m_kf, .ref m_kr])), (m_boat, .inl (y 0, 42, .inl (cI MB))), (m_coins, .inl (y 0, 144, .inl (cI MC))), (m_rest, .inl (y 0, 256, .inl (cI MRe2_4)))] H := hP
    have hD : va_D A [(m0, .inr (11, [.ref m_read, zi rl, zi rp, .ref m_gut, zi gl, zi gp, zi gx, zi gy, .ref m_text, zi tn, zi fn, .ref m_boat, .ref m_coins, zi vw2_1, zi vm2_2, zi vn2_3, .ref m_rest, .ref m_ends, zl vc, .ref m_chan, .ref m_spl, zi fs, zi rn, .ref m_rf, .ref m_rr, .ref m_ik, .ref m_km, .ref m_kb, .ref m_kc, .ref m_kf, .ref m_kr])), (m_boat, .inl (y 0, 42, .inl (cI MB))), (m_coins, .inl (y 0, 144, .inl (cI MC))), (m_rest, .inl (y 0, 256, .inl (cI MRe2_4)))] := hD
    refine lv_goto (tgt := 17) hx hb dX12_orders_13 (by decide) ?_
    exact z_iretW hx hb hr hlocks (vw2_1, vm2_2, vn2_3, MRe2_4) (rfl) (trivial) (hP.sub [0, 1, 2, 3] rfl) (hD.sub [0, 1, 2, 3] (by decide) rfl) hS dX12_orders_17
set_option maxHeartbeats 8000000 in
set_option maxRecDepth 100000 in
theorem c_X12_order_no (l : Launch) (D : va_G) (y : Nat → ClassId) (m0 : Nat) (m_read : Nat) (rl : Int) (rp : Int) (m_gut : Nat) (gl : Int) (gp : Int) (gx : Int) (gy : Int) (m_text : Nat) (tn : Int) (fn : Int) (m_boat : Nat) (m_coins : Nat) (vw : Int) (vm : Int) (vn : Int) (m_rest : Nat) (m_ends : Nat) (vc : Int) (m_chan : Nat) (m_spl : Nat) (fs : Int) (rn : Int) (m_rf : Nat) (m_rr : Nat) (m_ik : Nat) (m_km : Nat) (m_kb : Nat) (m_kc : Nat) (m_kf : Nat) (m_kr : Nat) (bq : Int) (kq : Int) (hbq : rI bq ∧ 0 ≤ fn ∧ fn ≤ 6 ∧ ¬ (0 ≤ bq ∧ bq < fn)) : Met l yX12_order wsX12_order ({ frames := 2, cells := 0, slots := 0, locals := 46 } : Room) (pPc D y [(m0, .inr (11, [.ref m_read, zi rl, zi rp, .ref m_gut, zi gl, zi gp, zi gx, zi gy, .ref m_text, zi tn, zi fn, .ref m_boat, .ref m_coins, zi vw, zi vm, zi vn, .ref m_rest, .ref m_ends, zl vc, .ref m_chan, .ref m_spl, zi fs, zi rn, .ref m_rf, .ref m_rr, .ref m_ik, .ref m_km, .ref m_kb, .ref m_kc, .ref m_kf, .ref m_kr]))] [.ref m0, zi bq, zi kq]) (qV (zi (-1))) 0 0 (fun _ => False) := by
  refine P_of (own := RX12) (cc := cX12_order) (maxL := 6) (ret := some .int) (by decide) rfl rfl (Nat.le_of_ble_eq_true rfl) (fun p e s m below meth c ls hx hb hr hC hlocks hPr hG hl => ?_)
  have hC0 := hC
  obtain ⟨-, -, hml, hown, hts⟩ := hC0
  have hK := hG.1
  have hl : lv_has ls 6 [(0, .ref m0), (1, zi bq), (2, zi kq)] := hl
  refine lv_aload_n hx hb dX12_order_0 rfl (lv_at hl 0 rfl) ?_
  refine lv_iload_n hx hb dX12_order_1 rfl (lv_at hl 1 rfl) ?_
  refine z_pV (As := [zi bq]) (rest := []) hC (c_X12_isBoat l D y m0 m_read rl rp m_gut gl gp gx gy m_text tn fn m_boat m_coins vw vm vn m_rest m_ends vc m_chan m_spl fs rn m_rf m_rr m_ik m_km m_kb m_kc m_kf m_kr bq (by first | assumption | omega) (by first | assumption | omega)) (cwV 1 hts gX12_order_X12_isBoat rfl rfl rfl (by decide +kernel) ⟨Nat.le_of_ble_eq_true rfl, Nat.le_of_ble_eq_true rfl⟩) hG (hPr.sub (ws' := [(m0, .inr (11, [.ref m_read, zi rl, zi rp, .ref m_gut, zi gl, zi gp, zi gx, zi gy, .ref m_text, zi tn, zi fn, .ref m_boat, .ref m_coins, zi vw, zi vm, zi vn, .ref m_rest, .ref m_ends, zl vc, .ref m_chan, .ref m_spl, zi fs, zi rn, .ref m_rf, .ref m_rr, .ref m_ik, .ref m_km, .ref m_kb, .ref m_kc, .ref m_kf, .ref m_kr]))]) [0] rfl) 0 rfl rfl rfl hl.1 rfl (Nat.le_of_ble_eq_true rfl) dX12_order_2 ⟨Nat.le_of_ble_eq_true rfl, Nat.le_of_ble_eq_true rfl⟩ ?_
  refine z_ifB_ne (tgt := 10) hx hb dX12_order_5 (by decide) (fun c_5 => ?_) (fun c_5 => ?_)
  · exfalso; omega
  ·
    refine z_iconst hx hb dX12_order_8 ?_
    exact z_iret0 hx hb hr hlocks (rfl) dX12_order_9
set_option maxHeartbeats 8000000 in
set_option maxRecDepth 100000 in
theorem c_X12_order (l : Launch) (D : va_G) (y : Nat → ClassId) (m0 : Nat) (m_read : Nat) (rl : Int) (rp : Int) (m_gut : Nat) (gl : Int) (gp : Int) (gx : Int) (gy : Int) (m_text : Nat) (tn : Int) (fn : Int) (m_boat : Nat) (m_coins : Nat) (vw : Int) (vm : Int) (vn : Int) (m_rest : Nat) (m_ends : Nat) (vc : Int) (m_chan : Nat) (m_spl : Nat) (fs : Int) (rn : Int) (m_rf : Nat) (m_rr : Nat) (m_ik : Nat) (m_km : Nat) (m_kb : Nat) (m_kc : Nat) (m_kf : Nat) (m_kr : Nat) (MB : Int → Int) (MC : Int → Int) (MRe : Int → Int) (bq : Int) (kq : Int) (hM : mbOK fn MB MC) (hbq : 0 ≤ bq ∧ bq < fn) (hk : rI kq) (sz : Nat) : Met l yX12_order wsX12_order ({ frames := 4, cells := 0, slots := 0, locals := 95 } : Room) (wPc D y [] [(m0, .inr (11, [.ref m_read, zi rl, zi rp, .ref m_gut, zi gl, zi gp, zi gx, zi gy, .ref m_text, zi tn, zi fn, .ref m_boat, .ref m_coins, zi vw, zi vm, zi vn, .ref m_rest, .ref m_ends, zl vc, .ref m_chan, .ref m_spl, zi fs, zi rn, .ref m_rf, .ref m_rr, .ref m_ik, .ref m_km, .ref m_kb, .ref m_kc, .ref m_kf, .ref m_kr])), (m_boat, .inl (y 0, 42, .inl (cI MB))), (m_coins, .inl (y 0, 144, .inl (cI MC))), (m_rest, .inl (y 0, 256, .inl (cI MRe)))] sz [.ref m0, zi bq, zi kq]) (wQ D (fun (x9 : Int × Int × Int × (Int → Int)) => match x9 with | (vw2, vm2, vn2, MRe2) => some (zi (ordV (okB (MB (7 * bq)) (MB (7 * bq + 1)) (MB (7 * bq + 2)) (MB (7 * bq + 3)) (MB (7 * bq + 6)) (mCI MC bq) (mCJ MC bq) (mCW MC bq)) (MB (7 * bq + 6)) kq))) (fun (x9 : Int × Int × Int × (Int → Int)) => match x9 with | (vw2, vm2, vn2, MRe2) => True) (fun (x9 : Int × Int × Int × (Int → Int)) => match x9 with | (vw2, vm2, vn2, MRe2) => [(m0, .inr (11, [.ref m_read, zi rl, zi rp, .ref m_gut, zi gl, zi gp, zi gx, zi gy, .ref m_text, zi tn, zi fn, .ref m_boat, .ref m_coins, zi vw2, zi vm2, zi vn2, .ref m_rest, .ref m_ends, zl vc, .ref m_chan, .ref m_spl, zi fs, zi rn, .ref m_rf, .ref m_rr, .ref m_ik, .ref m_km, .ref m_kb, .ref m_kc, .ref m_kf, .ref m_kr])), (m_boat, .inl (y 0, 42, .inl (cI MB))), (m_coins, .inl (y 0, 144, .inl (cI MC))), (m_rest, .inl (y 0, 256, .inl (cI MRe2)))]) (va_A [(m0, .inr (11, [.ref m_read, zi rl, zi rp, .ref m_gut, zi gl, zi gp, zi gx, zi gy, .ref m_text, zi tn, zi fn, .ref m_boat, .ref m_coins, zi vw, zi vm, zi vn, .ref m_rest, .ref m_ends, zl vc, .ref m_chan, .ref m_spl, zi fs, zi rn, .ref m_rf, .ref m_rr, .ref m_ik, .ref m_km, .ref m_kb, .ref m_kc, .ref m_kf, .ref m_kr])), (m_boat, .inl (y 0, 42, .inl (cI MB))), (m_coins, .inl (y 0, 144, .inl (cI MC))), (m_rest, .inl (y 0, 256, .inl (cI MRe)))] sz)) 0 0 (va_A [(m0, .inr (11, [.ref m_read, zi rl, zi rp, .ref m_gut, zi gl, zi gp, zi gx, zi gy, .ref m_text, zi tn, zi fn, .ref m_boat, .ref m_coins, zi vw, zi vm, zi vn, .ref m_rest, .ref m_ends, zl vc, .ref m_chan, .ref m_spl, zi fs, zi rn, .ref m_rf, .ref m_rr, .ref m_ik, .ref m_km, .ref m_kb, .ref m_kc, .ref m_kf, .ref m_kr])), (m_boat, .inl (y 0, 42, .inl (cI MB))), (m_coins, .inl (y 0, 144, .inl (cI MC))), (m_rest, .inl (y 0, 256, .inl (cI MRe)))] sz) := by
  refine W_of (own := RX12) (cc := cX12_order) (maxL := 6) (ret := some .int) (by decide) rfl rfl (Nat.le_of_ble_eq_true rfl) (fun p e s m below meth c ls A hx hb hr hC hlocks hin0 hR0 hN hP hD hA hG hl => ?_)
  have hC0 := hC
  obtain ⟨-, -, hml, hown, hts⟩ := hC0
  have hK := hG.1
  have hS : va_S A s.heap s.heap [] := va_S.rf
  have hPr := hR0
  have hinX12 : ∀ w ∈ wsX120, w ∈ wsX12_order := fun _ h => List.mem_cons_of_mem _ (List.mem_append_right _ h)
  have k1 := hts (.fieldLink RX12 19 "BoatsOfPaperModel" "boat" "[I") (List.mem_of_getElem? (i := 1) rfl)
  have k2 := hts (.fieldLink RX12 25 "BoatsOfPaperModel" "rest" "[I") (List.mem_of_getElem? (i := 2) rfl)
  have hl : lv_has ls 6 [(0, .ref m0), (1, zi bq), (2, zi kq)] := hl
  have hB := hM.2 bq hbq.1 hbq.2
  obtain ⟨q1, q2, q3, q4, q5, q6, q7, q8, q9, qc⟩ := id hB
  have qf := hM.1
  have b2 := pow8 (k := MB (7 * bq + 6)) (by omega)
  have b3 := wV_bd (okB (MB (7 * bq)) (MB (7 * bq + 1)) (MB (7 * bq + 2)) (MB (7 * bq + 3)) (MB (7 * bq + 6)) (mCI MC bq) (mCJ MC bq) (mCW MC bq)) (n := (MB (7 * bq + 6))) (t := 0) (by omega) (by omega) (by omega)
  refine lv_aload_n hx hb dX12_order_0 rfl (lv_at hl 0 rfl) ?_
  refine lv_iload_n hx hb dX12_order_1 rfl (lv_at hl 1 rfl) ?_
  refine z_pV (As := [zi bq]) (rest := []) hC (c_X12_isBoat l D y m0 m_read rl rp m_gut gl gp gx gy m_text tn fn m_boat m_coins vw vm vn m_rest m_ends vc m_chan m_spl fs rn m_rf m_rr m_ik m_km m_kb m_kc m_kf m_kr bq (by first | assumption | omega) (by first | assumption | omega)) (cwV 1 hts gX12_order_X12_isBoat rfl rfl rfl (by decide +kernel) ⟨Nat.le_of_ble_eq_true rfl, Nat.le_of_ble_eq_true rfl⟩) hG (hP.sub (ws' := [(m0, .inr (11, [.ref m_read, zi rl, zi rp, .ref m_gut, zi gl, zi gp, zi gx, zi gy, .ref m_text, zi tn, zi fn, .ref m_boat, .ref m_coins, zi vw, zi vm, zi vn, .ref m_rest, .ref m_ends, zl vc, .ref m_chan, .ref m_spl, zi fs, zi rn, .ref m_rf, .ref m_rr, .ref m_ik, .ref m_km, .ref m_kb, .ref m_kc, .ref m_kf, .ref m_kr]))]) [0] rfl) 0 rfl rfl rfl hl.1 rfl (Nat.le_of_ble_eq_true rfl) dX12_order_2 ⟨Nat.le_of_ble_eq_true rfl, Nat.le_of_ble_eq_true rfl⟩ ?_
  refine z_ifB_ne (tgt := 10) hx hb dX12_order_5 (by decide) (fun c_5 => ?_) (fun c_5 => ?_)
  ·
    refine lv_iload_n hx hb dX12_order_10 rfl (lv_at hl 2 rfl) ?_
    refine z_i2l hx hb (by omega) dX12_order_11 ?_
    refine lv_lconst (v := iL 0) hx hb dX12_order_12 rfl ?_
    refine lv_aload_n hx hb dX12_order_13 rfl (lv_at hl 0 rfl) ?_
    refine va_get hx hb hts hinX12 hown hK hP 0 rfl rfl 11 (by decide) k1 (fun _ h => h) rfl dX12_order_14 ?_
    refine z_bipush hx hb dX12_order_17 (by decide) ?_
    refine lv_iload_n hx hb dX12_order_19 rfl (lv_at hl 1 rfl) ?_
    refine z_imul hx hb dX12_order_20 ?_
    refine z_bipush hx hb dX12_order_21 (by decide) ?_
    refine z_iadd hx hb dX12_order_23 ?_
    refine z_iald hx hb hK hP 1 0 rfl rfl (by omega) (by decide) dX12_order_24 ?_
    refine z_iconst hx hb dX12_order_25 ?_
    refine z_isub hx hb dX12_order_26 ?_
    refine z_i2l hx hb (by omega) dX12_order_27 ?_
    refine z_pS (As := [zl kq, zl 0, zl ((MB ((7 * bq) + 6)) - 1)]) (rest := []) hC (c_X12_in l D y kq 0 ((MB ((7 * bq) + 6)) - 1) (by first | assumption | omega)) (va_cwS 3 hts gX12_order_X12_in rfl rfl rfl (by decide +kernel) ⟨Nat.le_of_ble_eq_true rfl, Nat.le_of_ble_eq_true rfl⟩) hG va_P_nil rfl hl.1 rfl (Nat.le_of_ble_eq_true rfl) dX12_order_28 ⟨Nat.le_of_ble_eq_true rfl, Nat.le_of_ble_eq_true rfl⟩ ?_
    refine z_ifB_eq (tgt := 42) hx hb dX12_order_31 (by decide) (fun c_31 => ?_) (fun c_31 => ?_)
    ·
      refine z_bipush hx hb dX12_order_42 (by decide) ?_
      exact z_iretW hx hb hr hlocks (vw, vm, vn, MRe) (by show some (zi _) = _; unfold ordV; rw [if_pos (by omega)]) (trivial) (hP.sub [0, 1, 2, 3] rfl) (hD.sub [0, 1, 2, 3] (by decide) rfl) hS dX12_order_44
    ·
      refine lv_aload_n hx hb dX12_order_34 rfl (lv_at hl 0 rfl) ?_
      refine lv_iload_n hx hb dX12_order_35 rfl (lv_at hl 1 rfl) ?_
      refine z_wV (As := [zi bq]) (rest := []) (wc := [(m0, .inr (11, [.ref m_read, zi rl, zi rp, .ref m_gut, zi gl, zi gp, zi gx, zi gy, .ref m_text, zi tn, zi fn, .ref m_boat, .ref m_coins, zi vw, zi vm, zi vn, .ref m_rest, .ref m_ends, zl vc, .ref m_chan, .ref m_spl, zi fs, zi rn, .ref m_rf, .ref m_rr, .ref m_ik, .ref m_km, .ref m_kb, .ref m_kc, .ref m_kf, .ref m_kr])), (m_boat, .inl (y 0, 42, .inl (cI MB))), (m_coins, .inl (y 0, 144, .inl (cI MC))), (m_rest, .inl (y 0, 256, .inl (cI MRe)))]) (wrest := []) hC (c_X12_layOrders l D y m0 m_read rl rp m_gut gl gp gx gy m_text tn fn m_boat m_coins vw vm vn m_rest m_ends vc m_chan m_spl fs rn m_rf m_rr m_ik m_km m_kb m_kc m_kf m_kr MB MC MRe bq (by first | assumption | omega) (by first | assumption | omega) _) (cwV 1 hts gX12_order_X12_layOrders rfl rfl rfl (by decide +kernel) ⟨Nat.le_of_ble_eq_true rfl, Nat.le_of_ble_eq_true rfl⟩) hG hP hD hS hA [0, 1, 2, 3] [] rfl rfl (by decide) (by decide) (by decide) va_P_nil ro_nil 0 rfl rfl rfl hl.1 rfl (Nat.le_of_ble_eq_true rfl) dX12_order_36 ⟨Nat.le_of_ble_eq_true rfl, Nat.le_of_ble_eq_true rfl⟩ (fun u9 H locs hw_5 hP hD hS => ?_)
      obtain ⟨vw2_1, vm2_2, vn2_3, MRe2_4⟩ := u9
      have hw_5 : ∀ t : Int, 0 ≤ t → t ≤ 1 * 2 ^ (MB (7 * bq + 6)).toNat - 1 → MRe2_4 t = wV (okB (MB (7 * bq)) (MB (7 * bq + 1)) (MB (7 * bq + 2)) (MB (7 * bq + 3)) (MB (7 * bq + 6)) (mCI MC bq) (mCJ MC bq) (mCW MC bq)) (MB (7 * bq + 6)) t := hw_5
      have hP : va_P D vwCl [(m0, .inr (11, [.ref m_read, zi rl, zi rp, .ref m_gut, zi gl, zi gp, zi gx, zi gy, .ref m_text, zi tn, zi fn, .ref m_boat, .ref m_coins, zi vw2_1, zi vm2_2, zi vn2_3, .ref m_rest, .ref m_ends, zl vc, .ref m_chan, .ref m_spl, zi fs, zi rn, .ref m_rf, .ref m_rr, .ref m_ik, .ref m_km, .ref m_kb, .ref m_kc, .ref m_kf, .ref m_kr])), (m_boat, .inl (y 0, 42, .inl (cI MB))), (m_coins, .inl (y 0, 144, .inl (cI MC))), (m_rest, .inl (y 0, 256, .inl (cI MRe2_4)))] H := hP
      have hD : va_D A [(m0, .inr (11, [.ref m_read, zi rl, zi rp, .ref m_gut, zi gl, zi gp, zi gx, zi gy, .ref m_text, zi tn, zi fn, .ref m_boat, .ref m_coins, zi vw2_1, zi vm2_2, zi vn2_3, .ref m_rest, .ref m_ends, zl vc, .ref m_chan, .ref m_spl, zi fs, zi rn, .ref m_rf, .ref m_rr, .ref m_ik, .ref m_km, .ref m_kb, .ref m_kc, .ref m_kf, .ref m_kr])), (m_boat, .inl (y 0, 42, .inl (cI MB))), (m_coins, .inl (y 0, 144, .inl (cI MC))), (m_rest, .inl (y 0, 256, .inl (cI MRe2_4)))] := hD
      have hY := hw_5
      refine z_if_ne (tgt := 45) hx hb (by omega) dX12_order_39 (by decide) (fun c_39 => ?_) (fun c_39 => ?_)
      ·
        refine z_iconst hx hb dX12_order_45 ?_
        refine lv_istore_n (lv' := [(3, zi 0), (0, .ref m0), (1, zi bq), (2, zi kq)]) hx hb dX12_order_46 rfl hl (by decide) rfl (fun ls hl => ?_)
        refine z_bipush hx hb dX12_order_47 (by decide) ?_
        refine lv_istore (lv' := [(4, zi (-9)), (3, zi 0), (0, .ref m0), (1, zi bq), (2, zi kq)]) hx hb dX12_order_49 hl (by decide) rfl (fun ls hl => ?_)
        refine z_iconst hx hb dX12_order_51 ?_
        refine lv_istore (lv' := [(5, zi 0), (4, zi (-9)), (3, zi 0), (0, .ref m0), (1, zi bq), (2, zi kq)]) hx hb dX12_order_52 hl (by decide) rfl (fun ls hl => ?_)
        refine z_loop (σ := Int × Int × Int) (fun x9 H lc ls => match x9 with | (zq, cq, i9) => ((0 ≤ i9 ∧ i9 ≤ kq + 1) ∧ zq = (setF (okB (MB (7 * bq)) (MB (7 * bq + 1)) (MB (7 * bq + 2)) (MB (7 * bq + 3)) (MB (7 * bq + 6)) (mCI MC bq) (mCJ MC bq) (mCW MC bq)) (MB (7 * bq + 6)) i9.toNat) ∧ (0 < i9 → cq = nxV (okB (MB (7 * bq)) (MB (7 * bq + 1)) (MB (7 * bq + 2)) (MB (7 * bq + 3)) (MB (7 * bq + 6)) (mCI MC bq) (mCJ MC bq) (mCW MC bq)) (MB (7 * bq + 6)) (setF (okB (MB (7 * bq)) (MB (7 * bq + 1)) (MB (7 * bq + 2)) (MB (7 * bq + 3)) (MB (7 * bq + 6)) (mCI MC bq) (mCJ MC bq) (mCW MC bq)) (MB (7 * bq + 6)) (i9 - 1).toNat))) ∧ lv_has ls 6 [(5, zi i9), (4, zi cq), (3, zi zq), (0, .ref m0), (1, zi bq), (2, zi kq)] ∧ va_P D vwCl [(m0, .inr (11, [.ref m_read, zi rl, zi rp, .ref m_gut, zi gl, zi gp, zi gx, zi gy, .ref m_text, zi tn, zi fn, .ref m_boat, .ref m_coins, zi vw2_1, zi vm2_2, zi vn2_3, .ref m_rest, .ref m_ends, zl vc, .ref m_chan, .ref m_spl, zi fs, zi rn, .ref m_rf, .ref m_rr, .ref m_ik, .ref m_km, .ref m_kb, .ref m_kc, .ref m_kf, .ref m_kr])), (m_boat, .inl (y 0, 42, .inl (cI MB))), (m_coins, .inl (y 0, 144, .inl (cI MC))), (m_rest, .inl (y 0, 256, .inl (cI MRe2_4)))] H ∧ va_D A [(m0, .inr (11, [.ref m_read, zi rl, zi rp, .ref m_gut, zi gl, zi gp, zi gx, zi gy, .ref m_text, zi tn, zi fn, .ref m_boat, .ref m_coins, zi vw2_1, zi vm2_2, zi vn2_3, .ref m_rest, .ref m_ends, zl vc, .ref m_chan, .ref m_spl, zi fs, zi rn, .ref m_rf, .ref m_rr, .ref m_ik, .ref m_km, .ref m_kb, .ref m_kc, .ref m_kf, .ref m_kr])), (m_boat, .inl (y 0, 42, .inl (cI MB))), (m_coins, .inl (y 0, 144, .inl (cI MC))), (m_rest, .inl (y 0, 256, .inl (cI MRe2_4)))] ∧ va_S A s.heap H lc) (fun x9  => match x9 with | (zq, cq, i9) => ((kq + 1 - i9).toNat)) ?_ (0, (-9), 0) ⟨⟨by omega, rfl, fun _ => by omega⟩, lv_sub hl [0, 1, 2, 3, 4, 5] rfl, hP.sub [0, 1, 2, 3] rfl, hD.sub [0, 1, 2, 3] (by decide) rfl, hS⟩
        rintro ⟨zq, cq, i9⟩ H lc ls ⟨hi54, hl, hP, hD, hS⟩ ih54
        have hP : va_P D vwCl [(m0, .inr (11, [.ref m_read, zi rl, zi rp, .ref m_gut, zi gl, zi gp, zi gx, zi gy, .ref m_text, zi tn, zi fn, .ref m_boat, .ref m_coins, zi vw2_1, zi vm2_2, zi vn2_3, .ref m_rest, .ref m_ends, zl vc, .ref m_chan, .ref m_spl, zi fs, zi rn, .ref m_rf, .ref m_rr, .ref m_ik, .ref m_km, .ref m_kb, .ref m_kc, .ref m_kf, .ref m_kr])), (m_boat, .inl (y 0, 42, .inl (cI MB))), (m_coins, .inl (y 0, 144, .inl (cI MC))), (m_rest, .inl (y 0, 256, .inl (cI MRe2_4)))] H := hP
        have hD : va_D A [(m0, .inr (11, [.ref m_read, zi rl, zi rp, .ref m_gut, zi gl, zi gp, zi gx, zi gy, .ref m_text, zi tn, zi fn, .ref m_boat, .ref m_coins, zi vw2_1, zi vm2_2, zi vn2_3, .ref m_rest, .ref m_ends, zl vc, .ref m_chan, .ref m_spl, zi fs, zi rn, .ref m_rf, .ref m_rr, .ref m_ik, .ref m_km, .ref m_kb, .ref m_kc, .ref m_kf, .ref m_kr])), (m_boat, .inl (y 0, 42, .inl (cI MB))), (m_coins, .inl (y 0, 144, .inl (cI MC))), (m_rest, .inl (y 0, 256, .inl (cI MRe2_4)))] := hD
        obtain ⟨j1, j2, j3⟩ := hi54
        refine lv_iload hx hb dX12_order_54 (lv_at hl 0 rfl) ?_
        refine lv_iload_n hx hb dX12_order_56 rfl (lv_at hl 5 rfl) ?_
        refine z_icmp_gt (tgt := 106) hx hb (by omega) (by omega) dX12_order_57 (by decide) (fun c_57 => ?_) (fun c_57 => ?_)
        ·
          refine lv_iload hx hb dX12_order_106 (lv_at hl 1 rfl) ?_
          exact z_iretW hx hb hr hlocks (vw2_1, vm2_2, vn2_3, MRe2_4) (by show some (zi _) = _; unfold ordV; rw [if_neg (by omega), j3 (by omega), show i9 - 1 = kq by omega]) (trivial) (hP.sub [0, 1, 2, 3] rfl) (hD.sub [0, 1, 2, 3] (by decide) rfl) hS dX12_order_108
        ·
          obtain ⟨n1, n2, n3, n4, n5⟩ := nx_at (okB (MB (7 * bq)) (MB (7 * bq + 1)) (MB (7 * bq + 2)) (MB (7 * bq + 3)) (MB (7 * bq + 6)) (mCI MC bq) (mCJ MC bq) (mCW MC bq)) (n := (MB (7 * bq + 6))) (by omega) (by omega) (i := i9) (by omega) (by omega)
          rw [← j2] at n1 n2 n3 n4 n5
          refine z_iconst hx hb dX12_order_60 ?_
          refine lv_istore (lv' := [(4, zi 0), (5, zi i9), (3, zi zq), (0, .ref m0), (1, zi bq), (2, zi kq)]) hx hb dX12_order_61 hl (by decide) rfl (fun ls hl => ?_)
          refine z_loop (σ := Int) (fun cq H lc ls => (0 ≤ cq ∧ cq ≤ nxV (okB (MB (7 * bq)) (MB (7 * bq + 1)) (MB (7 * bq + 2)) (MB (7 * bq + 3)) (MB (7 * bq + 6)) (mCI MC bq) (mCJ MC bq) (mCW MC bq)) (MB (7 * bq + 6)) zq) ∧ lv_has ls 6 [(4, zi cq), (5, zi i9), (3, zi zq), (0, .ref m0), (1, zi bq), (2, zi kq)] ∧ va_P D vwCl [(m0, .inr (11, [.ref m_read, zi rl, zi rp, .ref m_gut, zi gl, zi gp, zi gx, zi gy, .ref m_text, zi tn, zi fn, .ref m_boat, .ref m_coins, zi vw2_1, zi vm2_2, zi vn2_3, .ref m_rest, .ref m_ends, zl vc, .ref m_chan, .ref m_spl, zi fs, zi rn, .ref m_rf, .ref m_rr, .ref m_ik, .ref m_km, .ref m_kb, .ref m_kc, .ref m_kf, .ref m_kr])), (m_boat, .inl (y 0, 42, .inl (cI MB))), (m_coins, .inl (y 0, 144, .inl (cI MC))), (m_rest, .inl (y 0, 256, .inl (cI MRe2_4)))] H ∧ va_D A [(m0, .inr (11, [.ref m_read, zi rl, zi rp, .ref m_gut, zi gl, zi gp, zi gx, zi gy, .ref m_text, zi tn, zi fn, .ref m_boat, .ref m_coins, zi vw2_1, zi vm2_2, zi vn2_3, .ref m_rest, .ref m_ends, zl vc, .ref m_chan, .ref m_spl, zi fs, zi rn, .ref m_rf, .ref m_rr, .ref m_ik, .ref m_km, .ref m_kb, .ref m_kc, .ref m_kf, .ref m_kr])), (m_boat, .inl (y 0, 42, .inl (cI MB))), (m_coins, .inl (y 0, 144, .inl (cI MC))), (m_rest, .inl (y 0, 256, .inl (cI MRe2_4)))] ∧ va_S A s.heap H lc) (fun cq  => ((nxV (okB (MB (7 * bq)) (MB (7 * bq + 1)) (MB (7 * bq + 2)) (MB (7 * bq + 3)) (MB (7 * bq + 6)) (mCI MC bq) (mCJ MC bq) (mCW MC bq)) (MB (7 * bq + 6)) zq - cq).toNat)) ?_ 0 ⟨⟨by omega, n2.1⟩, lv_sub hl [0, 1, 2, 3, 4, 5] rfl, hP.sub [0, 1, 2, 3] rfl, hD.sub [0, 1, 2, 3] (by decide) rfl, hS⟩
          rintro cq H lc ls ⟨hi63, hl, hP, hD, hS⟩ ih63
          have hP : va_P D vwCl [(m0, .inr (11, [.ref m_read, zi rl, zi rp, .ref m_gut, zi gl, zi gp, zi gx, zi gy, .ref m_text, zi tn, zi fn, .ref m_boat, .ref m_coins, zi vw2_1, zi vm2_2, zi vn2_3, .ref m_rest, .ref m_ends, zl vc, .ref m_chan, .ref m_spl, zi fs, zi rn, .ref m_rf, .ref m_rr, .ref m_ik, .ref m_km, .ref m_kb, .ref m_kc, .ref m_kf, .ref m_kr])), (m_boat, .inl (y 0, 42, .inl (cI MB))), (m_coins, .inl (y 0, 144, .inl (cI MC))), (m_rest, .inl (y 0, 256, .inl (cI MRe2_4)))] H := hP
          have hD : va_D A [(m0, .inr (11, [.ref m_read, zi rl, zi rp, .ref m_gut, zi gl, zi gp, zi gx, zi gy, .ref m_text, zi tn, zi fn, .ref m_boat, .ref m_coins, zi vw2_1, zi vm2_2, zi vn2_3, .ref m_rest, .ref m_ends, zl vc, .ref m_chan, .ref m_spl, zi fs, zi rn, .ref m_rf, .ref m_rr, .ref m_ik, .ref m_km, .ref m_kb, .ref m_kc, .ref m_kf, .ref m_kr])), (m_boat, .inl (y 0, 42, .inl (cI MB))), (m_coins, .inl (y 0, 144, .inl (cI MC))), (m_rest, .inl (y 0, 256, .inl (cI MRe2_4)))] := hD
          refine lv_iload_n hx hb dX12_order_63 rfl (lv_at hl 2 rfl) ?_
          refine lv_iload hx hb dX12_order_64 (lv_at hl 0 rfl) ?_
          refine z_ishr hx hb (by omega) dX12_order_66 ?_
          have d4 := Int.ediv_nonneg (a := zq) (b := 2 ^ cq.toNat) (by omega) (Int.le_of_lt (two_pos _))
          have d5 := Int.ediv_le_self (a := zq) (2 ^ cq.toNat) (by omega)
          refine z_iconst hx hb dX12_order_67 ?_
          refine z_iand1 hx hb (by omega) dX12_order_68 ?_
          refine z_iconst hx hb dX12_order_69 ?_
          refine z_icmp_eq (tgt := 87) hx hb (by omega) (by omega) dX12_order_70 (by decide) (fun c_70 => ?_) (fun c_70 => ?_)
          ·
            have ct : cq < nxV (okB (MB (7 * bq)) (MB (7 * bq + 1)) (MB (7 * bq + 2)) (MB (7 * bq + 3)) (MB (7 * bq + 6)) (mCI MC bq) (mCJ MC bq) (mCW MC bq)) (MB (7 * bq + 6)) zq := (by rcases Int.lt_or_eq_of_le hi63.2 with q | q <;> first | exact q | (exfalso; subst q; omega))
            refine z_iinc (k := 0) (lv' := [(4, zi (cq + 1)), (5, zi i9), (3, zi zq), (0, .ref m0), (1, zi bq), (2, zi kq)]) hx hb dX12_order_87 hl rfl (by decide) rfl (fun ls hl => ?_)
            refine lv_goto (tgt := 63) hx hb dX12_order_90 (by decide) ?_
            exact ih63 (cq + 1) _ _ _ (by first | (dsimp only; omega) | omega) ⟨⟨by omega, by omega⟩, lv_sub hl [0, 1, 2, 3, 4, 5] rfl, hP.sub [0, 1, 2, 3] rfl, hD.sub [0, 1, 2, 3] (by decide) rfl, hS⟩
          ·
            have b7 := pow7 (k := cq) (by omega)
            have b8 := bor_lt (n := (MB (7 * bq + 6)).toNat) (c := cq.toNat) n1.1 (by omega) (by omega)
            have b9 := bor_nn zq (1 * 2 ^ cq.toNat)
            have b10 := hY (bor zq (1 * 2 ^ cq.toNat)) b9 (by omega)
            have b11 := wV_bd (okB (MB (7 * bq)) (MB (7 * bq + 1)) (MB (7 * bq + 2)) (MB (7 * bq + 3)) (MB (7 * bq + 6)) (mCI MC bq) (mCJ MC bq) (mCW MC bq)) (n := (MB (7 * bq + 6))) (t := bor zq (1 * 2 ^ cq.toNat)) (by omega) b9 (by omega)
            refine lv_aload_n hx hb dX12_order_73 rfl (lv_at hl 3 rfl) ?_
            refine va_get hx hb hts hinX12 hown hK hP 0 rfl rfl 16 (by decide) k2 (fun _ h => h) rfl dX12_order_74 ?_
            refine lv_iload_n hx hb dX12_order_77 rfl (lv_at hl 2 rfl) ?_
            refine z_iconst hx hb dX12_order_78 ?_
            refine lv_iload hx hb dX12_order_79 (lv_at hl 0 rfl) ?_
            refine z_ishl hx hb (by omega) dX12_order_81 ?_
            refine z_ior hx hb (by omega) dX12_order_82 ?_
            refine z_iald hx hb hK hP 3 0 rfl rfl (by omega) (by decide) dX12_order_83 ?_
            refine z_if_ne (tgt := 93) hx hb (by omega) dX12_order_84 (by decide) (fun c_84 => ?_) (fun c_84 => ?_)
            ·
              have ex : cq = nxV (okB (MB (7 * bq)) (MB (7 * bq + 1)) (MB (7 * bq + 2)) (MB (7 * bq + 3)) (MB (7 * bq + 6)) (mCI MC bq) (mCJ MC bq) (mCW MC bq)) (MB (7 * bq + 6)) zq := (by rcases Int.lt_or_eq_of_le hi63.2 with q | q <;> first | exact q | exact absurd ⟨by have := bt01 zq cq.toNat; omega, by omega⟩ (n5 cq hi63.1 q))
              refine lv_iload_n hx hb dX12_order_93 rfl (lv_at hl 2 rfl) ?_
              refine z_iconst hx hb dX12_order_94 ?_
              refine lv_iload hx hb dX12_order_95 (lv_at hl 0 rfl) ?_
              refine z_ishl hx hb (by omega) dX12_order_97 ?_
              refine z_ior hx hb (by omega) dX12_order_98 ?_
              refine lv_istore_n (lv' := [(3, zi (bor zq (1 * 2 ^ cq.toNat))), (4, zi cq), (5, zi i9), (0, .ref m0), (1, zi bq), (2, zi kq)]) hx hb dX12_order_99 rfl hl (by decide) rfl (fun ls hl => ?_)
              refine z_iinc (k := 2) (lv' := [(5, zi (i9 + 1)), (3, zi (bor zq (1 * 2 ^ cq.toNat))), (4, zi cq), (0, .ref m0), (1, zi bq), (2, zi kq)]) hx hb dX12_order_100 hl rfl (by decide) rfl (fun ls hl => ?_)
              refine lv_goto (tgt := 54) hx hb dX12_order_103 (by decide) ?_
              exact ih54 (bor zq (1 * 2 ^ cq.toNat), cq, i9 + 1) _ _ _ (by first | (dsimp only; omega) | omega) ⟨⟨by omega, by rw [show (i9 + 1).toNat = i9.toNat + 1 by omega, ex, j2]; first | done | rfl, fun _ => by rw [show i9 + 1 - 1 = i9 by omega, ex, ← j2]⟩, lv_sub hl [0, 2, 1, 3, 4, 5] rfl, hP.sub [0, 1, 2, 3] rfl, hD.sub [0, 1, 2, 3] (by decide) rfl, hS⟩
            ·
              have ct : cq < nxV (okB (MB (7 * bq)) (MB (7 * bq + 1)) (MB (7 * bq + 2)) (MB (7 * bq + 3)) (MB (7 * bq + 6)) (mCI MC bq) (mCJ MC bq) (mCW MC bq)) (MB (7 * bq + 6)) zq := (by rcases Int.lt_or_eq_of_le hi63.2 with q | q <;> first | exact q | (exfalso; subst q; omega))
              refine z_iinc (k := 0) (lv' := [(4, zi (cq + 1)), (5, zi i9), (3, zi zq), (0, .ref m0), (1, zi bq), (2, zi kq)]) hx hb dX12_order_87 hl rfl (by decide) rfl (fun ls hl => ?_)
              refine lv_goto (tgt := 63) hx hb dX12_order_90 (by decide) ?_
              exact ih63 (cq + 1) _ _ _ (by first | (dsimp only; omega) | omega) ⟨⟨by omega, by omega⟩, lv_sub hl [0, 1, 2, 3, 4, 5] rfl, hP.sub [0, 1, 2, 3] rfl, hD.sub [0, 1, 2, 3] (by decide) rfl, hS⟩
      ·
        refine z_bipush hx hb dX12_order_42 (by decide) ?_
        exact z_iretW hx hb hr hlocks (vw2_1, vm2_2, vn2_3, MRe2_4) (by show some (zi _) = _; unfold ordV; rw [if_pos (by omega)]) (trivial) (hP.sub [0, 1, 2, 3] rfl) (hD.sub [0, 1, 2, 3] (by decide) rfl) hS dX12_order_44
  · exfalso; omega
set_option maxHeartbeats 8000000 in
set_option maxRecDepth 100000 in
theorem c_X12_needs_no (l : Launch) (D : va_G) (y : Nat → ClassId) (m0 : Nat) (m_read : Nat) (rl : Int) (rp : Int) (m_gut : Nat) (gl : Int) (gp : Int) (gx : Int) (gy : Int) (m_text : Nat) (tn : Int) (fn : Int) (m_boat : Nat) (m_coins : Nat) (vw : Int) (vm : Int) (vn : Int) (m_rest : Nat) (m_ends : Nat) (vc : Int) (m_chan : Nat) (m_spl : Nat) (fs : Int) (rn : Int) (m_rf : Nat) (m_rr : Nat) (m_ik : Nat) (m_km : Nat) (m_kb : Nat) (m_kc : Nat) (m_kf : Nat) (m_kr : Nat) (bq : Int) (ts : Int) (hbq : rI bq ∧ 0 ≤ fn ∧ fn ≤ 6 ∧ ¬ (0 ≤ bq ∧ bq < fn)) : Met l yX12_needs wsX12_needs ({ frames := 2, cells := 0, slots := 0, locals := 46 } : Room) (pPc D y [(m0, .inr (11, [.ref m_read, zi rl, zi rp, .ref m_gut, zi gl, zi gp, zi gx, zi gy, .ref m_text, zi tn, zi fn, .ref m_boat, .ref m_coins, zi vw, zi vm, zi vn, .ref m_rest, .ref m_ends, zl vc, .ref m_chan, .ref m_spl, zi fs, zi rn, .ref m_rf, .ref m_rr, .ref m_ik, .ref m_km, .ref m_kb, .ref m_kc, .ref m_kf, .ref m_kr]))] [.ref m0, zi bq, zi ts]) (qV (zi (-1))) 0 0 (fun _ => False) := by
  refine P_of (own := RX12) (cc := cX12_needs) (maxL := 4) (ret := some .int) (by decide) rfl rfl (Nat.le_of_ble_eq_true rfl) (fun p e s m below meth c ls hx hb hr hC hlocks hPr hG hl => ?_)
  have hC0 := hC
  obtain ⟨-, -, hml, hown, hts⟩ := hC0
  have hK := hG.1
  have hl : lv_has ls 4 [(0, .ref m0), (1, zi bq), (2, zi ts)] := hl
  refine lv_aload_n hx hb dX12_needs_0 rfl (lv_at hl 0 rfl) ?_
  refine lv_iload_n hx hb dX12_needs_1 rfl (lv_at hl 1 rfl) ?_
  refine z_pV (As := [zi bq]) (rest := []) hC (c_X12_isBoat l D y m0 m_read rl rp m_gut gl gp gx gy m_text tn fn m_boat m_coins vw vm vn m_rest m_ends vc m_chan m_spl fs rn m_rf m_rr m_ik m_km m_kb m_kc m_kf m_kr bq (by first | assumption | omega) (by first | assumption | omega)) (cwV 1 hts gX12_needs_X12_isBoat rfl rfl rfl (by decide +kernel) ⟨Nat.le_of_ble_eq_true rfl, Nat.le_of_ble_eq_true rfl⟩) hG (hPr.sub (ws' := [(m0, .inr (11, [.ref m_read, zi rl, zi rp, .ref m_gut, zi gl, zi gp, zi gx, zi gy, .ref m_text, zi tn, zi fn, .ref m_boat, .ref m_coins, zi vw, zi vm, zi vn, .ref m_rest, .ref m_ends, zl vc, .ref m_chan, .ref m_spl, zi fs, zi rn, .ref m_rf, .ref m_rr, .ref m_ik, .ref m_km, .ref m_kb, .ref m_kc, .ref m_kf, .ref m_kr]))]) [0] rfl) 0 rfl rfl rfl hl.1 rfl (Nat.le_of_ble_eq_true rfl) dX12_needs_2 ⟨Nat.le_of_ble_eq_true rfl, Nat.le_of_ble_eq_true rfl⟩ ?_
  refine z_ifB_ne (tgt := 10) hx hb dX12_needs_5 (by decide) (fun c_5 => ?_) (fun c_5 => ?_)
  · exfalso; omega
  ·
    refine z_iconst hx hb dX12_needs_8 ?_
    exact z_iret0 hx hb hr hlocks (rfl) dX12_needs_9
set_option maxHeartbeats 8000000 in
set_option maxRecDepth 100000 in
theorem c_X12_needs_out (l : Launch) (D : va_G) (y : Nat → ClassId) (m0 : Nat) (m_read : Nat) (rl : Int) (rp : Int) (m_gut : Nat) (gl : Int) (gp : Int) (gx : Int) (gy : Int) (m_text : Nat) (tn : Int) (fn : Int) (m_boat : Nat) (m_coins : Nat) (vw : Int) (vm : Int) (vn : Int) (m_rest : Nat) (m_ends : Nat) (vc : Int) (m_chan : Nat) (m_spl : Nat) (fs : Int) (rn : Int) (m_rf : Nat) (m_rr : Nat) (m_ik : Nat) (m_km : Nat) (m_kb : Nat) (m_kc : Nat) (m_kf : Nat) (m_kr : Nat) (MB : Int → Int) (MC : Int → Int) (bq : Int) (ts : Int) (hM : mbOK fn MB MC) (hbq : 0 ≤ bq ∧ bq < fn) (hr9 : rI ts) (hq : ¬ (0 ≤ ts ∧ ts ≤ 99)) : Met l yX12_needs wsX12_needs ({ frames := 2, cells := 0, slots := 0, locals := 46 } : Room) (pPc D y [(m0, .inr (11, [.ref m_read, zi rl, zi rp, .ref m_gut, zi gl, zi gp, zi gx, zi gy, .ref m_text, zi tn, zi fn, .ref m_boat, .ref m_coins, zi vw, zi vm, zi vn, .ref m_rest, .ref m_ends, zl vc, .ref m_chan, .ref m_spl, zi fs, zi rn, .ref m_rf, .ref m_rr, .ref m_ik, .ref m_km, .ref m_kb, .ref m_kc, .ref m_kf, .ref m_kr])), (m_boat, .inl (y 0, 42, .inl (cI MB))), (m_coins, .inl (y 0, 144, .inl (cI MC)))] [.ref m0, zi bq, zi ts]) (qV (zi (-2))) 0 0 (fun _ => False) := by
  refine P_of (own := RX12) (cc := cX12_needs) (maxL := 4) (ret := some .int) (by decide) rfl rfl (Nat.le_of_ble_eq_true rfl) (fun p e s m below meth c ls hx hb hr hC hlocks hPr hG hl => ?_)
  have hC0 := hC
  obtain ⟨-, -, hml, hown, hts⟩ := hC0
  have hK := hG.1
  have k1 := hts (.constantLong RX12 128 (99)) (List.mem_of_getElem? (i := 1) rfl)
  have hl : lv_has ls 4 [(0, .ref m0), (1, zi bq), (2, zi ts)] := hl
  have hB := hM.2 bq hbq.1 hbq.2
  obtain ⟨q1, q2, q3, q4, q5, q6, q7, q8, q9, qc⟩ := id hB
  have qf := hM.1
  refine lv_aload_n hx hb dX12_needs_0 rfl (lv_at hl 0 rfl) ?_
  refine lv_iload_n hx hb dX12_needs_1 rfl (lv_at hl 1 rfl) ?_
  refine z_pV (As := [zi bq]) (rest := []) hC (c_X12_isBoat l D y m0 m_read rl rp m_gut gl gp gx gy m_text tn fn m_boat m_coins vw vm vn m_rest m_ends vc m_chan m_spl fs rn m_rf m_rr m_ik m_km m_kb m_kc m_kf m_kr bq (by first | assumption | omega) (by first | assumption | omega)) (cwV 1 hts gX12_needs_X12_isBoat rfl rfl rfl (by decide +kernel) ⟨Nat.le_of_ble_eq_true rfl, Nat.le_of_ble_eq_true rfl⟩) hG (hPr.sub (ws' := [(m0, .inr (11, [.ref m_read, zi rl, zi rp, .ref m_gut, zi gl, zi gp, zi gx, zi gy, .ref m_text, zi tn, zi fn, .ref m_boat, .ref m_coins, zi vw, zi vm, zi vn, .ref m_rest, .ref m_ends, zl vc, .ref m_chan, .ref m_spl, zi fs, zi rn, .ref m_rf, .ref m_rr, .ref m_ik, .ref m_km, .ref m_kb, .ref m_kc, .ref m_kf, .ref m_kr]))]) [0] rfl) 0 rfl rfl rfl hl.1 rfl (Nat.le_of_ble_eq_true rfl) dX12_needs_2 ⟨Nat.le_of_ble_eq_true rfl, Nat.le_of_ble_eq_true rfl⟩ ?_
  refine z_ifB_ne (tgt := 10) hx hb dX12_needs_5 (by decide) (fun c_5 => ?_) (fun c_5 => ?_)
  ·
    refine lv_iload_n hx hb dX12_needs_10 rfl (lv_at hl 2 rfl) ?_
    refine z_i2l hx hb (by omega) dX12_needs_11 ?_
    refine lv_lconst (v := iL 0) hx hb dX12_needs_12 rfl ?_
    refine lv_ldc2 (v := iL 99) hx hb hown k1 dX12_needs_13 ?_
    refine z_pS (As := [zl ts, zl 0, zl 99]) (rest := []) hC (c_X12_in l D y ts 0 99 (by first | assumption | omega)) (va_cwS 3 hts gX12_needs_X12_in rfl rfl rfl (by decide +kernel) ⟨Nat.le_of_ble_eq_true rfl, Nat.le_of_ble_eq_true rfl⟩) hG va_P_nil rfl hl.1 rfl (Nat.le_of_ble_eq_true rfl) dX12_needs_16 ⟨Nat.le_of_ble_eq_true rfl, Nat.le_of_ble_eq_true rfl⟩ ?_
    refine z_ifB_ne (tgt := 25) hx hb dX12_needs_19 (by decide) (fun c_19 => ?_) (fun c_19 => ?_)
    · exfalso; omega
    ·
      refine z_bipush hx hb dX12_needs_22 (by decide) ?_
      exact z_iret0 hx hb hr hlocks (rfl) dX12_needs_24
  · exfalso; omega
set_option maxHeartbeats 8000000 in
set_option maxRecDepth 100000 in
theorem c_X12_needs (l : Launch) (D : va_G) (y : Nat → ClassId) (m0 : Nat) (m_read : Nat) (rl : Int) (rp : Int) (m_gut : Nat) (gl : Int) (gp : Int) (gx : Int) (gy : Int) (m_text : Nat) (tn : Int) (fn : Int) (m_boat : Nat) (m_coins : Nat) (vw : Int) (vm : Int) (vn : Int) (m_rest : Nat) (m_ends : Nat) (vc : Int) (m_chan : Nat) (m_spl : Nat) (fs : Int) (rn : Int) (m_rf : Nat) (m_rr : Nat) (m_ik : Nat) (m_km : Nat) (m_kb : Nat) (m_kc : Nat) (m_kf : Nat) (m_kr : Nat) (MB : Int → Int) (MC : Int → Int) (bq : Int) (ts : Int) (hM : mbOK fn MB MC) (hbq : 0 ≤ bq ∧ bq < fn) (hs : 0 ≤ ts ∧ ts ≤ 99) : Met l yX12_needs wsX12_needs ({ frames := 2, cells := 0, slots := 0, locals := 46 } : Room) (pPc D y [(m0, .inr (11, [.ref m_read, zi rl, zi rp, .ref m_gut, zi gl, zi gp, zi gx, zi gy, .ref m_text, zi tn, zi fn, .ref m_boat, .ref m_coins, zi vw, zi vm, zi vn, .ref m_rest, .ref m_ends, zl vc, .ref m_chan, .ref m_spl, zi fs, zi rn, .ref m_rf, .ref m_rr, .ref m_ik, .ref m_km, .ref m_kb, .ref m_kc, .ref m_kf, .ref m_kr])), (m_boat, .inl (y 0, 42, .inl (cI MB))), (m_coins, .inl (y 0, 144, .inl (cI MC)))] [.ref m0, zi bq, zi ts]) (qV (zi (lwaxV (MB (7 * bq + 2)) ts))) 0 0 (fun _ => False) := by
  refine P_of (own := RX12) (cc := cX12_needs) (maxL := 4) (ret := some .int) (by decide) rfl rfl (Nat.le_of_ble_eq_true rfl) (fun p e s m below meth c ls hx hb hr hC hlocks hPr hG hl => ?_)
  have hC0 := hC
  obtain ⟨-, -, hml, hown, hts⟩ := hC0
  have hK := hG.1
  have hinX12 : ∀ w ∈ wsX120, w ∈ wsX12_needs := fun _ h => List.mem_cons_of_mem _ (List.mem_append_right _ h)
  have k1 := hts (.constantLong RX12 128 (99)) (List.mem_of_getElem? (i := 1) rfl)
  have k2 := hts (.fieldLink RX12 19 "BoatsOfPaperModel" "boat" "[I") (List.mem_of_getElem? (i := 2) rfl)
  have hl : lv_has ls 4 [(0, .ref m0), (1, zi bq), (2, zi ts)] := hl
  have hB := hM.2 bq hbq.1 hbq.2
  obtain ⟨q1, q2, q3, q4, q5, q6, q7, q8, q9, qc⟩ := id hB
  have qf := hM.1
  refine lv_aload_n hx hb dX12_needs_0 rfl (lv_at hl 0 rfl) ?_
  refine lv_iload_n hx hb dX12_needs_1 rfl (lv_at hl 1 rfl) ?_
  refine z_pV (As := [zi bq]) (rest := []) hC (c_X12_isBoat l D y m0 m_read rl rp m_gut gl gp gx gy m_text tn fn m_boat m_coins vw vm vn m_rest m_ends vc m_chan m_spl fs rn m_rf m_rr m_ik m_km m_kb m_kc m_kf m_kr bq (by first | assumption | omega) (by first | assumption | omega)) (cwV 1 hts gX12_needs_X12_isBoat rfl rfl rfl (by decide +kernel) ⟨Nat.le_of_ble_eq_true rfl, Nat.le_of_ble_eq_true rfl⟩) hG (hPr.sub (ws' := [(m0, .inr (11, [.ref m_read, zi rl, zi rp, .ref m_gut, zi gl, zi gp, zi gx, zi gy, .ref m_text, zi tn, zi fn, .ref m_boat, .ref m_coins, zi vw, zi vm, zi vn, .ref m_rest, .ref m_ends, zl vc, .ref m_chan, .ref m_spl, zi fs, zi rn, .ref m_rf, .ref m_rr, .ref m_ik, .ref m_km, .ref m_kb, .ref m_kc, .ref m_kf, .ref m_kr]))]) [0] rfl) 0 rfl rfl rfl hl.1 rfl (Nat.le_of_ble_eq_true rfl) dX12_needs_2 ⟨Nat.le_of_ble_eq_true rfl, Nat.le_of_ble_eq_true rfl⟩ ?_
  refine z_ifB_ne (tgt := 10) hx hb dX12_needs_5 (by decide) (fun c_5 => ?_) (fun c_5 => ?_)
  ·
    refine lv_iload_n hx hb dX12_needs_10 rfl (lv_at hl 2 rfl) ?_
    refine z_i2l hx hb (by omega) dX12_needs_11 ?_
    refine lv_lconst (v := iL 0) hx hb dX12_needs_12 rfl ?_
    refine lv_ldc2 (v := iL 99) hx hb hown k1 dX12_needs_13 ?_
    refine z_pS (As := [zl ts, zl 0, zl 99]) (rest := []) hC (c_X12_in l D y ts 0 99 (by first | assumption | omega)) (va_cwS 3 hts gX12_needs_X12_in rfl rfl rfl (by decide +kernel) ⟨Nat.le_of_ble_eq_true rfl, Nat.le_of_ble_eq_true rfl⟩) hG va_P_nil rfl hl.1 rfl (Nat.le_of_ble_eq_true rfl) dX12_needs_16 ⟨Nat.le_of_ble_eq_true rfl, Nat.le_of_ble_eq_true rfl⟩ ?_
    refine z_ifB_ne (tgt := 25) hx hb dX12_needs_19 (by decide) (fun c_19 => ?_) (fun c_19 => ?_)
    ·
      refine z_iconst hx hb dX12_needs_25 ?_
      refine lv_istore_n (lv' := [(3, zi 0), (0, .ref m0), (1, zi bq), (2, zi ts)]) hx hb dX12_needs_26 rfl hl (by decide) rfl (fun ls hl => ?_)
      refine z_loop (σ := Int) (fun k H lc ls => (0 ≤ k ∧ k ≤ 10 ∧ (k = 0 ∨ 10 * MB (7 * bq + 2) + 5 * (k - 1) < ts)) ∧ lv_has ls 4 [(3, zi k), (0, .ref m0), (1, zi bq), (2, zi ts)] ∧ H = s.heap ∧ lc = []) (fun k  => ((10 - k).toNat)) ?_ 0 ⟨(by omega), lv_sub hl [0, 1, 2, 3] rfl, rfl, rfl⟩
      rintro k H lc ls ⟨hi27, hl, rfl, rfl⟩ ih27
      refine lv_iload_n hx hb dX12_needs_27 rfl (lv_at hl 0 rfl) ?_
      refine z_bipush hx hb dX12_needs_28 (by decide) ?_
      refine z_icmp_ge (tgt := 63) hx hb (by omega) (by omega) dX12_needs_30 (by decide) (fun c_30 => ?_) (fun c_30 => ?_)
      ·
        refine z_bipush hx hb dX12_needs_63 (by decide) ?_
        exact z_iret0 hx hb hr hlocks (by unfold lwaxV; split <;> first | omega | (split <;> omega)) dX12_needs_65
      ·
        refine lv_iload_n hx hb dX12_needs_33 rfl (lv_at hl 3 rfl) ?_
        refine z_bipush hx hb dX12_needs_34 (by decide) ?_
        refine lv_aload_n hx hb dX12_needs_36 rfl (lv_at hl 1 rfl) ?_
        refine va_get hx hb hts hinX12 hown hK hPr 0 rfl rfl 11 (by decide) k2 (fun _ h => h) rfl dX12_needs_37 ?_
        refine z_bipush hx hb dX12_needs_40 (by decide) ?_
        refine lv_iload_n hx hb dX12_needs_42 rfl (lv_at hl 2 rfl) ?_
        refine z_imul hx hb dX12_needs_43 ?_
        refine z_iconst hx hb dX12_needs_44 ?_
        refine z_iadd hx hb dX12_needs_45 ?_
        refine z_iald hx hb hK hPr 1 0 rfl rfl (by omega) (by decide) dX12_needs_46 ?_
        refine z_imul hx hb dX12_needs_47 ?_
        refine z_iconst hx hb dX12_needs_48 ?_
        refine lv_iload_n hx hb dX12_needs_49 rfl (lv_at hl 0 rfl) ?_
        refine z_imul hx hb dX12_needs_50 ?_
        refine z_iadd hx hb dX12_needs_51 ?_
        refine z_icmp_gt (tgt := 57) hx hb (by omega) (by omega) dX12_needs_52 (by decide) (fun c_52 => ?_) (fun c_52 => ?_)
        ·
          refine z_iinc (k := 0) (lv' := [(3, zi (k + 1)), (0, .ref m0), (1, zi bq), (2, zi ts)]) hx hb dX12_needs_57 hl rfl (by decide) rfl (fun ls hl => ?_)
          refine lv_goto (tgt := 27) hx hb dX12_needs_60 (by decide) ?_
          exact ih27 (k + 1) _ _ _ (by first | (dsimp only; omega) | omega) ⟨(by omega), lv_sub hl [0, 1, 2, 3] rfl, rfl, rfl⟩
        ·
          refine lv_iload_n hx hb dX12_needs_55 rfl (lv_at hl 0 rfl) ?_
          exact z_iret0 hx hb hr hlocks (by unfold lwaxV; split <;> first | omega | (split <;> omega)) dX12_needs_56
    · exfalso; omega
  · exfalso; omega
