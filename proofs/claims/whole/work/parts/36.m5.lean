set_option maxHeartbeats 8000000 in
set_option maxRecDepth 100000 in
theorem c_X12_laySplits (l : Launch) (D : va_G) (y : Nat → ClassId) (m0 : Nat) (m_read : Nat) (rl : Int) (rp : Int) (m_gut : Nat) (gl : Int) (gp : Int) (gx : Int) (gy : Int) (m_text : Nat) (tn : Int) (fn : Int) (m_boat : Nat) (m_coins : Nat) (vw : Int) (vm : Int) (vn : Int) (m_rest : Nat) (m_ends : Nat) (vc : Int) (m_chan : Nat) (m_spl : Nat) (fs : Int) (rn : Int) (m_rf : Nat) (m_rr : Nat) (m_ik : Nat) (m_km : Nat) (m_kb : Nat) (m_kc : Nat) (m_kf : Nat) (m_kr : Nat) (MG : Int → Int) (MS : Int → Int) (nq : Int) (cq : Int) (hg : gOK gl gp gx gy MG) (hnc : (1 ≤ nq ∧ nq ≤ 9) ∧ 0 ≤ cq ∧ cq ≤ 9) (sz : Nat) : Met l yX12_laySplits wsX12_laySplits ({ frames := 3, cells := 0, slots := 0, locals := 69 } : Room) (wPc D y [] [(m0, .inr (11, [.ref m_read, zi rl, zi rp, .ref m_gut, zi gl, zi gp, zi gx, zi gy, .ref m_text, zi tn, zi fn, .ref m_boat, .ref m_coins, zi vw, zi vm, zi vn, .ref m_rest, .ref m_ends, zl vc, .ref m_chan, .ref m_spl, zi fs, zi rn, .ref m_rf, .ref m_rr, .ref m_ik, .ref m_km, .ref m_kb, .ref m_kc, .ref m_kf, .ref m_kr])), (m_gut, .inl (y 0, 36, .inl (cI MG))), (m_spl, .inl (y 0, 3, .inl (cI MS)))] sz [.ref m0, zi nq, zi cq]) (wQ D (fun (x9 : Int × (Int → Int)) => match x9 with | (fs2, MS2) => some (zi ((spT (rsP (opV gl gp MG) (laneS gl gp MG) nq cq) nq).1))) (fun (x9 : Int × (Int → Int)) => match x9 with | (fs2, MS2) => fs2 = (spT (rsP (opV gl gp MG) (laneS gl gp MG) nq cq) nq).2) (fun (x9 : Int × (Int → Int)) => match x9 with | (fs2, MS2) => [(m0, .inr (11, [.ref m_read, zi rl, zi rp, .ref m_gut, zi gl, zi gp, zi gx, zi gy, .ref m_text, zi tn, zi fn, .ref m_boat, .ref m_coins, zi vw, zi vm, zi vn, .ref m_rest, .ref m_ends, zl vc, .ref m_chan, .ref m_spl, zi fs2, zi rn, .ref m_rf, .ref m_rr, .ref m_ik, .ref m_km, .ref m_kb, .ref m_kc, .ref m_kf, .ref m_kr])), (m_gut, .inl (y 0, 36, .inl (cI MG))), (m_spl, .inl (y 0, 3, .inl (cI MS2)))]) (va_A [(m0, .inr (11, [.ref m_read, zi rl, zi rp, .ref m_gut, zi gl, zi gp, zi gx, zi gy, .ref m_text, zi tn, zi fn, .ref m_boat, .ref m_coins, zi vw, zi vm, zi vn, .ref m_rest, .ref m_ends, zl vc, .ref m_chan, .ref m_spl, zi fs, zi rn, .ref m_rf, .ref m_rr, .ref m_ik, .ref m_km, .ref m_kb, .ref m_kc, .ref m_kf, .ref m_kr])), (m_gut, .inl (y 0, 36, .inl (cI MG))), (m_spl, .inl (y 0, 3, .inl (cI MS)))] sz)) 0 0 (va_A [(m0, .inr (11, [.ref m_read, zi rl, zi rp, .ref m_gut, zi gl, zi gp, zi gx, zi gy, .ref m_text, zi tn, zi fn, .ref m_boat, .ref m_coins, zi vw, zi vm, zi vn, .ref m_rest, .ref m_ends, zl vc, .ref m_chan, .ref m_spl, zi fs, zi rn, .ref m_rf, .ref m_rr, .ref m_ik, .ref m_km, .ref m_kb, .ref m_kc, .ref m_kf, .ref m_kr])), (m_gut, .inl (y 0, 36, .inl (cI MG))), (m_spl, .inl (y 0, 3, .inl (cI MS)))] sz) := by
  refine W_of (own := RX12) (cc := cX12_laySplits) (maxL := 7) (ret := some .int) (by decide) rfl rfl (Nat.le_of_ble_eq_true rfl) (fun p e s m below meth c ls A hx hb hr hC hlocks hin0 hR0 hN hP hD hA hG hl => ?_)
  have hC0 := hC
  obtain ⟨-, -, hml, hown, hts⟩ := hC0
  have hK := hG.1
  have hS : va_S A s.heap s.heap [] := va_S.rf
  have hPr := hR0
  have hinX12 : ∀ w ∈ wsX120, w ∈ wsX12_laySplits := fun _ h => List.mem_cons_of_mem _ (List.mem_append_right _ h)
  have k1 := hts (.fieldLink RX12 229 "BoatsOfPaperModel" "firstSplit" "I") (List.mem_of_getElem? (i := 1) rfl)
  have k2 := hts (.fieldLink RX12 35 "BoatsOfPaperModel" "split" "[I") (List.mem_of_getElem? (i := 2) rfl)
  have k3 := hts (.fieldLink RX12 63 "BoatsOfPaperModel" "lanes" "I") (List.mem_of_getElem? (i := 3) rfl)
  have hl : lv_has ls 7 [(0, .ref m0), (1, zi nq), (2, zi cq)] := hl
  obtain ⟨u1, u2, u3, u4, uk⟩ := id hg
  refine z_iconst hx hb dX12_laySplits_0 ?_
  refine lv_istore_n (lv' := [(3, zi 0), (0, .ref m0), (1, zi nq), (2, zi cq)]) hx hb dX12_laySplits_1 rfl hl (by decide) rfl (fun ls hl => ?_)
  refine lv_aload_n hx hb dX12_laySplits_2 rfl (lv_at hl 1 rfl) ?_
  refine z_bipush hx hb dX12_laySplits_3 (by decide) ?_
  refine va_put hx hb hts hinX12 tyX12 tyX12_ok nmX12 hown hK hP hD hS 0 rfl rfl 21 (by decide) k1 (fun _ h => h) rfl (tyX12_ok 21 (by decide)) rfl rfl (Nat.le_of_ble_eq_true rfl) dX12_laySplits_5 (fun H locs hP hD hS => ?_)
  have hP : va_P D vwCl [(m0, .inr (11, [.ref m_read, zi rl, zi rp, .ref m_gut, zi gl, zi gp, zi gx, zi gy, .ref m_text, zi tn, zi fn, .ref m_boat, .ref m_coins, zi vw, zi vm, zi vn, .ref m_rest, .ref m_ends, zl vc, .ref m_chan, .ref m_spl, zi (-9), zi rn, .ref m_rf, .ref m_rr, .ref m_ik, .ref m_km, .ref m_kb, .ref m_kc, .ref m_kf, .ref m_kr])), (m_gut, .inl (y 0, 36, .inl (cI MG))), (m_spl, .inl (y 0, 3, .inl (cI MS)))] H := hP
  have hD : va_D A [(m0, .inr (11, [.ref m_read, zi rl, zi rp, .ref m_gut, zi gl, zi gp, zi gx, zi gy, .ref m_text, zi tn, zi fn, .ref m_boat, .ref m_coins, zi vw, zi vm, zi vn, .ref m_rest, .ref m_ends, zl vc, .ref m_chan, .ref m_spl, zi (-9), zi rn, .ref m_rf, .ref m_rr, .ref m_ik, .ref m_km, .ref m_kb, .ref m_kc, .ref m_kf, .ref m_kr])), (m_gut, .inl (y 0, 36, .inl (cI MG))), (m_spl, .inl (y 0, 3, .inl (cI MS)))] := hD
  refine lv_iload_n hx hb dX12_laySplits_8 rfl (lv_at hl 2 rfl) ?_
  refine lv_istore (lv' := [(4, zi nq), (3, zi 0), (0, .ref m0), (1, zi nq), (2, zi cq)]) hx hb dX12_laySplits_9 hl (by decide) rfl (fun ls hl => ?_)
  refine z_loop (σ := Int × Int × Int × (Int → Int)) (fun x9 H lc ls => match x9 with | (a, vk, vf, S1) => ((-1 ≤ a ∧ a ≤ nq) ∧ (0 ≤ vk ∧ vk ≤ 10 * (nq - a) ∧ (vk = 0 ↔ vf = -9)) ∧ spO (rsP (opV gl gp MG) (laneS gl gp MG) nq cq) nq (a + 1).toNat (vk, vf) = spT (rsP (opV gl gp MG) (laneS gl gp MG) nq cq) nq) ∧ lv_has ls 7 [(4, zi a), (3, zi vk), (0, .ref m0), (1, zi nq), (2, zi cq)] ∧ va_P D vwCl [(m0, .inr (11, [.ref m_read, zi rl, zi rp, .ref m_gut, zi gl, zi gp, zi gx, zi gy, .ref m_text, zi tn, zi fn, .ref m_boat, .ref m_coins, zi vw, zi vm, zi vn, .ref m_rest, .ref m_ends, zl vc, .ref m_chan, .ref m_spl, zi vf, zi rn, .ref m_rf, .ref m_rr, .ref m_ik, .ref m_km, .ref m_kb, .ref m_kc, .ref m_kf, .ref m_kr])), (m_gut, .inl (y 0, 36, .inl (cI MG))), (m_spl, .inl (y 0, 3, .inl (cI S1)))] H ∧ va_D A [(m0, .inr (11, [.ref m_read, zi rl, zi rp, .ref m_gut, zi gl, zi gp, zi gx, zi gy, .ref m_text, zi tn, zi fn, .ref m_boat, .ref m_coins, zi vw, zi vm, zi vn, .ref m_rest, .ref m_ends, zl vc, .ref m_chan, .ref m_spl, zi vf, zi rn, .ref m_rf, .ref m_rr, .ref m_ik, .ref m_km, .ref m_kb, .ref m_kc, .ref m_kf, .ref m_kr])), (m_gut, .inl (y 0, 36, .inl (cI MG))), (m_spl, .inl (y 0, 3, .inl (cI S1)))] ∧ va_S A s.heap H lc) (fun x9  => match x9 with | (a, vk, vf, S1) => ((a + 1).toNat)) ?_ (nq, 0, (-9), MS) ⟨⟨by omega, by omega, rfl⟩, lv_sub hl [0, 1, 2, 3, 4] rfl, hP.sub [0, 1, 2] rfl, hD.sub [0, 1, 2] (by decide) rfl, hS⟩
  rintro ⟨a, vk, vf, S1⟩ H lc ls ⟨hi11, hl, hP, hD, hS⟩ ih11
  have hP : va_P D vwCl [(m0, .inr (11, [.ref m_read, zi rl, zi rp, .ref m_gut, zi gl, zi gp, zi gx, zi gy, .ref m_text, zi tn, zi fn, .ref m_boat, .ref m_coins, zi vw, zi vm, zi vn, .ref m_rest, .ref m_ends, zl vc, .ref m_chan, .ref m_spl, zi vf, zi rn, .ref m_rf, .ref m_rr, .ref m_ik, .ref m_km, .ref m_kb, .ref m_kc, .ref m_kf, .ref m_kr])), (m_gut, .inl (y 0, 36, .inl (cI MG))), (m_spl, .inl (y 0, 3, .inl (cI S1)))] H := hP
  have hD : va_D A [(m0, .inr (11, [.ref m_read, zi rl, zi rp, .ref m_gut, zi gl, zi gp, zi gx, zi gy, .ref m_text, zi tn, zi fn, .ref m_boat, .ref m_coins, zi vw, zi vm, zi vn, .ref m_rest, .ref m_ends, zl vc, .ref m_chan, .ref m_spl, zi vf, zi rn, .ref m_rf, .ref m_rr, .ref m_ik, .ref m_km, .ref m_kb, .ref m_kc, .ref m_kf, .ref m_kr])), (m_gut, .inl (y 0, 36, .inl (cI MG))), (m_spl, .inl (y 0, 3, .inl (cI S1)))] := hD
  obtain ⟨j1, j2, j3⟩ := hi11
  refine lv_iload hx hb dX12_laySplits_11 (lv_at hl 0 rfl) ?_
  refine z_if_lt (tgt := 154) hx hb (by omega) dX12_laySplits_13 (by decide) (fun c_13 => ?_) (fun c_13 => ?_)
  ·
    refine lv_iload_n hx hb dX12_laySplits_154 rfl (lv_at hl 1 rfl) ?_
    exact z_iretW hx hb hr hlocks (vf, S1) (by rw [show a + 1 = 0 by omega] at j3; exact congrArg (fun z => some (zi z)) (congrArg Prod.fst j3).symm) (by rw [show a + 1 = 0 by omega] at j3; exact congrArg Prod.snd j3) (hP.sub [0, 1, 2] rfl) (hD.sub [0, 1, 2] (by decide) rfl) hS dX12_laySplits_155
  ·
    refine lv_iload_n hx hb dX12_laySplits_16 rfl (lv_at hl 3 rfl) ?_
    refine lv_iload hx hb dX12_laySplits_17 (lv_at hl 0 rfl) ?_
    refine z_isub hx hb dX12_laySplits_19 ?_
    refine lv_istore (lv' := [(5, zi (nq - a)), (4, zi a), (3, zi vk), (0, .ref m0), (1, zi nq), (2, zi cq)]) hx hb dX12_laySplits_20 hl (by decide) rfl (fun ls hl => ?_)
    refine z_loop (σ := Int × Int × Int × (Int → Int)) (fun x9 H lc ls => match x9 with | (b9, vk, vf, S1) => ((-1 ≤ b9 ∧ b9 ≤ nq - a) ∧ (0 ≤ vk ∧ vk ≤ 10 * (nq - a) + (nq - a - b9) ∧ (vk = 0 ↔ vf = -9)) ∧ spO (rsP (opV gl gp MG) (laneS gl gp MG) nq cq) nq a.toNat (spI (rsP (opV gl gp MG) (laneS gl gp MG) nq cq) nq a (b9 + 1).toNat (vk, vf)) = spT (rsP (opV gl gp MG) (laneS gl gp MG) nq cq) nq) ∧ lv_has ls 7 [(5, zi b9), (4, zi a), (3, zi vk), (0, .ref m0), (1, zi nq), (2, zi cq)] ∧ va_P D vwCl [(m0, .inr (11, [.ref m_read, zi rl, zi rp, .ref m_gut, zi gl, zi gp, zi gx, zi gy, .ref m_text, zi tn, zi fn, .ref m_boat, .ref m_coins, zi vw, zi vm, zi vn, .ref m_rest, .ref m_ends, zl vc, .ref m_chan, .ref m_spl, zi vf, zi rn, .ref m_rf, .ref m_rr, .ref m_ik, .ref m_km, .ref m_kb, .ref m_kc, .ref m_kf, .ref m_kr])), (m_gut, .inl (y 0, 36, .inl (cI MG))), (m_spl, .inl (y 0, 3, .inl (cI S1)))] H ∧ va_D A [(m0, .inr (11, [.ref m_read, zi rl, zi rp, .ref m_gut, zi gl, zi gp, zi gx, zi gy, .ref m_text, zi tn, zi fn, .ref m_boat, .ref m_coins, zi vw, zi vm, zi vn, .ref m_rest, .ref m_ends, zl vc, .ref m_chan, .ref m_spl, zi vf, zi rn, .ref m_rf, .ref m_rr, .ref m_ik, .ref m_km, .ref m_kb, .ref m_kc, .ref m_kf, .ref m_kr])), (m_gut, .inl (y 0, 36, .inl (cI MG))), (m_spl, .inl (y 0, 3, .inl (cI S1)))] ∧ va_S A s.heap H lc) (fun x9  => match x9 with | (b9, vk, vf, S1) => ((b9 + 1).toNat)) ?_ (nq - a, vk, vf, S1) ⟨⟨by omega, by omega, by rw [← j3, spO_s _ _ (by omega)]⟩, lv_sub hl [0, 1, 2, 3, 4, 5] rfl, hP.sub [0, 1, 2] rfl, hD.sub [0, 1, 2] (by decide) rfl, hS⟩
    rintro ⟨b9, vk, vf, S1⟩ H lc ls ⟨hi22, hl, hP, hD, hS⟩ ih22
    have hP : va_P D vwCl [(m0, .inr (11, [.ref m_read, zi rl, zi rp, .ref m_gut, zi gl, zi gp, zi gx, zi gy, .ref m_text, zi tn, zi fn, .ref m_boat, .ref m_coins, zi vw, zi vm, zi vn, .ref m_rest, .ref m_ends, zl vc, .ref m_chan, .ref m_spl, zi vf, zi rn, .ref m_rf, .ref m_rr, .ref m_ik, .ref m_km, .ref m_kb, .ref m_kc, .ref m_kf, .ref m_kr])), (m_gut, .inl (y 0, 36, .inl (cI MG))), (m_spl, .inl (y 0, 3, .inl (cI S1)))] H := hP
    have hD : va_D A [(m0, .inr (11, [.ref m_read, zi rl, zi rp, .ref m_gut, zi gl, zi gp, zi gx, zi gy, .ref m_text, zi tn, zi fn, .ref m_boat, .ref m_coins, zi vw, zi vm, zi vn, .ref m_rest, .ref m_ends, zl vc, .ref m_chan, .ref m_spl, zi vf, zi rn, .ref m_rf, .ref m_rr, .ref m_ik, .ref m_km, .ref m_kb, .ref m_kc, .ref m_kf, .ref m_kr])), (m_gut, .inl (y 0, 36, .inl (cI MG))), (m_spl, .inl (y 0, 3, .inl (cI S1)))] := hD
    obtain ⟨i1, i2, i3⟩ := hi22
    refine lv_iload hx hb dX12_laySplits_22 (lv_at hl 0 rfl) ?_
    refine z_if_lt (tgt := 148) hx hb (by omega) dX12_laySplits_24 (by decide) (fun c_24 => ?_) (fun c_24 => ?_)
    ·
      refine z_iinc (k := 1) (lv' := [(4, zi (a + (-1))), (5, zi b9), (3, zi vk), (0, .ref m0), (1, zi nq), (2, zi cq)]) hx hb dX12_laySplits_148 hl rfl (by decide) rfl (fun ls hl => ?_)
      refine lv_goto (tgt := 11) hx hb dX12_laySplits_151 (by decide) ?_
      exact ih11 (a + (-1), vk, vf, S1) _ _ _ (by first | (dsimp only; omega) | omega) ⟨⟨by omega, by omega, by rw [show a + (-1) + 1 = a by omega]; rw [show b9 + 1 = 0 by omega] at i3; exact i3⟩, lv_sub hl [0, 2, 3, 4, 5] rfl, hP.sub [0, 1, 2] rfl, hD.sub [0, 1, 2] (by decide) rfl, hS⟩
    ·
      refine lv_aload_n hx hb dX12_laySplits_27 rfl (lv_at hl 3 rfl) ?_
      refine va_get hx hb hts hinX12 hown hK hP 0 rfl rfl 20 (by decide) k2 (fun _ h => h) rfl dX12_laySplits_28 ?_
      refine z_iconst hx hb dX12_laySplits_31 ?_
      refine lv_iload hx hb dX12_laySplits_32 (lv_at hl 1 rfl) ?_
      refine z_iast hx hb hK hP hD hS 2 0 rfl rfl (by omega) (by decide) dX12_laySplits_34 (fun H locs hP hD hS => ?_)
      have hP : va_P D vwCl [(m0, .inr (11, [.ref m_read, zi rl, zi rp, .ref m_gut, zi gl, zi gp, zi gx, zi gy, .ref m_text, zi tn, zi fn, .ref m_boat, .ref m_coins, zi vw, zi vm, zi vn, .ref m_rest, .ref m_ends, zl vc, .ref m_chan, .ref m_spl, zi vf, zi rn, .ref m_rf, .ref m_rr, .ref m_ik, .ref m_km, .ref m_kb, .ref m_kc, .ref m_kf, .ref m_kr])), (m_gut, .inl (y 0, 36, .inl (cI MG))), (m_spl, .inl (y 0, 3, .inl (cI (iu S1 0 a))))] H := hP
      have hD : va_D A [(m0, .inr (11, [.ref m_read, zi rl, zi rp, .ref m_gut, zi gl, zi gp, zi gx, zi gy, .ref m_text, zi tn, zi fn, .ref m_boat, .ref m_coins, zi vw, zi vm, zi vn, .ref m_rest, .ref m_ends, zl vc, .ref m_chan, .ref m_spl, zi vf, zi rn, .ref m_rf, .ref m_rr, .ref m_ik, .ref m_km, .ref m_kb, .ref m_kc, .ref m_kf, .ref m_kr])), (m_gut, .inl (y 0, 36, .inl (cI MG))), (m_spl, .inl (y 0, 3, .inl (cI (iu S1 0 a))))] := hD
      refine lv_aload_n hx hb dX12_laySplits_35 rfl (lv_at hl 3 rfl) ?_
      refine va_get hx hb hts hinX12 hown hK hP 0 rfl rfl 20 (by decide) k2 (fun _ h => h) rfl dX12_laySplits_36 ?_
      refine z_iconst hx hb dX12_laySplits_39 ?_
      refine lv_iload hx hb dX12_laySplits_40 (lv_at hl 0 rfl) ?_
      refine z_iast hx hb hK hP hD hS 2 0 rfl rfl (by omega) (by decide) dX12_laySplits_42 (fun H locs hP hD hS => ?_)
      have hP : va_P D vwCl [(m0, .inr (11, [.ref m_read, zi rl, zi rp, .ref m_gut, zi gl, zi gp, zi gx, zi gy, .ref m_text, zi tn, zi fn, .ref m_boat, .ref m_coins, zi vw, zi vm, zi vn, .ref m_rest, .ref m_ends, zl vc, .ref m_chan, .ref m_spl, zi vf, zi rn, .ref m_rf, .ref m_rr, .ref m_ik, .ref m_km, .ref m_kb, .ref m_kc, .ref m_kf, .ref m_kr])), (m_gut, .inl (y 0, 36, .inl (cI MG))), (m_spl, .inl (y 0, 3, .inl (cI (iu (iu S1 0 a) 1 b9))))] H := hP
      have hD : va_D A [(m0, .inr (11, [.ref m_read, zi rl, zi rp, .ref m_gut, zi gl, zi gp, zi gx, zi gy, .ref m_text, zi tn, zi fn, .ref m_boat, .ref m_coins, zi vw, zi vm, zi vn, .ref m_rest, .ref m_ends, zl vc, .ref m_chan, .ref m_spl, zi vf, zi rn, .ref m_rf, .ref m_rr, .ref m_ik, .ref m_km, .ref m_kb, .ref m_kc, .ref m_kf, .ref m_kr])), (m_gut, .inl (y 0, 36, .inl (cI MG))), (m_spl, .inl (y 0, 3, .inl (cI (iu (iu S1 0 a) 1 b9))))] := hD
      refine lv_aload_n hx hb dX12_laySplits_43 rfl (lv_at hl 3 rfl) ?_
      refine va_get hx hb hts hinX12 hown hK hP 0 rfl rfl 20 (by decide) k2 (fun _ h => h) rfl dX12_laySplits_44 ?_
      refine z_iconst hx hb dX12_laySplits_47 ?_
      refine lv_iload_n hx hb dX12_laySplits_48 rfl (lv_at hl 4 rfl) ?_
      refine lv_iload hx hb dX12_laySplits_49 (lv_at hl 1 rfl) ?_
      refine z_isub hx hb dX12_laySplits_51 ?_
      refine lv_iload hx hb dX12_laySplits_52 (lv_at hl 0 rfl) ?_
      refine z_isub hx hb dX12_laySplits_54 ?_
      refine z_iast hx hb hK hP hD hS 2 0 rfl rfl (by omega) (by decide) dX12_laySplits_55 (fun H locs hP hD hS => ?_)
      have hP : va_P D vwCl [(m0, .inr (11, [.ref m_read, zi rl, zi rp, .ref m_gut, zi gl, zi gp, zi gx, zi gy, .ref m_text, zi tn, zi fn, .ref m_boat, .ref m_coins, zi vw, zi vm, zi vn, .ref m_rest, .ref m_ends, zl vc, .ref m_chan, .ref m_spl, zi vf, zi rn, .ref m_rf, .ref m_rr, .ref m_ik, .ref m_km, .ref m_kb, .ref m_kc, .ref m_kf, .ref m_kr])), (m_gut, .inl (y 0, 36, .inl (cI MG))), (m_spl, .inl (y 0, 3, .inl (cI (iu (iu (iu S1 0 a) 1 b9) 2 ((nq - a) - b9)))))] H := hP
      have hD : va_D A [(m0, .inr (11, [.ref m_read, zi rl, zi rp, .ref m_gut, zi gl, zi gp, zi gx, zi gy, .ref m_text, zi tn, zi fn, .ref m_boat, .ref m_coins, zi vw, zi vm, zi vn, .ref m_rest, .ref m_ends, zl vc, .ref m_chan, .ref m_spl, zi vf, zi rn, .ref m_rf, .ref m_rr, .ref m_ik, .ref m_km, .ref m_kb, .ref m_kc, .ref m_kf, .ref m_kr])), (m_gut, .inl (y 0, 36, .inl (cI MG))), (m_spl, .inl (y 0, 3, .inl (cI (iu (iu (iu S1 0 a) 1 b9) 2 ((nq - a) - b9)))))] := hD
      have s2e : (iu (iu (iu S1 0 a) 1 b9) 2 ((nq - a) - b9)) 2 = nq - a - b9 := iu_s
      refine lv_aload_n hx hb dX12_laySplits_56 rfl (lv_at hl 3 rfl) ?_
      refine va_get hx hb hts hinX12 hown hK hP 0 rfl rfl 4 (by decide) k3 (fun _ h => h) rfl dX12_laySplits_57 ?_
      refine z_iconst hx hb dX12_laySplits_60 ?_
      refine z_icmp_gt (tgt := 69) hx hb (by omega) (by omega) dX12_laySplits_61 (by decide) (fun c_61 => ?_) (fun c_61 => ?_)
      ·
        refine lv_aload_n hx hb dX12_laySplits_69 rfl (lv_at hl 3 rfl) ?_
        refine va_get hx hb hts hinX12 hown hK hP 0 rfl rfl 4 (by decide) k3 (fun _ h => h) rfl dX12_laySplits_70 ?_
        refine z_iconst hx hb dX12_laySplits_73 ?_
        refine z_icmp_gt (tgt := 86) hx hb (by omega) (by omega) dX12_laySplits_74 (by decide) (fun c_74 => ?_) (fun c_74 => ?_)
        ·
          refine z_iconst hx hb dX12_laySplits_86 ?_
          refine lv_goto (tgt := 91) hx hb dX12_laySplits_87 (by decide) ?_
          refine lv_istore (lv' := [(6, zi 1), (5, zi b9), (4, zi a), (3, zi vk), (0, .ref m0), (1, zi nq), (2, zi cq)]) hx hb dX12_laySplits_91 hl (by decide) rfl (fun ls hl => ?_)
          refine lv_iload hx hb dX12_laySplits_93 (lv_at hl 0 rfl) ?_
          refine z_if_eq (tgt := 142) hx hb (by omega) dX12_laySplits_95 (by decide) (fun c_95 => ?_) (fun c_95 => ?_)
          · exfalso; omega
          ·
            have ea := arP_c (OP := (opV gl gp MG)) (TM := (laneS gl gp MG)) (c := cq) (S := (iu (iu (iu S1 0 a) 1 b9) 2 ((nq - a) - b9))) (S' := shF nq a b9) (by rw [sh_0]; rfl) (by rw [sh_1]; rfl) (by rw [sh_2]; rfl)
            have er : (rsP (opV gl gp MG) (laneS gl gp MG) nq cq) a b9 = true ↔ arP (opV gl gp MG) (laneS gl gp MG) (iu (iu (iu S1 0 a) 1 b9) 2 ((nq - a) - b9)) cq := (by unfold rsP; exact ea.symm)
            refine lv_aload_n hx hb dX12_laySplits_98 rfl (lv_at hl 4 rfl) ?_
            refine lv_iload_n hx hb dX12_laySplits_99 rfl (lv_at hl 6 rfl) ?_
            refine z_pV (As := [zi cq]) (rest := []) hC (c_X12_isRest l D y m0 m_read rl rp m_gut gl gp gx gy m_text tn fn m_boat m_coins vw vm vn m_rest m_ends vc m_chan m_spl vf rn m_rf m_rr m_ik m_km m_kb m_kc m_kf m_kr MG (iu (iu (iu S1 0 a) 1 b9) 2 ((nq - a) - b9)) cq (by first | assumption | omega) (by omega) (in3 (by rw [sh_0]; omega) (by rw [sh_1]; omega) (by rw [sh_2]; omega)) (fun j q q2 => in3 (P := fun j => gl ≤ j → (iu (iu (iu S1 0 a) 1 b9) 2 ((nq - a) - b9)) j = 0) (fun h => by omega) (fun h => by rw [sh_1]; omega) (fun h => by rw [sh_2]; omega) j (by omega) q2 q)) (cwV 1 hts gX12_laySplits_X12_isRest rfl rfl rfl (by decide +kernel) ⟨Nat.le_of_ble_eq_true rfl, Nat.le_of_ble_eq_true rfl⟩) hG (hP.sub (ws' := [(m0, .inr (11, [.ref m_read, zi rl, zi rp, .ref m_gut, zi gl, zi gp, zi gx, zi gy, .ref m_text, zi tn, zi fn, .ref m_boat, .ref m_coins, zi vw, zi vm, zi vn, .ref m_rest, .ref m_ends, zl vc, .ref m_chan, .ref m_spl, zi vf, zi rn, .ref m_rf, .ref m_rr, .ref m_ik, .ref m_km, .ref m_kb, .ref m_kc, .ref m_kf, .ref m_kr])), (m_gut, .inl (y 0, 36, .inl (cI MG))), (m_spl, .inl (y 0, 3, .inl (cI (iu (iu (iu S1 0 a) 1 b9) 2 ((nq - a) - b9)))))]) [0, 1, 2] rfl) 0 rfl rfl rfl hl.1 rfl (Nat.le_of_ble_eq_true rfl) dX12_laySplits_100 ⟨Nat.le_of_ble_eq_true rfl, Nat.le_of_ble_eq_true rfl⟩ ?_
            refine z_ifB_eq (tgt := 142) hx hb dX12_laySplits_103 (by decide) (fun c_103 => ?_) (fun c_103 => ?_)
            ·
              have r1 : (if (rsP (opV gl gp MG) (laneS gl gp MG) nq cq) a b9 = true then (vk + 1, if vf = -9 then 100 * a + 10 * b9 + (nq - a - b9) else vf) else (vk, vf)) = (vk, vf) := (by first | (rw [if_pos (er.mpr c_103), if_pos (by omega), s2e]; done) | (rw [if_pos (er.mpr c_103), if_neg (by omega)]; done) | (rw [if_neg (fun z => c_103 (er.mp z))]; done) | (rw [if_neg nofit]; done))
              refine z_iinc (k := 1) (lv' := [(5, zi (b9 + (-1))), (6, zi 1), (4, zi a), (3, zi vk), (0, .ref m0), (1, zi nq), (2, zi cq)]) hx hb dX12_laySplits_142 hl rfl (by decide) rfl (fun ls hl => ?_)
              refine lv_goto (tgt := 22) hx hb dX12_laySplits_145 (by decide) ?_
              exact ih22 (b9 + (-1), vk, vf, iu (iu (iu S1 0 a) 1 b9) 2 ((nq - a) - b9)) _ _ _ (by first | (dsimp only; omega) | omega) ⟨⟨by omega, by omega, by rw [show b9 + (-1) + 1 = b9 by omega, ← i3, spI_s _ _ _ (by omega), r1]⟩, lv_sub hl [0, 2, 3, 4, 5, 6] rfl, hP.sub [0, 1, 2] rfl, hD.sub [0, 1, 2] (by decide) rfl, hS⟩
            ·
              refine lv_aload_n hx hb dX12_laySplits_106 rfl (lv_at hl 4 rfl) ?_
              refine lv_iload_n hx hb dX12_laySplits_107 rfl (lv_at hl 3 rfl) ?_
              refine z_if_ne (tgt := 132) hx hb (by omega) dX12_laySplits_108 (by decide) (fun c_108 => ?_) (fun c_108 => ?_)
              ·
                refine lv_aload_n hx hb dX12_laySplits_132 rfl (lv_at hl 4 rfl) ?_
                refine va_get hx hb hts hinX12 hown hK hP 0 rfl rfl 21 (by decide) k1 (fun _ h => h) rfl dX12_laySplits_133 ?_
                refine va_put hx hb hts hinX12 tyX12 tyX12_ok nmX12 hown hK hP hD hS 0 rfl rfl 21 (by decide) k1 (fun _ h => h) rfl (tyX12_ok 21 (by decide)) rfl rfl (Nat.le_of_ble_eq_true rfl) dX12_laySplits_136 (fun H locs hP hD hS => ?_)
                have hP : va_P D vwCl [(m0, .inr (11, [.ref m_read, zi rl, zi rp, .ref m_gut, zi gl, zi gp, zi gx, zi gy, .ref m_text, zi tn, zi fn, .ref m_boat, .ref m_coins, zi vw, zi vm, zi vn, .ref m_rest, .ref m_ends, zl vc, .ref m_chan, .ref m_spl, zi vf, zi rn, .ref m_rf, .ref m_rr, .ref m_ik, .ref m_km, .ref m_kb, .ref m_kc, .ref m_kf, .ref m_kr])), (m_gut, .inl (y 0, 36, .inl (cI MG))), (m_spl, .inl (y 0, 3, .inl (cI (iu (iu (iu S1 0 a) 1 b9) 2 ((nq - a) - b9)))))] H := hP
                have hD : va_D A [(m0, .inr (11, [.ref m_read, zi rl, zi rp, .ref m_gut, zi gl, zi gp, zi gx, zi gy, .ref m_text, zi tn, zi fn, .ref m_boat, .ref m_coins, zi vw, zi vm, zi vn, .ref m_rest, .ref m_ends, zl vc, .ref m_chan, .ref m_spl, zi vf, zi rn, .ref m_rf, .ref m_rr, .ref m_ik, .ref m_km, .ref m_kb, .ref m_kc, .ref m_kf, .ref m_kr])), (m_gut, .inl (y 0, 36, .inl (cI MG))), (m_spl, .inl (y 0, 3, .inl (cI (iu (iu (iu S1 0 a) 1 b9) 2 ((nq - a) - b9)))))] := hD
                refine z_iinc (k := 3) (lv' := [(3, zi (vk + 1)), (6, zi 1), (5, zi b9), (4, zi a), (0, .ref m0), (1, zi nq), (2, zi cq)]) hx hb dX12_laySplits_139 hl rfl (by decide) rfl (fun ls hl => ?_)
                have r1 : (if (rsP (opV gl gp MG) (laneS gl gp MG) nq cq) a b9 = true then (vk + 1, if vf = -9 then 100 * a + 10 * b9 + (nq - a - b9) else vf) else (vk, vf)) = (vk + 1, vf) := (by first | (rw [if_pos (er.mpr c_103), if_pos (by omega), s2e]; done) | (rw [if_pos (er.mpr c_103), if_neg (by omega)]; done) | (rw [if_neg (fun z => c_103 (er.mp z))]; done) | (rw [if_neg nofit]; done))
                refine z_iinc (k := 2) (lv' := [(5, zi (b9 + (-1))), (3, zi (vk + 1)), (6, zi 1), (4, zi a), (0, .ref m0), (1, zi nq), (2, zi cq)]) hx hb dX12_laySplits_142 hl rfl (by decide) rfl (fun ls hl => ?_)
                refine lv_goto (tgt := 22) hx hb dX12_laySplits_145 (by decide) ?_
                exact ih22 (b9 + (-1), vk + 1, vf, iu (iu (iu S1 0 a) 1 b9) 2 ((nq - a) - b9)) _ _ _ (by first | (dsimp only; omega) | omega) ⟨⟨by omega, by omega, by rw [show b9 + (-1) + 1 = b9 by omega, ← i3, spI_s _ _ _ (by omega), r1]⟩, lv_sub hl [0, 3, 1, 4, 5, 6] rfl, hP.sub [0, 1, 2] rfl, hD.sub [0, 1, 2] (by decide) rfl, hS⟩
              ·
                refine z_bipush hx hb dX12_laySplits_111 (by decide) ?_
                refine lv_iload hx hb dX12_laySplits_113 (lv_at hl 2 rfl) ?_
                refine z_imul hx hb dX12_laySplits_115 ?_
                refine z_bipush hx hb dX12_laySplits_116 (by decide) ?_
                refine lv_iload hx hb dX12_laySplits_118 (lv_at hl 1 rfl) ?_
                refine z_imul hx hb dX12_laySplits_120 ?_
                refine z_iadd hx hb dX12_laySplits_121 ?_
                refine lv_aload_n hx hb dX12_laySplits_122 rfl (lv_at hl 4 rfl) ?_
                refine va_get hx hb hts hinX12 hown hK hP 0 rfl rfl 20 (by decide) k2 (fun _ h => h) rfl dX12_laySplits_123 ?_
                refine z_iconst hx hb dX12_laySplits_126 ?_
                refine z_iald hx hb hK hP 2 0 rfl rfl (by omega) (by decide) dX12_laySplits_127 ?_
                refine z_iadd hx hb dX12_laySplits_128 ?_
                refine lv_goto (tgt := 136) hx hb dX12_laySplits_129 (by decide) ?_
                refine va_put hx hb hts hinX12 tyX12 tyX12_ok nmX12 hown hK hP hD hS 0 rfl rfl 21 (by decide) k1 (fun _ h => h) rfl (tyX12_ok 21 (by decide)) rfl rfl (Nat.le_of_ble_eq_true rfl) dX12_laySplits_136 (fun H locs hP hD hS => ?_)
                have hP : va_P D vwCl [(m0, .inr (11, [.ref m_read, zi rl, zi rp, .ref m_gut, zi gl, zi gp, zi gx, zi gy, .ref m_text, zi tn, zi fn, .ref m_boat, .ref m_coins, zi vw, zi vm, zi vn, .ref m_rest, .ref m_ends, zl vc, .ref m_chan, .ref m_spl, zi (((100 * a) + (10 * b9)) + ((iu (iu (iu S1 0 a) 1 b9) 2 ((nq - a) - b9)) 2)), zi rn, .ref m_rf, .ref m_rr, .ref m_ik, .ref m_km, .ref m_kb, .ref m_kc, .ref m_kf, .ref m_kr])), (m_gut, .inl (y 0, 36, .inl (cI MG))), (m_spl, .inl (y 0, 3, .inl (cI (iu (iu (iu S1 0 a) 1 b9) 2 ((nq - a) - b9)))))] H := hP
                have hD : va_D A [(m0, .inr (11, [.ref m_read, zi rl, zi rp, .ref m_gut, zi gl, zi gp, zi gx, zi gy, .ref m_text, zi tn, zi fn, .ref m_boat, .ref m_coins, zi vw, zi vm, zi vn, .ref m_rest, .ref m_ends, zl vc, .ref m_chan, .ref m_spl, zi (((100 * a) + (10 * b9)) + ((iu (iu (iu S1 0 a) 1 b9) 2 ((nq - a) - b9)) 2)), zi rn, .ref m_rf, .ref m_rr, .ref m_ik, .ref m_km, .ref m_kb, .ref m_kc, .ref m_kf, .ref m_kr])), (m_gut, .inl (y 0, 36, .inl (cI MG))), (m_spl, .inl (y 0, 3, .inl (cI (iu (iu (iu S1 0 a) 1 b9) 2 ((nq - a) - b9)))))] := hD
                refine z_iinc (k := 3) (lv' := [(3, zi (vk + 1)), (6, zi 1), (5, zi b9), (4, zi a), (0, .ref m0), (1, zi nq), (2, zi cq)]) hx hb dX12_laySplits_139 hl rfl (by decide) rfl (fun ls hl => ?_)
                have r1 : (if (rsP (opV gl gp MG) (laneS gl gp MG) nq cq) a b9 = true then (vk + 1, if vf = -9 then 100 * a + 10 * b9 + (nq - a - b9) else vf) else (vk, vf)) = (vk + 1, ((100 * a) + (10 * b9)) + ((iu (iu (iu S1 0 a) 1 b9) 2 ((nq - a) - b9)) 2)) := (by first | (rw [if_pos (er.mpr c_103), if_pos (by omega), s2e]; done) | (rw [if_pos (er.mpr c_103), if_neg (by omega)]; done) | (rw [if_neg (fun z => c_103 (er.mp z))]; done) | (rw [if_neg nofit]; done))
                refine z_iinc (k := 2) (lv' := [(5, zi (b9 + (-1))), (3, zi (vk + 1)), (6, zi 1), (4, zi a), (0, .ref m0), (1, zi nq), (2, zi cq)]) hx hb dX12_laySplits_142 hl rfl (by decide) rfl (fun ls hl => ?_)
                refine lv_goto (tgt := 22) hx hb dX12_laySplits_145 (by decide) ?_
                exact ih22 (b9 + (-1), vk + 1, ((100 * a) + (10 * b9)) + ((iu (iu (iu S1 0 a) 1 b9) 2 ((nq - a) - b9)) 2), iu (iu (iu S1 0 a) 1 b9) 2 ((nq - a) - b9)) _ _ _ (by first | (dsimp only; omega) | omega) ⟨⟨by omega, by omega, by rw [show b9 + (-1) + 1 = b9 by omega, ← i3, spI_s _ _ _ (by omega), r1]⟩, lv_sub hl [0, 3, 1, 4, 5, 6] rfl, hP.sub [0, 1, 2] rfl, hD.sub [0, 1, 2] (by decide) rfl, hS⟩
        ·
          refine lv_aload_n hx hb dX12_laySplits_77 rfl (lv_at hl 3 rfl) ?_
          refine va_get hx hb hts hinX12 hown hK hP 0 rfl rfl 20 (by decide) k2 (fun _ h => h) rfl dX12_laySplits_78 ?_
          refine z_iconst hx hb dX12_laySplits_81 ?_
          refine z_iald hx hb hK hP 2 0 rfl rfl (by omega) (by decide) dX12_laySplits_82 ?_
          refine z_if_ne (tgt := 90) hx hb (by omega) dX12_laySplits_83 (by decide) (fun c_83 => ?_) (fun c_83 => ?_)
          ·
            have nofit : ¬ (rsP (opV gl gp MG) (laneS gl gp MG) nq cq) a b9 = true := fun z => (by first | exact ar_no (S := shF nq a b9) (gl := gl) (fun j q => op_o (by omega)) (j := 1) (by omega) (by omega) (by omega) (by show 0 < b9; omega) z | exact ar_no (S := shF nq a b9) (gl := gl) (fun j q => op_o (by omega)) (j := 2) (by omega) (by omega) (by omega) (by show 0 < nq - a - b9; omega) z)
            refine z_iconst hx hb dX12_laySplits_90 ?_
            refine lv_istore (lv' := [(6, zi 0), (5, zi b9), (4, zi a), (3, zi vk), (0, .ref m0), (1, zi nq), (2, zi cq)]) hx hb dX12_laySplits_91 hl (by decide) rfl (fun ls hl => ?_)
            refine lv_iload hx hb dX12_laySplits_93 (lv_at hl 0 rfl) ?_
            refine z_if_eq (tgt := 142) hx hb (by omega) dX12_laySplits_95 (by decide) (fun c_95 => ?_) (fun c_95 => ?_)
            ·
              have r1 : (if (rsP (opV gl gp MG) (laneS gl gp MG) nq cq) a b9 = true then (vk + 1, if vf = -9 then 100 * a + 10 * b9 + (nq - a - b9) else vf) else (vk, vf)) = (vk, vf) := (by first | (rw [if_pos (er.mpr c_103), if_pos (by omega), s2e]; done) | (rw [if_pos (er.mpr c_103), if_neg (by omega)]; done) | (rw [if_neg (fun z => c_103 (er.mp z))]; done) | (rw [if_neg nofit]; done))
              refine z_iinc (k := 1) (lv' := [(5, zi (b9 + (-1))), (6, zi 0), (4, zi a), (3, zi vk), (0, .ref m0), (1, zi nq), (2, zi cq)]) hx hb dX12_laySplits_142 hl rfl (by decide) rfl (fun ls hl => ?_)
              refine lv_goto (tgt := 22) hx hb dX12_laySplits_145 (by decide) ?_
              exact ih22 (b9 + (-1), vk, vf, iu (iu (iu S1 0 a) 1 b9) 2 ((nq - a) - b9)) _ _ _ (by first | (dsimp only; omega) | omega) ⟨⟨by omega, by omega, by rw [show b9 + (-1) + 1 = b9 by omega, ← i3, spI_s _ _ _ (by omega), r1]⟩, lv_sub hl [0, 2, 3, 4, 5, 6] rfl, hP.sub [0, 1, 2] rfl, hD.sub [0, 1, 2] (by decide) rfl, hS⟩
            · exfalso; omega
          ·
            refine z_iconst hx hb dX12_laySplits_86 ?_
            refine lv_goto (tgt := 91) hx hb dX12_laySplits_87 (by decide) ?_
            refine lv_istore (lv' := [(6, zi 1), (5, zi b9), (4, zi a), (3, zi vk), (0, .ref m0), (1, zi nq), (2, zi cq)]) hx hb dX12_laySplits_91 hl (by decide) rfl (fun ls hl => ?_)
            refine lv_iload hx hb dX12_laySplits_93 (lv_at hl 0 rfl) ?_
            refine z_if_eq (tgt := 142) hx hb (by omega) dX12_laySplits_95 (by decide) (fun c_95 => ?_) (fun c_95 => ?_)
            · exfalso; omega
            ·
              have ea := arP_c (OP := (opV gl gp MG)) (TM := (laneS gl gp MG)) (c := cq) (S := (iu (iu (iu S1 0 a) 1 b9) 2 ((nq - a) - b9))) (S' := shF nq a b9) (by rw [sh_0]; rfl) (by rw [sh_1]; rfl) (by rw [sh_2]; rfl)
              have er : (rsP (opV gl gp MG) (laneS gl gp MG) nq cq) a b9 = true ↔ arP (opV gl gp MG) (laneS gl gp MG) (iu (iu (iu S1 0 a) 1 b9) 2 ((nq - a) - b9)) cq := (by unfold rsP; exact ea.symm)
              refine lv_aload_n hx hb dX12_laySplits_98 rfl (lv_at hl 4 rfl) ?_
              refine lv_iload_n hx hb dX12_laySplits_99 rfl (lv_at hl 6 rfl) ?_
              refine z_pV (As := [zi cq]) (rest := []) hC (c_X12_isRest l D y m0 m_read rl rp m_gut gl gp gx gy m_text tn fn m_boat m_coins vw vm vn m_rest m_ends vc m_chan m_spl vf rn m_rf m_rr m_ik m_km m_kb m_kc m_kf m_kr MG (iu (iu (iu S1 0 a) 1 b9) 2 ((nq - a) - b9)) cq (by first | assumption | omega) (by omega) (in3 (by rw [sh_0]; omega) (by rw [sh_1]; omega) (by rw [sh_2]; omega)) (fun j q q2 => in3 (P := fun j => gl ≤ j → (iu (iu (iu S1 0 a) 1 b9) 2 ((nq - a) - b9)) j = 0) (fun h => by omega) (fun h => by rw [sh_1]; omega) (fun h => by rw [sh_2]; omega) j (by omega) q2 q)) (cwV 1 hts gX12_laySplits_X12_isRest rfl rfl rfl (by decide +kernel) ⟨Nat.le_of_ble_eq_true rfl, Nat.le_of_ble_eq_true rfl⟩) hG (hP.sub (ws' := [(m0, .inr (11, [.ref m_read, zi rl, zi rp, .ref m_gut, zi gl, zi gp, zi gx, zi gy, .ref m_text, zi tn, zi fn, .ref m_boat, .ref m_coins, zi vw, zi vm, zi vn, .ref m_rest, .ref m_ends, zl vc, .ref m_chan, .ref m_spl, zi vf, zi rn, .ref m_rf, .ref m_rr, .ref m_ik, .ref m_km, .ref m_kb, .ref m_kc, .ref m_kf, .ref m_kr])), (m_gut, .inl (y 0, 36, .inl (cI MG))), (m_spl, .inl (y 0, 3, .inl (cI (iu (iu (iu S1 0 a) 1 b9) 2 ((nq - a) - b9)))))]) [0, 1, 2] rfl) 0 rfl rfl rfl hl.1 rfl (Nat.le_of_ble_eq_true rfl) dX12_laySplits_100 ⟨Nat.le_of_ble_eq_true rfl, Nat.le_of_ble_eq_true rfl⟩ ?_
              refine z_ifB_eq (tgt := 142) hx hb dX12_laySplits_103 (by decide) (fun c_103 => ?_) (fun c_103 => ?_)
              ·
                have r1 : (if (rsP (opV gl gp MG) (laneS gl gp MG) nq cq) a b9 = true then (vk + 1, if vf = -9 then 100 * a + 10 * b9 + (nq - a - b9) else vf) else (vk, vf)) = (vk, vf) := (by first | (rw [if_pos (er.mpr c_103), if_pos (by omega), s2e]; done) | (rw [if_pos (er.mpr c_103), if_neg (by omega)]; done) | (rw [if_neg (fun z => c_103 (er.mp z))]; done) | (rw [if_neg nofit]; done))
                refine z_iinc (k := 1) (lv' := [(5, zi (b9 + (-1))), (6, zi 1), (4, zi a), (3, zi vk), (0, .ref m0), (1, zi nq), (2, zi cq)]) hx hb dX12_laySplits_142 hl rfl (by decide) rfl (fun ls hl => ?_)
                refine lv_goto (tgt := 22) hx hb dX12_laySplits_145 (by decide) ?_
                exact ih22 (b9 + (-1), vk, vf, iu (iu (iu S1 0 a) 1 b9) 2 ((nq - a) - b9)) _ _ _ (by first | (dsimp only; omega) | omega) ⟨⟨by omega, by omega, by rw [show b9 + (-1) + 1 = b9 by omega, ← i3, spI_s _ _ _ (by omega), r1]⟩, lv_sub hl [0, 2, 3, 4, 5, 6] rfl, hP.sub [0, 1, 2] rfl, hD.sub [0, 1, 2] (by decide) rfl, hS⟩
              ·
                refine lv_aload_n hx hb dX12_laySplits_106 rfl (lv_at hl 4 rfl) ?_
                refine lv_iload_n hx hb dX12_laySplits_107 rfl (lv_at hl 3 rfl) ?_
                refine z_if_ne (tgt := 132) hx hb (by omega) dX12_laySplits_108 (by decide) (fun c_108 => ?_) (fun c_108 => ?_)
                ·
                  refine lv_aload_n hx hb dX12_laySplits_132 rfl (lv_at hl 4 rfl) ?_
                  refine va_get hx hb hts hinX12 hown hK hP 0 rfl rfl 21 (by decide) k1 (fun _ h => h) rfl dX12_laySplits_133 ?_
                  refine va_put hx hb hts hinX12 tyX12 tyX12_ok nmX12 hown hK hP hD hS 0 rfl rfl 21 (by decide) k1 (fun _ h => h) rfl (tyX12_ok 21 (by decide)) rfl rfl (Nat.le_of_ble_eq_true rfl) dX12_laySplits_136 (fun H locs hP hD hS => ?_)
                  have hP : va_P D vwCl [(m0, .inr (11, [.ref m_read, zi rl, zi rp, .ref m_gut, zi gl, zi gp, zi gx, zi gy, .ref m_text, zi tn, zi fn, .ref m_boat, .ref m_coins, zi vw, zi vm, zi vn, .ref m_rest, .ref m_ends, zl vc, .ref m_chan, .ref m_spl, zi vf, zi rn, .ref m_rf, .ref m_rr, .ref m_ik, .ref m_km, .ref m_kb, .ref m_kc, .ref m_kf, .ref m_kr])), (m_gut, .inl (y 0, 36, .inl (cI MG))), (m_spl, .inl (y 0, 3, .inl (cI (iu (iu (iu S1 0 a) 1 b9) 2 ((nq - a) - b9)))))] H := hP
                  have hD : va_D A [(m0, .inr (11, [.ref m_read, zi rl, zi rp, .ref m_gut, zi gl, zi gp, zi gx, zi gy, .ref m_text, zi tn, zi fn, .ref m_boat, .ref m_coins, zi vw, zi vm, zi vn, .ref m_rest, .ref m_ends, zl vc, .ref m_chan, .ref m_spl, zi vf, zi rn, .ref m_rf, .ref m_rr, .ref m_ik, .ref m_km, .ref m_kb, .ref m_kc, .ref m_kf, .ref m_kr])), (m_gut, .inl (y 0, 36, .inl (cI MG))), (m_spl, .inl (y 0, 3, .inl (cI (iu (iu (iu S1 0 a) 1 b9) 2 ((nq - a) - b9)))))] := hD
                  refine z_iinc (k := 3) (lv' := [(3, zi (vk + 1)), (6, zi 1), (5, zi b9), (4, zi a), (0, .ref m0), (1, zi nq), (2, zi cq)]) hx hb dX12_laySplits_139 hl rfl (by decide) rfl (fun ls hl => ?_)
                  have r1 : (if (rsP (opV gl gp MG) (laneS gl gp MG) nq cq) a b9 = true then (vk + 1, if vf = -9 then 100 * a + 10 * b9 + (nq - a - b9) else vf) else (vk, vf)) = (vk + 1, vf) := (by first | (rw [if_pos (er.mpr c_103), if_pos (by omega), s2e]; done) | (rw [if_pos (er.mpr c_103), if_neg (by omega)]; done) | (rw [if_neg (fun z => c_103 (er.mp z))]; done) | (rw [if_neg nofit]; done))
                  refine z_iinc (k := 2) (lv' := [(5, zi (b9 + (-1))), (3, zi (vk + 1)), (6, zi 1), (4, zi a), (0, .ref m0), (1, zi nq), (2, zi cq)]) hx hb dX12_laySplits_142 hl rfl (by decide) rfl (fun ls hl => ?_)
                  refine lv_goto (tgt := 22) hx hb dX12_laySplits_145 (by decide) ?_
                  exact ih22 (b9 + (-1), vk + 1, vf, iu (iu (iu S1 0 a) 1 b9) 2 ((nq - a) - b9)) _ _ _ (by first | (dsimp only; omega) | omega) ⟨⟨by omega, by omega, by rw [show b9 + (-1) + 1 = b9 by omega, ← i3, spI_s _ _ _ (by omega), r1]⟩, lv_sub hl [0, 3, 1, 4, 5, 6] rfl, hP.sub [0, 1, 2] rfl, hD.sub [0, 1, 2] (by decide) rfl, hS⟩
                ·
                  refine z_bipush hx hb dX12_laySplits_111 (by decide) ?_
                  refine lv_iload hx hb dX12_laySplits_113 (lv_at hl 2 rfl) ?_
                  refine z_imul hx hb dX12_laySplits_115 ?_
                  refine z_bipush hx hb dX12_laySplits_116 (by decide) ?_
                  refine lv_iload hx hb dX12_laySplits_118 (lv_at hl 1 rfl) ?_
                  refine z_imul hx hb dX12_laySplits_120 ?_
                  refine z_iadd hx hb dX12_laySplits_121 ?_
                  refine lv_aload_n hx hb dX12_laySplits_122 rfl (lv_at hl 4 rfl) ?_
                  refine va_get hx hb hts hinX12 hown hK hP 0 rfl rfl 20 (by decide) k2 (fun _ h => h) rfl dX12_laySplits_123 ?_
                  refine z_iconst hx hb dX12_laySplits_126 ?_
                  refine z_iald hx hb hK hP 2 0 rfl rfl (by omega) (by decide) dX12_laySplits_127 ?_
                  refine z_iadd hx hb dX12_laySplits_128 ?_
                  refine lv_goto (tgt := 136) hx hb dX12_laySplits_129 (by decide) ?_
                  refine va_put hx hb hts hinX12 tyX12 tyX12_ok nmX12 hown hK hP hD hS 0 rfl rfl 21 (by decide) k1 (fun _ h => h) rfl (tyX12_ok 21 (by decide)) rfl rfl (Nat.le_of_ble_eq_true rfl) dX12_laySplits_136 (fun H locs hP hD hS => ?_)
                  have hP : va_P D vwCl [(m0, .inr (11, [.ref m_read, zi rl, zi rp, .ref m_gut, zi gl, zi gp, zi gx, zi gy, .ref m_text, zi tn, zi fn, .ref m_boat, .ref m_coins, zi vw, zi vm, zi vn, .ref m_rest, .ref m_ends, zl vc, .ref m_chan, .ref m_spl, zi (((100 * a) + (10 * b9)) + ((iu (iu (iu S1 0 a) 1 b9) 2 ((nq - a) - b9)) 2)), zi rn, .ref m_rf, .ref m_rr, .ref m_ik, .ref m_km, .ref m_kb, .ref m_kc, .ref m_kf, .ref m_kr])), (m_gut, .inl (y 0, 36, .inl (cI MG))), (m_spl, .inl (y 0, 3, .inl (cI (iu (iu (iu S1 0 a) 1 b9) 2 ((nq - a) - b9)))))] H := hP
                  have hD : va_D A [(m0, .inr (11, [.ref m_read, zi rl, zi rp, .ref m_gut, zi gl, zi gp, zi gx, zi gy, .ref m_text, zi tn, zi fn, .ref m_boat, .ref m_coins, zi vw, zi vm, zi vn, .ref m_rest, .ref m_ends, zl vc, .ref m_chan, .ref m_spl, zi (((100 * a) + (10 * b9)) + ((iu (iu (iu S1 0 a) 1 b9) 2 ((nq - a) - b9)) 2)), zi rn, .ref m_rf, .ref m_rr, .ref m_ik, .ref m_km, .ref m_kb, .ref m_kc, .ref m_kf, .ref m_kr])), (m_gut, .inl (y 0, 36, .inl (cI MG))), (m_spl, .inl (y 0, 3, .inl (cI (iu (iu (iu S1 0 a) 1 b9) 2 ((nq - a) - b9)))))] := hD
                  refine z_iinc (k := 3) (lv' := [(3, zi (vk + 1)), (6, zi 1), (5, zi b9), (4, zi a), (0, .ref m0), (1, zi nq), (2, zi cq)]) hx hb dX12_laySplits_139 hl rfl (by decide) rfl (fun ls hl => ?_)
                  have r1 : (if (rsP (opV gl gp MG) (laneS gl gp MG) nq cq) a b9 = true then (vk + 1, if vf = -9 then 100 * a + 10 * b9 + (nq - a - b9) else vf) else (vk, vf)) = (vk + 1, ((100 * a) + (10 * b9)) + ((iu (iu (iu S1 0 a) 1 b9) 2 ((nq - a) - b9)) 2)) := (by first | (rw [if_pos (er.mpr c_103), if_pos (by omega), s2e]; done) | (rw [if_pos (er.mpr c_103), if_neg (by omega)]; done) | (rw [if_neg (fun z => c_103 (er.mp z))]; done) | (rw [if_neg nofit]; done))
                  refine z_iinc (k := 2) (lv' := [(5, zi (b9 + (-1))), (3, zi (vk + 1)), (6, zi 1), (4, zi a), (0, .ref m0), (1, zi nq), (2, zi cq)]) hx hb dX12_laySplits_142 hl rfl (by decide) rfl (fun ls hl => ?_)
                  refine lv_goto (tgt := 22) hx hb dX12_laySplits_145 (by decide) ?_
                  exact ih22 (b9 + (-1), vk + 1, ((100 * a) + (10 * b9)) + ((iu (iu (iu S1 0 a) 1 b9) 2 ((nq - a) - b9)) 2), iu (iu (iu S1 0 a) 1 b9) 2 ((nq - a) - b9)) _ _ _ (by first | (dsimp only; omega) | omega) ⟨⟨by omega, by omega, by rw [show b9 + (-1) + 1 = b9 by omega, ← i3, spI_s _ _ _ (by omega), r1]⟩, lv_sub hl [0, 3, 1, 4, 5, 6] rfl, hP.sub [0, 1, 2] rfl, hD.sub [0, 1, 2] (by decide) rfl, hS⟩
      ·
        refine lv_iload hx hb dX12_laySplits_64 (lv_at hl 0 rfl) ?_
        refine z_if_ne (tgt := 90) hx hb (by omega) dX12_laySplits_66 (by decide) (fun c_66 => ?_) (fun c_66 => ?_)
        ·
          have nofit : ¬ (rsP (opV gl gp MG) (laneS gl gp MG) nq cq) a b9 = true := fun z => (by first | exact ar_no (S := shF nq a b9) (gl := gl) (fun j q => op_o (by omega)) (j := 1) (by omega) (by omega) (by omega) (by show 0 < b9; omega) z | exact ar_no (S := shF nq a b9) (gl := gl) (fun j q => op_o (by omega)) (j := 2) (by omega) (by omega) (by omega) (by show 0 < nq - a - b9; omega) z)
          refine z_iconst hx hb dX12_laySplits_90 ?_
          refine lv_istore (lv' := [(6, zi 0), (5, zi b9), (4, zi a), (3, zi vk), (0, .ref m0), (1, zi nq), (2, zi cq)]) hx hb dX12_laySplits_91 hl (by decide) rfl (fun ls hl => ?_)
          refine lv_iload hx hb dX12_laySplits_93 (lv_at hl 0 rfl) ?_
          refine z_if_eq (tgt := 142) hx hb (by omega) dX12_laySplits_95 (by decide) (fun c_95 => ?_) (fun c_95 => ?_)
          ·
            have r1 : (if (rsP (opV gl gp MG) (laneS gl gp MG) nq cq) a b9 = true then (vk + 1, if vf = -9 then 100 * a + 10 * b9 + (nq - a - b9) else vf) else (vk, vf)) = (vk, vf) := (by first | (rw [if_pos (er.mpr c_103), if_pos (by omega), s2e]; done) | (rw [if_pos (er.mpr c_103), if_neg (by omega)]; done) | (rw [if_neg (fun z => c_103 (er.mp z))]; done) | (rw [if_neg nofit]; done))
            refine z_iinc (k := 1) (lv' := [(5, zi (b9 + (-1))), (6, zi 0), (4, zi a), (3, zi vk), (0, .ref m0), (1, zi nq), (2, zi cq)]) hx hb dX12_laySplits_142 hl rfl (by decide) rfl (fun ls hl => ?_)
            refine lv_goto (tgt := 22) hx hb dX12_laySplits_145 (by decide) ?_
            exact ih22 (b9 + (-1), vk, vf, iu (iu (iu S1 0 a) 1 b9) 2 ((nq - a) - b9)) _ _ _ (by first | (dsimp only; omega) | omega) ⟨⟨by omega, by omega, by rw [show b9 + (-1) + 1 = b9 by omega, ← i3, spI_s _ _ _ (by omega), r1]⟩, lv_sub hl [0, 2, 3, 4, 5, 6] rfl, hP.sub [0, 1, 2] rfl, hD.sub [0, 1, 2] (by decide) rfl, hS⟩
          · exfalso; omega
        ·
          refine lv_aload_n hx hb dX12_laySplits_69 rfl (lv_at hl 3 rfl) ?_
          refine va_get hx hb hts hinX12 hown hK hP 0 rfl rfl 4 (by decide) k3 (fun _ h => h) rfl dX12_laySplits_70 ?_
          refine z_iconst hx hb dX12_laySplits_73 ?_
          refine z_icmp_gt (tgt := 86) hx hb (by omega) (by omega) dX12_laySplits_74 (by decide) (fun c_74 => ?_) (fun c_74 => ?_)
          ·
            refine z_iconst hx hb dX12_laySplits_86 ?_
            refine lv_goto (tgt := 91) hx hb dX12_laySplits_87 (by decide) ?_
            refine lv_istore (lv' := [(6, zi 1), (5, zi b9), (4, zi a), (3, zi vk), (0, .ref m0), (1, zi nq), (2, zi cq)]) hx hb dX12_laySplits_91 hl (by decide) rfl (fun ls hl => ?_)
            refine lv_iload hx hb dX12_laySplits_93 (lv_at hl 0 rfl) ?_
            refine z_if_eq (tgt := 142) hx hb (by omega) dX12_laySplits_95 (by decide) (fun c_95 => ?_) (fun c_95 => ?_)
            · exfalso; omega
            ·
              have ea := arP_c (OP := (opV gl gp MG)) (TM := (laneS gl gp MG)) (c := cq) (S := (iu (iu (iu S1 0 a) 1 b9) 2 ((nq - a) - b9))) (S' := shF nq a b9) (by rw [sh_0]; rfl) (by rw [sh_1]; rfl) (by rw [sh_2]; rfl)
              have er : (rsP (opV gl gp MG) (laneS gl gp MG) nq cq) a b9 = true ↔ arP (opV gl gp MG) (laneS gl gp MG) (iu (iu (iu S1 0 a) 1 b9) 2 ((nq - a) - b9)) cq := (by unfold rsP; exact ea.symm)
              refine lv_aload_n hx hb dX12_laySplits_98 rfl (lv_at hl 4 rfl) ?_
              refine lv_iload_n hx hb dX12_laySplits_99 rfl (lv_at hl 6 rfl) ?_
              refine z_pV (As := [zi cq]) (rest := []) hC (c_X12_isRest l D y m0 m_read rl rp m_gut gl gp gx gy m_text tn fn m_boat m_coins vw vm vn m_rest m_ends vc m_chan m_spl vf rn m_rf m_rr m_ik m_km m_kb m_kc m_kf m_kr MG (iu (iu (iu S1 0 a) 1 b9) 2 ((nq - a) - b9)) cq (by first | assumption | omega) (by omega) (in3 (by rw [sh_0]; omega) (by rw [sh_1]; omega) (by rw [sh_2]; omega)) (fun j q q2 => in3 (P := fun j => gl ≤ j → (iu (iu (iu S1 0 a) 1 b9) 2 ((nq - a) - b9)) j = 0) (fun h => by omega) (fun h => by rw [sh_1]; omega) (fun h => by rw [sh_2]; omega) j (by omega) q2 q)) (cwV 1 hts gX12_laySplits_X12_isRest rfl rfl rfl (by decide +kernel) ⟨Nat.le_of_ble_eq_true rfl, Nat.le_of_ble_eq_true rfl⟩) hG (hP.sub (ws' := [(m0, .inr (11, [.ref m_read, zi rl, zi rp, .ref m_gut, zi gl, zi gp, zi gx, zi gy, .ref m_text, zi tn, zi fn, .ref m_boat, .ref m_coins, zi vw, zi vm, zi vn, .ref m_rest, .ref m_ends, zl vc, .ref m_chan, .ref m_spl, zi vf, zi rn, .ref m_rf, .ref m_rr, .ref m_ik, .ref m_km, .ref m_kb, .ref m_kc, .ref m_kf, .ref m_kr])), (m_gut, .inl (y 0, 36, .inl (cI MG))), (m_spl, .inl (y 0, 3, .inl (cI (iu (iu (iu S1 0 a) 1 b9) 2 ((nq - a) - b9)))))]) [0, 1, 2] rfl) 0 rfl rfl rfl hl.1 rfl (Nat.le_of_ble_eq_true rfl) dX12_laySplits_100 ⟨Nat.le_of_ble_eq_true rfl, Nat.le_of_ble_eq_true rfl⟩ ?_
              refine z_ifB_eq (tgt := 142) hx hb dX12_laySplits_103 (by decide) (fun c_103 => ?_) (fun c_103 => ?_)
              ·
                have r1 : (if (rsP (opV gl gp MG) (laneS gl gp MG) nq cq) a b9 = true then (vk + 1, if vf = -9 then 100 * a + 10 * b9 + (nq - a - b9) else vf) else (vk, vf)) = (vk, vf) := (by first | (rw [if_pos (er.mpr c_103), if_pos (by omega), s2e]; done) | (rw [if_pos (er.mpr c_103), if_neg (by omega)]; done) | (rw [if_neg (fun z => c_103 (er.mp z))]; done) | (rw [if_neg nofit]; done))
                refine z_iinc (k := 1) (lv' := [(5, zi (b9 + (-1))), (6, zi 1), (4, zi a), (3, zi vk), (0, .ref m0), (1, zi nq), (2, zi cq)]) hx hb dX12_laySplits_142 hl rfl (by decide) rfl (fun ls hl => ?_)
                refine lv_goto (tgt := 22) hx hb dX12_laySplits_145 (by decide) ?_
                exact ih22 (b9 + (-1), vk, vf, iu (iu (iu S1 0 a) 1 b9) 2 ((nq - a) - b9)) _ _ _ (by first | (dsimp only; omega) | omega) ⟨⟨by omega, by omega, by rw [show b9 + (-1) + 1 = b9 by omega, ← i3, spI_s _ _ _ (by omega), r1]⟩, lv_sub hl [0, 2, 3, 4, 5, 6] rfl, hP.sub [0, 1, 2] rfl, hD.sub [0, 1, 2] (by decide) rfl, hS⟩
              ·
                refine lv_aload_n hx hb dX12_laySplits_106 rfl (lv_at hl 4 rfl) ?_
                refine lv_iload_n hx hb dX12_laySplits_107 rfl (lv_at hl 3 rfl) ?_
                refine z_if_ne (tgt := 132) hx hb (by omega) dX12_laySplits_108 (by decide) (fun c_108 => ?_) (fun c_108 => ?_)
                ·
                  refine lv_aload_n hx hb dX12_laySplits_132 rfl (lv_at hl 4 rfl) ?_
                  refine va_get hx hb hts hinX12 hown hK hP 0 rfl rfl 21 (by decide) k1 (fun _ h => h) rfl dX12_laySplits_133 ?_
                  refine va_put hx hb hts hinX12 tyX12 tyX12_ok nmX12 hown hK hP hD hS 0 rfl rfl 21 (by decide) k1 (fun _ h => h) rfl (tyX12_ok 21 (by decide)) rfl rfl (Nat.le_of_ble_eq_true rfl) dX12_laySplits_136 (fun H locs hP hD hS => ?_)
                  have hP : va_P D vwCl [(m0, .inr (11, [.ref m_read, zi rl, zi rp, .ref m_gut, zi gl, zi gp, zi gx, zi gy, .ref m_text, zi tn, zi fn, .ref m_boat, .ref m_coins, zi vw, zi vm, zi vn, .ref m_rest, .ref m_ends, zl vc, .ref m_chan, .ref m_spl, zi vf, zi rn, .ref m_rf, .ref m_rr, .ref m_ik, .ref m_km, .ref m_kb, .ref m_kc, .ref m_kf, .ref m_kr])), (m_gut, .inl (y 0, 36, .inl (cI MG))), (m_spl, .inl (y 0, 3, .inl (cI (iu (iu (iu S1 0 a) 1 b9) 2 ((nq - a) - b9)))))] H := hP
                  have hD : va_D A [(m0, .inr (11, [.ref m_read, zi rl, zi rp, .ref m_gut, zi gl, zi gp, zi gx, zi gy, .ref m_text, zi tn, zi fn, .ref m_boat, .ref m_coins, zi vw, zi vm, zi vn, .ref m_rest, .ref m_ends, zl vc, .ref m_chan, .ref m_spl, zi vf, zi rn, .ref m_rf, .ref m_rr, .ref m_ik, .ref m_km, .ref m_kb, .ref m_kc, .ref m_kf, .ref m_kr])), (m_gut, .inl (y 0, 36, .inl (cI MG))), (m_spl, .inl (y 0, 3, .inl (cI (iu (iu (iu S1 0 a) 1 b9) 2 ((nq - a) - b9)))))] := hD
                  refine z_iinc (k := 3) (lv' := [(3, zi (vk + 1)), (6, zi 1), (5, zi b9), (4, zi a), (0, .ref m0), (1, zi nq), (2, zi cq)]) hx hb dX12_laySplits_139 hl rfl (by decide) rfl (fun ls hl => ?_)
                  have r1 : (if (rsP (opV gl gp MG) (laneS gl gp MG) nq cq) a b9 = true then (vk + 1, if vf = -9 then 100 * a + 10 * b9 + (nq - a - b9) else vf) else (vk, vf)) = (vk + 1, vf) := (by first | (rw [if_pos (er.mpr c_103), if_pos (by omega), s2e]; done) | (rw [if_pos (er.mpr c_103), if_neg (by omega)]; done) | (rw [if_neg (fun z => c_103 (er.mp z))]; done) | (rw [if_neg nofit]; done))
                  refine z_iinc (k := 2) (lv' := [(5, zi (b9 + (-1))), (3, zi (vk + 1)), (6, zi 1), (4, zi a), (0, .ref m0), (1, zi nq), (2, zi cq)]) hx hb dX12_laySplits_142 hl rfl (by decide) rfl (fun ls hl => ?_)
                  refine lv_goto (tgt := 22) hx hb dX12_laySplits_145 (by decide) ?_
                  exact ih22 (b9 + (-1), vk + 1, vf, iu (iu (iu S1 0 a) 1 b9) 2 ((nq - a) - b9)) _ _ _ (by first | (dsimp only; omega) | omega) ⟨⟨by omega, by omega, by rw [show b9 + (-1) + 1 = b9 by omega, ← i3, spI_s _ _ _ (by omega), r1]⟩, lv_sub hl [0, 3, 1, 4, 5, 6] rfl, hP.sub [0, 1, 2] rfl, hD.sub [0, 1, 2] (by decide) rfl, hS⟩
                ·
                  refine z_bipush hx hb dX12_laySplits_111 (by decide) ?_
                  refine lv_iload hx hb dX12_laySplits_113 (lv_at hl 2 rfl) ?_
                  refine z_imul hx hb dX12_laySplits_115 ?_
                  refine z_bipush hx hb dX12_laySplits_116 (by decide) ?_
                  refine lv_iload hx hb dX12_laySplits_118 (lv_at hl 1 rfl) ?_
                  refine z_imul hx hb dX12_laySplits_120 ?_
                  refine z_iadd hx hb dX12_laySplits_121 ?_
                  refine lv_aload_n hx hb dX12_laySplits_122 rfl (lv_at hl 4 rfl) ?_
                  refine va_get hx hb hts hinX12 hown hK hP 0 rfl rfl 20 (by decide) k2 (fun _ h => h) rfl dX12_laySplits_123 ?_
                  refine z_iconst hx hb dX12_laySplits_126 ?_
                  refine z_iald hx hb hK hP 2 0 rfl rfl (by omega) (by decide) dX12_laySplits_127 ?_
                  refine z_iadd hx hb dX12_laySplits_128 ?_
                  refine lv_goto (tgt := 136) hx hb dX12_laySplits_129 (by decide) ?_
                  refine va_put hx hb hts hinX12 tyX12 tyX12_ok nmX12 hown hK hP hD hS 0 rfl rfl 21 (by decide) k1 (fun _ h => h) rfl (tyX12_ok 21 (by decide)) rfl rfl (Nat.le_of_ble_eq_true rfl) dX12_laySplits_136 (fun H locs hP hD hS => ?_)
                  have hP : va_P D vwCl [(m0, .inr (11, [.ref m_read, zi rl, zi rp, .ref m_gut, zi gl, zi gp, zi gx, zi gy, .ref m_text, zi tn, zi fn, .ref m_boat, .ref m_coins, zi vw, zi vm, zi vn, .ref m_rest, .ref m_ends, zl vc, .ref m_chan, .ref m_spl, zi (((100 * a) + (10 * b9)) + ((iu (iu (iu S1 0 a) 1 b9) 2 ((nq - a) - b9)) 2)), zi rn, .ref m_rf, .ref m_rr, .ref m_ik, .ref m_km, .ref m_kb, .ref m_kc, .ref m_kf, .ref m_kr])), (m_gut, .inl (y 0, 36, .inl (cI MG))), (m_spl, .inl (y 0, 3, .inl (cI (iu (iu (iu S1 0 a) 1 b9) 2 ((nq - a) - b9)))))] H := hP
                  have hD : va_D A [(m0, .inr (11, [.ref m_read, zi rl, zi rp, .ref m_gut, zi gl, zi gp, zi gx, zi gy, .ref m_text, zi tn, zi fn, .ref m_boat, .ref m_coins, zi vw, zi vm, zi vn, .ref m_rest, .ref m_ends, zl vc, .ref m_chan, .ref m_spl, zi (((100 * a) + (10 * b9)) + ((iu (iu (iu S1 0 a) 1 b9) 2 ((nq - a) - b9)) 2)), zi rn, .ref m_rf, .ref m_rr, .ref m_ik, .ref m_km, .ref m_kb, .ref m_kc, .ref m_kf, .ref m_kr])), (m_gut, .inl (y 0, 36, .inl (cI MG))), (m_spl, .inl (y 0, 3, .inl (cI (iu (iu (iu S1 0 a) 1 b9) 2 ((nq - a) - b9)))))] := hD
                  refine z_iinc (k := 3) (lv' := [(3, zi (vk + 1)), (6, zi 1), (5, zi b9), (4, zi a), (0, .ref m0), (1, zi nq), (2, zi cq)]) hx hb dX12_laySplits_139 hl rfl (by decide) rfl (fun ls hl => ?_)
                  have r1 : (if (rsP (opV gl gp MG) (laneS gl gp MG) nq cq) a b9 = true then (vk + 1, if vf = -9 then 100 * a + 10 * b9 + (nq - a - b9) else vf) else (vk, vf)) = (vk + 1, ((100 * a) + (10 * b9)) + ((iu (iu (iu S1 0 a) 1 b9) 2 ((nq - a) - b9)) 2)) := (by first | (rw [if_pos (er.mpr c_103), if_pos (by omega), s2e]; done) | (rw [if_pos (er.mpr c_103), if_neg (by omega)]; done) | (rw [if_neg (fun z => c_103 (er.mp z))]; done) | (rw [if_neg nofit]; done))
                  refine z_iinc (k := 2) (lv' := [(5, zi (b9 + (-1))), (3, zi (vk + 1)), (6, zi 1), (4, zi a), (0, .ref m0), (1, zi nq), (2, zi cq)]) hx hb dX12_laySplits_142 hl rfl (by decide) rfl (fun ls hl => ?_)
                  refine lv_goto (tgt := 22) hx hb dX12_laySplits_145 (by decide) ?_
                  exact ih22 (b9 + (-1), vk + 1, ((100 * a) + (10 * b9)) + ((iu (iu (iu S1 0 a) 1 b9) 2 ((nq - a) - b9)) 2), iu (iu (iu S1 0 a) 1 b9) 2 ((nq - a) - b9)) _ _ _ (by first | (dsimp only; omega) | omega) ⟨⟨by omega, by omega, by rw [show b9 + (-1) + 1 = b9 by omega, ← i3, spI_s _ _ _ (by omega), r1]⟩, lv_sub hl [0, 3, 1, 4, 5, 6] rfl, hP.sub [0, 1, 2] rfl, hD.sub [0, 1, 2] (by decide) rfl, hS⟩
          ·
            refine lv_aload_n hx hb dX12_laySplits_77 rfl (lv_at hl 3 rfl) ?_
            refine va_get hx hb hts hinX12 hown hK hP 0 rfl rfl 20 (by decide) k2 (fun _ h => h) rfl dX12_laySplits_78 ?_
            refine z_iconst hx hb dX12_laySplits_81 ?_
            refine z_iald hx hb hK hP 2 0 rfl rfl (by omega) (by decide) dX12_laySplits_82 ?_
            refine z_if_ne (tgt := 90) hx hb (by omega) dX12_laySplits_83 (by decide) (fun c_83 => ?_) (fun c_83 => ?_)
            ·
              have nofit : ¬ (rsP (opV gl gp MG) (laneS gl gp MG) nq cq) a b9 = true := fun z => (by first | exact ar_no (S := shF nq a b9) (gl := gl) (fun j q => op_o (by omega)) (j := 1) (by omega) (by omega) (by omega) (by show 0 < b9; omega) z | exact ar_no (S := shF nq a b9) (gl := gl) (fun j q => op_o (by omega)) (j := 2) (by omega) (by omega) (by omega) (by show 0 < nq - a - b9; omega) z)
              refine z_iconst hx hb dX12_laySplits_90 ?_
              refine lv_istore (lv' := [(6, zi 0), (5, zi b9), (4, zi a), (3, zi vk), (0, .ref m0), (1, zi nq), (2, zi cq)]) hx hb dX12_laySplits_91 hl (by decide) rfl (fun ls hl => ?_)
              refine lv_iload hx hb dX12_laySplits_93 (lv_at hl 0 rfl) ?_
              refine z_if_eq (tgt := 142) hx hb (by omega) dX12_laySplits_95 (by decide) (fun c_95 => ?_) (fun c_95 => ?_)
              ·
                have r1 : (if (rsP (opV gl gp MG) (laneS gl gp MG) nq cq) a b9 = true then (vk + 1, if vf = -9 then 100 * a + 10 * b9 + (nq - a - b9) else vf) else (vk, vf)) = (vk, vf) := (by first | (rw [if_pos (er.mpr c_103), if_pos (by omega), s2e]; done) | (rw [if_pos (er.mpr c_103), if_neg (by omega)]; done) | (rw [if_neg (fun z => c_103 (er.mp z))]; done) | (rw [if_neg nofit]; done))
                refine z_iinc (k := 1) (lv' := [(5, zi (b9 + (-1))), (6, zi 0), (4, zi a), (3, zi vk), (0, .ref m0), (1, zi nq), (2, zi cq)]) hx hb dX12_laySplits_142 hl rfl (by decide) rfl (fun ls hl => ?_)
                refine lv_goto (tgt := 22) hx hb dX12_laySplits_145 (by decide) ?_
                exact ih22 (b9 + (-1), vk, vf, iu (iu (iu S1 0 a) 1 b9) 2 ((nq - a) - b9)) _ _ _ (by first | (dsimp only; omega) | omega) ⟨⟨by omega, by omega, by rw [show b9 + (-1) + 1 = b9 by omega, ← i3, spI_s _ _ _ (by omega), r1]⟩, lv_sub hl [0, 2, 3, 4, 5, 6] rfl, hP.sub [0, 1, 2] rfl, hD.sub [0, 1, 2] (by decide) rfl, hS⟩
              · exfalso; omega
            ·
              refine z_iconst hx hb dX12_laySplits_86 ?_
              refine lv_goto (tgt := 91) hx hb dX12_laySplits_87 (by decide) ?_
              refine lv_istore (lv' := [(6, zi 1), (5, zi b9), (4, zi a), (3, zi vk), (0, .ref m0), (1, zi nq), (2, zi cq)]) hx hb dX12_laySplits_91 hl (by decide) rfl (fun ls hl => ?_)
              refine lv_iload hx hb dX12_laySplits_93 (lv_at hl 0 rfl) ?_
              refine z_if_eq (tgt := 142) hx hb (by omega) dX12_laySplits_95 (by decide) (fun c_95 => ?_) (fun c_95 => ?_)
              · exfalso; omega
              ·
                have ea := arP_c (OP := (opV gl gp MG)) (TM := (laneS gl gp MG)) (c := cq) (S := (iu (iu (iu S1 0 a) 1 b9) 2 ((nq - a) - b9))) (S' := shF nq a b9) (by rw [sh_0]; rfl) (by rw [sh_1]; rfl) (by rw [sh_2]; rfl)
                have er : (rsP (opV gl gp MG) (laneS gl gp MG) nq cq) a b9 = true ↔ arP (opV gl gp MG) (laneS gl gp MG) (iu (iu (iu S1 0 a) 1 b9) 2 ((nq - a) - b9)) cq := (by unfold rsP; exact ea.symm)
                refine lv_aload_n hx hb dX12_laySplits_98 rfl (lv_at hl 4 rfl) ?_
                refine lv_iload_n hx hb dX12_laySplits_99 rfl (lv_at hl 6 rfl) ?_
                refine z_pV (As := [zi cq]) (rest := []) hC (c_X12_isRest l D y m0 m_read rl rp m_gut gl gp gx gy m_text tn fn m_boat m_coins vw vm vn m_rest m_ends vc m_chan m_spl vf rn m_rf m_rr m_ik m_km m_kb m_kc m_kf m_kr MG (iu (iu (iu S1 0 a) 1 b9) 2 ((nq - a) - b9)) cq (by first | assumption | omega) (by omega) (in3 (by rw [sh_0]; omega) (by rw [sh_1]; omega) (by rw [sh_2]; omega)) (fun j q q2 => in3 (P := fun j => gl ≤ j → (iu (iu (iu S1 0 a) 1 b9) 2 ((nq - a) - b9)) j = 0) (fun h => by omega) (fun h => by rw [sh_1]; omega) (fun h => by rw [sh_2]; omega) j (by omega) q2 q)) (cwV 1 hts gX12_laySplits_X12_isRest rfl rfl rfl (by decide +kernel) ⟨Nat.le_of_ble_eq_true rfl, Nat.le_of_ble_eq_true rfl⟩) hG (hP.sub (ws' := [(m0, .inr (11, [.ref m_read, zi rl, zi rp, .ref m_gut, zi gl, zi gp, zi gx, zi gy, .ref m_text, zi tn, zi fn, .ref m_boat, .ref m_coins, zi vw, zi vm, zi vn, .ref m_rest, .ref m_ends, zl vc, .ref m_chan, .ref m_spl, zi vf, zi rn, .ref m_rf, .ref m_rr, .ref m_ik, .ref m_km, .ref m_kb, .ref m_kc, .ref m_kf, .ref m_kr])), (m_gut, .inl (y 0, 36, .inl (cI MG))), (m_spl, .inl (y 0, 3, .inl (cI (iu (iu (iu S1 0 a) 1 b9) 2 ((nq - a) - b9)))))]) [0, 1, 2] rfl) 0 rfl rfl rfl hl.1 rfl (Nat.le_of_ble_eq_true rfl) dX12_laySplits_100 ⟨Nat.le_of_ble_eq_true rfl, Nat.le_of_ble_eq_true rfl⟩ ?_
                refine z_ifB_eq (tgt := 142) hx hb dX12_laySplits_103 (by decide) (fun c_103 => ?_) (fun c_103 => ?_)
                ·
                  have r1 : (if (rsP (opV gl gp MG) (laneS gl gp MG) nq cq) a b9 = true then (vk + 1, if vf = -9 then 100 * a + 10 * b9 + (nq - a - b9) else vf) else (vk, vf)) = (vk, vf) := (by first | (rw [if_pos (er.mpr c_103), if_pos (by omega), s2e]; done) | (rw [if_pos (er.mpr c_103), if_neg (by omega)]; done) | (rw [if_neg (fun z => c_103 (er.mp z))]; done) | (rw [if_neg nofit]; done))
                  refine z_iinc (k := 1) (lv' := [(5, zi (b9 + (-1))), (6, zi 1), (4, zi a), (3, zi vk), (0, .ref m0), (1, zi nq), (2, zi cq)]) hx hb dX12_laySplits_142 hl rfl (by decide) rfl (fun ls hl => ?_)
                  refine lv_goto (tgt := 22) hx hb dX12_laySplits_145 (by decide) ?_
                  exact ih22 (b9 + (-1), vk, vf, iu (iu (iu S1 0 a) 1 b9) 2 ((nq - a) - b9)) _ _ _ (by first | (dsimp only; omega) | omega) ⟨⟨by omega, by omega, by rw [show b9 + (-1) + 1 = b9 by omega, ← i3, spI_s _ _ _ (by omega), r1]⟩, lv_sub hl [0, 2, 3, 4, 5, 6] rfl, hP.sub [0, 1, 2] rfl, hD.sub [0, 1, 2] (by decide) rfl, hS⟩
                ·
                  refine lv_aload_n hx hb dX12_laySplits_106 rfl (lv_at hl 4 rfl) ?_
                  refine lv_iload_n hx hb dX12_laySplits_107 rfl (lv_at hl 3 rfl) ?_
                  refine z_if_ne (tgt := 132) hx hb (by omega) dX12_laySplits_108 (by decide) (fun c_108 => ?_) (fun c_108 => ?_)
                  ·
                    refine lv_aload_n hx hb dX12_laySplits_132 rfl (lv_at hl 4 rfl) ?_
                    refine va_get hx hb hts hinX12 hown hK hP 0 rfl rfl 21 (by decide) k1 (fun _ h => h) rfl dX12_laySplits_133 ?_
                    refine va_put hx hb hts hinX12 tyX12 tyX12_ok nmX12 hown hK hP hD hS 0 rfl rfl 21 (by decide) k1 (fun _ h => h) rfl (tyX12_ok 21 (by decide)) rfl rfl (Nat.le_of_ble_eq_true rfl) dX12_laySplits_136 (fun H locs hP hD hS => ?_)
                    have hP : va_P D vwCl [(m0, .inr (11, [.ref m_read, zi rl, zi rp, .ref m_gut, zi gl, zi gp, zi gx, zi gy, .ref m_text, zi tn, zi fn, .ref m_boat, .ref m_coins, zi vw, zi vm, zi vn, .ref m_rest, .ref m_ends, zl vc, .ref m_chan, .ref m_spl, zi vf, zi rn, .ref m_rf, .ref m_rr, .ref m_ik, .ref m_km, .ref m_kb, .ref m_kc, .ref m_kf, .ref m_kr])), (m_gut, .inl (y 0, 36, .inl (cI MG))), (m_spl, .inl (y 0, 3, .inl (cI (iu (iu (iu S1 0 a) 1 b9) 2 ((nq - a) - b9)))))] H := hP
                    have hD : va_D A [(m0, .inr (11, [.ref m_read, zi rl, zi rp, .ref m_gut, zi gl, zi gp, zi gx, zi gy, .ref m_text, zi tn, zi fn, .ref m_boat, .ref m_coins, zi vw, zi vm, zi vn, .ref m_rest, .ref m_ends, zl vc, .ref m_chan, .ref m_spl, zi vf, zi rn, .ref m_rf, .ref m_rr, .ref m_ik, .ref m_km, .ref m_kb, .ref m_kc, .ref m_kf, .ref m_kr])), (m_gut, .inl (y 0, 36, .inl (cI MG))), (m_spl, .inl (y 0, 3, .inl (cI (iu (iu (iu S1 0 a) 1 b9) 2 ((nq - a) - b9)))))] := hD
                    refine z_iinc (k := 3) (lv' := [(3, zi (vk + 1)), (6, zi 1), (5, zi b9), (4, zi a), (0, .ref m0), (1, zi nq), (2, zi cq)]) hx hb dX12_laySplits_139 hl rfl (by decide) rfl (fun ls hl => ?_)
                    have r1 : (if (rsP (opV gl gp MG) (laneS gl gp MG) nq cq) a b9 = true then (vk + 1, if vf = -9 then 100 * a + 10 * b9 + (nq - a - b9) else vf) else (vk, vf)) = (vk + 1, vf) := (by first | (rw [if_pos (er.mpr c_103), if_pos (by omega), s2e]; done) | (rw [if_pos (er.mpr c_103), if_neg (by omega)]; done) | (rw [if_neg (fun z => c_103 (er.mp z))]; done) | (rw [if_neg nofit]; done))
                    refine z_iinc (k := 2) (lv' := [(5, zi (b9 + (-1))), (3, zi (vk + 1)), (6, zi 1), (4, zi a), (0, .ref m0), (1, zi nq), (2, zi cq)]) hx hb dX12_laySplits_142 hl rfl (by decide) rfl (fun ls hl => ?_)
                    refine lv_goto (tgt := 22) hx hb dX12_laySplits_145 (by decide) ?_
                    exact ih22 (b9 + (-1), vk + 1, vf, iu (iu (iu S1 0 a) 1 b9) 2 ((nq - a) - b9)) _ _ _ (by first | (dsimp only; omega) | omega) ⟨⟨by omega, by omega, by rw [show b9 + (-1) + 1 = b9 by omega, ← i3, spI_s _ _ _ (by omega), r1]⟩, lv_sub hl [0, 3, 1, 4, 5, 6] rfl, hP.sub [0, 1, 2] rfl, hD.sub [0, 1, 2] (by decide) rfl, hS⟩
                  ·
                    refine z_bipush hx hb dX12_laySplits_111 (by decide) ?_
                    refine lv_iload hx hb dX12_laySplits_113 (lv_at hl 2 rfl) ?_
                    refine z_imul hx hb dX12_laySplits_115 ?_
                    refine z_bipush hx hb dX12_laySplits_116 (by decide) ?_
                    refine lv_iload hx hb dX12_laySplits_118 (lv_at hl 1 rfl) ?_
                    refine z_imul hx hb dX12_laySplits_120 ?_
                    refine z_iadd hx hb dX12_laySplits_121 ?_
                    refine lv_aload_n hx hb dX12_laySplits_122 rfl (lv_at hl 4 rfl) ?_
                    refine va_get hx hb hts hinX12 hown hK hP 0 rfl rfl 20 (by decide) k2 (fun _ h => h) rfl dX12_laySplits_123 ?_
                    refine z_iconst hx hb dX12_laySplits_126 ?_
                    refine z_iald hx hb hK hP 2 0 rfl rfl (by omega) (by decide) dX12_laySplits_127 ?_
                    refine z_iadd hx hb dX12_laySplits_128 ?_
                    refine lv_goto (tgt := 136) hx hb dX12_laySplits_129 (by decide) ?_
                    refine va_put hx hb hts hinX12 tyX12 tyX12_ok nmX12 hown hK hP hD hS 0 rfl rfl 21 (by decide) k1 (fun _ h => h) rfl (tyX12_ok 21 (by decide)) rfl rfl (Nat.le_of_ble_eq_true rfl) dX12_laySplits_136 (fun H locs hP hD hS => ?_)
                    have hP : va_P D vwCl [(m0, .inr (11, [.ref m_read, zi rl, zi rp, .ref m_gut, zi gl, zi gp, zi gx, zi gy, .ref m_text, zi tn, zi fn, .ref m_boat, .ref m_coins, zi vw, zi vm, zi vn, .ref m_rest, .ref m_ends, zl vc, .ref m_chan, .ref m_spl, zi (((100 * a) + (10 * b9)) + ((iu (iu (iu S1 0 a) 1 b9) 2 ((nq - a) - b9)) 2)), zi rn, .ref m_rf, .ref m_rr, .ref m_ik, .ref m_km, .ref m_kb, .ref m_kc, .ref m_kf, .ref m_kr])), (m_gut, .inl (y 0, 36, .inl (cI MG))), (m_spl, .inl (y 0, 3, .inl (cI (iu (iu (iu S1 0 a) 1 b9) 2 ((nq - a) - b9)))))] H := hP
                    have hD : va_D A [(m0, .inr (11, [.ref m_read, zi rl, zi rp, .ref m_gut, zi gl, zi gp, zi gx, zi gy, .ref m_text, zi tn, zi fn, .ref m_boat, .ref m_coins, zi vw, zi vm, zi vn, .ref m_rest, .ref m_ends, zl vc, .ref m_chan, .ref m_spl, zi (((100 * a) + (10 * b9)) + ((iu (iu (iu S1 0 a) 1 b9) 2 ((nq - a) - b9)) 2)), zi rn, .ref m_rf, .ref m_rr, .ref m_ik, .ref m_km, .ref m_kb, .ref m_kc, .ref m_kf, .ref m_kr])), (m_gut, .inl (y 0, 36, .inl (cI MG))), (m_spl, .inl (y 0, 3, .inl (cI (iu (iu (iu S1 0 a) 1 b9) 2 ((nq - a) - b9)))))] := hD
                    refine z_iinc (k := 3) (lv' := [(3, zi (vk + 1)), (6, zi 1), (5, zi b9), (4, zi a), (0, .ref m0), (1, zi nq), (2, zi cq)]) hx hb dX12_laySplits_139 hl rfl (by decide) rfl (fun ls hl => ?_)
                    have r1 : (if (rsP (opV gl gp MG) (laneS gl gp MG) nq cq) a b9 = true then (vk + 1, if vf = -9 then 100 * a + 10 * b9 + (nq - a - b9) else vf) else (vk, vf)) = (vk + 1, ((100 * a) + (10 * b9)) + ((iu (iu (iu S1 0 a) 1 b9) 2 ((nq - a) - b9)) 2)) := (by first | (rw [if_pos (er.mpr c_103), if_pos (by omega), s2e]; done) | (rw [if_pos (er.mpr c_103), if_neg (by omega)]; done) | (rw [if_neg (fun z => c_103 (er.mp z))]; done) | (rw [if_neg nofit]; done))
                    refine z_iinc (k := 2) (lv' := [(5, zi (b9 + (-1))), (3, zi (vk + 1)), (6, zi 1), (4, zi a), (0, .ref m0), (1, zi nq), (2, zi cq)]) hx hb dX12_laySplits_142 hl rfl (by decide) rfl (fun ls hl => ?_)
                    refine lv_goto (tgt := 22) hx hb dX12_laySplits_145 (by decide) ?_
                    exact ih22 (b9 + (-1), vk + 1, ((100 * a) + (10 * b9)) + ((iu (iu (iu S1 0 a) 1 b9) 2 ((nq - a) - b9)) 2), iu (iu (iu S1 0 a) 1 b9) 2 ((nq - a) - b9)) _ _ _ (by first | (dsimp only; omega) | omega) ⟨⟨by omega, by omega, by rw [show b9 + (-1) + 1 = b9 by omega, ← i3, spI_s _ _ _ (by omega), r1]⟩, lv_sub hl [0, 3, 1, 4, 5, 6] rfl, hP.sub [0, 1, 2] rfl, hD.sub [0, 1, 2] (by decide) rfl, hS⟩
set_option maxHeartbeats 8000000 in
set_option maxRecDepth 100000 in
theorem c_X12_mayRest_out (l : Launch) (D : va_G) (y : Nat → ClassId) (m0 : Nat) (m_read : Nat) (rl : Int) (rp : Int) (m_gut : Nat) (gl : Int) (gp : Int) (gx : Int) (gy : Int) (m_text : Nat) (tn : Int) (fn : Int) (m_boat : Nat) (m_coins : Nat) (vw : Int) (vm : Int) (vn : Int) (m_rest : Nat) (m_ends : Nat) (vc : Int) (m_chan : Nat) (m_spl : Nat) (fs : Int) (rn : Int) (m_rf : Nat) (m_rr : Nat) (m_ik : Nat) (m_km : Nat) (m_kb : Nat) (m_kc : Nat) (m_kf : Nat) (m_kr : Nat) (nq : Int) (cq : Int) (hr9 : rI nq ∧ rI cq) (hq : ¬ ((1 ≤ nq ∧ nq ≤ 9) ∧ 0 ≤ cq ∧ cq ≤ 9)) : Met l yX12_mayRest wsX12_mayRest ({ frames := 1, cells := 0, slots := 0, locals := 25 } : Room) (pPc D y [(m0, .inr (11, [.ref m_read, zi rl, zi rp, .ref m_gut, zi gl, zi gp, zi gx, zi gy, .ref m_text, zi tn, zi fn, .ref m_boat, .ref m_coins, zi vw, zi vm, zi vn, .ref m_rest, .ref m_ends, zl vc, .ref m_chan, .ref m_spl, zi fs, zi rn, .ref m_rf, .ref m_rr, .ref m_ik, .ref m_km, .ref m_kb, .ref m_kc, .ref m_kf, .ref m_kr]))] [.ref m0, zi nq, zi cq]) (qV (zi (-2))) 0 0 (fun _ => False) := by
  refine P_of (own := RX12) (cc := cX12_mayRest) (maxL := 5) (ret := some .int) (by decide) rfl rfl (Nat.le_of_ble_eq_true rfl) (fun p e s m below meth c ls hx hb hr hC hlocks hPr hG hl => ?_)
  have hC0 := hC
  obtain ⟨-, -, hml, hown, hts⟩ := hC0
  have hK := hG.1
  have k1 := hts (.constantLong RX12 112 (9)) (List.mem_of_getElem? (i := 1) rfl)
  have hl : lv_has ls 5 [(0, .ref m0), (1, zi nq), (2, zi cq)] := hl
  refine lv_iload_n hx hb dX12_mayRest_0 rfl (lv_at hl 1 rfl) ?_
  refine z_i2l hx hb (by omega) dX12_mayRest_1 ?_
  refine lv_lconst (v := iL 1) hx hb dX12_mayRest_2 rfl ?_
  refine lv_ldc2 (v := iL 9) hx hb hown k1 dX12_mayRest_3 ?_
  refine z_pS (As := [zl nq, zl 1, zl 9]) (rest := []) hC (c_X12_in l D y nq 1 9 (by first | assumption | omega)) (va_cwS 3 hts gX12_mayRest_X12_in rfl rfl rfl (by decide +kernel) ⟨Nat.le_of_ble_eq_true rfl, Nat.le_of_ble_eq_true rfl⟩) hG va_P_nil rfl hl.1 rfl (Nat.le_of_ble_eq_true rfl) dX12_mayRest_6 ⟨Nat.le_of_ble_eq_true rfl, Nat.le_of_ble_eq_true rfl⟩ ?_
  refine z_ifB_eq (tgt := 24) hx hb dX12_mayRest_9 (by decide) (fun c_9 => ?_) (fun c_9 => ?_)
  ·
    refine z_bipush hx hb dX12_mayRest_24 (by decide) ?_
    exact z_iret0 hx hb hr hlocks (rfl) dX12_mayRest_26
  ·
    refine lv_iload_n hx hb dX12_mayRest_12 rfl (lv_at hl 2 rfl) ?_
    refine z_i2l hx hb (by omega) dX12_mayRest_13 ?_
    refine lv_lconst (v := iL 0) hx hb dX12_mayRest_14 rfl ?_
    refine lv_ldc2 (v := iL 9) hx hb hown k1 dX12_mayRest_15 ?_
    refine z_pS (As := [zl cq, zl 0, zl 9]) (rest := []) hC (c_X12_in l D y cq 0 9 (by first | assumption | omega)) (va_cwS 3 hts gX12_mayRest_X12_in rfl rfl rfl (by decide +kernel) ⟨Nat.le_of_ble_eq_true rfl, Nat.le_of_ble_eq_true rfl⟩) hG va_P_nil rfl hl.1 rfl (Nat.le_of_ble_eq_true rfl) dX12_mayRest_18 ⟨Nat.le_of_ble_eq_true rfl, Nat.le_of_ble_eq_true rfl⟩ ?_
    refine z_ifB_ne (tgt := 27) hx hb dX12_mayRest_21 (by decide) (fun c_21 => ?_) (fun c_21 => ?_)
    · exfalso; omega
    ·
      refine z_bipush hx hb dX12_mayRest_24 (by decide) ?_
      exact z_iret0 hx hb hr hlocks (rfl) dX12_mayRest_26
set_option maxHeartbeats 8000000 in
set_option maxRecDepth 100000 in
theorem c_X12_mayRest (l : Launch) (D : va_G) (y : Nat → ClassId) (m0 : Nat) (m_read : Nat) (rl : Int) (rp : Int) (m_gut : Nat) (gl : Int) (gp : Int) (gx : Int) (gy : Int) (m_text : Nat) (tn : Int) (fn : Int) (m_boat : Nat) (m_coins : Nat) (vw : Int) (vm : Int) (vn : Int) (m_rest : Nat) (m_ends : Nat) (vc : Int) (m_chan : Nat) (m_spl : Nat) (fs : Int) (rn : Int) (m_rf : Nat) (m_rr : Nat) (m_ik : Nat) (m_km : Nat) (m_kb : Nat) (m_kc : Nat) (m_kf : Nat) (m_kr : Nat) (MG : Int → Int) (nq : Int) (cq : Int) (hg : gOK gl gp gx gy MG) (hnc : (1 ≤ nq ∧ nq ≤ 9) ∧ 0 ≤ cq ∧ cq ≤ 9) : Met l yX12_mayRest wsX12_mayRest ({ frames := 2, cells := 0, slots := 0, locals := 43 } : Room) (pPc D y [(m0, .inr (11, [.ref m_read, zi rl, zi rp, .ref m_gut, zi gl, zi gp, zi gx, zi gy, .ref m_text, zi tn, zi fn, .ref m_boat, .ref m_coins, zi vw, zi vm, zi vn, .ref m_rest, .ref m_ends, zl vc, .ref m_chan, .ref m_spl, zi fs, zi rn, .ref m_rf, .ref m_rr, .ref m_ik, .ref m_km, .ref m_kb, .ref m_kc, .ref m_kf, .ref m_kr])), (m_gut, .inl (y 0, 36, .inl (cI MG)))] [.ref m0, zi nq, zi cq]) (qV (zi (if 0 < sgI (opV gl gp MG) 3 then 0 else -3))) 0 0 (fun _ => False) := by
  refine P_of (own := RX12) (cc := cX12_mayRest) (maxL := 5) (ret := some .int) (by decide) rfl rfl (Nat.le_of_ble_eq_true rfl) (fun p e s m below meth c ls hx hb hr hC hlocks hPr hG hl => ?_)
  have hC0 := hC
  obtain ⟨-, -, hml, hown, hts⟩ := hC0
  have hK := hG.1
  have hinX12 : ∀ w ∈ wsX120, w ∈ wsX12_mayRest := fun _ h => List.mem_cons_of_mem _ (List.mem_append_right _ h)
  have k1 := hts (.constantLong RX12 112 (9)) (List.mem_of_getElem? (i := 1) rfl)
  have k2 := hts (.fieldLink RX12 63 "BoatsOfPaperModel" "lanes" "I") (List.mem_of_getElem? (i := 2) rfl)
  have k3 := hts (.constant RX12 150 (100000)) (List.mem_of_getElem? (i := 3) rfl)
  have hl : lv_has ls 5 [(0, .ref m0), (1, zi nq), (2, zi cq)] := hl
  obtain ⟨u1, u2, u3, u4, uk⟩ := id hg
  have o3 := op_3 (gl := gl) (gp := gp) (GK := MG) u1
  refine lv_iload_n hx hb dX12_mayRest_0 rfl (lv_at hl 1 rfl) ?_
  refine z_i2l hx hb (by omega) dX12_mayRest_1 ?_
  refine lv_lconst (v := iL 1) hx hb dX12_mayRest_2 rfl ?_
  refine lv_ldc2 (v := iL 9) hx hb hown k1 dX12_mayRest_3 ?_
  refine z_pS (As := [zl nq, zl 1, zl 9]) (rest := []) hC (c_X12_in l D y nq 1 9 (by first | assumption | omega)) (va_cwS 3 hts gX12_mayRest_X12_in rfl rfl rfl (by decide +kernel) ⟨Nat.le_of_ble_eq_true rfl, Nat.le_of_ble_eq_true rfl⟩) hG va_P_nil rfl hl.1 rfl (Nat.le_of_ble_eq_true rfl) dX12_mayRest_6 ⟨Nat.le_of_ble_eq_true rfl, Nat.le_of_ble_eq_true rfl⟩ ?_
  refine z_ifB_eq (tgt := 24) hx hb dX12_mayRest_9 (by decide) (fun c_9 => ?_) (fun c_9 => ?_)
  · exfalso; omega
  ·
    refine lv_iload_n hx hb dX12_mayRest_12 rfl (lv_at hl 2 rfl) ?_
    refine z_i2l hx hb (by omega) dX12_mayRest_13 ?_
    refine lv_lconst (v := iL 0) hx hb dX12_mayRest_14 rfl ?_
    refine lv_ldc2 (v := iL 9) hx hb hown k1 dX12_mayRest_15 ?_
    refine z_pS (As := [zl cq, zl 0, zl 9]) (rest := []) hC (c_X12_in l D y cq 0 9 (by first | assumption | omega)) (va_cwS 3 hts gX12_mayRest_X12_in rfl rfl rfl (by decide +kernel) ⟨Nat.le_of_ble_eq_true rfl, Nat.le_of_ble_eq_true rfl⟩) hG va_P_nil rfl hl.1 rfl (Nat.le_of_ble_eq_true rfl) dX12_mayRest_18 ⟨Nat.le_of_ble_eq_true rfl, Nat.le_of_ble_eq_true rfl⟩ ?_
    refine z_ifB_ne (tgt := 27) hx hb dX12_mayRest_21 (by decide) (fun c_21 => ?_) (fun c_21 => ?_)
    ·
      refine z_iconst hx hb dX12_mayRest_27 ?_
      refine lv_istore_n (lv' := [(3, zi 0), (0, .ref m0), (1, zi nq), (2, zi cq)]) hx hb dX12_mayRest_28 rfl hl (by decide) rfl (fun ls hl => ?_)
      refine z_iconst hx hb dX12_mayRest_29 ?_
      refine lv_istore (lv' := [(4, zi 0), (3, zi 0), (0, .ref m0), (1, zi nq), (2, zi cq)]) hx hb dX12_mayRest_30 hl (by decide) rfl (fun ls hl => ?_)
      refine z_loop (σ := Int × Int) (fun x9 H lc ls => match x9 with | (v, k) => ((0 ≤ k ∧ k ≤ gl) ∧ (v = 0 ∨ v = 1) ∧ (v = 1 ↔ 0 < sgI (opV gl gp MG) k) ∧ 0 ≤ sgI (opV gl gp MG) k) ∧ lv_has ls 5 [(4, zi k), (3, zi v), (0, .ref m0), (1, zi nq), (2, zi cq)] ∧ H = s.heap ∧ lc = []) (fun x9  => match x9 with | (v, k) => ((gl - k).toNat)) ?_ (0, 0) ⟨⟨by omega, by omega, by rw [sgI_0]; omega, by rw [sgI_0]; omega⟩, lv_sub hl [0, 1, 2, 3, 4] rfl, rfl, rfl⟩
      rintro ⟨v, k⟩ H lc ls ⟨hi32, hl, rfl, rfl⟩ ih32
      obtain ⟨j1, j2, j3, j4⟩ := hi32
      refine lv_iload hx hb dX12_mayRest_32 (lv_at hl 0 rfl) ?_
      refine lv_aload_n hx hb dX12_mayRest_34 rfl (lv_at hl 2 rfl) ?_
      refine va_get hx hb hts hinX12 hown hK hPr 0 rfl rfl 4 (by decide) k2 (fun _ h => h) rfl dX12_mayRest_35 ?_
      refine z_icmp_ge (tgt := 68) hx hb (by omega) (by omega) dX12_mayRest_38 (by decide) (fun c_38 => ?_) (fun c_38 => ?_)
      ·
        rw [show k = gl by omega, o3] at j3
        refine lv_iload_n hx hb dX12_mayRest_68 rfl (lv_at hl 1 rfl) ?_
        refine z_if_eq (tgt := 76) hx hb (by omega) dX12_mayRest_69 (by decide) (fun c_69 => ?_) (fun c_69 => ?_)
        ·
          refine z_bipush hx hb dX12_mayRest_76 (by decide) ?_
          exact z_iret0 hx hb hr hlocks (by first | exact (if_pos (by omega)).symm | exact (if_neg (by omega)).symm) dX12_mayRest_78
        ·
          refine z_iconst hx hb dX12_mayRest_72 ?_
          refine lv_goto (tgt := 78) hx hb dX12_mayRest_73 (by decide) ?_
          exact z_iret0 hx hb hr hlocks (by first | exact (if_pos (by omega)).symm | exact (if_neg (by omega)).symm) dX12_mayRest_78
      ·
        have nk1 := laneS_bd hg k (k := gp) (by omega) (by omega)
        have nk2 : sgI (fun p => secV (kAt gl gp MG k p)) gp = laneS gl gp MG k := rfl
        have nk3 := op_i (gl := gl) (gp := gp) (GK := MG) (la := k) (by omega) (by omega) (by omega)
        have nk4 := wallN_bd (gl := gl) (GK := MG) (la := k) (gp := gp) (by omega)
        have nk5 : mtV gl gp MG k = laneS gl gp MG k + 100000 * wallN gl gp MG k := rfl
        have sgs := sgI_s (opV gl gp MG) j1.1
        have o01 : opV gl gp MG k = 0 ∨ opV gl gp MG k = 1 := bI01 _
        refine lv_iload_n hx hb dX12_mayRest_41 rfl (lv_at hl 1 rfl) ?_
        refine z_if_ne (tgt := 56) hx hb (by omega) dX12_mayRest_42 (by decide) (fun c_42 => ?_) (fun c_42 => ?_)
        ·
          refine z_iconst hx hb dX12_mayRest_56 ?_
          refine lv_goto (tgt := 61) hx hb dX12_mayRest_57 (by decide) ?_
          refine lv_istore_n (lv' := [(3, zi 1), (4, zi k), (0, .ref m0), (1, zi nq), (2, zi cq)]) hx hb dX12_mayRest_61 rfl hl (by decide) rfl (fun ls hl => ?_)
          refine z_iinc (k := 1) (lv' := [(4, zi (k + 1)), (3, zi 1), (0, .ref m0), (1, zi nq), (2, zi cq)]) hx hb dX12_mayRest_62 hl rfl (by decide) rfl (fun ls hl => ?_)
          refine lv_goto (tgt := 32) hx hb dX12_mayRest_65 (by decide) ?_
          exact ih32 (1, k + 1) _ _ _ (by first | (dsimp only; omega) | omega) ⟨⟨by omega, by omega, by omega, by omega⟩, lv_sub hl [0, 1, 2, 3, 4] rfl, rfl, rfl⟩
        ·
          refine lv_aload_n hx hb dX12_mayRest_45 rfl (lv_at hl 2 rfl) ?_
          refine lv_iload hx hb dX12_mayRest_46 (lv_at hl 0 rfl) ?_
          refine z_pV (As := [zi k]) (rest := []) hC (c_X12_laneTime l D y m0 m_read rl rp m_gut gl gp gx gy m_text tn fn m_boat m_coins vw vm vn m_rest m_ends vc m_chan m_spl fs rn m_rf m_rr m_ik m_km m_kb m_kc m_kf m_kr MG k (by first | assumption | omega) (by first | assumption | omega)) (cwV 1 hts gX12_mayRest_X12_laneTime rfl rfl rfl (by decide +kernel) ⟨Nat.le_of_ble_eq_true rfl, Nat.le_of_ble_eq_true rfl⟩) hG (hPr.sub (ws' := [(m0, .inr (11, [.ref m_read, zi rl, zi rp, .ref m_gut, zi gl, zi gp, zi gx, zi gy, .ref m_text, zi tn, zi fn, .ref m_boat, .ref m_coins, zi vw, zi vm, zi vn, .ref m_rest, .ref m_ends, zl vc, .ref m_chan, .ref m_spl, zi fs, zi rn, .ref m_rf, .ref m_rr, .ref m_ik, .ref m_km, .ref m_kb, .ref m_kc, .ref m_kf, .ref m_kr])), (m_gut, .inl (y 0, 36, .inl (cI MG)))]) [0, 1] rfl) 0 rfl rfl rfl hl.1 rfl (Nat.le_of_ble_eq_true rfl) dX12_mayRest_48 ⟨Nat.le_of_ble_eq_true rfl, Nat.le_of_ble_eq_true rfl⟩ ?_
          refine lv_ldc (v := iI 100000) hx hb hown k3 dX12_mayRest_51 ?_
          refine z_icmp_ge (tgt := 60) hx hb (by omega) (by omega) dX12_mayRest_53 (by decide) (fun c_53 => ?_) (fun c_53 => ?_)
          ·
            refine z_iconst hx hb dX12_mayRest_60 ?_
            refine lv_istore_n (lv' := [(3, zi 0), (4, zi k), (0, .ref m0), (1, zi nq), (2, zi cq)]) hx hb dX12_mayRest_61 rfl hl (by decide) rfl (fun ls hl => ?_)
            refine z_iinc (k := 1) (lv' := [(4, zi (k + 1)), (3, zi 0), (0, .ref m0), (1, zi nq), (2, zi cq)]) hx hb dX12_mayRest_62 hl rfl (by decide) rfl (fun ls hl => ?_)
            refine lv_goto (tgt := 32) hx hb dX12_mayRest_65 (by decide) ?_
            exact ih32 (0, k + 1) _ _ _ (by first | (dsimp only; omega) | omega) ⟨⟨by omega, by omega, by omega, by omega⟩, lv_sub hl [0, 1, 2, 3, 4] rfl, rfl, rfl⟩
          ·
            refine z_iconst hx hb dX12_mayRest_56 ?_
            refine lv_goto (tgt := 61) hx hb dX12_mayRest_57 (by decide) ?_
            refine lv_istore_n (lv' := [(3, zi 1), (4, zi k), (0, .ref m0), (1, zi nq), (2, zi cq)]) hx hb dX12_mayRest_61 rfl hl (by decide) rfl (fun ls hl => ?_)
            refine z_iinc (k := 1) (lv' := [(4, zi (k + 1)), (3, zi 1), (0, .ref m0), (1, zi nq), (2, zi cq)]) hx hb dX12_mayRest_62 hl rfl (by decide) rfl (fun ls hl => ?_)
            refine lv_goto (tgt := 32) hx hb dX12_mayRest_65 (by decide) ?_
            exact ih32 (1, k + 1) _ _ _ (by first | (dsimp only; omega) | omega) ⟨⟨by omega, by omega, by omega, by omega⟩, lv_sub hl [0, 1, 2, 3, 4] rfl, rfl, rfl⟩
    · exfalso; omega
set_option maxHeartbeats 8000000 in
set_option maxRecDepth 100000 in
theorem c_X12_rests_out (l : Launch) (D : va_G) (y : Nat → ClassId) (m0 : Nat) (m_read : Nat) (rl : Int) (rp : Int) (m_gut : Nat) (gl : Int) (gp : Int) (gx : Int) (gy : Int) (m_text : Nat) (tn : Int) (fn : Int) (m_boat : Nat) (m_coins : Nat) (vw : Int) (vm : Int) (vn : Int) (m_rest : Nat) (m_ends : Nat) (vc : Int) (m_chan : Nat) (m_spl : Nat) (fs : Int) (rn : Int) (m_rf : Nat) (m_rr : Nat) (m_ik : Nat) (m_km : Nat) (m_kb : Nat) (m_kc : Nat) (m_kf : Nat) (m_kr : Nat) (nq : Int) (cq : Int) (hr9 : rI nq ∧ rI cq) (hq : ¬ ((1 ≤ nq ∧ nq ≤ 9) ∧ 0 ≤ cq ∧ cq ≤ 9)) : Met l yX12_rests wsX12_rests ({ frames := 2, cells := 0, slots := 0, locals := 49 } : Room) (pPc D y [(m0, .inr (11, [.ref m_read, zi rl, zi rp, .ref m_gut, zi gl, zi gp, zi gx, zi gy, .ref m_text, zi tn, zi fn, .ref m_boat, .ref m_coins, zi vw, zi vm, zi vn, .ref m_rest, .ref m_ends, zl vc, .ref m_chan, .ref m_spl, zi fs, zi rn, .ref m_rf, .ref m_rr, .ref m_ik, .ref m_km, .ref m_kb, .ref m_kc, .ref m_kf, .ref m_kr]))] [.ref m0, zi nq, zi cq]) (qV (zi (-2))) 0 0 (fun _ => False) := by
  refine P_of (own := RX12) (cc := cX12_rests) (maxL := 4) (ret := some .int) (by decide) rfl rfl (Nat.le_of_ble_eq_true rfl) (fun p e s m below meth c ls hx hb hr hC hlocks hPr hG hl => ?_)
  have hC0 := hC
  obtain ⟨-, -, hml, hown, hts⟩ := hC0
  have hK := hG.1
  have hl : lv_has ls 4 [(0, .ref m0), (1, zi nq), (2, zi cq)] := hl
  refine lv_aload_n hx hb dX12_rests_0 rfl (lv_at hl 0 rfl) ?_
  refine lv_iload_n hx hb dX12_rests_1 rfl (lv_at hl 1 rfl) ?_
  refine lv_iload_n hx hb dX12_rests_2 rfl (lv_at hl 2 rfl) ?_
  refine z_pV (As := [zi nq, zi cq]) (rest := []) hC (c_X12_mayRest_out l D y m0 m_read rl rp m_gut gl gp gx gy m_text tn fn m_boat m_coins vw vm vn m_rest m_ends vc m_chan m_spl fs rn m_rf m_rr m_ik m_km m_kb m_kc m_kf m_kr nq cq (by first | assumption | omega) (by first | assumption | omega)) (cwV 2 hts gX12_rests_X12_mayRest rfl rfl rfl (by decide +kernel) ⟨Nat.le_of_ble_eq_true rfl, Nat.le_of_ble_eq_true rfl⟩) hG (hPr.sub (ws' := [(m0, .inr (11, [.ref m_read, zi rl, zi rp, .ref m_gut, zi gl, zi gp, zi gx, zi gy, .ref m_text, zi tn, zi fn, .ref m_boat, .ref m_coins, zi vw, zi vm, zi vn, .ref m_rest, .ref m_ends, zl vc, .ref m_chan, .ref m_spl, zi fs, zi rn, .ref m_rf, .ref m_rr, .ref m_ik, .ref m_km, .ref m_kb, .ref m_kc, .ref m_kf, .ref m_kr]))]) [0] rfl) 0 rfl rfl rfl hl.1 rfl (Nat.le_of_ble_eq_true rfl) dX12_rests_3 ⟨Nat.le_of_ble_eq_true rfl, Nat.le_of_ble_eq_true rfl⟩ ?_
  refine lv_istore_n (lv' := [(3, zi (-2)), (0, .ref m0), (1, zi nq), (2, zi cq)]) hx hb dX12_rests_6 rfl hl (by decide) rfl (fun ls hl => ?_)
  refine lv_iload_n hx hb dX12_rests_7 rfl (lv_at hl 0 rfl) ?_
  refine z_if_ge (tgt := 15) hx hb (by omega) dX12_rests_8 (by decide) (fun c_8 => ?_) (fun c_8 => ?_)
  · exfalso; omega
  ·
    refine lv_iload_n hx hb dX12_rests_11 rfl (lv_at hl 0 rfl) ?_
    refine lv_goto (tgt := 21) hx hb dX12_rests_12 (by decide) ?_
    exact z_iret0 hx hb hr hlocks (rfl) dX12_rests_21
set_option maxHeartbeats 8000000 in
set_option maxRecDepth 100000 in
theorem c_X12_rests (l : Launch) (D : va_G) (y : Nat → ClassId) (m0 : Nat) (m_read : Nat) (rl : Int) (rp : Int) (m_gut : Nat) (gl : Int) (gp : Int) (gx : Int) (gy : Int) (m_text : Nat) (tn : Int) (fn : Int) (m_boat : Nat) (m_coins : Nat) (vw : Int) (vm : Int) (vn : Int) (m_rest : Nat) (m_ends : Nat) (vc : Int) (m_chan : Nat) (m_spl : Nat) (fs : Int) (rn : Int) (m_rf : Nat) (m_rr : Nat) (m_ik : Nat) (m_km : Nat) (m_kb : Nat) (m_kc : Nat) (m_kf : Nat) (m_kr : Nat) (MG : Int → Int) (MS : Int → Int) (nq : Int) (cq : Int) (hg : gOK gl gp gx gy MG) (hnc : (1 ≤ nq ∧ nq ≤ 9) ∧ 0 ≤ cq ∧ cq ≤ 9) (sz : Nat) : Met l yX12_rests wsX12_rests ({ frames := 4, cells := 0, slots := 0, locals := 95 } : Room) (wPc D y [] [(m0, .inr (11, [.ref m_read, zi rl, zi rp, .ref m_gut, zi gl, zi gp, zi gx, zi gy, .ref m_text, zi tn, zi fn, .ref m_boat, .ref m_coins, zi vw, zi vm, zi vn, .ref m_rest, .ref m_ends, zl vc, .ref m_chan, .ref m_spl, zi fs, zi rn, .ref m_rf, .ref m_rr, .ref m_ik, .ref m_km, .ref m_kb, .ref m_kc, .ref m_kf, .ref m_kr])), (m_gut, .inl (y 0, 36, .inl (cI MG))), (m_spl, .inl (y 0, 3, .inl (cI MS)))] sz [.ref m0, zi nq, zi cq]) (wQ D (fun (x9 : Int × (Int → Int)) => match x9 with | (fs2, MS2) => some (zi (if 0 < sgI (opV gl gp MG) 3 then (spT (rsP (opV gl gp MG) (laneS gl gp MG) nq cq) nq).1 else -3))) (fun (x9 : Int × (Int → Int)) => match x9 with | (fs2, MS2) => True) (fun (x9 : Int × (Int → Int)) => match x9 with | (fs2, MS2) => [(m0, .inr (11, [.ref m_read, zi rl, zi rp, .ref m_gut, zi gl, zi gp, zi gx, zi gy, .ref m_text, zi tn, zi fn, .ref m_boat, .ref m_coins, zi vw, zi vm, zi vn, .ref m_rest, .ref m_ends, zl vc, .ref m_chan, .ref m_spl, zi fs2, zi rn, .ref m_rf, .ref m_rr, .ref m_ik, .ref m_km, .ref m_kb, .ref m_kc, .ref m_kf, .ref m_kr])), (m_gut, .inl (y 0, 36, .inl (cI MG))), (m_spl, .inl (y 0, 3, .inl (cI MS2)))]) (va_A [(m0, .inr (11, [.ref m_read, zi rl, zi rp, .ref m_gut, zi gl, zi gp, zi gx, zi gy, .ref m_text, zi tn, zi fn, .ref m_boat, .ref m_coins, zi vw, zi vm, zi vn, .ref m_rest, .ref m_ends, zl vc, .ref m_chan, .ref m_spl, zi fs, zi rn, .ref m_rf, .ref m_rr, .ref m_ik, .ref m_km, .ref m_kb, .ref m_kc, .ref m_kf, .ref m_kr])), (m_gut, .inl (y 0, 36, .inl (cI MG))), (m_spl, .inl (y 0, 3, .inl (cI MS)))] sz)) 0 0 (va_A [(m0, .inr (11, [.ref m_read, zi rl, zi rp, .ref m_gut, zi gl, zi gp, zi gx, zi gy, .ref m_text, zi tn, zi fn, .ref m_boat, .ref m_coins, zi vw, zi vm, zi vn, .ref m_rest, .ref m_ends, zl vc, .ref m_chan, .ref m_spl, zi fs, zi rn, .ref m_rf, .ref m_rr, .ref m_ik, .ref m_km, .ref m_kb, .ref m_kc, .ref m_kf, .ref m_kr])), (m_gut, .inl (y 0, 36, .inl (cI MG))), (m_spl, .inl (y 0, 3, .inl (cI MS)))] sz) := by
  refine W_of (own := RX12) (cc := cX12_rests) (maxL := 4) (ret := some .int) (by decide) rfl rfl (Nat.le_of_ble_eq_true rfl) (fun p e s m below meth c ls A hx hb hr hC hlocks hin0 hR0 hN hP hD hA hG hl => ?_)
  have hC0 := hC
  obtain ⟨-, -, hml, hown, hts⟩ := hC0
  have hK := hG.1
  have hS : va_S A s.heap s.heap [] := va_S.rf
  have hPr := hR0
  have hl : lv_has ls 4 [(0, .ref m0), (1, zi nq), (2, zi cq)] := hl
  refine lv_aload_n hx hb dX12_rests_0 rfl (lv_at hl 0 rfl) ?_
  refine lv_iload_n hx hb dX12_rests_1 rfl (lv_at hl 1 rfl) ?_
  refine lv_iload_n hx hb dX12_rests_2 rfl (lv_at hl 2 rfl) ?_
  refine z_pV (As := [zi nq, zi cq]) (rest := []) hC (c_X12_mayRest l D y m0 m_read rl rp m_gut gl gp gx gy m_text tn fn m_boat m_coins vw vm vn m_rest m_ends vc m_chan m_spl fs rn m_rf m_rr m_ik m_km m_kb m_kc m_kf m_kr MG nq cq (by first | assumption | omega) (by first | assumption | omega)) (cwV 2 hts gX12_rests_X12_mayRest rfl rfl rfl (by decide +kernel) ⟨Nat.le_of_ble_eq_true rfl, Nat.le_of_ble_eq_true rfl⟩) hG (hP.sub (ws' := [(m0, .inr (11, [.ref m_read, zi rl, zi rp, .ref m_gut, zi gl, zi gp, zi gx, zi gy, .ref m_text, zi tn, zi fn, .ref m_boat, .ref m_coins, zi vw, zi vm, zi vn, .ref m_rest, .ref m_ends, zl vc, .ref m_chan, .ref m_spl, zi fs, zi rn, .ref m_rf, .ref m_rr, .ref m_ik, .ref m_km, .ref m_kb, .ref m_kc, .ref m_kf, .ref m_kr])), (m_gut, .inl (y 0, 36, .inl (cI MG)))]) [0, 1] rfl) 0 rfl rfl rfl hl.1 rfl (Nat.le_of_ble_eq_true rfl) dX12_rests_3 ⟨Nat.le_of_ble_eq_true rfl, Nat.le_of_ble_eq_true rfl⟩ ?_
  refine lv_istore_n (lv' := [(3, zi (if 0 < sgI (opV gl gp MG) 3 then 0 else -3)), (0, .ref m0), (1, zi nq), (2, zi cq)]) hx hb dX12_rests_6 rfl hl (by decide) rfl (fun ls hl => ?_)
  refine lv_iload_n hx hb dX12_rests_7 rfl (lv_at hl 0 rfl) ?_
  refine z_if_ge (tgt := 15) hx hb (by split <;> omega) dX12_rests_8 (by decide) (fun c_8 => ?_) (fun c_8 => ?_)
  ·
    have hs : 0 < sgI (opV gl gp MG) 3 := Classical.byContradiction (fun q => by rw [if_neg q] at c_8; omega)
    refine lv_aload_n hx hb dX12_rests_15 rfl (lv_at hl 1 rfl) ?_
    refine lv_iload_n hx hb dX12_rests_16 rfl (lv_at hl 2 rfl) ?_
    refine lv_iload_n hx hb dX12_rests_17 rfl (lv_at hl 3 rfl) ?_
    refine z_wV (As := [zi nq, zi cq]) (rest := []) (wc := [(m0, .inr (11, [.ref m_read, zi rl, zi rp, .ref m_gut, zi gl, zi gp, zi gx, zi gy, .ref m_text, zi tn, zi fn, .ref m_boat, .ref m_coins, zi vw, zi vm, zi vn, .ref m_rest, .ref m_ends, zl vc, .ref m_chan, .ref m_spl, zi fs, zi rn, .ref m_rf, .ref m_rr, .ref m_ik, .ref m_km, .ref m_kb, .ref m_kc, .ref m_kf, .ref m_kr])), (m_gut, .inl (y 0, 36, .inl (cI MG))), (m_spl, .inl (y 0, 3, .inl (cI MS)))]) (wrest := []) hC (c_X12_laySplits l D y m0 m_read rl rp m_gut gl gp gx gy m_text tn fn m_boat m_coins vw vm vn m_rest m_ends vc m_chan m_spl fs rn m_rf m_rr m_ik m_km m_kb m_kc m_kf m_kr MG MS nq cq (by first | assumption | omega) (by first | assumption | omega) _) (cwV 2 hts gX12_rests_X12_laySplits rfl rfl rfl (by decide +kernel) ⟨Nat.le_of_ble_eq_true rfl, Nat.le_of_ble_eq_true rfl⟩) hG hP hD hS hA [0, 1, 2] [] rfl rfl (by decide) (by decide) (by decide) va_P_nil ro_nil 0 rfl rfl rfl hl.1 rfl (Nat.le_of_ble_eq_true rfl) dX12_rests_18 ⟨Nat.le_of_ble_eq_true rfl, Nat.le_of_ble_eq_true rfl⟩ (fun u9 H locs hw_3 hP hD hS => ?_)
    obtain ⟨fs2, MS2⟩ := u9
    have hw_3 : fs2 = (spT (rsP (opV gl gp MG) (laneS gl gp MG) nq cq) nq).2 := hw_3
    have hP : va_P D vwCl [(m0, .inr (11, [.ref m_read, zi rl, zi rp, .ref m_gut, zi gl, zi gp, zi gx, zi gy, .ref m_text, zi tn, zi fn, .ref m_boat, .ref m_coins, zi vw, zi vm, zi vn, .ref m_rest, .ref m_ends, zl vc, .ref m_chan, .ref m_spl, zi fs2, zi rn, .ref m_rf, .ref m_rr, .ref m_ik, .ref m_km, .ref m_kb, .ref m_kc, .ref m_kf, .ref m_kr])), (m_gut, .inl (y 0, 36, .inl (cI MG))), (m_spl, .inl (y 0, 3, .inl (cI MS2)))] H := hP
    have hD : va_D A [(m0, .inr (11, [.ref m_read, zi rl, zi rp, .ref m_gut, zi gl, zi gp, zi gx, zi gy, .ref m_text, zi tn, zi fn, .ref m_boat, .ref m_coins, zi vw, zi vm, zi vn, .ref m_rest, .ref m_ends, zl vc, .ref m_chan, .ref m_spl, zi fs2, zi rn, .ref m_rf, .ref m_rr, .ref m_ik, .ref m_km, .ref m_kb, .ref m_kc, .ref m_kf, .ref m_kr])), (m_gut, .inl (y 0, 36, .inl (cI MG))), (m_spl, .inl (y 0, 3, .inl (cI MS2)))] := hD
    have hf := hw_3
    exact z_iretW hx hb hr hlocks (fs2, MS2) (by first | exact congrArg (fun z => some (zi z)) ((if_neg hs).trans (if_neg hs).symm) | exact congrArg (fun z => some (zi z)) (if_pos hs) | exact congrArg (fun z => some (zi z)) ((if_pos hs).trans hf.symm)) (trivial) (hP.sub [0, 1, 2] rfl) (hD.sub [0, 1, 2] (by decide) rfl) hS dX12_rests_21
  ·
    have hs : ¬ 0 < sgI (opV gl gp MG) 3 := (fun q => by rw [if_pos q] at c_8; omega)
    refine lv_iload_n hx hb dX12_rests_11 rfl (lv_at hl 0 rfl) ?_
    refine lv_goto (tgt := 21) hx hb dX12_rests_12 (by decide) ?_
    exact z_iretW hx hb hr hlocks (fs, MS) (by first | exact congrArg (fun z => some (zi z)) ((if_neg hs).trans (if_neg hs).symm) | exact congrArg (fun z => some (zi z)) (if_pos hs) | exact congrArg (fun z => some (zi z)) ((if_pos hs).trans hf.symm)) (trivial) (hP.sub [0, 1, 2] rfl) (hD.sub [0, 1, 2] (by decide) rfl) hS dX12_rests_21
set_option maxHeartbeats 8000000 in
set_option maxRecDepth 100000 in
theorem c_X12_split_out (l : Launch) (D : va_G) (y : Nat → ClassId) (m0 : Nat) (m_read : Nat) (rl : Int) (rp : Int) (m_gut : Nat) (gl : Int) (gp : Int) (gx : Int) (gy : Int) (m_text : Nat) (tn : Int) (fn : Int) (m_boat : Nat) (m_coins : Nat) (vw : Int) (vm : Int) (vn : Int) (m_rest : Nat) (m_ends : Nat) (vc : Int) (m_chan : Nat) (m_spl : Nat) (fs : Int) (rn : Int) (m_rf : Nat) (m_rr : Nat) (m_ik : Nat) (m_km : Nat) (m_kb : Nat) (m_kc : Nat) (m_kf : Nat) (m_kr : Nat) (nq : Int) (cq : Int) (hr9 : rI nq ∧ rI cq) (hq : ¬ ((1 ≤ nq ∧ nq ≤ 9) ∧ 0 ≤ cq ∧ cq ≤ 9)) : Met l yX12_split wsX12_split ({ frames := 2, cells := 0, slots := 0, locals := 49 } : Room) (pPc D y [(m0, .inr (11, [.ref m_read, zi rl, zi rp, .ref m_gut, zi gl, zi gp, zi gx, zi gy, .ref m_text, zi tn, zi fn, .ref m_boat, .ref m_coins, zi vw, zi vm, zi vn, .ref m_rest, .ref m_ends, zl vc, .ref m_chan, .ref m_spl, zi fs, zi rn, .ref m_rf, .ref m_rr, .ref m_ik, .ref m_km, .ref m_kb, .ref m_kc, .ref m_kf, .ref m_kr]))] [.ref m0, zi nq, zi cq]) (qV (zi (-2))) 0 0 (fun _ => False) := by
  refine P_of (own := RX12) (cc := cX12_split) (maxL := 4) (ret := some .int) (by decide) rfl rfl (Nat.le_of_ble_eq_true rfl) (fun p e s m below meth c ls hx hb hr hC hlocks hPr hG hl => ?_)
  have hC0 := hC
  obtain ⟨-, -, hml, hown, hts⟩ := hC0
  have hK := hG.1
  have hl : lv_has ls 4 [(0, .ref m0), (1, zi nq), (2, zi cq)] := hl
  refine lv_aload_n hx hb dX12_split_0 rfl (lv_at hl 0 rfl) ?_
  refine lv_iload_n hx hb dX12_split_1 rfl (lv_at hl 1 rfl) ?_
  refine lv_iload_n hx hb dX12_split_2 rfl (lv_at hl 2 rfl) ?_
  refine z_pV (As := [zi nq, zi cq]) (rest := []) hC (c_X12_mayRest_out l D y m0 m_read rl rp m_gut gl gp gx gy m_text tn fn m_boat m_coins vw vm vn m_rest m_ends vc m_chan m_spl fs rn m_rf m_rr m_ik m_km m_kb m_kc m_kf m_kr nq cq (by first | assumption | omega) (by first | assumption | omega)) (cwV 2 hts gX12_split_X12_mayRest rfl rfl rfl (by decide +kernel) ⟨Nat.le_of_ble_eq_true rfl, Nat.le_of_ble_eq_true rfl⟩) hG (hPr.sub (ws' := [(m0, .inr (11, [.ref m_read, zi rl, zi rp, .ref m_gut, zi gl, zi gp, zi gx, zi gy, .ref m_text, zi tn, zi fn, .ref m_boat, .ref m_coins, zi vw, zi vm, zi vn, .ref m_rest, .ref m_ends, zl vc, .ref m_chan, .ref m_spl, zi fs, zi rn, .ref m_rf, .ref m_rr, .ref m_ik, .ref m_km, .ref m_kb, .ref m_kc, .ref m_kf, .ref m_kr]))]) [0] rfl) 0 rfl rfl rfl hl.1 rfl (Nat.le_of_ble_eq_true rfl) dX12_split_3 ⟨Nat.le_of_ble_eq_true rfl, Nat.le_of_ble_eq_true rfl⟩ ?_
  refine lv_istore_n (lv' := [(3, zi (-2)), (0, .ref m0), (1, zi nq), (2, zi cq)]) hx hb dX12_split_6 rfl hl (by decide) rfl (fun ls hl => ?_)
  refine lv_iload_n hx hb dX12_split_7 rfl (lv_at hl 0 rfl) ?_
  refine z_if_ge (tgt := 13) hx hb (by omega) dX12_split_8 (by decide) (fun c_8 => ?_) (fun c_8 => ?_)
  · exfalso; omega
  ·
    refine lv_iload_n hx hb dX12_split_11 rfl (lv_at hl 0 rfl) ?_
    exact z_iret0 hx hb hr hlocks (rfl) dX12_split_12
set_option maxHeartbeats 8000000 in
set_option maxRecDepth 100000 in
theorem c_X12_split (l : Launch) (D : va_G) (y : Nat → ClassId) (m0 : Nat) (m_read : Nat) (rl : Int) (rp : Int) (m_gut : Nat) (gl : Int) (gp : Int) (gx : Int) (gy : Int) (m_text : Nat) (tn : Int) (fn : Int) (m_boat : Nat) (m_coins : Nat) (vw : Int) (vm : Int) (vn : Int) (m_rest : Nat) (m_ends : Nat) (vc : Int) (m_chan : Nat) (m_spl : Nat) (fs : Int) (rn : Int) (m_rf : Nat) (m_rr : Nat) (m_ik : Nat) (m_km : Nat) (m_kb : Nat) (m_kc : Nat) (m_kf : Nat) (m_kr : Nat) (MG : Int → Int) (MS : Int → Int) (nq : Int) (cq : Int) (hg : gOK gl gp gx gy MG) (hnc : (1 ≤ nq ∧ nq ≤ 9) ∧ 0 ≤ cq ∧ cq ≤ 9) (sz : Nat) : Met l yX12_split wsX12_split ({ frames := 4, cells := 0, slots := 0, locals := 95 } : Room) (wPc D y [] [(m0, .inr (11, [.ref m_read, zi rl, zi rp, .ref m_gut, zi gl, zi gp, zi gx, zi gy, .ref m_text, zi tn, zi fn, .ref m_boat, .ref m_coins, zi vw, zi vm, zi vn, .ref m_rest, .ref m_ends, zl vc, .ref m_chan, .ref m_spl, zi fs, zi rn, .ref m_rf, .ref m_rr, .ref m_ik, .ref m_km, .ref m_kb, .ref m_kc, .ref m_kf, .ref m_kr])), (m_gut, .inl (y 0, 36, .inl (cI MG))), (m_spl, .inl (y 0, 3, .inl (cI MS)))] sz [.ref m0, zi nq, zi cq]) (wQ D (fun (x9 : Int × (Int → Int)) => match x9 with | (fs2, MS2) => some (zi (if 0 < sgI (opV gl gp MG) 3 then (spT (rsP (opV gl gp MG) (laneS gl gp MG) nq cq) nq).2 else -3))) (fun (x9 : Int × (Int → Int)) => match x9 with | (fs2, MS2) => True) (fun (x9 : Int × (Int → Int)) => match x9 with | (fs2, MS2) => [(m0, .inr (11, [.ref m_read, zi rl, zi rp, .ref m_gut, zi gl, zi gp, zi gx, zi gy, .ref m_text, zi tn, zi fn, .ref m_boat, .ref m_coins, zi vw, zi vm, zi vn, .ref m_rest, .ref m_ends, zl vc, .ref m_chan, .ref m_spl, zi fs2, zi rn, .ref m_rf, .ref m_rr, .ref m_ik, .ref m_km, .ref m_kb, .ref m_kc, .ref m_kf, .ref m_kr])), (m_gut, .inl (y 0, 36, .inl (cI MG))), (m_spl, .inl (y 0, 3, .inl (cI MS2)))]) (va_A [(m0, .inr (11, [.ref m_read, zi rl, zi rp, .ref m_gut, zi gl, zi gp, zi gx, zi gy, .ref m_text, zi tn, zi fn, .ref m_boat, .ref m_coins, zi vw, zi vm, zi vn, .ref m_rest, .ref m_ends, zl vc, .ref m_chan, .ref m_spl, zi fs, zi rn, .ref m_rf, .ref m_rr, .ref m_ik, .ref m_km, .ref m_kb, .ref m_kc, .ref m_kf, .ref m_kr])), (m_gut, .inl (y 0, 36, .inl (cI MG))), (m_spl, .inl (y 0, 3, .inl (cI MS)))] sz)) 0 0 (va_A [(m0, .inr (11, [.ref m_read, zi rl, zi rp, .ref m_gut, zi gl, zi gp, zi gx, zi gy, .ref m_text, zi tn, zi fn, .ref m_boat, .ref m_coins, zi vw, zi vm, zi vn, .ref m_rest, .ref m_ends, zl vc, .ref m_chan, .ref m_spl, zi fs, zi rn, .ref m_rf, .ref m_rr, .ref m_ik, .ref m_km, .ref m_kb, .ref m_kc, .ref m_kf, .ref m_kr])), (m_gut, .inl (y 0, 36, .inl (cI MG))), (m_spl, .inl (y 0, 3, .inl (cI MS)))] sz) := by
  refine W_of (own := RX12) (cc := cX12_split) (maxL := 4) (ret := some .int) (by decide) rfl rfl (Nat.le_of_ble_eq_true rfl) (fun p e s m below meth c ls A hx hb hr hC hlocks hin0 hR0 hN hP hD hA hG hl => ?_)
  have hC0 := hC
  obtain ⟨-, -, hml, hown, hts⟩ := hC0
  have hK := hG.1
  have hS : va_S A s.heap s.heap [] := va_S.rf
  have hPr := hR0
  have hinX12 : ∀ w ∈ wsX120, w ∈ wsX12_split := fun _ h => List.mem_cons_of_mem _ (List.mem_append_right _ h)
  have k1 := hts (.fieldLink RX12 229 "BoatsOfPaperModel" "firstSplit" "I") (List.mem_of_getElem? (i := 1) rfl)
  have hl : lv_has ls 4 [(0, .ref m0), (1, zi nq), (2, zi cq)] := hl
  refine lv_aload_n hx hb dX12_split_0 rfl (lv_at hl 0 rfl) ?_
  refine lv_iload_n hx hb dX12_split_1 rfl (lv_at hl 1 rfl) ?_
  refine lv_iload_n hx hb dX12_split_2 rfl (lv_at hl 2 rfl) ?_
  refine z_pV (As := [zi nq, zi cq]) (rest := []) hC (c_X12_mayRest l D y m0 m_read rl rp m_gut gl gp gx gy m_text tn fn m_boat m_coins vw vm vn m_rest m_ends vc m_chan m_spl fs rn m_rf m_rr m_ik m_km m_kb m_kc m_kf m_kr MG nq cq (by first | assumption | omega) (by first | assumption | omega)) (cwV 2 hts gX12_split_X12_mayRest rfl rfl rfl (by decide +kernel) ⟨Nat.le_of_ble_eq_true rfl, Nat.le_of_ble_eq_true rfl⟩) hG (hP.sub (ws' := [(m0, .inr (11, [.ref m_read, zi rl, zi rp, .ref m_gut, zi gl, zi gp, zi gx, zi gy, .ref m_text, zi tn, zi fn, .ref m_boat, .ref m_coins, zi vw, zi vm, zi vn, .ref m_rest, .ref m_ends, zl vc, .ref m_chan, .ref m_spl, zi fs, zi rn, .ref m_rf, .ref m_rr, .ref m_ik, .ref m_km, .ref m_kb, .ref m_kc, .ref m_kf, .ref m_kr])), (m_gut, .inl (y 0, 36, .inl (cI MG)))]) [0, 1] rfl) 0 rfl rfl rfl hl.1 rfl (Nat.le_of_ble_eq_true rfl) dX12_split_3 ⟨Nat.le_of_ble_eq_true rfl, Nat.le_of_ble_eq_true rfl⟩ ?_
  refine lv_istore_n (lv' := [(3, zi (if 0 < sgI (opV gl gp MG) 3 then 0 else -3)), (0, .ref m0), (1, zi nq), (2, zi cq)]) hx hb dX12_split_6 rfl hl (by decide) rfl (fun ls hl => ?_)
  refine lv_iload_n hx hb dX12_split_7 rfl (lv_at hl 0 rfl) ?_
  refine z_if_ge (tgt := 13) hx hb (by split <;> omega) dX12_split_8 (by decide) (fun c_8 => ?_) (fun c_8 => ?_)
  ·
    have hs : 0 < sgI (opV gl gp MG) 3 := Classical.byContradiction (fun q => by rw [if_neg q] at c_8; omega)
    refine lv_aload_n hx hb dX12_split_13 rfl (lv_at hl 1 rfl) ?_
    refine lv_iload_n hx hb dX12_split_14 rfl (lv_at hl 2 rfl) ?_
    refine lv_iload_n hx hb dX12_split_15 rfl (lv_at hl 3 rfl) ?_
    refine z_wV (As := [zi nq, zi cq]) (rest := []) (wc := [(m0, .inr (11, [.ref m_read, zi rl, zi rp, .ref m_gut, zi gl, zi gp, zi gx, zi gy, .ref m_text, zi tn, zi fn, .ref m_boat, .ref m_coins, zi vw, zi vm, zi vn, .ref m_rest, .ref m_ends, zl vc, .ref m_chan, .ref m_spl, zi fs, zi rn, .ref m_rf, .ref m_rr, .ref m_ik, .ref m_km, .ref m_kb, .ref m_kc, .ref m_kf, .ref m_kr])), (m_gut, .inl (y 0, 36, .inl (cI MG))), (m_spl, .inl (y 0, 3, .inl (cI MS)))]) (wrest := []) hC (c_X12_laySplits l D y m0 m_read rl rp m_gut gl gp gx gy m_text tn fn m_boat m_coins vw vm vn m_rest m_ends vc m_chan m_spl fs rn m_rf m_rr m_ik m_km m_kb m_kc m_kf m_kr MG MS nq cq (by first | assumption | omega) (by first | assumption | omega) _) (cwV 2 hts gX12_split_X12_laySplits rfl rfl rfl (by decide +kernel) ⟨Nat.le_of_ble_eq_true rfl, Nat.le_of_ble_eq_true rfl⟩) hG hP hD hS hA [0, 1, 2] [] rfl rfl (by decide) (by decide) (by decide) va_P_nil ro_nil 0 rfl rfl rfl hl.1 rfl (Nat.le_of_ble_eq_true rfl) dX12_split_16 ⟨Nat.le_of_ble_eq_true rfl, Nat.le_of_ble_eq_true rfl⟩ (fun u9 H locs hw_3 hP hD hS => ?_)
    obtain ⟨fs2, MS2⟩ := u9
    have hw_3 : fs2 = (spT (rsP (opV gl gp MG) (laneS gl gp MG) nq cq) nq).2 := hw_3
    have hP : va_P D vwCl [(m0, .inr (11, [.ref m_read, zi rl, zi rp, .ref m_gut, zi gl, zi gp, zi gx, zi gy, .ref m_text, zi tn, zi fn, .ref m_boat, .ref m_coins, zi vw, zi vm, zi vn, .ref m_rest, .ref m_ends, zl vc, .ref m_chan, .ref m_spl, zi fs2, zi rn, .ref m_rf, .ref m_rr, .ref m_ik, .ref m_km, .ref m_kb, .ref m_kc, .ref m_kf, .ref m_kr])), (m_gut, .inl (y 0, 36, .inl (cI MG))), (m_spl, .inl (y 0, 3, .inl (cI MS2)))] H := hP
    have hD : va_D A [(m0, .inr (11, [.ref m_read, zi rl, zi rp, .ref m_gut, zi gl, zi gp, zi gx, zi gy, .ref m_text, zi tn, zi fn, .ref m_boat, .ref m_coins, zi vw, zi vm, zi vn, .ref m_rest, .ref m_ends, zl vc, .ref m_chan, .ref m_spl, zi fs2, zi rn, .ref m_rf, .ref m_rr, .ref m_ik, .ref m_km, .ref m_kb, .ref m_kc, .ref m_kf, .ref m_kr])), (m_gut, .inl (y 0, 36, .inl (cI MG))), (m_spl, .inl (y 0, 3, .inl (cI MS2)))] := hD
    have hf := hw_3
    refine lv_pop hx hb dX12_split_19 rfl ?_
    refine lv_aload_n hx hb dX12_split_20 rfl (lv_at hl 1 rfl) ?_
    refine va_get hx hb hts hinX12 hown hK hP 0 rfl rfl 21 (by decide) k1 (fun _ h => h) rfl dX12_split_21 ?_
    exact z_iretW hx hb hr hlocks (fs2, MS2) (by first | exact congrArg (fun z => some (zi z)) ((if_neg hs).trans (if_neg hs).symm) | exact congrArg (fun z => some (zi z)) (if_pos hs) | exact congrArg (fun z => some (zi z)) ((if_pos hs).trans hf.symm)) (trivial) (hP.sub [0, 1, 2] rfl) (hD.sub [0, 1, 2] (by decide) rfl) hS dX12_split_24
  ·
    have hs : ¬ 0 < sgI (opV gl gp MG) 3 := (fun q => by rw [if_pos q] at c_8; omega)
    refine lv_iload_n hx hb dX12_split_11 rfl (lv_at hl 0 rfl) ?_
    exact z_iretW hx hb hr hlocks (fs, MS) (by first | exact congrArg (fun z => some (zi z)) ((if_neg hs).trans (if_neg hs).symm) | exact congrArg (fun z => some (zi z)) (if_pos hs) | exact congrArg (fun z => some (zi z)) ((if_pos hs).trans hf.symm)) (trivial) (hP.sub [0, 1, 2] rfl) (hD.sub [0, 1, 2] (by decide) rfl) hS dX12_split_12
