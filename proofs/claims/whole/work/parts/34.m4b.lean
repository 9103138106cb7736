set_option maxHeartbeats 8000000 in
set_option maxRecDepth 100000 in
theorem c_X12_isRest (l : Launch) (D : va_G) (y : Nat → ClassId) (m0 : Nat) (m_read : Nat) (rl : Int) (rp : Int) (m_gut : Nat) (gl : Int) (gp : Int) (gx : Int) (gy : Int) (m_text : Nat) (tn : Int) (fn : Int) (m_boat : Nat) (m_coins : Nat) (vw : Int) (vm : Int) (vn : Int) (m_rest : Nat) (m_ends : Nat) (vc : Int) (m_chan : Nat) (m_spl : Nat) (fs : Int) (rn : Int) (m_rf : Nat) (m_rr : Nat) (m_ik : Nat) (m_km : Nat) (m_kb : Nat) (m_kc : Nat) (m_kf : Nat) (m_kr : Nat) (MG : Int → Int) (MS : Int → Int) (cq : Int) (hg : gOK gl gp gx gy MG) (hcq : 0 ≤ cq ∧ cq ≤ 9) (hS : ∀ j : Int, 0 ≤ j → j < 3 → 0 ≤ MS j ∧ MS j ≤ 9) (hz : ∀ j : Int, gl ≤ j → j < 3 → MS j = 0) : Met l yX12_isRest wsX12_isRest ({ frames := 2, cells := 0, slots := 0, locals := 43 } : Room) (pPc D y [(m0, .inr (11, [.ref m_read, zi rl, zi rp, .ref m_gut, zi gl, zi gp, zi gx, zi gy, .ref m_text, zi tn, zi fn, .ref m_boat, .ref m_coins, zi vw, zi vm, zi vn, .ref m_rest, .ref m_ends, zl vc, .ref m_chan, .ref m_spl, zi fs, zi rn, .ref m_rf, .ref m_rr, .ref m_ik, .ref m_km, .ref m_kb, .ref m_kc, .ref m_kf, .ref m_kr])), (m_gut, .inl (y 0, 36, .inl (cI MG))), (m_spl, .inl (y 0, 3, .inl (cI MS)))] [.ref m0, zi cq]) (qV (zi (bI (arP (opV gl gp MG) (laneS gl gp MG) MS cq)))) 0 0 (fun _ => False) := by
  refine P_of (own := RX12) (cc := cX12_isRest) (maxL := 7) (ret := some .boolean) (by decide) rfl rfl (Nat.le_of_ble_eq_true rfl) (fun p e s m below meth c ls hx hb hr hC hlocks hPr hG hl => ?_)
  have hC0 := hC
  obtain ⟨-, -, hml, hown, hts⟩ := hC0
  have hK := hG.1
  have hinX12 : ∀ w ∈ wsX120, w ∈ wsX12_isRest := fun _ h => List.mem_cons_of_mem _ (List.mem_append_right _ h)
  have k1 := hts (.fieldLink RX12 63 "BoatsOfPaperModel" "lanes" "I") (List.mem_of_getElem? (i := 1) rfl)
  have k2 := hts (.constant RX12 150 (100000)) (List.mem_of_getElem? (i := 2) rfl)
  have k3 := hts (.fieldLink RX12 35 "BoatsOfPaperModel" "split" "[I") (List.mem_of_getElem? (i := 3) rfl)
  have hl : lv_has ls 7 [(0, .ref m0), (1, zi cq)] := hl
  obtain ⟨u1, u2, u3, u4, uk⟩ := id hg
  refine z_iconst hx hb dX12_isRest_0 ?_
  refine lv_istore_n (lv' := [(2, zi 1), (0, .ref m0), (1, zi cq)]) hx hb dX12_isRest_1 rfl hl (by decide) rfl (fun ls hl => ?_)
  refine z_iconst hx hb dX12_isRest_2 ?_
  refine lv_istore_n (lv' := [(3, zi 0), (2, zi 1), (0, .ref m0), (1, zi cq)]) hx hb dX12_isRest_3 rfl hl (by decide) rfl (fun ls hl => ?_)
  refine z_loop (σ := Int × Int) (fun x9 H lc ls => match x9 with | (v, k) => ((0 ≤ k ∧ k ≤ gl) ∧ (v = 0 ∨ v = 1) ∧ (v = 1 ↔ ∀ a : Int, 0 ≤ a → a < k → irC gl (opV gl gp MG) (laneS gl gp MG) MS cq a)) ∧ lv_has ls 7 [(3, zi k), (2, zi v), (0, .ref m0), (1, zi cq)] ∧ H = s.heap ∧ lc = []) (fun x9  => match x9 with | (v, k) => ((gl - k).toNat)) ?_ (1, 0) ⟨⟨by omega, by omega, ⟨fun _ a _ _ => by omega, fun _ => rfl⟩⟩, lv_sub hl [0, 1, 2, 3] rfl, rfl, rfl⟩
  rintro ⟨v, k⟩ H lc ls ⟨hi4, hl, rfl, rfl⟩ ih4
  obtain ⟨j1, j2, j3⟩ := hi4
  refine lv_iload_n hx hb dX12_isRest_4 rfl (lv_at hl 0 rfl) ?_
  refine lv_aload_n hx hb dX12_isRest_5 rfl (lv_at hl 2 rfl) ?_
  refine va_get hx hb hts hinX12 hown hK hPr 0 rfl rfl 4 (by decide) k1 (fun _ h => h) rfl dX12_isRest_6 ?_
  refine z_icmp_ge (tgt := 160) hx hb (by omega) (by omega) dX12_isRest_9 (by decide) (fun c_9 => ?_) (fun c_9 => ?_)
  ·
    refine lv_iload_n hx hb dX12_isRest_160 rfl (lv_at hl 1 rfl) ?_
    exact z_zret0 hx hb hr hlocks (by omega) ((bI_if j2 (j3.trans (by rw [show k = gl by omega]; exact ir_ar u1 (fun j q => op_o (by omega)) (fun j a b => (hS j a b).1) hz)))) dX12_isRest_161
  ·
    have nk1 := laneS_bd hg k (k := gp) (by omega) (by omega)
    have nk2 : sgI (fun p => secV (kAt gl gp MG k p)) gp = laneS gl gp MG k := rfl
    have nk3 := op_i (gl := gl) (gp := gp) (GK := MG) (la := k) (by omega) (by omega) (by omega)
    have nk4 := wallN_bd (gl := gl) (GK := MG) (la := k) (gp := gp) (by omega)
    have nk5 : mtV gl gp MG k = laneS gl gp MG k + 100000 * wallN gl gp MG k := rfl
    have s1 := hS k (by omega) (by omega)
    refine lv_aload_n hx hb dX12_isRest_12 rfl (lv_at hl 2 rfl) ?_
    refine lv_iload_n hx hb dX12_isRest_13 rfl (lv_at hl 0 rfl) ?_
    refine z_pV (As := [zi k]) (rest := []) hC (c_X12_laneTime l D y m0 m_read rl rp m_gut gl gp gx gy m_text tn fn m_boat m_coins vw vm vn m_rest m_ends vc m_chan m_spl fs rn m_rf m_rr m_ik m_km m_kb m_kc m_kf m_kr MG k (by first | assumption | omega) (by first | assumption | omega)) (cwV 1 hts gX12_isRest_X12_laneTime rfl rfl rfl (by decide +kernel) ⟨Nat.le_of_ble_eq_true rfl, Nat.le_of_ble_eq_true rfl⟩) hG (hPr.sub (ws' := [(m0, .inr (11, [.ref m_read, zi rl, zi rp, .ref m_gut, zi gl, zi gp, zi gx, zi gy, .ref m_text, zi tn, zi fn, .ref m_boat, .ref m_coins, zi vw, zi vm, zi vn, .ref m_rest, .ref m_ends, zl vc, .ref m_chan, .ref m_spl, zi fs, zi rn, .ref m_rf, .ref m_rr, .ref m_ik, .ref m_km, .ref m_kb, .ref m_kc, .ref m_kf, .ref m_kr])), (m_gut, .inl (y 0, 36, .inl (cI MG)))]) [0, 1] rfl) 0 rfl rfl rfl hl.1 rfl (Nat.le_of_ble_eq_true rfl) dX12_isRest_14 ⟨Nat.le_of_ble_eq_true rfl, Nat.le_of_ble_eq_true rfl⟩ ?_
    refine lv_ldc (v := iI 100000) hx hb hown k2 dX12_isRest_17 ?_
    refine z_icmp_ge (tgt := 26) hx hb (by omega) (by omega) dX12_isRest_19 (by decide) (fun c_19 => ?_) (fun c_19 => ?_)
    ·
      refine z_iconst hx hb dX12_isRest_26 ?_
      refine lv_istore (lv' := [(4, zi 0), (3, zi k), (2, zi v), (0, .ref m0), (1, zi cq)]) hx hb dX12_isRest_27 hl (by decide) rfl (fun ls hl => ?_)
      refine z_cut (σ := Int) 52 (fun v2 H lc ls st9 => ((v2 = 0 ∨ v2 = 1) ∧ (v2 = 1 ↔ ((∀ a : Int, 0 ≤ a → a < k → irC gl (opV gl gp MG) (laneS gl gp MG) MS cq a) ∧ (opV gl gp MG k ≠ 0 ∨ MS k = 0)))) ∧ lv_has ls 7 [(4, zi 0), (3, zi k), (2, zi v), (0, .ref m0), (1, zi cq)] ∧ st9 = [zi v2] ∧ H = s.heap ∧ lc = []) (fun hJ_1 => ?_) ?_
      ·
        refine lv_iload_n hx hb dX12_isRest_29 rfl (lv_at hl 2 rfl) ?_
        refine z_if_eq (tgt := 51) hx hb (by omega) dX12_isRest_30 (by decide) (fun c_30 => ?_) (fun c_30 => ?_)
        ·
          refine z_iconst hx hb dX12_isRest_51 ?_
          exact hJ_1 0 _ _ _ _ ⟨⟨by omega, by first | exact ⟨fun _ => ⟨j3.mp (by omega), by omega⟩, fun _ => rfl⟩ | exact ⟨fun q => absurd q (by decide), fun q => by have := j3.mpr q.1; have := q.2; omega⟩⟩, lv_sub hl [0, 1, 2, 3, 4] rfl, rfl, rfl, rfl⟩
        ·
          refine lv_iload hx hb dX12_isRest_33 (lv_at hl 0 rfl) ?_
          refine z_if_ne (tgt := 47) hx hb (by omega) dX12_isRest_35 (by decide) (fun c_35 => ?_) (fun c_35 => ?_)
          · exfalso; omega
          ·
            refine lv_aload_n hx hb dX12_isRest_38 rfl (lv_at hl 3 rfl) ?_
            refine va_get hx hb hts hinX12 hown hK hPr 0 rfl rfl 20 (by decide) k3 (fun _ h => h) rfl dX12_isRest_39 ?_
            refine lv_iload_n hx hb dX12_isRest_42 rfl (lv_at hl 1 rfl) ?_
            refine z_iald hx hb hK hPr 2 0 rfl rfl (by omega) (by decide) dX12_isRest_43 ?_
            refine z_if_ne (tgt := 51) hx hb (by omega) dX12_isRest_44 (by decide) (fun c_44 => ?_) (fun c_44 => ?_)
            ·
              refine z_iconst hx hb dX12_isRest_51 ?_
              exact hJ_1 0 _ _ _ _ ⟨⟨by omega, by first | exact ⟨fun _ => ⟨j3.mp (by omega), by omega⟩, fun _ => rfl⟩ | exact ⟨fun q => absurd q (by decide), fun q => by have := j3.mpr q.1; have := q.2; omega⟩⟩, lv_sub hl [0, 1, 2, 3, 4] rfl, rfl, rfl, rfl⟩
            ·
              refine z_iconst hx hb dX12_isRest_47 ?_
              refine lv_goto (tgt := 52) hx hb dX12_isRest_48 (by decide) ?_
              exact hJ_1 1 _ _ _ _ ⟨⟨by omega, by first | exact ⟨fun _ => ⟨j3.mp (by omega), by omega⟩, fun _ => rfl⟩ | exact ⟨fun q => absurd q (by decide), fun q => by have := j3.mpr q.1; have := q.2; omega⟩⟩, lv_sub hl [0, 1, 2, 3, 4] rfl, rfl, rfl, rfl⟩
      ·
        rintro v2 H lc ls st9 ⟨hj_2, hl, rfl, rfl, rfl⟩
        have hv2 := hj_2
        refine lv_istore_n (lv' := [(2, zi v2), (4, zi 0), (3, zi k), (0, .ref m0), (1, zi cq)]) hx hb dX12_isRest_52 rfl hl (by decide) rfl (fun ls hl => ?_)
        refine z_iconst hx hb dX12_isRest_53 ?_
        refine lv_istore (lv' := [(5, zi 0), (2, zi v2), (4, zi 0), (3, zi k), (0, .ref m0), (1, zi cq)]) hx hb dX12_isRest_54 hl (by decide) rfl (fun ls hl => ?_)
        refine z_loop (σ := Int × Int) (fun x9 H lc ls => match x9 with | (v, j) => ((0 ≤ j ∧ j ≤ gl) ∧ (v = 0 ∨ v = 1) ∧ (v = 1 ↔ ((∀ a : Int, 0 ≤ a → a < k → irC gl (opV gl gp MG) (laneS gl gp MG) MS cq a) ∧ (opV gl gp MG k ≠ 0 ∨ MS k = 0) ∧ ∀ b : Int, 0 ≤ b → b < j → irD (opV gl gp MG) (laneS gl gp MG) MS cq k b))) ∧ lv_has ls 7 [(5, zi j), (2, zi v), (4, zi 0), (3, zi k), (0, .ref m0), (1, zi cq)] ∧ H = s.heap ∧ lc = []) (fun x9  => match x9 with | (v, j) => ((gl - j).toNat)) ?_ (v2, 0) ⟨⟨by omega, hv2.1, hv2.2.trans ⟨fun q => ⟨q.1, q.2, fun b _ _ => by omega⟩, fun q => ⟨q.1, q.2.1⟩⟩⟩, lv_sub hl [0, 1, 2, 3, 4, 5] rfl, rfl, rfl⟩
        rintro ⟨v, j⟩ H lc ls ⟨hi56, hl, rfl, rfl⟩ ih56
        obtain ⟨i1, i2, i3⟩ := hi56
        refine lv_iload hx hb dX12_isRest_56 (lv_at hl 0 rfl) ?_
        refine lv_aload_n hx hb dX12_isRest_58 rfl (lv_at hl 4 rfl) ?_
        refine va_get hx hb hts hinX12 hown hK hPr 0 rfl rfl 4 (by decide) k1 (fun _ h => h) rfl dX12_isRest_59 ?_
        refine z_icmp_ge (tgt := 154) hx hb (by omega) (by omega) dX12_isRest_62 (by decide) (fun c_62 => ?_) (fun c_62 => ?_)
        ·
          refine z_iinc (k := 3) (lv' := [(3, zi (k + 1)), (5, zi j), (2, zi v), (4, zi 0), (0, .ref m0), (1, zi cq)]) hx hb dX12_isRest_154 hl rfl (by decide) rfl (fun ls hl => ?_)
          refine lv_goto (tgt := 4) hx hb dX12_isRest_157 (by decide) ?_
          exact ih4 (v, k + 1) _ _ _ (by first | (dsimp only; omega) | omega) ⟨⟨by omega, i2, i3.trans ⟨fun q => ic_s q.1 ⟨q.2.1, fun b b0 b1 => q.2.2 b b0 (by omega)⟩, fun q => ⟨fun a a0 a1 => q a a0 (by omega), (q k j1.1 (by omega)).1, fun b b0 b1 => (q k j1.1 (by omega)).2 b b0 (by omega)⟩⟩⟩, lv_sub hl [0, 2, 4, 5] rfl, rfl, rfl⟩
        ·
          have nj1 := laneS_bd hg j (k := gp) (by omega) (by omega)
          have nj2 : sgI (fun p => secV (kAt gl gp MG j p)) gp = laneS gl gp MG j := rfl
          have nj3 := op_i (gl := gl) (gp := gp) (GK := MG) (la := j) (by omega) (by omega) (by omega)
          have nj4 := wallN_bd (gl := gl) (GK := MG) (la := j) (gp := gp) (by omega)
          have nj5 : mtV gl gp MG j = laneS gl gp MG j + 100000 * wallN gl gp MG j := rfl
          have s2 := hS j (by omega) (by omega)
          have m1 := c_bd (x := MS k - 1) hcq (by omega)
          have m2 := c_bd (x := MS j) hcq (by omega)
          refine lv_iload_n hx hb dX12_isRest_65 rfl (lv_at hl 3 rfl) ?_
          refine lv_iload hx hb dX12_isRest_66 (lv_at hl 0 rfl) ?_
          refine z_icmp_eq (tgt := 95) hx hb (by omega) (by omega) dX12_isRest_68 (by decide) (fun c_68 => ?_) (fun c_68 => ?_)
          ·
            refine z_iconst hx hb dX12_isRest_95 ?_
            refine lv_istore (lv' := [(6, zi 0), (5, zi j), (2, zi v), (4, zi 0), (3, zi k), (0, .ref m0), (1, zi cq)]) hx hb dX12_isRest_96 hl (by decide) rfl (fun ls hl => ?_)
            refine z_cut (σ := Int) 147 (fun v3 H lc ls st9 => ((v3 = 0 ∨ v3 = 1) ∧ (v3 = 1 ↔ ((∀ a : Int, 0 ≤ a → a < k → irC gl (opV gl gp MG) (laneS gl gp MG) MS cq a) ∧ (opV gl gp MG k ≠ 0 ∨ MS k = 0) ∧ ∀ b : Int, 0 ≤ b → b < j + 1 → irD (opV gl gp MG) (laneS gl gp MG) MS cq k b))) ∧ lv_has ls 7 [(6, zi 0), (5, zi j), (2, zi v), (4, zi 0), (3, zi k), (0, .ref m0), (1, zi cq)] ∧ st9 = [zi v3] ∧ H = s.heap ∧ lc = []) (fun hJ_3 => ?_) ?_
            ·
              refine lv_iload_n hx hb dX12_isRest_98 rfl (lv_at hl 2 rfl) ?_
              refine z_if_eq (tgt := 146) hx hb (by omega) dX12_isRest_99 (by decide) (fun c_99 => ?_) (fun c_99 => ?_)
              ·
                refine z_iconst hx hb dX12_isRest_146 ?_
                exact hJ_3 0 _ _ _ _ ⟨⟨by omega, by first | exact ⟨fun _ => ⟨(i3.mp (by omega)).1, (i3.mp (by omega)).2.1, id_s (i3.mp (by omega)).2.2 (fun a b c => by first | omega | (have oo := (i3.mp (by omega)).2.1; omega))⟩, fun _ => rfl⟩ | exact ⟨fun q => absurd q (by decide), fun q => by have := i3.mpr ⟨q.1, q.2.1, fun b b0 b1 => q.2.2 b b0 (by omega)⟩; omega⟩ | exact ⟨fun q => absurd q (by decide), fun q => (by have oo := (i3.mp (by omega)).2.1; have z := q.2.2 j i1.1 (by omega) (by omega) (by omega) (by omega); omega)⟩⟩, lv_sub hl [0, 1, 2, 3, 4, 5, 6] rfl, rfl, rfl, rfl⟩
              ·
                refine lv_iload hx hb dX12_isRest_102 (lv_at hl 0 rfl) ?_
                refine z_if_eq (tgt := 142) hx hb (by omega) dX12_isRest_104 (by decide) (fun c_104 => ?_) (fun c_104 => ?_)
                ·
                  refine z_iconst hx hb dX12_isRest_142 ?_
                  refine lv_goto (tgt := 147) hx hb dX12_isRest_143 (by decide) ?_
                  exact hJ_3 1 _ _ _ _ ⟨⟨by omega, by first | exact ⟨fun _ => ⟨(i3.mp (by omega)).1, (i3.mp (by omega)).2.1, id_s (i3.mp (by omega)).2.2 (fun a b c => by first | omega | (have oo := (i3.mp (by omega)).2.1; omega))⟩, fun _ => rfl⟩ | exact ⟨fun q => absurd q (by decide), fun q => by have := i3.mpr ⟨q.1, q.2.1, fun b b0 b1 => q.2.2 b b0 (by omega)⟩; omega⟩ | exact ⟨fun q => absurd q (by decide), fun q => (by have oo := (i3.mp (by omega)).2.1; have z := q.2.2 j i1.1 (by omega) (by omega) (by omega) (by omega); omega)⟩⟩, lv_sub hl [0, 1, 2, 3, 4, 5, 6] rfl, rfl, rfl, rfl⟩
                · exfalso; omega
            ·
              rintro v3 H lc ls st9 ⟨hj_4, hl, rfl, rfl, rfl⟩
              have hv3 := hj_4
              refine lv_istore_n (lv' := [(2, zi v3), (6, zi 0), (5, zi j), (4, zi 0), (3, zi k), (0, .ref m0), (1, zi cq)]) hx hb dX12_isRest_147 rfl hl (by decide) rfl (fun ls hl => ?_)
              refine z_iinc (k := 2) (lv' := [(5, zi (j + 1)), (2, zi v3), (6, zi 0), (4, zi 0), (3, zi k), (0, .ref m0), (1, zi cq)]) hx hb dX12_isRest_148 hl rfl (by decide) rfl (fun ls hl => ?_)
              refine lv_goto (tgt := 56) hx hb dX12_isRest_151 (by decide) ?_
              exact ih56 (v3, j + 1) _ _ _ (by first | (dsimp only; omega) | omega) ⟨⟨by omega, hv3.1, hv3.2⟩, lv_sub hl [0, 1, 3, 4, 5, 6] rfl, rfl, rfl⟩
          ·
            refine lv_aload_n hx hb dX12_isRest_71 rfl (lv_at hl 4 rfl) ?_
            refine va_get hx hb hts hinX12 hown hK hPr 0 rfl rfl 20 (by decide) k3 (fun _ h => h) rfl dX12_isRest_72 ?_
            refine lv_iload_n hx hb dX12_isRest_75 rfl (lv_at hl 3 rfl) ?_
            refine z_iald hx hb hK hPr 2 0 rfl rfl (by omega) (by decide) dX12_isRest_76 ?_
            refine z_if_le (tgt := 95) hx hb (by omega) dX12_isRest_77 (by decide) (fun c_77 => ?_) (fun c_77 => ?_)
            ·
              refine z_iconst hx hb dX12_isRest_95 ?_
              refine lv_istore (lv' := [(6, zi 0), (5, zi j), (2, zi v), (4, zi 0), (3, zi k), (0, .ref m0), (1, zi cq)]) hx hb dX12_isRest_96 hl (by decide) rfl (fun ls hl => ?_)
              refine z_cut (σ := Int) 147 (fun v3 H lc ls st9 => ((v3 = 0 ∨ v3 = 1) ∧ (v3 = 1 ↔ ((∀ a : Int, 0 ≤ a → a < k → irC gl (opV gl gp MG) (laneS gl gp MG) MS cq a) ∧ (opV gl gp MG k ≠ 0 ∨ MS k = 0) ∧ ∀ b : Int, 0 ≤ b → b < j + 1 → irD (opV gl gp MG) (laneS gl gp MG) MS cq k b))) ∧ lv_has ls 7 [(6, zi 0), (5, zi j), (2, zi v), (4, zi 0), (3, zi k), (0, .ref m0), (1, zi cq)] ∧ st9 = [zi v3] ∧ H = s.heap ∧ lc = []) (fun hJ_5 => ?_) ?_
              ·
                refine lv_iload_n hx hb dX12_isRest_98 rfl (lv_at hl 2 rfl) ?_
                refine z_if_eq (tgt := 146) hx hb (by omega) dX12_isRest_99 (by decide) (fun c_99 => ?_) (fun c_99 => ?_)
                ·
                  refine z_iconst hx hb dX12_isRest_146 ?_
                  exact hJ_5 0 _ _ _ _ ⟨⟨by omega, by first | exact ⟨fun _ => ⟨(i3.mp (by omega)).1, (i3.mp (by omega)).2.1, id_s (i3.mp (by omega)).2.2 (fun a b c => by first | omega | (have oo := (i3.mp (by omega)).2.1; omega))⟩, fun _ => rfl⟩ | exact ⟨fun q => absurd q (by decide), fun q => by have := i3.mpr ⟨q.1, q.2.1, fun b b0 b1 => q.2.2 b b0 (by omega)⟩; omega⟩ | exact ⟨fun q => absurd q (by decide), fun q => (by have oo := (i3.mp (by omega)).2.1; have z := q.2.2 j i1.1 (by omega) (by omega) (by omega) (by omega); omega)⟩⟩, lv_sub hl [0, 1, 2, 3, 4, 5, 6] rfl, rfl, rfl, rfl⟩
                ·
                  refine lv_iload hx hb dX12_isRest_102 (lv_at hl 0 rfl) ?_
                  refine z_if_eq (tgt := 142) hx hb (by omega) dX12_isRest_104 (by decide) (fun c_104 => ?_) (fun c_104 => ?_)
                  ·
                    refine z_iconst hx hb dX12_isRest_142 ?_
                    refine lv_goto (tgt := 147) hx hb dX12_isRest_143 (by decide) ?_
                    exact hJ_5 1 _ _ _ _ ⟨⟨by omega, by first | exact ⟨fun _ => ⟨(i3.mp (by omega)).1, (i3.mp (by omega)).2.1, id_s (i3.mp (by omega)).2.2 (fun a b c => by first | omega | (have oo := (i3.mp (by omega)).2.1; omega))⟩, fun _ => rfl⟩ | exact ⟨fun q => absurd q (by decide), fun q => by have := i3.mpr ⟨q.1, q.2.1, fun b b0 b1 => q.2.2 b b0 (by omega)⟩; omega⟩ | exact ⟨fun q => absurd q (by decide), fun q => (by have oo := (i3.mp (by omega)).2.1; have z := q.2.2 j i1.1 (by omega) (by omega) (by omega) (by omega); omega)⟩⟩, lv_sub hl [0, 1, 2, 3, 4, 5, 6] rfl, rfl, rfl, rfl⟩
                  · exfalso; omega
              ·
                rintro v3 H lc ls st9 ⟨hj_6, hl, rfl, rfl, rfl⟩
                have hv3 := hj_6
                refine lv_istore_n (lv' := [(2, zi v3), (6, zi 0), (5, zi j), (4, zi 0), (3, zi k), (0, .ref m0), (1, zi cq)]) hx hb dX12_isRest_147 rfl hl (by decide) rfl (fun ls hl => ?_)
                refine z_iinc (k := 2) (lv' := [(5, zi (j + 1)), (2, zi v3), (6, zi 0), (4, zi 0), (3, zi k), (0, .ref m0), (1, zi cq)]) hx hb dX12_isRest_148 hl rfl (by decide) rfl (fun ls hl => ?_)
                refine lv_goto (tgt := 56) hx hb dX12_isRest_151 (by decide) ?_
                exact ih56 (v3, j + 1) _ _ _ (by first | (dsimp only; omega) | omega) ⟨⟨by omega, hv3.1, hv3.2⟩, lv_sub hl [0, 1, 3, 4, 5, 6] rfl, rfl, rfl⟩
            ·
              refine lv_aload_n hx hb dX12_isRest_80 rfl (lv_at hl 4 rfl) ?_
              refine lv_iload hx hb dX12_isRest_81 (lv_at hl 0 rfl) ?_
              refine z_pV (As := [zi j]) (rest := []) hC (c_X12_laneTime l D y m0 m_read rl rp m_gut gl gp gx gy m_text tn fn m_boat m_coins vw vm vn m_rest m_ends vc m_chan m_spl fs rn m_rf m_rr m_ik m_km m_kb m_kc m_kf m_kr MG j (by first | assumption | omega) (by first | assumption | omega)) (cwV 1 hts gX12_isRest_X12_laneTime rfl rfl rfl (by decide +kernel) ⟨Nat.le_of_ble_eq_true rfl, Nat.le_of_ble_eq_true rfl⟩) hG (hPr.sub (ws' := [(m0, .inr (11, [.ref m_read, zi rl, zi rp, .ref m_gut, zi gl, zi gp, zi gx, zi gy, .ref m_text, zi tn, zi fn, .ref m_boat, .ref m_coins, zi vw, zi vm, zi vn, .ref m_rest, .ref m_ends, zl vc, .ref m_chan, .ref m_spl, zi fs, zi rn, .ref m_rf, .ref m_rr, .ref m_ik, .ref m_km, .ref m_kb, .ref m_kc, .ref m_kf, .ref m_kr])), (m_gut, .inl (y 0, 36, .inl (cI MG)))]) [0, 1] rfl) 0 rfl rfl rfl hl.1 rfl (Nat.le_of_ble_eq_true rfl) dX12_isRest_83 ⟨Nat.le_of_ble_eq_true rfl, Nat.le_of_ble_eq_true rfl⟩ ?_
              refine lv_ldc (v := iI 100000) hx hb hown k2 dX12_isRest_86 ?_
              refine z_icmp_ge (tgt := 95) hx hb (by omega) (by omega) dX12_isRest_88 (by decide) (fun c_88 => ?_) (fun c_88 => ?_)
              ·
                refine z_iconst hx hb dX12_isRest_95 ?_
                refine lv_istore (lv' := [(6, zi 0), (5, zi j), (2, zi v), (4, zi 0), (3, zi k), (0, .ref m0), (1, zi cq)]) hx hb dX12_isRest_96 hl (by decide) rfl (fun ls hl => ?_)
                refine z_cut (σ := Int) 147 (fun v3 H lc ls st9 => ((v3 = 0 ∨ v3 = 1) ∧ (v3 = 1 ↔ ((∀ a : Int, 0 ≤ a → a < k → irC gl (opV gl gp MG) (laneS gl gp MG) MS cq a) ∧ (opV gl gp MG k ≠ 0 ∨ MS k = 0) ∧ ∀ b : Int, 0 ≤ b → b < j + 1 → irD (opV gl gp MG) (laneS gl gp MG) MS cq k b))) ∧ lv_has ls 7 [(6, zi 0), (5, zi j), (2, zi v), (4, zi 0), (3, zi k), (0, .ref m0), (1, zi cq)] ∧ st9 = [zi v3] ∧ H = s.heap ∧ lc = []) (fun hJ_7 => ?_) ?_
                ·
                  refine lv_iload_n hx hb dX12_isRest_98 rfl (lv_at hl 2 rfl) ?_
                  refine z_if_eq (tgt := 146) hx hb (by omega) dX12_isRest_99 (by decide) (fun c_99 => ?_) (fun c_99 => ?_)
                  ·
                    refine z_iconst hx hb dX12_isRest_146 ?_
                    exact hJ_7 0 _ _ _ _ ⟨⟨by omega, by first | exact ⟨fun _ => ⟨(i3.mp (by omega)).1, (i3.mp (by omega)).2.1, id_s (i3.mp (by omega)).2.2 (fun a b c => by first | omega | (have oo := (i3.mp (by omega)).2.1; omega))⟩, fun _ => rfl⟩ | exact ⟨fun q => absurd q (by decide), fun q => by have := i3.mpr ⟨q.1, q.2.1, fun b b0 b1 => q.2.2 b b0 (by omega)⟩; omega⟩ | exact ⟨fun q => absurd q (by decide), fun q => (by have oo := (i3.mp (by omega)).2.1; have z := q.2.2 j i1.1 (by omega) (by omega) (by omega) (by omega); omega)⟩⟩, lv_sub hl [0, 1, 2, 3, 4, 5, 6] rfl, rfl, rfl, rfl⟩
                  ·
                    refine lv_iload hx hb dX12_isRest_102 (lv_at hl 0 rfl) ?_
                    refine z_if_eq (tgt := 142) hx hb (by omega) dX12_isRest_104 (by decide) (fun c_104 => ?_) (fun c_104 => ?_)
                    ·
                      refine z_iconst hx hb dX12_isRest_142 ?_
                      refine lv_goto (tgt := 147) hx hb dX12_isRest_143 (by decide) ?_
                      exact hJ_7 1 _ _ _ _ ⟨⟨by omega, by first | exact ⟨fun _ => ⟨(i3.mp (by omega)).1, (i3.mp (by omega)).2.1, id_s (i3.mp (by omega)).2.2 (fun a b c => by first | omega | (have oo := (i3.mp (by omega)).2.1; omega))⟩, fun _ => rfl⟩ | exact ⟨fun q => absurd q (by decide), fun q => by have := i3.mpr ⟨q.1, q.2.1, fun b b0 b1 => q.2.2 b b0 (by omega)⟩; omega⟩ | exact ⟨fun q => absurd q (by decide), fun q => (by have oo := (i3.mp (by omega)).2.1; have z := q.2.2 j i1.1 (by omega) (by omega) (by omega) (by omega); omega)⟩⟩, lv_sub hl [0, 1, 2, 3, 4, 5, 6] rfl, rfl, rfl, rfl⟩
                    · exfalso; omega
                ·
                  rintro v3 H lc ls st9 ⟨hj_8, hl, rfl, rfl, rfl⟩
                  have hv3 := hj_8
                  refine lv_istore_n (lv' := [(2, zi v3), (6, zi 0), (5, zi j), (4, zi 0), (3, zi k), (0, .ref m0), (1, zi cq)]) hx hb dX12_isRest_147 rfl hl (by decide) rfl (fun ls hl => ?_)
                  refine z_iinc (k := 2) (lv' := [(5, zi (j + 1)), (2, zi v3), (6, zi 0), (4, zi 0), (3, zi k), (0, .ref m0), (1, zi cq)]) hx hb dX12_isRest_148 hl rfl (by decide) rfl (fun ls hl => ?_)
                  refine lv_goto (tgt := 56) hx hb dX12_isRest_151 (by decide) ?_
                  exact ih56 (v3, j + 1) _ _ _ (by first | (dsimp only; omega) | omega) ⟨⟨by omega, hv3.1, hv3.2⟩, lv_sub hl [0, 1, 3, 4, 5, 6] rfl, rfl, rfl⟩
              ·
                refine z_iconst hx hb dX12_isRest_91 ?_
                refine lv_goto (tgt := 96) hx hb dX12_isRest_92 (by decide) ?_
                refine lv_istore (lv' := [(6, zi 1), (5, zi j), (2, zi v), (4, zi 0), (3, zi k), (0, .ref m0), (1, zi cq)]) hx hb dX12_isRest_96 hl (by decide) rfl (fun ls hl => ?_)
                refine z_cut (σ := Int) 147 (fun v3 H lc ls st9 => ((v3 = 0 ∨ v3 = 1) ∧ (v3 = 1 ↔ ((∀ a : Int, 0 ≤ a → a < k → irC gl (opV gl gp MG) (laneS gl gp MG) MS cq a) ∧ (opV gl gp MG k ≠ 0 ∨ MS k = 0) ∧ ∀ b : Int, 0 ≤ b → b < j + 1 → irD (opV gl gp MG) (laneS gl gp MG) MS cq k b))) ∧ lv_has ls 7 [(6, zi 1), (5, zi j), (2, zi v), (4, zi 0), (3, zi k), (0, .ref m0), (1, zi cq)] ∧ st9 = [zi v3] ∧ H = s.heap ∧ lc = []) (fun hJ_9 => ?_) ?_
                ·
                  refine lv_iload_n hx hb dX12_isRest_98 rfl (lv_at hl 2 rfl) ?_
                  refine z_if_eq (tgt := 146) hx hb (by omega) dX12_isRest_99 (by decide) (fun c_99 => ?_) (fun c_99 => ?_)
                  ·
                    refine z_iconst hx hb dX12_isRest_146 ?_
                    exact hJ_9 0 _ _ _ _ ⟨⟨by omega, by first | exact ⟨fun _ => ⟨(i3.mp (by omega)).1, (i3.mp (by omega)).2.1, id_s (i3.mp (by omega)).2.2 (fun a b c => by first | omega | (have oo := (i3.mp (by omega)).2.1; omega))⟩, fun _ => rfl⟩ | exact ⟨fun q => absurd q (by decide), fun q => by have := i3.mpr ⟨q.1, q.2.1, fun b b0 b1 => q.2.2 b b0 (by omega)⟩; omega⟩ | exact ⟨fun q => absurd q (by decide), fun q => (by have oo := (i3.mp (by omega)).2.1; have z := q.2.2 j i1.1 (by omega) (by omega) (by omega) (by omega); omega)⟩⟩, lv_sub hl [0, 1, 2, 3, 4, 5, 6] rfl, rfl, rfl, rfl⟩
                  ·
                    refine lv_iload hx hb dX12_isRest_102 (lv_at hl 0 rfl) ?_
                    refine z_if_eq (tgt := 142) hx hb (by omega) dX12_isRest_104 (by decide) (fun c_104 => ?_) (fun c_104 => ?_)
                    · exfalso; omega
                    ·
                      refine lv_aload_n hx hb dX12_isRest_107 rfl (lv_at hl 5 rfl) ?_
                      refine lv_iload_n hx hb dX12_isRest_108 rfl (lv_at hl 4 rfl) ?_
                      refine z_pV (As := [zi k]) (rest := []) hC (c_X12_laneTime l D y m0 m_read rl rp m_gut gl gp gx gy m_text tn fn m_boat m_coins vw vm vn m_rest m_ends vc m_chan m_spl fs rn m_rf m_rr m_ik m_km m_kb m_kc m_kf m_kr MG k (by first | assumption | omega) (by first | assumption | omega)) (cwV 1 hts gX12_isRest_X12_laneTime rfl rfl rfl (by decide +kernel) ⟨Nat.le_of_ble_eq_true rfl, Nat.le_of_ble_eq_true rfl⟩) hG (hPr.sub (ws' := [(m0, .inr (11, [.ref m_read, zi rl, zi rp, .ref m_gut, zi gl, zi gp, zi gx, zi gy, .ref m_text, zi tn, zi fn, .ref m_boat, .ref m_coins, zi vw, zi vm, zi vn, .ref m_rest, .ref m_ends, zl vc, .ref m_chan, .ref m_spl, zi fs, zi rn, .ref m_rf, .ref m_rr, .ref m_ik, .ref m_km, .ref m_kb, .ref m_kc, .ref m_kf, .ref m_kr])), (m_gut, .inl (y 0, 36, .inl (cI MG)))]) [0, 1] rfl) 0 rfl rfl rfl hl.1 rfl (Nat.le_of_ble_eq_true rfl) dX12_isRest_109 ⟨Nat.le_of_ble_eq_true rfl, Nat.le_of_ble_eq_true rfl⟩ ?_
                      refine lv_iload_n hx hb dX12_isRest_112 rfl (lv_at hl 6 rfl) ?_
                      refine lv_aload_n hx hb dX12_isRest_113 rfl (lv_at hl 5 rfl) ?_
                      refine va_get hx hb hts hinX12 hown hK hPr 0 rfl rfl 20 (by decide) k3 (fun _ h => h) rfl dX12_isRest_114 ?_
                      refine lv_iload_n hx hb dX12_isRest_117 rfl (lv_at hl 4 rfl) ?_
                      refine z_iald hx hb hK hPr 2 0 rfl rfl (by omega) (by decide) dX12_isRest_118 ?_
                      refine z_iconst hx hb dX12_isRest_119 ?_
                      refine z_isub hx hb dX12_isRest_120 ?_
                      refine z_imul hx hb dX12_isRest_121 ?_
                      refine z_iadd hx hb dX12_isRest_122 ?_
                      refine lv_aload_n hx hb dX12_isRest_123 rfl (lv_at hl 5 rfl) ?_
                      refine lv_iload hx hb dX12_isRest_124 (lv_at hl 1 rfl) ?_
                      refine z_pV (As := [zi j]) (rest := [zi ((mtV gl gp MG k) + (cq * ((MS k) - 1)))]) hC (c_X12_laneTime l D y m0 m_read rl rp m_gut gl gp gx gy m_text tn fn m_boat m_coins vw vm vn m_rest m_ends vc m_chan m_spl fs rn m_rf m_rr m_ik m_km m_kb m_kc m_kf m_kr MG j (by first | assumption | omega) (by first | assumption | omega)) (cwV 1 hts gX12_isRest_X12_laneTime rfl rfl rfl (by decide +kernel) ⟨Nat.le_of_ble_eq_true rfl, Nat.le_of_ble_eq_true rfl⟩) hG (hPr.sub (ws' := [(m0, .inr (11, [.ref m_read, zi rl, zi rp, .ref m_gut, zi gl, zi gp, zi gx, zi gy, .ref m_text, zi tn, zi fn, .ref m_boat, .ref m_coins, zi vw, zi vm, zi vn, .ref m_rest, .ref m_ends, zl vc, .ref m_chan, .ref m_spl, zi fs, zi rn, .ref m_rf, .ref m_rr, .ref m_ik, .ref m_km, .ref m_kb, .ref m_kc, .ref m_kf, .ref m_kr])), (m_gut, .inl (y 0, 36, .inl (cI MG)))]) [0, 1] rfl) 0 rfl rfl rfl hl.1 rfl (Nat.le_of_ble_eq_true rfl) dX12_isRest_126 ⟨Nat.le_of_ble_eq_true rfl, Nat.le_of_ble_eq_true rfl⟩ ?_
                      refine lv_iload_n hx hb dX12_isRest_129 rfl (lv_at hl 6 rfl) ?_
                      refine lv_aload_n hx hb dX12_isRest_130 rfl (lv_at hl 5 rfl) ?_
                      refine va_get hx hb hts hinX12 hown hK hPr 0 rfl rfl 20 (by decide) k3 (fun _ h => h) rfl dX12_isRest_131 ?_
                      refine lv_iload hx hb dX12_isRest_134 (lv_at hl 1 rfl) ?_
                      refine z_iald hx hb hK hPr 2 0 rfl rfl (by omega) (by decide) dX12_isRest_136 ?_
                      refine z_imul hx hb dX12_isRest_137 ?_
                      refine z_iadd hx hb dX12_isRest_138 ?_
                      refine z_icmp_gt (tgt := 146) hx hb (by omega) (by omega) dX12_isRest_139 (by decide) (fun c_139 => ?_) (fun c_139 => ?_)
                      ·
                        refine z_iconst hx hb dX12_isRest_146 ?_
                        exact hJ_9 0 _ _ _ _ ⟨⟨by omega, by first | exact ⟨fun _ => ⟨(i3.mp (by omega)).1, (i3.mp (by omega)).2.1, id_s (i3.mp (by omega)).2.2 (fun a b c => by first | omega | (have oo := (i3.mp (by omega)).2.1; omega))⟩, fun _ => rfl⟩ | exact ⟨fun q => absurd q (by decide), fun q => by have := i3.mpr ⟨q.1, q.2.1, fun b b0 b1 => q.2.2 b b0 (by omega)⟩; omega⟩ | exact ⟨fun q => absurd q (by decide), fun q => (by have oo := (i3.mp (by omega)).2.1; have z := q.2.2 j i1.1 (by omega) (by omega) (by omega) (by omega); omega)⟩⟩, lv_sub hl [0, 1, 2, 3, 4, 5, 6] rfl, rfl, rfl, rfl⟩
                      ·
                        refine z_iconst hx hb dX12_isRest_142 ?_
                        refine lv_goto (tgt := 147) hx hb dX12_isRest_143 (by decide) ?_
                        exact hJ_9 1 _ _ _ _ ⟨⟨by omega, by first | exact ⟨fun _ => ⟨(i3.mp (by omega)).1, (i3.mp (by omega)).2.1, id_s (i3.mp (by omega)).2.2 (fun a b c => by first | omega | (have oo := (i3.mp (by omega)).2.1; omega))⟩, fun _ => rfl⟩ | exact ⟨fun q => absurd q (by decide), fun q => by have := i3.mpr ⟨q.1, q.2.1, fun b b0 b1 => q.2.2 b b0 (by omega)⟩; omega⟩ | exact ⟨fun q => absurd q (by decide), fun q => (by have oo := (i3.mp (by omega)).2.1; have z := q.2.2 j i1.1 (by omega) (by omega) (by omega) (by omega); omega)⟩⟩, lv_sub hl [0, 1, 2, 3, 4, 5, 6] rfl, rfl, rfl, rfl⟩
                ·
                  rintro v3 H lc ls st9 ⟨hj_10, hl, rfl, rfl, rfl⟩
                  have hv3 := hj_10
                  refine lv_istore_n (lv' := [(2, zi v3), (6, zi 1), (5, zi j), (4, zi 0), (3, zi k), (0, .ref m0), (1, zi cq)]) hx hb dX12_isRest_147 rfl hl (by decide) rfl (fun ls hl => ?_)
                  refine z_iinc (k := 2) (lv' := [(5, zi (j + 1)), (2, zi v3), (6, zi 1), (4, zi 0), (3, zi k), (0, .ref m0), (1, zi cq)]) hx hb dX12_isRest_148 hl rfl (by decide) rfl (fun ls hl => ?_)
                  refine lv_goto (tgt := 56) hx hb dX12_isRest_151 (by decide) ?_
                  exact ih56 (v3, j + 1) _ _ _ (by first | (dsimp only; omega) | omega) ⟨⟨by omega, hv3.1, hv3.2⟩, lv_sub hl [0, 1, 3, 4, 5, 6] rfl, rfl, rfl⟩
    ·
      refine z_iconst hx hb dX12_isRest_22 ?_
      refine lv_goto (tgt := 27) hx hb dX12_isRest_23 (by decide) ?_
      refine lv_istore (lv' := [(4, zi 1), (3, zi k), (2, zi v), (0, .ref m0), (1, zi cq)]) hx hb dX12_isRest_27 hl (by decide) rfl (fun ls hl => ?_)
      refine z_cut (σ := Int) 52 (fun v2 H lc ls st9 => ((v2 = 0 ∨ v2 = 1) ∧ (v2 = 1 ↔ ((∀ a : Int, 0 ≤ a → a < k → irC gl (opV gl gp MG) (laneS gl gp MG) MS cq a) ∧ (opV gl gp MG k ≠ 0 ∨ MS k = 0)))) ∧ lv_has ls 7 [(4, zi 1), (3, zi k), (2, zi v), (0, .ref m0), (1, zi cq)] ∧ st9 = [zi v2] ∧ H = s.heap ∧ lc = []) (fun hJ_11 => ?_) ?_
      ·
        refine lv_iload_n hx hb dX12_isRest_29 rfl (lv_at hl 2 rfl) ?_
        refine z_if_eq (tgt := 51) hx hb (by omega) dX12_isRest_30 (by decide) (fun c_30 => ?_) (fun c_30 => ?_)
        ·
          refine z_iconst hx hb dX12_isRest_51 ?_
          exact hJ_11 0 _ _ _ _ ⟨⟨by omega, by first | exact ⟨fun _ => ⟨j3.mp (by omega), by omega⟩, fun _ => rfl⟩ | exact ⟨fun q => absurd q (by decide), fun q => by have := j3.mpr q.1; have := q.2; omega⟩⟩, lv_sub hl [0, 1, 2, 3, 4] rfl, rfl, rfl, rfl⟩
        ·
          refine lv_iload hx hb dX12_isRest_33 (lv_at hl 0 rfl) ?_
          refine z_if_ne (tgt := 47) hx hb (by omega) dX12_isRest_35 (by decide) (fun c_35 => ?_) (fun c_35 => ?_)
          ·
            refine z_iconst hx hb dX12_isRest_47 ?_
            refine lv_goto (tgt := 52) hx hb dX12_isRest_48 (by decide) ?_
            exact hJ_11 1 _ _ _ _ ⟨⟨by omega, by first | exact ⟨fun _ => ⟨j3.mp (by omega), by omega⟩, fun _ => rfl⟩ | exact ⟨fun q => absurd q (by decide), fun q => by have := j3.mpr q.1; have := q.2; omega⟩⟩, lv_sub hl [0, 1, 2, 3, 4] rfl, rfl, rfl, rfl⟩
          · exfalso; omega
      ·
        rintro v2 H lc ls st9 ⟨hj_12, hl, rfl, rfl, rfl⟩
        have hv2 := hj_12
        refine lv_istore_n (lv' := [(2, zi v2), (4, zi 1), (3, zi k), (0, .ref m0), (1, zi cq)]) hx hb dX12_isRest_52 rfl hl (by decide) rfl (fun ls hl => ?_)
        refine z_iconst hx hb dX12_isRest_53 ?_
        refine lv_istore (lv' := [(5, zi 0), (2, zi v2), (4, zi 1), (3, zi k), (0, .ref m0), (1, zi cq)]) hx hb dX12_isRest_54 hl (by decide) rfl (fun ls hl => ?_)
        refine z_loop (σ := Int × Int) (fun x9 H lc ls => match x9 with | (v, j) => ((0 ≤ j ∧ j ≤ gl) ∧ (v = 0 ∨ v = 1) ∧ (v = 1 ↔ ((∀ a : Int, 0 ≤ a → a < k → irC gl (opV gl gp MG) (laneS gl gp MG) MS cq a) ∧ (opV gl gp MG k ≠ 0 ∨ MS k = 0) ∧ ∀ b : Int, 0 ≤ b → b < j → irD (opV gl gp MG) (laneS gl gp MG) MS cq k b))) ∧ lv_has ls 7 [(5, zi j), (2, zi v), (4, zi 1), (3, zi k), (0, .ref m0), (1, zi cq)] ∧ H = s.heap ∧ lc = []) (fun x9  => match x9 with | (v, j) => ((gl - j).toNat)) ?_ (v2, 0) ⟨⟨by omega, hv2.1, hv2.2.trans ⟨fun q => ⟨q.1, q.2, fun b _ _ => by omega⟩, fun q => ⟨q.1, q.2.1⟩⟩⟩, lv_sub hl [0, 1, 2, 3, 4, 5] rfl, rfl, rfl⟩
        rintro ⟨v, j⟩ H lc ls ⟨hi56, hl, rfl, rfl⟩ ih56
        obtain ⟨i1, i2, i3⟩ := hi56
        refine lv_iload hx hb dX12_isRest_56 (lv_at hl 0 rfl) ?_
        refine lv_aload_n hx hb dX12_isRest_58 rfl (lv_at hl 4 rfl) ?_
        refine va_get hx hb hts hinX12 hown hK hPr 0 rfl rfl 4 (by decide) k1 (fun _ h => h) rfl dX12_isRest_59 ?_
        refine z_icmp_ge (tgt := 154) hx hb (by omega) (by omega) dX12_isRest_62 (by decide) (fun c_62 => ?_) (fun c_62 => ?_)
        ·
          refine z_iinc (k := 3) (lv' := [(3, zi (k + 1)), (5, zi j), (2, zi v), (4, zi 1), (0, .ref m0), (1, zi cq)]) hx hb dX12_isRest_154 hl rfl (by decide) rfl (fun ls hl => ?_)
          refine lv_goto (tgt := 4) hx hb dX12_isRest_157 (by decide) ?_
          exact ih4 (v, k + 1) _ _ _ (by first | (dsimp only; omega) | omega) ⟨⟨by omega, i2, i3.trans ⟨fun q => ic_s q.1 ⟨q.2.1, fun b b0 b1 => q.2.2 b b0 (by omega)⟩, fun q => ⟨fun a a0 a1 => q a a0 (by omega), (q k j1.1 (by omega)).1, fun b b0 b1 => (q k j1.1 (by omega)).2 b b0 (by omega)⟩⟩⟩, lv_sub hl [0, 2, 4, 5] rfl, rfl, rfl⟩
        ·
          have nj1 := laneS_bd hg j (k := gp) (by omega) (by omega)
          have nj2 : sgI (fun p => secV (kAt gl gp MG j p)) gp = laneS gl gp MG j := rfl
          have nj3 := op_i (gl := gl) (gp := gp) (GK := MG) (la := j) (by omega) (by omega) (by omega)
          have nj4 := wallN_bd (gl := gl) (GK := MG) (la := j) (gp := gp) (by omega)
          have nj5 : mtV gl gp MG j = laneS gl gp MG j + 100000 * wallN gl gp MG j := rfl
          have s2 := hS j (by omega) (by omega)
          have m1 := c_bd (x := MS k - 1) hcq (by omega)
          have m2 := c_bd (x := MS j) hcq (by omega)
          refine lv_iload_n hx hb dX12_isRest_65 rfl (lv_at hl 3 rfl) ?_
          refine lv_iload hx hb dX12_isRest_66 (lv_at hl 0 rfl) ?_
          refine z_icmp_eq (tgt := 95) hx hb (by omega) (by omega) dX12_isRest_68 (by decide) (fun c_68 => ?_) (fun c_68 => ?_)
          ·
            refine z_iconst hx hb dX12_isRest_95 ?_
            refine lv_istore (lv' := [(6, zi 0), (5, zi j), (2, zi v), (4, zi 1), (3, zi k), (0, .ref m0), (1, zi cq)]) hx hb dX12_isRest_96 hl (by decide) rfl (fun ls hl => ?_)
            refine z_cut (σ := Int) 147 (fun v3 H lc ls st9 => ((v3 = 0 ∨ v3 = 1) ∧ (v3 = 1 ↔ ((∀ a : Int, 0 ≤ a → a < k → irC gl (opV gl gp MG) (laneS gl gp MG) MS cq a) ∧ (opV gl gp MG k ≠ 0 ∨ MS k = 0) ∧ ∀ b : Int, 0 ≤ b → b < j + 1 → irD (opV gl gp MG) (laneS gl gp MG) MS cq k b))) ∧ lv_has ls 7 [(6, zi 0), (5, zi j), (2, zi v), (4, zi 1), (3, zi k), (0, .ref m0), (1, zi cq)] ∧ st9 = [zi v3] ∧ H = s.heap ∧ lc = []) (fun hJ_13 => ?_) ?_
            ·
              refine lv_iload_n hx hb dX12_isRest_98 rfl (lv_at hl 2 rfl) ?_
              refine z_if_eq (tgt := 146) hx hb (by omega) dX12_isRest_99 (by decide) (fun c_99 => ?_) (fun c_99 => ?_)
              ·
                refine z_iconst hx hb dX12_isRest_146 ?_
                exact hJ_13 0 _ _ _ _ ⟨⟨by omega, by first | exact ⟨fun _ => ⟨(i3.mp (by omega)).1, (i3.mp (by omega)).2.1, id_s (i3.mp (by omega)).2.2 (fun a b c => by first | omega | (have oo := (i3.mp (by omega)).2.1; omega))⟩, fun _ => rfl⟩ | exact ⟨fun q => absurd q (by decide), fun q => by have := i3.mpr ⟨q.1, q.2.1, fun b b0 b1 => q.2.2 b b0 (by omega)⟩; omega⟩ | exact ⟨fun q => absurd q (by decide), fun q => (by have oo := (i3.mp (by omega)).2.1; have z := q.2.2 j i1.1 (by omega) (by omega) (by omega) (by omega); omega)⟩⟩, lv_sub hl [0, 1, 2, 3, 4, 5, 6] rfl, rfl, rfl, rfl⟩
              ·
                refine lv_iload hx hb dX12_isRest_102 (lv_at hl 0 rfl) ?_
                refine z_if_eq (tgt := 142) hx hb (by omega) dX12_isRest_104 (by decide) (fun c_104 => ?_) (fun c_104 => ?_)
                ·
                  refine z_iconst hx hb dX12_isRest_142 ?_
                  refine lv_goto (tgt := 147) hx hb dX12_isRest_143 (by decide) ?_
                  exact hJ_13 1 _ _ _ _ ⟨⟨by omega, by first | exact ⟨fun _ => ⟨(i3.mp (by omega)).1, (i3.mp (by omega)).2.1, id_s (i3.mp (by omega)).2.2 (fun a b c => by first | omega | (have oo := (i3.mp (by omega)).2.1; omega))⟩, fun _ => rfl⟩ | exact ⟨fun q => absurd q (by decide), fun q => by have := i3.mpr ⟨q.1, q.2.1, fun b b0 b1 => q.2.2 b b0 (by omega)⟩; omega⟩ | exact ⟨fun q => absurd q (by decide), fun q => (by have oo := (i3.mp (by omega)).2.1; have z := q.2.2 j i1.1 (by omega) (by omega) (by omega) (by omega); omega)⟩⟩, lv_sub hl [0, 1, 2, 3, 4, 5, 6] rfl, rfl, rfl, rfl⟩
                · exfalso; omega
            ·
              rintro v3 H lc ls st9 ⟨hj_14, hl, rfl, rfl, rfl⟩
              have hv3 := hj_14
              refine lv_istore_n (lv' := [(2, zi v3), (6, zi 0), (5, zi j), (4, zi 1), (3, zi k), (0, .ref m0), (1, zi cq)]) hx hb dX12_isRest_147 rfl hl (by decide) rfl (fun ls hl => ?_)
              refine z_iinc (k := 2) (lv' := [(5, zi (j + 1)), (2, zi v3), (6, zi 0), (4, zi 1), (3, zi k), (0, .ref m0), (1, zi cq)]) hx hb dX12_isRest_148 hl rfl (by decide) rfl (fun ls hl => ?_)
              refine lv_goto (tgt := 56) hx hb dX12_isRest_151 (by decide) ?_
              exact ih56 (v3, j + 1) _ _ _ (by first | (dsimp only; omega) | omega) ⟨⟨by omega, hv3.1, hv3.2⟩, lv_sub hl [0, 1, 3, 4, 5, 6] rfl, rfl, rfl⟩
          ·
            refine lv_aload_n hx hb dX12_isRest_71 rfl (lv_at hl 4 rfl) ?_
            refine va_get hx hb hts hinX12 hown hK hPr 0 rfl rfl 20 (by decide) k3 (fun _ h => h) rfl dX12_isRest_72 ?_
            refine lv_iload_n hx hb dX12_isRest_75 rfl (lv_at hl 3 rfl) ?_
            refine z_iald hx hb hK hPr 2 0 rfl rfl (by omega) (by decide) dX12_isRest_76 ?_
            refine z_if_le (tgt := 95) hx hb (by omega) dX12_isRest_77 (by decide) (fun c_77 => ?_) (fun c_77 => ?_)
            ·
              refine z_iconst hx hb dX12_isRest_95 ?_
              refine lv_istore (lv' := [(6, zi 0), (5, zi j), (2, zi v), (4, zi 1), (3, zi k), (0, .ref m0), (1, zi cq)]) hx hb dX12_isRest_96 hl (by decide) rfl (fun ls hl => ?_)
              refine z_cut (σ := Int) 147 (fun v3 H lc ls st9 => ((v3 = 0 ∨ v3 = 1) ∧ (v3 = 1 ↔ ((∀ a : Int, 0 ≤ a → a < k → irC gl (opV gl gp MG) (laneS gl gp MG) MS cq a) ∧ (opV gl gp MG k ≠ 0 ∨ MS k = 0) ∧ ∀ b : Int, 0 ≤ b → b < j + 1 → irD (opV gl gp MG) (laneS gl gp MG) MS cq k b))) ∧ lv_has ls 7 [(6, zi 0), (5, zi j), (2, zi v), (4, zi 1), (3, zi k), (0, .ref m0), (1, zi cq)] ∧ st9 = [zi v3] ∧ H = s.heap ∧ lc = []) (fun hJ_15 => ?_) ?_
              ·
                refine lv_iload_n hx hb dX12_isRest_98 rfl (lv_at hl 2 rfl) ?_
                refine z_if_eq (tgt := 146) hx hb (by omega) dX12_isRest_99 (by decide) (fun c_99 => ?_) (fun c_99 => ?_)
                ·
                  refine z_iconst hx hb dX12_isRest_146 ?_
                  exact hJ_15 0 _ _ _ _ ⟨⟨by omega, by first | exact ⟨fun _ => ⟨(i3.mp (by omega)).1, (i3.mp (by omega)).2.1, id_s (i3.mp (by omega)).2.2 (fun a b c => by first | omega | (have oo := (i3.mp (by omega)).2.1; omega))⟩, fun _ => rfl⟩ | exact ⟨fun q => absurd q (by decide), fun q => by have := i3.mpr ⟨q.1, q.2.1, fun b b0 b1 => q.2.2 b b0 (by omega)⟩; omega⟩ | exact ⟨fun q => absurd q (by decide), fun q => (by have oo := (i3.mp (by omega)).2.1; have z := q.2.2 j i1.1 (by omega) (by omega) (by omega) (by omega); omega)⟩⟩, lv_sub hl [0, 1, 2, 3, 4, 5, 6] rfl, rfl, rfl, rfl⟩
                ·
                  refine lv_iload hx hb dX12_isRest_102 (lv_at hl 0 rfl) ?_
                  refine z_if_eq (tgt := 142) hx hb (by omega) dX12_isRest_104 (by decide) (fun c_104 => ?_) (fun c_104 => ?_)
                  ·
                    refine z_iconst hx hb dX12_isRest_142 ?_
                    refine lv_goto (tgt := 147) hx hb dX12_isRest_143 (by decide) ?_
                    exact hJ_15 1 _ _ _ _ ⟨⟨by omega, by first | exact ⟨fun _ => ⟨(i3.mp (by omega)).1, (i3.mp (by omega)).2.1, id_s (i3.mp (by omega)).2.2 (fun a b c => by first | omega | (have oo := (i3.mp (by omega)).2.1; omega))⟩, fun _ => rfl⟩ | exact ⟨fun q => absurd q (by decide), fun q => by have := i3.mpr ⟨q.1, q.2.1, fun b b0 b1 => q.2.2 b b0 (by omega)⟩; omega⟩ | exact ⟨fun q => absurd q (by decide), fun q => (by have oo := (i3.mp (by omega)).2.1; have z := q.2.2 j i1.1 (by omega) (by omega) (by omega) (by omega); omega)⟩⟩, lv_sub hl [0, 1, 2, 3, 4, 5, 6] rfl, rfl, rfl, rfl⟩
                  · exfalso; omega
              ·
                rintro v3 H lc ls st9 ⟨hj_16, hl, rfl, rfl, rfl⟩
                have hv3 := hj_16
                refine lv_istore_n (lv' := [(2, zi v3), (6, zi 0), (5, zi j), (4, zi 1), (3, zi k), (0, .ref m0), (1, zi cq)]) hx hb dX12_isRest_147 rfl hl (by decide) rfl (fun ls hl => ?_)
                refine z_iinc (k := 2) (lv' := [(5, zi (j + 1)), (2, zi v3), (6, zi 0), (4, zi 1), (3, zi k), (0, .ref m0), (1, zi cq)]) hx hb dX12_isRest_148 hl rfl (by decide) rfl (fun ls hl => ?_)
                refine lv_goto (tgt := 56) hx hb dX12_isRest_151 (by decide) ?_
                exact ih56 (v3, j + 1) _ _ _ (by first | (dsimp only; omega) | omega) ⟨⟨by omega, hv3.1, hv3.2⟩, lv_sub hl [0, 1, 3, 4, 5, 6] rfl, rfl, rfl⟩
            ·
              refine lv_aload_n hx hb dX12_isRest_80 rfl (lv_at hl 4 rfl) ?_
              refine lv_iload hx hb dX12_isRest_81 (lv_at hl 0 rfl) ?_
              refine z_pV (As := [zi j]) (rest := []) hC (c_X12_laneTime l D y m0 m_read rl rp m_gut gl gp gx gy m_text tn fn m_boat m_coins vw vm vn m_rest m_ends vc m_chan m_spl fs rn m_rf m_rr m_ik m_km m_kb m_kc m_kf m_kr MG j (by first | assumption | omega) (by first | assumption | omega)) (cwV 1 hts gX12_isRest_X12_laneTime rfl rfl rfl (by decide +kernel) ⟨Nat.le_of_ble_eq_true rfl, Nat.le_of_ble_eq_true rfl⟩) hG (hPr.sub (ws' := [(m0, .inr (11, [.ref m_read, zi rl, zi rp, .ref m_gut, zi gl, zi gp, zi gx, zi gy, .ref m_text, zi tn, zi fn, .ref m_boat, .ref m_coins, zi vw, zi vm, zi vn, .ref m_rest, .ref m_ends, zl vc, .ref m_chan, .ref m_spl, zi fs, zi rn, .ref m_rf, .ref m_rr, .ref m_ik, .ref m_km, .ref m_kb, .ref m_kc, .ref m_kf, .ref m_kr])), (m_gut, .inl (y 0, 36, .inl (cI MG)))]) [0, 1] rfl) 0 rfl rfl rfl hl.1 rfl (Nat.le_of_ble_eq_true rfl) dX12_isRest_83 ⟨Nat.le_of_ble_eq_true rfl, Nat.le_of_ble_eq_true rfl⟩ ?_
              refine lv_ldc (v := iI 100000) hx hb hown k2 dX12_isRest_86 ?_
              refine z_icmp_ge (tgt := 95) hx hb (by omega) (by omega) dX12_isRest_88 (by decide) (fun c_88 => ?_) (fun c_88 => ?_)
              ·
                refine z_iconst hx hb dX12_isRest_95 ?_
                refine lv_istore (lv' := [(6, zi 0), (5, zi j), (2, zi v), (4, zi 1), (3, zi k), (0, .ref m0), (1, zi cq)]) hx hb dX12_isRest_96 hl (by decide) rfl (fun ls hl => ?_)
                refine z_cut (σ := Int) 147 (fun v3 H lc ls st9 => ((v3 = 0 ∨ v3 = 1) ∧ (v3 = 1 ↔ ((∀ a : Int, 0 ≤ a → a < k → irC gl (opV gl gp MG) (laneS gl gp MG) MS cq a) ∧ (opV gl gp MG k ≠ 0 ∨ MS k = 0) ∧ ∀ b : Int, 0 ≤ b → b < j + 1 → irD (opV gl gp MG) (laneS gl gp MG) MS cq k b))) ∧ lv_has ls 7 [(6, zi 0), (5, zi j), (2, zi v), (4, zi 1), (3, zi k), (0, .ref m0), (1, zi cq)] ∧ st9 = [zi v3] ∧ H = s.heap ∧ lc = []) (fun hJ_17 => ?_) ?_
                ·
                  refine lv_iload_n hx hb dX12_isRest_98 rfl (lv_at hl 2 rfl) ?_
                  refine z_if_eq (tgt := 146) hx hb (by omega) dX12_isRest_99 (by decide) (fun c_99 => ?_) (fun c_99 => ?_)
                  ·
                    refine z_iconst hx hb dX12_isRest_146 ?_
                    exact hJ_17 0 _ _ _ _ ⟨⟨by omega, by first | exact ⟨fun _ => ⟨(i3.mp (by omega)).1, (i3.mp (by omega)).2.1, id_s (i3.mp (by omega)).2.2 (fun a b c => by first | omega | (have oo := (i3.mp (by omega)).2.1; omega))⟩, fun _ => rfl⟩ | exact ⟨fun q => absurd q (by decide), fun q => by have := i3.mpr ⟨q.1, q.2.1, fun b b0 b1 => q.2.2 b b0 (by omega)⟩; omega⟩ | exact ⟨fun q => absurd q (by decide), fun q => (by have oo := (i3.mp (by omega)).2.1; have z := q.2.2 j i1.1 (by omega) (by omega) (by omega) (by omega); omega)⟩⟩, lv_sub hl [0, 1, 2, 3, 4, 5, 6] rfl, rfl, rfl, rfl⟩
                  ·
                    refine lv_iload hx hb dX12_isRest_102 (lv_at hl 0 rfl) ?_
                    refine z_if_eq (tgt := 142) hx hb (by omega) dX12_isRest_104 (by decide) (fun c_104 => ?_) (fun c_104 => ?_)
                    ·
                      refine z_iconst hx hb dX12_isRest_142 ?_
                      refine lv_goto (tgt := 147) hx hb dX12_isRest_143 (by decide) ?_
                      exact hJ_17 1 _ _ _ _ ⟨⟨by omega, by first | exact ⟨fun _ => ⟨(i3.mp (by omega)).1, (i3.mp (by omega)).2.1, id_s (i3.mp (by omega)).2.2 (fun a b c => by first | omega | (have oo := (i3.mp (by omega)).2.1; omega))⟩, fun _ => rfl⟩ | exact ⟨fun q => absurd q (by decide), fun q => by have := i3.mpr ⟨q.1, q.2.1, fun b b0 b1 => q.2.2 b b0 (by omega)⟩; omega⟩ | exact ⟨fun q => absurd q (by decide), fun q => (by have oo := (i3.mp (by omega)).2.1; have z := q.2.2 j i1.1 (by omega) (by omega) (by omega) (by omega); omega)⟩⟩, lv_sub hl [0, 1, 2, 3, 4, 5, 6] rfl, rfl, rfl, rfl⟩
                    · exfalso; omega
                ·
                  rintro v3 H lc ls st9 ⟨hj_18, hl, rfl, rfl, rfl⟩
                  have hv3 := hj_18
                  refine lv_istore_n (lv' := [(2, zi v3), (6, zi 0), (5, zi j), (4, zi 1), (3, zi k), (0, .ref m0), (1, zi cq)]) hx hb dX12_isRest_147 rfl hl (by decide) rfl (fun ls hl => ?_)
                  refine z_iinc (k := 2) (lv' := [(5, zi (j + 1)), (2, zi v3), (6, zi 0), (4, zi 1), (3, zi k), (0, .ref m0), (1, zi cq)]) hx hb dX12_isRest_148 hl rfl (by decide) rfl (fun ls hl => ?_)
                  refine lv_goto (tgt := 56) hx hb dX12_isRest_151 (by decide) ?_
                  exact ih56 (v3, j + 1) _ _ _ (by first | (dsimp only; omega) | omega) ⟨⟨by omega, hv3.1, hv3.2⟩, lv_sub hl [0, 1, 3, 4, 5, 6] rfl, rfl, rfl⟩
              ·
                refine z_iconst hx hb dX12_isRest_91 ?_
                refine lv_goto (tgt := 96) hx hb dX12_isRest_92 (by decide) ?_
                refine lv_istore (lv' := [(6, zi 1), (5, zi j), (2, zi v), (4, zi 1), (3, zi k), (0, .ref m0), (1, zi cq)]) hx hb dX12_isRest_96 hl (by decide) rfl (fun ls hl => ?_)
                refine z_cut (σ := Int) 147 (fun v3 H lc ls st9 => ((v3 = 0 ∨ v3 = 1) ∧ (v3 = 1 ↔ ((∀ a : Int, 0 ≤ a → a < k → irC gl (opV gl gp MG) (laneS gl gp MG) MS cq a) ∧ (opV gl gp MG k ≠ 0 ∨ MS k = 0) ∧ ∀ b : Int, 0 ≤ b → b < j + 1 → irD (opV gl gp MG) (laneS gl gp MG) MS cq k b))) ∧ lv_has ls 7 [(6, zi 1), (5, zi j), (2, zi v), (4, zi 1), (3, zi k), (0, .ref m0), (1, zi cq)] ∧ st9 = [zi v3] ∧ H = s.heap ∧ lc = []) (fun hJ_19 => ?_) ?_
                ·
                  refine lv_iload_n hx hb dX12_isRest_98 rfl (lv_at hl 2 rfl) ?_
                  refine z_if_eq (tgt := 146) hx hb (by omega) dX12_isRest_99 (by decide) (fun c_99 => ?_) (fun c_99 => ?_)
                  ·
                    refine z_iconst hx hb dX12_isRest_146 ?_
                    exact hJ_19 0 _ _ _ _ ⟨⟨by omega, by first | exact ⟨fun _ => ⟨(i3.mp (by omega)).1, (i3.mp (by omega)).2.1, id_s (i3.mp (by omega)).2.2 (fun a b c => by first | omega | (have oo := (i3.mp (by omega)).2.1; omega))⟩, fun _ => rfl⟩ | exact ⟨fun q => absurd q (by decide), fun q => by have := i3.mpr ⟨q.1, q.2.1, fun b b0 b1 => q.2.2 b b0 (by omega)⟩; omega⟩ | exact ⟨fun q => absurd q (by decide), fun q => (by have oo := (i3.mp (by omega)).2.1; have z := q.2.2 j i1.1 (by omega) (by omega) (by omega) (by omega); omega)⟩⟩, lv_sub hl [0, 1, 2, 3, 4, 5, 6] rfl, rfl, rfl, rfl⟩
                  ·
                    refine lv_iload hx hb dX12_isRest_102 (lv_at hl 0 rfl) ?_
                    refine z_if_eq (tgt := 142) hx hb (by omega) dX12_isRest_104 (by decide) (fun c_104 => ?_) (fun c_104 => ?_)
                    · exfalso; omega
                    ·
                      refine lv_aload_n hx hb dX12_isRest_107 rfl (lv_at hl 5 rfl) ?_
                      refine lv_iload_n hx hb dX12_isRest_108 rfl (lv_at hl 4 rfl) ?_
                      refine z_pV (As := [zi k]) (rest := []) hC (c_X12_laneTime l D y m0 m_read rl rp m_gut gl gp gx gy m_text tn fn m_boat m_coins vw vm vn m_rest m_ends vc m_chan m_spl fs rn m_rf m_rr m_ik m_km m_kb m_kc m_kf m_kr MG k (by first | assumption | omega) (by first | assumption | omega)) (cwV 1 hts gX12_isRest_X12_laneTime rfl rfl rfl (by decide +kernel) ⟨Nat.le_of_ble_eq_true rfl, Nat.le_of_ble_eq_true rfl⟩) hG (hPr.sub (ws' := [(m0, .inr (11, [.ref m_read, zi rl, zi rp, .ref m_gut, zi gl, zi gp, zi gx, zi gy, .ref m_text, zi tn, zi fn, .ref m_boat, .ref m_coins, zi vw, zi vm, zi vn, .ref m_rest, .ref m_ends, zl vc, .ref m_chan, .ref m_spl, zi fs, zi rn, .ref m_rf, .ref m_rr, .ref m_ik, .ref m_km, .ref m_kb, .ref m_kc, .ref m_kf, .ref m_kr])), (m_gut, .inl (y 0, 36, .inl (cI MG)))]) [0, 1] rfl) 0 rfl rfl rfl hl.1 rfl (Nat.le_of_ble_eq_true rfl) dX12_isRest_109 ⟨Nat.le_of_ble_eq_true rfl, Nat.le_of_ble_eq_true rfl⟩ ?_
                      refine lv_iload_n hx hb dX12_isRest_112 rfl (lv_at hl 6 rfl) ?_
                      refine lv_aload_n hx hb dX12_isRest_113 rfl (lv_at hl 5 rfl) ?_
                      refine va_get hx hb hts hinX12 hown hK hPr 0 rfl rfl 20 (by decide) k3 (fun _ h => h) rfl dX12_isRest_114 ?_
                      refine lv_iload_n hx hb dX12_isRest_117 rfl (lv_at hl 4 rfl) ?_
                      refine z_iald hx hb hK hPr 2 0 rfl rfl (by omega) (by decide) dX12_isRest_118 ?_
                      refine z_iconst hx hb dX12_isRest_119 ?_
                      refine z_isub hx hb dX12_isRest_120 ?_
                      refine z_imul hx hb dX12_isRest_121 ?_
                      refine z_iadd hx hb dX12_isRest_122 ?_
                      refine lv_aload_n hx hb dX12_isRest_123 rfl (lv_at hl 5 rfl) ?_
                      refine lv_iload hx hb dX12_isRest_124 (lv_at hl 1 rfl) ?_
                      refine z_pV (As := [zi j]) (rest := [zi ((mtV gl gp MG k) + (cq * ((MS k) - 1)))]) hC (c_X12_laneTime l D y m0 m_read rl rp m_gut gl gp gx gy m_text tn fn m_boat m_coins vw vm vn m_rest m_ends vc m_chan m_spl fs rn m_rf m_rr m_ik m_km m_kb m_kc m_kf m_kr MG j (by first | assumption | omega) (by first | assumption | omega)) (cwV 1 hts gX12_isRest_X12_laneTime rfl rfl rfl (by decide +kernel) ⟨Nat.le_of_ble_eq_true rfl, Nat.le_of_ble_eq_true rfl⟩) hG (hPr.sub (ws' := [(m0, .inr (11, [.ref m_read, zi rl, zi rp, .ref m_gut, zi gl, zi gp, zi gx, zi gy, .ref m_text, zi tn, zi fn, .ref m_boat, .ref m_coins, zi vw, zi vm, zi vn, .ref m_rest, .ref m_ends, zl vc, .ref m_chan, .ref m_spl, zi fs, zi rn, .ref m_rf, .ref m_rr, .ref m_ik, .ref m_km, .ref m_kb, .ref m_kc, .ref m_kf, .ref m_kr])), (m_gut, .inl (y 0, 36, .inl (cI MG)))]) [0, 1] rfl) 0 rfl rfl rfl hl.1 rfl (Nat.le_of_ble_eq_true rfl) dX12_isRest_126 ⟨Nat.le_of_ble_eq_true rfl, Nat.le_of_ble_eq_true rfl⟩ ?_
                      refine lv_iload_n hx hb dX12_isRest_129 rfl (lv_at hl 6 rfl) ?_
                      refine lv_aload_n hx hb dX12_isRest_130 rfl (lv_at hl 5 rfl) ?_
                      refine va_get hx hb hts hinX12 hown hK hPr 0 rfl rfl 20 (by decide) k3 (fun _ h => h) rfl dX12_isRest_131 ?_
                      refine lv_iload hx hb dX12_isRest_134 (lv_at hl 1 rfl) ?_
                      refine z_iald hx hb hK hPr 2 0 rfl rfl (by omega) (by decide) dX12_isRest_136 ?_
                      refine z_imul hx hb dX12_isRest_137 ?_
                      refine z_iadd hx hb dX12_isRest_138 ?_
                      refine z_icmp_gt (tgt := 146) hx hb (by omega) (by omega) dX12_isRest_139 (by decide) (fun c_139 => ?_) (fun c_139 => ?_)
                      ·
                        refine z_iconst hx hb dX12_isRest_146 ?_
                        exact hJ_19 0 _ _ _ _ ⟨⟨by omega, by first | exact ⟨fun _ => ⟨(i3.mp (by omega)).1, (i3.mp (by omega)).2.1, id_s (i3.mp (by omega)).2.2 (fun a b c => by first | omega | (have oo := (i3.mp (by omega)).2.1; omega))⟩, fun _ => rfl⟩ | exact ⟨fun q => absurd q (by decide), fun q => by have := i3.mpr ⟨q.1, q.2.1, fun b b0 b1 => q.2.2 b b0 (by omega)⟩; omega⟩ | exact ⟨fun q => absurd q (by decide), fun q => (by have oo := (i3.mp (by omega)).2.1; have z := q.2.2 j i1.1 (by omega) (by omega) (by omega) (by omega); omega)⟩⟩, lv_sub hl [0, 1, 2, 3, 4, 5, 6] rfl, rfl, rfl, rfl⟩
                      ·
                        refine z_iconst hx hb dX12_isRest_142 ?_
                        refine lv_goto (tgt := 147) hx hb dX12_isRest_143 (by decide) ?_
                        exact hJ_19 1 _ _ _ _ ⟨⟨by omega, by first | exact ⟨fun _ => ⟨(i3.mp (by omega)).1, (i3.mp (by omega)).2.1, id_s (i3.mp (by omega)).2.2 (fun a b c => by first | omega | (have oo := (i3.mp (by omega)).2.1; omega))⟩, fun _ => rfl⟩ | exact ⟨fun q => absurd q (by decide), fun q => by have := i3.mpr ⟨q.1, q.2.1, fun b b0 b1 => q.2.2 b b0 (by omega)⟩; omega⟩ | exact ⟨fun q => absurd q (by decide), fun q => (by have oo := (i3.mp (by omega)).2.1; have z := q.2.2 j i1.1 (by omega) (by omega) (by omega) (by omega); omega)⟩⟩, lv_sub hl [0, 1, 2, 3, 4, 5, 6] rfl, rfl, rfl, rfl⟩
                ·
                  rintro v3 H lc ls st9 ⟨hj_20, hl, rfl, rfl, rfl⟩
                  have hv3 := hj_20
                  refine lv_istore_n (lv' := [(2, zi v3), (6, zi 1), (5, zi j), (4, zi 1), (3, zi k), (0, .ref m0), (1, zi cq)]) hx hb dX12_isRest_147 rfl hl (by decide) rfl (fun ls hl => ?_)
                  refine z_iinc (k := 2) (lv' := [(5, zi (j + 1)), (2, zi v3), (6, zi 1), (4, zi 1), (3, zi k), (0, .ref m0), (1, zi cq)]) hx hb dX12_isRest_148 hl rfl (by decide) rfl (fun ls hl => ?_)
                  refine lv_goto (tgt := 56) hx hb dX12_isRest_151 (by decide) ?_
                  exact ih56 (v3, j + 1) _ _ _ (by first | (dsimp only; omega) | omega) ⟨⟨by omega, hv3.1, hv3.2⟩, lv_sub hl [0, 1, 3, 4, 5, 6] rfl, rfl, rfl⟩
