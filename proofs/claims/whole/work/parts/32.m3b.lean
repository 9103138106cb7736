set_option maxHeartbeats 8000000 in
set_option maxRecDepth 100000 in
theorem c_X12_over (l : Launch) (D : va_G) (y : Nat → ClassId) (m0 : Nat) (m_read : Nat) (rl : Int) (rp : Int) (m_gut : Nat) (gl : Int) (gp : Int) (gx : Int) (gy : Int) (m_text : Nat) (tn : Int) (fn : Int) (m_boat : Nat) (m_coins : Nat) (vw : Int) (vm : Int) (vn : Int) (m_rest : Nat) (m_ends : Nat) (vc : Int) (m_chan : Nat) (m_spl : Nat) (fs : Int) (rn : Int) (m_rf : Nat) (m_rr : Nat) (m_ik : Nat) (m_km : Nat) (m_kb : Nat) (m_kc : Nat) (m_kf : Nat) (m_kr : Nat) (MG : Int → Int) (MCh : Int → Int) (lf : Int) (pl : Int) (fr : Int) (la : Int) (ts : Int) (hg : gOK gl gp gx gy MG) (hC9 : ∀ la t : Int, 0 ≤ la → la < gl → 0 ≤ t → t < 256 → MCh (1024 * (pl + 1) + 256 * la + t) = chH gl gp gx gy MG lf (gp - (pl + 1)).toNat la t) (hpl : 0 ≤ pl ∧ pl + 1 < gp) (hlf : -9 ≤ lf ∧ lf ≤ 135) (hts : 0 ≤ ts ∧ ts ≤ lf) (hla : -1 ≤ la ∧ la ≤ 3) (hfr : 0 ≤ fr ∧ fr < gl) : Met l yX12_over wsX12_over ({ frames := 2, cells := 0, slots := 0, locals := 46 } : Room) (pPc D y [(m0, .inr (11, [.ref m_read, zi rl, zi rp, .ref m_gut, zi gl, zi gp, zi gx, zi gy, .ref m_text, zi tn, zi fn, .ref m_boat, .ref m_coins, zi vw, zi vm, zi vn, .ref m_rest, .ref m_ends, zl vc, .ref m_chan, .ref m_spl, zi fs, zi rn, .ref m_rf, .ref m_rr, .ref m_ik, .ref m_km, .ref m_kb, .ref m_kc, .ref m_kf, .ref m_kr])), (m_gut, .inl (y 0, 36, .inl (cI MG))), (m_chan, .inl (y 1, 13312, .inr (.inl (cL MCh))))] [.ref m0, zi pl, zi fr, zi la, zi ts]) (qV (zl (ovV gl gp gx gy MG lf pl fr la ts))) 0 0 (fun _ => False) := by
  refine P_of (own := RX12) (cc := cX12_over) (maxL := 6) (ret := some .long) (by decide) rfl rfl (Nat.le_of_ble_eq_true rfl) (fun p e s m below meth c ls hx hb hr hC hlocks hPr hG hl => ?_)
  have hC0 := hC
  obtain ⟨-, -, hml, hown, hts⟩ := hC0
  have hK := hG.1
  have hinX12 : ∀ w ∈ wsX120, w ∈ wsX12_over := fun _ h => List.mem_cons_of_mem _ (List.mem_append_right _ h)
  have k1 := hts (.fieldLink RX12 13 "BoatsOfPaperModel" "gutter" "[I") (List.mem_of_getElem? (i := 1) rfl)
  have k2 := hts (.constantLong RX12 151 (-1)) (List.mem_of_getElem? (i := 2) rfl)
  have k3 := hts (.fieldLink RX12 32 "BoatsOfPaperModel" "chances" "[J") (List.mem_of_getElem? (i := 3) rfl)
  have hl : lv_has ls 6 [(0, .ref m0), (1, zi pl), (2, zi fr), (3, zi la), (4, zi ts)] := hl
  obtain ⟨u1, u2, u3, u4, uk⟩ := id hg
  have ov9 : ∀ t : Int, 0 ≤ la → la < gl → 0 ≤ t → t < 256 → chI gl lf (chH gl gp gx gy MG lf (gp - (pl + 1)).toNat) la t = MCh (1024 * pl + 1024 + 256 * la + t) := fun t a0 a1 t0 t1 => (by
    have q := hC9 la t a0 a1 t0 t1
    rw [show 1024 * (pl + 1) + 256 * la + t = 1024 * pl + 1024 + 256 * la + t by omega] at q
    rw [q]
    unfold chI
    by_cases d : t ≤ lf
    · rw [if_pos (by omega)]
    · rw [if_neg (by omega), chH_late hg (by omega) (by omega) (by omega)])
  refine lv_aload_n hx hb dX12_over_0 rfl (lv_at hl 0 rfl) ?_
  refine lv_iload_n hx hb dX12_over_1 rfl (lv_at hl 3 rfl) ?_
  refine z_pV (As := [zi la]) (rest := []) hC (c_X12_isLane l D y m0 m_read rl rp m_gut gl gp gx gy m_text tn fn m_boat m_coins vw vm vn m_rest m_ends vc m_chan m_spl fs rn m_rf m_rr m_ik m_km m_kb m_kc m_kf m_kr la (by first | assumption | omega) (by first | assumption | omega)) (cwV 1 hts gX12_over_X12_isLane rfl rfl rfl (by decide +kernel) ⟨Nat.le_of_ble_eq_true rfl, Nat.le_of_ble_eq_true rfl⟩) hG (hPr.sub (ws' := [(m0, .inr (11, [.ref m_read, zi rl, zi rp, .ref m_gut, zi gl, zi gp, zi gx, zi gy, .ref m_text, zi tn, zi fn, .ref m_boat, .ref m_coins, zi vw, zi vm, zi vn, .ref m_rest, .ref m_ends, zl vc, .ref m_chan, .ref m_spl, zi fs, zi rn, .ref m_rf, .ref m_rr, .ref m_ik, .ref m_km, .ref m_kb, .ref m_kc, .ref m_kf, .ref m_kr]))]) [0] rfl) 0 rfl rfl rfl hl.1 rfl (Nat.le_of_ble_eq_true rfl) dX12_over_2 ⟨Nat.le_of_ble_eq_true rfl, Nat.le_of_ble_eq_true rfl⟩ ?_
  refine z_ifB_eq (tgt := 31) hx hb dX12_over_5 (by decide) (fun c_5 => ?_) (fun c_5 => ?_)
  ·
    refine lv_ldc2 (v := iL (-1)) hx hb hown k2 dX12_over_31 ?_
    exact z_lret0 hx hb hr hlocks (by unfold ovV; rw [if_pos (by omega)]) dX12_over_34
  ·
    refine lv_iload_n hx hb dX12_over_8 rfl (lv_at hl 3 rfl) ?_
    refine lv_iload_n hx hb dX12_over_9 rfl (lv_at hl 2 rfl) ?_
    refine z_icmp_eq (tgt := 35) hx hb (by omega) (by omega) dX12_over_10 (by decide) (fun c_10 => ?_) (fun c_10 => ?_)
    ·
      refine lv_iload hx hb dX12_over_35 (lv_at hl 4 rfl) ?_
      refine lv_iload_n hx hb dX12_over_37 rfl (lv_at hl 3 rfl) ?_
      refine lv_iload_n hx hb dX12_over_38 rfl (lv_at hl 2 rfl) ?_
      refine z_icmp_ne (tgt := 46) hx hb (by omega) (by omega) dX12_over_39 (by decide) (fun c_39 => ?_) (fun c_39 => ?_)
      ·
        refine z_iconst hx hb dX12_over_46 ?_
        refine z_iadd hx hb dX12_over_47 ?_
        refine lv_istore (lv' := [(5, zi (ts + 1)), (0, .ref m0), (1, zi pl), (2, zi fr), (3, zi la), (4, zi ts)]) hx hb dX12_over_48 hl (by decide) rfl (fun ls hl => ?_)
        refine lv_iload hx hb dX12_over_50 (lv_at hl 0 rfl) ?_
        refine z_sipush hx hb dX12_over_52 (by decide) ?_
        refine z_icmp_le (tgt := 62) hx hb (by omega) (by omega) dX12_over_55 (by decide) (fun c_55 => ?_) (fun c_55 => ?_)
        ·
          refine lv_aload_n hx hb dX12_over_62 rfl (lv_at hl 1 rfl) ?_
          refine va_get hx hb hts hinX12 hown hK hPr 0 rfl rfl 19 (by decide) k3 (fun _ h => h) rfl dX12_over_63 ?_
          refine z_sipush hx hb dX12_over_66 (by decide) ?_
          refine lv_iload_n hx hb dX12_over_69 rfl (lv_at hl 2 rfl) ?_
          refine z_imul hx hb dX12_over_70 ?_
          refine z_sipush hx hb dX12_over_71 (by decide) ?_
          refine z_iadd hx hb dX12_over_74 ?_
          refine z_sipush hx hb dX12_over_75 (by decide) ?_
          refine lv_iload_n hx hb dX12_over_78 rfl (lv_at hl 4 rfl) ?_
          refine z_imul hx hb dX12_over_79 ?_
          refine z_iadd hx hb dX12_over_80 ?_
          refine lv_iload hx hb dX12_over_81 (lv_at hl 0 rfl) ?_
          refine z_iadd hx hb dX12_over_83 ?_
          refine z_lald hx hb hK hPr 2 1 rfl rfl (by omega) (by decide) dX12_over_84 ?_
          exact z_lret0 hx hb hr hlocks (by unfold ovV; rw [if_neg (by omega)]; first | (rw [if_pos (show la = fr by omega)]; exact (ov9 (ts + 0) (by omega) (by omega) (by omega) (by omega)).symm) | (rw [if_neg (show ¬ la = fr by omega)]; exact (ov9 (ts + 1) (by omega) (by omega) (by omega) (by omega)).symm)) dX12_over_85
        · exfalso; omega
      ·
        refine z_iconst hx hb dX12_over_42 ?_
        refine lv_goto (tgt := 47) hx hb dX12_over_43 (by decide) ?_
        refine z_iadd hx hb dX12_over_47 ?_
        refine lv_istore (lv' := [(5, zi (ts + 0)), (0, .ref m0), (1, zi pl), (2, zi fr), (3, zi la), (4, zi ts)]) hx hb dX12_over_48 hl (by decide) rfl (fun ls hl => ?_)
        refine lv_iload hx hb dX12_over_50 (lv_at hl 0 rfl) ?_
        refine z_sipush hx hb dX12_over_52 (by decide) ?_
        refine z_icmp_le (tgt := 62) hx hb (by omega) (by omega) dX12_over_55 (by decide) (fun c_55 => ?_) (fun c_55 => ?_)
        ·
          refine lv_aload_n hx hb dX12_over_62 rfl (lv_at hl 1 rfl) ?_
          refine va_get hx hb hts hinX12 hown hK hPr 0 rfl rfl 19 (by decide) k3 (fun _ h => h) rfl dX12_over_63 ?_
          refine z_sipush hx hb dX12_over_66 (by decide) ?_
          refine lv_iload_n hx hb dX12_over_69 rfl (lv_at hl 2 rfl) ?_
          refine z_imul hx hb dX12_over_70 ?_
          refine z_sipush hx hb dX12_over_71 (by decide) ?_
          refine z_iadd hx hb dX12_over_74 ?_
          refine z_sipush hx hb dX12_over_75 (by decide) ?_
          refine lv_iload_n hx hb dX12_over_78 rfl (lv_at hl 4 rfl) ?_
          refine z_imul hx hb dX12_over_79 ?_
          refine z_iadd hx hb dX12_over_80 ?_
          refine lv_iload hx hb dX12_over_81 (lv_at hl 0 rfl) ?_
          refine z_iadd hx hb dX12_over_83 ?_
          refine z_lald hx hb hK hPr 2 1 rfl rfl (by omega) (by decide) dX12_over_84 ?_
          exact z_lret0 hx hb hr hlocks (by unfold ovV; rw [if_neg (by omega)]; first | (rw [if_pos (show la = fr by omega)]; exact (ov9 (ts + 0) (by omega) (by omega) (by omega) (by omega)).symm) | (rw [if_neg (show ¬ la = fr by omega)]; exact (ov9 (ts + 1) (by omega) (by omega) (by omega) (by omega)).symm)) dX12_over_85
        · exfalso; omega
    ·
      have ek := kAt_in (gl := gl) (gp := gp) (GK := MG) (la := la) (pl := pl + 1) (by omega)
      have ekb := kAt_bd hg (la) (pl + 1)
      rw [← Int.add_assoc] at ek
      refine lv_aload_n hx hb dX12_over_13 rfl (lv_at hl 0 rfl) ?_
      refine va_get hx hb hts hinX12 hown hK hPr 0 rfl rfl 3 (by decide) k1 (fun _ h => h) rfl dX12_over_14 ?_
      refine z_bipush hx hb dX12_over_17 (by decide) ?_
      refine lv_iload_n hx hb dX12_over_19 rfl (lv_at hl 3 rfl) ?_
      refine z_imul hx hb dX12_over_20 ?_
      refine lv_iload_n hx hb dX12_over_21 rfl (lv_at hl 1 rfl) ?_
      refine z_iadd hx hb dX12_over_22 ?_
      refine z_iconst hx hb dX12_over_23 ?_
      refine z_iadd hx hb dX12_over_24 ?_
      refine z_iald hx hb hK hPr 1 0 rfl rfl (by omega) (by decide) dX12_over_25 ?_
      refine z_bipush hx hb dX12_over_26 (by decide) ?_
      refine z_icmp_ne (tgt := 35) hx hb (by omega) (by omega) dX12_over_28 (by decide) (fun c_28 => ?_) (fun c_28 => ?_)
      ·
        refine lv_iload hx hb dX12_over_35 (lv_at hl 4 rfl) ?_
        refine lv_iload_n hx hb dX12_over_37 rfl (lv_at hl 3 rfl) ?_
        refine lv_iload_n hx hb dX12_over_38 rfl (lv_at hl 2 rfl) ?_
        refine z_icmp_ne (tgt := 46) hx hb (by omega) (by omega) dX12_over_39 (by decide) (fun c_39 => ?_) (fun c_39 => ?_)
        ·
          refine z_iconst hx hb dX12_over_46 ?_
          refine z_iadd hx hb dX12_over_47 ?_
          refine lv_istore (lv' := [(5, zi (ts + 1)), (0, .ref m0), (1, zi pl), (2, zi fr), (3, zi la), (4, zi ts)]) hx hb dX12_over_48 hl (by decide) rfl (fun ls hl => ?_)
          refine lv_iload hx hb dX12_over_50 (lv_at hl 0 rfl) ?_
          refine z_sipush hx hb dX12_over_52 (by decide) ?_
          refine z_icmp_le (tgt := 62) hx hb (by omega) (by omega) dX12_over_55 (by decide) (fun c_55 => ?_) (fun c_55 => ?_)
          ·
            refine lv_aload_n hx hb dX12_over_62 rfl (lv_at hl 1 rfl) ?_
            refine va_get hx hb hts hinX12 hown hK hPr 0 rfl rfl 19 (by decide) k3 (fun _ h => h) rfl dX12_over_63 ?_
            refine z_sipush hx hb dX12_over_66 (by decide) ?_
            refine lv_iload_n hx hb dX12_over_69 rfl (lv_at hl 2 rfl) ?_
            refine z_imul hx hb dX12_over_70 ?_
            refine z_sipush hx hb dX12_over_71 (by decide) ?_
            refine z_iadd hx hb dX12_over_74 ?_
            refine z_sipush hx hb dX12_over_75 (by decide) ?_
            refine lv_iload_n hx hb dX12_over_78 rfl (lv_at hl 4 rfl) ?_
            refine z_imul hx hb dX12_over_79 ?_
            refine z_iadd hx hb dX12_over_80 ?_
            refine lv_iload hx hb dX12_over_81 (lv_at hl 0 rfl) ?_
            refine z_iadd hx hb dX12_over_83 ?_
            refine z_lald hx hb hK hPr 2 1 rfl rfl (by omega) (by decide) dX12_over_84 ?_
            exact z_lret0 hx hb hr hlocks (by unfold ovV; rw [if_neg (by omega)]; first | (rw [if_pos (show la = fr by omega)]; exact (ov9 (ts + 0) (by omega) (by omega) (by omega) (by omega)).symm) | (rw [if_neg (show ¬ la = fr by omega)]; exact (ov9 (ts + 1) (by omega) (by omega) (by omega) (by omega)).symm)) dX12_over_85
          · exfalso; omega
        ·
          refine z_iconst hx hb dX12_over_42 ?_
          refine lv_goto (tgt := 47) hx hb dX12_over_43 (by decide) ?_
          refine z_iadd hx hb dX12_over_47 ?_
          refine lv_istore (lv' := [(5, zi (ts + 0)), (0, .ref m0), (1, zi pl), (2, zi fr), (3, zi la), (4, zi ts)]) hx hb dX12_over_48 hl (by decide) rfl (fun ls hl => ?_)
          refine lv_iload hx hb dX12_over_50 (lv_at hl 0 rfl) ?_
          refine z_sipush hx hb dX12_over_52 (by decide) ?_
          refine z_icmp_le (tgt := 62) hx hb (by omega) (by omega) dX12_over_55 (by decide) (fun c_55 => ?_) (fun c_55 => ?_)
          ·
            refine lv_aload_n hx hb dX12_over_62 rfl (lv_at hl 1 rfl) ?_
            refine va_get hx hb hts hinX12 hown hK hPr 0 rfl rfl 19 (by decide) k3 (fun _ h => h) rfl dX12_over_63 ?_
            refine z_sipush hx hb dX12_over_66 (by decide) ?_
            refine lv_iload_n hx hb dX12_over_69 rfl (lv_at hl 2 rfl) ?_
            refine z_imul hx hb dX12_over_70 ?_
            refine z_sipush hx hb dX12_over_71 (by decide) ?_
            refine z_iadd hx hb dX12_over_74 ?_
            refine z_sipush hx hb dX12_over_75 (by decide) ?_
            refine lv_iload_n hx hb dX12_over_78 rfl (lv_at hl 4 rfl) ?_
            refine z_imul hx hb dX12_over_79 ?_
            refine z_iadd hx hb dX12_over_80 ?_
            refine lv_iload hx hb dX12_over_81 (lv_at hl 0 rfl) ?_
            refine z_iadd hx hb dX12_over_83 ?_
            refine z_lald hx hb hK hPr 2 1 rfl rfl (by omega) (by decide) dX12_over_84 ?_
            exact z_lret0 hx hb hr hlocks (by unfold ovV; rw [if_neg (by omega)]; first | (rw [if_pos (show la = fr by omega)]; exact (ov9 (ts + 0) (by omega) (by omega) (by omega) (by omega)).symm) | (rw [if_neg (show ¬ la = fr by omega)]; exact (ov9 (ts + 1) (by omega) (by omega) (by omega) (by omega)).symm)) dX12_over_85
          · exfalso; omega
      ·
        refine lv_ldc2 (v := iL (-1)) hx hb hown k2 dX12_over_31 ?_
        exact z_lret0 hx hb hr hlocks (by unfold ovV; rw [if_pos (by omega)]) dX12_over_34
set_option maxHeartbeats 8000000 in
set_option maxRecDepth 100000 in
theorem c_X12_bestOver (l : Launch) (D : va_G) (y : Nat → ClassId) (m0 : Nat) (m_read : Nat) (rl : Int) (rp : Int) (m_gut : Nat) (gl : Int) (gp : Int) (gx : Int) (gy : Int) (m_text : Nat) (tn : Int) (fn : Int) (m_boat : Nat) (m_coins : Nat) (vw : Int) (vm : Int) (vn : Int) (m_rest : Nat) (m_ends : Nat) (vc : Int) (m_chan : Nat) (m_spl : Nat) (fs : Int) (rn : Int) (m_rf : Nat) (m_rr : Nat) (m_ik : Nat) (m_km : Nat) (m_kb : Nat) (m_kc : Nat) (m_kf : Nat) (m_kr : Nat) (MG : Int → Int) (MCh : Int → Int) (lf : Int) (pl : Int) (la : Int) (ts : Int) (hg : gOK gl gp gx gy MG) (hC9 : ∀ la t : Int, 0 ≤ la → la < gl → 0 ≤ t → t < 256 → MCh (1024 * (pl + 1) + 256 * la + t) = chH gl gp gx gy MG lf (gp - (pl + 1)).toNat la t) (hpl : 0 ≤ pl ∧ pl + 1 < gp) (hlf : -9 ≤ lf ∧ lf ≤ 135) (hts : 0 ≤ ts ∧ ts ≤ lf) (hla : 0 ≤ la ∧ la < gl) : Met l yX12_bestOver wsX12_bestOver ({ frames := 3, cells := 0, slots := 0, locals := 71 } : Room) (pPc D y [(m0, .inr (11, [.ref m_read, zi rl, zi rp, .ref m_gut, zi gl, zi gp, zi gx, zi gy, .ref m_text, zi tn, zi fn, .ref m_boat, .ref m_coins, zi vw, zi vm, zi vn, .ref m_rest, .ref m_ends, zl vc, .ref m_chan, .ref m_spl, zi fs, zi rn, .ref m_rf, .ref m_rr, .ref m_ik, .ref m_km, .ref m_kb, .ref m_kc, .ref m_kf, .ref m_kr])), (m_gut, .inl (y 0, 36, .inl (cI MG))), (m_chan, .inl (y 1, 13312, .inr (.inl (cL MCh))))] [.ref m0, zi pl, zi la, zi ts]) (qV (zl (ovM gl gp gx gy MG lf pl la ts))) 0 0 (fun _ => False) := by
  refine P_of (own := RX12) (cc := cX12_bestOver) (maxL := 12) (ret := some .long) (by decide) rfl rfl (Nat.le_of_ble_eq_true rfl) (fun p e s m below meth c ls hx hb hr hC hlocks hPr hG hl => ?_)
  have hC0 := hC
  obtain ⟨-, -, hml, hown, hts⟩ := hC0
  have hK := hG.1
  have hl : lv_has ls 12 [(0, .ref m0), (1, zi pl), (2, zi la), (3, zi ts)] := hl
  obtain ⟨u1, u2, u3, u4, uk⟩ := id hg
  have x1 := ov_own (gl := gl) (gp := gp) (gx := gx) (gy := gy) (GK := MG) (lf := lf) (pl := pl) (la := la) (s := ts) (by omega)
  have x2 := ov_oth (gl := gl) (gp := gp) (gx := gx) (gy := gy) (GK := MG) (lf := lf) (pl := pl) (fr := la) (la := la - 1) (s := ts) (by omega) (by omega) (by omega)
  have x3 := ov_oth (gl := gl) (gp := gp) (gx := gx) (gy := gy) (GK := MG) (lf := lf) (pl := pl) (fr := la) (la := la + 1) (s := ts) (by omega) (by omega) (by omega)
  have y1 := chI_bdH hg lf (r := (gp - (pl + 1)).toNat) (by omega) la ts
  have y2 := chI_bdH hg lf (r := (gp - (pl + 1)).toNat) (by omega) (la - 1) (ts + 1)
  have y3 := chI_bdH hg lf (r := (gp - (pl + 1)).toNat) (by omega) (la + 1) (ts + 1)
  refine lv_aload_n hx hb dX12_bestOver_0 rfl (lv_at hl 0 rfl) ?_
  refine lv_iload_n hx hb dX12_bestOver_1 rfl (lv_at hl 1 rfl) ?_
  refine lv_iload_n hx hb dX12_bestOver_2 rfl (lv_at hl 2 rfl) ?_
  refine lv_iload_n hx hb dX12_bestOver_3 rfl (lv_at hl 2 rfl) ?_
  refine lv_iload_n hx hb dX12_bestOver_4 rfl (lv_at hl 3 rfl) ?_
  refine z_pV (As := [zi pl, zi la, zi la, zi ts]) (rest := []) hC (c_X12_over l D y m0 m_read rl rp m_gut gl gp gx gy m_text tn fn m_boat m_coins vw vm vn m_rest m_ends vc m_chan m_spl fs rn m_rf m_rr m_ik m_km m_kb m_kc m_kf m_kr MG MCh lf pl la la ts (by first | assumption | omega) (by first | assumption | omega) (by first | assumption | omega) (by first | assumption | omega) (by first | assumption | omega) (by first | assumption | omega) (by first | assumption | omega)) (cwV 4 hts gX12_bestOver_X12_over rfl rfl rfl (by decide +kernel) ⟨Nat.le_of_ble_eq_true rfl, Nat.le_of_ble_eq_true rfl⟩) hG (hPr.sub (ws' := [(m0, .inr (11, [.ref m_read, zi rl, zi rp, .ref m_gut, zi gl, zi gp, zi gx, zi gy, .ref m_text, zi tn, zi fn, .ref m_boat, .ref m_coins, zi vw, zi vm, zi vn, .ref m_rest, .ref m_ends, zl vc, .ref m_chan, .ref m_spl, zi fs, zi rn, .ref m_rf, .ref m_rr, .ref m_ik, .ref m_km, .ref m_kb, .ref m_kc, .ref m_kf, .ref m_kr])), (m_gut, .inl (y 0, 36, .inl (cI MG))), (m_chan, .inl (y 1, 13312, .inr (.inl (cL MCh))))]) [0, 1, 2] rfl) 0 rfl rfl rfl hl.1 rfl (Nat.le_of_ble_eq_true rfl) dX12_bestOver_5 ⟨Nat.le_of_ble_eq_true rfl, Nat.le_of_ble_eq_true rfl⟩ ?_
  refine lv_lstore (lv' := [(4, zl (ovV gl gp gx gy MG lf pl la la ts)), (0, .ref m0), (1, zi pl), (2, zi la), (3, zi ts)]) hx hb dX12_bestOver_8 hl (by decide) rfl (fun ls hl => ?_)
  refine lv_aload_n hx hb dX12_bestOver_10 rfl (lv_at hl 1 rfl) ?_
  refine lv_iload_n hx hb dX12_bestOver_11 rfl (lv_at hl 2 rfl) ?_
  refine lv_iload_n hx hb dX12_bestOver_12 rfl (lv_at hl 3 rfl) ?_
  refine lv_iload_n hx hb dX12_bestOver_13 rfl (lv_at hl 3 rfl) ?_
  refine z_iconst hx hb dX12_bestOver_14 ?_
  refine z_isub hx hb dX12_bestOver_15 ?_
  refine lv_iload_n hx hb dX12_bestOver_16 rfl (lv_at hl 4 rfl) ?_
  refine z_pV (As := [zi pl, zi la, zi (la - 1), zi ts]) (rest := []) hC (c_X12_over l D y m0 m_read rl rp m_gut gl gp gx gy m_text tn fn m_boat m_coins vw vm vn m_rest m_ends vc m_chan m_spl fs rn m_rf m_rr m_ik m_km m_kb m_kc m_kf m_kr MG MCh lf pl la (la - 1) ts (by first | assumption | omega) (by first | assumption | omega) (by first | assumption | omega) (by first | assumption | omega) (by first | assumption | omega) (by first | assumption | omega) (by first | assumption | omega)) (cwV 4 hts gX12_bestOver_X12_over rfl rfl rfl (by decide +kernel) ⟨Nat.le_of_ble_eq_true rfl, Nat.le_of_ble_eq_true rfl⟩) hG (hPr.sub (ws' := [(m0, .inr (11, [.ref m_read, zi rl, zi rp, .ref m_gut, zi gl, zi gp, zi gx, zi gy, .ref m_text, zi tn, zi fn, .ref m_boat, .ref m_coins, zi vw, zi vm, zi vn, .ref m_rest, .ref m_ends, zl vc, .ref m_chan, .ref m_spl, zi fs, zi rn, .ref m_rf, .ref m_rr, .ref m_ik, .ref m_km, .ref m_kb, .ref m_kc, .ref m_kf, .ref m_kr])), (m_gut, .inl (y 0, 36, .inl (cI MG))), (m_chan, .inl (y 1, 13312, .inr (.inl (cL MCh))))]) [0, 1, 2] rfl) 0 rfl rfl rfl hl.1 rfl (Nat.le_of_ble_eq_true rfl) dX12_bestOver_17 ⟨Nat.le_of_ble_eq_true rfl, Nat.le_of_ble_eq_true rfl⟩ ?_
  refine lv_lstore (lv' := [(6, zl (ovV gl gp gx gy MG lf pl la (la - 1) ts)), (4, zl (ovV gl gp gx gy MG lf pl la la ts)), (0, .ref m0), (1, zi pl), (2, zi la), (3, zi ts)]) hx hb dX12_bestOver_20 hl (by decide) rfl (fun ls hl => ?_)
  refine lv_aload_n hx hb dX12_bestOver_22 rfl (lv_at hl 2 rfl) ?_
  refine lv_iload_n hx hb dX12_bestOver_23 rfl (lv_at hl 3 rfl) ?_
  refine lv_iload_n hx hb dX12_bestOver_24 rfl (lv_at hl 4 rfl) ?_
  refine lv_iload_n hx hb dX12_bestOver_25 rfl (lv_at hl 4 rfl) ?_
  refine z_iconst hx hb dX12_bestOver_26 ?_
  refine z_iadd hx hb dX12_bestOver_27 ?_
  refine lv_iload_n hx hb dX12_bestOver_28 rfl (lv_at hl 5 rfl) ?_
  refine z_pV (As := [zi pl, zi la, zi (la + 1), zi ts]) (rest := []) hC (c_X12_over l D y m0 m_read rl rp m_gut gl gp gx gy m_text tn fn m_boat m_coins vw vm vn m_rest m_ends vc m_chan m_spl fs rn m_rf m_rr m_ik m_km m_kb m_kc m_kf m_kr MG MCh lf pl la (la + 1) ts (by first | assumption | omega) (by first | assumption | omega) (by first | assumption | omega) (by first | assumption | omega) (by first | assumption | omega) (by first | assumption | omega) (by first | assumption | omega)) (cwV 4 hts gX12_bestOver_X12_over rfl rfl rfl (by decide +kernel) ⟨Nat.le_of_ble_eq_true rfl, Nat.le_of_ble_eq_true rfl⟩) hG (hPr.sub (ws' := [(m0, .inr (11, [.ref m_read, zi rl, zi rp, .ref m_gut, zi gl, zi gp, zi gx, zi gy, .ref m_text, zi tn, zi fn, .ref m_boat, .ref m_coins, zi vw, zi vm, zi vn, .ref m_rest, .ref m_ends, zl vc, .ref m_chan, .ref m_spl, zi fs, zi rn, .ref m_rf, .ref m_rr, .ref m_ik, .ref m_km, .ref m_kb, .ref m_kc, .ref m_kf, .ref m_kr])), (m_gut, .inl (y 0, 36, .inl (cI MG))), (m_chan, .inl (y 1, 13312, .inr (.inl (cL MCh))))]) [0, 1, 2] rfl) 0 rfl rfl rfl hl.1 rfl (Nat.le_of_ble_eq_true rfl) dX12_bestOver_29 ⟨Nat.le_of_ble_eq_true rfl, Nat.le_of_ble_eq_true rfl⟩ ?_
  refine lv_lstore (lv' := [(8, zl (ovV gl gp gx gy MG lf pl la (la + 1) ts)), (6, zl (ovV gl gp gx gy MG lf pl la (la - 1) ts)), (4, zl (ovV gl gp gx gy MG lf pl la la ts)), (0, .ref m0), (1, zi pl), (2, zi la), (3, zi ts)]) hx hb dX12_bestOver_32 hl (by decide) rfl (fun ls hl => ?_)
  refine lv_lload hx hb dX12_bestOver_34 (lv_at hl 1 rfl) ?_
  refine lv_lload hx hb dX12_bestOver_36 (lv_at hl 2 rfl) ?_
  refine z_lcmp_le (tgt := 47) hx hb (by omega) (by omega) dX12_bestOver_38 dX12_bestOver_39 (by decide) (fun c_38 => ?_) (fun c_38 => ?_)
  ·
    refine lv_lload hx hb dX12_bestOver_47 (lv_at hl 2 rfl) ?_
    refine lv_lstore (lv' := [(10, zl (ovV gl gp gx gy MG lf pl la la ts)), (8, zl (ovV gl gp gx gy MG lf pl la (la + 1) ts)), (6, zl (ovV gl gp gx gy MG lf pl la (la - 1) ts)), (4, zl (ovV gl gp gx gy MG lf pl la la ts)), (0, .ref m0), (1, zi pl), (2, zi la), (3, zi ts)]) hx hb dX12_bestOver_49 hl (by decide) rfl (fun ls hl => ?_)
    refine lv_lload hx hb dX12_bestOver_51 (lv_at hl 1 rfl) ?_
    refine lv_lload hx hb dX12_bestOver_53 (lv_at hl 0 rfl) ?_
    refine z_lcmp_le (tgt := 64) hx hb (by omega) (by omega) dX12_bestOver_55 dX12_bestOver_56 (by decide) (fun c_55 => ?_) (fun c_55 => ?_)
    ·
      refine lv_lload hx hb dX12_bestOver_64 (lv_at hl 0 rfl) ?_
      exact z_lret0 hx hb hr hlocks (by unfold ovM; omega) dX12_bestOver_66
    ·
      refine lv_lload hx hb dX12_bestOver_59 (lv_at hl 1 rfl) ?_
      refine lv_goto (tgt := 66) hx hb dX12_bestOver_61 (by decide) ?_
      exact z_lret0 hx hb hr hlocks (by unfold ovM; omega) dX12_bestOver_66
  ·
    refine lv_lload hx hb dX12_bestOver_42 (lv_at hl 1 rfl) ?_
    refine lv_goto (tgt := 49) hx hb dX12_bestOver_44 (by decide) ?_
    refine lv_lstore (lv' := [(10, zl (ovV gl gp gx gy MG lf pl la (la - 1) ts)), (8, zl (ovV gl gp gx gy MG lf pl la (la + 1) ts)), (6, zl (ovV gl gp gx gy MG lf pl la (la - 1) ts)), (4, zl (ovV gl gp gx gy MG lf pl la la ts)), (0, .ref m0), (1, zi pl), (2, zi la), (3, zi ts)]) hx hb dX12_bestOver_49 hl (by decide) rfl (fun ls hl => ?_)
    refine lv_lload hx hb dX12_bestOver_51 (lv_at hl 1 rfl) ?_
    refine lv_lload hx hb dX12_bestOver_53 (lv_at hl 0 rfl) ?_
    refine z_lcmp_le (tgt := 64) hx hb (by omega) (by omega) dX12_bestOver_55 dX12_bestOver_56 (by decide) (fun c_55 => ?_) (fun c_55 => ?_)
    ·
      refine lv_lload hx hb dX12_bestOver_64 (lv_at hl 0 rfl) ?_
      exact z_lret0 hx hb hr hlocks (by unfold ovM; omega) dX12_bestOver_66
    ·
      refine lv_lload hx hb dX12_bestOver_59 (lv_at hl 1 rfl) ?_
      refine lv_goto (tgt := 66) hx hb dX12_bestOver_61 (by decide) ?_
      exact z_lret0 hx hb hr hlocks (by unfold ovM; omega) dX12_bestOver_66
set_option maxHeartbeats 8000000 in
set_option maxRecDepth 100000 in
theorem c_X12_layHome (l : Launch) (D : va_G) (y : Nat → ClassId) (m0 : Nat) (m_read : Nat) (rl : Int) (rp : Int) (m_gut : Nat) (gl : Int) (gp : Int) (gx : Int) (gy : Int) (m_text : Nat) (tn : Int) (fn : Int) (m_boat : Nat) (m_coins : Nat) (vw : Int) (vm : Int) (vn : Int) (m_rest : Nat) (m_ends : Nat) (vc : Int) (m_chan : Nat) (m_spl : Nat) (fs : Int) (rn : Int) (m_rf : Nat) (m_rr : Nat) (m_ik : Nat) (m_km : Nat) (m_kb : Nat) (m_kc : Nat) (m_kf : Nat) (m_kr : Nat) (MG : Int → Int) (MCh : Int → Int) (lf : Int) (hg : gOK gl gp gx gy MG) (hlf : -9 ≤ lf ∧ lf ≤ 135) (sz : Nat) : Met l yX12_layHome wsX12_layHome ({ frames := 4, cells := 0, slots := 0, locals := 102 } : Room) (wPc D y [] [(m0, .inr (11, [.ref m_read, zi rl, zi rp, .ref m_gut, zi gl, zi gp, zi gx, zi gy, .ref m_text, zi tn, zi fn, .ref m_boat, .ref m_coins, zi vw, zi vm, zi vn, .ref m_rest, .ref m_ends, zl vc, .ref m_chan, .ref m_spl, zi fs, zi rn, .ref m_rf, .ref m_rr, .ref m_ik, .ref m_km, .ref m_kb, .ref m_kc, .ref m_kf, .ref m_kr])), (m_gut, .inl (y 0, 36, .inl (cI MG))), (m_chan, .inl (y 1, 13312, .inr (.inl (cL MCh))))] sz [.ref m0, zi lf]) (wQ D (fun (MCh2 : (Int → Int)) => none) (fun (MCh2 : (Int → Int)) => ∀ p la t : Int, 0 ≤ p → p < gp → 0 ≤ la → la < gl → 0 ≤ t → t < 256 → MCh2 (1024 * p + 256 * la + t) = chH gl gp gx gy MG lf (gp - p).toNat la t) (fun (MCh2 : (Int → Int)) => [(m0, .inr (11, [.ref m_read, zi rl, zi rp, .ref m_gut, zi gl, zi gp, zi gx, zi gy, .ref m_text, zi tn, zi fn, .ref m_boat, .ref m_coins, zi vw, zi vm, zi vn, .ref m_rest, .ref m_ends, zl vc, .ref m_chan, .ref m_spl, zi fs, zi rn, .ref m_rf, .ref m_rr, .ref m_ik, .ref m_km, .ref m_kb, .ref m_kc, .ref m_kf, .ref m_kr])), (m_gut, .inl (y 0, 36, .inl (cI MG))), (m_chan, .inl (y 1, 13312, .inr (.inl (cL MCh2))))]) (va_A [(m0, .inr (11, [.ref m_read, zi rl, zi rp, .ref m_gut, zi gl, zi gp, zi gx, zi gy, .ref m_text, zi tn, zi fn, .ref m_boat, .ref m_coins, zi vw, zi vm, zi vn, .ref m_rest, .ref m_ends, zl vc, .ref m_chan, .ref m_spl, zi fs, zi rn, .ref m_rf, .ref m_rr, .ref m_ik, .ref m_km, .ref m_kb, .ref m_kc, .ref m_kf, .ref m_kr])), (m_gut, .inl (y 0, 36, .inl (cI MG))), (m_chan, .inl (y 1, 13312, .inr (.inl (cL MCh))))] sz)) 0 0 (va_A [(m0, .inr (11, [.ref m_read, zi rl, zi rp, .ref m_gut, zi gl, zi gp, zi gx, zi gy, .ref m_text, zi tn, zi fn, .ref m_boat, .ref m_coins, zi vw, zi vm, zi vn, .ref m_rest, .ref m_ends, zl vc, .ref m_chan, .ref m_spl, zi fs, zi rn, .ref m_rf, .ref m_rr, .ref m_ik, .ref m_km, .ref m_kb, .ref m_kc, .ref m_kf, .ref m_kr])), (m_gut, .inl (y 0, 36, .inl (cI MG))), (m_chan, .inl (y 1, 13312, .inr (.inl (cL MCh))))] sz) := by
  refine W_of (own := RX12) (cc := cX12_layHome) (maxL := 9) (ret := none) (by decide) rfl rfl (Nat.le_of_ble_eq_true rfl) (fun p e s m below meth c ls A hx hb hr hC hlocks hin0 hR0 hN hP hD hA hG hl => ?_)
  have hC0 := hC
  obtain ⟨-, -, hml, hown, hts⟩ := hC0
  have hK := hG.1
  have hS : va_S A s.heap s.heap [] := va_S.rf
  have hPr := hR0
  have hinX12 : ∀ w ∈ wsX120, w ∈ wsX12_layHome := fun _ h => List.mem_cons_of_mem _ (List.mem_append_right _ h)
  have k1 := hts (.fieldLink RX12 67 "BoatsOfPaperModel" "places" "I") (List.mem_of_getElem? (i := 1) rfl)
  have k2 := hts (.fieldLink RX12 63 "BoatsOfPaperModel" "lanes" "I") (List.mem_of_getElem? (i := 2) rfl)
  have k3 := hts (.fieldLink RX12 13 "BoatsOfPaperModel" "gutter" "[I") (List.mem_of_getElem? (i := 3) rfl)
  have k4 := hts (.fieldLink RX12 32 "BoatsOfPaperModel" "chances" "[J") (List.mem_of_getElem? (i := 4) rfl)
  have hl : lv_has ls 9 [(0, .ref m0), (1, zi lf)] := hl
  obtain ⟨u1, u2, u3, u4, uk⟩ := id hg
  refine lv_aload_n hx hb dX12_layHome_0 rfl (lv_at hl 0 rfl) ?_
  refine va_get hx hb hts hinX12 hown hK hP 0 rfl rfl 5 (by decide) k1 (fun _ h => h) rfl dX12_layHome_1 ?_
  refine z_iconst hx hb dX12_layHome_4 ?_
  refine z_isub hx hb dX12_layHome_5 ?_
  refine lv_istore_n (lv' := [(2, zi (gp - 1)), (0, .ref m0), (1, zi lf)]) hx hb dX12_layHome_6 rfl hl (by decide) rfl (fun ls hl => ?_)
  refine z_loop (σ := Int × (Int → Int)) (fun x9 H lc ls => match x9 with | (k, C1) => ((-1 ≤ k ∧ k ≤ gp - 1) ∧ chDone gl gp gx gy MG lf C1 k 0 0) ∧ lv_has ls 9 [(2, zi k), (0, .ref m0), (1, zi lf)] ∧ va_P D vwCl [(m0, .inr (11, [.ref m_read, zi rl, zi rp, .ref m_gut, zi gl, zi gp, zi gx, zi gy, .ref m_text, zi tn, zi fn, .ref m_boat, .ref m_coins, zi vw, zi vm, zi vn, .ref m_rest, .ref m_ends, zl vc, .ref m_chan, .ref m_spl, zi fs, zi rn, .ref m_rf, .ref m_rr, .ref m_ik, .ref m_km, .ref m_kb, .ref m_kc, .ref m_kf, .ref m_kr])), (m_gut, .inl (y 0, 36, .inl (cI MG))), (m_chan, .inl (y 1, 13312, .inr (.inl (cL C1))))] H ∧ va_D A [(m0, .inr (11, [.ref m_read, zi rl, zi rp, .ref m_gut, zi gl, zi gp, zi gx, zi gy, .ref m_text, zi tn, zi fn, .ref m_boat, .ref m_coins, zi vw, zi vm, zi vn, .ref m_rest, .ref m_ends, zl vc, .ref m_chan, .ref m_spl, zi fs, zi rn, .ref m_rf, .ref m_rr, .ref m_ik, .ref m_km, .ref m_kb, .ref m_kc, .ref m_kf, .ref m_kr])), (m_gut, .inl (y 0, 36, .inl (cI MG))), (m_chan, .inl (y 1, 13312, .inr (.inl (cL C1))))] ∧ va_S A s.heap H lc) (fun x9  => match x9 with | (k, C1) => ((k + 1).toNat)) ?_ (gp - 1, MCh) ⟨⟨by omega, cd_0⟩, lv_sub hl [0, 1, 2] rfl, hP.sub [0, 1, 2] rfl, hD.sub [0, 1, 2] (by decide) rfl, hS⟩
  rintro ⟨k, C1⟩ H lc ls ⟨hi7, hl, hP, hD, hS⟩ ih7
  have hP : va_P D vwCl [(m0, .inr (11, [.ref m_read, zi rl, zi rp, .ref m_gut, zi gl, zi gp, zi gx, zi gy, .ref m_text, zi tn, zi fn, .ref m_boat, .ref m_coins, zi vw, zi vm, zi vn, .ref m_rest, .ref m_ends, zl vc, .ref m_chan, .ref m_spl, zi fs, zi rn, .ref m_rf, .ref m_rr, .ref m_ik, .ref m_km, .ref m_kb, .ref m_kc, .ref m_kf, .ref m_kr])), (m_gut, .inl (y 0, 36, .inl (cI MG))), (m_chan, .inl (y 1, 13312, .inr (.inl (cL C1))))] H := hP
  have hD : va_D A [(m0, .inr (11, [.ref m_read, zi rl, zi rp, .ref m_gut, zi gl, zi gp, zi gx, zi gy, .ref m_text, zi tn, zi fn, .ref m_boat, .ref m_coins, zi vw, zi vm, zi vn, .ref m_rest, .ref m_ends, zl vc, .ref m_chan, .ref m_spl, zi fs, zi rn, .ref m_rf, .ref m_rr, .ref m_ik, .ref m_km, .ref m_kb, .ref m_kc, .ref m_kf, .ref m_kr])), (m_gut, .inl (y 0, 36, .inl (cI MG))), (m_chan, .inl (y 1, 13312, .inr (.inl (cL C1))))] := hD
  refine lv_iload_n hx hb dX12_layHome_7 rfl (lv_at hl 0 rfl) ?_
  refine z_if_lt (tgt := 144) hx hb (by omega) dX12_layHome_8 (by decide) (fun c_8 => ?_) (fun c_8 => ?_)
  ·
    exact z_vretW hx hb hr hlocks C1 rfl (by rw [show k = -1 by omega] at hi7; exact fun p la t h0 h1 h2 h3 h4 h5 => hi7.2 p la t (by omega) h1 h2 h3 h4 h5 (by omega)) (hP.sub [0, 1, 2] rfl) (hD.sub [0, 1, 2] (by decide) rfl) hS dX12_layHome_144
  ·
    refine z_iconst hx hb dX12_layHome_11 ?_
    refine lv_istore_n (lv' := [(3, zi 0), (2, zi k), (0, .ref m0), (1, zi lf)]) hx hb dX12_layHome_12 rfl hl (by decide) rfl (fun ls hl => ?_)
    refine z_loop (σ := Int × (Int → Int)) (fun x9 H lc ls => match x9 with | (j, C1) => ((0 ≤ j ∧ j ≤ gl) ∧ chDone gl gp gx gy MG lf C1 k j 0) ∧ lv_has ls 9 [(3, zi j), (2, zi k), (0, .ref m0), (1, zi lf)] ∧ va_P D vwCl [(m0, .inr (11, [.ref m_read, zi rl, zi rp, .ref m_gut, zi gl, zi gp, zi gx, zi gy, .ref m_text, zi tn, zi fn, .ref m_boat, .ref m_coins, zi vw, zi vm, zi vn, .ref m_rest, .ref m_ends, zl vc, .ref m_chan, .ref m_spl, zi fs, zi rn, .ref m_rf, .ref m_rr, .ref m_ik, .ref m_km, .ref m_kb, .ref m_kc, .ref m_kf, .ref m_kr])), (m_gut, .inl (y 0, 36, .inl (cI MG))), (m_chan, .inl (y 1, 13312, .inr (.inl (cL C1))))] H ∧ va_D A [(m0, .inr (11, [.ref m_read, zi rl, zi rp, .ref m_gut, zi gl, zi gp, zi gx, zi gy, .ref m_text, zi tn, zi fn, .ref m_boat, .ref m_coins, zi vw, zi vm, zi vn, .ref m_rest, .ref m_ends, zl vc, .ref m_chan, .ref m_spl, zi fs, zi rn, .ref m_rf, .ref m_rr, .ref m_ik, .ref m_km, .ref m_kb, .ref m_kc, .ref m_kf, .ref m_kr])), (m_gut, .inl (y 0, 36, .inl (cI MG))), (m_chan, .inl (y 1, 13312, .inr (.inl (cL C1))))] ∧ va_S A s.heap H lc) (fun x9  => match x9 with | (j, C1) => ((gl - j).toNat)) ?_ (0, C1) ⟨⟨by omega, hi7.2⟩, lv_sub hl [0, 1, 2, 3] rfl, hP.sub [0, 1, 2] rfl, hD.sub [0, 1, 2] (by decide) rfl, hS⟩
    rintro ⟨j, C1⟩ H lc ls ⟨hi13, hl, hP, hD, hS⟩ ih13
    have hP : va_P D vwCl [(m0, .inr (11, [.ref m_read, zi rl, zi rp, .ref m_gut, zi gl, zi gp, zi gx, zi gy, .ref m_text, zi tn, zi fn, .ref m_boat, .ref m_coins, zi vw, zi vm, zi vn, .ref m_rest, .ref m_ends, zl vc, .ref m_chan, .ref m_spl, zi fs, zi rn, .ref m_rf, .ref m_rr, .ref m_ik, .ref m_km, .ref m_kb, .ref m_kc, .ref m_kf, .ref m_kr])), (m_gut, .inl (y 0, 36, .inl (cI MG))), (m_chan, .inl (y 1, 13312, .inr (.inl (cL C1))))] H := hP
    have hD : va_D A [(m0, .inr (11, [.ref m_read, zi rl, zi rp, .ref m_gut, zi gl, zi gp, zi gx, zi gy, .ref m_text, zi tn, zi fn, .ref m_boat, .ref m_coins, zi vw, zi vm, zi vn, .ref m_rest, .ref m_ends, zl vc, .ref m_chan, .ref m_spl, zi fs, zi rn, .ref m_rf, .ref m_rr, .ref m_ik, .ref m_km, .ref m_kb, .ref m_kc, .ref m_kf, .ref m_kr])), (m_gut, .inl (y 0, 36, .inl (cI MG))), (m_chan, .inl (y 1, 13312, .inr (.inl (cL C1))))] := hD
    obtain ⟨i1, i2⟩ := hi13
    refine lv_iload_n hx hb dX12_layHome_13 rfl (lv_at hl 0 rfl) ?_
    refine lv_aload_n hx hb dX12_layHome_14 rfl (lv_at hl 2 rfl) ?_
    refine va_get hx hb hts hinX12 hown hK hP 0 rfl rfl 4 (by decide) k2 (fun _ h => h) rfl dX12_layHome_15 ?_
    refine z_icmp_ge (tgt := 138) hx hb (by omega) (by omega) dX12_layHome_18 (by decide) (fun c_18 => ?_) (fun c_18 => ?_)
    ·
      refine z_iinc (k := 1) (lv' := [(2, zi (k + (-1))), (3, zi j), (0, .ref m0), (1, zi lf)]) hx hb dX12_layHome_138 hl rfl (by decide) rfl (fun ls hl => ?_)
      refine lv_goto (tgt := 7) hx hb dX12_layHome_141 (by decide) ?_
      exact ih7 (k + (-1), C1) _ _ _ (by first | (dsimp only; omega) | omega) ⟨⟨by omega, cd_k i2 (by omega)⟩, lv_sub hl [0, 2, 3] rfl, hP.sub [0, 1, 2] rfl, hD.sub [0, 1, 2] (by decide) rfl, hS⟩
    ·
      have ek := kAt_in (gl := gl) (gp := gp) (GK := MG) (la := j) (pl := k) (by omega)
      have ekb := kAt_bd hg (j) (k)
      refine lv_aload_n hx hb dX12_layHome_21 rfl (lv_at hl 2 rfl) ?_
      refine va_get hx hb hts hinX12 hown hK hP 0 rfl rfl 3 (by decide) k3 (fun _ h => h) rfl dX12_layHome_22 ?_
      refine z_bipush hx hb dX12_layHome_25 (by decide) ?_
      refine lv_iload_n hx hb dX12_layHome_27 rfl (lv_at hl 0 rfl) ?_
      refine z_imul hx hb dX12_layHome_28 ?_
      refine lv_iload_n hx hb dX12_layHome_29 rfl (lv_at hl 1 rfl) ?_
      refine z_iadd hx hb dX12_layHome_30 ?_
      refine z_iald hx hb hK hP 1 0 rfl rfl (by omega) (by decide) dX12_layHome_31 ?_
      refine lv_istore (lv' := [(4, zi (MG ((12 * j) + k))), (3, zi j), (2, zi k), (0, .ref m0), (1, zi lf)]) hx hb dX12_layHome_32 hl (by decide) rfl (fun ls hl => ?_)
      refine z_iconst hx hb dX12_layHome_34 ?_
      refine lv_istore (lv' := [(5, zi 0), (4, zi (MG ((12 * j) + k))), (3, zi j), (2, zi k), (0, .ref m0), (1, zi lf)]) hx hb dX12_layHome_35 hl (by decide) rfl (fun ls hl => ?_)
      refine z_loop (σ := Int × (Int → Int)) (fun x9 H lc ls => match x9 with | (sq, C1) => ((0 ≤ sq ∧ sq ≤ 256) ∧ chDone gl gp gx gy MG lf C1 k j sq) ∧ lv_has ls 9 [(5, zi sq), (4, zi (MG ((12 * j) + k))), (3, zi j), (2, zi k), (0, .ref m0), (1, zi lf)] ∧ va_P D vwCl [(m0, .inr (11, [.ref m_read, zi rl, zi rp, .ref m_gut, zi gl, zi gp, zi gx, zi gy, .ref m_text, zi tn, zi fn, .ref m_boat, .ref m_coins, zi vw, zi vm, zi vn, .ref m_rest, .ref m_ends, zl vc, .ref m_chan, .ref m_spl, zi fs, zi rn, .ref m_rf, .ref m_rr, .ref m_ik, .ref m_km, .ref m_kb, .ref m_kc, .ref m_kf, .ref m_kr])), (m_gut, .inl (y 0, 36, .inl (cI MG))), (m_chan, .inl (y 1, 13312, .inr (.inl (cL C1))))] H ∧ va_D A [(m0, .inr (11, [.ref m_read, zi rl, zi rp, .ref m_gut, zi gl, zi gp, zi gx, zi gy, .ref m_text, zi tn, zi fn, .ref m_boat, .ref m_coins, zi vw, zi vm, zi vn, .ref m_rest, .ref m_ends, zl vc, .ref m_chan, .ref m_spl, zi fs, zi rn, .ref m_rf, .ref m_rr, .ref m_ik, .ref m_km, .ref m_kb, .ref m_kc, .ref m_kf, .ref m_kr])), (m_gut, .inl (y 0, 36, .inl (cI MG))), (m_chan, .inl (y 1, 13312, .inr (.inl (cL C1))))] ∧ va_S A s.heap H lc) (fun x9  => match x9 with | (sq, C1) => ((256 - sq).toNat)) ?_ (0, C1) ⟨⟨by omega, i2⟩, lv_sub hl [0, 1, 2, 3, 4, 5] rfl, hP.sub [0, 1, 2] rfl, hD.sub [0, 1, 2] (by decide) rfl, hS⟩
      rintro ⟨sq, C1⟩ H lc ls ⟨hi37, hl, hP, hD, hS⟩ ih37
      have hP : va_P D vwCl [(m0, .inr (11, [.ref m_read, zi rl, zi rp, .ref m_gut, zi gl, zi gp, zi gx, zi gy, .ref m_text, zi tn, zi fn, .ref m_boat, .ref m_coins, zi vw, zi vm, zi vn, .ref m_rest, .ref m_ends, zl vc, .ref m_chan, .ref m_spl, zi fs, zi rn, .ref m_rf, .ref m_rr, .ref m_ik, .ref m_km, .ref m_kb, .ref m_kc, .ref m_kf, .ref m_kr])), (m_gut, .inl (y 0, 36, .inl (cI MG))), (m_chan, .inl (y 1, 13312, .inr (.inl (cL C1))))] H := hP
      have hD : va_D A [(m0, .inr (11, [.ref m_read, zi rl, zi rp, .ref m_gut, zi gl, zi gp, zi gx, zi gy, .ref m_text, zi tn, zi fn, .ref m_boat, .ref m_coins, zi vw, zi vm, zi vn, .ref m_rest, .ref m_ends, zl vc, .ref m_chan, .ref m_spl, zi fs, zi rn, .ref m_rf, .ref m_rr, .ref m_ik, .ref m_km, .ref m_kb, .ref m_kc, .ref m_kf, .ref m_kr])), (m_gut, .inl (y 0, 36, .inl (cI MG))), (m_chan, .inl (y 1, 13312, .inr (.inl (cL C1))))] := hD
      obtain ⟨l1, l2⟩ := hi37
      refine lv_iload hx hb dX12_layHome_37 (lv_at hl 0 rfl) ?_
      refine z_sipush hx hb dX12_layHome_39 (by decide) ?_
      refine z_icmp_ge (tgt := 132) hx hb (by omega) (by omega) dX12_layHome_42 (by decide) (fun c_42 => ?_) (fun c_42 => ?_)
      ·
        refine z_iinc (k := 2) (lv' := [(3, zi (j + 1)), (5, zi sq), (4, zi (MG ((12 * j) + k))), (2, zi k), (0, .ref m0), (1, zi lf)]) hx hb dX12_layHome_132 hl rfl (by decide) rfl (fun ls hl => ?_)
        refine lv_goto (tgt := 13) hx hb dX12_layHome_135 (by decide) ?_
        exact ih13 (j + 1, C1) _ _ _ (by first | (dsimp only; omega) | omega) ⟨⟨by omega, cd_j l2 (by omega)⟩, lv_sub hl [0, 3, 4, 5] rfl, hP.sub [0, 1, 2] rfl, hD.sub [0, 1, 2] (by decide) rfl, hS⟩
      ·
        have em := msV_eq (kAt gl gp MG j k)
        have e0 := acrV_bd (k := kAt gl gp MG j k) u3 u4
        have e1 := secV_bd ekb
        have e2 := bI_cases (kAt gl gp MG j k = 12)
        rw [ek] at em e0 e1 e2
        refine lv_iload hx hb dX12_layHome_45 (lv_at hl 0 rfl) ?_
        refine lv_iload hx hb dX12_layHome_47 (lv_at hl 1 rfl) ?_
        refine z_pS (As := [zi (MG ((12 * j) + k))]) (rest := [zi sq]) hC (c_X12_secondsOf l D y (MG ((12 * j) + k)) (by first | assumption | omega)) (va_cwS 1 hts gX12_layHome_X12_secondsOf rfl rfl rfl (by decide +kernel) ⟨Nat.le_of_ble_eq_true rfl, Nat.le_of_ble_eq_true rfl⟩) hG va_P_nil rfl hl.1 rfl (Nat.le_of_ble_eq_true rfl) dX12_layHome_49 ⟨Nat.le_of_ble_eq_true rfl, Nat.le_of_ble_eq_true rfl⟩ ?_
        refine z_iadd hx hb dX12_layHome_52 ?_
        refine lv_istore (lv' := [(6, zi (sq + (msV (MG ((12 * j) + k))))), (5, zi sq), (4, zi (MG ((12 * j) + k))), (3, zi j), (2, zi k), (0, .ref m0), (1, zi lf)]) hx hb dX12_layHome_53 hl (by decide) rfl (fun ls hl => ?_)
        refine lv_lconst (v := iL 0) hx hb dX12_layHome_55 rfl ?_
        refine lv_lstore (lv' := [(7, zl 0), (6, zi (sq + (msV (MG ((12 * j) + k))))), (5, zi sq), (4, zi (MG ((12 * j) + k))), (3, zi j), (2, zi k), (0, .ref m0), (1, zi lf)]) hx hb dX12_layHome_56 hl (by decide) rfl (fun ls hl => ?_)
        refine lv_iload hx hb dX12_layHome_58 (lv_at hl 1 rfl) ?_
        refine lv_iload_n hx hb dX12_layHome_60 rfl (lv_at hl 7 rfl) ?_
        refine z_icmp_gt (tgt := 97) hx hb (by omega) (by omega) dX12_layHome_61 (by decide) (fun c_61 => ?_) (fun c_61 => ?_)
        ·
          have lv := lay_1 hg (lf := lf) (k := k) (j := j) (s := sq) (v := 0) (by omega) (by omega) (by omega) (by omega) (by refine ⟨fun q => ⟨fun q2 => ?_, fun q2 => ?_⟩, fun q => ?_⟩ <;> first | rfl | (rw [ek]; done) | (exfalso; rw [ek] at q; omega))
          rw [ek] at lv
          refine lv_aload_n hx hb dX12_layHome_97 rfl (lv_at hl 6 rfl) ?_
          refine va_get hx hb hts hinX12 hown hK hP 0 rfl rfl 19 (by decide) k4 (fun _ h => h) rfl dX12_layHome_98 ?_
          refine z_sipush hx hb dX12_layHome_101 (by decide) ?_
          refine lv_iload_n hx hb dX12_layHome_104 rfl (lv_at hl 5 rfl) ?_
          refine z_imul hx hb dX12_layHome_105 ?_
          refine z_sipush hx hb dX12_layHome_106 (by decide) ?_
          refine lv_iload_n hx hb dX12_layHome_109 rfl (lv_at hl 4 rfl) ?_
          refine z_imul hx hb dX12_layHome_110 ?_
          refine z_iadd hx hb dX12_layHome_111 ?_
          refine lv_iload hx hb dX12_layHome_112 (lv_at hl 2 rfl) ?_
          refine z_iadd hx hb dX12_layHome_114 ?_
          refine lv_aload_n hx hb dX12_layHome_115 rfl (lv_at hl 6 rfl) ?_
          refine lv_iload hx hb dX12_layHome_116 (lv_at hl 3 rfl) ?_
          refine z_pV (As := [zi (MG ((12 * j) + k))]) (rest := [zi (((1024 * k) + (256 * j)) + sq), .ref m_chan]) hC (c_X12_crosses l D y m0 m_read rl rp m_gut gl gp gx gy m_text tn fn m_boat m_coins vw vm vn m_rest m_ends vc m_chan m_spl fs rn m_rf m_rr m_ik m_km m_kb m_kc m_kf m_kr (MG ((12 * j) + k)) (by first | assumption | omega)) (cwV 1 hts gX12_layHome_X12_crosses rfl rfl rfl (by decide +kernel) ⟨Nat.le_of_ble_eq_true rfl, Nat.le_of_ble_eq_true rfl⟩) hG (hP.sub (ws' := [(m0, .inr (11, [.ref m_read, zi rl, zi rp, .ref m_gut, zi gl, zi gp, zi gx, zi gy, .ref m_text, zi tn, zi fn, .ref m_boat, .ref m_coins, zi vw, zi vm, zi vn, .ref m_rest, .ref m_ends, zl vc, .ref m_chan, .ref m_spl, zi fs, zi rn, .ref m_rf, .ref m_rr, .ref m_ik, .ref m_km, .ref m_kb, .ref m_kc, .ref m_kf, .ref m_kr]))]) [0] rfl) 0 rfl rfl rfl hl.1 rfl (Nat.le_of_ble_eq_true rfl) dX12_layHome_118 ⟨Nat.le_of_ble_eq_true rfl, Nat.le_of_ble_eq_true rfl⟩ ?_
          refine z_i2l hx hb (by omega) dX12_layHome_121 ?_
          refine lv_lload hx hb dX12_layHome_122 (lv_at hl 0 rfl) ?_
          refine z_lmul hx hb dX12_layHome_124 ?_
          refine z_last hx hb hK hP hD hS 2 1 rfl rfl (by omega) (by decide) dX12_layHome_125 (fun H locs hP hD hS => ?_)
          have hP : va_P D vwCl [(m0, .inr (11, [.ref m_read, zi rl, zi rp, .ref m_gut, zi gl, zi gp, zi gx, zi gy, .ref m_text, zi tn, zi fn, .ref m_boat, .ref m_coins, zi vw, zi vm, zi vn, .ref m_rest, .ref m_ends, zl vc, .ref m_chan, .ref m_spl, zi fs, zi rn, .ref m_rf, .ref m_rr, .ref m_ik, .ref m_km, .ref m_kb, .ref m_kc, .ref m_kf, .ref m_kr])), (m_gut, .inl (y 0, 36, .inl (cI MG))), (m_chan, .inl (y 1, 13312, .inr (.inl (cL (iu C1 (((1024 * k) + (256 * j)) + sq) ((acrV gx gy (MG ((12 * j) + k))) * 0))))))] H := hP
          have hD : va_D A [(m0, .inr (11, [.ref m_read, zi rl, zi rp, .ref m_gut, zi gl, zi gp, zi gx, zi gy, .ref m_text, zi tn, zi fn, .ref m_boat, .ref m_coins, zi vw, zi vm, zi vn, .ref m_rest, .ref m_ends, zl vc, .ref m_chan, .ref m_spl, zi fs, zi rn, .ref m_rf, .ref m_rr, .ref m_ik, .ref m_km, .ref m_kb, .ref m_kc, .ref m_kf, .ref m_kr])), (m_gut, .inl (y 0, 36, .inl (cI MG))), (m_chan, .inl (y 1, 13312, .inr (.inl (cL (iu C1 (((1024 * k) + (256 * j)) + sq) ((acrV gx gy (MG ((12 * j) + k))) * 0))))))] := hD
          refine z_iinc (k := 2) (lv' := [(5, zi (sq + 1)), (7, zl 0), (6, zi (sq + (msV (MG ((12 * j) + k))))), (4, zi (MG ((12 * j) + k))), (3, zi j), (2, zi k), (0, .ref m0), (1, zi lf)]) hx hb dX12_layHome_126 hl rfl (by decide) rfl (fun ls hl => ?_)
          refine lv_goto (tgt := 37) hx hb dX12_layHome_129 (by decide) ?_
          exact ih37 (sq + 1, iu C1 (((1024 * k) + (256 * j)) + sq) ((acrV gx gy (MG ((12 * j) + k))) * 0)) _ _ _ (by first | (dsimp only; omega) | omega) ⟨⟨by omega, cd_s u1.2 l2 (by omega) (by omega) (by omega) lv⟩, lv_sub hl [0, 3, 4, 5, 6, 7] rfl, hP.sub [0, 1, 2] rfl, hD.sub [0, 1, 2] (by decide) rfl, hS⟩
        ·
          refine lv_aload_n hx hb dX12_layHome_64 rfl (lv_at hl 6 rfl) ?_
          refine lv_iload hx hb dX12_layHome_65 (lv_at hl 3 rfl) ?_
          refine z_pV (As := [zi (MG ((12 * j) + k))]) (rest := []) hC (c_X12_crosses l D y m0 m_read rl rp m_gut gl gp gx gy m_text tn fn m_boat m_coins vw vm vn m_rest m_ends vc m_chan m_spl fs rn m_rf m_rr m_ik m_km m_kb m_kc m_kf m_kr (MG ((12 * j) + k)) (by first | assumption | omega)) (cwV 1 hts gX12_layHome_X12_crosses rfl rfl rfl (by decide +kernel) ⟨Nat.le_of_ble_eq_true rfl, Nat.le_of_ble_eq_true rfl⟩) hG (hP.sub (ws' := [(m0, .inr (11, [.ref m_read, zi rl, zi rp, .ref m_gut, zi gl, zi gp, zi gx, zi gy, .ref m_text, zi tn, zi fn, .ref m_boat, .ref m_coins, zi vw, zi vm, zi vn, .ref m_rest, .ref m_ends, zl vc, .ref m_chan, .ref m_spl, zi fs, zi rn, .ref m_rf, .ref m_rr, .ref m_ik, .ref m_km, .ref m_kb, .ref m_kc, .ref m_kf, .ref m_kr]))]) [0] rfl) 0 rfl rfl rfl hl.1 rfl (Nat.le_of_ble_eq_true rfl) dX12_layHome_67 ⟨Nat.le_of_ble_eq_true rfl, Nat.le_of_ble_eq_true rfl⟩ ?_
          refine z_if_le (tgt := 97) hx hb (by omega) dX12_layHome_70 (by decide) (fun c_70 => ?_) (fun c_70 => ?_)
          ·
            have lv := lay_1 hg (lf := lf) (k := k) (j := j) (s := sq) (v := 0) (by omega) (by omega) (by omega) (by omega) (by refine ⟨fun q => ⟨fun q2 => ?_, fun q2 => ?_⟩, fun q => ?_⟩ <;> first | rfl | (rw [ek]; done) | (exfalso; rw [ek] at q; omega))
            rw [ek] at lv
            refine lv_aload_n hx hb dX12_layHome_97 rfl (lv_at hl 6 rfl) ?_
            refine va_get hx hb hts hinX12 hown hK hP 0 rfl rfl 19 (by decide) k4 (fun _ h => h) rfl dX12_layHome_98 ?_
            refine z_sipush hx hb dX12_layHome_101 (by decide) ?_
            refine lv_iload_n hx hb dX12_layHome_104 rfl (lv_at hl 5 rfl) ?_
            refine z_imul hx hb dX12_layHome_105 ?_
            refine z_sipush hx hb dX12_layHome_106 (by decide) ?_
            refine lv_iload_n hx hb dX12_layHome_109 rfl (lv_at hl 4 rfl) ?_
            refine z_imul hx hb dX12_layHome_110 ?_
            refine z_iadd hx hb dX12_layHome_111 ?_
            refine lv_iload hx hb dX12_layHome_112 (lv_at hl 2 rfl) ?_
            refine z_iadd hx hb dX12_layHome_114 ?_
            refine lv_aload_n hx hb dX12_layHome_115 rfl (lv_at hl 6 rfl) ?_
            refine lv_iload hx hb dX12_layHome_116 (lv_at hl 3 rfl) ?_
            refine z_pV (As := [zi (MG ((12 * j) + k))]) (rest := [zi (((1024 * k) + (256 * j)) + sq), .ref m_chan]) hC (c_X12_crosses l D y m0 m_read rl rp m_gut gl gp gx gy m_text tn fn m_boat m_coins vw vm vn m_rest m_ends vc m_chan m_spl fs rn m_rf m_rr m_ik m_km m_kb m_kc m_kf m_kr (MG ((12 * j) + k)) (by first | assumption | omega)) (cwV 1 hts gX12_layHome_X12_crosses rfl rfl rfl (by decide +kernel) ⟨Nat.le_of_ble_eq_true rfl, Nat.le_of_ble_eq_true rfl⟩) hG (hP.sub (ws' := [(m0, .inr (11, [.ref m_read, zi rl, zi rp, .ref m_gut, zi gl, zi gp, zi gx, zi gy, .ref m_text, zi tn, zi fn, .ref m_boat, .ref m_coins, zi vw, zi vm, zi vn, .ref m_rest, .ref m_ends, zl vc, .ref m_chan, .ref m_spl, zi fs, zi rn, .ref m_rf, .ref m_rr, .ref m_ik, .ref m_km, .ref m_kb, .ref m_kc, .ref m_kf, .ref m_kr]))]) [0] rfl) 0 rfl rfl rfl hl.1 rfl (Nat.le_of_ble_eq_true rfl) dX12_layHome_118 ⟨Nat.le_of_ble_eq_true rfl, Nat.le_of_ble_eq_true rfl⟩ ?_
            refine z_i2l hx hb (by omega) dX12_layHome_121 ?_
            refine lv_lload hx hb dX12_layHome_122 (lv_at hl 0 rfl) ?_
            refine z_lmul hx hb dX12_layHome_124 ?_
            refine z_last hx hb hK hP hD hS 2 1 rfl rfl (by omega) (by decide) dX12_layHome_125 (fun H locs hP hD hS => ?_)
            have hP : va_P D vwCl [(m0, .inr (11, [.ref m_read, zi rl, zi rp, .ref m_gut, zi gl, zi gp, zi gx, zi gy, .ref m_text, zi tn, zi fn, .ref m_boat, .ref m_coins, zi vw, zi vm, zi vn, .ref m_rest, .ref m_ends, zl vc, .ref m_chan, .ref m_spl, zi fs, zi rn, .ref m_rf, .ref m_rr, .ref m_ik, .ref m_km, .ref m_kb, .ref m_kc, .ref m_kf, .ref m_kr])), (m_gut, .inl (y 0, 36, .inl (cI MG))), (m_chan, .inl (y 1, 13312, .inr (.inl (cL (iu C1 (((1024 * k) + (256 * j)) + sq) ((acrV gx gy (MG ((12 * j) + k))) * 0))))))] H := hP
            have hD : va_D A [(m0, .inr (11, [.ref m_read, zi rl, zi rp, .ref m_gut, zi gl, zi gp, zi gx, zi gy, .ref m_text, zi tn, zi fn, .ref m_boat, .ref m_coins, zi vw, zi vm, zi vn, .ref m_rest, .ref m_ends, zl vc, .ref m_chan, .ref m_spl, zi fs, zi rn, .ref m_rf, .ref m_rr, .ref m_ik, .ref m_km, .ref m_kb, .ref m_kc, .ref m_kf, .ref m_kr])), (m_gut, .inl (y 0, 36, .inl (cI MG))), (m_chan, .inl (y 1, 13312, .inr (.inl (cL (iu C1 (((1024 * k) + (256 * j)) + sq) ((acrV gx gy (MG ((12 * j) + k))) * 0))))))] := hD
            refine z_iinc (k := 2) (lv' := [(5, zi (sq + 1)), (7, zl 0), (6, zi (sq + (msV (MG ((12 * j) + k))))), (4, zi (MG ((12 * j) + k))), (3, zi j), (2, zi k), (0, .ref m0), (1, zi lf)]) hx hb dX12_layHome_126 hl rfl (by decide) rfl (fun ls hl => ?_)
            refine lv_goto (tgt := 37) hx hb dX12_layHome_129 (by decide) ?_
            exact ih37 (sq + 1, iu C1 (((1024 * k) + (256 * j)) + sq) ((acrV gx gy (MG ((12 * j) + k))) * 0)) _ _ _ (by first | (dsimp only; omega) | omega) ⟨⟨by omega, cd_s u1.2 l2 (by omega) (by omega) (by omega) lv⟩, lv_sub hl [0, 3, 4, 5, 6, 7] rfl, hP.sub [0, 1, 2] rfl, hD.sub [0, 1, 2] (by decide) rfl, hS⟩
          ·
            refine lv_iload_n hx hb dX12_layHome_73 rfl (lv_at hl 5 rfl) ?_
            refine lv_aload_n hx hb dX12_layHome_74 rfl (lv_at hl 6 rfl) ?_
            refine va_get hx hb hts hinX12 hown hK hP 0 rfl rfl 5 (by decide) k1 (fun _ h => h) rfl dX12_layHome_75 ?_
            refine z_iconst hx hb dX12_layHome_78 ?_
            refine z_isub hx hb dX12_layHome_79 ?_
            refine z_icmp_ne (tgt := 87) hx hb (by omega) (by omega) dX12_layHome_80 (by decide) (fun c_80 => ?_) (fun c_80 => ?_)
            ·
              refine lv_aload_n hx hb dX12_layHome_87 rfl (lv_at hl 6 rfl) ?_
              refine lv_iload_n hx hb dX12_layHome_88 rfl (lv_at hl 5 rfl) ?_
              refine lv_iload_n hx hb dX12_layHome_89 rfl (lv_at hl 4 rfl) ?_
              refine lv_iload hx hb dX12_layHome_90 (lv_at hl 1 rfl) ?_
              refine z_pV (As := [zi k, zi j, zi (sq + (msV (MG ((12 * j) + k))))]) (rest := []) hC (c_X12_bestOver l D y m0 m_read rl rp m_gut gl gp gx gy m_text tn fn m_boat m_coins vw vm vn m_rest m_ends vc m_chan m_spl fs rn m_rf m_rr m_ik m_km m_kb m_kc m_kf m_kr MG C1 lf k j (sq + (msV (MG ((12 * j) + k)))) (by first | assumption | omega) (fun la t a0 a1 t0 t1 => l2 (k + 1) la t (by omega) (by omega) a0 a1 t0 t1 (by omega)) (by first | assumption | omega) (by first | assumption | omega) (by first | assumption | omega) (by first | assumption | omega)) (cwV 3 hts gX12_layHome_X12_bestOver rfl rfl rfl (by decide +kernel) ⟨Nat.le_of_ble_eq_true rfl, Nat.le_of_ble_eq_true rfl⟩) hG (hP.sub (ws' := [(m0, .inr (11, [.ref m_read, zi rl, zi rp, .ref m_gut, zi gl, zi gp, zi gx, zi gy, .ref m_text, zi tn, zi fn, .ref m_boat, .ref m_coins, zi vw, zi vm, zi vn, .ref m_rest, .ref m_ends, zl vc, .ref m_chan, .ref m_spl, zi fs, zi rn, .ref m_rf, .ref m_rr, .ref m_ik, .ref m_km, .ref m_kb, .ref m_kc, .ref m_kf, .ref m_kr])), (m_gut, .inl (y 0, 36, .inl (cI MG))), (m_chan, .inl (y 1, 13312, .inr (.inl (cL C1))))]) [0, 1, 2] rfl) 0 rfl rfl rfl hl.1 rfl (Nat.le_of_ble_eq_true rfl) dX12_layHome_92 ⟨Nat.le_of_ble_eq_true rfl, Nat.le_of_ble_eq_true rfl⟩ ?_
              refine lv_lstore (lv' := [(7, zl (ovM gl gp gx gy MG lf k j (sq + (msV (MG ((12 * j) + k)))))), (6, zi (sq + (msV (MG ((12 * j) + k))))), (5, zi sq), (4, zi (MG ((12 * j) + k))), (3, zi j), (2, zi k), (0, .ref m0), (1, zi lf)]) hx hb dX12_layHome_95 hl (by decide) rfl (fun ls hl => ?_)
              have lv := lay_1 hg (lf := lf) (k := k) (j := j) (s := sq) (v := ovM gl gp gx gy MG lf k j (sq + (msV (MG ((12 * j) + k))))) (by omega) (by omega) (by omega) (by omega) (by refine ⟨fun q => ⟨fun q2 => ?_, fun q2 => ?_⟩, fun q => ?_⟩ <;> first | rfl | (rw [ek]; done) | (exfalso; rw [ek] at q; omega))
              rw [ek] at lv
              refine lv_aload_n hx hb dX12_layHome_97 rfl (lv_at hl 6 rfl) ?_
              refine va_get hx hb hts hinX12 hown hK hP 0 rfl rfl 19 (by decide) k4 (fun _ h => h) rfl dX12_layHome_98 ?_
              refine z_sipush hx hb dX12_layHome_101 (by decide) ?_
              refine lv_iload_n hx hb dX12_layHome_104 rfl (lv_at hl 5 rfl) ?_
              refine z_imul hx hb dX12_layHome_105 ?_
              refine z_sipush hx hb dX12_layHome_106 (by decide) ?_
              refine lv_iload_n hx hb dX12_layHome_109 rfl (lv_at hl 4 rfl) ?_
              refine z_imul hx hb dX12_layHome_110 ?_
              refine z_iadd hx hb dX12_layHome_111 ?_
              refine lv_iload hx hb dX12_layHome_112 (lv_at hl 2 rfl) ?_
              refine z_iadd hx hb dX12_layHome_114 ?_
              refine lv_aload_n hx hb dX12_layHome_115 rfl (lv_at hl 6 rfl) ?_
              refine lv_iload hx hb dX12_layHome_116 (lv_at hl 3 rfl) ?_
              refine z_pV (As := [zi (MG ((12 * j) + k))]) (rest := [zi (((1024 * k) + (256 * j)) + sq), .ref m_chan]) hC (c_X12_crosses l D y m0 m_read rl rp m_gut gl gp gx gy m_text tn fn m_boat m_coins vw vm vn m_rest m_ends vc m_chan m_spl fs rn m_rf m_rr m_ik m_km m_kb m_kc m_kf m_kr (MG ((12 * j) + k)) (by first | assumption | omega)) (cwV 1 hts gX12_layHome_X12_crosses rfl rfl rfl (by decide +kernel) ⟨Nat.le_of_ble_eq_true rfl, Nat.le_of_ble_eq_true rfl⟩) hG (hP.sub (ws' := [(m0, .inr (11, [.ref m_read, zi rl, zi rp, .ref m_gut, zi gl, zi gp, zi gx, zi gy, .ref m_text, zi tn, zi fn, .ref m_boat, .ref m_coins, zi vw, zi vm, zi vn, .ref m_rest, .ref m_ends, zl vc, .ref m_chan, .ref m_spl, zi fs, zi rn, .ref m_rf, .ref m_rr, .ref m_ik, .ref m_km, .ref m_kb, .ref m_kc, .ref m_kf, .ref m_kr]))]) [0] rfl) 0 rfl rfl rfl hl.1 rfl (Nat.le_of_ble_eq_true rfl) dX12_layHome_118 ⟨Nat.le_of_ble_eq_true rfl, Nat.le_of_ble_eq_true rfl⟩ ?_
              refine z_i2l hx hb (by omega) dX12_layHome_121 ?_
              refine lv_lload hx hb dX12_layHome_122 (lv_at hl 0 rfl) ?_
              refine z_lmul hx hb dX12_layHome_124 ?_
              refine z_last hx hb hK hP hD hS 2 1 rfl rfl (by omega) (by decide) dX12_layHome_125 (fun H locs hP hD hS => ?_)
              have hP : va_P D vwCl [(m0, .inr (11, [.ref m_read, zi rl, zi rp, .ref m_gut, zi gl, zi gp, zi gx, zi gy, .ref m_text, zi tn, zi fn, .ref m_boat, .ref m_coins, zi vw, zi vm, zi vn, .ref m_rest, .ref m_ends, zl vc, .ref m_chan, .ref m_spl, zi fs, zi rn, .ref m_rf, .ref m_rr, .ref m_ik, .ref m_km, .ref m_kb, .ref m_kc, .ref m_kf, .ref m_kr])), (m_gut, .inl (y 0, 36, .inl (cI MG))), (m_chan, .inl (y 1, 13312, .inr (.inl (cL (iu C1 (((1024 * k) + (256 * j)) + sq) ((acrV gx gy (MG ((12 * j) + k))) * (ovM gl gp gx gy MG lf k j (sq + (msV (MG ((12 * j) + k)))))))))))] H := hP
              have hD : va_D A [(m0, .inr (11, [.ref m_read, zi rl, zi rp, .ref m_gut, zi gl, zi gp, zi gx, zi gy, .ref m_text, zi tn, zi fn, .ref m_boat, .ref m_coins, zi vw, zi vm, zi vn, .ref m_rest, .ref m_ends, zl vc, .ref m_chan, .ref m_spl, zi fs, zi rn, .ref m_rf, .ref m_rr, .ref m_ik, .ref m_km, .ref m_kb, .ref m_kc, .ref m_kf, .ref m_kr])), (m_gut, .inl (y 0, 36, .inl (cI MG))), (m_chan, .inl (y 1, 13312, .inr (.inl (cL (iu C1 (((1024 * k) + (256 * j)) + sq) ((acrV gx gy (MG ((12 * j) + k))) * (ovM gl gp gx gy MG lf k j (sq + (msV (MG ((12 * j) + k)))))))))))] := hD
              refine z_iinc (k := 2) (lv' := [(5, zi (sq + 1)), (7, zl (ovM gl gp gx gy MG lf k j (sq + (msV (MG ((12 * j) + k)))))), (6, zi (sq + (msV (MG ((12 * j) + k))))), (4, zi (MG ((12 * j) + k))), (3, zi j), (2, zi k), (0, .ref m0), (1, zi lf)]) hx hb dX12_layHome_126 hl rfl (by decide) rfl (fun ls hl => ?_)
              refine lv_goto (tgt := 37) hx hb dX12_layHome_129 (by decide) ?_
              exact ih37 (sq + 1, iu C1 (((1024 * k) + (256 * j)) + sq) ((acrV gx gy (MG ((12 * j) + k))) * (ovM gl gp gx gy MG lf k j (sq + (msV (MG ((12 * j) + k))))))) _ _ _ (by first | (dsimp only; omega) | omega) ⟨⟨by omega, cd_s u1.2 l2 (by omega) (by omega) (by omega) lv⟩, lv_sub hl [0, 3, 4, 5, 6, 7] rfl, hP.sub [0, 1, 2] rfl, hD.sub [0, 1, 2] (by decide) rfl, hS⟩
            ·
              refine lv_lconst (v := iL 1) hx hb dX12_layHome_83 rfl ?_
              refine lv_goto (tgt := 95) hx hb dX12_layHome_84 (by decide) ?_
              refine lv_lstore (lv' := [(7, zl 1), (6, zi (sq + (msV (MG ((12 * j) + k))))), (5, zi sq), (4, zi (MG ((12 * j) + k))), (3, zi j), (2, zi k), (0, .ref m0), (1, zi lf)]) hx hb dX12_layHome_95 hl (by decide) rfl (fun ls hl => ?_)
              have lv := lay_1 hg (lf := lf) (k := k) (j := j) (s := sq) (v := 1) (by omega) (by omega) (by omega) (by omega) (by refine ⟨fun q => ⟨fun q2 => ?_, fun q2 => ?_⟩, fun q => ?_⟩ <;> first | rfl | (rw [ek]; done) | (exfalso; rw [ek] at q; omega))
              rw [ek] at lv
              refine lv_aload_n hx hb dX12_layHome_97 rfl (lv_at hl 6 rfl) ?_
              refine va_get hx hb hts hinX12 hown hK hP 0 rfl rfl 19 (by decide) k4 (fun _ h => h) rfl dX12_layHome_98 ?_
              refine z_sipush hx hb dX12_layHome_101 (by decide) ?_
              refine lv_iload_n hx hb dX12_layHome_104 rfl (lv_at hl 5 rfl) ?_
              refine z_imul hx hb dX12_layHome_105 ?_
              refine z_sipush hx hb dX12_layHome_106 (by decide) ?_
              refine lv_iload_n hx hb dX12_layHome_109 rfl (lv_at hl 4 rfl) ?_
              refine z_imul hx hb dX12_layHome_110 ?_
              refine z_iadd hx hb dX12_layHome_111 ?_
              refine lv_iload hx hb dX12_layHome_112 (lv_at hl 2 rfl) ?_
              refine z_iadd hx hb dX12_layHome_114 ?_
              refine lv_aload_n hx hb dX12_layHome_115 rfl (lv_at hl 6 rfl) ?_
              refine lv_iload hx hb dX12_layHome_116 (lv_at hl 3 rfl) ?_
              refine z_pV (As := [zi (MG ((12 * j) + k))]) (rest := [zi (((1024 * k) + (256 * j)) + sq), .ref m_chan]) hC (c_X12_crosses l D y m0 m_read rl rp m_gut gl gp gx gy m_text tn fn m_boat m_coins vw vm vn m_rest m_ends vc m_chan m_spl fs rn m_rf m_rr m_ik m_km m_kb m_kc m_kf m_kr (MG ((12 * j) + k)) (by first | assumption | omega)) (cwV 1 hts gX12_layHome_X12_crosses rfl rfl rfl (by decide +kernel) ⟨Nat.le_of_ble_eq_true rfl, Nat.le_of_ble_eq_true rfl⟩) hG (hP.sub (ws' := [(m0, .inr (11, [.ref m_read, zi rl, zi rp, .ref m_gut, zi gl, zi gp, zi gx, zi gy, .ref m_text, zi tn, zi fn, .ref m_boat, .ref m_coins, zi vw, zi vm, zi vn, .ref m_rest, .ref m_ends, zl vc, .ref m_chan, .ref m_spl, zi fs, zi rn, .ref m_rf, .ref m_rr, .ref m_ik, .ref m_km, .ref m_kb, .ref m_kc, .ref m_kf, .ref m_kr]))]) [0] rfl) 0 rfl rfl rfl hl.1 rfl (Nat.le_of_ble_eq_true rfl) dX12_layHome_118 ⟨Nat.le_of_ble_eq_true rfl, Nat.le_of_ble_eq_true rfl⟩ ?_
              refine z_i2l hx hb (by omega) dX12_layHome_121 ?_
              refine lv_lload hx hb dX12_layHome_122 (lv_at hl 0 rfl) ?_
              refine z_lmul hx hb dX12_layHome_124 ?_
              refine z_last hx hb hK hP hD hS 2 1 rfl rfl (by omega) (by decide) dX12_layHome_125 (fun H locs hP hD hS => ?_)
              have hP : va_P D vwCl [(m0, .inr (11, [.ref m_read, zi rl, zi rp, .ref m_gut, zi gl, zi gp, zi gx, zi gy, .ref m_text, zi tn, zi fn, .ref m_boat, .ref m_coins, zi vw, zi vm, zi vn, .ref m_rest, .ref m_ends, zl vc, .ref m_chan, .ref m_spl, zi fs, zi rn, .ref m_rf, .ref m_rr, .ref m_ik, .ref m_km, .ref m_kb, .ref m_kc, .ref m_kf, .ref m_kr])), (m_gut, .inl (y 0, 36, .inl (cI MG))), (m_chan, .inl (y 1, 13312, .inr (.inl (cL (iu C1 (((1024 * k) + (256 * j)) + sq) ((acrV gx gy (MG ((12 * j) + k))) * 1))))))] H := hP
              have hD : va_D A [(m0, .inr (11, [.ref m_read, zi rl, zi rp, .ref m_gut, zi gl, zi gp, zi gx, zi gy, .ref m_text, zi tn, zi fn, .ref m_boat, .ref m_coins, zi vw, zi vm, zi vn, .ref m_rest, .ref m_ends, zl vc, .ref m_chan, .ref m_spl, zi fs, zi rn, .ref m_rf, .ref m_rr, .ref m_ik, .ref m_km, .ref m_kb, .ref m_kc, .ref m_kf, .ref m_kr])), (m_gut, .inl (y 0, 36, .inl (cI MG))), (m_chan, .inl (y 1, 13312, .inr (.inl (cL (iu C1 (((1024 * k) + (256 * j)) + sq) ((acrV gx gy (MG ((12 * j) + k))) * 1))))))] := hD
              refine z_iinc (k := 2) (lv' := [(5, zi (sq + 1)), (7, zl 1), (6, zi (sq + (msV (MG ((12 * j) + k))))), (4, zi (MG ((12 * j) + k))), (3, zi j), (2, zi k), (0, .ref m0), (1, zi lf)]) hx hb dX12_layHome_126 hl rfl (by decide) rfl (fun ls hl => ?_)
              refine lv_goto (tgt := 37) hx hb dX12_layHome_129 (by decide) ?_
              exact ih37 (sq + 1, iu C1 (((1024 * k) + (256 * j)) + sq) ((acrV gx gy (MG ((12 * j) + k))) * 1)) _ _ _ (by first | (dsimp only; omega) | omega) ⟨⟨by omega, cd_s u1.2 l2 (by omega) (by omega) (by omega) lv⟩, lv_sub hl [0, 3, 4, 5, 6, 7] rfl, hP.sub [0, 1, 2] rfl, hD.sub [0, 1, 2] (by decide) rfl, hS⟩
set_option maxHeartbeats 8000000 in
set_option maxRecDepth 100000 in
theorem c_X12_home_no (l : Launch) (D : va_G) (y : Nat → ClassId) (m0 : Nat) (m_read : Nat) (rl : Int) (rp : Int) (m_gut : Nat) (gl : Int) (gp : Int) (gx : Int) (gy : Int) (m_text : Nat) (tn : Int) (fn : Int) (m_boat : Nat) (m_coins : Nat) (vw : Int) (vm : Int) (vn : Int) (m_rest : Nat) (m_ends : Nat) (vc : Int) (m_chan : Nat) (m_spl : Nat) (fs : Int) (rn : Int) (m_rf : Nat) (m_rr : Nat) (m_ik : Nat) (m_km : Nat) (m_kb : Nat) (m_kc : Nat) (m_kf : Nat) (m_kr : Nat) (bq : Int) (la : Int) (uq : Int) (hbq : rI bq ∧ 0 ≤ fn ∧ fn ≤ 6) (hla : rI la ∧ 1 ≤ gl ∧ gl ≤ 3) (hq : ¬ (0 ≤ bq ∧ bq < fn) ∨ ¬ (0 ≤ la ∧ la < gl)) : Met l yX12_home wsX12_home ({ frames := 2, cells := 0, slots := 0, locals := 46 } : Room) (pPc D y [(m0, .inr (11, [.ref m_read, zi rl, zi rp, .ref m_gut, zi gl, zi gp, zi gx, zi gy, .ref m_text, zi tn, zi fn, .ref m_boat, .ref m_coins, zi vw, zi vm, zi vn, .ref m_rest, .ref m_ends, zl vc, .ref m_chan, .ref m_spl, zi fs, zi rn, .ref m_rf, .ref m_rr, .ref m_ik, .ref m_km, .ref m_kb, .ref m_kc, .ref m_kf, .ref m_kr]))] [.ref m0, zi bq, zi la, zi uq]) (qV (zl (-1))) 0 0 (fun _ => False) := by
  refine P_of (own := RX12) (cc := cX12_home) (maxL := 4) (ret := some .long) (by decide) rfl rfl (Nat.le_of_ble_eq_true rfl) (fun p e s m below meth c ls hx hb hr hC hlocks hPr hG hl => ?_)
  have hC0 := hC
  obtain ⟨-, -, hml, hown, hts⟩ := hC0
  have hK := hG.1
  have k1 := hts (.constantLong RX12 151 (-1)) (List.mem_of_getElem? (i := 1) rfl)
  have hl : lv_has ls 4 [(0, .ref m0), (1, zi bq), (2, zi la), (3, zi uq)] := hl
  refine lv_aload_n hx hb dX12_home_0 rfl (lv_at hl 0 rfl) ?_
  refine lv_iload_n hx hb dX12_home_1 rfl (lv_at hl 1 rfl) ?_
  refine z_pV (As := [zi bq]) (rest := []) hC (c_X12_isBoat l D y m0 m_read rl rp m_gut gl gp gx gy m_text tn fn m_boat m_coins vw vm vn m_rest m_ends vc m_chan m_spl fs rn m_rf m_rr m_ik m_km m_kb m_kc m_kf m_kr bq (by first | assumption | omega) (by first | assumption | omega)) (cwV 1 hts gX12_home_X12_isBoat rfl rfl rfl (by decide +kernel) ⟨Nat.le_of_ble_eq_true rfl, Nat.le_of_ble_eq_true rfl⟩) hG (hPr.sub (ws' := [(m0, .inr (11, [.ref m_read, zi rl, zi rp, .ref m_gut, zi gl, zi gp, zi gx, zi gy, .ref m_text, zi tn, zi fn, .ref m_boat, .ref m_coins, zi vw, zi vm, zi vn, .ref m_rest, .ref m_ends, zl vc, .ref m_chan, .ref m_spl, zi fs, zi rn, .ref m_rf, .ref m_rr, .ref m_ik, .ref m_km, .ref m_kb, .ref m_kc, .ref m_kf, .ref m_kr]))]) [0] rfl) 0 rfl rfl rfl hl.1 rfl (Nat.le_of_ble_eq_true rfl) dX12_home_2 ⟨Nat.le_of_ble_eq_true rfl, Nat.le_of_ble_eq_true rfl⟩ ?_
  refine z_ifB_eq (tgt := 16) hx hb dX12_home_5 (by decide) (fun c_5 => ?_) (fun c_5 => ?_)
  ·
    refine lv_ldc2 (v := iL (-1)) hx hb hown k1 dX12_home_16 ?_
    exact z_lret0 hx hb hr hlocks (rfl) dX12_home_19
  ·
    refine lv_aload_n hx hb dX12_home_8 rfl (lv_at hl 0 rfl) ?_
    refine lv_iload_n hx hb dX12_home_9 rfl (lv_at hl 2 rfl) ?_
    refine z_pV (As := [zi la]) (rest := []) hC (c_X12_isLane l D y m0 m_read rl rp m_gut gl gp gx gy m_text tn fn m_boat m_coins vw vm vn m_rest m_ends vc m_chan m_spl fs rn m_rf m_rr m_ik m_km m_kb m_kc m_kf m_kr la (by first | assumption | omega) (by first | assumption | omega)) (cwV 1 hts gX12_home_X12_isLane rfl rfl rfl (by decide +kernel) ⟨Nat.le_of_ble_eq_true rfl, Nat.le_of_ble_eq_true rfl⟩) hG (hPr.sub (ws' := [(m0, .inr (11, [.ref m_read, zi rl, zi rp, .ref m_gut, zi gl, zi gp, zi gx, zi gy, .ref m_text, zi tn, zi fn, .ref m_boat, .ref m_coins, zi vw, zi vm, zi vn, .ref m_rest, .ref m_ends, zl vc, .ref m_chan, .ref m_spl, zi fs, zi rn, .ref m_rf, .ref m_rr, .ref m_ik, .ref m_km, .ref m_kb, .ref m_kc, .ref m_kf, .ref m_kr]))]) [0] rfl) 0 rfl rfl rfl hl.1 rfl (Nat.le_of_ble_eq_true rfl) dX12_home_10 ⟨Nat.le_of_ble_eq_true rfl, Nat.le_of_ble_eq_true rfl⟩ ?_
    refine z_ifB_ne (tgt := 20) hx hb dX12_home_13 (by decide) (fun c_13 => ?_) (fun c_13 => ?_)
    · exfalso; omega
    ·
      refine lv_ldc2 (v := iL (-1)) hx hb hown k1 dX12_home_16 ?_
      exact z_lret0 hx hb hr hlocks (rfl) dX12_home_19
set_option maxHeartbeats 8000000 in
set_option maxRecDepth 100000 in
theorem c_X12_home (l : Launch) (D : va_G) (y : Nat → ClassId) (m0 : Nat) (m_read : Nat) (rl : Int) (rp : Int) (m_gut : Nat) (gl : Int) (gp : Int) (gx : Int) (gy : Int) (m_text : Nat) (tn : Int) (fn : Int) (m_boat : Nat) (m_coins : Nat) (vw : Int) (vm : Int) (vn : Int) (m_rest : Nat) (m_ends : Nat) (vc : Int) (m_chan : Nat) (m_spl : Nat) (fs : Int) (rn : Int) (m_rf : Nat) (m_rr : Nat) (m_ik : Nat) (m_km : Nat) (m_kb : Nat) (m_kc : Nat) (m_kf : Nat) (m_kr : Nat) (MG : Int → Int) (MB : Int → Int) (MC : Int → Int) (MCh : Int → Int) (bq : Int) (la : Int) (uq : Int) (hM : mbOK fn MB MC) (hbq : 0 ≤ bq ∧ bq < fn) (hg : gOK gl gp gx gy MG) (hla : 0 ≤ la ∧ la < gl) (huq : uq = 0 ∨ uq = 1) (sz : Nat) : Met l yX12_home wsX12_home ({ frames := 5, cells := 0, slots := 0, locals := 130 } : Room) (wPc D y [] [(m0, .inr (11, [.ref m_read, zi rl, zi rp, .ref m_gut, zi gl, zi gp, zi gx, zi gy, .ref m_text, zi tn, zi fn, .ref m_boat, .ref m_coins, zi vw, zi vm, zi vn, .ref m_rest, .ref m_ends, zl vc, .ref m_chan, .ref m_spl, zi fs, zi rn, .ref m_rf, .ref m_rr, .ref m_ik, .ref m_km, .ref m_kb, .ref m_kc, .ref m_kf, .ref m_kr])), (m_gut, .inl (y 0, 36, .inl (cI MG))), (m_boat, .inl (y 0, 42, .inl (cI MB))), (m_coins, .inl (y 0, 144, .inl (cI MC))), (m_chan, .inl (y 1, 13312, .inr (.inl (cL MCh))))] sz [.ref m0, zi bq, zi la, zi uq]) (wQ D (fun (x9 : Int × Int × Int × (Int → Int)) => match x9 with | (vw2, vm2, vn2, MCh2) => some (zl (tellV (chH gl gp gx gy MG (lifeV (MB (7 * bq)) (MB (7 * bq + 1)) (MB (7 * bq + 2)) (MB (7 * bq + 3)) (MB (7 * bq + 4)) (MB (7 * bq + 5)) (MB (7 * bq + 6)) (mCI MC bq) (mCJ MC bq) (mCW MC bq)) gp.toNat la 0) (10 ^ gp.toNat) uq))) (fun (x9 : Int × Int × Int × (Int → Int)) => match x9 with | (vw2, vm2, vn2, MCh2) => True) (fun (x9 : Int × Int × Int × (Int → Int)) => match x9 with | (vw2, vm2, vn2, MCh2) => [(m0, .inr (11, [.ref m_read, zi rl, zi rp, .ref m_gut, zi gl, zi gp, zi gx, zi gy, .ref m_text, zi tn, zi fn, .ref m_boat, .ref m_coins, zi vw2, zi vm2, zi vn2, .ref m_rest, .ref m_ends, zl vc, .ref m_chan, .ref m_spl, zi fs, zi rn, .ref m_rf, .ref m_rr, .ref m_ik, .ref m_km, .ref m_kb, .ref m_kc, .ref m_kf, .ref m_kr])), (m_gut, .inl (y 0, 36, .inl (cI MG))), (m_boat, .inl (y 0, 42, .inl (cI MB))), (m_coins, .inl (y 0, 144, .inl (cI MC))), (m_chan, .inl (y 1, 13312, .inr (.inl (cL MCh2))))]) (va_A [(m0, .inr (11, [.ref m_read, zi rl, zi rp, .ref m_gut, zi gl, zi gp, zi gx, zi gy, .ref m_text, zi tn, zi fn, .ref m_boat, .ref m_coins, zi vw, zi vm, zi vn, .ref m_rest, .ref m_ends, zl vc, .ref m_chan, .ref m_spl, zi fs, zi rn, .ref m_rf, .ref m_rr, .ref m_ik, .ref m_km, .ref m_kb, .ref m_kc, .ref m_kf, .ref m_kr])), (m_gut, .inl (y 0, 36, .inl (cI MG))), (m_boat, .inl (y 0, 42, .inl (cI MB))), (m_coins, .inl (y 0, 144, .inl (cI MC))), (m_chan, .inl (y 1, 13312, .inr (.inl (cL MCh))))] sz)) 0 0 (va_A [(m0, .inr (11, [.ref m_read, zi rl, zi rp, .ref m_gut, zi gl, zi gp, zi gx, zi gy, .ref m_text, zi tn, zi fn, .ref m_boat, .ref m_coins, zi vw, zi vm, zi vn, .ref m_rest, .ref m_ends, zl vc, .ref m_chan, .ref m_spl, zi fs, zi rn, .ref m_rf, .ref m_rr, .ref m_ik, .ref m_km, .ref m_kb, .ref m_kc, .ref m_kf, .ref m_kr])), (m_gut, .inl (y 0, 36, .inl (cI MG))), (m_boat, .inl (y 0, 42, .inl (cI MB))), (m_coins, .inl (y 0, 144, .inl (cI MC))), (m_chan, .inl (y 1, 13312, .inr (.inl (cL MCh))))] sz) := by
  refine W_of (own := RX12) (cc := cX12_home) (maxL := 4) (ret := some .long) (by decide) rfl rfl (Nat.le_of_ble_eq_true rfl) (fun p e s m below meth c ls A hx hb hr hC hlocks hin0 hR0 hN hP hD hA hG hl => ?_)
  have hC0 := hC
  obtain ⟨-, -, hml, hown, hts⟩ := hC0
  have hK := hG.1
  have hS : va_S A s.heap s.heap [] := va_S.rf
  have hPr := hR0
  have hinX12 : ∀ w ∈ wsX120, w ∈ wsX12_home := fun _ h => List.mem_cons_of_mem _ (List.mem_append_right _ h)
  have k2 := hts (.fieldLink RX12 32 "BoatsOfPaperModel" "chances" "[J") (List.mem_of_getElem? (i := 2) rfl)
  have hl : lv_has ls 4 [(0, .ref m0), (1, zi bq), (2, zi la), (3, zi uq)] := hl
  have hB := hM.2 bq hbq.1 hbq.2
  obtain ⟨q1, q2, q3, q4, q5, q6, q7, q8, q9, qc⟩ := id hB
  have qf := hM.1
  obtain ⟨u1, u2, u3, u4, uk⟩ := id hg
  have hl9 := lifeV_bd hB
  have t1 := ten12 (r := gp.toNat) (by omega)
  have t2 := ten_p gp.toNat
  have t3 := chH_bd hg (lifeV (MB (7 * bq)) (MB (7 * bq + 1)) (MB (7 * bq + 2)) (MB (7 * bq + 3)) (MB (7 * bq + 4)) (MB (7 * bq + 5)) (MB (7 * bq + 6)) (mCI MC bq) (mCJ MC bq) (mCW MC bq)) gp.toNat la 0
  refine lv_aload_n hx hb dX12_home_0 rfl (lv_at hl 0 rfl) ?_
  refine lv_iload_n hx hb dX12_home_1 rfl (lv_at hl 1 rfl) ?_
  refine z_pV (As := [zi bq]) (rest := []) hC (c_X12_isBoat l D y m0 m_read rl rp m_gut gl gp gx gy m_text tn fn m_boat m_coins vw vm vn m_rest m_ends vc m_chan m_spl fs rn m_rf m_rr m_ik m_km m_kb m_kc m_kf m_kr bq (by first | assumption | omega) (by first | assumption | omega)) (cwV 1 hts gX12_home_X12_isBoat rfl rfl rfl (by decide +kernel) ⟨Nat.le_of_ble_eq_true rfl, Nat.le_of_ble_eq_true rfl⟩) hG (hP.sub (ws' := [(m0, .inr (11, [.ref m_read, zi rl, zi rp, .ref m_gut, zi gl, zi gp, zi gx, zi gy, .ref m_text, zi tn, zi fn, .ref m_boat, .ref m_coins, zi vw, zi vm, zi vn, .ref m_rest, .ref m_ends, zl vc, .ref m_chan, .ref m_spl, zi fs, zi rn, .ref m_rf, .ref m_rr, .ref m_ik, .ref m_km, .ref m_kb, .ref m_kc, .ref m_kf, .ref m_kr]))]) [0] rfl) 0 rfl rfl rfl hl.1 rfl (Nat.le_of_ble_eq_true rfl) dX12_home_2 ⟨Nat.le_of_ble_eq_true rfl, Nat.le_of_ble_eq_true rfl⟩ ?_
  refine z_ifB_eq (tgt := 16) hx hb dX12_home_5 (by decide) (fun c_5 => ?_) (fun c_5 => ?_)
  · exfalso; omega
  ·
    refine lv_aload_n hx hb dX12_home_8 rfl (lv_at hl 0 rfl) ?_
    refine lv_iload_n hx hb dX12_home_9 rfl (lv_at hl 2 rfl) ?_
    refine z_pV (As := [zi la]) (rest := []) hC (c_X12_isLane l D y m0 m_read rl rp m_gut gl gp gx gy m_text tn fn m_boat m_coins vw vm vn m_rest m_ends vc m_chan m_spl fs rn m_rf m_rr m_ik m_km m_kb m_kc m_kf m_kr la (by first | assumption | omega) (by first | assumption | omega)) (cwV 1 hts gX12_home_X12_isLane rfl rfl rfl (by decide +kernel) ⟨Nat.le_of_ble_eq_true rfl, Nat.le_of_ble_eq_true rfl⟩) hG (hP.sub (ws' := [(m0, .inr (11, [.ref m_read, zi rl, zi rp, .ref m_gut, zi gl, zi gp, zi gx, zi gy, .ref m_text, zi tn, zi fn, .ref m_boat, .ref m_coins, zi vw, zi vm, zi vn, .ref m_rest, .ref m_ends, zl vc, .ref m_chan, .ref m_spl, zi fs, zi rn, .ref m_rf, .ref m_rr, .ref m_ik, .ref m_km, .ref m_kb, .ref m_kc, .ref m_kf, .ref m_kr]))]) [0] rfl) 0 rfl rfl rfl hl.1 rfl (Nat.le_of_ble_eq_true rfl) dX12_home_10 ⟨Nat.le_of_ble_eq_true rfl, Nat.le_of_ble_eq_true rfl⟩ ?_
    refine z_ifB_ne (tgt := 20) hx hb dX12_home_13 (by decide) (fun c_13 => ?_) (fun c_13 => ?_)
    ·
      refine lv_aload_n hx hb dX12_home_20 rfl (lv_at hl 0 rfl) ?_
      refine lv_aload_n hx hb dX12_home_21 rfl (lv_at hl 0 rfl) ?_
      refine lv_iload_n hx hb dX12_home_22 rfl (lv_at hl 1 rfl) ?_
      refine z_wV (As := [zi bq]) (rest := [.ref m0]) (wc := [(m0, .inr (11, [.ref m_read, zi rl, zi rp, .ref m_gut, zi gl, zi gp, zi gx, zi gy, .ref m_text, zi tn, zi fn, .ref m_boat, .ref m_coins, zi vw, zi vm, zi vn, .ref m_rest, .ref m_ends, zl vc, .ref m_chan, .ref m_spl, zi fs, zi rn, .ref m_rf, .ref m_rr, .ref m_ik, .ref m_km, .ref m_kb, .ref m_kc, .ref m_kf, .ref m_kr])), (m_boat, .inl (y 0, 42, .inl (cI MB))), (m_coins, .inl (y 0, 144, .inl (cI MC)))]) (wrest := [(m_gut, .inl (y 0, 36, .inl (cI MG))), (m_chan, .inl (y 1, 13312, .inr (.inl (cL MCh))))]) hC (c_X12_lifeOf l D y m0 m_read rl rp m_gut gl gp gx gy m_text tn fn m_boat m_coins vw vm vn m_rest m_ends vc m_chan m_spl fs rn m_rf m_rr m_ik m_km m_kb m_kc m_kf m_kr MB MC bq (by first | assumption | omega) (by first | assumption | omega) _) (cwV 1 hts gX12_home_X12_lifeOf rfl rfl rfl (by decide +kernel) ⟨Nat.le_of_ble_eq_true rfl, Nat.le_of_ble_eq_true rfl⟩) hG hP hD hS hA [0, 2, 3] [1, 4] rfl rfl (by decide) (by decide) (by decide) va_P_nil ro_nil 0 rfl rfl rfl hl.1 rfl (Nat.le_of_ble_eq_true rfl) dX12_home_23 ⟨Nat.le_of_ble_eq_true rfl, Nat.le_of_ble_eq_true rfl⟩ (fun u9 H locs hw_4 hP hD hS => ?_)
      obtain ⟨vw2_1, vm2_2, vn2_3⟩ := u9
      have hw_4 : True := hw_4
      have hP : va_P D vwCl [(m_gut, .inl (y 0, 36, .inl (cI MG))), (m_chan, .inl (y 1, 13312, .inr (.inl (cL MCh)))), (m0, .inr (11, [.ref m_read, zi rl, zi rp, .ref m_gut, zi gl, zi gp, zi gx, zi gy, .ref m_text, zi tn, zi fn, .ref m_boat, .ref m_coins, zi vw2_1, zi vm2_2, zi vn2_3, .ref m_rest, .ref m_ends, zl vc, .ref m_chan, .ref m_spl, zi fs, zi rn, .ref m_rf, .ref m_rr, .ref m_ik, .ref m_km, .ref m_kb, .ref m_kc, .ref m_kf, .ref m_kr])), (m_boat, .inl (y 0, 42, .inl (cI MB))), (m_coins, .inl (y 0, 144, .inl (cI MC)))] H := hP
      have hD : va_D A [(m_gut, .inl (y 0, 36, .inl (cI MG))), (m_chan, .inl (y 1, 13312, .inr (.inl (cL MCh)))), (m0, .inr (11, [.ref m_read, zi rl, zi rp, .ref m_gut, zi gl, zi gp, zi gx, zi gy, .ref m_text, zi tn, zi fn, .ref m_boat, .ref m_coins, zi vw2_1, zi vm2_2, zi vn2_3, .ref m_rest, .ref m_ends, zl vc, .ref m_chan, .ref m_spl, zi fs, zi rn, .ref m_rf, .ref m_rr, .ref m_ik, .ref m_km, .ref m_kb, .ref m_kc, .ref m_kf, .ref m_kr])), (m_boat, .inl (y 0, 42, .inl (cI MB))), (m_coins, .inl (y 0, 144, .inl (cI MC)))] := hD
      refine z_wV (As := [zi (lifeV (MB (7 * bq)) (MB (7 * bq + 1)) (MB (7 * bq + 2)) (MB (7 * bq + 3)) (MB (7 * bq + 4)) (MB (7 * bq + 5)) (MB (7 * bq + 6)) (mCI MC bq) (mCJ MC bq) (mCW MC bq))]) (rest := []) (wc := [(m0, .inr (11, [.ref m_read, zi rl, zi rp, .ref m_gut, zi gl, zi gp, zi gx, zi gy, .ref m_text, zi tn, zi fn, .ref m_boat, .ref m_coins, zi vw2_1, zi vm2_2, zi vn2_3, .ref m_rest, .ref m_ends, zl vc, .ref m_chan, .ref m_spl, zi fs, zi rn, .ref m_rf, .ref m_rr, .ref m_ik, .ref m_km, .ref m_kb, .ref m_kc, .ref m_kf, .ref m_kr])), (m_gut, .inl (y 0, 36, .inl (cI MG))), (m_chan, .inl (y 1, 13312, .inr (.inl (cL MCh))))]) (wrest := [(m_boat, .inl (y 0, 42, .inl (cI MB))), (m_coins, .inl (y 0, 144, .inl (cI MC)))]) hC (c_X12_layHome l D y m0 m_read rl rp m_gut gl gp gx gy m_text tn fn m_boat m_coins vw2_1 vm2_2 vn2_3 m_rest m_ends vc m_chan m_spl fs rn m_rf m_rr m_ik m_km m_kb m_kc m_kf m_kr MG MCh (lifeV (MB (7 * bq)) (MB (7 * bq + 1)) (MB (7 * bq + 2)) (MB (7 * bq + 3)) (MB (7 * bq + 4)) (MB (7 * bq + 5)) (MB (7 * bq + 6)) (mCI MC bq) (mCJ MC bq) (mCW MC bq)) (by first | assumption | omega) (by first | assumption | omega) _) (cwV 1 hts gX12_home_X12_layHome rfl rfl rfl (by decide +kernel) ⟨Nat.le_of_ble_eq_true rfl, Nat.le_of_ble_eq_true rfl⟩) hG hP hD hS hA [2, 0, 1] [3, 4] rfl rfl (by decide) (by decide) (by decide) va_P_nil ro_nil 0 rfl rfl rfl hl.1 rfl (Nat.le_of_ble_eq_true rfl) dX12_home_26 ⟨Nat.le_of_ble_eq_true rfl, Nat.le_of_ble_eq_true rfl⟩ (fun u9 H locs hw_6 hP hD hS => ?_)
      obtain ⟨MCh2, rfl⟩ : ∃ z9, z9 = u9 := ⟨_, rfl⟩
      have hw_6 : ∀ p la t : Int, 0 ≤ p → p < gp → 0 ≤ la → la < gl → 0 ≤ t → t < 256 → MCh2 (1024 * p + 256 * la + t) = chH gl gp gx gy MG (lifeV (MB (7 * bq)) (MB (7 * bq + 1)) (MB (7 * bq + 2)) (MB (7 * bq + 3)) (MB (7 * bq + 4)) (MB (7 * bq + 5)) (MB (7 * bq + 6)) (mCI MC bq) (mCJ MC bq) (mCW MC bq)) (gp - p).toNat la t := hw_6
      have hP : va_P D vwCl [(m_boat, .inl (y 0, 42, .inl (cI MB))), (m_coins, .inl (y 0, 144, .inl (cI MC))), (m0, .inr (11, [.ref m_read, zi rl, zi rp, .ref m_gut, zi gl, zi gp, zi gx, zi gy, .ref m_text, zi tn, zi fn, .ref m_boat, .ref m_coins, zi vw2_1, zi vm2_2, zi vn2_3, .ref m_rest, .ref m_ends, zl vc, .ref m_chan, .ref m_spl, zi fs, zi rn, .ref m_rf, .ref m_rr, .ref m_ik, .ref m_km, .ref m_kb, .ref m_kc, .ref m_kf, .ref m_kr])), (m_gut, .inl (y 0, 36, .inl (cI MG))), (m_chan, .inl (y 1, 13312, .inr (.inl (cL MCh2))))] H := hP
      have hD : va_D A [(m_boat, .inl (y 0, 42, .inl (cI MB))), (m_coins, .inl (y 0, 144, .inl (cI MC))), (m0, .inr (11, [.ref m_read, zi rl, zi rp, .ref m_gut, zi gl, zi gp, zi gx, zi gy, .ref m_text, zi tn, zi fn, .ref m_boat, .ref m_coins, zi vw2_1, zi vm2_2, zi vn2_3, .ref m_rest, .ref m_ends, zl vc, .ref m_chan, .ref m_spl, zi fs, zi rn, .ref m_rf, .ref m_rr, .ref m_ik, .ref m_km, .ref m_kb, .ref m_kc, .ref m_kf, .ref m_kr])), (m_gut, .inl (y 0, 36, .inl (cI MG))), (m_chan, .inl (y 1, 13312, .inr (.inl (cL MCh2))))] := hD
      have f1 := hw_6 0 la 0 (by omega) (by omega) hla.1 hla.2 (by omega) (by omega)
      rw [show 1024 * 0 + 256 * la + 0 = 256 * la by omega, Int.sub_zero] at f1
      refine lv_aload_n hx hb dX12_home_29 rfl (lv_at hl 0 rfl) ?_
      refine va_get hx hb hts hinX12 hown hK hP 2 rfl rfl 19 (by decide) k2 (fun _ h => h) rfl dX12_home_30 ?_
      refine z_sipush hx hb dX12_home_33 (by decide) ?_
      refine lv_iload_n hx hb dX12_home_36 rfl (lv_at hl 2 rfl) ?_
      refine z_imul hx hb dX12_home_37 ?_
      refine z_lald hx hb hK hP 4 1 rfl rfl (by omega) (by decide) dX12_home_38 ?_
      refine lv_aload_n hx hb dX12_home_39 rfl (lv_at hl 0 rfl) ?_
      refine z_pV (As := []) (rest := [zl (MCh2 (256 * la))]) hC (c_X12_whole l D y m0 m_read rl rp m_gut gl gp gx gy m_text tn fn m_boat m_coins vw2_1 vm2_2 vn2_3 m_rest m_ends vc m_chan m_spl fs rn m_rf m_rr m_ik m_km m_kb m_kc m_kf m_kr (by first | assumption | omega)) (cwV 0 hts gX12_home_X12_whole rfl rfl rfl (by decide +kernel) ⟨Nat.le_of_ble_eq_true rfl, Nat.le_of_ble_eq_true rfl⟩) hG (hP.sub (ws' := [(m0, .inr (11, [.ref m_read, zi rl, zi rp, .ref m_gut, zi gl, zi gp, zi gx, zi gy, .ref m_text, zi tn, zi fn, .ref m_boat, .ref m_coins, zi vw2_1, zi vm2_2, zi vn2_3, .ref m_rest, .ref m_ends, zl vc, .ref m_chan, .ref m_spl, zi fs, zi rn, .ref m_rf, .ref m_rr, .ref m_ik, .ref m_km, .ref m_kb, .ref m_kc, .ref m_kf, .ref m_kr]))]) [2] rfl) 0 rfl rfl rfl hl.1 rfl (Nat.le_of_ble_eq_true rfl) dX12_home_40 ⟨Nat.le_of_ble_eq_true rfl, Nat.le_of_ble_eq_true rfl⟩ ?_
      refine lv_iload_n hx hb dX12_home_43 rfl (lv_at hl 3 rfl) ?_
      refine z_pS (As := [zl (MCh2 (256 * la)), zl (10 ^ gp.toNat), zi uq]) (rest := []) hC (c_X12_part l D y (MCh2 (256 * la)) (10 ^ gp.toNat) uq (by first | assumption | omega) (by first | assumption | omega)) (va_cwS 3 hts gX12_home_X12_part rfl rfl rfl (by decide +kernel) ⟨Nat.le_of_ble_eq_true rfl, Nat.le_of_ble_eq_true rfl⟩) hG va_P_nil rfl hl.1 rfl (Nat.le_of_ble_eq_true rfl) dX12_home_44 ⟨Nat.le_of_ble_eq_true rfl, Nat.le_of_ble_eq_true rfl⟩ ?_
      exact z_lretW hx hb hr hlocks (vw2_1, vm2_2, vn2_3, MCh2) (by exact congrArg (fun z => some (zl z)) (by rw [f1])) (trivial) (hP.sub [2, 3, 0, 1, 4] rfl) (hD.sub [2, 3, 0, 1, 4] (by decide) rfl) hS dX12_home_47
    · exfalso; omega
set_option maxHeartbeats 8000000 in
set_option maxRecDepth 100000 in
theorem c_X12_first_no (l : Launch) (D : va_G) (y : Nat → ClassId) (m0 : Nat) (m_read : Nat) (rl : Int) (rp : Int) (m_gut : Nat) (gl : Int) (gp : Int) (gx : Int) (gy : Int) (m_text : Nat) (tn : Int) (fn : Int) (m_boat : Nat) (m_coins : Nat) (vw : Int) (vm : Int) (vn : Int) (m_rest : Nat) (m_ends : Nat) (vc : Int) (m_chan : Nat) (m_spl : Nat) (fs : Int) (rn : Int) (m_rf : Nat) (m_rr : Nat) (m_ik : Nat) (m_km : Nat) (m_kb : Nat) (m_kc : Nat) (m_kf : Nat) (m_kr : Nat) (bq : Int) (la : Int) (hbq : rI bq ∧ 0 ≤ fn ∧ fn ≤ 6) (hla : rI la ∧ 1 ≤ gl ∧ gl ≤ 3) (hq : ¬ (0 ≤ bq ∧ bq < fn) ∨ ¬ (0 ≤ la ∧ la < gl)) : Met l yX12_first wsX12_first ({ frames := 2, cells := 0, slots := 0, locals := 46 } : Room) (pPc D y [(m0, .inr (11, [.ref m_read, zi rl, zi rp, .ref m_gut, zi gl, zi gp, zi gx, zi gy, .ref m_text, zi tn, zi fn, .ref m_boat, .ref m_coins, zi vw, zi vm, zi vn, .ref m_rest, .ref m_ends, zl vc, .ref m_chan, .ref m_spl, zi fs, zi rn, .ref m_rf, .ref m_rr, .ref m_ik, .ref m_km, .ref m_kb, .ref m_kc, .ref m_kf, .ref m_kr]))] [.ref m0, zi bq, zi la]) (qV (zi (-1))) 0 0 (fun _ => False) := by
  refine P_of (own := RX12) (cc := cX12_first) (maxL := 6) (ret := some .int) (by decide) rfl rfl (Nat.le_of_ble_eq_true rfl) (fun p e s m below meth c ls hx hb hr hC hlocks hPr hG hl => ?_)
  have hC0 := hC
  obtain ⟨-, -, hml, hown, hts⟩ := hC0
  have hK := hG.1
  have hl : lv_has ls 6 [(0, .ref m0), (1, zi bq), (2, zi la)] := hl
  refine lv_aload_n hx hb dX12_first_0 rfl (lv_at hl 0 rfl) ?_
  refine lv_iload_n hx hb dX12_first_1 rfl (lv_at hl 1 rfl) ?_
  refine z_pV (As := [zi bq]) (rest := []) hC (c_X12_isBoat l D y m0 m_read rl rp m_gut gl gp gx gy m_text tn fn m_boat m_coins vw vm vn m_rest m_ends vc m_chan m_spl fs rn m_rf m_rr m_ik m_km m_kb m_kc m_kf m_kr bq (by first | assumption | omega) (by first | assumption | omega)) (cwV 1 hts gX12_first_X12_isBoat rfl rfl rfl (by decide +kernel) ⟨Nat.le_of_ble_eq_true rfl, Nat.le_of_ble_eq_true rfl⟩) hG (hPr.sub (ws' := [(m0, .inr (11, [.ref m_read, zi rl, zi rp, .ref m_gut, zi gl, zi gp, zi gx, zi gy, .ref m_text, zi tn, zi fn, .ref m_boat, .ref m_coins, zi vw, zi vm, zi vn, .ref m_rest, .ref m_ends, zl vc, .ref m_chan, .ref m_spl, zi fs, zi rn, .ref m_rf, .ref m_rr, .ref m_ik, .ref m_km, .ref m_kb, .ref m_kc, .ref m_kf, .ref m_kr]))]) [0] rfl) 0 rfl rfl rfl hl.1 rfl (Nat.le_of_ble_eq_true rfl) dX12_first_2 ⟨Nat.le_of_ble_eq_true rfl, Nat.le_of_ble_eq_true rfl⟩ ?_
  refine z_ifB_eq (tgt := 16) hx hb dX12_first_5 (by decide) (fun c_5 => ?_) (fun c_5 => ?_)
  ·
    refine z_iconst hx hb dX12_first_16 ?_
    exact z_iret0 hx hb hr hlocks (rfl) dX12_first_17
  ·
    refine lv_aload_n hx hb dX12_first_8 rfl (lv_at hl 0 rfl) ?_
    refine lv_iload_n hx hb dX12_first_9 rfl (lv_at hl 2 rfl) ?_
    refine z_pV (As := [zi la]) (rest := []) hC (c_X12_isLane l D y m0 m_read rl rp m_gut gl gp gx gy m_text tn fn m_boat m_coins vw vm vn m_rest m_ends vc m_chan m_spl fs rn m_rf m_rr m_ik m_km m_kb m_kc m_kf m_kr la (by first | assumption | omega) (by first | assumption | omega)) (cwV 1 hts gX12_first_X12_isLane rfl rfl rfl (by decide +kernel) ⟨Nat.le_of_ble_eq_true rfl, Nat.le_of_ble_eq_true rfl⟩) hG (hPr.sub (ws' := [(m0, .inr (11, [.ref m_read, zi rl, zi rp, .ref m_gut, zi gl, zi gp, zi gx, zi gy, .ref m_text, zi tn, zi fn, .ref m_boat, .ref m_coins, zi vw, zi vm, zi vn, .ref m_rest, .ref m_ends, zl vc, .ref m_chan, .ref m_spl, zi fs, zi rn, .ref m_rf, .ref m_rr, .ref m_ik, .ref m_km, .ref m_kb, .ref m_kc, .ref m_kf, .ref m_kr]))]) [0] rfl) 0 rfl rfl rfl hl.1 rfl (Nat.le_of_ble_eq_true rfl) dX12_first_10 ⟨Nat.le_of_ble_eq_true rfl, Nat.le_of_ble_eq_true rfl⟩ ?_
    refine z_ifB_ne (tgt := 18) hx hb dX12_first_13 (by decide) (fun c_13 => ?_) (fun c_13 => ?_)
    · exfalso; omega
    ·
      refine z_iconst hx hb dX12_first_16 ?_
      exact z_iret0 hx hb hr hlocks (rfl) dX12_first_17
set_option maxHeartbeats 8000000 in
set_option maxRecDepth 100000 in
theorem c_X12_first_one (l : Launch) (D : va_G) (y : Nat → ClassId) (m0 : Nat) (m_read : Nat) (rl : Int) (rp : Int) (m_gut : Nat) (gl : Int) (gp : Int) (gx : Int) (gy : Int) (m_text : Nat) (tn : Int) (fn : Int) (m_boat : Nat) (m_coins : Nat) (vw : Int) (vm : Int) (vn : Int) (m_rest : Nat) (m_ends : Nat) (vc : Int) (m_chan : Nat) (m_spl : Nat) (fs : Int) (rn : Int) (m_rf : Nat) (m_rr : Nat) (m_ik : Nat) (m_km : Nat) (m_kb : Nat) (m_kc : Nat) (m_kf : Nat) (m_kr : Nat) (bq : Int) (la : Int) (hbq : 0 ≤ bq ∧ bq < fn) (hf0 : fn ≤ 6) (hla : 0 ≤ la ∧ la < gl) (hgl : gl ≤ 3) (hgp : gp = 1) : Met l yX12_first wsX12_first ({ frames := 2, cells := 0, slots := 0, locals := 46 } : Room) (pPc D y [(m0, .inr (11, [.ref m_read, zi rl, zi rp, .ref m_gut, zi gl, zi gp, zi gx, zi gy, .ref m_text, zi tn, zi fn, .ref m_boat, .ref m_coins, zi vw, zi vm, zi vn, .ref m_rest, .ref m_ends, zl vc, .ref m_chan, .ref m_spl, zi fs, zi rn, .ref m_rf, .ref m_rr, .ref m_ik, .ref m_km, .ref m_kb, .ref m_kc, .ref m_kf, .ref m_kr]))] [.ref m0, zi bq, zi la]) (qV (zi (-3))) 0 0 (fun _ => False) := by
  refine P_of (own := RX12) (cc := cX12_first) (maxL := 6) (ret := some .int) (by decide) rfl rfl (Nat.le_of_ble_eq_true rfl) (fun p e s m below meth c ls hx hb hr hC hlocks hPr hG hl => ?_)
  have hC0 := hC
  obtain ⟨-, -, hml, hown, hts⟩ := hC0
  have hK := hG.1
  have hinX12 : ∀ w ∈ wsX120, w ∈ wsX12_first := fun _ h => List.mem_cons_of_mem _ (List.mem_append_right _ h)
  have k1 := hts (.fieldLink RX12 67 "BoatsOfPaperModel" "places" "I") (List.mem_of_getElem? (i := 1) rfl)
  have hl : lv_has ls 6 [(0, .ref m0), (1, zi bq), (2, zi la)] := hl
  refine lv_aload_n hx hb dX12_first_0 rfl (lv_at hl 0 rfl) ?_
  refine lv_iload_n hx hb dX12_first_1 rfl (lv_at hl 1 rfl) ?_
  refine z_pV (As := [zi bq]) (rest := []) hC (c_X12_isBoat l D y m0 m_read rl rp m_gut gl gp gx gy m_text tn fn m_boat m_coins vw vm vn m_rest m_ends vc m_chan m_spl fs rn m_rf m_rr m_ik m_km m_kb m_kc m_kf m_kr bq (by first | assumption | omega) (by first | assumption | omega)) (cwV 1 hts gX12_first_X12_isBoat rfl rfl rfl (by decide +kernel) ⟨Nat.le_of_ble_eq_true rfl, Nat.le_of_ble_eq_true rfl⟩) hG (hPr.sub (ws' := [(m0, .inr (11, [.ref m_read, zi rl, zi rp, .ref m_gut, zi gl, zi gp, zi gx, zi gy, .ref m_text, zi tn, zi fn, .ref m_boat, .ref m_coins, zi vw, zi vm, zi vn, .ref m_rest, .ref m_ends, zl vc, .ref m_chan, .ref m_spl, zi fs, zi rn, .ref m_rf, .ref m_rr, .ref m_ik, .ref m_km, .ref m_kb, .ref m_kc, .ref m_kf, .ref m_kr]))]) [0] rfl) 0 rfl rfl rfl hl.1 rfl (Nat.le_of_ble_eq_true rfl) dX12_first_2 ⟨Nat.le_of_ble_eq_true rfl, Nat.le_of_ble_eq_true rfl⟩ ?_
  refine z_ifB_eq (tgt := 16) hx hb dX12_first_5 (by decide) (fun c_5 => ?_) (fun c_5 => ?_)
  · exfalso; omega
  ·
    refine lv_aload_n hx hb dX12_first_8 rfl (lv_at hl 0 rfl) ?_
    refine lv_iload_n hx hb dX12_first_9 rfl (lv_at hl 2 rfl) ?_
    refine z_pV (As := [zi la]) (rest := []) hC (c_X12_isLane l D y m0 m_read rl rp m_gut gl gp gx gy m_text tn fn m_boat m_coins vw vm vn m_rest m_ends vc m_chan m_spl fs rn m_rf m_rr m_ik m_km m_kb m_kc m_kf m_kr la (by first | assumption | omega) (by first | assumption | omega)) (cwV 1 hts gX12_first_X12_isLane rfl rfl rfl (by decide +kernel) ⟨Nat.le_of_ble_eq_true rfl, Nat.le_of_ble_eq_true rfl⟩) hG (hPr.sub (ws' := [(m0, .inr (11, [.ref m_read, zi rl, zi rp, .ref m_gut, zi gl, zi gp, zi gx, zi gy, .ref m_text, zi tn, zi fn, .ref m_boat, .ref m_coins, zi vw, zi vm, zi vn, .ref m_rest, .ref m_ends, zl vc, .ref m_chan, .ref m_spl, zi fs, zi rn, .ref m_rf, .ref m_rr, .ref m_ik, .ref m_km, .ref m_kb, .ref m_kc, .ref m_kf, .ref m_kr]))]) [0] rfl) 0 rfl rfl rfl hl.1 rfl (Nat.le_of_ble_eq_true rfl) dX12_first_10 ⟨Nat.le_of_ble_eq_true rfl, Nat.le_of_ble_eq_true rfl⟩ ?_
    refine z_ifB_ne (tgt := 18) hx hb dX12_first_13 (by decide) (fun c_13 => ?_) (fun c_13 => ?_)
    ·
      refine lv_aload_n hx hb dX12_first_18 rfl (lv_at hl 0 rfl) ?_
      refine va_get hx hb hts hinX12 hown hK hPr 0 rfl rfl 5 (by decide) k1 (fun _ h => h) rfl dX12_first_19 ?_
      refine z_iconst hx hb dX12_first_22 ?_
      refine z_icmp_ne (tgt := 29) hx hb (by omega) (by omega) dX12_first_23 (by decide) (fun c_23 => ?_) (fun c_23 => ?_)
      · exfalso; omega
      ·
        refine z_bipush hx hb dX12_first_26 (by decide) ?_
        exact z_iret0 hx hb hr hlocks (rfl) dX12_first_28
    · exfalso; omega
set_option maxHeartbeats 8000000 in
set_option maxRecDepth 100000 in
theorem c_X12_first (l : Launch) (D : va_G) (y : Nat → ClassId) (m0 : Nat) (m_read : Nat) (rl : Int) (rp : Int) (m_gut : Nat) (gl : Int) (gp : Int) (gx : Int) (gy : Int) (m_text : Nat) (tn : Int) (fn : Int) (m_boat : Nat) (m_coins : Nat) (vw : Int) (vm : Int) (vn : Int) (m_rest : Nat) (m_ends : Nat) (vc : Int) (m_chan : Nat) (m_spl : Nat) (fs : Int) (rn : Int) (m_rf : Nat) (m_rr : Nat) (m_ik : Nat) (m_km : Nat) (m_kb : Nat) (m_kc : Nat) (m_kf : Nat) (m_kr : Nat) (MG : Int → Int) (MB : Int → Int) (MC : Int → Int) (MCh : Int → Int) (bq : Int) (la : Int) (hM : mbOK fn MB MC) (hbq : 0 ≤ bq ∧ bq < fn) (hg : gOK gl gp gx gy MG) (hla : 0 ≤ la ∧ la < gl) (hgp : 2 ≤ gp) (sz : Nat) : Met l yX12_first wsX12_first ({ frames := 5, cells := 0, slots := 0, locals := 130 } : Room) (wPc D y [] [(m0, .inr (11, [.ref m_read, zi rl, zi rp, .ref m_gut, zi gl, zi gp, zi gx, zi gy, .ref m_text, zi tn, zi fn, .ref m_boat, .ref m_coins, zi vw, zi vm, zi vn, .ref m_rest, .ref m_ends, zl vc, .ref m_chan, .ref m_spl, zi fs, zi rn, .ref m_rf, .ref m_rr, .ref m_ik, .ref m_km, .ref m_kb, .ref m_kc, .ref m_kf, .ref m_kr])), (m_gut, .inl (y 0, 36, .inl (cI MG))), (m_boat, .inl (y 0, 42, .inl (cI MB))), (m_coins, .inl (y 0, 144, .inl (cI MC))), (m_chan, .inl (y 1, 13312, .inr (.inl (cL MCh))))] sz [.ref m0, zi bq, zi la]) (wQ D (fun (x9 : Int × Int × Int × (Int → Int)) => match x9 with | (vw2, vm2, vn2, MCh2) => some (zi (frsV gl gp gx gy MG (lifeV (MB (7 * bq)) (MB (7 * bq + 1)) (MB (7 * bq + 2)) (MB (7 * bq + 3)) (MB (7 * bq + 4)) (MB (7 * bq + 5)) (MB (7 * bq + 6)) (mCI MC bq) (mCJ MC bq) (mCW MC bq)) la))) (fun (x9 : Int × Int × Int × (Int → Int)) => match x9 with | (vw2, vm2, vn2, MCh2) => True) (fun (x9 : Int × Int × Int × (Int → Int)) => match x9 with | (vw2, vm2, vn2, MCh2) => [(m0, .inr (11, [.ref m_read, zi rl, zi rp, .ref m_gut, zi gl, zi gp, zi gx, zi gy, .ref m_text, zi tn, zi fn, .ref m_boat, .ref m_coins, zi vw2, zi vm2, zi vn2, .ref m_rest, .ref m_ends, zl vc, .ref m_chan, .ref m_spl, zi fs, zi rn, .ref m_rf, .ref m_rr, .ref m_ik, .ref m_km, .ref m_kb, .ref m_kc, .ref m_kf, .ref m_kr])), (m_gut, .inl (y 0, 36, .inl (cI MG))), (m_boat, .inl (y 0, 42, .inl (cI MB))), (m_coins, .inl (y 0, 144, .inl (cI MC))), (m_chan, .inl (y 1, 13312, .inr (.inl (cL MCh2))))]) (va_A [(m0, .inr (11, [.ref m_read, zi rl, zi rp, .ref m_gut, zi gl, zi gp, zi gx, zi gy, .ref m_text, zi tn, zi fn, .ref m_boat, .ref m_coins, zi vw, zi vm, zi vn, .ref m_rest, .ref m_ends, zl vc, .ref m_chan, .ref m_spl, zi fs, zi rn, .ref m_rf, .ref m_rr, .ref m_ik, .ref m_km, .ref m_kb, .ref m_kc, .ref m_kf, .ref m_kr])), (m_gut, .inl (y 0, 36, .inl (cI MG))), (m_boat, .inl (y 0, 42, .inl (cI MB))), (m_coins, .inl (y 0, 144, .inl (cI MC))), (m_chan, .inl (y 1, 13312, .inr (.inl (cL MCh))))] sz)) 0 0 (va_A [(m0, .inr (11, [.ref m_read, zi rl, zi rp, .ref m_gut, zi gl, zi gp, zi gx, zi gy, .ref m_text, zi tn, zi fn, .ref m_boat, .ref m_coins, zi vw, zi vm, zi vn, .ref m_rest, .ref m_ends, zl vc, .ref m_chan, .ref m_spl, zi fs, zi rn, .ref m_rf, .ref m_rr, .ref m_ik, .ref m_km, .ref m_kb, .ref m_kc, .ref m_kf, .ref m_kr])), (m_gut, .inl (y 0, 36, .inl (cI MG))), (m_boat, .inl (y 0, 42, .inl (cI MB))), (m_coins, .inl (y 0, 144, .inl (cI MC))), (m_chan, .inl (y 1, 13312, .inr (.inl (cL MCh))))] sz) := by
  refine W_of (own := RX12) (cc := cX12_first) (maxL := 6) (ret := some .int) (by decide) rfl rfl (Nat.le_of_ble_eq_true rfl) (fun p e s m below meth c ls A hx hb hr hC hlocks hin0 hR0 hN hP hD hA hG hl => ?_)
  have hC0 := hC
  obtain ⟨-, -, hml, hown, hts⟩ := hC0
  have hK := hG.1
  have hS : va_S A s.heap s.heap [] := va_S.rf
  have hPr := hR0
  have hinX12 : ∀ w ∈ wsX120, w ∈ wsX12_first := fun _ h => List.mem_cons_of_mem _ (List.mem_append_right _ h)
  have k1 := hts (.fieldLink RX12 67 "BoatsOfPaperModel" "places" "I") (List.mem_of_getElem? (i := 1) rfl)
  have k2 := hts (.fieldLink RX12 13 "BoatsOfPaperModel" "gutter" "[I") (List.mem_of_getElem? (i := 2) rfl)
  have k3 := hts (.fieldLink RX12 32 "BoatsOfPaperModel" "chances" "[J") (List.mem_of_getElem? (i := 3) rfl)
  have hl : lv_has ls 6 [(0, .ref m0), (1, zi bq), (2, zi la)] := hl
  have hB := hM.2 bq hbq.1 hbq.2
  obtain ⟨q1, q2, q3, q4, q5, q6, q7, q8, q9, qc⟩ := id hB
  have qf := hM.1
  obtain ⟨u1, u2, u3, u4, uk⟩ := id hg
  have hl9 := lifeV_bd hB
  have t1 := ten12 (r := gp.toNat) (by omega)
  have t3 := chH_bd hg (lifeV (MB (7 * bq)) (MB (7 * bq + 1)) (MB (7 * bq + 2)) (MB (7 * bq + 3)) (MB (7 * bq + 4)) (MB (7 * bq + 5)) (MB (7 * bq + 6)) (mCI MC bq) (mCJ MC bq) (mCW MC bq)) gp.toNat la 0
  have ek := kAt_in (gl := gl) (gp := gp) (GK := MG) (la := la) (pl := 0) (by omega)
  have ekb := kAt_bd hg (la) (0)
  rw [show 12 * la + 0 = 12 * la by omega] at ek
  rw [ek] at ekb
  refine lv_aload_n hx hb dX12_first_0 rfl (lv_at hl 0 rfl) ?_
  refine lv_iload_n hx hb dX12_first_1 rfl (lv_at hl 1 rfl) ?_
  refine z_pV (As := [zi bq]) (rest := []) hC (c_X12_isBoat l D y m0 m_read rl rp m_gut gl gp gx gy m_text tn fn m_boat m_coins vw vm vn m_rest m_ends vc m_chan m_spl fs rn m_rf m_rr m_ik m_km m_kb m_kc m_kf m_kr bq (by first | assumption | omega) (by first | assumption | omega)) (cwV 1 hts gX12_first_X12_isBoat rfl rfl rfl (by decide +kernel) ⟨Nat.le_of_ble_eq_true rfl, Nat.le_of_ble_eq_true rfl⟩) hG (hP.sub (ws' := [(m0, .inr (11, [.ref m_read, zi rl, zi rp, .ref m_gut, zi gl, zi gp, zi gx, zi gy, .ref m_text, zi tn, zi fn, .ref m_boat, .ref m_coins, zi vw, zi vm, zi vn, .ref m_rest, .ref m_ends, zl vc, .ref m_chan, .ref m_spl, zi fs, zi rn, .ref m_rf, .ref m_rr, .ref m_ik, .ref m_km, .ref m_kb, .ref m_kc, .ref m_kf, .ref m_kr]))]) [0] rfl) 0 rfl rfl rfl hl.1 rfl (Nat.le_of_ble_eq_true rfl) dX12_first_2 ⟨Nat.le_of_ble_eq_true rfl, Nat.le_of_ble_eq_true rfl⟩ ?_
  refine z_ifB_eq (tgt := 16) hx hb dX12_first_5 (by decide) (fun c_5 => ?_) (fun c_5 => ?_)
  · exfalso; omega
  ·
    refine lv_aload_n hx hb dX12_first_8 rfl (lv_at hl 0 rfl) ?_
    refine lv_iload_n hx hb dX12_first_9 rfl (lv_at hl 2 rfl) ?_
    refine z_pV (As := [zi la]) (rest := []) hC (c_X12_isLane l D y m0 m_read rl rp m_gut gl gp gx gy m_text tn fn m_boat m_coins vw vm vn m_rest m_ends vc m_chan m_spl fs rn m_rf m_rr m_ik m_km m_kb m_kc m_kf m_kr la (by first | assumption | omega) (by first | assumption | omega)) (cwV 1 hts gX12_first_X12_isLane rfl rfl rfl (by decide +kernel) ⟨Nat.le_of_ble_eq_true rfl, Nat.le_of_ble_eq_true rfl⟩) hG (hP.sub (ws' := [(m0, .inr (11, [.ref m_read, zi rl, zi rp, .ref m_gut, zi gl, zi gp, zi gx, zi gy, .ref m_text, zi tn, zi fn, .ref m_boat, .ref m_coins, zi vw, zi vm, zi vn, .ref m_rest, .ref m_ends, zl vc, .ref m_chan, .ref m_spl, zi fs, zi rn, .ref m_rf, .ref m_rr, .ref m_ik, .ref m_km, .ref m_kb, .ref m_kc, .ref m_kf, .ref m_kr]))]) [0] rfl) 0 rfl rfl rfl hl.1 rfl (Nat.le_of_ble_eq_true rfl) dX12_first_10 ⟨Nat.le_of_ble_eq_true rfl, Nat.le_of_ble_eq_true rfl⟩ ?_
    refine z_ifB_ne (tgt := 18) hx hb dX12_first_13 (by decide) (fun c_13 => ?_) (fun c_13 => ?_)
    ·
      refine lv_aload_n hx hb dX12_first_18 rfl (lv_at hl 0 rfl) ?_
      refine va_get hx hb hts hinX12 hown hK hP 0 rfl rfl 5 (by decide) k1 (fun _ h => h) rfl dX12_first_19 ?_
      refine z_iconst hx hb dX12_first_22 ?_
      refine z_icmp_ne (tgt := 29) hx hb (by omega) (by omega) dX12_first_23 (by decide) (fun c_23 => ?_) (fun c_23 => ?_)
      ·
        refine lv_aload_n hx hb dX12_first_29 rfl (lv_at hl 0 rfl) ?_
        refine lv_aload_n hx hb dX12_first_30 rfl (lv_at hl 0 rfl) ?_
        refine lv_iload_n hx hb dX12_first_31 rfl (lv_at hl 1 rfl) ?_
        refine z_wV (As := [zi bq]) (rest := [.ref m0]) (wc := [(m0, .inr (11, [.ref m_read, zi rl, zi rp, .ref m_gut, zi gl, zi gp, zi gx, zi gy, .ref m_text, zi tn, zi fn, .ref m_boat, .ref m_coins, zi vw, zi vm, zi vn, .ref m_rest, .ref m_ends, zl vc, .ref m_chan, .ref m_spl, zi fs, zi rn, .ref m_rf, .ref m_rr, .ref m_ik, .ref m_km, .ref m_kb, .ref m_kc, .ref m_kf, .ref m_kr])), (m_boat, .inl (y 0, 42, .inl (cI MB))), (m_coins, .inl (y 0, 144, .inl (cI MC)))]) (wrest := [(m_gut, .inl (y 0, 36, .inl (cI MG))), (m_chan, .inl (y 1, 13312, .inr (.inl (cL MCh))))]) hC (c_X12_lifeOf l D y m0 m_read rl rp m_gut gl gp gx gy m_text tn fn m_boat m_coins vw vm vn m_rest m_ends vc m_chan m_spl fs rn m_rf m_rr m_ik m_km m_kb m_kc m_kf m_kr MB MC bq (by first | assumption | omega) (by first | assumption | omega) _) (cwV 1 hts gX12_first_X12_lifeOf rfl rfl rfl (by decide +kernel) ⟨Nat.le_of_ble_eq_true rfl, Nat.le_of_ble_eq_true rfl⟩) hG hP hD hS hA [0, 2, 3] [1, 4] rfl rfl (by decide) (by decide) (by decide) va_P_nil ro_nil 0 rfl rfl rfl hl.1 rfl (Nat.le_of_ble_eq_true rfl) dX12_first_32 ⟨Nat.le_of_ble_eq_true rfl, Nat.le_of_ble_eq_true rfl⟩ (fun u9 H locs hw_4 hP hD hS => ?_)
        obtain ⟨vw2_1, vm2_2, vn2_3⟩ := u9
        have hw_4 : True := hw_4
        have hP : va_P D vwCl [(m_gut, .inl (y 0, 36, .inl (cI MG))), (m_chan, .inl (y 1, 13312, .inr (.inl (cL MCh)))), (m0, .inr (11, [.ref m_read, zi rl, zi rp, .ref m_gut, zi gl, zi gp, zi gx, zi gy, .ref m_text, zi tn, zi fn, .ref m_boat, .ref m_coins, zi vw2_1, zi vm2_2, zi vn2_3, .ref m_rest, .ref m_ends, zl vc, .ref m_chan, .ref m_spl, zi fs, zi rn, .ref m_rf, .ref m_rr, .ref m_ik, .ref m_km, .ref m_kb, .ref m_kc, .ref m_kf, .ref m_kr])), (m_boat, .inl (y 0, 42, .inl (cI MB))), (m_coins, .inl (y 0, 144, .inl (cI MC)))] H := hP
        have hD : va_D A [(m_gut, .inl (y 0, 36, .inl (cI MG))), (m_chan, .inl (y 1, 13312, .inr (.inl (cL MCh)))), (m0, .inr (11, [.ref m_read, zi rl, zi rp, .ref m_gut, zi gl, zi gp, zi gx, zi gy, .ref m_text, zi tn, zi fn, .ref m_boat, .ref m_coins, zi vw2_1, zi vm2_2, zi vn2_3, .ref m_rest, .ref m_ends, zl vc, .ref m_chan, .ref m_spl, zi fs, zi rn, .ref m_rf, .ref m_rr, .ref m_ik, .ref m_km, .ref m_kb, .ref m_kc, .ref m_kf, .ref m_kr])), (m_boat, .inl (y 0, 42, .inl (cI MB))), (m_coins, .inl (y 0, 144, .inl (cI MC)))] := hD
        refine z_wV (As := [zi (lifeV (MB (7 * bq)) (MB (7 * bq + 1)) (MB (7 * bq + 2)) (MB (7 * bq + 3)) (MB (7 * bq + 4)) (MB (7 * bq + 5)) (MB (7 * bq + 6)) (mCI MC bq) (mCJ MC bq) (mCW MC bq))]) (rest := []) (wc := [(m0, .inr (11, [.ref m_read, zi rl, zi rp, .ref m_gut, zi gl, zi gp, zi gx, zi gy, .ref m_text, zi tn, zi fn, .ref m_boat, .ref m_coins, zi vw2_1, zi vm2_2, zi vn2_3, .ref m_rest, .ref m_ends, zl vc, .ref m_chan, .ref m_spl, zi fs, zi rn, .ref m_rf, .ref m_rr, .ref m_ik, .ref m_km, .ref m_kb, .ref m_kc, .ref m_kf, .ref m_kr])), (m_gut, .inl (y 0, 36, .inl (cI MG))), (m_chan, .inl (y 1, 13312, .inr (.inl (cL MCh))))]) (wrest := [(m_boat, .inl (y 0, 42, .inl (cI MB))), (m_coins, .inl (y 0, 144, .inl (cI MC)))]) hC (c_X12_layHome l D y m0 m_read rl rp m_gut gl gp gx gy m_text tn fn m_boat m_coins vw2_1 vm2_2 vn2_3 m_rest m_ends vc m_chan m_spl fs rn m_rf m_rr m_ik m_km m_kb m_kc m_kf m_kr MG MCh (lifeV (MB (7 * bq)) (MB (7 * bq + 1)) (MB (7 * bq + 2)) (MB (7 * bq + 3)) (MB (7 * bq + 4)) (MB (7 * bq + 5)) (MB (7 * bq + 6)) (mCI MC bq) (mCJ MC bq) (mCW MC bq)) (by first | assumption | omega) (by first | assumption | omega) _) (cwV 1 hts gX12_first_X12_layHome rfl rfl rfl (by decide +kernel) ⟨Nat.le_of_ble_eq_true rfl, Nat.le_of_ble_eq_true rfl⟩) hG hP hD hS hA [2, 0, 1] [3, 4] rfl rfl (by decide) (by decide) (by decide) va_P_nil ro_nil 0 rfl rfl rfl hl.1 rfl (Nat.le_of_ble_eq_true rfl) dX12_first_35 ⟨Nat.le_of_ble_eq_true rfl, Nat.le_of_ble_eq_true rfl⟩ (fun u9 H locs hw_6 hP hD hS => ?_)
        obtain ⟨MCh2, rfl⟩ : ∃ z9, z9 = u9 := ⟨_, rfl⟩
        have hw_6 : ∀ p la t : Int, 0 ≤ p → p < gp → 0 ≤ la → la < gl → 0 ≤ t → t < 256 → MCh2 (1024 * p + 256 * la + t) = chH gl gp gx gy MG (lifeV (MB (7 * bq)) (MB (7 * bq + 1)) (MB (7 * bq + 2)) (MB (7 * bq + 3)) (MB (7 * bq + 4)) (MB (7 * bq + 5)) (MB (7 * bq + 6)) (mCI MC bq) (mCJ MC bq) (mCW MC bq)) (gp - p).toNat la t := hw_6
        have hP : va_P D vwCl [(m_boat, .inl (y 0, 42, .inl (cI MB))), (m_coins, .inl (y 0, 144, .inl (cI MC))), (m0, .inr (11, [.ref m_read, zi rl, zi rp, .ref m_gut, zi gl, zi gp, zi gx, zi gy, .ref m_text, zi tn, zi fn, .ref m_boat, .ref m_coins, zi vw2_1, zi vm2_2, zi vn2_3, .ref m_rest, .ref m_ends, zl vc, .ref m_chan, .ref m_spl, zi fs, zi rn, .ref m_rf, .ref m_rr, .ref m_ik, .ref m_km, .ref m_kb, .ref m_kc, .ref m_kf, .ref m_kr])), (m_gut, .inl (y 0, 36, .inl (cI MG))), (m_chan, .inl (y 1, 13312, .inr (.inl (cL MCh2))))] H := hP
        have hD : va_D A [(m_boat, .inl (y 0, 42, .inl (cI MB))), (m_coins, .inl (y 0, 144, .inl (cI MC))), (m0, .inr (11, [.ref m_read, zi rl, zi rp, .ref m_gut, zi gl, zi gp, zi gx, zi gy, .ref m_text, zi tn, zi fn, .ref m_boat, .ref m_coins, zi vw2_1, zi vm2_2, zi vn2_3, .ref m_rest, .ref m_ends, zl vc, .ref m_chan, .ref m_spl, zi fs, zi rn, .ref m_rf, .ref m_rr, .ref m_ik, .ref m_km, .ref m_kb, .ref m_kc, .ref m_kf, .ref m_kr])), (m_gut, .inl (y 0, 36, .inl (cI MG))), (m_chan, .inl (y 1, 13312, .inr (.inl (cL MCh2))))] := hD
        have hh := hw_6
        have f1 := hh 0 la 0 (by omega) (by omega) hla.1 hla.2 (by omega) (by omega)
        rw [show 1024 * 0 + 256 * la + 0 = 256 * la by omega, Int.sub_zero] at f1
        refine lv_aload_n hx hb dX12_first_38 rfl (lv_at hl 0 rfl) ?_
        refine va_get hx hb hts hinX12 hown hK hP 2 rfl rfl 3 (by decide) k2 (fun _ h => h) rfl dX12_first_39 ?_
        refine z_bipush hx hb dX12_first_42 (by decide) ?_
        refine lv_iload_n hx hb dX12_first_44 rfl (lv_at hl 2 rfl) ?_
        refine z_imul hx hb dX12_first_45 ?_
        refine z_iald hx hb hK hP 3 0 rfl rfl (by omega) (by decide) dX12_first_46 ?_
        refine z_pS (As := [zi (MG (12 * la))]) (rest := []) hC (c_X12_secondsOf l D y (MG (12 * la)) (by first | assumption | omega)) (va_cwS 1 hts gX12_first_X12_secondsOf rfl rfl rfl (by decide +kernel) ⟨Nat.le_of_ble_eq_true rfl, Nat.le_of_ble_eq_true rfl⟩) hG va_P_nil rfl hl.1 rfl (Nat.le_of_ble_eq_true rfl) dX12_first_47 ⟨Nat.le_of_ble_eq_true rfl, Nat.le_of_ble_eq_true rfl⟩ ?_
        refine lv_istore_n (lv' := [(3, zi (msV (MG (12 * la)))), (0, .ref m0), (1, zi bq), (2, zi la)]) hx hb dX12_first_50 rfl hl (by decide) rfl (fun ls hl => ?_)
        refine lv_aload_n hx hb dX12_first_51 rfl (lv_at hl 1 rfl) ?_
        refine va_get hx hb hts hinX12 hown hK hP 2 rfl rfl 19 (by decide) k3 (fun _ h => h) rfl dX12_first_52 ?_
        refine z_sipush hx hb dX12_first_55 (by decide) ?_
        refine lv_iload_n hx hb dX12_first_58 rfl (lv_at hl 3 rfl) ?_
        refine z_imul hx hb dX12_first_59 ?_
        refine z_lald hx hb hK hP 4 1 rfl rfl (by omega) (by decide) dX12_first_60 ?_
        refine lv_lconst (v := iL 0) hx hb dX12_first_61 rfl ?_
        refine z_lcmp_ne (tgt := 68) hx hb (by omega) (by omega) dX12_first_62 dX12_first_63 (by decide) (fun c_62 => ?_) (fun c_62 => ?_)
        ·
          have ho := home_ok (gl := gl) (gp := gp) (gx := gx) (gy := gy) (GK := MG) (lf := lifeV (MB (7 * bq)) (MB (7 * bq + 1)) (MB (7 * bq + 2)) (MB (7 * bq + 3)) (MB (7 * bq + 4)) (MB (7 * bq + 5)) (MB (7 * bq + 6)) (mCI MC bq) (mCJ MC bq) (mCW MC bq)) (la := la) (by omega) (by rw [← f1]; omega)
          rw [ek] at ho
          have sb := secV_bd ekb
          have x1 := ov_own (gl := gl) (gp := gp) (gx := gx) (gy := gy) (GK := MG) (lf := (lifeV (MB (7 * bq)) (MB (7 * bq + 1)) (MB (7 * bq + 2)) (MB (7 * bq + 3)) (MB (7 * bq + 4)) (MB (7 * bq + 5)) (MB (7 * bq + 6)) (mCI MC bq) (mCJ MC bq) (mCW MC bq))) (pl := 0) (la := la) (s := (msV (MG (12 * la)))) (by omega)
          have x2 := ov_oth (gl := gl) (gp := gp) (gx := gx) (gy := gy) (GK := MG) (lf := (lifeV (MB (7 * bq)) (MB (7 * bq + 1)) (MB (7 * bq + 2)) (MB (7 * bq + 3)) (MB (7 * bq + 4)) (MB (7 * bq + 5)) (MB (7 * bq + 6)) (mCI MC bq) (mCJ MC bq) (mCW MC bq))) (pl := 0) (fr := la) (la := la - 1) (s := (msV (MG (12 * la)))) (by omega) (by omega) (by omega)
          have x3 := ov_oth (gl := gl) (gp := gp) (gx := gx) (gy := gy) (GK := MG) (lf := (lifeV (MB (7 * bq)) (MB (7 * bq + 1)) (MB (7 * bq + 2)) (MB (7 * bq + 3)) (MB (7 * bq + 4)) (MB (7 * bq + 5)) (MB (7 * bq + 6)) (mCI MC bq) (mCJ MC bq) (mCW MC bq))) (pl := 0) (fr := la) (la := la + 1) (s := (msV (MG (12 * la)))) (by omega) (by omega) (by omega)
          have y1 := chI_bdH hg (lifeV (MB (7 * bq)) (MB (7 * bq + 1)) (MB (7 * bq + 2)) (MB (7 * bq + 3)) (MB (7 * bq + 4)) (MB (7 * bq + 5)) (MB (7 * bq + 6)) (mCI MC bq) (mCJ MC bq) (mCW MC bq)) (r := (gp - (0 + 1)).toNat) (by omega) la (msV (MG (12 * la)))
          have y2 := chI_bdH hg (lifeV (MB (7 * bq)) (MB (7 * bq + 1)) (MB (7 * bq + 2)) (MB (7 * bq + 3)) (MB (7 * bq + 4)) (MB (7 * bq + 5)) (MB (7 * bq + 6)) (mCI MC bq) (mCJ MC bq) (mCW MC bq)) (r := (gp - (0 + 1)).toNat) (by omega) (la - 1) ((msV (MG (12 * la))) + 1)
          have y3 := chI_bdH hg (lifeV (MB (7 * bq)) (MB (7 * bq + 1)) (MB (7 * bq + 2)) (MB (7 * bq + 3)) (MB (7 * bq + 4)) (MB (7 * bq + 5)) (MB (7 * bq + 6)) (mCI MC bq) (mCJ MC bq) (mCW MC bq)) (r := (gp - (0 + 1)).toNat) (by omega) (la + 1) ((msV (MG (12 * la))) + 1)
          have xm : ovM gl gp gx gy MG (lifeV (MB (7 * bq)) (MB (7 * bq + 1)) (MB (7 * bq + 2)) (MB (7 * bq + 3)) (MB (7 * bq + 4)) (MB (7 * bq + 5)) (MB (7 * bq + 6)) (mCI MC bq) (mCJ MC bq) (mCW MC bq)) 0 la (msV (MG (12 * la))) = max (chI gl (lifeV (MB (7 * bq)) (MB (7 * bq + 1)) (MB (7 * bq + 2)) (MB (7 * bq + 3)) (MB (7 * bq + 4)) (MB (7 * bq + 5)) (MB (7 * bq + 6)) (mCI MC bq) (mCJ MC bq) (mCW MC bq)) (chH gl gp gx gy MG (lifeV (MB (7 * bq)) (MB (7 * bq + 1)) (MB (7 * bq + 2)) (MB (7 * bq + 3)) (MB (7 * bq + 4)) (MB (7 * bq + 5)) (MB (7 * bq + 6)) (mCI MC bq) (mCJ MC bq) (mCW MC bq)) (gp - (0 + 1)).toNat) la (msV (MG (12 * la)))) (max (chI gl (lifeV (MB (7 * bq)) (MB (7 * bq + 1)) (MB (7 * bq + 2)) (MB (7 * bq + 3)) (MB (7 * bq + 4)) (MB (7 * bq + 5)) (MB (7 * bq + 6)) (mCI MC bq) (mCJ MC bq) (mCW MC bq)) (chH gl gp gx gy MG (lifeV (MB (7 * bq)) (MB (7 * bq + 1)) (MB (7 * bq + 2)) (MB (7 * bq + 3)) (MB (7 * bq + 4)) (MB (7 * bq + 5)) (MB (7 * bq + 6)) (mCI MC bq) (mCJ MC bq) (mCW MC bq)) (gp - (0 + 1)).toNat) (la - 1) ((msV (MG (12 * la))) + 1)) (chI gl (lifeV (MB (7 * bq)) (MB (7 * bq + 1)) (MB (7 * bq + 2)) (MB (7 * bq + 3)) (MB (7 * bq + 4)) (MB (7 * bq + 5)) (MB (7 * bq + 6)) (mCI MC bq) (mCJ MC bq) (mCW MC bq)) (chH gl gp gx gy MG (lifeV (MB (7 * bq)) (MB (7 * bq + 1)) (MB (7 * bq + 2)) (MB (7 * bq + 3)) (MB (7 * bq + 4)) (MB (7 * bq + 5)) (MB (7 * bq + 6)) (mCI MC bq) (mCJ MC bq) (mCW MC bq)) (gp - (0 + 1)).toNat) (la + 1) ((msV (MG (12 * la))) + 1))) := rfl
          rw [Int.zero_add] at x1 x2 x3 y1 y2 y3 xm
          refine lv_aload_n hx hb dX12_first_68 rfl (lv_at hl 1 rfl) ?_
          refine z_iconst hx hb dX12_first_69 ?_
          refine lv_iload_n hx hb dX12_first_70 rfl (lv_at hl 3 rfl) ?_
          refine lv_iload_n hx hb dX12_first_71 rfl (lv_at hl 0 rfl) ?_
          refine z_pV (As := [zi 0, zi la, zi (msV (MG (12 * la)))]) (rest := []) hC (c_X12_bestOver l D y m0 m_read rl rp m_gut gl gp gx gy m_text tn fn m_boat m_coins vw2_1 vm2_2 vn2_3 m_rest m_ends vc m_chan m_spl fs rn m_rf m_rr m_ik m_km m_kb m_kc m_kf m_kr MG MCh2 (lifeV (MB (7 * bq)) (MB (7 * bq + 1)) (MB (7 * bq + 2)) (MB (7 * bq + 3)) (MB (7 * bq + 4)) (MB (7 * bq + 5)) (MB (7 * bq + 6)) (mCI MC bq) (mCJ MC bq) (mCW MC bq)) 0 la (msV (MG (12 * la))) (by first | assumption | omega) (fun la t a0 a1 t0 t1 => hh (0 + 1) la t (by omega) (by omega) a0 a1 t0 t1) (by first | assumption | omega) (by first | assumption | omega) (by first | assumption | omega) (by first | assumption | omega)) (cwV 3 hts gX12_first_X12_bestOver rfl rfl rfl (by decide +kernel) ⟨Nat.le_of_ble_eq_true rfl, Nat.le_of_ble_eq_true rfl⟩) hG (hP.sub (ws' := [(m0, .inr (11, [.ref m_read, zi rl, zi rp, .ref m_gut, zi gl, zi gp, zi gx, zi gy, .ref m_text, zi tn, zi fn, .ref m_boat, .ref m_coins, zi vw2_1, zi vm2_2, zi vn2_3, .ref m_rest, .ref m_ends, zl vc, .ref m_chan, .ref m_spl, zi fs, zi rn, .ref m_rf, .ref m_rr, .ref m_ik, .ref m_km, .ref m_kb, .ref m_kc, .ref m_kf, .ref m_kr])), (m_gut, .inl (y 0, 36, .inl (cI MG))), (m_chan, .inl (y 1, 13312, .inr (.inl (cL MCh2))))]) [2, 3, 4] rfl) 0 rfl rfl rfl hl.1 rfl (Nat.le_of_ble_eq_true rfl) dX12_first_72 ⟨Nat.le_of_ble_eq_true rfl, Nat.le_of_ble_eq_true rfl⟩ ?_
          refine lv_lstore (lv' := [(4, zl (ovM gl gp gx gy MG (lifeV (MB (7 * bq)) (MB (7 * bq + 1)) (MB (7 * bq + 2)) (MB (7 * bq + 3)) (MB (7 * bq + 4)) (MB (7 * bq + 5)) (MB (7 * bq + 6)) (mCI MC bq) (mCJ MC bq) (mCW MC bq)) 0 la (msV (MG (12 * la))))), (3, zi (msV (MG (12 * la)))), (0, .ref m0), (1, zi bq), (2, zi la)]) hx hb dX12_first_75 hl (by decide) rfl (fun ls hl => ?_)
          refine lv_aload_n hx hb dX12_first_77 rfl (lv_at hl 2 rfl) ?_
          refine z_iconst hx hb dX12_first_78 ?_
          refine lv_iload_n hx hb dX12_first_79 rfl (lv_at hl 4 rfl) ?_
          refine lv_iload_n hx hb dX12_first_80 rfl (lv_at hl 4 rfl) ?_
          refine lv_iload_n hx hb dX12_first_81 rfl (lv_at hl 1 rfl) ?_
          refine z_pV (As := [zi 0, zi la, zi la, zi (msV (MG (12 * la)))]) (rest := []) hC (c_X12_over l D y m0 m_read rl rp m_gut gl gp gx gy m_text tn fn m_boat m_coins vw2_1 vm2_2 vn2_3 m_rest m_ends vc m_chan m_spl fs rn m_rf m_rr m_ik m_km m_kb m_kc m_kf m_kr MG MCh2 (lifeV (MB (7 * bq)) (MB (7 * bq + 1)) (MB (7 * bq + 2)) (MB (7 * bq + 3)) (MB (7 * bq + 4)) (MB (7 * bq + 5)) (MB (7 * bq + 6)) (mCI MC bq) (mCJ MC bq) (mCW MC bq)) 0 la la (msV (MG (12 * la))) (by first | assumption | omega) (fun la t a0 a1 t0 t1 => hh (0 + 1) la t (by omega) (by omega) a0 a1 t0 t1) (by first | assumption | omega) (by first | assumption | omega) (by first | assumption | omega) (by first | assumption | omega) (by first | assumption | omega)) (cwV 4 hts gX12_first_X12_over rfl rfl rfl (by decide +kernel) ⟨Nat.le_of_ble_eq_true rfl, Nat.le_of_ble_eq_true rfl⟩) hG (hP.sub (ws' := [(m0, .inr (11, [.ref m_read, zi rl, zi rp, .ref m_gut, zi gl, zi gp, zi gx, zi gy, .ref m_text, zi tn, zi fn, .ref m_boat, .ref m_coins, zi vw2_1, zi vm2_2, zi vn2_3, .ref m_rest, .ref m_ends, zl vc, .ref m_chan, .ref m_spl, zi fs, zi rn, .ref m_rf, .ref m_rr, .ref m_ik, .ref m_km, .ref m_kb, .ref m_kc, .ref m_kf, .ref m_kr])), (m_gut, .inl (y 0, 36, .inl (cI MG))), (m_chan, .inl (y 1, 13312, .inr (.inl (cL MCh2))))]) [2, 3, 4] rfl) 0 rfl rfl rfl hl.1 rfl (Nat.le_of_ble_eq_true rfl) dX12_first_82 ⟨Nat.le_of_ble_eq_true rfl, Nat.le_of_ble_eq_true rfl⟩ ?_
          refine lv_lload hx hb dX12_first_85 (lv_at hl 0 rfl) ?_
          refine z_lcmp_ne (tgt := 95) hx hb (by omega) (by omega) dX12_first_87 dX12_first_88 (by decide) (fun c_87 => ?_) (fun c_87 => ?_)
          ·
            refine lv_aload_n hx hb dX12_first_95 rfl (lv_at hl 2 rfl) ?_
            refine z_iconst hx hb dX12_first_96 ?_
            refine lv_iload_n hx hb dX12_first_97 rfl (lv_at hl 4 rfl) ?_
            refine lv_iload_n hx hb dX12_first_98 rfl (lv_at hl 4 rfl) ?_
            refine z_iconst hx hb dX12_first_99 ?_
            refine z_isub hx hb dX12_first_100 ?_
            refine lv_iload_n hx hb dX12_first_101 rfl (lv_at hl 1 rfl) ?_
            refine z_pV (As := [zi 0, zi la, zi (la - 1), zi (msV (MG (12 * la)))]) (rest := []) hC (c_X12_over l D y m0 m_read rl rp m_gut gl gp gx gy m_text tn fn m_boat m_coins vw2_1 vm2_2 vn2_3 m_rest m_ends vc m_chan m_spl fs rn m_rf m_rr m_ik m_km m_kb m_kc m_kf m_kr MG MCh2 (lifeV (MB (7 * bq)) (MB (7 * bq + 1)) (MB (7 * bq + 2)) (MB (7 * bq + 3)) (MB (7 * bq + 4)) (MB (7 * bq + 5)) (MB (7 * bq + 6)) (mCI MC bq) (mCJ MC bq) (mCW MC bq)) 0 la (la - 1) (msV (MG (12 * la))) (by first | assumption | omega) (fun la t a0 a1 t0 t1 => hh (0 + 1) la t (by omega) (by omega) a0 a1 t0 t1) (by first | assumption | omega) (by first | assumption | omega) (by first | assumption | omega) (by first | assumption | omega) (by first | assumption | omega)) (cwV 4 hts gX12_first_X12_over rfl rfl rfl (by decide +kernel) ⟨Nat.le_of_ble_eq_true rfl, Nat.le_of_ble_eq_true rfl⟩) hG (hP.sub (ws' := [(m0, .inr (11, [.ref m_read, zi rl, zi rp, .ref m_gut, zi gl, zi gp, zi gx, zi gy, .ref m_text, zi tn, zi fn, .ref m_boat, .ref m_coins, zi vw2_1, zi vm2_2, zi vn2_3, .ref m_rest, .ref m_ends, zl vc, .ref m_chan, .ref m_spl, zi fs, zi rn, .ref m_rf, .ref m_rr, .ref m_ik, .ref m_km, .ref m_kb, .ref m_kc, .ref m_kf, .ref m_kr])), (m_gut, .inl (y 0, 36, .inl (cI MG))), (m_chan, .inl (y 1, 13312, .inr (.inl (cL MCh2))))]) [2, 3, 4] rfl) 0 rfl rfl rfl hl.1 rfl (Nat.le_of_ble_eq_true rfl) dX12_first_102 ⟨Nat.le_of_ble_eq_true rfl, Nat.le_of_ble_eq_true rfl⟩ ?_
            refine lv_lload hx hb dX12_first_105 (lv_at hl 0 rfl) ?_
            refine z_lcmp_ne (tgt := 117) hx hb (by omega) (by omega) dX12_first_107 dX12_first_108 (by decide) (fun c_107 => ?_) (fun c_107 => ?_)
            ·
              refine lv_iload_n hx hb dX12_first_117 rfl (lv_at hl 4 rfl) ?_
              refine z_iconst hx hb dX12_first_118 ?_
              refine z_iadd hx hb dX12_first_119 ?_
              exact z_iretW hx hb hr hlocks (vw2_1, vm2_2, vn2_3, MCh2) (by exact congrArg (fun z => some (zi z)) (by unfold frsV; first | (rw [if_pos (by omega)]; done) | (rw [if_neg (by omega), ek, ← ho.1]; (repeat' split) <;> omega))) (trivial) (hP.sub [2, 3, 0, 1, 4] rfl) (hD.sub [2, 3, 0, 1, 4] (by decide) rfl) hS dX12_first_120
            ·
              refine lv_iload_n hx hb dX12_first_111 rfl (lv_at hl 4 rfl) ?_
              refine z_iconst hx hb dX12_first_112 ?_
              refine z_isub hx hb dX12_first_113 ?_
              refine lv_goto (tgt := 120) hx hb dX12_first_114 (by decide) ?_
              exact z_iretW hx hb hr hlocks (vw2_1, vm2_2, vn2_3, MCh2) (by exact congrArg (fun z => some (zi z)) (by unfold frsV; first | (rw [if_pos (by omega)]; done) | (rw [if_neg (by omega), ek, ← ho.1]; (repeat' split) <;> omega))) (trivial) (hP.sub [2, 3, 0, 1, 4] rfl) (hD.sub [2, 3, 0, 1, 4] (by decide) rfl) hS dX12_first_120
          ·
            refine lv_iload_n hx hb dX12_first_91 rfl (lv_at hl 4 rfl) ?_
            refine lv_goto (tgt := 120) hx hb dX12_first_92 (by decide) ?_
            exact z_iretW hx hb hr hlocks (vw2_1, vm2_2, vn2_3, MCh2) (by exact congrArg (fun z => some (zi z)) (by unfold frsV; first | (rw [if_pos (by omega)]; done) | (rw [if_neg (by omega), ek, ← ho.1]; (repeat' split) <;> omega))) (trivial) (hP.sub [2, 3, 0, 1, 4] rfl) (hD.sub [2, 3, 0, 1, 4] (by decide) rfl) hS dX12_first_120
        ·
          refine lv_iload_n hx hb dX12_first_66 rfl (lv_at hl 3 rfl) ?_
          exact z_iretW hx hb hr hlocks (vw2_1, vm2_2, vn2_3, MCh2) (by exact congrArg (fun z => some (zi z)) (by unfold frsV; first | (rw [if_pos (by omega)]; done) | (rw [if_neg (by omega), ek, ← ho.1]; (repeat' split) <;> omega))) (trivial) (hP.sub [2, 3, 0, 1, 4] rfl) (hD.sub [2, 3, 0, 1, 4] (by decide) rfl) hS dX12_first_67
      · exfalso; omega
    · exfalso; omega
set_option maxHeartbeats 8000000 in
set_option maxRecDepth 100000 in
theorem c_X12_best_no (l : Launch) (D : va_G) (y : Nat → ClassId) (m0 : Nat) (m_read : Nat) (rl : Int) (rp : Int) (m_gut : Nat) (gl : Int) (gp : Int) (gx : Int) (gy : Int) (m_text : Nat) (tn : Int) (fn : Int) (m_boat : Nat) (m_coins : Nat) (vw : Int) (vm : Int) (vn : Int) (m_rest : Nat) (m_ends : Nat) (vc : Int) (m_chan : Nat) (m_spl : Nat) (fs : Int) (rn : Int) (m_rf : Nat) (m_rr : Nat) (m_ik : Nat) (m_km : Nat) (m_kb : Nat) (m_kc : Nat) (m_kf : Nat) (m_kr : Nat) (bq : Int) (hbq : rI bq ∧ 0 ≤ fn ∧ fn ≤ 6 ∧ ¬ (0 ≤ bq ∧ bq < fn)) : Met l yX12_best wsX12_best ({ frames := 2, cells := 0, slots := 0, locals := 46 } : Room) (pPc D y [(m0, .inr (11, [.ref m_read, zi rl, zi rp, .ref m_gut, zi gl, zi gp, zi gx, zi gy, .ref m_text, zi tn, zi fn, .ref m_boat, .ref m_coins, zi vw, zi vm, zi vn, .ref m_rest, .ref m_ends, zl vc, .ref m_chan, .ref m_spl, zi fs, zi rn, .ref m_rf, .ref m_rr, .ref m_ik, .ref m_km, .ref m_kb, .ref m_kc, .ref m_kf, .ref m_kr]))] [.ref m0, zi bq]) (qV (zi (-1))) 0 0 (fun _ => False) := by
  refine P_of (own := RX12) (cc := cX12_best) (maxL := 4) (ret := some .int) (by decide) rfl rfl (Nat.le_of_ble_eq_true rfl) (fun p e s m below meth c ls hx hb hr hC hlocks hPr hG hl => ?_)
  have hC0 := hC
  obtain ⟨-, -, hml, hown, hts⟩ := hC0
  have hK := hG.1
  have hl : lv_has ls 4 [(0, .ref m0), (1, zi bq)] := hl
  refine lv_aload_n hx hb dX12_best_0 rfl (lv_at hl 0 rfl) ?_
  refine lv_iload_n hx hb dX12_best_1 rfl (lv_at hl 1 rfl) ?_
  refine z_pV (As := [zi bq]) (rest := []) hC (c_X12_isBoat l D y m0 m_read rl rp m_gut gl gp gx gy m_text tn fn m_boat m_coins vw vm vn m_rest m_ends vc m_chan m_spl fs rn m_rf m_rr m_ik m_km m_kb m_kc m_kf m_kr bq (by first | assumption | omega) (by first | assumption | omega)) (cwV 1 hts gX12_best_X12_isBoat rfl rfl rfl (by decide +kernel) ⟨Nat.le_of_ble_eq_true rfl, Nat.le_of_ble_eq_true rfl⟩) hG (hPr.sub (ws' := [(m0, .inr (11, [.ref m_read, zi rl, zi rp, .ref m_gut, zi gl, zi gp, zi gx, zi gy, .ref m_text, zi tn, zi fn, .ref m_boat, .ref m_coins, zi vw, zi vm, zi vn, .ref m_rest, .ref m_ends, zl vc, .ref m_chan, .ref m_spl, zi fs, zi rn, .ref m_rf, .ref m_rr, .ref m_ik, .ref m_km, .ref m_kb, .ref m_kc, .ref m_kf, .ref m_kr]))]) [0] rfl) 0 rfl rfl rfl hl.1 rfl (Nat.le_of_ble_eq_true rfl) dX12_best_2 ⟨Nat.le_of_ble_eq_true rfl, Nat.le_of_ble_eq_true rfl⟩ ?_
  refine z_ifB_ne (tgt := 10) hx hb dX12_best_5 (by decide) (fun c_5 => ?_) (fun c_5 => ?_)
  · exfalso; omega
  ·
    refine z_iconst hx hb dX12_best_8 ?_
    exact z_iret0 hx hb hr hlocks (rfl) dX12_best_9
set_option maxHeartbeats 8000000 in
set_option maxRecDepth 100000 in
theorem c_X12_best (l : Launch) (D : va_G) (y : Nat → ClassId) (m0 : Nat) (m_read : Nat) (rl : Int) (rp : Int) (m_gut : Nat) (gl : Int) (gp : Int) (gx : Int) (gy : Int) (m_text : Nat) (tn : Int) (fn : Int) (m_boat : Nat) (m_coins : Nat) (vw : Int) (vm : Int) (vn : Int) (m_rest : Nat) (m_ends : Nat) (vc : Int) (m_chan : Nat) (m_spl : Nat) (fs : Int) (rn : Int) (m_rf : Nat) (m_rr : Nat) (m_ik : Nat) (m_km : Nat) (m_kb : Nat) (m_kc : Nat) (m_kf : Nat) (m_kr : Nat) (MG : Int → Int) (MB : Int → Int) (MC : Int → Int) (MCh : Int → Int) (bq : Int) (hM : mbOK fn MB MC) (hbq : 0 ≤ bq ∧ bq < fn) (hg : gOK gl gp gx gy MG) (sz : Nat) : Met l yX12_best wsX12_best ({ frames := 5, cells := 0, slots := 0, locals := 130 } : Room) (wPc D y [] [(m0, .inr (11, [.ref m_read, zi rl, zi rp, .ref m_gut, zi gl, zi gp, zi gx, zi gy, .ref m_text, zi tn, zi fn, .ref m_boat, .ref m_coins, zi vw, zi vm, zi vn, .ref m_rest, .ref m_ends, zl vc, .ref m_chan, .ref m_spl, zi fs, zi rn, .ref m_rf, .ref m_rr, .ref m_ik, .ref m_km, .ref m_kb, .ref m_kc, .ref m_kf, .ref m_kr])), (m_gut, .inl (y 0, 36, .inl (cI MG))), (m_boat, .inl (y 0, 42, .inl (cI MB))), (m_coins, .inl (y 0, 144, .inl (cI MC))), (m_chan, .inl (y 1, 13312, .inr (.inl (cL MCh))))] sz [.ref m0, zi bq]) (wQ D (fun (x9 : Int × Int × Int × (Int → Int)) => match x9 with | (vw2, vm2, vn2, MCh2) => some (zi (bstF (fun la => chH gl gp gx gy MG (lifeV (MB (7 * bq)) (MB (7 * bq + 1)) (MB (7 * bq + 2)) (MB (7 * bq + 3)) (MB (7 * bq + 4)) (MB (7 * bq + 5)) (MB (7 * bq + 6)) (mCI MC bq) (mCJ MC bq) (mCW MC bq)) gp.toNat la 0) (gl - 1).toNat))) (fun (x9 : Int × Int × Int × (Int → Int)) => match x9 with | (vw2, vm2, vn2, MCh2) => True) (fun (x9 : Int × Int × Int × (Int → Int)) => match x9 with | (vw2, vm2, vn2, MCh2) => [(m0, .inr (11, [.ref m_read, zi rl, zi rp, .ref m_gut, zi gl, zi gp, zi gx, zi gy, .ref m_text, zi tn, zi fn, .ref m_boat, .ref m_coins, zi vw2, zi vm2, zi vn2, .ref m_rest, .ref m_ends, zl vc, .ref m_chan, .ref m_spl, zi fs, zi rn, .ref m_rf, .ref m_rr, .ref m_ik, .ref m_km, .ref m_kb, .ref m_kc, .ref m_kf, .ref m_kr])), (m_gut, .inl (y 0, 36, .inl (cI MG))), (m_boat, .inl (y 0, 42, .inl (cI MB))), (m_coins, .inl (y 0, 144, .inl (cI MC))), (m_chan, .inl (y 1, 13312, .inr (.inl (cL MCh2))))]) (va_A [(m0, .inr (11, [.ref m_read, zi rl, zi rp, .ref m_gut, zi gl, zi gp, zi gx, zi gy, .ref m_text, zi tn, zi fn, .ref m_boat, .ref m_coins, zi vw, zi vm, zi vn, .ref m_rest, .ref m_ends, zl vc, .ref m_chan, .ref m_spl, zi fs, zi rn, .ref m_rf, .ref m_rr, .ref m_ik, .ref m_km, .ref m_kb, .ref m_kc, .ref m_kf, .ref m_kr])), (m_gut, .inl (y 0, 36, .inl (cI MG))), (m_boat, .inl (y 0, 42, .inl (cI MB))), (m_coins, .inl (y 0, 144, .inl (cI MC))), (m_chan, .inl (y 1, 13312, .inr (.inl (cL MCh))))] sz)) 0 0 (va_A [(m0, .inr (11, [.ref m_read, zi rl, zi rp, .ref m_gut, zi gl, zi gp, zi gx, zi gy, .ref m_text, zi tn, zi fn, .ref m_boat, .ref m_coins, zi vw, zi vm, zi vn, .ref m_rest, .ref m_ends, zl vc, .ref m_chan, .ref m_spl, zi fs, zi rn, .ref m_rf, .ref m_rr, .ref m_ik, .ref m_km, .ref m_kb, .ref m_kc, .ref m_kf, .ref m_kr])), (m_gut, .inl (y 0, 36, .inl (cI MG))), (m_boat, .inl (y 0, 42, .inl (cI MB))), (m_coins, .inl (y 0, 144, .inl (cI MC))), (m_chan, .inl (y 1, 13312, .inr (.inl (cL MCh))))] sz) := by
  refine W_of (own := RX12) (cc := cX12_best) (maxL := 4) (ret := some .int) (by decide) rfl rfl (Nat.le_of_ble_eq_true rfl) (fun p e s m below meth c ls A hx hb hr hC hlocks hin0 hR0 hN hP hD hA hG hl => ?_)
  have hC0 := hC
  obtain ⟨-, -, hml, hown, hts⟩ := hC0
  have hK := hG.1
  have hS : va_S A s.heap s.heap [] := va_S.rf
  have hPr := hR0
  have hinX12 : ∀ w ∈ wsX120, w ∈ wsX12_best := fun _ h => List.mem_cons_of_mem _ (List.mem_append_right _ h)
  have k1 := hts (.fieldLink RX12 63 "BoatsOfPaperModel" "lanes" "I") (List.mem_of_getElem? (i := 1) rfl)
  have k2 := hts (.fieldLink RX12 32 "BoatsOfPaperModel" "chances" "[J") (List.mem_of_getElem? (i := 2) rfl)
  have hl : lv_has ls 4 [(0, .ref m0), (1, zi bq)] := hl
  have hB := hM.2 bq hbq.1 hbq.2
  obtain ⟨q1, q2, q3, q4, q5, q6, q7, q8, q9, qc⟩ := id hB
  have qf := hM.1
  obtain ⟨u1, u2, u3, u4, uk⟩ := id hg
  have hl9 := lifeV_bd hB
  have t1 := ten12 (r := gp.toNat) (by omega)
  refine lv_aload_n hx hb dX12_best_0 rfl (lv_at hl 0 rfl) ?_
  refine lv_iload_n hx hb dX12_best_1 rfl (lv_at hl 1 rfl) ?_
  refine z_pV (As := [zi bq]) (rest := []) hC (c_X12_isBoat l D y m0 m_read rl rp m_gut gl gp gx gy m_text tn fn m_boat m_coins vw vm vn m_rest m_ends vc m_chan m_spl fs rn m_rf m_rr m_ik m_km m_kb m_kc m_kf m_kr bq (by first | assumption | omega) (by first | assumption | omega)) (cwV 1 hts gX12_best_X12_isBoat rfl rfl rfl (by decide +kernel) ⟨Nat.le_of_ble_eq_true rfl, Nat.le_of_ble_eq_true rfl⟩) hG (hP.sub (ws' := [(m0, .inr (11, [.ref m_read, zi rl, zi rp, .ref m_gut, zi gl, zi gp, zi gx, zi gy, .ref m_text, zi tn, zi fn, .ref m_boat, .ref m_coins, zi vw, zi vm, zi vn, .ref m_rest, .ref m_ends, zl vc, .ref m_chan, .ref m_spl, zi fs, zi rn, .ref m_rf, .ref m_rr, .ref m_ik, .ref m_km, .ref m_kb, .ref m_kc, .ref m_kf, .ref m_kr]))]) [0] rfl) 0 rfl rfl rfl hl.1 rfl (Nat.le_of_ble_eq_true rfl) dX12_best_2 ⟨Nat.le_of_ble_eq_true rfl, Nat.le_of_ble_eq_true rfl⟩ ?_
  refine z_ifB_ne (tgt := 10) hx hb dX12_best_5 (by decide) (fun c_5 => ?_) (fun c_5 => ?_)
  ·
    refine lv_aload_n hx hb dX12_best_10 rfl (lv_at hl 0 rfl) ?_
    refine lv_aload_n hx hb dX12_best_11 rfl (lv_at hl 0 rfl) ?_
    refine lv_iload_n hx hb dX12_best_12 rfl (lv_at hl 1 rfl) ?_
    refine z_wV (As := [zi bq]) (rest := [.ref m0]) (wc := [(m0, .inr (11, [.ref m_read, zi rl, zi rp, .ref m_gut, zi gl, zi gp, zi gx, zi gy, .ref m_text, zi tn, zi fn, .ref m_boat, .ref m_coins, zi vw, zi vm, zi vn, .ref m_rest, .ref m_ends, zl vc, .ref m_chan, .ref m_spl, zi fs, zi rn, .ref m_rf, .ref m_rr, .ref m_ik, .ref m_km, .ref m_kb, .ref m_kc, .ref m_kf, .ref m_kr])), (m_boat, .inl (y 0, 42, .inl (cI MB))), (m_coins, .inl (y 0, 144, .inl (cI MC)))]) (wrest := [(m_gut, .inl (y 0, 36, .inl (cI MG))), (m_chan, .inl (y 1, 13312, .inr (.inl (cL MCh))))]) hC (c_X12_lifeOf l D y m0 m_read rl rp m_gut gl gp gx gy m_text tn fn m_boat m_coins vw vm vn m_rest m_ends vc m_chan m_spl fs rn m_rf m_rr m_ik m_km m_kb m_kc m_kf m_kr MB MC bq (by first | assumption | omega) (by first | assumption | omega) _) (cwV 1 hts gX12_best_X12_lifeOf rfl rfl rfl (by decide +kernel) ⟨Nat.le_of_ble_eq_true rfl, Nat.le_of_ble_eq_true rfl⟩) hG hP hD hS hA [0, 2, 3] [1, 4] rfl rfl (by decide) (by decide) (by decide) va_P_nil ro_nil 0 rfl rfl rfl hl.1 rfl (Nat.le_of_ble_eq_true rfl) dX12_best_13 ⟨Nat.le_of_ble_eq_true rfl, Nat.le_of_ble_eq_true rfl⟩ (fun u9 H locs hw_4 hP hD hS => ?_)
    obtain ⟨vw2_1, vm2_2, vn2_3⟩ := u9
    have hw_4 : True := hw_4
    have hP : va_P D vwCl [(m_gut, .inl (y 0, 36, .inl (cI MG))), (m_chan, .inl (y 1, 13312, .inr (.inl (cL MCh)))), (m0, .inr (11, [.ref m_read, zi rl, zi rp, .ref m_gut, zi gl, zi gp, zi gx, zi gy, .ref m_text, zi tn, zi fn, .ref m_boat, .ref m_coins, zi vw2_1, zi vm2_2, zi vn2_3, .ref m_rest, .ref m_ends, zl vc, .ref m_chan, .ref m_spl, zi fs, zi rn, .ref m_rf, .ref m_rr, .ref m_ik, .ref m_km, .ref m_kb, .ref m_kc, .ref m_kf, .ref m_kr])), (m_boat, .inl (y 0, 42, .inl (cI MB))), (m_coins, .inl (y 0, 144, .inl (cI MC)))] H := hP
    have hD : va_D A [(m_gut, .inl (y 0, 36, .inl (cI MG))), (m_chan, .inl (y 1, 13312, .inr (.inl (cL MCh)))), (m0, .inr (11, [.ref m_read, zi rl, zi rp, .ref m_gut, zi gl, zi gp, zi gx, zi gy, .ref m_text, zi tn, zi fn, .ref m_boat, .ref m_coins, zi vw2_1, zi vm2_2, zi vn2_3, .ref m_rest, .ref m_ends, zl vc, .ref m_chan, .ref m_spl, zi fs, zi rn, .ref m_rf, .ref m_rr, .ref m_ik, .ref m_km, .ref m_kb, .ref m_kc, .ref m_kf, .ref m_kr])), (m_boat, .inl (y 0, 42, .inl (cI MB))), (m_coins, .inl (y 0, 144, .inl (cI MC)))] := hD
    refine z_wV (As := [zi (lifeV (MB (7 * bq)) (MB (7 * bq + 1)) (MB (7 * bq + 2)) (MB (7 * bq + 3)) (MB (7 * bq + 4)) (MB (7 * bq + 5)) (MB (7 * bq + 6)) (mCI MC bq) (mCJ MC bq) (mCW MC bq))]) (rest := []) (wc := [(m0, .inr (11, [.ref m_read, zi rl, zi rp, .ref m_gut, zi gl, zi gp, zi gx, zi gy, .ref m_text, zi tn, zi fn, .ref m_boat, .ref m_coins, zi vw2_1, zi vm2_2, zi vn2_3, .ref m_rest, .ref m_ends, zl vc, .ref m_chan, .ref m_spl, zi fs, zi rn, .ref m_rf, .ref m_rr, .ref m_ik, .ref m_km, .ref m_kb, .ref m_kc, .ref m_kf, .ref m_kr])), (m_gut, .inl (y 0, 36, .inl (cI MG))), (m_chan, .inl (y 1, 13312, .inr (.inl (cL MCh))))]) (wrest := [(m_boat, .inl (y 0, 42, .inl (cI MB))), (m_coins, .inl (y 0, 144, .inl (cI MC)))]) hC (c_X12_layHome l D y m0 m_read rl rp m_gut gl gp gx gy m_text tn fn m_boat m_coins vw2_1 vm2_2 vn2_3 m_rest m_ends vc m_chan m_spl fs rn m_rf m_rr m_ik m_km m_kb m_kc m_kf m_kr MG MCh (lifeV (MB (7 * bq)) (MB (7 * bq + 1)) (MB (7 * bq + 2)) (MB (7 * bq + 3)) (MB (7 * bq + 4)) (MB (7 * bq + 5)) (MB (7 * bq + 6)) (mCI MC bq) (mCJ MC bq) (mCW MC bq)) (by first | assumption | omega) (by first | assumption | omega) _) (cwV 1 hts gX12_best_X12_layHome rfl rfl rfl (by decide +kernel) ⟨Nat.le_of_ble_eq_true rfl, Nat.le_of_ble_eq_true rfl⟩) hG hP hD hS hA [2, 0, 1] [3, 4] rfl rfl (by decide) (by decide) (by decide) va_P_nil ro_nil 0 rfl rfl rfl hl.1 rfl (Nat.le_of_ble_eq_true rfl) dX12_best_16 ⟨Nat.le_of_ble_eq_true rfl, Nat.le_of_ble_eq_true rfl⟩ (fun u9 H locs hw_6 hP hD hS => ?_)
    obtain ⟨MCh2, rfl⟩ : ∃ z9, z9 = u9 := ⟨_, rfl⟩
    have hw_6 : ∀ p la t : Int, 0 ≤ p → p < gp → 0 ≤ la → la < gl → 0 ≤ t → t < 256 → MCh2 (1024 * p + 256 * la + t) = chH gl gp gx gy MG (lifeV (MB (7 * bq)) (MB (7 * bq + 1)) (MB (7 * bq + 2)) (MB (7 * bq + 3)) (MB (7 * bq + 4)) (MB (7 * bq + 5)) (MB (7 * bq + 6)) (mCI MC bq) (mCJ MC bq) (mCW MC bq)) (gp - p).toNat la t := hw_6
    have hP : va_P D vwCl [(m_boat, .inl (y 0, 42, .inl (cI MB))), (m_coins, .inl (y 0, 144, .inl (cI MC))), (m0, .inr (11, [.ref m_read, zi rl, zi rp, .ref m_gut, zi gl, zi gp, zi gx, zi gy, .ref m_text, zi tn, zi fn, .ref m_boat, .ref m_coins, zi vw2_1, zi vm2_2, zi vn2_3, .ref m_rest, .ref m_ends, zl vc, .ref m_chan, .ref m_spl, zi fs, zi rn, .ref m_rf, .ref m_rr, .ref m_ik, .ref m_km, .ref m_kb, .ref m_kc, .ref m_kf, .ref m_kr])), (m_gut, .inl (y 0, 36, .inl (cI MG))), (m_chan, .inl (y 1, 13312, .inr (.inl (cL MCh2))))] H := hP
    have hD : va_D A [(m_boat, .inl (y 0, 42, .inl (cI MB))), (m_coins, .inl (y 0, 144, .inl (cI MC))), (m0, .inr (11, [.ref m_read, zi rl, zi rp, .ref m_gut, zi gl, zi gp, zi gx, zi gy, .ref m_text, zi tn, zi fn, .ref m_boat, .ref m_coins, zi vw2_1, zi vm2_2, zi vn2_3, .ref m_rest, .ref m_ends, zl vc, .ref m_chan, .ref m_spl, zi fs, zi rn, .ref m_rf, .ref m_rr, .ref m_ik, .ref m_km, .ref m_kb, .ref m_kc, .ref m_kf, .ref m_kr])), (m_gut, .inl (y 0, 36, .inl (cI MG))), (m_chan, .inl (y 1, 13312, .inr (.inl (cL MCh2))))] := hD
    have hh := hw_6
    have f1 : ∀ la : Int, 0 ≤ la → la < gl → MCh2 (256 * la) = chH gl gp gx gy MG (lifeV (MB (7 * bq)) (MB (7 * bq + 1)) (MB (7 * bq + 2)) (MB (7 * bq + 3)) (MB (7 * bq + 4)) (MB (7 * bq + 5)) (MB (7 * bq + 6)) (mCI MC bq) (mCJ MC bq) (mCW MC bq)) gp.toNat la 0 := fun la a0 a1 => (by have q := hh 0 la 0 (by omega) (by omega) a0 a1 (by omega) (by omega); rw [show 1024 * 0 + 256 * la + 0 = 256 * la by omega, Int.sub_zero] at q; exact q)
    refine z_iconst hx hb dX12_best_19 ?_
    refine lv_istore_n (lv' := [(2, zi 0), (0, .ref m0), (1, zi bq)]) hx hb dX12_best_20 rfl hl (by decide) rfl (fun ls hl => ?_)
    refine z_iconst hx hb dX12_best_21 ?_
    refine lv_istore_n (lv' := [(3, zi 1), (2, zi 0), (0, .ref m0), (1, zi bq)]) hx hb dX12_best_22 rfl hl (by decide) rfl (fun ls hl => ?_)
    refine z_loop (σ := Int × Int) (fun x9 H lc ls => match x9 with | (v, k) => ((1 ≤ k ∧ k ≤ gl) ∧ v = bstF (fun la => chH gl gp gx gy MG (lifeV (MB (7 * bq)) (MB (7 * bq + 1)) (MB (7 * bq + 2)) (MB (7 * bq + 3)) (MB (7 * bq + 4)) (MB (7 * bq + 5)) (MB (7 * bq + 6)) (mCI MC bq) (mCJ MC bq) (mCW MC bq)) gp.toNat la 0) (k - 1).toNat) ∧ lv_has ls 4 [(3, zi k), (2, zi v), (0, .ref m0), (1, zi bq)] ∧ va_P D vwCl [(m_boat, .inl (y 0, 42, .inl (cI MB))), (m_coins, .inl (y 0, 144, .inl (cI MC))), (m0, .inr (11, [.ref m_read, zi rl, zi rp, .ref m_gut, zi gl, zi gp, zi gx, zi gy, .ref m_text, zi tn, zi fn, .ref m_boat, .ref m_coins, zi vw2_1, zi vm2_2, zi vn2_3, .ref m_rest, .ref m_ends, zl vc, .ref m_chan, .ref m_spl, zi fs, zi rn, .ref m_rf, .ref m_rr, .ref m_ik, .ref m_km, .ref m_kb, .ref m_kc, .ref m_kf, .ref m_kr])), (m_gut, .inl (y 0, 36, .inl (cI MG))), (m_chan, .inl (y 1, 13312, .inr (.inl (cL MCh2))))] H ∧ va_D A [(m_boat, .inl (y 0, 42, .inl (cI MB))), (m_coins, .inl (y 0, 144, .inl (cI MC))), (m0, .inr (11, [.ref m_read, zi rl, zi rp, .ref m_gut, zi gl, zi gp, zi gx, zi gy, .ref m_text, zi tn, zi fn, .ref m_boat, .ref m_coins, zi vw2_1, zi vm2_2, zi vn2_3, .ref m_rest, .ref m_ends, zl vc, .ref m_chan, .ref m_spl, zi fs, zi rn, .ref m_rf, .ref m_rr, .ref m_ik, .ref m_km, .ref m_kb, .ref m_kc, .ref m_kf, .ref m_kr])), (m_gut, .inl (y 0, 36, .inl (cI MG))), (m_chan, .inl (y 1, 13312, .inr (.inl (cL MCh2))))] ∧ va_S A s.heap H lc) (fun x9  => match x9 with | (v, k) => ((gl - k).toNat)) ?_ (0, 1) ⟨⟨by omega, rfl⟩, lv_sub hl [0, 1, 2, 3] rfl, hP.sub [0, 1, 2, 3, 4] rfl, hD.sub [0, 1, 2, 3, 4] (by decide) rfl, hS⟩
    rintro ⟨v, k⟩ H lc ls ⟨hi23, hl, hP, hD, hS⟩ ih23
    have hP : va_P D vwCl [(m_boat, .inl (y 0, 42, .inl (cI MB))), (m_coins, .inl (y 0, 144, .inl (cI MC))), (m0, .inr (11, [.ref m_read, zi rl, zi rp, .ref m_gut, zi gl, zi gp, zi gx, zi gy, .ref m_text, zi tn, zi fn, .ref m_boat, .ref m_coins, zi vw2_1, zi vm2_2, zi vn2_3, .ref m_rest, .ref m_ends, zl vc, .ref m_chan, .ref m_spl, zi fs, zi rn, .ref m_rf, .ref m_rr, .ref m_ik, .ref m_km, .ref m_kb, .ref m_kc, .ref m_kf, .ref m_kr])), (m_gut, .inl (y 0, 36, .inl (cI MG))), (m_chan, .inl (y 1, 13312, .inr (.inl (cL MCh2))))] H := hP
    have hD : va_D A [(m_boat, .inl (y 0, 42, .inl (cI MB))), (m_coins, .inl (y 0, 144, .inl (cI MC))), (m0, .inr (11, [.ref m_read, zi rl, zi rp, .ref m_gut, zi gl, zi gp, zi gx, zi gy, .ref m_text, zi tn, zi fn, .ref m_boat, .ref m_coins, zi vw2_1, zi vm2_2, zi vn2_3, .ref m_rest, .ref m_ends, zl vc, .ref m_chan, .ref m_spl, zi fs, zi rn, .ref m_rf, .ref m_rr, .ref m_ik, .ref m_km, .ref m_kb, .ref m_kc, .ref m_kf, .ref m_kr])), (m_gut, .inl (y 0, 36, .inl (cI MG))), (m_chan, .inl (y 1, 13312, .inr (.inl (cL MCh2))))] := hD
    have b2 := bstF_bd (fun la => chH gl gp gx gy MG (lifeV (MB (7 * bq)) (MB (7 * bq + 1)) (MB (7 * bq + 2)) (MB (7 * bq + 3)) (MB (7 * bq + 4)) (MB (7 * bq + 5)) (MB (7 * bq + 6)) (mCI MC bq) (mCJ MC bq) (mCW MC bq)) gp.toNat la 0) (k - 1).toNat
    refine lv_iload_n hx hb dX12_best_23 rfl (lv_at hl 0 rfl) ?_
    refine lv_aload_n hx hb dX12_best_24 rfl (lv_at hl 2 rfl) ?_
    refine va_get hx hb hts hinX12 hown hK hP 2 rfl rfl 4 (by decide) k1 (fun _ h => h) rfl dX12_best_25 ?_
    refine z_icmp_ge (tgt := 67) hx hb (by omega) (by omega) dX12_best_28 (by decide) (fun c_28 => ?_) (fun c_28 => ?_)
    ·
      refine lv_iload_n hx hb dX12_best_67 rfl (lv_at hl 1 rfl) ?_
      exact z_iretW hx hb hr hlocks (vw2_1, vm2_2, vn2_3, MCh2) (by exact congrArg (fun z => some (zi z)) (by rw [hi23.2, show k = gl by omega])) (trivial) (hP.sub [2, 3, 0, 1, 4] rfl) (hD.sub [2, 3, 0, 1, 4] (by decide) rfl) hS dX12_best_68
    ·
      have b3 := chH_bd hg (lifeV (MB (7 * bq)) (MB (7 * bq + 1)) (MB (7 * bq + 2)) (MB (7 * bq + 3)) (MB (7 * bq + 4)) (MB (7 * bq + 5)) (MB (7 * bq + 6)) (mCI MC bq) (mCJ MC bq) (mCW MC bq)) gp.toNat k 0
      have b4 := chH_bd hg (lifeV (MB (7 * bq)) (MB (7 * bq + 1)) (MB (7 * bq + 2)) (MB (7 * bq + 3)) (MB (7 * bq + 4)) (MB (7 * bq + 5)) (MB (7 * bq + 6)) (mCI MC bq) (mCJ MC bq) (mCW MC bq)) gp.toNat v 0
      have b5 := f1 k (by omega) (by omega)
      have b6 := f1 v (by omega) (by omega)
      refine lv_aload_n hx hb dX12_best_31 rfl (lv_at hl 2 rfl) ?_
      refine va_get hx hb hts hinX12 hown hK hP 2 rfl rfl 19 (by decide) k2 (fun _ h => h) rfl dX12_best_32 ?_
      refine z_sipush hx hb dX12_best_35 (by decide) ?_
      refine lv_iload_n hx hb dX12_best_38 rfl (lv_at hl 0 rfl) ?_
      refine z_imul hx hb dX12_best_39 ?_
      refine z_lald hx hb hK hP 4 1 rfl rfl (by omega) (by decide) dX12_best_40 ?_
      refine lv_aload_n hx hb dX12_best_41 rfl (lv_at hl 2 rfl) ?_
      refine va_get hx hb hts hinX12 hown hK hP 2 rfl rfl 19 (by decide) k2 (fun _ h => h) rfl dX12_best_42 ?_
      refine z_sipush hx hb dX12_best_45 (by decide) ?_
      refine lv_iload_n hx hb dX12_best_48 rfl (lv_at hl 1 rfl) ?_
      refine z_imul hx hb dX12_best_49 ?_
      refine z_lald hx hb hK hP 4 1 rfl rfl (by omega) (by decide) dX12_best_50 ?_
      refine z_lcmp_le (tgt := 59) hx hb (by omega) (by omega) dX12_best_51 dX12_best_52 (by decide) (fun c_51 => ?_) (fun c_51 => ?_)
      ·
        refine lv_iload_n hx hb dX12_best_59 rfl (lv_at hl 1 rfl) ?_
        refine lv_istore_n (lv' := [(2, zi v), (3, zi k), (0, .ref m0), (1, zi bq)]) hx hb dX12_best_60 rfl hl (by decide) rfl (fun ls hl => ?_)
        refine z_iinc (k := 1) (lv' := [(3, zi (k + 1)), (2, zi v), (0, .ref m0), (1, zi bq)]) hx hb dX12_best_61 hl rfl (by decide) rfl (fun ls hl => ?_)
        refine lv_goto (tgt := 23) hx hb dX12_best_64 (by decide) ?_
        exact ih23 (v, k + 1) _ _ _ (by first | (dsimp only; omega) | omega) ⟨⟨by omega, by rw [bstF_s _ (by omega), ← hi23.2]; first | exact (if_pos (by omega)).symm | exact (if_neg (by omega)).symm⟩, lv_sub hl [0, 1, 2, 3] rfl, hP.sub [0, 1, 2, 3, 4] rfl, hD.sub [0, 1, 2, 3, 4] (by decide) rfl, hS⟩
      ·
        refine lv_iload_n hx hb dX12_best_55 rfl (lv_at hl 0 rfl) ?_
        refine lv_goto (tgt := 60) hx hb dX12_best_56 (by decide) ?_
        refine lv_istore_n (lv' := [(2, zi k), (3, zi k), (0, .ref m0), (1, zi bq)]) hx hb dX12_best_60 rfl hl (by decide) rfl (fun ls hl => ?_)
        refine z_iinc (k := 1) (lv' := [(3, zi (k + 1)), (2, zi k), (0, .ref m0), (1, zi bq)]) hx hb dX12_best_61 hl rfl (by decide) rfl (fun ls hl => ?_)
        refine lv_goto (tgt := 23) hx hb dX12_best_64 (by decide) ?_
        exact ih23 (k, k + 1) _ _ _ (by first | (dsimp only; omega) | omega) ⟨⟨by omega, by rw [bstF_s _ (by omega), ← hi23.2]; first | exact (if_pos (by omega)).symm | exact (if_neg (by omega)).symm⟩, lv_sub hl [0, 1, 2, 3] rfl, hP.sub [0, 1, 2, 3, 4] rfl, hD.sub [0, 1, 2, 3, 4] (by decide) rfl, hS⟩
  · exfalso; omega
