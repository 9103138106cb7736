set_option maxHeartbeats 8000000 in
set_option maxRecDepth 100000 in
theorem c_X3_endedAt (l : Launch) (D : va_G) (y : Nat → ClassId) (d0 : Nat) (da : Nat) (dc : Int) (DE : Int → Int) (pl : Int) (hq : 0 ≤ pl ∧ pl < 12) : Met l yX3_endedAt wsX3_endedAt ({ frames := 0, cells := 0, slots := 0, locals := 0 } : Room) (pPc D y [(d0, .inr (3, [.ref da, zl dc])), (da, .inl (y 1, 12, .inr (.inl (cL DE))))] [.ref d0, zi pl]) (qV (zl (DE pl))) 0 0 (fun _ => False) := by
  refine P_of (own := RX3) (cc := cX3_endedAt) (maxL := 2) (ret := some .long) (by decide) rfl rfl (Nat.le_of_ble_eq_true rfl) (fun p e s m below meth c ls hx hb hr hC hlocks hPr hG hl => ?_)
  have hC0 := hC
  obtain ⟨-, -, hml, hown, hts⟩ := hC0
  have hK := hG.1
  have hinX3 : ∀ w ∈ wsX30, w ∈ wsX3_endedAt := fun _ h => List.mem_cons_of_mem _ (List.mem_append_right _ h)
  have k1 := hts (.fieldLink RX3 9 "BoatsOfPaper$Drift" "ends" "[J") (List.mem_of_getElem? (i := 1) rfl)
  have hl : lv_has ls 2 [(0, .ref d0), (1, zi pl)] := hl
  refine lv_iload_n hx hb dX3_endedAt_0 rfl (lv_at hl 1 rfl) ?_
  refine z_if_lt (tgt := 13) hx hb (by omega) dX3_endedAt_1 (by decide) (fun c_1 => ?_) (fun c_1 => ?_)
  · exfalso; omega
  ·
    refine lv_iload_n hx hb dX3_endedAt_4 rfl (lv_at hl 1 rfl) ?_
    refine lv_aload_n hx hb dX3_endedAt_5 rfl (lv_at hl 0 rfl) ?_
    refine va_get hx hb hts hinX3 hown hK hPr 0 rfl rfl 0 (by decide) k1 (fun _ h => h) rfl dX3_endedAt_6 ?_
    refine va_alen (v := iI 12) hx hb hK hPr 1 1 rfl rfl rfl dX3_endedAt_9 ?_
    refine z_icmp_lt (tgt := 15) hx hb (by omega) (by omega) dX3_endedAt_10 (by decide) (fun c_10 => ?_) (fun c_10 => ?_)
    ·
      refine lv_aload_n hx hb dX3_endedAt_15 rfl (lv_at hl 0 rfl) ?_
      refine va_get hx hb hts hinX3 hown hK hPr 0 rfl rfl 0 (by decide) k1 (fun _ h => h) rfl dX3_endedAt_16 ?_
      refine lv_iload_n hx hb dX3_endedAt_19 rfl (lv_at hl 1 rfl) ?_
      refine z_lald hx hb hK hPr 1 1 rfl rfl (by omega) (by decide) dX3_endedAt_20 ?_
      exact z_lret0 hx hb hr hlocks (rfl) dX3_endedAt_21
    · exfalso; omega
set_option maxHeartbeats 8000000 in
set_option maxRecDepth 100000 in
theorem c_X3_follow (l : Launch) (D : va_G) (y : Nat → ClassId) (d0 : Nat) (da : Nat) (dc : Int) (DE : Int → Int) (g0 : Nat) (ga : Nat) (gl : Int) (gp : Int) (gx : Int) (gy : Int) (GK : Int → Int) (la : Int) (lf : Int) (hg : gOK gl gp gx gy GK) (hla : rI la) (hlf : rI lf) (sz : Nat) : Met l yX3_follow wsX3_follow ({ frames := 4, cells := 0, slots := 0, locals := 88 } : Room) (wPc D y [(g0, .inr (5, [.ref ga, zi gl, zi gp, zi gx, zi gy])), (ga, .inl (y 0, 36, .inl (cI GK)))] [(d0, .inr (3, [.ref da, zl dc])), (da, .inl (y 1, 12, .inr (.inl (cL DE))))] sz [.ref d0, .ref g0, zi la, zi lf]) (wQ D (fun (x9 : Int × (Int → Int)) => match x9 with | (dc2, DE2) => none) (fun (x9 : Int × (Int → Int)) => match x9 with | (dc2, DE2) => dc2 = crF (acx gl gp gx gy GK la lf) gp.toNat ∧ ∀ j : Int, 0 ≤ j → j < gp → DE2 j = enF (acx gl gp gx gy GK la lf) j) (fun (x9 : Int × (Int → Int)) => match x9 with | (dc2, DE2) => [(d0, .inr (3, [.ref da, zl dc2])), (da, .inl (y 1, 12, .inr (.inl (cL DE2))))]) (va_A [(d0, .inr (3, [.ref da, zl dc])), (da, .inl (y 1, 12, .inr (.inl (cL DE))))] sz)) 0 0 (va_A [(d0, .inr (3, [.ref da, zl dc])), (da, .inl (y 1, 12, .inr (.inl (cL DE))))] sz) := by
  refine W_of (own := RX3) (cc := cX3_follow) (maxL := 9) (ret := none) (by decide) rfl rfl (Nat.le_of_ble_eq_true rfl) (fun p e s m below meth c ls A hx hb hr hC hlocks hin0 hR0 hN hP hD hA hG hl => ?_)
  have hC0 := hC
  obtain ⟨-, -, hml, hown, hts⟩ := hC0
  have hK := hG.1
  have hS : va_S A s.heap s.heap [] := va_S.rf
  have hPr := hR0
  have hinX3 : ∀ w ∈ wsX30, w ∈ wsX3_follow := fun _ h => List.mem_cons_of_mem _ (List.mem_append_left _ (List.mem_append_right _ h))
  have hinX6 : ∀ w ∈ wsX60, w ∈ wsX3_follow := fun _ h => List.mem_cons_of_mem _ (List.mem_append_right _ h)
  have k1 := hts (.fieldLink RX3 15 "BoatsOfPaper$Drift" "crossed" "J") (List.mem_of_getElem? (i := 1) rfl)
  have k2 := hts (.fieldLink RX3 19 "BoatsOfPaper$Gutter" "places" "I") (List.mem_of_getElem? (i := 2) rfl)
  have k3 := hts (.fieldLink RX3 9 "BoatsOfPaper$Drift" "ends" "[J") (List.mem_of_getElem? (i := 3) rfl)
  have k4 := hts (.constantLong RX3 32 (10)) (List.mem_of_getElem? (i := 4) rfl)
  have hl : lv_has ls 9 [(0, .ref d0), (1, .ref g0), (2, zi la), (3, zi lf)] := hl
  obtain ⟨u1, u2, u3, u4, uk⟩ := id hg
  refine lv_lconst (v := iL 1) hx hb dX3_follow_0 rfl ?_
  refine lv_lstore (lv' := [(4, zl 1), (0, .ref d0), (1, .ref g0), (2, zi la), (3, zi lf)]) hx hb dX3_follow_1 hl (by decide) rfl (fun ls hl => ?_)
  refine z_iconst hx hb dX3_follow_3 ?_
  refine lv_istore (lv' := [(6, zi 0), (4, zl 1), (0, .ref d0), (1, .ref g0), (2, zi la), (3, zi lf)]) hx hb dX3_follow_4 hl (by decide) rfl (fun ls hl => ?_)
  refine lv_aload_n hx hb dX3_follow_6 rfl (lv_at hl 2 rfl) ?_
  refine lv_lconst (v := iL 0) hx hb dX3_follow_7 rfl ?_
  refine va_put hx hb hts hinX3 tyX3 tyX3_ok nmX3 hown hK hP hD hS 0 rfl rfl 1 (by decide) k1 (fun _ h => h) rfl (tyX3_ok 1 (by decide)) rfl rfl (Nat.le_of_ble_eq_true rfl) dX3_follow_8 (fun H locs hP hD hS => ?_)
  have hP : va_P D vwCl [(d0, .inr (3, [.ref da, zl 0])), (da, .inl (y 1, 12, .inr (.inl (cL DE))))] H := hP
  have hD : va_D A [(d0, .inr (3, [.ref da, zl 0])), (da, .inl (y 1, 12, .inr (.inl (cL DE))))] := hD
  have hPr := ro_now hR0 hN hS
  refine z_iconst hx hb dX3_follow_11 ?_
  refine lv_istore (lv' := [(7, zi 0), (6, zi 0), (4, zl 1), (0, .ref d0), (1, .ref g0), (2, zi la), (3, zi lf)]) hx hb dX3_follow_12 hl (by decide) rfl (fun ls hl => ?_)
  refine z_loop (σ := Int × Int × Int × Int × (Int → Int)) (fun x9 H lc ls => match x9 with | (cm, sv, k, cr, E) => ((0 ≤ k ∧ k ≤ gp) ∧ cm = cmF (acx gl gp gx gy GK la lf) k.toNat ∧ sv = sgI (fun p => secV (kAt gl gp GK la p)) k ∧ cr = crF (acx gl gp gx gy GK la lf) k.toNat ∧ ∀ j : Int, 0 ≤ j → j < k → E j = enF (acx gl gp gx gy GK la lf) j) ∧ lv_has ls 9 [(7, zi k), (6, zi sv), (4, zl cm), (0, .ref d0), (1, .ref g0), (2, zi la), (3, zi lf)] ∧ va_P D vwCl [(d0, .inr (3, [.ref da, zl cr])), (da, .inl (y 1, 12, .inr (.inl (cL E))))] H ∧ va_D A [(d0, .inr (3, [.ref da, zl cr])), (da, .inl (y 1, 12, .inr (.inl (cL E))))] ∧ va_S A s.heap H lc) (fun x9  => match x9 with | (cm, sv, k, cr, E) => ((gp - k).toNat)) ?_ (1, 0, 0, 0, DE) ⟨⟨by omega, rfl, rfl, rfl, fun j _ _ => by omega⟩, lv_sub hl [0, 1, 2, 3, 4, 5, 6] rfl, hP.sub [0, 1] rfl, hD.sub [0, 1] (by decide) rfl, hS⟩
  rintro ⟨cm, sv, k, cr, E⟩ H lc ls ⟨hi14, hl, hP, hD, hS⟩ ih14
  have hP : va_P D vwCl [(d0, .inr (3, [.ref da, zl cr])), (da, .inl (y 1, 12, .inr (.inl (cL E))))] H := hP
  have hD : va_D A [(d0, .inr (3, [.ref da, zl cr])), (da, .inl (y 1, 12, .inr (.inl (cL E))))] := hD
  have hPr := ro_now hR0 hN hS
  obtain ⟨j1, j2, j3, j4, j5⟩ := hi14
  refine lv_iload hx hb dX3_follow_14 (lv_at hl 0 rfl) ?_
  refine lv_aload_n hx hb dX3_follow_16 rfl (lv_at hl 4 rfl) ?_
  refine va_get hx hb hts hinX6 hown hK hPr 0 rfl rfl 2 (by decide) k2 (fun _ h => h) rfl dX3_follow_17 ?_
  refine z_icmp_ge (tgt := 109) hx hb (by omega) (by omega) dX3_follow_20 (by decide) (fun c_20 => ?_) (fun c_20 => ?_)
  ·
    exact z_vretW hx hb hr hlocks (cr, E) rfl (by have e9 : k = gp := (by omega); rw [e9] at j4 j5; exact ⟨j4, j5⟩) (hP.sub [0, 1] rfl) (hD.sub [0, 1] (by decide) rfl) hS dX3_follow_109
  ·
    refine lv_iload hx hb dX3_follow_23 (lv_at hl 0 rfl) ?_
    refine lv_aload_n hx hb dX3_follow_25 rfl (lv_at hl 3 rfl) ?_
    refine va_get hx hb hts hinX3 hown hK hP 0 rfl rfl 0 (by decide) k3 (fun _ h => h) rfl dX3_follow_26 ?_
    refine va_alen (v := iI 12) hx hb hK hP 1 1 rfl rfl rfl dX3_follow_29 ?_
    refine z_icmp_ge (tgt := 109) hx hb (by omega) (by omega) dX3_follow_30 (by decide) (fun c_30 => ?_) (fun c_30 => ?_)
    ·
      exact z_vretW hx hb hr hlocks (cr, E) rfl (by have e9 : k = gp := (by omega); rw [e9] at j4 j5; exact ⟨j4, j5⟩) (hP.sub [0, 1] rfl) (hD.sub [0, 1] (by decide) rfl) hS dX3_follow_109
    ·
      refine lv_iload hx hb dX3_follow_33 (lv_at hl 1 rfl) ?_
      refine lv_aload_n hx hb dX3_follow_35 rfl (lv_at hl 4 rfl) ?_
      refine lv_iload_n hx hb dX3_follow_36 rfl (lv_at hl 5 rfl) ?_
      refine lv_iload hx hb dX3_follow_37 (lv_at hl 0 rfl) ?_
      refine z_pV (As := [zi la, zi k]) (rest := [zi sv]) hC (c_X6_secondsAt l D y g0 ga gl gp gx gy GK la k (by first | assumption | omega) (by first | assumption | omega) (by first | assumption | omega)) (cwV 2 hts gX3_follow_X6_secondsAt rfl rfl rfl (by decide +kernel) ⟨Nat.le_of_ble_eq_true rfl, Nat.le_of_ble_eq_true rfl⟩) hG (hPr.sub (ws' := [(g0, .inr (5, [.ref ga, zi gl, zi gp, zi gx, zi gy])), (ga, .inl (y 0, 36, .inl (cI GK)))]) [0, 1] rfl) 0 rfl rfl rfl hl.1 rfl (Nat.le_of_ble_eq_true rfl) dX3_follow_39 ⟨Nat.le_of_ble_eq_true rfl, Nat.le_of_ble_eq_true rfl⟩ ?_
      refine z_iadd hx hb dX3_follow_42 ?_
      refine lv_istore (lv' := [(6, zi (sv + (secV (kAt gl gp GK la k)))), (7, zi k), (4, zl cm), (0, .ref d0), (1, .ref g0), (2, zi la), (3, zi lf)]) hx hb dX3_follow_43 hl (by decide) rfl (fun ls hl => ?_)
      have b1 := laneS_bd hg la (k := k + 1) (by omega) (by omega)
      rw [sgI_s _ j1.1] at b1
      refine z_cut (σ := Int) 62 (fun ac1 H lc ls st9 => (ac1 = acx gl gp gx gy GK la lf k) ∧ lv_has ls 9 [(6, zi (sv + (secV (kAt gl gp GK la k)))), (7, zi k), (4, zl cm), (0, .ref d0), (1, .ref g0), (2, zi la), (3, zi lf)] ∧ st9 = [zi ac1] ∧ va_P D vwCl [(d0, .inr (3, [.ref da, zl cr])), (da, .inl (y 1, 12, .inr (.inl (cL E))))] H ∧ va_D A [(d0, .inr (3, [.ref da, zl cr])), (da, .inl (y 1, 12, .inr (.inl (cL E))))] ∧ va_S A s.heap H lc) (fun hJ_1 => ?_) ?_
      ·
        have b1 := laneS_bd hg la (k := k + 1) (by omega) (by omega)
        rw [sgI_s _ j1.1] at b1
        refine lv_iload hx hb dX3_follow_45 (lv_at hl 0 rfl) ?_
        refine lv_iload_n hx hb dX3_follow_47 rfl (lv_at hl 6 rfl) ?_
        refine z_icmp_le (tgt := 55) hx hb (by omega) (by omega) dX3_follow_48 (by decide) (fun c_48 => ?_) (fun c_48 => ?_)
        ·
          refine lv_aload_n hx hb dX3_follow_55 rfl (lv_at hl 4 rfl) ?_
          refine lv_iload_n hx hb dX3_follow_56 rfl (lv_at hl 5 rfl) ?_
          refine lv_iload hx hb dX3_follow_57 (lv_at hl 1 rfl) ?_
          refine z_pV (As := [zi la, zi k]) (rest := []) hC (c_X6_tenthsAcross l D y g0 ga gl gp gx gy GK la k (by first | assumption | omega) (by first | assumption | omega) (by first | assumption | omega)) (cwV 2 hts gX3_follow_X6_tenthsAcross rfl rfl rfl (by decide +kernel) ⟨Nat.le_of_ble_eq_true rfl, Nat.le_of_ble_eq_true rfl⟩) hG (hPr.sub (ws' := [(g0, .inr (5, [.ref ga, zi gl, zi gp, zi gx, zi gy])), (ga, .inl (y 0, 36, .inl (cI GK)))]) [0, 1] rfl) 0 rfl rfl rfl hl.1 rfl (Nat.le_of_ble_eq_true rfl) dX3_follow_59 ⟨Nat.le_of_ble_eq_true rfl, Nat.le_of_ble_eq_true rfl⟩ ?_
          exact hJ_1 (acrV gx gy (kAt gl gp GK la k)) _ _ _ _ ⟨(by unfold acx; rw [sgI_s _ j1.1]; first | rw [if_pos (by omega)] | rw [if_neg (by omega)]), lv_sub hl [0, 1, 2, 3, 4, 5, 6] rfl, rfl, hP.sub [0, 1] rfl, hD.sub [0, 1] (by decide) rfl, hS⟩
        ·
          refine z_iconst hx hb dX3_follow_51 ?_
          refine lv_goto (tgt := 62) hx hb dX3_follow_52 (by decide) ?_
          exact hJ_1 0 _ _ _ _ ⟨(by unfold acx; rw [sgI_s _ j1.1]; first | rw [if_pos (by omega)] | rw [if_neg (by omega)]), lv_sub hl [0, 1, 2, 3, 4, 5, 6] rfl, rfl, hP.sub [0, 1] rfl, hD.sub [0, 1] (by decide) rfl, hS⟩
      ·
        rintro ac1 H lc ls st9 ⟨hj_2, hl, rfl, hP, hD, hS⟩
        have hP : va_P D vwCl [(d0, .inr (3, [.ref da, zl cr])), (da, .inl (y 1, 12, .inr (.inl (cL E))))] H := hP
        have hD : va_D A [(d0, .inr (3, [.ref da, zl cr])), (da, .inl (y 1, 12, .inr (.inl (cL E))))] := hD
        have hPr := ro_now hR0 hN hS
        have hjc := hj_2
        have b3 := acx_bd hg la lf k
        refine lv_istore (lv' := [(8, zi ac1), (6, zi (sv + (secV (kAt gl gp GK la k)))), (7, zi k), (4, zl cm), (0, .ref d0), (1, .ref g0), (2, zi la), (3, zi lf)]) hx hb dX3_follow_62 hl (by decide) rfl (fun ls hl => ?_)
        refine lv_aload_n hx hb dX3_follow_64 rfl (lv_at hl 4 rfl) ?_
        refine va_get hx hb hts hinX3 hown hK hP 0 rfl rfl 0 (by decide) k3 (fun _ h => h) rfl dX3_follow_65 ?_
        refine lv_iload hx hb dX3_follow_68 (lv_at hl 2 rfl) ?_
        refine lv_lload hx hb dX3_follow_70 (lv_at hl 3 rfl) ?_
        refine z_bipush hx hb dX3_follow_72 (by decide) ?_
        refine lv_iload hx hb dX3_follow_74 (lv_at hl 0 rfl) ?_
        refine z_isub hx hb dX3_follow_76 ?_
        refine z_i2l hx hb (by omega) dX3_follow_77 ?_
        refine z_lmul hx hb dX3_follow_78 ?_
        refine z_last hx hb hK hP hD hS 1 1 rfl rfl (by omega) (by decide) dX3_follow_79 (fun H locs hP hD hS => ?_)
        have hP : va_P D vwCl [(d0, .inr (3, [.ref da, zl cr])), (da, .inl (y 1, 12, .inr (.inl (cL (iu E k (cm * (10 - ac1)))))))] H := hP
        have hD : va_D A [(d0, .inr (3, [.ref da, zl cr])), (da, .inl (y 1, 12, .inr (.inl (cL (iu E k (cm * (10 - ac1)))))))] := hD
        have hPr := ro_now hR0 hN hS
        refine lv_lload hx hb dX3_follow_80 (lv_at hl 3 rfl) ?_
        refine lv_iload hx hb dX3_follow_82 (lv_at hl 0 rfl) ?_
        refine z_i2l hx hb (by omega) dX3_follow_84 ?_
        refine z_lmul hx hb dX3_follow_85 ?_
        refine lv_lstore (lv' := [(4, zl (cm * ac1)), (8, zi ac1), (6, zi (sv + (secV (kAt gl gp GK la k)))), (7, zi k), (0, .ref d0), (1, .ref g0), (2, zi la), (3, zi lf)]) hx hb dX3_follow_86 hl (by decide) rfl (fun ls hl => ?_)
        refine lv_aload_n hx hb dX3_follow_88 rfl (lv_at hl 4 rfl) ?_
        refine lv_ldc2 (v := iL 10) hx hb hown k4 dX3_follow_89 ?_
        refine lv_aload_n hx hb dX3_follow_92 rfl (lv_at hl 4 rfl) ?_
        refine va_get hx hb hts hinX3 hown hK hP 0 rfl rfl 1 (by decide) k1 (fun _ h => h) rfl dX3_follow_93 ?_
        refine z_lmul hx hb dX3_follow_96 ?_
        refine lv_lload hx hb dX3_follow_97 (lv_at hl 0 rfl) ?_
        refine z_ladd hx hb dX3_follow_99 ?_
        refine va_put hx hb hts hinX3 tyX3 tyX3_ok nmX3 hown hK hP hD hS 0 rfl rfl 1 (by decide) k1 (fun _ h => h) rfl (tyX3_ok 1 (by decide)) rfl rfl (Nat.le_of_ble_eq_true rfl) dX3_follow_100 (fun H locs hP hD hS => ?_)
        have hP : va_P D vwCl [(d0, .inr (3, [.ref da, zl ((10 * cr) + (cm * ac1))])), (da, .inl (y 1, 12, .inr (.inl (cL (iu E k (cm * (10 - ac1)))))))] H := hP
        have hD : va_D A [(d0, .inr (3, [.ref da, zl ((10 * cr) + (cm * ac1))])), (da, .inl (y 1, 12, .inr (.inl (cL (iu E k (cm * (10 - ac1)))))))] := hD
        have hPr := ro_now hR0 hN hS
        refine z_iinc (k := 3) (lv' := [(7, zi (k + 1)), (4, zl (cm * ac1)), (8, zi ac1), (6, zi (sv + (secV (kAt gl gp GK la k)))), (0, .ref d0), (1, .ref g0), (2, zi la), (3, zi lf)]) hx hb dX3_follow_103 hl rfl (by decide) rfl (fun ls hl => ?_)
        refine lv_goto (tgt := 14) hx hb dX3_follow_106 (by decide) ?_
        exact ih14 (cm * ac1, sv + (secV (kAt gl gp GK la k)), k + 1, (10 * cr) + (cm * ac1), iu E k (cm * (10 - ac1))) _ _ _ (by first | (dsimp only; omega) | omega) ⟨⟨by omega, by rw [cmF_s _ j1.1, ← j2, ← hjc], by rw [sgI_s _ j1.1, ← j3], by rw [crF_s _ j1.1, cmF_s _ j1.1, ← j2, ← j4, ← hjc], iu_fillv j5 (by rw [j2, hjc]; rfl)⟩, lv_sub hl [0, 3, 1, 4, 5, 6, 7] rfl, hP.sub [0, 1] rfl, hD.sub [0, 1] (by decide) rfl, hS⟩
set_option maxHeartbeats 8000000 in
set_option maxRecDepth 100000 in
theorem c_X8_add_full (l : Launch) (D : va_G) (y : Nat → ClassId) (r0 : Nat) (rl : Nat) (rr : Nat) (rn : Int) (rk : Int) (ra : Int) (RF : Int → Int) (RB : Int → Int) (xf : Int) (xr : Int) (hq : rn = 12) : Met l yX8_add wsX8_add ({ frames := 0, cells := 0, slots := 0, locals := 0 } : Room) (pPc D y [(r0, .inr (7, [.ref rl, .ref rr, zi rn, zi rk, zi ra])), (rl, .inl (y 0, 12, .inl (cI RF))), (rr, .inl (y 2, 12, .inl (cI RB)))] [.ref r0, zi xf, zi xr]) (qV (zi (-4))) 0 0 (fun _ => False) := by
  refine P_of (own := RX8) (cc := cX8_add) (maxL := 3) (ret := some .int) (by decide) rfl rfl (Nat.le_of_ble_eq_true rfl) (fun p e s m below meth c ls hx hb hr hC hlocks hPr hG hl => ?_)
  have hC0 := hC
  obtain ⟨-, -, hml, hown, hts⟩ := hC0
  have hK := hG.1
  have hinX8 : ∀ w ∈ wsX80, w ∈ wsX8_add := fun _ h => List.mem_cons_of_mem _ (List.mem_append_right _ h)
  have k1 := hts (.fieldLink RX8 19 "BoatsOfPaper$Runs" "size" "I") (List.mem_of_getElem? (i := 1) rfl)
  have hl : lv_has ls 3 [(0, .ref r0), (1, zi xf), (2, zi xr)] := hl
  refine lv_aload_n hx hb dX8_add_0 rfl (lv_at hl 0 rfl) ?_
  refine va_get hx hb hts hinX8 hown hK hPr 0 rfl rfl 2 (by decide) k1 (fun _ h => h) rfl dX8_add_1 ?_
  refine z_bipush hx hb dX8_add_4 (by decide) ?_
  refine z_icmp_lt (tgt := 12) hx hb (by omega) (by omega) dX8_add_6 (by decide) (fun c_6 => ?_) (fun c_6 => ?_)
  · exfalso; omega
  ·
    refine z_bipush hx hb dX8_add_9 (by decide) ?_
    exact z_iret0 hx hb hr hlocks (rfl) dX8_add_11
set_option maxHeartbeats 8000000 in
set_option maxRecDepth 100000 in
theorem c_X8_add (l : Launch) (D : va_G) (y : Nat → ClassId) (r0 : Nat) (rl : Nat) (rr : Nat) (rn : Int) (rk : Int) (ra : Int) (RF : Int → Int) (RB : Int → Int) (xf : Int) (xr : Int) (hq : 0 ≤ rn ∧ rn < 12) (hx : xr = 0 ∨ xr = 1) (sz : Nat) : Met l yX8_add wsX8_add ({ frames := 0, cells := 0, slots := 0, locals := 0 } : Room) (wPc D y [] [(r0, .inr (7, [.ref rl, .ref rr, zi rn, zi rk, zi ra])), (rl, .inl (y 0, 12, .inl (cI RF))), (rr, .inl (y 2, 12, .inl (cI RB)))] sz [.ref r0, zi xf, zi xr]) (wQ D (fun (_ : Unit) => some (zi (rn + 1))) (fun (_ : Unit) => True) (fun (_ : Unit) => [(r0, .inr (7, [.ref rl, .ref rr, zi (rn + 1), zi rk, zi ra])), (rl, .inl (y 0, 12, .inl (cI (iu RF rn xf)))), (rr, .inl (y 2, 12, .inl (cI (iu RB rn xr))))]) (va_A [(r0, .inr (7, [.ref rl, .ref rr, zi rn, zi rk, zi ra])), (rl, .inl (y 0, 12, .inl (cI RF))), (rr, .inl (y 2, 12, .inl (cI RB)))] sz)) 0 0 (va_A [(r0, .inr (7, [.ref rl, .ref rr, zi rn, zi rk, zi ra])), (rl, .inl (y 0, 12, .inl (cI RF))), (rr, .inl (y 2, 12, .inl (cI RB)))] sz) := by
  refine W_of (own := RX8) (cc := cX8_add) (maxL := 3) (ret := some .int) (by decide) rfl rfl (Nat.le_of_ble_eq_true rfl) (fun p e s m below meth c ls A hx hb hr hC hlocks hin0 hR0 hN hP hD hA hG hl => ?_)
  have hC0 := hC
  obtain ⟨-, -, hml, hown, hts⟩ := hC0
  have hK := hG.1
  have hS : va_S A s.heap s.heap [] := va_S.rf
  have hPr := hR0
  have hinX8 : ∀ w ∈ wsX80, w ∈ wsX8_add := fun _ h => List.mem_cons_of_mem _ (List.mem_append_right _ h)
  have k1 := hts (.fieldLink RX8 19 "BoatsOfPaper$Runs" "size" "I") (List.mem_of_getElem? (i := 1) rfl)
  have k2 := hts (.fieldLink RX8 9 "BoatsOfPaper$Runs" "lengths" "[I") (List.mem_of_getElem? (i := 2) rfl)
  have k3 := hts (.fieldLink RX8 15 "BoatsOfPaper$Runs" "isRed" "[Z") (List.mem_of_getElem? (i := 3) rfl)
  have hl : lv_has ls 3 [(0, .ref r0), (1, zi xf), (2, zi xr)] := hl
  refine lv_aload_n hx hb dX8_add_0 rfl (lv_at hl 0 rfl) ?_
  refine va_get hx hb hts hinX8 hown hK hP 0 rfl rfl 2 (by decide) k1 (fun _ h => h) rfl dX8_add_1 ?_
  refine z_bipush hx hb dX8_add_4 (by decide) ?_
  refine z_icmp_lt (tgt := 12) hx hb (by omega) (by omega) dX8_add_6 (by decide) (fun c_6 => ?_) (fun c_6 => ?_)
  ·
    refine lv_aload_n hx hb dX8_add_12 rfl (lv_at hl 0 rfl) ?_
    refine va_get hx hb hts hinX8 hown hK hP 0 rfl rfl 0 (by decide) k2 (fun _ h => h) rfl dX8_add_13 ?_
    refine lv_aload_n hx hb dX8_add_16 rfl (lv_at hl 0 rfl) ?_
    refine va_get hx hb hts hinX8 hown hK hP 0 rfl rfl 2 (by decide) k1 (fun _ h => h) rfl dX8_add_17 ?_
    refine lv_iload_n hx hb dX8_add_20 rfl (lv_at hl 1 rfl) ?_
    refine z_iast hx hb hK hP hD hS 1 0 rfl rfl (by omega) (by decide) dX8_add_21 (fun H locs hP hD hS => ?_)
    have hP : va_P D vwCl [(r0, .inr (7, [.ref rl, .ref rr, zi rn, zi rk, zi ra])), (rl, .inl (y 0, 12, .inl (cI (iu RF rn xf)))), (rr, .inl (y 2, 12, .inl (cI RB)))] H := hP
    have hD : va_D A [(r0, .inr (7, [.ref rl, .ref rr, zi rn, zi rk, zi ra])), (rl, .inl (y 0, 12, .inl (cI (iu RF rn xf)))), (rr, .inl (y 2, 12, .inl (cI RB)))] := hD
    refine lv_aload_n hx hb dX8_add_22 rfl (lv_at hl 0 rfl) ?_
    refine va_get hx hb hts hinX8 hown hK hP 0 rfl rfl 1 (by decide) k3 (fun _ h => h) rfl dX8_add_23 ?_
    refine lv_aload_n hx hb dX8_add_26 rfl (lv_at hl 0 rfl) ?_
    refine va_get hx hb hts hinX8 hown hK hP 0 rfl rfl 2 (by decide) k1 (fun _ h => h) rfl dX8_add_27 ?_
    refine lv_iload_n hx hb dX8_add_30 rfl (lv_at hl 2 rfl) ?_
    refine z_zast hx hb hK hP hD hS 2 2 rfl rfl (by omega) (by decide) (by omega) dX8_add_31 (fun H locs hP hD hS => ?_)
    have hP : va_P D vwCl [(r0, .inr (7, [.ref rl, .ref rr, zi rn, zi rk, zi ra])), (rl, .inl (y 0, 12, .inl (cI (iu RF rn xf)))), (rr, .inl (y 2, 12, .inl (cI (iu RB rn xr))))] H := hP
    have hD : va_D A [(r0, .inr (7, [.ref rl, .ref rr, zi rn, zi rk, zi ra])), (rl, .inl (y 0, 12, .inl (cI (iu RF rn xf)))), (rr, .inl (y 2, 12, .inl (cI (iu RB rn xr))))] := hD
    refine lv_aload_n hx hb dX8_add_32 rfl (lv_at hl 0 rfl) ?_
    refine lv_dup hx hb dX8_add_33 rfl ?_
    refine va_get hx hb hts hinX8 hown hK hP 0 rfl rfl 2 (by decide) k1 (fun _ h => h) rfl dX8_add_34 ?_
    refine z_iconst hx hb dX8_add_37 ?_
    refine z_iadd hx hb dX8_add_38 ?_
    refine va_put hx hb hts hinX8 tyX8 tyX8_ok nmX8 hown hK hP hD hS 0 rfl rfl 2 (by decide) k1 (fun _ h => h) rfl (tyX8_ok 2 (by decide)) rfl rfl (Nat.le_of_ble_eq_true rfl) dX8_add_39 (fun H locs hP hD hS => ?_)
    have hP : va_P D vwCl [(r0, .inr (7, [.ref rl, .ref rr, zi (rn + 1), zi rk, zi ra])), (rl, .inl (y 0, 12, .inl (cI (iu RF rn xf)))), (rr, .inl (y 2, 12, .inl (cI (iu RB rn xr))))] H := hP
    have hD : va_D A [(r0, .inr (7, [.ref rl, .ref rr, zi (rn + 1), zi rk, zi ra])), (rl, .inl (y 0, 12, .inl (cI (iu RF rn xf)))), (rr, .inl (y 2, 12, .inl (cI (iu RB rn xr))))] := hD
    refine lv_aload_n hx hb dX8_add_42 rfl (lv_at hl 0 rfl) ?_
    refine va_get hx hb hts hinX8 hown hK hP 0 rfl rfl 2 (by decide) k1 (fun _ h => h) rfl dX8_add_43 ?_
    exact z_iretW hx hb hr hlocks () (rfl) (trivial) (hP.sub [0, 1, 2] rfl) (hD.sub [0, 1, 2] (by decide) rfl) hS dX8_add_46
  · exfalso; omega
set_option maxHeartbeats 8000000 in
set_option maxRecDepth 100000 in
theorem c_X8_copyFrom (l : Launch) (D : va_G) (y : Nat → ClassId) (r0 : Nat) (rl : Nat) (rr : Nat) (rn : Int) (rk : Int) (ra : Int) (RF : Int → Int) (RB : Int → Int) (o0 : Nat) (ol : Nat) (or9 : Nat) (on : Int) (ok : Int) (oa : Int) (OF : Int → Int) (OB : Int → Int) (hO : rOK on OF OB) (sz : Nat) : Met l yX8_copyFrom wsX8_copyFrom ({ frames := 1, cells := 0, slots := 0, locals := 22 } : Room) (wPc D y [(o0, .inr (7, [.ref ol, .ref or9, zi on, zi ok, zi oa])), (ol, .inl (y 0, 12, .inl (cI OF))), (or9, .inl (y 2, 12, .inl (cI OB)))] [(r0, .inr (7, [.ref rl, .ref rr, zi rn, zi rk, zi ra])), (rl, .inl (y 0, 12, .inl (cI RF))), (rr, .inl (y 2, 12, .inl (cI RB)))] sz [.ref r0, .ref o0]) (wQ D (fun (x9 : (Int → Int) × (Int → Int)) => match x9 with | (G1, G2) => none) (fun (x9 : (Int → Int) × (Int → Int)) => match x9 with | (G1, G2) => (∀ j : Int, 0 ≤ j → j < on → G1 j = OF j) ∧ (∀ j : Int, 0 ≤ j → j < on → G2 j = OB j)) (fun (x9 : (Int → Int) × (Int → Int)) => match x9 with | (G1, G2) => [(r0, .inr (7, [.ref rl, .ref rr, zi on, zi rk, zi ra])), (rl, .inl (y 0, 12, .inl (cI G1))), (rr, .inl (y 2, 12, .inl (cI G2)))]) (va_A [(r0, .inr (7, [.ref rl, .ref rr, zi rn, zi rk, zi ra])), (rl, .inl (y 0, 12, .inl (cI RF))), (rr, .inl (y 2, 12, .inl (cI RB)))] sz)) 0 0 (va_A [(r0, .inr (7, [.ref rl, .ref rr, zi rn, zi rk, zi ra])), (rl, .inl (y 0, 12, .inl (cI RF))), (rr, .inl (y 2, 12, .inl (cI RB)))] sz) := by
  refine W_of (own := RX8) (cc := cX8_copyFrom) (maxL := 3) (ret := none) (by decide) rfl rfl (Nat.le_of_ble_eq_true rfl) (fun p e s m below meth c ls A hx hb hr hC hlocks hin0 hR0 hN hP hD hA hG hl => ?_)
  have hC0 := hC
  obtain ⟨-, -, hml, hown, hts⟩ := hC0
  have hK := hG.1
  have hS : va_S A s.heap s.heap [] := va_S.rf
  have hPr := hR0
  have hinX8 : ∀ w ∈ wsX80, w ∈ wsX8_copyFrom := fun _ h => List.mem_cons_of_mem _ (List.mem_append_right _ h)
  have k1 := hts (.fieldLink RX8 19 "BoatsOfPaper$Runs" "size" "I") (List.mem_of_getElem? (i := 1) rfl)
  have k2 := hts (.fieldLink RX8 9 "BoatsOfPaper$Runs" "lengths" "[I") (List.mem_of_getElem? (i := 2) rfl)
  have k3 := hts (.fieldLink RX8 15 "BoatsOfPaper$Runs" "isRed" "[Z") (List.mem_of_getElem? (i := 3) rfl)
  have hl : lv_has ls 3 [(0, .ref r0), (1, .ref o0)] := hl
  obtain ⟨u1, uk⟩ := id hO
  refine lv_aload_n hx hb dX8_copyFrom_0 rfl (lv_at hl 0 rfl) ?_
  refine z_iconst hx hb dX8_copyFrom_1 ?_
  refine va_put hx hb hts hinX8 tyX8 tyX8_ok nmX8 hown hK hP hD hS 0 rfl rfl 2 (by decide) k1 (fun _ h => h) rfl (tyX8_ok 2 (by decide)) rfl rfl (Nat.le_of_ble_eq_true rfl) dX8_copyFrom_2 (fun H locs hP hD hS => ?_)
  have hP : va_P D vwCl [(r0, .inr (7, [.ref rl, .ref rr, zi 0, zi rk, zi ra])), (rl, .inl (y 0, 12, .inl (cI RF))), (rr, .inl (y 2, 12, .inl (cI RB)))] H := hP
  have hD : va_D A [(r0, .inr (7, [.ref rl, .ref rr, zi 0, zi rk, zi ra])), (rl, .inl (y 0, 12, .inl (cI RF))), (rr, .inl (y 2, 12, .inl (cI RB)))] := hD
  have hPr := ro_now hR0 hN hS
  refine z_iconst hx hb dX8_copyFrom_5 ?_
  refine lv_istore_n (lv' := [(2, zi 0), (0, .ref r0), (1, .ref o0)]) hx hb dX8_copyFrom_6 rfl hl (by decide) rfl (fun ls hl => ?_)
  refine z_loop (σ := Int × (Int → Int) × (Int → Int)) (fun x9 H lc ls => match x9 with | (k, G1, G2) => ((0 ≤ k ∧ k ≤ on) ∧ (∀ j : Int, 0 ≤ j → j < k → G1 j = OF j) ∧ (∀ j : Int, 0 ≤ j → j < k → G2 j = OB j)) ∧ lv_has ls 3 [(2, zi k), (0, .ref r0), (1, .ref o0)] ∧ va_P D vwCl [(r0, .inr (7, [.ref rl, .ref rr, zi k, zi rk, zi ra])), (rl, .inl (y 0, 12, .inl (cI G1))), (rr, .inl (y 2, 12, .inl (cI G2)))] H ∧ va_D A [(r0, .inr (7, [.ref rl, .ref rr, zi k, zi rk, zi ra])), (rl, .inl (y 0, 12, .inl (cI G1))), (rr, .inl (y 2, 12, .inl (cI G2)))] ∧ va_S A s.heap H lc) (fun x9  => match x9 with | (k, G1, G2) => ((on - k).toNat)) ?_ (0, RF, RB) ⟨⟨by omega, fun j _ _ => by omega, fun j _ _ => by omega⟩, lv_sub hl [0, 1, 2] rfl, hP.sub [0, 1, 2] rfl, hD.sub [0, 1, 2] (by decide) rfl, hS⟩
  rintro ⟨k, G1, G2⟩ H lc ls ⟨hi7, hl, hP, hD, hS⟩ ih7
  have hP : va_P D vwCl [(r0, .inr (7, [.ref rl, .ref rr, zi k, zi rk, zi ra])), (rl, .inl (y 0, 12, .inl (cI G1))), (rr, .inl (y 2, 12, .inl (cI G2)))] H := hP
  have hD : va_D A [(r0, .inr (7, [.ref rl, .ref rr, zi k, zi rk, zi ra])), (rl, .inl (y 0, 12, .inl (cI G1))), (rr, .inl (y 2, 12, .inl (cI G2)))] := hD
  have hPr := ro_now hR0 hN hS
  refine lv_iload_n hx hb dX8_copyFrom_7 rfl (lv_at hl 0 rfl) ?_
  refine lv_aload_n hx hb dX8_copyFrom_8 rfl (lv_at hl 2 rfl) ?_
  refine va_get hx hb hts hinX8 hown hK hPr 0 rfl rfl 2 (by decide) k1 (fun _ h => h) rfl dX8_copyFrom_9 ?_
  refine z_icmp_ge (tgt := 44) hx hb (by omega) (by omega) dX8_copyFrom_12 (by decide) (fun c_12 => ?_) (fun c_12 => ?_)
  ·
    have hP : va_P D vwCl [(r0, .inr (7, [.ref rl, .ref rr, zi on, zi rk, zi ra])), (rl, .inl (y 0, 12, .inl (cI G1))), (rr, .inl (y 2, 12, .inl (cI G2)))] H := by rw [show on = k by omega]; exact hP
    have hD : va_D A [(r0, .inr (7, [.ref rl, .ref rr, zi on, zi rk, zi ra])), (rl, .inl (y 0, 12, .inl (cI G1))), (rr, .inl (y 2, 12, .inl (cI G2)))] := by rw [show on = k by omega]; exact hD
    exact z_vretW hx hb hr hlocks (G1, G2) rfl (by rw [show on = k by omega]; exact hi7.2) (hP.sub [0, 1, 2] rfl) (hD.sub [0, 1, 2] (by decide) rfl) hS dX8_copyFrom_44
  ·
    refine lv_iload_n hx hb dX8_copyFrom_15 rfl (lv_at hl 0 rfl) ?_
    refine z_bipush hx hb dX8_copyFrom_16 (by decide) ?_
    refine z_icmp_ge (tgt := 44) hx hb (by omega) (by omega) dX8_copyFrom_18 (by decide) (fun c_18 => ?_) (fun c_18 => ?_)
    ·
      have hP : va_P D vwCl [(r0, .inr (7, [.ref rl, .ref rr, zi on, zi rk, zi ra])), (rl, .inl (y 0, 12, .inl (cI G1))), (rr, .inl (y 2, 12, .inl (cI G2)))] H := by rw [show on = k by omega]; exact hP
      have hD : va_D A [(r0, .inr (7, [.ref rl, .ref rr, zi on, zi rk, zi ra])), (rl, .inl (y 0, 12, .inl (cI G1))), (rr, .inl (y 2, 12, .inl (cI G2)))] := by rw [show on = k by omega]; exact hD
      exact z_vretW hx hb hr hlocks (G1, G2) rfl (by rw [show on = k by omega]; exact hi7.2) (hP.sub [0, 1, 2] rfl) (hD.sub [0, 1, 2] (by decide) rfl) hS dX8_copyFrom_44
    ·
      refine lv_aload_n hx hb dX8_copyFrom_21 rfl (lv_at hl 1 rfl) ?_
      refine lv_aload_n hx hb dX8_copyFrom_22 rfl (lv_at hl 2 rfl) ?_
      refine va_get hx hb hts hinX8 hown hK hPr 0 rfl rfl 0 (by decide) k2 (fun _ h => h) rfl dX8_copyFrom_23 ?_
      refine lv_iload_n hx hb dX8_copyFrom_26 rfl (lv_at hl 0 rfl) ?_
      refine z_iald hx hb hK hPr 1 0 rfl rfl (by omega) (by decide) dX8_copyFrom_27 ?_
      refine lv_aload_n hx hb dX8_copyFrom_28 rfl (lv_at hl 2 rfl) ?_
      refine va_get hx hb hts hinX8 hown hK hPr 0 rfl rfl 1 (by decide) k3 (fun _ h => h) rfl dX8_copyFrom_29 ?_
      refine lv_iload_n hx hb dX8_copyFrom_32 rfl (lv_at hl 0 rfl) ?_
      refine z_zald hx hb hK hPr 2 2 rfl rfl (by omega) (by decide) dX8_copyFrom_33 ?_
      have b1 := (uk k (by omega) (by omega)).2
      refine z_wV (As := [zi (OF k), zi (OB k)]) (rest := []) (wc := [(r0, .inr (7, [.ref rl, .ref rr, zi k, zi rk, zi ra])), (rl, .inl (y 0, 12, .inl (cI G1))), (rr, .inl (y 2, 12, .inl (cI G2)))]) (wrest := []) hC (c_X8_add l D y r0 rl rr k rk ra G1 G2 (OF k) (OB k) (by first | assumption | omega) (by first | assumption | omega) _) (cwV 2 hts gX8_copyFrom_X8_add rfl rfl rfl (by decide +kernel) ⟨Nat.le_of_ble_eq_true rfl, Nat.le_of_ble_eq_true rfl⟩) hG hP hD hS hA [0, 1, 2] [] rfl rfl (by decide) (by decide) (by decide) va_P_nil ro_nil 0 rfl rfl rfl hl.1 rfl (Nat.le_of_ble_eq_true rfl) dX8_copyFrom_34 ⟨Nat.le_of_ble_eq_true rfl, Nat.le_of_ble_eq_true rfl⟩ (fun u9 H locs hw_1 hP hD hS => ?_)
      have hw_1 : True := hw_1
      have hP : va_P D vwCl [(r0, .inr (7, [.ref rl, .ref rr, zi (k + 1), zi rk, zi ra])), (rl, .inl (y 0, 12, .inl (cI (iu G1 k (OF k))))), (rr, .inl (y 2, 12, .inl (cI (iu G2 k (OB k)))))] H := hP
      have hD : va_D A [(r0, .inr (7, [.ref rl, .ref rr, zi (k + 1), zi rk, zi ra])), (rl, .inl (y 0, 12, .inl (cI (iu G1 k (OF k))))), (rr, .inl (y 2, 12, .inl (cI (iu G2 k (OB k)))))] := hD
      have hPr := ro_now hR0 hN hS
      refine lv_pop hx hb dX8_copyFrom_37 rfl ?_
      refine z_iinc (k := 0) (lv' := [(2, zi (k + 1)), (0, .ref r0), (1, .ref o0)]) hx hb dX8_copyFrom_38 hl rfl (by decide) rfl (fun ls hl => ?_)
      refine lv_goto (tgt := 7) hx hb dX8_copyFrom_41 (by decide) ?_
      exact ih7 (k + 1, iu G1 k (OF k), iu G2 k (OB k)) _ _ _ (by first | (dsimp only; omega) | omega) ⟨⟨by omega, iu_fill hi7.2.1, iu_fill hi7.2.2⟩, lv_sub hl [0, 1, 2] rfl, hP.sub [0, 1, 2] rfl, hD.sub [0, 1, 2] (by decide) rfl, hS⟩
set_option maxHeartbeats 8000000 in
set_option maxRecDepth 100000 in
theorem c_X8_redSet (l : Launch) (D : va_G) (y : Nat → ClassId) (r0 : Nat) (rl : Nat) (rr : Nat) (rn : Int) (rk : Int) (ra : Int) (RF : Int → Int) (RB : Int → Int) (hr0 : rOK rn RF RB) : Met l yX8_redSet wsX8_redSet ({ frames := 0, cells := 0, slots := 0, locals := 0 } : Room) (pPc D y [(r0, .inr (7, [.ref rl, .ref rr, zi rn, zi rk, zi ra])), (rl, .inl (y 0, 12, .inl (cI RF))), (rr, .inl (y 2, 12, .inl (cI RB)))] [.ref r0]) (qV (zi (rset RB rn))) 0 0 (fun _ => False) := by
  refine P_of (own := RX8) (cc := cX8_redSet) (maxL := 3) (ret := some .int) (by decide) rfl rfl (Nat.le_of_ble_eq_true rfl) (fun p e s m below meth c ls hx hb hr hC hlocks hPr hG hl => ?_)
  have hC0 := hC
  obtain ⟨-, -, hml, hown, hts⟩ := hC0
  have hK := hG.1
  have hinX8 : ∀ w ∈ wsX80, w ∈ wsX8_redSet := fun _ h => List.mem_cons_of_mem _ (List.mem_append_right _ h)
  have k1 := hts (.fieldLink RX8 19 "BoatsOfPaper$Runs" "size" "I") (List.mem_of_getElem? (i := 1) rfl)
  have k2 := hts (.fieldLink RX8 15 "BoatsOfPaper$Runs" "isRed" "[Z") (List.mem_of_getElem? (i := 2) rfl)
  have hl : lv_has ls 3 [(0, .ref r0)] := hl
  obtain ⟨u1, uk⟩ := id hr0
  refine z_iconst hx hb dX8_redSet_0 ?_
  refine lv_istore_n (lv' := [(1, zi 0), (0, .ref r0)]) hx hb dX8_redSet_1 rfl hl (by decide) rfl (fun ls hl => ?_)
  refine z_iconst hx hb dX8_redSet_2 ?_
  refine lv_istore_n (lv' := [(2, zi 0), (1, zi 0), (0, .ref r0)]) hx hb dX8_redSet_3 rfl hl (by decide) rfl (fun ls hl => ?_)
  refine z_loop (σ := Int × Int) (fun x9 H lc ls => match x9 with | (v, k) => ((0 ≤ k ∧ k ≤ rn) ∧ v = rset RB k) ∧ lv_has ls 3 [(2, zi k), (1, zi v), (0, .ref r0)] ∧ H = s.heap ∧ lc = []) (fun x9  => match x9 with | (v, k) => ((rn - k).toNat)) ?_ (0, 0) ⟨⟨by omega, rfl⟩, lv_sub hl [0, 1, 2] rfl, rfl, rfl⟩
  rintro ⟨v, k⟩ H lc ls ⟨hi4, hl, rfl, rfl⟩ ih4
  have b2 := rset_bd (RB := RB) (n := k) (by omega) (fun j a b => (uk j a (by omega)).2)
  have b3 := pow12 (n := k) (by omega)
  refine lv_iload_n hx hb dX8_redSet_4 rfl (lv_at hl 0 rfl) ?_
  refine lv_aload_n hx hb dX8_redSet_5 rfl (lv_at hl 2 rfl) ?_
  refine va_get hx hb hts hinX8 hown hK hPr 0 rfl rfl 2 (by decide) k1 (fun _ h => h) rfl dX8_redSet_6 ?_
  refine z_icmp_ge (tgt := 37) hx hb (by omega) (by omega) dX8_redSet_9 (by decide) (fun c_9 => ?_) (fun c_9 => ?_)
  ·
    refine lv_iload_n hx hb dX8_redSet_37 rfl (lv_at hl 1 rfl) ?_
    exact z_iret0 hx hb hr hlocks (by rw [hi4.2, show k = rn by omega]) dX8_redSet_38
  ·
    refine lv_iload_n hx hb dX8_redSet_12 rfl (lv_at hl 1 rfl) ?_
    refine lv_aload_n hx hb dX8_redSet_13 rfl (lv_at hl 2 rfl) ?_
    refine va_get hx hb hts hinX8 hown hK hPr 0 rfl rfl 1 (by decide) k2 (fun _ h => h) rfl dX8_redSet_14 ?_
    refine lv_iload_n hx hb dX8_redSet_17 rfl (lv_at hl 0 rfl) ?_
    refine z_zald hx hb hK hPr 2 2 rfl rfl (by omega) (by decide) dX8_redSet_18 ?_
    have b1 := (uk k (by omega) (by omega)).2
    refine z_if_eq (tgt := 28) hx hb (by omega) dX8_redSet_19 (by decide) (fun c_19 => ?_) (fun c_19 => ?_)
    ·
      refine z_iconst hx hb dX8_redSet_28 ?_
      refine z_ior hx hb (by omega) dX8_redSet_29 ?_
      refine lv_istore_n (lv' := [(1, zi (bor v 0)), (2, zi k), (0, .ref r0)]) hx hb dX8_redSet_30 rfl hl (by decide) rfl (fun ls hl => ?_)
      refine z_iinc (k := 1) (lv' := [(2, zi (k + 1)), (1, zi (bor v 0)), (0, .ref r0)]) hx hb dX8_redSet_31 hl rfl (by decide) rfl (fun ls hl => ?_)
      refine lv_goto (tgt := 4) hx hb dX8_redSet_34 (by decide) ?_
      exact ih4 (bor v 0, k + 1) _ _ _ (by first | (dsimp only; omega) | omega) ⟨⟨by omega, by rw [show rset RB (k + 1) = rset RB k + RB k * 2 ^ k.toNat from sgI_s _ (by omega), hi4.2]; first | (rw [bor_add b2.1 b2.2, show RB k = 1 by omega, Int.one_mul]) | (rw [bor_0 b2.1, show RB k = 0 by omega]; omega)⟩, lv_sub hl [0, 1, 2] rfl, rfl, rfl⟩
    ·
      refine z_iconst hx hb dX8_redSet_22 ?_
      refine lv_iload_n hx hb dX8_redSet_23 rfl (lv_at hl 0 rfl) ?_
      refine z_ishl hx hb (by omega) dX8_redSet_24 ?_
      refine lv_goto (tgt := 29) hx hb dX8_redSet_25 (by decide) ?_
      refine z_ior hx hb (by omega) dX8_redSet_29 ?_
      refine lv_istore_n (lv' := [(1, zi (bor v (1 * 2 ^ k.toNat))), (2, zi k), (0, .ref r0)]) hx hb dX8_redSet_30 rfl hl (by decide) rfl (fun ls hl => ?_)
      refine z_iinc (k := 1) (lv' := [(2, zi (k + 1)), (1, zi (bor v (1 * 2 ^ k.toNat))), (0, .ref r0)]) hx hb dX8_redSet_31 hl rfl (by decide) rfl (fun ls hl => ?_)
      refine lv_goto (tgt := 4) hx hb dX8_redSet_34 (by decide) ?_
      exact ih4 (bor v (1 * 2 ^ k.toNat), k + 1) _ _ _ (by first | (dsimp only; omega) | omega) ⟨⟨by omega, by rw [show rset RB (k + 1) = rset RB k + RB k * 2 ^ k.toNat from sgI_s _ (by omega), hi4.2]; first | (rw [bor_add b2.1 b2.2, show RB k = 1 by omega, Int.one_mul]) | (rw [bor_0 b2.1, show RB k = 0 by omega]; omega)⟩, lv_sub hl [0, 1, 2] rfl, rfl, rfl⟩
set_option maxHeartbeats 8000000 in
set_option maxRecDepth 100000 in
theorem c_X8_sumOf (l : Launch) (D : va_G) (y : Nat → ClassId) (r0 : Nat) (rl : Nat) (rr : Nat) (rn : Int) (rk : Int) (ra : Int) (RF : Int → Int) (RB : Int → Int) (tq : Int) (hr0 : rOK rn RF RB) (hq : 0 ≤ tq ∧ tq < 4096) : Met l yX8_sumOf wsX8_sumOf ({ frames := 0, cells := 0, slots := 0, locals := 0 } : Room) (pPc D y [(r0, .inr (7, [.ref rl, .ref rr, zi rn, zi rk, zi ra])), (rl, .inl (y 0, 12, .inl (cI RF))), (rr, .inl (y 2, 12, .inl (cI RB)))] [.ref r0, zi tq]) (qV (zi (sumF rn RF tq))) 0 0 (fun _ => False) := by
  refine P_of (own := RX8) (cc := cX8_sumOf) (maxL := 4) (ret := some .int) (by decide) rfl rfl (Nat.le_of_ble_eq_true rfl) (fun p e s m below meth c ls hx hb hr hC hlocks hPr hG hl => ?_)
  have hC0 := hC
  obtain ⟨-, -, hml, hown, hts⟩ := hC0
  have hK := hG.1
  have hinX8 : ∀ w ∈ wsX80, w ∈ wsX8_sumOf := fun _ h => List.mem_cons_of_mem _ (List.mem_append_right _ h)
  have k1 := hts (.fieldLink RX8 19 "BoatsOfPaper$Runs" "size" "I") (List.mem_of_getElem? (i := 1) rfl)
  have k2 := hts (.fieldLink RX8 9 "BoatsOfPaper$Runs" "lengths" "[I") (List.mem_of_getElem? (i := 2) rfl)
  have hl : lv_has ls 4 [(0, .ref r0), (1, zi tq)] := hl
  obtain ⟨u1, uk⟩ := id hr0
  refine z_iconst hx hb dX8_sumOf_0 ?_
  refine lv_istore_n (lv' := [(2, zi 0), (0, .ref r0), (1, zi tq)]) hx hb dX8_sumOf_1 rfl hl (by decide) rfl (fun ls hl => ?_)
  refine z_iconst hx hb dX8_sumOf_2 ?_
  refine lv_istore_n (lv' := [(3, zi 0), (2, zi 0), (0, .ref r0), (1, zi tq)]) hx hb dX8_sumOf_3 rfl hl (by decide) rfl (fun ls hl => ?_)
  refine z_loop (σ := Int × Int) (fun x9 H lc ls => match x9 with | (v, k) => ((0 ≤ k ∧ k ≤ rn) ∧ v = sgI (fun j => tq / 2 ^ j.toNat % 2 * RF j) k) ∧ lv_has ls 4 [(3, zi k), (2, zi v), (0, .ref r0), (1, zi tq)] ∧ H = s.heap ∧ lc = []) (fun x9  => match x9 with | (v, k) => ((rn - k).toNat)) ?_ (0, 0) ⟨⟨by omega, rfl⟩, lv_sub hl [0, 1, 2, 3] rfl, rfl, rfl⟩
  rintro ⟨v, k⟩ H lc ls ⟨hi4, hl, rfl, rfl⟩ ih4
  refine lv_iload_n hx hb dX8_sumOf_4 rfl (lv_at hl 0 rfl) ?_
  refine lv_aload_n hx hb dX8_sumOf_5 rfl (lv_at hl 2 rfl) ?_
  refine va_get hx hb hts hinX8 hown hK hPr 0 rfl rfl 2 (by decide) k1 (fun _ h => h) rfl dX8_sumOf_6 ?_
  refine z_icmp_ge (tgt := 33) hx hb (by omega) (by omega) dX8_sumOf_9 (by decide) (fun c_9 => ?_) (fun c_9 => ?_)
  ·
    refine lv_iload_n hx hb dX8_sumOf_33 rfl (lv_at hl 1 rfl) ?_
    exact z_iret0 hx hb hr hlocks (by rw [hi4.2, show k = rn by omega]; rfl) dX8_sumOf_34
  ·
    refine lv_iload_n hx hb dX8_sumOf_12 rfl (lv_at hl 1 rfl) ?_
    refine lv_iload_n hx hb dX8_sumOf_13 rfl (lv_at hl 3 rfl) ?_
    refine lv_iload_n hx hb dX8_sumOf_14 rfl (lv_at hl 0 rfl) ?_
    refine z_ishr hx hb (by omega) dX8_sumOf_15 ?_
    refine z_iconst hx hb dX8_sumOf_16 ?_
    have b4 := Int.ediv_nonneg (a := tq) (b := 2 ^ k.toNat) (by omega) (Int.le_of_lt (two_pos _))
    have b5 := Int.ediv_le_self (a := tq) (2 ^ k.toNat) (by omega)
    refine z_iand1 hx hb (by omega) dX8_sumOf_17 ?_
    refine lv_aload_n hx hb dX8_sumOf_18 rfl (lv_at hl 2 rfl) ?_
    refine va_get hx hb hts hinX8 hown hK hPr 0 rfl rfl 0 (by decide) k2 (fun _ h => h) rfl dX8_sumOf_19 ?_
    refine lv_iload_n hx hb dX8_sumOf_22 rfl (lv_at hl 0 rfl) ?_
    refine z_iald hx hb hK hPr 1 0 rfl rfl (by omega) (by decide) dX8_sumOf_23 ?_
    refine z_imul hx hb dX8_sumOf_24 ?_
    refine z_iadd hx hb dX8_sumOf_25 ?_
    refine lv_istore_n (lv' := [(2, zi (v + (((tq / 2 ^ k.toNat) % 2) * (RF k)))), (3, zi k), (0, .ref r0), (1, zi tq)]) hx hb dX8_sumOf_26 rfl hl (by decide) rfl (fun ls hl => ?_)
    refine z_iinc (k := 1) (lv' := [(3, zi (k + 1)), (2, zi (v + (((tq / 2 ^ k.toNat) % 2) * (RF k)))), (0, .ref r0), (1, zi tq)]) hx hb dX8_sumOf_27 hl rfl (by decide) rfl (fun ls hl => ?_)
    refine lv_goto (tgt := 4) hx hb dX8_sumOf_30 (by decide) ?_
    exact ih4 (v + (((tq / 2 ^ k.toNat) % 2) * (RF k)), k + 1) _ _ _ (by first | (dsimp only; omega) | omega) ⟨⟨by omega, by rw [sgI_s _ (by omega)]; omega⟩, lv_sub hl [0, 1, 2, 3] rfl, rfl, rfl⟩
set_option maxHeartbeats 8000000 in
set_option maxRecDepth 100000 in
theorem c_J6_bitCount_0f7a4 (l : Launch) (D : va_G) (y : Nat → ClassId) (qx : Int) (hq : 0 ≤ qx ∧ qx < 4096) : Met l yJ6_bitCount_0f7a4 wsJ6_bitCount_0f7a4 ({ frames := 0, cells := 0, slots := 0, locals := 0 } : Room) (pPc D y [] [zi qx]) (qV (zi (popI qx))) 0 0 (fun _ => False) := by
  refine P_of (own := RJ6) (cc := cJ6_bitCount_0f7a4) (maxL := 1) (ret := some .int) (by decide) rfl rfl (Nat.le_of_ble_eq_true rfl) (fun p e s m below meth c ls hx hb hr hC hlocks hPr hG hl => ?_)
  have hC0 := hC
  obtain ⟨-, -, hml, hown, hts⟩ := hC0
  have hl : lv_has ls 1 [(0, zi qx)] := hl
  refine lv_iload_n hx hb dJ6_bitCount_0f7a4_0 rfl (lv_at hl 0 rfl) ?_
  refine lv_iload_n hx hb dJ6_bitCount_0f7a4_1 rfl (lv_at hl 0 rfl) ?_
  refine lv_iconst (v := 1) hx hb dJ6_bitCount_0f7a4_2 rfl ?_
  refine lv_iushr hx hb dJ6_bitCount_0f7a4_3 rfl ?_
  refine lv_ldcw (v := 1431655765) hx hb hown (hts (.constant RJ6 265 (1431655765)) (List.mem_of_getElem? (i := 1) rfl)) dJ6_bitCount_0f7a4_4 ?_
  refine lv_iand hx hb dJ6_bitCount_0f7a4_7 ?_
  refine lv_isub hx hb dJ6_bitCount_0f7a4_8 ?_
  refine lv_topi (fun x1 ex1 => ?_)
  refine lv_istore_n (lv' := [(0, .int x1)]) hx hb dJ6_bitCount_0f7a4_9 rfl hl (by decide) rfl (fun ls hl => ?_)
  refine lv_iload_n hx hb dJ6_bitCount_0f7a4_10 rfl (lv_at hl 0 rfl) ?_
  refine lv_ldcw (v := 858993459) hx hb hown (hts (.constant RJ6 266 (858993459)) (List.mem_of_getElem? (i := 2) rfl)) dJ6_bitCount_0f7a4_11 ?_
  refine lv_iand hx hb dJ6_bitCount_0f7a4_14 ?_
  refine lv_iload_n hx hb dJ6_bitCount_0f7a4_15 rfl (lv_at hl 0 rfl) ?_
  refine lv_iconst (v := 2) hx hb dJ6_bitCount_0f7a4_16 rfl ?_
  refine lv_iushr hx hb dJ6_bitCount_0f7a4_17 rfl ?_
  refine lv_ldcw (v := 858993459) hx hb hown (hts (.constant RJ6 266 (858993459)) (List.mem_of_getElem? (i := 2) rfl)) dJ6_bitCount_0f7a4_18 ?_
  refine lv_iand hx hb dJ6_bitCount_0f7a4_21 ?_
  refine lv_iadd hx hb dJ6_bitCount_0f7a4_22 ?_
  refine lv_topi (fun x2 ex2 => ?_)
  refine lv_istore_n (lv' := [(0, .int x2)]) hx hb dJ6_bitCount_0f7a4_23 rfl hl (by decide) rfl (fun ls hl => ?_)
  refine lv_iload_n hx hb dJ6_bitCount_0f7a4_24 rfl (lv_at hl 0 rfl) ?_
  refine lv_iload_n hx hb dJ6_bitCount_0f7a4_25 rfl (lv_at hl 0 rfl) ?_
  refine lv_iconst (v := 4) hx hb dJ6_bitCount_0f7a4_26 rfl ?_
  refine lv_iushr hx hb dJ6_bitCount_0f7a4_27 rfl ?_
  refine lv_iadd hx hb dJ6_bitCount_0f7a4_28 ?_
  refine lv_ldcw (v := 252645135) hx hb hown (hts (.constant RJ6 267 (252645135)) (List.mem_of_getElem? (i := 3) rfl)) dJ6_bitCount_0f7a4_29 ?_
  refine lv_iand hx hb dJ6_bitCount_0f7a4_32 ?_
  refine lv_topi (fun x3 ex3 => ?_)
  refine lv_istore_n (lv' := [(0, .int x3)]) hx hb dJ6_bitCount_0f7a4_33 rfl hl (by decide) rfl (fun ls hl => ?_)
  refine lv_iload_n hx hb dJ6_bitCount_0f7a4_34 rfl (lv_at hl 0 rfl) ?_
  refine lv_iload_n hx hb dJ6_bitCount_0f7a4_35 rfl (lv_at hl 0 rfl) ?_
  refine lv_bipush (v := 8) hx hb dJ6_bitCount_0f7a4_36 (by decide) ?_
  refine lv_iushr hx hb dJ6_bitCount_0f7a4_38 rfl ?_
  refine lv_iadd hx hb dJ6_bitCount_0f7a4_39 ?_
  refine lv_topi (fun x4 ex4 => ?_)
  refine lv_istore_n (lv' := [(0, .int x4)]) hx hb dJ6_bitCount_0f7a4_40 rfl hl (by decide) rfl (fun ls hl => ?_)
  refine lv_iload_n hx hb dJ6_bitCount_0f7a4_41 rfl (lv_at hl 0 rfl) ?_
  refine lv_iload_n hx hb dJ6_bitCount_0f7a4_42 rfl (lv_at hl 0 rfl) ?_
  refine lv_bipush (v := 16) hx hb dJ6_bitCount_0f7a4_43 (by decide) ?_
  refine lv_iushr hx hb dJ6_bitCount_0f7a4_45 rfl ?_
  refine lv_iadd hx hb dJ6_bitCount_0f7a4_46 ?_
  refine lv_topi (fun x5 ex5 => ?_)
  refine lv_istore_n (lv' := [(0, .int x5)]) hx hb dJ6_bitCount_0f7a4_47 rfl hl (by decide) rfl (fun ls hl => ?_)
  refine lv_iload_n hx hb dJ6_bitCount_0f7a4_48 rfl (lv_at hl 0 rfl) ?_
  refine lv_bipush (v := 63) hx hb dJ6_bitCount_0f7a4_49 (by decide) ?_
  refine lv_iand hx hb dJ6_bitCount_0f7a4_51 ?_
  refine lv_topi (fun x6 ex6 => ?_)
  have e9 : x6 = iI (popI qx) := by
    rw [← bcF_ok hq, ex6, ex5, ex4, ex3, ex2, ex1]
    rfl
  subst e9
  exact z_iret0 hx hb hr hlocks rfl dJ6_bitCount_0f7a4_52
set_option maxHeartbeats 8000000 in
set_option maxRecDepth 100000 in
theorem c_X8_reds (l : Launch) (D : va_G) (y : Nat → ClassId) (r0 : Nat) (rl : Nat) (rr : Nat) (rn : Int) (rk : Int) (ra : Int) (RF : Int → Int) (RB : Int → Int) (hr0 : rOK rn RF RB) : Met l yX8_reds wsX8_reds ({ frames := 1, cells := 0, slots := 0, locals := 22 } : Room) (pPc D y [(r0, .inr (7, [.ref rl, .ref rr, zi rn, zi rk, zi ra])), (rl, .inl (y 0, 12, .inl (cI RF))), (rr, .inl (y 2, 12, .inl (cI RB)))] [.ref r0]) (qV (zi (popI (rset RB rn)))) 0 0 (fun _ => False) := by
  refine P_of (own := RX8) (cc := cX8_reds) (maxL := 1) (ret := some .int) (by decide) rfl rfl (Nat.le_of_ble_eq_true rfl) (fun p e s m below meth c ls hx hb hr hC hlocks hPr hG hl => ?_)
  have hC0 := hC
  obtain ⟨-, -, hml, hown, hts⟩ := hC0
  have hK := hG.1
  have hl : lv_has ls 1 [(0, .ref r0)] := hl
  obtain ⟨u1, uk⟩ := id hr0
  have b6 := rset_bd (RB := RB) (n := rn) (by omega) (fun j a b => (uk j a b).2)
  have b7 := pow12 (n := rn) (by omega)
  refine lv_aload_n hx hb dX8_reds_0 rfl (lv_at hl 0 rfl) ?_
  refine z_pV (As := []) (rest := []) hC (c_X8_redSet l D y r0 rl rr rn rk ra RF RB (by first | assumption | omega)) (cwV 0 hts gX8_reds_X8_redSet rfl rfl rfl (by decide +kernel) ⟨Nat.le_of_ble_eq_true rfl, Nat.le_of_ble_eq_true rfl⟩) hG (hPr.sub (ws' := [(r0, .inr (7, [.ref rl, .ref rr, zi rn, zi rk, zi ra])), (rl, .inl (y 0, 12, .inl (cI RF))), (rr, .inl (y 2, 12, .inl (cI RB)))]) [0, 1, 2] rfl) 0 rfl rfl rfl hl.1 rfl (Nat.le_of_ble_eq_true rfl) dX8_reds_1 ⟨Nat.le_of_ble_eq_true rfl, Nat.le_of_ble_eq_true rfl⟩ ?_
  refine z_pS (As := [zi (rset RB rn)]) (rest := []) hC (c_J6_bitCount_0f7a4 l D y (rset RB rn) (by first | assumption | omega)) (va_cwS 1 hts gX8_reds_J6_bitCount_0f7a4 rfl rfl rfl (by decide +kernel) ⟨Nat.le_of_ble_eq_true rfl, Nat.le_of_ble_eq_true rfl⟩) hG va_P_nil rfl hl.1 rfl (Nat.le_of_ble_eq_true rfl) dX8_reds_4 ⟨Nat.le_of_ble_eq_true rfl, Nat.le_of_ble_eq_true rfl⟩ ?_
  exact z_iret0 hx hb hr hlocks (rfl) dX8_reds_7
set_option maxHeartbeats 8000000 in
set_option maxRecDepth 100000 in
theorem c_X8_dealAll (l : Launch) (D : va_G) (y : Nat → ClassId) (r0 : Nat) (rl : Nat) (rr : Nat) (rn : Int) (rk : Int) (ra : Int) (RF : Int → Int) (RB : Int → Int) (hr0 : rOK rn RF RB) (sz : Nat) : Met l yX8_dealAll wsX8_dealAll ({ frames := 1, cells := 0, slots := 0, locals := 23 } : Room) (wPc D y [] [(r0, .inr (7, [.ref rl, .ref rr, zi rn, zi rk, zi ra])), (rl, .inl (y 0, 12, .inl (cI RF))), (rr, .inl (y 2, 12, .inl (cI RB)))] sz [.ref r0]) (wQ D (fun (_ : Unit) => none) (fun (_ : Unit) => True) (fun (_ : Unit) => [(r0, .inr (7, [.ref rl, .ref rr, zi rn, zi (luckV rn RF (popI (rset RB rn)) (sumF rn RF (rset RB rn))), zi (allV rn (popI (rset RB rn)))])), (rl, .inl (y 0, 12, .inl (cI RF))), (rr, .inl (y 2, 12, .inl (cI RB)))]) (va_A [(r0, .inr (7, [.ref rl, .ref rr, zi rn, zi rk, zi ra])), (rl, .inl (y 0, 12, .inl (cI RF))), (rr, .inl (y 2, 12, .inl (cI RB)))] sz)) 0 0 (va_A [(r0, .inr (7, [.ref rl, .ref rr, zi rn, zi rk, zi ra])), (rl, .inl (y 0, 12, .inl (cI RF))), (rr, .inl (y 2, 12, .inl (cI RB)))] sz) := by
  refine W_of (own := RX8) (cc := cX8_dealAll) (maxL := 5) (ret := none) (by decide) rfl rfl (Nat.le_of_ble_eq_true rfl) (fun p e s m below meth c ls A hx hb hr hC hlocks hin0 hR0 hN hP hD hA hG hl => ?_)
  have hC0 := hC
  obtain ⟨-, -, hml, hown, hts⟩ := hC0
  have hK := hG.1
  have hS : va_S A s.heap s.heap [] := va_S.rf
  have hPr := hR0
  have hinX8 : ∀ w ∈ wsX80, w ∈ wsX8_dealAll := fun _ h => List.mem_cons_of_mem _ (List.mem_append_right _ h)
  have k1 := hts (.fieldLink RX8 23 "BoatsOfPaper$Runs" "luckyDeals" "I") (List.mem_of_getElem? (i := 1) rfl)
  have k2 := hts (.fieldLink RX8 26 "BoatsOfPaper$Runs" "allDeals" "I") (List.mem_of_getElem? (i := 2) rfl)
  have k3 := hts (.fieldLink RX8 19 "BoatsOfPaper$Runs" "size" "I") (List.mem_of_getElem? (i := 3) rfl)
  have hl : lv_has ls 5 [(0, .ref r0)] := hl
  obtain ⟨u1, uk⟩ := id hr0
  have b6 := rset_bd (RB := RB) (n := rn) (by omega) (fun j a b => (uk j a b).2)
  have b7 := pow12 (n := rn) (by omega)
  have b8 := popI_bd (rset RB rn)
  have b9 := sumF_bd hr0 (rset RB rn) (k := rn) (by omega) (by omega)
  refine lv_aload_n hx hb dX8_dealAll_0 rfl (lv_at hl 0 rfl) ?_
  refine z_pV (As := []) (rest := []) hC (c_X8_redSet l D y r0 rl rr rn rk ra RF RB (by first | assumption | omega)) (cwV 0 hts gX8_dealAll_X8_redSet rfl rfl rfl (by decide +kernel) ⟨Nat.le_of_ble_eq_true rfl, Nat.le_of_ble_eq_true rfl⟩) hG (hP.sub (ws' := [(r0, .inr (7, [.ref rl, .ref rr, zi rn, zi rk, zi ra])), (rl, .inl (y 0, 12, .inl (cI RF))), (rr, .inl (y 2, 12, .inl (cI RB)))]) [0, 1, 2] rfl) 0 rfl rfl rfl hl.1 rfl (Nat.le_of_ble_eq_true rfl) dX8_dealAll_1 ⟨Nat.le_of_ble_eq_true rfl, Nat.le_of_ble_eq_true rfl⟩ ?_
  refine lv_istore_n (lv' := [(1, zi (rset RB rn)), (0, .ref r0)]) hx hb dX8_dealAll_4 rfl hl (by decide) rfl (fun ls hl => ?_)
  refine lv_aload_n hx hb dX8_dealAll_5 rfl (lv_at hl 1 rfl) ?_
  refine lv_iload_n hx hb dX8_dealAll_6 rfl (lv_at hl 0 rfl) ?_
  refine z_pV (As := [zi (rset RB rn)]) (rest := []) hC (c_X8_sumOf l D y r0 rl rr rn rk ra RF RB (rset RB rn) (by first | assumption | omega) (by first | assumption | omega)) (cwV 1 hts gX8_dealAll_X8_sumOf rfl rfl rfl (by decide +kernel) ⟨Nat.le_of_ble_eq_true rfl, Nat.le_of_ble_eq_true rfl⟩) hG (hP.sub (ws' := [(r0, .inr (7, [.ref rl, .ref rr, zi rn, zi rk, zi ra])), (rl, .inl (y 0, 12, .inl (cI RF))), (rr, .inl (y 2, 12, .inl (cI RB)))]) [0, 1, 2] rfl) 0 rfl rfl rfl hl.1 rfl (Nat.le_of_ble_eq_true rfl) dX8_dealAll_7 ⟨Nat.le_of_ble_eq_true rfl, Nat.le_of_ble_eq_true rfl⟩ ?_
  refine lv_istore_n (lv' := [(2, zi (sumF rn RF (rset RB rn))), (1, zi (rset RB rn)), (0, .ref r0)]) hx hb dX8_dealAll_10 rfl hl (by decide) rfl (fun ls hl => ?_)
  refine lv_iload_n hx hb dX8_dealAll_11 rfl (lv_at hl 1 rfl) ?_
  refine z_pS (As := [zi (rset RB rn)]) (rest := []) hC (c_J6_bitCount_0f7a4 l D y (rset RB rn) (by first | assumption | omega)) (va_cwS 1 hts gX8_dealAll_J6_bitCount_0f7a4 rfl rfl rfl (by decide +kernel) ⟨Nat.le_of_ble_eq_true rfl, Nat.le_of_ble_eq_true rfl⟩) hG va_P_nil rfl hl.1 rfl (Nat.le_of_ble_eq_true rfl) dX8_dealAll_12 ⟨Nat.le_of_ble_eq_true rfl, Nat.le_of_ble_eq_true rfl⟩ ?_
  refine lv_istore_n (lv' := [(3, zi (popI (rset RB rn))), (2, zi (sumF rn RF (rset RB rn))), (1, zi (rset RB rn)), (0, .ref r0)]) hx hb dX8_dealAll_15 rfl hl (by decide) rfl (fun ls hl => ?_)
  refine lv_aload_n hx hb dX8_dealAll_16 rfl (lv_at hl 3 rfl) ?_
  refine z_iconst hx hb dX8_dealAll_17 ?_
  refine va_put hx hb hts hinX8 tyX8 tyX8_ok nmX8 hown hK hP hD hS 0 rfl rfl 3 (by decide) k1 (fun _ h => h) rfl (tyX8_ok 3 (by decide)) rfl rfl (Nat.le_of_ble_eq_true rfl) dX8_dealAll_18 (fun H locs hP hD hS => ?_)
  have hP : va_P D vwCl [(r0, .inr (7, [.ref rl, .ref rr, zi rn, zi 0, zi ra])), (rl, .inl (y 0, 12, .inl (cI RF))), (rr, .inl (y 2, 12, .inl (cI RB)))] H := hP
  have hD : va_D A [(r0, .inr (7, [.ref rl, .ref rr, zi rn, zi 0, zi ra])), (rl, .inl (y 0, 12, .inl (cI RF))), (rr, .inl (y 2, 12, .inl (cI RB)))] := hD
  refine lv_aload_n hx hb dX8_dealAll_21 rfl (lv_at hl 3 rfl) ?_
  refine z_iconst hx hb dX8_dealAll_22 ?_
  refine va_put hx hb hts hinX8 tyX8 tyX8_ok nmX8 hown hK hP hD hS 0 rfl rfl 4 (by decide) k2 (fun _ h => h) rfl (tyX8_ok 4 (by decide)) rfl rfl (Nat.le_of_ble_eq_true rfl) dX8_dealAll_23 (fun H locs hP hD hS => ?_)
  have hP : va_P D vwCl [(r0, .inr (7, [.ref rl, .ref rr, zi rn, zi 0, zi 0])), (rl, .inl (y 0, 12, .inl (cI RF))), (rr, .inl (y 2, 12, .inl (cI RB)))] H := hP
  have hD : va_D A [(r0, .inr (7, [.ref rl, .ref rr, zi rn, zi 0, zi 0])), (rl, .inl (y 0, 12, .inl (cI RF))), (rr, .inl (y 2, 12, .inl (cI RB)))] := hD
  refine z_iconst hx hb dX8_dealAll_26 ?_
  refine lv_istore (lv' := [(4, zi 0), (3, zi (popI (rset RB rn))), (2, zi (sumF rn RF (rset RB rn))), (1, zi (rset RB rn)), (0, .ref r0)]) hx hb dX8_dealAll_27 hl (by decide) rfl (fun ls hl => ?_)
  refine z_loop (σ := Int × Int × Int) (fun x9 H lc ls => match x9 with | (k, vk, va) => ((0 ≤ k ∧ k ≤ 1 * 2 ^ rn.toNat) ∧ va = sgI (fun t => bI (popI t = popI (rset RB rn))) k ∧ vk = sgI (fun t => bI (popI t = popI (rset RB rn) ∧ sumF rn RF (rset RB rn) ≤ sumF rn RF t)) k) ∧ lv_has ls 5 [(4, zi k), (3, zi (popI (rset RB rn))), (2, zi (sumF rn RF (rset RB rn))), (1, zi (rset RB rn)), (0, .ref r0)] ∧ va_P D vwCl [(r0, .inr (7, [.ref rl, .ref rr, zi rn, zi vk, zi va])), (rl, .inl (y 0, 12, .inl (cI RF))), (rr, .inl (y 2, 12, .inl (cI RB)))] H ∧ va_D A [(r0, .inr (7, [.ref rl, .ref rr, zi rn, zi vk, zi va])), (rl, .inl (y 0, 12, .inl (cI RF))), (rr, .inl (y 2, 12, .inl (cI RB)))] ∧ va_S A s.heap H lc) (fun x9  => match x9 with | (k, vk, va) => ((1 * 2 ^ rn.toNat - k).toNat)) ?_ (0, 0, 0) ⟨⟨by omega, rfl, rfl⟩, lv_sub hl [0, 1, 2, 3, 4] rfl, hP.sub [0, 1, 2] rfl, hD.sub [0, 1, 2] (by decide) rfl, hS⟩
  rintro ⟨k, vk, va⟩ H lc ls ⟨hi29, hl, hP, hD, hS⟩ ih29
  have hP : va_P D vwCl [(r0, .inr (7, [.ref rl, .ref rr, zi rn, zi vk, zi va])), (rl, .inl (y 0, 12, .inl (cI RF))), (rr, .inl (y 2, 12, .inl (cI RB)))] H := hP
  have hD : va_D A [(r0, .inr (7, [.ref rl, .ref rr, zi rn, zi vk, zi va])), (rl, .inl (y 0, 12, .inl (cI RF))), (rr, .inl (y 2, 12, .inl (cI RB)))] := hD
  obtain ⟨j1, j2, j3⟩ := hi29
  have b10 := popI_bd k
  have b11 := sumF_bd hr0 k (k := rn) (by omega) (by omega)
  have b12 : sgI (fun j => k / 2 ^ j.toNat % 2 * RF j) rn = sumF rn RF k := rfl
  have b13 : sgI (fun j => rset RB rn / 2 ^ j.toNat % 2 * RF j) rn = sumF rn RF (rset RB rn) := rfl
  refine lv_iload hx hb dX8_dealAll_29 (lv_at hl 0 rfl) ?_
  refine z_iconst hx hb dX8_dealAll_31 ?_
  refine lv_aload_n hx hb dX8_dealAll_32 rfl (lv_at hl 4 rfl) ?_
  refine va_get hx hb hts hinX8 hown hK hP 0 rfl rfl 2 (by decide) k3 (fun _ h => h) rfl dX8_dealAll_33 ?_
  refine z_ishl hx hb (by omega) dX8_dealAll_36 ?_
  refine z_icmp_ge (tgt := 89) hx hb (by omega) (by omega) dX8_dealAll_37 (by decide) (fun c_37 => ?_) (fun c_37 => ?_)
  ·
    have e9 : k = 1 * 2 ^ rn.toNat := by omega
    rw [e9] at j2 j3
    have e1 : luckV rn RF (popI (rset RB rn)) (sumF rn RF (rset RB rn)) = vk := j3.symm
    have e2 : allV rn (popI (rset RB rn)) = va := j2.symm
    have hP : va_P D vwCl [(r0, .inr (7, [.ref rl, .ref rr, zi rn, zi (luckV rn RF (popI (rset RB rn)) (sumF rn RF (rset RB rn))), zi va])), (rl, .inl (y 0, 12, .inl (cI RF))), (rr, .inl (y 2, 12, .inl (cI RB)))] H := by rw [show luckV rn RF (popI (rset RB rn)) (sumF rn RF (rset RB rn)) = vk by omega]; exact hP
    have hD : va_D A [(r0, .inr (7, [.ref rl, .ref rr, zi rn, zi (luckV rn RF (popI (rset RB rn)) (sumF rn RF (rset RB rn))), zi va])), (rl, .inl (y 0, 12, .inl (cI RF))), (rr, .inl (y 2, 12, .inl (cI RB)))] := by rw [show luckV rn RF (popI (rset RB rn)) (sumF rn RF (rset RB rn)) = vk by omega]; exact hD
    have hP : va_P D vwCl [(r0, .inr (7, [.ref rl, .ref rr, zi rn, zi (luckV rn RF (popI (rset RB rn)) (sumF rn RF (rset RB rn))), zi (allV rn (popI (rset RB rn)))])), (rl, .inl (y 0, 12, .inl (cI RF))), (rr, .inl (y 2, 12, .inl (cI RB)))] H := by rw [show allV rn (popI (rset RB rn)) = va by omega]; exact hP
    have hD : va_D A [(r0, .inr (7, [.ref rl, .ref rr, zi rn, zi (luckV rn RF (popI (rset RB rn)) (sumF rn RF (rset RB rn))), zi (allV rn (popI (rset RB rn)))])), (rl, .inl (y 0, 12, .inl (cI RF))), (rr, .inl (y 2, 12, .inl (cI RB)))] := by rw [show allV rn (popI (rset RB rn)) = va by omega]; exact hD
    exact z_vretW hx hb hr hlocks () rfl (trivial) (hP.sub [0, 1, 2] rfl) (hD.sub [0, 1, 2] (by decide) rfl) hS dX8_dealAll_89
  ·
    refine lv_iload hx hb dX8_dealAll_40 (lv_at hl 0 rfl) ?_
    refine z_pS (As := [zi k]) (rest := []) hC (c_J6_bitCount_0f7a4 l D y k (by first | assumption | omega)) (va_cwS 1 hts gX8_dealAll_J6_bitCount_0f7a4 rfl rfl rfl (by decide +kernel) ⟨Nat.le_of_ble_eq_true rfl, Nat.le_of_ble_eq_true rfl⟩) hG va_P_nil rfl hl.1 rfl (Nat.le_of_ble_eq_true rfl) dX8_dealAll_42 ⟨Nat.le_of_ble_eq_true rfl, Nat.le_of_ble_eq_true rfl⟩ ?_
    refine lv_iload_n hx hb dX8_dealAll_45 rfl (lv_at hl 1 rfl) ?_
    refine z_icmp_ne (tgt := 83) hx hb (by omega) (by omega) dX8_dealAll_46 (by decide) (fun c_46 => ?_) (fun c_46 => ?_)
    ·
      refine z_iinc (k := 0) (lv' := [(4, zi (k + 1)), (3, zi (popI (rset RB rn))), (2, zi (sumF rn RF (rset RB rn))), (1, zi (rset RB rn)), (0, .ref r0)]) hx hb dX8_dealAll_83 hl rfl (by decide) rfl (fun ls hl => ?_)
      refine lv_goto (tgt := 29) hx hb dX8_dealAll_86 (by decide) ?_
      exact ih29 (k + 1, vk, va) _ _ _ (by first | (dsimp only; omega) | omega) ⟨⟨by omega, by rw [sgI_s _ j1.1, ← j2]; first | (rw [bI_t (by omega)]; done) | (rw [bI_f (by omega)]; done) | (rw [bI_f (by omega)]; omega), by rw [sgI_s _ j1.1, ← j3]; first | (rw [bI_t (by omega)]; done) | (rw [bI_f (by omega)]; done) | (rw [bI_f (by omega)]; omega)⟩, lv_sub hl [0, 1, 2, 3, 4] rfl, hP.sub [0, 1, 2] rfl, hD.sub [0, 1, 2] (by decide) rfl, hS⟩
    ·
      refine lv_aload_n hx hb dX8_dealAll_49 rfl (lv_at hl 4 rfl) ?_
      refine lv_dup hx hb dX8_dealAll_50 rfl ?_
      refine va_get hx hb hts hinX8 hown hK hP 0 rfl rfl 4 (by decide) k2 (fun _ h => h) rfl dX8_dealAll_51 ?_
      refine z_iconst hx hb dX8_dealAll_54 ?_
      refine z_iadd hx hb dX8_dealAll_55 ?_
      refine va_put hx hb hts hinX8 tyX8 tyX8_ok nmX8 hown hK hP hD hS 0 rfl rfl 4 (by decide) k2 (fun _ h => h) rfl (tyX8_ok 4 (by decide)) rfl rfl (Nat.le_of_ble_eq_true rfl) dX8_dealAll_56 (fun H locs hP hD hS => ?_)
      have hP : va_P D vwCl [(r0, .inr (7, [.ref rl, .ref rr, zi rn, zi vk, zi (va + 1)])), (rl, .inl (y 0, 12, .inl (cI RF))), (rr, .inl (y 2, 12, .inl (cI RB)))] H := hP
      have hD : va_D A [(r0, .inr (7, [.ref rl, .ref rr, zi rn, zi vk, zi (va + 1)])), (rl, .inl (y 0, 12, .inl (cI RF))), (rr, .inl (y 2, 12, .inl (cI RB)))] := hD
      refine lv_aload_n hx hb dX8_dealAll_59 rfl (lv_at hl 4 rfl) ?_
      refine lv_dup hx hb dX8_dealAll_60 rfl ?_
      refine va_get hx hb hts hinX8 hown hK hP 0 rfl rfl 3 (by decide) k1 (fun _ h => h) rfl dX8_dealAll_61 ?_
      refine lv_aload_n hx hb dX8_dealAll_64 rfl (lv_at hl 4 rfl) ?_
      refine lv_iload hx hb dX8_dealAll_65 (lv_at hl 0 rfl) ?_
      refine z_pV (As := [zi k]) (rest := [zi vk, .ref r0]) hC (c_X8_sumOf l D y r0 rl rr rn vk (va + 1) RF RB k (by first | assumption | omega) (by first | assumption | omega)) (cwV 1 hts gX8_dealAll_X8_sumOf rfl rfl rfl (by decide +kernel) ⟨Nat.le_of_ble_eq_true rfl, Nat.le_of_ble_eq_true rfl⟩) hG (hP.sub (ws' := [(r0, .inr (7, [.ref rl, .ref rr, zi rn, zi vk, zi (va + 1)])), (rl, .inl (y 0, 12, .inl (cI RF))), (rr, .inl (y 2, 12, .inl (cI RB)))]) [0, 1, 2] rfl) 0 rfl rfl rfl hl.1 rfl (Nat.le_of_ble_eq_true rfl) dX8_dealAll_67 ⟨Nat.le_of_ble_eq_true rfl, Nat.le_of_ble_eq_true rfl⟩ ?_
      refine lv_iload_n hx hb dX8_dealAll_70 rfl (lv_at hl 2 rfl) ?_
      refine z_icmp_lt (tgt := 78) hx hb (by omega) (by omega) dX8_dealAll_71 (by decide) (fun c_71 => ?_) (fun c_71 => ?_)
      ·
        refine z_iconst hx hb dX8_dealAll_78 ?_
        refine z_iadd hx hb dX8_dealAll_79 ?_
        refine va_put hx hb hts hinX8 tyX8 tyX8_ok nmX8 hown hK hP hD hS 0 rfl rfl 3 (by decide) k1 (fun _ h => h) rfl (tyX8_ok 3 (by decide)) rfl rfl (Nat.le_of_ble_eq_true rfl) dX8_dealAll_80 (fun H locs hP hD hS => ?_)
        have hP : va_P D vwCl [(r0, .inr (7, [.ref rl, .ref rr, zi rn, zi (vk + 0), zi (va + 1)])), (rl, .inl (y 0, 12, .inl (cI RF))), (rr, .inl (y 2, 12, .inl (cI RB)))] H := hP
        have hD : va_D A [(r0, .inr (7, [.ref rl, .ref rr, zi rn, zi (vk + 0), zi (va + 1)])), (rl, .inl (y 0, 12, .inl (cI RF))), (rr, .inl (y 2, 12, .inl (cI RB)))] := hD
        refine z_iinc (k := 0) (lv' := [(4, zi (k + 1)), (3, zi (popI (rset RB rn))), (2, zi (sumF rn RF (rset RB rn))), (1, zi (rset RB rn)), (0, .ref r0)]) hx hb dX8_dealAll_83 hl rfl (by decide) rfl (fun ls hl => ?_)
        refine lv_goto (tgt := 29) hx hb dX8_dealAll_86 (by decide) ?_
        exact ih29 (k + 1, vk + 0, va + 1) _ _ _ (by first | (dsimp only; omega) | omega) ⟨⟨by omega, by rw [sgI_s _ j1.1, ← j2]; first | (rw [bI_t (by omega)]; done) | (rw [bI_f (by omega)]; done) | (rw [bI_f (by omega)]; omega), by rw [sgI_s _ j1.1, ← j3]; first | (rw [bI_t (by omega)]; done) | (rw [bI_f (by omega)]; done) | (rw [bI_f (by omega)]; omega)⟩, lv_sub hl [0, 1, 2, 3, 4] rfl, hP.sub [0, 1, 2] rfl, hD.sub [0, 1, 2] (by decide) rfl, hS⟩
      ·
        refine z_iconst hx hb dX8_dealAll_74 ?_
        refine lv_goto (tgt := 79) hx hb dX8_dealAll_75 (by decide) ?_
        refine z_iadd hx hb dX8_dealAll_79 ?_
        refine va_put hx hb hts hinX8 tyX8 tyX8_ok nmX8 hown hK hP hD hS 0 rfl rfl 3 (by decide) k1 (fun _ h => h) rfl (tyX8_ok 3 (by decide)) rfl rfl (Nat.le_of_ble_eq_true rfl) dX8_dealAll_80 (fun H locs hP hD hS => ?_)
        have hP : va_P D vwCl [(r0, .inr (7, [.ref rl, .ref rr, zi rn, zi (vk + 1), zi (va + 1)])), (rl, .inl (y 0, 12, .inl (cI RF))), (rr, .inl (y 2, 12, .inl (cI RB)))] H := hP
        have hD : va_D A [(r0, .inr (7, [.ref rl, .ref rr, zi rn, zi (vk + 1), zi (va + 1)])), (rl, .inl (y 0, 12, .inl (cI RF))), (rr, .inl (y 2, 12, .inl (cI RB)))] := hD
        refine z_iinc (k := 0) (lv' := [(4, zi (k + 1)), (3, zi (popI (rset RB rn))), (2, zi (sumF rn RF (rset RB rn))), (1, zi (rset RB rn)), (0, .ref r0)]) hx hb dX8_dealAll_83 hl rfl (by decide) rfl (fun ls hl => ?_)
        refine lv_goto (tgt := 29) hx hb dX8_dealAll_86 (by decide) ?_
        exact ih29 (k + 1, vk + 1, va + 1) _ _ _ (by first | (dsimp only; omega) | omega) ⟨⟨by omega, by rw [sgI_s _ j1.1, ← j2]; first | (rw [bI_t (by omega)]; done) | (rw [bI_f (by omega)]; done) | (rw [bI_f (by omega)]; omega), by rw [sgI_s _ j1.1, ← j3]; first | (rw [bI_t (by omega)]; done) | (rw [bI_f (by omega)]; done) | (rw [bI_f (by omega)]; omega)⟩, lv_sub hl [0, 1, 2, 3, 4] rfl, hP.sub [0, 1, 2] rfl, hD.sub [0, 1, 2] (by decide) rfl, hS⟩
