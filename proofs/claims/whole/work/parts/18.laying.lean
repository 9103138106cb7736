set_option maxHeartbeats 8000000 in
set_option maxRecDepth 100000 in
theorem c_X7_weighSets (l : Launch) (D : va_G) (y : Nat → ClassId) (n0 : Nat) (na : Nat) (nb : Nat) (nc : Nat) (nd : Nat) (WA : Int → Int) (PM : Int → Int) (PN : Int → Int) (h0 : Nat) (a1 : Nat) (a2 : Nat) (a3 : Nat) (bl : Int) (bw : Int) (bt : Int) (bh : Int) (bd : Int) (bx : Int) (bn : Int) (CI : Int → Int) (CJ : Int → Int) (CW : Int → Int) (hB : bOK bl bw bt bh bd bx bn CI CJ CW) (sz : Nat) : Met l yX7_weighSets wsX7_weighSets ({ frames := 2, cells := 0, slots := 0, locals := 41 } : Room) (wPc D y [(h0, .inr (1, [zi bl, zi bw, zi bt, zi bh, zi bd, zi bx, zi bn, .ref a1, .ref a2, .ref a3])), (a1, .inl (y 0, 8, .inl (cI CI))), (a2, .inl (y 0, 8, .inl (cI CJ))), (a3, .inl (y 0, 8, .inl (cI CW)))] [(n0, .inr (6, [.ref na, .ref nb, .ref nc, .ref nd])), (na, .inl (y 0, 256, .inl (cI WA))), (nb, .inl (y 0, 256, .inl (cI PM))), (nc, .inl (y 0, 256, .inl (cI PN)))] sz [.ref n0, .ref h0]) (wQ D (fun (x9 : (Int → Int) × (Int → Int) × (Int → Int)) => match x9 with | (WA2, PM2, PN2) => none) (fun (x9 : (Int → Int) × (Int → Int) × (Int → Int)) => match x9 with | (WA2, PM2, PN2) => (∀ t : Int, 0 ≤ t → t < 1 * 2 ^ bn.toNat → WA2 t = bl * bw * bt + bs CW bn t) ∧ (∀ t : Int, 0 ≤ t → t < 1 * 2 ^ bn.toNat → PM2 t = bs (pullC (bl - 2 * bh) CI CW) bn t) ∧ (∀ t : Int, 0 ≤ t → t < 1 * 2 ^ bn.toNat → PN2 t = bs (pullC (bw - 2 * bh) CJ CW) bn t)) (fun (x9 : (Int → Int) × (Int → Int) × (Int → Int)) => match x9 with | (WA2, PM2, PN2) => [(n0, .inr (6, [.ref na, .ref nb, .ref nc, .ref nd])), (na, .inl (y 0, 256, .inl (cI WA2))), (nb, .inl (y 0, 256, .inl (cI PM2))), (nc, .inl (y 0, 256, .inl (cI PN2)))]) (va_A [(n0, .inr (6, [.ref na, .ref nb, .ref nc, .ref nd])), (na, .inl (y 0, 256, .inl (cI WA))), (nb, .inl (y 0, 256, .inl (cI PM))), (nc, .inl (y 0, 256, .inl (cI PN)))] sz)) 0 0 (va_A [(n0, .inr (6, [.ref na, .ref nb, .ref nc, .ref nd])), (na, .inl (y 0, 256, .inl (cI WA))), (nb, .inl (y 0, 256, .inl (cI PM))), (nc, .inl (y 0, 256, .inl (cI PN)))] sz) := by
  refine W_of (own := RX7) (cc := cX7_weighSets) (maxL := 5) (ret := none) (by decide) rfl rfl (Nat.le_of_ble_eq_true rfl) (fun p e s m below meth c ls A hx hb hr hC hlocks hin0 hR0 hN hP hD hA hG hl => ?_)
  have hC0 := hC
  obtain ⟨-, -, hml, hown, hts⟩ := hC0
  have hK := hG.1
  have hS : va_S A s.heap s.heap [] := va_S.rf
  have hPr := hR0
  have hinX7 : ∀ w ∈ wsX70, w ∈ wsX7_weighSets := fun _ h => List.mem_cons_of_mem _ (List.mem_append_left _ (List.mem_append_right _ h))
  have hinX1 : ∀ w ∈ wsX10, w ∈ wsX7_weighSets := fun _ h => List.mem_cons_of_mem _ (List.mem_append_right _ h)
  have k1 := hts (.fieldLink RX7 11 "BoatsOfPaper$Laying" "weights" "[I") (List.mem_of_getElem? (i := 1) rfl)
  have k2 := hts (.fieldLink RX7 15 "BoatsOfPaper$Laying" "pullsM" "[I") (List.mem_of_getElem? (i := 2) rfl)
  have k3 := hts (.fieldLink RX7 18 "BoatsOfPaper$Laying" "pullsN" "[I") (List.mem_of_getElem? (i := 3) rfl)
  have k4 := hts (.fieldLink RX7 24 "BoatsOfPaper$Boat" "coins" "I") (List.mem_of_getElem? (i := 4) rfl)
  have hl : lv_has ls 5 [(0, .ref n0), (1, .ref h0)] := hl
  obtain ⟨q1, q2, q3, q4, q5, q6, q7, q8, q9, qc⟩ := id hB
  have b1 := bOK_cells hB
  refine lv_aload_n hx hb dX7_weighSets_0 rfl (lv_at hl 0 rfl) ?_
  refine va_get hx hb hts hinX7 hown hK hP 0 rfl rfl 0 (by decide) k1 (fun _ h => h) rfl dX7_weighSets_1 ?_
  refine z_iconst hx hb dX7_weighSets_4 ?_
  refine lv_aload_n hx hb dX7_weighSets_5 rfl (lv_at hl 1 rfl) ?_
  refine z_pV (As := []) (rest := [zi 0, .ref na]) hC (c_X1_weightEmpty l D y h0 a1 a2 a3 bl bw bt bh bd bx bn CI CJ CW (by first | assumption | omega)) (cwV 0 hts gX7_weighSets_X1_weightEmpty rfl rfl rfl (by decide +kernel) ⟨Nat.le_of_ble_eq_true rfl, Nat.le_of_ble_eq_true rfl⟩) hG (hPr.sub (ws' := [(h0, .inr (1, [zi bl, zi bw, zi bt, zi bh, zi bd, zi bx, zi bn, .ref a1, .ref a2, .ref a3])), (a1, .inl (y 0, 8, .inl (cI CI))), (a2, .inl (y 0, 8, .inl (cI CJ))), (a3, .inl (y 0, 8, .inl (cI CW)))]) [0, 1, 2, 3] rfl) 0 rfl rfl rfl hl.1 rfl (Nat.le_of_ble_eq_true rfl) dX7_weighSets_6 ⟨Nat.le_of_ble_eq_true rfl, Nat.le_of_ble_eq_true rfl⟩ ?_
  refine z_iast hx hb hK hP hD hS 1 0 rfl rfl (by omega) (by decide) dX7_weighSets_9 (fun H locs hP hD hS => ?_)
  have hP : va_P D vwCl [(n0, .inr (6, [.ref na, .ref nb, .ref nc, .ref nd])), (na, .inl (y 0, 256, .inl (cI (iu WA 0 (bl * bw * bt))))), (nb, .inl (y 0, 256, .inl (cI PM))), (nc, .inl (y 0, 256, .inl (cI PN)))] H := hP
  have hD : va_D A [(n0, .inr (6, [.ref na, .ref nb, .ref nc, .ref nd])), (na, .inl (y 0, 256, .inl (cI (iu WA 0 (bl * bw * bt))))), (nb, .inl (y 0, 256, .inl (cI PM))), (nc, .inl (y 0, 256, .inl (cI PN)))] := hD
  have hPr := ro_now hR0 hN hS
  refine lv_aload_n hx hb dX7_weighSets_10 rfl (lv_at hl 0 rfl) ?_
  refine va_get hx hb hts hinX7 hown hK hP 0 rfl rfl 1 (by decide) k2 (fun _ h => h) rfl dX7_weighSets_11 ?_
  refine z_iconst hx hb dX7_weighSets_14 ?_
  refine z_iconst hx hb dX7_weighSets_15 ?_
  refine z_iast hx hb hK hP hD hS 2 0 rfl rfl (by omega) (by decide) dX7_weighSets_16 (fun H locs hP hD hS => ?_)
  have hP : va_P D vwCl [(n0, .inr (6, [.ref na, .ref nb, .ref nc, .ref nd])), (na, .inl (y 0, 256, .inl (cI (iu WA 0 (bl * bw * bt))))), (nb, .inl (y 0, 256, .inl (cI (iu PM 0 0)))), (nc, .inl (y 0, 256, .inl (cI PN)))] H := hP
  have hD : va_D A [(n0, .inr (6, [.ref na, .ref nb, .ref nc, .ref nd])), (na, .inl (y 0, 256, .inl (cI (iu WA 0 (bl * bw * bt))))), (nb, .inl (y 0, 256, .inl (cI (iu PM 0 0)))), (nc, .inl (y 0, 256, .inl (cI PN)))] := hD
  have hPr := ro_now hR0 hN hS
  refine lv_aload_n hx hb dX7_weighSets_17 rfl (lv_at hl 0 rfl) ?_
  refine va_get hx hb hts hinX7 hown hK hP 0 rfl rfl 2 (by decide) k3 (fun _ h => h) rfl dX7_weighSets_18 ?_
  refine z_iconst hx hb dX7_weighSets_21 ?_
  refine z_iconst hx hb dX7_weighSets_22 ?_
  refine z_iast hx hb hK hP hD hS 3 0 rfl rfl (by omega) (by decide) dX7_weighSets_23 (fun H locs hP hD hS => ?_)
  have hP : va_P D vwCl [(n0, .inr (6, [.ref na, .ref nb, .ref nc, .ref nd])), (na, .inl (y 0, 256, .inl (cI (iu WA 0 (bl * bw * bt))))), (nb, .inl (y 0, 256, .inl (cI (iu PM 0 0)))), (nc, .inl (y 0, 256, .inl (cI (iu PN 0 0))))] H := hP
  have hD : va_D A [(n0, .inr (6, [.ref na, .ref nb, .ref nc, .ref nd])), (na, .inl (y 0, 256, .inl (cI (iu WA 0 (bl * bw * bt))))), (nb, .inl (y 0, 256, .inl (cI (iu PM 0 0)))), (nc, .inl (y 0, 256, .inl (cI (iu PN 0 0))))] := hD
  have hPr := ro_now hR0 hN hS
  refine z_iconst hx hb dX7_weighSets_24 ?_
  refine lv_istore_n (lv' := [(2, zi 0), (0, .ref n0), (1, .ref h0)]) hx hb dX7_weighSets_25 rfl hl (by decide) rfl (fun ls hl => ?_)
  refine z_loop (σ := Int × (Int → Int) × (Int → Int) × (Int → Int)) (fun x9 H lc ls => match x9 with | (k, A1, A2, A3) => ((0 ≤ k ∧ k ≤ bn) ∧ (∀ t : Int, 0 ≤ t → t < 1 * 2 ^ k.toNat → A1 t = bl * bw * bt + bs CW bn t) ∧ (∀ t : Int, 0 ≤ t → t < 1 * 2 ^ k.toNat → A2 t = bs (pullC (bl - 2 * bh) CI CW) bn t) ∧ (∀ t : Int, 0 ≤ t → t < 1 * 2 ^ k.toNat → A3 t = bs (pullC (bw - 2 * bh) CJ CW) bn t)) ∧ lv_has ls 5 [(2, zi k), (0, .ref n0), (1, .ref h0)] ∧ va_P D vwCl [(n0, .inr (6, [.ref na, .ref nb, .ref nc, .ref nd])), (na, .inl (y 0, 256, .inl (cI A1))), (nb, .inl (y 0, 256, .inl (cI A2))), (nc, .inl (y 0, 256, .inl (cI A3)))] H ∧ va_D A [(n0, .inr (6, [.ref na, .ref nb, .ref nc, .ref nd])), (na, .inl (y 0, 256, .inl (cI A1))), (nb, .inl (y 0, 256, .inl (cI A2))), (nc, .inl (y 0, 256, .inl (cI A3)))] ∧ va_S A s.heap H lc) (fun x9  => match x9 with | (k, A1, A2, A3) => ((bn - k).toNat)) ?_ (0, iu WA 0 (bl * bw * bt), iu PM 0 0, iu PN 0 0) ⟨⟨by omega, iu_one (G := fun t => bl * bw * bt + bs CW bn t) (by show _ = bl * bw * bt + bs CW bn 0; rw [bs_0 _ (by omega)]; omega), iu_one (G := fun t => bs (pullC (bl - 2 * bh) CI CW) bn t) (by show _ = bs (pullC (bl - 2 * bh) CI CW) bn 0; rw [bs_0 _ (by omega)]), iu_one (G := fun t => bs (pullC (bw - 2 * bh) CJ CW) bn t) (by show _ = bs (pullC (bw - 2 * bh) CJ CW) bn 0; rw [bs_0 _ (by omega)])⟩, lv_sub hl [0, 1, 2] rfl, hP.sub [0, 1, 2, 3] rfl, hD.sub [0, 1, 2, 3] (by decide) rfl, hS⟩
  rintro ⟨k, A1, A2, A3⟩ H lc ls ⟨hi26, hl, hP, hD, hS⟩ ih26
  have hP : va_P D vwCl [(n0, .inr (6, [.ref na, .ref nb, .ref nc, .ref nd])), (na, .inl (y 0, 256, .inl (cI A1))), (nb, .inl (y 0, 256, .inl (cI A2))), (nc, .inl (y 0, 256, .inl (cI A3)))] H := hP
  have hD : va_D A [(n0, .inr (6, [.ref na, .ref nb, .ref nc, .ref nd])), (na, .inl (y 0, 256, .inl (cI A1))), (nb, .inl (y 0, 256, .inl (cI A2))), (nc, .inl (y 0, 256, .inl (cI A3)))] := hD
  have hPr := ro_now hR0 hN hS
  obtain ⟨j1, j2, j3, j4⟩ := hi26
  refine lv_iload_n hx hb dX7_weighSets_26 rfl (lv_at hl 0 rfl) ?_
  refine lv_aload_n hx hb dX7_weighSets_27 rfl (lv_at hl 2 rfl) ?_
  refine va_get hx hb hts hinX1 hown hK hPr 0 rfl rfl 6 (by decide) k4 (fun _ h => h) rfl dX7_weighSets_28 ?_
  refine z_icmp_ge (tgt := 131) hx hb (by omega) (by omega) dX7_weighSets_31 (by decide) (fun c_31 => ?_) (fun c_31 => ?_)
  ·
    exact z_vretW hx hb hr hlocks (A1, A2, A3) rfl (by have e9 : k = bn := (by omega); rw [e9] at j2 j3 j4; exact ⟨j2, j3, j4⟩) (hP.sub [0, 1, 2, 3] rfl) (hD.sub [0, 1, 2, 3] (by decide) rfl) hS dX7_weighSets_131
  ·
    refine lv_iload_n hx hb dX7_weighSets_34 rfl (lv_at hl 0 rfl) ?_
    refine z_bipush hx hb dX7_weighSets_35 (by decide) ?_
    refine z_icmp_ge (tgt := 131) hx hb (by omega) (by omega) dX7_weighSets_37 (by decide) (fun c_37 => ?_) (fun c_37 => ?_)
    ·
      exact z_vretW hx hb hr hlocks (A1, A2, A3) rfl (by have e9 : k = bn := (by omega); rw [e9] at j2 j3 j4; exact ⟨j2, j3, j4⟩) (hP.sub [0, 1, 2, 3] rfl) (hD.sub [0, 1, 2, 3] (by decide) rfl) hS dX7_weighSets_131
    ·
      have b2 := pow7 (k := k) (by omega)
      refine z_iconst hx hb dX7_weighSets_40 ?_
      refine lv_iload_n hx hb dX7_weighSets_41 rfl (lv_at hl 0 rfl) ?_
      refine z_ishl hx hb (by omega) dX7_weighSets_42 ?_
      refine lv_istore_n (lv' := [(3, zi (1 * 2 ^ k.toNat)), (2, zi k), (0, .ref n0), (1, .ref h0)]) hx hb dX7_weighSets_43 rfl hl (by decide) rfl (fun ls hl => ?_)
      refine z_iconst hx hb dX7_weighSets_44 ?_
      refine lv_istore (lv' := [(4, zi 0), (3, zi (1 * 2 ^ k.toNat)), (2, zi k), (0, .ref n0), (1, .ref h0)]) hx hb dX7_weighSets_45 hl (by decide) rfl (fun ls hl => ?_)
      refine z_loop (σ := Int × (Int → Int) × (Int → Int) × (Int → Int)) (fun x9 H lc ls => match x9 with | (j, A1, A2, A3) => ((0 ≤ j ∧ j ≤ 1 * 2 ^ k.toNat) ∧ (∀ t : Int, 0 ≤ t → t < 1 * 2 ^ k.toNat + j → A1 t = bl * bw * bt + bs CW bn t) ∧ (∀ t : Int, 0 ≤ t → t < 1 * 2 ^ k.toNat + j → A2 t = bs (pullC (bl - 2 * bh) CI CW) bn t) ∧ (∀ t : Int, 0 ≤ t → t < 1 * 2 ^ k.toNat + j → A3 t = bs (pullC (bw - 2 * bh) CJ CW) bn t)) ∧ lv_has ls 5 [(4, zi j), (3, zi (1 * 2 ^ k.toNat)), (2, zi k), (0, .ref n0), (1, .ref h0)] ∧ va_P D vwCl [(n0, .inr (6, [.ref na, .ref nb, .ref nc, .ref nd])), (na, .inl (y 0, 256, .inl (cI A1))), (nb, .inl (y 0, 256, .inl (cI A2))), (nc, .inl (y 0, 256, .inl (cI A3)))] H ∧ va_D A [(n0, .inr (6, [.ref na, .ref nb, .ref nc, .ref nd])), (na, .inl (y 0, 256, .inl (cI A1))), (nb, .inl (y 0, 256, .inl (cI A2))), (nc, .inl (y 0, 256, .inl (cI A3)))] ∧ va_S A s.heap H lc) (fun x9  => match x9 with | (j, A1, A2, A3) => ((1 * 2 ^ k.toNat - j).toNat)) ?_ (0, A1, A2, A3) ⟨⟨by omega, fun t t0 t1 => j2 t t0 (by omega), fun t t0 t1 => j3 t t0 (by omega), fun t t0 t1 => j4 t t0 (by omega)⟩, lv_sub hl [0, 1, 2, 3, 4] rfl, hP.sub [0, 1, 2, 3] rfl, hD.sub [0, 1, 2, 3] (by decide) rfl, hS⟩
      rintro ⟨j, A1, A2, A3⟩ H lc ls ⟨hi47, hl, hP, hD, hS⟩ ih47
      have hP : va_P D vwCl [(n0, .inr (6, [.ref na, .ref nb, .ref nc, .ref nd])), (na, .inl (y 0, 256, .inl (cI A1))), (nb, .inl (y 0, 256, .inl (cI A2))), (nc, .inl (y 0, 256, .inl (cI A3)))] H := hP
      have hD : va_D A [(n0, .inr (6, [.ref na, .ref nb, .ref nc, .ref nd])), (na, .inl (y 0, 256, .inl (cI A1))), (nb, .inl (y 0, 256, .inl (cI A2))), (nc, .inl (y 0, 256, .inl (cI A3)))] := hD
      have hPr := ro_now hR0 hN hS
      obtain ⟨i1, i2, i3, i4⟩ := hi47
      refine lv_iload hx hb dX7_weighSets_47 (lv_at hl 0 rfl) ?_
      refine lv_iload_n hx hb dX7_weighSets_49 rfl (lv_at hl 1 rfl) ?_
      refine z_icmp_ge (tgt := 125) hx hb (by omega) (by omega) dX7_weighSets_50 (by decide) (fun c_50 => ?_) (fun c_50 => ?_)
      ·
        refine z_iinc (k := 2) (lv' := [(2, zi (k + 1)), (4, zi j), (3, zi (1 * 2 ^ k.toNat)), (0, .ref n0), (1, .ref h0)]) hx hb dX7_weighSets_125 hl rfl (by decide) rfl (fun ls hl => ?_)
        refine lv_goto (tgt := 26) hx hb dX7_weighSets_128 (by decide) ?_
        exact ih26 (k + 1, A1, A2, A3) _ _ _ (by first | (dsimp only; omega) | omega) ⟨⟨by omega, fun t t0 t1 => i2 t t0 (by rw [pow_dbl j1.1] at t1; omega), fun t t0 t1 => i3 t t0 (by rw [pow_dbl j1.1] at t1; omega), fun t t0 t1 => i4 t t0 (by rw [pow_dbl j1.1] at t1; omega)⟩, lv_sub hl [0, 3, 4] rfl, hP.sub [0, 1, 2, 3] rfl, hD.sub [0, 1, 2, 3] (by decide) rfl, hS⟩
      ·
        have m0 : j < 1 * 2 ^ k.toNat := (by omega)
        have m1 := bit_lt (k := k.toNat) i1.1 m0
        have m2 : k < bn := (by omega)
        have m3 := bor_sum (k := k.toNat) i1.1 m0
        refine lv_aload_n hx hb dX7_weighSets_53 rfl (lv_at hl 3 rfl) ?_
        refine va_get hx hb hts hinX7 hown hK hP 0 rfl rfl 0 (by decide) k1 (fun _ h => h) rfl dX7_weighSets_54 ?_
        refine lv_iload_n hx hb dX7_weighSets_57 rfl (lv_at hl 1 rfl) ?_
        refine lv_iload hx hb dX7_weighSets_58 (lv_at hl 0 rfl) ?_
        refine z_ior hx hb (by omega) dX7_weighSets_60 ?_
        refine lv_aload_n hx hb dX7_weighSets_61 rfl (lv_at hl 3 rfl) ?_
        refine va_get hx hb hts hinX7 hown hK hP 0 rfl rfl 0 (by decide) k1 (fun _ h => h) rfl dX7_weighSets_62 ?_
        refine lv_iload hx hb dX7_weighSets_65 (lv_at hl 0 rfl) ?_
        refine z_iald hx hb hK hP 1 0 rfl rfl (by omega) (by decide) dX7_weighSets_67 ?_
        refine lv_aload_n hx hb dX7_weighSets_68 rfl (lv_at hl 4 rfl) ?_
        refine lv_iload_n hx hb dX7_weighSets_69 rfl (lv_at hl 2 rfl) ?_
        refine z_pV (As := [zi k]) (rest := [zi (A1 j), zi (bor (1 * 2 ^ k.toNat) j), .ref na]) hC (c_X1_weightOf l D y h0 a1 a2 a3 bl bw bt bh bd bx bn CI CJ CW k (by first | assumption | omega) (by first | assumption | omega)) (cwV 1 hts gX7_weighSets_X1_weightOf rfl rfl rfl (by decide +kernel) ⟨Nat.le_of_ble_eq_true rfl, Nat.le_of_ble_eq_true rfl⟩) hG (hPr.sub (ws' := [(h0, .inr (1, [zi bl, zi bw, zi bt, zi bh, zi bd, zi bx, zi bn, .ref a1, .ref a2, .ref a3])), (a1, .inl (y 0, 8, .inl (cI CI))), (a2, .inl (y 0, 8, .inl (cI CJ))), (a3, .inl (y 0, 8, .inl (cI CW)))]) [0, 1, 2, 3] rfl) 0 rfl rfl rfl hl.1 rfl (Nat.le_of_ble_eq_true rfl) dX7_weighSets_70 ⟨Nat.le_of_ble_eq_true rfl, Nat.le_of_ble_eq_true rfl⟩ ?_
        refine z_iadd hx hb dX7_weighSets_73 ?_
        refine z_iast hx hb hK hP hD hS 1 0 rfl rfl (by omega) (by decide) dX7_weighSets_74 (fun H locs hP hD hS => ?_)
        have hP : va_P D vwCl [(n0, .inr (6, [.ref na, .ref nb, .ref nc, .ref nd])), (na, .inl (y 0, 256, .inl (cI (iu A1 (bor (1 * 2 ^ k.toNat) j) ((A1 j) + (wOf bn CW k)))))), (nb, .inl (y 0, 256, .inl (cI A2))), (nc, .inl (y 0, 256, .inl (cI A3)))] H := hP
        have hD : va_D A [(n0, .inr (6, [.ref na, .ref nb, .ref nc, .ref nd])), (na, .inl (y 0, 256, .inl (cI (iu A1 (bor (1 * 2 ^ k.toNat) j) ((A1 j) + (wOf bn CW k)))))), (nb, .inl (y 0, 256, .inl (cI A2))), (nc, .inl (y 0, 256, .inl (cI A3)))] := hD
        have hPr := ro_now hR0 hN hS
        refine lv_aload_n hx hb dX7_weighSets_75 rfl (lv_at hl 3 rfl) ?_
        refine va_get hx hb hts hinX7 hown hK hP 0 rfl rfl 1 (by decide) k2 (fun _ h => h) rfl dX7_weighSets_76 ?_
        refine lv_iload_n hx hb dX7_weighSets_79 rfl (lv_at hl 1 rfl) ?_
        refine lv_iload hx hb dX7_weighSets_80 (lv_at hl 0 rfl) ?_
        refine z_ior hx hb (by omega) dX7_weighSets_82 ?_
        refine lv_aload_n hx hb dX7_weighSets_83 rfl (lv_at hl 3 rfl) ?_
        refine va_get hx hb hts hinX7 hown hK hP 0 rfl rfl 1 (by decide) k2 (fun _ h => h) rfl dX7_weighSets_84 ?_
        refine lv_iload hx hb dX7_weighSets_87 (lv_at hl 0 rfl) ?_
        refine z_iald hx hb hK hP 2 0 rfl rfl (by omega) (by decide) dX7_weighSets_89 ?_
        refine lv_aload_n hx hb dX7_weighSets_90 rfl (lv_at hl 4 rfl) ?_
        refine lv_iload_n hx hb dX7_weighSets_91 rfl (lv_at hl 2 rfl) ?_
        refine z_pV (As := [zi k]) (rest := [zi (A2 j), zi (bor (1 * 2 ^ k.toNat) j), .ref nb]) hC (c_X1_pullM l D y h0 a1 a2 a3 bl bw bt bh bd bx bn CI CJ CW k (by first | assumption | omega) (by first | assumption | omega)) (cwV 1 hts gX7_weighSets_X1_pullM rfl rfl rfl (by decide +kernel) ⟨Nat.le_of_ble_eq_true rfl, Nat.le_of_ble_eq_true rfl⟩) hG (hPr.sub (ws' := [(h0, .inr (1, [zi bl, zi bw, zi bt, zi bh, zi bd, zi bx, zi bn, .ref a1, .ref a2, .ref a3])), (a1, .inl (y 0, 8, .inl (cI CI))), (a2, .inl (y 0, 8, .inl (cI CJ))), (a3, .inl (y 0, 8, .inl (cI CW)))]) [0, 1, 2, 3] rfl) 0 rfl rfl rfl hl.1 rfl (Nat.le_of_ble_eq_true rfl) dX7_weighSets_92 ⟨Nat.le_of_ble_eq_true rfl, Nat.le_of_ble_eq_true rfl⟩ ?_
        refine z_iadd hx hb dX7_weighSets_95 ?_
        refine z_iast hx hb hK hP hD hS 2 0 rfl rfl (by omega) (by decide) dX7_weighSets_96 (fun H locs hP hD hS => ?_)
        have hP : va_P D vwCl [(n0, .inr (6, [.ref na, .ref nb, .ref nc, .ref nd])), (na, .inl (y 0, 256, .inl (cI (iu A1 (bor (1 * 2 ^ k.toNat) j) ((A1 j) + (wOf bn CW k)))))), (nb, .inl (y 0, 256, .inl (cI (iu A2 (bor (1 * 2 ^ k.toNat) j) ((A2 j) + (pullV bn (bl - 2 * bh) CI CW k)))))), (nc, .inl (y 0, 256, .inl (cI A3)))] H := hP
        have hD : va_D A [(n0, .inr (6, [.ref na, .ref nb, .ref nc, .ref nd])), (na, .inl (y 0, 256, .inl (cI (iu A1 (bor (1 * 2 ^ k.toNat) j) ((A1 j) + (wOf bn CW k)))))), (nb, .inl (y 0, 256, .inl (cI (iu A2 (bor (1 * 2 ^ k.toNat) j) ((A2 j) + (pullV bn (bl - 2 * bh) CI CW k)))))), (nc, .inl (y 0, 256, .inl (cI A3)))] := hD
        have hPr := ro_now hR0 hN hS
        refine lv_aload_n hx hb dX7_weighSets_97 rfl (lv_at hl 3 rfl) ?_
        refine va_get hx hb hts hinX7 hown hK hP 0 rfl rfl 2 (by decide) k3 (fun _ h => h) rfl dX7_weighSets_98 ?_
        refine lv_iload_n hx hb dX7_weighSets_101 rfl (lv_at hl 1 rfl) ?_
        refine lv_iload hx hb dX7_weighSets_102 (lv_at hl 0 rfl) ?_
        refine z_ior hx hb (by omega) dX7_weighSets_104 ?_
        refine lv_aload_n hx hb dX7_weighSets_105 rfl (lv_at hl 3 rfl) ?_
        refine va_get hx hb hts hinX7 hown hK hP 0 rfl rfl 2 (by decide) k3 (fun _ h => h) rfl dX7_weighSets_106 ?_
        refine lv_iload hx hb dX7_weighSets_109 (lv_at hl 0 rfl) ?_
        refine z_iald hx hb hK hP 3 0 rfl rfl (by omega) (by decide) dX7_weighSets_111 ?_
        refine lv_aload_n hx hb dX7_weighSets_112 rfl (lv_at hl 4 rfl) ?_
        refine lv_iload_n hx hb dX7_weighSets_113 rfl (lv_at hl 2 rfl) ?_
        refine z_pV (As := [zi k]) (rest := [zi (A3 j), zi (bor (1 * 2 ^ k.toNat) j), .ref nc]) hC (c_X1_pullN l D y h0 a1 a2 a3 bl bw bt bh bd bx bn CI CJ CW k (by first | assumption | omega) (by first | assumption | omega)) (cwV 1 hts gX7_weighSets_X1_pullN rfl rfl rfl (by decide +kernel) ⟨Nat.le_of_ble_eq_true rfl, Nat.le_of_ble_eq_true rfl⟩) hG (hPr.sub (ws' := [(h0, .inr (1, [zi bl, zi bw, zi bt, zi bh, zi bd, zi bx, zi bn, .ref a1, .ref a2, .ref a3])), (a1, .inl (y 0, 8, .inl (cI CI))), (a2, .inl (y 0, 8, .inl (cI CJ))), (a3, .inl (y 0, 8, .inl (cI CW)))]) [0, 1, 2, 3] rfl) 0 rfl rfl rfl hl.1 rfl (Nat.le_of_ble_eq_true rfl) dX7_weighSets_114 ⟨Nat.le_of_ble_eq_true rfl, Nat.le_of_ble_eq_true rfl⟩ ?_
        refine z_iadd hx hb dX7_weighSets_117 ?_
        refine z_iast hx hb hK hP hD hS 3 0 rfl rfl (by omega) (by decide) dX7_weighSets_118 (fun H locs hP hD hS => ?_)
        have hP : va_P D vwCl [(n0, .inr (6, [.ref na, .ref nb, .ref nc, .ref nd])), (na, .inl (y 0, 256, .inl (cI (iu A1 (bor (1 * 2 ^ k.toNat) j) ((A1 j) + (wOf bn CW k)))))), (nb, .inl (y 0, 256, .inl (cI (iu A2 (bor (1 * 2 ^ k.toNat) j) ((A2 j) + (pullV bn (bl - 2 * bh) CI CW k)))))), (nc, .inl (y 0, 256, .inl (cI (iu A3 (bor (1 * 2 ^ k.toNat) j) ((A3 j) + (pullV bn (bw - 2 * bh) CJ CW k))))))] H := hP
        have hD : va_D A [(n0, .inr (6, [.ref na, .ref nb, .ref nc, .ref nd])), (na, .inl (y 0, 256, .inl (cI (iu A1 (bor (1 * 2 ^ k.toNat) j) ((A1 j) + (wOf bn CW k)))))), (nb, .inl (y 0, 256, .inl (cI (iu A2 (bor (1 * 2 ^ k.toNat) j) ((A2 j) + (pullV bn (bl - 2 * bh) CI CW k)))))), (nc, .inl (y 0, 256, .inl (cI (iu A3 (bor (1 * 2 ^ k.toNat) j) ((A3 j) + (pullV bn (bw - 2 * bh) CJ CW k))))))] := hD
        have hPr := ro_now hR0 hN hS
        refine z_iinc (k := 0) (lv' := [(4, zi (j + 1)), (3, zi (1 * 2 ^ k.toNat)), (2, zi k), (0, .ref n0), (1, .ref h0)]) hx hb dX7_weighSets_119 hl rfl (by decide) rfl (fun ls hl => ?_)
        refine lv_goto (tgt := 47) hx hb dX7_weighSets_122 (by decide) ?_
        exact ih47 (j + 1, iu A1 (bor (1 * 2 ^ k.toNat) j) ((A1 j) + (wOf bn CW k)), iu A2 (bor (1 * 2 ^ k.toNat) j) ((A2 j) + (pullV bn (bl - 2 * bh) CI CW k)), iu A3 (bor (1 * 2 ^ k.toNat) j) ((A3 j) + (pullV bn (bw - 2 * bh) CJ CW k))) _ _ _ (by first | (dsimp only; omega) | omega) ⟨⟨by omega, iu_set (G := fun t => bl * bw * bt + bs CW bn t) i1.1 m0 i2 (by show _ = bl * bw * bt + bs CW bn (bor j (1 * 2 ^ k.toNat)); rw [bs_or i1.1 j1.1 m2 m1, i2 j i1.1 (by omega), show wOf bn CW k = CW k from if_pos ⟨j1.1, m2⟩]; omega), iu_set (G := fun t => bs (pullC (bl - 2 * bh) CI CW) bn t) i1.1 m0 i3 (by show _ = bs (pullC (bl - 2 * bh) CI CW) bn (bor j (1 * 2 ^ k.toNat)); rw [bs_or i1.1 j1.1 m2 m1, i3 j i1.1 (by omega), show pullV bn (bl - 2 * bh) CI CW k = pullC (bl - 2 * bh) CI CW k from if_pos ⟨j1.1, m2⟩]), iu_set (G := fun t => bs (pullC (bw - 2 * bh) CJ CW) bn t) i1.1 m0 i4 (by show _ = bs (pullC (bw - 2 * bh) CJ CW) bn (bor j (1 * 2 ^ k.toNat)); rw [bs_or i1.1 j1.1 m2 m1, i4 j i1.1 (by omega), show pullV bn (bw - 2 * bh) CJ CW k = pullC (bw - 2 * bh) CJ CW k from if_pos ⟨j1.1, m2⟩])⟩, lv_sub hl [0, 1, 2, 3, 4] rfl, hP.sub [0, 1, 2, 3] rfl, hD.sub [0, 1, 2, 3] (by decide) rfl, hS⟩
set_option maxHeartbeats 8000000 in
set_option maxRecDepth 100000 in
theorem c_X7_waysOn (l : Launch) (D : va_G) (y : Nat → ClassId) (n0 : Nat) (na : Nat) (nb : Nat) (nc : Nat) (nd : Nat) (WA : Int → Int) (PM : Int → Int) (PN : Int → Int) (WY : Int → Int) (h0 : Nat) (a1 : Nat) (a2 : Nat) (a3 : Nat) (bl : Int) (bw : Int) (bt : Int) (bh : Int) (bd : Int) (bx : Int) (bn : Int) (CI : Int → Int) (CJ : Int → Int) (CW : Int → Int) (tq : Int) (aq : Int) (hB : bOK bl bw bt bh bd bx bn CI CJ CW) (hA : aq = 1 * 2 ^ bn.toNat - 1) (hT : 0 ≤ tq ∧ tq ≤ aq) (hW : WA tq = bl * bw * bt + bs CW bn tq) (hM : PM tq = bs (pullC (bl - 2 * bh) CI CW) bn tq) (hN9 : PN tq = bs (pullC (bw - 2 * bh) CJ CW) bn tq) (hY : ∀ t : Int, tq < t → t ≤ aq → WY t = wV (okB bl bw bt bh bn CI CJ CW) bn t) : Met l yX7_waysOn wsX7_waysOn ({ frames := 4, cells := 0, slots := 0, locals := 82 } : Room) (pPc D y [(n0, .inr (6, [.ref na, .ref nb, .ref nc, .ref nd])), (na, .inl (y 0, 256, .inl (cI WA))), (nb, .inl (y 0, 256, .inl (cI PM))), (nc, .inl (y 0, 256, .inl (cI PN))), (nd, .inl (y 0, 256, .inl (cI WY))), (h0, .inr (1, [zi bl, zi bw, zi bt, zi bh, zi bd, zi bx, zi bn, .ref a1, .ref a2, .ref a3])), (a1, .inl (y 0, 8, .inl (cI CI))), (a2, .inl (y 0, 8, .inl (cI CJ))), (a3, .inl (y 0, 8, .inl (cI CW)))] [.ref n0, .ref h0, zi tq, zi aq]) (qV (zi (wV (okB bl bw bt bh bn CI CJ CW) bn tq))) 0 0 (fun _ => False) := by
  refine P_of (own := RX7) (cc := cX7_waysOn) (maxL := 7) (ret := some .int) (by decide) rfl rfl (Nat.le_of_ble_eq_true rfl) (fun p e s m below meth c ls hx hb hr hC hlocks hPr hG hl => ?_)
  have hC0 := hC
  obtain ⟨-, -, hml, hown, hts⟩ := hC0
  have hK := hG.1
  have hinX7 : ∀ w ∈ wsX70, w ∈ wsX7_waysOn := fun _ h => List.mem_cons_of_mem _ (List.mem_append_left _ (List.mem_append_right _ h))
  have hinX1 : ∀ w ∈ wsX10, w ∈ wsX7_waysOn := fun _ h => List.mem_cons_of_mem _ (List.mem_append_right _ h)
  have k1 := hts (.fieldLink RX7 11 "BoatsOfPaper$Laying" "weights" "[I") (List.mem_of_getElem? (i := 1) rfl)
  have k2 := hts (.fieldLink RX7 15 "BoatsOfPaper$Laying" "pullsM" "[I") (List.mem_of_getElem? (i := 2) rfl)
  have k3 := hts (.fieldLink RX7 18 "BoatsOfPaper$Laying" "pullsN" "[I") (List.mem_of_getElem? (i := 3) rfl)
  have k4 := hts (.fieldLink RX7 24 "BoatsOfPaper$Boat" "coins" "I") (List.mem_of_getElem? (i := 4) rfl)
  have k5 := hts (.fieldLink RX7 21 "BoatsOfPaper$Laying" "ways" "[I") (List.mem_of_getElem? (i := 5) rfl)
  have hl : lv_has ls 7 [(0, .ref n0), (1, .ref h0), (2, zi tq), (3, zi aq)] := hl
  obtain ⟨q1, q2, q3, q4, q5, q6, q7, q8, q9, qc⟩ := id hB
  have b1 := bOK_cells hB
  have b2 := pow8 (k := bn) (by omega)
  have b3 := bOK_set hB tq
  have b4 := bOK_lwt hB
  have b5 := cor_bd (a := bl - 2 * bh) (b := bw - 2 * bh) (wt := WA tq) (m := PM tq) (n := PN tq) (by omega) (by omega) (by omega) (by omega) (by omega)
  have b6 := room_bd (a := bl - 2 * bh) (b := bw - 2 * bh) (bh := bh) (by omega) (by omega) (by omega) b5
  refine lv_aload_n hx hb dX7_waysOn_0 rfl (lv_at hl 1 rfl) ?_
  refine lv_aload_n hx hb dX7_waysOn_1 rfl (lv_at hl 1 rfl) ?_
  refine lv_aload_n hx hb dX7_waysOn_2 rfl (lv_at hl 0 rfl) ?_
  refine va_get hx hb hts hinX7 hown hK hPr 0 rfl rfl 0 (by decide) k1 (fun _ h => h) rfl dX7_waysOn_3 ?_
  refine lv_iload_n hx hb dX7_waysOn_6 rfl (lv_at hl 2 rfl) ?_
  refine z_iald hx hb hK hPr 1 0 rfl rfl (by omega) (by decide) dX7_waysOn_7 ?_
  refine lv_aload_n hx hb dX7_waysOn_8 rfl (lv_at hl 0 rfl) ?_
  refine va_get hx hb hts hinX7 hown hK hPr 0 rfl rfl 1 (by decide) k2 (fun _ h => h) rfl dX7_waysOn_9 ?_
  refine lv_iload_n hx hb dX7_waysOn_12 rfl (lv_at hl 2 rfl) ?_
  refine z_iald hx hb hK hPr 2 0 rfl rfl (by omega) (by decide) dX7_waysOn_13 ?_
  refine lv_aload_n hx hb dX7_waysOn_14 rfl (lv_at hl 0 rfl) ?_
  refine va_get hx hb hts hinX7 hown hK hPr 0 rfl rfl 2 (by decide) k3 (fun _ h => h) rfl dX7_waysOn_15 ?_
  refine lv_iload_n hx hb dX7_waysOn_18 rfl (lv_at hl 2 rfl) ?_
  refine z_iald hx hb hK hPr 3 0 rfl rfl (by omega) (by decide) dX7_waysOn_19 ?_
  refine z_pV (As := [zi (WA tq), zi (PM tq), zi (PN tq)]) (rest := [.ref h0]) hC (c_X1_cornerOf l D y h0 a1 a2 a3 bl bw bt bh bd bx bn CI CJ CW (WA tq) (PM tq) (PN tq) (by first | assumption | omega) (by first | assumption | omega)) (cwV 3 hts gX7_waysOn_X1_cornerOf rfl rfl rfl (by decide +kernel) ⟨Nat.le_of_ble_eq_true rfl, Nat.le_of_ble_eq_true rfl⟩) hG (hPr.sub (ws' := [(h0, .inr (1, [zi bl, zi bw, zi bt, zi bh, zi bd, zi bx, zi bn, .ref a1, .ref a2, .ref a3])), (a1, .inl (y 0, 8, .inl (cI CI))), (a2, .inl (y 0, 8, .inl (cI CJ))), (a3, .inl (y 0, 8, .inl (cI CW)))]) [5, 6, 7, 8] rfl) 0 rfl rfl rfl hl.1 rfl (Nat.le_of_ble_eq_true rfl) dX7_waysOn_20 ⟨Nat.le_of_ble_eq_true rfl, Nat.le_of_ble_eq_true rfl⟩ ?_
  refine z_pV (As := [zl (corV (bl - 2 * bh) (bw - 2 * bh) (WA tq) (PM tq) (PN tq))]) (rest := []) hC (c_X1_room l D y h0 a1 a2 a3 bl bw bt bh bd bx bn CI CJ CW (corV (bl - 2 * bh) (bw - 2 * bh) (WA tq) (PM tq) (PN tq)) (by first | assumption | omega)) (cwV 1 hts gX7_waysOn_X1_room rfl rfl rfl (by decide +kernel) ⟨Nat.le_of_ble_eq_true rfl, Nat.le_of_ble_eq_true rfl⟩) hG (hPr.sub (ws' := [(h0, .inr (1, [zi bl, zi bw, zi bt, zi bh, zi bd, zi bx, zi bn, .ref a1, .ref a2, .ref a3])), (a1, .inl (y 0, 8, .inl (cI CI))), (a2, .inl (y 0, 8, .inl (cI CJ))), (a3, .inl (y 0, 8, .inl (cI CW)))]) [5, 6, 7, 8] rfl) 0 rfl rfl rfl hl.1 rfl (Nat.le_of_ble_eq_true rfl) dX7_waysOn_23 ⟨Nat.le_of_ble_eq_true rfl, Nat.le_of_ble_eq_true rfl⟩ ?_
  refine lv_lconst (v := iL 0) hx hb dX7_waysOn_26 rfl ?_
  refine z_lcmp_ge (tgt := 33) hx hb (by omega) (by omega) dX7_waysOn_27 dX7_waysOn_28 (by decide) (fun c_27 => ?_) (fun c_27 => ?_)
  ·
    refine lv_iload_n hx hb dX7_waysOn_33 rfl (lv_at hl 2 rfl) ?_
    refine lv_iload_n hx hb dX7_waysOn_34 rfl (lv_at hl 3 rfl) ?_
    refine z_icmp_ne (tgt := 40) hx hb (by omega) (by omega) dX7_waysOn_35 (by decide) (fun c_35 => ?_) (fun c_35 => ?_)
    ·
      refine z_iconst hx hb dX7_waysOn_40 ?_
      refine lv_istore (lv' := [(4, zi 0), (0, .ref n0), (1, .ref h0), (2, zi tq), (3, zi aq)]) hx hb dX7_waysOn_41 hl (by decide) rfl (fun ls hl => ?_)
      refine z_iconst hx hb dX7_waysOn_43 ?_
      refine lv_istore (lv' := [(5, zi 0), (4, zi 0), (0, .ref n0), (1, .ref h0), (2, zi tq), (3, zi aq)]) hx hb dX7_waysOn_44 hl (by decide) rfl (fun ls hl => ?_)
      refine z_loop (σ := Int × Int) (fun x9 H lc ls => match x9 with | (v, k) => ((0 ≤ k ∧ k ≤ bn) ∧ v = sgI (fun c => if tq / 2 ^ c.toNat % 2 = 0 then wV (okB bl bw bt bh bn CI CJ CW) bn (bor tq (1 * 2 ^ c.toNat)) else 0) k) ∧ lv_has ls 7 [(5, zi k), (4, zi v), (0, .ref n0), (1, .ref h0), (2, zi tq), (3, zi aq)] ∧ H = s.heap ∧ lc = []) (fun x9  => match x9 with | (v, k) => ((bn - k).toNat)) ?_ (0, 0) ⟨⟨by omega, rfl⟩, lv_sub hl [0, 1, 2, 3, 4, 5] rfl, rfl, rfl⟩
      rintro ⟨v, k⟩ H lc ls ⟨hi46, hl, rfl, rfl⟩ ih46
      refine lv_iload hx hb dX7_waysOn_46 (lv_at hl 0 rfl) ?_
      refine lv_aload_n hx hb dX7_waysOn_48 rfl (lv_at hl 3 rfl) ?_
      refine va_get hx hb hts hinX1 hown hK hPr 5 rfl rfl 6 (by decide) k4 (fun _ h => h) rfl dX7_waysOn_49 ?_
      refine z_icmp_ge (tgt := 87) hx hb (by omega) (by omega) dX7_waysOn_52 (by decide) (fun c_52 => ?_) (fun c_52 => ?_)
      ·
        refine lv_iload hx hb dX7_waysOn_87 (lv_at hl 1 rfl) ?_
        exact z_iret0 hx hb hr hlocks (by rw [wV_s _ (by omega) hT.1 (by omega), if_neg (okB_t (by rw [← hW, ← hM, ← hN9]; omega)), if_neg (by omega), hi46.2, show k = bn by omega]) dX7_waysOn_89
      ·
        have b7 := pow7 (k := k) (by omega)
        refine lv_iload_n hx hb dX7_waysOn_55 rfl (lv_at hl 4 rfl) ?_
        refine z_iconst hx hb dX7_waysOn_56 ?_
        refine lv_iload hx hb dX7_waysOn_57 (lv_at hl 0 rfl) ?_
        refine z_ishl hx hb (by omega) dX7_waysOn_59 ?_
        refine z_ior hx hb (by omega) dX7_waysOn_60 ?_
        refine lv_istore (lv' := [(6, zi (bor tq (1 * 2 ^ k.toNat))), (5, zi k), (4, zi v), (0, .ref n0), (1, .ref h0), (2, zi tq), (3, zi aq)]) hx hb dX7_waysOn_61 hl (by decide) rfl (fun ls hl => ?_)
        have b8 := bor_lt (n := bn.toNat) (c := k.toNat) hT.1 (by omega) (by omega)
        have b9 := bor_nn tq (1 * 2 ^ k.toNat)
        have b10 := bor_same hT.1 k.toNat
        have b11 := bt01 tq k.toNat
        refine lv_iload hx hb dX7_waysOn_63 (lv_at hl 0 rfl) ?_
        refine lv_iload_n hx hb dX7_waysOn_65 rfl (lv_at hl 5 rfl) ?_
        refine z_icmp_eq (tgt := 81) hx hb (by omega) (by omega) dX7_waysOn_66 (by decide) (fun c_66 => ?_) (fun c_66 => ?_)
        ·
          refine z_iinc (k := 1) (lv' := [(5, zi (k + 1)), (6, zi (bor tq (1 * 2 ^ k.toNat))), (4, zi v), (0, .ref n0), (1, .ref h0), (2, zi tq), (3, zi aq)]) hx hb dX7_waysOn_81 hl rfl (by decide) rfl (fun ls hl => ?_)
          refine lv_goto (tgt := 46) hx hb dX7_waysOn_84 (by decide) ?_
          exact ih46 (v, k + 1) _ _ _ (by first | (dsimp only; omega) | omega) ⟨⟨by omega, by rw [sgI_s _ (by omega), ← hi46.2]; first | (rw [if_pos (by have := bt01 tq k.toNat; omega)]; first | done | rw [hY _ (bor_gt hT.1 (by have := bt01 tq k.toNat; omega)) (by omega)]) | (rw [if_neg (by omega)]; omega)⟩, lv_sub hl [0, 2, 3, 4, 5, 6] rfl, rfl, rfl⟩
        ·
          refine lv_iload hx hb dX7_waysOn_69 (lv_at hl 2 rfl) ?_
          refine lv_aload_n hx hb dX7_waysOn_71 rfl (lv_at hl 3 rfl) ?_
          refine va_get hx hb hts hinX7 hown hK hPr 0 rfl rfl 3 (by decide) k5 (fun _ h => h) rfl dX7_waysOn_72 ?_
          refine lv_iload hx hb dX7_waysOn_75 (lv_at hl 0 rfl) ?_
          refine z_iald hx hb hK hPr 4 0 rfl rfl (by omega) (by decide) dX7_waysOn_77 ?_
          refine z_iadd hx hb dX7_waysOn_78 ?_
          refine lv_istore (lv' := [(4, zi (v + (WY (bor tq (1 * 2 ^ k.toNat))))), (6, zi (bor tq (1 * 2 ^ k.toNat))), (5, zi k), (0, .ref n0), (1, .ref h0), (2, zi tq), (3, zi aq)]) hx hb dX7_waysOn_79 hl (by decide) rfl (fun ls hl => ?_)
          refine z_iinc (k := 2) (lv' := [(5, zi (k + 1)), (4, zi (v + (WY (bor tq (1 * 2 ^ k.toNat))))), (6, zi (bor tq (1 * 2 ^ k.toNat))), (0, .ref n0), (1, .ref h0), (2, zi tq), (3, zi aq)]) hx hb dX7_waysOn_81 hl rfl (by decide) rfl (fun ls hl => ?_)
          refine lv_goto (tgt := 46) hx hb dX7_waysOn_84 (by decide) ?_
          exact ih46 (v + (WY (bor tq (1 * 2 ^ k.toNat))), k + 1) _ _ _ (by first | (dsimp only; omega) | omega) ⟨⟨by omega, by rw [sgI_s _ (by omega), ← hi46.2]; first | (rw [if_pos (by have := bt01 tq k.toNat; omega)]; first | done | rw [hY _ (bor_gt hT.1 (by have := bt01 tq k.toNat; omega)) (by omega)]) | (rw [if_neg (by omega)]; omega)⟩, lv_sub hl [0, 1, 3, 4, 5, 6] rfl, rfl, rfl⟩
    ·
      refine z_iconst hx hb dX7_waysOn_38 ?_
      exact z_iret0 hx hb hr hlocks (by rw [wV_s _ (by omega) hT.1 (by omega), if_neg (okB_t (by rw [← hW, ← hM, ← hN9]; omega)), if_pos (by omega)]) dX7_waysOn_39
  ·
    refine z_iconst hx hb dX7_waysOn_31 ?_
    exact z_iret0 hx hb hr hlocks (by rw [wV_s _ (by omega) hT.1 (by omega), if_pos (okB_f (by rw [← hW, ← hM, ← hN9]; omega))]) dX7_waysOn_32
set_option maxHeartbeats 8000000 in
set_option maxRecDepth 100000 in
theorem c_X7_countAll (l : Launch) (D : va_G) (y : Nat → ClassId) (n0 : Nat) (na : Nat) (nb : Nat) (nc : Nat) (nd : Nat) (WA : Int → Int) (PM : Int → Int) (PN : Int → Int) (WY : Int → Int) (h0 : Nat) (a1 : Nat) (a2 : Nat) (a3 : Nat) (bl : Int) (bw : Int) (bt : Int) (bh : Int) (bd : Int) (bx : Int) (bn : Int) (CI : Int → Int) (CJ : Int → Int) (CW : Int → Int) (hB : bOK bl bw bt bh bd bx bn CI CJ CW) (sz : Nat) : Met l yX7_countAll wsX7_countAll ({ frames := 5, cells := 0, slots := 0, locals := 108 } : Room) (wPc D y [(h0, .inr (1, [zi bl, zi bw, zi bt, zi bh, zi bd, zi bx, zi bn, .ref a1, .ref a2, .ref a3])), (a1, .inl (y 0, 8, .inl (cI CI))), (a2, .inl (y 0, 8, .inl (cI CJ))), (a3, .inl (y 0, 8, .inl (cI CW)))] [(n0, .inr (6, [.ref na, .ref nb, .ref nc, .ref nd])), (na, .inl (y 0, 256, .inl (cI WA))), (nb, .inl (y 0, 256, .inl (cI PM))), (nc, .inl (y 0, 256, .inl (cI PN))), (nd, .inl (y 0, 256, .inl (cI WY)))] sz [.ref n0, .ref h0]) (wQ D (fun (x9 : (Int → Int) × (Int → Int) × (Int → Int) × (Int → Int)) => match x9 with | (WA2, PM2, PN2, WY2) => some (zi (wV (okB bl bw bt bh bn CI CJ CW) bn 0))) (fun (x9 : (Int → Int) × (Int → Int) × (Int → Int) × (Int → Int)) => match x9 with | (WA2, PM2, PN2, WY2) => ∀ t : Int, 0 ≤ t → t ≤ 1 * 2 ^ bn.toNat - 1 → WY2 t = wV (okB bl bw bt bh bn CI CJ CW) bn t) (fun (x9 : (Int → Int) × (Int → Int) × (Int → Int) × (Int → Int)) => match x9 with | (WA2, PM2, PN2, WY2) => [(n0, .inr (6, [.ref na, .ref nb, .ref nc, .ref nd])), (na, .inl (y 0, 256, .inl (cI WA2))), (nb, .inl (y 0, 256, .inl (cI PM2))), (nc, .inl (y 0, 256, .inl (cI PN2))), (nd, .inl (y 0, 256, .inl (cI WY2)))]) (va_A [(n0, .inr (6, [.ref na, .ref nb, .ref nc, .ref nd])), (na, .inl (y 0, 256, .inl (cI WA))), (nb, .inl (y 0, 256, .inl (cI PM))), (nc, .inl (y 0, 256, .inl (cI PN))), (nd, .inl (y 0, 256, .inl (cI WY)))] sz)) 0 0 (va_A [(n0, .inr (6, [.ref na, .ref nb, .ref nc, .ref nd])), (na, .inl (y 0, 256, .inl (cI WA))), (nb, .inl (y 0, 256, .inl (cI PM))), (nc, .inl (y 0, 256, .inl (cI PN))), (nd, .inl (y 0, 256, .inl (cI WY)))] sz) := by
  refine W_of (own := RX7) (cc := cX7_countAll) (maxL := 4) (ret := some .int) (by decide) rfl rfl (Nat.le_of_ble_eq_true rfl) (fun p e s m below meth c ls A hx hb hr hC hlocks hin0 hR0 hN hP hD hA hG hl => ?_)
  have hC0 := hC
  obtain ⟨-, -, hml, hown, hts⟩ := hC0
  have hK := hG.1
  have hS : va_S A s.heap s.heap [] := va_S.rf
  have hPr := hR0
  have hinX1 : ∀ w ∈ wsX10, w ∈ wsX7_countAll := fun _ h => List.mem_cons_of_mem _ (List.mem_append_left _ (List.mem_append_right _ h))
  have hinX7 : ∀ w ∈ wsX70, w ∈ wsX7_countAll := fun _ h => List.mem_cons_of_mem _ (List.mem_append_right _ h)
  have k1 := hts (.fieldLink RX7 24 "BoatsOfPaper$Boat" "coins" "I") (List.mem_of_getElem? (i := 1) rfl)
  have k2 := hts (.fieldLink RX7 21 "BoatsOfPaper$Laying" "ways" "[I") (List.mem_of_getElem? (i := 2) rfl)
  have hl : lv_has ls 4 [(0, .ref n0), (1, .ref h0)] := hl
  obtain ⟨q1, q2, q3, q4, q5, q6, q7, q8, q9, qc⟩ := id hB
  have b1 := bOK_cells hB
  have b2 := pow8 (k := bn) (by omega)
  refine z_iconst hx hb dX7_countAll_0 ?_
  refine lv_aload_n hx hb dX7_countAll_1 rfl (lv_at hl 1 rfl) ?_
  refine va_get hx hb hts hinX1 hown hK hPr 0 rfl rfl 6 (by decide) k1 (fun _ h => h) rfl dX7_countAll_2 ?_
  refine z_ishl hx hb (by omega) dX7_countAll_5 ?_
  refine z_iconst hx hb dX7_countAll_6 ?_
  refine z_isub hx hb dX7_countAll_7 ?_
  refine lv_istore_n (lv' := [(2, zi ((1 * 2 ^ bn.toNat) - 1)), (0, .ref n0), (1, .ref h0)]) hx hb dX7_countAll_8 rfl hl (by decide) rfl (fun ls hl => ?_)
  refine lv_aload_n hx hb dX7_countAll_9 rfl (lv_at hl 1 rfl) ?_
  refine lv_aload_n hx hb dX7_countAll_10 rfl (lv_at hl 2 rfl) ?_
  refine z_wV (As := [.ref h0]) (rest := []) (wc := [(n0, .inr (6, [.ref na, .ref nb, .ref nc, .ref nd])), (na, .inl (y 0, 256, .inl (cI WA))), (nb, .inl (y 0, 256, .inl (cI PM))), (nc, .inl (y 0, 256, .inl (cI PN)))]) (wrest := [(nd, .inl (y 0, 256, .inl (cI WY)))]) hC (c_X7_weighSets l D y n0 na nb nc nd WA PM PN h0 a1 a2 a3 bl bw bt bh bd bx bn CI CJ CW (by first | assumption | omega) _) (cwV 1 hts gX7_countAll_X7_weighSets rfl rfl rfl (by decide +kernel) ⟨Nat.le_of_ble_eq_true rfl, Nat.le_of_ble_eq_true rfl⟩) hG hP hD hS hA [0, 1, 2, 3] [4] rfl rfl (by decide) (by decide) (by decide) (hPr.sub (ws' := [(h0, .inr (1, [zi bl, zi bw, zi bt, zi bh, zi bd, zi bx, zi bn, .ref a1, .ref a2, .ref a3])), (a1, .inl (y 0, 8, .inl (cI CI))), (a2, .inl (y 0, 8, .inl (cI CJ))), (a3, .inl (y 0, 8, .inl (cI CW)))]) [0, 1, 2, 3] rfl) (fun k q hk z => ro_sub (wr' := [(h0, .inr (1, [zi bl, zi bw, zi bt, zi bh, zi bd, zi bx, zi bn, .ref a1, .ref a2, .ref a3])), (a1, .inl (y 0, 8, .inl (cI CI))), (a2, .inl (y 0, 8, .inl (cI CJ))), (a3, .inl (y 0, 8, .inl (cI CW)))]) hN [0, 1, 2, 3] rfl k q hk (va_free (wc := [(n0, .inr (6, [.ref na, .ref nb, .ref nc, .ref nd])), (na, .inl (y 0, 256, .inl (cI WA))), (nb, .inl (y 0, 256, .inl (cI PM))), (nc, .inl (y 0, 256, .inl (cI PN)))]) hD hS hA [0, 1, 2, 3] rfl q.1 z)) 0 rfl rfl rfl hl.1 rfl (Nat.le_of_ble_eq_true rfl) dX7_countAll_11 ⟨Nat.le_of_ble_eq_true rfl, Nat.le_of_ble_eq_true rfl⟩ (fun u9 H locs hw_4 hP hD hS => ?_)
  obtain ⟨WA2, PM2, PN2⟩ := u9
  have hw_4 : (∀ t : Int, 0 ≤ t → t < 1 * 2 ^ bn.toNat → WA2 t = bl * bw * bt + bs CW bn t) ∧ (∀ t : Int, 0 ≤ t → t < 1 * 2 ^ bn.toNat → PM2 t = bs (pullC (bl - 2 * bh) CI CW) bn t) ∧ (∀ t : Int, 0 ≤ t → t < 1 * 2 ^ bn.toNat → PN2 t = bs (pullC (bw - 2 * bh) CJ CW) bn t) := hw_4
  have hP : va_P D vwCl [(nd, .inl (y 0, 256, .inl (cI WY))), (n0, .inr (6, [.ref na, .ref nb, .ref nc, .ref nd])), (na, .inl (y 0, 256, .inl (cI WA2))), (nb, .inl (y 0, 256, .inl (cI PM2))), (nc, .inl (y 0, 256, .inl (cI PN2)))] H := hP
  have hD : va_D A [(nd, .inl (y 0, 256, .inl (cI WY))), (n0, .inr (6, [.ref na, .ref nb, .ref nc, .ref nd])), (na, .inl (y 0, 256, .inl (cI WA2))), (nb, .inl (y 0, 256, .inl (cI PM2))), (nc, .inl (y 0, 256, .inl (cI PN2)))] := hD
  have hPr := ro_now hR0 hN hS
  obtain ⟨w1, w2, w3⟩ := hw_4
  refine lv_iload_n hx hb dX7_countAll_14 rfl (lv_at hl 0 rfl) ?_
  refine lv_istore_n (lv' := [(3, zi ((1 * 2 ^ bn.toNat) - 1)), (2, zi ((1 * 2 ^ bn.toNat) - 1)), (0, .ref n0), (1, .ref h0)]) hx hb dX7_countAll_15 rfl hl (by decide) rfl (fun ls hl => ?_)
  refine z_loop (σ := Int × (Int → Int)) (fun x9 H lc ls => match x9 with | (k, Y1) => ((-1 ≤ k ∧ k ≤ 1 * 2 ^ bn.toNat - 1) ∧ ∀ t : Int, k < t → t ≤ 1 * 2 ^ bn.toNat - 1 → Y1 t = wV (okB bl bw bt bh bn CI CJ CW) bn t) ∧ lv_has ls 4 [(3, zi k), (2, zi ((1 * 2 ^ bn.toNat) - 1)), (0, .ref n0), (1, .ref h0)] ∧ va_P D vwCl [(nd, .inl (y 0, 256, .inl (cI Y1))), (n0, .inr (6, [.ref na, .ref nb, .ref nc, .ref nd])), (na, .inl (y 0, 256, .inl (cI WA2))), (nb, .inl (y 0, 256, .inl (cI PM2))), (nc, .inl (y 0, 256, .inl (cI PN2)))] H ∧ va_D A [(nd, .inl (y 0, 256, .inl (cI Y1))), (n0, .inr (6, [.ref na, .ref nb, .ref nc, .ref nd])), (na, .inl (y 0, 256, .inl (cI WA2))), (nb, .inl (y 0, 256, .inl (cI PM2))), (nc, .inl (y 0, 256, .inl (cI PN2)))] ∧ va_S A s.heap H lc) (fun x9  => match x9 with | (k, Y1) => ((k + 1).toNat)) ?_ ((1 * 2 ^ bn.toNat) - 1, WY) ⟨⟨by omega, fun t _ _ => by omega⟩, lv_sub hl [0, 1, 2, 3] rfl, hP.sub [0, 1, 2, 3, 4] rfl, hD.sub [0, 1, 2, 3, 4] (by decide) rfl, hS⟩
  rintro ⟨k, Y1⟩ H lc ls ⟨hi16, hl, hP, hD, hS⟩ ih16
  have hP : va_P D vwCl [(nd, .inl (y 0, 256, .inl (cI Y1))), (n0, .inr (6, [.ref na, .ref nb, .ref nc, .ref nd])), (na, .inl (y 0, 256, .inl (cI WA2))), (nb, .inl (y 0, 256, .inl (cI PM2))), (nc, .inl (y 0, 256, .inl (cI PN2)))] H := hP
  have hD : va_D A [(nd, .inl (y 0, 256, .inl (cI Y1))), (n0, .inr (6, [.ref na, .ref nb, .ref nc, .ref nd])), (na, .inl (y 0, 256, .inl (cI WA2))), (nb, .inl (y 0, 256, .inl (cI PM2))), (nc, .inl (y 0, 256, .inl (cI PN2)))] := hD
  have hPr := ro_now hR0 hN hS
  refine lv_iload_n hx hb dX7_countAll_16 rfl (lv_at hl 0 rfl) ?_
  refine z_if_lt (tgt := 39) hx hb (by omega) dX7_countAll_17 (by decide) (fun c_17 => ?_) (fun c_17 => ?_)
  ·
    refine lv_aload_n hx hb dX7_countAll_39 rfl (lv_at hl 2 rfl) ?_
    refine va_get hx hb hts hinX7 hown hK hP 1 rfl rfl 3 (by decide) k2 (fun _ h => h) rfl dX7_countAll_40 ?_
    refine z_iconst hx hb dX7_countAll_43 ?_
    refine z_iald hx hb hK hP 0 0 rfl rfl (by omega) (by decide) dX7_countAll_44 ?_
    exact z_iretW hx hb hr hlocks (WA2, PM2, PN2, Y1) (by show some (zi _) = _; rw [hi16.2 0 (by omega) (by omega)]) (fun t t0 t1 => hi16.2 t (by omega) t1) (hP.sub [1, 2, 3, 4, 0] rfl) (hD.sub [1, 2, 3, 4, 0] (by decide) rfl) hS dX7_countAll_45
  ·
    refine lv_aload_n hx hb dX7_countAll_20 rfl (lv_at hl 2 rfl) ?_
    refine va_get hx hb hts hinX7 hown hK hP 1 rfl rfl 3 (by decide) k2 (fun _ h => h) rfl dX7_countAll_21 ?_
    refine lv_iload_n hx hb dX7_countAll_24 rfl (lv_at hl 0 rfl) ?_
    refine lv_aload_n hx hb dX7_countAll_25 rfl (lv_at hl 2 rfl) ?_
    refine lv_aload_n hx hb dX7_countAll_26 rfl (lv_at hl 3 rfl) ?_
    refine lv_iload_n hx hb dX7_countAll_27 rfl (lv_at hl 0 rfl) ?_
    refine lv_iload_n hx hb dX7_countAll_28 rfl (lv_at hl 1 rfl) ?_
    refine z_pV (As := [.ref h0, zi k, zi ((1 * 2 ^ bn.toNat) - 1)]) (rest := [zi k, .ref nd]) hC (c_X7_waysOn l D y n0 na nb nc nd WA2 PM2 PN2 Y1 h0 a1 a2 a3 bl bw bt bh bd bx bn CI CJ CW k ((1 * 2 ^ bn.toNat) - 1) (by first | assumption | omega) rfl (by first | assumption | omega) (w1 k (by omega) (by omega)) (w2 k (by omega) (by omega)) (w3 k (by omega) (by omega)) (fun t t0 t1 => hi16.2 t t0 t1)) (cwV 3 hts gX7_countAll_X7_waysOn rfl rfl rfl (by decide +kernel) ⟨Nat.le_of_ble_eq_true rfl, Nat.le_of_ble_eq_true rfl⟩) hG ((hP.sub [1, 2, 3, 4, 0] rfl).app (hPr.sub [0, 1, 2, 3] rfl)) 0 rfl rfl rfl hl.1 rfl (Nat.le_of_ble_eq_true rfl) dX7_countAll_29 ⟨Nat.le_of_ble_eq_true rfl, Nat.le_of_ble_eq_true rfl⟩ ?_
    refine z_iast hx hb hK hP hD hS 0 0 rfl rfl (by omega) (by decide) dX7_countAll_32 (fun H locs hP hD hS => ?_)
    have hP : va_P D vwCl [(nd, .inl (y 0, 256, .inl (cI (iu Y1 k (wV (okB bl bw bt bh bn CI CJ CW) bn k))))), (n0, .inr (6, [.ref na, .ref nb, .ref nc, .ref nd])), (na, .inl (y 0, 256, .inl (cI WA2))), (nb, .inl (y 0, 256, .inl (cI PM2))), (nc, .inl (y 0, 256, .inl (cI PN2)))] H := hP
    have hD : va_D A [(nd, .inl (y 0, 256, .inl (cI (iu Y1 k (wV (okB bl bw bt bh bn CI CJ CW) bn k))))), (n0, .inr (6, [.ref na, .ref nb, .ref nc, .ref nd])), (na, .inl (y 0, 256, .inl (cI WA2))), (nb, .inl (y 0, 256, .inl (cI PM2))), (nc, .inl (y 0, 256, .inl (cI PN2)))] := hD
    have hPr := ro_now hR0 hN hS
    refine z_iinc (k := 0) (lv' := [(3, zi (k + (-1))), (2, zi ((1 * 2 ^ bn.toNat) - 1)), (0, .ref n0), (1, .ref h0)]) hx hb dX7_countAll_33 hl rfl (by decide) rfl (fun ls hl => ?_)
    refine lv_goto (tgt := 16) hx hb dX7_countAll_36 (by decide) ?_
    exact ih16 (k + (-1), iu Y1 k (wV (okB bl bw bt bh bn CI CJ CW) bn k)) _ _ _ (by first | (dsimp only; omega) | omega) ⟨⟨by omega, iu_down hi16.2 rfl⟩, lv_sub hl [0, 1, 2, 3] rfl, hP.sub [0, 1, 2, 3, 4] rfl, hD.sub [0, 1, 2, 3, 4] (by decide) rfl, hS⟩
set_option maxHeartbeats 8000000 in
set_option maxRecDepth 100000 in
theorem c_X7_nextCoin (l : Launch) (D : va_G) (y : Nat → ClassId) (n0 : Nat) (na : Nat) (nb : Nat) (nc : Nat) (nd : Nat) (WA : Int → Int) (PM : Int → Int) (PN : Int → Int) (WY : Int → Int) (h0 : Nat) (a1 : Nat) (a2 : Nat) (a3 : Nat) (bl : Int) (bw : Int) (bt : Int) (bh : Int) (bd : Int) (bx : Int) (bn : Int) (CI : Int → Int) (CJ : Int → Int) (CW : Int → Int) (tq : Int) (hB : bOK bl bw bt bh bd bx bn CI CJ CW) (hT : 0 ≤ tq ∧ tq ≤ 1 * 2 ^ bn.toNat - 1) (hY : ∀ t : Int, 0 ≤ t → t ≤ 1 * 2 ^ bn.toNat - 1 → WY t = wV (okB bl bw bt bh bn CI CJ CW) bn t) : Met l yX7_nextCoin wsX7_nextCoin ({ frames := 0, cells := 0, slots := 0, locals := 0 } : Room) (pPc D y [(n0, .inr (6, [.ref na, .ref nb, .ref nc, .ref nd])), (na, .inl (y 0, 256, .inl (cI WA))), (nb, .inl (y 0, 256, .inl (cI PM))), (nc, .inl (y 0, 256, .inl (cI PN))), (nd, .inl (y 0, 256, .inl (cI WY))), (h0, .inr (1, [zi bl, zi bw, zi bt, zi bh, zi bd, zi bx, zi bn, .ref a1, .ref a2, .ref a3])), (a1, .inl (y 0, 8, .inl (cI CI))), (a2, .inl (y 0, 8, .inl (cI CJ))), (a3, .inl (y 0, 8, .inl (cI CW)))] [.ref n0, .ref h0, zi tq]) (qV (zi (nxV (okB bl bw bt bh bn CI CJ CW) bn tq))) 0 0 (fun _ => False) := by
  refine P_of (own := RX7) (cc := cX7_nextCoin) (maxL := 5) (ret := some .int) (by decide) rfl rfl (Nat.le_of_ble_eq_true rfl) (fun p e s m below meth c ls hx hb hr hC hlocks hPr hG hl => ?_)
  have hC0 := hC
  obtain ⟨-, -, hml, hown, hts⟩ := hC0
  have hK := hG.1
  have hinX1 : ∀ w ∈ wsX10, w ∈ wsX7_nextCoin := fun _ h => List.mem_cons_of_mem _ (List.mem_append_left _ (List.mem_append_right _ h))
  have hinX7 : ∀ w ∈ wsX70, w ∈ wsX7_nextCoin := fun _ h => List.mem_cons_of_mem _ (List.mem_append_right _ h)
  have k1 := hts (.fieldLink RX7 24 "BoatsOfPaper$Boat" "coins" "I") (List.mem_of_getElem? (i := 1) rfl)
  have k2 := hts (.fieldLink RX7 21 "BoatsOfPaper$Laying" "ways" "[I") (List.mem_of_getElem? (i := 2) rfl)
  have hl : lv_has ls 5 [(0, .ref n0), (1, .ref h0), (2, zi tq)] := hl
  obtain ⟨q1, q2, q3, q4, q5, q6, q7, q8, q9, qc⟩ := id hB
  have b1 := bOK_cells hB
  have b2 := pow8 (k := bn) (by omega)
  refine z_iconst hx hb dX7_nextCoin_0 ?_
  refine lv_istore_n (lv' := [(3, zi 0), (0, .ref n0), (1, .ref h0), (2, zi tq)]) hx hb dX7_nextCoin_1 rfl hl (by decide) rfl (fun ls hl => ?_)
  refine z_loop (σ := Int) (fun k H lc ls => ((0 ≤ k ∧ k ≤ bn) ∧ nxV (okB bl bw bt bh bn CI CJ CW) bn tq = lsF (nxP (okB bl bw bt bh bn CI CJ CW) bn tq) (bn - k).toNat k) ∧ lv_has ls 5 [(3, zi k), (0, .ref n0), (1, .ref h0), (2, zi tq)] ∧ H = s.heap ∧ lc = []) (fun k  => ((bn - k).toNat)) ?_ 0 ⟨⟨by omega, by rw [Int.sub_zero]; rfl⟩, lv_sub hl [0, 1, 2, 3] rfl, rfl, rfl⟩
  rintro k H lc ls ⟨hi2, hl, rfl, rfl⟩ ih2
  refine lv_iload_n hx hb dX7_nextCoin_2 rfl (lv_at hl 0 rfl) ?_
  refine lv_aload_n hx hb dX7_nextCoin_3 rfl (lv_at hl 2 rfl) ?_
  refine va_get hx hb hts hinX1 hown hK hPr 5 rfl rfl 6 (by decide) k1 (fun _ h => h) rfl dX7_nextCoin_4 ?_
  refine z_icmp_ge (tgt := 41) hx hb (by omega) (by omega) dX7_nextCoin_7 (by decide) (fun c_7 => ?_) (fun c_7 => ?_)
  ·
    refine z_bipush hx hb dX7_nextCoin_41 (by decide) ?_
    exact z_iret0 hx hb hr hlocks (by rw [hi2.2, show (bn - k).toNat = 0 by omega]; rfl) dX7_nextCoin_43
  ·
    have b7 := pow7 (k := k) (by omega)
    refine lv_iload_n hx hb dX7_nextCoin_10 rfl (lv_at hl 3 rfl) ?_
    refine z_iconst hx hb dX7_nextCoin_11 ?_
    refine lv_iload_n hx hb dX7_nextCoin_12 rfl (lv_at hl 0 rfl) ?_
    refine z_ishl hx hb (by omega) dX7_nextCoin_13 ?_
    refine z_ior hx hb (by omega) dX7_nextCoin_14 ?_
    refine lv_istore (lv' := [(4, zi (bor tq (1 * 2 ^ k.toNat))), (3, zi k), (0, .ref n0), (1, .ref h0), (2, zi tq)]) hx hb dX7_nextCoin_15 hl (by decide) rfl (fun ls hl => ?_)
    have b8 := bor_lt (n := bn.toNat) (c := k.toNat) hT.1 (by omega) (by omega)
    have b9 := bor_nn tq (1 * 2 ^ k.toNat)
    have b10 := bor_same hT.1 k.toNat
    have b11 := bt01 tq k.toNat
    have b12 := wV_bd (okB bl bw bt bh bn CI CJ CW) (n := bn) (t := bor tq (1 * 2 ^ k.toNat)) (by omega) b9 (by omega)
    have b13 := hY _ b9 (by omega)
    refine lv_iload hx hb dX7_nextCoin_17 (lv_at hl 0 rfl) ?_
    refine lv_iload_n hx hb dX7_nextCoin_19 rfl (lv_at hl 4 rfl) ?_
    refine z_icmp_eq (tgt := 35) hx hb (by omega) (by omega) dX7_nextCoin_20 (by decide) (fun c_20 => ?_) (fun c_20 => ?_)
    ·
      refine z_iinc (k := 1) (lv' := [(3, zi (k + 1)), (4, zi (bor tq (1 * 2 ^ k.toNat))), (0, .ref n0), (1, .ref h0), (2, zi tq)]) hx hb dX7_nextCoin_35 hl rfl (by decide) rfl (fun ls hl => ?_)
      refine lv_goto (tgt := 2) hx hb dX7_nextCoin_38 (by decide) ?_
      exact ih2 (k + 1) _ _ _ (by first | (dsimp only; omega) | omega) ⟨⟨by omega, by rw [hi2.2, lsF_s _ (by omega), if_neg (by unfold nxP; simp only [decide_eq_true_eq]; rw [← hY _ b9 (by omega)]; omega)]⟩, lv_sub hl [0, 2, 3, 4] rfl, rfl, rfl⟩
    ·
      refine lv_aload_n hx hb dX7_nextCoin_23 rfl (lv_at hl 2 rfl) ?_
      refine va_get hx hb hts hinX7 hown hK hPr 0 rfl rfl 3 (by decide) k2 (fun _ h => h) rfl dX7_nextCoin_24 ?_
      refine lv_iload hx hb dX7_nextCoin_27 (lv_at hl 0 rfl) ?_
      refine z_iald hx hb hK hPr 4 0 rfl rfl (by omega) (by decide) dX7_nextCoin_29 ?_
      refine z_if_le (tgt := 35) hx hb (by omega) dX7_nextCoin_30 (by decide) (fun c_30 => ?_) (fun c_30 => ?_)
      ·
        refine z_iinc (k := 1) (lv' := [(3, zi (k + 1)), (4, zi (bor tq (1 * 2 ^ k.toNat))), (0, .ref n0), (1, .ref h0), (2, zi tq)]) hx hb dX7_nextCoin_35 hl rfl (by decide) rfl (fun ls hl => ?_)
        refine lv_goto (tgt := 2) hx hb dX7_nextCoin_38 (by decide) ?_
        exact ih2 (k + 1) _ _ _ (by first | (dsimp only; omega) | omega) ⟨⟨by omega, by rw [hi2.2, lsF_s _ (by omega), if_neg (by unfold nxP; simp only [decide_eq_true_eq]; rw [← hY _ b9 (by omega)]; omega)]⟩, lv_sub hl [0, 2, 3, 4] rfl, rfl, rfl⟩
      ·
        refine lv_iload_n hx hb dX7_nextCoin_33 rfl (lv_at hl 1 rfl) ?_
        exact z_iret0 hx hb hr hlocks (by rw [hi2.2, lsF_s _ (by omega), if_pos (by unfold nxP; simp only [decide_eq_true_eq]; rw [← hY _ b9 (by omega)]; omega)]) dX7_nextCoin_34
set_option maxHeartbeats 8000000 in
set_option maxRecDepth 100000 in
theorem c_X7_coinAt (l : Launch) (D : va_G) (y : Nat → ClassId) (n0 : Nat) (na : Nat) (nb : Nat) (nc : Nat) (nd : Nat) (WA : Int → Int) (PM : Int → Int) (PN : Int → Int) (WY : Int → Int) (h0 : Nat) (a1 : Nat) (a2 : Nat) (a3 : Nat) (bl : Int) (bw : Int) (bt : Int) (bh : Int) (bd : Int) (bx : Int) (bn : Int) (CI : Int → Int) (CJ : Int → Int) (CW : Int → Int) (kq : Int) (hB : bOK bl bw bt bh bd bx bn CI CJ CW) (hk : rI kq) (sz : Nat) : Met l yX7_coinAt wsX7_coinAt ({ frames := 6, cells := 0, slots := 0, locals := 131 } : Room) (wPc D y [(h0, .inr (1, [zi bl, zi bw, zi bt, zi bh, zi bd, zi bx, zi bn, .ref a1, .ref a2, .ref a3])), (a1, .inl (y 0, 8, .inl (cI CI))), (a2, .inl (y 0, 8, .inl (cI CJ))), (a3, .inl (y 0, 8, .inl (cI CW)))] [(n0, .inr (6, [.ref na, .ref nb, .ref nc, .ref nd])), (na, .inl (y 0, 256, .inl (cI WA))), (nb, .inl (y 0, 256, .inl (cI PM))), (nc, .inl (y 0, 256, .inl (cI PN))), (nd, .inl (y 0, 256, .inl (cI WY)))] sz [.ref n0, .ref h0, zi kq]) (wQ D (fun (x9 : (Int → Int) × (Int → Int) × (Int → Int) × (Int → Int)) => match x9 with | (WA2, PM2, PN2, WY2) => some (zi (ordV (okB bl bw bt bh bn CI CJ CW) bn kq))) (fun (x9 : (Int → Int) × (Int → Int) × (Int → Int) × (Int → Int)) => match x9 with | (WA2, PM2, PN2, WY2) => True) (fun (x9 : (Int → Int) × (Int → Int) × (Int → Int) × (Int → Int)) => match x9 with | (WA2, PM2, PN2, WY2) => [(n0, .inr (6, [.ref na, .ref nb, .ref nc, .ref nd])), (na, .inl (y 0, 256, .inl (cI WA2))), (nb, .inl (y 0, 256, .inl (cI PM2))), (nc, .inl (y 0, 256, .inl (cI PN2))), (nd, .inl (y 0, 256, .inl (cI WY2)))]) (va_A [(n0, .inr (6, [.ref na, .ref nb, .ref nc, .ref nd])), (na, .inl (y 0, 256, .inl (cI WA))), (nb, .inl (y 0, 256, .inl (cI PM))), (nc, .inl (y 0, 256, .inl (cI PN))), (nd, .inl (y 0, 256, .inl (cI WY)))] sz)) 0 0 (va_A [(n0, .inr (6, [.ref na, .ref nb, .ref nc, .ref nd])), (na, .inl (y 0, 256, .inl (cI WA))), (nb, .inl (y 0, 256, .inl (cI PM))), (nc, .inl (y 0, 256, .inl (cI PN))), (nd, .inl (y 0, 256, .inl (cI WY)))] sz) := by
  refine W_of (own := RX7) (cc := cX7_coinAt) (maxL := 6) (ret := some .int) (by decide) rfl rfl (Nat.le_of_ble_eq_true rfl) (fun p e s m below meth c ls A hx hb hr hC hlocks hin0 hR0 hN hP hD hA hG hl => ?_)
  have hC0 := hC
  obtain ⟨-, -, hml, hown, hts⟩ := hC0
  have hK := hG.1
  have hS : va_S A s.heap s.heap [] := va_S.rf
  have hPr := hR0
  have hinX1 : ∀ w ∈ wsX10, w ∈ wsX7_coinAt := fun _ h => List.mem_cons_of_mem _ (List.mem_append_left _ (List.mem_append_right _ h))
  have k1 := hts (.fieldLink RX7 24 "BoatsOfPaper$Boat" "coins" "I") (List.mem_of_getElem? (i := 1) rfl)
  have hl : lv_has ls 6 [(0, .ref n0), (1, .ref h0), (2, zi kq)] := hl
  obtain ⟨q1, q2, q3, q4, q5, q6, q7, q8, q9, qc⟩ := id hB
  have b1 := bOK_cells hB
  have b2 := pow8 (k := bn) (by omega)
  have b3 := wV_bd (okB bl bw bt bh bn CI CJ CW) (n := bn) (t := 0) (by omega) (by omega) (by omega)
  refine lv_iload_n hx hb dX7_coinAt_0 rfl (lv_at hl 2 rfl) ?_
  refine z_if_lt (tgt := 20) hx hb (by omega) dX7_coinAt_1 (by decide) (fun c_1 => ?_) (fun c_1 => ?_)
  ·
    refine z_bipush hx hb dX7_coinAt_20 (by decide) ?_
    exact z_iretW hx hb hr hlocks (WA, PM, PN, WY) (by show some (zi _) = _; unfold ordV; rw [if_pos (by omega)]) (trivial) (hP.sub [0, 1, 2, 3, 4] rfl) (hD.sub [0, 1, 2, 3, 4] (by decide) rfl) hS dX7_coinAt_22
  ·
    refine lv_iload_n hx hb dX7_coinAt_4 rfl (lv_at hl 2 rfl) ?_
    refine lv_aload_n hx hb dX7_coinAt_5 rfl (lv_at hl 1 rfl) ?_
    refine va_get hx hb hts hinX1 hown hK hPr 0 rfl rfl 6 (by decide) k1 (fun _ h => h) rfl dX7_coinAt_6 ?_
    refine z_icmp_ge (tgt := 20) hx hb (by omega) (by omega) dX7_coinAt_9 (by decide) (fun c_9 => ?_) (fun c_9 => ?_)
    ·
      refine z_bipush hx hb dX7_coinAt_20 (by decide) ?_
      exact z_iretW hx hb hr hlocks (WA, PM, PN, WY) (by show some (zi _) = _; unfold ordV; rw [if_pos (by omega)]) (trivial) (hP.sub [0, 1, 2, 3, 4] rfl) (hD.sub [0, 1, 2, 3, 4] (by decide) rfl) hS dX7_coinAt_22
    ·
      refine lv_aload_n hx hb dX7_coinAt_12 rfl (lv_at hl 0 rfl) ?_
      refine lv_aload_n hx hb dX7_coinAt_13 rfl (lv_at hl 1 rfl) ?_
      refine z_wV (As := [.ref h0]) (rest := []) (wc := [(n0, .inr (6, [.ref na, .ref nb, .ref nc, .ref nd])), (na, .inl (y 0, 256, .inl (cI WA))), (nb, .inl (y 0, 256, .inl (cI PM))), (nc, .inl (y 0, 256, .inl (cI PN))), (nd, .inl (y 0, 256, .inl (cI WY)))]) (wrest := []) hC (c_X7_countAll l D y n0 na nb nc nd WA PM PN WY h0 a1 a2 a3 bl bw bt bh bd bx bn CI CJ CW (by first | assumption | omega) _) (cwV 1 hts gX7_coinAt_X7_countAll rfl rfl rfl (by decide +kernel) ⟨Nat.le_of_ble_eq_true rfl, Nat.le_of_ble_eq_true rfl⟩) hG hP hD hS hA [0, 1, 2, 3, 4] [] rfl rfl (by decide) (by decide) (by decide) (hPr.sub (ws' := [(h0, .inr (1, [zi bl, zi bw, zi bt, zi bh, zi bd, zi bx, zi bn, .ref a1, .ref a2, .ref a3])), (a1, .inl (y 0, 8, .inl (cI CI))), (a2, .inl (y 0, 8, .inl (cI CJ))), (a3, .inl (y 0, 8, .inl (cI CW)))]) [0, 1, 2, 3] rfl) (fun k q hk z => ro_sub (wr' := [(h0, .inr (1, [zi bl, zi bw, zi bt, zi bh, zi bd, zi bx, zi bn, .ref a1, .ref a2, .ref a3])), (a1, .inl (y 0, 8, .inl (cI CI))), (a2, .inl (y 0, 8, .inl (cI CJ))), (a3, .inl (y 0, 8, .inl (cI CW)))]) hN [0, 1, 2, 3] rfl k q hk (va_free (wc := [(n0, .inr (6, [.ref na, .ref nb, .ref nc, .ref nd])), (na, .inl (y 0, 256, .inl (cI WA))), (nb, .inl (y 0, 256, .inl (cI PM))), (nc, .inl (y 0, 256, .inl (cI PN))), (nd, .inl (y 0, 256, .inl (cI WY)))]) hD hS hA [0, 1, 2, 3, 4] rfl q.1 z)) 0 rfl rfl rfl hl.1 rfl (Nat.le_of_ble_eq_true rfl) dX7_coinAt_14 ⟨Nat.le_of_ble_eq_true rfl, Nat.le_of_ble_eq_true rfl⟩ (fun u9 H locs hw_5 hP hD hS => ?_)
      obtain ⟨WA2, PM2, PN2, WY2⟩ := u9
      have hw_5 : ∀ t : Int, 0 ≤ t → t ≤ 1 * 2 ^ bn.toNat - 1 → WY2 t = wV (okB bl bw bt bh bn CI CJ CW) bn t := hw_5
      have hP : va_P D vwCl [(n0, .inr (6, [.ref na, .ref nb, .ref nc, .ref nd])), (na, .inl (y 0, 256, .inl (cI WA2))), (nb, .inl (y 0, 256, .inl (cI PM2))), (nc, .inl (y 0, 256, .inl (cI PN2))), (nd, .inl (y 0, 256, .inl (cI WY2)))] H := hP
      have hD : va_D A [(n0, .inr (6, [.ref na, .ref nb, .ref nc, .ref nd])), (na, .inl (y 0, 256, .inl (cI WA2))), (nb, .inl (y 0, 256, .inl (cI PM2))), (nc, .inl (y 0, 256, .inl (cI PN2))), (nd, .inl (y 0, 256, .inl (cI WY2)))] := hD
      have hPr := ro_now hR0 hN hS
      have hY := hw_5
      refine z_if_ne (tgt := 23) hx hb (by omega) dX7_coinAt_17 (by decide) (fun c_17 => ?_) (fun c_17 => ?_)
      ·
        refine z_iconst hx hb dX7_coinAt_23 ?_
        refine lv_istore_n (lv' := [(3, zi 0), (0, .ref n0), (1, .ref h0), (2, zi kq)]) hx hb dX7_coinAt_24 rfl hl (by decide) rfl (fun ls hl => ?_)
        refine lv_aload_n hx hb dX7_coinAt_25 rfl (lv_at hl 1 rfl) ?_
        refine lv_aload_n hx hb dX7_coinAt_26 rfl (lv_at hl 2 rfl) ?_
        refine lv_iload_n hx hb dX7_coinAt_27 rfl (lv_at hl 0 rfl) ?_
        refine z_pV (As := [.ref h0, zi 0]) (rest := []) hC (c_X7_nextCoin l D y n0 na nb nc nd WA2 PM2 PN2 WY2 h0 a1 a2 a3 bl bw bt bh bd bx bn CI CJ CW 0 (by first | assumption | omega) (by omega) hY) (cwV 2 hts gX7_coinAt_X7_nextCoin rfl rfl rfl (by decide +kernel) ⟨Nat.le_of_ble_eq_true rfl, Nat.le_of_ble_eq_true rfl⟩) hG ((hP.sub [0, 1, 2, 3, 4] rfl).app (hPr.sub [0, 1, 2, 3] rfl)) 0 rfl rfl rfl hl.1 rfl (Nat.le_of_ble_eq_true rfl) dX7_coinAt_28 ⟨Nat.le_of_ble_eq_true rfl, Nat.le_of_ble_eq_true rfl⟩ ?_
        refine lv_istore (lv' := [(4, zi (nxV (okB bl bw bt bh bn CI CJ CW) bn 0)), (3, zi 0), (0, .ref n0), (1, .ref h0), (2, zi kq)]) hx hb dX7_coinAt_31 hl (by decide) rfl (fun ls hl => ?_)
        refine z_iconst hx hb dX7_coinAt_33 ?_
        refine lv_istore (lv' := [(5, zi 0), (4, zi (nxV (okB bl bw bt bh bn CI CJ CW) bn 0)), (3, zi 0), (0, .ref n0), (1, .ref h0), (2, zi kq)]) hx hb dX7_coinAt_34 hl (by decide) rfl (fun ls hl => ?_)
        refine z_loop (σ := Int × Int × Int) (fun x9 H lc ls => match x9 with | (zq, cq, i9) => ((0 ≤ i9 ∧ i9 ≤ kq) ∧ zq = setF (okB bl bw bt bh bn CI CJ CW) bn i9.toNat ∧ cq = nxV (okB bl bw bt bh bn CI CJ CW) bn (setF (okB bl bw bt bh bn CI CJ CW) bn i9.toNat)) ∧ lv_has ls 6 [(5, zi i9), (4, zi cq), (3, zi zq), (0, .ref n0), (1, .ref h0), (2, zi kq)] ∧ va_P D vwCl [(n0, .inr (6, [.ref na, .ref nb, .ref nc, .ref nd])), (na, .inl (y 0, 256, .inl (cI WA2))), (nb, .inl (y 0, 256, .inl (cI PM2))), (nc, .inl (y 0, 256, .inl (cI PN2))), (nd, .inl (y 0, 256, .inl (cI WY2)))] H ∧ va_D A [(n0, .inr (6, [.ref na, .ref nb, .ref nc, .ref nd])), (na, .inl (y 0, 256, .inl (cI WA2))), (nb, .inl (y 0, 256, .inl (cI PM2))), (nc, .inl (y 0, 256, .inl (cI PN2))), (nd, .inl (y 0, 256, .inl (cI WY2)))] ∧ va_S A s.heap H lc) (fun x9  => match x9 with | (zq, cq, i9) => ((kq - i9).toNat)) ?_ (0, nxV (okB bl bw bt bh bn CI CJ CW) bn 0, 0) ⟨⟨by omega, rfl, rfl⟩, lv_sub hl [0, 1, 2, 3, 4, 5] rfl, hP.sub [0, 1, 2, 3, 4] rfl, hD.sub [0, 1, 2, 3, 4] (by decide) rfl, hS⟩
        rintro ⟨zq, cq, i9⟩ H lc ls ⟨hi36, hl, hP, hD, hS⟩ ih36
        have hP : va_P D vwCl [(n0, .inr (6, [.ref na, .ref nb, .ref nc, .ref nd])), (na, .inl (y 0, 256, .inl (cI WA2))), (nb, .inl (y 0, 256, .inl (cI PM2))), (nc, .inl (y 0, 256, .inl (cI PN2))), (nd, .inl (y 0, 256, .inl (cI WY2)))] H := hP
        have hD : va_D A [(n0, .inr (6, [.ref na, .ref nb, .ref nc, .ref nd])), (na, .inl (y 0, 256, .inl (cI WA2))), (nb, .inl (y 0, 256, .inl (cI PM2))), (nc, .inl (y 0, 256, .inl (cI PN2))), (nd, .inl (y 0, 256, .inl (cI WY2)))] := hD
        have hPr := ro_now hR0 hN hS
        obtain ⟨j1, j2, j3⟩ := hi36
        obtain ⟨n1, n2, n3, n4, n5⟩ := nx_at (okB bl bw bt bh bn CI CJ CW) (n := bn) (by omega) (by omega) (i := i9) (by omega) (by omega)
        rw [← j3] at n2 n3 n4
        rw [← j2] at n1 n3 n4
        refine lv_iload hx hb dX7_coinAt_36 (lv_at hl 0 rfl) ?_
        refine lv_iload_n hx hb dX7_coinAt_38 rfl (lv_at hl 5 rfl) ?_
        refine z_icmp_ge (tgt := 68) hx hb (by omega) (by omega) dX7_coinAt_39 (by decide) (fun c_39 => ?_) (fun c_39 => ?_)
        ·
          refine lv_iload hx hb dX7_coinAt_68 (lv_at hl 1 rfl) ?_
          exact z_iretW hx hb hr hlocks (WA2, PM2, PN2, WY2) (by show some (zi _) = _; unfold ordV; rw [if_neg (by omega), j3, show i9 = kq by omega]) (trivial) (hP.sub [0, 1, 2, 3, 4] rfl) (hD.sub [0, 1, 2, 3, 4] (by decide) rfl) hS dX7_coinAt_70
        ·
          refine lv_iload hx hb dX7_coinAt_42 (lv_at hl 1 rfl) ?_
          refine z_if_lt (tgt := 68) hx hb (by omega) dX7_coinAt_44 (by decide) (fun c_44 => ?_) (fun c_44 => ?_)
          · exfalso; omega
          ·
            have b7 := pow7 (k := cq) (by omega)
            have b8 := bor_lt (n := bn.toNat) (c := cq.toNat) n1.1 (by omega) (by omega)
            have b9 := bor_nn zq (1 * 2 ^ cq.toNat)
            have s1 : bor zq (1 * 2 ^ cq.toNat) = setF (okB bl bw bt bh bn CI CJ CW) bn (i9 + 1).toNat := (by rw [show (i9 + 1).toNat = i9.toNat + 1 by omega, j2, j3]; rfl)
            refine lv_iload_n hx hb dX7_coinAt_47 rfl (lv_at hl 2 rfl) ?_
            refine z_iconst hx hb dX7_coinAt_48 ?_
            refine lv_iload hx hb dX7_coinAt_49 (lv_at hl 1 rfl) ?_
            refine z_ishl hx hb (by omega) dX7_coinAt_51 ?_
            refine z_ior hx hb (by omega) dX7_coinAt_52 ?_
            refine lv_istore_n (lv' := [(3, zi (bor zq (1 * 2 ^ cq.toNat))), (5, zi i9), (4, zi cq), (0, .ref n0), (1, .ref h0), (2, zi kq)]) hx hb dX7_coinAt_53 rfl hl (by decide) rfl (fun ls hl => ?_)
            refine lv_aload_n hx hb dX7_coinAt_54 rfl (lv_at hl 3 rfl) ?_
            refine lv_aload_n hx hb dX7_coinAt_55 rfl (lv_at hl 4 rfl) ?_
            refine lv_iload_n hx hb dX7_coinAt_56 rfl (lv_at hl 0 rfl) ?_
            refine z_pV (As := [.ref h0, zi (bor zq (1 * 2 ^ cq.toNat))]) (rest := []) hC (c_X7_nextCoin l D y n0 na nb nc nd WA2 PM2 PN2 WY2 h0 a1 a2 a3 bl bw bt bh bd bx bn CI CJ CW (bor zq (1 * 2 ^ cq.toNat)) (by first | assumption | omega) (by omega) hY) (cwV 2 hts gX7_coinAt_X7_nextCoin rfl rfl rfl (by decide +kernel) ⟨Nat.le_of_ble_eq_true rfl, Nat.le_of_ble_eq_true rfl⟩) hG ((hP.sub [0, 1, 2, 3, 4] rfl).app (hPr.sub [0, 1, 2, 3] rfl)) 0 rfl rfl rfl hl.1 rfl (Nat.le_of_ble_eq_true rfl) dX7_coinAt_57 ⟨Nat.le_of_ble_eq_true rfl, Nat.le_of_ble_eq_true rfl⟩ ?_
            refine lv_istore (lv' := [(4, zi (nxV (okB bl bw bt bh bn CI CJ CW) bn (bor zq (1 * 2 ^ cq.toNat)))), (3, zi (bor zq (1 * 2 ^ cq.toNat))), (5, zi i9), (0, .ref n0), (1, .ref h0), (2, zi kq)]) hx hb dX7_coinAt_60 hl (by decide) rfl (fun ls hl => ?_)
            refine z_iinc (k := 2) (lv' := [(5, zi (i9 + 1)), (4, zi (nxV (okB bl bw bt bh bn CI CJ CW) bn (bor zq (1 * 2 ^ cq.toNat)))), (3, zi (bor zq (1 * 2 ^ cq.toNat))), (0, .ref n0), (1, .ref h0), (2, zi kq)]) hx hb dX7_coinAt_62 hl rfl (by decide) rfl (fun ls hl => ?_)
            refine lv_goto (tgt := 36) hx hb dX7_coinAt_65 (by decide) ?_
            exact ih36 (bor zq (1 * 2 ^ cq.toNat), nxV (okB bl bw bt bh bn CI CJ CW) bn (bor zq (1 * 2 ^ cq.toNat)), i9 + 1) _ _ _ (by first | (dsimp only; omega) | omega) ⟨⟨by omega, s1, by rw [s1]⟩, lv_sub hl [0, 1, 2, 3, 4, 5] rfl, hP.sub [0, 1, 2, 3, 4] rfl, hD.sub [0, 1, 2, 3, 4] (by decide) rfl, hS⟩
      ·
        refine z_bipush hx hb dX7_coinAt_20 (by decide) ?_
        exact z_iretW hx hb hr hlocks (WA2, PM2, PN2, WY2) (by show some (zi _) = _; unfold ordV; rw [if_pos (by omega)]) (trivial) (hP.sub [0, 1, 2, 3, 4] rfl) (hD.sub [0, 1, 2, 3, 4] (by decide) rfl) hS dX7_coinAt_22
