theorem iu_fill {F G : Int → Int} {k : Int} (h : ∀ j : Int, 0 ≤ j → j < k → F j = G j) : ∀ j : Int, 0 ≤ j → j < k + 1 → iu F k (G k) j = G j := by
  intro j h0 h1
  by_cases c : j = k
  · subst c; exact iu_s
  · rw [iu_n c]; exact h j h0 (by omega)
set_option maxHeartbeats 8000000 in
set_option maxRecDepth 100000 in
theorem c_X1_fold (l : Launch) (D : va_G) (y : Nat → ClassId) (h0 : Nat) (a1 : Nat) (a2 : Nat) (a3 : Nat) (bl : Int) (bw : Int) (bt : Int) (bh : Int) (bd : Int) (bx : Int) (bn : Int) (xl : Int) (xw : Int) (xt : Int) (xh : Int)  (sz : Nat) : Met l yX1_fold wsX1_fold ({ frames := 0, cells := 0, slots := 0, locals := 0 } : Room) (wPc D y [] [(h0, .inr (1, [zi bl, zi bw, zi bt, zi bh, zi bd, zi bx, zi bn, .ref a1, .ref a2, .ref a3]))] sz [.ref h0, zi xl, zi xw, zi xt, zi xh]) (wQ D (fun (_ : Unit) => none) (fun (_ : Unit) => True) (fun (_ : Unit) => [(h0, .inr (1, [zi xl, zi xw, zi xt, zi xh, zi 10, zi 0, zi 0, .ref a1, .ref a2, .ref a3]))]) (va_A [(h0, .inr (1, [zi bl, zi bw, zi bt, zi bh, zi bd, zi bx, zi bn, .ref a1, .ref a2, .ref a3]))] sz)) 0 0 (va_A [(h0, .inr (1, [zi bl, zi bw, zi bt, zi bh, zi bd, zi bx, zi bn, .ref a1, .ref a2, .ref a3]))] sz) := by
  refine W_of (own := RX1) (cc := cX1_fold) (maxL := 5) (ret := none) (by decide) rfl rfl (Nat.le_of_ble_eq_true rfl) (fun p e s m below meth c ls A hx hb hr hC hlocks hin0 hR0 hN hP hD hA hG hl => ?_)
  have hC0 := hC
  obtain ⟨-, -, hml, hown, hts⟩ := hC0
  have hK := hG.1
  have hS : va_S A s.heap s.heap [] := va_S.rf
  have hPr := hR0
  have hinX1 : ∀ w ∈ wsX10, w ∈ wsX1_fold := fun _ h => List.mem_cons_of_mem _ (List.mem_append_right _ h)
  have k1 := hts (.fieldLink RX1 9 "BoatsOfPaper$Boat" "l" "I") (List.mem_of_getElem? (i := 1) rfl)
  have k2 := hts (.fieldLink RX1 15 "BoatsOfPaper$Boat" "w" "I") (List.mem_of_getElem? (i := 2) rfl)
  have k3 := hts (.fieldLink RX1 18 "BoatsOfPaper$Boat" "t" "I") (List.mem_of_getElem? (i := 3) rfl)
  have k4 := hts (.fieldLink RX1 21 "BoatsOfPaper$Boat" "h" "I") (List.mem_of_getElem? (i := 4) rfl)
  have k5 := hts (.fieldLink RX1 24 "BoatsOfPaper$Boat" "drinks" "I") (List.mem_of_getElem? (i := 5) rfl)
  have k6 := hts (.fieldLink RX1 27 "BoatsOfPaper$Boat" "waxed" "I") (List.mem_of_getElem? (i := 6) rfl)
  have k7 := hts (.fieldLink RX1 30 "BoatsOfPaper$Boat" "coins" "I") (List.mem_of_getElem? (i := 7) rfl)
  have hl : lv_has ls 5 [(0, .ref h0), (1, zi xl), (2, zi xw), (3, zi xt), (4, zi xh)] := hl
  refine lv_aload_n hx hb dX1_fold_0 rfl (lv_at hl 0 rfl) ?_
  refine lv_iload_n hx hb dX1_fold_1 rfl (lv_at hl 1 rfl) ?_
  refine va_put hx hb hts hinX1 tyX1 tyX1_ok nmX1 hown hK hP hD hS 0 rfl rfl 0 (by decide) k1 (fun _ h => h) rfl (tyX1_ok 0 (by decide)) rfl rfl (Nat.le_of_ble_eq_true rfl) dX1_fold_2 (fun H locs hP hD hS => ?_)
  have hP : va_P D vwCl [(h0, .inr (1, [zi xl, zi bw, zi bt, zi bh, zi bd, zi bx, zi bn, .ref a1, .ref a2, .ref a3]))] H := hP
  have hD : va_D A [(h0, .inr (1, [zi xl, zi bw, zi bt, zi bh, zi bd, zi bx, zi bn, .ref a1, .ref a2, .ref a3]))] := hD
  refine lv_aload_n hx hb dX1_fold_5 rfl (lv_at hl 0 rfl) ?_
  refine lv_iload_n hx hb dX1_fold_6 rfl (lv_at hl 2 rfl) ?_
  refine va_put hx hb hts hinX1 tyX1 tyX1_ok nmX1 hown hK hP hD hS 0 rfl rfl 1 (by decide) k2 (fun _ h => h) rfl (tyX1_ok 1 (by decide)) rfl rfl (Nat.le_of_ble_eq_true rfl) dX1_fold_7 (fun H locs hP hD hS => ?_)
  have hP : va_P D vwCl [(h0, .inr (1, [zi xl, zi xw, zi bt, zi bh, zi bd, zi bx, zi bn, .ref a1, .ref a2, .ref a3]))] H := hP
  have hD : va_D A [(h0, .inr (1, [zi xl, zi xw, zi bt, zi bh, zi bd, zi bx, zi bn, .ref a1, .ref a2, .ref a3]))] := hD
  refine lv_aload_n hx hb dX1_fold_10 rfl (lv_at hl 0 rfl) ?_
  refine lv_iload_n hx hb dX1_fold_11 rfl (lv_at hl 3 rfl) ?_
  refine va_put hx hb hts hinX1 tyX1 tyX1_ok nmX1 hown hK hP hD hS 0 rfl rfl 2 (by decide) k3 (fun _ h => h) rfl (tyX1_ok 2 (by decide)) rfl rfl (Nat.le_of_ble_eq_true rfl) dX1_fold_12 (fun H locs hP hD hS => ?_)
  have hP : va_P D vwCl [(h0, .inr (1, [zi xl, zi xw, zi xt, zi bh, zi bd, zi bx, zi bn, .ref a1, .ref a2, .ref a3]))] H := hP
  have hD : va_D A [(h0, .inr (1, [zi xl, zi xw, zi xt, zi bh, zi bd, zi bx, zi bn, .ref a1, .ref a2, .ref a3]))] := hD
  refine lv_aload_n hx hb dX1_fold_15 rfl (lv_at hl 0 rfl) ?_
  refine lv_iload hx hb dX1_fold_16 (lv_at hl 4 rfl) ?_
  refine va_put hx hb hts hinX1 tyX1 tyX1_ok nmX1 hown hK hP hD hS 0 rfl rfl 3 (by decide) k4 (fun _ h => h) rfl (tyX1_ok 3 (by decide)) rfl rfl (Nat.le_of_ble_eq_true rfl) dX1_fold_18 (fun H locs hP hD hS => ?_)
  have hP : va_P D vwCl [(h0, .inr (1, [zi xl, zi xw, zi xt, zi xh, zi bd, zi bx, zi bn, .ref a1, .ref a2, .ref a3]))] H := hP
  have hD : va_D A [(h0, .inr (1, [zi xl, zi xw, zi xt, zi xh, zi bd, zi bx, zi bn, .ref a1, .ref a2, .ref a3]))] := hD
  refine lv_aload_n hx hb dX1_fold_21 rfl (lv_at hl 0 rfl) ?_
  refine z_bipush hx hb dX1_fold_22 (by decide) ?_
  refine va_put hx hb hts hinX1 tyX1 tyX1_ok nmX1 hown hK hP hD hS 0 rfl rfl 4 (by decide) k5 (fun _ h => h) rfl (tyX1_ok 4 (by decide)) rfl rfl (Nat.le_of_ble_eq_true rfl) dX1_fold_24 (fun H locs hP hD hS => ?_)
  have hP : va_P D vwCl [(h0, .inr (1, [zi xl, zi xw, zi xt, zi xh, zi 10, zi bx, zi bn, .ref a1, .ref a2, .ref a3]))] H := hP
  have hD : va_D A [(h0, .inr (1, [zi xl, zi xw, zi xt, zi xh, zi 10, zi bx, zi bn, .ref a1, .ref a2, .ref a3]))] := hD
  refine lv_aload_n hx hb dX1_fold_27 rfl (lv_at hl 0 rfl) ?_
  refine z_iconst hx hb dX1_fold_28 ?_
  refine va_put hx hb hts hinX1 tyX1 tyX1_ok nmX1 hown hK hP hD hS 0 rfl rfl 5 (by decide) k6 (fun _ h => h) rfl (tyX1_ok 5 (by decide)) rfl rfl (Nat.le_of_ble_eq_true rfl) dX1_fold_29 (fun H locs hP hD hS => ?_)
  have hP : va_P D vwCl [(h0, .inr (1, [zi xl, zi xw, zi xt, zi xh, zi 10, zi 0, zi bn, .ref a1, .ref a2, .ref a3]))] H := hP
  have hD : va_D A [(h0, .inr (1, [zi xl, zi xw, zi xt, zi xh, zi 10, zi 0, zi bn, .ref a1, .ref a2, .ref a3]))] := hD
  refine lv_aload_n hx hb dX1_fold_32 rfl (lv_at hl 0 rfl) ?_
  refine z_iconst hx hb dX1_fold_33 ?_
  refine va_put hx hb hts hinX1 tyX1 tyX1_ok nmX1 hown hK hP hD hS 0 rfl rfl 6 (by decide) k7 (fun _ h => h) rfl (tyX1_ok 6 (by decide)) rfl rfl (Nat.le_of_ble_eq_true rfl) dX1_fold_34 (fun H locs hP hD hS => ?_)
  have hP : va_P D vwCl [(h0, .inr (1, [zi xl, zi xw, zi xt, zi xh, zi 10, zi 0, zi 0, .ref a1, .ref a2, .ref a3]))] H := hP
  have hD : va_D A [(h0, .inr (1, [zi xl, zi xw, zi xt, zi xh, zi 10, zi 0, zi 0, .ref a1, .ref a2, .ref a3]))] := hD
  exact z_vretW hx hb hr hlocks () rfl (trivial) (hP.sub [0] rfl) (hD.sub [0] (by decide) rfl) hS dX1_fold_37
set_option maxHeartbeats 8000000 in
set_option maxRecDepth 100000 in
theorem c_X1_lay_full (l : Launch) (D : va_G) (y : Nat → ClassId) (h0 : Nat) (a1 : Nat) (a2 : Nat) (a3 : Nat) (bl : Int) (bw : Int) (bt : Int) (bh : Int) (bd : Int) (bx : Int) (bn : Int) (CI : Int → Int) (CJ : Int → Int) (CW : Int → Int) (xi : Int) (xj : Int) (xw : Int) (hq : bn = 8) : Met l yX1_lay wsX1_lay ({ frames := 0, cells := 0, slots := 0, locals := 0 } : Room) (pPc D y [(h0, .inr (1, [zi bl, zi bw, zi bt, zi bh, zi bd, zi bx, zi bn, .ref a1, .ref a2, .ref a3])), (a1, .inl (y 0, 8, .inl (cI CI))), (a2, .inl (y 0, 8, .inl (cI CJ))), (a3, .inl (y 0, 8, .inl (cI CW)))] [.ref h0, zi xi, zi xj, zi xw]) (qV (zi (-4))) 0 0 (fun _ => False) := by
  refine P_of (own := RX1) (cc := cX1_lay) (maxL := 4) (ret := some .int) (by decide) rfl rfl (Nat.le_of_ble_eq_true rfl) (fun p e s m below meth c ls hx hb hr hC hlocks hPr hG hl => ?_)
  have hC0 := hC
  obtain ⟨-, -, hml, hown, hts⟩ := hC0
  have hK := hG.1
  have hinX1 : ∀ w ∈ wsX10, w ∈ wsX1_lay := fun _ h => List.mem_cons_of_mem _ (List.mem_append_right _ h)
  have k1 := hts (.fieldLink RX1 30 "BoatsOfPaper$Boat" "coins" "I") (List.mem_of_getElem? (i := 1) rfl)
  have hl : lv_has ls 4 [(0, .ref h0), (1, zi xi), (2, zi xj), (3, zi xw)] := hl
  refine lv_aload_n hx hb dX1_lay_0 rfl (lv_at hl 0 rfl) ?_
  refine va_get hx hb hts hinX1 hown hK hPr 0 rfl rfl 6 (by decide) k1 (fun _ h => h) rfl dX1_lay_1 ?_
  refine z_bipush hx hb dX1_lay_4 (by decide) ?_
  refine z_icmp_lt (tgt := 12) hx hb (by omega) (by omega) dX1_lay_6 (by decide) (fun c_6 => ?_) (fun c_6 => ?_)
  · exfalso; omega
  ·
    refine z_bipush hx hb dX1_lay_9 (by decide) ?_
    exact z_iret0 hx hb hr hlocks (rfl) dX1_lay_11
set_option maxHeartbeats 8000000 in
set_option maxRecDepth 100000 in
theorem c_X1_lay (l : Launch) (D : va_G) (y : Nat → ClassId) (h0 : Nat) (a1 : Nat) (a2 : Nat) (a3 : Nat) (bl : Int) (bw : Int) (bt : Int) (bh : Int) (bd : Int) (bx : Int) (bn : Int) (CI : Int → Int) (CJ : Int → Int) (CW : Int → Int) (xi : Int) (xj : Int) (xw : Int) (hq : 0 ≤ bn ∧ bn < 8) (sz : Nat) : Met l yX1_lay wsX1_lay ({ frames := 0, cells := 0, slots := 0, locals := 0 } : Room) (wPc D y [] [(h0, .inr (1, [zi bl, zi bw, zi bt, zi bh, zi bd, zi bx, zi bn, .ref a1, .ref a2, .ref a3])), (a1, .inl (y 0, 8, .inl (cI CI))), (a2, .inl (y 0, 8, .inl (cI CJ))), (a3, .inl (y 0, 8, .inl (cI CW)))] sz [.ref h0, zi xi, zi xj, zi xw]) (wQ D (fun (_ : Unit) => some (zi bn)) (fun (_ : Unit) => True) (fun (_ : Unit) => [(h0, .inr (1, [zi bl, zi bw, zi bt, zi bh, zi bd, zi bx, zi (bn + 1), .ref a1, .ref a2, .ref a3])), (a1, .inl (y 0, 8, .inl (cI (iu CI bn xi)))), (a2, .inl (y 0, 8, .inl (cI (iu CJ bn xj)))), (a3, .inl (y 0, 8, .inl (cI (iu CW bn xw))))]) (va_A [(h0, .inr (1, [zi bl, zi bw, zi bt, zi bh, zi bd, zi bx, zi bn, .ref a1, .ref a2, .ref a3])), (a1, .inl (y 0, 8, .inl (cI CI))), (a2, .inl (y 0, 8, .inl (cI CJ))), (a3, .inl (y 0, 8, .inl (cI CW)))] sz)) 0 0 (va_A [(h0, .inr (1, [zi bl, zi bw, zi bt, zi bh, zi bd, zi bx, zi bn, .ref a1, .ref a2, .ref a3])), (a1, .inl (y 0, 8, .inl (cI CI))), (a2, .inl (y 0, 8, .inl (cI CJ))), (a3, .inl (y 0, 8, .inl (cI CW)))] sz) := by
  refine W_of (own := RX1) (cc := cX1_lay) (maxL := 4) (ret := some .int) (by decide) rfl rfl (Nat.le_of_ble_eq_true rfl) (fun p e s m below meth c ls A hx hb hr hC hlocks hin0 hR0 hN hP hD hA hG hl => ?_)
  have hC0 := hC
  obtain ⟨-, -, hml, hown, hts⟩ := hC0
  have hK := hG.1
  have hS : va_S A s.heap s.heap [] := va_S.rf
  have hPr := hR0
  have hinX1 : ∀ w ∈ wsX10, w ∈ wsX1_lay := fun _ h => List.mem_cons_of_mem _ (List.mem_append_right _ h)
  have k1 := hts (.fieldLink RX1 30 "BoatsOfPaper$Boat" "coins" "I") (List.mem_of_getElem? (i := 1) rfl)
  have k2 := hts (.fieldLink RX1 33 "BoatsOfPaper$Boat" "coinI" "[I") (List.mem_of_getElem? (i := 2) rfl)
  have k3 := hts (.fieldLink RX1 37 "BoatsOfPaper$Boat" "coinJ" "[I") (List.mem_of_getElem? (i := 3) rfl)
  have k4 := hts (.fieldLink RX1 40 "BoatsOfPaper$Boat" "coinWeight" "[I") (List.mem_of_getElem? (i := 4) rfl)
  have hl : lv_has ls 4 [(0, .ref h0), (1, zi xi), (2, zi xj), (3, zi xw)] := hl
  refine lv_aload_n hx hb dX1_lay_0 rfl (lv_at hl 0 rfl) ?_
  refine va_get hx hb hts hinX1 hown hK hP 0 rfl rfl 6 (by decide) k1 (fun _ h => h) rfl dX1_lay_1 ?_
  refine z_bipush hx hb dX1_lay_4 (by decide) ?_
  refine z_icmp_lt (tgt := 12) hx hb (by omega) (by omega) dX1_lay_6 (by decide) (fun c_6 => ?_) (fun c_6 => ?_)
  ·
    refine lv_aload_n hx hb dX1_lay_12 rfl (lv_at hl 0 rfl) ?_
    refine va_get hx hb hts hinX1 hown hK hP 0 rfl rfl 7 (by decide) k2 (fun _ h => h) rfl dX1_lay_13 ?_
    refine lv_aload_n hx hb dX1_lay_16 rfl (lv_at hl 0 rfl) ?_
    refine va_get hx hb hts hinX1 hown hK hP 0 rfl rfl 6 (by decide) k1 (fun _ h => h) rfl dX1_lay_17 ?_
    refine lv_iload_n hx hb dX1_lay_20 rfl (lv_at hl 1 rfl) ?_
    refine z_iast hx hb hK hP hD hS 1 0 rfl rfl (by omega) (by decide) dX1_lay_21 (fun H locs hP hD hS => ?_)
    have hP : va_P D vwCl [(h0, .inr (1, [zi bl, zi bw, zi bt, zi bh, zi bd, zi bx, zi bn, .ref a1, .ref a2, .ref a3])), (a1, .inl (y 0, 8, .inl (cI (iu CI bn xi)))), (a2, .inl (y 0, 8, .inl (cI CJ))), (a3, .inl (y 0, 8, .inl (cI CW)))] H := hP
    have hD : va_D A [(h0, .inr (1, [zi bl, zi bw, zi bt, zi bh, zi bd, zi bx, zi bn, .ref a1, .ref a2, .ref a3])), (a1, .inl (y 0, 8, .inl (cI (iu CI bn xi)))), (a2, .inl (y 0, 8, .inl (cI CJ))), (a3, .inl (y 0, 8, .inl (cI CW)))] := hD
    refine lv_aload_n hx hb dX1_lay_22 rfl (lv_at hl 0 rfl) ?_
    refine va_get hx hb hts hinX1 hown hK hP 0 rfl rfl 8 (by decide) k3 (fun _ h => h) rfl dX1_lay_23 ?_
    refine lv_aload_n hx hb dX1_lay_26 rfl (lv_at hl 0 rfl) ?_
    refine va_get hx hb hts hinX1 hown hK hP 0 rfl rfl 6 (by decide) k1 (fun _ h => h) rfl dX1_lay_27 ?_
    refine lv_iload_n hx hb dX1_lay_30 rfl (lv_at hl 2 rfl) ?_
    refine z_iast hx hb hK hP hD hS 2 0 rfl rfl (by omega) (by decide) dX1_lay_31 (fun H locs hP hD hS => ?_)
    have hP : va_P D vwCl [(h0, .inr (1, [zi bl, zi bw, zi bt, zi bh, zi bd, zi bx, zi bn, .ref a1, .ref a2, .ref a3])), (a1, .inl (y 0, 8, .inl (cI (iu CI bn xi)))), (a2, .inl (y 0, 8, .inl (cI (iu CJ bn xj)))), (a3, .inl (y 0, 8, .inl (cI CW)))] H := hP
    have hD : va_D A [(h0, .inr (1, [zi bl, zi bw, zi bt, zi bh, zi bd, zi bx, zi bn, .ref a1, .ref a2, .ref a3])), (a1, .inl (y 0, 8, .inl (cI (iu CI bn xi)))), (a2, .inl (y 0, 8, .inl (cI (iu CJ bn xj)))), (a3, .inl (y 0, 8, .inl (cI CW)))] := hD
    refine lv_aload_n hx hb dX1_lay_32 rfl (lv_at hl 0 rfl) ?_
    refine va_get hx hb hts hinX1 hown hK hP 0 rfl rfl 9 (by decide) k4 (fun _ h => h) rfl dX1_lay_33 ?_
    refine lv_aload_n hx hb dX1_lay_36 rfl (lv_at hl 0 rfl) ?_
    refine va_get hx hb hts hinX1 hown hK hP 0 rfl rfl 6 (by decide) k1 (fun _ h => h) rfl dX1_lay_37 ?_
    refine lv_iload_n hx hb dX1_lay_40 rfl (lv_at hl 3 rfl) ?_
    refine z_iast hx hb hK hP hD hS 3 0 rfl rfl (by omega) (by decide) dX1_lay_41 (fun H locs hP hD hS => ?_)
    have hP : va_P D vwCl [(h0, .inr (1, [zi bl, zi bw, zi bt, zi bh, zi bd, zi bx, zi bn, .ref a1, .ref a2, .ref a3])), (a1, .inl (y 0, 8, .inl (cI (iu CI bn xi)))), (a2, .inl (y 0, 8, .inl (cI (iu CJ bn xj)))), (a3, .inl (y 0, 8, .inl (cI (iu CW bn xw))))] H := hP
    have hD : va_D A [(h0, .inr (1, [zi bl, zi bw, zi bt, zi bh, zi bd, zi bx, zi bn, .ref a1, .ref a2, .ref a3])), (a1, .inl (y 0, 8, .inl (cI (iu CI bn xi)))), (a2, .inl (y 0, 8, .inl (cI (iu CJ bn xj)))), (a3, .inl (y 0, 8, .inl (cI (iu CW bn xw))))] := hD
    refine lv_aload_n hx hb dX1_lay_42 rfl (lv_at hl 0 rfl) ?_
    refine lv_dup hx hb dX1_lay_43 rfl ?_
    refine va_get hx hb hts hinX1 hown hK hP 0 rfl rfl 6 (by decide) k1 (fun _ h => h) rfl dX1_lay_44 ?_
    refine z_iconst hx hb dX1_lay_47 ?_
    refine z_iadd hx hb dX1_lay_48 ?_
    refine va_put hx hb hts hinX1 tyX1 tyX1_ok nmX1 hown hK hP hD hS 0 rfl rfl 6 (by decide) k1 (fun _ h => h) rfl (tyX1_ok 6 (by decide)) rfl rfl (Nat.le_of_ble_eq_true rfl) dX1_lay_49 (fun H locs hP hD hS => ?_)
    have hP : va_P D vwCl [(h0, .inr (1, [zi bl, zi bw, zi bt, zi bh, zi bd, zi bx, zi (bn + 1), .ref a1, .ref a2, .ref a3])), (a1, .inl (y 0, 8, .inl (cI (iu CI bn xi)))), (a2, .inl (y 0, 8, .inl (cI (iu CJ bn xj)))), (a3, .inl (y 0, 8, .inl (cI (iu CW bn xw))))] H := hP
    have hD : va_D A [(h0, .inr (1, [zi bl, zi bw, zi bt, zi bh, zi bd, zi bx, zi (bn + 1), .ref a1, .ref a2, .ref a3])), (a1, .inl (y 0, 8, .inl (cI (iu CI bn xi)))), (a2, .inl (y 0, 8, .inl (cI (iu CJ bn xj)))), (a3, .inl (y 0, 8, .inl (cI (iu CW bn xw))))] := hD
    refine lv_aload_n hx hb dX1_lay_52 rfl (lv_at hl 0 rfl) ?_
    refine va_get hx hb hts hinX1 hown hK hP 0 rfl rfl 6 (by decide) k1 (fun _ h => h) rfl dX1_lay_53 ?_
    refine z_iconst hx hb dX1_lay_56 ?_
    refine z_isub hx hb dX1_lay_57 ?_
    exact z_iretW hx hb hr hlocks () (by show some (zi bn) = _; rw [show bn + 1 - 1 = bn by omega]) (trivial) (hP.sub [0, 1, 2, 3] rfl) (hD.sub [0, 1, 2, 3] (by decide) rfl) hS dX1_lay_58
  · exfalso; omega
set_option maxHeartbeats 8000000 in
set_option maxRecDepth 100000 in
theorem c_X1_copyFrom (l : Launch) (D : va_G) (y : Nat → ClassId) (h0 : Nat) (a1 : Nat) (a2 : Nat) (a3 : Nat) (bl : Int) (bw : Int) (bt : Int) (bh : Int) (bd : Int) (bx : Int) (bn : Int) (CI : Int → Int) (CJ : Int → Int) (CW : Int → Int) (o0 : Nat) (oa1 : Nat) (oa2 : Nat) (oa3 : Nat) (ol : Int) (ow : Int) (ot : Int) (oh : Int) (od : Int) (ox : Int) (on : Int) (OI : Int → Int) (OJ : Int → Int) (OW : Int → Int) (hO : bOK ol ow ot oh od ox on OI OJ OW) (sz : Nat) : Met l yX1_copyFrom wsX1_copyFrom ({ frames := 1, cells := 0, slots := 0, locals := 24 } : Room) (wPc D y [(o0, .inr (1, [zi ol, zi ow, zi ot, zi oh, zi od, zi ox, zi on, .ref oa1, .ref oa2, .ref oa3])), (oa1, .inl (y 0, 8, .inl (cI OI))), (oa2, .inl (y 0, 8, .inl (cI OJ))), (oa3, .inl (y 0, 8, .inl (cI OW)))] [(h0, .inr (1, [zi bl, zi bw, zi bt, zi bh, zi bd, zi bx, zi bn, .ref a1, .ref a2, .ref a3])), (a1, .inl (y 0, 8, .inl (cI CI))), (a2, .inl (y 0, 8, .inl (cI CJ))), (a3, .inl (y 0, 8, .inl (cI CW)))] sz [.ref h0, .ref o0]) (wQ D (fun (x9 : (Int → Int) × (Int → Int) × (Int → Int)) => match x9 with | (G1, G2, G3) => none) (fun (x9 : (Int → Int) × (Int → Int) × (Int → Int)) => match x9 with | (G1, G2, G3) => (∀ j : Int, 0 ≤ j → j < on → G1 j = OI j) ∧ (∀ j : Int, 0 ≤ j → j < on → G2 j = OJ j) ∧ (∀ j : Int, 0 ≤ j → j < on → G3 j = OW j)) (fun (x9 : (Int → Int) × (Int → Int) × (Int → Int)) => match x9 with | (G1, G2, G3) => [(h0, .inr (1, [zi ol, zi ow, zi ot, zi oh, zi od, zi ox, zi on, .ref a1, .ref a2, .ref a3])), (a1, .inl (y 0, 8, .inl (cI G1))), (a2, .inl (y 0, 8, .inl (cI G2))), (a3, .inl (y 0, 8, .inl (cI G3)))]) (va_A [(h0, .inr (1, [zi bl, zi bw, zi bt, zi bh, zi bd, zi bx, zi bn, .ref a1, .ref a2, .ref a3])), (a1, .inl (y 0, 8, .inl (cI CI))), (a2, .inl (y 0, 8, .inl (cI CJ))), (a3, .inl (y 0, 8, .inl (cI CW)))] sz)) 0 0 (va_A [(h0, .inr (1, [zi bl, zi bw, zi bt, zi bh, zi bd, zi bx, zi bn, .ref a1, .ref a2, .ref a3])), (a1, .inl (y 0, 8, .inl (cI CI))), (a2, .inl (y 0, 8, .inl (cI CJ))), (a3, .inl (y 0, 8, .inl (cI CW)))] sz) := by
  refine W_of (own := RX1) (cc := cX1_copyFrom) (maxL := 3) (ret := none) (by decide) rfl rfl (Nat.le_of_ble_eq_true rfl) (fun p e s m below meth c ls A hx hb hr hC hlocks hin0 hR0 hN hP hD hA hG hl => ?_)
  have hC0 := hC
  obtain ⟨-, -, hml, hown, hts⟩ := hC0
  have hK := hG.1
  have hS : va_S A s.heap s.heap [] := va_S.rf
  have hPr := hR0
  have hinX1 : ∀ w ∈ wsX10, w ∈ wsX1_copyFrom := fun _ h => List.mem_cons_of_mem _ (List.mem_append_right _ h)
  have k1 := hts (.fieldLink RX1 9 "BoatsOfPaper$Boat" "l" "I") (List.mem_of_getElem? (i := 1) rfl)
  have k2 := hts (.fieldLink RX1 15 "BoatsOfPaper$Boat" "w" "I") (List.mem_of_getElem? (i := 2) rfl)
  have k3 := hts (.fieldLink RX1 18 "BoatsOfPaper$Boat" "t" "I") (List.mem_of_getElem? (i := 3) rfl)
  have k4 := hts (.fieldLink RX1 21 "BoatsOfPaper$Boat" "h" "I") (List.mem_of_getElem? (i := 4) rfl)
  have k5 := hts (.fieldLink RX1 24 "BoatsOfPaper$Boat" "drinks" "I") (List.mem_of_getElem? (i := 5) rfl)
  have k6 := hts (.fieldLink RX1 27 "BoatsOfPaper$Boat" "waxed" "I") (List.mem_of_getElem? (i := 6) rfl)
  have k7 := hts (.fieldLink RX1 30 "BoatsOfPaper$Boat" "coins" "I") (List.mem_of_getElem? (i := 7) rfl)
  have k8 := hts (.fieldLink RX1 33 "BoatsOfPaper$Boat" "coinI" "[I") (List.mem_of_getElem? (i := 8) rfl)
  have k9 := hts (.fieldLink RX1 37 "BoatsOfPaper$Boat" "coinJ" "[I") (List.mem_of_getElem? (i := 9) rfl)
  have k10 := hts (.fieldLink RX1 40 "BoatsOfPaper$Boat" "coinWeight" "[I") (List.mem_of_getElem? (i := 10) rfl)
  have hl : lv_has ls 3 [(0, .ref h0), (1, .ref o0)] := hl
  obtain ⟨q1, q2, q3, q4, q5, q6, q7, q8, q9, qc⟩ := id hO
  refine lv_aload_n hx hb dX1_copyFrom_0 rfl (lv_at hl 0 rfl) ?_
  refine lv_aload_n hx hb dX1_copyFrom_1 rfl (lv_at hl 1 rfl) ?_
  refine va_get hx hb hts hinX1 hown hK hPr 0 rfl rfl 0 (by decide) k1 (fun _ h => h) rfl dX1_copyFrom_2 ?_
  refine lv_aload_n hx hb dX1_copyFrom_5 rfl (lv_at hl 1 rfl) ?_
  refine va_get hx hb hts hinX1 hown hK hPr 0 rfl rfl 1 (by decide) k2 (fun _ h => h) rfl dX1_copyFrom_6 ?_
  refine lv_aload_n hx hb dX1_copyFrom_9 rfl (lv_at hl 1 rfl) ?_
  refine va_get hx hb hts hinX1 hown hK hPr 0 rfl rfl 2 (by decide) k3 (fun _ h => h) rfl dX1_copyFrom_10 ?_
  refine lv_aload_n hx hb dX1_copyFrom_13 rfl (lv_at hl 1 rfl) ?_
  refine va_get hx hb hts hinX1 hown hK hPr 0 rfl rfl 3 (by decide) k4 (fun _ h => h) rfl dX1_copyFrom_14 ?_
  refine z_wV (As := [zi ol, zi ow, zi ot, zi oh]) (rest := []) (wc := [(h0, .inr (1, [zi bl, zi bw, zi bt, zi bh, zi bd, zi bx, zi bn, .ref a1, .ref a2, .ref a3]))]) (wrest := [(a1, .inl (y 0, 8, .inl (cI CI))), (a2, .inl (y 0, 8, .inl (cI CJ))), (a3, .inl (y 0, 8, .inl (cI CW)))]) hC (c_X1_fold l D y h0 a1 a2 a3 bl bw bt bh bd bx bn ol ow ot oh  _) (cwV 4 hts gX1_copyFrom_X1_fold rfl rfl rfl (by decide +kernel) ⟨Nat.le_of_ble_eq_true rfl, Nat.le_of_ble_eq_true rfl⟩) hG hP hD hS hA [0] [1, 2, 3] rfl rfl (by decide) (by decide) (by decide) va_P_nil ro_nil 0 rfl rfl rfl hl.1 rfl (Nat.le_of_ble_eq_true rfl) dX1_copyFrom_17 ⟨Nat.le_of_ble_eq_true rfl, Nat.le_of_ble_eq_true rfl⟩ (fun u9 H locs hw_1 hP hD hS => ?_)
  have hw_1 : True := hw_1
  have hP : va_P D vwCl [(a1, .inl (y 0, 8, .inl (cI CI))), (a2, .inl (y 0, 8, .inl (cI CJ))), (a3, .inl (y 0, 8, .inl (cI CW))), (h0, .inr (1, [zi ol, zi ow, zi ot, zi oh, zi 10, zi 0, zi 0, .ref a1, .ref a2, .ref a3]))] H := hP
  have hD : va_D A [(a1, .inl (y 0, 8, .inl (cI CI))), (a2, .inl (y 0, 8, .inl (cI CJ))), (a3, .inl (y 0, 8, .inl (cI CW))), (h0, .inr (1, [zi ol, zi ow, zi ot, zi oh, zi 10, zi 0, zi 0, .ref a1, .ref a2, .ref a3]))] := hD
  have hPr := ro_now hR0 hN hS
  refine lv_aload_n hx hb dX1_copyFrom_20 rfl (lv_at hl 0 rfl) ?_
  refine lv_aload_n hx hb dX1_copyFrom_21 rfl (lv_at hl 1 rfl) ?_
  refine va_get hx hb hts hinX1 hown hK hPr 0 rfl rfl 4 (by decide) k5 (fun _ h => h) rfl dX1_copyFrom_22 ?_
  refine va_put hx hb hts hinX1 tyX1 tyX1_ok nmX1 hown hK hP hD hS 3 rfl rfl 4 (by decide) k5 (fun _ h => h) rfl (tyX1_ok 4 (by decide)) rfl rfl (Nat.le_of_ble_eq_true rfl) dX1_copyFrom_25 (fun H locs hP hD hS => ?_)
  have hP : va_P D vwCl [(a1, .inl (y 0, 8, .inl (cI CI))), (a2, .inl (y 0, 8, .inl (cI CJ))), (a3, .inl (y 0, 8, .inl (cI CW))), (h0, .inr (1, [zi ol, zi ow, zi ot, zi oh, zi od, zi 0, zi 0, .ref a1, .ref a2, .ref a3]))] H := hP
  have hD : va_D A [(a1, .inl (y 0, 8, .inl (cI CI))), (a2, .inl (y 0, 8, .inl (cI CJ))), (a3, .inl (y 0, 8, .inl (cI CW))), (h0, .inr (1, [zi ol, zi ow, zi ot, zi oh, zi od, zi 0, zi 0, .ref a1, .ref a2, .ref a3]))] := hD
  have hPr := ro_now hR0 hN hS
  refine lv_aload_n hx hb dX1_copyFrom_28 rfl (lv_at hl 0 rfl) ?_
  refine lv_aload_n hx hb dX1_copyFrom_29 rfl (lv_at hl 1 rfl) ?_
  refine va_get hx hb hts hinX1 hown hK hPr 0 rfl rfl 5 (by decide) k6 (fun _ h => h) rfl dX1_copyFrom_30 ?_
  refine va_put hx hb hts hinX1 tyX1 tyX1_ok nmX1 hown hK hP hD hS 3 rfl rfl 5 (by decide) k6 (fun _ h => h) rfl (tyX1_ok 5 (by decide)) rfl rfl (Nat.le_of_ble_eq_true rfl) dX1_copyFrom_33 (fun H locs hP hD hS => ?_)
  have hP : va_P D vwCl [(a1, .inl (y 0, 8, .inl (cI CI))), (a2, .inl (y 0, 8, .inl (cI CJ))), (a3, .inl (y 0, 8, .inl (cI CW))), (h0, .inr (1, [zi ol, zi ow, zi ot, zi oh, zi od, zi ox, zi 0, .ref a1, .ref a2, .ref a3]))] H := hP
  have hD : va_D A [(a1, .inl (y 0, 8, .inl (cI CI))), (a2, .inl (y 0, 8, .inl (cI CJ))), (a3, .inl (y 0, 8, .inl (cI CW))), (h0, .inr (1, [zi ol, zi ow, zi ot, zi oh, zi od, zi ox, zi 0, .ref a1, .ref a2, .ref a3]))] := hD
  have hPr := ro_now hR0 hN hS
  refine z_iconst hx hb dX1_copyFrom_36 ?_
  refine lv_istore_n (lv' := [(2, zi 0), (0, .ref h0), (1, .ref o0)]) hx hb dX1_copyFrom_37 rfl hl (by decide) rfl (fun ls hl => ?_)
  refine z_loop (σ := Int × (Int → Int) × (Int → Int) × (Int → Int)) (fun x9 H lc ls => match x9 with | (k, G1, G2, G3) => ((0 ≤ k ∧ k ≤ on) ∧ (∀ j : Int, 0 ≤ j → j < k → G1 j = OI j) ∧ (∀ j : Int, 0 ≤ j → j < k → G2 j = OJ j) ∧ (∀ j : Int, 0 ≤ j → j < k → G3 j = OW j)) ∧ lv_has ls 3 [(2, zi k), (0, .ref h0), (1, .ref o0)] ∧ va_P D vwCl [(a1, .inl (y 0, 8, .inl (cI G1))), (a2, .inl (y 0, 8, .inl (cI G2))), (a3, .inl (y 0, 8, .inl (cI G3))), (h0, .inr (1, [zi ol, zi ow, zi ot, zi oh, zi od, zi ox, zi k, .ref a1, .ref a2, .ref a3]))] H ∧ va_D A [(a1, .inl (y 0, 8, .inl (cI G1))), (a2, .inl (y 0, 8, .inl (cI G2))), (a3, .inl (y 0, 8, .inl (cI G3))), (h0, .inr (1, [zi ol, zi ow, zi ot, zi oh, zi od, zi ox, zi k, .ref a1, .ref a2, .ref a3]))] ∧ va_S A s.heap H lc) (fun x9  => match x9 with | (k, G1, G2, G3) => ((on - k).toNat)) ?_ (0, CI, CJ, CW) ⟨⟨by omega, fun j _ _ => by omega, fun j _ _ => by omega, fun j _ _ => by omega⟩, lv_sub hl [0, 1, 2] rfl, hP.sub [0, 1, 2, 3] rfl, hD.sub [0, 1, 2, 3] (by decide) rfl, hS⟩
  rintro ⟨k, G1, G2, G3⟩ H lc ls ⟨hi38, hl, hP, hD, hS⟩ ih38
  have hP : va_P D vwCl [(a1, .inl (y 0, 8, .inl (cI G1))), (a2, .inl (y 0, 8, .inl (cI G2))), (a3, .inl (y 0, 8, .inl (cI G3))), (h0, .inr (1, [zi ol, zi ow, zi ot, zi oh, zi od, zi ox, zi k, .ref a1, .ref a2, .ref a3]))] H := hP
  have hD : va_D A [(a1, .inl (y 0, 8, .inl (cI G1))), (a2, .inl (y 0, 8, .inl (cI G2))), (a3, .inl (y 0, 8, .inl (cI G3))), (h0, .inr (1, [zi ol, zi ow, zi ot, zi oh, zi od, zi ox, zi k, .ref a1, .ref a2, .ref a3]))] := hD
  have hPr := ro_now hR0 hN hS
  refine lv_iload_n hx hb dX1_copyFrom_38 rfl (lv_at hl 0 rfl) ?_
  refine lv_aload_n hx hb dX1_copyFrom_39 rfl (lv_at hl 2 rfl) ?_
  refine va_get hx hb hts hinX1 hown hK hPr 0 rfl rfl 6 (by decide) k7 (fun _ h => h) rfl dX1_copyFrom_40 ?_
  refine z_icmp_ge (tgt := 81) hx hb (by omega) (by omega) dX1_copyFrom_43 (by decide) (fun c_43 => ?_) (fun c_43 => ?_)
  ·
    have hP : va_P D vwCl [(a1, .inl (y 0, 8, .inl (cI G1))), (a2, .inl (y 0, 8, .inl (cI G2))), (a3, .inl (y 0, 8, .inl (cI G3))), (h0, .inr (1, [zi ol, zi ow, zi ot, zi oh, zi od, zi ox, zi on, .ref a1, .ref a2, .ref a3]))] H := by rw [show on = k by omega]; exact hP
    have hD : va_D A [(a1, .inl (y 0, 8, .inl (cI G1))), (a2, .inl (y 0, 8, .inl (cI G2))), (a3, .inl (y 0, 8, .inl (cI G3))), (h0, .inr (1, [zi ol, zi ow, zi ot, zi oh, zi od, zi ox, zi on, .ref a1, .ref a2, .ref a3]))] := by rw [show on = k by omega]; exact hD
    exact z_vretW hx hb hr hlocks (G1, G2, G3) rfl (by rw [show on = k by omega]; exact hi38.2) (hP.sub [3, 0, 1, 2] rfl) (hD.sub [3, 0, 1, 2] (by decide) rfl) hS dX1_copyFrom_81
  ·
    refine lv_iload_n hx hb dX1_copyFrom_46 rfl (lv_at hl 0 rfl) ?_
    refine z_bipush hx hb dX1_copyFrom_47 (by decide) ?_
    refine z_icmp_ge (tgt := 81) hx hb (by omega) (by omega) dX1_copyFrom_49 (by decide) (fun c_49 => ?_) (fun c_49 => ?_)
    ·
      have hP : va_P D vwCl [(a1, .inl (y 0, 8, .inl (cI G1))), (a2, .inl (y 0, 8, .inl (cI G2))), (a3, .inl (y 0, 8, .inl (cI G3))), (h0, .inr (1, [zi ol, zi ow, zi ot, zi oh, zi od, zi ox, zi on, .ref a1, .ref a2, .ref a3]))] H := by rw [show on = k by omega]; exact hP
      have hD : va_D A [(a1, .inl (y 0, 8, .inl (cI G1))), (a2, .inl (y 0, 8, .inl (cI G2))), (a3, .inl (y 0, 8, .inl (cI G3))), (h0, .inr (1, [zi ol, zi ow, zi ot, zi oh, zi od, zi ox, zi on, .ref a1, .ref a2, .ref a3]))] := by rw [show on = k by omega]; exact hD
      exact z_vretW hx hb hr hlocks (G1, G2, G3) rfl (by rw [show on = k by omega]; exact hi38.2) (hP.sub [3, 0, 1, 2] rfl) (hD.sub [3, 0, 1, 2] (by decide) rfl) hS dX1_copyFrom_81
    ·
      refine lv_aload_n hx hb dX1_copyFrom_52 rfl (lv_at hl 1 rfl) ?_
      refine lv_aload_n hx hb dX1_copyFrom_53 rfl (lv_at hl 2 rfl) ?_
      refine va_get hx hb hts hinX1 hown hK hPr 0 rfl rfl 7 (by decide) k8 (fun _ h => h) rfl dX1_copyFrom_54 ?_
      refine lv_iload_n hx hb dX1_copyFrom_57 rfl (lv_at hl 0 rfl) ?_
      refine z_iald hx hb hK hPr 1 0 rfl rfl (by omega) (by decide) dX1_copyFrom_58 ?_
      refine lv_aload_n hx hb dX1_copyFrom_59 rfl (lv_at hl 2 rfl) ?_
      refine va_get hx hb hts hinX1 hown hK hPr 0 rfl rfl 8 (by decide) k9 (fun _ h => h) rfl dX1_copyFrom_60 ?_
      refine lv_iload_n hx hb dX1_copyFrom_63 rfl (lv_at hl 0 rfl) ?_
      refine z_iald hx hb hK hPr 2 0 rfl rfl (by omega) (by decide) dX1_copyFrom_64 ?_
      refine lv_aload_n hx hb dX1_copyFrom_65 rfl (lv_at hl 2 rfl) ?_
      refine va_get hx hb hts hinX1 hown hK hPr 0 rfl rfl 9 (by decide) k10 (fun _ h => h) rfl dX1_copyFrom_66 ?_
      refine lv_iload_n hx hb dX1_copyFrom_69 rfl (lv_at hl 0 rfl) ?_
      refine z_iald hx hb hK hPr 3 0 rfl rfl (by omega) (by decide) dX1_copyFrom_70 ?_
      refine z_wV (As := [zi (OI k), zi (OJ k), zi (OW k)]) (rest := []) (wc := [(h0, .inr (1, [zi ol, zi ow, zi ot, zi oh, zi od, zi ox, zi k, .ref a1, .ref a2, .ref a3])), (a1, .inl (y 0, 8, .inl (cI G1))), (a2, .inl (y 0, 8, .inl (cI G2))), (a3, .inl (y 0, 8, .inl (cI G3)))]) (wrest := []) hC (c_X1_lay l D y h0 a1 a2 a3 ol ow ot oh od ox k G1 G2 G3 (OI k) (OJ k) (OW k) (by first | assumption | omega) _) (cwV 3 hts gX1_copyFrom_X1_lay rfl rfl rfl (by decide +kernel) ⟨Nat.le_of_ble_eq_true rfl, Nat.le_of_ble_eq_true rfl⟩) hG hP hD hS hA [3, 0, 1, 2] [] rfl rfl (by decide) (by decide) (by decide) va_P_nil ro_nil 0 rfl rfl rfl hl.1 rfl (Nat.le_of_ble_eq_true rfl) dX1_copyFrom_71 ⟨Nat.le_of_ble_eq_true rfl, Nat.le_of_ble_eq_true rfl⟩ (fun u9 H locs hw_2 hP hD hS => ?_)
      have hw_2 : True := hw_2
      have hP : va_P D vwCl [(h0, .inr (1, [zi ol, zi ow, zi ot, zi oh, zi od, zi ox, zi (k + 1), .ref a1, .ref a2, .ref a3])), (a1, .inl (y 0, 8, .inl (cI (iu G1 k (OI k))))), (a2, .inl (y 0, 8, .inl (cI (iu G2 k (OJ k))))), (a3, .inl (y 0, 8, .inl (cI (iu G3 k (OW k)))))] H := hP
      have hD : va_D A [(h0, .inr (1, [zi ol, zi ow, zi ot, zi oh, zi od, zi ox, zi (k + 1), .ref a1, .ref a2, .ref a3])), (a1, .inl (y 0, 8, .inl (cI (iu G1 k (OI k))))), (a2, .inl (y 0, 8, .inl (cI (iu G2 k (OJ k))))), (a3, .inl (y 0, 8, .inl (cI (iu G3 k (OW k)))))] := hD
      have hPr := ro_now hR0 hN hS
      refine lv_pop hx hb dX1_copyFrom_74 rfl ?_
      refine z_iinc (k := 0) (lv' := [(2, zi (k + 1)), (0, .ref h0), (1, .ref o0)]) hx hb dX1_copyFrom_75 hl rfl (by decide) rfl (fun ls hl => ?_)
      refine lv_goto (tgt := 38) hx hb dX1_copyFrom_78 (by decide) ?_
      exact ih38 (k + 1, iu G1 k (OI k), iu G2 k (OJ k), iu G3 k (OW k)) _ _ _ (by first | (dsimp only; omega) | omega) ⟨⟨by omega, iu_fill hi38.2.1, iu_fill hi38.2.2.1, iu_fill hi38.2.2.2⟩, lv_sub hl [0, 1, 2] rfl, hP.sub [1, 2, 3, 0] rfl, hD.sub [1, 2, 3, 0] (by decide) rfl, hS⟩
set_option maxHeartbeats 8000000 in
set_option maxRecDepth 100000 in
theorem c_X4_find_no (l : Launch) (D : va_G) (y : Nat → ClassId) (f0 : Nat) (fa : Nat) (fn : Int) (fr : Nat → Option Nat) (qb : Int) (hq : rI qb ∧ 0 ≤ fn ∧ fn ≤ 6 ∧ ¬ (0 ≤ qb ∧ qb < fn)) : Met l yX4_find wsX4_find ({ frames := 0, cells := 0, slots := 0, locals := 0 } : Room) (pPc D y [(f0, .inr (4, [.ref fa, zi fn])), (fa, .inl (y 3, 6, .inr (.inr (.inr (.inr fr)))))] [.ref f0, zi qb]) (qV (.null)) 0 0 (fun _ => False) := by
  refine P_of (own := RX4) (cc := cX4_find) (maxL := 2) (ret := some (.object "BoatsOfPaper$Boat")) (by decide) rfl rfl (Nat.le_of_ble_eq_true rfl) (fun p e s m below meth c ls hx hb hr hC hlocks hPr hG hl => ?_)
  have hC0 := hC
  obtain ⟨-, -, hml, hown, hts⟩ := hC0
  have hK := hG.1
  have hinX4 : ∀ w ∈ wsX40, w ∈ wsX4_find := fun _ h => List.mem_cons_of_mem _ (List.mem_append_right _ h)
  have k1 := hts (.fieldLink RX4 17 "BoatsOfPaper$Fleet" "size" "I") (List.mem_of_getElem? (i := 1) rfl)
  have k2 := hts (.fieldLink RX4 11 "BoatsOfPaper$Fleet" "boats" "[LBoatsOfPaper$Boat;") (List.mem_of_getElem? (i := 2) rfl)
  have hl : lv_has ls 2 [(0, .ref f0), (1, zi qb)] := hl
  refine lv_iload_n hx hb dX4_find_0 rfl (lv_at hl 1 rfl) ?_
  refine z_if_lt (tgt := 21) hx hb (by omega) dX4_find_1 (by decide) (fun c_1 => ?_) (fun c_1 => ?_)
  ·
    refine lv_null hx hb dX4_find_21 ?_
    exact z_aret0 hx hb hr hlocks (Or.inl rfl) (rfl) dX4_find_22
  ·
    refine lv_iload_n hx hb dX4_find_4 rfl (lv_at hl 1 rfl) ?_
    refine lv_aload_n hx hb dX4_find_5 rfl (lv_at hl 0 rfl) ?_
    refine va_get hx hb hts hinX4 hown hK hPr 0 rfl rfl 1 (by decide) k1 (fun _ h => h) rfl dX4_find_6 ?_
    refine z_icmp_ge (tgt := 21) hx hb (by omega) (by omega) dX4_find_9 (by decide) (fun c_9 => ?_) (fun c_9 => ?_)
    ·
      refine lv_null hx hb dX4_find_21 ?_
      exact z_aret0 hx hb hr hlocks (Or.inl rfl) (rfl) dX4_find_22
    ·
      refine lv_iload_n hx hb dX4_find_12 rfl (lv_at hl 1 rfl) ?_
      refine lv_aload_n hx hb dX4_find_13 rfl (lv_at hl 0 rfl) ?_
      refine va_get hx hb hts hinX4 hown hK hPr 0 rfl rfl 0 (by decide) k2 (fun _ h => h) rfl dX4_find_14 ?_
      refine va_alen (v := iI 6) hx hb hK hPr 1 3 rfl rfl rfl dX4_find_17 ?_
      refine z_icmp_lt (tgt := 23) hx hb (by omega) (by omega) dX4_find_18 (by decide) (fun c_18 => ?_) (fun c_18 => ?_)
      · exfalso; omega
      ·
        refine lv_null hx hb dX4_find_21 ?_
        exact z_aret0 hx hb hr hlocks (Or.inl rfl) (rfl) dX4_find_22
set_option maxHeartbeats 8000000 in
set_option maxRecDepth 100000 in
theorem c_X4_find (l : Launch) (D : va_G) (y : Nat → ClassId) (f0 : Nat) (fa : Nat) (fn : Int) (fr : Nat → Option Nat) (qb : Int) (h0 : Nat) (hq : rI qb ∧ 0 ≤ fn ∧ fn ≤ 6 ∧ 0 ≤ qb ∧ qb < fn) (hfr : fr qb.toNat = some h0) : Met l yX4_find wsX4_find ({ frames := 0, cells := 0, slots := 0, locals := 0 } : Room) (pPc D y [(f0, .inr (4, [.ref fa, zi fn])), (fa, .inl (y 3, 6, .inr (.inr (.inr (.inr fr)))))] [.ref f0, zi qb]) (qV (.ref h0)) 0 0 (fun _ => False) := by
  refine P_of (own := RX4) (cc := cX4_find) (maxL := 2) (ret := some (.object "BoatsOfPaper$Boat")) (by decide) rfl rfl (Nat.le_of_ble_eq_true rfl) (fun p e s m below meth c ls hx hb hr hC hlocks hPr hG hl => ?_)
  have hC0 := hC
  obtain ⟨-, -, hml, hown, hts⟩ := hC0
  have hK := hG.1
  have hinX4 : ∀ w ∈ wsX40, w ∈ wsX4_find := fun _ h => List.mem_cons_of_mem _ (List.mem_append_right _ h)
  have k1 := hts (.fieldLink RX4 17 "BoatsOfPaper$Fleet" "size" "I") (List.mem_of_getElem? (i := 1) rfl)
  have k2 := hts (.fieldLink RX4 11 "BoatsOfPaper$Fleet" "boats" "[LBoatsOfPaper$Boat;") (List.mem_of_getElem? (i := 2) rfl)
  have hl : lv_has ls 2 [(0, .ref f0), (1, zi qb)] := hl
  refine lv_iload_n hx hb dX4_find_0 rfl (lv_at hl 1 rfl) ?_
  refine z_if_lt (tgt := 21) hx hb (by omega) dX4_find_1 (by decide) (fun c_1 => ?_) (fun c_1 => ?_)
  · exfalso; omega
  ·
    refine lv_iload_n hx hb dX4_find_4 rfl (lv_at hl 1 rfl) ?_
    refine lv_aload_n hx hb dX4_find_5 rfl (lv_at hl 0 rfl) ?_
    refine va_get hx hb hts hinX4 hown hK hPr 0 rfl rfl 1 (by decide) k1 (fun _ h => h) rfl dX4_find_6 ?_
    refine z_icmp_ge (tgt := 21) hx hb (by omega) (by omega) dX4_find_9 (by decide) (fun c_9 => ?_) (fun c_9 => ?_)
    · exfalso; omega
    ·
      refine lv_iload_n hx hb dX4_find_12 rfl (lv_at hl 1 rfl) ?_
      refine lv_aload_n hx hb dX4_find_13 rfl (lv_at hl 0 rfl) ?_
      refine va_get hx hb hts hinX4 hown hK hPr 0 rfl rfl 0 (by decide) k2 (fun _ h => h) rfl dX4_find_14 ?_
      refine va_alen (v := iI 6) hx hb hK hPr 1 3 rfl rfl rfl dX4_find_17 ?_
      refine z_icmp_lt (tgt := 23) hx hb (by omega) (by omega) dX4_find_18 (by decide) (fun c_18 => ?_) (fun c_18 => ?_)
      ·
        refine lv_aload_n hx hb dX4_find_23 rfl (lv_at hl 0 rfl) ?_
        refine va_get hx hb hts hinX4 hown hK hPr 0 rfl rfl 0 (by decide) k2 (fun _ h => h) rfl dX4_find_24 ?_
        refine lv_iload_n hx hb dX4_find_27 rfl (lv_at hl 1 rfl) ?_
        refine va_aldq hx hb hK hPr 1 3 rfl rfl (iI_in (by omega) (by decide)) dX4_find_28 ?_
        rw [iI_cl (i := qb) (by omega), hfr]
        show W _ _ _ _ _ _ _ _ _ _ _ _ _ _ _ (F0 _ _ _ (.ref h0 :: []))
        exact z_aret0 hx hb hr hlocks (Or.inr ⟨_, rfl⟩) (rfl) dX4_find_29
      · exfalso; omega
set_option maxHeartbeats 8000000 in
set_option maxRecDepth 100000 in
theorem c_X4_launch_full (l : Launch) (D : va_G) (y : Nat → ClassId) (f0 : Nat) (fa : Nat) (fn : Int) (fr : Nat → Option Nat) (xl : Int) (xw : Int) (xt : Int) (xh : Int) (hq : fn = 6) : Met l yX4_launch wsX4_launch ({ frames := 0, cells := 0, slots := 0, locals := 0 } : Room) (pPc D y [(f0, .inr (4, [.ref fa, zi fn])), (fa, .inl (y 3, 6, .inr (.inr (.inr (.inr fr)))))] [.ref f0, zi xl, zi xw, zi xt, zi xh]) (qV (zi (-4))) 0 0 (fun _ => False) := by
  refine P_of (own := RX4) (cc := cX4_launch) (maxL := 5) (ret := some .int) (by decide) rfl rfl (Nat.le_of_ble_eq_true rfl) (fun p e s m below meth c ls hx hb hr hC hlocks hPr hG hl => ?_)
  have hC0 := hC
  obtain ⟨-, -, hml, hown, hts⟩ := hC0
  have hK := hG.1
  have hinX4 : ∀ w ∈ wsX40, w ∈ wsX4_launch := fun _ h => List.mem_cons_of_mem _ (List.mem_append_left _ (List.mem_append_right _ h))
  have k1 := hts (.fieldLink RX4 17 "BoatsOfPaper$Fleet" "size" "I") (List.mem_of_getElem? (i := 1) rfl)
  have k2 := hts (.fieldLink RX4 11 "BoatsOfPaper$Fleet" "boats" "[LBoatsOfPaper$Boat;") (List.mem_of_getElem? (i := 2) rfl)
  have hl : lv_has ls 5 [(0, .ref f0), (1, zi xl), (2, zi xw), (3, zi xt), (4, zi xh)] := hl
  refine lv_aload_n hx hb dX4_launch_0 rfl (lv_at hl 0 rfl) ?_
  refine va_get hx hb hts hinX4 hown hK hPr 0 rfl rfl 1 (by decide) k1 (fun _ h => h) rfl dX4_launch_1 ?_
  refine lv_aload_n hx hb dX4_launch_4 rfl (lv_at hl 0 rfl) ?_
  refine va_get hx hb hts hinX4 hown hK hPr 0 rfl rfl 0 (by decide) k2 (fun _ h => h) rfl dX4_launch_5 ?_
  refine va_alen (v := iI 6) hx hb hK hPr 1 3 rfl rfl rfl dX4_launch_8 ?_
  refine z_icmp_lt (tgt := 15) hx hb (by omega) (by omega) dX4_launch_9 (by decide) (fun c_9 => ?_) (fun c_9 => ?_)
  · exfalso; omega
  ·
    refine z_bipush hx hb dX4_launch_12 (by decide) ?_
    exact z_iret0 hx hb hr hlocks (rfl) dX4_launch_14
set_option maxHeartbeats 8000000 in
set_option maxRecDepth 100000 in
theorem c_X4_launch (l : Launch) (D : va_G) (y : Nat → ClassId) (f0 : Nat) (fa : Nat) (fn : Int) (fr : Nat → Option Nat) (h0 : Nat) (a1 : Nat) (a2 : Nat) (a3 : Nat) (bl : Int) (bw : Int) (bt : Int) (bh : Int) (bd : Int) (bx : Int) (bn : Int) (xl : Int) (xw : Int) (xt : Int) (xh : Int) (hq : 0 ≤ fn ∧ fn < 6) (hfr : fr fn.toNat = some h0) (sz : Nat) : Met l yX4_launch wsX4_launch ({ frames := 1, cells := 0, slots := 0, locals := 24 } : Room) (wPc D y [(fa, .inl (y 3, 6, .inr (.inr (.inr (.inr fr)))))] [(f0, .inr (4, [.ref fa, zi fn])), (h0, .inr (1, [zi bl, zi bw, zi bt, zi bh, zi bd, zi bx, zi bn, .ref a1, .ref a2, .ref a3]))] sz [.ref f0, zi xl, zi xw, zi xt, zi xh]) (wQ D (fun (_ : Unit) => some (zi fn)) (fun (_ : Unit) => True) (fun (_ : Unit) => [(f0, .inr (4, [.ref fa, zi (fn + 1)])), (h0, .inr (1, [zi xl, zi xw, zi xt, zi xh, zi 10, zi 0, zi 0, .ref a1, .ref a2, .ref a3]))]) (va_A [(f0, .inr (4, [.ref fa, zi fn])), (h0, .inr (1, [zi bl, zi bw, zi bt, zi bh, zi bd, zi bx, zi bn, .ref a1, .ref a2, .ref a3]))] sz)) 0 0 (va_A [(f0, .inr (4, [.ref fa, zi fn])), (h0, .inr (1, [zi bl, zi bw, zi bt, zi bh, zi bd, zi bx, zi bn, .ref a1, .ref a2, .ref a3]))] sz) := by
  refine W_of (own := RX4) (cc := cX4_launch) (maxL := 5) (ret := some .int) (by decide) rfl rfl (Nat.le_of_ble_eq_true rfl) (fun p e s m below meth c ls A hx hb hr hC hlocks hin0 hR0 hN hP hD hA hG hl => ?_)
  have hC0 := hC
  obtain ⟨-, -, hml, hown, hts⟩ := hC0
  have hK := hG.1
  have hS : va_S A s.heap s.heap [] := va_S.rf
  have hPr := hR0
  have hinX4 : ∀ w ∈ wsX40, w ∈ wsX4_launch := fun _ h => List.mem_cons_of_mem _ (List.mem_append_left _ (List.mem_append_right _ h))
  have k1 := hts (.fieldLink RX4 17 "BoatsOfPaper$Fleet" "size" "I") (List.mem_of_getElem? (i := 1) rfl)
  have k2 := hts (.fieldLink RX4 11 "BoatsOfPaper$Fleet" "boats" "[LBoatsOfPaper$Boat;") (List.mem_of_getElem? (i := 2) rfl)
  have hl : lv_has ls 5 [(0, .ref f0), (1, zi xl), (2, zi xw), (3, zi xt), (4, zi xh)] := hl
  refine lv_aload_n hx hb dX4_launch_0 rfl (lv_at hl 0 rfl) ?_
  refine va_get hx hb hts hinX4 hown hK hP 0 rfl rfl 1 (by decide) k1 (fun _ h => h) rfl dX4_launch_1 ?_
  refine lv_aload_n hx hb dX4_launch_4 rfl (lv_at hl 0 rfl) ?_
  refine va_get hx hb hts hinX4 hown hK hP 0 rfl rfl 0 (by decide) k2 (fun _ h => h) rfl dX4_launch_5 ?_
  refine va_alen (v := iI 6) hx hb hK hPr 0 3 rfl rfl rfl dX4_launch_8 ?_
  refine z_icmp_lt (tgt := 15) hx hb (by omega) (by omega) dX4_launch_9 (by decide) (fun c_9 => ?_) (fun c_9 => ?_)
  ·
    refine lv_aload_n hx hb dX4_launch_15 rfl (lv_at hl 0 rfl) ?_
    refine va_get hx hb hts hinX4 hown hK hP 0 rfl rfl 0 (by decide) k2 (fun _ h => h) rfl dX4_launch_16 ?_
    refine lv_aload_n hx hb dX4_launch_19 rfl (lv_at hl 0 rfl) ?_
    refine va_get hx hb hts hinX4 hown hK hP 0 rfl rfl 1 (by decide) k1 (fun _ h => h) rfl dX4_launch_20 ?_
    refine va_aldq hx hb hK hPr 0 3 rfl rfl (iI_in (by omega) (by decide)) dX4_launch_23 ?_
    rw [iI_cl (i := fn) (by omega), hfr]
    show W _ _ _ _ _ _ _ _ _ _ _ _ _ _ _ (F0 _ _ _ (.ref h0 :: []))
    refine lv_iload_n hx hb dX4_launch_24 rfl (lv_at hl 1 rfl) ?_
    refine lv_iload_n hx hb dX4_launch_25 rfl (lv_at hl 2 rfl) ?_
    refine lv_iload_n hx hb dX4_launch_26 rfl (lv_at hl 3 rfl) ?_
    refine lv_iload hx hb dX4_launch_27 (lv_at hl 4 rfl) ?_
    refine z_wV (As := [zi xl, zi xw, zi xt, zi xh]) (rest := []) (wc := [(h0, .inr (1, [zi bl, zi bw, zi bt, zi bh, zi bd, zi bx, zi bn, .ref a1, .ref a2, .ref a3]))]) (wrest := [(f0, .inr (4, [.ref fa, zi fn]))]) hC (c_X1_fold l D y h0 a1 a2 a3 bl bw bt bh bd bx bn xl xw xt xh  _) (cwV 4 hts gX4_launch_X1_fold rfl rfl rfl (by decide +kernel) ⟨Nat.le_of_ble_eq_true rfl, Nat.le_of_ble_eq_true rfl⟩) hG hP hD hS hA [1] [0] rfl rfl (by decide) (by decide) (by decide) va_P_nil ro_nil 0 rfl rfl rfl hl.1 rfl (Nat.le_of_ble_eq_true rfl) dX4_launch_29 ⟨Nat.le_of_ble_eq_true rfl, Nat.le_of_ble_eq_true rfl⟩ (fun u9 H locs hw_1 hP hD hS => ?_)
    have hw_1 : True := hw_1
    have hP : va_P D vwCl [(f0, .inr (4, [.ref fa, zi fn])), (h0, .inr (1, [zi xl, zi xw, zi xt, zi xh, zi 10, zi 0, zi 0, .ref a1, .ref a2, .ref a3]))] H := hP
    have hD : va_D A [(f0, .inr (4, [.ref fa, zi fn])), (h0, .inr (1, [zi xl, zi xw, zi xt, zi xh, zi 10, zi 0, zi 0, .ref a1, .ref a2, .ref a3]))] := hD
    have hPr := ro_now hR0 hN hS
    refine lv_aload_n hx hb dX4_launch_32 rfl (lv_at hl 0 rfl) ?_
    refine lv_dup hx hb dX4_launch_33 rfl ?_
    refine va_get hx hb hts hinX4 hown hK hP 0 rfl rfl 1 (by decide) k1 (fun _ h => h) rfl dX4_launch_34 ?_
    refine z_iconst hx hb dX4_launch_37 ?_
    refine z_iadd hx hb dX4_launch_38 ?_
    refine va_put hx hb hts hinX4 tyX4 tyX4_ok nmX4 hown hK hP hD hS 0 rfl rfl 1 (by decide) k1 (fun _ h => h) rfl (tyX4_ok 1 (by decide)) rfl rfl (Nat.le_of_ble_eq_true rfl) dX4_launch_39 (fun H locs hP hD hS => ?_)
    have hP : va_P D vwCl [(f0, .inr (4, [.ref fa, zi (fn + 1)])), (h0, .inr (1, [zi xl, zi xw, zi xt, zi xh, zi 10, zi 0, zi 0, .ref a1, .ref a2, .ref a3]))] H := hP
    have hD : va_D A [(f0, .inr (4, [.ref fa, zi (fn + 1)])), (h0, .inr (1, [zi xl, zi xw, zi xt, zi xh, zi 10, zi 0, zi 0, .ref a1, .ref a2, .ref a3]))] := hD
    have hPr := ro_now hR0 hN hS
    refine lv_aload_n hx hb dX4_launch_42 rfl (lv_at hl 0 rfl) ?_
    refine va_get hx hb hts hinX4 hown hK hP 0 rfl rfl 1 (by decide) k1 (fun _ h => h) rfl dX4_launch_43 ?_
    refine z_iconst hx hb dX4_launch_46 ?_
    refine z_isub hx hb dX4_launch_47 ?_
    exact z_iretW hx hb hr hlocks () (by show some (zi fn) = _; rw [show fn + 1 - 1 = fn by omega]) (trivial) (hP.sub [0, 1] rfl) (hD.sub [0, 1] (by decide) rfl) hS dX4_launch_48
  · exfalso; omega
