set_option maxHeartbeats 8000000 in
set_option maxRecDepth 100000 in
theorem c_X2_wouldLeave (l : Launch) (D : va_G) (y : Nat → ClassId) (c0 : Nat) (co : Nat) (ct : Nat) (cs : Nat) (ck : Int) (cf : Int) (OP : Int → Int) (TM : Int → Int) (SH : Int → Int) (la : Int) (cq : Int) (hOP : ∀ j : Int, 0 ≤ j → j < 3 → OP j = 0 ∨ OP j = 1) (hTM : ∀ j : Int, 0 ≤ j → j < 3 → 0 ≤ TM j ∧ TM j ≤ 108) (hSH : ∀ j : Int, 0 ≤ j → j < 3 → 0 ≤ SH j ∧ SH j ≤ 9) (hcq : 0 ≤ cq ∧ cq ≤ 9) (hla : 0 ≤ la ∧ la < 3) : Met l yX2_wouldLeave wsX2_wouldLeave ({ frames := 0, cells := 0, slots := 0, locals := 0 } : Room) (pPc D y [(c0, .inr (2, [.ref co, .ref ct, .ref cs, zi ck, zi cf])), (co, .inl (y 2, 3, .inl (cI OP))), (ct, .inl (y 0, 3, .inl (cI TM))), (cs, .inl (y 0, 3, .inl (cI SH)))] [.ref c0, zi la, zi cq]) (qV (zi (bI (wlP OP TM SH cq la)))) 0 0 (fun _ => False) := by
  refine P_of (own := RX2) (cc := cX2_wouldLeave) (maxL := 5) (ret := some .boolean) (by decide) rfl rfl (Nat.le_of_ble_eq_true rfl) (fun p e s m below meth c ls hx hb hr hC hlocks hPr hG hl => ?_)
  have hC0 := hC
  obtain ⟨-, -, hml, hown, hts⟩ := hC0
  have hK := hG.1
  have hinX2 : ∀ w ∈ wsX20, w ∈ wsX2_wouldLeave := fun _ h => List.mem_cons_of_mem _ (List.mem_append_right _ h)
  have k1 := hts (.fieldLink RX2 15 "BoatsOfPaper$Crowd" "times" "[I") (List.mem_of_getElem? (i := 1) rfl)
  have k2 := hts (.fieldLink RX2 19 "BoatsOfPaper$Crowd" "shares" "[I") (List.mem_of_getElem? (i := 2) rfl)
  have k3 := hts (.fieldLink RX2 9 "BoatsOfPaper$Crowd" "isOpen" "[Z") (List.mem_of_getElem? (i := 3) rfl)
  have hl : lv_has ls 5 [(0, .ref c0), (1, zi la), (2, zi cq)] := hl
  have b1 := hTM la hla.1 hla.2
  have b2 := hSH la hla.1 hla.2
  have b3 := c_bd (x := SH la - 1) hcq (by omega)
  refine lv_aload_n hx hb dX2_wouldLeave_0 rfl (lv_at hl 0 rfl) ?_
  refine va_get hx hb hts hinX2 hown hK hPr 0 rfl rfl 1 (by decide) k1 (fun _ h => h) rfl dX2_wouldLeave_1 ?_
  refine lv_iload_n hx hb dX2_wouldLeave_4 rfl (lv_at hl 1 rfl) ?_
  refine z_iald hx hb hK hPr 2 0 rfl rfl (by omega) (by decide) dX2_wouldLeave_5 ?_
  refine lv_iload_n hx hb dX2_wouldLeave_6 rfl (lv_at hl 2 rfl) ?_
  refine lv_aload_n hx hb dX2_wouldLeave_7 rfl (lv_at hl 0 rfl) ?_
  refine va_get hx hb hts hinX2 hown hK hPr 0 rfl rfl 2 (by decide) k2 (fun _ h => h) rfl dX2_wouldLeave_8 ?_
  refine lv_iload_n hx hb dX2_wouldLeave_11 rfl (lv_at hl 1 rfl) ?_
  refine z_iald hx hb hK hPr 3 0 rfl rfl (by omega) (by decide) dX2_wouldLeave_12 ?_
  refine z_iconst hx hb dX2_wouldLeave_13 ?_
  refine z_isub hx hb dX2_wouldLeave_14 ?_
  refine z_imul hx hb dX2_wouldLeave_15 ?_
  refine z_iadd hx hb dX2_wouldLeave_16 ?_
  refine lv_istore_n (lv' := [(3, zi ((TM la) + (cq * ((SH la) - 1)))), (0, .ref c0), (1, zi la), (2, zi cq)]) hx hb dX2_wouldLeave_17 rfl hl (by decide) rfl (fun ls hl => ?_)
  refine z_iconst hx hb dX2_wouldLeave_18 ?_
  refine lv_istore (lv' := [(4, zi 0), (3, zi ((TM la) + (cq * ((SH la) - 1)))), (0, .ref c0), (1, zi la), (2, zi cq)]) hx hb dX2_wouldLeave_19 hl (by decide) rfl (fun ls hl => ?_)
  refine z_loop (σ := Int) (fun k H lc ls => ((0 ≤ k ∧ k ≤ 3) ∧ ∀ o : Int, 0 ≤ o → o < k → ¬ wl1 OP TM SH cq la o) ∧ lv_has ls 5 [(4, zi k), (3, zi ((TM la) + (cq * ((SH la) - 1)))), (0, .ref c0), (1, zi la), (2, zi cq)] ∧ H = s.heap ∧ lc = []) (fun k  => ((3 - k).toNat)) ?_ 0 ⟨⟨by omega, fun o _ _ => by omega⟩, lv_sub hl [0, 1, 2, 3, 4] rfl, rfl, rfl⟩
  rintro k H lc ls ⟨hi21, hl, rfl, rfl⟩ ih21
  refine lv_iload hx hb dX2_wouldLeave_21 (lv_at hl 0 rfl) ?_
  refine z_iconst hx hb dX2_wouldLeave_23 ?_
  refine z_icmp_ge (tgt := 72) hx hb (by omega) (by omega) dX2_wouldLeave_24 (by decide) (fun c_24 => ?_) (fun c_24 => ?_)
  ·
    refine z_iconst hx hb dX2_wouldLeave_72 ?_
    exact z_zret0 hx hb hr hlocks (by omega) ((bI_f (fun q => q.elim (hi21.2 0 (by omega) (by omega)) (fun q => q.elim (hi21.2 1 (by omega) (by omega)) (hi21.2 2 (by omega) (by omega))))).symm) dX2_wouldLeave_73
  ·
    refine lv_iload hx hb dX2_wouldLeave_27 (lv_at hl 0 rfl) ?_
    refine lv_iload_n hx hb dX2_wouldLeave_29 rfl (lv_at hl 3 rfl) ?_
    refine z_icmp_eq (tgt := 66) hx hb (by omega) (by omega) dX2_wouldLeave_30 (by decide) (fun c_30 => ?_) (fun c_30 => ?_)
    ·
      refine z_iinc (k := 0) (lv' := [(4, zi (k + 1)), (3, zi ((TM la) + (cq * ((SH la) - 1)))), (0, .ref c0), (1, zi la), (2, zi cq)]) hx hb dX2_wouldLeave_66 hl rfl (by decide) rfl (fun ls hl => ?_)
      refine lv_goto (tgt := 21) hx hb dX2_wouldLeave_69 (by decide) ?_
      exact ih21 (k + 1) _ _ _ (by first | (dsimp only; omega) | omega) ⟨⟨by omega, fun o o0 o1 => if q : o = k then (fun z => by rw [q] at z; exact (by omega : ¬ wl1 OP TM SH cq la k) z) else hi21.2 o o0 (by omega)⟩, lv_sub hl [0, 1, 2, 3, 4] rfl, rfl, rfl⟩
    ·
      have b4 := hTM k (by omega) (by omega)
      have b5 := hSH k (by omega) (by omega)
      have b6 := c_bd (x := SH k) hcq (by omega)
      have b7 := hOP k (by omega) (by omega)
      refine lv_aload_n hx hb dX2_wouldLeave_33 rfl (lv_at hl 2 rfl) ?_
      refine va_get hx hb hts hinX2 hown hK hPr 0 rfl rfl 0 (by decide) k3 (fun _ h => h) rfl dX2_wouldLeave_34 ?_
      refine lv_iload hx hb dX2_wouldLeave_37 (lv_at hl 0 rfl) ?_
      refine z_zald hx hb hK hPr 1 2 rfl rfl (by omega) (by decide) dX2_wouldLeave_39 ?_
      refine z_if_eq (tgt := 66) hx hb (by omega) dX2_wouldLeave_40 (by decide) (fun c_40 => ?_) (fun c_40 => ?_)
      ·
        refine z_iinc (k := 0) (lv' := [(4, zi (k + 1)), (3, zi ((TM la) + (cq * ((SH la) - 1)))), (0, .ref c0), (1, zi la), (2, zi cq)]) hx hb dX2_wouldLeave_66 hl rfl (by decide) rfl (fun ls hl => ?_)
        refine lv_goto (tgt := 21) hx hb dX2_wouldLeave_69 (by decide) ?_
        exact ih21 (k + 1) _ _ _ (by first | (dsimp only; omega) | omega) ⟨⟨by omega, fun o o0 o1 => if q : o = k then (fun z => by rw [q] at z; exact (by omega : ¬ wl1 OP TM SH cq la k) z) else hi21.2 o o0 (by omega)⟩, lv_sub hl [0, 1, 2, 3, 4] rfl, rfl, rfl⟩
      ·
        refine lv_aload_n hx hb dX2_wouldLeave_43 rfl (lv_at hl 2 rfl) ?_
        refine va_get hx hb hts hinX2 hown hK hPr 0 rfl rfl 1 (by decide) k1 (fun _ h => h) rfl dX2_wouldLeave_44 ?_
        refine lv_iload hx hb dX2_wouldLeave_47 (lv_at hl 0 rfl) ?_
        refine z_iald hx hb hK hPr 2 0 rfl rfl (by omega) (by decide) dX2_wouldLeave_49 ?_
        refine lv_iload_n hx hb dX2_wouldLeave_50 rfl (lv_at hl 4 rfl) ?_
        refine lv_aload_n hx hb dX2_wouldLeave_51 rfl (lv_at hl 2 rfl) ?_
        refine va_get hx hb hts hinX2 hown hK hPr 0 rfl rfl 2 (by decide) k2 (fun _ h => h) rfl dX2_wouldLeave_52 ?_
        refine lv_iload hx hb dX2_wouldLeave_55 (lv_at hl 0 rfl) ?_
        refine z_iald hx hb hK hPr 3 0 rfl rfl (by omega) (by decide) dX2_wouldLeave_57 ?_
        refine z_imul hx hb dX2_wouldLeave_58 ?_
        refine z_iadd hx hb dX2_wouldLeave_59 ?_
        refine lv_iload_n hx hb dX2_wouldLeave_60 rfl (lv_at hl 1 rfl) ?_
        refine z_icmp_ge (tgt := 66) hx hb (by omega) (by omega) dX2_wouldLeave_61 (by decide) (fun c_61 => ?_) (fun c_61 => ?_)
        ·
          refine z_iinc (k := 0) (lv' := [(4, zi (k + 1)), (3, zi ((TM la) + (cq * ((SH la) - 1)))), (0, .ref c0), (1, zi la), (2, zi cq)]) hx hb dX2_wouldLeave_66 hl rfl (by decide) rfl (fun ls hl => ?_)
          refine lv_goto (tgt := 21) hx hb dX2_wouldLeave_69 (by decide) ?_
          exact ih21 (k + 1) _ _ _ (by first | (dsimp only; omega) | omega) ⟨⟨by omega, fun o o0 o1 => if q : o = k then (fun z => by rw [q] at z; exact (by omega : ¬ wl1 OP TM SH cq la k) z) else hi21.2 o o0 (by omega)⟩, lv_sub hl [0, 1, 2, 3, 4] rfl, rfl, rfl⟩
        ·
          refine z_iconst hx hb dX2_wouldLeave_64 ?_
          exact z_zret0 hx hb hr hlocks (by omega) ((bI_t (wl_mk (k := k) (by omega) ⟨by omega, by omega, by omega⟩)).symm) dX2_wouldLeave_65
set_option maxHeartbeats 8000000 in
set_option maxRecDepth 100000 in
theorem c_X2_countIfAtRest (l : Launch) (D : va_G) (y : Nat → ClassId) (c0 : Nat) (co : Nat) (ct : Nat) (cs : Nat) (ck : Int) (cf : Int) (OP : Int → Int) (TM : Int → Int) (SH : Int → Int) (cq : Int) (hOP : ∀ j : Int, 0 ≤ j → j < 3 → OP j = 0 ∨ OP j = 1) (hTM : ∀ j : Int, 0 ≤ j → j < 3 → 0 ≤ TM j ∧ TM j ≤ 108) (hSH : ∀ j : Int, 0 ≤ j → j < 3 → 0 ≤ SH j ∧ SH j ≤ 9) (hcq : 0 ≤ cq ∧ cq ≤ 9) (hcf : rI cf) (sz : Nat) : Met l yX2_countIfAtRest wsX2_countIfAtRest ({ frames := 1, cells := 0, slots := 0, locals := 24 } : Room) (wPc D y [] [(c0, .inr (2, [.ref co, .ref ct, .ref cs, zi ck, zi cf])), (co, .inl (y 2, 3, .inl (cI OP))), (ct, .inl (y 0, 3, .inl (cI TM))), (cs, .inl (y 0, 3, .inl (cI SH)))] sz [.ref c0, zi cq]) (wQ D (fun (x9 : Int × Int) => match x9 with | (ck2, cf2) => none) (fun (x9 : Int × Int) => match x9 with | (ck2, cf2) => ck2 = ck + bI (arP OP TM SH cq) ∧ cf2 = (if arP OP TM SH cq ∧ cf = -9 then 100 * SH 0 + 10 * SH 1 + SH 2 else cf)) (fun (x9 : Int × Int) => match x9 with | (ck2, cf2) => [(c0, .inr (2, [.ref co, .ref ct, .ref cs, zi ck2, zi cf2])), (co, .inl (y 2, 3, .inl (cI OP))), (ct, .inl (y 0, 3, .inl (cI TM))), (cs, .inl (y 0, 3, .inl (cI SH)))]) (va_A [(c0, .inr (2, [.ref co, .ref ct, .ref cs, zi ck, zi cf])), (co, .inl (y 2, 3, .inl (cI OP))), (ct, .inl (y 0, 3, .inl (cI TM))), (cs, .inl (y 0, 3, .inl (cI SH)))] sz)) 0 0 (va_A [(c0, .inr (2, [.ref co, .ref ct, .ref cs, zi ck, zi cf])), (co, .inl (y 2, 3, .inl (cI OP))), (ct, .inl (y 0, 3, .inl (cI TM))), (cs, .inl (y 0, 3, .inl (cI SH)))] sz) := by
  refine W_of (own := RX2) (cc := cX2_countIfAtRest) (maxL := 3) (ret := none) (by decide) rfl rfl (Nat.le_of_ble_eq_true rfl) (fun p e s m below meth c ls A hx hb hr hC hlocks hin0 hR0 hN hP hD hA hG hl => ?_)
  have hC0 := hC
  obtain ⟨-, -, hml, hown, hts⟩ := hC0
  have hK := hG.1
  have hS : va_S A s.heap s.heap [] := va_S.rf
  have hPr := hR0
  have hinX2 : ∀ w ∈ wsX20, w ∈ wsX2_countIfAtRest := fun _ h => List.mem_cons_of_mem _ (List.mem_append_right _ h)
  have k1 := hts (.fieldLink RX2 19 "BoatsOfPaper$Crowd" "shares" "[I") (List.mem_of_getElem? (i := 1) rfl)
  have k2 := hts (.fieldLink RX2 9 "BoatsOfPaper$Crowd" "isOpen" "[Z") (List.mem_of_getElem? (i := 2) rfl)
  have k3 := hts (.fieldLink RX2 22 "BoatsOfPaper$Crowd" "restCount" "I") (List.mem_of_getElem? (i := 3) rfl)
  have k4 := hts (.fieldLink RX2 26 "BoatsOfPaper$Crowd" "firstRest" "I") (List.mem_of_getElem? (i := 4) rfl)
  have hl : lv_has ls 3 [(0, .ref c0), (1, zi cq)] := hl
  refine z_iconst hx hb dX2_countIfAtRest_0 ?_
  refine lv_istore_n (lv' := [(2, zi 0), (0, .ref c0), (1, zi cq)]) hx hb dX2_countIfAtRest_1 rfl hl (by decide) rfl (fun ls hl => ?_)
  refine z_loop (σ := Int) (fun k H lc ls => ((0 ≤ k ∧ k ≤ 3) ∧ ∀ j : Int, 0 ≤ j → j < k → ar1 OP TM SH cq j) ∧ lv_has ls 3 [(2, zi k), (0, .ref c0), (1, zi cq)] ∧ va_P D vwCl [(c0, .inr (2, [.ref co, .ref ct, .ref cs, zi ck, zi cf])), (co, .inl (y 2, 3, .inl (cI OP))), (ct, .inl (y 0, 3, .inl (cI TM))), (cs, .inl (y 0, 3, .inl (cI SH)))] H ∧ va_D A [(c0, .inr (2, [.ref co, .ref ct, .ref cs, zi ck, zi cf])), (co, .inl (y 2, 3, .inl (cI OP))), (ct, .inl (y 0, 3, .inl (cI TM))), (cs, .inl (y 0, 3, .inl (cI SH)))] ∧ va_S A s.heap H lc) (fun k  => ((3 - k).toNat)) ?_ 0 ⟨⟨by omega, fun o _ _ => by omega⟩, lv_sub hl [0, 1, 2] rfl, hP.sub [0, 1, 2, 3] rfl, hD.sub [0, 1, 2, 3] (by decide) rfl, hS⟩
  rintro k H lc ls ⟨hi2, hl, hP, hD, hS⟩ ih2
  have hP : va_P D vwCl [(c0, .inr (2, [.ref co, .ref ct, .ref cs, zi ck, zi cf])), (co, .inl (y 2, 3, .inl (cI OP))), (ct, .inl (y 0, 3, .inl (cI TM))), (cs, .inl (y 0, 3, .inl (cI SH)))] H := hP
  have hD : va_D A [(c0, .inr (2, [.ref co, .ref ct, .ref cs, zi ck, zi cf])), (co, .inl (y 2, 3, .inl (cI OP))), (ct, .inl (y 0, 3, .inl (cI TM))), (cs, .inl (y 0, 3, .inl (cI SH)))] := hD
  refine lv_iload_n hx hb dX2_countIfAtRest_2 rfl (lv_at hl 0 rfl) ?_
  refine z_iconst hx hb dX2_countIfAtRest_3 ?_
  refine z_icmp_ge (tgt := 41) hx hb (by omega) (by omega) dX2_countIfAtRest_4 (by decide) (fun c_4 => ?_) (fun c_4 => ?_)
  ·
    have yar : arP OP TM SH cq := arP_q.mpr ⟨hi2.2 0 (by omega) (by omega), hi2.2 1 (by omega) (by omega), hi2.2 2 (by omega) (by omega)⟩
    refine lv_aload_n hx hb dX2_countIfAtRest_41 rfl (lv_at hl 1 rfl) ?_
    refine lv_dup hx hb dX2_countIfAtRest_42 rfl ?_
    refine va_get hx hb hts hinX2 hown hK hP 0 rfl rfl 3 (by decide) k3 (fun _ h => h) rfl dX2_countIfAtRest_43 ?_
    refine z_iconst hx hb dX2_countIfAtRest_46 ?_
    refine z_iadd hx hb dX2_countIfAtRest_47 ?_
    refine va_put hx hb hts hinX2 tyX2 tyX2_ok nmX2 hown hK hP hD hS 0 rfl rfl 3 (by decide) k3 (fun _ h => h) rfl (tyX2_ok 3 (by decide)) rfl rfl (Nat.le_of_ble_eq_true rfl) dX2_countIfAtRest_48 (fun H locs hP hD hS => ?_)
    have hP : va_P D vwCl [(c0, .inr (2, [.ref co, .ref ct, .ref cs, zi (ck + 1), zi cf])), (co, .inl (y 2, 3, .inl (cI OP))), (ct, .inl (y 0, 3, .inl (cI TM))), (cs, .inl (y 0, 3, .inl (cI SH)))] H := hP
    have hD : va_D A [(c0, .inr (2, [.ref co, .ref ct, .ref cs, zi (ck + 1), zi cf])), (co, .inl (y 2, 3, .inl (cI OP))), (ct, .inl (y 0, 3, .inl (cI TM))), (cs, .inl (y 0, 3, .inl (cI SH)))] := hD
    refine lv_aload_n hx hb dX2_countIfAtRest_51 rfl (lv_at hl 1 rfl) ?_
    refine va_get hx hb hts hinX2 hown hK hP 0 rfl rfl 4 (by decide) k4 (fun _ h => h) rfl dX2_countIfAtRest_52 ?_
    refine z_bipush hx hb dX2_countIfAtRest_55 (by decide) ?_
    refine z_icmp_ne (tgt := 90) hx hb hcf (by omega) dX2_countIfAtRest_57 (by decide) (fun c_57 => ?_) (fun c_57 => ?_)
    ·
      exact z_vretW hx hb hr hlocks (ck + 1, cf) rfl (⟨by rw [bI_t yar], by first | exact (if_pos ⟨yar, by omega⟩).symm | exact (if_neg (fun q => c_57 q.2)).symm⟩) (hP.sub [0, 1, 2, 3] rfl) (hD.sub [0, 1, 2, 3] (by decide) rfl) hS dX2_countIfAtRest_90
    ·
      refine lv_aload_n hx hb dX2_countIfAtRest_60 rfl (lv_at hl 1 rfl) ?_
      refine z_bipush hx hb dX2_countIfAtRest_61 (by decide) ?_
      refine lv_aload_n hx hb dX2_countIfAtRest_63 rfl (lv_at hl 1 rfl) ?_
      refine va_get hx hb hts hinX2 hown hK hP 0 rfl rfl 2 (by decide) k1 (fun _ h => h) rfl dX2_countIfAtRest_64 ?_
      refine z_iconst hx hb dX2_countIfAtRest_67 ?_
      refine z_iald hx hb hK hP 3 0 rfl rfl (by omega) (by decide) dX2_countIfAtRest_68 ?_
      refine z_imul hx hb dX2_countIfAtRest_69 ?_
      refine z_bipush hx hb dX2_countIfAtRest_70 (by decide) ?_
      refine lv_aload_n hx hb dX2_countIfAtRest_72 rfl (lv_at hl 1 rfl) ?_
      refine va_get hx hb hts hinX2 hown hK hP 0 rfl rfl 2 (by decide) k1 (fun _ h => h) rfl dX2_countIfAtRest_73 ?_
      refine z_iconst hx hb dX2_countIfAtRest_76 ?_
      refine z_iald hx hb hK hP 3 0 rfl rfl (by omega) (by decide) dX2_countIfAtRest_77 ?_
      refine z_imul hx hb dX2_countIfAtRest_78 ?_
      refine z_iadd hx hb dX2_countIfAtRest_79 ?_
      refine lv_aload_n hx hb dX2_countIfAtRest_80 rfl (lv_at hl 1 rfl) ?_
      refine va_get hx hb hts hinX2 hown hK hP 0 rfl rfl 2 (by decide) k1 (fun _ h => h) rfl dX2_countIfAtRest_81 ?_
      refine z_iconst hx hb dX2_countIfAtRest_84 ?_
      refine z_iald hx hb hK hP 3 0 rfl rfl (by omega) (by decide) dX2_countIfAtRest_85 ?_
      refine z_iadd hx hb dX2_countIfAtRest_86 ?_
      refine va_put hx hb hts hinX2 tyX2 tyX2_ok nmX2 hown hK hP hD hS 0 rfl rfl 4 (by decide) k4 (fun _ h => h) rfl (tyX2_ok 4 (by decide)) rfl rfl (Nat.le_of_ble_eq_true rfl) dX2_countIfAtRest_87 (fun H locs hP hD hS => ?_)
      have hP : va_P D vwCl [(c0, .inr (2, [.ref co, .ref ct, .ref cs, zi (ck + 1), zi (((100 * (SH 0)) + (10 * (SH 1))) + (SH 2))])), (co, .inl (y 2, 3, .inl (cI OP))), (ct, .inl (y 0, 3, .inl (cI TM))), (cs, .inl (y 0, 3, .inl (cI SH)))] H := hP
      have hD : va_D A [(c0, .inr (2, [.ref co, .ref ct, .ref cs, zi (ck + 1), zi (((100 * (SH 0)) + (10 * (SH 1))) + (SH 2))])), (co, .inl (y 2, 3, .inl (cI OP))), (ct, .inl (y 0, 3, .inl (cI TM))), (cs, .inl (y 0, 3, .inl (cI SH)))] := hD
      exact z_vretW hx hb hr hlocks (ck + 1, ((100 * (SH 0)) + (10 * (SH 1))) + (SH 2)) rfl (⟨by rw [bI_t yar], by first | exact (if_pos ⟨yar, by omega⟩).symm | exact (if_neg (fun q => c_57 q.2)).symm⟩) (hP.sub [0, 1, 2, 3] rfl) (hD.sub [0, 1, 2, 3] (by decide) rfl) hS dX2_countIfAtRest_90
  ·
    have b1 := hSH k (by omega) (by omega)
    have b2 := hOP k (by omega) (by omega)
    refine lv_aload_n hx hb dX2_countIfAtRest_7 rfl (lv_at hl 1 rfl) ?_
    refine va_get hx hb hts hinX2 hown hK hP 0 rfl rfl 2 (by decide) k1 (fun _ h => h) rfl dX2_countIfAtRest_8 ?_
    refine lv_iload_n hx hb dX2_countIfAtRest_11 rfl (lv_at hl 0 rfl) ?_
    refine z_iald hx hb hK hP 3 0 rfl rfl (by omega) (by decide) dX2_countIfAtRest_12 ?_
    refine z_if_le (tgt := 35) hx hb (by omega) dX2_countIfAtRest_13 (by decide) (fun c_13 => ?_) (fun c_13 => ?_)
    ·
      refine z_iinc (k := 0) (lv' := [(2, zi (k + 1)), (0, .ref c0), (1, zi cq)]) hx hb dX2_countIfAtRest_35 hl rfl (by decide) rfl (fun ls hl => ?_)
      refine lv_goto (tgt := 2) hx hb dX2_countIfAtRest_38 (by decide) ?_
      exact ih2 (k + 1) _ _ _ (by first | (dsimp only; omega) | omega) ⟨⟨by omega, fun o o0 o1 => if q : o = k then (by rw [q]; intro z; first | (exfalso; omega) | exact ⟨by omega, c_31⟩) else hi2.2 o o0 (by omega)⟩, lv_sub hl [0, 1, 2] rfl, hP.sub [0, 1, 2, 3] rfl, hD.sub [0, 1, 2, 3] (by decide) rfl, hS⟩
    ·
      refine lv_aload_n hx hb dX2_countIfAtRest_16 rfl (lv_at hl 1 rfl) ?_
      refine va_get hx hb hts hinX2 hown hK hP 0 rfl rfl 0 (by decide) k2 (fun _ h => h) rfl dX2_countIfAtRest_17 ?_
      refine lv_iload_n hx hb dX2_countIfAtRest_20 rfl (lv_at hl 0 rfl) ?_
      refine z_zald hx hb hK hP 1 2 rfl rfl (by omega) (by decide) dX2_countIfAtRest_21 ?_
      refine z_if_eq (tgt := 34) hx hb (by omega) dX2_countIfAtRest_22 (by decide) (fun c_22 => ?_) (fun c_22 => ?_)
      ·
        have nar : ¬ arP OP TM SH cq := fun q => by
            rw [arP_q] at q
            have z : ar1 OP TM SH cq k := in3 q.1 q.2.1 q.2.2 k hi2.1.1 (Int.lt_of_not_ge c_4)
            have z2 := z (Int.lt_of_not_ge c_13)
            first | exact absurd c_22 z2.1 | exact absurd c_31 z2.2
        exact z_vretW hx hb hr hlocks (ck, cf) rfl (⟨by rw [bI_f nar]; omega, (if_neg (fun q => nar q.1)).symm⟩) (hP.sub [0, 1, 2, 3] rfl) (hD.sub [0, 1, 2, 3] (by decide) rfl) hS dX2_countIfAtRest_34
      ·
        refine lv_aload_n hx hb dX2_countIfAtRest_25 rfl (lv_at hl 1 rfl) ?_
        refine lv_iload_n hx hb dX2_countIfAtRest_26 rfl (lv_at hl 0 rfl) ?_
        refine lv_iload_n hx hb dX2_countIfAtRest_27 rfl (lv_at hl 2 rfl) ?_
        refine z_pV (As := [zi k, zi cq]) (rest := []) hC (c_X2_wouldLeave l D y c0 co ct cs ck cf OP TM SH k cq (by first | assumption | omega) (by first | assumption | omega) (by first | assumption | omega) (by first | assumption | omega) (by first | assumption | omega)) (cwV 2 hts gX2_countIfAtRest_X2_wouldLeave rfl rfl rfl (by decide +kernel) ⟨Nat.le_of_ble_eq_true rfl, Nat.le_of_ble_eq_true rfl⟩) hG (hP.sub (ws' := [(c0, .inr (2, [.ref co, .ref ct, .ref cs, zi ck, zi cf])), (co, .inl (y 2, 3, .inl (cI OP))), (ct, .inl (y 0, 3, .inl (cI TM))), (cs, .inl (y 0, 3, .inl (cI SH)))]) [0, 1, 2, 3] rfl) 0 rfl rfl rfl hl.1 rfl (Nat.le_of_ble_eq_true rfl) dX2_countIfAtRest_28 ⟨Nat.le_of_ble_eq_true rfl, Nat.le_of_ble_eq_true rfl⟩ ?_
        refine z_ifB_eq (tgt := 35) hx hb dX2_countIfAtRest_31 (by decide) (fun c_31 => ?_) (fun c_31 => ?_)
        ·
          refine z_iinc (k := 0) (lv' := [(2, zi (k + 1)), (0, .ref c0), (1, zi cq)]) hx hb dX2_countIfAtRest_35 hl rfl (by decide) rfl (fun ls hl => ?_)
          refine lv_goto (tgt := 2) hx hb dX2_countIfAtRest_38 (by decide) ?_
          exact ih2 (k + 1) _ _ _ (by first | (dsimp only; omega) | omega) ⟨⟨by omega, fun o o0 o1 => if q : o = k then (by rw [q]; intro z; first | (exfalso; omega) | exact ⟨by omega, c_31⟩) else hi2.2 o o0 (by omega)⟩, lv_sub hl [0, 1, 2] rfl, hP.sub [0, 1, 2, 3] rfl, hD.sub [0, 1, 2, 3] (by decide) rfl, hS⟩
        ·
          have nar : ¬ arP OP TM SH cq := fun q => by
              rw [arP_q] at q
              have z : ar1 OP TM SH cq k := in3 q.1 q.2.1 q.2.2 k hi2.1.1 (Int.lt_of_not_ge c_4)
              have z2 := z (Int.lt_of_not_ge c_13)
              first | exact absurd c_22 z2.1 | exact absurd c_31 z2.2
          exact z_vretW hx hb hr hlocks (ck, cf) rfl (⟨by rw [bI_f nar]; omega, (if_neg (fun q => nar q.1)).symm⟩) (hP.sub [0, 1, 2, 3] rfl) (hD.sub [0, 1, 2, 3] (by decide) rfl) hS dX2_countIfAtRest_34
set_option maxHeartbeats 8000000 in
set_option maxRecDepth 100000 in
theorem c_X2_splitAll (l : Launch) (D : va_G) (y : Nat → ClassId) (c0 : Nat) (co : Nat) (ct : Nat) (cs : Nat) (ck : Int) (cf : Int) (OP : Int → Int) (TM : Int → Int) (SH : Int → Int) (nq : Int) (cq : Int) (hOP : ∀ j : Int, 0 ≤ j → j < 3 → OP j = 0 ∨ OP j = 1) (hTM : ∀ j : Int, 0 ≤ j → j < 3 → 0 ≤ TM j ∧ TM j ≤ 108) (hcq : 0 ≤ cq ∧ cq ≤ 9) (hnq : 1 ≤ nq ∧ nq ≤ 9) (sz : Nat) : Met l yX2_splitAll wsX2_splitAll ({ frames := 2, cells := 0, slots := 0, locals := 46 } : Room) (wPc D y [] [(c0, .inr (2, [.ref co, .ref ct, .ref cs, zi ck, zi cf])), (co, .inl (y 2, 3, .inl (cI OP))), (ct, .inl (y 0, 3, .inl (cI TM))), (cs, .inl (y 0, 3, .inl (cI SH)))] sz [.ref c0, zi nq, zi cq]) (wQ D (fun (x9 : Int × Int × (Int → Int)) => match x9 with | (ck2, cf2, SH2) => none) (fun (x9 : Int × Int × (Int → Int)) => match x9 with | (ck2, cf2, SH2) => (ck2, cf2) = spT (rsP OP TM nq cq) nq) (fun (x9 : Int × Int × (Int → Int)) => match x9 with | (ck2, cf2, SH2) => [(c0, .inr (2, [.ref co, .ref ct, .ref cs, zi ck2, zi cf2])), (co, .inl (y 2, 3, .inl (cI OP))), (ct, .inl (y 0, 3, .inl (cI TM))), (cs, .inl (y 0, 3, .inl (cI SH2)))]) (va_A [(c0, .inr (2, [.ref co, .ref ct, .ref cs, zi ck, zi cf])), (co, .inl (y 2, 3, .inl (cI OP))), (ct, .inl (y 0, 3, .inl (cI TM))), (cs, .inl (y 0, 3, .inl (cI SH)))] sz)) 0 0 (va_A [(c0, .inr (2, [.ref co, .ref ct, .ref cs, zi ck, zi cf])), (co, .inl (y 2, 3, .inl (cI OP))), (ct, .inl (y 0, 3, .inl (cI TM))), (cs, .inl (y 0, 3, .inl (cI SH)))] sz) := by
  refine W_of (own := RX2) (cc := cX2_splitAll) (maxL := 5) (ret := none) (by decide) rfl rfl (Nat.le_of_ble_eq_true rfl) (fun p e s m below meth c ls A hx hb hr hC hlocks hin0 hR0 hN hP hD hA hG hl => ?_)
  have hC0 := hC
  obtain ⟨-, -, hml, hown, hts⟩ := hC0
  have hK := hG.1
  have hS : va_S A s.heap s.heap [] := va_S.rf
  have hPr := hR0
  have hinX2 : ∀ w ∈ wsX20, w ∈ wsX2_splitAll := fun _ h => List.mem_cons_of_mem _ (List.mem_append_right _ h)
  have k1 := hts (.fieldLink RX2 22 "BoatsOfPaper$Crowd" "restCount" "I") (List.mem_of_getElem? (i := 1) rfl)
  have k2 := hts (.fieldLink RX2 26 "BoatsOfPaper$Crowd" "firstRest" "I") (List.mem_of_getElem? (i := 2) rfl)
  have k3 := hts (.fieldLink RX2 19 "BoatsOfPaper$Crowd" "shares" "[I") (List.mem_of_getElem? (i := 3) rfl)
  have hl : lv_has ls 5 [(0, .ref c0), (1, zi nq), (2, zi cq)] := hl
  refine lv_aload_n hx hb dX2_splitAll_0 rfl (lv_at hl 0 rfl) ?_
  refine z_iconst hx hb dX2_splitAll_1 ?_
  refine va_put hx hb hts hinX2 tyX2 tyX2_ok nmX2 hown hK hP hD hS 0 rfl rfl 3 (by decide) k1 (fun _ h => h) rfl (tyX2_ok 3 (by decide)) rfl rfl (Nat.le_of_ble_eq_true rfl) dX2_splitAll_2 (fun H locs hP hD hS => ?_)
  have hP : va_P D vwCl [(c0, .inr (2, [.ref co, .ref ct, .ref cs, zi 0, zi cf])), (co, .inl (y 2, 3, .inl (cI OP))), (ct, .inl (y 0, 3, .inl (cI TM))), (cs, .inl (y 0, 3, .inl (cI SH)))] H := hP
  have hD : va_D A [(c0, .inr (2, [.ref co, .ref ct, .ref cs, zi 0, zi cf])), (co, .inl (y 2, 3, .inl (cI OP))), (ct, .inl (y 0, 3, .inl (cI TM))), (cs, .inl (y 0, 3, .inl (cI SH)))] := hD
  refine lv_aload_n hx hb dX2_splitAll_5 rfl (lv_at hl 0 rfl) ?_
  refine z_bipush hx hb dX2_splitAll_6 (by decide) ?_
  refine va_put hx hb hts hinX2 tyX2 tyX2_ok nmX2 hown hK hP hD hS 0 rfl rfl 4 (by decide) k2 (fun _ h => h) rfl (tyX2_ok 4 (by decide)) rfl rfl (Nat.le_of_ble_eq_true rfl) dX2_splitAll_8 (fun H locs hP hD hS => ?_)
  have hP : va_P D vwCl [(c0, .inr (2, [.ref co, .ref ct, .ref cs, zi 0, zi (-9)])), (co, .inl (y 2, 3, .inl (cI OP))), (ct, .inl (y 0, 3, .inl (cI TM))), (cs, .inl (y 0, 3, .inl (cI SH)))] H := hP
  have hD : va_D A [(c0, .inr (2, [.ref co, .ref ct, .ref cs, zi 0, zi (-9)])), (co, .inl (y 2, 3, .inl (cI OP))), (ct, .inl (y 0, 3, .inl (cI TM))), (cs, .inl (y 0, 3, .inl (cI SH)))] := hD
  refine lv_iload_n hx hb dX2_splitAll_11 rfl (lv_at hl 1 rfl) ?_
  refine lv_istore_n (lv' := [(3, zi nq), (0, .ref c0), (1, zi nq), (2, zi cq)]) hx hb dX2_splitAll_12 rfl hl (by decide) rfl (fun ls hl => ?_)
  refine z_loop (σ := Int × Int × Int × (Int → Int)) (fun x9 H lc ls => match x9 with | (a, vk, vf, S1) => ((-1 ≤ a ∧ a ≤ nq) ∧ rI vf ∧ spO (rsP OP TM nq cq) nq (a + 1).toNat (vk, vf) = spT (rsP OP TM nq cq) nq) ∧ lv_has ls 5 [(3, zi a), (0, .ref c0), (1, zi nq), (2, zi cq)] ∧ va_P D vwCl [(c0, .inr (2, [.ref co, .ref ct, .ref cs, zi vk, zi vf])), (co, .inl (y 2, 3, .inl (cI OP))), (ct, .inl (y 0, 3, .inl (cI TM))), (cs, .inl (y 0, 3, .inl (cI S1)))] H ∧ va_D A [(c0, .inr (2, [.ref co, .ref ct, .ref cs, zi vk, zi vf])), (co, .inl (y 2, 3, .inl (cI OP))), (ct, .inl (y 0, 3, .inl (cI TM))), (cs, .inl (y 0, 3, .inl (cI S1)))] ∧ va_S A s.heap H lc) (fun x9  => match x9 with | (a, vk, vf, S1) => ((a + 1).toNat)) ?_ (nq, 0, (-9), SH) ⟨⟨by omega, by omega, rfl⟩, lv_sub hl [0, 1, 2, 3] rfl, hP.sub [0, 1, 2, 3] rfl, hD.sub [0, 1, 2, 3] (by decide) rfl, hS⟩
  rintro ⟨a, vk, vf, S1⟩ H lc ls ⟨hi13, hl, hP, hD, hS⟩ ih13
  have hP : va_P D vwCl [(c0, .inr (2, [.ref co, .ref ct, .ref cs, zi vk, zi vf])), (co, .inl (y 2, 3, .inl (cI OP))), (ct, .inl (y 0, 3, .inl (cI TM))), (cs, .inl (y 0, 3, .inl (cI S1)))] H := hP
  have hD : va_D A [(c0, .inr (2, [.ref co, .ref ct, .ref cs, zi vk, zi vf])), (co, .inl (y 2, 3, .inl (cI OP))), (ct, .inl (y 0, 3, .inl (cI TM))), (cs, .inl (y 0, 3, .inl (cI S1)))] := hD
  obtain ⟨j1, j2, j3⟩ := hi13
  refine lv_iload_n hx hb dX2_splitAll_13 rfl (lv_at hl 0 rfl) ?_
  refine z_if_lt (tgt := 71) hx hb (by omega) dX2_splitAll_14 (by decide) (fun c_14 => ?_) (fun c_14 => ?_)
  ·
    exact z_vretW hx hb hr hlocks (vk, vf, S1) rfl (by rw [show a + 1 = 0 by omega] at j3; exact j3) (hP.sub [0, 1, 2, 3] rfl) (hD.sub [0, 1, 2, 3] (by decide) rfl) hS dX2_splitAll_71
  ·
    refine lv_iload_n hx hb dX2_splitAll_17 rfl (lv_at hl 2 rfl) ?_
    refine lv_iload_n hx hb dX2_splitAll_18 rfl (lv_at hl 0 rfl) ?_
    refine z_isub hx hb dX2_splitAll_19 ?_
    refine lv_istore (lv' := [(4, zi (nq - a)), (3, zi a), (0, .ref c0), (1, zi nq), (2, zi cq)]) hx hb dX2_splitAll_20 hl (by decide) rfl (fun ls hl => ?_)
    refine z_loop (σ := Int × Int × Int × (Int → Int)) (fun x9 H lc ls => match x9 with | (b9, vk, vf, S1) => ((-1 ≤ b9 ∧ b9 ≤ nq - a) ∧ rI vf ∧ spO (rsP OP TM nq cq) nq a.toNat (spI (rsP OP TM nq cq) nq a (b9 + 1).toNat (vk, vf)) = spT (rsP OP TM nq cq) nq) ∧ lv_has ls 5 [(4, zi b9), (3, zi a), (0, .ref c0), (1, zi nq), (2, zi cq)] ∧ va_P D vwCl [(c0, .inr (2, [.ref co, .ref ct, .ref cs, zi vk, zi vf])), (co, .inl (y 2, 3, .inl (cI OP))), (ct, .inl (y 0, 3, .inl (cI TM))), (cs, .inl (y 0, 3, .inl (cI S1)))] H ∧ va_D A [(c0, .inr (2, [.ref co, .ref ct, .ref cs, zi vk, zi vf])), (co, .inl (y 2, 3, .inl (cI OP))), (ct, .inl (y 0, 3, .inl (cI TM))), (cs, .inl (y 0, 3, .inl (cI S1)))] ∧ va_S A s.heap H lc) (fun x9  => match x9 with | (b9, vk, vf, S1) => ((b9 + 1).toNat)) ?_ (nq - a, vk, vf, S1) ⟨⟨by omega, j2, by rw [← j3, spO_s _ _ (by omega)]⟩, lv_sub hl [0, 1, 2, 3, 4] rfl, hP.sub [0, 1, 2, 3] rfl, hD.sub [0, 1, 2, 3] (by decide) rfl, hS⟩
    rintro ⟨b9, vk, vf, S1⟩ H lc ls ⟨hi22, hl, hP, hD, hS⟩ ih22
    have hP : va_P D vwCl [(c0, .inr (2, [.ref co, .ref ct, .ref cs, zi vk, zi vf])), (co, .inl (y 2, 3, .inl (cI OP))), (ct, .inl (y 0, 3, .inl (cI TM))), (cs, .inl (y 0, 3, .inl (cI S1)))] H := hP
    have hD : va_D A [(c0, .inr (2, [.ref co, .ref ct, .ref cs, zi vk, zi vf])), (co, .inl (y 2, 3, .inl (cI OP))), (ct, .inl (y 0, 3, .inl (cI TM))), (cs, .inl (y 0, 3, .inl (cI S1)))] := hD
    obtain ⟨i1, i2, i3⟩ := hi22
    refine lv_iload hx hb dX2_splitAll_22 (lv_at hl 0 rfl) ?_
    refine z_if_lt (tgt := 65) hx hb (by omega) dX2_splitAll_24 (by decide) (fun c_24 => ?_) (fun c_24 => ?_)
    ·
      refine z_iinc (k := 1) (lv' := [(3, zi (a + (-1))), (4, zi b9), (0, .ref c0), (1, zi nq), (2, zi cq)]) hx hb dX2_splitAll_65 hl rfl (by decide) rfl (fun ls hl => ?_)
      refine lv_goto (tgt := 13) hx hb dX2_splitAll_68 (by decide) ?_
      exact ih13 (a + (-1), vk, vf, S1) _ _ _ (by first | (dsimp only; omega) | omega) ⟨⟨by omega, i2, by rw [show a + (-1) + 1 = a by omega]; rw [show b9 + 1 = 0 by omega] at i3; exact i3⟩, lv_sub hl [0, 2, 3, 4] rfl, hP.sub [0, 1, 2, 3] rfl, hD.sub [0, 1, 2, 3] (by decide) rfl, hS⟩
    ·
      refine lv_aload_n hx hb dX2_splitAll_27 rfl (lv_at hl 2 rfl) ?_
      refine va_get hx hb hts hinX2 hown hK hP 0 rfl rfl 2 (by decide) k3 (fun _ h => h) rfl dX2_splitAll_28 ?_
      refine z_iconst hx hb dX2_splitAll_31 ?_
      refine lv_iload_n hx hb dX2_splitAll_32 rfl (lv_at hl 1 rfl) ?_
      refine z_iast hx hb hK hP hD hS 3 0 rfl rfl (by omega) (by decide) dX2_splitAll_33 (fun H locs hP hD hS => ?_)
      have hP : va_P D vwCl [(c0, .inr (2, [.ref co, .ref ct, .ref cs, zi vk, zi vf])), (co, .inl (y 2, 3, .inl (cI OP))), (ct, .inl (y 0, 3, .inl (cI TM))), (cs, .inl (y 0, 3, .inl (cI (iu S1 0 a))))] H := hP
      have hD : va_D A [(c0, .inr (2, [.ref co, .ref ct, .ref cs, zi vk, zi vf])), (co, .inl (y 2, 3, .inl (cI OP))), (ct, .inl (y 0, 3, .inl (cI TM))), (cs, .inl (y 0, 3, .inl (cI (iu S1 0 a))))] := hD
      refine lv_aload_n hx hb dX2_splitAll_34 rfl (lv_at hl 2 rfl) ?_
      refine va_get hx hb hts hinX2 hown hK hP 0 rfl rfl 2 (by decide) k3 (fun _ h => h) rfl dX2_splitAll_35 ?_
      refine z_iconst hx hb dX2_splitAll_38 ?_
      refine lv_iload hx hb dX2_splitAll_39 (lv_at hl 0 rfl) ?_
      refine z_iast hx hb hK hP hD hS 3 0 rfl rfl (by omega) (by decide) dX2_splitAll_41 (fun H locs hP hD hS => ?_)
      have hP : va_P D vwCl [(c0, .inr (2, [.ref co, .ref ct, .ref cs, zi vk, zi vf])), (co, .inl (y 2, 3, .inl (cI OP))), (ct, .inl (y 0, 3, .inl (cI TM))), (cs, .inl (y 0, 3, .inl (cI (iu (iu S1 0 a) 1 b9))))] H := hP
      have hD : va_D A [(c0, .inr (2, [.ref co, .ref ct, .ref cs, zi vk, zi vf])), (co, .inl (y 2, 3, .inl (cI OP))), (ct, .inl (y 0, 3, .inl (cI TM))), (cs, .inl (y 0, 3, .inl (cI (iu (iu S1 0 a) 1 b9))))] := hD
      refine lv_aload_n hx hb dX2_splitAll_42 rfl (lv_at hl 2 rfl) ?_
      refine va_get hx hb hts hinX2 hown hK hP 0 rfl rfl 2 (by decide) k3 (fun _ h => h) rfl dX2_splitAll_43 ?_
      refine z_iconst hx hb dX2_splitAll_46 ?_
      refine lv_iload_n hx hb dX2_splitAll_47 rfl (lv_at hl 3 rfl) ?_
      refine lv_iload_n hx hb dX2_splitAll_48 rfl (lv_at hl 1 rfl) ?_
      refine z_isub hx hb dX2_splitAll_49 ?_
      refine lv_iload hx hb dX2_splitAll_50 (lv_at hl 0 rfl) ?_
      refine z_isub hx hb dX2_splitAll_52 ?_
      refine z_iast hx hb hK hP hD hS 3 0 rfl rfl (by omega) (by decide) dX2_splitAll_53 (fun H locs hP hD hS => ?_)
      have hP : va_P D vwCl [(c0, .inr (2, [.ref co, .ref ct, .ref cs, zi vk, zi vf])), (co, .inl (y 2, 3, .inl (cI OP))), (ct, .inl (y 0, 3, .inl (cI TM))), (cs, .inl (y 0, 3, .inl (cI (iu (iu (iu S1 0 a) 1 b9) 2 ((nq - a) - b9)))))] H := hP
      have hD : va_D A [(c0, .inr (2, [.ref co, .ref ct, .ref cs, zi vk, zi vf])), (co, .inl (y 2, 3, .inl (cI OP))), (ct, .inl (y 0, 3, .inl (cI TM))), (cs, .inl (y 0, 3, .inl (cI (iu (iu (iu S1 0 a) 1 b9) 2 ((nq - a) - b9)))))] := hD
      refine lv_aload_n hx hb dX2_splitAll_54 rfl (lv_at hl 2 rfl) ?_
      refine lv_iload_n hx hb dX2_splitAll_55 rfl (lv_at hl 4 rfl) ?_
      refine z_wV (As := [zi cq]) (rest := []) (wc := [(c0, .inr (2, [.ref co, .ref ct, .ref cs, zi vk, zi vf])), (co, .inl (y 2, 3, .inl (cI OP))), (ct, .inl (y 0, 3, .inl (cI TM))), (cs, .inl (y 0, 3, .inl (cI (iu (iu (iu S1 0 a) 1 b9) 2 ((nq - a) - b9)))))]) (wrest := []) hC (c_X2_countIfAtRest l D y c0 co ct cs vk vf OP TM (iu (iu (iu S1 0 a) 1 b9) 2 ((nq - a) - b9)) cq (by first | assumption | omega) (by first | assumption | omega) (in3 (by rw [sh_0]; omega) (by rw [sh_1]; omega) (by rw [sh_2]; omega)) (by first | assumption | omega) i2 _) (cwV 1 hts gX2_splitAll_X2_countIfAtRest rfl rfl rfl (by decide +kernel) ⟨Nat.le_of_ble_eq_true rfl, Nat.le_of_ble_eq_true rfl⟩) hG hP hD hS hA [0, 1, 2, 3] [] rfl rfl (by decide) (by decide) (by decide) va_P_nil ro_nil 0 rfl rfl rfl hl.1 rfl (Nat.le_of_ble_eq_true rfl) dX2_splitAll_56 ⟨Nat.le_of_ble_eq_true rfl, Nat.le_of_ble_eq_true rfl⟩ (fun u9 H locs hw_3 hP hD hS => ?_)
      obtain ⟨vk2, vf2⟩ := u9
      have hw_3 : vk2 = vk + bI (arP OP TM (iu (iu (iu S1 0 a) 1 b9) 2 ((nq - a) - b9)) cq) ∧ vf2 = (if arP OP TM (iu (iu (iu S1 0 a) 1 b9) 2 ((nq - a) - b9)) cq ∧ vf = -9 then 100 * (iu (iu (iu S1 0 a) 1 b9) 2 ((nq - a) - b9)) 0 + 10 * (iu (iu (iu S1 0 a) 1 b9) 2 ((nq - a) - b9)) 1 + (iu (iu (iu S1 0 a) 1 b9) 2 ((nq - a) - b9)) 2 else vf) := hw_3
      have hP : va_P D vwCl [(c0, .inr (2, [.ref co, .ref ct, .ref cs, zi vk2, zi vf2])), (co, .inl (y 2, 3, .inl (cI OP))), (ct, .inl (y 0, 3, .inl (cI TM))), (cs, .inl (y 0, 3, .inl (cI (iu (iu (iu S1 0 a) 1 b9) 2 ((nq - a) - b9)))))] H := hP
      have hD : va_D A [(c0, .inr (2, [.ref co, .ref ct, .ref cs, zi vk2, zi vf2])), (co, .inl (y 2, 3, .inl (cI OP))), (ct, .inl (y 0, 3, .inl (cI TM))), (cs, .inl (y 0, 3, .inl (cI (iu (iu (iu S1 0 a) 1 b9) 2 ((nq - a) - b9)))))] := hD
      rw [sh_0, sh_1, sh_2] at hw_3
      have ea := arP_c (OP := OP) (TM := TM) (c := cq) (S := iu (iu (iu S1 0 a) 1 b9) 2 (nq - a - b9)) (S' := shF nq a b9) (by rw [sh_0]; rfl) (by rw [sh_1]; rfl) (by rw [sh_2]; rfl)
      have er : rsP OP TM nq cq a b9 = true ↔ arP OP TM (iu (iu (iu S1 0 a) 1 b9) 2 (nq - a - b9)) cq := (by unfold rsP; exact ea.symm)
      have r1 : (if rsP OP TM nq cq a b9 = true then (vk + 1, if vf = -9 then 100 * a + 10 * b9 + (nq - a - b9) else vf) else (vk, vf)) = (vk2, vf2) := (by
          by_cases q : arP OP TM (iu (iu (iu S1 0 a) 1 b9) 2 (nq - a - b9)) cq
          · rw [if_pos (er.mpr q), hw_3.1, hw_3.2, bI_t q]
            by_cases q2 : vf = -9
            · rw [if_pos q2, if_pos ⟨q, q2⟩]
            · rw [if_neg q2, if_neg (fun z => q2 z.2)]
          · rw [if_neg (fun z => q (er.mp z)), hw_3.1, hw_3.2, bI_f q, if_neg (fun z => q z.1), Int.add_zero])
      have r2 : rI vf2 := (by rw [hw_3.2]; split <;> omega)
      refine z_iinc (k := 0) (lv' := [(4, zi (b9 + (-1))), (3, zi a), (0, .ref c0), (1, zi nq), (2, zi cq)]) hx hb dX2_splitAll_59 hl rfl (by decide) rfl (fun ls hl => ?_)
      refine lv_goto (tgt := 22) hx hb dX2_splitAll_62 (by decide) ?_
      exact ih22 (b9 + (-1), vk2, vf2, (iu (iu (iu S1 0 a) 1 b9) 2 ((nq - a) - b9))) _ _ _ (by first | (dsimp only; omega) | omega) ⟨⟨by omega, r2, by rw [show b9 + (-1) + 1 = b9 by omega, ← i3, spI_s _ _ _ (by omega), r1]⟩, lv_sub hl [0, 1, 2, 3, 4] rfl, hP.sub [0, 1, 2, 3] rfl, hD.sub [0, 1, 2, 3] (by decide) rfl, hS⟩
set_option maxHeartbeats 8000000 in
set_option maxRecDepth 100000 in
theorem c_X2_look (l : Launch) (D : va_G) (y : Nat → ClassId) (c0 : Nat) (co : Nat) (ct : Nat) (cs : Nat) (ck : Int) (cf : Int) (OP : Int → Int) (TM : Int → Int) (SH : Int → Int) (g0 : Nat) (ga : Nat) (gl : Int) (gp : Int) (gx : Int) (gy : Int) (GK : Int → Int) (hg : gOK gl gp gx gy GK) (sz : Nat) : Met l yX2_look wsX2_look ({ frames := 5, cells := 0, slots := 0, locals := 111 } : Room) (wPc D y [(g0, .inr (5, [.ref ga, zi gl, zi gp, zi gx, zi gy])), (ga, .inl (y 0, 36, .inl (cI GK)))] [(c0, .inr (2, [.ref co, .ref ct, .ref cs, zi ck, zi cf])), (co, .inl (y 2, 3, .inl (cI OP))), (ct, .inl (y 0, 3, .inl (cI TM))), (cs, .inl (y 0, 3, .inl (cI SH)))] sz [.ref c0, .ref g0]) (wQ D (fun (x9 : (Int → Int) × (Int → Int)) => match x9 with | (OP2, TM2) => some (zi (bI (0 < sgI (opV gl gp GK) 3)))) (fun (x9 : (Int → Int) × (Int → Int)) => match x9 with | (OP2, TM2) => (∀ j : Int, 0 ≤ j → j < 3 → OP2 j = opV gl gp GK j) ∧ ∀ j : Int, 0 ≤ j → j < 3 → TM2 j = laneS gl gp GK j) (fun (x9 : (Int → Int) × (Int → Int)) => match x9 with | (OP2, TM2) => [(c0, .inr (2, [.ref co, .ref ct, .ref cs, zi ck, zi cf])), (co, .inl (y 2, 3, .inl (cI OP2))), (ct, .inl (y 0, 3, .inl (cI TM2))), (cs, .inl (y 0, 3, .inl (cI SH)))]) (va_A [(c0, .inr (2, [.ref co, .ref ct, .ref cs, zi ck, zi cf])), (co, .inl (y 2, 3, .inl (cI OP))), (ct, .inl (y 0, 3, .inl (cI TM))), (cs, .inl (y 0, 3, .inl (cI SH)))] sz)) 0 0 (va_A [(c0, .inr (2, [.ref co, .ref ct, .ref cs, zi ck, zi cf])), (co, .inl (y 2, 3, .inl (cI OP))), (ct, .inl (y 0, 3, .inl (cI TM))), (cs, .inl (y 0, 3, .inl (cI SH)))] sz) := by
  refine W_of (own := RX2) (cc := cX2_look) (maxL := 4) (ret := some .boolean) (by decide) rfl rfl (Nat.le_of_ble_eq_true rfl) (fun p e s m below meth c ls A hx hb hr hC hlocks hin0 hR0 hN hP hD hA hG hl => ?_)
  have hC0 := hC
  obtain ⟨-, -, hml, hown, hts⟩ := hC0
  have hK := hG.1
  have hS : va_S A s.heap s.heap [] := va_S.rf
  have hPr := hR0
  have hinX2 : ∀ w ∈ wsX20, w ∈ wsX2_look := fun _ h => List.mem_cons_of_mem _ (List.mem_append_left _ (List.mem_append_right _ h))
  have k1 := hts (.fieldLink RX2 9 "BoatsOfPaper$Crowd" "isOpen" "[Z") (List.mem_of_getElem? (i := 1) rfl)
  have k2 := hts (.fieldLink RX2 15 "BoatsOfPaper$Crowd" "times" "[I") (List.mem_of_getElem? (i := 2) rfl)
  have hl : lv_has ls 4 [(0, .ref c0), (1, .ref g0)] := hl
  obtain ⟨u1, u2, u3, u4, uk⟩ := id hg
  refine z_iconst hx hb dX2_look_0 ?_
  refine lv_istore_n (lv' := [(2, zi 0), (0, .ref c0), (1, .ref g0)]) hx hb dX2_look_1 rfl hl (by decide) rfl (fun ls hl => ?_)
  refine z_iconst hx hb dX2_look_2 ?_
  refine lv_istore_n (lv' := [(3, zi 0), (2, zi 0), (0, .ref c0), (1, .ref g0)]) hx hb dX2_look_3 rfl hl (by decide) rfl (fun ls hl => ?_)
  refine z_loop (σ := Int × Int × (Int → Int) × (Int → Int)) (fun x9 H lc ls => match x9 with | (va, k, O1, T1) => ((0 ≤ k ∧ k ≤ 3) ∧ (va = bI (0 < sgI (opV gl gp GK) k)) ∧ (∀ j : Int, 0 ≤ j → j < k → O1 j = opV gl gp GK j) ∧ ∀ j : Int, 0 ≤ j → j < k → T1 j = laneS gl gp GK j) ∧ lv_has ls 4 [(3, zi k), (2, zi va), (0, .ref c0), (1, .ref g0)] ∧ va_P D vwCl [(c0, .inr (2, [.ref co, .ref ct, .ref cs, zi ck, zi cf])), (co, .inl (y 2, 3, .inl (cI O1))), (ct, .inl (y 0, 3, .inl (cI T1))), (cs, .inl (y 0, 3, .inl (cI SH)))] H ∧ va_D A [(c0, .inr (2, [.ref co, .ref ct, .ref cs, zi ck, zi cf])), (co, .inl (y 2, 3, .inl (cI O1))), (ct, .inl (y 0, 3, .inl (cI T1))), (cs, .inl (y 0, 3, .inl (cI SH)))] ∧ va_S A s.heap H lc) (fun x9  => match x9 with | (va, k, O1, T1) => ((3 - k).toNat)) ?_ (0, 0, OP, TM) ⟨⟨by omega, rfl, fun j _ _ => by omega, fun j _ _ => by omega⟩, lv_sub hl [0, 1, 2, 3] rfl, hP.sub [0, 1, 2, 3] rfl, hD.sub [0, 1, 2, 3] (by decide) rfl, hS⟩
  rintro ⟨va, k, O1, T1⟩ H lc ls ⟨hi4, hl, hP, hD, hS⟩ ih4
  have hP : va_P D vwCl [(c0, .inr (2, [.ref co, .ref ct, .ref cs, zi ck, zi cf])), (co, .inl (y 2, 3, .inl (cI O1))), (ct, .inl (y 0, 3, .inl (cI T1))), (cs, .inl (y 0, 3, .inl (cI SH)))] H := hP
  have hD : va_D A [(c0, .inr (2, [.ref co, .ref ct, .ref cs, zi ck, zi cf])), (co, .inl (y 2, 3, .inl (cI O1))), (ct, .inl (y 0, 3, .inl (cI T1))), (cs, .inl (y 0, 3, .inl (cI SH)))] := hD
  have hPr := ro_now hR0 hN hS
  obtain ⟨j1, j2, j3, j4⟩ := hi4
  have b0 := bI01 (0 < sgI (opV gl gp GK) k)
  rw [← j2] at b0
  refine lv_iload_n hx hb dX2_look_4 rfl (lv_at hl 0 rfl) ?_
  refine z_iconst hx hb dX2_look_5 ?_
  refine z_icmp_ge (tgt := 72) hx hb (by omega) (by omega) dX2_look_6 (by decide) (fun c_6 => ?_) (fun c_6 => ?_)
  ·
    refine lv_iload_n hx hb dX2_look_72 rfl (lv_at hl 1 rfl) ?_
    exact z_zretW hx hb hr hlocks (by omega) (O1, T1) (by show some (zi (bI _)) = some (zi _); rw [j2, show k = 3 by omega]) (by rw [show k = 3 by omega] at j3 j4; exact ⟨j3, j4⟩) (hP.sub [0, 1, 2, 3] rfl) (hD.sub [0, 1, 2, 3] (by decide) rfl) hS dX2_look_73
  ·
    refine z_cut (σ := Int) 35 (fun ov H lc ls st9 => (ov = opV gl gp GK k ∧ (ov = 0 ∨ ov = 1)) ∧ lv_has ls 4 [(3, zi k), (2, zi va), (0, .ref c0), (1, .ref g0)] ∧ st9 = [zi ov, zi k, .ref co] ∧ va_P D vwCl [(c0, .inr (2, [.ref co, .ref ct, .ref cs, zi ck, zi cf])), (co, .inl (y 2, 3, .inl (cI O1))), (ct, .inl (y 0, 3, .inl (cI T1))), (cs, .inl (y 0, 3, .inl (cI SH)))] H ∧ va_D A [(c0, .inr (2, [.ref co, .ref ct, .ref cs, zi ck, zi cf])), (co, .inl (y 2, 3, .inl (cI O1))), (ct, .inl (y 0, 3, .inl (cI T1))), (cs, .inl (y 0, 3, .inl (cI SH)))] ∧ va_S A s.heap H lc) (fun hJ_1 => ?_) ?_
    ·
      refine lv_aload_n hx hb dX2_look_9 rfl (lv_at hl 2 rfl) ?_
      refine va_get hx hb hts hinX2 hown hK hP 0 rfl rfl 0 (by decide) k1 (fun _ h => h) rfl dX2_look_10 ?_
      refine lv_iload_n hx hb dX2_look_13 rfl (lv_at hl 0 rfl) ?_
      refine lv_aload_n hx hb dX2_look_14 rfl (lv_at hl 3 rfl) ?_
      refine lv_iload_n hx hb dX2_look_15 rfl (lv_at hl 0 rfl) ?_
      refine z_pV (As := [zi k]) (rest := [zi k, .ref co]) hC (c_X6_hasLane l D y g0 ga gl gp gx gy GK k (by first | assumption | omega) (by first | assumption | omega)) (cwV 1 hts gX2_look_X6_hasLane rfl rfl rfl (by decide +kernel) ⟨Nat.le_of_ble_eq_true rfl, Nat.le_of_ble_eq_true rfl⟩) hG (hPr.sub (ws' := [(g0, .inr (5, [.ref ga, zi gl, zi gp, zi gx, zi gy])), (ga, .inl (y 0, 36, .inl (cI GK)))]) [0, 1] rfl) 0 rfl rfl rfl hl.1 rfl (Nat.le_of_ble_eq_true rfl) dX2_look_16 ⟨Nat.le_of_ble_eq_true rfl, Nat.le_of_ble_eq_true rfl⟩ ?_
      refine z_ifB_eq (tgt := 34) hx hb dX2_look_19 (by decide) (fun c_19 => ?_) (fun c_19 => ?_)
      ·
        refine z_iconst hx hb dX2_look_34 ?_
        exact hJ_1 0 _ _ _ _ ⟨(by first | exact ⟨(bI_t ⟨by omega, by omega⟩).symm, by omega⟩ | exact ⟨(bI_f (by omega)).symm, by omega⟩), lv_sub hl [0, 1, 2, 3] rfl, rfl, hP.sub [0, 1, 2, 3] rfl, hD.sub [0, 1, 2, 3] (by decide) rfl, hS⟩
      ·
        refine lv_aload_n hx hb dX2_look_22 rfl (lv_at hl 3 rfl) ?_
        refine lv_iload_n hx hb dX2_look_23 rfl (lv_at hl 0 rfl) ?_
        refine z_pV (As := [zi k]) (rest := [zi k, .ref co]) hC (c_X6_hasWall l D y g0 ga gl gp gx gy GK k (by first | assumption | omega) (by first | assumption | omega)) (cwV 1 hts gX2_look_X6_hasWall rfl rfl rfl (by decide +kernel) ⟨Nat.le_of_ble_eq_true rfl, Nat.le_of_ble_eq_true rfl⟩) hG (hPr.sub (ws' := [(g0, .inr (5, [.ref ga, zi gl, zi gp, zi gx, zi gy])), (ga, .inl (y 0, 36, .inl (cI GK)))]) [0, 1] rfl) 0 rfl rfl rfl hl.1 rfl (Nat.le_of_ble_eq_true rfl) dX2_look_24 ⟨Nat.le_of_ble_eq_true rfl, Nat.le_of_ble_eq_true rfl⟩ ?_
        refine z_ifB_ne (tgt := 34) hx hb dX2_look_27 (by decide) (fun c_27 => ?_) (fun c_27 => ?_)
        ·
          refine z_iconst hx hb dX2_look_34 ?_
          exact hJ_1 0 _ _ _ _ ⟨(by first | exact ⟨(bI_t ⟨by omega, by omega⟩).symm, by omega⟩ | exact ⟨(bI_f (by omega)).symm, by omega⟩), lv_sub hl [0, 1, 2, 3] rfl, rfl, hP.sub [0, 1, 2, 3] rfl, hD.sub [0, 1, 2, 3] (by decide) rfl, hS⟩
        ·
          refine z_iconst hx hb dX2_look_30 ?_
          refine lv_goto (tgt := 35) hx hb dX2_look_31 (by decide) ?_
          exact hJ_1 1 _ _ _ _ ⟨(by first | exact ⟨(bI_t ⟨by omega, by omega⟩).symm, by omega⟩ | exact ⟨(bI_f (by omega)).symm, by omega⟩), lv_sub hl [0, 1, 2, 3] rfl, rfl, hP.sub [0, 1, 2, 3] rfl, hD.sub [0, 1, 2, 3] (by decide) rfl, hS⟩
    ·
      rintro ov H lc ls st9 ⟨hj_2, hl, rfl, hP, hD, hS⟩
      have hP : va_P D vwCl [(c0, .inr (2, [.ref co, .ref ct, .ref cs, zi ck, zi cf])), (co, .inl (y 2, 3, .inl (cI O1))), (ct, .inl (y 0, 3, .inl (cI T1))), (cs, .inl (y 0, 3, .inl (cI SH)))] H := hP
      have hD : va_D A [(c0, .inr (2, [.ref co, .ref ct, .ref cs, zi ck, zi cf])), (co, .inl (y 2, 3, .inl (cI O1))), (ct, .inl (y 0, 3, .inl (cI T1))), (cs, .inl (y 0, 3, .inl (cI SH)))] := hD
      have hPr := ro_now hR0 hN hS
      have hjo := hj_2
      refine z_zast hx hb hK hP hD hS 1 2 rfl rfl (by omega) (by decide) hjo.2 dX2_look_35 (fun H locs hP hD hS => ?_)
      have hP : va_P D vwCl [(c0, .inr (2, [.ref co, .ref ct, .ref cs, zi ck, zi cf])), (co, .inl (y 2, 3, .inl (cI (iu O1 k ov)))), (ct, .inl (y 0, 3, .inl (cI T1))), (cs, .inl (y 0, 3, .inl (cI SH)))] H := hP
      have hD : va_D A [(c0, .inr (2, [.ref co, .ref ct, .ref cs, zi ck, zi cf])), (co, .inl (y 2, 3, .inl (cI (iu O1 k ov)))), (ct, .inl (y 0, 3, .inl (cI T1))), (cs, .inl (y 0, 3, .inl (cI SH)))] := hD
      have hPr := ro_now hR0 hN hS
      refine lv_aload_n hx hb dX2_look_36 rfl (lv_at hl 2 rfl) ?_
      refine va_get hx hb hts hinX2 hown hK hP 0 rfl rfl 1 (by decide) k2 (fun _ h => h) rfl dX2_look_37 ?_
      refine lv_iload_n hx hb dX2_look_40 rfl (lv_at hl 0 rfl) ?_
      refine lv_aload_n hx hb dX2_look_41 rfl (lv_at hl 3 rfl) ?_
      refine lv_iload_n hx hb dX2_look_42 rfl (lv_at hl 0 rfl) ?_
      refine z_pV (As := [zi k]) (rest := [zi k, .ref ct]) hC (c_X6_laneSeconds l D y g0 ga gl gp gx gy GK k (by first | assumption | omega) (by first | assumption | omega)) (cwV 1 hts gX2_look_X6_laneSeconds rfl rfl rfl (by decide +kernel) ⟨Nat.le_of_ble_eq_true rfl, Nat.le_of_ble_eq_true rfl⟩) hG (hPr.sub (ws' := [(g0, .inr (5, [.ref ga, zi gl, zi gp, zi gx, zi gy])), (ga, .inl (y 0, 36, .inl (cI GK)))]) [0, 1] rfl) 0 rfl rfl rfl hl.1 rfl (Nat.le_of_ble_eq_true rfl) dX2_look_43 ⟨Nat.le_of_ble_eq_true rfl, Nat.le_of_ble_eq_true rfl⟩ ?_
      refine z_iast hx hb hK hP hD hS 2 0 rfl rfl (by omega) (by decide) dX2_look_46 (fun H locs hP hD hS => ?_)
      have hP : va_P D vwCl [(c0, .inr (2, [.ref co, .ref ct, .ref cs, zi ck, zi cf])), (co, .inl (y 2, 3, .inl (cI (iu O1 k ov)))), (ct, .inl (y 0, 3, .inl (cI (iu T1 k (laneS gl gp GK k))))), (cs, .inl (y 0, 3, .inl (cI SH)))] H := hP
      have hD : va_D A [(c0, .inr (2, [.ref co, .ref ct, .ref cs, zi ck, zi cf])), (co, .inl (y 2, 3, .inl (cI (iu O1 k ov)))), (ct, .inl (y 0, 3, .inl (cI (iu T1 k (laneS gl gp GK k))))), (cs, .inl (y 0, 3, .inl (cI SH)))] := hD
      have hPr := ro_now hR0 hN hS
      have s0 := sgI_mono (f := opV gl gp GK) (fun k _ => bI_nn _) j1.1
      rw [sgI_0] at s0
      have s1 : va = 1 ↔ 0 < sgI (opV gl gp GK) k := (by rw [j2]; rcases bI_cases (0 < sgI (opV gl gp GK) k) with ⟨q, q2⟩ | ⟨q, q2⟩ <;> rw [q2] <;> omega)
      refine z_cut (σ := Int) 65 (fun va2 H lc ls st9 => (va2 = bI (0 < sgI (opV gl gp GK) (k + 1))) ∧ lv_has ls 4 [(3, zi k), (2, zi va), (0, .ref c0), (1, .ref g0)] ∧ st9 = [zi va2] ∧ va_P D vwCl [(c0, .inr (2, [.ref co, .ref ct, .ref cs, zi ck, zi cf])), (co, .inl (y 2, 3, .inl (cI (iu O1 k ov)))), (ct, .inl (y 0, 3, .inl (cI (iu T1 k (laneS gl gp GK k))))), (cs, .inl (y 0, 3, .inl (cI SH)))] H ∧ va_D A [(c0, .inr (2, [.ref co, .ref ct, .ref cs, zi ck, zi cf])), (co, .inl (y 2, 3, .inl (cI (iu O1 k ov)))), (ct, .inl (y 0, 3, .inl (cI (iu T1 k (laneS gl gp GK k))))), (cs, .inl (y 0, 3, .inl (cI SH)))] ∧ va_S A s.heap H lc) (fun hJ_3 => ?_) ?_
      ·
        have s0 := sgI_mono (f := opV gl gp GK) (fun k _ => bI_nn _) j1.1
        rw [sgI_0] at s0
        have s1 : va = 1 ↔ 0 < sgI (opV gl gp GK) k := (by rw [j2]; rcases bI_cases (0 < sgI (opV gl gp GK) k) with ⟨q, q2⟩ | ⟨q, q2⟩ <;> rw [q2] <;> omega)
        refine lv_iload_n hx hb dX2_look_47 rfl (lv_at hl 1 rfl) ?_
        refine z_if_ne (tgt := 60) hx hb (by omega) dX2_look_48 (by decide) (fun c_48 => ?_) (fun c_48 => ?_)
        ·
          refine z_iconst hx hb dX2_look_60 ?_
          refine lv_goto (tgt := 65) hx hb dX2_look_61 (by decide) ?_
          exact hJ_3 1 _ _ _ _ ⟨(by rw [sgI_s _ j1.1]; first | exact (bI_t (by omega)).symm | exact (bI_f (by omega)).symm), lv_sub hl [0, 1, 2, 3] rfl, rfl, hP.sub [0, 1, 2, 3] rfl, hD.sub [0, 1, 2, 3] (by decide) rfl, hS⟩
        ·
          refine lv_aload_n hx hb dX2_look_51 rfl (lv_at hl 2 rfl) ?_
          refine va_get hx hb hts hinX2 hown hK hP 0 rfl rfl 0 (by decide) k1 (fun _ h => h) rfl dX2_look_52 ?_
          refine lv_iload_n hx hb dX2_look_55 rfl (lv_at hl 0 rfl) ?_
          refine z_zald hx hb hK hP 1 2 rfl rfl (by omega) (by decide) dX2_look_56 ?_
          have h9 : iu O1 k ov k = ov := iu_s
          refine z_if_eq (tgt := 64) hx hb (by omega) dX2_look_57 (by decide) (fun c_57 => ?_) (fun c_57 => ?_)
          ·
            refine z_iconst hx hb dX2_look_64 ?_
            exact hJ_3 0 _ _ _ _ ⟨(by rw [sgI_s _ j1.1]; first | exact (bI_t (by omega)).symm | exact (bI_f (by omega)).symm), lv_sub hl [0, 1, 2, 3] rfl, rfl, hP.sub [0, 1, 2, 3] rfl, hD.sub [0, 1, 2, 3] (by decide) rfl, hS⟩
          ·
            refine z_iconst hx hb dX2_look_60 ?_
            refine lv_goto (tgt := 65) hx hb dX2_look_61 (by decide) ?_
            exact hJ_3 1 _ _ _ _ ⟨(by rw [sgI_s _ j1.1]; first | exact (bI_t (by omega)).symm | exact (bI_f (by omega)).symm), lv_sub hl [0, 1, 2, 3] rfl, rfl, hP.sub [0, 1, 2, 3] rfl, hD.sub [0, 1, 2, 3] (by decide) rfl, hS⟩
      ·
        rintro va2 H lc ls st9 ⟨hj_4, hl, rfl, hP, hD, hS⟩
        have hP : va_P D vwCl [(c0, .inr (2, [.ref co, .ref ct, .ref cs, zi ck, zi cf])), (co, .inl (y 2, 3, .inl (cI (iu O1 k ov)))), (ct, .inl (y 0, 3, .inl (cI (iu T1 k (laneS gl gp GK k))))), (cs, .inl (y 0, 3, .inl (cI SH)))] H := hP
        have hD : va_D A [(c0, .inr (2, [.ref co, .ref ct, .ref cs, zi ck, zi cf])), (co, .inl (y 2, 3, .inl (cI (iu O1 k ov)))), (ct, .inl (y 0, 3, .inl (cI (iu T1 k (laneS gl gp GK k))))), (cs, .inl (y 0, 3, .inl (cI SH)))] := hD
        have hPr := ro_now hR0 hN hS
        have hjv := hj_4
        refine lv_istore_n (lv' := [(2, zi va2), (3, zi k), (0, .ref c0), (1, .ref g0)]) hx hb dX2_look_65 rfl hl (by decide) rfl (fun ls hl => ?_)
        refine z_iinc (k := 1) (lv' := [(3, zi (k + 1)), (2, zi va2), (0, .ref c0), (1, .ref g0)]) hx hb dX2_look_66 hl rfl (by decide) rfl (fun ls hl => ?_)
        refine lv_goto (tgt := 4) hx hb dX2_look_69 (by decide) ?_
        exact ih4 (va2, k + 1, iu O1 k ov, iu T1 k (laneS gl gp GK k)) _ _ _ (by first | (dsimp only; omega) | omega) ⟨⟨by omega, hjv, iu_fillv j3 hjo.1, iu_fillv j4 rfl⟩, lv_sub hl [0, 1, 2, 3] rfl, hP.sub [0, 1, 2, 3] rfl, hD.sub [0, 1, 2, 3] (by decide) rfl, hS⟩
