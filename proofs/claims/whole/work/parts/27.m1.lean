set_option maxHeartbeats 8000000 in
set_option maxRecDepth 100000 in
theorem c_X12_in (l : Launch) (D : va_G) (y : Nat → ClassId) (iv : Int) (ia : Int) (ib : Int) (hq : rL iv ∧ rL ia ∧ rL ib) : Met l yX12_in wsX12_in ({ frames := 0, cells := 0, slots := 0, locals := 0 } : Room) (pPc D y [] [zl iv, zl ia, zl ib]) (qV (zi (bI (ia ≤ iv ∧ iv ≤ ib)))) 0 0 (fun _ => False) := by
  refine P_of (own := RX12) (cc := cX12_in) (maxL := 6) (ret := some .boolean) (by decide) rfl rfl (Nat.le_of_ble_eq_true rfl) (fun p e s m below meth c ls hx hb hr hC hlocks hPr hG hl => ?_)
  have hC0 := hC
  obtain ⟨-, -, hml, hown, hts⟩ := hC0
  have hK := hG.1
  have hl : lv_has ls 6 [(0, zl iv), (2, zl ia), (4, zl ib)] := hl
  refine lv_lload_n hx hb dX12_in_0 rfl (lv_at hl 0 rfl) ?_
  refine lv_lload_n hx hb dX12_in_1 rfl (lv_at hl 1 rfl) ?_
  refine z_lcmp_lt (tgt := 17) hx hb (by omega) (by omega) dX12_in_2 dX12_in_3 (by decide) (fun c_2 => ?_) (fun c_2 => ?_)
  ·
    refine z_iconst hx hb dX12_in_17 ?_
    exact z_zret0 hx hb hr hlocks (by omega) (by first | exact (bI_t (by omega)).symm | exact (bI_f (by omega)).symm) dX12_in_18
  ·
    refine lv_lload_n hx hb dX12_in_6 rfl (lv_at hl 0 rfl) ?_
    refine lv_lload hx hb dX12_in_7 (lv_at hl 2 rfl) ?_
    refine z_lcmp_gt (tgt := 17) hx hb (by omega) (by omega) dX12_in_9 dX12_in_10 (by decide) (fun c_9 => ?_) (fun c_9 => ?_)
    ·
      refine z_iconst hx hb dX12_in_17 ?_
      exact z_zret0 hx hb hr hlocks (by omega) (by first | exact (bI_t (by omega)).symm | exact (bI_f (by omega)).symm) dX12_in_18
    ·
      refine z_iconst hx hb dX12_in_13 ?_
      refine lv_goto (tgt := 18) hx hb dX12_in_14 (by decide) ?_
      exact z_zret0 hx hb hr hlocks (by omega) (by first | exact (bI_t (by omega)).symm | exact (bI_f (by omega)).symm) dX12_in_18
set_option maxHeartbeats 8000000 in
set_option maxRecDepth 100000 in
theorem c_X12_valueOf (l : Launch) (D : va_G) (y : Nat → ClassId) (kb : Int) (hq : rI kb) : Met l yX12_valueOf wsX12_valueOf ({ frames := 1, cells := 0, slots := 0, locals := 25 } : Room) (pPc D y [] [zi kb]) (qV (zi (valV kb))) 0 0 (fun _ => False) := by
  refine P_of (own := RX12) (cc := cX12_valueOf) (maxL := 1) (ret := some .int) (by decide) rfl rfl (Nat.le_of_ble_eq_true rfl) (fun p e s m below meth c ls hx hb hr hC hlocks hPr hG hl => ?_)
  have hC0 := hC
  obtain ⟨-, -, hml, hown, hts⟩ := hC0
  have hK := hG.1
  have k1 := hts (.constantLong RX12 87 (49)) (List.mem_of_getElem? (i := 1) rfl)
  have k2 := hts (.constantLong RX12 89 (57)) (List.mem_of_getElem? (i := 2) rfl)
  have hl : lv_has ls 1 [(0, zi kb)] := hl
  refine lv_iload_n hx hb dX12_valueOf_0 rfl (lv_at hl 0 rfl) ?_
  refine z_i2l hx hb (by omega) dX12_valueOf_1 ?_
  refine lv_ldc2 (v := iL 49) hx hb hown k1 dX12_valueOf_2 ?_
  refine lv_ldc2 (v := iL 57) hx hb hown k2 dX12_valueOf_5 ?_
  refine z_pS (As := [zl kb, zl 49, zl 57]) (rest := []) hC (c_X12_in l D y kb 49 57 (by first | assumption | omega)) (va_cwS 3 hts gX12_valueOf_X12_in rfl rfl rfl (by decide +kernel) ⟨Nat.le_of_ble_eq_true rfl, Nat.le_of_ble_eq_true rfl⟩) hG va_P_nil rfl hl.1 rfl (Nat.le_of_ble_eq_true rfl) dX12_valueOf_8 ⟨Nat.le_of_ble_eq_true rfl, Nat.le_of_ble_eq_true rfl⟩ ?_
  refine z_ifB_eq (tgt := 21) hx hb dX12_valueOf_11 (by decide) (fun c_11 => ?_) (fun c_11 => ?_)
  ·
    refine lv_iload_n hx hb dX12_valueOf_21 rfl (lv_at hl 0 rfl) ?_
    refine z_bipush hx hb dX12_valueOf_22 (by decide) ?_
    refine z_icmp_ne (tgt := 32) hx hb (by omega) (by omega) dX12_valueOf_24 (by decide) (fun c_24 => ?_) (fun c_24 => ?_)
    ·
      refine lv_iload_n hx hb dX12_valueOf_32 rfl (lv_at hl 0 rfl) ?_
      refine z_bipush hx hb dX12_valueOf_33 (by decide) ?_
      refine z_icmp_ne (tgt := 43) hx hb (by omega) (by omega) dX12_valueOf_35 (by decide) (fun c_35 => ?_) (fun c_35 => ?_)
      ·
        refine lv_iload_n hx hb dX12_valueOf_43 rfl (lv_at hl 0 rfl) ?_
        refine z_bipush hx hb dX12_valueOf_44 (by decide) ?_
        refine z_icmp_ne (tgt := 54) hx hb (by omega) (by omega) dX12_valueOf_46 (by decide) (fun c_46 => ?_) (fun c_46 => ?_)
        ·
          refine z_bipush hx hb dX12_valueOf_54 (by decide) ?_
          exact z_iret0 hx hb hr hlocks (by unfold valV; (repeat' split) <;> omega) dX12_valueOf_56
        ·
          refine z_bipush hx hb dX12_valueOf_49 (by decide) ?_
          refine lv_goto (tgt := 56) hx hb dX12_valueOf_51 (by decide) ?_
          exact z_iret0 hx hb hr hlocks (by unfold valV; (repeat' split) <;> omega) dX12_valueOf_56
      ·
        refine z_bipush hx hb dX12_valueOf_38 (by decide) ?_
        refine lv_goto (tgt := 56) hx hb dX12_valueOf_40 (by decide) ?_
        exact z_iret0 hx hb hr hlocks (by unfold valV; (repeat' split) <;> omega) dX12_valueOf_56
    ·
      refine z_bipush hx hb dX12_valueOf_27 (by decide) ?_
      refine lv_goto (tgt := 56) hx hb dX12_valueOf_29 (by decide) ?_
      exact z_iret0 hx hb hr hlocks (by unfold valV; (repeat' split) <;> omega) dX12_valueOf_56
  ·
    refine lv_iload_n hx hb dX12_valueOf_14 rfl (lv_at hl 0 rfl) ?_
    refine z_bipush hx hb dX12_valueOf_15 (by decide) ?_
    refine z_isub hx hb dX12_valueOf_17 ?_
    refine lv_goto (tgt := 56) hx hb dX12_valueOf_18 (by decide) ?_
    exact z_iret0 hx hb hr hlocks (by unfold valV; (repeat' split) <;> omega) dX12_valueOf_56
set_option maxHeartbeats 8000000 in
set_option maxRecDepth 100000 in
theorem c_X12_folds (l : Launch) (D : va_G) (y : Nat → ClassId) (fl : Int) (fw : Int) (fh : Int) (hq : (0 ≤ fl ∧ fl ≤ 20) ∧ (0 ≤ fw ∧ fw ≤ 20) ∧ rI fh) : Met l yX12_folds wsX12_folds ({ frames := 1, cells := 0, slots := 0, locals := 25 } : Room) (pPc D y [] [zi fl, zi fw, zi fh]) (qV (zi (bI (1 ≤ fh ∧ fh ≤ 9 ∧ 1 ≤ fl - 2 * fh ∧ 1 ≤ fw - 2 * fh)))) 0 0 (fun _ => False) := by
  refine P_of (own := RX12) (cc := cX12_folds) (maxL := 3) (ret := some .boolean) (by decide) rfl rfl (Nat.le_of_ble_eq_true rfl) (fun p e s m below meth c ls hx hb hr hC hlocks hPr hG hl => ?_)
  have hC0 := hC
  obtain ⟨-, -, hml, hown, hts⟩ := hC0
  have hK := hG.1
  have k1 := hts (.constantLong RX12 117 (20)) (List.mem_of_getElem? (i := 1) rfl)
  have hl : lv_has ls 3 [(0, zi fl), (1, zi fw), (2, zi fh)] := hl
  refine lv_iload_n hx hb dX12_folds_0 rfl (lv_at hl 2 rfl) ?_
  refine z_i2l hx hb (by omega) dX12_folds_1 ?_
  refine lv_lconst (v := iL 1) hx hb dX12_folds_2 rfl ?_
  refine lv_ldc2 (v := iL 20) hx hb hown k1 dX12_folds_3 ?_
  refine z_pS (As := [zl fh, zl 1, zl 20]) (rest := []) hC (c_X12_in l D y fh 1 20 (by first | assumption | omega)) (va_cwS 3 hts gX12_folds_X12_in rfl rfl rfl (by decide +kernel) ⟨Nat.le_of_ble_eq_true rfl, Nat.le_of_ble_eq_true rfl⟩) hG va_P_nil rfl hl.1 rfl (Nat.le_of_ble_eq_true rfl) dX12_folds_6 ⟨Nat.le_of_ble_eq_true rfl, Nat.le_of_ble_eq_true rfl⟩ ?_
  refine z_ifB_eq (tgt := 32) hx hb dX12_folds_9 (by decide) (fun c_9 => ?_) (fun c_9 => ?_)
  ·
    refine z_iconst hx hb dX12_folds_32 ?_
    exact z_zret0 hx hb hr hlocks (by omega) (by first | exact (bI_t (by omega)).symm | exact (bI_f (by omega)).symm) dX12_folds_33
  ·
    refine lv_iload_n hx hb dX12_folds_12 rfl (lv_at hl 0 rfl) ?_
    refine z_iconst hx hb dX12_folds_13 ?_
    refine lv_iload_n hx hb dX12_folds_14 rfl (lv_at hl 2 rfl) ?_
    refine z_imul hx hb dX12_folds_15 ?_
    refine z_isub hx hb dX12_folds_16 ?_
    refine z_if_le (tgt := 32) hx hb (by omega) dX12_folds_17 (by decide) (fun c_17 => ?_) (fun c_17 => ?_)
    ·
      refine z_iconst hx hb dX12_folds_32 ?_
      exact z_zret0 hx hb hr hlocks (by omega) (by first | exact (bI_t (by omega)).symm | exact (bI_f (by omega)).symm) dX12_folds_33
    ·
      refine lv_iload_n hx hb dX12_folds_20 rfl (lv_at hl 1 rfl) ?_
      refine z_iconst hx hb dX12_folds_21 ?_
      refine lv_iload_n hx hb dX12_folds_22 rfl (lv_at hl 2 rfl) ?_
      refine z_imul hx hb dX12_folds_23 ?_
      refine z_isub hx hb dX12_folds_24 ?_
      refine z_if_le (tgt := 32) hx hb (by omega) dX12_folds_25 (by decide) (fun c_25 => ?_) (fun c_25 => ?_)
      ·
        refine z_iconst hx hb dX12_folds_32 ?_
        exact z_zret0 hx hb hr hlocks (by omega) (by first | exact (bI_t (by omega)).symm | exact (bI_f (by omega)).symm) dX12_folds_33
      ·
        refine z_iconst hx hb dX12_folds_28 ?_
        refine lv_goto (tgt := 33) hx hb dX12_folds_29 (by decide) ?_
        exact z_zret0 hx hb hr hlocks (by omega) (by first | exact (bI_t (by omega)).symm | exact (bI_f (by omega)).symm) dX12_folds_33
set_option maxHeartbeats 8000000 in
set_option maxRecDepth 100000 in
theorem c_X12_part (l : Launch) (D : va_G) (y : Nat → ClassId) (fa : Int) (fb : Int) (fu : Int) (hq : (0 ≤ fa ∧ fa ≤ 100000000000000) ∧ (0 ≤ fb ∧ fb ≤ 100000000000000) ∧ 0 < fb) (hu : fu = 0 ∨ fu = 1) : Met l yX12_part wsX12_part ({ frames := 0, cells := 0, slots := 0, locals := 0 } : Room) (pPc D y [] [zl fa, zl fb, zi fu]) (qV (zl (tellV fa fb fu))) 0 0 (fun _ => False) := by
  refine P_of (own := RX12) (cc := cX12_part) (maxL := 11) (ret := some .long) (by decide) rfl rfl (Nat.le_of_ble_eq_true rfl) (fun p e s m below meth c ls hx hb hr hC hlocks hPr hG hl => ?_)
  have hC0 := hC
  obtain ⟨-, -, hml, hown, hts⟩ := hC0
  have hK := hG.1
  have hl : lv_has ls 11 [(0, zl fa), (2, zl fb), (4, zi fu)] := hl
  have g1 := gcdI_pos (a := fa) (b := fb) (by omega)
  have g2 := gcdI_le (a := fa) (b := fb) (by omega)
  refine lv_lload_n hx hb dX12_part_0 rfl (lv_at hl 0 rfl) ?_
  refine lv_lstore (lv' := [(5, zl fa), (0, zl fa), (2, zl fb), (4, zi fu)]) hx hb dX12_part_1 hl (by decide) rfl (fun ls hl => ?_)
  refine lv_lload_n hx hb dX12_part_3 rfl (lv_at hl 2 rfl) ?_
  refine lv_lstore (lv' := [(7, zl fb), (5, zl fa), (0, zl fa), (2, zl fb), (4, zi fu)]) hx hb dX12_part_4 hl (by decide) rfl (fun ls hl => ?_)
  refine z_loop (σ := Int × Int) (fun x9 H lc ls => match x9 with | (g, z) => ((0 ≤ g ∧ g ≤ 100000000000000 ∧ 0 ≤ z ∧ z ≤ 100000000000000) ∧ gcdI g z = gcdI fa fb) ∧ lv_has ls 11 [(7, zl z), (5, zl g), (0, zl fa), (2, zl fb), (4, zi fu)] ∧ H = s.heap ∧ lc = []) (fun x9  => match x9 with | (g, z) => (z.toNat)) ?_ (fa, fb) ⟨⟨by omega, rfl⟩, lv_sub hl [0, 1, 2, 3, 4] rfl, rfl, rfl⟩
  rintro ⟨g, z⟩ H lc ls ⟨hi6, hl, rfl, rfl⟩ ih6
  refine lv_lload hx hb dX12_part_6 (lv_at hl 0 rfl) ?_
  refine lv_lconst (v := iL 0) hx hb dX12_part_8 rfl ?_
  refine z_lcmp_eq (tgt := 31) hx hb (by omega) (by omega) dX12_part_9 dX12_part_10 (by decide) (fun c_9 => ?_) (fun c_9 => ?_)
  ·
    have e0 : g = gcdI fa fb := (by rw [← hi6.2, show z = 0 by omega, gcdI_0 (by omega)])
    refine lv_iload hx hb dX12_part_31 (lv_at hl 4 rfl) ?_
    refine z_if_eq (tgt := 43) hx hb (by omega) dX12_part_33 (by decide) (fun c_33 => ?_) (fun c_33 => ?_)
    ·
      refine lv_lload_n hx hb dX12_part_43 rfl (lv_at hl 3 rfl) ?_
      refine lv_lload hx hb dX12_part_44 (lv_at hl 1 rfl) ?_
      refine z_ldiv hx hb (by omega) dX12_part_46 ?_
      exact z_lret0 hx hb hr hlocks (by unfold tellV; rw [← e0]; first | rw [if_pos (by omega)] | rw [if_neg (by omega)]) dX12_part_47
    ·
      refine lv_lload_n hx hb dX12_part_36 rfl (lv_at hl 2 rfl) ?_
      refine lv_lload hx hb dX12_part_37 (lv_at hl 1 rfl) ?_
      refine z_ldiv hx hb (by omega) dX12_part_39 ?_
      refine lv_goto (tgt := 47) hx hb dX12_part_40 (by decide) ?_
      exact z_lret0 hx hb hr hlocks (by unfold tellV; rw [← e0]; first | rw [if_pos (by omega)] | rw [if_neg (by omega)]) dX12_part_47
  ·
    refine lv_lload hx hb dX12_part_13 (lv_at hl 1 rfl) ?_
    refine lv_lload hx hb dX12_part_15 (lv_at hl 0 rfl) ?_
    refine z_lrem hx hb (by omega) dX12_part_17 ?_
    refine lv_lstore (lv' := [(9, zl (g % z)), (7, zl z), (5, zl g), (0, zl fa), (2, zl fb), (4, zi fu)]) hx hb dX12_part_18 hl (by decide) rfl (fun ls hl => ?_)
    refine lv_lload hx hb dX12_part_20 (lv_at hl 1 rfl) ?_
    refine lv_lstore (lv' := [(5, zl z), (9, zl (g % z)), (7, zl z), (0, zl fa), (2, zl fb), (4, zi fu)]) hx hb dX12_part_22 hl (by decide) rfl (fun ls hl => ?_)
    refine lv_lload hx hb dX12_part_24 (lv_at hl 1 rfl) ?_
    refine lv_lstore (lv' := [(7, zl (g % z)), (5, zl z), (9, zl (g % z)), (0, zl fa), (2, zl fb), (4, zi fu)]) hx hb dX12_part_26 hl (by decide) rfl (fun ls hl => ?_)
    refine lv_goto (tgt := 6) hx hb dX12_part_28 (by decide) ?_
    exact ih6 (z, g % z) _ _ _ (by have := Int.emod_nonneg g (by omega : z ≠ 0); have := Int.emod_lt_of_pos g (by omega : 0 < z); dsimp only; omega) ⟨⟨by have := Int.emod_nonneg g (by omega : z ≠ 0); have := Int.emod_lt_of_pos g (by omega : 0 < z); omega, (gcdI_step (by omega) (by omega)).trans hi6.2⟩, lv_sub hl [0, 1, 3, 4, 5] rfl, rfl, rfl⟩
set_option maxHeartbeats 8000000 in
set_option maxRecDepth 100000 in
theorem c_X12_isLane (l : Launch) (D : va_G) (y : Nat → ClassId) (m0 : Nat) (m_read : Nat) (rl : Int) (rp : Int) (m_gut : Nat) (gl : Int) (gp : Int) (gx : Int) (gy : Int) (m_text : Nat) (tn : Int) (fn : Int) (m_boat : Nat) (m_coins : Nat) (vw : Int) (vm : Int) (vn : Int) (m_rest : Nat) (m_ends : Nat) (vc : Int) (m_chan : Nat) (m_spl : Nat) (fs : Int) (rn : Int) (m_rf : Nat) (m_rr : Nat) (m_ik : Nat) (m_km : Nat) (m_kb : Nat) (m_kc : Nat) (m_kf : Nat) (m_kr : Nat) (la : Int) (hla : rI la) (hgl : 0 ≤ gl ∧ gl ≤ 1000) : Met l yX12_isLane wsX12_isLane ({ frames := 1, cells := 0, slots := 0, locals := 25 } : Room) (pPc D y [(m0, .inr (11, [.ref m_read, zi rl, zi rp, .ref m_gut, zi gl, zi gp, zi gx, zi gy, .ref m_text, zi tn, zi fn, .ref m_boat, .ref m_coins, zi vw, zi vm, zi vn, .ref m_rest, .ref m_ends, zl vc, .ref m_chan, .ref m_spl, zi fs, zi rn, .ref m_rf, .ref m_rr, .ref m_ik, .ref m_km, .ref m_kb, .ref m_kc, .ref m_kf, .ref m_kr]))] [.ref m0, zi la]) (qV (zi (bI (0 ≤ la ∧ la ≤ gl - 1)))) 0 0 (fun _ => False) := by
  refine P_of (own := RX12) (cc := cX12_isLane) (maxL := 2) (ret := some .boolean) (by decide) rfl rfl (Nat.le_of_ble_eq_true rfl) (fun p e s m below meth c ls hx hb hr hC hlocks hPr hG hl => ?_)
  have hC0 := hC
  obtain ⟨-, -, hml, hown, hts⟩ := hC0
  have hK := hG.1
  have hinX12 : ∀ w ∈ wsX120, w ∈ wsX12_isLane := fun _ h => List.mem_cons_of_mem _ (List.mem_append_right _ h)
  have k1 := hts (.fieldLink RX12 63 "BoatsOfPaperModel" "lanes" "I") (List.mem_of_getElem? (i := 1) rfl)
  have hl : lv_has ls 2 [(0, .ref m0), (1, zi la)] := hl
  refine lv_iload_n hx hb dX12_isLane_0 rfl (lv_at hl 1 rfl) ?_
  refine z_i2l hx hb (by omega) dX12_isLane_1 ?_
  refine lv_lconst (v := iL 0) hx hb dX12_isLane_2 rfl ?_
  refine lv_aload_n hx hb dX12_isLane_3 rfl (lv_at hl 0 rfl) ?_
  refine va_get hx hb hts hinX12 hown hK hPr 0 rfl rfl 4 (by decide) k1 (fun _ h => h) rfl dX12_isLane_4 ?_
  refine z_iconst hx hb dX12_isLane_7 ?_
  refine z_isub hx hb dX12_isLane_8 ?_
  refine z_i2l hx hb (by omega) dX12_isLane_9 ?_
  refine z_pS (As := [zl la, zl 0, zl (gl - 1)]) (rest := []) hC (c_X12_in l D y la 0 (gl - 1) (by first | assumption | omega)) (va_cwS 3 hts gX12_isLane_X12_in rfl rfl rfl (by decide +kernel) ⟨Nat.le_of_ble_eq_true rfl, Nat.le_of_ble_eq_true rfl⟩) hG va_P_nil rfl hl.1 rfl (Nat.le_of_ble_eq_true rfl) dX12_isLane_10 ⟨Nat.le_of_ble_eq_true rfl, Nat.le_of_ble_eq_true rfl⟩ ?_
  exact z_zret0 hx hb hr hlocks (bI01 _) (rfl) dX12_isLane_13
set_option maxHeartbeats 8000000 in
set_option maxRecDepth 100000 in
theorem c_X12_isPlace (l : Launch) (D : va_G) (y : Nat → ClassId) (m0 : Nat) (m_read : Nat) (rl : Int) (rp : Int) (m_gut : Nat) (gl : Int) (gp : Int) (gx : Int) (gy : Int) (m_text : Nat) (tn : Int) (fn : Int) (m_boat : Nat) (m_coins : Nat) (vw : Int) (vm : Int) (vn : Int) (m_rest : Nat) (m_ends : Nat) (vc : Int) (m_chan : Nat) (m_spl : Nat) (fs : Int) (rn : Int) (m_rf : Nat) (m_rr : Nat) (m_ik : Nat) (m_km : Nat) (m_kb : Nat) (m_kc : Nat) (m_kf : Nat) (m_kr : Nat) (la : Int) (hla : rI la) (hgl : 0 ≤ gp ∧ gp ≤ 1000) : Met l yX12_isPlace wsX12_isPlace ({ frames := 1, cells := 0, slots := 0, locals := 25 } : Room) (pPc D y [(m0, .inr (11, [.ref m_read, zi rl, zi rp, .ref m_gut, zi gl, zi gp, zi gx, zi gy, .ref m_text, zi tn, zi fn, .ref m_boat, .ref m_coins, zi vw, zi vm, zi vn, .ref m_rest, .ref m_ends, zl vc, .ref m_chan, .ref m_spl, zi fs, zi rn, .ref m_rf, .ref m_rr, .ref m_ik, .ref m_km, .ref m_kb, .ref m_kc, .ref m_kf, .ref m_kr]))] [.ref m0, zi la]) (qV (zi (bI (0 ≤ la ∧ la ≤ gp - 1)))) 0 0 (fun _ => False) := by
  refine P_of (own := RX12) (cc := cX12_isPlace) (maxL := 2) (ret := some .boolean) (by decide) rfl rfl (Nat.le_of_ble_eq_true rfl) (fun p e s m below meth c ls hx hb hr hC hlocks hPr hG hl => ?_)
  have hC0 := hC
  obtain ⟨-, -, hml, hown, hts⟩ := hC0
  have hK := hG.1
  have hinX12 : ∀ w ∈ wsX120, w ∈ wsX12_isPlace := fun _ h => List.mem_cons_of_mem _ (List.mem_append_right _ h)
  have k1 := hts (.fieldLink RX12 67 "BoatsOfPaperModel" "places" "I") (List.mem_of_getElem? (i := 1) rfl)
  have hl : lv_has ls 2 [(0, .ref m0), (1, zi la)] := hl
  refine lv_iload_n hx hb dX12_isPlace_0 rfl (lv_at hl 1 rfl) ?_
  refine z_i2l hx hb (by omega) dX12_isPlace_1 ?_
  refine lv_lconst (v := iL 0) hx hb dX12_isPlace_2 rfl ?_
  refine lv_aload_n hx hb dX12_isPlace_3 rfl (lv_at hl 0 rfl) ?_
  refine va_get hx hb hts hinX12 hown hK hPr 0 rfl rfl 5 (by decide) k1 (fun _ h => h) rfl dX12_isPlace_4 ?_
  refine z_iconst hx hb dX12_isPlace_7 ?_
  refine z_isub hx hb dX12_isPlace_8 ?_
  refine z_i2l hx hb (by omega) dX12_isPlace_9 ?_
  refine z_pS (As := [zl la, zl 0, zl (gp - 1)]) (rest := []) hC (c_X12_in l D y la 0 (gp - 1) (by first | assumption | omega)) (va_cwS 3 hts gX12_isPlace_X12_in rfl rfl rfl (by decide +kernel) ⟨Nat.le_of_ble_eq_true rfl, Nat.le_of_ble_eq_true rfl⟩) hG va_P_nil rfl hl.1 rfl (Nat.le_of_ble_eq_true rfl) dX12_isPlace_10 ⟨Nat.le_of_ble_eq_true rfl, Nat.le_of_ble_eq_true rfl⟩ ?_
  exact z_zret0 hx hb hr hlocks (bI01 _) (rfl) dX12_isPlace_13
set_option maxHeartbeats 8000000 in
set_option maxRecDepth 100000 in
theorem c_X12_isBoat (l : Launch) (D : va_G) (y : Nat → ClassId) (m0 : Nat) (m_read : Nat) (rl : Int) (rp : Int) (m_gut : Nat) (gl : Int) (gp : Int) (gx : Int) (gy : Int) (m_text : Nat) (tn : Int) (fn : Int) (m_boat : Nat) (m_coins : Nat) (vw : Int) (vm : Int) (vn : Int) (m_rest : Nat) (m_ends : Nat) (vc : Int) (m_chan : Nat) (m_spl : Nat) (fs : Int) (rn : Int) (m_rf : Nat) (m_rr : Nat) (m_ik : Nat) (m_km : Nat) (m_kb : Nat) (m_kc : Nat) (m_kf : Nat) (m_kr : Nat) (bq : Int) (hla : rI bq) (hgl : 0 ≤ fn ∧ fn ≤ 1000) : Met l yX12_isBoat wsX12_isBoat ({ frames := 1, cells := 0, slots := 0, locals := 25 } : Room) (pPc D y [(m0, .inr (11, [.ref m_read, zi rl, zi rp, .ref m_gut, zi gl, zi gp, zi gx, zi gy, .ref m_text, zi tn, zi fn, .ref m_boat, .ref m_coins, zi vw, zi vm, zi vn, .ref m_rest, .ref m_ends, zl vc, .ref m_chan, .ref m_spl, zi fs, zi rn, .ref m_rf, .ref m_rr, .ref m_ik, .ref m_km, .ref m_kb, .ref m_kc, .ref m_kf, .ref m_kr]))] [.ref m0, zi bq]) (qV (zi (bI (0 ≤ bq ∧ bq ≤ fn - 1)))) 0 0 (fun _ => False) := by
  refine P_of (own := RX12) (cc := cX12_isBoat) (maxL := 2) (ret := some .boolean) (by decide) rfl rfl (Nat.le_of_ble_eq_true rfl) (fun p e s m below meth c ls hx hb hr hC hlocks hPr hG hl => ?_)
  have hC0 := hC
  obtain ⟨-, -, hml, hown, hts⟩ := hC0
  have hK := hG.1
  have hinX12 : ∀ w ∈ wsX120, w ∈ wsX12_isBoat := fun _ h => List.mem_cons_of_mem _ (List.mem_append_right _ h)
  have k1 := hts (.fieldLink RX12 114 "BoatsOfPaperModel" "boats" "I") (List.mem_of_getElem? (i := 1) rfl)
  have hl : lv_has ls 2 [(0, .ref m0), (1, zi bq)] := hl
  refine lv_iload_n hx hb dX12_isBoat_0 rfl (lv_at hl 1 rfl) ?_
  refine z_i2l hx hb (by omega) dX12_isBoat_1 ?_
  refine lv_lconst (v := iL 0) hx hb dX12_isBoat_2 rfl ?_
  refine lv_aload_n hx hb dX12_isBoat_3 rfl (lv_at hl 0 rfl) ?_
  refine va_get hx hb hts hinX12 hown hK hPr 0 rfl rfl 10 (by decide) k1 (fun _ h => h) rfl dX12_isBoat_4 ?_
  refine z_iconst hx hb dX12_isBoat_7 ?_
  refine z_isub hx hb dX12_isBoat_8 ?_
  refine z_i2l hx hb (by omega) dX12_isBoat_9 ?_
  refine z_pS (As := [zl bq, zl 0, zl (fn - 1)]) (rest := []) hC (c_X12_in l D y bq 0 (fn - 1) (by first | assumption | omega)) (va_cwS 3 hts gX12_isBoat_X12_in rfl rfl rfl (by decide +kernel) ⟨Nat.le_of_ble_eq_true rfl, Nat.le_of_ble_eq_true rfl⟩) hG va_P_nil rfl hl.1 rfl (Nat.le_of_ble_eq_true rfl) dX12_isBoat_10 ⟨Nat.le_of_ble_eq_true rfl, Nat.le_of_ble_eq_true rfl⟩ ?_
  exact z_zret0 hx hb hr hlocks (bI01 _) (rfl) dX12_isBoat_13
set_option maxHeartbeats 8000000 in
set_option maxRecDepth 100000 in
theorem c_X12_place (l : Launch) (D : va_G) (y : Nat → ClassId) (m0 : Nat) (m_read : Nat) (rl : Int) (rp : Int) (m_gut : Nat) (gl : Int) (gp : Int) (gx : Int) (gy : Int) (m_text : Nat) (tn : Int) (fn : Int) (m_boat : Nat) (m_coins : Nat) (vw : Int) (vm : Int) (vn : Int) (m_rest : Nat) (m_ends : Nat) (vc : Int) (m_chan : Nat) (m_spl : Nat) (fs : Int) (rn : Int) (m_rf : Nat) (m_rr : Nat) (m_ik : Nat) (m_km : Nat) (m_kb : Nat) (m_kc : Nat) (m_kf : Nat) (m_kr : Nat) (MG : Int → Int) (la : Int) (pl : Int) (hg : gOK gl gp gx gy MG) (hla : rI la) (hpl : rI pl) : Met l yX12_place wsX12_place ({ frames := 2, cells := 0, slots := 0, locals := 46 } : Room) (pPc D y [(m0, .inr (11, [.ref m_read, zi rl, zi rp, .ref m_gut, zi gl, zi gp, zi gx, zi gy, .ref m_text, zi tn, zi fn, .ref m_boat, .ref m_coins, zi vw, zi vm, zi vn, .ref m_rest, .ref m_ends, zl vc, .ref m_chan, .ref m_spl, zi fs, zi rn, .ref m_rf, .ref m_rr, .ref m_ik, .ref m_km, .ref m_kb, .ref m_kc, .ref m_kf, .ref m_kr])), (m_gut, .inl (y 0, 36, .inl (cI MG)))] [.ref m0, zi la, zi pl]) (qV (zi (if 0 ≤ la ∧ la < gl ∧ 0 ≤ pl ∧ pl < gp then MG (12 * la + pl) else -1))) 0 0 (fun _ => False) := by
  refine P_of (own := RX12) (cc := cX12_place) (maxL := 3) (ret := some .int) (by decide) rfl rfl (Nat.le_of_ble_eq_true rfl) (fun p e s m below meth c ls hx hb hr hC hlocks hPr hG hl => ?_)
  have hC0 := hC
  obtain ⟨-, -, hml, hown, hts⟩ := hC0
  have hK := hG.1
  have hinX12 : ∀ w ∈ wsX120, w ∈ wsX12_place := fun _ h => List.mem_cons_of_mem _ (List.mem_append_right _ h)
  have k1 := hts (.fieldLink RX12 13 "BoatsOfPaperModel" "gutter" "[I") (List.mem_of_getElem? (i := 1) rfl)
  have hl : lv_has ls 3 [(0, .ref m0), (1, zi la), (2, zi pl)] := hl
  obtain ⟨u1, u2, u3, u4, uk⟩ := id hg
  refine lv_aload_n hx hb dX12_place_0 rfl (lv_at hl 0 rfl) ?_
  refine lv_iload_n hx hb dX12_place_1 rfl (lv_at hl 1 rfl) ?_
  refine z_pV (As := [zi la]) (rest := []) hC (c_X12_isLane l D y m0 m_read rl rp m_gut gl gp gx gy m_text tn fn m_boat m_coins vw vm vn m_rest m_ends vc m_chan m_spl fs rn m_rf m_rr m_ik m_km m_kb m_kc m_kf m_kr la (by first | assumption | omega) (by first | assumption | omega)) (cwV 1 hts gX12_place_X12_isLane rfl rfl rfl (by decide +kernel) ⟨Nat.le_of_ble_eq_true rfl, Nat.le_of_ble_eq_true rfl⟩) hG (hPr.sub (ws' := [(m0, .inr (11, [.ref m_read, zi rl, zi rp, .ref m_gut, zi gl, zi gp, zi gx, zi gy, .ref m_text, zi tn, zi fn, .ref m_boat, .ref m_coins, zi vw, zi vm, zi vn, .ref m_rest, .ref m_ends, zl vc, .ref m_chan, .ref m_spl, zi fs, zi rn, .ref m_rf, .ref m_rr, .ref m_ik, .ref m_km, .ref m_kb, .ref m_kc, .ref m_kf, .ref m_kr]))]) [0] rfl) 0 rfl rfl rfl hl.1 rfl (Nat.le_of_ble_eq_true rfl) dX12_place_2 ⟨Nat.le_of_ble_eq_true rfl, Nat.le_of_ble_eq_true rfl⟩ ?_
  refine z_ifB_eq (tgt := 30) hx hb dX12_place_5 (by decide) (fun c_5 => ?_) (fun c_5 => ?_)
  ·
    refine z_iconst hx hb dX12_place_30 ?_
    exact z_iret0 hx hb hr hlocks (by first | exact (if_pos (by omega)).symm | exact (if_neg (by omega)).symm) dX12_place_31
  ·
    refine lv_aload_n hx hb dX12_place_8 rfl (lv_at hl 0 rfl) ?_
    refine lv_iload_n hx hb dX12_place_9 rfl (lv_at hl 2 rfl) ?_
    refine z_pV (As := [zi pl]) (rest := []) hC (c_X12_isPlace l D y m0 m_read rl rp m_gut gl gp gx gy m_text tn fn m_boat m_coins vw vm vn m_rest m_ends vc m_chan m_spl fs rn m_rf m_rr m_ik m_km m_kb m_kc m_kf m_kr pl (by first | assumption | omega) (by first | assumption | omega)) (cwV 1 hts gX12_place_X12_isPlace rfl rfl rfl (by decide +kernel) ⟨Nat.le_of_ble_eq_true rfl, Nat.le_of_ble_eq_true rfl⟩) hG (hPr.sub (ws' := [(m0, .inr (11, [.ref m_read, zi rl, zi rp, .ref m_gut, zi gl, zi gp, zi gx, zi gy, .ref m_text, zi tn, zi fn, .ref m_boat, .ref m_coins, zi vw, zi vm, zi vn, .ref m_rest, .ref m_ends, zl vc, .ref m_chan, .ref m_spl, zi fs, zi rn, .ref m_rf, .ref m_rr, .ref m_ik, .ref m_km, .ref m_kb, .ref m_kc, .ref m_kf, .ref m_kr]))]) [0] rfl) 0 rfl rfl rfl hl.1 rfl (Nat.le_of_ble_eq_true rfl) dX12_place_10 ⟨Nat.le_of_ble_eq_true rfl, Nat.le_of_ble_eq_true rfl⟩ ?_
    refine z_ifB_eq (tgt := 30) hx hb dX12_place_13 (by decide) (fun c_13 => ?_) (fun c_13 => ?_)
    ·
      refine z_iconst hx hb dX12_place_30 ?_
      exact z_iret0 hx hb hr hlocks (by first | exact (if_pos (by omega)).symm | exact (if_neg (by omega)).symm) dX12_place_31
    ·
      refine lv_aload_n hx hb dX12_place_16 rfl (lv_at hl 0 rfl) ?_
      refine va_get hx hb hts hinX12 hown hK hPr 0 rfl rfl 3 (by decide) k1 (fun _ h => h) rfl dX12_place_17 ?_
      refine z_bipush hx hb dX12_place_20 (by decide) ?_
      refine lv_iload_n hx hb dX12_place_22 rfl (lv_at hl 1 rfl) ?_
      refine z_imul hx hb dX12_place_23 ?_
      refine lv_iload_n hx hb dX12_place_24 rfl (lv_at hl 2 rfl) ?_
      refine z_iadd hx hb dX12_place_25 ?_
      refine z_iald hx hb hK hPr 1 0 rfl rfl (by omega) (by decide) dX12_place_26 ?_
      refine lv_goto (tgt := 31) hx hb dX12_place_27 (by decide) ?_
      exact z_iret0 hx hb hr hlocks (by first | exact (if_pos (by omega)).symm | exact (if_neg (by omega)).symm) dX12_place_31
set_option maxHeartbeats 8000000 in
set_option maxRecDepth 100000 in
theorem c_X12_mishap (l : Launch) (D : va_G) (y : Nat → ClassId) (m0 : Nat) (m_read : Nat) (rl : Int) (rp : Int) (m_gut : Nat) (gl : Int) (gp : Int) (gx : Int) (gy : Int) (m_text : Nat) (tn : Int) (fn : Int) (m_boat : Nat) (m_coins : Nat) (vw : Int) (vm : Int) (vn : Int) (m_rest : Nat) (m_ends : Nat) (vc : Int) (m_chan : Nat) (m_spl : Nat) (fs : Int) (rn : Int) (m_rf : Nat) (m_rr : Nat) (m_ik : Nat) (m_km : Nat) (m_kb : Nat) (m_kc : Nat) (m_kf : Nat) (m_kr : Nat) (xq : Int) (yq : Int) (hq : 0 ≤ xq ∧ xq ≤ 9 ∧ 0 ≤ yq ∧ yq ≤ 9) (sz : Nat) : Met l yX12_mishap wsX12_mishap ({ frames := 1, cells := 0, slots := 0, locals := 25 } : Room) (wPc D y [] [(m0, .inr (11, [.ref m_read, zi rl, zi rp, .ref m_gut, zi gl, zi gp, zi gx, zi gy, .ref m_text, zi tn, zi fn, .ref m_boat, .ref m_coins, zi vw, zi vm, zi vn, .ref m_rest, .ref m_ends, zl vc, .ref m_chan, .ref m_spl, zi fs, zi rn, .ref m_rf, .ref m_rr, .ref m_ik, .ref m_km, .ref m_kb, .ref m_kc, .ref m_kf, .ref m_kr]))] sz [.ref m0, zi xq, zi yq]) (wQ D (fun (_ : Unit) => some (zi (10 * gx + gy))) (fun (_ : Unit) => True) (fun (_ : Unit) => [(m0, .inr (11, [.ref m_read, zi rl, zi rp, .ref m_gut, zi gl, zi gp, zi xq, zi yq, .ref m_text, zi tn, zi fn, .ref m_boat, .ref m_coins, zi vw, zi vm, zi vn, .ref m_rest, .ref m_ends, zl vc, .ref m_chan, .ref m_spl, zi fs, zi rn, .ref m_rf, .ref m_rr, .ref m_ik, .ref m_km, .ref m_kb, .ref m_kc, .ref m_kf, .ref m_kr]))]) (va_A [(m0, .inr (11, [.ref m_read, zi rl, zi rp, .ref m_gut, zi gl, zi gp, zi gx, zi gy, .ref m_text, zi tn, zi fn, .ref m_boat, .ref m_coins, zi vw, zi vm, zi vn, .ref m_rest, .ref m_ends, zl vc, .ref m_chan, .ref m_spl, zi fs, zi rn, .ref m_rf, .ref m_rr, .ref m_ik, .ref m_km, .ref m_kb, .ref m_kc, .ref m_kf, .ref m_kr]))] sz)) 0 0 (va_A [(m0, .inr (11, [.ref m_read, zi rl, zi rp, .ref m_gut, zi gl, zi gp, zi gx, zi gy, .ref m_text, zi tn, zi fn, .ref m_boat, .ref m_coins, zi vw, zi vm, zi vn, .ref m_rest, .ref m_ends, zl vc, .ref m_chan, .ref m_spl, zi fs, zi rn, .ref m_rf, .ref m_rr, .ref m_ik, .ref m_km, .ref m_kb, .ref m_kc, .ref m_kf, .ref m_kr]))] sz) := by
  refine W_of (own := RX12) (cc := cX12_mishap) (maxL := 4) (ret := some .int) (by decide) rfl rfl (Nat.le_of_ble_eq_true rfl) (fun p e s m below meth c ls A hx hb hr hC hlocks hin0 hR0 hN hP hD hA hG hl => ?_)
  have hC0 := hC
  obtain ⟨-, -, hml, hown, hts⟩ := hC0
  have hK := hG.1
  have hS : va_S A s.heap s.heap [] := va_S.rf
  have hPr := hR0
  have hinX12 : ∀ w ∈ wsX120, w ∈ wsX12_mishap := fun _ h => List.mem_cons_of_mem _ (List.mem_append_right _ h)
  have k1 := hts (.constantLong RX12 112 (9)) (List.mem_of_getElem? (i := 1) rfl)
  have k2 := hts (.fieldLink RX12 70 "BoatsOfPaperModel" "leaf" "I") (List.mem_of_getElem? (i := 2) rfl)
  have k3 := hts (.fieldLink RX12 73 "BoatsOfPaperModel" "drain" "I") (List.mem_of_getElem? (i := 3) rfl)
  have hl : lv_has ls 4 [(0, .ref m0), (1, zi xq), (2, zi yq)] := hl
  refine lv_iload_n hx hb dX12_mishap_0 rfl (lv_at hl 1 rfl) ?_
  refine z_i2l hx hb (by omega) dX12_mishap_1 ?_
  refine lv_lconst (v := iL 0) hx hb dX12_mishap_2 rfl ?_
  refine lv_ldc2 (v := iL 9) hx hb hown k1 dX12_mishap_3 ?_
  refine z_pS (As := [zl xq, zl 0, zl 9]) (rest := []) hC (c_X12_in l D y xq 0 9 (by first | assumption | omega)) (va_cwS 3 hts gX12_mishap_X12_in rfl rfl rfl (by decide +kernel) ⟨Nat.le_of_ble_eq_true rfl, Nat.le_of_ble_eq_true rfl⟩) hG va_P_nil rfl hl.1 rfl (Nat.le_of_ble_eq_true rfl) dX12_mishap_6 ⟨Nat.le_of_ble_eq_true rfl, Nat.le_of_ble_eq_true rfl⟩ ?_
  refine z_ifB_eq (tgt := 24) hx hb dX12_mishap_9 (by decide) (fun c_9 => ?_) (fun c_9 => ?_)
  · exfalso; omega
  ·
    refine lv_iload_n hx hb dX12_mishap_12 rfl (lv_at hl 2 rfl) ?_
    refine z_i2l hx hb (by omega) dX12_mishap_13 ?_
    refine lv_lconst (v := iL 0) hx hb dX12_mishap_14 rfl ?_
    refine lv_ldc2 (v := iL 9) hx hb hown k1 dX12_mishap_15 ?_
    refine z_pS (As := [zl yq, zl 0, zl 9]) (rest := []) hC (c_X12_in l D y yq 0 9 (by first | assumption | omega)) (va_cwS 3 hts gX12_mishap_X12_in rfl rfl rfl (by decide +kernel) ⟨Nat.le_of_ble_eq_true rfl, Nat.le_of_ble_eq_true rfl⟩) hG va_P_nil rfl hl.1 rfl (Nat.le_of_ble_eq_true rfl) dX12_mishap_18 ⟨Nat.le_of_ble_eq_true rfl, Nat.le_of_ble_eq_true rfl⟩ ?_
    refine z_ifB_ne (tgt := 27) hx hb dX12_mishap_21 (by decide) (fun c_21 => ?_) (fun c_21 => ?_)
    ·
      refine z_bipush hx hb dX12_mishap_27 (by decide) ?_
      refine lv_aload_n hx hb dX12_mishap_29 rfl (lv_at hl 0 rfl) ?_
      refine va_get hx hb hts hinX12 hown hK hP 0 rfl rfl 6 (by decide) k2 (fun _ h => h) rfl dX12_mishap_30 ?_
      refine z_imul hx hb dX12_mishap_33 ?_
      refine lv_aload_n hx hb dX12_mishap_34 rfl (lv_at hl 0 rfl) ?_
      refine va_get hx hb hts hinX12 hown hK hP 0 rfl rfl 7 (by decide) k3 (fun _ h => h) rfl dX12_mishap_35 ?_
      refine z_iadd hx hb dX12_mishap_38 ?_
      refine lv_istore_n (lv' := [(3, zi ((10 * gx) + gy)), (0, .ref m0), (1, zi xq), (2, zi yq)]) hx hb dX12_mishap_39 rfl hl (by decide) rfl (fun ls hl => ?_)
      refine lv_aload_n hx hb dX12_mishap_40 rfl (lv_at hl 1 rfl) ?_
      refine lv_iload_n hx hb dX12_mishap_41 rfl (lv_at hl 2 rfl) ?_
      refine va_put hx hb hts hinX12 tyX12 tyX12_ok nmX12 hown hK hP hD hS 0 rfl rfl 6 (by decide) k2 (fun _ h => h) rfl (tyX12_ok 6 (by decide)) rfl rfl (Nat.le_of_ble_eq_true rfl) dX12_mishap_42 (fun H locs hP hD hS => ?_)
      have hP : va_P D vwCl [(m0, .inr (11, [.ref m_read, zi rl, zi rp, .ref m_gut, zi gl, zi gp, zi xq, zi gy, .ref m_text, zi tn, zi fn, .ref m_boat, .ref m_coins, zi vw, zi vm, zi vn, .ref m_rest, .ref m_ends, zl vc, .ref m_chan, .ref m_spl, zi fs, zi rn, .ref m_rf, .ref m_rr, .ref m_ik, .ref m_km, .ref m_kb, .ref m_kc, .ref m_kf, .ref m_kr]))] H := hP
      have hD : va_D A [(m0, .inr (11, [.ref m_read, zi rl, zi rp, .ref m_gut, zi gl, zi gp, zi xq, zi gy, .ref m_text, zi tn, zi fn, .ref m_boat, .ref m_coins, zi vw, zi vm, zi vn, .ref m_rest, .ref m_ends, zl vc, .ref m_chan, .ref m_spl, zi fs, zi rn, .ref m_rf, .ref m_rr, .ref m_ik, .ref m_km, .ref m_kb, .ref m_kc, .ref m_kf, .ref m_kr]))] := hD
      refine lv_aload_n hx hb dX12_mishap_45 rfl (lv_at hl 1 rfl) ?_
      refine lv_iload_n hx hb dX12_mishap_46 rfl (lv_at hl 3 rfl) ?_
      refine va_put hx hb hts hinX12 tyX12 tyX12_ok nmX12 hown hK hP hD hS 0 rfl rfl 7 (by decide) k3 (fun _ h => h) rfl (tyX12_ok 7 (by decide)) rfl rfl (Nat.le_of_ble_eq_true rfl) dX12_mishap_47 (fun H locs hP hD hS => ?_)
      have hP : va_P D vwCl [(m0, .inr (11, [.ref m_read, zi rl, zi rp, .ref m_gut, zi gl, zi gp, zi xq, zi yq, .ref m_text, zi tn, zi fn, .ref m_boat, .ref m_coins, zi vw, zi vm, zi vn, .ref m_rest, .ref m_ends, zl vc, .ref m_chan, .ref m_spl, zi fs, zi rn, .ref m_rf, .ref m_rr, .ref m_ik, .ref m_km, .ref m_kb, .ref m_kc, .ref m_kf, .ref m_kr]))] H := hP
      have hD : va_D A [(m0, .inr (11, [.ref m_read, zi rl, zi rp, .ref m_gut, zi gl, zi gp, zi xq, zi yq, .ref m_text, zi tn, zi fn, .ref m_boat, .ref m_coins, zi vw, zi vm, zi vn, .ref m_rest, .ref m_ends, zl vc, .ref m_chan, .ref m_spl, zi fs, zi rn, .ref m_rf, .ref m_rr, .ref m_ik, .ref m_km, .ref m_kb, .ref m_kc, .ref m_kf, .ref m_kr]))] := hD
      refine lv_iload_n hx hb dX12_mishap_50 rfl (lv_at hl 0 rfl) ?_
      exact z_iretW hx hb hr hlocks () (rfl) (trivial) (hP.sub [0] rfl) (hD.sub [0] (by decide) rfl) hS dX12_mishap_51
    · exfalso; omega
set_option maxHeartbeats 8000000 in
set_option maxRecDepth 100000 in
theorem c_X12_mishap_no (l : Launch) (D : va_G) (y : Nat → ClassId) (m0 : Nat) (m_read : Nat) (rl : Int) (rp : Int) (m_gut : Nat) (gl : Int) (gp : Int) (gx : Int) (gy : Int) (m_text : Nat) (tn : Int) (fn : Int) (m_boat : Nat) (m_coins : Nat) (vw : Int) (vm : Int) (vn : Int) (m_rest : Nat) (m_ends : Nat) (vc : Int) (m_chan : Nat) (m_spl : Nat) (fs : Int) (rn : Int) (m_rf : Nat) (m_rr : Nat) (m_ik : Nat) (m_km : Nat) (m_kb : Nat) (m_kc : Nat) (m_kf : Nat) (m_kr : Nat) (xq : Int) (yq : Int) (hx9 : rI xq) (hy9 : rI yq) (hq : ¬ (0 ≤ xq ∧ xq ≤ 9 ∧ 0 ≤ yq ∧ yq ≤ 9)) : Met l yX12_mishap wsX12_mishap ({ frames := 1, cells := 0, slots := 0, locals := 25 } : Room) (pPc D y [(m0, .inr (11, [.ref m_read, zi rl, zi rp, .ref m_gut, zi gl, zi gp, zi gx, zi gy, .ref m_text, zi tn, zi fn, .ref m_boat, .ref m_coins, zi vw, zi vm, zi vn, .ref m_rest, .ref m_ends, zl vc, .ref m_chan, .ref m_spl, zi fs, zi rn, .ref m_rf, .ref m_rr, .ref m_ik, .ref m_km, .ref m_kb, .ref m_kc, .ref m_kf, .ref m_kr]))] [.ref m0, zi xq, zi yq]) (qV (zi (-2))) 0 0 (fun _ => False) := by
  refine P_of (own := RX12) (cc := cX12_mishap) (maxL := 4) (ret := some .int) (by decide) rfl rfl (Nat.le_of_ble_eq_true rfl) (fun p e s m below meth c ls hx hb hr hC hlocks hPr hG hl => ?_)
  have hC0 := hC
  obtain ⟨-, -, hml, hown, hts⟩ := hC0
  have hK := hG.1
  have k1 := hts (.constantLong RX12 112 (9)) (List.mem_of_getElem? (i := 1) rfl)
  have hl : lv_has ls 4 [(0, .ref m0), (1, zi xq), (2, zi yq)] := hl
  refine lv_iload_n hx hb dX12_mishap_0 rfl (lv_at hl 1 rfl) ?_
  refine z_i2l hx hb (by omega) dX12_mishap_1 ?_
  refine lv_lconst (v := iL 0) hx hb dX12_mishap_2 rfl ?_
  refine lv_ldc2 (v := iL 9) hx hb hown k1 dX12_mishap_3 ?_
  refine z_pS (As := [zl xq, zl 0, zl 9]) (rest := []) hC (c_X12_in l D y xq 0 9 (by first | assumption | omega)) (va_cwS 3 hts gX12_mishap_X12_in rfl rfl rfl (by decide +kernel) ⟨Nat.le_of_ble_eq_true rfl, Nat.le_of_ble_eq_true rfl⟩) hG va_P_nil rfl hl.1 rfl (Nat.le_of_ble_eq_true rfl) dX12_mishap_6 ⟨Nat.le_of_ble_eq_true rfl, Nat.le_of_ble_eq_true rfl⟩ ?_
  refine z_ifB_eq (tgt := 24) hx hb dX12_mishap_9 (by decide) (fun c_9 => ?_) (fun c_9 => ?_)
  ·
    refine z_bipush hx hb dX12_mishap_24 (by decide) ?_
    exact z_iret0 hx hb hr hlocks (rfl) dX12_mishap_26
  ·
    refine lv_iload_n hx hb dX12_mishap_12 rfl (lv_at hl 2 rfl) ?_
    refine z_i2l hx hb (by omega) dX12_mishap_13 ?_
    refine lv_lconst (v := iL 0) hx hb dX12_mishap_14 rfl ?_
    refine lv_ldc2 (v := iL 9) hx hb hown k1 dX12_mishap_15 ?_
    refine z_pS (As := [zl yq, zl 0, zl 9]) (rest := []) hC (c_X12_in l D y yq 0 9 (by first | assumption | omega)) (va_cwS 3 hts gX12_mishap_X12_in rfl rfl rfl (by decide +kernel) ⟨Nat.le_of_ble_eq_true rfl, Nat.le_of_ble_eq_true rfl⟩) hG va_P_nil rfl hl.1 rfl (Nat.le_of_ble_eq_true rfl) dX12_mishap_18 ⟨Nat.le_of_ble_eq_true rfl, Nat.le_of_ble_eq_true rfl⟩ ?_
    refine z_ifB_ne (tgt := 27) hx hb dX12_mishap_21 (by decide) (fun c_21 => ?_) (fun c_21 => ?_)
    · exfalso; omega
    ·
      refine z_bipush hx hb dX12_mishap_24 (by decide) ?_
      exact z_iret0 hx hb hr hlocks (rfl) dX12_mishap_26
set_option maxHeartbeats 8000000 in
set_option maxRecDepth 100000 in
theorem c_X12_write_no (l : Launch) (D : va_G) (y : Nat → ClassId) (m0 : Nat) (m_read : Nat) (rl : Int) (rp : Int) (m_gut : Nat) (gl : Int) (gp : Int) (gx : Int) (gy : Int) (m_text : Nat) (tn : Int) (fn : Int) (m_boat : Nat) (m_coins : Nat) (vw : Int) (vm : Int) (vn : Int) (m_rest : Nat) (m_ends : Nat) (vc : Int) (m_chan : Nat) (m_spl : Nat) (fs : Int) (rn : Int) (m_rf : Nat) (m_rr : Nat) (m_ik : Nat) (m_km : Nat) (m_kb : Nat) (m_kc : Nat) (m_kf : Nat) (m_kr : Nat) (nq : Int) (vq : Int) (hr9 : rI nq) (hq : ¬ (1 ≤ nq ∧ nq ≤ 8)) : Met l yX12_write wsX12_write ({ frames := 1, cells := 0, slots := 0, locals := 25 } : Room) (pPc D y [(m0, .inr (11, [.ref m_read, zi rl, zi rp, .ref m_gut, zi gl, zi gp, zi gx, zi gy, .ref m_text, zi tn, zi fn, .ref m_boat, .ref m_coins, zi vw, zi vm, zi vn, .ref m_rest, .ref m_ends, zl vc, .ref m_chan, .ref m_spl, zi fs, zi rn, .ref m_rf, .ref m_rr, .ref m_ik, .ref m_km, .ref m_kb, .ref m_kc, .ref m_kf, .ref m_kr]))] [.ref m0, zi nq, zl vq]) (qV (zi (-2))) 0 0 (fun _ => False) := by
  refine P_of (own := RX12) (cc := cX12_write) (maxL := 5) (ret := some .int) (by decide) rfl rfl (Nat.le_of_ble_eq_true rfl) (fun p e s m below meth c ls hx hb hr hC hlocks hPr hG hl => ?_)
  have hC0 := hC
  obtain ⟨-, -, hml, hown, hts⟩ := hC0
  have hK := hG.1
  have k1 := hts (.constantLong RX12 76 (8)) (List.mem_of_getElem? (i := 1) rfl)
  have hl : lv_has ls 5 [(0, .ref m0), (1, zi nq), (2, zl vq)] := hl
  refine lv_iload_n hx hb dX12_write_0 rfl (lv_at hl 1 rfl) ?_
  refine z_i2l hx hb (by omega) dX12_write_1 ?_
  refine lv_lconst (v := iL 1) hx hb dX12_write_2 rfl ?_
  refine lv_ldc2 (v := iL 8) hx hb hown k1 dX12_write_3 ?_
  refine z_pS (As := [zl nq, zl 1, zl 8]) (rest := []) hC (c_X12_in l D y nq 1 8 (by first | assumption | omega)) (va_cwS 3 hts gX12_write_X12_in rfl rfl rfl (by decide +kernel) ⟨Nat.le_of_ble_eq_true rfl, Nat.le_of_ble_eq_true rfl⟩) hG va_P_nil rfl hl.1 rfl (Nat.le_of_ble_eq_true rfl) dX12_write_6 ⟨Nat.le_of_ble_eq_true rfl, Nat.le_of_ble_eq_true rfl⟩ ?_
  refine z_ifB_ne (tgt := 15) hx hb dX12_write_9 (by decide) (fun c_9 => ?_) (fun c_9 => ?_)
  · exfalso; omega
  ·
    refine z_bipush hx hb dX12_write_12 (by decide) ?_
    exact z_iret0 hx hb hr hlocks (rfl) dX12_write_14
set_option maxHeartbeats 8000000 in
set_option maxRecDepth 100000 in
theorem c_X12_write_full (l : Launch) (D : va_G) (y : Nat → ClassId) (m0 : Nat) (m_read : Nat) (rl : Int) (rp : Int) (m_gut : Nat) (gl : Int) (gp : Int) (gx : Int) (gy : Int) (m_text : Nat) (tn : Int) (fn : Int) (m_boat : Nat) (m_coins : Nat) (vw : Int) (vm : Int) (vn : Int) (m_rest : Nat) (m_ends : Nat) (vc : Int) (m_chan : Nat) (m_spl : Nat) (fs : Int) (rn : Int) (m_rf : Nat) (m_rr : Nat) (m_ik : Nat) (m_km : Nat) (m_kb : Nat) (m_kc : Nat) (m_kf : Nat) (m_kr : Nat) (nq : Int) (vq : Int) (hq : 0 ≤ tn ∧ tn ≤ 40 ∧ 1 ≤ nq ∧ nq ≤ 8 ∧ 40 < tn + nq) : Met l yX12_write wsX12_write ({ frames := 1, cells := 0, slots := 0, locals := 25 } : Room) (pPc D y [(m0, .inr (11, [.ref m_read, zi rl, zi rp, .ref m_gut, zi gl, zi gp, zi gx, zi gy, .ref m_text, zi tn, zi fn, .ref m_boat, .ref m_coins, zi vw, zi vm, zi vn, .ref m_rest, .ref m_ends, zl vc, .ref m_chan, .ref m_spl, zi fs, zi rn, .ref m_rf, .ref m_rr, .ref m_ik, .ref m_km, .ref m_kb, .ref m_kc, .ref m_kf, .ref m_kr]))] [.ref m0, zi nq, zl vq]) (qV (zi (-4))) 0 0 (fun _ => False) := by
  refine P_of (own := RX12) (cc := cX12_write) (maxL := 5) (ret := some .int) (by decide) rfl rfl (Nat.le_of_ble_eq_true rfl) (fun p e s m below meth c ls hx hb hr hC hlocks hPr hG hl => ?_)
  have hC0 := hC
  obtain ⟨-, -, hml, hown, hts⟩ := hC0
  have hK := hG.1
  have hinX12 : ∀ w ∈ wsX120, w ∈ wsX12_write := fun _ h => List.mem_cons_of_mem _ (List.mem_append_right _ h)
  have k1 := hts (.constantLong RX12 76 (8)) (List.mem_of_getElem? (i := 1) rfl)
  have k2 := hts (.fieldLink RX12 82 "BoatsOfPaperModel" "length" "I") (List.mem_of_getElem? (i := 2) rfl)
  have hl : lv_has ls 5 [(0, .ref m0), (1, zi nq), (2, zl vq)] := hl
  refine lv_iload_n hx hb dX12_write_0 rfl (lv_at hl 1 rfl) ?_
  refine z_i2l hx hb (by omega) dX12_write_1 ?_
  refine lv_lconst (v := iL 1) hx hb dX12_write_2 rfl ?_
  refine lv_ldc2 (v := iL 8) hx hb hown k1 dX12_write_3 ?_
  refine z_pS (As := [zl nq, zl 1, zl 8]) (rest := []) hC (c_X12_in l D y nq 1 8 (by first | assumption | omega)) (va_cwS 3 hts gX12_write_X12_in rfl rfl rfl (by decide +kernel) ⟨Nat.le_of_ble_eq_true rfl, Nat.le_of_ble_eq_true rfl⟩) hG va_P_nil rfl hl.1 rfl (Nat.le_of_ble_eq_true rfl) dX12_write_6 ⟨Nat.le_of_ble_eq_true rfl, Nat.le_of_ble_eq_true rfl⟩ ?_
  refine z_ifB_ne (tgt := 15) hx hb dX12_write_9 (by decide) (fun c_9 => ?_) (fun c_9 => ?_)
  ·
    refine lv_aload_n hx hb dX12_write_15 rfl (lv_at hl 0 rfl) ?_
    refine va_get hx hb hts hinX12 hown hK hPr 0 rfl rfl 9 (by decide) k2 (fun _ h => h) rfl dX12_write_16 ?_
    refine lv_iload_n hx hb dX12_write_19 rfl (lv_at hl 1 rfl) ?_
    refine z_iadd hx hb dX12_write_20 ?_
    refine z_bipush hx hb dX12_write_21 (by decide) ?_
    refine z_icmp_le (tgt := 29) hx hb (by omega) (by omega) dX12_write_23 (by decide) (fun c_23 => ?_) (fun c_23 => ?_)
    · exfalso; omega
    ·
      refine z_bipush hx hb dX12_write_26 (by decide) ?_
      exact z_iret0 hx hb hr hlocks (rfl) dX12_write_28
  · exfalso; omega
set_option maxHeartbeats 8000000 in
set_option maxRecDepth 100000 in
theorem c_X12_write (l : Launch) (D : va_G) (y : Nat → ClassId) (m0 : Nat) (m_read : Nat) (rl : Int) (rp : Int) (m_gut : Nat) (gl : Int) (gp : Int) (gx : Int) (gy : Int) (m_text : Nat) (tn : Int) (fn : Int) (m_boat : Nat) (m_coins : Nat) (vw : Int) (vm : Int) (vn : Int) (m_rest : Nat) (m_ends : Nat) (vc : Int) (m_chan : Nat) (m_spl : Nat) (fs : Int) (rn : Int) (m_rf : Nat) (m_rr : Nat) (m_ik : Nat) (m_km : Nat) (m_kb : Nat) (m_kc : Nat) (m_kf : Nat) (m_kr : Nat) (MT : Int → Int) (nq : Int) (vq : Int) (hq : 0 ≤ tn ∧ tn ≤ 40 ∧ 1 ≤ nq ∧ nq ≤ 8 ∧ tn + nq ≤ 40) (hvq : rL vq) (sz : Nat) : Met l yX12_write wsX12_write ({ frames := 1, cells := 0, slots := 0, locals := 25 } : Room) (wPc D y [] [(m0, .inr (11, [.ref m_read, zi rl, zi rp, .ref m_gut, zi gl, zi gp, zi gx, zi gy, .ref m_text, zi tn, zi fn, .ref m_boat, .ref m_coins, zi vw, zi vm, zi vn, .ref m_rest, .ref m_ends, zl vc, .ref m_chan, .ref m_spl, zi fs, zi rn, .ref m_rf, .ref m_rr, .ref m_ik, .ref m_km, .ref m_kb, .ref m_kc, .ref m_kf, .ref m_kr])), (m_text, .inl (y 0, 40, .inl (cI MT)))] sz [.ref m0, zi nq, zl vq]) (wQ D (fun (MT2 : (Int → Int)) => some (zi (tn + nq))) (fun (MT2 : (Int → Int)) => (∀ j : Int, MT2 j = if tn ≤ j ∧ j < tn + nq then byteV vq (nq - 1 - (j - tn)) else MT j)) (fun (MT2 : (Int → Int)) => [(m0, .inr (11, [.ref m_read, zi rl, zi rp, .ref m_gut, zi gl, zi gp, zi gx, zi gy, .ref m_text, zi (tn + nq), zi fn, .ref m_boat, .ref m_coins, zi vw, zi vm, zi vn, .ref m_rest, .ref m_ends, zl vc, .ref m_chan, .ref m_spl, zi fs, zi rn, .ref m_rf, .ref m_rr, .ref m_ik, .ref m_km, .ref m_kb, .ref m_kc, .ref m_kf, .ref m_kr])), (m_text, .inl (y 0, 40, .inl (cI MT2)))]) (va_A [(m0, .inr (11, [.ref m_read, zi rl, zi rp, .ref m_gut, zi gl, zi gp, zi gx, zi gy, .ref m_text, zi tn, zi fn, .ref m_boat, .ref m_coins, zi vw, zi vm, zi vn, .ref m_rest, .ref m_ends, zl vc, .ref m_chan, .ref m_spl, zi fs, zi rn, .ref m_rf, .ref m_rr, .ref m_ik, .ref m_km, .ref m_kb, .ref m_kc, .ref m_kf, .ref m_kr])), (m_text, .inl (y 0, 40, .inl (cI MT)))] sz)) 0 0 (va_A [(m0, .inr (11, [.ref m_read, zi rl, zi rp, .ref m_gut, zi gl, zi gp, zi gx, zi gy, .ref m_text, zi tn, zi fn, .ref m_boat, .ref m_coins, zi vw, zi vm, zi vn, .ref m_rest, .ref m_ends, zl vc, .ref m_chan, .ref m_spl, zi fs, zi rn, .ref m_rf, .ref m_rr, .ref m_ik, .ref m_km, .ref m_kb, .ref m_kc, .ref m_kf, .ref m_kr])), (m_text, .inl (y 0, 40, .inl (cI MT)))] sz) := by
  refine W_of (own := RX12) (cc := cX12_write) (maxL := 5) (ret := some .int) (by decide) rfl rfl (Nat.le_of_ble_eq_true rfl) (fun p e s m below meth c ls A hx hb hr hC hlocks hin0 hR0 hN hP hD hA hG hl => ?_)
  have hC0 := hC
  obtain ⟨-, -, hml, hown, hts⟩ := hC0
  have hK := hG.1
  have hS : va_S A s.heap s.heap [] := va_S.rf
  have hPr := hR0
  have hinX12 : ∀ w ∈ wsX120, w ∈ wsX12_write := fun _ h => List.mem_cons_of_mem _ (List.mem_append_right _ h)
  have k1 := hts (.constantLong RX12 76 (8)) (List.mem_of_getElem? (i := 1) rfl)
  have k2 := hts (.fieldLink RX12 82 "BoatsOfPaperModel" "length" "I") (List.mem_of_getElem? (i := 2) rfl)
  have k3 := hts (.fieldLink RX12 16 "BoatsOfPaperModel" "text" "[I") (List.mem_of_getElem? (i := 3) rfl)
  have k4 := hts (.constantLong RX12 85 (255)) (List.mem_of_getElem? (i := 4) rfl)
  have hl : lv_has ls 5 [(0, .ref m0), (1, zi nq), (2, zl vq)] := hl
  refine lv_iload_n hx hb dX12_write_0 rfl (lv_at hl 1 rfl) ?_
  refine z_i2l hx hb (by omega) dX12_write_1 ?_
  refine lv_lconst (v := iL 1) hx hb dX12_write_2 rfl ?_
  refine lv_ldc2 (v := iL 8) hx hb hown k1 dX12_write_3 ?_
  refine z_pS (As := [zl nq, zl 1, zl 8]) (rest := []) hC (c_X12_in l D y nq 1 8 (by first | assumption | omega)) (va_cwS 3 hts gX12_write_X12_in rfl rfl rfl (by decide +kernel) ⟨Nat.le_of_ble_eq_true rfl, Nat.le_of_ble_eq_true rfl⟩) hG va_P_nil rfl hl.1 rfl (Nat.le_of_ble_eq_true rfl) dX12_write_6 ⟨Nat.le_of_ble_eq_true rfl, Nat.le_of_ble_eq_true rfl⟩ ?_
  refine z_ifB_ne (tgt := 15) hx hb dX12_write_9 (by decide) (fun c_9 => ?_) (fun c_9 => ?_)
  ·
    refine lv_aload_n hx hb dX12_write_15 rfl (lv_at hl 0 rfl) ?_
    refine va_get hx hb hts hinX12 hown hK hP 0 rfl rfl 9 (by decide) k2 (fun _ h => h) rfl dX12_write_16 ?_
    refine lv_iload_n hx hb dX12_write_19 rfl (lv_at hl 1 rfl) ?_
    refine z_iadd hx hb dX12_write_20 ?_
    refine z_bipush hx hb dX12_write_21 (by decide) ?_
    refine z_icmp_le (tgt := 29) hx hb (by omega) (by omega) dX12_write_23 (by decide) (fun c_23 => ?_) (fun c_23 => ?_)
    ·
      refine lv_iload_n hx hb dX12_write_29 rfl (lv_at hl 1 rfl) ?_
      refine z_iconst hx hb dX12_write_30 ?_
      refine z_isub hx hb dX12_write_31 ?_
      refine lv_istore (lv' := [(4, zi (nq - 1)), (0, .ref m0), (1, zi nq), (2, zl vq)]) hx hb dX12_write_32 hl (by decide) rfl (fun ls hl => ?_)
      refine z_loop (σ := Int × Int × (Int → Int)) (fun x9 H lc ls => match x9 with | (k, L9, T1) => ((-1 ≤ k ∧ k ≤ nq - 1 ∧ L9 = tn + (nq - 1 - k)) ∧ (∀ j : Int, T1 j = if tn ≤ j ∧ j < tn + (nq - 1 - k) then byteV vq (nq - 1 - (j - tn)) else MT j)) ∧ lv_has ls 5 [(4, zi k), (0, .ref m0), (1, zi nq), (2, zl vq)] ∧ va_P D vwCl [(m0, .inr (11, [.ref m_read, zi rl, zi rp, .ref m_gut, zi gl, zi gp, zi gx, zi gy, .ref m_text, zi L9, zi fn, .ref m_boat, .ref m_coins, zi vw, zi vm, zi vn, .ref m_rest, .ref m_ends, zl vc, .ref m_chan, .ref m_spl, zi fs, zi rn, .ref m_rf, .ref m_rr, .ref m_ik, .ref m_km, .ref m_kb, .ref m_kc, .ref m_kf, .ref m_kr])), (m_text, .inl (y 0, 40, .inl (cI T1)))] H ∧ va_D A [(m0, .inr (11, [.ref m_read, zi rl, zi rp, .ref m_gut, zi gl, zi gp, zi gx, zi gy, .ref m_text, zi L9, zi fn, .ref m_boat, .ref m_coins, zi vw, zi vm, zi vn, .ref m_rest, .ref m_ends, zl vc, .ref m_chan, .ref m_spl, zi fs, zi rn, .ref m_rf, .ref m_rr, .ref m_ik, .ref m_km, .ref m_kb, .ref m_kc, .ref m_kf, .ref m_kr])), (m_text, .inl (y 0, 40, .inl (cI T1)))] ∧ va_S A s.heap H lc) (fun x9  => match x9 with | (k, L9, T1) => ((k + 1).toNat)) ?_ (nq - 1, tn, MT) ⟨⟨by omega, fun j => (if_neg (by omega)).symm⟩, lv_sub hl [0, 1, 2, 3] rfl, hP.sub [0, 1] rfl, hD.sub [0, 1] (by decide) rfl, hS⟩
      rintro ⟨k, L9, T1⟩ H lc ls ⟨hi34, hl, hP, hD, hS⟩ ih34
      have hP : va_P D vwCl [(m0, .inr (11, [.ref m_read, zi rl, zi rp, .ref m_gut, zi gl, zi gp, zi gx, zi gy, .ref m_text, zi L9, zi fn, .ref m_boat, .ref m_coins, zi vw, zi vm, zi vn, .ref m_rest, .ref m_ends, zl vc, .ref m_chan, .ref m_spl, zi fs, zi rn, .ref m_rf, .ref m_rr, .ref m_ik, .ref m_km, .ref m_kb, .ref m_kc, .ref m_kf, .ref m_kr])), (m_text, .inl (y 0, 40, .inl (cI T1)))] H := hP
      have hD : va_D A [(m0, .inr (11, [.ref m_read, zi rl, zi rp, .ref m_gut, zi gl, zi gp, zi gx, zi gy, .ref m_text, zi L9, zi fn, .ref m_boat, .ref m_coins, zi vw, zi vm, zi vn, .ref m_rest, .ref m_ends, zl vc, .ref m_chan, .ref m_spl, zi fs, zi rn, .ref m_rf, .ref m_rr, .ref m_ik, .ref m_km, .ref m_kb, .ref m_kc, .ref m_kf, .ref m_kr])), (m_text, .inl (y 0, 40, .inl (cI T1)))] := hD
      refine lv_iload hx hb dX12_write_34 (lv_at hl 0 rfl) ?_
      refine z_if_lt (tgt := 76) hx hb (by omega) dX12_write_36 (by decide) (fun c_36 => ?_) (fun c_36 => ?_)
      ·
        have hP : va_P D vwCl [(m0, .inr (11, [.ref m_read, zi rl, zi rp, .ref m_gut, zi gl, zi gp, zi gx, zi gy, .ref m_text, zi (tn + nq), zi fn, .ref m_boat, .ref m_coins, zi vw, zi vm, zi vn, .ref m_rest, .ref m_ends, zl vc, .ref m_chan, .ref m_spl, zi fs, zi rn, .ref m_rf, .ref m_rr, .ref m_ik, .ref m_km, .ref m_kb, .ref m_kc, .ref m_kf, .ref m_kr])), (m_text, .inl (y 0, 40, .inl (cI T1)))] H := by rw [show tn + nq = L9 by omega]; exact hP
        have hD : va_D A [(m0, .inr (11, [.ref m_read, zi rl, zi rp, .ref m_gut, zi gl, zi gp, zi gx, zi gy, .ref m_text, zi (tn + nq), zi fn, .ref m_boat, .ref m_coins, zi vw, zi vm, zi vn, .ref m_rest, .ref m_ends, zl vc, .ref m_chan, .ref m_spl, zi fs, zi rn, .ref m_rf, .ref m_rr, .ref m_ik, .ref m_km, .ref m_kb, .ref m_kc, .ref m_kf, .ref m_kr])), (m_text, .inl (y 0, 40, .inl (cI T1)))] := by rw [show tn + nq = L9 by omega]; exact hD
        refine lv_aload_n hx hb dX12_write_76 rfl (lv_at hl 1 rfl) ?_
        refine va_get hx hb hts hinX12 hown hK hP 0 rfl rfl 9 (by decide) k2 (fun _ h => h) rfl dX12_write_77 ?_
        exact z_iretW hx hb hr hlocks T1 (rfl) (fun j => by rw [hi34.2 j, show nq - 1 - k = nq by omega]) (hP.sub [0, 1] rfl) (hD.sub [0, 1] (by decide) rfl) hS dX12_write_80
      ·
        refine lv_aload_n hx hb dX12_write_39 rfl (lv_at hl 1 rfl) ?_
        refine va_get hx hb hts hinX12 hown hK hP 0 rfl rfl 8 (by decide) k3 (fun _ h => h) rfl dX12_write_40 ?_
        refine lv_aload_n hx hb dX12_write_43 rfl (lv_at hl 1 rfl) ?_
        refine va_get hx hb hts hinX12 hown hK hP 0 rfl rfl 9 (by decide) k2 (fun _ h => h) rfl dX12_write_44 ?_
        refine lv_lload_n hx hb dX12_write_47 rfl (lv_at hl 3 rfl) ?_
        refine z_bipush hx hb dX12_write_48 (by decide) ?_
        refine lv_iload hx hb dX12_write_50 (lv_at hl 0 rfl) ?_
        refine z_imul hx hb dX12_write_52 ?_
        refine z_byteS hx hb hown k4 (by omega) dX12_write_53 dX12_write_54 dX12_write_57 dX12_write_58 ?_
        refine z_iast hx hb hK hP hD hS 1 0 rfl rfl (by omega) (by decide) dX12_write_59 (fun H locs hP hD hS => ?_)
        have hP : va_P D vwCl [(m0, .inr (11, [.ref m_read, zi rl, zi rp, .ref m_gut, zi gl, zi gp, zi gx, zi gy, .ref m_text, zi L9, zi fn, .ref m_boat, .ref m_coins, zi vw, zi vm, zi vn, .ref m_rest, .ref m_ends, zl vc, .ref m_chan, .ref m_spl, zi fs, zi rn, .ref m_rf, .ref m_rr, .ref m_ik, .ref m_km, .ref m_kb, .ref m_kc, .ref m_kf, .ref m_kr])), (m_text, .inl (y 0, 40, .inl (cI (iu T1 L9 (byteV vq k)))))] H := hP
        have hD : va_D A [(m0, .inr (11, [.ref m_read, zi rl, zi rp, .ref m_gut, zi gl, zi gp, zi gx, zi gy, .ref m_text, zi L9, zi fn, .ref m_boat, .ref m_coins, zi vw, zi vm, zi vn, .ref m_rest, .ref m_ends, zl vc, .ref m_chan, .ref m_spl, zi fs, zi rn, .ref m_rf, .ref m_rr, .ref m_ik, .ref m_km, .ref m_kb, .ref m_kc, .ref m_kf, .ref m_kr])), (m_text, .inl (y 0, 40, .inl (cI (iu T1 L9 (byteV vq k)))))] := hD
        refine lv_aload_n hx hb dX12_write_60 rfl (lv_at hl 1 rfl) ?_
        refine lv_dup hx hb dX12_write_61 rfl ?_
        refine va_get hx hb hts hinX12 hown hK hP 0 rfl rfl 9 (by decide) k2 (fun _ h => h) rfl dX12_write_62 ?_
        refine z_iconst hx hb dX12_write_65 ?_
        refine z_iadd hx hb dX12_write_66 ?_
        refine va_put hx hb hts hinX12 tyX12 tyX12_ok nmX12 hown hK hP hD hS 0 rfl rfl 9 (by decide) k2 (fun _ h => h) rfl (tyX12_ok 9 (by decide)) rfl rfl (Nat.le_of_ble_eq_true rfl) dX12_write_67 (fun H locs hP hD hS => ?_)
        have hP : va_P D vwCl [(m0, .inr (11, [.ref m_read, zi rl, zi rp, .ref m_gut, zi gl, zi gp, zi gx, zi gy, .ref m_text, zi (L9 + 1), zi fn, .ref m_boat, .ref m_coins, zi vw, zi vm, zi vn, .ref m_rest, .ref m_ends, zl vc, .ref m_chan, .ref m_spl, zi fs, zi rn, .ref m_rf, .ref m_rr, .ref m_ik, .ref m_km, .ref m_kb, .ref m_kc, .ref m_kf, .ref m_kr])), (m_text, .inl (y 0, 40, .inl (cI (iu T1 L9 (byteV vq k)))))] H := hP
        have hD : va_D A [(m0, .inr (11, [.ref m_read, zi rl, zi rp, .ref m_gut, zi gl, zi gp, zi gx, zi gy, .ref m_text, zi (L9 + 1), zi fn, .ref m_boat, .ref m_coins, zi vw, zi vm, zi vn, .ref m_rest, .ref m_ends, zl vc, .ref m_chan, .ref m_spl, zi fs, zi rn, .ref m_rf, .ref m_rr, .ref m_ik, .ref m_km, .ref m_kb, .ref m_kc, .ref m_kf, .ref m_kr])), (m_text, .inl (y 0, 40, .inl (cI (iu T1 L9 (byteV vq k)))))] := hD
        refine z_iinc (k := 0) (lv' := [(4, zi (k + (-1))), (0, .ref m0), (1, zi nq), (2, zl vq)]) hx hb dX12_write_70 hl rfl (by decide) rfl (fun ls hl => ?_)
        refine lv_goto (tgt := 34) hx hb dX12_write_73 (by decide) ?_
        exact ih34 (k + (-1), L9 + 1, iu T1 L9 (byteV vq k)) _ _ _ (by first | (dsimp only; omega) | omega) ⟨⟨by omega, ap_1 hi34.2 hi34.1.2.2 (by omega)⟩, lv_sub hl [0, 1, 2, 3] rfl, hP.sub [0, 1] rfl, hD.sub [0, 1] (by decide) rfl, hS⟩
    · exfalso; omega
  · exfalso; omega
set_option maxHeartbeats 8000000 in
set_option maxRecDepth 100000 in
theorem c_X12_wipe (l : Launch) (D : va_G) (y : Nat → ClassId) (m0 : Nat) (m_read : Nat) (rl : Int) (rp : Int) (m_gut : Nat) (gl : Int) (gp : Int) (gx : Int) (gy : Int) (m_text : Nat) (tn : Int) (fn : Int) (m_boat : Nat) (m_coins : Nat) (vw : Int) (vm : Int) (vn : Int) (m_rest : Nat) (m_ends : Nat) (vc : Int) (m_chan : Nat) (m_spl : Nat) (fs : Int) (rn : Int) (m_rf : Nat) (m_rr : Nat) (m_ik : Nat) (m_km : Nat) (m_kb : Nat) (m_kc : Nat) (m_kf : Nat) (m_kr : Nat)  (sz : Nat) : Met l yX12_wipe wsX12_wipe ({ frames := 0, cells := 0, slots := 0, locals := 0 } : Room) (wPc D y [] [(m0, .inr (11, [.ref m_read, zi rl, zi rp, .ref m_gut, zi gl, zi gp, zi gx, zi gy, .ref m_text, zi tn, zi fn, .ref m_boat, .ref m_coins, zi vw, zi vm, zi vn, .ref m_rest, .ref m_ends, zl vc, .ref m_chan, .ref m_spl, zi fs, zi rn, .ref m_rf, .ref m_rr, .ref m_ik, .ref m_km, .ref m_kb, .ref m_kc, .ref m_kf, .ref m_kr]))] sz [.ref m0]) (wQ D (fun (_ : Unit) => some (zi tn)) (fun (_ : Unit) => True) (fun (_ : Unit) => [(m0, .inr (11, [.ref m_read, zi rl, zi rp, .ref m_gut, zi gl, zi gp, zi gx, zi gy, .ref m_text, zi 0, zi fn, .ref m_boat, .ref m_coins, zi vw, zi vm, zi vn, .ref m_rest, .ref m_ends, zl vc, .ref m_chan, .ref m_spl, zi fs, zi rn, .ref m_rf, .ref m_rr, .ref m_ik, .ref m_km, .ref m_kb, .ref m_kc, .ref m_kf, .ref m_kr]))]) (va_A [(m0, .inr (11, [.ref m_read, zi rl, zi rp, .ref m_gut, zi gl, zi gp, zi gx, zi gy, .ref m_text, zi tn, zi fn, .ref m_boat, .ref m_coins, zi vw, zi vm, zi vn, .ref m_rest, .ref m_ends, zl vc, .ref m_chan, .ref m_spl, zi fs, zi rn, .ref m_rf, .ref m_rr, .ref m_ik, .ref m_km, .ref m_kb, .ref m_kc, .ref m_kf, .ref m_kr]))] sz)) 0 0 (va_A [(m0, .inr (11, [.ref m_read, zi rl, zi rp, .ref m_gut, zi gl, zi gp, zi gx, zi gy, .ref m_text, zi tn, zi fn, .ref m_boat, .ref m_coins, zi vw, zi vm, zi vn, .ref m_rest, .ref m_ends, zl vc, .ref m_chan, .ref m_spl, zi fs, zi rn, .ref m_rf, .ref m_rr, .ref m_ik, .ref m_km, .ref m_kb, .ref m_kc, .ref m_kf, .ref m_kr]))] sz) := by
  refine W_of (own := RX12) (cc := cX12_wipe) (maxL := 2) (ret := some .int) (by decide) rfl rfl (Nat.le_of_ble_eq_true rfl) (fun p e s m below meth c ls A hx hb hr hC hlocks hin0 hR0 hN hP hD hA hG hl => ?_)
  have hC0 := hC
  obtain ⟨-, -, hml, hown, hts⟩ := hC0
  have hK := hG.1
  have hS : va_S A s.heap s.heap [] := va_S.rf
  have hPr := hR0
  have hinX12 : ∀ w ∈ wsX120, w ∈ wsX12_wipe := fun _ h => List.mem_cons_of_mem _ (List.mem_append_right _ h)
  have k1 := hts (.fieldLink RX12 82 "BoatsOfPaperModel" "length" "I") (List.mem_of_getElem? (i := 1) rfl)
  have hl : lv_has ls 2 [(0, .ref m0)] := hl
  refine lv_aload_n hx hb dX12_wipe_0 rfl (lv_at hl 0 rfl) ?_
  refine va_get hx hb hts hinX12 hown hK hP 0 rfl rfl 9 (by decide) k1 (fun _ h => h) rfl dX12_wipe_1 ?_
  refine lv_istore_n (lv' := [(1, zi tn), (0, .ref m0)]) hx hb dX12_wipe_4 rfl hl (by decide) rfl (fun ls hl => ?_)
  refine lv_aload_n hx hb dX12_wipe_5 rfl (lv_at hl 1 rfl) ?_
  refine z_iconst hx hb dX12_wipe_6 ?_
  refine va_put hx hb hts hinX12 tyX12 tyX12_ok nmX12 hown hK hP hD hS 0 rfl rfl 9 (by decide) k1 (fun _ h => h) rfl (tyX12_ok 9 (by decide)) rfl rfl (Nat.le_of_ble_eq_true rfl) dX12_wipe_7 (fun H locs hP hD hS => ?_)
  have hP : va_P D vwCl [(m0, .inr (11, [.ref m_read, zi rl, zi rp, .ref m_gut, zi gl, zi gp, zi gx, zi gy, .ref m_text, zi 0, zi fn, .ref m_boat, .ref m_coins, zi vw, zi vm, zi vn, .ref m_rest, .ref m_ends, zl vc, .ref m_chan, .ref m_spl, zi fs, zi rn, .ref m_rf, .ref m_rr, .ref m_ik, .ref m_km, .ref m_kb, .ref m_kc, .ref m_kf, .ref m_kr]))] H := hP
  have hD : va_D A [(m0, .inr (11, [.ref m_read, zi rl, zi rp, .ref m_gut, zi gl, zi gp, zi gx, zi gy, .ref m_text, zi 0, zi fn, .ref m_boat, .ref m_coins, zi vw, zi vm, zi vn, .ref m_rest, .ref m_ends, zl vc, .ref m_chan, .ref m_spl, zi fs, zi rn, .ref m_rf, .ref m_rr, .ref m_ik, .ref m_km, .ref m_kb, .ref m_kc, .ref m_kf, .ref m_kr]))] := hD
  refine lv_iload_n hx hb dX12_wipe_10 rfl (lv_at hl 0 rfl) ?_
  exact z_iretW hx hb hr hlocks () (rfl) (trivial) (hP.sub [0] rfl) (hD.sub [0] (by decide) rfl) hS dX12_wipe_11
set_option maxHeartbeats 8000000 in
set_option maxRecDepth 100000 in
theorem c_X12_readText (l : Launch) (D : va_G) (y : Nat → ClassId) (m0 : Nat) (m_read : Nat) (rl : Int) (rp : Int) (m_gut : Nat) (gl : Int) (gp : Int) (gx : Int) (gy : Int) (m_text : Nat) (tn : Int) (fn : Int) (m_boat : Nat) (m_coins : Nat) (vw : Int) (vm : Int) (vn : Int) (m_rest : Nat) (m_ends : Nat) (vc : Int) (m_chan : Nat) (m_spl : Nat) (fs : Int) (rn : Int) (m_rf : Nat) (m_rr : Nat) (m_ik : Nat) (m_km : Nat) (m_kb : Nat) (m_kc : Nat) (m_kf : Nat) (m_kr : Nat) (MR : Int → Int) (MT : Int → Int) (ht : tOK tn MT) (sz : Nat) : Met l yX12_readText wsX12_readText ({ frames := 2, cells := 0, slots := 0, locals := 45 } : Room) (wPc D y [] [(m0, .inr (11, [.ref m_read, zi rl, zi rp, .ref m_gut, zi gl, zi gp, zi gx, zi gy, .ref m_text, zi tn, zi fn, .ref m_boat, .ref m_coins, zi vw, zi vm, zi vn, .ref m_rest, .ref m_ends, zl vc, .ref m_chan, .ref m_spl, zi fs, zi rn, .ref m_rf, .ref m_rr, .ref m_ik, .ref m_km, .ref m_kb, .ref m_kc, .ref m_kf, .ref m_kr])), (m_read, .inl (y 0, 36, .inl (cI MR))), (m_text, .inl (y 0, 40, .inl (cI MT)))] sz [.ref m0]) (wQ D (fun (x9 : Int × Int × (Int → Int)) => match x9 with | (rl2, rp2, MR2) => some (zi (faultV tn MT))) (fun (x9 : Int × Int × (Int → Int)) => match x9 with | (rl2, rp2, MR2) => faultV tn MT = -9 → gf MT tn.toNat 0 0 0 MR = (rl2 - 1, rp2, MR2)) (fun (x9 : Int × Int × (Int → Int)) => match x9 with | (rl2, rp2, MR2) => [(m0, .inr (11, [.ref m_read, zi rl2, zi rp2, .ref m_gut, zi gl, zi gp, zi gx, zi gy, .ref m_text, zi tn, zi fn, .ref m_boat, .ref m_coins, zi vw, zi vm, zi vn, .ref m_rest, .ref m_ends, zl vc, .ref m_chan, .ref m_spl, zi fs, zi rn, .ref m_rf, .ref m_rr, .ref m_ik, .ref m_km, .ref m_kb, .ref m_kc, .ref m_kf, .ref m_kr])), (m_read, .inl (y 0, 36, .inl (cI MR2))), (m_text, .inl (y 0, 40, .inl (cI MT)))]) (va_A [(m0, .inr (11, [.ref m_read, zi rl, zi rp, .ref m_gut, zi gl, zi gp, zi gx, zi gy, .ref m_text, zi tn, zi fn, .ref m_boat, .ref m_coins, zi vw, zi vm, zi vn, .ref m_rest, .ref m_ends, zl vc, .ref m_chan, .ref m_spl, zi fs, zi rn, .ref m_rf, .ref m_rr, .ref m_ik, .ref m_km, .ref m_kb, .ref m_kc, .ref m_kf, .ref m_kr])), (m_read, .inl (y 0, 36, .inl (cI MR))), (m_text, .inl (y 0, 40, .inl (cI MT)))] sz)) 0 0 (va_A [(m0, .inr (11, [.ref m_read, zi rl, zi rp, .ref m_gut, zi gl, zi gp, zi gx, zi gy, .ref m_text, zi tn, zi fn, .ref m_boat, .ref m_coins, zi vw, zi vm, zi vn, .ref m_rest, .ref m_ends, zl vc, .ref m_chan, .ref m_spl, zi fs, zi rn, .ref m_rf, .ref m_rr, .ref m_ik, .ref m_km, .ref m_kb, .ref m_kc, .ref m_kf, .ref m_kr])), (m_read, .inl (y 0, 36, .inl (cI MR))), (m_text, .inl (y 0, 40, .inl (cI MT)))] sz) := by
  refine W_of (own := RX12) (cc := cX12_readText) (maxL := 4) (ret := some .int) (by decide) rfl rfl (Nat.le_of_ble_eq_true rfl) (fun p e s m below meth c ls A hx hb hr hC hlocks hin0 hR0 hN hP hD hA hG hl => ?_)
  have hC0 := hC
  obtain ⟨-, -, hml, hown, hts⟩ := hC0
  have hK := hG.1
  have hS : va_S A s.heap s.heap [] := va_S.rf
  have hPr := hR0
  have hinX12 : ∀ w ∈ wsX120, w ∈ wsX12_readText := fun _ h => List.mem_cons_of_mem _ (List.mem_append_right _ h)
  have k1 := hts (.fieldLink RX12 91 "BoatsOfPaperModel" "readLanes" "I") (List.mem_of_getElem? (i := 1) rfl)
  have k2 := hts (.fieldLink RX12 94 "BoatsOfPaperModel" "readPlaces" "I") (List.mem_of_getElem? (i := 2) rfl)
  have k3 := hts (.fieldLink RX12 82 "BoatsOfPaperModel" "length" "I") (List.mem_of_getElem? (i := 3) rfl)
  have k4 := hts (.fieldLink RX12 16 "BoatsOfPaperModel" "text" "[I") (List.mem_of_getElem? (i := 4) rfl)
  have k5 := hts (.fieldLink RX12 7 "BoatsOfPaperModel" "read" "[I") (List.mem_of_getElem? (i := 5) rfl)
  have hl : lv_has ls 4 [(0, .ref m0)] := hl
  obtain ⟨u1, uk⟩ := id ht
  refine lv_aload_n hx hb dX12_readText_0 rfl (lv_at hl 0 rfl) ?_
  refine z_iconst hx hb dX12_readText_1 ?_
  refine va_put hx hb hts hinX12 tyX12 tyX12_ok nmX12 hown hK hP hD hS 0 rfl rfl 1 (by decide) k1 (fun _ h => h) rfl (tyX12_ok 1 (by decide)) rfl rfl (Nat.le_of_ble_eq_true rfl) dX12_readText_2 (fun H locs hP hD hS => ?_)
  have hP : va_P D vwCl [(m0, .inr (11, [.ref m_read, zi 0, zi rp, .ref m_gut, zi gl, zi gp, zi gx, zi gy, .ref m_text, zi tn, zi fn, .ref m_boat, .ref m_coins, zi vw, zi vm, zi vn, .ref m_rest, .ref m_ends, zl vc, .ref m_chan, .ref m_spl, zi fs, zi rn, .ref m_rf, .ref m_rr, .ref m_ik, .ref m_km, .ref m_kb, .ref m_kc, .ref m_kf, .ref m_kr])), (m_read, .inl (y 0, 36, .inl (cI MR))), (m_text, .inl (y 0, 40, .inl (cI MT)))] H := hP
  have hD : va_D A [(m0, .inr (11, [.ref m_read, zi 0, zi rp, .ref m_gut, zi gl, zi gp, zi gx, zi gy, .ref m_text, zi tn, zi fn, .ref m_boat, .ref m_coins, zi vw, zi vm, zi vn, .ref m_rest, .ref m_ends, zl vc, .ref m_chan, .ref m_spl, zi fs, zi rn, .ref m_rf, .ref m_rr, .ref m_ik, .ref m_km, .ref m_kb, .ref m_kc, .ref m_kf, .ref m_kr])), (m_read, .inl (y 0, 36, .inl (cI MR))), (m_text, .inl (y 0, 40, .inl (cI MT)))] := hD
  refine lv_aload_n hx hb dX12_readText_5 rfl (lv_at hl 0 rfl) ?_
  refine z_bipush hx hb dX12_readText_6 (by decide) ?_
  refine va_put hx hb hts hinX12 tyX12 tyX12_ok nmX12 hown hK hP hD hS 0 rfl rfl 2 (by decide) k2 (fun _ h => h) rfl (tyX12_ok 2 (by decide)) rfl rfl (Nat.le_of_ble_eq_true rfl) dX12_readText_8 (fun H locs hP hD hS => ?_)
  have hP : va_P D vwCl [(m0, .inr (11, [.ref m_read, zi 0, zi 12, .ref m_gut, zi gl, zi gp, zi gx, zi gy, .ref m_text, zi tn, zi fn, .ref m_boat, .ref m_coins, zi vw, zi vm, zi vn, .ref m_rest, .ref m_ends, zl vc, .ref m_chan, .ref m_spl, zi fs, zi rn, .ref m_rf, .ref m_rr, .ref m_ik, .ref m_km, .ref m_kb, .ref m_kc, .ref m_kf, .ref m_kr])), (m_read, .inl (y 0, 36, .inl (cI MR))), (m_text, .inl (y 0, 40, .inl (cI MT)))] H := hP
  have hD : va_D A [(m0, .inr (11, [.ref m_read, zi 0, zi 12, .ref m_gut, zi gl, zi gp, zi gx, zi gy, .ref m_text, zi tn, zi fn, .ref m_boat, .ref m_coins, zi vw, zi vm, zi vn, .ref m_rest, .ref m_ends, zl vc, .ref m_chan, .ref m_spl, zi fs, zi rn, .ref m_rf, .ref m_rr, .ref m_ik, .ref m_km, .ref m_kb, .ref m_kc, .ref m_kf, .ref m_kr])), (m_read, .inl (y 0, 36, .inl (cI MR))), (m_text, .inl (y 0, 40, .inl (cI MT)))] := hD
  refine z_iconst hx hb dX12_readText_11 ?_
  refine lv_istore_n (lv' := [(1, zi 0), (0, .ref m0)]) hx hb dX12_readText_12 rfl hl (by decide) rfl (fun ls hl => ?_)
  refine z_iconst hx hb dX12_readText_13 ?_
  refine lv_istore_n (lv' := [(2, zi 0), (1, zi 0), (0, .ref m0)]) hx hb dX12_readText_14 rfl hl (by decide) rfl (fun ls hl => ?_)
  refine z_loop (σ := Int × Int × Int × Int × (Int → Int)) (fun x9 H lc ls => match x9 with | (ln, pl, wd, k, G) => ((0 ≤ k ∧ k ≤ tn ∧ 0 ≤ ln ∧ ln ≤ 2 ∧ 0 ≤ pl ∧ pl ≤ wd ∧ 1 ≤ wd ∧ wd ≤ 12) ∧ faultV tn MT = fl MT (tn - k).toNat k ln pl wd ∧ gf MT tn.toNat 0 0 0 MR = gf MT (tn - k).toNat k ln pl G) ∧ lv_has ls 4 [(2, zi k), (1, zi pl), (0, .ref m0)] ∧ va_P D vwCl [(m0, .inr (11, [.ref m_read, zi ln, zi wd, .ref m_gut, zi gl, zi gp, zi gx, zi gy, .ref m_text, zi tn, zi fn, .ref m_boat, .ref m_coins, zi vw, zi vm, zi vn, .ref m_rest, .ref m_ends, zl vc, .ref m_chan, .ref m_spl, zi fs, zi rn, .ref m_rf, .ref m_rr, .ref m_ik, .ref m_km, .ref m_kb, .ref m_kc, .ref m_kf, .ref m_kr])), (m_read, .inl (y 0, 36, .inl (cI G))), (m_text, .inl (y 0, 40, .inl (cI MT)))] H ∧ va_D A [(m0, .inr (11, [.ref m_read, zi ln, zi wd, .ref m_gut, zi gl, zi gp, zi gx, zi gy, .ref m_text, zi tn, zi fn, .ref m_boat, .ref m_coins, zi vw, zi vm, zi vn, .ref m_rest, .ref m_ends, zl vc, .ref m_chan, .ref m_spl, zi fs, zi rn, .ref m_rf, .ref m_rr, .ref m_ik, .ref m_km, .ref m_kb, .ref m_kc, .ref m_kf, .ref m_kr])), (m_read, .inl (y 0, 36, .inl (cI G))), (m_text, .inl (y 0, 40, .inl (cI MT)))] ∧ va_S A s.heap H lc) (fun x9  => match x9 with | (ln, pl, wd, k, G) => ((tn - k).toNat)) ?_ (0, 0, 12, 0, MR) ⟨⟨by omega, by rw [Int.sub_zero]; rfl, by rw [Int.sub_zero]⟩, lv_sub hl [0, 1, 2] rfl, hP.sub [0, 1, 2] rfl, hD.sub [0, 1, 2] (by decide) rfl, hS⟩
  rintro ⟨ln, pl, wd, k, G⟩ H lc ls ⟨hi15, hl, hP, hD, hS⟩ ih15
  have hP : va_P D vwCl [(m0, .inr (11, [.ref m_read, zi ln, zi wd, .ref m_gut, zi gl, zi gp, zi gx, zi gy, .ref m_text, zi tn, zi fn, .ref m_boat, .ref m_coins, zi vw, zi vm, zi vn, .ref m_rest, .ref m_ends, zl vc, .ref m_chan, .ref m_spl, zi fs, zi rn, .ref m_rf, .ref m_rr, .ref m_ik, .ref m_km, .ref m_kb, .ref m_kc, .ref m_kf, .ref m_kr])), (m_read, .inl (y 0, 36, .inl (cI G))), (m_text, .inl (y 0, 40, .inl (cI MT)))] H := hP
  have hD : va_D A [(m0, .inr (11, [.ref m_read, zi ln, zi wd, .ref m_gut, zi gl, zi gp, zi gx, zi gy, .ref m_text, zi tn, zi fn, .ref m_boat, .ref m_coins, zi vw, zi vm, zi vn, .ref m_rest, .ref m_ends, zl vc, .ref m_chan, .ref m_spl, zi fs, zi rn, .ref m_rf, .ref m_rr, .ref m_ik, .ref m_km, .ref m_kb, .ref m_kc, .ref m_kf, .ref m_kr])), (m_read, .inl (y 0, 36, .inl (cI G))), (m_text, .inl (y 0, 40, .inl (cI MT)))] := hD
  obtain ⟨j1, j2, j3⟩ := hi15
  refine lv_iload_n hx hb dX12_readText_15 rfl (lv_at hl 0 rfl) ?_
  refine lv_aload_n hx hb dX12_readText_16 rfl (lv_at hl 2 rfl) ?_
  refine va_get hx hb hts hinX12 hown hK hP 0 rfl rfl 9 (by decide) k3 (fun _ h => h) rfl dX12_readText_17 ?_
  refine z_icmp_ge (tgt := 134) hx hb (by omega) (by omega) dX12_readText_20 (by decide) (fun c_20 => ?_) (fun c_20 => ?_)
  ·
    refine lv_aload_n hx hb dX12_readText_134 rfl (lv_at hl 2 rfl) ?_
    refine lv_aload_n hx hb dX12_readText_135 rfl (lv_at hl 2 rfl) ?_
    refine va_get hx hb hts hinX12 hown hK hP 0 rfl rfl 1 (by decide) k1 (fun _ h => h) rfl dX12_readText_136 ?_
    refine z_if_ne (tgt := 146) hx hb (by omega) dX12_readText_139 (by decide) (fun c_139 => ?_) (fun c_139 => ?_)
    ·
      refine lv_aload_n hx hb dX12_readText_146 rfl (lv_at hl 2 rfl) ?_
      refine va_get hx hb hts hinX12 hown hK hP 0 rfl rfl 2 (by decide) k2 (fun _ h => h) rfl dX12_readText_147 ?_
      refine va_put hx hb hts hinX12 tyX12 tyX12_ok nmX12 hown hK hP hD hS 0 rfl rfl 2 (by decide) k2 (fun _ h => h) rfl (tyX12_ok 2 (by decide)) rfl rfl (Nat.le_of_ble_eq_true rfl) dX12_readText_150 (fun H locs hP hD hS => ?_)
      have hP : va_P D vwCl [(m0, .inr (11, [.ref m_read, zi ln, zi wd, .ref m_gut, zi gl, zi gp, zi gx, zi gy, .ref m_text, zi tn, zi fn, .ref m_boat, .ref m_coins, zi vw, zi vm, zi vn, .ref m_rest, .ref m_ends, zl vc, .ref m_chan, .ref m_spl, zi fs, zi rn, .ref m_rf, .ref m_rr, .ref m_ik, .ref m_km, .ref m_kb, .ref m_kc, .ref m_kf, .ref m_kr])), (m_read, .inl (y 0, 36, .inl (cI G))), (m_text, .inl (y 0, 40, .inl (cI MT)))] H := hP
      have hD : va_D A [(m0, .inr (11, [.ref m_read, zi ln, zi wd, .ref m_gut, zi gl, zi gp, zi gx, zi gy, .ref m_text, zi tn, zi fn, .ref m_boat, .ref m_coins, zi vw, zi vm, zi vn, .ref m_rest, .ref m_ends, zl vc, .ref m_chan, .ref m_spl, zi fs, zi rn, .ref m_rf, .ref m_rr, .ref m_ik, .ref m_km, .ref m_kb, .ref m_kc, .ref m_kf, .ref m_kr])), (m_read, .inl (y 0, 36, .inl (cI G))), (m_text, .inl (y 0, 40, .inl (cI MT)))] := hD
      refine lv_aload_n hx hb dX12_readText_153 rfl (lv_at hl 2 rfl) ?_
      refine lv_dup hx hb dX12_readText_154 rfl ?_
      refine va_get hx hb hts hinX12 hown hK hP 0 rfl rfl 1 (by decide) k1 (fun _ h => h) rfl dX12_readText_155 ?_
      refine z_iconst hx hb dX12_readText_158 ?_
      refine z_iadd hx hb dX12_readText_159 ?_
      refine va_put hx hb hts hinX12 tyX12 tyX12_ok nmX12 hown hK hP hD hS 0 rfl rfl 1 (by decide) k1 (fun _ h => h) rfl (tyX12_ok 1 (by decide)) rfl rfl (Nat.le_of_ble_eq_true rfl) dX12_readText_160 (fun H locs hP hD hS => ?_)
      have hP : va_P D vwCl [(m0, .inr (11, [.ref m_read, zi (ln + 1), zi wd, .ref m_gut, zi gl, zi gp, zi gx, zi gy, .ref m_text, zi tn, zi fn, .ref m_boat, .ref m_coins, zi vw, zi vm, zi vn, .ref m_rest, .ref m_ends, zl vc, .ref m_chan, .ref m_spl, zi fs, zi rn, .ref m_rf, .ref m_rr, .ref m_ik, .ref m_km, .ref m_kb, .ref m_kc, .ref m_kf, .ref m_kr])), (m_read, .inl (y 0, 36, .inl (cI G))), (m_text, .inl (y 0, 40, .inl (cI MT)))] H := hP
      have hD : va_D A [(m0, .inr (11, [.ref m_read, zi (ln + 1), zi wd, .ref m_gut, zi gl, zi gp, zi gx, zi gy, .ref m_text, zi tn, zi fn, .ref m_boat, .ref m_coins, zi vw, zi vm, zi vn, .ref m_rest, .ref m_ends, zl vc, .ref m_chan, .ref m_spl, zi fs, zi rn, .ref m_rf, .ref m_rr, .ref m_ik, .ref m_km, .ref m_kb, .ref m_kc, .ref m_kf, .ref m_kr])), (m_read, .inl (y 0, 36, .inl (cI G))), (m_text, .inl (y 0, 40, .inl (cI MT)))] := hD
      refine lv_iload_n hx hb dX12_readText_163 rfl (lv_at hl 1 rfl) ?_
      refine z_if_le (tgt := 180) hx hb (by omega) dX12_readText_164 (by decide) (fun c_164 => ?_) (fun c_164 => ?_)
      ·
        refine lv_aload_n hx hb dX12_readText_180 rfl (lv_at hl 2 rfl) ?_
        refine va_get hx hb hts hinX12 hown hK hP 0 rfl rfl 9 (by decide) k3 (fun _ h => h) rfl dX12_readText_181 ?_
        exact z_iretW hx hb hr hlocks (ln + 1, wd, G) (by first | exact absurd rfl (by assumption) | (show some (zi (faultV tn MT)) = some (zi _); rw [j2, fl_0 MT (by omega)]; first | rw [if_pos (by omega)] | (rw [if_neg (by omega), show k = tn by omega]))) (by intro q; first | (rw [j3, gf_0 MT (by omega), show ln + 1 - 1 = ln by omega]; done) | (rw [j3, gf_0 MT (by omega), show ln + 1 - 1 = ln by omega, show wd = pl by omega]; done) | (exfalso; rw [j2, fl_0 MT (by omega)] at q; first | (rw [if_neg (by omega)] at q; omega) | (rw [if_pos (by omega)] at q; omega))) (hP.sub [0, 1, 2] rfl) (hD.sub [0, 1, 2] (by decide) rfl) hS dX12_readText_184
      ·
        refine lv_iload_n hx hb dX12_readText_167 rfl (lv_at hl 1 rfl) ?_
        refine lv_aload_n hx hb dX12_readText_168 rfl (lv_at hl 2 rfl) ?_
        refine va_get hx hb hts hinX12 hown hK hP 0 rfl rfl 2 (by decide) k2 (fun _ h => h) rfl dX12_readText_169 ?_
        refine z_icmp_ne (tgt := 180) hx hb (by omega) (by omega) dX12_readText_172 (by decide) (fun c_172 => ?_) (fun c_172 => ?_)
        ·
          refine lv_aload_n hx hb dX12_readText_180 rfl (lv_at hl 2 rfl) ?_
          refine va_get hx hb hts hinX12 hown hK hP 0 rfl rfl 9 (by decide) k3 (fun _ h => h) rfl dX12_readText_181 ?_
          exact z_iretW hx hb hr hlocks (ln + 1, wd, G) (by first | exact absurd rfl (by assumption) | (show some (zi (faultV tn MT)) = some (zi _); rw [j2, fl_0 MT (by omega)]; first | rw [if_pos (by omega)] | (rw [if_neg (by omega), show k = tn by omega]))) (by intro q; first | (rw [j3, gf_0 MT (by omega), show ln + 1 - 1 = ln by omega]; done) | (rw [j3, gf_0 MT (by omega), show ln + 1 - 1 = ln by omega, show wd = pl by omega]; done) | (exfalso; rw [j2, fl_0 MT (by omega)] at q; first | (rw [if_neg (by omega)] at q; omega) | (rw [if_pos (by omega)] at q; omega))) (hP.sub [0, 1, 2] rfl) (hD.sub [0, 1, 2] (by decide) rfl) hS dX12_readText_184
        ·
          refine z_bipush hx hb dX12_readText_175 (by decide) ?_
          refine lv_goto (tgt := 184) hx hb dX12_readText_177 (by decide) ?_
          exact z_iretW hx hb hr hlocks (ln + 1, wd, G) (by first | exact absurd rfl (by assumption) | (show some (zi (faultV tn MT)) = some (zi _); rw [j2, fl_0 MT (by omega)]; first | rw [if_pos (by omega)] | (rw [if_neg (by omega), show k = tn by omega]))) (by intro q; first | (rw [j3, gf_0 MT (by omega), show ln + 1 - 1 = ln by omega]; done) | (rw [j3, gf_0 MT (by omega), show ln + 1 - 1 = ln by omega, show wd = pl by omega]; done) | (exfalso; rw [j2, fl_0 MT (by omega)] at q; first | (rw [if_neg (by omega)] at q; omega) | (rw [if_pos (by omega)] at q; omega))) (hP.sub [0, 1, 2] rfl) (hD.sub [0, 1, 2] (by decide) rfl) hS dX12_readText_184
    ·
      refine lv_iload_n hx hb dX12_readText_142 rfl (lv_at hl 1 rfl) ?_
      refine lv_goto (tgt := 150) hx hb dX12_readText_143 (by decide) ?_
      refine va_put hx hb hts hinX12 tyX12 tyX12_ok nmX12 hown hK hP hD hS 0 rfl rfl 2 (by decide) k2 (fun _ h => h) rfl (tyX12_ok 2 (by decide)) rfl rfl (Nat.le_of_ble_eq_true rfl) dX12_readText_150 (fun H locs hP hD hS => ?_)
      have hP : va_P D vwCl [(m0, .inr (11, [.ref m_read, zi ln, zi pl, .ref m_gut, zi gl, zi gp, zi gx, zi gy, .ref m_text, zi tn, zi fn, .ref m_boat, .ref m_coins, zi vw, zi vm, zi vn, .ref m_rest, .ref m_ends, zl vc, .ref m_chan, .ref m_spl, zi fs, zi rn, .ref m_rf, .ref m_rr, .ref m_ik, .ref m_km, .ref m_kb, .ref m_kc, .ref m_kf, .ref m_kr])), (m_read, .inl (y 0, 36, .inl (cI G))), (m_text, .inl (y 0, 40, .inl (cI MT)))] H := hP
      have hD : va_D A [(m0, .inr (11, [.ref m_read, zi ln, zi pl, .ref m_gut, zi gl, zi gp, zi gx, zi gy, .ref m_text, zi tn, zi fn, .ref m_boat, .ref m_coins, zi vw, zi vm, zi vn, .ref m_rest, .ref m_ends, zl vc, .ref m_chan, .ref m_spl, zi fs, zi rn, .ref m_rf, .ref m_rr, .ref m_ik, .ref m_km, .ref m_kb, .ref m_kc, .ref m_kf, .ref m_kr])), (m_read, .inl (y 0, 36, .inl (cI G))), (m_text, .inl (y 0, 40, .inl (cI MT)))] := hD
      refine lv_aload_n hx hb dX12_readText_153 rfl (lv_at hl 2 rfl) ?_
      refine lv_dup hx hb dX12_readText_154 rfl ?_
      refine va_get hx hb hts hinX12 hown hK hP 0 rfl rfl 1 (by decide) k1 (fun _ h => h) rfl dX12_readText_155 ?_
      refine z_iconst hx hb dX12_readText_158 ?_
      refine z_iadd hx hb dX12_readText_159 ?_
      refine va_put hx hb hts hinX12 tyX12 tyX12_ok nmX12 hown hK hP hD hS 0 rfl rfl 1 (by decide) k1 (fun _ h => h) rfl (tyX12_ok 1 (by decide)) rfl rfl (Nat.le_of_ble_eq_true rfl) dX12_readText_160 (fun H locs hP hD hS => ?_)
      have hP : va_P D vwCl [(m0, .inr (11, [.ref m_read, zi (ln + 1), zi pl, .ref m_gut, zi gl, zi gp, zi gx, zi gy, .ref m_text, zi tn, zi fn, .ref m_boat, .ref m_coins, zi vw, zi vm, zi vn, .ref m_rest, .ref m_ends, zl vc, .ref m_chan, .ref m_spl, zi fs, zi rn, .ref m_rf, .ref m_rr, .ref m_ik, .ref m_km, .ref m_kb, .ref m_kc, .ref m_kf, .ref m_kr])), (m_read, .inl (y 0, 36, .inl (cI G))), (m_text, .inl (y 0, 40, .inl (cI MT)))] H := hP
      have hD : va_D A [(m0, .inr (11, [.ref m_read, zi (ln + 1), zi pl, .ref m_gut, zi gl, zi gp, zi gx, zi gy, .ref m_text, zi tn, zi fn, .ref m_boat, .ref m_coins, zi vw, zi vm, zi vn, .ref m_rest, .ref m_ends, zl vc, .ref m_chan, .ref m_spl, zi fs, zi rn, .ref m_rf, .ref m_rr, .ref m_ik, .ref m_km, .ref m_kb, .ref m_kc, .ref m_kf, .ref m_kr])), (m_read, .inl (y 0, 36, .inl (cI G))), (m_text, .inl (y 0, 40, .inl (cI MT)))] := hD
      refine lv_iload_n hx hb dX12_readText_163 rfl (lv_at hl 1 rfl) ?_
      refine z_if_le (tgt := 180) hx hb (by omega) dX12_readText_164 (by decide) (fun c_164 => ?_) (fun c_164 => ?_)
      ·
        refine lv_aload_n hx hb dX12_readText_180 rfl (lv_at hl 2 rfl) ?_
        refine va_get hx hb hts hinX12 hown hK hP 0 rfl rfl 9 (by decide) k3 (fun _ h => h) rfl dX12_readText_181 ?_
        exact z_iretW hx hb hr hlocks (ln + 1, pl, G) (by first | exact absurd rfl (by assumption) | (show some (zi (faultV tn MT)) = some (zi _); rw [j2, fl_0 MT (by omega)]; first | rw [if_pos (by omega)] | (rw [if_neg (by omega), show k = tn by omega]))) (by intro q; first | (rw [j3, gf_0 MT (by omega), show ln + 1 - 1 = ln by omega]; done) | (rw [j3, gf_0 MT (by omega), show ln + 1 - 1 = ln by omega, show wd = pl by omega]; done) | (exfalso; rw [j2, fl_0 MT (by omega)] at q; first | (rw [if_neg (by omega)] at q; omega) | (rw [if_pos (by omega)] at q; omega))) (hP.sub [0, 1, 2] rfl) (hD.sub [0, 1, 2] (by decide) rfl) hS dX12_readText_184
      ·
        refine lv_iload_n hx hb dX12_readText_167 rfl (lv_at hl 1 rfl) ?_
        refine lv_aload_n hx hb dX12_readText_168 rfl (lv_at hl 2 rfl) ?_
        refine va_get hx hb hts hinX12 hown hK hP 0 rfl rfl 2 (by decide) k2 (fun _ h => h) rfl dX12_readText_169 ?_
        refine z_icmp_ne (tgt := 180) hx hb (by omega) (by omega) dX12_readText_172 (by decide) (fun c_172 => ?_) (fun c_172 => ?_)
        ·
          refine lv_aload_n hx hb dX12_readText_180 rfl (lv_at hl 2 rfl) ?_
          refine va_get hx hb hts hinX12 hown hK hP 0 rfl rfl 9 (by decide) k3 (fun _ h => h) rfl dX12_readText_181 ?_
          exact z_iretW hx hb hr hlocks (ln + 1, pl, G) (by first | exact absurd rfl (by assumption) | (show some (zi (faultV tn MT)) = some (zi _); rw [j2, fl_0 MT (by omega)]; first | rw [if_pos (by omega)] | (rw [if_neg (by omega), show k = tn by omega]))) (by intro q; first | (rw [j3, gf_0 MT (by omega), show ln + 1 - 1 = ln by omega]; done) | (rw [j3, gf_0 MT (by omega), show ln + 1 - 1 = ln by omega, show wd = pl by omega]; done) | (exfalso; rw [j2, fl_0 MT (by omega)] at q; first | (rw [if_neg (by omega)] at q; omega) | (rw [if_pos (by omega)] at q; omega))) (hP.sub [0, 1, 2] rfl) (hD.sub [0, 1, 2] (by decide) rfl) hS dX12_readText_184
        ·
          refine z_bipush hx hb dX12_readText_175 (by decide) ?_
          refine lv_goto (tgt := 184) hx hb dX12_readText_177 (by decide) ?_
          exact z_iretW hx hb hr hlocks (ln + 1, pl, G) (by first | exact absurd rfl (by assumption) | (show some (zi (faultV tn MT)) = some (zi _); rw [j2, fl_0 MT (by omega)]; first | rw [if_pos (by omega)] | (rw [if_neg (by omega), show k = tn by omega]))) (by intro q; first | (rw [j3, gf_0 MT (by omega), show ln + 1 - 1 = ln by omega]; done) | (rw [j3, gf_0 MT (by omega), show ln + 1 - 1 = ln by omega, show wd = pl by omega]; done) | (exfalso; rw [j2, fl_0 MT (by omega)] at q; first | (rw [if_neg (by omega)] at q; omega) | (rw [if_pos (by omega)] at q; omega))) (hP.sub [0, 1, 2] rfl) (hD.sub [0, 1, 2] (by decide) rfl) hS dX12_readText_184
  ·
    have b1 := uk k (by omega) (by omega)
    refine lv_aload_n hx hb dX12_readText_23 rfl (lv_at hl 2 rfl) ?_
    refine va_get hx hb hts hinX12 hown hK hP 0 rfl rfl 8 (by decide) k4 (fun _ h => h) rfl dX12_readText_24 ?_
    refine lv_iload_n hx hb dX12_readText_27 rfl (lv_at hl 0 rfl) ?_
    refine z_iald hx hb hK hP 2 0 rfl rfl (by omega) (by decide) dX12_readText_28 ?_
    refine z_pS (As := [zi (MT k)]) (rest := []) hC (c_X12_valueOf l D y (MT k) (by first | assumption | omega)) (va_cwS 1 hts gX12_readText_X12_valueOf rfl rfl rfl (by decide +kernel) ⟨Nat.le_of_ble_eq_true rfl, Nat.le_of_ble_eq_true rfl⟩) hG va_P_nil rfl hl.1 rfl (Nat.le_of_ble_eq_true rfl) dX12_readText_29 ⟨Nat.le_of_ble_eq_true rfl, Nat.le_of_ble_eq_true rfl⟩ ?_
    refine lv_istore_n (lv' := [(3, zi (valV (MT k))), (2, zi k), (1, zi pl), (0, .ref m0)]) hx hb dX12_readText_32 rfl hl (by decide) rfl (fun ls hl => ?_)
    obtain ⟨b3, b4, b5, b6⟩ := valV_k (MT k)
    have b7 : MT k = 47 → valV (MT k) = -9 := fun q => (by rw [q]; decide)
    refine lv_iload_n hx hb dX12_readText_33 rfl (lv_at hl 0 rfl) ?_
    refine z_bipush hx hb dX12_readText_34 (by decide) ?_
    refine z_icmp_eq (tgt := 68) hx hb (by omega) (by omega) dX12_readText_36 (by decide) (fun c_36 => ?_) (fun c_36 => ?_)
    ·
      refine lv_aload_n hx hb dX12_readText_68 rfl (lv_at hl 3 rfl) ?_
      refine va_get hx hb hts hinX12 hown hK hP 0 rfl rfl 8 (by decide) k4 (fun _ h => h) rfl dX12_readText_69 ?_
      refine lv_iload_n hx hb dX12_readText_72 rfl (lv_at hl 1 rfl) ?_
      refine z_iald hx hb hK hP 2 0 rfl rfl (by omega) (by decide) dX12_readText_73 ?_
      refine z_bipush hx hb dX12_readText_74 (by decide) ?_
      refine z_icmp_ne (tgt := 126) hx hb (by omega) (by omega) dX12_readText_76 (by decide) (fun c_76 => ?_) (fun c_76 => ?_)
      ·
        refine lv_iload_n hx hb dX12_readText_126 rfl (lv_at hl 1 rfl) ?_
        exact z_iretW hx hb hr hlocks (ln, wd, G) (by show some (zi (faultV tn MT)) = some (zi k); rw [j2, fl_s MT (by omega)]; first | rw [if_pos (by omega), if_pos (by omega)] | rw [if_neg (by omega), if_pos (by omega)]) (by intro q; rw [j2, fl_s MT (by omega)] at q; first | (rw [if_pos (by omega), if_pos (by omega)] at q; omega) | (rw [if_neg (by omega), if_pos (by omega)] at q; omega)) (hP.sub [0, 1, 2] rfl) (hD.sub [0, 1, 2] (by decide) rfl) hS dX12_readText_127
      ·
        refine lv_aload_n hx hb dX12_readText_79 rfl (lv_at hl 3 rfl) ?_
        refine va_get hx hb hts hinX12 hown hK hP 0 rfl rfl 1 (by decide) k1 (fun _ h => h) rfl dX12_readText_80 ?_
        refine z_iconst hx hb dX12_readText_83 ?_
        refine z_icmp_ge (tgt := 126) hx hb (by omega) (by omega) dX12_readText_84 (by decide) (fun c_84 => ?_) (fun c_84 => ?_)
        ·
          refine lv_iload_n hx hb dX12_readText_126 rfl (lv_at hl 1 rfl) ?_
          exact z_iretW hx hb hr hlocks (ln, wd, G) (by show some (zi (faultV tn MT)) = some (zi k); rw [j2, fl_s MT (by omega)]; first | rw [if_pos (by omega), if_pos (by omega)] | rw [if_neg (by omega), if_pos (by omega)]) (by intro q; rw [j2, fl_s MT (by omega)] at q; first | (rw [if_pos (by omega), if_pos (by omega)] at q; omega) | (rw [if_neg (by omega), if_pos (by omega)] at q; omega)) (hP.sub [0, 1, 2] rfl) (hD.sub [0, 1, 2] (by decide) rfl) hS dX12_readText_127
        ·
          refine lv_iload_n hx hb dX12_readText_87 rfl (lv_at hl 2 rfl) ?_
          refine z_if_le (tgt := 126) hx hb (by omega) dX12_readText_88 (by decide) (fun c_88 => ?_) (fun c_88 => ?_)
          ·
            refine lv_iload_n hx hb dX12_readText_126 rfl (lv_at hl 1 rfl) ?_
            exact z_iretW hx hb hr hlocks (ln, wd, G) (by show some (zi (faultV tn MT)) = some (zi k); rw [j2, fl_s MT (by omega)]; first | rw [if_pos (by omega), if_pos (by omega)] | rw [if_neg (by omega), if_pos (by omega)]) (by intro q; rw [j2, fl_s MT (by omega)] at q; first | (rw [if_pos (by omega), if_pos (by omega)] at q; omega) | (rw [if_neg (by omega), if_pos (by omega)] at q; omega)) (hP.sub [0, 1, 2] rfl) (hD.sub [0, 1, 2] (by decide) rfl) hS dX12_readText_127
          ·
            refine lv_aload_n hx hb dX12_readText_91 rfl (lv_at hl 3 rfl) ?_
            refine va_get hx hb hts hinX12 hown hK hP 0 rfl rfl 1 (by decide) k1 (fun _ h => h) rfl dX12_readText_92 ?_
            refine z_if_eq (tgt := 106) hx hb (by omega) dX12_readText_95 (by decide) (fun c_95 => ?_) (fun c_95 => ?_)
            ·
              refine lv_aload_n hx hb dX12_readText_106 rfl (lv_at hl 3 rfl) ?_
              refine lv_iload_n hx hb dX12_readText_107 rfl (lv_at hl 2 rfl) ?_
              refine va_put hx hb hts hinX12 tyX12 tyX12_ok nmX12 hown hK hP hD hS 0 rfl rfl 2 (by decide) k2 (fun _ h => h) rfl (tyX12_ok 2 (by decide)) rfl rfl (Nat.le_of_ble_eq_true rfl) dX12_readText_108 (fun H locs hP hD hS => ?_)
              have hP : va_P D vwCl [(m0, .inr (11, [.ref m_read, zi ln, zi pl, .ref m_gut, zi gl, zi gp, zi gx, zi gy, .ref m_text, zi tn, zi fn, .ref m_boat, .ref m_coins, zi vw, zi vm, zi vn, .ref m_rest, .ref m_ends, zl vc, .ref m_chan, .ref m_spl, zi fs, zi rn, .ref m_rf, .ref m_rr, .ref m_ik, .ref m_km, .ref m_kb, .ref m_kc, .ref m_kf, .ref m_kr])), (m_read, .inl (y 0, 36, .inl (cI G))), (m_text, .inl (y 0, 40, .inl (cI MT)))] H := hP
              have hD : va_D A [(m0, .inr (11, [.ref m_read, zi ln, zi pl, .ref m_gut, zi gl, zi gp, zi gx, zi gy, .ref m_text, zi tn, zi fn, .ref m_boat, .ref m_coins, zi vw, zi vm, zi vn, .ref m_rest, .ref m_ends, zl vc, .ref m_chan, .ref m_spl, zi fs, zi rn, .ref m_rf, .ref m_rr, .ref m_ik, .ref m_km, .ref m_kb, .ref m_kc, .ref m_kf, .ref m_kr])), (m_read, .inl (y 0, 36, .inl (cI G))), (m_text, .inl (y 0, 40, .inl (cI MT)))] := hD
              refine lv_aload_n hx hb dX12_readText_111 rfl (lv_at hl 3 rfl) ?_
              refine lv_dup hx hb dX12_readText_112 rfl ?_
              refine va_get hx hb hts hinX12 hown hK hP 0 rfl rfl 1 (by decide) k1 (fun _ h => h) rfl dX12_readText_113 ?_
              refine z_iconst hx hb dX12_readText_116 ?_
              refine z_iadd hx hb dX12_readText_117 ?_
              refine va_put hx hb hts hinX12 tyX12 tyX12_ok nmX12 hown hK hP hD hS 0 rfl rfl 1 (by decide) k1 (fun _ h => h) rfl (tyX12_ok 1 (by decide)) rfl rfl (Nat.le_of_ble_eq_true rfl) dX12_readText_118 (fun H locs hP hD hS => ?_)
              have hP : va_P D vwCl [(m0, .inr (11, [.ref m_read, zi (ln + 1), zi pl, .ref m_gut, zi gl, zi gp, zi gx, zi gy, .ref m_text, zi tn, zi fn, .ref m_boat, .ref m_coins, zi vw, zi vm, zi vn, .ref m_rest, .ref m_ends, zl vc, .ref m_chan, .ref m_spl, zi fs, zi rn, .ref m_rf, .ref m_rr, .ref m_ik, .ref m_km, .ref m_kb, .ref m_kc, .ref m_kf, .ref m_kr])), (m_read, .inl (y 0, 36, .inl (cI G))), (m_text, .inl (y 0, 40, .inl (cI MT)))] H := hP
              have hD : va_D A [(m0, .inr (11, [.ref m_read, zi (ln + 1), zi pl, .ref m_gut, zi gl, zi gp, zi gx, zi gy, .ref m_text, zi tn, zi fn, .ref m_boat, .ref m_coins, zi vw, zi vm, zi vn, .ref m_rest, .ref m_ends, zl vc, .ref m_chan, .ref m_spl, zi fs, zi rn, .ref m_rf, .ref m_rr, .ref m_ik, .ref m_km, .ref m_kb, .ref m_kc, .ref m_kf, .ref m_kr])), (m_read, .inl (y 0, 36, .inl (cI G))), (m_text, .inl (y 0, 40, .inl (cI MT)))] := hD
              refine z_iconst hx hb dX12_readText_121 ?_
              refine lv_istore_n (lv' := [(1, zi 0), (3, zi (valV (MT k))), (2, zi k), (0, .ref m0)]) hx hb dX12_readText_122 rfl hl (by decide) rfl (fun ls hl => ?_)
              refine lv_goto (tgt := 128) hx hb dX12_readText_123 (by decide) ?_
              refine z_iinc (k := 2) (lv' := [(2, zi (k + 1)), (1, zi 0), (3, zi (valV (MT k))), (0, .ref m0)]) hx hb dX12_readText_128 hl rfl (by decide) rfl (fun ls hl => ?_)
              refine lv_goto (tgt := 15) hx hb dX12_readText_131 (by decide) ?_
              exact ih15 (ln + 1, 0, pl, k + 1, G) _ _ _ (by first | (dsimp only; omega) | omega) ⟨⟨by omega, by rw [j2, fl_s MT (by omega)]; first | rw [if_pos (by omega), if_neg (by omega)] | rw [if_neg (by omega), if_neg (by omega)], by rw [j3, gf_s MT (by omega)]; first | rw [if_pos (by omega)] | rw [if_neg (by omega), b4 (by omega)]⟩, lv_sub hl [0, 1, 3] rfl, hP.sub [0, 1, 2] rfl, hD.sub [0, 1, 2] (by decide) rfl, hS⟩
            ·
              refine lv_iload_n hx hb dX12_readText_98 rfl (lv_at hl 2 rfl) ?_
              refine lv_aload_n hx hb dX12_readText_99 rfl (lv_at hl 3 rfl) ?_
              refine va_get hx hb hts hinX12 hown hK hP 0 rfl rfl 2 (by decide) k2 (fun _ h => h) rfl dX12_readText_100 ?_
              refine z_icmp_ne (tgt := 126) hx hb (by omega) (by omega) dX12_readText_103 (by decide) (fun c_103 => ?_) (fun c_103 => ?_)
              ·
                refine lv_iload_n hx hb dX12_readText_126 rfl (lv_at hl 1 rfl) ?_
                exact z_iretW hx hb hr hlocks (ln, wd, G) (by show some (zi (faultV tn MT)) = some (zi k); rw [j2, fl_s MT (by omega)]; first | rw [if_pos (by omega), if_pos (by omega)] | rw [if_neg (by omega), if_pos (by omega)]) (by intro q; rw [j2, fl_s MT (by omega)] at q; first | (rw [if_pos (by omega), if_pos (by omega)] at q; omega) | (rw [if_neg (by omega), if_pos (by omega)] at q; omega)) (hP.sub [0, 1, 2] rfl) (hD.sub [0, 1, 2] (by decide) rfl) hS dX12_readText_127
              ·
                refine lv_aload_n hx hb dX12_readText_106 rfl (lv_at hl 3 rfl) ?_
                refine lv_iload_n hx hb dX12_readText_107 rfl (lv_at hl 2 rfl) ?_
                refine va_put hx hb hts hinX12 tyX12 tyX12_ok nmX12 hown hK hP hD hS 0 rfl rfl 2 (by decide) k2 (fun _ h => h) rfl (tyX12_ok 2 (by decide)) rfl rfl (Nat.le_of_ble_eq_true rfl) dX12_readText_108 (fun H locs hP hD hS => ?_)
                have hP : va_P D vwCl [(m0, .inr (11, [.ref m_read, zi ln, zi pl, .ref m_gut, zi gl, zi gp, zi gx, zi gy, .ref m_text, zi tn, zi fn, .ref m_boat, .ref m_coins, zi vw, zi vm, zi vn, .ref m_rest, .ref m_ends, zl vc, .ref m_chan, .ref m_spl, zi fs, zi rn, .ref m_rf, .ref m_rr, .ref m_ik, .ref m_km, .ref m_kb, .ref m_kc, .ref m_kf, .ref m_kr])), (m_read, .inl (y 0, 36, .inl (cI G))), (m_text, .inl (y 0, 40, .inl (cI MT)))] H := hP
                have hD : va_D A [(m0, .inr (11, [.ref m_read, zi ln, zi pl, .ref m_gut, zi gl, zi gp, zi gx, zi gy, .ref m_text, zi tn, zi fn, .ref m_boat, .ref m_coins, zi vw, zi vm, zi vn, .ref m_rest, .ref m_ends, zl vc, .ref m_chan, .ref m_spl, zi fs, zi rn, .ref m_rf, .ref m_rr, .ref m_ik, .ref m_km, .ref m_kb, .ref m_kc, .ref m_kf, .ref m_kr])), (m_read, .inl (y 0, 36, .inl (cI G))), (m_text, .inl (y 0, 40, .inl (cI MT)))] := hD
                refine lv_aload_n hx hb dX12_readText_111 rfl (lv_at hl 3 rfl) ?_
                refine lv_dup hx hb dX12_readText_112 rfl ?_
                refine va_get hx hb hts hinX12 hown hK hP 0 rfl rfl 1 (by decide) k1 (fun _ h => h) rfl dX12_readText_113 ?_
                refine z_iconst hx hb dX12_readText_116 ?_
                refine z_iadd hx hb dX12_readText_117 ?_
                refine va_put hx hb hts hinX12 tyX12 tyX12_ok nmX12 hown hK hP hD hS 0 rfl rfl 1 (by decide) k1 (fun _ h => h) rfl (tyX12_ok 1 (by decide)) rfl rfl (Nat.le_of_ble_eq_true rfl) dX12_readText_118 (fun H locs hP hD hS => ?_)
                have hP : va_P D vwCl [(m0, .inr (11, [.ref m_read, zi (ln + 1), zi pl, .ref m_gut, zi gl, zi gp, zi gx, zi gy, .ref m_text, zi tn, zi fn, .ref m_boat, .ref m_coins, zi vw, zi vm, zi vn, .ref m_rest, .ref m_ends, zl vc, .ref m_chan, .ref m_spl, zi fs, zi rn, .ref m_rf, .ref m_rr, .ref m_ik, .ref m_km, .ref m_kb, .ref m_kc, .ref m_kf, .ref m_kr])), (m_read, .inl (y 0, 36, .inl (cI G))), (m_text, .inl (y 0, 40, .inl (cI MT)))] H := hP
                have hD : va_D A [(m0, .inr (11, [.ref m_read, zi (ln + 1), zi pl, .ref m_gut, zi gl, zi gp, zi gx, zi gy, .ref m_text, zi tn, zi fn, .ref m_boat, .ref m_coins, zi vw, zi vm, zi vn, .ref m_rest, .ref m_ends, zl vc, .ref m_chan, .ref m_spl, zi fs, zi rn, .ref m_rf, .ref m_rr, .ref m_ik, .ref m_km, .ref m_kb, .ref m_kc, .ref m_kf, .ref m_kr])), (m_read, .inl (y 0, 36, .inl (cI G))), (m_text, .inl (y 0, 40, .inl (cI MT)))] := hD
                refine z_iconst hx hb dX12_readText_121 ?_
                refine lv_istore_n (lv' := [(1, zi 0), (3, zi (valV (MT k))), (2, zi k), (0, .ref m0)]) hx hb dX12_readText_122 rfl hl (by decide) rfl (fun ls hl => ?_)
                refine lv_goto (tgt := 128) hx hb dX12_readText_123 (by decide) ?_
                refine z_iinc (k := 2) (lv' := [(2, zi (k + 1)), (1, zi 0), (3, zi (valV (MT k))), (0, .ref m0)]) hx hb dX12_readText_128 hl rfl (by decide) rfl (fun ls hl => ?_)
                refine lv_goto (tgt := 15) hx hb dX12_readText_131 (by decide) ?_
                exact ih15 (ln + 1, 0, pl, k + 1, G) _ _ _ (by first | (dsimp only; omega) | omega) ⟨⟨by omega, by rw [j2, fl_s MT (by omega)]; first | rw [if_pos (by omega), if_neg (by omega)] | rw [if_neg (by omega), if_neg (by omega)], by rw [j3, gf_s MT (by omega)]; first | rw [if_pos (by omega)] | rw [if_neg (by omega), b4 (by omega)]⟩, lv_sub hl [0, 1, 3] rfl, hP.sub [0, 1, 2] rfl, hD.sub [0, 1, 2] (by decide) rfl, hS⟩
    ·
      refine lv_iload_n hx hb dX12_readText_39 rfl (lv_at hl 2 rfl) ?_
      refine lv_aload_n hx hb dX12_readText_40 rfl (lv_at hl 3 rfl) ?_
      refine va_get hx hb hts hinX12 hown hK hP 0 rfl rfl 2 (by decide) k2 (fun _ h => h) rfl dX12_readText_41 ?_
      refine z_icmp_ge (tgt := 68) hx hb (by omega) (by omega) dX12_readText_44 (by decide) (fun c_44 => ?_) (fun c_44 => ?_)
      ·
        refine lv_aload_n hx hb dX12_readText_68 rfl (lv_at hl 3 rfl) ?_
        refine va_get hx hb hts hinX12 hown hK hP 0 rfl rfl 8 (by decide) k4 (fun _ h => h) rfl dX12_readText_69 ?_
        refine lv_iload_n hx hb dX12_readText_72 rfl (lv_at hl 1 rfl) ?_
        refine z_iald hx hb hK hP 2 0 rfl rfl (by omega) (by decide) dX12_readText_73 ?_
        refine z_bipush hx hb dX12_readText_74 (by decide) ?_
        refine z_icmp_ne (tgt := 126) hx hb (by omega) (by omega) dX12_readText_76 (by decide) (fun c_76 => ?_) (fun c_76 => ?_)
        ·
          refine lv_iload_n hx hb dX12_readText_126 rfl (lv_at hl 1 rfl) ?_
          exact z_iretW hx hb hr hlocks (ln, wd, G) (by show some (zi (faultV tn MT)) = some (zi k); rw [j2, fl_s MT (by omega)]; first | rw [if_pos (by omega), if_pos (by omega)] | rw [if_neg (by omega), if_pos (by omega)]) (by intro q; rw [j2, fl_s MT (by omega)] at q; first | (rw [if_pos (by omega), if_pos (by omega)] at q; omega) | (rw [if_neg (by omega), if_pos (by omega)] at q; omega)) (hP.sub [0, 1, 2] rfl) (hD.sub [0, 1, 2] (by decide) rfl) hS dX12_readText_127
        ·
          refine lv_aload_n hx hb dX12_readText_79 rfl (lv_at hl 3 rfl) ?_
          refine va_get hx hb hts hinX12 hown hK hP 0 rfl rfl 1 (by decide) k1 (fun _ h => h) rfl dX12_readText_80 ?_
          refine z_iconst hx hb dX12_readText_83 ?_
          refine z_icmp_ge (tgt := 126) hx hb (by omega) (by omega) dX12_readText_84 (by decide) (fun c_84 => ?_) (fun c_84 => ?_)
          ·
            refine lv_iload_n hx hb dX12_readText_126 rfl (lv_at hl 1 rfl) ?_
            exact z_iretW hx hb hr hlocks (ln, wd, G) (by show some (zi (faultV tn MT)) = some (zi k); rw [j2, fl_s MT (by omega)]; first | rw [if_pos (by omega), if_pos (by omega)] | rw [if_neg (by omega), if_pos (by omega)]) (by intro q; rw [j2, fl_s MT (by omega)] at q; first | (rw [if_pos (by omega), if_pos (by omega)] at q; omega) | (rw [if_neg (by omega), if_pos (by omega)] at q; omega)) (hP.sub [0, 1, 2] rfl) (hD.sub [0, 1, 2] (by decide) rfl) hS dX12_readText_127
          ·
            refine lv_iload_n hx hb dX12_readText_87 rfl (lv_at hl 2 rfl) ?_
            refine z_if_le (tgt := 126) hx hb (by omega) dX12_readText_88 (by decide) (fun c_88 => ?_) (fun c_88 => ?_)
            ·
              refine lv_iload_n hx hb dX12_readText_126 rfl (lv_at hl 1 rfl) ?_
              exact z_iretW hx hb hr hlocks (ln, wd, G) (by show some (zi (faultV tn MT)) = some (zi k); rw [j2, fl_s MT (by omega)]; first | rw [if_pos (by omega), if_pos (by omega)] | rw [if_neg (by omega), if_pos (by omega)]) (by intro q; rw [j2, fl_s MT (by omega)] at q; first | (rw [if_pos (by omega), if_pos (by omega)] at q; omega) | (rw [if_neg (by omega), if_pos (by omega)] at q; omega)) (hP.sub [0, 1, 2] rfl) (hD.sub [0, 1, 2] (by decide) rfl) hS dX12_readText_127
            ·
              refine lv_aload_n hx hb dX12_readText_91 rfl (lv_at hl 3 rfl) ?_
              refine va_get hx hb hts hinX12 hown hK hP 0 rfl rfl 1 (by decide) k1 (fun _ h => h) rfl dX12_readText_92 ?_
              refine z_if_eq (tgt := 106) hx hb (by omega) dX12_readText_95 (by decide) (fun c_95 => ?_) (fun c_95 => ?_)
              ·
                refine lv_aload_n hx hb dX12_readText_106 rfl (lv_at hl 3 rfl) ?_
                refine lv_iload_n hx hb dX12_readText_107 rfl (lv_at hl 2 rfl) ?_
                refine va_put hx hb hts hinX12 tyX12 tyX12_ok nmX12 hown hK hP hD hS 0 rfl rfl 2 (by decide) k2 (fun _ h => h) rfl (tyX12_ok 2 (by decide)) rfl rfl (Nat.le_of_ble_eq_true rfl) dX12_readText_108 (fun H locs hP hD hS => ?_)
                have hP : va_P D vwCl [(m0, .inr (11, [.ref m_read, zi ln, zi pl, .ref m_gut, zi gl, zi gp, zi gx, zi gy, .ref m_text, zi tn, zi fn, .ref m_boat, .ref m_coins, zi vw, zi vm, zi vn, .ref m_rest, .ref m_ends, zl vc, .ref m_chan, .ref m_spl, zi fs, zi rn, .ref m_rf, .ref m_rr, .ref m_ik, .ref m_km, .ref m_kb, .ref m_kc, .ref m_kf, .ref m_kr])), (m_read, .inl (y 0, 36, .inl (cI G))), (m_text, .inl (y 0, 40, .inl (cI MT)))] H := hP
                have hD : va_D A [(m0, .inr (11, [.ref m_read, zi ln, zi pl, .ref m_gut, zi gl, zi gp, zi gx, zi gy, .ref m_text, zi tn, zi fn, .ref m_boat, .ref m_coins, zi vw, zi vm, zi vn, .ref m_rest, .ref m_ends, zl vc, .ref m_chan, .ref m_spl, zi fs, zi rn, .ref m_rf, .ref m_rr, .ref m_ik, .ref m_km, .ref m_kb, .ref m_kc, .ref m_kf, .ref m_kr])), (m_read, .inl (y 0, 36, .inl (cI G))), (m_text, .inl (y 0, 40, .inl (cI MT)))] := hD
                refine lv_aload_n hx hb dX12_readText_111 rfl (lv_at hl 3 rfl) ?_
                refine lv_dup hx hb dX12_readText_112 rfl ?_
                refine va_get hx hb hts hinX12 hown hK hP 0 rfl rfl 1 (by decide) k1 (fun _ h => h) rfl dX12_readText_113 ?_
                refine z_iconst hx hb dX12_readText_116 ?_
                refine z_iadd hx hb dX12_readText_117 ?_
                refine va_put hx hb hts hinX12 tyX12 tyX12_ok nmX12 hown hK hP hD hS 0 rfl rfl 1 (by decide) k1 (fun _ h => h) rfl (tyX12_ok 1 (by decide)) rfl rfl (Nat.le_of_ble_eq_true rfl) dX12_readText_118 (fun H locs hP hD hS => ?_)
                have hP : va_P D vwCl [(m0, .inr (11, [.ref m_read, zi (ln + 1), zi pl, .ref m_gut, zi gl, zi gp, zi gx, zi gy, .ref m_text, zi tn, zi fn, .ref m_boat, .ref m_coins, zi vw, zi vm, zi vn, .ref m_rest, .ref m_ends, zl vc, .ref m_chan, .ref m_spl, zi fs, zi rn, .ref m_rf, .ref m_rr, .ref m_ik, .ref m_km, .ref m_kb, .ref m_kc, .ref m_kf, .ref m_kr])), (m_read, .inl (y 0, 36, .inl (cI G))), (m_text, .inl (y 0, 40, .inl (cI MT)))] H := hP
                have hD : va_D A [(m0, .inr (11, [.ref m_read, zi (ln + 1), zi pl, .ref m_gut, zi gl, zi gp, zi gx, zi gy, .ref m_text, zi tn, zi fn, .ref m_boat, .ref m_coins, zi vw, zi vm, zi vn, .ref m_rest, .ref m_ends, zl vc, .ref m_chan, .ref m_spl, zi fs, zi rn, .ref m_rf, .ref m_rr, .ref m_ik, .ref m_km, .ref m_kb, .ref m_kc, .ref m_kf, .ref m_kr])), (m_read, .inl (y 0, 36, .inl (cI G))), (m_text, .inl (y 0, 40, .inl (cI MT)))] := hD
                refine z_iconst hx hb dX12_readText_121 ?_
                refine lv_istore_n (lv' := [(1, zi 0), (3, zi (valV (MT k))), (2, zi k), (0, .ref m0)]) hx hb dX12_readText_122 rfl hl (by decide) rfl (fun ls hl => ?_)
                refine lv_goto (tgt := 128) hx hb dX12_readText_123 (by decide) ?_
                refine z_iinc (k := 2) (lv' := [(2, zi (k + 1)), (1, zi 0), (3, zi (valV (MT k))), (0, .ref m0)]) hx hb dX12_readText_128 hl rfl (by decide) rfl (fun ls hl => ?_)
                refine lv_goto (tgt := 15) hx hb dX12_readText_131 (by decide) ?_
                exact ih15 (ln + 1, 0, pl, k + 1, G) _ _ _ (by first | (dsimp only; omega) | omega) ⟨⟨by omega, by rw [j2, fl_s MT (by omega)]; first | rw [if_pos (by omega), if_neg (by omega)] | rw [if_neg (by omega), if_neg (by omega)], by rw [j3, gf_s MT (by omega)]; first | rw [if_pos (by omega)] | rw [if_neg (by omega), b4 (by omega)]⟩, lv_sub hl [0, 1, 3] rfl, hP.sub [0, 1, 2] rfl, hD.sub [0, 1, 2] (by decide) rfl, hS⟩
              ·
                refine lv_iload_n hx hb dX12_readText_98 rfl (lv_at hl 2 rfl) ?_
                refine lv_aload_n hx hb dX12_readText_99 rfl (lv_at hl 3 rfl) ?_
                refine va_get hx hb hts hinX12 hown hK hP 0 rfl rfl 2 (by decide) k2 (fun _ h => h) rfl dX12_readText_100 ?_
                refine z_icmp_ne (tgt := 126) hx hb (by omega) (by omega) dX12_readText_103 (by decide) (fun c_103 => ?_) (fun c_103 => ?_)
                ·
                  refine lv_iload_n hx hb dX12_readText_126 rfl (lv_at hl 1 rfl) ?_
                  exact z_iretW hx hb hr hlocks (ln, wd, G) (by show some (zi (faultV tn MT)) = some (zi k); rw [j2, fl_s MT (by omega)]; first | rw [if_pos (by omega), if_pos (by omega)] | rw [if_neg (by omega), if_pos (by omega)]) (by intro q; rw [j2, fl_s MT (by omega)] at q; first | (rw [if_pos (by omega), if_pos (by omega)] at q; omega) | (rw [if_neg (by omega), if_pos (by omega)] at q; omega)) (hP.sub [0, 1, 2] rfl) (hD.sub [0, 1, 2] (by decide) rfl) hS dX12_readText_127
                ·
                  refine lv_aload_n hx hb dX12_readText_106 rfl (lv_at hl 3 rfl) ?_
                  refine lv_iload_n hx hb dX12_readText_107 rfl (lv_at hl 2 rfl) ?_
                  refine va_put hx hb hts hinX12 tyX12 tyX12_ok nmX12 hown hK hP hD hS 0 rfl rfl 2 (by decide) k2 (fun _ h => h) rfl (tyX12_ok 2 (by decide)) rfl rfl (Nat.le_of_ble_eq_true rfl) dX12_readText_108 (fun H locs hP hD hS => ?_)
                  have hP : va_P D vwCl [(m0, .inr (11, [.ref m_read, zi ln, zi pl, .ref m_gut, zi gl, zi gp, zi gx, zi gy, .ref m_text, zi tn, zi fn, .ref m_boat, .ref m_coins, zi vw, zi vm, zi vn, .ref m_rest, .ref m_ends, zl vc, .ref m_chan, .ref m_spl, zi fs, zi rn, .ref m_rf, .ref m_rr, .ref m_ik, .ref m_km, .ref m_kb, .ref m_kc, .ref m_kf, .ref m_kr])), (m_read, .inl (y 0, 36, .inl (cI G))), (m_text, .inl (y 0, 40, .inl (cI MT)))] H := hP
                  have hD : va_D A [(m0, .inr (11, [.ref m_read, zi ln, zi pl, .ref m_gut, zi gl, zi gp, zi gx, zi gy, .ref m_text, zi tn, zi fn, .ref m_boat, .ref m_coins, zi vw, zi vm, zi vn, .ref m_rest, .ref m_ends, zl vc, .ref m_chan, .ref m_spl, zi fs, zi rn, .ref m_rf, .ref m_rr, .ref m_ik, .ref m_km, .ref m_kb, .ref m_kc, .ref m_kf, .ref m_kr])), (m_read, .inl (y 0, 36, .inl (cI G))), (m_text, .inl (y 0, 40, .inl (cI MT)))] := hD
                  refine lv_aload_n hx hb dX12_readText_111 rfl (lv_at hl 3 rfl) ?_
                  refine lv_dup hx hb dX12_readText_112 rfl ?_
                  refine va_get hx hb hts hinX12 hown hK hP 0 rfl rfl 1 (by decide) k1 (fun _ h => h) rfl dX12_readText_113 ?_
                  refine z_iconst hx hb dX12_readText_116 ?_
                  refine z_iadd hx hb dX12_readText_117 ?_
                  refine va_put hx hb hts hinX12 tyX12 tyX12_ok nmX12 hown hK hP hD hS 0 rfl rfl 1 (by decide) k1 (fun _ h => h) rfl (tyX12_ok 1 (by decide)) rfl rfl (Nat.le_of_ble_eq_true rfl) dX12_readText_118 (fun H locs hP hD hS => ?_)
                  have hP : va_P D vwCl [(m0, .inr (11, [.ref m_read, zi (ln + 1), zi pl, .ref m_gut, zi gl, zi gp, zi gx, zi gy, .ref m_text, zi tn, zi fn, .ref m_boat, .ref m_coins, zi vw, zi vm, zi vn, .ref m_rest, .ref m_ends, zl vc, .ref m_chan, .ref m_spl, zi fs, zi rn, .ref m_rf, .ref m_rr, .ref m_ik, .ref m_km, .ref m_kb, .ref m_kc, .ref m_kf, .ref m_kr])), (m_read, .inl (y 0, 36, .inl (cI G))), (m_text, .inl (y 0, 40, .inl (cI MT)))] H := hP
                  have hD : va_D A [(m0, .inr (11, [.ref m_read, zi (ln + 1), zi pl, .ref m_gut, zi gl, zi gp, zi gx, zi gy, .ref m_text, zi tn, zi fn, .ref m_boat, .ref m_coins, zi vw, zi vm, zi vn, .ref m_rest, .ref m_ends, zl vc, .ref m_chan, .ref m_spl, zi fs, zi rn, .ref m_rf, .ref m_rr, .ref m_ik, .ref m_km, .ref m_kb, .ref m_kc, .ref m_kf, .ref m_kr])), (m_read, .inl (y 0, 36, .inl (cI G))), (m_text, .inl (y 0, 40, .inl (cI MT)))] := hD
                  refine z_iconst hx hb dX12_readText_121 ?_
                  refine lv_istore_n (lv' := [(1, zi 0), (3, zi (valV (MT k))), (2, zi k), (0, .ref m0)]) hx hb dX12_readText_122 rfl hl (by decide) rfl (fun ls hl => ?_)
                  refine lv_goto (tgt := 128) hx hb dX12_readText_123 (by decide) ?_
                  refine z_iinc (k := 2) (lv' := [(2, zi (k + 1)), (1, zi 0), (3, zi (valV (MT k))), (0, .ref m0)]) hx hb dX12_readText_128 hl rfl (by decide) rfl (fun ls hl => ?_)
                  refine lv_goto (tgt := 15) hx hb dX12_readText_131 (by decide) ?_
                  exact ih15 (ln + 1, 0, pl, k + 1, G) _ _ _ (by first | (dsimp only; omega) | omega) ⟨⟨by omega, by rw [j2, fl_s MT (by omega)]; first | rw [if_pos (by omega), if_neg (by omega)] | rw [if_neg (by omega), if_neg (by omega)], by rw [j3, gf_s MT (by omega)]; first | rw [if_pos (by omega)] | rw [if_neg (by omega), b4 (by omega)]⟩, lv_sub hl [0, 1, 3] rfl, hP.sub [0, 1, 2] rfl, hD.sub [0, 1, 2] (by decide) rfl, hS⟩
      ·
        refine lv_aload_n hx hb dX12_readText_47 rfl (lv_at hl 3 rfl) ?_
        refine va_get hx hb hts hinX12 hown hK hP 0 rfl rfl 0 (by decide) k5 (fun _ h => h) rfl dX12_readText_48 ?_
        refine z_bipush hx hb dX12_readText_51 (by decide) ?_
        refine lv_aload_n hx hb dX12_readText_53 rfl (lv_at hl 3 rfl) ?_
        refine va_get hx hb hts hinX12 hown hK hP 0 rfl rfl 1 (by decide) k1 (fun _ h => h) rfl dX12_readText_54 ?_
        refine z_imul hx hb dX12_readText_57 ?_
        refine lv_iload_n hx hb dX12_readText_58 rfl (lv_at hl 2 rfl) ?_
        refine z_iadd hx hb dX12_readText_59 ?_
        refine lv_iload_n hx hb dX12_readText_60 rfl (lv_at hl 0 rfl) ?_
        refine z_iast hx hb hK hP hD hS 1 0 rfl rfl (by omega) (by decide) dX12_readText_61 (fun H locs hP hD hS => ?_)
        have hP : va_P D vwCl [(m0, .inr (11, [.ref m_read, zi ln, zi wd, .ref m_gut, zi gl, zi gp, zi gx, zi gy, .ref m_text, zi tn, zi fn, .ref m_boat, .ref m_coins, zi vw, zi vm, zi vn, .ref m_rest, .ref m_ends, zl vc, .ref m_chan, .ref m_spl, zi fs, zi rn, .ref m_rf, .ref m_rr, .ref m_ik, .ref m_km, .ref m_kb, .ref m_kc, .ref m_kf, .ref m_kr])), (m_read, .inl (y 0, 36, .inl (cI (iu G ((12 * ln) + pl) (valV (MT k)))))), (m_text, .inl (y 0, 40, .inl (cI MT)))] H := hP
        have hD : va_D A [(m0, .inr (11, [.ref m_read, zi ln, zi wd, .ref m_gut, zi gl, zi gp, zi gx, zi gy, .ref m_text, zi tn, zi fn, .ref m_boat, .ref m_coins, zi vw, zi vm, zi vn, .ref m_rest, .ref m_ends, zl vc, .ref m_chan, .ref m_spl, zi fs, zi rn, .ref m_rf, .ref m_rr, .ref m_ik, .ref m_km, .ref m_kb, .ref m_kc, .ref m_kf, .ref m_kr])), (m_read, .inl (y 0, 36, .inl (cI (iu G ((12 * ln) + pl) (valV (MT k)))))), (m_text, .inl (y 0, 40, .inl (cI MT)))] := hD
        refine z_iinc (k := 2) (lv' := [(1, zi (pl + 1)), (3, zi (valV (MT k))), (2, zi k), (0, .ref m0)]) hx hb dX12_readText_62 hl rfl (by decide) rfl (fun ls hl => ?_)
        refine lv_goto (tgt := 128) hx hb dX12_readText_65 (by decide) ?_
        refine z_iinc (k := 2) (lv' := [(2, zi (k + 1)), (1, zi (pl + 1)), (3, zi (valV (MT k))), (0, .ref m0)]) hx hb dX12_readText_128 hl rfl (by decide) rfl (fun ls hl => ?_)
        refine lv_goto (tgt := 15) hx hb dX12_readText_131 (by decide) ?_
        exact ih15 (ln, pl + 1, wd, k + 1, iu G ((12 * ln) + pl) (valV (MT k))) _ _ _ (by first | (dsimp only; omega) | omega) ⟨⟨by omega, by rw [j2, fl_s MT (by omega)]; first | rw [if_pos (by omega), if_neg (by omega)] | rw [if_neg (by omega), if_neg (by omega)], by rw [j3, gf_s MT (by omega)]; first | rw [if_pos (by omega)] | rw [if_neg (by omega), b4 (by omega)]⟩, lv_sub hl [0, 1, 3] rfl, hP.sub [0, 1, 2] rfl, hD.sub [0, 1, 2] (by decide) rfl, hS⟩
set_option maxHeartbeats 8000000 in
set_option maxRecDepth 100000 in
theorem c_X12_fault (l : Launch) (D : va_G) (y : Nat → ClassId) (m0 : Nat) (m_read : Nat) (rl : Int) (rp : Int) (m_gut : Nat) (gl : Int) (gp : Int) (gx : Int) (gy : Int) (m_text : Nat) (tn : Int) (fn : Int) (m_boat : Nat) (m_coins : Nat) (vw : Int) (vm : Int) (vn : Int) (m_rest : Nat) (m_ends : Nat) (vc : Int) (m_chan : Nat) (m_spl : Nat) (fs : Int) (rn : Int) (m_rf : Nat) (m_rr : Nat) (m_ik : Nat) (m_km : Nat) (m_kb : Nat) (m_kc : Nat) (m_kf : Nat) (m_kr : Nat) (MR : Int → Int) (MT : Int → Int) (ht : tOK tn MT) (sz : Nat) : Met l yX12_fault wsX12_fault ({ frames := 3, cells := 0, slots := 0, locals := 68 } : Room) (wPc D y [] [(m0, .inr (11, [.ref m_read, zi rl, zi rp, .ref m_gut, zi gl, zi gp, zi gx, zi gy, .ref m_text, zi tn, zi fn, .ref m_boat, .ref m_coins, zi vw, zi vm, zi vn, .ref m_rest, .ref m_ends, zl vc, .ref m_chan, .ref m_spl, zi fs, zi rn, .ref m_rf, .ref m_rr, .ref m_ik, .ref m_km, .ref m_kb, .ref m_kc, .ref m_kf, .ref m_kr])), (m_read, .inl (y 0, 36, .inl (cI MR))), (m_text, .inl (y 0, 40, .inl (cI MT)))] sz [.ref m0]) (wQ D (fun (x9 : Int × Int × (Int → Int)) => match x9 with | (rl2, rp2, MR2) => some (zi (faultV tn MT))) (fun (x9 : Int × Int × (Int → Int)) => match x9 with | (rl2, rp2, MR2) => True) (fun (x9 : Int × Int × (Int → Int)) => match x9 with | (rl2, rp2, MR2) => [(m0, .inr (11, [.ref m_read, zi rl2, zi rp2, .ref m_gut, zi gl, zi gp, zi gx, zi gy, .ref m_text, zi tn, zi fn, .ref m_boat, .ref m_coins, zi vw, zi vm, zi vn, .ref m_rest, .ref m_ends, zl vc, .ref m_chan, .ref m_spl, zi fs, zi rn, .ref m_rf, .ref m_rr, .ref m_ik, .ref m_km, .ref m_kb, .ref m_kc, .ref m_kf, .ref m_kr])), (m_read, .inl (y 0, 36, .inl (cI MR2))), (m_text, .inl (y 0, 40, .inl (cI MT)))]) (va_A [(m0, .inr (11, [.ref m_read, zi rl, zi rp, .ref m_gut, zi gl, zi gp, zi gx, zi gy, .ref m_text, zi tn, zi fn, .ref m_boat, .ref m_coins, zi vw, zi vm, zi vn, .ref m_rest, .ref m_ends, zl vc, .ref m_chan, .ref m_spl, zi fs, zi rn, .ref m_rf, .ref m_rr, .ref m_ik, .ref m_km, .ref m_kb, .ref m_kc, .ref m_kf, .ref m_kr])), (m_read, .inl (y 0, 36, .inl (cI MR))), (m_text, .inl (y 0, 40, .inl (cI MT)))] sz)) 0 0 (va_A [(m0, .inr (11, [.ref m_read, zi rl, zi rp, .ref m_gut, zi gl, zi gp, zi gx, zi gy, .ref m_text, zi tn, zi fn, .ref m_boat, .ref m_coins, zi vw, zi vm, zi vn, .ref m_rest, .ref m_ends, zl vc, .ref m_chan, .ref m_spl, zi fs, zi rn, .ref m_rf, .ref m_rr, .ref m_ik, .ref m_km, .ref m_kb, .ref m_kc, .ref m_kf, .ref m_kr])), (m_read, .inl (y 0, 36, .inl (cI MR))), (m_text, .inl (y 0, 40, .inl (cI MT)))] sz) := by
  refine W_of (own := RX12) (cc := cX12_fault) (maxL := 1) (ret := some .int) (by decide) rfl rfl (Nat.le_of_ble_eq_true rfl) (fun p e s m below meth c ls A hx hb hr hC hlocks hin0 hR0 hN hP hD hA hG hl => ?_)
  have hC0 := hC
  obtain ⟨-, -, hml, hown, hts⟩ := hC0
  have hK := hG.1
  have hS : va_S A s.heap s.heap [] := va_S.rf
  have hPr := hR0
  have hl : lv_has ls 1 [(0, .ref m0)] := hl
  refine lv_aload_n hx hb dX12_fault_0 rfl (lv_at hl 0 rfl) ?_
  refine z_wV (As := []) (rest := []) (wc := [(m0, .inr (11, [.ref m_read, zi rl, zi rp, .ref m_gut, zi gl, zi gp, zi gx, zi gy, .ref m_text, zi tn, zi fn, .ref m_boat, .ref m_coins, zi vw, zi vm, zi vn, .ref m_rest, .ref m_ends, zl vc, .ref m_chan, .ref m_spl, zi fs, zi rn, .ref m_rf, .ref m_rr, .ref m_ik, .ref m_km, .ref m_kb, .ref m_kc, .ref m_kf, .ref m_kr])), (m_read, .inl (y 0, 36, .inl (cI MR))), (m_text, .inl (y 0, 40, .inl (cI MT)))]) (wrest := []) hC (c_X12_readText l D y m0 m_read rl rp m_gut gl gp gx gy m_text tn fn m_boat m_coins vw vm vn m_rest m_ends vc m_chan m_spl fs rn m_rf m_rr m_ik m_km m_kb m_kc m_kf m_kr MR MT (by first | assumption | omega) _) (cwV 0 hts gX12_fault_X12_readText rfl rfl rfl (by decide +kernel) ⟨Nat.le_of_ble_eq_true rfl, Nat.le_of_ble_eq_true rfl⟩) hG hP hD hS hA [0, 1, 2] [] rfl rfl (by decide) (by decide) (by decide) va_P_nil ro_nil 0 rfl rfl rfl hl.1 rfl (Nat.le_of_ble_eq_true rfl) dX12_fault_1 ⟨Nat.le_of_ble_eq_true rfl, Nat.le_of_ble_eq_true rfl⟩ (fun u9 H locs hw_4 hP hD hS => ?_)
  obtain ⟨rl2_1, rp2_2, MR2_3⟩ := u9
  have hw_4 : faultV tn MT = -9 → gf MT tn.toNat 0 0 0 MR = (rl2_1 - 1, rp2_2, MR2_3) := hw_4
  have hP : va_P D vwCl [(m0, .inr (11, [.ref m_read, zi rl2_1, zi rp2_2, .ref m_gut, zi gl, zi gp, zi gx, zi gy, .ref m_text, zi tn, zi fn, .ref m_boat, .ref m_coins, zi vw, zi vm, zi vn, .ref m_rest, .ref m_ends, zl vc, .ref m_chan, .ref m_spl, zi fs, zi rn, .ref m_rf, .ref m_rr, .ref m_ik, .ref m_km, .ref m_kb, .ref m_kc, .ref m_kf, .ref m_kr])), (m_read, .inl (y 0, 36, .inl (cI MR2_3))), (m_text, .inl (y 0, 40, .inl (cI MT)))] H := hP
  have hD : va_D A [(m0, .inr (11, [.ref m_read, zi rl2_1, zi rp2_2, .ref m_gut, zi gl, zi gp, zi gx, zi gy, .ref m_text, zi tn, zi fn, .ref m_boat, .ref m_coins, zi vw, zi vm, zi vn, .ref m_rest, .ref m_ends, zl vc, .ref m_chan, .ref m_spl, zi fs, zi rn, .ref m_rf, .ref m_rr, .ref m_ik, .ref m_km, .ref m_kb, .ref m_kc, .ref m_kf, .ref m_kr])), (m_read, .inl (y 0, 36, .inl (cI MR2_3))), (m_text, .inl (y 0, 40, .inl (cI MT)))] := hD
  exact z_iretW hx hb hr hlocks (rl2_1, rp2_2, MR2_3) (rfl) (trivial) (hP.sub [0, 1, 2] rfl) (hD.sub [0, 1, 2] (by decide) rfl) hS dX12_fault_4
set_option maxHeartbeats 8000000 in
set_option maxRecDepth 100000 in
theorem c_X12_gutter_no (l : Launch) (D : va_G) (y : Nat → ClassId) (m0 : Nat) (m_read : Nat) (rl : Int) (rp : Int) (m_gut : Nat) (gl : Int) (gp : Int) (gx : Int) (gy : Int) (m_text : Nat) (tn : Int) (fn : Int) (m_boat : Nat) (m_coins : Nat) (vw : Int) (vm : Int) (vn : Int) (m_rest : Nat) (m_ends : Nat) (vc : Int) (m_chan : Nat) (m_spl : Nat) (fs : Int) (rn : Int) (m_rf : Nat) (m_rr : Nat) (m_ik : Nat) (m_km : Nat) (m_kb : Nat) (m_kc : Nat) (m_kf : Nat) (m_kr : Nat) (MR : Int → Int) (MT : Int → Int) (ht : tOK tn MT) (hf : faultV tn MT ≠ -9) (sz : Nat) : Met l yX12_gutter wsX12_gutter ({ frames := 3, cells := 0, slots := 0, locals := 68 } : Room) (wPc D y [] [(m0, .inr (11, [.ref m_read, zi rl, zi rp, .ref m_gut, zi gl, zi gp, zi gx, zi gy, .ref m_text, zi tn, zi fn, .ref m_boat, .ref m_coins, zi vw, zi vm, zi vn, .ref m_rest, .ref m_ends, zl vc, .ref m_chan, .ref m_spl, zi fs, zi rn, .ref m_rf, .ref m_rr, .ref m_ik, .ref m_km, .ref m_kb, .ref m_kc, .ref m_kf, .ref m_kr])), (m_read, .inl (y 0, 36, .inl (cI MR))), (m_text, .inl (y 0, 40, .inl (cI MT)))] sz [.ref m0]) (wQ D (fun (x9 : Int × Int × (Int → Int)) => match x9 with | (rl2, rp2, MR2) => some (zi (-3))) (fun (x9 : Int × Int × (Int → Int)) => match x9 with | (rl2, rp2, MR2) => True) (fun (x9 : Int × Int × (Int → Int)) => match x9 with | (rl2, rp2, MR2) => [(m0, .inr (11, [.ref m_read, zi rl2, zi rp2, .ref m_gut, zi gl, zi gp, zi gx, zi gy, .ref m_text, zi tn, zi fn, .ref m_boat, .ref m_coins, zi vw, zi vm, zi vn, .ref m_rest, .ref m_ends, zl vc, .ref m_chan, .ref m_spl, zi fs, zi rn, .ref m_rf, .ref m_rr, .ref m_ik, .ref m_km, .ref m_kb, .ref m_kc, .ref m_kf, .ref m_kr])), (m_read, .inl (y 0, 36, .inl (cI MR2))), (m_text, .inl (y 0, 40, .inl (cI MT)))]) (va_A [(m0, .inr (11, [.ref m_read, zi rl, zi rp, .ref m_gut, zi gl, zi gp, zi gx, zi gy, .ref m_text, zi tn, zi fn, .ref m_boat, .ref m_coins, zi vw, zi vm, zi vn, .ref m_rest, .ref m_ends, zl vc, .ref m_chan, .ref m_spl, zi fs, zi rn, .ref m_rf, .ref m_rr, .ref m_ik, .ref m_km, .ref m_kb, .ref m_kc, .ref m_kf, .ref m_kr])), (m_read, .inl (y 0, 36, .inl (cI MR))), (m_text, .inl (y 0, 40, .inl (cI MT)))] sz)) 0 0 (va_A [(m0, .inr (11, [.ref m_read, zi rl, zi rp, .ref m_gut, zi gl, zi gp, zi gx, zi gy, .ref m_text, zi tn, zi fn, .ref m_boat, .ref m_coins, zi vw, zi vm, zi vn, .ref m_rest, .ref m_ends, zl vc, .ref m_chan, .ref m_spl, zi fs, zi rn, .ref m_rf, .ref m_rr, .ref m_ik, .ref m_km, .ref m_kb, .ref m_kc, .ref m_kf, .ref m_kr])), (m_read, .inl (y 0, 36, .inl (cI MR))), (m_text, .inl (y 0, 40, .inl (cI MT)))] sz) := by
  refine W_of (own := RX12) (cc := cX12_gutter) (maxL := 2) (ret := some .int) (by decide) rfl rfl (Nat.le_of_ble_eq_true rfl) (fun p e s m below meth c ls A hx hb hr hC hlocks hin0 hR0 hN hP hD hA hG hl => ?_)
  have hC0 := hC
  obtain ⟨-, -, hml, hown, hts⟩ := hC0
  have hK := hG.1
  have hS : va_S A s.heap s.heap [] := va_S.rf
  have hPr := hR0
  have hl : lv_has ls 2 [(0, .ref m0)] := hl
  have fb := faultV_bd (T := MT) ht.1.1
  have u1 := ht.1
  refine lv_aload_n hx hb dX12_gutter_0 rfl (lv_at hl 0 rfl) ?_
  refine z_wV (As := []) (rest := []) (wc := [(m0, .inr (11, [.ref m_read, zi rl, zi rp, .ref m_gut, zi gl, zi gp, zi gx, zi gy, .ref m_text, zi tn, zi fn, .ref m_boat, .ref m_coins, zi vw, zi vm, zi vn, .ref m_rest, .ref m_ends, zl vc, .ref m_chan, .ref m_spl, zi fs, zi rn, .ref m_rf, .ref m_rr, .ref m_ik, .ref m_km, .ref m_kb, .ref m_kc, .ref m_kf, .ref m_kr])), (m_read, .inl (y 0, 36, .inl (cI MR))), (m_text, .inl (y 0, 40, .inl (cI MT)))]) (wrest := []) hC (c_X12_readText l D y m0 m_read rl rp m_gut gl gp gx gy m_text tn fn m_boat m_coins vw vm vn m_rest m_ends vc m_chan m_spl fs rn m_rf m_rr m_ik m_km m_kb m_kc m_kf m_kr MR MT (by first | assumption | omega) _) (cwV 0 hts gX12_gutter_X12_readText rfl rfl rfl (by decide +kernel) ⟨Nat.le_of_ble_eq_true rfl, Nat.le_of_ble_eq_true rfl⟩) hG hP hD hS hA [0, 1, 2] [] rfl rfl (by decide) (by decide) (by decide) va_P_nil ro_nil 0 rfl rfl rfl hl.1 rfl (Nat.le_of_ble_eq_true rfl) dX12_gutter_1 ⟨Nat.le_of_ble_eq_true rfl, Nat.le_of_ble_eq_true rfl⟩ (fun u9 H locs hw_4 hP hD hS => ?_)
  obtain ⟨rl2_1, rp2_2, MR2_3⟩ := u9
  have hw_4 : faultV tn MT = -9 → gf MT tn.toNat 0 0 0 MR = (rl2_1 - 1, rp2_2, MR2_3) := hw_4
  have hP : va_P D vwCl [(m0, .inr (11, [.ref m_read, zi rl2_1, zi rp2_2, .ref m_gut, zi gl, zi gp, zi gx, zi gy, .ref m_text, zi tn, zi fn, .ref m_boat, .ref m_coins, zi vw, zi vm, zi vn, .ref m_rest, .ref m_ends, zl vc, .ref m_chan, .ref m_spl, zi fs, zi rn, .ref m_rf, .ref m_rr, .ref m_ik, .ref m_km, .ref m_kb, .ref m_kc, .ref m_kf, .ref m_kr])), (m_read, .inl (y 0, 36, .inl (cI MR2_3))), (m_text, .inl (y 0, 40, .inl (cI MT)))] H := hP
  have hD : va_D A [(m0, .inr (11, [.ref m_read, zi rl2_1, zi rp2_2, .ref m_gut, zi gl, zi gp, zi gx, zi gy, .ref m_text, zi tn, zi fn, .ref m_boat, .ref m_coins, zi vw, zi vm, zi vn, .ref m_rest, .ref m_ends, zl vc, .ref m_chan, .ref m_spl, zi fs, zi rn, .ref m_rf, .ref m_rr, .ref m_ik, .ref m_km, .ref m_kb, .ref m_kc, .ref m_kf, .ref m_kr])), (m_read, .inl (y 0, 36, .inl (cI MR2_3))), (m_text, .inl (y 0, 40, .inl (cI MT)))] := hD
  refine z_bipush hx hb dX12_gutter_4 (by decide) ?_
  refine z_icmp_eq (tgt := 12) hx hb (by omega) (by omega) dX12_gutter_6 (by decide) (fun c_6 => ?_) (fun c_6 => ?_)
  · exfalso; omega
  ·
    refine z_bipush hx hb dX12_gutter_9 (by decide) ?_
    exact z_iretW hx hb hr hlocks (rl2_1, rp2_2, MR2_3) (rfl) (trivial) (hP.sub [0, 1, 2] rfl) (hD.sub [0, 1, 2] (by decide) rfl) hS dX12_gutter_11
set_option maxHeartbeats 8000000 in
set_option maxRecDepth 100000 in
theorem c_X12_gutter (l : Launch) (D : va_G) (y : Nat → ClassId) (m0 : Nat) (m_read : Nat) (rl : Int) (rp : Int) (m_gut : Nat) (gl : Int) (gp : Int) (gx : Int) (gy : Int) (m_text : Nat) (tn : Int) (fn : Int) (m_boat : Nat) (m_coins : Nat) (vw : Int) (vm : Int) (vn : Int) (m_rest : Nat) (m_ends : Nat) (vc : Int) (m_chan : Nat) (m_spl : Nat) (fs : Int) (rn : Int) (m_rf : Nat) (m_rr : Nat) (m_ik : Nat) (m_km : Nat) (m_kb : Nat) (m_kc : Nat) (m_kf : Nat) (m_kr : Nat) (MG : Int → Int) (MR : Int → Int) (MT : Int → Int) (ht : tOK tn MT) (hf : faultV tn MT = -9) (sz : Nat) : Met l yX12_gutter wsX12_gutter ({ frames := 3, cells := 0, slots := 0, locals := 68 } : Room) (wPc D y [] [(m0, .inr (11, [.ref m_read, zi rl, zi rp, .ref m_gut, zi gl, zi gp, zi gx, zi gy, .ref m_text, zi tn, zi fn, .ref m_boat, .ref m_coins, zi vw, zi vm, zi vn, .ref m_rest, .ref m_ends, zl vc, .ref m_chan, .ref m_spl, zi fs, zi rn, .ref m_rf, .ref m_rr, .ref m_ik, .ref m_km, .ref m_kb, .ref m_kc, .ref m_kf, .ref m_kr])), (m_gut, .inl (y 0, 36, .inl (cI MG))), (m_read, .inl (y 0, 36, .inl (cI MR))), (m_text, .inl (y 0, 40, .inl (cI MT)))] sz [.ref m0]) (wQ D (fun (x9 : Int × Int × (Int → Int) × (Int → Int)) => match x9 with | (gl2, gp2, MG2, MR2) => some (zi (100 * gl2 + gp2))) (fun (x9 : Int × Int × (Int → Int) × (Int → Int)) => match x9 with | (gl2, gp2, MG2, MR2) => gf MT tn.toNat 0 0 0 MR = (gl2 - 1, gp2, MR2) ∧ ∀ j : Int, 0 ≤ j → j < 36 → MG2 j = MR2 j) (fun (x9 : Int × Int × (Int → Int) × (Int → Int)) => match x9 with | (gl2, gp2, MG2, MR2) => [(m0, .inr (11, [.ref m_read, zi gl2, zi gp2, .ref m_gut, zi gl2, zi gp2, zi gx, zi gy, .ref m_text, zi tn, zi fn, .ref m_boat, .ref m_coins, zi vw, zi vm, zi vn, .ref m_rest, .ref m_ends, zl vc, .ref m_chan, .ref m_spl, zi fs, zi rn, .ref m_rf, .ref m_rr, .ref m_ik, .ref m_km, .ref m_kb, .ref m_kc, .ref m_kf, .ref m_kr])), (m_gut, .inl (y 0, 36, .inl (cI MG2))), (m_read, .inl (y 0, 36, .inl (cI MR2))), (m_text, .inl (y 0, 40, .inl (cI MT)))]) (va_A [(m0, .inr (11, [.ref m_read, zi rl, zi rp, .ref m_gut, zi gl, zi gp, zi gx, zi gy, .ref m_text, zi tn, zi fn, .ref m_boat, .ref m_coins, zi vw, zi vm, zi vn, .ref m_rest, .ref m_ends, zl vc, .ref m_chan, .ref m_spl, zi fs, zi rn, .ref m_rf, .ref m_rr, .ref m_ik, .ref m_km, .ref m_kb, .ref m_kc, .ref m_kf, .ref m_kr])), (m_gut, .inl (y 0, 36, .inl (cI MG))), (m_read, .inl (y 0, 36, .inl (cI MR))), (m_text, .inl (y 0, 40, .inl (cI MT)))] sz)) 0 0 (va_A [(m0, .inr (11, [.ref m_read, zi rl, zi rp, .ref m_gut, zi gl, zi gp, zi gx, zi gy, .ref m_text, zi tn, zi fn, .ref m_boat, .ref m_coins, zi vw, zi vm, zi vn, .ref m_rest, .ref m_ends, zl vc, .ref m_chan, .ref m_spl, zi fs, zi rn, .ref m_rf, .ref m_rr, .ref m_ik, .ref m_km, .ref m_kb, .ref m_kc, .ref m_kf, .ref m_kr])), (m_gut, .inl (y 0, 36, .inl (cI MG))), (m_read, .inl (y 0, 36, .inl (cI MR))), (m_text, .inl (y 0, 40, .inl (cI MT)))] sz) := by
  refine W_of (own := RX12) (cc := cX12_gutter) (maxL := 2) (ret := some .int) (by decide) rfl rfl (Nat.le_of_ble_eq_true rfl) (fun p e s m below meth c ls A hx hb hr hC hlocks hin0 hR0 hN hP hD hA hG hl => ?_)
  have hC0 := hC
  obtain ⟨-, -, hml, hown, hts⟩ := hC0
  have hK := hG.1
  have hS : va_S A s.heap s.heap [] := va_S.rf
  have hPr := hR0
  have hinX12 : ∀ w ∈ wsX120, w ∈ wsX12_gutter := fun _ h => List.mem_cons_of_mem _ (List.mem_append_right _ h)
  have k1 := hts (.fieldLink RX12 13 "BoatsOfPaperModel" "gutter" "[I") (List.mem_of_getElem? (i := 1) rfl)
  have k2 := hts (.fieldLink RX12 7 "BoatsOfPaperModel" "read" "[I") (List.mem_of_getElem? (i := 2) rfl)
  have k3 := hts (.fieldLink RX12 91 "BoatsOfPaperModel" "readLanes" "I") (List.mem_of_getElem? (i := 3) rfl)
  have k4 := hts (.fieldLink RX12 63 "BoatsOfPaperModel" "lanes" "I") (List.mem_of_getElem? (i := 4) rfl)
  have k5 := hts (.fieldLink RX12 94 "BoatsOfPaperModel" "readPlaces" "I") (List.mem_of_getElem? (i := 5) rfl)
  have k6 := hts (.fieldLink RX12 67 "BoatsOfPaperModel" "places" "I") (List.mem_of_getElem? (i := 6) rfl)
  have hl : lv_has ls 2 [(0, .ref m0)] := hl
  have fb := faultV_bd (T := MT) ht.1.1
  have u1 := ht.1
  refine lv_aload_n hx hb dX12_gutter_0 rfl (lv_at hl 0 rfl) ?_
  refine z_wV (As := []) (rest := []) (wc := [(m0, .inr (11, [.ref m_read, zi rl, zi rp, .ref m_gut, zi gl, zi gp, zi gx, zi gy, .ref m_text, zi tn, zi fn, .ref m_boat, .ref m_coins, zi vw, zi vm, zi vn, .ref m_rest, .ref m_ends, zl vc, .ref m_chan, .ref m_spl, zi fs, zi rn, .ref m_rf, .ref m_rr, .ref m_ik, .ref m_km, .ref m_kb, .ref m_kc, .ref m_kf, .ref m_kr])), (m_read, .inl (y 0, 36, .inl (cI MR))), (m_text, .inl (y 0, 40, .inl (cI MT)))]) (wrest := [(m_gut, .inl (y 0, 36, .inl (cI MG)))]) hC (c_X12_readText l D y m0 m_read rl rp m_gut gl gp gx gy m_text tn fn m_boat m_coins vw vm vn m_rest m_ends vc m_chan m_spl fs rn m_rf m_rr m_ik m_km m_kb m_kc m_kf m_kr MR MT (by first | assumption | omega) _) (cwV 0 hts gX12_gutter_X12_readText rfl rfl rfl (by decide +kernel) ⟨Nat.le_of_ble_eq_true rfl, Nat.le_of_ble_eq_true rfl⟩) hG hP hD hS hA [0, 2, 3] [1] rfl rfl (by decide) (by decide) (by decide) va_P_nil ro_nil 0 rfl rfl rfl hl.1 rfl (Nat.le_of_ble_eq_true rfl) dX12_gutter_1 ⟨Nat.le_of_ble_eq_true rfl, Nat.le_of_ble_eq_true rfl⟩ (fun u9 H locs hw_4 hP hD hS => ?_)
  obtain ⟨rl2, rp2, MR2⟩ := u9
  have hw_4 : faultV tn MT = -9 → gf MT tn.toNat 0 0 0 MR = (rl2 - 1, rp2, MR2) := hw_4
  have hP : va_P D vwCl [(m_gut, .inl (y 0, 36, .inl (cI MG))), (m0, .inr (11, [.ref m_read, zi rl2, zi rp2, .ref m_gut, zi gl, zi gp, zi gx, zi gy, .ref m_text, zi tn, zi fn, .ref m_boat, .ref m_coins, zi vw, zi vm, zi vn, .ref m_rest, .ref m_ends, zl vc, .ref m_chan, .ref m_spl, zi fs, zi rn, .ref m_rf, .ref m_rr, .ref m_ik, .ref m_km, .ref m_kb, .ref m_kc, .ref m_kf, .ref m_kr])), (m_read, .inl (y 0, 36, .inl (cI MR2))), (m_text, .inl (y 0, 40, .inl (cI MT)))] H := hP
  have hD : va_D A [(m_gut, .inl (y 0, 36, .inl (cI MG))), (m0, .inr (11, [.ref m_read, zi rl2, zi rp2, .ref m_gut, zi gl, zi gp, zi gx, zi gy, .ref m_text, zi tn, zi fn, .ref m_boat, .ref m_coins, zi vw, zi vm, zi vn, .ref m_rest, .ref m_ends, zl vc, .ref m_chan, .ref m_spl, zi fs, zi rn, .ref m_rf, .ref m_rr, .ref m_ik, .ref m_km, .ref m_kb, .ref m_kc, .ref m_kf, .ref m_kr])), (m_read, .inl (y 0, 36, .inl (cI MR2))), (m_text, .inl (y 0, 40, .inl (cI MT)))] := hD
  have hgf := hw_4 hf
  refine z_bipush hx hb dX12_gutter_4 (by decide) ?_
  refine z_icmp_eq (tgt := 12) hx hb (by omega) (by omega) dX12_gutter_6 (by decide) (fun c_6 => ?_) (fun c_6 => ?_)
  ·
    refine z_iconst hx hb dX12_gutter_12 ?_
    refine lv_istore_n (lv' := [(1, zi 0), (0, .ref m0)]) hx hb dX12_gutter_13 rfl hl (by decide) rfl (fun ls hl => ?_)
    refine z_loop (σ := Int × (Int → Int)) (fun x9 H lc ls => match x9 with | (k, G1) => ((0 ≤ k ∧ k ≤ 36) ∧ ∀ j : Int, 0 ≤ j → j < k → G1 j = MR2 j) ∧ lv_has ls 2 [(1, zi k), (0, .ref m0)] ∧ va_P D vwCl [(m_gut, .inl (y 0, 36, .inl (cI G1))), (m0, .inr (11, [.ref m_read, zi rl2, zi rp2, .ref m_gut, zi gl, zi gp, zi gx, zi gy, .ref m_text, zi tn, zi fn, .ref m_boat, .ref m_coins, zi vw, zi vm, zi vn, .ref m_rest, .ref m_ends, zl vc, .ref m_chan, .ref m_spl, zi fs, zi rn, .ref m_rf, .ref m_rr, .ref m_ik, .ref m_km, .ref m_kb, .ref m_kc, .ref m_kf, .ref m_kr])), (m_read, .inl (y 0, 36, .inl (cI MR2))), (m_text, .inl (y 0, 40, .inl (cI MT)))] H ∧ va_D A [(m_gut, .inl (y 0, 36, .inl (cI G1))), (m0, .inr (11, [.ref m_read, zi rl2, zi rp2, .ref m_gut, zi gl, zi gp, zi gx, zi gy, .ref m_text, zi tn, zi fn, .ref m_boat, .ref m_coins, zi vw, zi vm, zi vn, .ref m_rest, .ref m_ends, zl vc, .ref m_chan, .ref m_spl, zi fs, zi rn, .ref m_rf, .ref m_rr, .ref m_ik, .ref m_km, .ref m_kb, .ref m_kc, .ref m_kf, .ref m_kr])), (m_read, .inl (y 0, 36, .inl (cI MR2))), (m_text, .inl (y 0, 40, .inl (cI MT)))] ∧ va_S A s.heap H lc) (fun x9  => match x9 with | (k, G1) => ((36 - k).toNat)) ?_ (0, MG) ⟨⟨by omega, fun j _ _ => by omega⟩, lv_sub hl [0, 1] rfl, hP.sub [0, 1, 2, 3] rfl, hD.sub [0, 1, 2, 3] (by decide) rfl, hS⟩
    rintro ⟨k, G1⟩ H lc ls ⟨hi14, hl, hP, hD, hS⟩ ih14
    have hP : va_P D vwCl [(m_gut, .inl (y 0, 36, .inl (cI G1))), (m0, .inr (11, [.ref m_read, zi rl2, zi rp2, .ref m_gut, zi gl, zi gp, zi gx, zi gy, .ref m_text, zi tn, zi fn, .ref m_boat, .ref m_coins, zi vw, zi vm, zi vn, .ref m_rest, .ref m_ends, zl vc, .ref m_chan, .ref m_spl, zi fs, zi rn, .ref m_rf, .ref m_rr, .ref m_ik, .ref m_km, .ref m_kb, .ref m_kc, .ref m_kf, .ref m_kr])), (m_read, .inl (y 0, 36, .inl (cI MR2))), (m_text, .inl (y 0, 40, .inl (cI MT)))] H := hP
    have hD : va_D A [(m_gut, .inl (y 0, 36, .inl (cI G1))), (m0, .inr (11, [.ref m_read, zi rl2, zi rp2, .ref m_gut, zi gl, zi gp, zi gx, zi gy, .ref m_text, zi tn, zi fn, .ref m_boat, .ref m_coins, zi vw, zi vm, zi vn, .ref m_rest, .ref m_ends, zl vc, .ref m_chan, .ref m_spl, zi fs, zi rn, .ref m_rf, .ref m_rr, .ref m_ik, .ref m_km, .ref m_kb, .ref m_kc, .ref m_kf, .ref m_kr])), (m_read, .inl (y 0, 36, .inl (cI MR2))), (m_text, .inl (y 0, 40, .inl (cI MT)))] := hD
    refine lv_iload_n hx hb dX12_gutter_14 rfl (lv_at hl 0 rfl) ?_
    refine z_bipush hx hb dX12_gutter_15 (by decide) ?_
    refine z_icmp_ge (tgt := 38) hx hb (by omega) (by omega) dX12_gutter_17 (by decide) (fun c_17 => ?_) (fun c_17 => ?_)
    ·
      refine lv_aload_n hx hb dX12_gutter_38 rfl (lv_at hl 1 rfl) ?_
      refine lv_aload_n hx hb dX12_gutter_39 rfl (lv_at hl 1 rfl) ?_
      refine va_get hx hb hts hinX12 hown hK hP 1 rfl rfl 1 (by decide) k3 (fun _ h => h) rfl dX12_gutter_40 ?_
      refine va_put hx hb hts hinX12 tyX12 tyX12_ok nmX12 hown hK hP hD hS 1 rfl rfl 4 (by decide) k4 (fun _ h => h) rfl (tyX12_ok 4 (by decide)) rfl rfl (Nat.le_of_ble_eq_true rfl) dX12_gutter_43 (fun H locs hP hD hS => ?_)
      have hP : va_P D vwCl [(m_gut, .inl (y 0, 36, .inl (cI G1))), (m0, .inr (11, [.ref m_read, zi rl2, zi rp2, .ref m_gut, zi rl2, zi gp, zi gx, zi gy, .ref m_text, zi tn, zi fn, .ref m_boat, .ref m_coins, zi vw, zi vm, zi vn, .ref m_rest, .ref m_ends, zl vc, .ref m_chan, .ref m_spl, zi fs, zi rn, .ref m_rf, .ref m_rr, .ref m_ik, .ref m_km, .ref m_kb, .ref m_kc, .ref m_kf, .ref m_kr])), (m_read, .inl (y 0, 36, .inl (cI MR2))), (m_text, .inl (y 0, 40, .inl (cI MT)))] H := hP
      have hD : va_D A [(m_gut, .inl (y 0, 36, .inl (cI G1))), (m0, .inr (11, [.ref m_read, zi rl2, zi rp2, .ref m_gut, zi rl2, zi gp, zi gx, zi gy, .ref m_text, zi tn, zi fn, .ref m_boat, .ref m_coins, zi vw, zi vm, zi vn, .ref m_rest, .ref m_ends, zl vc, .ref m_chan, .ref m_spl, zi fs, zi rn, .ref m_rf, .ref m_rr, .ref m_ik, .ref m_km, .ref m_kb, .ref m_kc, .ref m_kf, .ref m_kr])), (m_read, .inl (y 0, 36, .inl (cI MR2))), (m_text, .inl (y 0, 40, .inl (cI MT)))] := hD
      refine lv_aload_n hx hb dX12_gutter_46 rfl (lv_at hl 1 rfl) ?_
      refine lv_aload_n hx hb dX12_gutter_47 rfl (lv_at hl 1 rfl) ?_
      refine va_get hx hb hts hinX12 hown hK hP 1 rfl rfl 2 (by decide) k5 (fun _ h => h) rfl dX12_gutter_48 ?_
      refine va_put hx hb hts hinX12 tyX12 tyX12_ok nmX12 hown hK hP hD hS 1 rfl rfl 5 (by decide) k6 (fun _ h => h) rfl (tyX12_ok 5 (by decide)) rfl rfl (Nat.le_of_ble_eq_true rfl) dX12_gutter_51 (fun H locs hP hD hS => ?_)
      have hP : va_P D vwCl [(m_gut, .inl (y 0, 36, .inl (cI G1))), (m0, .inr (11, [.ref m_read, zi rl2, zi rp2, .ref m_gut, zi rl2, zi rp2, zi gx, zi gy, .ref m_text, zi tn, zi fn, .ref m_boat, .ref m_coins, zi vw, zi vm, zi vn, .ref m_rest, .ref m_ends, zl vc, .ref m_chan, .ref m_spl, zi fs, zi rn, .ref m_rf, .ref m_rr, .ref m_ik, .ref m_km, .ref m_kb, .ref m_kc, .ref m_kf, .ref m_kr])), (m_read, .inl (y 0, 36, .inl (cI MR2))), (m_text, .inl (y 0, 40, .inl (cI MT)))] H := hP
      have hD : va_D A [(m_gut, .inl (y 0, 36, .inl (cI G1))), (m0, .inr (11, [.ref m_read, zi rl2, zi rp2, .ref m_gut, zi rl2, zi rp2, zi gx, zi gy, .ref m_text, zi tn, zi fn, .ref m_boat, .ref m_coins, zi vw, zi vm, zi vn, .ref m_rest, .ref m_ends, zl vc, .ref m_chan, .ref m_spl, zi fs, zi rn, .ref m_rf, .ref m_rr, .ref m_ik, .ref m_km, .ref m_kb, .ref m_kc, .ref m_kf, .ref m_kr])), (m_read, .inl (y 0, 36, .inl (cI MR2))), (m_text, .inl (y 0, 40, .inl (cI MT)))] := hD
      refine z_bipush hx hb dX12_gutter_54 (by decide) ?_
      refine lv_aload_n hx hb dX12_gutter_56 rfl (lv_at hl 1 rfl) ?_
      refine va_get hx hb hts hinX12 hown hK hP 1 rfl rfl 4 (by decide) k4 (fun _ h => h) rfl dX12_gutter_57 ?_
      refine z_imul hx hb dX12_gutter_60 ?_
      refine lv_aload_n hx hb dX12_gutter_61 rfl (lv_at hl 1 rfl) ?_
      refine va_get hx hb hts hinX12 hown hK hP 1 rfl rfl 5 (by decide) k6 (fun _ h => h) rfl dX12_gutter_62 ?_
      refine z_iadd hx hb dX12_gutter_65 ?_
      exact z_iretW hx hb hr hlocks (rl2, rp2, G1, MR2) (rfl) (⟨hgf, by rw [show k = 36 by omega] at hi14; exact hi14.2⟩) (hP.sub [1, 0, 2, 3] rfl) (hD.sub [1, 0, 2, 3] (by decide) rfl) hS dX12_gutter_66
    ·
      refine lv_aload_n hx hb dX12_gutter_20 rfl (lv_at hl 1 rfl) ?_
      refine va_get hx hb hts hinX12 hown hK hP 1 rfl rfl 3 (by decide) k1 (fun _ h => h) rfl dX12_gutter_21 ?_
      refine lv_iload_n hx hb dX12_gutter_24 rfl (lv_at hl 0 rfl) ?_
      refine lv_aload_n hx hb dX12_gutter_25 rfl (lv_at hl 1 rfl) ?_
      refine va_get hx hb hts hinX12 hown hK hP 1 rfl rfl 0 (by decide) k2 (fun _ h => h) rfl dX12_gutter_26 ?_
      refine lv_iload_n hx hb dX12_gutter_29 rfl (lv_at hl 0 rfl) ?_
      refine z_iald hx hb hK hP 2 0 rfl rfl (by omega) (by decide) dX12_gutter_30 ?_
      refine z_iast hx hb hK hP hD hS 0 0 rfl rfl (by omega) (by decide) dX12_gutter_31 (fun H locs hP hD hS => ?_)
      have hP : va_P D vwCl [(m_gut, .inl (y 0, 36, .inl (cI (iu G1 k (MR2 k))))), (m0, .inr (11, [.ref m_read, zi rl2, zi rp2, .ref m_gut, zi gl, zi gp, zi gx, zi gy, .ref m_text, zi tn, zi fn, .ref m_boat, .ref m_coins, zi vw, zi vm, zi vn, .ref m_rest, .ref m_ends, zl vc, .ref m_chan, .ref m_spl, zi fs, zi rn, .ref m_rf, .ref m_rr, .ref m_ik, .ref m_km, .ref m_kb, .ref m_kc, .ref m_kf, .ref m_kr])), (m_read, .inl (y 0, 36, .inl (cI MR2))), (m_text, .inl (y 0, 40, .inl (cI MT)))] H := hP
      have hD : va_D A [(m_gut, .inl (y 0, 36, .inl (cI (iu G1 k (MR2 k))))), (m0, .inr (11, [.ref m_read, zi rl2, zi rp2, .ref m_gut, zi gl, zi gp, zi gx, zi gy, .ref m_text, zi tn, zi fn, .ref m_boat, .ref m_coins, zi vw, zi vm, zi vn, .ref m_rest, .ref m_ends, zl vc, .ref m_chan, .ref m_spl, zi fs, zi rn, .ref m_rf, .ref m_rr, .ref m_ik, .ref m_km, .ref m_kb, .ref m_kc, .ref m_kf, .ref m_kr])), (m_read, .inl (y 0, 36, .inl (cI MR2))), (m_text, .inl (y 0, 40, .inl (cI MT)))] := hD
      refine z_iinc (k := 0) (lv' := [(1, zi (k + 1)), (0, .ref m0)]) hx hb dX12_gutter_32 hl rfl (by decide) rfl (fun ls hl => ?_)
      refine lv_goto (tgt := 14) hx hb dX12_gutter_35 (by decide) ?_
      exact ih14 (k + 1, iu G1 k (MR2 k)) _ _ _ (by first | (dsimp only; omega) | omega) ⟨⟨by omega, iu_fill hi14.2⟩, lv_sub hl [0, 1] rfl, hP.sub [0, 1, 2, 3] rfl, hD.sub [0, 1, 2, 3] (by decide) rfl, hS⟩
  · exfalso; omega
