set_option maxHeartbeats 8000000 in
set_option maxRecDepth 100000 in
theorem c_X5_commonDivisor (l : Launch) (D : va_G) (y : Nat → ClassId) (fa : Int) (fb : Int) (hq : (0 ≤ fa ∧ fa ≤ 100000000000000) ∧ (0 ≤ fb ∧ fb ≤ 100000000000000)) : Met l yX5_commonDivisor wsX5_commonDivisor ({ frames := 0, cells := 0, slots := 0, locals := 0 } : Room) (pPc D y [] [zl fa, zl fb]) (qV (zl (gcdI fa fb))) 0 0 (fun _ => False) := by
  refine P_of (own := RX5) (cc := cX5_commonDivisor) (maxL := 11) (ret := some .long) (by decide) rfl rfl (Nat.le_of_ble_eq_true rfl) (fun p e s m below meth c ls hx hb hr hC hlocks hPr hG hl => ?_)
  have hC0 := hC
  obtain ⟨-, -, hml, hown, hts⟩ := hC0
  have hK := hG.1
  have hl : lv_has ls 11 [(0, zl fa), (2, zl fb)] := hl
  refine lv_lload_n hx hb dX5_commonDivisor_0 rfl (lv_at hl 0 rfl) ?_
  refine lv_lstore (lv' := [(4, zl fa), (0, zl fa), (2, zl fb)]) hx hb dX5_commonDivisor_1 hl (by decide) rfl (fun ls hl => ?_)
  refine lv_lload_n hx hb dX5_commonDivisor_3 rfl (lv_at hl 2 rfl) ?_
  refine lv_lstore (lv' := [(6, zl fb), (4, zl fa), (0, zl fa), (2, zl fb)]) hx hb dX5_commonDivisor_4 hl (by decide) rfl (fun ls hl => ?_)
  refine z_iconst hx hb dX5_commonDivisor_6 ?_
  refine lv_istore (lv' := [(8, zi 0), (6, zl fb), (4, zl fa), (0, zl fa), (2, zl fb)]) hx hb dX5_commonDivisor_7 hl (by decide) rfl (fun ls hl => ?_)
  refine z_loop (σ := Int × Int × Int) (fun x9 H lc ls => match x9 with | (g, z, k) => ((0 ≤ k ∧ k ≤ 100 ∧ 0 ≤ g ∧ g ≤ 100000000000000 ∧ 0 ≤ z ∧ z ≤ 100000000000000) ∧ gcdI g z = gcdI fa fb ∧ euI g z k) ∧ lv_has ls 11 [(8, zi k), (6, zl z), (4, zl g), (0, zl fa), (2, zl fb)] ∧ H = s.heap ∧ lc = []) (fun x9  => match x9 with | (g, z, k) => ((100 - k).toNat)) ?_ (fa, fb, 0) ⟨⟨by omega, rfl, eu_0 hq.1 hq.2⟩, lv_sub hl [0, 1, 2, 3, 4] rfl, rfl, rfl⟩
  rintro ⟨g, z, k⟩ H lc ls ⟨hi9, hl, rfl, rfl⟩ ih9
  refine lv_iload hx hb dX5_commonDivisor_9 (lv_at hl 0 rfl) ?_
  refine z_bipush hx hb dX5_commonDivisor_11 (by decide) ?_
  refine z_icmp_ge (tgt := 44) hx hb (by omega) (by omega) dX5_commonDivisor_13 (by decide) (fun c_13 => ?_) (fun c_13 => ?_)
  ·
    refine lv_lload hx hb dX5_commonDivisor_44 (lv_at hl 2 rfl) ?_
    exact z_lret0 hx hb hr hlocks (by have e0 : z = 0 := (by omega : z = 0 ∨ k = 100).elim id (fun q => by have h9 := hi9.2.2; rw [q] at h9; exact eu_end (by omega) (by omega) h9); subst e0; rw [← hi9.2.1, gcdI_0 (by omega)]) dX5_commonDivisor_46
  ·
    refine lv_lload hx hb dX5_commonDivisor_16 (lv_at hl 1 rfl) ?_
    refine lv_lconst (v := iL 0) hx hb dX5_commonDivisor_18 rfl ?_
    refine z_lcmp_eq (tgt := 44) hx hb (by omega) (by omega) dX5_commonDivisor_19 dX5_commonDivisor_20 (by decide) (fun c_19 => ?_) (fun c_19 => ?_)
    ·
      refine lv_lload hx hb dX5_commonDivisor_44 (lv_at hl 2 rfl) ?_
      exact z_lret0 hx hb hr hlocks (by have e0 : z = 0 := (by omega : z = 0 ∨ k = 100).elim id (fun q => by have h9 := hi9.2.2; rw [q] at h9; exact eu_end (by omega) (by omega) h9); subst e0; rw [← hi9.2.1, gcdI_0 (by omega)]) dX5_commonDivisor_46
    ·
      refine lv_lload hx hb dX5_commonDivisor_23 (lv_at hl 2 rfl) ?_
      refine lv_lload hx hb dX5_commonDivisor_25 (lv_at hl 1 rfl) ?_
      refine z_lrem hx hb (by omega) dX5_commonDivisor_27 ?_
      refine lv_lstore (lv' := [(9, zl (g % z)), (8, zi k), (6, zl z), (4, zl g), (0, zl fa), (2, zl fb)]) hx hb dX5_commonDivisor_28 hl (by decide) rfl (fun ls hl => ?_)
      refine lv_lload hx hb dX5_commonDivisor_30 (lv_at hl 2 rfl) ?_
      refine lv_lstore (lv' := [(4, zl z), (9, zl (g % z)), (8, zi k), (6, zl z), (0, zl fa), (2, zl fb)]) hx hb dX5_commonDivisor_32 hl (by decide) rfl (fun ls hl => ?_)
      refine lv_lload hx hb dX5_commonDivisor_34 (lv_at hl 1 rfl) ?_
      refine lv_lstore (lv' := [(6, zl (g % z)), (4, zl z), (9, zl (g % z)), (8, zi k), (0, zl fa), (2, zl fb)]) hx hb dX5_commonDivisor_36 hl (by decide) rfl (fun ls hl => ?_)
      refine z_iinc (k := 3) (lv' := [(8, zi (k + 1)), (6, zl (g % z)), (4, zl z), (9, zl (g % z)), (0, zl fa), (2, zl fb)]) hx hb dX5_commonDivisor_38 hl rfl (by decide) rfl (fun ls hl => ?_)
      refine lv_goto (tgt := 9) hx hb dX5_commonDivisor_41 (by decide) ?_
      exact ih9 (z, g % z, k + 1) _ _ _ (by first | (dsimp only; omega) | omega) ⟨⟨by have := Int.emod_nonneg g (by omega : z ≠ 0); have := Int.emod_lt_of_pos g (by omega : 0 < z); omega, (gcdI_step (by omega) (by omega)).trans hi9.2.1, eu_s (by omega) (by omega) (by omega) hi9.2.2⟩, lv_sub hl [0, 1, 2, 4, 5] rfl, rfl, rfl⟩
set_option maxHeartbeats 8000000 in
set_option maxRecDepth 100000 in
theorem c_X5_tell (l : Launch) (D : va_G) (y : Nat → ClassId) (fa : Int) (fb : Int) (fu : Int) (hq : (0 ≤ fa ∧ fa ≤ 100000000000000) ∧ (0 ≤ fb ∧ fb ≤ 100000000000000) ∧ 0 < fb) (hu : fu = 0 ∨ fu = 1) : Met l yX5_tell wsX5_tell ({ frames := 1, cells := 0, slots := 0, locals := 30 } : Room) (pPc D y [] [zl fa, zl fb, zi fu]) (qV (zl (tellV fa fb fu))) 0 0 (fun _ => False) := by
  refine P_of (own := RX5) (cc := cX5_tell) (maxL := 7) (ret := some .long) (by decide) rfl rfl (Nat.le_of_ble_eq_true rfl) (fun p e s m below meth c ls hx hb hr hC hlocks hPr hG hl => ?_)
  have hC0 := hC
  obtain ⟨-, -, hml, hown, hts⟩ := hC0
  have hK := hG.1
  have hl : lv_has ls 7 [(0, zl fa), (2, zl fb), (4, zi fu)] := hl
  have g1 := gcdI_pos (a := fa) (b := fb) (by omega)
  have g2 := gcdI_le (a := fa) (b := fb) (by omega)
  refine lv_lload_n hx hb dX5_tell_0 rfl (lv_at hl 0 rfl) ?_
  refine lv_lload_n hx hb dX5_tell_1 rfl (lv_at hl 1 rfl) ?_
  refine z_pS (As := [zl fa, zl fb]) (rest := []) hC (c_X5_commonDivisor l D y fa fb ⟨hq.1, hq.2.1⟩) (va_cwS 2 hts gX5_tell_X5_commonDivisor rfl rfl rfl (by decide +kernel) ⟨Nat.le_of_ble_eq_true rfl, Nat.le_of_ble_eq_true rfl⟩) hG va_P_nil rfl hl.1 rfl (Nat.le_of_ble_eq_true rfl) dX5_tell_2 ⟨Nat.le_of_ble_eq_true rfl, Nat.le_of_ble_eq_true rfl⟩ ?_
  refine lv_lstore (lv' := [(5, zl (gcdI fa fb)), (0, zl fa), (2, zl fb), (4, zi fu)]) hx hb dX5_tell_5 hl (by decide) rfl (fun ls hl => ?_)
  refine lv_lload hx hb dX5_tell_7 (lv_at hl 0 rfl) ?_
  refine lv_lconst (v := iL 1) hx hb dX5_tell_9 rfl ?_
  refine z_lcmp_ge (tgt := 25) hx hb (by omega) (by omega) dX5_tell_10 dX5_tell_11 (by decide) (fun c_10 => ?_) (fun c_10 => ?_)
  ·
    refine lv_iload hx hb dX5_tell_25 (lv_at hl 3 rfl) ?_
    refine z_if_eq (tgt := 34) hx hb (by omega) dX5_tell_27 (by decide) (fun c_27 => ?_) (fun c_27 => ?_)
    ·
      refine lv_lload_n hx hb dX5_tell_34 rfl (lv_at hl 2 rfl) ?_
      refine lv_lload hx hb dX5_tell_35 (lv_at hl 0 rfl) ?_
      refine z_ldiv hx hb (by omega) dX5_tell_37 ?_
      exact z_lret0 hx hb hr hlocks (by unfold tellV; first | rw [if_pos (by omega)] | rw [if_neg (by omega)]) dX5_tell_38
    ·
      refine lv_lload_n hx hb dX5_tell_30 rfl (lv_at hl 1 rfl) ?_
      refine lv_goto (tgt := 35) hx hb dX5_tell_31 (by decide) ?_
      refine lv_lload hx hb dX5_tell_35 (lv_at hl 0 rfl) ?_
      refine z_ldiv hx hb (by omega) dX5_tell_37 ?_
      exact z_lret0 hx hb hr hlocks (by unfold tellV; first | rw [if_pos (by omega)] | rw [if_neg (by omega)]) dX5_tell_38
  ·
    refine lv_iload hx hb dX5_tell_14 (lv_at hl 3 rfl) ?_
    refine z_if_eq (tgt := 23) hx hb (by omega) dX5_tell_16 (by decide) (fun c_16 => ?_) (fun c_16 => ?_)
    ·
      refine lv_lload_n hx hb dX5_tell_23 rfl (lv_at hl 2 rfl) ?_
      exact z_lret0 hx hb hr hlocks (by omega) dX5_tell_24
    ·
      refine lv_lload_n hx hb dX5_tell_19 rfl (lv_at hl 1 rfl) ?_
      refine lv_goto (tgt := 24) hx hb dX5_tell_20 (by decide) ?_
      exact z_lret0 hx hb hr hlocks (by omega) dX5_tell_24
set_option maxHeartbeats 8000000 in
set_option maxRecDepth 100000 in
theorem c_X5_powerOfTen (l : Launch) (D : va_G) (y : Nat → ClassId) (px : Int) (hq : 0 ≤ px ∧ px ≤ 18) : Met l yX5_powerOfTen wsX5_powerOfTen ({ frames := 0, cells := 0, slots := 0, locals := 0 } : Room) (pPc D y [] [zi px]) (qV (zl (10 ^ px.toNat))) 0 0 (fun _ => False) := by
  refine P_of (own := RX5) (cc := cX5_powerOfTen) (maxL := 4) (ret := some .long) (by decide) rfl rfl (Nat.le_of_ble_eq_true rfl) (fun p e s m below meth c ls hx hb hr hC hlocks hPr hG hl => ?_)
  have hC0 := hC
  obtain ⟨-, -, hml, hown, hts⟩ := hC0
  have hK := hG.1
  have k1 := hts (.constantLong RX5 13 (10)) (List.mem_of_getElem? (i := 1) rfl)
  have hl : lv_has ls 4 [(0, zi px)] := hl
  refine lv_lconst (v := iL 1) hx hb dX5_powerOfTen_0 rfl ?_
  refine lv_lstore_n (lv' := [(1, zl 1), (0, zi px)]) hx hb dX5_powerOfTen_1 rfl hl (by decide) rfl (fun ls hl => ?_)
  refine z_iconst hx hb dX5_powerOfTen_2 ?_
  refine lv_istore_n (lv' := [(3, zi 0), (1, zl 1), (0, zi px)]) hx hb dX5_powerOfTen_3 rfl hl (by decide) rfl (fun ls hl => ?_)
  refine z_loop (σ := Int × Int) (fun x9 H lc ls => match x9 with | (v, k) => (0 ≤ k ∧ k ≤ px ∧ v = 10 ^ k.toNat) ∧ lv_has ls 4 [(3, zi k), (1, zl v), (0, zi px)] ∧ H = s.heap ∧ lc = []) (fun x9  => match x9 with | (v, k) => ((px - k).toNat)) ?_ (1, 0) ⟨⟨by omega, by omega, rfl⟩, lv_sub hl [0, 1, 2] rfl, rfl, rfl⟩
  rintro ⟨v, k⟩ H lc ls ⟨hi4, hl, rfl, rfl⟩ ih4
  refine lv_iload_n hx hb dX5_powerOfTen_4 rfl (lv_at hl 0 rfl) ?_
  refine lv_iload_n hx hb dX5_powerOfTen_5 rfl (lv_at hl 2 rfl) ?_
  refine z_icmp_ge (tgt := 27) hx hb (by omega) (by omega) dX5_powerOfTen_6 (by decide) (fun c_6 => ?_) (fun c_6 => ?_)
  ·
    refine lv_lload_n hx hb dX5_powerOfTen_27 rfl (lv_at hl 1 rfl) ?_
    exact z_lret0 hx hb hr hlocks (by rw [hi4.2.2, show k = px by omega]) dX5_powerOfTen_28
  ·
    refine lv_iload_n hx hb dX5_powerOfTen_9 rfl (lv_at hl 0 rfl) ?_
    refine z_bipush hx hb dX5_powerOfTen_10 (by decide) ?_
    refine z_icmp_ge (tgt := 27) hx hb (by omega) (by omega) dX5_powerOfTen_12 (by decide) (fun c_12 => ?_) (fun c_12 => ?_)
    ·
      refine lv_lload_n hx hb dX5_powerOfTen_27 rfl (lv_at hl 1 rfl) ?_
      exact z_lret0 hx hb hr hlocks (by rw [hi4.2.2, show k = px by omega]) dX5_powerOfTen_28
    ·
      refine lv_lload_n hx hb dX5_powerOfTen_15 rfl (lv_at hl 1 rfl) ?_
      refine lv_ldc2 (v := iL 10) hx hb hown k1 dX5_powerOfTen_16 ?_
      refine z_lmul hx hb dX5_powerOfTen_19 ?_
      refine lv_lstore_n (lv' := [(1, zl (v * 10)), (3, zi k), (0, zi px)]) hx hb dX5_powerOfTen_20 rfl hl (by decide) rfl (fun ls hl => ?_)
      refine z_iinc (k := 1) (lv' := [(3, zi (k + 1)), (1, zl (v * 10)), (0, zi px)]) hx hb dX5_powerOfTen_21 hl rfl (by decide) rfl (fun ls hl => ?_)
      refine lv_goto (tgt := 4) hx hb dX5_powerOfTen_24 (by decide) ?_
      exact ih4 (v * 10, k + 1) _ _ _ (by first | (dsimp only; omega) | omega) ⟨⟨by omega, by omega, by rw [show (k + 1).toNat = k.toNat + 1 by omega, Int.pow_succ, hi4.2.2]⟩, lv_sub hl [0, 1, 2] rfl, rfl, rfl⟩
