/-! ===== the model's boats, on ===== -/
def abV (bl bw bt bh bd bx bn mm nn wq : Int) : Int := if wq = 0 then bl else if wq = 1 then bw else if wq = 2 then bt else if wq = 3 then bh else if wq = 4 then bl - 2 * bh else if wq = 5 then bw - 2 * bh else if wq = 6 then bd else if wq = 7 then bx else if wq = 8 then bn else if wq = 9 then 100000 + mm else if wq = 10 then 100000 + nn else -2
theorem corAt_bs {bl bw bt bh bd bn : Int} {CI CJ CW : Int → Int} (hn : 0 ≤ bn) (s : Int) : corV (bl - 2 * bh) (bw - 2 * bh) (bl * bw * bt + bs CW bn (1 * 2 ^ bn.toNat - 1) + s * bd) (bs (pullC (bl - 2 * bh) CI CW) bn (1 * 2 ^ bn.toNat - 1)) (bs (pullC (bw - 2 * bh) CJ CW) bn (1 * 2 ^ bn.toNat - 1)) = corAt bl bw bt bh bd bn CI CJ CW s := by
  rw [wAt_bs hn, mom_bs hn, mom_bs hn]
  rfl
theorem room_at (bl bw bt bh bd bn : Int) (CI CJ CW : Int → Int) (s : Int) : roomV (bl - 2 * bh) (bw - 2 * bh) bh (corAt bl bw bt bh bd bn CI CJ CW s) = leftV bl bw bt bh bd bn CI CJ CW - s * (bd * ((bl - 2 * bh) * (bw - 2 * bh))) := by
  have e : wAt bl bw bt bd bn CW s = wAt bl bw bt bd bn CW 0 + s * bd := by
    unfold wAt
    omega
  unfold leftV roomV corAt corV
  rw [e, Int.add_mul, Int.mul_assoc s bd]
  omega
def lifK (lf dc k : Int) : Int := if lf < 0 ∨ k < 1 then -9 else if dc < 1 then k - 1 else min (k - 1) (lf / dc)
theorem lifK_s {lf dc k : Int} (hd : 0 ≤ dc) (hk : 0 ≤ k) : lifK lf dc (k + 1) = if lf - k * dc < 0 then lifK lf dc k else k := by
  have p := Int.mul_nonneg hk hd
  unfold lifK
  by_cases c0 : lf < 0
  · rw [if_pos (Or.inl c0), if_pos (by omega), if_pos (Or.inl c0)]
  · rw [if_neg (by omega)]
    by_cases c1 : dc < 1
    · have e : dc = 0 := by omega
      subst e
      rw [if_pos c1, if_neg (by omega)]
      omega
    · rw [if_neg c1]
      by_cases c2 : lf - k * dc < 0
      · rw [if_pos c2]
        have k1 : ¬ k < 1 := fun q => by
          have e : k = 0 := by omega
          subst e
          omega
        rw [if_neg (by omega), if_neg c1]
        have h : lf / dc < k := Int.ediv_lt_of_lt_mul (by omega) (by omega)
        omega
      · rw [if_neg c2]
        have h : k ≤ lf / dc := Int.le_ediv_of_mul_le (by omega) (by omega)
        omega
theorem lifK_end {bl bw bt bh bd bx bn : Int} {CI CJ CW : Int → Int} (h : 0 ≤ 10 * bt + 5 * bx) : lifK (leftV bl bw bt bh bd bn CI CJ CW) (bd * ((bl - 2 * bh) * (bw - 2 * bh))) (10 * bt + 5 * bx + 1) = lifeV bl bw bt bh bd bx bn CI CJ CW := by
  unfold lifK lifeV
  by_cases c0 : leftV bl bw bt bh bd bn CI CJ CW < 0
  · rw [if_pos (Or.inl c0), if_pos c0]
  · rw [if_neg (by omega), if_neg c0, show 10 * bt + 5 * bx + 1 - 1 = 10 * bt + 5 * bx by omega]
theorem load_eq (l w t h : Int) : 100 * h * (l - 2 * h) * (w - 2 * h) - l * w * t = 100 * ((l - 2 * h) * (w - 2 * h)) * h - l * w * t := by
  have e : 100 * h * (l - 2 * h) * (w - 2 * h) = 100 * ((l - 2 * h) * (w - 2 * h)) * h := by ac_rfl
  omega
theorem full_sum {n t : Int} (hn : 0 ≤ n) (h0 : 0 ≤ t) (h1 : t = 1 * 2 ^ n.toNat - 1) (g : Int → Int) : sgI (fun c => if t / 2 ^ c.toNat % 2 = 0 then g c else 0) n = 0 := by
  have e : sgI (fun c => if t / 2 ^ c.toNat % 2 = 0 then g c else 0) n = sgI (fun _ => 0) n := sgI_congr (fun c c0 c1 => by
    have b := full_bit hn h0 (by omega) c0 c1
    rw [if_neg (by omega)])
  rw [e]
  have := sgI_bd (f := fun _ => 0) (c := 0) (n := n) (by omega) hn (fun _ _ _ => by omega)
  omega
theorem und_0 {bl bw bt bh bd bn : Int} {CI CJ CW : Int → Int} {t : Int} : roomV (bl - 2 * bh) (bw - 2 * bh) bh (corV (bl - 2 * bh) (bw - 2 * bh) (bl * bw * bt + bs CW bn t + 0 * bd) (bs (pullC (bl - 2 * bh) CI CW) bn t) (bs (pullC (bw - 2 * bh) CJ CW) bn t)) < 0 ↔ okB bl bw bt bh bn CI CJ CW t = false := by
  rw [Int.zero_mul, Int.add_zero]
  exact ⟨fun h => okB_f h, fun h => Classical.byContradiction (fun q => okB_t q h)⟩
set_option maxHeartbeats 8000000 in
set_option maxRecDepth 100000 in
theorem c_X12_boat_out (l : Launch) (D : va_G) (y : Nat → ClassId) (m0 : Nat) (m_read : Nat) (rl : Int) (rp : Int) (m_gut : Nat) (gl : Int) (gp : Int) (gx : Int) (gy : Int) (m_text : Nat) (tn : Int) (fn : Int) (m_boat : Nat) (m_coins : Nat) (vw : Int) (vm : Int) (vn : Int) (m_rest : Nat) (m_ends : Nat) (vc : Int) (m_chan : Nat) (m_spl : Nat) (fs : Int) (rn : Int) (m_rf : Nat) (m_rr : Nat) (m_ik : Nat) (m_km : Nat) (m_kb : Nat) (m_kc : Nat) (m_kf : Nat) (m_kr : Nat) (xl : Int) (xw : Int) (xt : Int) (xh : Int) (hr9 : rI xl ∧ rI xw ∧ rI xt ∧ rI xh) (hq : ¬ ((3 ≤ xl ∧ xl ≤ 20) ∧ (3 ≤ xw ∧ xw ≤ 20) ∧ (1 ≤ xt ∧ xt ≤ 9) ∧ 1 ≤ xh ∧ xh ≤ 9 ∧ 1 ≤ xl - 2 * xh ∧ 1 ≤ xw - 2 * xh)) : Met l yX12_boat wsX12_boat ({ frames := 2, cells := 0, slots := 0, locals := 47 } : Room) (pPc D y [(m0, .inr (11, [.ref m_read, zi rl, zi rp, .ref m_gut, zi gl, zi gp, zi gx, zi gy, .ref m_text, zi tn, zi fn, .ref m_boat, .ref m_coins, zi vw, zi vm, zi vn, .ref m_rest, .ref m_ends, zl vc, .ref m_chan, .ref m_spl, zi fs, zi rn, .ref m_rf, .ref m_rr, .ref m_ik, .ref m_km, .ref m_kb, .ref m_kc, .ref m_kf, .ref m_kr]))] [.ref m0, zi xl, zi xw, zi xt, zi xh]) (qV (zi (-2))) 0 0 (fun _ => False) := by
  refine P_of (own := RX12) (cc := cX12_boat) (maxL := 6) (ret := some .int) (by decide) rfl rfl (Nat.le_of_ble_eq_true rfl) (fun p e s m below meth c ls hx hb hr hC hlocks hPr hG hl => ?_)
  have hC0 := hC
  obtain ⟨-, -, hml, hown, hts⟩ := hC0
  have hK := hG.1
  have k1 := hts (.constantLong RX12 119 (3)) (List.mem_of_getElem? (i := 1) rfl)
  have k2 := hts (.constantLong RX12 117 (20)) (List.mem_of_getElem? (i := 2) rfl)
  have k3 := hts (.constantLong RX12 112 (9)) (List.mem_of_getElem? (i := 3) rfl)
  have hl : lv_has ls 6 [(0, .ref m0), (1, zi xl), (2, zi xw), (3, zi xt), (4, zi xh)] := hl
  refine lv_iload_n hx hb dX12_boat_0 rfl (lv_at hl 1 rfl) ?_
  refine z_i2l hx hb (by omega) dX12_boat_1 ?_
  refine lv_ldc2 (v := iL 3) hx hb hown k1 dX12_boat_2 ?_
  refine lv_ldc2 (v := iL 20) hx hb hown k2 dX12_boat_5 ?_
  refine z_pS (As := [zl xl, zl 3, zl 20]) (rest := []) hC (c_X12_in l D y xl 3 20 (by first | assumption | omega)) (va_cwS 3 hts gX12_boat_X12_in rfl rfl rfl (by decide +kernel) ⟨Nat.le_of_ble_eq_true rfl, Nat.le_of_ble_eq_true rfl⟩) hG va_P_nil rfl hl.1 rfl (Nat.le_of_ble_eq_true rfl) dX12_boat_8 ⟨Nat.le_of_ble_eq_true rfl, Nat.le_of_ble_eq_true rfl⟩ ?_
  refine z_ifB_eq (tgt := 50) hx hb dX12_boat_11 (by decide) (fun c_11 => ?_) (fun c_11 => ?_)
  ·
    refine z_bipush hx hb dX12_boat_50 (by decide) ?_
    exact z_iret0 hx hb hr hlocks (rfl) dX12_boat_52
  ·
    refine lv_iload_n hx hb dX12_boat_14 rfl (lv_at hl 2 rfl) ?_
    refine z_i2l hx hb (by omega) dX12_boat_15 ?_
    refine lv_ldc2 (v := iL 3) hx hb hown k1 dX12_boat_16 ?_
    refine lv_ldc2 (v := iL 20) hx hb hown k2 dX12_boat_19 ?_
    refine z_pS (As := [zl xw, zl 3, zl 20]) (rest := []) hC (c_X12_in l D y xw 3 20 (by first | assumption | omega)) (va_cwS 3 hts gX12_boat_X12_in rfl rfl rfl (by decide +kernel) ⟨Nat.le_of_ble_eq_true rfl, Nat.le_of_ble_eq_true rfl⟩) hG va_P_nil rfl hl.1 rfl (Nat.le_of_ble_eq_true rfl) dX12_boat_22 ⟨Nat.le_of_ble_eq_true rfl, Nat.le_of_ble_eq_true rfl⟩ ?_
    refine z_ifB_eq (tgt := 50) hx hb dX12_boat_25 (by decide) (fun c_25 => ?_) (fun c_25 => ?_)
    ·
      refine z_bipush hx hb dX12_boat_50 (by decide) ?_
      exact z_iret0 hx hb hr hlocks (rfl) dX12_boat_52
    ·
      refine lv_iload_n hx hb dX12_boat_28 rfl (lv_at hl 3 rfl) ?_
      refine z_i2l hx hb (by omega) dX12_boat_29 ?_
      refine lv_lconst (v := iL 1) hx hb dX12_boat_30 rfl ?_
      refine lv_ldc2 (v := iL 9) hx hb hown k3 dX12_boat_31 ?_
      refine z_pS (As := [zl xt, zl 1, zl 9]) (rest := []) hC (c_X12_in l D y xt 1 9 (by first | assumption | omega)) (va_cwS 3 hts gX12_boat_X12_in rfl rfl rfl (by decide +kernel) ⟨Nat.le_of_ble_eq_true rfl, Nat.le_of_ble_eq_true rfl⟩) hG va_P_nil rfl hl.1 rfl (Nat.le_of_ble_eq_true rfl) dX12_boat_34 ⟨Nat.le_of_ble_eq_true rfl, Nat.le_of_ble_eq_true rfl⟩ ?_
      refine z_ifB_eq (tgt := 50) hx hb dX12_boat_37 (by decide) (fun c_37 => ?_) (fun c_37 => ?_)
      ·
        refine z_bipush hx hb dX12_boat_50 (by decide) ?_
        exact z_iret0 hx hb hr hlocks (rfl) dX12_boat_52
      ·
        refine lv_iload_n hx hb dX12_boat_40 rfl (lv_at hl 1 rfl) ?_
        refine lv_iload_n hx hb dX12_boat_41 rfl (lv_at hl 2 rfl) ?_
        refine lv_iload hx hb dX12_boat_42 (lv_at hl 4 rfl) ?_
        refine z_pS (As := [zi xl, zi xw, zi xh]) (rest := []) hC (c_X12_folds l D y xl xw xh (by first | assumption | omega)) (va_cwS 3 hts gX12_boat_X12_folds rfl rfl rfl (by decide +kernel) ⟨Nat.le_of_ble_eq_true rfl, Nat.le_of_ble_eq_true rfl⟩) hG va_P_nil rfl hl.1 rfl (Nat.le_of_ble_eq_true rfl) dX12_boat_44 ⟨Nat.le_of_ble_eq_true rfl, Nat.le_of_ble_eq_true rfl⟩ ?_
        refine z_ifB_ne (tgt := 53) hx hb dX12_boat_47 (by decide) (fun c_47 => ?_) (fun c_47 => ?_)
        · exfalso; omega
        ·
          refine z_bipush hx hb dX12_boat_50 (by decide) ?_
          exact z_iret0 hx hb hr hlocks (rfl) dX12_boat_52
set_option maxHeartbeats 8000000 in
set_option maxRecDepth 100000 in
theorem c_X12_boat_full (l : Launch) (D : va_G) (y : Nat → ClassId) (m0 : Nat) (m_read : Nat) (rl : Int) (rp : Int) (m_gut : Nat) (gl : Int) (gp : Int) (gx : Int) (gy : Int) (m_text : Nat) (tn : Int) (fn : Int) (m_boat : Nat) (m_coins : Nat) (vw : Int) (vm : Int) (vn : Int) (m_rest : Nat) (m_ends : Nat) (vc : Int) (m_chan : Nat) (m_spl : Nat) (fs : Int) (rn : Int) (m_rf : Nat) (m_rr : Nat) (m_ik : Nat) (m_km : Nat) (m_kb : Nat) (m_kc : Nat) (m_kf : Nat) (m_kr : Nat) (xl : Int) (xw : Int) (xt : Int) (xh : Int) (hq : (3 ≤ xl ∧ xl ≤ 20) ∧ (3 ≤ xw ∧ xw ≤ 20) ∧ (1 ≤ xt ∧ xt ≤ 9) ∧ 1 ≤ xh ∧ xh ≤ 9 ∧ 1 ≤ xl - 2 * xh ∧ 1 ≤ xw - 2 * xh) (hf : fn = 6) : Met l yX12_boat wsX12_boat ({ frames := 2, cells := 0, slots := 0, locals := 47 } : Room) (pPc D y [(m0, .inr (11, [.ref m_read, zi rl, zi rp, .ref m_gut, zi gl, zi gp, zi gx, zi gy, .ref m_text, zi tn, zi fn, .ref m_boat, .ref m_coins, zi vw, zi vm, zi vn, .ref m_rest, .ref m_ends, zl vc, .ref m_chan, .ref m_spl, zi fs, zi rn, .ref m_rf, .ref m_rr, .ref m_ik, .ref m_km, .ref m_kb, .ref m_kc, .ref m_kf, .ref m_kr]))] [.ref m0, zi xl, zi xw, zi xt, zi xh]) (qV (zi (-4))) 0 0 (fun _ => False) := by
  refine P_of (own := RX12) (cc := cX12_boat) (maxL := 6) (ret := some .int) (by decide) rfl rfl (Nat.le_of_ble_eq_true rfl) (fun p e s m below meth c ls hx hb hr hC hlocks hPr hG hl => ?_)
  have hC0 := hC
  obtain ⟨-, -, hml, hown, hts⟩ := hC0
  have hK := hG.1
  have hinX12 : ∀ w ∈ wsX120, w ∈ wsX12_boat := fun _ h => List.mem_cons_of_mem _ (List.mem_append_right _ h)
  have k1 := hts (.constantLong RX12 119 (3)) (List.mem_of_getElem? (i := 1) rfl)
  have k2 := hts (.constantLong RX12 117 (20)) (List.mem_of_getElem? (i := 2) rfl)
  have k3 := hts (.constantLong RX12 112 (9)) (List.mem_of_getElem? (i := 3) rfl)
  have k4 := hts (.fieldLink RX12 114 "BoatsOfPaperModel" "boats" "I") (List.mem_of_getElem? (i := 4) rfl)
  have hl : lv_has ls 6 [(0, .ref m0), (1, zi xl), (2, zi xw), (3, zi xt), (4, zi xh)] := hl
  refine lv_iload_n hx hb dX12_boat_0 rfl (lv_at hl 1 rfl) ?_
  refine z_i2l hx hb (by omega) dX12_boat_1 ?_
  refine lv_ldc2 (v := iL 3) hx hb hown k1 dX12_boat_2 ?_
  refine lv_ldc2 (v := iL 20) hx hb hown k2 dX12_boat_5 ?_
  refine z_pS (As := [zl xl, zl 3, zl 20]) (rest := []) hC (c_X12_in l D y xl 3 20 (by first | assumption | omega)) (va_cwS 3 hts gX12_boat_X12_in rfl rfl rfl (by decide +kernel) ⟨Nat.le_of_ble_eq_true rfl, Nat.le_of_ble_eq_true rfl⟩) hG va_P_nil rfl hl.1 rfl (Nat.le_of_ble_eq_true rfl) dX12_boat_8 ⟨Nat.le_of_ble_eq_true rfl, Nat.le_of_ble_eq_true rfl⟩ ?_
  refine z_ifB_eq (tgt := 50) hx hb dX12_boat_11 (by decide) (fun c_11 => ?_) (fun c_11 => ?_)
  · exfalso; omega
  ·
    refine lv_iload_n hx hb dX12_boat_14 rfl (lv_at hl 2 rfl) ?_
    refine z_i2l hx hb (by omega) dX12_boat_15 ?_
    refine lv_ldc2 (v := iL 3) hx hb hown k1 dX12_boat_16 ?_
    refine lv_ldc2 (v := iL 20) hx hb hown k2 dX12_boat_19 ?_
    refine z_pS (As := [zl xw, zl 3, zl 20]) (rest := []) hC (c_X12_in l D y xw 3 20 (by first | assumption | omega)) (va_cwS 3 hts gX12_boat_X12_in rfl rfl rfl (by decide +kernel) ⟨Nat.le_of_ble_eq_true rfl, Nat.le_of_ble_eq_true rfl⟩) hG va_P_nil rfl hl.1 rfl (Nat.le_of_ble_eq_true rfl) dX12_boat_22 ⟨Nat.le_of_ble_eq_true rfl, Nat.le_of_ble_eq_true rfl⟩ ?_
    refine z_ifB_eq (tgt := 50) hx hb dX12_boat_25 (by decide) (fun c_25 => ?_) (fun c_25 => ?_)
    · exfalso; omega
    ·
      refine lv_iload_n hx hb dX12_boat_28 rfl (lv_at hl 3 rfl) ?_
      refine z_i2l hx hb (by omega) dX12_boat_29 ?_
      refine lv_lconst (v := iL 1) hx hb dX12_boat_30 rfl ?_
      refine lv_ldc2 (v := iL 9) hx hb hown k3 dX12_boat_31 ?_
      refine z_pS (As := [zl xt, zl 1, zl 9]) (rest := []) hC (c_X12_in l D y xt 1 9 (by first | assumption | omega)) (va_cwS 3 hts gX12_boat_X12_in rfl rfl rfl (by decide +kernel) ⟨Nat.le_of_ble_eq_true rfl, Nat.le_of_ble_eq_true rfl⟩) hG va_P_nil rfl hl.1 rfl (Nat.le_of_ble_eq_true rfl) dX12_boat_34 ⟨Nat.le_of_ble_eq_true rfl, Nat.le_of_ble_eq_true rfl⟩ ?_
      refine z_ifB_eq (tgt := 50) hx hb dX12_boat_37 (by decide) (fun c_37 => ?_) (fun c_37 => ?_)
      · exfalso; omega
      ·
        refine lv_iload_n hx hb dX12_boat_40 rfl (lv_at hl 1 rfl) ?_
        refine lv_iload_n hx hb dX12_boat_41 rfl (lv_at hl 2 rfl) ?_
        refine lv_iload hx hb dX12_boat_42 (lv_at hl 4 rfl) ?_
        refine z_pS (As := [zi xl, zi xw, zi xh]) (rest := []) hC (c_X12_folds l D y xl xw xh (by first | assumption | omega)) (va_cwS 3 hts gX12_boat_X12_folds rfl rfl rfl (by decide +kernel) ⟨Nat.le_of_ble_eq_true rfl, Nat.le_of_ble_eq_true rfl⟩) hG va_P_nil rfl hl.1 rfl (Nat.le_of_ble_eq_true rfl) dX12_boat_44 ⟨Nat.le_of_ble_eq_true rfl, Nat.le_of_ble_eq_true rfl⟩ ?_
        refine z_ifB_ne (tgt := 53) hx hb dX12_boat_47 (by decide) (fun c_47 => ?_) (fun c_47 => ?_)
        ·
          refine lv_aload_n hx hb dX12_boat_53 rfl (lv_at hl 0 rfl) ?_
          refine va_get hx hb hts hinX12 hown hK hPr 0 rfl rfl 10 (by decide) k4 (fun _ h => h) rfl dX12_boat_54 ?_
          refine z_bipush hx hb dX12_boat_57 (by decide) ?_
          refine z_icmp_ne (tgt := 65) hx hb (by omega) (by omega) dX12_boat_59 (by decide) (fun c_59 => ?_) (fun c_59 => ?_)
          · exfalso; omega
          ·
            refine z_bipush hx hb dX12_boat_62 (by decide) ?_
            exact z_iret0 hx hb hr hlocks (rfl) dX12_boat_64
        · exfalso; omega
set_option maxHeartbeats 8000000 in
set_option maxRecDepth 100000 in
theorem c_X12_boat (l : Launch) (D : va_G) (y : Nat → ClassId) (m0 : Nat) (m_read : Nat) (rl : Int) (rp : Int) (m_gut : Nat) (gl : Int) (gp : Int) (gx : Int) (gy : Int) (m_text : Nat) (tn : Int) (fn : Int) (m_boat : Nat) (m_coins : Nat) (vw : Int) (vm : Int) (vn : Int) (m_rest : Nat) (m_ends : Nat) (vc : Int) (m_chan : Nat) (m_spl : Nat) (fs : Int) (rn : Int) (m_rf : Nat) (m_rr : Nat) (m_ik : Nat) (m_km : Nat) (m_kb : Nat) (m_kc : Nat) (m_kf : Nat) (m_kr : Nat) (MB : Int → Int) (xl : Int) (xw : Int) (xt : Int) (xh : Int) (hq : (3 ≤ xl ∧ xl ≤ 20) ∧ (3 ≤ xw ∧ xw ≤ 20) ∧ (1 ≤ xt ∧ xt ≤ 9) ∧ 1 ≤ xh ∧ xh ≤ 9 ∧ 1 ≤ xl - 2 * xh ∧ 1 ≤ xw - 2 * xh) (hf : 0 ≤ fn ∧ fn < 6) (sz : Nat) : Met l yX12_boat wsX12_boat ({ frames := 2, cells := 0, slots := 0, locals := 47 } : Room) (wPc D y [] [(m0, .inr (11, [.ref m_read, zi rl, zi rp, .ref m_gut, zi gl, zi gp, zi gx, zi gy, .ref m_text, zi tn, zi fn, .ref m_boat, .ref m_coins, zi vw, zi vm, zi vn, .ref m_rest, .ref m_ends, zl vc, .ref m_chan, .ref m_spl, zi fs, zi rn, .ref m_rf, .ref m_rr, .ref m_ik, .ref m_km, .ref m_kb, .ref m_kc, .ref m_kf, .ref m_kr])), (m_boat, .inl (y 0, 42, .inl (cI MB)))] sz [.ref m0, zi xl, zi xw, zi xt, zi xh]) (wQ D (fun (MB2 : (Int → Int)) => some (zi fn)) (fun (MB2 : (Int → Int)) => (∀ j : Int, ¬ (7 * fn ≤ j ∧ j < 7 * fn + 7) → MB2 j = MB j) ∧ MB2 (7 * fn) = xl ∧ MB2 (7 * fn + 1) = xw ∧ MB2 (7 * fn + 2) = xt ∧ MB2 (7 * fn + 3) = xh ∧ MB2 (7 * fn + 4) = 10 ∧ MB2 (7 * fn + 5) = 0 ∧ MB2 (7 * fn + 6) = 0) (fun (MB2 : (Int → Int)) => [(m0, .inr (11, [.ref m_read, zi rl, zi rp, .ref m_gut, zi gl, zi gp, zi gx, zi gy, .ref m_text, zi tn, zi (fn + 1), .ref m_boat, .ref m_coins, zi vw, zi vm, zi vn, .ref m_rest, .ref m_ends, zl vc, .ref m_chan, .ref m_spl, zi fs, zi rn, .ref m_rf, .ref m_rr, .ref m_ik, .ref m_km, .ref m_kb, .ref m_kc, .ref m_kf, .ref m_kr])), (m_boat, .inl (y 0, 42, .inl (cI MB2)))]) (va_A [(m0, .inr (11, [.ref m_read, zi rl, zi rp, .ref m_gut, zi gl, zi gp, zi gx, zi gy, .ref m_text, zi tn, zi fn, .ref m_boat, .ref m_coins, zi vw, zi vm, zi vn, .ref m_rest, .ref m_ends, zl vc, .ref m_chan, .ref m_spl, zi fs, zi rn, .ref m_rf, .ref m_rr, .ref m_ik, .ref m_km, .ref m_kb, .ref m_kc, .ref m_kf, .ref m_kr])), (m_boat, .inl (y 0, 42, .inl (cI MB)))] sz)) 0 0 (va_A [(m0, .inr (11, [.ref m_read, zi rl, zi rp, .ref m_gut, zi gl, zi gp, zi gx, zi gy, .ref m_text, zi tn, zi fn, .ref m_boat, .ref m_coins, zi vw, zi vm, zi vn, .ref m_rest, .ref m_ends, zl vc, .ref m_chan, .ref m_spl, zi fs, zi rn, .ref m_rf, .ref m_rr, .ref m_ik, .ref m_km, .ref m_kb, .ref m_kc, .ref m_kf, .ref m_kr])), (m_boat, .inl (y 0, 42, .inl (cI MB)))] sz) := by
  refine W_of (own := RX12) (cc := cX12_boat) (maxL := 6) (ret := some .int) (by decide) rfl rfl (Nat.le_of_ble_eq_true rfl) (fun p e s m below meth c ls A hx hb hr hC hlocks hin0 hR0 hN hP hD hA hG hl => ?_)
  have hC0 := hC
  obtain ⟨-, -, hml, hown, hts⟩ := hC0
  have hK := hG.1
  have hS : va_S A s.heap s.heap [] := va_S.rf
  have hPr := hR0
  have hinX12 : ∀ w ∈ wsX120, w ∈ wsX12_boat := fun _ h => List.mem_cons_of_mem _ (List.mem_append_right _ h)
  have k1 := hts (.constantLong RX12 119 (3)) (List.mem_of_getElem? (i := 1) rfl)
  have k2 := hts (.constantLong RX12 117 (20)) (List.mem_of_getElem? (i := 2) rfl)
  have k3 := hts (.constantLong RX12 112 (9)) (List.mem_of_getElem? (i := 3) rfl)
  have k4 := hts (.fieldLink RX12 114 "BoatsOfPaperModel" "boats" "I") (List.mem_of_getElem? (i := 4) rfl)
  have k5 := hts (.fieldLink RX12 19 "BoatsOfPaperModel" "boat" "[I") (List.mem_of_getElem? (i := 5) rfl)
  have hl : lv_has ls 6 [(0, .ref m0), (1, zi xl), (2, zi xw), (3, zi xt), (4, zi xh)] := hl
  refine lv_iload_n hx hb dX12_boat_0 rfl (lv_at hl 1 rfl) ?_
  refine z_i2l hx hb (by omega) dX12_boat_1 ?_
  refine lv_ldc2 (v := iL 3) hx hb hown k1 dX12_boat_2 ?_
  refine lv_ldc2 (v := iL 20) hx hb hown k2 dX12_boat_5 ?_
  refine z_pS (As := [zl xl, zl 3, zl 20]) (rest := []) hC (c_X12_in l D y xl 3 20 (by first | assumption | omega)) (va_cwS 3 hts gX12_boat_X12_in rfl rfl rfl (by decide +kernel) ⟨Nat.le_of_ble_eq_true rfl, Nat.le_of_ble_eq_true rfl⟩) hG va_P_nil rfl hl.1 rfl (Nat.le_of_ble_eq_true rfl) dX12_boat_8 ⟨Nat.le_of_ble_eq_true rfl, Nat.le_of_ble_eq_true rfl⟩ ?_
  refine z_ifB_eq (tgt := 50) hx hb dX12_boat_11 (by decide) (fun c_11 => ?_) (fun c_11 => ?_)
  · exfalso; omega
  ·
    refine lv_iload_n hx hb dX12_boat_14 rfl (lv_at hl 2 rfl) ?_
    refine z_i2l hx hb (by omega) dX12_boat_15 ?_
    refine lv_ldc2 (v := iL 3) hx hb hown k1 dX12_boat_16 ?_
    refine lv_ldc2 (v := iL 20) hx hb hown k2 dX12_boat_19 ?_
    refine z_pS (As := [zl xw, zl 3, zl 20]) (rest := []) hC (c_X12_in l D y xw 3 20 (by first | assumption | omega)) (va_cwS 3 hts gX12_boat_X12_in rfl rfl rfl (by decide +kernel) ⟨Nat.le_of_ble_eq_true rfl, Nat.le_of_ble_eq_true rfl⟩) hG va_P_nil rfl hl.1 rfl (Nat.le_of_ble_eq_true rfl) dX12_boat_22 ⟨Nat.le_of_ble_eq_true rfl, Nat.le_of_ble_eq_true rfl⟩ ?_
    refine z_ifB_eq (tgt := 50) hx hb dX12_boat_25 (by decide) (fun c_25 => ?_) (fun c_25 => ?_)
    · exfalso; omega
    ·
      refine lv_iload_n hx hb dX12_boat_28 rfl (lv_at hl 3 rfl) ?_
      refine z_i2l hx hb (by omega) dX12_boat_29 ?_
      refine lv_lconst (v := iL 1) hx hb dX12_boat_30 rfl ?_
      refine lv_ldc2 (v := iL 9) hx hb hown k3 dX12_boat_31 ?_
      refine z_pS (As := [zl xt, zl 1, zl 9]) (rest := []) hC (c_X12_in l D y xt 1 9 (by first | assumption | omega)) (va_cwS 3 hts gX12_boat_X12_in rfl rfl rfl (by decide +kernel) ⟨Nat.le_of_ble_eq_true rfl, Nat.le_of_ble_eq_true rfl⟩) hG va_P_nil rfl hl.1 rfl (Nat.le_of_ble_eq_true rfl) dX12_boat_34 ⟨Nat.le_of_ble_eq_true rfl, Nat.le_of_ble_eq_true rfl⟩ ?_
      refine z_ifB_eq (tgt := 50) hx hb dX12_boat_37 (by decide) (fun c_37 => ?_) (fun c_37 => ?_)
      · exfalso; omega
      ·
        refine lv_iload_n hx hb dX12_boat_40 rfl (lv_at hl 1 rfl) ?_
        refine lv_iload_n hx hb dX12_boat_41 rfl (lv_at hl 2 rfl) ?_
        refine lv_iload hx hb dX12_boat_42 (lv_at hl 4 rfl) ?_
        refine z_pS (As := [zi xl, zi xw, zi xh]) (rest := []) hC (c_X12_folds l D y xl xw xh (by first | assumption | omega)) (va_cwS 3 hts gX12_boat_X12_folds rfl rfl rfl (by decide +kernel) ⟨Nat.le_of_ble_eq_true rfl, Nat.le_of_ble_eq_true rfl⟩) hG va_P_nil rfl hl.1 rfl (Nat.le_of_ble_eq_true rfl) dX12_boat_44 ⟨Nat.le_of_ble_eq_true rfl, Nat.le_of_ble_eq_true rfl⟩ ?_
        refine z_ifB_ne (tgt := 53) hx hb dX12_boat_47 (by decide) (fun c_47 => ?_) (fun c_47 => ?_)
        ·
          refine lv_aload_n hx hb dX12_boat_53 rfl (lv_at hl 0 rfl) ?_
          refine va_get hx hb hts hinX12 hown hK hP 0 rfl rfl 10 (by decide) k4 (fun _ h => h) rfl dX12_boat_54 ?_
          refine z_bipush hx hb dX12_boat_57 (by decide) ?_
          refine z_icmp_ne (tgt := 65) hx hb (by omega) (by omega) dX12_boat_59 (by decide) (fun c_59 => ?_) (fun c_59 => ?_)
          ·
            refine z_bipush hx hb dX12_boat_65 (by decide) ?_
            refine lv_aload_n hx hb dX12_boat_67 rfl (lv_at hl 0 rfl) ?_
            refine va_get hx hb hts hinX12 hown hK hP 0 rfl rfl 10 (by decide) k4 (fun _ h => h) rfl dX12_boat_68 ?_
            refine z_imul hx hb dX12_boat_71 ?_
            refine lv_istore (lv' := [(5, zi (7 * fn)), (0, .ref m0), (1, zi xl), (2, zi xw), (3, zi xt), (4, zi xh)]) hx hb dX12_boat_72 hl (by decide) rfl (fun ls hl => ?_)
            refine lv_aload_n hx hb dX12_boat_74 rfl (lv_at hl 1 rfl) ?_
            refine va_get hx hb hts hinX12 hown hK hP 0 rfl rfl 11 (by decide) k5 (fun _ h => h) rfl dX12_boat_75 ?_
            refine lv_iload hx hb dX12_boat_78 (lv_at hl 0 rfl) ?_
            refine lv_iload_n hx hb dX12_boat_80 rfl (lv_at hl 2 rfl) ?_
            refine z_iast hx hb hK hP hD hS 1 0 rfl rfl (by omega) (by decide) dX12_boat_81 (fun H locs hP hD hS => ?_)
            have hP : va_P D vwCl [(m0, .inr (11, [.ref m_read, zi rl, zi rp, .ref m_gut, zi gl, zi gp, zi gx, zi gy, .ref m_text, zi tn, zi fn, .ref m_boat, .ref m_coins, zi vw, zi vm, zi vn, .ref m_rest, .ref m_ends, zl vc, .ref m_chan, .ref m_spl, zi fs, zi rn, .ref m_rf, .ref m_rr, .ref m_ik, .ref m_km, .ref m_kb, .ref m_kc, .ref m_kf, .ref m_kr])), (m_boat, .inl (y 0, 42, .inl (cI (iu MB (7 * fn) xl))))] H := hP
            have hD : va_D A [(m0, .inr (11, [.ref m_read, zi rl, zi rp, .ref m_gut, zi gl, zi gp, zi gx, zi gy, .ref m_text, zi tn, zi fn, .ref m_boat, .ref m_coins, zi vw, zi vm, zi vn, .ref m_rest, .ref m_ends, zl vc, .ref m_chan, .ref m_spl, zi fs, zi rn, .ref m_rf, .ref m_rr, .ref m_ik, .ref m_km, .ref m_kb, .ref m_kc, .ref m_kf, .ref m_kr])), (m_boat, .inl (y 0, 42, .inl (cI (iu MB (7 * fn) xl))))] := hD
            refine lv_aload_n hx hb dX12_boat_82 rfl (lv_at hl 1 rfl) ?_
            refine va_get hx hb hts hinX12 hown hK hP 0 rfl rfl 11 (by decide) k5 (fun _ h => h) rfl dX12_boat_83 ?_
            refine lv_iload hx hb dX12_boat_86 (lv_at hl 0 rfl) ?_
            refine z_iconst hx hb dX12_boat_88 ?_
            refine z_iadd hx hb dX12_boat_89 ?_
            refine lv_iload_n hx hb dX12_boat_90 rfl (lv_at hl 3 rfl) ?_
            refine z_iast hx hb hK hP hD hS 1 0 rfl rfl (by omega) (by decide) dX12_boat_91 (fun H locs hP hD hS => ?_)
            have hP : va_P D vwCl [(m0, .inr (11, [.ref m_read, zi rl, zi rp, .ref m_gut, zi gl, zi gp, zi gx, zi gy, .ref m_text, zi tn, zi fn, .ref m_boat, .ref m_coins, zi vw, zi vm, zi vn, .ref m_rest, .ref m_ends, zl vc, .ref m_chan, .ref m_spl, zi fs, zi rn, .ref m_rf, .ref m_rr, .ref m_ik, .ref m_km, .ref m_kb, .ref m_kc, .ref m_kf, .ref m_kr])), (m_boat, .inl (y 0, 42, .inl (cI (iu (iu MB (7 * fn) xl) ((7 * fn) + 1) xw))))] H := hP
            have hD : va_D A [(m0, .inr (11, [.ref m_read, zi rl, zi rp, .ref m_gut, zi gl, zi gp, zi gx, zi gy, .ref m_text, zi tn, zi fn, .ref m_boat, .ref m_coins, zi vw, zi vm, zi vn, .ref m_rest, .ref m_ends, zl vc, .ref m_chan, .ref m_spl, zi fs, zi rn, .ref m_rf, .ref m_rr, .ref m_ik, .ref m_km, .ref m_kb, .ref m_kc, .ref m_kf, .ref m_kr])), (m_boat, .inl (y 0, 42, .inl (cI (iu (iu MB (7 * fn) xl) ((7 * fn) + 1) xw))))] := hD
            refine lv_aload_n hx hb dX12_boat_92 rfl (lv_at hl 1 rfl) ?_
            refine va_get hx hb hts hinX12 hown hK hP 0 rfl rfl 11 (by decide) k5 (fun _ h => h) rfl dX12_boat_93 ?_
            refine lv_iload hx hb dX12_boat_96 (lv_at hl 0 rfl) ?_
            refine z_iconst hx hb dX12_boat_98 ?_
            refine z_iadd hx hb dX12_boat_99 ?_
            refine lv_iload_n hx hb dX12_boat_100 rfl (lv_at hl 4 rfl) ?_
            refine z_iast hx hb hK hP hD hS 1 0 rfl rfl (by omega) (by decide) dX12_boat_101 (fun H locs hP hD hS => ?_)
            have hP : va_P D vwCl [(m0, .inr (11, [.ref m_read, zi rl, zi rp, .ref m_gut, zi gl, zi gp, zi gx, zi gy, .ref m_text, zi tn, zi fn, .ref m_boat, .ref m_coins, zi vw, zi vm, zi vn, .ref m_rest, .ref m_ends, zl vc, .ref m_chan, .ref m_spl, zi fs, zi rn, .ref m_rf, .ref m_rr, .ref m_ik, .ref m_km, .ref m_kb, .ref m_kc, .ref m_kf, .ref m_kr])), (m_boat, .inl (y 0, 42, .inl (cI (iu (iu (iu MB (7 * fn) xl) ((7 * fn) + 1) xw) ((7 * fn) + 2) xt))))] H := hP
            have hD : va_D A [(m0, .inr (11, [.ref m_read, zi rl, zi rp, .ref m_gut, zi gl, zi gp, zi gx, zi gy, .ref m_text, zi tn, zi fn, .ref m_boat, .ref m_coins, zi vw, zi vm, zi vn, .ref m_rest, .ref m_ends, zl vc, .ref m_chan, .ref m_spl, zi fs, zi rn, .ref m_rf, .ref m_rr, .ref m_ik, .ref m_km, .ref m_kb, .ref m_kc, .ref m_kf, .ref m_kr])), (m_boat, .inl (y 0, 42, .inl (cI (iu (iu (iu MB (7 * fn) xl) ((7 * fn) + 1) xw) ((7 * fn) + 2) xt))))] := hD
            refine lv_aload_n hx hb dX12_boat_102 rfl (lv_at hl 1 rfl) ?_
            refine va_get hx hb hts hinX12 hown hK hP 0 rfl rfl 11 (by decide) k5 (fun _ h => h) rfl dX12_boat_103 ?_
            refine lv_iload hx hb dX12_boat_106 (lv_at hl 0 rfl) ?_
            refine z_iconst hx hb dX12_boat_108 ?_
            refine z_iadd hx hb dX12_boat_109 ?_
            refine lv_iload hx hb dX12_boat_110 (lv_at hl 5 rfl) ?_
            refine z_iast hx hb hK hP hD hS 1 0 rfl rfl (by omega) (by decide) dX12_boat_112 (fun H locs hP hD hS => ?_)
            have hP : va_P D vwCl [(m0, .inr (11, [.ref m_read, zi rl, zi rp, .ref m_gut, zi gl, zi gp, zi gx, zi gy, .ref m_text, zi tn, zi fn, .ref m_boat, .ref m_coins, zi vw, zi vm, zi vn, .ref m_rest, .ref m_ends, zl vc, .ref m_chan, .ref m_spl, zi fs, zi rn, .ref m_rf, .ref m_rr, .ref m_ik, .ref m_km, .ref m_kb, .ref m_kc, .ref m_kf, .ref m_kr])), (m_boat, .inl (y 0, 42, .inl (cI (iu (iu (iu (iu MB (7 * fn) xl) ((7 * fn) + 1) xw) ((7 * fn) + 2) xt) ((7 * fn) + 3) xh))))] H := hP
            have hD : va_D A [(m0, .inr (11, [.ref m_read, zi rl, zi rp, .ref m_gut, zi gl, zi gp, zi gx, zi gy, .ref m_text, zi tn, zi fn, .ref m_boat, .ref m_coins, zi vw, zi vm, zi vn, .ref m_rest, .ref m_ends, zl vc, .ref m_chan, .ref m_spl, zi fs, zi rn, .ref m_rf, .ref m_rr, .ref m_ik, .ref m_km, .ref m_kb, .ref m_kc, .ref m_kf, .ref m_kr])), (m_boat, .inl (y 0, 42, .inl (cI (iu (iu (iu (iu MB (7 * fn) xl) ((7 * fn) + 1) xw) ((7 * fn) + 2) xt) ((7 * fn) + 3) xh))))] := hD
            refine lv_aload_n hx hb dX12_boat_113 rfl (lv_at hl 1 rfl) ?_
            refine va_get hx hb hts hinX12 hown hK hP 0 rfl rfl 11 (by decide) k5 (fun _ h => h) rfl dX12_boat_114 ?_
            refine lv_iload hx hb dX12_boat_117 (lv_at hl 0 rfl) ?_
            refine z_iconst hx hb dX12_boat_119 ?_
            refine z_iadd hx hb dX12_boat_120 ?_
            refine z_bipush hx hb dX12_boat_121 (by decide) ?_
            refine z_iast hx hb hK hP hD hS 1 0 rfl rfl (by omega) (by decide) dX12_boat_123 (fun H locs hP hD hS => ?_)
            have hP : va_P D vwCl [(m0, .inr (11, [.ref m_read, zi rl, zi rp, .ref m_gut, zi gl, zi gp, zi gx, zi gy, .ref m_text, zi tn, zi fn, .ref m_boat, .ref m_coins, zi vw, zi vm, zi vn, .ref m_rest, .ref m_ends, zl vc, .ref m_chan, .ref m_spl, zi fs, zi rn, .ref m_rf, .ref m_rr, .ref m_ik, .ref m_km, .ref m_kb, .ref m_kc, .ref m_kf, .ref m_kr])), (m_boat, .inl (y 0, 42, .inl (cI (iu (iu (iu (iu (iu MB (7 * fn) xl) ((7 * fn) + 1) xw) ((7 * fn) + 2) xt) ((7 * fn) + 3) xh) ((7 * fn) + 4) 10))))] H := hP
            have hD : va_D A [(m0, .inr (11, [.ref m_read, zi rl, zi rp, .ref m_gut, zi gl, zi gp, zi gx, zi gy, .ref m_text, zi tn, zi fn, .ref m_boat, .ref m_coins, zi vw, zi vm, zi vn, .ref m_rest, .ref m_ends, zl vc, .ref m_chan, .ref m_spl, zi fs, zi rn, .ref m_rf, .ref m_rr, .ref m_ik, .ref m_km, .ref m_kb, .ref m_kc, .ref m_kf, .ref m_kr])), (m_boat, .inl (y 0, 42, .inl (cI (iu (iu (iu (iu (iu MB (7 * fn) xl) ((7 * fn) + 1) xw) ((7 * fn) + 2) xt) ((7 * fn) + 3) xh) ((7 * fn) + 4) 10))))] := hD
            refine lv_aload_n hx hb dX12_boat_124 rfl (lv_at hl 1 rfl) ?_
            refine va_get hx hb hts hinX12 hown hK hP 0 rfl rfl 11 (by decide) k5 (fun _ h => h) rfl dX12_boat_125 ?_
            refine lv_iload hx hb dX12_boat_128 (lv_at hl 0 rfl) ?_
            refine z_iconst hx hb dX12_boat_130 ?_
            refine z_iadd hx hb dX12_boat_131 ?_
            refine z_iconst hx hb dX12_boat_132 ?_
            refine z_iast hx hb hK hP hD hS 1 0 rfl rfl (by omega) (by decide) dX12_boat_133 (fun H locs hP hD hS => ?_)
            have hP : va_P D vwCl [(m0, .inr (11, [.ref m_read, zi rl, zi rp, .ref m_gut, zi gl, zi gp, zi gx, zi gy, .ref m_text, zi tn, zi fn, .ref m_boat, .ref m_coins, zi vw, zi vm, zi vn, .ref m_rest, .ref m_ends, zl vc, .ref m_chan, .ref m_spl, zi fs, zi rn, .ref m_rf, .ref m_rr, .ref m_ik, .ref m_km, .ref m_kb, .ref m_kc, .ref m_kf, .ref m_kr])), (m_boat, .inl (y 0, 42, .inl (cI (iu (iu (iu (iu (iu (iu MB (7 * fn) xl) ((7 * fn) + 1) xw) ((7 * fn) + 2) xt) ((7 * fn) + 3) xh) ((7 * fn) + 4) 10) ((7 * fn) + 5) 0))))] H := hP
            have hD : va_D A [(m0, .inr (11, [.ref m_read, zi rl, zi rp, .ref m_gut, zi gl, zi gp, zi gx, zi gy, .ref m_text, zi tn, zi fn, .ref m_boat, .ref m_coins, zi vw, zi vm, zi vn, .ref m_rest, .ref m_ends, zl vc, .ref m_chan, .ref m_spl, zi fs, zi rn, .ref m_rf, .ref m_rr, .ref m_ik, .ref m_km, .ref m_kb, .ref m_kc, .ref m_kf, .ref m_kr])), (m_boat, .inl (y 0, 42, .inl (cI (iu (iu (iu (iu (iu (iu MB (7 * fn) xl) ((7 * fn) + 1) xw) ((7 * fn) + 2) xt) ((7 * fn) + 3) xh) ((7 * fn) + 4) 10) ((7 * fn) + 5) 0))))] := hD
            refine lv_aload_n hx hb dX12_boat_134 rfl (lv_at hl 1 rfl) ?_
            refine va_get hx hb hts hinX12 hown hK hP 0 rfl rfl 11 (by decide) k5 (fun _ h => h) rfl dX12_boat_135 ?_
            refine lv_iload hx hb dX12_boat_138 (lv_at hl 0 rfl) ?_
            refine z_bipush hx hb dX12_boat_140 (by decide) ?_
            refine z_iadd hx hb dX12_boat_142 ?_
            refine z_iconst hx hb dX12_boat_143 ?_
            refine z_iast hx hb hK hP hD hS 1 0 rfl rfl (by omega) (by decide) dX12_boat_144 (fun H locs hP hD hS => ?_)
            have hP : va_P D vwCl [(m0, .inr (11, [.ref m_read, zi rl, zi rp, .ref m_gut, zi gl, zi gp, zi gx, zi gy, .ref m_text, zi tn, zi fn, .ref m_boat, .ref m_coins, zi vw, zi vm, zi vn, .ref m_rest, .ref m_ends, zl vc, .ref m_chan, .ref m_spl, zi fs, zi rn, .ref m_rf, .ref m_rr, .ref m_ik, .ref m_km, .ref m_kb, .ref m_kc, .ref m_kf, .ref m_kr])), (m_boat, .inl (y 0, 42, .inl (cI (iu (iu (iu (iu (iu (iu (iu MB (7 * fn) xl) ((7 * fn) + 1) xw) ((7 * fn) + 2) xt) ((7 * fn) + 3) xh) ((7 * fn) + 4) 10) ((7 * fn) + 5) 0) ((7 * fn) + 6) 0))))] H := hP
            have hD : va_D A [(m0, .inr (11, [.ref m_read, zi rl, zi rp, .ref m_gut, zi gl, zi gp, zi gx, zi gy, .ref m_text, zi tn, zi fn, .ref m_boat, .ref m_coins, zi vw, zi vm, zi vn, .ref m_rest, .ref m_ends, zl vc, .ref m_chan, .ref m_spl, zi fs, zi rn, .ref m_rf, .ref m_rr, .ref m_ik, .ref m_km, .ref m_kb, .ref m_kc, .ref m_kf, .ref m_kr])), (m_boat, .inl (y 0, 42, .inl (cI (iu (iu (iu (iu (iu (iu (iu MB (7 * fn) xl) ((7 * fn) + 1) xw) ((7 * fn) + 2) xt) ((7 * fn) + 3) xh) ((7 * fn) + 4) 10) ((7 * fn) + 5) 0) ((7 * fn) + 6) 0))))] := hD
            refine lv_aload_n hx hb dX12_boat_145 rfl (lv_at hl 1 rfl) ?_
            refine lv_dup hx hb dX12_boat_146 rfl ?_
            refine va_get hx hb hts hinX12 hown hK hP 0 rfl rfl 10 (by decide) k4 (fun _ h => h) rfl dX12_boat_147 ?_
            refine z_iconst hx hb dX12_boat_150 ?_
            refine z_iadd hx hb dX12_boat_151 ?_
            refine va_put hx hb hts hinX12 tyX12 tyX12_ok nmX12 hown hK hP hD hS 0 rfl rfl 10 (by decide) k4 (fun _ h => h) rfl (tyX12_ok 10 (by decide)) rfl rfl (Nat.le_of_ble_eq_true rfl) dX12_boat_152 (fun H locs hP hD hS => ?_)
            have hP : va_P D vwCl [(m0, .inr (11, [.ref m_read, zi rl, zi rp, .ref m_gut, zi gl, zi gp, zi gx, zi gy, .ref m_text, zi tn, zi (fn + 1), .ref m_boat, .ref m_coins, zi vw, zi vm, zi vn, .ref m_rest, .ref m_ends, zl vc, .ref m_chan, .ref m_spl, zi fs, zi rn, .ref m_rf, .ref m_rr, .ref m_ik, .ref m_km, .ref m_kb, .ref m_kc, .ref m_kf, .ref m_kr])), (m_boat, .inl (y 0, 42, .inl (cI (iu (iu (iu (iu (iu (iu (iu MB (7 * fn) xl) ((7 * fn) + 1) xw) ((7 * fn) + 2) xt) ((7 * fn) + 3) xh) ((7 * fn) + 4) 10) ((7 * fn) + 5) 0) ((7 * fn) + 6) 0))))] H := hP
            have hD : va_D A [(m0, .inr (11, [.ref m_read, zi rl, zi rp, .ref m_gut, zi gl, zi gp, zi gx, zi gy, .ref m_text, zi tn, zi (fn + 1), .ref m_boat, .ref m_coins, zi vw, zi vm, zi vn, .ref m_rest, .ref m_ends, zl vc, .ref m_chan, .ref m_spl, zi fs, zi rn, .ref m_rf, .ref m_rr, .ref m_ik, .ref m_km, .ref m_kb, .ref m_kc, .ref m_kf, .ref m_kr])), (m_boat, .inl (y 0, 42, .inl (cI (iu (iu (iu (iu (iu (iu (iu MB (7 * fn) xl) ((7 * fn) + 1) xw) ((7 * fn) + 2) xt) ((7 * fn) + 3) xh) ((7 * fn) + 4) 10) ((7 * fn) + 5) 0) ((7 * fn) + 6) 0))))] := hD
            refine lv_aload_n hx hb dX12_boat_155 rfl (lv_at hl 1 rfl) ?_
            refine va_get hx hb hts hinX12 hown hK hP 0 rfl rfl 10 (by decide) k4 (fun _ h => h) rfl dX12_boat_156 ?_
            refine z_iconst hx hb dX12_boat_159 ?_
            refine z_isub hx hb dX12_boat_160 ?_
            exact z_iretW hx hb hr hlocks (iu (iu (iu (iu (iu (iu (iu MB (7 * fn) xl) ((7 * fn) + 1) xw) ((7 * fn) + 2) xt) ((7 * fn) + 3) xh) ((7 * fn) + 4) 10) ((7 * fn) + 5) 0) ((7 * fn) + 6) 0) (by show some (zi fn) = _; rw [show fn + 1 - 1 = fn by omega]) (⟨fun j hj => by (repeat rw [iu_n (by omega)]); first | done | rfl | exact iu_e (by omega), by (repeat rw [iu_n (by omega)]); first | done | rfl | exact iu_e (by omega), by (repeat rw [iu_n (by omega)]); first | done | rfl | exact iu_e (by omega), by (repeat rw [iu_n (by omega)]); first | done | rfl | exact iu_e (by omega), by (repeat rw [iu_n (by omega)]); first | done | rfl | exact iu_e (by omega), by (repeat rw [iu_n (by omega)]); first | done | rfl | exact iu_e (by omega), by (repeat rw [iu_n (by omega)]); first | done | rfl | exact iu_e (by omega), by (repeat rw [iu_n (by omega)]); first | done | rfl | exact iu_e (by omega)⟩) (hP.sub [0, 1] rfl) (hD.sub [0, 1] (by decide) rfl) hS dX12_boat_161
          · exfalso; omega
        · exfalso; omega
set_option maxHeartbeats 8000000 in
set_option maxRecDepth 100000 in
theorem c_X12_wax_no (l : Launch) (D : va_G) (y : Nat → ClassId) (m0 : Nat) (m_read : Nat) (rl : Int) (rp : Int) (m_gut : Nat) (gl : Int) (gp : Int) (gx : Int) (gy : Int) (m_text : Nat) (tn : Int) (fn : Int) (m_boat : Nat) (m_coins : Nat) (vw : Int) (vm : Int) (vn : Int) (m_rest : Nat) (m_ends : Nat) (vc : Int) (m_chan : Nat) (m_spl : Nat) (fs : Int) (rn : Int) (m_rf : Nat) (m_rr : Nat) (m_ik : Nat) (m_km : Nat) (m_kb : Nat) (m_kc : Nat) (m_kf : Nat) (m_kr : Nat) (bq : Int) (dr : Int) (wx : Int) (hbq : rI bq ∧ 0 ≤ fn ∧ fn ≤ 6 ∧ ¬ (0 ≤ bq ∧ bq < fn)) : Met l yX12_wax wsX12_wax ({ frames := 2, cells := 0, slots := 0, locals := 46 } : Room) (pPc D y [(m0, .inr (11, [.ref m_read, zi rl, zi rp, .ref m_gut, zi gl, zi gp, zi gx, zi gy, .ref m_text, zi tn, zi fn, .ref m_boat, .ref m_coins, zi vw, zi vm, zi vn, .ref m_rest, .ref m_ends, zl vc, .ref m_chan, .ref m_spl, zi fs, zi rn, .ref m_rf, .ref m_rr, .ref m_ik, .ref m_km, .ref m_kb, .ref m_kc, .ref m_kf, .ref m_kr]))] [.ref m0, zi bq, zi dr, zi wx]) (qV (zi (-1))) 0 0 (fun _ => False) := by
  refine P_of (own := RX12) (cc := cX12_wax) (maxL := 5) (ret := some .int) (by decide) rfl rfl (Nat.le_of_ble_eq_true rfl) (fun p e s m below meth c ls hx hb hr hC hlocks hPr hG hl => ?_)
  have hC0 := hC
  obtain ⟨-, -, hml, hown, hts⟩ := hC0
  have hK := hG.1
  have hl : lv_has ls 5 [(0, .ref m0), (1, zi bq), (2, zi dr), (3, zi wx)] := hl
  refine lv_aload_n hx hb dX12_wax_0 rfl (lv_at hl 0 rfl) ?_
  refine lv_iload_n hx hb dX12_wax_1 rfl (lv_at hl 1 rfl) ?_
  refine z_pV (As := [zi bq]) (rest := []) hC (c_X12_isBoat l D y m0 m_read rl rp m_gut gl gp gx gy m_text tn fn m_boat m_coins vw vm vn m_rest m_ends vc m_chan m_spl fs rn m_rf m_rr m_ik m_km m_kb m_kc m_kf m_kr bq (by first | assumption | omega) (by first | assumption | omega)) (cwV 1 hts gX12_wax_X12_isBoat rfl rfl rfl (by decide +kernel) ⟨Nat.le_of_ble_eq_true rfl, Nat.le_of_ble_eq_true rfl⟩) hG (hPr.sub (ws' := [(m0, .inr (11, [.ref m_read, zi rl, zi rp, .ref m_gut, zi gl, zi gp, zi gx, zi gy, .ref m_text, zi tn, zi fn, .ref m_boat, .ref m_coins, zi vw, zi vm, zi vn, .ref m_rest, .ref m_ends, zl vc, .ref m_chan, .ref m_spl, zi fs, zi rn, .ref m_rf, .ref m_rr, .ref m_ik, .ref m_km, .ref m_kb, .ref m_kc, .ref m_kf, .ref m_kr]))]) [0] rfl) 0 rfl rfl rfl hl.1 rfl (Nat.le_of_ble_eq_true rfl) dX12_wax_2 ⟨Nat.le_of_ble_eq_true rfl, Nat.le_of_ble_eq_true rfl⟩ ?_
  refine z_ifB_ne (tgt := 10) hx hb dX12_wax_5 (by decide) (fun c_5 => ?_) (fun c_5 => ?_)
  · exfalso; omega
  ·
    refine z_iconst hx hb dX12_wax_8 ?_
    exact z_iret0 hx hb hr hlocks (rfl) dX12_wax_9
set_option maxHeartbeats 8000000 in
set_option maxRecDepth 100000 in
theorem c_X12_wax_out (l : Launch) (D : va_G) (y : Nat → ClassId) (m0 : Nat) (m_read : Nat) (rl : Int) (rp : Int) (m_gut : Nat) (gl : Int) (gp : Int) (gx : Int) (gy : Int) (m_text : Nat) (tn : Int) (fn : Int) (m_boat : Nat) (m_coins : Nat) (vw : Int) (vm : Int) (vn : Int) (m_rest : Nat) (m_ends : Nat) (vc : Int) (m_chan : Nat) (m_spl : Nat) (fs : Int) (rn : Int) (m_rf : Nat) (m_rr : Nat) (m_ik : Nat) (m_km : Nat) (m_kb : Nat) (m_kc : Nat) (m_kf : Nat) (m_kr : Nat) (MB : Int → Int) (MC : Int → Int) (bq : Int) (dr : Int) (wx : Int) (hM : mbOK fn MB MC) (hbq : 0 ≤ bq ∧ bq < fn) (hr9 : rI dr ∧ rI wx) (hq : ¬ ((0 ≤ dr ∧ dr ≤ 99) ∧ 0 ≤ wx ∧ wx ≤ 9)) : Met l yX12_wax wsX12_wax ({ frames := 2, cells := 0, slots := 0, locals := 46 } : Room) (pPc D y [(m0, .inr (11, [.ref m_read, zi rl, zi rp, .ref m_gut, zi gl, zi gp, zi gx, zi gy, .ref m_text, zi tn, zi fn, .ref m_boat, .ref m_coins, zi vw, zi vm, zi vn, .ref m_rest, .ref m_ends, zl vc, .ref m_chan, .ref m_spl, zi fs, zi rn, .ref m_rf, .ref m_rr, .ref m_ik, .ref m_km, .ref m_kb, .ref m_kc, .ref m_kf, .ref m_kr])), (m_boat, .inl (y 0, 42, .inl (cI MB))), (m_coins, .inl (y 0, 144, .inl (cI MC)))] [.ref m0, zi bq, zi dr, zi wx]) (qV (zi (-2))) 0 0 (fun _ => False) := by
  refine P_of (own := RX12) (cc := cX12_wax) (maxL := 5) (ret := some .int) (by decide) rfl rfl (Nat.le_of_ble_eq_true rfl) (fun p e s m below meth c ls hx hb hr hC hlocks hPr hG hl => ?_)
  have hC0 := hC
  obtain ⟨-, -, hml, hown, hts⟩ := hC0
  have hK := hG.1
  have k1 := hts (.constantLong RX12 128 (99)) (List.mem_of_getElem? (i := 1) rfl)
  have k2 := hts (.constantLong RX12 112 (9)) (List.mem_of_getElem? (i := 2) rfl)
  have hl : lv_has ls 5 [(0, .ref m0), (1, zi bq), (2, zi dr), (3, zi wx)] := hl
  have hB := hM.2 bq hbq.1 hbq.2
  obtain ⟨q1, q2, q3, q4, q5, q6, q7, q8, q9, qc⟩ := id hB
  have qf := hM.1
  refine lv_aload_n hx hb dX12_wax_0 rfl (lv_at hl 0 rfl) ?_
  refine lv_iload_n hx hb dX12_wax_1 rfl (lv_at hl 1 rfl) ?_
  refine z_pV (As := [zi bq]) (rest := []) hC (c_X12_isBoat l D y m0 m_read rl rp m_gut gl gp gx gy m_text tn fn m_boat m_coins vw vm vn m_rest m_ends vc m_chan m_spl fs rn m_rf m_rr m_ik m_km m_kb m_kc m_kf m_kr bq (by first | assumption | omega) (by first | assumption | omega)) (cwV 1 hts gX12_wax_X12_isBoat rfl rfl rfl (by decide +kernel) ⟨Nat.le_of_ble_eq_true rfl, Nat.le_of_ble_eq_true rfl⟩) hG (hPr.sub (ws' := [(m0, .inr (11, [.ref m_read, zi rl, zi rp, .ref m_gut, zi gl, zi gp, zi gx, zi gy, .ref m_text, zi tn, zi fn, .ref m_boat, .ref m_coins, zi vw, zi vm, zi vn, .ref m_rest, .ref m_ends, zl vc, .ref m_chan, .ref m_spl, zi fs, zi rn, .ref m_rf, .ref m_rr, .ref m_ik, .ref m_km, .ref m_kb, .ref m_kc, .ref m_kf, .ref m_kr]))]) [0] rfl) 0 rfl rfl rfl hl.1 rfl (Nat.le_of_ble_eq_true rfl) dX12_wax_2 ⟨Nat.le_of_ble_eq_true rfl, Nat.le_of_ble_eq_true rfl⟩ ?_
  refine z_ifB_ne (tgt := 10) hx hb dX12_wax_5 (by decide) (fun c_5 => ?_) (fun c_5 => ?_)
  ·
    refine lv_iload_n hx hb dX12_wax_10 rfl (lv_at hl 2 rfl) ?_
    refine z_i2l hx hb (by omega) dX12_wax_11 ?_
    refine lv_lconst (v := iL 0) hx hb dX12_wax_12 rfl ?_
    refine lv_ldc2 (v := iL 99) hx hb hown k1 dX12_wax_13 ?_
    refine z_pS (As := [zl dr, zl 0, zl 99]) (rest := []) hC (c_X12_in l D y dr 0 99 (by first | assumption | omega)) (va_cwS 3 hts gX12_wax_X12_in rfl rfl rfl (by decide +kernel) ⟨Nat.le_of_ble_eq_true rfl, Nat.le_of_ble_eq_true rfl⟩) hG va_P_nil rfl hl.1 rfl (Nat.le_of_ble_eq_true rfl) dX12_wax_16 ⟨Nat.le_of_ble_eq_true rfl, Nat.le_of_ble_eq_true rfl⟩ ?_
    refine z_ifB_eq (tgt := 34) hx hb dX12_wax_19 (by decide) (fun c_19 => ?_) (fun c_19 => ?_)
    ·
      refine z_bipush hx hb dX12_wax_34 (by decide) ?_
      exact z_iret0 hx hb hr hlocks (rfl) dX12_wax_36
    ·
      refine lv_iload_n hx hb dX12_wax_22 rfl (lv_at hl 3 rfl) ?_
      refine z_i2l hx hb (by omega) dX12_wax_23 ?_
      refine lv_lconst (v := iL 0) hx hb dX12_wax_24 rfl ?_
      refine lv_ldc2 (v := iL 9) hx hb hown k2 dX12_wax_25 ?_
      refine z_pS (As := [zl wx, zl 0, zl 9]) (rest := []) hC (c_X12_in l D y wx 0 9 (by first | assumption | omega)) (va_cwS 3 hts gX12_wax_X12_in rfl rfl rfl (by decide +kernel) ⟨Nat.le_of_ble_eq_true rfl, Nat.le_of_ble_eq_true rfl⟩) hG va_P_nil rfl hl.1 rfl (Nat.le_of_ble_eq_true rfl) dX12_wax_28 ⟨Nat.le_of_ble_eq_true rfl, Nat.le_of_ble_eq_true rfl⟩ ?_
      refine z_ifB_ne (tgt := 37) hx hb dX12_wax_31 (by decide) (fun c_31 => ?_) (fun c_31 => ?_)
      · exfalso; omega
      ·
        refine z_bipush hx hb dX12_wax_34 (by decide) ?_
        exact z_iret0 hx hb hr hlocks (rfl) dX12_wax_36
  · exfalso; omega
set_option maxHeartbeats 8000000 in
set_option maxRecDepth 100000 in
theorem c_X12_wax (l : Launch) (D : va_G) (y : Nat → ClassId) (m0 : Nat) (m_read : Nat) (rl : Int) (rp : Int) (m_gut : Nat) (gl : Int) (gp : Int) (gx : Int) (gy : Int) (m_text : Nat) (tn : Int) (fn : Int) (m_boat : Nat) (m_coins : Nat) (vw : Int) (vm : Int) (vn : Int) (m_rest : Nat) (m_ends : Nat) (vc : Int) (m_chan : Nat) (m_spl : Nat) (fs : Int) (rn : Int) (m_rf : Nat) (m_rr : Nat) (m_ik : Nat) (m_km : Nat) (m_kb : Nat) (m_kc : Nat) (m_kf : Nat) (m_kr : Nat) (MB : Int → Int) (MC : Int → Int) (bq : Int) (dr : Int) (wx : Int) (hM : mbOK fn MB MC) (hbq : 0 ≤ bq ∧ bq < fn) (hq : (0 ≤ dr ∧ dr ≤ 99) ∧ 0 ≤ wx ∧ wx ≤ 9) (sz : Nat) : Met l yX12_wax wsX12_wax ({ frames := 2, cells := 0, slots := 0, locals := 46 } : Room) (wPc D y [] [(m0, .inr (11, [.ref m_read, zi rl, zi rp, .ref m_gut, zi gl, zi gp, zi gx, zi gy, .ref m_text, zi tn, zi fn, .ref m_boat, .ref m_coins, zi vw, zi vm, zi vn, .ref m_rest, .ref m_ends, zl vc, .ref m_chan, .ref m_spl, zi fs, zi rn, .ref m_rf, .ref m_rr, .ref m_ik, .ref m_km, .ref m_kb, .ref m_kc, .ref m_kf, .ref m_kr])), (m_boat, .inl (y 0, 42, .inl (cI MB))), (m_coins, .inl (y 0, 144, .inl (cI MC)))] sz [.ref m0, zi bq, zi dr, zi wx]) (wQ D (fun (MB2 : (Int → Int)) => some (zi (MB (7 * bq + 5)))) (fun (MB2 : (Int → Int)) => MB2 = iu (iu MB (7 * bq + 4) dr) (7 * bq + 5) wx) (fun (MB2 : (Int → Int)) => [(m0, .inr (11, [.ref m_read, zi rl, zi rp, .ref m_gut, zi gl, zi gp, zi gx, zi gy, .ref m_text, zi tn, zi fn, .ref m_boat, .ref m_coins, zi vw, zi vm, zi vn, .ref m_rest, .ref m_ends, zl vc, .ref m_chan, .ref m_spl, zi fs, zi rn, .ref m_rf, .ref m_rr, .ref m_ik, .ref m_km, .ref m_kb, .ref m_kc, .ref m_kf, .ref m_kr])), (m_boat, .inl (y 0, 42, .inl (cI MB2))), (m_coins, .inl (y 0, 144, .inl (cI MC)))]) (va_A [(m0, .inr (11, [.ref m_read, zi rl, zi rp, .ref m_gut, zi gl, zi gp, zi gx, zi gy, .ref m_text, zi tn, zi fn, .ref m_boat, .ref m_coins, zi vw, zi vm, zi vn, .ref m_rest, .ref m_ends, zl vc, .ref m_chan, .ref m_spl, zi fs, zi rn, .ref m_rf, .ref m_rr, .ref m_ik, .ref m_km, .ref m_kb, .ref m_kc, .ref m_kf, .ref m_kr])), (m_boat, .inl (y 0, 42, .inl (cI MB))), (m_coins, .inl (y 0, 144, .inl (cI MC)))] sz)) 0 0 (va_A [(m0, .inr (11, [.ref m_read, zi rl, zi rp, .ref m_gut, zi gl, zi gp, zi gx, zi gy, .ref m_text, zi tn, zi fn, .ref m_boat, .ref m_coins, zi vw, zi vm, zi vn, .ref m_rest, .ref m_ends, zl vc, .ref m_chan, .ref m_spl, zi fs, zi rn, .ref m_rf, .ref m_rr, .ref m_ik, .ref m_km, .ref m_kb, .ref m_kc, .ref m_kf, .ref m_kr])), (m_boat, .inl (y 0, 42, .inl (cI MB))), (m_coins, .inl (y 0, 144, .inl (cI MC)))] sz) := by
  refine W_of (own := RX12) (cc := cX12_wax) (maxL := 5) (ret := some .int) (by decide) rfl rfl (Nat.le_of_ble_eq_true rfl) (fun p e s m below meth c ls A hx hb hr hC hlocks hin0 hR0 hN hP hD hA hG hl => ?_)
  have hC0 := hC
  obtain ⟨-, -, hml, hown, hts⟩ := hC0
  have hK := hG.1
  have hS : va_S A s.heap s.heap [] := va_S.rf
  have hPr := hR0
  have hinX12 : ∀ w ∈ wsX120, w ∈ wsX12_wax := fun _ h => List.mem_cons_of_mem _ (List.mem_append_right _ h)
  have k1 := hts (.constantLong RX12 128 (99)) (List.mem_of_getElem? (i := 1) rfl)
  have k2 := hts (.constantLong RX12 112 (9)) (List.mem_of_getElem? (i := 2) rfl)
  have k3 := hts (.fieldLink RX12 19 "BoatsOfPaperModel" "boat" "[I") (List.mem_of_getElem? (i := 3) rfl)
  have hl : lv_has ls 5 [(0, .ref m0), (1, zi bq), (2, zi dr), (3, zi wx)] := hl
  have hB := hM.2 bq hbq.1 hbq.2
  obtain ⟨q1, q2, q3, q4, q5, q6, q7, q8, q9, qc⟩ := id hB
  have qf := hM.1
  refine lv_aload_n hx hb dX12_wax_0 rfl (lv_at hl 0 rfl) ?_
  refine lv_iload_n hx hb dX12_wax_1 rfl (lv_at hl 1 rfl) ?_
  refine z_pV (As := [zi bq]) (rest := []) hC (c_X12_isBoat l D y m0 m_read rl rp m_gut gl gp gx gy m_text tn fn m_boat m_coins vw vm vn m_rest m_ends vc m_chan m_spl fs rn m_rf m_rr m_ik m_km m_kb m_kc m_kf m_kr bq (by first | assumption | omega) (by first | assumption | omega)) (cwV 1 hts gX12_wax_X12_isBoat rfl rfl rfl (by decide +kernel) ⟨Nat.le_of_ble_eq_true rfl, Nat.le_of_ble_eq_true rfl⟩) hG (hP.sub (ws' := [(m0, .inr (11, [.ref m_read, zi rl, zi rp, .ref m_gut, zi gl, zi gp, zi gx, zi gy, .ref m_text, zi tn, zi fn, .ref m_boat, .ref m_coins, zi vw, zi vm, zi vn, .ref m_rest, .ref m_ends, zl vc, .ref m_chan, .ref m_spl, zi fs, zi rn, .ref m_rf, .ref m_rr, .ref m_ik, .ref m_km, .ref m_kb, .ref m_kc, .ref m_kf, .ref m_kr]))]) [0] rfl) 0 rfl rfl rfl hl.1 rfl (Nat.le_of_ble_eq_true rfl) dX12_wax_2 ⟨Nat.le_of_ble_eq_true rfl, Nat.le_of_ble_eq_true rfl⟩ ?_
  refine z_ifB_ne (tgt := 10) hx hb dX12_wax_5 (by decide) (fun c_5 => ?_) (fun c_5 => ?_)
  ·
    refine lv_iload_n hx hb dX12_wax_10 rfl (lv_at hl 2 rfl) ?_
    refine z_i2l hx hb (by omega) dX12_wax_11 ?_
    refine lv_lconst (v := iL 0) hx hb dX12_wax_12 rfl ?_
    refine lv_ldc2 (v := iL 99) hx hb hown k1 dX12_wax_13 ?_
    refine z_pS (As := [zl dr, zl 0, zl 99]) (rest := []) hC (c_X12_in l D y dr 0 99 (by first | assumption | omega)) (va_cwS 3 hts gX12_wax_X12_in rfl rfl rfl (by decide +kernel) ⟨Nat.le_of_ble_eq_true rfl, Nat.le_of_ble_eq_true rfl⟩) hG va_P_nil rfl hl.1 rfl (Nat.le_of_ble_eq_true rfl) dX12_wax_16 ⟨Nat.le_of_ble_eq_true rfl, Nat.le_of_ble_eq_true rfl⟩ ?_
    refine z_ifB_eq (tgt := 34) hx hb dX12_wax_19 (by decide) (fun c_19 => ?_) (fun c_19 => ?_)
    · exfalso; omega
    ·
      refine lv_iload_n hx hb dX12_wax_22 rfl (lv_at hl 3 rfl) ?_
      refine z_i2l hx hb (by omega) dX12_wax_23 ?_
      refine lv_lconst (v := iL 0) hx hb dX12_wax_24 rfl ?_
      refine lv_ldc2 (v := iL 9) hx hb hown k2 dX12_wax_25 ?_
      refine z_pS (As := [zl wx, zl 0, zl 9]) (rest := []) hC (c_X12_in l D y wx 0 9 (by first | assumption | omega)) (va_cwS 3 hts gX12_wax_X12_in rfl rfl rfl (by decide +kernel) ⟨Nat.le_of_ble_eq_true rfl, Nat.le_of_ble_eq_true rfl⟩) hG va_P_nil rfl hl.1 rfl (Nat.le_of_ble_eq_true rfl) dX12_wax_28 ⟨Nat.le_of_ble_eq_true rfl, Nat.le_of_ble_eq_true rfl⟩ ?_
      refine z_ifB_ne (tgt := 37) hx hb dX12_wax_31 (by decide) (fun c_31 => ?_) (fun c_31 => ?_)
      ·
        refine lv_aload_n hx hb dX12_wax_37 rfl (lv_at hl 0 rfl) ?_
        refine va_get hx hb hts hinX12 hown hK hP 0 rfl rfl 11 (by decide) k3 (fun _ h => h) rfl dX12_wax_38 ?_
        refine z_bipush hx hb dX12_wax_41 (by decide) ?_
        refine lv_iload_n hx hb dX12_wax_43 rfl (lv_at hl 1 rfl) ?_
        refine z_imul hx hb dX12_wax_44 ?_
        refine z_iconst hx hb dX12_wax_45 ?_
        refine z_iadd hx hb dX12_wax_46 ?_
        refine z_iald hx hb hK hP 1 0 rfl rfl (by omega) (by decide) dX12_wax_47 ?_
        refine lv_istore (lv' := [(4, zi (MB ((7 * bq) + 5))), (0, .ref m0), (1, zi bq), (2, zi dr), (3, zi wx)]) hx hb dX12_wax_48 hl (by decide) rfl (fun ls hl => ?_)
        refine lv_aload_n hx hb dX12_wax_50 rfl (lv_at hl 1 rfl) ?_
        refine va_get hx hb hts hinX12 hown hK hP 0 rfl rfl 11 (by decide) k3 (fun _ h => h) rfl dX12_wax_51 ?_
        refine z_bipush hx hb dX12_wax_54 (by decide) ?_
        refine lv_iload_n hx hb dX12_wax_56 rfl (lv_at hl 2 rfl) ?_
        refine z_imul hx hb dX12_wax_57 ?_
        refine z_iconst hx hb dX12_wax_58 ?_
        refine z_iadd hx hb dX12_wax_59 ?_
        refine lv_iload_n hx hb dX12_wax_60 rfl (lv_at hl 3 rfl) ?_
        refine z_iast hx hb hK hP hD hS 1 0 rfl rfl (by omega) (by decide) dX12_wax_61 (fun H locs hP hD hS => ?_)
        have hP : va_P D vwCl [(m0, .inr (11, [.ref m_read, zi rl, zi rp, .ref m_gut, zi gl, zi gp, zi gx, zi gy, .ref m_text, zi tn, zi fn, .ref m_boat, .ref m_coins, zi vw, zi vm, zi vn, .ref m_rest, .ref m_ends, zl vc, .ref m_chan, .ref m_spl, zi fs, zi rn, .ref m_rf, .ref m_rr, .ref m_ik, .ref m_km, .ref m_kb, .ref m_kc, .ref m_kf, .ref m_kr])), (m_boat, .inl (y 0, 42, .inl (cI (iu MB ((7 * bq) + 4) dr)))), (m_coins, .inl (y 0, 144, .inl (cI MC)))] H := hP
        have hD : va_D A [(m0, .inr (11, [.ref m_read, zi rl, zi rp, .ref m_gut, zi gl, zi gp, zi gx, zi gy, .ref m_text, zi tn, zi fn, .ref m_boat, .ref m_coins, zi vw, zi vm, zi vn, .ref m_rest, .ref m_ends, zl vc, .ref m_chan, .ref m_spl, zi fs, zi rn, .ref m_rf, .ref m_rr, .ref m_ik, .ref m_km, .ref m_kb, .ref m_kc, .ref m_kf, .ref m_kr])), (m_boat, .inl (y 0, 42, .inl (cI (iu MB ((7 * bq) + 4) dr)))), (m_coins, .inl (y 0, 144, .inl (cI MC)))] := hD
        refine lv_aload_n hx hb dX12_wax_62 rfl (lv_at hl 1 rfl) ?_
        refine va_get hx hb hts hinX12 hown hK hP 0 rfl rfl 11 (by decide) k3 (fun _ h => h) rfl dX12_wax_63 ?_
        refine z_bipush hx hb dX12_wax_66 (by decide) ?_
        refine lv_iload_n hx hb dX12_wax_68 rfl (lv_at hl 2 rfl) ?_
        refine z_imul hx hb dX12_wax_69 ?_
        refine z_iconst hx hb dX12_wax_70 ?_
        refine z_iadd hx hb dX12_wax_71 ?_
        refine lv_iload_n hx hb dX12_wax_72 rfl (lv_at hl 4 rfl) ?_
        refine z_iast hx hb hK hP hD hS 1 0 rfl rfl (by omega) (by decide) dX12_wax_73 (fun H locs hP hD hS => ?_)
        have hP : va_P D vwCl [(m0, .inr (11, [.ref m_read, zi rl, zi rp, .ref m_gut, zi gl, zi gp, zi gx, zi gy, .ref m_text, zi tn, zi fn, .ref m_boat, .ref m_coins, zi vw, zi vm, zi vn, .ref m_rest, .ref m_ends, zl vc, .ref m_chan, .ref m_spl, zi fs, zi rn, .ref m_rf, .ref m_rr, .ref m_ik, .ref m_km, .ref m_kb, .ref m_kc, .ref m_kf, .ref m_kr])), (m_boat, .inl (y 0, 42, .inl (cI (iu (iu MB ((7 * bq) + 4) dr) ((7 * bq) + 5) wx)))), (m_coins, .inl (y 0, 144, .inl (cI MC)))] H := hP
        have hD : va_D A [(m0, .inr (11, [.ref m_read, zi rl, zi rp, .ref m_gut, zi gl, zi gp, zi gx, zi gy, .ref m_text, zi tn, zi fn, .ref m_boat, .ref m_coins, zi vw, zi vm, zi vn, .ref m_rest, .ref m_ends, zl vc, .ref m_chan, .ref m_spl, zi fs, zi rn, .ref m_rf, .ref m_rr, .ref m_ik, .ref m_km, .ref m_kb, .ref m_kc, .ref m_kf, .ref m_kr])), (m_boat, .inl (y 0, 42, .inl (cI (iu (iu MB ((7 * bq) + 4) dr) ((7 * bq) + 5) wx)))), (m_coins, .inl (y 0, 144, .inl (cI MC)))] := hD
        refine lv_iload hx hb dX12_wax_74 (lv_at hl 0 rfl) ?_
        exact z_iretW hx hb hr hlocks (iu (iu MB ((7 * bq) + 4) dr) ((7 * bq) + 5) wx) (rfl) (rfl) (hP.sub [0, 1, 2] rfl) (hD.sub [0, 1, 2] (by decide) rfl) hS dX12_wax_76
      · exfalso; omega
  · exfalso; omega
set_option maxHeartbeats 8000000 in
set_option maxRecDepth 100000 in
theorem c_X12_wide_0 (l : Launch) (D : va_G) (y : Nat → ClassId) (m0 : Nat) (m_read : Nat) (rl : Int) (rp : Int) (m_gut : Nat) (gl : Int) (gp : Int) (gx : Int) (gy : Int) (m_text : Nat) (tn : Int) (fn : Int) (m_boat : Nat) (m_coins : Nat) (vw : Int) (vm : Int) (vn : Int) (m_rest : Nat) (m_ends : Nat) (vc : Int) (m_chan : Nat) (m_spl : Nat) (fs : Int) (rn : Int) (m_rf : Nat) (m_rr : Nat) (m_ik : Nat) (m_km : Nat) (m_kb : Nat) (m_kc : Nat) (m_kf : Nat) (m_kr : Nat) (MB : Int → Int) (MC : Int → Int) (bq : Int) (hM : mbOK fn MB MC) (hbq : 0 ≤ bq ∧ bq < fn) : Met l yX12_wide wsX12_wide ({ frames := 0, cells := 0, slots := 0, locals := 0 } : Room) (pPc D y [(m0, .inr (11, [.ref m_read, zi rl, zi rp, .ref m_gut, zi gl, zi gp, zi gx, zi gy, .ref m_text, zi tn, zi fn, .ref m_boat, .ref m_coins, zi vw, zi vm, zi vn, .ref m_rest, .ref m_ends, zl vc, .ref m_chan, .ref m_spl, zi fs, zi rn, .ref m_rf, .ref m_rr, .ref m_ik, .ref m_km, .ref m_kb, .ref m_kc, .ref m_kf, .ref m_kr])), (m_boat, .inl (y 0, 42, .inl (cI MB))), (m_coins, .inl (y 0, 144, .inl (cI MC)))] [.ref m0, zi bq, zi 0]) (qV (zi ((MB (7 * bq)) - 2 * (MB (7 * bq + 3))))) 0 0 (fun _ => False) := by
  refine P_of (own := RX12) (cc := cX12_wide) (maxL := 3) (ret := some .int) (by decide) rfl rfl (Nat.le_of_ble_eq_true rfl) (fun p e s m below meth c ls hx hb hr hC hlocks hPr hG hl => ?_)
  have hC0 := hC
  obtain ⟨-, -, hml, hown, hts⟩ := hC0
  have hK := hG.1
  have hinX12 : ∀ w ∈ wsX120, w ∈ wsX12_wide := fun _ h => List.mem_cons_of_mem _ (List.mem_append_right _ h)
  have k1 := hts (.fieldLink RX12 19 "BoatsOfPaperModel" "boat" "[I") (List.mem_of_getElem? (i := 1) rfl)
  have hl : lv_has ls 3 [(0, .ref m0), (1, zi bq), (2, zi 0)] := hl
  have hB := hM.2 bq hbq.1 hbq.2
  obtain ⟨q1, q2, q3, q4, q5, q6, q7, q8, q9, qc⟩ := id hB
  have qf := hM.1
  refine lv_aload_n hx hb dX12_wide_0 rfl (lv_at hl 0 rfl) ?_
  refine va_get hx hb hts hinX12 hown hK hPr 0 rfl rfl 11 (by decide) k1 (fun _ h => h) rfl dX12_wide_1 ?_
  refine z_bipush hx hb dX12_wide_4 (by decide) ?_
  refine lv_iload_n hx hb dX12_wide_6 rfl (lv_at hl 1 rfl) ?_
  refine z_imul hx hb dX12_wide_7 ?_
  refine lv_iload_n hx hb dX12_wide_8 rfl (lv_at hl 2 rfl) ?_
  refine z_iadd hx hb dX12_wide_9 ?_
  refine z_iald hx hb hK hPr 1 0 rfl rfl (by omega) (by decide) dX12_wide_10 ?_
  refine z_iconst hx hb dX12_wide_11 ?_
  refine lv_aload_n hx hb dX12_wide_12 rfl (lv_at hl 0 rfl) ?_
  refine va_get hx hb hts hinX12 hown hK hPr 0 rfl rfl 11 (by decide) k1 (fun _ h => h) rfl dX12_wide_13 ?_
  refine z_bipush hx hb dX12_wide_16 (by decide) ?_
  refine lv_iload_n hx hb dX12_wide_18 rfl (lv_at hl 1 rfl) ?_
  refine z_imul hx hb dX12_wide_19 ?_
  refine z_iconst hx hb dX12_wide_20 ?_
  refine z_iadd hx hb dX12_wide_21 ?_
  refine z_iald hx hb hK hPr 1 0 rfl rfl (by omega) (by decide) dX12_wide_22 ?_
  refine z_imul hx hb dX12_wide_23 ?_
  refine z_isub hx hb dX12_wide_24 ?_
  exact z_iret0 hx hb hr hlocks (by rw [show 7 * bq + 0 = 7 * bq by omega]) dX12_wide_25
set_option maxHeartbeats 8000000 in
set_option maxRecDepth 100000 in
theorem c_X12_wide_1 (l : Launch) (D : va_G) (y : Nat → ClassId) (m0 : Nat) (m_read : Nat) (rl : Int) (rp : Int) (m_gut : Nat) (gl : Int) (gp : Int) (gx : Int) (gy : Int) (m_text : Nat) (tn : Int) (fn : Int) (m_boat : Nat) (m_coins : Nat) (vw : Int) (vm : Int) (vn : Int) (m_rest : Nat) (m_ends : Nat) (vc : Int) (m_chan : Nat) (m_spl : Nat) (fs : Int) (rn : Int) (m_rf : Nat) (m_rr : Nat) (m_ik : Nat) (m_km : Nat) (m_kb : Nat) (m_kc : Nat) (m_kf : Nat) (m_kr : Nat) (MB : Int → Int) (MC : Int → Int) (bq : Int) (hM : mbOK fn MB MC) (hbq : 0 ≤ bq ∧ bq < fn) : Met l yX12_wide wsX12_wide ({ frames := 0, cells := 0, slots := 0, locals := 0 } : Room) (pPc D y [(m0, .inr (11, [.ref m_read, zi rl, zi rp, .ref m_gut, zi gl, zi gp, zi gx, zi gy, .ref m_text, zi tn, zi fn, .ref m_boat, .ref m_coins, zi vw, zi vm, zi vn, .ref m_rest, .ref m_ends, zl vc, .ref m_chan, .ref m_spl, zi fs, zi rn, .ref m_rf, .ref m_rr, .ref m_ik, .ref m_km, .ref m_kb, .ref m_kc, .ref m_kf, .ref m_kr])), (m_boat, .inl (y 0, 42, .inl (cI MB))), (m_coins, .inl (y 0, 144, .inl (cI MC)))] [.ref m0, zi bq, zi 1]) (qV (zi ((MB (7 * bq + 1)) - 2 * (MB (7 * bq + 3))))) 0 0 (fun _ => False) := by
  refine P_of (own := RX12) (cc := cX12_wide) (maxL := 3) (ret := some .int) (by decide) rfl rfl (Nat.le_of_ble_eq_true rfl) (fun p e s m below meth c ls hx hb hr hC hlocks hPr hG hl => ?_)
  have hC0 := hC
  obtain ⟨-, -, hml, hown, hts⟩ := hC0
  have hK := hG.1
  have hinX12 : ∀ w ∈ wsX120, w ∈ wsX12_wide := fun _ h => List.mem_cons_of_mem _ (List.mem_append_right _ h)
  have k1 := hts (.fieldLink RX12 19 "BoatsOfPaperModel" "boat" "[I") (List.mem_of_getElem? (i := 1) rfl)
  have hl : lv_has ls 3 [(0, .ref m0), (1, zi bq), (2, zi 1)] := hl
  have hB := hM.2 bq hbq.1 hbq.2
  obtain ⟨q1, q2, q3, q4, q5, q6, q7, q8, q9, qc⟩ := id hB
  have qf := hM.1
  refine lv_aload_n hx hb dX12_wide_0 rfl (lv_at hl 0 rfl) ?_
  refine va_get hx hb hts hinX12 hown hK hPr 0 rfl rfl 11 (by decide) k1 (fun _ h => h) rfl dX12_wide_1 ?_
  refine z_bipush hx hb dX12_wide_4 (by decide) ?_
  refine lv_iload_n hx hb dX12_wide_6 rfl (lv_at hl 1 rfl) ?_
  refine z_imul hx hb dX12_wide_7 ?_
  refine lv_iload_n hx hb dX12_wide_8 rfl (lv_at hl 2 rfl) ?_
  refine z_iadd hx hb dX12_wide_9 ?_
  refine z_iald hx hb hK hPr 1 0 rfl rfl (by omega) (by decide) dX12_wide_10 ?_
  refine z_iconst hx hb dX12_wide_11 ?_
  refine lv_aload_n hx hb dX12_wide_12 rfl (lv_at hl 0 rfl) ?_
  refine va_get hx hb hts hinX12 hown hK hPr 0 rfl rfl 11 (by decide) k1 (fun _ h => h) rfl dX12_wide_13 ?_
  refine z_bipush hx hb dX12_wide_16 (by decide) ?_
  refine lv_iload_n hx hb dX12_wide_18 rfl (lv_at hl 1 rfl) ?_
  refine z_imul hx hb dX12_wide_19 ?_
  refine z_iconst hx hb dX12_wide_20 ?_
  refine z_iadd hx hb dX12_wide_21 ?_
  refine z_iald hx hb hK hPr 1 0 rfl rfl (by omega) (by decide) dX12_wide_22 ?_
  refine z_imul hx hb dX12_wide_23 ?_
  refine z_isub hx hb dX12_wide_24 ?_
  exact z_iret0 hx hb hr hlocks (rfl) dX12_wide_25
set_option maxHeartbeats 8000000 in
set_option maxRecDepth 100000 in
theorem c_X12_coin_no (l : Launch) (D : va_G) (y : Nat → ClassId) (m0 : Nat) (m_read : Nat) (rl : Int) (rp : Int) (m_gut : Nat) (gl : Int) (gp : Int) (gx : Int) (gy : Int) (m_text : Nat) (tn : Int) (fn : Int) (m_boat : Nat) (m_coins : Nat) (vw : Int) (vm : Int) (vn : Int) (m_rest : Nat) (m_ends : Nat) (vc : Int) (m_chan : Nat) (m_spl : Nat) (fs : Int) (rn : Int) (m_rf : Nat) (m_rr : Nat) (m_ik : Nat) (m_km : Nat) (m_kb : Nat) (m_kc : Nat) (m_kf : Nat) (m_kr : Nat) (bq : Int) (ci : Int) (cj : Int) (cw : Int) (hbq : rI bq ∧ 0 ≤ fn ∧ fn ≤ 6 ∧ ¬ (0 ≤ bq ∧ bq < fn)) : Met l yX12_coin wsX12_coin ({ frames := 2, cells := 0, slots := 0, locals := 46 } : Room) (pPc D y [(m0, .inr (11, [.ref m_read, zi rl, zi rp, .ref m_gut, zi gl, zi gp, zi gx, zi gy, .ref m_text, zi tn, zi fn, .ref m_boat, .ref m_coins, zi vw, zi vm, zi vn, .ref m_rest, .ref m_ends, zl vc, .ref m_chan, .ref m_spl, zi fs, zi rn, .ref m_rf, .ref m_rr, .ref m_ik, .ref m_km, .ref m_kb, .ref m_kc, .ref m_kf, .ref m_kr]))] [.ref m0, zi bq, zi ci, zi cj, zi cw]) (qV (zi (-1))) 0 0 (fun _ => False) := by
  refine P_of (own := RX12) (cc := cX12_coin) (maxL := 6) (ret := some .int) (by decide) rfl rfl (Nat.le_of_ble_eq_true rfl) (fun p e s m below meth c ls hx hb hr hC hlocks hPr hG hl => ?_)
  have hC0 := hC
  obtain ⟨-, -, hml, hown, hts⟩ := hC0
  have hK := hG.1
  have hl : lv_has ls 6 [(0, .ref m0), (1, zi bq), (2, zi ci), (3, zi cj), (4, zi cw)] := hl
  refine lv_aload_n hx hb dX12_coin_0 rfl (lv_at hl 0 rfl) ?_
  refine lv_iload_n hx hb dX12_coin_1 rfl (lv_at hl 1 rfl) ?_
  refine z_pV (As := [zi bq]) (rest := []) hC (c_X12_isBoat l D y m0 m_read rl rp m_gut gl gp gx gy m_text tn fn m_boat m_coins vw vm vn m_rest m_ends vc m_chan m_spl fs rn m_rf m_rr m_ik m_km m_kb m_kc m_kf m_kr bq (by first | assumption | omega) (by first | assumption | omega)) (cwV 1 hts gX12_coin_X12_isBoat rfl rfl rfl (by decide +kernel) ⟨Nat.le_of_ble_eq_true rfl, Nat.le_of_ble_eq_true rfl⟩) hG (hPr.sub (ws' := [(m0, .inr (11, [.ref m_read, zi rl, zi rp, .ref m_gut, zi gl, zi gp, zi gx, zi gy, .ref m_text, zi tn, zi fn, .ref m_boat, .ref m_coins, zi vw, zi vm, zi vn, .ref m_rest, .ref m_ends, zl vc, .ref m_chan, .ref m_spl, zi fs, zi rn, .ref m_rf, .ref m_rr, .ref m_ik, .ref m_km, .ref m_kb, .ref m_kc, .ref m_kf, .ref m_kr]))]) [0] rfl) 0 rfl rfl rfl hl.1 rfl (Nat.le_of_ble_eq_true rfl) dX12_coin_2 ⟨Nat.le_of_ble_eq_true rfl, Nat.le_of_ble_eq_true rfl⟩ ?_
  refine z_ifB_ne (tgt := 10) hx hb dX12_coin_5 (by decide) (fun c_5 => ?_) (fun c_5 => ?_)
  · exfalso; omega
  ·
    refine z_iconst hx hb dX12_coin_8 ?_
    exact z_iret0 hx hb hr hlocks (rfl) dX12_coin_9
set_option maxHeartbeats 8000000 in
set_option maxRecDepth 100000 in
theorem c_X12_coin_out (l : Launch) (D : va_G) (y : Nat → ClassId) (m0 : Nat) (m_read : Nat) (rl : Int) (rp : Int) (m_gut : Nat) (gl : Int) (gp : Int) (gx : Int) (gy : Int) (m_text : Nat) (tn : Int) (fn : Int) (m_boat : Nat) (m_coins : Nat) (vw : Int) (vm : Int) (vn : Int) (m_rest : Nat) (m_ends : Nat) (vc : Int) (m_chan : Nat) (m_spl : Nat) (fs : Int) (rn : Int) (m_rf : Nat) (m_rr : Nat) (m_ik : Nat) (m_km : Nat) (m_kb : Nat) (m_kc : Nat) (m_kf : Nat) (m_kr : Nat) (MB : Int → Int) (MC : Int → Int) (bq : Int) (ci : Int) (cj : Int) (cw : Int) (hM : mbOK fn MB MC) (hbq : 0 ≤ bq ∧ bq < fn) (hr9 : rI ci ∧ rI cj ∧ rI cw) (hq : ¬ ((0 ≤ ci ∧ ci < ((MB (7 * bq)) - 2 * (MB (7 * bq + 3)))) ∧ (0 ≤ cj ∧ cj < ((MB (7 * bq + 1)) - 2 * (MB (7 * bq + 3)))) ∧ 1 ≤ cw ∧ cw ≤ 99)) : Met l yX12_coin wsX12_coin ({ frames := 2, cells := 0, slots := 0, locals := 46 } : Room) (pPc D y [(m0, .inr (11, [.ref m_read, zi rl, zi rp, .ref m_gut, zi gl, zi gp, zi gx, zi gy, .ref m_text, zi tn, zi fn, .ref m_boat, .ref m_coins, zi vw, zi vm, zi vn, .ref m_rest, .ref m_ends, zl vc, .ref m_chan, .ref m_spl, zi fs, zi rn, .ref m_rf, .ref m_rr, .ref m_ik, .ref m_km, .ref m_kb, .ref m_kc, .ref m_kf, .ref m_kr])), (m_boat, .inl (y 0, 42, .inl (cI MB))), (m_coins, .inl (y 0, 144, .inl (cI MC)))] [.ref m0, zi bq, zi ci, zi cj, zi cw]) (qV (zi (-2))) 0 0 (fun _ => False) := by
  refine P_of (own := RX12) (cc := cX12_coin) (maxL := 6) (ret := some .int) (by decide) rfl rfl (Nat.le_of_ble_eq_true rfl) (fun p e s m below meth c ls hx hb hr hC hlocks hPr hG hl => ?_)
  have hC0 := hC
  obtain ⟨-, -, hml, hown, hts⟩ := hC0
  have hK := hG.1
  have k1 := hts (.constantLong RX12 128 (99)) (List.mem_of_getElem? (i := 1) rfl)
  have hl : lv_has ls 6 [(0, .ref m0), (1, zi bq), (2, zi ci), (3, zi cj), (4, zi cw)] := hl
  have hB := hM.2 bq hbq.1 hbq.2
  obtain ⟨q1, q2, q3, q4, q5, q6, q7, q8, q9, qc⟩ := id hB
  have qf := hM.1
  refine lv_aload_n hx hb dX12_coin_0 rfl (lv_at hl 0 rfl) ?_
  refine lv_iload_n hx hb dX12_coin_1 rfl (lv_at hl 1 rfl) ?_
  refine z_pV (As := [zi bq]) (rest := []) hC (c_X12_isBoat l D y m0 m_read rl rp m_gut gl gp gx gy m_text tn fn m_boat m_coins vw vm vn m_rest m_ends vc m_chan m_spl fs rn m_rf m_rr m_ik m_km m_kb m_kc m_kf m_kr bq (by first | assumption | omega) (by first | assumption | omega)) (cwV 1 hts gX12_coin_X12_isBoat rfl rfl rfl (by decide +kernel) ⟨Nat.le_of_ble_eq_true rfl, Nat.le_of_ble_eq_true rfl⟩) hG (hPr.sub (ws' := [(m0, .inr (11, [.ref m_read, zi rl, zi rp, .ref m_gut, zi gl, zi gp, zi gx, zi gy, .ref m_text, zi tn, zi fn, .ref m_boat, .ref m_coins, zi vw, zi vm, zi vn, .ref m_rest, .ref m_ends, zl vc, .ref m_chan, .ref m_spl, zi fs, zi rn, .ref m_rf, .ref m_rr, .ref m_ik, .ref m_km, .ref m_kb, .ref m_kc, .ref m_kf, .ref m_kr]))]) [0] rfl) 0 rfl rfl rfl hl.1 rfl (Nat.le_of_ble_eq_true rfl) dX12_coin_2 ⟨Nat.le_of_ble_eq_true rfl, Nat.le_of_ble_eq_true rfl⟩ ?_
  refine z_ifB_ne (tgt := 10) hx hb dX12_coin_5 (by decide) (fun c_5 => ?_) (fun c_5 => ?_)
  ·
    refine lv_iload_n hx hb dX12_coin_10 rfl (lv_at hl 2 rfl) ?_
    refine z_i2l hx hb (by omega) dX12_coin_11 ?_
    refine lv_lconst (v := iL 0) hx hb dX12_coin_12 rfl ?_
    refine lv_aload_n hx hb dX12_coin_13 rfl (lv_at hl 0 rfl) ?_
    refine lv_iload_n hx hb dX12_coin_14 rfl (lv_at hl 1 rfl) ?_
    refine z_iconst hx hb dX12_coin_15 ?_
    refine z_pV (As := [zi bq, zi 0]) (rest := [zl 0, zl ci]) hC (c_X12_wide_0 l D y m0 m_read rl rp m_gut gl gp gx gy m_text tn fn m_boat m_coins vw vm vn m_rest m_ends vc m_chan m_spl fs rn m_rf m_rr m_ik m_km m_kb m_kc m_kf m_kr MB MC bq (by first | assumption | omega) (by first | assumption | omega)) (cwV 2 hts gX12_coin_X12_wide rfl rfl rfl (by decide +kernel) ⟨Nat.le_of_ble_eq_true rfl, Nat.le_of_ble_eq_true rfl⟩) hG (hPr.sub (ws' := [(m0, .inr (11, [.ref m_read, zi rl, zi rp, .ref m_gut, zi gl, zi gp, zi gx, zi gy, .ref m_text, zi tn, zi fn, .ref m_boat, .ref m_coins, zi vw, zi vm, zi vn, .ref m_rest, .ref m_ends, zl vc, .ref m_chan, .ref m_spl, zi fs, zi rn, .ref m_rf, .ref m_rr, .ref m_ik, .ref m_km, .ref m_kb, .ref m_kc, .ref m_kf, .ref m_kr])), (m_boat, .inl (y 0, 42, .inl (cI MB))), (m_coins, .inl (y 0, 144, .inl (cI MC)))]) [0, 1, 2] rfl) 0 rfl rfl rfl hl.1 rfl (Nat.le_of_ble_eq_true rfl) dX12_coin_16 ⟨Nat.le_of_ble_eq_true rfl, Nat.le_of_ble_eq_true rfl⟩ ?_
    refine z_iconst hx hb dX12_coin_19 ?_
    refine z_isub hx hb dX12_coin_20 ?_
    refine z_i2l hx hb (by omega) dX12_coin_21 ?_
    refine z_pS (As := [zl ci, zl 0, zl (((MB (7 * bq)) - 2 * (MB (7 * bq + 3))) - 1)]) (rest := []) hC (c_X12_in l D y ci 0 (((MB (7 * bq)) - 2 * (MB (7 * bq + 3))) - 1) (by first | assumption | omega)) (va_cwS 3 hts gX12_coin_X12_in rfl rfl rfl (by decide +kernel) ⟨Nat.le_of_ble_eq_true rfl, Nat.le_of_ble_eq_true rfl⟩) hG va_P_nil rfl hl.1 rfl (Nat.le_of_ble_eq_true rfl) dX12_coin_22 ⟨Nat.le_of_ble_eq_true rfl, Nat.le_of_ble_eq_true rfl⟩ ?_
    refine z_ifB_eq (tgt := 59) hx hb dX12_coin_25 (by decide) (fun c_25 => ?_) (fun c_25 => ?_)
    ·
      refine z_bipush hx hb dX12_coin_59 (by decide) ?_
      exact z_iret0 hx hb hr hlocks (rfl) dX12_coin_61
    ·
      refine lv_iload_n hx hb dX12_coin_28 rfl (lv_at hl 3 rfl) ?_
      refine z_i2l hx hb (by omega) dX12_coin_29 ?_
      refine lv_lconst (v := iL 0) hx hb dX12_coin_30 rfl ?_
      refine lv_aload_n hx hb dX12_coin_31 rfl (lv_at hl 0 rfl) ?_
      refine lv_iload_n hx hb dX12_coin_32 rfl (lv_at hl 1 rfl) ?_
      refine z_iconst hx hb dX12_coin_33 ?_
      refine z_pV (As := [zi bq, zi 1]) (rest := [zl 0, zl cj]) hC (c_X12_wide_1 l D y m0 m_read rl rp m_gut gl gp gx gy m_text tn fn m_boat m_coins vw vm vn m_rest m_ends vc m_chan m_spl fs rn m_rf m_rr m_ik m_km m_kb m_kc m_kf m_kr MB MC bq (by first | assumption | omega) (by first | assumption | omega)) (cwV 2 hts gX12_coin_X12_wide rfl rfl rfl (by decide +kernel) ⟨Nat.le_of_ble_eq_true rfl, Nat.le_of_ble_eq_true rfl⟩) hG (hPr.sub (ws' := [(m0, .inr (11, [.ref m_read, zi rl, zi rp, .ref m_gut, zi gl, zi gp, zi gx, zi gy, .ref m_text, zi tn, zi fn, .ref m_boat, .ref m_coins, zi vw, zi vm, zi vn, .ref m_rest, .ref m_ends, zl vc, .ref m_chan, .ref m_spl, zi fs, zi rn, .ref m_rf, .ref m_rr, .ref m_ik, .ref m_km, .ref m_kb, .ref m_kc, .ref m_kf, .ref m_kr])), (m_boat, .inl (y 0, 42, .inl (cI MB))), (m_coins, .inl (y 0, 144, .inl (cI MC)))]) [0, 1, 2] rfl) 0 rfl rfl rfl hl.1 rfl (Nat.le_of_ble_eq_true rfl) dX12_coin_34 ⟨Nat.le_of_ble_eq_true rfl, Nat.le_of_ble_eq_true rfl⟩ ?_
      refine z_iconst hx hb dX12_coin_37 ?_
      refine z_isub hx hb dX12_coin_38 ?_
      refine z_i2l hx hb (by omega) dX12_coin_39 ?_
      refine z_pS (As := [zl cj, zl 0, zl (((MB (7 * bq + 1)) - 2 * (MB (7 * bq + 3))) - 1)]) (rest := []) hC (c_X12_in l D y cj 0 (((MB (7 * bq + 1)) - 2 * (MB (7 * bq + 3))) - 1) (by first | assumption | omega)) (va_cwS 3 hts gX12_coin_X12_in rfl rfl rfl (by decide +kernel) ⟨Nat.le_of_ble_eq_true rfl, Nat.le_of_ble_eq_true rfl⟩) hG va_P_nil rfl hl.1 rfl (Nat.le_of_ble_eq_true rfl) dX12_coin_40 ⟨Nat.le_of_ble_eq_true rfl, Nat.le_of_ble_eq_true rfl⟩ ?_
      refine z_ifB_eq (tgt := 59) hx hb dX12_coin_43 (by decide) (fun c_43 => ?_) (fun c_43 => ?_)
      ·
        refine z_bipush hx hb dX12_coin_59 (by decide) ?_
        exact z_iret0 hx hb hr hlocks (rfl) dX12_coin_61
      ·
        refine lv_iload hx hb dX12_coin_46 (lv_at hl 4 rfl) ?_
        refine z_i2l hx hb (by omega) dX12_coin_48 ?_
        refine lv_lconst (v := iL 1) hx hb dX12_coin_49 rfl ?_
        refine lv_ldc2 (v := iL 99) hx hb hown k1 dX12_coin_50 ?_
        refine z_pS (As := [zl cw, zl 1, zl 99]) (rest := []) hC (c_X12_in l D y cw 1 99 (by first | assumption | omega)) (va_cwS 3 hts gX12_coin_X12_in rfl rfl rfl (by decide +kernel) ⟨Nat.le_of_ble_eq_true rfl, Nat.le_of_ble_eq_true rfl⟩) hG va_P_nil rfl hl.1 rfl (Nat.le_of_ble_eq_true rfl) dX12_coin_53 ⟨Nat.le_of_ble_eq_true rfl, Nat.le_of_ble_eq_true rfl⟩ ?_
        refine z_ifB_ne (tgt := 62) hx hb dX12_coin_56 (by decide) (fun c_56 => ?_) (fun c_56 => ?_)
        · exfalso; omega
        ·
          refine z_bipush hx hb dX12_coin_59 (by decide) ?_
          exact z_iret0 hx hb hr hlocks (rfl) dX12_coin_61
  · exfalso; omega
set_option maxHeartbeats 8000000 in
set_option maxRecDepth 100000 in
theorem c_X12_coin_full (l : Launch) (D : va_G) (y : Nat → ClassId) (m0 : Nat) (m_read : Nat) (rl : Int) (rp : Int) (m_gut : Nat) (gl : Int) (gp : Int) (gx : Int) (gy : Int) (m_text : Nat) (tn : Int) (fn : Int) (m_boat : Nat) (m_coins : Nat) (vw : Int) (vm : Int) (vn : Int) (m_rest : Nat) (m_ends : Nat) (vc : Int) (m_chan : Nat) (m_spl : Nat) (fs : Int) (rn : Int) (m_rf : Nat) (m_rr : Nat) (m_ik : Nat) (m_km : Nat) (m_kb : Nat) (m_kc : Nat) (m_kf : Nat) (m_kr : Nat) (MB : Int → Int) (MC : Int → Int) (bq : Int) (ci : Int) (cj : Int) (cw : Int) (hM : mbOK fn MB MC) (hbq : 0 ≤ bq ∧ bq < fn) (hq : (0 ≤ ci ∧ ci < ((MB (7 * bq)) - 2 * (MB (7 * bq + 3)))) ∧ (0 ≤ cj ∧ cj < ((MB (7 * bq + 1)) - 2 * (MB (7 * bq + 3)))) ∧ 1 ≤ cw ∧ cw ≤ 99) (hf : MB (7 * bq + 6) = 8) : Met l yX12_coin wsX12_coin ({ frames := 2, cells := 0, slots := 0, locals := 46 } : Room) (pPc D y [(m0, .inr (11, [.ref m_read, zi rl, zi rp, .ref m_gut, zi gl, zi gp, zi gx, zi gy, .ref m_text, zi tn, zi fn, .ref m_boat, .ref m_coins, zi vw, zi vm, zi vn, .ref m_rest, .ref m_ends, zl vc, .ref m_chan, .ref m_spl, zi fs, zi rn, .ref m_rf, .ref m_rr, .ref m_ik, .ref m_km, .ref m_kb, .ref m_kc, .ref m_kf, .ref m_kr])), (m_boat, .inl (y 0, 42, .inl (cI MB))), (m_coins, .inl (y 0, 144, .inl (cI MC)))] [.ref m0, zi bq, zi ci, zi cj, zi cw]) (qV (zi (-4))) 0 0 (fun _ => False) := by
  refine P_of (own := RX12) (cc := cX12_coin) (maxL := 6) (ret := some .int) (by decide) rfl rfl (Nat.le_of_ble_eq_true rfl) (fun p e s m below meth c ls hx hb hr hC hlocks hPr hG hl => ?_)
  have hC0 := hC
  obtain ⟨-, -, hml, hown, hts⟩ := hC0
  have hK := hG.1
  have hinX12 : ∀ w ∈ wsX120, w ∈ wsX12_coin := fun _ h => List.mem_cons_of_mem _ (List.mem_append_right _ h)
  have k1 := hts (.constantLong RX12 128 (99)) (List.mem_of_getElem? (i := 1) rfl)
  have k2 := hts (.fieldLink RX12 19 "BoatsOfPaperModel" "boat" "[I") (List.mem_of_getElem? (i := 2) rfl)
  have hl : lv_has ls 6 [(0, .ref m0), (1, zi bq), (2, zi ci), (3, zi cj), (4, zi cw)] := hl
  have hB := hM.2 bq hbq.1 hbq.2
  obtain ⟨q1, q2, q3, q4, q5, q6, q7, q8, q9, qc⟩ := id hB
  have qf := hM.1
  refine lv_aload_n hx hb dX12_coin_0 rfl (lv_at hl 0 rfl) ?_
  refine lv_iload_n hx hb dX12_coin_1 rfl (lv_at hl 1 rfl) ?_
  refine z_pV (As := [zi bq]) (rest := []) hC (c_X12_isBoat l D y m0 m_read rl rp m_gut gl gp gx gy m_text tn fn m_boat m_coins vw vm vn m_rest m_ends vc m_chan m_spl fs rn m_rf m_rr m_ik m_km m_kb m_kc m_kf m_kr bq (by first | assumption | omega) (by first | assumption | omega)) (cwV 1 hts gX12_coin_X12_isBoat rfl rfl rfl (by decide +kernel) ⟨Nat.le_of_ble_eq_true rfl, Nat.le_of_ble_eq_true rfl⟩) hG (hPr.sub (ws' := [(m0, .inr (11, [.ref m_read, zi rl, zi rp, .ref m_gut, zi gl, zi gp, zi gx, zi gy, .ref m_text, zi tn, zi fn, .ref m_boat, .ref m_coins, zi vw, zi vm, zi vn, .ref m_rest, .ref m_ends, zl vc, .ref m_chan, .ref m_spl, zi fs, zi rn, .ref m_rf, .ref m_rr, .ref m_ik, .ref m_km, .ref m_kb, .ref m_kc, .ref m_kf, .ref m_kr]))]) [0] rfl) 0 rfl rfl rfl hl.1 rfl (Nat.le_of_ble_eq_true rfl) dX12_coin_2 ⟨Nat.le_of_ble_eq_true rfl, Nat.le_of_ble_eq_true rfl⟩ ?_
  refine z_ifB_ne (tgt := 10) hx hb dX12_coin_5 (by decide) (fun c_5 => ?_) (fun c_5 => ?_)
  ·
    refine lv_iload_n hx hb dX12_coin_10 rfl (lv_at hl 2 rfl) ?_
    refine z_i2l hx hb (by omega) dX12_coin_11 ?_
    refine lv_lconst (v := iL 0) hx hb dX12_coin_12 rfl ?_
    refine lv_aload_n hx hb dX12_coin_13 rfl (lv_at hl 0 rfl) ?_
    refine lv_iload_n hx hb dX12_coin_14 rfl (lv_at hl 1 rfl) ?_
    refine z_iconst hx hb dX12_coin_15 ?_
    refine z_pV (As := [zi bq, zi 0]) (rest := [zl 0, zl ci]) hC (c_X12_wide_0 l D y m0 m_read rl rp m_gut gl gp gx gy m_text tn fn m_boat m_coins vw vm vn m_rest m_ends vc m_chan m_spl fs rn m_rf m_rr m_ik m_km m_kb m_kc m_kf m_kr MB MC bq (by first | assumption | omega) (by first | assumption | omega)) (cwV 2 hts gX12_coin_X12_wide rfl rfl rfl (by decide +kernel) ⟨Nat.le_of_ble_eq_true rfl, Nat.le_of_ble_eq_true rfl⟩) hG (hPr.sub (ws' := [(m0, .inr (11, [.ref m_read, zi rl, zi rp, .ref m_gut, zi gl, zi gp, zi gx, zi gy, .ref m_text, zi tn, zi fn, .ref m_boat, .ref m_coins, zi vw, zi vm, zi vn, .ref m_rest, .ref m_ends, zl vc, .ref m_chan, .ref m_spl, zi fs, zi rn, .ref m_rf, .ref m_rr, .ref m_ik, .ref m_km, .ref m_kb, .ref m_kc, .ref m_kf, .ref m_kr])), (m_boat, .inl (y 0, 42, .inl (cI MB))), (m_coins, .inl (y 0, 144, .inl (cI MC)))]) [0, 1, 2] rfl) 0 rfl rfl rfl hl.1 rfl (Nat.le_of_ble_eq_true rfl) dX12_coin_16 ⟨Nat.le_of_ble_eq_true rfl, Nat.le_of_ble_eq_true rfl⟩ ?_
    refine z_iconst hx hb dX12_coin_19 ?_
    refine z_isub hx hb dX12_coin_20 ?_
    refine z_i2l hx hb (by omega) dX12_coin_21 ?_
    refine z_pS (As := [zl ci, zl 0, zl (((MB (7 * bq)) - 2 * (MB (7 * bq + 3))) - 1)]) (rest := []) hC (c_X12_in l D y ci 0 (((MB (7 * bq)) - 2 * (MB (7 * bq + 3))) - 1) (by first | assumption | omega)) (va_cwS 3 hts gX12_coin_X12_in rfl rfl rfl (by decide +kernel) ⟨Nat.le_of_ble_eq_true rfl, Nat.le_of_ble_eq_true rfl⟩) hG va_P_nil rfl hl.1 rfl (Nat.le_of_ble_eq_true rfl) dX12_coin_22 ⟨Nat.le_of_ble_eq_true rfl, Nat.le_of_ble_eq_true rfl⟩ ?_
    refine z_ifB_eq (tgt := 59) hx hb dX12_coin_25 (by decide) (fun c_25 => ?_) (fun c_25 => ?_)
    · exfalso; omega
    ·
      refine lv_iload_n hx hb dX12_coin_28 rfl (lv_at hl 3 rfl) ?_
      refine z_i2l hx hb (by omega) dX12_coin_29 ?_
      refine lv_lconst (v := iL 0) hx hb dX12_coin_30 rfl ?_
      refine lv_aload_n hx hb dX12_coin_31 rfl (lv_at hl 0 rfl) ?_
      refine lv_iload_n hx hb dX12_coin_32 rfl (lv_at hl 1 rfl) ?_
      refine z_iconst hx hb dX12_coin_33 ?_
      refine z_pV (As := [zi bq, zi 1]) (rest := [zl 0, zl cj]) hC (c_X12_wide_1 l D y m0 m_read rl rp m_gut gl gp gx gy m_text tn fn m_boat m_coins vw vm vn m_rest m_ends vc m_chan m_spl fs rn m_rf m_rr m_ik m_km m_kb m_kc m_kf m_kr MB MC bq (by first | assumption | omega) (by first | assumption | omega)) (cwV 2 hts gX12_coin_X12_wide rfl rfl rfl (by decide +kernel) ⟨Nat.le_of_ble_eq_true rfl, Nat.le_of_ble_eq_true rfl⟩) hG (hPr.sub (ws' := [(m0, .inr (11, [.ref m_read, zi rl, zi rp, .ref m_gut, zi gl, zi gp, zi gx, zi gy, .ref m_text, zi tn, zi fn, .ref m_boat, .ref m_coins, zi vw, zi vm, zi vn, .ref m_rest, .ref m_ends, zl vc, .ref m_chan, .ref m_spl, zi fs, zi rn, .ref m_rf, .ref m_rr, .ref m_ik, .ref m_km, .ref m_kb, .ref m_kc, .ref m_kf, .ref m_kr])), (m_boat, .inl (y 0, 42, .inl (cI MB))), (m_coins, .inl (y 0, 144, .inl (cI MC)))]) [0, 1, 2] rfl) 0 rfl rfl rfl hl.1 rfl (Nat.le_of_ble_eq_true rfl) dX12_coin_34 ⟨Nat.le_of_ble_eq_true rfl, Nat.le_of_ble_eq_true rfl⟩ ?_
      refine z_iconst hx hb dX12_coin_37 ?_
      refine z_isub hx hb dX12_coin_38 ?_
      refine z_i2l hx hb (by omega) dX12_coin_39 ?_
      refine z_pS (As := [zl cj, zl 0, zl (((MB (7 * bq + 1)) - 2 * (MB (7 * bq + 3))) - 1)]) (rest := []) hC (c_X12_in l D y cj 0 (((MB (7 * bq + 1)) - 2 * (MB (7 * bq + 3))) - 1) (by first | assumption | omega)) (va_cwS 3 hts gX12_coin_X12_in rfl rfl rfl (by decide +kernel) ⟨Nat.le_of_ble_eq_true rfl, Nat.le_of_ble_eq_true rfl⟩) hG va_P_nil rfl hl.1 rfl (Nat.le_of_ble_eq_true rfl) dX12_coin_40 ⟨Nat.le_of_ble_eq_true rfl, Nat.le_of_ble_eq_true rfl⟩ ?_
      refine z_ifB_eq (tgt := 59) hx hb dX12_coin_43 (by decide) (fun c_43 => ?_) (fun c_43 => ?_)
      · exfalso; omega
      ·
        refine lv_iload hx hb dX12_coin_46 (lv_at hl 4 rfl) ?_
        refine z_i2l hx hb (by omega) dX12_coin_48 ?_
        refine lv_lconst (v := iL 1) hx hb dX12_coin_49 rfl ?_
        refine lv_ldc2 (v := iL 99) hx hb hown k1 dX12_coin_50 ?_
        refine z_pS (As := [zl cw, zl 1, zl 99]) (rest := []) hC (c_X12_in l D y cw 1 99 (by first | assumption | omega)) (va_cwS 3 hts gX12_coin_X12_in rfl rfl rfl (by decide +kernel) ⟨Nat.le_of_ble_eq_true rfl, Nat.le_of_ble_eq_true rfl⟩) hG va_P_nil rfl hl.1 rfl (Nat.le_of_ble_eq_true rfl) dX12_coin_53 ⟨Nat.le_of_ble_eq_true rfl, Nat.le_of_ble_eq_true rfl⟩ ?_
        refine z_ifB_ne (tgt := 62) hx hb dX12_coin_56 (by decide) (fun c_56 => ?_) (fun c_56 => ?_)
        ·
          refine lv_aload_n hx hb dX12_coin_62 rfl (lv_at hl 0 rfl) ?_
          refine va_get hx hb hts hinX12 hown hK hPr 0 rfl rfl 11 (by decide) k2 (fun _ h => h) rfl dX12_coin_63 ?_
          refine z_bipush hx hb dX12_coin_66 (by decide) ?_
          refine lv_iload_n hx hb dX12_coin_68 rfl (lv_at hl 1 rfl) ?_
          refine z_imul hx hb dX12_coin_69 ?_
          refine z_bipush hx hb dX12_coin_70 (by decide) ?_
          refine z_iadd hx hb dX12_coin_72 ?_
          refine z_iald hx hb hK hPr 1 0 rfl rfl (by omega) (by decide) dX12_coin_73 ?_
          refine z_bipush hx hb dX12_coin_74 (by decide) ?_
          refine z_icmp_ne (tgt := 82) hx hb (by omega) (by omega) dX12_coin_76 (by decide) (fun c_76 => ?_) (fun c_76 => ?_)
          · exfalso; omega
          ·
            refine z_bipush hx hb dX12_coin_79 (by decide) ?_
            exact z_iret0 hx hb hr hlocks (rfl) dX12_coin_81
        · exfalso; omega
  · exfalso; omega
set_option maxHeartbeats 8000000 in
set_option maxRecDepth 100000 in
theorem c_X12_coin (l : Launch) (D : va_G) (y : Nat → ClassId) (m0 : Nat) (m_read : Nat) (rl : Int) (rp : Int) (m_gut : Nat) (gl : Int) (gp : Int) (gx : Int) (gy : Int) (m_text : Nat) (tn : Int) (fn : Int) (m_boat : Nat) (m_coins : Nat) (vw : Int) (vm : Int) (vn : Int) (m_rest : Nat) (m_ends : Nat) (vc : Int) (m_chan : Nat) (m_spl : Nat) (fs : Int) (rn : Int) (m_rf : Nat) (m_rr : Nat) (m_ik : Nat) (m_km : Nat) (m_kb : Nat) (m_kc : Nat) (m_kf : Nat) (m_kr : Nat) (MB : Int → Int) (MC : Int → Int) (bq : Int) (ci : Int) (cj : Int) (cw : Int) (hM : mbOK fn MB MC) (hbq : 0 ≤ bq ∧ bq < fn) (hq : (0 ≤ ci ∧ ci < ((MB (7 * bq)) - 2 * (MB (7 * bq + 3)))) ∧ (0 ≤ cj ∧ cj < ((MB (7 * bq + 1)) - 2 * (MB (7 * bq + 3)))) ∧ 1 ≤ cw ∧ cw ≤ 99) (hf : MB (7 * bq + 6) < 8) (sz : Nat) : Met l yX12_coin wsX12_coin ({ frames := 2, cells := 0, slots := 0, locals := 46 } : Room) (wPc D y [] [(m0, .inr (11, [.ref m_read, zi rl, zi rp, .ref m_gut, zi gl, zi gp, zi gx, zi gy, .ref m_text, zi tn, zi fn, .ref m_boat, .ref m_coins, zi vw, zi vm, zi vn, .ref m_rest, .ref m_ends, zl vc, .ref m_chan, .ref m_spl, zi fs, zi rn, .ref m_rf, .ref m_rr, .ref m_ik, .ref m_km, .ref m_kb, .ref m_kc, .ref m_kf, .ref m_kr])), (m_boat, .inl (y 0, 42, .inl (cI MB))), (m_coins, .inl (y 0, 144, .inl (cI MC)))] sz [.ref m0, zi bq, zi ci, zi cj, zi cw]) (wQ D (fun (x9 : (Int → Int) × (Int → Int)) => match x9 with | (MB2, MC2) => some (zi (MB (7 * bq + 6)))) (fun (x9 : (Int → Int) × (Int → Int)) => match x9 with | (MB2, MC2) => MB2 = iu MB (7 * bq + 6) (MB (7 * bq + 6) + 1) ∧ MC2 = iu (iu (iu MC (24 * bq + 3 * MB (7 * bq + 6)) ci) (24 * bq + 3 * MB (7 * bq + 6) + 1) cj) (24 * bq + 3 * MB (7 * bq + 6) + 2) cw) (fun (x9 : (Int → Int) × (Int → Int)) => match x9 with | (MB2, MC2) => [(m0, .inr (11, [.ref m_read, zi rl, zi rp, .ref m_gut, zi gl, zi gp, zi gx, zi gy, .ref m_text, zi tn, zi fn, .ref m_boat, .ref m_coins, zi vw, zi vm, zi vn, .ref m_rest, .ref m_ends, zl vc, .ref m_chan, .ref m_spl, zi fs, zi rn, .ref m_rf, .ref m_rr, .ref m_ik, .ref m_km, .ref m_kb, .ref m_kc, .ref m_kf, .ref m_kr])), (m_boat, .inl (y 0, 42, .inl (cI MB2))), (m_coins, .inl (y 0, 144, .inl (cI MC2)))]) (va_A [(m0, .inr (11, [.ref m_read, zi rl, zi rp, .ref m_gut, zi gl, zi gp, zi gx, zi gy, .ref m_text, zi tn, zi fn, .ref m_boat, .ref m_coins, zi vw, zi vm, zi vn, .ref m_rest, .ref m_ends, zl vc, .ref m_chan, .ref m_spl, zi fs, zi rn, .ref m_rf, .ref m_rr, .ref m_ik, .ref m_km, .ref m_kb, .ref m_kc, .ref m_kf, .ref m_kr])), (m_boat, .inl (y 0, 42, .inl (cI MB))), (m_coins, .inl (y 0, 144, .inl (cI MC)))] sz)) 0 0 (va_A [(m0, .inr (11, [.ref m_read, zi rl, zi rp, .ref m_gut, zi gl, zi gp, zi gx, zi gy, .ref m_text, zi tn, zi fn, .ref m_boat, .ref m_coins, zi vw, zi vm, zi vn, .ref m_rest, .ref m_ends, zl vc, .ref m_chan, .ref m_spl, zi fs, zi rn, .ref m_rf, .ref m_rr, .ref m_ik, .ref m_km, .ref m_kb, .ref m_kc, .ref m_kf, .ref m_kr])), (m_boat, .inl (y 0, 42, .inl (cI MB))), (m_coins, .inl (y 0, 144, .inl (cI MC)))] sz) := by
  refine W_of (own := RX12) (cc := cX12_coin) (maxL := 6) (ret := some .int) (by decide) rfl rfl (Nat.le_of_ble_eq_true rfl) (fun p e s m below meth c ls A hx hb hr hC hlocks hin0 hR0 hN hP hD hA hG hl => ?_)
  have hC0 := hC
  obtain ⟨-, -, hml, hown, hts⟩ := hC0
  have hK := hG.1
  have hS : va_S A s.heap s.heap [] := va_S.rf
  have hPr := hR0
  have hinX12 : ∀ w ∈ wsX120, w ∈ wsX12_coin := fun _ h => List.mem_cons_of_mem _ (List.mem_append_right _ h)
  have k1 := hts (.constantLong RX12 128 (99)) (List.mem_of_getElem? (i := 1) rfl)
  have k2 := hts (.fieldLink RX12 19 "BoatsOfPaperModel" "boat" "[I") (List.mem_of_getElem? (i := 2) rfl)
  have k3 := hts (.fieldLink RX12 22 "BoatsOfPaperModel" "coins" "[I") (List.mem_of_getElem? (i := 3) rfl)
  have hl : lv_has ls 6 [(0, .ref m0), (1, zi bq), (2, zi ci), (3, zi cj), (4, zi cw)] := hl
  have hB := hM.2 bq hbq.1 hbq.2
  obtain ⟨q1, q2, q3, q4, q5, q6, q7, q8, q9, qc⟩ := id hB
  have qf := hM.1
  refine lv_aload_n hx hb dX12_coin_0 rfl (lv_at hl 0 rfl) ?_
  refine lv_iload_n hx hb dX12_coin_1 rfl (lv_at hl 1 rfl) ?_
  refine z_pV (As := [zi bq]) (rest := []) hC (c_X12_isBoat l D y m0 m_read rl rp m_gut gl gp gx gy m_text tn fn m_boat m_coins vw vm vn m_rest m_ends vc m_chan m_spl fs rn m_rf m_rr m_ik m_km m_kb m_kc m_kf m_kr bq (by first | assumption | omega) (by first | assumption | omega)) (cwV 1 hts gX12_coin_X12_isBoat rfl rfl rfl (by decide +kernel) ⟨Nat.le_of_ble_eq_true rfl, Nat.le_of_ble_eq_true rfl⟩) hG (hP.sub (ws' := [(m0, .inr (11, [.ref m_read, zi rl, zi rp, .ref m_gut, zi gl, zi gp, zi gx, zi gy, .ref m_text, zi tn, zi fn, .ref m_boat, .ref m_coins, zi vw, zi vm, zi vn, .ref m_rest, .ref m_ends, zl vc, .ref m_chan, .ref m_spl, zi fs, zi rn, .ref m_rf, .ref m_rr, .ref m_ik, .ref m_km, .ref m_kb, .ref m_kc, .ref m_kf, .ref m_kr]))]) [0] rfl) 0 rfl rfl rfl hl.1 rfl (Nat.le_of_ble_eq_true rfl) dX12_coin_2 ⟨Nat.le_of_ble_eq_true rfl, Nat.le_of_ble_eq_true rfl⟩ ?_
  refine z_ifB_ne (tgt := 10) hx hb dX12_coin_5 (by decide) (fun c_5 => ?_) (fun c_5 => ?_)
  ·
    refine lv_iload_n hx hb dX12_coin_10 rfl (lv_at hl 2 rfl) ?_
    refine z_i2l hx hb (by omega) dX12_coin_11 ?_
    refine lv_lconst (v := iL 0) hx hb dX12_coin_12 rfl ?_
    refine lv_aload_n hx hb dX12_coin_13 rfl (lv_at hl 0 rfl) ?_
    refine lv_iload_n hx hb dX12_coin_14 rfl (lv_at hl 1 rfl) ?_
    refine z_iconst hx hb dX12_coin_15 ?_
    refine z_pV (As := [zi bq, zi 0]) (rest := [zl 0, zl ci]) hC (c_X12_wide_0 l D y m0 m_read rl rp m_gut gl gp gx gy m_text tn fn m_boat m_coins vw vm vn m_rest m_ends vc m_chan m_spl fs rn m_rf m_rr m_ik m_km m_kb m_kc m_kf m_kr MB MC bq (by first | assumption | omega) (by first | assumption | omega)) (cwV 2 hts gX12_coin_X12_wide rfl rfl rfl (by decide +kernel) ⟨Nat.le_of_ble_eq_true rfl, Nat.le_of_ble_eq_true rfl⟩) hG (hP.sub (ws' := [(m0, .inr (11, [.ref m_read, zi rl, zi rp, .ref m_gut, zi gl, zi gp, zi gx, zi gy, .ref m_text, zi tn, zi fn, .ref m_boat, .ref m_coins, zi vw, zi vm, zi vn, .ref m_rest, .ref m_ends, zl vc, .ref m_chan, .ref m_spl, zi fs, zi rn, .ref m_rf, .ref m_rr, .ref m_ik, .ref m_km, .ref m_kb, .ref m_kc, .ref m_kf, .ref m_kr])), (m_boat, .inl (y 0, 42, .inl (cI MB))), (m_coins, .inl (y 0, 144, .inl (cI MC)))]) [0, 1, 2] rfl) 0 rfl rfl rfl hl.1 rfl (Nat.le_of_ble_eq_true rfl) dX12_coin_16 ⟨Nat.le_of_ble_eq_true rfl, Nat.le_of_ble_eq_true rfl⟩ ?_
    refine z_iconst hx hb dX12_coin_19 ?_
    refine z_isub hx hb dX12_coin_20 ?_
    refine z_i2l hx hb (by omega) dX12_coin_21 ?_
    refine z_pS (As := [zl ci, zl 0, zl (((MB (7 * bq)) - 2 * (MB (7 * bq + 3))) - 1)]) (rest := []) hC (c_X12_in l D y ci 0 (((MB (7 * bq)) - 2 * (MB (7 * bq + 3))) - 1) (by first | assumption | omega)) (va_cwS 3 hts gX12_coin_X12_in rfl rfl rfl (by decide +kernel) ⟨Nat.le_of_ble_eq_true rfl, Nat.le_of_ble_eq_true rfl⟩) hG va_P_nil rfl hl.1 rfl (Nat.le_of_ble_eq_true rfl) dX12_coin_22 ⟨Nat.le_of_ble_eq_true rfl, Nat.le_of_ble_eq_true rfl⟩ ?_
    refine z_ifB_eq (tgt := 59) hx hb dX12_coin_25 (by decide) (fun c_25 => ?_) (fun c_25 => ?_)
    · exfalso; omega
    ·
      refine lv_iload_n hx hb dX12_coin_28 rfl (lv_at hl 3 rfl) ?_
      refine z_i2l hx hb (by omega) dX12_coin_29 ?_
      refine lv_lconst (v := iL 0) hx hb dX12_coin_30 rfl ?_
      refine lv_aload_n hx hb dX12_coin_31 rfl (lv_at hl 0 rfl) ?_
      refine lv_iload_n hx hb dX12_coin_32 rfl (lv_at hl 1 rfl) ?_
      refine z_iconst hx hb dX12_coin_33 ?_
      refine z_pV (As := [zi bq, zi 1]) (rest := [zl 0, zl cj]) hC (c_X12_wide_1 l D y m0 m_read rl rp m_gut gl gp gx gy m_text tn fn m_boat m_coins vw vm vn m_rest m_ends vc m_chan m_spl fs rn m_rf m_rr m_ik m_km m_kb m_kc m_kf m_kr MB MC bq (by first | assumption | omega) (by first | assumption | omega)) (cwV 2 hts gX12_coin_X12_wide rfl rfl rfl (by decide +kernel) ⟨Nat.le_of_ble_eq_true rfl, Nat.le_of_ble_eq_true rfl⟩) hG (hP.sub (ws' := [(m0, .inr (11, [.ref m_read, zi rl, zi rp, .ref m_gut, zi gl, zi gp, zi gx, zi gy, .ref m_text, zi tn, zi fn, .ref m_boat, .ref m_coins, zi vw, zi vm, zi vn, .ref m_rest, .ref m_ends, zl vc, .ref m_chan, .ref m_spl, zi fs, zi rn, .ref m_rf, .ref m_rr, .ref m_ik, .ref m_km, .ref m_kb, .ref m_kc, .ref m_kf, .ref m_kr])), (m_boat, .inl (y 0, 42, .inl (cI MB))), (m_coins, .inl (y 0, 144, .inl (cI MC)))]) [0, 1, 2] rfl) 0 rfl rfl rfl hl.1 rfl (Nat.le_of_ble_eq_true rfl) dX12_coin_34 ⟨Nat.le_of_ble_eq_true rfl, Nat.le_of_ble_eq_true rfl⟩ ?_
      refine z_iconst hx hb dX12_coin_37 ?_
      refine z_isub hx hb dX12_coin_38 ?_
      refine z_i2l hx hb (by omega) dX12_coin_39 ?_
      refine z_pS (As := [zl cj, zl 0, zl (((MB (7 * bq + 1)) - 2 * (MB (7 * bq + 3))) - 1)]) (rest := []) hC (c_X12_in l D y cj 0 (((MB (7 * bq + 1)) - 2 * (MB (7 * bq + 3))) - 1) (by first | assumption | omega)) (va_cwS 3 hts gX12_coin_X12_in rfl rfl rfl (by decide +kernel) ⟨Nat.le_of_ble_eq_true rfl, Nat.le_of_ble_eq_true rfl⟩) hG va_P_nil rfl hl.1 rfl (Nat.le_of_ble_eq_true rfl) dX12_coin_40 ⟨Nat.le_of_ble_eq_true rfl, Nat.le_of_ble_eq_true rfl⟩ ?_
      refine z_ifB_eq (tgt := 59) hx hb dX12_coin_43 (by decide) (fun c_43 => ?_) (fun c_43 => ?_)
      · exfalso; omega
      ·
        refine lv_iload hx hb dX12_coin_46 (lv_at hl 4 rfl) ?_
        refine z_i2l hx hb (by omega) dX12_coin_48 ?_
        refine lv_lconst (v := iL 1) hx hb dX12_coin_49 rfl ?_
        refine lv_ldc2 (v := iL 99) hx hb hown k1 dX12_coin_50 ?_
        refine z_pS (As := [zl cw, zl 1, zl 99]) (rest := []) hC (c_X12_in l D y cw 1 99 (by first | assumption | omega)) (va_cwS 3 hts gX12_coin_X12_in rfl rfl rfl (by decide +kernel) ⟨Nat.le_of_ble_eq_true rfl, Nat.le_of_ble_eq_true rfl⟩) hG va_P_nil rfl hl.1 rfl (Nat.le_of_ble_eq_true rfl) dX12_coin_53 ⟨Nat.le_of_ble_eq_true rfl, Nat.le_of_ble_eq_true rfl⟩ ?_
        refine z_ifB_ne (tgt := 62) hx hb dX12_coin_56 (by decide) (fun c_56 => ?_) (fun c_56 => ?_)
        ·
          refine lv_aload_n hx hb dX12_coin_62 rfl (lv_at hl 0 rfl) ?_
          refine va_get hx hb hts hinX12 hown hK hP 0 rfl rfl 11 (by decide) k2 (fun _ h => h) rfl dX12_coin_63 ?_
          refine z_bipush hx hb dX12_coin_66 (by decide) ?_
          refine lv_iload_n hx hb dX12_coin_68 rfl (lv_at hl 1 rfl) ?_
          refine z_imul hx hb dX12_coin_69 ?_
          refine z_bipush hx hb dX12_coin_70 (by decide) ?_
          refine z_iadd hx hb dX12_coin_72 ?_
          refine z_iald hx hb hK hP 1 0 rfl rfl (by omega) (by decide) dX12_coin_73 ?_
          refine z_bipush hx hb dX12_coin_74 (by decide) ?_
          refine z_icmp_ne (tgt := 82) hx hb (by omega) (by omega) dX12_coin_76 (by decide) (fun c_76 => ?_) (fun c_76 => ?_)
          ·
            refine z_bipush hx hb dX12_coin_82 (by decide) ?_
            refine lv_iload_n hx hb dX12_coin_84 rfl (lv_at hl 1 rfl) ?_
            refine z_imul hx hb dX12_coin_85 ?_
            refine z_iconst hx hb dX12_coin_86 ?_
            refine lv_aload_n hx hb dX12_coin_87 rfl (lv_at hl 0 rfl) ?_
            refine va_get hx hb hts hinX12 hown hK hP 0 rfl rfl 11 (by decide) k2 (fun _ h => h) rfl dX12_coin_88 ?_
            refine z_bipush hx hb dX12_coin_91 (by decide) ?_
            refine lv_iload_n hx hb dX12_coin_93 rfl (lv_at hl 1 rfl) ?_
            refine z_imul hx hb dX12_coin_94 ?_
            refine z_bipush hx hb dX12_coin_95 (by decide) ?_
            refine z_iadd hx hb dX12_coin_97 ?_
            refine z_iald hx hb hK hP 1 0 rfl rfl (by omega) (by decide) dX12_coin_98 ?_
            refine z_imul hx hb dX12_coin_99 ?_
            refine z_iadd hx hb dX12_coin_100 ?_
            refine lv_istore (lv' := [(5, zi ((24 * bq) + (3 * (MB ((7 * bq) + 6))))), (0, .ref m0), (1, zi bq), (2, zi ci), (3, zi cj), (4, zi cw)]) hx hb dX12_coin_101 hl (by decide) rfl (fun ls hl => ?_)
            refine lv_aload_n hx hb dX12_coin_103 rfl (lv_at hl 1 rfl) ?_
            refine va_get hx hb hts hinX12 hown hK hP 0 rfl rfl 12 (by decide) k3 (fun _ h => h) rfl dX12_coin_104 ?_
            refine lv_iload hx hb dX12_coin_107 (lv_at hl 0 rfl) ?_
            refine lv_iload_n hx hb dX12_coin_109 rfl (lv_at hl 3 rfl) ?_
            refine z_iast hx hb hK hP hD hS 2 0 rfl rfl (by omega) (by decide) dX12_coin_110 (fun H locs hP hD hS => ?_)
            have hP : va_P D vwCl [(m0, .inr (11, [.ref m_read, zi rl, zi rp, .ref m_gut, zi gl, zi gp, zi gx, zi gy, .ref m_text, zi tn, zi fn, .ref m_boat, .ref m_coins, zi vw, zi vm, zi vn, .ref m_rest, .ref m_ends, zl vc, .ref m_chan, .ref m_spl, zi fs, zi rn, .ref m_rf, .ref m_rr, .ref m_ik, .ref m_km, .ref m_kb, .ref m_kc, .ref m_kf, .ref m_kr])), (m_boat, .inl (y 0, 42, .inl (cI MB))), (m_coins, .inl (y 0, 144, .inl (cI (iu MC ((24 * bq) + (3 * (MB ((7 * bq) + 6)))) ci))))] H := hP
            have hD : va_D A [(m0, .inr (11, [.ref m_read, zi rl, zi rp, .ref m_gut, zi gl, zi gp, zi gx, zi gy, .ref m_text, zi tn, zi fn, .ref m_boat, .ref m_coins, zi vw, zi vm, zi vn, .ref m_rest, .ref m_ends, zl vc, .ref m_chan, .ref m_spl, zi fs, zi rn, .ref m_rf, .ref m_rr, .ref m_ik, .ref m_km, .ref m_kb, .ref m_kc, .ref m_kf, .ref m_kr])), (m_boat, .inl (y 0, 42, .inl (cI MB))), (m_coins, .inl (y 0, 144, .inl (cI (iu MC ((24 * bq) + (3 * (MB ((7 * bq) + 6)))) ci))))] := hD
            refine lv_aload_n hx hb dX12_coin_111 rfl (lv_at hl 1 rfl) ?_
            refine va_get hx hb hts hinX12 hown hK hP 0 rfl rfl 12 (by decide) k3 (fun _ h => h) rfl dX12_coin_112 ?_
            refine lv_iload hx hb dX12_coin_115 (lv_at hl 0 rfl) ?_
            refine z_iconst hx hb dX12_coin_117 ?_
            refine z_iadd hx hb dX12_coin_118 ?_
            refine lv_iload_n hx hb dX12_coin_119 rfl (lv_at hl 4 rfl) ?_
            refine z_iast hx hb hK hP hD hS 2 0 rfl rfl (by omega) (by decide) dX12_coin_120 (fun H locs hP hD hS => ?_)
            have hP : va_P D vwCl [(m0, .inr (11, [.ref m_read, zi rl, zi rp, .ref m_gut, zi gl, zi gp, zi gx, zi gy, .ref m_text, zi tn, zi fn, .ref m_boat, .ref m_coins, zi vw, zi vm, zi vn, .ref m_rest, .ref m_ends, zl vc, .ref m_chan, .ref m_spl, zi fs, zi rn, .ref m_rf, .ref m_rr, .ref m_ik, .ref m_km, .ref m_kb, .ref m_kc, .ref m_kf, .ref m_kr])), (m_boat, .inl (y 0, 42, .inl (cI MB))), (m_coins, .inl (y 0, 144, .inl (cI (iu (iu MC ((24 * bq) + (3 * (MB ((7 * bq) + 6)))) ci) (((24 * bq) + (3 * (MB ((7 * bq) + 6)))) + 1) cj))))] H := hP
            have hD : va_D A [(m0, .inr (11, [.ref m_read, zi rl, zi rp, .ref m_gut, zi gl, zi gp, zi gx, zi gy, .ref m_text, zi tn, zi fn, .ref m_boat, .ref m_coins, zi vw, zi vm, zi vn, .ref m_rest, .ref m_ends, zl vc, .ref m_chan, .ref m_spl, zi fs, zi rn, .ref m_rf, .ref m_rr, .ref m_ik, .ref m_km, .ref m_kb, .ref m_kc, .ref m_kf, .ref m_kr])), (m_boat, .inl (y 0, 42, .inl (cI MB))), (m_coins, .inl (y 0, 144, .inl (cI (iu (iu MC ((24 * bq) + (3 * (MB ((7 * bq) + 6)))) ci) (((24 * bq) + (3 * (MB ((7 * bq) + 6)))) + 1) cj))))] := hD
            refine lv_aload_n hx hb dX12_coin_121 rfl (lv_at hl 1 rfl) ?_
            refine va_get hx hb hts hinX12 hown hK hP 0 rfl rfl 12 (by decide) k3 (fun _ h => h) rfl dX12_coin_122 ?_
            refine lv_iload hx hb dX12_coin_125 (lv_at hl 0 rfl) ?_
            refine z_iconst hx hb dX12_coin_127 ?_
            refine z_iadd hx hb dX12_coin_128 ?_
            refine lv_iload hx hb dX12_coin_129 (lv_at hl 5 rfl) ?_
            refine z_iast hx hb hK hP hD hS 2 0 rfl rfl (by omega) (by decide) dX12_coin_131 (fun H locs hP hD hS => ?_)
            have hP : va_P D vwCl [(m0, .inr (11, [.ref m_read, zi rl, zi rp, .ref m_gut, zi gl, zi gp, zi gx, zi gy, .ref m_text, zi tn, zi fn, .ref m_boat, .ref m_coins, zi vw, zi vm, zi vn, .ref m_rest, .ref m_ends, zl vc, .ref m_chan, .ref m_spl, zi fs, zi rn, .ref m_rf, .ref m_rr, .ref m_ik, .ref m_km, .ref m_kb, .ref m_kc, .ref m_kf, .ref m_kr])), (m_boat, .inl (y 0, 42, .inl (cI MB))), (m_coins, .inl (y 0, 144, .inl (cI (iu (iu (iu MC ((24 * bq) + (3 * (MB ((7 * bq) + 6)))) ci) (((24 * bq) + (3 * (MB ((7 * bq) + 6)))) + 1) cj) (((24 * bq) + (3 * (MB ((7 * bq) + 6)))) + 2) cw))))] H := hP
            have hD : va_D A [(m0, .inr (11, [.ref m_read, zi rl, zi rp, .ref m_gut, zi gl, zi gp, zi gx, zi gy, .ref m_text, zi tn, zi fn, .ref m_boat, .ref m_coins, zi vw, zi vm, zi vn, .ref m_rest, .ref m_ends, zl vc, .ref m_chan, .ref m_spl, zi fs, zi rn, .ref m_rf, .ref m_rr, .ref m_ik, .ref m_km, .ref m_kb, .ref m_kc, .ref m_kf, .ref m_kr])), (m_boat, .inl (y 0, 42, .inl (cI MB))), (m_coins, .inl (y 0, 144, .inl (cI (iu (iu (iu MC ((24 * bq) + (3 * (MB ((7 * bq) + 6)))) ci) (((24 * bq) + (3 * (MB ((7 * bq) + 6)))) + 1) cj) (((24 * bq) + (3 * (MB ((7 * bq) + 6)))) + 2) cw))))] := hD
            refine lv_aload_n hx hb dX12_coin_132 rfl (lv_at hl 1 rfl) ?_
            refine va_get hx hb hts hinX12 hown hK hP 0 rfl rfl 11 (by decide) k2 (fun _ h => h) rfl dX12_coin_133 ?_
            refine z_bipush hx hb dX12_coin_136 (by decide) ?_
            refine lv_iload_n hx hb dX12_coin_138 rfl (lv_at hl 2 rfl) ?_
            refine z_imul hx hb dX12_coin_139 ?_
            refine z_bipush hx hb dX12_coin_140 (by decide) ?_
            refine z_iadd hx hb dX12_coin_142 ?_
            refine lv_dup2_11 hx hb dX12_coin_143 rfl rfl ?_
            refine z_iald hx hb hK hP 1 0 rfl rfl (by omega) (by decide) dX12_coin_144 ?_
            refine z_iconst hx hb dX12_coin_145 ?_
            refine z_iadd hx hb dX12_coin_146 ?_
            refine z_iast hx hb hK hP hD hS 1 0 rfl rfl (by omega) (by decide) dX12_coin_147 (fun H locs hP hD hS => ?_)
            have hP : va_P D vwCl [(m0, .inr (11, [.ref m_read, zi rl, zi rp, .ref m_gut, zi gl, zi gp, zi gx, zi gy, .ref m_text, zi tn, zi fn, .ref m_boat, .ref m_coins, zi vw, zi vm, zi vn, .ref m_rest, .ref m_ends, zl vc, .ref m_chan, .ref m_spl, zi fs, zi rn, .ref m_rf, .ref m_rr, .ref m_ik, .ref m_km, .ref m_kb, .ref m_kc, .ref m_kf, .ref m_kr])), (m_boat, .inl (y 0, 42, .inl (cI (iu MB ((7 * bq) + 6) ((MB ((7 * bq) + 6)) + 1))))), (m_coins, .inl (y 0, 144, .inl (cI (iu (iu (iu MC ((24 * bq) + (3 * (MB ((7 * bq) + 6)))) ci) (((24 * bq) + (3 * (MB ((7 * bq) + 6)))) + 1) cj) (((24 * bq) + (3 * (MB ((7 * bq) + 6)))) + 2) cw))))] H := hP
            have hD : va_D A [(m0, .inr (11, [.ref m_read, zi rl, zi rp, .ref m_gut, zi gl, zi gp, zi gx, zi gy, .ref m_text, zi tn, zi fn, .ref m_boat, .ref m_coins, zi vw, zi vm, zi vn, .ref m_rest, .ref m_ends, zl vc, .ref m_chan, .ref m_spl, zi fs, zi rn, .ref m_rf, .ref m_rr, .ref m_ik, .ref m_km, .ref m_kb, .ref m_kc, .ref m_kf, .ref m_kr])), (m_boat, .inl (y 0, 42, .inl (cI (iu MB ((7 * bq) + 6) ((MB ((7 * bq) + 6)) + 1))))), (m_coins, .inl (y 0, 144, .inl (cI (iu (iu (iu MC ((24 * bq) + (3 * (MB ((7 * bq) + 6)))) ci) (((24 * bq) + (3 * (MB ((7 * bq) + 6)))) + 1) cj) (((24 * bq) + (3 * (MB ((7 * bq) + 6)))) + 2) cw))))] := hD
            refine lv_aload_n hx hb dX12_coin_148 rfl (lv_at hl 1 rfl) ?_
            refine va_get hx hb hts hinX12 hown hK hP 0 rfl rfl 11 (by decide) k2 (fun _ h => h) rfl dX12_coin_149 ?_
            refine z_bipush hx hb dX12_coin_152 (by decide) ?_
            refine lv_iload_n hx hb dX12_coin_154 rfl (lv_at hl 2 rfl) ?_
            refine z_imul hx hb dX12_coin_155 ?_
            refine z_bipush hx hb dX12_coin_156 (by decide) ?_
            refine z_iadd hx hb dX12_coin_158 ?_
            refine z_iald hx hb hK hP 1 0 rfl rfl (by omega) (by decide) dX12_coin_159 ?_
            refine z_iconst hx hb dX12_coin_160 ?_
            refine z_isub hx hb dX12_coin_161 ?_
            exact z_iretW hx hb hr hlocks (iu MB ((7 * bq) + 6) ((MB ((7 * bq) + 6)) + 1), iu (iu (iu MC ((24 * bq) + (3 * (MB ((7 * bq) + 6)))) ci) (((24 * bq) + (3 * (MB ((7 * bq) + 6)))) + 1) cj) (((24 * bq) + (3 * (MB ((7 * bq) + 6)))) + 2) cw) (by show some (zi (MB (7 * bq + 6))) = _; rw [iu_s, show MB (7 * bq + 6) + 1 - 1 = MB (7 * bq + 6) by omega]) (⟨rfl, rfl⟩) (hP.sub [0, 1, 2] rfl) (hD.sub [0, 1, 2] (by decide) rfl) hS dX12_coin_162
          · exfalso; omega
        · exfalso; omega
  · exfalso; omega
set_option maxHeartbeats 8000000 in
set_option maxRecDepth 100000 in
theorem c_X12_empty_no (l : Launch) (D : va_G) (y : Nat → ClassId) (m0 : Nat) (m_read : Nat) (rl : Int) (rp : Int) (m_gut : Nat) (gl : Int) (gp : Int) (gx : Int) (gy : Int) (m_text : Nat) (tn : Int) (fn : Int) (m_boat : Nat) (m_coins : Nat) (vw : Int) (vm : Int) (vn : Int) (m_rest : Nat) (m_ends : Nat) (vc : Int) (m_chan : Nat) (m_spl : Nat) (fs : Int) (rn : Int) (m_rf : Nat) (m_rr : Nat) (m_ik : Nat) (m_km : Nat) (m_kb : Nat) (m_kc : Nat) (m_kf : Nat) (m_kr : Nat) (bq : Int) (hbq : rI bq ∧ 0 ≤ fn ∧ fn ≤ 6 ∧ ¬ (0 ≤ bq ∧ bq < fn)) : Met l yX12_empty wsX12_empty ({ frames := 2, cells := 0, slots := 0, locals := 46 } : Room) (pPc D y [(m0, .inr (11, [.ref m_read, zi rl, zi rp, .ref m_gut, zi gl, zi gp, zi gx, zi gy, .ref m_text, zi tn, zi fn, .ref m_boat, .ref m_coins, zi vw, zi vm, zi vn, .ref m_rest, .ref m_ends, zl vc, .ref m_chan, .ref m_spl, zi fs, zi rn, .ref m_rf, .ref m_rr, .ref m_ik, .ref m_km, .ref m_kb, .ref m_kc, .ref m_kf, .ref m_kr]))] [.ref m0, zi bq]) (qV (zi (-1))) 0 0 (fun _ => False) := by
  refine P_of (own := RX12) (cc := cX12_empty) (maxL := 3) (ret := some .int) (by decide) rfl rfl (Nat.le_of_ble_eq_true rfl) (fun p e s m below meth c ls hx hb hr hC hlocks hPr hG hl => ?_)
  have hC0 := hC
  obtain ⟨-, -, hml, hown, hts⟩ := hC0
  have hK := hG.1
  have hl : lv_has ls 3 [(0, .ref m0), (1, zi bq)] := hl
  refine lv_aload_n hx hb dX12_empty_0 rfl (lv_at hl 0 rfl) ?_
  refine lv_iload_n hx hb dX12_empty_1 rfl (lv_at hl 1 rfl) ?_
  refine z_pV (As := [zi bq]) (rest := []) hC (c_X12_isBoat l D y m0 m_read rl rp m_gut gl gp gx gy m_text tn fn m_boat m_coins vw vm vn m_rest m_ends vc m_chan m_spl fs rn m_rf m_rr m_ik m_km m_kb m_kc m_kf m_kr bq (by first | assumption | omega) (by first | assumption | omega)) (cwV 1 hts gX12_empty_X12_isBoat rfl rfl rfl (by decide +kernel) ⟨Nat.le_of_ble_eq_true rfl, Nat.le_of_ble_eq_true rfl⟩) hG (hPr.sub (ws' := [(m0, .inr (11, [.ref m_read, zi rl, zi rp, .ref m_gut, zi gl, zi gp, zi gx, zi gy, .ref m_text, zi tn, zi fn, .ref m_boat, .ref m_coins, zi vw, zi vm, zi vn, .ref m_rest, .ref m_ends, zl vc, .ref m_chan, .ref m_spl, zi fs, zi rn, .ref m_rf, .ref m_rr, .ref m_ik, .ref m_km, .ref m_kb, .ref m_kc, .ref m_kf, .ref m_kr]))]) [0] rfl) 0 rfl rfl rfl hl.1 rfl (Nat.le_of_ble_eq_true rfl) dX12_empty_2 ⟨Nat.le_of_ble_eq_true rfl, Nat.le_of_ble_eq_true rfl⟩ ?_
  refine z_ifB_ne (tgt := 10) hx hb dX12_empty_5 (by decide) (fun c_5 => ?_) (fun c_5 => ?_)
  · exfalso; omega
  ·
    refine z_iconst hx hb dX12_empty_8 ?_
    exact z_iret0 hx hb hr hlocks (rfl) dX12_empty_9
set_option maxHeartbeats 8000000 in
set_option maxRecDepth 100000 in
theorem c_X12_empty (l : Launch) (D : va_G) (y : Nat → ClassId) (m0 : Nat) (m_read : Nat) (rl : Int) (rp : Int) (m_gut : Nat) (gl : Int) (gp : Int) (gx : Int) (gy : Int) (m_text : Nat) (tn : Int) (fn : Int) (m_boat : Nat) (m_coins : Nat) (vw : Int) (vm : Int) (vn : Int) (m_rest : Nat) (m_ends : Nat) (vc : Int) (m_chan : Nat) (m_spl : Nat) (fs : Int) (rn : Int) (m_rf : Nat) (m_rr : Nat) (m_ik : Nat) (m_km : Nat) (m_kb : Nat) (m_kc : Nat) (m_kf : Nat) (m_kr : Nat) (MB : Int → Int) (MC : Int → Int) (bq : Int) (hM : mbOK fn MB MC) (hbq : 0 ≤ bq ∧ bq < fn) (sz : Nat) : Met l yX12_empty wsX12_empty ({ frames := 2, cells := 0, slots := 0, locals := 46 } : Room) (wPc D y [] [(m0, .inr (11, [.ref m_read, zi rl, zi rp, .ref m_gut, zi gl, zi gp, zi gx, zi gy, .ref m_text, zi tn, zi fn, .ref m_boat, .ref m_coins, zi vw, zi vm, zi vn, .ref m_rest, .ref m_ends, zl vc, .ref m_chan, .ref m_spl, zi fs, zi rn, .ref m_rf, .ref m_rr, .ref m_ik, .ref m_km, .ref m_kb, .ref m_kc, .ref m_kf, .ref m_kr])), (m_boat, .inl (y 0, 42, .inl (cI MB))), (m_coins, .inl (y 0, 144, .inl (cI MC)))] sz [.ref m0, zi bq]) (wQ D (fun (MB2 : (Int → Int)) => some (zi (MB (7 * bq + 6)))) (fun (MB2 : (Int → Int)) => MB2 = iu MB (7 * bq + 6) 0) (fun (MB2 : (Int → Int)) => [(m0, .inr (11, [.ref m_read, zi rl, zi rp, .ref m_gut, zi gl, zi gp, zi gx, zi gy, .ref m_text, zi tn, zi fn, .ref m_boat, .ref m_coins, zi vw, zi vm, zi vn, .ref m_rest, .ref m_ends, zl vc, .ref m_chan, .ref m_spl, zi fs, zi rn, .ref m_rf, .ref m_rr, .ref m_ik, .ref m_km, .ref m_kb, .ref m_kc, .ref m_kf, .ref m_kr])), (m_boat, .inl (y 0, 42, .inl (cI MB2))), (m_coins, .inl (y 0, 144, .inl (cI MC)))]) (va_A [(m0, .inr (11, [.ref m_read, zi rl, zi rp, .ref m_gut, zi gl, zi gp, zi gx, zi gy, .ref m_text, zi tn, zi fn, .ref m_boat, .ref m_coins, zi vw, zi vm, zi vn, .ref m_rest, .ref m_ends, zl vc, .ref m_chan, .ref m_spl, zi fs, zi rn, .ref m_rf, .ref m_rr, .ref m_ik, .ref m_km, .ref m_kb, .ref m_kc, .ref m_kf, .ref m_kr])), (m_boat, .inl (y 0, 42, .inl (cI MB))), (m_coins, .inl (y 0, 144, .inl (cI MC)))] sz)) 0 0 (va_A [(m0, .inr (11, [.ref m_read, zi rl, zi rp, .ref m_gut, zi gl, zi gp, zi gx, zi gy, .ref m_text, zi tn, zi fn, .ref m_boat, .ref m_coins, zi vw, zi vm, zi vn, .ref m_rest, .ref m_ends, zl vc, .ref m_chan, .ref m_spl, zi fs, zi rn, .ref m_rf, .ref m_rr, .ref m_ik, .ref m_km, .ref m_kb, .ref m_kc, .ref m_kf, .ref m_kr])), (m_boat, .inl (y 0, 42, .inl (cI MB))), (m_coins, .inl (y 0, 144, .inl (cI MC)))] sz) := by
  refine W_of (own := RX12) (cc := cX12_empty) (maxL := 3) (ret := some .int) (by decide) rfl rfl (Nat.le_of_ble_eq_true rfl) (fun p e s m below meth c ls A hx hb hr hC hlocks hin0 hR0 hN hP hD hA hG hl => ?_)
  have hC0 := hC
  obtain ⟨-, -, hml, hown, hts⟩ := hC0
  have hK := hG.1
  have hS : va_S A s.heap s.heap [] := va_S.rf
  have hPr := hR0
  have hinX12 : ∀ w ∈ wsX120, w ∈ wsX12_empty := fun _ h => List.mem_cons_of_mem _ (List.mem_append_right _ h)
  have k1 := hts (.fieldLink RX12 19 "BoatsOfPaperModel" "boat" "[I") (List.mem_of_getElem? (i := 1) rfl)
  have hl : lv_has ls 3 [(0, .ref m0), (1, zi bq)] := hl
  have hB := hM.2 bq hbq.1 hbq.2
  obtain ⟨q1, q2, q3, q4, q5, q6, q7, q8, q9, qc⟩ := id hB
  have qf := hM.1
  refine lv_aload_n hx hb dX12_empty_0 rfl (lv_at hl 0 rfl) ?_
  refine lv_iload_n hx hb dX12_empty_1 rfl (lv_at hl 1 rfl) ?_
  refine z_pV (As := [zi bq]) (rest := []) hC (c_X12_isBoat l D y m0 m_read rl rp m_gut gl gp gx gy m_text tn fn m_boat m_coins vw vm vn m_rest m_ends vc m_chan m_spl fs rn m_rf m_rr m_ik m_km m_kb m_kc m_kf m_kr bq (by first | assumption | omega) (by first | assumption | omega)) (cwV 1 hts gX12_empty_X12_isBoat rfl rfl rfl (by decide +kernel) ⟨Nat.le_of_ble_eq_true rfl, Nat.le_of_ble_eq_true rfl⟩) hG (hP.sub (ws' := [(m0, .inr (11, [.ref m_read, zi rl, zi rp, .ref m_gut, zi gl, zi gp, zi gx, zi gy, .ref m_text, zi tn, zi fn, .ref m_boat, .ref m_coins, zi vw, zi vm, zi vn, .ref m_rest, .ref m_ends, zl vc, .ref m_chan, .ref m_spl, zi fs, zi rn, .ref m_rf, .ref m_rr, .ref m_ik, .ref m_km, .ref m_kb, .ref m_kc, .ref m_kf, .ref m_kr]))]) [0] rfl) 0 rfl rfl rfl hl.1 rfl (Nat.le_of_ble_eq_true rfl) dX12_empty_2 ⟨Nat.le_of_ble_eq_true rfl, Nat.le_of_ble_eq_true rfl⟩ ?_
  refine z_ifB_ne (tgt := 10) hx hb dX12_empty_5 (by decide) (fun c_5 => ?_) (fun c_5 => ?_)
  ·
    refine lv_aload_n hx hb dX12_empty_10 rfl (lv_at hl 0 rfl) ?_
    refine va_get hx hb hts hinX12 hown hK hP 0 rfl rfl 11 (by decide) k1 (fun _ h => h) rfl dX12_empty_11 ?_
    refine z_bipush hx hb dX12_empty_14 (by decide) ?_
    refine lv_iload_n hx hb dX12_empty_16 rfl (lv_at hl 1 rfl) ?_
    refine z_imul hx hb dX12_empty_17 ?_
    refine z_bipush hx hb dX12_empty_18 (by decide) ?_
    refine z_iadd hx hb dX12_empty_20 ?_
    refine z_iald hx hb hK hP 1 0 rfl rfl (by omega) (by decide) dX12_empty_21 ?_
    refine lv_istore_n (lv' := [(2, zi (MB ((7 * bq) + 6))), (0, .ref m0), (1, zi bq)]) hx hb dX12_empty_22 rfl hl (by decide) rfl (fun ls hl => ?_)
    refine lv_aload_n hx hb dX12_empty_23 rfl (lv_at hl 1 rfl) ?_
    refine va_get hx hb hts hinX12 hown hK hP 0 rfl rfl 11 (by decide) k1 (fun _ h => h) rfl dX12_empty_24 ?_
    refine z_bipush hx hb dX12_empty_27 (by decide) ?_
    refine lv_iload_n hx hb dX12_empty_29 rfl (lv_at hl 2 rfl) ?_
    refine z_imul hx hb dX12_empty_30 ?_
    refine z_bipush hx hb dX12_empty_31 (by decide) ?_
    refine z_iadd hx hb dX12_empty_33 ?_
    refine z_iconst hx hb dX12_empty_34 ?_
    refine z_iast hx hb hK hP hD hS 1 0 rfl rfl (by omega) (by decide) dX12_empty_35 (fun H locs hP hD hS => ?_)
    have hP : va_P D vwCl [(m0, .inr (11, [.ref m_read, zi rl, zi rp, .ref m_gut, zi gl, zi gp, zi gx, zi gy, .ref m_text, zi tn, zi fn, .ref m_boat, .ref m_coins, zi vw, zi vm, zi vn, .ref m_rest, .ref m_ends, zl vc, .ref m_chan, .ref m_spl, zi fs, zi rn, .ref m_rf, .ref m_rr, .ref m_ik, .ref m_km, .ref m_kb, .ref m_kc, .ref m_kf, .ref m_kr])), (m_boat, .inl (y 0, 42, .inl (cI (iu MB ((7 * bq) + 6) 0)))), (m_coins, .inl (y 0, 144, .inl (cI MC)))] H := hP
    have hD : va_D A [(m0, .inr (11, [.ref m_read, zi rl, zi rp, .ref m_gut, zi gl, zi gp, zi gx, zi gy, .ref m_text, zi tn, zi fn, .ref m_boat, .ref m_coins, zi vw, zi vm, zi vn, .ref m_rest, .ref m_ends, zl vc, .ref m_chan, .ref m_spl, zi fs, zi rn, .ref m_rf, .ref m_rr, .ref m_ik, .ref m_km, .ref m_kb, .ref m_kc, .ref m_kf, .ref m_kr])), (m_boat, .inl (y 0, 42, .inl (cI (iu MB ((7 * bq) + 6) 0)))), (m_coins, .inl (y 0, 144, .inl (cI MC)))] := hD
    refine lv_iload_n hx hb dX12_empty_36 rfl (lv_at hl 0 rfl) ?_
    exact z_iretW hx hb hr hlocks (iu MB ((7 * bq) + 6) 0) (rfl) (rfl) (hP.sub [0, 1, 2] rfl) (hD.sub [0, 1, 2] (by decide) rfl) hS dX12_empty_37
  · exfalso; omega
set_option maxHeartbeats 8000000 in
set_option maxRecDepth 100000 in
theorem c_X12_all (l : Launch) (D : va_G) (y : Nat → ClassId) (m0 : Nat) (m_read : Nat) (rl : Int) (rp : Int) (m_gut : Nat) (gl : Int) (gp : Int) (gx : Int) (gy : Int) (m_text : Nat) (tn : Int) (fn : Int) (m_boat : Nat) (m_coins : Nat) (vw : Int) (vm : Int) (vn : Int) (m_rest : Nat) (m_ends : Nat) (vc : Int) (m_chan : Nat) (m_spl : Nat) (fs : Int) (rn : Int) (m_rf : Nat) (m_rr : Nat) (m_ik : Nat) (m_km : Nat) (m_kb : Nat) (m_kc : Nat) (m_kf : Nat) (m_kr : Nat) (MB : Int → Int) (MC : Int → Int) (bq : Int) (hM : mbOK fn MB MC) (hbq : 0 ≤ bq ∧ bq < fn) : Met l yX12_all wsX12_all ({ frames := 0, cells := 0, slots := 0, locals := 0 } : Room) (pPc D y [(m0, .inr (11, [.ref m_read, zi rl, zi rp, .ref m_gut, zi gl, zi gp, zi gx, zi gy, .ref m_text, zi tn, zi fn, .ref m_boat, .ref m_coins, zi vw, zi vm, zi vn, .ref m_rest, .ref m_ends, zl vc, .ref m_chan, .ref m_spl, zi fs, zi rn, .ref m_rf, .ref m_rr, .ref m_ik, .ref m_km, .ref m_kb, .ref m_kc, .ref m_kf, .ref m_kr])), (m_boat, .inl (y 0, 42, .inl (cI MB))), (m_coins, .inl (y 0, 144, .inl (cI MC)))] [.ref m0, zi bq]) (qV (zi (1 * 2 ^ (MB (7 * bq + 6)).toNat - 1))) 0 0 (fun _ => False) := by
  refine P_of (own := RX12) (cc := cX12_all) (maxL := 2) (ret := some .int) (by decide) rfl rfl (Nat.le_of_ble_eq_true rfl) (fun p e s m below meth c ls hx hb hr hC hlocks hPr hG hl => ?_)
  have hC0 := hC
  obtain ⟨-, -, hml, hown, hts⟩ := hC0
  have hK := hG.1
  have hinX12 : ∀ w ∈ wsX120, w ∈ wsX12_all := fun _ h => List.mem_cons_of_mem _ (List.mem_append_right _ h)
  have k1 := hts (.fieldLink RX12 19 "BoatsOfPaperModel" "boat" "[I") (List.mem_of_getElem? (i := 1) rfl)
  have hl : lv_has ls 2 [(0, .ref m0), (1, zi bq)] := hl
  have hB := hM.2 bq hbq.1 hbq.2
  obtain ⟨q1, q2, q3, q4, q5, q6, q7, q8, q9, qc⟩ := id hB
  have qf := hM.1
  have b2 := pow8 (k := MB (7 * bq + 6)) (by omega)
  refine z_iconst hx hb dX12_all_0 ?_
  refine lv_aload_n hx hb dX12_all_1 rfl (lv_at hl 0 rfl) ?_
  refine va_get hx hb hts hinX12 hown hK hPr 0 rfl rfl 11 (by decide) k1 (fun _ h => h) rfl dX12_all_2 ?_
  refine z_bipush hx hb dX12_all_5 (by decide) ?_
  refine lv_iload_n hx hb dX12_all_7 rfl (lv_at hl 1 rfl) ?_
  refine z_imul hx hb dX12_all_8 ?_
  refine z_bipush hx hb dX12_all_9 (by decide) ?_
  refine z_iadd hx hb dX12_all_11 ?_
  refine z_iald hx hb hK hPr 1 0 rfl rfl (by omega) (by decide) dX12_all_12 ?_
  refine z_ishl hx hb (by omega) dX12_all_13 ?_
  refine z_iconst hx hb dX12_all_14 ?_
  refine z_isub hx hb dX12_all_15 ?_
  exact z_iret0 hx hb hr hlocks (rfl) dX12_all_16
set_option maxHeartbeats 8000000 in
set_option maxRecDepth 100000 in
theorem c_X12_layCoins (l : Launch) (D : va_G) (y : Nat → ClassId) (m0 : Nat) (m_read : Nat) (rl : Int) (rp : Int) (m_gut : Nat) (gl : Int) (gp : Int) (gx : Int) (gy : Int) (m_text : Nat) (tn : Int) (fn : Int) (m_boat : Nat) (m_coins : Nat) (vw : Int) (vm : Int) (vn : Int) (m_rest : Nat) (m_ends : Nat) (vc : Int) (m_chan : Nat) (m_spl : Nat) (fs : Int) (rn : Int) (m_rf : Nat) (m_rr : Nat) (m_ik : Nat) (m_km : Nat) (m_kb : Nat) (m_kc : Nat) (m_kf : Nat) (m_kr : Nat) (MB : Int → Int) (MC : Int → Int) (bq : Int) (tq : Int) (hM : mbOK fn MB MC) (hbq : 0 ≤ bq ∧ bq < fn) (hT : 0 ≤ tq ∧ tq ≤ 255) (sz : Nat) : Met l yX12_layCoins wsX12_layCoins ({ frames := 1, cells := 0, slots := 0, locals := 22 } : Room) (wPc D y [] [(m0, .inr (11, [.ref m_read, zi rl, zi rp, .ref m_gut, zi gl, zi gp, zi gx, zi gy, .ref m_text, zi tn, zi fn, .ref m_boat, .ref m_coins, zi vw, zi vm, zi vn, .ref m_rest, .ref m_ends, zl vc, .ref m_chan, .ref m_spl, zi fs, zi rn, .ref m_rf, .ref m_rr, .ref m_ik, .ref m_km, .ref m_kb, .ref m_kc, .ref m_kf, .ref m_kr])), (m_boat, .inl (y 0, 42, .inl (cI MB))), (m_coins, .inl (y 0, 144, .inl (cI MC)))] sz [.ref m0, zi bq, zi tq]) (wQ D (fun (_ : Unit) => none) (fun (_ : Unit) => True) (fun (_ : Unit) => [(m0, .inr (11, [.ref m_read, zi rl, zi rp, .ref m_gut, zi gl, zi gp, zi gx, zi gy, .ref m_text, zi tn, zi fn, .ref m_boat, .ref m_coins, zi (bs (mCW MC bq) (MB (7 * bq + 6)) tq), zi (bs (pullC ((MB (7 * bq)) - 2 * (MB (7 * bq + 3))) (mCI MC bq) (mCW MC bq)) (MB (7 * bq + 6)) tq), zi (bs (pullC ((MB (7 * bq + 1)) - 2 * (MB (7 * bq + 3))) (mCJ MC bq) (mCW MC bq)) (MB (7 * bq + 6)) tq), .ref m_rest, .ref m_ends, zl vc, .ref m_chan, .ref m_spl, zi fs, zi rn, .ref m_rf, .ref m_rr, .ref m_ik, .ref m_km, .ref m_kb, .ref m_kc, .ref m_kf, .ref m_kr])), (m_boat, .inl (y 0, 42, .inl (cI MB))), (m_coins, .inl (y 0, 144, .inl (cI MC)))]) (va_A [(m0, .inr (11, [.ref m_read, zi rl, zi rp, .ref m_gut, zi gl, zi gp, zi gx, zi gy, .ref m_text, zi tn, zi fn, .ref m_boat, .ref m_coins, zi vw, zi vm, zi vn, .ref m_rest, .ref m_ends, zl vc, .ref m_chan, .ref m_spl, zi fs, zi rn, .ref m_rf, .ref m_rr, .ref m_ik, .ref m_km, .ref m_kb, .ref m_kc, .ref m_kf, .ref m_kr])), (m_boat, .inl (y 0, 42, .inl (cI MB))), (m_coins, .inl (y 0, 144, .inl (cI MC)))] sz)) 0 0 (va_A [(m0, .inr (11, [.ref m_read, zi rl, zi rp, .ref m_gut, zi gl, zi gp, zi gx, zi gy, .ref m_text, zi tn, zi fn, .ref m_boat, .ref m_coins, zi vw, zi vm, zi vn, .ref m_rest, .ref m_ends, zl vc, .ref m_chan, .ref m_spl, zi fs, zi rn, .ref m_rf, .ref m_rr, .ref m_ik, .ref m_km, .ref m_kb, .ref m_kc, .ref m_kf, .ref m_kr])), (m_boat, .inl (y 0, 42, .inl (cI MB))), (m_coins, .inl (y 0, 144, .inl (cI MC)))] sz) := by
  refine W_of (own := RX12) (cc := cX12_layCoins) (maxL := 6) (ret := none) (by decide) rfl rfl (Nat.le_of_ble_eq_true rfl) (fun p e s m below meth c ls A hx hb hr hC hlocks hin0 hR0 hN hP hD hA hG hl => ?_)
  have hC0 := hC
  obtain ⟨-, -, hml, hown, hts⟩ := hC0
  have hK := hG.1
  have hS : va_S A s.heap s.heap [] := va_S.rf
  have hPr := hR0
  have hinX12 : ∀ w ∈ wsX120, w ∈ wsX12_layCoins := fun _ h => List.mem_cons_of_mem _ (List.mem_append_right _ h)
  have k1 := hts (.fieldLink RX12 134 "BoatsOfPaperModel" "coinsWeigh" "I") (List.mem_of_getElem? (i := 1) rfl)
  have k2 := hts (.fieldLink RX12 137 "BoatsOfPaperModel" "momentM" "I") (List.mem_of_getElem? (i := 2) rfl)
  have k3 := hts (.fieldLink RX12 140 "BoatsOfPaperModel" "momentN" "I") (List.mem_of_getElem? (i := 3) rfl)
  have k4 := hts (.fieldLink RX12 19 "BoatsOfPaperModel" "boat" "[I") (List.mem_of_getElem? (i := 4) rfl)
  have k5 := hts (.fieldLink RX12 22 "BoatsOfPaperModel" "coins" "[I") (List.mem_of_getElem? (i := 5) rfl)
  have hl : lv_has ls 6 [(0, .ref m0), (1, zi bq), (2, zi tq)] := hl
  have hB := hM.2 bq hbq.1 hbq.2
  obtain ⟨q1, q2, q3, q4, q5, q6, q7, q8, q9, qc⟩ := id hB
  have qf := hM.1
  refine lv_aload_n hx hb dX12_layCoins_0 rfl (lv_at hl 0 rfl) ?_
  refine z_iconst hx hb dX12_layCoins_1 ?_
  refine va_put hx hb hts hinX12 tyX12 tyX12_ok nmX12 hown hK hP hD hS 0 rfl rfl 13 (by decide) k1 (fun _ h => h) rfl (tyX12_ok 13 (by decide)) rfl rfl (Nat.le_of_ble_eq_true rfl) dX12_layCoins_2 (fun H locs hP hD hS => ?_)
  have hP : va_P D vwCl [(m0, .inr (11, [.ref m_read, zi rl, zi rp, .ref m_gut, zi gl, zi gp, zi gx, zi gy, .ref m_text, zi tn, zi fn, .ref m_boat, .ref m_coins, zi 0, zi vm, zi vn, .ref m_rest, .ref m_ends, zl vc, .ref m_chan, .ref m_spl, zi fs, zi rn, .ref m_rf, .ref m_rr, .ref m_ik, .ref m_km, .ref m_kb, .ref m_kc, .ref m_kf, .ref m_kr])), (m_boat, .inl (y 0, 42, .inl (cI MB))), (m_coins, .inl (y 0, 144, .inl (cI MC)))] H := hP
  have hD : va_D A [(m0, .inr (11, [.ref m_read, zi rl, zi rp, .ref m_gut, zi gl, zi gp, zi gx, zi gy, .ref m_text, zi tn, zi fn, .ref m_boat, .ref m_coins, zi 0, zi vm, zi vn, .ref m_rest, .ref m_ends, zl vc, .ref m_chan, .ref m_spl, zi fs, zi rn, .ref m_rf, .ref m_rr, .ref m_ik, .ref m_km, .ref m_kb, .ref m_kc, .ref m_kf, .ref m_kr])), (m_boat, .inl (y 0, 42, .inl (cI MB))), (m_coins, .inl (y 0, 144, .inl (cI MC)))] := hD
  refine lv_aload_n hx hb dX12_layCoins_5 rfl (lv_at hl 0 rfl) ?_
  refine z_iconst hx hb dX12_layCoins_6 ?_
  refine va_put hx hb hts hinX12 tyX12 tyX12_ok nmX12 hown hK hP hD hS 0 rfl rfl 14 (by decide) k2 (fun _ h => h) rfl (tyX12_ok 14 (by decide)) rfl rfl (Nat.le_of_ble_eq_true rfl) dX12_layCoins_7 (fun H locs hP hD hS => ?_)
  have hP : va_P D vwCl [(m0, .inr (11, [.ref m_read, zi rl, zi rp, .ref m_gut, zi gl, zi gp, zi gx, zi gy, .ref m_text, zi tn, zi fn, .ref m_boat, .ref m_coins, zi 0, zi 0, zi vn, .ref m_rest, .ref m_ends, zl vc, .ref m_chan, .ref m_spl, zi fs, zi rn, .ref m_rf, .ref m_rr, .ref m_ik, .ref m_km, .ref m_kb, .ref m_kc, .ref m_kf, .ref m_kr])), (m_boat, .inl (y 0, 42, .inl (cI MB))), (m_coins, .inl (y 0, 144, .inl (cI MC)))] H := hP
  have hD : va_D A [(m0, .inr (11, [.ref m_read, zi rl, zi rp, .ref m_gut, zi gl, zi gp, zi gx, zi gy, .ref m_text, zi tn, zi fn, .ref m_boat, .ref m_coins, zi 0, zi 0, zi vn, .ref m_rest, .ref m_ends, zl vc, .ref m_chan, .ref m_spl, zi fs, zi rn, .ref m_rf, .ref m_rr, .ref m_ik, .ref m_km, .ref m_kb, .ref m_kc, .ref m_kf, .ref m_kr])), (m_boat, .inl (y 0, 42, .inl (cI MB))), (m_coins, .inl (y 0, 144, .inl (cI MC)))] := hD
  refine lv_aload_n hx hb dX12_layCoins_10 rfl (lv_at hl 0 rfl) ?_
  refine z_iconst hx hb dX12_layCoins_11 ?_
  refine va_put hx hb hts hinX12 tyX12 tyX12_ok nmX12 hown hK hP hD hS 0 rfl rfl 15 (by decide) k3 (fun _ h => h) rfl (tyX12_ok 15 (by decide)) rfl rfl (Nat.le_of_ble_eq_true rfl) dX12_layCoins_12 (fun H locs hP hD hS => ?_)
  have hP : va_P D vwCl [(m0, .inr (11, [.ref m_read, zi rl, zi rp, .ref m_gut, zi gl, zi gp, zi gx, zi gy, .ref m_text, zi tn, zi fn, .ref m_boat, .ref m_coins, zi 0, zi 0, zi 0, .ref m_rest, .ref m_ends, zl vc, .ref m_chan, .ref m_spl, zi fs, zi rn, .ref m_rf, .ref m_rr, .ref m_ik, .ref m_km, .ref m_kb, .ref m_kc, .ref m_kf, .ref m_kr])), (m_boat, .inl (y 0, 42, .inl (cI MB))), (m_coins, .inl (y 0, 144, .inl (cI MC)))] H := hP
  have hD : va_D A [(m0, .inr (11, [.ref m_read, zi rl, zi rp, .ref m_gut, zi gl, zi gp, zi gx, zi gy, .ref m_text, zi tn, zi fn, .ref m_boat, .ref m_coins, zi 0, zi 0, zi 0, .ref m_rest, .ref m_ends, zl vc, .ref m_chan, .ref m_spl, zi fs, zi rn, .ref m_rf, .ref m_rr, .ref m_ik, .ref m_km, .ref m_kb, .ref m_kc, .ref m_kf, .ref m_kr])), (m_boat, .inl (y 0, 42, .inl (cI MB))), (m_coins, .inl (y 0, 144, .inl (cI MC)))] := hD
  refine z_iconst hx hb dX12_layCoins_15 ?_
  refine lv_istore_n (lv' := [(3, zi 0), (0, .ref m0), (1, zi bq), (2, zi tq)]) hx hb dX12_layCoins_16 rfl hl (by decide) rfl (fun ls hl => ?_)
  refine z_loop (σ := Int × Int × Int × Int) (fun x9 H lc ls => match x9 with | (k, w1, x1, z1) => ((0 ≤ k ∧ k ≤ MB (7 * bq + 6)) ∧ w1 = sgI (fun c => tq / 2 ^ c.toNat % 2 * (mCW MC bq) c) k ∧ x1 = sgI (fun c => tq / 2 ^ c.toNat % 2 * (pullC ((MB (7 * bq)) - 2 * (MB (7 * bq + 3))) (mCI MC bq) (mCW MC bq)) c) k ∧ z1 = sgI (fun c => tq / 2 ^ c.toNat % 2 * (pullC ((MB (7 * bq + 1)) - 2 * (MB (7 * bq + 3))) (mCJ MC bq) (mCW MC bq)) c) k) ∧ lv_has ls 6 [(3, zi k), (0, .ref m0), (1, zi bq), (2, zi tq)] ∧ va_P D vwCl [(m0, .inr (11, [.ref m_read, zi rl, zi rp, .ref m_gut, zi gl, zi gp, zi gx, zi gy, .ref m_text, zi tn, zi fn, .ref m_boat, .ref m_coins, zi w1, zi x1, zi z1, .ref m_rest, .ref m_ends, zl vc, .ref m_chan, .ref m_spl, zi fs, zi rn, .ref m_rf, .ref m_rr, .ref m_ik, .ref m_km, .ref m_kb, .ref m_kc, .ref m_kf, .ref m_kr])), (m_boat, .inl (y 0, 42, .inl (cI MB))), (m_coins, .inl (y 0, 144, .inl (cI MC)))] H ∧ va_D A [(m0, .inr (11, [.ref m_read, zi rl, zi rp, .ref m_gut, zi gl, zi gp, zi gx, zi gy, .ref m_text, zi tn, zi fn, .ref m_boat, .ref m_coins, zi w1, zi x1, zi z1, .ref m_rest, .ref m_ends, zl vc, .ref m_chan, .ref m_spl, zi fs, zi rn, .ref m_rf, .ref m_rr, .ref m_ik, .ref m_km, .ref m_kb, .ref m_kc, .ref m_kf, .ref m_kr])), (m_boat, .inl (y 0, 42, .inl (cI MB))), (m_coins, .inl (y 0, 144, .inl (cI MC)))] ∧ va_S A s.heap H lc) (fun x9  => match x9 with | (k, w1, x1, z1) => ((MB (7 * bq + 6) - k).toNat)) ?_ (0, 0, 0, 0) ⟨⟨by omega, rfl, rfl, rfl⟩, lv_sub hl [0, 1, 2, 3] rfl, hP.sub [0, 1, 2] rfl, hD.sub [0, 1, 2] (by decide) rfl, hS⟩
  rintro ⟨k, w1, x1, z1⟩ H lc ls ⟨hi17, hl, hP, hD, hS⟩ ih17
  have hP : va_P D vwCl [(m0, .inr (11, [.ref m_read, zi rl, zi rp, .ref m_gut, zi gl, zi gp, zi gx, zi gy, .ref m_text, zi tn, zi fn, .ref m_boat, .ref m_coins, zi w1, zi x1, zi z1, .ref m_rest, .ref m_ends, zl vc, .ref m_chan, .ref m_spl, zi fs, zi rn, .ref m_rf, .ref m_rr, .ref m_ik, .ref m_km, .ref m_kb, .ref m_kc, .ref m_kf, .ref m_kr])), (m_boat, .inl (y 0, 42, .inl (cI MB))), (m_coins, .inl (y 0, 144, .inl (cI MC)))] H := hP
  have hD : va_D A [(m0, .inr (11, [.ref m_read, zi rl, zi rp, .ref m_gut, zi gl, zi gp, zi gx, zi gy, .ref m_text, zi tn, zi fn, .ref m_boat, .ref m_coins, zi w1, zi x1, zi z1, .ref m_rest, .ref m_ends, zl vc, .ref m_chan, .ref m_spl, zi fs, zi rn, .ref m_rf, .ref m_rr, .ref m_ik, .ref m_km, .ref m_kb, .ref m_kc, .ref m_kf, .ref m_kr])), (m_boat, .inl (y 0, 42, .inl (cI MB))), (m_coins, .inl (y 0, 144, .inl (cI MC)))] := hD
  obtain ⟨j1, j2, j3, j4⟩ := hi17
  refine lv_iload_n hx hb dX12_layCoins_17 rfl (lv_at hl 0 rfl) ?_
  refine lv_aload_n hx hb dX12_layCoins_18 rfl (lv_at hl 1 rfl) ?_
  refine va_get hx hb hts hinX12 hown hK hP 0 rfl rfl 11 (by decide) k4 (fun _ h => h) rfl dX12_layCoins_19 ?_
  refine z_bipush hx hb dX12_layCoins_22 (by decide) ?_
  refine lv_iload_n hx hb dX12_layCoins_24 rfl (lv_at hl 2 rfl) ?_
  refine z_imul hx hb dX12_layCoins_25 ?_
  refine z_bipush hx hb dX12_layCoins_26 (by decide) ?_
  refine z_iadd hx hb dX12_layCoins_28 ?_
  refine z_iald hx hb hK hP 1 0 rfl rfl (by omega) (by decide) dX12_layCoins_29 ?_
  refine z_icmp_ge (tgt := 139) hx hb (by omega) (by omega) dX12_layCoins_30 (by decide) (fun c_30 => ?_) (fun c_30 => ?_)
  ·
    have e9 : k = MB (7 * bq + 6) := by omega
    rw [e9] at j2 j3 j4
    have e1 : bs (mCW MC bq) (MB (7 * bq + 6)) tq = w1 := j2.symm
    have e2 : bs (pullC ((MB (7 * bq)) - 2 * (MB (7 * bq + 3))) (mCI MC bq) (mCW MC bq)) (MB (7 * bq + 6)) tq = x1 := j3.symm
    have e3 : bs (pullC ((MB (7 * bq + 1)) - 2 * (MB (7 * bq + 3))) (mCJ MC bq) (mCW MC bq)) (MB (7 * bq + 6)) tq = z1 := j4.symm
    have hP : va_P D vwCl [(m0, .inr (11, [.ref m_read, zi rl, zi rp, .ref m_gut, zi gl, zi gp, zi gx, zi gy, .ref m_text, zi tn, zi fn, .ref m_boat, .ref m_coins, zi (bs (mCW MC bq) (MB (7 * bq + 6)) tq), zi x1, zi z1, .ref m_rest, .ref m_ends, zl vc, .ref m_chan, .ref m_spl, zi fs, zi rn, .ref m_rf, .ref m_rr, .ref m_ik, .ref m_km, .ref m_kb, .ref m_kc, .ref m_kf, .ref m_kr])), (m_boat, .inl (y 0, 42, .inl (cI MB))), (m_coins, .inl (y 0, 144, .inl (cI MC)))] H := by rw [show bs (mCW MC bq) (MB (7 * bq + 6)) tq = w1 by omega]; exact hP
    have hD : va_D A [(m0, .inr (11, [.ref m_read, zi rl, zi rp, .ref m_gut, zi gl, zi gp, zi gx, zi gy, .ref m_text, zi tn, zi fn, .ref m_boat, .ref m_coins, zi (bs (mCW MC bq) (MB (7 * bq + 6)) tq), zi x1, zi z1, .ref m_rest, .ref m_ends, zl vc, .ref m_chan, .ref m_spl, zi fs, zi rn, .ref m_rf, .ref m_rr, .ref m_ik, .ref m_km, .ref m_kb, .ref m_kc, .ref m_kf, .ref m_kr])), (m_boat, .inl (y 0, 42, .inl (cI MB))), (m_coins, .inl (y 0, 144, .inl (cI MC)))] := by rw [show bs (mCW MC bq) (MB (7 * bq + 6)) tq = w1 by omega]; exact hD
    have hP : va_P D vwCl [(m0, .inr (11, [.ref m_read, zi rl, zi rp, .ref m_gut, zi gl, zi gp, zi gx, zi gy, .ref m_text, zi tn, zi fn, .ref m_boat, .ref m_coins, zi (bs (mCW MC bq) (MB (7 * bq + 6)) tq), zi (bs (pullC ((MB (7 * bq)) - 2 * (MB (7 * bq + 3))) (mCI MC bq) (mCW MC bq)) (MB (7 * bq + 6)) tq), zi z1, .ref m_rest, .ref m_ends, zl vc, .ref m_chan, .ref m_spl, zi fs, zi rn, .ref m_rf, .ref m_rr, .ref m_ik, .ref m_km, .ref m_kb, .ref m_kc, .ref m_kf, .ref m_kr])), (m_boat, .inl (y 0, 42, .inl (cI MB))), (m_coins, .inl (y 0, 144, .inl (cI MC)))] H := by rw [show bs (pullC ((MB (7 * bq)) - 2 * (MB (7 * bq + 3))) (mCI MC bq) (mCW MC bq)) (MB (7 * bq + 6)) tq = x1 by omega]; exact hP
    have hD : va_D A [(m0, .inr (11, [.ref m_read, zi rl, zi rp, .ref m_gut, zi gl, zi gp, zi gx, zi gy, .ref m_text, zi tn, zi fn, .ref m_boat, .ref m_coins, zi (bs (mCW MC bq) (MB (7 * bq + 6)) tq), zi (bs (pullC ((MB (7 * bq)) - 2 * (MB (7 * bq + 3))) (mCI MC bq) (mCW MC bq)) (MB (7 * bq + 6)) tq), zi z1, .ref m_rest, .ref m_ends, zl vc, .ref m_chan, .ref m_spl, zi fs, zi rn, .ref m_rf, .ref m_rr, .ref m_ik, .ref m_km, .ref m_kb, .ref m_kc, .ref m_kf, .ref m_kr])), (m_boat, .inl (y 0, 42, .inl (cI MB))), (m_coins, .inl (y 0, 144, .inl (cI MC)))] := by rw [show bs (pullC ((MB (7 * bq)) - 2 * (MB (7 * bq + 3))) (mCI MC bq) (mCW MC bq)) (MB (7 * bq + 6)) tq = x1 by omega]; exact hD
    have hP : va_P D vwCl [(m0, .inr (11, [.ref m_read, zi rl, zi rp, .ref m_gut, zi gl, zi gp, zi gx, zi gy, .ref m_text, zi tn, zi fn, .ref m_boat, .ref m_coins, zi (bs (mCW MC bq) (MB (7 * bq + 6)) tq), zi (bs (pullC ((MB (7 * bq)) - 2 * (MB (7 * bq + 3))) (mCI MC bq) (mCW MC bq)) (MB (7 * bq + 6)) tq), zi (bs (pullC ((MB (7 * bq + 1)) - 2 * (MB (7 * bq + 3))) (mCJ MC bq) (mCW MC bq)) (MB (7 * bq + 6)) tq), .ref m_rest, .ref m_ends, zl vc, .ref m_chan, .ref m_spl, zi fs, zi rn, .ref m_rf, .ref m_rr, .ref m_ik, .ref m_km, .ref m_kb, .ref m_kc, .ref m_kf, .ref m_kr])), (m_boat, .inl (y 0, 42, .inl (cI MB))), (m_coins, .inl (y 0, 144, .inl (cI MC)))] H := by rw [show bs (pullC ((MB (7 * bq + 1)) - 2 * (MB (7 * bq + 3))) (mCJ MC bq) (mCW MC bq)) (MB (7 * bq + 6)) tq = z1 by omega]; exact hP
    have hD : va_D A [(m0, .inr (11, [.ref m_read, zi rl, zi rp, .ref m_gut, zi gl, zi gp, zi gx, zi gy, .ref m_text, zi tn, zi fn, .ref m_boat, .ref m_coins, zi (bs (mCW MC bq) (MB (7 * bq + 6)) tq), zi (bs (pullC ((MB (7 * bq)) - 2 * (MB (7 * bq + 3))) (mCI MC bq) (mCW MC bq)) (MB (7 * bq + 6)) tq), zi (bs (pullC ((MB (7 * bq + 1)) - 2 * (MB (7 * bq + 3))) (mCJ MC bq) (mCW MC bq)) (MB (7 * bq + 6)) tq), .ref m_rest, .ref m_ends, zl vc, .ref m_chan, .ref m_spl, zi fs, zi rn, .ref m_rf, .ref m_rr, .ref m_ik, .ref m_km, .ref m_kb, .ref m_kc, .ref m_kf, .ref m_kr])), (m_boat, .inl (y 0, 42, .inl (cI MB))), (m_coins, .inl (y 0, 144, .inl (cI MC)))] := by rw [show bs (pullC ((MB (7 * bq + 1)) - 2 * (MB (7 * bq + 3))) (mCJ MC bq) (mCW MC bq)) (MB (7 * bq + 6)) tq = z1 by omega]; exact hD
    exact z_vretW hx hb hr hlocks () rfl (trivial) (hP.sub [0, 1, 2] rfl) (hD.sub [0, 1, 2] (by decide) rfl) hS dX12_layCoins_139
  ·
    refine z_bipush hx hb dX12_layCoins_33 (by decide) ?_
    refine lv_iload_n hx hb dX12_layCoins_35 rfl (lv_at hl 2 rfl) ?_
    refine z_imul hx hb dX12_layCoins_36 ?_
    refine z_iconst hx hb dX12_layCoins_37 ?_
    refine lv_iload_n hx hb dX12_layCoins_38 rfl (lv_at hl 0 rfl) ?_
    refine z_imul hx hb dX12_layCoins_39 ?_
    refine z_iadd hx hb dX12_layCoins_40 ?_
    refine lv_istore (lv' := [(4, zi ((24 * bq) + (3 * k))), (3, zi k), (0, .ref m0), (1, zi bq), (2, zi tq)]) hx hb dX12_layCoins_41 hl (by decide) rfl (fun ls hl => ?_)
    refine lv_iload_n hx hb dX12_layCoins_43 rfl (lv_at hl 4 rfl) ?_
    refine lv_iload_n hx hb dX12_layCoins_44 rfl (lv_at hl 1 rfl) ?_
    refine z_ishr hx hb (by omega) dX12_layCoins_45 ?_
    refine z_iconst hx hb dX12_layCoins_46 ?_
    have b4 := Int.ediv_nonneg (a := tq) (b := 2 ^ k.toNat) (by omega) (Int.le_of_lt (two_pos _))
    have b5 := Int.ediv_le_self (a := tq) (2 ^ k.toNat) (by omega)
    refine z_iand1 hx hb (by omega) dX12_layCoins_47 ?_
    refine lv_aload_n hx hb dX12_layCoins_48 rfl (lv_at hl 2 rfl) ?_
    refine va_get hx hb hts hinX12 hown hK hP 0 rfl rfl 12 (by decide) k5 (fun _ h => h) rfl dX12_layCoins_49 ?_
    refine lv_iload hx hb dX12_layCoins_52 (lv_at hl 0 rfl) ?_
    refine z_iconst hx hb dX12_layCoins_54 ?_
    refine z_iadd hx hb dX12_layCoins_55 ?_
    refine z_iald hx hb hK hP 2 0 rfl rfl (by omega) (by decide) dX12_layCoins_56 ?_
    refine z_imul hx hb dX12_layCoins_57 ?_
    refine lv_istore (lv' := [(5, zi (((tq / 2 ^ k.toNat) % 2) * (MC (((24 * bq) + (3 * k)) + 2)))), (4, zi ((24 * bq) + (3 * k))), (3, zi k), (0, .ref m0), (1, zi bq), (2, zi tq)]) hx hb dX12_layCoins_58 hl (by decide) rfl (fun ls hl => ?_)
    refine lv_aload_n hx hb dX12_layCoins_60 rfl (lv_at hl 3 rfl) ?_
    refine lv_dup hx hb dX12_layCoins_61 rfl ?_
    refine va_get hx hb hts hinX12 hown hK hP 0 rfl rfl 13 (by decide) k1 (fun _ h => h) rfl dX12_layCoins_62 ?_
    refine lv_iload hx hb dX12_layCoins_65 (lv_at hl 0 rfl) ?_
    refine z_iadd hx hb dX12_layCoins_67 ?_
    refine va_put hx hb hts hinX12 tyX12 tyX12_ok nmX12 hown hK hP hD hS 0 rfl rfl 13 (by decide) k1 (fun _ h => h) rfl (tyX12_ok 13 (by decide)) rfl rfl (Nat.le_of_ble_eq_true rfl) dX12_layCoins_68 (fun H locs hP hD hS => ?_)
    have hP : va_P D vwCl [(m0, .inr (11, [.ref m_read, zi rl, zi rp, .ref m_gut, zi gl, zi gp, zi gx, zi gy, .ref m_text, zi tn, zi fn, .ref m_boat, .ref m_coins, zi (w1 + (((tq / 2 ^ k.toNat) % 2) * (MC (((24 * bq) + (3 * k)) + 2)))), zi x1, zi z1, .ref m_rest, .ref m_ends, zl vc, .ref m_chan, .ref m_spl, zi fs, zi rn, .ref m_rf, .ref m_rr, .ref m_ik, .ref m_km, .ref m_kb, .ref m_kc, .ref m_kf, .ref m_kr])), (m_boat, .inl (y 0, 42, .inl (cI MB))), (m_coins, .inl (y 0, 144, .inl (cI MC)))] H := hP
    have hD : va_D A [(m0, .inr (11, [.ref m_read, zi rl, zi rp, .ref m_gut, zi gl, zi gp, zi gx, zi gy, .ref m_text, zi tn, zi fn, .ref m_boat, .ref m_coins, zi (w1 + (((tq / 2 ^ k.toNat) % 2) * (MC (((24 * bq) + (3 * k)) + 2)))), zi x1, zi z1, .ref m_rest, .ref m_ends, zl vc, .ref m_chan, .ref m_spl, zi fs, zi rn, .ref m_rf, .ref m_rr, .ref m_ik, .ref m_km, .ref m_kb, .ref m_kc, .ref m_kf, .ref m_kr])), (m_boat, .inl (y 0, 42, .inl (cI MB))), (m_coins, .inl (y 0, 144, .inl (cI MC)))] := hD
    refine lv_aload_n hx hb dX12_layCoins_71 rfl (lv_at hl 3 rfl) ?_
    refine lv_dup hx hb dX12_layCoins_72 rfl ?_
    refine va_get hx hb hts hinX12 hown hK hP 0 rfl rfl 14 (by decide) k2 (fun _ h => h) rfl dX12_layCoins_73 ?_
    refine lv_iload hx hb dX12_layCoins_76 (lv_at hl 0 rfl) ?_
    refine z_iconst hx hb dX12_layCoins_78 ?_
    refine lv_aload_n hx hb dX12_layCoins_79 rfl (lv_at hl 3 rfl) ?_
    refine va_get hx hb hts hinX12 hown hK hP 0 rfl rfl 12 (by decide) k5 (fun _ h => h) rfl dX12_layCoins_80 ?_
    refine lv_iload hx hb dX12_layCoins_83 (lv_at hl 1 rfl) ?_
    refine z_iald hx hb hK hP 2 0 rfl rfl (by omega) (by decide) dX12_layCoins_85 ?_
    refine z_imul hx hb dX12_layCoins_86 ?_
    refine z_iconst hx hb dX12_layCoins_87 ?_
    refine z_iadd hx hb dX12_layCoins_88 ?_
    refine lv_aload_n hx hb dX12_layCoins_89 rfl (lv_at hl 3 rfl) ?_
    refine lv_iload_n hx hb dX12_layCoins_90 rfl (lv_at hl 4 rfl) ?_
    refine z_iconst hx hb dX12_layCoins_91 ?_
    refine z_pV (As := [zi bq, zi 0]) (rest := [zi ((2 * (MC ((24 * bq) + (3 * k)))) + 1), zi (((tq / 2 ^ k.toNat) % 2) * (MC (((24 * bq) + (3 * k)) + 2))), zi x1, .ref m0]) hC (c_X12_wide_0 l D y m0 m_read rl rp m_gut gl gp gx gy m_text tn fn m_boat m_coins (w1 + (((tq / 2 ^ k.toNat) % 2) * (MC (((24 * bq) + (3 * k)) + 2)))) x1 z1 m_rest m_ends vc m_chan m_spl fs rn m_rf m_rr m_ik m_km m_kb m_kc m_kf m_kr MB MC bq (by first | assumption | omega) (by first | assumption | omega)) (cwV 2 hts gX12_layCoins_X12_wide rfl rfl rfl (by decide +kernel) ⟨Nat.le_of_ble_eq_true rfl, Nat.le_of_ble_eq_true rfl⟩) hG (hP.sub (ws' := [(m0, .inr (11, [.ref m_read, zi rl, zi rp, .ref m_gut, zi gl, zi gp, zi gx, zi gy, .ref m_text, zi tn, zi fn, .ref m_boat, .ref m_coins, zi (w1 + (((tq / 2 ^ k.toNat) % 2) * (MC (((24 * bq) + (3 * k)) + 2)))), zi x1, zi z1, .ref m_rest, .ref m_ends, zl vc, .ref m_chan, .ref m_spl, zi fs, zi rn, .ref m_rf, .ref m_rr, .ref m_ik, .ref m_km, .ref m_kb, .ref m_kc, .ref m_kf, .ref m_kr])), (m_boat, .inl (y 0, 42, .inl (cI MB))), (m_coins, .inl (y 0, 144, .inl (cI MC)))]) [0, 1, 2] rfl) 0 rfl rfl rfl hl.1 rfl (Nat.le_of_ble_eq_true rfl) dX12_layCoins_92 ⟨Nat.le_of_ble_eq_true rfl, Nat.le_of_ble_eq_true rfl⟩ ?_
    refine z_isub hx hb dX12_layCoins_95 ?_
    refine z_imul hx hb dX12_layCoins_96 ?_
    refine z_iadd hx hb dX12_layCoins_97 ?_
    refine va_put hx hb hts hinX12 tyX12 tyX12_ok nmX12 hown hK hP hD hS 0 rfl rfl 14 (by decide) k2 (fun _ h => h) rfl (tyX12_ok 14 (by decide)) rfl rfl (Nat.le_of_ble_eq_true rfl) dX12_layCoins_98 (fun H locs hP hD hS => ?_)
    have hP : va_P D vwCl [(m0, .inr (11, [.ref m_read, zi rl, zi rp, .ref m_gut, zi gl, zi gp, zi gx, zi gy, .ref m_text, zi tn, zi fn, .ref m_boat, .ref m_coins, zi (w1 + (((tq / 2 ^ k.toNat) % 2) * (MC (((24 * bq) + (3 * k)) + 2)))), zi (x1 + ((((tq / 2 ^ k.toNat) % 2) * (MC (((24 * bq) + (3 * k)) + 2))) * (((2 * (MC ((24 * bq) + (3 * k)))) + 1) - ((MB (7 * bq)) - 2 * (MB (7 * bq + 3)))))), zi z1, .ref m_rest, .ref m_ends, zl vc, .ref m_chan, .ref m_spl, zi fs, zi rn, .ref m_rf, .ref m_rr, .ref m_ik, .ref m_km, .ref m_kb, .ref m_kc, .ref m_kf, .ref m_kr])), (m_boat, .inl (y 0, 42, .inl (cI MB))), (m_coins, .inl (y 0, 144, .inl (cI MC)))] H := hP
    have hD : va_D A [(m0, .inr (11, [.ref m_read, zi rl, zi rp, .ref m_gut, zi gl, zi gp, zi gx, zi gy, .ref m_text, zi tn, zi fn, .ref m_boat, .ref m_coins, zi (w1 + (((tq / 2 ^ k.toNat) % 2) * (MC (((24 * bq) + (3 * k)) + 2)))), zi (x1 + ((((tq / 2 ^ k.toNat) % 2) * (MC (((24 * bq) + (3 * k)) + 2))) * (((2 * (MC ((24 * bq) + (3 * k)))) + 1) - ((MB (7 * bq)) - 2 * (MB (7 * bq + 3)))))), zi z1, .ref m_rest, .ref m_ends, zl vc, .ref m_chan, .ref m_spl, zi fs, zi rn, .ref m_rf, .ref m_rr, .ref m_ik, .ref m_km, .ref m_kb, .ref m_kc, .ref m_kf, .ref m_kr])), (m_boat, .inl (y 0, 42, .inl (cI MB))), (m_coins, .inl (y 0, 144, .inl (cI MC)))] := hD
    refine lv_aload_n hx hb dX12_layCoins_101 rfl (lv_at hl 3 rfl) ?_
    refine lv_dup hx hb dX12_layCoins_102 rfl ?_
    refine va_get hx hb hts hinX12 hown hK hP 0 rfl rfl 15 (by decide) k3 (fun _ h => h) rfl dX12_layCoins_103 ?_
    refine lv_iload hx hb dX12_layCoins_106 (lv_at hl 0 rfl) ?_
    refine z_iconst hx hb dX12_layCoins_108 ?_
    refine lv_aload_n hx hb dX12_layCoins_109 rfl (lv_at hl 3 rfl) ?_
    refine va_get hx hb hts hinX12 hown hK hP 0 rfl rfl 12 (by decide) k5 (fun _ h => h) rfl dX12_layCoins_110 ?_
    refine lv_iload hx hb dX12_layCoins_113 (lv_at hl 1 rfl) ?_
    refine z_iconst hx hb dX12_layCoins_115 ?_
    refine z_iadd hx hb dX12_layCoins_116 ?_
    refine z_iald hx hb hK hP 2 0 rfl rfl (by omega) (by decide) dX12_layCoins_117 ?_
    refine z_imul hx hb dX12_layCoins_118 ?_
    refine z_iconst hx hb dX12_layCoins_119 ?_
    refine z_iadd hx hb dX12_layCoins_120 ?_
    refine lv_aload_n hx hb dX12_layCoins_121 rfl (lv_at hl 3 rfl) ?_
    refine lv_iload_n hx hb dX12_layCoins_122 rfl (lv_at hl 4 rfl) ?_
    refine z_iconst hx hb dX12_layCoins_123 ?_
    refine z_pV (As := [zi bq, zi 1]) (rest := [zi ((2 * (MC (((24 * bq) + (3 * k)) + 1))) + 1), zi (((tq / 2 ^ k.toNat) % 2) * (MC (((24 * bq) + (3 * k)) + 2))), zi z1, .ref m0]) hC (c_X12_wide_1 l D y m0 m_read rl rp m_gut gl gp gx gy m_text tn fn m_boat m_coins (w1 + (((tq / 2 ^ k.toNat) % 2) * (MC (((24 * bq) + (3 * k)) + 2)))) (x1 + ((((tq / 2 ^ k.toNat) % 2) * (MC (((24 * bq) + (3 * k)) + 2))) * (((2 * (MC ((24 * bq) + (3 * k)))) + 1) - ((MB (7 * bq)) - 2 * (MB (7 * bq + 3)))))) z1 m_rest m_ends vc m_chan m_spl fs rn m_rf m_rr m_ik m_km m_kb m_kc m_kf m_kr MB MC bq (by first | assumption | omega) (by first | assumption | omega)) (cwV 2 hts gX12_layCoins_X12_wide rfl rfl rfl (by decide +kernel) ⟨Nat.le_of_ble_eq_true rfl, Nat.le_of_ble_eq_true rfl⟩) hG (hP.sub (ws' := [(m0, .inr (11, [.ref m_read, zi rl, zi rp, .ref m_gut, zi gl, zi gp, zi gx, zi gy, .ref m_text, zi tn, zi fn, .ref m_boat, .ref m_coins, zi (w1 + (((tq / 2 ^ k.toNat) % 2) * (MC (((24 * bq) + (3 * k)) + 2)))), zi (x1 + ((((tq / 2 ^ k.toNat) % 2) * (MC (((24 * bq) + (3 * k)) + 2))) * (((2 * (MC ((24 * bq) + (3 * k)))) + 1) - ((MB (7 * bq)) - 2 * (MB (7 * bq + 3)))))), zi z1, .ref m_rest, .ref m_ends, zl vc, .ref m_chan, .ref m_spl, zi fs, zi rn, .ref m_rf, .ref m_rr, .ref m_ik, .ref m_km, .ref m_kb, .ref m_kc, .ref m_kf, .ref m_kr])), (m_boat, .inl (y 0, 42, .inl (cI MB))), (m_coins, .inl (y 0, 144, .inl (cI MC)))]) [0, 1, 2] rfl) 0 rfl rfl rfl hl.1 rfl (Nat.le_of_ble_eq_true rfl) dX12_layCoins_124 ⟨Nat.le_of_ble_eq_true rfl, Nat.le_of_ble_eq_true rfl⟩ ?_
    refine z_isub hx hb dX12_layCoins_127 ?_
    refine z_imul hx hb dX12_layCoins_128 ?_
    refine z_iadd hx hb dX12_layCoins_129 ?_
    refine va_put hx hb hts hinX12 tyX12 tyX12_ok nmX12 hown hK hP hD hS 0 rfl rfl 15 (by decide) k3 (fun _ h => h) rfl (tyX12_ok 15 (by decide)) rfl rfl (Nat.le_of_ble_eq_true rfl) dX12_layCoins_130 (fun H locs hP hD hS => ?_)
    have hP : va_P D vwCl [(m0, .inr (11, [.ref m_read, zi rl, zi rp, .ref m_gut, zi gl, zi gp, zi gx, zi gy, .ref m_text, zi tn, zi fn, .ref m_boat, .ref m_coins, zi (w1 + (((tq / 2 ^ k.toNat) % 2) * (MC (((24 * bq) + (3 * k)) + 2)))), zi (x1 + ((((tq / 2 ^ k.toNat) % 2) * (MC (((24 * bq) + (3 * k)) + 2))) * (((2 * (MC ((24 * bq) + (3 * k)))) + 1) - ((MB (7 * bq)) - 2 * (MB (7 * bq + 3)))))), zi (z1 + ((((tq / 2 ^ k.toNat) % 2) * (MC (((24 * bq) + (3 * k)) + 2))) * (((2 * (MC (((24 * bq) + (3 * k)) + 1))) + 1) - ((MB (7 * bq + 1)) - 2 * (MB (7 * bq + 3)))))), .ref m_rest, .ref m_ends, zl vc, .ref m_chan, .ref m_spl, zi fs, zi rn, .ref m_rf, .ref m_rr, .ref m_ik, .ref m_km, .ref m_kb, .ref m_kc, .ref m_kf, .ref m_kr])), (m_boat, .inl (y 0, 42, .inl (cI MB))), (m_coins, .inl (y 0, 144, .inl (cI MC)))] H := hP
    have hD : va_D A [(m0, .inr (11, [.ref m_read, zi rl, zi rp, .ref m_gut, zi gl, zi gp, zi gx, zi gy, .ref m_text, zi tn, zi fn, .ref m_boat, .ref m_coins, zi (w1 + (((tq / 2 ^ k.toNat) % 2) * (MC (((24 * bq) + (3 * k)) + 2)))), zi (x1 + ((((tq / 2 ^ k.toNat) % 2) * (MC (((24 * bq) + (3 * k)) + 2))) * (((2 * (MC ((24 * bq) + (3 * k)))) + 1) - ((MB (7 * bq)) - 2 * (MB (7 * bq + 3)))))), zi (z1 + ((((tq / 2 ^ k.toNat) % 2) * (MC (((24 * bq) + (3 * k)) + 2))) * (((2 * (MC (((24 * bq) + (3 * k)) + 1))) + 1) - ((MB (7 * bq + 1)) - 2 * (MB (7 * bq + 3)))))), .ref m_rest, .ref m_ends, zl vc, .ref m_chan, .ref m_spl, zi fs, zi rn, .ref m_rf, .ref m_rr, .ref m_ik, .ref m_km, .ref m_kb, .ref m_kc, .ref m_kf, .ref m_kr])), (m_boat, .inl (y 0, 42, .inl (cI MB))), (m_coins, .inl (y 0, 144, .inl (cI MC)))] := hD
    refine z_iinc (k := 2) (lv' := [(3, zi (k + 1)), (5, zi (((tq / 2 ^ k.toNat) % 2) * (MC (((24 * bq) + (3 * k)) + 2)))), (4, zi ((24 * bq) + (3 * k))), (0, .ref m0), (1, zi bq), (2, zi tq)]) hx hb dX12_layCoins_133 hl rfl (by decide) rfl (fun ls hl => ?_)
    refine lv_goto (tgt := 17) hx hb dX12_layCoins_136 (by decide) ?_
    exact ih17 (k + 1, w1 + (((tq / 2 ^ k.toNat) % 2) * (MC (((24 * bq) + (3 * k)) + 2))), x1 + ((((tq / 2 ^ k.toNat) % 2) * (MC (((24 * bq) + (3 * k)) + 2))) * (((2 * (MC ((24 * bq) + (3 * k)))) + 1) - ((MB (7 * bq)) - 2 * (MB (7 * bq + 3))))), z1 + ((((tq / 2 ^ k.toNat) % 2) * (MC (((24 * bq) + (3 * k)) + 2))) * (((2 * (MC (((24 * bq) + (3 * k)) + 1))) + 1) - ((MB (7 * bq + 1)) - 2 * (MB (7 * bq + 3)))))) _ _ _ (by first | (dsimp only; omega) | omega) ⟨⟨by omega, by rw [sgI_s _ j1.1, ← j2]; rfl, by rw [sgI_s _ j1.1, ← j3, Int.mul_assoc]; rfl, by rw [sgI_s _ j1.1, ← j4, Int.mul_assoc]; rfl⟩, lv_sub hl [0, 3, 4, 5] rfl, hP.sub [0, 1, 2] rfl, hD.sub [0, 1, 2] (by decide) rfl, hS⟩
set_option maxHeartbeats 8000000 in
set_option maxRecDepth 100000 in
theorem c_X12_about_no (l : Launch) (D : va_G) (y : Nat → ClassId) (m0 : Nat) (m_read : Nat) (rl : Int) (rp : Int) (m_gut : Nat) (gl : Int) (gp : Int) (gx : Int) (gy : Int) (m_text : Nat) (tn : Int) (fn : Int) (m_boat : Nat) (m_coins : Nat) (vw : Int) (vm : Int) (vn : Int) (m_rest : Nat) (m_ends : Nat) (vc : Int) (m_chan : Nat) (m_spl : Nat) (fs : Int) (rn : Int) (m_rf : Nat) (m_rr : Nat) (m_ik : Nat) (m_km : Nat) (m_kb : Nat) (m_kc : Nat) (m_kf : Nat) (m_kr : Nat) (bq : Int) (wq : Int) (hbq : rI bq ∧ 0 ≤ fn ∧ fn ≤ 6 ∧ ¬ (0 ≤ bq ∧ bq < fn)) : Met l yX12_about wsX12_about ({ frames := 2, cells := 0, slots := 0, locals := 46 } : Room) (pPc D y [(m0, .inr (11, [.ref m_read, zi rl, zi rp, .ref m_gut, zi gl, zi gp, zi gx, zi gy, .ref m_text, zi tn, zi fn, .ref m_boat, .ref m_coins, zi vw, zi vm, zi vn, .ref m_rest, .ref m_ends, zl vc, .ref m_chan, .ref m_spl, zi fs, zi rn, .ref m_rf, .ref m_rr, .ref m_ik, .ref m_km, .ref m_kb, .ref m_kc, .ref m_kf, .ref m_kr]))] [.ref m0, zi bq, zi wq]) (qV (zi (-1))) 0 0 (fun _ => False) := by
  refine P_of (own := RX12) (cc := cX12_about) (maxL := 3) (ret := some .int) (by decide) rfl rfl (Nat.le_of_ble_eq_true rfl) (fun p e s m below meth c ls hx hb hr hC hlocks hPr hG hl => ?_)
  have hC0 := hC
  obtain ⟨-, -, hml, hown, hts⟩ := hC0
  have hK := hG.1
  have hl : lv_has ls 3 [(0, .ref m0), (1, zi bq), (2, zi wq)] := hl
  refine lv_aload_n hx hb dX12_about_0 rfl (lv_at hl 0 rfl) ?_
  refine lv_iload_n hx hb dX12_about_1 rfl (lv_at hl 1 rfl) ?_
  refine z_pV (As := [zi bq]) (rest := []) hC (c_X12_isBoat l D y m0 m_read rl rp m_gut gl gp gx gy m_text tn fn m_boat m_coins vw vm vn m_rest m_ends vc m_chan m_spl fs rn m_rf m_rr m_ik m_km m_kb m_kc m_kf m_kr bq (by first | assumption | omega) (by first | assumption | omega)) (cwV 1 hts gX12_about_X12_isBoat rfl rfl rfl (by decide +kernel) ⟨Nat.le_of_ble_eq_true rfl, Nat.le_of_ble_eq_true rfl⟩) hG (hPr.sub (ws' := [(m0, .inr (11, [.ref m_read, zi rl, zi rp, .ref m_gut, zi gl, zi gp, zi gx, zi gy, .ref m_text, zi tn, zi fn, .ref m_boat, .ref m_coins, zi vw, zi vm, zi vn, .ref m_rest, .ref m_ends, zl vc, .ref m_chan, .ref m_spl, zi fs, zi rn, .ref m_rf, .ref m_rr, .ref m_ik, .ref m_km, .ref m_kb, .ref m_kc, .ref m_kf, .ref m_kr]))]) [0] rfl) 0 rfl rfl rfl hl.1 rfl (Nat.le_of_ble_eq_true rfl) dX12_about_2 ⟨Nat.le_of_ble_eq_true rfl, Nat.le_of_ble_eq_true rfl⟩ ?_
  refine z_ifB_ne (tgt := 10) hx hb dX12_about_5 (by decide) (fun c_5 => ?_) (fun c_5 => ?_)
  · exfalso; omega
  ·
    refine z_iconst hx hb dX12_about_8 ?_
    exact z_iret0 hx hb hr hlocks (rfl) dX12_about_9
set_option maxHeartbeats 8000000 in
set_option maxRecDepth 100000 in
theorem c_X12_about (l : Launch) (D : va_G) (y : Nat → ClassId) (m0 : Nat) (m_read : Nat) (rl : Int) (rp : Int) (m_gut : Nat) (gl : Int) (gp : Int) (gx : Int) (gy : Int) (m_text : Nat) (tn : Int) (fn : Int) (m_boat : Nat) (m_coins : Nat) (vw : Int) (vm : Int) (vn : Int) (m_rest : Nat) (m_ends : Nat) (vc : Int) (m_chan : Nat) (m_spl : Nat) (fs : Int) (rn : Int) (m_rf : Nat) (m_rr : Nat) (m_ik : Nat) (m_km : Nat) (m_kb : Nat) (m_kc : Nat) (m_kf : Nat) (m_kr : Nat) (MB : Int → Int) (MC : Int → Int) (bq : Int) (wq : Int) (hM : mbOK fn MB MC) (hbq : 0 ≤ bq ∧ bq < fn) (hwq : rI wq) (sz : Nat) : Met l yX12_about wsX12_about ({ frames := 2, cells := 0, slots := 0, locals := 47 } : Room) (wPc D y [] [(m0, .inr (11, [.ref m_read, zi rl, zi rp, .ref m_gut, zi gl, zi gp, zi gx, zi gy, .ref m_text, zi tn, zi fn, .ref m_boat, .ref m_coins, zi vw, zi vm, zi vn, .ref m_rest, .ref m_ends, zl vc, .ref m_chan, .ref m_spl, zi fs, zi rn, .ref m_rf, .ref m_rr, .ref m_ik, .ref m_km, .ref m_kb, .ref m_kc, .ref m_kf, .ref m_kr])), (m_boat, .inl (y 0, 42, .inl (cI MB))), (m_coins, .inl (y 0, 144, .inl (cI MC)))] sz [.ref m0, zi bq, zi wq]) (wQ D (fun (_ : Unit) => some (zi (abV (MB (7 * bq)) (MB (7 * bq + 1)) (MB (7 * bq + 2)) (MB (7 * bq + 3)) (MB (7 * bq + 4)) (MB (7 * bq + 5)) (MB (7 * bq + 6)) (momV (MB (7 * bq + 6)) ((MB (7 * bq)) - 2 * (MB (7 * bq + 3))) (mCI MC bq) (mCW MC bq)) (momV (MB (7 * bq + 6)) ((MB (7 * bq + 1)) - 2 * (MB (7 * bq + 3))) (mCJ MC bq) (mCW MC bq)) wq))) (fun (_ : Unit) => True) (fun (_ : Unit) => [(m0, .inr (11, [.ref m_read, zi rl, zi rp, .ref m_gut, zi gl, zi gp, zi gx, zi gy, .ref m_text, zi tn, zi fn, .ref m_boat, .ref m_coins, zi (bs (mCW MC bq) (MB (7 * bq + 6)) (1 * 2 ^ (MB (7 * bq + 6)).toNat - 1)), zi (bs (pullC ((MB (7 * bq)) - 2 * (MB (7 * bq + 3))) (mCI MC bq) (mCW MC bq)) (MB (7 * bq + 6)) (1 * 2 ^ (MB (7 * bq + 6)).toNat - 1)), zi (bs (pullC ((MB (7 * bq + 1)) - 2 * (MB (7 * bq + 3))) (mCJ MC bq) (mCW MC bq)) (MB (7 * bq + 6)) (1 * 2 ^ (MB (7 * bq + 6)).toNat - 1)), .ref m_rest, .ref m_ends, zl vc, .ref m_chan, .ref m_spl, zi fs, zi rn, .ref m_rf, .ref m_rr, .ref m_ik, .ref m_km, .ref m_kb, .ref m_kc, .ref m_kf, .ref m_kr])), (m_boat, .inl (y 0, 42, .inl (cI MB))), (m_coins, .inl (y 0, 144, .inl (cI MC)))]) (va_A [(m0, .inr (11, [.ref m_read, zi rl, zi rp, .ref m_gut, zi gl, zi gp, zi gx, zi gy, .ref m_text, zi tn, zi fn, .ref m_boat, .ref m_coins, zi vw, zi vm, zi vn, .ref m_rest, .ref m_ends, zl vc, .ref m_chan, .ref m_spl, zi fs, zi rn, .ref m_rf, .ref m_rr, .ref m_ik, .ref m_km, .ref m_kb, .ref m_kc, .ref m_kf, .ref m_kr])), (m_boat, .inl (y 0, 42, .inl (cI MB))), (m_coins, .inl (y 0, 144, .inl (cI MC)))] sz)) 0 0 (va_A [(m0, .inr (11, [.ref m_read, zi rl, zi rp, .ref m_gut, zi gl, zi gp, zi gx, zi gy, .ref m_text, zi tn, zi fn, .ref m_boat, .ref m_coins, zi vw, zi vm, zi vn, .ref m_rest, .ref m_ends, zl vc, .ref m_chan, .ref m_spl, zi fs, zi rn, .ref m_rf, .ref m_rr, .ref m_ik, .ref m_km, .ref m_kb, .ref m_kc, .ref m_kf, .ref m_kr])), (m_boat, .inl (y 0, 42, .inl (cI MB))), (m_coins, .inl (y 0, 144, .inl (cI MC)))] sz) := by
  refine W_of (own := RX12) (cc := cX12_about) (maxL := 3) (ret := some .int) (by decide) rfl rfl (Nat.le_of_ble_eq_true rfl) (fun p e s m below meth c ls A hx hb hr hC hlocks hin0 hR0 hN hP hD hA hG hl => ?_)
  have hC0 := hC
  obtain ⟨-, -, hml, hown, hts⟩ := hC0
  have hK := hG.1
  have hS : va_S A s.heap s.heap [] := va_S.rf
  have hPr := hR0
  have hinX12 : ∀ w ∈ wsX120, w ∈ wsX12_about := fun _ h => List.mem_cons_of_mem _ (List.mem_append_right _ h)
  have k1 := hts (.fieldLink RX12 19 "BoatsOfPaperModel" "boat" "[I") (List.mem_of_getElem? (i := 1) rfl)
  have k2 := hts (.constant RX12 150 (100000)) (List.mem_of_getElem? (i := 2) rfl)
  have k3 := hts (.fieldLink RX12 137 "BoatsOfPaperModel" "momentM" "I") (List.mem_of_getElem? (i := 3) rfl)
  have k4 := hts (.fieldLink RX12 140 "BoatsOfPaperModel" "momentN" "I") (List.mem_of_getElem? (i := 4) rfl)
  have hl : lv_has ls 3 [(0, .ref m0), (1, zi bq), (2, zi wq)] := hl
  have hB := hM.2 bq hbq.1 hbq.2
  obtain ⟨q1, q2, q3, q4, q5, q6, q7, q8, q9, qc⟩ := id hB
  have qf := hM.1
  have b2 := pow8 (k := MB (7 * bq + 6)) (by omega)
  have b3 := bOK_set hB (1 * 2 ^ (MB (7 * bq + 6)).toNat - 1)
  have b4 := bOK_lwt hB
  have b1 := bOK_cells hB
  refine lv_aload_n hx hb dX12_about_0 rfl (lv_at hl 0 rfl) ?_
  refine lv_iload_n hx hb dX12_about_1 rfl (lv_at hl 1 rfl) ?_
  refine z_pV (As := [zi bq]) (rest := []) hC (c_X12_isBoat l D y m0 m_read rl rp m_gut gl gp gx gy m_text tn fn m_boat m_coins vw vm vn m_rest m_ends vc m_chan m_spl fs rn m_rf m_rr m_ik m_km m_kb m_kc m_kf m_kr bq (by first | assumption | omega) (by first | assumption | omega)) (cwV 1 hts gX12_about_X12_isBoat rfl rfl rfl (by decide +kernel) ⟨Nat.le_of_ble_eq_true rfl, Nat.le_of_ble_eq_true rfl⟩) hG (hP.sub (ws' := [(m0, .inr (11, [.ref m_read, zi rl, zi rp, .ref m_gut, zi gl, zi gp, zi gx, zi gy, .ref m_text, zi tn, zi fn, .ref m_boat, .ref m_coins, zi vw, zi vm, zi vn, .ref m_rest, .ref m_ends, zl vc, .ref m_chan, .ref m_spl, zi fs, zi rn, .ref m_rf, .ref m_rr, .ref m_ik, .ref m_km, .ref m_kb, .ref m_kc, .ref m_kf, .ref m_kr]))]) [0] rfl) 0 rfl rfl rfl hl.1 rfl (Nat.le_of_ble_eq_true rfl) dX12_about_2 ⟨Nat.le_of_ble_eq_true rfl, Nat.le_of_ble_eq_true rfl⟩ ?_
  refine z_ifB_ne (tgt := 10) hx hb dX12_about_5 (by decide) (fun c_5 => ?_) (fun c_5 => ?_)
  ·
    refine lv_aload_n hx hb dX12_about_10 rfl (lv_at hl 0 rfl) ?_
    refine lv_iload_n hx hb dX12_about_11 rfl (lv_at hl 1 rfl) ?_
    refine lv_aload_n hx hb dX12_about_12 rfl (lv_at hl 0 rfl) ?_
    refine lv_iload_n hx hb dX12_about_13 rfl (lv_at hl 1 rfl) ?_
    refine z_pV (As := [zi bq]) (rest := [zi bq, .ref m0]) hC (c_X12_all l D y m0 m_read rl rp m_gut gl gp gx gy m_text tn fn m_boat m_coins vw vm vn m_rest m_ends vc m_chan m_spl fs rn m_rf m_rr m_ik m_km m_kb m_kc m_kf m_kr MB MC bq (by first | assumption | omega) (by first | assumption | omega)) (cwV 1 hts gX12_about_X12_all rfl rfl rfl (by decide +kernel) ⟨Nat.le_of_ble_eq_true rfl, Nat.le_of_ble_eq_true rfl⟩) hG (hP.sub (ws' := [(m0, .inr (11, [.ref m_read, zi rl, zi rp, .ref m_gut, zi gl, zi gp, zi gx, zi gy, .ref m_text, zi tn, zi fn, .ref m_boat, .ref m_coins, zi vw, zi vm, zi vn, .ref m_rest, .ref m_ends, zl vc, .ref m_chan, .ref m_spl, zi fs, zi rn, .ref m_rf, .ref m_rr, .ref m_ik, .ref m_km, .ref m_kb, .ref m_kc, .ref m_kf, .ref m_kr])), (m_boat, .inl (y 0, 42, .inl (cI MB))), (m_coins, .inl (y 0, 144, .inl (cI MC)))]) [0, 1, 2] rfl) 0 rfl rfl rfl hl.1 rfl (Nat.le_of_ble_eq_true rfl) dX12_about_14 ⟨Nat.le_of_ble_eq_true rfl, Nat.le_of_ble_eq_true rfl⟩ ?_
    refine z_wV (As := [zi bq, zi (1 * 2 ^ (MB (7 * bq + 6)).toNat - 1)]) (rest := []) (wc := [(m0, .inr (11, [.ref m_read, zi rl, zi rp, .ref m_gut, zi gl, zi gp, zi gx, zi gy, .ref m_text, zi tn, zi fn, .ref m_boat, .ref m_coins, zi vw, zi vm, zi vn, .ref m_rest, .ref m_ends, zl vc, .ref m_chan, .ref m_spl, zi fs, zi rn, .ref m_rf, .ref m_rr, .ref m_ik, .ref m_km, .ref m_kb, .ref m_kc, .ref m_kf, .ref m_kr])), (m_boat, .inl (y 0, 42, .inl (cI MB))), (m_coins, .inl (y 0, 144, .inl (cI MC)))]) (wrest := []) hC (c_X12_layCoins l D y m0 m_read rl rp m_gut gl gp gx gy m_text tn fn m_boat m_coins vw vm vn m_rest m_ends vc m_chan m_spl fs rn m_rf m_rr m_ik m_km m_kb m_kc m_kf m_kr MB MC bq (1 * 2 ^ (MB (7 * bq + 6)).toNat - 1) (by first | assumption | omega) (by first | assumption | omega) (by first | assumption | omega) _) (cwV 2 hts gX12_about_X12_layCoins rfl rfl rfl (by decide +kernel) ⟨Nat.le_of_ble_eq_true rfl, Nat.le_of_ble_eq_true rfl⟩) hG hP hD hS hA [0, 1, 2] [] rfl rfl (by decide) (by decide) (by decide) va_P_nil ro_nil 0 rfl rfl rfl hl.1 rfl (Nat.le_of_ble_eq_true rfl) dX12_about_17 ⟨Nat.le_of_ble_eq_true rfl, Nat.le_of_ble_eq_true rfl⟩ (fun u9 H locs hw_1 hP hD hS => ?_)
    have hw_1 : True := hw_1
    have hP : va_P D vwCl [(m0, .inr (11, [.ref m_read, zi rl, zi rp, .ref m_gut, zi gl, zi gp, zi gx, zi gy, .ref m_text, zi tn, zi fn, .ref m_boat, .ref m_coins, zi (bs (mCW MC bq) (MB (7 * bq + 6)) (1 * 2 ^ (MB (7 * bq + 6)).toNat - 1)), zi (bs (pullC ((MB (7 * bq)) - 2 * (MB (7 * bq + 3))) (mCI MC bq) (mCW MC bq)) (MB (7 * bq + 6)) (1 * 2 ^ (MB (7 * bq + 6)).toNat - 1)), zi (bs (pullC ((MB (7 * bq + 1)) - 2 * (MB (7 * bq + 3))) (mCJ MC bq) (mCW MC bq)) (MB (7 * bq + 6)) (1 * 2 ^ (MB (7 * bq + 6)).toNat - 1)), .ref m_rest, .ref m_ends, zl vc, .ref m_chan, .ref m_spl, zi fs, zi rn, .ref m_rf, .ref m_rr, .ref m_ik, .ref m_km, .ref m_kb, .ref m_kc, .ref m_kf, .ref m_kr])), (m_boat, .inl (y 0, 42, .inl (cI MB))), (m_coins, .inl (y 0, 144, .inl (cI MC)))] H := hP
    have hD : va_D A [(m0, .inr (11, [.ref m_read, zi rl, zi rp, .ref m_gut, zi gl, zi gp, zi gx, zi gy, .ref m_text, zi tn, zi fn, .ref m_boat, .ref m_coins, zi (bs (mCW MC bq) (MB (7 * bq + 6)) (1 * 2 ^ (MB (7 * bq + 6)).toNat - 1)), zi (bs (pullC ((MB (7 * bq)) - 2 * (MB (7 * bq + 3))) (mCI MC bq) (mCW MC bq)) (MB (7 * bq + 6)) (1 * 2 ^ (MB (7 * bq + 6)).toNat - 1)), zi (bs (pullC ((MB (7 * bq + 1)) - 2 * (MB (7 * bq + 3))) (mCJ MC bq) (mCW MC bq)) (MB (7 * bq + 6)) (1 * 2 ^ (MB (7 * bq + 6)).toNat - 1)), .ref m_rest, .ref m_ends, zl vc, .ref m_chan, .ref m_spl, zi fs, zi rn, .ref m_rf, .ref m_rr, .ref m_ik, .ref m_km, .ref m_kb, .ref m_kc, .ref m_kf, .ref m_kr])), (m_boat, .inl (y 0, 42, .inl (cI MB))), (m_coins, .inl (y 0, 144, .inl (cI MC)))] := hD
    have e1 := mom_bs (bn := (MB (7 * bq + 6))) (a := ((MB (7 * bq)) - 2 * (MB (7 * bq + 3)))) (C := (mCI MC bq)) (CW := (mCW MC bq)) (by omega)
    have e2 := mom_bs (bn := (MB (7 * bq + 6))) (a := ((MB (7 * bq + 1)) - 2 * (MB (7 * bq + 3)))) (C := (mCJ MC bq)) (CW := (mCW MC bq)) (by omega)
    refine lv_iload_n hx hb dX12_about_20 rfl (lv_at hl 2 rfl) ?_
    by_cases c21_0 : wq = 0
    · refine lv_tableIn (off := 59) (tgt := 80) hx hb dX12_about_21 (by rw [iI_t (by omega), c21_0]; decide) (by rw [iI_t (by omega), c21_0]; decide) (by rw [iI_t (by omega), c21_0]; rfl) (by decide) ?_
      refine lv_aload_n hx hb dX12_about_80 rfl (lv_at hl 0 rfl) ?_
      refine va_get hx hb hts hinX12 hown hK hP 0 rfl rfl 11 (by decide) k1 (fun _ h => h) rfl dX12_about_81 ?_
      refine z_bipush hx hb dX12_about_84 (by decide) ?_
      refine lv_iload_n hx hb dX12_about_86 rfl (lv_at hl 1 rfl) ?_
      refine z_imul hx hb dX12_about_87 ?_
      refine z_iald hx hb hK hP 1 0 rfl rfl (by omega) (by decide) dX12_about_88 ?_
      exact z_iretW hx hb hr hlocks () (by exact congrArg (fun z => some (zi z)) (by unfold abV; (repeat' split) <;> omega)) (trivial) (hP.sub [0, 1, 2] rfl) (hD.sub [0, 1, 2] (by decide) rfl) hS dX12_about_89
    by_cases c21_1 : wq = 1
    · refine lv_tableIn (off := 69) (tgt := 90) hx hb dX12_about_21 (by rw [iI_t (by omega), c21_1]; decide) (by rw [iI_t (by omega), c21_1]; decide) (by rw [iI_t (by omega), c21_1]; rfl) (by decide) ?_
      refine lv_aload_n hx hb dX12_about_90 rfl (lv_at hl 0 rfl) ?_
      refine va_get hx hb hts hinX12 hown hK hP 0 rfl rfl 11 (by decide) k1 (fun _ h => h) rfl dX12_about_91 ?_
      refine z_bipush hx hb dX12_about_94 (by decide) ?_
      refine lv_iload_n hx hb dX12_about_96 rfl (lv_at hl 1 rfl) ?_
      refine z_imul hx hb dX12_about_97 ?_
      refine z_iconst hx hb dX12_about_98 ?_
      refine z_iadd hx hb dX12_about_99 ?_
      refine z_iald hx hb hK hP 1 0 rfl rfl (by omega) (by decide) dX12_about_100 ?_
      exact z_iretW hx hb hr hlocks () (by exact congrArg (fun z => some (zi z)) (by unfold abV; (repeat' split) <;> omega)) (trivial) (hP.sub [0, 1, 2] rfl) (hD.sub [0, 1, 2] (by decide) rfl) hS dX12_about_101
    by_cases c21_2 : wq = 2
    · refine lv_tableIn (off := 81) (tgt := 102) hx hb dX12_about_21 (by rw [iI_t (by omega), c21_2]; decide) (by rw [iI_t (by omega), c21_2]; decide) (by rw [iI_t (by omega), c21_2]; rfl) (by decide) ?_
      refine lv_aload_n hx hb dX12_about_102 rfl (lv_at hl 0 rfl) ?_
      refine va_get hx hb hts hinX12 hown hK hP 0 rfl rfl 11 (by decide) k1 (fun _ h => h) rfl dX12_about_103 ?_
      refine z_bipush hx hb dX12_about_106 (by decide) ?_
      refine lv_iload_n hx hb dX12_about_108 rfl (lv_at hl 1 rfl) ?_
      refine z_imul hx hb dX12_about_109 ?_
      refine z_iconst hx hb dX12_about_110 ?_
      refine z_iadd hx hb dX12_about_111 ?_
      refine z_iald hx hb hK hP 1 0 rfl rfl (by omega) (by decide) dX12_about_112 ?_
      exact z_iretW hx hb hr hlocks () (by exact congrArg (fun z => some (zi z)) (by unfold abV; (repeat' split) <;> omega)) (trivial) (hP.sub [0, 1, 2] rfl) (hD.sub [0, 1, 2] (by decide) rfl) hS dX12_about_113
    by_cases c21_3 : wq = 3
    · refine lv_tableIn (off := 93) (tgt := 114) hx hb dX12_about_21 (by rw [iI_t (by omega), c21_3]; decide) (by rw [iI_t (by omega), c21_3]; decide) (by rw [iI_t (by omega), c21_3]; rfl) (by decide) ?_
      refine lv_aload_n hx hb dX12_about_114 rfl (lv_at hl 0 rfl) ?_
      refine va_get hx hb hts hinX12 hown hK hP 0 rfl rfl 11 (by decide) k1 (fun _ h => h) rfl dX12_about_115 ?_
      refine z_bipush hx hb dX12_about_118 (by decide) ?_
      refine lv_iload_n hx hb dX12_about_120 rfl (lv_at hl 1 rfl) ?_
      refine z_imul hx hb dX12_about_121 ?_
      refine z_iconst hx hb dX12_about_122 ?_
      refine z_iadd hx hb dX12_about_123 ?_
      refine z_iald hx hb hK hP 1 0 rfl rfl (by omega) (by decide) dX12_about_124 ?_
      exact z_iretW hx hb hr hlocks () (by exact congrArg (fun z => some (zi z)) (by unfold abV; (repeat' split) <;> omega)) (trivial) (hP.sub [0, 1, 2] rfl) (hD.sub [0, 1, 2] (by decide) rfl) hS dX12_about_125
    by_cases c21_4 : wq = 4
    · refine lv_tableIn (off := 105) (tgt := 126) hx hb dX12_about_21 (by rw [iI_t (by omega), c21_4]; decide) (by rw [iI_t (by omega), c21_4]; decide) (by rw [iI_t (by omega), c21_4]; rfl) (by decide) ?_
      refine lv_aload_n hx hb dX12_about_126 rfl (lv_at hl 0 rfl) ?_
      refine lv_iload_n hx hb dX12_about_127 rfl (lv_at hl 1 rfl) ?_
      refine z_iconst hx hb dX12_about_128 ?_
      refine z_pV (As := [zi bq, zi 0]) (rest := []) hC (c_X12_wide_0 l D y m0 m_read rl rp m_gut gl gp gx gy m_text tn fn m_boat m_coins (bs (mCW MC bq) (MB (7 * bq + 6)) (1 * 2 ^ (MB (7 * bq + 6)).toNat - 1)) (bs (pullC ((MB (7 * bq)) - 2 * (MB (7 * bq + 3))) (mCI MC bq) (mCW MC bq)) (MB (7 * bq + 6)) (1 * 2 ^ (MB (7 * bq + 6)).toNat - 1)) (bs (pullC ((MB (7 * bq + 1)) - 2 * (MB (7 * bq + 3))) (mCJ MC bq) (mCW MC bq)) (MB (7 * bq + 6)) (1 * 2 ^ (MB (7 * bq + 6)).toNat - 1)) m_rest m_ends vc m_chan m_spl fs rn m_rf m_rr m_ik m_km m_kb m_kc m_kf m_kr MB MC bq (by first | assumption | omega) (by first | assumption | omega)) (cwV 2 hts gX12_about_X12_wide rfl rfl rfl (by decide +kernel) ⟨Nat.le_of_ble_eq_true rfl, Nat.le_of_ble_eq_true rfl⟩) hG (hP.sub (ws' := [(m0, .inr (11, [.ref m_read, zi rl, zi rp, .ref m_gut, zi gl, zi gp, zi gx, zi gy, .ref m_text, zi tn, zi fn, .ref m_boat, .ref m_coins, zi (bs (mCW MC bq) (MB (7 * bq + 6)) (1 * 2 ^ (MB (7 * bq + 6)).toNat - 1)), zi (bs (pullC ((MB (7 * bq)) - 2 * (MB (7 * bq + 3))) (mCI MC bq) (mCW MC bq)) (MB (7 * bq + 6)) (1 * 2 ^ (MB (7 * bq + 6)).toNat - 1)), zi (bs (pullC ((MB (7 * bq + 1)) - 2 * (MB (7 * bq + 3))) (mCJ MC bq) (mCW MC bq)) (MB (7 * bq + 6)) (1 * 2 ^ (MB (7 * bq + 6)).toNat - 1)), .ref m_rest, .ref m_ends, zl vc, .ref m_chan, .ref m_spl, zi fs, zi rn, .ref m_rf, .ref m_rr, .ref m_ik, .ref m_km, .ref m_kb, .ref m_kc, .ref m_kf, .ref m_kr])), (m_boat, .inl (y 0, 42, .inl (cI MB))), (m_coins, .inl (y 0, 144, .inl (cI MC)))]) [0, 1, 2] rfl) 0 rfl rfl rfl hl.1 rfl (Nat.le_of_ble_eq_true rfl) dX12_about_129 ⟨Nat.le_of_ble_eq_true rfl, Nat.le_of_ble_eq_true rfl⟩ ?_
      exact z_iretW hx hb hr hlocks () (by exact congrArg (fun z => some (zi z)) (by unfold abV; (repeat' split) <;> omega)) (trivial) (hP.sub [0, 1, 2] rfl) (hD.sub [0, 1, 2] (by decide) rfl) hS dX12_about_132
    by_cases c21_5 : wq = 5
    · refine lv_tableIn (off := 112) (tgt := 133) hx hb dX12_about_21 (by rw [iI_t (by omega), c21_5]; decide) (by rw [iI_t (by omega), c21_5]; decide) (by rw [iI_t (by omega), c21_5]; rfl) (by decide) ?_
      refine lv_aload_n hx hb dX12_about_133 rfl (lv_at hl 0 rfl) ?_
      refine lv_iload_n hx hb dX12_about_134 rfl (lv_at hl 1 rfl) ?_
      refine z_iconst hx hb dX12_about_135 ?_
      refine z_pV (As := [zi bq, zi 1]) (rest := []) hC (c_X12_wide_1 l D y m0 m_read rl rp m_gut gl gp gx gy m_text tn fn m_boat m_coins (bs (mCW MC bq) (MB (7 * bq + 6)) (1 * 2 ^ (MB (7 * bq + 6)).toNat - 1)) (bs (pullC ((MB (7 * bq)) - 2 * (MB (7 * bq + 3))) (mCI MC bq) (mCW MC bq)) (MB (7 * bq + 6)) (1 * 2 ^ (MB (7 * bq + 6)).toNat - 1)) (bs (pullC ((MB (7 * bq + 1)) - 2 * (MB (7 * bq + 3))) (mCJ MC bq) (mCW MC bq)) (MB (7 * bq + 6)) (1 * 2 ^ (MB (7 * bq + 6)).toNat - 1)) m_rest m_ends vc m_chan m_spl fs rn m_rf m_rr m_ik m_km m_kb m_kc m_kf m_kr MB MC bq (by first | assumption | omega) (by first | assumption | omega)) (cwV 2 hts gX12_about_X12_wide rfl rfl rfl (by decide +kernel) ⟨Nat.le_of_ble_eq_true rfl, Nat.le_of_ble_eq_true rfl⟩) hG (hP.sub (ws' := [(m0, .inr (11, [.ref m_read, zi rl, zi rp, .ref m_gut, zi gl, zi gp, zi gx, zi gy, .ref m_text, zi tn, zi fn, .ref m_boat, .ref m_coins, zi (bs (mCW MC bq) (MB (7 * bq + 6)) (1 * 2 ^ (MB (7 * bq + 6)).toNat - 1)), zi (bs (pullC ((MB (7 * bq)) - 2 * (MB (7 * bq + 3))) (mCI MC bq) (mCW MC bq)) (MB (7 * bq + 6)) (1 * 2 ^ (MB (7 * bq + 6)).toNat - 1)), zi (bs (pullC ((MB (7 * bq + 1)) - 2 * (MB (7 * bq + 3))) (mCJ MC bq) (mCW MC bq)) (MB (7 * bq + 6)) (1 * 2 ^ (MB (7 * bq + 6)).toNat - 1)), .ref m_rest, .ref m_ends, zl vc, .ref m_chan, .ref m_spl, zi fs, zi rn, .ref m_rf, .ref m_rr, .ref m_ik, .ref m_km, .ref m_kb, .ref m_kc, .ref m_kf, .ref m_kr])), (m_boat, .inl (y 0, 42, .inl (cI MB))), (m_coins, .inl (y 0, 144, .inl (cI MC)))]) [0, 1, 2] rfl) 0 rfl rfl rfl hl.1 rfl (Nat.le_of_ble_eq_true rfl) dX12_about_136 ⟨Nat.le_of_ble_eq_true rfl, Nat.le_of_ble_eq_true rfl⟩ ?_
      exact z_iretW hx hb hr hlocks () (by exact congrArg (fun z => some (zi z)) (by unfold abV; (repeat' split) <;> omega)) (trivial) (hP.sub [0, 1, 2] rfl) (hD.sub [0, 1, 2] (by decide) rfl) hS dX12_about_139
    by_cases c21_6 : wq = 6
    · refine lv_tableIn (off := 119) (tgt := 140) hx hb dX12_about_21 (by rw [iI_t (by omega), c21_6]; decide) (by rw [iI_t (by omega), c21_6]; decide) (by rw [iI_t (by omega), c21_6]; rfl) (by decide) ?_
      refine lv_aload_n hx hb dX12_about_140 rfl (lv_at hl 0 rfl) ?_
      refine va_get hx hb hts hinX12 hown hK hP 0 rfl rfl 11 (by decide) k1 (fun _ h => h) rfl dX12_about_141 ?_
      refine z_bipush hx hb dX12_about_144 (by decide) ?_
      refine lv_iload_n hx hb dX12_about_146 rfl (lv_at hl 1 rfl) ?_
      refine z_imul hx hb dX12_about_147 ?_
      refine z_iconst hx hb dX12_about_148 ?_
      refine z_iadd hx hb dX12_about_149 ?_
      refine z_iald hx hb hK hP 1 0 rfl rfl (by omega) (by decide) dX12_about_150 ?_
      exact z_iretW hx hb hr hlocks () (by exact congrArg (fun z => some (zi z)) (by unfold abV; (repeat' split) <;> omega)) (trivial) (hP.sub [0, 1, 2] rfl) (hD.sub [0, 1, 2] (by decide) rfl) hS dX12_about_151
    by_cases c21_7 : wq = 7
    · refine lv_tableIn (off := 131) (tgt := 152) hx hb dX12_about_21 (by rw [iI_t (by omega), c21_7]; decide) (by rw [iI_t (by omega), c21_7]; decide) (by rw [iI_t (by omega), c21_7]; rfl) (by decide) ?_
      refine lv_aload_n hx hb dX12_about_152 rfl (lv_at hl 0 rfl) ?_
      refine va_get hx hb hts hinX12 hown hK hP 0 rfl rfl 11 (by decide) k1 (fun _ h => h) rfl dX12_about_153 ?_
      refine z_bipush hx hb dX12_about_156 (by decide) ?_
      refine lv_iload_n hx hb dX12_about_158 rfl (lv_at hl 1 rfl) ?_
      refine z_imul hx hb dX12_about_159 ?_
      refine z_iconst hx hb dX12_about_160 ?_
      refine z_iadd hx hb dX12_about_161 ?_
      refine z_iald hx hb hK hP 1 0 rfl rfl (by omega) (by decide) dX12_about_162 ?_
      exact z_iretW hx hb hr hlocks () (by exact congrArg (fun z => some (zi z)) (by unfold abV; (repeat' split) <;> omega)) (trivial) (hP.sub [0, 1, 2] rfl) (hD.sub [0, 1, 2] (by decide) rfl) hS dX12_about_163
    by_cases c21_8 : wq = 8
    · refine lv_tableIn (off := 143) (tgt := 164) hx hb dX12_about_21 (by rw [iI_t (by omega), c21_8]; decide) (by rw [iI_t (by omega), c21_8]; decide) (by rw [iI_t (by omega), c21_8]; rfl) (by decide) ?_
      refine lv_aload_n hx hb dX12_about_164 rfl (lv_at hl 0 rfl) ?_
      refine va_get hx hb hts hinX12 hown hK hP 0 rfl rfl 11 (by decide) k1 (fun _ h => h) rfl dX12_about_165 ?_
      refine z_bipush hx hb dX12_about_168 (by decide) ?_
      refine lv_iload_n hx hb dX12_about_170 rfl (lv_at hl 1 rfl) ?_
      refine z_imul hx hb dX12_about_171 ?_
      refine z_bipush hx hb dX12_about_172 (by decide) ?_
      refine z_iadd hx hb dX12_about_174 ?_
      refine z_iald hx hb hK hP 1 0 rfl rfl (by omega) (by decide) dX12_about_175 ?_
      exact z_iretW hx hb hr hlocks () (by exact congrArg (fun z => some (zi z)) (by unfold abV; (repeat' split) <;> omega)) (trivial) (hP.sub [0, 1, 2] rfl) (hD.sub [0, 1, 2] (by decide) rfl) hS dX12_about_176
    by_cases c21_9 : wq = 9
    · refine lv_tableIn (off := 156) (tgt := 177) hx hb dX12_about_21 (by rw [iI_t (by omega), c21_9]; decide) (by rw [iI_t (by omega), c21_9]; decide) (by rw [iI_t (by omega), c21_9]; rfl) (by decide) ?_
      refine lv_ldc (v := iI 100000) hx hb hown k2 dX12_about_177 ?_
      refine lv_aload_n hx hb dX12_about_179 rfl (lv_at hl 0 rfl) ?_
      refine va_get hx hb hts hinX12 hown hK hP 0 rfl rfl 14 (by decide) k3 (fun _ h => h) rfl dX12_about_180 ?_
      refine z_iadd hx hb dX12_about_183 ?_
      exact z_iretW hx hb hr hlocks () (by exact congrArg (fun z => some (zi z)) (by unfold abV; (repeat' split) <;> omega)) (trivial) (hP.sub [0, 1, 2] rfl) (hD.sub [0, 1, 2] (by decide) rfl) hS dX12_about_184
    by_cases c21_10 : wq = 10
    · refine lv_tableIn (off := 164) (tgt := 185) hx hb dX12_about_21 (by rw [iI_t (by omega), c21_10]; decide) (by rw [iI_t (by omega), c21_10]; decide) (by rw [iI_t (by omega), c21_10]; rfl) (by decide) ?_
      refine lv_ldc (v := iI 100000) hx hb hown k2 dX12_about_185 ?_
      refine lv_aload_n hx hb dX12_about_187 rfl (lv_at hl 0 rfl) ?_
      refine va_get hx hb hts hinX12 hown hK hP 0 rfl rfl 15 (by decide) k4 (fun _ h => h) rfl dX12_about_188 ?_
      refine z_iadd hx hb dX12_about_191 ?_
      exact z_iretW hx hb hr hlocks () (by exact congrArg (fun z => some (zi z)) (by unfold abV; (repeat' split) <;> omega)) (trivial) (hP.sub [0, 1, 2] rfl) (hD.sub [0, 1, 2] (by decide) rfl) hS dX12_about_192
    refine lv_tableOut (tgt := 193) hx hb dX12_about_21 (by rw [iI_t (by omega)]; omega) (by decide) ?_
    refine z_bipush hx hb dX12_about_193 (by decide) ?_
    exact z_iretW hx hb hr hlocks () (by exact congrArg (fun z => some (zi z)) (by unfold abV; (repeat' split) <;> omega)) (trivial) (hP.sub [0, 1, 2] rfl) (hD.sub [0, 1, 2] (by decide) rfl) hS dX12_about_195
  · exfalso; omega
set_option maxHeartbeats 8000000 in
set_option maxRecDepth 100000 in
theorem c_X12_weighs (l : Launch) (D : va_G) (y : Nat → ClassId) (m0 : Nat) (m_read : Nat) (rl : Int) (rp : Int) (m_gut : Nat) (gl : Int) (gp : Int) (gx : Int) (gy : Int) (m_text : Nat) (tn : Int) (fn : Int) (m_boat : Nat) (m_coins : Nat) (vw : Int) (vm : Int) (vn : Int) (m_rest : Nat) (m_ends : Nat) (vc : Int) (m_chan : Nat) (m_spl : Nat) (fs : Int) (rn : Int) (m_rf : Nat) (m_rr : Nat) (m_ik : Nat) (m_km : Nat) (m_kb : Nat) (m_kc : Nat) (m_kf : Nat) (m_kr : Nat) (MB : Int → Int) (MC : Int → Int) (bq : Int) (ts : Int) (hM : mbOK fn MB MC) (hbq : 0 ≤ bq ∧ bq < fn) (hs : 0 ≤ ts ∧ ts ≤ 999) (hv : 0 ≤ vw ∧ vw ≤ 792) : Met l yX12_weighs wsX12_weighs ({ frames := 0, cells := 0, slots := 0, locals := 0 } : Room) (pPc D y [(m0, .inr (11, [.ref m_read, zi rl, zi rp, .ref m_gut, zi gl, zi gp, zi gx, zi gy, .ref m_text, zi tn, zi fn, .ref m_boat, .ref m_coins, zi vw, zi vm, zi vn, .ref m_rest, .ref m_ends, zl vc, .ref m_chan, .ref m_spl, zi fs, zi rn, .ref m_rf, .ref m_rr, .ref m_ik, .ref m_km, .ref m_kb, .ref m_kc, .ref m_kf, .ref m_kr])), (m_boat, .inl (y 0, 42, .inl (cI MB))), (m_coins, .inl (y 0, 144, .inl (cI MC)))] [.ref m0, zi bq, zi ts]) (qV (zl ((MB (7 * bq)) * (MB (7 * bq + 1)) * (MB (7 * bq + 2)) + vw + ts * (MB (7 * bq + 4))))) 0 0 (fun _ => False) := by
  refine P_of (own := RX12) (cc := cX12_weighs) (maxL := 3) (ret := some .long) (by decide) rfl rfl (Nat.le_of_ble_eq_true rfl) (fun p e s m below meth c ls hx hb hr hC hlocks hPr hG hl => ?_)
  have hC0 := hC
  obtain ⟨-, -, hml, hown, hts⟩ := hC0
  have hK := hG.1
  have hinX12 : ∀ w ∈ wsX120, w ∈ wsX12_weighs := fun _ h => List.mem_cons_of_mem _ (List.mem_append_right _ h)
  have k1 := hts (.fieldLink RX12 19 "BoatsOfPaperModel" "boat" "[I") (List.mem_of_getElem? (i := 1) rfl)
  have k2 := hts (.fieldLink RX12 134 "BoatsOfPaperModel" "coinsWeigh" "I") (List.mem_of_getElem? (i := 2) rfl)
  have hl : lv_has ls 3 [(0, .ref m0), (1, zi bq), (2, zi ts)] := hl
  have hB := hM.2 bq hbq.1 hbq.2
  obtain ⟨q1, q2, q3, q4, q5, q6, q7, q8, q9, qc⟩ := id hB
  have qf := hM.1
  have b4 := bOK_lwt hB
  have b6 := mul_bd (a := ts) (b := (MB (7 * bq + 4))) (A := 999) (B := 99) (by omega) (by omega) (by omega) (by omega)
  refine lv_aload_n hx hb dX12_weighs_0 rfl (lv_at hl 0 rfl) ?_
  refine va_get hx hb hts hinX12 hown hK hPr 0 rfl rfl 11 (by decide) k1 (fun _ h => h) rfl dX12_weighs_1 ?_
  refine z_bipush hx hb dX12_weighs_4 (by decide) ?_
  refine lv_iload_n hx hb dX12_weighs_6 rfl (lv_at hl 1 rfl) ?_
  refine z_imul hx hb dX12_weighs_7 ?_
  refine z_iald hx hb hK hPr 1 0 rfl rfl (by omega) (by decide) dX12_weighs_8 ?_
  refine lv_aload_n hx hb dX12_weighs_9 rfl (lv_at hl 0 rfl) ?_
  refine va_get hx hb hts hinX12 hown hK hPr 0 rfl rfl 11 (by decide) k1 (fun _ h => h) rfl dX12_weighs_10 ?_
  refine z_bipush hx hb dX12_weighs_13 (by decide) ?_
  refine lv_iload_n hx hb dX12_weighs_15 rfl (lv_at hl 1 rfl) ?_
  refine z_imul hx hb dX12_weighs_16 ?_
  refine z_iconst hx hb dX12_weighs_17 ?_
  refine z_iadd hx hb dX12_weighs_18 ?_
  refine z_iald hx hb hK hPr 1 0 rfl rfl (by omega) (by decide) dX12_weighs_19 ?_
  refine z_imul hx hb dX12_weighs_20 ?_
  refine lv_aload_n hx hb dX12_weighs_21 rfl (lv_at hl 0 rfl) ?_
  refine va_get hx hb hts hinX12 hown hK hPr 0 rfl rfl 11 (by decide) k1 (fun _ h => h) rfl dX12_weighs_22 ?_
  refine z_bipush hx hb dX12_weighs_25 (by decide) ?_
  refine lv_iload_n hx hb dX12_weighs_27 rfl (lv_at hl 1 rfl) ?_
  refine z_imul hx hb dX12_weighs_28 ?_
  refine z_iconst hx hb dX12_weighs_29 ?_
  refine z_iadd hx hb dX12_weighs_30 ?_
  refine z_iald hx hb hK hPr 1 0 rfl rfl (by omega) (by decide) dX12_weighs_31 ?_
  refine z_imul hx hb dX12_weighs_32 ?_
  refine lv_aload_n hx hb dX12_weighs_33 rfl (lv_at hl 0 rfl) ?_
  refine va_get hx hb hts hinX12 hown hK hPr 0 rfl rfl 13 (by decide) k2 (fun _ h => h) rfl dX12_weighs_34 ?_
  refine z_iadd hx hb dX12_weighs_37 ?_
  refine lv_iload_n hx hb dX12_weighs_38 rfl (lv_at hl 2 rfl) ?_
  refine lv_aload_n hx hb dX12_weighs_39 rfl (lv_at hl 0 rfl) ?_
  refine va_get hx hb hts hinX12 hown hK hPr 0 rfl rfl 11 (by decide) k1 (fun _ h => h) rfl dX12_weighs_40 ?_
  refine z_bipush hx hb dX12_weighs_43 (by decide) ?_
  refine lv_iload_n hx hb dX12_weighs_45 rfl (lv_at hl 1 rfl) ?_
  refine z_imul hx hb dX12_weighs_46 ?_
  refine z_iconst hx hb dX12_weighs_47 ?_
  refine z_iadd hx hb dX12_weighs_48 ?_
  refine z_iald hx hb hK hPr 1 0 rfl rfl (by omega) (by decide) dX12_weighs_49 ?_
  refine z_imul hx hb dX12_weighs_50 ?_
  refine z_iadd hx hb dX12_weighs_51 ?_
  refine z_i2l hx hb (by omega) dX12_weighs_52 ?_
  exact z_lret0 hx hb hr hlocks (rfl) dX12_weighs_53
set_option maxHeartbeats 8000000 in
set_option maxRecDepth 100000 in
theorem c_X12_deep_no (l : Launch) (D : va_G) (y : Nat → ClassId) (m0 : Nat) (m_read : Nat) (rl : Int) (rp : Int) (m_gut : Nat) (gl : Int) (gp : Int) (gx : Int) (gy : Int) (m_text : Nat) (tn : Int) (fn : Int) (m_boat : Nat) (m_coins : Nat) (vw : Int) (vm : Int) (vn : Int) (m_rest : Nat) (m_ends : Nat) (vc : Int) (m_chan : Nat) (m_spl : Nat) (fs : Int) (rn : Int) (m_rf : Nat) (m_rr : Nat) (m_ik : Nat) (m_km : Nat) (m_kb : Nat) (m_kc : Nat) (m_kf : Nat) (m_kr : Nat) (bq : Int) (ts : Int) (uq : Int) (hbq : rI bq ∧ 0 ≤ fn ∧ fn ≤ 6 ∧ ¬ (0 ≤ bq ∧ bq < fn)) : Met l yX12_deep wsX12_deep ({ frames := 2, cells := 0, slots := 0, locals := 46 } : Room) (pPc D y [(m0, .inr (11, [.ref m_read, zi rl, zi rp, .ref m_gut, zi gl, zi gp, zi gx, zi gy, .ref m_text, zi tn, zi fn, .ref m_boat, .ref m_coins, zi vw, zi vm, zi vn, .ref m_rest, .ref m_ends, zl vc, .ref m_chan, .ref m_spl, zi fs, zi rn, .ref m_rf, .ref m_rr, .ref m_ik, .ref m_km, .ref m_kb, .ref m_kc, .ref m_kf, .ref m_kr]))] [.ref m0, zi bq, zi ts, zi uq]) (qV (zl (-1))) 0 0 (fun _ => False) := by
  refine P_of (own := RX12) (cc := cX12_deep) (maxL := 4) (ret := some .long) (by decide) rfl rfl (Nat.le_of_ble_eq_true rfl) (fun p e s m below meth c ls hx hb hr hC hlocks hPr hG hl => ?_)
  have hC0 := hC
  obtain ⟨-, -, hml, hown, hts⟩ := hC0
  have hK := hG.1
  have k1 := hts (.constantLong RX12 151 (-1)) (List.mem_of_getElem? (i := 1) rfl)
  have hl : lv_has ls 4 [(0, .ref m0), (1, zi bq), (2, zi ts), (3, zi uq)] := hl
  refine lv_aload_n hx hb dX12_deep_0 rfl (lv_at hl 0 rfl) ?_
  refine lv_iload_n hx hb dX12_deep_1 rfl (lv_at hl 1 rfl) ?_
  refine z_pV (As := [zi bq]) (rest := []) hC (c_X12_isBoat l D y m0 m_read rl rp m_gut gl gp gx gy m_text tn fn m_boat m_coins vw vm vn m_rest m_ends vc m_chan m_spl fs rn m_rf m_rr m_ik m_km m_kb m_kc m_kf m_kr bq (by first | assumption | omega) (by first | assumption | omega)) (cwV 1 hts gX12_deep_X12_isBoat rfl rfl rfl (by decide +kernel) ⟨Nat.le_of_ble_eq_true rfl, Nat.le_of_ble_eq_true rfl⟩) hG (hPr.sub (ws' := [(m0, .inr (11, [.ref m_read, zi rl, zi rp, .ref m_gut, zi gl, zi gp, zi gx, zi gy, .ref m_text, zi tn, zi fn, .ref m_boat, .ref m_coins, zi vw, zi vm, zi vn, .ref m_rest, .ref m_ends, zl vc, .ref m_chan, .ref m_spl, zi fs, zi rn, .ref m_rf, .ref m_rr, .ref m_ik, .ref m_km, .ref m_kb, .ref m_kc, .ref m_kf, .ref m_kr]))]) [0] rfl) 0 rfl rfl rfl hl.1 rfl (Nat.le_of_ble_eq_true rfl) dX12_deep_2 ⟨Nat.le_of_ble_eq_true rfl, Nat.le_of_ble_eq_true rfl⟩ ?_
  refine z_ifB_ne (tgt := 12) hx hb dX12_deep_5 (by decide) (fun c_5 => ?_) (fun c_5 => ?_)
  · exfalso; omega
  ·
    refine lv_ldc2 (v := iL (-1)) hx hb hown k1 dX12_deep_8 ?_
    exact z_lret0 hx hb hr hlocks (rfl) dX12_deep_11
set_option maxHeartbeats 8000000 in
set_option maxRecDepth 100000 in
theorem c_X12_deep_out (l : Launch) (D : va_G) (y : Nat → ClassId) (m0 : Nat) (m_read : Nat) (rl : Int) (rp : Int) (m_gut : Nat) (gl : Int) (gp : Int) (gx : Int) (gy : Int) (m_text : Nat) (tn : Int) (fn : Int) (m_boat : Nat) (m_coins : Nat) (vw : Int) (vm : Int) (vn : Int) (m_rest : Nat) (m_ends : Nat) (vc : Int) (m_chan : Nat) (m_spl : Nat) (fs : Int) (rn : Int) (m_rf : Nat) (m_rr : Nat) (m_ik : Nat) (m_km : Nat) (m_kb : Nat) (m_kc : Nat) (m_kf : Nat) (m_kr : Nat) (MB : Int → Int) (MC : Int → Int) (bq : Int) (ts : Int) (uq : Int) (hM : mbOK fn MB MC) (hbq : 0 ≤ bq ∧ bq < fn) (hr9 : rI ts) (hq : ¬ (0 ≤ ts ∧ ts ≤ 999)) : Met l yX12_deep wsX12_deep ({ frames := 2, cells := 0, slots := 0, locals := 46 } : Room) (pPc D y [(m0, .inr (11, [.ref m_read, zi rl, zi rp, .ref m_gut, zi gl, zi gp, zi gx, zi gy, .ref m_text, zi tn, zi fn, .ref m_boat, .ref m_coins, zi vw, zi vm, zi vn, .ref m_rest, .ref m_ends, zl vc, .ref m_chan, .ref m_spl, zi fs, zi rn, .ref m_rf, .ref m_rr, .ref m_ik, .ref m_km, .ref m_kb, .ref m_kc, .ref m_kf, .ref m_kr])), (m_boat, .inl (y 0, 42, .inl (cI MB))), (m_coins, .inl (y 0, 144, .inl (cI MC)))] [.ref m0, zi bq, zi ts, zi uq]) (qV (zl (-2))) 0 0 (fun _ => False) := by
  refine P_of (own := RX12) (cc := cX12_deep) (maxL := 4) (ret := some .long) (by decide) rfl rfl (Nat.le_of_ble_eq_true rfl) (fun p e s m below meth c ls hx hb hr hC hlocks hPr hG hl => ?_)
  have hC0 := hC
  obtain ⟨-, -, hml, hown, hts⟩ := hC0
  have hK := hG.1
  have k2 := hts (.constantLong RX12 153 (999)) (List.mem_of_getElem? (i := 2) rfl)
  have k3 := hts (.constantLong RX12 155 (-2)) (List.mem_of_getElem? (i := 3) rfl)
  have hl : lv_has ls 4 [(0, .ref m0), (1, zi bq), (2, zi ts), (3, zi uq)] := hl
  have hB := hM.2 bq hbq.1 hbq.2
  obtain ⟨q1, q2, q3, q4, q5, q6, q7, q8, q9, qc⟩ := id hB
  have qf := hM.1
  refine lv_aload_n hx hb dX12_deep_0 rfl (lv_at hl 0 rfl) ?_
  refine lv_iload_n hx hb dX12_deep_1 rfl (lv_at hl 1 rfl) ?_
  refine z_pV (As := [zi bq]) (rest := []) hC (c_X12_isBoat l D y m0 m_read rl rp m_gut gl gp gx gy m_text tn fn m_boat m_coins vw vm vn m_rest m_ends vc m_chan m_spl fs rn m_rf m_rr m_ik m_km m_kb m_kc m_kf m_kr bq (by first | assumption | omega) (by first | assumption | omega)) (cwV 1 hts gX12_deep_X12_isBoat rfl rfl rfl (by decide +kernel) ⟨Nat.le_of_ble_eq_true rfl, Nat.le_of_ble_eq_true rfl⟩) hG (hPr.sub (ws' := [(m0, .inr (11, [.ref m_read, zi rl, zi rp, .ref m_gut, zi gl, zi gp, zi gx, zi gy, .ref m_text, zi tn, zi fn, .ref m_boat, .ref m_coins, zi vw, zi vm, zi vn, .ref m_rest, .ref m_ends, zl vc, .ref m_chan, .ref m_spl, zi fs, zi rn, .ref m_rf, .ref m_rr, .ref m_ik, .ref m_km, .ref m_kb, .ref m_kc, .ref m_kf, .ref m_kr]))]) [0] rfl) 0 rfl rfl rfl hl.1 rfl (Nat.le_of_ble_eq_true rfl) dX12_deep_2 ⟨Nat.le_of_ble_eq_true rfl, Nat.le_of_ble_eq_true rfl⟩ ?_
  refine z_ifB_ne (tgt := 12) hx hb dX12_deep_5 (by decide) (fun c_5 => ?_) (fun c_5 => ?_)
  ·
    refine lv_iload_n hx hb dX12_deep_12 rfl (lv_at hl 2 rfl) ?_
    refine z_i2l hx hb (by omega) dX12_deep_13 ?_
    refine lv_lconst (v := iL 0) hx hb dX12_deep_14 rfl ?_
    refine lv_ldc2 (v := iL 999) hx hb hown k2 dX12_deep_15 ?_
    refine z_pS (As := [zl ts, zl 0, zl 999]) (rest := []) hC (c_X12_in l D y ts 0 999 (by first | assumption | omega)) (va_cwS 3 hts gX12_deep_X12_in rfl rfl rfl (by decide +kernel) ⟨Nat.le_of_ble_eq_true rfl, Nat.le_of_ble_eq_true rfl⟩) hG va_P_nil rfl hl.1 rfl (Nat.le_of_ble_eq_true rfl) dX12_deep_18 ⟨Nat.le_of_ble_eq_true rfl, Nat.le_of_ble_eq_true rfl⟩ ?_
    refine z_ifB_ne (tgt := 28) hx hb dX12_deep_21 (by decide) (fun c_21 => ?_) (fun c_21 => ?_)
    · exfalso; omega
    ·
      refine lv_ldc2 (v := iL (-2)) hx hb hown k3 dX12_deep_24 ?_
      exact z_lret0 hx hb hr hlocks (rfl) dX12_deep_27
  · exfalso; omega
set_option maxHeartbeats 8000000 in
set_option maxRecDepth 100000 in
theorem c_X12_deep (l : Launch) (D : va_G) (y : Nat → ClassId) (m0 : Nat) (m_read : Nat) (rl : Int) (rp : Int) (m_gut : Nat) (gl : Int) (gp : Int) (gx : Int) (gy : Int) (m_text : Nat) (tn : Int) (fn : Int) (m_boat : Nat) (m_coins : Nat) (vw : Int) (vm : Int) (vn : Int) (m_rest : Nat) (m_ends : Nat) (vc : Int) (m_chan : Nat) (m_spl : Nat) (fs : Int) (rn : Int) (m_rf : Nat) (m_rr : Nat) (m_ik : Nat) (m_km : Nat) (m_kb : Nat) (m_kc : Nat) (m_kf : Nat) (m_kr : Nat) (MB : Int → Int) (MC : Int → Int) (bq : Int) (ts : Int) (uq : Int) (hM : mbOK fn MB MC) (hbq : 0 ≤ bq ∧ bq < fn) (hs : 0 ≤ ts ∧ ts ≤ 999) (huq : uq = 0 ∨ uq = 1) (sz : Nat) : Met l yX12_deep wsX12_deep ({ frames := 2, cells := 0, slots := 0, locals := 47 } : Room) (wPc D y [] [(m0, .inr (11, [.ref m_read, zi rl, zi rp, .ref m_gut, zi gl, zi gp, zi gx, zi gy, .ref m_text, zi tn, zi fn, .ref m_boat, .ref m_coins, zi vw, zi vm, zi vn, .ref m_rest, .ref m_ends, zl vc, .ref m_chan, .ref m_spl, zi fs, zi rn, .ref m_rf, .ref m_rr, .ref m_ik, .ref m_km, .ref m_kb, .ref m_kc, .ref m_kf, .ref m_kr])), (m_boat, .inl (y 0, 42, .inl (cI MB))), (m_coins, .inl (y 0, 144, .inl (cI MC)))] sz [.ref m0, zi bq, zi ts, zi uq]) (wQ D (fun (_ : Unit) => some (zl (tellV (wAt (MB (7 * bq)) (MB (7 * bq + 1)) (MB (7 * bq + 2)) (MB (7 * bq + 4)) (MB (7 * bq + 6)) (mCW MC bq) ts) (100 * (((MB (7 * bq)) - 2 * (MB (7 * bq + 3))) * ((MB (7 * bq + 1)) - 2 * (MB (7 * bq + 3))))) uq))) (fun (_ : Unit) => True) (fun (_ : Unit) => [(m0, .inr (11, [.ref m_read, zi rl, zi rp, .ref m_gut, zi gl, zi gp, zi gx, zi gy, .ref m_text, zi tn, zi fn, .ref m_boat, .ref m_coins, zi (bs (mCW MC bq) (MB (7 * bq + 6)) (1 * 2 ^ (MB (7 * bq + 6)).toNat - 1)), zi (bs (pullC ((MB (7 * bq)) - 2 * (MB (7 * bq + 3))) (mCI MC bq) (mCW MC bq)) (MB (7 * bq + 6)) (1 * 2 ^ (MB (7 * bq + 6)).toNat - 1)), zi (bs (pullC ((MB (7 * bq + 1)) - 2 * (MB (7 * bq + 3))) (mCJ MC bq) (mCW MC bq)) (MB (7 * bq + 6)) (1 * 2 ^ (MB (7 * bq + 6)).toNat - 1)), .ref m_rest, .ref m_ends, zl vc, .ref m_chan, .ref m_spl, zi fs, zi rn, .ref m_rf, .ref m_rr, .ref m_ik, .ref m_km, .ref m_kb, .ref m_kc, .ref m_kf, .ref m_kr])), (m_boat, .inl (y 0, 42, .inl (cI MB))), (m_coins, .inl (y 0, 144, .inl (cI MC)))]) (va_A [(m0, .inr (11, [.ref m_read, zi rl, zi rp, .ref m_gut, zi gl, zi gp, zi gx, zi gy, .ref m_text, zi tn, zi fn, .ref m_boat, .ref m_coins, zi vw, zi vm, zi vn, .ref m_rest, .ref m_ends, zl vc, .ref m_chan, .ref m_spl, zi fs, zi rn, .ref m_rf, .ref m_rr, .ref m_ik, .ref m_km, .ref m_kb, .ref m_kc, .ref m_kf, .ref m_kr])), (m_boat, .inl (y 0, 42, .inl (cI MB))), (m_coins, .inl (y 0, 144, .inl (cI MC)))] sz)) 0 0 (va_A [(m0, .inr (11, [.ref m_read, zi rl, zi rp, .ref m_gut, zi gl, zi gp, zi gx, zi gy, .ref m_text, zi tn, zi fn, .ref m_boat, .ref m_coins, zi vw, zi vm, zi vn, .ref m_rest, .ref m_ends, zl vc, .ref m_chan, .ref m_spl, zi fs, zi rn, .ref m_rf, .ref m_rr, .ref m_ik, .ref m_km, .ref m_kb, .ref m_kc, .ref m_kf, .ref m_kr])), (m_boat, .inl (y 0, 42, .inl (cI MB))), (m_coins, .inl (y 0, 144, .inl (cI MC)))] sz) := by
  refine W_of (own := RX12) (cc := cX12_deep) (maxL := 4) (ret := some .long) (by decide) rfl rfl (Nat.le_of_ble_eq_true rfl) (fun p e s m below meth c ls A hx hb hr hC hlocks hin0 hR0 hN hP hD hA hG hl => ?_)
  have hC0 := hC
  obtain ⟨-, -, hml, hown, hts⟩ := hC0
  have hK := hG.1
  have hS : va_S A s.heap s.heap [] := va_S.rf
  have hPr := hR0
  have k2 := hts (.constantLong RX12 153 (999)) (List.mem_of_getElem? (i := 2) rfl)
  have k4 := hts (.constantLong RX12 161 (100)) (List.mem_of_getElem? (i := 4) rfl)
  have hl : lv_has ls 4 [(0, .ref m0), (1, zi bq), (2, zi ts), (3, zi uq)] := hl
  have hB := hM.2 bq hbq.1 hbq.2
  obtain ⟨q1, q2, q3, q4, q5, q6, q7, q8, q9, qc⟩ := id hB
  have qf := hM.1
  have b2 := pow8 (k := MB (7 * bq + 6)) (by omega)
  have b3 := bOK_set hB (1 * 2 ^ (MB (7 * bq + 6)).toNat - 1)
  have b4 := bOK_lwt hB
  have b1 := bOK_cells hB
  have b4 := bOK_lwt hB
  have b6 := mul_bd (a := ts) (b := (MB (7 * bq + 4))) (A := 999) (B := 99) (by omega) (by omega) (by omega) (by omega)
  have b9 := Int.mul_assoc 100 ((MB (7 * bq)) - 2 * (MB (7 * bq + 3))) ((MB (7 * bq + 1)) - 2 * (MB (7 * bq + 3)))
  refine lv_aload_n hx hb dX12_deep_0 rfl (lv_at hl 0 rfl) ?_
  refine lv_iload_n hx hb dX12_deep_1 rfl (lv_at hl 1 rfl) ?_
  refine z_pV (As := [zi bq]) (rest := []) hC (c_X12_isBoat l D y m0 m_read rl rp m_gut gl gp gx gy m_text tn fn m_boat m_coins vw vm vn m_rest m_ends vc m_chan m_spl fs rn m_rf m_rr m_ik m_km m_kb m_kc m_kf m_kr bq (by first | assumption | omega) (by first | assumption | omega)) (cwV 1 hts gX12_deep_X12_isBoat rfl rfl rfl (by decide +kernel) ⟨Nat.le_of_ble_eq_true rfl, Nat.le_of_ble_eq_true rfl⟩) hG (hP.sub (ws' := [(m0, .inr (11, [.ref m_read, zi rl, zi rp, .ref m_gut, zi gl, zi gp, zi gx, zi gy, .ref m_text, zi tn, zi fn, .ref m_boat, .ref m_coins, zi vw, zi vm, zi vn, .ref m_rest, .ref m_ends, zl vc, .ref m_chan, .ref m_spl, zi fs, zi rn, .ref m_rf, .ref m_rr, .ref m_ik, .ref m_km, .ref m_kb, .ref m_kc, .ref m_kf, .ref m_kr]))]) [0] rfl) 0 rfl rfl rfl hl.1 rfl (Nat.le_of_ble_eq_true rfl) dX12_deep_2 ⟨Nat.le_of_ble_eq_true rfl, Nat.le_of_ble_eq_true rfl⟩ ?_
  refine z_ifB_ne (tgt := 12) hx hb dX12_deep_5 (by decide) (fun c_5 => ?_) (fun c_5 => ?_)
  ·
    refine lv_iload_n hx hb dX12_deep_12 rfl (lv_at hl 2 rfl) ?_
    refine z_i2l hx hb (by omega) dX12_deep_13 ?_
    refine lv_lconst (v := iL 0) hx hb dX12_deep_14 rfl ?_
    refine lv_ldc2 (v := iL 999) hx hb hown k2 dX12_deep_15 ?_
    refine z_pS (As := [zl ts, zl 0, zl 999]) (rest := []) hC (c_X12_in l D y ts 0 999 (by first | assumption | omega)) (va_cwS 3 hts gX12_deep_X12_in rfl rfl rfl (by decide +kernel) ⟨Nat.le_of_ble_eq_true rfl, Nat.le_of_ble_eq_true rfl⟩) hG va_P_nil rfl hl.1 rfl (Nat.le_of_ble_eq_true rfl) dX12_deep_18 ⟨Nat.le_of_ble_eq_true rfl, Nat.le_of_ble_eq_true rfl⟩ ?_
    refine z_ifB_ne (tgt := 28) hx hb dX12_deep_21 (by decide) (fun c_21 => ?_) (fun c_21 => ?_)
    ·
      refine lv_aload_n hx hb dX12_deep_28 rfl (lv_at hl 0 rfl) ?_
      refine lv_iload_n hx hb dX12_deep_29 rfl (lv_at hl 1 rfl) ?_
      refine lv_aload_n hx hb dX12_deep_30 rfl (lv_at hl 0 rfl) ?_
      refine lv_iload_n hx hb dX12_deep_31 rfl (lv_at hl 1 rfl) ?_
      refine z_pV (As := [zi bq]) (rest := [zi bq, .ref m0]) hC (c_X12_all l D y m0 m_read rl rp m_gut gl gp gx gy m_text tn fn m_boat m_coins vw vm vn m_rest m_ends vc m_chan m_spl fs rn m_rf m_rr m_ik m_km m_kb m_kc m_kf m_kr MB MC bq (by first | assumption | omega) (by first | assumption | omega)) (cwV 1 hts gX12_deep_X12_all rfl rfl rfl (by decide +kernel) ⟨Nat.le_of_ble_eq_true rfl, Nat.le_of_ble_eq_true rfl⟩) hG (hP.sub (ws' := [(m0, .inr (11, [.ref m_read, zi rl, zi rp, .ref m_gut, zi gl, zi gp, zi gx, zi gy, .ref m_text, zi tn, zi fn, .ref m_boat, .ref m_coins, zi vw, zi vm, zi vn, .ref m_rest, .ref m_ends, zl vc, .ref m_chan, .ref m_spl, zi fs, zi rn, .ref m_rf, .ref m_rr, .ref m_ik, .ref m_km, .ref m_kb, .ref m_kc, .ref m_kf, .ref m_kr])), (m_boat, .inl (y 0, 42, .inl (cI MB))), (m_coins, .inl (y 0, 144, .inl (cI MC)))]) [0, 1, 2] rfl) 0 rfl rfl rfl hl.1 rfl (Nat.le_of_ble_eq_true rfl) dX12_deep_32 ⟨Nat.le_of_ble_eq_true rfl, Nat.le_of_ble_eq_true rfl⟩ ?_
      refine z_wV (As := [zi bq, zi (1 * 2 ^ (MB (7 * bq + 6)).toNat - 1)]) (rest := []) (wc := [(m0, .inr (11, [.ref m_read, zi rl, zi rp, .ref m_gut, zi gl, zi gp, zi gx, zi gy, .ref m_text, zi tn, zi fn, .ref m_boat, .ref m_coins, zi vw, zi vm, zi vn, .ref m_rest, .ref m_ends, zl vc, .ref m_chan, .ref m_spl, zi fs, zi rn, .ref m_rf, .ref m_rr, .ref m_ik, .ref m_km, .ref m_kb, .ref m_kc, .ref m_kf, .ref m_kr])), (m_boat, .inl (y 0, 42, .inl (cI MB))), (m_coins, .inl (y 0, 144, .inl (cI MC)))]) (wrest := []) hC (c_X12_layCoins l D y m0 m_read rl rp m_gut gl gp gx gy m_text tn fn m_boat m_coins vw vm vn m_rest m_ends vc m_chan m_spl fs rn m_rf m_rr m_ik m_km m_kb m_kc m_kf m_kr MB MC bq (1 * 2 ^ (MB (7 * bq + 6)).toNat - 1) (by first | assumption | omega) (by first | assumption | omega) (by first | assumption | omega) _) (cwV 2 hts gX12_deep_X12_layCoins rfl rfl rfl (by decide +kernel) ⟨Nat.le_of_ble_eq_true rfl, Nat.le_of_ble_eq_true rfl⟩) hG hP hD hS hA [0, 1, 2] [] rfl rfl (by decide) (by decide) (by decide) va_P_nil ro_nil 0 rfl rfl rfl hl.1 rfl (Nat.le_of_ble_eq_true rfl) dX12_deep_35 ⟨Nat.le_of_ble_eq_true rfl, Nat.le_of_ble_eq_true rfl⟩ (fun u9 H locs hw_1 hP hD hS => ?_)
      have hw_1 : True := hw_1
      have hP : va_P D vwCl [(m0, .inr (11, [.ref m_read, zi rl, zi rp, .ref m_gut, zi gl, zi gp, zi gx, zi gy, .ref m_text, zi tn, zi fn, .ref m_boat, .ref m_coins, zi (bs (mCW MC bq) (MB (7 * bq + 6)) (1 * 2 ^ (MB (7 * bq + 6)).toNat - 1)), zi (bs (pullC ((MB (7 * bq)) - 2 * (MB (7 * bq + 3))) (mCI MC bq) (mCW MC bq)) (MB (7 * bq + 6)) (1 * 2 ^ (MB (7 * bq + 6)).toNat - 1)), zi (bs (pullC ((MB (7 * bq + 1)) - 2 * (MB (7 * bq + 3))) (mCJ MC bq) (mCW MC bq)) (MB (7 * bq + 6)) (1 * 2 ^ (MB (7 * bq + 6)).toNat - 1)), .ref m_rest, .ref m_ends, zl vc, .ref m_chan, .ref m_spl, zi fs, zi rn, .ref m_rf, .ref m_rr, .ref m_ik, .ref m_km, .ref m_kb, .ref m_kc, .ref m_kf, .ref m_kr])), (m_boat, .inl (y 0, 42, .inl (cI MB))), (m_coins, .inl (y 0, 144, .inl (cI MC)))] H := hP
      have hD : va_D A [(m0, .inr (11, [.ref m_read, zi rl, zi rp, .ref m_gut, zi gl, zi gp, zi gx, zi gy, .ref m_text, zi tn, zi fn, .ref m_boat, .ref m_coins, zi (bs (mCW MC bq) (MB (7 * bq + 6)) (1 * 2 ^ (MB (7 * bq + 6)).toNat - 1)), zi (bs (pullC ((MB (7 * bq)) - 2 * (MB (7 * bq + 3))) (mCI MC bq) (mCW MC bq)) (MB (7 * bq + 6)) (1 * 2 ^ (MB (7 * bq + 6)).toNat - 1)), zi (bs (pullC ((MB (7 * bq + 1)) - 2 * (MB (7 * bq + 3))) (mCJ MC bq) (mCW MC bq)) (MB (7 * bq + 6)) (1 * 2 ^ (MB (7 * bq + 6)).toNat - 1)), .ref m_rest, .ref m_ends, zl vc, .ref m_chan, .ref m_spl, zi fs, zi rn, .ref m_rf, .ref m_rr, .ref m_ik, .ref m_km, .ref m_kb, .ref m_kc, .ref m_kf, .ref m_kr])), (m_boat, .inl (y 0, 42, .inl (cI MB))), (m_coins, .inl (y 0, 144, .inl (cI MC)))] := hD
      refine lv_aload_n hx hb dX12_deep_38 rfl (lv_at hl 0 rfl) ?_
      refine lv_iload_n hx hb dX12_deep_39 rfl (lv_at hl 1 rfl) ?_
      refine lv_iload_n hx hb dX12_deep_40 rfl (lv_at hl 2 rfl) ?_
      refine z_pV (As := [zi bq, zi ts]) (rest := []) hC (c_X12_weighs l D y m0 m_read rl rp m_gut gl gp gx gy m_text tn fn m_boat m_coins (bs (mCW MC bq) (MB (7 * bq + 6)) (1 * 2 ^ (MB (7 * bq + 6)).toNat - 1)) (bs (pullC ((MB (7 * bq)) - 2 * (MB (7 * bq + 3))) (mCI MC bq) (mCW MC bq)) (MB (7 * bq + 6)) (1 * 2 ^ (MB (7 * bq + 6)).toNat - 1)) (bs (pullC ((MB (7 * bq + 1)) - 2 * (MB (7 * bq + 3))) (mCJ MC bq) (mCW MC bq)) (MB (7 * bq + 6)) (1 * 2 ^ (MB (7 * bq + 6)).toNat - 1)) m_rest m_ends vc m_chan m_spl fs rn m_rf m_rr m_ik m_km m_kb m_kc m_kf m_kr MB MC bq ts (by first | assumption | omega) (by first | assumption | omega) (by first | assumption | omega) (by first | assumption | omega)) (cwV 2 hts gX12_deep_X12_weighs rfl rfl rfl (by decide +kernel) ⟨Nat.le_of_ble_eq_true rfl, Nat.le_of_ble_eq_true rfl⟩) hG (hP.sub (ws' := [(m0, .inr (11, [.ref m_read, zi rl, zi rp, .ref m_gut, zi gl, zi gp, zi gx, zi gy, .ref m_text, zi tn, zi fn, .ref m_boat, .ref m_coins, zi (bs (mCW MC bq) (MB (7 * bq + 6)) (1 * 2 ^ (MB (7 * bq + 6)).toNat - 1)), zi (bs (pullC ((MB (7 * bq)) - 2 * (MB (7 * bq + 3))) (mCI MC bq) (mCW MC bq)) (MB (7 * bq + 6)) (1 * 2 ^ (MB (7 * bq + 6)).toNat - 1)), zi (bs (pullC ((MB (7 * bq + 1)) - 2 * (MB (7 * bq + 3))) (mCJ MC bq) (mCW MC bq)) (MB (7 * bq + 6)) (1 * 2 ^ (MB (7 * bq + 6)).toNat - 1)), .ref m_rest, .ref m_ends, zl vc, .ref m_chan, .ref m_spl, zi fs, zi rn, .ref m_rf, .ref m_rr, .ref m_ik, .ref m_km, .ref m_kb, .ref m_kc, .ref m_kf, .ref m_kr])), (m_boat, .inl (y 0, 42, .inl (cI MB))), (m_coins, .inl (y 0, 144, .inl (cI MC)))]) [0, 1, 2] rfl) 0 rfl rfl rfl hl.1 rfl (Nat.le_of_ble_eq_true rfl) dX12_deep_41 ⟨Nat.le_of_ble_eq_true rfl, Nat.le_of_ble_eq_true rfl⟩ ?_
      refine lv_ldc2 (v := iL 100) hx hb hown k4 dX12_deep_44 ?_
      refine lv_aload_n hx hb dX12_deep_47 rfl (lv_at hl 0 rfl) ?_
      refine lv_iload_n hx hb dX12_deep_48 rfl (lv_at hl 1 rfl) ?_
      refine z_iconst hx hb dX12_deep_49 ?_
      refine z_pV (As := [zi bq, zi 0]) (rest := [zl 100, zl ((MB (7 * bq)) * (MB (7 * bq + 1)) * (MB (7 * bq + 2)) + (bs (mCW MC bq) (MB (7 * bq + 6)) (1 * 2 ^ (MB (7 * bq + 6)).toNat - 1)) + ts * (MB (7 * bq + 4)))]) hC (c_X12_wide_0 l D y m0 m_read rl rp m_gut gl gp gx gy m_text tn fn m_boat m_coins (bs (mCW MC bq) (MB (7 * bq + 6)) (1 * 2 ^ (MB (7 * bq + 6)).toNat - 1)) (bs (pullC ((MB (7 * bq)) - 2 * (MB (7 * bq + 3))) (mCI MC bq) (mCW MC bq)) (MB (7 * bq + 6)) (1 * 2 ^ (MB (7 * bq + 6)).toNat - 1)) (bs (pullC ((MB (7 * bq + 1)) - 2 * (MB (7 * bq + 3))) (mCJ MC bq) (mCW MC bq)) (MB (7 * bq + 6)) (1 * 2 ^ (MB (7 * bq + 6)).toNat - 1)) m_rest m_ends vc m_chan m_spl fs rn m_rf m_rr m_ik m_km m_kb m_kc m_kf m_kr MB MC bq (by first | assumption | omega) (by first | assumption | omega)) (cwV 2 hts gX12_deep_X12_wide rfl rfl rfl (by decide +kernel) ⟨Nat.le_of_ble_eq_true rfl, Nat.le_of_ble_eq_true rfl⟩) hG (hP.sub (ws' := [(m0, .inr (11, [.ref m_read, zi rl, zi rp, .ref m_gut, zi gl, zi gp, zi gx, zi gy, .ref m_text, zi tn, zi fn, .ref m_boat, .ref m_coins, zi (bs (mCW MC bq) (MB (7 * bq + 6)) (1 * 2 ^ (MB (7 * bq + 6)).toNat - 1)), zi (bs (pullC ((MB (7 * bq)) - 2 * (MB (7 * bq + 3))) (mCI MC bq) (mCW MC bq)) (MB (7 * bq + 6)) (1 * 2 ^ (MB (7 * bq + 6)).toNat - 1)), zi (bs (pullC ((MB (7 * bq + 1)) - 2 * (MB (7 * bq + 3))) (mCJ MC bq) (mCW MC bq)) (MB (7 * bq + 6)) (1 * 2 ^ (MB (7 * bq + 6)).toNat - 1)), .ref m_rest, .ref m_ends, zl vc, .ref m_chan, .ref m_spl, zi fs, zi rn, .ref m_rf, .ref m_rr, .ref m_ik, .ref m_km, .ref m_kb, .ref m_kc, .ref m_kf, .ref m_kr])), (m_boat, .inl (y 0, 42, .inl (cI MB))), (m_coins, .inl (y 0, 144, .inl (cI MC)))]) [0, 1, 2] rfl) 0 rfl rfl rfl hl.1 rfl (Nat.le_of_ble_eq_true rfl) dX12_deep_50 ⟨Nat.le_of_ble_eq_true rfl, Nat.le_of_ble_eq_true rfl⟩ ?_
      refine z_i2l hx hb (by omega) dX12_deep_53 ?_
      refine z_lmul hx hb dX12_deep_54 ?_
      refine lv_aload_n hx hb dX12_deep_55 rfl (lv_at hl 0 rfl) ?_
      refine lv_iload_n hx hb dX12_deep_56 rfl (lv_at hl 1 rfl) ?_
      refine z_iconst hx hb dX12_deep_57 ?_
      refine z_pV (As := [zi bq, zi 1]) (rest := [zl (100 * ((MB (7 * bq)) - 2 * (MB (7 * bq + 3)))), zl ((MB (7 * bq)) * (MB (7 * bq + 1)) * (MB (7 * bq + 2)) + (bs (mCW MC bq) (MB (7 * bq + 6)) (1 * 2 ^ (MB (7 * bq + 6)).toNat - 1)) + ts * (MB (7 * bq + 4)))]) hC (c_X12_wide_1 l D y m0 m_read rl rp m_gut gl gp gx gy m_text tn fn m_boat m_coins (bs (mCW MC bq) (MB (7 * bq + 6)) (1 * 2 ^ (MB (7 * bq + 6)).toNat - 1)) (bs (pullC ((MB (7 * bq)) - 2 * (MB (7 * bq + 3))) (mCI MC bq) (mCW MC bq)) (MB (7 * bq + 6)) (1 * 2 ^ (MB (7 * bq + 6)).toNat - 1)) (bs (pullC ((MB (7 * bq + 1)) - 2 * (MB (7 * bq + 3))) (mCJ MC bq) (mCW MC bq)) (MB (7 * bq + 6)) (1 * 2 ^ (MB (7 * bq + 6)).toNat - 1)) m_rest m_ends vc m_chan m_spl fs rn m_rf m_rr m_ik m_km m_kb m_kc m_kf m_kr MB MC bq (by first | assumption | omega) (by first | assumption | omega)) (cwV 2 hts gX12_deep_X12_wide rfl rfl rfl (by decide +kernel) ⟨Nat.le_of_ble_eq_true rfl, Nat.le_of_ble_eq_true rfl⟩) hG (hP.sub (ws' := [(m0, .inr (11, [.ref m_read, zi rl, zi rp, .ref m_gut, zi gl, zi gp, zi gx, zi gy, .ref m_text, zi tn, zi fn, .ref m_boat, .ref m_coins, zi (bs (mCW MC bq) (MB (7 * bq + 6)) (1 * 2 ^ (MB (7 * bq + 6)).toNat - 1)), zi (bs (pullC ((MB (7 * bq)) - 2 * (MB (7 * bq + 3))) (mCI MC bq) (mCW MC bq)) (MB (7 * bq + 6)) (1 * 2 ^ (MB (7 * bq + 6)).toNat - 1)), zi (bs (pullC ((MB (7 * bq + 1)) - 2 * (MB (7 * bq + 3))) (mCJ MC bq) (mCW MC bq)) (MB (7 * bq + 6)) (1 * 2 ^ (MB (7 * bq + 6)).toNat - 1)), .ref m_rest, .ref m_ends, zl vc, .ref m_chan, .ref m_spl, zi fs, zi rn, .ref m_rf, .ref m_rr, .ref m_ik, .ref m_km, .ref m_kb, .ref m_kc, .ref m_kf, .ref m_kr])), (m_boat, .inl (y 0, 42, .inl (cI MB))), (m_coins, .inl (y 0, 144, .inl (cI MC)))]) [0, 1, 2] rfl) 0 rfl rfl rfl hl.1 rfl (Nat.le_of_ble_eq_true rfl) dX12_deep_58 ⟨Nat.le_of_ble_eq_true rfl, Nat.le_of_ble_eq_true rfl⟩ ?_
      refine z_i2l hx hb (by omega) dX12_deep_61 ?_
      refine z_lmul hx hb dX12_deep_62 ?_
      refine lv_iload_n hx hb dX12_deep_63 rfl (lv_at hl 3 rfl) ?_
      refine z_pS (As := [zl ((MB (7 * bq)) * (MB (7 * bq + 1)) * (MB (7 * bq + 2)) + (bs (mCW MC bq) (MB (7 * bq + 6)) (1 * 2 ^ (MB (7 * bq + 6)).toNat - 1)) + ts * (MB (7 * bq + 4))), zl ((100 * ((MB (7 * bq)) - 2 * (MB (7 * bq + 3)))) * ((MB (7 * bq + 1)) - 2 * (MB (7 * bq + 3)))), zi uq]) (rest := []) hC (c_X12_part l D y ((MB (7 * bq)) * (MB (7 * bq + 1)) * (MB (7 * bq + 2)) + (bs (mCW MC bq) (MB (7 * bq + 6)) (1 * 2 ^ (MB (7 * bq + 6)).toNat - 1)) + ts * (MB (7 * bq + 4))) ((100 * ((MB (7 * bq)) - 2 * (MB (7 * bq + 3)))) * ((MB (7 * bq + 1)) - 2 * (MB (7 * bq + 3)))) uq (by first | assumption | omega) (by first | assumption | omega)) (va_cwS 3 hts gX12_deep_X12_part rfl rfl rfl (by decide +kernel) ⟨Nat.le_of_ble_eq_true rfl, Nat.le_of_ble_eq_true rfl⟩) hG va_P_nil rfl hl.1 rfl (Nat.le_of_ble_eq_true rfl) dX12_deep_64 ⟨Nat.le_of_ble_eq_true rfl, Nat.le_of_ble_eq_true rfl⟩ ?_
      exact z_lretW hx hb hr hlocks () (by exact congrArg (fun z => some (zl z)) (by rw [wAt_bs (by omega), b9])) (trivial) (hP.sub [0, 1, 2] rfl) (hD.sub [0, 1, 2] (by decide) rfl) hS dX12_deep_67
    · exfalso; omega
  · exfalso; omega
set_option maxHeartbeats 8000000 in
set_option maxRecDepth 100000 in
theorem c_X12_cornerUp (l : Launch) (D : va_G) (y : Nat → ClassId) (m0 : Nat) (m_read : Nat) (rl : Int) (rp : Int) (m_gut : Nat) (gl : Int) (gp : Int) (gx : Int) (gy : Int) (m_text : Nat) (tn : Int) (fn : Int) (m_boat : Nat) (m_coins : Nat) (vw : Int) (vm : Int) (vn : Int) (m_rest : Nat) (m_ends : Nat) (vc : Int) (m_chan : Nat) (m_spl : Nat) (fs : Int) (rn : Int) (m_rf : Nat) (m_rr : Nat) (m_ik : Nat) (m_km : Nat) (m_kb : Nat) (m_kc : Nat) (m_kf : Nat) (m_kr : Nat) (MB : Int → Int) (MC : Int → Int) (bq : Int) (ts : Int) (hM : mbOK fn MB MC) (hbq : 0 ≤ bq ∧ bq < fn) (hs : 0 ≤ ts ∧ ts ≤ 999) (hv : 0 ≤ vw ∧ vw ≤ 792) (hv2 : (-20000 ≤ vm ∧ vm ≤ 20000) ∧ -20000 ≤ vn ∧ vn ≤ 20000) : Met l yX12_cornerUp wsX12_cornerUp ({ frames := 1, cells := 0, slots := 0, locals := 22 } : Room) (pPc D y [(m0, .inr (11, [.ref m_read, zi rl, zi rp, .ref m_gut, zi gl, zi gp, zi gx, zi gy, .ref m_text, zi tn, zi fn, .ref m_boat, .ref m_coins, zi vw, zi vm, zi vn, .ref m_rest, .ref m_ends, zl vc, .ref m_chan, .ref m_spl, zi fs, zi rn, .ref m_rf, .ref m_rr, .ref m_ik, .ref m_km, .ref m_kb, .ref m_kc, .ref m_kf, .ref m_kr])), (m_boat, .inl (y 0, 42, .inl (cI MB))), (m_coins, .inl (y 0, 144, .inl (cI MC)))] [.ref m0, zi bq, zi ts]) (qV (zl (corV ((MB (7 * bq)) - 2 * (MB (7 * bq + 3))) ((MB (7 * bq + 1)) - 2 * (MB (7 * bq + 3))) ((MB (7 * bq)) * (MB (7 * bq + 1)) * (MB (7 * bq + 2)) + vw + ts * (MB (7 * bq + 4))) vm vn))) 0 0 (fun _ => False) := by
  refine P_of (own := RX12) (cc := cX12_cornerUp) (maxL := 7) (ret := some .long) (by decide) rfl rfl (Nat.le_of_ble_eq_true rfl) (fun p e s m below meth c ls hx hb hr hC hlocks hPr hG hl => ?_)
  have hC0 := hC
  obtain ⟨-, -, hml, hown, hts⟩ := hC0
  have hK := hG.1
  have hinX12 : ∀ w ∈ wsX120, w ∈ wsX12_cornerUp := fun _ h => List.mem_cons_of_mem _ (List.mem_append_right _ h)
  have k1 := hts (.fieldLink RX12 137 "BoatsOfPaperModel" "momentM" "I") (List.mem_of_getElem? (i := 1) rfl)
  have k2 := hts (.fieldLink RX12 140 "BoatsOfPaperModel" "momentN" "I") (List.mem_of_getElem? (i := 2) rfl)
  have k3 := hts (.constantLong RX12 119 (3)) (List.mem_of_getElem? (i := 3) rfl)
  have hl : lv_has ls 7 [(0, .ref m0), (1, zi bq), (2, zi ts)] := hl
  have hB := hM.2 bq hbq.1 hbq.2
  obtain ⟨q1, q2, q3, q4, q5, q6, q7, q8, q9, qc⟩ := id hB
  have qf := hM.1
  have b4 := bOK_lwt hB
  have b6 := mul_bd (a := ts) (b := (MB (7 * bq + 4))) (A := 999) (B := 99) (by omega) (by omega) (by omega) (by omega)
  refine z_cut (σ := Int) 21 (fun x1 H lc ls st9 => (x1 = max vm (-vm)) ∧ lv_has ls 7 [(0, .ref m0), (1, zi bq), (2, zi ts)] ∧ st9 = [zl x1] ∧ H = s.heap ∧ lc = []) (fun hJ_1 => ?_) ?_
  ·
    refine lv_aload_n hx hb dX12_cornerUp_0 rfl (lv_at hl 0 rfl) ?_
    refine va_get hx hb hts hinX12 hown hK hPr 0 rfl rfl 14 (by decide) k1 (fun _ h => h) rfl dX12_cornerUp_1 ?_
    refine z_if_ge (tgt := 16) hx hb (by omega) dX12_cornerUp_4 (by decide) (fun c_4 => ?_) (fun c_4 => ?_)
    ·
      refine lv_aload_n hx hb dX12_cornerUp_16 rfl (lv_at hl 0 rfl) ?_
      refine va_get hx hb hts hinX12 hown hK hPr 0 rfl rfl 14 (by decide) k1 (fun _ h => h) rfl dX12_cornerUp_17 ?_
      refine z_i2l hx hb (by omega) dX12_cornerUp_20 ?_
      exact hJ_1 vm _ _ _ _ ⟨(by omega), lv_sub hl [0, 1, 2] rfl, rfl, rfl, rfl⟩
    ·
      refine lv_aload_n hx hb dX12_cornerUp_7 rfl (lv_at hl 0 rfl) ?_
      refine va_get hx hb hts hinX12 hown hK hPr 0 rfl rfl 14 (by decide) k1 (fun _ h => h) rfl dX12_cornerUp_8 ?_
      refine z_ineg hx hb dX12_cornerUp_11 ?_
      refine z_i2l hx hb (by omega) dX12_cornerUp_12 ?_
      refine lv_goto (tgt := 21) hx hb dX12_cornerUp_13 (by decide) ?_
      exact hJ_1 (-vm) _ _ _ _ ⟨(by omega), lv_sub hl [0, 1, 2] rfl, rfl, rfl, rfl⟩
  ·
    rintro x1 H lc ls st9 ⟨hj_2, hl, rfl, rfl, rfl⟩
    have e1 := hj_2
    refine lv_lstore_n (lv' := [(3, zl x1), (0, .ref m0), (1, zi bq), (2, zi ts)]) hx hb dX12_cornerUp_21 rfl hl (by decide) rfl (fun ls hl => ?_)
    refine z_cut (σ := Int) 43 (fun z1 H lc ls st9 => (z1 = max vn (-vn)) ∧ lv_has ls 7 [(3, zl x1), (0, .ref m0), (1, zi bq), (2, zi ts)] ∧ st9 = [zl z1] ∧ H = s.heap ∧ lc = []) (fun hJ_3 => ?_) ?_
    ·
      refine lv_aload_n hx hb dX12_cornerUp_22 rfl (lv_at hl 1 rfl) ?_
      refine va_get hx hb hts hinX12 hown hK hPr 0 rfl rfl 15 (by decide) k2 (fun _ h => h) rfl dX12_cornerUp_23 ?_
      refine z_if_ge (tgt := 38) hx hb (by omega) dX12_cornerUp_26 (by decide) (fun c_26 => ?_) (fun c_26 => ?_)
      ·
        refine lv_aload_n hx hb dX12_cornerUp_38 rfl (lv_at hl 1 rfl) ?_
        refine va_get hx hb hts hinX12 hown hK hPr 0 rfl rfl 15 (by decide) k2 (fun _ h => h) rfl dX12_cornerUp_39 ?_
        refine z_i2l hx hb (by omega) dX12_cornerUp_42 ?_
        exact hJ_3 vn _ _ _ _ ⟨(by omega), lv_sub hl [0, 1, 2, 3] rfl, rfl, rfl, rfl⟩
      ·
        refine lv_aload_n hx hb dX12_cornerUp_29 rfl (lv_at hl 1 rfl) ?_
        refine va_get hx hb hts hinX12 hown hK hPr 0 rfl rfl 15 (by decide) k2 (fun _ h => h) rfl dX12_cornerUp_30 ?_
        refine z_ineg hx hb dX12_cornerUp_33 ?_
        refine z_i2l hx hb (by omega) dX12_cornerUp_34 ?_
        refine lv_goto (tgt := 43) hx hb dX12_cornerUp_35 (by decide) ?_
        exact hJ_3 (-vn) _ _ _ _ ⟨(by omega), lv_sub hl [0, 1, 2, 3] rfl, rfl, rfl, rfl⟩
    ·
      rintro z1 H lc ls st9 ⟨hj_4, hl, rfl, rfl, rfl⟩
      have e2 := hj_4
      refine lv_lstore (lv' := [(5, zl z1), (3, zl x1), (0, .ref m0), (1, zi bq), (2, zi ts)]) hx hb dX12_cornerUp_43 hl (by decide) rfl (fun ls hl => ?_)
      refine lv_aload_n hx hb dX12_cornerUp_45 rfl (lv_at hl 2 rfl) ?_
      refine lv_iload_n hx hb dX12_cornerUp_46 rfl (lv_at hl 3 rfl) ?_
      refine lv_iload_n hx hb dX12_cornerUp_47 rfl (lv_at hl 4 rfl) ?_
      refine z_pV (As := [zi bq, zi ts]) (rest := []) hC (c_X12_weighs l D y m0 m_read rl rp m_gut gl gp gx gy m_text tn fn m_boat m_coins vw vm vn m_rest m_ends vc m_chan m_spl fs rn m_rf m_rr m_ik m_km m_kb m_kc m_kf m_kr MB MC bq ts (by first | assumption | omega) (by first | assumption | omega) (by first | assumption | omega) (by first | assumption | omega)) (cwV 2 hts gX12_cornerUp_X12_weighs rfl rfl rfl (by decide +kernel) ⟨Nat.le_of_ble_eq_true rfl, Nat.le_of_ble_eq_true rfl⟩) hG (hPr.sub (ws' := [(m0, .inr (11, [.ref m_read, zi rl, zi rp, .ref m_gut, zi gl, zi gp, zi gx, zi gy, .ref m_text, zi tn, zi fn, .ref m_boat, .ref m_coins, zi vw, zi vm, zi vn, .ref m_rest, .ref m_ends, zl vc, .ref m_chan, .ref m_spl, zi fs, zi rn, .ref m_rf, .ref m_rr, .ref m_ik, .ref m_km, .ref m_kb, .ref m_kc, .ref m_kf, .ref m_kr])), (m_boat, .inl (y 0, 42, .inl (cI MB))), (m_coins, .inl (y 0, 144, .inl (cI MC)))]) [0, 1, 2] rfl) 0 rfl rfl rfl hl.1 rfl (Nat.le_of_ble_eq_true rfl) dX12_cornerUp_48 ⟨Nat.le_of_ble_eq_true rfl, Nat.le_of_ble_eq_true rfl⟩ ?_
      refine lv_aload_n hx hb dX12_cornerUp_51 rfl (lv_at hl 2 rfl) ?_
      refine lv_iload_n hx hb dX12_cornerUp_52 rfl (lv_at hl 3 rfl) ?_
      refine z_iconst hx hb dX12_cornerUp_53 ?_
      refine z_pV (As := [zi bq, zi 0]) (rest := [zl ((MB (7 * bq)) * (MB (7 * bq + 1)) * (MB (7 * bq + 2)) + vw + ts * (MB (7 * bq + 4)))]) hC (c_X12_wide_0 l D y m0 m_read rl rp m_gut gl gp gx gy m_text tn fn m_boat m_coins vw vm vn m_rest m_ends vc m_chan m_spl fs rn m_rf m_rr m_ik m_km m_kb m_kc m_kf m_kr MB MC bq (by first | assumption | omega) (by first | assumption | omega)) (cwV 2 hts gX12_cornerUp_X12_wide rfl rfl rfl (by decide +kernel) ⟨Nat.le_of_ble_eq_true rfl, Nat.le_of_ble_eq_true rfl⟩) hG (hPr.sub (ws' := [(m0, .inr (11, [.ref m_read, zi rl, zi rp, .ref m_gut, zi gl, zi gp, zi gx, zi gy, .ref m_text, zi tn, zi fn, .ref m_boat, .ref m_coins, zi vw, zi vm, zi vn, .ref m_rest, .ref m_ends, zl vc, .ref m_chan, .ref m_spl, zi fs, zi rn, .ref m_rf, .ref m_rr, .ref m_ik, .ref m_km, .ref m_kb, .ref m_kc, .ref m_kf, .ref m_kr])), (m_boat, .inl (y 0, 42, .inl (cI MB))), (m_coins, .inl (y 0, 144, .inl (cI MC)))]) [0, 1, 2] rfl) 0 rfl rfl rfl hl.1 rfl (Nat.le_of_ble_eq_true rfl) dX12_cornerUp_54 ⟨Nat.le_of_ble_eq_true rfl, Nat.le_of_ble_eq_true rfl⟩ ?_
      refine z_i2l hx hb (by omega) dX12_cornerUp_57 ?_
      refine z_lmul hx hb dX12_cornerUp_58 ?_
      refine lv_aload_n hx hb dX12_cornerUp_59 rfl (lv_at hl 2 rfl) ?_
      refine lv_iload_n hx hb dX12_cornerUp_60 rfl (lv_at hl 3 rfl) ?_
      refine z_iconst hx hb dX12_cornerUp_61 ?_
      refine z_pV (As := [zi bq, zi 1]) (rest := [zl (((MB (7 * bq)) * (MB (7 * bq + 1)) * (MB (7 * bq + 2)) + vw + ts * (MB (7 * bq + 4))) * ((MB (7 * bq)) - 2 * (MB (7 * bq + 3))))]) hC (c_X12_wide_1 l D y m0 m_read rl rp m_gut gl gp gx gy m_text tn fn m_boat m_coins vw vm vn m_rest m_ends vc m_chan m_spl fs rn m_rf m_rr m_ik m_km m_kb m_kc m_kf m_kr MB MC bq (by first | assumption | omega) (by first | assumption | omega)) (cwV 2 hts gX12_cornerUp_X12_wide rfl rfl rfl (by decide +kernel) ⟨Nat.le_of_ble_eq_true rfl, Nat.le_of_ble_eq_true rfl⟩) hG (hPr.sub (ws' := [(m0, .inr (11, [.ref m_read, zi rl, zi rp, .ref m_gut, zi gl, zi gp, zi gx, zi gy, .ref m_text, zi tn, zi fn, .ref m_boat, .ref m_coins, zi vw, zi vm, zi vn, .ref m_rest, .ref m_ends, zl vc, .ref m_chan, .ref m_spl, zi fs, zi rn, .ref m_rf, .ref m_rr, .ref m_ik, .ref m_km, .ref m_kb, .ref m_kc, .ref m_kf, .ref m_kr])), (m_boat, .inl (y 0, 42, .inl (cI MB))), (m_coins, .inl (y 0, 144, .inl (cI MC)))]) [0, 1, 2] rfl) 0 rfl rfl rfl hl.1 rfl (Nat.le_of_ble_eq_true rfl) dX12_cornerUp_62 ⟨Nat.le_of_ble_eq_true rfl, Nat.le_of_ble_eq_true rfl⟩ ?_
      refine z_i2l hx hb (by omega) dX12_cornerUp_65 ?_
      refine z_lmul hx hb dX12_cornerUp_66 ?_
      refine lv_ldc2 (v := iL 3) hx hb hown k3 dX12_cornerUp_67 ?_
      refine lv_lload_n hx hb dX12_cornerUp_70 rfl (lv_at hl 1 rfl) ?_
      refine z_lmul hx hb dX12_cornerUp_71 ?_
      refine lv_aload_n hx hb dX12_cornerUp_72 rfl (lv_at hl 2 rfl) ?_
      refine lv_iload_n hx hb dX12_cornerUp_73 rfl (lv_at hl 3 rfl) ?_
      refine z_iconst hx hb dX12_cornerUp_74 ?_
      refine z_pV (As := [zi bq, zi 1]) (rest := [zl (3 * x1), zl ((((MB (7 * bq)) * (MB (7 * bq + 1)) * (MB (7 * bq + 2)) + vw + ts * (MB (7 * bq + 4))) * ((MB (7 * bq)) - 2 * (MB (7 * bq + 3)))) * ((MB (7 * bq + 1)) - 2 * (MB (7 * bq + 3))))]) hC (c_X12_wide_1 l D y m0 m_read rl rp m_gut gl gp gx gy m_text tn fn m_boat m_coins vw vm vn m_rest m_ends vc m_chan m_spl fs rn m_rf m_rr m_ik m_km m_kb m_kc m_kf m_kr MB MC bq (by first | assumption | omega) (by first | assumption | omega)) (cwV 2 hts gX12_cornerUp_X12_wide rfl rfl rfl (by decide +kernel) ⟨Nat.le_of_ble_eq_true rfl, Nat.le_of_ble_eq_true rfl⟩) hG (hPr.sub (ws' := [(m0, .inr (11, [.ref m_read, zi rl, zi rp, .ref m_gut, zi gl, zi gp, zi gx, zi gy, .ref m_text, zi tn, zi fn, .ref m_boat, .ref m_coins, zi vw, zi vm, zi vn, .ref m_rest, .ref m_ends, zl vc, .ref m_chan, .ref m_spl, zi fs, zi rn, .ref m_rf, .ref m_rr, .ref m_ik, .ref m_km, .ref m_kb, .ref m_kc, .ref m_kf, .ref m_kr])), (m_boat, .inl (y 0, 42, .inl (cI MB))), (m_coins, .inl (y 0, 144, .inl (cI MC)))]) [0, 1, 2] rfl) 0 rfl rfl rfl hl.1 rfl (Nat.le_of_ble_eq_true rfl) dX12_cornerUp_75 ⟨Nat.le_of_ble_eq_true rfl, Nat.le_of_ble_eq_true rfl⟩ ?_
      refine z_i2l hx hb (by omega) dX12_cornerUp_78 ?_
      refine z_lmul hx hb dX12_cornerUp_79 ?_
      refine z_ladd hx hb dX12_cornerUp_80 ?_
      refine lv_ldc2 (v := iL 3) hx hb hown k3 dX12_cornerUp_81 ?_
      refine lv_lload hx hb dX12_cornerUp_84 (lv_at hl 0 rfl) ?_
      refine z_lmul hx hb dX12_cornerUp_86 ?_
      refine lv_aload_n hx hb dX12_cornerUp_87 rfl (lv_at hl 2 rfl) ?_
      refine lv_iload_n hx hb dX12_cornerUp_88 rfl (lv_at hl 3 rfl) ?_
      refine z_iconst hx hb dX12_cornerUp_89 ?_
      refine z_pV (As := [zi bq, zi 0]) (rest := [zl (3 * z1), zl (((((MB (7 * bq)) * (MB (7 * bq + 1)) * (MB (7 * bq + 2)) + vw + ts * (MB (7 * bq + 4))) * ((MB (7 * bq)) - 2 * (MB (7 * bq + 3)))) * ((MB (7 * bq + 1)) - 2 * (MB (7 * bq + 3)))) + ((3 * x1) * ((MB (7 * bq + 1)) - 2 * (MB (7 * bq + 3)))))]) hC (c_X12_wide_0 l D y m0 m_read rl rp m_gut gl gp gx gy m_text tn fn m_boat m_coins vw vm vn m_rest m_ends vc m_chan m_spl fs rn m_rf m_rr m_ik m_km m_kb m_kc m_kf m_kr MB MC bq (by first | assumption | omega) (by first | assumption | omega)) (cwV 2 hts gX12_cornerUp_X12_wide rfl rfl rfl (by decide +kernel) ⟨Nat.le_of_ble_eq_true rfl, Nat.le_of_ble_eq_true rfl⟩) hG (hPr.sub (ws' := [(m0, .inr (11, [.ref m_read, zi rl, zi rp, .ref m_gut, zi gl, zi gp, zi gx, zi gy, .ref m_text, zi tn, zi fn, .ref m_boat, .ref m_coins, zi vw, zi vm, zi vn, .ref m_rest, .ref m_ends, zl vc, .ref m_chan, .ref m_spl, zi fs, zi rn, .ref m_rf, .ref m_rr, .ref m_ik, .ref m_km, .ref m_kb, .ref m_kc, .ref m_kf, .ref m_kr])), (m_boat, .inl (y 0, 42, .inl (cI MB))), (m_coins, .inl (y 0, 144, .inl (cI MC)))]) [0, 1, 2] rfl) 0 rfl rfl rfl hl.1 rfl (Nat.le_of_ble_eq_true rfl) dX12_cornerUp_90 ⟨Nat.le_of_ble_eq_true rfl, Nat.le_of_ble_eq_true rfl⟩ ?_
      refine z_i2l hx hb (by omega) dX12_cornerUp_93 ?_
      refine z_lmul hx hb dX12_cornerUp_94 ?_
      refine z_ladd hx hb dX12_cornerUp_95 ?_
      exact z_lret0 hx hb hr hlocks (by rw [← cor_eq, ← e1, ← e2]) dX12_cornerUp_96
set_option maxHeartbeats 8000000 in
set_option maxRecDepth 100000 in
theorem c_X12_cornerDown (l : Launch) (D : va_G) (y : Nat → ClassId) (m0 : Nat) (m_read : Nat) (rl : Int) (rp : Int) (m_gut : Nat) (gl : Int) (gp : Int) (gx : Int) (gy : Int) (m_text : Nat) (tn : Int) (fn : Int) (m_boat : Nat) (m_coins : Nat) (vw : Int) (vm : Int) (vn : Int) (m_rest : Nat) (m_ends : Nat) (vc : Int) (m_chan : Nat) (m_spl : Nat) (fs : Int) (rn : Int) (m_rf : Nat) (m_rr : Nat) (m_ik : Nat) (m_km : Nat) (m_kb : Nat) (m_kc : Nat) (m_kf : Nat) (m_kr : Nat) (MB : Int → Int) (MC : Int → Int) (bq : Int) (hM : mbOK fn MB MC) (hbq : 0 ≤ bq ∧ bq < fn) : Met l yX12_cornerDown wsX12_cornerDown ({ frames := 1, cells := 0, slots := 0, locals := 22 } : Room) (pPc D y [(m0, .inr (11, [.ref m_read, zi rl, zi rp, .ref m_gut, zi gl, zi gp, zi gx, zi gy, .ref m_text, zi tn, zi fn, .ref m_boat, .ref m_coins, zi vw, zi vm, zi vn, .ref m_rest, .ref m_ends, zl vc, .ref m_chan, .ref m_spl, zi fs, zi rn, .ref m_rf, .ref m_rr, .ref m_ik, .ref m_km, .ref m_kb, .ref m_kc, .ref m_kf, .ref m_kr])), (m_boat, .inl (y 0, 42, .inl (cI MB))), (m_coins, .inl (y 0, 144, .inl (cI MC)))] [.ref m0, zi bq]) (qV (zl (unitV ((MB (7 * bq)) - 2 * (MB (7 * bq + 3))) ((MB (7 * bq + 1)) - 2 * (MB (7 * bq + 3)))))) 0 0 (fun _ => False) := by
  refine P_of (own := RX12) (cc := cX12_cornerDown) (maxL := 2) (ret := some .long) (by decide) rfl rfl (Nat.le_of_ble_eq_true rfl) (fun p e s m below meth c ls hx hb hr hC hlocks hPr hG hl => ?_)
  have hC0 := hC
  obtain ⟨-, -, hml, hown, hts⟩ := hC0
  have hK := hG.1
  have k1 := hts (.constantLong RX12 161 (100)) (List.mem_of_getElem? (i := 1) rfl)
  have hl : lv_has ls 2 [(0, .ref m0), (1, zi bq)] := hl
  have hB := hM.2 bq hbq.1 hbq.2
  obtain ⟨q1, q2, q3, q4, q5, q6, q7, q8, q9, qc⟩ := id hB
  have qf := hM.1
  refine lv_ldc2 (v := iL 100) hx hb hown k1 dX12_cornerDown_0 ?_
  refine lv_aload_n hx hb dX12_cornerDown_3 rfl (lv_at hl 0 rfl) ?_
  refine lv_iload_n hx hb dX12_cornerDown_4 rfl (lv_at hl 1 rfl) ?_
  refine z_iconst hx hb dX12_cornerDown_5 ?_
  refine z_pV (As := [zi bq, zi 0]) (rest := [zl 100]) hC (c_X12_wide_0 l D y m0 m_read rl rp m_gut gl gp gx gy m_text tn fn m_boat m_coins vw vm vn m_rest m_ends vc m_chan m_spl fs rn m_rf m_rr m_ik m_km m_kb m_kc m_kf m_kr MB MC bq (by first | assumption | omega) (by first | assumption | omega)) (cwV 2 hts gX12_cornerDown_X12_wide rfl rfl rfl (by decide +kernel) ⟨Nat.le_of_ble_eq_true rfl, Nat.le_of_ble_eq_true rfl⟩) hG (hPr.sub (ws' := [(m0, .inr (11, [.ref m_read, zi rl, zi rp, .ref m_gut, zi gl, zi gp, zi gx, zi gy, .ref m_text, zi tn, zi fn, .ref m_boat, .ref m_coins, zi vw, zi vm, zi vn, .ref m_rest, .ref m_ends, zl vc, .ref m_chan, .ref m_spl, zi fs, zi rn, .ref m_rf, .ref m_rr, .ref m_ik, .ref m_km, .ref m_kb, .ref m_kc, .ref m_kf, .ref m_kr])), (m_boat, .inl (y 0, 42, .inl (cI MB))), (m_coins, .inl (y 0, 144, .inl (cI MC)))]) [0, 1, 2] rfl) 0 rfl rfl rfl hl.1 rfl (Nat.le_of_ble_eq_true rfl) dX12_cornerDown_6 ⟨Nat.le_of_ble_eq_true rfl, Nat.le_of_ble_eq_true rfl⟩ ?_
  refine z_i2l hx hb (by omega) dX12_cornerDown_9 ?_
  refine z_lmul hx hb dX12_cornerDown_10 ?_
  refine lv_aload_n hx hb dX12_cornerDown_11 rfl (lv_at hl 0 rfl) ?_
  refine lv_iload_n hx hb dX12_cornerDown_12 rfl (lv_at hl 1 rfl) ?_
  refine z_iconst hx hb dX12_cornerDown_13 ?_
  refine z_pV (As := [zi bq, zi 0]) (rest := [zl (100 * ((MB (7 * bq)) - 2 * (MB (7 * bq + 3))))]) hC (c_X12_wide_0 l D y m0 m_read rl rp m_gut gl gp gx gy m_text tn fn m_boat m_coins vw vm vn m_rest m_ends vc m_chan m_spl fs rn m_rf m_rr m_ik m_km m_kb m_kc m_kf m_kr MB MC bq (by first | assumption | omega) (by first | assumption | omega)) (cwV 2 hts gX12_cornerDown_X12_wide rfl rfl rfl (by decide +kernel) ⟨Nat.le_of_ble_eq_true rfl, Nat.le_of_ble_eq_true rfl⟩) hG (hPr.sub (ws' := [(m0, .inr (11, [.ref m_read, zi rl, zi rp, .ref m_gut, zi gl, zi gp, zi gx, zi gy, .ref m_text, zi tn, zi fn, .ref m_boat, .ref m_coins, zi vw, zi vm, zi vn, .ref m_rest, .ref m_ends, zl vc, .ref m_chan, .ref m_spl, zi fs, zi rn, .ref m_rf, .ref m_rr, .ref m_ik, .ref m_km, .ref m_kb, .ref m_kc, .ref m_kf, .ref m_kr])), (m_boat, .inl (y 0, 42, .inl (cI MB))), (m_coins, .inl (y 0, 144, .inl (cI MC)))]) [0, 1, 2] rfl) 0 rfl rfl rfl hl.1 rfl (Nat.le_of_ble_eq_true rfl) dX12_cornerDown_14 ⟨Nat.le_of_ble_eq_true rfl, Nat.le_of_ble_eq_true rfl⟩ ?_
  refine z_i2l hx hb (by omega) dX12_cornerDown_17 ?_
  refine z_lmul hx hb dX12_cornerDown_18 ?_
  refine lv_aload_n hx hb dX12_cornerDown_19 rfl (lv_at hl 0 rfl) ?_
  refine lv_iload_n hx hb dX12_cornerDown_20 rfl (lv_at hl 1 rfl) ?_
  refine z_iconst hx hb dX12_cornerDown_21 ?_
  refine z_pV (As := [zi bq, zi 1]) (rest := [zl ((100 * ((MB (7 * bq)) - 2 * (MB (7 * bq + 3)))) * ((MB (7 * bq)) - 2 * (MB (7 * bq + 3))))]) hC (c_X12_wide_1 l D y m0 m_read rl rp m_gut gl gp gx gy m_text tn fn m_boat m_coins vw vm vn m_rest m_ends vc m_chan m_spl fs rn m_rf m_rr m_ik m_km m_kb m_kc m_kf m_kr MB MC bq (by first | assumption | omega) (by first | assumption | omega)) (cwV 2 hts gX12_cornerDown_X12_wide rfl rfl rfl (by decide +kernel) ⟨Nat.le_of_ble_eq_true rfl, Nat.le_of_ble_eq_true rfl⟩) hG (hPr.sub (ws' := [(m0, .inr (11, [.ref m_read, zi rl, zi rp, .ref m_gut, zi gl, zi gp, zi gx, zi gy, .ref m_text, zi tn, zi fn, .ref m_boat, .ref m_coins, zi vw, zi vm, zi vn, .ref m_rest, .ref m_ends, zl vc, .ref m_chan, .ref m_spl, zi fs, zi rn, .ref m_rf, .ref m_rr, .ref m_ik, .ref m_km, .ref m_kb, .ref m_kc, .ref m_kf, .ref m_kr])), (m_boat, .inl (y 0, 42, .inl (cI MB))), (m_coins, .inl (y 0, 144, .inl (cI MC)))]) [0, 1, 2] rfl) 0 rfl rfl rfl hl.1 rfl (Nat.le_of_ble_eq_true rfl) dX12_cornerDown_22 ⟨Nat.le_of_ble_eq_true rfl, Nat.le_of_ble_eq_true rfl⟩ ?_
  refine z_i2l hx hb (by omega) dX12_cornerDown_25 ?_
  refine z_lmul hx hb dX12_cornerDown_26 ?_
  refine lv_aload_n hx hb dX12_cornerDown_27 rfl (lv_at hl 0 rfl) ?_
  refine lv_iload_n hx hb dX12_cornerDown_28 rfl (lv_at hl 1 rfl) ?_
  refine z_iconst hx hb dX12_cornerDown_29 ?_
  refine z_pV (As := [zi bq, zi 1]) (rest := [zl (((100 * ((MB (7 * bq)) - 2 * (MB (7 * bq + 3)))) * ((MB (7 * bq)) - 2 * (MB (7 * bq + 3)))) * ((MB (7 * bq + 1)) - 2 * (MB (7 * bq + 3))))]) hC (c_X12_wide_1 l D y m0 m_read rl rp m_gut gl gp gx gy m_text tn fn m_boat m_coins vw vm vn m_rest m_ends vc m_chan m_spl fs rn m_rf m_rr m_ik m_km m_kb m_kc m_kf m_kr MB MC bq (by first | assumption | omega) (by first | assumption | omega)) (cwV 2 hts gX12_cornerDown_X12_wide rfl rfl rfl (by decide +kernel) ⟨Nat.le_of_ble_eq_true rfl, Nat.le_of_ble_eq_true rfl⟩) hG (hPr.sub (ws' := [(m0, .inr (11, [.ref m_read, zi rl, zi rp, .ref m_gut, zi gl, zi gp, zi gx, zi gy, .ref m_text, zi tn, zi fn, .ref m_boat, .ref m_coins, zi vw, zi vm, zi vn, .ref m_rest, .ref m_ends, zl vc, .ref m_chan, .ref m_spl, zi fs, zi rn, .ref m_rf, .ref m_rr, .ref m_ik, .ref m_km, .ref m_kb, .ref m_kc, .ref m_kf, .ref m_kr])), (m_boat, .inl (y 0, 42, .inl (cI MB))), (m_coins, .inl (y 0, 144, .inl (cI MC)))]) [0, 1, 2] rfl) 0 rfl rfl rfl hl.1 rfl (Nat.le_of_ble_eq_true rfl) dX12_cornerDown_30 ⟨Nat.le_of_ble_eq_true rfl, Nat.le_of_ble_eq_true rfl⟩ ?_
  refine z_i2l hx hb (by omega) dX12_cornerDown_33 ?_
  refine z_lmul hx hb dX12_cornerDown_34 ?_
  exact z_lret0 hx hb hr hlocks (by first | exact unit_eq _ _ | exact (unit_eq _ _).symm) dX12_cornerDown_35
set_option maxHeartbeats 8000000 in
set_option maxRecDepth 100000 in
theorem c_X12_corner_no (l : Launch) (D : va_G) (y : Nat → ClassId) (m0 : Nat) (m_read : Nat) (rl : Int) (rp : Int) (m_gut : Nat) (gl : Int) (gp : Int) (gx : Int) (gy : Int) (m_text : Nat) (tn : Int) (fn : Int) (m_boat : Nat) (m_coins : Nat) (vw : Int) (vm : Int) (vn : Int) (m_rest : Nat) (m_ends : Nat) (vc : Int) (m_chan : Nat) (m_spl : Nat) (fs : Int) (rn : Int) (m_rf : Nat) (m_rr : Nat) (m_ik : Nat) (m_km : Nat) (m_kb : Nat) (m_kc : Nat) (m_kf : Nat) (m_kr : Nat) (bq : Int) (ts : Int) (uq : Int) (hbq : rI bq ∧ 0 ≤ fn ∧ fn ≤ 6 ∧ ¬ (0 ≤ bq ∧ bq < fn)) : Met l yX12_corner wsX12_corner ({ frames := 2, cells := 0, slots := 0, locals := 46 } : Room) (pPc D y [(m0, .inr (11, [.ref m_read, zi rl, zi rp, .ref m_gut, zi gl, zi gp, zi gx, zi gy, .ref m_text, zi tn, zi fn, .ref m_boat, .ref m_coins, zi vw, zi vm, zi vn, .ref m_rest, .ref m_ends, zl vc, .ref m_chan, .ref m_spl, zi fs, zi rn, .ref m_rf, .ref m_rr, .ref m_ik, .ref m_km, .ref m_kb, .ref m_kc, .ref m_kf, .ref m_kr]))] [.ref m0, zi bq, zi ts, zi uq]) (qV (zl (-1))) 0 0 (fun _ => False) := by
  refine P_of (own := RX12) (cc := cX12_corner) (maxL := 4) (ret := some .long) (by decide) rfl rfl (Nat.le_of_ble_eq_true rfl) (fun p e s m below meth c ls hx hb hr hC hlocks hPr hG hl => ?_)
  have hC0 := hC
  obtain ⟨-, -, hml, hown, hts⟩ := hC0
  have hK := hG.1
  have k1 := hts (.constantLong RX12 151 (-1)) (List.mem_of_getElem? (i := 1) rfl)
  have hl : lv_has ls 4 [(0, .ref m0), (1, zi bq), (2, zi ts), (3, zi uq)] := hl
  refine lv_aload_n hx hb dX12_corner_0 rfl (lv_at hl 0 rfl) ?_
  refine lv_iload_n hx hb dX12_corner_1 rfl (lv_at hl 1 rfl) ?_
  refine z_pV (As := [zi bq]) (rest := []) hC (c_X12_isBoat l D y m0 m_read rl rp m_gut gl gp gx gy m_text tn fn m_boat m_coins vw vm vn m_rest m_ends vc m_chan m_spl fs rn m_rf m_rr m_ik m_km m_kb m_kc m_kf m_kr bq (by first | assumption | omega) (by first | assumption | omega)) (cwV 1 hts gX12_corner_X12_isBoat rfl rfl rfl (by decide +kernel) ⟨Nat.le_of_ble_eq_true rfl, Nat.le_of_ble_eq_true rfl⟩) hG (hPr.sub (ws' := [(m0, .inr (11, [.ref m_read, zi rl, zi rp, .ref m_gut, zi gl, zi gp, zi gx, zi gy, .ref m_text, zi tn, zi fn, .ref m_boat, .ref m_coins, zi vw, zi vm, zi vn, .ref m_rest, .ref m_ends, zl vc, .ref m_chan, .ref m_spl, zi fs, zi rn, .ref m_rf, .ref m_rr, .ref m_ik, .ref m_km, .ref m_kb, .ref m_kc, .ref m_kf, .ref m_kr]))]) [0] rfl) 0 rfl rfl rfl hl.1 rfl (Nat.le_of_ble_eq_true rfl) dX12_corner_2 ⟨Nat.le_of_ble_eq_true rfl, Nat.le_of_ble_eq_true rfl⟩ ?_
  refine z_ifB_ne (tgt := 12) hx hb dX12_corner_5 (by decide) (fun c_5 => ?_) (fun c_5 => ?_)
  · exfalso; omega
  ·
    refine lv_ldc2 (v := iL (-1)) hx hb hown k1 dX12_corner_8 ?_
    exact z_lret0 hx hb hr hlocks (rfl) dX12_corner_11
set_option maxHeartbeats 8000000 in
set_option maxRecDepth 100000 in
theorem c_X12_corner_out (l : Launch) (D : va_G) (y : Nat → ClassId) (m0 : Nat) (m_read : Nat) (rl : Int) (rp : Int) (m_gut : Nat) (gl : Int) (gp : Int) (gx : Int) (gy : Int) (m_text : Nat) (tn : Int) (fn : Int) (m_boat : Nat) (m_coins : Nat) (vw : Int) (vm : Int) (vn : Int) (m_rest : Nat) (m_ends : Nat) (vc : Int) (m_chan : Nat) (m_spl : Nat) (fs : Int) (rn : Int) (m_rf : Nat) (m_rr : Nat) (m_ik : Nat) (m_km : Nat) (m_kb : Nat) (m_kc : Nat) (m_kf : Nat) (m_kr : Nat) (MB : Int → Int) (MC : Int → Int) (bq : Int) (ts : Int) (uq : Int) (hM : mbOK fn MB MC) (hbq : 0 ≤ bq ∧ bq < fn) (hr9 : rI ts) (hq : ¬ (0 ≤ ts ∧ ts ≤ 999)) : Met l yX12_corner wsX12_corner ({ frames := 2, cells := 0, slots := 0, locals := 46 } : Room) (pPc D y [(m0, .inr (11, [.ref m_read, zi rl, zi rp, .ref m_gut, zi gl, zi gp, zi gx, zi gy, .ref m_text, zi tn, zi fn, .ref m_boat, .ref m_coins, zi vw, zi vm, zi vn, .ref m_rest, .ref m_ends, zl vc, .ref m_chan, .ref m_spl, zi fs, zi rn, .ref m_rf, .ref m_rr, .ref m_ik, .ref m_km, .ref m_kb, .ref m_kc, .ref m_kf, .ref m_kr])), (m_boat, .inl (y 0, 42, .inl (cI MB))), (m_coins, .inl (y 0, 144, .inl (cI MC)))] [.ref m0, zi bq, zi ts, zi uq]) (qV (zl (-2))) 0 0 (fun _ => False) := by
  refine P_of (own := RX12) (cc := cX12_corner) (maxL := 4) (ret := some .long) (by decide) rfl rfl (Nat.le_of_ble_eq_true rfl) (fun p e s m below meth c ls hx hb hr hC hlocks hPr hG hl => ?_)
  have hC0 := hC
  obtain ⟨-, -, hml, hown, hts⟩ := hC0
  have hK := hG.1
  have k2 := hts (.constantLong RX12 153 (999)) (List.mem_of_getElem? (i := 2) rfl)
  have k3 := hts (.constantLong RX12 155 (-2)) (List.mem_of_getElem? (i := 3) rfl)
  have hl : lv_has ls 4 [(0, .ref m0), (1, zi bq), (2, zi ts), (3, zi uq)] := hl
  have hB := hM.2 bq hbq.1 hbq.2
  obtain ⟨q1, q2, q3, q4, q5, q6, q7, q8, q9, qc⟩ := id hB
  have qf := hM.1
  refine lv_aload_n hx hb dX12_corner_0 rfl (lv_at hl 0 rfl) ?_
  refine lv_iload_n hx hb dX12_corner_1 rfl (lv_at hl 1 rfl) ?_
  refine z_pV (As := [zi bq]) (rest := []) hC (c_X12_isBoat l D y m0 m_read rl rp m_gut gl gp gx gy m_text tn fn m_boat m_coins vw vm vn m_rest m_ends vc m_chan m_spl fs rn m_rf m_rr m_ik m_km m_kb m_kc m_kf m_kr bq (by first | assumption | omega) (by first | assumption | omega)) (cwV 1 hts gX12_corner_X12_isBoat rfl rfl rfl (by decide +kernel) ⟨Nat.le_of_ble_eq_true rfl, Nat.le_of_ble_eq_true rfl⟩) hG (hPr.sub (ws' := [(m0, .inr (11, [.ref m_read, zi rl, zi rp, .ref m_gut, zi gl, zi gp, zi gx, zi gy, .ref m_text, zi tn, zi fn, .ref m_boat, .ref m_coins, zi vw, zi vm, zi vn, .ref m_rest, .ref m_ends, zl vc, .ref m_chan, .ref m_spl, zi fs, zi rn, .ref m_rf, .ref m_rr, .ref m_ik, .ref m_km, .ref m_kb, .ref m_kc, .ref m_kf, .ref m_kr]))]) [0] rfl) 0 rfl rfl rfl hl.1 rfl (Nat.le_of_ble_eq_true rfl) dX12_corner_2 ⟨Nat.le_of_ble_eq_true rfl, Nat.le_of_ble_eq_true rfl⟩ ?_
  refine z_ifB_ne (tgt := 12) hx hb dX12_corner_5 (by decide) (fun c_5 => ?_) (fun c_5 => ?_)
  ·
    refine lv_iload_n hx hb dX12_corner_12 rfl (lv_at hl 2 rfl) ?_
    refine z_i2l hx hb (by omega) dX12_corner_13 ?_
    refine lv_lconst (v := iL 0) hx hb dX12_corner_14 rfl ?_
    refine lv_ldc2 (v := iL 999) hx hb hown k2 dX12_corner_15 ?_
    refine z_pS (As := [zl ts, zl 0, zl 999]) (rest := []) hC (c_X12_in l D y ts 0 999 (by first | assumption | omega)) (va_cwS 3 hts gX12_corner_X12_in rfl rfl rfl (by decide +kernel) ⟨Nat.le_of_ble_eq_true rfl, Nat.le_of_ble_eq_true rfl⟩) hG va_P_nil rfl hl.1 rfl (Nat.le_of_ble_eq_true rfl) dX12_corner_18 ⟨Nat.le_of_ble_eq_true rfl, Nat.le_of_ble_eq_true rfl⟩ ?_
    refine z_ifB_ne (tgt := 28) hx hb dX12_corner_21 (by decide) (fun c_21 => ?_) (fun c_21 => ?_)
    · exfalso; omega
    ·
      refine lv_ldc2 (v := iL (-2)) hx hb hown k3 dX12_corner_24 ?_
      exact z_lret0 hx hb hr hlocks (rfl) dX12_corner_27
  · exfalso; omega
set_option maxHeartbeats 8000000 in
set_option maxRecDepth 100000 in
theorem c_X12_corner (l : Launch) (D : va_G) (y : Nat → ClassId) (m0 : Nat) (m_read : Nat) (rl : Int) (rp : Int) (m_gut : Nat) (gl : Int) (gp : Int) (gx : Int) (gy : Int) (m_text : Nat) (tn : Int) (fn : Int) (m_boat : Nat) (m_coins : Nat) (vw : Int) (vm : Int) (vn : Int) (m_rest : Nat) (m_ends : Nat) (vc : Int) (m_chan : Nat) (m_spl : Nat) (fs : Int) (rn : Int) (m_rf : Nat) (m_rr : Nat) (m_ik : Nat) (m_km : Nat) (m_kb : Nat) (m_kc : Nat) (m_kf : Nat) (m_kr : Nat) (MB : Int → Int) (MC : Int → Int) (bq : Int) (ts : Int) (uq : Int) (hM : mbOK fn MB MC) (hbq : 0 ≤ bq ∧ bq < fn) (hs : 0 ≤ ts ∧ ts ≤ 999) (huq : uq = 0 ∨ uq = 1) (sz : Nat) : Met l yX12_corner wsX12_corner ({ frames := 2, cells := 0, slots := 0, locals := 48 } : Room) (wPc D y [] [(m0, .inr (11, [.ref m_read, zi rl, zi rp, .ref m_gut, zi gl, zi gp, zi gx, zi gy, .ref m_text, zi tn, zi fn, .ref m_boat, .ref m_coins, zi vw, zi vm, zi vn, .ref m_rest, .ref m_ends, zl vc, .ref m_chan, .ref m_spl, zi fs, zi rn, .ref m_rf, .ref m_rr, .ref m_ik, .ref m_km, .ref m_kb, .ref m_kc, .ref m_kf, .ref m_kr])), (m_boat, .inl (y 0, 42, .inl (cI MB))), (m_coins, .inl (y 0, 144, .inl (cI MC)))] sz [.ref m0, zi bq, zi ts, zi uq]) (wQ D (fun (_ : Unit) => some (zl (tellV (corAt (MB (7 * bq)) (MB (7 * bq + 1)) (MB (7 * bq + 2)) (MB (7 * bq + 3)) (MB (7 * bq + 4)) (MB (7 * bq + 6)) (mCI MC bq) (mCJ MC bq) (mCW MC bq) ts) (unitV ((MB (7 * bq)) - 2 * (MB (7 * bq + 3))) ((MB (7 * bq + 1)) - 2 * (MB (7 * bq + 3)))) uq))) (fun (_ : Unit) => True) (fun (_ : Unit) => [(m0, .inr (11, [.ref m_read, zi rl, zi rp, .ref m_gut, zi gl, zi gp, zi gx, zi gy, .ref m_text, zi tn, zi fn, .ref m_boat, .ref m_coins, zi (bs (mCW MC bq) (MB (7 * bq + 6)) (1 * 2 ^ (MB (7 * bq + 6)).toNat - 1)), zi (bs (pullC ((MB (7 * bq)) - 2 * (MB (7 * bq + 3))) (mCI MC bq) (mCW MC bq)) (MB (7 * bq + 6)) (1 * 2 ^ (MB (7 * bq + 6)).toNat - 1)), zi (bs (pullC ((MB (7 * bq + 1)) - 2 * (MB (7 * bq + 3))) (mCJ MC bq) (mCW MC bq)) (MB (7 * bq + 6)) (1 * 2 ^ (MB (7 * bq + 6)).toNat - 1)), .ref m_rest, .ref m_ends, zl vc, .ref m_chan, .ref m_spl, zi fs, zi rn, .ref m_rf, .ref m_rr, .ref m_ik, .ref m_km, .ref m_kb, .ref m_kc, .ref m_kf, .ref m_kr])), (m_boat, .inl (y 0, 42, .inl (cI MB))), (m_coins, .inl (y 0, 144, .inl (cI MC)))]) (va_A [(m0, .inr (11, [.ref m_read, zi rl, zi rp, .ref m_gut, zi gl, zi gp, zi gx, zi gy, .ref m_text, zi tn, zi fn, .ref m_boat, .ref m_coins, zi vw, zi vm, zi vn, .ref m_rest, .ref m_ends, zl vc, .ref m_chan, .ref m_spl, zi fs, zi rn, .ref m_rf, .ref m_rr, .ref m_ik, .ref m_km, .ref m_kb, .ref m_kc, .ref m_kf, .ref m_kr])), (m_boat, .inl (y 0, 42, .inl (cI MB))), (m_coins, .inl (y 0, 144, .inl (cI MC)))] sz)) 0 0 (va_A [(m0, .inr (11, [.ref m_read, zi rl, zi rp, .ref m_gut, zi gl, zi gp, zi gx, zi gy, .ref m_text, zi tn, zi fn, .ref m_boat, .ref m_coins, zi vw, zi vm, zi vn, .ref m_rest, .ref m_ends, zl vc, .ref m_chan, .ref m_spl, zi fs, zi rn, .ref m_rf, .ref m_rr, .ref m_ik, .ref m_km, .ref m_kb, .ref m_kc, .ref m_kf, .ref m_kr])), (m_boat, .inl (y 0, 42, .inl (cI MB))), (m_coins, .inl (y 0, 144, .inl (cI MC)))] sz) := by
  refine W_of (own := RX12) (cc := cX12_corner) (maxL := 4) (ret := some .long) (by decide) rfl rfl (Nat.le_of_ble_eq_true rfl) (fun p e s m below meth c ls A hx hb hr hC hlocks hin0 hR0 hN hP hD hA hG hl => ?_)
  have hC0 := hC
  obtain ⟨-, -, hml, hown, hts⟩ := hC0
  have hK := hG.1
  have hS : va_S A s.heap s.heap [] := va_S.rf
  have hPr := hR0
  have k2 := hts (.constantLong RX12 153 (999)) (List.mem_of_getElem? (i := 2) rfl)
  have hl : lv_has ls 4 [(0, .ref m0), (1, zi bq), (2, zi ts), (3, zi uq)] := hl
  have hB := hM.2 bq hbq.1 hbq.2
  obtain ⟨q1, q2, q3, q4, q5, q6, q7, q8, q9, qc⟩ := id hB
  have qf := hM.1
  have b2 := pow8 (k := MB (7 * bq + 6)) (by omega)
  have b3 := bOK_set hB (1 * 2 ^ (MB (7 * bq + 6)).toNat - 1)
  have b4 := bOK_lwt hB
  have b1 := bOK_cells hB
  have b4 := bOK_lwt hB
  have b6 := mul_bd (a := ts) (b := (MB (7 * bq + 4))) (A := 999) (B := 99) (by omega) (by omega) (by omega) (by omega)
  have b7 := unit_bd (a := ((MB (7 * bq)) - 2 * (MB (7 * bq + 3)))) (b := ((MB (7 * bq + 1)) - 2 * (MB (7 * bq + 3)))) (by omega) (by omega)
  have b8 := mul_bd (a := (MB (7 * bq + 3))) (b := unitV ((MB (7 * bq)) - 2 * (MB (7 * bq + 3))) ((MB (7 * bq + 1)) - 2 * (MB (7 * bq + 3)))) (A := 9) (B := 10497600) (by omega) (by omega) (by omega) (by omega)
  have b5 := cor_bd (a := ((MB (7 * bq)) - 2 * (MB (7 * bq + 3)))) (b := ((MB (7 * bq + 1)) - 2 * (MB (7 * bq + 3)))) (wt := (MB (7 * bq)) * (MB (7 * bq + 1)) * (MB (7 * bq + 2)) + (bs (mCW MC bq) (MB (7 * bq + 6)) (1 * 2 ^ (MB (7 * bq + 6)).toNat - 1)) + ts * (MB (7 * bq + 4))) (m := bs (pullC ((MB (7 * bq)) - 2 * (MB (7 * bq + 3))) (mCI MC bq) (mCW MC bq)) (MB (7 * bq + 6)) (1 * 2 ^ (MB (7 * bq + 6)).toNat - 1)) (n := bs (pullC ((MB (7 * bq + 1)) - 2 * (MB (7 * bq + 3))) (mCJ MC bq) (mCW MC bq)) (MB (7 * bq + 6)) (1 * 2 ^ (MB (7 * bq + 6)).toNat - 1)) (by omega) (by omega) (by omega) (by omega) (by omega)
  refine lv_aload_n hx hb dX12_corner_0 rfl (lv_at hl 0 rfl) ?_
  refine lv_iload_n hx hb dX12_corner_1 rfl (lv_at hl 1 rfl) ?_
  refine z_pV (As := [zi bq]) (rest := []) hC (c_X12_isBoat l D y m0 m_read rl rp m_gut gl gp gx gy m_text tn fn m_boat m_coins vw vm vn m_rest m_ends vc m_chan m_spl fs rn m_rf m_rr m_ik m_km m_kb m_kc m_kf m_kr bq (by first | assumption | omega) (by first | assumption | omega)) (cwV 1 hts gX12_corner_X12_isBoat rfl rfl rfl (by decide +kernel) ⟨Nat.le_of_ble_eq_true rfl, Nat.le_of_ble_eq_true rfl⟩) hG (hP.sub (ws' := [(m0, .inr (11, [.ref m_read, zi rl, zi rp, .ref m_gut, zi gl, zi gp, zi gx, zi gy, .ref m_text, zi tn, zi fn, .ref m_boat, .ref m_coins, zi vw, zi vm, zi vn, .ref m_rest, .ref m_ends, zl vc, .ref m_chan, .ref m_spl, zi fs, zi rn, .ref m_rf, .ref m_rr, .ref m_ik, .ref m_km, .ref m_kb, .ref m_kc, .ref m_kf, .ref m_kr]))]) [0] rfl) 0 rfl rfl rfl hl.1 rfl (Nat.le_of_ble_eq_true rfl) dX12_corner_2 ⟨Nat.le_of_ble_eq_true rfl, Nat.le_of_ble_eq_true rfl⟩ ?_
  refine z_ifB_ne (tgt := 12) hx hb dX12_corner_5 (by decide) (fun c_5 => ?_) (fun c_5 => ?_)
  ·
    refine lv_iload_n hx hb dX12_corner_12 rfl (lv_at hl 2 rfl) ?_
    refine z_i2l hx hb (by omega) dX12_corner_13 ?_
    refine lv_lconst (v := iL 0) hx hb dX12_corner_14 rfl ?_
    refine lv_ldc2 (v := iL 999) hx hb hown k2 dX12_corner_15 ?_
    refine z_pS (As := [zl ts, zl 0, zl 999]) (rest := []) hC (c_X12_in l D y ts 0 999 (by first | assumption | omega)) (va_cwS 3 hts gX12_corner_X12_in rfl rfl rfl (by decide +kernel) ⟨Nat.le_of_ble_eq_true rfl, Nat.le_of_ble_eq_true rfl⟩) hG va_P_nil rfl hl.1 rfl (Nat.le_of_ble_eq_true rfl) dX12_corner_18 ⟨Nat.le_of_ble_eq_true rfl, Nat.le_of_ble_eq_true rfl⟩ ?_
    refine z_ifB_ne (tgt := 28) hx hb dX12_corner_21 (by decide) (fun c_21 => ?_) (fun c_21 => ?_)
    ·
      refine lv_aload_n hx hb dX12_corner_28 rfl (lv_at hl 0 rfl) ?_
      refine lv_iload_n hx hb dX12_corner_29 rfl (lv_at hl 1 rfl) ?_
      refine lv_aload_n hx hb dX12_corner_30 rfl (lv_at hl 0 rfl) ?_
      refine lv_iload_n hx hb dX12_corner_31 rfl (lv_at hl 1 rfl) ?_
      refine z_pV (As := [zi bq]) (rest := [zi bq, .ref m0]) hC (c_X12_all l D y m0 m_read rl rp m_gut gl gp gx gy m_text tn fn m_boat m_coins vw vm vn m_rest m_ends vc m_chan m_spl fs rn m_rf m_rr m_ik m_km m_kb m_kc m_kf m_kr MB MC bq (by first | assumption | omega) (by first | assumption | omega)) (cwV 1 hts gX12_corner_X12_all rfl rfl rfl (by decide +kernel) ⟨Nat.le_of_ble_eq_true rfl, Nat.le_of_ble_eq_true rfl⟩) hG (hP.sub (ws' := [(m0, .inr (11, [.ref m_read, zi rl, zi rp, .ref m_gut, zi gl, zi gp, zi gx, zi gy, .ref m_text, zi tn, zi fn, .ref m_boat, .ref m_coins, zi vw, zi vm, zi vn, .ref m_rest, .ref m_ends, zl vc, .ref m_chan, .ref m_spl, zi fs, zi rn, .ref m_rf, .ref m_rr, .ref m_ik, .ref m_km, .ref m_kb, .ref m_kc, .ref m_kf, .ref m_kr])), (m_boat, .inl (y 0, 42, .inl (cI MB))), (m_coins, .inl (y 0, 144, .inl (cI MC)))]) [0, 1, 2] rfl) 0 rfl rfl rfl hl.1 rfl (Nat.le_of_ble_eq_true rfl) dX12_corner_32 ⟨Nat.le_of_ble_eq_true rfl, Nat.le_of_ble_eq_true rfl⟩ ?_
      refine z_wV (As := [zi bq, zi (1 * 2 ^ (MB (7 * bq + 6)).toNat - 1)]) (rest := []) (wc := [(m0, .inr (11, [.ref m_read, zi rl, zi rp, .ref m_gut, zi gl, zi gp, zi gx, zi gy, .ref m_text, zi tn, zi fn, .ref m_boat, .ref m_coins, zi vw, zi vm, zi vn, .ref m_rest, .ref m_ends, zl vc, .ref m_chan, .ref m_spl, zi fs, zi rn, .ref m_rf, .ref m_rr, .ref m_ik, .ref m_km, .ref m_kb, .ref m_kc, .ref m_kf, .ref m_kr])), (m_boat, .inl (y 0, 42, .inl (cI MB))), (m_coins, .inl (y 0, 144, .inl (cI MC)))]) (wrest := []) hC (c_X12_layCoins l D y m0 m_read rl rp m_gut gl gp gx gy m_text tn fn m_boat m_coins vw vm vn m_rest m_ends vc m_chan m_spl fs rn m_rf m_rr m_ik m_km m_kb m_kc m_kf m_kr MB MC bq (1 * 2 ^ (MB (7 * bq + 6)).toNat - 1) (by first | assumption | omega) (by first | assumption | omega) (by first | assumption | omega) _) (cwV 2 hts gX12_corner_X12_layCoins rfl rfl rfl (by decide +kernel) ⟨Nat.le_of_ble_eq_true rfl, Nat.le_of_ble_eq_true rfl⟩) hG hP hD hS hA [0, 1, 2] [] rfl rfl (by decide) (by decide) (by decide) va_P_nil ro_nil 0 rfl rfl rfl hl.1 rfl (Nat.le_of_ble_eq_true rfl) dX12_corner_35 ⟨Nat.le_of_ble_eq_true rfl, Nat.le_of_ble_eq_true rfl⟩ (fun u9 H locs hw_1 hP hD hS => ?_)
      have hw_1 : True := hw_1
      have hP : va_P D vwCl [(m0, .inr (11, [.ref m_read, zi rl, zi rp, .ref m_gut, zi gl, zi gp, zi gx, zi gy, .ref m_text, zi tn, zi fn, .ref m_boat, .ref m_coins, zi (bs (mCW MC bq) (MB (7 * bq + 6)) (1 * 2 ^ (MB (7 * bq + 6)).toNat - 1)), zi (bs (pullC ((MB (7 * bq)) - 2 * (MB (7 * bq + 3))) (mCI MC bq) (mCW MC bq)) (MB (7 * bq + 6)) (1 * 2 ^ (MB (7 * bq + 6)).toNat - 1)), zi (bs (pullC ((MB (7 * bq + 1)) - 2 * (MB (7 * bq + 3))) (mCJ MC bq) (mCW MC bq)) (MB (7 * bq + 6)) (1 * 2 ^ (MB (7 * bq + 6)).toNat - 1)), .ref m_rest, .ref m_ends, zl vc, .ref m_chan, .ref m_spl, zi fs, zi rn, .ref m_rf, .ref m_rr, .ref m_ik, .ref m_km, .ref m_kb, .ref m_kc, .ref m_kf, .ref m_kr])), (m_boat, .inl (y 0, 42, .inl (cI MB))), (m_coins, .inl (y 0, 144, .inl (cI MC)))] H := hP
      have hD : va_D A [(m0, .inr (11, [.ref m_read, zi rl, zi rp, .ref m_gut, zi gl, zi gp, zi gx, zi gy, .ref m_text, zi tn, zi fn, .ref m_boat, .ref m_coins, zi (bs (mCW MC bq) (MB (7 * bq + 6)) (1 * 2 ^ (MB (7 * bq + 6)).toNat - 1)), zi (bs (pullC ((MB (7 * bq)) - 2 * (MB (7 * bq + 3))) (mCI MC bq) (mCW MC bq)) (MB (7 * bq + 6)) (1 * 2 ^ (MB (7 * bq + 6)).toNat - 1)), zi (bs (pullC ((MB (7 * bq + 1)) - 2 * (MB (7 * bq + 3))) (mCJ MC bq) (mCW MC bq)) (MB (7 * bq + 6)) (1 * 2 ^ (MB (7 * bq + 6)).toNat - 1)), .ref m_rest, .ref m_ends, zl vc, .ref m_chan, .ref m_spl, zi fs, zi rn, .ref m_rf, .ref m_rr, .ref m_ik, .ref m_km, .ref m_kb, .ref m_kc, .ref m_kf, .ref m_kr])), (m_boat, .inl (y 0, 42, .inl (cI MB))), (m_coins, .inl (y 0, 144, .inl (cI MC)))] := hD
      refine lv_aload_n hx hb dX12_corner_38 rfl (lv_at hl 0 rfl) ?_
      refine lv_iload_n hx hb dX12_corner_39 rfl (lv_at hl 1 rfl) ?_
      refine lv_iload_n hx hb dX12_corner_40 rfl (lv_at hl 2 rfl) ?_
      refine z_pV (As := [zi bq, zi ts]) (rest := []) hC (c_X12_cornerUp l D y m0 m_read rl rp m_gut gl gp gx gy m_text tn fn m_boat m_coins (bs (mCW MC bq) (MB (7 * bq + 6)) (1 * 2 ^ (MB (7 * bq + 6)).toNat - 1)) (bs (pullC ((MB (7 * bq)) - 2 * (MB (7 * bq + 3))) (mCI MC bq) (mCW MC bq)) (MB (7 * bq + 6)) (1 * 2 ^ (MB (7 * bq + 6)).toNat - 1)) (bs (pullC ((MB (7 * bq + 1)) - 2 * (MB (7 * bq + 3))) (mCJ MC bq) (mCW MC bq)) (MB (7 * bq + 6)) (1 * 2 ^ (MB (7 * bq + 6)).toNat - 1)) m_rest m_ends vc m_chan m_spl fs rn m_rf m_rr m_ik m_km m_kb m_kc m_kf m_kr MB MC bq ts (by first | assumption | omega) (by first | assumption | omega) (by first | assumption | omega) (by first | assumption | omega) (by first | assumption | omega)) (cwV 2 hts gX12_corner_X12_cornerUp rfl rfl rfl (by decide +kernel) ⟨Nat.le_of_ble_eq_true rfl, Nat.le_of_ble_eq_true rfl⟩) hG (hP.sub (ws' := [(m0, .inr (11, [.ref m_read, zi rl, zi rp, .ref m_gut, zi gl, zi gp, zi gx, zi gy, .ref m_text, zi tn, zi fn, .ref m_boat, .ref m_coins, zi (bs (mCW MC bq) (MB (7 * bq + 6)) (1 * 2 ^ (MB (7 * bq + 6)).toNat - 1)), zi (bs (pullC ((MB (7 * bq)) - 2 * (MB (7 * bq + 3))) (mCI MC bq) (mCW MC bq)) (MB (7 * bq + 6)) (1 * 2 ^ (MB (7 * bq + 6)).toNat - 1)), zi (bs (pullC ((MB (7 * bq + 1)) - 2 * (MB (7 * bq + 3))) (mCJ MC bq) (mCW MC bq)) (MB (7 * bq + 6)) (1 * 2 ^ (MB (7 * bq + 6)).toNat - 1)), .ref m_rest, .ref m_ends, zl vc, .ref m_chan, .ref m_spl, zi fs, zi rn, .ref m_rf, .ref m_rr, .ref m_ik, .ref m_km, .ref m_kb, .ref m_kc, .ref m_kf, .ref m_kr])), (m_boat, .inl (y 0, 42, .inl (cI MB))), (m_coins, .inl (y 0, 144, .inl (cI MC)))]) [0, 1, 2] rfl) 0 rfl rfl rfl hl.1 rfl (Nat.le_of_ble_eq_true rfl) dX12_corner_41 ⟨Nat.le_of_ble_eq_true rfl, Nat.le_of_ble_eq_true rfl⟩ ?_
      refine lv_aload_n hx hb dX12_corner_44 rfl (lv_at hl 0 rfl) ?_
      refine lv_iload_n hx hb dX12_corner_45 rfl (lv_at hl 1 rfl) ?_
      refine z_pV (As := [zi bq]) (rest := [zl (corV ((MB (7 * bq)) - 2 * (MB (7 * bq + 3))) ((MB (7 * bq + 1)) - 2 * (MB (7 * bq + 3))) ((MB (7 * bq)) * (MB (7 * bq + 1)) * (MB (7 * bq + 2)) + (bs (mCW MC bq) (MB (7 * bq + 6)) (1 * 2 ^ (MB (7 * bq + 6)).toNat - 1)) + ts * (MB (7 * bq + 4))) (bs (pullC ((MB (7 * bq)) - 2 * (MB (7 * bq + 3))) (mCI MC bq) (mCW MC bq)) (MB (7 * bq + 6)) (1 * 2 ^ (MB (7 * bq + 6)).toNat - 1)) (bs (pullC ((MB (7 * bq + 1)) - 2 * (MB (7 * bq + 3))) (mCJ MC bq) (mCW MC bq)) (MB (7 * bq + 6)) (1 * 2 ^ (MB (7 * bq + 6)).toNat - 1)))]) hC (c_X12_cornerDown l D y m0 m_read rl rp m_gut gl gp gx gy m_text tn fn m_boat m_coins (bs (mCW MC bq) (MB (7 * bq + 6)) (1 * 2 ^ (MB (7 * bq + 6)).toNat - 1)) (bs (pullC ((MB (7 * bq)) - 2 * (MB (7 * bq + 3))) (mCI MC bq) (mCW MC bq)) (MB (7 * bq + 6)) (1 * 2 ^ (MB (7 * bq + 6)).toNat - 1)) (bs (pullC ((MB (7 * bq + 1)) - 2 * (MB (7 * bq + 3))) (mCJ MC bq) (mCW MC bq)) (MB (7 * bq + 6)) (1 * 2 ^ (MB (7 * bq + 6)).toNat - 1)) m_rest m_ends vc m_chan m_spl fs rn m_rf m_rr m_ik m_km m_kb m_kc m_kf m_kr MB MC bq (by first | assumption | omega) (by first | assumption | omega)) (cwV 1 hts gX12_corner_X12_cornerDown rfl rfl rfl (by decide +kernel) ⟨Nat.le_of_ble_eq_true rfl, Nat.le_of_ble_eq_true rfl⟩) hG (hP.sub (ws' := [(m0, .inr (11, [.ref m_read, zi rl, zi rp, .ref m_gut, zi gl, zi gp, zi gx, zi gy, .ref m_text, zi tn, zi fn, .ref m_boat, .ref m_coins, zi (bs (mCW MC bq) (MB (7 * bq + 6)) (1 * 2 ^ (MB (7 * bq + 6)).toNat - 1)), zi (bs (pullC ((MB (7 * bq)) - 2 * (MB (7 * bq + 3))) (mCI MC bq) (mCW MC bq)) (MB (7 * bq + 6)) (1 * 2 ^ (MB (7 * bq + 6)).toNat - 1)), zi (bs (pullC ((MB (7 * bq + 1)) - 2 * (MB (7 * bq + 3))) (mCJ MC bq) (mCW MC bq)) (MB (7 * bq + 6)) (1 * 2 ^ (MB (7 * bq + 6)).toNat - 1)), .ref m_rest, .ref m_ends, zl vc, .ref m_chan, .ref m_spl, zi fs, zi rn, .ref m_rf, .ref m_rr, .ref m_ik, .ref m_km, .ref m_kb, .ref m_kc, .ref m_kf, .ref m_kr])), (m_boat, .inl (y 0, 42, .inl (cI MB))), (m_coins, .inl (y 0, 144, .inl (cI MC)))]) [0, 1, 2] rfl) 0 rfl rfl rfl hl.1 rfl (Nat.le_of_ble_eq_true rfl) dX12_corner_46 ⟨Nat.le_of_ble_eq_true rfl, Nat.le_of_ble_eq_true rfl⟩ ?_
      refine lv_iload_n hx hb dX12_corner_49 rfl (lv_at hl 3 rfl) ?_
      refine z_pS (As := [zl (corV ((MB (7 * bq)) - 2 * (MB (7 * bq + 3))) ((MB (7 * bq + 1)) - 2 * (MB (7 * bq + 3))) ((MB (7 * bq)) * (MB (7 * bq + 1)) * (MB (7 * bq + 2)) + (bs (mCW MC bq) (MB (7 * bq + 6)) (1 * 2 ^ (MB (7 * bq + 6)).toNat - 1)) + ts * (MB (7 * bq + 4))) (bs (pullC ((MB (7 * bq)) - 2 * (MB (7 * bq + 3))) (mCI MC bq) (mCW MC bq)) (MB (7 * bq + 6)) (1 * 2 ^ (MB (7 * bq + 6)).toNat - 1)) (bs (pullC ((MB (7 * bq + 1)) - 2 * (MB (7 * bq + 3))) (mCJ MC bq) (mCW MC bq)) (MB (7 * bq + 6)) (1 * 2 ^ (MB (7 * bq + 6)).toNat - 1))), zl (unitV ((MB (7 * bq)) - 2 * (MB (7 * bq + 3))) ((MB (7 * bq + 1)) - 2 * (MB (7 * bq + 3)))), zi uq]) (rest := []) hC (c_X12_part l D y (corV ((MB (7 * bq)) - 2 * (MB (7 * bq + 3))) ((MB (7 * bq + 1)) - 2 * (MB (7 * bq + 3))) ((MB (7 * bq)) * (MB (7 * bq + 1)) * (MB (7 * bq + 2)) + (bs (mCW MC bq) (MB (7 * bq + 6)) (1 * 2 ^ (MB (7 * bq + 6)).toNat - 1)) + ts * (MB (7 * bq + 4))) (bs (pullC ((MB (7 * bq)) - 2 * (MB (7 * bq + 3))) (mCI MC bq) (mCW MC bq)) (MB (7 * bq + 6)) (1 * 2 ^ (MB (7 * bq + 6)).toNat - 1)) (bs (pullC ((MB (7 * bq + 1)) - 2 * (MB (7 * bq + 3))) (mCJ MC bq) (mCW MC bq)) (MB (7 * bq + 6)) (1 * 2 ^ (MB (7 * bq + 6)).toNat - 1))) (unitV ((MB (7 * bq)) - 2 * (MB (7 * bq + 3))) ((MB (7 * bq + 1)) - 2 * (MB (7 * bq + 3)))) uq (by first | assumption | omega) (by first | assumption | omega)) (va_cwS 3 hts gX12_corner_X12_part rfl rfl rfl (by decide +kernel) ⟨Nat.le_of_ble_eq_true rfl, Nat.le_of_ble_eq_true rfl⟩) hG va_P_nil rfl hl.1 rfl (Nat.le_of_ble_eq_true rfl) dX12_corner_50 ⟨Nat.le_of_ble_eq_true rfl, Nat.le_of_ble_eq_true rfl⟩ ?_
      exact z_lretW hx hb hr hlocks () (by exact congrArg (fun z => some (zl z)) (by rw [corAt_bs (by omega)])) (trivial) (hP.sub [0, 1, 2] rfl) (hD.sub [0, 1, 2] (by decide) rfl) hS dX12_corner_53
    · exfalso; omega
  · exfalso; omega
set_option maxHeartbeats 8000000 in
set_option maxRecDepth 100000 in
theorem c_X12_isUnder (l : Launch) (D : va_G) (y : Nat → ClassId) (m0 : Nat) (m_read : Nat) (rl : Int) (rp : Int) (m_gut : Nat) (gl : Int) (gp : Int) (gx : Int) (gy : Int) (m_text : Nat) (tn : Int) (fn : Int) (m_boat : Nat) (m_coins : Nat) (vw : Int) (vm : Int) (vn : Int) (m_rest : Nat) (m_ends : Nat) (vc : Int) (m_chan : Nat) (m_spl : Nat) (fs : Int) (rn : Int) (m_rf : Nat) (m_rr : Nat) (m_ik : Nat) (m_km : Nat) (m_kb : Nat) (m_kc : Nat) (m_kf : Nat) (m_kr : Nat) (MB : Int → Int) (MC : Int → Int) (bq : Int) (ts : Int) (tq : Int) (hM : mbOK fn MB MC) (hbq : 0 ≤ bq ∧ bq < fn) (hs : 0 ≤ ts ∧ ts ≤ 999) (hT : 0 ≤ tq ∧ tq ≤ 255) (sz : Nat) : Met l yX12_isUnder wsX12_isUnder ({ frames := 2, cells := 0, slots := 0, locals := 48 } : Room) (wPc D y [] [(m0, .inr (11, [.ref m_read, zi rl, zi rp, .ref m_gut, zi gl, zi gp, zi gx, zi gy, .ref m_text, zi tn, zi fn, .ref m_boat, .ref m_coins, zi vw, zi vm, zi vn, .ref m_rest, .ref m_ends, zl vc, .ref m_chan, .ref m_spl, zi fs, zi rn, .ref m_rf, .ref m_rr, .ref m_ik, .ref m_km, .ref m_kb, .ref m_kc, .ref m_kf, .ref m_kr])), (m_boat, .inl (y 0, 42, .inl (cI MB))), (m_coins, .inl (y 0, 144, .inl (cI MC)))] sz [.ref m0, zi bq, zi ts, zi tq]) (wQ D (fun (_ : Unit) => some (zi (bI (roomV ((MB (7 * bq)) - 2 * (MB (7 * bq + 3))) ((MB (7 * bq + 1)) - 2 * (MB (7 * bq + 3))) (MB (7 * bq + 3)) (corV ((MB (7 * bq)) - 2 * (MB (7 * bq + 3))) ((MB (7 * bq + 1)) - 2 * (MB (7 * bq + 3))) ((MB (7 * bq)) * (MB (7 * bq + 1)) * (MB (7 * bq + 2)) + bs (mCW MC bq) (MB (7 * bq + 6)) tq + ts * (MB (7 * bq + 4))) (bs (pullC ((MB (7 * bq)) - 2 * (MB (7 * bq + 3))) (mCI MC bq) (mCW MC bq)) (MB (7 * bq + 6)) tq) (bs (pullC ((MB (7 * bq + 1)) - 2 * (MB (7 * bq + 3))) (mCJ MC bq) (mCW MC bq)) (MB (7 * bq + 6)) tq)) < 0)))) (fun (_ : Unit) => True) (fun (_ : Unit) => [(m0, .inr (11, [.ref m_read, zi rl, zi rp, .ref m_gut, zi gl, zi gp, zi gx, zi gy, .ref m_text, zi tn, zi fn, .ref m_boat, .ref m_coins, zi (bs (mCW MC bq) (MB (7 * bq + 6)) tq), zi (bs (pullC ((MB (7 * bq)) - 2 * (MB (7 * bq + 3))) (mCI MC bq) (mCW MC bq)) (MB (7 * bq + 6)) tq), zi (bs (pullC ((MB (7 * bq + 1)) - 2 * (MB (7 * bq + 3))) (mCJ MC bq) (mCW MC bq)) (MB (7 * bq + 6)) tq), .ref m_rest, .ref m_ends, zl vc, .ref m_chan, .ref m_spl, zi fs, zi rn, .ref m_rf, .ref m_rr, .ref m_ik, .ref m_km, .ref m_kb, .ref m_kc, .ref m_kf, .ref m_kr])), (m_boat, .inl (y 0, 42, .inl (cI MB))), (m_coins, .inl (y 0, 144, .inl (cI MC)))]) (va_A [(m0, .inr (11, [.ref m_read, zi rl, zi rp, .ref m_gut, zi gl, zi gp, zi gx, zi gy, .ref m_text, zi tn, zi fn, .ref m_boat, .ref m_coins, zi vw, zi vm, zi vn, .ref m_rest, .ref m_ends, zl vc, .ref m_chan, .ref m_spl, zi fs, zi rn, .ref m_rf, .ref m_rr, .ref m_ik, .ref m_km, .ref m_kb, .ref m_kc, .ref m_kf, .ref m_kr])), (m_boat, .inl (y 0, 42, .inl (cI MB))), (m_coins, .inl (y 0, 144, .inl (cI MC)))] sz)) 0 0 (va_A [(m0, .inr (11, [.ref m_read, zi rl, zi rp, .ref m_gut, zi gl, zi gp, zi gx, zi gy, .ref m_text, zi tn, zi fn, .ref m_boat, .ref m_coins, zi vw, zi vm, zi vn, .ref m_rest, .ref m_ends, zl vc, .ref m_chan, .ref m_spl, zi fs, zi rn, .ref m_rf, .ref m_rr, .ref m_ik, .ref m_km, .ref m_kb, .ref m_kc, .ref m_kf, .ref m_kr])), (m_boat, .inl (y 0, 42, .inl (cI MB))), (m_coins, .inl (y 0, 144, .inl (cI MC)))] sz) := by
  refine W_of (own := RX12) (cc := cX12_isUnder) (maxL := 4) (ret := some .boolean) (by decide) rfl rfl (Nat.le_of_ble_eq_true rfl) (fun p e s m below meth c ls A hx hb hr hC hlocks hin0 hR0 hN hP hD hA hG hl => ?_)
  have hC0 := hC
  obtain ⟨-, -, hml, hown, hts⟩ := hC0
  have hK := hG.1
  have hS : va_S A s.heap s.heap [] := va_S.rf
  have hPr := hR0
  have hinX12 : ∀ w ∈ wsX120, w ∈ wsX12_isUnder := fun _ h => List.mem_cons_of_mem _ (List.mem_append_right _ h)
  have k1 := hts (.fieldLink RX12 19 "BoatsOfPaperModel" "boat" "[I") (List.mem_of_getElem? (i := 1) rfl)
  have hl : lv_has ls 4 [(0, .ref m0), (1, zi bq), (2, zi ts), (3, zi tq)] := hl
  have hB := hM.2 bq hbq.1 hbq.2
  obtain ⟨q1, q2, q3, q4, q5, q6, q7, q8, q9, qc⟩ := id hB
  have qf := hM.1
  have b3 := bOK_set hB tq
  have b4 := bOK_lwt hB
  have b6 := mul_bd (a := ts) (b := (MB (7 * bq + 4))) (A := 999) (B := 99) (by omega) (by omega) (by omega) (by omega)
  have b7 := unit_bd (a := ((MB (7 * bq)) - 2 * (MB (7 * bq + 3)))) (b := ((MB (7 * bq + 1)) - 2 * (MB (7 * bq + 3)))) (by omega) (by omega)
  have b8 := mul_bd (a := (MB (7 * bq + 3))) (b := unitV ((MB (7 * bq)) - 2 * (MB (7 * bq + 3))) ((MB (7 * bq + 1)) - 2 * (MB (7 * bq + 3)))) (A := 9) (B := 10497600) (by omega) (by omega) (by omega) (by omega)
  have b5 := cor_bd (a := ((MB (7 * bq)) - 2 * (MB (7 * bq + 3)))) (b := ((MB (7 * bq + 1)) - 2 * (MB (7 * bq + 3)))) (wt := (MB (7 * bq)) * (MB (7 * bq + 1)) * (MB (7 * bq + 2)) + bs (mCW MC bq) (MB (7 * bq + 6)) tq + ts * (MB (7 * bq + 4))) (m := bs (pullC ((MB (7 * bq)) - 2 * (MB (7 * bq + 3))) (mCI MC bq) (mCW MC bq)) (MB (7 * bq + 6)) tq) (n := bs (pullC ((MB (7 * bq + 1)) - 2 * (MB (7 * bq + 3))) (mCJ MC bq) (mCW MC bq)) (MB (7 * bq + 6)) tq) (by omega) (by omega) (by omega) (by omega) (by omega)
  refine lv_aload_n hx hb dX12_isUnder_0 rfl (lv_at hl 0 rfl) ?_
  refine lv_iload_n hx hb dX12_isUnder_1 rfl (lv_at hl 1 rfl) ?_
  refine lv_iload_n hx hb dX12_isUnder_2 rfl (lv_at hl 3 rfl) ?_
  refine z_wV (As := [zi bq, zi tq]) (rest := []) (wc := [(m0, .inr (11, [.ref m_read, zi rl, zi rp, .ref m_gut, zi gl, zi gp, zi gx, zi gy, .ref m_text, zi tn, zi fn, .ref m_boat, .ref m_coins, zi vw, zi vm, zi vn, .ref m_rest, .ref m_ends, zl vc, .ref m_chan, .ref m_spl, zi fs, zi rn, .ref m_rf, .ref m_rr, .ref m_ik, .ref m_km, .ref m_kb, .ref m_kc, .ref m_kf, .ref m_kr])), (m_boat, .inl (y 0, 42, .inl (cI MB))), (m_coins, .inl (y 0, 144, .inl (cI MC)))]) (wrest := []) hC (c_X12_layCoins l D y m0 m_read rl rp m_gut gl gp gx gy m_text tn fn m_boat m_coins vw vm vn m_rest m_ends vc m_chan m_spl fs rn m_rf m_rr m_ik m_km m_kb m_kc m_kf m_kr MB MC bq tq (by first | assumption | omega) (by first | assumption | omega) (by first | assumption | omega) _) (cwV 2 hts gX12_isUnder_X12_layCoins rfl rfl rfl (by decide +kernel) ⟨Nat.le_of_ble_eq_true rfl, Nat.le_of_ble_eq_true rfl⟩) hG hP hD hS hA [0, 1, 2] [] rfl rfl (by decide) (by decide) (by decide) va_P_nil ro_nil 0 rfl rfl rfl hl.1 rfl (Nat.le_of_ble_eq_true rfl) dX12_isUnder_3 ⟨Nat.le_of_ble_eq_true rfl, Nat.le_of_ble_eq_true rfl⟩ (fun u9 H locs hw_1 hP hD hS => ?_)
  have hw_1 : True := hw_1
  have hP : va_P D vwCl [(m0, .inr (11, [.ref m_read, zi rl, zi rp, .ref m_gut, zi gl, zi gp, zi gx, zi gy, .ref m_text, zi tn, zi fn, .ref m_boat, .ref m_coins, zi (bs (mCW MC bq) (MB (7 * bq + 6)) tq), zi (bs (pullC ((MB (7 * bq)) - 2 * (MB (7 * bq + 3))) (mCI MC bq) (mCW MC bq)) (MB (7 * bq + 6)) tq), zi (bs (pullC ((MB (7 * bq + 1)) - 2 * (MB (7 * bq + 3))) (mCJ MC bq) (mCW MC bq)) (MB (7 * bq + 6)) tq), .ref m_rest, .ref m_ends, zl vc, .ref m_chan, .ref m_spl, zi fs, zi rn, .ref m_rf, .ref m_rr, .ref m_ik, .ref m_km, .ref m_kb, .ref m_kc, .ref m_kf, .ref m_kr])), (m_boat, .inl (y 0, 42, .inl (cI MB))), (m_coins, .inl (y 0, 144, .inl (cI MC)))] H := hP
  have hD : va_D A [(m0, .inr (11, [.ref m_read, zi rl, zi rp, .ref m_gut, zi gl, zi gp, zi gx, zi gy, .ref m_text, zi tn, zi fn, .ref m_boat, .ref m_coins, zi (bs (mCW MC bq) (MB (7 * bq + 6)) tq), zi (bs (pullC ((MB (7 * bq)) - 2 * (MB (7 * bq + 3))) (mCI MC bq) (mCW MC bq)) (MB (7 * bq + 6)) tq), zi (bs (pullC ((MB (7 * bq + 1)) - 2 * (MB (7 * bq + 3))) (mCJ MC bq) (mCW MC bq)) (MB (7 * bq + 6)) tq), .ref m_rest, .ref m_ends, zl vc, .ref m_chan, .ref m_spl, zi fs, zi rn, .ref m_rf, .ref m_rr, .ref m_ik, .ref m_km, .ref m_kb, .ref m_kc, .ref m_kf, .ref m_kr])), (m_boat, .inl (y 0, 42, .inl (cI MB))), (m_coins, .inl (y 0, 144, .inl (cI MC)))] := hD
  refine lv_aload_n hx hb dX12_isUnder_6 rfl (lv_at hl 0 rfl) ?_
  refine lv_iload_n hx hb dX12_isUnder_7 rfl (lv_at hl 1 rfl) ?_
  refine lv_iload_n hx hb dX12_isUnder_8 rfl (lv_at hl 2 rfl) ?_
  refine z_pV (As := [zi bq, zi ts]) (rest := []) hC (c_X12_cornerUp l D y m0 m_read rl rp m_gut gl gp gx gy m_text tn fn m_boat m_coins (bs (mCW MC bq) (MB (7 * bq + 6)) tq) (bs (pullC ((MB (7 * bq)) - 2 * (MB (7 * bq + 3))) (mCI MC bq) (mCW MC bq)) (MB (7 * bq + 6)) tq) (bs (pullC ((MB (7 * bq + 1)) - 2 * (MB (7 * bq + 3))) (mCJ MC bq) (mCW MC bq)) (MB (7 * bq + 6)) tq) m_rest m_ends vc m_chan m_spl fs rn m_rf m_rr m_ik m_km m_kb m_kc m_kf m_kr MB MC bq ts (by first | assumption | omega) (by first | assumption | omega) (by first | assumption | omega) (by first | assumption | omega) (by first | assumption | omega)) (cwV 2 hts gX12_isUnder_X12_cornerUp rfl rfl rfl (by decide +kernel) ⟨Nat.le_of_ble_eq_true rfl, Nat.le_of_ble_eq_true rfl⟩) hG (hP.sub (ws' := [(m0, .inr (11, [.ref m_read, zi rl, zi rp, .ref m_gut, zi gl, zi gp, zi gx, zi gy, .ref m_text, zi tn, zi fn, .ref m_boat, .ref m_coins, zi (bs (mCW MC bq) (MB (7 * bq + 6)) tq), zi (bs (pullC ((MB (7 * bq)) - 2 * (MB (7 * bq + 3))) (mCI MC bq) (mCW MC bq)) (MB (7 * bq + 6)) tq), zi (bs (pullC ((MB (7 * bq + 1)) - 2 * (MB (7 * bq + 3))) (mCJ MC bq) (mCW MC bq)) (MB (7 * bq + 6)) tq), .ref m_rest, .ref m_ends, zl vc, .ref m_chan, .ref m_spl, zi fs, zi rn, .ref m_rf, .ref m_rr, .ref m_ik, .ref m_km, .ref m_kb, .ref m_kc, .ref m_kf, .ref m_kr])), (m_boat, .inl (y 0, 42, .inl (cI MB))), (m_coins, .inl (y 0, 144, .inl (cI MC)))]) [0, 1, 2] rfl) 0 rfl rfl rfl hl.1 rfl (Nat.le_of_ble_eq_true rfl) dX12_isUnder_9 ⟨Nat.le_of_ble_eq_true rfl, Nat.le_of_ble_eq_true rfl⟩ ?_
  refine lv_aload_n hx hb dX12_isUnder_12 rfl (lv_at hl 0 rfl) ?_
  refine va_get hx hb hts hinX12 hown hK hP 0 rfl rfl 11 (by decide) k1 (fun _ h => h) rfl dX12_isUnder_13 ?_
  refine z_bipush hx hb dX12_isUnder_16 (by decide) ?_
  refine lv_iload_n hx hb dX12_isUnder_18 rfl (lv_at hl 1 rfl) ?_
  refine z_imul hx hb dX12_isUnder_19 ?_
  refine z_iconst hx hb dX12_isUnder_20 ?_
  refine z_iadd hx hb dX12_isUnder_21 ?_
  refine z_iald hx hb hK hP 1 0 rfl rfl (by omega) (by decide) dX12_isUnder_22 ?_
  refine z_i2l hx hb (by omega) dX12_isUnder_23 ?_
  refine lv_aload_n hx hb dX12_isUnder_24 rfl (lv_at hl 0 rfl) ?_
  refine lv_iload_n hx hb dX12_isUnder_25 rfl (lv_at hl 1 rfl) ?_
  refine z_pV (As := [zi bq]) (rest := [zl (MB ((7 * bq) + 3)), zl (corV ((MB (7 * bq)) - 2 * (MB (7 * bq + 3))) ((MB (7 * bq + 1)) - 2 * (MB (7 * bq + 3))) ((MB (7 * bq)) * (MB (7 * bq + 1)) * (MB (7 * bq + 2)) + (bs (mCW MC bq) (MB (7 * bq + 6)) tq) + ts * (MB (7 * bq + 4))) (bs (pullC ((MB (7 * bq)) - 2 * (MB (7 * bq + 3))) (mCI MC bq) (mCW MC bq)) (MB (7 * bq + 6)) tq) (bs (pullC ((MB (7 * bq + 1)) - 2 * (MB (7 * bq + 3))) (mCJ MC bq) (mCW MC bq)) (MB (7 * bq + 6)) tq))]) hC (c_X12_cornerDown l D y m0 m_read rl rp m_gut gl gp gx gy m_text tn fn m_boat m_coins (bs (mCW MC bq) (MB (7 * bq + 6)) tq) (bs (pullC ((MB (7 * bq)) - 2 * (MB (7 * bq + 3))) (mCI MC bq) (mCW MC bq)) (MB (7 * bq + 6)) tq) (bs (pullC ((MB (7 * bq + 1)) - 2 * (MB (7 * bq + 3))) (mCJ MC bq) (mCW MC bq)) (MB (7 * bq + 6)) tq) m_rest m_ends vc m_chan m_spl fs rn m_rf m_rr m_ik m_km m_kb m_kc m_kf m_kr MB MC bq (by first | assumption | omega) (by first | assumption | omega)) (cwV 1 hts gX12_isUnder_X12_cornerDown rfl rfl rfl (by decide +kernel) ⟨Nat.le_of_ble_eq_true rfl, Nat.le_of_ble_eq_true rfl⟩) hG (hP.sub (ws' := [(m0, .inr (11, [.ref m_read, zi rl, zi rp, .ref m_gut, zi gl, zi gp, zi gx, zi gy, .ref m_text, zi tn, zi fn, .ref m_boat, .ref m_coins, zi (bs (mCW MC bq) (MB (7 * bq + 6)) tq), zi (bs (pullC ((MB (7 * bq)) - 2 * (MB (7 * bq + 3))) (mCI MC bq) (mCW MC bq)) (MB (7 * bq + 6)) tq), zi (bs (pullC ((MB (7 * bq + 1)) - 2 * (MB (7 * bq + 3))) (mCJ MC bq) (mCW MC bq)) (MB (7 * bq + 6)) tq), .ref m_rest, .ref m_ends, zl vc, .ref m_chan, .ref m_spl, zi fs, zi rn, .ref m_rf, .ref m_rr, .ref m_ik, .ref m_km, .ref m_kb, .ref m_kc, .ref m_kf, .ref m_kr])), (m_boat, .inl (y 0, 42, .inl (cI MB))), (m_coins, .inl (y 0, 144, .inl (cI MC)))]) [0, 1, 2] rfl) 0 rfl rfl rfl hl.1 rfl (Nat.le_of_ble_eq_true rfl) dX12_isUnder_26 ⟨Nat.le_of_ble_eq_true rfl, Nat.le_of_ble_eq_true rfl⟩ ?_
  refine z_lmul hx hb dX12_isUnder_29 ?_
  refine z_lcmp_le (tgt := 38) hx hb (by omega) (by omega) dX12_isUnder_30 dX12_isUnder_31 (by decide) (fun c_30 => ?_) (fun c_30 => ?_)
  ·
    refine z_iconst hx hb dX12_isUnder_38 ?_
    exact z_zretW hx hb hr hlocks (by omega) () (by first | exact congrArg (fun z => some (zi z)) (bI_t (by unfold roomV; omega)) | exact congrArg (fun z => some (zi z)) (bI_f (by unfold roomV; omega))) (trivial) (hP.sub [0, 1, 2] rfl) (hD.sub [0, 1, 2] (by decide) rfl) hS dX12_isUnder_39
  ·
    refine z_iconst hx hb dX12_isUnder_34 ?_
    refine lv_goto (tgt := 39) hx hb dX12_isUnder_35 (by decide) ?_
    exact z_zretW hx hb hr hlocks (by omega) () (by first | exact congrArg (fun z => some (zi z)) (bI_t (by unfold roomV; omega)) | exact congrArg (fun z => some (zi z)) (bI_f (by unfold roomV; omega))) (trivial) (hP.sub [0, 1, 2] rfl) (hD.sub [0, 1, 2] (by decide) rfl) hS dX12_isUnder_39
set_option maxHeartbeats 8000000 in
set_option maxRecDepth 100000 in
theorem c_X12_under_no (l : Launch) (D : va_G) (y : Nat → ClassId) (m0 : Nat) (m_read : Nat) (rl : Int) (rp : Int) (m_gut : Nat) (gl : Int) (gp : Int) (gx : Int) (gy : Int) (m_text : Nat) (tn : Int) (fn : Int) (m_boat : Nat) (m_coins : Nat) (vw : Int) (vm : Int) (vn : Int) (m_rest : Nat) (m_ends : Nat) (vc : Int) (m_chan : Nat) (m_spl : Nat) (fs : Int) (rn : Int) (m_rf : Nat) (m_rr : Nat) (m_ik : Nat) (m_km : Nat) (m_kb : Nat) (m_kc : Nat) (m_kf : Nat) (m_kr : Nat) (bq : Int) (ts : Int) (hbq : rI bq ∧ 0 ≤ fn ∧ fn ≤ 6 ∧ ¬ (0 ≤ bq ∧ bq < fn)) : Met l yX12_under wsX12_under ({ frames := 2, cells := 0, slots := 0, locals := 46 } : Room) (pPc D y [(m0, .inr (11, [.ref m_read, zi rl, zi rp, .ref m_gut, zi gl, zi gp, zi gx, zi gy, .ref m_text, zi tn, zi fn, .ref m_boat, .ref m_coins, zi vw, zi vm, zi vn, .ref m_rest, .ref m_ends, zl vc, .ref m_chan, .ref m_spl, zi fs, zi rn, .ref m_rf, .ref m_rr, .ref m_ik, .ref m_km, .ref m_kb, .ref m_kc, .ref m_kf, .ref m_kr]))] [.ref m0, zi bq, zi ts]) (qV (zi (-1))) 0 0 (fun _ => False) := by
  refine P_of (own := RX12) (cc := cX12_under) (maxL := 3) (ret := some .int) (by decide) rfl rfl (Nat.le_of_ble_eq_true rfl) (fun p e s m below meth c ls hx hb hr hC hlocks hPr hG hl => ?_)
  have hC0 := hC
  obtain ⟨-, -, hml, hown, hts⟩ := hC0
  have hK := hG.1
  have hl : lv_has ls 3 [(0, .ref m0), (1, zi bq), (2, zi ts)] := hl
  refine lv_aload_n hx hb dX12_under_0 rfl (lv_at hl 0 rfl) ?_
  refine lv_iload_n hx hb dX12_under_1 rfl (lv_at hl 1 rfl) ?_
  refine z_pV (As := [zi bq]) (rest := []) hC (c_X12_isBoat l D y m0 m_read rl rp m_gut gl gp gx gy m_text tn fn m_boat m_coins vw vm vn m_rest m_ends vc m_chan m_spl fs rn m_rf m_rr m_ik m_km m_kb m_kc m_kf m_kr bq (by first | assumption | omega) (by first | assumption | omega)) (cwV 1 hts gX12_under_X12_isBoat rfl rfl rfl (by decide +kernel) ⟨Nat.le_of_ble_eq_true rfl, Nat.le_of_ble_eq_true rfl⟩) hG (hPr.sub (ws' := [(m0, .inr (11, [.ref m_read, zi rl, zi rp, .ref m_gut, zi gl, zi gp, zi gx, zi gy, .ref m_text, zi tn, zi fn, .ref m_boat, .ref m_coins, zi vw, zi vm, zi vn, .ref m_rest, .ref m_ends, zl vc, .ref m_chan, .ref m_spl, zi fs, zi rn, .ref m_rf, .ref m_rr, .ref m_ik, .ref m_km, .ref m_kb, .ref m_kc, .ref m_kf, .ref m_kr]))]) [0] rfl) 0 rfl rfl rfl hl.1 rfl (Nat.le_of_ble_eq_true rfl) dX12_under_2 ⟨Nat.le_of_ble_eq_true rfl, Nat.le_of_ble_eq_true rfl⟩ ?_
  refine z_ifB_ne (tgt := 10) hx hb dX12_under_5 (by decide) (fun c_5 => ?_) (fun c_5 => ?_)
  · exfalso; omega
  ·
    refine z_iconst hx hb dX12_under_8 ?_
    exact z_iret0 hx hb hr hlocks (rfl) dX12_under_9
set_option maxHeartbeats 8000000 in
set_option maxRecDepth 100000 in
theorem c_X12_under_out (l : Launch) (D : va_G) (y : Nat → ClassId) (m0 : Nat) (m_read : Nat) (rl : Int) (rp : Int) (m_gut : Nat) (gl : Int) (gp : Int) (gx : Int) (gy : Int) (m_text : Nat) (tn : Int) (fn : Int) (m_boat : Nat) (m_coins : Nat) (vw : Int) (vm : Int) (vn : Int) (m_rest : Nat) (m_ends : Nat) (vc : Int) (m_chan : Nat) (m_spl : Nat) (fs : Int) (rn : Int) (m_rf : Nat) (m_rr : Nat) (m_ik : Nat) (m_km : Nat) (m_kb : Nat) (m_kc : Nat) (m_kf : Nat) (m_kr : Nat) (MB : Int → Int) (MC : Int → Int) (bq : Int) (ts : Int) (hM : mbOK fn MB MC) (hbq : 0 ≤ bq ∧ bq < fn) (hr9 : rI ts) (hq : ¬ (0 ≤ ts ∧ ts ≤ 999)) : Met l yX12_under wsX12_under ({ frames := 2, cells := 0, slots := 0, locals := 46 } : Room) (pPc D y [(m0, .inr (11, [.ref m_read, zi rl, zi rp, .ref m_gut, zi gl, zi gp, zi gx, zi gy, .ref m_text, zi tn, zi fn, .ref m_boat, .ref m_coins, zi vw, zi vm, zi vn, .ref m_rest, .ref m_ends, zl vc, .ref m_chan, .ref m_spl, zi fs, zi rn, .ref m_rf, .ref m_rr, .ref m_ik, .ref m_km, .ref m_kb, .ref m_kc, .ref m_kf, .ref m_kr])), (m_boat, .inl (y 0, 42, .inl (cI MB))), (m_coins, .inl (y 0, 144, .inl (cI MC)))] [.ref m0, zi bq, zi ts]) (qV (zi (-2))) 0 0 (fun _ => False) := by
  refine P_of (own := RX12) (cc := cX12_under) (maxL := 3) (ret := some .int) (by decide) rfl rfl (Nat.le_of_ble_eq_true rfl) (fun p e s m below meth c ls hx hb hr hC hlocks hPr hG hl => ?_)
  have hC0 := hC
  obtain ⟨-, -, hml, hown, hts⟩ := hC0
  have hK := hG.1
  have k1 := hts (.constantLong RX12 153 (999)) (List.mem_of_getElem? (i := 1) rfl)
  have hl : lv_has ls 3 [(0, .ref m0), (1, zi bq), (2, zi ts)] := hl
  have hB := hM.2 bq hbq.1 hbq.2
  obtain ⟨q1, q2, q3, q4, q5, q6, q7, q8, q9, qc⟩ := id hB
  have qf := hM.1
  refine lv_aload_n hx hb dX12_under_0 rfl (lv_at hl 0 rfl) ?_
  refine lv_iload_n hx hb dX12_under_1 rfl (lv_at hl 1 rfl) ?_
  refine z_pV (As := [zi bq]) (rest := []) hC (c_X12_isBoat l D y m0 m_read rl rp m_gut gl gp gx gy m_text tn fn m_boat m_coins vw vm vn m_rest m_ends vc m_chan m_spl fs rn m_rf m_rr m_ik m_km m_kb m_kc m_kf m_kr bq (by first | assumption | omega) (by first | assumption | omega)) (cwV 1 hts gX12_under_X12_isBoat rfl rfl rfl (by decide +kernel) ⟨Nat.le_of_ble_eq_true rfl, Nat.le_of_ble_eq_true rfl⟩) hG (hPr.sub (ws' := [(m0, .inr (11, [.ref m_read, zi rl, zi rp, .ref m_gut, zi gl, zi gp, zi gx, zi gy, .ref m_text, zi tn, zi fn, .ref m_boat, .ref m_coins, zi vw, zi vm, zi vn, .ref m_rest, .ref m_ends, zl vc, .ref m_chan, .ref m_spl, zi fs, zi rn, .ref m_rf, .ref m_rr, .ref m_ik, .ref m_km, .ref m_kb, .ref m_kc, .ref m_kf, .ref m_kr]))]) [0] rfl) 0 rfl rfl rfl hl.1 rfl (Nat.le_of_ble_eq_true rfl) dX12_under_2 ⟨Nat.le_of_ble_eq_true rfl, Nat.le_of_ble_eq_true rfl⟩ ?_
  refine z_ifB_ne (tgt := 10) hx hb dX12_under_5 (by decide) (fun c_5 => ?_) (fun c_5 => ?_)
  ·
    refine lv_iload_n hx hb dX12_under_10 rfl (lv_at hl 2 rfl) ?_
    refine z_i2l hx hb (by omega) dX12_under_11 ?_
    refine lv_lconst (v := iL 0) hx hb dX12_under_12 rfl ?_
    refine lv_ldc2 (v := iL 999) hx hb hown k1 dX12_under_13 ?_
    refine z_pS (As := [zl ts, zl 0, zl 999]) (rest := []) hC (c_X12_in l D y ts 0 999 (by first | assumption | omega)) (va_cwS 3 hts gX12_under_X12_in rfl rfl rfl (by decide +kernel) ⟨Nat.le_of_ble_eq_true rfl, Nat.le_of_ble_eq_true rfl⟩) hG va_P_nil rfl hl.1 rfl (Nat.le_of_ble_eq_true rfl) dX12_under_16 ⟨Nat.le_of_ble_eq_true rfl, Nat.le_of_ble_eq_true rfl⟩ ?_
    refine z_ifB_ne (tgt := 27) hx hb dX12_under_19 (by decide) (fun c_19 => ?_) (fun c_19 => ?_)
    · exfalso; omega
    ·
      refine z_bipush hx hb dX12_under_22 (by decide) ?_
      refine lv_goto (tgt := 46) hx hb dX12_under_24 (by decide) ?_
      exact z_iret0 hx hb hr hlocks (rfl) dX12_under_46
  · exfalso; omega
set_option maxHeartbeats 8000000 in
set_option maxRecDepth 100000 in
theorem c_X12_under (l : Launch) (D : va_G) (y : Nat → ClassId) (m0 : Nat) (m_read : Nat) (rl : Int) (rp : Int) (m_gut : Nat) (gl : Int) (gp : Int) (gx : Int) (gy : Int) (m_text : Nat) (tn : Int) (fn : Int) (m_boat : Nat) (m_coins : Nat) (vw : Int) (vm : Int) (vn : Int) (m_rest : Nat) (m_ends : Nat) (vc : Int) (m_chan : Nat) (m_spl : Nat) (fs : Int) (rn : Int) (m_rf : Nat) (m_rr : Nat) (m_ik : Nat) (m_km : Nat) (m_kb : Nat) (m_kc : Nat) (m_kf : Nat) (m_kr : Nat) (MB : Int → Int) (MC : Int → Int) (bq : Int) (ts : Int) (hM : mbOK fn MB MC) (hbq : 0 ≤ bq ∧ bq < fn) (hs : 0 ≤ ts ∧ ts ≤ 999) (sz : Nat) : Met l yX12_under wsX12_under ({ frames := 3, cells := 0, slots := 0, locals := 71 } : Room) (wPc D y [] [(m0, .inr (11, [.ref m_read, zi rl, zi rp, .ref m_gut, zi gl, zi gp, zi gx, zi gy, .ref m_text, zi tn, zi fn, .ref m_boat, .ref m_coins, zi vw, zi vm, zi vn, .ref m_rest, .ref m_ends, zl vc, .ref m_chan, .ref m_spl, zi fs, zi rn, .ref m_rf, .ref m_rr, .ref m_ik, .ref m_km, .ref m_kb, .ref m_kc, .ref m_kf, .ref m_kr])), (m_boat, .inl (y 0, 42, .inl (cI MB))), (m_coins, .inl (y 0, 144, .inl (cI MC)))] sz [.ref m0, zi bq, zi ts]) (wQ D (fun (_ : Unit) => some (zi (bI (roomV ((MB (7 * bq)) - 2 * (MB (7 * bq + 3))) ((MB (7 * bq + 1)) - 2 * (MB (7 * bq + 3))) (MB (7 * bq + 3)) (corAt (MB (7 * bq)) (MB (7 * bq + 1)) (MB (7 * bq + 2)) (MB (7 * bq + 3)) (MB (7 * bq + 4)) (MB (7 * bq + 6)) (mCI MC bq) (mCJ MC bq) (mCW MC bq) ts) < 0)))) (fun (_ : Unit) => True) (fun (_ : Unit) => [(m0, .inr (11, [.ref m_read, zi rl, zi rp, .ref m_gut, zi gl, zi gp, zi gx, zi gy, .ref m_text, zi tn, zi fn, .ref m_boat, .ref m_coins, zi (bs (mCW MC bq) (MB (7 * bq + 6)) (1 * 2 ^ (MB (7 * bq + 6)).toNat - 1)), zi (bs (pullC ((MB (7 * bq)) - 2 * (MB (7 * bq + 3))) (mCI MC bq) (mCW MC bq)) (MB (7 * bq + 6)) (1 * 2 ^ (MB (7 * bq + 6)).toNat - 1)), zi (bs (pullC ((MB (7 * bq + 1)) - 2 * (MB (7 * bq + 3))) (mCJ MC bq) (mCW MC bq)) (MB (7 * bq + 6)) (1 * 2 ^ (MB (7 * bq + 6)).toNat - 1)), .ref m_rest, .ref m_ends, zl vc, .ref m_chan, .ref m_spl, zi fs, zi rn, .ref m_rf, .ref m_rr, .ref m_ik, .ref m_km, .ref m_kb, .ref m_kc, .ref m_kf, .ref m_kr])), (m_boat, .inl (y 0, 42, .inl (cI MB))), (m_coins, .inl (y 0, 144, .inl (cI MC)))]) (va_A [(m0, .inr (11, [.ref m_read, zi rl, zi rp, .ref m_gut, zi gl, zi gp, zi gx, zi gy, .ref m_text, zi tn, zi fn, .ref m_boat, .ref m_coins, zi vw, zi vm, zi vn, .ref m_rest, .ref m_ends, zl vc, .ref m_chan, .ref m_spl, zi fs, zi rn, .ref m_rf, .ref m_rr, .ref m_ik, .ref m_km, .ref m_kb, .ref m_kc, .ref m_kf, .ref m_kr])), (m_boat, .inl (y 0, 42, .inl (cI MB))), (m_coins, .inl (y 0, 144, .inl (cI MC)))] sz)) 0 0 (va_A [(m0, .inr (11, [.ref m_read, zi rl, zi rp, .ref m_gut, zi gl, zi gp, zi gx, zi gy, .ref m_text, zi tn, zi fn, .ref m_boat, .ref m_coins, zi vw, zi vm, zi vn, .ref m_rest, .ref m_ends, zl vc, .ref m_chan, .ref m_spl, zi fs, zi rn, .ref m_rf, .ref m_rr, .ref m_ik, .ref m_km, .ref m_kb, .ref m_kc, .ref m_kf, .ref m_kr])), (m_boat, .inl (y 0, 42, .inl (cI MB))), (m_coins, .inl (y 0, 144, .inl (cI MC)))] sz) := by
  refine W_of (own := RX12) (cc := cX12_under) (maxL := 3) (ret := some .int) (by decide) rfl rfl (Nat.le_of_ble_eq_true rfl) (fun p e s m below meth c ls A hx hb hr hC hlocks hin0 hR0 hN hP hD hA hG hl => ?_)
  have hC0 := hC
  obtain ⟨-, -, hml, hown, hts⟩ := hC0
  have hK := hG.1
  have hS : va_S A s.heap s.heap [] := va_S.rf
  have hPr := hR0
  have k1 := hts (.constantLong RX12 153 (999)) (List.mem_of_getElem? (i := 1) rfl)
  have hl : lv_has ls 3 [(0, .ref m0), (1, zi bq), (2, zi ts)] := hl
  have hB := hM.2 bq hbq.1 hbq.2
  obtain ⟨q1, q2, q3, q4, q5, q6, q7, q8, q9, qc⟩ := id hB
  have qf := hM.1
  have b2 := pow8 (k := MB (7 * bq + 6)) (by omega)
  have b3 := bOK_set hB (1 * 2 ^ (MB (7 * bq + 6)).toNat - 1)
  have b4 := bOK_lwt hB
  have b1 := bOK_cells hB
  have eC := corAt_bs (bl := (MB (7 * bq))) (bw := (MB (7 * bq + 1))) (bt := (MB (7 * bq + 2))) (bh := (MB (7 * bq + 3))) (bd := (MB (7 * bq + 4))) (bn := (MB (7 * bq + 6))) (CI := (mCI MC bq)) (CJ := (mCJ MC bq)) (CW := (mCW MC bq)) (by omega) ts
  refine lv_aload_n hx hb dX12_under_0 rfl (lv_at hl 0 rfl) ?_
  refine lv_iload_n hx hb dX12_under_1 rfl (lv_at hl 1 rfl) ?_
  refine z_pV (As := [zi bq]) (rest := []) hC (c_X12_isBoat l D y m0 m_read rl rp m_gut gl gp gx gy m_text tn fn m_boat m_coins vw vm vn m_rest m_ends vc m_chan m_spl fs rn m_rf m_rr m_ik m_km m_kb m_kc m_kf m_kr bq (by first | assumption | omega) (by first | assumption | omega)) (cwV 1 hts gX12_under_X12_isBoat rfl rfl rfl (by decide +kernel) ⟨Nat.le_of_ble_eq_true rfl, Nat.le_of_ble_eq_true rfl⟩) hG (hP.sub (ws' := [(m0, .inr (11, [.ref m_read, zi rl, zi rp, .ref m_gut, zi gl, zi gp, zi gx, zi gy, .ref m_text, zi tn, zi fn, .ref m_boat, .ref m_coins, zi vw, zi vm, zi vn, .ref m_rest, .ref m_ends, zl vc, .ref m_chan, .ref m_spl, zi fs, zi rn, .ref m_rf, .ref m_rr, .ref m_ik, .ref m_km, .ref m_kb, .ref m_kc, .ref m_kf, .ref m_kr]))]) [0] rfl) 0 rfl rfl rfl hl.1 rfl (Nat.le_of_ble_eq_true rfl) dX12_under_2 ⟨Nat.le_of_ble_eq_true rfl, Nat.le_of_ble_eq_true rfl⟩ ?_
  refine z_ifB_ne (tgt := 10) hx hb dX12_under_5 (by decide) (fun c_5 => ?_) (fun c_5 => ?_)
  ·
    refine lv_iload_n hx hb dX12_under_10 rfl (lv_at hl 2 rfl) ?_
    refine z_i2l hx hb (by omega) dX12_under_11 ?_
    refine lv_lconst (v := iL 0) hx hb dX12_under_12 rfl ?_
    refine lv_ldc2 (v := iL 999) hx hb hown k1 dX12_under_13 ?_
    refine z_pS (As := [zl ts, zl 0, zl 999]) (rest := []) hC (c_X12_in l D y ts 0 999 (by first | assumption | omega)) (va_cwS 3 hts gX12_under_X12_in rfl rfl rfl (by decide +kernel) ⟨Nat.le_of_ble_eq_true rfl, Nat.le_of_ble_eq_true rfl⟩) hG va_P_nil rfl hl.1 rfl (Nat.le_of_ble_eq_true rfl) dX12_under_16 ⟨Nat.le_of_ble_eq_true rfl, Nat.le_of_ble_eq_true rfl⟩ ?_
    refine z_ifB_ne (tgt := 27) hx hb dX12_under_19 (by decide) (fun c_19 => ?_) (fun c_19 => ?_)
    ·
      refine lv_aload_n hx hb dX12_under_27 rfl (lv_at hl 0 rfl) ?_
      refine lv_iload_n hx hb dX12_under_28 rfl (lv_at hl 1 rfl) ?_
      refine lv_iload_n hx hb dX12_under_29 rfl (lv_at hl 2 rfl) ?_
      refine lv_aload_n hx hb dX12_under_30 rfl (lv_at hl 0 rfl) ?_
      refine lv_iload_n hx hb dX12_under_31 rfl (lv_at hl 1 rfl) ?_
      refine z_pV (As := [zi bq]) (rest := [zi ts, zi bq, .ref m0]) hC (c_X12_all l D y m0 m_read rl rp m_gut gl gp gx gy m_text tn fn m_boat m_coins vw vm vn m_rest m_ends vc m_chan m_spl fs rn m_rf m_rr m_ik m_km m_kb m_kc m_kf m_kr MB MC bq (by first | assumption | omega) (by first | assumption | omega)) (cwV 1 hts gX12_under_X12_all rfl rfl rfl (by decide +kernel) ⟨Nat.le_of_ble_eq_true rfl, Nat.le_of_ble_eq_true rfl⟩) hG (hP.sub (ws' := [(m0, .inr (11, [.ref m_read, zi rl, zi rp, .ref m_gut, zi gl, zi gp, zi gx, zi gy, .ref m_text, zi tn, zi fn, .ref m_boat, .ref m_coins, zi vw, zi vm, zi vn, .ref m_rest, .ref m_ends, zl vc, .ref m_chan, .ref m_spl, zi fs, zi rn, .ref m_rf, .ref m_rr, .ref m_ik, .ref m_km, .ref m_kb, .ref m_kc, .ref m_kf, .ref m_kr])), (m_boat, .inl (y 0, 42, .inl (cI MB))), (m_coins, .inl (y 0, 144, .inl (cI MC)))]) [0, 1, 2] rfl) 0 rfl rfl rfl hl.1 rfl (Nat.le_of_ble_eq_true rfl) dX12_under_32 ⟨Nat.le_of_ble_eq_true rfl, Nat.le_of_ble_eq_true rfl⟩ ?_
      refine z_wV (As := [zi bq, zi ts, zi (1 * 2 ^ (MB (7 * bq + 6)).toNat - 1)]) (rest := []) (wc := [(m0, .inr (11, [.ref m_read, zi rl, zi rp, .ref m_gut, zi gl, zi gp, zi gx, zi gy, .ref m_text, zi tn, zi fn, .ref m_boat, .ref m_coins, zi vw, zi vm, zi vn, .ref m_rest, .ref m_ends, zl vc, .ref m_chan, .ref m_spl, zi fs, zi rn, .ref m_rf, .ref m_rr, .ref m_ik, .ref m_km, .ref m_kb, .ref m_kc, .ref m_kf, .ref m_kr])), (m_boat, .inl (y 0, 42, .inl (cI MB))), (m_coins, .inl (y 0, 144, .inl (cI MC)))]) (wrest := []) hC (c_X12_isUnder l D y m0 m_read rl rp m_gut gl gp gx gy m_text tn fn m_boat m_coins vw vm vn m_rest m_ends vc m_chan m_spl fs rn m_rf m_rr m_ik m_km m_kb m_kc m_kf m_kr MB MC bq ts (1 * 2 ^ (MB (7 * bq + 6)).toNat - 1) (by first | assumption | omega) (by first | assumption | omega) (by first | assumption | omega) (by first | assumption | omega) _) (cwV 3 hts gX12_under_X12_isUnder rfl rfl rfl (by decide +kernel) ⟨Nat.le_of_ble_eq_true rfl, Nat.le_of_ble_eq_true rfl⟩) hG hP hD hS hA [0, 1, 2] [] rfl rfl (by decide) (by decide) (by decide) va_P_nil ro_nil 0 rfl rfl rfl hl.1 rfl (Nat.le_of_ble_eq_true rfl) dX12_under_35 ⟨Nat.le_of_ble_eq_true rfl, Nat.le_of_ble_eq_true rfl⟩ (fun u9 H locs hw_1 hP hD hS => ?_)
      have hw_1 : True := hw_1
      have hP : va_P D vwCl [(m0, .inr (11, [.ref m_read, zi rl, zi rp, .ref m_gut, zi gl, zi gp, zi gx, zi gy, .ref m_text, zi tn, zi fn, .ref m_boat, .ref m_coins, zi (bs (mCW MC bq) (MB (7 * bq + 6)) (1 * 2 ^ (MB (7 * bq + 6)).toNat - 1)), zi (bs (pullC ((MB (7 * bq)) - 2 * (MB (7 * bq + 3))) (mCI MC bq) (mCW MC bq)) (MB (7 * bq + 6)) (1 * 2 ^ (MB (7 * bq + 6)).toNat - 1)), zi (bs (pullC ((MB (7 * bq + 1)) - 2 * (MB (7 * bq + 3))) (mCJ MC bq) (mCW MC bq)) (MB (7 * bq + 6)) (1 * 2 ^ (MB (7 * bq + 6)).toNat - 1)), .ref m_rest, .ref m_ends, zl vc, .ref m_chan, .ref m_spl, zi fs, zi rn, .ref m_rf, .ref m_rr, .ref m_ik, .ref m_km, .ref m_kb, .ref m_kc, .ref m_kf, .ref m_kr])), (m_boat, .inl (y 0, 42, .inl (cI MB))), (m_coins, .inl (y 0, 144, .inl (cI MC)))] H := hP
      have hD : va_D A [(m0, .inr (11, [.ref m_read, zi rl, zi rp, .ref m_gut, zi gl, zi gp, zi gx, zi gy, .ref m_text, zi tn, zi fn, .ref m_boat, .ref m_coins, zi (bs (mCW MC bq) (MB (7 * bq + 6)) (1 * 2 ^ (MB (7 * bq + 6)).toNat - 1)), zi (bs (pullC ((MB (7 * bq)) - 2 * (MB (7 * bq + 3))) (mCI MC bq) (mCW MC bq)) (MB (7 * bq + 6)) (1 * 2 ^ (MB (7 * bq + 6)).toNat - 1)), zi (bs (pullC ((MB (7 * bq + 1)) - 2 * (MB (7 * bq + 3))) (mCJ MC bq) (mCW MC bq)) (MB (7 * bq + 6)) (1 * 2 ^ (MB (7 * bq + 6)).toNat - 1)), .ref m_rest, .ref m_ends, zl vc, .ref m_chan, .ref m_spl, zi fs, zi rn, .ref m_rf, .ref m_rr, .ref m_ik, .ref m_km, .ref m_kb, .ref m_kc, .ref m_kf, .ref m_kr])), (m_boat, .inl (y 0, 42, .inl (cI MB))), (m_coins, .inl (y 0, 144, .inl (cI MC)))] := hD
      refine z_ifB_eq (tgt := 45) hx hb dX12_under_38 (by decide) (fun c_38 => ?_) (fun c_38 => ?_)
      ·
        refine z_iconst hx hb dX12_under_45 ?_
        exact z_iretW hx hb hr hlocks () (by first | exact congrArg (fun z => some (zi z)) (bI_t (by rw [← eC]; assumption)) | exact congrArg (fun z => some (zi z)) (bI_f (by rw [← eC]; assumption))) (trivial) (hP.sub [0, 1, 2] rfl) (hD.sub [0, 1, 2] (by decide) rfl) hS dX12_under_46
      ·
        refine z_iconst hx hb dX12_under_41 ?_
        refine lv_goto (tgt := 46) hx hb dX12_under_42 (by decide) ?_
        exact z_iretW hx hb hr hlocks () (by first | exact congrArg (fun z => some (zi z)) (bI_t (by rw [← eC]; assumption)) | exact congrArg (fun z => some (zi z)) (bI_f (by rw [← eC]; assumption))) (trivial) (hP.sub [0, 1, 2] rfl) (hD.sub [0, 1, 2] (by decide) rfl) hS dX12_under_46
    · exfalso; omega
  · exfalso; omega
set_option maxHeartbeats 8000000 in
set_option maxRecDepth 100000 in
theorem c_X12_lifeOf (l : Launch) (D : va_G) (y : Nat → ClassId) (m0 : Nat) (m_read : Nat) (rl : Int) (rp : Int) (m_gut : Nat) (gl : Int) (gp : Int) (gx : Int) (gy : Int) (m_text : Nat) (tn : Int) (fn : Int) (m_boat : Nat) (m_coins : Nat) (vw : Int) (vm : Int) (vn : Int) (m_rest : Nat) (m_ends : Nat) (vc : Int) (m_chan : Nat) (m_spl : Nat) (fs : Int) (rn : Int) (m_rf : Nat) (m_rr : Nat) (m_ik : Nat) (m_km : Nat) (m_kb : Nat) (m_kc : Nat) (m_kf : Nat) (m_kr : Nat) (MB : Int → Int) (MC : Int → Int) (bq : Int) (hM : mbOK fn MB MC) (hbq : 0 ≤ bq ∧ bq < fn) (sz : Nat) : Met l yX12_lifeOf wsX12_lifeOf ({ frames := 3, cells := 0, slots := 0, locals := 71 } : Room) (wPc D y [] [(m0, .inr (11, [.ref m_read, zi rl, zi rp, .ref m_gut, zi gl, zi gp, zi gx, zi gy, .ref m_text, zi tn, zi fn, .ref m_boat, .ref m_coins, zi vw, zi vm, zi vn, .ref m_rest, .ref m_ends, zl vc, .ref m_chan, .ref m_spl, zi fs, zi rn, .ref m_rf, .ref m_rr, .ref m_ik, .ref m_km, .ref m_kb, .ref m_kc, .ref m_kf, .ref m_kr])), (m_boat, .inl (y 0, 42, .inl (cI MB))), (m_coins, .inl (y 0, 144, .inl (cI MC)))] sz [.ref m0, zi bq]) (wQ D (fun (x9 : Int × Int × Int) => match x9 with | (vw2, vm2, vn2) => some (zi (lifeV (MB (7 * bq)) (MB (7 * bq + 1)) (MB (7 * bq + 2)) (MB (7 * bq + 3)) (MB (7 * bq + 4)) (MB (7 * bq + 5)) (MB (7 * bq + 6)) (mCI MC bq) (mCJ MC bq) (mCW MC bq)))) (fun (x9 : Int × Int × Int) => match x9 with | (vw2, vm2, vn2) => True) (fun (x9 : Int × Int × Int) => match x9 with | (vw2, vm2, vn2) => [(m0, .inr (11, [.ref m_read, zi rl, zi rp, .ref m_gut, zi gl, zi gp, zi gx, zi gy, .ref m_text, zi tn, zi fn, .ref m_boat, .ref m_coins, zi vw2, zi vm2, zi vn2, .ref m_rest, .ref m_ends, zl vc, .ref m_chan, .ref m_spl, zi fs, zi rn, .ref m_rf, .ref m_rr, .ref m_ik, .ref m_km, .ref m_kb, .ref m_kc, .ref m_kf, .ref m_kr])), (m_boat, .inl (y 0, 42, .inl (cI MB))), (m_coins, .inl (y 0, 144, .inl (cI MC)))]) (va_A [(m0, .inr (11, [.ref m_read, zi rl, zi rp, .ref m_gut, zi gl, zi gp, zi gx, zi gy, .ref m_text, zi tn, zi fn, .ref m_boat, .ref m_coins, zi vw, zi vm, zi vn, .ref m_rest, .ref m_ends, zl vc, .ref m_chan, .ref m_spl, zi fs, zi rn, .ref m_rf, .ref m_rr, .ref m_ik, .ref m_km, .ref m_kb, .ref m_kc, .ref m_kf, .ref m_kr])), (m_boat, .inl (y 0, 42, .inl (cI MB))), (m_coins, .inl (y 0, 144, .inl (cI MC)))] sz)) 0 0 (va_A [(m0, .inr (11, [.ref m_read, zi rl, zi rp, .ref m_gut, zi gl, zi gp, zi gx, zi gy, .ref m_text, zi tn, zi fn, .ref m_boat, .ref m_coins, zi vw, zi vm, zi vn, .ref m_rest, .ref m_ends, zl vc, .ref m_chan, .ref m_spl, zi fs, zi rn, .ref m_rf, .ref m_rr, .ref m_ik, .ref m_km, .ref m_kb, .ref m_kc, .ref m_kf, .ref m_kr])), (m_boat, .inl (y 0, 42, .inl (cI MB))), (m_coins, .inl (y 0, 144, .inl (cI MC)))] sz) := by
  refine W_of (own := RX12) (cc := cX12_lifeOf) (maxL := 4) (ret := some .int) (by decide) rfl rfl (Nat.le_of_ble_eq_true rfl) (fun p e s m below meth c ls A hx hb hr hC hlocks hin0 hR0 hN hP hD hA hG hl => ?_)
  have hC0 := hC
  obtain ⟨-, -, hml, hown, hts⟩ := hC0
  have hK := hG.1
  have hS : va_S A s.heap s.heap [] := va_S.rf
  have hPr := hR0
  have hinX12 : ∀ w ∈ wsX120, w ∈ wsX12_lifeOf := fun _ h => List.mem_cons_of_mem _ (List.mem_append_right _ h)
  have k1 := hts (.fieldLink RX12 19 "BoatsOfPaperModel" "boat" "[I") (List.mem_of_getElem? (i := 1) rfl)
  have hl : lv_has ls 4 [(0, .ref m0), (1, zi bq)] := hl
  have hB := hM.2 bq hbq.1 hbq.2
  obtain ⟨q1, q2, q3, q4, q5, q6, q7, q8, q9, qc⟩ := id hB
  have qf := hM.1
  have b2 := pow8 (k := MB (7 * bq + 6)) (by omega)
  have b3 := bOK_set hB (1 * 2 ^ (MB (7 * bq + 6)).toNat - 1)
  have b4 := bOK_lwt hB
  have b1 := bOK_cells hB
  have b5 := mul_bd (a := (MB (7 * bq + 4))) (b := ((MB (7 * bq)) - 2 * (MB (7 * bq + 3))) * ((MB (7 * bq + 1)) - 2 * (MB (7 * bq + 3)))) (A := 99) (B := 324) (by omega) (by omega) (by omega) (by omega)
  refine z_bipush hx hb dX12_lifeOf_0 (by decide) ?_
  refine lv_istore_n (lv' := [(2, zi (-9)), (0, .ref m0), (1, zi bq)]) hx hb dX12_lifeOf_2 rfl hl (by decide) rfl (fun ls hl => ?_)
  refine z_iconst hx hb dX12_lifeOf_3 ?_
  refine lv_istore_n (lv' := [(3, zi 0), (2, zi (-9)), (0, .ref m0), (1, zi bq)]) hx hb dX12_lifeOf_4 rfl hl (by decide) rfl (fun ls hl => ?_)
  refine z_loop (σ := Int × Int × Int × Int × Int) (fun x9 H lc ls => match x9 with | (v, k, w1, x1, z1) => ((0 ≤ k ∧ k ≤ 10 * MB (7 * bq + 2) + 5 * MB (7 * bq + 5) + 1) ∧ v = lifK (leftV (MB (7 * bq)) (MB (7 * bq + 1)) (MB (7 * bq + 2)) (MB (7 * bq + 3)) (MB (7 * bq + 4)) (MB (7 * bq + 6)) (mCI MC bq) (mCJ MC bq) (mCW MC bq)) ((MB (7 * bq + 4)) * (((MB (7 * bq)) - 2 * (MB (7 * bq + 3))) * ((MB (7 * bq + 1)) - 2 * (MB (7 * bq + 3))))) k) ∧ lv_has ls 4 [(3, zi k), (2, zi v), (0, .ref m0), (1, zi bq)] ∧ va_P D vwCl [(m0, .inr (11, [.ref m_read, zi rl, zi rp, .ref m_gut, zi gl, zi gp, zi gx, zi gy, .ref m_text, zi tn, zi fn, .ref m_boat, .ref m_coins, zi w1, zi x1, zi z1, .ref m_rest, .ref m_ends, zl vc, .ref m_chan, .ref m_spl, zi fs, zi rn, .ref m_rf, .ref m_rr, .ref m_ik, .ref m_km, .ref m_kb, .ref m_kc, .ref m_kf, .ref m_kr])), (m_boat, .inl (y 0, 42, .inl (cI MB))), (m_coins, .inl (y 0, 144, .inl (cI MC)))] H ∧ va_D A [(m0, .inr (11, [.ref m_read, zi rl, zi rp, .ref m_gut, zi gl, zi gp, zi gx, zi gy, .ref m_text, zi tn, zi fn, .ref m_boat, .ref m_coins, zi w1, zi x1, zi z1, .ref m_rest, .ref m_ends, zl vc, .ref m_chan, .ref m_spl, zi fs, zi rn, .ref m_rf, .ref m_rr, .ref m_ik, .ref m_km, .ref m_kb, .ref m_kc, .ref m_kf, .ref m_kr])), (m_boat, .inl (y 0, 42, .inl (cI MB))), (m_coins, .inl (y 0, 144, .inl (cI MC)))] ∧ va_S A s.heap H lc) (fun x9  => match x9 with | (v, k, w1, x1, z1) => ((10 * MB (7 * bq + 2) + 5 * MB (7 * bq + 5) + 1 - k).toNat)) ?_ ((-9), 0, vw, vm, vn) ⟨⟨by omega, (by unfold lifK; rw [if_pos (by omega)])⟩, lv_sub hl [0, 1, 2, 3] rfl, hP.sub [0, 1, 2] rfl, hD.sub [0, 1, 2] (by decide) rfl, hS⟩
  rintro ⟨v, k, w1, x1, z1⟩ H lc ls ⟨hi5, hl, hP, hD, hS⟩ ih5
  have hP : va_P D vwCl [(m0, .inr (11, [.ref m_read, zi rl, zi rp, .ref m_gut, zi gl, zi gp, zi gx, zi gy, .ref m_text, zi tn, zi fn, .ref m_boat, .ref m_coins, zi w1, zi x1, zi z1, .ref m_rest, .ref m_ends, zl vc, .ref m_chan, .ref m_spl, zi fs, zi rn, .ref m_rf, .ref m_rr, .ref m_ik, .ref m_km, .ref m_kb, .ref m_kc, .ref m_kf, .ref m_kr])), (m_boat, .inl (y 0, 42, .inl (cI MB))), (m_coins, .inl (y 0, 144, .inl (cI MC)))] H := hP
  have hD : va_D A [(m0, .inr (11, [.ref m_read, zi rl, zi rp, .ref m_gut, zi gl, zi gp, zi gx, zi gy, .ref m_text, zi tn, zi fn, .ref m_boat, .ref m_coins, zi w1, zi x1, zi z1, .ref m_rest, .ref m_ends, zl vc, .ref m_chan, .ref m_spl, zi fs, zi rn, .ref m_rf, .ref m_rr, .ref m_ik, .ref m_km, .ref m_kb, .ref m_kc, .ref m_kf, .ref m_kr])), (m_boat, .inl (y 0, 42, .inl (cI MB))), (m_coins, .inl (y 0, 144, .inl (cI MC)))] := hD
  refine lv_iload_n hx hb dX12_lifeOf_5 rfl (lv_at hl 0 rfl) ?_
  refine z_bipush hx hb dX12_lifeOf_6 (by decide) ?_
  refine lv_aload_n hx hb dX12_lifeOf_8 rfl (lv_at hl 2 rfl) ?_
  refine va_get hx hb hts hinX12 hown hK hP 0 rfl rfl 11 (by decide) k1 (fun _ h => h) rfl dX12_lifeOf_9 ?_
  refine z_bipush hx hb dX12_lifeOf_12 (by decide) ?_
  refine lv_iload_n hx hb dX12_lifeOf_14 rfl (lv_at hl 3 rfl) ?_
  refine z_imul hx hb dX12_lifeOf_15 ?_
  refine z_iconst hx hb dX12_lifeOf_16 ?_
  refine z_iadd hx hb dX12_lifeOf_17 ?_
  refine z_iald hx hb hK hP 1 0 rfl rfl (by omega) (by decide) dX12_lifeOf_18 ?_
  refine z_imul hx hb dX12_lifeOf_19 ?_
  refine z_iconst hx hb dX12_lifeOf_20 ?_
  refine lv_aload_n hx hb dX12_lifeOf_21 rfl (lv_at hl 2 rfl) ?_
  refine va_get hx hb hts hinX12 hown hK hP 0 rfl rfl 11 (by decide) k1 (fun _ h => h) rfl dX12_lifeOf_22 ?_
  refine z_bipush hx hb dX12_lifeOf_25 (by decide) ?_
  refine lv_iload_n hx hb dX12_lifeOf_27 rfl (lv_at hl 3 rfl) ?_
  refine z_imul hx hb dX12_lifeOf_28 ?_
  refine z_iconst hx hb dX12_lifeOf_29 ?_
  refine z_iadd hx hb dX12_lifeOf_30 ?_
  refine z_iald hx hb hK hP 1 0 rfl rfl (by omega) (by decide) dX12_lifeOf_31 ?_
  refine z_imul hx hb dX12_lifeOf_32 ?_
  refine z_iadd hx hb dX12_lifeOf_33 ?_
  refine z_icmp_gt (tgt := 70) hx hb (by omega) (by omega) dX12_lifeOf_34 (by decide) (fun c_34 => ?_) (fun c_34 => ?_)
  ·
    refine lv_iload_n hx hb dX12_lifeOf_70 rfl (lv_at hl 1 rfl) ?_
    exact z_iretW hx hb hr hlocks (w1, x1, z1) (by exact congrArg (fun z => some (zi z)) (by rw [hi5.2, show k = 10 * MB (7 * bq + 2) + 5 * MB (7 * bq + 5) + 1 by omega]; exact (lifK_end (by omega)).symm)) (trivial) (hP.sub [0, 1, 2] rfl) (hD.sub [0, 1, 2] (by decide) rfl) hS dX12_lifeOf_71
  ·
    refine lv_iload_n hx hb dX12_lifeOf_37 rfl (lv_at hl 0 rfl) ?_
    refine z_sipush hx hb dX12_lifeOf_38 (by decide) ?_
    refine z_icmp_ge (tgt := 70) hx hb (by omega) (by omega) dX12_lifeOf_41 (by decide) (fun c_41 => ?_) (fun c_41 => ?_)
    · exfalso; omega
    ·
      refine lv_aload_n hx hb dX12_lifeOf_44 rfl (lv_at hl 2 rfl) ?_
      refine lv_iload_n hx hb dX12_lifeOf_45 rfl (lv_at hl 3 rfl) ?_
      refine lv_iload_n hx hb dX12_lifeOf_46 rfl (lv_at hl 0 rfl) ?_
      refine lv_aload_n hx hb dX12_lifeOf_47 rfl (lv_at hl 2 rfl) ?_
      refine lv_iload_n hx hb dX12_lifeOf_48 rfl (lv_at hl 3 rfl) ?_
      refine z_pV (As := [zi bq]) (rest := [zi k, zi bq, .ref m0]) hC (c_X12_all l D y m0 m_read rl rp m_gut gl gp gx gy m_text tn fn m_boat m_coins w1 x1 z1 m_rest m_ends vc m_chan m_spl fs rn m_rf m_rr m_ik m_km m_kb m_kc m_kf m_kr MB MC bq (by first | assumption | omega) (by first | assumption | omega)) (cwV 1 hts gX12_lifeOf_X12_all rfl rfl rfl (by decide +kernel) ⟨Nat.le_of_ble_eq_true rfl, Nat.le_of_ble_eq_true rfl⟩) hG (hP.sub (ws' := [(m0, .inr (11, [.ref m_read, zi rl, zi rp, .ref m_gut, zi gl, zi gp, zi gx, zi gy, .ref m_text, zi tn, zi fn, .ref m_boat, .ref m_coins, zi w1, zi x1, zi z1, .ref m_rest, .ref m_ends, zl vc, .ref m_chan, .ref m_spl, zi fs, zi rn, .ref m_rf, .ref m_rr, .ref m_ik, .ref m_km, .ref m_kb, .ref m_kc, .ref m_kf, .ref m_kr])), (m_boat, .inl (y 0, 42, .inl (cI MB))), (m_coins, .inl (y 0, 144, .inl (cI MC)))]) [0, 1, 2] rfl) 0 rfl rfl rfl hl.1 rfl (Nat.le_of_ble_eq_true rfl) dX12_lifeOf_49 ⟨Nat.le_of_ble_eq_true rfl, Nat.le_of_ble_eq_true rfl⟩ ?_
      refine z_wV (As := [zi bq, zi k, zi (1 * 2 ^ (MB (7 * bq + 6)).toNat - 1)]) (rest := []) (wc := [(m0, .inr (11, [.ref m_read, zi rl, zi rp, .ref m_gut, zi gl, zi gp, zi gx, zi gy, .ref m_text, zi tn, zi fn, .ref m_boat, .ref m_coins, zi w1, zi x1, zi z1, .ref m_rest, .ref m_ends, zl vc, .ref m_chan, .ref m_spl, zi fs, zi rn, .ref m_rf, .ref m_rr, .ref m_ik, .ref m_km, .ref m_kb, .ref m_kc, .ref m_kf, .ref m_kr])), (m_boat, .inl (y 0, 42, .inl (cI MB))), (m_coins, .inl (y 0, 144, .inl (cI MC)))]) (wrest := []) hC (c_X12_isUnder l D y m0 m_read rl rp m_gut gl gp gx gy m_text tn fn m_boat m_coins w1 x1 z1 m_rest m_ends vc m_chan m_spl fs rn m_rf m_rr m_ik m_km m_kb m_kc m_kf m_kr MB MC bq k (1 * 2 ^ (MB (7 * bq + 6)).toNat - 1) (by first | assumption | omega) (by first | assumption | omega) (by first | assumption | omega) (by first | assumption | omega) _) (cwV 3 hts gX12_lifeOf_X12_isUnder rfl rfl rfl (by decide +kernel) ⟨Nat.le_of_ble_eq_true rfl, Nat.le_of_ble_eq_true rfl⟩) hG hP hD hS hA [0, 1, 2] [] rfl rfl (by decide) (by decide) (by decide) va_P_nil ro_nil 0 rfl rfl rfl hl.1 rfl (Nat.le_of_ble_eq_true rfl) dX12_lifeOf_52 ⟨Nat.le_of_ble_eq_true rfl, Nat.le_of_ble_eq_true rfl⟩ (fun u9 H locs hw_1 hP hD hS => ?_)
      have hw_1 : True := hw_1
      have hP : va_P D vwCl [(m0, .inr (11, [.ref m_read, zi rl, zi rp, .ref m_gut, zi gl, zi gp, zi gx, zi gy, .ref m_text, zi tn, zi fn, .ref m_boat, .ref m_coins, zi (bs (mCW MC bq) (MB (7 * bq + 6)) (1 * 2 ^ (MB (7 * bq + 6)).toNat - 1)), zi (bs (pullC ((MB (7 * bq)) - 2 * (MB (7 * bq + 3))) (mCI MC bq) (mCW MC bq)) (MB (7 * bq + 6)) (1 * 2 ^ (MB (7 * bq + 6)).toNat - 1)), zi (bs (pullC ((MB (7 * bq + 1)) - 2 * (MB (7 * bq + 3))) (mCJ MC bq) (mCW MC bq)) (MB (7 * bq + 6)) (1 * 2 ^ (MB (7 * bq + 6)).toNat - 1)), .ref m_rest, .ref m_ends, zl vc, .ref m_chan, .ref m_spl, zi fs, zi rn, .ref m_rf, .ref m_rr, .ref m_ik, .ref m_km, .ref m_kb, .ref m_kc, .ref m_kf, .ref m_kr])), (m_boat, .inl (y 0, 42, .inl (cI MB))), (m_coins, .inl (y 0, 144, .inl (cI MC)))] H := hP
      have hD : va_D A [(m0, .inr (11, [.ref m_read, zi rl, zi rp, .ref m_gut, zi gl, zi gp, zi gx, zi gy, .ref m_text, zi tn, zi fn, .ref m_boat, .ref m_coins, zi (bs (mCW MC bq) (MB (7 * bq + 6)) (1 * 2 ^ (MB (7 * bq + 6)).toNat - 1)), zi (bs (pullC ((MB (7 * bq)) - 2 * (MB (7 * bq + 3))) (mCI MC bq) (mCW MC bq)) (MB (7 * bq + 6)) (1 * 2 ^ (MB (7 * bq + 6)).toNat - 1)), zi (bs (pullC ((MB (7 * bq + 1)) - 2 * (MB (7 * bq + 3))) (mCJ MC bq) (mCW MC bq)) (MB (7 * bq + 6)) (1 * 2 ^ (MB (7 * bq + 6)).toNat - 1)), .ref m_rest, .ref m_ends, zl vc, .ref m_chan, .ref m_spl, zi fs, zi rn, .ref m_rf, .ref m_rr, .ref m_ik, .ref m_km, .ref m_kb, .ref m_kc, .ref m_kf, .ref m_kr])), (m_boat, .inl (y 0, 42, .inl (cI MB))), (m_coins, .inl (y 0, 144, .inl (cI MC)))] := hD
      have eC := corAt_bs (bl := (MB (7 * bq))) (bw := (MB (7 * bq + 1))) (bt := (MB (7 * bq + 2))) (bh := (MB (7 * bq + 3))) (bd := (MB (7 * bq + 4))) (bn := (MB (7 * bq + 6))) (CI := (mCI MC bq)) (CJ := (mCJ MC bq)) (CW := (mCW MC bq)) (by omega) k
      refine z_ifB_ne (tgt := 62) hx hb dX12_lifeOf_55 (by decide) (fun c_55 => ?_) (fun c_55 => ?_)
      ·
        refine lv_iload_n hx hb dX12_lifeOf_62 rfl (lv_at hl 1 rfl) ?_
        refine lv_istore_n (lv' := [(2, zi v), (3, zi k), (0, .ref m0), (1, zi bq)]) hx hb dX12_lifeOf_63 rfl hl (by decide) rfl (fun ls hl => ?_)
        refine z_iinc (k := 1) (lv' := [(3, zi (k + 1)), (2, zi v), (0, .ref m0), (1, zi bq)]) hx hb dX12_lifeOf_64 hl rfl (by decide) rfl (fun ls hl => ?_)
        refine lv_goto (tgt := 5) hx hb dX12_lifeOf_67 (by decide) ?_
        exact ih5 (v, k + 1, bs (mCW MC bq) (MB (7 * bq + 6)) (1 * 2 ^ (MB (7 * bq + 6)).toNat - 1), bs (pullC ((MB (7 * bq)) - 2 * (MB (7 * bq + 3))) (mCI MC bq) (mCW MC bq)) (MB (7 * bq + 6)) (1 * 2 ^ (MB (7 * bq + 6)).toNat - 1), bs (pullC ((MB (7 * bq + 1)) - 2 * (MB (7 * bq + 3))) (mCJ MC bq) (mCW MC bq)) (MB (7 * bq + 6)) (1 * 2 ^ (MB (7 * bq + 6)).toNat - 1)) _ _ _ (by first | (dsimp only; omega) | omega) ⟨⟨by omega, by rw [lifK_s b5.1 hi5.1.1, ← room_at, ← eC]; first | exact (if_neg (by assumption)).symm | (rw [if_pos (by assumption)]; exact hi5.2)⟩, lv_sub hl [0, 1, 2, 3] rfl, hP.sub [0, 1, 2] rfl, hD.sub [0, 1, 2] (by decide) rfl, hS⟩
      ·
        refine lv_iload_n hx hb dX12_lifeOf_58 rfl (lv_at hl 0 rfl) ?_
        refine lv_goto (tgt := 63) hx hb dX12_lifeOf_59 (by decide) ?_
        refine lv_istore_n (lv' := [(2, zi k), (3, zi k), (0, .ref m0), (1, zi bq)]) hx hb dX12_lifeOf_63 rfl hl (by decide) rfl (fun ls hl => ?_)
        refine z_iinc (k := 1) (lv' := [(3, zi (k + 1)), (2, zi k), (0, .ref m0), (1, zi bq)]) hx hb dX12_lifeOf_64 hl rfl (by decide) rfl (fun ls hl => ?_)
        refine lv_goto (tgt := 5) hx hb dX12_lifeOf_67 (by decide) ?_
        exact ih5 (k, k + 1, bs (mCW MC bq) (MB (7 * bq + 6)) (1 * 2 ^ (MB (7 * bq + 6)).toNat - 1), bs (pullC ((MB (7 * bq)) - 2 * (MB (7 * bq + 3))) (mCI MC bq) (mCW MC bq)) (MB (7 * bq + 6)) (1 * 2 ^ (MB (7 * bq + 6)).toNat - 1), bs (pullC ((MB (7 * bq + 1)) - 2 * (MB (7 * bq + 3))) (mCJ MC bq) (mCW MC bq)) (MB (7 * bq + 6)) (1 * 2 ^ (MB (7 * bq + 6)).toNat - 1)) _ _ _ (by first | (dsimp only; omega) | omega) ⟨⟨by omega, by rw [lifK_s b5.1 hi5.1.1, ← room_at, ← eC]; first | exact (if_neg (by assumption)).symm | (rw [if_pos (by assumption)]; exact hi5.2)⟩, lv_sub hl [0, 1, 2, 3] rfl, hP.sub [0, 1, 2] rfl, hD.sub [0, 1, 2] (by decide) rfl, hS⟩
set_option maxHeartbeats 8000000 in
set_option maxRecDepth 100000 in
theorem c_X12_life_no (l : Launch) (D : va_G) (y : Nat → ClassId) (m0 : Nat) (m_read : Nat) (rl : Int) (rp : Int) (m_gut : Nat) (gl : Int) (gp : Int) (gx : Int) (gy : Int) (m_text : Nat) (tn : Int) (fn : Int) (m_boat : Nat) (m_coins : Nat) (vw : Int) (vm : Int) (vn : Int) (m_rest : Nat) (m_ends : Nat) (vc : Int) (m_chan : Nat) (m_spl : Nat) (fs : Int) (rn : Int) (m_rf : Nat) (m_rr : Nat) (m_ik : Nat) (m_km : Nat) (m_kb : Nat) (m_kc : Nat) (m_kf : Nat) (m_kr : Nat) (bq : Int) (hbq : rI bq ∧ 0 ≤ fn ∧ fn ≤ 6 ∧ ¬ (0 ≤ bq ∧ bq < fn)) : Met l yX12_life wsX12_life ({ frames := 2, cells := 0, slots := 0, locals := 46 } : Room) (pPc D y [(m0, .inr (11, [.ref m_read, zi rl, zi rp, .ref m_gut, zi gl, zi gp, zi gx, zi gy, .ref m_text, zi tn, zi fn, .ref m_boat, .ref m_coins, zi vw, zi vm, zi vn, .ref m_rest, .ref m_ends, zl vc, .ref m_chan, .ref m_spl, zi fs, zi rn, .ref m_rf, .ref m_rr, .ref m_ik, .ref m_km, .ref m_kb, .ref m_kc, .ref m_kf, .ref m_kr]))] [.ref m0, zi bq]) (qV (zi (-1))) 0 0 (fun _ => False) := by
  refine P_of (own := RX12) (cc := cX12_life) (maxL := 2) (ret := some .int) (by decide) rfl rfl (Nat.le_of_ble_eq_true rfl) (fun p e s m below meth c ls hx hb hr hC hlocks hPr hG hl => ?_)
  have hC0 := hC
  obtain ⟨-, -, hml, hown, hts⟩ := hC0
  have hK := hG.1
  have hl : lv_has ls 2 [(0, .ref m0), (1, zi bq)] := hl
  refine lv_aload_n hx hb dX12_life_0 rfl (lv_at hl 0 rfl) ?_
  refine lv_iload_n hx hb dX12_life_1 rfl (lv_at hl 1 rfl) ?_
  refine z_pV (As := [zi bq]) (rest := []) hC (c_X12_isBoat l D y m0 m_read rl rp m_gut gl gp gx gy m_text tn fn m_boat m_coins vw vm vn m_rest m_ends vc m_chan m_spl fs rn m_rf m_rr m_ik m_km m_kb m_kc m_kf m_kr bq (by first | assumption | omega) (by first | assumption | omega)) (cwV 1 hts gX12_life_X12_isBoat rfl rfl rfl (by decide +kernel) ⟨Nat.le_of_ble_eq_true rfl, Nat.le_of_ble_eq_true rfl⟩) hG (hPr.sub (ws' := [(m0, .inr (11, [.ref m_read, zi rl, zi rp, .ref m_gut, zi gl, zi gp, zi gx, zi gy, .ref m_text, zi tn, zi fn, .ref m_boat, .ref m_coins, zi vw, zi vm, zi vn, .ref m_rest, .ref m_ends, zl vc, .ref m_chan, .ref m_spl, zi fs, zi rn, .ref m_rf, .ref m_rr, .ref m_ik, .ref m_km, .ref m_kb, .ref m_kc, .ref m_kf, .ref m_kr]))]) [0] rfl) 0 rfl rfl rfl hl.1 rfl (Nat.le_of_ble_eq_true rfl) dX12_life_2 ⟨Nat.le_of_ble_eq_true rfl, Nat.le_of_ble_eq_true rfl⟩ ?_
  refine z_ifB_eq (tgt := 16) hx hb dX12_life_5 (by decide) (fun c_5 => ?_) (fun c_5 => ?_)
  ·
    refine z_iconst hx hb dX12_life_16 ?_
    exact z_iret0 hx hb hr hlocks (rfl) dX12_life_17
  · exfalso; omega
set_option maxHeartbeats 8000000 in
set_option maxRecDepth 100000 in
theorem c_X12_life (l : Launch) (D : va_G) (y : Nat → ClassId) (m0 : Nat) (m_read : Nat) (rl : Int) (rp : Int) (m_gut : Nat) (gl : Int) (gp : Int) (gx : Int) (gy : Int) (m_text : Nat) (tn : Int) (fn : Int) (m_boat : Nat) (m_coins : Nat) (vw : Int) (vm : Int) (vn : Int) (m_rest : Nat) (m_ends : Nat) (vc : Int) (m_chan : Nat) (m_spl : Nat) (fs : Int) (rn : Int) (m_rf : Nat) (m_rr : Nat) (m_ik : Nat) (m_km : Nat) (m_kb : Nat) (m_kc : Nat) (m_kf : Nat) (m_kr : Nat) (MB : Int → Int) (MC : Int → Int) (bq : Int) (hM : mbOK fn MB MC) (hbq : 0 ≤ bq ∧ bq < fn) (sz : Nat) : Met l yX12_life wsX12_life ({ frames := 4, cells := 0, slots := 0, locals := 94 } : Room) (wPc D y [] [(m0, .inr (11, [.ref m_read, zi rl, zi rp, .ref m_gut, zi gl, zi gp, zi gx, zi gy, .ref m_text, zi tn, zi fn, .ref m_boat, .ref m_coins, zi vw, zi vm, zi vn, .ref m_rest, .ref m_ends, zl vc, .ref m_chan, .ref m_spl, zi fs, zi rn, .ref m_rf, .ref m_rr, .ref m_ik, .ref m_km, .ref m_kb, .ref m_kc, .ref m_kf, .ref m_kr])), (m_boat, .inl (y 0, 42, .inl (cI MB))), (m_coins, .inl (y 0, 144, .inl (cI MC)))] sz [.ref m0, zi bq]) (wQ D (fun (x9 : Int × Int × Int) => match x9 with | (vw2, vm2, vn2) => some (zi (lifeV (MB (7 * bq)) (MB (7 * bq + 1)) (MB (7 * bq + 2)) (MB (7 * bq + 3)) (MB (7 * bq + 4)) (MB (7 * bq + 5)) (MB (7 * bq + 6)) (mCI MC bq) (mCJ MC bq) (mCW MC bq)))) (fun (x9 : Int × Int × Int) => match x9 with | (vw2, vm2, vn2) => True) (fun (x9 : Int × Int × Int) => match x9 with | (vw2, vm2, vn2) => [(m0, .inr (11, [.ref m_read, zi rl, zi rp, .ref m_gut, zi gl, zi gp, zi gx, zi gy, .ref m_text, zi tn, zi fn, .ref m_boat, .ref m_coins, zi vw2, zi vm2, zi vn2, .ref m_rest, .ref m_ends, zl vc, .ref m_chan, .ref m_spl, zi fs, zi rn, .ref m_rf, .ref m_rr, .ref m_ik, .ref m_km, .ref m_kb, .ref m_kc, .ref m_kf, .ref m_kr])), (m_boat, .inl (y 0, 42, .inl (cI MB))), (m_coins, .inl (y 0, 144, .inl (cI MC)))]) (va_A [(m0, .inr (11, [.ref m_read, zi rl, zi rp, .ref m_gut, zi gl, zi gp, zi gx, zi gy, .ref m_text, zi tn, zi fn, .ref m_boat, .ref m_coins, zi vw, zi vm, zi vn, .ref m_rest, .ref m_ends, zl vc, .ref m_chan, .ref m_spl, zi fs, zi rn, .ref m_rf, .ref m_rr, .ref m_ik, .ref m_km, .ref m_kb, .ref m_kc, .ref m_kf, .ref m_kr])), (m_boat, .inl (y 0, 42, .inl (cI MB))), (m_coins, .inl (y 0, 144, .inl (cI MC)))] sz)) 0 0 (va_A [(m0, .inr (11, [.ref m_read, zi rl, zi rp, .ref m_gut, zi gl, zi gp, zi gx, zi gy, .ref m_text, zi tn, zi fn, .ref m_boat, .ref m_coins, zi vw, zi vm, zi vn, .ref m_rest, .ref m_ends, zl vc, .ref m_chan, .ref m_spl, zi fs, zi rn, .ref m_rf, .ref m_rr, .ref m_ik, .ref m_km, .ref m_kb, .ref m_kc, .ref m_kf, .ref m_kr])), (m_boat, .inl (y 0, 42, .inl (cI MB))), (m_coins, .inl (y 0, 144, .inl (cI MC)))] sz) := by
  refine W_of (own := RX12) (cc := cX12_life) (maxL := 2) (ret := some .int) (by decide) rfl rfl (Nat.le_of_ble_eq_true rfl) (fun p e s m below meth c ls A hx hb hr hC hlocks hin0 hR0 hN hP hD hA hG hl => ?_)
  have hC0 := hC
  obtain ⟨-, -, hml, hown, hts⟩ := hC0
  have hK := hG.1
  have hS : va_S A s.heap s.heap [] := va_S.rf
  have hPr := hR0
  have hl : lv_has ls 2 [(0, .ref m0), (1, zi bq)] := hl
  have hB := hM.2 bq hbq.1 hbq.2
  obtain ⟨q1, q2, q3, q4, q5, q6, q7, q8, q9, qc⟩ := id hB
  have qf := hM.1
  refine lv_aload_n hx hb dX12_life_0 rfl (lv_at hl 0 rfl) ?_
  refine lv_iload_n hx hb dX12_life_1 rfl (lv_at hl 1 rfl) ?_
  refine z_pV (As := [zi bq]) (rest := []) hC (c_X12_isBoat l D y m0 m_read rl rp m_gut gl gp gx gy m_text tn fn m_boat m_coins vw vm vn m_rest m_ends vc m_chan m_spl fs rn m_rf m_rr m_ik m_km m_kb m_kc m_kf m_kr bq (by first | assumption | omega) (by first | assumption | omega)) (cwV 1 hts gX12_life_X12_isBoat rfl rfl rfl (by decide +kernel) ⟨Nat.le_of_ble_eq_true rfl, Nat.le_of_ble_eq_true rfl⟩) hG (hP.sub (ws' := [(m0, .inr (11, [.ref m_read, zi rl, zi rp, .ref m_gut, zi gl, zi gp, zi gx, zi gy, .ref m_text, zi tn, zi fn, .ref m_boat, .ref m_coins, zi vw, zi vm, zi vn, .ref m_rest, .ref m_ends, zl vc, .ref m_chan, .ref m_spl, zi fs, zi rn, .ref m_rf, .ref m_rr, .ref m_ik, .ref m_km, .ref m_kb, .ref m_kc, .ref m_kf, .ref m_kr]))]) [0] rfl) 0 rfl rfl rfl hl.1 rfl (Nat.le_of_ble_eq_true rfl) dX12_life_2 ⟨Nat.le_of_ble_eq_true rfl, Nat.le_of_ble_eq_true rfl⟩ ?_
  refine z_ifB_eq (tgt := 16) hx hb dX12_life_5 (by decide) (fun c_5 => ?_) (fun c_5 => ?_)
  · exfalso; omega
  ·
    refine lv_aload_n hx hb dX12_life_8 rfl (lv_at hl 0 rfl) ?_
    refine lv_iload_n hx hb dX12_life_9 rfl (lv_at hl 1 rfl) ?_
    refine z_wV (As := [zi bq]) (rest := []) (wc := [(m0, .inr (11, [.ref m_read, zi rl, zi rp, .ref m_gut, zi gl, zi gp, zi gx, zi gy, .ref m_text, zi tn, zi fn, .ref m_boat, .ref m_coins, zi vw, zi vm, zi vn, .ref m_rest, .ref m_ends, zl vc, .ref m_chan, .ref m_spl, zi fs, zi rn, .ref m_rf, .ref m_rr, .ref m_ik, .ref m_km, .ref m_kb, .ref m_kc, .ref m_kf, .ref m_kr])), (m_boat, .inl (y 0, 42, .inl (cI MB))), (m_coins, .inl (y 0, 144, .inl (cI MC)))]) (wrest := []) hC (c_X12_lifeOf l D y m0 m_read rl rp m_gut gl gp gx gy m_text tn fn m_boat m_coins vw vm vn m_rest m_ends vc m_chan m_spl fs rn m_rf m_rr m_ik m_km m_kb m_kc m_kf m_kr MB MC bq (by first | assumption | omega) (by first | assumption | omega) _) (cwV 1 hts gX12_life_X12_lifeOf rfl rfl rfl (by decide +kernel) ⟨Nat.le_of_ble_eq_true rfl, Nat.le_of_ble_eq_true rfl⟩) hG hP hD hS hA [0, 1, 2] [] rfl rfl (by decide) (by decide) (by decide) va_P_nil ro_nil 0 rfl rfl rfl hl.1 rfl (Nat.le_of_ble_eq_true rfl) dX12_life_10 ⟨Nat.le_of_ble_eq_true rfl, Nat.le_of_ble_eq_true rfl⟩ (fun u9 H locs hw_4 hP hD hS => ?_)
    obtain ⟨vw2_1, vm2_2, vn2_3⟩ := u9
    have hw_4 : True := hw_4
    have hP : va_P D vwCl [(m0, .inr (11, [.ref m_read, zi rl, zi rp, .ref m_gut, zi gl, zi gp, zi gx, zi gy, .ref m_text, zi tn, zi fn, .ref m_boat, .ref m_coins, zi vw2_1, zi vm2_2, zi vn2_3, .ref m_rest, .ref m_ends, zl vc, .ref m_chan, .ref m_spl, zi fs, zi rn, .ref m_rf, .ref m_rr, .ref m_ik, .ref m_km, .ref m_kb, .ref m_kc, .ref m_kf, .ref m_kr])), (m_boat, .inl (y 0, 42, .inl (cI MB))), (m_coins, .inl (y 0, 144, .inl (cI MC)))] H := hP
    have hD : va_D A [(m0, .inr (11, [.ref m_read, zi rl, zi rp, .ref m_gut, zi gl, zi gp, zi gx, zi gy, .ref m_text, zi tn, zi fn, .ref m_boat, .ref m_coins, zi vw2_1, zi vm2_2, zi vn2_3, .ref m_rest, .ref m_ends, zl vc, .ref m_chan, .ref m_spl, zi fs, zi rn, .ref m_rf, .ref m_rr, .ref m_ik, .ref m_km, .ref m_kb, .ref m_kc, .ref m_kf, .ref m_kr])), (m_boat, .inl (y 0, 42, .inl (cI MB))), (m_coins, .inl (y 0, 144, .inl (cI MC)))] := hD
    refine lv_goto (tgt := 17) hx hb dX12_life_13 (by decide) ?_
    exact z_iretW hx hb hr hlocks (vw2_1, vm2_2, vn2_3) (rfl) (trivial) (hP.sub [0, 1, 2] rfl) (hD.sub [0, 1, 2] (by decide) rfl) hS dX12_life_17
set_option maxHeartbeats 8000000 in
set_option maxRecDepth 100000 in
theorem c_X12_bearsOf (l : Launch) (D : va_G) (y : Nat → ClassId) (m0 : Nat) (m_read : Nat) (rl : Int) (rp : Int) (m_gut : Nat) (gl : Int) (gp : Int) (gx : Int) (gy : Int) (m_text : Nat) (tn : Int) (fn : Int) (m_boat : Nat) (m_coins : Nat) (vw : Int) (vm : Int) (vn : Int) (m_rest : Nat) (m_ends : Nat) (vc : Int) (m_chan : Nat) (m_spl : Nat) (fs : Int) (rn : Int) (m_rf : Nat) (m_rr : Nat) (m_ik : Nat) (m_km : Nat) (m_kb : Nat) (m_kc : Nat) (m_kf : Nat) (m_kr : Nat) (MB : Int → Int) (MC : Int → Int) (bq : Int) (rm : Int) (wt : Int) (hM : mbOK fn MB MC) (hbq : 0 ≤ bq ∧ bq < fn) (hq : 1 ≤ rm ∧ rm ≤ 9 ∧ 1 ≤ MB (7 * bq) - 2 * rm ∧ 1 ≤ MB (7 * bq + 1) - 2 * rm) (hwt : 1 ≤ wt ∧ wt ≤ 99) : Met l yX12_bearsOf wsX12_bearsOf ({ frames := 0, cells := 0, slots := 0, locals := 0 } : Room) (pPc D y [(m0, .inr (11, [.ref m_read, zi rl, zi rp, .ref m_gut, zi gl, zi gp, zi gx, zi gy, .ref m_text, zi tn, zi fn, .ref m_boat, .ref m_coins, zi vw, zi vm, zi vn, .ref m_rest, .ref m_ends, zl vc, .ref m_chan, .ref m_spl, zi fs, zi rn, .ref m_rf, .ref m_rr, .ref m_ik, .ref m_km, .ref m_kb, .ref m_kc, .ref m_kf, .ref m_kr])), (m_boat, .inl (y 0, 42, .inl (cI MB))), (m_coins, .inl (y 0, 144, .inl (cI MC)))] [.ref m0, zi bq, zi rm, zi wt]) (qV (zi (loadV (MB (7 * bq)) (MB (7 * bq + 1)) (MB (7 * bq + 2)) rm wt))) 0 0 (fun _ => False) := by
  refine P_of (own := RX12) (cc := cX12_bearsOf) (maxL := 7) (ret := some .int) (by decide) rfl rfl (Nat.le_of_ble_eq_true rfl) (fun p e s m below meth c ls hx hb hr hC hlocks hPr hG hl => ?_)
  have hC0 := hC
  obtain ⟨-, -, hml, hown, hts⟩ := hC0
  have hK := hG.1
  have hinX12 : ∀ w ∈ wsX120, w ∈ wsX12_bearsOf := fun _ h => List.mem_cons_of_mem _ (List.mem_append_right _ h)
  have k1 := hts (.fieldLink RX12 19 "BoatsOfPaperModel" "boat" "[I") (List.mem_of_getElem? (i := 1) rfl)
  have hl : lv_has ls 7 [(0, .ref m0), (1, zi bq), (2, zi rm), (3, zi wt)] := hl
  have hB := hM.2 bq hbq.1 hbq.2
  obtain ⟨q1, q2, q3, q4, q5, q6, q7, q8, q9, qc⟩ := id hB
  have qf := hM.1
  have b1 := load_bd (bl := (MB (7 * bq))) (bw := (MB (7 * bq + 1))) (bt := (MB (7 * bq + 2))) (rm := rm) (by omega) (by omega) (by omega) hq
  have e1 := load_eq (MB (7 * bq)) (MB (7 * bq + 1)) (MB (7 * bq + 2)) rm
  refine lv_aload_n hx hb dX12_bearsOf_0 rfl (lv_at hl 0 rfl) ?_
  refine va_get hx hb hts hinX12 hown hK hPr 0 rfl rfl 11 (by decide) k1 (fun _ h => h) rfl dX12_bearsOf_1 ?_
  refine z_bipush hx hb dX12_bearsOf_4 (by decide) ?_
  refine lv_iload_n hx hb dX12_bearsOf_6 rfl (lv_at hl 1 rfl) ?_
  refine z_imul hx hb dX12_bearsOf_7 ?_
  refine z_iald hx hb hK hPr 1 0 rfl rfl (by omega) (by decide) dX12_bearsOf_8 ?_
  refine lv_istore (lv' := [(4, zi (MB (7 * bq))), (0, .ref m0), (1, zi bq), (2, zi rm), (3, zi wt)]) hx hb dX12_bearsOf_9 hl (by decide) rfl (fun ls hl => ?_)
  refine lv_aload_n hx hb dX12_bearsOf_11 rfl (lv_at hl 1 rfl) ?_
  refine va_get hx hb hts hinX12 hown hK hPr 0 rfl rfl 11 (by decide) k1 (fun _ h => h) rfl dX12_bearsOf_12 ?_
  refine z_bipush hx hb dX12_bearsOf_15 (by decide) ?_
  refine lv_iload_n hx hb dX12_bearsOf_17 rfl (lv_at hl 2 rfl) ?_
  refine z_imul hx hb dX12_bearsOf_18 ?_
  refine z_iconst hx hb dX12_bearsOf_19 ?_
  refine z_iadd hx hb dX12_bearsOf_20 ?_
  refine z_iald hx hb hK hPr 1 0 rfl rfl (by omega) (by decide) dX12_bearsOf_21 ?_
  refine lv_istore (lv' := [(5, zi (MB ((7 * bq) + 1))), (4, zi (MB (7 * bq))), (0, .ref m0), (1, zi bq), (2, zi rm), (3, zi wt)]) hx hb dX12_bearsOf_22 hl (by decide) rfl (fun ls hl => ?_)
  refine z_bipush hx hb dX12_bearsOf_24 (by decide) ?_
  refine lv_iload_n hx hb dX12_bearsOf_26 rfl (lv_at hl 4 rfl) ?_
  refine z_imul hx hb dX12_bearsOf_27 ?_
  refine lv_iload hx hb dX12_bearsOf_28 (lv_at hl 1 rfl) ?_
  refine z_iconst hx hb dX12_bearsOf_30 ?_
  refine lv_iload_n hx hb dX12_bearsOf_31 rfl (lv_at hl 4 rfl) ?_
  refine z_imul hx hb dX12_bearsOf_32 ?_
  refine z_isub hx hb dX12_bearsOf_33 ?_
  refine z_imul hx hb dX12_bearsOf_34 ?_
  refine lv_iload hx hb dX12_bearsOf_35 (lv_at hl 0 rfl) ?_
  refine z_iconst hx hb dX12_bearsOf_37 ?_
  refine lv_iload_n hx hb dX12_bearsOf_38 rfl (lv_at hl 4 rfl) ?_
  refine z_imul hx hb dX12_bearsOf_39 ?_
  refine z_isub hx hb dX12_bearsOf_40 ?_
  refine z_imul hx hb dX12_bearsOf_41 ?_
  refine lv_iload hx hb dX12_bearsOf_42 (lv_at hl 1 rfl) ?_
  refine lv_iload hx hb dX12_bearsOf_44 (lv_at hl 0 rfl) ?_
  refine z_imul hx hb dX12_bearsOf_46 ?_
  refine lv_aload_n hx hb dX12_bearsOf_47 rfl (lv_at hl 2 rfl) ?_
  refine va_get hx hb hts hinX12 hown hK hPr 0 rfl rfl 11 (by decide) k1 (fun _ h => h) rfl dX12_bearsOf_48 ?_
  refine z_bipush hx hb dX12_bearsOf_51 (by decide) ?_
  refine lv_iload_n hx hb dX12_bearsOf_53 rfl (lv_at hl 3 rfl) ?_
  refine z_imul hx hb dX12_bearsOf_54 ?_
  refine z_iconst hx hb dX12_bearsOf_55 ?_
  refine z_iadd hx hb dX12_bearsOf_56 ?_
  refine z_iald hx hb hK hPr 1 0 rfl rfl (by omega) (by decide) dX12_bearsOf_57 ?_
  refine z_imul hx hb dX12_bearsOf_58 ?_
  refine z_isub hx hb dX12_bearsOf_59 ?_
  refine lv_istore (lv' := [(6, zi ((((100 * rm) * ((MB (7 * bq)) - (2 * rm))) * ((MB ((7 * bq) + 1)) - (2 * rm))) - (((MB (7 * bq)) * (MB ((7 * bq) + 1))) * (MB ((7 * bq) + 2))))), (5, zi (MB ((7 * bq) + 1))), (4, zi (MB (7 * bq))), (0, .ref m0), (1, zi bq), (2, zi rm), (3, zi wt)]) hx hb dX12_bearsOf_60 hl (by decide) rfl (fun ls hl => ?_)
  refine lv_iload hx hb dX12_bearsOf_62 (lv_at hl 0 rfl) ?_
  refine z_if_ge (tgt := 71) hx hb (by omega) dX12_bearsOf_64 (by decide) (fun c_64 => ?_) (fun c_64 => ?_)
  ·
    refine lv_iload hx hb dX12_bearsOf_71 (lv_at hl 0 rfl) ?_
    refine lv_iload_n hx hb dX12_bearsOf_73 rfl (lv_at hl 6 rfl) ?_
    refine z_idiv hx hb (by omega) dX12_bearsOf_74 ?_
    exact z_iret0 hx hb hr hlocks (by unfold loadV; rw [← e1]; first | rw [if_pos (by omega)] | rw [if_neg (by omega)]) dX12_bearsOf_75
  ·
    refine z_iconst hx hb dX12_bearsOf_67 ?_
    refine lv_goto (tgt := 75) hx hb dX12_bearsOf_68 (by decide) ?_
    exact z_iret0 hx hb hr hlocks (by unfold loadV; rw [← e1]; first | rw [if_pos (by omega)] | rw [if_neg (by omega)]) dX12_bearsOf_75
set_option maxHeartbeats 8000000 in
set_option maxRecDepth 100000 in
theorem c_X12_bears_no (l : Launch) (D : va_G) (y : Nat → ClassId) (m0 : Nat) (m_read : Nat) (rl : Int) (rp : Int) (m_gut : Nat) (gl : Int) (gp : Int) (gx : Int) (gy : Int) (m_text : Nat) (tn : Int) (fn : Int) (m_boat : Nat) (m_coins : Nat) (vw : Int) (vm : Int) (vn : Int) (m_rest : Nat) (m_ends : Nat) (vc : Int) (m_chan : Nat) (m_spl : Nat) (fs : Int) (rn : Int) (m_rf : Nat) (m_rr : Nat) (m_ik : Nat) (m_km : Nat) (m_kb : Nat) (m_kc : Nat) (m_kf : Nat) (m_kr : Nat) (bq : Int) (rm : Int) (wt : Int) (hbq : rI bq ∧ 0 ≤ fn ∧ fn ≤ 6 ∧ ¬ (0 ≤ bq ∧ bq < fn)) : Met l yX12_bears wsX12_bears ({ frames := 2, cells := 0, slots := 0, locals := 46 } : Room) (pPc D y [(m0, .inr (11, [.ref m_read, zi rl, zi rp, .ref m_gut, zi gl, zi gp, zi gx, zi gy, .ref m_text, zi tn, zi fn, .ref m_boat, .ref m_coins, zi vw, zi vm, zi vn, .ref m_rest, .ref m_ends, zl vc, .ref m_chan, .ref m_spl, zi fs, zi rn, .ref m_rf, .ref m_rr, .ref m_ik, .ref m_km, .ref m_kb, .ref m_kc, .ref m_kf, .ref m_kr]))] [.ref m0, zi bq, zi rm, zi wt]) (qV (zi (-1))) 0 0 (fun _ => False) := by
  refine P_of (own := RX12) (cc := cX12_bears) (maxL := 4) (ret := some .int) (by decide) rfl rfl (Nat.le_of_ble_eq_true rfl) (fun p e s m below meth c ls hx hb hr hC hlocks hPr hG hl => ?_)
  have hC0 := hC
  obtain ⟨-, -, hml, hown, hts⟩ := hC0
  have hK := hG.1
  have hl : lv_has ls 4 [(0, .ref m0), (1, zi bq), (2, zi rm), (3, zi wt)] := hl
  refine lv_aload_n hx hb dX12_bears_0 rfl (lv_at hl 0 rfl) ?_
  refine lv_iload_n hx hb dX12_bears_1 rfl (lv_at hl 1 rfl) ?_
  refine z_pV (As := [zi bq]) (rest := []) hC (c_X12_isBoat l D y m0 m_read rl rp m_gut gl gp gx gy m_text tn fn m_boat m_coins vw vm vn m_rest m_ends vc m_chan m_spl fs rn m_rf m_rr m_ik m_km m_kb m_kc m_kf m_kr bq (by first | assumption | omega) (by first | assumption | omega)) (cwV 1 hts gX12_bears_X12_isBoat rfl rfl rfl (by decide +kernel) ⟨Nat.le_of_ble_eq_true rfl, Nat.le_of_ble_eq_true rfl⟩) hG (hPr.sub (ws' := [(m0, .inr (11, [.ref m_read, zi rl, zi rp, .ref m_gut, zi gl, zi gp, zi gx, zi gy, .ref m_text, zi tn, zi fn, .ref m_boat, .ref m_coins, zi vw, zi vm, zi vn, .ref m_rest, .ref m_ends, zl vc, .ref m_chan, .ref m_spl, zi fs, zi rn, .ref m_rf, .ref m_rr, .ref m_ik, .ref m_km, .ref m_kb, .ref m_kc, .ref m_kf, .ref m_kr]))]) [0] rfl) 0 rfl rfl rfl hl.1 rfl (Nat.le_of_ble_eq_true rfl) dX12_bears_2 ⟨Nat.le_of_ble_eq_true rfl, Nat.le_of_ble_eq_true rfl⟩ ?_
  refine z_ifB_ne (tgt := 10) hx hb dX12_bears_5 (by decide) (fun c_5 => ?_) (fun c_5 => ?_)
  · exfalso; omega
  ·
    refine z_iconst hx hb dX12_bears_8 ?_
    exact z_iret0 hx hb hr hlocks (rfl) dX12_bears_9
set_option maxHeartbeats 8000000 in
set_option maxRecDepth 100000 in
theorem c_X12_bears_out (l : Launch) (D : va_G) (y : Nat → ClassId) (m0 : Nat) (m_read : Nat) (rl : Int) (rp : Int) (m_gut : Nat) (gl : Int) (gp : Int) (gx : Int) (gy : Int) (m_text : Nat) (tn : Int) (fn : Int) (m_boat : Nat) (m_coins : Nat) (vw : Int) (vm : Int) (vn : Int) (m_rest : Nat) (m_ends : Nat) (vc : Int) (m_chan : Nat) (m_spl : Nat) (fs : Int) (rn : Int) (m_rf : Nat) (m_rr : Nat) (m_ik : Nat) (m_km : Nat) (m_kb : Nat) (m_kc : Nat) (m_kf : Nat) (m_kr : Nat) (MB : Int → Int) (MC : Int → Int) (bq : Int) (rm : Int) (wt : Int) (hM : mbOK fn MB MC) (hbq : 0 ≤ bq ∧ bq < fn) (hr9 : rI rm ∧ rI wt) (hq : ¬ ((1 ≤ rm ∧ rm ≤ 9 ∧ 1 ≤ MB (7 * bq) - 2 * rm ∧ 1 ≤ MB (7 * bq + 1) - 2 * rm) ∧ 1 ≤ wt ∧ wt ≤ 99)) : Met l yX12_bears wsX12_bears ({ frames := 2, cells := 0, slots := 0, locals := 47 } : Room) (pPc D y [(m0, .inr (11, [.ref m_read, zi rl, zi rp, .ref m_gut, zi gl, zi gp, zi gx, zi gy, .ref m_text, zi tn, zi fn, .ref m_boat, .ref m_coins, zi vw, zi vm, zi vn, .ref m_rest, .ref m_ends, zl vc, .ref m_chan, .ref m_spl, zi fs, zi rn, .ref m_rf, .ref m_rr, .ref m_ik, .ref m_km, .ref m_kb, .ref m_kc, .ref m_kf, .ref m_kr])), (m_boat, .inl (y 0, 42, .inl (cI MB))), (m_coins, .inl (y 0, 144, .inl (cI MC)))] [.ref m0, zi bq, zi rm, zi wt]) (qV (zi (-2))) 0 0 (fun _ => False) := by
  refine P_of (own := RX12) (cc := cX12_bears) (maxL := 4) (ret := some .int) (by decide) rfl rfl (Nat.le_of_ble_eq_true rfl) (fun p e s m below meth c ls hx hb hr hC hlocks hPr hG hl => ?_)
  have hC0 := hC
  obtain ⟨-, -, hml, hown, hts⟩ := hC0
  have hK := hG.1
  have hinX12 : ∀ w ∈ wsX120, w ∈ wsX12_bears := fun _ h => List.mem_cons_of_mem _ (List.mem_append_right _ h)
  have k1 := hts (.fieldLink RX12 19 "BoatsOfPaperModel" "boat" "[I") (List.mem_of_getElem? (i := 1) rfl)
  have k2 := hts (.constantLong RX12 128 (99)) (List.mem_of_getElem? (i := 2) rfl)
  have hl : lv_has ls 4 [(0, .ref m0), (1, zi bq), (2, zi rm), (3, zi wt)] := hl
  have hB := hM.2 bq hbq.1 hbq.2
  obtain ⟨q1, q2, q3, q4, q5, q6, q7, q8, q9, qc⟩ := id hB
  have qf := hM.1
  refine lv_aload_n hx hb dX12_bears_0 rfl (lv_at hl 0 rfl) ?_
  refine lv_iload_n hx hb dX12_bears_1 rfl (lv_at hl 1 rfl) ?_
  refine z_pV (As := [zi bq]) (rest := []) hC (c_X12_isBoat l D y m0 m_read rl rp m_gut gl gp gx gy m_text tn fn m_boat m_coins vw vm vn m_rest m_ends vc m_chan m_spl fs rn m_rf m_rr m_ik m_km m_kb m_kc m_kf m_kr bq (by first | assumption | omega) (by first | assumption | omega)) (cwV 1 hts gX12_bears_X12_isBoat rfl rfl rfl (by decide +kernel) ⟨Nat.le_of_ble_eq_true rfl, Nat.le_of_ble_eq_true rfl⟩) hG (hPr.sub (ws' := [(m0, .inr (11, [.ref m_read, zi rl, zi rp, .ref m_gut, zi gl, zi gp, zi gx, zi gy, .ref m_text, zi tn, zi fn, .ref m_boat, .ref m_coins, zi vw, zi vm, zi vn, .ref m_rest, .ref m_ends, zl vc, .ref m_chan, .ref m_spl, zi fs, zi rn, .ref m_rf, .ref m_rr, .ref m_ik, .ref m_km, .ref m_kb, .ref m_kc, .ref m_kf, .ref m_kr]))]) [0] rfl) 0 rfl rfl rfl hl.1 rfl (Nat.le_of_ble_eq_true rfl) dX12_bears_2 ⟨Nat.le_of_ble_eq_true rfl, Nat.le_of_ble_eq_true rfl⟩ ?_
  refine z_ifB_ne (tgt := 10) hx hb dX12_bears_5 (by decide) (fun c_5 => ?_) (fun c_5 => ?_)
  ·
    refine lv_aload_n hx hb dX12_bears_10 rfl (lv_at hl 0 rfl) ?_
    refine va_get hx hb hts hinX12 hown hK hPr 0 rfl rfl 11 (by decide) k1 (fun _ h => h) rfl dX12_bears_11 ?_
    refine z_bipush hx hb dX12_bears_14 (by decide) ?_
    refine lv_iload_n hx hb dX12_bears_16 rfl (lv_at hl 1 rfl) ?_
    refine z_imul hx hb dX12_bears_17 ?_
    refine z_iald hx hb hK hPr 1 0 rfl rfl (by omega) (by decide) dX12_bears_18 ?_
    refine lv_aload_n hx hb dX12_bears_19 rfl (lv_at hl 0 rfl) ?_
    refine va_get hx hb hts hinX12 hown hK hPr 0 rfl rfl 11 (by decide) k1 (fun _ h => h) rfl dX12_bears_20 ?_
    refine z_bipush hx hb dX12_bears_23 (by decide) ?_
    refine lv_iload_n hx hb dX12_bears_25 rfl (lv_at hl 1 rfl) ?_
    refine z_imul hx hb dX12_bears_26 ?_
    refine z_iconst hx hb dX12_bears_27 ?_
    refine z_iadd hx hb dX12_bears_28 ?_
    refine z_iald hx hb hK hPr 1 0 rfl rfl (by omega) (by decide) dX12_bears_29 ?_
    refine lv_iload_n hx hb dX12_bears_30 rfl (lv_at hl 2 rfl) ?_
    refine z_pS (As := [zi (MB (7 * bq)), zi (MB ((7 * bq) + 1)), zi rm]) (rest := []) hC (c_X12_folds l D y (MB (7 * bq)) (MB ((7 * bq) + 1)) rm (by first | assumption | omega)) (va_cwS 3 hts gX12_bears_X12_folds rfl rfl rfl (by decide +kernel) ⟨Nat.le_of_ble_eq_true rfl, Nat.le_of_ble_eq_true rfl⟩) hG va_P_nil rfl hl.1 rfl (Nat.le_of_ble_eq_true rfl) dX12_bears_31 ⟨Nat.le_of_ble_eq_true rfl, Nat.le_of_ble_eq_true rfl⟩ ?_
    refine z_ifB_eq (tgt := 59) hx hb dX12_bears_34 (by decide) (fun c_34 => ?_) (fun c_34 => ?_)
    ·
      refine z_bipush hx hb dX12_bears_59 (by decide) ?_
      exact z_iret0 hx hb hr hlocks (rfl) dX12_bears_61
    ·
      refine lv_iload_n hx hb dX12_bears_37 rfl (lv_at hl 3 rfl) ?_
      refine z_i2l hx hb (by omega) dX12_bears_38 ?_
      refine lv_lconst (v := iL 1) hx hb dX12_bears_39 rfl ?_
      refine lv_ldc2 (v := iL 99) hx hb hown k2 dX12_bears_40 ?_
      refine z_pS (As := [zl wt, zl 1, zl 99]) (rest := []) hC (c_X12_in l D y wt 1 99 (by first | assumption | omega)) (va_cwS 3 hts gX12_bears_X12_in rfl rfl rfl (by decide +kernel) ⟨Nat.le_of_ble_eq_true rfl, Nat.le_of_ble_eq_true rfl⟩) hG va_P_nil rfl hl.1 rfl (Nat.le_of_ble_eq_true rfl) dX12_bears_43 ⟨Nat.le_of_ble_eq_true rfl, Nat.le_of_ble_eq_true rfl⟩ ?_
      refine z_ifB_eq (tgt := 59) hx hb dX12_bears_46 (by decide) (fun c_46 => ?_) (fun c_46 => ?_)
      ·
        refine z_bipush hx hb dX12_bears_59 (by decide) ?_
        exact z_iret0 hx hb hr hlocks (rfl) dX12_bears_61
      · exfalso; omega
  · exfalso; omega
set_option maxHeartbeats 8000000 in
set_option maxRecDepth 100000 in
theorem c_X12_bears (l : Launch) (D : va_G) (y : Nat → ClassId) (m0 : Nat) (m_read : Nat) (rl : Int) (rp : Int) (m_gut : Nat) (gl : Int) (gp : Int) (gx : Int) (gy : Int) (m_text : Nat) (tn : Int) (fn : Int) (m_boat : Nat) (m_coins : Nat) (vw : Int) (vm : Int) (vn : Int) (m_rest : Nat) (m_ends : Nat) (vc : Int) (m_chan : Nat) (m_spl : Nat) (fs : Int) (rn : Int) (m_rf : Nat) (m_rr : Nat) (m_ik : Nat) (m_km : Nat) (m_kb : Nat) (m_kc : Nat) (m_kf : Nat) (m_kr : Nat) (MB : Int → Int) (MC : Int → Int) (bq : Int) (rm : Int) (wt : Int) (hM : mbOK fn MB MC) (hbq : 0 ≤ bq ∧ bq < fn) (hq : 1 ≤ rm ∧ rm ≤ 9 ∧ 1 ≤ MB (7 * bq) - 2 * rm ∧ 1 ≤ MB (7 * bq + 1) - 2 * rm) (hwt : 1 ≤ wt ∧ wt ≤ 99) : Met l yX12_bears wsX12_bears ({ frames := 2, cells := 0, slots := 0, locals := 47 } : Room) (pPc D y [(m0, .inr (11, [.ref m_read, zi rl, zi rp, .ref m_gut, zi gl, zi gp, zi gx, zi gy, .ref m_text, zi tn, zi fn, .ref m_boat, .ref m_coins, zi vw, zi vm, zi vn, .ref m_rest, .ref m_ends, zl vc, .ref m_chan, .ref m_spl, zi fs, zi rn, .ref m_rf, .ref m_rr, .ref m_ik, .ref m_km, .ref m_kb, .ref m_kc, .ref m_kf, .ref m_kr])), (m_boat, .inl (y 0, 42, .inl (cI MB))), (m_coins, .inl (y 0, 144, .inl (cI MC)))] [.ref m0, zi bq, zi rm, zi wt]) (qV (zi (loadV (MB (7 * bq)) (MB (7 * bq + 1)) (MB (7 * bq + 2)) rm wt))) 0 0 (fun _ => False) := by
  refine P_of (own := RX12) (cc := cX12_bears) (maxL := 4) (ret := some .int) (by decide) rfl rfl (Nat.le_of_ble_eq_true rfl) (fun p e s m below meth c ls hx hb hr hC hlocks hPr hG hl => ?_)
  have hC0 := hC
  obtain ⟨-, -, hml, hown, hts⟩ := hC0
  have hK := hG.1
  have hinX12 : ∀ w ∈ wsX120, w ∈ wsX12_bears := fun _ h => List.mem_cons_of_mem _ (List.mem_append_right _ h)
  have k1 := hts (.fieldLink RX12 19 "BoatsOfPaperModel" "boat" "[I") (List.mem_of_getElem? (i := 1) rfl)
  have k2 := hts (.constantLong RX12 128 (99)) (List.mem_of_getElem? (i := 2) rfl)
  have hl : lv_has ls 4 [(0, .ref m0), (1, zi bq), (2, zi rm), (3, zi wt)] := hl
  have hB := hM.2 bq hbq.1 hbq.2
  obtain ⟨q1, q2, q3, q4, q5, q6, q7, q8, q9, qc⟩ := id hB
  have qf := hM.1
  refine lv_aload_n hx hb dX12_bears_0 rfl (lv_at hl 0 rfl) ?_
  refine lv_iload_n hx hb dX12_bears_1 rfl (lv_at hl 1 rfl) ?_
  refine z_pV (As := [zi bq]) (rest := []) hC (c_X12_isBoat l D y m0 m_read rl rp m_gut gl gp gx gy m_text tn fn m_boat m_coins vw vm vn m_rest m_ends vc m_chan m_spl fs rn m_rf m_rr m_ik m_km m_kb m_kc m_kf m_kr bq (by first | assumption | omega) (by first | assumption | omega)) (cwV 1 hts gX12_bears_X12_isBoat rfl rfl rfl (by decide +kernel) ⟨Nat.le_of_ble_eq_true rfl, Nat.le_of_ble_eq_true rfl⟩) hG (hPr.sub (ws' := [(m0, .inr (11, [.ref m_read, zi rl, zi rp, .ref m_gut, zi gl, zi gp, zi gx, zi gy, .ref m_text, zi tn, zi fn, .ref m_boat, .ref m_coins, zi vw, zi vm, zi vn, .ref m_rest, .ref m_ends, zl vc, .ref m_chan, .ref m_spl, zi fs, zi rn, .ref m_rf, .ref m_rr, .ref m_ik, .ref m_km, .ref m_kb, .ref m_kc, .ref m_kf, .ref m_kr]))]) [0] rfl) 0 rfl rfl rfl hl.1 rfl (Nat.le_of_ble_eq_true rfl) dX12_bears_2 ⟨Nat.le_of_ble_eq_true rfl, Nat.le_of_ble_eq_true rfl⟩ ?_
  refine z_ifB_ne (tgt := 10) hx hb dX12_bears_5 (by decide) (fun c_5 => ?_) (fun c_5 => ?_)
  ·
    refine lv_aload_n hx hb dX12_bears_10 rfl (lv_at hl 0 rfl) ?_
    refine va_get hx hb hts hinX12 hown hK hPr 0 rfl rfl 11 (by decide) k1 (fun _ h => h) rfl dX12_bears_11 ?_
    refine z_bipush hx hb dX12_bears_14 (by decide) ?_
    refine lv_iload_n hx hb dX12_bears_16 rfl (lv_at hl 1 rfl) ?_
    refine z_imul hx hb dX12_bears_17 ?_
    refine z_iald hx hb hK hPr 1 0 rfl rfl (by omega) (by decide) dX12_bears_18 ?_
    refine lv_aload_n hx hb dX12_bears_19 rfl (lv_at hl 0 rfl) ?_
    refine va_get hx hb hts hinX12 hown hK hPr 0 rfl rfl 11 (by decide) k1 (fun _ h => h) rfl dX12_bears_20 ?_
    refine z_bipush hx hb dX12_bears_23 (by decide) ?_
    refine lv_iload_n hx hb dX12_bears_25 rfl (lv_at hl 1 rfl) ?_
    refine z_imul hx hb dX12_bears_26 ?_
    refine z_iconst hx hb dX12_bears_27 ?_
    refine z_iadd hx hb dX12_bears_28 ?_
    refine z_iald hx hb hK hPr 1 0 rfl rfl (by omega) (by decide) dX12_bears_29 ?_
    refine lv_iload_n hx hb dX12_bears_30 rfl (lv_at hl 2 rfl) ?_
    refine z_pS (As := [zi (MB (7 * bq)), zi (MB ((7 * bq) + 1)), zi rm]) (rest := []) hC (c_X12_folds l D y (MB (7 * bq)) (MB ((7 * bq) + 1)) rm (by first | assumption | omega)) (va_cwS 3 hts gX12_bears_X12_folds rfl rfl rfl (by decide +kernel) ⟨Nat.le_of_ble_eq_true rfl, Nat.le_of_ble_eq_true rfl⟩) hG va_P_nil rfl hl.1 rfl (Nat.le_of_ble_eq_true rfl) dX12_bears_31 ⟨Nat.le_of_ble_eq_true rfl, Nat.le_of_ble_eq_true rfl⟩ ?_
    refine z_ifB_eq (tgt := 59) hx hb dX12_bears_34 (by decide) (fun c_34 => ?_) (fun c_34 => ?_)
    · exfalso; omega
    ·
      refine lv_iload_n hx hb dX12_bears_37 rfl (lv_at hl 3 rfl) ?_
      refine z_i2l hx hb (by omega) dX12_bears_38 ?_
      refine lv_lconst (v := iL 1) hx hb dX12_bears_39 rfl ?_
      refine lv_ldc2 (v := iL 99) hx hb hown k2 dX12_bears_40 ?_
      refine z_pS (As := [zl wt, zl 1, zl 99]) (rest := []) hC (c_X12_in l D y wt 1 99 (by first | assumption | omega)) (va_cwS 3 hts gX12_bears_X12_in rfl rfl rfl (by decide +kernel) ⟨Nat.le_of_ble_eq_true rfl, Nat.le_of_ble_eq_true rfl⟩) hG va_P_nil rfl hl.1 rfl (Nat.le_of_ble_eq_true rfl) dX12_bears_43 ⟨Nat.le_of_ble_eq_true rfl, Nat.le_of_ble_eq_true rfl⟩ ?_
      refine z_ifB_eq (tgt := 59) hx hb dX12_bears_46 (by decide) (fun c_46 => ?_) (fun c_46 => ?_)
      · exfalso; omega
      ·
        refine lv_aload_n hx hb dX12_bears_49 rfl (lv_at hl 0 rfl) ?_
        refine lv_iload_n hx hb dX12_bears_50 rfl (lv_at hl 1 rfl) ?_
        refine lv_iload_n hx hb dX12_bears_51 rfl (lv_at hl 2 rfl) ?_
        refine lv_iload_n hx hb dX12_bears_52 rfl (lv_at hl 3 rfl) ?_
        refine z_pV (As := [zi bq, zi rm, zi wt]) (rest := []) hC (c_X12_bearsOf l D y m0 m_read rl rp m_gut gl gp gx gy m_text tn fn m_boat m_coins vw vm vn m_rest m_ends vc m_chan m_spl fs rn m_rf m_rr m_ik m_km m_kb m_kc m_kf m_kr MB MC bq rm wt (by first | assumption | omega) (by first | assumption | omega) (by first | assumption | omega) (by first | assumption | omega)) (cwV 3 hts gX12_bears_X12_bearsOf rfl rfl rfl (by decide +kernel) ⟨Nat.le_of_ble_eq_true rfl, Nat.le_of_ble_eq_true rfl⟩) hG (hPr.sub (ws' := [(m0, .inr (11, [.ref m_read, zi rl, zi rp, .ref m_gut, zi gl, zi gp, zi gx, zi gy, .ref m_text, zi tn, zi fn, .ref m_boat, .ref m_coins, zi vw, zi vm, zi vn, .ref m_rest, .ref m_ends, zl vc, .ref m_chan, .ref m_spl, zi fs, zi rn, .ref m_rf, .ref m_rr, .ref m_ik, .ref m_km, .ref m_kb, .ref m_kc, .ref m_kf, .ref m_kr])), (m_boat, .inl (y 0, 42, .inl (cI MB))), (m_coins, .inl (y 0, 144, .inl (cI MC)))]) [0, 1, 2] rfl) 0 rfl rfl rfl hl.1 rfl (Nat.le_of_ble_eq_true rfl) dX12_bears_53 ⟨Nat.le_of_ble_eq_true rfl, Nat.le_of_ble_eq_true rfl⟩ ?_
        refine lv_goto (tgt := 61) hx hb dX12_bears_56 (by decide) ?_
        exact z_iret0 hx hb hr hlocks (rfl) dX12_bears_61
  · exfalso; omega
set_option maxHeartbeats 8000000 in
set_option maxRecDepth 100000 in
theorem c_X12_rim_no (l : Launch) (D : va_G) (y : Nat → ClassId) (m0 : Nat) (m_read : Nat) (rl : Int) (rp : Int) (m_gut : Nat) (gl : Int) (gp : Int) (gx : Int) (gy : Int) (m_text : Nat) (tn : Int) (fn : Int) (m_boat : Nat) (m_coins : Nat) (vw : Int) (vm : Int) (vn : Int) (m_rest : Nat) (m_ends : Nat) (vc : Int) (m_chan : Nat) (m_spl : Nat) (fs : Int) (rn : Int) (m_rf : Nat) (m_rr : Nat) (m_ik : Nat) (m_km : Nat) (m_kb : Nat) (m_kc : Nat) (m_kf : Nat) (m_kr : Nat) (bq : Int) (wt : Int) (hbq : rI bq ∧ 0 ≤ fn ∧ fn ≤ 6 ∧ ¬ (0 ≤ bq ∧ bq < fn)) : Met l yX12_rim wsX12_rim ({ frames := 2, cells := 0, slots := 0, locals := 46 } : Room) (pPc D y [(m0, .inr (11, [.ref m_read, zi rl, zi rp, .ref m_gut, zi gl, zi gp, zi gx, zi gy, .ref m_text, zi tn, zi fn, .ref m_boat, .ref m_coins, zi vw, zi vm, zi vn, .ref m_rest, .ref m_ends, zl vc, .ref m_chan, .ref m_spl, zi fs, zi rn, .ref m_rf, .ref m_rr, .ref m_ik, .ref m_km, .ref m_kb, .ref m_kc, .ref m_kf, .ref m_kr]))] [.ref m0, zi bq, zi wt]) (qV (zi (-1))) 0 0 (fun _ => False) := by
  refine P_of (own := RX12) (cc := cX12_rim) (maxL := 5) (ret := some .int) (by decide) rfl rfl (Nat.le_of_ble_eq_true rfl) (fun p e s m below meth c ls hx hb hr hC hlocks hPr hG hl => ?_)
  have hC0 := hC
  obtain ⟨-, -, hml, hown, hts⟩ := hC0
  have hK := hG.1
  have hl : lv_has ls 5 [(0, .ref m0), (1, zi bq), (2, zi wt)] := hl
  refine lv_aload_n hx hb dX12_rim_0 rfl (lv_at hl 0 rfl) ?_
  refine lv_iload_n hx hb dX12_rim_1 rfl (lv_at hl 1 rfl) ?_
  refine z_pV (As := [zi bq]) (rest := []) hC (c_X12_isBoat l D y m0 m_read rl rp m_gut gl gp gx gy m_text tn fn m_boat m_coins vw vm vn m_rest m_ends vc m_chan m_spl fs rn m_rf m_rr m_ik m_km m_kb m_kc m_kf m_kr bq (by first | assumption | omega) (by first | assumption | omega)) (cwV 1 hts gX12_rim_X12_isBoat rfl rfl rfl (by decide +kernel) ⟨Nat.le_of_ble_eq_true rfl, Nat.le_of_ble_eq_true rfl⟩) hG (hPr.sub (ws' := [(m0, .inr (11, [.ref m_read, zi rl, zi rp, .ref m_gut, zi gl, zi gp, zi gx, zi gy, .ref m_text, zi tn, zi fn, .ref m_boat, .ref m_coins, zi vw, zi vm, zi vn, .ref m_rest, .ref m_ends, zl vc, .ref m_chan, .ref m_spl, zi fs, zi rn, .ref m_rf, .ref m_rr, .ref m_ik, .ref m_km, .ref m_kb, .ref m_kc, .ref m_kf, .ref m_kr]))]) [0] rfl) 0 rfl rfl rfl hl.1 rfl (Nat.le_of_ble_eq_true rfl) dX12_rim_2 ⟨Nat.le_of_ble_eq_true rfl, Nat.le_of_ble_eq_true rfl⟩ ?_
  refine z_ifB_ne (tgt := 10) hx hb dX12_rim_5 (by decide) (fun c_5 => ?_) (fun c_5 => ?_)
  · exfalso; omega
  ·
    refine z_iconst hx hb dX12_rim_8 ?_
    exact z_iret0 hx hb hr hlocks (rfl) dX12_rim_9
set_option maxHeartbeats 8000000 in
set_option maxRecDepth 100000 in
theorem c_X12_rim_out (l : Launch) (D : va_G) (y : Nat → ClassId) (m0 : Nat) (m_read : Nat) (rl : Int) (rp : Int) (m_gut : Nat) (gl : Int) (gp : Int) (gx : Int) (gy : Int) (m_text : Nat) (tn : Int) (fn : Int) (m_boat : Nat) (m_coins : Nat) (vw : Int) (vm : Int) (vn : Int) (m_rest : Nat) (m_ends : Nat) (vc : Int) (m_chan : Nat) (m_spl : Nat) (fs : Int) (rn : Int) (m_rf : Nat) (m_rr : Nat) (m_ik : Nat) (m_km : Nat) (m_kb : Nat) (m_kc : Nat) (m_kf : Nat) (m_kr : Nat) (MB : Int → Int) (MC : Int → Int) (bq : Int) (wt : Int) (hM : mbOK fn MB MC) (hbq : 0 ≤ bq ∧ bq < fn) (hr9 : rI wt) (hq : ¬ (1 ≤ wt ∧ wt ≤ 99)) : Met l yX12_rim wsX12_rim ({ frames := 2, cells := 0, slots := 0, locals := 46 } : Room) (pPc D y [(m0, .inr (11, [.ref m_read, zi rl, zi rp, .ref m_gut, zi gl, zi gp, zi gx, zi gy, .ref m_text, zi tn, zi fn, .ref m_boat, .ref m_coins, zi vw, zi vm, zi vn, .ref m_rest, .ref m_ends, zl vc, .ref m_chan, .ref m_spl, zi fs, zi rn, .ref m_rf, .ref m_rr, .ref m_ik, .ref m_km, .ref m_kb, .ref m_kc, .ref m_kf, .ref m_kr])), (m_boat, .inl (y 0, 42, .inl (cI MB))), (m_coins, .inl (y 0, 144, .inl (cI MC)))] [.ref m0, zi bq, zi wt]) (qV (zi (-2))) 0 0 (fun _ => False) := by
  refine P_of (own := RX12) (cc := cX12_rim) (maxL := 5) (ret := some .int) (by decide) rfl rfl (Nat.le_of_ble_eq_true rfl) (fun p e s m below meth c ls hx hb hr hC hlocks hPr hG hl => ?_)
  have hC0 := hC
  obtain ⟨-, -, hml, hown, hts⟩ := hC0
  have hK := hG.1
  have k1 := hts (.constantLong RX12 128 (99)) (List.mem_of_getElem? (i := 1) rfl)
  have hl : lv_has ls 5 [(0, .ref m0), (1, zi bq), (2, zi wt)] := hl
  have hB := hM.2 bq hbq.1 hbq.2
  obtain ⟨q1, q2, q3, q4, q5, q6, q7, q8, q9, qc⟩ := id hB
  have qf := hM.1
  refine lv_aload_n hx hb dX12_rim_0 rfl (lv_at hl 0 rfl) ?_
  refine lv_iload_n hx hb dX12_rim_1 rfl (lv_at hl 1 rfl) ?_
  refine z_pV (As := [zi bq]) (rest := []) hC (c_X12_isBoat l D y m0 m_read rl rp m_gut gl gp gx gy m_text tn fn m_boat m_coins vw vm vn m_rest m_ends vc m_chan m_spl fs rn m_rf m_rr m_ik m_km m_kb m_kc m_kf m_kr bq (by first | assumption | omega) (by first | assumption | omega)) (cwV 1 hts gX12_rim_X12_isBoat rfl rfl rfl (by decide +kernel) ⟨Nat.le_of_ble_eq_true rfl, Nat.le_of_ble_eq_true rfl⟩) hG (hPr.sub (ws' := [(m0, .inr (11, [.ref m_read, zi rl, zi rp, .ref m_gut, zi gl, zi gp, zi gx, zi gy, .ref m_text, zi tn, zi fn, .ref m_boat, .ref m_coins, zi vw, zi vm, zi vn, .ref m_rest, .ref m_ends, zl vc, .ref m_chan, .ref m_spl, zi fs, zi rn, .ref m_rf, .ref m_rr, .ref m_ik, .ref m_km, .ref m_kb, .ref m_kc, .ref m_kf, .ref m_kr]))]) [0] rfl) 0 rfl rfl rfl hl.1 rfl (Nat.le_of_ble_eq_true rfl) dX12_rim_2 ⟨Nat.le_of_ble_eq_true rfl, Nat.le_of_ble_eq_true rfl⟩ ?_
  refine z_ifB_ne (tgt := 10) hx hb dX12_rim_5 (by decide) (fun c_5 => ?_) (fun c_5 => ?_)
  ·
    refine lv_iload_n hx hb dX12_rim_10 rfl (lv_at hl 2 rfl) ?_
    refine z_i2l hx hb (by omega) dX12_rim_11 ?_
    refine lv_lconst (v := iL 1) hx hb dX12_rim_12 rfl ?_
    refine lv_ldc2 (v := iL 99) hx hb hown k1 dX12_rim_13 ?_
    refine z_pS (As := [zl wt, zl 1, zl 99]) (rest := []) hC (c_X12_in l D y wt 1 99 (by first | assumption | omega)) (va_cwS 3 hts gX12_rim_X12_in rfl rfl rfl (by decide +kernel) ⟨Nat.le_of_ble_eq_true rfl, Nat.le_of_ble_eq_true rfl⟩) hG va_P_nil rfl hl.1 rfl (Nat.le_of_ble_eq_true rfl) dX12_rim_16 ⟨Nat.le_of_ble_eq_true rfl, Nat.le_of_ble_eq_true rfl⟩ ?_
    refine z_ifB_ne (tgt := 25) hx hb dX12_rim_19 (by decide) (fun c_19 => ?_) (fun c_19 => ?_)
    · exfalso; omega
    ·
      refine z_bipush hx hb dX12_rim_22 (by decide) ?_
      exact z_iret0 hx hb hr hlocks (rfl) dX12_rim_24
  · exfalso; omega
set_option maxHeartbeats 8000000 in
set_option maxRecDepth 100000 in
theorem c_X12_rim (l : Launch) (D : va_G) (y : Nat → ClassId) (m0 : Nat) (m_read : Nat) (rl : Int) (rp : Int) (m_gut : Nat) (gl : Int) (gp : Int) (gx : Int) (gy : Int) (m_text : Nat) (tn : Int) (fn : Int) (m_boat : Nat) (m_coins : Nat) (vw : Int) (vm : Int) (vn : Int) (m_rest : Nat) (m_ends : Nat) (vc : Int) (m_chan : Nat) (m_spl : Nat) (fs : Int) (rn : Int) (m_rf : Nat) (m_rr : Nat) (m_ik : Nat) (m_km : Nat) (m_kb : Nat) (m_kc : Nat) (m_kf : Nat) (m_kr : Nat) (MB : Int → Int) (MC : Int → Int) (bq : Int) (wt : Int) (hM : mbOK fn MB MC) (hbq : 0 ≤ bq ∧ bq < fn) (hwt : 1 ≤ wt ∧ wt ≤ 99) : Met l yX12_rim wsX12_rim ({ frames := 2, cells := 0, slots := 0, locals := 47 } : Room) (pPc D y [(m0, .inr (11, [.ref m_read, zi rl, zi rp, .ref m_gut, zi gl, zi gp, zi gx, zi gy, .ref m_text, zi tn, zi fn, .ref m_boat, .ref m_coins, zi vw, zi vm, zi vn, .ref m_rest, .ref m_ends, zl vc, .ref m_chan, .ref m_spl, zi fs, zi rn, .ref m_rf, .ref m_rr, .ref m_ik, .ref m_km, .ref m_kb, .ref m_kc, .ref m_kf, .ref m_kr])), (m_boat, .inl (y 0, 42, .inl (cI MB))), (m_coins, .inl (y 0, 144, .inl (cI MC)))] [.ref m0, zi bq, zi wt]) (qV (zi (rimV (fun r => loadV (MB (7 * bq)) (MB (7 * bq + 1)) (MB (7 * bq + 2)) r wt) (MB (7 * bq)) (MB (7 * bq + 1))))) 0 0 (fun _ => False) := by
  refine P_of (own := RX12) (cc := cX12_rim) (maxL := 5) (ret := some .int) (by decide) rfl rfl (Nat.le_of_ble_eq_true rfl) (fun p e s m below meth c ls hx hb hr hC hlocks hPr hG hl => ?_)
  have hC0 := hC
  obtain ⟨-, -, hml, hown, hts⟩ := hC0
  have hK := hG.1
  have hinX12 : ∀ w ∈ wsX120, w ∈ wsX12_rim := fun _ h => List.mem_cons_of_mem _ (List.mem_append_right _ h)
  have k1 := hts (.constantLong RX12 128 (99)) (List.mem_of_getElem? (i := 1) rfl)
  have k2 := hts (.fieldLink RX12 19 "BoatsOfPaperModel" "boat" "[I") (List.mem_of_getElem? (i := 2) rfl)
  have hl : lv_has ls 5 [(0, .ref m0), (1, zi bq), (2, zi wt)] := hl
  have hB := hM.2 bq hbq.1 hbq.2
  obtain ⟨q1, q2, q3, q4, q5, q6, q7, q8, q9, qc⟩ := id hB
  have qf := hM.1
  refine lv_aload_n hx hb dX12_rim_0 rfl (lv_at hl 0 rfl) ?_
  refine lv_iload_n hx hb dX12_rim_1 rfl (lv_at hl 1 rfl) ?_
  refine z_pV (As := [zi bq]) (rest := []) hC (c_X12_isBoat l D y m0 m_read rl rp m_gut gl gp gx gy m_text tn fn m_boat m_coins vw vm vn m_rest m_ends vc m_chan m_spl fs rn m_rf m_rr m_ik m_km m_kb m_kc m_kf m_kr bq (by first | assumption | omega) (by first | assumption | omega)) (cwV 1 hts gX12_rim_X12_isBoat rfl rfl rfl (by decide +kernel) ⟨Nat.le_of_ble_eq_true rfl, Nat.le_of_ble_eq_true rfl⟩) hG (hPr.sub (ws' := [(m0, .inr (11, [.ref m_read, zi rl, zi rp, .ref m_gut, zi gl, zi gp, zi gx, zi gy, .ref m_text, zi tn, zi fn, .ref m_boat, .ref m_coins, zi vw, zi vm, zi vn, .ref m_rest, .ref m_ends, zl vc, .ref m_chan, .ref m_spl, zi fs, zi rn, .ref m_rf, .ref m_rr, .ref m_ik, .ref m_km, .ref m_kb, .ref m_kc, .ref m_kf, .ref m_kr]))]) [0] rfl) 0 rfl rfl rfl hl.1 rfl (Nat.le_of_ble_eq_true rfl) dX12_rim_2 ⟨Nat.le_of_ble_eq_true rfl, Nat.le_of_ble_eq_true rfl⟩ ?_
  refine z_ifB_ne (tgt := 10) hx hb dX12_rim_5 (by decide) (fun c_5 => ?_) (fun c_5 => ?_)
  ·
    refine lv_iload_n hx hb dX12_rim_10 rfl (lv_at hl 2 rfl) ?_
    refine z_i2l hx hb (by omega) dX12_rim_11 ?_
    refine lv_lconst (v := iL 1) hx hb dX12_rim_12 rfl ?_
    refine lv_ldc2 (v := iL 99) hx hb hown k1 dX12_rim_13 ?_
    refine z_pS (As := [zl wt, zl 1, zl 99]) (rest := []) hC (c_X12_in l D y wt 1 99 (by first | assumption | omega)) (va_cwS 3 hts gX12_rim_X12_in rfl rfl rfl (by decide +kernel) ⟨Nat.le_of_ble_eq_true rfl, Nat.le_of_ble_eq_true rfl⟩) hG va_P_nil rfl hl.1 rfl (Nat.le_of_ble_eq_true rfl) dX12_rim_16 ⟨Nat.le_of_ble_eq_true rfl, Nat.le_of_ble_eq_true rfl⟩ ?_
    refine z_ifB_ne (tgt := 25) hx hb dX12_rim_19 (by decide) (fun c_19 => ?_) (fun c_19 => ?_)
    ·
      refine z_iconst hx hb dX12_rim_25 ?_
      refine lv_istore_n (lv' := [(3, zi 1), (0, .ref m0), (1, zi bq), (2, zi wt)]) hx hb dX12_rim_26 rfl hl (by decide) rfl (fun ls hl => ?_)
      refine z_iconst hx hb dX12_rim_27 ?_
      refine lv_istore (lv' := [(4, zi 2), (3, zi 1), (0, .ref m0), (1, zi bq), (2, zi wt)]) hx hb dX12_rim_28 hl (by decide) rfl (fun ls hl => ?_)
      refine z_loop (σ := Int × Int) (fun x9 H lc ls => match x9 with | (v, k) => ((2 ≤ k ∧ k ≤ (min (MB (7 * bq)) (MB (7 * bq + 1)) - 1) / 2 + 1) ∧ v = rimF (fun r => loadV (MB (7 * bq)) (MB (7 * bq + 1)) (MB (7 * bq + 2)) r wt) (k - 2).toNat) ∧ lv_has ls 5 [(4, zi k), (3, zi v), (0, .ref m0), (1, zi bq), (2, zi wt)] ∧ H = s.heap ∧ lc = []) (fun x9  => match x9 with | (v, k) => ((10 - k).toNat)) ?_ (1, 2) ⟨⟨by omega, rfl⟩, lv_sub hl [0, 1, 2, 3, 4] rfl, rfl, rfl⟩
      rintro ⟨v, k⟩ H lc ls ⟨hi30, hl, rfl, rfl⟩ ih30
      have b1 := rimF_bd (fun r => loadV (MB (7 * bq)) (MB (7 * bq + 1)) (MB (7 * bq + 2)) r wt) (k - 2).toNat
      refine lv_aload_n hx hb dX12_rim_30 rfl (lv_at hl 2 rfl) ?_
      refine va_get hx hb hts hinX12 hown hK hPr 0 rfl rfl 11 (by decide) k2 (fun _ h => h) rfl dX12_rim_31 ?_
      refine z_bipush hx hb dX12_rim_34 (by decide) ?_
      refine lv_iload_n hx hb dX12_rim_36 rfl (lv_at hl 3 rfl) ?_
      refine z_imul hx hb dX12_rim_37 ?_
      refine z_iald hx hb hK hPr 1 0 rfl rfl (by omega) (by decide) dX12_rim_38 ?_
      refine lv_aload_n hx hb dX12_rim_39 rfl (lv_at hl 2 rfl) ?_
      refine va_get hx hb hts hinX12 hown hK hPr 0 rfl rfl 11 (by decide) k2 (fun _ h => h) rfl dX12_rim_40 ?_
      refine z_bipush hx hb dX12_rim_43 (by decide) ?_
      refine lv_iload_n hx hb dX12_rim_45 rfl (lv_at hl 3 rfl) ?_
      refine z_imul hx hb dX12_rim_46 ?_
      refine z_iconst hx hb dX12_rim_47 ?_
      refine z_iadd hx hb dX12_rim_48 ?_
      refine z_iald hx hb hK hPr 1 0 rfl rfl (by omega) (by decide) dX12_rim_49 ?_
      refine lv_iload hx hb dX12_rim_50 (lv_at hl 0 rfl) ?_
      refine z_pS (As := [zi (MB (7 * bq)), zi (MB ((7 * bq) + 1)), zi k]) (rest := []) hC (c_X12_folds l D y (MB (7 * bq)) (MB ((7 * bq) + 1)) k (by first | assumption | omega)) (va_cwS 3 hts gX12_rim_X12_folds rfl rfl rfl (by decide +kernel) ⟨Nat.le_of_ble_eq_true rfl, Nat.le_of_ble_eq_true rfl⟩) hG va_P_nil rfl hl.1 rfl (Nat.le_of_ble_eq_true rfl) dX12_rim_52 ⟨Nat.le_of_ble_eq_true rfl, Nat.le_of_ble_eq_true rfl⟩ ?_
      refine z_ifB_eq (tgt := 89) hx hb dX12_rim_55 (by decide) (fun c_55 => ?_) (fun c_55 => ?_)
      ·
        refine lv_iload_n hx hb dX12_rim_89 rfl (lv_at hl 1 rfl) ?_
        exact z_iret0 hx hb hr hlocks (hi30.2.trans (by rw [show k = (min (MB (7 * bq)) (MB (7 * bq + 1)) - 1) / 2 + 1 by omega]; unfold rimV; congr 2; omega)) dX12_rim_90
      ·
        have b3 := load_bd2 (bl := (MB (7 * bq))) (bw := (MB (7 * bq + 1))) (bt := (MB (7 * bq + 2))) (wt := wt) (rm := k) (by omega) (by omega) (by omega) (by omega) hwt
        have b4 := load_bd2 (bl := (MB (7 * bq))) (bw := (MB (7 * bq + 1))) (bt := (MB (7 * bq + 2))) (wt := wt) (rm := v) (by omega) (by omega) (by omega) (by omega) hwt
        refine lv_aload_n hx hb dX12_rim_58 rfl (lv_at hl 2 rfl) ?_
        refine lv_iload_n hx hb dX12_rim_59 rfl (lv_at hl 3 rfl) ?_
        refine lv_iload hx hb dX12_rim_60 (lv_at hl 0 rfl) ?_
        refine lv_iload_n hx hb dX12_rim_62 rfl (lv_at hl 4 rfl) ?_
        refine z_pV (As := [zi bq, zi k, zi wt]) (rest := []) hC (c_X12_bearsOf l D y m0 m_read rl rp m_gut gl gp gx gy m_text tn fn m_boat m_coins vw vm vn m_rest m_ends vc m_chan m_spl fs rn m_rf m_rr m_ik m_km m_kb m_kc m_kf m_kr MB MC bq k wt (by first | assumption | omega) (by first | assumption | omega) (by first | assumption | omega) (by first | assumption | omega)) (cwV 3 hts gX12_rim_X12_bearsOf rfl rfl rfl (by decide +kernel) ⟨Nat.le_of_ble_eq_true rfl, Nat.le_of_ble_eq_true rfl⟩) hG (hPr.sub (ws' := [(m0, .inr (11, [.ref m_read, zi rl, zi rp, .ref m_gut, zi gl, zi gp, zi gx, zi gy, .ref m_text, zi tn, zi fn, .ref m_boat, .ref m_coins, zi vw, zi vm, zi vn, .ref m_rest, .ref m_ends, zl vc, .ref m_chan, .ref m_spl, zi fs, zi rn, .ref m_rf, .ref m_rr, .ref m_ik, .ref m_km, .ref m_kb, .ref m_kc, .ref m_kf, .ref m_kr])), (m_boat, .inl (y 0, 42, .inl (cI MB))), (m_coins, .inl (y 0, 144, .inl (cI MC)))]) [0, 1, 2] rfl) 0 rfl rfl rfl hl.1 rfl (Nat.le_of_ble_eq_true rfl) dX12_rim_63 ⟨Nat.le_of_ble_eq_true rfl, Nat.le_of_ble_eq_true rfl⟩ ?_
        refine lv_aload_n hx hb dX12_rim_66 rfl (lv_at hl 2 rfl) ?_
        refine lv_iload_n hx hb dX12_rim_67 rfl (lv_at hl 3 rfl) ?_
        refine lv_iload_n hx hb dX12_rim_68 rfl (lv_at hl 1 rfl) ?_
        refine lv_iload_n hx hb dX12_rim_69 rfl (lv_at hl 4 rfl) ?_
        refine z_pV (As := [zi bq, zi v, zi wt]) (rest := [zi (loadV (MB (7 * bq)) (MB (7 * bq + 1)) (MB (7 * bq + 2)) k wt)]) hC (c_X12_bearsOf l D y m0 m_read rl rp m_gut gl gp gx gy m_text tn fn m_boat m_coins vw vm vn m_rest m_ends vc m_chan m_spl fs rn m_rf m_rr m_ik m_km m_kb m_kc m_kf m_kr MB MC bq v wt (by first | assumption | omega) (by first | assumption | omega) (by first | assumption | omega) (by first | assumption | omega)) (cwV 3 hts gX12_rim_X12_bearsOf rfl rfl rfl (by decide +kernel) ⟨Nat.le_of_ble_eq_true rfl, Nat.le_of_ble_eq_true rfl⟩) hG (hPr.sub (ws' := [(m0, .inr (11, [.ref m_read, zi rl, zi rp, .ref m_gut, zi gl, zi gp, zi gx, zi gy, .ref m_text, zi tn, zi fn, .ref m_boat, .ref m_coins, zi vw, zi vm, zi vn, .ref m_rest, .ref m_ends, zl vc, .ref m_chan, .ref m_spl, zi fs, zi rn, .ref m_rf, .ref m_rr, .ref m_ik, .ref m_km, .ref m_kb, .ref m_kc, .ref m_kf, .ref m_kr])), (m_boat, .inl (y 0, 42, .inl (cI MB))), (m_coins, .inl (y 0, 144, .inl (cI MC)))]) [0, 1, 2] rfl) 0 rfl rfl rfl hl.1 rfl (Nat.le_of_ble_eq_true rfl) dX12_rim_70 ⟨Nat.le_of_ble_eq_true rfl, Nat.le_of_ble_eq_true rfl⟩ ?_
        refine z_icmp_le (tgt := 81) hx hb (by omega) (by omega) dX12_rim_73 (by decide) (fun c_73 => ?_) (fun c_73 => ?_)
        ·
          refine lv_iload_n hx hb dX12_rim_81 rfl (lv_at hl 1 rfl) ?_
          refine lv_istore_n (lv' := [(3, zi v), (4, zi k), (0, .ref m0), (1, zi bq), (2, zi wt)]) hx hb dX12_rim_82 rfl hl (by decide) rfl (fun ls hl => ?_)
          refine z_iinc (k := 1) (lv' := [(4, zi (k + 1)), (3, zi v), (0, .ref m0), (1, zi bq), (2, zi wt)]) hx hb dX12_rim_83 hl rfl (by decide) rfl (fun ls hl => ?_)
          refine lv_goto (tgt := 30) hx hb dX12_rim_86 (by decide) ?_
          exact ih30 (v, k + 1) _ _ _ (by first | (dsimp only; omega) | omega) ⟨⟨by omega, by rw [rimF_s _ (by omega), ← hi30.2]; first | exact (if_pos (by omega)).symm | exact (if_neg (by omega)).symm⟩, lv_sub hl [0, 1, 2, 3, 4] rfl, rfl, rfl⟩
        ·
          refine lv_iload hx hb dX12_rim_76 (lv_at hl 0 rfl) ?_
          refine lv_goto (tgt := 82) hx hb dX12_rim_78 (by decide) ?_
          refine lv_istore_n (lv' := [(3, zi k), (4, zi k), (0, .ref m0), (1, zi bq), (2, zi wt)]) hx hb dX12_rim_82 rfl hl (by decide) rfl (fun ls hl => ?_)
          refine z_iinc (k := 1) (lv' := [(4, zi (k + 1)), (3, zi k), (0, .ref m0), (1, zi bq), (2, zi wt)]) hx hb dX12_rim_83 hl rfl (by decide) rfl (fun ls hl => ?_)
          refine lv_goto (tgt := 30) hx hb dX12_rim_86 (by decide) ?_
          exact ih30 (k, k + 1) _ _ _ (by first | (dsimp only; omega) | omega) ⟨⟨by omega, by rw [rimF_s _ (by omega), ← hi30.2]; first | exact (if_pos (by omega)).symm | exact (if_neg (by omega)).symm⟩, lv_sub hl [0, 1, 2, 3, 4] rfl, rfl, rfl⟩
    · exfalso; omega
  · exfalso; omega
