/-! ===== more of the model ===== -/
theorem en_sum {f : Int → Int → Int} (h : ∀ b k, 0 ≤ f b k ∧ f b k ≤ 10) {pl n : Int} (hp : 0 ≤ pl) (hn : 0 ≤ n ∧ n ≤ 6) : 0 ≤ sgI (fun b => enF (f b) pl) n ∧ sgI (fun b => enF (f b) pl) n ≤ 6 * 10 ^ (pl + 1).toNat := by
  have key : ∀ m : Nat, 0 ≤ sg (fun b => enF (f b) pl) m ∧ sg (fun b => enF (f b) pl) m ≤ m * 10 ^ (pl + 1).toNat := by
    intro m
    induction m with
    | zero => simp [sg]
    | succ m ih =>
      have e := enF_bd (h (m : Int)) hp
      have e2 : ((m + 1 : Nat) : Int) * 10 ^ (pl + 1).toNat = m * 10 ^ (pl + 1).toNat + 10 ^ (pl + 1).toNat := by rw [Int.natCast_add, Int.add_mul]; simp
      rw [e2]
      show 0 ≤ sg _ m + enF (f m) pl ∧ sg _ m + enF (f m) pl ≤ _
      omega
  have k := key n.toNat
  have h2 : ((n.toNat : Nat) : Int) * 10 ^ (pl + 1).toNat ≤ 6 * 10 ^ (pl + 1).toNat := Int.mul_le_mul_of_nonneg_right (by omega) (Int.le_of_lt (ten_p _))
  exact ⟨k.1, Int.le_trans k.2 h2⟩
theorem sc_0 {x t : Int} (h : 0 < t) : x * t = 0 ↔ x = 0 := by
  constructor
  · intro e
    exact (Int.mul_eq_zero.mp e).resolve_right (by omega)
  · intro e
    rw [e, Int.zero_mul]
theorem sc_lt {a b t : Int} (h : 0 < t) : a * t < b * t ↔ a < b := ⟨fun q => Int.lt_of_mul_lt_mul_right q (Int.le_of_lt h), fun q => Int.mul_lt_mul_of_pos_right q h⟩
theorem tell_sc {a b t u : Int} (ha : 0 ≤ a) (hb : 0 < b) (h : 0 < t) : tellV (a * t) (b * t) u = tellV a b u := by
  rw [Int.mul_comm a, Int.mul_comm b]
  exact tellV_mul ha hb h
theorem ic_s {P : Int → Prop} {k : Int} (h : ∀ a : Int, 0 ≤ a → a < k → P a) (hk : P k) : ∀ a : Int, 0 ≤ a → a < k + 1 → P a := by
  intro a a0 a1
  by_cases e : a = k
  · rw [e]; exact hk
  · exact h a a0 (by omega)
theorem id_s {P : Int → Prop} {k : Int} (h : ∀ a : Int, 0 ≤ a → a < k → P a) (hk : P k) : ∀ a : Int, 0 ≤ a → a < k + 1 → P a := ic_s h hk
theorem bI_if {v : Int} {P : Prop} [Decidable P] (h : v = 0 ∨ v = 1) (e : v = 1 ↔ P) : v = bI P := by
  rcases h with h | h
  · rw [bI_f (fun q => by have := e.mpr q; omega), h]
  · rw [bI_t (e.mp h), h]
theorem kp_s {B1 S O : Int → Int} {n k sq : Int} (h : ∀ j : Int, B1 j = if n * sq ≤ j ∧ j < n * sq + k then S (j - n * sq) else O j) (hk : 0 ≤ k) : ∀ j : Int, iu B1 (n * sq + k) (S k) j = if n * sq ≤ j ∧ j < n * sq + (k + 1) then S (j - n * sq) else O j := by
  intro j
  by_cases e : j = n * sq + k
  · rw [iu_e e, if_pos (by omega), show j - n * sq = k by omega]
  · rw [iu_n e, h]
    by_cases q : n * sq ≤ j ∧ j < n * sq + k
    · rw [if_pos q, if_pos (by omega)]
    · rw [if_neg q, if_neg (by omega)]
set_option maxHeartbeats 8000000 in
set_option maxRecDepth 100000 in
theorem c_X12_endedOf (l : Launch) (D : va_G) (y : Nat → ClassId) (m0 : Nat) (m_read : Nat) (rl : Int) (rp : Int) (m_gut : Nat) (gl : Int) (gp : Int) (gx : Int) (gy : Int) (m_text : Nat) (tn : Int) (fn : Int) (m_boat : Nat) (m_coins : Nat) (vw : Int) (vm : Int) (vn : Int) (m_rest : Nat) (m_ends : Nat) (vc : Int) (m_chan : Nat) (m_spl : Nat) (fs : Int) (rn : Int) (m_rf : Nat) (m_rr : Nat) (m_ik : Nat) (m_km : Nat) (m_kb : Nat) (m_kc : Nat) (m_kf : Nat) (m_kr : Nat) (MG : Int → Int) (MB : Int → Int) (MC : Int → Int) (ME : Int → Int) (bq : Int) (la : Int) (pl : Int) (hM : mbOK fn MB MC) (hbq : 0 ≤ bq ∧ bq < fn) (hg : gOK gl gp gx gy MG) (hla : 0 ≤ la ∧ la < gl) (hpl : 0 ≤ pl ∧ pl < gp) (sz : Nat) : Met l yX12_endedOf wsX12_endedOf ({ frames := 5, cells := 0, slots := 0, locals := 124 } : Room) (wPc D y [] [(m0, .inr (11, [.ref m_read, zi rl, zi rp, .ref m_gut, zi gl, zi gp, zi gx, zi gy, .ref m_text, zi tn, zi fn, .ref m_boat, .ref m_coins, zi vw, zi vm, zi vn, .ref m_rest, .ref m_ends, zl vc, .ref m_chan, .ref m_spl, zi fs, zi rn, .ref m_rf, .ref m_rr, .ref m_ik, .ref m_km, .ref m_kb, .ref m_kc, .ref m_kf, .ref m_kr])), (m_gut, .inl (y 0, 36, .inl (cI MG))), (m_boat, .inl (y 0, 42, .inl (cI MB))), (m_coins, .inl (y 0, 144, .inl (cI MC))), (m_ends, .inl (y 1, 12, .inr (.inl (cL ME))))] sz [.ref m0, zi bq, zi la, zi pl]) (wQ D (fun (x9 : Int × Int × Int × Int × (Int → Int)) => match x9 with | (vw2, vm2, vn2, vc2, ME2) => some (zl (enF (acx gl gp gx gy MG la (mLife MB MC bq)) pl * 10 ^ (gp - (pl + 1)).toNat))) (fun (x9 : Int × Int × Int × Int × (Int → Int)) => match x9 with | (vw2, vm2, vn2, vc2, ME2) => True) (fun (x9 : Int × Int × Int × Int × (Int → Int)) => match x9 with | (vw2, vm2, vn2, vc2, ME2) => [(m0, .inr (11, [.ref m_read, zi rl, zi rp, .ref m_gut, zi gl, zi gp, zi gx, zi gy, .ref m_text, zi tn, zi fn, .ref m_boat, .ref m_coins, zi vw2, zi vm2, zi vn2, .ref m_rest, .ref m_ends, zl vc2, .ref m_chan, .ref m_spl, zi fs, zi rn, .ref m_rf, .ref m_rr, .ref m_ik, .ref m_km, .ref m_kb, .ref m_kc, .ref m_kf, .ref m_kr])), (m_gut, .inl (y 0, 36, .inl (cI MG))), (m_boat, .inl (y 0, 42, .inl (cI MB))), (m_coins, .inl (y 0, 144, .inl (cI MC))), (m_ends, .inl (y 1, 12, .inr (.inl (cL ME2))))]) (va_A [(m0, .inr (11, [.ref m_read, zi rl, zi rp, .ref m_gut, zi gl, zi gp, zi gx, zi gy, .ref m_text, zi tn, zi fn, .ref m_boat, .ref m_coins, zi vw, zi vm, zi vn, .ref m_rest, .ref m_ends, zl vc, .ref m_chan, .ref m_spl, zi fs, zi rn, .ref m_rf, .ref m_rr, .ref m_ik, .ref m_km, .ref m_kb, .ref m_kc, .ref m_kf, .ref m_kr])), (m_gut, .inl (y 0, 36, .inl (cI MG))), (m_boat, .inl (y 0, 42, .inl (cI MB))), (m_coins, .inl (y 0, 144, .inl (cI MC))), (m_ends, .inl (y 1, 12, .inr (.inl (cL ME))))] sz)) 0 0 (va_A [(m0, .inr (11, [.ref m_read, zi rl, zi rp, .ref m_gut, zi gl, zi gp, zi gx, zi gy, .ref m_text, zi tn, zi fn, .ref m_boat, .ref m_coins, zi vw, zi vm, zi vn, .ref m_rest, .ref m_ends, zl vc, .ref m_chan, .ref m_spl, zi fs, zi rn, .ref m_rf, .ref m_rr, .ref m_ik, .ref m_km, .ref m_kb, .ref m_kc, .ref m_kf, .ref m_kr])), (m_gut, .inl (y 0, 36, .inl (cI MG))), (m_boat, .inl (y 0, 42, .inl (cI MB))), (m_coins, .inl (y 0, 144, .inl (cI MC))), (m_ends, .inl (y 1, 12, .inr (.inl (cL ME))))] sz) := by
  refine W_of (own := RX12) (cc := cX12_endedOf) (maxL := 4) (ret := some .long) (by decide) rfl rfl (Nat.le_of_ble_eq_true rfl) (fun p e s m below meth c ls A hx hb hr hC hlocks hin0 hR0 hN hP hD hA hG hl => ?_)
  have hC0 := hC
  obtain ⟨-, -, hml, hown, hts⟩ := hC0
  have hK := hG.1
  have hS : va_S A s.heap s.heap [] := va_S.rf
  have hPr := hR0
  have hinX12 : ∀ w ∈ wsX120, w ∈ wsX12_endedOf := fun _ h => List.mem_cons_of_mem _ (List.mem_append_right _ h)
  have k1 := hts (.fieldLink RX12 28 "BoatsOfPaperModel" "ends" "[J") (List.mem_of_getElem? (i := 1) rfl)
  have hl : lv_has ls 4 [(0, .ref m0), (1, zi bq), (2, zi la), (3, zi pl)] := hl
  have hB := hM.2 bq hbq.1 hbq.2
  obtain ⟨q1, q2, q3, q4, q5, q6, q7, q8, q9, qc⟩ := id hB
  have qf := hM.1
  obtain ⟨u1, u2, u3, u4, uk⟩ := id hg
  have hl9 := lifeV_bd hB
  have ha := acx_bd hg la (lifeV (MB (7 * bq)) (MB (7 * bq + 1)) (MB (7 * bq + 2)) (MB (7 * bq + 3)) (MB (7 * bq + 4)) (MB (7 * bq + 5)) (MB (7 * bq + 6)) (mCI MC bq) (mCJ MC bq) (mCW MC bq))
  have t1 := ten12 (r := gp.toNat) (by omega)
  have t2 := ten_p gp.toNat
  have t4 := scale_bd (t := 10 ^ (gp - (pl + 1)).toNat) (ten_p _) (enF_bd ha hpl.1).1 (enF_bd ha hpl.1).2 (Int.le_of_eq (ten_split hpl.1 hpl.2))
  refine lv_aload_n hx hb dX12_endedOf_0 rfl (lv_at hl 0 rfl) ?_
  refine lv_iload_n hx hb dX12_endedOf_1 rfl (lv_at hl 1 rfl) ?_
  refine lv_iload_n hx hb dX12_endedOf_2 rfl (lv_at hl 2 rfl) ?_
  refine z_wV (As := [zi bq, zi la]) (rest := []) (wc := [(m0, .inr (11, [.ref m_read, zi rl, zi rp, .ref m_gut, zi gl, zi gp, zi gx, zi gy, .ref m_text, zi tn, zi fn, .ref m_boat, .ref m_coins, zi vw, zi vm, zi vn, .ref m_rest, .ref m_ends, zl vc, .ref m_chan, .ref m_spl, zi fs, zi rn, .ref m_rf, .ref m_rr, .ref m_ik, .ref m_km, .ref m_kb, .ref m_kc, .ref m_kf, .ref m_kr])), (m_gut, .inl (y 0, 36, .inl (cI MG))), (m_boat, .inl (y 0, 42, .inl (cI MB))), (m_coins, .inl (y 0, 144, .inl (cI MC))), (m_ends, .inl (y 1, 12, .inr (.inl (cL ME))))]) (wrest := []) hC (c_X12_layDrift l D y m0 m_read rl rp m_gut gl gp gx gy m_text tn fn m_boat m_coins vw vm vn m_rest m_ends vc m_chan m_spl fs rn m_rf m_rr m_ik m_km m_kb m_kc m_kf m_kr MG MB MC ME bq la (by first | assumption | omega) (by first | assumption | omega) (by first | assumption | omega) (by first | assumption | omega) _) (cwV 2 hts gX12_endedOf_X12_layDrift rfl rfl rfl (by decide +kernel) ⟨Nat.le_of_ble_eq_true rfl, Nat.le_of_ble_eq_true rfl⟩) hG hP hD hS hA [0, 1, 2, 3, 4] [] rfl rfl (by decide) (by decide) (by decide) va_P_nil ro_nil 0 rfl rfl rfl hl.1 rfl (Nat.le_of_ble_eq_true rfl) dX12_endedOf_3 ⟨Nat.le_of_ble_eq_true rfl, Nat.le_of_ble_eq_true rfl⟩ (fun u9 H locs hw_6 hP hD hS => ?_)
  obtain ⟨vw2, vm2, vn2, vc2, ME2⟩ := u9
  have hw_6 : vc2 = crF (acx gl gp gx gy MG la (lifeV (MB (7 * bq)) (MB (7 * bq + 1)) (MB (7 * bq + 2)) (MB (7 * bq + 3)) (MB (7 * bq + 4)) (MB (7 * bq + 5)) (MB (7 * bq + 6)) (mCI MC bq) (mCJ MC bq) (mCW MC bq))) gp.toNat ∧ ∀ j : Int, 0 ≤ j → j < gp → ME2 j = enF (acx gl gp gx gy MG la (lifeV (MB (7 * bq)) (MB (7 * bq + 1)) (MB (7 * bq + 2)) (MB (7 * bq + 3)) (MB (7 * bq + 4)) (MB (7 * bq + 5)) (MB (7 * bq + 6)) (mCI MC bq) (mCJ MC bq) (mCW MC bq))) j * 10 ^ (gp - (j + 1)).toNat := hw_6
  have hP : va_P D vwCl [(m0, .inr (11, [.ref m_read, zi rl, zi rp, .ref m_gut, zi gl, zi gp, zi gx, zi gy, .ref m_text, zi tn, zi fn, .ref m_boat, .ref m_coins, zi vw2, zi vm2, zi vn2, .ref m_rest, .ref m_ends, zl vc2, .ref m_chan, .ref m_spl, zi fs, zi rn, .ref m_rf, .ref m_rr, .ref m_ik, .ref m_km, .ref m_kb, .ref m_kc, .ref m_kf, .ref m_kr])), (m_gut, .inl (y 0, 36, .inl (cI MG))), (m_boat, .inl (y 0, 42, .inl (cI MB))), (m_coins, .inl (y 0, 144, .inl (cI MC))), (m_ends, .inl (y 1, 12, .inr (.inl (cL ME2))))] H := hP
  have hD : va_D A [(m0, .inr (11, [.ref m_read, zi rl, zi rp, .ref m_gut, zi gl, zi gp, zi gx, zi gy, .ref m_text, zi tn, zi fn, .ref m_boat, .ref m_coins, zi vw2, zi vm2, zi vn2, .ref m_rest, .ref m_ends, zl vc2, .ref m_chan, .ref m_spl, zi fs, zi rn, .ref m_rf, .ref m_rr, .ref m_ik, .ref m_km, .ref m_kb, .ref m_kc, .ref m_kf, .ref m_kr])), (m_gut, .inl (y 0, 36, .inl (cI MG))), (m_boat, .inl (y 0, 42, .inl (cI MB))), (m_coins, .inl (y 0, 144, .inl (cI MC))), (m_ends, .inl (y 1, 12, .inr (.inl (cL ME2))))] := hD
  obtain ⟨f1, f2⟩ := hw_6
  have f3 := f2 pl hpl.1 hpl.2
  refine lv_aload_n hx hb dX12_endedOf_6 rfl (lv_at hl 0 rfl) ?_
  refine va_get hx hb hts hinX12 hown hK hP 0 rfl rfl 17 (by decide) k1 (fun _ h => h) rfl dX12_endedOf_7 ?_
  refine lv_iload_n hx hb dX12_endedOf_10 rfl (lv_at hl 3 rfl) ?_
  refine z_lald hx hb hK hP 4 1 rfl rfl (by omega) (by decide) dX12_endedOf_11 ?_
  exact z_lretW hx hb hr hlocks (vw2, vm2, vn2, vc2, ME2) (by exact congrArg (fun z => some (zl z)) f3.symm) (trivial) (hP.sub [0, 1, 2, 3, 4] rfl) (hD.sub [0, 1, 2, 3, 4] (by decide) rfl) hS dX12_endedOf_12
set_option maxHeartbeats 8000000 in
set_option maxRecDepth 100000 in
theorem c_X12_wrecks (l : Launch) (D : va_G) (y : Nat → ClassId) (m0 : Nat) (m_read : Nat) (rl : Int) (rp : Int) (m_gut : Nat) (gl : Int) (gp : Int) (gx : Int) (gy : Int) (m_text : Nat) (tn : Int) (fn : Int) (m_boat : Nat) (m_coins : Nat) (vw : Int) (vm : Int) (vn : Int) (m_rest : Nat) (m_ends : Nat) (vc : Int) (m_chan : Nat) (m_spl : Nat) (fs : Int) (rn : Int) (m_rf : Nat) (m_rr : Nat) (m_ik : Nat) (m_km : Nat) (m_kb : Nat) (m_kc : Nat) (m_kf : Nat) (m_kr : Nat) (MG : Int → Int) (MB : Int → Int) (MC : Int → Int) (ME : Int → Int) (la : Int) (pl : Int) (hM : mbOK fn MB MC) (hg : gOK gl gp gx gy MG) (hla : 0 ≤ la ∧ la < gl) (hpl : 0 ≤ pl ∧ pl < gp) (sz : Nat) : Met l yX12_wrecks wsX12_wrecks ({ frames := 6, cells := 0, slots := 0, locals := 147 } : Room) (wPc D y [] [(m0, .inr (11, [.ref m_read, zi rl, zi rp, .ref m_gut, zi gl, zi gp, zi gx, zi gy, .ref m_text, zi tn, zi fn, .ref m_boat, .ref m_coins, zi vw, zi vm, zi vn, .ref m_rest, .ref m_ends, zl vc, .ref m_chan, .ref m_spl, zi fs, zi rn, .ref m_rf, .ref m_rr, .ref m_ik, .ref m_km, .ref m_kb, .ref m_kc, .ref m_kf, .ref m_kr])), (m_gut, .inl (y 0, 36, .inl (cI MG))), (m_boat, .inl (y 0, 42, .inl (cI MB))), (m_coins, .inl (y 0, 144, .inl (cI MC))), (m_ends, .inl (y 1, 12, .inr (.inl (cL ME))))] sz [.ref m0, zi la, zi pl]) (wQ D (fun (x9 : Int × Int × Int × Int × (Int → Int)) => match x9 with | (vw2, vm2, vn2, vc2, ME2) => some (zl (sgI (fun b => enF (acx gl gp gx gy MG la (mLife MB MC b)) pl) fn * 10 ^ (gp - (pl + 1)).toNat))) (fun (x9 : Int × Int × Int × Int × (Int → Int)) => match x9 with | (vw2, vm2, vn2, vc2, ME2) => True) (fun (x9 : Int × Int × Int × Int × (Int → Int)) => match x9 with | (vw2, vm2, vn2, vc2, ME2) => [(m0, .inr (11, [.ref m_read, zi rl, zi rp, .ref m_gut, zi gl, zi gp, zi gx, zi gy, .ref m_text, zi tn, zi fn, .ref m_boat, .ref m_coins, zi vw2, zi vm2, zi vn2, .ref m_rest, .ref m_ends, zl vc2, .ref m_chan, .ref m_spl, zi fs, zi rn, .ref m_rf, .ref m_rr, .ref m_ik, .ref m_km, .ref m_kb, .ref m_kc, .ref m_kf, .ref m_kr])), (m_gut, .inl (y 0, 36, .inl (cI MG))), (m_boat, .inl (y 0, 42, .inl (cI MB))), (m_coins, .inl (y 0, 144, .inl (cI MC))), (m_ends, .inl (y 1, 12, .inr (.inl (cL ME2))))]) (va_A [(m0, .inr (11, [.ref m_read, zi rl, zi rp, .ref m_gut, zi gl, zi gp, zi gx, zi gy, .ref m_text, zi tn, zi fn, .ref m_boat, .ref m_coins, zi vw, zi vm, zi vn, .ref m_rest, .ref m_ends, zl vc, .ref m_chan, .ref m_spl, zi fs, zi rn, .ref m_rf, .ref m_rr, .ref m_ik, .ref m_km, .ref m_kb, .ref m_kc, .ref m_kf, .ref m_kr])), (m_gut, .inl (y 0, 36, .inl (cI MG))), (m_boat, .inl (y 0, 42, .inl (cI MB))), (m_coins, .inl (y 0, 144, .inl (cI MC))), (m_ends, .inl (y 1, 12, .inr (.inl (cL ME))))] sz)) 0 0 (va_A [(m0, .inr (11, [.ref m_read, zi rl, zi rp, .ref m_gut, zi gl, zi gp, zi gx, zi gy, .ref m_text, zi tn, zi fn, .ref m_boat, .ref m_coins, zi vw, zi vm, zi vn, .ref m_rest, .ref m_ends, zl vc, .ref m_chan, .ref m_spl, zi fs, zi rn, .ref m_rf, .ref m_rr, .ref m_ik, .ref m_km, .ref m_kb, .ref m_kc, .ref m_kf, .ref m_kr])), (m_gut, .inl (y 0, 36, .inl (cI MG))), (m_boat, .inl (y 0, 42, .inl (cI MB))), (m_coins, .inl (y 0, 144, .inl (cI MC))), (m_ends, .inl (y 1, 12, .inr (.inl (cL ME))))] sz) := by
  refine W_of (own := RX12) (cc := cX12_wrecks) (maxL := 6) (ret := some .long) (by decide) rfl rfl (Nat.le_of_ble_eq_true rfl) (fun p e s m below meth c ls A hx hb hr hC hlocks hin0 hR0 hN hP hD hA hG hl => ?_)
  have hC0 := hC
  obtain ⟨-, -, hml, hown, hts⟩ := hC0
  have hK := hG.1
  have hS : va_S A s.heap s.heap [] := va_S.rf
  have hPr := hR0
  have hinX12 : ∀ w ∈ wsX120, w ∈ wsX12_wrecks := fun _ h => List.mem_cons_of_mem _ (List.mem_append_right _ h)
  have k1 := hts (.fieldLink RX12 114 "BoatsOfPaperModel" "boats" "I") (List.mem_of_getElem? (i := 1) rfl)
  have hl : lv_has ls 6 [(0, .ref m0), (1, zi la), (2, zi pl)] := hl
  have qf := hM.1
  obtain ⟨u1, u2, u3, u4, uk⟩ := id hg
  refine lv_lconst (v := iL 0) hx hb dX12_wrecks_0 rfl ?_
  refine lv_lstore_n (lv' := [(3, zl 0), (0, .ref m0), (1, zi la), (2, zi pl)]) hx hb dX12_wrecks_1 rfl hl (by decide) rfl (fun ls hl => ?_)
  refine z_iconst hx hb dX12_wrecks_2 ?_
  refine lv_istore (lv' := [(5, zi 0), (3, zl 0), (0, .ref m0), (1, zi la), (2, zi pl)]) hx hb dX12_wrecks_3 hl (by decide) rfl (fun ls hl => ?_)
  refine z_loop (σ := Int × Int × Int × Int × Int × Int × (Int → Int)) (fun x9 H lc ls => match x9 with | (v, k, w1, x1, z1, cr, E) => ((0 ≤ k ∧ k ≤ fn) ∧ v = sgI (fun b => enF (acx gl gp gx gy MG la (mLife MB MC b)) pl) k * 10 ^ (gp - (pl + 1)).toNat) ∧ lv_has ls 6 [(5, zi k), (3, zl v), (0, .ref m0), (1, zi la), (2, zi pl)] ∧ va_P D vwCl [(m0, .inr (11, [.ref m_read, zi rl, zi rp, .ref m_gut, zi gl, zi gp, zi gx, zi gy, .ref m_text, zi tn, zi fn, .ref m_boat, .ref m_coins, zi w1, zi x1, zi z1, .ref m_rest, .ref m_ends, zl cr, .ref m_chan, .ref m_spl, zi fs, zi rn, .ref m_rf, .ref m_rr, .ref m_ik, .ref m_km, .ref m_kb, .ref m_kc, .ref m_kf, .ref m_kr])), (m_gut, .inl (y 0, 36, .inl (cI MG))), (m_boat, .inl (y 0, 42, .inl (cI MB))), (m_coins, .inl (y 0, 144, .inl (cI MC))), (m_ends, .inl (y 1, 12, .inr (.inl (cL E))))] H ∧ va_D A [(m0, .inr (11, [.ref m_read, zi rl, zi rp, .ref m_gut, zi gl, zi gp, zi gx, zi gy, .ref m_text, zi tn, zi fn, .ref m_boat, .ref m_coins, zi w1, zi x1, zi z1, .ref m_rest, .ref m_ends, zl cr, .ref m_chan, .ref m_spl, zi fs, zi rn, .ref m_rf, .ref m_rr, .ref m_ik, .ref m_km, .ref m_kb, .ref m_kc, .ref m_kf, .ref m_kr])), (m_gut, .inl (y 0, 36, .inl (cI MG))), (m_boat, .inl (y 0, 42, .inl (cI MB))), (m_coins, .inl (y 0, 144, .inl (cI MC))), (m_ends, .inl (y 1, 12, .inr (.inl (cL E))))] ∧ va_S A s.heap H lc) (fun x9  => match x9 with | (v, k, w1, x1, z1, cr, E) => ((fn - k).toNat)) ?_ (0, 0, vw, vm, vn, vc, ME) ⟨⟨by omega, by rw [sgI_0, Int.zero_mul]⟩, lv_sub hl [0, 1, 2, 3, 4] rfl, hP.sub [0, 1, 2, 3, 4] rfl, hD.sub [0, 1, 2, 3, 4] (by decide) rfl, hS⟩
  rintro ⟨v, k, w1, x1, z1, cr, E⟩ H lc ls ⟨hi5, hl, hP, hD, hS⟩ ih5
  have hP : va_P D vwCl [(m0, .inr (11, [.ref m_read, zi rl, zi rp, .ref m_gut, zi gl, zi gp, zi gx, zi gy, .ref m_text, zi tn, zi fn, .ref m_boat, .ref m_coins, zi w1, zi x1, zi z1, .ref m_rest, .ref m_ends, zl cr, .ref m_chan, .ref m_spl, zi fs, zi rn, .ref m_rf, .ref m_rr, .ref m_ik, .ref m_km, .ref m_kb, .ref m_kc, .ref m_kf, .ref m_kr])), (m_gut, .inl (y 0, 36, .inl (cI MG))), (m_boat, .inl (y 0, 42, .inl (cI MB))), (m_coins, .inl (y 0, 144, .inl (cI MC))), (m_ends, .inl (y 1, 12, .inr (.inl (cL E))))] H := hP
  have hD : va_D A [(m0, .inr (11, [.ref m_read, zi rl, zi rp, .ref m_gut, zi gl, zi gp, zi gx, zi gy, .ref m_text, zi tn, zi fn, .ref m_boat, .ref m_coins, zi w1, zi x1, zi z1, .ref m_rest, .ref m_ends, zl cr, .ref m_chan, .ref m_spl, zi fs, zi rn, .ref m_rf, .ref m_rr, .ref m_ik, .ref m_km, .ref m_kb, .ref m_kc, .ref m_kf, .ref m_kr])), (m_gut, .inl (y 0, 36, .inl (cI MG))), (m_boat, .inl (y 0, 42, .inl (cI MB))), (m_coins, .inl (y 0, 144, .inl (cI MC))), (m_ends, .inl (y 1, 12, .inr (.inl (cL E))))] := hD
  refine lv_iload hx hb dX12_wrecks_5 (lv_at hl 0 rfl) ?_
  refine lv_aload_n hx hb dX12_wrecks_7 rfl (lv_at hl 2 rfl) ?_
  refine va_get hx hb hts hinX12 hown hK hP 0 rfl rfl 10 (by decide) k1 (fun _ h => h) rfl dX12_wrecks_8 ?_
  refine z_icmp_ge (tgt := 31) hx hb (by omega) (by omega) dX12_wrecks_11 (by decide) (fun c_11 => ?_) (fun c_11 => ?_)
  ·
    refine lv_lload_n hx hb dX12_wrecks_31 rfl (lv_at hl 1 rfl) ?_
    exact z_lretW hx hb hr hlocks (w1, x1, z1, cr, E) (by exact congrArg (fun z => some (zl z)) (by rw [hi5.2, show k = fn by omega])) (trivial) (hP.sub [0, 1, 2, 3, 4] rfl) (hD.sub [0, 1, 2, 3, 4] (by decide) rfl) hS dX12_wrecks_32
  ·
    refine lv_lload_n hx hb dX12_wrecks_14 rfl (lv_at hl 1 rfl) ?_
    refine lv_aload_n hx hb dX12_wrecks_15 rfl (lv_at hl 2 rfl) ?_
    refine lv_iload hx hb dX12_wrecks_16 (lv_at hl 0 rfl) ?_
    refine lv_iload_n hx hb dX12_wrecks_18 rfl (lv_at hl 3 rfl) ?_
    refine lv_iload_n hx hb dX12_wrecks_19 rfl (lv_at hl 4 rfl) ?_
    refine z_wV (As := [zi k, zi la, zi pl]) (rest := [zl v]) (wc := [(m0, .inr (11, [.ref m_read, zi rl, zi rp, .ref m_gut, zi gl, zi gp, zi gx, zi gy, .ref m_text, zi tn, zi fn, .ref m_boat, .ref m_coins, zi w1, zi x1, zi z1, .ref m_rest, .ref m_ends, zl cr, .ref m_chan, .ref m_spl, zi fs, zi rn, .ref m_rf, .ref m_rr, .ref m_ik, .ref m_km, .ref m_kb, .ref m_kc, .ref m_kf, .ref m_kr])), (m_gut, .inl (y 0, 36, .inl (cI MG))), (m_boat, .inl (y 0, 42, .inl (cI MB))), (m_coins, .inl (y 0, 144, .inl (cI MC))), (m_ends, .inl (y 1, 12, .inr (.inl (cL E))))]) (wrest := []) hC (c_X12_endedOf l D y m0 m_read rl rp m_gut gl gp gx gy m_text tn fn m_boat m_coins w1 x1 z1 m_rest m_ends cr m_chan m_spl fs rn m_rf m_rr m_ik m_km m_kb m_kc m_kf m_kr MG MB MC E k la pl (by first | assumption | omega) (by omega) (by first | assumption | omega) (by first | assumption | omega) (by first | assumption | omega) _) (cwV 3 hts gX12_wrecks_X12_endedOf rfl rfl rfl (by decide +kernel) ⟨Nat.le_of_ble_eq_true rfl, Nat.le_of_ble_eq_true rfl⟩) hG hP hD hS hA [0, 1, 2, 3, 4] [] rfl rfl (by decide) (by decide) (by decide) va_P_nil ro_nil 0 rfl rfl rfl hl.1 rfl (Nat.le_of_ble_eq_true rfl) dX12_wrecks_20 ⟨Nat.le_of_ble_eq_true rfl, Nat.le_of_ble_eq_true rfl⟩ (fun u9 H locs hw_6 hP hD hS => ?_)
    obtain ⟨vw2, vm2, vn2, vc2, ME2⟩ := u9
    have hw_6 : True := hw_6
    have hP : va_P D vwCl [(m0, .inr (11, [.ref m_read, zi rl, zi rp, .ref m_gut, zi gl, zi gp, zi gx, zi gy, .ref m_text, zi tn, zi fn, .ref m_boat, .ref m_coins, zi vw2, zi vm2, zi vn2, .ref m_rest, .ref m_ends, zl vc2, .ref m_chan, .ref m_spl, zi fs, zi rn, .ref m_rf, .ref m_rr, .ref m_ik, .ref m_km, .ref m_kb, .ref m_kc, .ref m_kf, .ref m_kr])), (m_gut, .inl (y 0, 36, .inl (cI MG))), (m_boat, .inl (y 0, 42, .inl (cI MB))), (m_coins, .inl (y 0, 144, .inl (cI MC))), (m_ends, .inl (y 1, 12, .inr (.inl (cL ME2))))] H := hP
    have hD : va_D A [(m0, .inr (11, [.ref m_read, zi rl, zi rp, .ref m_gut, zi gl, zi gp, zi gx, zi gy, .ref m_text, zi tn, zi fn, .ref m_boat, .ref m_coins, zi vw2, zi vm2, zi vn2, .ref m_rest, .ref m_ends, zl vc2, .ref m_chan, .ref m_spl, zi fs, zi rn, .ref m_rf, .ref m_rr, .ref m_ik, .ref m_km, .ref m_kb, .ref m_kc, .ref m_kf, .ref m_kr])), (m_gut, .inl (y 0, 36, .inl (cI MG))), (m_boat, .inl (y 0, 42, .inl (cI MB))), (m_coins, .inl (y 0, 144, .inl (cI MC))), (m_ends, .inl (y 1, 12, .inr (.inl (cL ME2))))] := hD
    refine z_ladd hx hb dX12_wrecks_23 ?_
    refine lv_lstore_n (lv' := [(3, zl (v + (enF (acx gl gp gx gy MG la (mLife MB MC k)) pl * 10 ^ (gp - (pl + 1)).toNat))), (5, zi k), (0, .ref m0), (1, zi la), (2, zi pl)]) hx hb dX12_wrecks_24 rfl hl (by decide) rfl (fun ls hl => ?_)
    refine z_iinc (k := 1) (lv' := [(5, zi (k + 1)), (3, zl (v + (enF (acx gl gp gx gy MG la (mLife MB MC k)) pl * 10 ^ (gp - (pl + 1)).toNat))), (0, .ref m0), (1, zi la), (2, zi pl)]) hx hb dX12_wrecks_25 hl rfl (by decide) rfl (fun ls hl => ?_)
    refine lv_goto (tgt := 5) hx hb dX12_wrecks_28 (by decide) ?_
    exact ih5 (v + (enF (acx gl gp gx gy MG la (mLife MB MC k)) pl * 10 ^ (gp - (pl + 1)).toNat), k + 1, vw2, vm2, vn2, vc2, ME2) _ _ _ (by first | (dsimp only; omega) | omega) ⟨⟨by omega, by rw [sgI_s _ hi5.1.1, Int.add_mul, ← hi5.2]⟩, lv_sub hl [0, 1, 2, 3, 4] rfl, hP.sub [0, 1, 2, 3, 4] rfl, hD.sub [0, 1, 2, 3, 4] (by decide) rfl, hS⟩
set_option maxHeartbeats 8000000 in
set_option maxRecDepth 100000 in
theorem c_X12_whose_no (l : Launch) (D : va_G) (y : Nat → ClassId) (m0 : Nat) (m_read : Nat) (rl : Int) (rp : Int) (m_gut : Nat) (gl : Int) (gp : Int) (gx : Int) (gy : Int) (m_text : Nat) (tn : Int) (fn : Int) (m_boat : Nat) (m_coins : Nat) (vw : Int) (vm : Int) (vn : Int) (m_rest : Nat) (m_ends : Nat) (vc : Int) (m_chan : Nat) (m_spl : Nat) (fs : Int) (rn : Int) (m_rf : Nat) (m_rr : Nat) (m_ik : Nat) (m_km : Nat) (m_kb : Nat) (m_kc : Nat) (m_kf : Nat) (m_kr : Nat) (la : Int) (pl : Int) (bq : Int) (uq : Int) (hbq : rI bq ∧ 0 ≤ fn ∧ fn ≤ 6) (hla : rI la ∧ 1 ≤ gl ∧ gl ≤ 3) (hpl : rI pl ∧ 1 ≤ gp ∧ gp ≤ 12) (hq : ¬ (0 ≤ bq ∧ bq < fn) ∨ ¬ (0 ≤ la ∧ la < gl) ∨ ¬ (0 ≤ pl ∧ pl < gp)) : Met l yX12_whose wsX12_whose ({ frames := 2, cells := 0, slots := 0, locals := 46 } : Room) (pPc D y [(m0, .inr (11, [.ref m_read, zi rl, zi rp, .ref m_gut, zi gl, zi gp, zi gx, zi gy, .ref m_text, zi tn, zi fn, .ref m_boat, .ref m_coins, zi vw, zi vm, zi vn, .ref m_rest, .ref m_ends, zl vc, .ref m_chan, .ref m_spl, zi fs, zi rn, .ref m_rf, .ref m_rr, .ref m_ik, .ref m_km, .ref m_kb, .ref m_kc, .ref m_kf, .ref m_kr]))] [.ref m0, zi la, zi pl, zi bq, zi uq]) (qV (zl (-1))) 0 0 (fun _ => False) := by
  refine P_of (own := RX12) (cc := cX12_whose) (maxL := 7) (ret := some .long) (by decide) rfl rfl (Nat.le_of_ble_eq_true rfl) (fun p e s m below meth c ls hx hb hr hC hlocks hPr hG hl => ?_)
  have hC0 := hC
  obtain ⟨-, -, hml, hown, hts⟩ := hC0
  have hK := hG.1
  have k1 := hts (.constantLong RX12 151 (-1)) (List.mem_of_getElem? (i := 1) rfl)
  have hl : lv_has ls 7 [(0, .ref m0), (1, zi la), (2, zi pl), (3, zi bq), (4, zi uq)] := hl
  refine lv_aload_n hx hb dX12_whose_0 rfl (lv_at hl 0 rfl) ?_
  refine lv_iload_n hx hb dX12_whose_1 rfl (lv_at hl 1 rfl) ?_
  refine z_pV (As := [zi la]) (rest := []) hC (c_X12_isLane l D y m0 m_read rl rp m_gut gl gp gx gy m_text tn fn m_boat m_coins vw vm vn m_rest m_ends vc m_chan m_spl fs rn m_rf m_rr m_ik m_km m_kb m_kc m_kf m_kr la (by first | assumption | omega) (by first | assumption | omega)) (cwV 1 hts gX12_whose_X12_isLane rfl rfl rfl (by decide +kernel) ⟨Nat.le_of_ble_eq_true rfl, Nat.le_of_ble_eq_true rfl⟩) hG (hPr.sub (ws' := [(m0, .inr (11, [.ref m_read, zi rl, zi rp, .ref m_gut, zi gl, zi gp, zi gx, zi gy, .ref m_text, zi tn, zi fn, .ref m_boat, .ref m_coins, zi vw, zi vm, zi vn, .ref m_rest, .ref m_ends, zl vc, .ref m_chan, .ref m_spl, zi fs, zi rn, .ref m_rf, .ref m_rr, .ref m_ik, .ref m_km, .ref m_kb, .ref m_kc, .ref m_kf, .ref m_kr]))]) [0] rfl) 0 rfl rfl rfl hl.1 rfl (Nat.le_of_ble_eq_true rfl) dX12_whose_2 ⟨Nat.le_of_ble_eq_true rfl, Nat.le_of_ble_eq_true rfl⟩ ?_
  refine z_ifB_eq (tgt := 24) hx hb dX12_whose_5 (by decide) (fun c_5 => ?_) (fun c_5 => ?_)
  ·
    refine lv_ldc2 (v := iL (-1)) hx hb hown k1 dX12_whose_24 ?_
    exact z_lret0 hx hb hr hlocks (rfl) dX12_whose_27
  ·
    refine lv_aload_n hx hb dX12_whose_8 rfl (lv_at hl 0 rfl) ?_
    refine lv_iload_n hx hb dX12_whose_9 rfl (lv_at hl 2 rfl) ?_
    refine z_pV (As := [zi pl]) (rest := []) hC (c_X12_isPlace l D y m0 m_read rl rp m_gut gl gp gx gy m_text tn fn m_boat m_coins vw vm vn m_rest m_ends vc m_chan m_spl fs rn m_rf m_rr m_ik m_km m_kb m_kc m_kf m_kr pl (by first | assumption | omega) (by first | assumption | omega)) (cwV 1 hts gX12_whose_X12_isPlace rfl rfl rfl (by decide +kernel) ⟨Nat.le_of_ble_eq_true rfl, Nat.le_of_ble_eq_true rfl⟩) hG (hPr.sub (ws' := [(m0, .inr (11, [.ref m_read, zi rl, zi rp, .ref m_gut, zi gl, zi gp, zi gx, zi gy, .ref m_text, zi tn, zi fn, .ref m_boat, .ref m_coins, zi vw, zi vm, zi vn, .ref m_rest, .ref m_ends, zl vc, .ref m_chan, .ref m_spl, zi fs, zi rn, .ref m_rf, .ref m_rr, .ref m_ik, .ref m_km, .ref m_kb, .ref m_kc, .ref m_kf, .ref m_kr]))]) [0] rfl) 0 rfl rfl rfl hl.1 rfl (Nat.le_of_ble_eq_true rfl) dX12_whose_10 ⟨Nat.le_of_ble_eq_true rfl, Nat.le_of_ble_eq_true rfl⟩ ?_
    refine z_ifB_eq (tgt := 24) hx hb dX12_whose_13 (by decide) (fun c_13 => ?_) (fun c_13 => ?_)
    ·
      refine lv_ldc2 (v := iL (-1)) hx hb hown k1 dX12_whose_24 ?_
      exact z_lret0 hx hb hr hlocks (rfl) dX12_whose_27
    ·
      refine lv_aload_n hx hb dX12_whose_16 rfl (lv_at hl 0 rfl) ?_
      refine lv_iload_n hx hb dX12_whose_17 rfl (lv_at hl 3 rfl) ?_
      refine z_pV (As := [zi bq]) (rest := []) hC (c_X12_isBoat l D y m0 m_read rl rp m_gut gl gp gx gy m_text tn fn m_boat m_coins vw vm vn m_rest m_ends vc m_chan m_spl fs rn m_rf m_rr m_ik m_km m_kb m_kc m_kf m_kr bq (by first | assumption | omega) (by first | assumption | omega)) (cwV 1 hts gX12_whose_X12_isBoat rfl rfl rfl (by decide +kernel) ⟨Nat.le_of_ble_eq_true rfl, Nat.le_of_ble_eq_true rfl⟩) hG (hPr.sub (ws' := [(m0, .inr (11, [.ref m_read, zi rl, zi rp, .ref m_gut, zi gl, zi gp, zi gx, zi gy, .ref m_text, zi tn, zi fn, .ref m_boat, .ref m_coins, zi vw, zi vm, zi vn, .ref m_rest, .ref m_ends, zl vc, .ref m_chan, .ref m_spl, zi fs, zi rn, .ref m_rf, .ref m_rr, .ref m_ik, .ref m_km, .ref m_kb, .ref m_kc, .ref m_kf, .ref m_kr]))]) [0] rfl) 0 rfl rfl rfl hl.1 rfl (Nat.le_of_ble_eq_true rfl) dX12_whose_18 ⟨Nat.le_of_ble_eq_true rfl, Nat.le_of_ble_eq_true rfl⟩ ?_
      refine z_ifB_ne (tgt := 28) hx hb dX12_whose_21 (by decide) (fun c_21 => ?_) (fun c_21 => ?_)
      · exfalso; omega
      ·
        refine lv_ldc2 (v := iL (-1)) hx hb hown k1 dX12_whose_24 ?_
        exact z_lret0 hx hb hr hlocks (rfl) dX12_whose_27
set_option maxHeartbeats 8000000 in
set_option maxRecDepth 100000 in
theorem c_X12_whose (l : Launch) (D : va_G) (y : Nat → ClassId) (m0 : Nat) (m_read : Nat) (rl : Int) (rp : Int) (m_gut : Nat) (gl : Int) (gp : Int) (gx : Int) (gy : Int) (m_text : Nat) (tn : Int) (fn : Int) (m_boat : Nat) (m_coins : Nat) (vw : Int) (vm : Int) (vn : Int) (m_rest : Nat) (m_ends : Nat) (vc : Int) (m_chan : Nat) (m_spl : Nat) (fs : Int) (rn : Int) (m_rf : Nat) (m_rr : Nat) (m_ik : Nat) (m_km : Nat) (m_kb : Nat) (m_kc : Nat) (m_kf : Nat) (m_kr : Nat) (MG : Int → Int) (MB : Int → Int) (MC : Int → Int) (ME : Int → Int) (la : Int) (pl : Int) (bq : Int) (uq : Int) (hM : mbOK fn MB MC) (hbq : 0 ≤ bq ∧ bq < fn) (hg : gOK gl gp gx gy MG) (hla : 0 ≤ la ∧ la < gl) (hpl : 0 ≤ pl ∧ pl < gp) (huq : uq = 0 ∨ uq = 1) (sz : Nat) : Met l yX12_whose wsX12_whose ({ frames := 7, cells := 0, slots := 0, locals := 172 } : Room) (wPc D y [] [(m0, .inr (11, [.ref m_read, zi rl, zi rp, .ref m_gut, zi gl, zi gp, zi gx, zi gy, .ref m_text, zi tn, zi fn, .ref m_boat, .ref m_coins, zi vw, zi vm, zi vn, .ref m_rest, .ref m_ends, zl vc, .ref m_chan, .ref m_spl, zi fs, zi rn, .ref m_rf, .ref m_rr, .ref m_ik, .ref m_km, .ref m_kb, .ref m_kc, .ref m_kf, .ref m_kr])), (m_gut, .inl (y 0, 36, .inl (cI MG))), (m_boat, .inl (y 0, 42, .inl (cI MB))), (m_coins, .inl (y 0, 144, .inl (cI MC))), (m_ends, .inl (y 1, 12, .inr (.inl (cL ME))))] sz [.ref m0, zi la, zi pl, zi bq, zi uq]) (wQ D (fun (x9 : Int × Int × Int × Int × (Int → Int)) => match x9 with | (vw2, vm2, vn2, vc2, ME2) => some (zl (if sgI (fun b => enF (acx gl gp gx gy MG la (mLife MB MC b)) pl) fn = 0 then -3 else tellV (enF (acx gl gp gx gy MG la (mLife MB MC bq)) pl) (sgI (fun b => enF (acx gl gp gx gy MG la (mLife MB MC b)) pl) fn) uq))) (fun (x9 : Int × Int × Int × Int × (Int → Int)) => match x9 with | (vw2, vm2, vn2, vc2, ME2) => True) (fun (x9 : Int × Int × Int × Int × (Int → Int)) => match x9 with | (vw2, vm2, vn2, vc2, ME2) => [(m0, .inr (11, [.ref m_read, zi rl, zi rp, .ref m_gut, zi gl, zi gp, zi gx, zi gy, .ref m_text, zi tn, zi fn, .ref m_boat, .ref m_coins, zi vw2, zi vm2, zi vn2, .ref m_rest, .ref m_ends, zl vc2, .ref m_chan, .ref m_spl, zi fs, zi rn, .ref m_rf, .ref m_rr, .ref m_ik, .ref m_km, .ref m_kb, .ref m_kc, .ref m_kf, .ref m_kr])), (m_gut, .inl (y 0, 36, .inl (cI MG))), (m_boat, .inl (y 0, 42, .inl (cI MB))), (m_coins, .inl (y 0, 144, .inl (cI MC))), (m_ends, .inl (y 1, 12, .inr (.inl (cL ME2))))]) (va_A [(m0, .inr (11, [.ref m_read, zi rl, zi rp, .ref m_gut, zi gl, zi gp, zi gx, zi gy, .ref m_text, zi tn, zi fn, .ref m_boat, .ref m_coins, zi vw, zi vm, zi vn, .ref m_rest, .ref m_ends, zl vc, .ref m_chan, .ref m_spl, zi fs, zi rn, .ref m_rf, .ref m_rr, .ref m_ik, .ref m_km, .ref m_kb, .ref m_kc, .ref m_kf, .ref m_kr])), (m_gut, .inl (y 0, 36, .inl (cI MG))), (m_boat, .inl (y 0, 42, .inl (cI MB))), (m_coins, .inl (y 0, 144, .inl (cI MC))), (m_ends, .inl (y 1, 12, .inr (.inl (cL ME))))] sz)) 0 0 (va_A [(m0, .inr (11, [.ref m_read, zi rl, zi rp, .ref m_gut, zi gl, zi gp, zi gx, zi gy, .ref m_text, zi tn, zi fn, .ref m_boat, .ref m_coins, zi vw, zi vm, zi vn, .ref m_rest, .ref m_ends, zl vc, .ref m_chan, .ref m_spl, zi fs, zi rn, .ref m_rf, .ref m_rr, .ref m_ik, .ref m_km, .ref m_kb, .ref m_kc, .ref m_kf, .ref m_kr])), (m_gut, .inl (y 0, 36, .inl (cI MG))), (m_boat, .inl (y 0, 42, .inl (cI MB))), (m_coins, .inl (y 0, 144, .inl (cI MC))), (m_ends, .inl (y 1, 12, .inr (.inl (cL ME))))] sz) := by
  refine W_of (own := RX12) (cc := cX12_whose) (maxL := 7) (ret := some .long) (by decide) rfl rfl (Nat.le_of_ble_eq_true rfl) (fun p e s m below meth c ls A hx hb hr hC hlocks hin0 hR0 hN hP hD hA hG hl => ?_)
  have hC0 := hC
  obtain ⟨-, -, hml, hown, hts⟩ := hC0
  have hK := hG.1
  have hS : va_S A s.heap s.heap [] := va_S.rf
  have hPr := hR0
  have k2 := hts (.constantLong RX12 227 (-3)) (List.mem_of_getElem? (i := 2) rfl)
  have hl : lv_has ls 7 [(0, .ref m0), (1, zi la), (2, zi pl), (3, zi bq), (4, zi uq)] := hl
  have hB := hM.2 bq hbq.1 hbq.2
  obtain ⟨q1, q2, q3, q4, q5, q6, q7, q8, q9, qc⟩ := id hB
  have qf := hM.1
  obtain ⟨u1, u2, u3, u4, uk⟩ := id hg
  have ha2 : ∀ b, ∀ k, 0 ≤ acx gl gp gx gy MG la (mLife MB MC b) k ∧ acx gl gp gx gy MG la (mLife MB MC b) k ≤ 10 := fun b => acx_bd hg la (mLife MB MC b)
  have t1 := ten12 (r := gp.toNat) (by omega)
  have t0 := ten_p (gp - (pl + 1)).toNat
  have t5 : 0 ≤ sgI (fun b => enF (acx gl gp gx gy MG la (mLife MB MC b)) pl) fn ∧ sgI (fun b => enF (acx gl gp gx gy MG la (mLife MB MC b)) pl) fn ≤ 6 * 10 ^ (pl + 1).toNat := en_sum ha2 hpl.1 (by omega)
  have t4 := scale_bd t0 t5.1 t5.2 (show _ ≤ 6000000000000 by have := ten_split hpl.1 hpl.2; rw [Int.mul_assoc]; omega)
  have e1 := enF_bd (acx_bd hg la (mLife MB MC bq)) hpl.1
  have e2 := scale_bd t0 e1.1 e1.2 (Int.le_of_eq (ten_split hpl.1 hpl.2))
  have e3 := sc_0 (x := sgI (fun b => enF (acx gl gp gx gy MG la (mLife MB MC b)) pl) fn) t0
  refine lv_aload_n hx hb dX12_whose_0 rfl (lv_at hl 0 rfl) ?_
  refine lv_iload_n hx hb dX12_whose_1 rfl (lv_at hl 1 rfl) ?_
  refine z_pV (As := [zi la]) (rest := []) hC (c_X12_isLane l D y m0 m_read rl rp m_gut gl gp gx gy m_text tn fn m_boat m_coins vw vm vn m_rest m_ends vc m_chan m_spl fs rn m_rf m_rr m_ik m_km m_kb m_kc m_kf m_kr la (by first | assumption | omega) (by first | assumption | omega)) (cwV 1 hts gX12_whose_X12_isLane rfl rfl rfl (by decide +kernel) ⟨Nat.le_of_ble_eq_true rfl, Nat.le_of_ble_eq_true rfl⟩) hG (hP.sub (ws' := [(m0, .inr (11, [.ref m_read, zi rl, zi rp, .ref m_gut, zi gl, zi gp, zi gx, zi gy, .ref m_text, zi tn, zi fn, .ref m_boat, .ref m_coins, zi vw, zi vm, zi vn, .ref m_rest, .ref m_ends, zl vc, .ref m_chan, .ref m_spl, zi fs, zi rn, .ref m_rf, .ref m_rr, .ref m_ik, .ref m_km, .ref m_kb, .ref m_kc, .ref m_kf, .ref m_kr]))]) [0] rfl) 0 rfl rfl rfl hl.1 rfl (Nat.le_of_ble_eq_true rfl) dX12_whose_2 ⟨Nat.le_of_ble_eq_true rfl, Nat.le_of_ble_eq_true rfl⟩ ?_
  refine z_ifB_eq (tgt := 24) hx hb dX12_whose_5 (by decide) (fun c_5 => ?_) (fun c_5 => ?_)
  · exfalso; omega
  ·
    refine lv_aload_n hx hb dX12_whose_8 rfl (lv_at hl 0 rfl) ?_
    refine lv_iload_n hx hb dX12_whose_9 rfl (lv_at hl 2 rfl) ?_
    refine z_pV (As := [zi pl]) (rest := []) hC (c_X12_isPlace l D y m0 m_read rl rp m_gut gl gp gx gy m_text tn fn m_boat m_coins vw vm vn m_rest m_ends vc m_chan m_spl fs rn m_rf m_rr m_ik m_km m_kb m_kc m_kf m_kr pl (by first | assumption | omega) (by first | assumption | omega)) (cwV 1 hts gX12_whose_X12_isPlace rfl rfl rfl (by decide +kernel) ⟨Nat.le_of_ble_eq_true rfl, Nat.le_of_ble_eq_true rfl⟩) hG (hP.sub (ws' := [(m0, .inr (11, [.ref m_read, zi rl, zi rp, .ref m_gut, zi gl, zi gp, zi gx, zi gy, .ref m_text, zi tn, zi fn, .ref m_boat, .ref m_coins, zi vw, zi vm, zi vn, .ref m_rest, .ref m_ends, zl vc, .ref m_chan, .ref m_spl, zi fs, zi rn, .ref m_rf, .ref m_rr, .ref m_ik, .ref m_km, .ref m_kb, .ref m_kc, .ref m_kf, .ref m_kr]))]) [0] rfl) 0 rfl rfl rfl hl.1 rfl (Nat.le_of_ble_eq_true rfl) dX12_whose_10 ⟨Nat.le_of_ble_eq_true rfl, Nat.le_of_ble_eq_true rfl⟩ ?_
    refine z_ifB_eq (tgt := 24) hx hb dX12_whose_13 (by decide) (fun c_13 => ?_) (fun c_13 => ?_)
    · exfalso; omega
    ·
      refine lv_aload_n hx hb dX12_whose_16 rfl (lv_at hl 0 rfl) ?_
      refine lv_iload_n hx hb dX12_whose_17 rfl (lv_at hl 3 rfl) ?_
      refine z_pV (As := [zi bq]) (rest := []) hC (c_X12_isBoat l D y m0 m_read rl rp m_gut gl gp gx gy m_text tn fn m_boat m_coins vw vm vn m_rest m_ends vc m_chan m_spl fs rn m_rf m_rr m_ik m_km m_kb m_kc m_kf m_kr bq (by first | assumption | omega) (by first | assumption | omega)) (cwV 1 hts gX12_whose_X12_isBoat rfl rfl rfl (by decide +kernel) ⟨Nat.le_of_ble_eq_true rfl, Nat.le_of_ble_eq_true rfl⟩) hG (hP.sub (ws' := [(m0, .inr (11, [.ref m_read, zi rl, zi rp, .ref m_gut, zi gl, zi gp, zi gx, zi gy, .ref m_text, zi tn, zi fn, .ref m_boat, .ref m_coins, zi vw, zi vm, zi vn, .ref m_rest, .ref m_ends, zl vc, .ref m_chan, .ref m_spl, zi fs, zi rn, .ref m_rf, .ref m_rr, .ref m_ik, .ref m_km, .ref m_kb, .ref m_kc, .ref m_kf, .ref m_kr]))]) [0] rfl) 0 rfl rfl rfl hl.1 rfl (Nat.le_of_ble_eq_true rfl) dX12_whose_18 ⟨Nat.le_of_ble_eq_true rfl, Nat.le_of_ble_eq_true rfl⟩ ?_
      refine z_ifB_ne (tgt := 28) hx hb dX12_whose_21 (by decide) (fun c_21 => ?_) (fun c_21 => ?_)
      ·
        refine lv_aload_n hx hb dX12_whose_28 rfl (lv_at hl 0 rfl) ?_
        refine lv_iload_n hx hb dX12_whose_29 rfl (lv_at hl 1 rfl) ?_
        refine lv_iload_n hx hb dX12_whose_30 rfl (lv_at hl 2 rfl) ?_
        refine z_wV (As := [zi la, zi pl]) (rest := []) (wc := [(m0, .inr (11, [.ref m_read, zi rl, zi rp, .ref m_gut, zi gl, zi gp, zi gx, zi gy, .ref m_text, zi tn, zi fn, .ref m_boat, .ref m_coins, zi vw, zi vm, zi vn, .ref m_rest, .ref m_ends, zl vc, .ref m_chan, .ref m_spl, zi fs, zi rn, .ref m_rf, .ref m_rr, .ref m_ik, .ref m_km, .ref m_kb, .ref m_kc, .ref m_kf, .ref m_kr])), (m_gut, .inl (y 0, 36, .inl (cI MG))), (m_boat, .inl (y 0, 42, .inl (cI MB))), (m_coins, .inl (y 0, 144, .inl (cI MC))), (m_ends, .inl (y 1, 12, .inr (.inl (cL ME))))]) (wrest := []) hC (c_X12_wrecks l D y m0 m_read rl rp m_gut gl gp gx gy m_text tn fn m_boat m_coins vw vm vn m_rest m_ends vc m_chan m_spl fs rn m_rf m_rr m_ik m_km m_kb m_kc m_kf m_kr MG MB MC ME la pl (by first | assumption | omega) (by first | assumption | omega) (by first | assumption | omega) (by first | assumption | omega) _) (cwV 2 hts gX12_whose_X12_wrecks rfl rfl rfl (by decide +kernel) ⟨Nat.le_of_ble_eq_true rfl, Nat.le_of_ble_eq_true rfl⟩) hG hP hD hS hA [0, 1, 2, 3, 4] [] rfl rfl (by decide) (by decide) (by decide) va_P_nil ro_nil 0 rfl rfl rfl hl.1 rfl (Nat.le_of_ble_eq_true rfl) dX12_whose_31 ⟨Nat.le_of_ble_eq_true rfl, Nat.le_of_ble_eq_true rfl⟩ (fun u9 H locs hw_6 hP hD hS => ?_)
        obtain ⟨vw2_1, vm2_2, vn2_3, vc2_4, ME2_5⟩ := u9
        have hw_6 : True := hw_6
        have hP : va_P D vwCl [(m0, .inr (11, [.ref m_read, zi rl, zi rp, .ref m_gut, zi gl, zi gp, zi gx, zi gy, .ref m_text, zi tn, zi fn, .ref m_boat, .ref m_coins, zi vw2_1, zi vm2_2, zi vn2_3, .ref m_rest, .ref m_ends, zl vc2_4, .ref m_chan, .ref m_spl, zi fs, zi rn, .ref m_rf, .ref m_rr, .ref m_ik, .ref m_km, .ref m_kb, .ref m_kc, .ref m_kf, .ref m_kr])), (m_gut, .inl (y 0, 36, .inl (cI MG))), (m_boat, .inl (y 0, 42, .inl (cI MB))), (m_coins, .inl (y 0, 144, .inl (cI MC))), (m_ends, .inl (y 1, 12, .inr (.inl (cL ME2_5))))] H := hP
        have hD : va_D A [(m0, .inr (11, [.ref m_read, zi rl, zi rp, .ref m_gut, zi gl, zi gp, zi gx, zi gy, .ref m_text, zi tn, zi fn, .ref m_boat, .ref m_coins, zi vw2_1, zi vm2_2, zi vn2_3, .ref m_rest, .ref m_ends, zl vc2_4, .ref m_chan, .ref m_spl, zi fs, zi rn, .ref m_rf, .ref m_rr, .ref m_ik, .ref m_km, .ref m_kb, .ref m_kc, .ref m_kf, .ref m_kr])), (m_gut, .inl (y 0, 36, .inl (cI MG))), (m_boat, .inl (y 0, 42, .inl (cI MB))), (m_coins, .inl (y 0, 144, .inl (cI MC))), (m_ends, .inl (y 1, 12, .inr (.inl (cL ME2_5))))] := hD
        refine lv_lstore (lv' := [(5, zl (sgI (fun b => enF (acx gl gp gx gy MG la (mLife MB MC b)) pl) fn * 10 ^ (gp - (pl + 1)).toNat)), (0, .ref m0), (1, zi la), (2, zi pl), (3, zi bq), (4, zi uq)]) hx hb dX12_whose_34 hl (by decide) rfl (fun ls hl => ?_)
        refine lv_lload hx hb dX12_whose_36 (lv_at hl 0 rfl) ?_
        refine lv_lconst (v := iL 0) hx hb dX12_whose_38 rfl ?_
        refine z_lcmp_ne (tgt := 49) hx hb (by omega) (by omega) dX12_whose_39 dX12_whose_40 (by decide) (fun c_39 => ?_) (fun c_39 => ?_)
        ·
          refine lv_aload_n hx hb dX12_whose_49 rfl (lv_at hl 1 rfl) ?_
          refine lv_iload_n hx hb dX12_whose_50 rfl (lv_at hl 4 rfl) ?_
          refine lv_iload_n hx hb dX12_whose_51 rfl (lv_at hl 2 rfl) ?_
          refine lv_iload_n hx hb dX12_whose_52 rfl (lv_at hl 3 rfl) ?_
          refine z_wV (As := [zi bq, zi la, zi pl]) (rest := []) (wc := [(m0, .inr (11, [.ref m_read, zi rl, zi rp, .ref m_gut, zi gl, zi gp, zi gx, zi gy, .ref m_text, zi tn, zi fn, .ref m_boat, .ref m_coins, zi vw2_1, zi vm2_2, zi vn2_3, .ref m_rest, .ref m_ends, zl vc2_4, .ref m_chan, .ref m_spl, zi fs, zi rn, .ref m_rf, .ref m_rr, .ref m_ik, .ref m_km, .ref m_kb, .ref m_kc, .ref m_kf, .ref m_kr])), (m_gut, .inl (y 0, 36, .inl (cI MG))), (m_boat, .inl (y 0, 42, .inl (cI MB))), (m_coins, .inl (y 0, 144, .inl (cI MC))), (m_ends, .inl (y 1, 12, .inr (.inl (cL ME2_5))))]) (wrest := []) hC (c_X12_endedOf l D y m0 m_read rl rp m_gut gl gp gx gy m_text tn fn m_boat m_coins vw2_1 vm2_2 vn2_3 m_rest m_ends vc2_4 m_chan m_spl fs rn m_rf m_rr m_ik m_km m_kb m_kc m_kf m_kr MG MB MC ME2_5 bq la pl (by first | assumption | omega) (by first | assumption | omega) (by first | assumption | omega) (by first | assumption | omega) (by first | assumption | omega) _) (cwV 3 hts gX12_whose_X12_endedOf rfl rfl rfl (by decide +kernel) ⟨Nat.le_of_ble_eq_true rfl, Nat.le_of_ble_eq_true rfl⟩) hG hP hD hS hA [0, 1, 2, 3, 4] [] rfl rfl (by decide) (by decide) (by decide) va_P_nil ro_nil 0 rfl rfl rfl hl.1 rfl (Nat.le_of_ble_eq_true rfl) dX12_whose_53 ⟨Nat.le_of_ble_eq_true rfl, Nat.le_of_ble_eq_true rfl⟩ (fun u9 H locs hw_12 hP hD hS => ?_)
          obtain ⟨vw2_7, vm2_8, vn2_9, vc2_10, ME2_11⟩ := u9
          have hw_12 : True := hw_12
          have hP : va_P D vwCl [(m0, .inr (11, [.ref m_read, zi rl, zi rp, .ref m_gut, zi gl, zi gp, zi gx, zi gy, .ref m_text, zi tn, zi fn, .ref m_boat, .ref m_coins, zi vw2_7, zi vm2_8, zi vn2_9, .ref m_rest, .ref m_ends, zl vc2_10, .ref m_chan, .ref m_spl, zi fs, zi rn, .ref m_rf, .ref m_rr, .ref m_ik, .ref m_km, .ref m_kb, .ref m_kc, .ref m_kf, .ref m_kr])), (m_gut, .inl (y 0, 36, .inl (cI MG))), (m_boat, .inl (y 0, 42, .inl (cI MB))), (m_coins, .inl (y 0, 144, .inl (cI MC))), (m_ends, .inl (y 1, 12, .inr (.inl (cL ME2_11))))] H := hP
          have hD : va_D A [(m0, .inr (11, [.ref m_read, zi rl, zi rp, .ref m_gut, zi gl, zi gp, zi gx, zi gy, .ref m_text, zi tn, zi fn, .ref m_boat, .ref m_coins, zi vw2_7, zi vm2_8, zi vn2_9, .ref m_rest, .ref m_ends, zl vc2_10, .ref m_chan, .ref m_spl, zi fs, zi rn, .ref m_rf, .ref m_rr, .ref m_ik, .ref m_km, .ref m_kb, .ref m_kc, .ref m_kf, .ref m_kr])), (m_gut, .inl (y 0, 36, .inl (cI MG))), (m_boat, .inl (y 0, 42, .inl (cI MB))), (m_coins, .inl (y 0, 144, .inl (cI MC))), (m_ends, .inl (y 1, 12, .inr (.inl (cL ME2_11))))] := hD
          refine lv_lload hx hb dX12_whose_56 (lv_at hl 0 rfl) ?_
          refine lv_iload hx hb dX12_whose_58 (lv_at hl 5 rfl) ?_
          refine z_pS (As := [zl (enF (acx gl gp gx gy MG la (mLife MB MC bq)) pl * 10 ^ (gp - (pl + 1)).toNat), zl (sgI (fun b => enF (acx gl gp gx gy MG la (mLife MB MC b)) pl) fn * 10 ^ (gp - (pl + 1)).toNat), zi uq]) (rest := []) hC (c_X12_part l D y (enF (acx gl gp gx gy MG la (mLife MB MC bq)) pl * 10 ^ (gp - (pl + 1)).toNat) (sgI (fun b => enF (acx gl gp gx gy MG la (mLife MB MC b)) pl) fn * 10 ^ (gp - (pl + 1)).toNat) uq ⟨⟨e2.1, by omega⟩, by omega, by omega⟩ (by first | assumption | omega)) (va_cwS 3 hts gX12_whose_X12_part rfl rfl rfl (by decide +kernel) ⟨Nat.le_of_ble_eq_true rfl, Nat.le_of_ble_eq_true rfl⟩) hG va_P_nil rfl hl.1 rfl (Nat.le_of_ble_eq_true rfl) dX12_whose_60 ⟨Nat.le_of_ble_eq_true rfl, Nat.le_of_ble_eq_true rfl⟩ ?_
          exact z_lretW hx hb hr hlocks (vw2_7, vm2_8, vn2_9, vc2_10, ME2_11) (by first | exact congrArg (fun z => some (zl z)) (if_pos (by omega)) | exact congrArg (fun z => some (zl z)) ((if_neg (by omega)).trans (tell_sc e1.1 (by omega) t0).symm)) (trivial) (hP.sub [0, 1, 2, 3, 4] rfl) (hD.sub [0, 1, 2, 3, 4] (by decide) rfl) hS dX12_whose_63
        ·
          refine lv_ldc2 (v := iL (-3)) hx hb hown k2 dX12_whose_43 ?_
          refine lv_goto (tgt := 63) hx hb dX12_whose_46 (by decide) ?_
          exact z_lretW hx hb hr hlocks (vw2_1, vm2_2, vn2_3, vc2_4, ME2_5) (by first | exact congrArg (fun z => some (zl z)) (if_pos (by omega)) | exact congrArg (fun z => some (zl z)) ((if_neg (by omega)).trans (tell_sc e1.1 (by omega) t0).symm)) (trivial) (hP.sub [0, 1, 2, 3, 4] rfl) (hD.sub [0, 1, 2, 3, 4] (by decide) rfl) hS dX12_whose_63
      · exfalso; omega
set_option maxHeartbeats 8000000 in
set_option maxRecDepth 100000 in
theorem c_X12_likeliest_no (l : Launch) (D : va_G) (y : Nat → ClassId) (m0 : Nat) (m_read : Nat) (rl : Int) (rp : Int) (m_gut : Nat) (gl : Int) (gp : Int) (gx : Int) (gy : Int) (m_text : Nat) (tn : Int) (fn : Int) (m_boat : Nat) (m_coins : Nat) (vw : Int) (vm : Int) (vn : Int) (m_rest : Nat) (m_ends : Nat) (vc : Int) (m_chan : Nat) (m_spl : Nat) (fs : Int) (rn : Int) (m_rf : Nat) (m_rr : Nat) (m_ik : Nat) (m_km : Nat) (m_kb : Nat) (m_kc : Nat) (m_kf : Nat) (m_kr : Nat) (la : Int) (pl : Int) (hla : rI la ∧ 1 ≤ gl ∧ gl ≤ 3) (hpl : rI pl ∧ 1 ≤ gp ∧ gp ≤ 12) (hq : ¬ (0 ≤ la ∧ la < gl) ∨ ¬ (0 ≤ pl ∧ pl < gp)) : Met l yX12_likeliest wsX12_likeliest ({ frames := 2, cells := 0, slots := 0, locals := 46 } : Room) (pPc D y [(m0, .inr (11, [.ref m_read, zi rl, zi rp, .ref m_gut, zi gl, zi gp, zi gx, zi gy, .ref m_text, zi tn, zi fn, .ref m_boat, .ref m_coins, zi vw, zi vm, zi vn, .ref m_rest, .ref m_ends, zl vc, .ref m_chan, .ref m_spl, zi fs, zi rn, .ref m_rf, .ref m_rr, .ref m_ik, .ref m_km, .ref m_kb, .ref m_kc, .ref m_kf, .ref m_kr]))] [.ref m0, zi la, zi pl]) (qV (zi (-1))) 0 0 (fun _ => False) := by
  refine P_of (own := RX12) (cc := cX12_likeliest) (maxL := 5) (ret := some .int) (by decide) rfl rfl (Nat.le_of_ble_eq_true rfl) (fun p e s m below meth c ls hx hb hr hC hlocks hPr hG hl => ?_)
  have hC0 := hC
  obtain ⟨-, -, hml, hown, hts⟩ := hC0
  have hK := hG.1
  have hl : lv_has ls 5 [(0, .ref m0), (1, zi la), (2, zi pl)] := hl
  refine lv_aload_n hx hb dX12_likeliest_0 rfl (lv_at hl 0 rfl) ?_
  refine lv_iload_n hx hb dX12_likeliest_1 rfl (lv_at hl 1 rfl) ?_
  refine z_pV (As := [zi la]) (rest := []) hC (c_X12_isLane l D y m0 m_read rl rp m_gut gl gp gx gy m_text tn fn m_boat m_coins vw vm vn m_rest m_ends vc m_chan m_spl fs rn m_rf m_rr m_ik m_km m_kb m_kc m_kf m_kr la (by first | assumption | omega) (by first | assumption | omega)) (cwV 1 hts gX12_likeliest_X12_isLane rfl rfl rfl (by decide +kernel) ⟨Nat.le_of_ble_eq_true rfl, Nat.le_of_ble_eq_true rfl⟩) hG (hPr.sub (ws' := [(m0, .inr (11, [.ref m_read, zi rl, zi rp, .ref m_gut, zi gl, zi gp, zi gx, zi gy, .ref m_text, zi tn, zi fn, .ref m_boat, .ref m_coins, zi vw, zi vm, zi vn, .ref m_rest, .ref m_ends, zl vc, .ref m_chan, .ref m_spl, zi fs, zi rn, .ref m_rf, .ref m_rr, .ref m_ik, .ref m_km, .ref m_kb, .ref m_kc, .ref m_kf, .ref m_kr]))]) [0] rfl) 0 rfl rfl rfl hl.1 rfl (Nat.le_of_ble_eq_true rfl) dX12_likeliest_2 ⟨Nat.le_of_ble_eq_true rfl, Nat.le_of_ble_eq_true rfl⟩ ?_
  refine z_ifB_eq (tgt := 16) hx hb dX12_likeliest_5 (by decide) (fun c_5 => ?_) (fun c_5 => ?_)
  ·
    refine z_iconst hx hb dX12_likeliest_16 ?_
    exact z_iret0 hx hb hr hlocks (rfl) dX12_likeliest_17
  ·
    refine lv_aload_n hx hb dX12_likeliest_8 rfl (lv_at hl 0 rfl) ?_
    refine lv_iload_n hx hb dX12_likeliest_9 rfl (lv_at hl 2 rfl) ?_
    refine z_pV (As := [zi pl]) (rest := []) hC (c_X12_isPlace l D y m0 m_read rl rp m_gut gl gp gx gy m_text tn fn m_boat m_coins vw vm vn m_rest m_ends vc m_chan m_spl fs rn m_rf m_rr m_ik m_km m_kb m_kc m_kf m_kr pl (by first | assumption | omega) (by first | assumption | omega)) (cwV 1 hts gX12_likeliest_X12_isPlace rfl rfl rfl (by decide +kernel) ⟨Nat.le_of_ble_eq_true rfl, Nat.le_of_ble_eq_true rfl⟩) hG (hPr.sub (ws' := [(m0, .inr (11, [.ref m_read, zi rl, zi rp, .ref m_gut, zi gl, zi gp, zi gx, zi gy, .ref m_text, zi tn, zi fn, .ref m_boat, .ref m_coins, zi vw, zi vm, zi vn, .ref m_rest, .ref m_ends, zl vc, .ref m_chan, .ref m_spl, zi fs, zi rn, .ref m_rf, .ref m_rr, .ref m_ik, .ref m_km, .ref m_kb, .ref m_kc, .ref m_kf, .ref m_kr]))]) [0] rfl) 0 rfl rfl rfl hl.1 rfl (Nat.le_of_ble_eq_true rfl) dX12_likeliest_10 ⟨Nat.le_of_ble_eq_true rfl, Nat.le_of_ble_eq_true rfl⟩ ?_
    refine z_ifB_ne (tgt := 18) hx hb dX12_likeliest_13 (by decide) (fun c_13 => ?_) (fun c_13 => ?_)
    · exfalso; omega
    ·
      refine z_iconst hx hb dX12_likeliest_16 ?_
      exact z_iret0 hx hb hr hlocks (rfl) dX12_likeliest_17
set_option maxHeartbeats 8000000 in
set_option maxRecDepth 100000 in
theorem c_X12_likeliest (l : Launch) (D : va_G) (y : Nat → ClassId) (m0 : Nat) (m_read : Nat) (rl : Int) (rp : Int) (m_gut : Nat) (gl : Int) (gp : Int) (gx : Int) (gy : Int) (m_text : Nat) (tn : Int) (fn : Int) (m_boat : Nat) (m_coins : Nat) (vw : Int) (vm : Int) (vn : Int) (m_rest : Nat) (m_ends : Nat) (vc : Int) (m_chan : Nat) (m_spl : Nat) (fs : Int) (rn : Int) (m_rf : Nat) (m_rr : Nat) (m_ik : Nat) (m_km : Nat) (m_kb : Nat) (m_kc : Nat) (m_kf : Nat) (m_kr : Nat) (MG : Int → Int) (MB : Int → Int) (MC : Int → Int) (ME : Int → Int) (la : Int) (pl : Int) (hM : mbOK fn MB MC) (hg : gOK gl gp gx gy MG) (hla : 0 ≤ la ∧ la < gl) (hpl : 0 ≤ pl ∧ pl < gp) (sz : Nat) : Met l yX12_likeliest wsX12_likeliest ({ frames := 7, cells := 0, slots := 0, locals := 172 } : Room) (wPc D y [] [(m0, .inr (11, [.ref m_read, zi rl, zi rp, .ref m_gut, zi gl, zi gp, zi gx, zi gy, .ref m_text, zi tn, zi fn, .ref m_boat, .ref m_coins, zi vw, zi vm, zi vn, .ref m_rest, .ref m_ends, zl vc, .ref m_chan, .ref m_spl, zi fs, zi rn, .ref m_rf, .ref m_rr, .ref m_ik, .ref m_km, .ref m_kb, .ref m_kc, .ref m_kf, .ref m_kr])), (m_gut, .inl (y 0, 36, .inl (cI MG))), (m_boat, .inl (y 0, 42, .inl (cI MB))), (m_coins, .inl (y 0, 144, .inl (cI MC))), (m_ends, .inl (y 1, 12, .inr (.inl (cL ME))))] sz [.ref m0, zi la, zi pl]) (wQ D (fun (x9 : Int × Int × Int × Int × (Int → Int)) => match x9 with | (vw2, vm2, vn2, vc2, ME2) => some (zi (if sgI (fun b => enF (acx gl gp gx gy MG la (mLife MB MC b)) pl) fn = 0 then -3 else bstF (fun b => enF (acx gl gp gx gy MG la (mLife MB MC b)) pl) (fn - 1).toNat))) (fun (x9 : Int × Int × Int × Int × (Int → Int)) => match x9 with | (vw2, vm2, vn2, vc2, ME2) => True) (fun (x9 : Int × Int × Int × Int × (Int → Int)) => match x9 with | (vw2, vm2, vn2, vc2, ME2) => [(m0, .inr (11, [.ref m_read, zi rl, zi rp, .ref m_gut, zi gl, zi gp, zi gx, zi gy, .ref m_text, zi tn, zi fn, .ref m_boat, .ref m_coins, zi vw2, zi vm2, zi vn2, .ref m_rest, .ref m_ends, zl vc2, .ref m_chan, .ref m_spl, zi fs, zi rn, .ref m_rf, .ref m_rr, .ref m_ik, .ref m_km, .ref m_kb, .ref m_kc, .ref m_kf, .ref m_kr])), (m_gut, .inl (y 0, 36, .inl (cI MG))), (m_boat, .inl (y 0, 42, .inl (cI MB))), (m_coins, .inl (y 0, 144, .inl (cI MC))), (m_ends, .inl (y 1, 12, .inr (.inl (cL ME2))))]) (va_A [(m0, .inr (11, [.ref m_read, zi rl, zi rp, .ref m_gut, zi gl, zi gp, zi gx, zi gy, .ref m_text, zi tn, zi fn, .ref m_boat, .ref m_coins, zi vw, zi vm, zi vn, .ref m_rest, .ref m_ends, zl vc, .ref m_chan, .ref m_spl, zi fs, zi rn, .ref m_rf, .ref m_rr, .ref m_ik, .ref m_km, .ref m_kb, .ref m_kc, .ref m_kf, .ref m_kr])), (m_gut, .inl (y 0, 36, .inl (cI MG))), (m_boat, .inl (y 0, 42, .inl (cI MB))), (m_coins, .inl (y 0, 144, .inl (cI MC))), (m_ends, .inl (y 1, 12, .inr (.inl (cL ME))))] sz)) 0 0 (va_A [(m0, .inr (11, [.ref m_read, zi rl, zi rp, .ref m_gut, zi gl, zi gp, zi gx, zi gy, .ref m_text, zi tn, zi fn, .ref m_boat, .ref m_coins, zi vw, zi vm, zi vn, .ref m_rest, .ref m_ends, zl vc, .ref m_chan, .ref m_spl, zi fs, zi rn, .ref m_rf, .ref m_rr, .ref m_ik, .ref m_km, .ref m_kb, .ref m_kc, .ref m_kf, .ref m_kr])), (m_gut, .inl (y 0, 36, .inl (cI MG))), (m_boat, .inl (y 0, 42, .inl (cI MB))), (m_coins, .inl (y 0, 144, .inl (cI MC))), (m_ends, .inl (y 1, 12, .inr (.inl (cL ME))))] sz) := by
  refine W_of (own := RX12) (cc := cX12_likeliest) (maxL := 5) (ret := some .int) (by decide) rfl rfl (Nat.le_of_ble_eq_true rfl) (fun p e s m below meth c ls A hx hb hr hC hlocks hin0 hR0 hN hP hD hA hG hl => ?_)
  have hC0 := hC
  obtain ⟨-, -, hml, hown, hts⟩ := hC0
  have hK := hG.1
  have hS : va_S A s.heap s.heap [] := va_S.rf
  have hPr := hR0
  have hinX12 : ∀ w ∈ wsX120, w ∈ wsX12_likeliest := fun _ h => List.mem_cons_of_mem _ (List.mem_append_right _ h)
  have k1 := hts (.fieldLink RX12 114 "BoatsOfPaperModel" "boats" "I") (List.mem_of_getElem? (i := 1) rfl)
  have hl : lv_has ls 5 [(0, .ref m0), (1, zi la), (2, zi pl)] := hl
  have qf := hM.1
  obtain ⟨u1, u2, u3, u4, uk⟩ := id hg
  have ha2 : ∀ b, ∀ k, 0 ≤ acx gl gp gx gy MG la (mLife MB MC b) k ∧ acx gl gp gx gy MG la (mLife MB MC b) k ≤ 10 := fun b => acx_bd hg la (mLife MB MC b)
  have t1 := ten12 (r := gp.toNat) (by omega)
  have t0 := ten_p (gp - (pl + 1)).toNat
  have t5 : 0 ≤ sgI (fun b => enF (acx gl gp gx gy MG la (mLife MB MC b)) pl) fn ∧ sgI (fun b => enF (acx gl gp gx gy MG la (mLife MB MC b)) pl) fn ≤ 6 * 10 ^ (pl + 1).toNat := en_sum ha2 hpl.1 (by omega)
  have t4 := scale_bd t0 t5.1 t5.2 (show _ ≤ 6000000000000 by have := ten_split hpl.1 hpl.2; rw [Int.mul_assoc]; omega)
  have e3 := sc_0 (x := sgI (fun b => enF (acx gl gp gx gy MG la (mLife MB MC b)) pl) fn) t0
  refine lv_aload_n hx hb dX12_likeliest_0 rfl (lv_at hl 0 rfl) ?_
  refine lv_iload_n hx hb dX12_likeliest_1 rfl (lv_at hl 1 rfl) ?_
  refine z_pV (As := [zi la]) (rest := []) hC (c_X12_isLane l D y m0 m_read rl rp m_gut gl gp gx gy m_text tn fn m_boat m_coins vw vm vn m_rest m_ends vc m_chan m_spl fs rn m_rf m_rr m_ik m_km m_kb m_kc m_kf m_kr la (by first | assumption | omega) (by first | assumption | omega)) (cwV 1 hts gX12_likeliest_X12_isLane rfl rfl rfl (by decide +kernel) ⟨Nat.le_of_ble_eq_true rfl, Nat.le_of_ble_eq_true rfl⟩) hG (hP.sub (ws' := [(m0, .inr (11, [.ref m_read, zi rl, zi rp, .ref m_gut, zi gl, zi gp, zi gx, zi gy, .ref m_text, zi tn, zi fn, .ref m_boat, .ref m_coins, zi vw, zi vm, zi vn, .ref m_rest, .ref m_ends, zl vc, .ref m_chan, .ref m_spl, zi fs, zi rn, .ref m_rf, .ref m_rr, .ref m_ik, .ref m_km, .ref m_kb, .ref m_kc, .ref m_kf, .ref m_kr]))]) [0] rfl) 0 rfl rfl rfl hl.1 rfl (Nat.le_of_ble_eq_true rfl) dX12_likeliest_2 ⟨Nat.le_of_ble_eq_true rfl, Nat.le_of_ble_eq_true rfl⟩ ?_
  refine z_ifB_eq (tgt := 16) hx hb dX12_likeliest_5 (by decide) (fun c_5 => ?_) (fun c_5 => ?_)
  · exfalso; omega
  ·
    refine lv_aload_n hx hb dX12_likeliest_8 rfl (lv_at hl 0 rfl) ?_
    refine lv_iload_n hx hb dX12_likeliest_9 rfl (lv_at hl 2 rfl) ?_
    refine z_pV (As := [zi pl]) (rest := []) hC (c_X12_isPlace l D y m0 m_read rl rp m_gut gl gp gx gy m_text tn fn m_boat m_coins vw vm vn m_rest m_ends vc m_chan m_spl fs rn m_rf m_rr m_ik m_km m_kb m_kc m_kf m_kr pl (by first | assumption | omega) (by first | assumption | omega)) (cwV 1 hts gX12_likeliest_X12_isPlace rfl rfl rfl (by decide +kernel) ⟨Nat.le_of_ble_eq_true rfl, Nat.le_of_ble_eq_true rfl⟩) hG (hP.sub (ws' := [(m0, .inr (11, [.ref m_read, zi rl, zi rp, .ref m_gut, zi gl, zi gp, zi gx, zi gy, .ref m_text, zi tn, zi fn, .ref m_boat, .ref m_coins, zi vw, zi vm, zi vn, .ref m_rest, .ref m_ends, zl vc, .ref m_chan, .ref m_spl, zi fs, zi rn, .ref m_rf, .ref m_rr, .ref m_ik, .ref m_km, .ref m_kb, .ref m_kc, .ref m_kf, .ref m_kr]))]) [0] rfl) 0 rfl rfl rfl hl.1 rfl (Nat.le_of_ble_eq_true rfl) dX12_likeliest_10 ⟨Nat.le_of_ble_eq_true rfl, Nat.le_of_ble_eq_true rfl⟩ ?_
    refine z_ifB_ne (tgt := 18) hx hb dX12_likeliest_13 (by decide) (fun c_13 => ?_) (fun c_13 => ?_)
    ·
      refine lv_aload_n hx hb dX12_likeliest_18 rfl (lv_at hl 0 rfl) ?_
      refine lv_iload_n hx hb dX12_likeliest_19 rfl (lv_at hl 1 rfl) ?_
      refine lv_iload_n hx hb dX12_likeliest_20 rfl (lv_at hl 2 rfl) ?_
      refine z_wV (As := [zi la, zi pl]) (rest := []) (wc := [(m0, .inr (11, [.ref m_read, zi rl, zi rp, .ref m_gut, zi gl, zi gp, zi gx, zi gy, .ref m_text, zi tn, zi fn, .ref m_boat, .ref m_coins, zi vw, zi vm, zi vn, .ref m_rest, .ref m_ends, zl vc, .ref m_chan, .ref m_spl, zi fs, zi rn, .ref m_rf, .ref m_rr, .ref m_ik, .ref m_km, .ref m_kb, .ref m_kc, .ref m_kf, .ref m_kr])), (m_gut, .inl (y 0, 36, .inl (cI MG))), (m_boat, .inl (y 0, 42, .inl (cI MB))), (m_coins, .inl (y 0, 144, .inl (cI MC))), (m_ends, .inl (y 1, 12, .inr (.inl (cL ME))))]) (wrest := []) hC (c_X12_wrecks l D y m0 m_read rl rp m_gut gl gp gx gy m_text tn fn m_boat m_coins vw vm vn m_rest m_ends vc m_chan m_spl fs rn m_rf m_rr m_ik m_km m_kb m_kc m_kf m_kr MG MB MC ME la pl (by first | assumption | omega) (by first | assumption | omega) (by first | assumption | omega) (by first | assumption | omega) _) (cwV 2 hts gX12_likeliest_X12_wrecks rfl rfl rfl (by decide +kernel) ⟨Nat.le_of_ble_eq_true rfl, Nat.le_of_ble_eq_true rfl⟩) hG hP hD hS hA [0, 1, 2, 3, 4] [] rfl rfl (by decide) (by decide) (by decide) va_P_nil ro_nil 0 rfl rfl rfl hl.1 rfl (Nat.le_of_ble_eq_true rfl) dX12_likeliest_21 ⟨Nat.le_of_ble_eq_true rfl, Nat.le_of_ble_eq_true rfl⟩ (fun u9 H locs hw_6 hP hD hS => ?_)
      obtain ⟨vw2_1, vm2_2, vn2_3, vc2_4, ME2_5⟩ := u9
      have hw_6 : True := hw_6
      have hP : va_P D vwCl [(m0, .inr (11, [.ref m_read, zi rl, zi rp, .ref m_gut, zi gl, zi gp, zi gx, zi gy, .ref m_text, zi tn, zi fn, .ref m_boat, .ref m_coins, zi vw2_1, zi vm2_2, zi vn2_3, .ref m_rest, .ref m_ends, zl vc2_4, .ref m_chan, .ref m_spl, zi fs, zi rn, .ref m_rf, .ref m_rr, .ref m_ik, .ref m_km, .ref m_kb, .ref m_kc, .ref m_kf, .ref m_kr])), (m_gut, .inl (y 0, 36, .inl (cI MG))), (m_boat, .inl (y 0, 42, .inl (cI MB))), (m_coins, .inl (y 0, 144, .inl (cI MC))), (m_ends, .inl (y 1, 12, .inr (.inl (cL ME2_5))))] H := hP
      have hD : va_D A [(m0, .inr (11, [.ref m_read, zi rl, zi rp, .ref m_gut, zi gl, zi gp, zi gx, zi gy, .ref m_text, zi tn, zi fn, .ref m_boat, .ref m_coins, zi vw2_1, zi vm2_2, zi vn2_3, .ref m_rest, .ref m_ends, zl vc2_4, .ref m_chan, .ref m_spl, zi fs, zi rn, .ref m_rf, .ref m_rr, .ref m_ik, .ref m_km, .ref m_kb, .ref m_kc, .ref m_kf, .ref m_kr])), (m_gut, .inl (y 0, 36, .inl (cI MG))), (m_boat, .inl (y 0, 42, .inl (cI MB))), (m_coins, .inl (y 0, 144, .inl (cI MC))), (m_ends, .inl (y 1, 12, .inr (.inl (cL ME2_5))))] := hD
      refine lv_lconst (v := iL 0) hx hb dX12_likeliest_24 rfl ?_
      refine z_lcmp_ne (tgt := 32) hx hb (by omega) (by omega) dX12_likeliest_25 dX12_likeliest_26 (by decide) (fun c_25 => ?_) (fun c_25 => ?_)
      ·
        have f0 : 1 ≤ fn := (by rcases Int.lt_or_eq_of_le qf.1 with q | q <;> first | omega | (exact absurd (by rw [← q]; rfl) (show ¬ sgI (fun b => enF (acx gl gp gx gy MG la (mLife MB MC b)) pl) fn = 0 by omega)))
        refine z_iconst hx hb dX12_likeliest_32 ?_
        refine lv_istore_n (lv' := [(3, zi 0), (0, .ref m0), (1, zi la), (2, zi pl)]) hx hb dX12_likeliest_33 rfl hl (by decide) rfl (fun ls hl => ?_)
        refine z_iconst hx hb dX12_likeliest_34 ?_
        refine lv_istore (lv' := [(4, zi 1), (3, zi 0), (0, .ref m0), (1, zi la), (2, zi pl)]) hx hb dX12_likeliest_35 hl (by decide) rfl (fun ls hl => ?_)
        refine z_loop (σ := Int × Int × Int × Int × Int × Int × (Int → Int)) (fun x9 H lc ls => match x9 with | (v, k, w1, x1, z1, cr, E) => ((1 ≤ k ∧ k ≤ fn) ∧ v = bstF (fun b => enF (acx gl gp gx gy MG la (mLife MB MC b)) pl) (k - 1).toNat) ∧ lv_has ls 5 [(4, zi k), (3, zi v), (0, .ref m0), (1, zi la), (2, zi pl)] ∧ va_P D vwCl [(m0, .inr (11, [.ref m_read, zi rl, zi rp, .ref m_gut, zi gl, zi gp, zi gx, zi gy, .ref m_text, zi tn, zi fn, .ref m_boat, .ref m_coins, zi w1, zi x1, zi z1, .ref m_rest, .ref m_ends, zl cr, .ref m_chan, .ref m_spl, zi fs, zi rn, .ref m_rf, .ref m_rr, .ref m_ik, .ref m_km, .ref m_kb, .ref m_kc, .ref m_kf, .ref m_kr])), (m_gut, .inl (y 0, 36, .inl (cI MG))), (m_boat, .inl (y 0, 42, .inl (cI MB))), (m_coins, .inl (y 0, 144, .inl (cI MC))), (m_ends, .inl (y 1, 12, .inr (.inl (cL E))))] H ∧ va_D A [(m0, .inr (11, [.ref m_read, zi rl, zi rp, .ref m_gut, zi gl, zi gp, zi gx, zi gy, .ref m_text, zi tn, zi fn, .ref m_boat, .ref m_coins, zi w1, zi x1, zi z1, .ref m_rest, .ref m_ends, zl cr, .ref m_chan, .ref m_spl, zi fs, zi rn, .ref m_rf, .ref m_rr, .ref m_ik, .ref m_km, .ref m_kb, .ref m_kc, .ref m_kf, .ref m_kr])), (m_gut, .inl (y 0, 36, .inl (cI MG))), (m_boat, .inl (y 0, 42, .inl (cI MB))), (m_coins, .inl (y 0, 144, .inl (cI MC))), (m_ends, .inl (y 1, 12, .inr (.inl (cL E))))] ∧ va_S A s.heap H lc) (fun x9  => match x9 with | (v, k, w1, x1, z1, cr, E) => ((fn - k).toNat)) ?_ (0, 1, vw2_1, vm2_2, vn2_3, vc2_4, ME2_5) ⟨⟨by omega, rfl⟩, lv_sub hl [0, 1, 2, 3, 4] rfl, hP.sub [0, 1, 2, 3, 4] rfl, hD.sub [0, 1, 2, 3, 4] (by decide) rfl, hS⟩
        rintro ⟨v, k, w1, x1, z1, cr, E⟩ H lc ls ⟨hi37, hl, hP, hD, hS⟩ ih37
        have hP : va_P D vwCl [(m0, .inr (11, [.ref m_read, zi rl, zi rp, .ref m_gut, zi gl, zi gp, zi gx, zi gy, .ref m_text, zi tn, zi fn, .ref m_boat, .ref m_coins, zi w1, zi x1, zi z1, .ref m_rest, .ref m_ends, zl cr, .ref m_chan, .ref m_spl, zi fs, zi rn, .ref m_rf, .ref m_rr, .ref m_ik, .ref m_km, .ref m_kb, .ref m_kc, .ref m_kf, .ref m_kr])), (m_gut, .inl (y 0, 36, .inl (cI MG))), (m_boat, .inl (y 0, 42, .inl (cI MB))), (m_coins, .inl (y 0, 144, .inl (cI MC))), (m_ends, .inl (y 1, 12, .inr (.inl (cL E))))] H := hP
        have hD : va_D A [(m0, .inr (11, [.ref m_read, zi rl, zi rp, .ref m_gut, zi gl, zi gp, zi gx, zi gy, .ref m_text, zi tn, zi fn, .ref m_boat, .ref m_coins, zi w1, zi x1, zi z1, .ref m_rest, .ref m_ends, zl cr, .ref m_chan, .ref m_spl, zi fs, zi rn, .ref m_rf, .ref m_rr, .ref m_ik, .ref m_km, .ref m_kb, .ref m_kc, .ref m_kf, .ref m_kr])), (m_gut, .inl (y 0, 36, .inl (cI MG))), (m_boat, .inl (y 0, 42, .inl (cI MB))), (m_coins, .inl (y 0, 144, .inl (cI MC))), (m_ends, .inl (y 1, 12, .inr (.inl (cL E))))] := hD
        have b2 := bstF_bd (fun b => enF (acx gl gp gx gy MG la (mLife MB MC b)) pl) (k - 1).toNat
        refine lv_iload hx hb dX12_likeliest_37 (lv_at hl 0 rfl) ?_
        refine lv_aload_n hx hb dX12_likeliest_39 rfl (lv_at hl 2 rfl) ?_
        refine va_get hx hb hts hinX12 hown hK hP 0 rfl rfl 10 (by decide) k1 (fun _ h => h) rfl dX12_likeliest_40 ?_
        refine z_icmp_ge (tgt := 78) hx hb (by omega) (by omega) dX12_likeliest_43 (by decide) (fun c_43 => ?_) (fun c_43 => ?_)
        ·
          refine lv_iload_n hx hb dX12_likeliest_78 rfl (lv_at hl 1 rfl) ?_
          exact z_iretW hx hb hr hlocks (w1, x1, z1, cr, E) (by first | exact congrArg (fun z => some (zi z)) (if_pos (by omega)) | exact congrArg (fun z => some (zi z)) ((if_neg (by omega)).trans (by rw [hi37.2, show k = fn by omega]))) (trivial) (hP.sub [0, 1, 2, 3, 4] rfl) (hD.sub [0, 1, 2, 3, 4] (by decide) rfl) hS dX12_likeliest_79
        ·
          have e1 := enF_bd (acx_bd hg la (mLife MB MC k)) hpl.1
          have e2 := enF_bd (acx_bd hg la (mLife MB MC v)) hpl.1
          have f1 := scale_bd t0 e1.1 e1.2 (Int.le_of_eq (ten_split hpl.1 hpl.2))
          have f2 := scale_bd t0 e2.1 e2.2 (Int.le_of_eq (ten_split hpl.1 hpl.2))
          have f3 := sc_lt (a := enF (acx gl gp gx gy MG la (mLife MB MC v)) pl) (b := enF (acx gl gp gx gy MG la (mLife MB MC k)) pl) t0
          refine lv_aload_n hx hb dX12_likeliest_46 rfl (lv_at hl 2 rfl) ?_
          refine lv_iload hx hb dX12_likeliest_47 (lv_at hl 0 rfl) ?_
          refine lv_iload_n hx hb dX12_likeliest_49 rfl (lv_at hl 3 rfl) ?_
          refine lv_iload_n hx hb dX12_likeliest_50 rfl (lv_at hl 4 rfl) ?_
          refine z_wV (As := [zi k, zi la, zi pl]) (rest := []) (wc := [(m0, .inr (11, [.ref m_read, zi rl, zi rp, .ref m_gut, zi gl, zi gp, zi gx, zi gy, .ref m_text, zi tn, zi fn, .ref m_boat, .ref m_coins, zi w1, zi x1, zi z1, .ref m_rest, .ref m_ends, zl cr, .ref m_chan, .ref m_spl, zi fs, zi rn, .ref m_rf, .ref m_rr, .ref m_ik, .ref m_km, .ref m_kb, .ref m_kc, .ref m_kf, .ref m_kr])), (m_gut, .inl (y 0, 36, .inl (cI MG))), (m_boat, .inl (y 0, 42, .inl (cI MB))), (m_coins, .inl (y 0, 144, .inl (cI MC))), (m_ends, .inl (y 1, 12, .inr (.inl (cL E))))]) (wrest := []) hC (c_X12_endedOf l D y m0 m_read rl rp m_gut gl gp gx gy m_text tn fn m_boat m_coins w1 x1 z1 m_rest m_ends cr m_chan m_spl fs rn m_rf m_rr m_ik m_km m_kb m_kc m_kf m_kr MG MB MC E k la pl (by first | assumption | omega) (by omega) (by first | assumption | omega) (by first | assumption | omega) (by first | assumption | omega) _) (cwV 3 hts gX12_likeliest_X12_endedOf rfl rfl rfl (by decide +kernel) ⟨Nat.le_of_ble_eq_true rfl, Nat.le_of_ble_eq_true rfl⟩) hG hP hD hS hA [0, 1, 2, 3, 4] [] rfl rfl (by decide) (by decide) (by decide) va_P_nil ro_nil 0 rfl rfl rfl hl.1 rfl (Nat.le_of_ble_eq_true rfl) dX12_likeliest_51 ⟨Nat.le_of_ble_eq_true rfl, Nat.le_of_ble_eq_true rfl⟩ (fun u9 H locs hw_12 hP hD hS => ?_)
          obtain ⟨vw2_7, vm2_8, vn2_9, vc2_10, ME2_11⟩ := u9
          have hw_12 : True := hw_12
          have hP : va_P D vwCl [(m0, .inr (11, [.ref m_read, zi rl, zi rp, .ref m_gut, zi gl, zi gp, zi gx, zi gy, .ref m_text, zi tn, zi fn, .ref m_boat, .ref m_coins, zi vw2_7, zi vm2_8, zi vn2_9, .ref m_rest, .ref m_ends, zl vc2_10, .ref m_chan, .ref m_spl, zi fs, zi rn, .ref m_rf, .ref m_rr, .ref m_ik, .ref m_km, .ref m_kb, .ref m_kc, .ref m_kf, .ref m_kr])), (m_gut, .inl (y 0, 36, .inl (cI MG))), (m_boat, .inl (y 0, 42, .inl (cI MB))), (m_coins, .inl (y 0, 144, .inl (cI MC))), (m_ends, .inl (y 1, 12, .inr (.inl (cL ME2_11))))] H := hP
          have hD : va_D A [(m0, .inr (11, [.ref m_read, zi rl, zi rp, .ref m_gut, zi gl, zi gp, zi gx, zi gy, .ref m_text, zi tn, zi fn, .ref m_boat, .ref m_coins, zi vw2_7, zi vm2_8, zi vn2_9, .ref m_rest, .ref m_ends, zl vc2_10, .ref m_chan, .ref m_spl, zi fs, zi rn, .ref m_rf, .ref m_rr, .ref m_ik, .ref m_km, .ref m_kb, .ref m_kc, .ref m_kf, .ref m_kr])), (m_gut, .inl (y 0, 36, .inl (cI MG))), (m_boat, .inl (y 0, 42, .inl (cI MB))), (m_coins, .inl (y 0, 144, .inl (cI MC))), (m_ends, .inl (y 1, 12, .inr (.inl (cL ME2_11))))] := hD
          refine lv_aload_n hx hb dX12_likeliest_54 rfl (lv_at hl 2 rfl) ?_
          refine lv_iload_n hx hb dX12_likeliest_55 rfl (lv_at hl 1 rfl) ?_
          refine lv_iload_n hx hb dX12_likeliest_56 rfl (lv_at hl 3 rfl) ?_
          refine lv_iload_n hx hb dX12_likeliest_57 rfl (lv_at hl 4 rfl) ?_
          refine z_wV (As := [zi v, zi la, zi pl]) (rest := [zl (enF (acx gl gp gx gy MG la (mLife MB MC k)) pl * 10 ^ (gp - (pl + 1)).toNat)]) (wc := [(m0, .inr (11, [.ref m_read, zi rl, zi rp, .ref m_gut, zi gl, zi gp, zi gx, zi gy, .ref m_text, zi tn, zi fn, .ref m_boat, .ref m_coins, zi vw2_7, zi vm2_8, zi vn2_9, .ref m_rest, .ref m_ends, zl vc2_10, .ref m_chan, .ref m_spl, zi fs, zi rn, .ref m_rf, .ref m_rr, .ref m_ik, .ref m_km, .ref m_kb, .ref m_kc, .ref m_kf, .ref m_kr])), (m_gut, .inl (y 0, 36, .inl (cI MG))), (m_boat, .inl (y 0, 42, .inl (cI MB))), (m_coins, .inl (y 0, 144, .inl (cI MC))), (m_ends, .inl (y 1, 12, .inr (.inl (cL ME2_11))))]) (wrest := []) hC (c_X12_endedOf l D y m0 m_read rl rp m_gut gl gp gx gy m_text tn fn m_boat m_coins vw2_7 vm2_8 vn2_9 m_rest m_ends vc2_10 m_chan m_spl fs rn m_rf m_rr m_ik m_km m_kb m_kc m_kf m_kr MG MB MC ME2_11 v la pl (by first | assumption | omega) (by omega) (by first | assumption | omega) (by first | assumption | omega) (by first | assumption | omega) _) (cwV 3 hts gX12_likeliest_X12_endedOf rfl rfl rfl (by decide +kernel) ⟨Nat.le_of_ble_eq_true rfl, Nat.le_of_ble_eq_true rfl⟩) hG hP hD hS hA [0, 1, 2, 3, 4] [] rfl rfl (by decide) (by decide) (by decide) va_P_nil ro_nil 0 rfl rfl rfl hl.1 rfl (Nat.le_of_ble_eq_true rfl) dX12_likeliest_58 ⟨Nat.le_of_ble_eq_true rfl, Nat.le_of_ble_eq_true rfl⟩ (fun u9 H locs hw_18 hP hD hS => ?_)
          obtain ⟨vw2_13, vm2_14, vn2_15, vc2_16, ME2_17⟩ := u9
          have hw_18 : True := hw_18
          have hP : va_P D vwCl [(m0, .inr (11, [.ref m_read, zi rl, zi rp, .ref m_gut, zi gl, zi gp, zi gx, zi gy, .ref m_text, zi tn, zi fn, .ref m_boat, .ref m_coins, zi vw2_13, zi vm2_14, zi vn2_15, .ref m_rest, .ref m_ends, zl vc2_16, .ref m_chan, .ref m_spl, zi fs, zi rn, .ref m_rf, .ref m_rr, .ref m_ik, .ref m_km, .ref m_kb, .ref m_kc, .ref m_kf, .ref m_kr])), (m_gut, .inl (y 0, 36, .inl (cI MG))), (m_boat, .inl (y 0, 42, .inl (cI MB))), (m_coins, .inl (y 0, 144, .inl (cI MC))), (m_ends, .inl (y 1, 12, .inr (.inl (cL ME2_17))))] H := hP
          have hD : va_D A [(m0, .inr (11, [.ref m_read, zi rl, zi rp, .ref m_gut, zi gl, zi gp, zi gx, zi gy, .ref m_text, zi tn, zi fn, .ref m_boat, .ref m_coins, zi vw2_13, zi vm2_14, zi vn2_15, .ref m_rest, .ref m_ends, zl vc2_16, .ref m_chan, .ref m_spl, zi fs, zi rn, .ref m_rf, .ref m_rr, .ref m_ik, .ref m_km, .ref m_kb, .ref m_kc, .ref m_kf, .ref m_kr])), (m_gut, .inl (y 0, 36, .inl (cI MG))), (m_boat, .inl (y 0, 42, .inl (cI MB))), (m_coins, .inl (y 0, 144, .inl (cI MC))), (m_ends, .inl (y 1, 12, .inr (.inl (cL ME2_17))))] := hD
          refine z_lcmp_le (tgt := 70) hx hb (by omega) (by omega) dX12_likeliest_61 dX12_likeliest_62 (by decide) (fun c_61 => ?_) (fun c_61 => ?_)
          ·
            refine lv_iload_n hx hb dX12_likeliest_70 rfl (lv_at hl 1 rfl) ?_
            refine lv_istore_n (lv' := [(3, zi v), (4, zi k), (0, .ref m0), (1, zi la), (2, zi pl)]) hx hb dX12_likeliest_71 rfl hl (by decide) rfl (fun ls hl => ?_)
            refine z_iinc (k := 1) (lv' := [(4, zi (k + 1)), (3, zi v), (0, .ref m0), (1, zi la), (2, zi pl)]) hx hb dX12_likeliest_72 hl rfl (by decide) rfl (fun ls hl => ?_)
            refine lv_goto (tgt := 37) hx hb dX12_likeliest_75 (by decide) ?_
            exact ih37 (v, k + 1, vw2_13, vm2_14, vn2_15, vc2_16, ME2_17) _ _ _ (by first | (dsimp only; omega) | omega) ⟨⟨by omega, by rw [bstF_s _ hi37.1.1, ← hi37.2]; first | exact (if_pos (by omega)).symm | exact (if_neg (by omega)).symm⟩, lv_sub hl [0, 1, 2, 3, 4] rfl, hP.sub [0, 1, 2, 3, 4] rfl, hD.sub [0, 1, 2, 3, 4] (by decide) rfl, hS⟩
          ·
            refine lv_iload hx hb dX12_likeliest_65 (lv_at hl 0 rfl) ?_
            refine lv_goto (tgt := 71) hx hb dX12_likeliest_67 (by decide) ?_
            refine lv_istore_n (lv' := [(3, zi k), (4, zi k), (0, .ref m0), (1, zi la), (2, zi pl)]) hx hb dX12_likeliest_71 rfl hl (by decide) rfl (fun ls hl => ?_)
            refine z_iinc (k := 1) (lv' := [(4, zi (k + 1)), (3, zi k), (0, .ref m0), (1, zi la), (2, zi pl)]) hx hb dX12_likeliest_72 hl rfl (by decide) rfl (fun ls hl => ?_)
            refine lv_goto (tgt := 37) hx hb dX12_likeliest_75 (by decide) ?_
            exact ih37 (k, k + 1, vw2_13, vm2_14, vn2_15, vc2_16, ME2_17) _ _ _ (by first | (dsimp only; omega) | omega) ⟨⟨by omega, by rw [bstF_s _ hi37.1.1, ← hi37.2]; first | exact (if_pos (by omega)).symm | exact (if_neg (by omega)).symm⟩, lv_sub hl [0, 1, 2, 3, 4] rfl, hP.sub [0, 1, 2, 3, 4] rfl, hD.sub [0, 1, 2, 3, 4] (by decide) rfl, hS⟩
      ·
        refine z_bipush hx hb dX12_likeliest_29 (by decide) ?_
        exact z_iretW hx hb hr hlocks (vw2_1, vm2_2, vn2_3, vc2_4, ME2_5) (by first | exact congrArg (fun z => some (zi z)) (if_pos (by omega)) | exact congrArg (fun z => some (zi z)) ((if_neg (by omega)).trans (by rw [hi37.2, show k = fn by omega]))) (trivial) (hP.sub [0, 1, 2, 3, 4] rfl) (hD.sub [0, 1, 2, 3, 4] (by decide) rfl) hS dX12_likeliest_31
    · exfalso; omega
