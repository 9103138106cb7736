set_option maxHeartbeats 16000000 in
set_option maxRecDepth 100000 in
theorem L_deep {p : Program} (l : Launch) {e : Env} {s : State} {m : MethodId} {below : List Frame} {meth : Method} {c : Code} {b L : Nat} {xs : Nat → Int32} {D : va_G} {y : Nat → ClassId} {a : Nat → Nat} {q : Nat → Int → Nat} {rf : Nat → Nat → Option Nat} {Z : State → Prop} {cells slots : Nat} (X : LX p s m c b L xs D y a q rf) (hcs : cells ≤ room_1.cells ∧ slots ≤ room_1.slots) {i : Int} (hi : 0 ≤ i ∧ i + 5 ≤ L) {H : Heap} {locs : List Loc} {ls : Array Slot} (hl : lv_has ls 4 [(0, .ref b), (1, .ref (a 0)), (2, .ref (a 35)), (3, zi i)]) (hW : WI D y a q rf s H locs) (kk : ∀ (H : Heap) (locs : List Loc), WI D y a q rf s H locs → W p l e room_1 s m #[.ref b] below meth c H locs cells slots Z (F0 m 1525 ls [])) : W p l e room_1 s m #[.ref b] below meth c H locs cells slots Z (F0 m 565 ls []) := by
  obtain ⟨hC, hG, hX, hbl, hL, hfx⟩ := X
  have hC0 := hC
  obtain ⟨hx, hb, hml, hown, hts⟩ := hC0
  have hA : ∀ z : Nat, s.heap.size ≤ z → A9 s z := fun _ h => h
  have hbA : ¬ A9 s b := Nat.not_le.mpr hbl
  refine WI_elim hW (fun tn TB gl gp gx gy GK fn BF FI FJ FW rn rk ra RF RB WA PM PN WY dc DE p1 p2 wl HE BE ck cf OP TM SH us kfn KF KI KJ KW krn krk kra KRF KRB vs jfn JF JI JJ JW jrn jrk jra JRF JRB mrl mrp vw vm vn vc fs MR MG MT MB MC MRe ME MCh MS MF MRd MIk MKm MKb MKc MKf MKr hP hD hS hT hg hF hR h0 h1 hw => ?_)
  have f6 := hF.1
  have g6 := hg.1
  obtain ⟨g61, g62, g63, g64, g65⟩ := g6
  obtain ⟨v1, hv1⟩ : ∃ z, sx xs (i + 1) = z := ⟨_, rfl⟩
  have r1 : rI v1 := hv1 ▸ sx_r xs _
  obtain ⟨v2, hv2⟩ : ∃ z, sx xs (i + 2) = z := ⟨_, rfl⟩
  have r2 : rI v2 := hv2 ▸ sx_r xs _
  obtain ⟨v3, hv3⟩ : ∃ z, sx xs (i + 3) = z := ⟨_, rfl⟩
  have r3 : rI v3 := hv3 ▸ sx_r xs _
  refine lv_aload_n hx hb dL_law_565 rfl (lv_at hl 1 rfl) ?_
  refine z_arg hx hb hX hbl hbA hS hl (by omega) hv1 dL_law_566 dL_law_567 dL_law_568 dL_law_569 dL_law_570 ?_
  refine z_arg hx hb hX hbl hbA hS hl (by omega) hv2 dL_law_571 dL_law_572 dL_law_573 dL_law_574 dL_law_575 ?_
  refine z_arg hx hb hX hbl hbA hS hl (by omega) hv3 dL_law_576 dL_law_577 dL_law_578 dL_law_579 dL_law_580 ?_
  refine z_nz hx hb r3 dL_law_581 dL_law_584 dL_law_585 dL_law_588 ?_
  by_cases c1 : 0 ≤ v1 ∧ v1 < fn
  ·
    obtain ⟨hB, ⟨e0, e1, e2, e3, e4, e5, e6⟩, y1, y2, y3⟩ := hF.2 v1 c1.1 c1.2
    obtain ⟨q1, q2, q3, q4, q5, q6, q7, q8, q9, qc⟩ := id hB
    by_cases c2 : 0 ≤ v2 ∧ v2 ≤ 999
    ·
      refine z_pL (As := [zi v1, zi v2, zi (bI (v3 ≠ 0))]) (rest := []) hC (c_X11_deep l D y (a 0) (a 1) (a 3) (a 5) (a 7) (a 10) (a 11) (a 16) (a 18) (a 19) (a 6) fn (rf 0) v1 (q 0 v1) (q 1 v1) (q 2 v1) (q 3 v1) (BF v1 0) (BF v1 1) (BF v1 2) (BF v1 3) (BF v1 4) (BF v1 5) (BF v1 6) (FI v1) (FJ v1) (FW v1) v2 (bI (v3 ≠ 0)) (by omega) (hfx.1 v1 (by omega) (by omega)) hB (by omega) (bI01 _)) (cwV 3 hts gT_X11_deep rfl rfl rfl (by decide +kernel) ⟨Nat.le_of_ble_eq_true rfl, Nat.le_of_ble_eq_true rfl⟩) hG hP [0, 5, 6, 7 + 4 * v1.toNat, 7 + 4 * v1.toNat + 1, 7 + 4 * v1.toNat + 2, 7 + 4 * v1.toNat + 3] (plc_cons rfl (plc_cons rfl (plc_cons rfl (plc_cons (bt_0 (by omega) (by omega)) (plc_cons (bt_1 (by omega) (by omega)) (plc_cons (bt_2 (by omega) (by omega)) (plc_cons (bt_3 (by omega) (by omega)) plc_nil))))))) rfl rfl rfl hl.1 rfl (Nat.le_of_ble_eq_true rfl) dL_law_589 hcs ?_
      refine lv_aload_n hx hb dL_law_592 rfl (lv_at hl 2 rfl) ?_
      refine z_arg hx hb hX hbl hbA hS hl (by omega) hv1 dL_law_593 dL_law_594 dL_law_595 dL_law_596 dL_law_597 ?_
      refine z_arg hx hb hX hbl hbA hS hl (by omega) hv2 dL_law_598 dL_law_599 dL_law_600 dL_law_601 dL_law_602 ?_
      refine z_arg hx hb hX hbl hbA hS hl (by omega) hv3 dL_law_603 dL_law_604 dL_law_605 dL_law_606 dL_law_607 ?_
      refine z_nz hx hb r3 dL_law_608 dL_law_611 dL_law_612 dL_law_615 ?_
      refine z_wL (As := [zi v1, zi v2, zi (bI (v3 ≠ 0))]) (rest := [zl (tellV (wAt (BF v1 0) (BF v1 1) (BF v1 2) (BF v1 4) (BF v1 6) (FW v1) v2) (100 * (((BF v1 0) - 2 * (BF v1 3)) * ((BF v1 1) - 2 * (BF v1 3)))) (bI (v3 ≠ 0)))]) hC (c_X12_deep l D y (a 35) (a 36) mrl mrp (a 37) gl gp gx gy (a 38) tn fn (a 39) (a 40) vw vm vn (a 41) (a 42) vc (a 43) (a 44) fs rn (a 45) (a 46) (a 47) (a 48) (a 49) (a 50) (a 51) (a 52) MB MC v1 v2 (bI (v3 ≠ 0)) (IFl_m hF) (by omega) (by omega) (bI01 _) _) (cwV 3 hts gT_X12_deep rfl rfl rfl (by decide +kernel) ⟨Nat.le_of_ble_eq_true rfl, Nat.le_of_ble_eq_true rfl⟩) hG hP hD hS hA [] [109, 113, 114] rfl rfl (by decide +kernel) (by decide +kernel) rfl rfl rfl hl.1 rfl (Nat.le_of_ble_eq_true rfl) dL_law_616 hcs (fun _ => rfl) (fun u9 H locs hpm hP hD hS => ?_)
      have hpm : True := hpm
      have hP : va_P D vwCl (WL y a q rf tn TB gl gp gx gy GK fn BF FI FJ FW rn rk ra RF RB WA PM PN WY dc DE p1 p2 wl HE BE ck cf OP TM SH us kfn KF KI KJ KW krn krk kra KRF KRB vs jfn JF JI JJ JW jrn jrk jra JRF JRB mrl mrp gl gp gx gy tn fn (bs (mCW MC v1) (MB (7 * v1 + 6)) (1 * 2 ^ (MB (7 * v1 + 6)).toNat - 1)) (bs (pullC ((MB (7 * v1)) - 2 * (MB (7 * v1 + 3))) (mCI MC v1) (mCW MC v1)) (MB (7 * v1 + 6)) (1 * 2 ^ (MB (7 * v1 + 6)).toNat - 1)) (bs (pullC ((MB (7 * v1 + 1)) - 2 * (MB (7 * v1 + 3))) (mCJ MC v1) (mCW MC v1)) (MB (7 * v1 + 6)) (1 * 2 ^ (MB (7 * v1 + 6)).toNat - 1)) vc fs rn MR MG MT MB MC MRe ME MCh MS MF MRd MIk MKm MKb MKc MKf MKr) H := hP
      have hD : va_D (A9 s) (WL y a q rf tn TB gl gp gx gy GK fn BF FI FJ FW rn rk ra RF RB WA PM PN WY dc DE p1 p2 wl HE BE ck cf OP TM SH us kfn KF KI KJ KW krn krk kra KRF KRB vs jfn JF JI JJ JW jrn jrk jra JRF JRB mrl mrp gl gp gx gy tn fn (bs (mCW MC v1) (MB (7 * v1 + 6)) (1 * 2 ^ (MB (7 * v1 + 6)).toNat - 1)) (bs (pullC ((MB (7 * v1)) - 2 * (MB (7 * v1 + 3))) (mCI MC v1) (mCW MC v1)) (MB (7 * v1 + 6)) (1 * 2 ^ (MB (7 * v1 + 6)).toNat - 1)) (bs (pullC ((MB (7 * v1 + 1)) - 2 * (MB (7 * v1 + 3))) (mCJ MC v1) (mCW MC v1)) (MB (7 * v1 + 6)) (1 * 2 ^ (MB (7 * v1 + 6)).toNat - 1)) vc fs rn MR MG MT MB MC MRe ME MCh MS MF MRd MIk MKm MKb MKc MKf MKr) := hD
      refine z_leq (a := (tellV (wAt (BF v1 0) (BF v1 1) (BF v1 2) (BF v1 4) (BF v1 6) (FW v1) v2) (100 * (((BF v1 0) - 2 * (BF v1 3)) * ((BF v1 1) - 2 * (BF v1 3)))) (bI (v3 ≠ 0)))) (b2 := (tellV (wAt (MB (7 * v1)) (MB (7 * v1 + 1)) (MB (7 * v1 + 2)) (MB (7 * v1 + 4)) (MB (7 * v1 + 6)) (mCW MC v1) v2) (100 * (((MB (7 * v1)) - 2 * (MB (7 * v1 + 3))) * ((MB (7 * v1 + 1)) - 2 * (MB (7 * v1 + 3))))) (bI (v3 ≠ 0)))) (tgt := 1525) hx hb (by simp only [e0, e1, e2, e3, e4, e5, e6]; rw [wAt_congr y3]) dL_law_619 dL_law_620 (by decide) ?_
      exact kk _ _ (WI_intro hP hD hS hT hg hF hR h0 h1 hw)
    ·
      refine z_pL (As := [zi v1, zi v2, zi (bI (v3 ≠ 0))]) (rest := []) hC (c_X11_deep_out l D y (a 0) (a 1) (a 3) (a 5) (a 7) (a 10) (a 11) (a 16) (a 18) (a 19) (a 6) fn (rf 0) v1 (q 0 v1) (q 1 v1) (q 2 v1) (q 3 v1) (BF v1 0) (BF v1 1) (BF v1 2) (BF v1 3) (BF v1 4) (BF v1 5) (BF v1 6) (FI v1) (FJ v1) (FW v1) v2 (bI (v3 ≠ 0)) (by omega) (hfx.1 v1 (by omega) (by omega)) hB (by omega) (by omega)) (cwV 3 hts gT_X11_deep rfl rfl rfl (by decide +kernel) ⟨Nat.le_of_ble_eq_true rfl, Nat.le_of_ble_eq_true rfl⟩) hG hP [0, 5, 6, 7 + 4 * v1.toNat, 7 + 4 * v1.toNat + 1, 7 + 4 * v1.toNat + 2, 7 + 4 * v1.toNat + 3] (plc_cons rfl (plc_cons rfl (plc_cons rfl (plc_cons (bt_0 (by omega) (by omega)) (plc_cons (bt_1 (by omega) (by omega)) (plc_cons (bt_2 (by omega) (by omega)) (plc_cons (bt_3 (by omega) (by omega)) plc_nil))))))) rfl rfl rfl hl.1 rfl (Nat.le_of_ble_eq_true rfl) dL_law_589 hcs ?_
      refine lv_aload_n hx hb dL_law_592 rfl (lv_at hl 2 rfl) ?_
      refine z_arg hx hb hX hbl hbA hS hl (by omega) hv1 dL_law_593 dL_law_594 dL_law_595 dL_law_596 dL_law_597 ?_
      refine z_arg hx hb hX hbl hbA hS hl (by omega) hv2 dL_law_598 dL_law_599 dL_law_600 dL_law_601 dL_law_602 ?_
      refine z_arg hx hb hX hbl hbA hS hl (by omega) hv3 dL_law_603 dL_law_604 dL_law_605 dL_law_606 dL_law_607 ?_
      refine z_nz hx hb r3 dL_law_608 dL_law_611 dL_law_612 dL_law_615 ?_
      refine z_pL (As := [zi v1, zi v2, zi (bI (v3 ≠ 0))]) (rest := [zl (-2)]) hC (c_X12_deep_out l D y (a 35) (a 36) mrl mrp (a 37) gl gp gx gy (a 38) tn fn (a 39) (a 40) vw vm vn (a 41) (a 42) vc (a 43) (a 44) fs rn (a 45) (a 46) (a 47) (a 48) (a 49) (a 50) (a 51) (a 52) MB MC v1 v2 (bI (v3 ≠ 0)) (IFl_m hF) (by omega) (by omega) (by omega)) (cwV 3 hts gT_X12_deep rfl rfl rfl (by decide +kernel) ⟨Nat.le_of_ble_eq_true rfl, Nat.le_of_ble_eq_true rfl⟩) hG hP [109, 113, 114] rfl rfl rfl rfl hl.1 rfl (Nat.le_of_ble_eq_true rfl) dL_law_616 hcs ?_
      refine z_leq (a := (-2)) (b2 := (-2)) (tgt := 1525) hx hb (rfl) dL_law_619 dL_law_620 (by decide) ?_
      exact kk _ _ (WI_intro hP hD hS hT hg hF hR h0 h1 hw)
  ·
    refine z_pL (As := [zi v1, zi v2, zi (bI (v3 ≠ 0))]) (rest := []) hC (c_X11_deep_no l D y (a 0) (a 1) (a 3) (a 5) (a 7) (a 10) (a 11) (a 16) (a 18) (a 19) (a 6) fn (rf 0) v1 v2 (bI (v3 ≠ 0)) (by omega)) (cwV 3 hts gT_X11_deep rfl rfl rfl (by decide +kernel) ⟨Nat.le_of_ble_eq_true rfl, Nat.le_of_ble_eq_true rfl⟩) hG hP [0, 5, 6] rfl rfl rfl rfl hl.1 rfl (Nat.le_of_ble_eq_true rfl) dL_law_589 hcs ?_
    refine lv_aload_n hx hb dL_law_592 rfl (lv_at hl 2 rfl) ?_
    refine z_arg hx hb hX hbl hbA hS hl (by omega) hv1 dL_law_593 dL_law_594 dL_law_595 dL_law_596 dL_law_597 ?_
    refine z_arg hx hb hX hbl hbA hS hl (by omega) hv2 dL_law_598 dL_law_599 dL_law_600 dL_law_601 dL_law_602 ?_
    refine z_arg hx hb hX hbl hbA hS hl (by omega) hv3 dL_law_603 dL_law_604 dL_law_605 dL_law_606 dL_law_607 ?_
    refine z_nz hx hb r3 dL_law_608 dL_law_611 dL_law_612 dL_law_615 ?_
    refine z_pL (As := [zi v1, zi v2, zi (bI (v3 ≠ 0))]) (rest := [zl (-1)]) hC (c_X12_deep_no l D y (a 35) (a 36) mrl mrp (a 37) gl gp gx gy (a 38) tn fn (a 39) (a 40) vw vm vn (a 41) (a 42) vc (a 43) (a 44) fs rn (a 45) (a 46) (a 47) (a 48) (a 49) (a 50) (a 51) (a 52) v1 v2 (bI (v3 ≠ 0)) (by omega)) (cwV 3 hts gT_X12_deep rfl rfl rfl (by decide +kernel) ⟨Nat.le_of_ble_eq_true rfl, Nat.le_of_ble_eq_true rfl⟩) hG hP [109] rfl rfl rfl rfl hl.1 rfl (Nat.le_of_ble_eq_true rfl) dL_law_616 hcs ?_
    refine z_leq (a := (-1)) (b2 := (-1)) (tgt := 1525) hx hb (rfl) dL_law_619 dL_law_620 (by decide) ?_
    exact kk _ _ (WI_intro hP hD hS hT hg hF hR h0 h1 hw)
