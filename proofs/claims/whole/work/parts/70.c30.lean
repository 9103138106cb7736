set_option maxHeartbeats 16000000 in
set_option maxRecDepth 100000 in
theorem L_run {p : Program} (l : Launch) {e : Env} {s : State} {m : MethodId} {below : List Frame} {meth : Method} {c : Code} {b L : Nat} {xs : Nat → Int32} {D : va_G} {y : Nat → ClassId} {a : Nat → Nat} {q : Nat → Int → Nat} {rf : Nat → Nat → Option Nat} {Z : State → Prop} {cells slots : Nat} (X : LX p s m c b L xs D y a q rf) (hcs : cells ≤ room_1.cells ∧ slots ≤ room_1.slots) {i : Int} (hi : 0 ≤ i ∧ i + 5 ≤ L) {H : Heap} {locs : List Loc} {ls : Array Slot} (hl : lv_has ls 4 [(0, .ref b), (1, .ref (a 0)), (2, .ref (a 35)), (3, zi i)]) (hW : WI D y a q rf s H locs) (kk : ∀ (H : Heap) (locs : List Loc), WI D y a q rf s H locs → W p l e room_1 s m #[.ref b] below meth c H locs cells slots Z (F0 m 1525 ls [])) : W p l e room_1 s m #[.ref b] below meth c H locs cells slots Z (F0 m 1354 ls []) := by
  obtain ⟨hC, hG, hX, hbl, hL, hfx⟩ := X
  have hC0 := hC
  obtain ⟨hx, hb, hml, hown, hts⟩ := hC0
  have hA : ∀ z : Nat, s.heap.size ≤ z → A9 s z := fun _ h => h
  have hbA : ¬ A9 s b := Nat.not_le.mpr hbl
  refine WI_elim hW (fun tn TB gl gp gx gy GK fn BF FI FJ FW rn rk ra RF RB WA PM PN WY dc DE p1 p2 wl HE BE ck cf OP TM SH us kfn KF KI KJ KW krn krk kra KRF KRB vs jfn JF JI JJ JW jrn jrk jra JRF JRB mrl mrp vw vm vn vc fs MR MG MT MB MC MRe ME MCh MS MF MRd MIk MKm MKb MKc MKf MKr hP hD hS hT hg hF hR h0 h1 hw => ?_)
  have f6 := hF.1
  have g6 := hg.1
  obtain ⟨g61, g62, g63, g64, g65⟩ := g6
  obtain ⟨v1, hv1⟩ : ∃ z, sx xs (i + 1) = z := ⟨_, rfl⟩
  have r1 : rI v1 := hv1 ▸ sx_r xs _
  obtain ⟨v2, hv2⟩ : ∃ z, sx xs (i + 2) = z := ⟨_, rfl⟩
  have r2 : rI v2 := hv2 ▸ sx_r xs _
  refine lv_aload_n hx hb dL_law_1354 rfl (lv_at hl 1 rfl) ?_
  refine z_arg hx hb hX hbl hbA hS hl (by omega) hv1 dL_law_1355 dL_law_1356 dL_law_1357 dL_law_1358 dL_law_1359 ?_
  refine z_arg hx hb hX hbl hbA hS hl (by omega) hv2 dL_law_1360 dL_law_1361 dL_law_1362 dL_law_1363 dL_law_1364 ?_
  refine z_nz hx hb r2 dL_law_1365 dL_law_1368 dL_law_1369 dL_law_1372 ?_
  by_cases c1 : 0 ≤ v1 ∧ v1 ≤ 99
  ·
    have r6 := hR.1.1
    by_cases c2 : rn = 12
    ·
      refine z_pL (As := [zi v1, zi (bI (v2 ≠ 0))]) (rest := []) hC (c_X11_run_full l D y (a 0) (a 1) (a 3) (a 5) (a 7) (a 10) (a 11) (a 16) (a 18) (a 19) (a 8) (a 9) rn rk ra RF RB v1 (bI (v2 ≠ 0)) (by omega) (by omega)) (cwV 2 hts gT_X11_run rfl rfl rfl (by decide +kernel) ⟨Nat.le_of_ble_eq_true rfl, Nat.le_of_ble_eq_true rfl⟩) hG hP [0, 31, 32, 33] rfl rfl rfl rfl hl.1 rfl (Nat.le_of_ble_eq_true rfl) dL_law_1373 hcs ?_
      refine lv_aload_n hx hb dL_law_1376 rfl (lv_at hl 2 rfl) ?_
      refine z_arg hx hb hX hbl hbA hS hl (by omega) hv1 dL_law_1377 dL_law_1378 dL_law_1379 dL_law_1380 dL_law_1381 ?_
      refine z_arg hx hb hX hbl hbA hS hl (by omega) hv2 dL_law_1382 dL_law_1383 dL_law_1384 dL_law_1385 dL_law_1386 ?_
      refine z_nz hx hb r2 dL_law_1387 dL_law_1390 dL_law_1391 dL_law_1394 ?_
      refine z_pL (As := [zi v1, zi (bI (v2 ≠ 0))]) (rest := [zi (-4)]) hC (c_X12_run_full l D y (a 35) (a 36) mrl mrp (a 37) gl gp gx gy (a 38) tn fn (a 39) (a 40) vw vm vn (a 41) (a 42) vc (a 43) (a 44) fs rn (a 45) (a 46) (a 47) (a 48) (a 49) (a 50) (a 51) (a 52) v1 (bI (v2 ≠ 0)) (by omega) (by omega)) (cwV 2 hts gT_X12_run rfl rfl rfl (by decide +kernel) ⟨Nat.le_of_ble_eq_true rfl, Nat.le_of_ble_eq_true rfl⟩) hG hP [109] rfl rfl rfl rfl hl.1 rfl (Nat.le_of_ble_eq_true rfl) dL_law_1395 hcs ?_
      refine z_ieq (a := (-4)) (b2 := (-4)) (tgt := 1525) hx hb (rfl) dL_law_1398 (by decide) ?_
      exact kk _ _ (WI_intro hP hD hS hT hg hF hR h0 h1 hw)
    ·
      refine z_wLR (As := [zi v1, zi (bI (v2 ≠ 0))]) (rest := []) hC (c_X11_run l D y (a 0) (a 1) (a 3) (a 5) (a 7) (a 10) (a 11) (a 16) (a 18) (a 19) (a 8) (a 9) rn rk ra RF RB v1 (bI (v2 ≠ 0)) (by omega) (by omega) (bI01 _) _) (cwV 2 hts gT_X11_run rfl rfl rfl (by decide +kernel) ⟨Nat.le_of_ble_eq_true rfl, Nat.le_of_ble_eq_true rfl⟩) hG hP hD hS hA [0] [31, 32, 33] rfl rfl (by decide +kernel) (by decide +kernel) rfl rfl rfl hl.1 rfl (Nat.le_of_ble_eq_true rfl) dL_law_1373 hcs (fun _ => rfl) (fun u9 H locs hpx hP hD hS => ?_)
      have hpx : True := hpx
      have hP : va_P D vwCl (WL y a q rf tn TB gl gp gx gy GK fn BF FI FJ FW (rn + 1) rk ra (iu RF rn v1) (iu RB rn (bI (v2 ≠ 0))) WA PM PN WY dc DE p1 p2 wl HE BE ck cf OP TM SH us kfn KF KI KJ KW krn krk kra KRF KRB vs jfn JF JI JJ JW jrn jrk jra JRF JRB mrl mrp gl gp gx gy tn fn vw vm vn vc fs rn MR MG MT MB MC MRe ME MCh MS MF MRd MIk MKm MKb MKc MKf MKr) H := hP
      have hD : va_D (A9 s) (WL y a q rf tn TB gl gp gx gy GK fn BF FI FJ FW (rn + 1) rk ra (iu RF rn v1) (iu RB rn (bI (v2 ≠ 0))) WA PM PN WY dc DE p1 p2 wl HE BE ck cf OP TM SH us kfn KF KI KJ KW krn krk kra KRF KRB vs jfn JF JI JJ JW jrn jrk jra JRF JRB mrl mrp gl gp gx gy tn fn vw vm vn vc fs rn MR MG MT MB MC MRe ME MCh MS MF MRd MIk MKm MKb MKc MKf MKr) := hD
      refine lv_aload_n hx hb dL_law_1376 rfl (lv_at hl 2 rfl) ?_
      refine z_arg hx hb hX hbl hbA hS hl (by omega) hv1 dL_law_1377 dL_law_1378 dL_law_1379 dL_law_1380 dL_law_1381 ?_
      refine z_arg hx hb hX hbl hbA hS hl (by omega) hv2 dL_law_1382 dL_law_1383 dL_law_1384 dL_law_1385 dL_law_1386 ?_
      refine z_nz hx hb r2 dL_law_1387 dL_law_1390 dL_law_1391 dL_law_1394 ?_
      refine z_wL (As := [zi v1, zi (bI (v2 ≠ 0))]) (rest := [zi (rn + 1)]) hC (c_X12_run l D y (a 35) (a 36) mrl mrp (a 37) gl gp gx gy (a 38) tn fn (a 39) (a 40) vw vm vn (a 41) (a 42) vc (a 43) (a 44) fs rn (a 45) (a 46) (a 47) (a 48) (a 49) (a 50) (a 51) (a 52) MF MRd v1 (bI (v2 ≠ 0)) (by omega) (by omega) (bI01 _) _) (cwV 2 hts gT_X12_run rfl rfl rfl (by decide +kernel) ⟨Nat.le_of_ble_eq_true rfl, Nat.le_of_ble_eq_true rfl⟩) hG hP hD hS hA [] [109, 119, 120] rfl rfl (by decide +kernel) (by decide +kernel) rfl rfl rfl hl.1 rfl (Nat.le_of_ble_eq_true rfl) dL_law_1395 hcs (fun _ => rfl) (fun u9 H locs hpm hP hD hS => ?_)
      have hpm : True := hpm
      have hP : va_P D vwCl (WL y a q rf tn TB gl gp gx gy GK fn BF FI FJ FW (rn + 1) rk ra (iu RF rn v1) (iu RB rn (bI (v2 ≠ 0))) WA PM PN WY dc DE p1 p2 wl HE BE ck cf OP TM SH us kfn KF KI KJ KW krn krk kra KRF KRB vs jfn JF JI JJ JW jrn jrk jra JRF JRB mrl mrp gl gp gx gy tn fn vw vm vn vc fs (rn + 1) MR MG MT MB MC MRe ME MCh MS (iu MF rn v1) (iu MRd rn (bI (v2 ≠ 0))) MIk MKm MKb MKc MKf MKr) H := hP
      have hD : va_D (A9 s) (WL y a q rf tn TB gl gp gx gy GK fn BF FI FJ FW (rn + 1) rk ra (iu RF rn v1) (iu RB rn (bI (v2 ≠ 0))) WA PM PN WY dc DE p1 p2 wl HE BE ck cf OP TM SH us kfn KF KI KJ KW krn krk kra KRF KRB vs jfn JF JI JJ JW jrn jrk jra JRF JRB mrl mrp gl gp gx gy tn fn vw vm vn vc fs (rn + 1) MR MG MT MB MC MRe ME MCh MS (iu MF rn v1) (iu MRd rn (bI (v2 ≠ 0))) MIk MKm MKb MKc MKf MKr) := hD
      refine z_ieq (a := (rn + 1)) (b2 := (rn + 1)) (tgt := 1525) hx hb (rfl) dL_law_1398 (by decide) ?_
      exact kk _ _ (WI_intro hP hD hS hT hg hF (IR_run hR (by omega) c1 (bI01 _)) h0 h1 hw)
  ·
    refine z_pL (As := [zi v1, zi (bI (v2 ≠ 0))]) (rest := []) hC (c_X11_run_out l D y (a 0) (a 1) (a 3) (a 5) (a 7) (a 10) (a 11) (a 16) (a 18) (a 19) v1 (bI (v2 ≠ 0)) (by omega) (by omega)) (cwV 2 hts gT_X11_run rfl rfl rfl (by decide +kernel) ⟨Nat.le_of_ble_eq_true rfl, Nat.le_of_ble_eq_true rfl⟩) hG hP [0] rfl rfl rfl rfl hl.1 rfl (Nat.le_of_ble_eq_true rfl) dL_law_1373 hcs ?_
    refine lv_aload_n hx hb dL_law_1376 rfl (lv_at hl 2 rfl) ?_
    refine z_arg hx hb hX hbl hbA hS hl (by omega) hv1 dL_law_1377 dL_law_1378 dL_law_1379 dL_law_1380 dL_law_1381 ?_
    refine z_arg hx hb hX hbl hbA hS hl (by omega) hv2 dL_law_1382 dL_law_1383 dL_law_1384 dL_law_1385 dL_law_1386 ?_
    refine z_nz hx hb r2 dL_law_1387 dL_law_1390 dL_law_1391 dL_law_1394 ?_
    refine z_pL (As := [zi v1, zi (bI (v2 ≠ 0))]) (rest := [zi (-2)]) hC (c_X12_run_out l D y (a 35) (a 36) mrl mrp (a 37) gl gp gx gy (a 38) tn fn (a 39) (a 40) vw vm vn (a 41) (a 42) vc (a 43) (a 44) fs rn (a 45) (a 46) (a 47) (a 48) (a 49) (a 50) (a 51) (a 52) v1 (bI (v2 ≠ 0)) (by omega) (by omega)) (cwV 2 hts gT_X12_run rfl rfl rfl (by decide +kernel) ⟨Nat.le_of_ble_eq_true rfl, Nat.le_of_ble_eq_true rfl⟩) hG hP [109] rfl rfl rfl rfl hl.1 rfl (Nat.le_of_ble_eq_true rfl) dL_law_1395 hcs ?_
    refine z_ieq (a := (-2)) (b2 := (-2)) (tgt := 1525) hx hb (rfl) dL_law_1398 (by decide) ?_
    exact kk _ _ (WI_intro hP hD hS hT hg hF hR h0 h1 hw)
