set_option maxHeartbeats 16000000 in
set_option maxRecDepth 100000 in
theorem L_boat {p : Program} (l : Launch) {e : Env} {s : State} {m : MethodId} {below : List Frame} {meth : Method} {c : Code} {b L : Nat} {xs : Nat → Int32} {D : va_G} {y : Nat → ClassId} {a : Nat → Nat} {q : Nat → Int → Nat} {rf : Nat → Nat → Option Nat} {Z : State → Prop} {cells slots : Nat} (X : LX p s m c b L xs D y a q rf) (hcs : cells ≤ room_1.cells ∧ slots ≤ room_1.slots) {i : Int} (hi : 0 ≤ i ∧ i + 5 ≤ L) {H : Heap} {locs : List Loc} {ls : Array Slot} (hl : lv_has ls 4 [(0, .ref b), (1, .ref (a 0)), (2, .ref (a 35)), (3, zi i)]) (hW : WI D y a q rf s H locs) (kk : ∀ (H : Heap) (locs : List Loc), WI D y a q rf s H locs → W p l e room_1 s m #[.ref b] below meth c H locs cells slots Z (F0 m 1525 ls [])) : W p l e room_1 s m #[.ref b] below meth c H locs cells slots Z (F0 m 360 ls []) := by
  obtain ⟨hC, hG, hX, hbl, hL, hfx⟩ := X
  have hC0 := hC
  obtain ⟨hx, hb, hml, hown, hts⟩ := hC0
  have hA : ∀ z : Nat, s.heap.size ≤ z → A9 s z := fun _ h => h
  have hbA : ¬ A9 s b := Nat.not_le.mpr hbl
  refine WI_elim hW (fun tn TB gl gp gx gy GK fn BF FI FJ FW rn rk ra RF RB WA PM PN WY dc DE p1 p2 wl HE BE ck cf OP TM SH us kfn KF KI KJ KW krn krk kra KRF KRB vs jfn JF JI JJ JW jrn jrk jra JRF JRB mrl mrp vw vm vn vc fs MR MG MT MB MC MRe ME MCh MS MF MRd MIk MKm MKb MKc MKf MKr hP hD hS hT hg hF hR h0 h1 hw => ?_)
  have f6 := hF.1
  have g6 := hg.1
  obtain ⟨g61, g62, g63, g64, g65⟩ := g6
  obtain ⟨v1, hv1⟩ : ∃ z, sx xs (i + 1) = z := ⟨_, rfl⟩
  have r1 : rI v1 := hv1 ▸ sx_r xs _
  obtain ⟨v2, hv2⟩ : ∃ z, sx xs (i + 2) = z := ⟨_, rfl⟩
  have r2 : rI v2 := hv2 ▸ sx_r xs _
  obtain ⟨v3, hv3⟩ : ∃ z, sx xs (i + 3) = z := ⟨_, rfl⟩
  have r3 : rI v3 := hv3 ▸ sx_r xs _
  obtain ⟨v4, hv4⟩ : ∃ z, sx xs (i + 4) = z := ⟨_, rfl⟩
  have r4 : rI v4 := hv4 ▸ sx_r xs _
  refine lv_aload_n hx hb dL_law_360 rfl (lv_at hl 1 rfl) ?_
  refine z_arg hx hb hX hbl hbA hS hl (by omega) hv1 dL_law_361 dL_law_362 dL_law_363 dL_law_364 dL_law_365 ?_
  refine z_arg hx hb hX hbl hbA hS hl (by omega) hv2 dL_law_366 dL_law_367 dL_law_368 dL_law_369 dL_law_370 ?_
  refine z_arg hx hb hX hbl hbA hS hl (by omega) hv3 dL_law_371 dL_law_372 dL_law_373 dL_law_374 dL_law_375 ?_
  refine z_arg hx hb hX hbl hbA hS hl (by omega) hv4 dL_law_376 dL_law_377 dL_law_378 dL_law_379 dL_law_380 ?_
  by_cases c1 : (3 ≤ v1 ∧ v1 ≤ 20) ∧ (3 ≤ v2 ∧ v2 ≤ 20) ∧ (1 ≤ v3 ∧ v3 ≤ 9) ∧ 1 ≤ v4 ∧ v4 ≤ 9 ∧ 1 ≤ v1 - 2 * v4 ∧ 1 ≤ v2 - 2 * v4
  ·
    by_cases c2 : fn = 6
    ·
      refine z_pL (As := [zi v1, zi v2, zi v3, zi v4]) (rest := []) hC (c_X11_boat_full l D y (a 0) (a 1) (a 3) (a 5) (a 7) (a 10) (a 11) (a 16) (a 18) (a 19) (a 6) fn (rf 0) v1 v2 v3 v4 (by omega) (by omega)) (cwV 4 hts gT_X11_boat rfl rfl rfl (by decide +kernel) ⟨Nat.le_of_ble_eq_true rfl, Nat.le_of_ble_eq_true rfl⟩) hG hP [0, 5, 6] rfl rfl rfl rfl hl.1 rfl (Nat.le_of_ble_eq_true rfl) dL_law_381 hcs ?_
      refine lv_aload_n hx hb dL_law_384 rfl (lv_at hl 2 rfl) ?_
      refine z_arg hx hb hX hbl hbA hS hl (by omega) hv1 dL_law_385 dL_law_386 dL_law_387 dL_law_388 dL_law_389 ?_
      refine z_arg hx hb hX hbl hbA hS hl (by omega) hv2 dL_law_390 dL_law_391 dL_law_392 dL_law_393 dL_law_394 ?_
      refine z_arg hx hb hX hbl hbA hS hl (by omega) hv3 dL_law_395 dL_law_396 dL_law_397 dL_law_398 dL_law_399 ?_
      refine z_arg hx hb hX hbl hbA hS hl (by omega) hv4 dL_law_400 dL_law_401 dL_law_402 dL_law_403 dL_law_404 ?_
      refine z_pL (As := [zi v1, zi v2, zi v3, zi v4]) (rest := [zi (-4)]) hC (c_X12_boat_full l D y (a 35) (a 36) mrl mrp (a 37) gl gp gx gy (a 38) tn fn (a 39) (a 40) vw vm vn (a 41) (a 42) vc (a 43) (a 44) fs rn (a 45) (a 46) (a 47) (a 48) (a 49) (a 50) (a 51) (a 52) v1 v2 v3 v4 (by omega) (by omega)) (cwV 4 hts gT_X12_boat rfl rfl rfl (by decide +kernel) ⟨Nat.le_of_ble_eq_true rfl, Nat.le_of_ble_eq_true rfl⟩) hG hP [109] rfl rfl rfl rfl hl.1 rfl (Nat.le_of_ble_eq_true rfl) dL_law_405 hcs ?_
      refine z_ieq (a := (-4)) (b2 := (-4)) (tgt := 1525) hx hb (rfl) dL_law_408 (by decide) ?_
      exact kk _ _ (WI_intro hP hD hS hT hg hF hR h0 h1 hw)
    ·
      refine z_wLR (As := [zi v1, zi v2, zi v3, zi v4]) (rest := []) hC (c_X11_boat l D y (a 0) (a 1) (a 3) (a 5) (a 7) (a 10) (a 11) (a 16) (a 18) (a 19) (a 6) fn (rf 0) (q 0 fn) (q 1 fn) (q 2 fn) (q 3 fn) (BF fn 0) (BF fn 1) (BF fn 2) (BF fn 3) (BF fn 4) (BF fn 5) (BF fn 6) v1 v2 v3 v4 (by omega) (by omega) (hfx.1 fn (by omega) (by omega)) _) (cwV 4 hts gT_X11_boat rfl rfl rfl (by decide +kernel) ⟨Nat.le_of_ble_eq_true rfl, Nat.le_of_ble_eq_true rfl⟩) hG hP hD hS hA [0, 6] [5, 7 + 4 * fn.toNat] rfl (plc_cons rfl (plc_cons (bt_0 (by omega) (by omega)) plc_nil)) bt_nd2 (by intro z z1 z2; simp only [List.mem_cons, List.not_mem_nil, or_false] at z1 z2; omega) rfl rfl rfl hl.1 rfl (Nat.le_of_ble_eq_true rfl) dL_law_381 hcs (fun _ => rfl) (fun u9 H locs hpx hP hD hS => ?_)
      have hpx : True := hpx
      have hP : va_P D vwCl (WL y a q rf tn TB gl gp gx gy GK (fn + 1) (bset BF fn v1 v2 v3 v4 10 0 0) FI FJ FW rn rk ra RF RB WA PM PN WY dc DE p1 p2 wl HE BE ck cf OP TM SH us kfn KF KI KJ KW krn krk kra KRF KRB vs jfn JF JI JJ JW jrn jrk jra JRF JRB mrl mrp gl gp gx gy tn fn vw vm vn vc fs rn MR MG MT MB MC MRe ME MCh MS MF MRd MIk MKm MKb MKc MKf MKr) H := by
        rw [← bw_2 (by omega) (by omega)]
        exact hP
      have hD : va_D (A9 s) (WL y a q rf tn TB gl gp gx gy GK (fn + 1) (bset BF fn v1 v2 v3 v4 10 0 0) FI FJ FW rn rk ra RF RB WA PM PN WY dc DE p1 p2 wl HE BE ck cf OP TM SH us kfn KF KI KJ KW krn krk kra KRF KRB vs jfn JF JI JJ JW jrn jrk jra JRF JRB mrl mrp gl gp gx gy tn fn vw vm vn vc fs rn MR MG MT MB MC MRe ME MCh MS MF MRd MIk MKm MKb MKc MKf MKr) := by
        rw [← bw_2 (by omega) (by omega)]
        exact hD
      refine lv_aload_n hx hb dL_law_384 rfl (lv_at hl 2 rfl) ?_
      refine z_arg hx hb hX hbl hbA hS hl (by omega) hv1 dL_law_385 dL_law_386 dL_law_387 dL_law_388 dL_law_389 ?_
      refine z_arg hx hb hX hbl hbA hS hl (by omega) hv2 dL_law_390 dL_law_391 dL_law_392 dL_law_393 dL_law_394 ?_
      refine z_arg hx hb hX hbl hbA hS hl (by omega) hv3 dL_law_395 dL_law_396 dL_law_397 dL_law_398 dL_law_399 ?_
      refine z_arg hx hb hX hbl hbA hS hl (by omega) hv4 dL_law_400 dL_law_401 dL_law_402 dL_law_403 dL_law_404 ?_
      refine z_wL (As := [zi v1, zi v2, zi v3, zi v4]) (rest := [zi fn]) hC (c_X12_boat l D y (a 35) (a 36) mrl mrp (a 37) gl gp gx gy (a 38) tn fn (a 39) (a 40) vw vm vn (a 41) (a 42) vc (a 43) (a 44) fs rn (a 45) (a 46) (a 47) (a 48) (a 49) (a 50) (a 51) (a 52) MB v1 v2 v3 v4 (by omega) (by omega) _) (cwV 4 hts gT_X12_boat rfl rfl rfl (by decide +kernel) ⟨Nat.le_of_ble_eq_true rfl, Nat.le_of_ble_eq_true rfl⟩) hG hP hD hS hA [] [109, 113] rfl rfl (by decide +kernel) (by decide +kernel) rfl rfl rfl hl.1 rfl (Nat.le_of_ble_eq_true rfl) dL_law_405 hcs (fun _ => rfl) (fun u9 H locs hpm hP hD hS => ?_)
      obtain ⟨MB2m, rfl⟩ : ∃ z9, z9 = u9 := ⟨_, rfl⟩
      have hpm : (∀ j : Int, ¬ (7 * fn ≤ j ∧ j < 7 * fn + 7) → MB2m j = MB j) ∧ MB2m (7 * fn) = v1 ∧ MB2m (7 * fn + 1) = v2 ∧ MB2m (7 * fn + 2) = v3 ∧ MB2m (7 * fn + 3) = v4 ∧ MB2m (7 * fn + 4) = 10 ∧ MB2m (7 * fn + 5) = 0 ∧ MB2m (7 * fn + 6) = 0 := hpm
      have hP : va_P D vwCl (WL y a q rf tn TB gl gp gx gy GK (fn + 1) (bset BF fn v1 v2 v3 v4 10 0 0) FI FJ FW rn rk ra RF RB WA PM PN WY dc DE p1 p2 wl HE BE ck cf OP TM SH us kfn KF KI KJ KW krn krk kra KRF KRB vs jfn JF JI JJ JW jrn jrk jra JRF JRB mrl mrp gl gp gx gy tn (fn + 1) vw vm vn vc fs rn MR MG MT MB2m MC MRe ME MCh MS MF MRd MIk MKm MKb MKc MKf MKr) H := hP
      have hD : va_D (A9 s) (WL y a q rf tn TB gl gp gx gy GK (fn + 1) (bset BF fn v1 v2 v3 v4 10 0 0) FI FJ FW rn rk ra RF RB WA PM PN WY dc DE p1 p2 wl HE BE ck cf OP TM SH us kfn KF KI KJ KW krn krk kra KRF KRB vs jfn JF JI JJ JW jrn jrk jra JRF JRB mrl mrp gl gp gx gy tn (fn + 1) vw vm vn vc fs rn MR MG MT MB2m MC MRe ME MCh MS MF MRd MIk MKm MKb MKc MKf MKr) := hD
      refine z_ieq (a := fn) (b2 := fn) (tgt := 1525) hx hb (rfl) dL_law_408 (by decide) ?_
      exact kk _ _ (WI_intro hP hD hS hT hg (IFl_boat hF (by omega) c1 hpm) hR h0 h1 hw)
  ·
    refine z_pL (As := [zi v1, zi v2, zi v3, zi v4]) (rest := []) hC (c_X11_boat_out l D y (a 0) (a 1) (a 3) (a 5) (a 7) (a 10) (a 11) (a 16) (a 18) (a 19) v1 v2 v3 v4 (by omega) (by omega)) (cwV 4 hts gT_X11_boat rfl rfl rfl (by decide +kernel) ⟨Nat.le_of_ble_eq_true rfl, Nat.le_of_ble_eq_true rfl⟩) hG hP [0] rfl rfl rfl rfl hl.1 rfl (Nat.le_of_ble_eq_true rfl) dL_law_381 hcs ?_
    refine lv_aload_n hx hb dL_law_384 rfl (lv_at hl 2 rfl) ?_
    refine z_arg hx hb hX hbl hbA hS hl (by omega) hv1 dL_law_385 dL_law_386 dL_law_387 dL_law_388 dL_law_389 ?_
    refine z_arg hx hb hX hbl hbA hS hl (by omega) hv2 dL_law_390 dL_law_391 dL_law_392 dL_law_393 dL_law_394 ?_
    refine z_arg hx hb hX hbl hbA hS hl (by omega) hv3 dL_law_395 dL_law_396 dL_law_397 dL_law_398 dL_law_399 ?_
    refine z_arg hx hb hX hbl hbA hS hl (by omega) hv4 dL_law_400 dL_law_401 dL_law_402 dL_law_403 dL_law_404 ?_
    refine z_pL (As := [zi v1, zi v2, zi v3, zi v4]) (rest := [zi (-2)]) hC (c_X12_boat_out l D y (a 35) (a 36) mrl mrp (a 37) gl gp gx gy (a 38) tn fn (a 39) (a 40) vw vm vn (a 41) (a 42) vc (a 43) (a 44) fs rn (a 45) (a 46) (a 47) (a 48) (a 49) (a 50) (a 51) (a 52) v1 v2 v3 v4 (by omega) (by omega)) (cwV 4 hts gT_X12_boat rfl rfl rfl (by decide +kernel) ⟨Nat.le_of_ble_eq_true rfl, Nat.le_of_ble_eq_true rfl⟩) hG hP [109] rfl rfl rfl rfl hl.1 rfl (Nat.le_of_ble_eq_true rfl) dL_law_405 hcs ?_
    refine z_ieq (a := (-2)) (b2 := (-2)) (tgt := 1525) hx hb (rfl) dL_law_408 (by decide) ?_
    exact kk _ _ (WI_intro hP hD hS hT hg hF hR h0 h1 hw)
