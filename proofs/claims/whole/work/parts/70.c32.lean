set_option maxHeartbeats 16000000 in
set_option maxRecDepth 100000 in
theorem L_red {p : Program} (l : Launch) {e : Env} {s : State} {m : MethodId} {below : List Frame} {meth : Method} {c : Code} {b L : Nat} {xs : Nat → Int32} {D : va_G} {y : Nat → ClassId} {a : Nat → Nat} {q : Nat → Int → Nat} {rf : Nat → Nat → Option Nat} {Z : State → Prop} {cells slots : Nat} (X : LX p s m c b L xs D y a q rf) (hcs : cells ≤ room_1.cells ∧ slots ≤ room_1.slots) {i : Int} (hi : 0 ≤ i ∧ i + 5 ≤ L) {H : Heap} {locs : List Loc} {ls : Array Slot} (hl : lv_has ls 4 [(0, .ref b), (1, .ref (a 0)), (2, .ref (a 35)), (3, zi i)]) (hW : WI D y a q rf s H locs) (kk : ∀ (H : Heap) (locs : List Loc), WI D y a q rf s H locs → W p l e room_1 s m #[.ref b] below meth c H locs cells slots Z (F0 m 1525 ls [])) : W p l e room_1 s m #[.ref b] below meth c H locs cells slots Z (F0 m 1416 ls []) := by
  obtain ⟨hC, hG, hX, hbl, hL, hfx⟩ := X
  have hC0 := hC
  obtain ⟨hx, hb, hml, hown, hts⟩ := hC0
  have hA : ∀ z : Nat, s.heap.size ≤ z → A9 s z := fun _ h => h
  have hbA : ¬ A9 s b := Nat.not_le.mpr hbl
  refine WI_elim hW (fun tn TB gl gp gx gy GK fn BF FI FJ FW rn rk ra RF RB WA PM PN WY dc DE p1 p2 wl HE BE ck cf OP TM SH us kfn KF KI KJ KW krn krk kra KRF KRB vs jfn JF JI JJ JW jrn jrk jra JRF JRB mrl mrp vw vm vn vc fs MR MG MT MB MC MRe ME MCh MS MF MRd MIk MKm MKb MKc MKf MKr hP hD hS hT hg hF hR h0 h1 hw => ?_)
  have f6 := hF.1
  have g6 := hg.1
  obtain ⟨g61, g62, g63, g64, g65⟩ := g6
  obtain ⟨v1, hv1⟩ : ∃ z, sx xs (i + 1) = z := ⟨_, rfl⟩
  have r1 : rI v1 := hv1 ▸ sx_r xs _
  refine lv_aload_n hx hb dL_law_1416 rfl (lv_at hl 1 rfl) ?_
  refine z_arg hx hb hX hbl hbA hS hl (by omega) hv1 dL_law_1417 dL_law_1418 dL_law_1419 dL_law_1420 dL_law_1421 ?_
  refine z_nz hx hb r1 dL_law_1422 dL_law_1425 dL_law_1426 dL_law_1429 ?_
  refine z_wLR (As := [zi (bI (v1 ≠ 0))]) (rest := []) hC (c_X11_red l D y (a 0) (a 1) (a 3) (a 5) (a 7) (a 10) (a 11) (a 16) (a 18) (a 19) (a 8) (a 9) rn rk ra RF RB (bI (v1 ≠ 0)) hR.1 (bI01 _) _) (cwV 1 hts gT_X11_red rfl rfl rfl (by decide +kernel) ⟨Nat.le_of_ble_eq_true rfl, Nat.le_of_ble_eq_true rfl⟩) hG hP hD hS hA [0] [31, 32, 33] rfl rfl (by decide +kernel) (by decide +kernel) rfl rfl rfl hl.1 rfl (Nat.le_of_ble_eq_true rfl) dL_law_1430 hcs (fun _ => rfl) (fun u9 H locs hpx hP hD hS => ?_)
  obtain ⟨rk2x, ra2x⟩ := u9
  have hpx : True := hpx
  have hP : va_P D vwCl (WL y a q rf tn TB gl gp gx gy GK fn BF FI FJ FW rn rk2x ra2x RF RB WA PM PN WY dc DE p1 p2 wl HE BE ck cf OP TM SH us kfn KF KI KJ KW krn krk kra KRF KRB vs jfn JF JI JJ JW jrn jrk jra JRF JRB mrl mrp gl gp gx gy tn fn vw vm vn vc fs rn MR MG MT MB MC MRe ME MCh MS MF MRd MIk MKm MKb MKc MKf MKr) H := hP
  have hD : va_D (A9 s) (WL y a q rf tn TB gl gp gx gy GK fn BF FI FJ FW rn rk2x ra2x RF RB WA PM PN WY dc DE p1 p2 wl HE BE ck cf OP TM SH us kfn KF KI KJ KW krn krk kra KRF KRB vs jfn JF JI JJ JW jrn jrk jra JRF JRB mrl mrp gl gp gx gy tn fn vw vm vn vc fs rn MR MG MT MB MC MRe ME MCh MS MF MRd MIk MKm MKb MKc MKf MKr) := hD
  refine lv_aload_n hx hb dL_law_1433 rfl (lv_at hl 2 rfl) ?_
  refine z_arg hx hb hX hbl hbA hS hl (by omega) hv1 dL_law_1434 dL_law_1435 dL_law_1436 dL_law_1437 dL_law_1438 ?_
  refine z_nz hx hb r1 dL_law_1439 dL_law_1442 dL_law_1443 dL_law_1446 ?_
  refine z_pL (As := [zi (bI (v1 ≠ 0))]) (rest := [zl (tellV (luckV rn RF (popI (rset RB rn)) (sumF rn RF (rset RB rn))) (allV rn (popI (rset RB rn))) (bI (v1 ≠ 0)))]) hC (c_X12_red l D y (a 35) (a 36) mrl mrp (a 37) gl gp gx gy (a 38) tn fn (a 39) (a 40) vw vm vn (a 41) (a 42) vc (a 43) (a 44) fs rn (a 45) (a 46) (a 47) (a 48) (a 49) (a 50) (a 51) (a 52) MF MRd (bI (v1 ≠ 0)) hR.2.1 (bI01 _)) (cwV 1 hts gT_X12_red rfl rfl rfl (by decide +kernel) ⟨Nat.le_of_ble_eq_true rfl, Nat.le_of_ble_eq_true rfl⟩) hG hP [109, 119, 120] rfl rfl rfl rfl hl.1 rfl (Nat.le_of_ble_eq_true rfl) dL_law_1447 hcs ?_
  refine z_leq (a := (tellV (luckV rn RF (popI (rset RB rn)) (sumF rn RF (rset RB rn))) (allV rn (popI (rset RB rn))) (bI (v1 ≠ 0)))) (b2 := (tellV (luckV rn MF (popI (rset MRd rn)) (sumF rn MF (rset MRd rn))) (allV rn (popI (rset MRd rn))) (bI (v1 ≠ 0)))) (tgt := 1525) hx hb (by rw [rset_congr hR.2.2.2.1, sumF_congr hR.2.2.1, luckV_congr hR.2.2.1]) dL_law_1450 dL_law_1451 (by decide) ?_
  exact kk _ _ (WI_intro hP hD hS hT hg hF hR h0 h1 hw)
