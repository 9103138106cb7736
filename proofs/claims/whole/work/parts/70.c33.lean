set_option maxHeartbeats 16000000 in
set_option maxRecDepth 100000 in
theorem L_keep {p : Program} (l : Launch) {e : Env} {s : State} {m : MethodId} {below : List Frame} {meth : Method} {c : Code} {b L : Nat} {xs : Nat → Int32} {D : va_G} {y : Nat → ClassId} {a : Nat → Nat} {q : Nat → Int → Nat} {rf : Nat → Nat → Option Nat} {Z : State → Prop} {cells slots : Nat} (X : LX p s m c b L xs D y a q rf) (hcs : cells ≤ room_1.cells ∧ slots ≤ room_1.slots) {i : Int} (hi : 0 ≤ i ∧ i + 5 ≤ L) {H : Heap} {locs : List Loc} {ls : Array Slot} (hl : lv_has ls 4 [(0, .ref b), (1, .ref (a 0)), (2, .ref (a 35)), (3, zi i)]) (hW : WI D y a q rf s H locs) (kk : ∀ (H : Heap) (locs : List Loc), WI D y a q rf s H locs → W p l e room_1 s m #[.ref b] below meth c H locs cells slots Z (F0 m 1525 ls [])) : W p l e room_1 s m #[.ref b] below meth c H locs cells slots Z (F0 m 1456 ls []) := by
  obtain ⟨hC, hG, hX, hbl, hL, hfx⟩ := X
  have hC0 := hC
  obtain ⟨hx, hb, hml, hown, hts⟩ := hC0
  have hA : ∀ z : Nat, s.heap.size ≤ z → A9 s z := fun _ h => h
  have hbA : ¬ A9 s b := Nat.not_le.mpr hbl
  refine WI_elim hW (fun tn TB gl gp gx gy GK fn BF FI FJ FW rn rk ra RF RB WA PM PN WY dc DE p1 p2 wl HE BE ck cf OP TM SH us kfn KF KI KJ KW krn krk kra KRF KRB vs jfn JF JI JJ JW jrn jrk jra JRF JRB mrl mrp vw vm vn vc fs MR MG MT MB MC MRe ME MCh MS MF MRd MIk MKm MKb MKc MKf MKr hP hD hS hT hg hF hR h0 h1 hw => ?_)
  have f6 := hF.1
  have g6 := hg.1
  obtain ⟨g61, g62, g63, g64, g65⟩ := g6
  obtain ⟨v1, hv1⟩ : ∃ z, sx xs (i + 1) = z := ⟨_, rfl⟩
  have r1 : rI v1 := hv1 ▸ sx_r xs _
  refine lv_aload_n hx hb dL_law_1456 rfl (lv_at hl 1 rfl) ?_
  refine z_arg hx hb hX hbl hbA hS hl (by omega) hv1 dL_law_1457 dL_law_1458 dL_law_1459 dL_law_1460 dL_law_1461 ?_
  by_cases c1 : 0 ≤ v1 ∧ v1 ≤ 1
  ·
    rcases (by omega : v1 = 0 ∨ v1 = 1) with e9 | e9
    ·
      subst e9
      refine z_wLR (As := [zi 0]) (rest := []) hC (c_X11_keep l D y (a 0) (a 1) (a 3) (a 5) (a 7) (a 10) (a 11) (a 16) (a 18) (a 19) (rf 3) (a 23) 0 (a 6) fn (rf 0) (q 0) (q 1) (q 2) (q 3) BF FI FJ FW (a 24) (a 25) kfn (rf 1) (q 4) (q 5) (q 6) (q 7) KF KI KJ KW (a 8) (a 9) rn rk ra RF RB (a 26) (a 27) (a 28) krn krk kra KRF KRB us (by omega) hfx.2.2.2.1 hfx.2.1 hfx.1 (IFl_x hF) (by omega) hR.1 _) (cwV 1 hts gT_X11_keep rfl rfl rfl (by decide +kernel) ⟨Nat.le_of_ble_eq_true rfl, Nat.le_of_ble_eq_true rfl⟩) hG hP hD hS hA [0, 34, 5, 6, 7, 8, 9, 10, 11, 12, 13, 14, 15, 16, 17, 18, 19, 20, 21, 22, 23, 24, 25, 26, 27, 28, 29, 30, 31, 32, 33, 51] [49, 50, 52, 53, 54, 55, 56, 57, 58, 59, 60, 61, 62, 63, 64, 65, 66, 67, 68, 69, 70, 71, 72, 73, 74, 75, 76, 77, 78] rfl rfl (by decide) (by decide) rfl rfl rfl hl.1 rfl (Nat.le_of_ble_eq_true rfl) dL_law_1462 hcs (fun _ => rfl) (fun u9 H locs hpx hP hD hS => ?_)
      obtain ⟨BF2x, FI2x, FJ2x, FW2x, RF2x, RB2x⟩ := u9
      have hpx : (∀ k : Int, 0 ≤ k → k < fn → (∀ j : Int, 0 ≤ j → j < 7 → BF2x k j = BF k j) ∧ (∀ j : Int, 0 ≤ j → j < BF k 6 → FI2x k j = FI k j) ∧ (∀ j : Int, 0 ≤ j → j < BF k 6 → FJ2x k j = FJ k j) ∧ (∀ j : Int, 0 ≤ j → j < BF k 6 → FW2x k j = FW k j)) ∧ (∀ j : Int, 0 ≤ j → j < rn → RF2x j = RF j) ∧ (∀ j : Int, 0 ≤ j → j < rn → RB2x j = RB j) := hpx
      have hP : va_P D vwCl (WL y a q rf tn TB gl gp gx gy GK fn BF FI FJ FW rn rk ra RF RB WA PM PN WY dc DE p1 p2 wl HE BE ck cf OP TM SH 1 fn BF2x FI2x FJ2x FW2x rn krk kra RF2x RB2x vs jfn JF JI JJ JW jrn jrk jra JRF JRB mrl mrp gl gp gx gy tn fn vw vm vn vc fs rn MR MG MT MB MC MRe ME MCh MS MF MRd MIk MKm MKb MKc MKf MKr) H := hP
      have hD : va_D (A9 s) (WL y a q rf tn TB gl gp gx gy GK fn BF FI FJ FW rn rk ra RF RB WA PM PN WY dc DE p1 p2 wl HE BE ck cf OP TM SH 1 fn BF2x FI2x FJ2x FW2x rn krk kra RF2x RB2x vs jfn JF JI JJ JW jrn jrk jra JRF JRB mrl mrp gl gp gx gy tn fn vw vm vn vc fs rn MR MG MT MB MC MRe ME MCh MS MF MRd MIk MKm MKb MKc MKf MKr) := hD
      refine lv_aload_n hx hb dL_law_1465 rfl (lv_at hl 2 rfl) ?_
      refine z_arg hx hb hX hbl hbA hS hl (by omega) hv1 dL_law_1466 dL_law_1467 dL_law_1468 dL_law_1469 dL_law_1470 ?_
      refine z_wL (As := [zi 0]) (rest := [zi fn]) hC (c_X12_keep l D y (a 35) (a 36) mrl mrp (a 37) gl gp gx gy (a 38) tn fn (a 39) (a 40) vw vm vn (a 41) (a 42) vc (a 43) (a 44) fs rn (a 45) (a 46) (a 47) (a 48) (a 49) (a 50) (a 51) (a 52) MB MC MF MRd MIk MKm MKb MKc MKf MKr 0 (by omega) hR.2.2.2.2 _) (cwV 1 hts gT_X12_keep rfl rfl rfl (by decide +kernel) ⟨Nat.le_of_ble_eq_true rfl, Nat.le_of_ble_eq_true rfl⟩) hG hP hD hS hA [] [109, 113, 114, 119, 120, 121, 122, 123, 124, 125, 126] rfl rfl (by decide) (by decide) rfl rfl rfl hl.1 rfl (Nat.le_of_ble_eq_true rfl) dL_law_1471 hcs (fun _ => rfl) (fun u9 H locs hpm hP hD hS => ?_)
      obtain ⟨MIk2m, MKm2m, MKb2m, MKc2m, MKf2m, MKr2m⟩ := u9
      have hpm : MIk2m = iu MIk 0 1 ∧ MKm2m = iu (iu MKm (2 * 0) fn) (2 * 0 + 1) rn ∧ (∀ j : Int, MKb2m j = if 42 * 0 ≤ j ∧ j < 42 * 0 + 42 then MB (j - 42 * 0) else MKb j) ∧ (∀ j : Int, MKc2m j = if 144 * 0 ≤ j ∧ j < 144 * 0 + 144 then MC (j - 144 * 0) else MKc j) ∧ (∀ j : Int, MKf2m j = if 12 * 0 ≤ j ∧ j < 12 * 0 + 12 then MF (j - 12 * 0) else MKf j) ∧ (∀ j : Int, MKr2m j = if 12 * 0 ≤ j ∧ j < 12 * 0 + 12 then MRd (j - 12 * 0) else MKr j) := hpm
      have hP : va_P D vwCl (WL y a q rf tn TB gl gp gx gy GK fn BF FI FJ FW rn rk ra RF RB WA PM PN WY dc DE p1 p2 wl HE BE ck cf OP TM SH 1 fn BF2x FI2x FJ2x FW2x rn krk kra RF2x RB2x vs jfn JF JI JJ JW jrn jrk jra JRF JRB mrl mrp gl gp gx gy tn fn vw vm vn vc fs rn MR MG MT MB MC MRe ME MCh MS MF MRd MIk2m MKm2m MKb2m MKc2m MKf2m MKr2m) H := hP
      have hD : va_D (A9 s) (WL y a q rf tn TB gl gp gx gy GK fn BF FI FJ FW rn rk ra RF RB WA PM PN WY dc DE p1 p2 wl HE BE ck cf OP TM SH 1 fn BF2x FI2x FJ2x FW2x rn krk kra RF2x RB2x vs jfn JF JI JJ JW jrn jrk jra JRF JRB mrl mrp gl gp gx gy tn fn vw vm vn vc fs rn MR MG MT MB MC MRe ME MCh MS MF MRd MIk2m MKm2m MKb2m MKc2m MKf2m MKr2m) := hD
      refine z_ieq (a := fn) (b2 := fn) (tgt := 1525) hx hb (rfl) dL_law_1474 (by decide) ?_
      exact kk _ _ (WI_intro hP hD hS hT hg hF hR (IS_keep hF hR hpx.1 hpx.2 hpm) (IS_other h1 (by decide) hpm) hw)
    ·
      subst e9
      refine z_wLR (As := [zi 1]) (rest := []) hC (c_X11_keep l D y (a 0) (a 1) (a 3) (a 5) (a 7) (a 10) (a 11) (a 16) (a 18) (a 19) (rf 3) (a 29) 1 (a 6) fn (rf 0) (q 0) (q 1) (q 2) (q 3) BF FI FJ FW (a 30) (a 31) jfn (rf 2) (q 8) (q 9) (q 10) (q 11) JF JI JJ JW (a 8) (a 9) rn rk ra RF RB (a 32) (a 33) (a 34) jrn jrk jra JRF JRB vs (by omega) hfx.2.2.2.2 hfx.2.2.1 hfx.1 (IFl_x hF) (by omega) hR.1 _) (cwV 1 hts gT_X11_keep rfl rfl rfl (by decide +kernel) ⟨Nat.le_of_ble_eq_true rfl, Nat.le_of_ble_eq_true rfl⟩) hG hP hD hS hA [0, 34, 5, 6, 7, 8, 9, 10, 11, 12, 13, 14, 15, 16, 17, 18, 19, 20, 21, 22, 23, 24, 25, 26, 27, 28, 29, 30, 31, 32, 33, 81] [79, 80, 82, 83, 84, 85, 86, 87, 88, 89, 90, 91, 92, 93, 94, 95, 96, 97, 98, 99, 100, 101, 102, 103, 104, 105, 106, 107, 108] rfl rfl (by decide) (by decide) rfl rfl rfl hl.1 rfl (Nat.le_of_ble_eq_true rfl) dL_law_1462 hcs (fun _ => rfl) (fun u9 H locs hpx hP hD hS => ?_)
      obtain ⟨BF2x, FI2x, FJ2x, FW2x, RF2x, RB2x⟩ := u9
      have hpx : (∀ k : Int, 0 ≤ k → k < fn → (∀ j : Int, 0 ≤ j → j < 7 → BF2x k j = BF k j) ∧ (∀ j : Int, 0 ≤ j → j < BF k 6 → FI2x k j = FI k j) ∧ (∀ j : Int, 0 ≤ j → j < BF k 6 → FJ2x k j = FJ k j) ∧ (∀ j : Int, 0 ≤ j → j < BF k 6 → FW2x k j = FW k j)) ∧ (∀ j : Int, 0 ≤ j → j < rn → RF2x j = RF j) ∧ (∀ j : Int, 0 ≤ j → j < rn → RB2x j = RB j) := hpx
      have hP : va_P D vwCl (WL y a q rf tn TB gl gp gx gy GK fn BF FI FJ FW rn rk ra RF RB WA PM PN WY dc DE p1 p2 wl HE BE ck cf OP TM SH us kfn KF KI KJ KW krn krk kra KRF KRB 1 fn BF2x FI2x FJ2x FW2x rn jrk jra RF2x RB2x mrl mrp gl gp gx gy tn fn vw vm vn vc fs rn MR MG MT MB MC MRe ME MCh MS MF MRd MIk MKm MKb MKc MKf MKr) H := hP
      have hD : va_D (A9 s) (WL y a q rf tn TB gl gp gx gy GK fn BF FI FJ FW rn rk ra RF RB WA PM PN WY dc DE p1 p2 wl HE BE ck cf OP TM SH us kfn KF KI KJ KW krn krk kra KRF KRB 1 fn BF2x FI2x FJ2x FW2x rn jrk jra RF2x RB2x mrl mrp gl gp gx gy tn fn vw vm vn vc fs rn MR MG MT MB MC MRe ME MCh MS MF MRd MIk MKm MKb MKc MKf MKr) := hD
      refine lv_aload_n hx hb dL_law_1465 rfl (lv_at hl 2 rfl) ?_
      refine z_arg hx hb hX hbl hbA hS hl (by omega) hv1 dL_law_1466 dL_law_1467 dL_law_1468 dL_law_1469 dL_law_1470 ?_
      refine z_wL (As := [zi 1]) (rest := [zi fn]) hC (c_X12_keep l D y (a 35) (a 36) mrl mrp (a 37) gl gp gx gy (a 38) tn fn (a 39) (a 40) vw vm vn (a 41) (a 42) vc (a 43) (a 44) fs rn (a 45) (a 46) (a 47) (a 48) (a 49) (a 50) (a 51) (a 52) MB MC MF MRd MIk MKm MKb MKc MKf MKr 1 (by omega) hR.2.2.2.2 _) (cwV 1 hts gT_X12_keep rfl rfl rfl (by decide +kernel) ⟨Nat.le_of_ble_eq_true rfl, Nat.le_of_ble_eq_true rfl⟩) hG hP hD hS hA [] [109, 113, 114, 119, 120, 121, 122, 123, 124, 125, 126] rfl rfl (by decide) (by decide) rfl rfl rfl hl.1 rfl (Nat.le_of_ble_eq_true rfl) dL_law_1471 hcs (fun _ => rfl) (fun u9 H locs hpm hP hD hS => ?_)
      obtain ⟨MIk2m, MKm2m, MKb2m, MKc2m, MKf2m, MKr2m⟩ := u9
      have hpm : MIk2m = iu MIk 1 1 ∧ MKm2m = iu (iu MKm (2 * 1) fn) (2 * 1 + 1) rn ∧ (∀ j : Int, MKb2m j = if 42 * 1 ≤ j ∧ j < 42 * 1 + 42 then MB (j - 42 * 1) else MKb j) ∧ (∀ j : Int, MKc2m j = if 144 * 1 ≤ j ∧ j < 144 * 1 + 144 then MC (j - 144 * 1) else MKc j) ∧ (∀ j : Int, MKf2m j = if 12 * 1 ≤ j ∧ j < 12 * 1 + 12 then MF (j - 12 * 1) else MKf j) ∧ (∀ j : Int, MKr2m j = if 12 * 1 ≤ j ∧ j < 12 * 1 + 12 then MRd (j - 12 * 1) else MKr j) := hpm
      have hP : va_P D vwCl (WL y a q rf tn TB gl gp gx gy GK fn BF FI FJ FW rn rk ra RF RB WA PM PN WY dc DE p1 p2 wl HE BE ck cf OP TM SH us kfn KF KI KJ KW krn krk kra KRF KRB 1 fn BF2x FI2x FJ2x FW2x rn jrk jra RF2x RB2x mrl mrp gl gp gx gy tn fn vw vm vn vc fs rn MR MG MT MB MC MRe ME MCh MS MF MRd MIk2m MKm2m MKb2m MKc2m MKf2m MKr2m) H := hP
      have hD : va_D (A9 s) (WL y a q rf tn TB gl gp gx gy GK fn BF FI FJ FW rn rk ra RF RB WA PM PN WY dc DE p1 p2 wl HE BE ck cf OP TM SH us kfn KF KI KJ KW krn krk kra KRF KRB 1 fn BF2x FI2x FJ2x FW2x rn jrk jra RF2x RB2x mrl mrp gl gp gx gy tn fn vw vm vn vc fs rn MR MG MT MB MC MRe ME MCh MS MF MRd MIk2m MKm2m MKb2m MKc2m MKf2m MKr2m) := hD
      refine z_ieq (a := fn) (b2 := fn) (tgt := 1525) hx hb (rfl) dL_law_1474 (by decide) ?_
      exact kk _ _ (WI_intro hP hD hS hT hg hF hR (IS_other h0 (by decide) hpm) (IS_keep hF hR hpx.1 hpx.2 hpm) hw)
  ·
    refine z_pL (As := [zi v1]) (rest := []) hC (c_X11_keep_no l D y (a 0) (a 1) (a 3) (a 5) (a 7) (a 10) (a 11) (a 16) (a 18) (a 19) (rf 3) v1 (by omega)) (cwV 1 hts gT_X11_keep rfl rfl rfl (by decide +kernel) ⟨Nat.le_of_ble_eq_true rfl, Nat.le_of_ble_eq_true rfl⟩) hG hP [0, 34] rfl rfl rfl rfl hl.1 rfl (Nat.le_of_ble_eq_true rfl) dL_law_1462 hcs ?_
    refine lv_aload_n hx hb dL_law_1465 rfl (lv_at hl 2 rfl) ?_
    refine z_arg hx hb hX hbl hbA hS hl (by omega) hv1 dL_law_1466 dL_law_1467 dL_law_1468 dL_law_1469 dL_law_1470 ?_
    refine z_pL (As := [zi v1]) (rest := [zi (-1)]) hC (c_X12_keep_no l D y (a 35) (a 36) mrl mrp (a 37) gl gp gx gy (a 38) tn fn (a 39) (a 40) vw vm vn (a 41) (a 42) vc (a 43) (a 44) fs rn (a 45) (a 46) (a 47) (a 48) (a 49) (a 50) (a 51) (a 52) v1 (by omega) (by omega)) (cwV 1 hts gT_X12_keep rfl rfl rfl (by decide +kernel) ⟨Nat.le_of_ble_eq_true rfl, Nat.le_of_ble_eq_true rfl⟩) hG hP [109] rfl rfl rfl rfl hl.1 rfl (Nat.le_of_ble_eq_true rfl) dL_law_1471 hcs ?_
    refine z_ieq (a := (-1)) (b2 := (-1)) (tgt := 1525) hx hb (rfl) dL_law_1474 (by decide) ?_
    exact kk _ _ (WI_intro hP hD hS hT hg hF hR h0 h1 hw)
