set_option maxHeartbeats 16000000 in
set_option maxRecDepth 100000 in
theorem L_again {p : Program} (l : Launch) {e : Env} {s : State} {m : MethodId} {below : List Frame} {meth : Method} {c : Code} {b L : Nat} {xs : Nat → Int32} {D : va_G} {y : Nat → ClassId} {a : Nat → Nat} {q : Nat → Int → Nat} {rf : Nat → Nat → Option Nat} {Z : State → Prop} {cells slots : Nat} (X : LX p s m c b L xs D y a q rf) (hcs : cells ≤ room_1.cells ∧ slots ≤ room_1.slots) {i : Int} (hi : 0 ≤ i ∧ i + 5 ≤ L) {H : Heap} {locs : List Loc} {ls : Array Slot} (hl : lv_has ls 4 [(0, .ref b), (1, .ref (a 0)), (2, .ref (a 35)), (3, zi i)]) (hW : WI D y a q rf s H locs) (kk : ∀ (H : Heap) (locs : List Loc), WI D y a q rf s H locs → W p l e room_1 s m #[.ref b] below meth c H locs cells slots Z (F0 m 1525 ls [])) : W p l e room_1 s m #[.ref b] below meth c H locs cells slots Z (F0 m 1479 ls []) := by
  obtain ⟨hC, hG, hX, hbl, hL, hfx⟩ := X
  have hC0 := hC
  obtain ⟨hx, hb, hml, hown, hts⟩ := hC0
  have hA : ∀ z : Nat, s.heap.size ≤ z → A9 s z := fun _ h => h
  have hbA : ¬ A9 s b := Nat.not_le.mpr hbl
  refine WI_elim hW (fun tn TB gl gp gx gy GK fn BF FI FJ FW rn rk ra RF RB WA PM PN WY dc DE p1 p2 wl HE BE ck cf OP TM SH us kfn KF KI KJ KW krn krk kra KRF KRB vs jfn JF JI JJ JW jrn jrk jra JRF JRB mrl mrp vw vm vn vc fs MR MG MT MB MC MRe ME MCh MS MF MRd MIk MKm MKb MKc MKf MKr hP hD hS hT hg hF hR h0 h1 hw => ?_)
  have f6 := hF.1
  have g6 := hg.1
  obtain ⟨g61, g62, g63, g64, g65⟩ := g6
  obtain ⟨v1, hv1⟩ : ∃ z, sx xs (i + 1) = z := ⟨_, rfl⟩
  have r1 : rI v1 := hv1 ▸ sx_r xs _
  refine lv_aload_n hx hb dL_law_1479 rfl (lv_at hl 1 rfl) ?_
  refine z_arg hx hb hX hbl hbA hS hl (by omega) hv1 dL_law_1480 dL_law_1481 dL_law_1482 dL_law_1483 dL_law_1484 ?_
  by_cases c1 : 0 ≤ v1 ∧ v1 ≤ 1
  ·
    rcases (by omega : v1 = 0 ∨ v1 = 1) with e9 | e9
    ·
      subst e9
      have o9 := h0.1
      by_cases c2 : us = 1
      ·
        refine z_wLR (As := [zi 0]) (rest := []) hC (c_X11_again l D y (a 0) (a 1) (a 3) (a 5) (a 7) (a 10) (a 11) (a 16) (a 18) (a 19) (rf 3) (a 23) 0 (a 6) fn (rf 0) (q 0) (q 1) (q 2) (q 3) BF FI FJ FW (a 24) (a 25) kfn (rf 1) (q 4) (q 5) (q 6) (q 7) KF KI KJ KW (a 8) (a 9) rn rk ra RF RB (a 26) (a 27) (a 28) krn krk kra KRF KRB us (by omega) hfx.2.2.2.1 (by omega) hfx.1 hfx.2.1 (IFl_x (h0.2.2.2 c2).2.2.1) (h0.2.2.2 c2).2.2.1.1 (h0.2.2.2 c2).2.2.2.1 _) (cwV 1 hts gT_X11_again rfl rfl rfl (by decide +kernel) ⟨Nat.le_of_ble_eq_true rfl, Nat.le_of_ble_eq_true rfl⟩) hG hP hD hS hA [0, 34, 49, 6, 50, 51, 52, 53, 54, 55, 56, 57, 58, 59, 60, 61, 62, 63, 64, 65, 66, 67, 68, 69, 70, 71, 72, 73, 74, 75, 76, 77, 78] [5, 7, 8, 9, 10, 11, 12, 13, 14, 15, 16, 17, 18, 19, 20, 21, 22, 23, 24, 25, 26, 27, 28, 29, 30, 31, 32, 33] rfl rfl (by decide) (by decide) rfl rfl rfl hl.1 rfl (Nat.le_of_ble_eq_true rfl) dL_law_1485 hcs (fun _ => rfl) (fun u9 H locs hpx hP hD hS => ?_)
        obtain ⟨BF2x, FI2x, FJ2x, FW2x, RF2x, RB2x⟩ := u9
        have hpx : (∀ k : Int, 0 ≤ k → k < kfn → (∀ j : Int, 0 ≤ j → j < 7 → BF2x k j = KF k j) ∧ (∀ j : Int, 0 ≤ j → j < KF k 6 → FI2x k j = KI k j) ∧ (∀ j : Int, 0 ≤ j → j < KF k 6 → FJ2x k j = KJ k j) ∧ (∀ j : Int, 0 ≤ j → j < KF k 6 → FW2x k j = KW k j)) ∧ (∀ j : Int, 0 ≤ j → j < krn → RF2x j = KRF j) ∧ (∀ j : Int, 0 ≤ j → j < krn → RB2x j = KRB j) := hpx
        have hP : va_P D vwCl (WL y a q rf tn TB gl gp gx gy GK kfn BF2x FI2x FJ2x FW2x krn rk ra RF2x RB2x WA PM PN WY dc DE p1 p2 wl HE BE ck cf OP TM SH us kfn KF KI KJ KW krn krk kra KRF KRB vs jfn JF JI JJ JW jrn jrk jra JRF JRB mrl mrp gl gp gx gy tn fn vw vm vn vc fs rn MR MG MT MB MC MRe ME MCh MS MF MRd MIk MKm MKb MKc MKf MKr) H := hP
        have hD : va_D (A9 s) (WL y a q rf tn TB gl gp gx gy GK kfn BF2x FI2x FJ2x FW2x krn rk ra RF2x RB2x WA PM PN WY dc DE p1 p2 wl HE BE ck cf OP TM SH us kfn KF KI KJ KW krn krk kra KRF KRB vs jfn JF JI JJ JW jrn jrk jra JRF JRB mrl mrp gl gp gx gy tn fn vw vm vn vc fs rn MR MG MT MB MC MRe ME MCh MS MF MRd MIk MKm MKb MKc MKf MKr) := hD
        refine lv_aload_n hx hb dL_law_1488 rfl (lv_at hl 2 rfl) ?_
        refine z_arg hx hb hX hbl hbA hS hl (by omega) hv1 dL_law_1489 dL_law_1490 dL_law_1491 dL_law_1492 dL_law_1493 ?_
        refine z_wL (As := [zi 0]) (rest := [zi kfn]) hC (c_X12_again l D y (a 35) (a 36) mrl mrp (a 37) gl gp gx gy (a 38) tn fn (a 39) (a 40) vw vm vn (a 41) (a 42) vc (a 43) (a 44) fs rn (a 45) (a 46) (a 47) (a 48) (a 49) (a 50) (a 51) (a 52) MB MC MF MRd MIk MKm MKb MKc MKf MKr 0 (by omega) (by have := h0.2.1; omega) (IS_01 h0 h1) _) (cwV 1 hts gT_X12_again rfl rfl rfl (by decide +kernel) ⟨Nat.le_of_ble_eq_true rfl, Nat.le_of_ble_eq_true rfl⟩) hG hP hD hS hA [] [109, 113, 114, 119, 120, 121, 122, 123, 124, 125, 126] rfl rfl (by decide) (by decide) rfl rfl rfl hl.1 rfl (Nat.le_of_ble_eq_true rfl) dL_law_1494 hcs (fun _ => rfl) (fun u9 H locs hpm hP hD hS => ?_)
        obtain ⟨MB2m, MC2m, MF2m, MRd2m, fn2m, rn2m⟩ := u9
        have hpm : fn2m = MKm (2 * 0) ∧ rn2m = MKm (2 * 0 + 1) ∧ (∀ j : Int, 0 ≤ j → j < 42 → MB2m j = MKb (42 * 0 + j)) ∧ (∀ j : Int, 0 ≤ j → j < 144 → MC2m j = MKc (144 * 0 + j)) ∧ (∀ j : Int, 0 ≤ j → j < 12 → MF2m j = MKf (12 * 0 + j)) ∧ (∀ j : Int, 0 ≤ j → j < 12 → MRd2m j = MKr (12 * 0 + j)) := hpm
        have hP : va_P D vwCl (WL y a q rf tn TB gl gp gx gy GK kfn BF2x FI2x FJ2x FW2x krn rk ra RF2x RB2x WA PM PN WY dc DE p1 p2 wl HE BE ck cf OP TM SH us kfn KF KI KJ KW krn krk kra KRF KRB vs jfn JF JI JJ JW jrn jrk jra JRF JRB mrl mrp gl gp gx gy tn fn2m vw vm vn vc fs rn2m MR MG MT MB2m MC2m MRe ME MCh MS MF2m MRd2m MIk MKm MKb MKc MKf MKr) H := hP
        have hD : va_D (A9 s) (WL y a q rf tn TB gl gp gx gy GK kfn BF2x FI2x FJ2x FW2x krn rk ra RF2x RB2x WA PM PN WY dc DE p1 p2 wl HE BE ck cf OP TM SH us kfn KF KI KJ KW krn krk kra KRF KRB vs jfn JF JI JJ JW jrn jrk jra JRF JRB mrl mrp gl gp gx gy tn fn2m vw vm vn vc fs rn2m MR MG MT MB2m MC2m MRe ME MCh MS MF2m MRd2m MIk MKm MKb MKc MKf MKr) := hD
        obtain ⟨z1, z2, hF7, hR7⟩ := IS_again h0 c2 hpx.1 hpx.2 hpm
        rw [z1, z2] at hP hD
        refine z_ieq (a := kfn) (b2 := (MKm (2 * 0))) (tgt := 1525) hx hb ((h0.2.2.2 c2).1.symm) dL_law_1497 (by decide) ?_
        exact kk _ _ (WI_intro hP hD hS hT hg hF7 hR7 h0 h1 hw)
      ·
        refine z_pL (As := [zi 0]) (rest := []) hC (c_X11_again_not l D y (a 0) (a 1) (a 3) (a 5) (a 7) (a 10) (a 11) (a 16) (a 18) (a 19) (rf 3) (a 23) 0 us (a 24) (a 26) (by omega) hfx.2.2.2.1 (by omega)) (cwV 1 hts gT_X11_again rfl rfl rfl (by decide +kernel) ⟨Nat.le_of_ble_eq_true rfl, Nat.le_of_ble_eq_true rfl⟩) hG hP [0, 34, 49] rfl rfl rfl rfl hl.1 rfl (Nat.le_of_ble_eq_true rfl) dL_law_1485 hcs ?_
        refine lv_aload_n hx hb dL_law_1488 rfl (lv_at hl 2 rfl) ?_
        refine z_arg hx hb hX hbl hbA hS hl (by omega) hv1 dL_law_1489 dL_law_1490 dL_law_1491 dL_law_1492 dL_law_1493 ?_
        refine z_pL (As := [zi 0]) (rest := [zi (-3)]) hC (c_X12_again_not l D y (a 35) (a 36) mrl mrp (a 37) gl gp gx gy (a 38) tn fn (a 39) (a 40) vw vm vn (a 41) (a 42) vc (a 43) (a 44) fs rn (a 45) (a 46) (a 47) (a 48) (a 49) (a 50) (a 51) (a 52) MIk 0 (by omega) (by have := h0.2.1; omega)) (cwV 1 hts gT_X12_again rfl rfl rfl (by decide +kernel) ⟨Nat.le_of_ble_eq_true rfl, Nat.le_of_ble_eq_true rfl⟩) hG hP [109, 121] rfl rfl rfl rfl hl.1 rfl (Nat.le_of_ble_eq_true rfl) dL_law_1494 hcs ?_
        refine z_ieq (a := (-3)) (b2 := (-3)) (tgt := 1525) hx hb (rfl) dL_law_1497 (by decide) ?_
        exact kk _ _ (WI_intro hP hD hS hT hg hF hR h0 h1 hw)
    ·
      subst e9
      have o9 := h1.1
      by_cases c2 : vs = 1
      ·
        refine z_wLR (As := [zi 1]) (rest := []) hC (c_X11_again l D y (a 0) (a 1) (a 3) (a 5) (a 7) (a 10) (a 11) (a 16) (a 18) (a 19) (rf 3) (a 29) 1 (a 6) fn (rf 0) (q 0) (q 1) (q 2) (q 3) BF FI FJ FW (a 30) (a 31) jfn (rf 2) (q 8) (q 9) (q 10) (q 11) JF JI JJ JW (a 8) (a 9) rn rk ra RF RB (a 32) (a 33) (a 34) jrn jrk jra JRF JRB vs (by omega) hfx.2.2.2.2 (by omega) hfx.1 hfx.2.2.1 (IFl_x (h1.2.2.2 c2).2.2.1) (h1.2.2.2 c2).2.2.1.1 (h1.2.2.2 c2).2.2.2.1 _) (cwV 1 hts gT_X11_again rfl rfl rfl (by decide +kernel) ⟨Nat.le_of_ble_eq_true rfl, Nat.le_of_ble_eq_true rfl⟩) hG hP hD hS hA [0, 34, 79, 6, 80, 81, 82, 83, 84, 85, 86, 87, 88, 89, 90, 91, 92, 93, 94, 95, 96, 97, 98, 99, 100, 101, 102, 103, 104, 105, 106, 107, 108] [5, 7, 8, 9, 10, 11, 12, 13, 14, 15, 16, 17, 18, 19, 20, 21, 22, 23, 24, 25, 26, 27, 28, 29, 30, 31, 32, 33] rfl rfl (by decide) (by decide) rfl rfl rfl hl.1 rfl (Nat.le_of_ble_eq_true rfl) dL_law_1485 hcs (fun _ => rfl) (fun u9 H locs hpx hP hD hS => ?_)
        obtain ⟨BF2x, FI2x, FJ2x, FW2x, RF2x, RB2x⟩ := u9
        have hpx : (∀ k : Int, 0 ≤ k → k < jfn → (∀ j : Int, 0 ≤ j → j < 7 → BF2x k j = JF k j) ∧ (∀ j : Int, 0 ≤ j → j < JF k 6 → FI2x k j = JI k j) ∧ (∀ j : Int, 0 ≤ j → j < JF k 6 → FJ2x k j = JJ k j) ∧ (∀ j : Int, 0 ≤ j → j < JF k 6 → FW2x k j = JW k j)) ∧ (∀ j : Int, 0 ≤ j → j < jrn → RF2x j = JRF j) ∧ (∀ j : Int, 0 ≤ j → j < jrn → RB2x j = JRB j) := hpx
        have hP : va_P D vwCl (WL y a q rf tn TB gl gp gx gy GK jfn BF2x FI2x FJ2x FW2x jrn rk ra RF2x RB2x WA PM PN WY dc DE p1 p2 wl HE BE ck cf OP TM SH us kfn KF KI KJ KW krn krk kra KRF KRB vs jfn JF JI JJ JW jrn jrk jra JRF JRB mrl mrp gl gp gx gy tn fn vw vm vn vc fs rn MR MG MT MB MC MRe ME MCh MS MF MRd MIk MKm MKb MKc MKf MKr) H := hP
        have hD : va_D (A9 s) (WL y a q rf tn TB gl gp gx gy GK jfn BF2x FI2x FJ2x FW2x jrn rk ra RF2x RB2x WA PM PN WY dc DE p1 p2 wl HE BE ck cf OP TM SH us kfn KF KI KJ KW krn krk kra KRF KRB vs jfn JF JI JJ JW jrn jrk jra JRF JRB mrl mrp gl gp gx gy tn fn vw vm vn vc fs rn MR MG MT MB MC MRe ME MCh MS MF MRd MIk MKm MKb MKc MKf MKr) := hD
        refine lv_aload_n hx hb dL_law_1488 rfl (lv_at hl 2 rfl) ?_
        refine z_arg hx hb hX hbl hbA hS hl (by omega) hv1 dL_law_1489 dL_law_1490 dL_law_1491 dL_law_1492 dL_law_1493 ?_
        refine z_wL (As := [zi 1]) (rest := [zi jfn]) hC (c_X12_again l D y (a 35) (a 36) mrl mrp (a 37) gl gp gx gy (a 38) tn fn (a 39) (a 40) vw vm vn (a 41) (a 42) vc (a 43) (a 44) fs rn (a 45) (a 46) (a 47) (a 48) (a 49) (a 50) (a 51) (a 52) MB MC MF MRd MIk MKm MKb MKc MKf MKr 1 (by omega) (by have := h1.2.1; omega) (IS_01 h0 h1) _) (cwV 1 hts gT_X12_again rfl rfl rfl (by decide +kernel) ⟨Nat.le_of_ble_eq_true rfl, Nat.le_of_ble_eq_true rfl⟩) hG hP hD hS hA [] [109, 113, 114, 119, 120, 121, 122, 123, 124, 125, 126] rfl rfl (by decide) (by decide) rfl rfl rfl hl.1 rfl (Nat.le_of_ble_eq_true rfl) dL_law_1494 hcs (fun _ => rfl) (fun u9 H locs hpm hP hD hS => ?_)
        obtain ⟨MB2m, MC2m, MF2m, MRd2m, fn2m, rn2m⟩ := u9
        have hpm : fn2m = MKm (2 * 1) ∧ rn2m = MKm (2 * 1 + 1) ∧ (∀ j : Int, 0 ≤ j → j < 42 → MB2m j = MKb (42 * 1 + j)) ∧ (∀ j : Int, 0 ≤ j → j < 144 → MC2m j = MKc (144 * 1 + j)) ∧ (∀ j : Int, 0 ≤ j → j < 12 → MF2m j = MKf (12 * 1 + j)) ∧ (∀ j : Int, 0 ≤ j → j < 12 → MRd2m j = MKr (12 * 1 + j)) := hpm
        have hP : va_P D vwCl (WL y a q rf tn TB gl gp gx gy GK jfn BF2x FI2x FJ2x FW2x jrn rk ra RF2x RB2x WA PM PN WY dc DE p1 p2 wl HE BE ck cf OP TM SH us kfn KF KI KJ KW krn krk kra KRF KRB vs jfn JF JI JJ JW jrn jrk jra JRF JRB mrl mrp gl gp gx gy tn fn2m vw vm vn vc fs rn2m MR MG MT MB2m MC2m MRe ME MCh MS MF2m MRd2m MIk MKm MKb MKc MKf MKr) H := hP
        have hD : va_D (A9 s) (WL y a q rf tn TB gl gp gx gy GK jfn BF2x FI2x FJ2x FW2x jrn rk ra RF2x RB2x WA PM PN WY dc DE p1 p2 wl HE BE ck cf OP TM SH us kfn KF KI KJ KW krn krk kra KRF KRB vs jfn JF JI JJ JW jrn jrk jra JRF JRB mrl mrp gl gp gx gy tn fn2m vw vm vn vc fs rn2m MR MG MT MB2m MC2m MRe ME MCh MS MF2m MRd2m MIk MKm MKb MKc MKf MKr) := hD
        obtain ⟨z1, z2, hF7, hR7⟩ := IS_again h1 c2 hpx.1 hpx.2 hpm
        rw [z1, z2] at hP hD
        refine z_ieq (a := jfn) (b2 := (MKm (2 * 1))) (tgt := 1525) hx hb ((h1.2.2.2 c2).1.symm) dL_law_1497 (by decide) ?_
        exact kk _ _ (WI_intro hP hD hS hT hg hF7 hR7 h0 h1 hw)
      ·
        refine z_pL (As := [zi 1]) (rest := []) hC (c_X11_again_not l D y (a 0) (a 1) (a 3) (a 5) (a 7) (a 10) (a 11) (a 16) (a 18) (a 19) (rf 3) (a 29) 1 vs (a 30) (a 32) (by omega) hfx.2.2.2.2 (by omega)) (cwV 1 hts gT_X11_again rfl rfl rfl (by decide +kernel) ⟨Nat.le_of_ble_eq_true rfl, Nat.le_of_ble_eq_true rfl⟩) hG hP [0, 34, 79] rfl rfl rfl rfl hl.1 rfl (Nat.le_of_ble_eq_true rfl) dL_law_1485 hcs ?_
        refine lv_aload_n hx hb dL_law_1488 rfl (lv_at hl 2 rfl) ?_
        refine z_arg hx hb hX hbl hbA hS hl (by omega) hv1 dL_law_1489 dL_law_1490 dL_law_1491 dL_law_1492 dL_law_1493 ?_
        refine z_pL (As := [zi 1]) (rest := [zi (-3)]) hC (c_X12_again_not l D y (a 35) (a 36) mrl mrp (a 37) gl gp gx gy (a 38) tn fn (a 39) (a 40) vw vm vn (a 41) (a 42) vc (a 43) (a 44) fs rn (a 45) (a 46) (a 47) (a 48) (a 49) (a 50) (a 51) (a 52) MIk 1 (by omega) (by have := h1.2.1; omega)) (cwV 1 hts gT_X12_again rfl rfl rfl (by decide +kernel) ⟨Nat.le_of_ble_eq_true rfl, Nat.le_of_ble_eq_true rfl⟩) hG hP [109, 121] rfl rfl rfl rfl hl.1 rfl (Nat.le_of_ble_eq_true rfl) dL_law_1494 hcs ?_
        refine z_ieq (a := (-3)) (b2 := (-3)) (tgt := 1525) hx hb (rfl) dL_law_1497 (by decide) ?_
        exact kk _ _ (WI_intro hP hD hS hT hg hF hR h0 h1 hw)
  ·
    refine z_pL (As := [zi v1]) (rest := []) hC (c_X11_again_no l D y (a 0) (a 1) (a 3) (a 5) (a 7) (a 10) (a 11) (a 16) (a 18) (a 19) (rf 3) v1 (by omega)) (cwV 1 hts gT_X11_again rfl rfl rfl (by decide +kernel) ⟨Nat.le_of_ble_eq_true rfl, Nat.le_of_ble_eq_true rfl⟩) hG hP [0, 34] rfl rfl rfl rfl hl.1 rfl (Nat.le_of_ble_eq_true rfl) dL_law_1485 hcs ?_
    refine lv_aload_n hx hb dL_law_1488 rfl (lv_at hl 2 rfl) ?_
    refine z_arg hx hb hX hbl hbA hS hl (by omega) hv1 dL_law_1489 dL_law_1490 dL_law_1491 dL_law_1492 dL_law_1493 ?_
    refine z_pL (As := [zi v1]) (rest := [zi (-1)]) hC (c_X12_again_no l D y (a 35) (a 36) mrl mrp (a 37) gl gp gx gy (a 38) tn fn (a 39) (a 40) vw vm vn (a 41) (a 42) vc (a 43) (a 44) fs rn (a 45) (a 46) (a 47) (a 48) (a 49) (a 50) (a 51) (a 52) v1 (by omega) (by omega)) (cwV 1 hts gT_X12_again rfl rfl rfl (by decide +kernel) ⟨Nat.le_of_ble_eq_true rfl, Nat.le_of_ble_eq_true rfl⟩) hG hP [109] rfl rfl rfl rfl hl.1 rfl (Nat.le_of_ble_eq_true rfl) dL_law_1494 hcs ?_
    refine z_ieq (a := (-1)) (b2 := (-1)) (tgt := 1525) hx hb (rfl) dL_law_1497 (by decide) ?_
    exact kk _ _ (WI_intro hP hD hS hT hg hF hR h0 h1 hw)
