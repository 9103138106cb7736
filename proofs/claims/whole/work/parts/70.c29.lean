set_option maxHeartbeats 16000000 in
set_option maxRecDepth 100000 in
theorem L_split {p : Program} (l : Launch) {e : Env} {s : State} {m : MethodId} {below : List Frame} {meth : Method} {c : Code} {b L : Nat} {xs : Nat → Int32} {D : va_G} {y : Nat → ClassId} {a : Nat → Nat} {q : Nat → Int → Nat} {rf : Nat → Nat → Option Nat} {Z : State → Prop} {cells slots : Nat} (X : LX p s m c b L xs D y a q rf) (hcs : cells ≤ room_1.cells ∧ slots ≤ room_1.slots) {i : Int} (hi : 0 ≤ i ∧ i + 5 ≤ L) {H : Heap} {locs : List Loc} {ls : Array Slot} (hl : lv_has ls 4 [(0, .ref b), (1, .ref (a 0)), (2, .ref (a 35)), (3, zi i)]) (hW : WI D y a q rf s H locs) (kk : ∀ (H : Heap) (locs : List Loc), WI D y a q rf s H locs → W p l e room_1 s m #[.ref b] below meth c H locs cells slots Z (F0 m 1525 ls [])) : W p l e room_1 s m #[.ref b] below meth c H locs cells slots Z (F0 m 1321 ls []) := by
  obtain ⟨hC, hG, hX, hbl, hL, hfx⟩ := X
  have hC0 := hC
  obtain ⟨hx, hb, hml, hown, hts⟩ := hC0
  have hA : ∀ z : Nat, s.heap.size ≤ z → A9 s z := fun _ h => h
  have hbA : ¬ A9 s b := Nat.not_le.mpr hbl
  refine WI_elim hW (fun tn TB gl gp gx gy GK fn BF FI FJ FW rn rk ra RF RB WA PM PN WY dc DE p1 p2 wl HE BE ck cf OP TM SH us kfn KF KI KJ KW krn krk kra KRF KRB vs jfn JF JI JJ JW jrn jrk jra JRF JRB mrl mrp vw vm vn vc fs MR MG MT MB MC MRe ME MCh MS MF MRd MIk MKm MKb MKc MKf MKr hP hD hS hT hg hF hR h0 h1 hw => ?_)
  have f6 := hF.1
  have g6 := hg.1
  obtain ⟨g61, g62, g63, g64, g65⟩ := g6
  obtain ⟨v1, hv1⟩ : ∃ z, sx xs (i + 1) = z := ⟨_, rfl⟩
  have r1 : rI v1 := hv1 ▸ sx_r xs _
  obtain ⟨v2, hv2⟩ : ∃ z, sx xs (i + 2) = z := ⟨_, rfl⟩
  have r2 : rI v2 := hv2 ▸ sx_r xs _
  refine lv_aload_n hx hb dL_law_1321 rfl (lv_at hl 1 rfl) ?_
  refine z_arg hx hb hX hbl hbA hS hl (by omega) hv1 dL_law_1322 dL_law_1323 dL_law_1324 dL_law_1325 dL_law_1326 ?_
  refine z_arg hx hb hX hbl hbA hS hl (by omega) hv2 dL_law_1327 dL_law_1328 dL_law_1329 dL_law_1330 dL_law_1331 ?_
  by_cases c1 : (1 ≤ v1 ∧ v1 ≤ 9) ∧ 0 ≤ v2 ∧ v2 ≤ 9
  ·
    refine z_wLR (As := [zi v1, zi v2]) (rest := []) hC (c_X11_split l D y (a 0) (a 1) (a 3) (a 5) (a 7) (a 10) (a 11) (a 16) (a 18) (a 19) (a 4) gl gp gx gy GK (a 20) (a 21) (a 22) ck cf OP TM SH v1 v2 hg.1 (by omega) _) (cwV 2 hts gT_X11_split rfl rfl rfl (by decide +kernel) ⟨Nat.le_of_ble_eq_true rfl, Nat.le_of_ble_eq_true rfl⟩) hG hP hD hS hA [0, 3, 4] [45, 46, 47, 48] rfl rfl (by decide +kernel) (by decide +kernel) rfl rfl rfl hl.1 rfl (Nat.le_of_ble_eq_true rfl) dL_law_1332 hcs (fun _ => rfl) (fun u9 H locs hpx hP hD hS => ?_)
    obtain ⟨OP2x, TM2x, SH2x, ck2x, cf2x⟩ := u9
    have hpx : True := hpx
    have hP : va_P D vwCl (WL y a q rf tn TB gl gp gx gy GK fn BF FI FJ FW rn rk ra RF RB WA PM PN WY dc DE p1 p2 wl HE BE ck2x cf2x OP2x TM2x SH2x us kfn KF KI KJ KW krn krk kra KRF KRB vs jfn JF JI JJ JW jrn jrk jra JRF JRB mrl mrp gl gp gx gy tn fn vw vm vn vc fs rn MR MG MT MB MC MRe ME MCh MS MF MRd MIk MKm MKb MKc MKf MKr) H := hP
    have hD : va_D (A9 s) (WL y a q rf tn TB gl gp gx gy GK fn BF FI FJ FW rn rk ra RF RB WA PM PN WY dc DE p1 p2 wl HE BE ck2x cf2x OP2x TM2x SH2x us kfn KF KI KJ KW krn krk kra KRF KRB vs jfn JF JI JJ JW jrn jrk jra JRF JRB mrl mrp gl gp gx gy tn fn vw vm vn vc fs rn MR MG MT MB MC MRe ME MCh MS MF MRd MIk MKm MKb MKc MKf MKr) := hD
    refine lv_aload_n hx hb dL_law_1335 rfl (lv_at hl 2 rfl) ?_
    refine z_arg hx hb hX hbl hbA hS hl (by omega) hv1 dL_law_1336 dL_law_1337 dL_law_1338 dL_law_1339 dL_law_1340 ?_
    refine z_arg hx hb hX hbl hbA hS hl (by omega) hv2 dL_law_1341 dL_law_1342 dL_law_1343 dL_law_1344 dL_law_1345 ?_
    refine z_wL (As := [zi v1, zi v2]) (rest := [zi (if 0 < sgI (opV gl gp GK) 3 then (spT (rsP (opV gl gp GK) (laneS gl gp GK) v1 v2) v1).2 else -3)]) hC (c_X12_split l D y (a 35) (a 36) mrl mrp (a 37) gl gp gx gy (a 38) tn fn (a 39) (a 40) vw vm vn (a 41) (a 42) vc (a 43) (a 44) fs rn (a 45) (a 46) (a 47) (a 48) (a 49) (a 50) (a 51) (a 52) MG MS v1 v2 hg.2.1 (by omega) _) (cwV 2 hts gT_X12_split rfl rfl rfl (by decide +kernel) ⟨Nat.le_of_ble_eq_true rfl, Nat.le_of_ble_eq_true rfl⟩) hG hP hD hS hA [] [109, 111, 118] rfl rfl (by decide +kernel) (by decide +kernel) rfl rfl rfl hl.1 rfl (Nat.le_of_ble_eq_true rfl) dL_law_1346 hcs (fun _ => rfl) (fun u9 H locs hpm hP hD hS => ?_)
    obtain ⟨fs2m, MS2m⟩ := u9
    have hpm : True := hpm
    have hP : va_P D vwCl (WL y a q rf tn TB gl gp gx gy GK fn BF FI FJ FW rn rk ra RF RB WA PM PN WY dc DE p1 p2 wl HE BE ck2x cf2x OP2x TM2x SH2x us kfn KF KI KJ KW krn krk kra KRF KRB vs jfn JF JI JJ JW jrn jrk jra JRF JRB mrl mrp gl gp gx gy tn fn vw vm vn vc fs2m rn MR MG MT MB MC MRe ME MCh MS2m MF MRd MIk MKm MKb MKc MKf MKr) H := hP
    have hD : va_D (A9 s) (WL y a q rf tn TB gl gp gx gy GK fn BF FI FJ FW rn rk ra RF RB WA PM PN WY dc DE p1 p2 wl HE BE ck2x cf2x OP2x TM2x SH2x us kfn KF KI KJ KW krn krk kra KRF KRB vs jfn JF JI JJ JW jrn jrk jra JRF JRB mrl mrp gl gp gx gy tn fn vw vm vn vc fs2m rn MR MG MT MB MC MRe ME MCh MS2m MF MRd MIk MKm MKb MKc MKf MKr) := hD
    refine z_ieq (a := (if 0 < sgI (opV gl gp GK) 3 then (spT (rsP (opV gl gp GK) (laneS gl gp GK) v1 v2) v1).2 else -3)) (b2 := (if 0 < sgI (opV gl gp MG) 3 then (spT (rsP (opV gl gp MG) (laneS gl gp MG) v1 v2) v1).2 else -3)) (tgt := 1525) hx hb (by rw [opV_congr hg.2.2, laneS_congr hg.2.2]) dL_law_1349 (by decide) ?_
    exact kk _ _ (WI_intro hP hD hS hT hg hF hR h0 h1 hw)
  ·
    refine z_pL (As := [zi v1, zi v2]) (rest := []) hC (c_X11_split_out l D y (a 0) (a 1) (a 3) (a 5) (a 7) (a 10) (a 11) (a 16) (a 18) (a 19) v1 v2 (by omega) (by omega)) (cwV 2 hts gT_X11_split rfl rfl rfl (by decide +kernel) ⟨Nat.le_of_ble_eq_true rfl, Nat.le_of_ble_eq_true rfl⟩) hG hP [0] rfl rfl rfl rfl hl.1 rfl (Nat.le_of_ble_eq_true rfl) dL_law_1332 hcs ?_
    refine lv_aload_n hx hb dL_law_1335 rfl (lv_at hl 2 rfl) ?_
    refine z_arg hx hb hX hbl hbA hS hl (by omega) hv1 dL_law_1336 dL_law_1337 dL_law_1338 dL_law_1339 dL_law_1340 ?_
    refine z_arg hx hb hX hbl hbA hS hl (by omega) hv2 dL_law_1341 dL_law_1342 dL_law_1343 dL_law_1344 dL_law_1345 ?_
    refine z_pL (As := [zi v1, zi v2]) (rest := [zi (-2)]) hC (c_X12_split_out l D y (a 35) (a 36) mrl mrp (a 37) gl gp gx gy (a 38) tn fn (a 39) (a 40) vw vm vn (a 41) (a 42) vc (a 43) (a 44) fs rn (a 45) (a 46) (a 47) (a 48) (a 49) (a 50) (a 51) (a 52) v1 v2 (by omega) (by omega)) (cwV 2 hts gT_X12_split rfl rfl rfl (by decide +kernel) ⟨Nat.le_of_ble_eq_true rfl, Nat.le_of_ble_eq_true rfl⟩) hG hP [109] rfl rfl rfl rfl hl.1 rfl (Nat.le_of_ble_eq_true rfl) dL_law_1346 hcs ?_
    refine z_ieq (a := (-2)) (b2 := (-2)) (tgt := 1525) hx hb (rfl) dL_law_1349 (by decide) ?_
    exact kk _ _ (WI_intro hP hD hS hT hg hF hR h0 h1 hw)
