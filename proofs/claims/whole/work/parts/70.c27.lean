set_option maxHeartbeats 16000000 in
set_option maxRecDepth 100000 in
theorem L_likeliest {p : Program} (l : Launch) {e : Env} {s : State} {m : MethodId} {below : List Frame} {meth : Method} {c : Code} {b L : Nat} {xs : Nat → Int32} {D : va_G} {y : Nat → ClassId} {a : Nat → Nat} {q : Nat → Int → Nat} {rf : Nat → Nat → Option Nat} {Z : State → Prop} {cells slots : Nat} (X : LX p s m c b L xs D y a q rf) (hcs : cells ≤ room_1.cells ∧ slots ≤ room_1.slots) {i : Int} (hi : 0 ≤ i ∧ i + 5 ≤ L) {H : Heap} {locs : List Loc} {ls : Array Slot} (hl : lv_has ls 4 [(0, .ref b), (1, .ref (a 0)), (2, .ref (a 35)), (3, zi i)]) (hW : WI D y a q rf s H locs) (kk : ∀ (H : Heap) (locs : List Loc), WI D y a q rf s H locs → W p l e room_1 s m #[.ref b] below meth c H locs cells slots Z (F0 m 1525 ls [])) : W p l e room_1 s m #[.ref b] below meth c H locs cells slots Z (F0 m 1255 ls []) := by
  obtain ⟨hC, hG, hX, hbl, hL, hfx⟩ := X
  have hC0 := hC
  obtain ⟨hx, hb, hml, hown, hts⟩ := hC0
  have hA : ∀ z : Nat, s.heap.size ≤ z → A9 s z := fun _ h => h
  have hbA : ¬ A9 s b := Nat.not_le.mpr hbl
  refine WI_elim hW (fun tn TB gl gp gx gy GK fn BF FI FJ FW rn rk ra RF RB WA PM PN WY dc DE p1 p2 wl HE BE ck cf OP TM SH us kfn KF KI KJ KW krn krk kra KRF KRB vs jfn JF JI JJ JW jrn jrk jra JRF JRB mrl mrp vw vm vn vc fs MR MG MT MB MC MRe ME MCh MS MF MRd MIk MKm MKb MKc MKf MKr hP hD hS hT hg hF hR h0 h1 hw => ?_)
  have f6 := hF.1
  have g6 := hg.1
  obtain ⟨g61, g62, g63, g64, g65⟩ := g6
  obtain ⟨v1, hv1⟩ : ∃ z, sx xs (i + 1) = z := ⟨_, rfl⟩
  have r1 : rI v1 := hv1 ▸ sx_r xs _
  obtain ⟨v2, hv2⟩ : ∃ z, sx xs (i + 2) = z := ⟨_, rfl⟩
  have r2 : rI v2 := hv2 ▸ sx_r xs _
  refine lv_aload_n hx hb dL_law_1255 rfl (lv_at hl 1 rfl) ?_
  refine z_arg hx hb hX hbl hbA hS hl (by omega) hv1 dL_law_1256 dL_law_1257 dL_law_1258 dL_law_1259 dL_law_1260 ?_
  refine z_arg hx hb hX hbl hbA hS hl (by omega) hv2 dL_law_1261 dL_law_1262 dL_law_1263 dL_law_1264 dL_law_1265 ?_
  by_cases c1 : 0 ≤ v1 ∧ v1 < gl ∧ 0 ≤ v2 ∧ v2 < gp
  ·
    have hE : ∀ k : Int, 0 ≤ k → k < fn → enF (acx gl gp gx gy GK v1 (xLife BF FI FJ FW k)) v2 = enF (acx gl gp gx gy MG v1 (mLife MB MC k)) v2 := fun k z1 z2 => by rw [IFl_life hF k z1 z2, acx_congr hg.2.2]
    refine z_wLR (As := [zi v1, zi v2]) (rest := []) hC (c_X11_likeliest l D y (a 0) (a 1) (a 3) (a 5) (a 7) (a 10) (a 11) (a 16) (a 18) (a 19) (a 6) fn (rf 0) (q 0) (q 1) (q 2) (q 3) BF FI FJ FW (a 4) gl gp gx gy GK (a 17) dc DE v1 v2 hfx.1 (IFl_x hF) (by omega) hg.1 (by omega) (by omega) _) (cwV 2 hts gT_X11_likeliest rfl rfl rfl (by decide +kernel) ⟨Nat.le_of_ble_eq_true rfl, Nat.le_of_ble_eq_true rfl⟩) hG hP hD hS hA [0, 5, 6, 7, 8, 9, 10, 11, 12, 13, 14, 15, 16, 17, 18, 19, 20, 21, 22, 23, 24, 25, 26, 27, 28, 29, 30, 3, 4] [40, 41] rfl rfl (by decide +kernel) (by decide +kernel) rfl rfl rfl hl.1 rfl (Nat.le_of_ble_eq_true rfl) dL_law_1266 hcs (fun _ => rfl) (fun u9 H locs hpx hP hD hS => ?_)
    obtain ⟨dc2x, DE2x⟩ := u9
    have hpx : True := hpx
    have hP : va_P D vwCl (WL y a q rf tn TB gl gp gx gy GK fn BF FI FJ FW rn rk ra RF RB WA PM PN WY dc2x DE2x p1 p2 wl HE BE ck cf OP TM SH us kfn KF KI KJ KW krn krk kra KRF KRB vs jfn JF JI JJ JW jrn jrk jra JRF JRB mrl mrp gl gp gx gy tn fn vw vm vn vc fs rn MR MG MT MB MC MRe ME MCh MS MF MRd MIk MKm MKb MKc MKf MKr) H := hP
    have hD : va_D (A9 s) (WL y a q rf tn TB gl gp gx gy GK fn BF FI FJ FW rn rk ra RF RB WA PM PN WY dc2x DE2x p1 p2 wl HE BE ck cf OP TM SH us kfn KF KI KJ KW krn krk kra KRF KRB vs jfn JF JI JJ JW jrn jrk jra JRF JRB mrl mrp gl gp gx gy tn fn vw vm vn vc fs rn MR MG MT MB MC MRe ME MCh MS MF MRd MIk MKm MKb MKc MKf MKr) := hD
    refine lv_aload_n hx hb dL_law_1269 rfl (lv_at hl 2 rfl) ?_
    refine z_arg hx hb hX hbl hbA hS hl (by omega) hv1 dL_law_1270 dL_law_1271 dL_law_1272 dL_law_1273 dL_law_1274 ?_
    refine z_arg hx hb hX hbl hbA hS hl (by omega) hv2 dL_law_1275 dL_law_1276 dL_law_1277 dL_law_1278 dL_law_1279 ?_
    refine z_wL (As := [zi v1, zi v2]) (rest := [zi (lkV (fun b => enF (acx gl gp gx gy GK v1 (xLife BF FI FJ FW b)) v2) fn)]) hC (c_X12_likeliest l D y (a 35) (a 36) mrl mrp (a 37) gl gp gx gy (a 38) tn fn (a 39) (a 40) vw vm vn (a 41) (a 42) vc (a 43) (a 44) fs rn (a 45) (a 46) (a 47) (a 48) (a 49) (a 50) (a 51) (a 52) MG MB MC ME v1 v2 (IFl_m hF) hg.2.1 (by omega) (by omega) _) (cwV 2 hts gT_X12_likeliest rfl rfl rfl (by decide +kernel) ⟨Nat.le_of_ble_eq_true rfl, Nat.le_of_ble_eq_true rfl⟩) hG hP hD hS hA [] [109, 111, 113, 114, 116] rfl rfl (by decide +kernel) (by decide +kernel) rfl rfl rfl hl.1 rfl (Nat.le_of_ble_eq_true rfl) dL_law_1280 hcs (fun _ => rfl) (fun u9 H locs hpm hP hD hS => ?_)
    obtain ⟨vw2m, vm2m, vn2m, vc2m, ME2m⟩ := u9
    have hpm : True := hpm
    have hP : va_P D vwCl (WL y a q rf tn TB gl gp gx gy GK fn BF FI FJ FW rn rk ra RF RB WA PM PN WY dc2x DE2x p1 p2 wl HE BE ck cf OP TM SH us kfn KF KI KJ KW krn krk kra KRF KRB vs jfn JF JI JJ JW jrn jrk jra JRF JRB mrl mrp gl gp gx gy tn fn vw2m vm2m vn2m vc2m fs rn MR MG MT MB MC MRe ME2m MCh MS MF MRd MIk MKm MKb MKc MKf MKr) H := hP
    have hD : va_D (A9 s) (WL y a q rf tn TB gl gp gx gy GK fn BF FI FJ FW rn rk ra RF RB WA PM PN WY dc2x DE2x p1 p2 wl HE BE ck cf OP TM SH us kfn KF KI KJ KW krn krk kra KRF KRB vs jfn JF JI JJ JW jrn jrk jra JRF JRB mrl mrp gl gp gx gy tn fn vw2m vm2m vn2m vc2m fs rn MR MG MT MB MC MRe ME2m MCh MS MF MRd MIk MKm MKb MKc MKf MKr) := hD
    refine z_ieq (a := (lkV (fun b => enF (acx gl gp gx gy GK v1 (xLife BF FI FJ FW b)) v2) fn)) (b2 := (if sgI (fun b => enF (acx gl gp gx gy MG v1 (mLife MB MC b)) v2) fn = 0 then -3 else bstF (fun b => enF (acx gl gp gx gy MG v1 (mLife MB MC b)) v2) (fn - 1).toNat)) (tgt := 1525) hx hb (lk_eq hE) dL_law_1283 (by decide) ?_
    exact kk _ _ (WI_intro hP hD hS hT hg hF hR h0 h1 hw)
  ·
    refine z_pL (As := [zi v1, zi v2]) (rest := []) hC (c_X11_likeliest_no l D y (a 0) (a 1) (a 3) (a 5) (a 7) (a 10) (a 11) (a 16) (a 18) (a 19) (a 4) gl gp gx gy GK v1 v2 hg.1 (by omega) (by omega) (by omega)) (cwV 2 hts gT_X11_likeliest rfl rfl rfl (by decide +kernel) ⟨Nat.le_of_ble_eq_true rfl, Nat.le_of_ble_eq_true rfl⟩) hG hP [0, 3, 4] rfl rfl rfl rfl hl.1 rfl (Nat.le_of_ble_eq_true rfl) dL_law_1266 hcs ?_
    refine lv_aload_n hx hb dL_law_1269 rfl (lv_at hl 2 rfl) ?_
    refine z_arg hx hb hX hbl hbA hS hl (by omega) hv1 dL_law_1270 dL_law_1271 dL_law_1272 dL_law_1273 dL_law_1274 ?_
    refine z_arg hx hb hX hbl hbA hS hl (by omega) hv2 dL_law_1275 dL_law_1276 dL_law_1277 dL_law_1278 dL_law_1279 ?_
    refine z_pL (As := [zi v1, zi v2]) (rest := [zi (-1)]) hC (c_X12_likeliest_no l D y (a 35) (a 36) mrl mrp (a 37) gl gp gx gy (a 38) tn fn (a 39) (a 40) vw vm vn (a 41) (a 42) vc (a 43) (a 44) fs rn (a 45) (a 46) (a 47) (a 48) (a 49) (a 50) (a 51) (a 52) v1 v2 (by omega) (by omega) (by omega)) (cwV 2 hts gT_X12_likeliest rfl rfl rfl (by decide +kernel) ⟨Nat.le_of_ble_eq_true rfl, Nat.le_of_ble_eq_true rfl⟩) hG hP [109] rfl rfl rfl rfl hl.1 rfl (Nat.le_of_ble_eq_true rfl) dL_law_1280 hcs ?_
    refine z_ieq (a := (-1)) (b2 := (-1)) (tgt := 1525) hx hb (rfl) dL_law_1283 (by decide) ?_
    exact kk _ _ (WI_intro hP hD hS hT hg hF hR h0 h1 hw)
