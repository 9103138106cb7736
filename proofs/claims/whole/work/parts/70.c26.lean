set_option maxHeartbeats 16000000 in
set_option maxRecDepth 100000 in
theorem L_whose {p : Program} (l : Launch) {e : Env} {s : State} {m : MethodId} {below : List Frame} {meth : Method} {c : Code} {b L : Nat} {xs : Nat → Int32} {D : va_G} {y : Nat → ClassId} {a : Nat → Nat} {q : Nat → Int → Nat} {rf : Nat → Nat → Option Nat} {Z : State → Prop} {cells slots : Nat} (X : LX p s m c b L xs D y a q rf) (hcs : cells ≤ room_1.cells ∧ slots ≤ room_1.slots) {i : Int} (hi : 0 ≤ i ∧ i + 5 ≤ L) {H : Heap} {locs : List Loc} {ls : Array Slot} (hl : lv_has ls 4 [(0, .ref b), (1, .ref (a 0)), (2, .ref (a 35)), (3, zi i)]) (hW : WI D y a q rf s H locs) (kk : ∀ (H : Heap) (locs : List Loc), WI D y a q rf s H locs → W p l e room_1 s m #[.ref b] below meth c H locs cells slots Z (F0 m 1525 ls [])) : W p l e room_1 s m #[.ref b] below meth c H locs cells slots Z (F0 m 1185 ls []) := by
  obtain ⟨hC, hG, hX, hbl, hL, hfx⟩ := X
  have hC0 := hC
  obtain ⟨hx, hb, hml, hown, hts⟩ := hC0
  have hA : ∀ z : Nat, s.heap.size ≤ z → A9 s z := fun _ h => h
  have hbA : ¬ A9 s b := Nat.not_le.mpr hbl
  refine WI_elim hW (fun tn TB gl gp gx gy GK fn BF FI FJ FW rn rk ra RF RB WA PM PN WY dc DE p1 p2 wl HE BE ck cf OP TM SH us kfn KF KI KJ KW krn krk kra KRF KRB vs jfn JF JI JJ JW jrn jrk jra JRF JRB mrl mrp vw vm vn vc fs MR MG MT MB MC MRe ME MCh MS MF MRd MIk MKm MKb MKc MKf MKr hP hD hS hT hg hF hR h0 h1 hw => ?_)
  have f6 := hF.1
  have g6 := hg.1
  obtain ⟨g61, g62, g63, g64, g65⟩ := g6
  obtain ⟨v1, hv1⟩ : ∃ z, sx xs (i + 1) = z := ⟨_, rfl⟩
  have r1 : rI v1 := hv1 ▸ sx_r xs _
  obtain ⟨v2, hv2⟩ : ∃ z, sx xs (i + 2) = z := ⟨_, rfl⟩
  have r2 : rI v2 := hv2 ▸ sx_r xs _
  obtain ⟨v3, hv3⟩ : ∃ z, sx xs (i + 3) = z := ⟨_, rfl⟩
  have r3 : rI v3 := hv3 ▸ sx_r xs _
  obtain ⟨v4, hv4⟩ : ∃ z, sx xs (i + 4) = z := ⟨_, rfl⟩
  have r4 : rI v4 := hv4 ▸ sx_r xs _
  refine lv_aload_n hx hb dL_law_1185 rfl (lv_at hl 1 rfl) ?_
  refine z_arg hx hb hX hbl hbA hS hl (by omega) hv1 dL_law_1186 dL_law_1187 dL_law_1188 dL_law_1189 dL_law_1190 ?_
  refine z_arg hx hb hX hbl hbA hS hl (by omega) hv2 dL_law_1191 dL_law_1192 dL_law_1193 dL_law_1194 dL_law_1195 ?_
  refine z_arg hx hb hX hbl hbA hS hl (by omega) hv3 dL_law_1196 dL_law_1197 dL_law_1198 dL_law_1199 dL_law_1200 ?_
  refine z_arg hx hb hX hbl hbA hS hl (by omega) hv4 dL_law_1201 dL_law_1202 dL_law_1203 dL_law_1204 dL_law_1205 ?_
  refine z_nz hx hb r4 dL_law_1206 dL_law_1209 dL_law_1210 dL_law_1213 ?_
  by_cases c1 : 0 ≤ v3 ∧ v3 < fn
  ·
    by_cases c2 : 0 ≤ v1 ∧ v1 < gl ∧ 0 ≤ v2 ∧ v2 < gp
    ·
      have hE : ∀ k : Int, 0 ≤ k → k < fn → enF (acx gl gp gx gy GK v1 (xLife BF FI FJ FW k)) v2 = enF (acx gl gp gx gy MG v1 (mLife MB MC k)) v2 := fun k z1 z2 => by rw [IFl_life hF k z1 z2, acx_congr hg.2.2]
      refine z_wLR (As := [zi v1, zi v2, zi v3, zi (bI (v4 ≠ 0))]) (rest := []) hC (c_X11_whose l D y (a 0) (a 1) (a 3) (a 5) (a 7) (a 10) (a 11) (a 16) (a 18) (a 19) (a 6) fn (rf 0) (q 0) (q 1) (q 2) (q 3) BF FI FJ FW (a 4) gl gp gx gy GK (a 17) dc DE v1 v2 v3 (bI (v4 ≠ 0)) hfx.1 (IFl_x hF) (by omega) hg.1 (by omega) (by omega) (bI01 _) (by omega) _) (cwV 4 hts gT_X11_whose rfl rfl rfl (by decide +kernel) ⟨Nat.le_of_ble_eq_true rfl, Nat.le_of_ble_eq_true rfl⟩) hG hP hD hS hA [0, 5, 6, 7, 8, 9, 10, 11, 12, 13, 14, 15, 16, 17, 18, 19, 20, 21, 22, 23, 24, 25, 26, 27, 28, 29, 30, 3, 4] [40, 41] rfl rfl (by decide +kernel) (by decide +kernel) rfl rfl rfl hl.1 rfl (Nat.le_of_ble_eq_true rfl) dL_law_1214 hcs (fun _ => rfl) (fun u9 H locs hpx hP hD hS => ?_)
      obtain ⟨dc2x, DE2x⟩ := u9
      have hpx : True := hpx
      have hP : va_P D vwCl (WL y a q rf tn TB gl gp gx gy GK fn BF FI FJ FW rn rk ra RF RB WA PM PN WY dc2x DE2x p1 p2 wl HE BE ck cf OP TM SH us kfn KF KI KJ KW krn krk kra KRF KRB vs jfn JF JI JJ JW jrn jrk jra JRF JRB mrl mrp gl gp gx gy tn fn vw vm vn vc fs rn MR MG MT MB MC MRe ME MCh MS MF MRd MIk MKm MKb MKc MKf MKr) H := hP
      have hD : va_D (A9 s) (WL y a q rf tn TB gl gp gx gy GK fn BF FI FJ FW rn rk ra RF RB WA PM PN WY dc2x DE2x p1 p2 wl HE BE ck cf OP TM SH us kfn KF KI KJ KW krn krk kra KRF KRB vs jfn JF JI JJ JW jrn jrk jra JRF JRB mrl mrp gl gp gx gy tn fn vw vm vn vc fs rn MR MG MT MB MC MRe ME MCh MS MF MRd MIk MKm MKb MKc MKf MKr) := hD
      refine lv_aload_n hx hb dL_law_1217 rfl (lv_at hl 2 rfl) ?_
      refine z_arg hx hb hX hbl hbA hS hl (by omega) hv1 dL_law_1218 dL_law_1219 dL_law_1220 dL_law_1221 dL_law_1222 ?_
      refine z_arg hx hb hX hbl hbA hS hl (by omega) hv2 dL_law_1223 dL_law_1224 dL_law_1225 dL_law_1226 dL_law_1227 ?_
      refine z_arg hx hb hX hbl hbA hS hl (by omega) hv3 dL_law_1228 dL_law_1229 dL_law_1230 dL_law_1231 dL_law_1232 ?_
      refine z_arg hx hb hX hbl hbA hS hl (by omega) hv4 dL_law_1233 dL_law_1234 dL_law_1235 dL_law_1236 dL_law_1237 ?_
      refine z_nz hx hb r4 dL_law_1238 dL_law_1241 dL_law_1242 dL_law_1245 ?_
      refine z_wL (As := [zi v1, zi v2, zi v3, zi (bI (v4 ≠ 0))]) (rest := [zl (if sgI (fun b => enF (acx gl gp gx gy GK v1 (xLife BF FI FJ FW b)) v2) fn = 0 then -3 else tellV (enF (acx gl gp gx gy GK v1 (xLife BF FI FJ FW v3)) v2) (sgI (fun b => enF (acx gl gp gx gy GK v1 (xLife BF FI FJ FW b)) v2) fn) (bI (v4 ≠ 0)))]) hC (c_X12_whose l D y (a 35) (a 36) mrl mrp (a 37) gl gp gx gy (a 38) tn fn (a 39) (a 40) vw vm vn (a 41) (a 42) vc (a 43) (a 44) fs rn (a 45) (a 46) (a 47) (a 48) (a 49) (a 50) (a 51) (a 52) MG MB MC ME v1 v2 v3 (bI (v4 ≠ 0)) (IFl_m hF) (by omega) hg.2.1 (by omega) (by omega) (bI01 _) _) (cwV 4 hts gT_X12_whose rfl rfl rfl (by decide +kernel) ⟨Nat.le_of_ble_eq_true rfl, Nat.le_of_ble_eq_true rfl⟩) hG hP hD hS hA [] [109, 111, 113, 114, 116] rfl rfl (by decide +kernel) (by decide +kernel) rfl rfl rfl hl.1 rfl (Nat.le_of_ble_eq_true rfl) dL_law_1246 hcs (fun _ => rfl) (fun u9 H locs hpm hP hD hS => ?_)
      obtain ⟨vw2m, vm2m, vn2m, vc2m, ME2m⟩ := u9
      have hpm : True := hpm
      have hP : va_P D vwCl (WL y a q rf tn TB gl gp gx gy GK fn BF FI FJ FW rn rk ra RF RB WA PM PN WY dc2x DE2x p1 p2 wl HE BE ck cf OP TM SH us kfn KF KI KJ KW krn krk kra KRF KRB vs jfn JF JI JJ JW jrn jrk jra JRF JRB mrl mrp gl gp gx gy tn fn vw2m vm2m vn2m vc2m fs rn MR MG MT MB MC MRe ME2m MCh MS MF MRd MIk MKm MKb MKc MKf MKr) H := hP
      have hD : va_D (A9 s) (WL y a q rf tn TB gl gp gx gy GK fn BF FI FJ FW rn rk ra RF RB WA PM PN WY dc2x DE2x p1 p2 wl HE BE ck cf OP TM SH us kfn KF KI KJ KW krn krk kra KRF KRB vs jfn JF JI JJ JW jrn jrk jra JRF JRB mrl mrp gl gp gx gy tn fn vw2m vm2m vn2m vc2m fs rn MR MG MT MB MC MRe ME2m MCh MS MF MRd MIk MKm MKb MKc MKf MKr) := hD
      refine z_leq (a := (if sgI (fun b => enF (acx gl gp gx gy GK v1 (xLife BF FI FJ FW b)) v2) fn = 0 then -3 else tellV (enF (acx gl gp gx gy GK v1 (xLife BF FI FJ FW v3)) v2) (sgI (fun b => enF (acx gl gp gx gy GK v1 (xLife BF FI FJ FW b)) v2) fn) (bI (v4 ≠ 0)))) (b2 := (if sgI (fun b => enF (acx gl gp gx gy MG v1 (mLife MB MC b)) v2) fn = 0 then -3 else tellV (enF (acx gl gp gx gy MG v1 (mLife MB MC v3)) v2) (sgI (fun b => enF (acx gl gp gx gy MG v1 (mLife MB MC b)) v2) fn) (bI (v4 ≠ 0)))) (tgt := 1525) hx hb (by rw [hE v3 c1.1 c1.2, sgI_congr hE]) dL_law_1249 dL_law_1250 (by decide) ?_
      exact kk _ _ (WI_intro hP hD hS hT hg hF hR h0 h1 hw)
    ·
      refine z_pL (As := [zi v1, zi v2, zi v3, zi (bI (v4 ≠ 0))]) (rest := []) hC (c_X11_whose_nol l D y (a 0) (a 1) (a 3) (a 5) (a 7) (a 10) (a 11) (a 16) (a 18) (a 19) (a 6) fn (rf 0) (q 0) (a 4) gl gp gx gy GK v1 v2 v3 (bI (v4 ≠ 0)) (by omega) hfx.1 hg.1 (by omega) (by omega) (by omega)) (cwV 4 hts gT_X11_whose rfl rfl rfl (by decide +kernel) ⟨Nat.le_of_ble_eq_true rfl, Nat.le_of_ble_eq_true rfl⟩) hG hP [0, 5, 6, 3, 4] rfl rfl rfl rfl hl.1 rfl (Nat.le_of_ble_eq_true rfl) dL_law_1214 hcs ?_
      refine lv_aload_n hx hb dL_law_1217 rfl (lv_at hl 2 rfl) ?_
      refine z_arg hx hb hX hbl hbA hS hl (by omega) hv1 dL_law_1218 dL_law_1219 dL_law_1220 dL_law_1221 dL_law_1222 ?_
      refine z_arg hx hb hX hbl hbA hS hl (by omega) hv2 dL_law_1223 dL_law_1224 dL_law_1225 dL_law_1226 dL_law_1227 ?_
      refine z_arg hx hb hX hbl hbA hS hl (by omega) hv3 dL_law_1228 dL_law_1229 dL_law_1230 dL_law_1231 dL_law_1232 ?_
      refine z_arg hx hb hX hbl hbA hS hl (by omega) hv4 dL_law_1233 dL_law_1234 dL_law_1235 dL_law_1236 dL_law_1237 ?_
      refine z_nz hx hb r4 dL_law_1238 dL_law_1241 dL_law_1242 dL_law_1245 ?_
      refine z_pL (As := [zi v1, zi v2, zi v3, zi (bI (v4 ≠ 0))]) (rest := [zl (-1)]) hC (c_X12_whose_no l D y (a 35) (a 36) mrl mrp (a 37) gl gp gx gy (a 38) tn fn (a 39) (a 40) vw vm vn (a 41) (a 42) vc (a 43) (a 44) fs rn (a 45) (a 46) (a 47) (a 48) (a 49) (a 50) (a 51) (a 52) v1 v2 v3 (bI (v4 ≠ 0)) (by omega) (by omega) (by omega) (by omega)) (cwV 4 hts gT_X12_whose rfl rfl rfl (by decide +kernel) ⟨Nat.le_of_ble_eq_true rfl, Nat.le_of_ble_eq_true rfl⟩) hG hP [109] rfl rfl rfl rfl hl.1 rfl (Nat.le_of_ble_eq_true rfl) dL_law_1246 hcs ?_
      refine z_leq (a := (-1)) (b2 := (-1)) (tgt := 1525) hx hb (rfl) dL_law_1249 dL_law_1250 (by decide) ?_
      exact kk _ _ (WI_intro hP hD hS hT hg hF hR h0 h1 hw)
  ·
    refine z_pL (As := [zi v1, zi v2, zi v3, zi (bI (v4 ≠ 0))]) (rest := []) hC (c_X11_whose_nob l D y (a 0) (a 1) (a 3) (a 5) (a 7) (a 10) (a 11) (a 16) (a 18) (a 19) (a 6) fn (rf 0) v1 v2 v3 (bI (v4 ≠ 0)) (by omega)) (cwV 4 hts gT_X11_whose rfl rfl rfl (by decide +kernel) ⟨Nat.le_of_ble_eq_true rfl, Nat.le_of_ble_eq_true rfl⟩) hG hP [0, 5, 6] rfl rfl rfl rfl hl.1 rfl (Nat.le_of_ble_eq_true rfl) dL_law_1214 hcs ?_
    refine lv_aload_n hx hb dL_law_1217 rfl (lv_at hl 2 rfl) ?_
    refine z_arg hx hb hX hbl hbA hS hl (by omega) hv1 dL_law_1218 dL_law_1219 dL_law_1220 dL_law_1221 dL_law_1222 ?_
    refine z_arg hx hb hX hbl hbA hS hl (by omega) hv2 dL_law_1223 dL_law_1224 dL_law_1225 dL_law_1226 dL_law_1227 ?_
    refine z_arg hx hb hX hbl hbA hS hl (by omega) hv3 dL_law_1228 dL_law_1229 dL_law_1230 dL_law_1231 dL_law_1232 ?_
    refine z_arg hx hb hX hbl hbA hS hl (by omega) hv4 dL_law_1233 dL_law_1234 dL_law_1235 dL_law_1236 dL_law_1237 ?_
    refine z_nz hx hb r4 dL_law_1238 dL_law_1241 dL_law_1242 dL_law_1245 ?_
    refine z_pL (As := [zi v1, zi v2, zi v3, zi (bI (v4 ≠ 0))]) (rest := [zl (-1)]) hC (c_X12_whose_no l D y (a 35) (a 36) mrl mrp (a 37) gl gp gx gy (a 38) tn fn (a 39) (a 40) vw vm vn (a 41) (a 42) vc (a 43) (a 44) fs rn (a 45) (a 46) (a 47) (a 48) (a 49) (a 50) (a 51) (a 52) v1 v2 v3 (bI (v4 ≠ 0)) (by omega) (by omega) (by omega) (by omega)) (cwV 4 hts gT_X12_whose rfl rfl rfl (by decide +kernel) ⟨Nat.le_of_ble_eq_true rfl, Nat.le_of_ble_eq_true rfl⟩) hG hP [109] rfl rfl rfl rfl hl.1 rfl (Nat.le_of_ble_eq_true rfl) dL_law_1246 hcs ?_
    refine z_leq (a := (-1)) (b2 := (-1)) (tgt := 1525) hx hb (rfl) dL_law_1249 dL_law_1250 (by decide) ?_
    exact kk _ _ (WI_intro hP hD hS hT hg hF hR h0 h1 hw)
