set_option maxHeartbeats 16000000 in
set_option maxRecDepth 100000 in
theorem L_write {p : Program} (l : Launch) {e : Env} {s : State} {m : MethodId} {below : List Frame} {meth : Method} {c : Code} {b L : Nat} {xs : Nat → Int32} {D : va_G} {y : Nat → ClassId} {a : Nat → Nat} {q : Nat → Int → Nat} {rf : Nat → Nat → Option Nat} {Z : State → Prop} {cells slots : Nat} (X : LX p s m c b L xs D y a q rf) (hcs : cells ≤ room_1.cells ∧ slots ≤ room_1.slots) {i : Int} (hi : 0 ≤ i ∧ i + 5 ≤ L) {H : Heap} {locs : List Loc} {ls : Array Slot} (hl : lv_has ls 4 [(0, .ref b), (1, .ref (a 0)), (2, .ref (a 35)), (3, zi i)]) (hW : WI D y a q rf s H locs) (kk : ∀ (H : Heap) (locs : List Loc), WI D y a q rf s H locs → W p l e room_1 s m #[.ref b] below meth c H locs cells slots Z (F0 m 1525 ls [])) : W p l e room_1 s m #[.ref b] below meth c H locs cells slots Z (F0 m 192 ls []) := by
  obtain ⟨hC, hG, hX, hbl, hL, hfx⟩ := X
  have hC0 := hC
  obtain ⟨hx, hb, hml, hown, hts⟩ := hC0
  have hA : ∀ z : Nat, s.heap.size ≤ z → A9 s z := fun _ h => h
  have hbA : ¬ A9 s b := Nat.not_le.mpr hbl
  refine WI_elim hW (fun tn TB gl gp gx gy GK fn BF FI FJ FW rn rk ra RF RB WA PM PN WY dc DE p1 p2 wl HE BE ck cf OP TM SH us kfn KF KI KJ KW krn krk kra KRF KRB vs jfn JF JI JJ JW jrn jrk jra JRF JRB mrl mrp vw vm vn vc fs MR MG MT MB MC MRe ME MCh MS MF MRd MIk MKm MKb MKc MKf MKr hP hD hS hT hg hF hR h0 h1 hw => ?_)
  have f6 := hF.1
  have g6 := hg.1
  obtain ⟨g61, g62, g63, g64, g65⟩ := g6
  obtain ⟨v1, hv1⟩ : ∃ z, sx xs (i + 1) = z := ⟨_, rfl⟩
  have r1 : rI v1 := hv1 ▸ sx_r xs _
  obtain ⟨v2, hv2⟩ : ∃ z, sx xs (i + 2) = z := ⟨_, rfl⟩
  have r2 : rI v2 := hv2 ▸ sx_r xs _
  obtain ⟨v3, hv3⟩ : ∃ z, sx xs (i + 3) = z := ⟨_, rfl⟩
  have r3 : rI v3 := hv3 ▸ sx_r xs _
  obtain ⟨v9, hv9⟩ : ∃ z, (((iI v2).toInt64 <<< ((32 : Int32).toInt64 &&& 63)) ||| ((iI v3).toInt64 &&& 4294967295)).toInt = z := ⟨_, rfl⟩
  have r9 : rL v9 := hv9 ▸ rL_of _
  have kL13 := hts (.constantLong RL 13 4294967295) (List.mem_of_getElem? (i := 1178) (by decide +kernel))
  refine lv_aload_n hx hb dL_law_192 rfl (lv_at hl 1 rfl) ?_
  refine z_arg hx hb hX hbl hbA hS hl (by omega) hv1 dL_law_193 dL_law_194 dL_law_195 dL_law_196 dL_law_197 ?_
  refine z_arg hx hb hX hbl hbA hS hl (by omega) hv2 dL_law_198 dL_law_199 dL_law_200 dL_law_201 dL_law_202 ?_
  refine lv_i2l hx hb dL_law_203 rfl ?_
  refine lv_bipush (v := 32) hx hb dL_law_204 (by decide) ?_
  refine lv_lshl hx hb dL_law_206 rfl ?_
  refine z_arg hx hb hX hbl hbA hS hl (by omega) hv3 dL_law_207 dL_law_208 dL_law_209 dL_law_210 dL_law_211 ?_
  refine lv_i2l hx hb dL_law_212 rfl ?_
  refine lv_ldc2 (v := 4294967295) hx hb hown kL13 dL_law_213 ?_
  refine lv_land hx hb dL_law_216 ?_
  refine lv_lor hx hb dL_law_217 ?_
  refine z_long hv9 ?_
  by_cases c1 : 1 ≤ v1 ∧ v1 ≤ 8
  ·
    have t6 := hT.1.1
    by_cases c2 : tn + v1 ≤ 40
    ·
      refine z_wLR (As := [zi v1, zl v9]) (rest := []) hC (c_X11_write l D y (a 0) (a 1) (a 3) (a 5) (a 7) (a 10) (a 11) (a 16) (a 18) (a 19) (a 2) tn TB v1 v9 (by omega) r9 _) (cwV 2 hts gT_X11_write rfl rfl rfl (by decide +kernel) ⟨Nat.le_of_ble_eq_true rfl, Nat.le_of_ble_eq_true rfl⟩) hG hP hD hS hA [0] [1, 2] rfl rfl (by decide +kernel) (by decide +kernel) rfl rfl rfl hl.1 rfl (Nat.le_of_ble_eq_true rfl) dL_law_218 hcs (fun _ => rfl) (fun u9 H locs hpx hP hD hS => ?_)
      obtain ⟨TB2x, rfl⟩ : ∃ z9, z9 = u9 := ⟨_, rfl⟩
      have hpx : (∀ j : Int, TB2x j = if tn ≤ j ∧ j < tn + v1 then byteV v9 (v1 - 1 - (j - tn)) else TB j) := hpx
      have hP : va_P D vwCl (WL y a q rf (tn + v1) TB2x gl gp gx gy GK fn BF FI FJ FW rn rk ra RF RB WA PM PN WY dc DE p1 p2 wl HE BE ck cf OP TM SH us kfn KF KI KJ KW krn krk kra KRF KRB vs jfn JF JI JJ JW jrn jrk jra JRF JRB mrl mrp gl gp gx gy tn fn vw vm vn vc fs rn MR MG MT MB MC MRe ME MCh MS MF MRd MIk MKm MKb MKc MKf MKr) H := hP
      have hD : va_D (A9 s) (WL y a q rf (tn + v1) TB2x gl gp gx gy GK fn BF FI FJ FW rn rk ra RF RB WA PM PN WY dc DE p1 p2 wl HE BE ck cf OP TM SH us kfn KF KI KJ KW krn krk kra KRF KRB vs jfn JF JI JJ JW jrn jrk jra JRF JRB mrl mrp gl gp gx gy tn fn vw vm vn vc fs rn MR MG MT MB MC MRe ME MCh MS MF MRd MIk MKm MKb MKc MKf MKr) := hD
      refine lv_aload_n hx hb dL_law_221 rfl (lv_at hl 2 rfl) ?_
      refine z_arg hx hb hX hbl hbA hS hl (by omega) hv1 dL_law_222 dL_law_223 dL_law_224 dL_law_225 dL_law_226 ?_
      refine z_arg hx hb hX hbl hbA hS hl (by omega) hv2 dL_law_227 dL_law_228 dL_law_229 dL_law_230 dL_law_231 ?_
      refine lv_i2l hx hb dL_law_232 rfl ?_
      refine lv_bipush (v := 32) hx hb dL_law_233 (by decide) ?_
      refine lv_lshl hx hb dL_law_235 rfl ?_
      refine z_arg hx hb hX hbl hbA hS hl (by omega) hv3 dL_law_236 dL_law_237 dL_law_238 dL_law_239 dL_law_240 ?_
      refine lv_i2l hx hb dL_law_241 rfl ?_
      refine lv_ldc2 (v := 4294967295) hx hb hown kL13 dL_law_242 ?_
      refine lv_land hx hb dL_law_245 ?_
      refine lv_lor hx hb dL_law_246 ?_
      refine z_long hv9 ?_
      refine z_wL (As := [zi v1, zl v9]) (rest := [zi (tn + v1)]) hC (c_X12_write l D y (a 35) (a 36) mrl mrp (a 37) gl gp gx gy (a 38) tn fn (a 39) (a 40) vw vm vn (a 41) (a 42) vc (a 43) (a 44) fs rn (a 45) (a 46) (a 47) (a 48) (a 49) (a 50) (a 51) (a 52) MT v1 v9 (by omega) r9 _) (cwV 2 hts gT_X12_write rfl rfl rfl (by decide +kernel) ⟨Nat.le_of_ble_eq_true rfl, Nat.le_of_ble_eq_true rfl⟩) hG hP hD hS hA [] [109, 112] rfl rfl (by decide +kernel) (by decide +kernel) rfl rfl rfl hl.1 rfl (Nat.le_of_ble_eq_true rfl) dL_law_247 hcs (fun _ => rfl) (fun u9 H locs hpm hP hD hS => ?_)
      obtain ⟨MT2m, rfl⟩ : ∃ z9, z9 = u9 := ⟨_, rfl⟩
      have hpm : (∀ j : Int, MT2m j = if tn ≤ j ∧ j < tn + v1 then byteV v9 (v1 - 1 - (j - tn)) else MT j) := hpm
      have hP : va_P D vwCl (WL y a q rf (tn + v1) TB2x gl gp gx gy GK fn BF FI FJ FW rn rk ra RF RB WA PM PN WY dc DE p1 p2 wl HE BE ck cf OP TM SH us kfn KF KI KJ KW krn krk kra KRF KRB vs jfn JF JI JJ JW jrn jrk jra JRF JRB mrl mrp gl gp gx gy (tn + v1) fn vw vm vn vc fs rn MR MG MT2m MB MC MRe ME MCh MS MF MRd MIk MKm MKb MKc MKf MKr) H := hP
      have hD : va_D (A9 s) (WL y a q rf (tn + v1) TB2x gl gp gx gy GK fn BF FI FJ FW rn rk ra RF RB WA PM PN WY dc DE p1 p2 wl HE BE ck cf OP TM SH us kfn KF KI KJ KW krn krk kra KRF KRB vs jfn JF JI JJ JW jrn jrk jra JRF JRB mrl mrp gl gp gx gy (tn + v1) fn vw vm vn vc fs rn MR MG MT2m MB MC MRe ME MCh MS MF MRd MIk MKm MKb MKc MKf MKr) := hD
      refine z_ieq (a := (tn + v1)) (b2 := (tn + v1)) (tgt := 1525) hx hb (rfl) dL_law_250 (by decide) ?_
      exact kk _ _ (WI_intro hP hD hS (IT_write (vq := v9) hT (by omega) hpx hpm) hg hF hR h0 h1 hw)
    ·
      refine z_pL (As := [zi v1, zl v9]) (rest := []) hC (c_X11_write_full l D y (a 0) (a 1) (a 3) (a 5) (a 7) (a 10) (a 11) (a 16) (a 18) (a 19) (a 2) tn TB v1 v9 (by omega)) (cwV 2 hts gT_X11_write rfl rfl rfl (by decide +kernel) ⟨Nat.le_of_ble_eq_true rfl, Nat.le_of_ble_eq_true rfl⟩) hG hP [0, 1, 2] rfl rfl rfl rfl hl.1 rfl (Nat.le_of_ble_eq_true rfl) dL_law_218 hcs ?_
      refine lv_aload_n hx hb dL_law_221 rfl (lv_at hl 2 rfl) ?_
      refine z_arg hx hb hX hbl hbA hS hl (by omega) hv1 dL_law_222 dL_law_223 dL_law_224 dL_law_225 dL_law_226 ?_
      refine z_arg hx hb hX hbl hbA hS hl (by omega) hv2 dL_law_227 dL_law_228 dL_law_229 dL_law_230 dL_law_231 ?_
      refine lv_i2l hx hb dL_law_232 rfl ?_
      refine lv_bipush (v := 32) hx hb dL_law_233 (by decide) ?_
      refine lv_lshl hx hb dL_law_235 rfl ?_
      refine z_arg hx hb hX hbl hbA hS hl (by omega) hv3 dL_law_236 dL_law_237 dL_law_238 dL_law_239 dL_law_240 ?_
      refine lv_i2l hx hb dL_law_241 rfl ?_
      refine lv_ldc2 (v := 4294967295) hx hb hown kL13 dL_law_242 ?_
      refine lv_land hx hb dL_law_245 ?_
      refine lv_lor hx hb dL_law_246 ?_
      refine z_long hv9 ?_
      refine z_pL (As := [zi v1, zl v9]) (rest := [zi (-4)]) hC (c_X12_write_full l D y (a 35) (a 36) mrl mrp (a 37) gl gp gx gy (a 38) tn fn (a 39) (a 40) vw vm vn (a 41) (a 42) vc (a 43) (a 44) fs rn (a 45) (a 46) (a 47) (a 48) (a 49) (a 50) (a 51) (a 52) v1 v9 (by omega)) (cwV 2 hts gT_X12_write rfl rfl rfl (by decide +kernel) ⟨Nat.le_of_ble_eq_true rfl, Nat.le_of_ble_eq_true rfl⟩) hG hP [109] rfl rfl rfl rfl hl.1 rfl (Nat.le_of_ble_eq_true rfl) dL_law_247 hcs ?_
      refine z_ieq (a := (-4)) (b2 := (-4)) (tgt := 1525) hx hb (rfl) dL_law_250 (by decide) ?_
      exact kk _ _ (WI_intro hP hD hS hT hg hF hR h0 h1 hw)
  ·
    refine z_pL (As := [zi v1, zl v9]) (rest := []) hC (c_X11_write_no l D y (a 0) (a 1) (a 3) (a 5) (a 7) (a 10) (a 11) (a 16) (a 18) (a 19) v1 v9 (by omega) (by omega)) (cwV 2 hts gT_X11_write rfl rfl rfl (by decide +kernel) ⟨Nat.le_of_ble_eq_true rfl, Nat.le_of_ble_eq_true rfl⟩) hG hP [0] rfl rfl rfl rfl hl.1 rfl (Nat.le_of_ble_eq_true rfl) dL_law_218 hcs ?_
    refine lv_aload_n hx hb dL_law_221 rfl (lv_at hl 2 rfl) ?_
    refine z_arg hx hb hX hbl hbA hS hl (by omega) hv1 dL_law_222 dL_law_223 dL_law_224 dL_law_225 dL_law_226 ?_
    refine z_arg hx hb hX hbl hbA hS hl (by omega) hv2 dL_law_227 dL_law_228 dL_law_229 dL_law_230 dL_law_231 ?_
    refine lv_i2l hx hb dL_law_232 rfl ?_
    refine lv_bipush (v := 32) hx hb dL_law_233 (by decide) ?_
    refine lv_lshl hx hb dL_law_235 rfl ?_
    refine z_arg hx hb hX hbl hbA hS hl (by omega) hv3 dL_law_236 dL_law_237 dL_law_238 dL_law_239 dL_law_240 ?_
    refine lv_i2l hx hb dL_law_241 rfl ?_
    refine lv_ldc2 (v := 4294967295) hx hb hown kL13 dL_law_242 ?_
    refine lv_land hx hb dL_law_245 ?_
    refine lv_lor hx hb dL_law_246 ?_
    refine z_long hv9 ?_
    refine z_pL (As := [zi v1, zl v9]) (rest := [zi (-2)]) hC (c_X12_write_no l D y (a 35) (a 36) mrl mrp (a 37) gl gp gx gy (a 38) tn fn (a 39) (a 40) vw vm vn (a 41) (a 42) vc (a 43) (a 44) fs rn (a 45) (a 46) (a 47) (a 48) (a 49) (a 50) (a 51) (a 52) v1 v9 (by omega) (by omega)) (cwV 2 hts gT_X12_write rfl rfl rfl (by decide +kernel) ⟨Nat.le_of_ble_eq_true rfl, Nat.le_of_ble_eq_true rfl⟩) hG hP [109] rfl rfl rfl rfl hl.1 rfl (Nat.le_of_ble_eq_true rfl) dL_law_247 hcs ?_
    refine z_ieq (a := (-2)) (b2 := (-2)) (tgt := 1525) hx hb (rfl) dL_law_250 (by decide) ?_
    exact kk _ _ (WI_intro hP hD hS hT hg hF hR h0 h1 hw)
