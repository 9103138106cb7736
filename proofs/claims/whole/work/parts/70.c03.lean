set_option maxHeartbeats 16000000 in
set_option maxRecDepth 100000 in
theorem L_gutter {p : Program} (l : Launch) {e : Env} {s : State} {m : MethodId} {below : List Frame} {meth : Method} {c : Code} {b L : Nat} {xs : Nat → Int32} {D : va_G} {y : Nat → ClassId} {a : Nat → Nat} {q : Nat → Int → Nat} {rf : Nat → Nat → Option Nat} {Z : State → Prop} {cells slots : Nat} (X : LX p s m c b L xs D y a q rf) (hcs : cells ≤ room_1.cells ∧ slots ≤ room_1.slots) {i : Int} (hi : 0 ≤ i ∧ i + 5 ≤ L) {H : Heap} {locs : List Loc} {ls : Array Slot} (hl : lv_has ls 4 [(0, .ref b), (1, .ref (a 0)), (2, .ref (a 35)), (3, zi i)]) (hW : WI D y a q rf s H locs) (kk : ∀ (H : Heap) (locs : List Loc), WI D y a q rf s H locs → W p l e room_1 s m #[.ref b] below meth c H locs cells slots Z (F0 m 1525 ls [])) : W p l e room_1 s m #[.ref b] below meth c H locs cells slots Z (F0 m 281 ls []) := by
  obtain ⟨hC, hG, hX, hbl, hL, hfx⟩ := X
  have hC0 := hC
  obtain ⟨hx, hb, hml, hown, hts⟩ := hC0
  have hA : ∀ z : Nat, s.heap.size ≤ z → A9 s z := fun _ h => h
  have hbA : ¬ A9 s b := Nat.not_le.mpr hbl
  refine WI_elim hW (fun tn TB gl gp gx gy GK fn BF FI FJ FW rn rk ra RF RB WA PM PN WY dc DE p1 p2 wl HE BE ck cf OP TM SH us kfn KF KI KJ KW krn krk kra KRF KRB vs jfn JF JI JJ JW jrn jrk jra JRF JRB mrl mrp vw vm vn vc fs MR MG MT MB MC MRe ME MCh MS MF MRd MIk MKm MKb MKc MKf MKr hP hD hS hT hg hF hR h0 h1 hw => ?_)
  have f6 := hF.1
  have g6 := hg.1
  obtain ⟨g61, g62, g63, g64, g65⟩ := g6
  refine lv_aload_n hx hb dL_law_281 rfl (lv_at hl 1 rfl) ?_
  by_cases c1 : faultV tn TB = -9
  ·
    refine z_wLR (As := []) (rest := []) hC (c_X11_gutter l D y (a 0) (a 1) (a 3) (a 5) (a 7) (a 10) (a 11) (a 16) (a 18) (a 19) (a 4) gl gp gx gy GK (a 2) tn TB hg.1 hT.1 c1 _) (cwV 0 hts gT_X11_gutter rfl rfl rfl (by decide +kernel) ⟨Nat.le_of_ble_eq_true rfl, Nat.le_of_ble_eq_true rfl⟩) hG hP hD hS hA [0, 1, 2] [3, 4] rfl rfl (by decide +kernel) (by decide +kernel) rfl rfl rfl hl.1 rfl (Nat.le_of_ble_eq_true rfl) dL_law_282 hcs (fun _ => rfl) (fun u9 H locs hpx hP hD hS => ?_)
    obtain ⟨gl2x, gp2x, GK2x⟩ := u9
    have hpx : gf TB tn.toNat 0 0 0 GK = (gl2x - 1, gp2x, GK2x) := hpx
    have hP : va_P D vwCl (WL y a q rf tn TB gl2x gp2x gx gy GK2x fn BF FI FJ FW rn rk ra RF RB WA PM PN WY dc DE p1 p2 wl HE BE ck cf OP TM SH us kfn KF KI KJ KW krn krk kra KRF KRB vs jfn JF JI JJ JW jrn jrk jra JRF JRB mrl mrp gl gp gx gy tn fn vw vm vn vc fs rn MR MG MT MB MC MRe ME MCh MS MF MRd MIk MKm MKb MKc MKf MKr) H := hP
    have hD : va_D (A9 s) (WL y a q rf tn TB gl2x gp2x gx gy GK2x fn BF FI FJ FW rn rk ra RF RB WA PM PN WY dc DE p1 p2 wl HE BE ck cf OP TM SH us kfn KF KI KJ KW krn krk kra KRF KRB vs jfn JF JI JJ JW jrn jrk jra JRF JRB mrl mrp gl gp gx gy tn fn vw vm vn vc fs rn MR MG MT MB MC MRe ME MCh MS MF MRd MIk MKm MKb MKc MKf MKr) := hD
    refine lv_aload_n hx hb dL_law_285 rfl (lv_at hl 2 rfl) ?_
    refine z_wL (As := []) (rest := [zi (100 * gl2x + gp2x)]) hC (c_X12_gutter l D y (a 35) (a 36) mrl mrp (a 37) gl gp gx gy (a 38) tn fn (a 39) (a 40) vw vm vn (a 41) (a 42) vc (a 43) (a 44) fs rn (a 45) (a 46) (a 47) (a 48) (a 49) (a 50) (a 51) (a 52) MG MR MT hT.2.1 ((IT_fault hT).symm.trans c1) _) (cwV 0 hts gT_X12_gutter rfl rfl rfl (by decide +kernel) ⟨Nat.le_of_ble_eq_true rfl, Nat.le_of_ble_eq_true rfl⟩) hG hP hD hS hA [] [109, 111, 110, 112] rfl rfl (by decide +kernel) (by decide +kernel) rfl rfl rfl hl.1 rfl (Nat.le_of_ble_eq_true rfl) dL_law_286 hcs (fun _ => rfl) (fun u9 H locs hpm hP hD hS => ?_)
    obtain ⟨gl2m, gp2m, MG2m, MR2m⟩ := u9
    have hpm : gf MT tn.toNat 0 0 0 MR = (gl2m - 1, gp2m, MR2m) ∧ ∀ j : Int, 0 ≤ j → j < 36 → MG2m j = MR2m j := hpm
    have hP : va_P D vwCl (WL y a q rf tn TB gl2x gp2x gx gy GK2x fn BF FI FJ FW rn rk ra RF RB WA PM PN WY dc DE p1 p2 wl HE BE ck cf OP TM SH us kfn KF KI KJ KW krn krk kra KRF KRB vs jfn JF JI JJ JW jrn jrk jra JRF JRB gl2m gp2m gl2m gp2m gx gy tn fn vw vm vn vc fs rn MR2m MG2m MT MB MC MRe ME MCh MS MF MRd MIk MKm MKb MKc MKf MKr) H := hP
    have hD : va_D (A9 s) (WL y a q rf tn TB gl2x gp2x gx gy GK2x fn BF FI FJ FW rn rk ra RF RB WA PM PN WY dc DE p1 p2 wl HE BE ck cf OP TM SH us kfn KF KI KJ KW krn krk kra KRF KRB vs jfn JF JI JJ JW jrn jrk jra JRF JRB gl2m gp2m gl2m gp2m gx gy tn fn vw vm vn vc fs rn MR2m MG2m MT MB MC MRe ME MCh MS MF MRd MIk MKm MKb MKc MKf MKr) := hD
    obtain ⟨z1, z2, hg7⟩ := IG_gutter hg hT c1 hpx hpm.1 hpm.2
    rw [z1, z2] at hP hD
    refine z_ieq (a := (100 * gl2x + gp2x)) (b2 := (100 * gl2m + gp2m)) (tgt := 1525) hx hb (by rw [z1, z2]) dL_law_289 (by decide) ?_
    exact kk _ _ (WI_intro hP hD hS hT hg7 hF hR h0 h1 hw)
  ·
    refine z_pL (As := []) (rest := []) hC (c_X11_gutter_no l D y (a 0) (a 1) (a 3) (a 5) (a 7) (a 10) (a 11) (a 16) (a 18) (a 19) (a 2) tn TB hT.1 c1) (cwV 0 hts gT_X11_gutter rfl rfl rfl (by decide +kernel) ⟨Nat.le_of_ble_eq_true rfl, Nat.le_of_ble_eq_true rfl⟩) hG hP [0, 1, 2] rfl rfl rfl rfl hl.1 rfl (Nat.le_of_ble_eq_true rfl) dL_law_282 hcs ?_
    refine lv_aload_n hx hb dL_law_285 rfl (lv_at hl 2 rfl) ?_
    refine z_wL (As := []) (rest := [zi (-3)]) hC (c_X12_gutter_no l D y (a 35) (a 36) mrl mrp (a 37) gl gp gx gy (a 38) tn fn (a 39) (a 40) vw vm vn (a 41) (a 42) vc (a 43) (a 44) fs rn (a 45) (a 46) (a 47) (a 48) (a 49) (a 50) (a 51) (a 52) MR MT hT.2.1 (fun z => c1 ((IT_fault hT).trans z)) _) (cwV 0 hts gT_X12_gutter rfl rfl rfl (by decide +kernel) ⟨Nat.le_of_ble_eq_true rfl, Nat.le_of_ble_eq_true rfl⟩) hG hP hD hS hA [] [109, 110, 112] rfl rfl (by decide +kernel) (by decide +kernel) rfl rfl rfl hl.1 rfl (Nat.le_of_ble_eq_true rfl) dL_law_286 hcs (fun _ => rfl) (fun u9 H locs hpm hP hD hS => ?_)
    obtain ⟨rl2m, rp2m, MR2m⟩ := u9
    have hpm : True := hpm
    have hP : va_P D vwCl (WL y a q rf tn TB gl gp gx gy GK fn BF FI FJ FW rn rk ra RF RB WA PM PN WY dc DE p1 p2 wl HE BE ck cf OP TM SH us kfn KF KI KJ KW krn krk kra KRF KRB vs jfn JF JI JJ JW jrn jrk jra JRF JRB rl2m rp2m gl gp gx gy tn fn vw vm vn vc fs rn MR2m MG MT MB MC MRe ME MCh MS MF MRd MIk MKm MKb MKc MKf MKr) H := hP
    have hD : va_D (A9 s) (WL y a q rf tn TB gl gp gx gy GK fn BF FI FJ FW rn rk ra RF RB WA PM PN WY dc DE p1 p2 wl HE BE ck cf OP TM SH us kfn KF KI KJ KW krn krk kra KRF KRB vs jfn JF JI JJ JW jrn jrk jra JRF JRB rl2m rp2m gl gp gx gy tn fn vw vm vn vc fs rn MR2m MG MT MB MC MRe ME MCh MS MF MRd MIk MKm MKb MKc MKf MKr) := hD
    refine z_ieq (a := (-3)) (b2 := (-3)) (tgt := 1525) hx hb (rfl) dL_law_289 (by decide) ?_
    exact kk _ _ (WI_intro hP hD hS hT hg hF hR h0 h1 hw)
