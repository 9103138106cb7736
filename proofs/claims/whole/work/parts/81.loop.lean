theorem WI_S {D : va_G} {y : Nat → ClassId} {a : Nat → Nat} {q : Nat → Int → Nat} {rf : Nat → Nat → Option Nat} {s : State} {H : Heap} {locs : List Loc} (h : WI D y a q rf s H locs) : va_S (A9 s) s.heap H locs := WI_elim h (fun _ _ _ _ _ _ _ _ _ _ _ _ _ _ _ _ _ _ _ _ _ _ _ _ _ _ _ _ _ _ _ _ _ _ _ _ _ _ _ _ _ _ _ _ _ _ _ _ _ _ _ _ _ _ _ _ _ _ _ _ _ _ _ _ _ _ _ _ _ _ _ _ _ _ _ _ _ _ _ _ _ hS _ _ _ _ _ _ _ => hS)
set_option maxHeartbeats 8000000 in
set_option maxRecDepth 20000 in
theorem law_loop {p : Program} (l : Launch) {e : Env} {s : State} {m : MethodId} {below : List Frame} {meth : Method} {c : Code} {b L : Nat} {xs : Nat → Int32} {D : va_G} {y : Nat → ClassId} {a : Nat → Nat} {q : Nat → Int → Nat} {rf : Nat → Nat → Option Nat} {Z : State → Prop} {cells slots : Nat} (X : LX p s m c b L xs D y a q rf) (hcs : cells ≤ room_1.cells ∧ slots ≤ room_1.slots)
    (hend : ∀ (H : Heap) (locs : List Loc) (ls : Array Slot), WI D y a q rf s H locs → W p l e room_1 s m #[.ref b] below meth c H locs cells slots Z (F0 m 1531 ls [])) :
    ∀ (n : Nat) (i : Int), 0 ≤ i → i ≤ (L : Int) + 5 → (L : Int) + 5 - i < n → ∀ (H : Heap) (locs : List Loc) (ls : Array Slot), lv_has ls 4 [(0, .ref b), (1, .ref (a 0)), (2, .ref (a 35)), (3, zi i)] → WI D y a q rf s H locs → W p l e room_1 s m #[.ref b] below meth c H locs cells slots Z (F0 m 18 ls []) := by
  intro n
  induction n with
  | zero =>
    intro i h0 h1 h2
    omega
  | succ n ih =>
    intro i h0 h1 h2 H locs ls hl hW
    have X0 := X
    obtain ⟨hC, hG, hX, hbl, hL, hfx⟩ := X0
    obtain ⟨hx, hb, hml, hown, hts⟩ := id hC
    have hbA : ¬ A9 s b := Nat.not_le.mpr hbl
    have hS := WI_S hW
    refine lv_iload_n hx hb dL_law_18 rfl (lv_at hl 3 rfl) ?_
    refine lv_aload_n hx hb dL_law_19 rfl (lv_at hl 0 rfl) ?_
    refine va_slen hx hb hX hbl hbA hS dL_law_20 ?_
    have eL : Value.int (Int32.ofNat L) = zi (L : Int) := congrArg Value.int (iI_nat L).symm
    rw [eL]
    refine z_iconst hx hb dL_law_21 ?_
    refine z_isub hx hb dL_law_22 ?_
    refine z_icmp_gt (tgt := 1531) hx hb (by omega) (by omega) dL_law_23 (by decide) (fun h => hend H locs ls hW) (fun h => ?_)
    refine lv_aload_n hx hb dL_law_26 rfl (lv_at hl 0 rfl) ?_
    refine lv_iload_n hx hb dL_law_27 rfl (lv_at hl 3 rfl) ?_
    refine va_sld hx hb hX hbl hbA hS (iI_in (by omega) (by omega)) dL_law_28 ?_
    refine lv_bipush (v := 63) hx hb dL_law_29 (by decide) ?_
    refine lv_iand hx hb dL_law_31 ?_
    generalize (xs (iI i).toNatClampNeg &&& 63) = w
    have kk : ∀ (H : Heap) (locs : List Loc), WI D y a q rf s H locs → W p l e room_1 s m #[.ref b] below meth c H locs cells slots Z (F0 m 1525 ls []) := by
      intro H locs hW
      refine z_iinc (k := 3) (lv' := [(3, zi (i + 5)), (0, .ref b), (1, .ref (a 0)), (2, .ref (a 35))]) hx hb dL_law_1525 hl rfl (by decide) rfl (fun ls hl => ?_)
      refine lv_goto (tgt := 18) hx hb dL_law_1528 (by decide) ?_
      exact ih (i + 5) (by omega) (by omega) (by omega) H locs ls (lv_sub hl [1, 2, 3, 0] rfl) hW
    have hi : 0 ≤ i ∧ i + 5 ≤ L := by omega
    by_cases c0 : w.toInt = 0
    · refine lv_tableIn (off := 160) (tgt := 192) hx hb dL_law_32 (by rw [c0]; decide) (by rw [c0]; decide) (by rw [c0]; rfl) (by decide) ?_
      exact L_write l X hcs hi hl hW kk
    by_cases c1 : w.toInt = 1
    · refine lv_tableIn (off := 223) (tgt := 255) hx hb dL_law_32 (by rw [c1]; decide) (by rw [c1]; decide) (by rw [c1]; rfl) (by decide) ?_
      exact L_wipe l X hcs hi hl hW kk
    by_cases c2 : w.toInt = 2
    · refine lv_tableIn (off := 236) (tgt := 268) hx hb dL_law_32 (by rw [c2]; decide) (by rw [c2]; decide) (by rw [c2]; rfl) (by decide) ?_
      exact L_fault l X hcs hi hl hW kk
    by_cases c3 : w.toInt = 3
    · refine lv_tableIn (off := 249) (tgt := 281) hx hb dL_law_32 (by rw [c3]; decide) (by rw [c3]; decide) (by rw [c3]; rfl) (by decide) ?_
      exact L_gutter l X hcs hi hl hW kk
    by_cases c4 : w.toInt = 4
    · refine lv_tableIn (off := 262) (tgt := 294) hx hb dL_law_32 (by rw [c4]; decide) (by rw [c4]; decide) (by rw [c4]; rfl) (by decide) ?_
      exact L_place l X hcs hi hl hW kk
    by_cases c5 : w.toInt = 5
    · refine lv_tableIn (off := 295) (tgt := 327) hx hb dL_law_32 (by rw [c5]; decide) (by rw [c5]; decide) (by rw [c5]; rfl) (by decide) ?_
      exact L_mishap l X hcs hi hl hW kk
    by_cases c6 : w.toInt = 6
    · refine lv_tableIn (off := 328) (tgt := 360) hx hb dL_law_32 (by rw [c6]; decide) (by rw [c6]; decide) (by rw [c6]; rfl) (by decide) ?_
      exact L_boat l X hcs hi hl hW kk
    by_cases c7 : w.toInt = 7
    · refine lv_tableIn (off := 381) (tgt := 413) hx hb dL_law_32 (by rw [c7]; decide) (by rw [c7]; decide) (by rw [c7]; rfl) (by decide) ?_
      exact L_wax l X hcs hi hl hW kk
    by_cases c8 : w.toInt = 8
    · refine lv_tableIn (off := 424) (tgt := 456) hx hb dL_law_32 (by rw [c8]; decide) (by rw [c8]; decide) (by rw [c8]; rfl) (by decide) ?_
      exact L_coin l X hcs hi hl hW kk
    by_cases c9 : w.toInt = 9
    · refine lv_tableIn (off := 477) (tgt := 509) hx hb dL_law_32 (by rw [c9]; decide) (by rw [c9]; decide) (by rw [c9]; rfl) (by decide) ?_
      exact L_empty l X hcs hi hl hW kk
    by_cases c10 : w.toInt = 10
    · refine lv_tableIn (off := 500) (tgt := 532) hx hb dL_law_32 (by rw [c10]; decide) (by rw [c10]; decide) (by rw [c10]; rfl) (by decide) ?_
      exact L_about l X hcs hi hl hW kk
    by_cases c11 : w.toInt = 11
    · refine lv_tableIn (off := 533) (tgt := 565) hx hb dL_law_32 (by rw [c11]; decide) (by rw [c11]; decide) (by rw [c11]; rfl) (by decide) ?_
      exact L_deep l X hcs hi hl hW kk
    by_cases c12 : w.toInt = 12
    · refine lv_tableIn (off := 593) (tgt := 625) hx hb dL_law_32 (by rw [c12]; decide) (by rw [c12]; decide) (by rw [c12]; rfl) (by decide) ?_
      exact L_corner l X hcs hi hl hW kk
    by_cases c13 : w.toInt = 13
    · refine lv_tableIn (off := 653) (tgt := 685) hx hb dL_law_32 (by rw [c13]; decide) (by rw [c13]; decide) (by rw [c13]; rfl) (by decide) ?_
      exact L_under l X hcs hi hl hW kk
    by_cases c14 : w.toInt = 14
    · refine lv_tableIn (off := 686) (tgt := 718) hx hb dL_law_32 (by rw [c14]; decide) (by rw [c14]; decide) (by rw [c14]; rfl) (by decide) ?_
      exact L_life l X hcs hi hl hW kk
    by_cases c15 : w.toInt = 15
    · refine lv_tableIn (off := 709) (tgt := 741) hx hb dL_law_32 (by rw [c15]; decide) (by rw [c15]; decide) (by rw [c15]; rfl) (by decide) ?_
      exact L_bears l X hcs hi hl hW kk
    by_cases c16 : w.toInt = 16
    · refine lv_tableIn (off := 752) (tgt := 784) hx hb dL_law_32 (by rw [c16]; decide) (by rw [c16]; decide) (by rw [c16]; rfl) (by decide) ?_
      exact L_rim l X hcs hi hl hW kk
    by_cases c17 : w.toInt = 17
    · refine lv_tableIn (off := 785) (tgt := 817) hx hb dL_law_32 (by rw [c17]; decide) (by rw [c17]; decide) (by rw [c17]; rfl) (by decide) ?_
      exact L_orders l X hcs hi hl hW kk
    by_cases c18 : w.toInt = 18
    · refine lv_tableIn (off := 808) (tgt := 840) hx hb dL_law_32 (by rw [c18]; decide) (by rw [c18]; decide) (by rw [c18]; rfl) (by decide) ?_
      exact L_order l X hcs hi hl hW kk
    by_cases c19 : w.toInt = 19
    · refine lv_tableIn (off := 841) (tgt := 873) hx hb dL_law_32 (by rw [c19]; decide) (by rw [c19]; decide) (by rw [c19]; rfl) (by decide) ?_
      exact L_needs l X hcs hi hl hW kk
    by_cases c20 : w.toInt = 20
    · refine lv_tableIn (off := 874) (tgt := 906) hx hb dL_law_32 (by rw [c20]; decide) (by rw [c20]; decide) (by rw [c20]; rfl) (by decide) ?_
      exact L_time l X hcs hi hl hW kk
    by_cases c21 : w.toInt = 21
    · refine lv_tableIn (off := 907) (tgt := 939) hx hb dL_law_32 (by rw [c21]; decide) (by rw [c21]; decide) (by rw [c21]; rfl) (by decide) ?_
      exact L_far l X hcs hi hl hW kk
    by_cases c22 : w.toInt = 22
    · refine lv_tableIn (off := 967) (tgt := 999) hx hb dL_law_32 (by rw [c22]; decide) (by rw [c22]; decide) (by rw [c22]; rfl) (by decide) ?_
      exact L_ended l X hcs hi hl hW kk
    by_cases c23 : w.toInt = 23
    · refine lv_tableIn (off := 1037) (tgt := 1069) hx hb dL_law_32 (by rw [c23]; decide) (by rw [c23]; decide) (by rw [c23]; rfl) (by decide) ?_
      exact L_home l X hcs hi hl hW kk
    by_cases c24 : w.toInt = 24
    · refine lv_tableIn (off := 1097) (tgt := 1129) hx hb dL_law_32 (by rw [c24]; decide) (by rw [c24]; decide) (by rw [c24]; rfl) (by decide) ?_
      exact L_first l X hcs hi hl hW kk
    by_cases c25 : w.toInt = 25
    · refine lv_tableIn (off := 1130) (tgt := 1162) hx hb dL_law_32 (by rw [c25]; decide) (by rw [c25]; decide) (by rw [c25]; rfl) (by decide) ?_
      exact L_best l X hcs hi hl hW kk
    by_cases c26 : w.toInt = 26
    · refine lv_tableIn (off := 1153) (tgt := 1185) hx hb dL_law_32 (by rw [c26]; decide) (by rw [c26]; decide) (by rw [c26]; rfl) (by decide) ?_
      exact L_whose l X hcs hi hl hW kk
    by_cases c27 : w.toInt = 27
    · refine lv_tableIn (off := 1223) (tgt := 1255) hx hb dL_law_32 (by rw [c27]; decide) (by rw [c27]; decide) (by rw [c27]; rfl) (by decide) ?_
      exact L_likeliest l X hcs hi hl hW kk
    by_cases c28 : w.toInt = 28
    · refine lv_tableIn (off := 1256) (tgt := 1288) hx hb dL_law_32 (by rw [c28]; decide) (by rw [c28]; decide) (by rw [c28]; rfl) (by decide) ?_
      exact L_rests l X hcs hi hl hW kk
    by_cases c29 : w.toInt = 29
    · refine lv_tableIn (off := 1289) (tgt := 1321) hx hb dL_law_32 (by rw [c29]; decide) (by rw [c29]; decide) (by rw [c29]; rfl) (by decide) ?_
      exact L_split l X hcs hi hl hW kk
    by_cases c30 : w.toInt = 30
    · refine lv_tableIn (off := 1322) (tgt := 1354) hx hb dL_law_32 (by rw [c30]; decide) (by rw [c30]; decide) (by rw [c30]; rfl) (by decide) ?_
      exact L_run l X hcs hi hl hW kk
    by_cases c31 : w.toInt = 31
    · refine lv_tableIn (off := 1371) (tgt := 1403) hx hb dL_law_32 (by rw [c31]; decide) (by rw [c31]; decide) (by rw [c31]; rfl) (by decide) ?_
      exact L_unrun l X hcs hi hl hW kk
    by_cases c32 : w.toInt = 32
    · refine lv_tableIn (off := 1384) (tgt := 1416) hx hb dL_law_32 (by rw [c32]; decide) (by rw [c32]; decide) (by rw [c32]; rfl) (by decide) ?_
      exact L_red l X hcs hi hl hW kk
    by_cases c33 : w.toInt = 33
    · refine lv_tableIn (off := 1424) (tgt := 1456) hx hb dL_law_32 (by rw [c33]; decide) (by rw [c33]; decide) (by rw [c33]; rfl) (by decide) ?_
      exact L_keep l X hcs hi hl hW kk
    by_cases c34 : w.toInt = 34
    · refine lv_tableIn (off := 1447) (tgt := 1479) hx hb dL_law_32 (by rw [c34]; decide) (by rw [c34]; decide) (by rw [c34]; rfl) (by decide) ?_
      exact L_again l X hcs hi hl hW kk
    by_cases c35 : w.toInt = 35
    · refine lv_tableIn (off := 1470) (tgt := 1502) hx hb dL_law_32 (by rw [c35]; decide) (by rw [c35]; decide) (by rw [c35]; rfl) (by decide) ?_
      exact L_count l X hcs hi hl hW kk
    refine lv_tableOut (tgt := 1525) hx hb dL_law_32 (by omega) (by decide) ?_
    exact kk H locs hW
